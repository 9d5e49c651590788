theorem w_0 : (Jvm.Cond.initialized "NameScopeLaw") ∈ gTB := gm 33 (by decide +kernel) rfl
theorem w_1 : (Jvm.Cond.initialized "NameScope") ∈ gTB := gm 34 (by decide +kernel) rfl
theorem w_2 : (Jvm.Cond.initialized "NameScope$Globals") ∈ gTB := gm 35 (by decide +kernel) rfl
theorem w_3 : (Jvm.Cond.initialized "NameScope$Row") ∈ gTB := gm 36 (by decide +kernel) rfl
theorem w_4 : (Jvm.Cond.initialized "NameScope$Scopes") ∈ gTB := gm 37 (by decide +kernel) rfl
theorem w_5 : (Jvm.Cond.initialized "NameScope$Pen") ∈ gTB := gm 38 (by decide +kernel) rfl
theorem w_6 : (Jvm.Cond.initialized "NameScopeModel") ∈ gTB := gm 39 (by decide +kernel) rfl
theorem w_7 : (Jvm.Cond.initialized "NameScope$Names") ∈ gTB := gm 40 (by decide +kernel) rfl
theorem w_8 : (Jvm.Cond.initialized "java/lang/Math") ∈ gTB := gm 41 (by decide +kernel) rfl
theorem w_9 : (Jvm.Cond.initialized "java/util/Arrays") ∈ gTB := gm 42 (by decide +kernel) rfl
theorem w_10 : (Jvm.Cond.initialized "java/lang/System") ∈ gTB := gm 43 (by decide +kernel) rfl
theorem w_11 : (Jvm.Cond.classLink "NameScopeLaw" (7 : Nat) "NameScope") ∈ gTB := gm 44 (by decide +kernel) rfl
theorem w_12 : (Jvm.Cond.instantiable "NameScope" (8 : Nat)) ∈ gTB := gm 45 (by decide +kernel) rfl
theorem w_13 : (Jvm.Cond.methodLink "NameScopeLaw" (9 : Nat) ({ cls := "NameScope", name := "<init>", desc := "()V" } : Jvm.MethodName)) ∈ gTB := gm 46 (by decide +kernel) rfl
theorem w_14 : (Jvm.Cond.instanceMethod ({ cls := "NameScope", name := "<init>", desc := "()V" } : Jvm.MethodName)) ∈ gTB := gm 47 (by decide +kernel) rfl
set_option maxRecDepth 100000 in
theorem w_15 : (Jvm.Cond.code ({ cls := "NameScope", name := "<init>", desc := "()V" } : Jvm.MethodName) prog_1_method_1_code (1 : Nat) (Option.none : Option Jvm.ClassFile.FieldType)) ∈ gTB := gm 48 rfl rfl
theorem w_16 : (Jvm.Cond.methodLink "NameScope" (1 : Nat) ({ cls := "java/lang/Object", name := "<init>", desc := "()V" } : Jvm.MethodName)) ∈ gTB := gm 49 (by decide +kernel) rfl
theorem w_17 : (Jvm.Cond.instanceMethod ({ cls := "java/lang/Object", name := "<init>", desc := "()V" } : Jvm.MethodName)) ∈ gTB := gm 50 (by decide +kernel) rfl
set_option maxRecDepth 100000 in
theorem w_18 : (Jvm.Cond.code ({ cls := "java/lang/Object", name := "<init>", desc := "()V" } : Jvm.MethodName) object_method_1_code (1 : Nat) (Option.none : Option Jvm.ClassFile.FieldType)) ∈ gTB := gm 51 rfl rfl
theorem w_19 : (Jvm.Cond.classLink "NameScope" (7 : Nat) "NameScope$Globals") ∈ gTB := gm 52 (by decide +kernel) rfl
theorem w_20 : (Jvm.Cond.instantiable "NameScope$Globals" (2 : Nat)) ∈ gTB := gm 53 (by decide +kernel) rfl
theorem w_22 : (Jvm.Cond.instanceMethod ({ cls := "NameScope$Globals", name := "<init>", desc := "()V" } : Jvm.MethodName)) ∈ gTB := gm 55 (by decide +kernel) rfl
set_option maxRecDepth 100000 in
theorem w_23 : (Jvm.Cond.code ({ cls := "NameScope$Globals", name := "<init>", desc := "()V" } : Jvm.MethodName) prog_2_method_1_code (1 : Nat) (Option.none : Option Jvm.ClassFile.FieldType)) ∈ gTB := gm 56 rfl rfl
theorem w_24 : (Jvm.Cond.methodLink "NameScope$Globals" (3 : Nat) ({ cls := "java/lang/Object", name := "<init>", desc := "()V" } : Jvm.MethodName)) ∈ gTB := gm 57 (by decide +kernel) rfl
theorem w_25 : (Jvm.Cond.fieldLink "NameScope$Globals" (9 : Nat) "NameScope$Globals" "names" "[J") ∈ gTB := gm 58 (by decide +kernel) rfl
theorem w_26 : (Jvm.Cond.fieldLink "NameScope$Globals" (15 : Nat) "NameScope$Globals" "count" "I") ∈ gTB := gm 59 (by decide +kernel) rfl
theorem w_32 : (Jvm.Cond.arrayClass Jvm.ClassFile.FieldType.long) ∈ gTB := gm 65 (by decide +kernel) rfl
theorem w_33 : (Jvm.Cond.classLink "NameScope" (16 : Nat) "NameScope$Row") ∈ gTB := gm 66 (by decide +kernel) rfl
theorem w_34 : (Jvm.Cond.instantiable "NameScope$Row" (4 : Nat)) ∈ gTB := gm 67 (by decide +kernel) rfl
theorem w_36 : (Jvm.Cond.instanceMethod ({ cls := "NameScope$Row", name := "<init>", desc := "()V" } : Jvm.MethodName)) ∈ gTB := gm 69 (by decide +kernel) rfl
set_option maxRecDepth 100000 in
theorem w_37 : (Jvm.Cond.code ({ cls := "NameScope$Row", name := "<init>", desc := "()V" } : Jvm.MethodName) prog_5_method_1_code (1 : Nat) (Option.none : Option Jvm.ClassFile.FieldType)) ∈ gTB := gm 70 rfl rfl
theorem w_38 : (Jvm.Cond.methodLink "NameScope$Row" (3 : Nat) ({ cls := "java/lang/Object", name := "<init>", desc := "()V" } : Jvm.MethodName)) ∈ gTB := gm 71 (by decide +kernel) rfl
theorem w_39 : (Jvm.Cond.fieldLink "NameScope$Row" (9 : Nat) "NameScope$Row" "kinds" "[I") ∈ gTB := gm 72 (by decide +kernel) rfl
theorem w_40 : (Jvm.Cond.fieldLink "NameScope$Row" (15 : Nat) "NameScope$Row" "besides" "[J") ∈ gTB := gm 73 (by decide +kernel) rfl
theorem w_41 : (Jvm.Cond.fieldLink "NameScope$Row" (19 : Nat) "NameScope$Row" "sizes" "[I") ∈ gTB := gm 74 (by decide +kernel) rfl
theorem w_42 : (Jvm.Cond.fieldLink "NameScope$Row" (22 : Nat) "NameScope$Row" "count" "I") ∈ gTB := gm 75 (by decide +kernel) rfl
theorem w_52 : (Jvm.Cond.arrayClass Jvm.ClassFile.FieldType.int) ∈ gTB := gm 85 (by decide +kernel) rfl
theorem w_53 : (Jvm.Cond.classLink "NameScope" (29 : Nat) "NameScope$Scopes") ∈ gTB := gm 86 (by decide +kernel) rfl
theorem w_54 : (Jvm.Cond.instantiable "NameScope$Scopes" (4 : Nat)) ∈ gTB := gm 87 (by decide +kernel) rfl
theorem w_56 : (Jvm.Cond.instanceMethod ({ cls := "NameScope$Scopes", name := "<init>", desc := "()V" } : Jvm.MethodName)) ∈ gTB := gm 89 (by decide +kernel) rfl
set_option maxRecDepth 100000 in
theorem w_57 : (Jvm.Cond.code ({ cls := "NameScope$Scopes", name := "<init>", desc := "()V" } : Jvm.MethodName) prog_6_method_1_code (1 : Nat) (Option.none : Option Jvm.ClassFile.FieldType)) ∈ gTB := gm 90 rfl rfl
theorem w_58 : (Jvm.Cond.methodLink "NameScope$Scopes" (3 : Nat) ({ cls := "java/lang/Object", name := "<init>", desc := "()V" } : Jvm.MethodName)) ∈ gTB := gm 91 (by decide +kernel) rfl
theorem w_59 : (Jvm.Cond.fieldLink "NameScope$Scopes" (9 : Nat) "NameScope$Scopes" "count" "I") ∈ gTB := gm 92 (by decide +kernel) rfl
theorem w_60 : (Jvm.Cond.fieldLink "NameScope$Scopes" (15 : Nat) "NameScope$Scopes" "innermost" "[I") ∈ gTB := gm 93 (by decide +kernel) rfl
theorem w_61 : (Jvm.Cond.fieldLink "NameScope$Scopes" (19 : Nat) "NameScope$Scopes" "depths" "[I") ∈ gTB := gm 94 (by decide +kernel) rfl
theorem w_62 : (Jvm.Cond.fieldLink "NameScope$Scopes" (22 : Nat) "NameScope$Scopes" "open" "[I") ∈ gTB := gm 95 (by decide +kernel) rfl
theorem w_72 : (Jvm.Cond.classLink "NameScope" (36 : Nat) "NameScope$Pen") ∈ gTB := gm 105 (by decide +kernel) rfl
theorem w_73 : (Jvm.Cond.instantiable "NameScope$Pen" (6 : Nat)) ∈ gTB := gm 106 (by decide +kernel) rfl
theorem w_75 : (Jvm.Cond.instanceMethod ({ cls := "NameScope$Pen", name := "<init>", desc := "()V" } : Jvm.MethodName)) ∈ gTB := gm 108 (by decide +kernel) rfl
set_option maxRecDepth 100000 in
theorem w_76 : (Jvm.Cond.code ({ cls := "NameScope$Pen", name := "<init>", desc := "()V" } : Jvm.MethodName) prog_4_method_1_code (1 : Nat) (Option.none : Option Jvm.ClassFile.FieldType)) ∈ gTB := gm 109 rfl rfl
theorem w_77 : (Jvm.Cond.methodLink "NameScope$Pen" (3 : Nat) ({ cls := "java/lang/Object", name := "<init>", desc := "()V" } : Jvm.MethodName)) ∈ gTB := gm 110 (by decide +kernel) rfl
theorem w_78 : (Jvm.Cond.classLink "NameScope$Pen" (9 : Nat) "NameScope$Scopes") ∈ gTB := gm 111 (by decide +kernel) rfl
theorem w_80 : (Jvm.Cond.fieldLink "NameScope$Pen" (12 : Nat) "NameScope$Pen" "scopes" "LNameScope$Scopes;") ∈ gTB := gm 113 (by decide +kernel) rfl
theorem w_81 : (Jvm.Cond.fieldLink "NameScope$Pen" (18 : Nat) "NameScope$Pen" "next" "[I") ∈ gTB := gm 114 (by decide +kernel) rfl
theorem w_82 : (Jvm.Cond.fieldLink "NameScope$Pen" (22 : Nat) "NameScope$Pen" "latest" "[I") ∈ gTB := gm 115 (by decide +kernel) rfl
theorem w_83 : (Jvm.Cond.fieldLink "NameScope$Pen" (25 : Nat) "NameScope$Pen" "near" "[J") ∈ gTB := gm 116 (by decide +kernel) rfl
theorem w_84 : (Jvm.Cond.fieldLink "NameScope$Pen" (29 : Nat) "NameScope$Pen" "taken" "[Z") ∈ gTB := gm 117 (by decide +kernel) rfl
theorem w_85 : (Jvm.Cond.fieldLink "NameScope$Pen" (33 : Nat) "NameScope$Pen" "nearCount" "I") ∈ gTB := gm 118 (by decide +kernel) rfl
theorem w_99 : (Jvm.Cond.arrayClass Jvm.ClassFile.FieldType.boolean) ∈ gTB := gm 132 (by decide +kernel) rfl
theorem w_100 : (Jvm.Cond.fieldLink "NameScope" (10 : Nat) "NameScope" "globals" "LNameScope$Globals;") ∈ gTB := gm 133 (by decide +kernel) rfl
theorem w_101 : (Jvm.Cond.fieldLink "NameScope" (19 : Nat) "NameScope" "kept" "LNameScope$Row;") ∈ gTB := gm 134 (by decide +kernel) rfl
theorem w_102 : (Jvm.Cond.fieldLink "NameScope" (23 : Nat) "NameScope" "paper" "LNameScope$Row;") ∈ gTB := gm 135 (by decide +kernel) rfl
theorem w_103 : (Jvm.Cond.fieldLink "NameScope" (26 : Nat) "NameScope" "laid" "LNameScope$Row;") ∈ gTB := gm 136 (by decide +kernel) rfl
theorem w_104 : (Jvm.Cond.fieldLink "NameScope" (32 : Nat) "NameScope" "scopes" "LNameScope$Scopes;") ∈ gTB := gm 137 (by decide +kernel) rfl
theorem w_105 : (Jvm.Cond.fieldLink "NameScope" (39 : Nat) "NameScope" "pen" "LNameScope$Pen;") ∈ gTB := gm 138 (by decide +kernel) rfl
theorem w_106 : (Jvm.Cond.fieldLink "NameScope" (43 : Nat) "NameScope" "term" "LNameScope$Row;") ∈ gTB := gm 139 (by decide +kernel) rfl
theorem w_107 : (Jvm.Cond.fieldLink "NameScope" (46 : Nat) "NameScope" "spare" "LNameScope$Row;") ∈ gTB := gm 140 (by decide +kernel) rfl
theorem w_125 : (Jvm.Cond.methodLink "NameScopeLaw" (15 : Nat) ({ cls := "NameScope", name := "global", desc := "(J)I" } : Jvm.MethodName)) ∈ gTB := gm 158 (by decide +kernel) rfl
theorem w_126 : (Jvm.Cond.instanceMethod ({ cls := "NameScope", name := "global", desc := "(J)I" } : Jvm.MethodName)) ∈ gTB := gm 159 (by decide +kernel) rfl
theorem w_127 : (Jvm.Cond.selects "NameScope" ({ cls := "NameScope", name := "global", desc := "(J)I" } : Jvm.MethodName) ({ cls := "NameScope", name := "global", desc := "(J)I" } : Jvm.MethodName)) ∈ gTB := gm 160 (by decide +kernel) rfl
set_option maxRecDepth 100000 in
theorem w_128 : (Jvm.Cond.code ({ cls := "NameScope", name := "global", desc := "(J)I" } : Jvm.MethodName) prog_1_method_2_code (3 : Nat) (Option.some Jvm.ClassFile.FieldType.int)) ∈ gTB := gm 161 rfl rfl
theorem w_129 : (Jvm.Cond.methodLink "NameScope" (49 : Nat) ({ cls := "NameScope$Names", name := "canBeGiven", desc := "(J)Z" } : Jvm.MethodName)) ∈ gTB := gm 162 (by decide +kernel) rfl
theorem w_130 : (Jvm.Cond.static ({ cls := "NameScope$Names", name := "canBeGiven", desc := "(J)Z" } : Jvm.MethodName)) ∈ gTB := gm 163 (by decide +kernel) rfl
set_option maxRecDepth 100000 in
theorem w_131 : (Jvm.Cond.code ({ cls := "NameScope$Names", name := "canBeGiven", desc := "(J)Z" } : Jvm.MethodName) prog_3_method_2_code (9 : Nat) (Option.some Jvm.ClassFile.FieldType.boolean)) ∈ gTB := gm 164 rfl rfl
theorem w_132 : (Jvm.Cond.constantLong "NameScope$Names" (9 : Nat) (255 : Int64)) ∈ gTB := gm 165 (by decide +kernel) rfl
theorem w_133 : (Jvm.Cond.constantLong "NameScope$Names" (11 : Nat) (97 : Int64)) ∈ gTB := gm 166 (by decide +kernel) rfl
theorem w_134 : (Jvm.Cond.constantLong "NameScope$Names" (13 : Nat) (122 : Int64)) ∈ gTB := gm 167 (by decide +kernel) rfl
theorem w_135 : (Jvm.Cond.methodLink "NameScope$Names" (15 : Nat) ({ cls := "NameScope$Names", name := "isDigit", desc := "(J)Z" } : Jvm.MethodName)) ∈ gTB := gm 168 (by decide +kernel) rfl
theorem w_136 : (Jvm.Cond.static ({ cls := "NameScope$Names", name := "isDigit", desc := "(J)Z" } : Jvm.MethodName)) ∈ gTB := gm 169 (by decide +kernel) rfl
set_option maxRecDepth 100000 in
theorem w_137 : (Jvm.Cond.code ({ cls := "NameScope$Names", name := "isDigit", desc := "(J)Z" } : Jvm.MethodName) prog_3_method_6_code (2 : Nat) (Option.some Jvm.ClassFile.FieldType.boolean)) ∈ gTB := gm 170 rfl rfl
theorem w_138 : (Jvm.Cond.constantLong "NameScope$Names" (19 : Nat) (48 : Int64)) ∈ gTB := gm 171 (by decide +kernel) rfl
theorem w_139 : (Jvm.Cond.constantLong "NameScope$Names" (21 : Nat) (57 : Int64)) ∈ gTB := gm 172 (by decide +kernel) rfl
theorem w_140 : (Jvm.Cond.methodLink "NameScope" (55 : Nat) ({ cls := "NameScope$Globals", name := "add", desc := "(J)I" } : Jvm.MethodName)) ∈ gTB := gm 173 (by decide +kernel) rfl
theorem w_141 : (Jvm.Cond.instanceMethod ({ cls := "NameScope$Globals", name := "add", desc := "(J)I" } : Jvm.MethodName)) ∈ gTB := gm 174 (by decide +kernel) rfl
theorem w_142 : (Jvm.Cond.selects "NameScope$Globals" ({ cls := "NameScope$Globals", name := "add", desc := "(J)I" } : Jvm.MethodName) ({ cls := "NameScope$Globals", name := "add", desc := "(J)I" } : Jvm.MethodName)) ∈ gTB := gm 175 (by decide +kernel) rfl
set_option maxRecDepth 100000 in
theorem w_143 : (Jvm.Cond.code ({ cls := "NameScope$Globals", name := "add", desc := "(J)I" } : Jvm.MethodName) prog_2_method_3_code (3 : Nat) (Option.some Jvm.ClassFile.FieldType.int)) ∈ gTB := gm 176 rfl rfl
theorem w_144 : (Jvm.Cond.methodLink "NameScope$Globals" (19 : Nat) ({ cls := "NameScope$Globals", name := "find", desc := "(J)I" } : Jvm.MethodName)) ∈ gTB := gm 177 (by decide +kernel) rfl
theorem w_145 : (Jvm.Cond.instanceMethod ({ cls := "NameScope$Globals", name := "find", desc := "(J)I" } : Jvm.MethodName)) ∈ gTB := gm 178 (by decide +kernel) rfl
theorem w_146 : (Jvm.Cond.selects "NameScope$Globals" ({ cls := "NameScope$Globals", name := "find", desc := "(J)I" } : Jvm.MethodName) ({ cls := "NameScope$Globals", name := "find", desc := "(J)I" } : Jvm.MethodName)) ∈ gTB := gm 179 (by decide +kernel) rfl
set_option maxRecDepth 100000 in
theorem w_147 : (Jvm.Cond.code ({ cls := "NameScope$Globals", name := "find", desc := "(J)I" } : Jvm.MethodName) prog_2_method_4_code (4 : Nat) (Option.some Jvm.ClassFile.FieldType.int)) ∈ gTB := gm 180 rfl rfl
theorem w_148 : (Jvm.Cond.methodLink "NameScopeLaw" (20 : Nat) ({ cls := "NameScope", name := "lay", desc := "(IJ)I" } : Jvm.MethodName)) ∈ gTB := gm 181 (by decide +kernel) rfl
theorem w_149 : (Jvm.Cond.instanceMethod ({ cls := "NameScope", name := "lay", desc := "(IJ)I" } : Jvm.MethodName)) ∈ gTB := gm 182 (by decide +kernel) rfl
theorem w_150 : (Jvm.Cond.selects "NameScope" ({ cls := "NameScope", name := "lay", desc := "(IJ)I" } : Jvm.MethodName) ({ cls := "NameScope", name := "lay", desc := "(IJ)I" } : Jvm.MethodName)) ∈ gTB := gm 183 (by decide +kernel) rfl
set_option maxRecDepth 100000 in
theorem w_151 : (Jvm.Cond.code ({ cls := "NameScope", name := "lay", desc := "(IJ)I" } : Jvm.MethodName) prog_1_method_3_code (4 : Nat) (Option.some Jvm.ClassFile.FieldType.int)) ∈ gTB := gm 184 rfl rfl
theorem w_152 : (Jvm.Cond.methodLink "NameScope" (59 : Nat) ({ cls := "NameScope", name := "canBeBeside", desc := "(IJ)Z" } : Jvm.MethodName)) ∈ gTB := gm 185 (by decide +kernel) rfl
theorem w_153 : (Jvm.Cond.static ({ cls := "NameScope", name := "canBeBeside", desc := "(IJ)Z" } : Jvm.MethodName)) ∈ gTB := gm 186 (by decide +kernel) rfl
set_option maxRecDepth 100000 in
theorem w_154 : (Jvm.Cond.code ({ cls := "NameScope", name := "canBeBeside", desc := "(IJ)Z" } : Jvm.MethodName) prog_1_method_15_code (3 : Nat) (Option.some Jvm.ClassFile.FieldType.boolean)) ∈ gTB := gm 187 rfl rfl
theorem w_155 : (Jvm.Cond.constantLong "NameScope" (137 : Nat) (100 : Int64)) ∈ gTB := gm 188 (by decide +kernel) rfl
theorem w_156 : (Jvm.Cond.methodLink "NameScope" (63 : Nat) ({ cls := "NameScope$Row", name := "count", desc := "()I" } : Jvm.MethodName)) ∈ gTB := gm 189 (by decide +kernel) rfl
theorem w_157 : (Jvm.Cond.instanceMethod ({ cls := "NameScope$Row", name := "count", desc := "()I" } : Jvm.MethodName)) ∈ gTB := gm 190 (by decide +kernel) rfl
theorem w_158 : (Jvm.Cond.selects "NameScope$Row" ({ cls := "NameScope$Row", name := "count", desc := "()I" } : Jvm.MethodName) ({ cls := "NameScope$Row", name := "count", desc := "()I" } : Jvm.MethodName)) ∈ gTB := gm 191 (by decide +kernel) rfl
set_option maxRecDepth 100000 in
theorem w_159 : (Jvm.Cond.code ({ cls := "NameScope$Row", name := "count", desc := "()I" } : Jvm.MethodName) prog_5_method_2_code (1 : Nat) (Option.some Jvm.ClassFile.FieldType.int)) ∈ gTB := gm 192 rfl rfl
theorem w_160 : (Jvm.Cond.methodLink "NameScope" (67 : Nat) ({ cls := "NameScope$Row", name := "add", desc := "(IJ)V" } : Jvm.MethodName)) ∈ gTB := gm 193 (by decide +kernel) rfl
theorem w_161 : (Jvm.Cond.instanceMethod ({ cls := "NameScope$Row", name := "add", desc := "(IJ)V" } : Jvm.MethodName)) ∈ gTB := gm 194 (by decide +kernel) rfl
theorem w_162 : (Jvm.Cond.selects "NameScope$Row" ({ cls := "NameScope$Row", name := "add", desc := "(IJ)V" } : Jvm.MethodName) ({ cls := "NameScope$Row", name := "add", desc := "(IJ)V" } : Jvm.MethodName)) ∈ gTB := gm 195 (by decide +kernel) rfl
set_option maxRecDepth 100000 in
theorem w_163 : (Jvm.Cond.code ({ cls := "NameScope$Row", name := "add", desc := "(IJ)V" } : Jvm.MethodName) prog_5_method_10_code (4 : Nat) (Option.none : Option Jvm.ClassFile.FieldType)) ∈ gTB := gm 196 rfl rfl
theorem w_164 : (Jvm.Cond.methodLink "NameScope$Row" (39 : Nat) ({ cls := "NameScope$Row", name := "makeRoom", desc := "(I)V" } : Jvm.MethodName)) ∈ gTB := gm 197 (by decide +kernel) rfl
theorem w_166 : (Jvm.Cond.instanceMethod ({ cls := "NameScope$Row", name := "makeRoom", desc := "(I)V" } : Jvm.MethodName)) ∈ gTB := gm 199 (by decide +kernel) rfl
set_option maxRecDepth 100000 in
theorem w_167 : (Jvm.Cond.code ({ cls := "NameScope$Row", name := "makeRoom", desc := "(I)V" } : Jvm.MethodName) prog_5_method_14_code (3 : Nat) (Option.none : Option Jvm.ClassFile.FieldType)) ∈ gTB := gm 200 rfl rfl
theorem w_169 : (Jvm.Cond.static ({ cls := "NameScope", name := "longer", desc := "(II)I" } : Jvm.MethodName)) ∈ gTB := gm 202 (by decide +kernel) rfl
set_option maxRecDepth 100000 in
theorem w_170 : (Jvm.Cond.code ({ cls := "NameScope", name := "longer", desc := "(II)I" } : Jvm.MethodName) prog_1_method_18_code (2 : Nat) (Option.some Jvm.ClassFile.FieldType.int)) ∈ gTB := gm 203 rfl rfl
theorem w_171 : (Jvm.Cond.methodLink "NameScope" (139 : Nat) ({ cls := "java/lang/Math", name := "max", desc := "(II)I" } : Jvm.MethodName)) ∈ gTB := gm 204 (by decide +kernel) rfl
theorem w_172 : (Jvm.Cond.static ({ cls := "java/lang/Math", name := "max", desc := "(II)I" } : Jvm.MethodName)) ∈ gTB := gm 205 (by decide +kernel) rfl
set_option maxRecDepth 100000 in
theorem w_173 : (Jvm.Cond.code ({ cls := "java/lang/Math", name := "max", desc := "(II)I" } : Jvm.MethodName) prog_10_method_65_code (2 : Nat) (Option.some Jvm.ClassFile.FieldType.int)) ∈ gTB := gm 206 rfl rfl
theorem w_174 : (Jvm.Cond.methodLink "NameScope$Row" (59 : Nat) ({ cls := "java/util/Arrays", name := "copyOf", desc := "([II)[I" } : Jvm.MethodName)) ∈ gTB := gm 207 (by decide +kernel) rfl
theorem w_175 : (Jvm.Cond.static ({ cls := "java/util/Arrays", name := "copyOf", desc := "([II)[I" } : Jvm.MethodName)) ∈ gTB := gm 208 (by decide +kernel) rfl
set_option maxRecDepth 100000 in
theorem w_176 : (Jvm.Cond.code ({ cls := "java/util/Arrays", name := "copyOf", desc := "([II)[I" } : Jvm.MethodName) prog_12_method_123_code (3 : Nat) (Option.some (Jvm.ClassFile.FieldType.array Jvm.ClassFile.FieldType.int))) ∈ gTB := gm 209 rfl rfl
theorem w_177 : (Jvm.Cond.methodLink "java/util/Arrays" (316 : Nat) ({ cls := "[I", name := "clone", desc := "()Ljava/lang/Object;" } : Jvm.MethodName)) ∈ gTB := gm 210 (by decide +kernel) rfl
theorem w_179 : (Jvm.Cond.native ({ cls := "java/lang/Object", name := "clone", desc := "()Ljava/lang/Object;" } : Jvm.MethodName)) ∈ gTB := gm 212 (by decide +kernel) rfl
theorem w_180 : (Jvm.Cond.instanceMethod ({ cls := "java/lang/Object", name := "clone", desc := "()Ljava/lang/Object;" } : Jvm.MethodName)) ∈ gTB := gm 213 (by decide +kernel) rfl
theorem w_181 : (Jvm.Cond.selects "[I" ({ cls := "[I", name := "clone", desc := "()Ljava/lang/Object;" } : Jvm.MethodName) ({ cls := "java/lang/Object", name := "clone", desc := "()Ljava/lang/Object;" } : Jvm.MethodName)) ∈ gTB := gm 214 (by decide +kernel) rfl
theorem w_183 : (Jvm.Cond.classLink "java/util/Arrays" (317 : Nat) "[I") ∈ gTB := gm 216 (by decide +kernel) rfl
theorem w_184 : (Jvm.Cond.methodLink "java/util/Arrays" (304 : Nat) ({ cls := "java/lang/Math", name := "min", desc := "(II)I" } : Jvm.MethodName)) ∈ gTB := gm 217 (by decide +kernel) rfl
theorem w_185 : (Jvm.Cond.static ({ cls := "java/lang/Math", name := "min", desc := "(II)I" } : Jvm.MethodName)) ∈ gTB := gm 218 (by decide +kernel) rfl
set_option maxRecDepth 100000 in
theorem w_186 : (Jvm.Cond.code ({ cls := "java/lang/Math", name := "min", desc := "(II)I" } : Jvm.MethodName) prog_10_method_69_code (2 : Nat) (Option.some Jvm.ClassFile.FieldType.int)) ∈ gTB := gm 219 rfl rfl
theorem w_187 : (Jvm.Cond.methodLink "java/util/Arrays" (150 : Nat) ({ cls := "java/lang/System", name := "arraycopy", desc := "(Ljava/lang/Object;ILjava/lang/Object;II)V" } : Jvm.MethodName)) ∈ gTB := gm 220 (by decide +kernel) rfl
theorem w_188 : (Jvm.Cond.static ({ cls := "java/lang/System", name := "arraycopy", desc := "(Ljava/lang/Object;ILjava/lang/Object;II)V" } : Jvm.MethodName)) ∈ gTB := gm 221 (by decide +kernel) rfl
theorem w_189 : (Jvm.Cond.native ({ cls := "java/lang/System", name := "arraycopy", desc := "(Ljava/lang/Object;ILjava/lang/Object;II)V" } : Jvm.MethodName)) ∈ gTB := gm 222 (by decide +kernel) rfl
theorem w_190 : (Jvm.Cond.methodLink "NameScope$Row" (65 : Nat) ({ cls := "java/util/Arrays", name := "copyOf", desc := "([JI)[J" } : Jvm.MethodName)) ∈ gTB := gm 223 (by decide +kernel) rfl
theorem w_191 : (Jvm.Cond.static ({ cls := "java/util/Arrays", name := "copyOf", desc := "([JI)[J" } : Jvm.MethodName)) ∈ gTB := gm 224 (by decide +kernel) rfl
set_option maxRecDepth 100000 in
theorem w_192 : (Jvm.Cond.code ({ cls := "java/util/Arrays", name := "copyOf", desc := "([JI)[J" } : Jvm.MethodName) prog_12_method_124_code (3 : Nat) (Option.some (Jvm.ClassFile.FieldType.array Jvm.ClassFile.FieldType.long))) ∈ gTB := gm 225 rfl rfl
theorem w_193 : (Jvm.Cond.methodLink "java/util/Arrays" (319 : Nat) ({ cls := "[J", name := "clone", desc := "()Ljava/lang/Object;" } : Jvm.MethodName)) ∈ gTB := gm 226 (by decide +kernel) rfl
theorem w_195 : (Jvm.Cond.selects "[J" ({ cls := "[J", name := "clone", desc := "()Ljava/lang/Object;" } : Jvm.MethodName) ({ cls := "java/lang/Object", name := "clone", desc := "()Ljava/lang/Object;" } : Jvm.MethodName)) ∈ gTB := gm 228 (by decide +kernel) rfl
theorem w_197 : (Jvm.Cond.classLink "java/util/Arrays" (320 : Nat) "[J") ∈ gTB := gm 230 (by decide +kernel) rfl
theorem w_198 : (Jvm.Cond.methodLink "NameScopeLaw" (25 : Nat) ({ cls := "NameScope", name := "drop", desc := "()I" } : Jvm.MethodName)) ∈ gTB := gm 231 (by decide +kernel) rfl
theorem w_199 : (Jvm.Cond.instanceMethod ({ cls := "NameScope", name := "drop", desc := "()I" } : Jvm.MethodName)) ∈ gTB := gm 232 (by decide +kernel) rfl
theorem w_200 : (Jvm.Cond.selects "NameScope" ({ cls := "NameScope", name := "drop", desc := "()I" } : Jvm.MethodName) ({ cls := "NameScope", name := "drop", desc := "()I" } : Jvm.MethodName)) ∈ gTB := gm 233 (by decide +kernel) rfl
set_option maxRecDepth 100000 in
theorem w_201 : (Jvm.Cond.code ({ cls := "NameScope", name := "drop", desc := "()I" } : Jvm.MethodName) prog_1_method_4_code (2 : Nat) (Option.some Jvm.ClassFile.FieldType.int)) ∈ gTB := gm 234 rfl rfl
theorem w_202 : (Jvm.Cond.methodLink "NameScope" (70 : Nat) ({ cls := "NameScope$Row", name := "clear", desc := "()V" } : Jvm.MethodName)) ∈ gTB := gm 235 (by decide +kernel) rfl
theorem w_203 : (Jvm.Cond.instanceMethod ({ cls := "NameScope$Row", name := "clear", desc := "()V" } : Jvm.MethodName)) ∈ gTB := gm 236 (by decide +kernel) rfl
theorem w_204 : (Jvm.Cond.selects "NameScope$Row" ({ cls := "NameScope$Row", name := "clear", desc := "()V" } : Jvm.MethodName) ({ cls := "NameScope$Row", name := "clear", desc := "()V" } : Jvm.MethodName)) ∈ gTB := gm 237 (by decide +kernel) rfl
set_option maxRecDepth 100000 in
theorem w_205 : (Jvm.Cond.code ({ cls := "NameScope$Row", name := "clear", desc := "()V" } : Jvm.MethodName) prog_5_method_9_code (1 : Nat) (Option.none : Option Jvm.ClassFile.FieldType)) ∈ gTB := gm 238 rfl rfl
theorem w_206 : (Jvm.Cond.methodLink "NameScopeLaw" (30 : Nat) ({ cls := "NameScope", name := "bind", desc := "()I" } : Jvm.MethodName)) ∈ gTB := gm 239 (by decide +kernel) rfl
theorem w_207 : (Jvm.Cond.instanceMethod ({ cls := "NameScope", name := "bind", desc := "()I" } : Jvm.MethodName)) ∈ gTB := gm 240 (by decide +kernel) rfl
theorem w_208 : (Jvm.Cond.selects "NameScope" ({ cls := "NameScope", name := "bind", desc := "()I" } : Jvm.MethodName) ({ cls := "NameScope", name := "bind", desc := "()I" } : Jvm.MethodName)) ∈ gTB := gm 241 (by decide +kernel) rfl
set_option maxRecDepth 100000 in
theorem w_209 : (Jvm.Cond.code ({ cls := "NameScope", name := "bind", desc := "()I" } : Jvm.MethodName) prog_1_method_5_code (3 : Nat) (Option.some Jvm.ClassFile.FieldType.int)) ∈ gTB := gm 242 rfl rfl
theorem w_210 : (Jvm.Cond.methodLink "NameScope" (73 : Nat) ({ cls := "NameScope$Row", name := "measure", desc := "()Z" } : Jvm.MethodName)) ∈ gTB := gm 243 (by decide +kernel) rfl
theorem w_211 : (Jvm.Cond.instanceMethod ({ cls := "NameScope$Row", name := "measure", desc := "()Z" } : Jvm.MethodName)) ∈ gTB := gm 244 (by decide +kernel) rfl
theorem w_212 : (Jvm.Cond.selects "NameScope$Row" ({ cls := "NameScope$Row", name := "measure", desc := "()Z" } : Jvm.MethodName) ({ cls := "NameScope$Row", name := "measure", desc := "()Z" } : Jvm.MethodName)) ∈ gTB := gm 245 (by decide +kernel) rfl
set_option maxRecDepth 100000 in
theorem w_213 : (Jvm.Cond.code ({ cls := "NameScope$Row", name := "measure", desc := "()Z" } : Jvm.MethodName) prog_5_method_13_code (3 : Nat) (Option.some Jvm.ClassFile.FieldType.boolean)) ∈ gTB := gm 246 rfl rfl
theorem w_215 : (Jvm.Cond.static ({ cls := "NameScope", name := "hasParts", desc := "(I)Z" } : Jvm.MethodName)) ∈ gTB := gm 248 (by decide +kernel) rfl
set_option maxRecDepth 100000 in
theorem w_216 : (Jvm.Cond.code ({ cls := "NameScope", name := "hasParts", desc := "(I)Z" } : Jvm.MethodName) prog_1_method_17_code (1 : Nat) (Option.some Jvm.ClassFile.FieldType.boolean)) ∈ gTB := gm 249 rfl rfl
theorem w_217 : (Jvm.Cond.methodLink "NameScope" (108 : Nat) ({ cls := "NameScope", name := "isBinder", desc := "(I)Z" } : Jvm.MethodName)) ∈ gTB := gm 250 (by decide +kernel) rfl
theorem w_218 : (Jvm.Cond.static ({ cls := "NameScope", name := "isBinder", desc := "(I)Z" } : Jvm.MethodName)) ∈ gTB := gm 251 (by decide +kernel) rfl
set_option maxRecDepth 100000 in
theorem w_219 : (Jvm.Cond.code ({ cls := "NameScope", name := "isBinder", desc := "(I)Z" } : Jvm.MethodName) prog_1_method_16_code (1 : Nat) (Option.some Jvm.ClassFile.FieldType.boolean)) ∈ gTB := gm 252 rfl rfl
theorem w_220 : (Jvm.Cond.methodLink "NameScope$Row" (52 : Nat) ({ cls := "NameScope$Row", name := "second", desc := "(I)I" } : Jvm.MethodName)) ∈ gTB := gm 253 (by decide +kernel) rfl
theorem w_221 : (Jvm.Cond.instanceMethod ({ cls := "NameScope$Row", name := "second", desc := "(I)I" } : Jvm.MethodName)) ∈ gTB := gm 254 (by decide +kernel) rfl
theorem w_222 : (Jvm.Cond.selects "NameScope$Row" ({ cls := "NameScope$Row", name := "second", desc := "(I)I" } : Jvm.MethodName) ({ cls := "NameScope$Row", name := "second", desc := "(I)I" } : Jvm.MethodName)) ∈ gTB := gm 255 (by decide +kernel) rfl
set_option maxRecDepth 100000 in
theorem w_223 : (Jvm.Cond.code ({ cls := "NameScope$Row", name := "second", desc := "(I)I" } : Jvm.MethodName) prog_5_method_8_code (2 : Nat) (Option.some Jvm.ClassFile.FieldType.int)) ∈ gTB := gm 256 rfl rfl
theorem w_224 : (Jvm.Cond.methodLink "NameScope$Row" (36 : Nat) ({ cls := "NameScope$Row", name := "end", desc := "(I)I" } : Jvm.MethodName)) ∈ gTB := gm 257 (by decide +kernel) rfl
theorem w_225 : (Jvm.Cond.instanceMethod ({ cls := "NameScope$Row", name := "end", desc := "(I)I" } : Jvm.MethodName)) ∈ gTB := gm 258 (by decide +kernel) rfl
theorem w_226 : (Jvm.Cond.selects "NameScope$Row" ({ cls := "NameScope$Row", name := "end", desc := "(I)I" } : Jvm.MethodName) ({ cls := "NameScope$Row", name := "end", desc := "(I)I" } : Jvm.MethodName)) ∈ gTB := gm 259 (by decide +kernel) rfl
set_option maxRecDepth 100000 in
theorem w_227 : (Jvm.Cond.code ({ cls := "NameScope$Row", name := "end", desc := "(I)I" } : Jvm.MethodName) prog_5_method_7_code (2 : Nat) (Option.some Jvm.ClassFile.FieldType.int)) ∈ gTB := gm 260 rfl rfl
theorem w_228 : (Jvm.Cond.methodLink "NameScope$Row" (32 : Nat) ({ cls := "NameScope$Row", name := "size", desc := "(I)I" } : Jvm.MethodName)) ∈ gTB := gm 261 (by decide +kernel) rfl
theorem w_229 : (Jvm.Cond.instanceMethod ({ cls := "NameScope$Row", name := "size", desc := "(I)I" } : Jvm.MethodName)) ∈ gTB := gm 262 (by decide +kernel) rfl
theorem w_230 : (Jvm.Cond.selects "NameScope$Row" ({ cls := "NameScope$Row", name := "size", desc := "(I)I" } : Jvm.MethodName) ({ cls := "NameScope$Row", name := "size", desc := "(I)I" } : Jvm.MethodName)) ∈ gTB := gm 263 (by decide +kernel) rfl
set_option maxRecDepth 100000 in
theorem w_231 : (Jvm.Cond.code ({ cls := "NameScope$Row", name := "size", desc := "(I)I" } : Jvm.MethodName) prog_5_method_6_code (2 : Nat) (Option.some Jvm.ClassFile.FieldType.int)) ∈ gTB := gm 264 rfl rfl
theorem w_232 : (Jvm.Cond.methodLink "NameScope$Row" (26 : Nat) ({ cls := "NameScope$Row", name := "has", desc := "(I)Z" } : Jvm.MethodName)) ∈ gTB := gm 265 (by decide +kernel) rfl
theorem w_233 : (Jvm.Cond.instanceMethod ({ cls := "NameScope$Row", name := "has", desc := "(I)Z" } : Jvm.MethodName)) ∈ gTB := gm 266 (by decide +kernel) rfl
theorem w_234 : (Jvm.Cond.selects "NameScope$Row" ({ cls := "NameScope$Row", name := "has", desc := "(I)Z" } : Jvm.MethodName) ({ cls := "NameScope$Row", name := "has", desc := "(I)Z" } : Jvm.MethodName)) ∈ gTB := gm 267 (by decide +kernel) rfl
set_option maxRecDepth 100000 in
theorem w_235 : (Jvm.Cond.code ({ cls := "NameScope$Row", name := "has", desc := "(I)Z" } : Jvm.MethodName) prog_5_method_3_code (2 : Nat) (Option.some Jvm.ClassFile.FieldType.boolean)) ∈ gTB := gm 268 rfl rfl
theorem w_236 : (Jvm.Cond.methodLink "NameScope" (77 : Nat) ({ cls := "NameScope$Scopes", name := "read", desc := "(LNameScope$Row;)V" } : Jvm.MethodName)) ∈ gTB := gm 269 (by decide +kernel) rfl
theorem w_237 : (Jvm.Cond.instanceMethod ({ cls := "NameScope$Scopes", name := "read", desc := "(LNameScope$Row;)V" } : Jvm.MethodName)) ∈ gTB := gm 270 (by decide +kernel) rfl
theorem w_238 : (Jvm.Cond.selects "NameScope$Scopes" ({ cls := "NameScope$Scopes", name := "read", desc := "(LNameScope$Row;)V" } : Jvm.MethodName) ({ cls := "NameScope$Scopes", name := "read", desc := "(LNameScope$Row;)V" } : Jvm.MethodName)) ∈ gTB := gm 271 (by decide +kernel) rfl
set_option maxRecDepth 100000 in
theorem w_239 : (Jvm.Cond.code ({ cls := "NameScope$Scopes", name := "read", desc := "(LNameScope$Row;)V" } : Jvm.MethodName) prog_6_method_2_code (5 : Nat) (Option.none : Option Jvm.ClassFile.FieldType)) ∈ gTB := gm 272 rfl rfl
theorem w_240 : (Jvm.Cond.methodLink "NameScope$Scopes" (25 : Nat) ({ cls := "NameScope$Row", name := "count", desc := "()I" } : Jvm.MethodName)) ∈ gTB := gm 273 (by decide +kernel) rfl
theorem w_241 : (Jvm.Cond.methodLink "NameScope$Scopes" (30 : Nat) ({ cls := "NameScope$Scopes", name := "makeRoom", desc := "(I)V" } : Jvm.MethodName)) ∈ gTB := gm 274 (by decide +kernel) rfl
theorem w_243 : (Jvm.Cond.instanceMethod ({ cls := "NameScope$Scopes", name := "makeRoom", desc := "(I)V" } : Jvm.MethodName)) ∈ gTB := gm 276 (by decide +kernel) rfl
set_option maxRecDepth 100000 in
theorem w_244 : (Jvm.Cond.code ({ cls := "NameScope$Scopes", name := "makeRoom", desc := "(I)V" } : Jvm.MethodName) prog_6_method_10_code (3 : Nat) (Option.none : Option Jvm.ClassFile.FieldType)) ∈ gTB := gm 277 rfl rfl
theorem w_246 : (Jvm.Cond.methodLink "NameScope$Scopes" (34 : Nat) ({ cls := "NameScope$Scopes", name := "setInnermost", desc := "(II)V" } : Jvm.MethodName)) ∈ gTB := gm 279 (by decide +kernel) rfl
theorem w_248 : (Jvm.Cond.instanceMethod ({ cls := "NameScope$Scopes", name := "setInnermost", desc := "(II)V" } : Jvm.MethodName)) ∈ gTB := gm 281 (by decide +kernel) rfl
set_option maxRecDepth 100000 in
theorem w_249 : (Jvm.Cond.code ({ cls := "NameScope$Scopes", name := "setInnermost", desc := "(II)V" } : Jvm.MethodName) prog_6_method_9_code (3 : Nat) (Option.none : Option Jvm.ClassFile.FieldType)) ∈ gTB := gm 282 rfl rfl
theorem w_250 : (Jvm.Cond.methodLink "NameScope$Scopes" (38 : Nat) ({ cls := "NameScope$Scopes", name := "depth", desc := "(I)I" } : Jvm.MethodName)) ∈ gTB := gm 283 (by decide +kernel) rfl
theorem w_251 : (Jvm.Cond.instanceMethod ({ cls := "NameScope$Scopes", name := "depth", desc := "(I)I" } : Jvm.MethodName)) ∈ gTB := gm 284 (by decide +kernel) rfl
theorem w_252 : (Jvm.Cond.selects "NameScope$Scopes" ({ cls := "NameScope$Scopes", name := "depth", desc := "(I)I" } : Jvm.MethodName) ({ cls := "NameScope$Scopes", name := "depth", desc := "(I)I" } : Jvm.MethodName)) ∈ gTB := gm 285 (by decide +kernel) rfl
set_option maxRecDepth 100000 in
theorem w_253 : (Jvm.Cond.code ({ cls := "NameScope$Scopes", name := "depth", desc := "(I)I" } : Jvm.MethodName) prog_6_method_3_code (2 : Nat) (Option.some Jvm.ClassFile.FieldType.int)) ∈ gTB := gm 286 rfl rfl
theorem w_254 : (Jvm.Cond.methodLink "NameScope$Scopes" (42 : Nat) ({ cls := "NameScope$Row", name := "kind", desc := "(I)I" } : Jvm.MethodName)) ∈ gTB := gm 287 (by decide +kernel) rfl
theorem w_255 : (Jvm.Cond.instanceMethod ({ cls := "NameScope$Row", name := "kind", desc := "(I)I" } : Jvm.MethodName)) ∈ gTB := gm 288 (by decide +kernel) rfl
theorem w_256 : (Jvm.Cond.selects "NameScope$Row" ({ cls := "NameScope$Row", name := "kind", desc := "(I)I" } : Jvm.MethodName) ({ cls := "NameScope$Row", name := "kind", desc := "(I)I" } : Jvm.MethodName)) ∈ gTB := gm 289 (by decide +kernel) rfl
set_option maxRecDepth 100000 in
theorem w_257 : (Jvm.Cond.code ({ cls := "NameScope$Row", name := "kind", desc := "(I)I" } : Jvm.MethodName) prog_5_method_4_code (2 : Nat) (Option.some Jvm.ClassFile.FieldType.int)) ∈ gTB := gm 290 rfl rfl
theorem w_259 : (Jvm.Cond.methodLink "NameScope$Scopes" (49 : Nat) ({ cls := "NameScope$Row", name := "second", desc := "(I)I" } : Jvm.MethodName)) ∈ gTB := gm 292 (by decide +kernel) rfl
theorem w_261 : (Jvm.Cond.methodLink "NameScope" (81 : Nat) ({ cls := "NameScope$Scopes", name := "enter", desc := "(I)V" } : Jvm.MethodName)) ∈ gTB := gm 294 (by decide +kernel) rfl
theorem w_262 : (Jvm.Cond.instanceMethod ({ cls := "NameScope$Scopes", name := "enter", desc := "(I)V" } : Jvm.MethodName)) ∈ gTB := gm 295 (by decide +kernel) rfl
theorem w_263 : (Jvm.Cond.selects "NameScope$Scopes" ({ cls := "NameScope$Scopes", name := "enter", desc := "(I)V" } : Jvm.MethodName) ({ cls := "NameScope$Scopes", name := "enter", desc := "(I)V" } : Jvm.MethodName)) ∈ gTB := gm 296 (by decide +kernel) rfl
set_option maxRecDepth 100000 in
theorem w_264 : (Jvm.Cond.code ({ cls := "NameScope$Scopes", name := "enter", desc := "(I)V" } : Jvm.MethodName) prog_6_method_5_code (3 : Nat) (Option.none : Option Jvm.ClassFile.FieldType)) ∈ gTB := gm 297 rfl rfl
theorem w_265 : (Jvm.Cond.methodLink "NameScope$Scopes" (55 : Nat) ({ cls := "NameScope$Scopes", name := "innermost", desc := "(I)I" } : Jvm.MethodName)) ∈ gTB := gm 298 (by decide +kernel) rfl
theorem w_266 : (Jvm.Cond.instanceMethod ({ cls := "NameScope$Scopes", name := "innermost", desc := "(I)I" } : Jvm.MethodName)) ∈ gTB := gm 299 (by decide +kernel) rfl
theorem w_267 : (Jvm.Cond.selects "NameScope$Scopes" ({ cls := "NameScope$Scopes", name := "innermost", desc := "(I)I" } : Jvm.MethodName) ({ cls := "NameScope$Scopes", name := "innermost", desc := "(I)I" } : Jvm.MethodName)) ∈ gTB := gm 300 (by decide +kernel) rfl
set_option maxRecDepth 100000 in
theorem w_268 : (Jvm.Cond.code ({ cls := "NameScope$Scopes", name := "innermost", desc := "(I)I" } : Jvm.MethodName) prog_6_method_4_code (2 : Nat) (Option.some Jvm.ClassFile.FieldType.int)) ∈ gTB := gm 301 rfl rfl
theorem w_269 : (Jvm.Cond.methodLink "NameScope" (85 : Nat) ({ cls := "NameScope", name := "bindNode", desc := "(I)Z" } : Jvm.MethodName)) ∈ gTB := gm 302 (by decide +kernel) rfl
theorem w_271 : (Jvm.Cond.instanceMethod ({ cls := "NameScope", name := "bindNode", desc := "(I)Z" } : Jvm.MethodName)) ∈ gTB := gm 304 (by decide +kernel) rfl
set_option maxRecDepth 100000 in
theorem w_272 : (Jvm.Cond.code ({ cls := "NameScope", name := "bindNode", desc := "(I)Z" } : Jvm.MethodName) prog_1_method_20_code (5 : Nat) (Option.some Jvm.ClassFile.FieldType.boolean)) ∈ gTB := gm 305 rfl rfl
theorem w_273 : (Jvm.Cond.methodLink "NameScope" (97 : Nat) ({ cls := "NameScope$Row", name := "kind", desc := "(I)I" } : Jvm.MethodName)) ∈ gTB := gm 306 (by decide +kernel) rfl
theorem w_274 : (Jvm.Cond.methodLink "NameScope" (101 : Nat) ({ cls := "NameScope$Row", name := "beside", desc := "(I)J" } : Jvm.MethodName)) ∈ gTB := gm 307 (by decide +kernel) rfl
theorem w_275 : (Jvm.Cond.instanceMethod ({ cls := "NameScope$Row", name := "beside", desc := "(I)J" } : Jvm.MethodName)) ∈ gTB := gm 308 (by decide +kernel) rfl
theorem w_276 : (Jvm.Cond.selects "NameScope$Row" ({ cls := "NameScope$Row", name := "beside", desc := "(I)J" } : Jvm.MethodName) ({ cls := "NameScope$Row", name := "beside", desc := "(I)J" } : Jvm.MethodName)) ∈ gTB := gm 309 (by decide +kernel) rfl
set_option maxRecDepth 100000 in
theorem w_277 : (Jvm.Cond.code ({ cls := "NameScope$Row", name := "beside", desc := "(I)J" } : Jvm.MethodName) prog_5_method_5_code (2 : Nat) (Option.some Jvm.ClassFile.FieldType.long)) ∈ gTB := gm 310 rfl rfl
theorem w_278 : (Jvm.Cond.constantLong "NameScope$Row" (30 : Nat) (-1 : Int64)) ∈ gTB := gm 311 (by decide +kernel) rfl
theorem w_279 : (Jvm.Cond.methodLink "NameScope" (145 : Nat) ({ cls := "NameScope", name := "bindName", desc := "(IJ)Z" } : Jvm.MethodName)) ∈ gTB := gm 312 (by decide +kernel) rfl
theorem w_281 : (Jvm.Cond.instanceMethod ({ cls := "NameScope", name := "bindName", desc := "(IJ)Z" } : Jvm.MethodName)) ∈ gTB := gm 314 (by decide +kernel) rfl
set_option maxRecDepth 100000 in
theorem w_282 : (Jvm.Cond.code ({ cls := "NameScope", name := "bindName", desc := "(IJ)Z" } : Jvm.MethodName) prog_1_method_21_code (6 : Nat) (Option.some Jvm.ClassFile.FieldType.boolean)) ∈ gTB := gm 315 rfl rfl
theorem w_283 : (Jvm.Cond.methodLink "NameScope" (152 : Nat) ({ cls := "NameScope$Scopes", name := "indexOf", desc := "(JLNameScope$Row;I)I" } : Jvm.MethodName)) ∈ gTB := gm 316 (by decide +kernel) rfl
theorem w_284 : (Jvm.Cond.instanceMethod ({ cls := "NameScope$Scopes", name := "indexOf", desc := "(JLNameScope$Row;I)I" } : Jvm.MethodName)) ∈ gTB := gm 317 (by decide +kernel) rfl
theorem w_285 : (Jvm.Cond.selects "NameScope$Scopes" ({ cls := "NameScope$Scopes", name := "indexOf", desc := "(JLNameScope$Row;I)I" } : Jvm.MethodName) ({ cls := "NameScope$Scopes", name := "indexOf", desc := "(JLNameScope$Row;I)I" } : Jvm.MethodName)) ∈ gTB := gm 318 (by decide +kernel) rfl
set_option maxRecDepth 100000 in
theorem w_286 : (Jvm.Cond.code ({ cls := "NameScope$Scopes", name := "indexOf", desc := "(JLNameScope$Row;I)I" } : Jvm.MethodName) prog_6_method_8_code (7 : Nat) (Option.some Jvm.ClassFile.FieldType.int)) ∈ gTB := gm 319 rfl rfl
theorem w_287 : (Jvm.Cond.methodLink "NameScope$Scopes" (57 : Nat) ({ cls := "NameScope$Scopes", name := "open", desc := "(I)I" } : Jvm.MethodName)) ∈ gTB := gm 320 (by decide +kernel) rfl
theorem w_288 : (Jvm.Cond.instanceMethod ({ cls := "NameScope$Scopes", name := "open", desc := "(I)I" } : Jvm.MethodName)) ∈ gTB := gm 321 (by decide +kernel) rfl
theorem w_289 : (Jvm.Cond.selects "NameScope$Scopes" ({ cls := "NameScope$Scopes", name := "open", desc := "(I)I" } : Jvm.MethodName) ({ cls := "NameScope$Scopes", name := "open", desc := "(I)I" } : Jvm.MethodName)) ∈ gTB := gm 322 (by decide +kernel) rfl
set_option maxRecDepth 100000 in
theorem w_290 : (Jvm.Cond.code ({ cls := "NameScope$Scopes", name := "open", desc := "(I)I" } : Jvm.MethodName) prog_6_method_6_code (2 : Nat) (Option.some Jvm.ClassFile.FieldType.int)) ∈ gTB := gm 323 rfl rfl
theorem w_291 : (Jvm.Cond.methodLink "NameScope$Scopes" (59 : Nat) ({ cls := "NameScope$Row", name := "beside", desc := "(I)J" } : Jvm.MethodName)) ∈ gTB := gm 324 (by decide +kernel) rfl
theorem w_292 : (Jvm.Cond.methodLink "NameScope" (156 : Nat) ({ cls := "NameScope$Globals", name := "find", desc := "(J)I" } : Jvm.MethodName)) ∈ gTB := gm 325 (by decide +kernel) rfl
theorem w_293 : (Jvm.Cond.methodLink "NameScope" (148 : Nat) ({ cls := "NameScope$Names", name := "firstFour", desc := "(J)J" } : Jvm.MethodName)) ∈ gTB := gm 326 (by decide +kernel) rfl
theorem w_294 : (Jvm.Cond.static ({ cls := "NameScope$Names", name := "firstFour", desc := "(J)J" } : Jvm.MethodName)) ∈ gTB := gm 327 (by decide +kernel) rfl
set_option maxRecDepth 100000 in
theorem w_295 : (Jvm.Cond.code ({ cls := "NameScope$Names", name := "firstFour", desc := "(J)J" } : Jvm.MethodName) prog_3_method_3_code (5 : Nat) (Option.some Jvm.ClassFile.FieldType.long)) ∈ gTB := gm 328 rfl rfl
theorem w_296 : (Jvm.Cond.methodLink "NameScope" (89 : Nat) ({ cls := "NameScope", name := "takeSpare", desc := "()V" } : Jvm.MethodName)) ∈ gTB := gm 329 (by decide +kernel) rfl
theorem w_298 : (Jvm.Cond.instanceMethod ({ cls := "NameScope", name := "takeSpare", desc := "()V" } : Jvm.MethodName)) ∈ gTB := gm 331 (by decide +kernel) rfl
set_option maxRecDepth 100000 in
theorem w_299 : (Jvm.Cond.code ({ cls := "NameScope", name := "takeSpare", desc := "()V" } : Jvm.MethodName) prog_1_method_19_code (2 : Nat) (Option.none : Option Jvm.ClassFile.FieldType)) ∈ gTB := gm 332 rfl rfl
theorem w_300 : (Jvm.Cond.methodLink "NameScopeLaw" (34 : Nat) ({ cls := "NameScope", name := "nodes", desc := "()I" } : Jvm.MethodName)) ∈ gTB := gm 333 (by decide +kernel) rfl
theorem w_301 : (Jvm.Cond.instanceMethod ({ cls := "NameScope", name := "nodes", desc := "()I" } : Jvm.MethodName)) ∈ gTB := gm 334 (by decide +kernel) rfl
theorem w_302 : (Jvm.Cond.selects "NameScope" ({ cls := "NameScope", name := "nodes", desc := "()I" } : Jvm.MethodName) ({ cls := "NameScope", name := "nodes", desc := "()I" } : Jvm.MethodName)) ∈ gTB := gm 335 (by decide +kernel) rfl
set_option maxRecDepth 100000 in
theorem w_303 : (Jvm.Cond.code ({ cls := "NameScope", name := "nodes", desc := "()I" } : Jvm.MethodName) prog_1_method_6_code (1 : Nat) (Option.some Jvm.ClassFile.FieldType.int)) ∈ gTB := gm 336 rfl rfl
theorem w_304 : (Jvm.Cond.methodLink "NameScopeLaw" (38 : Nat) ({ cls := "NameScope", name := "node", desc := "(II)J" } : Jvm.MethodName)) ∈ gTB := gm 337 (by decide +kernel) rfl
theorem w_305 : (Jvm.Cond.instanceMethod ({ cls := "NameScope", name := "node", desc := "(II)J" } : Jvm.MethodName)) ∈ gTB := gm 338 (by decide +kernel) rfl
theorem w_306 : (Jvm.Cond.selects "NameScope" ({ cls := "NameScope", name := "node", desc := "(II)J" } : Jvm.MethodName) ({ cls := "NameScope", name := "node", desc := "(II)J" } : Jvm.MethodName)) ∈ gTB := gm 339 (by decide +kernel) rfl
set_option maxRecDepth 100000 in
theorem w_307 : (Jvm.Cond.code ({ cls := "NameScope", name := "node", desc := "(II)J" } : Jvm.MethodName) prog_1_method_7_code (3 : Nat) (Option.some Jvm.ClassFile.FieldType.long)) ∈ gTB := gm 340 rfl rfl
theorem w_308 : (Jvm.Cond.methodLink "NameScope" (92 : Nat) ({ cls := "NameScope$Row", name := "has", desc := "(I)Z" } : Jvm.MethodName)) ∈ gTB := gm 341 (by decide +kernel) rfl
theorem w_309 : (Jvm.Cond.constantLong "NameScope" (95 : Nat) (-1 : Int64)) ∈ gTB := gm 342 (by decide +kernel) rfl
theorem w_310 : (Jvm.Cond.methodLink "NameScope" (105 : Nat) ({ cls := "NameScope$Row", name := "size", desc := "(I)I" } : Jvm.MethodName)) ∈ gTB := gm 343 (by decide +kernel) rfl
theorem w_311 : (Jvm.Cond.methodLink "NameScopeLaw" (43 : Nat) ({ cls := "NameScope", name := "uses", desc := "(I)I" } : Jvm.MethodName)) ∈ gTB := gm 344 (by decide +kernel) rfl
theorem w_312 : (Jvm.Cond.instanceMethod ({ cls := "NameScope", name := "uses", desc := "(I)I" } : Jvm.MethodName)) ∈ gTB := gm 345 (by decide +kernel) rfl
theorem w_313 : (Jvm.Cond.selects "NameScope" ({ cls := "NameScope", name := "uses", desc := "(I)I" } : Jvm.MethodName) ({ cls := "NameScope", name := "uses", desc := "(I)I" } : Jvm.MethodName)) ∈ gTB := gm 346 (by decide +kernel) rfl
set_option maxRecDepth 100000 in
theorem w_314 : (Jvm.Cond.code ({ cls := "NameScope", name := "uses", desc := "(I)I" } : Jvm.MethodName) prog_1_method_8_code (2 : Nat) (Option.some Jvm.ClassFile.FieldType.int)) ∈ gTB := gm 347 rfl rfl
theorem w_315 : (Jvm.Cond.methodLink "NameScope" (111 : Nat) ({ cls := "NameScope", name := "countUses", desc := "(I)I" } : Jvm.MethodName)) ∈ gTB := gm 348 (by decide +kernel) rfl
theorem w_317 : (Jvm.Cond.instanceMethod ({ cls := "NameScope", name := "countUses", desc := "(I)I" } : Jvm.MethodName)) ∈ gTB := gm 350 (by decide +kernel) rfl
set_option maxRecDepth 100000 in
theorem w_318 : (Jvm.Cond.code ({ cls := "NameScope", name := "countUses", desc := "(I)I" } : Jvm.MethodName) prog_1_method_23_code (6 : Nat) (Option.some Jvm.ClassFile.FieldType.int)) ∈ gTB := gm 351 rfl rfl
theorem w_319 : (Jvm.Cond.methodLink "NameScope" (159 : Nat) ({ cls := "NameScope$Scopes", name := "depth", desc := "(I)I" } : Jvm.MethodName)) ∈ gTB := gm 352 (by decide +kernel) rfl
theorem w_320 : (Jvm.Cond.methodLink "NameScope" (120 : Nat) ({ cls := "NameScope$Row", name := "end", desc := "(I)I" } : Jvm.MethodName)) ∈ gTB := gm 353 (by decide +kernel) rfl
theorem w_321 : (Jvm.Cond.methodLink "NameScope" (117 : Nat) ({ cls := "NameScope$Row", name := "second", desc := "(I)I" } : Jvm.MethodName)) ∈ gTB := gm 354 (by decide +kernel) rfl
theorem w_322 : (Jvm.Cond.methodLink "NameScopeLaw" (48 : Nat) ({ cls := "NameScope", name := "contract", desc := "(I)I" } : Jvm.MethodName)) ∈ gTB := gm 355 (by decide +kernel) rfl
theorem w_323 : (Jvm.Cond.instanceMethod ({ cls := "NameScope", name := "contract", desc := "(I)I" } : Jvm.MethodName)) ∈ gTB := gm 356 (by decide +kernel) rfl
theorem w_324 : (Jvm.Cond.selects "NameScope" ({ cls := "NameScope", name := "contract", desc := "(I)I" } : Jvm.MethodName) ({ cls := "NameScope", name := "contract", desc := "(I)I" } : Jvm.MethodName)) ∈ gTB := gm 357 (by decide +kernel) rfl
set_option maxRecDepth 100000 in
theorem w_325 : (Jvm.Cond.code ({ cls := "NameScope", name := "contract", desc := "(I)I" } : Jvm.MethodName) prog_1_method_9_code (6 : Nat) (Option.some Jvm.ClassFile.FieldType.int)) ∈ gTB := gm 358 rfl rfl
theorem w_326 : (Jvm.Cond.methodLink "NameScope" (114 : Nat) ({ cls := "NameScope", name := "contractible", desc := "(I)I" } : Jvm.MethodName)) ∈ gTB := gm 359 (by decide +kernel) rfl
theorem w_328 : (Jvm.Cond.instanceMethod ({ cls := "NameScope", name := "contractible", desc := "(I)I" } : Jvm.MethodName)) ∈ gTB := gm 361 (by decide +kernel) rfl
set_option maxRecDepth 100000 in
theorem w_329 : (Jvm.Cond.code ({ cls := "NameScope", name := "contractible", desc := "(I)I" } : Jvm.MethodName) prog_1_method_22_code (2 : Nat) (Option.some Jvm.ClassFile.FieldType.int)) ∈ gTB := gm 362 rfl rfl
theorem w_330 : (Jvm.Cond.methodLink "NameScope" (123 : Nat) ({ cls := "NameScope", name := "copy", desc := "(II)V" } : Jvm.MethodName)) ∈ gTB := gm 363 (by decide +kernel) rfl
theorem w_332 : (Jvm.Cond.instanceMethod ({ cls := "NameScope", name := "copy", desc := "(II)V" } : Jvm.MethodName)) ∈ gTB := gm 365 (by decide +kernel) rfl
set_option maxRecDepth 100000 in
theorem w_333 : (Jvm.Cond.code ({ cls := "NameScope", name := "copy", desc := "(II)V" } : Jvm.MethodName) prog_1_method_24_code (4 : Nat) (Option.none : Option Jvm.ClassFile.FieldType)) ∈ gTB := gm 366 rfl rfl
theorem w_334 : (Jvm.Cond.methodLink "NameScope" (127 : Nat) ({ cls := "NameScope", name := "copyLastPart", desc := "(II)V" } : Jvm.MethodName)) ∈ gTB := gm 367 (by decide +kernel) rfl
theorem w_336 : (Jvm.Cond.instanceMethod ({ cls := "NameScope", name := "copyLastPart", desc := "(II)V" } : Jvm.MethodName)) ∈ gTB := gm 369 (by decide +kernel) rfl
set_option maxRecDepth 100000 in
theorem w_337 : (Jvm.Cond.code ({ cls := "NameScope", name := "copyLastPart", desc := "(II)V" } : Jvm.MethodName) prog_1_method_25_code (10 : Nat) (Option.none : Option Jvm.ClassFile.FieldType)) ∈ gTB := gm 370 rfl rfl
theorem w_338 : (Jvm.Cond.methodLink "NameScope" (162 : Nat) ({ cls := "NameScope", name := "copyDeeper", desc := "(II)V" } : Jvm.MethodName)) ∈ gTB := gm 371 (by decide +kernel) rfl
theorem w_340 : (Jvm.Cond.instanceMethod ({ cls := "NameScope", name := "copyDeeper", desc := "(II)V" } : Jvm.MethodName)) ∈ gTB := gm 373 (by decide +kernel) rfl
set_option maxRecDepth 100000 in
theorem w_341 : (Jvm.Cond.code ({ cls := "NameScope", name := "copyDeeper", desc := "(II)V" } : Jvm.MethodName) prog_1_method_26_code (9 : Nat) (Option.none : Option Jvm.ClassFile.FieldType)) ∈ gTB := gm 374 rfl rfl
theorem w_342 : (Jvm.Cond.methodLink "NameScopeLaw" (52 : Nat) ({ cls := "NameScope", name := "write", desc := "()I" } : Jvm.MethodName)) ∈ gTB := gm 375 (by decide +kernel) rfl
theorem w_343 : (Jvm.Cond.instanceMethod ({ cls := "NameScope", name := "write", desc := "()I" } : Jvm.MethodName)) ∈ gTB := gm 376 (by decide +kernel) rfl
theorem w_344 : (Jvm.Cond.selects "NameScope" ({ cls := "NameScope", name := "write", desc := "()I" } : Jvm.MethodName) ({ cls := "NameScope", name := "write", desc := "()I" } : Jvm.MethodName)) ∈ gTB := gm 377 (by decide +kernel) rfl
set_option maxRecDepth 100000 in
theorem w_345 : (Jvm.Cond.code ({ cls := "NameScope", name := "write", desc := "()I" } : Jvm.MethodName) prog_1_method_10_code (1 : Nat) (Option.some Jvm.ClassFile.FieldType.int)) ∈ gTB := gm 378 rfl rfl
theorem w_346 : (Jvm.Cond.methodLink "NameScope" (130 : Nat) ({ cls := "NameScope$Pen", name := "put", desc := "(LNameScope$Row;LNameScope$Globals;LNameScope$Row;)V" } : Jvm.MethodName)) ∈ gTB := gm 379 (by decide +kernel) rfl
theorem w_347 : (Jvm.Cond.instanceMethod ({ cls := "NameScope$Pen", name := "put", desc := "(LNameScope$Row;LNameScope$Globals;LNameScope$Row;)V" } : Jvm.MethodName)) ∈ gTB := gm 380 (by decide +kernel) rfl
theorem w_348 : (Jvm.Cond.selects "NameScope$Pen" ({ cls := "NameScope$Pen", name := "put", desc := "(LNameScope$Row;LNameScope$Globals;LNameScope$Row;)V" } : Jvm.MethodName) ({ cls := "NameScope$Pen", name := "put", desc := "(LNameScope$Row;LNameScope$Globals;LNameScope$Row;)V" } : Jvm.MethodName)) ∈ gTB := gm 381 (by decide +kernel) rfl
set_option maxRecDepth 100000 in
theorem w_349 : (Jvm.Cond.code ({ cls := "NameScope$Pen", name := "put", desc := "(LNameScope$Row;LNameScope$Globals;LNameScope$Row;)V" } : Jvm.MethodName) prog_4_method_2_code (7 : Nat) (Option.none : Option Jvm.ClassFile.FieldType)) ∈ gTB := gm 382 rfl rfl
theorem w_350 : (Jvm.Cond.methodLink "NameScope$Pen" (37 : Nat) ({ cls := "NameScope$Row", name := "count", desc := "()I" } : Jvm.MethodName)) ∈ gTB := gm 383 (by decide +kernel) rfl
theorem w_351 : (Jvm.Cond.methodLink "NameScope$Pen" (43 : Nat) ({ cls := "NameScope$Pen", name := "makeRoom", desc := "(I)V" } : Jvm.MethodName)) ∈ gTB := gm 384 (by decide +kernel) rfl
theorem w_353 : (Jvm.Cond.instanceMethod ({ cls := "NameScope$Pen", name := "makeRoom", desc := "(I)V" } : Jvm.MethodName)) ∈ gTB := gm 386 (by decide +kernel) rfl
set_option maxRecDepth 100000 in
theorem w_354 : (Jvm.Cond.code ({ cls := "NameScope$Pen", name := "makeRoom", desc := "(I)V" } : Jvm.MethodName) prog_4_method_13_code (3 : Nat) (Option.none : Option Jvm.ClassFile.FieldType)) ∈ gTB := gm 387 rfl rfl
theorem w_356 : (Jvm.Cond.methodLink "NameScope$Pen" (47 : Nat) ({ cls := "NameScope$Scopes", name := "read", desc := "(LNameScope$Row;)V" } : Jvm.MethodName)) ∈ gTB := gm 389 (by decide +kernel) rfl
theorem w_357 : (Jvm.Cond.methodLink "NameScope$Pen" (51 : Nat) ({ cls := "NameScope$Pen", name := "linkUses", desc := "(LNameScope$Row;)V" } : Jvm.MethodName)) ∈ gTB := gm 390 (by decide +kernel) rfl
theorem w_359 : (Jvm.Cond.instanceMethod ({ cls := "NameScope$Pen", name := "linkUses", desc := "(LNameScope$Row;)V" } : Jvm.MethodName)) ∈ gTB := gm 392 (by decide +kernel) rfl
set_option maxRecDepth 100000 in
theorem w_360 : (Jvm.Cond.code ({ cls := "NameScope$Pen", name := "linkUses", desc := "(LNameScope$Row;)V" } : Jvm.MethodName) prog_4_method_3_code (6 : Nat) (Option.none : Option Jvm.ClassFile.FieldType)) ∈ gTB := gm 393 rfl rfl
theorem w_361 : (Jvm.Cond.methodLink "NameScope$Pen" (57 : Nat) ({ cls := "NameScope$Scopes", name := "enter", desc := "(I)V" } : Jvm.MethodName)) ∈ gTB := gm 394 (by decide +kernel) rfl
theorem w_362 : (Jvm.Cond.methodLink "NameScope$Pen" (82 : Nat) ({ cls := "NameScope$Pen", name := "usedBy", desc := "(ILNameScope$Row;)I" } : Jvm.MethodName)) ∈ gTB := gm 395 (by decide +kernel) rfl
theorem w_364 : (Jvm.Cond.instanceMethod ({ cls := "NameScope$Pen", name := "usedBy", desc := "(ILNameScope$Row;)I" } : Jvm.MethodName)) ∈ gTB := gm 397 (by decide +kernel) rfl
set_option maxRecDepth 100000 in
theorem w_365 : (Jvm.Cond.code ({ cls := "NameScope$Pen", name := "usedBy", desc := "(ILNameScope$Row;)I" } : Jvm.MethodName) prog_4_method_4_code (5 : Nat) (Option.some Jvm.ClassFile.FieldType.int)) ∈ gTB := gm 398 rfl rfl
theorem w_366 : (Jvm.Cond.constantLong "NameScope$Pen" (90 : Nat) (-1 : Int64)) ∈ gTB := gm 399 (by decide +kernel) rfl
theorem w_367 : (Jvm.Cond.methodLink "NameScope$Pen" (67 : Nat) ({ cls := "NameScope$Row", name := "kind", desc := "(I)I" } : Jvm.MethodName)) ∈ gTB := gm 400 (by decide +kernel) rfl
theorem w_368 : (Jvm.Cond.methodLink "NameScope$Pen" (92 : Nat) ({ cls := "NameScope$Row", name := "beside", desc := "(I)J" } : Jvm.MethodName)) ∈ gTB := gm 401 (by decide +kernel) rfl
theorem w_369 : (Jvm.Cond.methodLink "NameScope$Pen" (96 : Nat) ({ cls := "NameScope$Scopes", name := "binderOf", desc := "(IJ)I" } : Jvm.MethodName)) ∈ gTB := gm 402 (by decide +kernel) rfl
theorem w_370 : (Jvm.Cond.instanceMethod ({ cls := "NameScope$Scopes", name := "binderOf", desc := "(IJ)I" } : Jvm.MethodName)) ∈ gTB := gm 403 (by decide +kernel) rfl
theorem w_371 : (Jvm.Cond.selects "NameScope$Scopes" ({ cls := "NameScope$Scopes", name := "binderOf", desc := "(IJ)I" } : Jvm.MethodName) ({ cls := "NameScope$Scopes", name := "binderOf", desc := "(IJ)I" } : Jvm.MethodName)) ∈ gTB := gm 404 (by decide +kernel) rfl
set_option maxRecDepth 100000 in
theorem w_372 : (Jvm.Cond.code ({ cls := "NameScope$Scopes", name := "binderOf", desc := "(IJ)I" } : Jvm.MethodName) prog_6_method_7_code (6 : Nat) (Option.some Jvm.ClassFile.FieldType.int)) ∈ gTB := gm 405 rfl rfl
theorem w_373 : (Jvm.Cond.methodLink "NameScope$Pen" (86 : Nat) ({ cls := "NameScope$Pen", name := "setNext", desc := "(II)V" } : Jvm.MethodName)) ∈ gTB := gm 406 (by decide +kernel) rfl
theorem w_375 : (Jvm.Cond.instanceMethod ({ cls := "NameScope$Pen", name := "setNext", desc := "(II)V" } : Jvm.MethodName)) ∈ gTB := gm 408 (by decide +kernel) rfl
set_option maxRecDepth 100000 in
theorem w_376 : (Jvm.Cond.code ({ cls := "NameScope$Pen", name := "setNext", desc := "(II)V" } : Jvm.MethodName) prog_4_method_6_code (3 : Nat) (Option.none : Option Jvm.ClassFile.FieldType)) ∈ gTB := gm 409 rfl rfl
theorem w_377 : (Jvm.Cond.methodLink "NameScope$Pen" (54 : Nat) ({ cls := "NameScope$Row", name := "clear", desc := "()V" } : Jvm.MethodName)) ∈ gTB := gm 410 (by decide +kernel) rfl
theorem w_378 : (Jvm.Cond.methodLink "NameScope$Pen" (60 : Nat) ({ cls := "NameScope$Scopes", name := "innermost", desc := "(I)I" } : Jvm.MethodName)) ∈ gTB := gm 411 (by decide +kernel) rfl
theorem w_379 : (Jvm.Cond.methodLink "NameScope$Pen" (64 : Nat) ({ cls := "NameScope$Row", name := "second", desc := "(I)I" } : Jvm.MethodName)) ∈ gTB := gm 412 (by decide +kernel) rfl
theorem w_380 : (Jvm.Cond.methodLink "NameScope$Pen" (70 : Nat) ({ cls := "NameScope$Pen", name := "chooseName", desc := "(ILNameScope$Row;LNameScope$Globals;LNameScope$Row;)J" } : Jvm.MethodName)) ∈ gTB := gm 413 (by decide +kernel) rfl
theorem w_382 : (Jvm.Cond.instanceMethod ({ cls := "NameScope$Pen", name := "chooseName", desc := "(ILNameScope$Row;LNameScope$Globals;LNameScope$Row;)J" } : Jvm.MethodName)) ∈ gTB := gm 415 (by decide +kernel) rfl
set_option maxRecDepth 100000 in
theorem w_383 : (Jvm.Cond.code ({ cls := "NameScope$Pen", name := "chooseName", desc := "(ILNameScope$Row;LNameScope$Globals;LNameScope$Row;)J" } : Jvm.MethodName) prog_4_method_9_code (8 : Nat) (Option.some Jvm.ClassFile.FieldType.long)) ∈ gTB := gm 416 rfl rfl
theorem w_384 : (Jvm.Cond.constantLong "NameScope$Pen" (118 : Nat) (120 : Int64)) ∈ gTB := gm 417 (by decide +kernel) rfl
theorem w_385 : (Jvm.Cond.methodLink "NameScope$Pen" (120 : Nat) ({ cls := "NameScope$Row", name := "end", desc := "(I)I" } : Jvm.MethodName)) ∈ gTB := gm 418 (by decide +kernel) rfl
theorem w_386 : (Jvm.Cond.methodLink "NameScope$Pen" (123 : Nat) ({ cls := "NameScope$Pen", name := "gatherNear", desc := "(IILNameScope$Globals;LNameScope$Row;)V" } : Jvm.MethodName)) ∈ gTB := gm 419 (by decide +kernel) rfl
theorem w_388 : (Jvm.Cond.instanceMethod ({ cls := "NameScope$Pen", name := "gatherNear", desc := "(IILNameScope$Globals;LNameScope$Row;)V" } : Jvm.MethodName)) ∈ gTB := gm 421 (by decide +kernel) rfl
set_option maxRecDepth 100000 in
theorem w_389 : (Jvm.Cond.code ({ cls := "NameScope$Pen", name := "gatherNear", desc := "(IILNameScope$Globals;LNameScope$Row;)V" } : Jvm.MethodName) prog_4_method_10_code (9 : Nat) (Option.none : Option Jvm.ClassFile.FieldType)) ∈ gTB := gm 422 rfl rfl
theorem w_390 : (Jvm.Cond.methodLink "NameScope$Pen" (135 : Nat) ({ cls := "NameScope$Globals", name := "count", desc := "()I" } : Jvm.MethodName)) ∈ gTB := gm 423 (by decide +kernel) rfl
theorem w_391 : (Jvm.Cond.instanceMethod ({ cls := "NameScope$Globals", name := "count", desc := "()I" } : Jvm.MethodName)) ∈ gTB := gm 424 (by decide +kernel) rfl
theorem w_392 : (Jvm.Cond.selects "NameScope$Globals" ({ cls := "NameScope$Globals", name := "count", desc := "()I" } : Jvm.MethodName) ({ cls := "NameScope$Globals", name := "count", desc := "()I" } : Jvm.MethodName)) ∈ gTB := gm 425 (by decide +kernel) rfl
set_option maxRecDepth 100000 in
theorem w_393 : (Jvm.Cond.code ({ cls := "NameScope$Globals", name := "count", desc := "()I" } : Jvm.MethodName) prog_2_method_2_code (1 : Nat) (Option.some Jvm.ClassFile.FieldType.int)) ∈ gTB := gm 426 rfl rfl
theorem w_394 : (Jvm.Cond.methodLink "NameScope$Pen" (113 : Nat) ({ cls := "NameScope$Pen", name := "nextOf", desc := "(I)I" } : Jvm.MethodName)) ∈ gTB := gm 427 (by decide +kernel) rfl
theorem w_396 : (Jvm.Cond.instanceMethod ({ cls := "NameScope$Pen", name := "nextOf", desc := "(I)I" } : Jvm.MethodName)) ∈ gTB := gm 429 (by decide +kernel) rfl
set_option maxRecDepth 100000 in
theorem w_397 : (Jvm.Cond.code ({ cls := "NameScope$Pen", name := "nextOf", desc := "(I)I" } : Jvm.MethodName) prog_4_method_5_code (2 : Nat) (Option.some Jvm.ClassFile.FieldType.int)) ∈ gTB := gm 430 rfl rfl
theorem w_398 : (Jvm.Cond.methodLink "NameScope$Pen" (107 : Nat) ({ cls := "NameScope$Globals", name := "name", desc := "(J)J" } : Jvm.MethodName)) ∈ gTB := gm 431 (by decide +kernel) rfl
theorem w_399 : (Jvm.Cond.instanceMethod ({ cls := "NameScope$Globals", name := "name", desc := "(J)J" } : Jvm.MethodName)) ∈ gTB := gm 432 (by decide +kernel) rfl
theorem w_400 : (Jvm.Cond.selects "NameScope$Globals" ({ cls := "NameScope$Globals", name := "name", desc := "(J)J" } : Jvm.MethodName) ({ cls := "NameScope$Globals", name := "name", desc := "(J)J" } : Jvm.MethodName)) ∈ gTB := gm 433 (by decide +kernel) rfl
set_option maxRecDepth 100000 in
theorem w_401 : (Jvm.Cond.code ({ cls := "NameScope$Globals", name := "name", desc := "(J)J" } : Jvm.MethodName) prog_2_method_5_code (3 : Nat) (Option.some Jvm.ClassFile.FieldType.long)) ∈ gTB := gm 434 rfl rfl
theorem w_402 : (Jvm.Cond.methodLink "NameScope$Pen" (136 : Nat) ({ cls := "NameScope$Pen", name := "addNear", desc := "(J)V" } : Jvm.MethodName)) ∈ gTB := gm 435 (by decide +kernel) rfl
theorem w_404 : (Jvm.Cond.instanceMethod ({ cls := "NameScope$Pen", name := "addNear", desc := "(J)V" } : Jvm.MethodName)) ∈ gTB := gm 437 (by decide +kernel) rfl
set_option maxRecDepth 100000 in
theorem w_405 : (Jvm.Cond.code ({ cls := "NameScope$Pen", name := "addNear", desc := "(J)V" } : Jvm.MethodName) prog_4_method_11_code (3 : Nat) (Option.none : Option Jvm.ClassFile.FieldType)) ∈ gTB := gm 438 rfl rfl
theorem w_406 : (Jvm.Cond.methodLink "NameScope$Pen" (140 : Nat) ({ cls := "NameScope$Scopes", name := "depth", desc := "(I)I" } : Jvm.MethodName)) ∈ gTB := gm 439 (by decide +kernel) rfl
theorem w_407 : (Jvm.Cond.methodLink "NameScope$Pen" (143 : Nat) ({ cls := "NameScope$Scopes", name := "open", desc := "(I)I" } : Jvm.MethodName)) ∈ gTB := gm 440 (by decide +kernel) rfl
theorem w_408 : (Jvm.Cond.methodLink "NameScope$Pen" (127 : Nat) ({ cls := "NameScope$Pen", name := "leastNumber", desc := "(J)I" } : Jvm.MethodName)) ∈ gTB := gm 441 (by decide +kernel) rfl
theorem w_410 : (Jvm.Cond.instanceMethod ({ cls := "NameScope$Pen", name := "leastNumber", desc := "(J)I" } : Jvm.MethodName)) ∈ gTB := gm 443 (by decide +kernel) rfl
set_option maxRecDepth 100000 in
theorem w_411 : (Jvm.Cond.code ({ cls := "NameScope$Pen", name := "leastNumber", desc := "(J)I" } : Jvm.MethodName) prog_4_method_12_code (5 : Nat) (Option.some Jvm.ClassFile.FieldType.int)) ∈ gTB := gm 444 rfl rfl
theorem w_412 : (Jvm.Cond.methodLink "NameScope$Pen" (146 : Nat) ({ cls := "NameScope$Names", name := "numberBehind", desc := "(JJ)I" } : Jvm.MethodName)) ∈ gTB := gm 445 (by decide +kernel) rfl
theorem w_413 : (Jvm.Cond.static ({ cls := "NameScope$Names", name := "numberBehind", desc := "(JJ)I" } : Jvm.MethodName)) ∈ gTB := gm 446 (by decide +kernel) rfl
set_option maxRecDepth 100000 in
theorem w_414 : (Jvm.Cond.code ({ cls := "NameScope$Names", name := "numberBehind", desc := "(JJ)I" } : Jvm.MethodName) prog_3_method_5_code (11 : Nat) (Option.some Jvm.ClassFile.FieldType.int)) ∈ gTB := gm 447 rfl rfl
theorem w_415 : (Jvm.Cond.methodLink "NameScope$Pen" (150 : Nat) ({ cls := "java/lang/Math", name := "max", desc := "(II)I" } : Jvm.MethodName)) ∈ gTB := gm 448 (by decide +kernel) rfl
theorem w_416 : (Jvm.Cond.methodLink "NameScope$Pen" (131 : Nat) ({ cls := "NameScope$Names", name := "numbered", desc := "(JI)J" } : Jvm.MethodName)) ∈ gTB := gm 449 (by decide +kernel) rfl
theorem w_417 : (Jvm.Cond.static ({ cls := "NameScope$Names", name := "numbered", desc := "(JI)J" } : Jvm.MethodName)) ∈ gTB := gm 450 (by decide +kernel) rfl
set_option maxRecDepth 100000 in
theorem w_418 : (Jvm.Cond.code ({ cls := "NameScope$Names", name := "numbered", desc := "(JI)J" } : Jvm.MethodName) prog_3_method_4_code (6 : Nat) (Option.some Jvm.ClassFile.FieldType.long)) ∈ gTB := gm 451 rfl rfl
theorem w_419 : (Jvm.Cond.methodLink "NameScope$Pen" (74 : Nat) ({ cls := "NameScope$Row", name := "setBeside", desc := "(IJ)V" } : Jvm.MethodName)) ∈ gTB := gm 452 (by decide +kernel) rfl
theorem w_420 : (Jvm.Cond.instanceMethod ({ cls := "NameScope$Row", name := "setBeside", desc := "(IJ)V" } : Jvm.MethodName)) ∈ gTB := gm 453 (by decide +kernel) rfl
theorem w_421 : (Jvm.Cond.selects "NameScope$Row" ({ cls := "NameScope$Row", name := "setBeside", desc := "(IJ)V" } : Jvm.MethodName) ({ cls := "NameScope$Row", name := "setBeside", desc := "(IJ)V" } : Jvm.MethodName)) ∈ gTB := gm 454 (by decide +kernel) rfl
set_option maxRecDepth 100000 in
theorem w_422 : (Jvm.Cond.code ({ cls := "NameScope$Row", name := "setBeside", desc := "(IJ)V" } : Jvm.MethodName) prog_5_method_11_code (4 : Nat) (Option.none : Option Jvm.ClassFile.FieldType)) ∈ gTB := gm 455 rfl rfl
theorem w_423 : (Jvm.Cond.methodLink "NameScope$Pen" (78 : Nat) ({ cls := "NameScope$Pen", name := "putNode", desc := "(ILNameScope$Row;LNameScope$Globals;LNameScope$Row;)V" } : Jvm.MethodName)) ∈ gTB := gm 456 (by decide +kernel) rfl
theorem w_425 : (Jvm.Cond.instanceMethod ({ cls := "NameScope$Pen", name := "putNode", desc := "(ILNameScope$Row;LNameScope$Globals;LNameScope$Row;)V" } : Jvm.MethodName)) ∈ gTB := gm 458 (by decide +kernel) rfl
set_option maxRecDepth 100000 in
theorem w_426 : (Jvm.Cond.code ({ cls := "NameScope$Pen", name := "putNode", desc := "(ILNameScope$Row;LNameScope$Globals;LNameScope$Row;)V" } : Jvm.MethodName) prog_4_method_7_code (9 : Nat) (Option.none : Option Jvm.ClassFile.FieldType)) ∈ gTB := gm 459 rfl rfl
theorem w_427 : (Jvm.Cond.methodLink "NameScope$Pen" (100 : Nat) ({ cls := "NameScope$Row", name := "add", desc := "(IJ)V" } : Jvm.MethodName)) ∈ gTB := gm 460 (by decide +kernel) rfl
theorem w_428 : (Jvm.Cond.methodLink "NameScope$Pen" (103 : Nat) ({ cls := "NameScope$Pen", name := "passUse", desc := "(ILNameScope$Row;)V" } : Jvm.MethodName)) ∈ gTB := gm 461 (by decide +kernel) rfl
theorem w_430 : (Jvm.Cond.instanceMethod ({ cls := "NameScope$Pen", name := "passUse", desc := "(ILNameScope$Row;)V" } : Jvm.MethodName)) ∈ gTB := gm 463 (by decide +kernel) rfl
set_option maxRecDepth 100000 in
theorem w_431 : (Jvm.Cond.code ({ cls := "NameScope$Pen", name := "passUse", desc := "(ILNameScope$Row;)V" } : Jvm.MethodName) prog_4_method_8_code (3 : Nat) (Option.none : Option Jvm.ClassFile.FieldType)) ∈ gTB := gm 464 rfl rfl
theorem w_432 : (Jvm.Cond.methodLink "NameScopeLaw" (56 : Nat) ({ cls := "NameScope", name := "written", desc := "(II)J" } : Jvm.MethodName)) ∈ gTB := gm 465 (by decide +kernel) rfl
theorem w_433 : (Jvm.Cond.instanceMethod ({ cls := "NameScope", name := "written", desc := "(II)J" } : Jvm.MethodName)) ∈ gTB := gm 466 (by decide +kernel) rfl
theorem w_434 : (Jvm.Cond.selects "NameScope" ({ cls := "NameScope", name := "written", desc := "(II)J" } : Jvm.MethodName) ({ cls := "NameScope", name := "written", desc := "(II)J" } : Jvm.MethodName)) ∈ gTB := gm 467 (by decide +kernel) rfl
set_option maxRecDepth 100000 in
theorem w_435 : (Jvm.Cond.code ({ cls := "NameScope", name := "written", desc := "(II)J" } : Jvm.MethodName) prog_1_method_11_code (3 : Nat) (Option.some Jvm.ClassFile.FieldType.long)) ∈ gTB := gm 468 rfl rfl
theorem w_436 : (Jvm.Cond.methodLink "NameScopeLaw" (60 : Nat) ({ cls := "NameScope", name := "again", desc := "()I" } : Jvm.MethodName)) ∈ gTB := gm 469 (by decide +kernel) rfl
theorem w_437 : (Jvm.Cond.instanceMethod ({ cls := "NameScope", name := "again", desc := "()I" } : Jvm.MethodName)) ∈ gTB := gm 470 (by decide +kernel) rfl
theorem w_438 : (Jvm.Cond.selects "NameScope" ({ cls := "NameScope", name := "again", desc := "()I" } : Jvm.MethodName) ({ cls := "NameScope", name := "again", desc := "()I" } : Jvm.MethodName)) ∈ gTB := gm 471 (by decide +kernel) rfl
set_option maxRecDepth 100000 in
theorem w_439 : (Jvm.Cond.code ({ cls := "NameScope", name := "again", desc := "()I" } : Jvm.MethodName) prog_1_method_12_code (1 : Nat) (Option.some Jvm.ClassFile.FieldType.int)) ∈ gTB := gm 472 rfl rfl
theorem w_440 : (Jvm.Cond.methodLink "NameScope" (134 : Nat) ({ cls := "NameScope$Row", name := "become", desc := "(LNameScope$Row;)V" } : Jvm.MethodName)) ∈ gTB := gm 473 (by decide +kernel) rfl
theorem w_441 : (Jvm.Cond.instanceMethod ({ cls := "NameScope$Row", name := "become", desc := "(LNameScope$Row;)V" } : Jvm.MethodName)) ∈ gTB := gm 474 (by decide +kernel) rfl
theorem w_442 : (Jvm.Cond.selects "NameScope$Row" ({ cls := "NameScope$Row", name := "become", desc := "(LNameScope$Row;)V" } : Jvm.MethodName) ({ cls := "NameScope$Row", name := "become", desc := "(LNameScope$Row;)V" } : Jvm.MethodName)) ∈ gTB := gm 475 (by decide +kernel) rfl
set_option maxRecDepth 100000 in
theorem w_443 : (Jvm.Cond.code ({ cls := "NameScope$Row", name := "become", desc := "(LNameScope$Row;)V" } : Jvm.MethodName) prog_5_method_12_code (2 : Nat) (Option.none : Option Jvm.ClassFile.FieldType)) ∈ gTB := gm 476 rfl rfl
theorem w_444 : (Jvm.Cond.methodLink "NameScope$Row" (43 : Nat) ({ cls := "java/lang/System", name := "arraycopy", desc := "(Ljava/lang/Object;ILjava/lang/Object;II)V" } : Jvm.MethodName)) ∈ gTB := gm 477 (by decide +kernel) rfl
theorem w_445 : (Jvm.Cond.methodLink "NameScopeLaw" (64 : Nat) ({ cls := "NameScope", name := "keep", desc := "()I" } : Jvm.MethodName)) ∈ gTB := gm 478 (by decide +kernel) rfl
theorem w_446 : (Jvm.Cond.instanceMethod ({ cls := "NameScope", name := "keep", desc := "()I" } : Jvm.MethodName)) ∈ gTB := gm 479 (by decide +kernel) rfl
theorem w_447 : (Jvm.Cond.selects "NameScope" ({ cls := "NameScope", name := "keep", desc := "()I" } : Jvm.MethodName) ({ cls := "NameScope", name := "keep", desc := "()I" } : Jvm.MethodName)) ∈ gTB := gm 480 (by decide +kernel) rfl
set_option maxRecDepth 100000 in
theorem w_448 : (Jvm.Cond.code ({ cls := "NameScope", name := "keep", desc := "()I" } : Jvm.MethodName) prog_1_method_13_code (1 : Nat) (Option.some Jvm.ClassFile.FieldType.int)) ∈ gTB := gm 481 rfl rfl
theorem w_449 : (Jvm.Cond.methodLink "NameScopeLaw" (68 : Nat) ({ cls := "NameScope", name := "same", desc := "()Z" } : Jvm.MethodName)) ∈ gTB := gm 482 (by decide +kernel) rfl
theorem w_450 : (Jvm.Cond.instanceMethod ({ cls := "NameScope", name := "same", desc := "()Z" } : Jvm.MethodName)) ∈ gTB := gm 483 (by decide +kernel) rfl
theorem w_451 : (Jvm.Cond.selects "NameScope" ({ cls := "NameScope", name := "same", desc := "()Z" } : Jvm.MethodName) ({ cls := "NameScope", name := "same", desc := "()Z" } : Jvm.MethodName)) ∈ gTB := gm 484 (by decide +kernel) rfl
set_option maxRecDepth 100000 in
theorem w_452 : (Jvm.Cond.code ({ cls := "NameScope", name := "same", desc := "()Z" } : Jvm.MethodName) prog_1_method_14_code (4 : Nat) (Option.some Jvm.ClassFile.FieldType.boolean)) ∈ gTB := gm 485 rfl rfl
theorem w_453 : (Jvm.Cond.classLink "NameScopeLaw" (10 : Nat) "NameScopeModel") ∈ gTB := gm 486 (by decide +kernel) rfl
theorem w_454 : (Jvm.Cond.instantiable "NameScopeModel" (22 : Nat)) ∈ gTB := gm 487 (by decide +kernel) rfl
theorem w_455 : (Jvm.Cond.methodLink "NameScopeLaw" (12 : Nat) ({ cls := "NameScopeModel", name := "<init>", desc := "()V" } : Jvm.MethodName)) ∈ gTB := gm 488 (by decide +kernel) rfl
theorem w_456 : (Jvm.Cond.instanceMethod ({ cls := "NameScopeModel", name := "<init>", desc := "()V" } : Jvm.MethodName)) ∈ gTB := gm 489 (by decide +kernel) rfl
set_option maxRecDepth 100000 in
theorem w_457 : (Jvm.Cond.code ({ cls := "NameScopeModel", name := "<init>", desc := "()V" } : Jvm.MethodName) prog_8_method_1_code (1 : Nat) (Option.none : Option Jvm.ClassFile.FieldType)) ∈ gTB := gm 490 rfl rfl
theorem w_458 : (Jvm.Cond.methodLink "NameScopeModel" (1 : Nat) ({ cls := "java/lang/Object", name := "<init>", desc := "()V" } : Jvm.MethodName)) ∈ gTB := gm 491 (by decide +kernel) rfl
theorem w_459 : (Jvm.Cond.fieldLink "NameScopeModel" (7 : Nat) "NameScopeModel" "globals" "[J") ∈ gTB := gm 492 (by decide +kernel) rfl
theorem w_460 : (Jvm.Cond.fieldLink "NameScopeModel" (71 : Nat) "NameScopeModel" "globalCount" "I") ∈ gTB := gm 493 (by decide +kernel) rfl
theorem w_461 : (Jvm.Cond.fieldLink "NameScopeModel" (13 : Nat) "NameScopeModel" "laidKind" "[I") ∈ gTB := gm 494 (by decide +kernel) rfl
theorem w_462 : (Jvm.Cond.fieldLink "NameScopeModel" (17 : Nat) "NameScopeModel" "laidBeside" "[J") ∈ gTB := gm 495 (by decide +kernel) rfl
theorem w_463 : (Jvm.Cond.fieldLink "NameScopeModel" (83 : Nat) "NameScopeModel" "laid" "I") ∈ gTB := gm 496 (by decide +kernel) rfl
theorem w_464 : (Jvm.Cond.fieldLink "NameScopeModel" (20 : Nat) "NameScopeModel" "kind" "[I") ∈ gTB := gm 497 (by decide +kernel) rfl
theorem w_465 : (Jvm.Cond.fieldLink "NameScopeModel" (23 : Nat) "NameScopeModel" "beside" "[J") ∈ gTB := gm 498 (by decide +kernel) rfl
theorem w_466 : (Jvm.Cond.fieldLink "NameScopeModel" (53 : Nat) "NameScopeModel" "count" "I") ∈ gTB := gm 499 (by decide +kernel) rfl
theorem w_467 : (Jvm.Cond.fieldLink "NameScopeModel" (26 : Nat) "NameScopeModel" "keptKind" "[I") ∈ gTB := gm 500 (by decide +kernel) rfl
theorem w_468 : (Jvm.Cond.fieldLink "NameScopeModel" (29 : Nat) "NameScopeModel" "keptBeside" "[J") ∈ gTB := gm 501 (by decide +kernel) rfl
theorem w_469 : (Jvm.Cond.fieldLink "NameScopeModel" (159 : Nat) "NameScopeModel" "kept" "I") ∈ gTB := gm 502 (by decide +kernel) rfl
theorem w_470 : (Jvm.Cond.fieldLink "NameScopeModel" (32 : Nat) "NameScopeModel" "saidKind" "[I") ∈ gTB := gm 503 (by decide +kernel) rfl
theorem w_471 : (Jvm.Cond.fieldLink "NameScopeModel" (35 : Nat) "NameScopeModel" "saidBeside" "[J") ∈ gTB := gm 504 (by decide +kernel) rfl
theorem w_472 : (Jvm.Cond.fieldLink "NameScopeModel" (156 : Nat) "NameScopeModel" "said" "I") ∈ gTB := gm 505 (by decide +kernel) rfl
theorem w_473 : (Jvm.Cond.fieldLink "NameScopeModel" (38 : Nat) "NameScopeModel" "draftKind" "[I") ∈ gTB := gm 506 (by decide +kernel) rfl
theorem w_474 : (Jvm.Cond.fieldLink "NameScopeModel" (41 : Nat) "NameScopeModel" "draftBeside" "[J") ∈ gTB := gm 507 (by decide +kernel) rfl
theorem w_475 : (Jvm.Cond.fieldLink "NameScopeModel" (124 : Nat) "NameScopeModel" "drafts" "I") ∈ gTB := gm 508 (by decide +kernel) rfl
theorem w_476 : (Jvm.Cond.fieldLink "NameScopeModel" (44 : Nat) "NameScopeModel" "sizes" "[I") ∈ gTB := gm 509 (by decide +kernel) rfl
theorem w_477 : (Jvm.Cond.fieldLink "NameScopeModel" (47 : Nat) "NameScopeModel" "whole" "[I") ∈ gTB := gm 510 (by decide +kernel) rfl
theorem w_478 : (Jvm.Cond.fieldLink "NameScopeModel" (50 : Nat) "NameScopeModel" "binderOf" "[I") ∈ gTB := gm 511 (by decide +kernel) rfl
theorem w_479 : (Jvm.Cond.fieldLink "NameScopeModel" (94 : Nat) "NameScopeModel" "meant" "Z") ∈ gTB := gm 512 (by decide +kernel) rfl
theorem w_480 : (Jvm.Cond.fieldLink "NameScopeModel" (105 : Nat) "NameScopeModel" "meaning" "J") ∈ gTB := gm 513 (by decide +kernel) rfl
theorem w_526 : (Jvm.Cond.methodLink "NameScopeLaw" (19 : Nat) ({ cls := "NameScopeModel", name := "global", desc := "(J)I" } : Jvm.MethodName)) ∈ gTB := gm 559 (by decide +kernel) rfl
theorem w_527 : (Jvm.Cond.instanceMethod ({ cls := "NameScopeModel", name := "global", desc := "(J)I" } : Jvm.MethodName)) ∈ gTB := gm 560 (by decide +kernel) rfl
theorem w_528 : (Jvm.Cond.selects "NameScopeModel" ({ cls := "NameScopeModel", name := "global", desc := "(J)I" } : Jvm.MethodName) ({ cls := "NameScopeModel", name := "global", desc := "(J)I" } : Jvm.MethodName)) ∈ gTB := gm 561 (by decide +kernel) rfl
set_option maxRecDepth 100000 in
theorem w_529 : (Jvm.Cond.code ({ cls := "NameScopeModel", name := "global", desc := "(J)I" } : Jvm.MethodName) prog_8_method_5_code (3 : Nat) (Option.some Jvm.ClassFile.FieldType.int)) ∈ gTB := gm 562 rfl rfl
theorem w_530 : (Jvm.Cond.methodLink "NameScopeModel" (74 : Nat) ({ cls := "NameScopeModel", name := "isName", desc := "(JI)Z" } : Jvm.MethodName)) ∈ gTB := gm 563 (by decide +kernel) rfl
theorem w_531 : (Jvm.Cond.static ({ cls := "NameScopeModel", name := "isName", desc := "(JI)Z" } : Jvm.MethodName)) ∈ gTB := gm 564 (by decide +kernel) rfl
set_option maxRecDepth 100000 in
theorem w_532 : (Jvm.Cond.code ({ cls := "NameScopeModel", name := "isName", desc := "(JI)Z" } : Jvm.MethodName) prog_8_method_3_code (8 : Nat) (Option.some Jvm.ClassFile.FieldType.boolean)) ∈ gTB := gm 565 rfl rfl
theorem w_533 : (Jvm.Cond.methodLink "NameScopeModel" (57 : Nat) ({ cls := "NameScopeModel", name := "length", desc := "(J)I" } : Jvm.MethodName)) ∈ gTB := gm 566 (by decide +kernel) rfl
theorem w_534 : (Jvm.Cond.static ({ cls := "NameScopeModel", name := "length", desc := "(J)I" } : Jvm.MethodName)) ∈ gTB := gm 567 (by decide +kernel) rfl
set_option maxRecDepth 100000 in
theorem w_535 : (Jvm.Cond.code ({ cls := "NameScopeModel", name := "length", desc := "(J)I" } : Jvm.MethodName) prog_8_method_2_code (5 : Nat) (Option.some Jvm.ClassFile.FieldType.int)) ∈ gTB := gm 568 rfl rfl
theorem w_536 : (Jvm.Cond.constantLong "NameScopeModel" (61 : Nat) (255 : Int64)) ∈ gTB := gm 569 (by decide +kernel) rfl
theorem w_537 : (Jvm.Cond.constantLong "NameScopeModel" (63 : Nat) (97 : Int64)) ∈ gTB := gm 570 (by decide +kernel) rfl
theorem w_538 : (Jvm.Cond.constantLong "NameScopeModel" (65 : Nat) (122 : Int64)) ∈ gTB := gm 571 (by decide +kernel) rfl
theorem w_539 : (Jvm.Cond.constantLong "NameScopeModel" (67 : Nat) (48 : Int64)) ∈ gTB := gm 572 (by decide +kernel) rfl
theorem w_540 : (Jvm.Cond.constantLong "NameScopeModel" (69 : Nat) (57 : Int64)) ∈ gTB := gm 573 (by decide +kernel) rfl
theorem w_541 : (Jvm.Cond.methodLink "NameScopeModel" (78 : Nat) ({ cls := "NameScopeModel", name := "globalOf", desc := "(J)I" } : Jvm.MethodName)) ∈ gTB := gm 574 (by decide +kernel) rfl
theorem w_543 : (Jvm.Cond.instanceMethod ({ cls := "NameScopeModel", name := "globalOf", desc := "(J)I" } : Jvm.MethodName)) ∈ gTB := gm 576 (by decide +kernel) rfl
set_option maxRecDepth 100000 in
theorem w_544 : (Jvm.Cond.code ({ cls := "NameScopeModel", name := "globalOf", desc := "(J)I" } : Jvm.MethodName) prog_8_method_4_code (4 : Nat) (Option.some Jvm.ClassFile.FieldType.int)) ∈ gTB := gm 577 rfl rfl
theorem w_545 : (Jvm.Cond.methodLink "NameScopeLaw" (24 : Nat) ({ cls := "NameScopeModel", name := "lay", desc := "(IJ)I" } : Jvm.MethodName)) ∈ gTB := gm 578 (by decide +kernel) rfl
theorem w_546 : (Jvm.Cond.instanceMethod ({ cls := "NameScopeModel", name := "lay", desc := "(IJ)I" } : Jvm.MethodName)) ∈ gTB := gm 579 (by decide +kernel) rfl
theorem w_547 : (Jvm.Cond.selects "NameScopeModel" ({ cls := "NameScopeModel", name := "lay", desc := "(IJ)I" } : Jvm.MethodName) ({ cls := "NameScopeModel", name := "lay", desc := "(IJ)I" } : Jvm.MethodName)) ∈ gTB := gm 580 (by decide +kernel) rfl
set_option maxRecDepth 100000 in
theorem w_548 : (Jvm.Cond.code ({ cls := "NameScopeModel", name := "lay", desc := "(IJ)I" } : Jvm.MethodName) prog_8_method_8_code (5 : Nat) (Option.some Jvm.ClassFile.FieldType.int)) ∈ gTB := gm 581 rfl rfl
theorem w_549 : (Jvm.Cond.constantLong "NameScopeModel" (81 : Nat) (100 : Int64)) ∈ gTB := gm 582 (by decide +kernel) rfl
theorem w_550 : (Jvm.Cond.methodLink "NameScopeLaw" (29 : Nat) ({ cls := "NameScopeModel", name := "drop", desc := "()I" } : Jvm.MethodName)) ∈ gTB := gm 583 (by decide +kernel) rfl
theorem w_551 : (Jvm.Cond.instanceMethod ({ cls := "NameScopeModel", name := "drop", desc := "()I" } : Jvm.MethodName)) ∈ gTB := gm 584 (by decide +kernel) rfl
theorem w_552 : (Jvm.Cond.selects "NameScopeModel" ({ cls := "NameScopeModel", name := "drop", desc := "()I" } : Jvm.MethodName) ({ cls := "NameScopeModel", name := "drop", desc := "()I" } : Jvm.MethodName)) ∈ gTB := gm 585 (by decide +kernel) rfl
set_option maxRecDepth 100000 in
theorem w_553 : (Jvm.Cond.code ({ cls := "NameScopeModel", name := "drop", desc := "()I" } : Jvm.MethodName) prog_8_method_9_code (2 : Nat) (Option.some Jvm.ClassFile.FieldType.int)) ∈ gTB := gm 586 rfl rfl
theorem w_554 : (Jvm.Cond.methodLink "NameScopeLaw" (33 : Nat) ({ cls := "NameScopeModel", name := "bind", desc := "()I" } : Jvm.MethodName)) ∈ gTB := gm 587 (by decide +kernel) rfl
theorem w_555 : (Jvm.Cond.instanceMethod ({ cls := "NameScopeModel", name := "bind", desc := "()I" } : Jvm.MethodName)) ∈ gTB := gm 588 (by decide +kernel) rfl
theorem w_556 : (Jvm.Cond.selects "NameScopeModel" ({ cls := "NameScopeModel", name := "bind", desc := "()I" } : Jvm.MethodName) ({ cls := "NameScopeModel", name := "bind", desc := "()I" } : Jvm.MethodName)) ∈ gTB := gm 589 (by decide +kernel) rfl
set_option maxRecDepth 100000 in
theorem w_557 : (Jvm.Cond.code ({ cls := "NameScopeModel", name := "bind", desc := "()I" } : Jvm.MethodName) prog_8_method_16_code (3 : Nat) (Option.some Jvm.ClassFile.FieldType.int)) ∈ gTB := gm 590 rfl rfl
theorem w_558 : (Jvm.Cond.methodLink "NameScopeModel" (109 : Nat) ({ cls := "NameScopeModel", name := "isOneTerm", desc := "()Z" } : Jvm.MethodName)) ∈ gTB := gm 591 (by decide +kernel) rfl
theorem w_560 : (Jvm.Cond.instanceMethod ({ cls := "NameScopeModel", name := "isOneTerm", desc := "()Z" } : Jvm.MethodName)) ∈ gTB := gm 593 (by decide +kernel) rfl
set_option maxRecDepth 100000 in
theorem w_561 : (Jvm.Cond.code ({ cls := "NameScopeModel", name := "isOneTerm", desc := "()Z" } : Jvm.MethodName) prog_8_method_10_code (3 : Nat) (Option.some Jvm.ClassFile.FieldType.boolean)) ∈ gTB := gm 594 rfl rfl
theorem w_562 : (Jvm.Cond.methodLink "NameScopeModel" (86 : Nat) ({ cls := "NameScopeModel", name := "hasParts", desc := "(I)Z" } : Jvm.MethodName)) ∈ gTB := gm 595 (by decide +kernel) rfl
theorem w_563 : (Jvm.Cond.static ({ cls := "NameScopeModel", name := "hasParts", desc := "(I)Z" } : Jvm.MethodName)) ∈ gTB := gm 596 (by decide +kernel) rfl
set_option maxRecDepth 100000 in
theorem w_564 : (Jvm.Cond.code ({ cls := "NameScopeModel", name := "hasParts", desc := "(I)Z" } : Jvm.MethodName) prog_8_method_6_code (1 : Nat) (Option.some Jvm.ClassFile.FieldType.boolean)) ∈ gTB := gm 597 rfl rfl
theorem w_565 : (Jvm.Cond.methodLink "NameScopeModel" (113 : Nat) ({ cls := "NameScopeModel", name := "measure", desc := "(Z)V" } : Jvm.MethodName)) ∈ gTB := gm 598 (by decide +kernel) rfl
theorem w_567 : (Jvm.Cond.instanceMethod ({ cls := "NameScopeModel", name := "measure", desc := "(Z)V" } : Jvm.MethodName)) ∈ gTB := gm 600 (by decide +kernel) rfl
set_option maxRecDepth 100000 in
theorem w_568 : (Jvm.Cond.code ({ cls := "NameScopeModel", name := "measure", desc := "(Z)V" } : Jvm.MethodName) prog_8_method_12_code (5 : Nat) (Option.none : Option Jvm.ClassFile.FieldType)) ∈ gTB := gm 601 rfl rfl
theorem w_569 : (Jvm.Cond.methodLink "NameScopeModel" (90 : Nat) ({ cls := "NameScopeModel", name := "kindOf", desc := "(ZI)I" } : Jvm.MethodName)) ∈ gTB := gm 602 (by decide +kernel) rfl
theorem w_571 : (Jvm.Cond.instanceMethod ({ cls := "NameScopeModel", name := "kindOf", desc := "(ZI)I" } : Jvm.MethodName)) ∈ gTB := gm 604 (by decide +kernel) rfl
set_option maxRecDepth 100000 in
theorem w_572 : (Jvm.Cond.code ({ cls := "NameScopeModel", name := "kindOf", desc := "(ZI)I" } : Jvm.MethodName) prog_8_method_11_code (3 : Nat) (Option.some Jvm.ClassFile.FieldType.int)) ∈ gTB := gm 605 rfl rfl
theorem w_573 : (Jvm.Cond.methodLink "NameScopeModel" (117 : Nat) ({ cls := "NameScopeModel", name := "cut", desc := "(J)J" } : Jvm.MethodName)) ∈ gTB := gm 606 (by decide +kernel) rfl
theorem w_574 : (Jvm.Cond.static ({ cls := "NameScopeModel", name := "cut", desc := "(J)J" } : Jvm.MethodName)) ∈ gTB := gm 607 (by decide +kernel) rfl
set_option maxRecDepth 100000 in
theorem w_575 : (Jvm.Cond.code ({ cls := "NameScopeModel", name := "cut", desc := "(J)J" } : Jvm.MethodName) prog_8_method_15_code (2 : Nat) (Option.some Jvm.ClassFile.FieldType.long)) ∈ gTB := gm 608 rfl rfl
theorem w_576 : (Jvm.Cond.methodLink "NameScopeModel" (121 : Nat) ({ cls := "NameScopeModel", name := "meaningOf", desc := "(I)I" } : Jvm.MethodName)) ∈ gTB := gm 609 (by decide +kernel) rfl
theorem w_578 : (Jvm.Cond.instanceMethod ({ cls := "NameScopeModel", name := "meaningOf", desc := "(I)I" } : Jvm.MethodName)) ∈ gTB := gm 611 (by decide +kernel) rfl
set_option maxRecDepth 100000 in
theorem w_579 : (Jvm.Cond.code ({ cls := "NameScopeModel", name := "meaningOf", desc := "(I)I" } : Jvm.MethodName) prog_8_method_14_code (5 : Nat) (Option.some Jvm.ClassFile.FieldType.int)) ∈ gTB := gm 612 rfl rfl
theorem w_580 : (Jvm.Cond.methodLink "NameScopeModel" (98 : Nat) ({ cls := "NameScopeModel", name := "binds", desc := "(I)Z" } : Jvm.MethodName)) ∈ gTB := gm 613 (by decide +kernel) rfl
theorem w_581 : (Jvm.Cond.static ({ cls := "NameScopeModel", name := "binds", desc := "(I)Z" } : Jvm.MethodName)) ∈ gTB := gm 614 (by decide +kernel) rfl
set_option maxRecDepth 100000 in
theorem w_582 : (Jvm.Cond.code ({ cls := "NameScopeModel", name := "binds", desc := "(I)Z" } : Jvm.MethodName) prog_8_method_7_code (1 : Nat) (Option.some Jvm.ClassFile.FieldType.boolean)) ∈ gTB := gm 615 rfl rfl
theorem w_583 : (Jvm.Cond.methodLink "NameScopeModel" (101 : Nat) ({ cls := "NameScopeModel", name := "lastOf", desc := "(I)I" } : Jvm.MethodName)) ∈ gTB := gm 616 (by decide +kernel) rfl
theorem w_585 : (Jvm.Cond.instanceMethod ({ cls := "NameScopeModel", name := "lastOf", desc := "(I)I" } : Jvm.MethodName)) ∈ gTB := gm 618 (by decide +kernel) rfl
set_option maxRecDepth 100000 in
theorem w_586 : (Jvm.Cond.code ({ cls := "NameScopeModel", name := "lastOf", desc := "(I)I" } : Jvm.MethodName) prog_8_method_13_code (2 : Nat) (Option.some Jvm.ClassFile.FieldType.int)) ∈ gTB := gm 619 rfl rfl
theorem w_587 : (Jvm.Cond.methodLink "NameScopeModel" (127 : Nat) ({ cls := "NameScopeModel", name := "become", desc := "()V" } : Jvm.MethodName)) ∈ gTB := gm 620 (by decide +kernel) rfl
theorem w_589 : (Jvm.Cond.instanceMethod ({ cls := "NameScopeModel", name := "become", desc := "()V" } : Jvm.MethodName)) ∈ gTB := gm 622 (by decide +kernel) rfl
set_option maxRecDepth 100000 in
theorem w_590 : (Jvm.Cond.code ({ cls := "NameScopeModel", name := "become", desc := "()V" } : Jvm.MethodName) prog_8_method_17_code (2 : Nat) (Option.none : Option Jvm.ClassFile.FieldType)) ∈ gTB := gm 623 rfl rfl
theorem w_591 : (Jvm.Cond.methodLink "NameScopeLaw" (37 : Nat) ({ cls := "NameScopeModel", name := "nodes", desc := "()I" } : Jvm.MethodName)) ∈ gTB := gm 624 (by decide +kernel) rfl
theorem w_592 : (Jvm.Cond.instanceMethod ({ cls := "NameScopeModel", name := "nodes", desc := "()I" } : Jvm.MethodName)) ∈ gTB := gm 625 (by decide +kernel) rfl
theorem w_593 : (Jvm.Cond.selects "NameScopeModel" ({ cls := "NameScopeModel", name := "nodes", desc := "()I" } : Jvm.MethodName) ({ cls := "NameScopeModel", name := "nodes", desc := "()I" } : Jvm.MethodName)) ∈ gTB := gm 626 (by decide +kernel) rfl
set_option maxRecDepth 100000 in
theorem w_594 : (Jvm.Cond.code ({ cls := "NameScopeModel", name := "nodes", desc := "()I" } : Jvm.MethodName) prog_8_method_18_code (1 : Nat) (Option.some Jvm.ClassFile.FieldType.int)) ∈ gTB := gm 627 rfl rfl
theorem w_595 : (Jvm.Cond.methodLink "NameScopeLaw" (42 : Nat) ({ cls := "NameScopeModel", name := "node", desc := "(II)J" } : Jvm.MethodName)) ∈ gTB := gm 628 (by decide +kernel) rfl
theorem w_596 : (Jvm.Cond.instanceMethod ({ cls := "NameScopeModel", name := "node", desc := "(II)J" } : Jvm.MethodName)) ∈ gTB := gm 629 (by decide +kernel) rfl
theorem w_597 : (Jvm.Cond.selects "NameScopeModel" ({ cls := "NameScopeModel", name := "node", desc := "(II)J" } : Jvm.MethodName) ({ cls := "NameScopeModel", name := "node", desc := "(II)J" } : Jvm.MethodName)) ∈ gTB := gm 630 (by decide +kernel) rfl
set_option maxRecDepth 100000 in
theorem w_598 : (Jvm.Cond.code ({ cls := "NameScopeModel", name := "node", desc := "(II)J" } : Jvm.MethodName) prog_8_method_19_code (3 : Nat) (Option.some Jvm.ClassFile.FieldType.long)) ∈ gTB := gm 631 rfl rfl
theorem w_599 : (Jvm.Cond.constantLong "NameScopeModel" (130 : Nat) (-1 : Int64)) ∈ gTB := gm 632 (by decide +kernel) rfl
theorem w_600 : (Jvm.Cond.methodLink "NameScopeLaw" (47 : Nat) ({ cls := "NameScopeModel", name := "uses", desc := "(I)I" } : Jvm.MethodName)) ∈ gTB := gm 633 (by decide +kernel) rfl
theorem w_601 : (Jvm.Cond.instanceMethod ({ cls := "NameScopeModel", name := "uses", desc := "(I)I" } : Jvm.MethodName)) ∈ gTB := gm 634 (by decide +kernel) rfl
theorem w_602 : (Jvm.Cond.selects "NameScopeModel" ({ cls := "NameScopeModel", name := "uses", desc := "(I)I" } : Jvm.MethodName) ({ cls := "NameScopeModel", name := "uses", desc := "(I)I" } : Jvm.MethodName)) ∈ gTB := gm 635 (by decide +kernel) rfl
set_option maxRecDepth 100000 in
theorem w_603 : (Jvm.Cond.code ({ cls := "NameScopeModel", name := "uses", desc := "(I)I" } : Jvm.MethodName) prog_8_method_21_code (4 : Nat) (Option.some Jvm.ClassFile.FieldType.int)) ∈ gTB := gm 636 rfl rfl
theorem w_604 : (Jvm.Cond.methodLink "NameScopeModel" (132 : Nat) ({ cls := "NameScopeModel", name := "under", desc := "(II)I" } : Jvm.MethodName)) ∈ gTB := gm 637 (by decide +kernel) rfl
theorem w_606 : (Jvm.Cond.instanceMethod ({ cls := "NameScopeModel", name := "under", desc := "(II)I" } : Jvm.MethodName)) ∈ gTB := gm 639 (by decide +kernel) rfl
set_option maxRecDepth 100000 in
theorem w_607 : (Jvm.Cond.code ({ cls := "NameScopeModel", name := "under", desc := "(II)I" } : Jvm.MethodName) prog_8_method_20_code (6 : Nat) (Option.some Jvm.ClassFile.FieldType.int)) ∈ gTB := gm 640 rfl rfl
theorem w_608 : (Jvm.Cond.methodLink "NameScopeLaw" (51 : Nat) ({ cls := "NameScopeModel", name := "contract", desc := "(I)I" } : Jvm.MethodName)) ∈ gTB := gm 641 (by decide +kernel) rfl
theorem w_609 : (Jvm.Cond.instanceMethod ({ cls := "NameScopeModel", name := "contract", desc := "(I)I" } : Jvm.MethodName)) ∈ gTB := gm 642 (by decide +kernel) rfl
theorem w_610 : (Jvm.Cond.selects "NameScopeModel" ({ cls := "NameScopeModel", name := "contract", desc := "(I)I" } : Jvm.MethodName) ({ cls := "NameScopeModel", name := "contract", desc := "(I)I" } : Jvm.MethodName)) ∈ gTB := gm 643 (by decide +kernel) rfl
set_option maxRecDepth 100000 in
theorem w_611 : (Jvm.Cond.code ({ cls := "NameScopeModel", name := "contract", desc := "(I)I" } : Jvm.MethodName) prog_8_method_23_code (11 : Nat) (Option.some Jvm.ClassFile.FieldType.int)) ∈ gTB := gm 644 rfl rfl
theorem w_612 : (Jvm.Cond.methodLink "NameScopeModel" (136 : Nat) ({ cls := "NameScopeModel", name := "uses", desc := "(I)I" } : Jvm.MethodName)) ∈ gTB := gm 645 (by decide +kernel) rfl
theorem w_613 : (Jvm.Cond.methodLink "NameScopeModel" (139 : Nat) ({ cls := "NameScopeModel", name := "draft", desc := "(IJ)V" } : Jvm.MethodName)) ∈ gTB := gm 646 (by decide +kernel) rfl
theorem w_615 : (Jvm.Cond.instanceMethod ({ cls := "NameScopeModel", name := "draft", desc := "(IJ)V" } : Jvm.MethodName)) ∈ gTB := gm 648 (by decide +kernel) rfl
set_option maxRecDepth 100000 in
theorem w_616 : (Jvm.Cond.code ({ cls := "NameScopeModel", name := "draft", desc := "(IJ)V" } : Jvm.MethodName) prog_8_method_22_code (4 : Nat) (Option.none : Option Jvm.ClassFile.FieldType)) ∈ gTB := gm 649 rfl rfl
theorem w_617 : (Jvm.Cond.methodLink "NameScopeLaw" (55 : Nat) ({ cls := "NameScopeModel", name := "write", desc := "()I" } : Jvm.MethodName)) ∈ gTB := gm 650 (by decide +kernel) rfl
theorem w_618 : (Jvm.Cond.instanceMethod ({ cls := "NameScopeModel", name := "write", desc := "()I" } : Jvm.MethodName)) ∈ gTB := gm 651 (by decide +kernel) rfl
theorem w_619 : (Jvm.Cond.selects "NameScopeModel" ({ cls := "NameScopeModel", name := "write", desc := "()I" } : Jvm.MethodName) ({ cls := "NameScopeModel", name := "write", desc := "()I" } : Jvm.MethodName)) ∈ gTB := gm 652 (by decide +kernel) rfl
set_option maxRecDepth 100000 in
theorem w_620 : (Jvm.Cond.code ({ cls := "NameScopeModel", name := "write", desc := "()I" } : Jvm.MethodName) prog_8_method_27_code (5 : Nat) (Option.some Jvm.ClassFile.FieldType.int)) ∈ gTB := gm 653 rfl rfl
theorem w_621 : (Jvm.Cond.methodLink "NameScopeModel" (143 : Nat) ({ cls := "NameScopeModel", name := "findBinders", desc := "()V" } : Jvm.MethodName)) ∈ gTB := gm 654 (by decide +kernel) rfl
theorem w_623 : (Jvm.Cond.instanceMethod ({ cls := "NameScopeModel", name := "findBinders", desc := "()V" } : Jvm.MethodName)) ∈ gTB := gm 656 (by decide +kernel) rfl
set_option maxRecDepth 100000 in
theorem w_624 : (Jvm.Cond.code ({ cls := "NameScopeModel", name := "findBinders", desc := "()V" } : Jvm.MethodName) prog_8_method_24_code (6 : Nat) (Option.none : Option Jvm.ClassFile.FieldType)) ∈ gTB := gm 657 rfl rfl
theorem w_625 : (Jvm.Cond.constantLong "NameScopeModel" (146 : Nat) (120 : Int64)) ∈ gTB := gm 658 (by decide +kernel) rfl
theorem w_626 : (Jvm.Cond.methodLink "NameScopeModel" (148 : Nat) ({ cls := "NameScopeModel", name := "numbered", desc := "(JI)J" } : Jvm.MethodName)) ∈ gTB := gm 659 (by decide +kernel) rfl
theorem w_627 : (Jvm.Cond.static ({ cls := "NameScopeModel", name := "numbered", desc := "(JI)J" } : Jvm.MethodName)) ∈ gTB := gm 660 (by decide +kernel) rfl
set_option maxRecDepth 100000 in
theorem w_628 : (Jvm.Cond.code ({ cls := "NameScopeModel", name := "numbered", desc := "(JI)J" } : Jvm.MethodName) prog_8_method_26_code (6 : Nat) (Option.some Jvm.ClassFile.FieldType.long)) ∈ gTB := gm 661 rfl rfl
theorem w_629 : (Jvm.Cond.methodLink "NameScopeModel" (152 : Nat) ({ cls := "NameScopeModel", name := "catches", desc := "(IJ)Z" } : Jvm.MethodName)) ∈ gTB := gm 662 (by decide +kernel) rfl
theorem w_631 : (Jvm.Cond.instanceMethod ({ cls := "NameScopeModel", name := "catches", desc := "(IJ)Z" } : Jvm.MethodName)) ∈ gTB := gm 664 (by decide +kernel) rfl
set_option maxRecDepth 100000 in
theorem w_632 : (Jvm.Cond.code ({ cls := "NameScopeModel", name := "catches", desc := "(IJ)Z" } : Jvm.MethodName) prog_8_method_25_code (5 : Nat) (Option.some Jvm.ClassFile.FieldType.boolean)) ∈ gTB := gm 665 rfl rfl
theorem w_633 : (Jvm.Cond.methodLink "NameScopeLaw" (59 : Nat) ({ cls := "NameScopeModel", name := "written", desc := "(II)J" } : Jvm.MethodName)) ∈ gTB := gm 666 (by decide +kernel) rfl
theorem w_634 : (Jvm.Cond.instanceMethod ({ cls := "NameScopeModel", name := "written", desc := "(II)J" } : Jvm.MethodName)) ∈ gTB := gm 667 (by decide +kernel) rfl
theorem w_635 : (Jvm.Cond.selects "NameScopeModel" ({ cls := "NameScopeModel", name := "written", desc := "(II)J" } : Jvm.MethodName) ({ cls := "NameScopeModel", name := "written", desc := "(II)J" } : Jvm.MethodName)) ∈ gTB := gm 668 (by decide +kernel) rfl
set_option maxRecDepth 100000 in
theorem w_636 : (Jvm.Cond.code ({ cls := "NameScopeModel", name := "written", desc := "(II)J" } : Jvm.MethodName) prog_8_method_28_code (3 : Nat) (Option.some Jvm.ClassFile.FieldType.long)) ∈ gTB := gm 669 rfl rfl
theorem w_637 : (Jvm.Cond.methodLink "NameScopeLaw" (63 : Nat) ({ cls := "NameScopeModel", name := "again", desc := "()I" } : Jvm.MethodName)) ∈ gTB := gm 670 (by decide +kernel) rfl
theorem w_638 : (Jvm.Cond.instanceMethod ({ cls := "NameScopeModel", name := "again", desc := "()I" } : Jvm.MethodName)) ∈ gTB := gm 671 (by decide +kernel) rfl
theorem w_639 : (Jvm.Cond.selects "NameScopeModel" ({ cls := "NameScopeModel", name := "again", desc := "()I" } : Jvm.MethodName) ({ cls := "NameScopeModel", name := "again", desc := "()I" } : Jvm.MethodName)) ∈ gTB := gm 672 (by decide +kernel) rfl
set_option maxRecDepth 100000 in
theorem w_640 : (Jvm.Cond.code ({ cls := "NameScopeModel", name := "again", desc := "()I" } : Jvm.MethodName) prog_8_method_29_code (2 : Nat) (Option.some Jvm.ClassFile.FieldType.int)) ∈ gTB := gm 673 rfl rfl
theorem w_641 : (Jvm.Cond.methodLink "NameScopeLaw" (67 : Nat) ({ cls := "NameScopeModel", name := "keep", desc := "()I" } : Jvm.MethodName)) ∈ gTB := gm 674 (by decide +kernel) rfl
theorem w_642 : (Jvm.Cond.instanceMethod ({ cls := "NameScopeModel", name := "keep", desc := "()I" } : Jvm.MethodName)) ∈ gTB := gm 675 (by decide +kernel) rfl
theorem w_643 : (Jvm.Cond.selects "NameScopeModel" ({ cls := "NameScopeModel", name := "keep", desc := "()I" } : Jvm.MethodName) ({ cls := "NameScopeModel", name := "keep", desc := "()I" } : Jvm.MethodName)) ∈ gTB := gm 676 (by decide +kernel) rfl
set_option maxRecDepth 100000 in
theorem w_644 : (Jvm.Cond.code ({ cls := "NameScopeModel", name := "keep", desc := "()I" } : Jvm.MethodName) prog_8_method_30_code (2 : Nat) (Option.some Jvm.ClassFile.FieldType.int)) ∈ gTB := gm 677 rfl rfl
theorem w_645 : (Jvm.Cond.methodLink "NameScopeLaw" (72 : Nat) ({ cls := "NameScopeModel", name := "same", desc := "()Z" } : Jvm.MethodName)) ∈ gTB := gm 678 (by decide +kernel) rfl
theorem w_646 : (Jvm.Cond.instanceMethod ({ cls := "NameScopeModel", name := "same", desc := "()Z" } : Jvm.MethodName)) ∈ gTB := gm 679 (by decide +kernel) rfl
theorem w_647 : (Jvm.Cond.selects "NameScopeModel" ({ cls := "NameScopeModel", name := "same", desc := "()Z" } : Jvm.MethodName) ({ cls := "NameScopeModel", name := "same", desc := "()Z" } : Jvm.MethodName)) ∈ gTB := gm 680 (by decide +kernel) rfl
set_option maxRecDepth 100000 in
theorem w_648 : (Jvm.Cond.code ({ cls := "NameScopeModel", name := "same", desc := "()Z" } : Jvm.MethodName) prog_8_method_31_code (3 : Nat) (Option.some Jvm.ClassFile.FieldType.boolean)) ∈ gTB := gm 681 rfl rfl
theorem w_649 : (Jvm.Cond.constantLong "NameScopeLaw" (13 : Nat) (4294967295 : Int64)) ∈ gTB := gm 682 (by decide +kernel) rfl
theorem p_0 : Cond.selects "NameScope$Row" ⟨"NameScope$Row", "makeRoom", "(I)V"⟩ ⟨"NameScope$Row", "makeRoom", "(I)V"⟩ ∈ gTB := gm 0 (by decide +kernel) rfl
theorem p_1 : Cond.selects "NameScope$Scopes" ⟨"NameScope$Scopes", "makeRoom", "(I)V"⟩ ⟨"NameScope$Scopes", "makeRoom", "(I)V"⟩ ∈ gTB := gm 1 (by decide +kernel) rfl
theorem p_2 : Cond.selects "NameScope$Scopes" ⟨"NameScope$Scopes", "setInnermost", "(II)V"⟩ ⟨"NameScope$Scopes", "setInnermost", "(II)V"⟩ ∈ gTB := gm 2 (by decide +kernel) rfl
theorem p_3 : Cond.selects "NameScope" ⟨"NameScope", "bindNode", "(I)Z"⟩ ⟨"NameScope", "bindNode", "(I)Z"⟩ ∈ gTB := gm 3 (by decide +kernel) rfl
theorem p_4 : Cond.selects "NameScope" ⟨"NameScope", "bindName", "(IJ)Z"⟩ ⟨"NameScope", "bindName", "(IJ)Z"⟩ ∈ gTB := gm 4 (by decide +kernel) rfl
theorem p_5 : Cond.selects "NameScope" ⟨"NameScope", "takeSpare", "()V"⟩ ⟨"NameScope", "takeSpare", "()V"⟩ ∈ gTB := gm 5 (by decide +kernel) rfl
theorem p_6 : Cond.selects "NameScope" ⟨"NameScope", "countUses", "(I)I"⟩ ⟨"NameScope", "countUses", "(I)I"⟩ ∈ gTB := gm 6 (by decide +kernel) rfl
theorem p_7 : Cond.selects "NameScope" ⟨"NameScope", "contractible", "(I)I"⟩ ⟨"NameScope", "contractible", "(I)I"⟩ ∈ gTB := gm 7 (by decide +kernel) rfl
theorem p_8 : Cond.selects "NameScope" ⟨"NameScope", "copy", "(II)V"⟩ ⟨"NameScope", "copy", "(II)V"⟩ ∈ gTB := gm 8 (by decide +kernel) rfl
theorem p_9 : Cond.selects "NameScope" ⟨"NameScope", "copyLastPart", "(II)V"⟩ ⟨"NameScope", "copyLastPart", "(II)V"⟩ ∈ gTB := gm 9 (by decide +kernel) rfl
theorem p_10 : Cond.selects "NameScope" ⟨"NameScope", "copyDeeper", "(II)V"⟩ ⟨"NameScope", "copyDeeper", "(II)V"⟩ ∈ gTB := gm 10 (by decide +kernel) rfl
theorem p_11 : Cond.selects "NameScope$Pen" ⟨"NameScope$Pen", "makeRoom", "(I)V"⟩ ⟨"NameScope$Pen", "makeRoom", "(I)V"⟩ ∈ gTB := gm 11 (by decide +kernel) rfl
theorem p_12 : Cond.selects "NameScope$Pen" ⟨"NameScope$Pen", "linkUses", "(LNameScope$Row;)V"⟩ ⟨"NameScope$Pen", "linkUses", "(LNameScope$Row;)V"⟩ ∈ gTB := gm 12 (by decide +kernel) rfl
theorem p_13 : Cond.selects "NameScope$Pen" ⟨"NameScope$Pen", "usedBy", "(ILNameScope$Row;)I"⟩ ⟨"NameScope$Pen", "usedBy", "(ILNameScope$Row;)I"⟩ ∈ gTB := gm 13 (by decide +kernel) rfl
theorem p_14 : Cond.selects "NameScope$Pen" ⟨"NameScope$Pen", "setNext", "(II)V"⟩ ⟨"NameScope$Pen", "setNext", "(II)V"⟩ ∈ gTB := gm 14 (by decide +kernel) rfl
theorem p_15 : Cond.selects "NameScope$Pen" ⟨"NameScope$Pen", "chooseName", "(ILNameScope$Row;LNameScope$Globals;LNameScope$Row;)J"⟩ ⟨"NameScope$Pen", "chooseName", "(ILNameScope$Row;LNameScope$Globals;LNameScope$Row;)J"⟩ ∈ gTB := gm 15 (by decide +kernel) rfl
theorem p_16 : Cond.selects "NameScope$Pen" ⟨"NameScope$Pen", "gatherNear", "(IILNameScope$Globals;LNameScope$Row;)V"⟩ ⟨"NameScope$Pen", "gatherNear", "(IILNameScope$Globals;LNameScope$Row;)V"⟩ ∈ gTB := gm 16 (by decide +kernel) rfl
theorem p_17 : Cond.selects "NameScope$Pen" ⟨"NameScope$Pen", "nextOf", "(I)I"⟩ ⟨"NameScope$Pen", "nextOf", "(I)I"⟩ ∈ gTB := gm 17 (by decide +kernel) rfl
theorem p_18 : Cond.selects "NameScope$Pen" ⟨"NameScope$Pen", "addNear", "(J)V"⟩ ⟨"NameScope$Pen", "addNear", "(J)V"⟩ ∈ gTB := gm 18 (by decide +kernel) rfl
theorem p_19 : Cond.selects "NameScope$Pen" ⟨"NameScope$Pen", "leastNumber", "(J)I"⟩ ⟨"NameScope$Pen", "leastNumber", "(J)I"⟩ ∈ gTB := gm 19 (by decide +kernel) rfl
theorem p_20 : Cond.selects "NameScope$Pen" ⟨"NameScope$Pen", "putNode", "(ILNameScope$Row;LNameScope$Globals;LNameScope$Row;)V"⟩ ⟨"NameScope$Pen", "putNode", "(ILNameScope$Row;LNameScope$Globals;LNameScope$Row;)V"⟩ ∈ gTB := gm 20 (by decide +kernel) rfl
theorem p_21 : Cond.selects "NameScope$Pen" ⟨"NameScope$Pen", "passUse", "(ILNameScope$Row;)V"⟩ ⟨"NameScope$Pen", "passUse", "(ILNameScope$Row;)V"⟩ ∈ gTB := gm 21 (by decide +kernel) rfl
theorem p_22 : Cond.selects "NameScopeModel" ⟨"NameScopeModel", "globalOf", "(J)I"⟩ ⟨"NameScopeModel", "globalOf", "(J)I"⟩ ∈ gTB := gm 22 (by decide +kernel) rfl
theorem p_23 : Cond.selects "NameScopeModel" ⟨"NameScopeModel", "isOneTerm", "()Z"⟩ ⟨"NameScopeModel", "isOneTerm", "()Z"⟩ ∈ gTB := gm 23 (by decide +kernel) rfl
theorem p_24 : Cond.selects "NameScopeModel" ⟨"NameScopeModel", "measure", "(Z)V"⟩ ⟨"NameScopeModel", "measure", "(Z)V"⟩ ∈ gTB := gm 24 (by decide +kernel) rfl
theorem p_25 : Cond.selects "NameScopeModel" ⟨"NameScopeModel", "kindOf", "(ZI)I"⟩ ⟨"NameScopeModel", "kindOf", "(ZI)I"⟩ ∈ gTB := gm 25 (by decide +kernel) rfl
theorem p_26 : Cond.selects "NameScopeModel" ⟨"NameScopeModel", "meaningOf", "(I)I"⟩ ⟨"NameScopeModel", "meaningOf", "(I)I"⟩ ∈ gTB := gm 26 (by decide +kernel) rfl
theorem p_27 : Cond.selects "NameScopeModel" ⟨"NameScopeModel", "lastOf", "(I)I"⟩ ⟨"NameScopeModel", "lastOf", "(I)I"⟩ ∈ gTB := gm 27 (by decide +kernel) rfl
theorem p_28 : Cond.selects "NameScopeModel" ⟨"NameScopeModel", "become", "()V"⟩ ⟨"NameScopeModel", "become", "()V"⟩ ∈ gTB := gm 28 (by decide +kernel) rfl
theorem p_29 : Cond.selects "NameScopeModel" ⟨"NameScopeModel", "under", "(II)I"⟩ ⟨"NameScopeModel", "under", "(II)I"⟩ ∈ gTB := gm 29 (by decide +kernel) rfl
theorem p_30 : Cond.selects "NameScopeModel" ⟨"NameScopeModel", "draft", "(IJ)V"⟩ ⟨"NameScopeModel", "draft", "(IJ)V"⟩ ∈ gTB := gm 30 (by decide +kernel) rfl
theorem p_31 : Cond.selects "NameScopeModel" ⟨"NameScopeModel", "findBinders", "()V"⟩ ⟨"NameScopeModel", "findBinders", "()V"⟩ ∈ gTB := gm 31 (by decide +kernel) rfl
theorem p_32 : Cond.selects "NameScopeModel" ⟨"NameScopeModel", "catches", "(IJ)Z"⟩ ⟨"NameScopeModel", "catches", "(IJ)Z"⟩ ∈ gTB := gm 32 (by decide +kernel) rfl
