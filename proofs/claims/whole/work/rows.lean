section
-- ===== PART A: goes FIRST, ahead of the names: the tables' words, and 'selects' of the private methods out of them =====
/-- a private method of a class that the tables say can be made, by its rows of tables_1 -/
def lw_okq (q : MethodName × Nat) : Prop := (q.1.cls ≠ "java/lang/invoke/MethodHandle" ∧ q.1.cls ≠ "java/lang/invoke/VarHandle") ∧ Cond.instantiable q.1.cls q.2 ∈ tables_1 ∧ Cond.privateMethod q.1 ∈ tables_1 ∧ Cond.instanceMethod q.1 ∈ tables_1
theorem lw_p0 : lw_okq (⟨"NameScope$Row", "makeRoom", "(I)V"⟩, 4) := ⟨⟨by decide +kernel, by decide +kernel⟩, List.mem_of_getElem? (i := 34) (by decide +kernel), List.mem_of_getElem? (i := 166) (by decide +kernel), List.mem_of_getElem? (i := 167) (by decide +kernel)⟩
theorem lw_p1 : lw_okq (⟨"NameScope$Scopes", "makeRoom", "(I)V"⟩, 4) := ⟨⟨by decide +kernel, by decide +kernel⟩, List.mem_of_getElem? (i := 54) (by decide +kernel), List.mem_of_getElem? (i := 243) (by decide +kernel), List.mem_of_getElem? (i := 244) (by decide +kernel)⟩
theorem lw_p2 : lw_okq (⟨"NameScope$Scopes", "setInnermost", "(II)V"⟩, 4) := ⟨⟨by decide +kernel, by decide +kernel⟩, List.mem_of_getElem? (i := 54) (by decide +kernel), List.mem_of_getElem? (i := 248) (by decide +kernel), List.mem_of_getElem? (i := 249) (by decide +kernel)⟩
theorem lw_p3 : lw_okq (⟨"NameScope", "bindNode", "(I)Z"⟩, 8) := ⟨⟨by decide +kernel, by decide +kernel⟩, List.mem_of_getElem? (i := 12) (by decide +kernel), List.mem_of_getElem? (i := 271) (by decide +kernel), List.mem_of_getElem? (i := 272) (by decide +kernel)⟩
theorem lw_p4 : lw_okq (⟨"NameScope", "bindName", "(IJ)Z"⟩, 8) := ⟨⟨by decide +kernel, by decide +kernel⟩, List.mem_of_getElem? (i := 12) (by decide +kernel), List.mem_of_getElem? (i := 281) (by decide +kernel), List.mem_of_getElem? (i := 282) (by decide +kernel)⟩
theorem lw_p5 : lw_okq (⟨"NameScope", "takeSpare", "()V"⟩, 8) := ⟨⟨by decide +kernel, by decide +kernel⟩, List.mem_of_getElem? (i := 12) (by decide +kernel), List.mem_of_getElem? (i := 298) (by decide +kernel), List.mem_of_getElem? (i := 299) (by decide +kernel)⟩
theorem lw_p6 : lw_okq (⟨"NameScope", "countUses", "(I)I"⟩, 8) := ⟨⟨by decide +kernel, by decide +kernel⟩, List.mem_of_getElem? (i := 12) (by decide +kernel), List.mem_of_getElem? (i := 317) (by decide +kernel), List.mem_of_getElem? (i := 318) (by decide +kernel)⟩
theorem lw_p7 : lw_okq (⟨"NameScope", "contractible", "(I)I"⟩, 8) := ⟨⟨by decide +kernel, by decide +kernel⟩, List.mem_of_getElem? (i := 12) (by decide +kernel), List.mem_of_getElem? (i := 328) (by decide +kernel), List.mem_of_getElem? (i := 329) (by decide +kernel)⟩
theorem lw_p8 : lw_okq (⟨"NameScope", "copy", "(II)V"⟩, 8) := ⟨⟨by decide +kernel, by decide +kernel⟩, List.mem_of_getElem? (i := 12) (by decide +kernel), List.mem_of_getElem? (i := 332) (by decide +kernel), List.mem_of_getElem? (i := 333) (by decide +kernel)⟩
theorem lw_p9 : lw_okq (⟨"NameScope", "copyLastPart", "(II)V"⟩, 8) := ⟨⟨by decide +kernel, by decide +kernel⟩, List.mem_of_getElem? (i := 12) (by decide +kernel), List.mem_of_getElem? (i := 336) (by decide +kernel), List.mem_of_getElem? (i := 337) (by decide +kernel)⟩
theorem lw_p10 : lw_okq (⟨"NameScope", "copyDeeper", "(II)V"⟩, 8) := ⟨⟨by decide +kernel, by decide +kernel⟩, List.mem_of_getElem? (i := 12) (by decide +kernel), List.mem_of_getElem? (i := 340) (by decide +kernel), List.mem_of_getElem? (i := 341) (by decide +kernel)⟩
theorem lw_p11 : lw_okq (⟨"NameScope$Pen", "makeRoom", "(I)V"⟩, 7) := ⟨⟨by decide +kernel, by decide +kernel⟩, List.mem_of_getElem? (i := 73) (by decide +kernel), List.mem_of_getElem? (i := 353) (by decide +kernel), List.mem_of_getElem? (i := 354) (by decide +kernel)⟩
theorem lw_p12 : lw_okq (⟨"NameScope$Pen", "linkUses", "(LNameScope$Row;)V"⟩, 7) := ⟨⟨by decide +kernel, by decide +kernel⟩, List.mem_of_getElem? (i := 73) (by decide +kernel), List.mem_of_getElem? (i := 359) (by decide +kernel), List.mem_of_getElem? (i := 360) (by decide +kernel)⟩
theorem lw_p13 : lw_okq (⟨"NameScope$Pen", "usedBy", "(ILNameScope$Row;)I"⟩, 7) := ⟨⟨by decide +kernel, by decide +kernel⟩, List.mem_of_getElem? (i := 73) (by decide +kernel), List.mem_of_getElem? (i := 365) (by decide +kernel), List.mem_of_getElem? (i := 366) (by decide +kernel)⟩
theorem lw_p14 : lw_okq (⟨"NameScope$Pen", "setNext", "(II)V"⟩, 7) := ⟨⟨by decide +kernel, by decide +kernel⟩, List.mem_of_getElem? (i := 73) (by decide +kernel), List.mem_of_getElem? (i := 376) (by decide +kernel), List.mem_of_getElem? (i := 377) (by decide +kernel)⟩
theorem lw_p15 : lw_okq (⟨"NameScope$Pen", "chooseName", "(ILNameScope$Row;LNameScope$Row;)J"⟩, 7) := ⟨⟨by decide +kernel, by decide +kernel⟩, List.mem_of_getElem? (i := 73) (by decide +kernel), List.mem_of_getElem? (i := 383) (by decide +kernel), List.mem_of_getElem? (i := 384) (by decide +kernel)⟩
def lw_privs_1 : List (MethodName × Nat) := [(⟨"NameScope$Row", "makeRoom", "(I)V"⟩, 4), (⟨"NameScope$Scopes", "makeRoom", "(I)V"⟩, 4), (⟨"NameScope$Scopes", "setInnermost", "(II)V"⟩, 4), (⟨"NameScope", "bindNode", "(I)Z"⟩, 8), (⟨"NameScope", "bindName", "(IJ)Z"⟩, 8), (⟨"NameScope", "takeSpare", "()V"⟩, 8), (⟨"NameScope", "countUses", "(I)I"⟩, 8), (⟨"NameScope", "contractible", "(I)I"⟩, 8), (⟨"NameScope", "copy", "(II)V"⟩, 8), (⟨"NameScope", "copyLastPart", "(II)V"⟩, 8), (⟨"NameScope", "copyDeeper", "(II)V"⟩, 8), (⟨"NameScope$Pen", "makeRoom", "(I)V"⟩, 7), (⟨"NameScope$Pen", "linkUses", "(LNameScope$Row;)V"⟩, 7), (⟨"NameScope$Pen", "usedBy", "(ILNameScope$Row;)I"⟩, 7), (⟨"NameScope$Pen", "setNext", "(II)V"⟩, 7), (⟨"NameScope$Pen", "chooseName", "(ILNameScope$Row;LNameScope$Row;)J"⟩, 7)]
theorem lw_r1 : ∀ q ∈ lw_privs_1, lw_okq q := List.forall_mem_cons.mpr ⟨lw_p0, List.forall_mem_cons.mpr ⟨lw_p1, List.forall_mem_cons.mpr ⟨lw_p2, List.forall_mem_cons.mpr ⟨lw_p3, List.forall_mem_cons.mpr ⟨lw_p4, List.forall_mem_cons.mpr ⟨lw_p5, List.forall_mem_cons.mpr ⟨lw_p6, List.forall_mem_cons.mpr ⟨lw_p7, List.forall_mem_cons.mpr ⟨lw_p8, List.forall_mem_cons.mpr ⟨lw_p9, List.forall_mem_cons.mpr ⟨lw_p10, List.forall_mem_cons.mpr ⟨lw_p11, List.forall_mem_cons.mpr ⟨lw_p12, List.forall_mem_cons.mpr ⟨lw_p13, List.forall_mem_cons.mpr ⟨lw_p14, List.forall_mem_cons.mpr ⟨lw_p15, fun _ h => absurd h List.not_mem_nil⟩⟩⟩⟩⟩⟩⟩⟩⟩⟩⟩⟩⟩⟩⟩⟩
theorem lw_p16 : lw_okq (⟨"NameScope$Pen", "gatherNear", "(IILNameScope$Row;)V"⟩, 7) := ⟨⟨by decide +kernel, by decide +kernel⟩, List.mem_of_getElem? (i := 73) (by decide +kernel), List.mem_of_getElem? (i := 389) (by decide +kernel), List.mem_of_getElem? (i := 390) (by decide +kernel)⟩
theorem lw_p17 : lw_okq (⟨"NameScope$Pen", "nextOf", "(I)I"⟩, 7) := ⟨⟨by decide +kernel, by decide +kernel⟩, List.mem_of_getElem? (i := 73) (by decide +kernel), List.mem_of_getElem? (i := 397) (by decide +kernel), List.mem_of_getElem? (i := 398) (by decide +kernel)⟩
theorem lw_p18 : lw_okq (⟨"NameScope$Pen", "addNear", "(J)V"⟩, 7) := ⟨⟨by decide +kernel, by decide +kernel⟩, List.mem_of_getElem? (i := 73) (by decide +kernel), List.mem_of_getElem? (i := 405) (by decide +kernel), List.mem_of_getElem? (i := 406) (by decide +kernel)⟩
theorem lw_p19 : lw_okq (⟨"NameScope$Pen", "leastNumber", "(J)I"⟩, 7) := ⟨⟨by decide +kernel, by decide +kernel⟩, List.mem_of_getElem? (i := 73) (by decide +kernel), List.mem_of_getElem? (i := 411) (by decide +kernel), List.mem_of_getElem? (i := 412) (by decide +kernel)⟩
theorem lw_p20 : lw_okq (⟨"NameScope$Pen", "putNode", "(ILNameScope$Row;LNameScope$Row;)V"⟩, 7) := ⟨⟨by decide +kernel, by decide +kernel⟩, List.mem_of_getElem? (i := 73) (by decide +kernel), List.mem_of_getElem? (i := 426) (by decide +kernel), List.mem_of_getElem? (i := 427) (by decide +kernel)⟩
theorem lw_p21 : lw_okq (⟨"NameScope$Pen", "passUse", "(ILNameScope$Row;)V"⟩, 7) := ⟨⟨by decide +kernel, by decide +kernel⟩, List.mem_of_getElem? (i := 73) (by decide +kernel), List.mem_of_getElem? (i := 431) (by decide +kernel), List.mem_of_getElem? (i := 432) (by decide +kernel)⟩
theorem lw_p22 : lw_okq (⟨"NameScopeModel", "globalOf", "(J)I"⟩, 22) := ⟨⟨by decide +kernel, by decide +kernel⟩, List.mem_of_getElem? (i := 456) (by decide +kernel), List.mem_of_getElem? (i := 544) (by decide +kernel), List.mem_of_getElem? (i := 545) (by decide +kernel)⟩
theorem lw_p23 : lw_okq (⟨"NameScopeModel", "isOneTerm", "()Z"⟩, 22) := ⟨⟨by decide +kernel, by decide +kernel⟩, List.mem_of_getElem? (i := 456) (by decide +kernel), List.mem_of_getElem? (i := 561) (by decide +kernel), List.mem_of_getElem? (i := 562) (by decide +kernel)⟩
theorem lw_p24 : lw_okq (⟨"NameScopeModel", "measure", "(Z)V"⟩, 22) := ⟨⟨by decide +kernel, by decide +kernel⟩, List.mem_of_getElem? (i := 456) (by decide +kernel), List.mem_of_getElem? (i := 568) (by decide +kernel), List.mem_of_getElem? (i := 569) (by decide +kernel)⟩
theorem lw_p25 : lw_okq (⟨"NameScopeModel", "kindOf", "(ZI)I"⟩, 22) := ⟨⟨by decide +kernel, by decide +kernel⟩, List.mem_of_getElem? (i := 456) (by decide +kernel), List.mem_of_getElem? (i := 572) (by decide +kernel), List.mem_of_getElem? (i := 573) (by decide +kernel)⟩
theorem lw_p26 : lw_okq (⟨"NameScopeModel", "meaningOf", "(I)I"⟩, 22) := ⟨⟨by decide +kernel, by decide +kernel⟩, List.mem_of_getElem? (i := 456) (by decide +kernel), List.mem_of_getElem? (i := 579) (by decide +kernel), List.mem_of_getElem? (i := 580) (by decide +kernel)⟩
theorem lw_p27 : lw_okq (⟨"NameScopeModel", "lastOf", "(I)I"⟩, 22) := ⟨⟨by decide +kernel, by decide +kernel⟩, List.mem_of_getElem? (i := 456) (by decide +kernel), List.mem_of_getElem? (i := 586) (by decide +kernel), List.mem_of_getElem? (i := 587) (by decide +kernel)⟩
theorem lw_p28 : lw_okq (⟨"NameScopeModel", "become", "()V"⟩, 22) := ⟨⟨by decide +kernel, by decide +kernel⟩, List.mem_of_getElem? (i := 456) (by decide +kernel), List.mem_of_getElem? (i := 590) (by decide +kernel), List.mem_of_getElem? (i := 591) (by decide +kernel)⟩
theorem lw_p29 : lw_okq (⟨"NameScopeModel", "under", "(II)I"⟩, 22) := ⟨⟨by decide +kernel, by decide +kernel⟩, List.mem_of_getElem? (i := 456) (by decide +kernel), List.mem_of_getElem? (i := 607) (by decide +kernel), List.mem_of_getElem? (i := 608) (by decide +kernel)⟩
theorem lw_p30 : lw_okq (⟨"NameScopeModel", "draft", "(IJ)V"⟩, 22) := ⟨⟨by decide +kernel, by decide +kernel⟩, List.mem_of_getElem? (i := 456) (by decide +kernel), List.mem_of_getElem? (i := 616) (by decide +kernel), List.mem_of_getElem? (i := 617) (by decide +kernel)⟩
theorem lw_p31 : lw_okq (⟨"NameScopeModel", "findBinders", "()V"⟩, 22) := ⟨⟨by decide +kernel, by decide +kernel⟩, List.mem_of_getElem? (i := 456) (by decide +kernel), List.mem_of_getElem? (i := 624) (by decide +kernel), List.mem_of_getElem? (i := 625) (by decide +kernel)⟩
def lw_privs_2 : List (MethodName × Nat) := [(⟨"NameScope$Pen", "gatherNear", "(IILNameScope$Row;)V"⟩, 7), (⟨"NameScope$Pen", "nextOf", "(I)I"⟩, 7), (⟨"NameScope$Pen", "addNear", "(J)V"⟩, 7), (⟨"NameScope$Pen", "leastNumber", "(J)I"⟩, 7), (⟨"NameScope$Pen", "putNode", "(ILNameScope$Row;LNameScope$Row;)V"⟩, 7), (⟨"NameScope$Pen", "passUse", "(ILNameScope$Row;)V"⟩, 7), (⟨"NameScopeModel", "globalOf", "(J)I"⟩, 22), (⟨"NameScopeModel", "isOneTerm", "()Z"⟩, 22), (⟨"NameScopeModel", "measure", "(Z)V"⟩, 22), (⟨"NameScopeModel", "kindOf", "(ZI)I"⟩, 22), (⟨"NameScopeModel", "meaningOf", "(I)I"⟩, 22), (⟨"NameScopeModel", "lastOf", "(I)I"⟩, 22), (⟨"NameScopeModel", "become", "()V"⟩, 22), (⟨"NameScopeModel", "under", "(II)I"⟩, 22), (⟨"NameScopeModel", "draft", "(IJ)V"⟩, 22), (⟨"NameScopeModel", "findBinders", "()V"⟩, 22)]
theorem lw_r2 : ∀ q ∈ lw_privs_2, lw_okq q := List.forall_mem_cons.mpr ⟨lw_p16, List.forall_mem_cons.mpr ⟨lw_p17, List.forall_mem_cons.mpr ⟨lw_p18, List.forall_mem_cons.mpr ⟨lw_p19, List.forall_mem_cons.mpr ⟨lw_p20, List.forall_mem_cons.mpr ⟨lw_p21, List.forall_mem_cons.mpr ⟨lw_p22, List.forall_mem_cons.mpr ⟨lw_p23, List.forall_mem_cons.mpr ⟨lw_p24, List.forall_mem_cons.mpr ⟨lw_p25, List.forall_mem_cons.mpr ⟨lw_p26, List.forall_mem_cons.mpr ⟨lw_p27, List.forall_mem_cons.mpr ⟨lw_p28, List.forall_mem_cons.mpr ⟨lw_p29, List.forall_mem_cons.mpr ⟨lw_p30, List.forall_mem_cons.mpr ⟨lw_p31, fun _ h => absurd h List.not_mem_nil⟩⟩⟩⟩⟩⟩⟩⟩⟩⟩⟩⟩⟩⟩⟩⟩
theorem lw_p32 : lw_okq (⟨"NameScopeModel", "catches", "(IJ)Z"⟩, 22) := ⟨⟨by decide +kernel, by decide +kernel⟩, List.mem_of_getElem? (i := 456) (by decide +kernel), List.mem_of_getElem? (i := 632) (by decide +kernel), List.mem_of_getElem? (i := 633) (by decide +kernel)⟩
def lw_privs_3 : List (MethodName × Nat) := [(⟨"NameScopeModel", "catches", "(IJ)Z"⟩, 22)]
theorem lw_r3 : ∀ q ∈ lw_privs_3, lw_okq q := List.forall_mem_cons.mpr ⟨lw_p32, fun _ h => absurd h List.not_mem_nil⟩
def lw_privs : List (MethodName × Nat) := lw_privs_1 ++ (lw_privs_2 ++ (lw_privs_3))
def lw_tbl : List Cond := k2_sels lw_privs ++ tables_1
theorem lw_privs_ok : ∀ q ∈ lw_privs, lw_okq q := by
  show ∀ q ∈ lw_privs_1 ++ (lw_privs_2 ++ (lw_privs_3)), lw_okq q
  exact List.forall_mem_append.mpr ⟨lw_r1, List.forall_mem_append.mpr ⟨lw_r2, lw_r3⟩⟩

/-- the words that may be handed on, and those of nest mates -/
def gTB : List Cond := lw_tbl.filter goodWord
theorem gm {w : Cond} (i : Nat) (h : lw_tbl[i]? = some w) (hg : goodWord w = true) : w ∈ gTB := List.mem_filter.mpr ⟨List.mem_of_getElem? h, hg⟩
theorem gTB_good : ∀ w ∈ gTB, ((w.onTables && w.keeps) = true ∨ ∃ ty, w = .arrayClass ty) := fun w hw => good_of_word (List.mem_filter.mp hw).2
theorem gTB_tbl : ∀ w ∈ gTB, w ∈ lw_tbl := fun w hw => (List.mem_filter.mp hw).1

def gNW : List Cond := [(Jvm.Cond.methodLinkNest "NameScope" (9 : Nat) ({ cls := "NameScope$Globals", name := "<init>", desc := "()V" } : Jvm.MethodName) "NameScope"), (Jvm.Cond.methodLinkNest "NameScope" (18 : Nat) ({ cls := "NameScope$Row", name := "<init>", desc := "()V" } : Jvm.MethodName) "NameScope"), (Jvm.Cond.methodLinkNest "NameScope" (31 : Nat) ({ cls := "NameScope$Scopes", name := "<init>", desc := "()V" } : Jvm.MethodName) "NameScope"), (Jvm.Cond.methodLinkNest "NameScope$Row" (55 : Nat) ({ cls := "NameScope", name := "longer", desc := "(II)I" } : Jvm.MethodName) "NameScope"), (Jvm.Cond.methodLinkNest "NameScope$Row" (49 : Nat) ({ cls := "NameScope", name := "hasParts", desc := "(I)Z" } : Jvm.MethodName) "NameScope"), (Jvm.Cond.methodLinkNest "NameScope$Scopes" (63 : Nat) ({ cls := "NameScope", name := "longer", desc := "(II)I" } : Jvm.MethodName) "NameScope"), (Jvm.Cond.methodLinkNest "NameScope$Scopes" (45 : Nat) ({ cls := "NameScope", name := "hasParts", desc := "(I)Z" } : Jvm.MethodName) "NameScope"), (Jvm.Cond.methodLinkNest "NameScope$Scopes" (52 : Nat) ({ cls := "NameScope", name := "isBinder", desc := "(I)Z" } : Jvm.MethodName) "NameScope"), (Jvm.Cond.methodLinkNest "NameScope$Pen" (162 : Nat) ({ cls := "NameScope", name := "longer", desc := "(II)I" } : Jvm.MethodName) "NameScope")]
theorem gNW_on : ∀ w ∈ gNW, w.onTables = true := by decide +kernel
theorem gNW_ml : ∀ w ∈ gNW, ∃ a i x h, w = Cond.methodLinkNest a i x h := by
  intro w hw
  simp only [gNW, List.mem_cons, List.not_mem_nil, or_false] at hw
  rcases hw with h | h | h | h | h | h | h | h | h <;> exact ⟨_, _, _, _, h⟩
theorem gNW_warm {s U : State} : ∀ w ∈ gNW, s.WarmedH U.vm → va_Nw w s → va_Nw w U := by
  intro w hw hW h
  obtain ⟨a, i, x, z, rfl⟩ := gNW_ml w hw
  exact va_Nw.warmM hW h
theorem gNW_tbl : ∀ w ∈ gNW, w ∈ lw_tbl := by decide +kernel

theorem n_21 : (Jvm.Cond.methodLinkNest "NameScope" (9 : Nat) ({ cls := "NameScope$Globals", name := "<init>", desc := "()V" } : Jvm.MethodName) "NameScope") ∈ gNW := List.mem_of_getElem? (i := 0) rfl
theorem n_35 : (Jvm.Cond.methodLinkNest "NameScope" (18 : Nat) ({ cls := "NameScope$Row", name := "<init>", desc := "()V" } : Jvm.MethodName) "NameScope") ∈ gNW := List.mem_of_getElem? (i := 1) rfl
theorem n_55 : (Jvm.Cond.methodLinkNest "NameScope" (31 : Nat) ({ cls := "NameScope$Scopes", name := "<init>", desc := "()V" } : Jvm.MethodName) "NameScope") ∈ gNW := List.mem_of_getElem? (i := 2) rfl
theorem n_169 : (Jvm.Cond.methodLinkNest "NameScope$Row" (55 : Nat) ({ cls := "NameScope", name := "longer", desc := "(II)I" } : Jvm.MethodName) "NameScope") ∈ gNW := List.mem_of_getElem? (i := 3) rfl
theorem n_215 : (Jvm.Cond.methodLinkNest "NameScope$Row" (49 : Nat) ({ cls := "NameScope", name := "hasParts", desc := "(I)Z" } : Jvm.MethodName) "NameScope") ∈ gNW := List.mem_of_getElem? (i := 4) rfl
theorem n_246 : (Jvm.Cond.methodLinkNest "NameScope$Scopes" (63 : Nat) ({ cls := "NameScope", name := "longer", desc := "(II)I" } : Jvm.MethodName) "NameScope") ∈ gNW := List.mem_of_getElem? (i := 5) rfl
theorem n_259 : (Jvm.Cond.methodLinkNest "NameScope$Scopes" (45 : Nat) ({ cls := "NameScope", name := "hasParts", desc := "(I)Z" } : Jvm.MethodName) "NameScope") ∈ gNW := List.mem_of_getElem? (i := 6) rfl
theorem n_261 : (Jvm.Cond.methodLinkNest "NameScope$Scopes" (52 : Nat) ({ cls := "NameScope", name := "isBinder", desc := "(I)Z" } : Jvm.MethodName) "NameScope") ∈ gNW := List.mem_of_getElem? (i := 7) rfl
theorem n_356 : (Jvm.Cond.methodLinkNest "NameScope$Pen" (162 : Nat) ({ cls := "NameScope", name := "longer", desc := "(II)I" } : Jvm.MethodName) "NameScope") ∈ gNW := List.mem_of_getElem? (i := 8) rfl
end
section
theorem w_0 : (Jvm.Cond.initialized "NameScopeLaw") ∈ gTB := gm 33 (by decide +kernel) rfl
theorem w_1 : (Jvm.Cond.initialized "NameScope") ∈ gTB := gm 34 (by decide +kernel) rfl
theorem w_2 : (Jvm.Cond.initialized "NameScope$Globals") ∈ gTB := gm 35 (by decide +kernel) rfl
theorem w_3 : (Jvm.Cond.initialized "NameScope$Row") ∈ gTB := gm 36 (by decide +kernel) rfl
theorem w_4 : (Jvm.Cond.initialized "NameScope$Scopes") ∈ gTB := gm 37 (by decide +kernel) rfl
theorem w_5 : (Jvm.Cond.initialized "NameScope$Pen") ∈ gTB := gm 38 (by decide +kernel) rfl
theorem w_6 : (Jvm.Cond.initialized "NameScopeModel") ∈ gTB := gm 39 (by decide +kernel) rfl
theorem w_7 : (Jvm.Cond.initialized "NameScope$Names") ∈ gTB := gm 40 (by decide +kernel) rfl
theorem w_8 : (Jvm.Cond.initialized "java/lang/Math") ∈ gTB := gm 41 (by decide +kernel) rfl
theorem w_9 : (Jvm.Cond.initialized "java/util/Arrays") ∈ gTB := gm 42 (by decide +kernel) rfl
theorem w_10 : (Jvm.Cond.initialized "java/lang/System") ∈ gTB := gm 43 (by decide +kernel) rfl
theorem w_11 : (Jvm.Cond.classLink "NameScopeLaw" (7 : Nat) "NameScope") ∈ gTB := gm 44 (by decide +kernel) rfl
theorem w_12 : (Jvm.Cond.instantiable "NameScope" (8 : Nat)) ∈ gTB := gm 45 (by decide +kernel) rfl
theorem w_13 : (Jvm.Cond.methodLink "NameScopeLaw" (9 : Nat) ({ cls := "NameScope", name := "<init>", desc := "()V" } : Jvm.MethodName)) ∈ gTB := gm 46 (by decide +kernel) rfl
theorem w_14 : (Jvm.Cond.instanceMethod ({ cls := "NameScope", name := "<init>", desc := "()V" } : Jvm.MethodName)) ∈ gTB := gm 47 (by decide +kernel) rfl
set_option maxRecDepth 100000 in
theorem w_15 : (Jvm.Cond.code ({ cls := "NameScope", name := "<init>", desc := "()V" } : Jvm.MethodName) prog_1_method_1_code (1 : Nat) (Option.none : Option Jvm.ClassFile.FieldType)) ∈ gTB := gm 48 rfl rfl
theorem w_16 : (Jvm.Cond.methodLink "NameScope" (1 : Nat) ({ cls := "java/lang/Object", name := "<init>", desc := "()V" } : Jvm.MethodName)) ∈ gTB := gm 49 (by decide +kernel) rfl
theorem w_17 : (Jvm.Cond.instanceMethod ({ cls := "java/lang/Object", name := "<init>", desc := "()V" } : Jvm.MethodName)) ∈ gTB := gm 50 (by decide +kernel) rfl
set_option maxRecDepth 100000 in
theorem w_18 : (Jvm.Cond.code ({ cls := "java/lang/Object", name := "<init>", desc := "()V" } : Jvm.MethodName) object_method_1_code (1 : Nat) (Option.none : Option Jvm.ClassFile.FieldType)) ∈ gTB := gm 51 rfl rfl
theorem w_19 : (Jvm.Cond.classLink "NameScope" (7 : Nat) "NameScope$Globals") ∈ gTB := gm 52 (by decide +kernel) rfl
theorem w_20 : (Jvm.Cond.instantiable "NameScope$Globals" (2 : Nat)) ∈ gTB := gm 53 (by decide +kernel) rfl
theorem w_22 : (Jvm.Cond.instanceMethod ({ cls := "NameScope$Globals", name := "<init>", desc := "()V" } : Jvm.MethodName)) ∈ gTB := gm 55 (by decide +kernel) rfl
set_option maxRecDepth 100000 in
theorem w_23 : (Jvm.Cond.code ({ cls := "NameScope$Globals", name := "<init>", desc := "()V" } : Jvm.MethodName) prog_2_method_1_code (1 : Nat) (Option.none : Option Jvm.ClassFile.FieldType)) ∈ gTB := gm 56 rfl rfl
theorem w_24 : (Jvm.Cond.methodLink "NameScope$Globals" (3 : Nat) ({ cls := "java/lang/Object", name := "<init>", desc := "()V" } : Jvm.MethodName)) ∈ gTB := gm 57 (by decide +kernel) rfl
theorem w_25 : (Jvm.Cond.fieldLink "NameScope$Globals" (9 : Nat) "NameScope$Globals" "names" "[J") ∈ gTB := gm 58 (by decide +kernel) rfl
theorem w_26 : (Jvm.Cond.fieldLink "NameScope$Globals" (15 : Nat) "NameScope$Globals" "count" "I") ∈ gTB := gm 59 (by decide +kernel) rfl
theorem w_32 : (Jvm.Cond.arrayClass Jvm.ClassFile.FieldType.long) ∈ gTB := gm 65 (by decide +kernel) rfl
theorem w_33 : (Jvm.Cond.classLink "NameScope" (16 : Nat) "NameScope$Row") ∈ gTB := gm 66 (by decide +kernel) rfl
theorem w_34 : (Jvm.Cond.instantiable "NameScope$Row" (4 : Nat)) ∈ gTB := gm 67 (by decide +kernel) rfl
theorem w_36 : (Jvm.Cond.instanceMethod ({ cls := "NameScope$Row", name := "<init>", desc := "()V" } : Jvm.MethodName)) ∈ gTB := gm 69 (by decide +kernel) rfl
set_option maxRecDepth 100000 in
theorem w_37 : (Jvm.Cond.code ({ cls := "NameScope$Row", name := "<init>", desc := "()V" } : Jvm.MethodName) prog_5_method_1_code (1 : Nat) (Option.none : Option Jvm.ClassFile.FieldType)) ∈ gTB := gm 70 rfl rfl
theorem w_38 : (Jvm.Cond.methodLink "NameScope$Row" (3 : Nat) ({ cls := "java/lang/Object", name := "<init>", desc := "()V" } : Jvm.MethodName)) ∈ gTB := gm 71 (by decide +kernel) rfl
theorem w_39 : (Jvm.Cond.fieldLink "NameScope$Row" (9 : Nat) "NameScope$Row" "kinds" "[I") ∈ gTB := gm 72 (by decide +kernel) rfl
theorem w_40 : (Jvm.Cond.fieldLink "NameScope$Row" (15 : Nat) "NameScope$Row" "besides" "[J") ∈ gTB := gm 73 (by decide +kernel) rfl
theorem w_41 : (Jvm.Cond.fieldLink "NameScope$Row" (19 : Nat) "NameScope$Row" "sizes" "[I") ∈ gTB := gm 74 (by decide +kernel) rfl
theorem w_42 : (Jvm.Cond.fieldLink "NameScope$Row" (22 : Nat) "NameScope$Row" "count" "I") ∈ gTB := gm 75 (by decide +kernel) rfl
theorem w_52 : (Jvm.Cond.arrayClass Jvm.ClassFile.FieldType.int) ∈ gTB := gm 85 (by decide +kernel) rfl
theorem w_53 : (Jvm.Cond.classLink "NameScope" (29 : Nat) "NameScope$Scopes") ∈ gTB := gm 86 (by decide +kernel) rfl
theorem w_54 : (Jvm.Cond.instantiable "NameScope$Scopes" (4 : Nat)) ∈ gTB := gm 87 (by decide +kernel) rfl
theorem w_56 : (Jvm.Cond.instanceMethod ({ cls := "NameScope$Scopes", name := "<init>", desc := "()V" } : Jvm.MethodName)) ∈ gTB := gm 89 (by decide +kernel) rfl
set_option maxRecDepth 100000 in
theorem w_57 : (Jvm.Cond.code ({ cls := "NameScope$Scopes", name := "<init>", desc := "()V" } : Jvm.MethodName) prog_6_method_1_code (1 : Nat) (Option.none : Option Jvm.ClassFile.FieldType)) ∈ gTB := gm 90 rfl rfl
theorem w_58 : (Jvm.Cond.methodLink "NameScope$Scopes" (3 : Nat) ({ cls := "java/lang/Object", name := "<init>", desc := "()V" } : Jvm.MethodName)) ∈ gTB := gm 91 (by decide +kernel) rfl
theorem w_59 : (Jvm.Cond.fieldLink "NameScope$Scopes" (9 : Nat) "NameScope$Scopes" "count" "I") ∈ gTB := gm 92 (by decide +kernel) rfl
theorem w_60 : (Jvm.Cond.fieldLink "NameScope$Scopes" (15 : Nat) "NameScope$Scopes" "innermost" "[I") ∈ gTB := gm 93 (by decide +kernel) rfl
theorem w_61 : (Jvm.Cond.fieldLink "NameScope$Scopes" (19 : Nat) "NameScope$Scopes" "depths" "[I") ∈ gTB := gm 94 (by decide +kernel) rfl
theorem w_62 : (Jvm.Cond.fieldLink "NameScope$Scopes" (22 : Nat) "NameScope$Scopes" "open" "[I") ∈ gTB := gm 95 (by decide +kernel) rfl
theorem w_72 : (Jvm.Cond.classLink "NameScope" (36 : Nat) "NameScope$Pen") ∈ gTB := gm 105 (by decide +kernel) rfl
theorem w_73 : (Jvm.Cond.instantiable "NameScope$Pen" (7 : Nat)) ∈ gTB := gm 106 (by decide +kernel) rfl
theorem w_74 : (Jvm.Cond.methodLink "NameScope" (38 : Nat) ({ cls := "NameScope$Pen", name := "<init>", desc := "(LNameScope$Globals;LNameScope$Scopes;)V" } : Jvm.MethodName)) ∈ gTB := gm 107 (by decide +kernel) rfl
theorem w_75 : (Jvm.Cond.instanceMethod ({ cls := "NameScope$Pen", name := "<init>", desc := "(LNameScope$Globals;LNameScope$Scopes;)V" } : Jvm.MethodName)) ∈ gTB := gm 108 (by decide +kernel) rfl
set_option maxRecDepth 100000 in
theorem w_76 : (Jvm.Cond.code ({ cls := "NameScope$Pen", name := "<init>", desc := "(LNameScope$Globals;LNameScope$Scopes;)V" } : Jvm.MethodName) prog_4_method_1_code (3 : Nat) (Option.none : Option Jvm.ClassFile.FieldType)) ∈ gTB := gm 109 rfl rfl
theorem w_77 : (Jvm.Cond.methodLink "NameScope$Pen" (5 : Nat) ({ cls := "java/lang/Object", name := "<init>", desc := "()V" } : Jvm.MethodName)) ∈ gTB := gm 110 (by decide +kernel) rfl
theorem w_78 : (Jvm.Cond.fieldLink "NameScope$Pen" (32 : Nat) "NameScope$Pen" "globals" "LNameScope$Globals;") ∈ gTB := gm 111 (by decide +kernel) rfl
theorem w_79 : (Jvm.Cond.fieldLink "NameScope$Pen" (36 : Nat) "NameScope$Pen" "scopes" "LNameScope$Scopes;") ∈ gTB := gm 112 (by decide +kernel) rfl
theorem w_80 : (Jvm.Cond.fieldLink "NameScope$Pen" (11 : Nat) "NameScope$Pen" "next" "[I") ∈ gTB := gm 113 (by decide +kernel) rfl
theorem w_81 : (Jvm.Cond.fieldLink "NameScope$Pen" (17 : Nat) "NameScope$Pen" "latest" "[I") ∈ gTB := gm 114 (by decide +kernel) rfl
theorem w_82 : (Jvm.Cond.fieldLink "NameScope$Pen" (20 : Nat) "NameScope$Pen" "near" "[J") ∈ gTB := gm 115 (by decide +kernel) rfl
theorem w_83 : (Jvm.Cond.fieldLink "NameScope$Pen" (24 : Nat) "NameScope$Pen" "taken" "[Z") ∈ gTB := gm 116 (by decide +kernel) rfl
theorem w_84 : (Jvm.Cond.fieldLink "NameScope$Pen" (28 : Nat) "NameScope$Pen" "nearCount" "I") ∈ gTB := gm 117 (by decide +kernel) rfl
theorem w_100 : (Jvm.Cond.arrayClass Jvm.ClassFile.FieldType.boolean) ∈ gTB := gm 133 (by decide +kernel) rfl
theorem w_101 : (Jvm.Cond.fieldLink "NameScope" (10 : Nat) "NameScope" "globals" "LNameScope$Globals;") ∈ gTB := gm 134 (by decide +kernel) rfl
theorem w_102 : (Jvm.Cond.fieldLink "NameScope" (19 : Nat) "NameScope" "kept" "LNameScope$Row;") ∈ gTB := gm 135 (by decide +kernel) rfl
theorem w_103 : (Jvm.Cond.fieldLink "NameScope" (23 : Nat) "NameScope" "paper" "LNameScope$Row;") ∈ gTB := gm 136 (by decide +kernel) rfl
theorem w_104 : (Jvm.Cond.fieldLink "NameScope" (26 : Nat) "NameScope" "laid" "LNameScope$Row;") ∈ gTB := gm 137 (by decide +kernel) rfl
theorem w_105 : (Jvm.Cond.fieldLink "NameScope" (32 : Nat) "NameScope" "scopes" "LNameScope$Scopes;") ∈ gTB := gm 138 (by decide +kernel) rfl
theorem w_106 : (Jvm.Cond.fieldLink "NameScope" (41 : Nat) "NameScope" "pen" "LNameScope$Pen;") ∈ gTB := gm 139 (by decide +kernel) rfl
theorem w_107 : (Jvm.Cond.fieldLink "NameScope" (45 : Nat) "NameScope" "term" "LNameScope$Row;") ∈ gTB := gm 140 (by decide +kernel) rfl
theorem w_108 : (Jvm.Cond.fieldLink "NameScope" (48 : Nat) "NameScope" "spare" "LNameScope$Row;") ∈ gTB := gm 141 (by decide +kernel) rfl
theorem w_126 : (Jvm.Cond.methodLink "NameScopeLaw" (15 : Nat) ({ cls := "NameScope", name := "global", desc := "(J)I" } : Jvm.MethodName)) ∈ gTB := gm 159 (by decide +kernel) rfl
theorem w_127 : (Jvm.Cond.instanceMethod ({ cls := "NameScope", name := "global", desc := "(J)I" } : Jvm.MethodName)) ∈ gTB := gm 160 (by decide +kernel) rfl
theorem w_128 : (Jvm.Cond.selects "NameScope" ({ cls := "NameScope", name := "global", desc := "(J)I" } : Jvm.MethodName) ({ cls := "NameScope", name := "global", desc := "(J)I" } : Jvm.MethodName)) ∈ gTB := gm 161 (by decide +kernel) rfl
set_option maxRecDepth 100000 in
theorem w_129 : (Jvm.Cond.code ({ cls := "NameScope", name := "global", desc := "(J)I" } : Jvm.MethodName) prog_1_method_2_code (3 : Nat) (Option.some Jvm.ClassFile.FieldType.int)) ∈ gTB := gm 162 rfl rfl
theorem w_130 : (Jvm.Cond.methodLink "NameScope" (51 : Nat) ({ cls := "NameScope$Names", name := "canBeGiven", desc := "(J)Z" } : Jvm.MethodName)) ∈ gTB := gm 163 (by decide +kernel) rfl
theorem w_131 : (Jvm.Cond.static ({ cls := "NameScope$Names", name := "canBeGiven", desc := "(J)Z" } : Jvm.MethodName)) ∈ gTB := gm 164 (by decide +kernel) rfl
set_option maxRecDepth 100000 in
theorem w_132 : (Jvm.Cond.code ({ cls := "NameScope$Names", name := "canBeGiven", desc := "(J)Z" } : Jvm.MethodName) prog_3_method_2_code (9 : Nat) (Option.some Jvm.ClassFile.FieldType.boolean)) ∈ gTB := gm 165 rfl rfl
theorem w_133 : (Jvm.Cond.constantLong "NameScope$Names" (9 : Nat) (255 : Int64)) ∈ gTB := gm 166 (by decide +kernel) rfl
theorem w_134 : (Jvm.Cond.constantLong "NameScope$Names" (11 : Nat) (97 : Int64)) ∈ gTB := gm 167 (by decide +kernel) rfl
theorem w_135 : (Jvm.Cond.constantLong "NameScope$Names" (13 : Nat) (122 : Int64)) ∈ gTB := gm 168 (by decide +kernel) rfl
theorem w_136 : (Jvm.Cond.methodLink "NameScope$Names" (15 : Nat) ({ cls := "NameScope$Names", name := "isDigit", desc := "(J)Z" } : Jvm.MethodName)) ∈ gTB := gm 169 (by decide +kernel) rfl
theorem w_137 : (Jvm.Cond.static ({ cls := "NameScope$Names", name := "isDigit", desc := "(J)Z" } : Jvm.MethodName)) ∈ gTB := gm 170 (by decide +kernel) rfl
set_option maxRecDepth 100000 in
theorem w_138 : (Jvm.Cond.code ({ cls := "NameScope$Names", name := "isDigit", desc := "(J)Z" } : Jvm.MethodName) prog_3_method_6_code (2 : Nat) (Option.some Jvm.ClassFile.FieldType.boolean)) ∈ gTB := gm 171 rfl rfl
theorem w_139 : (Jvm.Cond.constantLong "NameScope$Names" (19 : Nat) (48 : Int64)) ∈ gTB := gm 172 (by decide +kernel) rfl
theorem w_140 : (Jvm.Cond.constantLong "NameScope$Names" (21 : Nat) (57 : Int64)) ∈ gTB := gm 173 (by decide +kernel) rfl
theorem w_141 : (Jvm.Cond.methodLink "NameScope" (57 : Nat) ({ cls := "NameScope$Globals", name := "add", desc := "(J)I" } : Jvm.MethodName)) ∈ gTB := gm 174 (by decide +kernel) rfl
theorem w_142 : (Jvm.Cond.instanceMethod ({ cls := "NameScope$Globals", name := "add", desc := "(J)I" } : Jvm.MethodName)) ∈ gTB := gm 175 (by decide +kernel) rfl
theorem w_143 : (Jvm.Cond.selects "NameScope$Globals" ({ cls := "NameScope$Globals", name := "add", desc := "(J)I" } : Jvm.MethodName) ({ cls := "NameScope$Globals", name := "add", desc := "(J)I" } : Jvm.MethodName)) ∈ gTB := gm 176 (by decide +kernel) rfl
set_option maxRecDepth 100000 in
theorem w_144 : (Jvm.Cond.code ({ cls := "NameScope$Globals", name := "add", desc := "(J)I" } : Jvm.MethodName) prog_2_method_3_code (3 : Nat) (Option.some Jvm.ClassFile.FieldType.int)) ∈ gTB := gm 177 rfl rfl
theorem w_145 : (Jvm.Cond.methodLink "NameScope$Globals" (19 : Nat) ({ cls := "NameScope$Globals", name := "find", desc := "(J)I" } : Jvm.MethodName)) ∈ gTB := gm 178 (by decide +kernel) rfl
theorem w_146 : (Jvm.Cond.instanceMethod ({ cls := "NameScope$Globals", name := "find", desc := "(J)I" } : Jvm.MethodName)) ∈ gTB := gm 179 (by decide +kernel) rfl
theorem w_147 : (Jvm.Cond.selects "NameScope$Globals" ({ cls := "NameScope$Globals", name := "find", desc := "(J)I" } : Jvm.MethodName) ({ cls := "NameScope$Globals", name := "find", desc := "(J)I" } : Jvm.MethodName)) ∈ gTB := gm 180 (by decide +kernel) rfl
set_option maxRecDepth 100000 in
theorem w_148 : (Jvm.Cond.code ({ cls := "NameScope$Globals", name := "find", desc := "(J)I" } : Jvm.MethodName) prog_2_method_4_code (4 : Nat) (Option.some Jvm.ClassFile.FieldType.int)) ∈ gTB := gm 181 rfl rfl
theorem w_149 : (Jvm.Cond.methodLink "NameScopeLaw" (20 : Nat) ({ cls := "NameScope", name := "lay", desc := "(IJ)I" } : Jvm.MethodName)) ∈ gTB := gm 182 (by decide +kernel) rfl
theorem w_150 : (Jvm.Cond.instanceMethod ({ cls := "NameScope", name := "lay", desc := "(IJ)I" } : Jvm.MethodName)) ∈ gTB := gm 183 (by decide +kernel) rfl
theorem w_151 : (Jvm.Cond.selects "NameScope" ({ cls := "NameScope", name := "lay", desc := "(IJ)I" } : Jvm.MethodName) ({ cls := "NameScope", name := "lay", desc := "(IJ)I" } : Jvm.MethodName)) ∈ gTB := gm 184 (by decide +kernel) rfl
set_option maxRecDepth 100000 in
theorem w_152 : (Jvm.Cond.code ({ cls := "NameScope", name := "lay", desc := "(IJ)I" } : Jvm.MethodName) prog_1_method_3_code (4 : Nat) (Option.some Jvm.ClassFile.FieldType.int)) ∈ gTB := gm 185 rfl rfl
theorem w_153 : (Jvm.Cond.methodLink "NameScope" (61 : Nat) ({ cls := "NameScope", name := "canBeBeside", desc := "(IJ)Z" } : Jvm.MethodName)) ∈ gTB := gm 186 (by decide +kernel) rfl
theorem w_154 : (Jvm.Cond.static ({ cls := "NameScope", name := "canBeBeside", desc := "(IJ)Z" } : Jvm.MethodName)) ∈ gTB := gm 187 (by decide +kernel) rfl
set_option maxRecDepth 100000 in
theorem w_155 : (Jvm.Cond.code ({ cls := "NameScope", name := "canBeBeside", desc := "(IJ)Z" } : Jvm.MethodName) prog_1_method_15_code (3 : Nat) (Option.some Jvm.ClassFile.FieldType.boolean)) ∈ gTB := gm 188 rfl rfl
theorem w_156 : (Jvm.Cond.constantLong "NameScope" (139 : Nat) (100 : Int64)) ∈ gTB := gm 189 (by decide +kernel) rfl
theorem w_157 : (Jvm.Cond.methodLink "NameScope" (65 : Nat) ({ cls := "NameScope$Row", name := "count", desc := "()I" } : Jvm.MethodName)) ∈ gTB := gm 190 (by decide +kernel) rfl
theorem w_158 : (Jvm.Cond.instanceMethod ({ cls := "NameScope$Row", name := "count", desc := "()I" } : Jvm.MethodName)) ∈ gTB := gm 191 (by decide +kernel) rfl
theorem w_159 : (Jvm.Cond.selects "NameScope$Row" ({ cls := "NameScope$Row", name := "count", desc := "()I" } : Jvm.MethodName) ({ cls := "NameScope$Row", name := "count", desc := "()I" } : Jvm.MethodName)) ∈ gTB := gm 192 (by decide +kernel) rfl
set_option maxRecDepth 100000 in
theorem w_160 : (Jvm.Cond.code ({ cls := "NameScope$Row", name := "count", desc := "()I" } : Jvm.MethodName) prog_5_method_2_code (1 : Nat) (Option.some Jvm.ClassFile.FieldType.int)) ∈ gTB := gm 193 rfl rfl
theorem w_161 : (Jvm.Cond.methodLink "NameScope" (69 : Nat) ({ cls := "NameScope$Row", name := "add", desc := "(IJ)V" } : Jvm.MethodName)) ∈ gTB := gm 194 (by decide +kernel) rfl
theorem w_162 : (Jvm.Cond.instanceMethod ({ cls := "NameScope$Row", name := "add", desc := "(IJ)V" } : Jvm.MethodName)) ∈ gTB := gm 195 (by decide +kernel) rfl
theorem w_163 : (Jvm.Cond.selects "NameScope$Row" ({ cls := "NameScope$Row", name := "add", desc := "(IJ)V" } : Jvm.MethodName) ({ cls := "NameScope$Row", name := "add", desc := "(IJ)V" } : Jvm.MethodName)) ∈ gTB := gm 196 (by decide +kernel) rfl
set_option maxRecDepth 100000 in
theorem w_164 : (Jvm.Cond.code ({ cls := "NameScope$Row", name := "add", desc := "(IJ)V" } : Jvm.MethodName) prog_5_method_10_code (4 : Nat) (Option.none : Option Jvm.ClassFile.FieldType)) ∈ gTB := gm 197 rfl rfl
theorem w_165 : (Jvm.Cond.methodLink "NameScope$Row" (39 : Nat) ({ cls := "NameScope$Row", name := "makeRoom", desc := "(I)V" } : Jvm.MethodName)) ∈ gTB := gm 198 (by decide +kernel) rfl
theorem w_167 : (Jvm.Cond.instanceMethod ({ cls := "NameScope$Row", name := "makeRoom", desc := "(I)V" } : Jvm.MethodName)) ∈ gTB := gm 200 (by decide +kernel) rfl
set_option maxRecDepth 100000 in
theorem w_168 : (Jvm.Cond.code ({ cls := "NameScope$Row", name := "makeRoom", desc := "(I)V" } : Jvm.MethodName) prog_5_method_14_code (3 : Nat) (Option.none : Option Jvm.ClassFile.FieldType)) ∈ gTB := gm 201 rfl rfl
theorem w_170 : (Jvm.Cond.static ({ cls := "NameScope", name := "longer", desc := "(II)I" } : Jvm.MethodName)) ∈ gTB := gm 203 (by decide +kernel) rfl
set_option maxRecDepth 100000 in
theorem w_171 : (Jvm.Cond.code ({ cls := "NameScope", name := "longer", desc := "(II)I" } : Jvm.MethodName) prog_1_method_18_code (2 : Nat) (Option.some Jvm.ClassFile.FieldType.int)) ∈ gTB := gm 204 rfl rfl
theorem w_172 : (Jvm.Cond.methodLink "NameScope" (141 : Nat) ({ cls := "java/lang/Math", name := "max", desc := "(II)I" } : Jvm.MethodName)) ∈ gTB := gm 205 (by decide +kernel) rfl
theorem w_173 : (Jvm.Cond.static ({ cls := "java/lang/Math", name := "max", desc := "(II)I" } : Jvm.MethodName)) ∈ gTB := gm 206 (by decide +kernel) rfl
set_option maxRecDepth 100000 in
theorem w_174 : (Jvm.Cond.code ({ cls := "java/lang/Math", name := "max", desc := "(II)I" } : Jvm.MethodName) prog_10_method_65_code (2 : Nat) (Option.some Jvm.ClassFile.FieldType.int)) ∈ gTB := gm 207 rfl rfl
theorem w_175 : (Jvm.Cond.methodLink "NameScope$Row" (59 : Nat) ({ cls := "java/util/Arrays", name := "copyOf", desc := "([II)[I" } : Jvm.MethodName)) ∈ gTB := gm 208 (by decide +kernel) rfl
theorem w_176 : (Jvm.Cond.static ({ cls := "java/util/Arrays", name := "copyOf", desc := "([II)[I" } : Jvm.MethodName)) ∈ gTB := gm 209 (by decide +kernel) rfl
set_option maxRecDepth 100000 in
theorem w_177 : (Jvm.Cond.code ({ cls := "java/util/Arrays", name := "copyOf", desc := "([II)[I" } : Jvm.MethodName) prog_12_method_123_code (3 : Nat) (Option.some (Jvm.ClassFile.FieldType.array Jvm.ClassFile.FieldType.int))) ∈ gTB := gm 210 rfl rfl
theorem w_178 : (Jvm.Cond.methodLink "java/util/Arrays" (316 : Nat) ({ cls := "[I", name := "clone", desc := "()Ljava/lang/Object;" } : Jvm.MethodName)) ∈ gTB := gm 211 (by decide +kernel) rfl
theorem w_180 : (Jvm.Cond.native ({ cls := "java/lang/Object", name := "clone", desc := "()Ljava/lang/Object;" } : Jvm.MethodName)) ∈ gTB := gm 213 (by decide +kernel) rfl
theorem w_181 : (Jvm.Cond.instanceMethod ({ cls := "java/lang/Object", name := "clone", desc := "()Ljava/lang/Object;" } : Jvm.MethodName)) ∈ gTB := gm 214 (by decide +kernel) rfl
theorem w_182 : (Jvm.Cond.selects "[I" ({ cls := "[I", name := "clone", desc := "()Ljava/lang/Object;" } : Jvm.MethodName) ({ cls := "java/lang/Object", name := "clone", desc := "()Ljava/lang/Object;" } : Jvm.MethodName)) ∈ gTB := gm 215 (by decide +kernel) rfl
theorem w_184 : (Jvm.Cond.classLink "java/util/Arrays" (317 : Nat) "[I") ∈ gTB := gm 217 (by decide +kernel) rfl
theorem w_185 : (Jvm.Cond.methodLink "java/util/Arrays" (304 : Nat) ({ cls := "java/lang/Math", name := "min", desc := "(II)I" } : Jvm.MethodName)) ∈ gTB := gm 218 (by decide +kernel) rfl
theorem w_186 : (Jvm.Cond.static ({ cls := "java/lang/Math", name := "min", desc := "(II)I" } : Jvm.MethodName)) ∈ gTB := gm 219 (by decide +kernel) rfl
set_option maxRecDepth 100000 in
theorem w_187 : (Jvm.Cond.code ({ cls := "java/lang/Math", name := "min", desc := "(II)I" } : Jvm.MethodName) prog_10_method_69_code (2 : Nat) (Option.some Jvm.ClassFile.FieldType.int)) ∈ gTB := gm 220 rfl rfl
theorem w_188 : (Jvm.Cond.methodLink "java/util/Arrays" (150 : Nat) ({ cls := "java/lang/System", name := "arraycopy", desc := "(Ljava/lang/Object;ILjava/lang/Object;II)V" } : Jvm.MethodName)) ∈ gTB := gm 221 (by decide +kernel) rfl
theorem w_189 : (Jvm.Cond.static ({ cls := "java/lang/System", name := "arraycopy", desc := "(Ljava/lang/Object;ILjava/lang/Object;II)V" } : Jvm.MethodName)) ∈ gTB := gm 222 (by decide +kernel) rfl
theorem w_190 : (Jvm.Cond.native ({ cls := "java/lang/System", name := "arraycopy", desc := "(Ljava/lang/Object;ILjava/lang/Object;II)V" } : Jvm.MethodName)) ∈ gTB := gm 223 (by decide +kernel) rfl
theorem w_191 : (Jvm.Cond.methodLink "NameScope$Row" (65 : Nat) ({ cls := "java/util/Arrays", name := "copyOf", desc := "([JI)[J" } : Jvm.MethodName)) ∈ gTB := gm 224 (by decide +kernel) rfl
theorem w_192 : (Jvm.Cond.static ({ cls := "java/util/Arrays", name := "copyOf", desc := "([JI)[J" } : Jvm.MethodName)) ∈ gTB := gm 225 (by decide +kernel) rfl
set_option maxRecDepth 100000 in
theorem w_193 : (Jvm.Cond.code ({ cls := "java/util/Arrays", name := "copyOf", desc := "([JI)[J" } : Jvm.MethodName) prog_12_method_124_code (3 : Nat) (Option.some (Jvm.ClassFile.FieldType.array Jvm.ClassFile.FieldType.long))) ∈ gTB := gm 226 rfl rfl
theorem w_194 : (Jvm.Cond.methodLink "java/util/Arrays" (319 : Nat) ({ cls := "[J", name := "clone", desc := "()Ljava/lang/Object;" } : Jvm.MethodName)) ∈ gTB := gm 227 (by decide +kernel) rfl
theorem w_196 : (Jvm.Cond.selects "[J" ({ cls := "[J", name := "clone", desc := "()Ljava/lang/Object;" } : Jvm.MethodName) ({ cls := "java/lang/Object", name := "clone", desc := "()Ljava/lang/Object;" } : Jvm.MethodName)) ∈ gTB := gm 229 (by decide +kernel) rfl
theorem w_198 : (Jvm.Cond.classLink "java/util/Arrays" (320 : Nat) "[J") ∈ gTB := gm 231 (by decide +kernel) rfl
theorem w_199 : (Jvm.Cond.methodLink "NameScopeLaw" (25 : Nat) ({ cls := "NameScope", name := "drop", desc := "()I" } : Jvm.MethodName)) ∈ gTB := gm 232 (by decide +kernel) rfl
theorem w_200 : (Jvm.Cond.instanceMethod ({ cls := "NameScope", name := "drop", desc := "()I" } : Jvm.MethodName)) ∈ gTB := gm 233 (by decide +kernel) rfl
theorem w_201 : (Jvm.Cond.selects "NameScope" ({ cls := "NameScope", name := "drop", desc := "()I" } : Jvm.MethodName) ({ cls := "NameScope", name := "drop", desc := "()I" } : Jvm.MethodName)) ∈ gTB := gm 234 (by decide +kernel) rfl
set_option maxRecDepth 100000 in
theorem w_202 : (Jvm.Cond.code ({ cls := "NameScope", name := "drop", desc := "()I" } : Jvm.MethodName) prog_1_method_4_code (2 : Nat) (Option.some Jvm.ClassFile.FieldType.int)) ∈ gTB := gm 235 rfl rfl
theorem w_203 : (Jvm.Cond.methodLink "NameScope" (72 : Nat) ({ cls := "NameScope$Row", name := "clear", desc := "()V" } : Jvm.MethodName)) ∈ gTB := gm 236 (by decide +kernel) rfl
theorem w_204 : (Jvm.Cond.instanceMethod ({ cls := "NameScope$Row", name := "clear", desc := "()V" } : Jvm.MethodName)) ∈ gTB := gm 237 (by decide +kernel) rfl
theorem w_205 : (Jvm.Cond.selects "NameScope$Row" ({ cls := "NameScope$Row", name := "clear", desc := "()V" } : Jvm.MethodName) ({ cls := "NameScope$Row", name := "clear", desc := "()V" } : Jvm.MethodName)) ∈ gTB := gm 238 (by decide +kernel) rfl
set_option maxRecDepth 100000 in
theorem w_206 : (Jvm.Cond.code ({ cls := "NameScope$Row", name := "clear", desc := "()V" } : Jvm.MethodName) prog_5_method_9_code (1 : Nat) (Option.none : Option Jvm.ClassFile.FieldType)) ∈ gTB := gm 239 rfl rfl
theorem w_207 : (Jvm.Cond.methodLink "NameScopeLaw" (30 : Nat) ({ cls := "NameScope", name := "bind", desc := "()I" } : Jvm.MethodName)) ∈ gTB := gm 240 (by decide +kernel) rfl
theorem w_208 : (Jvm.Cond.instanceMethod ({ cls := "NameScope", name := "bind", desc := "()I" } : Jvm.MethodName)) ∈ gTB := gm 241 (by decide +kernel) rfl
theorem w_209 : (Jvm.Cond.selects "NameScope" ({ cls := "NameScope", name := "bind", desc := "()I" } : Jvm.MethodName) ({ cls := "NameScope", name := "bind", desc := "()I" } : Jvm.MethodName)) ∈ gTB := gm 242 (by decide +kernel) rfl
set_option maxRecDepth 100000 in
theorem w_210 : (Jvm.Cond.code ({ cls := "NameScope", name := "bind", desc := "()I" } : Jvm.MethodName) prog_1_method_5_code (3 : Nat) (Option.some Jvm.ClassFile.FieldType.int)) ∈ gTB := gm 243 rfl rfl
theorem w_211 : (Jvm.Cond.methodLink "NameScope" (75 : Nat) ({ cls := "NameScope$Row", name := "measure", desc := "()Z" } : Jvm.MethodName)) ∈ gTB := gm 244 (by decide +kernel) rfl
theorem w_212 : (Jvm.Cond.instanceMethod ({ cls := "NameScope$Row", name := "measure", desc := "()Z" } : Jvm.MethodName)) ∈ gTB := gm 245 (by decide +kernel) rfl
theorem w_213 : (Jvm.Cond.selects "NameScope$Row" ({ cls := "NameScope$Row", name := "measure", desc := "()Z" } : Jvm.MethodName) ({ cls := "NameScope$Row", name := "measure", desc := "()Z" } : Jvm.MethodName)) ∈ gTB := gm 246 (by decide +kernel) rfl
set_option maxRecDepth 100000 in
theorem w_214 : (Jvm.Cond.code ({ cls := "NameScope$Row", name := "measure", desc := "()Z" } : Jvm.MethodName) prog_5_method_13_code (3 : Nat) (Option.some Jvm.ClassFile.FieldType.boolean)) ∈ gTB := gm 247 rfl rfl
theorem w_216 : (Jvm.Cond.static ({ cls := "NameScope", name := "hasParts", desc := "(I)Z" } : Jvm.MethodName)) ∈ gTB := gm 249 (by decide +kernel) rfl
set_option maxRecDepth 100000 in
theorem w_217 : (Jvm.Cond.code ({ cls := "NameScope", name := "hasParts", desc := "(I)Z" } : Jvm.MethodName) prog_1_method_17_code (1 : Nat) (Option.some Jvm.ClassFile.FieldType.boolean)) ∈ gTB := gm 250 rfl rfl
theorem w_218 : (Jvm.Cond.methodLink "NameScope" (110 : Nat) ({ cls := "NameScope", name := "isBinder", desc := "(I)Z" } : Jvm.MethodName)) ∈ gTB := gm 251 (by decide +kernel) rfl
theorem w_219 : (Jvm.Cond.static ({ cls := "NameScope", name := "isBinder", desc := "(I)Z" } : Jvm.MethodName)) ∈ gTB := gm 252 (by decide +kernel) rfl
set_option maxRecDepth 100000 in
theorem w_220 : (Jvm.Cond.code ({ cls := "NameScope", name := "isBinder", desc := "(I)Z" } : Jvm.MethodName) prog_1_method_16_code (1 : Nat) (Option.some Jvm.ClassFile.FieldType.boolean)) ∈ gTB := gm 253 rfl rfl
theorem w_221 : (Jvm.Cond.methodLink "NameScope$Row" (52 : Nat) ({ cls := "NameScope$Row", name := "second", desc := "(I)I" } : Jvm.MethodName)) ∈ gTB := gm 254 (by decide +kernel) rfl
theorem w_222 : (Jvm.Cond.instanceMethod ({ cls := "NameScope$Row", name := "second", desc := "(I)I" } : Jvm.MethodName)) ∈ gTB := gm 255 (by decide +kernel) rfl
theorem w_223 : (Jvm.Cond.selects "NameScope$Row" ({ cls := "NameScope$Row", name := "second", desc := "(I)I" } : Jvm.MethodName) ({ cls := "NameScope$Row", name := "second", desc := "(I)I" } : Jvm.MethodName)) ∈ gTB := gm 256 (by decide +kernel) rfl
set_option maxRecDepth 100000 in
theorem w_224 : (Jvm.Cond.code ({ cls := "NameScope$Row", name := "second", desc := "(I)I" } : Jvm.MethodName) prog_5_method_8_code (2 : Nat) (Option.some Jvm.ClassFile.FieldType.int)) ∈ gTB := gm 257 rfl rfl
theorem w_225 : (Jvm.Cond.methodLink "NameScope$Row" (36 : Nat) ({ cls := "NameScope$Row", name := "end", desc := "(I)I" } : Jvm.MethodName)) ∈ gTB := gm 258 (by decide +kernel) rfl
theorem w_226 : (Jvm.Cond.instanceMethod ({ cls := "NameScope$Row", name := "end", desc := "(I)I" } : Jvm.MethodName)) ∈ gTB := gm 259 (by decide +kernel) rfl
theorem w_227 : (Jvm.Cond.selects "NameScope$Row" ({ cls := "NameScope$Row", name := "end", desc := "(I)I" } : Jvm.MethodName) ({ cls := "NameScope$Row", name := "end", desc := "(I)I" } : Jvm.MethodName)) ∈ gTB := gm 260 (by decide +kernel) rfl
set_option maxRecDepth 100000 in
theorem w_228 : (Jvm.Cond.code ({ cls := "NameScope$Row", name := "end", desc := "(I)I" } : Jvm.MethodName) prog_5_method_7_code (2 : Nat) (Option.some Jvm.ClassFile.FieldType.int)) ∈ gTB := gm 261 rfl rfl
theorem w_229 : (Jvm.Cond.methodLink "NameScope$Row" (32 : Nat) ({ cls := "NameScope$Row", name := "size", desc := "(I)I" } : Jvm.MethodName)) ∈ gTB := gm 262 (by decide +kernel) rfl
theorem w_230 : (Jvm.Cond.instanceMethod ({ cls := "NameScope$Row", name := "size", desc := "(I)I" } : Jvm.MethodName)) ∈ gTB := gm 263 (by decide +kernel) rfl
theorem w_231 : (Jvm.Cond.selects "NameScope$Row" ({ cls := "NameScope$Row", name := "size", desc := "(I)I" } : Jvm.MethodName) ({ cls := "NameScope$Row", name := "size", desc := "(I)I" } : Jvm.MethodName)) ∈ gTB := gm 264 (by decide +kernel) rfl
set_option maxRecDepth 100000 in
theorem w_232 : (Jvm.Cond.code ({ cls := "NameScope$Row", name := "size", desc := "(I)I" } : Jvm.MethodName) prog_5_method_6_code (2 : Nat) (Option.some Jvm.ClassFile.FieldType.int)) ∈ gTB := gm 265 rfl rfl
theorem w_233 : (Jvm.Cond.methodLink "NameScope$Row" (26 : Nat) ({ cls := "NameScope$Row", name := "has", desc := "(I)Z" } : Jvm.MethodName)) ∈ gTB := gm 266 (by decide +kernel) rfl
theorem w_234 : (Jvm.Cond.instanceMethod ({ cls := "NameScope$Row", name := "has", desc := "(I)Z" } : Jvm.MethodName)) ∈ gTB := gm 267 (by decide +kernel) rfl
theorem w_235 : (Jvm.Cond.selects "NameScope$Row" ({ cls := "NameScope$Row", name := "has", desc := "(I)Z" } : Jvm.MethodName) ({ cls := "NameScope$Row", name := "has", desc := "(I)Z" } : Jvm.MethodName)) ∈ gTB := gm 268 (by decide +kernel) rfl
set_option maxRecDepth 100000 in
theorem w_236 : (Jvm.Cond.code ({ cls := "NameScope$Row", name := "has", desc := "(I)Z" } : Jvm.MethodName) prog_5_method_3_code (2 : Nat) (Option.some Jvm.ClassFile.FieldType.boolean)) ∈ gTB := gm 269 rfl rfl
theorem w_237 : (Jvm.Cond.methodLink "NameScope" (79 : Nat) ({ cls := "NameScope$Scopes", name := "read", desc := "(LNameScope$Row;)V" } : Jvm.MethodName)) ∈ gTB := gm 270 (by decide +kernel) rfl
theorem w_238 : (Jvm.Cond.instanceMethod ({ cls := "NameScope$Scopes", name := "read", desc := "(LNameScope$Row;)V" } : Jvm.MethodName)) ∈ gTB := gm 271 (by decide +kernel) rfl
theorem w_239 : (Jvm.Cond.selects "NameScope$Scopes" ({ cls := "NameScope$Scopes", name := "read", desc := "(LNameScope$Row;)V" } : Jvm.MethodName) ({ cls := "NameScope$Scopes", name := "read", desc := "(LNameScope$Row;)V" } : Jvm.MethodName)) ∈ gTB := gm 272 (by decide +kernel) rfl
set_option maxRecDepth 100000 in
theorem w_240 : (Jvm.Cond.code ({ cls := "NameScope$Scopes", name := "read", desc := "(LNameScope$Row;)V" } : Jvm.MethodName) prog_6_method_2_code (5 : Nat) (Option.none : Option Jvm.ClassFile.FieldType)) ∈ gTB := gm 273 rfl rfl
theorem w_241 : (Jvm.Cond.methodLink "NameScope$Scopes" (25 : Nat) ({ cls := "NameScope$Row", name := "count", desc := "()I" } : Jvm.MethodName)) ∈ gTB := gm 274 (by decide +kernel) rfl
theorem w_242 : (Jvm.Cond.methodLink "NameScope$Scopes" (30 : Nat) ({ cls := "NameScope$Scopes", name := "makeRoom", desc := "(I)V" } : Jvm.MethodName)) ∈ gTB := gm 275 (by decide +kernel) rfl
theorem w_244 : (Jvm.Cond.instanceMethod ({ cls := "NameScope$Scopes", name := "makeRoom", desc := "(I)V" } : Jvm.MethodName)) ∈ gTB := gm 277 (by decide +kernel) rfl
set_option maxRecDepth 100000 in
theorem w_245 : (Jvm.Cond.code ({ cls := "NameScope$Scopes", name := "makeRoom", desc := "(I)V" } : Jvm.MethodName) prog_6_method_10_code (3 : Nat) (Option.none : Option Jvm.ClassFile.FieldType)) ∈ gTB := gm 278 rfl rfl
theorem w_247 : (Jvm.Cond.methodLink "NameScope$Scopes" (34 : Nat) ({ cls := "NameScope$Scopes", name := "setInnermost", desc := "(II)V" } : Jvm.MethodName)) ∈ gTB := gm 280 (by decide +kernel) rfl
theorem w_249 : (Jvm.Cond.instanceMethod ({ cls := "NameScope$Scopes", name := "setInnermost", desc := "(II)V" } : Jvm.MethodName)) ∈ gTB := gm 282 (by decide +kernel) rfl
set_option maxRecDepth 100000 in
theorem w_250 : (Jvm.Cond.code ({ cls := "NameScope$Scopes", name := "setInnermost", desc := "(II)V" } : Jvm.MethodName) prog_6_method_9_code (3 : Nat) (Option.none : Option Jvm.ClassFile.FieldType)) ∈ gTB := gm 283 rfl rfl
theorem w_251 : (Jvm.Cond.methodLink "NameScope$Scopes" (38 : Nat) ({ cls := "NameScope$Scopes", name := "depth", desc := "(I)I" } : Jvm.MethodName)) ∈ gTB := gm 284 (by decide +kernel) rfl
theorem w_252 : (Jvm.Cond.instanceMethod ({ cls := "NameScope$Scopes", name := "depth", desc := "(I)I" } : Jvm.MethodName)) ∈ gTB := gm 285 (by decide +kernel) rfl
theorem w_253 : (Jvm.Cond.selects "NameScope$Scopes" ({ cls := "NameScope$Scopes", name := "depth", desc := "(I)I" } : Jvm.MethodName) ({ cls := "NameScope$Scopes", name := "depth", desc := "(I)I" } : Jvm.MethodName)) ∈ gTB := gm 286 (by decide +kernel) rfl
set_option maxRecDepth 100000 in
theorem w_254 : (Jvm.Cond.code ({ cls := "NameScope$Scopes", name := "depth", desc := "(I)I" } : Jvm.MethodName) prog_6_method_3_code (2 : Nat) (Option.some Jvm.ClassFile.FieldType.int)) ∈ gTB := gm 287 rfl rfl
theorem w_255 : (Jvm.Cond.methodLink "NameScope$Scopes" (42 : Nat) ({ cls := "NameScope$Row", name := "kind", desc := "(I)I" } : Jvm.MethodName)) ∈ gTB := gm 288 (by decide +kernel) rfl
theorem w_256 : (Jvm.Cond.instanceMethod ({ cls := "NameScope$Row", name := "kind", desc := "(I)I" } : Jvm.MethodName)) ∈ gTB := gm 289 (by decide +kernel) rfl
theorem w_257 : (Jvm.Cond.selects "NameScope$Row" ({ cls := "NameScope$Row", name := "kind", desc := "(I)I" } : Jvm.MethodName) ({ cls := "NameScope$Row", name := "kind", desc := "(I)I" } : Jvm.MethodName)) ∈ gTB := gm 290 (by decide +kernel) rfl
set_option maxRecDepth 100000 in
theorem w_258 : (Jvm.Cond.code ({ cls := "NameScope$Row", name := "kind", desc := "(I)I" } : Jvm.MethodName) prog_5_method_4_code (2 : Nat) (Option.some Jvm.ClassFile.FieldType.int)) ∈ gTB := gm 291 rfl rfl
theorem w_260 : (Jvm.Cond.methodLink "NameScope$Scopes" (49 : Nat) ({ cls := "NameScope$Row", name := "second", desc := "(I)I" } : Jvm.MethodName)) ∈ gTB := gm 293 (by decide +kernel) rfl
theorem w_262 : (Jvm.Cond.methodLink "NameScope" (83 : Nat) ({ cls := "NameScope$Scopes", name := "enter", desc := "(I)V" } : Jvm.MethodName)) ∈ gTB := gm 295 (by decide +kernel) rfl
theorem w_263 : (Jvm.Cond.instanceMethod ({ cls := "NameScope$Scopes", name := "enter", desc := "(I)V" } : Jvm.MethodName)) ∈ gTB := gm 296 (by decide +kernel) rfl
theorem w_264 : (Jvm.Cond.selects "NameScope$Scopes" ({ cls := "NameScope$Scopes", name := "enter", desc := "(I)V" } : Jvm.MethodName) ({ cls := "NameScope$Scopes", name := "enter", desc := "(I)V" } : Jvm.MethodName)) ∈ gTB := gm 297 (by decide +kernel) rfl
set_option maxRecDepth 100000 in
theorem w_265 : (Jvm.Cond.code ({ cls := "NameScope$Scopes", name := "enter", desc := "(I)V" } : Jvm.MethodName) prog_6_method_5_code (3 : Nat) (Option.none : Option Jvm.ClassFile.FieldType)) ∈ gTB := gm 298 rfl rfl
theorem w_266 : (Jvm.Cond.methodLink "NameScope$Scopes" (55 : Nat) ({ cls := "NameScope$Scopes", name := "innermost", desc := "(I)I" } : Jvm.MethodName)) ∈ gTB := gm 299 (by decide +kernel) rfl
theorem w_267 : (Jvm.Cond.instanceMethod ({ cls := "NameScope$Scopes", name := "innermost", desc := "(I)I" } : Jvm.MethodName)) ∈ gTB := gm 300 (by decide +kernel) rfl
theorem w_268 : (Jvm.Cond.selects "NameScope$Scopes" ({ cls := "NameScope$Scopes", name := "innermost", desc := "(I)I" } : Jvm.MethodName) ({ cls := "NameScope$Scopes", name := "innermost", desc := "(I)I" } : Jvm.MethodName)) ∈ gTB := gm 301 (by decide +kernel) rfl
set_option maxRecDepth 100000 in
theorem w_269 : (Jvm.Cond.code ({ cls := "NameScope$Scopes", name := "innermost", desc := "(I)I" } : Jvm.MethodName) prog_6_method_4_code (2 : Nat) (Option.some Jvm.ClassFile.FieldType.int)) ∈ gTB := gm 302 rfl rfl
theorem w_270 : (Jvm.Cond.methodLink "NameScope" (87 : Nat) ({ cls := "NameScope", name := "bindNode", desc := "(I)Z" } : Jvm.MethodName)) ∈ gTB := gm 303 (by decide +kernel) rfl
theorem w_272 : (Jvm.Cond.instanceMethod ({ cls := "NameScope", name := "bindNode", desc := "(I)Z" } : Jvm.MethodName)) ∈ gTB := gm 305 (by decide +kernel) rfl
set_option maxRecDepth 100000 in
theorem w_273 : (Jvm.Cond.code ({ cls := "NameScope", name := "bindNode", desc := "(I)Z" } : Jvm.MethodName) prog_1_method_20_code (5 : Nat) (Option.some Jvm.ClassFile.FieldType.boolean)) ∈ gTB := gm 306 rfl rfl
theorem w_274 : (Jvm.Cond.methodLink "NameScope" (99 : Nat) ({ cls := "NameScope$Row", name := "kind", desc := "(I)I" } : Jvm.MethodName)) ∈ gTB := gm 307 (by decide +kernel) rfl
theorem w_275 : (Jvm.Cond.methodLink "NameScope" (103 : Nat) ({ cls := "NameScope$Row", name := "beside", desc := "(I)J" } : Jvm.MethodName)) ∈ gTB := gm 308 (by decide +kernel) rfl
theorem w_276 : (Jvm.Cond.instanceMethod ({ cls := "NameScope$Row", name := "beside", desc := "(I)J" } : Jvm.MethodName)) ∈ gTB := gm 309 (by decide +kernel) rfl
theorem w_277 : (Jvm.Cond.selects "NameScope$Row" ({ cls := "NameScope$Row", name := "beside", desc := "(I)J" } : Jvm.MethodName) ({ cls := "NameScope$Row", name := "beside", desc := "(I)J" } : Jvm.MethodName)) ∈ gTB := gm 310 (by decide +kernel) rfl
set_option maxRecDepth 100000 in
theorem w_278 : (Jvm.Cond.code ({ cls := "NameScope$Row", name := "beside", desc := "(I)J" } : Jvm.MethodName) prog_5_method_5_code (2 : Nat) (Option.some Jvm.ClassFile.FieldType.long)) ∈ gTB := gm 311 rfl rfl
theorem w_279 : (Jvm.Cond.constantLong "NameScope$Row" (30 : Nat) (-1 : Int64)) ∈ gTB := gm 312 (by decide +kernel) rfl
theorem w_280 : (Jvm.Cond.methodLink "NameScope" (147 : Nat) ({ cls := "NameScope", name := "bindName", desc := "(IJ)Z" } : Jvm.MethodName)) ∈ gTB := gm 313 (by decide +kernel) rfl
theorem w_282 : (Jvm.Cond.instanceMethod ({ cls := "NameScope", name := "bindName", desc := "(IJ)Z" } : Jvm.MethodName)) ∈ gTB := gm 315 (by decide +kernel) rfl
set_option maxRecDepth 100000 in
theorem w_283 : (Jvm.Cond.code ({ cls := "NameScope", name := "bindName", desc := "(IJ)Z" } : Jvm.MethodName) prog_1_method_21_code (6 : Nat) (Option.some Jvm.ClassFile.FieldType.boolean)) ∈ gTB := gm 316 rfl rfl
theorem w_284 : (Jvm.Cond.methodLink "NameScope" (154 : Nat) ({ cls := "NameScope$Scopes", name := "indexOf", desc := "(JLNameScope$Row;I)I" } : Jvm.MethodName)) ∈ gTB := gm 317 (by decide +kernel) rfl
theorem w_285 : (Jvm.Cond.instanceMethod ({ cls := "NameScope$Scopes", name := "indexOf", desc := "(JLNameScope$Row;I)I" } : Jvm.MethodName)) ∈ gTB := gm 318 (by decide +kernel) rfl
theorem w_286 : (Jvm.Cond.selects "NameScope$Scopes" ({ cls := "NameScope$Scopes", name := "indexOf", desc := "(JLNameScope$Row;I)I" } : Jvm.MethodName) ({ cls := "NameScope$Scopes", name := "indexOf", desc := "(JLNameScope$Row;I)I" } : Jvm.MethodName)) ∈ gTB := gm 319 (by decide +kernel) rfl
set_option maxRecDepth 100000 in
theorem w_287 : (Jvm.Cond.code ({ cls := "NameScope$Scopes", name := "indexOf", desc := "(JLNameScope$Row;I)I" } : Jvm.MethodName) prog_6_method_8_code (7 : Nat) (Option.some Jvm.ClassFile.FieldType.int)) ∈ gTB := gm 320 rfl rfl
theorem w_288 : (Jvm.Cond.methodLink "NameScope$Scopes" (57 : Nat) ({ cls := "NameScope$Scopes", name := "open", desc := "(I)I" } : Jvm.MethodName)) ∈ gTB := gm 321 (by decide +kernel) rfl
theorem w_289 : (Jvm.Cond.instanceMethod ({ cls := "NameScope$Scopes", name := "open", desc := "(I)I" } : Jvm.MethodName)) ∈ gTB := gm 322 (by decide +kernel) rfl
theorem w_290 : (Jvm.Cond.selects "NameScope$Scopes" ({ cls := "NameScope$Scopes", name := "open", desc := "(I)I" } : Jvm.MethodName) ({ cls := "NameScope$Scopes", name := "open", desc := "(I)I" } : Jvm.MethodName)) ∈ gTB := gm 323 (by decide +kernel) rfl
set_option maxRecDepth 100000 in
theorem w_291 : (Jvm.Cond.code ({ cls := "NameScope$Scopes", name := "open", desc := "(I)I" } : Jvm.MethodName) prog_6_method_6_code (2 : Nat) (Option.some Jvm.ClassFile.FieldType.int)) ∈ gTB := gm 324 rfl rfl
theorem w_292 : (Jvm.Cond.methodLink "NameScope$Scopes" (59 : Nat) ({ cls := "NameScope$Row", name := "beside", desc := "(I)J" } : Jvm.MethodName)) ∈ gTB := gm 325 (by decide +kernel) rfl
theorem w_293 : (Jvm.Cond.methodLink "NameScope" (158 : Nat) ({ cls := "NameScope$Globals", name := "find", desc := "(J)I" } : Jvm.MethodName)) ∈ gTB := gm 326 (by decide +kernel) rfl
theorem w_294 : (Jvm.Cond.methodLink "NameScope" (150 : Nat) ({ cls := "NameScope$Names", name := "firstFour", desc := "(J)J" } : Jvm.MethodName)) ∈ gTB := gm 327 (by decide +kernel) rfl
theorem w_295 : (Jvm.Cond.static ({ cls := "NameScope$Names", name := "firstFour", desc := "(J)J" } : Jvm.MethodName)) ∈ gTB := gm 328 (by decide +kernel) rfl
set_option maxRecDepth 100000 in
theorem w_296 : (Jvm.Cond.code ({ cls := "NameScope$Names", name := "firstFour", desc := "(J)J" } : Jvm.MethodName) prog_3_method_3_code (5 : Nat) (Option.some Jvm.ClassFile.FieldType.long)) ∈ gTB := gm 329 rfl rfl
theorem w_297 : (Jvm.Cond.methodLink "NameScope" (91 : Nat) ({ cls := "NameScope", name := "takeSpare", desc := "()V" } : Jvm.MethodName)) ∈ gTB := gm 330 (by decide +kernel) rfl
theorem w_299 : (Jvm.Cond.instanceMethod ({ cls := "NameScope", name := "takeSpare", desc := "()V" } : Jvm.MethodName)) ∈ gTB := gm 332 (by decide +kernel) rfl
set_option maxRecDepth 100000 in
theorem w_300 : (Jvm.Cond.code ({ cls := "NameScope", name := "takeSpare", desc := "()V" } : Jvm.MethodName) prog_1_method_19_code (2 : Nat) (Option.none : Option Jvm.ClassFile.FieldType)) ∈ gTB := gm 333 rfl rfl
theorem w_301 : (Jvm.Cond.methodLink "NameScopeLaw" (34 : Nat) ({ cls := "NameScope", name := "nodes", desc := "()I" } : Jvm.MethodName)) ∈ gTB := gm 334 (by decide +kernel) rfl
theorem w_302 : (Jvm.Cond.instanceMethod ({ cls := "NameScope", name := "nodes", desc := "()I" } : Jvm.MethodName)) ∈ gTB := gm 335 (by decide +kernel) rfl
theorem w_303 : (Jvm.Cond.selects "NameScope" ({ cls := "NameScope", name := "nodes", desc := "()I" } : Jvm.MethodName) ({ cls := "NameScope", name := "nodes", desc := "()I" } : Jvm.MethodName)) ∈ gTB := gm 336 (by decide +kernel) rfl
set_option maxRecDepth 100000 in
theorem w_304 : (Jvm.Cond.code ({ cls := "NameScope", name := "nodes", desc := "()I" } : Jvm.MethodName) prog_1_method_6_code (1 : Nat) (Option.some Jvm.ClassFile.FieldType.int)) ∈ gTB := gm 337 rfl rfl
theorem w_305 : (Jvm.Cond.methodLink "NameScopeLaw" (38 : Nat) ({ cls := "NameScope", name := "node", desc := "(II)J" } : Jvm.MethodName)) ∈ gTB := gm 338 (by decide +kernel) rfl
theorem w_306 : (Jvm.Cond.instanceMethod ({ cls := "NameScope", name := "node", desc := "(II)J" } : Jvm.MethodName)) ∈ gTB := gm 339 (by decide +kernel) rfl
theorem w_307 : (Jvm.Cond.selects "NameScope" ({ cls := "NameScope", name := "node", desc := "(II)J" } : Jvm.MethodName) ({ cls := "NameScope", name := "node", desc := "(II)J" } : Jvm.MethodName)) ∈ gTB := gm 340 (by decide +kernel) rfl
set_option maxRecDepth 100000 in
theorem w_308 : (Jvm.Cond.code ({ cls := "NameScope", name := "node", desc := "(II)J" } : Jvm.MethodName) prog_1_method_7_code (3 : Nat) (Option.some Jvm.ClassFile.FieldType.long)) ∈ gTB := gm 341 rfl rfl
theorem w_309 : (Jvm.Cond.methodLink "NameScope" (94 : Nat) ({ cls := "NameScope$Row", name := "has", desc := "(I)Z" } : Jvm.MethodName)) ∈ gTB := gm 342 (by decide +kernel) rfl
theorem w_310 : (Jvm.Cond.constantLong "NameScope" (97 : Nat) (-1 : Int64)) ∈ gTB := gm 343 (by decide +kernel) rfl
theorem w_311 : (Jvm.Cond.methodLink "NameScope" (107 : Nat) ({ cls := "NameScope$Row", name := "size", desc := "(I)I" } : Jvm.MethodName)) ∈ gTB := gm 344 (by decide +kernel) rfl
theorem w_312 : (Jvm.Cond.methodLink "NameScopeLaw" (43 : Nat) ({ cls := "NameScope", name := "uses", desc := "(I)I" } : Jvm.MethodName)) ∈ gTB := gm 345 (by decide +kernel) rfl
theorem w_313 : (Jvm.Cond.instanceMethod ({ cls := "NameScope", name := "uses", desc := "(I)I" } : Jvm.MethodName)) ∈ gTB := gm 346 (by decide +kernel) rfl
theorem w_314 : (Jvm.Cond.selects "NameScope" ({ cls := "NameScope", name := "uses", desc := "(I)I" } : Jvm.MethodName) ({ cls := "NameScope", name := "uses", desc := "(I)I" } : Jvm.MethodName)) ∈ gTB := gm 347 (by decide +kernel) rfl
set_option maxRecDepth 100000 in
theorem w_315 : (Jvm.Cond.code ({ cls := "NameScope", name := "uses", desc := "(I)I" } : Jvm.MethodName) prog_1_method_8_code (2 : Nat) (Option.some Jvm.ClassFile.FieldType.int)) ∈ gTB := gm 348 rfl rfl
theorem w_316 : (Jvm.Cond.methodLink "NameScope" (113 : Nat) ({ cls := "NameScope", name := "countUses", desc := "(I)I" } : Jvm.MethodName)) ∈ gTB := gm 349 (by decide +kernel) rfl
theorem w_318 : (Jvm.Cond.instanceMethod ({ cls := "NameScope", name := "countUses", desc := "(I)I" } : Jvm.MethodName)) ∈ gTB := gm 351 (by decide +kernel) rfl
set_option maxRecDepth 100000 in
theorem w_319 : (Jvm.Cond.code ({ cls := "NameScope", name := "countUses", desc := "(I)I" } : Jvm.MethodName) prog_1_method_23_code (6 : Nat) (Option.some Jvm.ClassFile.FieldType.int)) ∈ gTB := gm 352 rfl rfl
theorem w_320 : (Jvm.Cond.methodLink "NameScope" (161 : Nat) ({ cls := "NameScope$Scopes", name := "depth", desc := "(I)I" } : Jvm.MethodName)) ∈ gTB := gm 353 (by decide +kernel) rfl
theorem w_321 : (Jvm.Cond.methodLink "NameScope" (122 : Nat) ({ cls := "NameScope$Row", name := "end", desc := "(I)I" } : Jvm.MethodName)) ∈ gTB := gm 354 (by decide +kernel) rfl
theorem w_322 : (Jvm.Cond.methodLink "NameScope" (119 : Nat) ({ cls := "NameScope$Row", name := "second", desc := "(I)I" } : Jvm.MethodName)) ∈ gTB := gm 355 (by decide +kernel) rfl
theorem w_323 : (Jvm.Cond.methodLink "NameScopeLaw" (48 : Nat) ({ cls := "NameScope", name := "contract", desc := "(I)I" } : Jvm.MethodName)) ∈ gTB := gm 356 (by decide +kernel) rfl
theorem w_324 : (Jvm.Cond.instanceMethod ({ cls := "NameScope", name := "contract", desc := "(I)I" } : Jvm.MethodName)) ∈ gTB := gm 357 (by decide +kernel) rfl
theorem w_325 : (Jvm.Cond.selects "NameScope" ({ cls := "NameScope", name := "contract", desc := "(I)I" } : Jvm.MethodName) ({ cls := "NameScope", name := "contract", desc := "(I)I" } : Jvm.MethodName)) ∈ gTB := gm 358 (by decide +kernel) rfl
set_option maxRecDepth 100000 in
theorem w_326 : (Jvm.Cond.code ({ cls := "NameScope", name := "contract", desc := "(I)I" } : Jvm.MethodName) prog_1_method_9_code (6 : Nat) (Option.some Jvm.ClassFile.FieldType.int)) ∈ gTB := gm 359 rfl rfl
theorem w_327 : (Jvm.Cond.methodLink "NameScope" (116 : Nat) ({ cls := "NameScope", name := "contractible", desc := "(I)I" } : Jvm.MethodName)) ∈ gTB := gm 360 (by decide +kernel) rfl
theorem w_329 : (Jvm.Cond.instanceMethod ({ cls := "NameScope", name := "contractible", desc := "(I)I" } : Jvm.MethodName)) ∈ gTB := gm 362 (by decide +kernel) rfl
set_option maxRecDepth 100000 in
theorem w_330 : (Jvm.Cond.code ({ cls := "NameScope", name := "contractible", desc := "(I)I" } : Jvm.MethodName) prog_1_method_22_code (2 : Nat) (Option.some Jvm.ClassFile.FieldType.int)) ∈ gTB := gm 363 rfl rfl
theorem w_331 : (Jvm.Cond.methodLink "NameScope" (125 : Nat) ({ cls := "NameScope", name := "copy", desc := "(II)V" } : Jvm.MethodName)) ∈ gTB := gm 364 (by decide +kernel) rfl
theorem w_333 : (Jvm.Cond.instanceMethod ({ cls := "NameScope", name := "copy", desc := "(II)V" } : Jvm.MethodName)) ∈ gTB := gm 366 (by decide +kernel) rfl
set_option maxRecDepth 100000 in
theorem w_334 : (Jvm.Cond.code ({ cls := "NameScope", name := "copy", desc := "(II)V" } : Jvm.MethodName) prog_1_method_24_code (4 : Nat) (Option.none : Option Jvm.ClassFile.FieldType)) ∈ gTB := gm 367 rfl rfl
theorem w_335 : (Jvm.Cond.methodLink "NameScope" (129 : Nat) ({ cls := "NameScope", name := "copyLastPart", desc := "(II)V" } : Jvm.MethodName)) ∈ gTB := gm 368 (by decide +kernel) rfl
theorem w_337 : (Jvm.Cond.instanceMethod ({ cls := "NameScope", name := "copyLastPart", desc := "(II)V" } : Jvm.MethodName)) ∈ gTB := gm 370 (by decide +kernel) rfl
set_option maxRecDepth 100000 in
theorem w_338 : (Jvm.Cond.code ({ cls := "NameScope", name := "copyLastPart", desc := "(II)V" } : Jvm.MethodName) prog_1_method_25_code (10 : Nat) (Option.none : Option Jvm.ClassFile.FieldType)) ∈ gTB := gm 371 rfl rfl
theorem w_339 : (Jvm.Cond.methodLink "NameScope" (164 : Nat) ({ cls := "NameScope", name := "copyDeeper", desc := "(II)V" } : Jvm.MethodName)) ∈ gTB := gm 372 (by decide +kernel) rfl
theorem w_341 : (Jvm.Cond.instanceMethod ({ cls := "NameScope", name := "copyDeeper", desc := "(II)V" } : Jvm.MethodName)) ∈ gTB := gm 374 (by decide +kernel) rfl
set_option maxRecDepth 100000 in
theorem w_342 : (Jvm.Cond.code ({ cls := "NameScope", name := "copyDeeper", desc := "(II)V" } : Jvm.MethodName) prog_1_method_26_code (9 : Nat) (Option.none : Option Jvm.ClassFile.FieldType)) ∈ gTB := gm 375 rfl rfl
theorem w_343 : (Jvm.Cond.methodLink "NameScopeLaw" (52 : Nat) ({ cls := "NameScope", name := "write", desc := "()I" } : Jvm.MethodName)) ∈ gTB := gm 376 (by decide +kernel) rfl
theorem w_344 : (Jvm.Cond.instanceMethod ({ cls := "NameScope", name := "write", desc := "()I" } : Jvm.MethodName)) ∈ gTB := gm 377 (by decide +kernel) rfl
theorem w_345 : (Jvm.Cond.selects "NameScope" ({ cls := "NameScope", name := "write", desc := "()I" } : Jvm.MethodName) ({ cls := "NameScope", name := "write", desc := "()I" } : Jvm.MethodName)) ∈ gTB := gm 378 (by decide +kernel) rfl
set_option maxRecDepth 100000 in
theorem w_346 : (Jvm.Cond.code ({ cls := "NameScope", name := "write", desc := "()I" } : Jvm.MethodName) prog_1_method_10_code (1 : Nat) (Option.some Jvm.ClassFile.FieldType.int)) ∈ gTB := gm 379 rfl rfl
theorem w_347 : (Jvm.Cond.methodLink "NameScope" (132 : Nat) ({ cls := "NameScope$Pen", name := "put", desc := "(LNameScope$Row;LNameScope$Row;)V" } : Jvm.MethodName)) ∈ gTB := gm 380 (by decide +kernel) rfl
theorem w_348 : (Jvm.Cond.instanceMethod ({ cls := "NameScope$Pen", name := "put", desc := "(LNameScope$Row;LNameScope$Row;)V" } : Jvm.MethodName)) ∈ gTB := gm 381 (by decide +kernel) rfl
theorem w_349 : (Jvm.Cond.selects "NameScope$Pen" ({ cls := "NameScope$Pen", name := "put", desc := "(LNameScope$Row;LNameScope$Row;)V" } : Jvm.MethodName) ({ cls := "NameScope$Pen", name := "put", desc := "(LNameScope$Row;LNameScope$Row;)V" } : Jvm.MethodName)) ∈ gTB := gm 382 (by decide +kernel) rfl
set_option maxRecDepth 100000 in
theorem w_350 : (Jvm.Cond.code ({ cls := "NameScope$Pen", name := "put", desc := "(LNameScope$Row;LNameScope$Row;)V" } : Jvm.MethodName) prog_4_method_2_code (6 : Nat) (Option.none : Option Jvm.ClassFile.FieldType)) ∈ gTB := gm 383 rfl rfl
theorem w_351 : (Jvm.Cond.methodLink "NameScope$Pen" (40 : Nat) ({ cls := "NameScope$Row", name := "count", desc := "()I" } : Jvm.MethodName)) ∈ gTB := gm 384 (by decide +kernel) rfl
theorem w_352 : (Jvm.Cond.methodLink "NameScope$Pen" (46 : Nat) ({ cls := "NameScope$Pen", name := "makeRoom", desc := "(I)V" } : Jvm.MethodName)) ∈ gTB := gm 385 (by decide +kernel) rfl
theorem w_354 : (Jvm.Cond.instanceMethod ({ cls := "NameScope$Pen", name := "makeRoom", desc := "(I)V" } : Jvm.MethodName)) ∈ gTB := gm 387 (by decide +kernel) rfl
set_option maxRecDepth 100000 in
theorem w_355 : (Jvm.Cond.code ({ cls := "NameScope$Pen", name := "makeRoom", desc := "(I)V" } : Jvm.MethodName) prog_4_method_13_code (3 : Nat) (Option.none : Option Jvm.ClassFile.FieldType)) ∈ gTB := gm 388 rfl rfl
theorem w_357 : (Jvm.Cond.methodLink "NameScope$Pen" (50 : Nat) ({ cls := "NameScope$Scopes", name := "read", desc := "(LNameScope$Row;)V" } : Jvm.MethodName)) ∈ gTB := gm 390 (by decide +kernel) rfl
theorem w_358 : (Jvm.Cond.methodLink "NameScope$Pen" (56 : Nat) ({ cls := "NameScope$Pen", name := "linkUses", desc := "(LNameScope$Row;)V" } : Jvm.MethodName)) ∈ gTB := gm 391 (by decide +kernel) rfl
theorem w_360 : (Jvm.Cond.instanceMethod ({ cls := "NameScope$Pen", name := "linkUses", desc := "(LNameScope$Row;)V" } : Jvm.MethodName)) ∈ gTB := gm 393 (by decide +kernel) rfl
set_option maxRecDepth 100000 in
theorem w_361 : (Jvm.Cond.code ({ cls := "NameScope$Pen", name := "linkUses", desc := "(LNameScope$Row;)V" } : Jvm.MethodName) prog_4_method_3_code (6 : Nat) (Option.none : Option Jvm.ClassFile.FieldType)) ∈ gTB := gm 394 rfl rfl
theorem w_362 : (Jvm.Cond.constant "NameScope$Pen" (87 : Nat) (2147483647 : Int32)) ∈ gTB := gm 395 (by decide +kernel) rfl
theorem w_363 : (Jvm.Cond.methodLink "NameScope$Pen" (62 : Nat) ({ cls := "NameScope$Scopes", name := "enter", desc := "(I)V" } : Jvm.MethodName)) ∈ gTB := gm 396 (by decide +kernel) rfl
theorem w_364 : (Jvm.Cond.methodLink "NameScope$Pen" (88 : Nat) ({ cls := "NameScope$Pen", name := "usedBy", desc := "(ILNameScope$Row;)I" } : Jvm.MethodName)) ∈ gTB := gm 397 (by decide +kernel) rfl
theorem w_366 : (Jvm.Cond.instanceMethod ({ cls := "NameScope$Pen", name := "usedBy", desc := "(ILNameScope$Row;)I" } : Jvm.MethodName)) ∈ gTB := gm 399 (by decide +kernel) rfl
set_option maxRecDepth 100000 in
theorem w_367 : (Jvm.Cond.code ({ cls := "NameScope$Pen", name := "usedBy", desc := "(ILNameScope$Row;)I" } : Jvm.MethodName) prog_4_method_4_code (5 : Nat) (Option.some Jvm.ClassFile.FieldType.int)) ∈ gTB := gm 400 rfl rfl
theorem w_368 : (Jvm.Cond.constantLong "NameScope$Pen" (96 : Nat) (-1 : Int64)) ∈ gTB := gm 401 (by decide +kernel) rfl
theorem w_369 : (Jvm.Cond.methodLink "NameScope$Pen" (72 : Nat) ({ cls := "NameScope$Row", name := "kind", desc := "(I)I" } : Jvm.MethodName)) ∈ gTB := gm 402 (by decide +kernel) rfl
theorem w_370 : (Jvm.Cond.methodLink "NameScope$Pen" (98 : Nat) ({ cls := "NameScope$Row", name := "beside", desc := "(I)J" } : Jvm.MethodName)) ∈ gTB := gm 403 (by decide +kernel) rfl
theorem w_371 : (Jvm.Cond.methodLink "NameScope$Pen" (102 : Nat) ({ cls := "NameScope$Scopes", name := "binderOf", desc := "(IJ)I" } : Jvm.MethodName)) ∈ gTB := gm 404 (by decide +kernel) rfl
theorem w_372 : (Jvm.Cond.instanceMethod ({ cls := "NameScope$Scopes", name := "binderOf", desc := "(IJ)I" } : Jvm.MethodName)) ∈ gTB := gm 405 (by decide +kernel) rfl
theorem w_373 : (Jvm.Cond.selects "NameScope$Scopes" ({ cls := "NameScope$Scopes", name := "binderOf", desc := "(IJ)I" } : Jvm.MethodName) ({ cls := "NameScope$Scopes", name := "binderOf", desc := "(IJ)I" } : Jvm.MethodName)) ∈ gTB := gm 406 (by decide +kernel) rfl
set_option maxRecDepth 100000 in
theorem w_374 : (Jvm.Cond.code ({ cls := "NameScope$Scopes", name := "binderOf", desc := "(IJ)I" } : Jvm.MethodName) prog_6_method_7_code (6 : Nat) (Option.some Jvm.ClassFile.FieldType.int)) ∈ gTB := gm 407 rfl rfl
theorem w_375 : (Jvm.Cond.methodLink "NameScope$Pen" (92 : Nat) ({ cls := "NameScope$Pen", name := "setNext", desc := "(II)V" } : Jvm.MethodName)) ∈ gTB := gm 408 (by decide +kernel) rfl
theorem w_377 : (Jvm.Cond.instanceMethod ({ cls := "NameScope$Pen", name := "setNext", desc := "(II)V" } : Jvm.MethodName)) ∈ gTB := gm 410 (by decide +kernel) rfl
set_option maxRecDepth 100000 in
theorem w_378 : (Jvm.Cond.code ({ cls := "NameScope$Pen", name := "setNext", desc := "(II)V" } : Jvm.MethodName) prog_4_method_6_code (3 : Nat) (Option.none : Option Jvm.ClassFile.FieldType)) ∈ gTB := gm 411 rfl rfl
theorem w_379 : (Jvm.Cond.methodLink "NameScope$Pen" (59 : Nat) ({ cls := "NameScope$Row", name := "clear", desc := "()V" } : Jvm.MethodName)) ∈ gTB := gm 412 (by decide +kernel) rfl
theorem w_380 : (Jvm.Cond.methodLink "NameScope$Pen" (65 : Nat) ({ cls := "NameScope$Scopes", name := "innermost", desc := "(I)I" } : Jvm.MethodName)) ∈ gTB := gm 413 (by decide +kernel) rfl
theorem w_381 : (Jvm.Cond.methodLink "NameScope$Pen" (69 : Nat) ({ cls := "NameScope$Row", name := "second", desc := "(I)I" } : Jvm.MethodName)) ∈ gTB := gm 414 (by decide +kernel) rfl
theorem w_382 : (Jvm.Cond.methodLink "NameScope$Pen" (75 : Nat) ({ cls := "NameScope$Pen", name := "chooseName", desc := "(ILNameScope$Row;LNameScope$Row;)J" } : Jvm.MethodName)) ∈ gTB := gm 415 (by decide +kernel) rfl
theorem w_384 : (Jvm.Cond.instanceMethod ({ cls := "NameScope$Pen", name := "chooseName", desc := "(ILNameScope$Row;LNameScope$Row;)J" } : Jvm.MethodName)) ∈ gTB := gm 417 (by decide +kernel) rfl
set_option maxRecDepth 100000 in
theorem w_385 : (Jvm.Cond.code ({ cls := "NameScope$Pen", name := "chooseName", desc := "(ILNameScope$Row;LNameScope$Row;)J" } : Jvm.MethodName) prog_4_method_9_code (7 : Nat) (Option.some Jvm.ClassFile.FieldType.long)) ∈ gTB := gm 418 rfl rfl
theorem w_386 : (Jvm.Cond.constantLong "NameScope$Pen" (124 : Nat) (120 : Int64)) ∈ gTB := gm 419 (by decide +kernel) rfl
theorem w_387 : (Jvm.Cond.methodLink "NameScope$Pen" (126 : Nat) ({ cls := "NameScope$Row", name := "end", desc := "(I)I" } : Jvm.MethodName)) ∈ gTB := gm 420 (by decide +kernel) rfl
theorem w_388 : (Jvm.Cond.methodLink "NameScope$Pen" (129 : Nat) ({ cls := "NameScope$Pen", name := "gatherNear", desc := "(IILNameScope$Row;)V" } : Jvm.MethodName)) ∈ gTB := gm 421 (by decide +kernel) rfl
theorem w_390 : (Jvm.Cond.instanceMethod ({ cls := "NameScope$Pen", name := "gatherNear", desc := "(IILNameScope$Row;)V" } : Jvm.MethodName)) ∈ gTB := gm 423 (by decide +kernel) rfl
set_option maxRecDepth 100000 in
theorem w_391 : (Jvm.Cond.code ({ cls := "NameScope$Pen", name := "gatherNear", desc := "(IILNameScope$Row;)V" } : Jvm.MethodName) prog_4_method_10_code (8 : Nat) (Option.none : Option Jvm.ClassFile.FieldType)) ∈ gTB := gm 424 rfl rfl
theorem w_392 : (Jvm.Cond.methodLink "NameScope$Pen" (141 : Nat) ({ cls := "NameScope$Globals", name := "count", desc := "()I" } : Jvm.MethodName)) ∈ gTB := gm 425 (by decide +kernel) rfl
theorem w_393 : (Jvm.Cond.instanceMethod ({ cls := "NameScope$Globals", name := "count", desc := "()I" } : Jvm.MethodName)) ∈ gTB := gm 426 (by decide +kernel) rfl
theorem w_394 : (Jvm.Cond.selects "NameScope$Globals" ({ cls := "NameScope$Globals", name := "count", desc := "()I" } : Jvm.MethodName) ({ cls := "NameScope$Globals", name := "count", desc := "()I" } : Jvm.MethodName)) ∈ gTB := gm 427 (by decide +kernel) rfl
set_option maxRecDepth 100000 in
theorem w_395 : (Jvm.Cond.code ({ cls := "NameScope$Globals", name := "count", desc := "()I" } : Jvm.MethodName) prog_2_method_2_code (1 : Nat) (Option.some Jvm.ClassFile.FieldType.int)) ∈ gTB := gm 428 rfl rfl
theorem w_396 : (Jvm.Cond.methodLink "NameScope$Pen" (119 : Nat) ({ cls := "NameScope$Pen", name := "nextOf", desc := "(I)I" } : Jvm.MethodName)) ∈ gTB := gm 429 (by decide +kernel) rfl
theorem w_398 : (Jvm.Cond.instanceMethod ({ cls := "NameScope$Pen", name := "nextOf", desc := "(I)I" } : Jvm.MethodName)) ∈ gTB := gm 431 (by decide +kernel) rfl
set_option maxRecDepth 100000 in
theorem w_399 : (Jvm.Cond.code ({ cls := "NameScope$Pen", name := "nextOf", desc := "(I)I" } : Jvm.MethodName) prog_4_method_5_code (2 : Nat) (Option.some Jvm.ClassFile.FieldType.int)) ∈ gTB := gm 432 rfl rfl
theorem w_400 : (Jvm.Cond.methodLink "NameScope$Pen" (113 : Nat) ({ cls := "NameScope$Globals", name := "name", desc := "(J)J" } : Jvm.MethodName)) ∈ gTB := gm 433 (by decide +kernel) rfl
theorem w_401 : (Jvm.Cond.instanceMethod ({ cls := "NameScope$Globals", name := "name", desc := "(J)J" } : Jvm.MethodName)) ∈ gTB := gm 434 (by decide +kernel) rfl
theorem w_402 : (Jvm.Cond.selects "NameScope$Globals" ({ cls := "NameScope$Globals", name := "name", desc := "(J)J" } : Jvm.MethodName) ({ cls := "NameScope$Globals", name := "name", desc := "(J)J" } : Jvm.MethodName)) ∈ gTB := gm 435 (by decide +kernel) rfl
set_option maxRecDepth 100000 in
theorem w_403 : (Jvm.Cond.code ({ cls := "NameScope$Globals", name := "name", desc := "(J)J" } : Jvm.MethodName) prog_2_method_5_code (3 : Nat) (Option.some Jvm.ClassFile.FieldType.long)) ∈ gTB := gm 436 rfl rfl
theorem w_404 : (Jvm.Cond.methodLink "NameScope$Pen" (142 : Nat) ({ cls := "NameScope$Pen", name := "addNear", desc := "(J)V" } : Jvm.MethodName)) ∈ gTB := gm 437 (by decide +kernel) rfl
theorem w_406 : (Jvm.Cond.instanceMethod ({ cls := "NameScope$Pen", name := "addNear", desc := "(J)V" } : Jvm.MethodName)) ∈ gTB := gm 439 (by decide +kernel) rfl
set_option maxRecDepth 100000 in
theorem w_407 : (Jvm.Cond.code ({ cls := "NameScope$Pen", name := "addNear", desc := "(J)V" } : Jvm.MethodName) prog_4_method_11_code (3 : Nat) (Option.none : Option Jvm.ClassFile.FieldType)) ∈ gTB := gm 440 rfl rfl
theorem w_408 : (Jvm.Cond.methodLink "NameScope$Pen" (146 : Nat) ({ cls := "NameScope$Scopes", name := "depth", desc := "(I)I" } : Jvm.MethodName)) ∈ gTB := gm 441 (by decide +kernel) rfl
theorem w_409 : (Jvm.Cond.methodLink "NameScope$Pen" (149 : Nat) ({ cls := "NameScope$Scopes", name := "open", desc := "(I)I" } : Jvm.MethodName)) ∈ gTB := gm 442 (by decide +kernel) rfl
theorem w_410 : (Jvm.Cond.methodLink "NameScope$Pen" (133 : Nat) ({ cls := "NameScope$Pen", name := "leastNumber", desc := "(J)I" } : Jvm.MethodName)) ∈ gTB := gm 443 (by decide +kernel) rfl
theorem w_412 : (Jvm.Cond.instanceMethod ({ cls := "NameScope$Pen", name := "leastNumber", desc := "(J)I" } : Jvm.MethodName)) ∈ gTB := gm 445 (by decide +kernel) rfl
set_option maxRecDepth 100000 in
theorem w_413 : (Jvm.Cond.code ({ cls := "NameScope$Pen", name := "leastNumber", desc := "(J)I" } : Jvm.MethodName) prog_4_method_12_code (5 : Nat) (Option.some Jvm.ClassFile.FieldType.int)) ∈ gTB := gm 446 rfl rfl
theorem w_414 : (Jvm.Cond.methodLink "NameScope$Pen" (152 : Nat) ({ cls := "NameScope$Names", name := "numberBehind", desc := "(JJ)I" } : Jvm.MethodName)) ∈ gTB := gm 447 (by decide +kernel) rfl
theorem w_415 : (Jvm.Cond.static ({ cls := "NameScope$Names", name := "numberBehind", desc := "(JJ)I" } : Jvm.MethodName)) ∈ gTB := gm 448 (by decide +kernel) rfl
set_option maxRecDepth 100000 in
theorem w_416 : (Jvm.Cond.code ({ cls := "NameScope$Names", name := "numberBehind", desc := "(JJ)I" } : Jvm.MethodName) prog_3_method_5_code (11 : Nat) (Option.some Jvm.ClassFile.FieldType.int)) ∈ gTB := gm 449 rfl rfl
theorem w_417 : (Jvm.Cond.methodLink "NameScope$Pen" (156 : Nat) ({ cls := "java/lang/Math", name := "max", desc := "(II)I" } : Jvm.MethodName)) ∈ gTB := gm 450 (by decide +kernel) rfl
theorem w_418 : (Jvm.Cond.methodLink "NameScope$Pen" (137 : Nat) ({ cls := "NameScope$Names", name := "numbered", desc := "(JI)J" } : Jvm.MethodName)) ∈ gTB := gm 451 (by decide +kernel) rfl
theorem w_419 : (Jvm.Cond.static ({ cls := "NameScope$Names", name := "numbered", desc := "(JI)J" } : Jvm.MethodName)) ∈ gTB := gm 452 (by decide +kernel) rfl
set_option maxRecDepth 100000 in
theorem w_420 : (Jvm.Cond.code ({ cls := "NameScope$Names", name := "numbered", desc := "(JI)J" } : Jvm.MethodName) prog_3_method_4_code (6 : Nat) (Option.some Jvm.ClassFile.FieldType.long)) ∈ gTB := gm 453 rfl rfl
theorem w_421 : (Jvm.Cond.methodLink "NameScope$Pen" (79 : Nat) ({ cls := "NameScope$Row", name := "setBeside", desc := "(IJ)V" } : Jvm.MethodName)) ∈ gTB := gm 454 (by decide +kernel) rfl
theorem w_422 : (Jvm.Cond.instanceMethod ({ cls := "NameScope$Row", name := "setBeside", desc := "(IJ)V" } : Jvm.MethodName)) ∈ gTB := gm 455 (by decide +kernel) rfl
theorem w_423 : (Jvm.Cond.selects "NameScope$Row" ({ cls := "NameScope$Row", name := "setBeside", desc := "(IJ)V" } : Jvm.MethodName) ({ cls := "NameScope$Row", name := "setBeside", desc := "(IJ)V" } : Jvm.MethodName)) ∈ gTB := gm 456 (by decide +kernel) rfl
set_option maxRecDepth 100000 in
theorem w_424 : (Jvm.Cond.code ({ cls := "NameScope$Row", name := "setBeside", desc := "(IJ)V" } : Jvm.MethodName) prog_5_method_11_code (4 : Nat) (Option.none : Option Jvm.ClassFile.FieldType)) ∈ gTB := gm 457 rfl rfl
theorem w_425 : (Jvm.Cond.methodLink "NameScope$Pen" (83 : Nat) ({ cls := "NameScope$Pen", name := "putNode", desc := "(ILNameScope$Row;LNameScope$Row;)V" } : Jvm.MethodName)) ∈ gTB := gm 458 (by decide +kernel) rfl
theorem w_427 : (Jvm.Cond.instanceMethod ({ cls := "NameScope$Pen", name := "putNode", desc := "(ILNameScope$Row;LNameScope$Row;)V" } : Jvm.MethodName)) ∈ gTB := gm 460 (by decide +kernel) rfl
set_option maxRecDepth 100000 in
theorem w_428 : (Jvm.Cond.code ({ cls := "NameScope$Pen", name := "putNode", desc := "(ILNameScope$Row;LNameScope$Row;)V" } : Jvm.MethodName) prog_4_method_7_code (8 : Nat) (Option.none : Option Jvm.ClassFile.FieldType)) ∈ gTB := gm 461 rfl rfl
theorem w_429 : (Jvm.Cond.methodLink "NameScope$Pen" (106 : Nat) ({ cls := "NameScope$Row", name := "add", desc := "(IJ)V" } : Jvm.MethodName)) ∈ gTB := gm 462 (by decide +kernel) rfl
theorem w_430 : (Jvm.Cond.methodLink "NameScope$Pen" (109 : Nat) ({ cls := "NameScope$Pen", name := "passUse", desc := "(ILNameScope$Row;)V" } : Jvm.MethodName)) ∈ gTB := gm 463 (by decide +kernel) rfl
theorem w_432 : (Jvm.Cond.instanceMethod ({ cls := "NameScope$Pen", name := "passUse", desc := "(ILNameScope$Row;)V" } : Jvm.MethodName)) ∈ gTB := gm 465 (by decide +kernel) rfl
set_option maxRecDepth 100000 in
theorem w_433 : (Jvm.Cond.code ({ cls := "NameScope$Pen", name := "passUse", desc := "(ILNameScope$Row;)V" } : Jvm.MethodName) prog_4_method_8_code (3 : Nat) (Option.none : Option Jvm.ClassFile.FieldType)) ∈ gTB := gm 466 rfl rfl
theorem w_434 : (Jvm.Cond.methodLink "NameScopeLaw" (56 : Nat) ({ cls := "NameScope", name := "written", desc := "(II)J" } : Jvm.MethodName)) ∈ gTB := gm 467 (by decide +kernel) rfl
theorem w_435 : (Jvm.Cond.instanceMethod ({ cls := "NameScope", name := "written", desc := "(II)J" } : Jvm.MethodName)) ∈ gTB := gm 468 (by decide +kernel) rfl
theorem w_436 : (Jvm.Cond.selects "NameScope" ({ cls := "NameScope", name := "written", desc := "(II)J" } : Jvm.MethodName) ({ cls := "NameScope", name := "written", desc := "(II)J" } : Jvm.MethodName)) ∈ gTB := gm 469 (by decide +kernel) rfl
set_option maxRecDepth 100000 in
theorem w_437 : (Jvm.Cond.code ({ cls := "NameScope", name := "written", desc := "(II)J" } : Jvm.MethodName) prog_1_method_11_code (3 : Nat) (Option.some Jvm.ClassFile.FieldType.long)) ∈ gTB := gm 470 rfl rfl
theorem w_438 : (Jvm.Cond.methodLink "NameScopeLaw" (60 : Nat) ({ cls := "NameScope", name := "again", desc := "()I" } : Jvm.MethodName)) ∈ gTB := gm 471 (by decide +kernel) rfl
theorem w_439 : (Jvm.Cond.instanceMethod ({ cls := "NameScope", name := "again", desc := "()I" } : Jvm.MethodName)) ∈ gTB := gm 472 (by decide +kernel) rfl
theorem w_440 : (Jvm.Cond.selects "NameScope" ({ cls := "NameScope", name := "again", desc := "()I" } : Jvm.MethodName) ({ cls := "NameScope", name := "again", desc := "()I" } : Jvm.MethodName)) ∈ gTB := gm 473 (by decide +kernel) rfl
set_option maxRecDepth 100000 in
theorem w_441 : (Jvm.Cond.code ({ cls := "NameScope", name := "again", desc := "()I" } : Jvm.MethodName) prog_1_method_12_code (1 : Nat) (Option.some Jvm.ClassFile.FieldType.int)) ∈ gTB := gm 474 rfl rfl
theorem w_442 : (Jvm.Cond.methodLink "NameScope" (136 : Nat) ({ cls := "NameScope$Row", name := "become", desc := "(LNameScope$Row;)V" } : Jvm.MethodName)) ∈ gTB := gm 475 (by decide +kernel) rfl
theorem w_443 : (Jvm.Cond.instanceMethod ({ cls := "NameScope$Row", name := "become", desc := "(LNameScope$Row;)V" } : Jvm.MethodName)) ∈ gTB := gm 476 (by decide +kernel) rfl
theorem w_444 : (Jvm.Cond.selects "NameScope$Row" ({ cls := "NameScope$Row", name := "become", desc := "(LNameScope$Row;)V" } : Jvm.MethodName) ({ cls := "NameScope$Row", name := "become", desc := "(LNameScope$Row;)V" } : Jvm.MethodName)) ∈ gTB := gm 477 (by decide +kernel) rfl
set_option maxRecDepth 100000 in
theorem w_445 : (Jvm.Cond.code ({ cls := "NameScope$Row", name := "become", desc := "(LNameScope$Row;)V" } : Jvm.MethodName) prog_5_method_12_code (2 : Nat) (Option.none : Option Jvm.ClassFile.FieldType)) ∈ gTB := gm 478 rfl rfl
theorem w_446 : (Jvm.Cond.methodLink "NameScope$Row" (43 : Nat) ({ cls := "java/lang/System", name := "arraycopy", desc := "(Ljava/lang/Object;ILjava/lang/Object;II)V" } : Jvm.MethodName)) ∈ gTB := gm 479 (by decide +kernel) rfl
theorem w_447 : (Jvm.Cond.methodLink "NameScopeLaw" (64 : Nat) ({ cls := "NameScope", name := "keep", desc := "()I" } : Jvm.MethodName)) ∈ gTB := gm 480 (by decide +kernel) rfl
theorem w_448 : (Jvm.Cond.instanceMethod ({ cls := "NameScope", name := "keep", desc := "()I" } : Jvm.MethodName)) ∈ gTB := gm 481 (by decide +kernel) rfl
theorem w_449 : (Jvm.Cond.selects "NameScope" ({ cls := "NameScope", name := "keep", desc := "()I" } : Jvm.MethodName) ({ cls := "NameScope", name := "keep", desc := "()I" } : Jvm.MethodName)) ∈ gTB := gm 482 (by decide +kernel) rfl
set_option maxRecDepth 100000 in
theorem w_450 : (Jvm.Cond.code ({ cls := "NameScope", name := "keep", desc := "()I" } : Jvm.MethodName) prog_1_method_13_code (1 : Nat) (Option.some Jvm.ClassFile.FieldType.int)) ∈ gTB := gm 483 rfl rfl
theorem w_451 : (Jvm.Cond.methodLink "NameScopeLaw" (68 : Nat) ({ cls := "NameScope", name := "same", desc := "()Z" } : Jvm.MethodName)) ∈ gTB := gm 484 (by decide +kernel) rfl
theorem w_452 : (Jvm.Cond.instanceMethod ({ cls := "NameScope", name := "same", desc := "()Z" } : Jvm.MethodName)) ∈ gTB := gm 485 (by decide +kernel) rfl
theorem w_453 : (Jvm.Cond.selects "NameScope" ({ cls := "NameScope", name := "same", desc := "()Z" } : Jvm.MethodName) ({ cls := "NameScope", name := "same", desc := "()Z" } : Jvm.MethodName)) ∈ gTB := gm 486 (by decide +kernel) rfl
set_option maxRecDepth 100000 in
theorem w_454 : (Jvm.Cond.code ({ cls := "NameScope", name := "same", desc := "()Z" } : Jvm.MethodName) prog_1_method_14_code (4 : Nat) (Option.some Jvm.ClassFile.FieldType.boolean)) ∈ gTB := gm 487 rfl rfl
theorem w_455 : (Jvm.Cond.classLink "NameScopeLaw" (10 : Nat) "NameScopeModel") ∈ gTB := gm 488 (by decide +kernel) rfl
theorem w_456 : (Jvm.Cond.instantiable "NameScopeModel" (22 : Nat)) ∈ gTB := gm 489 (by decide +kernel) rfl
theorem w_457 : (Jvm.Cond.methodLink "NameScopeLaw" (12 : Nat) ({ cls := "NameScopeModel", name := "<init>", desc := "()V" } : Jvm.MethodName)) ∈ gTB := gm 490 (by decide +kernel) rfl
theorem w_458 : (Jvm.Cond.instanceMethod ({ cls := "NameScopeModel", name := "<init>", desc := "()V" } : Jvm.MethodName)) ∈ gTB := gm 491 (by decide +kernel) rfl
set_option maxRecDepth 100000 in
theorem w_459 : (Jvm.Cond.code ({ cls := "NameScopeModel", name := "<init>", desc := "()V" } : Jvm.MethodName) prog_8_method_1_code (1 : Nat) (Option.none : Option Jvm.ClassFile.FieldType)) ∈ gTB := gm 492 rfl rfl
theorem w_460 : (Jvm.Cond.methodLink "NameScopeModel" (1 : Nat) ({ cls := "java/lang/Object", name := "<init>", desc := "()V" } : Jvm.MethodName)) ∈ gTB := gm 493 (by decide +kernel) rfl
theorem w_461 : (Jvm.Cond.fieldLink "NameScopeModel" (7 : Nat) "NameScopeModel" "globals" "[J") ∈ gTB := gm 494 (by decide +kernel) rfl
theorem w_462 : (Jvm.Cond.fieldLink "NameScopeModel" (71 : Nat) "NameScopeModel" "globalCount" "I") ∈ gTB := gm 495 (by decide +kernel) rfl
theorem w_463 : (Jvm.Cond.fieldLink "NameScopeModel" (13 : Nat) "NameScopeModel" "laidKind" "[I") ∈ gTB := gm 496 (by decide +kernel) rfl
theorem w_464 : (Jvm.Cond.fieldLink "NameScopeModel" (17 : Nat) "NameScopeModel" "laidBeside" "[J") ∈ gTB := gm 497 (by decide +kernel) rfl
theorem w_465 : (Jvm.Cond.fieldLink "NameScopeModel" (83 : Nat) "NameScopeModel" "laid" "I") ∈ gTB := gm 498 (by decide +kernel) rfl
theorem w_466 : (Jvm.Cond.fieldLink "NameScopeModel" (20 : Nat) "NameScopeModel" "kind" "[I") ∈ gTB := gm 499 (by decide +kernel) rfl
theorem w_467 : (Jvm.Cond.fieldLink "NameScopeModel" (23 : Nat) "NameScopeModel" "beside" "[J") ∈ gTB := gm 500 (by decide +kernel) rfl
theorem w_468 : (Jvm.Cond.fieldLink "NameScopeModel" (53 : Nat) "NameScopeModel" "count" "I") ∈ gTB := gm 501 (by decide +kernel) rfl
theorem w_469 : (Jvm.Cond.fieldLink "NameScopeModel" (26 : Nat) "NameScopeModel" "keptKind" "[I") ∈ gTB := gm 502 (by decide +kernel) rfl
theorem w_470 : (Jvm.Cond.fieldLink "NameScopeModel" (29 : Nat) "NameScopeModel" "keptBeside" "[J") ∈ gTB := gm 503 (by decide +kernel) rfl
theorem w_471 : (Jvm.Cond.fieldLink "NameScopeModel" (159 : Nat) "NameScopeModel" "kept" "I") ∈ gTB := gm 504 (by decide +kernel) rfl
theorem w_472 : (Jvm.Cond.fieldLink "NameScopeModel" (32 : Nat) "NameScopeModel" "saidKind" "[I") ∈ gTB := gm 505 (by decide +kernel) rfl
theorem w_473 : (Jvm.Cond.fieldLink "NameScopeModel" (35 : Nat) "NameScopeModel" "saidBeside" "[J") ∈ gTB := gm 506 (by decide +kernel) rfl
theorem w_474 : (Jvm.Cond.fieldLink "NameScopeModel" (156 : Nat) "NameScopeModel" "said" "I") ∈ gTB := gm 507 (by decide +kernel) rfl
theorem w_475 : (Jvm.Cond.fieldLink "NameScopeModel" (38 : Nat) "NameScopeModel" "draftKind" "[I") ∈ gTB := gm 508 (by decide +kernel) rfl
theorem w_476 : (Jvm.Cond.fieldLink "NameScopeModel" (41 : Nat) "NameScopeModel" "draftBeside" "[J") ∈ gTB := gm 509 (by decide +kernel) rfl
theorem w_477 : (Jvm.Cond.fieldLink "NameScopeModel" (124 : Nat) "NameScopeModel" "drafts" "I") ∈ gTB := gm 510 (by decide +kernel) rfl
theorem w_478 : (Jvm.Cond.fieldLink "NameScopeModel" (44 : Nat) "NameScopeModel" "sizes" "[I") ∈ gTB := gm 511 (by decide +kernel) rfl
theorem w_479 : (Jvm.Cond.fieldLink "NameScopeModel" (47 : Nat) "NameScopeModel" "whole" "[I") ∈ gTB := gm 512 (by decide +kernel) rfl
theorem w_480 : (Jvm.Cond.fieldLink "NameScopeModel" (50 : Nat) "NameScopeModel" "binderOf" "[I") ∈ gTB := gm 513 (by decide +kernel) rfl
theorem w_481 : (Jvm.Cond.fieldLink "NameScopeModel" (94 : Nat) "NameScopeModel" "meant" "Z") ∈ gTB := gm 514 (by decide +kernel) rfl
theorem w_482 : (Jvm.Cond.fieldLink "NameScopeModel" (105 : Nat) "NameScopeModel" "meaning" "J") ∈ gTB := gm 515 (by decide +kernel) rfl
theorem w_528 : (Jvm.Cond.methodLink "NameScopeLaw" (19 : Nat) ({ cls := "NameScopeModel", name := "global", desc := "(J)I" } : Jvm.MethodName)) ∈ gTB := gm 561 (by decide +kernel) rfl
theorem w_529 : (Jvm.Cond.instanceMethod ({ cls := "NameScopeModel", name := "global", desc := "(J)I" } : Jvm.MethodName)) ∈ gTB := gm 562 (by decide +kernel) rfl
theorem w_530 : (Jvm.Cond.selects "NameScopeModel" ({ cls := "NameScopeModel", name := "global", desc := "(J)I" } : Jvm.MethodName) ({ cls := "NameScopeModel", name := "global", desc := "(J)I" } : Jvm.MethodName)) ∈ gTB := gm 563 (by decide +kernel) rfl
set_option maxRecDepth 100000 in
theorem w_531 : (Jvm.Cond.code ({ cls := "NameScopeModel", name := "global", desc := "(J)I" } : Jvm.MethodName) prog_8_method_5_code (3 : Nat) (Option.some Jvm.ClassFile.FieldType.int)) ∈ gTB := gm 564 rfl rfl
theorem w_532 : (Jvm.Cond.methodLink "NameScopeModel" (74 : Nat) ({ cls := "NameScopeModel", name := "isName", desc := "(JI)Z" } : Jvm.MethodName)) ∈ gTB := gm 565 (by decide +kernel) rfl
theorem w_533 : (Jvm.Cond.static ({ cls := "NameScopeModel", name := "isName", desc := "(JI)Z" } : Jvm.MethodName)) ∈ gTB := gm 566 (by decide +kernel) rfl
set_option maxRecDepth 100000 in
theorem w_534 : (Jvm.Cond.code ({ cls := "NameScopeModel", name := "isName", desc := "(JI)Z" } : Jvm.MethodName) prog_8_method_3_code (8 : Nat) (Option.some Jvm.ClassFile.FieldType.boolean)) ∈ gTB := gm 567 rfl rfl
theorem w_535 : (Jvm.Cond.methodLink "NameScopeModel" (57 : Nat) ({ cls := "NameScopeModel", name := "length", desc := "(J)I" } : Jvm.MethodName)) ∈ gTB := gm 568 (by decide +kernel) rfl
theorem w_536 : (Jvm.Cond.static ({ cls := "NameScopeModel", name := "length", desc := "(J)I" } : Jvm.MethodName)) ∈ gTB := gm 569 (by decide +kernel) rfl
set_option maxRecDepth 100000 in
theorem w_537 : (Jvm.Cond.code ({ cls := "NameScopeModel", name := "length", desc := "(J)I" } : Jvm.MethodName) prog_8_method_2_code (5 : Nat) (Option.some Jvm.ClassFile.FieldType.int)) ∈ gTB := gm 570 rfl rfl
theorem w_538 : (Jvm.Cond.constantLong "NameScopeModel" (61 : Nat) (255 : Int64)) ∈ gTB := gm 571 (by decide +kernel) rfl
theorem w_539 : (Jvm.Cond.constantLong "NameScopeModel" (63 : Nat) (97 : Int64)) ∈ gTB := gm 572 (by decide +kernel) rfl
theorem w_540 : (Jvm.Cond.constantLong "NameScopeModel" (65 : Nat) (122 : Int64)) ∈ gTB := gm 573 (by decide +kernel) rfl
theorem w_541 : (Jvm.Cond.constantLong "NameScopeModel" (67 : Nat) (48 : Int64)) ∈ gTB := gm 574 (by decide +kernel) rfl
theorem w_542 : (Jvm.Cond.constantLong "NameScopeModel" (69 : Nat) (57 : Int64)) ∈ gTB := gm 575 (by decide +kernel) rfl
theorem w_543 : (Jvm.Cond.methodLink "NameScopeModel" (78 : Nat) ({ cls := "NameScopeModel", name := "globalOf", desc := "(J)I" } : Jvm.MethodName)) ∈ gTB := gm 576 (by decide +kernel) rfl
theorem w_545 : (Jvm.Cond.instanceMethod ({ cls := "NameScopeModel", name := "globalOf", desc := "(J)I" } : Jvm.MethodName)) ∈ gTB := gm 578 (by decide +kernel) rfl
set_option maxRecDepth 100000 in
theorem w_546 : (Jvm.Cond.code ({ cls := "NameScopeModel", name := "globalOf", desc := "(J)I" } : Jvm.MethodName) prog_8_method_4_code (4 : Nat) (Option.some Jvm.ClassFile.FieldType.int)) ∈ gTB := gm 579 rfl rfl
theorem w_547 : (Jvm.Cond.methodLink "NameScopeLaw" (24 : Nat) ({ cls := "NameScopeModel", name := "lay", desc := "(IJ)I" } : Jvm.MethodName)) ∈ gTB := gm 580 (by decide +kernel) rfl
theorem w_548 : (Jvm.Cond.instanceMethod ({ cls := "NameScopeModel", name := "lay", desc := "(IJ)I" } : Jvm.MethodName)) ∈ gTB := gm 581 (by decide +kernel) rfl
theorem w_549 : (Jvm.Cond.selects "NameScopeModel" ({ cls := "NameScopeModel", name := "lay", desc := "(IJ)I" } : Jvm.MethodName) ({ cls := "NameScopeModel", name := "lay", desc := "(IJ)I" } : Jvm.MethodName)) ∈ gTB := gm 582 (by decide +kernel) rfl
set_option maxRecDepth 100000 in
theorem w_550 : (Jvm.Cond.code ({ cls := "NameScopeModel", name := "lay", desc := "(IJ)I" } : Jvm.MethodName) prog_8_method_8_code (5 : Nat) (Option.some Jvm.ClassFile.FieldType.int)) ∈ gTB := gm 583 rfl rfl
theorem w_551 : (Jvm.Cond.constantLong "NameScopeModel" (81 : Nat) (100 : Int64)) ∈ gTB := gm 584 (by decide +kernel) rfl
theorem w_552 : (Jvm.Cond.methodLink "NameScopeLaw" (29 : Nat) ({ cls := "NameScopeModel", name := "drop", desc := "()I" } : Jvm.MethodName)) ∈ gTB := gm 585 (by decide +kernel) rfl
theorem w_553 : (Jvm.Cond.instanceMethod ({ cls := "NameScopeModel", name := "drop", desc := "()I" } : Jvm.MethodName)) ∈ gTB := gm 586 (by decide +kernel) rfl
theorem w_554 : (Jvm.Cond.selects "NameScopeModel" ({ cls := "NameScopeModel", name := "drop", desc := "()I" } : Jvm.MethodName) ({ cls := "NameScopeModel", name := "drop", desc := "()I" } : Jvm.MethodName)) ∈ gTB := gm 587 (by decide +kernel) rfl
set_option maxRecDepth 100000 in
theorem w_555 : (Jvm.Cond.code ({ cls := "NameScopeModel", name := "drop", desc := "()I" } : Jvm.MethodName) prog_8_method_9_code (2 : Nat) (Option.some Jvm.ClassFile.FieldType.int)) ∈ gTB := gm 588 rfl rfl
theorem w_556 : (Jvm.Cond.methodLink "NameScopeLaw" (33 : Nat) ({ cls := "NameScopeModel", name := "bind", desc := "()I" } : Jvm.MethodName)) ∈ gTB := gm 589 (by decide +kernel) rfl
theorem w_557 : (Jvm.Cond.instanceMethod ({ cls := "NameScopeModel", name := "bind", desc := "()I" } : Jvm.MethodName)) ∈ gTB := gm 590 (by decide +kernel) rfl
theorem w_558 : (Jvm.Cond.selects "NameScopeModel" ({ cls := "NameScopeModel", name := "bind", desc := "()I" } : Jvm.MethodName) ({ cls := "NameScopeModel", name := "bind", desc := "()I" } : Jvm.MethodName)) ∈ gTB := gm 591 (by decide +kernel) rfl
set_option maxRecDepth 100000 in
theorem w_559 : (Jvm.Cond.code ({ cls := "NameScopeModel", name := "bind", desc := "()I" } : Jvm.MethodName) prog_8_method_16_code (3 : Nat) (Option.some Jvm.ClassFile.FieldType.int)) ∈ gTB := gm 592 rfl rfl
theorem w_560 : (Jvm.Cond.methodLink "NameScopeModel" (109 : Nat) ({ cls := "NameScopeModel", name := "isOneTerm", desc := "()Z" } : Jvm.MethodName)) ∈ gTB := gm 593 (by decide +kernel) rfl
theorem w_562 : (Jvm.Cond.instanceMethod ({ cls := "NameScopeModel", name := "isOneTerm", desc := "()Z" } : Jvm.MethodName)) ∈ gTB := gm 595 (by decide +kernel) rfl
set_option maxRecDepth 100000 in
theorem w_563 : (Jvm.Cond.code ({ cls := "NameScopeModel", name := "isOneTerm", desc := "()Z" } : Jvm.MethodName) prog_8_method_10_code (3 : Nat) (Option.some Jvm.ClassFile.FieldType.boolean)) ∈ gTB := gm 596 rfl rfl
theorem w_564 : (Jvm.Cond.methodLink "NameScopeModel" (86 : Nat) ({ cls := "NameScopeModel", name := "hasParts", desc := "(I)Z" } : Jvm.MethodName)) ∈ gTB := gm 597 (by decide +kernel) rfl
theorem w_565 : (Jvm.Cond.static ({ cls := "NameScopeModel", name := "hasParts", desc := "(I)Z" } : Jvm.MethodName)) ∈ gTB := gm 598 (by decide +kernel) rfl
set_option maxRecDepth 100000 in
theorem w_566 : (Jvm.Cond.code ({ cls := "NameScopeModel", name := "hasParts", desc := "(I)Z" } : Jvm.MethodName) prog_8_method_6_code (1 : Nat) (Option.some Jvm.ClassFile.FieldType.boolean)) ∈ gTB := gm 599 rfl rfl
theorem w_567 : (Jvm.Cond.methodLink "NameScopeModel" (113 : Nat) ({ cls := "NameScopeModel", name := "measure", desc := "(Z)V" } : Jvm.MethodName)) ∈ gTB := gm 600 (by decide +kernel) rfl
theorem w_569 : (Jvm.Cond.instanceMethod ({ cls := "NameScopeModel", name := "measure", desc := "(Z)V" } : Jvm.MethodName)) ∈ gTB := gm 602 (by decide +kernel) rfl
set_option maxRecDepth 100000 in
theorem w_570 : (Jvm.Cond.code ({ cls := "NameScopeModel", name := "measure", desc := "(Z)V" } : Jvm.MethodName) prog_8_method_12_code (5 : Nat) (Option.none : Option Jvm.ClassFile.FieldType)) ∈ gTB := gm 603 rfl rfl
theorem w_571 : (Jvm.Cond.methodLink "NameScopeModel" (90 : Nat) ({ cls := "NameScopeModel", name := "kindOf", desc := "(ZI)I" } : Jvm.MethodName)) ∈ gTB := gm 604 (by decide +kernel) rfl
theorem w_573 : (Jvm.Cond.instanceMethod ({ cls := "NameScopeModel", name := "kindOf", desc := "(ZI)I" } : Jvm.MethodName)) ∈ gTB := gm 606 (by decide +kernel) rfl
set_option maxRecDepth 100000 in
theorem w_574 : (Jvm.Cond.code ({ cls := "NameScopeModel", name := "kindOf", desc := "(ZI)I" } : Jvm.MethodName) prog_8_method_11_code (3 : Nat) (Option.some Jvm.ClassFile.FieldType.int)) ∈ gTB := gm 607 rfl rfl
theorem w_575 : (Jvm.Cond.methodLink "NameScopeModel" (117 : Nat) ({ cls := "NameScopeModel", name := "cut", desc := "(J)J" } : Jvm.MethodName)) ∈ gTB := gm 608 (by decide +kernel) rfl
theorem w_576 : (Jvm.Cond.static ({ cls := "NameScopeModel", name := "cut", desc := "(J)J" } : Jvm.MethodName)) ∈ gTB := gm 609 (by decide +kernel) rfl
set_option maxRecDepth 100000 in
theorem w_577 : (Jvm.Cond.code ({ cls := "NameScopeModel", name := "cut", desc := "(J)J" } : Jvm.MethodName) prog_8_method_15_code (2 : Nat) (Option.some Jvm.ClassFile.FieldType.long)) ∈ gTB := gm 610 rfl rfl
theorem w_578 : (Jvm.Cond.methodLink "NameScopeModel" (121 : Nat) ({ cls := "NameScopeModel", name := "meaningOf", desc := "(I)I" } : Jvm.MethodName)) ∈ gTB := gm 611 (by decide +kernel) rfl
theorem w_580 : (Jvm.Cond.instanceMethod ({ cls := "NameScopeModel", name := "meaningOf", desc := "(I)I" } : Jvm.MethodName)) ∈ gTB := gm 613 (by decide +kernel) rfl
set_option maxRecDepth 100000 in
theorem w_581 : (Jvm.Cond.code ({ cls := "NameScopeModel", name := "meaningOf", desc := "(I)I" } : Jvm.MethodName) prog_8_method_14_code (5 : Nat) (Option.some Jvm.ClassFile.FieldType.int)) ∈ gTB := gm 614 rfl rfl
theorem w_582 : (Jvm.Cond.methodLink "NameScopeModel" (98 : Nat) ({ cls := "NameScopeModel", name := "binds", desc := "(I)Z" } : Jvm.MethodName)) ∈ gTB := gm 615 (by decide +kernel) rfl
theorem w_583 : (Jvm.Cond.static ({ cls := "NameScopeModel", name := "binds", desc := "(I)Z" } : Jvm.MethodName)) ∈ gTB := gm 616 (by decide +kernel) rfl
set_option maxRecDepth 100000 in
theorem w_584 : (Jvm.Cond.code ({ cls := "NameScopeModel", name := "binds", desc := "(I)Z" } : Jvm.MethodName) prog_8_method_7_code (1 : Nat) (Option.some Jvm.ClassFile.FieldType.boolean)) ∈ gTB := gm 617 rfl rfl
theorem w_585 : (Jvm.Cond.methodLink "NameScopeModel" (101 : Nat) ({ cls := "NameScopeModel", name := "lastOf", desc := "(I)I" } : Jvm.MethodName)) ∈ gTB := gm 618 (by decide +kernel) rfl
theorem w_587 : (Jvm.Cond.instanceMethod ({ cls := "NameScopeModel", name := "lastOf", desc := "(I)I" } : Jvm.MethodName)) ∈ gTB := gm 620 (by decide +kernel) rfl
set_option maxRecDepth 100000 in
theorem w_588 : (Jvm.Cond.code ({ cls := "NameScopeModel", name := "lastOf", desc := "(I)I" } : Jvm.MethodName) prog_8_method_13_code (2 : Nat) (Option.some Jvm.ClassFile.FieldType.int)) ∈ gTB := gm 621 rfl rfl
theorem w_589 : (Jvm.Cond.methodLink "NameScopeModel" (127 : Nat) ({ cls := "NameScopeModel", name := "become", desc := "()V" } : Jvm.MethodName)) ∈ gTB := gm 622 (by decide +kernel) rfl
theorem w_591 : (Jvm.Cond.instanceMethod ({ cls := "NameScopeModel", name := "become", desc := "()V" } : Jvm.MethodName)) ∈ gTB := gm 624 (by decide +kernel) rfl
set_option maxRecDepth 100000 in
theorem w_592 : (Jvm.Cond.code ({ cls := "NameScopeModel", name := "become", desc := "()V" } : Jvm.MethodName) prog_8_method_17_code (2 : Nat) (Option.none : Option Jvm.ClassFile.FieldType)) ∈ gTB := gm 625 rfl rfl
theorem w_593 : (Jvm.Cond.methodLink "NameScopeLaw" (37 : Nat) ({ cls := "NameScopeModel", name := "nodes", desc := "()I" } : Jvm.MethodName)) ∈ gTB := gm 626 (by decide +kernel) rfl
theorem w_594 : (Jvm.Cond.instanceMethod ({ cls := "NameScopeModel", name := "nodes", desc := "()I" } : Jvm.MethodName)) ∈ gTB := gm 627 (by decide +kernel) rfl
theorem w_595 : (Jvm.Cond.selects "NameScopeModel" ({ cls := "NameScopeModel", name := "nodes", desc := "()I" } : Jvm.MethodName) ({ cls := "NameScopeModel", name := "nodes", desc := "()I" } : Jvm.MethodName)) ∈ gTB := gm 628 (by decide +kernel) rfl
set_option maxRecDepth 100000 in
theorem w_596 : (Jvm.Cond.code ({ cls := "NameScopeModel", name := "nodes", desc := "()I" } : Jvm.MethodName) prog_8_method_18_code (1 : Nat) (Option.some Jvm.ClassFile.FieldType.int)) ∈ gTB := gm 629 rfl rfl
theorem w_597 : (Jvm.Cond.methodLink "NameScopeLaw" (42 : Nat) ({ cls := "NameScopeModel", name := "node", desc := "(II)J" } : Jvm.MethodName)) ∈ gTB := gm 630 (by decide +kernel) rfl
theorem w_598 : (Jvm.Cond.instanceMethod ({ cls := "NameScopeModel", name := "node", desc := "(II)J" } : Jvm.MethodName)) ∈ gTB := gm 631 (by decide +kernel) rfl
theorem w_599 : (Jvm.Cond.selects "NameScopeModel" ({ cls := "NameScopeModel", name := "node", desc := "(II)J" } : Jvm.MethodName) ({ cls := "NameScopeModel", name := "node", desc := "(II)J" } : Jvm.MethodName)) ∈ gTB := gm 632 (by decide +kernel) rfl
set_option maxRecDepth 100000 in
theorem w_600 : (Jvm.Cond.code ({ cls := "NameScopeModel", name := "node", desc := "(II)J" } : Jvm.MethodName) prog_8_method_19_code (3 : Nat) (Option.some Jvm.ClassFile.FieldType.long)) ∈ gTB := gm 633 rfl rfl
theorem w_601 : (Jvm.Cond.constantLong "NameScopeModel" (130 : Nat) (-1 : Int64)) ∈ gTB := gm 634 (by decide +kernel) rfl
theorem w_602 : (Jvm.Cond.methodLink "NameScopeLaw" (47 : Nat) ({ cls := "NameScopeModel", name := "uses", desc := "(I)I" } : Jvm.MethodName)) ∈ gTB := gm 635 (by decide +kernel) rfl
theorem w_603 : (Jvm.Cond.instanceMethod ({ cls := "NameScopeModel", name := "uses", desc := "(I)I" } : Jvm.MethodName)) ∈ gTB := gm 636 (by decide +kernel) rfl
theorem w_604 : (Jvm.Cond.selects "NameScopeModel" ({ cls := "NameScopeModel", name := "uses", desc := "(I)I" } : Jvm.MethodName) ({ cls := "NameScopeModel", name := "uses", desc := "(I)I" } : Jvm.MethodName)) ∈ gTB := gm 637 (by decide +kernel) rfl
set_option maxRecDepth 100000 in
theorem w_605 : (Jvm.Cond.code ({ cls := "NameScopeModel", name := "uses", desc := "(I)I" } : Jvm.MethodName) prog_8_method_21_code (4 : Nat) (Option.some Jvm.ClassFile.FieldType.int)) ∈ gTB := gm 638 rfl rfl
theorem w_606 : (Jvm.Cond.methodLink "NameScopeModel" (132 : Nat) ({ cls := "NameScopeModel", name := "under", desc := "(II)I" } : Jvm.MethodName)) ∈ gTB := gm 639 (by decide +kernel) rfl
theorem w_608 : (Jvm.Cond.instanceMethod ({ cls := "NameScopeModel", name := "under", desc := "(II)I" } : Jvm.MethodName)) ∈ gTB := gm 641 (by decide +kernel) rfl
set_option maxRecDepth 100000 in
theorem w_609 : (Jvm.Cond.code ({ cls := "NameScopeModel", name := "under", desc := "(II)I" } : Jvm.MethodName) prog_8_method_20_code (6 : Nat) (Option.some Jvm.ClassFile.FieldType.int)) ∈ gTB := gm 642 rfl rfl
theorem w_610 : (Jvm.Cond.methodLink "NameScopeLaw" (51 : Nat) ({ cls := "NameScopeModel", name := "contract", desc := "(I)I" } : Jvm.MethodName)) ∈ gTB := gm 643 (by decide +kernel) rfl
theorem w_611 : (Jvm.Cond.instanceMethod ({ cls := "NameScopeModel", name := "contract", desc := "(I)I" } : Jvm.MethodName)) ∈ gTB := gm 644 (by decide +kernel) rfl
theorem w_612 : (Jvm.Cond.selects "NameScopeModel" ({ cls := "NameScopeModel", name := "contract", desc := "(I)I" } : Jvm.MethodName) ({ cls := "NameScopeModel", name := "contract", desc := "(I)I" } : Jvm.MethodName)) ∈ gTB := gm 645 (by decide +kernel) rfl
set_option maxRecDepth 100000 in
theorem w_613 : (Jvm.Cond.code ({ cls := "NameScopeModel", name := "contract", desc := "(I)I" } : Jvm.MethodName) prog_8_method_23_code (11 : Nat) (Option.some Jvm.ClassFile.FieldType.int)) ∈ gTB := gm 646 rfl rfl
theorem w_614 : (Jvm.Cond.methodLink "NameScopeModel" (136 : Nat) ({ cls := "NameScopeModel", name := "uses", desc := "(I)I" } : Jvm.MethodName)) ∈ gTB := gm 647 (by decide +kernel) rfl
theorem w_615 : (Jvm.Cond.methodLink "NameScopeModel" (139 : Nat) ({ cls := "NameScopeModel", name := "draft", desc := "(IJ)V" } : Jvm.MethodName)) ∈ gTB := gm 648 (by decide +kernel) rfl
theorem w_617 : (Jvm.Cond.instanceMethod ({ cls := "NameScopeModel", name := "draft", desc := "(IJ)V" } : Jvm.MethodName)) ∈ gTB := gm 650 (by decide +kernel) rfl
set_option maxRecDepth 100000 in
theorem w_618 : (Jvm.Cond.code ({ cls := "NameScopeModel", name := "draft", desc := "(IJ)V" } : Jvm.MethodName) prog_8_method_22_code (4 : Nat) (Option.none : Option Jvm.ClassFile.FieldType)) ∈ gTB := gm 651 rfl rfl
theorem w_619 : (Jvm.Cond.methodLink "NameScopeLaw" (55 : Nat) ({ cls := "NameScopeModel", name := "write", desc := "()I" } : Jvm.MethodName)) ∈ gTB := gm 652 (by decide +kernel) rfl
theorem w_620 : (Jvm.Cond.instanceMethod ({ cls := "NameScopeModel", name := "write", desc := "()I" } : Jvm.MethodName)) ∈ gTB := gm 653 (by decide +kernel) rfl
theorem w_621 : (Jvm.Cond.selects "NameScopeModel" ({ cls := "NameScopeModel", name := "write", desc := "()I" } : Jvm.MethodName) ({ cls := "NameScopeModel", name := "write", desc := "()I" } : Jvm.MethodName)) ∈ gTB := gm 654 (by decide +kernel) rfl
set_option maxRecDepth 100000 in
theorem w_622 : (Jvm.Cond.code ({ cls := "NameScopeModel", name := "write", desc := "()I" } : Jvm.MethodName) prog_8_method_27_code (5 : Nat) (Option.some Jvm.ClassFile.FieldType.int)) ∈ gTB := gm 655 rfl rfl
theorem w_623 : (Jvm.Cond.methodLink "NameScopeModel" (143 : Nat) ({ cls := "NameScopeModel", name := "findBinders", desc := "()V" } : Jvm.MethodName)) ∈ gTB := gm 656 (by decide +kernel) rfl
theorem w_625 : (Jvm.Cond.instanceMethod ({ cls := "NameScopeModel", name := "findBinders", desc := "()V" } : Jvm.MethodName)) ∈ gTB := gm 658 (by decide +kernel) rfl
set_option maxRecDepth 100000 in
theorem w_626 : (Jvm.Cond.code ({ cls := "NameScopeModel", name := "findBinders", desc := "()V" } : Jvm.MethodName) prog_8_method_24_code (6 : Nat) (Option.none : Option Jvm.ClassFile.FieldType)) ∈ gTB := gm 659 rfl rfl
theorem w_627 : (Jvm.Cond.constantLong "NameScopeModel" (146 : Nat) (120 : Int64)) ∈ gTB := gm 660 (by decide +kernel) rfl
theorem w_628 : (Jvm.Cond.methodLink "NameScopeModel" (148 : Nat) ({ cls := "NameScopeModel", name := "numbered", desc := "(JI)J" } : Jvm.MethodName)) ∈ gTB := gm 661 (by decide +kernel) rfl
theorem w_629 : (Jvm.Cond.static ({ cls := "NameScopeModel", name := "numbered", desc := "(JI)J" } : Jvm.MethodName)) ∈ gTB := gm 662 (by decide +kernel) rfl
set_option maxRecDepth 100000 in
theorem w_630 : (Jvm.Cond.code ({ cls := "NameScopeModel", name := "numbered", desc := "(JI)J" } : Jvm.MethodName) prog_8_method_26_code (6 : Nat) (Option.some Jvm.ClassFile.FieldType.long)) ∈ gTB := gm 663 rfl rfl
theorem w_631 : (Jvm.Cond.methodLink "NameScopeModel" (152 : Nat) ({ cls := "NameScopeModel", name := "catches", desc := "(IJ)Z" } : Jvm.MethodName)) ∈ gTB := gm 664 (by decide +kernel) rfl
theorem w_633 : (Jvm.Cond.instanceMethod ({ cls := "NameScopeModel", name := "catches", desc := "(IJ)Z" } : Jvm.MethodName)) ∈ gTB := gm 666 (by decide +kernel) rfl
set_option maxRecDepth 100000 in
theorem w_634 : (Jvm.Cond.code ({ cls := "NameScopeModel", name := "catches", desc := "(IJ)Z" } : Jvm.MethodName) prog_8_method_25_code (5 : Nat) (Option.some Jvm.ClassFile.FieldType.boolean)) ∈ gTB := gm 667 rfl rfl
theorem w_635 : (Jvm.Cond.methodLink "NameScopeLaw" (59 : Nat) ({ cls := "NameScopeModel", name := "written", desc := "(II)J" } : Jvm.MethodName)) ∈ gTB := gm 668 (by decide +kernel) rfl
theorem w_636 : (Jvm.Cond.instanceMethod ({ cls := "NameScopeModel", name := "written", desc := "(II)J" } : Jvm.MethodName)) ∈ gTB := gm 669 (by decide +kernel) rfl
theorem w_637 : (Jvm.Cond.selects "NameScopeModel" ({ cls := "NameScopeModel", name := "written", desc := "(II)J" } : Jvm.MethodName) ({ cls := "NameScopeModel", name := "written", desc := "(II)J" } : Jvm.MethodName)) ∈ gTB := gm 670 (by decide +kernel) rfl
set_option maxRecDepth 100000 in
theorem w_638 : (Jvm.Cond.code ({ cls := "NameScopeModel", name := "written", desc := "(II)J" } : Jvm.MethodName) prog_8_method_28_code (3 : Nat) (Option.some Jvm.ClassFile.FieldType.long)) ∈ gTB := gm 671 rfl rfl
theorem w_639 : (Jvm.Cond.methodLink "NameScopeLaw" (63 : Nat) ({ cls := "NameScopeModel", name := "again", desc := "()I" } : Jvm.MethodName)) ∈ gTB := gm 672 (by decide +kernel) rfl
theorem w_640 : (Jvm.Cond.instanceMethod ({ cls := "NameScopeModel", name := "again", desc := "()I" } : Jvm.MethodName)) ∈ gTB := gm 673 (by decide +kernel) rfl
theorem w_641 : (Jvm.Cond.selects "NameScopeModel" ({ cls := "NameScopeModel", name := "again", desc := "()I" } : Jvm.MethodName) ({ cls := "NameScopeModel", name := "again", desc := "()I" } : Jvm.MethodName)) ∈ gTB := gm 674 (by decide +kernel) rfl
set_option maxRecDepth 100000 in
theorem w_642 : (Jvm.Cond.code ({ cls := "NameScopeModel", name := "again", desc := "()I" } : Jvm.MethodName) prog_8_method_29_code (2 : Nat) (Option.some Jvm.ClassFile.FieldType.int)) ∈ gTB := gm 675 rfl rfl
theorem w_643 : (Jvm.Cond.methodLink "NameScopeLaw" (67 : Nat) ({ cls := "NameScopeModel", name := "keep", desc := "()I" } : Jvm.MethodName)) ∈ gTB := gm 676 (by decide +kernel) rfl
theorem w_644 : (Jvm.Cond.instanceMethod ({ cls := "NameScopeModel", name := "keep", desc := "()I" } : Jvm.MethodName)) ∈ gTB := gm 677 (by decide +kernel) rfl
theorem w_645 : (Jvm.Cond.selects "NameScopeModel" ({ cls := "NameScopeModel", name := "keep", desc := "()I" } : Jvm.MethodName) ({ cls := "NameScopeModel", name := "keep", desc := "()I" } : Jvm.MethodName)) ∈ gTB := gm 678 (by decide +kernel) rfl
set_option maxRecDepth 100000 in
theorem w_646 : (Jvm.Cond.code ({ cls := "NameScopeModel", name := "keep", desc := "()I" } : Jvm.MethodName) prog_8_method_30_code (2 : Nat) (Option.some Jvm.ClassFile.FieldType.int)) ∈ gTB := gm 679 rfl rfl
theorem w_647 : (Jvm.Cond.methodLink "NameScopeLaw" (72 : Nat) ({ cls := "NameScopeModel", name := "same", desc := "()Z" } : Jvm.MethodName)) ∈ gTB := gm 680 (by decide +kernel) rfl
theorem w_648 : (Jvm.Cond.instanceMethod ({ cls := "NameScopeModel", name := "same", desc := "()Z" } : Jvm.MethodName)) ∈ gTB := gm 681 (by decide +kernel) rfl
theorem w_649 : (Jvm.Cond.selects "NameScopeModel" ({ cls := "NameScopeModel", name := "same", desc := "()Z" } : Jvm.MethodName) ({ cls := "NameScopeModel", name := "same", desc := "()Z" } : Jvm.MethodName)) ∈ gTB := gm 682 (by decide +kernel) rfl
set_option maxRecDepth 100000 in
theorem w_650 : (Jvm.Cond.code ({ cls := "NameScopeModel", name := "same", desc := "()Z" } : Jvm.MethodName) prog_8_method_31_code (3 : Nat) (Option.some Jvm.ClassFile.FieldType.boolean)) ∈ gTB := gm 683 rfl rfl
theorem w_651 : (Jvm.Cond.constantLong "NameScopeLaw" (13 : Nat) (4294967295 : Int64)) ∈ gTB := gm 684 (by decide +kernel) rfl
theorem p_0 : Cond.selects "NameScope$Row" ⟨"NameScope$Row", "makeRoom", "(I)V"⟩ ⟨"NameScope$Row", "makeRoom", "(I)V"⟩ ∈ gTB := gm 0 (by decide +kernel) rfl
theorem p_1 : Cond.selects "NameScope$Scopes" ⟨"NameScope$Scopes", "makeRoom", "(I)V"⟩ ⟨"NameScope$Scopes", "makeRoom", "(I)V"⟩ ∈ gTB := gm 1 (by decide +kernel) rfl
theorem p_2 : Cond.selects "NameScope$Scopes" ⟨"NameScope$Scopes", "setInnermost", "(II)V"⟩ ⟨"NameScope$Scopes", "setInnermost", "(II)V"⟩ ∈ gTB := gm 2 (by decide +kernel) rfl
theorem p_3 : Cond.selects "NameScope" ⟨"NameScope", "bindNode", "(I)Z"⟩ ⟨"NameScope", "bindNode", "(I)Z"⟩ ∈ gTB := gm 3 (by decide +kernel) rfl
theorem p_4 : Cond.selects "NameScope" ⟨"NameScope", "bindName", "(IJ)Z"⟩ ⟨"NameScope", "bindName", "(IJ)Z"⟩ ∈ gTB := gm 4 (by decide +kernel) rfl
theorem p_5 : Cond.selects "NameScope" ⟨"NameScope", "takeSpare", "()V"⟩ ⟨"NameScope", "takeSpare", "()V"⟩ ∈ gTB := gm 5 (by decide +kernel) rfl
theorem p_6 : Cond.selects "NameScope" ⟨"NameScope", "countUses", "(I)I"⟩ ⟨"NameScope", "countUses", "(I)I"⟩ ∈ gTB := gm 6 (by decide +kernel) rfl
theorem p_7 : Cond.selects "NameScope" ⟨"NameScope", "contractible", "(I)I"⟩ ⟨"NameScope", "contractible", "(I)I"⟩ ∈ gTB := gm 7 (by decide +kernel) rfl
theorem p_8 : Cond.selects "NameScope" ⟨"NameScope", "copy", "(II)V"⟩ ⟨"NameScope", "copy", "(II)V"⟩ ∈ gTB := gm 8 (by decide +kernel) rfl
theorem p_9 : Cond.selects "NameScope" ⟨"NameScope", "copyLastPart", "(II)V"⟩ ⟨"NameScope", "copyLastPart", "(II)V"⟩ ∈ gTB := gm 9 (by decide +kernel) rfl
theorem p_10 : Cond.selects "NameScope" ⟨"NameScope", "copyDeeper", "(II)V"⟩ ⟨"NameScope", "copyDeeper", "(II)V"⟩ ∈ gTB := gm 10 (by decide +kernel) rfl
theorem p_11 : Cond.selects "NameScope$Pen" ⟨"NameScope$Pen", "makeRoom", "(I)V"⟩ ⟨"NameScope$Pen", "makeRoom", "(I)V"⟩ ∈ gTB := gm 11 (by decide +kernel) rfl
theorem p_12 : Cond.selects "NameScope$Pen" ⟨"NameScope$Pen", "linkUses", "(LNameScope$Row;)V"⟩ ⟨"NameScope$Pen", "linkUses", "(LNameScope$Row;)V"⟩ ∈ gTB := gm 12 (by decide +kernel) rfl
theorem p_13 : Cond.selects "NameScope$Pen" ⟨"NameScope$Pen", "usedBy", "(ILNameScope$Row;)I"⟩ ⟨"NameScope$Pen", "usedBy", "(ILNameScope$Row;)I"⟩ ∈ gTB := gm 13 (by decide +kernel) rfl
theorem p_14 : Cond.selects "NameScope$Pen" ⟨"NameScope$Pen", "setNext", "(II)V"⟩ ⟨"NameScope$Pen", "setNext", "(II)V"⟩ ∈ gTB := gm 14 (by decide +kernel) rfl
theorem p_15 : Cond.selects "NameScope$Pen" ⟨"NameScope$Pen", "chooseName", "(ILNameScope$Row;LNameScope$Row;)J"⟩ ⟨"NameScope$Pen", "chooseName", "(ILNameScope$Row;LNameScope$Row;)J"⟩ ∈ gTB := gm 15 (by decide +kernel) rfl
theorem p_16 : Cond.selects "NameScope$Pen" ⟨"NameScope$Pen", "gatherNear", "(IILNameScope$Row;)V"⟩ ⟨"NameScope$Pen", "gatherNear", "(IILNameScope$Row;)V"⟩ ∈ gTB := gm 16 (by decide +kernel) rfl
theorem p_17 : Cond.selects "NameScope$Pen" ⟨"NameScope$Pen", "nextOf", "(I)I"⟩ ⟨"NameScope$Pen", "nextOf", "(I)I"⟩ ∈ gTB := gm 17 (by decide +kernel) rfl
theorem p_18 : Cond.selects "NameScope$Pen" ⟨"NameScope$Pen", "addNear", "(J)V"⟩ ⟨"NameScope$Pen", "addNear", "(J)V"⟩ ∈ gTB := gm 18 (by decide +kernel) rfl
theorem p_19 : Cond.selects "NameScope$Pen" ⟨"NameScope$Pen", "leastNumber", "(J)I"⟩ ⟨"NameScope$Pen", "leastNumber", "(J)I"⟩ ∈ gTB := gm 19 (by decide +kernel) rfl
theorem p_20 : Cond.selects "NameScope$Pen" ⟨"NameScope$Pen", "putNode", "(ILNameScope$Row;LNameScope$Row;)V"⟩ ⟨"NameScope$Pen", "putNode", "(ILNameScope$Row;LNameScope$Row;)V"⟩ ∈ gTB := gm 20 (by decide +kernel) rfl
theorem p_21 : Cond.selects "NameScope$Pen" ⟨"NameScope$Pen", "passUse", "(ILNameScope$Row;)V"⟩ ⟨"NameScope$Pen", "passUse", "(ILNameScope$Row;)V"⟩ ∈ gTB := gm 21 (by decide +kernel) rfl
theorem p_22 : Cond.selects "NameScopeModel" ⟨"NameScopeModel", "globalOf", "(J)I"⟩ ⟨"NameScopeModel", "globalOf", "(J)I"⟩ ∈ gTB := gm 22 (by decide +kernel) rfl
theorem p_23 : Cond.selects "NameScopeModel" ⟨"NameScopeModel", "isOneTerm", "()Z"⟩ ⟨"NameScopeModel", "isOneTerm", "()Z"⟩ ∈ gTB := gm 23 (by decide +kernel) rfl
theorem p_24 : Cond.selects "NameScopeModel" ⟨"NameScopeModel", "measure", "(Z)V"⟩ ⟨"NameScopeModel", "measure", "(Z)V"⟩ ∈ gTB := gm 24 (by decide +kernel) rfl
theorem p_25 : Cond.selects "NameScopeModel" ⟨"NameScopeModel", "kindOf", "(ZI)I"⟩ ⟨"NameScopeModel", "kindOf", "(ZI)I"⟩ ∈ gTB := gm 25 (by decide +kernel) rfl
theorem p_26 : Cond.selects "NameScopeModel" ⟨"NameScopeModel", "meaningOf", "(I)I"⟩ ⟨"NameScopeModel", "meaningOf", "(I)I"⟩ ∈ gTB := gm 26 (by decide +kernel) rfl
theorem p_27 : Cond.selects "NameScopeModel" ⟨"NameScopeModel", "lastOf", "(I)I"⟩ ⟨"NameScopeModel", "lastOf", "(I)I"⟩ ∈ gTB := gm 27 (by decide +kernel) rfl
theorem p_28 : Cond.selects "NameScopeModel" ⟨"NameScopeModel", "become", "()V"⟩ ⟨"NameScopeModel", "become", "()V"⟩ ∈ gTB := gm 28 (by decide +kernel) rfl
theorem p_29 : Cond.selects "NameScopeModel" ⟨"NameScopeModel", "under", "(II)I"⟩ ⟨"NameScopeModel", "under", "(II)I"⟩ ∈ gTB := gm 29 (by decide +kernel) rfl
theorem p_30 : Cond.selects "NameScopeModel" ⟨"NameScopeModel", "draft", "(IJ)V"⟩ ⟨"NameScopeModel", "draft", "(IJ)V"⟩ ∈ gTB := gm 30 (by decide +kernel) rfl
theorem p_31 : Cond.selects "NameScopeModel" ⟨"NameScopeModel", "findBinders", "()V"⟩ ⟨"NameScopeModel", "findBinders", "()V"⟩ ∈ gTB := gm 31 (by decide +kernel) rfl
theorem p_32 : Cond.selects "NameScopeModel" ⟨"NameScopeModel", "catches", "(IJ)Z"⟩ ⟨"NameScopeModel", "catches", "(IJ)Z"⟩ ∈ gTB := gm 32 (by decide +kernel) rfl
end
section
def R_GL : String := "NameScope$Globals"
def T_GL : u_T := fun k => match k with
  | 0 => ("NameScope$Globals", "names", "[J", true)
  | _ => ("NameScope$Globals", "count", "I", false)
def t_GL : Nat → FieldType := fun k => match k with
  | 0 => .array .long
  | _ => .int
def R_PN : String := "NameScope$Pen"
def T_PN : u_T := fun k => match k with
  | 0 => ("NameScope$Pen", "globals", "LNameScope$Globals;", true)
  | 1 => ("NameScope$Pen", "scopes", "LNameScope$Scopes;", true)
  | 2 => ("NameScope$Pen", "next", "[I", false)
  | 3 => ("NameScope$Pen", "latest", "[I", false)
  | 4 => ("NameScope$Pen", "near", "[J", false)
  | 5 => ("NameScope$Pen", "taken", "[Z", false)
  | _ => ("NameScope$Pen", "nearCount", "I", false)
def t_PN : Nat → FieldType := fun k => match k with
  | 0 => .object "NameScope$Globals"
  | 1 => .object "NameScope$Scopes"
  | 2 => .array .int
  | 3 => .array .int
  | 4 => .array .long
  | 5 => .array .boolean
  | _ => .int
def R_RW : String := "NameScope$Row"
def T_RW : u_T := fun k => match k with
  | 0 => ("NameScope$Row", "kinds", "[I", false)
  | 1 => ("NameScope$Row", "besides", "[J", false)
  | 2 => ("NameScope$Row", "sizes", "[I", false)
  | _ => ("NameScope$Row", "count", "I", false)
def t_RW : Nat → FieldType := fun k => match k with
  | 0 => .array .int
  | 1 => .array .long
  | 2 => .array .int
  | _ => .int
def R_SC : String := "NameScope$Scopes"
def T_SC : u_T := fun k => match k with
  | 0 => ("NameScope$Scopes", "count", "I", false)
  | 1 => ("NameScope$Scopes", "innermost", "[I", false)
  | 2 => ("NameScope$Scopes", "depths", "[I", false)
  | _ => ("NameScope$Scopes", "open", "[I", false)
def t_SC : Nat → FieldType := fun k => match k with
  | 0 => .int
  | 1 => .array .int
  | 2 => .array .int
  | _ => .array .int
def R_NS : String := "NameScope"
def T_NS : u_T := fun k => match k with
  | 0 => ("NameScope", "globals", "LNameScope$Globals;", true)
  | 1 => ("NameScope", "kept", "LNameScope$Row;", true)
  | 2 => ("NameScope", "paper", "LNameScope$Row;", true)
  | 3 => ("NameScope", "laid", "LNameScope$Row;", true)
  | 4 => ("NameScope", "scopes", "LNameScope$Scopes;", true)
  | 5 => ("NameScope", "pen", "LNameScope$Pen;", true)
  | 6 => ("NameScope", "term", "LNameScope$Row;", false)
  | _ => ("NameScope", "spare", "LNameScope$Row;", false)
def t_NS : Nat → FieldType := fun k => match k with
  | 0 => .object "NameScope$Globals"
  | 1 => .object "NameScope$Row"
  | 2 => .object "NameScope$Row"
  | 3 => .object "NameScope$Row"
  | 4 => .object "NameScope$Scopes"
  | 5 => .object "NameScope$Pen"
  | 6 => .object "NameScope$Row"
  | _ => .object "NameScope$Row"
def R_MD : String := "NameScopeModel"
def T_MD : u_T := fun k => match k with
  | 0 => ("NameScopeModel", "globals", "[J", true)
  | 1 => ("NameScopeModel", "globalCount", "I", false)
  | 2 => ("NameScopeModel", "laidKind", "[I", true)
  | 3 => ("NameScopeModel", "laidBeside", "[J", true)
  | 4 => ("NameScopeModel", "laid", "I", false)
  | 5 => ("NameScopeModel", "kind", "[I", true)
  | 6 => ("NameScopeModel", "beside", "[J", true)
  | 7 => ("NameScopeModel", "count", "I", false)
  | 8 => ("NameScopeModel", "keptKind", "[I", true)
  | 9 => ("NameScopeModel", "keptBeside", "[J", true)
  | 10 => ("NameScopeModel", "kept", "I", false)
  | 11 => ("NameScopeModel", "saidKind", "[I", true)
  | 12 => ("NameScopeModel", "saidBeside", "[J", true)
  | 13 => ("NameScopeModel", "said", "I", false)
  | 14 => ("NameScopeModel", "draftKind", "[I", true)
  | 15 => ("NameScopeModel", "draftBeside", "[J", true)
  | 16 => ("NameScopeModel", "drafts", "I", false)
  | 17 => ("NameScopeModel", "sizes", "[I", true)
  | 18 => ("NameScopeModel", "whole", "[I", true)
  | 19 => ("NameScopeModel", "binderOf", "[I", true)
  | 20 => ("NameScopeModel", "meant", "Z", false)
  | _ => ("NameScopeModel", "meaning", "J", false)
def t_MD : Nat → FieldType := fun k => match k with
  | 0 => .array .long
  | 1 => .int
  | 2 => .array .int
  | 3 => .array .long
  | 4 => .int
  | 5 => .array .int
  | 6 => .array .long
  | 7 => .int
  | 8 => .array .int
  | 9 => .array .long
  | 10 => .int
  | 11 => .array .int
  | 12 => .array .long
  | 13 => .int
  | 14 => .array .int
  | 15 => .array .long
  | 16 => .int
  | 17 => .array .int
  | 18 => .array .int
  | 19 => .array .int
  | 20 => .boolean
  | _ => .long
def vwCl : List vw_C := [(R_GL, T_GL, 2), (R_PN, T_PN, 7), (R_RW, T_RW, 4), (R_SC, T_SC, 4), (R_NS, T_NS, 8), (R_MD, T_MD, 22)]
theorem in_GL : ∀ w ∈ u_ws R_GL T_GL 2, w ∈ gTB := by decide +kernel
theorem in_PN : ∀ w ∈ u_ws R_PN T_PN 7, w ∈ gTB := by decide +kernel
theorem in_RW : ∀ w ∈ u_ws R_RW T_RW 4, w ∈ gTB := by decide +kernel
theorem in_SC : ∀ w ∈ u_ws R_SC T_SC 4, w ∈ gTB := by decide +kernel
theorem in_NS : ∀ w ∈ u_ws R_NS T_NS 8, w ∈ gTB := by decide +kernel
theorem in_MD : ∀ w ∈ u_ws R_MD T_MD 22, w ∈ gTB := by decide +kernel
end
section
-- LAYER: numbers by integers; one judgement gW over the kit's W, with the machine's fixed things in one tuple
def iI (a : Int) : Int32 := Int32.ofInt a
def lI (a : Int) : Int64 := Int64.ofInt a
abbrev gin (a : Int) : Prop := -2147483648 ≤ a ∧ a < 2147483648
abbrev gil (a : Int) : Prop := -9223372036854775808 ≤ a ∧ a < 9223372036854775808
theorem iI_t {a : Int} (h : gin a) : (iI a).toInt = a := Int32.toInt_ofInt_of_le (by have := h.1; omega) (by have := h.2; omega)
theorem lI_t {a : Int} (h : gil a) : (lI a).toInt = a := Int64.toInt_ofInt_of_le (by have := h.1; omega) (by have := h.2; omega)
theorem iI_of (x : Int32) : ∃ a : Int, gin a ∧ x = iI a := ⟨x.toInt, ⟨by have := x.le_toInt; omega, by have := x.toInt_lt; omega⟩, (Int32.ofInt_toInt x).symm⟩
theorem lI_of (x : Int64) : ∃ a : Int, gil a ∧ x = lI a := ⟨x.toInt, ⟨by have := x.le_toInt; omega, by have := x.toInt_lt; omega⟩, (Int64.ofInt_toInt x).symm⟩
theorem iI_add (a b : Int) : iI a + iI b = iI (a + b) := (Int32.ofInt_add a b).symm
theorem iI_sub (a b : Int) : iI a - iI b = iI (a - b) := (Int32.ofInt_sub a b).symm
theorem iI_mul (a b : Int) : iI a * iI b = iI (a * b) := (Int32.ofInt_mul a b).symm
theorem lI_add (a b : Int) : lI a + lI b = lI (a + b) := (Int64.ofInt_add a b).symm
theorem lI_sub (a b : Int) : lI a - lI b = lI (a - b) := (Int64.ofInt_sub a b).symm
theorem lI_mul (a b : Int) : lI a * lI b = lI (a * b) := (Int64.ofInt_mul a b).symm
theorem iI_lt {a b : Int} (ha : gin a) (hb : gin b) : iI a < iI b ↔ a < b := by rw [Int32.lt_iff_toInt_lt, iI_t ha, iI_t hb]
theorem iI_le {a b : Int} (ha : gin a) (hb : gin b) : iI a ≤ iI b ↔ a ≤ b := by rw [Int32.le_iff_toInt_le, iI_t ha, iI_t hb]
theorem iI_eq {a b : Int} (ha : gin a) (hb : gin b) : iI a = iI b ↔ a = b := by rw [← Int32.toInt_inj, iI_t ha, iI_t hb]
theorem lI_lt {a b : Int} (ha : gil a) (hb : gil b) : lI a < lI b ↔ a < b := by rw [Int64.lt_iff_toInt_lt, lI_t ha, lI_t hb]
theorem lI_le {a b : Int} (ha : gil a) (hb : gil b) : lI a ≤ lI b ↔ a ≤ b := by rw [Int64.le_iff_toInt_le, lI_t ha, lI_t hb]
theorem lI_eq {a b : Int} (ha : gil a) (hb : gil b) : lI a = lI b ↔ a = b := by rw [← Int64.toInt_inj, lI_t ha, lI_t hb]
theorem iI_l {a : Int} (h : gin a) : (iI a).toInt64 = lI a := by
  rw [← Int64.toInt_inj, Int32.toInt_toInt64, iI_t h, lI_t ⟨by have := h.1; omega, by have := h.2; omega⟩]
theorem lI_i (a : Int) : (lI a).toInt32 = iI a := Int64.toInt32_ofInt
theorem iI_cl {a : Int} (h0 : 0 ≤ a) (h1 : a < 2147483648) : (iI a).toNatClampNeg = a.toNat := by
  rw [← Int32.toNat_toInt, iI_t ⟨by omega, h1⟩]
theorem iI_in {a : Int} {n : Nat} (h0 : 0 ≤ a) (h1 : a < 2147483648) (h : a < n) : vp_in (iI a) n := by
  intro q
  rcases q with q | q
  · rw [show (0 : Int32) = iI 0 from rfl, iI_lt ⟨by omega, h1⟩ ⟨by decide, by decide⟩] at q; omega
  · rw [iI_cl h0 h1] at q; omega
theorem iI_nn {a : Int} (h0 : 0 ≤ a) (h1 : a < 2147483648) : ¬ iI a < 0 := by
  rw [show (0 : Int32) = iI 0 from rfl, iI_lt ⟨by omega, h1⟩ ⟨by decide, by decide⟩]; omega
theorem iI_0 : iI 0 = 0 := rfl
theorem lI_0 : lI 0 = 0 := rfl
theorem iI_nat (n : Nat) : Int32.ofNat n = iI n := (Int32.ofInt_eq_ofNat).symm
/-- a function changed at one place -/
def uZ {α : Type} (f : Nat → α) (k : Nat) (x : α) : Nat → α := fun j => if j = k then x else f j
theorem uZ_s {α : Type} {f : Nat → α} {k : Nat} {x : α} : uZ f k x k = x := if_pos rfl
theorem uZ_n {α : Type} {f : Nat → α} {k j : Nat} {x : α} (h : j ≠ k) : uZ f k x j = f j := if_neg h
theorem uZ_i (f : Nat → Int) (k : Nat) (x : Int) : upd (fun j => iI (f j)) k (iI x) = fun j => iI (uZ f k x j) := by
  funext j; unfold upd uZ; split <;> rfl
theorem uZ_l (f : Nat → Int) (k : Nat) (x : Int) : vp_updL (fun j => lI (f j)) k (lI x) = fun j => lI (uZ f k x j) := by
  funext j; unfold vp_updL uZ; split <;> rfl
/-- what the heap has grown by: cells and slots; the old cells keep their sizes -/
def gSum (n : Nat) (H : Heap) : Nat := ((H.toList.drop n).map (fun c : Cell => c.slots.size)).sum
def gGrow (H0 H1 : Heap) (dc ds : Nat) : Prop := H0.size ≤ H1.size ∧ H1.size ≤ H0.size + dc ∧ gSum H0.size H1 ≤ ds ∧ ∀ (a : Nat) (c : Cell), H0[a]? = some c → ∃ c' : Cell, H1[a]? = some c' ∧ c'.slots.size = c.slots.size
theorem gGrow.szs {H0 H1 : Heap} {a b : Nat} (h : gGrow H0 H1 a b) : ((H1.toList.map (fun c : Cell => c.slots.size)).take H0.size) = H0.toList.map (fun c : Cell => c.slots.size) := by
  apply List.ext_getElem?
  intro i
  rw [List.getElem?_take]
  by_cases hi : i < H0.size
  · rw [if_pos hi, List.getElem?_map, List.getElem?_map]
    have h0 : H0[i]? = some H0[i] := Array.getElem?_eq_getElem hi
    obtain ⟨c', h1, h2⟩ := h.2.2.2 i _ h0
    rw [← Array.getElem?_toList] at h0 h1
    rw [h0, h1]
    simp [h2]
  · rw [if_neg hi, eq_comm, List.getElem?_eq_none_iff]
    simp; omega
theorem gGrow.trans {H0 H1 H2 : Heap} {a b c d : Nat} (h : gGrow H0 H1 a b) (k : gGrow H1 H2 c d) : gGrow H0 H2 (a + c) (b + d) := by
  refine ⟨Nat.le_trans h.1 k.1, by have := h.2.1; have := k.2.1; omega, ?_, fun x y hx => ?_⟩
  · have e : gSum H0.size H2 = gSum H0.size H1 + gSum H1.size H2 := by
      unfold gSum
      rw [List.map_drop, List.map_drop, List.map_drop]
      have q := k.szs
      have q1 : H0.size ≤ (H1.toList.map (fun c : Cell => c.slots.size)).length := by simpa using h.1
      generalize H2.toList.map (fun c : Cell => c.slots.size) = M2 at q ⊢
      generalize H1.toList.map (fun c : Cell => c.slots.size) = M1 at q q1 ⊢
      have q2 : M2 = M1 ++ M2.drop H1.size := by rw [← q]; exact (List.take_append_drop _ _).symm
      have q3 : M2.drop H0.size = M1.drop H0.size ++ M2.drop H1.size := by
        conv => lhs; rw [q2]
        rw [List.drop_append_of_le_length q1]
      rw [q3, List.sum_append]
    rw [e]
    have := h.2.2.1; have := k.2.2.1; omega
  · obtain ⟨c1, q1, q2⟩ := h.2.2.2 x y hx
    obtain ⟨c2, q3, q4⟩ := k.2.2.2 x c1 q1
    exact ⟨c2, q3, q4.trans q2⟩
theorem gGrow.wide {H0 H1 : Heap} {a b c d : Nat} (h : gGrow H0 H1 a b) (h1 : a ≤ c) (h2 : b ≤ d) : gGrow H0 H1 c d := ⟨h.1, by have := h.2.1; omega, by have := h.2.2.1; omega, h.2.2.2⟩
section GS
variable {p : Program} {l : Launch} {e : Env} {R : Room} {s : State} {m : MethodId} {args : Array Value} {below : List Frame} {meth : Method} {c : Code} {T : State} {locs : List Loc} {cells slots : Nat}
theorem gGrow.of (X : Stand p l e R s m args below meth c T locs cells slots) : gGrow s.heap T.heap cells slots := by
  obtain ⟨h1, h2, h3, h4, h5, h6⟩ := X.same
  refine ⟨h2, h3, h5, fun a c hc => ?_⟩
  obtain ⟨c', q1, q2, q3, -⟩ := h6 a c hc
  exact ⟨c', q1, q3⟩
theorem gTight {k n : Nat} (X : Stand p l e R s m args below meth c T locs cells slots) (h : gGrow s.heap T.heap k n) : Stand p l e R s m args below meth c T locs k n := by
  obtain ⟨h1, h2, h3, h4, h5, h6⟩ := X.same
  exact { X with same := ⟨h1, h2, h.2.1, h4, h.2.2.1, h6⟩ }
end GS
end
section
abbrev gE : Type := va_G × ClassId × ClassId × ClassId
abbrev gtys (E : gE) : List (ClassId × FieldType) := [(E.2.1, .int), (E.2.2.1, .long), (E.2.2.2, .boolean)]
abbrev gC : Type := Program × Launch × Env × Room × State × MethodId × Array Value × List Frame × Method × Code × (Nat → Prop) × Nat × (State → Prop) × gE
def gW : gC → va_W → Nat → Nat → Nat → List (Nat × Value) → List Value → Prop
  | (p, l, e, R, s, m, args, below, meth, c, A, nL, Q, E), ws, cells, slots, pc, lv, st => ∀ (H : Heap) (locs : List Loc) (ls : Array Slot), va_P E.1 vwCl ws H → va_D A ws → va_S A s.heap H locs → lv_has ls nL lv → W p l e R s m args below meth c H locs cells slots Q (F0 m pc ls st)
def gOK : gC → ByteArray → String → Launch → gE → Room → Nat → Prop
  | (p, l', e, R, s, m, args, below, meth, c, A, nL', Q, E'), cc, own, l, E, rm, nL => l' = l ∧ E' = E ∧ R = rm ∧ nL' = nL ∧ p.tables.exec = Jvm.exec ∧ c.code = cc ∧ c.maxLocals = nL ∧ s.vm.findClass own = some m.cls ∧ (∀ w ∈ gTB, w.before args s = true) ∧ va_K E.1 vwCl (gtys E) s ∧ (∀ w ∈ gNW, va_Nw w s) ∧ ∀ q, s.heap.size ≤ q → A q
/-- locals -/
def gLong : Value → Bool
  | .long _ => true
  | .double _ => true
  | _ => false
theorem gLong_cat (v : Value) : gLong v = (v.category == 2) := by cases v <;> rfl
def gGet : List (Nat × Value) → Nat → Option Value
  | [], _ => none
  | (j, v) :: r, i => cond (Nat.beq j i) (some v) (gGet r i)
theorem gGet_mem : ∀ {lv : List (Nat × Value)} {i : Nat} {v : Value}, gGet lv i = some v → (i, v) ∈ lv
  | [], _, _, h => by cases h
  | (j, u) :: r, i, v, h => by
    unfold gGet at h
    cases hb : Nat.beq j i with
    | true =>
      rw [hb] at h
      have e := Nat.eq_of_beq_eq_true hb
      subst e
      cases h
      exact List.mem_cons_self
    | false =>
      rw [hb] at h
      exact List.mem_cons_of_mem _ (gGet_mem h)
theorem gGet_at {ls : Array Slot} {n : Nat} {lv : List (Nat × Value)} {i : Nat} {v : Value} (h : lv_has ls n lv) (hg : gGet lv i = some v) : ls[i]? = some (.val v) := h.2.2 (i, v) (gGet_mem hg)
theorem gbq (a b : Nat) : (a == b) = Nat.beq a b := by
  cases h : Nat.beq a b with
  | true =>
    have e := Nat.eq_of_beq_eq_true h
    subst e
    simp
  | false =>
    have e := Nat.ne_of_beq_eq_false h
    simpa using e
def gDel : List (Nat × Value) → Nat → List (Nat × Value)
  | [], _ => []
  | (j, v) :: r, i => cond (Nat.beq j i) (gDel r i) (cond (Nat.beq (j + 1) i && gLong v) (gDel r i) ((j, v) :: gDel r i))
theorem gDel_mem : ∀ {lv : List (Nat × Value)} {i : Nat} {q : Nat × Value}, q ∈ gDel lv i → q ∈ lv.filter (fun q => !(q.1 == i) && !(q.1 + 1 == i && q.2.category == 2))
  | [], _, _, h => by cases h
  | (j, u) :: r, i, q, h => by
    unfold gDel at h
    rw [List.mem_filter]
    cases hb : Nat.beq j i with
    | true =>
      rw [hb] at h
      have := List.mem_filter.mp (gDel_mem h)
      exact ⟨List.mem_cons_of_mem _ this.1, this.2⟩
    | false =>
      rw [hb] at h
      cases hc : (Nat.beq (j + 1) i && gLong u) with
      | true =>
        rw [hc] at h
        have := List.mem_filter.mp (gDel_mem h)
        exact ⟨List.mem_cons_of_mem _ this.1, this.2⟩
      | false =>
        rw [hc] at h
        rcases List.mem_cons.mp h with h | h
        · subst h
          refine ⟨List.mem_cons_self, ?_⟩
          have e1 : (j == i) = false := (gbq j i).trans hb
          rw [gLong_cat] at hc
          have e2 : ((j + 1 == i) && (u.category == 2)) = false := by rw [gbq]; exact hc
          show (!(j == i) && !((j + 1 == i) && (u.category == 2))) = true
          rw [e1, e2]; rfl
        · have := List.mem_filter.mp (gDel_mem h)
          exact ⟨List.mem_cons_of_mem _ this.1, this.2⟩
def gDel2 (lv : List (Nat × Value)) (i : Nat) : List (Nat × Value) := gDel (gDel lv (i + 1)) i
theorem lv_less {ls : Array Slot} {n : Nat} {l l' : List (Nat × Value)} (h : lv_has ls n l) (hs : ∀ q ∈ l', q ∈ l) : lv_has ls n l' := ⟨h.1, h.2.1, fun q hq => h.2.2 q (hs q hq)⟩
theorem gSt1 {ls : Array Slot} {n i : Nat} {lv : List (Nat × Value)} {v : Value} (h : lv_has ls n ((i, v) :: lv.filter (fun q => !(q.1 == i) && !(q.1 + 1 == i && q.2.category == 2)))) : lv_has ls n ((i, v) :: gDel lv i) := by
  refine lv_less h fun q hq => ?_
  rcases List.mem_cons.mp hq with hq | hq
  · exact hq ▸ List.mem_cons_self
  · exact List.mem_cons_of_mem _ (gDel_mem hq)
theorem gSt2 {ls : Array Slot} {n i : Nat} {lv : List (Nat × Value)} {v : Value} (h : lv_has ls n ((i, v) :: lv.filter (fun q => !(q.1 == i) && (!(q.1 == i + 1) && !(q.1 + 1 == i && q.2.category == 2))))) : lv_has ls n ((i, v) :: gDel2 lv i) := by
  refine lv_less h fun q hq => ?_
  rcases List.mem_cons.mp hq with hq | hq
  · exact hq ▸ List.mem_cons_self
  · have h1 := List.mem_filter.mp (gDel_mem hq)
    have h2 := List.mem_filter.mp (gDel_mem h1.1)
    refine List.mem_cons_of_mem _ (List.mem_filter.mpr ⟨h2.1, ?_⟩)
    have a1 := h1.2
    have a2 := h2.2
    simp only [Bool.and_eq_true] at a1 a2 ⊢
    exact ⟨a1.1, a2.1, a1.2⟩
def gSub (lv : List (Nat × Value)) : List (Nat × Value) → Prop
  | [] => True
  | (i, v) :: r => gGet lv i = some v ∧ gSub lv r
theorem gSub_mem {lv : List (Nat × Value)} : ∀ {l : List (Nat × Value)}, gSub lv l → ∀ q ∈ l, q ∈ lv
  | [], _, _, h => by cases h
  | (i, v) :: r, h, q, hq => by
    rcases List.mem_cons.mp hq with hq | hq
    · subst hq; exact gGet_mem h.1
    · exact gSub_mem h.2 q hq
section GG
variable {X : gC} {cc : ByteArray} {own : String} {l : Launch} {E : gE} {rm : Room} {nL : Nat} {ws : va_W} {cells slots pc : Nat} {lv : List (Nat × Value)} {st : List Value}
theorem g_lv (lv' : List (Nat × Value)) (h : gSub lv lv') (kk : gW X ws cells slots pc lv' st) : gW X ws cells slots pc lv st := by
  obtain ⟨p, l, e, R, s, m, args, below, meth, c, A, nL, Q, E⟩ := X
  intro H locs ls hP hD hS hl
  exact kk H locs ls hP hD hS (lv_less hl (gSub_mem h))
theorem g_wide {k n : Nat} (h1 : cells ≤ k) (h2 : slots ≤ n) (kk : gW X ws k n pc lv st) : gW X ws cells slots pc lv st := by
  obtain ⟨p, l, e, R, s, m, args, below, meth, c, A, nL, Q, E⟩ := X
  intro H locs ls hP hD hS hl
  exact W.widen h1 h2 (kk H locs ls hP hD hS hl)
theorem g_sub (ws' : va_W) (is : List Nat) (hn : va_nd is = true) (hs : is.map (fun i => ws[i]?) = ws'.map some) (kk : gW X ws' cells slots pc lv st) : gW X ws cells slots pc lv st := by
  obtain ⟨p, l, e, R, s, m, args, below, meth, c, A, nL, Q, E⟩ := X
  intro H locs ls hP hD hS hl
  refine kk H locs ls (hP.sub is ?_) (hD.sub is hn hs) hS hl
  have : ∀ (is : List Nat) (w : va_W), is.map (fun i => ws[i]?) = w.map some → is.filterMap (fun i => ws[i]?) = w := by
    intro is
    induction is with
    | nil => intro w h; cases w with | nil => rfl | cons a b => cases h
    | cons i is ih =>
      intro w h
      cases w with
      | nil => cases h
      | cons a b =>
        simp only [List.map_cons, List.cons.injEq] at h
        rw [List.filterMap_cons, h.1, ih b h.2]
  exact this is ws' hs

theorem g_iconst (hX : gOK X cc own l E rm nL) {n : Int} (hdg : decode cc pc = .ok (.iconst n, 1))  (kk : gW X ws cells slots (pc + 1) lv (.int (iI n) :: st)) : gW X ws cells slots pc lv (st) := by
  obtain ⟨p, l', e, R, s, m, args, below, meth, c, A, nL', Q, E'⟩ := X
  obtain ⟨rfl, rfl, rfl, rfl, hx, hbb, hml, hown, hts, hK, hN, hA⟩ := hX
  intro H locs ls hP hD hS hl
  exact lv_iconst hx hbb hdg rfl (kk H locs ls hP hD hS hl)

theorem g_bipush (hX : gOK X cc own l E rm nL) {n : Int} (v : Int) (hdg : decode cc pc = .ok (.bipush n, 2)) (hv : (Int8.ofInt n).toInt32 = iI v) (kk : gW X ws cells slots (pc + 2) lv (.int (iI v) :: st)) : gW X ws cells slots pc lv (st) := by
  obtain ⟨p, l', e, R, s, m, args, below, meth, c, A, nL', Q, E'⟩ := X
  obtain ⟨rfl, rfl, rfl, rfl, hx, hbb, hml, hown, hts, hK, hN, hA⟩ := hX
  intro H locs ls hP hD hS hl
  exact lv_bipush hx hbb hdg hv (kk H locs ls hP hD hS hl)

theorem g_sipush (hX : gOK X cc own l E rm nL) {n : Int} (v : Int) (hdg : decode cc pc = .ok (.sipush n, 3)) (hv : (Int16.ofInt n).toInt32 = iI v) (kk : gW X ws cells slots (pc + 3) lv (.int (iI v) :: st)) : gW X ws cells slots pc lv (st) := by
  obtain ⟨p, l', e, R, s, m, args, below, meth, c, A, nL', Q, E'⟩ := X
  obtain ⟨rfl, rfl, rfl, rfl, hx, hbb, hml, hown, hts, hK, hN, hA⟩ := hX
  intro H locs ls hP hD hS hl
  exact lv_sipush hx hbb hdg hv (kk H locs ls hP hD hS hl)

theorem g_lconst (hX : gOK X cc own l E rm nL) {n : Fin 2} (v : Int) (hdg : decode cc pc = .ok (.lconst n, 1)) (hv : Int64.ofNat (n : Nat) = lI v) (kk : gW X ws cells slots (pc + 1) lv (.long (lI v) :: st)) : gW X ws cells slots pc lv (st) := by
  obtain ⟨p, l', e, R, s, m, args, below, meth, c, A, nL', Q, E'⟩ := X
  obtain ⟨rfl, rfl, rfl, rfl, hx, hbb, hml, hown, hts, hK, hN, hA⟩ := hX
  intro H locs ls hP hD hS hl
  exact lv_lconst hx hbb hdg hv (kk H locs ls hP hD hS hl)

theorem g_iload_n (hX : gOK X cc own l E rm nL) (i : Nat) {k : Fin 4} {x : Int32} (hdg : decode cc pc = .ok (.iload_n k, 1)) (hi : (k : Nat) = i) (hg : gGet lv i = some (.int x)) (kk : gW X ws cells slots (pc + 1) lv (.int x :: st)) : gW X ws cells slots pc lv (st) := by
  obtain ⟨p, l', e, R, s, m, args, below, meth, c, A, nL', Q, E'⟩ := X
  obtain ⟨rfl, rfl, rfl, rfl, hx, hbb, hml, hown, hts, hK, hN, hA⟩ := hX
  intro H locs ls hP hD hS hl
  exact lv_iload_n hx hbb hdg hi (gGet_at hl hg) (kk H locs ls hP hD hS hl)

theorem g_iload (hX : gOK X cc own l E rm nL) {i : Nat} {x : Int32} (hdg : decode cc pc = .ok (.iload i, 2)) (hg : gGet lv i = some (.int x)) (kk : gW X ws cells slots (pc + 2) lv (.int x :: st)) : gW X ws cells slots pc lv (st) := by
  obtain ⟨p, l', e, R, s, m, args, below, meth, c, A, nL', Q, E'⟩ := X
  obtain ⟨rfl, rfl, rfl, rfl, hx, hbb, hml, hown, hts, hK, hN, hA⟩ := hX
  intro H locs ls hP hD hS hl
  exact lv_iload hx hbb hdg (gGet_at hl hg) (kk H locs ls hP hD hS hl)

theorem g_istore_n (hX : gOK X cc own l E rm nL) (i : Nat) {k : Fin 4} {x : Int32} (hdg : decode cc pc = .ok (.istore_n k, 1)) (hi : (k : Nat) = i) (hlt : i < nL) (kk : gW X ws cells slots (pc + 1) ((i, .int x) :: gDel lv i) st) : gW X ws cells slots pc lv (.int x :: st) := by
  obtain ⟨p, l', e, R, s, m, args, below, meth, c, A, nL', Q, E'⟩ := X
  obtain ⟨rfl, rfl, rfl, rfl, hx, hbb, hml, hown, hts, hK, hN, hA⟩ := hX
  intro H locs ls hP hD hS hl
  exact lv_istore_n hx hbb hdg hi hl hlt rfl (fun ls' hl' => kk H locs ls' hP hD hS (gSt1 hl'))
theorem g_istore (hX : gOK X cc own l E rm nL) {i : Nat} {x : Int32} (hdg : decode cc pc = .ok (.istore i, 2)) (hlt : i < nL) (kk : gW X ws cells slots (pc + 2) ((i, .int x) :: gDel lv i) st) : gW X ws cells slots pc lv (.int x :: st) := by
  obtain ⟨p, l', e, R, s, m, args, below, meth, c, A, nL', Q, E'⟩ := X
  obtain ⟨rfl, rfl, rfl, rfl, hx, hbb, hml, hown, hts, hK, hN, hA⟩ := hX
  intro H locs ls hP hD hS hl
  exact lv_istore hx hbb hdg hl hlt rfl (fun ls' hl' => kk H locs ls' hP hD hS (gSt1 hl'))

theorem g_lload_n (hX : gOK X cc own l E rm nL) (i : Nat) {k : Fin 4} {x : Int64} (hdg : decode cc pc = .ok (.lload_n k, 1)) (hi : (k : Nat) = i) (hg : gGet lv i = some (.long x)) (kk : gW X ws cells slots (pc + 1) lv (.long x :: st)) : gW X ws cells slots pc lv (st) := by
  obtain ⟨p, l', e, R, s, m, args, below, meth, c, A, nL', Q, E'⟩ := X
  obtain ⟨rfl, rfl, rfl, rfl, hx, hbb, hml, hown, hts, hK, hN, hA⟩ := hX
  intro H locs ls hP hD hS hl
  exact lv_lload_n hx hbb hdg hi (gGet_at hl hg) (kk H locs ls hP hD hS hl)

theorem g_lload (hX : gOK X cc own l E rm nL) {i : Nat} {x : Int64} (hdg : decode cc pc = .ok (.lload i, 2)) (hg : gGet lv i = some (.long x)) (kk : gW X ws cells slots (pc + 2) lv (.long x :: st)) : gW X ws cells slots pc lv (st) := by
  obtain ⟨p, l', e, R, s, m, args, below, meth, c, A, nL', Q, E'⟩ := X
  obtain ⟨rfl, rfl, rfl, rfl, hx, hbb, hml, hown, hts, hK, hN, hA⟩ := hX
  intro H locs ls hP hD hS hl
  exact lv_lload hx hbb hdg (gGet_at hl hg) (kk H locs ls hP hD hS hl)

theorem g_lstore_n (hX : gOK X cc own l E rm nL) (i : Nat) {k : Fin 4} {x : Int64} (hdg : decode cc pc = .ok (.lstore_n k, 1)) (hi : (k : Nat) = i) (hlt : i + 1 < nL) (kk : gW X ws cells slots (pc + 1) ((i, .long x) :: gDel2 lv i) st) : gW X ws cells slots pc lv (.long x :: st) := by
  obtain ⟨p, l', e, R, s, m, args, below, meth, c, A, nL', Q, E'⟩ := X
  obtain ⟨rfl, rfl, rfl, rfl, hx, hbb, hml, hown, hts, hK, hN, hA⟩ := hX
  intro H locs ls hP hD hS hl
  exact lv_lstore_n hx hbb hdg hi hl hlt rfl (fun ls' hl' => kk H locs ls' hP hD hS (gSt2 hl'))
theorem g_lstore (hX : gOK X cc own l E rm nL) {i : Nat} {x : Int64} (hdg : decode cc pc = .ok (.lstore i, 2)) (hlt : i + 1 < nL) (kk : gW X ws cells slots (pc + 2) ((i, .long x) :: gDel2 lv i) st) : gW X ws cells slots pc lv (.long x :: st) := by
  obtain ⟨p, l', e, R, s, m, args, below, meth, c, A, nL', Q, E'⟩ := X
  obtain ⟨rfl, rfl, rfl, rfl, hx, hbb, hml, hown, hts, hK, hN, hA⟩ := hX
  intro H locs ls hP hD hS hl
  exact lv_lstore hx hbb hdg hl hlt rfl (fun ls' hl' => kk H locs ls' hP hD hS (gSt2 hl'))

theorem g_aload_n (hX : gOK X cc own l E rm nL) (i : Nat) {k : Fin 4} {x : Nat} (hdg : decode cc pc = .ok (.aload_n k, 1)) (hi : (k : Nat) = i) (hg : gGet lv i = some (.ref x)) (kk : gW X ws cells slots (pc + 1) lv (.ref x :: st)) : gW X ws cells slots pc lv (st) := by
  obtain ⟨p, l', e, R, s, m, args, below, meth, c, A, nL', Q, E'⟩ := X
  obtain ⟨rfl, rfl, rfl, rfl, hx, hbb, hml, hown, hts, hK, hN, hA⟩ := hX
  intro H locs ls hP hD hS hl
  exact lv_aload_n hx hbb hdg hi (gGet_at hl hg) (kk H locs ls hP hD hS hl)

theorem g_aload (hX : gOK X cc own l E rm nL) {i : Nat} {x : Nat} (hdg : decode cc pc = .ok (.aload i, 2)) (hg : gGet lv i = some (.ref x)) (kk : gW X ws cells slots (pc + 2) lv (.ref x :: st)) : gW X ws cells slots pc lv (st) := by
  obtain ⟨p, l', e, R, s, m, args, below, meth, c, A, nL', Q, E'⟩ := X
  obtain ⟨rfl, rfl, rfl, rfl, hx, hbb, hml, hown, hts, hK, hN, hA⟩ := hX
  intro H locs ls hP hD hS hl
  exact lv_aload hx hbb hdg (gGet_at hl hg) (kk H locs ls hP hD hS hl)

theorem g_astore_n (hX : gOK X cc own l E rm nL) (i : Nat) {k : Fin 4} {x : Nat} (hdg : decode cc pc = .ok (.astore_n k, 1)) (hi : (k : Nat) = i) (hlt : i < nL) (kk : gW X ws cells slots (pc + 1) ((i, .ref x) :: gDel lv i) st) : gW X ws cells slots pc lv (.ref x :: st) := by
  obtain ⟨p, l', e, R, s, m, args, below, meth, c, A, nL', Q, E'⟩ := X
  obtain ⟨rfl, rfl, rfl, rfl, hx, hbb, hml, hown, hts, hK, hN, hA⟩ := hX
  intro H locs ls hP hD hS hl
  exact lv_astore_n hx hbb hdg hi hl hlt rfl (fun ls' hl' => kk H locs ls' hP hD hS (gSt1 hl'))
theorem g_astore (hX : gOK X cc own l E rm nL) {i : Nat} {x : Nat} (hdg : decode cc pc = .ok (.astore i, 2)) (hlt : i < nL) (kk : gW X ws cells slots (pc + 2) ((i, .ref x) :: gDel lv i) st) : gW X ws cells slots pc lv (.ref x :: st) := by
  obtain ⟨p, l', e, R, s, m, args, below, meth, c, A, nL', Q, E'⟩ := X
  obtain ⟨rfl, rfl, rfl, rfl, hx, hbb, hml, hown, hts, hK, hN, hA⟩ := hX
  intro H locs ls hP hD hS hl
  exact lv_astore hx hbb hdg hl hlt rfl (fun ls' hl' => kk H locs ls' hP hD hS (gSt1 hl'))

theorem g_iinc (hX : gOK X cc own l E rm nL) {i : Nat} {n a : Int} (hdg : decode cc pc = .ok (.iinc i n, 3)) (hlt : i < nL) (hg : gGet lv i = some (.int (iI a))) (kk : gW X ws cells slots (pc + 3) ((i, .int (iI (a + n))) :: gDel lv i) st) : gW X ws cells slots pc lv st := by
  obtain ⟨p, l', e, R, s, m, args, below, meth, c, A, nL', Q, E'⟩ := X
  obtain ⟨rfl, rfl, rfl, rfl, hx, hbb, hml, hown, hts, hK, hN, hA⟩ := hX
  intro H locs ls hP hD hS hl
  obtain ⟨k, hk⟩ := List.getElem?_of_mem (gGet_mem hg)
  exact lv_iinc hx hbb hdg hl hk (v := iI (a + n)) (iI_add a n) hlt rfl (fun ls' hl' => kk H locs ls' hP hD hS (gSt1 hl'))

theorem g_iadd (hX : gOK X cc own l E rm nL) {a b : Int} (hdg : decode cc pc = .ok (.iadd, 1))  (kk : gW X ws cells slots (pc + 1) lv (.int (iI (a + b)) :: st)) : gW X ws cells slots pc lv (.int (iI b) :: .int (iI a) :: st) := by
  obtain ⟨p, l', e, R, s, m, args, below, meth, c, A, nL', Q, E'⟩ := X
  obtain ⟨rfl, rfl, rfl, rfl, hx, hbb, hml, hown, hts, hK, hN, hA⟩ := hX
  intro H locs ls hP hD hS hl
  exact lv_iadd hx hbb hdg (by rw [iI_add]; exact (kk H locs ls hP hD hS hl))

theorem g_ladd (hX : gOK X cc own l E rm nL) {a b : Int} (hdg : decode cc pc = .ok (.ladd, 1))  (kk : gW X ws cells slots (pc + 1) lv (.long (lI (a + b)) :: st)) : gW X ws cells slots pc lv (.long (lI b) :: .long (lI a) :: st) := by
  obtain ⟨p, l', e, R, s, m, args, below, meth, c, A, nL', Q, E'⟩ := X
  obtain ⟨rfl, rfl, rfl, rfl, hx, hbb, hml, hown, hts, hK, hN, hA⟩ := hX
  intro H locs ls hP hD hS hl
  exact lv_ladd hx hbb hdg (by rw [lI_add]; exact (kk H locs ls hP hD hS hl))

theorem g_isub (hX : gOK X cc own l E rm nL) {a b : Int} (hdg : decode cc pc = .ok (.isub, 1))  (kk : gW X ws cells slots (pc + 1) lv (.int (iI (a - b)) :: st)) : gW X ws cells slots pc lv (.int (iI b) :: .int (iI a) :: st) := by
  obtain ⟨p, l', e, R, s, m, args, below, meth, c, A, nL', Q, E'⟩ := X
  obtain ⟨rfl, rfl, rfl, rfl, hx, hbb, hml, hown, hts, hK, hN, hA⟩ := hX
  intro H locs ls hP hD hS hl
  exact lv_isub hx hbb hdg (by rw [iI_sub]; exact (kk H locs ls hP hD hS hl))

theorem g_lsub (hX : gOK X cc own l E rm nL) {a b : Int} (hdg : decode cc pc = .ok (.lsub, 1))  (kk : gW X ws cells slots (pc + 1) lv (.long (lI (a - b)) :: st)) : gW X ws cells slots pc lv (.long (lI b) :: .long (lI a) :: st) := by
  obtain ⟨p, l', e, R, s, m, args, below, meth, c, A, nL', Q, E'⟩ := X
  obtain ⟨rfl, rfl, rfl, rfl, hx, hbb, hml, hown, hts, hK, hN, hA⟩ := hX
  intro H locs ls hP hD hS hl
  exact lv_lsub hx hbb hdg (by rw [lI_sub]; exact (kk H locs ls hP hD hS hl))

theorem g_imul (hX : gOK X cc own l E rm nL) {a b : Int} (hdg : decode cc pc = .ok (.imul, 1))  (kk : gW X ws cells slots (pc + 1) lv (.int (iI (a * b)) :: st)) : gW X ws cells slots pc lv (.int (iI b) :: .int (iI a) :: st) := by
  obtain ⟨p, l', e, R, s, m, args, below, meth, c, A, nL', Q, E'⟩ := X
  obtain ⟨rfl, rfl, rfl, rfl, hx, hbb, hml, hown, hts, hK, hN, hA⟩ := hX
  intro H locs ls hP hD hS hl
  exact lv_imul hx hbb hdg (by rw [iI_mul]; exact (kk H locs ls hP hD hS hl))

theorem g_lmul (hX : gOK X cc own l E rm nL) {a b : Int} (hdg : decode cc pc = .ok (.lmul, 1))  (kk : gW X ws cells slots (pc + 1) lv (.long (lI (a * b)) :: st)) : gW X ws cells slots pc lv (.long (lI b) :: .long (lI a) :: st) := by
  obtain ⟨p, l', e, R, s, m, args, below, meth, c, A, nL', Q, E'⟩ := X
  obtain ⟨rfl, rfl, rfl, rfl, hx, hbb, hml, hown, hts, hK, hN, hA⟩ := hX
  intro H locs ls hP hD hS hl
  exact lv_lmul hx hbb hdg (by rw [lI_mul]; exact (kk H locs ls hP hD hS hl))

theorem g_i2l (hX : gOK X cc own l E rm nL) {a : Int} (hdg : decode cc pc = .ok (.i2l, 1)) (ha : gin a) (kk : gW X ws cells slots (pc + 1) lv (.long (lI a) :: st)) : gW X ws cells slots pc lv (.int (iI a) :: st) := by
  obtain ⟨p, l', e, R, s, m, args, below, meth, c, A, nL', Q, E'⟩ := X
  obtain ⟨rfl, rfl, rfl, rfl, hx, hbb, hml, hown, hts, hK, hN, hA⟩ := hX
  intro H locs ls hP hD hS hl
  exact lv_i2l hx hbb hdg (iI_l ha) (kk H locs ls hP hD hS hl)

theorem g_l2i (hX : gOK X cc own l E rm nL) {a : Int} (hdg : decode cc pc = .ok (.l2i, 1))  (kk : gW X ws cells slots (pc + 1) lv (.int (iI a) :: st)) : gW X ws cells slots pc lv (.long (lI a) :: st) := by
  obtain ⟨p, l', e, R, s, m, args, below, meth, c, A, nL', Q, E'⟩ := X
  obtain ⟨rfl, rfl, rfl, rfl, hx, hbb, hml, hown, hts, hK, hN, hA⟩ := hX
  intro H locs ls hP hD hS hl
  exact lv_l2i hx hbb hdg (lI_i a) (kk H locs ls hP hD hS hl)

theorem g_dup (hX : gOK X cc own l E rm nL) {va : Value} (hdg : decode cc pc = .ok (.dup, 1)) (hva : va.category = 1) (kk : gW X ws cells slots (pc + 1) lv (va :: va :: st)) : gW X ws cells slots pc lv (va :: st) := by
  obtain ⟨p, l', e, R, s, m, args, below, meth, c, A, nL', Q, E'⟩ := X
  obtain ⟨rfl, rfl, rfl, rfl, hx, hbb, hml, hown, hts, hK, hN, hA⟩ := hX
  intro H locs ls hP hD hS hl
  exact lv_dup hx hbb hdg hva (kk H locs ls hP hD hS hl)

theorem g_dup_x1 (hX : gOK X cc own l E rm nL) {va vb : Value} (hdg : decode cc pc = .ok (.dup_x1, 1)) (hva : va.category = 1) (hvb : vb.category = 1) (kk : gW X ws cells slots (pc + 1) lv (va :: vb :: va :: st)) : gW X ws cells slots pc lv (va :: vb :: st) := by
  obtain ⟨p, l', e, R, s, m, args, below, meth, c, A, nL', Q, E'⟩ := X
  obtain ⟨rfl, rfl, rfl, rfl, hx, hbb, hml, hown, hts, hK, hN, hA⟩ := hX
  intro H locs ls hP hD hS hl
  exact lv_dup_x1 hx hbb hdg hva hvb (kk H locs ls hP hD hS hl)

theorem g_pop (hX : gOK X cc own l E rm nL) {va : Value} (hdg : decode cc pc = .ok (.pop, 1)) (hva : va.category = 1) (kk : gW X ws cells slots (pc + 1) lv (st)) : gW X ws cells slots pc lv (va :: st) := by
  obtain ⟨p, l', e, R, s, m, args, below, meth, c, A, nL', Q, E'⟩ := X
  obtain ⟨rfl, rfl, rfl, rfl, hx, hbb, hml, hown, hts, hK, hN, hA⟩ := hX
  intro H locs ls hP hD hS hl
  exact lv_pop hx hbb hdg hva (kk H locs ls hP hD hS hl)

theorem g_land (hX : gOK X cc own l E rm nL) {a b : Int} (r : Int) (hdg : decode cc pc = .ok (.land, 1)) (hv : lI a &&& lI b = lI r) (kk : gW X ws cells slots (pc + 1) lv (.long (lI r) :: st)) : gW X ws cells slots pc lv (.long (lI b) :: .long (lI a) :: st) := by
  obtain ⟨p, l', e, R, s, m, args, below, meth, c, A, nL', Q, E'⟩ := X
  obtain ⟨rfl, rfl, rfl, rfl, hx, hbb, hml, hown, hts, hK, hN, hA⟩ := hX
  intro H locs ls hP hD hS hl
  exact lv_land hx hbb hdg (by rw [hv]; exact (kk H locs ls hP hD hS hl))

theorem g_lor (hX : gOK X cc own l E rm nL) {a b : Int} (r : Int) (hdg : decode cc pc = .ok (.lor, 1)) (hv : lI a ||| lI b = lI r) (kk : gW X ws cells slots (pc + 1) lv (.long (lI r) :: st)) : gW X ws cells slots pc lv (.long (lI b) :: .long (lI a) :: st) := by
  obtain ⟨p, l', e, R, s, m, args, below, meth, c, A, nL', Q, E'⟩ := X
  obtain ⟨rfl, rfl, rfl, rfl, hx, hbb, hml, hown, hts, hK, hN, hA⟩ := hX
  intro H locs ls hP hD hS hl
  exact lv_lor hx hbb hdg (by rw [hv]; exact (kk H locs ls hP hD hS hl))

theorem g_lushr (hX : gOK X cc own l E rm nL) {a b : Int} (r : Int) (hdg : decode cc pc = .ok (.lushr, 1)) (hv : ((lI a).toUInt64 >>> ((iI b).toInt64.toUInt64 &&& Int64.toUInt64 63)).toInt64 = lI r) (kk : gW X ws cells slots (pc + 1) lv (.long (lI r) :: st)) : gW X ws cells slots pc lv (.int (iI b) :: .long (lI a) :: st) := by
  obtain ⟨p, l', e, R, s, m, args, below, meth, c, A, nL', Q, E'⟩ := X
  obtain ⟨rfl, rfl, rfl, rfl, hx, hbb, hml, hown, hts, hK, hN, hA⟩ := hX
  intro H locs ls hP hD hS hl
  exact lv_lushr hx hbb hdg hv (kk H locs ls hP hD hS hl)

theorem g_lshl (hX : gOK X cc own l E rm nL) {a b : Int} (r : Int) (hdg : decode cc pc = .ok (.lshl, 1)) (hv : lI a <<< ((iI b).toInt64 &&& 63) = lI r) (kk : gW X ws cells slots (pc + 1) lv (.long (lI r) :: st)) : gW X ws cells slots pc lv (.int (iI b) :: .long (lI a) :: st) := by
  obtain ⟨p, l', e, R, s, m, args, below, meth, c, A, nL', Q, E'⟩ := X
  obtain ⟨rfl, rfl, rfl, rfl, hx, hbb, hml, hown, hts, hK, hN, hA⟩ := hX
  intro H locs ls hP hD hS hl
  exact lv_lshl hx hbb hdg hv (kk H locs ls hP hD hS hl)

theorem g_lshr (hX : gOK X cc own l E rm nL) {a b : Int} (r : Int) (hdg : decode cc pc = .ok (.lshr, 1)) (hv : lI a >>> ((iI b).toInt64 &&& 63) = lI r) (kk : gW X ws cells slots (pc + 1) lv (.long (lI r) :: st)) : gW X ws cells slots pc lv (.int (iI b) :: .long (lI a) :: st) := by
  obtain ⟨p, l', e, R, s, m, args, below, meth, c, A, nL', Q, E'⟩ := X
  obtain ⟨rfl, rfl, rfl, rfl, hx, hbb, hml, hown, hts, hK, hN, hA⟩ := hX
  intro H locs ls hP hD hS hl
  exact lv_lshr hx hbb hdg hv (kk H locs ls hP hD hS hl)

theorem g_iand (hX : gOK X cc own l E rm nL) {a b : Int} (r : Int) (hdg : decode cc pc = .ok (.iand, 1)) (hv : iI a &&& iI b = iI r) (kk : gW X ws cells slots (pc + 1) lv (.int (iI r) :: st)) : gW X ws cells slots pc lv (.int (iI b) :: .int (iI a) :: st) := by
  obtain ⟨p, l', e, R, s, m, args, below, meth, c, A, nL', Q, E'⟩ := X
  obtain ⟨rfl, rfl, rfl, rfl, hx, hbb, hml, hown, hts, hK, hN, hA⟩ := hX
  intro H locs ls hP hD hS hl
  exact lv_iand hx hbb hdg (by rw [hv]; exact (kk H locs ls hP hD hS hl))

theorem g_idiv (hX : gOK X cc own l E rm nL) {a b : Int} (r : Int) (hdg : decode cc pc = .ok (.idiv, 1)) (hz : ¬ iI b = 0) (hv : iI a / iI b = iI r) (kk : gW X ws cells slots (pc + 1) lv (.int (iI r) :: st)) : gW X ws cells slots pc lv (.int (iI b) :: .int (iI a) :: st) := by
  obtain ⟨p, l', e, R, s, m, args, below, meth, c, A, nL', Q, E'⟩ := X
  obtain ⟨rfl, rfl, rfl, rfl, hx, hbb, hml, hown, hts, hK, hN, hA⟩ := hX
  intro H locs ls hP hD hS hl
  exact lv_idiv hx hbb hdg hz (by rw [hv]; exact (kk H locs ls hP hD hS hl))

theorem g_irem (hX : gOK X cc own l E rm nL) {a b : Int} (r : Int) (hdg : decode cc pc = .ok (.irem, 1)) (hz : ¬ iI b = 0) (hv : iI a - iI a / iI b * iI b = iI r) (kk : gW X ws cells slots (pc + 1) lv (.int (iI r) :: st)) : gW X ws cells slots pc lv (.int (iI b) :: .int (iI a) :: st) := by
  obtain ⟨p, l', e, R, s, m, args, below, meth, c, A, nL', Q, E'⟩ := X
  obtain ⟨rfl, rfl, rfl, rfl, hx, hbb, hml, hown, hts, hK, hN, hA⟩ := hX
  intro H locs ls hP hD hS hl
  exact lv_irem hx hbb hdg hz (by rw [hv]; exact (kk H locs ls hP hD hS hl))

theorem g_goto (hX : gOK X cc own l E rm nL) {off : Int} {tgt : Nat} (hdg : decode cc pc = .ok (.goto off, 3)) (ht : (pc : Int) + off = (tgt : Int)) (kk : gW X ws cells slots tgt lv st) : gW X ws cells slots pc lv st := by
  obtain ⟨p, l', e, R, s, m, args, below, meth, c, A, nL', Q, E'⟩ := X
  obtain ⟨rfl, rfl, rfl, rfl, hx, hbb, hml, hown, hts, hK, hN, hA⟩ := hX
  intro H locs ls hP hD hS hl
  exact lv_goto hx hbb hdg ht (kk H locs ls hP hD hS hl)

theorem g_icmp_eq (hX : gOK X cc own l E rm nL) {a b : Int} {off : Int} {tgt : Nat} (hdg : decode cc pc = .ok (.if_icmp .eq off, 3)) (ht : (pc : Int) + off = (tgt : Int)) (ha : gin a) (hb : gin b) (kt : a = b → gW X ws cells slots tgt lv st) (kf : ¬ (a = b) → gW X ws cells slots (pc + 3) lv st) : gW X ws cells slots pc lv (.int (iI b) :: .int (iI a) :: st) := by
  obtain ⟨p, l', e, R, s, m, args, below, meth, c, A, nL', Q, E'⟩ := X
  obtain ⟨rfl, rfl, rfl, rfl, hx, hbb, hml, hown, hts, hK, hN, hA⟩ := hX
  intro H locs ls hP hD hS hl
  exact lv_icmp_eq hx hbb hdg ht (fun h => kt ((iI_eq ha hb).mp h) H locs ls hP hD hS hl) (fun h => kf (fun q => h ((iI_eq ha hb).mpr q)) H locs ls hP hD hS hl)

theorem g_if_eq (hX : gOK X cc own l E rm nL) {a : Int} {off : Int} {tgt : Nat} (hdg : decode cc pc = .ok (.ifCond .eq off, 3)) (ht : (pc : Int) + off = (tgt : Int)) (ha : gin a) (kt : a = 0 → gW X ws cells slots tgt lv st) (kf : ¬ (a = 0) → gW X ws cells slots (pc + 3) lv st) : gW X ws cells slots pc lv (.int (iI a) :: st) := by
  obtain ⟨p, l', e, R, s, m, args, below, meth, c, A, nL', Q, E'⟩ := X
  obtain ⟨rfl, rfl, rfl, rfl, hx, hbb, hml, hown, hts, hK, hN, hA⟩ := hX
  intro H locs ls hP hD hS hl
  exact lv_if_eq hx hbb hdg ht (fun h => kt ((iI_eq ha (⟨by decide, by decide⟩ : gin 0)).mp h) H locs ls hP hD hS hl) (fun h => kf (fun q => h ((iI_eq ha (⟨by decide, by decide⟩ : gin 0)).mpr q)) H locs ls hP hD hS hl)

theorem g_icmp_ne (hX : gOK X cc own l E rm nL) {a b : Int} {off : Int} {tgt : Nat} (hdg : decode cc pc = .ok (.if_icmp .ne off, 3)) (ht : (pc : Int) + off = (tgt : Int)) (ha : gin a) (hb : gin b) (kt : a ≠ b → gW X ws cells slots tgt lv st) (kf : ¬ (a ≠ b) → gW X ws cells slots (pc + 3) lv st) : gW X ws cells slots pc lv (.int (iI b) :: .int (iI a) :: st) := by
  obtain ⟨p, l', e, R, s, m, args, below, meth, c, A, nL', Q, E'⟩ := X
  obtain ⟨rfl, rfl, rfl, rfl, hx, hbb, hml, hown, hts, hK, hN, hA⟩ := hX
  intro H locs ls hP hD hS hl
  exact lv_icmp_ne hx hbb hdg ht (fun h => kt (fun q => h ((iI_eq ha hb).mpr q)) H locs ls hP hD hS hl) (fun h => kf (fun q => q ((iI_eq ha hb).mp h)) H locs ls hP hD hS hl)

theorem g_if_ne (hX : gOK X cc own l E rm nL) {a : Int} {off : Int} {tgt : Nat} (hdg : decode cc pc = .ok (.ifCond .ne off, 3)) (ht : (pc : Int) + off = (tgt : Int)) (ha : gin a) (kt : a ≠ 0 → gW X ws cells slots tgt lv st) (kf : ¬ (a ≠ 0) → gW X ws cells slots (pc + 3) lv st) : gW X ws cells slots pc lv (.int (iI a) :: st) := by
  obtain ⟨p, l', e, R, s, m, args, below, meth, c, A, nL', Q, E'⟩ := X
  obtain ⟨rfl, rfl, rfl, rfl, hx, hbb, hml, hown, hts, hK, hN, hA⟩ := hX
  intro H locs ls hP hD hS hl
  exact lv_if_ne hx hbb hdg ht (fun h => kt (fun q => h ((iI_eq ha (⟨by decide, by decide⟩ : gin 0)).mpr q)) H locs ls hP hD hS hl) (fun h => kf (fun q => q ((iI_eq ha (⟨by decide, by decide⟩ : gin 0)).mp h)) H locs ls hP hD hS hl)

theorem g_icmp_lt (hX : gOK X cc own l E rm nL) {a b : Int} {off : Int} {tgt : Nat} (hdg : decode cc pc = .ok (.if_icmp .lt off, 3)) (ht : (pc : Int) + off = (tgt : Int)) (ha : gin a) (hb : gin b) (kt : a < b → gW X ws cells slots tgt lv st) (kf : ¬ (a < b) → gW X ws cells slots (pc + 3) lv st) : gW X ws cells slots pc lv (.int (iI b) :: .int (iI a) :: st) := by
  obtain ⟨p, l', e, R, s, m, args, below, meth, c, A, nL', Q, E'⟩ := X
  obtain ⟨rfl, rfl, rfl, rfl, hx, hbb, hml, hown, hts, hK, hN, hA⟩ := hX
  intro H locs ls hP hD hS hl
  exact lv_icmp_lt hx hbb hdg ht (fun h => kt ((iI_lt ha hb).mp h) H locs ls hP hD hS hl) (fun h => kf (fun q => h ((iI_lt ha hb).mpr q)) H locs ls hP hD hS hl)

theorem g_if_lt (hX : gOK X cc own l E rm nL) {a : Int} {off : Int} {tgt : Nat} (hdg : decode cc pc = .ok (.ifCond .lt off, 3)) (ht : (pc : Int) + off = (tgt : Int)) (ha : gin a) (kt : a < 0 → gW X ws cells slots tgt lv st) (kf : ¬ (a < 0) → gW X ws cells slots (pc + 3) lv st) : gW X ws cells slots pc lv (.int (iI a) :: st) := by
  obtain ⟨p, l', e, R, s, m, args, below, meth, c, A, nL', Q, E'⟩ := X
  obtain ⟨rfl, rfl, rfl, rfl, hx, hbb, hml, hown, hts, hK, hN, hA⟩ := hX
  intro H locs ls hP hD hS hl
  exact lv_if_lt hx hbb hdg ht (fun h => kt ((iI_lt ha (⟨by decide, by decide⟩ : gin 0)).mp h) H locs ls hP hD hS hl) (fun h => kf (fun q => h ((iI_lt ha (⟨by decide, by decide⟩ : gin 0)).mpr q)) H locs ls hP hD hS hl)

theorem g_icmp_ge (hX : gOK X cc own l E rm nL) {a b : Int} {off : Int} {tgt : Nat} (hdg : decode cc pc = .ok (.if_icmp .ge off, 3)) (ht : (pc : Int) + off = (tgt : Int)) (ha : gin a) (hb : gin b) (kt : b ≤ a → gW X ws cells slots tgt lv st) (kf : ¬ (b ≤ a) → gW X ws cells slots (pc + 3) lv st) : gW X ws cells slots pc lv (.int (iI b) :: .int (iI a) :: st) := by
  obtain ⟨p, l', e, R, s, m, args, below, meth, c, A, nL', Q, E'⟩ := X
  obtain ⟨rfl, rfl, rfl, rfl, hx, hbb, hml, hown, hts, hK, hN, hA⟩ := hX
  intro H locs ls hP hD hS hl
  exact lv_icmp_ge hx hbb hdg ht (fun h => kt ((iI_le hb ha).mp h) H locs ls hP hD hS hl) (fun h => kf (fun q => h ((iI_le hb ha).mpr q)) H locs ls hP hD hS hl)

theorem g_if_ge (hX : gOK X cc own l E rm nL) {a : Int} {off : Int} {tgt : Nat} (hdg : decode cc pc = .ok (.ifCond .ge off, 3)) (ht : (pc : Int) + off = (tgt : Int)) (ha : gin a) (kt : 0 ≤ a → gW X ws cells slots tgt lv st) (kf : ¬ (0 ≤ a) → gW X ws cells slots (pc + 3) lv st) : gW X ws cells slots pc lv (.int (iI a) :: st) := by
  obtain ⟨p, l', e, R, s, m, args, below, meth, c, A, nL', Q, E'⟩ := X
  obtain ⟨rfl, rfl, rfl, rfl, hx, hbb, hml, hown, hts, hK, hN, hA⟩ := hX
  intro H locs ls hP hD hS hl
  exact lv_if_ge hx hbb hdg ht (fun h => kt ((iI_le (⟨by decide, by decide⟩ : gin 0) ha).mp h) H locs ls hP hD hS hl) (fun h => kf (fun q => h ((iI_le (⟨by decide, by decide⟩ : gin 0) ha).mpr q)) H locs ls hP hD hS hl)

theorem g_icmp_gt (hX : gOK X cc own l E rm nL) {a b : Int} {off : Int} {tgt : Nat} (hdg : decode cc pc = .ok (.if_icmp .gt off, 3)) (ht : (pc : Int) + off = (tgt : Int)) (ha : gin a) (hb : gin b) (kt : b < a → gW X ws cells slots tgt lv st) (kf : ¬ (b < a) → gW X ws cells slots (pc + 3) lv st) : gW X ws cells slots pc lv (.int (iI b) :: .int (iI a) :: st) := by
  obtain ⟨p, l', e, R, s, m, args, below, meth, c, A, nL', Q, E'⟩ := X
  obtain ⟨rfl, rfl, rfl, rfl, hx, hbb, hml, hown, hts, hK, hN, hA⟩ := hX
  intro H locs ls hP hD hS hl
  exact lv_icmp_gt hx hbb hdg ht (fun h => kt ((iI_lt hb ha).mp h) H locs ls hP hD hS hl) (fun h => kf (fun q => h ((iI_lt hb ha).mpr q)) H locs ls hP hD hS hl)

theorem g_if_gt (hX : gOK X cc own l E rm nL) {a : Int} {off : Int} {tgt : Nat} (hdg : decode cc pc = .ok (.ifCond .gt off, 3)) (ht : (pc : Int) + off = (tgt : Int)) (ha : gin a) (kt : 0 < a → gW X ws cells slots tgt lv st) (kf : ¬ (0 < a) → gW X ws cells slots (pc + 3) lv st) : gW X ws cells slots pc lv (.int (iI a) :: st) := by
  obtain ⟨p, l', e, R, s, m, args, below, meth, c, A, nL', Q, E'⟩ := X
  obtain ⟨rfl, rfl, rfl, rfl, hx, hbb, hml, hown, hts, hK, hN, hA⟩ := hX
  intro H locs ls hP hD hS hl
  exact lv_if_gt hx hbb hdg ht (fun h => kt ((iI_lt (⟨by decide, by decide⟩ : gin 0) ha).mp h) H locs ls hP hD hS hl) (fun h => kf (fun q => h ((iI_lt (⟨by decide, by decide⟩ : gin 0) ha).mpr q)) H locs ls hP hD hS hl)

theorem g_icmp_le (hX : gOK X cc own l E rm nL) {a b : Int} {off : Int} {tgt : Nat} (hdg : decode cc pc = .ok (.if_icmp .le off, 3)) (ht : (pc : Int) + off = (tgt : Int)) (ha : gin a) (hb : gin b) (kt : a ≤ b → gW X ws cells slots tgt lv st) (kf : ¬ (a ≤ b) → gW X ws cells slots (pc + 3) lv st) : gW X ws cells slots pc lv (.int (iI b) :: .int (iI a) :: st) := by
  obtain ⟨p, l', e, R, s, m, args, below, meth, c, A, nL', Q, E'⟩ := X
  obtain ⟨rfl, rfl, rfl, rfl, hx, hbb, hml, hown, hts, hK, hN, hA⟩ := hX
  intro H locs ls hP hD hS hl
  exact lv_icmp_le hx hbb hdg ht (fun h => kt ((iI_le ha hb).mp h) H locs ls hP hD hS hl) (fun h => kf (fun q => h ((iI_le ha hb).mpr q)) H locs ls hP hD hS hl)

theorem g_if_le (hX : gOK X cc own l E rm nL) {a : Int} {off : Int} {tgt : Nat} (hdg : decode cc pc = .ok (.ifCond .le off, 3)) (ht : (pc : Int) + off = (tgt : Int)) (ha : gin a) (kt : a ≤ 0 → gW X ws cells slots tgt lv st) (kf : ¬ (a ≤ 0) → gW X ws cells slots (pc + 3) lv st) : gW X ws cells slots pc lv (.int (iI a) :: st) := by
  obtain ⟨p, l', e, R, s, m, args, below, meth, c, A, nL', Q, E'⟩ := X
  obtain ⟨rfl, rfl, rfl, rfl, hx, hbb, hml, hown, hts, hK, hN, hA⟩ := hX
  intro H locs ls hP hD hS hl
  exact lv_if_le hx hbb hdg ht (fun h => kt ((iI_le ha (⟨by decide, by decide⟩ : gin 0)).mp h) H locs ls hP hD hS hl) (fun h => kf (fun q => h ((iI_le ha (⟨by decide, by decide⟩ : gin 0)).mpr q)) H locs ls hP hD hS hl)

theorem g_lcmp_eq (hX : gOK X cc own l E rm nL) {a b : Int} {off : Int} {tgt : Nat} (hdg0 : decode cc pc = .ok (.lcmp, 1)) (hdg : decode cc (pc + 1) = .ok (.ifCond .eq off, 3)) (ht : ((pc + 1 : Nat) : Int) + off = (tgt : Int)) (ha : gil a) (hb : gil b) (kt : a = b → gW X ws cells slots tgt lv st) (kf : ¬ (a = b) → gW X ws cells slots (pc + 1 + 3) lv st) : gW X ws cells slots pc lv (.long (lI b) :: .long (lI a) :: st) := by
  obtain ⟨p, l', e, R, s, m, args, below, meth, c, A, nL', Q, E'⟩ := X
  obtain ⟨rfl, rfl, rfl, rfl, hx, hbb, hml, hown, hts, hK, hN, hA⟩ := hX
  intro H locs ls hP hD hS hl
  refine W.lcmp hx hbb hdg0 ?_
  exact lv_if_eq hx hbb hdg ht (fun h => kt ((lI_eq ha hb).mp ((lg_cmp_eq _ _).mp h)) H locs ls hP hD hS hl) (fun h => kf (fun q => h ((lg_cmp_eq _ _).mpr ((lI_eq ha hb).mpr q))) H locs ls hP hD hS hl)

theorem g_lcmp_ne (hX : gOK X cc own l E rm nL) {a b : Int} {off : Int} {tgt : Nat} (hdg0 : decode cc pc = .ok (.lcmp, 1)) (hdg : decode cc (pc + 1) = .ok (.ifCond .ne off, 3)) (ht : ((pc + 1 : Nat) : Int) + off = (tgt : Int)) (ha : gil a) (hb : gil b) (kt : a ≠ b → gW X ws cells slots tgt lv st) (kf : ¬ (a ≠ b) → gW X ws cells slots (pc + 1 + 3) lv st) : gW X ws cells slots pc lv (.long (lI b) :: .long (lI a) :: st) := by
  obtain ⟨p, l', e, R, s, m, args, below, meth, c, A, nL', Q, E'⟩ := X
  obtain ⟨rfl, rfl, rfl, rfl, hx, hbb, hml, hown, hts, hK, hN, hA⟩ := hX
  intro H locs ls hP hD hS hl
  refine W.lcmp hx hbb hdg0 ?_
  exact lv_if_ne hx hbb hdg ht (fun h => kt (fun q => h ((lg_cmp_eq _ _).mpr ((lI_eq ha hb).mpr q))) H locs ls hP hD hS hl) (fun h => kf (fun q => q ((lI_eq ha hb).mp ((lg_cmp_eq _ _).mp h))) H locs ls hP hD hS hl)

theorem g_lcmp_lt (hX : gOK X cc own l E rm nL) {a b : Int} {off : Int} {tgt : Nat} (hdg0 : decode cc pc = .ok (.lcmp, 1)) (hdg : decode cc (pc + 1) = .ok (.ifCond .lt off, 3)) (ht : ((pc + 1 : Nat) : Int) + off = (tgt : Int)) (ha : gil a) (hb : gil b) (kt : a < b → gW X ws cells slots tgt lv st) (kf : ¬ (a < b) → gW X ws cells slots (pc + 1 + 3) lv st) : gW X ws cells slots pc lv (.long (lI b) :: .long (lI a) :: st) := by
  obtain ⟨p, l', e, R, s, m, args, below, meth, c, A, nL', Q, E'⟩ := X
  obtain ⟨rfl, rfl, rfl, rfl, hx, hbb, hml, hown, hts, hK, hN, hA⟩ := hX
  intro H locs ls hP hD hS hl
  refine W.lcmp hx hbb hdg0 ?_
  exact lv_if_lt hx hbb hdg ht (fun h => kt ((lI_lt ha hb).mp ((lg_cmp_lt _ _).mp h)) H locs ls hP hD hS hl) (fun h => kf (fun q => h ((lg_cmp_lt _ _).mpr ((lI_lt ha hb).mpr q))) H locs ls hP hD hS hl)

theorem g_lcmp_ge (hX : gOK X cc own l E rm nL) {a b : Int} {off : Int} {tgt : Nat} (hdg0 : decode cc pc = .ok (.lcmp, 1)) (hdg : decode cc (pc + 1) = .ok (.ifCond .ge off, 3)) (ht : ((pc + 1 : Nat) : Int) + off = (tgt : Int)) (ha : gil a) (hb : gil b) (kt : b ≤ a → gW X ws cells slots tgt lv st) (kf : ¬ (b ≤ a) → gW X ws cells slots (pc + 1 + 3) lv st) : gW X ws cells slots pc lv (.long (lI b) :: .long (lI a) :: st) := by
  obtain ⟨p, l', e, R, s, m, args, below, meth, c, A, nL', Q, E'⟩ := X
  obtain ⟨rfl, rfl, rfl, rfl, hx, hbb, hml, hown, hts, hK, hN, hA⟩ := hX
  intro H locs ls hP hD hS hl
  refine W.lcmp hx hbb hdg0 ?_
  exact lv_if_ge hx hbb hdg ht (fun h => kt ((lI_le hb ha).mp ((lg_cmp_ge _ _).mp h)) H locs ls hP hD hS hl) (fun h => kf (fun q => h ((lg_cmp_ge _ _).mpr ((lI_le hb ha).mpr q))) H locs ls hP hD hS hl)

theorem g_lcmp_gt (hX : gOK X cc own l E rm nL) {a b : Int} {off : Int} {tgt : Nat} (hdg0 : decode cc pc = .ok (.lcmp, 1)) (hdg : decode cc (pc + 1) = .ok (.ifCond .gt off, 3)) (ht : ((pc + 1 : Nat) : Int) + off = (tgt : Int)) (ha : gil a) (hb : gil b) (kt : b < a → gW X ws cells slots tgt lv st) (kf : ¬ (b < a) → gW X ws cells slots (pc + 1 + 3) lv st) : gW X ws cells slots pc lv (.long (lI b) :: .long (lI a) :: st) := by
  obtain ⟨p, l', e, R, s, m, args, below, meth, c, A, nL', Q, E'⟩ := X
  obtain ⟨rfl, rfl, rfl, rfl, hx, hbb, hml, hown, hts, hK, hN, hA⟩ := hX
  intro H locs ls hP hD hS hl
  refine W.lcmp hx hbb hdg0 ?_
  exact lv_if_gt hx hbb hdg ht (fun h => kt ((lI_lt hb ha).mp ((lg_cmp_gt _ _).mp h)) H locs ls hP hD hS hl) (fun h => kf (fun q => h ((lg_cmp_gt _ _).mpr ((lI_lt hb ha).mpr q))) H locs ls hP hD hS hl)

theorem g_lcmp_le (hX : gOK X cc own l E rm nL) {a b : Int} {off : Int} {tgt : Nat} (hdg0 : decode cc pc = .ok (.lcmp, 1)) (hdg : decode cc (pc + 1) = .ok (.ifCond .le off, 3)) (ht : ((pc + 1 : Nat) : Int) + off = (tgt : Int)) (ha : gil a) (hb : gil b) (kt : a ≤ b → gW X ws cells slots tgt lv st) (kf : ¬ (a ≤ b) → gW X ws cells slots (pc + 1 + 3) lv st) : gW X ws cells slots pc lv (.long (lI b) :: .long (lI a) :: st) := by
  obtain ⟨p, l', e, R, s, m, args, below, meth, c, A, nL', Q, E'⟩ := X
  obtain ⟨rfl, rfl, rfl, rfl, hx, hbb, hml, hown, hts, hK, hN, hA⟩ := hX
  intro H locs ls hP hD hS hl
  refine W.lcmp hx hbb hdg0 ?_
  exact lv_if_le hx hbb hdg ht (fun h => kt ((lI_le ha hb).mp ((lg_cmp_le _ _).mp h)) H locs ls hP hD hS hl) (fun h => kf (fun q => h ((lg_cmp_le _ _).mpr ((lI_le ha hb).mpr q))) H locs ls hP hD hS hl)

end GG
end
section
-- LAYER: the heap
def aI (E : gE) (n : Nat) (f : Nat → Int) : va_E := .inl (E.2.1, n, .inl (fun j => iI (f j)))
def aL (E : gE) (n : Nat) (f : Nat → Int) : va_E := .inl (E.2.2.1, n, .inr (.inl (fun j => lI (f j))))
def aZ (E : gE) (n : Nat) (f : Nat → Int) : va_E := .inl (E.2.2.2, n, .inl (fun j => iI (f j)))
/-- a field as the class 'own' names it by its pool's row 'index': field k of class ci -/
def gF (own : String) (index ci k : Nat) (C : String) (T : u_T) (N : Nat) : Prop := (∀ w ∈ u_ws C T N, w ∈ gTB) ∧ vwCl[ci]? = some (C, T, N) ∧ k < N ∧ Cond.fieldLink own index (T k).1 (T k).2.1 (T k).2.2.1 ∈ gTB
/-- what is known of a class's fields -/
def gT (C : String) (T : u_T) (N : Nat) (ty : Nat → FieldType) : Prop := (∀ k, k < N → parseFieldDescriptor (T k).2.2.1 = some (ty k)) ∧ ∀ a, a < N → ∀ b, b < N → a ≠ b → (T a).2.1 ≠ (T b).2.1
def gInit : gC → Prop
  | (_, _, _, _, _, _, _, _, meth, _) => meth.name = "<init>"
section GH
variable {X : gC} {cc : ByteArray} {own : String} {l : Launch} {E : gE} {rm : Room} {nL : Nat} {ws : va_W} {cells slots pc : Nat} {lv : List (Nat × Value)} {st : List Value}
theorem g_ws (ws' : va_W) (h : ws = ws') (kk : gW X ws' cells slots pc lv st) : gW X ws cells slots pc lv st := h ▸ kk
theorem g_st (st' : List Value) (h : st = st') (kk : gW X ws cells slots pc lv st') : gW X ws cells slots pc lv st := h ▸ kk
theorem g_get (hX : gOK X cc own l E rm nL) {C : String} {T : u_T} {N ci k index a : Nat} {fs : List Value} {v : Value} (hf : gF own index ci k C T N) (q0 : Nat) (he : ws[q0]? = some (a, .inr (ci, fs))) (hv : fs[k]? = some v) (hdg : decode cc pc = .ok (.getfield index, 3)) (kk : gW X ws cells slots (pc + 3) lv (v :: st)) : gW X ws cells slots pc lv (.ref a :: st) := by
  obtain ⟨p, l', e, R, s, m, args, below, meth, c, A, nL', Q, E'⟩ := X
  obtain ⟨rfl, rfl, rfl, rfl, hx, hbb, hml, hown, hts, hK, hN, hA⟩ := hX
  intro H locs ls hP hD hS hl
  exact va_get hx hbb hts hf.1 hown hK hP q0 he hf.2.1 k hf.2.2.1 (hts _ hf.2.2.2) (fun _ h => h) hv hdg (kk H locs ls hP hD hS hl)
theorem g_put (hX : gOK X cc own l E rm nL) {C : String} {T : u_T} {N ci k index a : Nat} {fs : List Value} {v : Value} {ty : Nat → FieldType} (hf : gF own index ci k C T N) (ht : gT C T N ty) (q0 : Nat) (he : ws[q0]? = some (a, .inr (ci, fs))) (hfin : (T k).2.2.2 = false) (hn : narrow (ty k) v = v) (hfit : fits (ty k) v = true) (hl0 : k < fs.length) (hdg : decode cc pc = .ok (.putfield index, 3)) (kk : gW X (ws.set q0 (a, .inr (ci, fs.set k v))) cells slots (pc + 3) lv st) : gW X ws cells slots pc lv (v :: .ref a :: st) := by
  obtain ⟨p, l', e, R, s, m, args, below, meth, c, A, nL', Q, E'⟩ := X
  obtain ⟨rfl, rfl, rfl, rfl, hx, hbb, hml, hown, hts, hK, hN, hA⟩ := hX
  intro H locs ls hP hD hS hl
  exact va_put hx hbb hts hf.1 ty ht.1 ht.2 hown hK hP hD hS q0 he hf.2.1 k hf.2.2.1 (hts _ hf.2.2.2) (fun _ h => h) hfin (ht.1 k hf.2.2.1) hn hfit hl0 hdg (fun H1 locs1 hP1 hD1 hS1 => kk H1 locs1 ls hP1 hD1 hS1 hl)
theorem g_putF (hX : gOK X cc own l E rm nL) (hi : gInit X) {C : String} {T : u_T} {N ci k index a : Nat} {fs : List Value} {v : Value} {ty : Nat → FieldType} (hf : gF own index ci k C T N) (ht : gT C T N ty) (q0 : Nat) (he : ws[q0]? = some (a, .inr (ci, fs))) (hfin : (T k).2.2.2 = true) (hdecl : (T k).1 = own) (hn : narrow (ty k) v = v) (hfit : fits (ty k) v = true) (hl0 : k < fs.length) (hdg : decode cc pc = .ok (.putfield index, 3)) (kk : gW X (ws.set q0 (a, .inr (ci, fs.set k v))) cells slots (pc + 3) lv st) : gW X ws cells slots pc lv (v :: .ref a :: st) := by
  obtain ⟨p, l', e, R, s, m, args, below, meth, c, A, nL', Q, E'⟩ := X
  obtain ⟨rfl, rfl, rfl, rfl, hx, hbb, hml, hown, hts, hK, hN, hA⟩ := hX
  intro H locs ls hP hD hS hl
  exact va_putF hx hbb hts hf.1 ty ht.1 ht.2 hown hK hP hD hS q0 he hf.2.1 k hf.2.2.1 (hts _ hf.2.2.2) (fun _ h => h) hfin hi hdecl (ht.1 k hf.2.2.1) hn hfit hl0 hdg (fun H1 locs1 hP1 hD1 hS1 => kk H1 locs1 ls hP1 hD1 hS1 hl)
theorem g_new (hX : gOK X cc own l E rm nL) {C : String} {T : u_T} {N ci index : Nat} {ty : Nat → FieldType} (hin : ∀ w ∈ u_ws C T N, w ∈ gTB) (ht : gT C T N ty) (h1 : Cond.classLink own index C ∈ gTB) (h2 : Cond.instantiable C N ∈ gTB) (h3 : Cond.initialized C ∈ gTB) (hc : vwCl[ci]? = some (C, T, N)) (fs : List Value) (hfs : ∀ j, j < N → defaultValue (ty j) = vp_V fs j) (hcells : cells + 1 ≤ rm.cells) (hslots : slots + N ≤ rm.slots) (hdg : decode cc pc = .ok (.new index, 3)) (kk : ∀ q : Nat, gW X (ws ++ [(q, .inr (ci, fs))]) (cells + 1) (slots + N) (pc + 3) lv (.ref q :: st)) : gW X ws cells slots pc lv st := by
  obtain ⟨p, l', e, R, s, m, args, below, meth, c, A, nL', Q, E'⟩ := X
  obtain ⟨rfl, rfl, rfl, rfl, hx, hbb, hml, hown, hts, hK, hN, hA⟩ := hX
  intro H locs ls hP hD hS hl
  exact va_new hx hbb hts hin ty ht.1 hown (hts _ h1) (hts _ h2) (hts _ h3) hK hP hD hS hA hc hfs hcells hslots hdg (fun q H1 hP1 hD1 hS1 => kk q H1 locs ls hP1 hD1 hS1 hl)
theorem g_newI (hX : gOK X cc own l E rm nL) {n : Int} (h0 : Cond.arrayClass .int ∈ gTB) (h1 : 0 ≤ n) (h2 : n ≤ 100000) (hcells : cells + 1 ≤ rm.cells) (hslots : slots + n.toNat ≤ rm.slots) (hdg : decode cc pc = .ok (.newarray .int, 2)) (kk : ∀ q : Nat, gW X (ws ++ [(q, aI E n.toNat (fun _ => 0))]) (cells + 1) (slots + n.toNat) (pc + 2) lv (.ref q :: st)) : gW X ws cells slots pc lv (.int (iI n) :: st) := by
  obtain ⟨p, l', e, R, s, m, args, below, meth, c, A, nL', Q, E'⟩ := X
  obtain ⟨rfl, rfl, rfl, rfl, hx, hbb, hml, hown, hts, hK, hN, hA⟩ := hX
  intro H locs ls hP hD hS hl
  refine va_newa (atype := .int) (ty := .int) (N' := n.toNat) (a0 := (n.toNat, .inl (fun _ => iI 0))) hx hbb (hts _ h0) rfl hK hP hD hS hA (fun cA => rfl) (iI_nn h1 (by omega)) (iI_cl h1 (by omega)) (by simp [componentBytes]; omega) hcells hslots hdg (fun q cA H1 hK1 hP1 hD1 hS1 => ?_)
  have e1 : s.vm.findClass ("[" ++ FieldType.int.toString) = some E'.2.1 := (hK.2 0 _ rfl).2
  have e2 : s.vm.findClass ("[" ++ FieldType.int.toString) = some cA := (hK1.2 3 _ rfl).2
  have e3 : E'.2.1 = cA := Option.some.inj (e1.symm.trans e2)
  subst e3
  exact kk q H1 locs ls hP1 hD1 hS1 hl
theorem g_newL (hX : gOK X cc own l E rm nL) {n : Int} (h0 : Cond.arrayClass .long ∈ gTB) (h1 : 0 ≤ n) (h2 : n ≤ 100000) (hcells : cells + 1 ≤ rm.cells) (hslots : slots + n.toNat ≤ rm.slots) (hdg : decode cc pc = .ok (.newarray .long, 2)) (kk : ∀ q : Nat, gW X (ws ++ [(q, aL E n.toNat (fun _ => 0))]) (cells + 1) (slots + n.toNat) (pc + 2) lv (.ref q :: st)) : gW X ws cells slots pc lv (.int (iI n) :: st) := by
  obtain ⟨p, l', e, R, s, m, args, below, meth, c, A, nL', Q, E'⟩ := X
  obtain ⟨rfl, rfl, rfl, rfl, hx, hbb, hml, hown, hts, hK, hN, hA⟩ := hX
  intro H locs ls hP hD hS hl
  refine va_newa (atype := .long) (ty := .long) (N' := n.toNat) (a0 := (n.toNat, .inr (.inl (fun _ => lI 0)))) hx hbb (hts _ h0) rfl hK hP hD hS hA (fun cA => rfl) (iI_nn h1 (by omega)) (iI_cl h1 (by omega)) (by simp [componentBytes]; omega) hcells hslots hdg (fun q cA H1 hK1 hP1 hD1 hS1 => ?_)
  have e1 : s.vm.findClass ("[" ++ FieldType.long.toString) = some E'.2.2.1 := (hK.2 1 _ rfl).2
  have e2 : s.vm.findClass ("[" ++ FieldType.long.toString) = some cA := (hK1.2 3 _ rfl).2
  have e3 : E'.2.2.1 = cA := Option.some.inj (e1.symm.trans e2)
  subst e3
  exact kk q H1 locs ls hP1 hD1 hS1 hl
theorem g_newZ (hX : gOK X cc own l E rm nL) {n : Int} (h0 : Cond.arrayClass .boolean ∈ gTB) (h1 : 0 ≤ n) (h2 : n ≤ 100000) (hcells : cells + 1 ≤ rm.cells) (hslots : slots + n.toNat ≤ rm.slots) (hdg : decode cc pc = .ok (.newarray .boolean, 2)) (kk : ∀ q : Nat, gW X (ws ++ [(q, aZ E n.toNat (fun _ => 0))]) (cells + 1) (slots + n.toNat) (pc + 2) lv (.ref q :: st)) : gW X ws cells slots pc lv (.int (iI n) :: st) := by
  obtain ⟨p, l', e, R, s, m, args, below, meth, c, A, nL', Q, E'⟩ := X
  obtain ⟨rfl, rfl, rfl, rfl, hx, hbb, hml, hown, hts, hK, hN, hA⟩ := hX
  intro H locs ls hP hD hS hl
  refine va_newa (atype := .boolean) (ty := .boolean) (N' := n.toNat) (a0 := (n.toNat, .inl (fun _ => iI 0))) hx hbb (hts _ h0) rfl hK hP hD hS hA (fun cA => rfl) (iI_nn h1 (by omega)) (iI_cl h1 (by omega)) (by simp [componentBytes]; omega) hcells hslots hdg (fun q cA H1 hK1 hP1 hD1 hS1 => ?_)
  have e1 : s.vm.findClass ("[" ++ FieldType.boolean.toString) = some E'.2.2.2 := (hK.2 2 _ rfl).2
  have e2 : s.vm.findClass ("[" ++ FieldType.boolean.toString) = some cA := (hK1.2 3 _ rfl).2
  have e3 : E'.2.2.2 = cA := Option.some.inj (e1.symm.trans e2)
  subst e3
  exact kk q H1 locs ls hP1 hD1 hS1 hl
theorem g_iald (hX : gOK X cc own l E rm nL) {a n : Nat} {f : Nat → Int} {i : Int} (q0 : Nat) (he : ws[q0]? = some (a, aI E n f)) (hin : 0 ≤ i ∧ i < n ∧ i < 2147483648) (hdg : decode cc pc = .ok (.iaload, 1)) (kk : gW X ws cells slots (pc + 1) lv (.int (iI (f i.toNat)) :: st)) : gW X ws cells slots pc lv (.int (iI i) :: .ref a :: st) := by
  obtain ⟨p, l', e, R, s, m, args, below, meth, c, A, nL', Q, E'⟩ := X
  obtain ⟨rfl, rfl, rfl, rfl, hx, hbb, hml, hown, hts, hK, hN, hA⟩ := hX
  intro H locs ls hP hD hS hl
  refine va_iald hx hbb hK hP q0 0 he rfl (iI_in hin.1 hin.2.2 hin.2.1) hdg ?_
  rw [iI_cl hin.1 hin.2.2]
  exact kk H locs ls hP hD hS hl
theorem g_lald (hX : gOK X cc own l E rm nL) {a n : Nat} {f : Nat → Int} {i : Int} (q0 : Nat) (he : ws[q0]? = some (a, aL E n f)) (hin : 0 ≤ i ∧ i < n ∧ i < 2147483648) (hdg : decode cc pc = .ok (.laload, 1)) (kk : gW X ws cells slots (pc + 1) lv (.long (lI (f i.toNat)) :: st)) : gW X ws cells slots pc lv (.int (iI i) :: .ref a :: st) := by
  obtain ⟨p, l', e, R, s, m, args, below, meth, c, A, nL', Q, E'⟩ := X
  obtain ⟨rfl, rfl, rfl, rfl, hx, hbb, hml, hown, hts, hK, hN, hA⟩ := hX
  intro H locs ls hP hD hS hl
  refine va_lald hx hbb hK hP q0 1 he rfl (iI_in hin.1 hin.2.2 hin.2.1) hdg ?_
  rw [iI_cl hin.1 hin.2.2]
  exact kk H locs ls hP hD hS hl
theorem g_zald (hX : gOK X cc own l E rm nL) {a n : Nat} {f : Nat → Int} {i : Int} (q0 : Nat) (he : ws[q0]? = some (a, aZ E n f)) (hin : 0 ≤ i ∧ i < n ∧ i < 2147483648) (hdg : decode cc pc = .ok (.baload, 1)) (kk : gW X ws cells slots (pc + 1) lv (.int (iI (f i.toNat)) :: st)) : gW X ws cells slots pc lv (.int (iI i) :: .ref a :: st) := by
  obtain ⟨p, l', e, R, s, m, args, below, meth, c, A, nL', Q, E'⟩ := X
  obtain ⟨rfl, rfl, rfl, rfl, hx, hbb, hml, hown, hts, hK, hN, hA⟩ := hX
  intro H locs ls hP hD hS hl
  refine va_zald hx hbb hK hP q0 2 he rfl (iI_in hin.1 hin.2.2 hin.2.1) hdg ?_
  rw [iI_cl hin.1 hin.2.2]
  exact kk H locs ls hP hD hS hl
theorem g_iast (hX : gOK X cc own l E rm nL) {a n : Nat} {f : Nat → Int} {i x : Int} (q0 : Nat) (he : ws[q0]? = some (a, aI E n f)) (hin : 0 ≤ i ∧ i < n ∧ i < 2147483648) (hdg : decode cc pc = .ok (.iastore, 1)) (kk : gW X (ws.set q0 (a, aI E n (uZ f i.toNat x))) cells slots (pc + 1) lv st) : gW X ws cells slots pc lv (.int (iI x) :: .int (iI i) :: .ref a :: st) := by
  obtain ⟨p, l', e, R, s, m, args, below, meth, c, A, nL', Q, E'⟩ := X
  obtain ⟨rfl, rfl, rfl, rfl, hx, hbb, hml, hown, hts, hK, hN, hA⟩ := hX
  intro H locs ls hP hD hS hl
  refine va_iast hx hbb hK hP hD hS q0 0 he rfl (iI_in hin.1 hin.2.2 hin.2.1) hdg (fun H1 locs1 hP1 hD1 hS1 => ?_)
  rw [iI_cl hin.1 hin.2.2, uZ_i] at hP1 hD1
  exact kk H1 locs1 ls hP1 hD1 hS1 hl
theorem g_last (hX : gOK X cc own l E rm nL) {a n : Nat} {f : Nat → Int} {i x : Int} (q0 : Nat) (he : ws[q0]? = some (a, aL E n f)) (hin : 0 ≤ i ∧ i < n ∧ i < 2147483648) (hdg : decode cc pc = .ok (.lastore, 1)) (kk : gW X (ws.set q0 (a, aL E n (uZ f i.toNat x))) cells slots (pc + 1) lv st) : gW X ws cells slots pc lv (.long (lI x) :: .int (iI i) :: .ref a :: st) := by
  obtain ⟨p, l', e, R, s, m, args, below, meth, c, A, nL', Q, E'⟩ := X
  obtain ⟨rfl, rfl, rfl, rfl, hx, hbb, hml, hown, hts, hK, hN, hA⟩ := hX
  intro H locs ls hP hD hS hl
  refine va_last hx hbb hK hP hD hS q0 1 he rfl (iI_in hin.1 hin.2.2 hin.2.1) hdg (fun H1 locs1 hP1 hD1 hS1 => ?_)
  rw [iI_cl hin.1 hin.2.2, uZ_l] at hP1 hD1
  exact kk H1 locs1 ls hP1 hD1 hS1 hl
theorem g_zast (hX : gOK X cc own l E rm nL) {a n : Nat} {f : Nat → Int} {i x : Int} (q0 : Nat) (he : ws[q0]? = some (a, aZ E n f)) (hin : 0 ≤ i ∧ i < n ∧ i < 2147483648) (hb : x = 0 ∨ x = 1) (hdg : decode cc pc = .ok (.bastore, 1)) (kk : gW X (ws.set q0 (a, aZ E n (uZ f i.toNat x))) cells slots (pc + 1) lv st) : gW X ws cells slots pc lv (.int (iI x) :: .int (iI i) :: .ref a :: st) := by
  obtain ⟨p, l', e, R, s, m, args, below, meth, c, A, nL', Q, E'⟩ := X
  obtain ⟨rfl, rfl, rfl, rfl, hx, hbb, hml, hown, hts, hK, hN, hA⟩ := hX
  intro H locs ls hP hD hS hl
  have hnr : vp_nar .boolean (iI x) = iI x := by rcases hb with rfl | rfl <;> rfl
  refine va_zast hx hbb hK hP hD hS q0 2 he rfl (iI_in hin.1 hin.2.2 hin.2.1) hdg (fun H1 locs1 hP1 hD1 hS1 => ?_)
  rw [hnr, iI_cl hin.1 hin.2.2, uZ_i] at hP1 hD1
  exact kk H1 locs1 ls hP1 hD1 hS1 hl
theorem g_alenI (hX : gOK X cc own l E rm nL) {a n : Nat} {f : Nat → Int} (q0 : Nat) (he : ws[q0]? = some (a, aI E n f)) (hdg : decode cc pc = .ok (.arraylength, 1)) (kk : gW X ws cells slots (pc + 1) lv (.int (iI n) :: st)) : gW X ws cells slots pc lv (.ref a :: st) := by
  obtain ⟨p, l', e, R, s, m, args, below, meth, c, A, nL', Q, E'⟩ := X
  obtain ⟨rfl, rfl, rfl, rfl, hx, hbb, hml, hown, hts, hK, hN, hA⟩ := hX
  intro H locs ls hP hD hS hl
  exact va_alen hx hbb hK hP q0 0 he (ty := .int) rfl (iI_nat n) hdg (kk H locs ls hP hD hS hl)
theorem g_alenL (hX : gOK X cc own l E rm nL) {a n : Nat} {f : Nat → Int} (q0 : Nat) (he : ws[q0]? = some (a, aL E n f)) (hdg : decode cc pc = .ok (.arraylength, 1)) (kk : gW X ws cells slots (pc + 1) lv (.int (iI n) :: st)) : gW X ws cells slots pc lv (.ref a :: st) := by
  obtain ⟨p, l', e, R, s, m, args, below, meth, c, A, nL', Q, E'⟩ := X
  obtain ⟨rfl, rfl, rfl, rfl, hx, hbb, hml, hown, hts, hK, hN, hA⟩ := hX
  intro H locs ls hP hD hS hl
  exact va_alen hx hbb hK hP q0 1 he (ty := .long) rfl (iI_nat n) hdg (kk H locs ls hP hD hS hl)
theorem g_alenZ (hX : gOK X cc own l E rm nL) {a n : Nat} {f : Nat → Int} (q0 : Nat) (he : ws[q0]? = some (a, aZ E n f)) (hdg : decode cc pc = .ok (.arraylength, 1)) (kk : gW X ws cells slots (pc + 1) lv (.int (iI n) :: st)) : gW X ws cells slots pc lv (.ref a :: st) := by
  obtain ⟨p, l', e, R, s, m, args, below, meth, c, A, nL', Q, E'⟩ := X
  obtain ⟨rfl, rfl, rfl, rfl, hx, hbb, hml, hown, hts, hK, hN, hA⟩ := hX
  intro H locs ls hP hD hS hl
  exact va_alen hx hbb hK hP q0 2 he (ty := .boolean) rfl (iI_nat n) hdg (kk H locs ls hP hD hS hl)
end GH
end
section
-- LAYER: contracts, calls, ends
def gPut : va_W → List Nat → va_W → va_W
  | ws, i :: is, c :: w => (gPut ws is w).set i c
  | ws, [], w => ws ++ w
  | ws, _ :: _, [] => ws
theorem gPut_len : ∀ (ws : va_W) (is : List Nat) (w : va_W), is.length ≤ w.length → (gPut ws is w).length = ws.length + (w.length - is.length)
  | ws, i :: is, c :: w, h => by
    unfold gPut
    rw [List.length_set, gPut_len ws is w (by simpa using h)]
    simp
  | ws, [], w, _ => by simp [gPut]
  | ws, _ :: _, [], h => by simp at h
/-- where a cell of the new world comes from -/
theorem gPut_from : ∀ (ws : va_W) (is : List Nat) (w : va_W), is.length ≤ w.length → ∀ (j : Nat) (q : Nat × va_E), (gPut ws is w)[j]? = some q → (∃ k, w[k]? = some q ∧ ((is[k]? = some j) ∨ (is.length ≤ k ∧ j = ws.length + (k - is.length)))) ∨ (j ∉ is ∧ ws[j]? = some q)
  | ws, i :: is, c :: w, h, j, q, hq => by
    unfold gPut at hq
    have h' : is.length ≤ w.length := by simpa using h
    by_cases hij : i = j
    · subst hij
      rw [List.getElem?_set_self'] at hq
      cases hz : (gPut ws is w)[i]? with
      | none => rw [hz] at hq; cases hq
      | some z =>
        rw [hz] at hq
        cases hq
        exact Or.inl ⟨0, rfl, Or.inl rfl⟩
    · rw [List.getElem?_set_ne hij] at hq
      rcases gPut_from ws is w h' j q hq with ⟨k, h1, h2⟩ | ⟨h1, h2⟩
      · refine Or.inl ⟨k + 1, by simpa using h1, ?_⟩
        rcases h2 with h2 | ⟨h2, h3⟩
        · exact Or.inl (by simpa using h2)
        · exact Or.inr ⟨by simp; omega, by simp; omega⟩
      · exact Or.inr ⟨by simp; exact ⟨fun e => hij e.symm, h1⟩, h2⟩
  | ws, [], w, _, j, q, hq => by
    unfold gPut at hq
    by_cases hj : j < ws.length
    · rw [List.getElem?_append_left hj] at hq
      exact Or.inr ⟨by simp, hq⟩
    · rw [List.getElem?_append_right (by omega)] at hq
      exact Or.inl ⟨j - ws.length, hq, Or.inr ⟨by simp, by simp; omega⟩⟩
  | ws, _ :: _, [], h, _, _, _ => by simp at h
theorem gJoin {A0 : Nat → Prop} {D : va_G} {cl : List vw_C} {ws wc w1 : va_W} {H H1 : Heap} (hP : va_P D cl ws H) (hD : va_D A0 ws) (isC : List Nat) (hC : isC.map (fun i => ws[i]?) = wc.map some) (hn : va_nd isC = true) (hlen : wc.length ≤ w1.length)
    (hk : ∀ q : Nat, q < H.size → ¬ va_A wc H.size q → H1[q]? = H[q]?) (hF : ∀ q, va_A wc H.size q → A0 q) (hP1 : va_P D cl w1 H1) (hD1 : va_D (va_A wc H.size) w1) : va_P D cl (gPut ws isC w1) H1 ∧ va_D A0 (gPut ws isC w1) := by
  have hl : isC.length = wc.length := by simpa using congrArg List.length hC
  have atC : ∀ (k : Nat) (q : Nat × va_E), wc[k]? = some q → ∃ i, isC[k]? = some i ∧ ws[i]? = some q := by
    intro k q hq
    have h1 : (isC.map (fun i => ws[i]?))[k]? = some (some q) := by rw [hC, List.getElem?_map, hq]; rfl
    rw [List.getElem?_map] at h1
    cases hi : isC[k]? with
    | none => rw [hi] at h1; cases h1
    | some i => rw [hi] at h1; exact ⟨i, rfl, Option.some.inj h1⟩
  have ofC : ∀ i, i ∈ isC → i < ws.length := by
    intro i hi
    obtain ⟨k, hk⟩ := List.getElem?_of_mem hi
    have h1 : (isC.map (fun i => ws[i]?))[k]? = some (ws[i]?) := by rw [List.getElem?_map, hk]; rfl
    rw [hC, List.getElem?_map] at h1
    cases hz : wc[k]? with
    | none => rw [hz] at h1; cases h1
    | some z =>
      rw [hz] at h1
      exact (List.getElem?_eq_some_iff.mp (Option.some.inj h1).symm).1
  have apart : ∀ (j : Nat) (q : Nat × va_E), j ∉ isC → ws[j]? = some q → q.1 < H.size ∧ ¬ va_A wc H.size q.1 := by
    intro j q hj hq
    have hlt := (hP j q hq).lt
    refine ⟨hlt, fun h => ?_⟩
    rcases h with ⟨k, e, he⟩ | h
    · obtain ⟨i, h1, h2⟩ := atC k _ he
      have := hD.1 i j _ _ h2 hq rfl
      subst this
      exact hj (List.mem_of_getElem? h1)
    · omega
  constructor
  · intro j q hq
    rcases gPut_from ws isC w1 (by omega) j q hq with ⟨k, h1, -⟩ | ⟨h1, h2⟩
    · exact hP1 k q h1
    · obtain ⟨g1, g2⟩ := apart j q h1 h2
      exact (hP j q h2).kept (hk q.1 g1 g2)
  · refine ⟨fun i j x y hx hy hxy => ?_, fun j q hq => ?_⟩
    · rcases gPut_from ws isC w1 (by omega) i x hx with ⟨k1, a1, b1⟩ | ⟨a1, b1⟩ <;> rcases gPut_from ws isC w1 (by omega) j y hy with ⟨k2, a2, b2⟩ | ⟨a2, b2⟩
      · have := hD1.1 k1 k2 x y a1 a2 hxy
        subst this
        rcases b1 with b1 | ⟨b1, c1⟩ <;> rcases b2 with b2 | ⟨b2, c2⟩
        · exact Option.some.inj (b1.symm.trans b2)
        · have := (List.getElem?_eq_some_iff.mp b1).1; omega
        · have := (List.getElem?_eq_some_iff.mp b2).1; omega
        · omega
      · exact absurd (hxy ▸ hD1.2 k1 x a1) (apart j y a2 b2).2
      · exact absurd (hxy ▸ hD1.2 k2 y a2) (apart i x a1 b1).2
      · exact hD.1 i j x y b1 b2 hxy
    · rcases gPut_from ws isC w1 (by omega) j q hq with ⟨k, h1, -⟩ | ⟨h1, h2⟩
      · exact hF _ (hD1.2 k q h1)
      · exact hD.2 j q h2
abbrev gw (y : MethodName) (cc : ByteArray) (maxL : Nat) (ret : Option FieldType) : List Cond := .code y cc maxL ret :: gTB
def gQ (E : gE) (w0 : va_W) (sz : Nat) (post : Option Value → va_W → Nat → Nat → Prop) : Array Value → State → Outcome → State → Prop := fun _ st oc t => (∃ (v : Option Value) (w : va_W) (dc ds : Nat), oc = .returned v ∧ post v w dc ds ∧ va_P E.1 vwCl w t.heap ∧ va_D (va_A w0 sz) w ∧ gGrow st.heap t.heap dc ds) ∧ va_F (va_A w0 sz) st t
def gP (E : gE) (av : List Value) (w0 : va_W) (sz : Nat) : Array Value → State → Prop := va_Pc av (fun U => U.heap.size = sz ∧ va_P E.1 vwCl w0 U.heap ∧ va_K E.1 vwCl (gtys E) U ∧ (∀ w ∈ gNW, va_Nw w U) ∧ va_D (fun _ => True) w0)
/-- THE CONTRACT of a method: from the world w0 and the arguments av it comes to an answer v, a world w, and dc new cells with ds slots, with 'post' -/
def Ct (l : Launch) (E : gE) (y : MethodName) (cc : ByteArray) (maxL : Nat) (ret : Option FieldType) (rm : Room) (av : List Value) (w0 : va_W) (post : Option Value → va_W → Nat → Nat → Prop) : Prop :=
  ∀ sz : Nat, Met l y (gw y cc maxL ret) rm (gP E av w0 sz) (gQ E w0 sz post) rm.cells rm.slots (va_A w0 sz)
theorem gP.blind {E : gE} {av : List Value} {w0 : va_W} {sz : Nat} : FrameBlind (gP E av w0 sz) := fun a U g mk q => by
  obtain ⟨q0, q1, qP, qK, qN, qD⟩ := q
  exact ⟨q0, q1, qP, va_K.moved (u := U) (U := U.calling g mk a) (Vm.Alike.refl U.vm) qK, fun w hw => va_Nw.same (u := U) (U := U.calling g mk a) (gNW_on w hw) rfl (qN w hw), qD⟩
def gEnd : gC → Option FieldType → va_W → (Option Value → va_W → Nat → Nat → Prop) → Prop
  | (_, _, _, R, s, _, args, below, meth, _, A, _, Q, E), ret, w0, post => meth.sig.returnType = ret ∧ meth.locks = false ∧ A = va_A w0 s.heap.size ∧ Q = MQ below (gQ E w0 s.heap.size post) args s R.cells R.slots (va_A w0 s.heap.size)
theorem g_start {l : Launch} {E : gE} {y : MethodName} {cc : ByteArray} {maxL : Nat} {ret : Option FieldType} {rm : Room} {av : List Value} {w0 : va_W} {post : Option Value → va_W → Nat → Nat → Prop} (hy : plainName y.cls = true) (hlen : (lg_sl av).length ≤ maxL)
    (body : ∀ X : gC, gOK X cc y.cls l E rm maxL → gEnd X ret w0 post → (y.name = "<init>" → gInit X) → gW X w0 0 0 0 (lv_args 0 av) []) : Ct l E y cc maxL ret rm av w0 post := by
  intro sz
  refine Met.ofW (cc := cc) (maxL := maxL) (ret := ret) hy rfl ?_
  intro p e s m args below meth c s₁ B hml hv
  obtain ⟨rfl, hsz, hP, hK, hN, hD0⟩ := hv
  subst hsz
  have hts := atoms_spec (ws := gw y cc maxL ret) B.pre
  have hl := lv_entry av (n := maxL) hlen
  rw [lg_entry_eq]
  exact body (p, l, e, rm, s, m, av.toArray, below, meth, c, va_A w0 s.heap.size, maxL, MQ below (gQ E w0 s.heap.size post) av.toArray s rm.cells rm.slots (va_A w0 s.heap.size), E)
    ⟨rfl, rfl, rfl, rfl, B.exec, B.bytes, hml, findClass_of_methodNamed B.named, fun w hw => hts w (List.mem_cons_of_mem _ hw), hK, hN, fun q h => Or.inr h⟩
    ⟨B.returns, B.notSynchronized, rfl, rfl⟩ (fun h => (name_of_methodNamed B.named B.method).1.trans h) s.heap [] _ hP hD0.self va_S.rf hl
section GI
variable {X : gC} {cc : ByteArray} {own : String} {l : Launch} {E : gE} {rm : Room} {nL : Nat} {ws : va_W} {cells slots pc : Nat} {lv : List (Nat × Value)} {st : List Value} {w0 : va_W} {post : Option Value → va_W → Nat → Nat → Prop}
theorem g_iret (hX : gOK X cc own l E rm nL) (hE : gEnd X (some .int) w0 post) {v : Int32} (hdg : decode cc pc = .ok (.ireturn, 1)) (h1 : cells ≤ rm.cells) (h2 : slots ≤ rm.slots) (hp : post (some (.int v)) ws cells slots) : gW X ws cells slots pc lv [.int v] := by
  obtain ⟨p, l', e, R, s, m, args, below, meth, c, A, nL', Q, E'⟩ := X
  obtain ⟨rfl, rfl, rfl, rfl, hx, hbb, hml, hown, hts, hK, hN, hA⟩ := hX
  obtain ⟨hr, hlocks, rfl, rfl⟩ := hE
  intro H locs ls hP hD hS hl T hT Xs
  have hg := gGrow.of Xs
  refine (W.widen h1 h2 (W.iret hx hbb hr (fun t ht hW => ?_) hS.2.2 hdg hlocks)) T hT Xs
  exact ⟨⟨_, ws, cells, slots, rfl, hp, by rw [ht]; exact hP, hD, by rw [ht, ← hT]; exact hg⟩, hS.F ht⟩
theorem g_zret (hX : gOK X cc own l E rm nL) (hE : gEnd X (some .boolean) w0 post) {b : Int} (hb : b = 0 ∨ b = 1) (hdg : decode cc pc = .ok (.ireturn, 1)) (h1 : cells ≤ rm.cells) (h2 : slots ≤ rm.slots) (hp : post (some (.int (iI b))) ws cells slots) : gW X ws cells slots pc lv [.int (iI b)] := by
  obtain ⟨p, l', e, R, s, m, args, below, meth, c, A, nL', Q, E'⟩ := X
  obtain ⟨rfl, rfl, rfl, rfl, hx, hbb, hml, hown, hts, hK, hN, hA⟩ := hX
  obtain ⟨hr, hlocks, rfl, rfl⟩ := hE
  intro H locs ls hP hD hS hl T hT Xs
  have hg := gGrow.of Xs
  refine (W.widen h1 h2 (W.zret hx hbb hr (by rcases hb with rfl | rfl <;> rfl) (fun t ht hW => ?_) hS.2.2 hdg hlocks)) T hT Xs
  exact ⟨⟨_, ws, cells, slots, rfl, hp, by rw [ht]; exact hP, hD, by rw [ht, ← hT]; exact hg⟩, hS.F ht⟩
theorem g_lret (hX : gOK X cc own l E rm nL) (hE : gEnd X (some .long) w0 post) {v : Int64} (hdg : decode cc pc = .ok (.lreturn, 1)) (h1 : cells ≤ rm.cells) (h2 : slots ≤ rm.slots) (hp : post (some (.long v)) ws cells slots) : gW X ws cells slots pc lv [.long v] := by
  obtain ⟨p, l', e, R, s, m, args, below, meth, c, A, nL', Q, E'⟩ := X
  obtain ⟨rfl, rfl, rfl, rfl, hx, hbb, hml, hown, hts, hK, hN, hA⟩ := hX
  obtain ⟨hr, hlocks, rfl, rfl⟩ := hE
  intro H locs ls hP hD hS hl T hT Xs
  have hg := gGrow.of Xs
  refine (W.widen h1 h2 (W.lret hx hbb hr (fun t ht hW => ?_) hS.2.2 hdg hlocks)) T hT Xs
  exact ⟨⟨_, ws, cells, slots, rfl, hp, by rw [ht]; exact hP, hD, by rw [ht, ← hT]; exact hg⟩, hS.F ht⟩
theorem g_vret (hX : gOK X cc own l E rm nL) (hE : gEnd X none w0 post) (hdg : decode cc pc = .ok (.return_, 1)) (h1 : cells ≤ rm.cells) (h2 : slots ≤ rm.slots) (hp : post none ws cells slots) : gW X ws cells slots pc lv [] := by
  obtain ⟨p, l', e, R, s, m, args, below, meth, c, A, nL', Q, E'⟩ := X
  obtain ⟨rfl, rfl, rfl, rfl, hx, hbb, hml, hown, hts, hK, hN, hA⟩ := hX
  obtain ⟨hr, hlocks, rfl, rfl⟩ := hE
  intro H locs ls hP hD hS hl T hT Xs
  have hg := gGrow.of Xs
  refine (W.widen h1 h2 (W.vret hx hbb hr (fun t ht hW => ?_) hS.2.2 hdg hlocks)) T hT Xs
  exact ⟨⟨_, ws, cells, slots, rfl, hp, by rw [ht]; exact hP, hD, by rw [ht, ← hT]; exact hg⟩, hS.F ht⟩
theorem g_aret (hX : gOK X cc own l E rm nL) {rt : FieldType} (hE : gEnd X (some rt) w0 post) (hrt : (∃ n, rt = .object n) ∨ ∃ t, rt = .array t) {a : Nat} (hdg : decode cc pc = .ok (.areturn, 1)) (h1 : cells ≤ rm.cells) (h2 : slots ≤ rm.slots) (hp : post (some (.ref a)) ws cells slots) : gW X ws cells slots pc lv [.ref a] := by
  obtain ⟨p, l', e, R, s, m, args, below, meth, c, A, nL', Q, E'⟩ := X
  obtain ⟨rfl, rfl, rfl, rfl, hx, hbb, hml, hown, hts, hK, hN, hA⟩ := hX
  obtain ⟨hr, hlocks, rfl, rfl⟩ := hE
  intro H locs ls hP hD hS hl T hT Xs
  have hg := gGrow.of Xs
  refine (W.widen h1 h2 (W.aret hx hbb hr hrt (Or.inr ⟨a, rfl⟩) (fun t ht hW => ?_) hS.2.2 hdg hlocks)) T hT Xs
  exact ⟨⟨_, ws, cells, slots, rfl, hp, by rw [ht]; exact hP, hD, by rw [ht, ← hT]; exact hg⟩, hS.F ht⟩
end GI
/-- behind any call: what the kit's va_Run gives, in this layer's words -/
theorem gBehind {p : Program} {l : Launch} {e : Env} {R : Room} {s : State} {m : MethodId} {args : Array Value} {below : List Frame} {meth : Method} {c : Code} {A : Nat → Prop} {nL : Nat} {Q : State → Prop} {E : gE} {ws wc : va_W} {cells slots pc mc ms : Nat} {lv : List (Nat × Value)} {st rest : List Value} {a : Array Value} {post : Option Value → va_W → Nat → Nat → Prop} {H : Heap} {locs : List Loc} {ls : Array Slot}
    (hr : va_Run p l e R s m args below meth c H locs cells slots mc ms (F0 m pc ls st) rest (gQ E wc H.size post a) (va_A wc H.size)) (hA : ∀ q, s.heap.size ≤ q → A q) (hP : va_P E.1 vwCl ws H) (hD : va_D A ws) (hS : va_S A s.heap H locs) (hl : lv_has ls nL lv)
    (isC : List Nat) (hC : isC.map (fun i => ws[i]?) = wc.map some) (hn : va_nd isC = true) (hlen : ∀ v w dc ds, post v w dc ds → wc.length ≤ w.length)
    (kk : ∀ v w dc ds, post v w dc ds → gW (p, l, e, R, s, m, args, below, meth, c, A, nL, Q, E) (gPut ws isC w) (cells + dc) (slots + ds) (pc + 3) lv (v.toList ++ rest)) : W p l e R s m args below meth c H locs cells slots Q (F0 m pc ls st) := by
  intro T hT Xs
  have hg0 := gGrow.of Xs
  obtain ⟨v, st₀, t, T', L, h0, X', hL, e1, e2, ⟨⟨v', w, dc, ds, hv, hp, hP1, hD1, hg⟩, hz, hk⟩, go⟩ := hr T hT Xs
  cases hv
  rw [h0] at hz hk hg
  rw [hT] at hg0
  have hF : ∀ q, va_A wc H.size q → A q := va_free hD hS hA isC hC
  rw [← e1] at hP1 hg hz hk
  obtain ⟨hP2, hD2⟩ := gJoin hP hD isC hC hn (hlen _ _ _ _ hp) hk hF hP1 hD1
  have hS2 : va_S A s.heap T'.heap (locs ++ L) := ⟨Nat.le_trans hS.1 hz, fun q h1 h2 => by
      rw [hk q (Nat.lt_of_lt_of_le h1 hS.1) (fun z => h2 (hF q z))]; exact hS.2.1 q h1 h2, fun q hq => by
      rcases List.mem_append.mp hq with h | h
      · exact hS.2.2 q h
      · exact hF _ (hL q h)⟩
  obtain ⟨t2, a1, b1⟩ := kk v w dc ds hp T'.heap (locs ++ L) ls hP2 hD2 hS2 hl T' rfl (gTight X' (hg0.trans hg))
  exact ⟨t2, go t2 a1, b1⟩
/-- a method that is called: its words -/
def gY (y : MethodName) (bytes : ByteArray) (maxL : Nat) (ret : Option FieldType) (n : Nat) : Prop := Cond.code y bytes maxL ret ∈ gTB ∧ Cond.initialized y.cls ∈ gTB ∧ (y.cls ≠ "java/lang/invoke/MethodHandle" ∧ y.cls ≠ "java/lang/invoke/VarHandle" ∧ (parseMethodDescriptor y.desc).map (fun d => d.parameters.length) = some n)
def gYV (y : MethodName) : Prop := Cond.instanceMethod y ∈ gTB ∧ Cond.selects y.cls y y ∈ gTB
theorem gw_good {y y2 : MethodName} {b b2 : ByteArray} {m m2 : Nat} {r r2 : Option FieldType} (h : Cond.code y b m r ∈ gTB) : GoodIn (gw y2 b2 m2 r2) (gw y b m r) := by
  intro w hw
  rcases List.mem_cons.mp hw with hw | hw
  · subst hw
    exact ⟨List.mem_cons_of_mem _ h, Or.inl rfl⟩
  · exact ⟨List.mem_cons_of_mem _ hw, gTB_good w hw⟩
section GJ
variable {X : gC} {cc : ByteArray} {own : String} {l : Launch} {E : gE} {rm rmy : Room} {nL : Nat} {ws wc : va_W} {cells slots pc : Nat} {lv : List (Nat × Value)} {st : List Value} {post : Option Value → va_W → Nat → Nat → Prop}
variable {y : MethodName} {bytes : ByteArray} {maxL n index b : Nat} {ret : Option FieldType} {As : List Value}
theorem gB_of {s : State} {args : Array Value} (hts : ∀ w ∈ gTB, w.before args s = true) (hy : gY y bytes maxL ret n) (hl : Cond.methodLink own index y ∈ gTB) (hfr : rmy.frames + 1 ≤ rm.frames) (hlo : 8 + (maxL + 11) + rmy.locals ≤ rm.locals) : CallB rm s args own index y bytes maxL ret (gw y bytes maxL ret) rmy rmy.cells rmy.slots n := by
  refine callB_of (Ts := gTB) n hts ?_ rfl rfl rfl (hts _ hy.2.1) (hts _ hl) hy.2.2 ⟨hfr, hlo⟩
  intro w hw
  rcases List.mem_cons.mp hw with hw | hw
  · subst hw
    exact ⟨hy.1, Or.inl rfl⟩
  · exact ⟨hw, gTB_good w hw⟩
theorem gPre {s : State} {H : Heap} {A : Nat → Prop} {av : List Value} (hK : va_K E.1 vwCl (gtys E) s) (hN : ∀ w ∈ gNW, va_Nw w s) (hP : va_P E.1 vwCl ws H) (hD : va_D A ws) (isC : List Nat) (hC : isC.map (fun i => ws[i]?) = wc.map some) (hn : va_nd isC = true) : ∀ U : State, U.heap = H → s.WarmedH U.vm → gP E av wc H.size av.toArray U := by
  intro U hU hW
  have hs : isC.filterMap (fun i => ws[i]?) = wc := by
    have : ∀ (is : List Nat) (w : va_W), is.map (fun i => ws[i]?) = w.map some → is.filterMap (fun i => ws[i]?) = w := by
      intro is
      induction is with
      | nil => intro w h; cases w with | nil => rfl | cons a b => cases h
      | cons i is ih =>
        intro w h
        cases w with
        | nil => cases h
        | cons a b =>
          simp only [List.map_cons, List.cons.injEq] at h
          rw [List.filterMap_cons, h.1, ih b h.2]
    exact this isC wc hC
  exact ⟨rfl, by rw [hU], by rw [hU]; exact hP.sub isC hs, va_K.moved hW.alike hK, fun w hw => gNW_warm w hw hW (hN w hw), (hD.sub isC hn hC).weaken (fun _ _ _ _ => trivial)⟩
theorem g_callV (hX : gOK X cc own l E rm nL) (hM : Ct l E y bytes maxL ret rmy (.ref b :: As) wc post) (hy : gY y bytes maxL ret n) (hv : gYV y) (hl : Cond.methodLink own index y ∈ gTB) (hn : As.length = n) (hfr : rmy.frames + 1 ≤ rm.frames) (hlo : 8 + (maxL + 11) + rmy.locals ≤ rm.locals)
    (isC : List Nat) (hC : isC.map (fun i => ws[i]?) = wc.map some) (hnd : va_nd isC = true) {ci : Nat} {q : vw_C} {fs : List Value} (hw0 : wc[0]? = some (b, .inr (ci, fs))) (hci : vwCl[ci]? = some q) (hq : q.1 = y.cls) (rest : List Value) (hst : st = As.reverse ++ .ref b :: rest) (hcat : (rest.map fun v => v.category).sum ≤ 8) (hdg : decode cc pc = .ok (.invokevirtual index, 3)) (hc : cells + rmy.cells ≤ rm.cells) (hs : slots + rmy.slots ≤ rm.slots) (hlen : ∀ v w dc ds, post v w dc ds → wc.length ≤ w.length)
    (kk : ∀ v w dc ds, post v w dc ds → gW X (gPut ws isC w) (cells + dc) (slots + ds) (pc + 3) lv (v.toList ++ rest)) : gW X ws cells slots pc lv st := by
  obtain ⟨p, l', e, R, s, m, args, below, meth, c, A, nL', Q, E'⟩ := X
  obtain ⟨rfl, rfl, rfl, rfl, hx, hbb, hml, hown, hts, hK, hN, hA⟩ := hX
  intro H locs ls hP hD hS hlv
  subst hst
  have hpre := gPre (av := .ref b :: As) hK hN hP hD isC hC hnd
  have hrc : ∃ cellB : Cell, H[b]? = some cellB ∧ cellB.vm.isStatics = false ∧ s.vm.findClass y.cls = some cellB.cls := by
    obtain ⟨i, h1, h2⟩ : ∃ i, isC[0]? = some i ∧ ws[i]? = some (b, .inr (ci, fs)) := by
      have h1 : (isC.map (fun i => ws[i]?))[0]? = some (some (b, .inr (ci, fs))) := by rw [hC, List.getElem?_map, hw0]; rfl
      rw [List.getElem?_map] at h1
      cases hi : isC[0]? with
      | none => rw [hi] at h1; cases h1
      | some i => rw [hi] at h1; exact ⟨i, rfl, Option.some.inj h1⟩
    rw [← hq]
    exact va_recv hK hP hci h2
  exact gBehind (va_runV (nL := nL') (cc := cc) (Ts := gTB) (C := y.cls) (rest := rest) (As := As) (b := b) (g := F0 m pc ls (As.reverse ++ .ref b :: rest)) ⟨hx, hbb, hml, hown, hts⟩ (hM H.size) ⟨gB_of hts hy hl hfr hlo, hts _ hv.1, hts _ hv.2⟩ ⟨gP.blind, hrc, hpre⟩ rfl hn hlv.1 rfl (lv_room hcat) hdg ⟨hc, hs⟩) hA hP hD hS hlv isC hC hnd hlen kk
theorem g_callS (hX : gOK X cc own l E rm nL) (hM : Ct l E y bytes maxL ret rmy As wc post) (hy : gY y bytes maxL ret n) (hv : Cond.static y ∈ gTB) (hl : Cond.methodLink own index y ∈ gTB) (hn : As.length = n) (hfr : rmy.frames + 1 ≤ rm.frames) (hlo : 8 + (maxL + 11) + rmy.locals ≤ rm.locals)
    (isC : List Nat) (hC : isC.map (fun i => ws[i]?) = wc.map some) (hnd : va_nd isC = true) (rest : List Value) (hst : st = As.reverse ++ rest) (hcat : (rest.map fun v => v.category).sum ≤ 8) (hdg : decode cc pc = .ok (.invokestatic index, 3)) (hc : cells + rmy.cells ≤ rm.cells) (hs : slots + rmy.slots ≤ rm.slots) (hlen : ∀ v w dc ds, post v w dc ds → wc.length ≤ w.length)
    (kk : ∀ v w dc ds, post v w dc ds → gW X (gPut ws isC w) (cells + dc) (slots + ds) (pc + 3) lv (v.toList ++ rest)) : gW X ws cells slots pc lv st := by
  obtain ⟨p, l', e, R, s, m, args, below, meth, c, A, nL', Q, E'⟩ := X
  obtain ⟨rfl, rfl, rfl, rfl, hx, hbb, hml, hown, hts, hK, hN, hA⟩ := hX
  intro H locs ls hP hD hS hlv
  subst hst
  have hpre := gPre (av := As) hK hN hP hD isC hC hnd
  exact gBehind (va_runS (nL := nL') (cc := cc) (Ts := gTB) (rest := rest) (As := As) (g := F0 m pc ls (As.reverse ++ rest)) ⟨hx, hbb, hml, hown, hts⟩ (hM H.size) ⟨gB_of hts hy hl hfr hlo, hts _ hv⟩ ⟨gP.blind, hpre⟩ rfl hn hlv.1 rfl (lv_room hcat) hdg ⟨hc, hs⟩) hA hP hD hS hlv isC hC hnd hlen kk
theorem g_callI (hX : gOK X cc own l E rm nL) (hM : Ct l E y bytes maxL none rmy (.ref b :: As) wc post) (hy : gY y bytes maxL none n) (hy1 : y.name = "<init>") (hv : Cond.instanceMethod y ∈ gTB) (hl : Cond.methodLink own index y ∈ gTB) (hn : As.length = n) (hfr : rmy.frames + 1 ≤ rm.frames) (hlo : 8 + (maxL + 11) + rmy.locals ≤ rm.locals)
    (isC : List Nat) (hC : isC.map (fun i => ws[i]?) = wc.map some) (hnd : va_nd isC = true) (rest : List Value) (hst : st = As.reverse ++ .ref b :: rest) (hcat : (rest.map fun v => v.category).sum ≤ 8) (hdg : decode cc pc = .ok (.invokespecial index, 3)) (hc : cells + rmy.cells ≤ rm.cells) (hs : slots + rmy.slots ≤ rm.slots) (hlen : ∀ v w dc ds, post v w dc ds → wc.length ≤ w.length)
    (kk : ∀ v w dc ds, post v w dc ds → gW X (gPut ws isC w) (cells + dc) (slots + ds) (pc + 3) lv (v.toList ++ rest)) : gW X ws cells slots pc lv st := by
  obtain ⟨p, l', e, R, s, m, args, below, meth, c, A, nL', Q, E'⟩ := X
  obtain ⟨rfl, rfl, rfl, rfl, hx, hbb, hml, hown, hts, hK, hN, hA⟩ := hX
  intro H locs ls hP hD hS hlv
  subst hst
  have hpre := gPre (av := .ref b :: As) hK hN hP hD isC hC hnd
  exact gBehind (va_runI (nL := nL') (cc := cc) (Ts := gTB) (rest := rest) (As := As) (b := b) (g := F0 m pc ls (As.reverse ++ .ref b :: rest)) ⟨hx, hbb, hml, hown, hts⟩ (hM H.size) ⟨gB_of hts hy hl hfr hlo, hy1, hts _ hv⟩ ⟨gP.blind, hpre⟩ rfl hn hlv.1 rfl (lv_room hcat) hdg ⟨hc, hs⟩) hA hP hD hS hlv isC hC hnd hlen kk
end GJ
end
section
-- LAYER: nest mates' calls, the library's members, switches
section GN
variable {X : gC} {cc : ByteArray} {own : String} {l : Launch} {E : gE} {rm rmy : Room} {nL : Nat} {ws wc : va_W} {cells slots pc : Nat} {lv : List (Nat × Value)} {st : List Value} {post : Option Value → va_W → Nat → Nat → Prop}
variable {y : MethodName} {bytes : ByteArray} {maxL n index b : Nat} {ret : Option FieldType} {As : List Value}
theorem gN_of {host : String} {s : State} {args : Array Value} (hts : ∀ w ∈ gTB, w.before args s = true) (hN : ∀ w ∈ gNW, va_Nw w s) (hy : gY y bytes maxL ret n) (hl : Cond.methodLinkNest own index y host ∈ gNW) (hfr : rmy.frames + 1 ≤ rm.frames) (hlo : 8 + (maxL + 11) + rmy.locals ≤ rm.locals) : va_CN rm s args own index y host bytes maxL ret (gw y bytes maxL ret) rmy rmy.cells rmy.slots n := by
  refine va_cnB (Ts := gTB) n hts ?_ rfl rfl rfl (hN _ hl) (hts _ hy.2.1) hy.2.2 ⟨hfr, hlo⟩
  intro w hw
  rcases List.mem_cons.mp hw with hw | hw
  · subst hw
    exact ⟨hy.1, Or.inl rfl⟩
  · exact ⟨hw, gTB_good w hw⟩
theorem g_callSN (hX : gOK X cc own l E rm nL) (hM : Ct l E y bytes maxL ret rmy As wc post) (hy : gY y bytes maxL ret n) (hv : Cond.static y ∈ gTB) {host : String} (hl : Cond.methodLinkNest own index y host ∈ gNW) (hn : As.length = n) (hfr : rmy.frames + 1 ≤ rm.frames) (hlo : 8 + (maxL + 11) + rmy.locals ≤ rm.locals)
    (isC : List Nat) (hC : isC.map (fun i => ws[i]?) = wc.map some) (hnd : va_nd isC = true) (rest : List Value) (hst : st = As.reverse ++ rest) (hcat : (rest.map fun v => v.category).sum ≤ 8) (hdg : decode cc pc = .ok (.invokestatic index, 3)) (hc : cells + rmy.cells ≤ rm.cells) (hs : slots + rmy.slots ≤ rm.slots) (hlen : ∀ v w dc ds, post v w dc ds → wc.length ≤ w.length)
    (kk : ∀ v w dc ds, post v w dc ds → gW X (gPut ws isC w) (cells + dc) (slots + ds) (pc + 3) lv (v.toList ++ rest)) : gW X ws cells slots pc lv st := by
  obtain ⟨p, l', e, R, s, m, args, below, meth, c, A, nL', Q, E'⟩ := X
  obtain ⟨rfl, rfl, rfl, rfl, hx, hbb, hml, hown, hts, hK, hN, hA⟩ := hX
  intro H locs ls hP hD hS hlv
  subst hst
  have hpre := gPre (av := As) hK hN hP hD isC hC hnd
  exact gBehind (va_runSN (nL := nL') (cc := cc) (Ts := gTB) (rest := rest) (As := As) (g := F0 m pc ls (As.reverse ++ rest)) ⟨hx, hbb, hml, hown, hts⟩ (hM H.size) ⟨gN_of hts hN hy hl hfr hlo, hts _ hv, trivial⟩ ⟨gP.blind, hpre⟩ rfl hn hlv.1 rfl (lv_room hcat) hdg ⟨hc, hs⟩) hA hP hD hS hlv isC hC hnd hlen kk
theorem g_callIN (hX : gOK X cc own l E rm nL) (hM : Ct l E y bytes maxL none rmy (.ref b :: As) wc post) (hy : gY y bytes maxL none n) (hy1 : y.name = "<init>") (hv : Cond.instanceMethod y ∈ gTB) {host : String} (hl : Cond.methodLinkNest own index y host ∈ gNW) (hn : As.length = n) (hfr : rmy.frames + 1 ≤ rm.frames) (hlo : 8 + (maxL + 11) + rmy.locals ≤ rm.locals)
    (isC : List Nat) (hC : isC.map (fun i => ws[i]?) = wc.map some) (hnd : va_nd isC = true) (rest : List Value) (hst : st = As.reverse ++ .ref b :: rest) (hcat : (rest.map fun v => v.category).sum ≤ 8) (hdg : decode cc pc = .ok (.invokespecial index, 3)) (hc : cells + rmy.cells ≤ rm.cells) (hs : slots + rmy.slots ≤ rm.slots) (hlen : ∀ v w dc ds, post v w dc ds → wc.length ≤ w.length)
    (kk : ∀ v w dc ds, post v w dc ds → gW X (gPut ws isC w) (cells + dc) (slots + ds) (pc + 3) lv (v.toList ++ rest)) : gW X ws cells slots pc lv st := by
  obtain ⟨p, l', e, R, s, m, args, below, meth, c, A, nL', Q, E'⟩ := X
  obtain ⟨rfl, rfl, rfl, rfl, hx, hbb, hml, hown, hts, hK, hN, hA⟩ := hX
  intro H locs ls hP hD hS hlv
  subst hst
  have hpre := gPre (av := .ref b :: As) hK hN hP hD isC hC hnd
  exact gBehind (va_runIN (nL := nL') (cc := cc) (Ts := gTB) (rest := rest) (As := As) (b := b) (g := F0 m pc ls (As.reverse ++ .ref b :: rest)) ⟨hx, hbb, hml, hown, hts⟩ (hM H.size) ⟨gN_of hts hN hy hl hfr hlo, hy1, hts _ hv⟩ ⟨gP.blind, hpre⟩ rfl hn hlv.1 rfl (lv_room hcat) hdg ⟨hc, hs⟩) hA hP hD hS hlv isC hC hnd hlen kk
theorem g_objInit (hX : gOK X cc own l E rm nL) {a : Nat} (h1 : Cond.methodLink own index Lib.objectInit ∈ gTB) (h2 : Cond.instanceMethod Lib.objectInit ∈ gTB) (h3 : Cond.code Lib.objectInit ⟨#[0xb1]⟩ 1 none ∈ gTB) (hfr : 1 ≤ rm.frames) (hlo : 20 ≤ rm.locals) (hcat : (st.map fun v => v.category).sum ≤ 8) (hdg : decode cc pc = .ok (.invokespecial index, 3)) (kk : gW X ws cells slots (pc + 3) lv st) : gW X ws cells slots pc lv (.ref a :: st) := by
  obtain ⟨p, l', e, R, s, m, args, below, meth, c, A, nL', Q, E'⟩ := X
  obtain ⟨rfl, rfl, rfl, rfl, hx, hbb, hml, hown, hts, hK, hN, hA⟩ := hX
  intro H locs ls hP hD hS hl
  have hr := lv_room (m := m) (pc := pc) (ls := ls) (rest := .ref a :: st) hcat
  exact W.objInit hx hbb hown (hts _ h1) (hts _ h2) (hts _ h3) rfl (by rw [hml]; exact hl.1) rfl hdg hfr (by omega) (kk H locs ls hP hD hS hl)
theorem g_mmax (hX : gOK X cc own l E rm nL) {a b : Int} (h1 : Cond.methodLink own index Lib.Math.max.name ∈ gTB) (h2 : Cond.static Lib.Math.max.name ∈ gTB) (h3 : Cond.initialized "java/lang/Math" ∈ gTB) (h4 : Cond.code Lib.Math.max.name Lib.Math.max.code 2 (some .int) ∈ gTB) (hfr : 1 ≤ rm.frames) (hlo : 21 ≤ rm.locals) (hcat : (st.map fun v => v.category).sum ≤ 8) (hc : cells ≤ rm.cells) (hs : slots ≤ rm.slots) (ha : gin a) (hb : gin b) (hdg : decode cc pc = .ok (.invokestatic index, 3)) (kk : gW X ws cells slots (pc + 3) lv (.int (iI (if a < b then b else a)) :: st)) : gW X ws cells slots pc lv (.int (iI b) :: .int (iI a) :: st) := by
  obtain ⟨p, l', e, R, s, m, args, below, meth, c, A, nL', Q, E'⟩ := X
  obtain ⟨rfl, rfl, rfl, rfl, hx, hbb, hml, hown, hts, hK, hN, hA⟩ := hX
  intro H locs ls hP hD hS hl
  refine va_mmax hx hbb (by rw [hml]; exact hl.1.symm) hown (hts _ h1) (hts _ h2) (hts _ h3) (hts _ h4) hfr (by omega) hc hs hdg ?_
  have e1 : (if iI a < iI b then iI b else iI a) = iI (if a < b then b else a) := by
    by_cases h : a < b
    · rw [if_pos h, if_pos ((iI_lt ha hb).mpr h)]
    · rw [if_neg h, if_neg (fun q => h ((iI_lt ha hb).mp q))]
  rw [e1]
  exact kk H locs ls hP hD hS hl
theorem g_mmin (hX : gOK X cc own l E rm nL) {a b : Int} (h1 : Cond.methodLink own index Lib.Math.min.name ∈ gTB) (h2 : Cond.static Lib.Math.min.name ∈ gTB) (h3 : Cond.initialized "java/lang/Math" ∈ gTB) (h4 : Cond.code Lib.Math.min.name Lib.Math.min.code 2 (some .int) ∈ gTB) (hfr : 1 ≤ rm.frames) (hlo : 21 ≤ rm.locals) (hcat : (st.map fun v => v.category).sum ≤ 8) (hc : cells ≤ rm.cells) (hs : slots ≤ rm.slots) (ha : gin a) (hb : gin b) (hdg : decode cc pc = .ok (.invokestatic index, 3)) (kk : gW X ws cells slots (pc + 3) lv (.int (iI (if b < a then b else a)) :: st)) : gW X ws cells slots pc lv (.int (iI b) :: .int (iI a) :: st) := by
  obtain ⟨p, l', e, R, s, m, args, below, meth, c, A, nL', Q, E'⟩ := X
  obtain ⟨rfl, rfl, rfl, rfl, hx, hbb, hml, hown, hts, hK, hN, hA⟩ := hX
  intro H locs ls hP hD hS hl
  refine va_mmin hx hbb (by rw [hml]; exact hl.1.symm) hown (hts _ h1) (hts _ h2) (hts _ h3) (hts _ h4) hfr (by omega) hc hs hdg ?_
  have e1 : (if iI b < iI a then iI b else iI a) = iI (if b < a then b else a) := by
    by_cases h : b < a
    · rw [if_pos h, if_pos ((iI_lt hb ha).mpr h)]
    · rw [if_neg h, if_neg (fun q => h ((iI_lt hb ha).mp q))]
  rw [e1]
  exact kk H locs ls hP hD hS hl
theorem g_tsw (hX : gOK X cc own l E rm nL) {a dflt lo hi off : Int} {offs : Array Int} {len tgt : Nat} (hdg : decode cc pc = .ok (.tableswitch dflt lo hi offs, len)) (ha : gin a) (h1 : lo ≤ a) (h2 : a ≤ hi) (ho : offs[(a - lo).toNat]? = some off) (ht : (pc : Int) + off = (tgt : Int)) (kk : gW X ws cells slots tgt lv st) : gW X ws cells slots pc lv (.int (iI a) :: st) := by
  obtain ⟨p, l', e, R, s, m, args, below, meth, c, A, nL', Q, E'⟩ := X
  obtain ⟨rfl, rfl, rfl, rfl, hx, hbb, hml, hown, hts, hK, hN, hA⟩ := hX
  intro H locs ls hP hD hS hl
  exact lv_tableIn hx hbb hdg (by rw [iI_t ha]; omega) (by rw [iI_t ha]; omega) (by rw [iI_t ha]; exact ho) ht (kk H locs ls hP hD hS hl)
theorem g_tswO (hX : gOK X cc own l E rm nL) {a dflt lo hi : Int} {offs : Array Int} {len tgt : Nat} (hdg : decode cc pc = .ok (.tableswitch dflt lo hi offs, len)) (ha : gin a) (h1 : a < lo ∨ hi < a) (ht : (pc : Int) + dflt = (tgt : Int)) (kk : gW X ws cells slots tgt lv st) : gW X ws cells slots pc lv (.int (iI a) :: st) := by
  obtain ⟨p, l', e, R, s, m, args, below, meth, c, A, nL', Q, E'⟩ := X
  obtain ⟨rfl, rfl, rfl, rfl, hx, hbb, hml, hown, hts, hK, hN, hA⟩ := hX
  intro H locs ls hP hD hS hl
  exact lv_tableOut hx hbb hdg (by rw [iI_t ha]; exact h1) ht (kk H locs ls hP hD hS hl)
theorem g_lsw (hX : gOK X cc own l E rm nL) {a dflt off : Int} {ps : Array (Int × Int)} {len tgt : Nat} (hdg : decode cc pc = .ok (.lookupswitch dflt ps, len)) (hp : (ps.toList.zip (ps.toList.drop 1)).all (fun (a, next) => a.1 < next.1) = true) (ha : gin a) (ho : Op.lookupswitch.offset ps.toList dflt a = off) (ht : (pc : Int) + off = (tgt : Int)) (kk : gW X ws cells slots tgt lv st) : gW X ws cells slots pc lv (.int (iI a) :: st) := by
  obtain ⟨p, l', e, R, s, m, args, below, meth, c, A, nL', Q, E'⟩ := X
  obtain ⟨rfl, rfl, rfl, rfl, hx, hbb, hml, hown, hts, hK, hN, hA⟩ := hX
  intro H locs ls hP hD hS hl
  exact lv_lookup hx hbb hdg hp (by rw [iI_t ha]; exact ho) ht (kk H locs ls hP hD hS hl)
end GN
end
section
theorem gt_GL : gT R_GL T_GL 2 t_GL := ⟨by decide +kernel, by decide +kernel⟩
theorem gt_PN : gT R_PN T_PN 7 t_PN := ⟨by decide +kernel, by decide +kernel⟩
theorem gt_RW : gT R_RW T_RW 4 t_RW := ⟨by decide +kernel, by decide +kernel⟩
theorem gt_SC : gT R_SC T_SC 4 t_SC := ⟨by decide +kernel, by decide +kernel⟩
theorem gt_NS : gT R_NS T_NS 8 t_NS := ⟨by decide +kernel, by decide +kernel⟩
theorem gt_MD : gT R_MD T_MD 22 t_MD := ⟨by decide +kernel, by decide +kernel⟩
theorem f_GL_9 : gF "NameScope$Globals" 9 0 0 R_GL T_GL 2 := ⟨in_GL, rfl, by decide, w_25⟩
theorem f_GL_15 : gF "NameScope$Globals" 15 0 1 R_GL T_GL 2 := ⟨in_GL, rfl, by decide, w_26⟩
theorem f_RW_9 : gF "NameScope$Row" 9 2 0 R_RW T_RW 4 := ⟨in_RW, rfl, by decide, w_39⟩
theorem f_RW_15 : gF "NameScope$Row" 15 2 1 R_RW T_RW 4 := ⟨in_RW, rfl, by decide, w_40⟩
theorem f_RW_19 : gF "NameScope$Row" 19 2 2 R_RW T_RW 4 := ⟨in_RW, rfl, by decide, w_41⟩
theorem f_RW_22 : gF "NameScope$Row" 22 2 3 R_RW T_RW 4 := ⟨in_RW, rfl, by decide, w_42⟩
theorem f_SC_9 : gF "NameScope$Scopes" 9 3 0 R_SC T_SC 4 := ⟨in_SC, rfl, by decide, w_59⟩
theorem f_SC_15 : gF "NameScope$Scopes" 15 3 1 R_SC T_SC 4 := ⟨in_SC, rfl, by decide, w_60⟩
theorem f_SC_19 : gF "NameScope$Scopes" 19 3 2 R_SC T_SC 4 := ⟨in_SC, rfl, by decide, w_61⟩
theorem f_SC_22 : gF "NameScope$Scopes" 22 3 3 R_SC T_SC 4 := ⟨in_SC, rfl, by decide, w_62⟩
theorem f_PN_32 : gF "NameScope$Pen" 32 1 0 R_PN T_PN 7 := ⟨in_PN, rfl, by decide, w_78⟩
theorem f_PN_36 : gF "NameScope$Pen" 36 1 1 R_PN T_PN 7 := ⟨in_PN, rfl, by decide, w_79⟩
theorem f_PN_11 : gF "NameScope$Pen" 11 1 2 R_PN T_PN 7 := ⟨in_PN, rfl, by decide, w_80⟩
theorem f_PN_17 : gF "NameScope$Pen" 17 1 3 R_PN T_PN 7 := ⟨in_PN, rfl, by decide, w_81⟩
theorem f_PN_20 : gF "NameScope$Pen" 20 1 4 R_PN T_PN 7 := ⟨in_PN, rfl, by decide, w_82⟩
theorem f_PN_24 : gF "NameScope$Pen" 24 1 5 R_PN T_PN 7 := ⟨in_PN, rfl, by decide, w_83⟩
theorem f_PN_28 : gF "NameScope$Pen" 28 1 6 R_PN T_PN 7 := ⟨in_PN, rfl, by decide, w_84⟩
theorem f_NS_10 : gF "NameScope" 10 4 0 R_NS T_NS 8 := ⟨in_NS, rfl, by decide, w_101⟩
theorem f_NS_19 : gF "NameScope" 19 4 1 R_NS T_NS 8 := ⟨in_NS, rfl, by decide, w_102⟩
theorem f_NS_23 : gF "NameScope" 23 4 2 R_NS T_NS 8 := ⟨in_NS, rfl, by decide, w_103⟩
theorem f_NS_26 : gF "NameScope" 26 4 3 R_NS T_NS 8 := ⟨in_NS, rfl, by decide, w_104⟩
theorem f_NS_32 : gF "NameScope" 32 4 4 R_NS T_NS 8 := ⟨in_NS, rfl, by decide, w_105⟩
theorem f_NS_41 : gF "NameScope" 41 4 5 R_NS T_NS 8 := ⟨in_NS, rfl, by decide, w_106⟩
theorem f_NS_45 : gF "NameScope" 45 4 6 R_NS T_NS 8 := ⟨in_NS, rfl, by decide, w_107⟩
theorem f_NS_48 : gF "NameScope" 48 4 7 R_NS T_NS 8 := ⟨in_NS, rfl, by decide, w_108⟩
theorem f_MD_7 : gF "NameScopeModel" 7 5 0 R_MD T_MD 22 := ⟨in_MD, rfl, by decide, w_461⟩
theorem f_MD_71 : gF "NameScopeModel" 71 5 1 R_MD T_MD 22 := ⟨in_MD, rfl, by decide, w_462⟩
theorem f_MD_13 : gF "NameScopeModel" 13 5 2 R_MD T_MD 22 := ⟨in_MD, rfl, by decide, w_463⟩
theorem f_MD_17 : gF "NameScopeModel" 17 5 3 R_MD T_MD 22 := ⟨in_MD, rfl, by decide, w_464⟩
theorem f_MD_83 : gF "NameScopeModel" 83 5 4 R_MD T_MD 22 := ⟨in_MD, rfl, by decide, w_465⟩
theorem f_MD_20 : gF "NameScopeModel" 20 5 5 R_MD T_MD 22 := ⟨in_MD, rfl, by decide, w_466⟩
theorem f_MD_23 : gF "NameScopeModel" 23 5 6 R_MD T_MD 22 := ⟨in_MD, rfl, by decide, w_467⟩
theorem f_MD_53 : gF "NameScopeModel" 53 5 7 R_MD T_MD 22 := ⟨in_MD, rfl, by decide, w_468⟩
theorem f_MD_26 : gF "NameScopeModel" 26 5 8 R_MD T_MD 22 := ⟨in_MD, rfl, by decide, w_469⟩
theorem f_MD_29 : gF "NameScopeModel" 29 5 9 R_MD T_MD 22 := ⟨in_MD, rfl, by decide, w_470⟩
theorem f_MD_159 : gF "NameScopeModel" 159 5 10 R_MD T_MD 22 := ⟨in_MD, rfl, by decide, w_471⟩
theorem f_MD_32 : gF "NameScopeModel" 32 5 11 R_MD T_MD 22 := ⟨in_MD, rfl, by decide, w_472⟩
theorem f_MD_35 : gF "NameScopeModel" 35 5 12 R_MD T_MD 22 := ⟨in_MD, rfl, by decide, w_473⟩
theorem f_MD_156 : gF "NameScopeModel" 156 5 13 R_MD T_MD 22 := ⟨in_MD, rfl, by decide, w_474⟩
theorem f_MD_38 : gF "NameScopeModel" 38 5 14 R_MD T_MD 22 := ⟨in_MD, rfl, by decide, w_475⟩
theorem f_MD_41 : gF "NameScopeModel" 41 5 15 R_MD T_MD 22 := ⟨in_MD, rfl, by decide, w_476⟩
theorem f_MD_124 : gF "NameScopeModel" 124 5 16 R_MD T_MD 22 := ⟨in_MD, rfl, by decide, w_477⟩
theorem f_MD_44 : gF "NameScopeModel" 44 5 17 R_MD T_MD 22 := ⟨in_MD, rfl, by decide, w_478⟩
theorem f_MD_47 : gF "NameScopeModel" 47 5 18 R_MD T_MD 22 := ⟨in_MD, rfl, by decide, w_479⟩
theorem f_MD_50 : gF "NameScopeModel" 50 5 19 R_MD T_MD 22 := ⟨in_MD, rfl, by decide, w_480⟩
theorem f_MD_94 : gF "NameScopeModel" 94 5 20 R_MD T_MD 22 := ⟨in_MD, rfl, by decide, w_481⟩
theorem f_MD_105 : gF "NameScopeModel" 105 5 21 R_MD T_MD 22 := ⟨in_MD, rfl, by decide, w_482⟩
abbrev b_NS_init : ByteArray := prog_1_method_1_code
abbrev y_NS_init : MethodName := ⟨"NameScope", "<init>", "()V"⟩
theorem gy_NS_init : gY y_NS_init b_NS_init 1 none 0 := ⟨w_15, w_1, by decide, by decide, by decide +kernel⟩
abbrev b_GL_init : ByteArray := prog_2_method_1_code
abbrev y_GL_init : MethodName := ⟨"NameScope$Globals", "<init>", "()V"⟩
theorem gy_GL_init : gY y_GL_init b_GL_init 1 none 0 := ⟨w_23, w_2, by decide, by decide, by decide +kernel⟩
abbrev b_RW_init : ByteArray := prog_5_method_1_code
abbrev y_RW_init : MethodName := ⟨"NameScope$Row", "<init>", "()V"⟩
theorem gy_RW_init : gY y_RW_init b_RW_init 1 none 0 := ⟨w_37, w_3, by decide, by decide, by decide +kernel⟩
abbrev b_SC_init : ByteArray := prog_6_method_1_code
abbrev y_SC_init : MethodName := ⟨"NameScope$Scopes", "<init>", "()V"⟩
theorem gy_SC_init : gY y_SC_init b_SC_init 1 none 0 := ⟨w_57, w_4, by decide, by decide, by decide +kernel⟩
abbrev b_PN_init : ByteArray := prog_4_method_1_code
abbrev y_PN_init : MethodName := ⟨"NameScope$Pen", "<init>", "(LNameScope$Globals;LNameScope$Scopes;)V"⟩
theorem gy_PN_init : gY y_PN_init b_PN_init 3 none 2 := ⟨w_76, w_5, by decide, by decide, by decide +kernel⟩
abbrev b_NS_global : ByteArray := prog_1_method_2_code
abbrev y_NS_global : MethodName := ⟨"NameScope", "global", "(J)I"⟩
theorem gy_NS_global : gY y_NS_global b_NS_global 3 (some .int) 1 := ⟨w_129, w_1, by decide, by decide, by decide +kernel⟩
theorem gv_NS_global : gYV y_NS_global := ⟨w_127, w_128⟩
abbrev b_NM_canBeGiven : ByteArray := prog_3_method_2_code
abbrev y_NM_canBeGiven : MethodName := ⟨"NameScope$Names", "canBeGiven", "(J)Z"⟩
theorem gy_NM_canBeGiven : gY y_NM_canBeGiven b_NM_canBeGiven 9 (some .boolean) 1 := ⟨w_132, w_7, by decide, by decide, by decide +kernel⟩
abbrev b_NM_isDigit : ByteArray := prog_3_method_6_code
abbrev y_NM_isDigit : MethodName := ⟨"NameScope$Names", "isDigit", "(J)Z"⟩
theorem gy_NM_isDigit : gY y_NM_isDigit b_NM_isDigit 2 (some .boolean) 1 := ⟨w_138, w_7, by decide, by decide, by decide +kernel⟩
abbrev b_GL_add : ByteArray := prog_2_method_3_code
abbrev y_GL_add : MethodName := ⟨"NameScope$Globals", "add", "(J)I"⟩
theorem gy_GL_add : gY y_GL_add b_GL_add 3 (some .int) 1 := ⟨w_144, w_2, by decide, by decide, by decide +kernel⟩
theorem gv_GL_add : gYV y_GL_add := ⟨w_142, w_143⟩
abbrev b_GL_find : ByteArray := prog_2_method_4_code
abbrev y_GL_find : MethodName := ⟨"NameScope$Globals", "find", "(J)I"⟩
theorem gy_GL_find : gY y_GL_find b_GL_find 4 (some .int) 1 := ⟨w_148, w_2, by decide, by decide, by decide +kernel⟩
theorem gv_GL_find : gYV y_GL_find := ⟨w_146, w_147⟩
abbrev b_NS_lay : ByteArray := prog_1_method_3_code
abbrev y_NS_lay : MethodName := ⟨"NameScope", "lay", "(IJ)I"⟩
theorem gy_NS_lay : gY y_NS_lay b_NS_lay 4 (some .int) 2 := ⟨w_152, w_1, by decide, by decide, by decide +kernel⟩
theorem gv_NS_lay : gYV y_NS_lay := ⟨w_150, w_151⟩
abbrev b_NS_canBeBeside : ByteArray := prog_1_method_15_code
abbrev y_NS_canBeBeside : MethodName := ⟨"NameScope", "canBeBeside", "(IJ)Z"⟩
theorem gy_NS_canBeBeside : gY y_NS_canBeBeside b_NS_canBeBeside 3 (some .boolean) 2 := ⟨w_155, w_1, by decide, by decide, by decide +kernel⟩
abbrev b_RW_count : ByteArray := prog_5_method_2_code
abbrev y_RW_count : MethodName := ⟨"NameScope$Row", "count", "()I"⟩
theorem gy_RW_count : gY y_RW_count b_RW_count 1 (some .int) 0 := ⟨w_160, w_3, by decide, by decide, by decide +kernel⟩
theorem gv_RW_count : gYV y_RW_count := ⟨w_158, w_159⟩
abbrev b_RW_add : ByteArray := prog_5_method_10_code
abbrev y_RW_add : MethodName := ⟨"NameScope$Row", "add", "(IJ)V"⟩
theorem gy_RW_add : gY y_RW_add b_RW_add 4 none 2 := ⟨w_164, w_3, by decide, by decide, by decide +kernel⟩
theorem gv_RW_add : gYV y_RW_add := ⟨w_162, w_163⟩
abbrev b_RW_makeRoom : ByteArray := prog_5_method_14_code
abbrev y_RW_makeRoom : MethodName := ⟨"NameScope$Row", "makeRoom", "(I)V"⟩
theorem gy_RW_makeRoom : gY y_RW_makeRoom b_RW_makeRoom 3 none 1 := ⟨w_168, w_3, by decide, by decide, by decide +kernel⟩
theorem gv_RW_makeRoom : gYV y_RW_makeRoom := ⟨w_167, p_0⟩
abbrev b_NS_longer : ByteArray := prog_1_method_18_code
abbrev y_NS_longer : MethodName := ⟨"NameScope", "longer", "(II)I"⟩
theorem gy_NS_longer : gY y_NS_longer b_NS_longer 2 (some .int) 2 := ⟨w_171, w_1, by decide, by decide, by decide +kernel⟩
abbrev b_AR_copyOfI : ByteArray := prog_12_method_123_code
abbrev y_AR_copyOfI : MethodName := ⟨"java/util/Arrays", "copyOf", "([II)[I"⟩
theorem gy_AR_copyOfI : gY y_AR_copyOfI b_AR_copyOfI 3 (some (.array .int)) 2 := ⟨w_177, w_9, by decide, by decide, by decide +kernel⟩
abbrev b_AR_copyOfL : ByteArray := prog_12_method_124_code
abbrev y_AR_copyOfL : MethodName := ⟨"java/util/Arrays", "copyOf", "([JI)[J"⟩
theorem gy_AR_copyOfL : gY y_AR_copyOfL b_AR_copyOfL 3 (some (.array .long)) 2 := ⟨w_193, w_9, by decide, by decide, by decide +kernel⟩
abbrev b_NS_drop : ByteArray := prog_1_method_4_code
abbrev y_NS_drop : MethodName := ⟨"NameScope", "drop", "()I"⟩
theorem gy_NS_drop : gY y_NS_drop b_NS_drop 2 (some .int) 0 := ⟨w_202, w_1, by decide, by decide, by decide +kernel⟩
theorem gv_NS_drop : gYV y_NS_drop := ⟨w_200, w_201⟩
abbrev b_RW_clear : ByteArray := prog_5_method_9_code
abbrev y_RW_clear : MethodName := ⟨"NameScope$Row", "clear", "()V"⟩
theorem gy_RW_clear : gY y_RW_clear b_RW_clear 1 none 0 := ⟨w_206, w_3, by decide, by decide, by decide +kernel⟩
theorem gv_RW_clear : gYV y_RW_clear := ⟨w_204, w_205⟩
abbrev b_NS_bind : ByteArray := prog_1_method_5_code
abbrev y_NS_bind : MethodName := ⟨"NameScope", "bind", "()I"⟩
theorem gy_NS_bind : gY y_NS_bind b_NS_bind 3 (some .int) 0 := ⟨w_210, w_1, by decide, by decide, by decide +kernel⟩
theorem gv_NS_bind : gYV y_NS_bind := ⟨w_208, w_209⟩
abbrev b_RW_measure : ByteArray := prog_5_method_13_code
abbrev y_RW_measure : MethodName := ⟨"NameScope$Row", "measure", "()Z"⟩
theorem gy_RW_measure : gY y_RW_measure b_RW_measure 3 (some .boolean) 0 := ⟨w_214, w_3, by decide, by decide, by decide +kernel⟩
theorem gv_RW_measure : gYV y_RW_measure := ⟨w_212, w_213⟩
abbrev b_NS_hasParts : ByteArray := prog_1_method_17_code
abbrev y_NS_hasParts : MethodName := ⟨"NameScope", "hasParts", "(I)Z"⟩
theorem gy_NS_hasParts : gY y_NS_hasParts b_NS_hasParts 1 (some .boolean) 1 := ⟨w_217, w_1, by decide, by decide, by decide +kernel⟩
abbrev b_NS_isBinder : ByteArray := prog_1_method_16_code
abbrev y_NS_isBinder : MethodName := ⟨"NameScope", "isBinder", "(I)Z"⟩
theorem gy_NS_isBinder : gY y_NS_isBinder b_NS_isBinder 1 (some .boolean) 1 := ⟨w_220, w_1, by decide, by decide, by decide +kernel⟩
abbrev b_RW_second : ByteArray := prog_5_method_8_code
abbrev y_RW_second : MethodName := ⟨"NameScope$Row", "second", "(I)I"⟩
theorem gy_RW_second : gY y_RW_second b_RW_second 2 (some .int) 1 := ⟨w_224, w_3, by decide, by decide, by decide +kernel⟩
theorem gv_RW_second : gYV y_RW_second := ⟨w_222, w_223⟩
abbrev b_RW_end : ByteArray := prog_5_method_7_code
abbrev y_RW_end : MethodName := ⟨"NameScope$Row", "end", "(I)I"⟩
theorem gy_RW_end : gY y_RW_end b_RW_end 2 (some .int) 1 := ⟨w_228, w_3, by decide, by decide, by decide +kernel⟩
theorem gv_RW_end : gYV y_RW_end := ⟨w_226, w_227⟩
abbrev b_RW_size : ByteArray := prog_5_method_6_code
abbrev y_RW_size : MethodName := ⟨"NameScope$Row", "size", "(I)I"⟩
theorem gy_RW_size : gY y_RW_size b_RW_size 2 (some .int) 1 := ⟨w_232, w_3, by decide, by decide, by decide +kernel⟩
theorem gv_RW_size : gYV y_RW_size := ⟨w_230, w_231⟩
abbrev b_RW_has : ByteArray := prog_5_method_3_code
abbrev y_RW_has : MethodName := ⟨"NameScope$Row", "has", "(I)Z"⟩
theorem gy_RW_has : gY y_RW_has b_RW_has 2 (some .boolean) 1 := ⟨w_236, w_3, by decide, by decide, by decide +kernel⟩
theorem gv_RW_has : gYV y_RW_has := ⟨w_234, w_235⟩
abbrev b_SC_read : ByteArray := prog_6_method_2_code
abbrev y_SC_read : MethodName := ⟨"NameScope$Scopes", "read", "(LNameScope$Row;)V"⟩
theorem gy_SC_read : gY y_SC_read b_SC_read 5 none 1 := ⟨w_240, w_4, by decide, by decide, by decide +kernel⟩
theorem gv_SC_read : gYV y_SC_read := ⟨w_238, w_239⟩
abbrev b_SC_makeRoom : ByteArray := prog_6_method_10_code
abbrev y_SC_makeRoom : MethodName := ⟨"NameScope$Scopes", "makeRoom", "(I)V"⟩
theorem gy_SC_makeRoom : gY y_SC_makeRoom b_SC_makeRoom 3 none 1 := ⟨w_245, w_4, by decide, by decide, by decide +kernel⟩
theorem gv_SC_makeRoom : gYV y_SC_makeRoom := ⟨w_244, p_1⟩
abbrev b_SC_setInnermost : ByteArray := prog_6_method_9_code
abbrev y_SC_setInnermost : MethodName := ⟨"NameScope$Scopes", "setInnermost", "(II)V"⟩
theorem gy_SC_setInnermost : gY y_SC_setInnermost b_SC_setInnermost 3 none 2 := ⟨w_250, w_4, by decide, by decide, by decide +kernel⟩
theorem gv_SC_setInnermost : gYV y_SC_setInnermost := ⟨w_249, p_2⟩
abbrev b_SC_depth : ByteArray := prog_6_method_3_code
abbrev y_SC_depth : MethodName := ⟨"NameScope$Scopes", "depth", "(I)I"⟩
theorem gy_SC_depth : gY y_SC_depth b_SC_depth 2 (some .int) 1 := ⟨w_254, w_4, by decide, by decide, by decide +kernel⟩
theorem gv_SC_depth : gYV y_SC_depth := ⟨w_252, w_253⟩
abbrev b_RW_kind : ByteArray := prog_5_method_4_code
abbrev y_RW_kind : MethodName := ⟨"NameScope$Row", "kind", "(I)I"⟩
theorem gy_RW_kind : gY y_RW_kind b_RW_kind 2 (some .int) 1 := ⟨w_258, w_3, by decide, by decide, by decide +kernel⟩
theorem gv_RW_kind : gYV y_RW_kind := ⟨w_256, w_257⟩
abbrev b_SC_enter : ByteArray := prog_6_method_5_code
abbrev y_SC_enter : MethodName := ⟨"NameScope$Scopes", "enter", "(I)V"⟩
theorem gy_SC_enter : gY y_SC_enter b_SC_enter 3 none 1 := ⟨w_265, w_4, by decide, by decide, by decide +kernel⟩
theorem gv_SC_enter : gYV y_SC_enter := ⟨w_263, w_264⟩
abbrev b_SC_innermost : ByteArray := prog_6_method_4_code
abbrev y_SC_innermost : MethodName := ⟨"NameScope$Scopes", "innermost", "(I)I"⟩
theorem gy_SC_innermost : gY y_SC_innermost b_SC_innermost 2 (some .int) 1 := ⟨w_269, w_4, by decide, by decide, by decide +kernel⟩
theorem gv_SC_innermost : gYV y_SC_innermost := ⟨w_267, w_268⟩
abbrev b_NS_bindNode : ByteArray := prog_1_method_20_code
abbrev y_NS_bindNode : MethodName := ⟨"NameScope", "bindNode", "(I)Z"⟩
theorem gy_NS_bindNode : gY y_NS_bindNode b_NS_bindNode 5 (some .boolean) 1 := ⟨w_273, w_1, by decide, by decide, by decide +kernel⟩
theorem gv_NS_bindNode : gYV y_NS_bindNode := ⟨w_272, p_3⟩
abbrev b_RW_beside : ByteArray := prog_5_method_5_code
abbrev y_RW_beside : MethodName := ⟨"NameScope$Row", "beside", "(I)J"⟩
theorem gy_RW_beside : gY y_RW_beside b_RW_beside 2 (some .long) 1 := ⟨w_278, w_3, by decide, by decide, by decide +kernel⟩
theorem gv_RW_beside : gYV y_RW_beside := ⟨w_276, w_277⟩
abbrev b_NS_bindName : ByteArray := prog_1_method_21_code
abbrev y_NS_bindName : MethodName := ⟨"NameScope", "bindName", "(IJ)Z"⟩
theorem gy_NS_bindName : gY y_NS_bindName b_NS_bindName 6 (some .boolean) 2 := ⟨w_283, w_1, by decide, by decide, by decide +kernel⟩
theorem gv_NS_bindName : gYV y_NS_bindName := ⟨w_282, p_4⟩
abbrev b_SC_indexOf : ByteArray := prog_6_method_8_code
abbrev y_SC_indexOf : MethodName := ⟨"NameScope$Scopes", "indexOf", "(JLNameScope$Row;I)I"⟩
theorem gy_SC_indexOf : gY y_SC_indexOf b_SC_indexOf 7 (some .int) 3 := ⟨w_287, w_4, by decide, by decide, by decide +kernel⟩
theorem gv_SC_indexOf : gYV y_SC_indexOf := ⟨w_285, w_286⟩
abbrev b_SC_open : ByteArray := prog_6_method_6_code
abbrev y_SC_open : MethodName := ⟨"NameScope$Scopes", "open", "(I)I"⟩
theorem gy_SC_open : gY y_SC_open b_SC_open 2 (some .int) 1 := ⟨w_291, w_4, by decide, by decide, by decide +kernel⟩
theorem gv_SC_open : gYV y_SC_open := ⟨w_289, w_290⟩
abbrev b_NM_firstFour : ByteArray := prog_3_method_3_code
abbrev y_NM_firstFour : MethodName := ⟨"NameScope$Names", "firstFour", "(J)J"⟩
theorem gy_NM_firstFour : gY y_NM_firstFour b_NM_firstFour 5 (some .long) 1 := ⟨w_296, w_7, by decide, by decide, by decide +kernel⟩
abbrev b_NS_takeSpare : ByteArray := prog_1_method_19_code
abbrev y_NS_takeSpare : MethodName := ⟨"NameScope", "takeSpare", "()V"⟩
theorem gy_NS_takeSpare : gY y_NS_takeSpare b_NS_takeSpare 2 none 0 := ⟨w_300, w_1, by decide, by decide, by decide +kernel⟩
theorem gv_NS_takeSpare : gYV y_NS_takeSpare := ⟨w_299, p_5⟩
abbrev b_NS_nodes : ByteArray := prog_1_method_6_code
abbrev y_NS_nodes : MethodName := ⟨"NameScope", "nodes", "()I"⟩
theorem gy_NS_nodes : gY y_NS_nodes b_NS_nodes 1 (some .int) 0 := ⟨w_304, w_1, by decide, by decide, by decide +kernel⟩
theorem gv_NS_nodes : gYV y_NS_nodes := ⟨w_302, w_303⟩
abbrev b_NS_node : ByteArray := prog_1_method_7_code
abbrev y_NS_node : MethodName := ⟨"NameScope", "node", "(II)J"⟩
theorem gy_NS_node : gY y_NS_node b_NS_node 3 (some .long) 2 := ⟨w_308, w_1, by decide, by decide, by decide +kernel⟩
theorem gv_NS_node : gYV y_NS_node := ⟨w_306, w_307⟩
abbrev b_NS_uses : ByteArray := prog_1_method_8_code
abbrev y_NS_uses : MethodName := ⟨"NameScope", "uses", "(I)I"⟩
theorem gy_NS_uses : gY y_NS_uses b_NS_uses 2 (some .int) 1 := ⟨w_315, w_1, by decide, by decide, by decide +kernel⟩
theorem gv_NS_uses : gYV y_NS_uses := ⟨w_313, w_314⟩
abbrev b_NS_countUses : ByteArray := prog_1_method_23_code
abbrev y_NS_countUses : MethodName := ⟨"NameScope", "countUses", "(I)I"⟩
theorem gy_NS_countUses : gY y_NS_countUses b_NS_countUses 6 (some .int) 1 := ⟨w_319, w_1, by decide, by decide, by decide +kernel⟩
theorem gv_NS_countUses : gYV y_NS_countUses := ⟨w_318, p_6⟩
abbrev b_NS_contract : ByteArray := prog_1_method_9_code
abbrev y_NS_contract : MethodName := ⟨"NameScope", "contract", "(I)I"⟩
theorem gy_NS_contract : gY y_NS_contract b_NS_contract 6 (some .int) 1 := ⟨w_326, w_1, by decide, by decide, by decide +kernel⟩
theorem gv_NS_contract : gYV y_NS_contract := ⟨w_324, w_325⟩
abbrev b_NS_contractible : ByteArray := prog_1_method_22_code
abbrev y_NS_contractible : MethodName := ⟨"NameScope", "contractible", "(I)I"⟩
theorem gy_NS_contractible : gY y_NS_contractible b_NS_contractible 2 (some .int) 1 := ⟨w_330, w_1, by decide, by decide, by decide +kernel⟩
theorem gv_NS_contractible : gYV y_NS_contractible := ⟨w_329, p_7⟩
abbrev b_NS_copy : ByteArray := prog_1_method_24_code
abbrev y_NS_copy : MethodName := ⟨"NameScope", "copy", "(II)V"⟩
theorem gy_NS_copy : gY y_NS_copy b_NS_copy 4 none 2 := ⟨w_334, w_1, by decide, by decide, by decide +kernel⟩
theorem gv_NS_copy : gYV y_NS_copy := ⟨w_333, p_8⟩
abbrev b_NS_copyLastPart : ByteArray := prog_1_method_25_code
abbrev y_NS_copyLastPart : MethodName := ⟨"NameScope", "copyLastPart", "(II)V"⟩
theorem gy_NS_copyLastPart : gY y_NS_copyLastPart b_NS_copyLastPart 10 none 2 := ⟨w_338, w_1, by decide, by decide, by decide +kernel⟩
theorem gv_NS_copyLastPart : gYV y_NS_copyLastPart := ⟨w_337, p_9⟩
abbrev b_NS_copyDeeper : ByteArray := prog_1_method_26_code
abbrev y_NS_copyDeeper : MethodName := ⟨"NameScope", "copyDeeper", "(II)V"⟩
theorem gy_NS_copyDeeper : gY y_NS_copyDeeper b_NS_copyDeeper 9 none 2 := ⟨w_342, w_1, by decide, by decide, by decide +kernel⟩
theorem gv_NS_copyDeeper : gYV y_NS_copyDeeper := ⟨w_341, p_10⟩
abbrev b_NS_write : ByteArray := prog_1_method_10_code
abbrev y_NS_write : MethodName := ⟨"NameScope", "write", "()I"⟩
theorem gy_NS_write : gY y_NS_write b_NS_write 1 (some .int) 0 := ⟨w_346, w_1, by decide, by decide, by decide +kernel⟩
theorem gv_NS_write : gYV y_NS_write := ⟨w_344, w_345⟩
abbrev b_PN_put : ByteArray := prog_4_method_2_code
abbrev y_PN_put : MethodName := ⟨"NameScope$Pen", "put", "(LNameScope$Row;LNameScope$Row;)V"⟩
theorem gy_PN_put : gY y_PN_put b_PN_put 6 none 2 := ⟨w_350, w_5, by decide, by decide, by decide +kernel⟩
theorem gv_PN_put : gYV y_PN_put := ⟨w_348, w_349⟩
abbrev b_PN_makeRoom : ByteArray := prog_4_method_13_code
abbrev y_PN_makeRoom : MethodName := ⟨"NameScope$Pen", "makeRoom", "(I)V"⟩
theorem gy_PN_makeRoom : gY y_PN_makeRoom b_PN_makeRoom 3 none 1 := ⟨w_355, w_5, by decide, by decide, by decide +kernel⟩
theorem gv_PN_makeRoom : gYV y_PN_makeRoom := ⟨w_354, p_11⟩
abbrev b_PN_linkUses : ByteArray := prog_4_method_3_code
abbrev y_PN_linkUses : MethodName := ⟨"NameScope$Pen", "linkUses", "(LNameScope$Row;)V"⟩
theorem gy_PN_linkUses : gY y_PN_linkUses b_PN_linkUses 6 none 1 := ⟨w_361, w_5, by decide, by decide, by decide +kernel⟩
theorem gv_PN_linkUses : gYV y_PN_linkUses := ⟨w_360, p_12⟩
abbrev b_PN_usedBy : ByteArray := prog_4_method_4_code
abbrev y_PN_usedBy : MethodName := ⟨"NameScope$Pen", "usedBy", "(ILNameScope$Row;)I"⟩
theorem gy_PN_usedBy : gY y_PN_usedBy b_PN_usedBy 5 (some .int) 2 := ⟨w_367, w_5, by decide, by decide, by decide +kernel⟩
theorem gv_PN_usedBy : gYV y_PN_usedBy := ⟨w_366, p_13⟩
abbrev b_SC_binderOf : ByteArray := prog_6_method_7_code
abbrev y_SC_binderOf : MethodName := ⟨"NameScope$Scopes", "binderOf", "(IJ)I"⟩
theorem gy_SC_binderOf : gY y_SC_binderOf b_SC_binderOf 6 (some .int) 2 := ⟨w_374, w_4, by decide, by decide, by decide +kernel⟩
theorem gv_SC_binderOf : gYV y_SC_binderOf := ⟨w_372, w_373⟩
abbrev b_PN_setNext : ByteArray := prog_4_method_6_code
abbrev y_PN_setNext : MethodName := ⟨"NameScope$Pen", "setNext", "(II)V"⟩
theorem gy_PN_setNext : gY y_PN_setNext b_PN_setNext 3 none 2 := ⟨w_378, w_5, by decide, by decide, by decide +kernel⟩
theorem gv_PN_setNext : gYV y_PN_setNext := ⟨w_377, p_14⟩
abbrev b_PN_chooseName : ByteArray := prog_4_method_9_code
abbrev y_PN_chooseName : MethodName := ⟨"NameScope$Pen", "chooseName", "(ILNameScope$Row;LNameScope$Row;)J"⟩
theorem gy_PN_chooseName : gY y_PN_chooseName b_PN_chooseName 7 (some .long) 3 := ⟨w_385, w_5, by decide, by decide, by decide +kernel⟩
theorem gv_PN_chooseName : gYV y_PN_chooseName := ⟨w_384, p_15⟩
abbrev b_PN_gatherNear : ByteArray := prog_4_method_10_code
abbrev y_PN_gatherNear : MethodName := ⟨"NameScope$Pen", "gatherNear", "(IILNameScope$Row;)V"⟩
theorem gy_PN_gatherNear : gY y_PN_gatherNear b_PN_gatherNear 8 none 3 := ⟨w_391, w_5, by decide, by decide, by decide +kernel⟩
theorem gv_PN_gatherNear : gYV y_PN_gatherNear := ⟨w_390, p_16⟩
abbrev b_GL_count : ByteArray := prog_2_method_2_code
abbrev y_GL_count : MethodName := ⟨"NameScope$Globals", "count", "()I"⟩
theorem gy_GL_count : gY y_GL_count b_GL_count 1 (some .int) 0 := ⟨w_395, w_2, by decide, by decide, by decide +kernel⟩
theorem gv_GL_count : gYV y_GL_count := ⟨w_393, w_394⟩
abbrev b_PN_nextOf : ByteArray := prog_4_method_5_code
abbrev y_PN_nextOf : MethodName := ⟨"NameScope$Pen", "nextOf", "(I)I"⟩
theorem gy_PN_nextOf : gY y_PN_nextOf b_PN_nextOf 2 (some .int) 1 := ⟨w_399, w_5, by decide, by decide, by decide +kernel⟩
theorem gv_PN_nextOf : gYV y_PN_nextOf := ⟨w_398, p_17⟩
abbrev b_GL_name : ByteArray := prog_2_method_5_code
abbrev y_GL_name : MethodName := ⟨"NameScope$Globals", "name", "(J)J"⟩
theorem gy_GL_name : gY y_GL_name b_GL_name 3 (some .long) 1 := ⟨w_403, w_2, by decide, by decide, by decide +kernel⟩
theorem gv_GL_name : gYV y_GL_name := ⟨w_401, w_402⟩
abbrev b_PN_addNear : ByteArray := prog_4_method_11_code
abbrev y_PN_addNear : MethodName := ⟨"NameScope$Pen", "addNear", "(J)V"⟩
theorem gy_PN_addNear : gY y_PN_addNear b_PN_addNear 3 none 1 := ⟨w_407, w_5, by decide, by decide, by decide +kernel⟩
theorem gv_PN_addNear : gYV y_PN_addNear := ⟨w_406, p_18⟩
abbrev b_PN_leastNumber : ByteArray := prog_4_method_12_code
abbrev y_PN_leastNumber : MethodName := ⟨"NameScope$Pen", "leastNumber", "(J)I"⟩
theorem gy_PN_leastNumber : gY y_PN_leastNumber b_PN_leastNumber 5 (some .int) 1 := ⟨w_413, w_5, by decide, by decide, by decide +kernel⟩
theorem gv_PN_leastNumber : gYV y_PN_leastNumber := ⟨w_412, p_19⟩
abbrev b_NM_numberBehind : ByteArray := prog_3_method_5_code
abbrev y_NM_numberBehind : MethodName := ⟨"NameScope$Names", "numberBehind", "(JJ)I"⟩
theorem gy_NM_numberBehind : gY y_NM_numberBehind b_NM_numberBehind 11 (some .int) 2 := ⟨w_416, w_7, by decide, by decide, by decide +kernel⟩
abbrev b_NM_numbered : ByteArray := prog_3_method_4_code
abbrev y_NM_numbered : MethodName := ⟨"NameScope$Names", "numbered", "(JI)J"⟩
theorem gy_NM_numbered : gY y_NM_numbered b_NM_numbered 6 (some .long) 2 := ⟨w_420, w_7, by decide, by decide, by decide +kernel⟩
abbrev b_RW_setBeside : ByteArray := prog_5_method_11_code
abbrev y_RW_setBeside : MethodName := ⟨"NameScope$Row", "setBeside", "(IJ)V"⟩
theorem gy_RW_setBeside : gY y_RW_setBeside b_RW_setBeside 4 none 2 := ⟨w_424, w_3, by decide, by decide, by decide +kernel⟩
theorem gv_RW_setBeside : gYV y_RW_setBeside := ⟨w_422, w_423⟩
abbrev b_PN_putNode : ByteArray := prog_4_method_7_code
abbrev y_PN_putNode : MethodName := ⟨"NameScope$Pen", "putNode", "(ILNameScope$Row;LNameScope$Row;)V"⟩
theorem gy_PN_putNode : gY y_PN_putNode b_PN_putNode 8 none 3 := ⟨w_428, w_5, by decide, by decide, by decide +kernel⟩
theorem gv_PN_putNode : gYV y_PN_putNode := ⟨w_427, p_20⟩
abbrev b_PN_passUse : ByteArray := prog_4_method_8_code
abbrev y_PN_passUse : MethodName := ⟨"NameScope$Pen", "passUse", "(ILNameScope$Row;)V"⟩
theorem gy_PN_passUse : gY y_PN_passUse b_PN_passUse 3 none 2 := ⟨w_433, w_5, by decide, by decide, by decide +kernel⟩
theorem gv_PN_passUse : gYV y_PN_passUse := ⟨w_432, p_21⟩
abbrev b_NS_written : ByteArray := prog_1_method_11_code
abbrev y_NS_written : MethodName := ⟨"NameScope", "written", "(II)J"⟩
theorem gy_NS_written : gY y_NS_written b_NS_written 3 (some .long) 2 := ⟨w_437, w_1, by decide, by decide, by decide +kernel⟩
theorem gv_NS_written : gYV y_NS_written := ⟨w_435, w_436⟩
abbrev b_NS_again : ByteArray := prog_1_method_12_code
abbrev y_NS_again : MethodName := ⟨"NameScope", "again", "()I"⟩
theorem gy_NS_again : gY y_NS_again b_NS_again 1 (some .int) 0 := ⟨w_441, w_1, by decide, by decide, by decide +kernel⟩
theorem gv_NS_again : gYV y_NS_again := ⟨w_439, w_440⟩
abbrev b_RW_become : ByteArray := prog_5_method_12_code
abbrev y_RW_become : MethodName := ⟨"NameScope$Row", "become", "(LNameScope$Row;)V"⟩
theorem gy_RW_become : gY y_RW_become b_RW_become 2 none 1 := ⟨w_445, w_3, by decide, by decide, by decide +kernel⟩
theorem gv_RW_become : gYV y_RW_become := ⟨w_443, w_444⟩
abbrev b_NS_keep : ByteArray := prog_1_method_13_code
abbrev y_NS_keep : MethodName := ⟨"NameScope", "keep", "()I"⟩
theorem gy_NS_keep : gY y_NS_keep b_NS_keep 1 (some .int) 0 := ⟨w_450, w_1, by decide, by decide, by decide +kernel⟩
theorem gv_NS_keep : gYV y_NS_keep := ⟨w_448, w_449⟩
abbrev b_NS_same : ByteArray := prog_1_method_14_code
abbrev y_NS_same : MethodName := ⟨"NameScope", "same", "()Z"⟩
theorem gy_NS_same : gY y_NS_same b_NS_same 4 (some .boolean) 0 := ⟨w_454, w_1, by decide, by decide, by decide +kernel⟩
theorem gv_NS_same : gYV y_NS_same := ⟨w_452, w_453⟩
abbrev b_MD_init : ByteArray := prog_8_method_1_code
abbrev y_MD_init : MethodName := ⟨"NameScopeModel", "<init>", "()V"⟩
theorem gy_MD_init : gY y_MD_init b_MD_init 1 none 0 := ⟨w_459, w_6, by decide, by decide, by decide +kernel⟩
abbrev b_MD_global : ByteArray := prog_8_method_5_code
abbrev y_MD_global : MethodName := ⟨"NameScopeModel", "global", "(J)I"⟩
theorem gy_MD_global : gY y_MD_global b_MD_global 3 (some .int) 1 := ⟨w_531, w_6, by decide, by decide, by decide +kernel⟩
theorem gv_MD_global : gYV y_MD_global := ⟨w_529, w_530⟩
abbrev b_MD_isName : ByteArray := prog_8_method_3_code
abbrev y_MD_isName : MethodName := ⟨"NameScopeModel", "isName", "(JI)Z"⟩
theorem gy_MD_isName : gY y_MD_isName b_MD_isName 8 (some .boolean) 2 := ⟨w_534, w_6, by decide, by decide, by decide +kernel⟩
abbrev b_MD_length : ByteArray := prog_8_method_2_code
abbrev y_MD_length : MethodName := ⟨"NameScopeModel", "length", "(J)I"⟩
theorem gy_MD_length : gY y_MD_length b_MD_length 5 (some .int) 1 := ⟨w_537, w_6, by decide, by decide, by decide +kernel⟩
abbrev b_MD_globalOf : ByteArray := prog_8_method_4_code
abbrev y_MD_globalOf : MethodName := ⟨"NameScopeModel", "globalOf", "(J)I"⟩
theorem gy_MD_globalOf : gY y_MD_globalOf b_MD_globalOf 4 (some .int) 1 := ⟨w_546, w_6, by decide, by decide, by decide +kernel⟩
theorem gv_MD_globalOf : gYV y_MD_globalOf := ⟨w_545, p_22⟩
abbrev b_MD_lay : ByteArray := prog_8_method_8_code
abbrev y_MD_lay : MethodName := ⟨"NameScopeModel", "lay", "(IJ)I"⟩
theorem gy_MD_lay : gY y_MD_lay b_MD_lay 5 (some .int) 2 := ⟨w_550, w_6, by decide, by decide, by decide +kernel⟩
theorem gv_MD_lay : gYV y_MD_lay := ⟨w_548, w_549⟩
abbrev b_MD_drop : ByteArray := prog_8_method_9_code
abbrev y_MD_drop : MethodName := ⟨"NameScopeModel", "drop", "()I"⟩
theorem gy_MD_drop : gY y_MD_drop b_MD_drop 2 (some .int) 0 := ⟨w_555, w_6, by decide, by decide, by decide +kernel⟩
theorem gv_MD_drop : gYV y_MD_drop := ⟨w_553, w_554⟩
abbrev b_MD_bind : ByteArray := prog_8_method_16_code
abbrev y_MD_bind : MethodName := ⟨"NameScopeModel", "bind", "()I"⟩
theorem gy_MD_bind : gY y_MD_bind b_MD_bind 3 (some .int) 0 := ⟨w_559, w_6, by decide, by decide, by decide +kernel⟩
theorem gv_MD_bind : gYV y_MD_bind := ⟨w_557, w_558⟩
abbrev b_MD_isOneTerm : ByteArray := prog_8_method_10_code
abbrev y_MD_isOneTerm : MethodName := ⟨"NameScopeModel", "isOneTerm", "()Z"⟩
theorem gy_MD_isOneTerm : gY y_MD_isOneTerm b_MD_isOneTerm 3 (some .boolean) 0 := ⟨w_563, w_6, by decide, by decide, by decide +kernel⟩
theorem gv_MD_isOneTerm : gYV y_MD_isOneTerm := ⟨w_562, p_23⟩
abbrev b_MD_hasParts : ByteArray := prog_8_method_6_code
abbrev y_MD_hasParts : MethodName := ⟨"NameScopeModel", "hasParts", "(I)Z"⟩
theorem gy_MD_hasParts : gY y_MD_hasParts b_MD_hasParts 1 (some .boolean) 1 := ⟨w_566, w_6, by decide, by decide, by decide +kernel⟩
abbrev b_MD_measure : ByteArray := prog_8_method_12_code
abbrev y_MD_measure : MethodName := ⟨"NameScopeModel", "measure", "(Z)V"⟩
theorem gy_MD_measure : gY y_MD_measure b_MD_measure 5 none 1 := ⟨w_570, w_6, by decide, by decide, by decide +kernel⟩
theorem gv_MD_measure : gYV y_MD_measure := ⟨w_569, p_24⟩
abbrev b_MD_kindOf : ByteArray := prog_8_method_11_code
abbrev y_MD_kindOf : MethodName := ⟨"NameScopeModel", "kindOf", "(ZI)I"⟩
theorem gy_MD_kindOf : gY y_MD_kindOf b_MD_kindOf 3 (some .int) 2 := ⟨w_574, w_6, by decide, by decide, by decide +kernel⟩
theorem gv_MD_kindOf : gYV y_MD_kindOf := ⟨w_573, p_25⟩
abbrev b_MD_cut : ByteArray := prog_8_method_15_code
abbrev y_MD_cut : MethodName := ⟨"NameScopeModel", "cut", "(J)J"⟩
theorem gy_MD_cut : gY y_MD_cut b_MD_cut 2 (some .long) 1 := ⟨w_577, w_6, by decide, by decide, by decide +kernel⟩
abbrev b_MD_meaningOf : ByteArray := prog_8_method_14_code
abbrev y_MD_meaningOf : MethodName := ⟨"NameScopeModel", "meaningOf", "(I)I"⟩
theorem gy_MD_meaningOf : gY y_MD_meaningOf b_MD_meaningOf 5 (some .int) 1 := ⟨w_581, w_6, by decide, by decide, by decide +kernel⟩
theorem gv_MD_meaningOf : gYV y_MD_meaningOf := ⟨w_580, p_26⟩
abbrev b_MD_binds : ByteArray := prog_8_method_7_code
abbrev y_MD_binds : MethodName := ⟨"NameScopeModel", "binds", "(I)Z"⟩
theorem gy_MD_binds : gY y_MD_binds b_MD_binds 1 (some .boolean) 1 := ⟨w_584, w_6, by decide, by decide, by decide +kernel⟩
abbrev b_MD_lastOf : ByteArray := prog_8_method_13_code
abbrev y_MD_lastOf : MethodName := ⟨"NameScopeModel", "lastOf", "(I)I"⟩
theorem gy_MD_lastOf : gY y_MD_lastOf b_MD_lastOf 2 (some .int) 1 := ⟨w_588, w_6, by decide, by decide, by decide +kernel⟩
theorem gv_MD_lastOf : gYV y_MD_lastOf := ⟨w_587, p_27⟩
abbrev b_MD_become : ByteArray := prog_8_method_17_code
abbrev y_MD_become : MethodName := ⟨"NameScopeModel", "become", "()V"⟩
theorem gy_MD_become : gY y_MD_become b_MD_become 2 none 0 := ⟨w_592, w_6, by decide, by decide, by decide +kernel⟩
theorem gv_MD_become : gYV y_MD_become := ⟨w_591, p_28⟩
abbrev b_MD_nodes : ByteArray := prog_8_method_18_code
abbrev y_MD_nodes : MethodName := ⟨"NameScopeModel", "nodes", "()I"⟩
theorem gy_MD_nodes : gY y_MD_nodes b_MD_nodes 1 (some .int) 0 := ⟨w_596, w_6, by decide, by decide, by decide +kernel⟩
theorem gv_MD_nodes : gYV y_MD_nodes := ⟨w_594, w_595⟩
abbrev b_MD_node : ByteArray := prog_8_method_19_code
abbrev y_MD_node : MethodName := ⟨"NameScopeModel", "node", "(II)J"⟩
theorem gy_MD_node : gY y_MD_node b_MD_node 3 (some .long) 2 := ⟨w_600, w_6, by decide, by decide, by decide +kernel⟩
theorem gv_MD_node : gYV y_MD_node := ⟨w_598, w_599⟩
abbrev b_MD_uses : ByteArray := prog_8_method_21_code
abbrev y_MD_uses : MethodName := ⟨"NameScopeModel", "uses", "(I)I"⟩
theorem gy_MD_uses : gY y_MD_uses b_MD_uses 4 (some .int) 1 := ⟨w_605, w_6, by decide, by decide, by decide +kernel⟩
theorem gv_MD_uses : gYV y_MD_uses := ⟨w_603, w_604⟩
abbrev b_MD_under : ByteArray := prog_8_method_20_code
abbrev y_MD_under : MethodName := ⟨"NameScopeModel", "under", "(II)I"⟩
theorem gy_MD_under : gY y_MD_under b_MD_under 6 (some .int) 2 := ⟨w_609, w_6, by decide, by decide, by decide +kernel⟩
theorem gv_MD_under : gYV y_MD_under := ⟨w_608, p_29⟩
abbrev b_MD_contract : ByteArray := prog_8_method_23_code
abbrev y_MD_contract : MethodName := ⟨"NameScopeModel", "contract", "(I)I"⟩
theorem gy_MD_contract : gY y_MD_contract b_MD_contract 11 (some .int) 1 := ⟨w_613, w_6, by decide, by decide, by decide +kernel⟩
theorem gv_MD_contract : gYV y_MD_contract := ⟨w_611, w_612⟩
abbrev b_MD_draft : ByteArray := prog_8_method_22_code
abbrev y_MD_draft : MethodName := ⟨"NameScopeModel", "draft", "(IJ)V"⟩
theorem gy_MD_draft : gY y_MD_draft b_MD_draft 4 none 2 := ⟨w_618, w_6, by decide, by decide, by decide +kernel⟩
theorem gv_MD_draft : gYV y_MD_draft := ⟨w_617, p_30⟩
abbrev b_MD_write : ByteArray := prog_8_method_27_code
abbrev y_MD_write : MethodName := ⟨"NameScopeModel", "write", "()I"⟩
theorem gy_MD_write : gY y_MD_write b_MD_write 5 (some .int) 0 := ⟨w_622, w_6, by decide, by decide, by decide +kernel⟩
theorem gv_MD_write : gYV y_MD_write := ⟨w_620, w_621⟩
abbrev b_MD_findBinders : ByteArray := prog_8_method_24_code
abbrev y_MD_findBinders : MethodName := ⟨"NameScopeModel", "findBinders", "()V"⟩
theorem gy_MD_findBinders : gY y_MD_findBinders b_MD_findBinders 6 none 0 := ⟨w_626, w_6, by decide, by decide, by decide +kernel⟩
theorem gv_MD_findBinders : gYV y_MD_findBinders := ⟨w_625, p_31⟩
abbrev b_MD_numbered : ByteArray := prog_8_method_26_code
abbrev y_MD_numbered : MethodName := ⟨"NameScopeModel", "numbered", "(JI)J"⟩
theorem gy_MD_numbered : gY y_MD_numbered b_MD_numbered 6 (some .long) 2 := ⟨w_630, w_6, by decide, by decide, by decide +kernel⟩
abbrev b_MD_catches : ByteArray := prog_8_method_25_code
abbrev y_MD_catches : MethodName := ⟨"NameScopeModel", "catches", "(IJ)Z"⟩
theorem gy_MD_catches : gY y_MD_catches b_MD_catches 5 (some .boolean) 2 := ⟨w_634, w_6, by decide, by decide, by decide +kernel⟩
theorem gv_MD_catches : gYV y_MD_catches := ⟨w_633, p_32⟩
abbrev b_MD_written : ByteArray := prog_8_method_28_code
abbrev y_MD_written : MethodName := ⟨"NameScopeModel", "written", "(II)J"⟩
theorem gy_MD_written : gY y_MD_written b_MD_written 3 (some .long) 2 := ⟨w_638, w_6, by decide, by decide, by decide +kernel⟩
theorem gv_MD_written : gYV y_MD_written := ⟨w_636, w_637⟩
abbrev b_MD_again : ByteArray := prog_8_method_29_code
abbrev y_MD_again : MethodName := ⟨"NameScopeModel", "again", "()I"⟩
theorem gy_MD_again : gY y_MD_again b_MD_again 2 (some .int) 0 := ⟨w_642, w_6, by decide, by decide, by decide +kernel⟩
theorem gv_MD_again : gYV y_MD_again := ⟨w_640, w_641⟩
abbrev b_MD_keep : ByteArray := prog_8_method_30_code
abbrev y_MD_keep : MethodName := ⟨"NameScopeModel", "keep", "()I"⟩
theorem gy_MD_keep : gY y_MD_keep b_MD_keep 2 (some .int) 0 := ⟨w_646, w_6, by decide, by decide, by decide +kernel⟩
theorem gv_MD_keep : gYV y_MD_keep := ⟨w_644, w_645⟩
abbrev b_MD_same : ByteArray := prog_8_method_31_code
abbrev y_MD_same : MethodName := ⟨"NameScopeModel", "same", "()Z"⟩
theorem gy_MD_same : gY y_MD_same b_MD_same 3 (some .boolean) 0 := ⟨w_650, w_6, by decide, by decide, by decide +kernel⟩
theorem gv_MD_same : gYV y_MD_same := ⟨w_648, w_649⟩
end
section
theorem d_GL_init_0 : decode b_GL_init 0 = .ok (.aload_n 0, 1) := by decide +kernel
theorem d_GL_init_1 : decode b_GL_init 1 = .ok (.invokespecial 3, 3) := by decide +kernel
theorem d_GL_init_4 : decode b_GL_init 4 = .ok (.aload_n 0, 1) := by decide +kernel
theorem d_GL_init_5 : decode b_GL_init 5 = .ok (.sipush 200, 3) := by decide +kernel
theorem d_GL_init_8 : decode b_GL_init 8 = .ok (.newarray .long, 2) := by decide +kernel
theorem d_GL_init_10 : decode b_GL_init 10 = .ok (.putfield 9, 3) := by decide +kernel
theorem d_GL_init_13 : decode b_GL_init 13 = .ok (.aload_n 0, 1) := by decide +kernel
theorem d_GL_init_14 : decode b_GL_init 14 = .ok (.iconst 0, 1) := by decide +kernel
theorem d_GL_init_15 : decode b_GL_init 15 = .ok (.putfield 15, 3) := by decide +kernel
theorem d_GL_init_18 : decode b_GL_init 18 = .ok (.return_, 1) := by decide +kernel
theorem d_GL_count_0 : decode b_GL_count 0 = .ok (.aload_n 0, 1) := by decide +kernel
theorem d_GL_count_1 : decode b_GL_count 1 = .ok (.getfield 15, 3) := by decide +kernel
theorem d_GL_count_4 : decode b_GL_count 4 = .ok (.ireturn, 1) := by decide +kernel
theorem d_GL_add_0 : decode b_GL_add 0 = .ok (.aload_n 0, 1) := by decide +kernel
theorem d_GL_add_1 : decode b_GL_add 1 = .ok (.getfield 15, 3) := by decide +kernel
theorem d_GL_add_4 : decode b_GL_add 4 = .ok (.sipush 200, 3) := by decide +kernel
theorem d_GL_add_7 : decode b_GL_add 7 = .ok (.if_icmp .ge 12, 3) := by decide +kernel
theorem d_GL_add_10 : decode b_GL_add 10 = .ok (.aload_n 0, 1) := by decide +kernel
theorem d_GL_add_11 : decode b_GL_add 11 = .ok (.lload_n 1, 1) := by decide +kernel
theorem d_GL_add_12 : decode b_GL_add 12 = .ok (.invokevirtual 19, 3) := by decide +kernel
theorem d_GL_add_15 : decode b_GL_add 15 = .ok (.iconst (-1), 1) := by decide +kernel
theorem d_GL_add_16 : decode b_GL_add 16 = .ok (.if_icmp .eq 5, 3) := by decide +kernel
theorem d_GL_add_19 : decode b_GL_add 19 = .ok (.iconst (-1), 1) := by decide +kernel
theorem d_GL_add_20 : decode b_GL_add 20 = .ok (.ireturn, 1) := by decide +kernel
theorem d_GL_add_21 : decode b_GL_add 21 = .ok (.aload_n 0, 1) := by decide +kernel
theorem d_GL_add_22 : decode b_GL_add 22 = .ok (.getfield 9, 3) := by decide +kernel
theorem d_GL_add_25 : decode b_GL_add 25 = .ok (.aload_n 0, 1) := by decide +kernel
theorem d_GL_add_26 : decode b_GL_add 26 = .ok (.getfield 15, 3) := by decide +kernel
theorem d_GL_add_29 : decode b_GL_add 29 = .ok (.lload_n 1, 1) := by decide +kernel
theorem d_GL_add_30 : decode b_GL_add 30 = .ok (.lastore, 1) := by decide +kernel
theorem d_GL_add_31 : decode b_GL_add 31 = .ok (.aload_n 0, 1) := by decide +kernel
theorem d_GL_add_32 : decode b_GL_add 32 = .ok (.dup, 1) := by decide +kernel
theorem d_GL_add_33 : decode b_GL_add 33 = .ok (.getfield 15, 3) := by decide +kernel
theorem d_GL_add_36 : decode b_GL_add 36 = .ok (.iconst 1, 1) := by decide +kernel
theorem d_GL_add_37 : decode b_GL_add 37 = .ok (.iadd, 1) := by decide +kernel
theorem d_GL_add_38 : decode b_GL_add 38 = .ok (.putfield 15, 3) := by decide +kernel
theorem d_GL_add_41 : decode b_GL_add 41 = .ok (.aload_n 0, 1) := by decide +kernel
theorem d_GL_add_42 : decode b_GL_add 42 = .ok (.getfield 15, 3) := by decide +kernel
theorem d_GL_add_45 : decode b_GL_add 45 = .ok (.iconst 1, 1) := by decide +kernel
theorem d_GL_add_46 : decode b_GL_add 46 = .ok (.isub, 1) := by decide +kernel
theorem d_GL_add_47 : decode b_GL_add 47 = .ok (.ireturn, 1) := by decide +kernel
theorem d_GL_find_0 : decode b_GL_find 0 = .ok (.iconst 0, 1) := by decide +kernel
theorem d_GL_find_1 : decode b_GL_find 1 = .ok (.istore_n 3, 1) := by decide +kernel
theorem d_GL_find_2 : decode b_GL_find 2 = .ok (.iload_n 3, 1) := by decide +kernel
theorem d_GL_find_3 : decode b_GL_find 3 = .ok (.aload_n 0, 1) := by decide +kernel
theorem d_GL_find_4 : decode b_GL_find 4 = .ok (.getfield 15, 3) := by decide +kernel
theorem d_GL_find_7 : decode b_GL_find 7 = .ok (.if_icmp .ge 22, 3) := by decide +kernel
theorem d_GL_find_10 : decode b_GL_find 10 = .ok (.aload_n 0, 1) := by decide +kernel
theorem d_GL_find_11 : decode b_GL_find 11 = .ok (.getfield 9, 3) := by decide +kernel
theorem d_GL_find_14 : decode b_GL_find 14 = .ok (.iload_n 3, 1) := by decide +kernel
theorem d_GL_find_15 : decode b_GL_find 15 = .ok (.laload, 1) := by decide +kernel
theorem d_GL_find_16 : decode b_GL_find 16 = .ok (.lload_n 1, 1) := by decide +kernel
theorem d_GL_find_17 : decode b_GL_find 17 = .ok (.lcmp, 1) := by decide +kernel
theorem d_GL_find_18 : decode b_GL_find 18 = .ok (.ifCond .ne 5, 3) := by decide +kernel
theorem d_GL_find_21 : decode b_GL_find 21 = .ok (.iload_n 3, 1) := by decide +kernel
theorem d_GL_find_22 : decode b_GL_find 22 = .ok (.ireturn, 1) := by decide +kernel
theorem d_GL_find_23 : decode b_GL_find 23 = .ok (.iinc 3 1, 3) := by decide +kernel
theorem d_GL_find_26 : decode b_GL_find 26 = .ok (.goto (-24), 3) := by decide +kernel
theorem d_GL_find_29 : decode b_GL_find 29 = .ok (.iconst (-1), 1) := by decide +kernel
theorem d_GL_find_30 : decode b_GL_find 30 = .ok (.ireturn, 1) := by decide +kernel
theorem d_GL_name_0 : decode b_GL_name 0 = .ok (.lload_n 1, 1) := by decide +kernel
theorem d_GL_name_1 : decode b_GL_name 1 = .ok (.lconst 0, 1) := by decide +kernel
theorem d_GL_name_2 : decode b_GL_name 2 = .ok (.lcmp, 1) := by decide +kernel
theorem d_GL_name_3 : decode b_GL_name 3 = .ok (.ifCond .lt 23, 3) := by decide +kernel
theorem d_GL_name_6 : decode b_GL_name 6 = .ok (.lload_n 1, 1) := by decide +kernel
theorem d_GL_name_7 : decode b_GL_name 7 = .ok (.aload_n 0, 1) := by decide +kernel
theorem d_GL_name_8 : decode b_GL_name 8 = .ok (.getfield 15, 3) := by decide +kernel
theorem d_GL_name_11 : decode b_GL_name 11 = .ok (.i2l, 1) := by decide +kernel
theorem d_GL_name_12 : decode b_GL_name 12 = .ok (.lcmp, 1) := by decide +kernel
theorem d_GL_name_13 : decode b_GL_name 13 = .ok (.ifCond .ge 13, 3) := by decide +kernel
theorem d_GL_name_16 : decode b_GL_name 16 = .ok (.aload_n 0, 1) := by decide +kernel
theorem d_GL_name_17 : decode b_GL_name 17 = .ok (.getfield 9, 3) := by decide +kernel
theorem d_GL_name_20 : decode b_GL_name 20 = .ok (.lload_n 1, 1) := by decide +kernel
theorem d_GL_name_21 : decode b_GL_name 21 = .ok (.l2i, 1) := by decide +kernel
theorem d_GL_name_22 : decode b_GL_name 22 = .ok (.laload, 1) := by decide +kernel
theorem d_GL_name_23 : decode b_GL_name 23 = .ok (.goto 4, 3) := by decide +kernel
theorem d_GL_name_26 : decode b_GL_name 26 = .ok (.lconst 0, 1) := by decide +kernel
theorem d_GL_name_27 : decode b_GL_name 27 = .ok (.lreturn, 1) := by decide +kernel
end
section
theorem d_LW_law_0 : decode code 0 = .ok (.new 7, 3) := by decide +kernel
theorem d_LW_law_3 : decode code 3 = .ok (.dup, 1) := by decide +kernel
theorem d_LW_law_4 : decode code 4 = .ok (.invokespecial 9, 3) := by decide +kernel
theorem d_LW_law_7 : decode code 7 = .ok (.astore_n 1, 1) := by decide +kernel
theorem d_LW_law_8 : decode code 8 = .ok (.new 10, 3) := by decide +kernel
theorem d_LW_law_11 : decode code 11 = .ok (.dup, 1) := by decide +kernel
theorem d_LW_law_12 : decode code 12 = .ok (.invokespecial 12, 3) := by decide +kernel
theorem d_LW_law_15 : decode code 15 = .ok (.astore_n 2, 1) := by decide +kernel
theorem d_LW_law_16 : decode code 16 = .ok (.iconst 0, 1) := by decide +kernel
theorem d_LW_law_17 : decode code 17 = .ok (.istore_n 3, 1) := by decide +kernel
theorem d_LW_law_18 : decode code 18 = .ok (.iload_n 3, 1) := by decide +kernel
theorem d_LW_law_19 : decode code 19 = .ok (.aload_n 0, 1) := by decide +kernel
theorem d_LW_law_20 : decode code 20 = .ok (.arraylength, 1) := by decide +kernel
theorem d_LW_law_21 : decode code 21 = .ok (.iconst 4, 1) := by decide +kernel
theorem d_LW_law_22 : decode code 22 = .ok (.isub, 1) := by decide +kernel
theorem d_LW_law_23 : decode code 23 = .ok (.if_icmp .gt 404, 3) := by decide +kernel
theorem d_LW_law_26 : decode code 26 = .ok (.aload_n 0, 1) := by decide +kernel
theorem d_LW_law_27 : decode code 27 = .ok (.iload_n 3, 1) := by decide +kernel
theorem d_LW_law_28 : decode code 28 = .ok (.iaload, 1) := by decide +kernel
theorem d_LW_law_29 : decode code 29 = .ok (.bipush 15, 2) := by decide +kernel
theorem d_LW_law_31 : decode code 31 = .ok (.iand, 1) := by decide +kernel
theorem d_LW_law_32 : decode code 32 = .ok (.tableswitch 389 0 12 #[68, 121, 184, 197, 210, 223, 257, 280, 303, 316, 350, 363, 376], 68) := by decide +kernel
theorem d_LW_law_100 : decode code 100 = .ok (.aload_n 1, 1) := by decide +kernel
theorem d_LW_law_101 : decode code 101 = .ok (.aload_n 0, 1) := by decide +kernel
theorem d_LW_law_102 : decode code 102 = .ok (.iload_n 3, 1) := by decide +kernel
theorem d_LW_law_103 : decode code 103 = .ok (.iconst 1, 1) := by decide +kernel
theorem d_LW_law_104 : decode code 104 = .ok (.iadd, 1) := by decide +kernel
theorem d_LW_law_105 : decode code 105 = .ok (.iaload, 1) := by decide +kernel
theorem d_LW_law_106 : decode code 106 = .ok (.i2l, 1) := by decide +kernel
theorem d_LW_law_107 : decode code 107 = .ok (.bipush 32, 2) := by decide +kernel
theorem d_LW_law_109 : decode code 109 = .ok (.lshl, 1) := by decide +kernel
theorem d_LW_law_110 : decode code 110 = .ok (.aload_n 0, 1) := by decide +kernel
theorem d_LW_law_111 : decode code 111 = .ok (.iload_n 3, 1) := by decide +kernel
theorem d_LW_law_112 : decode code 112 = .ok (.iconst 2, 1) := by decide +kernel
theorem d_LW_law_113 : decode code 113 = .ok (.iadd, 1) := by decide +kernel
theorem d_LW_law_114 : decode code 114 = .ok (.iaload, 1) := by decide +kernel
theorem d_LW_law_115 : decode code 115 = .ok (.i2l, 1) := by decide +kernel
theorem d_LW_law_116 : decode code 116 = .ok (.ldc2_w 13, 3) := by decide +kernel
theorem d_LW_law_119 : decode code 119 = .ok (.land, 1) := by decide +kernel
theorem d_LW_law_120 : decode code 120 = .ok (.lor, 1) := by decide +kernel
theorem d_LW_law_121 : decode code 121 = .ok (.invokevirtual 15, 3) := by decide +kernel
theorem d_LW_law_124 : decode code 124 = .ok (.aload_n 2, 1) := by decide +kernel
theorem d_LW_law_125 : decode code 125 = .ok (.aload_n 0, 1) := by decide +kernel
theorem d_LW_law_126 : decode code 126 = .ok (.iload_n 3, 1) := by decide +kernel
theorem d_LW_law_127 : decode code 127 = .ok (.iconst 1, 1) := by decide +kernel
theorem d_LW_law_128 : decode code 128 = .ok (.iadd, 1) := by decide +kernel
theorem d_LW_law_129 : decode code 129 = .ok (.iaload, 1) := by decide +kernel
theorem d_LW_law_130 : decode code 130 = .ok (.i2l, 1) := by decide +kernel
theorem d_LW_law_131 : decode code 131 = .ok (.bipush 32, 2) := by decide +kernel
theorem d_LW_law_133 : decode code 133 = .ok (.lshl, 1) := by decide +kernel
theorem d_LW_law_134 : decode code 134 = .ok (.aload_n 0, 1) := by decide +kernel
theorem d_LW_law_135 : decode code 135 = .ok (.iload_n 3, 1) := by decide +kernel
theorem d_LW_law_136 : decode code 136 = .ok (.iconst 2, 1) := by decide +kernel
theorem d_LW_law_137 : decode code 137 = .ok (.iadd, 1) := by decide +kernel
theorem d_LW_law_138 : decode code 138 = .ok (.iaload, 1) := by decide +kernel
theorem d_LW_law_139 : decode code 139 = .ok (.i2l, 1) := by decide +kernel
theorem d_LW_law_140 : decode code 140 = .ok (.ldc2_w 13, 3) := by decide +kernel
theorem d_LW_law_143 : decode code 143 = .ok (.land, 1) := by decide +kernel
theorem d_LW_law_144 : decode code 144 = .ok (.lor, 1) := by decide +kernel
theorem d_LW_law_145 : decode code 145 = .ok (.invokevirtual 19, 3) := by decide +kernel
theorem d_LW_law_148 : decode code 148 = .ok (.if_icmp .eq 273, 3) := by decide +kernel
theorem d_LW_law_151 : decode code 151 = .ok (.iconst 0, 1) := by decide +kernel
theorem d_LW_law_152 : decode code 152 = .ok (.ireturn, 1) := by decide +kernel
theorem d_LW_law_153 : decode code 153 = .ok (.aload_n 1, 1) := by decide +kernel
theorem d_LW_law_154 : decode code 154 = .ok (.aload_n 0, 1) := by decide +kernel
theorem d_LW_law_155 : decode code 155 = .ok (.iload_n 3, 1) := by decide +kernel
theorem d_LW_law_156 : decode code 156 = .ok (.iconst 1, 1) := by decide +kernel
theorem d_LW_law_157 : decode code 157 = .ok (.iadd, 1) := by decide +kernel
theorem d_LW_law_158 : decode code 158 = .ok (.iaload, 1) := by decide +kernel
theorem d_LW_law_159 : decode code 159 = .ok (.aload_n 0, 1) := by decide +kernel
theorem d_LW_law_160 : decode code 160 = .ok (.iload_n 3, 1) := by decide +kernel
theorem d_LW_law_161 : decode code 161 = .ok (.iconst 2, 1) := by decide +kernel
theorem d_LW_law_162 : decode code 162 = .ok (.iadd, 1) := by decide +kernel
theorem d_LW_law_163 : decode code 163 = .ok (.iaload, 1) := by decide +kernel
theorem d_LW_law_164 : decode code 164 = .ok (.i2l, 1) := by decide +kernel
theorem d_LW_law_165 : decode code 165 = .ok (.bipush 32, 2) := by decide +kernel
theorem d_LW_law_167 : decode code 167 = .ok (.lshl, 1) := by decide +kernel
theorem d_LW_law_168 : decode code 168 = .ok (.aload_n 0, 1) := by decide +kernel
theorem d_LW_law_169 : decode code 169 = .ok (.iload_n 3, 1) := by decide +kernel
theorem d_LW_law_170 : decode code 170 = .ok (.iconst 3, 1) := by decide +kernel
theorem d_LW_law_171 : decode code 171 = .ok (.iadd, 1) := by decide +kernel
theorem d_LW_law_172 : decode code 172 = .ok (.iaload, 1) := by decide +kernel
theorem d_LW_law_173 : decode code 173 = .ok (.i2l, 1) := by decide +kernel
theorem d_LW_law_174 : decode code 174 = .ok (.ldc2_w 13, 3) := by decide +kernel
theorem d_LW_law_177 : decode code 177 = .ok (.land, 1) := by decide +kernel
theorem d_LW_law_178 : decode code 178 = .ok (.lor, 1) := by decide +kernel
theorem d_LW_law_179 : decode code 179 = .ok (.invokevirtual 20, 3) := by decide +kernel
theorem d_LW_law_182 : decode code 182 = .ok (.aload_n 2, 1) := by decide +kernel
theorem d_LW_law_183 : decode code 183 = .ok (.aload_n 0, 1) := by decide +kernel
theorem d_LW_law_184 : decode code 184 = .ok (.iload_n 3, 1) := by decide +kernel
theorem d_LW_law_185 : decode code 185 = .ok (.iconst 1, 1) := by decide +kernel
theorem d_LW_law_186 : decode code 186 = .ok (.iadd, 1) := by decide +kernel
theorem d_LW_law_187 : decode code 187 = .ok (.iaload, 1) := by decide +kernel
theorem d_LW_law_188 : decode code 188 = .ok (.aload_n 0, 1) := by decide +kernel
theorem d_LW_law_189 : decode code 189 = .ok (.iload_n 3, 1) := by decide +kernel
theorem d_LW_law_190 : decode code 190 = .ok (.iconst 2, 1) := by decide +kernel
theorem d_LW_law_191 : decode code 191 = .ok (.iadd, 1) := by decide +kernel
theorem d_LW_law_192 : decode code 192 = .ok (.iaload, 1) := by decide +kernel
theorem d_LW_law_193 : decode code 193 = .ok (.i2l, 1) := by decide +kernel
theorem d_LW_law_194 : decode code 194 = .ok (.bipush 32, 2) := by decide +kernel
theorem d_LW_law_196 : decode code 196 = .ok (.lshl, 1) := by decide +kernel
theorem d_LW_law_197 : decode code 197 = .ok (.aload_n 0, 1) := by decide +kernel
theorem d_LW_law_198 : decode code 198 = .ok (.iload_n 3, 1) := by decide +kernel
theorem d_LW_law_199 : decode code 199 = .ok (.iconst 3, 1) := by decide +kernel
theorem d_LW_law_200 : decode code 200 = .ok (.iadd, 1) := by decide +kernel
theorem d_LW_law_201 : decode code 201 = .ok (.iaload, 1) := by decide +kernel
theorem d_LW_law_202 : decode code 202 = .ok (.i2l, 1) := by decide +kernel
theorem d_LW_law_203 : decode code 203 = .ok (.ldc2_w 13, 3) := by decide +kernel
theorem d_LW_law_206 : decode code 206 = .ok (.land, 1) := by decide +kernel
theorem d_LW_law_207 : decode code 207 = .ok (.lor, 1) := by decide +kernel
theorem d_LW_law_208 : decode code 208 = .ok (.invokevirtual 24, 3) := by decide +kernel
theorem d_LW_law_211 : decode code 211 = .ok (.if_icmp .eq 210, 3) := by decide +kernel
theorem d_LW_law_214 : decode code 214 = .ok (.iconst 0, 1) := by decide +kernel
theorem d_LW_law_215 : decode code 215 = .ok (.ireturn, 1) := by decide +kernel
theorem d_LW_law_216 : decode code 216 = .ok (.aload_n 1, 1) := by decide +kernel
theorem d_LW_law_217 : decode code 217 = .ok (.invokevirtual 25, 3) := by decide +kernel
theorem d_LW_law_220 : decode code 220 = .ok (.aload_n 2, 1) := by decide +kernel
theorem d_LW_law_221 : decode code 221 = .ok (.invokevirtual 29, 3) := by decide +kernel
theorem d_LW_law_224 : decode code 224 = .ok (.if_icmp .eq 197, 3) := by decide +kernel
theorem d_LW_law_227 : decode code 227 = .ok (.iconst 0, 1) := by decide +kernel
theorem d_LW_law_228 : decode code 228 = .ok (.ireturn, 1) := by decide +kernel
theorem d_LW_law_229 : decode code 229 = .ok (.aload_n 1, 1) := by decide +kernel
theorem d_LW_law_230 : decode code 230 = .ok (.invokevirtual 30, 3) := by decide +kernel
theorem d_LW_law_233 : decode code 233 = .ok (.aload_n 2, 1) := by decide +kernel
theorem d_LW_law_234 : decode code 234 = .ok (.invokevirtual 33, 3) := by decide +kernel
theorem d_LW_law_237 : decode code 237 = .ok (.if_icmp .eq 184, 3) := by decide +kernel
theorem d_LW_law_240 : decode code 240 = .ok (.iconst 0, 1) := by decide +kernel
theorem d_LW_law_241 : decode code 241 = .ok (.ireturn, 1) := by decide +kernel
theorem d_LW_law_242 : decode code 242 = .ok (.aload_n 1, 1) := by decide +kernel
theorem d_LW_law_243 : decode code 243 = .ok (.invokevirtual 34, 3) := by decide +kernel
theorem d_LW_law_246 : decode code 246 = .ok (.aload_n 2, 1) := by decide +kernel
theorem d_LW_law_247 : decode code 247 = .ok (.invokevirtual 37, 3) := by decide +kernel
theorem d_LW_law_250 : decode code 250 = .ok (.if_icmp .eq 171, 3) := by decide +kernel
theorem d_LW_law_253 : decode code 253 = .ok (.iconst 0, 1) := by decide +kernel
theorem d_LW_law_254 : decode code 254 = .ok (.ireturn, 1) := by decide +kernel
theorem d_LW_law_255 : decode code 255 = .ok (.aload_n 1, 1) := by decide +kernel
theorem d_LW_law_256 : decode code 256 = .ok (.aload_n 0, 1) := by decide +kernel
theorem d_LW_law_257 : decode code 257 = .ok (.iload_n 3, 1) := by decide +kernel
theorem d_LW_law_258 : decode code 258 = .ok (.iconst 1, 1) := by decide +kernel
theorem d_LW_law_259 : decode code 259 = .ok (.iadd, 1) := by decide +kernel
theorem d_LW_law_260 : decode code 260 = .ok (.iaload, 1) := by decide +kernel
theorem d_LW_law_261 : decode code 261 = .ok (.aload_n 0, 1) := by decide +kernel
theorem d_LW_law_262 : decode code 262 = .ok (.iload_n 3, 1) := by decide +kernel
theorem d_LW_law_263 : decode code 263 = .ok (.iconst 2, 1) := by decide +kernel
theorem d_LW_law_264 : decode code 264 = .ok (.iadd, 1) := by decide +kernel
theorem d_LW_law_265 : decode code 265 = .ok (.iaload, 1) := by decide +kernel
theorem d_LW_law_266 : decode code 266 = .ok (.invokevirtual 38, 3) := by decide +kernel
theorem d_LW_law_269 : decode code 269 = .ok (.aload_n 2, 1) := by decide +kernel
theorem d_LW_law_270 : decode code 270 = .ok (.aload_n 0, 1) := by decide +kernel
theorem d_LW_law_271 : decode code 271 = .ok (.iload_n 3, 1) := by decide +kernel
theorem d_LW_law_272 : decode code 272 = .ok (.iconst 1, 1) := by decide +kernel
theorem d_LW_law_273 : decode code 273 = .ok (.iadd, 1) := by decide +kernel
theorem d_LW_law_274 : decode code 274 = .ok (.iaload, 1) := by decide +kernel
theorem d_LW_law_275 : decode code 275 = .ok (.aload_n 0, 1) := by decide +kernel
theorem d_LW_law_276 : decode code 276 = .ok (.iload_n 3, 1) := by decide +kernel
theorem d_LW_law_277 : decode code 277 = .ok (.iconst 2, 1) := by decide +kernel
theorem d_LW_law_278 : decode code 278 = .ok (.iadd, 1) := by decide +kernel
theorem d_LW_law_279 : decode code 279 = .ok (.iaload, 1) := by decide +kernel
theorem d_LW_law_280 : decode code 280 = .ok (.invokevirtual 42, 3) := by decide +kernel
theorem d_LW_law_283 : decode code 283 = .ok (.lcmp, 1) := by decide +kernel
theorem d_LW_law_284 : decode code 284 = .ok (.ifCond .eq 137, 3) := by decide +kernel
theorem d_LW_law_287 : decode code 287 = .ok (.iconst 0, 1) := by decide +kernel
theorem d_LW_law_288 : decode code 288 = .ok (.ireturn, 1) := by decide +kernel
theorem d_LW_law_289 : decode code 289 = .ok (.aload_n 1, 1) := by decide +kernel
theorem d_LW_law_290 : decode code 290 = .ok (.aload_n 0, 1) := by decide +kernel
theorem d_LW_law_291 : decode code 291 = .ok (.iload_n 3, 1) := by decide +kernel
theorem d_LW_law_292 : decode code 292 = .ok (.iconst 1, 1) := by decide +kernel
theorem d_LW_law_293 : decode code 293 = .ok (.iadd, 1) := by decide +kernel
theorem d_LW_law_294 : decode code 294 = .ok (.iaload, 1) := by decide +kernel
theorem d_LW_law_295 : decode code 295 = .ok (.invokevirtual 43, 3) := by decide +kernel
theorem d_LW_law_298 : decode code 298 = .ok (.aload_n 2, 1) := by decide +kernel
theorem d_LW_law_299 : decode code 299 = .ok (.aload_n 0, 1) := by decide +kernel
theorem d_LW_law_300 : decode code 300 = .ok (.iload_n 3, 1) := by decide +kernel
theorem d_LW_law_301 : decode code 301 = .ok (.iconst 1, 1) := by decide +kernel
theorem d_LW_law_302 : decode code 302 = .ok (.iadd, 1) := by decide +kernel
theorem d_LW_law_303 : decode code 303 = .ok (.iaload, 1) := by decide +kernel
theorem d_LW_law_304 : decode code 304 = .ok (.invokevirtual 47, 3) := by decide +kernel
theorem d_LW_law_307 : decode code 307 = .ok (.if_icmp .eq 114, 3) := by decide +kernel
theorem d_LW_law_310 : decode code 310 = .ok (.iconst 0, 1) := by decide +kernel
theorem d_LW_law_311 : decode code 311 = .ok (.ireturn, 1) := by decide +kernel
theorem d_LW_law_312 : decode code 312 = .ok (.aload_n 1, 1) := by decide +kernel
theorem d_LW_law_313 : decode code 313 = .ok (.aload_n 0, 1) := by decide +kernel
theorem d_LW_law_314 : decode code 314 = .ok (.iload_n 3, 1) := by decide +kernel
theorem d_LW_law_315 : decode code 315 = .ok (.iconst 1, 1) := by decide +kernel
theorem d_LW_law_316 : decode code 316 = .ok (.iadd, 1) := by decide +kernel
theorem d_LW_law_317 : decode code 317 = .ok (.iaload, 1) := by decide +kernel
theorem d_LW_law_318 : decode code 318 = .ok (.invokevirtual 48, 3) := by decide +kernel
theorem d_LW_law_321 : decode code 321 = .ok (.aload_n 2, 1) := by decide +kernel
theorem d_LW_law_322 : decode code 322 = .ok (.aload_n 0, 1) := by decide +kernel
theorem d_LW_law_323 : decode code 323 = .ok (.iload_n 3, 1) := by decide +kernel
theorem d_LW_law_324 : decode code 324 = .ok (.iconst 1, 1) := by decide +kernel
theorem d_LW_law_325 : decode code 325 = .ok (.iadd, 1) := by decide +kernel
theorem d_LW_law_326 : decode code 326 = .ok (.iaload, 1) := by decide +kernel
theorem d_LW_law_327 : decode code 327 = .ok (.invokevirtual 51, 3) := by decide +kernel
theorem d_LW_law_330 : decode code 330 = .ok (.if_icmp .eq 91, 3) := by decide +kernel
theorem d_LW_law_333 : decode code 333 = .ok (.iconst 0, 1) := by decide +kernel
theorem d_LW_law_334 : decode code 334 = .ok (.ireturn, 1) := by decide +kernel
theorem d_LW_law_335 : decode code 335 = .ok (.aload_n 1, 1) := by decide +kernel
theorem d_LW_law_336 : decode code 336 = .ok (.invokevirtual 52, 3) := by decide +kernel
theorem d_LW_law_339 : decode code 339 = .ok (.aload_n 2, 1) := by decide +kernel
theorem d_LW_law_340 : decode code 340 = .ok (.invokevirtual 55, 3) := by decide +kernel
theorem d_LW_law_343 : decode code 343 = .ok (.if_icmp .eq 78, 3) := by decide +kernel
theorem d_LW_law_346 : decode code 346 = .ok (.iconst 0, 1) := by decide +kernel
theorem d_LW_law_347 : decode code 347 = .ok (.ireturn, 1) := by decide +kernel
theorem d_LW_law_348 : decode code 348 = .ok (.aload_n 1, 1) := by decide +kernel
theorem d_LW_law_349 : decode code 349 = .ok (.aload_n 0, 1) := by decide +kernel
theorem d_LW_law_350 : decode code 350 = .ok (.iload_n 3, 1) := by decide +kernel
theorem d_LW_law_351 : decode code 351 = .ok (.iconst 1, 1) := by decide +kernel
theorem d_LW_law_352 : decode code 352 = .ok (.iadd, 1) := by decide +kernel
theorem d_LW_law_353 : decode code 353 = .ok (.iaload, 1) := by decide +kernel
theorem d_LW_law_354 : decode code 354 = .ok (.aload_n 0, 1) := by decide +kernel
theorem d_LW_law_355 : decode code 355 = .ok (.iload_n 3, 1) := by decide +kernel
theorem d_LW_law_356 : decode code 356 = .ok (.iconst 2, 1) := by decide +kernel
theorem d_LW_law_357 : decode code 357 = .ok (.iadd, 1) := by decide +kernel
theorem d_LW_law_358 : decode code 358 = .ok (.iaload, 1) := by decide +kernel
theorem d_LW_law_359 : decode code 359 = .ok (.invokevirtual 56, 3) := by decide +kernel
theorem d_LW_law_362 : decode code 362 = .ok (.aload_n 2, 1) := by decide +kernel
theorem d_LW_law_363 : decode code 363 = .ok (.aload_n 0, 1) := by decide +kernel
theorem d_LW_law_364 : decode code 364 = .ok (.iload_n 3, 1) := by decide +kernel
theorem d_LW_law_365 : decode code 365 = .ok (.iconst 1, 1) := by decide +kernel
theorem d_LW_law_366 : decode code 366 = .ok (.iadd, 1) := by decide +kernel
theorem d_LW_law_367 : decode code 367 = .ok (.iaload, 1) := by decide +kernel
theorem d_LW_law_368 : decode code 368 = .ok (.aload_n 0, 1) := by decide +kernel
theorem d_LW_law_369 : decode code 369 = .ok (.iload_n 3, 1) := by decide +kernel
theorem d_LW_law_370 : decode code 370 = .ok (.iconst 2, 1) := by decide +kernel
theorem d_LW_law_371 : decode code 371 = .ok (.iadd, 1) := by decide +kernel
theorem d_LW_law_372 : decode code 372 = .ok (.iaload, 1) := by decide +kernel
theorem d_LW_law_373 : decode code 373 = .ok (.invokevirtual 59, 3) := by decide +kernel
theorem d_LW_law_376 : decode code 376 = .ok (.lcmp, 1) := by decide +kernel
theorem d_LW_law_377 : decode code 377 = .ok (.ifCond .eq 44, 3) := by decide +kernel
theorem d_LW_law_380 : decode code 380 = .ok (.iconst 0, 1) := by decide +kernel
theorem d_LW_law_381 : decode code 381 = .ok (.ireturn, 1) := by decide +kernel
theorem d_LW_law_382 : decode code 382 = .ok (.aload_n 1, 1) := by decide +kernel
theorem d_LW_law_383 : decode code 383 = .ok (.invokevirtual 60, 3) := by decide +kernel
theorem d_LW_law_386 : decode code 386 = .ok (.aload_n 2, 1) := by decide +kernel
theorem d_LW_law_387 : decode code 387 = .ok (.invokevirtual 63, 3) := by decide +kernel
theorem d_LW_law_390 : decode code 390 = .ok (.if_icmp .eq 31, 3) := by decide +kernel
theorem d_LW_law_393 : decode code 393 = .ok (.iconst 0, 1) := by decide +kernel
theorem d_LW_law_394 : decode code 394 = .ok (.ireturn, 1) := by decide +kernel
theorem d_LW_law_395 : decode code 395 = .ok (.aload_n 1, 1) := by decide +kernel
theorem d_LW_law_396 : decode code 396 = .ok (.invokevirtual 64, 3) := by decide +kernel
theorem d_LW_law_399 : decode code 399 = .ok (.aload_n 2, 1) := by decide +kernel
theorem d_LW_law_400 : decode code 400 = .ok (.invokevirtual 67, 3) := by decide +kernel
theorem d_LW_law_403 : decode code 403 = .ok (.if_icmp .eq 18, 3) := by decide +kernel
theorem d_LW_law_406 : decode code 406 = .ok (.iconst 0, 1) := by decide +kernel
theorem d_LW_law_407 : decode code 407 = .ok (.ireturn, 1) := by decide +kernel
theorem d_LW_law_408 : decode code 408 = .ok (.aload_n 1, 1) := by decide +kernel
theorem d_LW_law_409 : decode code 409 = .ok (.invokevirtual 68, 3) := by decide +kernel
theorem d_LW_law_412 : decode code 412 = .ok (.aload_n 2, 1) := by decide +kernel
theorem d_LW_law_413 : decode code 413 = .ok (.invokevirtual 72, 3) := by decide +kernel
theorem d_LW_law_416 : decode code 416 = .ok (.if_icmp .eq 5, 3) := by decide +kernel
theorem d_LW_law_419 : decode code 419 = .ok (.iconst 0, 1) := by decide +kernel
theorem d_LW_law_420 : decode code 420 = .ok (.ireturn, 1) := by decide +kernel
theorem d_LW_law_421 : decode code 421 = .ok (.iinc 3 4, 3) := by decide +kernel
theorem d_LW_law_424 : decode code 424 = .ok (.goto (-406), 3) := by decide +kernel
theorem d_LW_law_427 : decode code 427 = .ok (.iconst 1, 1) := by decide +kernel
theorem d_LW_law_428 : decode code 428 = .ok (.ireturn, 1) := by decide +kernel
end
section
theorem d_MD_init_0 : decode b_MD_init 0 = .ok (.aload_n 0, 1) := by decide +kernel
theorem d_MD_init_1 : decode b_MD_init 1 = .ok (.invokespecial 1, 3) := by decide +kernel
theorem d_MD_init_4 : decode b_MD_init 4 = .ok (.aload_n 0, 1) := by decide +kernel
theorem d_MD_init_5 : decode b_MD_init 5 = .ok (.sipush 200, 3) := by decide +kernel
theorem d_MD_init_8 : decode b_MD_init 8 = .ok (.newarray .long, 2) := by decide +kernel
theorem d_MD_init_10 : decode b_MD_init 10 = .ok (.putfield 7, 3) := by decide +kernel
theorem d_MD_init_13 : decode b_MD_init 13 = .ok (.aload_n 0, 1) := by decide +kernel
theorem d_MD_init_14 : decode b_MD_init 14 = .ok (.sipush 3000, 3) := by decide +kernel
theorem d_MD_init_17 : decode b_MD_init 17 = .ok (.newarray .int, 2) := by decide +kernel
theorem d_MD_init_19 : decode b_MD_init 19 = .ok (.putfield 13, 3) := by decide +kernel
theorem d_MD_init_22 : decode b_MD_init 22 = .ok (.aload_n 0, 1) := by decide +kernel
theorem d_MD_init_23 : decode b_MD_init 23 = .ok (.sipush 3000, 3) := by decide +kernel
theorem d_MD_init_26 : decode b_MD_init 26 = .ok (.newarray .long, 2) := by decide +kernel
theorem d_MD_init_28 : decode b_MD_init 28 = .ok (.putfield 17, 3) := by decide +kernel
theorem d_MD_init_31 : decode b_MD_init 31 = .ok (.aload_n 0, 1) := by decide +kernel
theorem d_MD_init_32 : decode b_MD_init 32 = .ok (.sipush 3000, 3) := by decide +kernel
theorem d_MD_init_35 : decode b_MD_init 35 = .ok (.newarray .int, 2) := by decide +kernel
theorem d_MD_init_37 : decode b_MD_init 37 = .ok (.putfield 20, 3) := by decide +kernel
theorem d_MD_init_40 : decode b_MD_init 40 = .ok (.aload_n 0, 1) := by decide +kernel
theorem d_MD_init_41 : decode b_MD_init 41 = .ok (.sipush 3000, 3) := by decide +kernel
theorem d_MD_init_44 : decode b_MD_init 44 = .ok (.newarray .long, 2) := by decide +kernel
theorem d_MD_init_46 : decode b_MD_init 46 = .ok (.putfield 23, 3) := by decide +kernel
theorem d_MD_init_49 : decode b_MD_init 49 = .ok (.aload_n 0, 1) := by decide +kernel
theorem d_MD_init_50 : decode b_MD_init 50 = .ok (.sipush 3000, 3) := by decide +kernel
theorem d_MD_init_53 : decode b_MD_init 53 = .ok (.newarray .int, 2) := by decide +kernel
theorem d_MD_init_55 : decode b_MD_init 55 = .ok (.putfield 26, 3) := by decide +kernel
theorem d_MD_init_58 : decode b_MD_init 58 = .ok (.aload_n 0, 1) := by decide +kernel
theorem d_MD_init_59 : decode b_MD_init 59 = .ok (.sipush 3000, 3) := by decide +kernel
theorem d_MD_init_62 : decode b_MD_init 62 = .ok (.newarray .long, 2) := by decide +kernel
theorem d_MD_init_64 : decode b_MD_init 64 = .ok (.putfield 29, 3) := by decide +kernel
theorem d_MD_init_67 : decode b_MD_init 67 = .ok (.aload_n 0, 1) := by decide +kernel
theorem d_MD_init_68 : decode b_MD_init 68 = .ok (.sipush 3000, 3) := by decide +kernel
theorem d_MD_init_71 : decode b_MD_init 71 = .ok (.newarray .int, 2) := by decide +kernel
theorem d_MD_init_73 : decode b_MD_init 73 = .ok (.putfield 32, 3) := by decide +kernel
theorem d_MD_init_76 : decode b_MD_init 76 = .ok (.aload_n 0, 1) := by decide +kernel
theorem d_MD_init_77 : decode b_MD_init 77 = .ok (.sipush 3000, 3) := by decide +kernel
theorem d_MD_init_80 : decode b_MD_init 80 = .ok (.newarray .long, 2) := by decide +kernel
theorem d_MD_init_82 : decode b_MD_init 82 = .ok (.putfield 35, 3) := by decide +kernel
theorem d_MD_init_85 : decode b_MD_init 85 = .ok (.aload_n 0, 1) := by decide +kernel
theorem d_MD_init_86 : decode b_MD_init 86 = .ok (.sipush 3000, 3) := by decide +kernel
theorem d_MD_init_89 : decode b_MD_init 89 = .ok (.newarray .int, 2) := by decide +kernel
theorem d_MD_init_91 : decode b_MD_init 91 = .ok (.putfield 38, 3) := by decide +kernel
theorem d_MD_init_94 : decode b_MD_init 94 = .ok (.aload_n 0, 1) := by decide +kernel
theorem d_MD_init_95 : decode b_MD_init 95 = .ok (.sipush 3000, 3) := by decide +kernel
theorem d_MD_init_98 : decode b_MD_init 98 = .ok (.newarray .long, 2) := by decide +kernel
theorem d_MD_init_100 : decode b_MD_init 100 = .ok (.putfield 41, 3) := by decide +kernel
theorem d_MD_init_103 : decode b_MD_init 103 = .ok (.aload_n 0, 1) := by decide +kernel
theorem d_MD_init_104 : decode b_MD_init 104 = .ok (.sipush 3000, 3) := by decide +kernel
theorem d_MD_init_107 : decode b_MD_init 107 = .ok (.newarray .int, 2) := by decide +kernel
theorem d_MD_init_109 : decode b_MD_init 109 = .ok (.putfield 44, 3) := by decide +kernel
theorem d_MD_init_112 : decode b_MD_init 112 = .ok (.aload_n 0, 1) := by decide +kernel
theorem d_MD_init_113 : decode b_MD_init 113 = .ok (.sipush 3000, 3) := by decide +kernel
theorem d_MD_init_116 : decode b_MD_init 116 = .ok (.newarray .int, 2) := by decide +kernel
theorem d_MD_init_118 : decode b_MD_init 118 = .ok (.putfield 47, 3) := by decide +kernel
theorem d_MD_init_121 : decode b_MD_init 121 = .ok (.aload_n 0, 1) := by decide +kernel
theorem d_MD_init_122 : decode b_MD_init 122 = .ok (.sipush 3000, 3) := by decide +kernel
theorem d_MD_init_125 : decode b_MD_init 125 = .ok (.newarray .int, 2) := by decide +kernel
theorem d_MD_init_127 : decode b_MD_init 127 = .ok (.putfield 50, 3) := by decide +kernel
theorem d_MD_init_130 : decode b_MD_init 130 = .ok (.aload_n 0, 1) := by decide +kernel
theorem d_MD_init_131 : decode b_MD_init 131 = .ok (.iconst 0, 1) := by decide +kernel
theorem d_MD_init_132 : decode b_MD_init 132 = .ok (.putfield 53, 3) := by decide +kernel
theorem d_MD_init_135 : decode b_MD_init 135 = .ok (.return_, 1) := by decide +kernel
theorem d_MD_length_0 : decode b_MD_length 0 = .ok (.iconst 0, 1) := by decide +kernel
theorem d_MD_length_1 : decode b_MD_length 1 = .ok (.istore_n 2, 1) := by decide +kernel
theorem d_MD_length_2 : decode b_MD_length 2 = .ok (.lload_n 0, 1) := by decide +kernel
theorem d_MD_length_3 : decode b_MD_length 3 = .ok (.lstore_n 3, 1) := by decide +kernel
theorem d_MD_length_4 : decode b_MD_length 4 = .ok (.lload_n 3, 1) := by decide +kernel
theorem d_MD_length_5 : decode b_MD_length 5 = .ok (.lconst 0, 1) := by decide +kernel
theorem d_MD_length_6 : decode b_MD_length 6 = .ok (.lcmp, 1) := by decide +kernel
theorem d_MD_length_7 : decode b_MD_length 7 = .ok (.ifCond .eq 14, 3) := by decide +kernel
theorem d_MD_length_10 : decode b_MD_length 10 = .ok (.iinc 2 1, 3) := by decide +kernel
theorem d_MD_length_13 : decode b_MD_length 13 = .ok (.lload_n 3, 1) := by decide +kernel
theorem d_MD_length_14 : decode b_MD_length 14 = .ok (.bipush 8, 2) := by decide +kernel
theorem d_MD_length_16 : decode b_MD_length 16 = .ok (.lushr, 1) := by decide +kernel
theorem d_MD_length_17 : decode b_MD_length 17 = .ok (.lstore_n 3, 1) := by decide +kernel
theorem d_MD_length_18 : decode b_MD_length 18 = .ok (.goto (-14), 3) := by decide +kernel
theorem d_MD_length_21 : decode b_MD_length 21 = .ok (.iload_n 2, 1) := by decide +kernel
theorem d_MD_length_22 : decode b_MD_length 22 = .ok (.ireturn, 1) := by decide +kernel
theorem d_MD_isName_0 : decode b_MD_isName 0 = .ok (.lload_n 0, 1) := by decide +kernel
theorem d_MD_isName_1 : decode b_MD_isName 1 = .ok (.invokestatic 57, 3) := by decide +kernel
theorem d_MD_isName_4 : decode b_MD_isName 4 = .ok (.istore_n 3, 1) := by decide +kernel
theorem d_MD_isName_5 : decode b_MD_isName 5 = .ok (.iload_n 3, 1) := by decide +kernel
theorem d_MD_isName_6 : decode b_MD_isName 6 = .ok (.ifCond .le 12, 3) := by decide +kernel
theorem d_MD_isName_9 : decode b_MD_isName 9 = .ok (.iload_n 3, 1) := by decide +kernel
theorem d_MD_isName_10 : decode b_MD_isName 10 = .ok (.iload_n 2, 1) := by decide +kernel
theorem d_MD_isName_11 : decode b_MD_isName 11 = .ok (.if_icmp .gt 7, 3) := by decide +kernel
theorem d_MD_isName_14 : decode b_MD_isName 14 = .ok (.iconst 1, 1) := by decide +kernel
theorem d_MD_isName_15 : decode b_MD_isName 15 = .ok (.goto 4, 3) := by decide +kernel
theorem d_MD_isName_18 : decode b_MD_isName 18 = .ok (.iconst 0, 1) := by decide +kernel
theorem d_MD_isName_19 : decode b_MD_isName 19 = .ok (.istore 4, 2) := by decide +kernel
theorem d_MD_isName_21 : decode b_MD_isName 21 = .ok (.iconst 0, 1) := by decide +kernel
theorem d_MD_isName_22 : decode b_MD_isName 22 = .ok (.istore 5, 2) := by decide +kernel
theorem d_MD_isName_24 : decode b_MD_isName 24 = .ok (.iload 5, 2) := by decide +kernel
theorem d_MD_isName_26 : decode b_MD_isName 26 = .ok (.iload_n 3, 1) := by decide +kernel
theorem d_MD_isName_27 : decode b_MD_isName 27 = .ok (.if_icmp .ge 79, 3) := by decide +kernel
theorem d_MD_isName_30 : decode b_MD_isName 30 = .ok (.iload 4, 2) := by decide +kernel
theorem d_MD_isName_32 : decode b_MD_isName 32 = .ok (.ifCond .eq 74, 3) := by decide +kernel
theorem d_MD_isName_35 : decode b_MD_isName 35 = .ok (.lload_n 0, 1) := by decide +kernel
theorem d_MD_isName_36 : decode b_MD_isName 36 = .ok (.bipush 8, 2) := by decide +kernel
theorem d_MD_isName_38 : decode b_MD_isName 38 = .ok (.iload_n 3, 1) := by decide +kernel
theorem d_MD_isName_39 : decode b_MD_isName 39 = .ok (.iconst 1, 1) := by decide +kernel
theorem d_MD_isName_40 : decode b_MD_isName 40 = .ok (.isub, 1) := by decide +kernel
theorem d_MD_isName_41 : decode b_MD_isName 41 = .ok (.iload 5, 2) := by decide +kernel
theorem d_MD_isName_43 : decode b_MD_isName 43 = .ok (.isub, 1) := by decide +kernel
theorem d_MD_isName_44 : decode b_MD_isName 44 = .ok (.imul, 1) := by decide +kernel
theorem d_MD_isName_45 : decode b_MD_isName 45 = .ok (.lushr, 1) := by decide +kernel
theorem d_MD_isName_46 : decode b_MD_isName 46 = .ok (.ldc2_w 61, 3) := by decide +kernel
theorem d_MD_isName_49 : decode b_MD_isName 49 = .ok (.land, 1) := by decide +kernel
theorem d_MD_isName_50 : decode b_MD_isName 50 = .ok (.lstore 6, 2) := by decide +kernel
theorem d_MD_isName_52 : decode b_MD_isName 52 = .ok (.lload 6, 2) := by decide +kernel
theorem d_MD_isName_54 : decode b_MD_isName 54 = .ok (.ldc2_w 63, 3) := by decide +kernel
theorem d_MD_isName_57 : decode b_MD_isName 57 = .ok (.lcmp, 1) := by decide +kernel
theorem d_MD_isName_58 : decode b_MD_isName 58 = .ok (.ifCond .lt 12, 3) := by decide +kernel
theorem d_MD_isName_61 : decode b_MD_isName 61 = .ok (.lload 6, 2) := by decide +kernel
theorem d_MD_isName_63 : decode b_MD_isName 63 = .ok (.ldc2_w 65, 3) := by decide +kernel
theorem d_MD_isName_66 : decode b_MD_isName 66 = .ok (.lcmp, 1) := by decide +kernel
theorem d_MD_isName_67 : decode b_MD_isName 67 = .ok (.ifCond .le 26, 3) := by decide +kernel
theorem d_MD_isName_70 : decode b_MD_isName 70 = .ok (.iload 5, 2) := by decide +kernel
theorem d_MD_isName_72 : decode b_MD_isName 72 = .ok (.ifCond .le 25, 3) := by decide +kernel
theorem d_MD_isName_75 : decode b_MD_isName 75 = .ok (.lload 6, 2) := by decide +kernel
theorem d_MD_isName_77 : decode b_MD_isName 77 = .ok (.ldc2_w 67, 3) := by decide +kernel
theorem d_MD_isName_80 : decode b_MD_isName 80 = .ok (.lcmp, 1) := by decide +kernel
theorem d_MD_isName_81 : decode b_MD_isName 81 = .ok (.ifCond .lt 16, 3) := by decide +kernel
theorem d_MD_isName_84 : decode b_MD_isName 84 = .ok (.lload 6, 2) := by decide +kernel
theorem d_MD_isName_86 : decode b_MD_isName 86 = .ok (.ldc2_w 69, 3) := by decide +kernel
theorem d_MD_isName_89 : decode b_MD_isName 89 = .ok (.lcmp, 1) := by decide +kernel
theorem d_MD_isName_90 : decode b_MD_isName 90 = .ok (.ifCond .gt 7, 3) := by decide +kernel
theorem d_MD_isName_93 : decode b_MD_isName 93 = .ok (.iconst 1, 1) := by decide +kernel
theorem d_MD_isName_94 : decode b_MD_isName 94 = .ok (.goto 4, 3) := by decide +kernel
theorem d_MD_isName_97 : decode b_MD_isName 97 = .ok (.iconst 0, 1) := by decide +kernel
theorem d_MD_isName_98 : decode b_MD_isName 98 = .ok (.istore 4, 2) := by decide +kernel
theorem d_MD_isName_100 : decode b_MD_isName 100 = .ok (.iinc 5 1, 3) := by decide +kernel
theorem d_MD_isName_103 : decode b_MD_isName 103 = .ok (.goto (-79), 3) := by decide +kernel
theorem d_MD_isName_106 : decode b_MD_isName 106 = .ok (.iload 4, 2) := by decide +kernel
theorem d_MD_isName_108 : decode b_MD_isName 108 = .ok (.ireturn, 1) := by decide +kernel
theorem d_MD_globalOf_0 : decode b_MD_globalOf 0 = .ok (.iconst 0, 1) := by decide +kernel
theorem d_MD_globalOf_1 : decode b_MD_globalOf 1 = .ok (.istore_n 3, 1) := by decide +kernel
theorem d_MD_globalOf_2 : decode b_MD_globalOf 2 = .ok (.iload_n 3, 1) := by decide +kernel
theorem d_MD_globalOf_3 : decode b_MD_globalOf 3 = .ok (.aload_n 0, 1) := by decide +kernel
theorem d_MD_globalOf_4 : decode b_MD_globalOf 4 = .ok (.getfield 71, 3) := by decide +kernel
theorem d_MD_globalOf_7 : decode b_MD_globalOf 7 = .ok (.if_icmp .ge 22, 3) := by decide +kernel
theorem d_MD_globalOf_10 : decode b_MD_globalOf 10 = .ok (.aload_n 0, 1) := by decide +kernel
theorem d_MD_globalOf_11 : decode b_MD_globalOf 11 = .ok (.getfield 7, 3) := by decide +kernel
theorem d_MD_globalOf_14 : decode b_MD_globalOf 14 = .ok (.iload_n 3, 1) := by decide +kernel
theorem d_MD_globalOf_15 : decode b_MD_globalOf 15 = .ok (.laload, 1) := by decide +kernel
theorem d_MD_globalOf_16 : decode b_MD_globalOf 16 = .ok (.lload_n 1, 1) := by decide +kernel
theorem d_MD_globalOf_17 : decode b_MD_globalOf 17 = .ok (.lcmp, 1) := by decide +kernel
theorem d_MD_globalOf_18 : decode b_MD_globalOf 18 = .ok (.ifCond .ne 5, 3) := by decide +kernel
theorem d_MD_globalOf_21 : decode b_MD_globalOf 21 = .ok (.iload_n 3, 1) := by decide +kernel
theorem d_MD_globalOf_22 : decode b_MD_globalOf 22 = .ok (.ireturn, 1) := by decide +kernel
theorem d_MD_globalOf_23 : decode b_MD_globalOf 23 = .ok (.iinc 3 1, 3) := by decide +kernel
theorem d_MD_globalOf_26 : decode b_MD_globalOf 26 = .ok (.goto (-24), 3) := by decide +kernel
theorem d_MD_globalOf_29 : decode b_MD_globalOf 29 = .ok (.iconst (-1), 1) := by decide +kernel
theorem d_MD_globalOf_30 : decode b_MD_globalOf 30 = .ok (.ireturn, 1) := by decide +kernel
theorem d_MD_global_0 : decode b_MD_global 0 = .ok (.lload_n 1, 1) := by decide +kernel
theorem d_MD_global_1 : decode b_MD_global 1 = .ok (.iconst 4, 1) := by decide +kernel
theorem d_MD_global_2 : decode b_MD_global 2 = .ok (.invokestatic 74, 3) := by decide +kernel
theorem d_MD_global_5 : decode b_MD_global 5 = .ok (.ifCond .eq 22, 3) := by decide +kernel
theorem d_MD_global_8 : decode b_MD_global 8 = .ok (.aload_n 0, 1) := by decide +kernel
theorem d_MD_global_9 : decode b_MD_global 9 = .ok (.lload_n 1, 1) := by decide +kernel
theorem d_MD_global_10 : decode b_MD_global 10 = .ok (.invokevirtual 78, 3) := by decide +kernel
theorem d_MD_global_13 : decode b_MD_global 13 = .ok (.iconst (-1), 1) := by decide +kernel
theorem d_MD_global_14 : decode b_MD_global 14 = .ok (.if_icmp .ne 13, 3) := by decide +kernel
theorem d_MD_global_17 : decode b_MD_global 17 = .ok (.aload_n 0, 1) := by decide +kernel
theorem d_MD_global_18 : decode b_MD_global 18 = .ok (.getfield 71, 3) := by decide +kernel
theorem d_MD_global_21 : decode b_MD_global 21 = .ok (.sipush 200, 3) := by decide +kernel
theorem d_MD_global_24 : decode b_MD_global 24 = .ok (.if_icmp .ne 5, 3) := by decide +kernel
theorem d_MD_global_27 : decode b_MD_global 27 = .ok (.iconst (-1), 1) := by decide +kernel
theorem d_MD_global_28 : decode b_MD_global 28 = .ok (.ireturn, 1) := by decide +kernel
theorem d_MD_global_29 : decode b_MD_global 29 = .ok (.aload_n 0, 1) := by decide +kernel
theorem d_MD_global_30 : decode b_MD_global 30 = .ok (.getfield 7, 3) := by decide +kernel
theorem d_MD_global_33 : decode b_MD_global 33 = .ok (.aload_n 0, 1) := by decide +kernel
theorem d_MD_global_34 : decode b_MD_global 34 = .ok (.getfield 71, 3) := by decide +kernel
theorem d_MD_global_37 : decode b_MD_global 37 = .ok (.lload_n 1, 1) := by decide +kernel
theorem d_MD_global_38 : decode b_MD_global 38 = .ok (.lastore, 1) := by decide +kernel
theorem d_MD_global_39 : decode b_MD_global 39 = .ok (.aload_n 0, 1) := by decide +kernel
theorem d_MD_global_40 : decode b_MD_global 40 = .ok (.dup, 1) := by decide +kernel
theorem d_MD_global_41 : decode b_MD_global 41 = .ok (.getfield 71, 3) := by decide +kernel
theorem d_MD_global_44 : decode b_MD_global 44 = .ok (.iconst 1, 1) := by decide +kernel
theorem d_MD_global_45 : decode b_MD_global 45 = .ok (.iadd, 1) := by decide +kernel
theorem d_MD_global_46 : decode b_MD_global 46 = .ok (.putfield 71, 3) := by decide +kernel
theorem d_MD_global_49 : decode b_MD_global 49 = .ok (.aload_n 0, 1) := by decide +kernel
theorem d_MD_global_50 : decode b_MD_global 50 = .ok (.getfield 71, 3) := by decide +kernel
theorem d_MD_global_53 : decode b_MD_global 53 = .ok (.iconst 1, 1) := by decide +kernel
theorem d_MD_global_54 : decode b_MD_global 54 = .ok (.isub, 1) := by decide +kernel
theorem d_MD_global_55 : decode b_MD_global 55 = .ok (.ireturn, 1) := by decide +kernel
theorem d_MD_hasParts_0 : decode b_MD_hasParts 0 = .ok (.iload_n 0, 1) := by decide +kernel
theorem d_MD_hasParts_1 : decode b_MD_hasParts 1 = .ok (.ifCond .eq 18, 3) := by decide +kernel
theorem d_MD_hasParts_4 : decode b_MD_hasParts 4 = .ok (.iload_n 0, 1) := by decide +kernel
theorem d_MD_hasParts_5 : decode b_MD_hasParts 5 = .ok (.iconst 5, 1) := by decide +kernel
theorem d_MD_hasParts_6 : decode b_MD_hasParts 6 = .ok (.if_icmp .eq 13, 3) := by decide +kernel
theorem d_MD_hasParts_9 : decode b_MD_hasParts 9 = .ok (.iload_n 0, 1) := by decide +kernel
theorem d_MD_hasParts_10 : decode b_MD_hasParts 10 = .ok (.bipush 7, 2) := by decide +kernel
theorem d_MD_hasParts_12 : decode b_MD_hasParts 12 = .ok (.if_icmp .eq 7, 3) := by decide +kernel
theorem d_MD_hasParts_15 : decode b_MD_hasParts 15 = .ok (.iconst 1, 1) := by decide +kernel
theorem d_MD_hasParts_16 : decode b_MD_hasParts 16 = .ok (.goto 4, 3) := by decide +kernel
theorem d_MD_hasParts_19 : decode b_MD_hasParts 19 = .ok (.iconst 0, 1) := by decide +kernel
theorem d_MD_hasParts_20 : decode b_MD_hasParts 20 = .ok (.ireturn, 1) := by decide +kernel
theorem d_MD_binds_0 : decode b_MD_binds 0 = .ok (.iload_n 0, 1) := by decide +kernel
theorem d_MD_binds_1 : decode b_MD_binds 1 = .ok (.iconst 1, 1) := by decide +kernel
theorem d_MD_binds_2 : decode b_MD_binds 2 = .ok (.if_icmp .eq 19, 3) := by decide +kernel
theorem d_MD_binds_5 : decode b_MD_binds 5 = .ok (.iload_n 0, 1) := by decide +kernel
theorem d_MD_binds_6 : decode b_MD_binds 6 = .ok (.iconst 2, 1) := by decide +kernel
theorem d_MD_binds_7 : decode b_MD_binds 7 = .ok (.if_icmp .eq 14, 3) := by decide +kernel
theorem d_MD_binds_10 : decode b_MD_binds 10 = .ok (.iload_n 0, 1) := by decide +kernel
theorem d_MD_binds_11 : decode b_MD_binds 11 = .ok (.iconst 3, 1) := by decide +kernel
theorem d_MD_binds_12 : decode b_MD_binds 12 = .ok (.if_icmp .eq 9, 3) := by decide +kernel
theorem d_MD_binds_15 : decode b_MD_binds 15 = .ok (.iload_n 0, 1) := by decide +kernel
theorem d_MD_binds_16 : decode b_MD_binds 16 = .ok (.bipush 6, 2) := by decide +kernel
theorem d_MD_binds_18 : decode b_MD_binds 18 = .ok (.if_icmp .ne 7, 3) := by decide +kernel
theorem d_MD_binds_21 : decode b_MD_binds 21 = .ok (.iconst 1, 1) := by decide +kernel
theorem d_MD_binds_22 : decode b_MD_binds 22 = .ok (.goto 4, 3) := by decide +kernel
theorem d_MD_binds_25 : decode b_MD_binds 25 = .ok (.iconst 0, 1) := by decide +kernel
theorem d_MD_binds_26 : decode b_MD_binds 26 = .ok (.ireturn, 1) := by decide +kernel
theorem d_MD_lay_0 : decode b_MD_lay 0 = .ok (.iload_n 1, 1) := by decide +kernel
theorem d_MD_lay_1 : decode b_MD_lay 1 = .ok (.ifCond .lt 16, 3) := by decide +kernel
theorem d_MD_lay_4 : decode b_MD_lay 4 = .ok (.iload_n 1, 1) := by decide +kernel
theorem d_MD_lay_5 : decode b_MD_lay 5 = .ok (.iconst 4, 1) := by decide +kernel
theorem d_MD_lay_6 : decode b_MD_lay 6 = .ok (.if_icmp .ge 11, 3) := by decide +kernel
theorem d_MD_lay_9 : decode b_MD_lay 9 = .ok (.lload_n 2, 1) := by decide +kernel
theorem d_MD_lay_10 : decode b_MD_lay 10 = .ok (.iconst 4, 1) := by decide +kernel
theorem d_MD_lay_11 : decode b_MD_lay 11 = .ok (.invokestatic 74, 3) := by decide +kernel
theorem d_MD_lay_14 : decode b_MD_lay 14 = .ok (.goto 52, 3) := by decide +kernel
theorem d_MD_lay_17 : decode b_MD_lay 17 = .ok (.iload_n 1, 1) := by decide +kernel
theorem d_MD_lay_18 : decode b_MD_lay 18 = .ok (.iconst 5, 1) := by decide +kernel
theorem d_MD_lay_19 : decode b_MD_lay 19 = .ok (.if_icmp .ne 25, 3) := by decide +kernel
theorem d_MD_lay_22 : decode b_MD_lay 22 = .ok (.lload_n 2, 1) := by decide +kernel
theorem d_MD_lay_23 : decode b_MD_lay 23 = .ok (.lconst 0, 1) := by decide +kernel
theorem d_MD_lay_24 : decode b_MD_lay 24 = .ok (.lcmp, 1) := by decide +kernel
theorem d_MD_lay_25 : decode b_MD_lay 25 = .ok (.ifCond .lt 15, 3) := by decide +kernel
theorem d_MD_lay_28 : decode b_MD_lay 28 = .ok (.lload_n 2, 1) := by decide +kernel
theorem d_MD_lay_29 : decode b_MD_lay 29 = .ok (.ldc2_w 81, 3) := by decide +kernel
theorem d_MD_lay_32 : decode b_MD_lay 32 = .ok (.lcmp, 1) := by decide +kernel
theorem d_MD_lay_33 : decode b_MD_lay 33 = .ok (.ifCond .gt 7, 3) := by decide +kernel
theorem d_MD_lay_36 : decode b_MD_lay 36 = .ok (.iconst 1, 1) := by decide +kernel
theorem d_MD_lay_37 : decode b_MD_lay 37 = .ok (.goto 29, 3) := by decide +kernel
theorem d_MD_lay_40 : decode b_MD_lay 40 = .ok (.iconst 0, 1) := by decide +kernel
theorem d_MD_lay_41 : decode b_MD_lay 41 = .ok (.goto 25, 3) := by decide +kernel
theorem d_MD_lay_44 : decode b_MD_lay 44 = .ok (.iload_n 1, 1) := by decide +kernel
theorem d_MD_lay_45 : decode b_MD_lay 45 = .ok (.iconst 4, 1) := by decide +kernel
theorem d_MD_lay_46 : decode b_MD_lay 46 = .ok (.if_icmp .eq 9, 3) := by decide +kernel
theorem d_MD_lay_49 : decode b_MD_lay 49 = .ok (.iload_n 1, 1) := by decide +kernel
theorem d_MD_lay_50 : decode b_MD_lay 50 = .ok (.bipush 6, 2) := by decide +kernel
theorem d_MD_lay_52 : decode b_MD_lay 52 = .ok (.if_icmp .ne 13, 3) := by decide +kernel
theorem d_MD_lay_55 : decode b_MD_lay 55 = .ok (.lload_n 2, 1) := by decide +kernel
theorem d_MD_lay_56 : decode b_MD_lay 56 = .ok (.lconst 0, 1) := by decide +kernel
theorem d_MD_lay_57 : decode b_MD_lay 57 = .ok (.lcmp, 1) := by decide +kernel
theorem d_MD_lay_58 : decode b_MD_lay 58 = .ok (.ifCond .ne 7, 3) := by decide +kernel
theorem d_MD_lay_61 : decode b_MD_lay 61 = .ok (.iconst 1, 1) := by decide +kernel
theorem d_MD_lay_62 : decode b_MD_lay 62 = .ok (.goto 4, 3) := by decide +kernel
theorem d_MD_lay_65 : decode b_MD_lay 65 = .ok (.iconst 0, 1) := by decide +kernel
theorem d_MD_lay_66 : decode b_MD_lay 66 = .ok (.istore 4, 2) := by decide +kernel
theorem d_MD_lay_68 : decode b_MD_lay 68 = .ok (.iload 4, 2) := by decide +kernel
theorem d_MD_lay_70 : decode b_MD_lay 70 = .ok (.ifCond .eq 13, 3) := by decide +kernel
theorem d_MD_lay_73 : decode b_MD_lay 73 = .ok (.aload_n 0, 1) := by decide +kernel
theorem d_MD_lay_74 : decode b_MD_lay 74 = .ok (.getfield 83, 3) := by decide +kernel
theorem d_MD_lay_77 : decode b_MD_lay 77 = .ok (.sipush 3000, 3) := by decide +kernel
theorem d_MD_lay_80 : decode b_MD_lay 80 = .ok (.if_icmp .ne 5, 3) := by decide +kernel
theorem d_MD_lay_83 : decode b_MD_lay 83 = .ok (.iconst (-1), 1) := by decide +kernel
theorem d_MD_lay_84 : decode b_MD_lay 84 = .ok (.ireturn, 1) := by decide +kernel
theorem d_MD_lay_85 : decode b_MD_lay 85 = .ok (.aload_n 0, 1) := by decide +kernel
theorem d_MD_lay_86 : decode b_MD_lay 86 = .ok (.getfield 13, 3) := by decide +kernel
theorem d_MD_lay_89 : decode b_MD_lay 89 = .ok (.aload_n 0, 1) := by decide +kernel
theorem d_MD_lay_90 : decode b_MD_lay 90 = .ok (.getfield 83, 3) := by decide +kernel
theorem d_MD_lay_93 : decode b_MD_lay 93 = .ok (.iload_n 1, 1) := by decide +kernel
theorem d_MD_lay_94 : decode b_MD_lay 94 = .ok (.iastore, 1) := by decide +kernel
theorem d_MD_lay_95 : decode b_MD_lay 95 = .ok (.aload_n 0, 1) := by decide +kernel
theorem d_MD_lay_96 : decode b_MD_lay 96 = .ok (.getfield 17, 3) := by decide +kernel
theorem d_MD_lay_99 : decode b_MD_lay 99 = .ok (.aload_n 0, 1) := by decide +kernel
theorem d_MD_lay_100 : decode b_MD_lay 100 = .ok (.getfield 83, 3) := by decide +kernel
theorem d_MD_lay_103 : decode b_MD_lay 103 = .ok (.lload_n 2, 1) := by decide +kernel
theorem d_MD_lay_104 : decode b_MD_lay 104 = .ok (.lastore, 1) := by decide +kernel
theorem d_MD_lay_105 : decode b_MD_lay 105 = .ok (.aload_n 0, 1) := by decide +kernel
theorem d_MD_lay_106 : decode b_MD_lay 106 = .ok (.dup, 1) := by decide +kernel
theorem d_MD_lay_107 : decode b_MD_lay 107 = .ok (.getfield 83, 3) := by decide +kernel
theorem d_MD_lay_110 : decode b_MD_lay 110 = .ok (.iconst 1, 1) := by decide +kernel
theorem d_MD_lay_111 : decode b_MD_lay 111 = .ok (.iadd, 1) := by decide +kernel
theorem d_MD_lay_112 : decode b_MD_lay 112 = .ok (.putfield 83, 3) := by decide +kernel
theorem d_MD_lay_115 : decode b_MD_lay 115 = .ok (.aload_n 0, 1) := by decide +kernel
theorem d_MD_lay_116 : decode b_MD_lay 116 = .ok (.getfield 83, 3) := by decide +kernel
theorem d_MD_lay_119 : decode b_MD_lay 119 = .ok (.ireturn, 1) := by decide +kernel
theorem d_MD_drop_0 : decode b_MD_drop 0 = .ok (.aload_n 0, 1) := by decide +kernel
theorem d_MD_drop_1 : decode b_MD_drop 1 = .ok (.getfield 83, 3) := by decide +kernel
theorem d_MD_drop_4 : decode b_MD_drop 4 = .ok (.istore_n 1, 1) := by decide +kernel
theorem d_MD_drop_5 : decode b_MD_drop 5 = .ok (.aload_n 0, 1) := by decide +kernel
theorem d_MD_drop_6 : decode b_MD_drop 6 = .ok (.iconst 0, 1) := by decide +kernel
theorem d_MD_drop_7 : decode b_MD_drop 7 = .ok (.putfield 83, 3) := by decide +kernel
theorem d_MD_drop_10 : decode b_MD_drop 10 = .ok (.iload_n 1, 1) := by decide +kernel
theorem d_MD_drop_11 : decode b_MD_drop 11 = .ok (.ireturn, 1) := by decide +kernel
theorem d_MD_isOneTerm_0 : decode b_MD_isOneTerm 0 = .ok (.iconst 1, 1) := by decide +kernel
theorem d_MD_isOneTerm_1 : decode b_MD_isOneTerm 1 = .ok (.istore_n 1, 1) := by decide +kernel
theorem d_MD_isOneTerm_2 : decode b_MD_isOneTerm 2 = .ok (.iconst 0, 1) := by decide +kernel
theorem d_MD_isOneTerm_3 : decode b_MD_isOneTerm 3 = .ok (.istore_n 2, 1) := by decide +kernel
theorem d_MD_isOneTerm_4 : decode b_MD_isOneTerm 4 = .ok (.iload_n 2, 1) := by decide +kernel
theorem d_MD_isOneTerm_5 : decode b_MD_isOneTerm 5 = .ok (.aload_n 0, 1) := by decide +kernel
theorem d_MD_isOneTerm_6 : decode b_MD_isOneTerm 6 = .ok (.getfield 83, 3) := by decide +kernel
theorem d_MD_isOneTerm_9 : decode b_MD_isOneTerm 9 = .ok (.if_icmp .ge 35, 3) := by decide +kernel
theorem d_MD_isOneTerm_12 : decode b_MD_isOneTerm 12 = .ok (.iload_n 1, 1) := by decide +kernel
theorem d_MD_isOneTerm_13 : decode b_MD_isOneTerm 13 = .ok (.ifCond .ne 5, 3) := by decide +kernel
theorem d_MD_isOneTerm_16 : decode b_MD_isOneTerm 16 = .ok (.iconst 0, 1) := by decide +kernel
theorem d_MD_isOneTerm_17 : decode b_MD_isOneTerm 17 = .ok (.ireturn, 1) := by decide +kernel
theorem d_MD_isOneTerm_18 : decode b_MD_isOneTerm 18 = .ok (.iload_n 1, 1) := by decide +kernel
theorem d_MD_isOneTerm_19 : decode b_MD_isOneTerm 19 = .ok (.aload_n 0, 1) := by decide +kernel
theorem d_MD_isOneTerm_20 : decode b_MD_isOneTerm 20 = .ok (.getfield 13, 3) := by decide +kernel
theorem d_MD_isOneTerm_23 : decode b_MD_isOneTerm 23 = .ok (.iload_n 2, 1) := by decide +kernel
theorem d_MD_isOneTerm_24 : decode b_MD_isOneTerm 24 = .ok (.iaload, 1) := by decide +kernel
theorem d_MD_isOneTerm_25 : decode b_MD_isOneTerm 25 = .ok (.invokestatic 86, 3) := by decide +kernel
theorem d_MD_isOneTerm_28 : decode b_MD_isOneTerm 28 = .ok (.ifCond .eq 7, 3) := by decide +kernel
theorem d_MD_isOneTerm_31 : decode b_MD_isOneTerm 31 = .ok (.iconst 1, 1) := by decide +kernel
theorem d_MD_isOneTerm_32 : decode b_MD_isOneTerm 32 = .ok (.goto 4, 3) := by decide +kernel
theorem d_MD_isOneTerm_35 : decode b_MD_isOneTerm 35 = .ok (.iconst (-1), 1) := by decide +kernel
theorem d_MD_isOneTerm_36 : decode b_MD_isOneTerm 36 = .ok (.iadd, 1) := by decide +kernel
theorem d_MD_isOneTerm_37 : decode b_MD_isOneTerm 37 = .ok (.istore_n 1, 1) := by decide +kernel
theorem d_MD_isOneTerm_38 : decode b_MD_isOneTerm 38 = .ok (.iinc 2 1, 3) := by decide +kernel
theorem d_MD_isOneTerm_41 : decode b_MD_isOneTerm 41 = .ok (.goto (-37), 3) := by decide +kernel
theorem d_MD_isOneTerm_44 : decode b_MD_isOneTerm 44 = .ok (.iload_n 1, 1) := by decide +kernel
theorem d_MD_isOneTerm_45 : decode b_MD_isOneTerm 45 = .ok (.ifCond .ne 7, 3) := by decide +kernel
theorem d_MD_isOneTerm_48 : decode b_MD_isOneTerm 48 = .ok (.iconst 1, 1) := by decide +kernel
theorem d_MD_isOneTerm_49 : decode b_MD_isOneTerm 49 = .ok (.goto 4, 3) := by decide +kernel
theorem d_MD_isOneTerm_52 : decode b_MD_isOneTerm 52 = .ok (.iconst 0, 1) := by decide +kernel
theorem d_MD_isOneTerm_53 : decode b_MD_isOneTerm 53 = .ok (.ireturn, 1) := by decide +kernel
theorem d_MD_kindOf_0 : decode b_MD_kindOf 0 = .ok (.iload_n 1, 1) := by decide +kernel
theorem d_MD_kindOf_1 : decode b_MD_kindOf 1 = .ok (.ifCond .eq 12, 3) := by decide +kernel
theorem d_MD_kindOf_4 : decode b_MD_kindOf 4 = .ok (.aload_n 0, 1) := by decide +kernel
theorem d_MD_kindOf_5 : decode b_MD_kindOf 5 = .ok (.getfield 13, 3) := by decide +kernel
theorem d_MD_kindOf_8 : decode b_MD_kindOf 8 = .ok (.iload_n 2, 1) := by decide +kernel
theorem d_MD_kindOf_9 : decode b_MD_kindOf 9 = .ok (.iaload, 1) := by decide +kernel
theorem d_MD_kindOf_10 : decode b_MD_kindOf 10 = .ok (.goto 9, 3) := by decide +kernel
theorem d_MD_kindOf_13 : decode b_MD_kindOf 13 = .ok (.aload_n 0, 1) := by decide +kernel
theorem d_MD_kindOf_14 : decode b_MD_kindOf 14 = .ok (.getfield 20, 3) := by decide +kernel
theorem d_MD_kindOf_17 : decode b_MD_kindOf 17 = .ok (.iload_n 2, 1) := by decide +kernel
theorem d_MD_kindOf_18 : decode b_MD_kindOf 18 = .ok (.iaload, 1) := by decide +kernel
theorem d_MD_kindOf_19 : decode b_MD_kindOf 19 = .ok (.ireturn, 1) := by decide +kernel
theorem d_MD_measure_0 : decode b_MD_measure 0 = .ok (.iload_n 1, 1) := by decide +kernel
theorem d_MD_measure_1 : decode b_MD_measure 1 = .ok (.ifCond .eq 10, 3) := by decide +kernel
theorem d_MD_measure_4 : decode b_MD_measure 4 = .ok (.aload_n 0, 1) := by decide +kernel
theorem d_MD_measure_5 : decode b_MD_measure 5 = .ok (.getfield 83, 3) := by decide +kernel
theorem d_MD_measure_8 : decode b_MD_measure 8 = .ok (.goto 7, 3) := by decide +kernel
theorem d_MD_measure_11 : decode b_MD_measure 11 = .ok (.aload_n 0, 1) := by decide +kernel
theorem d_MD_measure_12 : decode b_MD_measure 12 = .ok (.getfield 53, 3) := by decide +kernel
theorem d_MD_measure_15 : decode b_MD_measure 15 = .ok (.istore_n 2, 1) := by decide +kernel
theorem d_MD_measure_16 : decode b_MD_measure 16 = .ok (.iload_n 2, 1) := by decide +kernel
theorem d_MD_measure_17 : decode b_MD_measure 17 = .ok (.iconst 1, 1) := by decide +kernel
theorem d_MD_measure_18 : decode b_MD_measure 18 = .ok (.isub, 1) := by decide +kernel
theorem d_MD_measure_19 : decode b_MD_measure 19 = .ok (.istore_n 3, 1) := by decide +kernel
theorem d_MD_measure_20 : decode b_MD_measure 20 = .ok (.iload_n 3, 1) := by decide +kernel
theorem d_MD_measure_21 : decode b_MD_measure 21 = .ok (.ifCond .lt 83, 3) := by decide +kernel
theorem d_MD_measure_24 : decode b_MD_measure 24 = .ok (.aload_n 0, 1) := by decide +kernel
theorem d_MD_measure_25 : decode b_MD_measure 25 = .ok (.getfield 44, 3) := by decide +kernel
theorem d_MD_measure_28 : decode b_MD_measure 28 = .ok (.iload_n 3, 1) := by decide +kernel
theorem d_MD_measure_29 : decode b_MD_measure 29 = .ok (.iconst 1, 1) := by decide +kernel
theorem d_MD_measure_30 : decode b_MD_measure 30 = .ok (.iastore, 1) := by decide +kernel
theorem d_MD_measure_31 : decode b_MD_measure 31 = .ok (.aload_n 0, 1) := by decide +kernel
theorem d_MD_measure_32 : decode b_MD_measure 32 = .ok (.iload_n 1, 1) := by decide +kernel
theorem d_MD_measure_33 : decode b_MD_measure 33 = .ok (.iload_n 3, 1) := by decide +kernel
theorem d_MD_measure_34 : decode b_MD_measure 34 = .ok (.invokevirtual 90, 3) := by decide +kernel
theorem d_MD_measure_37 : decode b_MD_measure 37 = .ok (.invokestatic 86, 3) := by decide +kernel
theorem d_MD_measure_40 : decode b_MD_measure 40 = .ok (.ifCond .eq 58, 3) := by decide +kernel
theorem d_MD_measure_43 : decode b_MD_measure 43 = .ok (.iload_n 3, 1) := by decide +kernel
theorem d_MD_measure_44 : decode b_MD_measure 44 = .ok (.iconst 1, 1) := by decide +kernel
theorem d_MD_measure_45 : decode b_MD_measure 45 = .ok (.iadd, 1) := by decide +kernel
theorem d_MD_measure_46 : decode b_MD_measure 46 = .ok (.aload_n 0, 1) := by decide +kernel
theorem d_MD_measure_47 : decode b_MD_measure 47 = .ok (.getfield 44, 3) := by decide +kernel
theorem d_MD_measure_50 : decode b_MD_measure 50 = .ok (.iload_n 3, 1) := by decide +kernel
theorem d_MD_measure_51 : decode b_MD_measure 51 = .ok (.iconst 1, 1) := by decide +kernel
theorem d_MD_measure_52 : decode b_MD_measure 52 = .ok (.iadd, 1) := by decide +kernel
theorem d_MD_measure_53 : decode b_MD_measure 53 = .ok (.iaload, 1) := by decide +kernel
theorem d_MD_measure_54 : decode b_MD_measure 54 = .ok (.iadd, 1) := by decide +kernel
theorem d_MD_measure_55 : decode b_MD_measure 55 = .ok (.istore 4, 2) := by decide +kernel
theorem d_MD_measure_57 : decode b_MD_measure 57 = .ok (.aload_n 0, 1) := by decide +kernel
theorem d_MD_measure_58 : decode b_MD_measure 58 = .ok (.getfield 44, 3) := by decide +kernel
theorem d_MD_measure_61 : decode b_MD_measure 61 = .ok (.iload_n 3, 1) := by decide +kernel
theorem d_MD_measure_62 : decode b_MD_measure 62 = .ok (.iconst 1, 1) := by decide +kernel
theorem d_MD_measure_63 : decode b_MD_measure 63 = .ok (.aload_n 0, 1) := by decide +kernel
theorem d_MD_measure_64 : decode b_MD_measure 64 = .ok (.getfield 44, 3) := by decide +kernel
theorem d_MD_measure_67 : decode b_MD_measure 67 = .ok (.iload_n 3, 1) := by decide +kernel
theorem d_MD_measure_68 : decode b_MD_measure 68 = .ok (.iconst 1, 1) := by decide +kernel
theorem d_MD_measure_69 : decode b_MD_measure 69 = .ok (.iadd, 1) := by decide +kernel
theorem d_MD_measure_70 : decode b_MD_measure 70 = .ok (.iaload, 1) := by decide +kernel
theorem d_MD_measure_71 : decode b_MD_measure 71 = .ok (.iadd, 1) := by decide +kernel
theorem d_MD_measure_72 : decode b_MD_measure 72 = .ok (.aload_n 0, 1) := by decide +kernel
theorem d_MD_measure_73 : decode b_MD_measure 73 = .ok (.getfield 44, 3) := by decide +kernel
theorem d_MD_measure_76 : decode b_MD_measure 76 = .ok (.iload 4, 2) := by decide +kernel
theorem d_MD_measure_78 : decode b_MD_measure 78 = .ok (.iaload, 1) := by decide +kernel
theorem d_MD_measure_79 : decode b_MD_measure 79 = .ok (.iadd, 1) := by decide +kernel
theorem d_MD_measure_80 : decode b_MD_measure 80 = .ok (.iastore, 1) := by decide +kernel
theorem d_MD_measure_81 : decode b_MD_measure 81 = .ok (.aload_n 0, 1) := by decide +kernel
theorem d_MD_measure_82 : decode b_MD_measure 82 = .ok (.getfield 47, 3) := by decide +kernel
theorem d_MD_measure_85 : decode b_MD_measure 85 = .ok (.iload_n 3, 1) := by decide +kernel
theorem d_MD_measure_86 : decode b_MD_measure 86 = .ok (.iconst 1, 1) := by decide +kernel
theorem d_MD_measure_87 : decode b_MD_measure 87 = .ok (.iadd, 1) := by decide +kernel
theorem d_MD_measure_88 : decode b_MD_measure 88 = .ok (.iload_n 3, 1) := by decide +kernel
theorem d_MD_measure_89 : decode b_MD_measure 89 = .ok (.iastore, 1) := by decide +kernel
theorem d_MD_measure_90 : decode b_MD_measure 90 = .ok (.aload_n 0, 1) := by decide +kernel
theorem d_MD_measure_91 : decode b_MD_measure 91 = .ok (.getfield 47, 3) := by decide +kernel
theorem d_MD_measure_94 : decode b_MD_measure 94 = .ok (.iload 4, 2) := by decide +kernel
theorem d_MD_measure_96 : decode b_MD_measure 96 = .ok (.iload_n 3, 1) := by decide +kernel
theorem d_MD_measure_97 : decode b_MD_measure 97 = .ok (.iastore, 1) := by decide +kernel
theorem d_MD_measure_98 : decode b_MD_measure 98 = .ok (.iinc 3 (-1), 3) := by decide +kernel
theorem d_MD_measure_101 : decode b_MD_measure 101 = .ok (.goto (-81), 3) := by decide +kernel
theorem d_MD_measure_104 : decode b_MD_measure 104 = .ok (.iload_n 2, 1) := by decide +kernel
theorem d_MD_measure_105 : decode b_MD_measure 105 = .ok (.ifCond .le 10, 3) := by decide +kernel
theorem d_MD_measure_108 : decode b_MD_measure 108 = .ok (.aload_n 0, 1) := by decide +kernel
theorem d_MD_measure_109 : decode b_MD_measure 109 = .ok (.getfield 47, 3) := by decide +kernel
theorem d_MD_measure_112 : decode b_MD_measure 112 = .ok (.iconst 0, 1) := by decide +kernel
theorem d_MD_measure_113 : decode b_MD_measure 113 = .ok (.iconst (-1), 1) := by decide +kernel
theorem d_MD_measure_114 : decode b_MD_measure 114 = .ok (.iastore, 1) := by decide +kernel
theorem d_MD_measure_115 : decode b_MD_measure 115 = .ok (.return_, 1) := by decide +kernel
theorem d_MD_lastOf_0 : decode b_MD_lastOf 0 = .ok (.iload_n 1, 1) := by decide +kernel
theorem d_MD_lastOf_1 : decode b_MD_lastOf 1 = .ok (.iconst 1, 1) := by decide +kernel
theorem d_MD_lastOf_2 : decode b_MD_lastOf 2 = .ok (.iadd, 1) := by decide +kernel
theorem d_MD_lastOf_3 : decode b_MD_lastOf 3 = .ok (.aload_n 0, 1) := by decide +kernel
theorem d_MD_lastOf_4 : decode b_MD_lastOf 4 = .ok (.getfield 44, 3) := by decide +kernel
theorem d_MD_lastOf_7 : decode b_MD_lastOf 7 = .ok (.iload_n 1, 1) := by decide +kernel
theorem d_MD_lastOf_8 : decode b_MD_lastOf 8 = .ok (.iconst 1, 1) := by decide +kernel
theorem d_MD_lastOf_9 : decode b_MD_lastOf 9 = .ok (.iadd, 1) := by decide +kernel
theorem d_MD_lastOf_10 : decode b_MD_lastOf 10 = .ok (.iaload, 1) := by decide +kernel
theorem d_MD_lastOf_11 : decode b_MD_lastOf 11 = .ok (.iadd, 1) := by decide +kernel
theorem d_MD_lastOf_12 : decode b_MD_lastOf 12 = .ok (.ireturn, 1) := by decide +kernel
theorem d_MD_meaningOf_0 : decode b_MD_meaningOf 0 = .ok (.iconst 0, 1) := by decide +kernel
theorem d_MD_meaningOf_1 : decode b_MD_meaningOf 1 = .ok (.istore_n 2, 1) := by decide +kernel
theorem d_MD_meaningOf_2 : decode b_MD_meaningOf 2 = .ok (.iload_n 1, 1) := by decide +kernel
theorem d_MD_meaningOf_3 : decode b_MD_meaningOf 3 = .ok (.istore_n 3, 1) := by decide +kernel
theorem d_MD_meaningOf_4 : decode b_MD_meaningOf 4 = .ok (.aload_n 0, 1) := by decide +kernel
theorem d_MD_meaningOf_5 : decode b_MD_meaningOf 5 = .ok (.iconst 1, 1) := by decide +kernel
theorem d_MD_meaningOf_6 : decode b_MD_meaningOf 6 = .ok (.putfield 94, 3) := by decide +kernel
theorem d_MD_meaningOf_9 : decode b_MD_meaningOf 9 = .ok (.aload_n 0, 1) := by decide +kernel
theorem d_MD_meaningOf_10 : decode b_MD_meaningOf 10 = .ok (.getfield 47, 3) := by decide +kernel
theorem d_MD_meaningOf_13 : decode b_MD_meaningOf 13 = .ok (.iload_n 1, 1) := by decide +kernel
theorem d_MD_meaningOf_14 : decode b_MD_meaningOf 14 = .ok (.iaload, 1) := by decide +kernel
theorem d_MD_meaningOf_15 : decode b_MD_meaningOf 15 = .ok (.istore 4, 2) := by decide +kernel
theorem d_MD_meaningOf_17 : decode b_MD_meaningOf 17 = .ok (.iload 4, 2) := by decide +kernel
theorem d_MD_meaningOf_19 : decode b_MD_meaningOf 19 = .ok (.iconst (-1), 1) := by decide +kernel
theorem d_MD_meaningOf_20 : decode b_MD_meaningOf 20 = .ok (.if_icmp .eq 81, 3) := by decide +kernel
theorem d_MD_meaningOf_23 : decode b_MD_meaningOf 23 = .ok (.aload_n 0, 1) := by decide +kernel
theorem d_MD_meaningOf_24 : decode b_MD_meaningOf 24 = .ok (.getfield 13, 3) := by decide +kernel
theorem d_MD_meaningOf_27 : decode b_MD_meaningOf 27 = .ok (.iload 4, 2) := by decide +kernel
theorem d_MD_meaningOf_29 : decode b_MD_meaningOf 29 = .ok (.iaload, 1) := by decide +kernel
theorem d_MD_meaningOf_30 : decode b_MD_meaningOf 30 = .ok (.invokestatic 98, 3) := by decide +kernel
theorem d_MD_meaningOf_33 : decode b_MD_meaningOf 33 = .ok (.ifCond .eq 53, 3) := by decide +kernel
theorem d_MD_meaningOf_36 : decode b_MD_meaningOf 36 = .ok (.iload_n 3, 1) := by decide +kernel
theorem d_MD_meaningOf_37 : decode b_MD_meaningOf 37 = .ok (.aload_n 0, 1) := by decide +kernel
theorem d_MD_meaningOf_38 : decode b_MD_meaningOf 38 = .ok (.iload 4, 2) := by decide +kernel
theorem d_MD_meaningOf_40 : decode b_MD_meaningOf 40 = .ok (.invokevirtual 101, 3) := by decide +kernel
theorem d_MD_meaningOf_43 : decode b_MD_meaningOf 43 = .ok (.if_icmp .ne 43, 3) := by decide +kernel
theorem d_MD_meaningOf_46 : decode b_MD_meaningOf 46 = .ok (.aload_n 0, 1) := by decide +kernel
theorem d_MD_meaningOf_47 : decode b_MD_meaningOf 47 = .ok (.getfield 13, 3) := by decide +kernel
theorem d_MD_meaningOf_50 : decode b_MD_meaningOf 50 = .ok (.iload 4, 2) := by decide +kernel
theorem d_MD_meaningOf_52 : decode b_MD_meaningOf 52 = .ok (.iaload, 1) := by decide +kernel
theorem d_MD_meaningOf_53 : decode b_MD_meaningOf 53 = .ok (.bipush 6, 2) := by decide +kernel
theorem d_MD_meaningOf_55 : decode b_MD_meaningOf 55 = .ok (.if_icmp .eq 28, 3) := by decide +kernel
theorem d_MD_meaningOf_58 : decode b_MD_meaningOf 58 = .ok (.aload_n 0, 1) := by decide +kernel
theorem d_MD_meaningOf_59 : decode b_MD_meaningOf 59 = .ok (.getfield 17, 3) := by decide +kernel
theorem d_MD_meaningOf_62 : decode b_MD_meaningOf 62 = .ok (.iload 4, 2) := by decide +kernel
theorem d_MD_meaningOf_64 : decode b_MD_meaningOf 64 = .ok (.laload, 1) := by decide +kernel
theorem d_MD_meaningOf_65 : decode b_MD_meaningOf 65 = .ok (.aload_n 0, 1) := by decide +kernel
theorem d_MD_meaningOf_66 : decode b_MD_meaningOf 66 = .ok (.getfield 17, 3) := by decide +kernel
theorem d_MD_meaningOf_69 : decode b_MD_meaningOf 69 = .ok (.iload_n 1, 1) := by decide +kernel
theorem d_MD_meaningOf_70 : decode b_MD_meaningOf 70 = .ok (.laload, 1) := by decide +kernel
theorem d_MD_meaningOf_71 : decode b_MD_meaningOf 71 = .ok (.lcmp, 1) := by decide +kernel
theorem d_MD_meaningOf_72 : decode b_MD_meaningOf 72 = .ok (.ifCond .ne 11, 3) := by decide +kernel
theorem d_MD_meaningOf_75 : decode b_MD_meaningOf 75 = .ok (.aload_n 0, 1) := by decide +kernel
theorem d_MD_meaningOf_76 : decode b_MD_meaningOf 76 = .ok (.iload_n 2, 1) := by decide +kernel
theorem d_MD_meaningOf_77 : decode b_MD_meaningOf 77 = .ok (.i2l, 1) := by decide +kernel
theorem d_MD_meaningOf_78 : decode b_MD_meaningOf 78 = .ok (.putfield 105, 3) := by decide +kernel
theorem d_MD_meaningOf_81 : decode b_MD_meaningOf 81 = .ok (.iconst 0, 1) := by decide +kernel
theorem d_MD_meaningOf_82 : decode b_MD_meaningOf 82 = .ok (.ireturn, 1) := by decide +kernel
theorem d_MD_meaningOf_83 : decode b_MD_meaningOf 83 = .ok (.iinc 2 1, 3) := by decide +kernel
theorem d_MD_meaningOf_86 : decode b_MD_meaningOf 86 = .ok (.iload 4, 2) := by decide +kernel
theorem d_MD_meaningOf_88 : decode b_MD_meaningOf 88 = .ok (.istore_n 3, 1) := by decide +kernel
theorem d_MD_meaningOf_89 : decode b_MD_meaningOf 89 = .ok (.aload_n 0, 1) := by decide +kernel
theorem d_MD_meaningOf_90 : decode b_MD_meaningOf 90 = .ok (.getfield 47, 3) := by decide +kernel
theorem d_MD_meaningOf_93 : decode b_MD_meaningOf 93 = .ok (.iload 4, 2) := by decide +kernel
theorem d_MD_meaningOf_95 : decode b_MD_meaningOf 95 = .ok (.iaload, 1) := by decide +kernel
theorem d_MD_meaningOf_96 : decode b_MD_meaningOf 96 = .ok (.istore 4, 2) := by decide +kernel
theorem d_MD_meaningOf_98 : decode b_MD_meaningOf 98 = .ok (.goto (-81), 3) := by decide +kernel
theorem d_MD_meaningOf_101 : decode b_MD_meaningOf 101 = .ok (.aload_n 0, 1) := by decide +kernel
theorem d_MD_meaningOf_102 : decode b_MD_meaningOf 102 = .ok (.aload_n 0, 1) := by decide +kernel
theorem d_MD_meaningOf_103 : decode b_MD_meaningOf 103 = .ok (.getfield 17, 3) := by decide +kernel
theorem d_MD_meaningOf_106 : decode b_MD_meaningOf 106 = .ok (.iload_n 1, 1) := by decide +kernel
theorem d_MD_meaningOf_107 : decode b_MD_meaningOf 107 = .ok (.laload, 1) := by decide +kernel
theorem d_MD_meaningOf_108 : decode b_MD_meaningOf 108 = .ok (.invokevirtual 78, 3) := by decide +kernel
theorem d_MD_meaningOf_111 : decode b_MD_meaningOf 111 = .ok (.istore 4, 2) := by decide +kernel
theorem d_MD_meaningOf_113 : decode b_MD_meaningOf 113 = .ok (.aload_n 0, 1) := by decide +kernel
theorem d_MD_meaningOf_114 : decode b_MD_meaningOf 114 = .ok (.iload 4, 2) := by decide +kernel
theorem d_MD_meaningOf_116 : decode b_MD_meaningOf 116 = .ok (.iconst (-1), 1) := by decide +kernel
theorem d_MD_meaningOf_117 : decode b_MD_meaningOf 117 = .ok (.if_icmp .eq 7, 3) := by decide +kernel
theorem d_MD_meaningOf_120 : decode b_MD_meaningOf 120 = .ok (.iconst 1, 1) := by decide +kernel
theorem d_MD_meaningOf_121 : decode b_MD_meaningOf 121 = .ok (.goto 4, 3) := by decide +kernel
theorem d_MD_meaningOf_124 : decode b_MD_meaningOf 124 = .ok (.iconst 0, 1) := by decide +kernel
theorem d_MD_meaningOf_125 : decode b_MD_meaningOf 125 = .ok (.putfield 94, 3) := by decide +kernel
theorem d_MD_meaningOf_128 : decode b_MD_meaningOf 128 = .ok (.aload_n 0, 1) := by decide +kernel
theorem d_MD_meaningOf_129 : decode b_MD_meaningOf 129 = .ok (.iload 4, 2) := by decide +kernel
theorem d_MD_meaningOf_131 : decode b_MD_meaningOf 131 = .ok (.i2l, 1) := by decide +kernel
theorem d_MD_meaningOf_132 : decode b_MD_meaningOf 132 = .ok (.putfield 105, 3) := by decide +kernel
theorem d_MD_meaningOf_135 : decode b_MD_meaningOf 135 = .ok (.bipush 7, 2) := by decide +kernel
theorem d_MD_meaningOf_137 : decode b_MD_meaningOf 137 = .ok (.ireturn, 1) := by decide +kernel
theorem d_MD_cut_0 : decode b_MD_cut 0 = .ok (.lload_n 0, 1) := by decide +kernel
theorem d_MD_cut_1 : decode b_MD_cut 1 = .ok (.invokestatic 57, 3) := by decide +kernel
theorem d_MD_cut_4 : decode b_MD_cut 4 = .ok (.iconst 4, 1) := by decide +kernel
theorem d_MD_cut_5 : decode b_MD_cut 5 = .ok (.if_icmp .le 17, 3) := by decide +kernel
theorem d_MD_cut_8 : decode b_MD_cut 8 = .ok (.lload_n 0, 1) := by decide +kernel
theorem d_MD_cut_9 : decode b_MD_cut 9 = .ok (.bipush 8, 2) := by decide +kernel
theorem d_MD_cut_11 : decode b_MD_cut 11 = .ok (.lload_n 0, 1) := by decide +kernel
theorem d_MD_cut_12 : decode b_MD_cut 12 = .ok (.invokestatic 57, 3) := by decide +kernel
theorem d_MD_cut_15 : decode b_MD_cut 15 = .ok (.iconst 4, 1) := by decide +kernel
theorem d_MD_cut_16 : decode b_MD_cut 16 = .ok (.isub, 1) := by decide +kernel
theorem d_MD_cut_17 : decode b_MD_cut 17 = .ok (.imul, 1) := by decide +kernel
theorem d_MD_cut_18 : decode b_MD_cut 18 = .ok (.lushr, 1) := by decide +kernel
theorem d_MD_cut_19 : decode b_MD_cut 19 = .ok (.goto 4, 3) := by decide +kernel
theorem d_MD_cut_22 : decode b_MD_cut 22 = .ok (.lload_n 0, 1) := by decide +kernel
theorem d_MD_cut_23 : decode b_MD_cut 23 = .ok (.lreturn, 1) := by decide +kernel
theorem d_MD_bind_0 : decode b_MD_bind 0 = .ok (.aload_n 0, 1) := by decide +kernel
theorem d_MD_bind_1 : decode b_MD_bind 1 = .ok (.invokevirtual 109, 3) := by decide +kernel
theorem d_MD_bind_4 : decode b_MD_bind 4 = .ok (.ifCond .ne 5, 3) := by decide +kernel
theorem d_MD_bind_7 : decode b_MD_bind 7 = .ok (.iconst (-1), 1) := by decide +kernel
theorem d_MD_bind_8 : decode b_MD_bind 8 = .ok (.ireturn, 1) := by decide +kernel
theorem d_MD_bind_9 : decode b_MD_bind 9 = .ok (.aload_n 0, 1) := by decide +kernel
theorem d_MD_bind_10 : decode b_MD_bind 10 = .ok (.iconst 1, 1) := by decide +kernel
theorem d_MD_bind_11 : decode b_MD_bind 11 = .ok (.invokevirtual 113, 3) := by decide +kernel
theorem d_MD_bind_14 : decode b_MD_bind 14 = .ok (.iconst 0, 1) := by decide +kernel
theorem d_MD_bind_15 : decode b_MD_bind 15 = .ok (.istore_n 1, 1) := by decide +kernel
theorem d_MD_bind_16 : decode b_MD_bind 16 = .ok (.iload_n 1, 1) := by decide +kernel
theorem d_MD_bind_17 : decode b_MD_bind 17 = .ok (.aload_n 0, 1) := by decide +kernel
theorem d_MD_bind_18 : decode b_MD_bind 18 = .ok (.getfield 83, 3) := by decide +kernel
theorem d_MD_bind_21 : decode b_MD_bind 21 = .ok (.if_icmp .ge 113, 3) := by decide +kernel
theorem d_MD_bind_24 : decode b_MD_bind 24 = .ok (.aload_n 0, 1) := by decide +kernel
theorem d_MD_bind_25 : decode b_MD_bind 25 = .ok (.getfield 13, 3) := by decide +kernel
theorem d_MD_bind_28 : decode b_MD_bind 28 = .ok (.iload_n 1, 1) := by decide +kernel
theorem d_MD_bind_29 : decode b_MD_bind 29 = .ok (.iaload, 1) := by decide +kernel
theorem d_MD_bind_30 : decode b_MD_bind 30 = .ok (.istore_n 2, 1) := by decide +kernel
theorem d_MD_bind_31 : decode b_MD_bind 31 = .ok (.aload_n 0, 1) := by decide +kernel
theorem d_MD_bind_32 : decode b_MD_bind 32 = .ok (.getfield 38, 3) := by decide +kernel
theorem d_MD_bind_35 : decode b_MD_bind 35 = .ok (.iload_n 1, 1) := by decide +kernel
theorem d_MD_bind_36 : decode b_MD_bind 36 = .ok (.iload_n 2, 1) := by decide +kernel
theorem d_MD_bind_37 : decode b_MD_bind 37 = .ok (.bipush 6, 2) := by decide +kernel
theorem d_MD_bind_39 : decode b_MD_bind 39 = .ok (.if_icmp .ne 7, 3) := by decide +kernel
theorem d_MD_bind_42 : decode b_MD_bind 42 = .ok (.iconst 2, 1) := by decide +kernel
theorem d_MD_bind_43 : decode b_MD_bind 43 = .ok (.goto 4, 3) := by decide +kernel
theorem d_MD_bind_46 : decode b_MD_bind 46 = .ok (.iload_n 2, 1) := by decide +kernel
theorem d_MD_bind_47 : decode b_MD_bind 47 = .ok (.iastore, 1) := by decide +kernel
theorem d_MD_bind_48 : decode b_MD_bind 48 = .ok (.aload_n 0, 1) := by decide +kernel
theorem d_MD_bind_49 : decode b_MD_bind 49 = .ok (.getfield 41, 3) := by decide +kernel
theorem d_MD_bind_52 : decode b_MD_bind 52 = .ok (.iload_n 1, 1) := by decide +kernel
theorem d_MD_bind_53 : decode b_MD_bind 53 = .ok (.iload_n 2, 1) := by decide +kernel
theorem d_MD_bind_54 : decode b_MD_bind 54 = .ok (.ifCond .le 20, 3) := by decide +kernel
theorem d_MD_bind_57 : decode b_MD_bind 57 = .ok (.iload_n 2, 1) := by decide +kernel
theorem d_MD_bind_58 : decode b_MD_bind 58 = .ok (.iconst 4, 1) := by decide +kernel
theorem d_MD_bind_59 : decode b_MD_bind 59 = .ok (.if_icmp .ge 15, 3) := by decide +kernel
theorem d_MD_bind_62 : decode b_MD_bind 62 = .ok (.aload_n 0, 1) := by decide +kernel
theorem d_MD_bind_63 : decode b_MD_bind 63 = .ok (.getfield 17, 3) := by decide +kernel
theorem d_MD_bind_66 : decode b_MD_bind 66 = .ok (.iload_n 1, 1) := by decide +kernel
theorem d_MD_bind_67 : decode b_MD_bind 67 = .ok (.laload, 1) := by decide +kernel
theorem d_MD_bind_68 : decode b_MD_bind 68 = .ok (.invokestatic 117, 3) := by decide +kernel
theorem d_MD_bind_71 : decode b_MD_bind 71 = .ok (.goto 19, 3) := by decide +kernel
theorem d_MD_bind_74 : decode b_MD_bind 74 = .ok (.iload_n 2, 1) := by decide +kernel
theorem d_MD_bind_75 : decode b_MD_bind 75 = .ok (.bipush 6, 2) := by decide +kernel
theorem d_MD_bind_77 : decode b_MD_bind 77 = .ok (.if_icmp .ne 7, 3) := by decide +kernel
theorem d_MD_bind_80 : decode b_MD_bind 80 = .ok (.lconst 0, 1) := by decide +kernel
theorem d_MD_bind_81 : decode b_MD_bind 81 = .ok (.goto 9, 3) := by decide +kernel
theorem d_MD_bind_84 : decode b_MD_bind 84 = .ok (.aload_n 0, 1) := by decide +kernel
theorem d_MD_bind_85 : decode b_MD_bind 85 = .ok (.getfield 17, 3) := by decide +kernel
theorem d_MD_bind_88 : decode b_MD_bind 88 = .ok (.iload_n 1, 1) := by decide +kernel
theorem d_MD_bind_89 : decode b_MD_bind 89 = .ok (.laload, 1) := by decide +kernel
theorem d_MD_bind_90 : decode b_MD_bind 90 = .ok (.lastore, 1) := by decide +kernel
theorem d_MD_bind_91 : decode b_MD_bind 91 = .ok (.iload_n 2, 1) := by decide +kernel
theorem d_MD_bind_92 : decode b_MD_bind 92 = .ok (.ifCond .ne 36, 3) := by decide +kernel
theorem d_MD_bind_95 : decode b_MD_bind 95 = .ok (.aload_n 0, 1) := by decide +kernel
theorem d_MD_bind_96 : decode b_MD_bind 96 = .ok (.getfield 38, 3) := by decide +kernel
theorem d_MD_bind_99 : decode b_MD_bind 99 = .ok (.iload_n 1, 1) := by decide +kernel
theorem d_MD_bind_100 : decode b_MD_bind 100 = .ok (.aload_n 0, 1) := by decide +kernel
theorem d_MD_bind_101 : decode b_MD_bind 101 = .ok (.iload_n 1, 1) := by decide +kernel
theorem d_MD_bind_102 : decode b_MD_bind 102 = .ok (.invokevirtual 121, 3) := by decide +kernel
theorem d_MD_bind_105 : decode b_MD_bind 105 = .ok (.iastore, 1) := by decide +kernel
theorem d_MD_bind_106 : decode b_MD_bind 106 = .ok (.aload_n 0, 1) := by decide +kernel
theorem d_MD_bind_107 : decode b_MD_bind 107 = .ok (.getfield 41, 3) := by decide +kernel
theorem d_MD_bind_110 : decode b_MD_bind 110 = .ok (.iload_n 1, 1) := by decide +kernel
theorem d_MD_bind_111 : decode b_MD_bind 111 = .ok (.aload_n 0, 1) := by decide +kernel
theorem d_MD_bind_112 : decode b_MD_bind 112 = .ok (.getfield 105, 3) := by decide +kernel
theorem d_MD_bind_115 : decode b_MD_bind 115 = .ok (.lastore, 1) := by decide +kernel
theorem d_MD_bind_116 : decode b_MD_bind 116 = .ok (.aload_n 0, 1) := by decide +kernel
theorem d_MD_bind_117 : decode b_MD_bind 117 = .ok (.getfield 94, 3) := by decide +kernel
theorem d_MD_bind_120 : decode b_MD_bind 120 = .ok (.ifCond .ne 8, 3) := by decide +kernel
theorem d_MD_bind_123 : decode b_MD_bind 123 = .ok (.bipush (-2), 2) := by decide +kernel
theorem d_MD_bind_125 : decode b_MD_bind 125 = .ok (.iload_n 1, 1) := by decide +kernel
theorem d_MD_bind_126 : decode b_MD_bind 126 = .ok (.isub, 1) := by decide +kernel
theorem d_MD_bind_127 : decode b_MD_bind 127 = .ok (.ireturn, 1) := by decide +kernel
theorem d_MD_bind_128 : decode b_MD_bind 128 = .ok (.iinc 1 1, 3) := by decide +kernel
theorem d_MD_bind_131 : decode b_MD_bind 131 = .ok (.goto (-115), 3) := by decide +kernel
theorem d_MD_bind_134 : decode b_MD_bind 134 = .ok (.aload_n 0, 1) := by decide +kernel
theorem d_MD_bind_135 : decode b_MD_bind 135 = .ok (.aload_n 0, 1) := by decide +kernel
theorem d_MD_bind_136 : decode b_MD_bind 136 = .ok (.getfield 83, 3) := by decide +kernel
theorem d_MD_bind_139 : decode b_MD_bind 139 = .ok (.putfield 124, 3) := by decide +kernel
theorem d_MD_bind_142 : decode b_MD_bind 142 = .ok (.aload_n 0, 1) := by decide +kernel
theorem d_MD_bind_143 : decode b_MD_bind 143 = .ok (.iconst 0, 1) := by decide +kernel
theorem d_MD_bind_144 : decode b_MD_bind 144 = .ok (.putfield 83, 3) := by decide +kernel
theorem d_MD_bind_147 : decode b_MD_bind 147 = .ok (.aload_n 0, 1) := by decide +kernel
theorem d_MD_bind_148 : decode b_MD_bind 148 = .ok (.invokevirtual 127, 3) := by decide +kernel
theorem d_MD_bind_151 : decode b_MD_bind 151 = .ok (.aload_n 0, 1) := by decide +kernel
theorem d_MD_bind_152 : decode b_MD_bind 152 = .ok (.getfield 53, 3) := by decide +kernel
end
section
theorem d_MD_bind_155 : decode b_MD_bind 155 = .ok (.ireturn, 1) := by decide +kernel
theorem d_MD_become_0 : decode b_MD_become 0 = .ok (.aload_n 0, 1) := by decide +kernel
theorem d_MD_become_1 : decode b_MD_become 1 = .ok (.aload_n 0, 1) := by decide +kernel
theorem d_MD_become_2 : decode b_MD_become 2 = .ok (.getfield 124, 3) := by decide +kernel
theorem d_MD_become_5 : decode b_MD_become 5 = .ok (.putfield 53, 3) := by decide +kernel
theorem d_MD_become_8 : decode b_MD_become 8 = .ok (.iconst 0, 1) := by decide +kernel
theorem d_MD_become_9 : decode b_MD_become 9 = .ok (.istore_n 1, 1) := by decide +kernel
theorem d_MD_become_10 : decode b_MD_become 10 = .ok (.iload_n 1, 1) := by decide +kernel
theorem d_MD_become_11 : decode b_MD_become 11 = .ok (.aload_n 0, 1) := by decide +kernel
theorem d_MD_become_12 : decode b_MD_become 12 = .ok (.getfield 53, 3) := by decide +kernel
theorem d_MD_become_15 : decode b_MD_become 15 = .ok (.if_icmp .ge 33, 3) := by decide +kernel
theorem d_MD_become_18 : decode b_MD_become 18 = .ok (.aload_n 0, 1) := by decide +kernel
theorem d_MD_become_19 : decode b_MD_become 19 = .ok (.getfield 20, 3) := by decide +kernel
theorem d_MD_become_22 : decode b_MD_become 22 = .ok (.iload_n 1, 1) := by decide +kernel
theorem d_MD_become_23 : decode b_MD_become 23 = .ok (.aload_n 0, 1) := by decide +kernel
theorem d_MD_become_24 : decode b_MD_become 24 = .ok (.getfield 38, 3) := by decide +kernel
theorem d_MD_become_27 : decode b_MD_become 27 = .ok (.iload_n 1, 1) := by decide +kernel
theorem d_MD_become_28 : decode b_MD_become 28 = .ok (.iaload, 1) := by decide +kernel
theorem d_MD_become_29 : decode b_MD_become 29 = .ok (.iastore, 1) := by decide +kernel
theorem d_MD_become_30 : decode b_MD_become 30 = .ok (.aload_n 0, 1) := by decide +kernel
theorem d_MD_become_31 : decode b_MD_become 31 = .ok (.getfield 23, 3) := by decide +kernel
theorem d_MD_become_34 : decode b_MD_become 34 = .ok (.iload_n 1, 1) := by decide +kernel
theorem d_MD_become_35 : decode b_MD_become 35 = .ok (.aload_n 0, 1) := by decide +kernel
theorem d_MD_become_36 : decode b_MD_become 36 = .ok (.getfield 41, 3) := by decide +kernel
theorem d_MD_become_39 : decode b_MD_become 39 = .ok (.iload_n 1, 1) := by decide +kernel
theorem d_MD_become_40 : decode b_MD_become 40 = .ok (.laload, 1) := by decide +kernel
theorem d_MD_become_41 : decode b_MD_become 41 = .ok (.lastore, 1) := by decide +kernel
theorem d_MD_become_42 : decode b_MD_become 42 = .ok (.iinc 1 1, 3) := by decide +kernel
theorem d_MD_become_45 : decode b_MD_become 45 = .ok (.goto (-35), 3) := by decide +kernel
theorem d_MD_become_48 : decode b_MD_become 48 = .ok (.aload_n 0, 1) := by decide +kernel
theorem d_MD_become_49 : decode b_MD_become 49 = .ok (.iconst 0, 1) := by decide +kernel
theorem d_MD_become_50 : decode b_MD_become 50 = .ok (.invokevirtual 113, 3) := by decide +kernel
theorem d_MD_become_53 : decode b_MD_become 53 = .ok (.return_, 1) := by decide +kernel
theorem d_MD_nodes_0 : decode b_MD_nodes 0 = .ok (.aload_n 0, 1) := by decide +kernel
theorem d_MD_nodes_1 : decode b_MD_nodes 1 = .ok (.getfield 53, 3) := by decide +kernel
theorem d_MD_nodes_4 : decode b_MD_nodes 4 = .ok (.ireturn, 1) := by decide +kernel
theorem d_MD_node_0 : decode b_MD_node 0 = .ok (.iload_n 1, 1) := by decide +kernel
theorem d_MD_node_1 : decode b_MD_node 1 = .ok (.ifCond .lt 20, 3) := by decide +kernel
theorem d_MD_node_4 : decode b_MD_node 4 = .ok (.iload_n 1, 1) := by decide +kernel
theorem d_MD_node_5 : decode b_MD_node 5 = .ok (.aload_n 0, 1) := by decide +kernel
theorem d_MD_node_6 : decode b_MD_node 6 = .ok (.getfield 53, 3) := by decide +kernel
theorem d_MD_node_9 : decode b_MD_node 9 = .ok (.if_icmp .ge 12, 3) := by decide +kernel
theorem d_MD_node_12 : decode b_MD_node 12 = .ok (.iload_n 2, 1) := by decide +kernel
theorem d_MD_node_13 : decode b_MD_node 13 = .ok (.ifCond .lt 8, 3) := by decide +kernel
theorem d_MD_node_16 : decode b_MD_node 16 = .ok (.iload_n 2, 1) := by decide +kernel
theorem d_MD_node_17 : decode b_MD_node 17 = .ok (.iconst 2, 1) := by decide +kernel
theorem d_MD_node_18 : decode b_MD_node 18 = .ok (.if_icmp .le 7, 3) := by decide +kernel
theorem d_MD_node_21 : decode b_MD_node 21 = .ok (.ldc2_w 130, 3) := by decide +kernel
theorem d_MD_node_24 : decode b_MD_node 24 = .ok (.lreturn, 1) := by decide +kernel
theorem d_MD_node_25 : decode b_MD_node 25 = .ok (.aload_n 0, 1) := by decide +kernel
theorem d_MD_node_26 : decode b_MD_node 26 = .ok (.iconst 0, 1) := by decide +kernel
theorem d_MD_node_27 : decode b_MD_node 27 = .ok (.invokevirtual 113, 3) := by decide +kernel
theorem d_MD_node_30 : decode b_MD_node 30 = .ok (.iload_n 2, 1) := by decide +kernel
theorem d_MD_node_31 : decode b_MD_node 31 = .ok (.ifCond .ne 13, 3) := by decide +kernel
theorem d_MD_node_34 : decode b_MD_node 34 = .ok (.aload_n 0, 1) := by decide +kernel
theorem d_MD_node_35 : decode b_MD_node 35 = .ok (.getfield 20, 3) := by decide +kernel
theorem d_MD_node_38 : decode b_MD_node 38 = .ok (.iload_n 1, 1) := by decide +kernel
theorem d_MD_node_39 : decode b_MD_node 39 = .ok (.iaload, 1) := by decide +kernel
theorem d_MD_node_40 : decode b_MD_node 40 = .ok (.i2l, 1) := by decide +kernel
theorem d_MD_node_41 : decode b_MD_node 41 = .ok (.goto 24, 3) := by decide +kernel
theorem d_MD_node_44 : decode b_MD_node 44 = .ok (.iload_n 2, 1) := by decide +kernel
theorem d_MD_node_45 : decode b_MD_node 45 = .ok (.iconst 1, 1) := by decide +kernel
theorem d_MD_node_46 : decode b_MD_node 46 = .ok (.if_icmp .ne 12, 3) := by decide +kernel
theorem d_MD_node_49 : decode b_MD_node 49 = .ok (.aload_n 0, 1) := by decide +kernel
theorem d_MD_node_50 : decode b_MD_node 50 = .ok (.getfield 23, 3) := by decide +kernel
theorem d_MD_node_53 : decode b_MD_node 53 = .ok (.iload_n 1, 1) := by decide +kernel
theorem d_MD_node_54 : decode b_MD_node 54 = .ok (.laload, 1) := by decide +kernel
theorem d_MD_node_55 : decode b_MD_node 55 = .ok (.goto 10, 3) := by decide +kernel
theorem d_MD_node_58 : decode b_MD_node 58 = .ok (.aload_n 0, 1) := by decide +kernel
theorem d_MD_node_59 : decode b_MD_node 59 = .ok (.getfield 44, 3) := by decide +kernel
theorem d_MD_node_62 : decode b_MD_node 62 = .ok (.iload_n 1, 1) := by decide +kernel
theorem d_MD_node_63 : decode b_MD_node 63 = .ok (.iaload, 1) := by decide +kernel
theorem d_MD_node_64 : decode b_MD_node 64 = .ok (.i2l, 1) := by decide +kernel
theorem d_MD_node_65 : decode b_MD_node 65 = .ok (.lreturn, 1) := by decide +kernel
theorem d_MD_under_0 : decode b_MD_under 0 = .ok (.iconst 0, 1) := by decide +kernel
theorem d_MD_under_1 : decode b_MD_under 1 = .ok (.istore_n 3, 1) := by decide +kernel
theorem d_MD_under_2 : decode b_MD_under 2 = .ok (.iload_n 1, 1) := by decide +kernel
theorem d_MD_under_3 : decode b_MD_under 3 = .ok (.istore 4, 2) := by decide +kernel
theorem d_MD_under_5 : decode b_MD_under 5 = .ok (.iload 4, 2) := by decide +kernel
theorem d_MD_under_7 : decode b_MD_under 7 = .ok (.iload_n 2, 1) := by decide +kernel
theorem d_MD_under_8 : decode b_MD_under 8 = .ok (.if_icmp .eq 51, 3) := by decide +kernel
theorem d_MD_under_11 : decode b_MD_under 11 = .ok (.aload_n 0, 1) := by decide +kernel
theorem d_MD_under_12 : decode b_MD_under 12 = .ok (.getfield 47, 3) := by decide +kernel
theorem d_MD_under_15 : decode b_MD_under 15 = .ok (.iload 4, 2) := by decide +kernel
theorem d_MD_under_17 : decode b_MD_under 17 = .ok (.iaload, 1) := by decide +kernel
theorem d_MD_under_18 : decode b_MD_under 18 = .ok (.istore 5, 2) := by decide +kernel
theorem d_MD_under_20 : decode b_MD_under 20 = .ok (.iload_n 3, 1) := by decide +kernel
theorem d_MD_under_21 : decode b_MD_under 21 = .ok (.aload_n 0, 1) := by decide +kernel
theorem d_MD_under_22 : decode b_MD_under 22 = .ok (.getfield 20, 3) := by decide +kernel
theorem d_MD_under_25 : decode b_MD_under 25 = .ok (.iload 5, 2) := by decide +kernel
theorem d_MD_under_27 : decode b_MD_under 27 = .ok (.iaload, 1) := by decide +kernel
theorem d_MD_under_28 : decode b_MD_under 28 = .ok (.invokestatic 98, 3) := by decide +kernel
theorem d_MD_under_31 : decode b_MD_under 31 = .ok (.ifCond .eq 18, 3) := by decide +kernel
theorem d_MD_under_34 : decode b_MD_under 34 = .ok (.iload 4, 2) := by decide +kernel
theorem d_MD_under_36 : decode b_MD_under 36 = .ok (.aload_n 0, 1) := by decide +kernel
theorem d_MD_under_37 : decode b_MD_under 37 = .ok (.iload 5, 2) := by decide +kernel
theorem d_MD_under_39 : decode b_MD_under 39 = .ok (.invokevirtual 101, 3) := by decide +kernel
theorem d_MD_under_42 : decode b_MD_under 42 = .ok (.if_icmp .ne 7, 3) := by decide +kernel
theorem d_MD_under_45 : decode b_MD_under 45 = .ok (.iconst 1, 1) := by decide +kernel
theorem d_MD_under_46 : decode b_MD_under 46 = .ok (.goto 4, 3) := by decide +kernel
theorem d_MD_under_49 : decode b_MD_under 49 = .ok (.iconst 0, 1) := by decide +kernel
theorem d_MD_under_50 : decode b_MD_under 50 = .ok (.iadd, 1) := by decide +kernel
theorem d_MD_under_51 : decode b_MD_under 51 = .ok (.istore_n 3, 1) := by decide +kernel
theorem d_MD_under_52 : decode b_MD_under 52 = .ok (.iload 5, 2) := by decide +kernel
theorem d_MD_under_54 : decode b_MD_under 54 = .ok (.istore 4, 2) := by decide +kernel
theorem d_MD_under_56 : decode b_MD_under 56 = .ok (.goto (-51), 3) := by decide +kernel
theorem d_MD_under_59 : decode b_MD_under 59 = .ok (.iload_n 3, 1) := by decide +kernel
theorem d_MD_under_60 : decode b_MD_under 60 = .ok (.ireturn, 1) := by decide +kernel
theorem d_MD_uses_0 : decode b_MD_uses 0 = .ok (.iload_n 1, 1) := by decide +kernel
theorem d_MD_uses_1 : decode b_MD_uses 1 = .ok (.ifCond .lt 23, 3) := by decide +kernel
theorem d_MD_uses_4 : decode b_MD_uses 4 = .ok (.iload_n 1, 1) := by decide +kernel
theorem d_MD_uses_5 : decode b_MD_uses 5 = .ok (.aload_n 0, 1) := by decide +kernel
theorem d_MD_uses_6 : decode b_MD_uses 6 = .ok (.getfield 53, 3) := by decide +kernel
theorem d_MD_uses_9 : decode b_MD_uses 9 = .ok (.if_icmp .ge 15, 3) := by decide +kernel
theorem d_MD_uses_12 : decode b_MD_uses 12 = .ok (.aload_n 0, 1) := by decide +kernel
theorem d_MD_uses_13 : decode b_MD_uses 13 = .ok (.getfield 20, 3) := by decide +kernel
theorem d_MD_uses_16 : decode b_MD_uses 16 = .ok (.iload_n 1, 1) := by decide +kernel
theorem d_MD_uses_17 : decode b_MD_uses 17 = .ok (.iaload, 1) := by decide +kernel
theorem d_MD_uses_18 : decode b_MD_uses 18 = .ok (.invokestatic 98, 3) := by decide +kernel
theorem d_MD_uses_21 : decode b_MD_uses 21 = .ok (.ifCond .ne 5, 3) := by decide +kernel
theorem d_MD_uses_24 : decode b_MD_uses 24 = .ok (.iconst (-1), 1) := by decide +kernel
theorem d_MD_uses_25 : decode b_MD_uses 25 = .ok (.ireturn, 1) := by decide +kernel
theorem d_MD_uses_26 : decode b_MD_uses 26 = .ok (.aload_n 0, 1) := by decide +kernel
theorem d_MD_uses_27 : decode b_MD_uses 27 = .ok (.iconst 0, 1) := by decide +kernel
theorem d_MD_uses_28 : decode b_MD_uses 28 = .ok (.invokevirtual 113, 3) := by decide +kernel
theorem d_MD_uses_31 : decode b_MD_uses 31 = .ok (.iconst 0, 1) := by decide +kernel
theorem d_MD_uses_32 : decode b_MD_uses 32 = .ok (.istore_n 2, 1) := by decide +kernel
theorem d_MD_uses_33 : decode b_MD_uses 33 = .ok (.aload_n 0, 1) := by decide +kernel
theorem d_MD_uses_34 : decode b_MD_uses 34 = .ok (.iload_n 1, 1) := by decide +kernel
theorem d_MD_uses_35 : decode b_MD_uses 35 = .ok (.invokevirtual 101, 3) := by decide +kernel
theorem d_MD_uses_38 : decode b_MD_uses 38 = .ok (.istore_n 3, 1) := by decide +kernel
theorem d_MD_uses_39 : decode b_MD_uses 39 = .ok (.iload_n 3, 1) := by decide +kernel
theorem d_MD_uses_40 : decode b_MD_uses 40 = .ok (.iload_n 1, 1) := by decide +kernel
theorem d_MD_uses_41 : decode b_MD_uses 41 = .ok (.aload_n 0, 1) := by decide +kernel
theorem d_MD_uses_42 : decode b_MD_uses 42 = .ok (.getfield 44, 3) := by decide +kernel
theorem d_MD_uses_45 : decode b_MD_uses 45 = .ok (.iload_n 1, 1) := by decide +kernel
theorem d_MD_uses_46 : decode b_MD_uses 46 = .ok (.iaload, 1) := by decide +kernel
theorem d_MD_uses_47 : decode b_MD_uses 47 = .ok (.iadd, 1) := by decide +kernel
theorem d_MD_uses_48 : decode b_MD_uses 48 = .ok (.if_icmp .ge 47, 3) := by decide +kernel
theorem d_MD_uses_51 : decode b_MD_uses 51 = .ok (.iload_n 2, 1) := by decide +kernel
theorem d_MD_uses_52 : decode b_MD_uses 52 = .ok (.aload_n 0, 1) := by decide +kernel
theorem d_MD_uses_53 : decode b_MD_uses 53 = .ok (.getfield 20, 3) := by decide +kernel
theorem d_MD_uses_56 : decode b_MD_uses 56 = .ok (.iload_n 3, 1) := by decide +kernel
theorem d_MD_uses_57 : decode b_MD_uses 57 = .ok (.iaload, 1) := by decide +kernel
theorem d_MD_uses_58 : decode b_MD_uses 58 = .ok (.ifCond .ne 28, 3) := by decide +kernel
theorem d_MD_uses_61 : decode b_MD_uses 61 = .ok (.aload_n 0, 1) := by decide +kernel
theorem d_MD_uses_62 : decode b_MD_uses 62 = .ok (.getfield 23, 3) := by decide +kernel
theorem d_MD_uses_65 : decode b_MD_uses 65 = .ok (.iload_n 3, 1) := by decide +kernel
theorem d_MD_uses_66 : decode b_MD_uses 66 = .ok (.laload, 1) := by decide +kernel
theorem d_MD_uses_67 : decode b_MD_uses 67 = .ok (.aload_n 0, 1) := by decide +kernel
theorem d_MD_uses_68 : decode b_MD_uses 68 = .ok (.iload_n 3, 1) := by decide +kernel
theorem d_MD_uses_69 : decode b_MD_uses 69 = .ok (.aload_n 0, 1) := by decide +kernel
theorem d_MD_uses_70 : decode b_MD_uses 70 = .ok (.iload_n 1, 1) := by decide +kernel
theorem d_MD_uses_71 : decode b_MD_uses 71 = .ok (.invokevirtual 101, 3) := by decide +kernel
theorem d_MD_uses_74 : decode b_MD_uses 74 = .ok (.invokevirtual 132, 3) := by decide +kernel
theorem d_MD_uses_77 : decode b_MD_uses 77 = .ok (.i2l, 1) := by decide +kernel
theorem d_MD_uses_78 : decode b_MD_uses 78 = .ok (.lcmp, 1) := by decide +kernel
theorem d_MD_uses_79 : decode b_MD_uses 79 = .ok (.ifCond .ne 7, 3) := by decide +kernel
theorem d_MD_uses_82 : decode b_MD_uses 82 = .ok (.iconst 1, 1) := by decide +kernel
theorem d_MD_uses_83 : decode b_MD_uses 83 = .ok (.goto 4, 3) := by decide +kernel
theorem d_MD_uses_86 : decode b_MD_uses 86 = .ok (.iconst 0, 1) := by decide +kernel
theorem d_MD_uses_87 : decode b_MD_uses 87 = .ok (.iadd, 1) := by decide +kernel
theorem d_MD_uses_88 : decode b_MD_uses 88 = .ok (.istore_n 2, 1) := by decide +kernel
theorem d_MD_uses_89 : decode b_MD_uses 89 = .ok (.iinc 3 1, 3) := by decide +kernel
theorem d_MD_uses_92 : decode b_MD_uses 92 = .ok (.goto (-53), 3) := by decide +kernel
theorem d_MD_uses_95 : decode b_MD_uses 95 = .ok (.iload_n 2, 1) := by decide +kernel
theorem d_MD_uses_96 : decode b_MD_uses 96 = .ok (.ireturn, 1) := by decide +kernel
theorem d_MD_draft_0 : decode b_MD_draft 0 = .ok (.aload_n 0, 1) := by decide +kernel
theorem d_MD_draft_1 : decode b_MD_draft 1 = .ok (.getfield 38, 3) := by decide +kernel
theorem d_MD_draft_4 : decode b_MD_draft 4 = .ok (.aload_n 0, 1) := by decide +kernel
theorem d_MD_draft_5 : decode b_MD_draft 5 = .ok (.getfield 124, 3) := by decide +kernel
theorem d_MD_draft_8 : decode b_MD_draft 8 = .ok (.iload_n 1, 1) := by decide +kernel
theorem d_MD_draft_9 : decode b_MD_draft 9 = .ok (.iastore, 1) := by decide +kernel
theorem d_MD_draft_10 : decode b_MD_draft 10 = .ok (.aload_n 0, 1) := by decide +kernel
theorem d_MD_draft_11 : decode b_MD_draft 11 = .ok (.getfield 41, 3) := by decide +kernel
theorem d_MD_draft_14 : decode b_MD_draft 14 = .ok (.aload_n 0, 1) := by decide +kernel
theorem d_MD_draft_15 : decode b_MD_draft 15 = .ok (.getfield 124, 3) := by decide +kernel
theorem d_MD_draft_18 : decode b_MD_draft 18 = .ok (.lload_n 2, 1) := by decide +kernel
theorem d_MD_draft_19 : decode b_MD_draft 19 = .ok (.lastore, 1) := by decide +kernel
theorem d_MD_draft_20 : decode b_MD_draft 20 = .ok (.aload_n 0, 1) := by decide +kernel
theorem d_MD_draft_21 : decode b_MD_draft 21 = .ok (.dup, 1) := by decide +kernel
theorem d_MD_draft_22 : decode b_MD_draft 22 = .ok (.getfield 124, 3) := by decide +kernel
theorem d_MD_draft_25 : decode b_MD_draft 25 = .ok (.iconst 1, 1) := by decide +kernel
theorem d_MD_draft_26 : decode b_MD_draft 26 = .ok (.iadd, 1) := by decide +kernel
theorem d_MD_draft_27 : decode b_MD_draft 27 = .ok (.putfield 124, 3) := by decide +kernel
theorem d_MD_draft_30 : decode b_MD_draft 30 = .ok (.return_, 1) := by decide +kernel
theorem d_MD_contract_0 : decode b_MD_contract 0 = .ok (.iload_n 1, 1) := by decide +kernel
theorem d_MD_contract_1 : decode b_MD_contract 1 = .ok (.ifCond .lt 11, 3) := by decide +kernel
theorem d_MD_contract_4 : decode b_MD_contract 4 = .ok (.iload_n 1, 1) := by decide +kernel
theorem d_MD_contract_5 : decode b_MD_contract 5 = .ok (.aload_n 0, 1) := by decide +kernel
theorem d_MD_contract_6 : decode b_MD_contract 6 = .ok (.getfield 53, 3) := by decide +kernel
theorem d_MD_contract_9 : decode b_MD_contract 9 = .ok (.if_icmp .lt 5, 3) := by decide +kernel
theorem d_MD_contract_12 : decode b_MD_contract 12 = .ok (.iconst (-1), 1) := by decide +kernel
theorem d_MD_contract_13 : decode b_MD_contract 13 = .ok (.ireturn, 1) := by decide +kernel
theorem d_MD_contract_14 : decode b_MD_contract 14 = .ok (.aload_n 0, 1) := by decide +kernel
theorem d_MD_contract_15 : decode b_MD_contract 15 = .ok (.iconst 0, 1) := by decide +kernel
theorem d_MD_contract_16 : decode b_MD_contract 16 = .ok (.invokevirtual 113, 3) := by decide +kernel
theorem d_MD_contract_19 : decode b_MD_contract 19 = .ok (.aload_n 0, 1) := by decide +kernel
theorem d_MD_contract_20 : decode b_MD_contract 20 = .ok (.getfield 20, 3) := by decide +kernel
theorem d_MD_contract_23 : decode b_MD_contract 23 = .ok (.iload_n 1, 1) := by decide +kernel
theorem d_MD_contract_24 : decode b_MD_contract 24 = .ok (.iaload, 1) := by decide +kernel
theorem d_MD_contract_25 : decode b_MD_contract 25 = .ok (.iconst 3, 1) := by decide +kernel
theorem d_MD_contract_26 : decode b_MD_contract 26 = .ok (.if_icmp .ne 7, 3) := by decide +kernel
theorem d_MD_contract_29 : decode b_MD_contract 29 = .ok (.iconst 1, 1) := by decide +kernel
theorem d_MD_contract_30 : decode b_MD_contract 30 = .ok (.goto 4, 3) := by decide +kernel
theorem d_MD_contract_33 : decode b_MD_contract 33 = .ok (.iconst 0, 1) := by decide +kernel
theorem d_MD_contract_34 : decode b_MD_contract 34 = .ok (.istore_n 2, 1) := by decide +kernel
theorem d_MD_contract_35 : decode b_MD_contract 35 = .ok (.iload_n 2, 1) := by decide +kernel
theorem d_MD_contract_36 : decode b_MD_contract 36 = .ok (.ifCond .ne 27, 3) := by decide +kernel
theorem d_MD_contract_39 : decode b_MD_contract 39 = .ok (.aload_n 0, 1) := by decide +kernel
theorem d_MD_contract_40 : decode b_MD_contract 40 = .ok (.getfield 20, 3) := by decide +kernel
theorem d_MD_contract_43 : decode b_MD_contract 43 = .ok (.iload_n 1, 1) := by decide +kernel
theorem d_MD_contract_44 : decode b_MD_contract 44 = .ok (.iaload, 1) := by decide +kernel
theorem d_MD_contract_45 : decode b_MD_contract 45 = .ok (.iconst 4, 1) := by decide +kernel
theorem d_MD_contract_46 : decode b_MD_contract 46 = .ok (.if_icmp .ne 15, 3) := by decide +kernel
theorem d_MD_contract_49 : decode b_MD_contract 49 = .ok (.aload_n 0, 1) := by decide +kernel
theorem d_MD_contract_50 : decode b_MD_contract 50 = .ok (.getfield 20, 3) := by decide +kernel
theorem d_MD_contract_53 : decode b_MD_contract 53 = .ok (.iload_n 1, 1) := by decide +kernel
theorem d_MD_contract_54 : decode b_MD_contract 54 = .ok (.iconst 1, 1) := by decide +kernel
theorem d_MD_contract_55 : decode b_MD_contract 55 = .ok (.iadd, 1) := by decide +kernel
theorem d_MD_contract_56 : decode b_MD_contract 56 = .ok (.iaload, 1) := by decide +kernel
theorem d_MD_contract_57 : decode b_MD_contract 57 = .ok (.iconst 1, 1) := by decide +kernel
theorem d_MD_contract_58 : decode b_MD_contract 58 = .ok (.if_icmp .eq 5, 3) := by decide +kernel
theorem d_MD_contract_61 : decode b_MD_contract 61 = .ok (.iconst (-1), 1) := by decide +kernel
theorem d_MD_contract_62 : decode b_MD_contract 62 = .ok (.ireturn, 1) := by decide +kernel
theorem d_MD_contract_63 : decode b_MD_contract 63 = .ok (.iload_n 2, 1) := by decide +kernel
theorem d_MD_contract_64 : decode b_MD_contract 64 = .ok (.ifCond .eq 7, 3) := by decide +kernel
theorem d_MD_contract_67 : decode b_MD_contract 67 = .ok (.iload_n 1, 1) := by decide +kernel
theorem d_MD_contract_68 : decode b_MD_contract 68 = .ok (.goto 6, 3) := by decide +kernel
theorem d_MD_contract_71 : decode b_MD_contract 71 = .ok (.iload_n 1, 1) := by decide +kernel
theorem d_MD_contract_72 : decode b_MD_contract 72 = .ok (.iconst 1, 1) := by decide +kernel
theorem d_MD_contract_73 : decode b_MD_contract 73 = .ok (.iadd, 1) := by decide +kernel
theorem d_MD_contract_74 : decode b_MD_contract 74 = .ok (.istore_n 3, 1) := by decide +kernel
theorem d_MD_contract_75 : decode b_MD_contract 75 = .ok (.aload_n 0, 1) := by decide +kernel
theorem d_MD_contract_76 : decode b_MD_contract 76 = .ok (.iload_n 3, 1) := by decide +kernel
theorem d_MD_contract_77 : decode b_MD_contract 77 = .ok (.invokevirtual 101, 3) := by decide +kernel
theorem d_MD_contract_80 : decode b_MD_contract 80 = .ok (.istore 4, 2) := by decide +kernel
theorem d_MD_contract_82 : decode b_MD_contract 82 = .ok (.iload_n 2, 1) := by decide +kernel
theorem d_MD_contract_83 : decode b_MD_contract 83 = .ok (.ifCond .eq 9, 3) := by decide +kernel
theorem d_MD_contract_86 : decode b_MD_contract 86 = .ok (.iload_n 1, 1) := by decide +kernel
theorem d_MD_contract_87 : decode b_MD_contract 87 = .ok (.iconst 1, 1) := by decide +kernel
theorem d_MD_contract_88 : decode b_MD_contract 88 = .ok (.iadd, 1) := by decide +kernel
theorem d_MD_contract_89 : decode b_MD_contract 89 = .ok (.goto 8, 3) := by decide +kernel
theorem d_MD_contract_92 : decode b_MD_contract 92 = .ok (.aload_n 0, 1) := by decide +kernel
theorem d_MD_contract_93 : decode b_MD_contract 93 = .ok (.iload_n 1, 1) := by decide +kernel
theorem d_MD_contract_94 : decode b_MD_contract 94 = .ok (.invokevirtual 101, 3) := by decide +kernel
theorem d_MD_contract_97 : decode b_MD_contract 97 = .ok (.istore 5, 2) := by decide +kernel
theorem d_MD_contract_99 : decode b_MD_contract 99 = .ok (.aload_n 0, 1) := by decide +kernel
theorem d_MD_contract_100 : decode b_MD_contract 100 = .ok (.iload_n 3, 1) := by decide +kernel
theorem d_MD_contract_101 : decode b_MD_contract 101 = .ok (.invokevirtual 136, 3) := by decide +kernel
theorem d_MD_contract_104 : decode b_MD_contract 104 = .ok (.istore 6, 2) := by decide +kernel
theorem d_MD_contract_106 : decode b_MD_contract 106 = .ok (.aload_n 0, 1) := by decide +kernel
theorem d_MD_contract_107 : decode b_MD_contract 107 = .ok (.getfield 53, 3) := by decide +kernel
theorem d_MD_contract_110 : decode b_MD_contract 110 = .ok (.aload_n 0, 1) := by decide +kernel
theorem d_MD_contract_111 : decode b_MD_contract 111 = .ok (.getfield 44, 3) := by decide +kernel
theorem d_MD_contract_114 : decode b_MD_contract 114 = .ok (.iload_n 1, 1) := by decide +kernel
theorem d_MD_contract_115 : decode b_MD_contract 115 = .ok (.iaload, 1) := by decide +kernel
theorem d_MD_contract_116 : decode b_MD_contract 116 = .ok (.isub, 1) := by decide +kernel
theorem d_MD_contract_117 : decode b_MD_contract 117 = .ok (.aload_n 0, 1) := by decide +kernel
theorem d_MD_contract_118 : decode b_MD_contract 118 = .ok (.getfield 44, 3) := by decide +kernel
theorem d_MD_contract_121 : decode b_MD_contract 121 = .ok (.iload 4, 2) := by decide +kernel
theorem d_MD_contract_123 : decode b_MD_contract 123 = .ok (.iaload, 1) := by decide +kernel
theorem d_MD_contract_124 : decode b_MD_contract 124 = .ok (.iadd, 1) := by decide +kernel
theorem d_MD_contract_125 : decode b_MD_contract 125 = .ok (.iload 6, 2) := by decide +kernel
theorem d_MD_contract_127 : decode b_MD_contract 127 = .ok (.aload_n 0, 1) := by decide +kernel
theorem d_MD_contract_128 : decode b_MD_contract 128 = .ok (.getfield 44, 3) := by decide +kernel
theorem d_MD_contract_131 : decode b_MD_contract 131 = .ok (.iload 5, 2) := by decide +kernel
theorem d_MD_contract_133 : decode b_MD_contract 133 = .ok (.iaload, 1) := by decide +kernel
theorem d_MD_contract_134 : decode b_MD_contract 134 = .ok (.iconst 1, 1) := by decide +kernel
theorem d_MD_contract_135 : decode b_MD_contract 135 = .ok (.isub, 1) := by decide +kernel
theorem d_MD_contract_136 : decode b_MD_contract 136 = .ok (.imul, 1) := by decide +kernel
theorem d_MD_contract_137 : decode b_MD_contract 137 = .ok (.iadd, 1) := by decide +kernel
theorem d_MD_contract_138 : decode b_MD_contract 138 = .ok (.sipush 3000, 3) := by decide +kernel
theorem d_MD_contract_141 : decode b_MD_contract 141 = .ok (.if_icmp .le 6, 3) := by decide +kernel
theorem d_MD_contract_144 : decode b_MD_contract 144 = .ok (.bipush (-2), 2) := by decide +kernel
theorem d_MD_contract_146 : decode b_MD_contract 146 = .ok (.ireturn, 1) := by decide +kernel
theorem d_MD_contract_147 : decode b_MD_contract 147 = .ok (.aload_n 0, 1) := by decide +kernel
theorem d_MD_contract_148 : decode b_MD_contract 148 = .ok (.iconst 0, 1) := by decide +kernel
theorem d_MD_contract_149 : decode b_MD_contract 149 = .ok (.putfield 124, 3) := by decide +kernel
theorem d_MD_contract_152 : decode b_MD_contract 152 = .ok (.iconst 0, 1) := by decide +kernel
theorem d_MD_contract_153 : decode b_MD_contract 153 = .ok (.istore 7, 2) := by decide +kernel
theorem d_MD_contract_155 : decode b_MD_contract 155 = .ok (.iload 7, 2) := by decide +kernel
theorem d_MD_contract_157 : decode b_MD_contract 157 = .ok (.iload_n 1, 1) := by decide +kernel
theorem d_MD_contract_158 : decode b_MD_contract 158 = .ok (.if_icmp .ge 27, 3) := by decide +kernel
theorem d_MD_contract_161 : decode b_MD_contract 161 = .ok (.aload_n 0, 1) := by decide +kernel
theorem d_MD_contract_162 : decode b_MD_contract 162 = .ok (.aload_n 0, 1) := by decide +kernel
theorem d_MD_contract_163 : decode b_MD_contract 163 = .ok (.getfield 20, 3) := by decide +kernel
theorem d_MD_contract_166 : decode b_MD_contract 166 = .ok (.iload 7, 2) := by decide +kernel
theorem d_MD_contract_168 : decode b_MD_contract 168 = .ok (.iaload, 1) := by decide +kernel
theorem d_MD_contract_169 : decode b_MD_contract 169 = .ok (.aload_n 0, 1) := by decide +kernel
theorem d_MD_contract_170 : decode b_MD_contract 170 = .ok (.getfield 23, 3) := by decide +kernel
theorem d_MD_contract_173 : decode b_MD_contract 173 = .ok (.iload 7, 2) := by decide +kernel
theorem d_MD_contract_175 : decode b_MD_contract 175 = .ok (.laload, 1) := by decide +kernel
theorem d_MD_contract_176 : decode b_MD_contract 176 = .ok (.invokevirtual 139, 3) := by decide +kernel
theorem d_MD_contract_179 : decode b_MD_contract 179 = .ok (.iinc 7 1, 3) := by decide +kernel
theorem d_MD_contract_182 : decode b_MD_contract 182 = .ok (.goto (-27), 3) := by decide +kernel
theorem d_MD_contract_185 : decode b_MD_contract 185 = .ok (.iload 4, 2) := by decide +kernel
theorem d_MD_contract_187 : decode b_MD_contract 187 = .ok (.istore 7, 2) := by decide +kernel
theorem d_MD_contract_189 : decode b_MD_contract 189 = .ok (.iload 7, 2) := by decide +kernel
theorem d_MD_contract_191 : decode b_MD_contract 191 = .ok (.iload 4, 2) := by decide +kernel
theorem d_MD_contract_193 : decode b_MD_contract 193 = .ok (.aload_n 0, 1) := by decide +kernel
theorem d_MD_contract_194 : decode b_MD_contract 194 = .ok (.getfield 44, 3) := by decide +kernel
theorem d_MD_contract_197 : decode b_MD_contract 197 = .ok (.iload 4, 2) := by decide +kernel
theorem d_MD_contract_199 : decode b_MD_contract 199 = .ok (.iaload, 1) := by decide +kernel
theorem d_MD_contract_200 : decode b_MD_contract 200 = .ok (.iadd, 1) := by decide +kernel
theorem d_MD_contract_201 : decode b_MD_contract 201 = .ok (.if_icmp .ge 208, 3) := by decide +kernel
theorem d_MD_contract_204 : decode b_MD_contract 204 = .ok (.aload_n 0, 1) := by decide +kernel
theorem d_MD_contract_205 : decode b_MD_contract 205 = .ok (.getfield 20, 3) := by decide +kernel
theorem d_MD_contract_208 : decode b_MD_contract 208 = .ok (.iload 7, 2) := by decide +kernel
theorem d_MD_contract_210 : decode b_MD_contract 210 = .ok (.iaload, 1) := by decide +kernel
theorem d_MD_contract_211 : decode b_MD_contract 211 = .ok (.ifCond .ne 14, 3) := by decide +kernel
theorem d_MD_contract_214 : decode b_MD_contract 214 = .ok (.aload_n 0, 1) := by decide +kernel
theorem d_MD_contract_215 : decode b_MD_contract 215 = .ok (.iload 7, 2) := by decide +kernel
theorem d_MD_contract_217 : decode b_MD_contract 217 = .ok (.iload 4, 2) := by decide +kernel
theorem d_MD_contract_219 : decode b_MD_contract 219 = .ok (.invokevirtual 132, 3) := by decide +kernel
theorem d_MD_contract_222 : decode b_MD_contract 222 = .ok (.goto 4, 3) := by decide +kernel
theorem d_MD_contract_225 : decode b_MD_contract 225 = .ok (.iconst 0, 1) := by decide +kernel
theorem d_MD_contract_226 : decode b_MD_contract 226 = .ok (.istore 8, 2) := by decide +kernel
theorem d_MD_contract_228 : decode b_MD_contract 228 = .ok (.aload_n 0, 1) := by decide +kernel
theorem d_MD_contract_229 : decode b_MD_contract 229 = .ok (.getfield 20, 3) := by decide +kernel
theorem d_MD_contract_232 : decode b_MD_contract 232 = .ok (.iload 7, 2) := by decide +kernel
theorem d_MD_contract_234 : decode b_MD_contract 234 = .ok (.iaload, 1) := by decide +kernel
theorem d_MD_contract_235 : decode b_MD_contract 235 = .ok (.ifCond .ne 17, 3) := by decide +kernel
theorem d_MD_contract_238 : decode b_MD_contract 238 = .ok (.aload_n 0, 1) := by decide +kernel
theorem d_MD_contract_239 : decode b_MD_contract 239 = .ok (.getfield 23, 3) := by decide +kernel
theorem d_MD_contract_242 : decode b_MD_contract 242 = .ok (.iload 7, 2) := by decide +kernel
theorem d_MD_contract_244 : decode b_MD_contract 244 = .ok (.laload, 1) := by decide +kernel
theorem d_MD_contract_245 : decode b_MD_contract 245 = .ok (.iload 8, 2) := by decide +kernel
theorem d_MD_contract_247 : decode b_MD_contract 247 = .ok (.i2l, 1) := by decide +kernel
theorem d_MD_contract_248 : decode b_MD_contract 248 = .ok (.lcmp, 1) := by decide +kernel
theorem d_MD_contract_249 : decode b_MD_contract 249 = .ok (.ifCond .ge 24, 3) := by decide +kernel
theorem d_MD_contract_252 : decode b_MD_contract 252 = .ok (.aload_n 0, 1) := by decide +kernel
theorem d_MD_contract_253 : decode b_MD_contract 253 = .ok (.aload_n 0, 1) := by decide +kernel
theorem d_MD_contract_254 : decode b_MD_contract 254 = .ok (.getfield 20, 3) := by decide +kernel
theorem d_MD_contract_257 : decode b_MD_contract 257 = .ok (.iload 7, 2) := by decide +kernel
theorem d_MD_contract_259 : decode b_MD_contract 259 = .ok (.iaload, 1) := by decide +kernel
theorem d_MD_contract_260 : decode b_MD_contract 260 = .ok (.aload_n 0, 1) := by decide +kernel
theorem d_MD_contract_261 : decode b_MD_contract 261 = .ok (.getfield 23, 3) := by decide +kernel
theorem d_MD_contract_264 : decode b_MD_contract 264 = .ok (.iload 7, 2) := by decide +kernel
theorem d_MD_contract_266 : decode b_MD_contract 266 = .ok (.laload, 1) := by decide +kernel
theorem d_MD_contract_267 : decode b_MD_contract 267 = .ok (.invokevirtual 139, 3) := by decide +kernel
theorem d_MD_contract_270 : decode b_MD_contract 270 = .ok (.goto 133, 3) := by decide +kernel
theorem d_MD_contract_273 : decode b_MD_contract 273 = .ok (.aload_n 0, 1) := by decide +kernel
theorem d_MD_contract_274 : decode b_MD_contract 274 = .ok (.getfield 23, 3) := by decide +kernel
theorem d_MD_contract_277 : decode b_MD_contract 277 = .ok (.iload 7, 2) := by decide +kernel
theorem d_MD_contract_279 : decode b_MD_contract 279 = .ok (.laload, 1) := by decide +kernel
theorem d_MD_contract_280 : decode b_MD_contract 280 = .ok (.iload 8, 2) := by decide +kernel
theorem d_MD_contract_282 : decode b_MD_contract 282 = .ok (.i2l, 1) := by decide +kernel
theorem d_MD_contract_283 : decode b_MD_contract 283 = .ok (.lcmp, 1) := by decide +kernel
theorem d_MD_contract_284 : decode b_MD_contract 284 = .ok (.ifCond .le 20, 3) := by decide +kernel
theorem d_MD_contract_287 : decode b_MD_contract 287 = .ok (.aload_n 0, 1) := by decide +kernel
theorem d_MD_contract_288 : decode b_MD_contract 288 = .ok (.iconst 0, 1) := by decide +kernel
theorem d_MD_contract_289 : decode b_MD_contract 289 = .ok (.aload_n 0, 1) := by decide +kernel
theorem d_MD_contract_290 : decode b_MD_contract 290 = .ok (.getfield 23, 3) := by decide +kernel
theorem d_MD_contract_293 : decode b_MD_contract 293 = .ok (.iload 7, 2) := by decide +kernel
theorem d_MD_contract_295 : decode b_MD_contract 295 = .ok (.laload, 1) := by decide +kernel
theorem d_MD_contract_296 : decode b_MD_contract 296 = .ok (.lconst 1, 1) := by decide +kernel
theorem d_MD_contract_297 : decode b_MD_contract 297 = .ok (.lsub, 1) := by decide +kernel
theorem d_MD_contract_298 : decode b_MD_contract 298 = .ok (.invokevirtual 139, 3) := by decide +kernel
theorem d_MD_contract_301 : decode b_MD_contract 301 = .ok (.goto 102, 3) := by decide +kernel
theorem d_MD_contract_304 : decode b_MD_contract 304 = .ok (.iload 5, 2) := by decide +kernel
theorem d_MD_contract_306 : decode b_MD_contract 306 = .ok (.istore 9, 2) := by decide +kernel
theorem d_MD_contract_308 : decode b_MD_contract 308 = .ok (.iload 9, 2) := by decide +kernel
theorem d_MD_contract_310 : decode b_MD_contract 310 = .ok (.iload 5, 2) := by decide +kernel
theorem d_MD_contract_312 : decode b_MD_contract 312 = .ok (.aload_n 0, 1) := by decide +kernel
theorem d_MD_contract_313 : decode b_MD_contract 313 = .ok (.getfield 44, 3) := by decide +kernel
theorem d_MD_contract_316 : decode b_MD_contract 316 = .ok (.iload 5, 2) := by decide +kernel
theorem d_MD_contract_318 : decode b_MD_contract 318 = .ok (.iaload, 1) := by decide +kernel
theorem d_MD_contract_319 : decode b_MD_contract 319 = .ok (.iadd, 1) := by decide +kernel
theorem d_MD_contract_320 : decode b_MD_contract 320 = .ok (.if_icmp .ge 83, 3) := by decide +kernel
theorem d_MD_contract_323 : decode b_MD_contract 323 = .ok (.aload_n 0, 1) := by decide +kernel
theorem d_MD_contract_324 : decode b_MD_contract 324 = .ok (.getfield 20, 3) := by decide +kernel
theorem d_MD_contract_327 : decode b_MD_contract 327 = .ok (.iload 9, 2) := by decide +kernel
theorem d_MD_contract_329 : decode b_MD_contract 329 = .ok (.iaload, 1) := by decide +kernel
theorem d_MD_contract_330 : decode b_MD_contract 330 = .ok (.ifCond .ne 27, 3) := by decide +kernel
theorem d_MD_contract_333 : decode b_MD_contract 333 = .ok (.aload_n 0, 1) := by decide +kernel
theorem d_MD_contract_334 : decode b_MD_contract 334 = .ok (.getfield 23, 3) := by decide +kernel
theorem d_MD_contract_337 : decode b_MD_contract 337 = .ok (.iload 9, 2) := by decide +kernel
theorem d_MD_contract_339 : decode b_MD_contract 339 = .ok (.laload, 1) := by decide +kernel
theorem d_MD_contract_340 : decode b_MD_contract 340 = .ok (.aload_n 0, 1) := by decide +kernel
theorem d_MD_contract_341 : decode b_MD_contract 341 = .ok (.iload 9, 2) := by decide +kernel
theorem d_MD_contract_343 : decode b_MD_contract 343 = .ok (.iload 5, 2) := by decide +kernel
theorem d_MD_contract_345 : decode b_MD_contract 345 = .ok (.invokevirtual 132, 3) := by decide +kernel
theorem d_MD_contract_348 : decode b_MD_contract 348 = .ok (.i2l, 1) := by decide +kernel
theorem d_MD_contract_349 : decode b_MD_contract 349 = .ok (.lcmp, 1) := by decide +kernel
theorem d_MD_contract_350 : decode b_MD_contract 350 = .ok (.ifCond .lt 7, 3) := by decide +kernel
theorem d_MD_contract_353 : decode b_MD_contract 353 = .ok (.iconst 1, 1) := by decide +kernel
theorem d_MD_contract_354 : decode b_MD_contract 354 = .ok (.goto 4, 3) := by decide +kernel
theorem d_MD_contract_357 : decode b_MD_contract 357 = .ok (.iconst 0, 1) := by decide +kernel
theorem d_MD_contract_358 : decode b_MD_contract 358 = .ok (.istore 10, 2) := by decide +kernel
theorem d_MD_contract_360 : decode b_MD_contract 360 = .ok (.aload_n 0, 1) := by decide +kernel
theorem d_MD_contract_361 : decode b_MD_contract 361 = .ok (.aload_n 0, 1) := by decide +kernel
theorem d_MD_contract_362 : decode b_MD_contract 362 = .ok (.getfield 20, 3) := by decide +kernel
theorem d_MD_contract_365 : decode b_MD_contract 365 = .ok (.iload 9, 2) := by decide +kernel
theorem d_MD_contract_367 : decode b_MD_contract 367 = .ok (.iaload, 1) := by decide +kernel
theorem d_MD_contract_368 : decode b_MD_contract 368 = .ok (.iload 10, 2) := by decide +kernel
theorem d_MD_contract_370 : decode b_MD_contract 370 = .ok (.ifCond .eq 17, 3) := by decide +kernel
theorem d_MD_contract_373 : decode b_MD_contract 373 = .ok (.aload_n 0, 1) := by decide +kernel
theorem d_MD_contract_374 : decode b_MD_contract 374 = .ok (.getfield 23, 3) := by decide +kernel
theorem d_MD_contract_377 : decode b_MD_contract 377 = .ok (.iload 9, 2) := by decide +kernel
theorem d_MD_contract_379 : decode b_MD_contract 379 = .ok (.laload, 1) := by decide +kernel
theorem d_MD_contract_380 : decode b_MD_contract 380 = .ok (.iload 8, 2) := by decide +kernel
theorem d_MD_contract_382 : decode b_MD_contract 382 = .ok (.i2l, 1) := by decide +kernel
theorem d_MD_contract_383 : decode b_MD_contract 383 = .ok (.ladd, 1) := by decide +kernel
theorem d_MD_contract_384 : decode b_MD_contract 384 = .ok (.goto 10, 3) := by decide +kernel
theorem d_MD_contract_387 : decode b_MD_contract 387 = .ok (.aload_n 0, 1) := by decide +kernel
theorem d_MD_contract_388 : decode b_MD_contract 388 = .ok (.getfield 23, 3) := by decide +kernel
theorem d_MD_contract_391 : decode b_MD_contract 391 = .ok (.iload 9, 2) := by decide +kernel
theorem d_MD_contract_393 : decode b_MD_contract 393 = .ok (.laload, 1) := by decide +kernel
theorem d_MD_contract_394 : decode b_MD_contract 394 = .ok (.invokevirtual 139, 3) := by decide +kernel
theorem d_MD_contract_397 : decode b_MD_contract 397 = .ok (.iinc 9 1, 3) := by decide +kernel
theorem d_MD_contract_400 : decode b_MD_contract 400 = .ok (.goto (-92), 3) := by decide +kernel
theorem d_MD_contract_403 : decode b_MD_contract 403 = .ok (.iinc 7 1, 3) := by decide +kernel
theorem d_MD_contract_406 : decode b_MD_contract 406 = .ok (.goto (-217), 3) := by decide +kernel
theorem d_MD_contract_409 : decode b_MD_contract 409 = .ok (.iload_n 1, 1) := by decide +kernel
theorem d_MD_contract_410 : decode b_MD_contract 410 = .ok (.aload_n 0, 1) := by decide +kernel
theorem d_MD_contract_411 : decode b_MD_contract 411 = .ok (.getfield 44, 3) := by decide +kernel
theorem d_MD_contract_414 : decode b_MD_contract 414 = .ok (.iload_n 1, 1) := by decide +kernel
theorem d_MD_contract_415 : decode b_MD_contract 415 = .ok (.iaload, 1) := by decide +kernel
theorem d_MD_contract_416 : decode b_MD_contract 416 = .ok (.iadd, 1) := by decide +kernel
theorem d_MD_contract_417 : decode b_MD_contract 417 = .ok (.istore 7, 2) := by decide +kernel
theorem d_MD_contract_419 : decode b_MD_contract 419 = .ok (.iload 7, 2) := by decide +kernel
theorem d_MD_contract_421 : decode b_MD_contract 421 = .ok (.aload_n 0, 1) := by decide +kernel
theorem d_MD_contract_422 : decode b_MD_contract 422 = .ok (.getfield 53, 3) := by decide +kernel
theorem d_MD_contract_425 : decode b_MD_contract 425 = .ok (.if_icmp .ge 27, 3) := by decide +kernel
theorem d_MD_contract_428 : decode b_MD_contract 428 = .ok (.aload_n 0, 1) := by decide +kernel
theorem d_MD_contract_429 : decode b_MD_contract 429 = .ok (.aload_n 0, 1) := by decide +kernel
theorem d_MD_contract_430 : decode b_MD_contract 430 = .ok (.getfield 20, 3) := by decide +kernel
theorem d_MD_contract_433 : decode b_MD_contract 433 = .ok (.iload 7, 2) := by decide +kernel
theorem d_MD_contract_435 : decode b_MD_contract 435 = .ok (.iaload, 1) := by decide +kernel
theorem d_MD_contract_436 : decode b_MD_contract 436 = .ok (.aload_n 0, 1) := by decide +kernel
theorem d_MD_contract_437 : decode b_MD_contract 437 = .ok (.getfield 23, 3) := by decide +kernel
theorem d_MD_contract_440 : decode b_MD_contract 440 = .ok (.iload 7, 2) := by decide +kernel
theorem d_MD_contract_442 : decode b_MD_contract 442 = .ok (.laload, 1) := by decide +kernel
theorem d_MD_contract_443 : decode b_MD_contract 443 = .ok (.invokevirtual 139, 3) := by decide +kernel
theorem d_MD_contract_446 : decode b_MD_contract 446 = .ok (.iinc 7 1, 3) := by decide +kernel
theorem d_MD_contract_449 : decode b_MD_contract 449 = .ok (.goto (-30), 3) := by decide +kernel
theorem d_MD_contract_452 : decode b_MD_contract 452 = .ok (.aload_n 0, 1) := by decide +kernel
theorem d_MD_contract_453 : decode b_MD_contract 453 = .ok (.invokevirtual 127, 3) := by decide +kernel
theorem d_MD_contract_456 : decode b_MD_contract 456 = .ok (.aload_n 0, 1) := by decide +kernel
theorem d_MD_contract_457 : decode b_MD_contract 457 = .ok (.getfield 53, 3) := by decide +kernel
theorem d_MD_contract_460 : decode b_MD_contract 460 = .ok (.ireturn, 1) := by decide +kernel
theorem d_MD_findBinders_0 : decode b_MD_findBinders 0 = .ok (.iconst 0, 1) := by decide +kernel
theorem d_MD_findBinders_1 : decode b_MD_findBinders 1 = .ok (.istore_n 1, 1) := by decide +kernel
theorem d_MD_findBinders_2 : decode b_MD_findBinders 2 = .ok (.iload_n 1, 1) := by decide +kernel
theorem d_MD_findBinders_3 : decode b_MD_findBinders 3 = .ok (.aload_n 0, 1) := by decide +kernel
theorem d_MD_findBinders_4 : decode b_MD_findBinders 4 = .ok (.getfield 53, 3) := by decide +kernel
theorem d_MD_findBinders_7 : decode b_MD_findBinders 7 = .ok (.if_icmp .ge 109, 3) := by decide +kernel
theorem d_MD_findBinders_10 : decode b_MD_findBinders 10 = .ok (.aload_n 0, 1) := by decide +kernel
theorem d_MD_findBinders_11 : decode b_MD_findBinders 11 = .ok (.getfield 50, 3) := by decide +kernel
theorem d_MD_findBinders_14 : decode b_MD_findBinders 14 = .ok (.iload_n 1, 1) := by decide +kernel
theorem d_MD_findBinders_15 : decode b_MD_findBinders 15 = .ok (.iconst (-1), 1) := by decide +kernel
theorem d_MD_findBinders_16 : decode b_MD_findBinders 16 = .ok (.iastore, 1) := by decide +kernel
theorem d_MD_findBinders_17 : decode b_MD_findBinders 17 = .ok (.aload_n 0, 1) := by decide +kernel
theorem d_MD_findBinders_18 : decode b_MD_findBinders 18 = .ok (.getfield 20, 3) := by decide +kernel
theorem d_MD_findBinders_21 : decode b_MD_findBinders 21 = .ok (.iload_n 1, 1) := by decide +kernel
theorem d_MD_findBinders_22 : decode b_MD_findBinders 22 = .ok (.iaload, 1) := by decide +kernel
theorem d_MD_findBinders_23 : decode b_MD_findBinders 23 = .ok (.ifCond .ne 12, 3) := by decide +kernel
theorem d_MD_findBinders_26 : decode b_MD_findBinders 26 = .ok (.aload_n 0, 1) := by decide +kernel
theorem d_MD_findBinders_27 : decode b_MD_findBinders 27 = .ok (.getfield 23, 3) := by decide +kernel
theorem d_MD_findBinders_30 : decode b_MD_findBinders 30 = .ok (.iload_n 1, 1) := by decide +kernel
theorem d_MD_findBinders_31 : decode b_MD_findBinders 31 = .ok (.laload, 1) := by decide +kernel
theorem d_MD_findBinders_32 : decode b_MD_findBinders 32 = .ok (.goto 6, 3) := by decide +kernel
theorem d_MD_findBinders_35 : decode b_MD_findBinders 35 = .ok (.ldc2_w 130, 3) := by decide +kernel
theorem d_MD_findBinders_38 : decode b_MD_findBinders 38 = .ok (.lstore_n 2, 1) := by decide +kernel
theorem d_MD_findBinders_39 : decode b_MD_findBinders 39 = .ok (.iload_n 1, 1) := by decide +kernel
theorem d_MD_findBinders_40 : decode b_MD_findBinders 40 = .ok (.istore 4, 2) := by decide +kernel
theorem d_MD_findBinders_42 : decode b_MD_findBinders 42 = .ok (.lload_n 2, 1) := by decide +kernel
theorem d_MD_findBinders_43 : decode b_MD_findBinders 43 = .ok (.lconst 0, 1) := by decide +kernel
theorem d_MD_findBinders_44 : decode b_MD_findBinders 44 = .ok (.lcmp, 1) := by decide +kernel
theorem d_MD_findBinders_45 : decode b_MD_findBinders 45 = .ok (.ifCond .lt 65, 3) := by decide +kernel
theorem d_MD_findBinders_48 : decode b_MD_findBinders 48 = .ok (.aload_n 0, 1) := by decide +kernel
theorem d_MD_findBinders_49 : decode b_MD_findBinders 49 = .ok (.getfield 47, 3) := by decide +kernel
theorem d_MD_findBinders_52 : decode b_MD_findBinders 52 = .ok (.iload 4, 2) := by decide +kernel
theorem d_MD_findBinders_54 : decode b_MD_findBinders 54 = .ok (.iaload, 1) := by decide +kernel
theorem d_MD_findBinders_55 : decode b_MD_findBinders 55 = .ok (.istore 5, 2) := by decide +kernel
theorem d_MD_findBinders_57 : decode b_MD_findBinders 57 = .ok (.aload_n 0, 1) := by decide +kernel
theorem d_MD_findBinders_58 : decode b_MD_findBinders 58 = .ok (.getfield 20, 3) := by decide +kernel
theorem d_MD_findBinders_61 : decode b_MD_findBinders 61 = .ok (.iload 5, 2) := by decide +kernel
theorem d_MD_findBinders_63 : decode b_MD_findBinders 63 = .ok (.iaload, 1) := by decide +kernel
theorem d_MD_findBinders_64 : decode b_MD_findBinders 64 = .ok (.invokestatic 98, 3) := by decide +kernel
theorem d_MD_findBinders_67 : decode b_MD_findBinders 67 = .ok (.ifCond .eq 36, 3) := by decide +kernel
theorem d_MD_findBinders_70 : decode b_MD_findBinders 70 = .ok (.iload 4, 2) := by decide +kernel
theorem d_MD_findBinders_72 : decode b_MD_findBinders 72 = .ok (.aload_n 0, 1) := by decide +kernel
theorem d_MD_findBinders_73 : decode b_MD_findBinders 73 = .ok (.iload 5, 2) := by decide +kernel
theorem d_MD_findBinders_75 : decode b_MD_findBinders 75 = .ok (.invokevirtual 101, 3) := by decide +kernel
theorem d_MD_findBinders_78 : decode b_MD_findBinders 78 = .ok (.if_icmp .ne 25, 3) := by decide +kernel
theorem d_MD_findBinders_81 : decode b_MD_findBinders 81 = .ok (.aload_n 0, 1) := by decide +kernel
theorem d_MD_findBinders_82 : decode b_MD_findBinders 82 = .ok (.getfield 50, 3) := by decide +kernel
theorem d_MD_findBinders_85 : decode b_MD_findBinders 85 = .ok (.iload_n 1, 1) := by decide +kernel
theorem d_MD_findBinders_86 : decode b_MD_findBinders 86 = .ok (.lload_n 2, 1) := by decide +kernel
theorem d_MD_findBinders_87 : decode b_MD_findBinders 87 = .ok (.lconst 0, 1) := by decide +kernel
theorem d_MD_findBinders_88 : decode b_MD_findBinders 88 = .ok (.lcmp, 1) := by decide +kernel
theorem d_MD_findBinders_89 : decode b_MD_findBinders 89 = .ok (.ifCond .ne 8, 3) := by decide +kernel
theorem d_MD_findBinders_92 : decode b_MD_findBinders 92 = .ok (.iload 5, 2) := by decide +kernel
theorem d_MD_findBinders_94 : decode b_MD_findBinders 94 = .ok (.goto 4, 3) := by decide +kernel
theorem d_MD_findBinders_97 : decode b_MD_findBinders 97 = .ok (.iconst (-1), 1) := by decide +kernel
theorem d_MD_findBinders_98 : decode b_MD_findBinders 98 = .ok (.iastore, 1) := by decide +kernel
theorem d_MD_findBinders_99 : decode b_MD_findBinders 99 = .ok (.lload_n 2, 1) := by decide +kernel
theorem d_MD_findBinders_100 : decode b_MD_findBinders 100 = .ok (.lconst 1, 1) := by decide +kernel
theorem d_MD_findBinders_101 : decode b_MD_findBinders 101 = .ok (.lsub, 1) := by decide +kernel
theorem d_MD_findBinders_102 : decode b_MD_findBinders 102 = .ok (.lstore_n 2, 1) := by decide +kernel
theorem d_MD_findBinders_103 : decode b_MD_findBinders 103 = .ok (.iload 5, 2) := by decide +kernel
theorem d_MD_findBinders_105 : decode b_MD_findBinders 105 = .ok (.istore 4, 2) := by decide +kernel
theorem d_MD_findBinders_107 : decode b_MD_findBinders 107 = .ok (.goto (-65), 3) := by decide +kernel
theorem d_MD_findBinders_110 : decode b_MD_findBinders 110 = .ok (.iinc 1 1, 3) := by decide +kernel
theorem d_MD_findBinders_113 : decode b_MD_findBinders 113 = .ok (.goto (-111), 3) := by decide +kernel
theorem d_MD_findBinders_116 : decode b_MD_findBinders 116 = .ok (.return_, 1) := by decide +kernel
theorem d_MD_catches_0 : decode b_MD_catches 0 = .ok (.aload_n 0, 1) := by decide +kernel
theorem d_MD_catches_1 : decode b_MD_catches 1 = .ok (.iload_n 1, 1) := by decide +kernel
theorem d_MD_catches_2 : decode b_MD_catches 2 = .ok (.invokevirtual 101, 3) := by decide +kernel
theorem d_MD_catches_5 : decode b_MD_catches 5 = .ok (.istore 4, 2) := by decide +kernel
theorem d_MD_catches_7 : decode b_MD_catches 7 = .ok (.iload 4, 2) := by decide +kernel
theorem d_MD_catches_9 : decode b_MD_catches 9 = .ok (.iload_n 1, 1) := by decide +kernel
theorem d_MD_catches_10 : decode b_MD_catches 10 = .ok (.aload_n 0, 1) := by decide +kernel
theorem d_MD_catches_11 : decode b_MD_catches 11 = .ok (.getfield 44, 3) := by decide +kernel
theorem d_MD_catches_14 : decode b_MD_catches 14 = .ok (.iload_n 1, 1) := by decide +kernel
theorem d_MD_catches_15 : decode b_MD_catches 15 = .ok (.iaload, 1) := by decide +kernel
theorem d_MD_catches_16 : decode b_MD_catches 16 = .ok (.iadd, 1) := by decide +kernel
theorem d_MD_catches_17 : decode b_MD_catches 17 = .ok (.if_icmp .ge 79, 3) := by decide +kernel
theorem d_MD_catches_20 : decode b_MD_catches 20 = .ok (.aload_n 0, 1) := by decide +kernel
theorem d_MD_catches_21 : decode b_MD_catches 21 = .ok (.getfield 20, 3) := by decide +kernel
theorem d_MD_catches_24 : decode b_MD_catches 24 = .ok (.iload 4, 2) := by decide +kernel
theorem d_MD_catches_26 : decode b_MD_catches 26 = .ok (.iaload, 1) := by decide +kernel
theorem d_MD_catches_27 : decode b_MD_catches 27 = .ok (.bipush 7, 2) := by decide +kernel
theorem d_MD_catches_29 : decode b_MD_catches 29 = .ok (.if_icmp .ne 21, 3) := by decide +kernel
theorem d_MD_catches_32 : decode b_MD_catches 32 = .ok (.aload_n 0, 1) := by decide +kernel
theorem d_MD_catches_33 : decode b_MD_catches 33 = .ok (.getfield 7, 3) := by decide +kernel
theorem d_MD_catches_36 : decode b_MD_catches 36 = .ok (.aload_n 0, 1) := by decide +kernel
theorem d_MD_catches_37 : decode b_MD_catches 37 = .ok (.getfield 23, 3) := by decide +kernel
theorem d_MD_catches_40 : decode b_MD_catches 40 = .ok (.iload 4, 2) := by decide +kernel
theorem d_MD_catches_42 : decode b_MD_catches 42 = .ok (.laload, 1) := by decide +kernel
theorem d_MD_catches_43 : decode b_MD_catches 43 = .ok (.l2i, 1) := by decide +kernel
theorem d_MD_catches_44 : decode b_MD_catches 44 = .ok (.laload, 1) := by decide +kernel
theorem d_MD_catches_45 : decode b_MD_catches 45 = .ok (.lload_n 2, 1) := by decide +kernel
theorem d_MD_catches_46 : decode b_MD_catches 46 = .ok (.lcmp, 1) := by decide +kernel
theorem d_MD_catches_47 : decode b_MD_catches 47 = .ok (.ifCond .eq 41, 3) := by decide +kernel
theorem d_MD_catches_50 : decode b_MD_catches 50 = .ok (.aload_n 0, 1) := by decide +kernel
theorem d_MD_catches_51 : decode b_MD_catches 51 = .ok (.getfield 20, 3) := by decide +kernel
theorem d_MD_catches_54 : decode b_MD_catches 54 = .ok (.iload 4, 2) := by decide +kernel
theorem d_MD_catches_56 : decode b_MD_catches 56 = .ok (.iaload, 1) := by decide +kernel
theorem d_MD_catches_57 : decode b_MD_catches 57 = .ok (.ifCond .ne 33, 3) := by decide +kernel
theorem d_MD_catches_60 : decode b_MD_catches 60 = .ok (.aload_n 0, 1) := by decide +kernel
theorem d_MD_catches_61 : decode b_MD_catches 61 = .ok (.getfield 50, 3) := by decide +kernel
theorem d_MD_catches_64 : decode b_MD_catches 64 = .ok (.iload 4, 2) := by decide +kernel
theorem d_MD_catches_66 : decode b_MD_catches 66 = .ok (.iaload, 1) := by decide +kernel
theorem d_MD_catches_67 : decode b_MD_catches 67 = .ok (.iload_n 1, 1) := by decide +kernel
theorem d_MD_catches_68 : decode b_MD_catches 68 = .ok (.if_icmp .ge 22, 3) := by decide +kernel
theorem d_MD_catches_71 : decode b_MD_catches 71 = .ok (.aload_n 0, 1) := by decide +kernel
theorem d_MD_catches_72 : decode b_MD_catches 72 = .ok (.getfield 35, 3) := by decide +kernel
theorem d_MD_catches_75 : decode b_MD_catches 75 = .ok (.aload_n 0, 1) := by decide +kernel
theorem d_MD_catches_76 : decode b_MD_catches 76 = .ok (.getfield 50, 3) := by decide +kernel
theorem d_MD_catches_79 : decode b_MD_catches 79 = .ok (.iload 4, 2) := by decide +kernel
theorem d_MD_catches_81 : decode b_MD_catches 81 = .ok (.iaload, 1) := by decide +kernel
theorem d_MD_catches_82 : decode b_MD_catches 82 = .ok (.laload, 1) := by decide +kernel
theorem d_MD_catches_83 : decode b_MD_catches 83 = .ok (.lload_n 2, 1) := by decide +kernel
theorem d_MD_catches_84 : decode b_MD_catches 84 = .ok (.lcmp, 1) := by decide +kernel
theorem d_MD_catches_85 : decode b_MD_catches 85 = .ok (.ifCond .ne 5, 3) := by decide +kernel
theorem d_MD_catches_88 : decode b_MD_catches 88 = .ok (.iconst 1, 1) := by decide +kernel
theorem d_MD_catches_89 : decode b_MD_catches 89 = .ok (.ireturn, 1) := by decide +kernel
theorem d_MD_catches_90 : decode b_MD_catches 90 = .ok (.iinc 4 1, 3) := by decide +kernel
theorem d_MD_catches_93 : decode b_MD_catches 93 = .ok (.goto (-86), 3) := by decide +kernel
theorem d_MD_catches_96 : decode b_MD_catches 96 = .ok (.iconst 0, 1) := by decide +kernel
theorem d_MD_catches_97 : decode b_MD_catches 97 = .ok (.ireturn, 1) := by decide +kernel
theorem d_MD_numbered_0 : decode b_MD_numbered 0 = .ok (.lload_n 0, 1) := by decide +kernel
theorem d_MD_numbered_1 : decode b_MD_numbered 1 = .ok (.lstore_n 3, 1) := by decide +kernel
theorem d_MD_numbered_2 : decode b_MD_numbered 2 = .ok (.sipush 1000, 3) := by decide +kernel
theorem d_MD_numbered_5 : decode b_MD_numbered 5 = .ok (.istore 5, 2) := by decide +kernel
theorem d_MD_numbered_7 : decode b_MD_numbered 7 = .ok (.iload 5, 2) := by decide +kernel
theorem d_MD_numbered_9 : decode b_MD_numbered 9 = .ok (.ifCond .le 40, 3) := by decide +kernel
theorem d_MD_numbered_12 : decode b_MD_numbered 12 = .ok (.iload_n 2, 1) := by decide +kernel
theorem d_MD_numbered_13 : decode b_MD_numbered 13 = .ok (.iload 5, 2) := by decide +kernel
theorem d_MD_numbered_15 : decode b_MD_numbered 15 = .ok (.if_icmp .lt 22, 3) := by decide +kernel
theorem d_MD_numbered_18 : decode b_MD_numbered 18 = .ok (.lload_n 3, 1) := by decide +kernel
theorem d_MD_numbered_19 : decode b_MD_numbered 19 = .ok (.bipush 8, 2) := by decide +kernel
theorem d_MD_numbered_21 : decode b_MD_numbered 21 = .ok (.lshl, 1) := by decide +kernel
theorem d_MD_numbered_22 : decode b_MD_numbered 22 = .ok (.bipush 48, 2) := by decide +kernel
theorem d_MD_numbered_24 : decode b_MD_numbered 24 = .ok (.iload_n 2, 1) := by decide +kernel
theorem d_MD_numbered_25 : decode b_MD_numbered 25 = .ok (.iload 5, 2) := by decide +kernel
theorem d_MD_numbered_27 : decode b_MD_numbered 27 = .ok (.idiv, 1) := by decide +kernel
theorem d_MD_numbered_28 : decode b_MD_numbered 28 = .ok (.bipush 10, 2) := by decide +kernel
theorem d_MD_numbered_30 : decode b_MD_numbered 30 = .ok (.irem, 1) := by decide +kernel
theorem d_MD_numbered_31 : decode b_MD_numbered 31 = .ok (.iadd, 1) := by decide +kernel
theorem d_MD_numbered_32 : decode b_MD_numbered 32 = .ok (.i2l, 1) := by decide +kernel
theorem d_MD_numbered_33 : decode b_MD_numbered 33 = .ok (.lor, 1) := by decide +kernel
theorem d_MD_numbered_34 : decode b_MD_numbered 34 = .ok (.goto 4, 3) := by decide +kernel
theorem d_MD_numbered_37 : decode b_MD_numbered 37 = .ok (.lload_n 3, 1) := by decide +kernel
theorem d_MD_numbered_38 : decode b_MD_numbered 38 = .ok (.lstore_n 3, 1) := by decide +kernel
theorem d_MD_numbered_39 : decode b_MD_numbered 39 = .ok (.iload 5, 2) := by decide +kernel
theorem d_MD_numbered_41 : decode b_MD_numbered 41 = .ok (.bipush 10, 2) := by decide +kernel
theorem d_MD_numbered_43 : decode b_MD_numbered 43 = .ok (.idiv, 1) := by decide +kernel
theorem d_MD_numbered_44 : decode b_MD_numbered 44 = .ok (.istore 5, 2) := by decide +kernel
theorem d_MD_numbered_46 : decode b_MD_numbered 46 = .ok (.goto (-39), 3) := by decide +kernel
theorem d_MD_numbered_49 : decode b_MD_numbered 49 = .ok (.lload_n 3, 1) := by decide +kernel
theorem d_MD_numbered_50 : decode b_MD_numbered 50 = .ok (.lreturn, 1) := by decide +kernel
theorem d_MD_write_0 : decode b_MD_write 0 = .ok (.aload_n 0, 1) := by decide +kernel
theorem d_MD_write_1 : decode b_MD_write 1 = .ok (.getfield 53, 3) := by decide +kernel
theorem d_MD_write_4 : decode b_MD_write 4 = .ok (.ifCond .ne 5, 3) := by decide +kernel
theorem d_MD_write_7 : decode b_MD_write 7 = .ok (.iconst (-1), 1) := by decide +kernel
theorem d_MD_write_8 : decode b_MD_write 8 = .ok (.ireturn, 1) := by decide +kernel
end
section
theorem d_MD_write_9 : decode b_MD_write 9 = .ok (.aload_n 0, 1) := by decide +kernel
theorem d_MD_write_10 : decode b_MD_write 10 = .ok (.iconst 0, 1) := by decide +kernel
theorem d_MD_write_11 : decode b_MD_write 11 = .ok (.invokevirtual 113, 3) := by decide +kernel
theorem d_MD_write_14 : decode b_MD_write 14 = .ok (.aload_n 0, 1) := by decide +kernel
theorem d_MD_write_15 : decode b_MD_write 15 = .ok (.invokevirtual 143, 3) := by decide +kernel
theorem d_MD_write_18 : decode b_MD_write 18 = .ok (.iconst 0, 1) := by decide +kernel
theorem d_MD_write_19 : decode b_MD_write 19 = .ok (.istore_n 1, 1) := by decide +kernel
theorem d_MD_write_20 : decode b_MD_write 20 = .ok (.iload_n 1, 1) := by decide +kernel
theorem d_MD_write_21 : decode b_MD_write 21 = .ok (.aload_n 0, 1) := by decide +kernel
theorem d_MD_write_22 : decode b_MD_write 22 = .ok (.getfield 53, 3) := by decide +kernel
theorem d_MD_write_25 : decode b_MD_write 25 = .ok (.if_icmp .ge 211, 3) := by decide +kernel
theorem d_MD_write_28 : decode b_MD_write 28 = .ok (.aload_n 0, 1) := by decide +kernel
theorem d_MD_write_29 : decode b_MD_write 29 = .ok (.getfield 32, 3) := by decide +kernel
theorem d_MD_write_32 : decode b_MD_write 32 = .ok (.iload_n 1, 1) := by decide +kernel
theorem d_MD_write_33 : decode b_MD_write 33 = .ok (.aload_n 0, 1) := by decide +kernel
theorem d_MD_write_34 : decode b_MD_write 34 = .ok (.getfield 20, 3) := by decide +kernel
theorem d_MD_write_37 : decode b_MD_write 37 = .ok (.iload_n 1, 1) := by decide +kernel
theorem d_MD_write_38 : decode b_MD_write 38 = .ok (.iaload, 1) := by decide +kernel
theorem d_MD_write_39 : decode b_MD_write 39 = .ok (.bipush 7, 2) := by decide +kernel
theorem d_MD_write_41 : decode b_MD_write 41 = .ok (.if_icmp .ne 7, 3) := by decide +kernel
theorem d_MD_write_44 : decode b_MD_write 44 = .ok (.iconst 0, 1) := by decide +kernel
theorem d_MD_write_45 : decode b_MD_write 45 = .ok (.goto 9, 3) := by decide +kernel
theorem d_MD_write_48 : decode b_MD_write 48 = .ok (.aload_n 0, 1) := by decide +kernel
theorem d_MD_write_49 : decode b_MD_write 49 = .ok (.getfield 20, 3) := by decide +kernel
theorem d_MD_write_52 : decode b_MD_write 52 = .ok (.iload_n 1, 1) := by decide +kernel
theorem d_MD_write_53 : decode b_MD_write 53 = .ok (.iaload, 1) := by decide +kernel
theorem d_MD_write_54 : decode b_MD_write 54 = .ok (.iastore, 1) := by decide +kernel
theorem d_MD_write_55 : decode b_MD_write 55 = .ok (.aload_n 0, 1) := by decide +kernel
theorem d_MD_write_56 : decode b_MD_write 56 = .ok (.getfield 35, 3) := by decide +kernel
theorem d_MD_write_59 : decode b_MD_write 59 = .ok (.iload_n 1, 1) := by decide +kernel
theorem d_MD_write_60 : decode b_MD_write 60 = .ok (.aload_n 0, 1) := by decide +kernel
theorem d_MD_write_61 : decode b_MD_write 61 = .ok (.getfield 20, 3) := by decide +kernel
theorem d_MD_write_64 : decode b_MD_write 64 = .ok (.iload_n 1, 1) := by decide +kernel
theorem d_MD_write_65 : decode b_MD_write 65 = .ok (.iaload, 1) := by decide +kernel
theorem d_MD_write_66 : decode b_MD_write 66 = .ok (.bipush 7, 2) := by decide +kernel
theorem d_MD_write_68 : decode b_MD_write 68 = .ok (.if_icmp .ne 18, 3) := by decide +kernel
theorem d_MD_write_71 : decode b_MD_write 71 = .ok (.aload_n 0, 1) := by decide +kernel
theorem d_MD_write_72 : decode b_MD_write 72 = .ok (.getfield 7, 3) := by decide +kernel
theorem d_MD_write_75 : decode b_MD_write 75 = .ok (.aload_n 0, 1) := by decide +kernel
theorem d_MD_write_76 : decode b_MD_write 76 = .ok (.getfield 23, 3) := by decide +kernel
theorem d_MD_write_79 : decode b_MD_write 79 = .ok (.iload_n 1, 1) := by decide +kernel
theorem d_MD_write_80 : decode b_MD_write 80 = .ok (.laload, 1) := by decide +kernel
theorem d_MD_write_81 : decode b_MD_write 81 = .ok (.l2i, 1) := by decide +kernel
theorem d_MD_write_82 : decode b_MD_write 82 = .ok (.laload, 1) := by decide +kernel
theorem d_MD_write_83 : decode b_MD_write 83 = .ok (.goto 46, 3) := by decide +kernel
theorem d_MD_write_86 : decode b_MD_write 86 = .ok (.aload_n 0, 1) := by decide +kernel
theorem d_MD_write_87 : decode b_MD_write 87 = .ok (.getfield 20, 3) := by decide +kernel
theorem d_MD_write_90 : decode b_MD_write 90 = .ok (.iload_n 1, 1) := by decide +kernel
theorem d_MD_write_91 : decode b_MD_write 91 = .ok (.iaload, 1) := by decide +kernel
theorem d_MD_write_92 : decode b_MD_write 92 = .ok (.ifCond .ne 17, 3) := by decide +kernel
theorem d_MD_write_95 : decode b_MD_write 95 = .ok (.aload_n 0, 1) := by decide +kernel
theorem d_MD_write_96 : decode b_MD_write 96 = .ok (.getfield 35, 3) := by decide +kernel
theorem d_MD_write_99 : decode b_MD_write 99 = .ok (.aload_n 0, 1) := by decide +kernel
theorem d_MD_write_100 : decode b_MD_write 100 = .ok (.getfield 50, 3) := by decide +kernel
theorem d_MD_write_103 : decode b_MD_write 103 = .ok (.iload_n 1, 1) := by decide +kernel
theorem d_MD_write_104 : decode b_MD_write 104 = .ok (.iaload, 1) := by decide +kernel
theorem d_MD_write_105 : decode b_MD_write 105 = .ok (.laload, 1) := by decide +kernel
theorem d_MD_write_106 : decode b_MD_write 106 = .ok (.goto 23, 3) := by decide +kernel
theorem d_MD_write_109 : decode b_MD_write 109 = .ok (.aload_n 0, 1) := by decide +kernel
theorem d_MD_write_110 : decode b_MD_write 110 = .ok (.getfield 20, 3) := by decide +kernel
theorem d_MD_write_113 : decode b_MD_write 113 = .ok (.iload_n 1, 1) := by decide +kernel
theorem d_MD_write_114 : decode b_MD_write 114 = .ok (.iaload, 1) := by decide +kernel
theorem d_MD_write_115 : decode b_MD_write 115 = .ok (.iconst 5, 1) := by decide +kernel
theorem d_MD_write_116 : decode b_MD_write 116 = .ok (.if_icmp .ne 12, 3) := by decide +kernel
theorem d_MD_write_119 : decode b_MD_write 119 = .ok (.aload_n 0, 1) := by decide +kernel
theorem d_MD_write_120 : decode b_MD_write 120 = .ok (.getfield 23, 3) := by decide +kernel
theorem d_MD_write_123 : decode b_MD_write 123 = .ok (.iload_n 1, 1) := by decide +kernel
theorem d_MD_write_124 : decode b_MD_write 124 = .ok (.laload, 1) := by decide +kernel
theorem d_MD_write_125 : decode b_MD_write 125 = .ok (.goto 4, 3) := by decide +kernel
theorem d_MD_write_128 : decode b_MD_write 128 = .ok (.lconst 0, 1) := by decide +kernel
theorem d_MD_write_129 : decode b_MD_write 129 = .ok (.lastore, 1) := by decide +kernel
theorem d_MD_write_130 : decode b_MD_write 130 = .ok (.aload_n 0, 1) := by decide +kernel
theorem d_MD_write_131 : decode b_MD_write 131 = .ok (.getfield 20, 3) := by decide +kernel
theorem d_MD_write_134 : decode b_MD_write 134 = .ok (.iload_n 1, 1) := by decide +kernel
theorem d_MD_write_135 : decode b_MD_write 135 = .ok (.iaload, 1) := by decide +kernel
theorem d_MD_write_136 : decode b_MD_write 136 = .ok (.invokestatic 98, 3) := by decide +kernel
theorem d_MD_write_139 : decode b_MD_write 139 = .ok (.ifCond .eq 91, 3) := by decide +kernel
theorem d_MD_write_142 : decode b_MD_write 142 = .ok (.aload_n 0, 1) := by decide +kernel
theorem d_MD_write_143 : decode b_MD_write 143 = .ok (.getfield 20, 3) := by decide +kernel
theorem d_MD_write_146 : decode b_MD_write 146 = .ok (.iload_n 1, 1) := by decide +kernel
theorem d_MD_write_147 : decode b_MD_write 147 = .ok (.iaload, 1) := by decide +kernel
theorem d_MD_write_148 : decode b_MD_write 148 = .ok (.iconst 2, 1) := by decide +kernel
theorem d_MD_write_149 : decode b_MD_write 149 = .ok (.if_icmp .ne 22, 3) := by decide +kernel
theorem d_MD_write_152 : decode b_MD_write 152 = .ok (.aload_n 0, 1) := by decide +kernel
theorem d_MD_write_153 : decode b_MD_write 153 = .ok (.iload_n 1, 1) := by decide +kernel
theorem d_MD_write_154 : decode b_MD_write 154 = .ok (.invokevirtual 136, 3) := by decide +kernel
theorem d_MD_write_157 : decode b_MD_write 157 = .ok (.ifCond .ne 14, 3) := by decide +kernel
theorem d_MD_write_160 : decode b_MD_write 160 = .ok (.aload_n 0, 1) := by decide +kernel
theorem d_MD_write_161 : decode b_MD_write 161 = .ok (.getfield 32, 3) := by decide +kernel
theorem d_MD_write_164 : decode b_MD_write 164 = .ok (.iload_n 1, 1) := by decide +kernel
theorem d_MD_write_165 : decode b_MD_write 165 = .ok (.bipush 6, 2) := by decide +kernel
theorem d_MD_write_167 : decode b_MD_write 167 = .ok (.iastore, 1) := by decide +kernel
theorem d_MD_write_168 : decode b_MD_write 168 = .ok (.goto 62, 3) := by decide +kernel
theorem d_MD_write_171 : decode b_MD_write 171 = .ok (.aload_n 0, 1) := by decide +kernel
theorem d_MD_write_172 : decode b_MD_write 172 = .ok (.getfield 23, 3) := by decide +kernel
theorem d_MD_write_175 : decode b_MD_write 175 = .ok (.iload_n 1, 1) := by decide +kernel
theorem d_MD_write_176 : decode b_MD_write 176 = .ok (.laload, 1) := by decide +kernel
theorem d_MD_write_177 : decode b_MD_write 177 = .ok (.lconst 0, 1) := by decide +kernel
theorem d_MD_write_178 : decode b_MD_write 178 = .ok (.lcmp, 1) := by decide +kernel
theorem d_MD_write_179 : decode b_MD_write 179 = .ok (.ifCond .ne 9, 3) := by decide +kernel
theorem d_MD_write_182 : decode b_MD_write 182 = .ok (.ldc2_w 146, 3) := by decide +kernel
theorem d_MD_write_185 : decode b_MD_write 185 = .ok (.goto 9, 3) := by decide +kernel
theorem d_MD_write_188 : decode b_MD_write 188 = .ok (.aload_n 0, 1) := by decide +kernel
theorem d_MD_write_189 : decode b_MD_write 189 = .ok (.getfield 23, 3) := by decide +kernel
theorem d_MD_write_192 : decode b_MD_write 192 = .ok (.iload_n 1, 1) := by decide +kernel
theorem d_MD_write_193 : decode b_MD_write 193 = .ok (.laload, 1) := by decide +kernel
theorem d_MD_write_194 : decode b_MD_write 194 = .ok (.lstore_n 2, 1) := by decide +kernel
theorem d_MD_write_195 : decode b_MD_write 195 = .ok (.iconst 0, 1) := by decide +kernel
theorem d_MD_write_196 : decode b_MD_write 196 = .ok (.istore 4, 2) := by decide +kernel
theorem d_MD_write_198 : decode b_MD_write 198 = .ok (.aload_n 0, 1) := by decide +kernel
theorem d_MD_write_199 : decode b_MD_write 199 = .ok (.iload_n 1, 1) := by decide +kernel
theorem d_MD_write_200 : decode b_MD_write 200 = .ok (.lload_n 2, 1) := by decide +kernel
theorem d_MD_write_201 : decode b_MD_write 201 = .ok (.iload 4, 2) := by decide +kernel
theorem d_MD_write_203 : decode b_MD_write 203 = .ok (.invokestatic 148, 3) := by decide +kernel
theorem d_MD_write_206 : decode b_MD_write 206 = .ok (.invokevirtual 152, 3) := by decide +kernel
theorem d_MD_write_209 : decode b_MD_write 209 = .ok (.ifCond .eq 9, 3) := by decide +kernel
theorem d_MD_write_212 : decode b_MD_write 212 = .ok (.iinc 4 1, 3) := by decide +kernel
theorem d_MD_write_215 : decode b_MD_write 215 = .ok (.goto (-17), 3) := by decide +kernel
theorem d_MD_write_218 : decode b_MD_write 218 = .ok (.aload_n 0, 1) := by decide +kernel
theorem d_MD_write_219 : decode b_MD_write 219 = .ok (.getfield 35, 3) := by decide +kernel
theorem d_MD_write_222 : decode b_MD_write 222 = .ok (.iload_n 1, 1) := by decide +kernel
theorem d_MD_write_223 : decode b_MD_write 223 = .ok (.lload_n 2, 1) := by decide +kernel
theorem d_MD_write_224 : decode b_MD_write 224 = .ok (.iload 4, 2) := by decide +kernel
theorem d_MD_write_226 : decode b_MD_write 226 = .ok (.invokestatic 148, 3) := by decide +kernel
theorem d_MD_write_229 : decode b_MD_write 229 = .ok (.lastore, 1) := by decide +kernel
theorem d_MD_write_230 : decode b_MD_write 230 = .ok (.iinc 1 1, 3) := by decide +kernel
theorem d_MD_write_233 : decode b_MD_write 233 = .ok (.goto (-213), 3) := by decide +kernel
theorem d_MD_write_236 : decode b_MD_write 236 = .ok (.aload_n 0, 1) := by decide +kernel
theorem d_MD_write_237 : decode b_MD_write 237 = .ok (.aload_n 0, 1) := by decide +kernel
theorem d_MD_write_238 : decode b_MD_write 238 = .ok (.getfield 53, 3) := by decide +kernel
theorem d_MD_write_241 : decode b_MD_write 241 = .ok (.putfield 156, 3) := by decide +kernel
theorem d_MD_write_244 : decode b_MD_write 244 = .ok (.aload_n 0, 1) := by decide +kernel
theorem d_MD_write_245 : decode b_MD_write 245 = .ok (.getfield 156, 3) := by decide +kernel
theorem d_MD_write_248 : decode b_MD_write 248 = .ok (.ireturn, 1) := by decide +kernel
theorem d_MD_written_0 : decode b_MD_written 0 = .ok (.iload_n 1, 1) := by decide +kernel
theorem d_MD_written_1 : decode b_MD_written 1 = .ok (.ifCond .lt 20, 3) := by decide +kernel
theorem d_MD_written_4 : decode b_MD_written 4 = .ok (.iload_n 1, 1) := by decide +kernel
theorem d_MD_written_5 : decode b_MD_written 5 = .ok (.aload_n 0, 1) := by decide +kernel
theorem d_MD_written_6 : decode b_MD_written 6 = .ok (.getfield 156, 3) := by decide +kernel
theorem d_MD_written_9 : decode b_MD_written 9 = .ok (.if_icmp .ge 12, 3) := by decide +kernel
theorem d_MD_written_12 : decode b_MD_written 12 = .ok (.iload_n 2, 1) := by decide +kernel
theorem d_MD_written_13 : decode b_MD_written 13 = .ok (.ifCond .lt 8, 3) := by decide +kernel
theorem d_MD_written_16 : decode b_MD_written 16 = .ok (.iload_n 2, 1) := by decide +kernel
theorem d_MD_written_17 : decode b_MD_written 17 = .ok (.iconst 1, 1) := by decide +kernel
theorem d_MD_written_18 : decode b_MD_written 18 = .ok (.if_icmp .le 7, 3) := by decide +kernel
theorem d_MD_written_21 : decode b_MD_written 21 = .ok (.ldc2_w 130, 3) := by decide +kernel
theorem d_MD_written_24 : decode b_MD_written 24 = .ok (.lreturn, 1) := by decide +kernel
theorem d_MD_written_25 : decode b_MD_written 25 = .ok (.iload_n 2, 1) := by decide +kernel
theorem d_MD_written_26 : decode b_MD_written 26 = .ok (.ifCond .ne 13, 3) := by decide +kernel
theorem d_MD_written_29 : decode b_MD_written 29 = .ok (.aload_n 0, 1) := by decide +kernel
theorem d_MD_written_30 : decode b_MD_written 30 = .ok (.getfield 32, 3) := by decide +kernel
theorem d_MD_written_33 : decode b_MD_written 33 = .ok (.iload_n 1, 1) := by decide +kernel
theorem d_MD_written_34 : decode b_MD_written 34 = .ok (.iaload, 1) := by decide +kernel
theorem d_MD_written_35 : decode b_MD_written 35 = .ok (.i2l, 1) := by decide +kernel
theorem d_MD_written_36 : decode b_MD_written 36 = .ok (.goto 9, 3) := by decide +kernel
theorem d_MD_written_39 : decode b_MD_written 39 = .ok (.aload_n 0, 1) := by decide +kernel
theorem d_MD_written_40 : decode b_MD_written 40 = .ok (.getfield 35, 3) := by decide +kernel
theorem d_MD_written_43 : decode b_MD_written 43 = .ok (.iload_n 1, 1) := by decide +kernel
theorem d_MD_written_44 : decode b_MD_written 44 = .ok (.laload, 1) := by decide +kernel
theorem d_MD_written_45 : decode b_MD_written 45 = .ok (.lreturn, 1) := by decide +kernel
theorem d_MD_again_0 : decode b_MD_again 0 = .ok (.aload_n 0, 1) := by decide +kernel
theorem d_MD_again_1 : decode b_MD_again 1 = .ok (.aload_n 0, 1) := by decide +kernel
theorem d_MD_again_2 : decode b_MD_again 2 = .ok (.getfield 156, 3) := by decide +kernel
theorem d_MD_again_5 : decode b_MD_again 5 = .ok (.putfield 83, 3) := by decide +kernel
theorem d_MD_again_8 : decode b_MD_again 8 = .ok (.iconst 0, 1) := by decide +kernel
theorem d_MD_again_9 : decode b_MD_again 9 = .ok (.istore_n 1, 1) := by decide +kernel
theorem d_MD_again_10 : decode b_MD_again 10 = .ok (.iload_n 1, 1) := by decide +kernel
theorem d_MD_again_11 : decode b_MD_again 11 = .ok (.aload_n 0, 1) := by decide +kernel
theorem d_MD_again_12 : decode b_MD_again 12 = .ok (.getfield 156, 3) := by decide +kernel
theorem d_MD_again_15 : decode b_MD_again 15 = .ok (.if_icmp .ge 33, 3) := by decide +kernel
theorem d_MD_again_18 : decode b_MD_again 18 = .ok (.aload_n 0, 1) := by decide +kernel
theorem d_MD_again_19 : decode b_MD_again 19 = .ok (.getfield 13, 3) := by decide +kernel
theorem d_MD_again_22 : decode b_MD_again 22 = .ok (.iload_n 1, 1) := by decide +kernel
theorem d_MD_again_23 : decode b_MD_again 23 = .ok (.aload_n 0, 1) := by decide +kernel
theorem d_MD_again_24 : decode b_MD_again 24 = .ok (.getfield 32, 3) := by decide +kernel
theorem d_MD_again_27 : decode b_MD_again 27 = .ok (.iload_n 1, 1) := by decide +kernel
theorem d_MD_again_28 : decode b_MD_again 28 = .ok (.iaload, 1) := by decide +kernel
theorem d_MD_again_29 : decode b_MD_again 29 = .ok (.iastore, 1) := by decide +kernel
theorem d_MD_again_30 : decode b_MD_again 30 = .ok (.aload_n 0, 1) := by decide +kernel
theorem d_MD_again_31 : decode b_MD_again 31 = .ok (.getfield 17, 3) := by decide +kernel
theorem d_MD_again_34 : decode b_MD_again 34 = .ok (.iload_n 1, 1) := by decide +kernel
theorem d_MD_again_35 : decode b_MD_again 35 = .ok (.aload_n 0, 1) := by decide +kernel
theorem d_MD_again_36 : decode b_MD_again 36 = .ok (.getfield 35, 3) := by decide +kernel
theorem d_MD_again_39 : decode b_MD_again 39 = .ok (.iload_n 1, 1) := by decide +kernel
theorem d_MD_again_40 : decode b_MD_again 40 = .ok (.laload, 1) := by decide +kernel
theorem d_MD_again_41 : decode b_MD_again 41 = .ok (.lastore, 1) := by decide +kernel
theorem d_MD_again_42 : decode b_MD_again 42 = .ok (.iinc 1 1, 3) := by decide +kernel
theorem d_MD_again_45 : decode b_MD_again 45 = .ok (.goto (-35), 3) := by decide +kernel
theorem d_MD_again_48 : decode b_MD_again 48 = .ok (.aload_n 0, 1) := by decide +kernel
theorem d_MD_again_49 : decode b_MD_again 49 = .ok (.getfield 83, 3) := by decide +kernel
theorem d_MD_again_52 : decode b_MD_again 52 = .ok (.ireturn, 1) := by decide +kernel
theorem d_MD_keep_0 : decode b_MD_keep 0 = .ok (.aload_n 0, 1) := by decide +kernel
theorem d_MD_keep_1 : decode b_MD_keep 1 = .ok (.aload_n 0, 1) := by decide +kernel
theorem d_MD_keep_2 : decode b_MD_keep 2 = .ok (.getfield 53, 3) := by decide +kernel
theorem d_MD_keep_5 : decode b_MD_keep 5 = .ok (.putfield 159, 3) := by decide +kernel
theorem d_MD_keep_8 : decode b_MD_keep 8 = .ok (.iconst 0, 1) := by decide +kernel
theorem d_MD_keep_9 : decode b_MD_keep 9 = .ok (.istore_n 1, 1) := by decide +kernel
theorem d_MD_keep_10 : decode b_MD_keep 10 = .ok (.iload_n 1, 1) := by decide +kernel
theorem d_MD_keep_11 : decode b_MD_keep 11 = .ok (.aload_n 0, 1) := by decide +kernel
theorem d_MD_keep_12 : decode b_MD_keep 12 = .ok (.getfield 53, 3) := by decide +kernel
theorem d_MD_keep_15 : decode b_MD_keep 15 = .ok (.if_icmp .ge 33, 3) := by decide +kernel
theorem d_MD_keep_18 : decode b_MD_keep 18 = .ok (.aload_n 0, 1) := by decide +kernel
theorem d_MD_keep_19 : decode b_MD_keep 19 = .ok (.getfield 26, 3) := by decide +kernel
theorem d_MD_keep_22 : decode b_MD_keep 22 = .ok (.iload_n 1, 1) := by decide +kernel
theorem d_MD_keep_23 : decode b_MD_keep 23 = .ok (.aload_n 0, 1) := by decide +kernel
theorem d_MD_keep_24 : decode b_MD_keep 24 = .ok (.getfield 20, 3) := by decide +kernel
theorem d_MD_keep_27 : decode b_MD_keep 27 = .ok (.iload_n 1, 1) := by decide +kernel
theorem d_MD_keep_28 : decode b_MD_keep 28 = .ok (.iaload, 1) := by decide +kernel
theorem d_MD_keep_29 : decode b_MD_keep 29 = .ok (.iastore, 1) := by decide +kernel
theorem d_MD_keep_30 : decode b_MD_keep 30 = .ok (.aload_n 0, 1) := by decide +kernel
theorem d_MD_keep_31 : decode b_MD_keep 31 = .ok (.getfield 29, 3) := by decide +kernel
theorem d_MD_keep_34 : decode b_MD_keep 34 = .ok (.iload_n 1, 1) := by decide +kernel
theorem d_MD_keep_35 : decode b_MD_keep 35 = .ok (.aload_n 0, 1) := by decide +kernel
theorem d_MD_keep_36 : decode b_MD_keep 36 = .ok (.getfield 23, 3) := by decide +kernel
theorem d_MD_keep_39 : decode b_MD_keep 39 = .ok (.iload_n 1, 1) := by decide +kernel
theorem d_MD_keep_40 : decode b_MD_keep 40 = .ok (.laload, 1) := by decide +kernel
theorem d_MD_keep_41 : decode b_MD_keep 41 = .ok (.lastore, 1) := by decide +kernel
theorem d_MD_keep_42 : decode b_MD_keep 42 = .ok (.iinc 1 1, 3) := by decide +kernel
theorem d_MD_keep_45 : decode b_MD_keep 45 = .ok (.goto (-35), 3) := by decide +kernel
theorem d_MD_keep_48 : decode b_MD_keep 48 = .ok (.aload_n 0, 1) := by decide +kernel
theorem d_MD_keep_49 : decode b_MD_keep 49 = .ok (.getfield 159, 3) := by decide +kernel
theorem d_MD_keep_52 : decode b_MD_keep 52 = .ok (.ireturn, 1) := by decide +kernel
theorem d_MD_same_0 : decode b_MD_same 0 = .ok (.aload_n 0, 1) := by decide +kernel
theorem d_MD_same_1 : decode b_MD_same 1 = .ok (.getfield 53, 3) := by decide +kernel
theorem d_MD_same_4 : decode b_MD_same 4 = .ok (.aload_n 0, 1) := by decide +kernel
theorem d_MD_same_5 : decode b_MD_same 5 = .ok (.getfield 159, 3) := by decide +kernel
theorem d_MD_same_8 : decode b_MD_same 8 = .ok (.if_icmp .ne 7, 3) := by decide +kernel
theorem d_MD_same_11 : decode b_MD_same 11 = .ok (.iconst 1, 1) := by decide +kernel
theorem d_MD_same_12 : decode b_MD_same 12 = .ok (.goto 4, 3) := by decide +kernel
theorem d_MD_same_15 : decode b_MD_same 15 = .ok (.iconst 0, 1) := by decide +kernel
theorem d_MD_same_16 : decode b_MD_same 16 = .ok (.istore_n 1, 1) := by decide +kernel
theorem d_MD_same_17 : decode b_MD_same 17 = .ok (.iconst 0, 1) := by decide +kernel
theorem d_MD_same_18 : decode b_MD_same 18 = .ok (.istore_n 2, 1) := by decide +kernel
theorem d_MD_same_19 : decode b_MD_same 19 = .ok (.iload_n 2, 1) := by decide +kernel
theorem d_MD_same_20 : decode b_MD_same 20 = .ok (.aload_n 0, 1) := by decide +kernel
theorem d_MD_same_21 : decode b_MD_same 21 = .ok (.getfield 53, 3) := by decide +kernel
theorem d_MD_same_24 : decode b_MD_same 24 = .ok (.if_icmp .ge 62, 3) := by decide +kernel
theorem d_MD_same_27 : decode b_MD_same 27 = .ok (.iload_n 1, 1) := by decide +kernel
theorem d_MD_same_28 : decode b_MD_same 28 = .ok (.ifCond .eq 58, 3) := by decide +kernel
theorem d_MD_same_31 : decode b_MD_same 31 = .ok (.aload_n 0, 1) := by decide +kernel
theorem d_MD_same_32 : decode b_MD_same 32 = .ok (.getfield 20, 3) := by decide +kernel
theorem d_MD_same_35 : decode b_MD_same 35 = .ok (.iload_n 2, 1) := by decide +kernel
theorem d_MD_same_36 : decode b_MD_same 36 = .ok (.iaload, 1) := by decide +kernel
theorem d_MD_same_37 : decode b_MD_same 37 = .ok (.aload_n 0, 1) := by decide +kernel
theorem d_MD_same_38 : decode b_MD_same 38 = .ok (.getfield 26, 3) := by decide +kernel
theorem d_MD_same_41 : decode b_MD_same 41 = .ok (.iload_n 2, 1) := by decide +kernel
theorem d_MD_same_42 : decode b_MD_same 42 = .ok (.iaload, 1) := by decide +kernel
theorem d_MD_same_43 : decode b_MD_same 43 = .ok (.if_icmp .ne 35, 3) := by decide +kernel
theorem d_MD_same_46 : decode b_MD_same 46 = .ok (.aload_n 0, 1) := by decide +kernel
theorem d_MD_same_47 : decode b_MD_same 47 = .ok (.getfield 20, 3) := by decide +kernel
theorem d_MD_same_50 : decode b_MD_same 50 = .ok (.iload_n 2, 1) := by decide +kernel
theorem d_MD_same_51 : decode b_MD_same 51 = .ok (.iaload, 1) := by decide +kernel
theorem d_MD_same_52 : decode b_MD_same 52 = .ok (.invokestatic 98, 3) := by decide +kernel
theorem d_MD_same_55 : decode b_MD_same 55 = .ok (.ifCond .ne 19, 3) := by decide +kernel
theorem d_MD_same_58 : decode b_MD_same 58 = .ok (.aload_n 0, 1) := by decide +kernel
theorem d_MD_same_59 : decode b_MD_same 59 = .ok (.getfield 23, 3) := by decide +kernel
theorem d_MD_same_62 : decode b_MD_same 62 = .ok (.iload_n 2, 1) := by decide +kernel
theorem d_MD_same_63 : decode b_MD_same 63 = .ok (.laload, 1) := by decide +kernel
theorem d_MD_same_64 : decode b_MD_same 64 = .ok (.aload_n 0, 1) := by decide +kernel
theorem d_MD_same_65 : decode b_MD_same 65 = .ok (.getfield 29, 3) := by decide +kernel
theorem d_MD_same_68 : decode b_MD_same 68 = .ok (.iload_n 2, 1) := by decide +kernel
theorem d_MD_same_69 : decode b_MD_same 69 = .ok (.laload, 1) := by decide +kernel
theorem d_MD_same_70 : decode b_MD_same 70 = .ok (.lcmp, 1) := by decide +kernel
theorem d_MD_same_71 : decode b_MD_same 71 = .ok (.ifCond .ne 7, 3) := by decide +kernel
theorem d_MD_same_74 : decode b_MD_same 74 = .ok (.iconst 1, 1) := by decide +kernel
theorem d_MD_same_75 : decode b_MD_same 75 = .ok (.goto 4, 3) := by decide +kernel
theorem d_MD_same_78 : decode b_MD_same 78 = .ok (.iconst 0, 1) := by decide +kernel
theorem d_MD_same_79 : decode b_MD_same 79 = .ok (.istore_n 1, 1) := by decide +kernel
theorem d_MD_same_80 : decode b_MD_same 80 = .ok (.iinc 2 1, 3) := by decide +kernel
theorem d_MD_same_83 : decode b_MD_same 83 = .ok (.goto (-64), 3) := by decide +kernel
theorem d_MD_same_86 : decode b_MD_same 86 = .ok (.iload_n 1, 1) := by decide +kernel
theorem d_MD_same_87 : decode b_MD_same 87 = .ok (.ireturn, 1) := by decide +kernel
end
section
theorem d_NM_canBeGiven_0 : decode b_NM_canBeGiven 0 = .ok (.lload_n 0, 1) := by decide +kernel
theorem d_NM_canBeGiven_1 : decode b_NM_canBeGiven 1 = .ok (.lconst 0, 1) := by decide +kernel
theorem d_NM_canBeGiven_2 : decode b_NM_canBeGiven 2 = .ok (.lcmp, 1) := by decide +kernel
theorem d_NM_canBeGiven_3 : decode b_NM_canBeGiven 3 = .ok (.ifCond .le 12, 3) := by decide +kernel
theorem d_NM_canBeGiven_6 : decode b_NM_canBeGiven 6 = .ok (.lload_n 0, 1) := by decide +kernel
theorem d_NM_canBeGiven_7 : decode b_NM_canBeGiven 7 = .ok (.bipush 32, 2) := by decide +kernel
theorem d_NM_canBeGiven_9 : decode b_NM_canBeGiven 9 = .ok (.lushr, 1) := by decide +kernel
theorem d_NM_canBeGiven_10 : decode b_NM_canBeGiven 10 = .ok (.lconst 0, 1) := by decide +kernel
theorem d_NM_canBeGiven_11 : decode b_NM_canBeGiven 11 = .ok (.lcmp, 1) := by decide +kernel
theorem d_NM_canBeGiven_12 : decode b_NM_canBeGiven 12 = .ok (.ifCond .eq 5, 3) := by decide +kernel
theorem d_NM_canBeGiven_15 : decode b_NM_canBeGiven 15 = .ok (.iconst 0, 1) := by decide +kernel
theorem d_NM_canBeGiven_16 : decode b_NM_canBeGiven 16 = .ok (.ireturn, 1) := by decide +kernel
theorem d_NM_canBeGiven_17 : decode b_NM_canBeGiven 17 = .ok (.lload_n 0, 1) := by decide +kernel
theorem d_NM_canBeGiven_18 : decode b_NM_canBeGiven 18 = .ok (.lstore_n 2, 1) := by decide +kernel
theorem d_NM_canBeGiven_19 : decode b_NM_canBeGiven 19 = .ok (.iconst 0, 1) := by decide +kernel
theorem d_NM_canBeGiven_20 : decode b_NM_canBeGiven 20 = .ok (.istore 4, 2) := by decide +kernel
theorem d_NM_canBeGiven_22 : decode b_NM_canBeGiven 22 = .ok (.iload 4, 2) := by decide +kernel
theorem d_NM_canBeGiven_24 : decode b_NM_canBeGiven 24 = .ok (.iconst 4, 1) := by decide +kernel
theorem d_NM_canBeGiven_25 : decode b_NM_canBeGiven 25 = .ok (.if_icmp .ge 86, 3) := by decide +kernel
theorem d_NM_canBeGiven_28 : decode b_NM_canBeGiven 28 = .ok (.lload_n 2, 1) := by decide +kernel
theorem d_NM_canBeGiven_29 : decode b_NM_canBeGiven 29 = .ok (.lconst 0, 1) := by decide +kernel
theorem d_NM_canBeGiven_30 : decode b_NM_canBeGiven 30 = .ok (.lcmp, 1) := by decide +kernel
theorem d_NM_canBeGiven_31 : decode b_NM_canBeGiven 31 = .ok (.ifCond .eq 80, 3) := by decide +kernel
theorem d_NM_canBeGiven_34 : decode b_NM_canBeGiven 34 = .ok (.lload_n 2, 1) := by decide +kernel
theorem d_NM_canBeGiven_35 : decode b_NM_canBeGiven 35 = .ok (.ldc2_w 9, 3) := by decide +kernel
theorem d_NM_canBeGiven_38 : decode b_NM_canBeGiven 38 = .ok (.land, 1) := by decide +kernel
theorem d_NM_canBeGiven_39 : decode b_NM_canBeGiven 39 = .ok (.lstore 5, 2) := by decide +kernel
theorem d_NM_canBeGiven_41 : decode b_NM_canBeGiven 41 = .ok (.lload_n 2, 1) := by decide +kernel
theorem d_NM_canBeGiven_42 : decode b_NM_canBeGiven 42 = .ok (.lload 5, 2) := by decide +kernel
theorem d_NM_canBeGiven_44 : decode b_NM_canBeGiven 44 = .ok (.lcmp, 1) := by decide +kernel
theorem d_NM_canBeGiven_45 : decode b_NM_canBeGiven 45 = .ok (.ifCond .ne 7, 3) := by decide +kernel
theorem d_NM_canBeGiven_48 : decode b_NM_canBeGiven 48 = .ok (.iconst 1, 1) := by decide +kernel
theorem d_NM_canBeGiven_49 : decode b_NM_canBeGiven 49 = .ok (.goto 4, 3) := by decide +kernel
theorem d_NM_canBeGiven_52 : decode b_NM_canBeGiven 52 = .ok (.iconst 0, 1) := by decide +kernel
theorem d_NM_canBeGiven_53 : decode b_NM_canBeGiven 53 = .ok (.istore 7, 2) := by decide +kernel
theorem d_NM_canBeGiven_55 : decode b_NM_canBeGiven 55 = .ok (.lload 5, 2) := by decide +kernel
theorem d_NM_canBeGiven_57 : decode b_NM_canBeGiven 57 = .ok (.ldc2_w 11, 3) := by decide +kernel
theorem d_NM_canBeGiven_60 : decode b_NM_canBeGiven 60 = .ok (.lcmp, 1) := by decide +kernel
theorem d_NM_canBeGiven_61 : decode b_NM_canBeGiven 61 = .ok (.ifCond .lt 16, 3) := by decide +kernel
theorem d_NM_canBeGiven_64 : decode b_NM_canBeGiven 64 = .ok (.lload 5, 2) := by decide +kernel
theorem d_NM_canBeGiven_66 : decode b_NM_canBeGiven 66 = .ok (.ldc2_w 13, 3) := by decide +kernel
theorem d_NM_canBeGiven_69 : decode b_NM_canBeGiven 69 = .ok (.lcmp, 1) := by decide +kernel
theorem d_NM_canBeGiven_70 : decode b_NM_canBeGiven 70 = .ok (.ifCond .gt 7, 3) := by decide +kernel
theorem d_NM_canBeGiven_73 : decode b_NM_canBeGiven 73 = .ok (.iconst 1, 1) := by decide +kernel
theorem d_NM_canBeGiven_74 : decode b_NM_canBeGiven 74 = .ok (.goto 4, 3) := by decide +kernel
theorem d_NM_canBeGiven_77 : decode b_NM_canBeGiven 77 = .ok (.iconst 0, 1) := by decide +kernel
theorem d_NM_canBeGiven_78 : decode b_NM_canBeGiven 78 = .ok (.istore 8, 2) := by decide +kernel
theorem d_NM_canBeGiven_80 : decode b_NM_canBeGiven 80 = .ok (.iload 8, 2) := by decide +kernel
theorem d_NM_canBeGiven_82 : decode b_NM_canBeGiven 82 = .ok (.ifCond .ne 18, 3) := by decide +kernel
theorem d_NM_canBeGiven_85 : decode b_NM_canBeGiven 85 = .ok (.iload 7, 2) := by decide +kernel
theorem d_NM_canBeGiven_87 : decode b_NM_canBeGiven 87 = .ok (.ifCond .ne 11, 3) := by decide +kernel
theorem d_NM_canBeGiven_90 : decode b_NM_canBeGiven 90 = .ok (.lload 5, 2) := by decide +kernel
theorem d_NM_canBeGiven_92 : decode b_NM_canBeGiven 92 = .ok (.invokestatic 15, 3) := by decide +kernel
theorem d_NM_canBeGiven_95 : decode b_NM_canBeGiven 95 = .ok (.ifCond .ne 5, 3) := by decide +kernel
theorem d_NM_canBeGiven_98 : decode b_NM_canBeGiven 98 = .ok (.iconst 0, 1) := by decide +kernel
theorem d_NM_canBeGiven_99 : decode b_NM_canBeGiven 99 = .ok (.ireturn, 1) := by decide +kernel
theorem d_NM_canBeGiven_100 : decode b_NM_canBeGiven 100 = .ok (.lload_n 2, 1) := by decide +kernel
theorem d_NM_canBeGiven_101 : decode b_NM_canBeGiven 101 = .ok (.bipush 8, 2) := by decide +kernel
theorem d_NM_canBeGiven_103 : decode b_NM_canBeGiven 103 = .ok (.lushr, 1) := by decide +kernel
theorem d_NM_canBeGiven_104 : decode b_NM_canBeGiven 104 = .ok (.lstore_n 2, 1) := by decide +kernel
theorem d_NM_canBeGiven_105 : decode b_NM_canBeGiven 105 = .ok (.iinc 4 1, 3) := by decide +kernel
theorem d_NM_canBeGiven_108 : decode b_NM_canBeGiven 108 = .ok (.goto (-86), 3) := by decide +kernel
theorem d_NM_canBeGiven_111 : decode b_NM_canBeGiven 111 = .ok (.iconst 1, 1) := by decide +kernel
theorem d_NM_canBeGiven_112 : decode b_NM_canBeGiven 112 = .ok (.ireturn, 1) := by decide +kernel
theorem d_NM_firstFour_0 : decode b_NM_firstFour 0 = .ok (.lload_n 0, 1) := by decide +kernel
theorem d_NM_firstFour_1 : decode b_NM_firstFour 1 = .ok (.lstore_n 2, 1) := by decide +kernel
theorem d_NM_firstFour_2 : decode b_NM_firstFour 2 = .ok (.iconst 4, 1) := by decide +kernel
theorem d_NM_firstFour_3 : decode b_NM_firstFour 3 = .ok (.istore 4, 2) := by decide +kernel
theorem d_NM_firstFour_5 : decode b_NM_firstFour 5 = .ok (.iload 4, 2) := by decide +kernel
theorem d_NM_firstFour_7 : decode b_NM_firstFour 7 = .ok (.bipush 8, 2) := by decide +kernel
theorem d_NM_firstFour_9 : decode b_NM_firstFour 9 = .ok (.if_icmp .ge 23, 3) := by decide +kernel
theorem d_NM_firstFour_12 : decode b_NM_firstFour 12 = .ok (.lload_n 2, 1) := by decide +kernel
theorem d_NM_firstFour_13 : decode b_NM_firstFour 13 = .ok (.bipush 32, 2) := by decide +kernel
theorem d_NM_firstFour_15 : decode b_NM_firstFour 15 = .ok (.lushr, 1) := by decide +kernel
theorem d_NM_firstFour_16 : decode b_NM_firstFour 16 = .ok (.lconst 0, 1) := by decide +kernel
theorem d_NM_firstFour_17 : decode b_NM_firstFour 17 = .ok (.lcmp, 1) := by decide +kernel
theorem d_NM_firstFour_18 : decode b_NM_firstFour 18 = .ok (.ifCond .eq 14, 3) := by decide +kernel
theorem d_NM_firstFour_21 : decode b_NM_firstFour 21 = .ok (.lload_n 2, 1) := by decide +kernel
theorem d_NM_firstFour_22 : decode b_NM_firstFour 22 = .ok (.bipush 8, 2) := by decide +kernel
theorem d_NM_firstFour_24 : decode b_NM_firstFour 24 = .ok (.lushr, 1) := by decide +kernel
theorem d_NM_firstFour_25 : decode b_NM_firstFour 25 = .ok (.lstore_n 2, 1) := by decide +kernel
theorem d_NM_firstFour_26 : decode b_NM_firstFour 26 = .ok (.iinc 4 1, 3) := by decide +kernel
theorem d_NM_firstFour_29 : decode b_NM_firstFour 29 = .ok (.goto (-24), 3) := by decide +kernel
theorem d_NM_firstFour_32 : decode b_NM_firstFour 32 = .ok (.lload_n 2, 1) := by decide +kernel
theorem d_NM_firstFour_33 : decode b_NM_firstFour 33 = .ok (.lreturn, 1) := by decide +kernel
theorem d_NM_numbered_0 : decode b_NM_numbered 0 = .ok (.lload_n 0, 1) := by decide +kernel
theorem d_NM_numbered_1 : decode b_NM_numbered 1 = .ok (.lstore_n 3, 1) := by decide +kernel
theorem d_NM_numbered_2 : decode b_NM_numbered 2 = .ok (.sipush 1000, 3) := by decide +kernel
theorem d_NM_numbered_5 : decode b_NM_numbered 5 = .ok (.istore 5, 2) := by decide +kernel
theorem d_NM_numbered_7 : decode b_NM_numbered 7 = .ok (.iload 5, 2) := by decide +kernel
theorem d_NM_numbered_9 : decode b_NM_numbered 9 = .ok (.ifCond .le 36, 3) := by decide +kernel
theorem d_NM_numbered_12 : decode b_NM_numbered 12 = .ok (.iload_n 2, 1) := by decide +kernel
theorem d_NM_numbered_13 : decode b_NM_numbered 13 = .ok (.iload 5, 2) := by decide +kernel
theorem d_NM_numbered_15 : decode b_NM_numbered 15 = .ok (.if_icmp .lt 20, 3) := by decide +kernel
theorem d_NM_numbered_18 : decode b_NM_numbered 18 = .ok (.lload_n 3, 1) := by decide +kernel
theorem d_NM_numbered_19 : decode b_NM_numbered 19 = .ok (.bipush 8, 2) := by decide +kernel
theorem d_NM_numbered_21 : decode b_NM_numbered 21 = .ok (.lshl, 1) := by decide +kernel
theorem d_NM_numbered_22 : decode b_NM_numbered 22 = .ok (.bipush 48, 2) := by decide +kernel
theorem d_NM_numbered_24 : decode b_NM_numbered 24 = .ok (.iload_n 2, 1) := by decide +kernel
theorem d_NM_numbered_25 : decode b_NM_numbered 25 = .ok (.iload 5, 2) := by decide +kernel
theorem d_NM_numbered_27 : decode b_NM_numbered 27 = .ok (.idiv, 1) := by decide +kernel
theorem d_NM_numbered_28 : decode b_NM_numbered 28 = .ok (.bipush 10, 2) := by decide +kernel
theorem d_NM_numbered_30 : decode b_NM_numbered 30 = .ok (.irem, 1) := by decide +kernel
theorem d_NM_numbered_31 : decode b_NM_numbered 31 = .ok (.iadd, 1) := by decide +kernel
theorem d_NM_numbered_32 : decode b_NM_numbered 32 = .ok (.i2l, 1) := by decide +kernel
theorem d_NM_numbered_33 : decode b_NM_numbered 33 = .ok (.lor, 1) := by decide +kernel
theorem d_NM_numbered_34 : decode b_NM_numbered 34 = .ok (.lstore_n 3, 1) := by decide +kernel
theorem d_NM_numbered_35 : decode b_NM_numbered 35 = .ok (.iload 5, 2) := by decide +kernel
theorem d_NM_numbered_37 : decode b_NM_numbered 37 = .ok (.bipush 10, 2) := by decide +kernel
theorem d_NM_numbered_39 : decode b_NM_numbered 39 = .ok (.idiv, 1) := by decide +kernel
theorem d_NM_numbered_40 : decode b_NM_numbered 40 = .ok (.istore 5, 2) := by decide +kernel
theorem d_NM_numbered_42 : decode b_NM_numbered 42 = .ok (.goto (-35), 3) := by decide +kernel
theorem d_NM_numbered_45 : decode b_NM_numbered 45 = .ok (.lload_n 3, 1) := by decide +kernel
theorem d_NM_numbered_46 : decode b_NM_numbered 46 = .ok (.lreturn, 1) := by decide +kernel
theorem d_NM_numberBehind_0 : decode b_NM_numberBehind 0 = .ok (.lload_n 2, 1) := by decide +kernel
theorem d_NM_numberBehind_1 : decode b_NM_numberBehind 1 = .ok (.lstore 4, 2) := by decide +kernel
theorem d_NM_numberBehind_3 : decode b_NM_numberBehind 3 = .ok (.iconst 0, 1) := by decide +kernel
theorem d_NM_numberBehind_4 : decode b_NM_numberBehind 4 = .ok (.istore 6, 2) := by decide +kernel
theorem d_NM_numberBehind_6 : decode b_NM_numberBehind 6 = .ok (.iconst 1, 1) := by decide +kernel
theorem d_NM_numberBehind_7 : decode b_NM_numberBehind 7 = .ok (.istore 7, 2) := by decide +kernel
theorem d_NM_numberBehind_9 : decode b_NM_numberBehind 9 = .ok (.iconst 1, 1) := by decide +kernel
theorem d_NM_numberBehind_10 : decode b_NM_numberBehind 10 = .ok (.istore 8, 2) := by decide +kernel
theorem d_NM_numberBehind_12 : decode b_NM_numberBehind 12 = .ok (.iload 8, 2) := by decide +kernel
theorem d_NM_numberBehind_14 : decode b_NM_numberBehind 14 = .ok (.bipush 8, 2) := by decide +kernel
theorem d_NM_numberBehind_16 : decode b_NM_numberBehind 16 = .ok (.if_icmp .ge 79, 3) := by decide +kernel
theorem d_NM_numberBehind_19 : decode b_NM_numberBehind 19 = .ok (.lload 4, 2) := by decide +kernel
theorem d_NM_numberBehind_21 : decode b_NM_numberBehind 21 = .ok (.ldc2_w 9, 3) := by decide +kernel
theorem d_NM_numberBehind_24 : decode b_NM_numberBehind 24 = .ok (.land, 1) := by decide +kernel
theorem d_NM_numberBehind_25 : decode b_NM_numberBehind 25 = .ok (.lstore 9, 2) := by decide +kernel
theorem d_NM_numberBehind_27 : decode b_NM_numberBehind 27 = .ok (.lload 9, 2) := by decide +kernel
theorem d_NM_numberBehind_29 : decode b_NM_numberBehind 29 = .ok (.invokestatic 15, 3) := by decide +kernel
theorem d_NM_numberBehind_32 : decode b_NM_numberBehind 32 = .ok (.ifCond .ne 5, 3) := by decide +kernel
theorem d_NM_numberBehind_35 : decode b_NM_numberBehind 35 = .ok (.iconst 0, 1) := by decide +kernel
theorem d_NM_numberBehind_36 : decode b_NM_numberBehind 36 = .ok (.ireturn, 1) := by decide +kernel
theorem d_NM_numberBehind_37 : decode b_NM_numberBehind 37 = .ok (.iload 6, 2) := by decide +kernel
theorem d_NM_numberBehind_39 : decode b_NM_numberBehind 39 = .ok (.iload 7, 2) := by decide +kernel
theorem d_NM_numberBehind_41 : decode b_NM_numberBehind 41 = .ok (.lload 9, 2) := by decide +kernel
theorem d_NM_numberBehind_43 : decode b_NM_numberBehind 43 = .ok (.ldc2_w 19, 3) := by decide +kernel
theorem d_NM_numberBehind_46 : decode b_NM_numberBehind 46 = .ok (.lsub, 1) := by decide +kernel
theorem d_NM_numberBehind_47 : decode b_NM_numberBehind 47 = .ok (.l2i, 1) := by decide +kernel
theorem d_NM_numberBehind_48 : decode b_NM_numberBehind 48 = .ok (.imul, 1) := by decide +kernel
theorem d_NM_numberBehind_49 : decode b_NM_numberBehind 49 = .ok (.iadd, 1) := by decide +kernel
theorem d_NM_numberBehind_50 : decode b_NM_numberBehind 50 = .ok (.istore 6, 2) := by decide +kernel
theorem d_NM_numberBehind_52 : decode b_NM_numberBehind 52 = .ok (.iload 7, 2) := by decide +kernel
theorem d_NM_numberBehind_54 : decode b_NM_numberBehind 54 = .ok (.bipush 10, 2) := by decide +kernel
theorem d_NM_numberBehind_56 : decode b_NM_numberBehind 56 = .ok (.imul, 1) := by decide +kernel
theorem d_NM_numberBehind_57 : decode b_NM_numberBehind 57 = .ok (.istore 7, 2) := by decide +kernel
theorem d_NM_numberBehind_59 : decode b_NM_numberBehind 59 = .ok (.lload 4, 2) := by decide +kernel
theorem d_NM_numberBehind_61 : decode b_NM_numberBehind 61 = .ok (.bipush 8, 2) := by decide +kernel
theorem d_NM_numberBehind_63 : decode b_NM_numberBehind 63 = .ok (.lushr, 1) := by decide +kernel
theorem d_NM_numberBehind_64 : decode b_NM_numberBehind 64 = .ok (.lstore 4, 2) := by decide +kernel
theorem d_NM_numberBehind_66 : decode b_NM_numberBehind 66 = .ok (.lload 4, 2) := by decide +kernel
theorem d_NM_numberBehind_68 : decode b_NM_numberBehind 68 = .ok (.lload_n 0, 1) := by decide +kernel
theorem d_NM_numberBehind_69 : decode b_NM_numberBehind 69 = .ok (.lcmp, 1) := by decide +kernel
theorem d_NM_numberBehind_70 : decode b_NM_numberBehind 70 = .ok (.ifCond .ne 19, 3) := by decide +kernel
theorem d_NM_numberBehind_73 : decode b_NM_numberBehind 73 = .ok (.lload 9, 2) := by decide +kernel
theorem d_NM_numberBehind_75 : decode b_NM_numberBehind 75 = .ok (.ldc2_w 19, 3) := by decide +kernel
theorem d_NM_numberBehind_78 : decode b_NM_numberBehind 78 = .ok (.lcmp, 1) := by decide +kernel
theorem d_NM_numberBehind_79 : decode b_NM_numberBehind 79 = .ok (.ifCond .ne 7, 3) := by decide +kernel
theorem d_NM_numberBehind_82 : decode b_NM_numberBehind 82 = .ok (.iconst 0, 1) := by decide +kernel
theorem d_NM_numberBehind_83 : decode b_NM_numberBehind 83 = .ok (.goto 5, 3) := by decide +kernel
theorem d_NM_numberBehind_86 : decode b_NM_numberBehind 86 = .ok (.iload 6, 2) := by decide +kernel
theorem d_NM_numberBehind_88 : decode b_NM_numberBehind 88 = .ok (.ireturn, 1) := by decide +kernel
theorem d_NM_numberBehind_89 : decode b_NM_numberBehind 89 = .ok (.iinc 8 1, 3) := by decide +kernel
theorem d_NM_numberBehind_92 : decode b_NM_numberBehind 92 = .ok (.goto (-80), 3) := by decide +kernel
theorem d_NM_numberBehind_95 : decode b_NM_numberBehind 95 = .ok (.iconst 0, 1) := by decide +kernel
theorem d_NM_numberBehind_96 : decode b_NM_numberBehind 96 = .ok (.ireturn, 1) := by decide +kernel
theorem d_NM_isDigit_0 : decode b_NM_isDigit 0 = .ok (.lload_n 0, 1) := by decide +kernel
theorem d_NM_isDigit_1 : decode b_NM_isDigit 1 = .ok (.ldc2_w 19, 3) := by decide +kernel
theorem d_NM_isDigit_4 : decode b_NM_isDigit 4 = .ok (.lcmp, 1) := by decide +kernel
theorem d_NM_isDigit_5 : decode b_NM_isDigit 5 = .ok (.ifCond .lt 15, 3) := by decide +kernel
theorem d_NM_isDigit_8 : decode b_NM_isDigit 8 = .ok (.lload_n 0, 1) := by decide +kernel
theorem d_NM_isDigit_9 : decode b_NM_isDigit 9 = .ok (.ldc2_w 21, 3) := by decide +kernel
theorem d_NM_isDigit_12 : decode b_NM_isDigit 12 = .ok (.lcmp, 1) := by decide +kernel
theorem d_NM_isDigit_13 : decode b_NM_isDigit 13 = .ok (.ifCond .gt 7, 3) := by decide +kernel
theorem d_NM_isDigit_16 : decode b_NM_isDigit 16 = .ok (.iconst 1, 1) := by decide +kernel
theorem d_NM_isDigit_17 : decode b_NM_isDigit 17 = .ok (.goto 4, 3) := by decide +kernel
theorem d_NM_isDigit_20 : decode b_NM_isDigit 20 = .ok (.iconst 0, 1) := by decide +kernel
theorem d_NM_isDigit_21 : decode b_NM_isDigit 21 = .ok (.ireturn, 1) := by decide +kernel
end
section
theorem d_NS_init_0 : decode b_NS_init 0 = .ok (.aload_n 0, 1) := by decide +kernel
theorem d_NS_init_1 : decode b_NS_init 1 = .ok (.invokespecial 1, 3) := by decide +kernel
theorem d_NS_init_4 : decode b_NS_init 4 = .ok (.aload_n 0, 1) := by decide +kernel
theorem d_NS_init_5 : decode b_NS_init 5 = .ok (.new 7, 3) := by decide +kernel
theorem d_NS_init_8 : decode b_NS_init 8 = .ok (.dup, 1) := by decide +kernel
theorem d_NS_init_9 : decode b_NS_init 9 = .ok (.invokespecial 9, 3) := by decide +kernel
theorem d_NS_init_12 : decode b_NS_init 12 = .ok (.putfield 10, 3) := by decide +kernel
theorem d_NS_init_15 : decode b_NS_init 15 = .ok (.aload_n 0, 1) := by decide +kernel
theorem d_NS_init_16 : decode b_NS_init 16 = .ok (.new 16, 3) := by decide +kernel
theorem d_NS_init_19 : decode b_NS_init 19 = .ok (.dup, 1) := by decide +kernel
theorem d_NS_init_20 : decode b_NS_init 20 = .ok (.invokespecial 18, 3) := by decide +kernel
theorem d_NS_init_23 : decode b_NS_init 23 = .ok (.putfield 19, 3) := by decide +kernel
theorem d_NS_init_26 : decode b_NS_init 26 = .ok (.aload_n 0, 1) := by decide +kernel
theorem d_NS_init_27 : decode b_NS_init 27 = .ok (.new 16, 3) := by decide +kernel
theorem d_NS_init_30 : decode b_NS_init 30 = .ok (.dup, 1) := by decide +kernel
theorem d_NS_init_31 : decode b_NS_init 31 = .ok (.invokespecial 18, 3) := by decide +kernel
theorem d_NS_init_34 : decode b_NS_init 34 = .ok (.putfield 23, 3) := by decide +kernel
theorem d_NS_init_37 : decode b_NS_init 37 = .ok (.aload_n 0, 1) := by decide +kernel
theorem d_NS_init_38 : decode b_NS_init 38 = .ok (.new 16, 3) := by decide +kernel
theorem d_NS_init_41 : decode b_NS_init 41 = .ok (.dup, 1) := by decide +kernel
theorem d_NS_init_42 : decode b_NS_init 42 = .ok (.invokespecial 18, 3) := by decide +kernel
theorem d_NS_init_45 : decode b_NS_init 45 = .ok (.putfield 26, 3) := by decide +kernel
theorem d_NS_init_48 : decode b_NS_init 48 = .ok (.aload_n 0, 1) := by decide +kernel
theorem d_NS_init_49 : decode b_NS_init 49 = .ok (.new 29, 3) := by decide +kernel
theorem d_NS_init_52 : decode b_NS_init 52 = .ok (.dup, 1) := by decide +kernel
theorem d_NS_init_53 : decode b_NS_init 53 = .ok (.invokespecial 31, 3) := by decide +kernel
theorem d_NS_init_56 : decode b_NS_init 56 = .ok (.putfield 32, 3) := by decide +kernel
theorem d_NS_init_59 : decode b_NS_init 59 = .ok (.aload_n 0, 1) := by decide +kernel
theorem d_NS_init_60 : decode b_NS_init 60 = .ok (.new 36, 3) := by decide +kernel
theorem d_NS_init_63 : decode b_NS_init 63 = .ok (.dup, 1) := by decide +kernel
theorem d_NS_init_64 : decode b_NS_init 64 = .ok (.aload_n 0, 1) := by decide +kernel
theorem d_NS_init_65 : decode b_NS_init 65 = .ok (.getfield 10, 3) := by decide +kernel
theorem d_NS_init_68 : decode b_NS_init 68 = .ok (.aload_n 0, 1) := by decide +kernel
theorem d_NS_init_69 : decode b_NS_init 69 = .ok (.getfield 32, 3) := by decide +kernel
theorem d_NS_init_72 : decode b_NS_init 72 = .ok (.invokespecial 38, 3) := by decide +kernel
theorem d_NS_init_75 : decode b_NS_init 75 = .ok (.putfield 41, 3) := by decide +kernel
theorem d_NS_init_78 : decode b_NS_init 78 = .ok (.aload_n 0, 1) := by decide +kernel
theorem d_NS_init_79 : decode b_NS_init 79 = .ok (.new 16, 3) := by decide +kernel
theorem d_NS_init_82 : decode b_NS_init 82 = .ok (.dup, 1) := by decide +kernel
theorem d_NS_init_83 : decode b_NS_init 83 = .ok (.invokespecial 18, 3) := by decide +kernel
theorem d_NS_init_86 : decode b_NS_init 86 = .ok (.putfield 45, 3) := by decide +kernel
theorem d_NS_init_89 : decode b_NS_init 89 = .ok (.aload_n 0, 1) := by decide +kernel
theorem d_NS_init_90 : decode b_NS_init 90 = .ok (.new 16, 3) := by decide +kernel
theorem d_NS_init_93 : decode b_NS_init 93 = .ok (.dup, 1) := by decide +kernel
theorem d_NS_init_94 : decode b_NS_init 94 = .ok (.invokespecial 18, 3) := by decide +kernel
theorem d_NS_init_97 : decode b_NS_init 97 = .ok (.putfield 48, 3) := by decide +kernel
theorem d_NS_init_100 : decode b_NS_init 100 = .ok (.return_, 1) := by decide +kernel
theorem d_NS_global_0 : decode b_NS_global 0 = .ok (.lload_n 1, 1) := by decide +kernel
theorem d_NS_global_1 : decode b_NS_global 1 = .ok (.invokestatic 51, 3) := by decide +kernel
theorem d_NS_global_4 : decode b_NS_global 4 = .ok (.ifCond .eq 14, 3) := by decide +kernel
theorem d_NS_global_7 : decode b_NS_global 7 = .ok (.aload_n 0, 1) := by decide +kernel
theorem d_NS_global_8 : decode b_NS_global 8 = .ok (.getfield 10, 3) := by decide +kernel
theorem d_NS_global_11 : decode b_NS_global 11 = .ok (.lload_n 1, 1) := by decide +kernel
theorem d_NS_global_12 : decode b_NS_global 12 = .ok (.invokevirtual 57, 3) := by decide +kernel
theorem d_NS_global_15 : decode b_NS_global 15 = .ok (.goto 4, 3) := by decide +kernel
theorem d_NS_global_18 : decode b_NS_global 18 = .ok (.iconst (-1), 1) := by decide +kernel
theorem d_NS_global_19 : decode b_NS_global 19 = .ok (.ireturn, 1) := by decide +kernel
theorem d_NS_lay_0 : decode b_NS_lay 0 = .ok (.iload_n 1, 1) := by decide +kernel
theorem d_NS_lay_1 : decode b_NS_lay 1 = .ok (.lload_n 2, 1) := by decide +kernel
theorem d_NS_lay_2 : decode b_NS_lay 2 = .ok (.invokestatic 61, 3) := by decide +kernel
theorem d_NS_lay_5 : decode b_NS_lay 5 = .ok (.ifCond .eq 16, 3) := by decide +kernel
theorem d_NS_lay_8 : decode b_NS_lay 8 = .ok (.aload_n 0, 1) := by decide +kernel
theorem d_NS_lay_9 : decode b_NS_lay 9 = .ok (.getfield 26, 3) := by decide +kernel
theorem d_NS_lay_12 : decode b_NS_lay 12 = .ok (.invokevirtual 65, 3) := by decide +kernel
theorem d_NS_lay_15 : decode b_NS_lay 15 = .ok (.sipush 3000, 3) := by decide +kernel
theorem d_NS_lay_18 : decode b_NS_lay 18 = .ok (.if_icmp .lt 5, 3) := by decide +kernel
theorem d_NS_lay_21 : decode b_NS_lay 21 = .ok (.iconst (-1), 1) := by decide +kernel
theorem d_NS_lay_22 : decode b_NS_lay 22 = .ok (.ireturn, 1) := by decide +kernel
theorem d_NS_lay_23 : decode b_NS_lay 23 = .ok (.aload_n 0, 1) := by decide +kernel
theorem d_NS_lay_24 : decode b_NS_lay 24 = .ok (.getfield 26, 3) := by decide +kernel
theorem d_NS_lay_27 : decode b_NS_lay 27 = .ok (.iload_n 1, 1) := by decide +kernel
theorem d_NS_lay_28 : decode b_NS_lay 28 = .ok (.lload_n 2, 1) := by decide +kernel
theorem d_NS_lay_29 : decode b_NS_lay 29 = .ok (.invokevirtual 69, 3) := by decide +kernel
theorem d_NS_lay_32 : decode b_NS_lay 32 = .ok (.aload_n 0, 1) := by decide +kernel
theorem d_NS_lay_33 : decode b_NS_lay 33 = .ok (.getfield 26, 3) := by decide +kernel
theorem d_NS_lay_36 : decode b_NS_lay 36 = .ok (.invokevirtual 65, 3) := by decide +kernel
theorem d_NS_lay_39 : decode b_NS_lay 39 = .ok (.ireturn, 1) := by decide +kernel
theorem d_NS_drop_0 : decode b_NS_drop 0 = .ok (.aload_n 0, 1) := by decide +kernel
theorem d_NS_drop_1 : decode b_NS_drop 1 = .ok (.getfield 26, 3) := by decide +kernel
theorem d_NS_drop_4 : decode b_NS_drop 4 = .ok (.invokevirtual 65, 3) := by decide +kernel
theorem d_NS_drop_7 : decode b_NS_drop 7 = .ok (.istore_n 1, 1) := by decide +kernel
theorem d_NS_drop_8 : decode b_NS_drop 8 = .ok (.aload_n 0, 1) := by decide +kernel
theorem d_NS_drop_9 : decode b_NS_drop 9 = .ok (.getfield 26, 3) := by decide +kernel
theorem d_NS_drop_12 : decode b_NS_drop 12 = .ok (.invokevirtual 72, 3) := by decide +kernel
theorem d_NS_drop_15 : decode b_NS_drop 15 = .ok (.iload_n 1, 1) := by decide +kernel
theorem d_NS_drop_16 : decode b_NS_drop 16 = .ok (.ireturn, 1) := by decide +kernel
theorem d_NS_bind_0 : decode b_NS_bind 0 = .ok (.aload_n 0, 1) := by decide +kernel
theorem d_NS_bind_1 : decode b_NS_bind 1 = .ok (.getfield 26, 3) := by decide +kernel
theorem d_NS_bind_4 : decode b_NS_bind 4 = .ok (.invokevirtual 75, 3) := by decide +kernel
theorem d_NS_bind_7 : decode b_NS_bind 7 = .ok (.ifCond .ne 5, 3) := by decide +kernel
theorem d_NS_bind_10 : decode b_NS_bind 10 = .ok (.iconst (-1), 1) := by decide +kernel
theorem d_NS_bind_11 : decode b_NS_bind 11 = .ok (.ireturn, 1) := by decide +kernel
theorem d_NS_bind_12 : decode b_NS_bind 12 = .ok (.aload_n 0, 1) := by decide +kernel
theorem d_NS_bind_13 : decode b_NS_bind 13 = .ok (.getfield 32, 3) := by decide +kernel
theorem d_NS_bind_16 : decode b_NS_bind 16 = .ok (.aload_n 0, 1) := by decide +kernel
theorem d_NS_bind_17 : decode b_NS_bind 17 = .ok (.getfield 26, 3) := by decide +kernel
theorem d_NS_bind_20 : decode b_NS_bind 20 = .ok (.invokevirtual 79, 3) := by decide +kernel
theorem d_NS_bind_23 : decode b_NS_bind 23 = .ok (.aload_n 0, 1) := by decide +kernel
theorem d_NS_bind_24 : decode b_NS_bind 24 = .ok (.getfield 48, 3) := by decide +kernel
theorem d_NS_bind_27 : decode b_NS_bind 27 = .ok (.invokevirtual 72, 3) := by decide +kernel
theorem d_NS_bind_30 : decode b_NS_bind 30 = .ok (.aload_n 0, 1) := by decide +kernel
theorem d_NS_bind_31 : decode b_NS_bind 31 = .ok (.getfield 26, 3) := by decide +kernel
theorem d_NS_bind_34 : decode b_NS_bind 34 = .ok (.invokevirtual 65, 3) := by decide +kernel
theorem d_NS_bind_37 : decode b_NS_bind 37 = .ok (.istore_n 1, 1) := by decide +kernel
theorem d_NS_bind_38 : decode b_NS_bind 38 = .ok (.iconst 0, 1) := by decide +kernel
theorem d_NS_bind_39 : decode b_NS_bind 39 = .ok (.istore_n 2, 1) := by decide +kernel
theorem d_NS_bind_40 : decode b_NS_bind 40 = .ok (.iload_n 2, 1) := by decide +kernel
theorem d_NS_bind_41 : decode b_NS_bind 41 = .ok (.iload_n 1, 1) := by decide +kernel
theorem d_NS_bind_42 : decode b_NS_bind 42 = .ok (.if_icmp .ge 30, 3) := by decide +kernel
theorem d_NS_bind_45 : decode b_NS_bind 45 = .ok (.aload_n 0, 1) := by decide +kernel
theorem d_NS_bind_46 : decode b_NS_bind 46 = .ok (.getfield 32, 3) := by decide +kernel
theorem d_NS_bind_49 : decode b_NS_bind 49 = .ok (.iload_n 2, 1) := by decide +kernel
theorem d_NS_bind_50 : decode b_NS_bind 50 = .ok (.invokevirtual 83, 3) := by decide +kernel
theorem d_NS_bind_53 : decode b_NS_bind 53 = .ok (.aload_n 0, 1) := by decide +kernel
theorem d_NS_bind_54 : decode b_NS_bind 54 = .ok (.iload_n 2, 1) := by decide +kernel
theorem d_NS_bind_55 : decode b_NS_bind 55 = .ok (.invokevirtual 87, 3) := by decide +kernel
theorem d_NS_bind_58 : decode b_NS_bind 58 = .ok (.ifCond .ne 8, 3) := by decide +kernel
theorem d_NS_bind_61 : decode b_NS_bind 61 = .ok (.bipush (-2), 2) := by decide +kernel
theorem d_NS_bind_63 : decode b_NS_bind 63 = .ok (.iload_n 2, 1) := by decide +kernel
theorem d_NS_bind_64 : decode b_NS_bind 64 = .ok (.isub, 1) := by decide +kernel
theorem d_NS_bind_65 : decode b_NS_bind 65 = .ok (.ireturn, 1) := by decide +kernel
theorem d_NS_bind_66 : decode b_NS_bind 66 = .ok (.iinc 2 1, 3) := by decide +kernel
theorem d_NS_bind_69 : decode b_NS_bind 69 = .ok (.goto (-29), 3) := by decide +kernel
theorem d_NS_bind_72 : decode b_NS_bind 72 = .ok (.aload_n 0, 1) := by decide +kernel
theorem d_NS_bind_73 : decode b_NS_bind 73 = .ok (.invokevirtual 91, 3) := by decide +kernel
theorem d_NS_bind_76 : decode b_NS_bind 76 = .ok (.aload_n 0, 1) := by decide +kernel
theorem d_NS_bind_77 : decode b_NS_bind 77 = .ok (.getfield 26, 3) := by decide +kernel
theorem d_NS_bind_80 : decode b_NS_bind 80 = .ok (.invokevirtual 72, 3) := by decide +kernel
theorem d_NS_bind_83 : decode b_NS_bind 83 = .ok (.aload_n 0, 1) := by decide +kernel
theorem d_NS_bind_84 : decode b_NS_bind 84 = .ok (.getfield 45, 3) := by decide +kernel
theorem d_NS_bind_87 : decode b_NS_bind 87 = .ok (.invokevirtual 65, 3) := by decide +kernel
theorem d_NS_bind_90 : decode b_NS_bind 90 = .ok (.ireturn, 1) := by decide +kernel
theorem d_NS_nodes_0 : decode b_NS_nodes 0 = .ok (.aload_n 0, 1) := by decide +kernel
theorem d_NS_nodes_1 : decode b_NS_nodes 1 = .ok (.getfield 45, 3) := by decide +kernel
theorem d_NS_nodes_4 : decode b_NS_nodes 4 = .ok (.invokevirtual 65, 3) := by decide +kernel
theorem d_NS_nodes_7 : decode b_NS_nodes 7 = .ok (.ireturn, 1) := by decide +kernel
theorem d_NS_node_0 : decode b_NS_node 0 = .ok (.aload_n 0, 1) := by decide +kernel
theorem d_NS_node_1 : decode b_NS_node 1 = .ok (.getfield 45, 3) := by decide +kernel
theorem d_NS_node_4 : decode b_NS_node 4 = .ok (.iload_n 1, 1) := by decide +kernel
theorem d_NS_node_5 : decode b_NS_node 5 = .ok (.invokevirtual 94, 3) := by decide +kernel
theorem d_NS_node_8 : decode b_NS_node 8 = .ok (.ifCond .ne 7, 3) := by decide +kernel
theorem d_NS_node_11 : decode b_NS_node 11 = .ok (.ldc2_w 97, 3) := by decide +kernel
theorem d_NS_node_14 : decode b_NS_node 14 = .ok (.lreturn, 1) := by decide +kernel
theorem d_NS_node_15 : decode b_NS_node 15 = .ok (.iload_n 2, 1) := by decide +kernel
theorem d_NS_node_16 : decode b_NS_node 16 = .ok (.tableswitch 57 0 2 #[28, 38, 47], 28) := by decide +kernel
theorem d_NS_node_44 : decode b_NS_node 44 = .ok (.aload_n 0, 1) := by decide +kernel
theorem d_NS_node_45 : decode b_NS_node 45 = .ok (.getfield 45, 3) := by decide +kernel
theorem d_NS_node_48 : decode b_NS_node 48 = .ok (.iload_n 1, 1) := by decide +kernel
theorem d_NS_node_49 : decode b_NS_node 49 = .ok (.invokevirtual 99, 3) := by decide +kernel
theorem d_NS_node_52 : decode b_NS_node 52 = .ok (.i2l, 1) := by decide +kernel
theorem d_NS_node_53 : decode b_NS_node 53 = .ok (.lreturn, 1) := by decide +kernel
theorem d_NS_node_54 : decode b_NS_node 54 = .ok (.aload_n 0, 1) := by decide +kernel
theorem d_NS_node_55 : decode b_NS_node 55 = .ok (.getfield 45, 3) := by decide +kernel
theorem d_NS_node_58 : decode b_NS_node 58 = .ok (.iload_n 1, 1) := by decide +kernel
theorem d_NS_node_59 : decode b_NS_node 59 = .ok (.invokevirtual 103, 3) := by decide +kernel
theorem d_NS_node_62 : decode b_NS_node 62 = .ok (.lreturn, 1) := by decide +kernel
theorem d_NS_node_63 : decode b_NS_node 63 = .ok (.aload_n 0, 1) := by decide +kernel
theorem d_NS_node_64 : decode b_NS_node 64 = .ok (.getfield 45, 3) := by decide +kernel
theorem d_NS_node_67 : decode b_NS_node 67 = .ok (.iload_n 1, 1) := by decide +kernel
theorem d_NS_node_68 : decode b_NS_node 68 = .ok (.invokevirtual 107, 3) := by decide +kernel
theorem d_NS_node_71 : decode b_NS_node 71 = .ok (.i2l, 1) := by decide +kernel
theorem d_NS_node_72 : decode b_NS_node 72 = .ok (.lreturn, 1) := by decide +kernel
theorem d_NS_node_73 : decode b_NS_node 73 = .ok (.ldc2_w 97, 3) := by decide +kernel
theorem d_NS_node_76 : decode b_NS_node 76 = .ok (.lreturn, 1) := by decide +kernel
theorem d_NS_uses_0 : decode b_NS_uses 0 = .ok (.aload_n 0, 1) := by decide +kernel
theorem d_NS_uses_1 : decode b_NS_uses 1 = .ok (.getfield 45, 3) := by decide +kernel
theorem d_NS_uses_4 : decode b_NS_uses 4 = .ok (.iload_n 1, 1) := by decide +kernel
theorem d_NS_uses_5 : decode b_NS_uses 5 = .ok (.invokevirtual 94, 3) := by decide +kernel
theorem d_NS_uses_8 : decode b_NS_uses 8 = .ok (.ifCond .eq 17, 3) := by decide +kernel
theorem d_NS_uses_11 : decode b_NS_uses 11 = .ok (.aload_n 0, 1) := by decide +kernel
theorem d_NS_uses_12 : decode b_NS_uses 12 = .ok (.getfield 45, 3) := by decide +kernel
theorem d_NS_uses_15 : decode b_NS_uses 15 = .ok (.iload_n 1, 1) := by decide +kernel
theorem d_NS_uses_16 : decode b_NS_uses 16 = .ok (.invokevirtual 99, 3) := by decide +kernel
theorem d_NS_uses_19 : decode b_NS_uses 19 = .ok (.invokestatic 110, 3) := by decide +kernel
theorem d_NS_uses_22 : decode b_NS_uses 22 = .ok (.ifCond .ne 5, 3) := by decide +kernel
theorem d_NS_uses_25 : decode b_NS_uses 25 = .ok (.iconst (-1), 1) := by decide +kernel
theorem d_NS_uses_26 : decode b_NS_uses 26 = .ok (.ireturn, 1) := by decide +kernel
theorem d_NS_uses_27 : decode b_NS_uses 27 = .ok (.aload_n 0, 1) := by decide +kernel
theorem d_NS_uses_28 : decode b_NS_uses 28 = .ok (.getfield 32, 3) := by decide +kernel
theorem d_NS_uses_31 : decode b_NS_uses 31 = .ok (.aload_n 0, 1) := by decide +kernel
theorem d_NS_uses_32 : decode b_NS_uses 32 = .ok (.getfield 45, 3) := by decide +kernel
theorem d_NS_uses_35 : decode b_NS_uses 35 = .ok (.invokevirtual 79, 3) := by decide +kernel
theorem d_NS_uses_38 : decode b_NS_uses 38 = .ok (.aload_n 0, 1) := by decide +kernel
theorem d_NS_uses_39 : decode b_NS_uses 39 = .ok (.iload_n 1, 1) := by decide +kernel
theorem d_NS_uses_40 : decode b_NS_uses 40 = .ok (.invokevirtual 113, 3) := by decide +kernel
theorem d_NS_uses_43 : decode b_NS_uses 43 = .ok (.ireturn, 1) := by decide +kernel
theorem d_NS_contract_0 : decode b_NS_contract 0 = .ok (.aload_n 0, 1) := by decide +kernel
theorem d_NS_contract_1 : decode b_NS_contract 1 = .ok (.iload_n 1, 1) := by decide +kernel
theorem d_NS_contract_2 : decode b_NS_contract 2 = .ok (.invokevirtual 116, 3) := by decide +kernel
theorem d_NS_contract_5 : decode b_NS_contract 5 = .ok (.istore_n 2, 1) := by decide +kernel
theorem d_NS_contract_6 : decode b_NS_contract 6 = .ok (.iload_n 2, 1) := by decide +kernel
theorem d_NS_contract_7 : decode b_NS_contract 7 = .ok (.iconst (-1), 1) := by decide +kernel
theorem d_NS_contract_8 : decode b_NS_contract 8 = .ok (.if_icmp .ne 5, 3) := by decide +kernel
theorem d_NS_contract_11 : decode b_NS_contract 11 = .ok (.iconst (-1), 1) := by decide +kernel
theorem d_NS_contract_12 : decode b_NS_contract 12 = .ok (.ireturn, 1) := by decide +kernel
theorem d_NS_contract_13 : decode b_NS_contract 13 = .ok (.iload_n 2, 1) := by decide +kernel
theorem d_NS_contract_14 : decode b_NS_contract 14 = .ok (.iload_n 1, 1) := by decide +kernel
theorem d_NS_contract_15 : decode b_NS_contract 15 = .ok (.if_icmp .ne 9, 3) := by decide +kernel
theorem d_NS_contract_18 : decode b_NS_contract 18 = .ok (.iload_n 1, 1) := by decide +kernel
theorem d_NS_contract_19 : decode b_NS_contract 19 = .ok (.iconst 1, 1) := by decide +kernel
theorem d_NS_contract_20 : decode b_NS_contract 20 = .ok (.iadd, 1) := by decide +kernel
theorem d_NS_contract_21 : decode b_NS_contract 21 = .ok (.goto 11, 3) := by decide +kernel
theorem d_NS_contract_24 : decode b_NS_contract 24 = .ok (.aload_n 0, 1) := by decide +kernel
theorem d_NS_contract_25 : decode b_NS_contract 25 = .ok (.getfield 45, 3) := by decide +kernel
theorem d_NS_contract_28 : decode b_NS_contract 28 = .ok (.iload_n 1, 1) := by decide +kernel
theorem d_NS_contract_29 : decode b_NS_contract 29 = .ok (.invokevirtual 119, 3) := by decide +kernel
theorem d_NS_contract_32 : decode b_NS_contract 32 = .ok (.istore_n 3, 1) := by decide +kernel
theorem d_NS_contract_33 : decode b_NS_contract 33 = .ok (.aload_n 0, 1) := by decide +kernel
theorem d_NS_contract_34 : decode b_NS_contract 34 = .ok (.getfield 32, 3) := by decide +kernel
theorem d_NS_contract_37 : decode b_NS_contract 37 = .ok (.aload_n 0, 1) := by decide +kernel
theorem d_NS_contract_38 : decode b_NS_contract 38 = .ok (.getfield 45, 3) := by decide +kernel
theorem d_NS_contract_41 : decode b_NS_contract 41 = .ok (.invokevirtual 79, 3) := by decide +kernel
theorem d_NS_contract_44 : decode b_NS_contract 44 = .ok (.aload_n 0, 1) := by decide +kernel
theorem d_NS_contract_45 : decode b_NS_contract 45 = .ok (.getfield 45, 3) := by decide +kernel
theorem d_NS_contract_48 : decode b_NS_contract 48 = .ok (.invokevirtual 65, 3) := by decide +kernel
theorem d_NS_contract_51 : decode b_NS_contract 51 = .ok (.aload_n 0, 1) := by decide +kernel
theorem d_NS_contract_52 : decode b_NS_contract 52 = .ok (.getfield 45, 3) := by decide +kernel
theorem d_NS_contract_55 : decode b_NS_contract 55 = .ok (.iload_n 1, 1) := by decide +kernel
theorem d_NS_contract_56 : decode b_NS_contract 56 = .ok (.invokevirtual 107, 3) := by decide +kernel
theorem d_NS_contract_59 : decode b_NS_contract 59 = .ok (.isub, 1) := by decide +kernel
theorem d_NS_contract_60 : decode b_NS_contract 60 = .ok (.istore 4, 2) := by decide +kernel
theorem d_NS_contract_62 : decode b_NS_contract 62 = .ok (.aload_n 0, 1) := by decide +kernel
theorem d_NS_contract_63 : decode b_NS_contract 63 = .ok (.getfield 45, 3) := by decide +kernel
theorem d_NS_contract_66 : decode b_NS_contract 66 = .ok (.iload_n 2, 1) := by decide +kernel
theorem d_NS_contract_67 : decode b_NS_contract 67 = .ok (.invokevirtual 122, 3) := by decide +kernel
theorem d_NS_contract_70 : decode b_NS_contract 70 = .ok (.aload_n 0, 1) := by decide +kernel
theorem d_NS_contract_71 : decode b_NS_contract 71 = .ok (.getfield 45, 3) := by decide +kernel
theorem d_NS_contract_74 : decode b_NS_contract 74 = .ok (.iload_n 2, 1) := by decide +kernel
theorem d_NS_contract_75 : decode b_NS_contract 75 = .ok (.invokevirtual 119, 3) := by decide +kernel
theorem d_NS_contract_78 : decode b_NS_contract 78 = .ok (.isub, 1) := by decide +kernel
theorem d_NS_contract_79 : decode b_NS_contract 79 = .ok (.istore 5, 2) := by decide +kernel
theorem d_NS_contract_81 : decode b_NS_contract 81 = .ok (.iload 4, 2) := by decide +kernel
theorem d_NS_contract_83 : decode b_NS_contract 83 = .ok (.iload 5, 2) := by decide +kernel
theorem d_NS_contract_85 : decode b_NS_contract 85 = .ok (.iadd, 1) := by decide +kernel
theorem d_NS_contract_86 : decode b_NS_contract 86 = .ok (.aload_n 0, 1) := by decide +kernel
theorem d_NS_contract_87 : decode b_NS_contract 87 = .ok (.iload_n 2, 1) := by decide +kernel
theorem d_NS_contract_88 : decode b_NS_contract 88 = .ok (.invokevirtual 113, 3) := by decide +kernel
theorem d_NS_contract_91 : decode b_NS_contract 91 = .ok (.aload_n 0, 1) := by decide +kernel
theorem d_NS_contract_92 : decode b_NS_contract 92 = .ok (.getfield 45, 3) := by decide +kernel
theorem d_NS_contract_95 : decode b_NS_contract 95 = .ok (.iload_n 3, 1) := by decide +kernel
theorem d_NS_contract_96 : decode b_NS_contract 96 = .ok (.invokevirtual 107, 3) := by decide +kernel
theorem d_NS_contract_99 : decode b_NS_contract 99 = .ok (.iconst 1, 1) := by decide +kernel
theorem d_NS_contract_100 : decode b_NS_contract 100 = .ok (.isub, 1) := by decide +kernel
theorem d_NS_contract_101 : decode b_NS_contract 101 = .ok (.imul, 1) := by decide +kernel
theorem d_NS_contract_102 : decode b_NS_contract 102 = .ok (.iadd, 1) := by decide +kernel
theorem d_NS_contract_103 : decode b_NS_contract 103 = .ok (.sipush 3000, 3) := by decide +kernel
theorem d_NS_contract_106 : decode b_NS_contract 106 = .ok (.if_icmp .le 6, 3) := by decide +kernel
theorem d_NS_contract_109 : decode b_NS_contract 109 = .ok (.bipush (-2), 2) := by decide +kernel
theorem d_NS_contract_111 : decode b_NS_contract 111 = .ok (.ireturn, 1) := by decide +kernel
theorem d_NS_contract_112 : decode b_NS_contract 112 = .ok (.aload_n 0, 1) := by decide +kernel
theorem d_NS_contract_113 : decode b_NS_contract 113 = .ok (.getfield 48, 3) := by decide +kernel
theorem d_NS_contract_116 : decode b_NS_contract 116 = .ok (.invokevirtual 72, 3) := by decide +kernel
theorem d_NS_contract_119 : decode b_NS_contract 119 = .ok (.aload_n 0, 1) := by decide +kernel
theorem d_NS_contract_120 : decode b_NS_contract 120 = .ok (.iconst 0, 1) := by decide +kernel
theorem d_NS_contract_121 : decode b_NS_contract 121 = .ok (.iload_n 1, 1) := by decide +kernel
theorem d_NS_contract_122 : decode b_NS_contract 122 = .ok (.invokevirtual 125, 3) := by decide +kernel
theorem d_NS_contract_125 : decode b_NS_contract 125 = .ok (.aload_n 0, 1) := by decide +kernel
theorem d_NS_contract_126 : decode b_NS_contract 126 = .ok (.iload_n 2, 1) := by decide +kernel
theorem d_NS_contract_127 : decode b_NS_contract 127 = .ok (.iload_n 3, 1) := by decide +kernel
theorem d_NS_contract_128 : decode b_NS_contract 128 = .ok (.invokevirtual 129, 3) := by decide +kernel
theorem d_NS_contract_131 : decode b_NS_contract 131 = .ok (.aload_n 0, 1) := by decide +kernel
theorem d_NS_contract_132 : decode b_NS_contract 132 = .ok (.aload_n 0, 1) := by decide +kernel
theorem d_NS_contract_133 : decode b_NS_contract 133 = .ok (.getfield 45, 3) := by decide +kernel
theorem d_NS_contract_136 : decode b_NS_contract 136 = .ok (.iload_n 1, 1) := by decide +kernel
theorem d_NS_contract_137 : decode b_NS_contract 137 = .ok (.invokevirtual 122, 3) := by decide +kernel
theorem d_NS_contract_140 : decode b_NS_contract 140 = .ok (.aload_n 0, 1) := by decide +kernel
theorem d_NS_contract_141 : decode b_NS_contract 141 = .ok (.getfield 45, 3) := by decide +kernel
theorem d_NS_contract_144 : decode b_NS_contract 144 = .ok (.invokevirtual 65, 3) := by decide +kernel
theorem d_NS_contract_147 : decode b_NS_contract 147 = .ok (.invokevirtual 125, 3) := by decide +kernel
theorem d_NS_contract_150 : decode b_NS_contract 150 = .ok (.aload_n 0, 1) := by decide +kernel
theorem d_NS_contract_151 : decode b_NS_contract 151 = .ok (.invokevirtual 91, 3) := by decide +kernel
theorem d_NS_contract_154 : decode b_NS_contract 154 = .ok (.aload_n 0, 1) := by decide +kernel
theorem d_NS_contract_155 : decode b_NS_contract 155 = .ok (.getfield 45, 3) := by decide +kernel
theorem d_NS_contract_158 : decode b_NS_contract 158 = .ok (.invokevirtual 65, 3) := by decide +kernel
theorem d_NS_contract_161 : decode b_NS_contract 161 = .ok (.ireturn, 1) := by decide +kernel
theorem d_NS_write_0 : decode b_NS_write 0 = .ok (.aload_n 0, 1) := by decide +kernel
theorem d_NS_write_1 : decode b_NS_write 1 = .ok (.getfield 45, 3) := by decide +kernel
theorem d_NS_write_4 : decode b_NS_write 4 = .ok (.invokevirtual 65, 3) := by decide +kernel
theorem d_NS_write_7 : decode b_NS_write 7 = .ok (.ifCond .ne 5, 3) := by decide +kernel
theorem d_NS_write_10 : decode b_NS_write 10 = .ok (.iconst (-1), 1) := by decide +kernel
theorem d_NS_write_11 : decode b_NS_write 11 = .ok (.ireturn, 1) := by decide +kernel
theorem d_NS_write_12 : decode b_NS_write 12 = .ok (.aload_n 0, 1) := by decide +kernel
theorem d_NS_write_13 : decode b_NS_write 13 = .ok (.getfield 41, 3) := by decide +kernel
theorem d_NS_write_16 : decode b_NS_write 16 = .ok (.aload_n 0, 1) := by decide +kernel
theorem d_NS_write_17 : decode b_NS_write 17 = .ok (.getfield 45, 3) := by decide +kernel
theorem d_NS_write_20 : decode b_NS_write 20 = .ok (.aload_n 0, 1) := by decide +kernel
theorem d_NS_write_21 : decode b_NS_write 21 = .ok (.getfield 23, 3) := by decide +kernel
theorem d_NS_write_24 : decode b_NS_write 24 = .ok (.invokevirtual 132, 3) := by decide +kernel
theorem d_NS_write_27 : decode b_NS_write 27 = .ok (.aload_n 0, 1) := by decide +kernel
theorem d_NS_write_28 : decode b_NS_write 28 = .ok (.getfield 23, 3) := by decide +kernel
theorem d_NS_write_31 : decode b_NS_write 31 = .ok (.invokevirtual 65, 3) := by decide +kernel
theorem d_NS_write_34 : decode b_NS_write 34 = .ok (.ireturn, 1) := by decide +kernel
theorem d_NS_written_0 : decode b_NS_written 0 = .ok (.aload_n 0, 1) := by decide +kernel
theorem d_NS_written_1 : decode b_NS_written 1 = .ok (.getfield 23, 3) := by decide +kernel
theorem d_NS_written_4 : decode b_NS_written 4 = .ok (.iload_n 1, 1) := by decide +kernel
theorem d_NS_written_5 : decode b_NS_written 5 = .ok (.invokevirtual 94, 3) := by decide +kernel
theorem d_NS_written_8 : decode b_NS_written 8 = .ok (.ifCond .ne 7, 3) := by decide +kernel
theorem d_NS_written_11 : decode b_NS_written 11 = .ok (.ldc2_w 97, 3) := by decide +kernel
theorem d_NS_written_14 : decode b_NS_written 14 = .ok (.lreturn, 1) := by decide +kernel
theorem d_NS_written_15 : decode b_NS_written 15 = .ok (.iload_n 2, 1) := by decide +kernel
theorem d_NS_written_16 : decode b_NS_written 16 = .ok (.lookupswitch 47 #[(0, 28), (1, 38)], 28) := by decide +kernel
theorem d_NS_written_44 : decode b_NS_written 44 = .ok (.aload_n 0, 1) := by decide +kernel
theorem d_NS_written_45 : decode b_NS_written 45 = .ok (.getfield 23, 3) := by decide +kernel
theorem d_NS_written_48 : decode b_NS_written 48 = .ok (.iload_n 1, 1) := by decide +kernel
theorem d_NS_written_49 : decode b_NS_written 49 = .ok (.invokevirtual 99, 3) := by decide +kernel
theorem d_NS_written_52 : decode b_NS_written 52 = .ok (.i2l, 1) := by decide +kernel
theorem d_NS_written_53 : decode b_NS_written 53 = .ok (.lreturn, 1) := by decide +kernel
theorem d_NS_written_54 : decode b_NS_written 54 = .ok (.aload_n 0, 1) := by decide +kernel
theorem d_NS_written_55 : decode b_NS_written 55 = .ok (.getfield 23, 3) := by decide +kernel
theorem d_NS_written_58 : decode b_NS_written 58 = .ok (.iload_n 1, 1) := by decide +kernel
theorem d_NS_written_59 : decode b_NS_written 59 = .ok (.invokevirtual 103, 3) := by decide +kernel
theorem d_NS_written_62 : decode b_NS_written 62 = .ok (.lreturn, 1) := by decide +kernel
theorem d_NS_written_63 : decode b_NS_written 63 = .ok (.ldc2_w 97, 3) := by decide +kernel
theorem d_NS_written_66 : decode b_NS_written 66 = .ok (.lreturn, 1) := by decide +kernel
theorem d_NS_again_0 : decode b_NS_again 0 = .ok (.aload_n 0, 1) := by decide +kernel
theorem d_NS_again_1 : decode b_NS_again 1 = .ok (.getfield 26, 3) := by decide +kernel
theorem d_NS_again_4 : decode b_NS_again 4 = .ok (.aload_n 0, 1) := by decide +kernel
theorem d_NS_again_5 : decode b_NS_again 5 = .ok (.getfield 23, 3) := by decide +kernel
theorem d_NS_again_8 : decode b_NS_again 8 = .ok (.invokevirtual 136, 3) := by decide +kernel
theorem d_NS_again_11 : decode b_NS_again 11 = .ok (.aload_n 0, 1) := by decide +kernel
theorem d_NS_again_12 : decode b_NS_again 12 = .ok (.getfield 26, 3) := by decide +kernel
theorem d_NS_again_15 : decode b_NS_again 15 = .ok (.invokevirtual 65, 3) := by decide +kernel
theorem d_NS_again_18 : decode b_NS_again 18 = .ok (.ireturn, 1) := by decide +kernel
theorem d_NS_keep_0 : decode b_NS_keep 0 = .ok (.aload_n 0, 1) := by decide +kernel
theorem d_NS_keep_1 : decode b_NS_keep 1 = .ok (.getfield 19, 3) := by decide +kernel
theorem d_NS_keep_4 : decode b_NS_keep 4 = .ok (.aload_n 0, 1) := by decide +kernel
theorem d_NS_keep_5 : decode b_NS_keep 5 = .ok (.getfield 45, 3) := by decide +kernel
theorem d_NS_keep_8 : decode b_NS_keep 8 = .ok (.invokevirtual 136, 3) := by decide +kernel
theorem d_NS_keep_11 : decode b_NS_keep 11 = .ok (.aload_n 0, 1) := by decide +kernel
theorem d_NS_keep_12 : decode b_NS_keep 12 = .ok (.getfield 19, 3) := by decide +kernel
theorem d_NS_keep_15 : decode b_NS_keep 15 = .ok (.invokevirtual 65, 3) := by decide +kernel
theorem d_NS_keep_18 : decode b_NS_keep 18 = .ok (.ireturn, 1) := by decide +kernel
theorem d_NS_same_0 : decode b_NS_same 0 = .ok (.aload_n 0, 1) := by decide +kernel
theorem d_NS_same_1 : decode b_NS_same 1 = .ok (.getfield 45, 3) := by decide +kernel
theorem d_NS_same_4 : decode b_NS_same 4 = .ok (.invokevirtual 65, 3) := by decide +kernel
theorem d_NS_same_7 : decode b_NS_same 7 = .ok (.istore_n 1, 1) := by decide +kernel
theorem d_NS_same_8 : decode b_NS_same 8 = .ok (.iload_n 1, 1) := by decide +kernel
theorem d_NS_same_9 : decode b_NS_same 9 = .ok (.aload_n 0, 1) := by decide +kernel
theorem d_NS_same_10 : decode b_NS_same 10 = .ok (.getfield 19, 3) := by decide +kernel
theorem d_NS_same_13 : decode b_NS_same 13 = .ok (.invokevirtual 65, 3) := by decide +kernel
theorem d_NS_same_16 : decode b_NS_same 16 = .ok (.if_icmp .eq 5, 3) := by decide +kernel
theorem d_NS_same_19 : decode b_NS_same 19 = .ok (.iconst 0, 1) := by decide +kernel
theorem d_NS_same_20 : decode b_NS_same 20 = .ok (.ireturn, 1) := by decide +kernel
theorem d_NS_same_21 : decode b_NS_same 21 = .ok (.iconst 0, 1) := by decide +kernel
theorem d_NS_same_22 : decode b_NS_same 22 = .ok (.istore_n 2, 1) := by decide +kernel
theorem d_NS_same_23 : decode b_NS_same 23 = .ok (.iload_n 2, 1) := by decide +kernel
theorem d_NS_same_24 : decode b_NS_same 24 = .ok (.iload_n 1, 1) := by decide +kernel
theorem d_NS_same_25 : decode b_NS_same 25 = .ok (.if_icmp .ge 61, 3) := by decide +kernel
theorem d_NS_same_28 : decode b_NS_same 28 = .ok (.aload_n 0, 1) := by decide +kernel
theorem d_NS_same_29 : decode b_NS_same 29 = .ok (.getfield 45, 3) := by decide +kernel
theorem d_NS_same_32 : decode b_NS_same 32 = .ok (.iload_n 2, 1) := by decide +kernel
theorem d_NS_same_33 : decode b_NS_same 33 = .ok (.invokevirtual 99, 3) := by decide +kernel
theorem d_NS_same_36 : decode b_NS_same 36 = .ok (.istore_n 3, 1) := by decide +kernel
theorem d_NS_same_37 : decode b_NS_same 37 = .ok (.iload_n 3, 1) := by decide +kernel
theorem d_NS_same_38 : decode b_NS_same 38 = .ok (.aload_n 0, 1) := by decide +kernel
theorem d_NS_same_39 : decode b_NS_same 39 = .ok (.getfield 19, 3) := by decide +kernel
theorem d_NS_same_42 : decode b_NS_same 42 = .ok (.iload_n 2, 1) := by decide +kernel
theorem d_NS_same_43 : decode b_NS_same 43 = .ok (.invokevirtual 99, 3) := by decide +kernel
theorem d_NS_same_46 : decode b_NS_same 46 = .ok (.if_icmp .eq 5, 3) := by decide +kernel
theorem d_NS_same_49 : decode b_NS_same 49 = .ok (.iconst 0, 1) := by decide +kernel
theorem d_NS_same_50 : decode b_NS_same 50 = .ok (.ireturn, 1) := by decide +kernel
theorem d_NS_same_51 : decode b_NS_same 51 = .ok (.iload_n 3, 1) := by decide +kernel
theorem d_NS_same_52 : decode b_NS_same 52 = .ok (.invokestatic 110, 3) := by decide +kernel
theorem d_NS_same_55 : decode b_NS_same 55 = .ok (.ifCond .ne 25, 3) := by decide +kernel
theorem d_NS_same_58 : decode b_NS_same 58 = .ok (.aload_n 0, 1) := by decide +kernel
theorem d_NS_same_59 : decode b_NS_same 59 = .ok (.getfield 45, 3) := by decide +kernel
theorem d_NS_same_62 : decode b_NS_same 62 = .ok (.iload_n 2, 1) := by decide +kernel
theorem d_NS_same_63 : decode b_NS_same 63 = .ok (.invokevirtual 103, 3) := by decide +kernel
theorem d_NS_same_66 : decode b_NS_same 66 = .ok (.aload_n 0, 1) := by decide +kernel
theorem d_NS_same_67 : decode b_NS_same 67 = .ok (.getfield 19, 3) := by decide +kernel
theorem d_NS_same_70 : decode b_NS_same 70 = .ok (.iload_n 2, 1) := by decide +kernel
theorem d_NS_same_71 : decode b_NS_same 71 = .ok (.invokevirtual 103, 3) := by decide +kernel
theorem d_NS_same_74 : decode b_NS_same 74 = .ok (.lcmp, 1) := by decide +kernel
theorem d_NS_same_75 : decode b_NS_same 75 = .ok (.ifCond .eq 5, 3) := by decide +kernel
theorem d_NS_same_78 : decode b_NS_same 78 = .ok (.iconst 0, 1) := by decide +kernel
theorem d_NS_same_79 : decode b_NS_same 79 = .ok (.ireturn, 1) := by decide +kernel
theorem d_NS_same_80 : decode b_NS_same 80 = .ok (.iinc 2 1, 3) := by decide +kernel
theorem d_NS_same_83 : decode b_NS_same 83 = .ok (.goto (-60), 3) := by decide +kernel
theorem d_NS_same_86 : decode b_NS_same 86 = .ok (.iconst 1, 1) := by decide +kernel
theorem d_NS_same_87 : decode b_NS_same 87 = .ok (.ireturn, 1) := by decide +kernel
theorem d_NS_canBeBeside_0 : decode b_NS_canBeBeside 0 = .ok (.iload_n 0, 1) := by decide +kernel
theorem d_NS_canBeBeside_1 : decode b_NS_canBeBeside 1 = .ok (.tableswitch 80 0 6 #[43, 43, 43, 43, 68, 48, 68], 43) := by decide +kernel
theorem d_NS_canBeBeside_44 : decode b_NS_canBeBeside 44 = .ok (.lload_n 1, 1) := by decide +kernel
theorem d_NS_canBeBeside_45 : decode b_NS_canBeBeside 45 = .ok (.invokestatic 51, 3) := by decide +kernel
theorem d_NS_canBeBeside_48 : decode b_NS_canBeBeside 48 = .ok (.ireturn, 1) := by decide +kernel
theorem d_NS_canBeBeside_49 : decode b_NS_canBeBeside 49 = .ok (.lload_n 1, 1) := by decide +kernel
theorem d_NS_canBeBeside_50 : decode b_NS_canBeBeside 50 = .ok (.lconst 0, 1) := by decide +kernel
theorem d_NS_canBeBeside_51 : decode b_NS_canBeBeside 51 = .ok (.lcmp, 1) := by decide +kernel
theorem d_NS_canBeBeside_52 : decode b_NS_canBeBeside 52 = .ok (.ifCond .lt 15, 3) := by decide +kernel
theorem d_NS_canBeBeside_55 : decode b_NS_canBeBeside 55 = .ok (.lload_n 1, 1) := by decide +kernel
theorem d_NS_canBeBeside_56 : decode b_NS_canBeBeside 56 = .ok (.ldc2_w 139, 3) := by decide +kernel
theorem d_NS_canBeBeside_59 : decode b_NS_canBeBeside 59 = .ok (.lcmp, 1) := by decide +kernel
theorem d_NS_canBeBeside_60 : decode b_NS_canBeBeside 60 = .ok (.ifCond .gt 7, 3) := by decide +kernel
theorem d_NS_canBeBeside_63 : decode b_NS_canBeBeside 63 = .ok (.iconst 1, 1) := by decide +kernel
theorem d_NS_canBeBeside_64 : decode b_NS_canBeBeside 64 = .ok (.goto 4, 3) := by decide +kernel
theorem d_NS_canBeBeside_67 : decode b_NS_canBeBeside 67 = .ok (.iconst 0, 1) := by decide +kernel
theorem d_NS_canBeBeside_68 : decode b_NS_canBeBeside 68 = .ok (.ireturn, 1) := by decide +kernel
theorem d_NS_canBeBeside_69 : decode b_NS_canBeBeside 69 = .ok (.lload_n 1, 1) := by decide +kernel
theorem d_NS_canBeBeside_70 : decode b_NS_canBeBeside 70 = .ok (.lconst 0, 1) := by decide +kernel
theorem d_NS_canBeBeside_71 : decode b_NS_canBeBeside 71 = .ok (.lcmp, 1) := by decide +kernel
theorem d_NS_canBeBeside_72 : decode b_NS_canBeBeside 72 = .ok (.ifCond .ne 7, 3) := by decide +kernel
theorem d_NS_canBeBeside_75 : decode b_NS_canBeBeside 75 = .ok (.iconst 1, 1) := by decide +kernel
theorem d_NS_canBeBeside_76 : decode b_NS_canBeBeside 76 = .ok (.goto 4, 3) := by decide +kernel
theorem d_NS_canBeBeside_79 : decode b_NS_canBeBeside 79 = .ok (.iconst 0, 1) := by decide +kernel
theorem d_NS_canBeBeside_80 : decode b_NS_canBeBeside 80 = .ok (.ireturn, 1) := by decide +kernel
theorem d_NS_canBeBeside_81 : decode b_NS_canBeBeside 81 = .ok (.iconst 0, 1) := by decide +kernel
theorem d_NS_canBeBeside_82 : decode b_NS_canBeBeside 82 = .ok (.ireturn, 1) := by decide +kernel
theorem d_NS_isBinder_0 : decode b_NS_isBinder 0 = .ok (.iload_n 0, 1) := by decide +kernel
theorem d_NS_isBinder_1 : decode b_NS_isBinder 1 = .ok (.iconst 1, 1) := by decide +kernel
theorem d_NS_isBinder_2 : decode b_NS_isBinder 2 = .ok (.if_icmp .eq 19, 3) := by decide +kernel
theorem d_NS_isBinder_5 : decode b_NS_isBinder 5 = .ok (.iload_n 0, 1) := by decide +kernel
theorem d_NS_isBinder_6 : decode b_NS_isBinder 6 = .ok (.iconst 2, 1) := by decide +kernel
theorem d_NS_isBinder_7 : decode b_NS_isBinder 7 = .ok (.if_icmp .eq 14, 3) := by decide +kernel
theorem d_NS_isBinder_10 : decode b_NS_isBinder 10 = .ok (.iload_n 0, 1) := by decide +kernel
theorem d_NS_isBinder_11 : decode b_NS_isBinder 11 = .ok (.iconst 3, 1) := by decide +kernel
theorem d_NS_isBinder_12 : decode b_NS_isBinder 12 = .ok (.if_icmp .eq 9, 3) := by decide +kernel
theorem d_NS_isBinder_15 : decode b_NS_isBinder 15 = .ok (.iload_n 0, 1) := by decide +kernel
theorem d_NS_isBinder_16 : decode b_NS_isBinder 16 = .ok (.bipush 6, 2) := by decide +kernel
theorem d_NS_isBinder_18 : decode b_NS_isBinder 18 = .ok (.if_icmp .ne 7, 3) := by decide +kernel
theorem d_NS_isBinder_21 : decode b_NS_isBinder 21 = .ok (.iconst 1, 1) := by decide +kernel
theorem d_NS_isBinder_22 : decode b_NS_isBinder 22 = .ok (.goto 4, 3) := by decide +kernel
theorem d_NS_isBinder_25 : decode b_NS_isBinder 25 = .ok (.iconst 0, 1) := by decide +kernel
theorem d_NS_isBinder_26 : decode b_NS_isBinder 26 = .ok (.ireturn, 1) := by decide +kernel
theorem d_NS_hasParts_0 : decode b_NS_hasParts 0 = .ok (.iload_n 0, 1) := by decide +kernel
theorem d_NS_hasParts_1 : decode b_NS_hasParts 1 = .ok (.invokestatic 110, 3) := by decide +kernel
theorem d_NS_hasParts_4 : decode b_NS_hasParts 4 = .ok (.ifCond .ne 8, 3) := by decide +kernel
theorem d_NS_hasParts_7 : decode b_NS_hasParts 7 = .ok (.iload_n 0, 1) := by decide +kernel
theorem d_NS_hasParts_8 : decode b_NS_hasParts 8 = .ok (.iconst 4, 1) := by decide +kernel
theorem d_NS_hasParts_9 : decode b_NS_hasParts 9 = .ok (.if_icmp .ne 7, 3) := by decide +kernel
theorem d_NS_hasParts_12 : decode b_NS_hasParts 12 = .ok (.iconst 1, 1) := by decide +kernel
theorem d_NS_hasParts_13 : decode b_NS_hasParts 13 = .ok (.goto 4, 3) := by decide +kernel
theorem d_NS_hasParts_16 : decode b_NS_hasParts 16 = .ok (.iconst 0, 1) := by decide +kernel
theorem d_NS_hasParts_17 : decode b_NS_hasParts 17 = .ok (.ireturn, 1) := by decide +kernel
theorem d_NS_longer_0 : decode b_NS_longer 0 = .ok (.iload_n 1, 1) := by decide +kernel
theorem d_NS_longer_1 : decode b_NS_longer 1 = .ok (.iconst 2, 1) := by decide +kernel
theorem d_NS_longer_2 : decode b_NS_longer 2 = .ok (.iload_n 0, 1) := by decide +kernel
theorem d_NS_longer_3 : decode b_NS_longer 3 = .ok (.imul, 1) := by decide +kernel
theorem d_NS_longer_4 : decode b_NS_longer 4 = .ok (.invokestatic 141, 3) := by decide +kernel
theorem d_NS_longer_7 : decode b_NS_longer 7 = .ok (.ireturn, 1) := by decide +kernel
theorem d_NS_takeSpare_0 : decode b_NS_takeSpare 0 = .ok (.aload_n 0, 1) := by decide +kernel
theorem d_NS_takeSpare_1 : decode b_NS_takeSpare 1 = .ok (.getfield 45, 3) := by decide +kernel
theorem d_NS_takeSpare_4 : decode b_NS_takeSpare 4 = .ok (.astore_n 1, 1) := by decide +kernel
theorem d_NS_takeSpare_5 : decode b_NS_takeSpare 5 = .ok (.aload_n 0, 1) := by decide +kernel
theorem d_NS_takeSpare_6 : decode b_NS_takeSpare 6 = .ok (.aload_n 0, 1) := by decide +kernel
theorem d_NS_takeSpare_7 : decode b_NS_takeSpare 7 = .ok (.getfield 48, 3) := by decide +kernel
theorem d_NS_takeSpare_10 : decode b_NS_takeSpare 10 = .ok (.putfield 45, 3) := by decide +kernel
theorem d_NS_takeSpare_13 : decode b_NS_takeSpare 13 = .ok (.aload_n 0, 1) := by decide +kernel
theorem d_NS_takeSpare_14 : decode b_NS_takeSpare 14 = .ok (.aload_n 1, 1) := by decide +kernel
theorem d_NS_takeSpare_15 : decode b_NS_takeSpare 15 = .ok (.putfield 48, 3) := by decide +kernel
theorem d_NS_takeSpare_18 : decode b_NS_takeSpare 18 = .ok (.aload_n 0, 1) := by decide +kernel
theorem d_NS_takeSpare_19 : decode b_NS_takeSpare 19 = .ok (.getfield 45, 3) := by decide +kernel
theorem d_NS_takeSpare_22 : decode b_NS_takeSpare 22 = .ok (.invokevirtual 75, 3) := by decide +kernel
theorem d_NS_takeSpare_25 : decode b_NS_takeSpare 25 = .ok (.pop, 1) := by decide +kernel
theorem d_NS_takeSpare_26 : decode b_NS_takeSpare 26 = .ok (.return_, 1) := by decide +kernel
theorem d_NS_bindNode_0 : decode b_NS_bindNode 0 = .ok (.aload_n 0, 1) := by decide +kernel
theorem d_NS_bindNode_1 : decode b_NS_bindNode 1 = .ok (.getfield 26, 3) := by decide +kernel
theorem d_NS_bindNode_4 : decode b_NS_bindNode 4 = .ok (.iload_n 1, 1) := by decide +kernel
theorem d_NS_bindNode_5 : decode b_NS_bindNode 5 = .ok (.invokevirtual 99, 3) := by decide +kernel
theorem d_NS_bindNode_8 : decode b_NS_bindNode 8 = .ok (.istore_n 2, 1) := by decide +kernel
theorem d_NS_bindNode_9 : decode b_NS_bindNode 9 = .ok (.aload_n 0, 1) := by decide +kernel
theorem d_NS_bindNode_10 : decode b_NS_bindNode 10 = .ok (.getfield 26, 3) := by decide +kernel
theorem d_NS_bindNode_13 : decode b_NS_bindNode 13 = .ok (.iload_n 1, 1) := by decide +kernel
theorem d_NS_bindNode_14 : decode b_NS_bindNode 14 = .ok (.invokevirtual 103, 3) := by decide +kernel
theorem d_NS_bindNode_17 : decode b_NS_bindNode 17 = .ok (.lstore_n 3, 1) := by decide +kernel
theorem d_NS_bindNode_18 : decode b_NS_bindNode 18 = .ok (.iload_n 2, 1) := by decide +kernel
theorem d_NS_bindNode_19 : decode b_NS_bindNode 19 = .ok (.tableswitch 73 0 6 #[41, 48, 48, 48, 73, 73, 62], 41) := by decide +kernel
theorem d_NS_bindNode_60 : decode b_NS_bindNode 60 = .ok (.aload_n 0, 1) := by decide +kernel
theorem d_NS_bindNode_61 : decode b_NS_bindNode 61 = .ok (.iload_n 1, 1) := by decide +kernel
theorem d_NS_bindNode_62 : decode b_NS_bindNode 62 = .ok (.lload_n 3, 1) := by decide +kernel
theorem d_NS_bindNode_63 : decode b_NS_bindNode 63 = .ok (.invokevirtual 147, 3) := by decide +kernel
theorem d_NS_bindNode_66 : decode b_NS_bindNode 66 = .ok (.ireturn, 1) := by decide +kernel
theorem d_NS_bindNode_67 : decode b_NS_bindNode 67 = .ok (.aload_n 0, 1) := by decide +kernel
theorem d_NS_bindNode_68 : decode b_NS_bindNode 68 = .ok (.getfield 48, 3) := by decide +kernel
theorem d_NS_bindNode_71 : decode b_NS_bindNode 71 = .ok (.iload_n 2, 1) := by decide +kernel
theorem d_NS_bindNode_72 : decode b_NS_bindNode 72 = .ok (.lload_n 3, 1) := by decide +kernel
theorem d_NS_bindNode_73 : decode b_NS_bindNode 73 = .ok (.invokestatic 150, 3) := by decide +kernel
theorem d_NS_bindNode_76 : decode b_NS_bindNode 76 = .ok (.invokevirtual 69, 3) := by decide +kernel
theorem d_NS_bindNode_79 : decode b_NS_bindNode 79 = .ok (.iconst 1, 1) := by decide +kernel
theorem d_NS_bindNode_80 : decode b_NS_bindNode 80 = .ok (.ireturn, 1) := by decide +kernel
theorem d_NS_bindNode_81 : decode b_NS_bindNode 81 = .ok (.aload_n 0, 1) := by decide +kernel
theorem d_NS_bindNode_82 : decode b_NS_bindNode 82 = .ok (.getfield 48, 3) := by decide +kernel
theorem d_NS_bindNode_85 : decode b_NS_bindNode 85 = .ok (.iconst 2, 1) := by decide +kernel
theorem d_NS_bindNode_86 : decode b_NS_bindNode 86 = .ok (.lconst 0, 1) := by decide +kernel
theorem d_NS_bindNode_87 : decode b_NS_bindNode 87 = .ok (.invokevirtual 69, 3) := by decide +kernel
theorem d_NS_bindNode_90 : decode b_NS_bindNode 90 = .ok (.iconst 1, 1) := by decide +kernel
theorem d_NS_bindNode_91 : decode b_NS_bindNode 91 = .ok (.ireturn, 1) := by decide +kernel
theorem d_NS_bindNode_92 : decode b_NS_bindNode 92 = .ok (.aload_n 0, 1) := by decide +kernel
theorem d_NS_bindNode_93 : decode b_NS_bindNode 93 = .ok (.getfield 48, 3) := by decide +kernel
theorem d_NS_bindNode_96 : decode b_NS_bindNode 96 = .ok (.iload_n 2, 1) := by decide +kernel
theorem d_NS_bindNode_97 : decode b_NS_bindNode 97 = .ok (.lload_n 3, 1) := by decide +kernel
theorem d_NS_bindNode_98 : decode b_NS_bindNode 98 = .ok (.invokevirtual 69, 3) := by decide +kernel
theorem d_NS_bindNode_101 : decode b_NS_bindNode 101 = .ok (.iconst 1, 1) := by decide +kernel
theorem d_NS_bindNode_102 : decode b_NS_bindNode 102 = .ok (.ireturn, 1) := by decide +kernel
theorem d_NS_bindName_0 : decode b_NS_bindName 0 = .ok (.aload_n 0, 1) := by decide +kernel
theorem d_NS_bindName_1 : decode b_NS_bindName 1 = .ok (.getfield 32, 3) := by decide +kernel
theorem d_NS_bindName_4 : decode b_NS_bindName 4 = .ok (.lload_n 2, 1) := by decide +kernel
theorem d_NS_bindName_5 : decode b_NS_bindName 5 = .ok (.aload_n 0, 1) := by decide +kernel
theorem d_NS_bindName_6 : decode b_NS_bindName 6 = .ok (.getfield 26, 3) := by decide +kernel
theorem d_NS_bindName_9 : decode b_NS_bindName 9 = .ok (.iload_n 1, 1) := by decide +kernel
theorem d_NS_bindName_10 : decode b_NS_bindName 10 = .ok (.invokevirtual 154, 3) := by decide +kernel
theorem d_NS_bindName_13 : decode b_NS_bindName 13 = .ok (.istore 4, 2) := by decide +kernel
theorem d_NS_bindName_15 : decode b_NS_bindName 15 = .ok (.iload 4, 2) := by decide +kernel
theorem d_NS_bindName_17 : decode b_NS_bindName 17 = .ok (.iconst (-1), 1) := by decide +kernel
theorem d_NS_bindName_18 : decode b_NS_bindName 18 = .ok (.if_icmp .eq 16, 3) := by decide +kernel
theorem d_NS_bindName_21 : decode b_NS_bindName 21 = .ok (.aload_n 0, 1) := by decide +kernel
theorem d_NS_bindName_22 : decode b_NS_bindName 22 = .ok (.getfield 48, 3) := by decide +kernel
theorem d_NS_bindName_25 : decode b_NS_bindName 25 = .ok (.iconst 0, 1) := by decide +kernel
theorem d_NS_bindName_26 : decode b_NS_bindName 26 = .ok (.iload 4, 2) := by decide +kernel
theorem d_NS_bindName_28 : decode b_NS_bindName 28 = .ok (.i2l, 1) := by decide +kernel
theorem d_NS_bindName_29 : decode b_NS_bindName 29 = .ok (.invokevirtual 69, 3) := by decide +kernel
theorem d_NS_bindName_32 : decode b_NS_bindName 32 = .ok (.iconst 1, 1) := by decide +kernel
theorem d_NS_bindName_33 : decode b_NS_bindName 33 = .ok (.ireturn, 1) := by decide +kernel
theorem d_NS_bindName_34 : decode b_NS_bindName 34 = .ok (.aload_n 0, 1) := by decide +kernel
theorem d_NS_bindName_35 : decode b_NS_bindName 35 = .ok (.getfield 10, 3) := by decide +kernel
theorem d_NS_bindName_38 : decode b_NS_bindName 38 = .ok (.lload_n 2, 1) := by decide +kernel
theorem d_NS_bindName_39 : decode b_NS_bindName 39 = .ok (.invokevirtual 158, 3) := by decide +kernel
theorem d_NS_bindName_42 : decode b_NS_bindName 42 = .ok (.istore 5, 2) := by decide +kernel
theorem d_NS_bindName_44 : decode b_NS_bindName 44 = .ok (.iload 5, 2) := by decide +kernel
theorem d_NS_bindName_46 : decode b_NS_bindName 46 = .ok (.iconst (-1), 1) := by decide +kernel
theorem d_NS_bindName_47 : decode b_NS_bindName 47 = .ok (.if_icmp .ne 5, 3) := by decide +kernel
theorem d_NS_bindName_50 : decode b_NS_bindName 50 = .ok (.iconst 0, 1) := by decide +kernel
theorem d_NS_bindName_51 : decode b_NS_bindName 51 = .ok (.ireturn, 1) := by decide +kernel
theorem d_NS_bindName_52 : decode b_NS_bindName 52 = .ok (.aload_n 0, 1) := by decide +kernel
theorem d_NS_bindName_53 : decode b_NS_bindName 53 = .ok (.getfield 48, 3) := by decide +kernel
theorem d_NS_bindName_56 : decode b_NS_bindName 56 = .ok (.bipush 7, 2) := by decide +kernel
theorem d_NS_bindName_58 : decode b_NS_bindName 58 = .ok (.iload 5, 2) := by decide +kernel
theorem d_NS_bindName_60 : decode b_NS_bindName 60 = .ok (.i2l, 1) := by decide +kernel
theorem d_NS_bindName_61 : decode b_NS_bindName 61 = .ok (.invokevirtual 69, 3) := by decide +kernel
theorem d_NS_bindName_64 : decode b_NS_bindName 64 = .ok (.iconst 1, 1) := by decide +kernel
theorem d_NS_bindName_65 : decode b_NS_bindName 65 = .ok (.ireturn, 1) := by decide +kernel
theorem d_NS_contractible_0 : decode b_NS_contractible 0 = .ok (.aload_n 0, 1) := by decide +kernel
theorem d_NS_contractible_1 : decode b_NS_contractible 1 = .ok (.getfield 45, 3) := by decide +kernel
theorem d_NS_contractible_4 : decode b_NS_contractible 4 = .ok (.iload_n 1, 1) := by decide +kernel
theorem d_NS_contractible_5 : decode b_NS_contractible 5 = .ok (.invokevirtual 94, 3) := by decide +kernel
theorem d_NS_contractible_8 : decode b_NS_contractible 8 = .ok (.ifCond .ne 5, 3) := by decide +kernel
theorem d_NS_contractible_11 : decode b_NS_contractible 11 = .ok (.iconst (-1), 1) := by decide +kernel
theorem d_NS_contractible_12 : decode b_NS_contractible 12 = .ok (.ireturn, 1) := by decide +kernel
theorem d_NS_contractible_13 : decode b_NS_contractible 13 = .ok (.aload_n 0, 1) := by decide +kernel
theorem d_NS_contractible_14 : decode b_NS_contractible 14 = .ok (.getfield 45, 3) := by decide +kernel
theorem d_NS_contractible_17 : decode b_NS_contractible 17 = .ok (.iload_n 1, 1) := by decide +kernel
theorem d_NS_contractible_18 : decode b_NS_contractible 18 = .ok (.invokevirtual 99, 3) := by decide +kernel
theorem d_NS_contractible_21 : decode b_NS_contractible 21 = .ok (.iconst 3, 1) := by decide +kernel
theorem d_NS_contractible_22 : decode b_NS_contractible 22 = .ok (.if_icmp .ne 5, 3) := by decide +kernel
theorem d_NS_contractible_25 : decode b_NS_contractible 25 = .ok (.iload_n 1, 1) := by decide +kernel
theorem d_NS_contractible_26 : decode b_NS_contractible 26 = .ok (.ireturn, 1) := by decide +kernel
theorem d_NS_contractible_27 : decode b_NS_contractible 27 = .ok (.aload_n 0, 1) := by decide +kernel
theorem d_NS_contractible_28 : decode b_NS_contractible 28 = .ok (.getfield 45, 3) := by decide +kernel
theorem d_NS_contractible_31 : decode b_NS_contractible 31 = .ok (.iload_n 1, 1) := by decide +kernel
theorem d_NS_contractible_32 : decode b_NS_contractible 32 = .ok (.invokevirtual 99, 3) := by decide +kernel
theorem d_NS_contractible_35 : decode b_NS_contractible 35 = .ok (.iconst 4, 1) := by decide +kernel
theorem d_NS_contractible_36 : decode b_NS_contractible 36 = .ok (.if_icmp .ne 23, 3) := by decide +kernel
theorem d_NS_contractible_39 : decode b_NS_contractible 39 = .ok (.aload_n 0, 1) := by decide +kernel
theorem d_NS_contractible_40 : decode b_NS_contractible 40 = .ok (.getfield 45, 3) := by decide +kernel
theorem d_NS_contractible_43 : decode b_NS_contractible 43 = .ok (.iload_n 1, 1) := by decide +kernel
theorem d_NS_contractible_44 : decode b_NS_contractible 44 = .ok (.iconst 1, 1) := by decide +kernel
theorem d_NS_contractible_45 : decode b_NS_contractible 45 = .ok (.iadd, 1) := by decide +kernel
theorem d_NS_contractible_46 : decode b_NS_contractible 46 = .ok (.invokevirtual 99, 3) := by decide +kernel
theorem d_NS_contractible_49 : decode b_NS_contractible 49 = .ok (.iconst 1, 1) := by decide +kernel
theorem d_NS_contractible_50 : decode b_NS_contractible 50 = .ok (.if_icmp .ne 9, 3) := by decide +kernel
theorem d_NS_contractible_53 : decode b_NS_contractible 53 = .ok (.iload_n 1, 1) := by decide +kernel
theorem d_NS_contractible_54 : decode b_NS_contractible 54 = .ok (.iconst 1, 1) := by decide +kernel
theorem d_NS_contractible_55 : decode b_NS_contractible 55 = .ok (.iadd, 1) := by decide +kernel
theorem d_NS_contractible_56 : decode b_NS_contractible 56 = .ok (.goto 4, 3) := by decide +kernel
theorem d_NS_contractible_59 : decode b_NS_contractible 59 = .ok (.iconst (-1), 1) := by decide +kernel
theorem d_NS_contractible_60 : decode b_NS_contractible 60 = .ok (.ireturn, 1) := by decide +kernel
theorem d_NS_countUses_0 : decode b_NS_countUses 0 = .ok (.aload_n 0, 1) := by decide +kernel
theorem d_NS_countUses_1 : decode b_NS_countUses 1 = .ok (.getfield 32, 3) := by decide +kernel
theorem d_NS_countUses_4 : decode b_NS_countUses 4 = .ok (.iload_n 1, 1) := by decide +kernel
theorem d_NS_countUses_5 : decode b_NS_countUses 5 = .ok (.invokevirtual 161, 3) := by decide +kernel
theorem d_NS_countUses_8 : decode b_NS_countUses 8 = .ok (.iconst 1, 1) := by decide +kernel
theorem d_NS_countUses_9 : decode b_NS_countUses 9 = .ok (.iadd, 1) := by decide +kernel
theorem d_NS_countUses_10 : decode b_NS_countUses 10 = .ok (.istore_n 2, 1) := by decide +kernel
theorem d_NS_countUses_11 : decode b_NS_countUses 11 = .ok (.aload_n 0, 1) := by decide +kernel
theorem d_NS_countUses_12 : decode b_NS_countUses 12 = .ok (.getfield 45, 3) := by decide +kernel
theorem d_NS_countUses_15 : decode b_NS_countUses 15 = .ok (.iload_n 1, 1) := by decide +kernel
theorem d_NS_countUses_16 : decode b_NS_countUses 16 = .ok (.invokevirtual 122, 3) := by decide +kernel
theorem d_NS_countUses_19 : decode b_NS_countUses 19 = .ok (.istore_n 3, 1) := by decide +kernel
theorem d_NS_countUses_20 : decode b_NS_countUses 20 = .ok (.iconst 0, 1) := by decide +kernel
theorem d_NS_countUses_21 : decode b_NS_countUses 21 = .ok (.istore 4, 2) := by decide +kernel
theorem d_NS_countUses_23 : decode b_NS_countUses 23 = .ok (.aload_n 0, 1) := by decide +kernel
theorem d_NS_countUses_24 : decode b_NS_countUses 24 = .ok (.getfield 45, 3) := by decide +kernel
theorem d_NS_countUses_27 : decode b_NS_countUses 27 = .ok (.iload_n 1, 1) := by decide +kernel
theorem d_NS_countUses_28 : decode b_NS_countUses 28 = .ok (.invokevirtual 119, 3) := by decide +kernel
theorem d_NS_countUses_31 : decode b_NS_countUses 31 = .ok (.istore 5, 2) := by decide +kernel
theorem d_NS_countUses_33 : decode b_NS_countUses 33 = .ok (.iload 5, 2) := by decide +kernel
theorem d_NS_countUses_35 : decode b_NS_countUses 35 = .ok (.iload_n 3, 1) := by decide +kernel
theorem d_NS_countUses_36 : decode b_NS_countUses 36 = .ok (.if_icmp .ge 49, 3) := by decide +kernel
theorem d_NS_countUses_39 : decode b_NS_countUses 39 = .ok (.aload_n 0, 1) := by decide +kernel
theorem d_NS_countUses_40 : decode b_NS_countUses 40 = .ok (.getfield 45, 3) := by decide +kernel
theorem d_NS_countUses_43 : decode b_NS_countUses 43 = .ok (.iload 5, 2) := by decide +kernel
theorem d_NS_countUses_45 : decode b_NS_countUses 45 = .ok (.invokevirtual 99, 3) := by decide +kernel
theorem d_NS_countUses_48 : decode b_NS_countUses 48 = .ok (.ifCond .ne 31, 3) := by decide +kernel
theorem d_NS_countUses_51 : decode b_NS_countUses 51 = .ok (.aload_n 0, 1) := by decide +kernel
theorem d_NS_countUses_52 : decode b_NS_countUses 52 = .ok (.getfield 45, 3) := by decide +kernel
theorem d_NS_countUses_55 : decode b_NS_countUses 55 = .ok (.iload 5, 2) := by decide +kernel
theorem d_NS_countUses_57 : decode b_NS_countUses 57 = .ok (.invokevirtual 103, 3) := by decide +kernel
theorem d_NS_countUses_60 : decode b_NS_countUses 60 = .ok (.aload_n 0, 1) := by decide +kernel
theorem d_NS_countUses_61 : decode b_NS_countUses 61 = .ok (.getfield 32, 3) := by decide +kernel
theorem d_NS_countUses_64 : decode b_NS_countUses 64 = .ok (.iload 5, 2) := by decide +kernel
theorem d_NS_countUses_66 : decode b_NS_countUses 66 = .ok (.invokevirtual 161, 3) := by decide +kernel
end
section
theorem d_NS_countUses_69 : decode b_NS_countUses 69 = .ok (.iload_n 2, 1) := by decide +kernel
theorem d_NS_countUses_70 : decode b_NS_countUses 70 = .ok (.isub, 1) := by decide +kernel
theorem d_NS_countUses_71 : decode b_NS_countUses 71 = .ok (.i2l, 1) := by decide +kernel
theorem d_NS_countUses_72 : decode b_NS_countUses 72 = .ok (.lcmp, 1) := by decide +kernel
theorem d_NS_countUses_73 : decode b_NS_countUses 73 = .ok (.ifCond .ne 6, 3) := by decide +kernel
theorem d_NS_countUses_76 : decode b_NS_countUses 76 = .ok (.iinc 4 1, 3) := by decide +kernel
theorem d_NS_countUses_79 : decode b_NS_countUses 79 = .ok (.iinc 5 1, 3) := by decide +kernel
theorem d_NS_countUses_82 : decode b_NS_countUses 82 = .ok (.goto (-49), 3) := by decide +kernel
theorem d_NS_countUses_85 : decode b_NS_countUses 85 = .ok (.iload 4, 2) := by decide +kernel
theorem d_NS_countUses_87 : decode b_NS_countUses 87 = .ok (.ireturn, 1) := by decide +kernel
theorem d_NS_copy_0 : decode b_NS_copy 0 = .ok (.iload_n 1, 1) := by decide +kernel
theorem d_NS_copy_1 : decode b_NS_copy 1 = .ok (.istore_n 3, 1) := by decide +kernel
theorem d_NS_copy_2 : decode b_NS_copy 2 = .ok (.iload_n 3, 1) := by decide +kernel
theorem d_NS_copy_3 : decode b_NS_copy 3 = .ok (.iload_n 2, 1) := by decide +kernel
theorem d_NS_copy_4 : decode b_NS_copy 4 = .ok (.if_icmp .ge 32, 3) := by decide +kernel
theorem d_NS_copy_7 : decode b_NS_copy 7 = .ok (.aload_n 0, 1) := by decide +kernel
theorem d_NS_copy_8 : decode b_NS_copy 8 = .ok (.getfield 48, 3) := by decide +kernel
theorem d_NS_copy_11 : decode b_NS_copy 11 = .ok (.aload_n 0, 1) := by decide +kernel
theorem d_NS_copy_12 : decode b_NS_copy 12 = .ok (.getfield 45, 3) := by decide +kernel
theorem d_NS_copy_15 : decode b_NS_copy 15 = .ok (.iload_n 3, 1) := by decide +kernel
theorem d_NS_copy_16 : decode b_NS_copy 16 = .ok (.invokevirtual 99, 3) := by decide +kernel
theorem d_NS_copy_19 : decode b_NS_copy 19 = .ok (.aload_n 0, 1) := by decide +kernel
theorem d_NS_copy_20 : decode b_NS_copy 20 = .ok (.getfield 45, 3) := by decide +kernel
theorem d_NS_copy_23 : decode b_NS_copy 23 = .ok (.iload_n 3, 1) := by decide +kernel
theorem d_NS_copy_24 : decode b_NS_copy 24 = .ok (.invokevirtual 103, 3) := by decide +kernel
theorem d_NS_copy_27 : decode b_NS_copy 27 = .ok (.invokevirtual 69, 3) := by decide +kernel
theorem d_NS_copy_30 : decode b_NS_copy 30 = .ok (.iinc 3 1, 3) := by decide +kernel
theorem d_NS_copy_33 : decode b_NS_copy 33 = .ok (.goto (-31), 3) := by decide +kernel
theorem d_NS_copy_36 : decode b_NS_copy 36 = .ok (.return_, 1) := by decide +kernel
theorem d_NS_copyLastPart_0 : decode b_NS_copyLastPart 0 = .ok (.aload_n 0, 1) := by decide +kernel
theorem d_NS_copyLastPart_1 : decode b_NS_copyLastPart 1 = .ok (.getfield 32, 3) := by decide +kernel
theorem d_NS_copyLastPart_4 : decode b_NS_copyLastPart 4 = .ok (.iload_n 1, 1) := by decide +kernel
theorem d_NS_copyLastPart_5 : decode b_NS_copyLastPart 5 = .ok (.invokevirtual 161, 3) := by decide +kernel
theorem d_NS_copyLastPart_8 : decode b_NS_copyLastPart 8 = .ok (.iconst 1, 1) := by decide +kernel
theorem d_NS_copyLastPart_9 : decode b_NS_copyLastPart 9 = .ok (.iadd, 1) := by decide +kernel
theorem d_NS_copyLastPart_10 : decode b_NS_copyLastPart 10 = .ok (.istore_n 3, 1) := by decide +kernel
theorem d_NS_copyLastPart_11 : decode b_NS_copyLastPart 11 = .ok (.aload_n 0, 1) := by decide +kernel
theorem d_NS_copyLastPart_12 : decode b_NS_copyLastPart 12 = .ok (.getfield 45, 3) := by decide +kernel
theorem d_NS_copyLastPart_15 : decode b_NS_copyLastPart 15 = .ok (.iload_n 1, 1) := by decide +kernel
theorem d_NS_copyLastPart_16 : decode b_NS_copyLastPart 16 = .ok (.invokevirtual 122, 3) := by decide +kernel
theorem d_NS_copyLastPart_19 : decode b_NS_copyLastPart 19 = .ok (.istore 4, 2) := by decide +kernel
theorem d_NS_copyLastPart_21 : decode b_NS_copyLastPart 21 = .ok (.aload_n 0, 1) := by decide +kernel
theorem d_NS_copyLastPart_22 : decode b_NS_copyLastPart 22 = .ok (.getfield 45, 3) := by decide +kernel
theorem d_NS_copyLastPart_25 : decode b_NS_copyLastPart 25 = .ok (.iload_n 1, 1) := by decide +kernel
theorem d_NS_copyLastPart_26 : decode b_NS_copyLastPart 26 = .ok (.invokevirtual 119, 3) := by decide +kernel
theorem d_NS_copyLastPart_29 : decode b_NS_copyLastPart 29 = .ok (.istore 5, 2) := by decide +kernel
theorem d_NS_copyLastPart_31 : decode b_NS_copyLastPart 31 = .ok (.iload 5, 2) := by decide +kernel
theorem d_NS_copyLastPart_33 : decode b_NS_copyLastPart 33 = .ok (.iload 4, 2) := by decide +kernel
theorem d_NS_copyLastPart_35 : decode b_NS_copyLastPart 35 = .ok (.if_icmp .ge 103, 3) := by decide +kernel
theorem d_NS_copyLastPart_38 : decode b_NS_copyLastPart 38 = .ok (.aload_n 0, 1) := by decide +kernel
theorem d_NS_copyLastPart_39 : decode b_NS_copyLastPart 39 = .ok (.getfield 45, 3) := by decide +kernel
theorem d_NS_copyLastPart_42 : decode b_NS_copyLastPart 42 = .ok (.iload 5, 2) := by decide +kernel
theorem d_NS_copyLastPart_44 : decode b_NS_copyLastPart 44 = .ok (.invokevirtual 99, 3) := by decide +kernel
theorem d_NS_copyLastPart_47 : decode b_NS_copyLastPart 47 = .ok (.istore 6, 2) := by decide +kernel
theorem d_NS_copyLastPart_49 : decode b_NS_copyLastPart 49 = .ok (.aload_n 0, 1) := by decide +kernel
theorem d_NS_copyLastPart_50 : decode b_NS_copyLastPart 50 = .ok (.getfield 45, 3) := by decide +kernel
theorem d_NS_copyLastPart_53 : decode b_NS_copyLastPart 53 = .ok (.iload 5, 2) := by decide +kernel
theorem d_NS_copyLastPart_55 : decode b_NS_copyLastPart 55 = .ok (.invokevirtual 103, 3) := by decide +kernel
theorem d_NS_copyLastPart_58 : decode b_NS_copyLastPart 58 = .ok (.lstore 7, 2) := by decide +kernel
theorem d_NS_copyLastPart_60 : decode b_NS_copyLastPart 60 = .ok (.aload_n 0, 1) := by decide +kernel
theorem d_NS_copyLastPart_61 : decode b_NS_copyLastPart 61 = .ok (.getfield 32, 3) := by decide +kernel
theorem d_NS_copyLastPart_64 : decode b_NS_copyLastPart 64 = .ok (.iload 5, 2) := by decide +kernel
theorem d_NS_copyLastPart_66 : decode b_NS_copyLastPart 66 = .ok (.invokevirtual 161, 3) := by decide +kernel
theorem d_NS_copyLastPart_69 : decode b_NS_copyLastPart 69 = .ok (.iload_n 3, 1) := by decide +kernel
theorem d_NS_copyLastPart_70 : decode b_NS_copyLastPart 70 = .ok (.isub, 1) := by decide +kernel
theorem d_NS_copyLastPart_71 : decode b_NS_copyLastPart 71 = .ok (.istore 9, 2) := by decide +kernel
theorem d_NS_copyLastPart_73 : decode b_NS_copyLastPart 73 = .ok (.iload 6, 2) := by decide +kernel
theorem d_NS_copyLastPart_75 : decode b_NS_copyLastPart 75 = .ok (.ifCond .ne 12, 3) := by decide +kernel
theorem d_NS_copyLastPart_78 : decode b_NS_copyLastPart 78 = .ok (.lload 7, 2) := by decide +kernel
theorem d_NS_copyLastPart_80 : decode b_NS_copyLastPart 80 = .ok (.iload 9, 2) := by decide +kernel
theorem d_NS_copyLastPart_82 : decode b_NS_copyLastPart 82 = .ok (.i2l, 1) := by decide +kernel
theorem d_NS_copyLastPart_83 : decode b_NS_copyLastPart 83 = .ok (.lcmp, 1) := by decide +kernel
theorem d_NS_copyLastPart_84 : decode b_NS_copyLastPart 84 = .ok (.ifCond .ge 17, 3) := by decide +kernel
theorem d_NS_copyLastPart_87 : decode b_NS_copyLastPart 87 = .ok (.aload_n 0, 1) := by decide +kernel
theorem d_NS_copyLastPart_88 : decode b_NS_copyLastPart 88 = .ok (.getfield 48, 3) := by decide +kernel
theorem d_NS_copyLastPart_91 : decode b_NS_copyLastPart 91 = .ok (.iload 6, 2) := by decide +kernel
theorem d_NS_copyLastPart_93 : decode b_NS_copyLastPart 93 = .ok (.lload 7, 2) := by decide +kernel
theorem d_NS_copyLastPart_95 : decode b_NS_copyLastPart 95 = .ok (.invokevirtual 69, 3) := by decide +kernel
theorem d_NS_copyLastPart_98 : decode b_NS_copyLastPart 98 = .ok (.goto 34, 3) := by decide +kernel
theorem d_NS_copyLastPart_101 : decode b_NS_copyLastPart 101 = .ok (.lload 7, 2) := by decide +kernel
theorem d_NS_copyLastPart_103 : decode b_NS_copyLastPart 103 = .ok (.iload 9, 2) := by decide +kernel
theorem d_NS_copyLastPart_105 : decode b_NS_copyLastPart 105 = .ok (.i2l, 1) := by decide +kernel
theorem d_NS_copyLastPart_106 : decode b_NS_copyLastPart 106 = .ok (.lcmp, 1) := by decide +kernel
theorem d_NS_copyLastPart_107 : decode b_NS_copyLastPart 107 = .ok (.ifCond .ne 13, 3) := by decide +kernel
theorem d_NS_copyLastPart_110 : decode b_NS_copyLastPart 110 = .ok (.aload_n 0, 1) := by decide +kernel
theorem d_NS_copyLastPart_111 : decode b_NS_copyLastPart 111 = .ok (.iload_n 2, 1) := by decide +kernel
theorem d_NS_copyLastPart_112 : decode b_NS_copyLastPart 112 = .ok (.iload 9, 2) := by decide +kernel
theorem d_NS_copyLastPart_114 : decode b_NS_copyLastPart 114 = .ok (.invokevirtual 164, 3) := by decide +kernel
theorem d_NS_copyLastPart_117 : decode b_NS_copyLastPart 117 = .ok (.goto 15, 3) := by decide +kernel
theorem d_NS_copyLastPart_120 : decode b_NS_copyLastPart 120 = .ok (.aload_n 0, 1) := by decide +kernel
theorem d_NS_copyLastPart_121 : decode b_NS_copyLastPart 121 = .ok (.getfield 48, 3) := by decide +kernel
theorem d_NS_copyLastPart_124 : decode b_NS_copyLastPart 124 = .ok (.iconst 0, 1) := by decide +kernel
theorem d_NS_copyLastPart_125 : decode b_NS_copyLastPart 125 = .ok (.lload 7, 2) := by decide +kernel
theorem d_NS_copyLastPart_127 : decode b_NS_copyLastPart 127 = .ok (.lconst 1, 1) := by decide +kernel
theorem d_NS_copyLastPart_128 : decode b_NS_copyLastPart 128 = .ok (.lsub, 1) := by decide +kernel
theorem d_NS_copyLastPart_129 : decode b_NS_copyLastPart 129 = .ok (.invokevirtual 69, 3) := by decide +kernel
theorem d_NS_copyLastPart_132 : decode b_NS_copyLastPart 132 = .ok (.iinc 5 1, 3) := by decide +kernel
theorem d_NS_copyLastPart_135 : decode b_NS_copyLastPart 135 = .ok (.goto (-104), 3) := by decide +kernel
theorem d_NS_copyLastPart_138 : decode b_NS_copyLastPart 138 = .ok (.return_, 1) := by decide +kernel
theorem d_NS_copyDeeper_0 : decode b_NS_copyDeeper 0 = .ok (.aload_n 0, 1) := by decide +kernel
theorem d_NS_copyDeeper_1 : decode b_NS_copyDeeper 1 = .ok (.getfield 32, 3) := by decide +kernel
theorem d_NS_copyDeeper_4 : decode b_NS_copyDeeper 4 = .ok (.iload_n 1, 1) := by decide +kernel
theorem d_NS_copyDeeper_5 : decode b_NS_copyDeeper 5 = .ok (.invokevirtual 161, 3) := by decide +kernel
theorem d_NS_copyDeeper_8 : decode b_NS_copyDeeper 8 = .ok (.istore_n 3, 1) := by decide +kernel
theorem d_NS_copyDeeper_9 : decode b_NS_copyDeeper 9 = .ok (.aload_n 0, 1) := by decide +kernel
theorem d_NS_copyDeeper_10 : decode b_NS_copyDeeper 10 = .ok (.getfield 45, 3) := by decide +kernel
theorem d_NS_copyDeeper_13 : decode b_NS_copyDeeper 13 = .ok (.iload_n 1, 1) := by decide +kernel
theorem d_NS_copyDeeper_14 : decode b_NS_copyDeeper 14 = .ok (.invokevirtual 122, 3) := by decide +kernel
theorem d_NS_copyDeeper_17 : decode b_NS_copyDeeper 17 = .ok (.istore 4, 2) := by decide +kernel
theorem d_NS_copyDeeper_19 : decode b_NS_copyDeeper 19 = .ok (.iload_n 1, 1) := by decide +kernel
theorem d_NS_copyDeeper_20 : decode b_NS_copyDeeper 20 = .ok (.istore 5, 2) := by decide +kernel
theorem d_NS_copyDeeper_22 : decode b_NS_copyDeeper 22 = .ok (.iload 5, 2) := by decide +kernel
theorem d_NS_copyDeeper_24 : decode b_NS_copyDeeper 24 = .ok (.iload 4, 2) := by decide +kernel
theorem d_NS_copyDeeper_26 : decode b_NS_copyDeeper 26 = .ok (.if_icmp .ge 88, 3) := by decide +kernel
theorem d_NS_copyDeeper_29 : decode b_NS_copyDeeper 29 = .ok (.aload_n 0, 1) := by decide +kernel
theorem d_NS_copyDeeper_30 : decode b_NS_copyDeeper 30 = .ok (.getfield 45, 3) := by decide +kernel
theorem d_NS_copyDeeper_33 : decode b_NS_copyDeeper 33 = .ok (.iload 5, 2) := by decide +kernel
theorem d_NS_copyDeeper_35 : decode b_NS_copyDeeper 35 = .ok (.invokevirtual 103, 3) := by decide +kernel
theorem d_NS_copyDeeper_38 : decode b_NS_copyDeeper 38 = .ok (.lstore 6, 2) := by decide +kernel
theorem d_NS_copyDeeper_40 : decode b_NS_copyDeeper 40 = .ok (.aload_n 0, 1) := by decide +kernel
theorem d_NS_copyDeeper_41 : decode b_NS_copyDeeper 41 = .ok (.getfield 45, 3) := by decide +kernel
theorem d_NS_copyDeeper_44 : decode b_NS_copyDeeper 44 = .ok (.iload 5, 2) := by decide +kernel
theorem d_NS_copyDeeper_46 : decode b_NS_copyDeeper 46 = .ok (.invokevirtual 99, 3) := by decide +kernel
theorem d_NS_copyDeeper_49 : decode b_NS_copyDeeper 49 = .ok (.ifCond .ne 25, 3) := by decide +kernel
theorem d_NS_copyDeeper_52 : decode b_NS_copyDeeper 52 = .ok (.lload 6, 2) := by decide +kernel
theorem d_NS_copyDeeper_54 : decode b_NS_copyDeeper 54 = .ok (.aload_n 0, 1) := by decide +kernel
theorem d_NS_copyDeeper_55 : decode b_NS_copyDeeper 55 = .ok (.getfield 32, 3) := by decide +kernel
theorem d_NS_copyDeeper_58 : decode b_NS_copyDeeper 58 = .ok (.iload 5, 2) := by decide +kernel
theorem d_NS_copyDeeper_60 : decode b_NS_copyDeeper 60 = .ok (.invokevirtual 161, 3) := by decide +kernel
theorem d_NS_copyDeeper_63 : decode b_NS_copyDeeper 63 = .ok (.iload_n 3, 1) := by decide +kernel
theorem d_NS_copyDeeper_64 : decode b_NS_copyDeeper 64 = .ok (.isub, 1) := by decide +kernel
theorem d_NS_copyDeeper_65 : decode b_NS_copyDeeper 65 = .ok (.i2l, 1) := by decide +kernel
theorem d_NS_copyDeeper_66 : decode b_NS_copyDeeper 66 = .ok (.lcmp, 1) := by decide +kernel
theorem d_NS_copyDeeper_67 : decode b_NS_copyDeeper 67 = .ok (.ifCond .lt 7, 3) := by decide +kernel
theorem d_NS_copyDeeper_70 : decode b_NS_copyDeeper 70 = .ok (.iconst 1, 1) := by decide +kernel
theorem d_NS_copyDeeper_71 : decode b_NS_copyDeeper 71 = .ok (.goto 4, 3) := by decide +kernel
theorem d_NS_copyDeeper_74 : decode b_NS_copyDeeper 74 = .ok (.iconst 0, 1) := by decide +kernel
theorem d_NS_copyDeeper_75 : decode b_NS_copyDeeper 75 = .ok (.istore 8, 2) := by decide +kernel
theorem d_NS_copyDeeper_77 : decode b_NS_copyDeeper 77 = .ok (.aload_n 0, 1) := by decide +kernel
theorem d_NS_copyDeeper_78 : decode b_NS_copyDeeper 78 = .ok (.getfield 48, 3) := by decide +kernel
theorem d_NS_copyDeeper_81 : decode b_NS_copyDeeper 81 = .ok (.aload_n 0, 1) := by decide +kernel
theorem d_NS_copyDeeper_82 : decode b_NS_copyDeeper 82 = .ok (.getfield 45, 3) := by decide +kernel
theorem d_NS_copyDeeper_85 : decode b_NS_copyDeeper 85 = .ok (.iload 5, 2) := by decide +kernel
theorem d_NS_copyDeeper_87 : decode b_NS_copyDeeper 87 = .ok (.invokevirtual 99, 3) := by decide +kernel
theorem d_NS_copyDeeper_90 : decode b_NS_copyDeeper 90 = .ok (.iload 8, 2) := by decide +kernel
theorem d_NS_copyDeeper_92 : decode b_NS_copyDeeper 92 = .ok (.ifCond .eq 11, 3) := by decide +kernel
theorem d_NS_copyDeeper_95 : decode b_NS_copyDeeper 95 = .ok (.lload 6, 2) := by decide +kernel
theorem d_NS_copyDeeper_97 : decode b_NS_copyDeeper 97 = .ok (.iload_n 2, 1) := by decide +kernel
theorem d_NS_copyDeeper_98 : decode b_NS_copyDeeper 98 = .ok (.i2l, 1) := by decide +kernel
theorem d_NS_copyDeeper_99 : decode b_NS_copyDeeper 99 = .ok (.ladd, 1) := by decide +kernel
theorem d_NS_copyDeeper_100 : decode b_NS_copyDeeper 100 = .ok (.goto 5, 3) := by decide +kernel
theorem d_NS_copyDeeper_103 : decode b_NS_copyDeeper 103 = .ok (.lload 6, 2) := by decide +kernel
theorem d_NS_copyDeeper_105 : decode b_NS_copyDeeper 105 = .ok (.invokevirtual 69, 3) := by decide +kernel
theorem d_NS_copyDeeper_108 : decode b_NS_copyDeeper 108 = .ok (.iinc 5 1, 3) := by decide +kernel
theorem d_NS_copyDeeper_111 : decode b_NS_copyDeeper 111 = .ok (.goto (-89), 3) := by decide +kernel
theorem d_NS_copyDeeper_114 : decode b_NS_copyDeeper 114 = .ok (.return_, 1) := by decide +kernel
end
section
theorem d_PN_init_0 : decode b_PN_init 0 = .ok (.aload_n 0, 1) := by decide +kernel
theorem d_PN_init_1 : decode b_PN_init 1 = .ok (.invokespecial 5, 3) := by decide +kernel
theorem d_PN_init_4 : decode b_PN_init 4 = .ok (.aload_n 0, 1) := by decide +kernel
theorem d_PN_init_5 : decode b_PN_init 5 = .ok (.sipush 216, 3) := by decide +kernel
theorem d_PN_init_8 : decode b_PN_init 8 = .ok (.newarray .int, 2) := by decide +kernel
theorem d_PN_init_10 : decode b_PN_init 10 = .ok (.putfield 11, 3) := by decide +kernel
theorem d_PN_init_13 : decode b_PN_init 13 = .ok (.aload_n 0, 1) := by decide +kernel
theorem d_PN_init_14 : decode b_PN_init 14 = .ok (.sipush 216, 3) := by decide +kernel
theorem d_PN_init_17 : decode b_PN_init 17 = .ok (.newarray .int, 2) := by decide +kernel
theorem d_PN_init_19 : decode b_PN_init 19 = .ok (.putfield 17, 3) := by decide +kernel
theorem d_PN_init_22 : decode b_PN_init 22 = .ok (.aload_n 0, 1) := by decide +kernel
theorem d_PN_init_23 : decode b_PN_init 23 = .ok (.sipush 216, 3) := by decide +kernel
theorem d_PN_init_26 : decode b_PN_init 26 = .ok (.newarray .long, 2) := by decide +kernel
theorem d_PN_init_28 : decode b_PN_init 28 = .ok (.putfield 20, 3) := by decide +kernel
theorem d_PN_init_31 : decode b_PN_init 31 = .ok (.aload_n 0, 1) := by decide +kernel
theorem d_PN_init_32 : decode b_PN_init 32 = .ok (.sipush 216, 3) := by decide +kernel
theorem d_PN_init_35 : decode b_PN_init 35 = .ok (.newarray .boolean, 2) := by decide +kernel
theorem d_PN_init_37 : decode b_PN_init 37 = .ok (.putfield 24, 3) := by decide +kernel
theorem d_PN_init_40 : decode b_PN_init 40 = .ok (.aload_n 0, 1) := by decide +kernel
theorem d_PN_init_41 : decode b_PN_init 41 = .ok (.iconst 0, 1) := by decide +kernel
theorem d_PN_init_42 : decode b_PN_init 42 = .ok (.putfield 28, 3) := by decide +kernel
theorem d_PN_init_45 : decode b_PN_init 45 = .ok (.aload_n 0, 1) := by decide +kernel
theorem d_PN_init_46 : decode b_PN_init 46 = .ok (.aload_n 1, 1) := by decide +kernel
theorem d_PN_init_47 : decode b_PN_init 47 = .ok (.putfield 32, 3) := by decide +kernel
theorem d_PN_init_50 : decode b_PN_init 50 = .ok (.aload_n 0, 1) := by decide +kernel
theorem d_PN_init_51 : decode b_PN_init 51 = .ok (.aload_n 2, 1) := by decide +kernel
theorem d_PN_init_52 : decode b_PN_init 52 = .ok (.putfield 36, 3) := by decide +kernel
theorem d_PN_init_55 : decode b_PN_init 55 = .ok (.return_, 1) := by decide +kernel
theorem d_PN_put_0 : decode b_PN_put 0 = .ok (.aload_n 0, 1) := by decide +kernel
theorem d_PN_put_1 : decode b_PN_put 1 = .ok (.sipush 200, 3) := by decide +kernel
theorem d_PN_put_4 : decode b_PN_put 4 = .ok (.aload_n 1, 1) := by decide +kernel
theorem d_PN_put_5 : decode b_PN_put 5 = .ok (.invokevirtual 40, 3) := by decide +kernel
theorem d_PN_put_8 : decode b_PN_put 8 = .ok (.iadd, 1) := by decide +kernel
theorem d_PN_put_9 : decode b_PN_put 9 = .ok (.invokevirtual 46, 3) := by decide +kernel
theorem d_PN_put_12 : decode b_PN_put 12 = .ok (.aload_n 0, 1) := by decide +kernel
theorem d_PN_put_13 : decode b_PN_put 13 = .ok (.getfield 36, 3) := by decide +kernel
theorem d_PN_put_16 : decode b_PN_put 16 = .ok (.aload_n 1, 1) := by decide +kernel
theorem d_PN_put_17 : decode b_PN_put 17 = .ok (.invokevirtual 50, 3) := by decide +kernel
theorem d_PN_put_20 : decode b_PN_put 20 = .ok (.aload_n 0, 1) := by decide +kernel
theorem d_PN_put_21 : decode b_PN_put 21 = .ok (.aload_n 1, 1) := by decide +kernel
theorem d_PN_put_22 : decode b_PN_put 22 = .ok (.invokevirtual 56, 3) := by decide +kernel
theorem d_PN_put_25 : decode b_PN_put 25 = .ok (.aload_n 2, 1) := by decide +kernel
theorem d_PN_put_26 : decode b_PN_put 26 = .ok (.invokevirtual 59, 3) := by decide +kernel
theorem d_PN_put_29 : decode b_PN_put 29 = .ok (.aload_n 1, 1) := by decide +kernel
theorem d_PN_put_30 : decode b_PN_put 30 = .ok (.invokevirtual 40, 3) := by decide +kernel
theorem d_PN_put_33 : decode b_PN_put 33 = .ok (.istore_n 3, 1) := by decide +kernel
theorem d_PN_put_34 : decode b_PN_put 34 = .ok (.iconst 0, 1) := by decide +kernel
theorem d_PN_put_35 : decode b_PN_put 35 = .ok (.istore 4, 2) := by decide +kernel
theorem d_PN_put_37 : decode b_PN_put 37 = .ok (.iload 4, 2) := by decide +kernel
theorem d_PN_put_39 : decode b_PN_put 39 = .ok (.iload_n 3, 1) := by decide +kernel
theorem d_PN_put_40 : decode b_PN_put 40 = .ok (.if_icmp .ge 79, 3) := by decide +kernel
theorem d_PN_put_43 : decode b_PN_put 43 = .ok (.aload_n 0, 1) := by decide +kernel
theorem d_PN_put_44 : decode b_PN_put 44 = .ok (.getfield 36, 3) := by decide +kernel
theorem d_PN_put_47 : decode b_PN_put 47 = .ok (.iload 4, 2) := by decide +kernel
theorem d_PN_put_49 : decode b_PN_put 49 = .ok (.invokevirtual 62, 3) := by decide +kernel
theorem d_PN_put_52 : decode b_PN_put 52 = .ok (.aload_n 0, 1) := by decide +kernel
theorem d_PN_put_53 : decode b_PN_put 53 = .ok (.getfield 36, 3) := by decide +kernel
theorem d_PN_put_56 : decode b_PN_put 56 = .ok (.iload 4, 2) := by decide +kernel
theorem d_PN_put_58 : decode b_PN_put 58 = .ok (.invokevirtual 65, 3) := by decide +kernel
theorem d_PN_put_61 : decode b_PN_put 61 = .ok (.istore 5, 2) := by decide +kernel
theorem d_PN_put_63 : decode b_PN_put 63 = .ok (.iload 5, 2) := by decide +kernel
theorem d_PN_put_65 : decode b_PN_put 65 = .ok (.iconst (-1), 1) := by decide +kernel
theorem d_PN_put_66 : decode b_PN_put 66 = .ok (.if_icmp .eq 39, 3) := by decide +kernel
theorem d_PN_put_69 : decode b_PN_put 69 = .ok (.aload_n 1, 1) := by decide +kernel
theorem d_PN_put_70 : decode b_PN_put 70 = .ok (.iload 5, 2) := by decide +kernel
theorem d_PN_put_72 : decode b_PN_put 72 = .ok (.invokevirtual 69, 3) := by decide +kernel
theorem d_PN_put_75 : decode b_PN_put 75 = .ok (.iload 4, 2) := by decide +kernel
theorem d_PN_put_77 : decode b_PN_put 77 = .ok (.if_icmp .ne 28, 3) := by decide +kernel
theorem d_PN_put_80 : decode b_PN_put 80 = .ok (.aload_n 2, 1) := by decide +kernel
theorem d_PN_put_81 : decode b_PN_put 81 = .ok (.iload 5, 2) := by decide +kernel
theorem d_PN_put_83 : decode b_PN_put 83 = .ok (.invokevirtual 72, 3) := by decide +kernel
theorem d_PN_put_86 : decode b_PN_put 86 = .ok (.bipush 6, 2) := by decide +kernel
theorem d_PN_put_88 : decode b_PN_put 88 = .ok (.if_icmp .eq 17, 3) := by decide +kernel
theorem d_PN_put_91 : decode b_PN_put 91 = .ok (.aload_n 2, 1) := by decide +kernel
theorem d_PN_put_92 : decode b_PN_put 92 = .ok (.iload 5, 2) := by decide +kernel
theorem d_PN_put_94 : decode b_PN_put 94 = .ok (.aload_n 0, 1) := by decide +kernel
theorem d_PN_put_95 : decode b_PN_put 95 = .ok (.iload 5, 2) := by decide +kernel
theorem d_PN_put_97 : decode b_PN_put 97 = .ok (.aload_n 1, 1) := by decide +kernel
theorem d_PN_put_98 : decode b_PN_put 98 = .ok (.aload_n 2, 1) := by decide +kernel
theorem d_PN_put_99 : decode b_PN_put 99 = .ok (.invokevirtual 75, 3) := by decide +kernel
theorem d_PN_put_102 : decode b_PN_put 102 = .ok (.invokevirtual 79, 3) := by decide +kernel
theorem d_PN_put_105 : decode b_PN_put 105 = .ok (.aload_n 0, 1) := by decide +kernel
theorem d_PN_put_106 : decode b_PN_put 106 = .ok (.iload 4, 2) := by decide +kernel
theorem d_PN_put_108 : decode b_PN_put 108 = .ok (.aload_n 1, 1) := by decide +kernel
theorem d_PN_put_109 : decode b_PN_put 109 = .ok (.aload_n 2, 1) := by decide +kernel
theorem d_PN_put_110 : decode b_PN_put 110 = .ok (.invokevirtual 83, 3) := by decide +kernel
theorem d_PN_put_113 : decode b_PN_put 113 = .ok (.iinc 4 1, 3) := by decide +kernel
theorem d_PN_put_116 : decode b_PN_put 116 = .ok (.goto (-79), 3) := by decide +kernel
theorem d_PN_put_119 : decode b_PN_put 119 = .ok (.return_, 1) := by decide +kernel
theorem d_PN_linkUses_0 : decode b_PN_linkUses 0 = .ok (.sipush 200, 3) := by decide +kernel
theorem d_PN_linkUses_3 : decode b_PN_linkUses 3 = .ok (.aload_n 1, 1) := by decide +kernel
theorem d_PN_linkUses_4 : decode b_PN_linkUses 4 = .ok (.invokevirtual 40, 3) := by decide +kernel
theorem d_PN_linkUses_7 : decode b_PN_linkUses 7 = .ok (.iadd, 1) := by decide +kernel
theorem d_PN_linkUses_8 : decode b_PN_linkUses 8 = .ok (.istore_n 2, 1) := by decide +kernel
theorem d_PN_linkUses_9 : decode b_PN_linkUses 9 = .ok (.iconst 0, 1) := by decide +kernel
theorem d_PN_linkUses_10 : decode b_PN_linkUses 10 = .ok (.istore_n 3, 1) := by decide +kernel
theorem d_PN_linkUses_11 : decode b_PN_linkUses 11 = .ok (.iload_n 3, 1) := by decide +kernel
theorem d_PN_linkUses_12 : decode b_PN_linkUses 12 = .ok (.iload_n 2, 1) := by decide +kernel
theorem d_PN_linkUses_13 : decode b_PN_linkUses 13 = .ok (.if_icmp .ge 33, 3) := by decide +kernel
theorem d_PN_linkUses_16 : decode b_PN_linkUses 16 = .ok (.iload_n 3, 1) := by decide +kernel
theorem d_PN_linkUses_17 : decode b_PN_linkUses 17 = .ok (.aload_n 0, 1) := by decide +kernel
theorem d_PN_linkUses_18 : decode b_PN_linkUses 18 = .ok (.getfield 11, 3) := by decide +kernel
theorem d_PN_linkUses_21 : decode b_PN_linkUses 21 = .ok (.arraylength, 1) := by decide +kernel
theorem d_PN_linkUses_22 : decode b_PN_linkUses 22 = .ok (.if_icmp .ge 24, 3) := by decide +kernel
theorem d_PN_linkUses_25 : decode b_PN_linkUses 25 = .ok (.aload_n 0, 1) := by decide +kernel
theorem d_PN_linkUses_26 : decode b_PN_linkUses 26 = .ok (.getfield 11, 3) := by decide +kernel
theorem d_PN_linkUses_29 : decode b_PN_linkUses 29 = .ok (.iload_n 3, 1) := by decide +kernel
theorem d_PN_linkUses_30 : decode b_PN_linkUses 30 = .ok (.ldc 87, 2) := by decide +kernel
theorem d_PN_linkUses_32 : decode b_PN_linkUses 32 = .ok (.iastore, 1) := by decide +kernel
theorem d_PN_linkUses_33 : decode b_PN_linkUses 33 = .ok (.aload_n 0, 1) := by decide +kernel
theorem d_PN_linkUses_34 : decode b_PN_linkUses 34 = .ok (.getfield 17, 3) := by decide +kernel
theorem d_PN_linkUses_37 : decode b_PN_linkUses 37 = .ok (.iload_n 3, 1) := by decide +kernel
theorem d_PN_linkUses_38 : decode b_PN_linkUses 38 = .ok (.iload_n 3, 1) := by decide +kernel
theorem d_PN_linkUses_39 : decode b_PN_linkUses 39 = .ok (.iastore, 1) := by decide +kernel
theorem d_PN_linkUses_40 : decode b_PN_linkUses 40 = .ok (.iinc 3 1, 3) := by decide +kernel
theorem d_PN_linkUses_43 : decode b_PN_linkUses 43 = .ok (.goto (-32), 3) := by decide +kernel
theorem d_PN_linkUses_46 : decode b_PN_linkUses 46 = .ok (.aload_n 1, 1) := by decide +kernel
theorem d_PN_linkUses_47 : decode b_PN_linkUses 47 = .ok (.invokevirtual 40, 3) := by decide +kernel
theorem d_PN_linkUses_50 : decode b_PN_linkUses 50 = .ok (.istore_n 3, 1) := by decide +kernel
theorem d_PN_linkUses_51 : decode b_PN_linkUses 51 = .ok (.iconst 0, 1) := by decide +kernel
theorem d_PN_linkUses_52 : decode b_PN_linkUses 52 = .ok (.istore 4, 2) := by decide +kernel
theorem d_PN_linkUses_54 : decode b_PN_linkUses 54 = .ok (.iload 4, 2) := by decide +kernel
theorem d_PN_linkUses_56 : decode b_PN_linkUses 56 = .ok (.iload_n 3, 1) := by decide +kernel
theorem d_PN_linkUses_57 : decode b_PN_linkUses 57 = .ok (.if_icmp .ge 59, 3) := by decide +kernel
theorem d_PN_linkUses_60 : decode b_PN_linkUses 60 = .ok (.aload_n 0, 1) := by decide +kernel
theorem d_PN_linkUses_61 : decode b_PN_linkUses 61 = .ok (.getfield 36, 3) := by decide +kernel
theorem d_PN_linkUses_64 : decode b_PN_linkUses 64 = .ok (.iload 4, 2) := by decide +kernel
theorem d_PN_linkUses_66 : decode b_PN_linkUses 66 = .ok (.invokevirtual 62, 3) := by decide +kernel
theorem d_PN_linkUses_69 : decode b_PN_linkUses 69 = .ok (.aload_n 0, 1) := by decide +kernel
theorem d_PN_linkUses_70 : decode b_PN_linkUses 70 = .ok (.iload 4, 2) := by decide +kernel
theorem d_PN_linkUses_72 : decode b_PN_linkUses 72 = .ok (.aload_n 1, 1) := by decide +kernel
theorem d_PN_linkUses_73 : decode b_PN_linkUses 73 = .ok (.invokevirtual 88, 3) := by decide +kernel
theorem d_PN_linkUses_76 : decode b_PN_linkUses 76 = .ok (.istore 5, 2) := by decide +kernel
theorem d_PN_linkUses_78 : decode b_PN_linkUses 78 = .ok (.iload 5, 2) := by decide +kernel
theorem d_PN_linkUses_80 : decode b_PN_linkUses 80 = .ok (.iconst (-1), 1) := by decide +kernel
theorem d_PN_linkUses_81 : decode b_PN_linkUses 81 = .ok (.if_icmp .eq 29, 3) := by decide +kernel
theorem d_PN_linkUses_84 : decode b_PN_linkUses 84 = .ok (.aload_n 0, 1) := by decide +kernel
theorem d_PN_linkUses_85 : decode b_PN_linkUses 85 = .ok (.aload_n 0, 1) := by decide +kernel
theorem d_PN_linkUses_86 : decode b_PN_linkUses 86 = .ok (.getfield 17, 3) := by decide +kernel
theorem d_PN_linkUses_89 : decode b_PN_linkUses 89 = .ok (.iload 5, 2) := by decide +kernel
theorem d_PN_linkUses_91 : decode b_PN_linkUses 91 = .ok (.iaload, 1) := by decide +kernel
theorem d_PN_linkUses_92 : decode b_PN_linkUses 92 = .ok (.iload 4, 2) := by decide +kernel
theorem d_PN_linkUses_94 : decode b_PN_linkUses 94 = .ok (.invokevirtual 92, 3) := by decide +kernel
theorem d_PN_linkUses_97 : decode b_PN_linkUses 97 = .ok (.aload_n 0, 1) := by decide +kernel
theorem d_PN_linkUses_98 : decode b_PN_linkUses 98 = .ok (.getfield 17, 3) := by decide +kernel
theorem d_PN_linkUses_101 : decode b_PN_linkUses 101 = .ok (.iload 5, 2) := by decide +kernel
theorem d_PN_linkUses_103 : decode b_PN_linkUses 103 = .ok (.sipush 200, 3) := by decide +kernel
theorem d_PN_linkUses_106 : decode b_PN_linkUses 106 = .ok (.iload 4, 2) := by decide +kernel
theorem d_PN_linkUses_108 : decode b_PN_linkUses 108 = .ok (.iadd, 1) := by decide +kernel
theorem d_PN_linkUses_109 : decode b_PN_linkUses 109 = .ok (.iastore, 1) := by decide +kernel
theorem d_PN_linkUses_110 : decode b_PN_linkUses 110 = .ok (.iinc 4 1, 3) := by decide +kernel
theorem d_PN_linkUses_113 : decode b_PN_linkUses 113 = .ok (.goto (-59), 3) := by decide +kernel
theorem d_PN_linkUses_116 : decode b_PN_linkUses 116 = .ok (.return_, 1) := by decide +kernel
theorem d_PN_usedBy_0 : decode b_PN_usedBy 0 = .ok (.ldc2_w 96, 3) := by decide +kernel
theorem d_PN_usedBy_3 : decode b_PN_usedBy 3 = .ok (.lstore_n 3, 1) := by decide +kernel
theorem d_PN_usedBy_4 : decode b_PN_usedBy 4 = .ok (.aload_n 2, 1) := by decide +kernel
theorem d_PN_usedBy_5 : decode b_PN_usedBy 5 = .ok (.iload_n 1, 1) := by decide +kernel
theorem d_PN_usedBy_6 : decode b_PN_usedBy 6 = .ok (.invokevirtual 72, 3) := by decide +kernel
theorem d_PN_usedBy_9 : decode b_PN_usedBy 9 = .ok (.bipush 7, 2) := by decide +kernel
theorem d_PN_usedBy_11 : decode b_PN_usedBy 11 = .ok (.if_icmp .ne 12, 3) := by decide +kernel
theorem d_PN_usedBy_14 : decode b_PN_usedBy 14 = .ok (.aload_n 2, 1) := by decide +kernel
theorem d_PN_usedBy_15 : decode b_PN_usedBy 15 = .ok (.iload_n 1, 1) := by decide +kernel
theorem d_PN_usedBy_16 : decode b_PN_usedBy 16 = .ok (.invokevirtual 98, 3) := by decide +kernel
theorem d_PN_usedBy_19 : decode b_PN_usedBy 19 = .ok (.lstore_n 3, 1) := by decide +kernel
theorem d_PN_usedBy_20 : decode b_PN_usedBy 20 = .ok (.goto 30, 3) := by decide +kernel
theorem d_PN_usedBy_23 : decode b_PN_usedBy 23 = .ok (.aload_n 2, 1) := by decide +kernel
theorem d_PN_usedBy_24 : decode b_PN_usedBy 24 = .ok (.iload_n 1, 1) := by decide +kernel
theorem d_PN_usedBy_25 : decode b_PN_usedBy 25 = .ok (.invokevirtual 72, 3) := by decide +kernel
theorem d_PN_usedBy_28 : decode b_PN_usedBy 28 = .ok (.ifCond .ne 22, 3) := by decide +kernel
theorem d_PN_usedBy_31 : decode b_PN_usedBy 31 = .ok (.sipush 200, 3) := by decide +kernel
theorem d_PN_usedBy_34 : decode b_PN_usedBy 34 = .ok (.aload_n 0, 1) := by decide +kernel
theorem d_PN_usedBy_35 : decode b_PN_usedBy 35 = .ok (.getfield 36, 3) := by decide +kernel
theorem d_PN_usedBy_38 : decode b_PN_usedBy 38 = .ok (.iload_n 1, 1) := by decide +kernel
theorem d_PN_usedBy_39 : decode b_PN_usedBy 39 = .ok (.aload_n 2, 1) := by decide +kernel
theorem d_PN_usedBy_40 : decode b_PN_usedBy 40 = .ok (.iload_n 1, 1) := by decide +kernel
theorem d_PN_usedBy_41 : decode b_PN_usedBy 41 = .ok (.invokevirtual 98, 3) := by decide +kernel
theorem d_PN_usedBy_44 : decode b_PN_usedBy 44 = .ok (.invokevirtual 102, 3) := by decide +kernel
theorem d_PN_usedBy_47 : decode b_PN_usedBy 47 = .ok (.iadd, 1) := by decide +kernel
theorem d_PN_usedBy_48 : decode b_PN_usedBy 48 = .ok (.i2l, 1) := by decide +kernel
theorem d_PN_usedBy_49 : decode b_PN_usedBy 49 = .ok (.lstore_n 3, 1) := by decide +kernel
theorem d_PN_usedBy_50 : decode b_PN_usedBy 50 = .ok (.lload_n 3, 1) := by decide +kernel
theorem d_PN_usedBy_51 : decode b_PN_usedBy 51 = .ok (.lconst 0, 1) := by decide +kernel
theorem d_PN_usedBy_52 : decode b_PN_usedBy 52 = .ok (.lcmp, 1) := by decide +kernel
theorem d_PN_usedBy_53 : decode b_PN_usedBy 53 = .ok (.ifCond .lt 19, 3) := by decide +kernel
theorem d_PN_usedBy_56 : decode b_PN_usedBy 56 = .ok (.lload_n 3, 1) := by decide +kernel
theorem d_PN_usedBy_57 : decode b_PN_usedBy 57 = .ok (.aload_n 0, 1) := by decide +kernel
theorem d_PN_usedBy_58 : decode b_PN_usedBy 58 = .ok (.getfield 17, 3) := by decide +kernel
theorem d_PN_usedBy_61 : decode b_PN_usedBy 61 = .ok (.arraylength, 1) := by decide +kernel
theorem d_PN_usedBy_62 : decode b_PN_usedBy 62 = .ok (.i2l, 1) := by decide +kernel
theorem d_PN_usedBy_63 : decode b_PN_usedBy 63 = .ok (.lcmp, 1) := by decide +kernel
theorem d_PN_usedBy_64 : decode b_PN_usedBy 64 = .ok (.ifCond .ge 8, 3) := by decide +kernel
theorem d_PN_usedBy_67 : decode b_PN_usedBy 67 = .ok (.lload_n 3, 1) := by decide +kernel
theorem d_PN_usedBy_68 : decode b_PN_usedBy 68 = .ok (.l2i, 1) := by decide +kernel
theorem d_PN_usedBy_69 : decode b_PN_usedBy 69 = .ok (.goto 4, 3) := by decide +kernel
theorem d_PN_usedBy_72 : decode b_PN_usedBy 72 = .ok (.iconst (-1), 1) := by decide +kernel
theorem d_PN_usedBy_73 : decode b_PN_usedBy 73 = .ok (.ireturn, 1) := by decide +kernel
theorem d_PN_nextOf_0 : decode b_PN_nextOf 0 = .ok (.iload_n 1, 1) := by decide +kernel
theorem d_PN_nextOf_1 : decode b_PN_nextOf 1 = .ok (.ifCond .lt 21, 3) := by decide +kernel
theorem d_PN_nextOf_4 : decode b_PN_nextOf 4 = .ok (.iload_n 1, 1) := by decide +kernel
theorem d_PN_nextOf_5 : decode b_PN_nextOf 5 = .ok (.aload_n 0, 1) := by decide +kernel
theorem d_PN_nextOf_6 : decode b_PN_nextOf 6 = .ok (.getfield 11, 3) := by decide +kernel
theorem d_PN_nextOf_9 : decode b_PN_nextOf 9 = .ok (.arraylength, 1) := by decide +kernel
theorem d_PN_nextOf_10 : decode b_PN_nextOf 10 = .ok (.if_icmp .ge 12, 3) := by decide +kernel
theorem d_PN_nextOf_13 : decode b_PN_nextOf 13 = .ok (.aload_n 0, 1) := by decide +kernel
theorem d_PN_nextOf_14 : decode b_PN_nextOf 14 = .ok (.getfield 11, 3) := by decide +kernel
theorem d_PN_nextOf_17 : decode b_PN_nextOf 17 = .ok (.iload_n 1, 1) := by decide +kernel
theorem d_PN_nextOf_18 : decode b_PN_nextOf 18 = .ok (.iaload, 1) := by decide +kernel
theorem d_PN_nextOf_19 : decode b_PN_nextOf 19 = .ok (.goto 5, 3) := by decide +kernel
theorem d_PN_nextOf_22 : decode b_PN_nextOf 22 = .ok (.ldc 87, 2) := by decide +kernel
theorem d_PN_nextOf_24 : decode b_PN_nextOf 24 = .ok (.ireturn, 1) := by decide +kernel
theorem d_PN_setNext_0 : decode b_PN_setNext 0 = .ok (.iload_n 1, 1) := by decide +kernel
theorem d_PN_setNext_1 : decode b_PN_setNext 1 = .ok (.ifCond .lt 19, 3) := by decide +kernel
theorem d_PN_setNext_4 : decode b_PN_setNext 4 = .ok (.iload_n 1, 1) := by decide +kernel
theorem d_PN_setNext_5 : decode b_PN_setNext 5 = .ok (.aload_n 0, 1) := by decide +kernel
theorem d_PN_setNext_6 : decode b_PN_setNext 6 = .ok (.getfield 11, 3) := by decide +kernel
theorem d_PN_setNext_9 : decode b_PN_setNext 9 = .ok (.arraylength, 1) := by decide +kernel
theorem d_PN_setNext_10 : decode b_PN_setNext 10 = .ok (.if_icmp .ge 10, 3) := by decide +kernel
theorem d_PN_setNext_13 : decode b_PN_setNext 13 = .ok (.aload_n 0, 1) := by decide +kernel
theorem d_PN_setNext_14 : decode b_PN_setNext 14 = .ok (.getfield 11, 3) := by decide +kernel
theorem d_PN_setNext_17 : decode b_PN_setNext 17 = .ok (.iload_n 1, 1) := by decide +kernel
theorem d_PN_setNext_18 : decode b_PN_setNext 18 = .ok (.iload_n 2, 1) := by decide +kernel
theorem d_PN_setNext_19 : decode b_PN_setNext 19 = .ok (.iastore, 1) := by decide +kernel
theorem d_PN_setNext_20 : decode b_PN_setNext 20 = .ok (.return_, 1) := by decide +kernel
theorem d_PN_putNode_0 : decode b_PN_putNode 0 = .ok (.aload_n 2, 1) := by decide +kernel
theorem d_PN_putNode_1 : decode b_PN_putNode 1 = .ok (.iload_n 1, 1) := by decide +kernel
theorem d_PN_putNode_2 : decode b_PN_putNode 2 = .ok (.invokevirtual 72, 3) := by decide +kernel
theorem d_PN_putNode_5 : decode b_PN_putNode 5 = .ok (.istore 4, 2) := by decide +kernel
theorem d_PN_putNode_7 : decode b_PN_putNode 7 = .ok (.aload_n 2, 1) := by decide +kernel
theorem d_PN_putNode_8 : decode b_PN_putNode 8 = .ok (.iload_n 1, 1) := by decide +kernel
theorem d_PN_putNode_9 : decode b_PN_putNode 9 = .ok (.invokevirtual 98, 3) := by decide +kernel
theorem d_PN_putNode_12 : decode b_PN_putNode 12 = .ok (.lstore 5, 2) := by decide +kernel
theorem d_PN_putNode_14 : decode b_PN_putNode 14 = .ok (.iload 4, 2) := by decide +kernel
theorem d_PN_putNode_16 : decode b_PN_putNode 16 = .ok (.lookupswitch 127 #[(0, 36), (2, 87), (7, 64)], 36) := by decide +kernel
theorem d_PN_putNode_52 : decode b_PN_putNode 52 = .ok (.aload_n 3, 1) := by decide +kernel
theorem d_PN_putNode_53 : decode b_PN_putNode 53 = .ok (.iconst 0, 1) := by decide +kernel
theorem d_PN_putNode_54 : decode b_PN_putNode 54 = .ok (.aload_n 3, 1) := by decide +kernel
theorem d_PN_putNode_55 : decode b_PN_putNode 55 = .ok (.aload_n 0, 1) := by decide +kernel
theorem d_PN_putNode_56 : decode b_PN_putNode 56 = .ok (.getfield 36, 3) := by decide +kernel
theorem d_PN_putNode_59 : decode b_PN_putNode 59 = .ok (.iload_n 1, 1) := by decide +kernel
theorem d_PN_putNode_60 : decode b_PN_putNode 60 = .ok (.lload 5, 2) := by decide +kernel
theorem d_PN_putNode_62 : decode b_PN_putNode 62 = .ok (.invokevirtual 102, 3) := by decide +kernel
theorem d_PN_putNode_65 : decode b_PN_putNode 65 = .ok (.invokevirtual 98, 3) := by decide +kernel
theorem d_PN_putNode_68 : decode b_PN_putNode 68 = .ok (.invokevirtual 106, 3) := by decide +kernel
theorem d_PN_putNode_71 : decode b_PN_putNode 71 = .ok (.aload_n 0, 1) := by decide +kernel
theorem d_PN_putNode_72 : decode b_PN_putNode 72 = .ok (.iload_n 1, 1) := by decide +kernel
theorem d_PN_putNode_73 : decode b_PN_putNode 73 = .ok (.aload_n 2, 1) := by decide +kernel
theorem d_PN_putNode_74 : decode b_PN_putNode 74 = .ok (.invokevirtual 109, 3) := by decide +kernel
theorem d_PN_putNode_77 : decode b_PN_putNode 77 = .ok (.goto 74, 3) := by decide +kernel
theorem d_PN_putNode_80 : decode b_PN_putNode 80 = .ok (.aload_n 3, 1) := by decide +kernel
theorem d_PN_putNode_81 : decode b_PN_putNode 81 = .ok (.iconst 0, 1) := by decide +kernel
theorem d_PN_putNode_82 : decode b_PN_putNode 82 = .ok (.aload_n 0, 1) := by decide +kernel
theorem d_PN_putNode_83 : decode b_PN_putNode 83 = .ok (.getfield 32, 3) := by decide +kernel
theorem d_PN_putNode_86 : decode b_PN_putNode 86 = .ok (.lload 5, 2) := by decide +kernel
theorem d_PN_putNode_88 : decode b_PN_putNode 88 = .ok (.invokevirtual 113, 3) := by decide +kernel
theorem d_PN_putNode_91 : decode b_PN_putNode 91 = .ok (.invokevirtual 106, 3) := by decide +kernel
theorem d_PN_putNode_94 : decode b_PN_putNode 94 = .ok (.aload_n 0, 1) := by decide +kernel
theorem d_PN_putNode_95 : decode b_PN_putNode 95 = .ok (.iload_n 1, 1) := by decide +kernel
theorem d_PN_putNode_96 : decode b_PN_putNode 96 = .ok (.aload_n 2, 1) := by decide +kernel
theorem d_PN_putNode_97 : decode b_PN_putNode 97 = .ok (.invokevirtual 109, 3) := by decide +kernel
theorem d_PN_putNode_100 : decode b_PN_putNode 100 = .ok (.goto 51, 3) := by decide +kernel
theorem d_PN_putNode_103 : decode b_PN_putNode 103 = .ok (.aload_n 0, 1) := by decide +kernel
theorem d_PN_putNode_104 : decode b_PN_putNode 104 = .ok (.sipush 200, 3) := by decide +kernel
theorem d_PN_putNode_107 : decode b_PN_putNode 107 = .ok (.iload_n 1, 1) := by decide +kernel
theorem d_PN_putNode_108 : decode b_PN_putNode 108 = .ok (.iadd, 1) := by decide +kernel
theorem d_PN_putNode_109 : decode b_PN_putNode 109 = .ok (.invokevirtual 119, 3) := by decide +kernel
theorem d_PN_putNode_112 : decode b_PN_putNode 112 = .ok (.ldc 87, 2) := by decide +kernel
theorem d_PN_putNode_114 : decode b_PN_putNode 114 = .ok (.if_icmp .eq 7, 3) := by decide +kernel
theorem d_PN_putNode_117 : decode b_PN_putNode 117 = .ok (.iconst 1, 1) := by decide +kernel
theorem d_PN_putNode_118 : decode b_PN_putNode 118 = .ok (.goto 4, 3) := by decide +kernel
theorem d_PN_putNode_121 : decode b_PN_putNode 121 = .ok (.iconst 0, 1) := by decide +kernel
theorem d_PN_putNode_122 : decode b_PN_putNode 122 = .ok (.istore 7, 2) := by decide +kernel
theorem d_PN_putNode_124 : decode b_PN_putNode 124 = .ok (.aload_n 3, 1) := by decide +kernel
theorem d_PN_putNode_125 : decode b_PN_putNode 125 = .ok (.iload 7, 2) := by decide +kernel
theorem d_PN_putNode_127 : decode b_PN_putNode 127 = .ok (.ifCond .eq 7, 3) := by decide +kernel
theorem d_PN_putNode_130 : decode b_PN_putNode 130 = .ok (.iconst 2, 1) := by decide +kernel
theorem d_PN_putNode_131 : decode b_PN_putNode 131 = .ok (.goto 5, 3) := by decide +kernel
theorem d_PN_putNode_134 : decode b_PN_putNode 134 = .ok (.bipush 6, 2) := by decide +kernel
theorem d_PN_putNode_136 : decode b_PN_putNode 136 = .ok (.lconst 0, 1) := by decide +kernel
theorem d_PN_putNode_137 : decode b_PN_putNode 137 = .ok (.invokevirtual 106, 3) := by decide +kernel
theorem d_PN_putNode_140 : decode b_PN_putNode 140 = .ok (.goto 11, 3) := by decide +kernel
theorem d_PN_putNode_143 : decode b_PN_putNode 143 = .ok (.aload_n 3, 1) := by decide +kernel
theorem d_PN_putNode_144 : decode b_PN_putNode 144 = .ok (.iload 4, 2) := by decide +kernel
theorem d_PN_putNode_146 : decode b_PN_putNode 146 = .ok (.lload 5, 2) := by decide +kernel
theorem d_PN_putNode_148 : decode b_PN_putNode 148 = .ok (.invokevirtual 106, 3) := by decide +kernel
theorem d_PN_putNode_151 : decode b_PN_putNode 151 = .ok (.return_, 1) := by decide +kernel
theorem d_PN_passUse_0 : decode b_PN_passUse 0 = .ok (.aload_n 0, 1) := by decide +kernel
theorem d_PN_passUse_1 : decode b_PN_passUse 1 = .ok (.aload_n 0, 1) := by decide +kernel
theorem d_PN_passUse_2 : decode b_PN_passUse 2 = .ok (.iload_n 1, 1) := by decide +kernel
theorem d_PN_passUse_3 : decode b_PN_passUse 3 = .ok (.aload_n 2, 1) := by decide +kernel
theorem d_PN_passUse_4 : decode b_PN_passUse 4 = .ok (.invokevirtual 88, 3) := by decide +kernel
theorem d_PN_passUse_7 : decode b_PN_passUse 7 = .ok (.aload_n 0, 1) := by decide +kernel
theorem d_PN_passUse_8 : decode b_PN_passUse 8 = .ok (.sipush 200, 3) := by decide +kernel
theorem d_PN_passUse_11 : decode b_PN_passUse 11 = .ok (.iload_n 1, 1) := by decide +kernel
theorem d_PN_passUse_12 : decode b_PN_passUse 12 = .ok (.iadd, 1) := by decide +kernel
theorem d_PN_passUse_13 : decode b_PN_passUse 13 = .ok (.invokevirtual 119, 3) := by decide +kernel
theorem d_PN_passUse_16 : decode b_PN_passUse 16 = .ok (.invokevirtual 92, 3) := by decide +kernel
theorem d_PN_passUse_19 : decode b_PN_passUse 19 = .ok (.return_, 1) := by decide +kernel
theorem d_PN_chooseName_0 : decode b_PN_chooseName 0 = .ok (.aload_n 2, 1) := by decide +kernel
theorem d_PN_chooseName_1 : decode b_PN_chooseName 1 = .ok (.iload_n 1, 1) := by decide +kernel
theorem d_PN_chooseName_2 : decode b_PN_chooseName 2 = .ok (.invokevirtual 98, 3) := by decide +kernel
theorem d_PN_chooseName_5 : decode b_PN_chooseName 5 = .ok (.lconst 0, 1) := by decide +kernel
theorem d_PN_chooseName_6 : decode b_PN_chooseName 6 = .ok (.lcmp, 1) := by decide +kernel
theorem d_PN_chooseName_7 : decode b_PN_chooseName 7 = .ok (.ifCond .ne 9, 3) := by decide +kernel
theorem d_PN_chooseName_10 : decode b_PN_chooseName 10 = .ok (.ldc2_w 124, 3) := by decide +kernel
theorem d_PN_chooseName_13 : decode b_PN_chooseName 13 = .ok (.goto 8, 3) := by decide +kernel
theorem d_PN_chooseName_16 : decode b_PN_chooseName 16 = .ok (.aload_n 2, 1) := by decide +kernel
theorem d_PN_chooseName_17 : decode b_PN_chooseName 17 = .ok (.iload_n 1, 1) := by decide +kernel
theorem d_PN_chooseName_18 : decode b_PN_chooseName 18 = .ok (.invokevirtual 98, 3) := by decide +kernel
theorem d_PN_chooseName_21 : decode b_PN_chooseName 21 = .ok (.lstore 4, 2) := by decide +kernel
theorem d_PN_chooseName_23 : decode b_PN_chooseName 23 = .ok (.aload_n 0, 1) := by decide +kernel
theorem d_PN_chooseName_24 : decode b_PN_chooseName 24 = .ok (.iload_n 1, 1) := by decide +kernel
theorem d_PN_chooseName_25 : decode b_PN_chooseName 25 = .ok (.aload_n 2, 1) := by decide +kernel
theorem d_PN_chooseName_26 : decode b_PN_chooseName 26 = .ok (.iload_n 1, 1) := by decide +kernel
theorem d_PN_chooseName_27 : decode b_PN_chooseName 27 = .ok (.invokevirtual 126, 3) := by decide +kernel
theorem d_PN_chooseName_30 : decode b_PN_chooseName 30 = .ok (.aload_n 3, 1) := by decide +kernel
theorem d_PN_chooseName_31 : decode b_PN_chooseName 31 = .ok (.invokevirtual 129, 3) := by decide +kernel
theorem d_PN_chooseName_34 : decode b_PN_chooseName 34 = .ok (.iconst 0, 1) := by decide +kernel
theorem d_PN_chooseName_35 : decode b_PN_chooseName 35 = .ok (.istore 6, 2) := by decide +kernel
theorem d_PN_chooseName_37 : decode b_PN_chooseName 37 = .ok (.iload 6, 2) := by decide +kernel
theorem d_PN_chooseName_39 : decode b_PN_chooseName 39 = .ok (.aload_n 0, 1) := by decide +kernel
theorem d_PN_chooseName_40 : decode b_PN_chooseName 40 = .ok (.getfield 28, 3) := by decide +kernel
theorem d_PN_chooseName_43 : decode b_PN_chooseName 43 = .ok (.if_icmp .ge 44, 3) := by decide +kernel
theorem d_PN_chooseName_46 : decode b_PN_chooseName 46 = .ok (.iload 6, 2) := by decide +kernel
theorem d_PN_chooseName_48 : decode b_PN_chooseName 48 = .ok (.aload_n 0, 1) := by decide +kernel
theorem d_PN_chooseName_49 : decode b_PN_chooseName 49 = .ok (.getfield 20, 3) := by decide +kernel
theorem d_PN_chooseName_52 : decode b_PN_chooseName 52 = .ok (.arraylength, 1) := by decide +kernel
theorem d_PN_chooseName_53 : decode b_PN_chooseName 53 = .ok (.if_icmp .ge 34, 3) := by decide +kernel
theorem d_PN_chooseName_56 : decode b_PN_chooseName 56 = .ok (.aload_n 0, 1) := by decide +kernel
theorem d_PN_chooseName_57 : decode b_PN_chooseName 57 = .ok (.getfield 20, 3) := by decide +kernel
theorem d_PN_chooseName_60 : decode b_PN_chooseName 60 = .ok (.iload 6, 2) := by decide +kernel
theorem d_PN_chooseName_62 : decode b_PN_chooseName 62 = .ok (.laload, 1) := by decide +kernel
theorem d_PN_chooseName_63 : decode b_PN_chooseName 63 = .ok (.lload 4, 2) := by decide +kernel
theorem d_PN_chooseName_65 : decode b_PN_chooseName 65 = .ok (.lcmp, 1) := by decide +kernel
theorem d_PN_chooseName_66 : decode b_PN_chooseName 66 = .ok (.ifCond .ne 15, 3) := by decide +kernel
theorem d_PN_chooseName_69 : decode b_PN_chooseName 69 = .ok (.lload 4, 2) := by decide +kernel
theorem d_PN_chooseName_71 : decode b_PN_chooseName 71 = .ok (.aload_n 0, 1) := by decide +kernel
theorem d_PN_chooseName_72 : decode b_PN_chooseName 72 = .ok (.lload 4, 2) := by decide +kernel
theorem d_PN_chooseName_74 : decode b_PN_chooseName 74 = .ok (.invokevirtual 133, 3) := by decide +kernel
theorem d_PN_chooseName_77 : decode b_PN_chooseName 77 = .ok (.invokestatic 137, 3) := by decide +kernel
theorem d_PN_chooseName_80 : decode b_PN_chooseName 80 = .ok (.lreturn, 1) := by decide +kernel
theorem d_PN_chooseName_81 : decode b_PN_chooseName 81 = .ok (.iinc 6 1, 3) := by decide +kernel
theorem d_PN_chooseName_84 : decode b_PN_chooseName 84 = .ok (.goto (-47), 3) := by decide +kernel
theorem d_PN_chooseName_87 : decode b_PN_chooseName 87 = .ok (.lload 4, 2) := by decide +kernel
theorem d_PN_chooseName_89 : decode b_PN_chooseName 89 = .ok (.lreturn, 1) := by decide +kernel
theorem d_PN_gatherNear_0 : decode b_PN_gatherNear 0 = .ok (.aload_n 0, 1) := by decide +kernel
theorem d_PN_gatherNear_1 : decode b_PN_gatherNear 1 = .ok (.iconst 0, 1) := by decide +kernel
theorem d_PN_gatherNear_2 : decode b_PN_gatherNear 2 = .ok (.putfield 28, 3) := by decide +kernel
theorem d_PN_gatherNear_5 : decode b_PN_gatherNear 5 = .ok (.aload_n 0, 1) := by decide +kernel
theorem d_PN_gatherNear_6 : decode b_PN_gatherNear 6 = .ok (.getfield 32, 3) := by decide +kernel
theorem d_PN_gatherNear_9 : decode b_PN_gatherNear 9 = .ok (.invokevirtual 141, 3) := by decide +kernel
theorem d_PN_gatherNear_12 : decode b_PN_gatherNear 12 = .ok (.istore 4, 2) := by decide +kernel
theorem d_PN_gatherNear_14 : decode b_PN_gatherNear 14 = .ok (.iconst 0, 1) := by decide +kernel
theorem d_PN_gatherNear_15 : decode b_PN_gatherNear 15 = .ok (.istore 5, 2) := by decide +kernel
theorem d_PN_gatherNear_17 : decode b_PN_gatherNear 17 = .ok (.iload 5, 2) := by decide +kernel
theorem d_PN_gatherNear_19 : decode b_PN_gatherNear 19 = .ok (.iload 4, 2) := by decide +kernel
theorem d_PN_gatherNear_21 : decode b_PN_gatherNear 21 = .ok (.if_icmp .ge 33, 3) := by decide +kernel
theorem d_PN_gatherNear_24 : decode b_PN_gatherNear 24 = .ok (.aload_n 0, 1) := by decide +kernel
theorem d_PN_gatherNear_25 : decode b_PN_gatherNear 25 = .ok (.iload 5, 2) := by decide +kernel
theorem d_PN_gatherNear_27 : decode b_PN_gatherNear 27 = .ok (.invokevirtual 119, 3) := by decide +kernel
theorem d_PN_gatherNear_30 : decode b_PN_gatherNear 30 = .ok (.iload_n 2, 1) := by decide +kernel
theorem d_PN_gatherNear_31 : decode b_PN_gatherNear 31 = .ok (.if_icmp .ge 17, 3) := by decide +kernel
theorem d_PN_gatherNear_34 : decode b_PN_gatherNear 34 = .ok (.aload_n 0, 1) := by decide +kernel
theorem d_PN_gatherNear_35 : decode b_PN_gatherNear 35 = .ok (.aload_n 0, 1) := by decide +kernel
theorem d_PN_gatherNear_36 : decode b_PN_gatherNear 36 = .ok (.getfield 32, 3) := by decide +kernel
theorem d_PN_gatherNear_39 : decode b_PN_gatherNear 39 = .ok (.iload 5, 2) := by decide +kernel
theorem d_PN_gatherNear_41 : decode b_PN_gatherNear 41 = .ok (.i2l, 1) := by decide +kernel
theorem d_PN_gatherNear_42 : decode b_PN_gatherNear 42 = .ok (.invokevirtual 113, 3) := by decide +kernel
theorem d_PN_gatherNear_45 : decode b_PN_gatherNear 45 = .ok (.invokevirtual 142, 3) := by decide +kernel
theorem d_PN_gatherNear_48 : decode b_PN_gatherNear 48 = .ok (.iinc 5 1, 3) := by decide +kernel
theorem d_PN_gatherNear_51 : decode b_PN_gatherNear 51 = .ok (.goto (-34), 3) := by decide +kernel
theorem d_PN_gatherNear_54 : decode b_PN_gatherNear 54 = .ok (.aload_n 0, 1) := by decide +kernel
theorem d_PN_gatherNear_55 : decode b_PN_gatherNear 55 = .ok (.getfield 36, 3) := by decide +kernel
theorem d_PN_gatherNear_58 : decode b_PN_gatherNear 58 = .ok (.iload_n 1, 1) := by decide +kernel
theorem d_PN_gatherNear_59 : decode b_PN_gatherNear 59 = .ok (.invokevirtual 146, 3) := by decide +kernel
theorem d_PN_gatherNear_62 : decode b_PN_gatherNear 62 = .ok (.istore 5, 2) := by decide +kernel
theorem d_PN_gatherNear_64 : decode b_PN_gatherNear 64 = .ok (.iconst 0, 1) := by decide +kernel
theorem d_PN_gatherNear_65 : decode b_PN_gatherNear 65 = .ok (.istore 6, 2) := by decide +kernel
theorem d_PN_gatherNear_67 : decode b_PN_gatherNear 67 = .ok (.iload 6, 2) := by decide +kernel
theorem d_PN_gatherNear_69 : decode b_PN_gatherNear 69 = .ok (.iload 5, 2) := by decide +kernel
theorem d_PN_gatherNear_71 : decode b_PN_gatherNear 71 = .ok (.if_icmp .ge 44, 3) := by decide +kernel
theorem d_PN_gatherNear_74 : decode b_PN_gatherNear 74 = .ok (.aload_n 0, 1) := by decide +kernel
theorem d_PN_gatherNear_75 : decode b_PN_gatherNear 75 = .ok (.getfield 36, 3) := by decide +kernel
theorem d_PN_gatherNear_78 : decode b_PN_gatherNear 78 = .ok (.iload 6, 2) := by decide +kernel
theorem d_PN_gatherNear_80 : decode b_PN_gatherNear 80 = .ok (.invokevirtual 149, 3) := by decide +kernel
theorem d_PN_gatherNear_83 : decode b_PN_gatherNear 83 = .ok (.istore 7, 2) := by decide +kernel
theorem d_PN_gatherNear_85 : decode b_PN_gatherNear 85 = .ok (.aload_n 0, 1) := by decide +kernel
theorem d_PN_gatherNear_86 : decode b_PN_gatherNear 86 = .ok (.sipush 200, 3) := by decide +kernel
theorem d_PN_gatherNear_89 : decode b_PN_gatherNear 89 = .ok (.iload 7, 2) := by decide +kernel
theorem d_PN_gatherNear_91 : decode b_PN_gatherNear 91 = .ok (.iadd, 1) := by decide +kernel
theorem d_PN_gatherNear_92 : decode b_PN_gatherNear 92 = .ok (.invokevirtual 119, 3) := by decide +kernel
theorem d_PN_gatherNear_95 : decode b_PN_gatherNear 95 = .ok (.iload_n 2, 1) := by decide +kernel
theorem d_PN_gatherNear_96 : decode b_PN_gatherNear 96 = .ok (.if_icmp .ge 13, 3) := by decide +kernel
theorem d_PN_gatherNear_99 : decode b_PN_gatherNear 99 = .ok (.aload_n 0, 1) := by decide +kernel
theorem d_PN_gatherNear_100 : decode b_PN_gatherNear 100 = .ok (.aload_n 3, 1) := by decide +kernel
theorem d_PN_gatherNear_101 : decode b_PN_gatherNear 101 = .ok (.iload 7, 2) := by decide +kernel
theorem d_PN_gatherNear_103 : decode b_PN_gatherNear 103 = .ok (.invokevirtual 98, 3) := by decide +kernel
theorem d_PN_gatherNear_106 : decode b_PN_gatherNear 106 = .ok (.invokevirtual 142, 3) := by decide +kernel
theorem d_PN_gatherNear_109 : decode b_PN_gatherNear 109 = .ok (.iinc 6 1, 3) := by decide +kernel
theorem d_PN_gatherNear_112 : decode b_PN_gatherNear 112 = .ok (.goto (-45), 3) := by decide +kernel
theorem d_PN_gatherNear_115 : decode b_PN_gatherNear 115 = .ok (.return_, 1) := by decide +kernel
theorem d_PN_addNear_0 : decode b_PN_addNear 0 = .ok (.aload_n 0, 1) := by decide +kernel
theorem d_PN_addNear_1 : decode b_PN_addNear 1 = .ok (.getfield 28, 3) := by decide +kernel
theorem d_PN_addNear_4 : decode b_PN_addNear 4 = .ok (.aload_n 0, 1) := by decide +kernel
theorem d_PN_addNear_5 : decode b_PN_addNear 5 = .ok (.getfield 20, 3) := by decide +kernel
theorem d_PN_addNear_8 : decode b_PN_addNear 8 = .ok (.arraylength, 1) := by decide +kernel
theorem d_PN_addNear_9 : decode b_PN_addNear 9 = .ok (.if_icmp .ge 23, 3) := by decide +kernel
theorem d_PN_addNear_12 : decode b_PN_addNear 12 = .ok (.aload_n 0, 1) := by decide +kernel
theorem d_PN_addNear_13 : decode b_PN_addNear 13 = .ok (.getfield 20, 3) := by decide +kernel
theorem d_PN_addNear_16 : decode b_PN_addNear 16 = .ok (.aload_n 0, 1) := by decide +kernel
theorem d_PN_addNear_17 : decode b_PN_addNear 17 = .ok (.getfield 28, 3) := by decide +kernel
theorem d_PN_addNear_20 : decode b_PN_addNear 20 = .ok (.lload_n 1, 1) := by decide +kernel
theorem d_PN_addNear_21 : decode b_PN_addNear 21 = .ok (.lastore, 1) := by decide +kernel
theorem d_PN_addNear_22 : decode b_PN_addNear 22 = .ok (.aload_n 0, 1) := by decide +kernel
theorem d_PN_addNear_23 : decode b_PN_addNear 23 = .ok (.dup, 1) := by decide +kernel
theorem d_PN_addNear_24 : decode b_PN_addNear 24 = .ok (.getfield 28, 3) := by decide +kernel
theorem d_PN_addNear_27 : decode b_PN_addNear 27 = .ok (.iconst 1, 1) := by decide +kernel
theorem d_PN_addNear_28 : decode b_PN_addNear 28 = .ok (.iadd, 1) := by decide +kernel
theorem d_PN_addNear_29 : decode b_PN_addNear 29 = .ok (.putfield 28, 3) := by decide +kernel
theorem d_PN_addNear_32 : decode b_PN_addNear 32 = .ok (.return_, 1) := by decide +kernel
theorem d_PN_leastNumber_0 : decode b_PN_leastNumber 0 = .ok (.iconst 0, 1) := by decide +kernel
theorem d_PN_leastNumber_1 : decode b_PN_leastNumber 1 = .ok (.istore_n 3, 1) := by decide +kernel
theorem d_PN_leastNumber_2 : decode b_PN_leastNumber 2 = .ok (.iload_n 3, 1) := by decide +kernel
theorem d_PN_leastNumber_3 : decode b_PN_leastNumber 3 = .ok (.aload_n 0, 1) := by decide +kernel
theorem d_PN_leastNumber_4 : decode b_PN_leastNumber 4 = .ok (.getfield 28, 3) := by decide +kernel
theorem d_PN_leastNumber_7 : decode b_PN_leastNumber 7 = .ok (.if_icmp .ge 25, 3) := by decide +kernel
theorem d_PN_leastNumber_10 : decode b_PN_leastNumber 10 = .ok (.iload_n 3, 1) := by decide +kernel
theorem d_PN_leastNumber_11 : decode b_PN_leastNumber 11 = .ok (.aload_n 0, 1) := by decide +kernel
theorem d_PN_leastNumber_12 : decode b_PN_leastNumber 12 = .ok (.getfield 24, 3) := by decide +kernel
theorem d_PN_leastNumber_15 : decode b_PN_leastNumber 15 = .ok (.arraylength, 1) := by decide +kernel
theorem d_PN_leastNumber_16 : decode b_PN_leastNumber 16 = .ok (.if_icmp .ge 16, 3) := by decide +kernel
theorem d_PN_leastNumber_19 : decode b_PN_leastNumber 19 = .ok (.aload_n 0, 1) := by decide +kernel
theorem d_PN_leastNumber_20 : decode b_PN_leastNumber 20 = .ok (.getfield 24, 3) := by decide +kernel
theorem d_PN_leastNumber_23 : decode b_PN_leastNumber 23 = .ok (.iload_n 3, 1) := by decide +kernel
theorem d_PN_leastNumber_24 : decode b_PN_leastNumber 24 = .ok (.iconst 0, 1) := by decide +kernel
theorem d_PN_leastNumber_25 : decode b_PN_leastNumber 25 = .ok (.bastore, 1) := by decide +kernel
theorem d_PN_leastNumber_26 : decode b_PN_leastNumber 26 = .ok (.iinc 3 1, 3) := by decide +kernel
theorem d_PN_leastNumber_29 : decode b_PN_leastNumber 29 = .ok (.goto (-27), 3) := by decide +kernel
theorem d_PN_leastNumber_32 : decode b_PN_leastNumber 32 = .ok (.iconst 0, 1) := by decide +kernel
theorem d_PN_leastNumber_33 : decode b_PN_leastNumber 33 = .ok (.istore_n 3, 1) := by decide +kernel
theorem d_PN_leastNumber_34 : decode b_PN_leastNumber 34 = .ok (.iload_n 3, 1) := by decide +kernel
theorem d_PN_leastNumber_35 : decode b_PN_leastNumber 35 = .ok (.aload_n 0, 1) := by decide +kernel
theorem d_PN_leastNumber_36 : decode b_PN_leastNumber 36 = .ok (.getfield 28, 3) := by decide +kernel
theorem d_PN_leastNumber_39 : decode b_PN_leastNumber 39 = .ok (.if_icmp .ge 57, 3) := by decide +kernel
theorem d_PN_leastNumber_42 : decode b_PN_leastNumber 42 = .ok (.iload_n 3, 1) := by decide +kernel
theorem d_PN_leastNumber_43 : decode b_PN_leastNumber 43 = .ok (.aload_n 0, 1) := by decide +kernel
theorem d_PN_leastNumber_44 : decode b_PN_leastNumber 44 = .ok (.getfield 20, 3) := by decide +kernel
theorem d_PN_leastNumber_47 : decode b_PN_leastNumber 47 = .ok (.arraylength, 1) := by decide +kernel
theorem d_PN_leastNumber_48 : decode b_PN_leastNumber 48 = .ok (.if_icmp .ge 48, 3) := by decide +kernel
theorem d_PN_leastNumber_51 : decode b_PN_leastNumber 51 = .ok (.lload_n 1, 1) := by decide +kernel
theorem d_PN_leastNumber_52 : decode b_PN_leastNumber 52 = .ok (.aload_n 0, 1) := by decide +kernel
theorem d_PN_leastNumber_53 : decode b_PN_leastNumber 53 = .ok (.getfield 20, 3) := by decide +kernel
theorem d_PN_leastNumber_56 : decode b_PN_leastNumber 56 = .ok (.iload_n 3, 1) := by decide +kernel
theorem d_PN_leastNumber_57 : decode b_PN_leastNumber 57 = .ok (.laload, 1) := by decide +kernel
theorem d_PN_leastNumber_58 : decode b_PN_leastNumber 58 = .ok (.invokestatic 152, 3) := by decide +kernel
theorem d_PN_leastNumber_61 : decode b_PN_leastNumber 61 = .ok (.istore 4, 2) := by decide +kernel
theorem d_PN_leastNumber_63 : decode b_PN_leastNumber 63 = .ok (.iload 4, 2) := by decide +kernel
theorem d_PN_leastNumber_65 : decode b_PN_leastNumber 65 = .ok (.aload_n 0, 1) := by decide +kernel
theorem d_PN_leastNumber_66 : decode b_PN_leastNumber 66 = .ok (.getfield 28, 3) := by decide +kernel
theorem d_PN_leastNumber_69 : decode b_PN_leastNumber 69 = .ok (.if_icmp .ge 21, 3) := by decide +kernel
theorem d_PN_leastNumber_72 : decode b_PN_leastNumber 72 = .ok (.iload 4, 2) := by decide +kernel
theorem d_PN_leastNumber_74 : decode b_PN_leastNumber 74 = .ok (.aload_n 0, 1) := by decide +kernel
theorem d_PN_leastNumber_75 : decode b_PN_leastNumber 75 = .ok (.getfield 24, 3) := by decide +kernel
theorem d_PN_leastNumber_78 : decode b_PN_leastNumber 78 = .ok (.arraylength, 1) := by decide +kernel
theorem d_PN_leastNumber_79 : decode b_PN_leastNumber 79 = .ok (.if_icmp .ge 11, 3) := by decide +kernel
theorem d_PN_leastNumber_82 : decode b_PN_leastNumber 82 = .ok (.aload_n 0, 1) := by decide +kernel
theorem d_PN_leastNumber_83 : decode b_PN_leastNumber 83 = .ok (.getfield 24, 3) := by decide +kernel
theorem d_PN_leastNumber_86 : decode b_PN_leastNumber 86 = .ok (.iload 4, 2) := by decide +kernel
theorem d_PN_leastNumber_88 : decode b_PN_leastNumber 88 = .ok (.iconst 1, 1) := by decide +kernel
theorem d_PN_leastNumber_89 : decode b_PN_leastNumber 89 = .ok (.bastore, 1) := by decide +kernel
theorem d_PN_leastNumber_90 : decode b_PN_leastNumber 90 = .ok (.iinc 3 1, 3) := by decide +kernel
theorem d_PN_leastNumber_93 : decode b_PN_leastNumber 93 = .ok (.goto (-59), 3) := by decide +kernel
theorem d_PN_leastNumber_96 : decode b_PN_leastNumber 96 = .ok (.iconst 1, 1) := by decide +kernel
theorem d_PN_leastNumber_97 : decode b_PN_leastNumber 97 = .ok (.istore_n 3, 1) := by decide +kernel
theorem d_PN_leastNumber_98 : decode b_PN_leastNumber 98 = .ok (.iload_n 3, 1) := by decide +kernel
theorem d_PN_leastNumber_99 : decode b_PN_leastNumber 99 = .ok (.aload_n 0, 1) := by decide +kernel
theorem d_PN_leastNumber_100 : decode b_PN_leastNumber 100 = .ok (.getfield 28, 3) := by decide +kernel
theorem d_PN_leastNumber_103 : decode b_PN_leastNumber 103 = .ok (.if_icmp .ge 29, 3) := by decide +kernel
theorem d_PN_leastNumber_106 : decode b_PN_leastNumber 106 = .ok (.iload_n 3, 1) := by decide +kernel
theorem d_PN_leastNumber_107 : decode b_PN_leastNumber 107 = .ok (.aload_n 0, 1) := by decide +kernel
theorem d_PN_leastNumber_108 : decode b_PN_leastNumber 108 = .ok (.getfield 24, 3) := by decide +kernel
theorem d_PN_leastNumber_111 : decode b_PN_leastNumber 111 = .ok (.arraylength, 1) := by decide +kernel
theorem d_PN_leastNumber_112 : decode b_PN_leastNumber 112 = .ok (.if_icmp .ge 20, 3) := by decide +kernel
theorem d_PN_leastNumber_115 : decode b_PN_leastNumber 115 = .ok (.aload_n 0, 1) := by decide +kernel
theorem d_PN_leastNumber_116 : decode b_PN_leastNumber 116 = .ok (.getfield 24, 3) := by decide +kernel
theorem d_PN_leastNumber_119 : decode b_PN_leastNumber 119 = .ok (.iload_n 3, 1) := by decide +kernel
theorem d_PN_leastNumber_120 : decode b_PN_leastNumber 120 = .ok (.baload, 1) := by decide +kernel
theorem d_PN_leastNumber_121 : decode b_PN_leastNumber 121 = .ok (.ifCond .ne 5, 3) := by decide +kernel
theorem d_PN_leastNumber_124 : decode b_PN_leastNumber 124 = .ok (.iload_n 3, 1) := by decide +kernel
theorem d_PN_leastNumber_125 : decode b_PN_leastNumber 125 = .ok (.ireturn, 1) := by decide +kernel
theorem d_PN_leastNumber_126 : decode b_PN_leastNumber 126 = .ok (.iinc 3 1, 3) := by decide +kernel
theorem d_PN_leastNumber_129 : decode b_PN_leastNumber 129 = .ok (.goto (-31), 3) := by decide +kernel
theorem d_PN_leastNumber_132 : decode b_PN_leastNumber 132 = .ok (.iconst 1, 1) := by decide +kernel
theorem d_PN_leastNumber_133 : decode b_PN_leastNumber 133 = .ok (.aload_n 0, 1) := by decide +kernel
theorem d_PN_leastNumber_134 : decode b_PN_leastNumber 134 = .ok (.getfield 28, 3) := by decide +kernel
theorem d_PN_leastNumber_137 : decode b_PN_leastNumber 137 = .ok (.invokestatic 156, 3) := by decide +kernel
theorem d_PN_leastNumber_140 : decode b_PN_leastNumber 140 = .ok (.ireturn, 1) := by decide +kernel
theorem d_PN_makeRoom_0 : decode b_PN_makeRoom 0 = .ok (.iload_n 1, 1) := by decide +kernel
theorem d_PN_makeRoom_1 : decode b_PN_makeRoom 1 = .ok (.aload_n 0, 1) := by decide +kernel
theorem d_PN_makeRoom_2 : decode b_PN_makeRoom 2 = .ok (.getfield 11, 3) := by decide +kernel
theorem d_PN_makeRoom_5 : decode b_PN_makeRoom 5 = .ok (.arraylength, 1) := by decide +kernel
theorem d_PN_makeRoom_6 : decode b_PN_makeRoom 6 = .ok (.if_icmp .le 41, 3) := by decide +kernel
theorem d_PN_makeRoom_9 : decode b_PN_makeRoom 9 = .ok (.aload_n 0, 1) := by decide +kernel
theorem d_PN_makeRoom_10 : decode b_PN_makeRoom 10 = .ok (.getfield 11, 3) := by decide +kernel
theorem d_PN_makeRoom_13 : decode b_PN_makeRoom 13 = .ok (.arraylength, 1) := by decide +kernel
theorem d_PN_makeRoom_14 : decode b_PN_makeRoom 14 = .ok (.iload_n 1, 1) := by decide +kernel
theorem d_PN_makeRoom_15 : decode b_PN_makeRoom 15 = .ok (.invokestatic 162, 3) := by decide +kernel
theorem d_PN_makeRoom_18 : decode b_PN_makeRoom 18 = .ok (.istore_n 2, 1) := by decide +kernel
theorem d_PN_makeRoom_19 : decode b_PN_makeRoom 19 = .ok (.aload_n 0, 1) := by decide +kernel
theorem d_PN_makeRoom_20 : decode b_PN_makeRoom 20 = .ok (.iload_n 2, 1) := by decide +kernel
theorem d_PN_makeRoom_21 : decode b_PN_makeRoom 21 = .ok (.newarray .int, 2) := by decide +kernel
theorem d_PN_makeRoom_23 : decode b_PN_makeRoom 23 = .ok (.putfield 11, 3) := by decide +kernel
theorem d_PN_makeRoom_26 : decode b_PN_makeRoom 26 = .ok (.aload_n 0, 1) := by decide +kernel
theorem d_PN_makeRoom_27 : decode b_PN_makeRoom 27 = .ok (.iload_n 2, 1) := by decide +kernel
theorem d_PN_makeRoom_28 : decode b_PN_makeRoom 28 = .ok (.newarray .int, 2) := by decide +kernel
theorem d_PN_makeRoom_30 : decode b_PN_makeRoom 30 = .ok (.putfield 17, 3) := by decide +kernel
theorem d_PN_makeRoom_33 : decode b_PN_makeRoom 33 = .ok (.aload_n 0, 1) := by decide +kernel
theorem d_PN_makeRoom_34 : decode b_PN_makeRoom 34 = .ok (.iload_n 2, 1) := by decide +kernel
theorem d_PN_makeRoom_35 : decode b_PN_makeRoom 35 = .ok (.newarray .long, 2) := by decide +kernel
theorem d_PN_makeRoom_37 : decode b_PN_makeRoom 37 = .ok (.putfield 20, 3) := by decide +kernel
theorem d_PN_makeRoom_40 : decode b_PN_makeRoom 40 = .ok (.aload_n 0, 1) := by decide +kernel
theorem d_PN_makeRoom_41 : decode b_PN_makeRoom 41 = .ok (.iload_n 2, 1) := by decide +kernel
theorem d_PN_makeRoom_42 : decode b_PN_makeRoom 42 = .ok (.newarray .boolean, 2) := by decide +kernel
theorem d_PN_makeRoom_44 : decode b_PN_makeRoom 44 = .ok (.putfield 24, 3) := by decide +kernel
theorem d_PN_makeRoom_47 : decode b_PN_makeRoom 47 = .ok (.return_, 1) := by decide +kernel
end
section
theorem d_RW_init_0 : decode b_RW_init 0 = .ok (.aload_n 0, 1) := by decide +kernel
theorem d_RW_init_1 : decode b_RW_init 1 = .ok (.invokespecial 3, 3) := by decide +kernel
theorem d_RW_init_4 : decode b_RW_init 4 = .ok (.aload_n 0, 1) := by decide +kernel
theorem d_RW_init_5 : decode b_RW_init 5 = .ok (.bipush 16, 2) := by decide +kernel
theorem d_RW_init_7 : decode b_RW_init 7 = .ok (.newarray .int, 2) := by decide +kernel
theorem d_RW_init_9 : decode b_RW_init 9 = .ok (.putfield 9, 3) := by decide +kernel
theorem d_RW_init_12 : decode b_RW_init 12 = .ok (.aload_n 0, 1) := by decide +kernel
theorem d_RW_init_13 : decode b_RW_init 13 = .ok (.bipush 16, 2) := by decide +kernel
theorem d_RW_init_15 : decode b_RW_init 15 = .ok (.newarray .long, 2) := by decide +kernel
theorem d_RW_init_17 : decode b_RW_init 17 = .ok (.putfield 15, 3) := by decide +kernel
theorem d_RW_init_20 : decode b_RW_init 20 = .ok (.aload_n 0, 1) := by decide +kernel
theorem d_RW_init_21 : decode b_RW_init 21 = .ok (.bipush 16, 2) := by decide +kernel
theorem d_RW_init_23 : decode b_RW_init 23 = .ok (.newarray .int, 2) := by decide +kernel
theorem d_RW_init_25 : decode b_RW_init 25 = .ok (.putfield 19, 3) := by decide +kernel
theorem d_RW_init_28 : decode b_RW_init 28 = .ok (.aload_n 0, 1) := by decide +kernel
theorem d_RW_init_29 : decode b_RW_init 29 = .ok (.iconst 0, 1) := by decide +kernel
theorem d_RW_init_30 : decode b_RW_init 30 = .ok (.putfield 22, 3) := by decide +kernel
theorem d_RW_init_33 : decode b_RW_init 33 = .ok (.return_, 1) := by decide +kernel
theorem d_RW_count_0 : decode b_RW_count 0 = .ok (.aload_n 0, 1) := by decide +kernel
theorem d_RW_count_1 : decode b_RW_count 1 = .ok (.getfield 22, 3) := by decide +kernel
theorem d_RW_count_4 : decode b_RW_count 4 = .ok (.ireturn, 1) := by decide +kernel
theorem d_RW_has_0 : decode b_RW_has 0 = .ok (.iload_n 1, 1) := by decide +kernel
theorem d_RW_has_1 : decode b_RW_has 1 = .ok (.ifCond .lt 15, 3) := by decide +kernel
theorem d_RW_has_4 : decode b_RW_has 4 = .ok (.iload_n 1, 1) := by decide +kernel
theorem d_RW_has_5 : decode b_RW_has 5 = .ok (.aload_n 0, 1) := by decide +kernel
theorem d_RW_has_6 : decode b_RW_has 6 = .ok (.getfield 22, 3) := by decide +kernel
theorem d_RW_has_9 : decode b_RW_has 9 = .ok (.if_icmp .ge 7, 3) := by decide +kernel
theorem d_RW_has_12 : decode b_RW_has 12 = .ok (.iconst 1, 1) := by decide +kernel
theorem d_RW_has_13 : decode b_RW_has 13 = .ok (.goto 4, 3) := by decide +kernel
theorem d_RW_has_16 : decode b_RW_has 16 = .ok (.iconst 0, 1) := by decide +kernel
theorem d_RW_has_17 : decode b_RW_has 17 = .ok (.ireturn, 1) := by decide +kernel
theorem d_RW_kind_0 : decode b_RW_kind 0 = .ok (.aload_n 0, 1) := by decide +kernel
theorem d_RW_kind_1 : decode b_RW_kind 1 = .ok (.iload_n 1, 1) := by decide +kernel
theorem d_RW_kind_2 : decode b_RW_kind 2 = .ok (.invokevirtual 26, 3) := by decide +kernel
theorem d_RW_kind_5 : decode b_RW_kind 5 = .ok (.ifCond .eq 12, 3) := by decide +kernel
theorem d_RW_kind_8 : decode b_RW_kind 8 = .ok (.aload_n 0, 1) := by decide +kernel
theorem d_RW_kind_9 : decode b_RW_kind 9 = .ok (.getfield 9, 3) := by decide +kernel
theorem d_RW_kind_12 : decode b_RW_kind 12 = .ok (.iload_n 1, 1) := by decide +kernel
theorem d_RW_kind_13 : decode b_RW_kind 13 = .ok (.iaload, 1) := by decide +kernel
theorem d_RW_kind_14 : decode b_RW_kind 14 = .ok (.goto 4, 3) := by decide +kernel
theorem d_RW_kind_17 : decode b_RW_kind 17 = .ok (.iconst (-1), 1) := by decide +kernel
theorem d_RW_kind_18 : decode b_RW_kind 18 = .ok (.ireturn, 1) := by decide +kernel
theorem d_RW_beside_0 : decode b_RW_beside 0 = .ok (.aload_n 0, 1) := by decide +kernel
theorem d_RW_beside_1 : decode b_RW_beside 1 = .ok (.iload_n 1, 1) := by decide +kernel
theorem d_RW_beside_2 : decode b_RW_beside 2 = .ok (.invokevirtual 26, 3) := by decide +kernel
theorem d_RW_beside_5 : decode b_RW_beside 5 = .ok (.ifCond .eq 12, 3) := by decide +kernel
theorem d_RW_beside_8 : decode b_RW_beside 8 = .ok (.aload_n 0, 1) := by decide +kernel
theorem d_RW_beside_9 : decode b_RW_beside 9 = .ok (.getfield 15, 3) := by decide +kernel
theorem d_RW_beside_12 : decode b_RW_beside 12 = .ok (.iload_n 1, 1) := by decide +kernel
theorem d_RW_beside_13 : decode b_RW_beside 13 = .ok (.laload, 1) := by decide +kernel
theorem d_RW_beside_14 : decode b_RW_beside 14 = .ok (.goto 6, 3) := by decide +kernel
theorem d_RW_beside_17 : decode b_RW_beside 17 = .ok (.ldc2_w 30, 3) := by decide +kernel
theorem d_RW_beside_20 : decode b_RW_beside 20 = .ok (.lreturn, 1) := by decide +kernel
theorem d_RW_size_0 : decode b_RW_size 0 = .ok (.aload_n 0, 1) := by decide +kernel
theorem d_RW_size_1 : decode b_RW_size 1 = .ok (.iload_n 1, 1) := by decide +kernel
theorem d_RW_size_2 : decode b_RW_size 2 = .ok (.invokevirtual 26, 3) := by decide +kernel
theorem d_RW_size_5 : decode b_RW_size 5 = .ok (.ifCond .eq 12, 3) := by decide +kernel
theorem d_RW_size_8 : decode b_RW_size 8 = .ok (.aload_n 0, 1) := by decide +kernel
theorem d_RW_size_9 : decode b_RW_size 9 = .ok (.getfield 19, 3) := by decide +kernel
theorem d_RW_size_12 : decode b_RW_size 12 = .ok (.iload_n 1, 1) := by decide +kernel
theorem d_RW_size_13 : decode b_RW_size 13 = .ok (.iaload, 1) := by decide +kernel
theorem d_RW_size_14 : decode b_RW_size 14 = .ok (.goto 4, 3) := by decide +kernel
theorem d_RW_size_17 : decode b_RW_size 17 = .ok (.iconst 0, 1) := by decide +kernel
theorem d_RW_size_18 : decode b_RW_size 18 = .ok (.ireturn, 1) := by decide +kernel
theorem d_RW_end_0 : decode b_RW_end 0 = .ok (.iload_n 1, 1) := by decide +kernel
theorem d_RW_end_1 : decode b_RW_end 1 = .ok (.aload_n 0, 1) := by decide +kernel
theorem d_RW_end_2 : decode b_RW_end 2 = .ok (.iload_n 1, 1) := by decide +kernel
theorem d_RW_end_3 : decode b_RW_end 3 = .ok (.invokevirtual 32, 3) := by decide +kernel
theorem d_RW_end_6 : decode b_RW_end 6 = .ok (.iadd, 1) := by decide +kernel
theorem d_RW_end_7 : decode b_RW_end 7 = .ok (.ireturn, 1) := by decide +kernel
theorem d_RW_second_0 : decode b_RW_second 0 = .ok (.aload_n 0, 1) := by decide +kernel
theorem d_RW_second_1 : decode b_RW_second 1 = .ok (.iload_n 1, 1) := by decide +kernel
theorem d_RW_second_2 : decode b_RW_second 2 = .ok (.iconst 1, 1) := by decide +kernel
theorem d_RW_second_3 : decode b_RW_second 3 = .ok (.iadd, 1) := by decide +kernel
theorem d_RW_second_4 : decode b_RW_second 4 = .ok (.invokevirtual 36, 3) := by decide +kernel
theorem d_RW_second_7 : decode b_RW_second 7 = .ok (.ireturn, 1) := by decide +kernel
theorem d_RW_clear_0 : decode b_RW_clear 0 = .ok (.aload_n 0, 1) := by decide +kernel
theorem d_RW_clear_1 : decode b_RW_clear 1 = .ok (.iconst 0, 1) := by decide +kernel
theorem d_RW_clear_2 : decode b_RW_clear 2 = .ok (.putfield 22, 3) := by decide +kernel
theorem d_RW_clear_5 : decode b_RW_clear 5 = .ok (.return_, 1) := by decide +kernel
theorem d_RW_add_0 : decode b_RW_add 0 = .ok (.aload_n 0, 1) := by decide +kernel
theorem d_RW_add_1 : decode b_RW_add 1 = .ok (.getfield 22, 3) := by decide +kernel
theorem d_RW_add_4 : decode b_RW_add 4 = .ok (.sipush 3000, 3) := by decide +kernel
theorem d_RW_add_7 : decode b_RW_add 7 = .ok (.if_icmp .lt 4, 3) := by decide +kernel
theorem d_RW_add_10 : decode b_RW_add 10 = .ok (.return_, 1) := by decide +kernel
theorem d_RW_add_11 : decode b_RW_add 11 = .ok (.aload_n 0, 1) := by decide +kernel
theorem d_RW_add_12 : decode b_RW_add 12 = .ok (.aload_n 0, 1) := by decide +kernel
theorem d_RW_add_13 : decode b_RW_add 13 = .ok (.getfield 22, 3) := by decide +kernel
theorem d_RW_add_16 : decode b_RW_add 16 = .ok (.iconst 1, 1) := by decide +kernel
theorem d_RW_add_17 : decode b_RW_add 17 = .ok (.iadd, 1) := by decide +kernel
theorem d_RW_add_18 : decode b_RW_add 18 = .ok (.invokevirtual 39, 3) := by decide +kernel
theorem d_RW_add_21 : decode b_RW_add 21 = .ok (.aload_n 0, 1) := by decide +kernel
theorem d_RW_add_22 : decode b_RW_add 22 = .ok (.getfield 9, 3) := by decide +kernel
theorem d_RW_add_25 : decode b_RW_add 25 = .ok (.aload_n 0, 1) := by decide +kernel
theorem d_RW_add_26 : decode b_RW_add 26 = .ok (.getfield 22, 3) := by decide +kernel
theorem d_RW_add_29 : decode b_RW_add 29 = .ok (.iload_n 1, 1) := by decide +kernel
theorem d_RW_add_30 : decode b_RW_add 30 = .ok (.iastore, 1) := by decide +kernel
theorem d_RW_add_31 : decode b_RW_add 31 = .ok (.aload_n 0, 1) := by decide +kernel
theorem d_RW_add_32 : decode b_RW_add 32 = .ok (.getfield 15, 3) := by decide +kernel
theorem d_RW_add_35 : decode b_RW_add 35 = .ok (.aload_n 0, 1) := by decide +kernel
theorem d_RW_add_36 : decode b_RW_add 36 = .ok (.getfield 22, 3) := by decide +kernel
theorem d_RW_add_39 : decode b_RW_add 39 = .ok (.lload_n 2, 1) := by decide +kernel
theorem d_RW_add_40 : decode b_RW_add 40 = .ok (.lastore, 1) := by decide +kernel
theorem d_RW_add_41 : decode b_RW_add 41 = .ok (.aload_n 0, 1) := by decide +kernel
theorem d_RW_add_42 : decode b_RW_add 42 = .ok (.dup, 1) := by decide +kernel
theorem d_RW_add_43 : decode b_RW_add 43 = .ok (.getfield 22, 3) := by decide +kernel
theorem d_RW_add_46 : decode b_RW_add 46 = .ok (.iconst 1, 1) := by decide +kernel
theorem d_RW_add_47 : decode b_RW_add 47 = .ok (.iadd, 1) := by decide +kernel
theorem d_RW_add_48 : decode b_RW_add 48 = .ok (.putfield 22, 3) := by decide +kernel
theorem d_RW_add_51 : decode b_RW_add 51 = .ok (.return_, 1) := by decide +kernel
theorem d_RW_setBeside_0 : decode b_RW_setBeside 0 = .ok (.aload_n 0, 1) := by decide +kernel
theorem d_RW_setBeside_1 : decode b_RW_setBeside 1 = .ok (.iload_n 1, 1) := by decide +kernel
theorem d_RW_setBeside_2 : decode b_RW_setBeside 2 = .ok (.invokevirtual 26, 3) := by decide +kernel
theorem d_RW_setBeside_5 : decode b_RW_setBeside 5 = .ok (.ifCond .eq 10, 3) := by decide +kernel
theorem d_RW_setBeside_8 : decode b_RW_setBeside 8 = .ok (.aload_n 0, 1) := by decide +kernel
theorem d_RW_setBeside_9 : decode b_RW_setBeside 9 = .ok (.getfield 15, 3) := by decide +kernel
theorem d_RW_setBeside_12 : decode b_RW_setBeside 12 = .ok (.iload_n 1, 1) := by decide +kernel
theorem d_RW_setBeside_13 : decode b_RW_setBeside 13 = .ok (.lload_n 2, 1) := by decide +kernel
theorem d_RW_setBeside_14 : decode b_RW_setBeside 14 = .ok (.lastore, 1) := by decide +kernel
theorem d_RW_setBeside_15 : decode b_RW_setBeside 15 = .ok (.return_, 1) := by decide +kernel
theorem d_RW_become_0 : decode b_RW_become 0 = .ok (.aload_n 0, 1) := by decide +kernel
theorem d_RW_become_1 : decode b_RW_become 1 = .ok (.aload_n 1, 1) := by decide +kernel
theorem d_RW_become_2 : decode b_RW_become 2 = .ok (.getfield 22, 3) := by decide +kernel
theorem d_RW_become_5 : decode b_RW_become 5 = .ok (.invokevirtual 39, 3) := by decide +kernel
theorem d_RW_become_8 : decode b_RW_become 8 = .ok (.aload_n 1, 1) := by decide +kernel
theorem d_RW_become_9 : decode b_RW_become 9 = .ok (.getfield 9, 3) := by decide +kernel
theorem d_RW_become_12 : decode b_RW_become 12 = .ok (.iconst 0, 1) := by decide +kernel
theorem d_RW_become_13 : decode b_RW_become 13 = .ok (.aload_n 0, 1) := by decide +kernel
theorem d_RW_become_14 : decode b_RW_become 14 = .ok (.getfield 9, 3) := by decide +kernel
theorem d_RW_become_17 : decode b_RW_become 17 = .ok (.iconst 0, 1) := by decide +kernel
theorem d_RW_become_18 : decode b_RW_become 18 = .ok (.aload_n 1, 1) := by decide +kernel
theorem d_RW_become_19 : decode b_RW_become 19 = .ok (.getfield 22, 3) := by decide +kernel
theorem d_RW_become_22 : decode b_RW_become 22 = .ok (.invokestatic 43, 3) := by decide +kernel
theorem d_RW_become_25 : decode b_RW_become 25 = .ok (.aload_n 1, 1) := by decide +kernel
theorem d_RW_become_26 : decode b_RW_become 26 = .ok (.getfield 15, 3) := by decide +kernel
theorem d_RW_become_29 : decode b_RW_become 29 = .ok (.iconst 0, 1) := by decide +kernel
theorem d_RW_become_30 : decode b_RW_become 30 = .ok (.aload_n 0, 1) := by decide +kernel
theorem d_RW_become_31 : decode b_RW_become 31 = .ok (.getfield 15, 3) := by decide +kernel
theorem d_RW_become_34 : decode b_RW_become 34 = .ok (.iconst 0, 1) := by decide +kernel
theorem d_RW_become_35 : decode b_RW_become 35 = .ok (.aload_n 1, 1) := by decide +kernel
theorem d_RW_become_36 : decode b_RW_become 36 = .ok (.getfield 22, 3) := by decide +kernel
theorem d_RW_become_39 : decode b_RW_become 39 = .ok (.invokestatic 43, 3) := by decide +kernel
theorem d_RW_become_42 : decode b_RW_become 42 = .ok (.aload_n 0, 1) := by decide +kernel
theorem d_RW_become_43 : decode b_RW_become 43 = .ok (.aload_n 1, 1) := by decide +kernel
theorem d_RW_become_44 : decode b_RW_become 44 = .ok (.getfield 22, 3) := by decide +kernel
theorem d_RW_become_47 : decode b_RW_become 47 = .ok (.putfield 22, 3) := by decide +kernel
theorem d_RW_become_50 : decode b_RW_become 50 = .ok (.return_, 1) := by decide +kernel
theorem d_RW_measure_0 : decode b_RW_measure 0 = .ok (.aload_n 0, 1) := by decide +kernel
theorem d_RW_measure_1 : decode b_RW_measure 1 = .ok (.getfield 22, 3) := by decide +kernel
theorem d_RW_measure_4 : decode b_RW_measure 4 = .ok (.iconst 1, 1) := by decide +kernel
theorem d_RW_measure_5 : decode b_RW_measure 5 = .ok (.isub, 1) := by decide +kernel
theorem d_RW_measure_6 : decode b_RW_measure 6 = .ok (.istore_n 1, 1) := by decide +kernel
theorem d_RW_measure_7 : decode b_RW_measure 7 = .ok (.iload_n 1, 1) := by decide +kernel
theorem d_RW_measure_8 : decode b_RW_measure 8 = .ok (.ifCond .lt 67, 3) := by decide +kernel
theorem d_RW_measure_11 : decode b_RW_measure 11 = .ok (.aload_n 0, 1) := by decide +kernel
theorem d_RW_measure_12 : decode b_RW_measure 12 = .ok (.getfield 19, 3) := by decide +kernel
theorem d_RW_measure_15 : decode b_RW_measure 15 = .ok (.iload_n 1, 1) := by decide +kernel
theorem d_RW_measure_16 : decode b_RW_measure 16 = .ok (.iconst 1, 1) := by decide +kernel
theorem d_RW_measure_17 : decode b_RW_measure 17 = .ok (.iastore, 1) := by decide +kernel
theorem d_RW_measure_18 : decode b_RW_measure 18 = .ok (.aload_n 0, 1) := by decide +kernel
theorem d_RW_measure_19 : decode b_RW_measure 19 = .ok (.getfield 9, 3) := by decide +kernel
theorem d_RW_measure_22 : decode b_RW_measure 22 = .ok (.iload_n 1, 1) := by decide +kernel
theorem d_RW_measure_23 : decode b_RW_measure 23 = .ok (.iaload, 1) := by decide +kernel
theorem d_RW_measure_24 : decode b_RW_measure 24 = .ok (.invokestatic 49, 3) := by decide +kernel
theorem d_RW_measure_27 : decode b_RW_measure 27 = .ok (.ifCond .eq 42, 3) := by decide +kernel
theorem d_RW_measure_30 : decode b_RW_measure 30 = .ok (.aload_n 0, 1) := by decide +kernel
theorem d_RW_measure_31 : decode b_RW_measure 31 = .ok (.iload_n 1, 1) := by decide +kernel
theorem d_RW_measure_32 : decode b_RW_measure 32 = .ok (.invokevirtual 52, 3) := by decide +kernel
theorem d_RW_measure_35 : decode b_RW_measure 35 = .ok (.istore_n 2, 1) := by decide +kernel
theorem d_RW_measure_36 : decode b_RW_measure 36 = .ok (.aload_n 0, 1) := by decide +kernel
theorem d_RW_measure_37 : decode b_RW_measure 37 = .ok (.iload_n 1, 1) := by decide +kernel
theorem d_RW_measure_38 : decode b_RW_measure 38 = .ok (.iconst 1, 1) := by decide +kernel
theorem d_RW_measure_39 : decode b_RW_measure 39 = .ok (.iadd, 1) := by decide +kernel
theorem d_RW_measure_40 : decode b_RW_measure 40 = .ok (.invokevirtual 26, 3) := by decide +kernel
theorem d_RW_measure_43 : decode b_RW_measure 43 = .ok (.ifCond .eq 11, 3) := by decide +kernel
theorem d_RW_measure_46 : decode b_RW_measure 46 = .ok (.aload_n 0, 1) := by decide +kernel
theorem d_RW_measure_47 : decode b_RW_measure 47 = .ok (.iload_n 2, 1) := by decide +kernel
theorem d_RW_measure_48 : decode b_RW_measure 48 = .ok (.invokevirtual 26, 3) := by decide +kernel
theorem d_RW_measure_51 : decode b_RW_measure 51 = .ok (.ifCond .ne 5, 3) := by decide +kernel
theorem d_RW_measure_54 : decode b_RW_measure 54 = .ok (.iconst 0, 1) := by decide +kernel
theorem d_RW_measure_55 : decode b_RW_measure 55 = .ok (.ireturn, 1) := by decide +kernel
theorem d_RW_measure_56 : decode b_RW_measure 56 = .ok (.aload_n 0, 1) := by decide +kernel
theorem d_RW_measure_57 : decode b_RW_measure 57 = .ok (.getfield 19, 3) := by decide +kernel
theorem d_RW_measure_60 : decode b_RW_measure 60 = .ok (.iload_n 1, 1) := by decide +kernel
theorem d_RW_measure_61 : decode b_RW_measure 61 = .ok (.aload_n 0, 1) := by decide +kernel
theorem d_RW_measure_62 : decode b_RW_measure 62 = .ok (.iload_n 2, 1) := by decide +kernel
theorem d_RW_measure_63 : decode b_RW_measure 63 = .ok (.invokevirtual 36, 3) := by decide +kernel
theorem d_RW_measure_66 : decode b_RW_measure 66 = .ok (.iload_n 1, 1) := by decide +kernel
theorem d_RW_measure_67 : decode b_RW_measure 67 = .ok (.isub, 1) := by decide +kernel
theorem d_RW_measure_68 : decode b_RW_measure 68 = .ok (.iastore, 1) := by decide +kernel
theorem d_RW_measure_69 : decode b_RW_measure 69 = .ok (.iinc 1 (-1), 3) := by decide +kernel
theorem d_RW_measure_72 : decode b_RW_measure 72 = .ok (.goto (-65), 3) := by decide +kernel
theorem d_RW_measure_75 : decode b_RW_measure 75 = .ok (.aload_n 0, 1) := by decide +kernel
theorem d_RW_measure_76 : decode b_RW_measure 76 = .ok (.getfield 22, 3) := by decide +kernel
theorem d_RW_measure_79 : decode b_RW_measure 79 = .ok (.ifCond .le 20, 3) := by decide +kernel
theorem d_RW_measure_82 : decode b_RW_measure 82 = .ok (.aload_n 0, 1) := by decide +kernel
theorem d_RW_measure_83 : decode b_RW_measure 83 = .ok (.getfield 19, 3) := by decide +kernel
theorem d_RW_measure_86 : decode b_RW_measure 86 = .ok (.iconst 0, 1) := by decide +kernel
theorem d_RW_measure_87 : decode b_RW_measure 87 = .ok (.iaload, 1) := by decide +kernel
theorem d_RW_measure_88 : decode b_RW_measure 88 = .ok (.aload_n 0, 1) := by decide +kernel
theorem d_RW_measure_89 : decode b_RW_measure 89 = .ok (.getfield 22, 3) := by decide +kernel
theorem d_RW_measure_92 : decode b_RW_measure 92 = .ok (.if_icmp .ne 7, 3) := by decide +kernel
theorem d_RW_measure_95 : decode b_RW_measure 95 = .ok (.iconst 1, 1) := by decide +kernel
theorem d_RW_measure_96 : decode b_RW_measure 96 = .ok (.goto 4, 3) := by decide +kernel
theorem d_RW_measure_99 : decode b_RW_measure 99 = .ok (.iconst 0, 1) := by decide +kernel
theorem d_RW_measure_100 : decode b_RW_measure 100 = .ok (.ireturn, 1) := by decide +kernel
theorem d_RW_makeRoom_0 : decode b_RW_makeRoom 0 = .ok (.iload_n 1, 1) := by decide +kernel
theorem d_RW_makeRoom_1 : decode b_RW_makeRoom 1 = .ok (.aload_n 0, 1) := by decide +kernel
theorem d_RW_makeRoom_2 : decode b_RW_makeRoom 2 = .ok (.getfield 9, 3) := by decide +kernel
theorem d_RW_makeRoom_5 : decode b_RW_makeRoom 5 = .ok (.arraylength, 1) := by decide +kernel
theorem d_RW_makeRoom_6 : decode b_RW_makeRoom 6 = .ok (.if_icmp .le 49, 3) := by decide +kernel
theorem d_RW_makeRoom_9 : decode b_RW_makeRoom 9 = .ok (.aload_n 0, 1) := by decide +kernel
theorem d_RW_makeRoom_10 : decode b_RW_makeRoom 10 = .ok (.getfield 9, 3) := by decide +kernel
theorem d_RW_makeRoom_13 : decode b_RW_makeRoom 13 = .ok (.arraylength, 1) := by decide +kernel
theorem d_RW_makeRoom_14 : decode b_RW_makeRoom 14 = .ok (.iload_n 1, 1) := by decide +kernel
theorem d_RW_makeRoom_15 : decode b_RW_makeRoom 15 = .ok (.invokestatic 55, 3) := by decide +kernel
theorem d_RW_makeRoom_18 : decode b_RW_makeRoom 18 = .ok (.istore_n 2, 1) := by decide +kernel
theorem d_RW_makeRoom_19 : decode b_RW_makeRoom 19 = .ok (.aload_n 0, 1) := by decide +kernel
theorem d_RW_makeRoom_20 : decode b_RW_makeRoom 20 = .ok (.aload_n 0, 1) := by decide +kernel
theorem d_RW_makeRoom_21 : decode b_RW_makeRoom 21 = .ok (.getfield 9, 3) := by decide +kernel
theorem d_RW_makeRoom_24 : decode b_RW_makeRoom 24 = .ok (.iload_n 2, 1) := by decide +kernel
theorem d_RW_makeRoom_25 : decode b_RW_makeRoom 25 = .ok (.invokestatic 59, 3) := by decide +kernel
theorem d_RW_makeRoom_28 : decode b_RW_makeRoom 28 = .ok (.putfield 9, 3) := by decide +kernel
theorem d_RW_makeRoom_31 : decode b_RW_makeRoom 31 = .ok (.aload_n 0, 1) := by decide +kernel
theorem d_RW_makeRoom_32 : decode b_RW_makeRoom 32 = .ok (.aload_n 0, 1) := by decide +kernel
theorem d_RW_makeRoom_33 : decode b_RW_makeRoom 33 = .ok (.getfield 15, 3) := by decide +kernel
theorem d_RW_makeRoom_36 : decode b_RW_makeRoom 36 = .ok (.iload_n 2, 1) := by decide +kernel
theorem d_RW_makeRoom_37 : decode b_RW_makeRoom 37 = .ok (.invokestatic 65, 3) := by decide +kernel
theorem d_RW_makeRoom_40 : decode b_RW_makeRoom 40 = .ok (.putfield 15, 3) := by decide +kernel
theorem d_RW_makeRoom_43 : decode b_RW_makeRoom 43 = .ok (.aload_n 0, 1) := by decide +kernel
theorem d_RW_makeRoom_44 : decode b_RW_makeRoom 44 = .ok (.aload_n 0, 1) := by decide +kernel
theorem d_RW_makeRoom_45 : decode b_RW_makeRoom 45 = .ok (.getfield 19, 3) := by decide +kernel
theorem d_RW_makeRoom_48 : decode b_RW_makeRoom 48 = .ok (.iload_n 2, 1) := by decide +kernel
theorem d_RW_makeRoom_49 : decode b_RW_makeRoom 49 = .ok (.invokestatic 59, 3) := by decide +kernel
theorem d_RW_makeRoom_52 : decode b_RW_makeRoom 52 = .ok (.putfield 19, 3) := by decide +kernel
theorem d_RW_makeRoom_55 : decode b_RW_makeRoom 55 = .ok (.return_, 1) := by decide +kernel
theorem d_AR_copyOfI_0 : decode b_AR_copyOfI 0 = .ok (.iload_n 1, 1) := by decide +kernel
theorem d_AR_copyOfI_1 : decode b_AR_copyOfI 1 = .ok (.aload_n 0, 1) := by decide +kernel
theorem d_AR_copyOfI_2 : decode b_AR_copyOfI 2 = .ok (.arraylength, 1) := by decide +kernel
theorem d_AR_copyOfI_3 : decode b_AR_copyOfI 3 = .ok (.if_icmp .ne 11, 3) := by decide +kernel
theorem d_AR_copyOfI_6 : decode b_AR_copyOfI 6 = .ok (.aload_n 0, 1) := by decide +kernel
theorem d_AR_copyOfI_7 : decode b_AR_copyOfI 7 = .ok (.invokevirtual 316, 3) := by decide +kernel
theorem d_AR_copyOfI_10 : decode b_AR_copyOfI 10 = .ok (.checkcast 317, 3) := by decide +kernel
theorem d_AR_copyOfI_13 : decode b_AR_copyOfI 13 = .ok (.areturn, 1) := by decide +kernel
theorem d_AR_copyOfI_14 : decode b_AR_copyOfI 14 = .ok (.iload_n 1, 1) := by decide +kernel
theorem d_AR_copyOfI_15 : decode b_AR_copyOfI 15 = .ok (.newarray .int, 2) := by decide +kernel
theorem d_AR_copyOfI_17 : decode b_AR_copyOfI 17 = .ok (.astore_n 2, 1) := by decide +kernel
theorem d_AR_copyOfI_18 : decode b_AR_copyOfI 18 = .ok (.aload_n 0, 1) := by decide +kernel
theorem d_AR_copyOfI_19 : decode b_AR_copyOfI 19 = .ok (.iconst 0, 1) := by decide +kernel
theorem d_AR_copyOfI_20 : decode b_AR_copyOfI 20 = .ok (.aload_n 2, 1) := by decide +kernel
theorem d_AR_copyOfI_21 : decode b_AR_copyOfI 21 = .ok (.iconst 0, 1) := by decide +kernel
theorem d_AR_copyOfI_22 : decode b_AR_copyOfI 22 = .ok (.aload_n 0, 1) := by decide +kernel
theorem d_AR_copyOfI_23 : decode b_AR_copyOfI 23 = .ok (.arraylength, 1) := by decide +kernel
theorem d_AR_copyOfI_24 : decode b_AR_copyOfI 24 = .ok (.iload_n 1, 1) := by decide +kernel
theorem d_AR_copyOfI_25 : decode b_AR_copyOfI 25 = .ok (.invokestatic 304, 3) := by decide +kernel
theorem d_AR_copyOfI_28 : decode b_AR_copyOfI 28 = .ok (.invokestatic 150, 3) := by decide +kernel
theorem d_AR_copyOfI_31 : decode b_AR_copyOfI 31 = .ok (.aload_n 2, 1) := by decide +kernel
theorem d_AR_copyOfI_32 : decode b_AR_copyOfI 32 = .ok (.areturn, 1) := by decide +kernel
theorem d_AR_copyOfL_0 : decode b_AR_copyOfL 0 = .ok (.iload_n 1, 1) := by decide +kernel
theorem d_AR_copyOfL_1 : decode b_AR_copyOfL 1 = .ok (.aload_n 0, 1) := by decide +kernel
theorem d_AR_copyOfL_2 : decode b_AR_copyOfL 2 = .ok (.arraylength, 1) := by decide +kernel
theorem d_AR_copyOfL_3 : decode b_AR_copyOfL 3 = .ok (.if_icmp .ne 11, 3) := by decide +kernel
theorem d_AR_copyOfL_6 : decode b_AR_copyOfL 6 = .ok (.aload_n 0, 1) := by decide +kernel
theorem d_AR_copyOfL_7 : decode b_AR_copyOfL 7 = .ok (.invokevirtual 319, 3) := by decide +kernel
theorem d_AR_copyOfL_10 : decode b_AR_copyOfL 10 = .ok (.checkcast 320, 3) := by decide +kernel
theorem d_AR_copyOfL_13 : decode b_AR_copyOfL 13 = .ok (.areturn, 1) := by decide +kernel
theorem d_AR_copyOfL_14 : decode b_AR_copyOfL 14 = .ok (.iload_n 1, 1) := by decide +kernel
theorem d_AR_copyOfL_15 : decode b_AR_copyOfL 15 = .ok (.newarray .long, 2) := by decide +kernel
theorem d_AR_copyOfL_17 : decode b_AR_copyOfL 17 = .ok (.astore_n 2, 1) := by decide +kernel
theorem d_AR_copyOfL_18 : decode b_AR_copyOfL 18 = .ok (.aload_n 0, 1) := by decide +kernel
theorem d_AR_copyOfL_19 : decode b_AR_copyOfL 19 = .ok (.iconst 0, 1) := by decide +kernel
theorem d_AR_copyOfL_20 : decode b_AR_copyOfL 20 = .ok (.aload_n 2, 1) := by decide +kernel
theorem d_AR_copyOfL_21 : decode b_AR_copyOfL 21 = .ok (.iconst 0, 1) := by decide +kernel
theorem d_AR_copyOfL_22 : decode b_AR_copyOfL 22 = .ok (.aload_n 0, 1) := by decide +kernel
theorem d_AR_copyOfL_23 : decode b_AR_copyOfL 23 = .ok (.arraylength, 1) := by decide +kernel
theorem d_AR_copyOfL_24 : decode b_AR_copyOfL 24 = .ok (.iload_n 1, 1) := by decide +kernel
theorem d_AR_copyOfL_25 : decode b_AR_copyOfL 25 = .ok (.invokestatic 304, 3) := by decide +kernel
theorem d_AR_copyOfL_28 : decode b_AR_copyOfL 28 = .ok (.invokestatic 150, 3) := by decide +kernel
theorem d_AR_copyOfL_31 : decode b_AR_copyOfL 31 = .ok (.aload_n 2, 1) := by decide +kernel
theorem d_AR_copyOfL_32 : decode b_AR_copyOfL 32 = .ok (.areturn, 1) := by decide +kernel
end
section
theorem d_SC_init_0 : decode b_SC_init 0 = .ok (.aload_n 0, 1) := by decide +kernel
theorem d_SC_init_1 : decode b_SC_init 1 = .ok (.invokespecial 3, 3) := by decide +kernel
theorem d_SC_init_4 : decode b_SC_init 4 = .ok (.aload_n 0, 1) := by decide +kernel
theorem d_SC_init_5 : decode b_SC_init 5 = .ok (.iconst 0, 1) := by decide +kernel
theorem d_SC_init_6 : decode b_SC_init 6 = .ok (.putfield 9, 3) := by decide +kernel
theorem d_SC_init_9 : decode b_SC_init 9 = .ok (.aload_n 0, 1) := by decide +kernel
theorem d_SC_init_10 : decode b_SC_init 10 = .ok (.bipush 16, 2) := by decide +kernel
theorem d_SC_init_12 : decode b_SC_init 12 = .ok (.newarray .int, 2) := by decide +kernel
theorem d_SC_init_14 : decode b_SC_init 14 = .ok (.putfield 15, 3) := by decide +kernel
theorem d_SC_init_17 : decode b_SC_init 17 = .ok (.aload_n 0, 1) := by decide +kernel
theorem d_SC_init_18 : decode b_SC_init 18 = .ok (.bipush 16, 2) := by decide +kernel
theorem d_SC_init_20 : decode b_SC_init 20 = .ok (.newarray .int, 2) := by decide +kernel
theorem d_SC_init_22 : decode b_SC_init 22 = .ok (.putfield 19, 3) := by decide +kernel
theorem d_SC_init_25 : decode b_SC_init 25 = .ok (.aload_n 0, 1) := by decide +kernel
theorem d_SC_init_26 : decode b_SC_init 26 = .ok (.bipush 16, 2) := by decide +kernel
theorem d_SC_init_28 : decode b_SC_init 28 = .ok (.newarray .int, 2) := by decide +kernel
theorem d_SC_init_30 : decode b_SC_init 30 = .ok (.putfield 22, 3) := by decide +kernel
theorem d_SC_init_33 : decode b_SC_init 33 = .ok (.return_, 1) := by decide +kernel
theorem d_SC_read_0 : decode b_SC_read 0 = .ok (.aload_n 0, 1) := by decide +kernel
theorem d_SC_read_1 : decode b_SC_read 1 = .ok (.aload_n 1, 1) := by decide +kernel
theorem d_SC_read_2 : decode b_SC_read 2 = .ok (.invokevirtual 25, 3) := by decide +kernel
theorem d_SC_read_5 : decode b_SC_read 5 = .ok (.invokevirtual 30, 3) := by decide +kernel
theorem d_SC_read_8 : decode b_SC_read 8 = .ok (.aload_n 0, 1) := by decide +kernel
theorem d_SC_read_9 : decode b_SC_read 9 = .ok (.aload_n 1, 1) := by decide +kernel
theorem d_SC_read_10 : decode b_SC_read 10 = .ok (.invokevirtual 25, 3) := by decide +kernel
theorem d_SC_read_13 : decode b_SC_read 13 = .ok (.putfield 9, 3) := by decide +kernel
theorem d_SC_read_16 : decode b_SC_read 16 = .ok (.aload_n 0, 1) := by decide +kernel
theorem d_SC_read_17 : decode b_SC_read 17 = .ok (.iconst 0, 1) := by decide +kernel
theorem d_SC_read_18 : decode b_SC_read 18 = .ok (.iconst (-1), 1) := by decide +kernel
theorem d_SC_read_19 : decode b_SC_read 19 = .ok (.invokevirtual 34, 3) := by decide +kernel
theorem d_SC_read_22 : decode b_SC_read 22 = .ok (.iconst 0, 1) := by decide +kernel
theorem d_SC_read_23 : decode b_SC_read 23 = .ok (.istore_n 2, 1) := by decide +kernel
theorem d_SC_read_24 : decode b_SC_read 24 = .ok (.iload_n 2, 1) := by decide +kernel
theorem d_SC_read_25 : decode b_SC_read 25 = .ok (.aload_n 0, 1) := by decide +kernel
theorem d_SC_read_26 : decode b_SC_read 26 = .ok (.getfield 9, 3) := by decide +kernel
theorem d_SC_read_29 : decode b_SC_read 29 = .ok (.if_icmp .ge 83, 3) := by decide +kernel
theorem d_SC_read_32 : decode b_SC_read 32 = .ok (.aload_n 0, 1) := by decide +kernel
theorem d_SC_read_33 : decode b_SC_read 33 = .ok (.getfield 15, 3) := by decide +kernel
theorem d_SC_read_36 : decode b_SC_read 36 = .ok (.iload_n 2, 1) := by decide +kernel
theorem d_SC_read_37 : decode b_SC_read 37 = .ok (.iaload, 1) := by decide +kernel
theorem d_SC_read_38 : decode b_SC_read 38 = .ok (.istore_n 3, 1) := by decide +kernel
theorem d_SC_read_39 : decode b_SC_read 39 = .ok (.aload_n 0, 1) := by decide +kernel
theorem d_SC_read_40 : decode b_SC_read 40 = .ok (.getfield 19, 3) := by decide +kernel
theorem d_SC_read_43 : decode b_SC_read 43 = .ok (.iload_n 2, 1) := by decide +kernel
theorem d_SC_read_44 : decode b_SC_read 44 = .ok (.iload_n 3, 1) := by decide +kernel
theorem d_SC_read_45 : decode b_SC_read 45 = .ok (.iconst (-1), 1) := by decide +kernel
theorem d_SC_read_46 : decode b_SC_read 46 = .ok (.if_icmp .ne 7, 3) := by decide +kernel
theorem d_SC_read_49 : decode b_SC_read 49 = .ok (.iconst 0, 1) := by decide +kernel
theorem d_SC_read_50 : decode b_SC_read 50 = .ok (.goto 10, 3) := by decide +kernel
theorem d_SC_read_53 : decode b_SC_read 53 = .ok (.aload_n 0, 1) := by decide +kernel
theorem d_SC_read_54 : decode b_SC_read 54 = .ok (.iload_n 3, 1) := by decide +kernel
theorem d_SC_read_55 : decode b_SC_read 55 = .ok (.invokevirtual 38, 3) := by decide +kernel
theorem d_SC_read_58 : decode b_SC_read 58 = .ok (.iconst 1, 1) := by decide +kernel
theorem d_SC_read_59 : decode b_SC_read 59 = .ok (.iadd, 1) := by decide +kernel
theorem d_SC_read_60 : decode b_SC_read 60 = .ok (.iastore, 1) := by decide +kernel
theorem d_SC_read_61 : decode b_SC_read 61 = .ok (.aload_n 1, 1) := by decide +kernel
theorem d_SC_read_62 : decode b_SC_read 62 = .ok (.iload_n 2, 1) := by decide +kernel
theorem d_SC_read_63 : decode b_SC_read 63 = .ok (.invokevirtual 42, 3) := by decide +kernel
theorem d_SC_read_66 : decode b_SC_read 66 = .ok (.istore 4, 2) := by decide +kernel
theorem d_SC_read_68 : decode b_SC_read 68 = .ok (.iload 4, 2) := by decide +kernel
theorem d_SC_read_70 : decode b_SC_read 70 = .ok (.invokestatic 45, 3) := by decide +kernel
theorem d_SC_read_73 : decode b_SC_read 73 = .ok (.ifCond .eq 33, 3) := by decide +kernel
theorem d_SC_read_76 : decode b_SC_read 76 = .ok (.aload_n 0, 1) := by decide +kernel
theorem d_SC_read_77 : decode b_SC_read 77 = .ok (.iload_n 2, 1) := by decide +kernel
theorem d_SC_read_78 : decode b_SC_read 78 = .ok (.iconst 1, 1) := by decide +kernel
theorem d_SC_read_79 : decode b_SC_read 79 = .ok (.iadd, 1) := by decide +kernel
theorem d_SC_read_80 : decode b_SC_read 80 = .ok (.iload_n 3, 1) := by decide +kernel
theorem d_SC_read_81 : decode b_SC_read 81 = .ok (.invokevirtual 34, 3) := by decide +kernel
theorem d_SC_read_84 : decode b_SC_read 84 = .ok (.aload_n 0, 1) := by decide +kernel
theorem d_SC_read_85 : decode b_SC_read 85 = .ok (.aload_n 1, 1) := by decide +kernel
theorem d_SC_read_86 : decode b_SC_read 86 = .ok (.iload_n 2, 1) := by decide +kernel
theorem d_SC_read_87 : decode b_SC_read 87 = .ok (.invokevirtual 49, 3) := by decide +kernel
theorem d_SC_read_90 : decode b_SC_read 90 = .ok (.iload 4, 2) := by decide +kernel
theorem d_SC_read_92 : decode b_SC_read 92 = .ok (.invokestatic 52, 3) := by decide +kernel
theorem d_SC_read_95 : decode b_SC_read 95 = .ok (.ifCond .eq 7, 3) := by decide +kernel
theorem d_SC_read_98 : decode b_SC_read 98 = .ok (.iload_n 2, 1) := by decide +kernel
theorem d_SC_read_99 : decode b_SC_read 99 = .ok (.goto 4, 3) := by decide +kernel
theorem d_SC_read_102 : decode b_SC_read 102 = .ok (.iload_n 3, 1) := by decide +kernel
theorem d_SC_read_103 : decode b_SC_read 103 = .ok (.invokevirtual 34, 3) := by decide +kernel
theorem d_SC_read_106 : decode b_SC_read 106 = .ok (.iinc 2 1, 3) := by decide +kernel
theorem d_SC_read_109 : decode b_SC_read 109 = .ok (.goto (-85), 3) := by decide +kernel
theorem d_SC_read_112 : decode b_SC_read 112 = .ok (.return_, 1) := by decide +kernel
theorem d_SC_depth_0 : decode b_SC_depth 0 = .ok (.iload_n 1, 1) := by decide +kernel
theorem d_SC_depth_1 : decode b_SC_depth 1 = .ok (.ifCond .lt 20, 3) := by decide +kernel
theorem d_SC_depth_4 : decode b_SC_depth 4 = .ok (.iload_n 1, 1) := by decide +kernel
theorem d_SC_depth_5 : decode b_SC_depth 5 = .ok (.aload_n 0, 1) := by decide +kernel
theorem d_SC_depth_6 : decode b_SC_depth 6 = .ok (.getfield 9, 3) := by decide +kernel
theorem d_SC_depth_9 : decode b_SC_depth 9 = .ok (.if_icmp .ge 12, 3) := by decide +kernel
theorem d_SC_depth_12 : decode b_SC_depth 12 = .ok (.aload_n 0, 1) := by decide +kernel
theorem d_SC_depth_13 : decode b_SC_depth 13 = .ok (.getfield 19, 3) := by decide +kernel
theorem d_SC_depth_16 : decode b_SC_depth 16 = .ok (.iload_n 1, 1) := by decide +kernel
theorem d_SC_depth_17 : decode b_SC_depth 17 = .ok (.iaload, 1) := by decide +kernel
theorem d_SC_depth_18 : decode b_SC_depth 18 = .ok (.goto 4, 3) := by decide +kernel
theorem d_SC_depth_21 : decode b_SC_depth 21 = .ok (.iconst 0, 1) := by decide +kernel
theorem d_SC_depth_22 : decode b_SC_depth 22 = .ok (.ireturn, 1) := by decide +kernel
theorem d_SC_innermost_0 : decode b_SC_innermost 0 = .ok (.iload_n 1, 1) := by decide +kernel
theorem d_SC_innermost_1 : decode b_SC_innermost 1 = .ok (.ifCond .lt 20, 3) := by decide +kernel
theorem d_SC_innermost_4 : decode b_SC_innermost 4 = .ok (.iload_n 1, 1) := by decide +kernel
theorem d_SC_innermost_5 : decode b_SC_innermost 5 = .ok (.aload_n 0, 1) := by decide +kernel
theorem d_SC_innermost_6 : decode b_SC_innermost 6 = .ok (.getfield 9, 3) := by decide +kernel
theorem d_SC_innermost_9 : decode b_SC_innermost 9 = .ok (.if_icmp .ge 12, 3) := by decide +kernel
theorem d_SC_innermost_12 : decode b_SC_innermost 12 = .ok (.aload_n 0, 1) := by decide +kernel
theorem d_SC_innermost_13 : decode b_SC_innermost 13 = .ok (.getfield 15, 3) := by decide +kernel
theorem d_SC_innermost_16 : decode b_SC_innermost 16 = .ok (.iload_n 1, 1) := by decide +kernel
theorem d_SC_innermost_17 : decode b_SC_innermost 17 = .ok (.iaload, 1) := by decide +kernel
theorem d_SC_innermost_18 : decode b_SC_innermost 18 = .ok (.goto 4, 3) := by decide +kernel
theorem d_SC_innermost_21 : decode b_SC_innermost 21 = .ok (.iconst (-1), 1) := by decide +kernel
theorem d_SC_innermost_22 : decode b_SC_innermost 22 = .ok (.ireturn, 1) := by decide +kernel
theorem d_SC_enter_0 : decode b_SC_enter 0 = .ok (.aload_n 0, 1) := by decide +kernel
theorem d_SC_enter_1 : decode b_SC_enter 1 = .ok (.iload_n 1, 1) := by decide +kernel
theorem d_SC_enter_2 : decode b_SC_enter 2 = .ok (.invokevirtual 38, 3) := by decide +kernel
theorem d_SC_enter_5 : decode b_SC_enter 5 = .ok (.iconst 1, 1) := by decide +kernel
theorem d_SC_enter_6 : decode b_SC_enter 6 = .ok (.isub, 1) := by decide +kernel
theorem d_SC_enter_7 : decode b_SC_enter 7 = .ok (.istore_n 2, 1) := by decide +kernel
theorem d_SC_enter_8 : decode b_SC_enter 8 = .ok (.iload_n 2, 1) := by decide +kernel
theorem d_SC_enter_9 : decode b_SC_enter 9 = .ok (.ifCond .lt 23, 3) := by decide +kernel
theorem d_SC_enter_12 : decode b_SC_enter 12 = .ok (.iload_n 2, 1) := by decide +kernel
theorem d_SC_enter_13 : decode b_SC_enter 13 = .ok (.aload_n 0, 1) := by decide +kernel
theorem d_SC_enter_14 : decode b_SC_enter 14 = .ok (.getfield 22, 3) := by decide +kernel
theorem d_SC_enter_17 : decode b_SC_enter 17 = .ok (.arraylength, 1) := by decide +kernel
theorem d_SC_enter_18 : decode b_SC_enter 18 = .ok (.if_icmp .ge 14, 3) := by decide +kernel
theorem d_SC_enter_21 : decode b_SC_enter 21 = .ok (.aload_n 0, 1) := by decide +kernel
theorem d_SC_enter_22 : decode b_SC_enter 22 = .ok (.getfield 22, 3) := by decide +kernel
theorem d_SC_enter_25 : decode b_SC_enter 25 = .ok (.iload_n 2, 1) := by decide +kernel
theorem d_SC_enter_26 : decode b_SC_enter 26 = .ok (.aload_n 0, 1) := by decide +kernel
theorem d_SC_enter_27 : decode b_SC_enter 27 = .ok (.iload_n 1, 1) := by decide +kernel
theorem d_SC_enter_28 : decode b_SC_enter 28 = .ok (.invokevirtual 55, 3) := by decide +kernel
theorem d_SC_enter_31 : decode b_SC_enter 31 = .ok (.iastore, 1) := by decide +kernel
theorem d_SC_enter_32 : decode b_SC_enter 32 = .ok (.return_, 1) := by decide +kernel
theorem d_SC_open_0 : decode b_SC_open 0 = .ok (.iload_n 1, 1) := by decide +kernel
theorem d_SC_open_1 : decode b_SC_open 1 = .ok (.ifCond .lt 21, 3) := by decide +kernel
theorem d_SC_open_4 : decode b_SC_open 4 = .ok (.iload_n 1, 1) := by decide +kernel
theorem d_SC_open_5 : decode b_SC_open 5 = .ok (.aload_n 0, 1) := by decide +kernel
theorem d_SC_open_6 : decode b_SC_open 6 = .ok (.getfield 22, 3) := by decide +kernel
theorem d_SC_open_9 : decode b_SC_open 9 = .ok (.arraylength, 1) := by decide +kernel
theorem d_SC_open_10 : decode b_SC_open 10 = .ok (.if_icmp .ge 12, 3) := by decide +kernel
theorem d_SC_open_13 : decode b_SC_open 13 = .ok (.aload_n 0, 1) := by decide +kernel
theorem d_SC_open_14 : decode b_SC_open 14 = .ok (.getfield 22, 3) := by decide +kernel
theorem d_SC_open_17 : decode b_SC_open 17 = .ok (.iload_n 1, 1) := by decide +kernel
theorem d_SC_open_18 : decode b_SC_open 18 = .ok (.iaload, 1) := by decide +kernel
theorem d_SC_open_19 : decode b_SC_open 19 = .ok (.goto 4, 3) := by decide +kernel
theorem d_SC_open_22 : decode b_SC_open 22 = .ok (.iconst (-1), 1) := by decide +kernel
theorem d_SC_open_23 : decode b_SC_open 23 = .ok (.ireturn, 1) := by decide +kernel
theorem d_SC_binderOf_0 : decode b_SC_binderOf 0 = .ok (.aload_n 0, 1) := by decide +kernel
theorem d_SC_binderOf_1 : decode b_SC_binderOf 1 = .ok (.iload_n 1, 1) := by decide +kernel
theorem d_SC_binderOf_2 : decode b_SC_binderOf 2 = .ok (.invokevirtual 38, 3) := by decide +kernel
theorem d_SC_binderOf_5 : decode b_SC_binderOf 5 = .ok (.iconst 1, 1) := by decide +kernel
theorem d_SC_binderOf_6 : decode b_SC_binderOf 6 = .ok (.isub, 1) := by decide +kernel
theorem d_SC_binderOf_7 : decode b_SC_binderOf 7 = .ok (.i2l, 1) := by decide +kernel
theorem d_SC_binderOf_8 : decode b_SC_binderOf 8 = .ok (.lload_n 2, 1) := by decide +kernel
theorem d_SC_binderOf_9 : decode b_SC_binderOf 9 = .ok (.lsub, 1) := by decide +kernel
theorem d_SC_binderOf_10 : decode b_SC_binderOf 10 = .ok (.lstore 4, 2) := by decide +kernel
theorem d_SC_binderOf_12 : decode b_SC_binderOf 12 = .ok (.lload 4, 2) := by decide +kernel
theorem d_SC_binderOf_14 : decode b_SC_binderOf 14 = .ok (.lconst 0, 1) := by decide +kernel
theorem d_SC_binderOf_15 : decode b_SC_binderOf 15 = .ok (.lcmp, 1) := by decide +kernel
theorem d_SC_binderOf_16 : decode b_SC_binderOf 16 = .ok (.ifCond .lt 26, 3) := by decide +kernel
theorem d_SC_binderOf_19 : decode b_SC_binderOf 19 = .ok (.lload 4, 2) := by decide +kernel
theorem d_SC_binderOf_21 : decode b_SC_binderOf 21 = .ok (.aload_n 0, 1) := by decide +kernel
theorem d_SC_binderOf_22 : decode b_SC_binderOf 22 = .ok (.getfield 22, 3) := by decide +kernel
theorem d_SC_binderOf_25 : decode b_SC_binderOf 25 = .ok (.arraylength, 1) := by decide +kernel
theorem d_SC_binderOf_26 : decode b_SC_binderOf 26 = .ok (.i2l, 1) := by decide +kernel
theorem d_SC_binderOf_27 : decode b_SC_binderOf 27 = .ok (.lcmp, 1) := by decide +kernel
theorem d_SC_binderOf_28 : decode b_SC_binderOf 28 = .ok (.ifCond .ge 14, 3) := by decide +kernel
theorem d_SC_binderOf_31 : decode b_SC_binderOf 31 = .ok (.aload_n 0, 1) := by decide +kernel
theorem d_SC_binderOf_32 : decode b_SC_binderOf 32 = .ok (.getfield 22, 3) := by decide +kernel
theorem d_SC_binderOf_35 : decode b_SC_binderOf 35 = .ok (.lload 4, 2) := by decide +kernel
theorem d_SC_binderOf_37 : decode b_SC_binderOf 37 = .ok (.l2i, 1) := by decide +kernel
theorem d_SC_binderOf_38 : decode b_SC_binderOf 38 = .ok (.iaload, 1) := by decide +kernel
theorem d_SC_binderOf_39 : decode b_SC_binderOf 39 = .ok (.goto 4, 3) := by decide +kernel
theorem d_SC_binderOf_42 : decode b_SC_binderOf 42 = .ok (.iconst (-1), 1) := by decide +kernel
theorem d_SC_binderOf_43 : decode b_SC_binderOf 43 = .ok (.ireturn, 1) := by decide +kernel
theorem d_SC_indexOf_0 : decode b_SC_indexOf 0 = .ok (.aload_n 0, 1) := by decide +kernel
theorem d_SC_indexOf_1 : decode b_SC_indexOf 1 = .ok (.iload 4, 2) := by decide +kernel
theorem d_SC_indexOf_3 : decode b_SC_indexOf 3 = .ok (.invokevirtual 38, 3) := by decide +kernel
theorem d_SC_indexOf_6 : decode b_SC_indexOf 6 = .ok (.istore 5, 2) := by decide +kernel
theorem d_SC_indexOf_8 : decode b_SC_indexOf 8 = .ok (.iconst 0, 1) := by decide +kernel
theorem d_SC_indexOf_9 : decode b_SC_indexOf 9 = .ok (.istore 6, 2) := by decide +kernel
theorem d_SC_indexOf_11 : decode b_SC_indexOf 11 = .ok (.iload 6, 2) := by decide +kernel
theorem d_SC_indexOf_13 : decode b_SC_indexOf 13 = .ok (.iload 5, 2) := by decide +kernel
theorem d_SC_indexOf_15 : decode b_SC_indexOf 15 = .ok (.if_icmp .ge 32, 3) := by decide +kernel
theorem d_SC_indexOf_18 : decode b_SC_indexOf 18 = .ok (.aload_n 3, 1) := by decide +kernel
theorem d_SC_indexOf_19 : decode b_SC_indexOf 19 = .ok (.aload_n 0, 1) := by decide +kernel
theorem d_SC_indexOf_20 : decode b_SC_indexOf 20 = .ok (.iload 5, 2) := by decide +kernel
theorem d_SC_indexOf_22 : decode b_SC_indexOf 22 = .ok (.iconst 1, 1) := by decide +kernel
theorem d_SC_indexOf_23 : decode b_SC_indexOf 23 = .ok (.isub, 1) := by decide +kernel
theorem d_SC_indexOf_24 : decode b_SC_indexOf 24 = .ok (.iload 6, 2) := by decide +kernel
theorem d_SC_indexOf_26 : decode b_SC_indexOf 26 = .ok (.isub, 1) := by decide +kernel
theorem d_SC_indexOf_27 : decode b_SC_indexOf 27 = .ok (.invokevirtual 57, 3) := by decide +kernel
theorem d_SC_indexOf_30 : decode b_SC_indexOf 30 = .ok (.invokevirtual 59, 3) := by decide +kernel
theorem d_SC_indexOf_33 : decode b_SC_indexOf 33 = .ok (.lload_n 1, 1) := by decide +kernel
theorem d_SC_indexOf_34 : decode b_SC_indexOf 34 = .ok (.lcmp, 1) := by decide +kernel
theorem d_SC_indexOf_35 : decode b_SC_indexOf 35 = .ok (.ifCond .ne 6, 3) := by decide +kernel
theorem d_SC_indexOf_38 : decode b_SC_indexOf 38 = .ok (.iload 6, 2) := by decide +kernel
theorem d_SC_indexOf_40 : decode b_SC_indexOf 40 = .ok (.ireturn, 1) := by decide +kernel
theorem d_SC_indexOf_41 : decode b_SC_indexOf 41 = .ok (.iinc 6 1, 3) := by decide +kernel
theorem d_SC_indexOf_44 : decode b_SC_indexOf 44 = .ok (.goto (-33), 3) := by decide +kernel
theorem d_SC_indexOf_47 : decode b_SC_indexOf 47 = .ok (.iconst (-1), 1) := by decide +kernel
theorem d_SC_indexOf_48 : decode b_SC_indexOf 48 = .ok (.ireturn, 1) := by decide +kernel
theorem d_SC_setInnermost_0 : decode b_SC_setInnermost 0 = .ok (.iload_n 1, 1) := by decide +kernel
theorem d_SC_setInnermost_1 : decode b_SC_setInnermost 1 = .ok (.ifCond .lt 18, 3) := by decide +kernel
theorem d_SC_setInnermost_4 : decode b_SC_setInnermost 4 = .ok (.iload_n 1, 1) := by decide +kernel
theorem d_SC_setInnermost_5 : decode b_SC_setInnermost 5 = .ok (.aload_n 0, 1) := by decide +kernel
theorem d_SC_setInnermost_6 : decode b_SC_setInnermost 6 = .ok (.getfield 9, 3) := by decide +kernel
theorem d_SC_setInnermost_9 : decode b_SC_setInnermost 9 = .ok (.if_icmp .ge 10, 3) := by decide +kernel
theorem d_SC_setInnermost_12 : decode b_SC_setInnermost 12 = .ok (.aload_n 0, 1) := by decide +kernel
theorem d_SC_setInnermost_13 : decode b_SC_setInnermost 13 = .ok (.getfield 15, 3) := by decide +kernel
theorem d_SC_setInnermost_16 : decode b_SC_setInnermost 16 = .ok (.iload_n 1, 1) := by decide +kernel
theorem d_SC_setInnermost_17 : decode b_SC_setInnermost 17 = .ok (.iload_n 2, 1) := by decide +kernel
theorem d_SC_setInnermost_18 : decode b_SC_setInnermost 18 = .ok (.iastore, 1) := by decide +kernel
theorem d_SC_setInnermost_19 : decode b_SC_setInnermost 19 = .ok (.return_, 1) := by decide +kernel
theorem d_SC_makeRoom_0 : decode b_SC_makeRoom 0 = .ok (.iload_n 1, 1) := by decide +kernel
theorem d_SC_makeRoom_1 : decode b_SC_makeRoom 1 = .ok (.aload_n 0, 1) := by decide +kernel
theorem d_SC_makeRoom_2 : decode b_SC_makeRoom 2 = .ok (.getfield 19, 3) := by decide +kernel
theorem d_SC_makeRoom_5 : decode b_SC_makeRoom 5 = .ok (.arraylength, 1) := by decide +kernel
theorem d_SC_makeRoom_6 : decode b_SC_makeRoom 6 = .ok (.if_icmp .le 34, 3) := by decide +kernel
theorem d_SC_makeRoom_9 : decode b_SC_makeRoom 9 = .ok (.aload_n 0, 1) := by decide +kernel
theorem d_SC_makeRoom_10 : decode b_SC_makeRoom 10 = .ok (.getfield 19, 3) := by decide +kernel
theorem d_SC_makeRoom_13 : decode b_SC_makeRoom 13 = .ok (.arraylength, 1) := by decide +kernel
theorem d_SC_makeRoom_14 : decode b_SC_makeRoom 14 = .ok (.iload_n 1, 1) := by decide +kernel
theorem d_SC_makeRoom_15 : decode b_SC_makeRoom 15 = .ok (.invokestatic 63, 3) := by decide +kernel
theorem d_SC_makeRoom_18 : decode b_SC_makeRoom 18 = .ok (.istore_n 2, 1) := by decide +kernel
theorem d_SC_makeRoom_19 : decode b_SC_makeRoom 19 = .ok (.aload_n 0, 1) := by decide +kernel
theorem d_SC_makeRoom_20 : decode b_SC_makeRoom 20 = .ok (.iload_n 2, 1) := by decide +kernel
theorem d_SC_makeRoom_21 : decode b_SC_makeRoom 21 = .ok (.newarray .int, 2) := by decide +kernel
theorem d_SC_makeRoom_23 : decode b_SC_makeRoom 23 = .ok (.putfield 15, 3) := by decide +kernel
theorem d_SC_makeRoom_26 : decode b_SC_makeRoom 26 = .ok (.aload_n 0, 1) := by decide +kernel
theorem d_SC_makeRoom_27 : decode b_SC_makeRoom 27 = .ok (.iload_n 2, 1) := by decide +kernel
theorem d_SC_makeRoom_28 : decode b_SC_makeRoom 28 = .ok (.newarray .int, 2) := by decide +kernel
theorem d_SC_makeRoom_30 : decode b_SC_makeRoom 30 = .ok (.putfield 19, 3) := by decide +kernel
theorem d_SC_makeRoom_33 : decode b_SC_makeRoom 33 = .ok (.aload_n 0, 1) := by decide +kernel
theorem d_SC_makeRoom_34 : decode b_SC_makeRoom 34 = .ok (.iload_n 2, 1) := by decide +kernel
theorem d_SC_makeRoom_35 : decode b_SC_makeRoom 35 = .ok (.newarray .int, 2) := by decide +kernel
theorem d_SC_makeRoom_37 : decode b_SC_makeRoom 37 = .ok (.putfield 22, 3) := by decide +kernel
theorem d_SC_makeRoom_40 : decode b_SC_makeRoom 40 = .ok (.return_, 1) := by decide +kernel
end
section
-- what the walks need beside the rules: truth as a number, calls that change nothing
noncomputable def bZ (P : Prop) : Int := @ite Int P (Classical.propDecidable P) 1 0
theorem bZ_t {P : Prop} (h : P) : bZ P = 1 := if_pos h
theorem bZ_f {P : Prop} (h : ¬ P) : bZ P = 0 := if_neg h
theorem bZ_01 (P : Prop) : bZ P = 0 ∨ bZ P = 1 := by
  by_cases h : P
  · exact Or.inr (bZ_t h)
  · exact Or.inl (bZ_f h)
theorem bZ_c {P Q : Prop} (h : P ↔ Q) : bZ P = bZ Q := by rw [propext h]
theorem gPut_same : ∀ (ws : va_W) (is : List Nat) (wc : va_W), is.map (fun i => ws[i]?) = wc.map some → gPut ws is wc = ws
  | ws, i :: is, c :: w, h => by
    simp only [List.map_cons, List.cons.injEq] at h
    unfold gPut
    rw [gPut_same ws is w h.2]
    exact List.ext_getElem? fun j => by
      by_cases hij : i = j
      · subst hij
        rw [List.getElem?_set_self', h.1]; rfl
      · rw [List.getElem?_set_ne hij]
  | ws, [], w, h => by
    cases w with
    | nil => simp [gPut]
    | cons a b => cases h
  | ws, i :: is, [], h => by cases h
def CtP (l : Launch) (E : gE) (y : MethodName) (cc : ByteArray) (maxL : Nat) (ret : Option FieldType) (rm : Room) (av : List Value) (w0 : va_W) (post : Option Value → Prop) : Prop := Ct l E y cc maxL ret rm av w0 (fun v w dc ds => post v ∧ w = w0 ∧ dc = 0 ∧ ds = 0)
section GP
variable {X : gC} {cc : ByteArray} {own : String} {l : Launch} {E : gE} {rm rmy : Room} {nL : Nat} {ws wc : va_W} {cells slots pc : Nat} {lv : List (Nat × Value)} {st : List Value} {post : Option Value → Prop}
variable {y : MethodName} {bytes : ByteArray} {maxL n index b : Nat} {ret : Option FieldType} {As : List Value}
theorem g_pV (hX : gOK X cc own l E rm nL) (hM : CtP l E y bytes maxL ret rmy (.ref b :: As) wc post) (hy : gY y bytes maxL ret n) (hv : gYV y) (hl : Cond.methodLink own index y ∈ gTB) (hn : As.length = n) (hfr : rmy.frames + 1 ≤ rm.frames) (hlo : 8 + (maxL + 11) + rmy.locals ≤ rm.locals)
    (isC : List Nat) (hC : isC.map (fun i => ws[i]?) = wc.map some) (hnd : va_nd isC = true) {ci : Nat} {q : vw_C} {fs : List Value} (hw0 : wc[0]? = some (b, .inr (ci, fs))) (hci : vwCl[ci]? = some q) (hq : q.1 = y.cls) (rest : List Value) (hst : st = As.reverse ++ .ref b :: rest) (hcat : (rest.map fun v => v.category).sum ≤ 8) (hdg : decode cc pc = .ok (.invokevirtual index, 3)) (hc : cells + rmy.cells ≤ rm.cells) (hs : slots + rmy.slots ≤ rm.slots)
    (kk : ∀ v, post v → gW X ws cells slots (pc + 3) lv (v.toList ++ rest)) : gW X ws cells slots pc lv st := by
  refine g_callV hX hM hy hv hl hn hfr hlo isC hC hnd hw0 hci hq rest hst hcat hdg hc hs (fun v w dc ds h => by rw [h.2.1]; exact Nat.le_refl _) (fun v w dc ds h => ?_)
  obtain ⟨h1, rfl, rfl, rfl⟩ := h
  rw [gPut_same ws isC _ hC]
  exact kk v h1
theorem g_pS (hX : gOK X cc own l E rm nL) (hM : CtP l E y bytes maxL ret rmy As wc post) (hy : gY y bytes maxL ret n) (hv : Cond.static y ∈ gTB) (hl : Cond.methodLink own index y ∈ gTB) (hn : As.length = n) (hfr : rmy.frames + 1 ≤ rm.frames) (hlo : 8 + (maxL + 11) + rmy.locals ≤ rm.locals)
    (isC : List Nat) (hC : isC.map (fun i => ws[i]?) = wc.map some) (hnd : va_nd isC = true) (rest : List Value) (hst : st = As.reverse ++ rest) (hcat : (rest.map fun v => v.category).sum ≤ 8) (hdg : decode cc pc = .ok (.invokestatic index, 3)) (hc : cells + rmy.cells ≤ rm.cells) (hs : slots + rmy.slots ≤ rm.slots)
    (kk : ∀ v, post v → gW X ws cells slots (pc + 3) lv (v.toList ++ rest)) : gW X ws cells slots pc lv st := by
  refine g_callS hX hM hy hv hl hn hfr hlo isC hC hnd rest hst hcat hdg hc hs (fun v w dc ds h => by rw [h.2.1]; exact Nat.le_refl _) (fun v w dc ds h => ?_)
  obtain ⟨h1, rfl, rfl, rfl⟩ := h
  rw [gPut_same ws isC _ hC]
  exact kk v h1
theorem g_pSN (hX : gOK X cc own l E rm nL) (hM : CtP l E y bytes maxL ret rmy As wc post) (hy : gY y bytes maxL ret n) (hv : Cond.static y ∈ gTB) {host : String} (hl : Cond.methodLinkNest own index y host ∈ gNW) (hn : As.length = n) (hfr : rmy.frames + 1 ≤ rm.frames) (hlo : 8 + (maxL + 11) + rmy.locals ≤ rm.locals)
    (isC : List Nat) (hC : isC.map (fun i => ws[i]?) = wc.map some) (hnd : va_nd isC = true) (rest : List Value) (hst : st = As.reverse ++ rest) (hcat : (rest.map fun v => v.category).sum ≤ 8) (hdg : decode cc pc = .ok (.invokestatic index, 3)) (hc : cells + rmy.cells ≤ rm.cells) (hs : slots + rmy.slots ≤ rm.slots)
    (kk : ∀ v, post v → gW X ws cells slots (pc + 3) lv (v.toList ++ rest)) : gW X ws cells slots pc lv st := by
  refine g_callSN hX hM hy hv hl hn hfr hlo isC hC hnd rest hst hcat hdg hc hs (fun v w dc ds h => by rw [h.2.1]; exact Nat.le_refl _) (fun v w dc ds h => ?_)
  obtain ⟨h1, rfl, rfl, rfl⟩ := h
  rw [gPut_same ws isC _ hC]
  exact kk v h1
theorem g_beq (hX : gOK X cc own l E rm nL) {P : Prop} {off : Int} {tgt : Nat} (hdg : decode cc pc = .ok (.ifCond .eq off, 3)) (ht : (pc : Int) + off = (tgt : Int)) (kt : ¬ P → gW X ws cells slots tgt lv st) (kf : P → gW X ws cells slots (pc + 3) lv st) : gW X ws cells slots pc lv (.int (iI (bZ P)) :: st) := by
  by_cases h : P
  · refine g_if_eq hX hdg ht (by rw [bZ_t h]; decide) (fun q => ?_) (fun _ => kf h)
    rw [bZ_t h] at q; exact absurd q (by decide)
  · refine g_if_eq hX hdg ht (by rw [bZ_f h]; decide) (fun _ => kt h) (fun q => ?_)
    rw [bZ_f h] at q; exact absurd rfl q
theorem g_bne (hX : gOK X cc own l E rm nL) {P : Prop} {off : Int} {tgt : Nat} (hdg : decode cc pc = .ok (.ifCond .ne off, 3)) (ht : (pc : Int) + off = (tgt : Int)) (kt : P → gW X ws cells slots tgt lv st) (kf : ¬ P → gW X ws cells slots (pc + 3) lv st) : gW X ws cells slots pc lv (.int (iI (bZ P)) :: st) := by
  by_cases h : P
  · refine g_if_ne hX hdg ht (by rw [bZ_t h]; decide) (fun _ => kt h) (fun q => ?_)
    rw [bZ_t h] at q; exact absurd (by decide) q
  · refine g_if_ne hX hdg ht (by rw [bZ_f h]; decide) (fun q => ?_) (fun _ => kf h)
    rw [bZ_f h] at q; exact absurd rfl q
theorem g_ldc2 (hX : gOK X cc own l E rm nL) {v : Int64} (a : Int) (h : Cond.constantLong own index v ∈ gTB) (hv : v = lI a) (hdg : decode cc pc = .ok (.ldc2_w index, 3)) (kk : gW X ws cells slots (pc + 3) lv (.long (lI a) :: st)) : gW X ws cells slots pc lv st := by
  subst hv
  obtain ⟨p, l', e, R, s, m, args, below, meth, c, A, nL', Q, E'⟩ := X
  obtain ⟨rfl, rfl, rfl, rfl, hx, hbb, hml, hown, hts, hK, hN, hA⟩ := hX
  intro H locs ls hP hD hS hl
  exact lv_ldc2 hx hbb hown (hts _ h) hdg (kk H locs ls hP hD hS hl)
theorem g_ldc (hX : gOK X cc own l E rm nL) {v : Int32} (a : Int) (h : Cond.constant own index v ∈ gTB) (hv : v = iI a) (hdg : decode cc pc = .ok (.ldc index, 2)) (kk : gW X ws cells slots (pc + 2) lv (.int (iI a) :: st)) : gW X ws cells slots pc lv st := by
  subst hv
  obtain ⟨p, l', e, R, s, m, args, below, meth, c, A, nL', Q, E'⟩ := X
  obtain ⟨rfl, rfl, rfl, rfl, hx, hbb, hml, hown, hts, hK, hN, hA⟩ := hX
  intro H locs ls hP hD hS hl
  exact lv_ldc hx hbb hown (hts _ h) hdg (kk H locs ls hP hD hS hl)
end GP
def CtI (l : Launch) (E : gE) (y : MethodName) (cc : ByteArray) (maxL : Nat) (ret : Option FieldType) (rm : Room) (av : List Value) (w0 : va_W) (a : Int) : Prop := CtP l E y cc maxL ret rm av w0 (fun v => v = some (.int (iI a)))
def CtL (l : Launch) (E : gE) (y : MethodName) (cc : ByteArray) (maxL : Nat) (ret : Option FieldType) (rm : Room) (av : List Value) (w0 : va_W) (a : Int) : Prop := CtP l E y cc maxL ret rm av w0 (fun v => v = some (.long (lI a)))
section GQ
variable {X : gC} {cc : ByteArray} {own : String} {l : Launch} {E : gE} {rm rmy : Room} {nL : Nat} {ws wc : va_W} {cells slots pc : Nat} {lv : List (Nat × Value)} {st : List Value} {a : Int}
variable {y : MethodName} {bytes : ByteArray} {maxL n index b : Nat} {ret : Option FieldType} {As : List Value}
theorem g_iV (hX : gOK X cc own l E rm nL) (hM : CtI l E y bytes maxL ret rmy (.ref b :: As) wc a) (hy : gY y bytes maxL ret n) (hv : gYV y) (hl : Cond.methodLink own index y ∈ gTB) (hn : As.length = n) (hfr : rmy.frames + 1 ≤ rm.frames) (hlo : 8 + (maxL + 11) + rmy.locals ≤ rm.locals)
    (isC : List Nat) (hC : isC.map (fun i => ws[i]?) = wc.map some) (hnd : va_nd isC = true) {ci : Nat} {q : vw_C} {fs : List Value} (hw0 : wc[0]? = some (b, .inr (ci, fs))) (hci : vwCl[ci]? = some q) (hq : q.1 = y.cls) (rest : List Value) (hst : st = As.reverse ++ .ref b :: rest) (hcat : (rest.map fun v => v.category).sum ≤ 8) (hdg : decode cc pc = .ok (.invokevirtual index, 3)) (hc : cells + rmy.cells ≤ rm.cells) (hs : slots + rmy.slots ≤ rm.slots)
    (kk : gW X ws cells slots (pc + 3) lv (.int (iI a) :: rest)) : gW X ws cells slots pc lv st :=
  g_pV hX hM hy hv hl hn hfr hlo isC hC hnd hw0 hci hq rest hst hcat hdg hc hs (fun v h => by rw [h]; exact kk)
theorem g_lV (hX : gOK X cc own l E rm nL) (hM : CtL l E y bytes maxL ret rmy (.ref b :: As) wc a) (hy : gY y bytes maxL ret n) (hv : gYV y) (hl : Cond.methodLink own index y ∈ gTB) (hn : As.length = n) (hfr : rmy.frames + 1 ≤ rm.frames) (hlo : 8 + (maxL + 11) + rmy.locals ≤ rm.locals)
    (isC : List Nat) (hC : isC.map (fun i => ws[i]?) = wc.map some) (hnd : va_nd isC = true) {ci : Nat} {q : vw_C} {fs : List Value} (hw0 : wc[0]? = some (b, .inr (ci, fs))) (hci : vwCl[ci]? = some q) (hq : q.1 = y.cls) (rest : List Value) (hst : st = As.reverse ++ .ref b :: rest) (hcat : (rest.map fun v => v.category).sum ≤ 8) (hdg : decode cc pc = .ok (.invokevirtual index, 3)) (hc : cells + rmy.cells ≤ rm.cells) (hs : slots + rmy.slots ≤ rm.slots)
    (kk : gW X ws cells slots (pc + 3) lv (.long (lI a) :: rest)) : gW X ws cells slots pc lv st :=
  g_pV hX hM hy hv hl hn hfr hlo isC hC hnd hw0 hci hq rest hst hcat hdg hc hs (fun v h => by rw [h]; exact kk)
theorem g_iS (hX : gOK X cc own l E rm nL) (hM : CtI l E y bytes maxL ret rmy As wc a) (hy : gY y bytes maxL ret n) (hv : Cond.static y ∈ gTB) (hl : Cond.methodLink own index y ∈ gTB) (hn : As.length = n) (hfr : rmy.frames + 1 ≤ rm.frames) (hlo : 8 + (maxL + 11) + rmy.locals ≤ rm.locals)
    (isC : List Nat) (hC : isC.map (fun i => ws[i]?) = wc.map some) (hnd : va_nd isC = true) (rest : List Value) (hst : st = As.reverse ++ rest) (hcat : (rest.map fun v => v.category).sum ≤ 8) (hdg : decode cc pc = .ok (.invokestatic index, 3)) (hc : cells + rmy.cells ≤ rm.cells) (hs : slots + rmy.slots ≤ rm.slots)
    (kk : gW X ws cells slots (pc + 3) lv (.int (iI a) :: rest)) : gW X ws cells slots pc lv st :=
  g_pS hX hM hy hv hl hn hfr hlo isC hC hnd rest hst hcat hdg hc hs (fun v h => by rw [h]; exact kk)
theorem g_lS (hX : gOK X cc own l E rm nL) (hM : CtL l E y bytes maxL ret rmy As wc a) (hy : gY y bytes maxL ret n) (hv : Cond.static y ∈ gTB) (hl : Cond.methodLink own index y ∈ gTB) (hn : As.length = n) (hfr : rmy.frames + 1 ≤ rm.frames) (hlo : 8 + (maxL + 11) + rmy.locals ≤ rm.locals)
    (isC : List Nat) (hC : isC.map (fun i => ws[i]?) = wc.map some) (hnd : va_nd isC = true) (rest : List Value) (hst : st = As.reverse ++ rest) (hcat : (rest.map fun v => v.category).sum ≤ 8) (hdg : decode cc pc = .ok (.invokestatic index, 3)) (hc : cells + rmy.cells ≤ rm.cells) (hs : slots + rmy.slots ≤ rm.slots)
    (kk : gW X ws cells slots (pc + 3) lv (.long (lI a) :: rest)) : gW X ws cells slots pc lv st :=
  g_pS hX hM hy hv hl hn hfr hlo isC hC hnd rest hst hcat hdg hc hs (fun v h => by rw [h]; exact kk)
theorem g_iSN (hX : gOK X cc own l E rm nL) (hM : CtI l E y bytes maxL ret rmy As wc a) (hy : gY y bytes maxL ret n) (hv : Cond.static y ∈ gTB) {host : String} (hl : Cond.methodLinkNest own index y host ∈ gNW) (hn : As.length = n) (hfr : rmy.frames + 1 ≤ rm.frames) (hlo : 8 + (maxL + 11) + rmy.locals ≤ rm.locals)
    (isC : List Nat) (hC : isC.map (fun i => ws[i]?) = wc.map some) (hnd : va_nd isC = true) (rest : List Value) (hst : st = As.reverse ++ rest) (hcat : (rest.map fun v => v.category).sum ≤ 8) (hdg : decode cc pc = .ok (.invokestatic index, 3)) (hc : cells + rmy.cells ≤ rm.cells) (hs : slots + rmy.slots ≤ rm.slots)
    (kk : gW X ws cells slots (pc + 3) lv (.int (iI a) :: rest)) : gW X ws cells slots pc lv st :=
  g_pSN hX hM hy hv hl hn hfr hlo isC hC hnd rest hst hcat hdg hc hs (fun v h => by rw [h]; exact kk)
end GQ
end
section
-- the class's pieces: contents, cells, what holds of them
/-- a Row: its arrays' addresses, count, room, kinds, besides, sizes -/
abbrev RowT : Type := (Nat × Nat × Nat) × Nat × Nat × (Nat → Int) × (Nat → Int) × (Nat → Int)
abbrev rA (ρ : RowT) : Nat × Nat × Nat := ρ.1
abbrev rN (ρ : RowT) : Nat := ρ.2.1
abbrev rC (ρ : RowT) : Nat := ρ.2.2.1
abbrev rF (ρ : RowT) : Nat → Int := ρ.2.2.2.1
abbrev rG (ρ : RowT) : Nat → Int := ρ.2.2.2.2.1
abbrev rH (ρ : RowT) : Nat → Int := ρ.2.2.2.2.2
abbrev rowW (E : gE) (r : Nat) (ρ : RowT) : va_W := [(r, .inr (2, [.ref (rA ρ).1, .ref (rA ρ).2.1, .ref (rA ρ).2.2, .int (iI (rN ρ))])), ((rA ρ).1, aI E (rC ρ) (rF ρ)), ((rA ρ).2.1, aL E (rC ρ) (rG ρ)), ((rA ρ).2.2, aI E (rC ρ) (rH ρ))]
def rowOK (ρ : RowT) : Prop := (rN ρ ≤ 3000 ∧ rN ρ ≤ rC ρ ∧ 16 ≤ rC ρ ∧ rC ρ ≤ 6000) ∧ (∀ j, gin (rF ρ j)) ∧ (∀ j, gil (rG ρ j)) ∧ ∀ j, gin (rH ρ j)
/-- what the reads answer -/
def rK (ρ : RowT) (k : Int) : Int := if 0 ≤ k ∧ k < rN ρ then rF ρ k.toNat else -1
def rB (ρ : RowT) (k : Int) : Int := if 0 ≤ k ∧ k < rN ρ then rG ρ k.toNat else -1
def rS (ρ : RowT) (k : Int) : Int := if 0 ≤ k ∧ k < rN ρ then rH ρ k.toNat else 0
theorem rK_t {ρ : RowT} {k : Int} (h : 0 ≤ k ∧ k < rN ρ) : rK ρ k = rF ρ k.toNat := if_pos h
theorem rK_f {ρ : RowT} {k : Int} (h : ¬ (0 ≤ k ∧ k < rN ρ)) : rK ρ k = -1 := if_neg h
theorem rB_t {ρ : RowT} {k : Int} (h : 0 ≤ k ∧ k < rN ρ) : rB ρ k = rG ρ k.toNat := if_pos h
theorem rB_f {ρ : RowT} {k : Int} (h : ¬ (0 ≤ k ∧ k < rN ρ)) : rB ρ k = -1 := if_neg h
theorem rS_t {ρ : RowT} {k : Int} (h : 0 ≤ k ∧ k < rN ρ) : rS ρ k = rH ρ k.toNat := if_pos h
theorem rS_f {ρ : RowT} {k : Int} (h : ¬ (0 ≤ k ∧ k < rN ρ)) : rS ρ k = 0 := if_neg h
theorem rK_in {ρ : RowT} (h : rowOK ρ) (k : Int) : gin (rK ρ k) := by
  unfold rK; split
  · exact h.2.1 _
  · decide
theorem rB_in {ρ : RowT} (h : rowOK ρ) (k : Int) : gil (rB ρ k) := by
  unfold rB; split
  · exact h.2.2.1 _
  · decide
theorem rS_in {ρ : RowT} (h : rowOK ρ) (k : Int) : gin (rS ρ k) := by
  unfold rS; split
  · exact h.2.2.2 _
  · decide
end
section
section GCp
variable {X : gC} {cc : ByteArray} {own : String} {l : Launch} {E : gE} {rm : Room} {nL : Nat} {ws : va_W} {cells slots pc index : Nat} {lv : List (Nat × Value)} {st : List Value}
theorem cpy_i (f g : Nat → Int) (a b n : Nat) : va_cpy (fun j => iI (f j)) (fun j => iI (g j)) a b n = fun j => iI (va_cpy f g a b n j) := by
  funext j; unfold va_cpy; split <;> rfl
theorem cpy_l (f g : Nat → Int) (a b n : Nat) : va_cpy (fun j => lI (f j)) (fun j => lI (g j)) a b n = fun j => lI (va_cpy f g a b n j) := by
  funext j; unfold va_cpy; split <;> rfl
theorem g_copyI (hX : gOK X cc own l E rm nL) (k1 : Cond.methodLink own index arraycopyName ∈ gTB) (k2 : Cond.native arraycopyName ∈ gTB) (k3 : Cond.static arraycopyName ∈ gTB) (k4 : Cond.initialized "java/lang/System" ∈ gTB) (q0 q1 : Nat) {a0 a n0 n1 : Nat} {f g : Nat → Int} {n : Int} (he0 : ws[q0]? = some (a0, aI E n0 f)) (he1 : ws[q1]? = some (a, aI E n1 g)) (hn : 0 ≤ n ∧ n < 2147483648 ∧ n ≤ n0 ∧ n ≤ n1) (hfr : 1 ≤ rm.frames) (hlo : 26 ≤ rm.locals) (hcat : (st.map fun v => v.category).sum ≤ 8) (hdg : decode cc pc = .ok (.invokestatic index, 3))
    (kk : gW X (ws.set q1 (a, aI E n1 (va_cpy f g 0 0 n.toNat))) cells slots (pc + 3) lv st) : gW X ws cells slots pc lv (.int (iI n) :: .int (iI 0) :: .ref a :: .int (iI 0) :: .ref a0 :: st) := by
  obtain ⟨p, l', e, R, s, m, args, below, meth, c, A, nL', Q, E'⟩ := X
  obtain ⟨rfl, rfl, rfl, rfl, hx, hbb, hml, hown, hts, hK, hN, hA⟩ := hX
  intro H locs ls hP hD hS hl
  have e0 : (iI 0).toNatClampNeg = 0 := iI_cl (by decide) (by decide)
  have en : (iI n).toNatClampNeg = n.toNat := iI_cl hn.1 hn.2.1
  refine va_copyi hx hbb (by rw [hml]; exact hl.1.symm) hown (hts _ k1) (hts _ k2) (hts _ k3) (hts _ k4) hK hP hD hS q0 q1 0 0 he0 he1 rfl rfl rfl (iI_nn (by decide) (by decide)) (iI_nn (by decide) (by decide)) (iI_nn hn.1 hn.2.1) (by rw [e0, en]; omega) (by rw [e0, en]; omega) (fun i hi => rfl) hfr (by show _ + 18 ≤ _; omega) hdg (fun H1 locs1 hP1 hD1 hS1 => ?_)
  rw [e0, en, cpy_i] at hP1 hD1
  exact kk H1 locs1 ls hP1 hD1 hS1 hl
theorem g_copyL (hX : gOK X cc own l E rm nL) (k1 : Cond.methodLink own index arraycopyName ∈ gTB) (k2 : Cond.native arraycopyName ∈ gTB) (k3 : Cond.static arraycopyName ∈ gTB) (k4 : Cond.initialized "java/lang/System" ∈ gTB) (q0 q1 : Nat) {a0 a n0 n1 : Nat} {f g : Nat → Int} {n : Int} (he0 : ws[q0]? = some (a0, aL E n0 f)) (he1 : ws[q1]? = some (a, aL E n1 g)) (hn : 0 ≤ n ∧ n < 2147483648 ∧ n ≤ n0 ∧ n ≤ n1) (hfr : 1 ≤ rm.frames) (hlo : 26 ≤ rm.locals) (hcat : (st.map fun v => v.category).sum ≤ 8) (hdg : decode cc pc = .ok (.invokestatic index, 3))
    (kk : gW X (ws.set q1 (a, aL E n1 (va_cpy f g 0 0 n.toNat))) cells slots (pc + 3) lv st) : gW X ws cells slots pc lv (.int (iI n) :: .int (iI 0) :: .ref a :: .int (iI 0) :: .ref a0 :: st) := by
  obtain ⟨p, l', e, R, s, m, args, below, meth, c, A, nL', Q, E'⟩ := X
  obtain ⟨rfl, rfl, rfl, rfl, hx, hbb, hml, hown, hts, hK, hN, hA⟩ := hX
  intro H locs ls hP hD hS hl
  have e0 : (iI 0).toNatClampNeg = 0 := iI_cl (by decide) (by decide)
  have en : (iI n).toNatClampNeg = n.toNat := iI_cl hn.1 hn.2.1
  refine va_copyl hx hbb (by rw [hml]; exact hl.1.symm) hown (hts _ k1) (hts _ k2) (hts _ k3) (hts _ k4) hK hP hD hS q0 q1 1 1 he0 he1 rfl rfl rfl (iI_nn (by decide) (by decide)) (iI_nn (by decide) (by decide)) (iI_nn hn.1 hn.2.1) (by rw [e0, en]; omega) (by rw [e0, en]; omega) (fun i hi => rfl) hfr (by show _ + 18 ≤ _; omega) hdg (fun H1 locs1 hP1 hD1 hS1 => ?_)
  rw [e0, en, cpy_l] at hP1 hD1
  exact kk H1 locs1 ls hP1 hD1 hS1 hl
end GCp
/-- the nodes of a row, as a list -/
def Lr (n : Nat) (f g : Nat → Int) : List (Int × Int) := (List.range n).map (fun j => (f j, g j))
theorem Lr_len (n : Nat) (f g : Nat → Int) : (Lr n f g).length = n := by simp [Lr]
theorem Lr_succ (n : Nat) (f g : Nat → Int) : Lr (n + 1) f g = Lr n f g ++ [(f n, g n)] := by simp [Lr, List.range_succ]
theorem Lr_congr {n : Nat} {f g f' g' : Nat → Int} (h : ∀ j, j < n → f' j = f j ∧ g' j = g j) : Lr n f' g' = Lr n f g := by
  unfold Lr
  apply List.map_congr_left
  intro j hj
  have := h j (List.mem_range.mp hj)
  rw [this.1, this.2]
theorem Lr_get {n : Nat} {f g : Nat → Int} {j : Nat} (h : j < n) : (Lr n f g)[j]? = some (f j, g j) := by
  simp [Lr, h]
theorem Lr_eq {n n' : Nat} {f g f' g' : Nat → Int} (h : Lr n f g = Lr n' f' g') : n = n' ∧ ∀ j, j < n → f j = f' j ∧ g j = g' j := by
  have e : n = n' := by have := congrArg List.length h; rwa [Lr_len, Lr_len] at this
  subst e
  refine ⟨rfl, fun j hj => ?_⟩
  have h1 := congrArg (fun l => l[j]?) h
  simp only [Lr_get hj, Option.some.injEq, Prod.mk.injEq] at h1
  exact h1
abbrev rL (ρ : RowT) : List (Int × Int) := Lr (rN ρ) (rF ρ) (rG ρ)
/-- what a growing costs -/
def rGrow (ρ ρ' : RowT) (dc ds : Nat) : Prop := rC ρ ≤ rC ρ' ∧ dc ≤ rC ρ' - rC ρ ∧ ds ≤ 6 * (rC ρ' - rC ρ)
theorem rGrow.rf (ρ : RowT) : rGrow ρ ρ 0 0 := ⟨Nat.le_refl _, by omega, by omega⟩
theorem rowOK.u {ρ : RowT} (h : rowOK ρ) {n : Nat} {f g z : Nat → Int} (hn : n ≤ 3000 ∧ n ≤ rC ρ) (hf : ∀ j, gin (f j)) (hg : ∀ j, gil (g j)) (hz : ∀ j, gin (z j)) : rowOK (rA ρ, n, rC ρ, f, g, z) := ⟨⟨hn.1, hn.2, h.1.2.2.1, h.1.2.2.2⟩, hf, hg, hz⟩
theorem uZ_gin {f : Nat → Int} {k : Nat} {x : Int} (h : ∀ j, gin (f j)) (hx : gin x) : ∀ j, gin (uZ f k x j) := by
  intro j; unfold uZ; split
  · exact hx
  · exact h j
theorem uZ_gil {f : Nat → Int} {k : Nat} {x : Int} (h : ∀ j, gil (f j)) (hx : gil x) : ∀ j, gil (uZ f k x j) := by
  intro j; unfold uZ; split
  · exact hx
  · exact h j
theorem cpy_gin {f g : Nat → Int} {n : Nat} (hf : ∀ j, gin (f j)) (hg : ∀ j, gin (g j)) : ∀ j, gin (va_cpy f g 0 0 n j) := by
  intro j; unfold va_cpy; split
  · exact hf _
  · exact hg j
theorem cpy_gil {f g : Nat → Int} {n : Nat} (hf : ∀ j, gil (f j)) (hg : ∀ j, gil (g j)) : ∀ j, gil (va_cpy f g 0 0 n j) := by
  intro j; unfold va_cpy; split
  · exact hf _
  · exact hg j
theorem cpy_lo {α : Type} {f g : Nat → α} {n j : Nat} (h : j < n) : va_cpy f g 0 0 n j = f j := by
  unfold va_cpy; rw [if_pos (by omega)]; congr 1; omega
end
section
-- terms in a row: sizes
/-- a node of this kind has two parts -/
abbrev pP (k : Int) : Prop := k = 1 ∨ k = 2 ∨ k = 3 ∨ k = 6 ∨ k = 4
/-- σ gives, from node m on, how many nodes each has with its parts -/
def Sz (n : Nat) (f : Nat → Int) (σ : Nat → Nat) (m : Nat) : Prop := ∀ j, m ≤ j → j < n → 1 ≤ σ j ∧ j + σ j ≤ n ∧ (pP (f j) → j + 1 < n ∧ j + 1 + σ (j + 1) < n ∧ σ j = 1 + σ (j + 1) + σ (j + 1 + σ (j + 1))) ∧ (¬ pP (f j) → σ j = 1)
def OneT (n : Nat) (f : Nat → Int) : Prop := 0 < n ∧ ∃ σ, Sz n f σ 0 ∧ σ 0 = n
theorem Sz.mono {n m m' : Nat} {f : Nat → Int} {σ : Nat → Nat} (h : Sz n f σ m) (hm : m ≤ m') : Sz n f σ m' := fun j h1 h2 => h j (by omega) h2
theorem Sz.uniq {n m : Nat} {f : Nat → Int} {σ τ : Nat → Nat} (h : Sz n f σ m) (k : Sz n f τ m) : ∀ d j, n - j = d → m ≤ j → j < n → σ j = τ j := by
  intro d
  induction d using Nat.strongRecOn with
  | ind d ih =>
    intro j hd hm hj
    obtain ⟨a1, a2, a3, a4⟩ := h j hm hj
    obtain ⟨b1, b2, b3, b4⟩ := k j hm hj
    by_cases hp : pP (f j)
    · obtain ⟨c1, c2, c3⟩ := a3 hp
      obtain ⟨d1, d2, d3⟩ := b3 hp
      have e1 : σ (j + 1) = τ (j + 1) := ih (n - (j + 1)) (by omega) (j + 1) rfl (by omega) c1
      have e2 : σ (j + 1 + σ (j + 1)) = τ (j + 1 + σ (j + 1)) := ih (n - (j + 1 + σ (j + 1))) (by omega) _ rfl (by omega) c2
      rw [c3, d3, ← e1, e2]
    · rw [a4 hp, b4 hp]
theorem Sz.same {n m : Nat} {f : Nat → Int} {σ τ : Nat → Nat} (h : Sz n f σ m) (k : Sz n f τ m) {j : Nat} (h1 : m ≤ j) (h2 : j < n) : σ j = τ j := h.uniq k _ j rfl h1 h2
theorem Sz.put {n m s : Nat} {f : Nat → Int} {σ : Nat → Nat} (h : Sz n f σ (m + 1)) (h1 : 1 ≤ s) (h2 : m + s ≤ n) (h3 : pP (f m) → m + 1 < n ∧ m + 1 + σ (m + 1) < n ∧ s = 1 + σ (m + 1) + σ (m + 1 + σ (m + 1))) (h4 : ¬ pP (f m) → s = 1) : Sz n f (uZ σ m s) m := by
  intro j hj hn
  by_cases e : j = m
  · subst e
    rw [uZ_s, uZ_n (show j + 1 ≠ j by omega), uZ_n (show j + 1 + σ (j + 1) ≠ j by omega)]
    exact ⟨h1, h2, h3, h4⟩
  · rw [uZ_n e, uZ_n (show j + 1 ≠ m by omega), uZ_n (show j + 1 + σ (j + 1) ≠ m by omega)]
    exact h j (by omega) hn
theorem OneT.not {n m : Nat} {f : Nat → Int} {σ : Nat → Nat} (h : Sz n f σ (m + 1)) (hm : m < n) (hp : pP (f m)) (hb : ¬ (m + 1 < n ∧ m + 1 + σ (m + 1) < n)) : ¬ OneT n f := by
  intro ⟨_, τ, ht, _⟩
  obtain ⟨-, -, c, -⟩ := ht m (by omega) hm
  obtain ⟨c1, c2, -⟩ := c hp
  have e := h.same (ht.mono (Nat.zero_le _)) (Nat.le_refl (m + 1)) c1
  rw [← e] at c2
  exact hb ⟨c1, c2⟩
theorem OneT.iff {n : Nat} {f : Nat → Int} {σ : Nat → Nat} (h : Sz n f σ 0) : OneT n f ↔ 0 < n ∧ σ 0 = n := by
  constructor
  · intro ⟨h0, τ, ht, e⟩
    exact ⟨h0, by rw [h.same ht (Nat.le_refl 0) h0, e]⟩
  · intro ⟨h0, e⟩
    exact ⟨h0, σ, h, e⟩
theorem rL_add {ρ ρ2 : RowT} {k b : Int} (e : rN ρ2 = rN ρ) (h : ∀ j, j < rN ρ → rF ρ2 j = rF ρ j ∧ rG ρ2 j = rG ρ j) : Lr (rN ρ2 + 1) (uZ (rF ρ2) (rN ρ2) k) (uZ (rG ρ2) (rN ρ2) b) = rL ρ ++ [(k, b)] := by
  rw [Lr_succ, uZ_s, uZ_s, e]
  congr 1
  exact Lr_congr fun j hj => by rw [uZ_n (by omega), uZ_n (by omega)]; exact h j hj
theorem rowOK_new (a : Nat × Nat × Nat) : rowOK (a, 0, 16, fun _ => 0, fun _ => 0, fun _ => 0) := ⟨⟨by show (0 : Nat) ≤ 3000; decide, by show (0 : Nat) ≤ 16; decide, by show (16 : Nat) ≤ 16; decide, by show (16 : Nat) ≤ 6000; decide⟩, fun _ => ⟨by show (-2147483648 : Int) ≤ 0; decide, by show (0 : Int) < 2147483648; decide⟩, fun _ => ⟨by show (-9223372036854775808 : Int) ≤ 0; decide, by show (0 : Int) < 9223372036854775808; decide⟩, fun _ => ⟨by show (-2147483648 : Int) ≤ 0; decide, by show (0 : Int) < 2147483648; decide⟩⟩
theorem mz_s {h : Nat → Int} {σ : Nat → Nat} {m n s : Nat} {x : Int} (hs : ∀ j, m + 1 ≤ j → j < n → h j = σ j) (e : x = s) : ∀ j, m ≤ j → j < n → uZ h m x j = ((uZ σ m s j : Nat) : Int) := by
  intro j h1 h2
  by_cases q : j = m
  · subst q; rw [uZ_s, uZ_s]; exact e
  · rw [uZ_n q, uZ_n q]; exact hs j (by omega) h2
theorem uZ_uZ {α : Type} (f : Nat → α) (k : Nat) (x y : α) : uZ (uZ f k x) k y = uZ f k y := by
  funext j; unfold uZ; split <;> rfl
end
section
/-- the globals: the array's address, count, names -/
abbrev GlT : Type := Nat × Nat × (Nat → Int)
abbrev uN (γ : GlT) : Nat := γ.2.1
abbrev uF (γ : GlT) : Nat → Int := γ.2.2
abbrev glW (E : gE) (g : Nat) (γ : GlT) : va_W := [(g, .inr (0, [.ref γ.1, .int (iI (uN γ))])), (γ.1, aL E 200 (uF γ))]
def glOK (γ : GlT) : Prop := uN γ ≤ 200 ∧ ∀ j, gil (uF γ j)
/-- where a name stands first, or -1 -/
def fnd (n : Nat) (f : Nat → Int) (x : Int) : Int := match (List.range n).find? (fun j => decide (f j = x)) with
  | some j => (j : Int)
  | none => -1
theorem fnd_none {n : Nat} {f : Nat → Int} {x : Int} (h : ∀ j, j < n → f j ≠ x) : fnd n f x = -1 := by
  unfold fnd
  have : (List.range n).find? (fun j => decide (f j = x)) = none := by
    rw [List.find?_eq_none]
    intro j hj
    have := h j (List.mem_range.mp hj)
    simpa using this
  rw [this]
theorem fnd_at {n g : Nat} {f : Nat → Int} {x : Int} (h : ∀ j, j < g → f j ≠ x) (hg : g < n) (e : f g = x) : fnd n f x = g := by
  unfold fnd
  have : (List.range n).find? (fun j => decide (f j = x)) = some g := by
    rw [List.find?_range_eq_some]
    refine ⟨by simpa using e, by simpa using hg, fun j hj => ?_⟩
    have := h j hj
    simpa using this
  rw [this]
theorem fnd_cases (n : Nat) (f : Nat → Int) (x : Int) : (fnd n f x = -1 ∧ ∀ j, j < n → f j ≠ x) ∨ ∃ g : Nat, fnd n f x = g ∧ g < n ∧ f g = x ∧ ∀ j, j < g → f j ≠ x := by
  by_cases h : ∃ j, j < n ∧ f j = x
  · obtain ⟨g, ⟨h1, h2⟩, h3⟩ := pk_least (fun j => j < n ∧ f j = x) h
    have h4 : ∀ j, j < g → f j ≠ x := fun j hj q => h3 j hj ⟨by omega, q⟩
    exact Or.inr ⟨g, fnd_at h4 h1 h2, h1, h2, h4⟩
  · have h4 : ∀ j, j < n → f j ≠ x := fun j hj q => h ⟨j, hj, q⟩
    exact Or.inl ⟨fnd_none h4, h4⟩
theorem fnd_in (n : Nat) (f : Nat → Int) (x : Int) : -1 ≤ fnd n f x ∧ fnd n f x < n := by
  rcases fnd_cases n f x with h | ⟨g, h1, h2, -⟩ <;> omega
theorem fnd_congr {n : Nat} {f g : Nat → Int} (h : ∀ j, j < n → f j = g j) (x : Int) : fnd n f x = fnd n g x := by
  rcases fnd_cases n g x with ⟨h1, h2⟩ | ⟨k, h1, h2, h3, h4⟩
  · rw [h1]; exact fnd_none (fun j hj => by rw [h j hj]; exact h2 j hj)
  · rw [h1]; exact fnd_at (fun j hj => by rw [h j (by omega)]; exact h4 j hj) h2 (by rw [h k h2]; exact h3)
/-- the scopes: arrays' addresses, count, room, innermost, depths, those that stand open -/
abbrev ScT : Type := (Nat × Nat × Nat) × Nat × Nat × (Nat → Int) × (Nat → Int) × (Nat → Int)
abbrev sA (ς : ScT) : Nat × Nat × Nat := ς.1
abbrev sN (ς : ScT) : Nat := ς.2.1
abbrev sC (ς : ScT) : Nat := ς.2.2.1
abbrev sI (ς : ScT) : Nat → Int := ς.2.2.2.1
abbrev sD (ς : ScT) : Nat → Int := ς.2.2.2.2.1
abbrev sO (ς : ScT) : Nat → Int := ς.2.2.2.2.2
abbrev scW (E : gE) (s : Nat) (ς : ScT) : va_W := [(s, .inr (3, [.int (iI (sN ς)), .ref (sA ς).1, .ref (sA ς).2.1, .ref (sA ς).2.2])), ((sA ς).1, aI E (sC ς) (sI ς)), ((sA ς).2.1, aI E (sC ς) (sD ς)), ((sA ς).2.2, aI E (sC ς) (sO ς))]
def scOK (ς : ScT) : Prop := (sN ς ≤ 3000 ∧ sN ς ≤ sC ς ∧ 16 ≤ sC ς ∧ sC ς ≤ 6000) ∧ (∀ j, gin (sI ς j)) ∧ (∀ j, 0 ≤ sD ς j ∧ sD ς j ≤ 3000) ∧ ∀ j, gin (sO ς j)
def zD (ς : ScT) (k : Int) : Int := if 0 ≤ k ∧ k < sN ς then sD ς k.toNat else 0
def zI (ς : ScT) (k : Int) : Int := if 0 ≤ k ∧ k < sN ς then sI ς k.toNat else -1
def zO (ς : ScT) (p : Int) : Int := if 0 ≤ p ∧ p < sC ς then sO ς p.toNat else -1
theorem zD_t {ς : ScT} {k : Int} (h : 0 ≤ k ∧ k < sN ς) : zD ς k = sD ς k.toNat := if_pos h
theorem zD_f {ς : ScT} {k : Int} (h : ¬ (0 ≤ k ∧ k < sN ς)) : zD ς k = 0 := if_neg h
theorem zI_t {ς : ScT} {k : Int} (h : 0 ≤ k ∧ k < sN ς) : zI ς k = sI ς k.toNat := if_pos h
theorem zI_f {ς : ScT} {k : Int} (h : ¬ (0 ≤ k ∧ k < sN ς)) : zI ς k = -1 := if_neg h
theorem zO_t {ς : ScT} {k : Int} (h : 0 ≤ k ∧ k < sC ς) : zO ς k = sO ς k.toNat := if_pos h
theorem zO_f {ς : ScT} {k : Int} (h : ¬ (0 ≤ k ∧ k < sC ς)) : zO ς k = -1 := if_neg h
theorem zD_in {ς : ScT} (h : scOK ς) (k : Int) : 0 ≤ zD ς k ∧ zD ς k ≤ 3000 := by
  unfold zD; split
  · exact h.2.2.1 _
  · decide
theorem zI_in {ς : ScT} (h : scOK ς) (k : Int) : gin (zI ς k) := by
  unfold zI; split
  · exact h.2.1 _
  · decide
theorem zO_in {ς : ScT} (h : scOK ς) (k : Int) : gin (zO ς k) := by
  unfold zO; split
  · exact h.2.2.2 _
  · decide
def sGrow (ς ς' : ScT) (dc ds : Nat) : Prop := sC ς ≤ sC ς' ∧ dc ≤ sC ς' - sC ς ∧ ds ≤ 6 * (sC ς' - sC ς)
theorem sGrow.rf (ς : ScT) : sGrow ς ς 0 0 := ⟨Nat.le_refl _, by omega, by omega⟩
theorem scOK.u {ς : ScT} (h : scOK ς) {n : Nat} {i d o : Nat → Int} (hn : n ≤ 3000 ∧ n ≤ sC ς) (hi : ∀ j, gin (i j)) (hd : ∀ j, 0 ≤ d j ∧ d j ≤ 3000) (ho : ∀ j, gin (o j)) : scOK (sA ς, n, sC ς, i, d, o) := ⟨⟨hn.1, hn.2, h.1.2.2.1, h.1.2.2.2⟩, hi, hd, ho⟩
/-- what enter writes -/
def enO (ς : ScT) (k : Int) : Nat → Int := if 0 ≤ zD ς k - 1 ∧ zD ς k - 1 < sC ς then uZ (sO ς) (zD ς k - 1).toNat (zI ς k) else sO ς
theorem gin0 : gin 0 := ⟨by decide, by decide⟩
end
section
-- in which binders' last parts a node lies: by a stack that goes over the row
abbrev bP (k : Int) : Prop := k = 1 ∨ k = 2 ∨ k = 3 ∨ k = 6
def stk (f : Nat → Int) : Nat → List (List Nat)
  | 0 => [[]]
  | k + 1 => match stk f k with
    | [] => []
    | e :: r => if bP (f k) then e :: (k :: e) :: r else if f k = 4 then e :: e :: r else r
/-- the binders around node k, the innermost first -/
def env (f : Nat → Int) (k : Nat) : List Nat := (stk f k).headD []
theorem stk_b {f : Nat → Int} {k : Nat} {e : List Nat} {r : List (List Nat)} (h : stk f k = e :: r) (hb : bP (f k)) : stk f (k + 1) = e :: (k :: e) :: r := by
  show (match stk f k with | [] => [] | e :: r => if bP (f k) then e :: (k :: e) :: r else if f k = 4 then e :: e :: r else r) = _
  rw [h]; exact if_pos hb
theorem stk_a {f : Nat → Int} {k : Nat} {e : List Nat} {r : List (List Nat)} (h : stk f k = e :: r) (ha : f k = 4) : stk f (k + 1) = e :: e :: r := by
  show (match stk f k with | [] => [] | e :: r => if bP (f k) then e :: (k :: e) :: r else if f k = 4 then e :: e :: r else r) = _
  rw [h]
  show (if bP (f k) then e :: (k :: e) :: r else if f k = 4 then e :: e :: r else r) = _
  rw [if_neg (by omega), if_pos ha]
theorem stk_l {f : Nat → Int} {k : Nat} {e : List Nat} {r : List (List Nat)} (h : stk f k = e :: r) (hn : ¬ pP (f k)) : stk f (k + 1) = r := by
  show (match stk f k with | [] => [] | e :: r => if bP (f k) then e :: (k :: e) :: r else if f k = 4 then e :: e :: r else r) = _
  rw [h]
  show (if bP (f k) then e :: (k :: e) :: r else if f k = 4 then e :: e :: r else r) = _
  rw [if_neg (by omega), if_neg (by omega)]
theorem stk_0 {f : Nat → Int} {k : Nat} (h : stk f k = []) : stk f (k + 1) = [] := by
  show (match stk f k with | [] => [] | e :: r => if bP (f k) then e :: (k :: e) :: r else if f k = 4 then e :: e :: r else r) = _
  rw [h]
/-- what is written for the last part of a node with parts -/
def lastE (f : Nat → Int) (k : Nat) (e : List Nat) : List Nat := if bP (f k) then k :: e else e
theorem stk_p {f : Nat → Int} {k : Nat} {e : List Nat} {r : List (List Nat)} (h : stk f k = e :: r) (hp : pP (f k)) : stk f (k + 1) = e :: lastE f k e :: r := by
  unfold lastE
  by_cases hb : bP (f k)
  · rw [if_pos hb]; exact stk_b h hb
  · rw [if_neg hb]; exact stk_a h (by omega)
theorem env_of {f : Nat → Int} {k : Nat} {e : List Nat} {r : List (List Nat)} (h : stk f k = e :: r) : env f k = e := by unfold env; rw [h]; rfl
section EnvS
variable {n : Nat} {f : Nat → Int} {σ : Nat → Nat}
theorem stk_end (hz : Sz n f σ 0) : ∀ d k, n - k = d → k < n → ∀ e r, stk f k = e :: r → stk f (k + σ k) = r ∧ (pP (f k) → stk f (k + 1 + σ (k + 1)) = lastE f k e :: r) := by
  intro d
  induction d using Nat.strongRecOn with
  | ind d ih =>
    intro k hd hk e r h
    obtain ⟨a1, a2, a3, a4⟩ := hz k (Nat.zero_le _) hk
    by_cases hp : pP (f k)
    · obtain ⟨c1, c2, c3⟩ := a3 hp
      have s1 := stk_p h hp
      have s2 := (ih (n - (k + 1)) (by omega) (k + 1) rfl c1 _ _ s1).1
      have s3 := (ih (n - (k + 1 + σ (k + 1))) (by omega) (k + 1 + σ (k + 1)) rfl c2 _ _ s2).1
      refine ⟨?_, fun _ => s2⟩
      rw [c3, show k + (1 + σ (k + 1) + σ (k + 1 + σ (k + 1))) = k + 1 + σ (k + 1) + σ (k + 1 + σ (k + 1)) by omega]
      exact s3
    · rw [a4 hp]
      exact ⟨stk_l h hp, fun q => absurd q hp⟩
theorem stk_in (hz : Sz n f σ 0) : ∀ d k, n - k = d → k < n → ∀ e r, stk f k = e :: r → ∀ j, k ≤ j → j < k + σ k → ∃ x p, stk f j = x :: (p ++ r) := by
  intro d
  induction d using Nat.strongRecOn with
  | ind d ih =>
    intro k hd hk e r h j h1 h2
    obtain ⟨a1, a2, a3, a4⟩ := hz k (Nat.zero_le _) hk
    by_cases e0 : j = k
    · subst e0; exact ⟨e, [], h⟩
    by_cases hp : pP (f k)
    · obtain ⟨c1, c2, c3⟩ := a3 hp
      have s1 := stk_p h hp
      have s2 := (stk_end hz _ k rfl hk _ _ h).2 hp
      by_cases hj : j < k + 1 + σ (k + 1)
      · obtain ⟨x, p, q⟩ := ih (n - (k + 1)) (by omega) (k + 1) rfl c1 _ _ s1 j (by omega) hj
        exact ⟨x, p ++ [lastE f k e], by rw [q]; simp⟩
      · obtain ⟨x, p, q⟩ := ih (n - (k + 1 + σ (k + 1))) (by omega) (k + 1 + σ (k + 1)) rfl c2 _ _ s2 j (by omega) (by omega)
        exact ⟨x, p, q⟩
    · rw [a4 hp] at h2; omega
theorem stk_at (hz : Sz n f σ 0) (h0 : σ 0 = n) {j : Nat} (hj : j < n) : ∃ r, stk f j = env f j :: r := by
  obtain ⟨x, p, q⟩ := stk_in hz _ 0 rfl (by omega) [] [] rfl j (Nat.zero_le _) (by omega)
  exact ⟨p ++ [], by rw [env_of q]; exact q⟩
theorem env_1 (hz : Sz n f σ 0) (h0 : σ 0 = n) {k : Nat} (hk : k < n) (hp : pP (f k)) : env f (k + 1) = env f k := by
  obtain ⟨r, h⟩ := stk_at hz h0 hk
  exact env_of (stk_p h hp)
theorem env_2 (hz : Sz n f σ 0) (h0 : σ 0 = n) {k : Nat} (hk : k < n) (hp : pP (f k)) : env f (k + 1 + σ (k + 1)) = lastE f k (env f k) := by
  obtain ⟨r, h⟩ := stk_at hz h0 hk
  exact env_of ((stk_end hz _ k rfl hk _ _ h).2 hp)
theorem par_in (hz : Sz n f σ 0) : ∀ d k, n - k = d → k < n → ∀ j, k < j → j < k + σ k → ∃ p, k ≤ p ∧ p < j ∧ pP (f p) ∧ (j = p + 1 ∨ j = p + 1 + σ (p + 1)) := by
  intro d
  induction d using Nat.strongRecOn with
  | ind d ih =>
    intro k hd hk j h1 h2
    obtain ⟨a1, a2, a3, a4⟩ := hz k (Nat.zero_le _) hk
    by_cases hp : pP (f k)
    · obtain ⟨c1, c2, c3⟩ := a3 hp
      by_cases e1 : j = k + 1
      · exact ⟨k, Nat.le_refl _, h1, hp, Or.inl e1⟩
      by_cases e2 : j = k + 1 + σ (k + 1)
      · exact ⟨k, Nat.le_refl _, h1, hp, Or.inr e2⟩
      by_cases hj : j < k + 1 + σ (k + 1)
      · obtain ⟨p, q1, q2, q3⟩ := ih (n - (k + 1)) (by omega) (k + 1) rfl c1 j (by omega) hj
        exact ⟨p, by omega, q2, q3⟩
      · obtain ⟨p, q1, q2, q3⟩ := ih (n - (k + 1 + σ (k + 1))) (by omega) (k + 1 + σ (k + 1)) rfl c2 j (by omega) (by omega)
        exact ⟨p, by omega, q2, q3⟩
    · rw [a4 hp] at h2; omega
theorem par (hz : Sz n f σ 0) (h0 : σ 0 = n) {j : Nat} (h1 : 0 < j) (h2 : j < n) : ∃ p, p < j ∧ pP (f p) ∧ (j = p + 1 ∨ j = p + 1 + σ (p + 1)) := by
  obtain ⟨p, -, q⟩ := par_in hz _ 0 rfl (by omega) j h1 (by omega)
  exact ⟨p, q⟩
end EnvS
/-- an entry of the stack is empty, or a binder with what is around it -/
theorem env_good (f : Nat → Int) : ∀ k, ∀ e ∈ stk f k, e = [] ∨ ∃ b, e = b :: env f b ∧ b < k ∧ bP (f b)
  | 0, e, h => by
    have : e = [] := by simpa [stk] using h
    exact Or.inl this
  | k + 1, e, h => by
    have ih := env_good f k
    have up : ∀ x, (x = [] ∨ ∃ b, x = b :: env f b ∧ b < k ∧ bP (f b)) → (x = [] ∨ ∃ b, x = b :: env f b ∧ b < k + 1 ∧ bP (f b)) := by
      intro x hx
      rcases hx with hx | ⟨b, h1, h2, h3⟩
      · exact Or.inl hx
      · exact Or.inr ⟨b, h1, by omega, h3⟩
    cases hs : stk f k with
    | nil => rw [stk_0 hs] at h; cases h
    | cons e0 r =>
      have m0 : e0 ∈ stk f k := by rw [hs]; exact List.mem_cons_self
      have mr : ∀ x, x ∈ r → x ∈ stk f k := fun x hx => by rw [hs]; exact List.mem_cons_of_mem _ hx
      by_cases hb : bP (f k)
      · rw [stk_b hs hb] at h
        rcases List.mem_cons.mp h with h | h
        · subst h; exact up _ (ih _ m0)
        rcases List.mem_cons.mp h with h | h
        · exact Or.inr ⟨k, by rw [h, env_of hs], by omega, hb⟩
        · exact up _ (ih _ (mr _ h))
      by_cases ha : f k = 4
      · rw [stk_a hs ha] at h
        rcases List.mem_cons.mp h with h | h
        · subst h; exact up _ (ih _ m0)
        rcases List.mem_cons.mp h with h | h
        · subst h; exact up _ (ih _ m0)
        · exact up _ (ih _ (mr _ h))
      · rw [stk_l hs (by omega)] at h
        exact up _ (ih _ (mr _ h))
theorem env_len (f : Nat → Int) : ∀ k, ∀ e ∈ stk f k, e.length ≤ k
  | 0, e, h => by
    have : e = [] := by simpa [stk] using h
    rw [this]; exact Nat.le_refl _
  | k + 1, e, h => by
    have ih := env_len f k
    cases hs : stk f k with
    | nil => rw [stk_0 hs] at h; cases h
    | cons e0 r =>
      have m0 : e0.length ≤ k := ih _ (by rw [hs]; exact List.mem_cons_self)
      have mr : ∀ x, x ∈ r → x.length ≤ k := fun x hx => ih _ (by rw [hs]; exact List.mem_cons_of_mem _ hx)
      by_cases hb : bP (f k)
      · rw [stk_b hs hb] at h
        rcases List.mem_cons.mp h with h | h
        · subst h; omega
        rcases List.mem_cons.mp h with h | h
        · rw [h]; simp; omega
        · have := mr _ h; omega
      by_cases ha : f k = 4
      · rw [stk_a hs ha] at h
        rcases List.mem_cons.mp h with h | h
        · subst h; omega
        rcases List.mem_cons.mp h with h | h
        · subst h; omega
        · have := mr _ h; omega
      · rw [stk_l hs (by omega)] at h
        have := mr _ h; omega
theorem env_suf (f : Nat → Int) : ∀ k, (stk f k).Pairwise (fun a b => b.tail <:+ a)
  | 0 => by simp [stk]
  | k + 1 => by
    have ih := env_suf f k
    cases hs : stk f k with
    | nil => rw [stk_0 hs]; exact List.Pairwise.nil
    | cons e0 r =>
      rw [hs, List.pairwise_cons] at ih
      have t0 : e0.tail <:+ e0 := List.tail_suffix e0
      by_cases hb : bP (f k)
      · rw [stk_b hs hb, List.pairwise_cons, List.pairwise_cons]
        refine ⟨fun x hx => ?_, fun x hx => ?_, ih.2⟩
        · rcases List.mem_cons.mp hx with hx | hx
          · rw [hx]; exact List.suffix_refl _
          · exact ih.1 x hx
        · exact (ih.1 x hx).trans (List.suffix_cons _ _)
      by_cases ha : f k = 4
      · rw [stk_a hs ha, List.pairwise_cons, List.pairwise_cons]
        refine ⟨fun x hx => ?_, fun x hx => ih.1 x hx, ih.2⟩
        rcases List.mem_cons.mp hx with hx | hx
        · rw [hx]; exact t0
        · exact ih.1 x hx
      · rw [stk_l hs (by omega)]
        exact ih.2
/-- what stands open is these binders -/
def mat (o : Nat → Int) (e : List Nat) : Prop := ∀ (i b : Nat), e[i]? = some b → o (e.length - 1 - i) = (b : Int)
theorem mat_nil (o : Nat → Int) : mat o [] := fun i b h => by simp at h
theorem mat_suf {o : Nat → Int} {t e : List Nat} (h : mat o e) (hs : t <:+ e) : mat o t := by
  obtain ⟨p, rfl⟩ := hs
  intro i b hb
  have hi : i < t.length := (List.getElem?_eq_some_iff.mp hb).1
  have := h (p.length + i) b (by rw [List.getElem?_append_right (by omega)]; simpa using hb)
  rw [List.length_append] at this
  rw [← this]
  congr 1
  omega
theorem mat_cons {o : Nat → Int} {t : List Nat} {b : Nat} (h : mat o t) : mat (uZ o t.length (b : Int)) (b :: t) := by
  intro i c hc
  cases i with
  | zero =>
    have : b = c := by simpa using hc
    subst this
    simp [uZ]
  | succ i =>
    have hc' : t[i]? = some c := by simpa using hc
    have hi : i < t.length := (List.getElem?_eq_some_iff.mp hc').1
    rw [uZ_n (by simp; omega)]
    rw [← h i c hc']
    congr 1
    simp; omega
/-- the innermost one, or -1 -/
def hd (e : List Nat) : Int := match e with
  | [] => -1
  | b :: _ => (b : Int)
theorem hd_in {f : Nat → Int} {k : Nat} {e : List Nat} (h : e ∈ stk f k) : -1 ≤ hd e ∧ hd e < k := by
  rcases env_good f k e h with rfl | ⟨b, rfl, h2, -⟩
  · show (-1 : Int) ≤ -1 ∧ (-1 : Int) < k; omega
  · show (-1 : Int) ≤ (b : Int) ∧ (b : Int) < k; omega
section EnvR
variable {n : Nat} {f : Nat → Int} {σ : Nat → Nat}
theorem env_mem (hz : Sz n f σ 0) (h0 : σ 0 = n) {k : Nat} (hk : k < n) : env f k ∈ stk f k := by
  obtain ⟨r, h⟩ := stk_at hz h0 hk
  rw [h]; exact List.mem_cons_self
theorem env_hd (hz : Sz n f σ 0) (h0 : σ 0 = n) {k : Nat} (hk : k < n) : (env f k = [] ∧ hd (env f k) = -1) ∨ ∃ b : Nat, env f k = b :: env f b ∧ hd (env f k) = b ∧ b < k ∧ bP (f b) := by
  rcases env_good f k _ (env_mem hz h0 hk) with h | ⟨b, h1, h2, h3⟩
  · exact Or.inl ⟨h, by rw [h]; rfl⟩
  · exact Or.inr ⟨b, h1, by rw [h1]; rfl, h2, h3⟩
theorem env_le (hz : Sz n f σ 0) (h0 : σ 0 = n) {k : Nat} (hk : k < n) : (env f k).length ≤ k := env_len f k _ (env_mem hz h0 hk)
/-- the places that the nodes before k have written -/
def inv2 (n : Nat) (f : Nat → Int) (σ : Nat → Nat) (I : Nat → Int) (k : Nat) : Prop := ∀ j, j < n → (j = 0 ∨ ∃ p, p < k ∧ pP (f p) ∧ (j = p + 1 ∨ j = p + 1 + σ (p + 1))) → I j = hd (env f j)
theorem inv2_leaf {I : Nat → Int} {k : Nat} (hn : ¬ pP (f k)) (h : inv2 n f σ I k) : inv2 n f σ I (k + 1) := by
  intro j hj hw
  refine h j hj ?_
  rcases hw with hw | ⟨p, h1, h2, h3⟩
  · exact Or.inl hw
  · have : p ≠ k := fun e => hn (e ▸ h2)
    exact Or.inr ⟨p, by omega, h2, h3⟩
theorem inv2_part (hz : Sz n f σ 0) (h0 : σ 0 = n) {I : Nat → Int} {k : Nat} (hk : k < n) (hp : pP (f k)) (h : inv2 n f σ I k) : inv2 n f σ (uZ (uZ I (k + 1) (hd (env f k))) (k + 1 + σ (k + 1)) (hd (lastE f k (env f k)))) (k + 1) := by
  intro j hj hw
  by_cases e2 : j = k + 1 + σ (k + 1)
  · subst e2
    rw [uZ_s, env_2 hz h0 hk hp]
  rw [uZ_n e2]
  by_cases e1 : j = k + 1
  · subst e1
    rw [uZ_s, env_1 hz h0 hk hp]
  rw [uZ_n e1]
  refine h j hj ?_
  rcases hw with hw | ⟨p, h1, h2, h3⟩
  · exact Or.inl hw
  · have : p ≠ k := fun e => by subst e; omega
    exact Or.inr ⟨p, by omega, h2, h3⟩
theorem inv2_all (hz : Sz n f σ 0) (h0 : σ 0 = n) {I : Nat → Int} {k : Nat} (h : inv2 n f σ I k) : ∀ j, j < n → j ≤ k → I j = hd (env f j) := by
  intro j hj hk
  by_cases e : j = 0
  · exact h j hj (Or.inl e)
  · obtain ⟨p, q1, q2, q3⟩ := par hz h0 (by omega) hj
    exact h j hj (Or.inr ⟨p, by omega, q2, q3⟩)
end EnvR
end
section
abbrev rm_NS_isBinder : Room := { frames := 0, cells := 0, slots := 0, locals := 0 }
set_option maxHeartbeats 4000000 in
set_option maxRecDepth 100000 in
theorem c_NS_isBinder (l : Launch) (E : gE) (k : Int) (hk : gin k) : CtI l E y_NS_isBinder b_NS_isBinder 1 (some .boolean) rm_NS_isBinder [.int (iI k)] ([]) (bZ (k = 1 ∨ k = 2 ∨ k = 3 ∨ k = 6)) := by
  refine g_start (by decide) (Nat.le_of_ble_eq_true rfl) (fun X hX hE hin => ?_)
  refine g_iload_n (pc := 0) hX 0 d_NS_isBinder_0 rfl rfl ?_
  refine g_iconst (pc := 1) hX d_NS_isBinder_1 ?_
  refine g_icmp_eq (pc := 2) (tgt := 21) hX d_NS_isBinder_2 (by decide) (by omega) (by omega) (fun c_1 => ?_) (fun c_1 => ?_)
  · refine g_iconst (pc := 21) hX d_NS_isBinder_21 ?_
    refine g_goto (pc := 22) (tgt := 26) hX d_NS_isBinder_22 (by decide) ?_
    exact g_zret (pc := 26) hX hE (by first | exact Or.inl rfl | exact Or.inr rfl | exact bZ_01 _) d_NS_isBinder_26 (by decide) (by decide) ⟨by rw [bZ_t (by omega)], rfl, rfl, rfl⟩
  · refine g_iload_n (pc := 5) hX 0 d_NS_isBinder_5 rfl rfl ?_
    refine g_iconst (pc := 6) hX d_NS_isBinder_6 ?_
    refine g_icmp_eq (pc := 7) (tgt := 21) hX d_NS_isBinder_7 (by decide) (by omega) (by omega) (fun c_2 => ?_) (fun c_2 => ?_)
    · refine g_iconst (pc := 21) hX d_NS_isBinder_21 ?_
      refine g_goto (pc := 22) (tgt := 26) hX d_NS_isBinder_22 (by decide) ?_
      exact g_zret (pc := 26) hX hE (by first | exact Or.inl rfl | exact Or.inr rfl | exact bZ_01 _) d_NS_isBinder_26 (by decide) (by decide) ⟨by rw [bZ_t (by omega)], rfl, rfl, rfl⟩
    · refine g_iload_n (pc := 10) hX 0 d_NS_isBinder_10 rfl rfl ?_
      refine g_iconst (pc := 11) hX d_NS_isBinder_11 ?_
      refine g_icmp_eq (pc := 12) (tgt := 21) hX d_NS_isBinder_12 (by decide) (by omega) (by omega) (fun c_3 => ?_) (fun c_3 => ?_)
      · refine g_iconst (pc := 21) hX d_NS_isBinder_21 ?_
        refine g_goto (pc := 22) (tgt := 26) hX d_NS_isBinder_22 (by decide) ?_
        exact g_zret (pc := 26) hX hE (by first | exact Or.inl rfl | exact Or.inr rfl | exact bZ_01 _) d_NS_isBinder_26 (by decide) (by decide) ⟨by rw [bZ_t (by omega)], rfl, rfl, rfl⟩
      · refine g_iload_n (pc := 15) hX 0 d_NS_isBinder_15 rfl rfl ?_
        refine g_bipush (pc := 16) hX 6 d_NS_isBinder_16 (by decide) ?_
        refine g_icmp_ne (pc := 18) (tgt := 25) hX d_NS_isBinder_18 (by decide) (by omega) (by omega) (fun c_4 => ?_) (fun c_4 => ?_)
        · refine g_iconst (pc := 25) hX d_NS_isBinder_25 ?_
          exact g_zret (pc := 26) hX hE (by first | exact Or.inl rfl | exact Or.inr rfl | exact bZ_01 _) d_NS_isBinder_26 (by decide) (by decide) ⟨by rw [bZ_f (by omega)], rfl, rfl, rfl⟩
        · refine g_iconst (pc := 21) hX d_NS_isBinder_21 ?_
          refine g_goto (pc := 22) (tgt := 26) hX d_NS_isBinder_22 (by decide) ?_
          exact g_zret (pc := 26) hX hE (by first | exact Or.inl rfl | exact Or.inr rfl | exact bZ_01 _) d_NS_isBinder_26 (by decide) (by decide) ⟨by rw [bZ_t (by omega)], rfl, rfl, rfl⟩

abbrev rm_NS_hasParts : Room := { frames := 1, cells := 0, slots := 0, locals := 20 }
set_option maxHeartbeats 4000000 in
set_option maxRecDepth 100000 in
theorem c_NS_hasParts (l : Launch) (E : gE) (k : Int) (hk : gin k) : CtI l E y_NS_hasParts b_NS_hasParts 1 (some .boolean) rm_NS_hasParts [.int (iI k)] ([]) (bZ (k = 1 ∨ k = 2 ∨ k = 3 ∨ k = 6 ∨ k = 4)) := by
  refine g_start (by decide) (Nat.le_of_ble_eq_true rfl) (fun X hX hE hin => ?_)
  refine g_iload_n (pc := 0) hX 0 d_NS_hasParts_0 rfl rfl ?_
  refine g_iS (pc := 1) hX (c_NS_isBinder l E _ (by omega)) gy_NS_isBinder w_219 w_218 rfl (by decide) (by decide) [] rfl rfl _ rfl (Nat.le_of_ble_eq_true rfl) d_NS_hasParts_1 (by decide) (by decide) ?_
  refine g_bne (pc := 4) (tgt := 12) hX d_NS_hasParts_4 (by decide) (fun c_1 => ?_) (fun c_1 => ?_)
  · refine g_iconst (pc := 12) hX d_NS_hasParts_12 ?_
    refine g_goto (pc := 13) (tgt := 17) hX d_NS_hasParts_13 (by decide) ?_
    exact g_zret (pc := 17) hX hE (by first | exact Or.inl rfl | exact Or.inr rfl | exact bZ_01 _) d_NS_hasParts_17 (by decide) (by decide) ⟨by rw [bZ_t (by omega)], rfl, rfl, rfl⟩
  · refine g_iload_n (pc := 7) hX 0 d_NS_hasParts_7 rfl rfl ?_
    refine g_iconst (pc := 8) hX d_NS_hasParts_8 ?_
    refine g_icmp_ne (pc := 9) (tgt := 16) hX d_NS_hasParts_9 (by decide) (by omega) (by omega) (fun c_2 => ?_) (fun c_2 => ?_)
    · refine g_iconst (pc := 16) hX d_NS_hasParts_16 ?_
      exact g_zret (pc := 17) hX hE (by first | exact Or.inl rfl | exact Or.inr rfl | exact bZ_01 _) d_NS_hasParts_17 (by decide) (by decide) ⟨by rw [bZ_f (by omega)], rfl, rfl, rfl⟩
    · refine g_iconst (pc := 12) hX d_NS_hasParts_12 ?_
      refine g_goto (pc := 13) (tgt := 17) hX d_NS_hasParts_13 (by decide) ?_
      exact g_zret (pc := 17) hX hE (by first | exact Or.inl rfl | exact Or.inr rfl | exact bZ_01 _) d_NS_hasParts_17 (by decide) (by decide) ⟨by rw [bZ_t (by omega)], rfl, rfl, rfl⟩

abbrev rm_NS_longer : Room := { frames := 1, cells := 0, slots := 0, locals := 21 }
set_option maxHeartbeats 4000000 in
set_option maxRecDepth 100000 in
theorem c_NS_longer (l : Launch) (E : gE) (n : Int) (hn : gin n) (m : Int) (hm : gin m) (h0 : gin (2 * n)) : CtI l E y_NS_longer b_NS_longer 2 (some .int) rm_NS_longer [.int (iI n), .int (iI m)] ([]) (if m < 2 * n then 2 * n else m) := by
  refine g_start (by decide) (Nat.le_of_ble_eq_true rfl) (fun X hX hE hin => ?_)
  refine g_iload_n (pc := 0) hX 1 d_NS_longer_0 rfl rfl ?_
  refine g_iconst (pc := 1) hX d_NS_longer_1 ?_
  refine g_iload_n (pc := 2) hX 0 d_NS_longer_2 rfl rfl ?_
  refine g_imul (pc := 3) hX d_NS_longer_3 ?_
  refine g_mmax (pc := 4) hX w_172 w_173 w_8 w_174 (by decide) (by decide) (Nat.le_of_ble_eq_true rfl) (by decide) (by decide) (by omega) (by omega) d_NS_longer_4 ?_
  exact g_iret (pc := 7) hX hE d_NS_longer_7 (by decide) (by decide) ⟨rfl, rfl, rfl, rfl⟩
end
section
abbrev rm_RW_count : Room := { frames := 0, cells := 0, slots := 0, locals := 0 }
set_option maxHeartbeats 4000000 in
set_option maxRecDepth 100000 in
theorem c_RW_count (l : Launch) (E : gE) (r : Nat) (rc : RowT) (rk : rowOK rc) : CtI l E y_RW_count b_RW_count 1 (some .int) rm_RW_count [.ref r] (rowW E r rc) (rN rc) := by
  refine g_start (by decide) (Nat.le_of_ble_eq_true rfl) (fun X hX hE hin => ?_)
  refine g_aload_n (pc := 0) hX 0 d_RW_count_0 rfl rfl ?_
  refine g_get (pc := 1) hX f_RW_22 0 rfl rfl d_RW_count_1 ?_
  exact g_iret (pc := 4) hX hE d_RW_count_4 (by decide) (by decide) ⟨rfl, rfl, rfl, rfl⟩

abbrev rm_RW_has : Room := { frames := 0, cells := 0, slots := 0, locals := 0 }
set_option maxHeartbeats 4000000 in
set_option maxRecDepth 100000 in
theorem c_RW_has (l : Launch) (E : gE) (r : Nat) (rc : RowT) (rk : rowOK rc) (k : Int) (hk : gin k) : CtI l E y_RW_has b_RW_has 2 (some .boolean) rm_RW_has [.ref r, .int (iI k)] (rowW E r rc) (bZ (0 ≤ k ∧ k < rN rc)) := by
  obtain ⟨⟨r1, r2, r3, r4⟩, rf, rg, rh⟩ := id rk
  refine g_start (by decide) (Nat.le_of_ble_eq_true rfl) (fun X hX hE hin => ?_)
  refine g_iload_n (pc := 0) hX 1 d_RW_has_0 rfl rfl ?_
  refine g_if_lt (pc := 1) (tgt := 16) hX d_RW_has_1 (by decide) (by omega) (fun c_1 => ?_) (fun c_1 => ?_)
  · refine g_iconst (pc := 16) hX d_RW_has_16 ?_
    exact g_zret (pc := 17) hX hE (by first | exact Or.inl rfl | exact Or.inr rfl | exact bZ_01 _) d_RW_has_17 (by decide) (by decide) ⟨by rw [bZ_f (by omega)], rfl, rfl, rfl⟩
  · refine g_iload_n (pc := 4) hX 1 d_RW_has_4 rfl rfl ?_
    refine g_aload_n (pc := 5) hX 0 d_RW_has_5 rfl rfl ?_
    refine g_get (pc := 6) hX f_RW_22 0 rfl rfl d_RW_has_6 ?_
    refine g_icmp_ge (pc := 9) (tgt := 16) hX d_RW_has_9 (by decide) (by omega) (by omega) (fun c_2 => ?_) (fun c_2 => ?_)
    · refine g_iconst (pc := 16) hX d_RW_has_16 ?_
      exact g_zret (pc := 17) hX hE (by first | exact Or.inl rfl | exact Or.inr rfl | exact bZ_01 _) d_RW_has_17 (by decide) (by decide) ⟨by rw [bZ_f (by omega)], rfl, rfl, rfl⟩
    · refine g_iconst (pc := 12) hX d_RW_has_12 ?_
      refine g_goto (pc := 13) (tgt := 17) hX d_RW_has_13 (by decide) ?_
      exact g_zret (pc := 17) hX hE (by first | exact Or.inl rfl | exact Or.inr rfl | exact bZ_01 _) d_RW_has_17 (by decide) (by decide) ⟨by rw [bZ_t (by omega)], rfl, rfl, rfl⟩

abbrev rm_RW_kind : Room := { frames := 1, cells := 0, slots := 0, locals := 21 }
set_option maxHeartbeats 4000000 in
set_option maxRecDepth 100000 in
theorem c_RW_kind (l : Launch) (E : gE) (r : Nat) (rc : RowT) (rk : rowOK rc) (k : Int) (hk : gin k) : CtI l E y_RW_kind b_RW_kind 2 (some .int) rm_RW_kind [.ref r, .int (iI k)] (rowW E r rc) (rK rc k) := by
  obtain ⟨⟨r1, r2, r3, r4⟩, rf, rg, rh⟩ := id rk
  refine g_start (by decide) (Nat.le_of_ble_eq_true rfl) (fun X hX hE hin => ?_)
  refine g_aload_n (pc := 0) hX 0 d_RW_kind_0 rfl rfl ?_
  refine g_iload_n (pc := 1) hX 1 d_RW_kind_1 rfl rfl ?_
  refine g_iV (pc := 2) hX (c_RW_has l E r rc rk _ (by omega)) gy_RW_has gv_RW_has w_233 rfl (by decide) (by decide) [0, 1, 2, 3] rfl rfl rfl rfl rfl _ rfl (Nat.le_of_ble_eq_true rfl) d_RW_kind_2 (by decide) (by decide) ?_
  refine g_beq (pc := 5) (tgt := 17) hX d_RW_kind_5 (by decide) (fun c_1 => ?_) (fun c_1 => ?_)
  · refine g_iconst (pc := 17) hX d_RW_kind_17 ?_
    exact g_iret (pc := 18) hX hE d_RW_kind_18 (by decide) (by decide) ⟨by rw [rK_f (by omega)], rfl, rfl, rfl⟩
  · refine g_aload_n (pc := 8) hX 0 d_RW_kind_8 rfl rfl ?_
    refine g_get (pc := 9) hX f_RW_9 0 rfl rfl d_RW_kind_9 ?_
    refine g_iload_n (pc := 12) hX 1 d_RW_kind_12 rfl rfl ?_
    refine g_iald (pc := 13) hX 1 rfl (by omega) d_RW_kind_13 ?_
    refine g_goto (pc := 14) (tgt := 18) hX d_RW_kind_14 (by decide) ?_
    exact g_iret (pc := 18) hX hE d_RW_kind_18 (by decide) (by decide) ⟨by rw [rK_t (by omega)], rfl, rfl, rfl⟩

abbrev rm_RW_beside : Room := { frames := 1, cells := 0, slots := 0, locals := 21 }
set_option maxHeartbeats 4000000 in
set_option maxRecDepth 100000 in
theorem c_RW_beside (l : Launch) (E : gE) (r : Nat) (rc : RowT) (rk : rowOK rc) (k : Int) (hk : gin k) : CtL l E y_RW_beside b_RW_beside 2 (some .long) rm_RW_beside [.ref r, .int (iI k)] (rowW E r rc) (rB rc k) := by
  obtain ⟨⟨r1, r2, r3, r4⟩, rf, rg, rh⟩ := id rk
  refine g_start (by decide) (Nat.le_of_ble_eq_true rfl) (fun X hX hE hin => ?_)
  refine g_aload_n (pc := 0) hX 0 d_RW_beside_0 rfl rfl ?_
  refine g_iload_n (pc := 1) hX 1 d_RW_beside_1 rfl rfl ?_
  refine g_iV (pc := 2) hX (c_RW_has l E r rc rk _ (by omega)) gy_RW_has gv_RW_has w_233 rfl (by decide) (by decide) [0, 1, 2, 3] rfl rfl rfl rfl rfl _ rfl (Nat.le_of_ble_eq_true rfl) d_RW_beside_2 (by decide) (by decide) ?_
  refine g_beq (pc := 5) (tgt := 17) hX d_RW_beside_5 (by decide) (fun c_1 => ?_) (fun c_1 => ?_)
  · refine g_ldc2 (pc := 17) hX (-1) w_279 (by decide) d_RW_beside_17 ?_
    exact g_lret (pc := 20) hX hE d_RW_beside_20 (by decide) (by decide) ⟨by rw [rB_f (by omega)], rfl, rfl, rfl⟩
  · refine g_aload_n (pc := 8) hX 0 d_RW_beside_8 rfl rfl ?_
    refine g_get (pc := 9) hX f_RW_15 0 rfl rfl d_RW_beside_9 ?_
    refine g_iload_n (pc := 12) hX 1 d_RW_beside_12 rfl rfl ?_
    refine g_lald (pc := 13) hX 2 rfl (by omega) d_RW_beside_13 ?_
    refine g_goto (pc := 14) (tgt := 20) hX d_RW_beside_14 (by decide) ?_
    exact g_lret (pc := 20) hX hE d_RW_beside_20 (by decide) (by decide) ⟨by rw [rB_t (by omega)], rfl, rfl, rfl⟩

abbrev rm_RW_size : Room := { frames := 1, cells := 0, slots := 0, locals := 21 }
set_option maxHeartbeats 4000000 in
set_option maxRecDepth 100000 in
theorem c_RW_size (l : Launch) (E : gE) (r : Nat) (rc : RowT) (rk : rowOK rc) (k : Int) (hk : gin k) : CtI l E y_RW_size b_RW_size 2 (some .int) rm_RW_size [.ref r, .int (iI k)] (rowW E r rc) (rS rc k) := by
  obtain ⟨⟨r1, r2, r3, r4⟩, rf, rg, rh⟩ := id rk
  refine g_start (by decide) (Nat.le_of_ble_eq_true rfl) (fun X hX hE hin => ?_)
  refine g_aload_n (pc := 0) hX 0 d_RW_size_0 rfl rfl ?_
  refine g_iload_n (pc := 1) hX 1 d_RW_size_1 rfl rfl ?_
  refine g_iV (pc := 2) hX (c_RW_has l E r rc rk _ (by omega)) gy_RW_has gv_RW_has w_233 rfl (by decide) (by decide) [0, 1, 2, 3] rfl rfl rfl rfl rfl _ rfl (Nat.le_of_ble_eq_true rfl) d_RW_size_2 (by decide) (by decide) ?_
  refine g_beq (pc := 5) (tgt := 17) hX d_RW_size_5 (by decide) (fun c_1 => ?_) (fun c_1 => ?_)
  · refine g_iconst (pc := 17) hX d_RW_size_17 ?_
    exact g_iret (pc := 18) hX hE d_RW_size_18 (by decide) (by decide) ⟨by rw [rS_f (by omega)], rfl, rfl, rfl⟩
  · refine g_aload_n (pc := 8) hX 0 d_RW_size_8 rfl rfl ?_
    refine g_get (pc := 9) hX f_RW_19 0 rfl rfl d_RW_size_9 ?_
    refine g_iload_n (pc := 12) hX 1 d_RW_size_12 rfl rfl ?_
    refine g_iald (pc := 13) hX 3 rfl (by omega) d_RW_size_13 ?_
    refine g_goto (pc := 14) (tgt := 18) hX d_RW_size_14 (by decide) ?_
    exact g_iret (pc := 18) hX hE d_RW_size_18 (by decide) (by decide) ⟨by rw [rS_t (by omega)], rfl, rfl, rfl⟩

abbrev rm_RW_end : Room := { frames := 2, cells := 0, slots := 0, locals := 42 }
set_option maxHeartbeats 4000000 in
set_option maxRecDepth 100000 in
theorem c_RW_end (l : Launch) (E : gE) (r : Nat) (rc : RowT) (rk : rowOK rc) (k : Int) (hk : gin k) : CtI l E y_RW_end b_RW_end 2 (some .int) rm_RW_end [.ref r, .int (iI k)] (rowW E r rc) (k + rS rc k) := by
  refine g_start (by decide) (Nat.le_of_ble_eq_true rfl) (fun X hX hE hin => ?_)
  refine g_iload_n (pc := 0) hX 1 d_RW_end_0 rfl rfl ?_
  refine g_aload_n (pc := 1) hX 0 d_RW_end_1 rfl rfl ?_
  refine g_iload_n (pc := 2) hX 1 d_RW_end_2 rfl rfl ?_
  refine g_iV (pc := 3) hX (c_RW_size l E r rc rk _ (by omega)) gy_RW_size gv_RW_size w_229 rfl (by decide) (by decide) [0, 1, 2, 3] rfl rfl rfl rfl rfl _ rfl (Nat.le_of_ble_eq_true rfl) d_RW_end_3 (by decide) (by decide) ?_
  refine g_iadd (pc := 6) hX d_RW_end_6 ?_
  exact g_iret (pc := 7) hX hE d_RW_end_7 (by decide) (by decide) ⟨rfl, rfl, rfl, rfl⟩

abbrev rm_RW_second : Room := { frames := 3, cells := 0, slots := 0, locals := 63 }
set_option maxHeartbeats 4000000 in
set_option maxRecDepth 100000 in
theorem c_RW_second (l : Launch) (E : gE) (r : Nat) (rc : RowT) (rk : rowOK rc) (k : Int) (hk : gin k) (h1 : gin (k + 1)) : CtI l E y_RW_second b_RW_second 2 (some .int) rm_RW_second [.ref r, .int (iI k)] (rowW E r rc) (k + 1 + rS rc (k + 1)) := by
  refine g_start (by decide) (Nat.le_of_ble_eq_true rfl) (fun X hX hE hin => ?_)
  refine g_aload_n (pc := 0) hX 0 d_RW_second_0 rfl rfl ?_
  refine g_iload_n (pc := 1) hX 1 d_RW_second_1 rfl rfl ?_
  refine g_iconst (pc := 2) hX d_RW_second_2 ?_
  refine g_iadd (pc := 3) hX d_RW_second_3 ?_
  refine g_iV (pc := 4) hX (c_RW_end l E r rc rk _ (by omega)) gy_RW_end gv_RW_end w_225 rfl (by decide) (by decide) [0, 1, 2, 3] rfl rfl rfl rfl rfl _ rfl (Nat.le_of_ble_eq_true rfl) d_RW_second_4 (by decide) (by decide) ?_
  exact g_iret (pc := 7) hX hE d_RW_second_7 (by decide) (by decide) ⟨rfl, rfl, rfl, rfl⟩
end
section
abbrev rm_AR_copyOfI : Room := { frames := 1, cells := 1, slots := 6400, locals := 26 }
set_option maxHeartbeats 4000000 in
set_option maxRecDepth 100000 in
theorem c_AR_copyOfI (l : Launch) (E : gE) (a : Nat) (m : Nat) (f : Nat → Int) (n : Int) (hn : gin n) (h0 : (m : Int) < n ∧ n ≤ 6400) : Ct l E y_AR_copyOfI b_AR_copyOfI 3 (some (.array .int)) rm_AR_copyOfI [.ref a, .int (iI n)] ([(a, aI E m f)]) (fun v w dc ds => ∃ q, v = some (.ref q) ∧ w = [(a, aI E m f), (q, aI E n.toNat (va_cpy f (fun _ => 0) 0 0 m))] ∧ dc = 1 ∧ ds = n.toNat) := by
  refine g_start (by decide) (Nat.le_of_ble_eq_true rfl) (fun X hX hE hin => ?_)
  refine g_iload_n (pc := 0) hX 1 d_AR_copyOfI_0 rfl rfl ?_
  refine g_aload_n (pc := 1) hX 0 d_AR_copyOfI_1 rfl rfl ?_
  refine g_alenI (pc := 2) hX 0 rfl d_AR_copyOfI_2 ?_
  refine g_icmp_ne (pc := 3) (tgt := 14) hX d_AR_copyOfI_3 (by decide) (by omega) (by omega) (fun c_1 => ?_) (fun c_1 => ?_)
  · refine g_iload_n (pc := 14) hX 1 d_AR_copyOfI_14 rfl rfl ?_
    refine g_newI (pc := 15) hX w_52 (by omega) (by omega) (show _ + 1 ≤ 1 by omega) (show _ + _ ≤ 6400 by omega) d_AR_copyOfI_15 (fun q15 => ?_)
    refine g_astore_n (pc := 17) hX 2 d_AR_copyOfI_17 rfl (by decide) ?_
    refine g_aload_n (pc := 18) hX 0 d_AR_copyOfI_18 rfl rfl ?_
    refine g_iconst (pc := 19) hX d_AR_copyOfI_19 ?_
    refine g_aload_n (pc := 20) hX 2 d_AR_copyOfI_20 rfl rfl ?_
    refine g_iconst (pc := 21) hX d_AR_copyOfI_21 ?_
    refine g_aload_n (pc := 22) hX 0 d_AR_copyOfI_22 rfl rfl ?_
    refine g_alenI (pc := 23) hX 0 rfl d_AR_copyOfI_23 ?_
    refine g_iload_n (pc := 24) hX 1 d_AR_copyOfI_24 rfl rfl ?_
    refine g_mmin (pc := 25) hX w_185 w_186 w_8 w_187 (by decide) (by decide) (Nat.le_of_ble_eq_true rfl) (by decide) (show _ ≤ 6400 by omega) (by omega) (by omega) d_AR_copyOfI_25 ?_
    rw [show (if n < (m : Int) then n else (m : Int)) = (m : Int) from if_neg (by omega)]
    refine g_copyI (pc := 28) hX w_188 w_190 w_189 w_10 0 1 rfl rfl (by omega) (by decide) (by decide) (Nat.le_of_ble_eq_true rfl) d_AR_copyOfI_28 ?_
    refine g_aload_n (pc := 31) hX 2 d_AR_copyOfI_31 rfl rfl ?_
    exact g_aret (pc := 32) hX hE (Or.inr ⟨_, rfl⟩) d_AR_copyOfI_32 (by decide) (show _ ≤ 6400 by omega) ⟨q15, rfl, rfl, by omega, by omega⟩
  · exact absurd c_1 (by omega)
end
section
abbrev rm_AR_copyOfL : Room := { frames := 1, cells := 1, slots := 6400, locals := 26 }
set_option maxHeartbeats 4000000 in
set_option maxRecDepth 100000 in
theorem c_AR_copyOfL (l : Launch) (E : gE) (a : Nat) (m : Nat) (f : Nat → Int) (n : Int) (hn : gin n) (h0 : (m : Int) < n ∧ n ≤ 6400) : Ct l E y_AR_copyOfL b_AR_copyOfL 3 (some (.array .long)) rm_AR_copyOfL [.ref a, .int (iI n)] ([(a, aL E m f)]) (fun v w dc ds => ∃ q, v = some (.ref q) ∧ w = [(a, aL E m f), (q, aL E n.toNat (va_cpy f (fun _ => 0) 0 0 m))] ∧ dc = 1 ∧ ds = n.toNat) := by
  refine g_start (by decide) (Nat.le_of_ble_eq_true rfl) (fun X hX hE hin => ?_)
  refine g_iload_n (pc := 0) hX 1 d_AR_copyOfL_0 rfl rfl ?_
  refine g_aload_n (pc := 1) hX 0 d_AR_copyOfL_1 rfl rfl ?_
  refine g_alenL (pc := 2) hX 0 rfl d_AR_copyOfL_2 ?_
  refine g_icmp_ne (pc := 3) (tgt := 14) hX d_AR_copyOfL_3 (by decide) (by omega) (by omega) (fun c_1 => ?_) (fun c_1 => ?_)
  · refine g_iload_n (pc := 14) hX 1 d_AR_copyOfL_14 rfl rfl ?_
    refine g_newL (pc := 15) hX w_32 (by omega) (by omega) (show _ + 1 ≤ 1 by omega) (show _ + _ ≤ 6400 by omega) d_AR_copyOfL_15 (fun q15 => ?_)
    refine g_astore_n (pc := 17) hX 2 d_AR_copyOfL_17 rfl (by decide) ?_
    refine g_aload_n (pc := 18) hX 0 d_AR_copyOfL_18 rfl rfl ?_
    refine g_iconst (pc := 19) hX d_AR_copyOfL_19 ?_
    refine g_aload_n (pc := 20) hX 2 d_AR_copyOfL_20 rfl rfl ?_
    refine g_iconst (pc := 21) hX d_AR_copyOfL_21 ?_
    refine g_aload_n (pc := 22) hX 0 d_AR_copyOfL_22 rfl rfl ?_
    refine g_alenL (pc := 23) hX 0 rfl d_AR_copyOfL_23 ?_
    refine g_iload_n (pc := 24) hX 1 d_AR_copyOfL_24 rfl rfl ?_
    refine g_mmin (pc := 25) hX w_185 w_186 w_8 w_187 (by decide) (by decide) (Nat.le_of_ble_eq_true rfl) (by decide) (show _ ≤ 6400 by omega) (by omega) (by omega) d_AR_copyOfL_25 ?_
    rw [show (if n < (m : Int) then n else (m : Int)) = (m : Int) from if_neg (by omega)]
    refine g_copyL (pc := 28) hX w_188 w_190 w_189 w_10 0 1 rfl rfl (by omega) (by decide) (by decide) (Nat.le_of_ble_eq_true rfl) d_AR_copyOfL_28 ?_
    refine g_aload_n (pc := 31) hX 2 d_AR_copyOfL_31 rfl rfl ?_
    exact g_aret (pc := 32) hX hE (Or.inr ⟨_, rfl⟩) d_AR_copyOfL_32 (by decide) (show _ ≤ 6400 by omega) ⟨q15, rfl, rfl, by omega, by omega⟩
  · exact absurd c_1 (by omega)
end
section
abbrev rm_RW_makeRoom : Room := { frames := 2, cells := 3, slots := 19200, locals := 48 }
set_option maxHeartbeats 4000000 in
set_option maxRecDepth 100000 in
theorem c_RW_makeRoom (l : Launch) (E : gE) (r : Nat) (rc : RowT) (rk : rowOK rc) (m : Int) (hm : gin m) (h0 : m ≤ 3000) : Ct l E y_RW_makeRoom b_RW_makeRoom 3 none rm_RW_makeRoom [.ref r, .int (iI m)] (rowW E r rc) (fun v w dc ds => ∃ ρ, v = none ∧ w = rowW E r ρ ∧ rowOK ρ ∧ (rN ρ = rN rc ∧ m ≤ rC ρ ∧ (∀ j, j < rC rc → rF ρ j = rF rc j ∧ rG ρ j = rG rc j) ∧ rGrow rc ρ dc ds)) := by
  obtain ⟨⟨r1, r2, r3, r4⟩, rf, rg, rh⟩ := id rk
  refine g_start (by decide) (Nat.le_of_ble_eq_true rfl) (fun X hX hE hin => ?_)
  refine g_iload_n (pc := 0) hX 1 d_RW_makeRoom_0 rfl rfl ?_
  refine g_aload_n (pc := 1) hX 0 d_RW_makeRoom_1 rfl rfl ?_
  refine g_get (pc := 2) hX f_RW_9 0 rfl rfl d_RW_makeRoom_2 ?_
  refine g_alenI (pc := 5) hX 1 rfl d_RW_makeRoom_5 ?_
  refine g_icmp_le (pc := 6) (tgt := 55) hX d_RW_makeRoom_6 (by decide) (by omega) (by omega) (fun c_1 => ?_) (fun c_1 => ?_)
  · exact g_vret (pc := 55) hX hE d_RW_makeRoom_55 (show _ ≤ 3 by omega) (show _ ≤ 19200 by omega) ⟨rc, rfl, rfl, rk, rfl, by omega, fun j hj => ⟨rfl, rfl⟩, rGrow.rf rc⟩
  · refine g_aload_n (pc := 9) hX 0 d_RW_makeRoom_9 rfl rfl ?_
    refine g_get (pc := 10) hX f_RW_9 0 rfl rfl d_RW_makeRoom_10 ?_
    refine g_alenI (pc := 13) hX 1 rfl d_RW_makeRoom_13 ?_
    refine g_iload_n (pc := 14) hX 1 d_RW_makeRoom_14 rfl rfl ?_
    refine g_iSN (pc := 15) hX (c_NS_longer l E _ (by omega) _ (by omega) (by omega)) gy_NS_longer w_170 n_169 rfl (by decide) (by decide) [] rfl rfl _ rfl (Nat.le_of_ble_eq_true rfl) d_RW_makeRoom_15 (show _ + 0 ≤ 3 by omega) (show _ + 0 ≤ 19200 by omega) ?_
    obtain ⟨L, hL⟩ : ∃ L : Int, L = if m < 2 * (rC rc : Int) then 2 * (rC rc : Int) else m := ⟨_, rfl⟩
    rw [← hL]
    have hL2 : m ≤ L ∧ 2 * (rC rc : Int) ≤ L ∧ L ≤ 6000 := by rw [hL]; split <;> omega
    refine g_istore_n (pc := 18) hX 2 d_RW_makeRoom_18 rfl (by decide) ?_
    refine g_aload_n (pc := 19) hX 0 d_RW_makeRoom_19 rfl rfl ?_
    refine g_aload_n (pc := 20) hX 0 d_RW_makeRoom_20 rfl rfl ?_
    refine g_get (pc := 21) hX f_RW_9 0 rfl rfl d_RW_makeRoom_21 ?_
    refine g_iload_n (pc := 24) hX 2 d_RW_makeRoom_24 rfl rfl ?_
    refine g_callS (pc := 25) hX (c_AR_copyOfI l E _ _ _ _ (by omega) (by omega)) gy_AR_copyOfI w_176 w_175 rfl (by decide) (by decide) [1] rfl rfl _ rfl (Nat.le_of_ble_eq_true rfl) d_RW_makeRoom_25 (show _ + 1 ≤ 3 by omega) (show _ + 6400 ≤ 19200 by omega) (fun _ _ _ _ h => by obtain ⟨_, _, h2, _⟩ := h; rw [h2]; exact Nat.le_of_ble_eq_true rfl) (fun v w dc_2 ds_2 hp => ?_)
    obtain ⟨q_2, rfl, rfl, rfl, rfl⟩ := hp
    refine g_put (pc := 28) hX f_RW_9 gt_RW 0 rfl rfl rfl rfl (Nat.le_of_ble_eq_true rfl) d_RW_makeRoom_28 ?_
    refine g_aload_n (pc := 31) hX 0 d_RW_makeRoom_31 rfl rfl ?_
    refine g_aload_n (pc := 32) hX 0 d_RW_makeRoom_32 rfl rfl ?_
    refine g_get (pc := 33) hX f_RW_15 0 rfl rfl d_RW_makeRoom_33 ?_
    refine g_iload_n (pc := 36) hX 2 d_RW_makeRoom_36 rfl rfl ?_
    refine g_callS (pc := 37) hX (c_AR_copyOfL l E _ _ _ _ (by omega) (by omega)) gy_AR_copyOfL w_192 w_191 rfl (by decide) (by decide) [2] rfl rfl _ rfl (Nat.le_of_ble_eq_true rfl) d_RW_makeRoom_37 (show _ + 1 ≤ 3 by omega) (show _ + 6400 ≤ 19200 by omega) (fun _ _ _ _ h => by obtain ⟨_, _, h2, _⟩ := h; rw [h2]; exact Nat.le_of_ble_eq_true rfl) (fun v w dc_3 ds_3 hp => ?_)
    obtain ⟨q_3, rfl, rfl, rfl, rfl⟩ := hp
    refine g_put (pc := 40) hX f_RW_15 gt_RW 0 rfl rfl rfl rfl (Nat.le_of_ble_eq_true rfl) d_RW_makeRoom_40 ?_
    refine g_aload_n (pc := 43) hX 0 d_RW_makeRoom_43 rfl rfl ?_
    refine g_aload_n (pc := 44) hX 0 d_RW_makeRoom_44 rfl rfl ?_
    refine g_get (pc := 45) hX f_RW_19 0 rfl rfl d_RW_makeRoom_45 ?_
    refine g_iload_n (pc := 48) hX 2 d_RW_makeRoom_48 rfl rfl ?_
    refine g_callS (pc := 49) hX (c_AR_copyOfI l E _ _ _ _ (by omega) (by omega)) gy_AR_copyOfI w_176 w_175 rfl (by decide) (by decide) [3] rfl rfl _ rfl (Nat.le_of_ble_eq_true rfl) d_RW_makeRoom_49 (show _ + 1 ≤ 3 by omega) (show _ + 6400 ≤ 19200 by omega) (fun _ _ _ _ h => by obtain ⟨_, _, h2, _⟩ := h; rw [h2]; exact Nat.le_of_ble_eq_true rfl) (fun v w dc_4 ds_4 hp => ?_)
    obtain ⟨q_4, rfl, rfl, rfl, rfl⟩ := hp
    refine g_put (pc := 52) hX f_RW_19 gt_RW 0 rfl rfl rfl rfl (Nat.le_of_ble_eq_true rfl) d_RW_makeRoom_52 ?_
    refine g_sub (rowW E r (((q_2, q_3, q_4), rN rc, L.toNat, va_cpy (rF rc) (fun _ => 0) 0 0 (rC rc), va_cpy (rG rc) (fun _ => 0) 0 0 (rC rc), va_cpy (rH rc) (fun _ => 0) 0 0 (rC rc)) : RowT)) [0, 4, 5, 6] rfl rfl ?_
    exact g_vret (pc := 55) hX hE d_RW_makeRoom_55 (show _ ≤ 3 by omega) (show _ ≤ 19200 by omega) ⟨_, rfl, rfl, ⟨⟨by show rN rc ≤ 3000; omega, by show rN rc ≤ L.toNat; omega, by show 16 ≤ L.toNat; omega, by show L.toNat ≤ 6000; omega⟩, cpy_gin rf (fun _ => by decide), cpy_gil rg (fun _ => by decide), cpy_gin rh (fun _ => by decide)⟩, rfl, by show m ≤ (L.toNat : Int); omega, fun j hj => ⟨cpy_lo (f := rF rc) (g := fun _ => 0) hj, cpy_lo (f := rG rc) (g := fun _ => 0) hj⟩, by show rC rc ≤ L.toNat; omega, by show _ ≤ L.toNat - rC rc; omega, by show _ ≤ 6 * (L.toNat - rC rc); omega⟩

abbrev rm_RW_add : Room := { frames := 3, cells := 6000, slots := 36000, locals := 70 }
set_option maxHeartbeats 4000000 in
set_option maxRecDepth 100000 in
theorem c_RW_add (l : Launch) (E : gE) (r : Nat) (rc : RowT) (rk : rowOK rc) (k : Int) (hk : gin k) (b : Int) (hb : gil b) (hn : rN rc < 3000) : Ct l E y_RW_add b_RW_add 4 none rm_RW_add [.ref r, .int (iI k), .long (lI b)] (rowW E r rc) (fun v w dc ds => ∃ ρ, v = none ∧ w = rowW E r ρ ∧ rowOK ρ ∧ (rL ρ = rL rc ++ [(k, b)] ∧ rN ρ = rN rc + 1 ∧ rGrow rc ρ dc ds)) := by
  obtain ⟨⟨r1, r2, r3, r4⟩, rf, rg, rh⟩ := id rk
  refine g_start (by decide) (Nat.le_of_ble_eq_true rfl) (fun X hX hE hin => ?_)
  refine g_aload_n (pc := 0) hX 0 d_RW_add_0 rfl rfl ?_
  refine g_get (pc := 1) hX f_RW_22 0 rfl rfl d_RW_add_1 ?_
  refine g_sipush (pc := 4) hX 3000 d_RW_add_4 (by decide) ?_
  refine g_icmp_lt (pc := 7) (tgt := 11) hX d_RW_add_7 (by decide) (by omega) (by omega) (fun c_1 => ?_) (fun c_1 => ?_)
  · refine g_aload_n (pc := 11) hX 0 d_RW_add_11 rfl rfl ?_
    refine g_aload_n (pc := 12) hX 0 d_RW_add_12 rfl rfl ?_
    refine g_get (pc := 13) hX f_RW_22 0 rfl rfl d_RW_add_13 ?_
    refine g_iconst (pc := 16) hX d_RW_add_16 ?_
    refine g_iadd (pc := 17) hX d_RW_add_17 ?_
    refine g_callV (pc := 18) hX (c_RW_makeRoom l E r rc rk _ (by omega) (by omega)) gy_RW_makeRoom gv_RW_makeRoom w_165 rfl (by decide) (by decide) [0, 1, 2, 3] rfl rfl rfl rfl rfl _ rfl (Nat.le_of_ble_eq_true rfl) d_RW_add_18 (show _ + 3 ≤ 6000 by omega) (show _ + 19200 ≤ 36000 by omega) (fun _ _ _ _ h => by obtain ⟨_, _, h2, _⟩ := h; rw [h2]; exact Nat.le_of_ble_eq_true rfl) (fun v w dc_2 ds_2 hp => ?_)
    obtain ⟨r_2, rfl, rfl, rk_2, f_2⟩ := hp
    refine g_ws (rowW E r r_2) rfl ?_
    obtain ⟨⟨s1, s2, s3, s4⟩, sf, sg, sh⟩ := id rk_2
    obtain ⟨e1, e2, e3, e4⟩ := f_2
    refine g_aload_n (pc := 21) hX 0 d_RW_add_21 rfl rfl ?_
    refine g_get (pc := 22) hX f_RW_9 0 rfl rfl d_RW_add_22 ?_
    refine g_aload_n (pc := 25) hX 0 d_RW_add_25 rfl rfl ?_
    refine g_get (pc := 26) hX f_RW_22 0 rfl rfl d_RW_add_26 ?_
    refine g_iload_n (pc := 29) hX 1 d_RW_add_29 rfl rfl ?_
    refine g_iast (pc := 30) hX 1 rfl (by omega) d_RW_add_30 ?_
    refine g_aload_n (pc := 31) hX 0 d_RW_add_31 rfl rfl ?_
    refine g_get (pc := 32) hX f_RW_15 0 rfl rfl d_RW_add_32 ?_
    refine g_aload_n (pc := 35) hX 0 d_RW_add_35 rfl rfl ?_
    refine g_get (pc := 36) hX f_RW_22 0 rfl rfl d_RW_add_36 ?_
    refine g_lload_n (pc := 39) hX 2 d_RW_add_39 rfl rfl ?_
    refine g_last (pc := 40) hX 2 rfl (by omega) d_RW_add_40 ?_
    refine g_aload_n (pc := 41) hX 0 d_RW_add_41 rfl rfl ?_
    refine g_dup (pc := 42) hX d_RW_add_42 rfl ?_
    refine g_get (pc := 43) hX f_RW_22 0 rfl rfl d_RW_add_43 ?_
    refine g_iconst (pc := 46) hX d_RW_add_46 ?_
    refine g_iadd (pc := 47) hX d_RW_add_47 ?_
    refine g_put (pc := 48) hX f_RW_22 gt_RW 0 rfl rfl rfl rfl (Nat.le_of_ble_eq_true rfl) d_RW_add_48 ?_
    exact g_vret (pc := 51) hX hE d_RW_add_51 (show _ ≤ 6000 by obtain ⟨g1, g2, g3⟩ := e4; omega) (show _ ≤ 36000 by obtain ⟨g1, g2, g3⟩ := e4; omega) ⟨(rA r_2, rN r_2 + 1, rC r_2, uZ (rF r_2) (rN r_2) k, uZ (rG r_2) (rN r_2) b, rH r_2), rfl, rfl, rk_2.u (by omega) (uZ_gin sf hk) (uZ_gil sg hb) sh, rL_add e1 (fun j hj => e3 j (by omega)), by show rN r_2 + 1 = rN rc + 1; omega, by rw [Nat.zero_add, Nat.zero_add]; exact e4⟩
  · exact absurd c_1 (by omega)
end
section
abbrev rm_RW_clear : Room := { frames := 0, cells := 0, slots := 0, locals := 0 }
set_option maxHeartbeats 4000000 in
set_option maxRecDepth 100000 in
theorem c_RW_clear (l : Launch) (E : gE) (r : Nat) (rc : RowT) (rk : rowOK rc) : Ct l E y_RW_clear b_RW_clear 1 none rm_RW_clear [.ref r] (rowW E r rc) (fun v w dc ds => ∃ ρ, v = none ∧ w = rowW E r ρ ∧ rowOK ρ ∧ (rN ρ = 0 ∧ rC ρ = rC rc ∧ dc = 0 ∧ ds = 0)) := by
  obtain ⟨⟨r1, r2, r3, r4⟩, rf, rg, rh⟩ := id rk
  refine g_start (by decide) (Nat.le_of_ble_eq_true rfl) (fun X hX hE hin => ?_)
  refine g_aload_n (pc := 0) hX 0 d_RW_clear_0 rfl rfl ?_
  refine g_iconst (pc := 1) hX d_RW_clear_1 ?_
  refine g_put (pc := 2) hX f_RW_22 gt_RW 0 rfl rfl rfl rfl (Nat.le_of_ble_eq_true rfl) d_RW_clear_2 ?_
  exact g_vret (pc := 5) hX hE d_RW_clear_5 (by decide) (by decide) ⟨(rA rc, 0, rC rc, rF rc, rG rc, rH rc), rfl, rfl, rk.u (by omega) rf rg rh, rfl, rfl, rfl, rfl⟩

abbrev rm_RW_setBeside : Room := { frames := 1, cells := 0, slots := 0, locals := 21 }
set_option maxHeartbeats 4000000 in
set_option maxRecDepth 100000 in
theorem c_RW_setBeside (l : Launch) (E : gE) (r : Nat) (rc : RowT) (rk : rowOK rc) (k : Int) (hk : gin k) (b : Int) (hb : gil b) (h0 : 0 ≤ k ∧ k < rN rc) : Ct l E y_RW_setBeside b_RW_setBeside 4 none rm_RW_setBeside [.ref r, .int (iI k), .long (lI b)] (rowW E r rc) (fun v w dc ds => ∃ ρ, v = none ∧ w = rowW E r ρ ∧ rowOK ρ ∧ (ρ = (rA rc, rN rc, rC rc, rF rc, uZ (rG rc) k.toNat b, rH rc) ∧ dc = 0 ∧ ds = 0)) := by
  obtain ⟨⟨r1, r2, r3, r4⟩, rf, rg, rh⟩ := id rk
  refine g_start (by decide) (Nat.le_of_ble_eq_true rfl) (fun X hX hE hin => ?_)
  refine g_aload_n (pc := 0) hX 0 d_RW_setBeside_0 rfl rfl ?_
  refine g_iload_n (pc := 1) hX 1 d_RW_setBeside_1 rfl rfl ?_
  refine g_iV (pc := 2) hX (c_RW_has l E r rc rk _ (by omega)) gy_RW_has gv_RW_has w_233 rfl (by decide) (by decide) [0, 1, 2, 3] rfl rfl rfl rfl rfl _ rfl (Nat.le_of_ble_eq_true rfl) d_RW_setBeside_2 (by decide) (by decide) ?_
  refine g_beq (pc := 5) (tgt := 15) hX d_RW_setBeside_5 (by decide) (fun c_1 => ?_) (fun c_1 => ?_)
  · exact absurd h0 c_1
  · refine g_aload_n (pc := 8) hX 0 d_RW_setBeside_8 rfl rfl ?_
    refine g_get (pc := 9) hX f_RW_15 0 rfl rfl d_RW_setBeside_9 ?_
    refine g_iload_n (pc := 12) hX 1 d_RW_setBeside_12 rfl rfl ?_
    refine g_lload_n (pc := 13) hX 2 d_RW_setBeside_13 rfl rfl ?_
    refine g_last (pc := 14) hX 2 rfl (by omega) d_RW_setBeside_14 ?_
    exact g_vret (pc := 15) hX hE d_RW_setBeside_15 (by decide) (by decide) ⟨_, rfl, rfl, rk.u ⟨r1, r2⟩ rf (uZ_gil rg hb) rh, rfl, rfl, rfl⟩

abbrev rm_RW_become : Room := { frames := 3, cells := 6000, slots := 36000, locals := 70 }
set_option maxHeartbeats 4000000 in
set_option maxRecDepth 100000 in
theorem c_RW_become (l : Launch) (E : gE) (r : Nat) (rc : RowT) (rk : rowOK rc) (o : Nat) (oc : RowT) (ok : rowOK oc) : Ct l E y_RW_become b_RW_become 2 none rm_RW_become [.ref r, .ref o] (rowW E r rc ++ rowW E o oc) (fun v w dc ds => ∃ ρ, v = none ∧ w = rowW E r ρ ++ rowW E o oc ∧ rowOK ρ ∧ (rL ρ = rL oc ∧ rN ρ = rN oc ∧ rGrow rc ρ dc ds)) := by
  obtain ⟨⟨r1, r2, r3, r4⟩, rf, rg, rh⟩ := id rk
  obtain ⟨⟨o1, o2, o3, o4⟩, of_, og, oh⟩ := id ok
  refine g_start (by decide) (Nat.le_of_ble_eq_true rfl) (fun X hX hE hin => ?_)
  refine g_aload_n (pc := 0) hX 0 d_RW_become_0 rfl rfl ?_
  refine g_aload_n (pc := 1) hX 1 d_RW_become_1 rfl rfl ?_
  refine g_get (pc := 2) hX f_RW_22 4 rfl rfl d_RW_become_2 ?_
  refine g_callV (pc := 5) hX (c_RW_makeRoom l E r rc rk _ (by omega) (by omega)) gy_RW_makeRoom gv_RW_makeRoom w_165 rfl (by decide) (by decide) [0, 1, 2, 3] rfl rfl rfl rfl rfl _ rfl (Nat.le_of_ble_eq_true rfl) d_RW_become_5 (show _ + 3 ≤ 6000 by omega) (show _ + 19200 ≤ 36000 by omega) (fun _ _ _ _ h => by obtain ⟨_, _, h2, _⟩ := h; rw [h2]; exact Nat.le_of_ble_eq_true rfl) (fun v w dc_1 ds_1 hp => ?_)
  obtain ⟨r_1, rfl, rfl, rk_1, f_1⟩ := hp
  refine g_ws (rowW E r r_1 ++ rowW E o oc) rfl ?_
  obtain ⟨⟨s1, s2, s3, s4⟩, sf, sg, sh⟩ := id rk_1
  obtain ⟨e1, e2, e3, e4⟩ := f_1
  refine g_aload_n (pc := 8) hX 1 d_RW_become_8 rfl rfl ?_
  refine g_get (pc := 9) hX f_RW_9 4 rfl rfl d_RW_become_9 ?_
  refine g_iconst (pc := 12) hX d_RW_become_12 ?_
  refine g_aload_n (pc := 13) hX 0 d_RW_become_13 rfl rfl ?_
  refine g_get (pc := 14) hX f_RW_9 0 rfl rfl d_RW_become_14 ?_
  refine g_iconst (pc := 17) hX d_RW_become_17 ?_
  refine g_aload_n (pc := 18) hX 1 d_RW_become_18 rfl rfl ?_
  refine g_get (pc := 19) hX f_RW_22 4 rfl rfl d_RW_become_19 ?_
  refine g_copyI (pc := 22) hX w_446 w_190 w_189 w_10 5 1 rfl rfl (by omega) (by decide) (by decide) (Nat.le_of_ble_eq_true rfl) d_RW_become_22 ?_
  refine g_aload_n (pc := 25) hX 1 d_RW_become_25 rfl rfl ?_
  refine g_get (pc := 26) hX f_RW_15 4 rfl rfl d_RW_become_26 ?_
  refine g_iconst (pc := 29) hX d_RW_become_29 ?_
  refine g_aload_n (pc := 30) hX 0 d_RW_become_30 rfl rfl ?_
  refine g_get (pc := 31) hX f_RW_15 0 rfl rfl d_RW_become_31 ?_
  refine g_iconst (pc := 34) hX d_RW_become_34 ?_
  refine g_aload_n (pc := 35) hX 1 d_RW_become_35 rfl rfl ?_
  refine g_get (pc := 36) hX f_RW_22 4 rfl rfl d_RW_become_36 ?_
  refine g_copyL (pc := 39) hX w_446 w_190 w_189 w_10 6 2 rfl rfl (by omega) (by decide) (by decide) (Nat.le_of_ble_eq_true rfl) d_RW_become_39 ?_
  refine g_aload_n (pc := 42) hX 0 d_RW_become_42 rfl rfl ?_
  refine g_aload_n (pc := 43) hX 1 d_RW_become_43 rfl rfl ?_
  refine g_get (pc := 44) hX f_RW_22 4 rfl rfl d_RW_become_44 ?_
  refine g_put (pc := 47) hX f_RW_22 gt_RW 0 rfl rfl rfl rfl (Nat.le_of_ble_eq_true rfl) d_RW_become_47 ?_
  exact g_vret (pc := 50) hX hE d_RW_become_50 (show _ ≤ 6000 by obtain ⟨g1, g2, g3⟩ := e4; omega) (show _ ≤ 36000 by obtain ⟨g1, g2, g3⟩ := e4; omega) ⟨(rA r_1, rN oc, rC r_1, va_cpy (rF oc) (rF r_1) 0 0 (rN oc), va_cpy (rG oc) (rG r_1) 0 0 (rN oc), rH r_1), rfl, rfl, rk_1.u (by omega) (cpy_gin of_ sf) (cpy_gil og sg) sh, Lr_congr (fun j hj => ⟨cpy_lo hj, cpy_lo hj⟩), rfl, by rw [Nat.zero_add, Nat.zero_add]; exact e4⟩

abbrev rm_RW_init : Room := { frames := 1, cells := 3, slots := 48, locals := 20 }
set_option maxHeartbeats 4000000 in
set_option maxRecDepth 100000 in
theorem c_RW_init (l : Launch) (E : gE) (r : Nat) : Ct l E y_RW_init b_RW_init 1 none rm_RW_init [.ref r] ([(r, .inr (2, [.null, .null, .null, .int 0]))]) (fun v w dc ds => ∃ ρ, v = none ∧ w = rowW E r ρ ∧ rowOK ρ ∧ (rN ρ = 0 ∧ rC ρ = 16 ∧ dc = 3 ∧ ds = 48)) := by
  refine g_start (by decide) (Nat.le_of_ble_eq_true rfl) (fun X hX hE hin => ?_)
  replace hin := hin rfl
  refine g_aload_n (pc := 0) hX 0 d_RW_init_0 rfl rfl ?_
  refine g_objInit (pc := 1) hX w_38 w_17 w_18 (by decide) (by decide) (Nat.le_of_ble_eq_true rfl) d_RW_init_1 ?_
  refine g_aload_n (pc := 4) hX 0 d_RW_init_4 rfl rfl ?_
  refine g_bipush (pc := 5) hX 16 d_RW_init_5 (by decide) ?_
  refine g_newI (pc := 7) hX w_52 (by omega) (by omega) (by decide) (by decide) d_RW_init_7 (fun q7 => ?_)
  refine g_put (pc := 9) hX f_RW_9 gt_RW 0 rfl rfl rfl rfl (Nat.le_of_ble_eq_true rfl) d_RW_init_9 ?_
  refine g_aload_n (pc := 12) hX 0 d_RW_init_12 rfl rfl ?_
  refine g_bipush (pc := 13) hX 16 d_RW_init_13 (by decide) ?_
  refine g_newL (pc := 15) hX w_32 (by omega) (by omega) (by decide) (by decide) d_RW_init_15 (fun q15 => ?_)
  refine g_put (pc := 17) hX f_RW_15 gt_RW 0 rfl rfl rfl rfl (Nat.le_of_ble_eq_true rfl) d_RW_init_17 ?_
  refine g_aload_n (pc := 20) hX 0 d_RW_init_20 rfl rfl ?_
  refine g_bipush (pc := 21) hX 16 d_RW_init_21 (by decide) ?_
  refine g_newI (pc := 23) hX w_52 (by omega) (by omega) (by decide) (by decide) d_RW_init_23 (fun q23 => ?_)
  refine g_put (pc := 25) hX f_RW_19 gt_RW 0 rfl rfl rfl rfl (Nat.le_of_ble_eq_true rfl) d_RW_init_25 ?_
  refine g_aload_n (pc := 28) hX 0 d_RW_init_28 rfl rfl ?_
  refine g_iconst (pc := 29) hX d_RW_init_29 ?_
  refine g_put (pc := 30) hX f_RW_22 gt_RW 0 rfl rfl rfl rfl (Nat.le_of_ble_eq_true rfl) d_RW_init_30 ?_
  refine g_sub (rowW E r ((q7, q15, q23), 0, 16, fun _ => 0, fun _ => 0, fun _ => 0)) [0, 1, 2, 3] rfl rfl ?_
  exact g_vret (pc := 33) hX hE d_RW_init_33 (by decide) (by decide) ⟨_, rfl, rfl, rowOK_new _, rfl, rfl, rfl, rfl⟩

abbrev rm_RW_measure : Room := { frames := 4, cells := 0, slots := 0, locals := 84 }
set_option maxHeartbeats 4000000 in
set_option maxRecDepth 100000 in
theorem c_RW_measure (l : Launch) (E : gE) (r : Nat) (rc : RowT) (rk : rowOK rc) : Ct l E y_RW_measure b_RW_measure 3 (some .boolean) rm_RW_measure [.ref r] (rowW E r rc) (fun v w dc ds => ∃ ρ, v = some (.int (iI (bZ (OneT (rN rc) (rF rc))))) ∧ w = rowW E r ρ ∧ rowOK ρ ∧ (rN ρ = rN rc ∧ rC ρ = rC rc ∧ rF ρ = rF rc ∧ rG ρ = rG rc ∧ (OneT (rN rc) (rF rc) → ∃ σ, Sz (rN rc) (rF rc) σ 0 ∧ σ 0 = rN rc ∧ ∀ j, j < rN rc → rH ρ j = σ j) ∧ dc = 0 ∧ ds = 0)) := by
  obtain ⟨⟨r1, r2, r3, r4⟩, rf, rg, rh⟩ := id rk
  refine g_start (by decide) (Nat.le_of_ble_eq_true rfl) (fun X hX hE hin => ?_)
  refine g_aload_n (pc := 0) hX 0 d_RW_measure_0 rfl rfl ?_
  refine g_get (pc := 1) hX f_RW_22 0 rfl rfl d_RW_measure_1 ?_
  refine g_iconst (pc := 4) hX d_RW_measure_4 ?_
  refine g_isub (pc := 5) hX d_RW_measure_5 ?_
  refine g_istore_n (pc := 6) hX 1 d_RW_measure_6 rfl (by decide) ?_
  have loop : ∀ (m : Nat) (k : Int) (h : Nat → Int) (σ : Nat → Nat), k = (m : Int) - 1 → m ≤ rN rc → (∀ j, gin (h j)) → (∀ j, m ≤ j → j < rN rc → h j = σ j) → Sz (rN rc) (rF rc) σ m → gW X (rowW E r (rA rc, rN rc, rC rc, rF rc, rG rc, h)) 0 0 7 [(0, .ref r), (1, .int (iI k))] [] := by
    intro m
    induction m with
    | zero =>
      intro k h σ hk hm hh hs hz
      obtain rfl : k = -1 := by (first | omega | (dsimp only [rN, rC, rF, rG, rH, rA] at *; omega))
      have hok : rowOK (rA rc, rN rc, rC rc, rF rc, rG rc, h) := rk.u ⟨r1, r2⟩ rf rg hh
      refine g_iload_n (pc := 7) hX 1 d_RW_measure_7 rfl rfl ?_
      refine g_if_lt (pc := 8) (tgt := 75) hX d_RW_measure_8 (by decide) (by (first | omega | (dsimp only [rN, rC, rF, rG, rH, rA] at *; omega))) (fun c_1 => ?_) (fun c_1 => ?_)
      · refine g_aload_n (pc := 75) hX 0 d_RW_measure_75 rfl rfl ?_
        refine g_get (pc := 76) hX f_RW_22 0 rfl rfl d_RW_measure_76 ?_
        refine g_if_le (pc := 79) (tgt := 99) hX d_RW_measure_79 (by decide) (by (first | omega | (dsimp only [rN, rC, rF, rG, rH, rA] at *; omega))) (fun c_2 => ?_) (fun c_2 => ?_)
        · have hno : ¬ OneT (rN rc) (rF rc) := fun q => by have q2 := (OneT.iff hz).mp q; (first | omega | (dsimp only [rN, rC, rF, rG, rH, rA] at *; omega))
          refine g_iconst (pc := 99) hX d_RW_measure_99 ?_
          exact g_zret (pc := 100) hX hE (by first | exact Or.inl rfl | exact Or.inr rfl | exact bZ_01 _) d_RW_measure_100 (by decide) (by decide) ⟨((rA rc, rN rc, rC rc, rF rc, rG rc, h) : RowT), by rw [bZ_f hno], rfl, hok, rfl, rfl, rfl, rfl, fun q => absurd q hno, rfl, rfl⟩
        · have h0 : h (Int.toNat 0) = σ 0 := hs 0 (by (first | omega | (dsimp only [rN, rC, rF, rG, rH, rA] at *; omega))) (by (first | omega | (dsimp only [rN, rC, rF, rG, rH, rA] at *; omega)))
          have h1 := hh (Int.toNat 0)
          refine g_aload_n (pc := 82) hX 0 d_RW_measure_82 rfl rfl ?_
          refine g_get (pc := 83) hX f_RW_19 0 rfl rfl d_RW_measure_83 ?_
          refine g_iconst (pc := 86) hX d_RW_measure_86 ?_
          refine g_iald (pc := 87) hX 3 rfl (by (first | omega | (dsimp only [rN, rC, rF, rG, rH, rA] at *; omega))) d_RW_measure_87 ?_
          refine g_aload_n (pc := 88) hX 0 d_RW_measure_88 rfl rfl ?_
          refine g_get (pc := 89) hX f_RW_22 0 rfl rfl d_RW_measure_89 ?_
          refine g_icmp_ne (pc := 92) (tgt := 99) hX d_RW_measure_92 (by decide) (by (first | omega | (dsimp only [rN, rC, rF, rG, rH, rA] at *; omega))) (by (first | omega | (dsimp only [rN, rC, rF, rG, rH, rA] at *; omega))) (fun c_3 => ?_) (fun c_3 => ?_)
          · have hno : ¬ OneT (rN rc) (rF rc) := fun q => by have q2 := (OneT.iff hz).mp q; (first | omega | (dsimp only [rN, rC, rF, rG, rH, rA] at *; omega))
            refine g_iconst (pc := 99) hX d_RW_measure_99 ?_
            exact g_zret (pc := 100) hX hE (by first | exact Or.inl rfl | exact Or.inr rfl | exact bZ_01 _) d_RW_measure_100 (by decide) (by decide) ⟨((rA rc, rN rc, rC rc, rF rc, rG rc, h) : RowT), by rw [bZ_f hno], rfl, hok, rfl, rfl, rfl, rfl, fun q => absurd q hno, rfl, rfl⟩
          · have hyes2 : σ 0 = rN rc := by (first | omega | (dsimp only [rN, rC, rF, rG, rH, rA] at *; omega))
            have hyes : OneT (rN rc) (rF rc) := (OneT.iff hz).mpr ⟨by (first | omega | (dsimp only [rN, rC, rF, rG, rH, rA] at *; omega)), hyes2⟩
            refine g_iconst (pc := 95) hX d_RW_measure_95 ?_
            refine g_goto (pc := 96) (tgt := 100) hX d_RW_measure_96 (by decide) ?_
            exact g_zret (pc := 100) hX hE (by first | exact Or.inl rfl | exact Or.inr rfl | exact bZ_01 _) d_RW_measure_100 (by decide) (by decide) ⟨((rA rc, rN rc, rC rc, rF rc, rG rc, h) : RowT), by rw [bZ_t hyes], rfl, hok, rfl, rfl, rfl, rfl, fun _ => ⟨σ, hz, hyes2, fun j hj => hs j (Nat.zero_le _) hj⟩, rfl, rfl⟩
      · exact absurd c_1 (by (first | omega | (dsimp only [rN, rC, rF, rG, rH, rA] at *; omega)))
    | succ m ih =>
      intro k h σ hk hm hh hs hz
      obtain rfl : k = (m : Int) := by (first | omega | (dsimp only [rN, rC, rF, rG, rH, rA] at *; omega))
      have hok : rowOK (rA rc, rN rc, rC rc, rF rc, rG rc, h) := rk.u ⟨r1, r2⟩ rf rg hh
      refine g_iload_n (pc := 7) hX 1 d_RW_measure_7 rfl rfl ?_
      refine g_if_lt (pc := 8) (tgt := 75) hX d_RW_measure_8 (by decide) (by (first | omega | (dsimp only [rN, rC, rF, rG, rH, rA] at *; omega))) (fun c_4 => ?_) (fun c_4 => ?_)
      · exact absurd c_4 (by (first | omega | (dsimp only [rN, rC, rF, rG, rH, rA] at *; omega)))
      · refine g_aload_n (pc := 11) hX 0 d_RW_measure_11 rfl rfl ?_
        refine g_get (pc := 12) hX f_RW_19 0 rfl rfl d_RW_measure_12 ?_
        refine g_iload_n (pc := 15) hX 1 d_RW_measure_15 rfl rfl ?_
        refine g_iconst (pc := 16) hX d_RW_measure_16 ?_
        refine g_iast (pc := 17) hX 3 rfl (by (first | omega | (dsimp only [rN, rC, rF, rG, rH, rA] at *; omega))) d_RW_measure_17 ?_
        have hok1 : rowOK ((rA rc, rN rc, rC rc, rF rc, rG rc, uZ h m 1) : RowT) := rk.u ⟨r1, r2⟩ rf rg (uZ_gin hh (by decide))
        refine g_ws (rowW E r ((rA rc, rN rc, rC rc, rF rc, rG rc, uZ h m 1) : RowT)) rfl ?_
        have q1 := rf ((m : Int).toNat)
        refine g_aload_n (pc := 18) hX 0 d_RW_measure_18 rfl rfl ?_
        refine g_get (pc := 19) hX f_RW_9 0 rfl rfl d_RW_measure_19 ?_
        refine g_iload_n (pc := 22) hX 1 d_RW_measure_22 rfl rfl ?_
        refine g_iald (pc := 23) hX 1 rfl (by (first | omega | (dsimp only [rN, rC, rF, rG, rH, rA] at *; omega))) d_RW_measure_23 ?_
        refine g_iSN (pc := 24) hX (c_NS_hasParts l E _ (by (first | omega | (dsimp only [rN, rC, rF, rG, rH, rA] at *; omega)))) gy_NS_hasParts w_216 n_215 rfl (by decide) (by decide) [] rfl rfl _ rfl (Nat.le_of_ble_eq_true rfl) d_RW_measure_24 (by decide) (by decide) ?_
        refine g_beq (pc := 27) (tgt := 69) hX d_RW_measure_27 (by decide) (fun c_5 => ?_) (fun c_5 => ?_)
        · have hnp : ¬ pP (rF rc m) := fun q => by unfold pP at q; exact c_5 q
          refine g_iinc (pc := 69) hX d_RW_measure_69 (by decide) rfl ?_
          refine g_goto (pc := 72) (tgt := 7) hX d_RW_measure_72 (by decide) ?_
          refine g_lv [(0, .ref r), (1, .int (iI ((m : Int) + -1)))] ⟨rfl, rfl, trivial⟩ ?_
          exact ih _ (uZ h m 1) (uZ σ m 1) (by (first | omega | (dsimp only [rN, rC, rF, rG, rH, rA] at *; omega))) (by (first | omega | (dsimp only [rN, rC, rF, rG, rH, rA] at *; omega))) (uZ_gin hh (by decide)) (mz_s hs rfl) (hz.put (by (first | omega | (dsimp only [rN, rC, rF, rG, rH, rA] at *; omega))) (by (first | omega | (dsimp only [rN, rC, rF, rG, rH, rA] at *; omega))) (fun q => absurd q hnp) (fun _ => rfl))
        · have hpp : pP (rF rc m) := by unfold pP; exact c_5
          refine g_aload_n (pc := 30) hX 0 d_RW_measure_30 rfl rfl ?_
          refine g_iload_n (pc := 31) hX 1 d_RW_measure_31 rfl rfl ?_
          refine g_iV (pc := 32) hX (c_RW_second l E r ((rA rc, rN rc, rC rc, rF rc, rG rc, uZ h m 1) : RowT) hok1 _ (by (first | omega | (dsimp only [rN, rC, rF, rG, rH, rA] at *; omega))) (by (first | omega | (dsimp only [rN, rC, rF, rG, rH, rA] at *; omega)))) gy_RW_second gv_RW_second w_221 rfl (by decide) (by decide) [0, 1, 2, 3] rfl rfl rfl rfl rfl _ rfl (Nat.le_of_ble_eq_true rfl) d_RW_measure_32 (by decide) (by decide) ?_
          refine g_istore_n (pc := 35) hX 2 d_RW_measure_35 rfl (by decide) ?_
          refine g_aload_n (pc := 36) hX 0 d_RW_measure_36 rfl rfl ?_
          refine g_iload_n (pc := 37) hX 1 d_RW_measure_37 rfl rfl ?_
          refine g_iconst (pc := 38) hX d_RW_measure_38 ?_
          refine g_iadd (pc := 39) hX d_RW_measure_39 ?_
          refine g_iV (pc := 40) hX (c_RW_has l E r ((rA rc, rN rc, rC rc, rF rc, rG rc, uZ h m 1) : RowT) hok1 _ (by (first | omega | (dsimp only [rN, rC, rF, rG, rH, rA] at *; omega)))) gy_RW_has gv_RW_has w_233 rfl (by decide) (by decide) [0, 1, 2, 3] rfl rfl rfl rfl rfl _ rfl (Nat.le_of_ble_eq_true rfl) d_RW_measure_40 (by decide) (by decide) ?_
          refine g_beq (pc := 43) (tgt := 54) hX d_RW_measure_43 (by decide) (fun c_6 => ?_) (fun c_6 => ?_)
          · have hno : ¬ OneT (rN rc) (rF rc) := OneT.not hz (by (first | omega | (dsimp only [rN, rC, rF, rG, rH, rA] at *; omega))) hpp (by (first | omega | (dsimp only [rN, rC, rF, rG, rH, rA] at *; omega)))
            refine g_iconst (pc := 54) hX d_RW_measure_54 ?_
            exact g_zret (pc := 55) hX hE (by first | exact Or.inl rfl | exact Or.inr rfl | exact bZ_01 _) d_RW_measure_55 (by decide) (by decide) ⟨((rA rc, rN rc, rC rc, rF rc, rG rc, uZ h m 1) : RowT), by rw [bZ_f hno], rfl, hok1, rfl, rfl, rfl, rfl, fun q => absurd q hno, rfl, rfl⟩
          · have ha : rS ((rA rc, rN rc, rC rc, rF rc, rG rc, uZ h m 1) : RowT) ((m : Int) + 1) = (σ (m + 1) : Int) := by
              rw [rS_t (by (first | omega | (dsimp only [rN, rC, rF, rG, rH, rA] at *; omega)))]
              exact (uZ_n (by (first | omega | (dsimp only [rN, rC, rF, rG, rH, rA] at *; omega)))).trans (hs (m + 1) (Nat.le_refl _) (by (first | omega | (dsimp only [rN, rC, rF, rG, rH, rA] at *; omega))))
            have hz1 := (hz (m + 1) (Nat.le_refl _) (by (first | omega | (dsimp only [rN, rC, rF, rG, rH, rA] at *; omega)))).2.1
            refine g_aload_n (pc := 46) hX 0 d_RW_measure_46 rfl rfl ?_
            refine g_iload_n (pc := 47) hX 2 d_RW_measure_47 rfl rfl ?_
            refine g_iV (pc := 48) hX (c_RW_has l E r ((rA rc, rN rc, rC rc, rF rc, rG rc, uZ h m 1) : RowT) hok1 _ (by (first | omega | (dsimp only [rN, rC, rF, rG, rH, rA] at *; omega)))) gy_RW_has gv_RW_has w_233 rfl (by decide) (by decide) [0, 1, 2, 3] rfl rfl rfl rfl rfl _ rfl (Nat.le_of_ble_eq_true rfl) d_RW_measure_48 (by decide) (by decide) ?_
            refine g_bne (pc := 51) (tgt := 56) hX d_RW_measure_51 (by decide) (fun c_7 => ?_) (fun c_7 => ?_)
            · have hb : rS ((rA rc, rN rc, rC rc, rF rc, rG rc, uZ h m 1) : RowT) ((m : Int) + 1 + rS ((rA rc, rN rc, rC rc, rF rc, rG rc, uZ h m 1) : RowT) ((m : Int) + 1)) = (σ (m + 1 + σ (m + 1)) : Int) := by
                rw [rS_t (by (first | omega | (dsimp only [rN, rC, rF, rG, rH, rA] at *; omega)))]
                have e : ((m : Int) + 1 + rS ((rA rc, rN rc, rC rc, rF rc, rG rc, uZ h m 1) : RowT) ((m : Int) + 1)).toNat = m + 1 + σ (m + 1) := by (first | omega | (dsimp only [rN, rC, rF, rG, rH, rA] at *; omega))
                rw [e]
                exact (uZ_n (by (first | omega | (dsimp only [rN, rC, rF, rG, rH, rA] at *; omega)))).trans (hs _ (by (first | omega | (dsimp only [rN, rC, rF, rG, rH, rA] at *; omega))) (by (first | omega | (dsimp only [rN, rC, rF, rG, rH, rA] at *; omega))))
              have hz2 := (hz (m + 1 + σ (m + 1)) (by (first | omega | (dsimp only [rN, rC, rF, rG, rH, rA] at *; omega))) (by (first | omega | (dsimp only [rN, rC, rF, rG, rH, rA] at *; omega)))).2.1
              refine g_aload_n (pc := 56) hX 0 d_RW_measure_56 rfl rfl ?_
              refine g_get (pc := 57) hX f_RW_19 0 rfl rfl d_RW_measure_57 ?_
              refine g_iload_n (pc := 60) hX 1 d_RW_measure_60 rfl rfl ?_
              refine g_aload_n (pc := 61) hX 0 d_RW_measure_61 rfl rfl ?_
              refine g_iload_n (pc := 62) hX 2 d_RW_measure_62 rfl rfl ?_
              refine g_iV (pc := 63) hX (c_RW_end l E r ((rA rc, rN rc, rC rc, rF rc, rG rc, uZ h m 1) : RowT) hok1 _ (by (first | omega | (dsimp only [rN, rC, rF, rG, rH, rA] at *; omega)))) gy_RW_end gv_RW_end w_225 rfl (by decide) (by decide) [0, 1, 2, 3] rfl rfl rfl rfl rfl _ rfl (Nat.le_of_ble_eq_true rfl) d_RW_measure_63 (by decide) (by decide) ?_
              refine g_iload_n (pc := 66) hX 1 d_RW_measure_66 rfl rfl ?_
              refine g_isub (pc := 67) hX d_RW_measure_67 ?_
              obtain ⟨hx, ehx⟩ : ∃ hx : Int, hx = (m : Int) + 1 + rS ((rA rc, rN rc, rC rc, rF rc, rG rc, uZ h m 1) : RowT) ((m : Int) + 1) + rS ((rA rc, rN rc, rC rc, rF rc, rG rc, uZ h m 1) : RowT) ((m : Int) + 1 + rS ((rA rc, rN rc, rC rc, rF rc, rG rc, uZ h m 1) : RowT) ((m : Int) + 1)) - (m : Int) := ⟨_, rfl⟩
              rw [← ehx]
              refine g_iast (pc := 68) hX 3 rfl (by (first | omega | (dsimp only [rN, rC, rF, rG, rH, rA] at *; omega))) d_RW_measure_68 ?_
              refine g_ws (rowW E r ((rA rc, rN rc, rC rc, rF rc, rG rc, uZ (uZ h m 1) m hx) : RowT)) rfl ?_
              rw [uZ_uZ]
              refine g_iinc (pc := 69) hX d_RW_measure_69 (by decide) rfl ?_
              refine g_goto (pc := 72) (tgt := 7) hX d_RW_measure_72 (by decide) ?_
              refine g_lv [(0, .ref r), (1, .int (iI ((m : Int) + -1)))] ⟨rfl, rfl, trivial⟩ ?_
              exact ih _ (uZ h m hx) (uZ σ m (1 + σ (m + 1) + σ (m + 1 + σ (m + 1)))) (by (first | omega | (dsimp only [rN, rC, rF, rG, rH, rA] at *; omega))) (by (first | omega | (dsimp only [rN, rC, rF, rG, rH, rA] at *; omega))) (uZ_gin hh (by (first | omega | (dsimp only [rN, rC, rF, rG, rH, rA] at *; omega)))) (mz_s hs (by (first | omega | (dsimp only [rN, rC, rF, rG, rH, rA] at *; omega)))) (hz.put (by (first | omega | (dsimp only [rN, rC, rF, rG, rH, rA] at *; omega))) (by (first | omega | (dsimp only [rN, rC, rF, rG, rH, rA] at *; omega))) (fun _ => ⟨by (first | omega | (dsimp only [rN, rC, rF, rG, rH, rA] at *; omega)), by (first | omega | (dsimp only [rN, rC, rF, rG, rH, rA] at *; omega)), rfl⟩) (fun q => absurd hpp q))
            · have hno : ¬ OneT (rN rc) (rF rc) := OneT.not hz (by (first | omega | (dsimp only [rN, rC, rF, rG, rH, rA] at *; omega))) hpp (by (first | omega | (dsimp only [rN, rC, rF, rG, rH, rA] at *; omega)))
              refine g_iconst (pc := 54) hX d_RW_measure_54 ?_
              exact g_zret (pc := 55) hX hE (by first | exact Or.inl rfl | exact Or.inr rfl | exact bZ_01 _) d_RW_measure_55 (by decide) (by decide) ⟨((rA rc, rN rc, rC rc, rF rc, rG rc, uZ h m 1) : RowT), by rw [bZ_f hno], rfl, hok1, rfl, rfl, rfl, rfl, fun q => absurd q hno, rfl, rfl⟩
  refine g_lv [(0, .ref r), (1, .int (iI ((rN rc : Int) - 1)))] ⟨rfl, rfl, trivial⟩ ?_
  exact loop (rN rc) _ (rH rc) (fun _ => 0) rfl (Nat.le_refl _) rh (fun j h1 h2 => by (first | omega | (dsimp only [rN, rC, rF, rG, rH, rA] at *; omega))) (fun j h1 h2 => by (first | omega | (dsimp only [rN, rC, rF, rG, rH, rA] at *; omega)))
  
end
section
abbrev rm_GL_count : Room := { frames := 0, cells := 0, slots := 0, locals := 0 }
set_option maxHeartbeats 4000000 in
set_option maxRecDepth 100000 in
theorem c_GL_count (l : Launch) (E : gE) (g : Nat) (gc : GlT) (gk : glOK gc) : CtI l E y_GL_count b_GL_count 1 (some .int) rm_GL_count [.ref g] (glW E g gc) (uN gc) := by
  obtain ⟨g1, g2⟩ := id gk
  refine g_start (by decide) (Nat.le_of_ble_eq_true rfl) (fun X hX hE hin => ?_)
  refine g_aload_n (pc := 0) hX 0 d_GL_count_0 rfl rfl ?_
  refine g_get (pc := 1) hX f_GL_15 0 rfl rfl d_GL_count_1 ?_
  exact g_iret (pc := 4) hX hE d_GL_count_4 (by decide) (by decide) ⟨rfl, rfl, rfl, rfl⟩

abbrev rm_GL_find : Room := { frames := 0, cells := 0, slots := 0, locals := 0 }
set_option maxHeartbeats 4000000 in
set_option maxRecDepth 100000 in
theorem c_GL_find (l : Launch) (E : gE) (g : Nat) (gc : GlT) (gk : glOK gc) (x : Int) (hx : gil x) : CtI l E y_GL_find b_GL_find 4 (some .int) rm_GL_find [.ref g, .long (lI x)] (glW E g gc) (fnd (uN gc) (uF gc) x) := by
  obtain ⟨g1, g2⟩ := id gk
  refine g_start (by decide) (Nat.le_of_ble_eq_true rfl) (fun X hX hE hin => ?_)
  refine g_iconst (pc := 0) hX d_GL_find_0 ?_
  refine g_istore_n (pc := 1) hX 3 d_GL_find_1 rfl (by decide) ?_
  have loop : ∀ (d : Nat) (j : Nat), uN gc < j + d → j ≤ uN gc → (∀ i, i < j → uF gc i ≠ x) → gW X (glW E g gc) 0 0 2 [(0, .ref g), (1, .long (lI x)), (3, .int (iI (j : Int)))] [] := by
    intro d
    induction d with
    | zero => intro j hd hj hi; omega
    | succ d ih =>
      intro j hd hj hi
      refine g_iload_n (pc := 2) hX 3 d_GL_find_2 rfl rfl ?_
      refine g_aload_n (pc := 3) hX 0 d_GL_find_3 rfl rfl ?_
      refine g_get (pc := 4) hX f_GL_15 0 rfl rfl d_GL_find_4 ?_
      refine g_icmp_ge (pc := 7) (tgt := 29) hX d_GL_find_7 (by decide) (by omega) (by omega) (fun c_1 => ?_) (fun c_1 => ?_)
      · refine g_iconst (pc := 29) hX d_GL_find_29 ?_
        exact g_iret (pc := 30) hX hE d_GL_find_30 (by decide) (by decide) ⟨by rw [fnd_none (fun i q => hi i (by omega))], rfl, rfl, rfl⟩
      · refine g_aload_n (pc := 10) hX 0 d_GL_find_10 rfl rfl ?_
        refine g_get (pc := 11) hX f_GL_9 0 rfl rfl d_GL_find_11 ?_
        refine g_iload_n (pc := 14) hX 3 d_GL_find_14 rfl rfl ?_
        refine g_lald (pc := 15) hX 1 rfl (by omega) d_GL_find_15 ?_
        refine g_lload_n (pc := 16) hX 1 d_GL_find_16 rfl rfl ?_
        have q1 := g2 ((j : Int).toNat)
        refine g_lcmp_ne (pc := 17) (tgt := 23) hX d_GL_find_17 d_GL_find_18 (by decide) (by omega) (by omega) (fun c_2 => ?_) (fun c_2 => ?_)
        · refine g_iinc (pc := 23) hX d_GL_find_23 (by decide) rfl ?_
          refine g_goto (pc := 26) (tgt := 2) hX d_GL_find_26 (by decide) ?_
          refine g_lv [(0, .ref g), (1, .long (lI x)), (3, .int (iI ((j + 1 : Nat) : Int)))] ⟨rfl, rfl, rfl, trivial⟩ ?_
          exact ih (j + 1) (by omega) (by omega) (fun i q => by
            by_cases e : i = j
            · subst e; exact c_2
            · exact hi i (by omega))
        · refine g_iload_n (pc := 21) hX 3 d_GL_find_21 rfl rfl ?_
          exact g_iret (pc := 22) hX hE d_GL_find_22 (by decide) (by decide) ⟨by rw [fnd_at hi (by omega) (show uF gc j = x from Decidable.not_not.mp c_2)], rfl, rfl, rfl⟩
  refine g_lv [(0, .ref g), (1, .long (lI x)), (3, .int (iI ((0 : Nat) : Int)))] ⟨rfl, rfl, rfl, trivial⟩ ?_
  exact loop (uN gc + 1) 0 (by omega) (by omega) (fun i q => by omega)
  

abbrev rm_GL_add : Room := { frames := 1, cells := 0, slots := 0, locals := 23 }
set_option maxHeartbeats 4000000 in
set_option maxRecDepth 100000 in
theorem c_GL_add (l : Launch) (E : gE) (g : Nat) (gc : GlT) (gk : glOK gc) (x : Int) (hx : gil x) : Ct l E y_GL_add b_GL_add 3 (some .int) rm_GL_add [.ref g, .long (lI x)] (glW E g gc) (fun v w dc ds => ∃ γ, v = some (.int (iI (if uN gc < 200 ∧ fnd (uN gc) (uF gc) x = -1 then (uN gc : Int) else -1))) ∧ w = glW E g γ ∧ glOK γ ∧ (γ = (if uN gc < 200 ∧ fnd (uN gc) (uF gc) x = -1 then (gc.1, uN gc + 1, uZ (uF gc) (uN gc) x) else gc) ∧ dc = 0 ∧ ds = 0)) := by
  obtain ⟨g1, g2⟩ := id gk
  have hfi := fnd_in (uN gc) (uF gc) x
  refine g_start (by decide) (Nat.le_of_ble_eq_true rfl) (fun X hX hE hin => ?_)
  refine g_aload_n (pc := 0) hX 0 d_GL_add_0 rfl rfl ?_
  refine g_get (pc := 1) hX f_GL_15 0 rfl rfl d_GL_add_1 ?_
  refine g_sipush (pc := 4) hX 200 d_GL_add_4 (by decide) ?_
  refine g_icmp_ge (pc := 7) (tgt := 19) hX d_GL_add_7 (by decide) (by omega) (by omega) (fun c_1 => ?_) (fun c_1 => ?_)
  · refine g_iconst (pc := 19) hX d_GL_add_19 ?_
    exact g_iret (pc := 20) hX hE d_GL_add_20 (by decide) (by decide) ⟨gc, by rw [if_neg (by omega)], rfl, gk, by rw [if_neg (by omega)], rfl, rfl⟩
  · refine g_aload_n (pc := 10) hX 0 d_GL_add_10 rfl rfl ?_
    refine g_lload_n (pc := 11) hX 1 d_GL_add_11 rfl rfl ?_
    refine g_iV (pc := 12) hX (c_GL_find l E g gc gk _ (by omega)) gy_GL_find gv_GL_find w_145 rfl (by decide) (by decide) [0, 1] rfl rfl rfl rfl rfl _ rfl (Nat.le_of_ble_eq_true rfl) d_GL_add_12 (by decide) (by decide) ?_
    refine g_iconst (pc := 15) hX d_GL_add_15 ?_
    refine g_icmp_eq (pc := 16) (tgt := 21) hX d_GL_add_16 (by decide) (by omega) (by omega) (fun c_2 => ?_) (fun c_2 => ?_)
    · refine g_aload_n (pc := 21) hX 0 d_GL_add_21 rfl rfl ?_
      refine g_get (pc := 22) hX f_GL_9 0 rfl rfl d_GL_add_22 ?_
      refine g_aload_n (pc := 25) hX 0 d_GL_add_25 rfl rfl ?_
      refine g_get (pc := 26) hX f_GL_15 0 rfl rfl d_GL_add_26 ?_
      refine g_lload_n (pc := 29) hX 1 d_GL_add_29 rfl rfl ?_
      refine g_last (pc := 30) hX 1 rfl (by omega) d_GL_add_30 ?_
      refine g_aload_n (pc := 31) hX 0 d_GL_add_31 rfl rfl ?_
      refine g_dup (pc := 32) hX d_GL_add_32 rfl ?_
      refine g_get (pc := 33) hX f_GL_15 0 rfl rfl d_GL_add_33 ?_
      refine g_iconst (pc := 36) hX d_GL_add_36 ?_
      refine g_iadd (pc := 37) hX d_GL_add_37 ?_
      refine g_put (pc := 38) hX f_GL_15 gt_GL 0 rfl rfl rfl rfl (Nat.le_of_ble_eq_true rfl) d_GL_add_38 ?_
      refine g_aload_n (pc := 41) hX 0 d_GL_add_41 rfl rfl ?_
      refine g_get (pc := 42) hX f_GL_15 0 rfl rfl d_GL_add_42 ?_
      refine g_iconst (pc := 45) hX d_GL_add_45 ?_
      refine g_isub (pc := 46) hX d_GL_add_46 ?_
      exact g_iret (pc := 47) hX hE d_GL_add_47 (by decide) (by decide) ⟨(gc.1, uN gc + 1, uZ (uF gc) (uN gc) x), by rw [if_pos (by omega)]; congr 3; show (uN gc : Int) + 1 - 1 = _; omega, rfl, ⟨by show uN gc + 1 ≤ 200; omega, uZ_gil g2 hx⟩, by rw [if_pos (by omega)], rfl, rfl⟩
    · refine g_iconst (pc := 19) hX d_GL_add_19 ?_
      exact g_iret (pc := 20) hX hE d_GL_add_20 (by decide) (by decide) ⟨gc, by rw [if_neg (by omega)], rfl, gk, by rw [if_neg (by omega)], rfl, rfl⟩

abbrev rm_GL_name : Room := { frames := 0, cells := 0, slots := 0, locals := 0 }
set_option maxHeartbeats 4000000 in
set_option maxRecDepth 100000 in
theorem c_GL_name (l : Launch) (E : gE) (g : Nat) (gc : GlT) (gk : glOK gc) (x : Int) (hx : gil x) : CtL l E y_GL_name b_GL_name 3 (some .long) rm_GL_name [.ref g, .long (lI x)] (glW E g gc) (if 0 ≤ x ∧ x < uN gc then uF gc x.toNat else 0) := by
  obtain ⟨g1, g2⟩ := id gk
  refine g_start (by decide) (Nat.le_of_ble_eq_true rfl) (fun X hX hE hin => ?_)
  refine g_lload_n (pc := 0) hX 1 d_GL_name_0 rfl rfl ?_
  refine g_lconst (pc := 1) hX 0 d_GL_name_1 (by decide) ?_
  refine g_lcmp_lt (pc := 2) (tgt := 26) hX d_GL_name_2 d_GL_name_3 (by decide) (by omega) (by omega) (fun c_1 => ?_) (fun c_1 => ?_)
  · refine g_lconst (pc := 26) hX 0 d_GL_name_26 (by decide) ?_
    exact g_lret (pc := 27) hX hE d_GL_name_27 (by decide) (by decide) ⟨by rw [if_neg (by omega)], rfl, rfl, rfl⟩
  · refine g_lload_n (pc := 6) hX 1 d_GL_name_6 rfl rfl ?_
    refine g_aload_n (pc := 7) hX 0 d_GL_name_7 rfl rfl ?_
    refine g_get (pc := 8) hX f_GL_15 0 rfl rfl d_GL_name_8 ?_
    refine g_i2l (pc := 11) hX d_GL_name_11 (by omega) ?_
    refine g_lcmp_ge (pc := 12) (tgt := 26) hX d_GL_name_12 d_GL_name_13 (by decide) (by omega) (by omega) (fun c_2 => ?_) (fun c_2 => ?_)
    · refine g_lconst (pc := 26) hX 0 d_GL_name_26 (by decide) ?_
      exact g_lret (pc := 27) hX hE d_GL_name_27 (by decide) (by decide) ⟨by rw [if_neg (by omega)], rfl, rfl, rfl⟩
    · refine g_aload_n (pc := 16) hX 0 d_GL_name_16 rfl rfl ?_
      refine g_get (pc := 17) hX f_GL_9 0 rfl rfl d_GL_name_17 ?_
      refine g_lload_n (pc := 20) hX 1 d_GL_name_20 rfl rfl ?_
      refine g_l2i (pc := 21) hX d_GL_name_21 ?_
      refine g_lald (pc := 22) hX 1 rfl (by omega) d_GL_name_22 ?_
      refine g_goto (pc := 23) (tgt := 27) hX d_GL_name_23 (by decide) ?_
      exact g_lret (pc := 27) hX hE d_GL_name_27 (by decide) (by decide) ⟨by rw [if_pos (by omega)], rfl, rfl, rfl⟩

abbrev rm_GL_init : Room := { frames := 1, cells := 1, slots := 200, locals := 20 }
set_option maxHeartbeats 4000000 in
set_option maxRecDepth 100000 in
theorem c_GL_init (l : Launch) (E : gE) (g : Nat) : Ct l E y_GL_init b_GL_init 1 none rm_GL_init [.ref g] ([(g, .inr (0, [.null, .int 0]))]) (fun v w dc ds => ∃ γ, v = none ∧ w = glW E g γ ∧ glOK γ ∧ (uN γ = 0 ∧ dc = 1 ∧ ds = 200)) := by
  refine g_start (by decide) (Nat.le_of_ble_eq_true rfl) (fun X hX hE hin => ?_)
  replace hin := hin rfl
  refine g_aload_n (pc := 0) hX 0 d_GL_init_0 rfl rfl ?_
  refine g_objInit (pc := 1) hX w_24 w_17 w_18 (by decide) (by decide) (Nat.le_of_ble_eq_true rfl) d_GL_init_1 ?_
  refine g_aload_n (pc := 4) hX 0 d_GL_init_4 rfl rfl ?_
  refine g_sipush (pc := 5) hX 200 d_GL_init_5 (by decide) ?_
  refine g_newL (pc := 8) hX w_32 (by omega) (by omega) (by decide) (by decide) d_GL_init_8 (fun q8 => ?_)
  refine g_putF (pc := 10) hX hin f_GL_9 gt_GL 0 rfl rfl rfl rfl rfl (Nat.le_of_ble_eq_true rfl) d_GL_init_10 ?_
  refine g_aload_n (pc := 13) hX 0 d_GL_init_13 rfl rfl ?_
  refine g_iconst (pc := 14) hX d_GL_init_14 ?_
  refine g_put (pc := 15) hX f_GL_15 gt_GL 0 rfl rfl rfl rfl (Nat.le_of_ble_eq_true rfl) d_GL_init_15 ?_
  refine g_sub (glW E g (q8, 0, fun _ => 0)) [0, 1] rfl rfl ?_
  exact g_vret (pc := 18) hX hE d_GL_init_18 (by decide) (by decide) ⟨_, rfl, rfl, ⟨by show (0 : Nat) ≤ 200; decide, fun _ => ⟨by show (-9223372036854775808 : Int) ≤ 0; decide, by show (0 : Int) < 9223372036854775808; decide⟩⟩, rfl, rfl, rfl⟩
end
section
abbrev rm_SC_depth : Room := { frames := 0, cells := 0, slots := 0, locals := 0 }
set_option maxHeartbeats 4000000 in
set_option maxRecDepth 100000 in
theorem c_SC_depth (l : Launch) (E : gE) (s : Nat) (sc : ScT) (sk : scOK sc) (k : Int) (hk : gin k) : CtI l E y_SC_depth b_SC_depth 2 (some .int) rm_SC_depth [.ref s, .int (iI k)] (scW E s sc) (zD sc k) := by
  obtain ⟨⟨s1, s2, s3, s4⟩, si, sd, so⟩ := id sk
  refine g_start (by decide) (Nat.le_of_ble_eq_true rfl) (fun X hX hE hin => ?_)
  refine g_iload_n (pc := 0) hX 1 d_SC_depth_0 rfl rfl ?_
  refine g_if_lt (pc := 1) (tgt := 21) hX d_SC_depth_1 (by decide) (by omega) (fun c_1 => ?_) (fun c_1 => ?_)
  · refine g_iconst (pc := 21) hX d_SC_depth_21 ?_
    exact g_iret (pc := 22) hX hE d_SC_depth_22 (by decide) (by decide) ⟨by rw [zD_f (by omega)], rfl, rfl, rfl⟩
  · refine g_iload_n (pc := 4) hX 1 d_SC_depth_4 rfl rfl ?_
    refine g_aload_n (pc := 5) hX 0 d_SC_depth_5 rfl rfl ?_
    refine g_get (pc := 6) hX f_SC_9 0 rfl rfl d_SC_depth_6 ?_
    refine g_icmp_ge (pc := 9) (tgt := 21) hX d_SC_depth_9 (by decide) (by omega) (by omega) (fun c_2 => ?_) (fun c_2 => ?_)
    · refine g_iconst (pc := 21) hX d_SC_depth_21 ?_
      exact g_iret (pc := 22) hX hE d_SC_depth_22 (by decide) (by decide) ⟨by rw [zD_f (by omega)], rfl, rfl, rfl⟩
    · refine g_aload_n (pc := 12) hX 0 d_SC_depth_12 rfl rfl ?_
      refine g_get (pc := 13) hX f_SC_19 0 rfl rfl d_SC_depth_13 ?_
      refine g_iload_n (pc := 16) hX 1 d_SC_depth_16 rfl rfl ?_
      refine g_iald (pc := 17) hX 2 rfl (by omega) d_SC_depth_17 ?_
      refine g_goto (pc := 18) (tgt := 22) hX d_SC_depth_18 (by decide) ?_
      exact g_iret (pc := 22) hX hE d_SC_depth_22 (by decide) (by decide) ⟨by rw [zD_t (by omega)], rfl, rfl, rfl⟩

abbrev rm_SC_innermost : Room := { frames := 0, cells := 0, slots := 0, locals := 0 }
set_option maxHeartbeats 4000000 in
set_option maxRecDepth 100000 in
theorem c_SC_innermost (l : Launch) (E : gE) (s : Nat) (sc : ScT) (sk : scOK sc) (k : Int) (hk : gin k) : CtI l E y_SC_innermost b_SC_innermost 2 (some .int) rm_SC_innermost [.ref s, .int (iI k)] (scW E s sc) (zI sc k) := by
  obtain ⟨⟨s1, s2, s3, s4⟩, si, sd, so⟩ := id sk
  refine g_start (by decide) (Nat.le_of_ble_eq_true rfl) (fun X hX hE hin => ?_)
  refine g_iload_n (pc := 0) hX 1 d_SC_innermost_0 rfl rfl ?_
  refine g_if_lt (pc := 1) (tgt := 21) hX d_SC_innermost_1 (by decide) (by omega) (fun c_1 => ?_) (fun c_1 => ?_)
  · refine g_iconst (pc := 21) hX d_SC_innermost_21 ?_
    exact g_iret (pc := 22) hX hE d_SC_innermost_22 (by decide) (by decide) ⟨by rw [zI_f (by omega)], rfl, rfl, rfl⟩
  · refine g_iload_n (pc := 4) hX 1 d_SC_innermost_4 rfl rfl ?_
    refine g_aload_n (pc := 5) hX 0 d_SC_innermost_5 rfl rfl ?_
    refine g_get (pc := 6) hX f_SC_9 0 rfl rfl d_SC_innermost_6 ?_
    refine g_icmp_ge (pc := 9) (tgt := 21) hX d_SC_innermost_9 (by decide) (by omega) (by omega) (fun c_2 => ?_) (fun c_2 => ?_)
    · refine g_iconst (pc := 21) hX d_SC_innermost_21 ?_
      exact g_iret (pc := 22) hX hE d_SC_innermost_22 (by decide) (by decide) ⟨by rw [zI_f (by omega)], rfl, rfl, rfl⟩
    · refine g_aload_n (pc := 12) hX 0 d_SC_innermost_12 rfl rfl ?_
      refine g_get (pc := 13) hX f_SC_15 0 rfl rfl d_SC_innermost_13 ?_
      refine g_iload_n (pc := 16) hX 1 d_SC_innermost_16 rfl rfl ?_
      refine g_iald (pc := 17) hX 1 rfl (by omega) d_SC_innermost_17 ?_
      refine g_goto (pc := 18) (tgt := 22) hX d_SC_innermost_18 (by decide) ?_
      exact g_iret (pc := 22) hX hE d_SC_innermost_22 (by decide) (by decide) ⟨by rw [zI_t (by omega)], rfl, rfl, rfl⟩

abbrev rm_SC_open : Room := { frames := 0, cells := 0, slots := 0, locals := 0 }
set_option maxHeartbeats 4000000 in
set_option maxRecDepth 100000 in
theorem c_SC_open (l : Launch) (E : gE) (s : Nat) (sc : ScT) (sk : scOK sc) (k : Int) (hk : gin k) : CtI l E y_SC_open b_SC_open 2 (some .int) rm_SC_open [.ref s, .int (iI k)] (scW E s sc) (zO sc k) := by
  obtain ⟨⟨s1, s2, s3, s4⟩, si, sd, so⟩ := id sk
  refine g_start (by decide) (Nat.le_of_ble_eq_true rfl) (fun X hX hE hin => ?_)
  refine g_iload_n (pc := 0) hX 1 d_SC_open_0 rfl rfl ?_
  refine g_if_lt (pc := 1) (tgt := 22) hX d_SC_open_1 (by decide) (by omega) (fun c_1 => ?_) (fun c_1 => ?_)
  · refine g_iconst (pc := 22) hX d_SC_open_22 ?_
    exact g_iret (pc := 23) hX hE d_SC_open_23 (by decide) (by decide) ⟨by rw [zO_f (by omega)], rfl, rfl, rfl⟩
  · refine g_iload_n (pc := 4) hX 1 d_SC_open_4 rfl rfl ?_
    refine g_aload_n (pc := 5) hX 0 d_SC_open_5 rfl rfl ?_
    refine g_get (pc := 6) hX f_SC_22 0 rfl rfl d_SC_open_6 ?_
    refine g_alenI (pc := 9) hX 3 rfl d_SC_open_9 ?_
    refine g_icmp_ge (pc := 10) (tgt := 22) hX d_SC_open_10 (by decide) (by omega) (by omega) (fun c_2 => ?_) (fun c_2 => ?_)
    · refine g_iconst (pc := 22) hX d_SC_open_22 ?_
      exact g_iret (pc := 23) hX hE d_SC_open_23 (by decide) (by decide) ⟨by rw [zO_f (by omega)], rfl, rfl, rfl⟩
    · refine g_aload_n (pc := 13) hX 0 d_SC_open_13 rfl rfl ?_
      refine g_get (pc := 14) hX f_SC_22 0 rfl rfl d_SC_open_14 ?_
      refine g_iload_n (pc := 17) hX 1 d_SC_open_17 rfl rfl ?_
      refine g_iald (pc := 18) hX 3 rfl (by omega) d_SC_open_18 ?_
      refine g_goto (pc := 19) (tgt := 23) hX d_SC_open_19 (by decide) ?_
      exact g_iret (pc := 23) hX hE d_SC_open_23 (by decide) (by decide) ⟨by rw [zO_t (by omega)], rfl, rfl, rfl⟩

abbrev rm_SC_binderOf : Room := { frames := 1, cells := 0, slots := 0, locals := 21 }
set_option maxHeartbeats 4000000 in
set_option maxRecDepth 100000 in
theorem c_SC_binderOf (l : Launch) (E : gE) (s : Nat) (sc : ScT) (sk : scOK sc) (k : Int) (hk : gin k) (b : Int) (hb : gil b) (h0 : -1 ≤ b ∧ b ≤ 4000) : CtI l E y_SC_binderOf b_SC_binderOf 6 (some .int) rm_SC_binderOf [.ref s, .int (iI k), .long (lI b)] (scW E s sc) (zO sc (zD sc k - 1 - b)) := by
  obtain ⟨⟨s1, s2, s3, s4⟩, si, sd, so⟩ := id sk
  have zd := zD_in sk k
  refine g_start (by decide) (Nat.le_of_ble_eq_true rfl) (fun X hX hE hin => ?_)
  refine g_aload_n (pc := 0) hX 0 d_SC_binderOf_0 rfl rfl ?_
  refine g_iload_n (pc := 1) hX 1 d_SC_binderOf_1 rfl rfl ?_
  refine g_iV (pc := 2) hX (c_SC_depth l E s sc sk _ (by omega)) gy_SC_depth gv_SC_depth w_251 rfl (by decide) (by decide) [0, 1, 2, 3] rfl rfl rfl rfl rfl _ rfl (Nat.le_of_ble_eq_true rfl) d_SC_binderOf_2 (by decide) (by decide) ?_
  refine g_iconst (pc := 5) hX d_SC_binderOf_5 ?_
  refine g_isub (pc := 6) hX d_SC_binderOf_6 ?_
  refine g_i2l (pc := 7) hX d_SC_binderOf_7 (by omega) ?_
  refine g_lload_n (pc := 8) hX 2 d_SC_binderOf_8 rfl rfl ?_
  refine g_lsub (pc := 9) hX d_SC_binderOf_9 ?_
  refine g_lstore (pc := 10) hX d_SC_binderOf_10 (by decide) ?_
  refine g_lload (pc := 12) hX d_SC_binderOf_12 rfl ?_
  refine g_lconst (pc := 14) hX 0 d_SC_binderOf_14 (by decide) ?_
  refine g_lcmp_lt (pc := 15) (tgt := 42) hX d_SC_binderOf_15 d_SC_binderOf_16 (by decide) (by omega) (by omega) (fun c_1 => ?_) (fun c_1 => ?_)
  · refine g_iconst (pc := 42) hX d_SC_binderOf_42 ?_
    exact g_iret (pc := 43) hX hE d_SC_binderOf_43 (by decide) (by decide) ⟨by rw [zO_f (by omega)], rfl, rfl, rfl⟩
  · refine g_lload (pc := 19) hX d_SC_binderOf_19 rfl ?_
    refine g_aload_n (pc := 21) hX 0 d_SC_binderOf_21 rfl rfl ?_
    refine g_get (pc := 22) hX f_SC_22 0 rfl rfl d_SC_binderOf_22 ?_
    refine g_alenI (pc := 25) hX 3 rfl d_SC_binderOf_25 ?_
    refine g_i2l (pc := 26) hX d_SC_binderOf_26 (by omega) ?_
    refine g_lcmp_ge (pc := 27) (tgt := 42) hX d_SC_binderOf_27 d_SC_binderOf_28 (by decide) (by omega) (by omega) (fun c_2 => ?_) (fun c_2 => ?_)
    · refine g_iconst (pc := 42) hX d_SC_binderOf_42 ?_
      exact g_iret (pc := 43) hX hE d_SC_binderOf_43 (by decide) (by decide) ⟨by rw [zO_f (by omega)], rfl, rfl, rfl⟩
    · refine g_aload_n (pc := 31) hX 0 d_SC_binderOf_31 rfl rfl ?_
      refine g_get (pc := 32) hX f_SC_22 0 rfl rfl d_SC_binderOf_32 ?_
      refine g_lload (pc := 35) hX d_SC_binderOf_35 rfl ?_
      refine g_l2i (pc := 37) hX d_SC_binderOf_37 ?_
      refine g_iald (pc := 38) hX 3 rfl (by omega) d_SC_binderOf_38 ?_
      refine g_goto (pc := 39) (tgt := 43) hX d_SC_binderOf_39 (by decide) ?_
      exact g_iret (pc := 43) hX hE d_SC_binderOf_43 (by decide) (by decide) ⟨by rw [zO_t (by omega)], rfl, rfl, rfl⟩

abbrev rm_SC_enter : Room := { frames := 1, cells := 0, slots := 0, locals := 21 }
set_option maxHeartbeats 4000000 in
set_option maxRecDepth 100000 in
theorem c_SC_enter (l : Launch) (E : gE) (s : Nat) (sc : ScT) (sk : scOK sc) (k : Int) (hk : gin k) : Ct l E y_SC_enter b_SC_enter 3 none rm_SC_enter [.ref s, .int (iI k)] (scW E s sc) (fun v w dc ds => ∃ ς, v = none ∧ w = scW E s ς ∧ scOK ς ∧ (ς = (sA sc, sN sc, sC sc, sI sc, sD sc, enO sc k) ∧ dc = 0 ∧ ds = 0)) := by
  obtain ⟨⟨s1, s2, s3, s4⟩, si, sd, so⟩ := id sk
  have zd := zD_in sk k
  have zi := zI_in sk k
  refine g_start (by decide) (Nat.le_of_ble_eq_true rfl) (fun X hX hE hin => ?_)
  refine g_aload_n (pc := 0) hX 0 d_SC_enter_0 rfl rfl ?_
  refine g_iload_n (pc := 1) hX 1 d_SC_enter_1 rfl rfl ?_
  refine g_iV (pc := 2) hX (c_SC_depth l E s sc sk _ (by omega)) gy_SC_depth gv_SC_depth w_251 rfl (by decide) (by decide) [0, 1, 2, 3] rfl rfl rfl rfl rfl _ rfl (Nat.le_of_ble_eq_true rfl) d_SC_enter_2 (by decide) (by decide) ?_
  refine g_iconst (pc := 5) hX d_SC_enter_5 ?_
  refine g_isub (pc := 6) hX d_SC_enter_6 ?_
  refine g_istore_n (pc := 7) hX 2 d_SC_enter_7 rfl (by decide) ?_
  refine g_iload_n (pc := 8) hX 2 d_SC_enter_8 rfl rfl ?_
  refine g_if_lt (pc := 9) (tgt := 32) hX d_SC_enter_9 (by decide) (by omega) (fun c_1 => ?_) (fun c_1 => ?_)
  · have eo : enO sc k = sO sc := if_neg (by omega)
    exact g_vret (pc := 32) hX hE d_SC_enter_32 (by decide) (by decide) ⟨(sA sc, sN sc, sC sc, sI sc, sD sc, enO sc k), rfl, by rw [eo] <;> rfl, sk.u ⟨s1, s2⟩ si sd (by rw [eo]; first | exact so | exact uZ_gin so zi), rfl, rfl, rfl⟩
  · refine g_iload_n (pc := 12) hX 2 d_SC_enter_12 rfl rfl ?_
    refine g_aload_n (pc := 13) hX 0 d_SC_enter_13 rfl rfl ?_
    refine g_get (pc := 14) hX f_SC_22 0 rfl rfl d_SC_enter_14 ?_
    refine g_alenI (pc := 17) hX 3 rfl d_SC_enter_17 ?_
    refine g_icmp_ge (pc := 18) (tgt := 32) hX d_SC_enter_18 (by decide) (by omega) (by omega) (fun c_2 => ?_) (fun c_2 => ?_)
    · have eo : enO sc k = sO sc := if_neg (by omega)
      exact g_vret (pc := 32) hX hE d_SC_enter_32 (by decide) (by decide) ⟨(sA sc, sN sc, sC sc, sI sc, sD sc, enO sc k), rfl, by rw [eo] <;> rfl, sk.u ⟨s1, s2⟩ si sd (by rw [eo]; first | exact so | exact uZ_gin so zi), rfl, rfl, rfl⟩
    · refine g_aload_n (pc := 21) hX 0 d_SC_enter_21 rfl rfl ?_
      refine g_get (pc := 22) hX f_SC_22 0 rfl rfl d_SC_enter_22 ?_
      refine g_iload_n (pc := 25) hX 2 d_SC_enter_25 rfl rfl ?_
      refine g_aload_n (pc := 26) hX 0 d_SC_enter_26 rfl rfl ?_
      refine g_iload_n (pc := 27) hX 1 d_SC_enter_27 rfl rfl ?_
      refine g_iV (pc := 28) hX (c_SC_innermost l E s sc sk _ (by omega)) gy_SC_innermost gv_SC_innermost w_266 rfl (by decide) (by decide) [0, 1, 2, 3] rfl rfl rfl rfl rfl _ rfl (Nat.le_of_ble_eq_true rfl) d_SC_enter_28 (by decide) (by decide) ?_
      refine g_iast (pc := 31) hX 3 rfl (by omega) d_SC_enter_31 ?_
      have eo : enO sc k = uZ (sO sc) (zD sc k - 1).toNat (zI sc k) := if_pos (by omega)
      exact g_vret (pc := 32) hX hE d_SC_enter_32 (by decide) (by decide) ⟨(sA sc, sN sc, sC sc, sI sc, sD sc, enO sc k), rfl, by rw [eo] <;> rfl, sk.u ⟨s1, s2⟩ si sd (by rw [eo]; first | exact so | exact uZ_gin so zi), rfl, rfl, rfl⟩

abbrev rm_SC_setInnermost : Room := { frames := 0, cells := 0, slots := 0, locals := 0 }
set_option maxHeartbeats 4000000 in
set_option maxRecDepth 100000 in
theorem c_SC_setInnermost (l : Launch) (E : gE) (s : Nat) (sc : ScT) (sk : scOK sc) (k : Int) (hk : gin k) (b : Int) (hb : gin b) : Ct l E y_SC_setInnermost b_SC_setInnermost 3 none rm_SC_setInnermost [.ref s, .int (iI k), .int (iI b)] (scW E s sc) (fun v w dc ds => ∃ ς, v = none ∧ w = scW E s ς ∧ scOK ς ∧ (ς = (sA sc, sN sc, sC sc, (if 0 ≤ k ∧ k < sN sc then uZ (sI sc) k.toNat b else sI sc), sD sc, sO sc) ∧ dc = 0 ∧ ds = 0)) := by
  obtain ⟨⟨s1, s2, s3, s4⟩, si, sd, so⟩ := id sk
  refine g_start (by decide) (Nat.le_of_ble_eq_true rfl) (fun X hX hE hin => ?_)
  refine g_iload_n (pc := 0) hX 1 d_SC_setInnermost_0 rfl rfl ?_
  refine g_if_lt (pc := 1) (tgt := 19) hX d_SC_setInnermost_1 (by decide) (by omega) (fun c_1 => ?_) (fun c_1 => ?_)
  · have ei : (if 0 ≤ k ∧ k < sN sc then uZ (sI sc) k.toNat b else sI sc) = sI sc := if_neg (by omega)
    exact g_vret (pc := 19) hX hE d_SC_setInnermost_19 (by decide) (by decide) ⟨_, rfl, by rw [ei] <;> rfl, sk.u ⟨s1, s2⟩ (by rw [ei]; first | exact si | exact uZ_gin si hb) sd so, rfl, rfl, rfl⟩
  · refine g_iload_n (pc := 4) hX 1 d_SC_setInnermost_4 rfl rfl ?_
    refine g_aload_n (pc := 5) hX 0 d_SC_setInnermost_5 rfl rfl ?_
    refine g_get (pc := 6) hX f_SC_9 0 rfl rfl d_SC_setInnermost_6 ?_
    refine g_icmp_ge (pc := 9) (tgt := 19) hX d_SC_setInnermost_9 (by decide) (by omega) (by omega) (fun c_2 => ?_) (fun c_2 => ?_)
    · have ei : (if 0 ≤ k ∧ k < sN sc then uZ (sI sc) k.toNat b else sI sc) = sI sc := if_neg (by omega)
      exact g_vret (pc := 19) hX hE d_SC_setInnermost_19 (by decide) (by decide) ⟨_, rfl, by rw [ei] <;> rfl, sk.u ⟨s1, s2⟩ (by rw [ei]; first | exact si | exact uZ_gin si hb) sd so, rfl, rfl, rfl⟩
    · refine g_aload_n (pc := 12) hX 0 d_SC_setInnermost_12 rfl rfl ?_
      refine g_get (pc := 13) hX f_SC_15 0 rfl rfl d_SC_setInnermost_13 ?_
      refine g_iload_n (pc := 16) hX 1 d_SC_setInnermost_16 rfl rfl ?_
      refine g_iload_n (pc := 17) hX 2 d_SC_setInnermost_17 rfl rfl ?_
      refine g_iast (pc := 18) hX 1 rfl (by omega) d_SC_setInnermost_18 ?_
      have ei : (if 0 ≤ k ∧ k < sN sc then uZ (sI sc) k.toNat b else sI sc) = uZ (sI sc) k.toNat b := if_pos (by omega)
      exact g_vret (pc := 19) hX hE d_SC_setInnermost_19 (by decide) (by decide) ⟨_, rfl, by rw [ei] <;> rfl, sk.u ⟨s1, s2⟩ (by rw [ei]; first | exact si | exact uZ_gin si hb) sd so, rfl, rfl, rfl⟩
end
section
abbrev rm_SC_makeRoom : Room := { frames := 2, cells := 3, slots := 19200, locals := 42 }
set_option maxHeartbeats 4000000 in
set_option maxRecDepth 100000 in
theorem c_SC_makeRoom (l : Launch) (E : gE) (s : Nat) (sc : ScT) (sk : scOK sc) (m : Int) (hm : gin m) (h0 : m ≤ 3000) : Ct l E y_SC_makeRoom b_SC_makeRoom 3 none rm_SC_makeRoom [.ref s, .int (iI m)] (scW E s sc) (fun v w dc ds => ∃ ς, v = none ∧ w = scW E s ς ∧ scOK ς ∧ (sN ς = sN sc ∧ m ≤ sC ς ∧ sGrow sc ς dc ds)) := by
  obtain ⟨⟨s1, s2, s3, s4⟩, si, sd, so⟩ := id sk
  refine g_start (by decide) (Nat.le_of_ble_eq_true rfl) (fun X hX hE hin => ?_)
  refine g_iload_n (pc := 0) hX 1 d_SC_makeRoom_0 rfl rfl ?_
  refine g_aload_n (pc := 1) hX 0 d_SC_makeRoom_1 rfl rfl ?_
  refine g_get (pc := 2) hX f_SC_19 0 rfl rfl d_SC_makeRoom_2 ?_
  refine g_alenI (pc := 5) hX 2 rfl d_SC_makeRoom_5 ?_
  refine g_icmp_le (pc := 6) (tgt := 40) hX d_SC_makeRoom_6 (by decide) (by omega) (by omega) (fun c_1 => ?_) (fun c_1 => ?_)
  · exact g_vret (pc := 40) hX hE d_SC_makeRoom_40 (show _ ≤ 3 by omega) (show _ ≤ 19200 by omega) ⟨sc, rfl, rfl, sk, rfl, by omega, sGrow.rf sc⟩
  · refine g_aload_n (pc := 9) hX 0 d_SC_makeRoom_9 rfl rfl ?_
    refine g_get (pc := 10) hX f_SC_19 0 rfl rfl d_SC_makeRoom_10 ?_
    refine g_alenI (pc := 13) hX 2 rfl d_SC_makeRoom_13 ?_
    refine g_iload_n (pc := 14) hX 1 d_SC_makeRoom_14 rfl rfl ?_
    refine g_iSN (pc := 15) hX (c_NS_longer l E _ (by omega) _ (by omega) (by omega)) gy_NS_longer w_170 n_246 rfl (by decide) (by decide) [] rfl rfl _ rfl (Nat.le_of_ble_eq_true rfl) d_SC_makeRoom_15 (show _ + 0 ≤ 3 by omega) (show _ + 0 ≤ 19200 by omega) ?_
    obtain ⟨L, hL⟩ : ∃ L : Int, L = if m < 2 * (sC sc : Int) then 2 * (sC sc : Int) else m := ⟨_, rfl⟩
    rw [← hL]
    have hL2 : m ≤ L ∧ 2 * (sC sc : Int) ≤ L ∧ L ≤ 6000 := by rw [hL]; split <;> omega
    refine g_istore_n (pc := 18) hX 2 d_SC_makeRoom_18 rfl (by decide) ?_
    refine g_aload_n (pc := 19) hX 0 d_SC_makeRoom_19 rfl rfl ?_
    refine g_iload_n (pc := 20) hX 2 d_SC_makeRoom_20 rfl rfl ?_
    refine g_newI (pc := 21) hX w_52 (by omega) (by omega) (show _ + 1 ≤ 3 by omega) (show _ + _ ≤ 19200 by omega) d_SC_makeRoom_21 (fun q21 => ?_)
    refine g_put (pc := 23) hX f_SC_15 gt_SC 0 rfl rfl rfl rfl (Nat.le_of_ble_eq_true rfl) d_SC_makeRoom_23 ?_
    refine g_aload_n (pc := 26) hX 0 d_SC_makeRoom_26 rfl rfl ?_
    refine g_iload_n (pc := 27) hX 2 d_SC_makeRoom_27 rfl rfl ?_
    refine g_newI (pc := 28) hX w_52 (by omega) (by omega) (show _ + 1 ≤ 3 by omega) (show _ + _ ≤ 19200 by omega) d_SC_makeRoom_28 (fun q28 => ?_)
    refine g_put (pc := 30) hX f_SC_19 gt_SC 0 rfl rfl rfl rfl (Nat.le_of_ble_eq_true rfl) d_SC_makeRoom_30 ?_
    refine g_aload_n (pc := 33) hX 0 d_SC_makeRoom_33 rfl rfl ?_
    refine g_iload_n (pc := 34) hX 2 d_SC_makeRoom_34 rfl rfl ?_
    refine g_newI (pc := 35) hX w_52 (by omega) (by omega) (show _ + 1 ≤ 3 by omega) (show _ + _ ≤ 19200 by omega) d_SC_makeRoom_35 (fun q35 => ?_)
    refine g_put (pc := 37) hX f_SC_22 gt_SC 0 rfl rfl rfl rfl (Nat.le_of_ble_eq_true rfl) d_SC_makeRoom_37 ?_
    refine g_sub (scW E s (((q21, q28, q35), sN sc, L.toNat, fun _ => 0, fun _ => 0, fun _ => 0) : ScT)) [0, 4, 5, 6] rfl rfl ?_
    exact g_vret (pc := 40) hX hE d_SC_makeRoom_40 (show _ ≤ 3 by omega) (show _ ≤ 19200 by omega) ⟨_, rfl, rfl, ⟨⟨by show sN sc ≤ 3000; omega, by show sN sc ≤ L.toNat; omega, by show 16 ≤ L.toNat; omega, by show L.toNat ≤ 6000; omega⟩, fun _ => gin0, fun _ => ⟨Int.le_refl 0, by show (0 : Int) ≤ 3000; decide⟩, fun _ => gin0⟩, rfl, by show m ≤ (L.toNat : Int); omega, by show sC sc ≤ L.toNat; omega, by show _ ≤ L.toNat - sC sc; omega, by show _ ≤ 6 * (L.toNat - sC sc); omega⟩

abbrev rm_SC_init : Room := { frames := 1, cells := 3, slots := 48, locals := 20 }
set_option maxHeartbeats 4000000 in
set_option maxRecDepth 100000 in
theorem c_SC_init (l : Launch) (E : gE) (s : Nat) : Ct l E y_SC_init b_SC_init 1 none rm_SC_init [.ref s] ([(s, .inr (3, [.int 0, .null, .null, .null]))]) (fun v w dc ds => ∃ ς, v = none ∧ w = scW E s ς ∧ scOK ς ∧ (sN ς = 0 ∧ sC ς = 16 ∧ dc = 3 ∧ ds = 48)) := by
  refine g_start (by decide) (Nat.le_of_ble_eq_true rfl) (fun X hX hE hin => ?_)
  replace hin := hin rfl
  refine g_aload_n (pc := 0) hX 0 d_SC_init_0 rfl rfl ?_
  refine g_objInit (pc := 1) hX w_58 w_17 w_18 (by decide) (by decide) (Nat.le_of_ble_eq_true rfl) d_SC_init_1 ?_
  refine g_aload_n (pc := 4) hX 0 d_SC_init_4 rfl rfl ?_
  refine g_iconst (pc := 5) hX d_SC_init_5 ?_
  refine g_put (pc := 6) hX f_SC_9 gt_SC 0 rfl rfl rfl rfl (Nat.le_of_ble_eq_true rfl) d_SC_init_6 ?_
  refine g_aload_n (pc := 9) hX 0 d_SC_init_9 rfl rfl ?_
  refine g_bipush (pc := 10) hX 16 d_SC_init_10 (by decide) ?_
  refine g_newI (pc := 12) hX w_52 (by omega) (by omega) (by decide) (by decide) d_SC_init_12 (fun q12 => ?_)
  refine g_put (pc := 14) hX f_SC_15 gt_SC 0 rfl rfl rfl rfl (Nat.le_of_ble_eq_true rfl) d_SC_init_14 ?_
  refine g_aload_n (pc := 17) hX 0 d_SC_init_17 rfl rfl ?_
  refine g_bipush (pc := 18) hX 16 d_SC_init_18 (by decide) ?_
  refine g_newI (pc := 20) hX w_52 (by omega) (by omega) (by decide) (by decide) d_SC_init_20 (fun q20 => ?_)
  refine g_put (pc := 22) hX f_SC_19 gt_SC 0 rfl rfl rfl rfl (Nat.le_of_ble_eq_true rfl) d_SC_init_22 ?_
  refine g_aload_n (pc := 25) hX 0 d_SC_init_25 rfl rfl ?_
  refine g_bipush (pc := 26) hX 16 d_SC_init_26 (by decide) ?_
  refine g_newI (pc := 28) hX w_52 (by omega) (by omega) (by decide) (by decide) d_SC_init_28 (fun q28 => ?_)
  refine g_put (pc := 30) hX f_SC_22 gt_SC 0 rfl rfl rfl rfl (Nat.le_of_ble_eq_true rfl) d_SC_init_30 ?_
  refine g_sub (scW E s (((q12, q20, q28), 0, 16, fun _ => 0, fun _ => 0, fun _ => 0) : ScT)) [0, 1, 2, 3] rfl rfl ?_
  exact g_vret (pc := 33) hX hE d_SC_init_33 (by decide) (by decide) ⟨_, rfl, rfl, ⟨⟨by show (0 : Nat) ≤ 3000; decide, by show (0 : Nat) ≤ 16; decide, by show (16 : Nat) ≤ 16; decide, by show (16 : Nat) ≤ 6000; decide⟩, fun _ => gin0, fun _ => ⟨Int.le_refl 0, by show (0 : Int) ≤ 3000; decide⟩, fun _ => gin0⟩, rfl, rfl, rfl, rfl⟩

abbrev rm_SC_indexOf : Room := { frames := 2, cells := 0, slots := 0, locals := 42 }
set_option maxHeartbeats 4000000 in
set_option maxRecDepth 100000 in
theorem c_SC_indexOf (l : Launch) (E : gE) (s : Nat) (sc : ScT) (sk : scOK sc) (x : Int) (hx : gil x) (r : Nat) (rc : RowT) (rk : rowOK rc) (k : Int) (hk : gin k) : CtI l E y_SC_indexOf b_SC_indexOf 7 (some .int) rm_SC_indexOf [.ref s, .long (lI x), .ref r, .int (iI k)] (scW E s sc ++ rowW E r rc) (fnd (zD sc k).toNat (fun i => rB rc (zO sc (zD sc k - 1 - i))) x) := by
  obtain ⟨⟨s1, s2, s3, s4⟩, si, sd, so⟩ := id sk
  obtain ⟨⟨r1, r2, r3, r4⟩, rf, rg, rh⟩ := id rk
  have zd := zD_in sk k
  refine g_start (by decide) (Nat.le_of_ble_eq_true rfl) (fun X hX hE hin => ?_)
  refine g_aload_n (pc := 0) hX 0 d_SC_indexOf_0 rfl rfl ?_
  refine g_iload (pc := 1) hX d_SC_indexOf_1 rfl ?_
  refine g_iV (pc := 3) hX (c_SC_depth l E s sc sk _ (by omega)) gy_SC_depth gv_SC_depth w_251 rfl (by decide) (by decide) [0, 1, 2, 3] rfl rfl rfl rfl rfl _ rfl (Nat.le_of_ble_eq_true rfl) d_SC_indexOf_3 (by decide) (by decide) ?_
  refine g_istore (pc := 6) hX d_SC_indexOf_6 (by decide) ?_
  refine g_iconst (pc := 8) hX d_SC_indexOf_8 ?_
  refine g_istore (pc := 9) hX d_SC_indexOf_9 (by decide) ?_
  have loop : ∀ (d : Nat) (j : Nat), zD sc k < j + d → j ≤ zD sc k → (∀ i : Nat, i < j → rB rc (zO sc (zD sc k - 1 - i)) ≠ x) → gW X (scW E s sc ++ rowW E r rc) 0 0 11 [(0, .ref s), (1, .long (lI x)), (3, .ref r), (5, .int (iI (zD sc k))), (6, .int (iI (j : Int)))] [] := by
    intro d
    induction d with
    | zero => intro j hd hj hi; omega
    | succ d ih =>
      intro j hd hj hi
      refine g_iload (pc := 11) hX d_SC_indexOf_11 rfl ?_
      refine g_iload (pc := 13) hX d_SC_indexOf_13 rfl ?_
      refine g_icmp_ge (pc := 15) (tgt := 47) hX d_SC_indexOf_15 (by decide) (by omega) (by omega) (fun c_1 => ?_) (fun c_1 => ?_)
      · refine g_iconst (pc := 47) hX d_SC_indexOf_47 ?_
        exact g_iret (pc := 48) hX hE d_SC_indexOf_48 (by decide) (by decide) ⟨by rw [fnd_none (fun i q => hi i (by omega))], rfl, rfl, rfl⟩
      · refine g_aload_n (pc := 18) hX 3 d_SC_indexOf_18 rfl rfl ?_
        refine g_aload_n (pc := 19) hX 0 d_SC_indexOf_19 rfl rfl ?_
        refine g_iload (pc := 20) hX d_SC_indexOf_20 rfl ?_
        refine g_iconst (pc := 22) hX d_SC_indexOf_22 ?_
        refine g_isub (pc := 23) hX d_SC_indexOf_23 ?_
        refine g_iload (pc := 24) hX d_SC_indexOf_24 rfl ?_
        refine g_isub (pc := 26) hX d_SC_indexOf_26 ?_
        refine g_iV (pc := 27) hX (c_SC_open l E s sc sk _ (by omega)) gy_SC_open gv_SC_open w_288 rfl (by decide) (by decide) [0, 1, 2, 3] rfl rfl rfl rfl rfl _ rfl (Nat.le_of_ble_eq_true rfl) d_SC_indexOf_27 (by decide) (by decide) ?_
        have q1 := zO_in sk (zD sc k - 1 - (j : Int))
        have q2 := rB_in rk (zO sc (zD sc k - 1 - (j : Int)))
        refine g_lV (pc := 30) hX (c_RW_beside l E r rc rk _ (by omega)) gy_RW_beside gv_RW_beside w_292 rfl (by decide) (by decide) [4, 5, 6, 7] rfl rfl rfl rfl rfl _ rfl (Nat.le_of_ble_eq_true rfl) d_SC_indexOf_30 (by decide) (by decide) ?_
        refine g_lload_n (pc := 33) hX 1 d_SC_indexOf_33 rfl rfl ?_
        refine g_lcmp_ne (pc := 34) (tgt := 41) hX d_SC_indexOf_34 d_SC_indexOf_35 (by decide) (by omega) (by omega) (fun c_2 => ?_) (fun c_2 => ?_)
        · refine g_iinc (pc := 41) hX d_SC_indexOf_41 (by decide) rfl ?_
          refine g_goto (pc := 44) (tgt := 11) hX d_SC_indexOf_44 (by decide) ?_
          refine g_lv [(0, .ref s), (1, .long (lI x)), (3, .ref r), (5, .int (iI (zD sc k))), (6, .int (iI ((j + 1 : Nat) : Int)))] ⟨rfl, rfl, rfl, rfl, rfl, trivial⟩ ?_
          exact ih (j + 1) (by omega) (by omega) (fun i q => by
            by_cases e : i = j
            · subst e; exact c_2
            · exact hi i (by omega))
        · refine g_iload (pc := 38) hX d_SC_indexOf_38 rfl ?_
          exact g_iret (pc := 40) hX hE d_SC_indexOf_40 (by decide) (by decide) ⟨by rw [fnd_at (g := j) hi (by omega) (Decidable.not_not.mp c_2)], rfl, rfl, rfl⟩
  refine g_lv [(0, .ref s), (1, .long (lI x)), (3, .ref r), (5, .int (iI (zD sc k))), (6, .int (iI ((0 : Nat) : Int)))] ⟨rfl, rfl, rfl, rfl, rfl, trivial⟩ ?_
  exact loop 3001 0 (by omega) (by omega) (fun i q => by omega)
  
end
section
abbrev rm_SC_read : Room := { frames := 4, cells := 6000, slots := 36000, locals := 84 }
set_option maxHeartbeats 4000000 in
set_option maxRecDepth 100000 in
theorem c_SC_read (l : Launch) (E : gE) (s : Nat) (sc : ScT) (sk : scOK sc) (r : Nat) (rc : RowT) (rk : rowOK rc) (σ : Nat → Nat) (hz : Sz (rN rc) (rF rc) σ 0) (h0 : σ 0 = rN rc) (hn : 0 < rN rc) (hsz : (∀ j, j < rN rc → rH rc j = σ j)) : Ct l E y_SC_read b_SC_read 5 none rm_SC_read [.ref s, .ref r] (scW E s sc ++ rowW E r rc) (fun v w dc ds => ∃ ς, v = none ∧ w = scW E s ς ++ rowW E r rc ∧ scOK ς ∧ (sN ς = rN rc ∧ (∀ k, k < rN rc → sD ς k = (((env (rF rc) k).length : Nat) : Int) ∧ sI ς k = hd (env (rF rc) k)) ∧ sGrow sc ς dc ds)) := by
  obtain ⟨⟨s1, s2, s3, s4⟩, si, sd, so⟩ := id sk
  obtain ⟨⟨r1, r2, r3, r4⟩, rf, rg, rh⟩ := id rk
  refine g_start (by decide) (Nat.le_of_ble_eq_true rfl) (fun X hX hE hin => ?_)
  refine g_aload_n (pc := 0) hX 0 d_SC_read_0 rfl rfl ?_
  refine g_aload_n (pc := 1) hX 1 d_SC_read_1 rfl rfl ?_
  refine g_iV (pc := 2) hX (c_RW_count l E r rc rk) gy_RW_count gv_RW_count w_241 rfl (by decide) (by decide) [4, 5, 6, 7] rfl rfl rfl rfl rfl _ rfl (Nat.le_of_ble_eq_true rfl) d_SC_read_2 (show _ + 0 ≤ 6000 by (first | omega | (dsimp only [rN, rC, rF, rG, rH, rA, sN, sC, sI, sD, sO, sA, uN, uF] at *; omega))) (show _ + 0 ≤ 36000 by (first | omega | (dsimp only [rN, rC, rF, rG, rH, rA, sN, sC, sI, sD, sO, sA, uN, uF] at *; omega))) ?_
  refine g_callV (pc := 5) hX (c_SC_makeRoom l E s sc sk _ (by (first | omega | (dsimp only [rN, rC, rF, rG, rH, rA, sN, sC, sI, sD, sO, sA, uN, uF] at *; omega))) (by (first | omega | (dsimp only [rN, rC, rF, rG, rH, rA, sN, sC, sI, sD, sO, sA, uN, uF] at *; omega)))) gy_SC_makeRoom gv_SC_makeRoom w_242 rfl (by decide) (by decide) [0, 1, 2, 3] rfl rfl rfl rfl rfl _ rfl (Nat.le_of_ble_eq_true rfl) d_SC_read_5 (show _ + 3 ≤ 6000 by (first | omega | (dsimp only [rN, rC, rF, rG, rH, rA, sN, sC, sI, sD, sO, sA, uN, uF] at *; omega))) (show _ + 19200 ≤ 36000 by (first | omega | (dsimp only [rN, rC, rF, rG, rH, rA, sN, sC, sI, sD, sO, sA, uN, uF] at *; omega))) (fun _ _ _ _ h => by obtain ⟨_, _, h2, _⟩ := h; rw [h2]; exact Nat.le_of_ble_eq_true rfl) (fun v w dc_1 ds_1 hp => ?_)
  obtain ⟨s_1, rfl, rfl, sk_1, f_1⟩ := hp
  refine g_ws (scW E s s_1 ++ rowW E r rc) rfl ?_
  obtain ⟨e1, e2, e3⟩ := f_1
  obtain ⟨⟨t1, t2, t3, t4⟩, si1, sd1, so1⟩ := id sk_1
  obtain ⟨g1, g2, g3⟩ := id e3
  refine g_aload_n (pc := 8) hX 0 d_SC_read_8 rfl rfl ?_
  refine g_aload_n (pc := 9) hX 1 d_SC_read_9 rfl rfl ?_
  refine g_iV (pc := 10) hX (c_RW_count l E r rc rk) gy_RW_count gv_RW_count w_241 rfl (by decide) (by decide) [4, 5, 6, 7] rfl rfl rfl rfl rfl _ rfl (Nat.le_of_ble_eq_true rfl) d_SC_read_10 (show _ + 0 ≤ 6000 by (first | omega | (dsimp only [rN, rC, rF, rG, rH, rA, sN, sC, sI, sD, sO, sA, uN, uF] at *; omega))) (show _ + 0 ≤ 36000 by (first | omega | (dsimp only [rN, rC, rF, rG, rH, rA, sN, sC, sI, sD, sO, sA, uN, uF] at *; omega))) ?_
  refine g_put (pc := 13) hX f_SC_9 gt_SC 0 rfl rfl rfl rfl (Nat.le_of_ble_eq_true rfl) d_SC_read_13 ?_
  have hok0 : scOK ((sA s_1, rN rc, sC s_1, sI s_1, sD s_1, sO s_1) : ScT) := sk_1.u (by (first | omega | (dsimp only [rN, rC, rF, rG, rH, rA, sN, sC, sI, sD, sO, sA, uN, uF] at *; omega))) si1 sd1 so1
  refine g_ws (scW E s ((sA s_1, rN rc, sC s_1, sI s_1, sD s_1, sO s_1) : ScT) ++ rowW E r rc) rfl ?_
  refine g_aload_n (pc := 16) hX 0 d_SC_read_16 rfl rfl ?_
  refine g_iconst (pc := 17) hX d_SC_read_17 ?_
  refine g_iconst (pc := 18) hX d_SC_read_18 ?_
  refine g_callV (pc := 19) hX (c_SC_setInnermost l E s ((sA s_1, rN rc, sC s_1, sI s_1, sD s_1, sO s_1) : ScT) hok0 _ (by (first | omega | (dsimp only [rN, rC, rF, rG, rH, rA, sN, sC, sI, sD, sO, sA, uN, uF] at *; omega))) _ (by (first | omega | (dsimp only [rN, rC, rF, rG, rH, rA, sN, sC, sI, sD, sO, sA, uN, uF] at *; omega)))) gy_SC_setInnermost gv_SC_setInnermost w_247 rfl (by decide) (by decide) [0, 1, 2, 3] rfl rfl rfl rfl rfl _ rfl (Nat.le_of_ble_eq_true rfl) d_SC_read_19 (show _ + 0 ≤ 6000 by (first | omega | (dsimp only [rN, rC, rF, rG, rH, rA, sN, sC, sI, sD, sO, sA, uN, uF] at *; omega))) (show _ + 0 ≤ 36000 by (first | omega | (dsimp only [rN, rC, rF, rG, rH, rA, sN, sC, sI, sD, sO, sA, uN, uF] at *; omega))) (fun _ _ _ _ h => by obtain ⟨_, _, h2, _⟩ := h; rw [h2]; exact Nat.le_of_ble_eq_true rfl) (fun v w dc_2 ds_2 hp => ?_)
  obtain ⟨s_2, rfl, rfl, sk_2, f_2⟩ := hp
  refine g_ws (scW E s s_2 ++ rowW E r rc) rfl ?_
  obtain ⟨rfl, rfl, rfl⟩ := f_2
  have hok1 : scOK ((sA s_1, rN rc, sC s_1, uZ (sI s_1) 0 (-1), sD s_1, sO s_1) : ScT) := sk_1.u (by (first | omega | (dsimp only [rN, rC, rF, rG, rH, rA, sN, sC, sI, sD, sO, sA, uN, uF] at *; omega))) (uZ_gin si1 (by decide)) sd1 so1
  refine g_ws (scW E s ((sA s_1, rN rc, sC s_1, uZ (sI s_1) 0 (-1), sD s_1, sO s_1) : ScT) ++ rowW E r rc) (by rw [show (if (0 : Int) ≤ 0 ∧ (0 : Int) < sN ((sA s_1, rN rc, sC s_1, sI s_1, sD s_1, sO s_1) : ScT) then uZ (sI ((sA s_1, rN rc, sC s_1, sI s_1, sD s_1, sO s_1) : ScT)) (Int.toNat 0) (-1) else sI ((sA s_1, rN rc, sC s_1, sI s_1, sD s_1, sO s_1) : ScT)) = uZ (sI s_1) 0 (-1) from if_pos (by show (0 : Int) ≤ 0 ∧ (0 : Int) < (rN rc : Int); (first | omega | (dsimp only [rN, rC, rF, rG, rH, rA, sN, sC, sI, sD, sO, sA, uN, uF] at *; omega)))] <;> rfl) ?_
  refine g_iconst (pc := 22) hX d_SC_read_22 ?_
  refine g_istore_n (pc := 23) hX 2 d_SC_read_23 rfl (by decide) ?_
  have loop : ∀ (d : Nat) (k : Nat) (I D : Nat → Int), rN rc < k + d → k ≤ rN rc → (∀ j, gin (I j)) → (∀ j, 0 ≤ D j ∧ D j ≤ 3000) → inv2 (rN rc) (rF rc) σ I k → (∀ j, j < k → D j = (((env (rF rc) j).length : Nat) : Int)) → gW X (scW E s ((sA s_1, rN rc, sC s_1, I, D, sO s_1) : ScT) ++ rowW E r rc) (0 + dc_1) (0 + ds_1) 24 [(0, .ref s), (1, .ref r), (2, .int (iI (k : Int)))] [] := by
    intro d
    induction d with
    | zero => intro k I D hfu hk hir hdr hI2 hD; (first | omega | (dsimp only [rN, rC, rF, rG, rH, rA, sN, sC, sI, sD, sO, sA, uN, uF] at *; omega))
    | succ d ih =>
      intro k I D hfu hk hir hdr hI2 hD
      have hok : scOK ((sA s_1, rN rc, sC s_1, I, D, sO s_1) : ScT) := sk_1.u (by (first | omega | (dsimp only [rN, rC, rF, rG, rH, rA, sN, sC, sI, sD, sO, sA, uN, uF] at *; omega))) hir hdr so1
      refine g_iload_n (pc := 24) hX 2 d_SC_read_24 rfl rfl ?_
      refine g_aload_n (pc := 25) hX 0 d_SC_read_25 rfl rfl ?_
      refine g_get (pc := 26) hX f_SC_9 0 rfl rfl d_SC_read_26 ?_
      refine g_icmp_ge (pc := 29) (tgt := 112) hX d_SC_read_29 (by decide) (by (first | omega | (dsimp only [rN, rC, rF, rG, rH, rA, sN, sC, sI, sD, sO, sA, uN, uF] at *; omega))) (by (first | omega | (dsimp only [rN, rC, rF, rG, rH, rA, sN, sC, sI, sD, sO, sA, uN, uF] at *; omega))) (fun c_3 => ?_) (fun c_3 => ?_)
      · exact g_vret (pc := 112) hX hE d_SC_read_112 (show _ ≤ 6000 by (first | omega | (dsimp only [rN, rC, rF, rG, rH, rA, sN, sC, sI, sD, sO, sA, uN, uF] at *; omega))) (show _ ≤ 36000 by (first | omega | (dsimp only [rN, rC, rF, rG, rH, rA, sN, sC, sI, sD, sO, sA, uN, uF] at *; omega))) ⟨((sA s_1, rN rc, sC s_1, I, D, sO s_1) : ScT), rfl, rfl, hok, rfl, fun j hj => ⟨hD j (by (first | omega | (dsimp only [rN, rC, rF, rG, rH, rA, sN, sC, sI, sD, sO, sA, uN, uF] at *; omega))), inv2_all hz h0 hI2 j hj (by (first | omega | (dsimp only [rN, rC, rF, rG, rH, rA, sN, sC, sI, sD, sO, sA, uN, uF] at *; omega)))⟩, by rw [Nat.zero_add, Nat.zero_add]; exact e3⟩
      · refine g_aload_n (pc := 32) hX 0 d_SC_read_32 rfl rfl ?_
        refine g_get (pc := 33) hX f_SC_15 0 rfl rfl d_SC_read_33 ?_
        refine g_iload_n (pc := 36) hX 2 d_SC_read_36 rfl rfl ?_
        refine g_iald (pc := 37) hX 1 rfl (by (first | omega | (dsimp only [rN, rC, rF, rG, rH, rA, sN, sC, sI, sD, sO, sA, uN, uF] at *; omega))) d_SC_read_37 ?_
        have hI : I ((k : Int).toNat) = hd (env (rF rc) k) := inv2_all hz h0 hI2 k (by (first | omega | (dsimp only [rN, rC, rF, rG, rH, rA, sN, sC, sI, sD, sO, sA, uN, uF] at *; omega))) (Nat.le_refl _)
        have hhd := hd_in (env_mem hz h0 (show k < rN rc by (first | omega | (dsimp only [rN, rC, rF, rG, rH, rA, sN, sC, sI, sD, sO, sA, uN, uF] at *; omega))))
        refine g_st (.int (iI (hd (env (rF rc) k))) :: []) (by rw [← hI]) ?_
        refine g_istore_n (pc := 38) hX 3 d_SC_read_38 rfl (by decide) ?_
        refine g_aload_n (pc := 39) hX 0 d_SC_read_39 rfl rfl ?_
        refine g_get (pc := 40) hX f_SC_19 0 rfl rfl d_SC_read_40 ?_
        refine g_iload_n (pc := 43) hX 2 d_SC_read_43 rfl rfl ?_
        refine g_iload_n (pc := 44) hX 3 d_SC_read_44 rfl rfl ?_
        refine g_iconst (pc := 45) hX d_SC_read_45 ?_
        refine g_icmp_ne (pc := 46) (tgt := 53) hX d_SC_read_46 (by decide) (by (first | omega | (dsimp only [rN, rC, rF, rG, rH, rA, sN, sC, sI, sD, sO, sA, uN, uF] at *; omega))) (by (first | omega | (dsimp only [rN, rC, rF, rG, rH, rA, sN, sC, sI, sD, sO, sA, uN, uF] at *; omega))) (fun c_4 => ?_) (fun c_4 => ?_)
        · refine g_aload_n (pc := 53) hX 0 d_SC_read_53 rfl rfl ?_
          refine g_iload_n (pc := 54) hX 3 d_SC_read_54 rfl rfl ?_
          refine g_iV (pc := 55) hX (c_SC_depth l E s ((sA s_1, rN rc, sC s_1, I, D, sO s_1) : ScT) hok _ (by (first | omega | (dsimp only [rN, rC, rF, rG, rH, rA, sN, sC, sI, sD, sO, sA, uN, uF] at *; omega)))) gy_SC_depth gv_SC_depth w_251 rfl (by decide) (by decide) [0, 1, 2, 3] rfl rfl rfl rfl rfl _ rfl (Nat.le_of_ble_eq_true rfl) d_SC_read_55 (show _ + 0 ≤ 6000 by (first | omega | (dsimp only [rN, rC, rF, rG, rH, rA, sN, sC, sI, sD, sO, sA, uN, uF] at *; omega))) (show _ + 0 ≤ 36000 by (first | omega | (dsimp only [rN, rC, rF, rG, rH, rA, sN, sC, sI, sD, sO, sA, uN, uF] at *; omega))) ?_
          refine g_iconst (pc := 58) hX d_SC_read_58 ?_
          refine g_iadd (pc := 59) hX d_SC_read_59 ?_
          have hle := env_le hz h0 (show k < rN rc by (first | omega | (dsimp only [rN, rC, rF, rG, rH, rA, sN, sC, sI, sD, sO, sA, uN, uF] at *; omega)))
          have hdv : zD ((sA s_1, rN rc, sC s_1, I, D, sO s_1) : ScT) (hd (env (rF rc) k)) + 1 = (((env (rF rc) k).length : Nat) : Int) := by
            rcases env_hd hz h0 (show k < rN rc by (first | omega | (dsimp only [rN, rC, rF, rG, rH, rA, sN, sC, sI, sD, sO, sA, uN, uF] at *; omega))) with ⟨e1, e2⟩ | ⟨b, e1, e2, e3, e4⟩
            · (first | omega | (dsimp only [rN, rC, rF, rG, rH, rA, sN, sC, sI, sD, sO, sA, uN, uF] at *; omega))
            · rw [e2, zD_t (by show (0 : Int) ≤ b ∧ (b : Int) < (rN rc : Int); (first | omega | (dsimp only [rN, rC, rF, rG, rH, rA, sN, sC, sI, sD, sO, sA, uN, uF] at *; omega)))]
              show D b + 1 = _
              rw [hD b e3, e1]; simp
          refine g_st (.int (iI (((env (rF rc) k).length : Nat) : Int)) :: .int (iI (k : Int)) :: .ref (sA s_1).2.1 :: []) (by rw [← hdv]) ?_
          refine g_iast (pc := 60) hX 2 rfl (by (first | omega | (dsimp only [rN, rC, rF, rG, rH, rA, sN, sC, sI, sD, sO, sA, uN, uF] at *; omega))) d_SC_read_60 ?_
          have hd1 : ∀ j, 0 ≤ (uZ D k (((env (rF rc) k).length : Nat) : Int)) j ∧ (uZ D k (((env (rF rc) k).length : Nat) : Int)) j ≤ 3000 := by
            intro j; unfold uZ; split
            · (first | omega | (dsimp only [rN, rC, rF, rG, rH, rA, sN, sC, sI, sD, sO, sA, uN, uF] at *; omega))
            · exact hdr j
          have hok2 : scOK ((sA s_1, rN rc, sC s_1, I, uZ D k (((env (rF rc) k).length : Nat) : Int), sO s_1) : ScT) := sk_1.u (by (first | omega | (dsimp only [rN, rC, rF, rG, rH, rA, sN, sC, sI, sD, sO, sA, uN, uF] at *; omega))) hir hd1 so1
          refine g_ws (scW E s ((sA s_1, rN rc, sC s_1, I, uZ D k (((env (rF rc) k).length : Nat) : Int), sO s_1) : ScT) ++ rowW E r rc) rfl ?_
          have hkk : rK rc (k : Int) = rF rc k := rK_t (by (first | omega | (dsimp only [rN, rC, rF, rG, rH, rA, sN, sC, sI, sD, sO, sA, uN, uF] at *; omega)))
          have qf := rf k
          refine g_aload_n (pc := 61) hX 1 d_SC_read_61 rfl rfl ?_
          refine g_iload_n (pc := 62) hX 2 d_SC_read_62 rfl rfl ?_
          refine g_iV (pc := 63) hX (c_RW_kind l E r rc rk _ (by (first | omega | (dsimp only [rN, rC, rF, rG, rH, rA, sN, sC, sI, sD, sO, sA, uN, uF] at *; omega)))) gy_RW_kind gv_RW_kind w_255 rfl (by decide) (by decide) [4, 5, 6, 7] rfl rfl rfl rfl rfl _ rfl (Nat.le_of_ble_eq_true rfl) d_SC_read_63 (show _ + 0 ≤ 6000 by (first | omega | (dsimp only [rN, rC, rF, rG, rH, rA, sN, sC, sI, sD, sO, sA, uN, uF] at *; omega))) (show _ + 0 ≤ 36000 by (first | omega | (dsimp only [rN, rC, rF, rG, rH, rA, sN, sC, sI, sD, sO, sA, uN, uF] at *; omega))) ?_
          rw [hkk]
          refine g_istore (pc := 66) hX d_SC_read_66 (by decide) ?_
          refine g_iload (pc := 68) hX d_SC_read_68 rfl ?_
          refine g_iSN (pc := 70) hX (c_NS_hasParts l E _ (by (first | omega | (dsimp only [rN, rC, rF, rG, rH, rA, sN, sC, sI, sD, sO, sA, uN, uF] at *; omega)))) gy_NS_hasParts w_216 n_259 rfl (by decide) (by decide) [] rfl rfl _ rfl (Nat.le_of_ble_eq_true rfl) d_SC_read_70 (show _ + 0 ≤ 6000 by (first | omega | (dsimp only [rN, rC, rF, rG, rH, rA, sN, sC, sI, sD, sO, sA, uN, uF] at *; omega))) (show _ + 0 ≤ 36000 by (first | omega | (dsimp only [rN, rC, rF, rG, rH, rA, sN, sC, sI, sD, sO, sA, uN, uF] at *; omega))) ?_
          refine g_beq (pc := 73) (tgt := 106) hX d_SC_read_73 (by decide) (fun c_5 => ?_) (fun c_5 => ?_)
          · refine g_iinc (pc := 106) hX d_SC_read_106 (by decide) rfl ?_
            refine g_goto (pc := 109) (tgt := 24) hX d_SC_read_109 (by decide) ?_
            refine g_lv [(0, .ref s), (1, .ref r), (2, .int (iI ((k + 1 : Nat) : Int)))] ⟨rfl, rfl, rfl, trivial⟩ ?_
            have hDn : ∀ j, j < k + 1 → (uZ D k (((env (rF rc) k).length : Nat) : Int)) j = (((env (rF rc) j).length : Nat) : Int) := by
              intro j hj
              by_cases e : j = k
              · subst e; exact uZ_s
              · rw [uZ_n e]; exact hD j (by (first | omega | (dsimp only [rN, rC, rF, rG, rH, rA, sN, sC, sI, sD, sO, sA, uN, uF] at *; omega)))
            exact ih (k + 1) I (uZ D k (((env (rF rc) k).length : Nat) : Int)) (by (first | omega | (dsimp only [rN, rC, rF, rG, rH, rA, sN, sC, sI, sD, sO, sA, uN, uF] at *; omega))) (by (first | omega | (dsimp only [rN, rC, rF, rG, rH, rA, sN, sC, sI, sD, sO, sA, uN, uF] at *; omega))) hir hd1 (inv2_leaf (fun q => c_5 q) hI2) hDn
          · have hp : pP (rF rc k) := by unfold pP; exact c_5
            obtain ⟨z1, z2, z3⟩ := (hz k (Nat.zero_le _) (by (first | omega | (dsimp only [rN, rC, rF, rG, rH, rA, sN, sC, sI, sD, sO, sA, uN, uF] at *; omega)))).2.2.1 hp
            have hs1 : rS rc ((k : Int) + 1) = σ (k + 1) := by rw [rS_t (by (first | omega | (dsimp only [rN, rC, rF, rG, rH, rA, sN, sC, sI, sD, sO, sA, uN, uF] at *; omega)))]; exact hsz (k + 1) z1
            refine g_aload_n (pc := 76) hX 0 d_SC_read_76 rfl rfl ?_
            refine g_iload_n (pc := 77) hX 2 d_SC_read_77 rfl rfl ?_
            refine g_iconst (pc := 78) hX d_SC_read_78 ?_
            refine g_iadd (pc := 79) hX d_SC_read_79 ?_
            refine g_iload_n (pc := 80) hX 3 d_SC_read_80 rfl rfl ?_
            refine g_callV (pc := 81) hX (c_SC_setInnermost l E s ((sA s_1, rN rc, sC s_1, I, uZ D k (((env (rF rc) k).length : Nat) : Int), sO s_1) : ScT) hok2 _ (by (first | omega | (dsimp only [rN, rC, rF, rG, rH, rA, sN, sC, sI, sD, sO, sA, uN, uF] at *; omega))) _ (by (first | omega | (dsimp only [rN, rC, rF, rG, rH, rA, sN, sC, sI, sD, sO, sA, uN, uF] at *; omega)))) gy_SC_setInnermost gv_SC_setInnermost w_247 rfl (by decide) (by decide) [0, 1, 2, 3] rfl rfl rfl rfl rfl _ rfl (Nat.le_of_ble_eq_true rfl) d_SC_read_81 (show _ + 0 ≤ 6000 by (first | omega | (dsimp only [rN, rC, rF, rG, rH, rA, sN, sC, sI, sD, sO, sA, uN, uF] at *; omega))) (show _ + 0 ≤ 36000 by (first | omega | (dsimp only [rN, rC, rF, rG, rH, rA, sN, sC, sI, sD, sO, sA, uN, uF] at *; omega))) (fun _ _ _ _ h => by obtain ⟨_, _, h2, _⟩ := h; rw [h2]; exact Nat.le_of_ble_eq_true rfl) (fun v w dc_6 ds_6 hp => ?_)
            obtain ⟨s_6, rfl, rfl, sk_6, f_6⟩ := hp
            refine g_ws (scW E s s_6 ++ rowW E r rc) rfl ?_
            obtain ⟨rfl, rfl, rfl⟩ := f_6
            have hok3 : scOK ((sA s_1, rN rc, sC s_1, (uZ I (k + 1) (hd (env (rF rc) k))), uZ D k (((env (rF rc) k).length : Nat) : Int), sO s_1) : ScT) := sk_1.u (by (first | omega | (dsimp only [rN, rC, rF, rG, rH, rA, sN, sC, sI, sD, sO, sA, uN, uF] at *; omega))) (uZ_gin hir (by (first | omega | (dsimp only [rN, rC, rF, rG, rH, rA, sN, sC, sI, sD, sO, sA, uN, uF] at *; omega)))) hd1 so1
            refine g_ws (scW E s ((sA s_1, rN rc, sC s_1, (uZ I (k + 1) (hd (env (rF rc) k))), uZ D k (((env (rF rc) k).length : Nat) : Int), sO s_1) : ScT) ++ rowW E r rc) (by rw [show (if (0 : Int) ≤ (k : Int) + 1 ∧ (k : Int) + 1 < sN ((sA s_1, rN rc, sC s_1, I, uZ D k (((env (rF rc) k).length : Nat) : Int), sO s_1) : ScT) then uZ (sI ((sA s_1, rN rc, sC s_1, I, uZ D k (((env (rF rc) k).length : Nat) : Int), sO s_1) : ScT)) ((k : Int) + 1).toNat (hd (env (rF rc) k)) else sI ((sA s_1, rN rc, sC s_1, I, uZ D k (((env (rF rc) k).length : Nat) : Int), sO s_1) : ScT)) = (uZ I (k + 1) (hd (env (rF rc) k))) from if_pos (by show (0 : Int) ≤ (k : Int) + 1 ∧ (k : Int) + 1 < (rN rc : Int); (first | omega | (dsimp only [rN, rC, rF, rG, rH, rA, sN, sC, sI, sD, sO, sA, uN, uF] at *; omega)))] <;> rfl) ?_
            refine g_aload_n (pc := 84) hX 0 d_SC_read_84 rfl rfl ?_
            refine g_aload_n (pc := 85) hX 1 d_SC_read_85 rfl rfl ?_
            refine g_iload_n (pc := 86) hX 2 d_SC_read_86 rfl rfl ?_
            refine g_iV (pc := 87) hX (c_RW_second l E r rc rk _ (by (first | omega | (dsimp only [rN, rC, rF, rG, rH, rA, sN, sC, sI, sD, sO, sA, uN, uF] at *; omega))) (by (first | omega | (dsimp only [rN, rC, rF, rG, rH, rA, sN, sC, sI, sD, sO, sA, uN, uF] at *; omega)))) gy_RW_second gv_RW_second w_260 rfl (by decide) (by decide) [4, 5, 6, 7] rfl rfl rfl rfl rfl _ rfl (Nat.le_of_ble_eq_true rfl) d_SC_read_87 (show _ + 0 ≤ 6000 by (first | omega | (dsimp only [rN, rC, rF, rG, rH, rA, sN, sC, sI, sD, sO, sA, uN, uF] at *; omega))) (show _ + 0 ≤ 36000 by (first | omega | (dsimp only [rN, rC, rF, rG, rH, rA, sN, sC, sI, sD, sO, sA, uN, uF] at *; omega))) ?_
            refine g_iload (pc := 90) hX d_SC_read_90 rfl ?_
            refine g_iSN (pc := 92) hX (c_NS_isBinder l E _ (by (first | omega | (dsimp only [rN, rC, rF, rG, rH, rA, sN, sC, sI, sD, sO, sA, uN, uF] at *; omega)))) gy_NS_isBinder w_219 n_261 rfl (by decide) (by decide) [] rfl rfl _ rfl (Nat.le_of_ble_eq_true rfl) d_SC_read_92 (show _ + 0 ≤ 6000 by (first | omega | (dsimp only [rN, rC, rF, rG, rH, rA, sN, sC, sI, sD, sO, sA, uN, uF] at *; omega))) (show _ + 0 ≤ 36000 by (first | omega | (dsimp only [rN, rC, rF, rG, rH, rA, sN, sC, sI, sD, sO, sA, uN, uF] at *; omega))) ?_
            refine g_beq (pc := 95) (tgt := 102) hX d_SC_read_95 (by decide) (fun c_7 => ?_) (fun c_7 => ?_)
            · refine g_iload_n (pc := 102) hX 3 d_SC_read_102 rfl rfl ?_
              have hl2 : gin (hd (lastE (rF rc) k (env (rF rc) k))) := by rw [show (hd (lastE (rF rc) k (env (rF rc) k))) = hd (env (rF rc) k) from by unfold lastE; rw [if_neg (show ¬ bP (rF rc k) from c_7)]]; (first | omega | (dsimp only [rN, rC, rF, rG, rH, rA, sN, sC, sI, sD, sO, sA, uN, uF] at *; omega))
              refine g_st (.int (iI (hd (lastE (rF rc) k (env (rF rc) k)))) :: .int (iI ((k + 1 + σ (k + 1) : Nat) : Int)) :: .ref s :: []) (by rw [show (hd (lastE (rF rc) k (env (rF rc) k))) = hd (env (rF rc) k) from by unfold lastE; rw [if_neg (show ¬ bP (rF rc k) from c_7)], show ((k + 1 + σ (k + 1) : Nat) : Int) = (k : Int) + 1 + rS rc ((k : Int) + 1) by (first | omega | (dsimp only [rN, rC, rF, rG, rH, rA, sN, sC, sI, sD, sO, sA, uN, uF] at *; omega))] <;> rfl) ?_
              refine g_callV (pc := 103) hX (c_SC_setInnermost l E s ((sA s_1, rN rc, sC s_1, (uZ I (k + 1) (hd (env (rF rc) k))), uZ D k (((env (rF rc) k).length : Nat) : Int), sO s_1) : ScT) hok3 _ (by (first | omega | (dsimp only [rN, rC, rF, rG, rH, rA, sN, sC, sI, sD, sO, sA, uN, uF] at *; omega))) _ (by (first | omega | (dsimp only [rN, rC, rF, rG, rH, rA, sN, sC, sI, sD, sO, sA, uN, uF] at *; omega)))) gy_SC_setInnermost gv_SC_setInnermost w_247 rfl (by decide) (by decide) [0, 1, 2, 3] rfl rfl rfl rfl rfl _ rfl (Nat.le_of_ble_eq_true rfl) d_SC_read_103 (show _ + 0 ≤ 6000 by (first | omega | (dsimp only [rN, rC, rF, rG, rH, rA, sN, sC, sI, sD, sO, sA, uN, uF] at *; omega))) (show _ + 0 ≤ 36000 by (first | omega | (dsimp only [rN, rC, rF, rG, rH, rA, sN, sC, sI, sD, sO, sA, uN, uF] at *; omega))) (fun _ _ _ _ h => by obtain ⟨_, _, h2, _⟩ := h; rw [h2]; exact Nat.le_of_ble_eq_true rfl) (fun v w dc_8 ds_8 hp => ?_)
              obtain ⟨s_8, rfl, rfl, sk_8, f_8⟩ := hp
              refine g_ws (scW E s s_8 ++ rowW E r rc) rfl ?_
              obtain ⟨rfl, rfl, rfl⟩ := f_8
              refine g_ws (scW E s ((sA s_1, rN rc, sC s_1, (uZ (uZ I (k + 1) (hd (env (rF rc) k))) (k + 1 + σ (k + 1)) (hd (lastE (rF rc) k (env (rF rc) k)))), uZ D k (((env (rF rc) k).length : Nat) : Int), sO s_1) : ScT) ++ rowW E r rc) (by rw [show (if (0 : Int) ≤ ((k + 1 + σ (k + 1) : Nat) : Int) ∧ ((k + 1 + σ (k + 1) : Nat) : Int) < sN ((sA s_1, rN rc, sC s_1, (uZ I (k + 1) (hd (env (rF rc) k))), uZ D k (((env (rF rc) k).length : Nat) : Int), sO s_1) : ScT) then uZ (sI ((sA s_1, rN rc, sC s_1, (uZ I (k + 1) (hd (env (rF rc) k))), uZ D k (((env (rF rc) k).length : Nat) : Int), sO s_1) : ScT)) (((k + 1 + σ (k + 1) : Nat) : Int)).toNat (hd (lastE (rF rc) k (env (rF rc) k))) else sI ((sA s_1, rN rc, sC s_1, (uZ I (k + 1) (hd (env (rF rc) k))), uZ D k (((env (rF rc) k).length : Nat) : Int), sO s_1) : ScT)) = (uZ (uZ I (k + 1) (hd (env (rF rc) k))) (k + 1 + σ (k + 1)) (hd (lastE (rF rc) k (env (rF rc) k)))) from if_pos (by show (0 : Int) ≤ ((k + 1 + σ (k + 1) : Nat) : Int) ∧ ((k + 1 + σ (k + 1) : Nat) : Int) < (rN rc : Int); (first | omega | (dsimp only [rN, rC, rF, rG, rH, rA, sN, sC, sI, sD, sO, sA, uN, uF] at *; omega)))] <;> rfl) ?_
              refine g_iinc (pc := 106) hX d_SC_read_106 (by decide) rfl ?_
              refine g_goto (pc := 109) (tgt := 24) hX d_SC_read_109 (by decide) ?_
              refine g_lv [(0, .ref s), (1, .ref r), (2, .int (iI ((k + 1 : Nat) : Int)))] ⟨rfl, rfl, rfl, trivial⟩ ?_
              have hDn : ∀ j, j < k + 1 → (uZ D k (((env (rF rc) k).length : Nat) : Int)) j = (((env (rF rc) j).length : Nat) : Int) := by
                intro j hj
                by_cases e : j = k
                · subst e; exact uZ_s
                · rw [uZ_n e]; exact hD j (by (first | omega | (dsimp only [rN, rC, rF, rG, rH, rA, sN, sC, sI, sD, sO, sA, uN, uF] at *; omega)))
              exact ih (k + 1) (uZ (uZ I (k + 1) (hd (env (rF rc) k))) (k + 1 + σ (k + 1)) (hd (lastE (rF rc) k (env (rF rc) k)))) (uZ D k (((env (rF rc) k).length : Nat) : Int)) (by (first | omega | (dsimp only [rN, rC, rF, rG, rH, rA, sN, sC, sI, sD, sO, sA, uN, uF] at *; omega))) (by (first | omega | (dsimp only [rN, rC, rF, rG, rH, rA, sN, sC, sI, sD, sO, sA, uN, uF] at *; omega))) (uZ_gin (uZ_gin hir (by (first | omega | (dsimp only [rN, rC, rF, rG, rH, rA, sN, sC, sI, sD, sO, sA, uN, uF] at *; omega)))) hl2) hd1 (inv2_part hz h0 (by (first | omega | (dsimp only [rN, rC, rF, rG, rH, rA, sN, sC, sI, sD, sO, sA, uN, uF] at *; omega))) hp hI2) hDn
            · refine g_iload_n (pc := 98) hX 2 d_SC_read_98 rfl rfl ?_
              refine g_goto (pc := 99) (tgt := 103) hX d_SC_read_99 (by decide) ?_
              have hl2 : gin (hd (lastE (rF rc) k (env (rF rc) k))) := by rw [show (hd (lastE (rF rc) k (env (rF rc) k))) = (k : Int) from by unfold lastE; rw [if_pos (show bP (rF rc k) from c_7)]; rfl]; (first | omega | (dsimp only [rN, rC, rF, rG, rH, rA, sN, sC, sI, sD, sO, sA, uN, uF] at *; omega))
              refine g_st (.int (iI (hd (lastE (rF rc) k (env (rF rc) k)))) :: .int (iI ((k + 1 + σ (k + 1) : Nat) : Int)) :: .ref s :: []) (by rw [show (hd (lastE (rF rc) k (env (rF rc) k))) = (k : Int) from by unfold lastE; rw [if_pos (show bP (rF rc k) from c_7)]; rfl, show ((k + 1 + σ (k + 1) : Nat) : Int) = (k : Int) + 1 + rS rc ((k : Int) + 1) by (first | omega | (dsimp only [rN, rC, rF, rG, rH, rA, sN, sC, sI, sD, sO, sA, uN, uF] at *; omega))] <;> rfl) ?_
              refine g_callV (pc := 103) hX (c_SC_setInnermost l E s ((sA s_1, rN rc, sC s_1, (uZ I (k + 1) (hd (env (rF rc) k))), uZ D k (((env (rF rc) k).length : Nat) : Int), sO s_1) : ScT) hok3 _ (by (first | omega | (dsimp only [rN, rC, rF, rG, rH, rA, sN, sC, sI, sD, sO, sA, uN, uF] at *; omega))) _ (by (first | omega | (dsimp only [rN, rC, rF, rG, rH, rA, sN, sC, sI, sD, sO, sA, uN, uF] at *; omega)))) gy_SC_setInnermost gv_SC_setInnermost w_247 rfl (by decide) (by decide) [0, 1, 2, 3] rfl rfl rfl rfl rfl _ rfl (Nat.le_of_ble_eq_true rfl) d_SC_read_103 (show _ + 0 ≤ 6000 by (first | omega | (dsimp only [rN, rC, rF, rG, rH, rA, sN, sC, sI, sD, sO, sA, uN, uF] at *; omega))) (show _ + 0 ≤ 36000 by (first | omega | (dsimp only [rN, rC, rF, rG, rH, rA, sN, sC, sI, sD, sO, sA, uN, uF] at *; omega))) (fun _ _ _ _ h => by obtain ⟨_, _, h2, _⟩ := h; rw [h2]; exact Nat.le_of_ble_eq_true rfl) (fun v w dc_9 ds_9 hp => ?_)
              obtain ⟨s_9, rfl, rfl, sk_9, f_9⟩ := hp
              refine g_ws (scW E s s_9 ++ rowW E r rc) rfl ?_
              obtain ⟨rfl, rfl, rfl⟩ := f_9
              refine g_ws (scW E s ((sA s_1, rN rc, sC s_1, (uZ (uZ I (k + 1) (hd (env (rF rc) k))) (k + 1 + σ (k + 1)) (hd (lastE (rF rc) k (env (rF rc) k)))), uZ D k (((env (rF rc) k).length : Nat) : Int), sO s_1) : ScT) ++ rowW E r rc) (by rw [show (if (0 : Int) ≤ ((k + 1 + σ (k + 1) : Nat) : Int) ∧ ((k + 1 + σ (k + 1) : Nat) : Int) < sN ((sA s_1, rN rc, sC s_1, (uZ I (k + 1) (hd (env (rF rc) k))), uZ D k (((env (rF rc) k).length : Nat) : Int), sO s_1) : ScT) then uZ (sI ((sA s_1, rN rc, sC s_1, (uZ I (k + 1) (hd (env (rF rc) k))), uZ D k (((env (rF rc) k).length : Nat) : Int), sO s_1) : ScT)) (((k + 1 + σ (k + 1) : Nat) : Int)).toNat (hd (lastE (rF rc) k (env (rF rc) k))) else sI ((sA s_1, rN rc, sC s_1, (uZ I (k + 1) (hd (env (rF rc) k))), uZ D k (((env (rF rc) k).length : Nat) : Int), sO s_1) : ScT)) = (uZ (uZ I (k + 1) (hd (env (rF rc) k))) (k + 1 + σ (k + 1)) (hd (lastE (rF rc) k (env (rF rc) k)))) from if_pos (by show (0 : Int) ≤ ((k + 1 + σ (k + 1) : Nat) : Int) ∧ ((k + 1 + σ (k + 1) : Nat) : Int) < (rN rc : Int); (first | omega | (dsimp only [rN, rC, rF, rG, rH, rA, sN, sC, sI, sD, sO, sA, uN, uF] at *; omega)))] <;> rfl) ?_
              refine g_iinc (pc := 106) hX d_SC_read_106 (by decide) rfl ?_
              refine g_goto (pc := 109) (tgt := 24) hX d_SC_read_109 (by decide) ?_
              refine g_lv [(0, .ref s), (1, .ref r), (2, .int (iI ((k + 1 : Nat) : Int)))] ⟨rfl, rfl, rfl, trivial⟩ ?_
              have hDn : ∀ j, j < k + 1 → (uZ D k (((env (rF rc) k).length : Nat) : Int)) j = (((env (rF rc) j).length : Nat) : Int) := by
                intro j hj
                by_cases e : j = k
                · subst e; exact uZ_s
                · rw [uZ_n e]; exact hD j (by (first | omega | (dsimp only [rN, rC, rF, rG, rH, rA, sN, sC, sI, sD, sO, sA, uN, uF] at *; omega)))
              exact ih (k + 1) (uZ (uZ I (k + 1) (hd (env (rF rc) k))) (k + 1 + σ (k + 1)) (hd (lastE (rF rc) k (env (rF rc) k)))) (uZ D k (((env (rF rc) k).length : Nat) : Int)) (by (first | omega | (dsimp only [rN, rC, rF, rG, rH, rA, sN, sC, sI, sD, sO, sA, uN, uF] at *; omega))) (by (first | omega | (dsimp only [rN, rC, rF, rG, rH, rA, sN, sC, sI, sD, sO, sA, uN, uF] at *; omega))) (uZ_gin (uZ_gin hir (by (first | omega | (dsimp only [rN, rC, rF, rG, rH, rA, sN, sC, sI, sD, sO, sA, uN, uF] at *; omega)))) hl2) hd1 (inv2_part hz h0 (by (first | omega | (dsimp only [rN, rC, rF, rG, rH, rA, sN, sC, sI, sD, sO, sA, uN, uF] at *; omega))) hp hI2) hDn
        · refine g_iconst (pc := 49) hX d_SC_read_49 ?_
          refine g_goto (pc := 50) (tgt := 60) hX d_SC_read_50 (by decide) ?_
          have hle := env_le hz h0 (show k < rN rc by (first | omega | (dsimp only [rN, rC, rF, rG, rH, rA, sN, sC, sI, sD, sO, sA, uN, uF] at *; omega)))
          have hdv : (0 : Int) = (((env (rF rc) k).length : Nat) : Int) := by
            rcases env_hd hz h0 (show k < rN rc by (first | omega | (dsimp only [rN, rC, rF, rG, rH, rA, sN, sC, sI, sD, sO, sA, uN, uF] at *; omega))) with ⟨e1, e2⟩ | ⟨b, e1, e2, e3, e4⟩
            · rw [e1]; rfl
            · (first | omega | (dsimp only [rN, rC, rF, rG, rH, rA, sN, sC, sI, sD, sO, sA, uN, uF] at *; omega))
          refine g_st (.int (iI (((env (rF rc) k).length : Nat) : Int)) :: .int (iI (k : Int)) :: .ref (sA s_1).2.1 :: []) (by rw [← hdv]) ?_
          refine g_iast (pc := 60) hX 2 rfl (by (first | omega | (dsimp only [rN, rC, rF, rG, rH, rA, sN, sC, sI, sD, sO, sA, uN, uF] at *; omega))) d_SC_read_60 ?_
          have hd1 : ∀ j, 0 ≤ (uZ D k (((env (rF rc) k).length : Nat) : Int)) j ∧ (uZ D k (((env (rF rc) k).length : Nat) : Int)) j ≤ 3000 := by
            intro j; unfold uZ; split
            · (first | omega | (dsimp only [rN, rC, rF, rG, rH, rA, sN, sC, sI, sD, sO, sA, uN, uF] at *; omega))
            · exact hdr j
          have hok2 : scOK ((sA s_1, rN rc, sC s_1, I, uZ D k (((env (rF rc) k).length : Nat) : Int), sO s_1) : ScT) := sk_1.u (by (first | omega | (dsimp only [rN, rC, rF, rG, rH, rA, sN, sC, sI, sD, sO, sA, uN, uF] at *; omega))) hir hd1 so1
          refine g_ws (scW E s ((sA s_1, rN rc, sC s_1, I, uZ D k (((env (rF rc) k).length : Nat) : Int), sO s_1) : ScT) ++ rowW E r rc) rfl ?_
          have hkk : rK rc (k : Int) = rF rc k := rK_t (by (first | omega | (dsimp only [rN, rC, rF, rG, rH, rA, sN, sC, sI, sD, sO, sA, uN, uF] at *; omega)))
          have qf := rf k
          refine g_aload_n (pc := 61) hX 1 d_SC_read_61 rfl rfl ?_
          refine g_iload_n (pc := 62) hX 2 d_SC_read_62 rfl rfl ?_
          refine g_iV (pc := 63) hX (c_RW_kind l E r rc rk _ (by (first | omega | (dsimp only [rN, rC, rF, rG, rH, rA, sN, sC, sI, sD, sO, sA, uN, uF] at *; omega)))) gy_RW_kind gv_RW_kind w_255 rfl (by decide) (by decide) [4, 5, 6, 7] rfl rfl rfl rfl rfl _ rfl (Nat.le_of_ble_eq_true rfl) d_SC_read_63 (show _ + 0 ≤ 6000 by (first | omega | (dsimp only [rN, rC, rF, rG, rH, rA, sN, sC, sI, sD, sO, sA, uN, uF] at *; omega))) (show _ + 0 ≤ 36000 by (first | omega | (dsimp only [rN, rC, rF, rG, rH, rA, sN, sC, sI, sD, sO, sA, uN, uF] at *; omega))) ?_
          rw [hkk]
          refine g_istore (pc := 66) hX d_SC_read_66 (by decide) ?_
          refine g_iload (pc := 68) hX d_SC_read_68 rfl ?_
          refine g_iSN (pc := 70) hX (c_NS_hasParts l E _ (by (first | omega | (dsimp only [rN, rC, rF, rG, rH, rA, sN, sC, sI, sD, sO, sA, uN, uF] at *; omega)))) gy_NS_hasParts w_216 n_259 rfl (by decide) (by decide) [] rfl rfl _ rfl (Nat.le_of_ble_eq_true rfl) d_SC_read_70 (show _ + 0 ≤ 6000 by (first | omega | (dsimp only [rN, rC, rF, rG, rH, rA, sN, sC, sI, sD, sO, sA, uN, uF] at *; omega))) (show _ + 0 ≤ 36000 by (first | omega | (dsimp only [rN, rC, rF, rG, rH, rA, sN, sC, sI, sD, sO, sA, uN, uF] at *; omega))) ?_
          refine g_beq (pc := 73) (tgt := 106) hX d_SC_read_73 (by decide) (fun c_10 => ?_) (fun c_10 => ?_)
          · refine g_iinc (pc := 106) hX d_SC_read_106 (by decide) rfl ?_
            refine g_goto (pc := 109) (tgt := 24) hX d_SC_read_109 (by decide) ?_
            refine g_lv [(0, .ref s), (1, .ref r), (2, .int (iI ((k + 1 : Nat) : Int)))] ⟨rfl, rfl, rfl, trivial⟩ ?_
            have hDn : ∀ j, j < k + 1 → (uZ D k (((env (rF rc) k).length : Nat) : Int)) j = (((env (rF rc) j).length : Nat) : Int) := by
              intro j hj
              by_cases e : j = k
              · subst e; exact uZ_s
              · rw [uZ_n e]; exact hD j (by (first | omega | (dsimp only [rN, rC, rF, rG, rH, rA, sN, sC, sI, sD, sO, sA, uN, uF] at *; omega)))
            exact ih (k + 1) I (uZ D k (((env (rF rc) k).length : Nat) : Int)) (by (first | omega | (dsimp only [rN, rC, rF, rG, rH, rA, sN, sC, sI, sD, sO, sA, uN, uF] at *; omega))) (by (first | omega | (dsimp only [rN, rC, rF, rG, rH, rA, sN, sC, sI, sD, sO, sA, uN, uF] at *; omega))) hir hd1 (inv2_leaf (fun q => c_10 q) hI2) hDn
          · have hp : pP (rF rc k) := by unfold pP; exact c_10
            obtain ⟨z1, z2, z3⟩ := (hz k (Nat.zero_le _) (by (first | omega | (dsimp only [rN, rC, rF, rG, rH, rA, sN, sC, sI, sD, sO, sA, uN, uF] at *; omega)))).2.2.1 hp
            have hs1 : rS rc ((k : Int) + 1) = σ (k + 1) := by rw [rS_t (by (first | omega | (dsimp only [rN, rC, rF, rG, rH, rA, sN, sC, sI, sD, sO, sA, uN, uF] at *; omega)))]; exact hsz (k + 1) z1
            refine g_aload_n (pc := 76) hX 0 d_SC_read_76 rfl rfl ?_
            refine g_iload_n (pc := 77) hX 2 d_SC_read_77 rfl rfl ?_
            refine g_iconst (pc := 78) hX d_SC_read_78 ?_
            refine g_iadd (pc := 79) hX d_SC_read_79 ?_
            refine g_iload_n (pc := 80) hX 3 d_SC_read_80 rfl rfl ?_
            refine g_callV (pc := 81) hX (c_SC_setInnermost l E s ((sA s_1, rN rc, sC s_1, I, uZ D k (((env (rF rc) k).length : Nat) : Int), sO s_1) : ScT) hok2 _ (by (first | omega | (dsimp only [rN, rC, rF, rG, rH, rA, sN, sC, sI, sD, sO, sA, uN, uF] at *; omega))) _ (by (first | omega | (dsimp only [rN, rC, rF, rG, rH, rA, sN, sC, sI, sD, sO, sA, uN, uF] at *; omega)))) gy_SC_setInnermost gv_SC_setInnermost w_247 rfl (by decide) (by decide) [0, 1, 2, 3] rfl rfl rfl rfl rfl _ rfl (Nat.le_of_ble_eq_true rfl) d_SC_read_81 (show _ + 0 ≤ 6000 by (first | omega | (dsimp only [rN, rC, rF, rG, rH, rA, sN, sC, sI, sD, sO, sA, uN, uF] at *; omega))) (show _ + 0 ≤ 36000 by (first | omega | (dsimp only [rN, rC, rF, rG, rH, rA, sN, sC, sI, sD, sO, sA, uN, uF] at *; omega))) (fun _ _ _ _ h => by obtain ⟨_, _, h2, _⟩ := h; rw [h2]; exact Nat.le_of_ble_eq_true rfl) (fun v w dc_11 ds_11 hp => ?_)
            obtain ⟨s_11, rfl, rfl, sk_11, f_11⟩ := hp
            refine g_ws (scW E s s_11 ++ rowW E r rc) rfl ?_
            obtain ⟨rfl, rfl, rfl⟩ := f_11
            have hok3 : scOK ((sA s_1, rN rc, sC s_1, (uZ I (k + 1) (hd (env (rF rc) k))), uZ D k (((env (rF rc) k).length : Nat) : Int), sO s_1) : ScT) := sk_1.u (by (first | omega | (dsimp only [rN, rC, rF, rG, rH, rA, sN, sC, sI, sD, sO, sA, uN, uF] at *; omega))) (uZ_gin hir (by (first | omega | (dsimp only [rN, rC, rF, rG, rH, rA, sN, sC, sI, sD, sO, sA, uN, uF] at *; omega)))) hd1 so1
            refine g_ws (scW E s ((sA s_1, rN rc, sC s_1, (uZ I (k + 1) (hd (env (rF rc) k))), uZ D k (((env (rF rc) k).length : Nat) : Int), sO s_1) : ScT) ++ rowW E r rc) (by rw [show (if (0 : Int) ≤ (k : Int) + 1 ∧ (k : Int) + 1 < sN ((sA s_1, rN rc, sC s_1, I, uZ D k (((env (rF rc) k).length : Nat) : Int), sO s_1) : ScT) then uZ (sI ((sA s_1, rN rc, sC s_1, I, uZ D k (((env (rF rc) k).length : Nat) : Int), sO s_1) : ScT)) ((k : Int) + 1).toNat (hd (env (rF rc) k)) else sI ((sA s_1, rN rc, sC s_1, I, uZ D k (((env (rF rc) k).length : Nat) : Int), sO s_1) : ScT)) = (uZ I (k + 1) (hd (env (rF rc) k))) from if_pos (by show (0 : Int) ≤ (k : Int) + 1 ∧ (k : Int) + 1 < (rN rc : Int); (first | omega | (dsimp only [rN, rC, rF, rG, rH, rA, sN, sC, sI, sD, sO, sA, uN, uF] at *; omega)))] <;> rfl) ?_
            refine g_aload_n (pc := 84) hX 0 d_SC_read_84 rfl rfl ?_
            refine g_aload_n (pc := 85) hX 1 d_SC_read_85 rfl rfl ?_
            refine g_iload_n (pc := 86) hX 2 d_SC_read_86 rfl rfl ?_
            refine g_iV (pc := 87) hX (c_RW_second l E r rc rk _ (by (first | omega | (dsimp only [rN, rC, rF, rG, rH, rA, sN, sC, sI, sD, sO, sA, uN, uF] at *; omega))) (by (first | omega | (dsimp only [rN, rC, rF, rG, rH, rA, sN, sC, sI, sD, sO, sA, uN, uF] at *; omega)))) gy_RW_second gv_RW_second w_260 rfl (by decide) (by decide) [4, 5, 6, 7] rfl rfl rfl rfl rfl _ rfl (Nat.le_of_ble_eq_true rfl) d_SC_read_87 (show _ + 0 ≤ 6000 by (first | omega | (dsimp only [rN, rC, rF, rG, rH, rA, sN, sC, sI, sD, sO, sA, uN, uF] at *; omega))) (show _ + 0 ≤ 36000 by (first | omega | (dsimp only [rN, rC, rF, rG, rH, rA, sN, sC, sI, sD, sO, sA, uN, uF] at *; omega))) ?_
            refine g_iload (pc := 90) hX d_SC_read_90 rfl ?_
            refine g_iSN (pc := 92) hX (c_NS_isBinder l E _ (by (first | omega | (dsimp only [rN, rC, rF, rG, rH, rA, sN, sC, sI, sD, sO, sA, uN, uF] at *; omega)))) gy_NS_isBinder w_219 n_261 rfl (by decide) (by decide) [] rfl rfl _ rfl (Nat.le_of_ble_eq_true rfl) d_SC_read_92 (show _ + 0 ≤ 6000 by (first | omega | (dsimp only [rN, rC, rF, rG, rH, rA, sN, sC, sI, sD, sO, sA, uN, uF] at *; omega))) (show _ + 0 ≤ 36000 by (first | omega | (dsimp only [rN, rC, rF, rG, rH, rA, sN, sC, sI, sD, sO, sA, uN, uF] at *; omega))) ?_
            refine g_beq (pc := 95) (tgt := 102) hX d_SC_read_95 (by decide) (fun c_12 => ?_) (fun c_12 => ?_)
            · refine g_iload_n (pc := 102) hX 3 d_SC_read_102 rfl rfl ?_
              have hl2 : gin (hd (lastE (rF rc) k (env (rF rc) k))) := by rw [show (hd (lastE (rF rc) k (env (rF rc) k))) = hd (env (rF rc) k) from by unfold lastE; rw [if_neg (show ¬ bP (rF rc k) from c_12)]]; (first | omega | (dsimp only [rN, rC, rF, rG, rH, rA, sN, sC, sI, sD, sO, sA, uN, uF] at *; omega))
              refine g_st (.int (iI (hd (lastE (rF rc) k (env (rF rc) k)))) :: .int (iI ((k + 1 + σ (k + 1) : Nat) : Int)) :: .ref s :: []) (by rw [show (hd (lastE (rF rc) k (env (rF rc) k))) = hd (env (rF rc) k) from by unfold lastE; rw [if_neg (show ¬ bP (rF rc k) from c_12)], show ((k + 1 + σ (k + 1) : Nat) : Int) = (k : Int) + 1 + rS rc ((k : Int) + 1) by (first | omega | (dsimp only [rN, rC, rF, rG, rH, rA, sN, sC, sI, sD, sO, sA, uN, uF] at *; omega))] <;> rfl) ?_
              refine g_callV (pc := 103) hX (c_SC_setInnermost l E s ((sA s_1, rN rc, sC s_1, (uZ I (k + 1) (hd (env (rF rc) k))), uZ D k (((env (rF rc) k).length : Nat) : Int), sO s_1) : ScT) hok3 _ (by (first | omega | (dsimp only [rN, rC, rF, rG, rH, rA, sN, sC, sI, sD, sO, sA, uN, uF] at *; omega))) _ (by (first | omega | (dsimp only [rN, rC, rF, rG, rH, rA, sN, sC, sI, sD, sO, sA, uN, uF] at *; omega)))) gy_SC_setInnermost gv_SC_setInnermost w_247 rfl (by decide) (by decide) [0, 1, 2, 3] rfl rfl rfl rfl rfl _ rfl (Nat.le_of_ble_eq_true rfl) d_SC_read_103 (show _ + 0 ≤ 6000 by (first | omega | (dsimp only [rN, rC, rF, rG, rH, rA, sN, sC, sI, sD, sO, sA, uN, uF] at *; omega))) (show _ + 0 ≤ 36000 by (first | omega | (dsimp only [rN, rC, rF, rG, rH, rA, sN, sC, sI, sD, sO, sA, uN, uF] at *; omega))) (fun _ _ _ _ h => by obtain ⟨_, _, h2, _⟩ := h; rw [h2]; exact Nat.le_of_ble_eq_true rfl) (fun v w dc_13 ds_13 hp => ?_)
              obtain ⟨s_13, rfl, rfl, sk_13, f_13⟩ := hp
              refine g_ws (scW E s s_13 ++ rowW E r rc) rfl ?_
              obtain ⟨rfl, rfl, rfl⟩ := f_13
              refine g_ws (scW E s ((sA s_1, rN rc, sC s_1, (uZ (uZ I (k + 1) (hd (env (rF rc) k))) (k + 1 + σ (k + 1)) (hd (lastE (rF rc) k (env (rF rc) k)))), uZ D k (((env (rF rc) k).length : Nat) : Int), sO s_1) : ScT) ++ rowW E r rc) (by rw [show (if (0 : Int) ≤ ((k + 1 + σ (k + 1) : Nat) : Int) ∧ ((k + 1 + σ (k + 1) : Nat) : Int) < sN ((sA s_1, rN rc, sC s_1, (uZ I (k + 1) (hd (env (rF rc) k))), uZ D k (((env (rF rc) k).length : Nat) : Int), sO s_1) : ScT) then uZ (sI ((sA s_1, rN rc, sC s_1, (uZ I (k + 1) (hd (env (rF rc) k))), uZ D k (((env (rF rc) k).length : Nat) : Int), sO s_1) : ScT)) (((k + 1 + σ (k + 1) : Nat) : Int)).toNat (hd (lastE (rF rc) k (env (rF rc) k))) else sI ((sA s_1, rN rc, sC s_1, (uZ I (k + 1) (hd (env (rF rc) k))), uZ D k (((env (rF rc) k).length : Nat) : Int), sO s_1) : ScT)) = (uZ (uZ I (k + 1) (hd (env (rF rc) k))) (k + 1 + σ (k + 1)) (hd (lastE (rF rc) k (env (rF rc) k)))) from if_pos (by show (0 : Int) ≤ ((k + 1 + σ (k + 1) : Nat) : Int) ∧ ((k + 1 + σ (k + 1) : Nat) : Int) < (rN rc : Int); (first | omega | (dsimp only [rN, rC, rF, rG, rH, rA, sN, sC, sI, sD, sO, sA, uN, uF] at *; omega)))] <;> rfl) ?_
              refine g_iinc (pc := 106) hX d_SC_read_106 (by decide) rfl ?_
              refine g_goto (pc := 109) (tgt := 24) hX d_SC_read_109 (by decide) ?_
              refine g_lv [(0, .ref s), (1, .ref r), (2, .int (iI ((k + 1 : Nat) : Int)))] ⟨rfl, rfl, rfl, trivial⟩ ?_
              have hDn : ∀ j, j < k + 1 → (uZ D k (((env (rF rc) k).length : Nat) : Int)) j = (((env (rF rc) j).length : Nat) : Int) := by
                intro j hj
                by_cases e : j = k
                · subst e; exact uZ_s
                · rw [uZ_n e]; exact hD j (by (first | omega | (dsimp only [rN, rC, rF, rG, rH, rA, sN, sC, sI, sD, sO, sA, uN, uF] at *; omega)))
              exact ih (k + 1) (uZ (uZ I (k + 1) (hd (env (rF rc) k))) (k + 1 + σ (k + 1)) (hd (lastE (rF rc) k (env (rF rc) k)))) (uZ D k (((env (rF rc) k).length : Nat) : Int)) (by (first | omega | (dsimp only [rN, rC, rF, rG, rH, rA, sN, sC, sI, sD, sO, sA, uN, uF] at *; omega))) (by (first | omega | (dsimp only [rN, rC, rF, rG, rH, rA, sN, sC, sI, sD, sO, sA, uN, uF] at *; omega))) (uZ_gin (uZ_gin hir (by (first | omega | (dsimp only [rN, rC, rF, rG, rH, rA, sN, sC, sI, sD, sO, sA, uN, uF] at *; omega)))) hl2) hd1 (inv2_part hz h0 (by (first | omega | (dsimp only [rN, rC, rF, rG, rH, rA, sN, sC, sI, sD, sO, sA, uN, uF] at *; omega))) hp hI2) hDn
            · refine g_iload_n (pc := 98) hX 2 d_SC_read_98 rfl rfl ?_
              refine g_goto (pc := 99) (tgt := 103) hX d_SC_read_99 (by decide) ?_
              have hl2 : gin (hd (lastE (rF rc) k (env (rF rc) k))) := by rw [show (hd (lastE (rF rc) k (env (rF rc) k))) = (k : Int) from by unfold lastE; rw [if_pos (show bP (rF rc k) from c_12)]; rfl]; (first | omega | (dsimp only [rN, rC, rF, rG, rH, rA, sN, sC, sI, sD, sO, sA, uN, uF] at *; omega))
              refine g_st (.int (iI (hd (lastE (rF rc) k (env (rF rc) k)))) :: .int (iI ((k + 1 + σ (k + 1) : Nat) : Int)) :: .ref s :: []) (by rw [show (hd (lastE (rF rc) k (env (rF rc) k))) = (k : Int) from by unfold lastE; rw [if_pos (show bP (rF rc k) from c_12)]; rfl, show ((k + 1 + σ (k + 1) : Nat) : Int) = (k : Int) + 1 + rS rc ((k : Int) + 1) by (first | omega | (dsimp only [rN, rC, rF, rG, rH, rA, sN, sC, sI, sD, sO, sA, uN, uF] at *; omega))] <;> rfl) ?_
              refine g_callV (pc := 103) hX (c_SC_setInnermost l E s ((sA s_1, rN rc, sC s_1, (uZ I (k + 1) (hd (env (rF rc) k))), uZ D k (((env (rF rc) k).length : Nat) : Int), sO s_1) : ScT) hok3 _ (by (first | omega | (dsimp only [rN, rC, rF, rG, rH, rA, sN, sC, sI, sD, sO, sA, uN, uF] at *; omega))) _ (by (first | omega | (dsimp only [rN, rC, rF, rG, rH, rA, sN, sC, sI, sD, sO, sA, uN, uF] at *; omega)))) gy_SC_setInnermost gv_SC_setInnermost w_247 rfl (by decide) (by decide) [0, 1, 2, 3] rfl rfl rfl rfl rfl _ rfl (Nat.le_of_ble_eq_true rfl) d_SC_read_103 (show _ + 0 ≤ 6000 by (first | omega | (dsimp only [rN, rC, rF, rG, rH, rA, sN, sC, sI, sD, sO, sA, uN, uF] at *; omega))) (show _ + 0 ≤ 36000 by (first | omega | (dsimp only [rN, rC, rF, rG, rH, rA, sN, sC, sI, sD, sO, sA, uN, uF] at *; omega))) (fun _ _ _ _ h => by obtain ⟨_, _, h2, _⟩ := h; rw [h2]; exact Nat.le_of_ble_eq_true rfl) (fun v w dc_14 ds_14 hp => ?_)
              obtain ⟨s_14, rfl, rfl, sk_14, f_14⟩ := hp
              refine g_ws (scW E s s_14 ++ rowW E r rc) rfl ?_
              obtain ⟨rfl, rfl, rfl⟩ := f_14
              refine g_ws (scW E s ((sA s_1, rN rc, sC s_1, (uZ (uZ I (k + 1) (hd (env (rF rc) k))) (k + 1 + σ (k + 1)) (hd (lastE (rF rc) k (env (rF rc) k)))), uZ D k (((env (rF rc) k).length : Nat) : Int), sO s_1) : ScT) ++ rowW E r rc) (by rw [show (if (0 : Int) ≤ ((k + 1 + σ (k + 1) : Nat) : Int) ∧ ((k + 1 + σ (k + 1) : Nat) : Int) < sN ((sA s_1, rN rc, sC s_1, (uZ I (k + 1) (hd (env (rF rc) k))), uZ D k (((env (rF rc) k).length : Nat) : Int), sO s_1) : ScT) then uZ (sI ((sA s_1, rN rc, sC s_1, (uZ I (k + 1) (hd (env (rF rc) k))), uZ D k (((env (rF rc) k).length : Nat) : Int), sO s_1) : ScT)) (((k + 1 + σ (k + 1) : Nat) : Int)).toNat (hd (lastE (rF rc) k (env (rF rc) k))) else sI ((sA s_1, rN rc, sC s_1, (uZ I (k + 1) (hd (env (rF rc) k))), uZ D k (((env (rF rc) k).length : Nat) : Int), sO s_1) : ScT)) = (uZ (uZ I (k + 1) (hd (env (rF rc) k))) (k + 1 + σ (k + 1)) (hd (lastE (rF rc) k (env (rF rc) k)))) from if_pos (by show (0 : Int) ≤ ((k + 1 + σ (k + 1) : Nat) : Int) ∧ ((k + 1 + σ (k + 1) : Nat) : Int) < (rN rc : Int); (first | omega | (dsimp only [rN, rC, rF, rG, rH, rA, sN, sC, sI, sD, sO, sA, uN, uF] at *; omega)))] <;> rfl) ?_
              refine g_iinc (pc := 106) hX d_SC_read_106 (by decide) rfl ?_
              refine g_goto (pc := 109) (tgt := 24) hX d_SC_read_109 (by decide) ?_
              refine g_lv [(0, .ref s), (1, .ref r), (2, .int (iI ((k + 1 : Nat) : Int)))] ⟨rfl, rfl, rfl, trivial⟩ ?_
              have hDn : ∀ j, j < k + 1 → (uZ D k (((env (rF rc) k).length : Nat) : Int)) j = (((env (rF rc) j).length : Nat) : Int) := by
                intro j hj
                by_cases e : j = k
                · subst e; exact uZ_s
                · rw [uZ_n e]; exact hD j (by (first | omega | (dsimp only [rN, rC, rF, rG, rH, rA, sN, sC, sI, sD, sO, sA, uN, uF] at *; omega)))
              exact ih (k + 1) (uZ (uZ I (k + 1) (hd (env (rF rc) k))) (k + 1 + σ (k + 1)) (hd (lastE (rF rc) k (env (rF rc) k)))) (uZ D k (((env (rF rc) k).length : Nat) : Int)) (by (first | omega | (dsimp only [rN, rC, rF, rG, rH, rA, sN, sC, sI, sD, sO, sA, uN, uF] at *; omega))) (by (first | omega | (dsimp only [rN, rC, rF, rG, rH, rA, sN, sC, sI, sD, sO, sA, uN, uF] at *; omega))) (uZ_gin (uZ_gin hir (by (first | omega | (dsimp only [rN, rC, rF, rG, rH, rA, sN, sC, sI, sD, sO, sA, uN, uF] at *; omega)))) hl2) hd1 (inv2_part hz h0 (by (first | omega | (dsimp only [rN, rC, rF, rG, rH, rA, sN, sC, sI, sD, sO, sA, uN, uF] at *; omega))) hp hI2) hDn
  refine g_lv [(0, .ref s), (1, .ref r), (2, .int (iI ((0 : Nat) : Int)))] ⟨rfl, rfl, rfl, trivial⟩ ?_
  exact loop (rN rc + 1) 0 (uZ (sI s_1) 0 (-1)) (sD s_1) (by (first | omega | (dsimp only [rN, rC, rF, rG, rH, rA, sN, sC, sI, sD, sO, sA, uN, uF] at *; omega))) (by (first | omega | (dsimp only [rN, rC, rF, rG, rH, rA, sN, sC, sI, sD, sO, sA, uN, uF] at *; omega))) (uZ_gin si1 (by decide)) sd1 (fun j hj hw => by
    rcases hw with hw | ⟨p, h1, -⟩
    · subst hw; rfl
    · (first | omega | (dsimp only [rN, rC, rF, rG, rH, rA, sN, sC, sI, sD, sO, sA, uN, uF] at *; omega))) (fun j hj => by (first | omega | (dsimp only [rN, rC, rF, rG, rH, rA, sN, sC, sI, sD, sO, sA, uN, uF] at *; omega)))
  
end
section
/-- the class's own object: where its pieces are -/
abbrev nsO (x g kp pa la s n te sp : Nat) : va_W := [(x, .inr (4, [.ref g, .ref kp, .ref pa, .ref la, .ref s, .ref n, .ref te, .ref sp]))]
/-- a measured row: σ are its sizes -/
def mea (ρ : RowT) (σ : Nat → Nat) : Prop := Sz (rN ρ) (rF ρ) σ 0 ∧ σ 0 = rN ρ ∧ 0 < rN ρ ∧ ∀ j, j < rN ρ → rH ρ j = σ j
/-- the scopes have read the row -/
def scFor (ς : ScT) (ρ : RowT) : Prop := sN ς = rN ρ ∧ ∀ k, k < rN ρ → sD ς k = (((env (rF ρ) k).length : Nat) : Int) ∧ sI ς k = hd (env (rF ρ) k)
/-- depth by the environment -/
abbrev dep (f : Nat → Int) (k : Nat) : Nat := (env f k).length
theorem scFor.d {ς : ScT} {ρ : RowT} (h : scFor ς ρ) {k : Nat} (hk : k < rN ρ) : zD ς (k : Int) = (dep (rF ρ) k : Int) := by
  rw [zD_t (by have := h.1; omega)]
  exact (h.2 k hk).1
def nodeR (ρ : RowT) (k w : Int) : Int := if 0 ≤ k ∧ k < rN ρ then (if w = 0 then rF ρ k.toNat else if w = 1 then rG ρ k.toNat else if w = 2 then rH ρ k.toNat else -1) else -1
def wrtR (ρ : RowT) (k w : Int) : Int := if 0 ≤ k ∧ k < rN ρ then (if w = 0 then rF ρ k.toNat else if w = 1 then rG ρ k.toNat else -1) else -1
end
section
abbrev rm_NS_nodes : Room := { frames := 1, cells := 0, slots := 0, locals := 20 }
set_option maxHeartbeats 4000000 in
set_option maxRecDepth 100000 in
theorem c_NS_nodes (l : Launch) (E : gE) (x g kp pa la s n te sp : Nat) (tec : RowT) (tek : rowOK tec) : CtI l E y_NS_nodes b_NS_nodes 1 (some .int) rm_NS_nodes [.ref x] (nsO x g kp pa la s n te sp ++ rowW E te tec) (rN tec) := by
  refine g_start (by decide) (Nat.le_of_ble_eq_true rfl) (fun X hX hE hin => ?_)
  refine g_aload_n (pc := 0) hX 0 d_NS_nodes_0 rfl rfl ?_
  refine g_get (pc := 1) hX f_NS_45 0 rfl rfl d_NS_nodes_1 ?_
  refine g_iV (pc := 4) hX (c_RW_count l E te tec tek) gy_RW_count gv_RW_count w_157 rfl (by decide) (by decide) [1, 2, 3, 4] rfl rfl rfl rfl rfl _ rfl (Nat.le_of_ble_eq_true rfl) d_NS_nodes_4 (by decide) (by decide) ?_
  exact g_iret (pc := 7) hX hE d_NS_nodes_7 (by decide) (by decide) ⟨rfl, rfl, rfl, rfl⟩

abbrev rm_NS_drop : Room := { frames := 1, cells := 0, slots := 0, locals := 20 }
set_option maxHeartbeats 4000000 in
set_option maxRecDepth 100000 in
theorem c_NS_drop (l : Launch) (E : gE) (x g kp pa la s n te sp : Nat) (lac : RowT) (lak : rowOK lac) : Ct l E y_NS_drop b_NS_drop 2 (some .int) rm_NS_drop [.ref x] (nsO x g kp pa la s n te sp ++ rowW E la lac) (fun v w dc ds => ∃ ρ, v = some (.int (iI (rN lac))) ∧ w = nsO x g kp pa la s n te sp ++ rowW E la ρ ∧ rowOK ρ ∧ (rN ρ = 0 ∧ rC ρ = rC lac ∧ dc = 0 ∧ ds = 0)) := by
  refine g_start (by decide) (Nat.le_of_ble_eq_true rfl) (fun X hX hE hin => ?_)
  refine g_aload_n (pc := 0) hX 0 d_NS_drop_0 rfl rfl ?_
  refine g_get (pc := 1) hX f_NS_26 0 rfl rfl d_NS_drop_1 ?_
  refine g_iV (pc := 4) hX (c_RW_count l E la lac lak) gy_RW_count gv_RW_count w_157 rfl (by decide) (by decide) [1, 2, 3, 4] rfl rfl rfl rfl rfl _ rfl (Nat.le_of_ble_eq_true rfl) d_NS_drop_4 (by decide) (by decide) ?_
  refine g_istore_n (pc := 7) hX 1 d_NS_drop_7 rfl (by decide) ?_
  refine g_aload_n (pc := 8) hX 0 d_NS_drop_8 rfl rfl ?_
  refine g_get (pc := 9) hX f_NS_26 0 rfl rfl d_NS_drop_9 ?_
  refine g_callV (pc := 12) hX (c_RW_clear l E la lac lak) gy_RW_clear gv_RW_clear w_203 rfl (by decide) (by decide) [1, 2, 3, 4] rfl rfl rfl rfl rfl _ rfl (Nat.le_of_ble_eq_true rfl) d_NS_drop_12 (by decide) (by decide) (fun _ _ _ _ h => by obtain ⟨_, _, h2, _⟩ := h; rw [h2]; exact Nat.le_of_ble_eq_true rfl) (fun v w dc_1 ds_1 hp => ?_)
  obtain ⟨la_1, rfl, rfl, lak_1, f_1_1, f_1_2, rfl, rfl⟩ := hp
  refine g_ws (nsO x g kp pa la s n te sp ++ rowW E la la_1) rfl ?_
  refine g_iload_n (pc := 15) hX 1 d_NS_drop_15 rfl rfl ?_
  exact g_iret (pc := 16) hX hE d_NS_drop_16 (by decide) (by decide) ⟨la_1, rfl, rfl, lak_1, f_1_1, f_1_2, rfl, rfl⟩

abbrev rm_NS_node : Room := { frames := 2, cells := 0, slots := 0, locals := 42 }
set_option maxHeartbeats 4000000 in
set_option maxRecDepth 100000 in
theorem c_NS_node (l : Launch) (E : gE) (x g kp pa la s n te sp : Nat) (tec : RowT) (tek : rowOK tec) (k : Int) (hk : gin k) (w : Int) (hw : gin w) : CtL l E y_NS_node b_NS_node 3 (some .long) rm_NS_node [.ref x, .int (iI k), .int (iI w)] (nsO x g kp pa la s n te sp ++ rowW E te tec) (nodeR tec k w) := by
  have k1 := rK_in tek k
  have k2 := rS_in tek k
  refine g_start (by decide) (Nat.le_of_ble_eq_true rfl) (fun X hX hE hin => ?_)
  refine g_aload_n (pc := 0) hX 0 d_NS_node_0 rfl rfl ?_
  refine g_get (pc := 1) hX f_NS_45 0 rfl rfl d_NS_node_1 ?_
  refine g_iload_n (pc := 4) hX 1 d_NS_node_4 rfl rfl ?_
  refine g_iV (pc := 5) hX (c_RW_has l E te tec tek _ (by omega)) gy_RW_has gv_RW_has w_309 rfl (by decide) (by decide) [1, 2, 3, 4] rfl rfl rfl rfl rfl _ rfl (Nat.le_of_ble_eq_true rfl) d_NS_node_5 (by decide) (by decide) ?_
  refine g_bne (pc := 8) (tgt := 15) hX d_NS_node_8 (by decide) (fun c_1 => ?_) (fun c_1 => ?_)
  · refine g_iload_n (pc := 15) hX 2 d_NS_node_15 rfl rfl ?_
    by_cases e_0 : w = 0
    · rw [e_0]
      refine g_tsw (pc := 16) (tgt := 44) hX d_NS_node_16 (by decide) (by decide) (by decide) rfl (by decide) ?_
      refine g_aload_n (pc := 44) hX 0 d_NS_node_44 rfl rfl ?_
      refine g_get (pc := 45) hX f_NS_45 0 rfl rfl d_NS_node_45 ?_
      refine g_iload_n (pc := 48) hX 1 d_NS_node_48 rfl rfl ?_
      refine g_iV (pc := 49) hX (c_RW_kind l E te tec tek _ (by omega)) gy_RW_kind gv_RW_kind w_274 rfl (by decide) (by decide) [1, 2, 3, 4] rfl rfl rfl rfl rfl _ rfl (Nat.le_of_ble_eq_true rfl) d_NS_node_49 (by decide) (by decide) ?_
      refine g_i2l (pc := 52) hX d_NS_node_52 (by omega) ?_
      exact g_lret (pc := 53) hX hE d_NS_node_53 (by decide) (by decide) ⟨by rw [rK_t c_1, nodeR, if_pos c_1, e_0, if_pos rfl], rfl, rfl, rfl⟩
    by_cases e_1 : w = 1
    · rw [e_1]
      refine g_tsw (pc := 16) (tgt := 54) hX d_NS_node_16 (by decide) (by decide) (by decide) rfl (by decide) ?_
      refine g_aload_n (pc := 54) hX 0 d_NS_node_54 rfl rfl ?_
      refine g_get (pc := 55) hX f_NS_45 0 rfl rfl d_NS_node_55 ?_
      refine g_iload_n (pc := 58) hX 1 d_NS_node_58 rfl rfl ?_
      refine g_lV (pc := 59) hX (c_RW_beside l E te tec tek _ (by omega)) gy_RW_beside gv_RW_beside w_275 rfl (by decide) (by decide) [1, 2, 3, 4] rfl rfl rfl rfl rfl _ rfl (Nat.le_of_ble_eq_true rfl) d_NS_node_59 (by decide) (by decide) ?_
      exact g_lret (pc := 62) hX hE d_NS_node_62 (by decide) (by decide) ⟨by rw [rB_t c_1, nodeR, if_pos c_1, e_1, if_neg (by decide), if_pos rfl], rfl, rfl, rfl⟩
    by_cases e_2 : w = 2
    · rw [e_2]
      refine g_tsw (pc := 16) (tgt := 63) hX d_NS_node_16 (by decide) (by decide) (by decide) rfl (by decide) ?_
      refine g_aload_n (pc := 63) hX 0 d_NS_node_63 rfl rfl ?_
      refine g_get (pc := 64) hX f_NS_45 0 rfl rfl d_NS_node_64 ?_
      refine g_iload_n (pc := 67) hX 1 d_NS_node_67 rfl rfl ?_
      refine g_iV (pc := 68) hX (c_RW_size l E te tec tek _ (by omega)) gy_RW_size gv_RW_size w_311 rfl (by decide) (by decide) [1, 2, 3, 4] rfl rfl rfl rfl rfl _ rfl (Nat.le_of_ble_eq_true rfl) d_NS_node_68 (by decide) (by decide) ?_
      refine g_i2l (pc := 71) hX d_NS_node_71 (by omega) ?_
      exact g_lret (pc := 72) hX hE d_NS_node_72 (by decide) (by decide) ⟨by rw [rS_t c_1, nodeR, if_pos c_1, e_2, if_neg (by decide), if_neg (by decide), if_pos rfl], rfl, rfl, rfl⟩
    refine g_tswO (pc := 16) (tgt := 73) hX d_NS_node_16 (by omega) (by omega) (by decide) ?_
    refine g_ldc2 (pc := 73) hX (-1) w_310 (by decide) d_NS_node_73 ?_
    exact g_lret (pc := 76) hX hE d_NS_node_76 (by decide) (by decide) ⟨by rw [nodeR, if_pos c_1, if_neg e_0, if_neg e_1, if_neg e_2], rfl, rfl, rfl⟩
  · refine g_ldc2 (pc := 11) hX (-1) w_310 (by decide) d_NS_node_11 ?_
    exact g_lret (pc := 14) hX hE d_NS_node_14 (by decide) (by decide) ⟨by rw [nodeR, if_neg c_1], rfl, rfl, rfl⟩

abbrev rm_NS_written : Room := { frames := 2, cells := 0, slots := 0, locals := 42 }
set_option maxHeartbeats 4000000 in
set_option maxRecDepth 100000 in
theorem c_NS_written (l : Launch) (E : gE) (x g kp pa la s n te sp : Nat) (pac : RowT) (pak : rowOK pac) (k : Int) (hk : gin k) (w : Int) (hw : gin w) : CtL l E y_NS_written b_NS_written 3 (some .long) rm_NS_written [.ref x, .int (iI k), .int (iI w)] (nsO x g kp pa la s n te sp ++ rowW E pa pac) (wrtR pac k w) := by
  have k1 := rK_in pak k
  refine g_start (by decide) (Nat.le_of_ble_eq_true rfl) (fun X hX hE hin => ?_)
  refine g_aload_n (pc := 0) hX 0 d_NS_written_0 rfl rfl ?_
  refine g_get (pc := 1) hX f_NS_23 0 rfl rfl d_NS_written_1 ?_
  refine g_iload_n (pc := 4) hX 1 d_NS_written_4 rfl rfl ?_
  refine g_iV (pc := 5) hX (c_RW_has l E pa pac pak _ (by omega)) gy_RW_has gv_RW_has w_309 rfl (by decide) (by decide) [1, 2, 3, 4] rfl rfl rfl rfl rfl _ rfl (Nat.le_of_ble_eq_true rfl) d_NS_written_5 (by decide) (by decide) ?_
  refine g_bne (pc := 8) (tgt := 15) hX d_NS_written_8 (by decide) (fun c_1 => ?_) (fun c_1 => ?_)
  · refine g_iload_n (pc := 15) hX 2 d_NS_written_15 rfl rfl ?_
    by_cases e_0 : w = 0
    · rw [e_0]
      refine g_lsw (pc := 16) (tgt := 44) hX d_NS_written_16 (by decide) (by decide) rfl (by decide) ?_
      refine g_aload_n (pc := 44) hX 0 d_NS_written_44 rfl rfl ?_
      refine g_get (pc := 45) hX f_NS_23 0 rfl rfl d_NS_written_45 ?_
      refine g_iload_n (pc := 48) hX 1 d_NS_written_48 rfl rfl ?_
      refine g_iV (pc := 49) hX (c_RW_kind l E pa pac pak _ (by omega)) gy_RW_kind gv_RW_kind w_274 rfl (by decide) (by decide) [1, 2, 3, 4] rfl rfl rfl rfl rfl _ rfl (Nat.le_of_ble_eq_true rfl) d_NS_written_49 (by decide) (by decide) ?_
      refine g_i2l (pc := 52) hX d_NS_written_52 (by omega) ?_
      exact g_lret (pc := 53) hX hE d_NS_written_53 (by decide) (by decide) ⟨by rw [rK_t c_1, wrtR, if_pos c_1, e_0, if_pos rfl], rfl, rfl, rfl⟩
    by_cases e_1 : w = 1
    · rw [e_1]
      refine g_lsw (pc := 16) (tgt := 54) hX d_NS_written_16 (by decide) (by decide) rfl (by decide) ?_
      refine g_aload_n (pc := 54) hX 0 d_NS_written_54 rfl rfl ?_
      refine g_get (pc := 55) hX f_NS_23 0 rfl rfl d_NS_written_55 ?_
      refine g_iload_n (pc := 58) hX 1 d_NS_written_58 rfl rfl ?_
      refine g_lV (pc := 59) hX (c_RW_beside l E pa pac pak _ (by omega)) gy_RW_beside gv_RW_beside w_275 rfl (by decide) (by decide) [1, 2, 3, 4] rfl rfl rfl rfl rfl _ rfl (Nat.le_of_ble_eq_true rfl) d_NS_written_59 (by decide) (by decide) ?_
      exact g_lret (pc := 62) hX hE d_NS_written_62 (by decide) (by decide) ⟨by rw [rB_t c_1, wrtR, if_pos c_1, e_1, if_neg (by decide), if_pos rfl], rfl, rfl, rfl⟩
    refine g_lsw (pc := 16) (tgt := 63) hX d_NS_written_16 (by decide) (by omega) (by simp [Op.lookupswitch.offset_cons, Op.lookupswitch.offset, Ne.symm e_0, e_0, Ne.symm e_1, e_1]; rfl) (by decide) ?_
    refine g_ldc2 (pc := 63) hX (-1) w_310 (by decide) d_NS_written_63 ?_
    exact g_lret (pc := 66) hX hE d_NS_written_66 (by decide) (by decide) ⟨by rw [wrtR, if_pos c_1, if_neg e_0, if_neg e_1], rfl, rfl, rfl⟩
  · refine g_ldc2 (pc := 11) hX (-1) w_310 (by decide) d_NS_written_11 ?_
    exact g_lret (pc := 14) hX hE d_NS_written_14 (by decide) (by decide) ⟨by rw [wrtR, if_neg c_1], rfl, rfl, rfl⟩

abbrev rm_NS_again : Room := { frames := 4, cells := 6000, slots := 36000, locals := 91 }
set_option maxHeartbeats 4000000 in
set_option maxRecDepth 100000 in
theorem c_NS_again (l : Launch) (E : gE) (x g kp pa la s n te sp : Nat) (lac : RowT) (lak : rowOK lac) (pac : RowT) (pak : rowOK pac) : Ct l E y_NS_again b_NS_again 1 (some .int) rm_NS_again [.ref x] (nsO x g kp pa la s n te sp ++ rowW E la lac ++ rowW E pa pac) (fun v w dc ds => ∃ ρ, v = some (.int (iI (rN pac))) ∧ w = nsO x g kp pa la s n te sp ++ rowW E la ρ ++ rowW E pa pac ∧ rowOK ρ ∧ (rL ρ = rL pac ∧ rN ρ = rN pac ∧ rGrow lac ρ dc ds)) := by
  obtain ⟨⟨la1, la2, la3, la4⟩, laf, lag, lah⟩ := id lak
  refine g_start (by decide) (Nat.le_of_ble_eq_true rfl) (fun X hX hE hin => ?_)
  refine g_aload_n (pc := 0) hX 0 d_NS_again_0 rfl rfl ?_
  refine g_get (pc := 1) hX f_NS_26 0 rfl rfl d_NS_again_1 ?_
  refine g_aload_n (pc := 4) hX 0 d_NS_again_4 rfl rfl ?_
  refine g_get (pc := 5) hX f_NS_23 0 rfl rfl d_NS_again_5 ?_
  refine g_callV (pc := 8) hX (c_RW_become l E la lac lak pa pac pak) gy_RW_become gv_RW_become w_442 rfl (by decide) (by decide) [1, 2, 3, 4, 5, 6, 7, 8] rfl rfl rfl rfl rfl _ rfl (Nat.le_of_ble_eq_true rfl) d_NS_again_8 (show _ + 6000 ≤ 6000 by omega) (show _ + 36000 ≤ 36000 by omega) (fun _ _ _ _ h => by obtain ⟨_, _, h2, _⟩ := h; rw [h2]; exact Nat.le_of_ble_eq_true rfl) (fun v w dc_1 ds_1 hp => ?_)
  obtain ⟨la_1, rfl, rfl, lak_1, f_1⟩ := hp
  refine g_ws (nsO x g kp pa la s n te sp ++ rowW E la la_1 ++ rowW E pa pac) rfl ?_
  obtain ⟨b1, b2, b3, b4, b5⟩ := id f_1
  obtain ⟨⟨m1, m2, m3, m4⟩, -⟩ := id lak_1
  refine g_aload_n (pc := 11) hX 0 d_NS_again_11 rfl rfl ?_
  refine g_get (pc := 12) hX f_NS_26 0 rfl rfl d_NS_again_12 ?_
  refine g_iV (pc := 15) hX (c_RW_count l E la la_1 lak_1) gy_RW_count gv_RW_count w_157 rfl (by decide) (by decide) [1, 2, 3, 4] rfl rfl rfl rfl rfl _ rfl (Nat.le_of_ble_eq_true rfl) d_NS_again_15 (show _ + 0 ≤ 6000 by omega) (show _ + 0 ≤ 36000 by omega) ?_
  exact g_iret (pc := 18) hX hE d_NS_again_18 (show _ ≤ 6000 by omega) (show _ ≤ 36000 by omega) ⟨la_1, by rw [b2], rfl, lak_1, b1, b2, by rw [Nat.zero_add, Nat.zero_add]; exact ⟨b3, b4, b5⟩⟩

abbrev rm_NS_keep : Room := { frames := 4, cells := 6000, slots := 36000, locals := 91 }
set_option maxHeartbeats 4000000 in
set_option maxRecDepth 100000 in
theorem c_NS_keep (l : Launch) (E : gE) (x g kp pa la s n te sp : Nat) (kpc : RowT) (kpk : rowOK kpc) (tec : RowT) (tek : rowOK tec) : Ct l E y_NS_keep b_NS_keep 1 (some .int) rm_NS_keep [.ref x] (nsO x g kp pa la s n te sp ++ rowW E kp kpc ++ rowW E te tec) (fun v w dc ds => ∃ ρ, v = some (.int (iI (rN tec))) ∧ w = nsO x g kp pa la s n te sp ++ rowW E kp ρ ++ rowW E te tec ∧ rowOK ρ ∧ (rL ρ = rL tec ∧ rN ρ = rN tec ∧ rGrow kpc ρ dc ds)) := by
  obtain ⟨⟨kp1, kp2, kp3, kp4⟩, kpf, kpg, kph⟩ := id kpk
  refine g_start (by decide) (Nat.le_of_ble_eq_true rfl) (fun X hX hE hin => ?_)
  refine g_aload_n (pc := 0) hX 0 d_NS_keep_0 rfl rfl ?_
  refine g_get (pc := 1) hX f_NS_19 0 rfl rfl d_NS_keep_1 ?_
  refine g_aload_n (pc := 4) hX 0 d_NS_keep_4 rfl rfl ?_
  refine g_get (pc := 5) hX f_NS_45 0 rfl rfl d_NS_keep_5 ?_
  refine g_callV (pc := 8) hX (c_RW_become l E kp kpc kpk te tec tek) gy_RW_become gv_RW_become w_442 rfl (by decide) (by decide) [1, 2, 3, 4, 5, 6, 7, 8] rfl rfl rfl rfl rfl _ rfl (Nat.le_of_ble_eq_true rfl) d_NS_keep_8 (show _ + 6000 ≤ 6000 by omega) (show _ + 36000 ≤ 36000 by omega) (fun _ _ _ _ h => by obtain ⟨_, _, h2, _⟩ := h; rw [h2]; exact Nat.le_of_ble_eq_true rfl) (fun v w dc_1 ds_1 hp => ?_)
  obtain ⟨kp_1, rfl, rfl, kpk_1, f_1⟩ := hp
  refine g_ws (nsO x g kp pa la s n te sp ++ rowW E kp kp_1 ++ rowW E te tec) rfl ?_
  obtain ⟨b1, b2, b3, b4, b5⟩ := id f_1
  obtain ⟨⟨m1, m2, m3, m4⟩, -⟩ := id kpk_1
  refine g_aload_n (pc := 11) hX 0 d_NS_keep_11 rfl rfl ?_
  refine g_get (pc := 12) hX f_NS_19 0 rfl rfl d_NS_keep_12 ?_
  refine g_iV (pc := 15) hX (c_RW_count l E kp kp_1 kpk_1) gy_RW_count gv_RW_count w_157 rfl (by decide) (by decide) [1, 2, 3, 4] rfl rfl rfl rfl rfl _ rfl (Nat.le_of_ble_eq_true rfl) d_NS_keep_15 (show _ + 0 ≤ 6000 by omega) (show _ + 0 ≤ 36000 by omega) ?_
  exact g_iret (pc := 18) hX hE d_NS_keep_18 (show _ ≤ 6000 by omega) (show _ ≤ 36000 by omega) ⟨kp_1, by rw [b2], rfl, kpk_1, b1, b2, by rw [Nat.zero_add, Nat.zero_add]; exact ⟨b3, b4, b5⟩⟩
end
section
-- what is copied when a term is contracted
theorem rng_succ (a m : Nat) : List.range' a (m + 1) = List.range' a m ++ [a + m] := by
  rw [List.range'_concat]; simp
def seg (f g : Nat → Int) (a m : Nat) : List (Int × Int) := (List.range' a m).map (fun j => (f j, g j))
theorem seg_succ (f g : Nat → Int) (a m : Nat) : seg f g a (m + 1) = seg f g a m ++ [(f (a + m), g (a + m))] := by unfold seg; rw [rng_succ]; simp
theorem seg_0 (f g : Nat → Int) (a : Nat) : seg f g a 0 = [] := rfl
theorem seg_len (f g : Nat → Int) (a m : Nat) : (seg f g a m).length = m := by simp [seg]
/-- is node j a use of binder b's variable -/
abbrev isUse (f g : Nat → Int) (b j : Nat) : Prop := f j = 0 ∧ g j = (dep f j : Int) - ((dep f b : Int) + 1)
def uCnt (f g : Nat → Int) (b lo m : Nat) : Nat := (List.range' lo m).countP (fun j => decide (isUse f g b j))
theorem uCnt_0 (f g : Nat → Int) (b lo : Nat) : uCnt f g b lo 0 = 0 := rfl
theorem uCnt_succ (f g : Nat → Int) (b lo m : Nat) : uCnt f g b lo (m + 1) = uCnt f g b lo m + (if isUse f g b (lo + m) then 1 else 0) := by
  unfold uCnt; rw [rng_succ, List.countP_append]; simp [List.countP_cons]
theorem uCnt_le (f g : Nat → Int) (b lo m : Nat) : uCnt f g b lo m ≤ m := by
  unfold uCnt
  have := List.countP_le_length (p := fun j => decide (isUse f g b j)) (l := List.range' lo m)
  simpa using this
/-- the value's nodes, with what is bound outside it d deeper -/
def vN (f g : Nat → Int) (v : Nat) (d : Int) (i : Nat) : Int × Int := (f i, if f i = 0 ∧ (dep f i : Int) - dep f v ≤ g i then g i + d else g i)
def vL (f g : Nat → Int) (v m : Nat) (d : Int) : List (Int × Int) := (List.range' v m).map (vN f g v d)
theorem vL_succ (f g : Nat → Int) (v m : Nat) (d : Int) : vL f g v (m + 1) d = vL f g v m d ++ [vN f g v d (v + m)] := by unfold vL; rw [rng_succ]; simp
theorem vL_len (f g : Nat → Int) (v m : Nat) (d : Int) : (vL f g v m d).length = m := by simp [vL]
/-- what node j of binder b's last part becomes -/
def nL (f g : Nat → Int) (b v vs j : Nat) : List (Int × Int) := if f j ≠ 0 ∨ g j < (dep f j : Int) - ((dep f b : Int) + 1) then [(f j, g j)] else if g j = (dep f j : Int) - ((dep f b : Int) + 1) then vL f g v vs ((dep f j : Int) - ((dep f b : Int) + 1)) else [(0, g j - 1)]
def bL (f g : Nat → Int) (b v vs lo m : Nat) : List (Int × Int) := (List.range' lo m).flatMap (nL f g b v vs)
theorem bL_succ (f g : Nat → Int) (b v vs lo m : Nat) : bL f g b v vs lo (m + 1) = bL f g b v vs lo m ++ nL f g b v vs (lo + m) := by unfold bL; rw [rng_succ]; simp
theorem bL_mono (f g : Nat → Int) (b v vs lo : Nat) : ∀ m k, (bL f g b v vs lo m).length ≤ (bL f g b v vs lo (m + k)).length
  | m, 0 => Nat.le_refl _
  | m, k + 1 => by
    have := bL_mono f g b v vs lo m k
    rw [← Nat.add_assoc, bL_succ, List.length_append]
    omega
theorem bL_len (f g : Nat → Int) (b v vs lo : Nat) (hv : 1 ≤ vs) : ∀ m, ((bL f g b v vs lo m).length : Int) = m + uCnt f g b lo m * ((vs : Int) - 1)
  | 0 => by simp [bL, uCnt]
  | m + 1 => by
    rw [bL_succ, List.length_append, Int.natCast_add, bL_len f g b v vs lo hv m, uCnt_succ]
    by_cases h : isUse f g b (lo + m)
    · rw [if_pos h]
      have : nL f g b v vs (lo + m) = vL f g v vs ((dep f (lo + m) : Int) - ((dep f b : Int) + 1)) := by
        unfold nL; rw [if_neg (by have := h.1; have := h.2; omega), if_pos h.2]
      rw [this, vL_len, Int.natCast_add, Int.natCast_add, Int.add_mul]
      simp; omega
    · rw [if_neg h]
      have : (nL f g b v vs (lo + m)).length = 1 := by
        unfold nL
        split
        · rfl
        · rw [if_neg (fun q => h ⟨by omega, q⟩)]; rfl
      rw [this]; simp; omega
theorem nL_1 {f g : Nat → Int} {b v vs j : Nat} (h : f j ≠ 0 ∨ g j < (dep f j : Int) - ((dep f b : Int) + 1)) : nL f g b v vs j = [(f j, g j)] := by unfold nL; rw [if_pos h]
theorem nL_2 {f g : Nat → Int} {b v vs j : Nat} (h0 : f j = 0) (h : g j = (dep f j : Int) - ((dep f b : Int) + 1)) : nL f g b v vs j = vL f g v vs ((dep f j : Int) - ((dep f b : Int) + 1)) := by unfold nL; rw [if_neg (by omega), if_pos h]
theorem nL_3 {f g : Nat → Int} {b v vs j : Nat} (h0 : f j = 0) (h : (dep f j : Int) - ((dep f b : Int) + 1) < g j) : nL f g b v vs j = [(0, g j - 1)] := by unfold nL; rw [if_neg (by omega), if_neg (by omega)]
/-- besides of a term are small, and not negative -/
def tB (ρ : RowT) : Prop := ∀ j, j < rN ρ → 0 ≤ rG ρ j ∧ rG ρ j < 4611686018427387904
def cbl (ρ : RowT) (k : Int) : Int := if 0 ≤ k ∧ k < rN ρ then (if rF ρ k.toNat = 3 then k else if rF ρ k.toNat = 4 ∧ rK ρ (k + 1) = 1 then k + 1 else -1) else -1
def sameR (ρ κ : RowT) : Prop := rN ρ = rN κ ∧ ∀ j, j < rN ρ → rF ρ j = rF κ j ∧ (bP (rF ρ j) ∨ rG ρ j = rG κ j)
theorem rGrow.tr {a b c : RowT} {d1 s1 d2 s2 : Nat} (h : rGrow a b d1 s1) (k : rGrow b c d2 s2) : rGrow a c (d1 + d2) (s1 + s2) := by
  obtain ⟨h1, h2, h3⟩ := h
  obtain ⟨k1, k2, k3⟩ := k
  exact ⟨by omega, by omega, by omega⟩
theorem mea.sz {ρ : RowT} {σ : Nat → Nat} (h : mea ρ σ) {k : Nat} (hk : k < rN ρ) : rS ρ (k : Int) = σ k := by
  rw [rS_t (by omega)]; exact h.2.2.2 k hk
theorem mea.en {ρ : RowT} {σ : Nat → Nat} (h : mea ρ σ) {k : Nat} (hk : k < rN ρ) : 1 ≤ σ k ∧ k + σ k ≤ rN ρ := ⟨(h.1 k (Nat.zero_le _) hk).1, (h.1 k (Nat.zero_le _) hk).2.1⟩
theorem mea.pt {ρ : RowT} {σ : Nat → Nat} (h : mea ρ σ) {k : Nat} (hk : k < rN ρ) (hp : pP (rF ρ k)) : k + 1 < rN ρ ∧ k + 1 + σ (k + 1) < rN ρ ∧ σ k = 1 + σ (k + 1) + σ (k + 1 + σ (k + 1)) := (h.1 k (Nat.zero_le _) hk).2.2.1 hp
end
section
abbrev rm_NS_same : Room := { frames := 2, cells := 0, slots := 0, locals := 42 }
set_option maxHeartbeats 4000000 in
set_option maxRecDepth 100000 in
theorem c_NS_same (l : Launch) (E : gE) (x g kp pa la s n te sp : Nat) (tec : RowT) (tek : rowOK tec) (kpc : RowT) (kpk : rowOK kpc) : CtI l E y_NS_same b_NS_same 4 (some .boolean) rm_NS_same [.ref x] (nsO x g kp pa la s n te sp ++ rowW E te tec ++ rowW E kp kpc) (bZ (sameR tec kpc)) := by
  obtain ⟨⟨te1, te2, te3, te4⟩, tef, teg, teh⟩ := id tek
  obtain ⟨⟨kp1, kp2, kp3, kp4⟩, kpf, kpg, kph⟩ := id kpk
  refine g_start (by decide) (Nat.le_of_ble_eq_true rfl) (fun X hX hE hin => ?_)
  refine g_aload_n (pc := 0) hX 0 d_NS_same_0 rfl rfl ?_
  refine g_get (pc := 1) hX f_NS_45 0 rfl rfl d_NS_same_1 ?_
  refine g_iV (pc := 4) hX (c_RW_count l E te tec tek) gy_RW_count gv_RW_count w_157 rfl (by decide) (by decide) [1, 2, 3, 4] rfl rfl rfl rfl rfl _ rfl (Nat.le_of_ble_eq_true rfl) d_NS_same_4 (by decide) (by decide) ?_
  refine g_istore_n (pc := 7) hX 1 d_NS_same_7 rfl (by decide) ?_
  refine g_iload_n (pc := 8) hX 1 d_NS_same_8 rfl rfl ?_
  refine g_aload_n (pc := 9) hX 0 d_NS_same_9 rfl rfl ?_
  refine g_get (pc := 10) hX f_NS_19 0 rfl rfl d_NS_same_10 ?_
  refine g_iV (pc := 13) hX (c_RW_count l E kp kpc kpk) gy_RW_count gv_RW_count w_157 rfl (by decide) (by decide) [5, 6, 7, 8] rfl rfl rfl rfl rfl _ rfl (Nat.le_of_ble_eq_true rfl) d_NS_same_13 (by decide) (by decide) ?_
  refine g_icmp_eq (pc := 16) (tgt := 21) hX d_NS_same_16 (by decide) (by omega) (by omega) (fun c_1 => ?_) (fun c_1 => ?_)
  · refine g_iconst (pc := 21) hX d_NS_same_21 ?_
    refine g_istore_n (pc := 22) hX 2 d_NS_same_22 rfl (by decide) ?_
    have loop : ∀ (d : Nat) (j : Nat), rN tec < j + d → j ≤ rN tec → (∀ i, i < j → rF tec i = rF kpc i ∧ (bP (rF tec i) ∨ rG tec i = rG kpc i)) → gW X (nsO x g kp pa la s n te sp ++ rowW E te tec ++ rowW E kp kpc) 0 0 23 [(0, .ref x), (1, .int (iI (rN tec : Int))), (2, .int (iI (j : Int)))] [] := by
      intro d
      induction d with
      | zero => intro j hfu hj hi; omega
      | succ d ih =>
        intro j hfu hj hi
        refine g_iload_n (pc := 23) hX 2 d_NS_same_23 rfl rfl ?_
        refine g_iload_n (pc := 24) hX 1 d_NS_same_24 rfl rfl ?_
        refine g_icmp_ge (pc := 25) (tgt := 86) hX d_NS_same_25 (by decide) (by omega) (by omega) (fun c_2 => ?_) (fun c_2 => ?_)
        · refine g_iconst (pc := 86) hX d_NS_same_86 ?_
          exact g_zret (pc := 87) hX hE (by first | exact Or.inl rfl | exact Or.inr rfl | exact bZ_01 _) d_NS_same_87 (by decide) (by decide) ⟨by rw [bZ_t ⟨by omega, fun i q => hi i (by omega)⟩], rfl, rfl, rfl⟩
        · have q1 : rK tec (j : Int) = rF tec j := rK_t (by omega)
          have q2 : rK kpc (j : Int) = rF kpc j := rK_t (by omega)
          have q3 : rB tec (j : Int) = rG tec j := rB_t (by omega)
          have q4 : rB kpc (j : Int) = rG kpc j := rB_t (by omega)
          have p1 := tef j
          have p2 := kpf j
          have p3 := teg j
          have p4 := kpg j
          refine g_aload_n (pc := 28) hX 0 d_NS_same_28 rfl rfl ?_
          refine g_get (pc := 29) hX f_NS_45 0 rfl rfl d_NS_same_29 ?_
          refine g_iload_n (pc := 32) hX 2 d_NS_same_32 rfl rfl ?_
          refine g_iV (pc := 33) hX (c_RW_kind l E te tec tek _ (by omega)) gy_RW_kind gv_RW_kind w_274 rfl (by decide) (by decide) [1, 2, 3, 4] rfl rfl rfl rfl rfl _ rfl (Nat.le_of_ble_eq_true rfl) d_NS_same_33 (by decide) (by decide) ?_
          rw [q1]
          refine g_istore_n (pc := 36) hX 3 d_NS_same_36 rfl (by decide) ?_
          refine g_iload_n (pc := 37) hX 3 d_NS_same_37 rfl rfl ?_
          refine g_aload_n (pc := 38) hX 0 d_NS_same_38 rfl rfl ?_
          refine g_get (pc := 39) hX f_NS_19 0 rfl rfl d_NS_same_39 ?_
          refine g_iload_n (pc := 42) hX 2 d_NS_same_42 rfl rfl ?_
          refine g_iV (pc := 43) hX (c_RW_kind l E kp kpc kpk _ (by omega)) gy_RW_kind gv_RW_kind w_274 rfl (by decide) (by decide) [5, 6, 7, 8] rfl rfl rfl rfl rfl _ rfl (Nat.le_of_ble_eq_true rfl) d_NS_same_43 (by decide) (by decide) ?_
          rw [q2]
          refine g_icmp_eq (pc := 46) (tgt := 51) hX d_NS_same_46 (by decide) (by omega) (by omega) (fun c_3 => ?_) (fun c_3 => ?_)
          · have kf : rF tec j = rF kpc j := by omega
            refine g_iload_n (pc := 51) hX 3 d_NS_same_51 rfl rfl ?_
            refine g_iS (pc := 52) hX (c_NS_isBinder l E _ (by omega)) gy_NS_isBinder w_219 w_218 rfl (by decide) (by decide) [] rfl rfl _ rfl (Nat.le_of_ble_eq_true rfl) d_NS_same_52 (by decide) (by decide) ?_
            refine g_bne (pc := 55) (tgt := 80) hX d_NS_same_55 (by decide) (fun c_4 => ?_) (fun c_4 => ?_)
            · have kb : bP (rF tec j) := c_4
              refine g_iinc (pc := 80) hX d_NS_same_80 (by decide) rfl ?_
              refine g_goto (pc := 83) (tgt := 23) hX d_NS_same_83 (by decide) ?_
              refine g_lv [(0, .ref x), (1, .int (iI (rN tec : Int))), (2, .int (iI ((j + 1 : Nat) : Int)))] ⟨rfl, rfl, rfl, trivial⟩ ?_
              exact ih (j + 1) (by omega) (by omega) (fun i q => by
                by_cases e : i = j
                · subst e; exact ⟨kf, by first | exact Or.inl kb | exact Or.inr kb⟩
                · exact hi i (by omega))
            · refine g_aload_n (pc := 58) hX 0 d_NS_same_58 rfl rfl ?_
              refine g_get (pc := 59) hX f_NS_45 0 rfl rfl d_NS_same_59 ?_
              refine g_iload_n (pc := 62) hX 2 d_NS_same_62 rfl rfl ?_
              refine g_lV (pc := 63) hX (c_RW_beside l E te tec tek _ (by omega)) gy_RW_beside gv_RW_beside w_275 rfl (by decide) (by decide) [1, 2, 3, 4] rfl rfl rfl rfl rfl _ rfl (Nat.le_of_ble_eq_true rfl) d_NS_same_63 (by decide) (by decide) ?_
              rw [q3]
              refine g_aload_n (pc := 66) hX 0 d_NS_same_66 rfl rfl ?_
              refine g_get (pc := 67) hX f_NS_19 0 rfl rfl d_NS_same_67 ?_
              refine g_iload_n (pc := 70) hX 2 d_NS_same_70 rfl rfl ?_
              refine g_lV (pc := 71) hX (c_RW_beside l E kp kpc kpk _ (by omega)) gy_RW_beside gv_RW_beside w_275 rfl (by decide) (by decide) [5, 6, 7, 8] rfl rfl rfl rfl rfl _ rfl (Nat.le_of_ble_eq_true rfl) d_NS_same_71 (by decide) (by decide) ?_
              rw [q4]
              refine g_lcmp_eq (pc := 74) (tgt := 80) hX d_NS_same_74 d_NS_same_75 (by decide) (by omega) (by omega) (fun c_5 => ?_) (fun c_5 => ?_)
              · have kb : rG tec j = rG kpc j := by omega
                refine g_iinc (pc := 80) hX d_NS_same_80 (by decide) rfl ?_
                refine g_goto (pc := 83) (tgt := 23) hX d_NS_same_83 (by decide) ?_
                refine g_lv [(0, .ref x), (1, .int (iI (rN tec : Int))), (2, .int (iI ((j + 1 : Nat) : Int)))] ⟨rfl, rfl, rfl, trivial⟩ ?_
                exact ih (j + 1) (by omega) (by omega) (fun i q => by
                  by_cases e : i = j
                  · subst e; exact ⟨kf, by first | exact Or.inl kb | exact Or.inr kb⟩
                  · exact hi i (by omega))
              · refine g_iconst (pc := 78) hX d_NS_same_78 ?_
                exact g_zret (pc := 79) hX hE (by first | exact Or.inl rfl | exact Or.inr rfl | exact bZ_01 _) d_NS_same_79 (by decide) (by decide) ⟨by rw [bZ_f (fun q => (q.2 j (by omega)).2.elim c_4 (fun z => by omega))], rfl, rfl, rfl⟩
          · refine g_iconst (pc := 49) hX d_NS_same_49 ?_
            exact g_zret (pc := 50) hX hE (by first | exact Or.inl rfl | exact Or.inr rfl | exact bZ_01 _) d_NS_same_50 (by decide) (by decide) ⟨by rw [bZ_f (fun q => by have := (q.2 j (by omega)).1; omega)], rfl, rfl, rfl⟩
    refine g_lv [(0, .ref x), (1, .int (iI (rN tec : Int))), (2, .int (iI ((0 : Nat) : Int)))] ⟨rfl, rfl, rfl, trivial⟩ ?_
    exact loop (rN tec + 1) 0 (by omega) (by omega) (fun i q => by omega)
    
  · refine g_iconst (pc := 19) hX d_NS_same_19 ?_
    exact g_zret (pc := 20) hX hE (by first | exact Or.inl rfl | exact Or.inr rfl | exact bZ_01 _) d_NS_same_20 (by decide) (by decide) ⟨by rw [bZ_f (fun q => by have := q.1; omega)], rfl, rfl, rfl⟩

abbrev rm_NS_contractible : Room := { frames := 2, cells := 0, slots := 0, locals := 42 }
set_option maxHeartbeats 4000000 in
set_option maxRecDepth 100000 in
theorem c_NS_contractible (l : Launch) (E : gE) (x g kp pa la s n te sp : Nat) (tec : RowT) (tek : rowOK tec) (k : Int) (hk : gin k) : CtI l E y_NS_contractible b_NS_contractible 2 (some .int) rm_NS_contractible [.ref x, .int (iI k)] (nsO x g kp pa la s n te sp ++ rowW E te tec) (cbl tec k) := by
  obtain ⟨⟨te1, te2, te3, te4⟩, tef, teg, teh⟩ := id tek
  have k1 := rK_in tek k
  have k2 := rK_in tek (k + 1)
  refine g_start (by decide) (Nat.le_of_ble_eq_true rfl) (fun X hX hE hin => ?_)
  refine g_aload_n (pc := 0) hX 0 d_NS_contractible_0 rfl rfl ?_
  refine g_get (pc := 1) hX f_NS_45 0 rfl rfl d_NS_contractible_1 ?_
  refine g_iload_n (pc := 4) hX 1 d_NS_contractible_4 rfl rfl ?_
  refine g_iV (pc := 5) hX (c_RW_has l E te tec tek _ (by omega)) gy_RW_has gv_RW_has w_309 rfl (by decide) (by decide) [1, 2, 3, 4] rfl rfl rfl rfl rfl _ rfl (Nat.le_of_ble_eq_true rfl) d_NS_contractible_5 (by decide) (by decide) ?_
  refine g_bne (pc := 8) (tgt := 13) hX d_NS_contractible_8 (by decide) (fun c_1 => ?_) (fun c_1 => ?_)
  · have q1 : rK tec k = rF tec k.toNat := rK_t c_1
    refine g_aload_n (pc := 13) hX 0 d_NS_contractible_13 rfl rfl ?_
    refine g_get (pc := 14) hX f_NS_45 0 rfl rfl d_NS_contractible_14 ?_
    refine g_iload_n (pc := 17) hX 1 d_NS_contractible_17 rfl rfl ?_
    refine g_iV (pc := 18) hX (c_RW_kind l E te tec tek _ (by omega)) gy_RW_kind gv_RW_kind w_274 rfl (by decide) (by decide) [1, 2, 3, 4] rfl rfl rfl rfl rfl _ rfl (Nat.le_of_ble_eq_true rfl) d_NS_contractible_18 (by decide) (by decide) ?_
    refine g_iconst (pc := 21) hX d_NS_contractible_21 ?_
    refine g_icmp_ne (pc := 22) (tgt := 27) hX d_NS_contractible_22 (by decide) (by omega) (by omega) (fun c_2 => ?_) (fun c_2 => ?_)
    · refine g_aload_n (pc := 27) hX 0 d_NS_contractible_27 rfl rfl ?_
      refine g_get (pc := 28) hX f_NS_45 0 rfl rfl d_NS_contractible_28 ?_
      refine g_iload_n (pc := 31) hX 1 d_NS_contractible_31 rfl rfl ?_
      refine g_iV (pc := 32) hX (c_RW_kind l E te tec tek _ (by omega)) gy_RW_kind gv_RW_kind w_274 rfl (by decide) (by decide) [1, 2, 3, 4] rfl rfl rfl rfl rfl _ rfl (Nat.le_of_ble_eq_true rfl) d_NS_contractible_32 (by decide) (by decide) ?_
      refine g_iconst (pc := 35) hX d_NS_contractible_35 ?_
      refine g_icmp_ne (pc := 36) (tgt := 59) hX d_NS_contractible_36 (by decide) (by omega) (by omega) (fun c_3 => ?_) (fun c_3 => ?_)
      · refine g_iconst (pc := 59) hX d_NS_contractible_59 ?_
        exact g_iret (pc := 60) hX hE d_NS_contractible_60 (by decide) (by decide) ⟨by rw [cbl, if_pos c_1, if_neg (by omega), if_neg (by omega)], rfl, rfl, rfl⟩
      · refine g_aload_n (pc := 39) hX 0 d_NS_contractible_39 rfl rfl ?_
        refine g_get (pc := 40) hX f_NS_45 0 rfl rfl d_NS_contractible_40 ?_
        refine g_iload_n (pc := 43) hX 1 d_NS_contractible_43 rfl rfl ?_
        refine g_iconst (pc := 44) hX d_NS_contractible_44 ?_
        refine g_iadd (pc := 45) hX d_NS_contractible_45 ?_
        refine g_iV (pc := 46) hX (c_RW_kind l E te tec tek _ (by omega)) gy_RW_kind gv_RW_kind w_274 rfl (by decide) (by decide) [1, 2, 3, 4] rfl rfl rfl rfl rfl _ rfl (Nat.le_of_ble_eq_true rfl) d_NS_contractible_46 (by decide) (by decide) ?_
        refine g_iconst (pc := 49) hX d_NS_contractible_49 ?_
        refine g_icmp_ne (pc := 50) (tgt := 59) hX d_NS_contractible_50 (by decide) (by omega) (by omega) (fun c_4 => ?_) (fun c_4 => ?_)
        · refine g_iconst (pc := 59) hX d_NS_contractible_59 ?_
          exact g_iret (pc := 60) hX hE d_NS_contractible_60 (by decide) (by decide) ⟨by rw [cbl, if_pos c_1, if_neg (by omega), if_neg (by omega)], rfl, rfl, rfl⟩
        · refine g_iload_n (pc := 53) hX 1 d_NS_contractible_53 rfl rfl ?_
          refine g_iconst (pc := 54) hX d_NS_contractible_54 ?_
          refine g_iadd (pc := 55) hX d_NS_contractible_55 ?_
          refine g_goto (pc := 56) (tgt := 60) hX d_NS_contractible_56 (by decide) ?_
          exact g_iret (pc := 60) hX hE d_NS_contractible_60 (by decide) (by decide) ⟨by rw [cbl, if_pos c_1, if_neg (by omega), if_pos (by omega)], rfl, rfl, rfl⟩
    · refine g_iload_n (pc := 25) hX 1 d_NS_contractible_25 rfl rfl ?_
      exact g_iret (pc := 26) hX hE d_NS_contractible_26 (by decide) (by decide) ⟨by rw [cbl, if_pos c_1, if_pos (by omega)], rfl, rfl, rfl⟩
  · refine g_iconst (pc := 11) hX d_NS_contractible_11 ?_
    exact g_iret (pc := 12) hX hE d_NS_contractible_12 (by decide) (by decide) ⟨by rw [cbl, if_neg c_1], rfl, rfl, rfl⟩

abbrev rm_NS_countUses : Room := { frames := 4, cells := 0, slots := 0, locals := 84 }
set_option maxHeartbeats 4000000 in
set_option maxRecDepth 100000 in
theorem c_NS_countUses (l : Launch) (E : gE) (x g kp pa la s n te sp : Nat) (tec : RowT) (tek : rowOK tec) (sc : ScT) (sk : scOK sc) (σ : Nat → Nat) (hm : mea tec σ) (hs : scFor sc tec) (b : Nat) (hb : b < rN tec ∧ pP (rF tec b)) : CtI l E y_NS_countUses b_NS_countUses 6 (some .int) rm_NS_countUses [.ref x, .int (iI (b : Int))] (nsO x g kp pa la s n te sp ++ rowW E te tec ++ scW E s sc) (uCnt (rF tec) (rG tec) b (b + 1 + σ (b + 1)) (σ (b + 1 + σ (b + 1)))) := by
  obtain ⟨⟨te1, te2, te3, te4⟩, tef, teg, teh⟩ := id tek
  obtain ⟨hb1, hb2⟩ := hb
  have ed := hs.d hb1
  obtain ⟨z1, z2, z3⟩ := hm.pt hb1 hb2
  obtain ⟨z4, z5⟩ := hm.en hb1
  have es : rS tec ((b : Int) + 1) = σ (b + 1) := hm.sz z1
  have eb := hm.sz hb1
  have dl : dep (rF tec) b ≤ b := env_le hm.1 hm.2.1 hb1
  have zs := hs.1
  refine g_start (by decide) (Nat.le_of_ble_eq_true rfl) (fun X hX hE hin => ?_)
  refine g_aload_n (pc := 0) hX 0 d_NS_countUses_0 rfl rfl ?_
  refine g_get (pc := 1) hX f_NS_32 0 rfl rfl d_NS_countUses_1 ?_
  refine g_iload_n (pc := 4) hX 1 d_NS_countUses_4 rfl rfl ?_
  refine g_iV (pc := 5) hX (c_SC_depth l E s sc sk _ (by omega)) gy_SC_depth gv_SC_depth w_320 rfl (by decide) (by decide) [5, 6, 7, 8] rfl rfl rfl rfl rfl _ rfl (Nat.le_of_ble_eq_true rfl) d_NS_countUses_5 (by decide) (by decide) ?_
  refine g_iconst (pc := 8) hX d_NS_countUses_8 ?_
  refine g_iadd (pc := 9) hX d_NS_countUses_9 ?_
  rw [ed]
  refine g_istore_n (pc := 10) hX 2 d_NS_countUses_10 rfl (by decide) ?_
  refine g_aload_n (pc := 11) hX 0 d_NS_countUses_11 rfl rfl ?_
  refine g_get (pc := 12) hX f_NS_45 0 rfl rfl d_NS_countUses_12 ?_
  refine g_iload_n (pc := 15) hX 1 d_NS_countUses_15 rfl rfl ?_
  refine g_iV (pc := 16) hX (c_RW_end l E te tec tek _ (by omega)) gy_RW_end gv_RW_end w_321 rfl (by decide) (by decide) [1, 2, 3, 4] rfl rfl rfl rfl rfl _ rfl (Nat.le_of_ble_eq_true rfl) d_NS_countUses_16 (by decide) (by decide) ?_
  refine g_st (.int (iI ((b + σ b : Nat) : Int)) :: []) (by rw [eb] <;> rfl) ?_
  refine g_istore_n (pc := 19) hX 3 d_NS_countUses_19 rfl (by decide) ?_
  refine g_iconst (pc := 20) hX d_NS_countUses_20 ?_
  refine g_istore (pc := 21) hX d_NS_countUses_21 (by decide) ?_
  refine g_aload_n (pc := 23) hX 0 d_NS_countUses_23 rfl rfl ?_
  refine g_get (pc := 24) hX f_NS_45 0 rfl rfl d_NS_countUses_24 ?_
  refine g_iload_n (pc := 27) hX 1 d_NS_countUses_27 rfl rfl ?_
  refine g_iV (pc := 28) hX (c_RW_second l E te tec tek _ (by omega) (by omega)) gy_RW_second gv_RW_second w_322 rfl (by decide) (by decide) [1, 2, 3, 4] rfl rfl rfl rfl rfl _ rfl (Nat.le_of_ble_eq_true rfl) d_NS_countUses_28 (by decide) (by decide) ?_
  refine g_st (.int (iI ((b + 1 + σ (b + 1) : Nat) : Int)) :: []) (by rw [show (b : Int) + 1 + rS tec ((b : Int) + 1) = (((b + 1 + σ (b + 1) : Nat)) : Int) by have := es; omega]) ?_
  refine g_istore (pc := 31) hX d_NS_countUses_31 (by decide) ?_
  have loop : ∀ (d : Nat) (m : Nat), σ (b + 1 + σ (b + 1)) < m + d → m ≤ σ (b + 1 + σ (b + 1)) → gW X (nsO x g kp pa la s n te sp ++ rowW E te tec ++ scW E s sc) 0 0 33 [(0, .ref x), (2, .int (iI ((dep (rF tec) b : Int) + 1))), (3, .int (iI ((b + σ b : Nat) : Int))), (4, .int (iI ((uCnt (rF tec) (rG tec) b (b + 1 + σ (b + 1)) m : Nat) : Int))), (5, .int (iI ((b + 1 + σ (b + 1) + m : Nat) : Int)))] [] := by
    intro d
    induction d with
    | zero => intro m hfu hj; omega
    | succ d ih =>
      intro m hfu hj
      refine g_iload (pc := 33) hX d_NS_countUses_33 rfl ?_
      refine g_iload_n (pc := 35) hX 3 d_NS_countUses_35 rfl rfl ?_
      refine g_icmp_ge (pc := 36) (tgt := 85) hX d_NS_countUses_36 (by decide) (by omega) (by omega) (fun c_1 => ?_) (fun c_1 => ?_)
      · refine g_iload (pc := 85) hX d_NS_countUses_85 rfl ?_
        exact g_iret (pc := 87) hX hE d_NS_countUses_87 (by decide) (by decide) ⟨by rw [show m = σ (b + 1 + σ (b + 1)) by omega], rfl, rfl, rfl⟩
      · obtain ⟨j, ej⟩ : ∃ j : Nat, j = b + 1 + σ (b + 1) + m := ⟨_, rfl⟩
        rw [← ej]
        have uc := uCnt_succ (rF tec) (rG tec) b (b + 1 + σ (b + 1)) m
        rw [← ej] at uc
        have q1 : rK tec (j : Int) = rF tec j := rK_t (by omega)
        have q3 : rB tec (j : Int) = rG tec j := rB_t (by omega)
        have q5 := hs.d (show j < rN tec by omega)
        have dj : dep (rF tec) j ≤ j := env_le hm.1 hm.2.1 (show j < rN tec by omega)
        have p1 := tef j
        have p3 := teg j
        refine g_aload_n (pc := 39) hX 0 d_NS_countUses_39 rfl rfl ?_
        refine g_get (pc := 40) hX f_NS_45 0 rfl rfl d_NS_countUses_40 ?_
        refine g_iload (pc := 43) hX d_NS_countUses_43 rfl ?_
        refine g_iV (pc := 45) hX (c_RW_kind l E te tec tek _ (by omega)) gy_RW_kind gv_RW_kind w_274 rfl (by decide) (by decide) [1, 2, 3, 4] rfl rfl rfl rfl rfl _ rfl (Nat.le_of_ble_eq_true rfl) d_NS_countUses_45 (by decide) (by decide) ?_
        rw [q1]
        refine g_if_ne (pc := 48) (tgt := 79) hX d_NS_countUses_48 (by decide) (by omega) (fun c_2 => ?_) (fun c_2 => ?_)
        · rw [if_neg (fun q => by have := q.1; have := q.2; omega)] at uc
          rw [show ((uCnt (rF tec) (rG tec) b (b + 1 + σ (b + 1)) m : Nat) : Int) = ((uCnt (rF tec) (rG tec) b (b + 1 + σ (b + 1)) (m + 1) : Nat) : Int) by omega, ej]
          refine g_iinc (pc := 79) hX d_NS_countUses_79 (by decide) rfl ?_
          refine g_goto (pc := 82) (tgt := 33) hX d_NS_countUses_82 (by decide) ?_
          refine g_lv [(0, .ref x), (2, .int (iI ((dep (rF tec) b : Int) + 1))), (3, .int (iI ((b + σ b : Nat) : Int))), (4, .int (iI ((uCnt (rF tec) (rG tec) b (b + 1 + σ (b + 1)) (m + 1) : Nat) : Int))), (5, .int (iI ((b + 1 + σ (b + 1) + (m + 1) : Nat) : Int)))] ⟨rfl, rfl, rfl, rfl, rfl, trivial⟩ ?_
          exact ih (m + 1) (by omega) (by omega)
        · refine g_aload_n (pc := 51) hX 0 d_NS_countUses_51 rfl rfl ?_
          refine g_get (pc := 52) hX f_NS_45 0 rfl rfl d_NS_countUses_52 ?_
          refine g_iload (pc := 55) hX d_NS_countUses_55 rfl ?_
          refine g_lV (pc := 57) hX (c_RW_beside l E te tec tek _ (by omega)) gy_RW_beside gv_RW_beside w_275 rfl (by decide) (by decide) [1, 2, 3, 4] rfl rfl rfl rfl rfl _ rfl (Nat.le_of_ble_eq_true rfl) d_NS_countUses_57 (by decide) (by decide) ?_
          rw [q3]
          refine g_aload_n (pc := 60) hX 0 d_NS_countUses_60 rfl rfl ?_
          refine g_get (pc := 61) hX f_NS_32 0 rfl rfl d_NS_countUses_61 ?_
          refine g_iload (pc := 64) hX d_NS_countUses_64 rfl ?_
          refine g_iV (pc := 66) hX (c_SC_depth l E s sc sk _ (by omega)) gy_SC_depth gv_SC_depth w_320 rfl (by decide) (by decide) [5, 6, 7, 8] rfl rfl rfl rfl rfl _ rfl (Nat.le_of_ble_eq_true rfl) d_NS_countUses_66 (by decide) (by decide) ?_
          rw [q5]
          refine g_iload_n (pc := 69) hX 2 d_NS_countUses_69 rfl rfl ?_
          refine g_isub (pc := 70) hX d_NS_countUses_70 ?_
          refine g_i2l (pc := 71) hX d_NS_countUses_71 (by omega) ?_
          refine g_lcmp_ne (pc := 72) (tgt := 79) hX d_NS_countUses_72 d_NS_countUses_73 (by decide) (by omega) (by omega) (fun c_3 => ?_) (fun c_3 => ?_)
          · rw [if_neg (fun q => by have := q.1; have := q.2; omega)] at uc
            rw [show ((uCnt (rF tec) (rG tec) b (b + 1 + σ (b + 1)) m : Nat) : Int) = ((uCnt (rF tec) (rG tec) b (b + 1 + σ (b + 1)) (m + 1) : Nat) : Int) by omega, ej]
            refine g_iinc (pc := 79) hX d_NS_countUses_79 (by decide) rfl ?_
            refine g_goto (pc := 82) (tgt := 33) hX d_NS_countUses_82 (by decide) ?_
            refine g_lv [(0, .ref x), (2, .int (iI ((dep (rF tec) b : Int) + 1))), (3, .int (iI ((b + σ b : Nat) : Int))), (4, .int (iI ((uCnt (rF tec) (rG tec) b (b + 1 + σ (b + 1)) (m + 1) : Nat) : Int))), (5, .int (iI ((b + 1 + σ (b + 1) + (m + 1) : Nat) : Int)))] ⟨rfl, rfl, rfl, rfl, rfl, trivial⟩ ?_
            exact ih (m + 1) (by omega) (by omega)
          · refine g_iinc (pc := 76) hX d_NS_countUses_76 (by decide) rfl ?_
            rw [if_pos ⟨by omega, by omega⟩] at uc
            rw [show ((uCnt (rF tec) (rG tec) b (b + 1 + σ (b + 1)) m : Nat) : Int) + 1 = ((uCnt (rF tec) (rG tec) b (b + 1 + σ (b + 1)) (m + 1) : Nat) : Int) by omega, ej]
            refine g_iinc (pc := 79) hX d_NS_countUses_79 (by decide) rfl ?_
            refine g_goto (pc := 82) (tgt := 33) hX d_NS_countUses_82 (by decide) ?_
            refine g_lv [(0, .ref x), (2, .int (iI ((dep (rF tec) b : Int) + 1))), (3, .int (iI ((b + σ b : Nat) : Int))), (4, .int (iI ((uCnt (rF tec) (rG tec) b (b + 1 + σ (b + 1)) (m + 1) : Nat) : Int))), (5, .int (iI ((b + 1 + σ (b + 1) + (m + 1) : Nat) : Int)))] ⟨rfl, rfl, rfl, rfl, rfl, trivial⟩ ?_
            exact ih (m + 1) (by omega) (by omega)
  refine g_lv [(0, .ref x), (2, .int (iI ((dep (rF tec) b : Int) + 1))), (3, .int (iI ((b + σ b : Nat) : Int))), (4, .int (iI ((uCnt (rF tec) (rG tec) b (b + 1 + σ (b + 1)) 0 : Nat) : Int))), (5, .int (iI ((b + 1 + σ (b + 1) + 0 : Nat) : Int)))] ⟨rfl, rfl, rfl, rfl, rfl, trivial⟩ ?_
  exact loop (σ (b + 1 + σ (b + 1)) + 1) 0 (by omega) (by omega)
  
end
section
abbrev rm_NS_copy : Room := { frames := 4, cells := 12000, slots := 72000, locals := 93 }
set_option maxHeartbeats 4000000 in
set_option maxRecDepth 100000 in
theorem c_NS_copy (l : Launch) (E : gE) (x g kp pa la s n te sp : Nat) (tec : RowT) (tek : rowOK tec) (spc : RowT) (spk : rowOK spc) (a : Nat) (e : Nat) (h0 : a ≤ e ∧ e ≤ rN tec ∧ rN spc + (e - a) ≤ 3000) : Ct l E y_NS_copy b_NS_copy 4 none rm_NS_copy [.ref x, .int (iI (a : Int)), .int (iI (e : Int))] (nsO x g kp pa la s n te sp ++ rowW E te tec ++ rowW E sp spc) (fun vv ww dc ds => ∃ ρ, vv = none ∧ ww = nsO x g kp pa la s n te sp ++ rowW E te tec ++ rowW E sp ρ ∧ rowOK ρ ∧ (rL ρ = rL spc ++ seg (rF tec) (rG tec) a (e - a) ∧ rGrow spc ρ dc ds)) := by
  obtain ⟨⟨te1, te2, te3, te4⟩, tef, teg, teh⟩ := id tek
  obtain ⟨⟨sp1, sp2, sp3, sp4⟩, spf, spg, sph⟩ := id spk
  obtain ⟨m, rfl⟩ : ∃ m, e = a + m := ⟨e - a, by omega⟩
  rw [show a + m - a = m by omega] at *
  refine g_start (by decide) (Nat.le_of_ble_eq_true rfl) (fun X hX hE hin => ?_)
  refine g_iload_n (pc := 0) hX 1 d_NS_copy_0 rfl rfl ?_
  refine g_istore_n (pc := 1) hX 3 d_NS_copy_1 rfl (by decide) ?_
  have loop : ∀ (d : Nat) (i : Nat) (ρ : RowT) (c0 s0 : Nat), m < i + d → i ≤ m → rowOK ρ → rL ρ = rL spc ++ seg (rF tec) (rG tec) a i → rGrow spc ρ c0 s0 → gW X (nsO x g kp pa la s n te sp ++ rowW E te tec ++ rowW E sp ρ) c0 s0 2 [(0, .ref x), (2, .int (iI ((a + m : Nat) : Int))), (3, .int (iI ((a + i : Nat) : Int)))] [] := by
    intro d
    induction d with
    | zero => intro i ρ c0 s0 hfu hi hρ hl hg; omega
    | succ d ih =>
      intro i ρ c0 s0 hfu hi hρ hl hg
      obtain ⟨g1, g2, g3⟩ := id hg
      obtain ⟨⟨p1, p2, p3, p4⟩, -⟩ := id hρ
      have hL : rN ρ = rN spc + i := by have := congrArg List.length hl; rw [List.length_append, Lr_len, Lr_len, seg_len] at this; exact this
      refine g_iload_n (pc := 2) hX 3 d_NS_copy_2 rfl rfl ?_
      refine g_iload_n (pc := 3) hX 2 d_NS_copy_3 rfl rfl ?_
      refine g_icmp_ge (pc := 4) (tgt := 36) hX d_NS_copy_4 (by decide) (by omega) (by omega) (fun c_1 => ?_) (fun c_1 => ?_)
      · exact g_vret (pc := 36) hX hE d_NS_copy_36 (show _ ≤ 12000 by omega) (show _ ≤ 72000 by omega) ⟨ρ, rfl, rfl, hρ, by rw [hl, show i = m by omega], hg⟩
      · obtain ⟨j, ej⟩ : ∃ j : Nat, j = a + i := ⟨_, rfl⟩
        rw [← ej]
        have q1 : rK tec (j : Int) = rF tec j := rK_t (by omega)
        have q3 : rB tec (j : Int) = rG tec j := rB_t (by omega)
        have r1 := tef j
        have r3 := teg j
        refine g_aload_n (pc := 7) hX 0 d_NS_copy_7 rfl rfl ?_
        refine g_get (pc := 8) hX f_NS_48 0 rfl rfl d_NS_copy_8 ?_
        refine g_aload_n (pc := 11) hX 0 d_NS_copy_11 rfl rfl ?_
        refine g_get (pc := 12) hX f_NS_45 0 rfl rfl d_NS_copy_12 ?_
        refine g_iload_n (pc := 15) hX 3 d_NS_copy_15 rfl rfl ?_
        refine g_iV (pc := 16) hX (c_RW_kind l E te tec tek _ (by omega)) gy_RW_kind gv_RW_kind w_274 rfl (by decide) (by decide) [1, 2, 3, 4] rfl rfl rfl rfl rfl _ rfl (Nat.le_of_ble_eq_true rfl) d_NS_copy_16 (show _ + 0 ≤ 12000 by omega) (show _ + 0 ≤ 72000 by omega) ?_
        rw [q1]
        refine g_aload_n (pc := 19) hX 0 d_NS_copy_19 rfl rfl ?_
        refine g_get (pc := 20) hX f_NS_45 0 rfl rfl d_NS_copy_20 ?_
        refine g_iload_n (pc := 23) hX 3 d_NS_copy_23 rfl rfl ?_
        refine g_lV (pc := 24) hX (c_RW_beside l E te tec tek _ (by omega)) gy_RW_beside gv_RW_beside w_275 rfl (by decide) (by decide) [1, 2, 3, 4] rfl rfl rfl rfl rfl _ rfl (Nat.le_of_ble_eq_true rfl) d_NS_copy_24 (show _ + 0 ≤ 12000 by omega) (show _ + 0 ≤ 72000 by omega) ?_
        rw [q3]
        refine g_callV (pc := 27) hX (c_RW_add l E sp ρ hρ _ (by omega) _ (by omega) (by omega)) gy_RW_add gv_RW_add w_161 rfl (by decide) (by decide) [5, 6, 7, 8] rfl rfl rfl rfl rfl _ rfl (Nat.le_of_ble_eq_true rfl) d_NS_copy_27 (show _ + 6000 ≤ 12000 by omega) (show _ + 36000 ≤ 72000 by omega) (fun _ _ _ _ h => by obtain ⟨_, _, h2, _⟩ := h; rw [h2]; exact Nat.le_of_ble_eq_true rfl) (fun v w dc_2 ds_2 hp => ?_)
        obtain ⟨sp_2, rfl, rfl, spk_2, f_2⟩ := hp
        refine g_ws (nsO x g kp pa la s n te sp ++ rowW E te tec ++ rowW E sp sp_2) rfl ?_
        subst ej
        refine g_iinc (pc := 30) hX d_NS_copy_30 (by decide) rfl ?_
        refine g_goto (pc := 33) (tgt := 2) hX d_NS_copy_33 (by decide) ?_
        refine g_lv [(0, .ref x), (2, .int (iI ((a + m : Nat) : Int))), (3, .int (iI ((a + (i + 1) : Nat) : Int)))] ⟨rfl, rfl, rfl, trivial⟩ ?_
        exact ih (i + 1) sp_2 _ _ (by omega) (by omega) spk_2 (by rw [f_2.1, hl, seg_succ, List.append_assoc]) (hg.tr f_2.2.2)
  refine g_lv [(0, .ref x), (2, .int (iI ((a + m : Nat) : Int))), (3, .int (iI ((a + 0 : Nat) : Int)))] ⟨rfl, rfl, rfl, trivial⟩ ?_
  exact loop (m + 1) 0 spc 0 0 (by omega) (by omega) spk (by rw [seg_0, List.append_nil]) (rGrow.rf spc)
  

abbrev rm_NS_copyDeeper : Room := { frames := 4, cells := 12000, slots := 72000, locals := 93 }
set_option maxHeartbeats 4000000 in
set_option maxRecDepth 100000 in
theorem c_NS_copyDeeper (l : Launch) (E : gE) (x g kp pa la s n te sp : Nat) (tec : RowT) (tek : rowOK tec) (sc : ScT) (sk : scOK sc) (spc : RowT) (spk : rowOK spc) (σ : Nat → Nat) (hm : mea tec σ) (hs : scFor sc tec) (hb : tB tec) (v : Nat) (e : Int) (h0 : v < rN tec ∧ rN spc + σ v ≤ 3000 ∧ 0 ≤ e ∧ e ≤ 3000) : Ct l E y_NS_copyDeeper b_NS_copyDeeper 9 none rm_NS_copyDeeper [.ref x, .int (iI (v : Int)), .int (iI e)] (nsO x g kp pa la s n te sp ++ rowW E te tec ++ scW E s sc ++ rowW E sp spc) (fun vv ww dc ds => ∃ ρ, vv = none ∧ ww = nsO x g kp pa la s n te sp ++ rowW E te tec ++ scW E s sc ++ rowW E sp ρ ∧ rowOK ρ ∧ (rL ρ = rL spc ++ vL (rF tec) (rG tec) v (σ v) e ∧ rGrow spc ρ dc ds)) := by
  obtain ⟨⟨te1, te2, te3, te4⟩, tef, teg, teh⟩ := id tek
  obtain ⟨⟨sp1, sp2, sp3, sp4⟩, spf, spg, sph⟩ := id spk
  obtain ⟨v1, v2, v3, v4⟩ := h0
  have ed := hs.d v1
  obtain ⟨z4, z5⟩ := hm.en v1
  have es := hm.sz v1
  have dl : dep (rF tec) v ≤ v := env_le hm.1 hm.2.1 v1
  have zs := hs.1
  refine g_start (by decide) (Nat.le_of_ble_eq_true rfl) (fun X hX hE hin => ?_)
  refine g_aload_n (pc := 0) hX 0 d_NS_copyDeeper_0 rfl rfl ?_
  refine g_get (pc := 1) hX f_NS_32 0 rfl rfl d_NS_copyDeeper_1 ?_
  refine g_iload_n (pc := 4) hX 1 d_NS_copyDeeper_4 rfl rfl ?_
  refine g_iV (pc := 5) hX (c_SC_depth l E s sc sk _ (by omega)) gy_SC_depth gv_SC_depth w_320 rfl (by decide) (by decide) [5, 6, 7, 8] rfl rfl rfl rfl rfl _ rfl (Nat.le_of_ble_eq_true rfl) d_NS_copyDeeper_5 (show _ + 0 ≤ 12000 by omega) (show _ + 0 ≤ 72000 by omega) ?_
  rw [ed]
  refine g_istore_n (pc := 8) hX 3 d_NS_copyDeeper_8 rfl (by decide) ?_
  refine g_aload_n (pc := 9) hX 0 d_NS_copyDeeper_9 rfl rfl ?_
  refine g_get (pc := 10) hX f_NS_45 0 rfl rfl d_NS_copyDeeper_10 ?_
  refine g_iload_n (pc := 13) hX 1 d_NS_copyDeeper_13 rfl rfl ?_
  refine g_iV (pc := 14) hX (c_RW_end l E te tec tek _ (by omega)) gy_RW_end gv_RW_end w_321 rfl (by decide) (by decide) [1, 2, 3, 4] rfl rfl rfl rfl rfl _ rfl (Nat.le_of_ble_eq_true rfl) d_NS_copyDeeper_14 (show _ + 0 ≤ 12000 by omega) (show _ + 0 ≤ 72000 by omega) ?_
  refine g_st (.int (iI ((v + σ v : Nat) : Int)) :: []) (by rw [es] <;> rfl) ?_
  refine g_istore (pc := 17) hX d_NS_copyDeeper_17 (by decide) ?_
  refine g_iload_n (pc := 19) hX 1 d_NS_copyDeeper_19 rfl rfl ?_
  refine g_istore (pc := 20) hX d_NS_copyDeeper_20 (by decide) ?_
  have loop : ∀ (d : Nat) (i : Nat) (ρ : RowT) (c0 s0 : Nat), σ v < i + d → i ≤ σ v → rowOK ρ → rL ρ = rL spc ++ vL (rF tec) (rG tec) v i e → rGrow spc ρ c0 s0 → gW X (nsO x g kp pa la s n te sp ++ rowW E te tec ++ scW E s sc ++ rowW E sp ρ) c0 s0 22 [(0, .ref x), (2, .int (iI e)), (3, .int (iI (dep (rF tec) v : Int))), (4, .int (iI ((v + σ v : Nat) : Int))), (5, .int (iI ((v + i : Nat) : Int)))] [] := by
    intro d
    induction d with
    | zero => intro i ρ c0 s0 hfu hi hρ hl hg; omega
    | succ d ih =>
      intro i ρ c0 s0 hfu hi hρ hl hg
      obtain ⟨g1, g2, g3⟩ := id hg
      obtain ⟨⟨p1, p2, p3, p4⟩, -⟩ := id hρ
      have hL : rN ρ = rN spc + i := by have := congrArg List.length hl; rw [List.length_append, Lr_len, Lr_len, vL_len] at this; exact this
      refine g_iload (pc := 22) hX d_NS_copyDeeper_22 rfl ?_
      refine g_iload (pc := 24) hX d_NS_copyDeeper_24 rfl ?_
      refine g_icmp_ge (pc := 26) (tgt := 114) hX d_NS_copyDeeper_26 (by decide) (by omega) (by omega) (fun c_1 => ?_) (fun c_1 => ?_)
      · exact g_vret (pc := 114) hX hE d_NS_copyDeeper_114 (show _ ≤ 12000 by omega) (show _ ≤ 72000 by omega) ⟨ρ, rfl, rfl, hρ, by rw [hl, show i = σ v by omega], hg⟩
      · obtain ⟨j, ej⟩ : ∃ j : Nat, j = v + i := ⟨_, rfl⟩
        rw [← ej]
        have q1 : rK tec (j : Int) = rF tec j := rK_t (by omega)
        have q3 : rB tec (j : Int) = rG tec j := rB_t (by omega)
        have q5 := hs.d (show j < rN tec by omega)
        have dj : dep (rF tec) j ≤ j := env_le hm.1 hm.2.1 (show j < rN tec by omega)
        have r1 := tef j
        have r3 := teg j
        obtain ⟨b1, b2⟩ := hb j (by omega)
        refine g_aload_n (pc := 29) hX 0 d_NS_copyDeeper_29 rfl rfl ?_
        refine g_get (pc := 30) hX f_NS_45 0 rfl rfl d_NS_copyDeeper_30 ?_
        refine g_iload (pc := 33) hX d_NS_copyDeeper_33 rfl ?_
        refine g_lV (pc := 35) hX (c_RW_beside l E te tec tek _ (by omega)) gy_RW_beside gv_RW_beside w_275 rfl (by decide) (by decide) [1, 2, 3, 4] rfl rfl rfl rfl rfl _ rfl (Nat.le_of_ble_eq_true rfl) d_NS_copyDeeper_35 (show _ + 0 ≤ 12000 by omega) (show _ + 0 ≤ 72000 by omega) ?_
        rw [q3]
        refine g_lstore (pc := 38) hX d_NS_copyDeeper_38 (by decide) ?_
        refine g_aload_n (pc := 40) hX 0 d_NS_copyDeeper_40 rfl rfl ?_
        refine g_get (pc := 41) hX f_NS_45 0 rfl rfl d_NS_copyDeeper_41 ?_
        refine g_iload (pc := 44) hX d_NS_copyDeeper_44 rfl ?_
        refine g_iV (pc := 46) hX (c_RW_kind l E te tec tek _ (by omega)) gy_RW_kind gv_RW_kind w_274 rfl (by decide) (by decide) [1, 2, 3, 4] rfl rfl rfl rfl rfl _ rfl (Nat.le_of_ble_eq_true rfl) d_NS_copyDeeper_46 (show _ + 0 ≤ 12000 by omega) (show _ + 0 ≤ 72000 by omega) ?_
        rw [q1]
        refine g_if_ne (pc := 49) (tgt := 74) hX d_NS_copyDeeper_49 (by decide) (by omega) (fun c_2 => ?_) (fun c_2 => ?_)
        · refine g_iconst (pc := 74) hX d_NS_copyDeeper_74 ?_
          refine g_istore (pc := 75) hX d_NS_copyDeeper_75 (by decide) ?_
          refine g_aload_n (pc := 77) hX 0 d_NS_copyDeeper_77 rfl rfl ?_
          refine g_get (pc := 78) hX f_NS_48 0 rfl rfl d_NS_copyDeeper_78 ?_
          refine g_aload_n (pc := 81) hX 0 d_NS_copyDeeper_81 rfl rfl ?_
          refine g_get (pc := 82) hX f_NS_45 0 rfl rfl d_NS_copyDeeper_82 ?_
          refine g_iload (pc := 85) hX d_NS_copyDeeper_85 rfl ?_
          refine g_iV (pc := 87) hX (c_RW_kind l E te tec tek _ (by omega)) gy_RW_kind gv_RW_kind w_274 rfl (by decide) (by decide) [1, 2, 3, 4] rfl rfl rfl rfl rfl _ rfl (Nat.le_of_ble_eq_true rfl) d_NS_copyDeeper_87 (show _ + 0 ≤ 12000 by omega) (show _ + 0 ≤ 72000 by omega) ?_
          rw [q1]
          refine g_iload (pc := 90) hX d_NS_copyDeeper_90 rfl ?_
          refine g_if_eq (pc := 92) (tgt := 103) hX d_NS_copyDeeper_92 (by decide) (by decide) (fun c_3 => ?_) (fun c_3 => ?_)
          · refine g_lload (pc := 103) hX d_NS_copyDeeper_103 rfl ?_
            have hv : vN (rF tec) (rG tec) v e j = (rF tec j, rG tec j) := by unfold vN; rw [if_neg (by omega)]
            refine g_callV (pc := 105) hX (c_RW_add l E sp ρ hρ _ (by omega) _ (by omega) (by omega)) gy_RW_add gv_RW_add w_161 rfl (by decide) (by decide) [9, 10, 11, 12] rfl rfl rfl rfl rfl _ rfl (Nat.le_of_ble_eq_true rfl) d_NS_copyDeeper_105 (show _ + 6000 ≤ 12000 by omega) (show _ + 36000 ≤ 72000 by omega) (fun _ _ _ _ h => by obtain ⟨_, _, h2, _⟩ := h; rw [h2]; exact Nat.le_of_ble_eq_true rfl) (fun v w dc_4 ds_4 hp => ?_)
            obtain ⟨sp_4, rfl, rfl, spk_4, f_4⟩ := hp
            refine g_ws (nsO x g kp pa la s n te sp ++ rowW E te tec ++ scW E s sc ++ rowW E sp sp_4) rfl ?_
            subst ej
            refine g_iinc (pc := 108) hX d_NS_copyDeeper_108 (by decide) rfl ?_
            refine g_goto (pc := 111) (tgt := 22) hX d_NS_copyDeeper_111 (by decide) ?_
            refine g_lv [(0, .ref x), (2, .int (iI e)), (3, .int (iI (dep (rF tec) v : Int))), (4, .int (iI ((v + σ v : Nat) : Int))), (5, .int (iI ((v + (i + 1) : Nat) : Int)))] ⟨rfl, rfl, rfl, rfl, rfl, trivial⟩ ?_
            exact ih (i + 1) sp_4 _ _ (by omega) (by omega) spk_4 (by rw [f_4.1, hl, vL_succ, hv, List.append_assoc]) (hg.tr f_4.2.2)
          · exact absurd (by decide) c_3
        · refine g_lload (pc := 52) hX d_NS_copyDeeper_52 rfl ?_
          refine g_aload_n (pc := 54) hX 0 d_NS_copyDeeper_54 rfl rfl ?_
          refine g_get (pc := 55) hX f_NS_32 0 rfl rfl d_NS_copyDeeper_55 ?_
          refine g_iload (pc := 58) hX d_NS_copyDeeper_58 rfl ?_
          refine g_iV (pc := 60) hX (c_SC_depth l E s sc sk _ (by omega)) gy_SC_depth gv_SC_depth w_320 rfl (by decide) (by decide) [5, 6, 7, 8] rfl rfl rfl rfl rfl _ rfl (Nat.le_of_ble_eq_true rfl) d_NS_copyDeeper_60 (show _ + 0 ≤ 12000 by omega) (show _ + 0 ≤ 72000 by omega) ?_
          rw [q5]
          refine g_iload_n (pc := 63) hX 3 d_NS_copyDeeper_63 rfl rfl ?_
          refine g_isub (pc := 64) hX d_NS_copyDeeper_64 ?_
          refine g_i2l (pc := 65) hX d_NS_copyDeeper_65 (by omega) ?_
          refine g_lcmp_lt (pc := 66) (tgt := 74) hX d_NS_copyDeeper_66 d_NS_copyDeeper_67 (by decide) (by omega) (by omega) (fun c_5 => ?_) (fun c_5 => ?_)
          · refine g_iconst (pc := 74) hX d_NS_copyDeeper_74 ?_
            refine g_istore (pc := 75) hX d_NS_copyDeeper_75 (by decide) ?_
            refine g_aload_n (pc := 77) hX 0 d_NS_copyDeeper_77 rfl rfl ?_
            refine g_get (pc := 78) hX f_NS_48 0 rfl rfl d_NS_copyDeeper_78 ?_
            refine g_aload_n (pc := 81) hX 0 d_NS_copyDeeper_81 rfl rfl ?_
            refine g_get (pc := 82) hX f_NS_45 0 rfl rfl d_NS_copyDeeper_82 ?_
            refine g_iload (pc := 85) hX d_NS_copyDeeper_85 rfl ?_
            refine g_iV (pc := 87) hX (c_RW_kind l E te tec tek _ (by omega)) gy_RW_kind gv_RW_kind w_274 rfl (by decide) (by decide) [1, 2, 3, 4] rfl rfl rfl rfl rfl _ rfl (Nat.le_of_ble_eq_true rfl) d_NS_copyDeeper_87 (show _ + 0 ≤ 12000 by omega) (show _ + 0 ≤ 72000 by omega) ?_
            rw [q1]
            refine g_iload (pc := 90) hX d_NS_copyDeeper_90 rfl ?_
            refine g_if_eq (pc := 92) (tgt := 103) hX d_NS_copyDeeper_92 (by decide) (by decide) (fun c_6 => ?_) (fun c_6 => ?_)
            · refine g_lload (pc := 103) hX d_NS_copyDeeper_103 rfl ?_
              have hv : vN (rF tec) (rG tec) v e j = (rF tec j, rG tec j) := by unfold vN; rw [if_neg (by omega)]
              refine g_callV (pc := 105) hX (c_RW_add l E sp ρ hρ _ (by omega) _ (by omega) (by omega)) gy_RW_add gv_RW_add w_161 rfl (by decide) (by decide) [9, 10, 11, 12] rfl rfl rfl rfl rfl _ rfl (Nat.le_of_ble_eq_true rfl) d_NS_copyDeeper_105 (show _ + 6000 ≤ 12000 by omega) (show _ + 36000 ≤ 72000 by omega) (fun _ _ _ _ h => by obtain ⟨_, _, h2, _⟩ := h; rw [h2]; exact Nat.le_of_ble_eq_true rfl) (fun v w dc_7 ds_7 hp => ?_)
              obtain ⟨sp_7, rfl, rfl, spk_7, f_7⟩ := hp
              refine g_ws (nsO x g kp pa la s n te sp ++ rowW E te tec ++ scW E s sc ++ rowW E sp sp_7) rfl ?_
              subst ej
              refine g_iinc (pc := 108) hX d_NS_copyDeeper_108 (by decide) rfl ?_
              refine g_goto (pc := 111) (tgt := 22) hX d_NS_copyDeeper_111 (by decide) ?_
              refine g_lv [(0, .ref x), (2, .int (iI e)), (3, .int (iI (dep (rF tec) v : Int))), (4, .int (iI ((v + σ v : Nat) : Int))), (5, .int (iI ((v + (i + 1) : Nat) : Int)))] ⟨rfl, rfl, rfl, rfl, rfl, trivial⟩ ?_
              exact ih (i + 1) sp_7 _ _ (by omega) (by omega) spk_7 (by rw [f_7.1, hl, vL_succ, hv, List.append_assoc]) (hg.tr f_7.2.2)
            · exact absurd (by decide) c_6
          · refine g_iconst (pc := 70) hX d_NS_copyDeeper_70 ?_
            refine g_goto (pc := 71) (tgt := 75) hX d_NS_copyDeeper_71 (by decide) ?_
            refine g_istore (pc := 75) hX d_NS_copyDeeper_75 (by decide) ?_
            refine g_aload_n (pc := 77) hX 0 d_NS_copyDeeper_77 rfl rfl ?_
            refine g_get (pc := 78) hX f_NS_48 0 rfl rfl d_NS_copyDeeper_78 ?_
            refine g_aload_n (pc := 81) hX 0 d_NS_copyDeeper_81 rfl rfl ?_
            refine g_get (pc := 82) hX f_NS_45 0 rfl rfl d_NS_copyDeeper_82 ?_
            refine g_iload (pc := 85) hX d_NS_copyDeeper_85 rfl ?_
            refine g_iV (pc := 87) hX (c_RW_kind l E te tec tek _ (by omega)) gy_RW_kind gv_RW_kind w_274 rfl (by decide) (by decide) [1, 2, 3, 4] rfl rfl rfl rfl rfl _ rfl (Nat.le_of_ble_eq_true rfl) d_NS_copyDeeper_87 (show _ + 0 ≤ 12000 by omega) (show _ + 0 ≤ 72000 by omega) ?_
            rw [q1]
            refine g_iload (pc := 90) hX d_NS_copyDeeper_90 rfl ?_
            refine g_if_eq (pc := 92) (tgt := 103) hX d_NS_copyDeeper_92 (by decide) (by decide) (fun c_8 => ?_) (fun c_8 => ?_)
            · exact absurd c_8 (by decide)
            · refine g_lload (pc := 95) hX d_NS_copyDeeper_95 rfl ?_
              refine g_iload_n (pc := 97) hX 2 d_NS_copyDeeper_97 rfl rfl ?_
              refine g_i2l (pc := 98) hX d_NS_copyDeeper_98 (by omega) ?_
              refine g_ladd (pc := 99) hX d_NS_copyDeeper_99 ?_
              refine g_goto (pc := 100) (tgt := 105) hX d_NS_copyDeeper_100 (by decide) ?_
              have hv : vN (rF tec) (rG tec) v e j = (rF tec j, rG tec j + e) := by unfold vN; rw [if_pos (by omega)]
              refine g_callV (pc := 105) hX (c_RW_add l E sp ρ hρ _ (by omega) _ (by omega) (by omega)) gy_RW_add gv_RW_add w_161 rfl (by decide) (by decide) [9, 10, 11, 12] rfl rfl rfl rfl rfl _ rfl (Nat.le_of_ble_eq_true rfl) d_NS_copyDeeper_105 (show _ + 6000 ≤ 12000 by omega) (show _ + 36000 ≤ 72000 by omega) (fun _ _ _ _ h => by obtain ⟨_, _, h2, _⟩ := h; rw [h2]; exact Nat.le_of_ble_eq_true rfl) (fun v w dc_9 ds_9 hp => ?_)
              obtain ⟨sp_9, rfl, rfl, spk_9, f_9⟩ := hp
              refine g_ws (nsO x g kp pa la s n te sp ++ rowW E te tec ++ scW E s sc ++ rowW E sp sp_9) rfl ?_
              subst ej
              refine g_iinc (pc := 108) hX d_NS_copyDeeper_108 (by decide) rfl ?_
              refine g_goto (pc := 111) (tgt := 22) hX d_NS_copyDeeper_111 (by decide) ?_
              refine g_lv [(0, .ref x), (2, .int (iI e)), (3, .int (iI (dep (rF tec) v : Int))), (4, .int (iI ((v + σ v : Nat) : Int))), (5, .int (iI ((v + (i + 1) : Nat) : Int)))] ⟨rfl, rfl, rfl, rfl, rfl, trivial⟩ ?_
              exact ih (i + 1) sp_9 _ _ (by omega) (by omega) spk_9 (by rw [f_9.1, hl, vL_succ, hv, List.append_assoc]) (hg.tr f_9.2.2)
  refine g_lv [(0, .ref x), (2, .int (iI e)), (3, .int (iI (dep (rF tec) v : Int))), (4, .int (iI ((v + σ v : Nat) : Int))), (5, .int (iI ((v + 0 : Nat) : Int)))] ⟨rfl, rfl, rfl, rfl, rfl, trivial⟩ ?_
  exact loop (σ v + 1) 0 spc 0 0 (by omega) (by omega) spk (by simp [vL]) (rGrow.rf spc)
  

abbrev rm_NS_copyLastPart : Room := { frames := 5, cells := 18000, slots := 108000, locals := 121 }
set_option maxHeartbeats 4000000 in
set_option maxRecDepth 100000 in
theorem c_NS_copyLastPart (l : Launch) (E : gE) (x g kp pa la s n te sp : Nat) (tec : RowT) (tek : rowOK tec) (sc : ScT) (sk : scOK sc) (spc : RowT) (spk : rowOK spc) (σ : Nat → Nat) (hm : mea tec σ) (hs : scFor sc tec) (hb : tB tec) (b : Nat) (v : Nat) (h0 : b < rN tec ∧ pP (rF tec b) ∧ v < rN tec ∧ rN spc + (bL (rF tec) (rG tec) b v (σ v) (b + 1 + σ (b + 1)) (σ (b + 1 + σ (b + 1)))).length ≤ 3000) : Ct l E y_NS_copyLastPart b_NS_copyLastPart 10 none rm_NS_copyLastPart [.ref x, .int (iI (b : Int)), .int (iI (v : Int))] (nsO x g kp pa la s n te sp ++ rowW E te tec ++ scW E s sc ++ rowW E sp spc) (fun vv ww dc ds => ∃ ρ, vv = none ∧ ww = nsO x g kp pa la s n te sp ++ rowW E te tec ++ scW E s sc ++ rowW E sp ρ ∧ rowOK ρ ∧ (rL ρ = rL spc ++ bL (rF tec) (rG tec) b v (σ v) (b + 1 + σ (b + 1)) (σ (b + 1 + σ (b + 1))) ∧ rGrow spc ρ dc ds)) := by
  obtain ⟨⟨te1, te2, te3, te4⟩, tef, teg, teh⟩ := id tek
  obtain ⟨⟨sp1, sp2, sp3, sp4⟩, spf, spg, sph⟩ := id spk
  obtain ⟨hb1, hb2, v1, h3⟩ := h0
  have ed := hs.d hb1
  obtain ⟨z1, z2, z3⟩ := hm.pt hb1 hb2
  obtain ⟨z4, z5⟩ := hm.en hb1
  obtain ⟨y4, y5⟩ := hm.en v1
  have es : rS tec ((b : Int) + 1) = σ (b + 1) := hm.sz z1
  have eb := hm.sz hb1
  have dl : dep (rF tec) b ≤ b := env_le hm.1 hm.2.1 hb1
  have zs := hs.1
  refine g_start (by decide) (Nat.le_of_ble_eq_true rfl) (fun X hX hE hin => ?_)
  refine g_aload_n (pc := 0) hX 0 d_NS_copyLastPart_0 rfl rfl ?_
  refine g_get (pc := 1) hX f_NS_32 0 rfl rfl d_NS_copyLastPart_1 ?_
  refine g_iload_n (pc := 4) hX 1 d_NS_copyLastPart_4 rfl rfl ?_
  refine g_iV (pc := 5) hX (c_SC_depth l E s sc sk _ (by omega)) gy_SC_depth gv_SC_depth w_320 rfl (by decide) (by decide) [5, 6, 7, 8] rfl rfl rfl rfl rfl _ rfl (Nat.le_of_ble_eq_true rfl) d_NS_copyLastPart_5 (show _ + 0 ≤ 18000 by omega) (show _ + 0 ≤ 108000 by omega) ?_
  refine g_iconst (pc := 8) hX d_NS_copyLastPart_8 ?_
  refine g_iadd (pc := 9) hX d_NS_copyLastPart_9 ?_
  rw [ed]
  refine g_istore_n (pc := 10) hX 3 d_NS_copyLastPart_10 rfl (by decide) ?_
  refine g_aload_n (pc := 11) hX 0 d_NS_copyLastPart_11 rfl rfl ?_
  refine g_get (pc := 12) hX f_NS_45 0 rfl rfl d_NS_copyLastPart_12 ?_
  refine g_iload_n (pc := 15) hX 1 d_NS_copyLastPart_15 rfl rfl ?_
  refine g_iV (pc := 16) hX (c_RW_end l E te tec tek _ (by omega)) gy_RW_end gv_RW_end w_321 rfl (by decide) (by decide) [1, 2, 3, 4] rfl rfl rfl rfl rfl _ rfl (Nat.le_of_ble_eq_true rfl) d_NS_copyLastPart_16 (show _ + 0 ≤ 18000 by omega) (show _ + 0 ≤ 108000 by omega) ?_
  refine g_st (.int (iI ((b + σ b : Nat) : Int)) :: []) (by rw [eb] <;> rfl) ?_
  refine g_istore (pc := 19) hX d_NS_copyLastPart_19 (by decide) ?_
  refine g_aload_n (pc := 21) hX 0 d_NS_copyLastPart_21 rfl rfl ?_
  refine g_get (pc := 22) hX f_NS_45 0 rfl rfl d_NS_copyLastPart_22 ?_
  refine g_iload_n (pc := 25) hX 1 d_NS_copyLastPart_25 rfl rfl ?_
  refine g_iV (pc := 26) hX (c_RW_second l E te tec tek _ (by omega) (by omega)) gy_RW_second gv_RW_second w_322 rfl (by decide) (by decide) [1, 2, 3, 4] rfl rfl rfl rfl rfl _ rfl (Nat.le_of_ble_eq_true rfl) d_NS_copyLastPart_26 (show _ + 0 ≤ 18000 by omega) (show _ + 0 ≤ 108000 by omega) ?_
  refine g_st (.int (iI ((b + 1 + σ (b + 1) : Nat) : Int)) :: []) (by rw [show (b : Int) + 1 + rS tec ((b : Int) + 1) = ((b + 1 + σ (b + 1) : Nat) : Int) by omega]) ?_
  refine g_istore (pc := 29) hX d_NS_copyLastPart_29 (by decide) ?_
  have loop : ∀ (d : Nat) (i : Nat) (ρ : RowT) (c0 s0 : Nat), σ (b + 1 + σ (b + 1)) < i + d → i ≤ σ (b + 1 + σ (b + 1)) → rowOK ρ → rL ρ = rL spc ++ bL (rF tec) (rG tec) b v (σ v) (b + 1 + σ (b + 1)) i → rGrow spc ρ c0 s0 → gW X (nsO x g kp pa la s n te sp ++ rowW E te tec ++ scW E s sc ++ rowW E sp ρ) c0 s0 31 [(0, .ref x), (2, .int (iI (v : Int))), (3, .int (iI ((dep (rF tec) b : Int) + 1))), (4, .int (iI ((b + σ b : Nat) : Int))), (5, .int (iI ((b + 1 + σ (b + 1) + i : Nat) : Int)))] [] := by
    intro d
    induction d with
    | zero => intro i ρ c0 s0 hfu hi hρ hl hg; omega
    | succ d ih =>
      intro i ρ c0 s0 hfu hi hρ hl hg
      obtain ⟨g1, g2, g3⟩ := id hg
      obtain ⟨⟨p1, p2, p3, p4⟩, -⟩ := id hρ
      have hL : rN ρ = rN spc + (bL (rF tec) (rG tec) b v (σ v) (b + 1 + σ (b + 1)) i).length := by have := congrArg List.length hl; rw [List.length_append, Lr_len, Lr_len] at this; exact this
      refine g_iload (pc := 31) hX d_NS_copyLastPart_31 rfl ?_
      refine g_iload (pc := 33) hX d_NS_copyLastPart_33 rfl ?_
      refine g_icmp_ge (pc := 35) (tgt := 138) hX d_NS_copyLastPart_35 (by decide) (by omega) (by omega) (fun c_1 => ?_) (fun c_1 => ?_)
      · exact g_vret (pc := 138) hX hE d_NS_copyLastPart_138 (show _ ≤ 18000 by omega) (show _ ≤ 108000 by omega) ⟨ρ, rfl, rfl, hρ, by rw [hl, show i = σ (b + 1 + σ (b + 1)) by omega], hg⟩
      · obtain ⟨j, ej⟩ : ∃ j : Nat, j = b + 1 + σ (b + 1) + i := ⟨_, rfl⟩
        rw [← ej]
        have q1 : rK tec (j : Int) = rF tec j := rK_t (by omega)
        have q3 : rB tec (j : Int) = rG tec j := rB_t (by omega)
        have q5 := hs.d (show j < rN tec by omega)
        have dj : dep (rF tec) j ≤ j := env_le hm.1 hm.2.1 (show j < rN tec by omega)
        have r1 := tef j
        have r3 := teg j
        obtain ⟨b1, b2⟩ := hb j (by omega)
        have mono := bL_mono (rF tec) (rG tec) b v (σ v) (b + 1 + σ (b + 1)) (i + 1) (σ (b + 1 + σ (b + 1)) - (i + 1))
        rw [show i + 1 + (σ (b + 1 + σ (b + 1)) - (i + 1)) = σ (b + 1 + σ (b + 1)) by omega, bL_succ, List.length_append, ← ej] at mono
        refine g_aload_n (pc := 38) hX 0 d_NS_copyLastPart_38 rfl rfl ?_
        refine g_get (pc := 39) hX f_NS_45 0 rfl rfl d_NS_copyLastPart_39 ?_
        refine g_iload (pc := 42) hX d_NS_copyLastPart_42 rfl ?_
        refine g_iV (pc := 44) hX (c_RW_kind l E te tec tek _ (by omega)) gy_RW_kind gv_RW_kind w_274 rfl (by decide) (by decide) [1, 2, 3, 4] rfl rfl rfl rfl rfl _ rfl (Nat.le_of_ble_eq_true rfl) d_NS_copyLastPart_44 (show _ + 0 ≤ 18000 by omega) (show _ + 0 ≤ 108000 by omega) ?_
        rw [q1]
        refine g_istore (pc := 47) hX d_NS_copyLastPart_47 (by decide) ?_
        refine g_aload_n (pc := 49) hX 0 d_NS_copyLastPart_49 rfl rfl ?_
        refine g_get (pc := 50) hX f_NS_45 0 rfl rfl d_NS_copyLastPart_50 ?_
        refine g_iload (pc := 53) hX d_NS_copyLastPart_53 rfl ?_
        refine g_lV (pc := 55) hX (c_RW_beside l E te tec tek _ (by omega)) gy_RW_beside gv_RW_beside w_275 rfl (by decide) (by decide) [1, 2, 3, 4] rfl rfl rfl rfl rfl _ rfl (Nat.le_of_ble_eq_true rfl) d_NS_copyLastPart_55 (show _ + 0 ≤ 18000 by omega) (show _ + 0 ≤ 108000 by omega) ?_
        rw [q3]
        refine g_lstore (pc := 58) hX d_NS_copyLastPart_58 (by decide) ?_
        refine g_aload_n (pc := 60) hX 0 d_NS_copyLastPart_60 rfl rfl ?_
        refine g_get (pc := 61) hX f_NS_32 0 rfl rfl d_NS_copyLastPart_61 ?_
        refine g_iload (pc := 64) hX d_NS_copyLastPart_64 rfl ?_
        refine g_iV (pc := 66) hX (c_SC_depth l E s sc sk _ (by omega)) gy_SC_depth gv_SC_depth w_320 rfl (by decide) (by decide) [5, 6, 7, 8] rfl rfl rfl rfl rfl _ rfl (Nat.le_of_ble_eq_true rfl) d_NS_copyLastPart_66 (show _ + 0 ≤ 18000 by omega) (show _ + 0 ≤ 108000 by omega) ?_
        rw [q5]
        refine g_iload_n (pc := 69) hX 3 d_NS_copyLastPart_69 rfl rfl ?_
        refine g_isub (pc := 70) hX d_NS_copyLastPart_70 ?_
        refine g_istore (pc := 71) hX d_NS_copyLastPart_71 (by decide) ?_
        refine g_iload (pc := 73) hX d_NS_copyLastPart_73 rfl ?_
        refine g_if_ne (pc := 75) (tgt := 87) hX d_NS_copyLastPart_75 (by decide) (by omega) (fun c_2 => ?_) (fun c_2 => ?_)
        · have hnl : nL (rF tec) (rG tec) b v (σ v) j = [(rF tec j, rG tec j)] := nL_1 (by omega)
          rw [hnl] at mono
          simp only [List.length_cons, List.length_nil] at mono
          refine g_aload_n (pc := 87) hX 0 d_NS_copyLastPart_87 rfl rfl ?_
          refine g_get (pc := 88) hX f_NS_48 0 rfl rfl d_NS_copyLastPart_88 ?_
          refine g_iload (pc := 91) hX d_NS_copyLastPart_91 rfl ?_
          refine g_lload (pc := 93) hX d_NS_copyLastPart_93 rfl ?_
          refine g_callV (pc := 95) hX (c_RW_add l E sp ρ hρ _ (by omega) _ (by omega) (by omega)) gy_RW_add gv_RW_add w_161 rfl (by decide) (by decide) [9, 10, 11, 12] rfl rfl rfl rfl rfl _ rfl (Nat.le_of_ble_eq_true rfl) d_NS_copyLastPart_95 (show _ + 6000 ≤ 18000 by omega) (show _ + 36000 ≤ 108000 by omega) (fun _ _ _ _ h => by obtain ⟨_, _, h2, _⟩ := h; rw [h2]; exact Nat.le_of_ble_eq_true rfl) (fun v w dc_3 ds_3 hp => ?_)
          obtain ⟨sp_3, rfl, rfl, spk_3, f_3⟩ := hp
          refine g_ws (nsO x g kp pa la s n te sp ++ rowW E te tec ++ scW E s sc ++ rowW E sp sp_3) rfl ?_
          refine g_goto (pc := 98) (tgt := 132) hX d_NS_copyLastPart_98 (by decide) ?_
          rw [ej] at hnl
          subst ej
          refine g_iinc (pc := 132) hX d_NS_copyLastPart_132 (by decide) rfl ?_
          refine g_goto (pc := 135) (tgt := 31) hX d_NS_copyLastPart_135 (by decide) ?_
          refine g_lv [(0, .ref x), (2, .int (iI (v : Int))), (3, .int (iI ((dep (rF tec) b : Int) + 1))), (4, .int (iI ((b + σ b : Nat) : Int))), (5, .int (iI ((b + 1 + σ (b + 1) + (i + 1) : Nat) : Int)))] ⟨rfl, rfl, rfl, rfl, rfl, trivial⟩ ?_
          exact ih (i + 1) sp_3 _ _ (by omega) (by omega) spk_3 (by rw [f_3.1, hl, bL_succ, hnl, List.append_assoc]) (hg.tr f_3.2.2)
        · refine g_lload (pc := 78) hX d_NS_copyLastPart_78 rfl ?_
          refine g_iload (pc := 80) hX d_NS_copyLastPart_80 rfl ?_
          refine g_i2l (pc := 82) hX d_NS_copyLastPart_82 (by omega) ?_
          refine g_lcmp_ge (pc := 83) (tgt := 101) hX d_NS_copyLastPart_83 d_NS_copyLastPart_84 (by decide) (by omega) (by omega) (fun c_4 => ?_) (fun c_4 => ?_)
          · refine g_lload (pc := 101) hX d_NS_copyLastPart_101 rfl ?_
            refine g_iload (pc := 103) hX d_NS_copyLastPart_103 rfl ?_
            refine g_i2l (pc := 105) hX d_NS_copyLastPart_105 (by omega) ?_
            refine g_lcmp_ne (pc := 106) (tgt := 120) hX d_NS_copyLastPart_106 d_NS_copyLastPart_107 (by decide) (by omega) (by omega) (fun c_5 => ?_) (fun c_5 => ?_)
            · have hnl : nL (rF tec) (rG tec) b v (σ v) j = [(0, rG tec j - 1)] := nL_3 (by omega) (by omega)
              rw [hnl] at mono
              simp only [List.length_cons, List.length_nil] at mono
              refine g_aload_n (pc := 120) hX 0 d_NS_copyLastPart_120 rfl rfl ?_
              refine g_get (pc := 121) hX f_NS_48 0 rfl rfl d_NS_copyLastPart_121 ?_
              refine g_iconst (pc := 124) hX d_NS_copyLastPart_124 ?_
              refine g_lload (pc := 125) hX d_NS_copyLastPart_125 rfl ?_
              refine g_lconst (pc := 127) hX 1 d_NS_copyLastPart_127 (by decide) ?_
              refine g_lsub (pc := 128) hX d_NS_copyLastPart_128 ?_
              refine g_callV (pc := 129) hX (c_RW_add l E sp ρ hρ _ (by omega) _ (by omega) (by omega)) gy_RW_add gv_RW_add w_161 rfl (by decide) (by decide) [9, 10, 11, 12] rfl rfl rfl rfl rfl _ rfl (Nat.le_of_ble_eq_true rfl) d_NS_copyLastPart_129 (show _ + 6000 ≤ 18000 by omega) (show _ + 36000 ≤ 108000 by omega) (fun _ _ _ _ h => by obtain ⟨_, _, h2, _⟩ := h; rw [h2]; exact Nat.le_of_ble_eq_true rfl) (fun v w dc_6 ds_6 hp => ?_)
              obtain ⟨sp_6, rfl, rfl, spk_6, f_6⟩ := hp
              refine g_ws (nsO x g kp pa la s n te sp ++ rowW E te tec ++ scW E s sc ++ rowW E sp sp_6) rfl ?_
              rw [ej] at hnl
              subst ej
              refine g_iinc (pc := 132) hX d_NS_copyLastPart_132 (by decide) rfl ?_
              refine g_goto (pc := 135) (tgt := 31) hX d_NS_copyLastPart_135 (by decide) ?_
              refine g_lv [(0, .ref x), (2, .int (iI (v : Int))), (3, .int (iI ((dep (rF tec) b : Int) + 1))), (4, .int (iI ((b + σ b : Nat) : Int))), (5, .int (iI ((b + 1 + σ (b + 1) + (i + 1) : Nat) : Int)))] ⟨rfl, rfl, rfl, rfl, rfl, trivial⟩ ?_
              exact ih (i + 1) sp_6 _ _ (by omega) (by omega) spk_6 (by rw [f_6.1, hl, bL_succ, hnl, List.append_assoc]) (hg.tr f_6.2.2)
            · have hnl : nL (rF tec) (rG tec) b v (σ v) j = vL (rF tec) (rG tec) v (σ v) ((dep (rF tec) j : Int) - ((dep (rF tec) b : Int) + 1)) := nL_2 (by omega) (by omega)
              rw [hnl, vL_len] at mono
              refine g_aload_n (pc := 110) hX 0 d_NS_copyLastPart_110 rfl rfl ?_
              refine g_iload_n (pc := 111) hX 2 d_NS_copyLastPart_111 rfl rfl ?_
              refine g_iload (pc := 112) hX d_NS_copyLastPart_112 rfl ?_
              refine g_callV (pc := 114) hX (c_NS_copyDeeper l E x g kp pa la s n te sp tec tek sc sk ρ hρ _ hm hs hb _ _ ⟨by omega, by omega, by omega, by omega⟩) gy_NS_copyDeeper gv_NS_copyDeeper w_339 rfl (by decide) (by decide) [0, 1, 2, 3, 4, 5, 6, 7, 8, 9, 10, 11, 12] rfl rfl rfl rfl rfl _ rfl (Nat.le_of_ble_eq_true rfl) d_NS_copyLastPart_114 (show _ + 12000 ≤ 18000 by omega) (show _ + 72000 ≤ 108000 by omega) (fun _ _ _ _ h => by obtain ⟨_, _, h2, _⟩ := h; rw [h2]; exact Nat.le_of_ble_eq_true rfl) (fun v w dc_7 ds_7 hp => ?_)
              obtain ⟨sp_7, rfl, rfl, spk_7, f_7⟩ := hp
              refine g_ws (nsO x g kp pa la s n te sp ++ rowW E te tec ++ scW E s sc ++ rowW E sp sp_7) rfl ?_
              refine g_goto (pc := 117) (tgt := 132) hX d_NS_copyLastPart_117 (by decide) ?_
              rw [ej] at hnl
              subst ej
              refine g_iinc (pc := 132) hX d_NS_copyLastPart_132 (by decide) rfl ?_
              refine g_goto (pc := 135) (tgt := 31) hX d_NS_copyLastPart_135 (by decide) ?_
              refine g_lv [(0, .ref x), (2, .int (iI (v : Int))), (3, .int (iI ((dep (rF tec) b : Int) + 1))), (4, .int (iI ((b + σ b : Nat) : Int))), (5, .int (iI ((b + 1 + σ (b + 1) + (i + 1) : Nat) : Int)))] ⟨rfl, rfl, rfl, rfl, rfl, trivial⟩ ?_
              exact ih (i + 1) sp_7 _ _ (by omega) (by omega) spk_7 (by rw [f_7.1, hl, bL_succ, hnl, List.append_assoc]) (hg.tr f_7.2)
          · have hnl : nL (rF tec) (rG tec) b v (σ v) j = [(rF tec j, rG tec j)] := nL_1 (by omega)
            rw [hnl] at mono
            simp only [List.length_cons, List.length_nil] at mono
            refine g_aload_n (pc := 87) hX 0 d_NS_copyLastPart_87 rfl rfl ?_
            refine g_get (pc := 88) hX f_NS_48 0 rfl rfl d_NS_copyLastPart_88 ?_
            refine g_iload (pc := 91) hX d_NS_copyLastPart_91 rfl ?_
            refine g_lload (pc := 93) hX d_NS_copyLastPart_93 rfl ?_
            refine g_callV (pc := 95) hX (c_RW_add l E sp ρ hρ _ (by omega) _ (by omega) (by omega)) gy_RW_add gv_RW_add w_161 rfl (by decide) (by decide) [9, 10, 11, 12] rfl rfl rfl rfl rfl _ rfl (Nat.le_of_ble_eq_true rfl) d_NS_copyLastPart_95 (show _ + 6000 ≤ 18000 by omega) (show _ + 36000 ≤ 108000 by omega) (fun _ _ _ _ h => by obtain ⟨_, _, h2, _⟩ := h; rw [h2]; exact Nat.le_of_ble_eq_true rfl) (fun v w dc_8 ds_8 hp => ?_)
            obtain ⟨sp_8, rfl, rfl, spk_8, f_8⟩ := hp
            refine g_ws (nsO x g kp pa la s n te sp ++ rowW E te tec ++ scW E s sc ++ rowW E sp sp_8) rfl ?_
            refine g_goto (pc := 98) (tgt := 132) hX d_NS_copyLastPart_98 (by decide) ?_
            rw [ej] at hnl
            subst ej
            refine g_iinc (pc := 132) hX d_NS_copyLastPart_132 (by decide) rfl ?_
            refine g_goto (pc := 135) (tgt := 31) hX d_NS_copyLastPart_135 (by decide) ?_
            refine g_lv [(0, .ref x), (2, .int (iI (v : Int))), (3, .int (iI ((dep (rF tec) b : Int) + 1))), (4, .int (iI ((b + σ b : Nat) : Int))), (5, .int (iI ((b + 1 + σ (b + 1) + (i + 1) : Nat) : Int)))] ⟨rfl, rfl, rfl, rfl, rfl, trivial⟩ ?_
            exact ih (i + 1) sp_8 _ _ (by omega) (by omega) spk_8 (by rw [f_8.1, hl, bL_succ, hnl, List.append_assoc]) (hg.tr f_8.2.2)
  refine g_lv [(0, .ref x), (2, .int (iI (v : Int))), (3, .int (iI ((dep (rF tec) b : Int) + 1))), (4, .int (iI ((b + σ b : Nat) : Int))), (5, .int (iI ((b + 1 + σ (b + 1) + 0 : Nat) : Int)))] ⟨rfl, rfl, rfl, rfl, rfl, trivial⟩ ?_
  exact loop (σ (b + 1 + σ (b + 1)) + 1) 0 spc 0 0 (by omega) (by omega) spk (by simp [bL]) (rGrow.rf spc)
  
end
section
/-- node k can be contracted: b is the binder that goes away, v the value -/
def cbv (f : Nat → Int) (σ : Nat → Nat) (n k b v : Nat) : Prop := k < n ∧ ((f k = 3 ∧ b = k ∧ v = k + 1) ∨ (f k = 4 ∧ f (k + 1) = 1 ∧ b = k + 1 ∧ v = k + 1 + σ (k + 1)))
def cOut (f g : Nat → Int) (σ : Nat → Nat) (n k b v : Nat) : List (Int × Int) := seg f g 0 k ++ bL f g b v (σ v) (b + 1 + σ (b + 1)) (σ (b + 1 + σ (b + 1))) ++ seg f g (k + σ k) (n - (k + σ k))
theorem mulb {a b : Nat} (ha : a ≤ 3000) (h1 : 1 ≤ b) (hb : b ≤ 3000) : 0 ≤ (a : Int) * ((b : Int) - 1) ∧ (a : Int) * ((b : Int) - 1) ≤ 9000000 := by
  obtain ⟨c, rfl⟩ : ∃ c, b = c + 1 := ⟨b - 1, by omega⟩
  have e : ((c + 1 : Nat) : Int) - 1 = (c : Int) := by omega
  rw [e, ← Int.natCast_mul]
  have := Nat.mul_le_mul ha (show c ≤ 3000 by omega)
  omega
theorem cbl_of {ρ : RowT} {k : Int} {σ : Nat → Nat} (hm : rN ρ = 0 ∨ mea ρ σ) (h : cbl ρ k ≠ -1) : ∃ kn b v : Nat, k = kn ∧ cbl ρ k = b ∧ cbv (rF ρ) σ (rN ρ) kn b v ∧ b < rN ρ ∧ bP (rF ρ b) ∧ v < rN ρ ∧ mea ρ σ := by
  unfold cbl at h
  by_cases h1 : 0 ≤ k ∧ k < rN ρ
  · rw [if_pos h1] at h
    obtain ⟨kn, rfl⟩ : ∃ kn : Nat, k = kn := ⟨k.toNat, by omega⟩
    have hm : mea ρ σ := by
      rcases hm with hm | hm
      · omega
      · exact hm
    have hk : kn < rN ρ := by omega
    have e0 : ((kn : Int)).toNat = kn := by omega
    rw [e0] at h
    by_cases h3 : rF ρ kn = 3
    · refine ⟨kn, kn, kn + 1, rfl, ?_, ⟨hk, Or.inl ⟨h3, rfl, rfl⟩⟩, hk, by omega, (hm.pt hk (by omega)).1, hm⟩
      unfold cbl; rw [if_pos h1, e0, if_pos h3]
    · rw [if_neg h3] at h
      by_cases h4 : rF ρ kn = 4 ∧ rK ρ ((kn : Int) + 1) = 1
      · obtain ⟨z1, z2, z3⟩ := hm.pt hk (by omega)
        have e1 : rK ρ ((kn : Int) + 1) = rF ρ (kn + 1) := by rw [rK_t (by omega)]; congr 1
        refine ⟨kn, kn + 1, kn + 1 + σ (kn + 1), rfl, ?_, ⟨hk, Or.inr ⟨h4.1, by rw [← e1]; exact h4.2, rfl, rfl⟩⟩, z1, by rw [← e1]; exact Or.inl h4.2, z2, hm⟩
        unfold cbl; rw [if_pos h1, e0, if_neg h3, if_pos h4]; omega
      · rw [if_neg h4] at h; exact absurd rfl h
  · rw [if_neg h1] at h; exact absurd rfl h
def usesR (ρ : RowT) (σ : Nat → Nat) (k : Int) : Int := if 0 ≤ k ∧ k < rN ρ ∧ bP (rF ρ k.toNat) then uCnt (rF ρ) (rG ρ) k.toNat (k.toNat + 1 + σ (k.toNat + 1)) (σ (k.toNat + 1 + σ (k.toNat + 1))) else -1
/-- what a new term is, when it is just one -/
def newT (ρ ρ0 : RowT) : Prop := rN ρ = rN ρ0 ∧ rC ρ = rC ρ0 ∧ rF ρ = rF ρ0 ∧ rG ρ = rG ρ0 ∧ (OneT (rN ρ0) (rF ρ0) → ∃ σ, mea ρ σ)
theorem cOut_len {f g : Nat → Int} {σ : Nat → Nat} {n k b v : Nat} (hv : 1 ≤ σ v) (hk : k + σ k ≤ n) : ((cOut f g σ n k b v).length : Int) = (n : Int) - σ k + σ (b + 1 + σ (b + 1)) + uCnt f g b (b + 1 + σ (b + 1)) (σ (b + 1 + σ (b + 1))) * ((σ v : Int) - 1) := by
  unfold cOut
  rw [List.length_append, List.length_append, seg_len, seg_len, Int.natCast_add, Int.natCast_add, bL_len f g b v (σ v) _ hv]
  omega
end
section
abbrev rm_NS_takeSpare : Room := { frames := 5, cells := 0, slots := 0, locals := 106 }
set_option maxHeartbeats 4000000 in
set_option maxRecDepth 100000 in
theorem c_NS_takeSpare (l : Launch) (E : gE) (x g kp pa la s n te sp : Nat) (tec : RowT) (tek : rowOK tec) (spc : RowT) (spk : rowOK spc) : Ct l E y_NS_takeSpare b_NS_takeSpare 2 none rm_NS_takeSpare [.ref x] (nsO x g kp pa la s n te sp ++ rowW E te tec ++ rowW E sp spc) (fun v w dc ds => ∃ ρ, v = none ∧ w = nsO x g kp pa la s n sp te ++ rowW E te tec ++ rowW E sp ρ ∧ rowOK ρ ∧ (newT ρ spc ∧ dc = 0 ∧ ds = 0)) := by
  refine g_start (by decide) (Nat.le_of_ble_eq_true rfl) (fun X hX hE hin => ?_)
  refine g_aload_n (pc := 0) hX 0 d_NS_takeSpare_0 rfl rfl ?_
  refine g_get (pc := 1) hX f_NS_45 0 rfl rfl d_NS_takeSpare_1 ?_
  refine g_astore_n (pc := 4) hX 1 d_NS_takeSpare_4 rfl (by decide) ?_
  refine g_aload_n (pc := 5) hX 0 d_NS_takeSpare_5 rfl rfl ?_
  refine g_aload_n (pc := 6) hX 0 d_NS_takeSpare_6 rfl rfl ?_
  refine g_get (pc := 7) hX f_NS_48 0 rfl rfl d_NS_takeSpare_7 ?_
  refine g_put (pc := 10) hX f_NS_45 gt_NS 0 rfl rfl rfl rfl (Nat.le_of_ble_eq_true rfl) d_NS_takeSpare_10 ?_
  refine g_aload_n (pc := 13) hX 0 d_NS_takeSpare_13 rfl rfl ?_
  refine g_aload_n (pc := 14) hX 1 d_NS_takeSpare_14 rfl rfl ?_
  refine g_put (pc := 15) hX f_NS_48 gt_NS 0 rfl rfl rfl rfl (Nat.le_of_ble_eq_true rfl) d_NS_takeSpare_15 ?_
  refine g_aload_n (pc := 18) hX 0 d_NS_takeSpare_18 rfl rfl ?_
  refine g_get (pc := 19) hX f_NS_45 0 rfl rfl d_NS_takeSpare_19 ?_
  refine g_callV (pc := 22) hX (c_RW_measure l E sp spc spk) gy_RW_measure gv_RW_measure w_211 rfl (by decide) (by decide) [5, 6, 7, 8] rfl rfl rfl rfl rfl _ rfl (Nat.le_of_ble_eq_true rfl) d_NS_takeSpare_22 (by decide) (by decide) (fun _ _ _ _ h => by obtain ⟨_, _, h2, _⟩ := h; rw [h2]; exact Nat.le_of_ble_eq_true rfl) (fun v w dc_1 ds_1 hp => ?_)
  obtain ⟨sp_1, rfl, rfl, spk_1, f_1_1, f_1_2, f_1_3, f_1_4, f_1_5, rfl, rfl⟩ := hp
  refine g_ws (nsO x g kp pa la s n sp te ++ rowW E te tec ++ rowW E sp sp_1) rfl ?_
  refine g_pop (pc := 25) hX d_NS_takeSpare_25 rfl ?_
  exact g_vret (pc := 26) hX hE d_NS_takeSpare_26 (by decide) (by decide) ⟨sp_1, rfl, rfl, spk_1, ⟨f_1_1, f_1_2, f_1_3, f_1_4, fun q => by obtain ⟨σ, h1, h2, h3⟩ := f_1_5 q; exact ⟨σ, by rw [f_1_1, f_1_3]; exact h1, by rw [h2, f_1_1], by rw [f_1_1]; exact q.1, fun j hj => h3 j (by omega)⟩⟩, rfl, rfl⟩

abbrev rm_NS_uses : Room := { frames := 5, cells := 6000, slots := 36000, locals := 109 }
set_option maxHeartbeats 4000000 in
set_option maxRecDepth 100000 in
theorem c_NS_uses (l : Launch) (E : gE) (x g kp pa la s n te sp : Nat) (tec : RowT) (tek : rowOK tec) (sc : ScT) (sk : scOK sc) (σ : Nat → Nat) (hte : rN tec = 0 ∨ mea tec σ) (k : Int) (hk : gin k) : Ct l E y_NS_uses b_NS_uses 2 (some .int) rm_NS_uses [.ref x, .int (iI k)] (nsO x g kp pa la s n te sp ++ rowW E te tec ++ scW E s sc) (fun v w dc ds => ∃ ς, v = some (.int (iI (usesR tec σ k))) ∧ w = nsO x g kp pa la s n te sp ++ rowW E te tec ++ scW E s ς ∧ scOK ς ∧ sGrow sc ς dc ds) := by
  obtain ⟨⟨te1, te2, te3, te4⟩, tef, teg, teh⟩ := id tek
  have k1 := rK_in tek k
  refine g_start (by decide) (Nat.le_of_ble_eq_true rfl) (fun X hX hE hin => ?_)
  refine g_aload_n (pc := 0) hX 0 d_NS_uses_0 rfl rfl ?_
  refine g_get (pc := 1) hX f_NS_45 0 rfl rfl d_NS_uses_1 ?_
  refine g_iload_n (pc := 4) hX 1 d_NS_uses_4 rfl rfl ?_
  refine g_iV (pc := 5) hX (c_RW_has l E te tec tek _ (by omega)) gy_RW_has gv_RW_has w_309 rfl (by decide) (by decide) [1, 2, 3, 4] rfl rfl rfl rfl rfl _ rfl (Nat.le_of_ble_eq_true rfl) d_NS_uses_5 (show _ + 0 ≤ 6000 by omega) (show _ + 0 ≤ 36000 by omega) ?_
  refine g_beq (pc := 8) (tgt := 25) hX d_NS_uses_8 (by decide) (fun c_1 => ?_) (fun c_1 => ?_)
  · refine g_iconst (pc := 25) hX d_NS_uses_25 ?_
    exact g_iret (pc := 26) hX hE d_NS_uses_26 (show _ ≤ 6000 by omega) (show _ ≤ 36000 by omega) ⟨sc, by rw [usesR, if_neg (by first | (intro q; exact c_1 ⟨q.1, q.2.1⟩) | (intro q; exact c_2 q.2.2))], rfl, sk, sGrow.rf sc⟩
  · obtain ⟨kn, rfl⟩ : ∃ kn : Nat, k = kn := ⟨k.toNat, by omega⟩
    have hm : mea tec σ := by
      rcases hte with h | h
      · omega
      · exact h
    have q1 : rK tec (kn : Int) = rF tec kn := rK_t (by omega)
    refine g_aload_n (pc := 11) hX 0 d_NS_uses_11 rfl rfl ?_
    refine g_get (pc := 12) hX f_NS_45 0 rfl rfl d_NS_uses_12 ?_
    refine g_iload_n (pc := 15) hX 1 d_NS_uses_15 rfl rfl ?_
    refine g_iV (pc := 16) hX (c_RW_kind l E te tec tek _ (by omega)) gy_RW_kind gv_RW_kind w_274 rfl (by decide) (by decide) [1, 2, 3, 4] rfl rfl rfl rfl rfl _ rfl (Nat.le_of_ble_eq_true rfl) d_NS_uses_16 (show _ + 0 ≤ 6000 by omega) (show _ + 0 ≤ 36000 by omega) ?_
    rw [q1]
    refine g_iS (pc := 19) hX (c_NS_isBinder l E _ (by omega)) gy_NS_isBinder w_219 w_218 rfl (by decide) (by decide) [] rfl rfl _ rfl (Nat.le_of_ble_eq_true rfl) d_NS_uses_19 (show _ + 0 ≤ 6000 by omega) (show _ + 0 ≤ 36000 by omega) ?_
    refine g_bne (pc := 22) (tgt := 27) hX d_NS_uses_22 (by decide) (fun c_2 => ?_) (fun c_2 => ?_)
    · refine g_aload_n (pc := 27) hX 0 d_NS_uses_27 rfl rfl ?_
      refine g_get (pc := 28) hX f_NS_32 0 rfl rfl d_NS_uses_28 ?_
      refine g_aload_n (pc := 31) hX 0 d_NS_uses_31 rfl rfl ?_
      refine g_get (pc := 32) hX f_NS_45 0 rfl rfl d_NS_uses_32 ?_
      refine g_callV (pc := 35) hX (c_SC_read l E s sc sk te tec tek σ hm.1 hm.2.1 hm.2.2.1 hm.2.2.2) gy_SC_read gv_SC_read w_237 rfl (by decide) (by decide) [5, 6, 7, 8, 1, 2, 3, 4] rfl rfl rfl rfl rfl _ rfl (Nat.le_of_ble_eq_true rfl) d_NS_uses_35 (show _ + 6000 ≤ 6000 by omega) (show _ + 36000 ≤ 36000 by omega) (fun _ _ _ _ h => by obtain ⟨_, _, h2, _⟩ := h; rw [h2]; exact Nat.le_of_ble_eq_true rfl) (fun v w dc_3 ds_3 hp => ?_)
      obtain ⟨s_3, rfl, rfl, sk_3, f_3⟩ := hp
      refine g_ws (nsO x g kp pa la s n te sp ++ rowW E te tec ++ scW E s s_3) rfl ?_
      obtain ⟨b1, b2, b3⟩ := f_3
      have hs : scFor s_3 tec := ⟨b1, b2⟩
      obtain ⟨b4, b5, b6⟩ := id b3
      obtain ⟨⟨m1, m2, m3, m4⟩, -⟩ := id sk_3
      refine g_aload_n (pc := 38) hX 0 d_NS_uses_38 rfl rfl ?_
      refine g_iload_n (pc := 39) hX 1 d_NS_uses_39 rfl rfl ?_
      refine g_iV (pc := 40) hX (c_NS_countUses l E x g kp pa la s n te sp tec tek s_3 sk_3 σ hm hs kn ⟨by omega, by omega⟩) gy_NS_countUses gv_NS_countUses w_316 rfl (by decide) (by decide) [0, 1, 2, 3, 4, 5, 6, 7, 8] rfl rfl rfl rfl rfl _ rfl (Nat.le_of_ble_eq_true rfl) d_NS_uses_40 (show _ + 0 ≤ 6000 by omega) (show _ + 0 ≤ 36000 by omega) ?_
      exact g_iret (pc := 43) hX hE d_NS_uses_43 (show _ ≤ 6000 by omega) (show _ ≤ 36000 by omega) ⟨s_3, by rw [usesR, if_pos (show _ from ⟨by omega, by omega, c_2⟩)]; rfl, rfl, sk_3, by rw [Nat.zero_add, Nat.zero_add]; exact b3⟩
    · refine g_iconst (pc := 25) hX d_NS_uses_25 ?_
      exact g_iret (pc := 26) hX hE d_NS_uses_26 (show _ ≤ 6000 by omega) (show _ ≤ 36000 by omega) ⟨sc, by rw [usesR, if_neg (by first | (intro q; exact c_1 ⟨q.1, q.2.1⟩) | (intro q; exact c_2 q.2.2))], rfl, sk, sGrow.rf sc⟩
end
section
abbrev rm_NS_contract : Room := { frames := 6, cells := 60000, slots := 360000, locals := 150 }
set_option maxHeartbeats 4000000 in
set_option maxRecDepth 100000 in
theorem c_NS_contract (l : Launch) (E : gE) (x g kp pa la s n te sp : Nat) (tec : RowT) (tek : rowOK tec) (sc : ScT) (sk : scOK sc) (spc : RowT) (spk : rowOK spc) (σ : Nat → Nat) (hte : rN tec = 0 ∨ mea tec σ) (hb : tB tec) (k : Int) (hk : gin k) : Ct l E y_NS_contract b_NS_contract 6 (some .int) rm_NS_contract [.ref x, .int (iI k)] (nsO x g kp pa la s n te sp ++ rowW E te tec ++ scW E s sc ++ rowW E sp spc) (fun vv ww dc ds => (cbl tec k = -1 ∧ vv = some (.int (iI (-1))) ∧ ww = nsO x g kp pa la s n te sp ++ rowW E te tec ++ scW E s sc ++ rowW E sp spc ∧ dc = 0 ∧ ds = 0) ∨ (∃ (kn b v : Nat) (ς : ScT), k = kn ∧ cbv (rF tec) σ (rN tec) kn b v ∧ 3000 < (cOut (rF tec) (rG tec) σ (rN tec) kn b v).length ∧ vv = some (.int (iI (-2))) ∧ ww = nsO x g kp pa la s n te sp ++ rowW E te tec ++ scW E s ς ++ rowW E sp spc ∧ scOK ς ∧ sGrow sc ς dc ds) ∨ (∃ (kn b v : Nat) (ς : ScT) (ρ0 ρ : RowT), k = kn ∧ cbv (rF tec) σ (rN tec) kn b v ∧ (cOut (rF tec) (rG tec) σ (rN tec) kn b v).length ≤ 3000 ∧ vv = some (.int (iI (rN ρ))) ∧ ww = nsO x g kp pa la s n sp te ++ rowW E te tec ++ scW E s ς ++ rowW E sp ρ ∧ scOK ς ∧ rowOK ρ ∧ rL ρ0 = cOut (rF tec) (rG tec) σ (rN tec) kn b v ∧ newT ρ ρ0 ∧ dc ≤ (sC ς - sC sc) + (rC ρ - rC spc) ∧ ds ≤ 6 * ((sC ς - sC sc) + (rC ρ - rC spc)) ∧ sC sc ≤ sC ς ∧ rC spc ≤ rC ρ)) := by
  obtain ⟨⟨te1, te2, te3, te4⟩, tef, teg, teh⟩ := id tek
  obtain ⟨⟨sp1, sp2, sp3, sp4⟩, spf, spg, sph⟩ := id spk
  have k1 : gin (cbl tec k) := by unfold cbl; split <;> (try split) <;> (try split) <;> omega
  refine g_start (by decide) (Nat.le_of_ble_eq_true rfl) (fun X hX hE hin => ?_)
  refine g_aload_n (pc := 0) hX 0 d_NS_contract_0 rfl rfl ?_
  refine g_iload_n (pc := 1) hX 1 d_NS_contract_1 rfl rfl ?_
  refine g_iV (pc := 2) hX (c_NS_contractible l E x g kp pa la s n te sp tec tek _ (by omega)) gy_NS_contractible gv_NS_contractible w_327 rfl (by decide) (by decide) [0, 1, 2, 3, 4] rfl rfl rfl rfl rfl _ rfl (Nat.le_of_ble_eq_true rfl) d_NS_contract_2 (show _ + 0 ≤ 60000 by omega) (show _ + 0 ≤ 360000 by omega) ?_
  refine g_istore_n (pc := 5) hX 2 d_NS_contract_5 rfl (by decide) ?_
  refine g_iload_n (pc := 6) hX 2 d_NS_contract_6 rfl rfl ?_
  refine g_iconst (pc := 7) hX d_NS_contract_7 ?_
  refine g_icmp_ne (pc := 8) (tgt := 13) hX d_NS_contract_8 (by decide) (by omega) (by omega) (fun c_1 => ?_) (fun c_1 => ?_)
  · obtain ⟨kn, b, v, rfl, ecb, hcbv, hb1, hb0, v1, hm⟩ := cbl_of hte c_1
    rw [ecb]
    have hcbv2 := hcbv
    obtain ⟨hk1, hcc⟩ := hcbv2
    have hb2 : pP (rF tec b) := by omega
    obtain ⟨z1, z2, z3⟩ := hm.pt hb1 hb2
    obtain ⟨z4, z5⟩ := hm.en hb1
    obtain ⟨x4, x5⟩ := hm.en hk1
    obtain ⟨y4, y5⟩ := hm.en v1
    have es : rS tec ((b : Int) + 1) = σ (b + 1) := hm.sz z1
    have eb := hm.sz hb1
    have xs := hm.sz hk1
    have ev := hm.sz v1
    refine g_iload_n (pc := 13) hX 2 d_NS_contract_13 rfl rfl ?_
    refine g_iload_n (pc := 14) hX 1 d_NS_contract_14 rfl rfl ?_
    refine g_icmp_ne (pc := 15) (tgt := 24) hX d_NS_contract_15 (by decide) (by omega) (by omega) (fun c_2 => ?_) (fun c_2 => ?_)
    · obtain ⟨w1, w2, w3⟩ := hm.pt hk1 (by omega)
      have ek : rS tec ((kn : Int) + 1) = σ (kn + 1) := hm.sz w1
      refine g_aload_n (pc := 24) hX 0 d_NS_contract_24 rfl rfl ?_
      refine g_get (pc := 25) hX f_NS_45 0 rfl rfl d_NS_contract_25 ?_
      refine g_iload_n (pc := 28) hX 1 d_NS_contract_28 rfl rfl ?_
      refine g_iV (pc := 29) hX (c_RW_second l E te tec tek _ (by omega) (by omega)) gy_RW_second gv_RW_second w_322 rfl (by decide) (by decide) [1, 2, 3, 4] rfl rfl rfl rfl rfl _ rfl (Nat.le_of_ble_eq_true rfl) d_NS_contract_29 (show _ + 0 ≤ 60000 by omega) (show _ + 0 ≤ 360000 by omega) ?_
      refine g_st (.int (iI (v : Int)) :: []) (by rw [show (v : Int) = (kn : Int) + 1 + rS tec ((kn : Int) + 1) by omega]) ?_
      refine g_istore_n (pc := 32) hX 3 d_NS_contract_32 rfl (by decide) ?_
      refine g_aload_n (pc := 33) hX 0 d_NS_contract_33 rfl rfl ?_
      refine g_get (pc := 34) hX f_NS_32 0 rfl rfl d_NS_contract_34 ?_
      refine g_aload_n (pc := 37) hX 0 d_NS_contract_37 rfl rfl ?_
      refine g_get (pc := 38) hX f_NS_45 0 rfl rfl d_NS_contract_38 ?_
      refine g_callV (pc := 41) hX (c_SC_read l E s sc sk te tec tek σ hm.1 hm.2.1 hm.2.2.1 hm.2.2.2) gy_SC_read gv_SC_read w_237 rfl (by decide) (by decide) [5, 6, 7, 8, 1, 2, 3, 4] rfl rfl rfl rfl rfl _ rfl (Nat.le_of_ble_eq_true rfl) d_NS_contract_41 (show _ + 6000 ≤ 60000 by omega) (show _ + 36000 ≤ 360000 by omega) (fun _ _ _ _ h => by obtain ⟨_, _, h2, _⟩ := h; rw [h2]; exact Nat.le_of_ble_eq_true rfl) (fun v w dc_3 ds_3 hp => ?_)
      obtain ⟨s_3, rfl, rfl, sk_3, f_3⟩ := hp
      refine g_ws (nsO x g kp pa la s n te sp ++ rowW E te tec ++ scW E s s_3 ++ rowW E sp spc) rfl ?_
      obtain ⟨b1, b2, b3⟩ := f_3
      have hs : scFor s_3 tec := ⟨b1, b2⟩
      obtain ⟨b4, b5, b6⟩ := id b3
      obtain ⟨⟨m1, m2, m3, m4⟩, -⟩ := id sk_3
      refine g_aload_n (pc := 44) hX 0 d_NS_contract_44 rfl rfl ?_
      refine g_get (pc := 45) hX f_NS_45 0 rfl rfl d_NS_contract_45 ?_
      refine g_iV (pc := 48) hX (c_RW_count l E te tec tek) gy_RW_count gv_RW_count w_157 rfl (by decide) (by decide) [1, 2, 3, 4] rfl rfl rfl rfl rfl _ rfl (Nat.le_of_ble_eq_true rfl) d_NS_contract_48 (show _ + 0 ≤ 60000 by omega) (show _ + 0 ≤ 360000 by omega) ?_
      refine g_aload_n (pc := 51) hX 0 d_NS_contract_51 rfl rfl ?_
      refine g_get (pc := 52) hX f_NS_45 0 rfl rfl d_NS_contract_52 ?_
      refine g_iload_n (pc := 55) hX 1 d_NS_contract_55 rfl rfl ?_
      refine g_iV (pc := 56) hX (c_RW_size l E te tec tek _ (by omega)) gy_RW_size gv_RW_size w_311 rfl (by decide) (by decide) [1, 2, 3, 4] rfl rfl rfl rfl rfl _ rfl (Nat.le_of_ble_eq_true rfl) d_NS_contract_56 (show _ + 0 ≤ 60000 by omega) (show _ + 0 ≤ 360000 by omega) ?_
      refine g_isub (pc := 59) hX d_NS_contract_59 ?_
      refine g_istore (pc := 60) hX d_NS_contract_60 (by decide) ?_
      refine g_aload_n (pc := 62) hX 0 d_NS_contract_62 rfl rfl ?_
      refine g_get (pc := 63) hX f_NS_45 0 rfl rfl d_NS_contract_63 ?_
      refine g_iload_n (pc := 66) hX 2 d_NS_contract_66 rfl rfl ?_
      refine g_iV (pc := 67) hX (c_RW_end l E te tec tek _ (by omega)) gy_RW_end gv_RW_end w_321 rfl (by decide) (by decide) [1, 2, 3, 4] rfl rfl rfl rfl rfl _ rfl (Nat.le_of_ble_eq_true rfl) d_NS_contract_67 (show _ + 0 ≤ 60000 by omega) (show _ + 0 ≤ 360000 by omega) ?_
      refine g_aload_n (pc := 70) hX 0 d_NS_contract_70 rfl rfl ?_
      refine g_get (pc := 71) hX f_NS_45 0 rfl rfl d_NS_contract_71 ?_
      refine g_iload_n (pc := 74) hX 2 d_NS_contract_74 rfl rfl ?_
      refine g_iV (pc := 75) hX (c_RW_second l E te tec tek _ (by omega) (by omega)) gy_RW_second gv_RW_second w_322 rfl (by decide) (by decide) [1, 2, 3, 4] rfl rfl rfl rfl rfl _ rfl (Nat.le_of_ble_eq_true rfl) d_NS_contract_75 (show _ + 0 ≤ 60000 by omega) (show _ + 0 ≤ 360000 by omega) ?_
      refine g_isub (pc := 78) hX d_NS_contract_78 ?_
      refine g_istore (pc := 79) hX d_NS_contract_79 (by decide) ?_
      refine g_iload (pc := 81) hX d_NS_contract_81 rfl ?_
      refine g_iload (pc := 83) hX d_NS_contract_83 rfl ?_
      refine g_iadd (pc := 85) hX d_NS_contract_85 ?_
      refine g_aload_n (pc := 86) hX 0 d_NS_contract_86 rfl rfl ?_
      refine g_iload_n (pc := 87) hX 2 d_NS_contract_87 rfl rfl ?_
      refine g_iV (pc := 88) hX (c_NS_countUses l E x g kp pa la s n te sp tec tek s_3 sk_3 σ hm hs b ⟨hb1, hb2⟩) gy_NS_countUses gv_NS_countUses w_316 rfl (by decide) (by decide) [0, 1, 2, 3, 4, 5, 6, 7, 8] rfl rfl rfl rfl rfl _ rfl (Nat.le_of_ble_eq_true rfl) d_NS_contract_88 (show _ + 0 ≤ 60000 by omega) (show _ + 0 ≤ 360000 by omega) ?_
      refine g_aload_n (pc := 91) hX 0 d_NS_contract_91 rfl rfl ?_
      refine g_get (pc := 92) hX f_NS_45 0 rfl rfl d_NS_contract_92 ?_
      refine g_iload_n (pc := 95) hX 3 d_NS_contract_95 rfl rfl ?_
      refine g_iV (pc := 96) hX (c_RW_size l E te tec tek _ (by omega)) gy_RW_size gv_RW_size w_311 rfl (by decide) (by decide) [1, 2, 3, 4] rfl rfl rfl rfl rfl _ rfl (Nat.le_of_ble_eq_true rfl) d_NS_contract_96 (show _ + 0 ≤ 60000 by omega) (show _ + 0 ≤ 360000 by omega) ?_
      refine g_iconst (pc := 99) hX d_NS_contract_99 ?_
      refine g_isub (pc := 100) hX d_NS_contract_100 ?_
      refine g_imul (pc := 101) hX d_NS_contract_101 ?_
      refine g_iadd (pc := 102) hX d_NS_contract_102 ?_
      have hcl := cOut_len (f := rF tec) (g := rG tec) (σ := σ) (n := rN tec) (k := kn) (b := b) (v := v) y4 x5
      have hcu := uCnt_le (rF tec) (rG tec) b (b + 1 + σ (b + 1)) (σ (b + 1 + σ (b + 1)))
      have hmb := mulb (a := (uCnt (rF tec) (rG tec) b (b + 1 + σ (b + 1)) (σ (b + 1 + σ (b + 1))) : Nat)) (b := σ v) (by omega) y4 (by omega)
      have htot : (rN tec : Int) - rS tec (kn : Int) + ((b : Int) + rS tec (b : Int) - ((b : Int) + 1 + rS tec ((b : Int) + 1))) + ((uCnt (rF tec) (rG tec) b (b + 1 + σ (b + 1)) (σ (b + 1 + σ (b + 1))) : Nat) : Int) * (rS tec (v : Int) - 1) = (((cOut (rF tec) (rG tec) σ (rN tec) kn b v).length : Nat) : Int) := by
        rw [xs, es, eb, ev, hcl]; omega
      have hcl2 : (cOut (rF tec) (rG tec) σ (rN tec) kn b v).length = kn + (bL (rF tec) (rG tec) b v (σ v) (b + 1 + σ (b + 1)) (σ (b + 1 + σ (b + 1)))).length + (rN tec - (kn + σ kn)) := by unfold cOut; rw [List.length_append, List.length_append, seg_len, seg_len]
      rw [htot]
      refine g_sipush (pc := 103) hX 3000 d_NS_contract_103 (by decide) ?_
      refine g_icmp_le (pc := 106) (tgt := 112) hX d_NS_contract_106 (by decide) (by omega) (by omega) (fun c_4 => ?_) (fun c_4 => ?_)
      · refine g_aload_n (pc := 112) hX 0 d_NS_contract_112 rfl rfl ?_
        refine g_get (pc := 113) hX f_NS_48 0 rfl rfl d_NS_contract_113 ?_
        refine g_callV (pc := 116) hX (c_RW_clear l E sp spc spk) gy_RW_clear gv_RW_clear w_203 rfl (by decide) (by decide) [9, 10, 11, 12] rfl rfl rfl rfl rfl _ rfl (Nat.le_of_ble_eq_true rfl) d_NS_contract_116 (show _ + 0 ≤ 60000 by omega) (show _ + 0 ≤ 360000 by omega) (fun _ _ _ _ h => by obtain ⟨_, _, h2, _⟩ := h; rw [h2]; exact Nat.le_of_ble_eq_true rfl) (fun v w dc_5 ds_5 hp => ?_)
        obtain ⟨sp_5, rfl, rfl, spk_5, f_5_1, f_5_2, rfl, rfl⟩ := hp
        refine g_ws (nsO x g kp pa la s n te sp ++ rowW E te tec ++ scW E s s_3 ++ rowW E sp sp_5) rfl ?_
        obtain ⟨⟨u1, u2, u3, u4⟩, -⟩ := id spk_5
        refine g_aload_n (pc := 119) hX 0 d_NS_contract_119 rfl rfl ?_
        refine g_iconst (pc := 120) hX d_NS_contract_120 ?_
        refine g_iload_n (pc := 121) hX 1 d_NS_contract_121 rfl rfl ?_
        refine g_st (.int (iI (kn : Int)) :: .int (iI ((0 : Nat) : Int)) :: .ref x :: []) rfl ?_
        refine g_callV (pc := 122) hX (c_NS_copy l E x g kp pa la s n te sp tec tek sp_5 spk_5 0 kn ⟨by omega, by omega, by omega⟩) gy_NS_copy gv_NS_copy w_331 rfl (by decide) (by decide) [0, 1, 2, 3, 4, 9, 10, 11, 12] rfl rfl rfl rfl rfl _ rfl (Nat.le_of_ble_eq_true rfl) d_NS_contract_122 (show _ + 12000 ≤ 60000 by omega) (show _ + 72000 ≤ 360000 by omega) (fun _ _ _ _ h => by obtain ⟨_, _, h2, _⟩ := h; rw [h2]; exact Nat.le_of_ble_eq_true rfl) (fun v w dc_6 ds_6 hp => ?_)
        obtain ⟨sp_6, rfl, rfl, spk_6, f_6⟩ := hp
        refine g_ws (nsO x g kp pa la s n te sp ++ rowW E te tec ++ scW E s s_3 ++ rowW E sp sp_6) rfl ?_
        obtain ⟨d1, d2, d3, d4⟩ := f_6
        have n1 := congrArg List.length d1
        rw [List.length_append, Lr_len, Lr_len, seg_len] at n1
        obtain ⟨⟨t1, t2, t3, t4⟩, -⟩ := id spk_6
        refine g_aload_n (pc := 125) hX 0 d_NS_contract_125 rfl rfl ?_
        refine g_iload_n (pc := 126) hX 2 d_NS_contract_126 rfl rfl ?_
        refine g_iload_n (pc := 127) hX 3 d_NS_contract_127 rfl rfl ?_
        refine g_callV (pc := 128) hX (c_NS_copyLastPart l E x g kp pa la s n te sp tec tek s_3 sk_3 sp_6 spk_6 σ hm hs hb b v ⟨hb1, hb2, v1, by omega⟩) gy_NS_copyLastPart gv_NS_copyLastPart w_335 rfl (by decide) (by decide) [0, 1, 2, 3, 4, 5, 6, 7, 8, 9, 10, 11, 12] rfl rfl rfl rfl rfl _ rfl (Nat.le_of_ble_eq_true rfl) d_NS_contract_128 (show _ + 18000 ≤ 60000 by omega) (show _ + 108000 ≤ 360000 by omega) (fun _ _ _ _ h => by obtain ⟨_, _, h2, _⟩ := h; rw [h2]; exact Nat.le_of_ble_eq_true rfl) (fun v w dc_7 ds_7 hp => ?_)
        obtain ⟨sp_7, rfl, rfl, spk_7, f_7⟩ := hp
        refine g_ws (nsO x g kp pa la s n te sp ++ rowW E te tec ++ scW E s s_3 ++ rowW E sp sp_7) rfl ?_
        obtain ⟨e1, e2, e3, e4⟩ := f_7
        have n2 := congrArg List.length e1
        rw [List.length_append, Lr_len, Lr_len] at n2
        obtain ⟨⟨q1, q2, q3, q4⟩, -⟩ := id spk_7
        refine g_aload_n (pc := 131) hX 0 d_NS_contract_131 rfl rfl ?_
        refine g_aload_n (pc := 132) hX 0 d_NS_contract_132 rfl rfl ?_
        refine g_get (pc := 133) hX f_NS_45 0 rfl rfl d_NS_contract_133 ?_
        refine g_iload_n (pc := 136) hX 1 d_NS_contract_136 rfl rfl ?_
        refine g_iV (pc := 137) hX (c_RW_end l E te tec tek _ (by omega)) gy_RW_end gv_RW_end w_321 rfl (by decide) (by decide) [1, 2, 3, 4] rfl rfl rfl rfl rfl _ rfl (Nat.le_of_ble_eq_true rfl) d_NS_contract_137 (show _ + 0 ≤ 60000 by omega) (show _ + 0 ≤ 360000 by omega) ?_
        refine g_aload_n (pc := 140) hX 0 d_NS_contract_140 rfl rfl ?_
        refine g_get (pc := 141) hX f_NS_45 0 rfl rfl d_NS_contract_141 ?_
        refine g_iV (pc := 144) hX (c_RW_count l E te tec tek) gy_RW_count gv_RW_count w_157 rfl (by decide) (by decide) [1, 2, 3, 4] rfl rfl rfl rfl rfl _ rfl (Nat.le_of_ble_eq_true rfl) d_NS_contract_144 (show _ + 0 ≤ 60000 by omega) (show _ + 0 ≤ 360000 by omega) ?_
        refine g_st (.int (iI (rN tec : Int)) :: .int (iI ((kn + σ kn : Nat) : Int)) :: .ref x :: []) (by rw [xs] <;> rfl) ?_
        refine g_callV (pc := 147) hX (c_NS_copy l E x g kp pa la s n te sp tec tek sp_7 spk_7 (kn + σ kn) (rN tec) ⟨by omega, by omega, by omega⟩) gy_NS_copy gv_NS_copy w_331 rfl (by decide) (by decide) [0, 1, 2, 3, 4, 9, 10, 11, 12] rfl rfl rfl rfl rfl _ rfl (Nat.le_of_ble_eq_true rfl) d_NS_contract_147 (show _ + 12000 ≤ 60000 by omega) (show _ + 72000 ≤ 360000 by omega) (fun _ _ _ _ h => by obtain ⟨_, _, h2, _⟩ := h; rw [h2]; exact Nat.le_of_ble_eq_true rfl) (fun v w dc_8 ds_8 hp => ?_)
        obtain ⟨sp_8, rfl, rfl, spk_8, f_8⟩ := hp
        refine g_ws (nsO x g kp pa la s n te sp ++ rowW E te tec ++ scW E s s_3 ++ rowW E sp sp_8) rfl ?_
        obtain ⟨i1, i2, i3, i4⟩ := f_8
        obtain ⟨⟨o1, o2, o3, o4⟩, -⟩ := id spk_8
        have hfin : rL sp_8 = cOut (rF tec) (rG tec) σ (rN tec) kn b v := by
          rw [i1, e1, d1, show rL sp_5 = [] by show Lr (rN sp_5) _ _ = []; rw [f_5_1]; rfl]
          simp only [List.nil_append]
          rfl
        refine g_aload_n (pc := 150) hX 0 d_NS_contract_150 rfl rfl ?_
        refine g_callV (pc := 151) hX (c_NS_takeSpare l E x g kp pa la s n te sp tec tek sp_8 spk_8) gy_NS_takeSpare gv_NS_takeSpare w_297 rfl (by decide) (by decide) [0, 1, 2, 3, 4, 9, 10, 11, 12] rfl rfl rfl rfl rfl _ rfl (Nat.le_of_ble_eq_true rfl) d_NS_contract_151 (show _ + 0 ≤ 60000 by omega) (show _ + 0 ≤ 360000 by omega) (fun _ _ _ _ h => by obtain ⟨_, _, h2, _⟩ := h; rw [h2]; exact Nat.le_of_ble_eq_true rfl) (fun v w dc_9 ds_9 hp => ?_)
        obtain ⟨sp_9, rfl, rfl, spk_9, f_9_1, rfl, rfl⟩ := hp
        refine g_ws (nsO x g kp pa la s n sp te ++ rowW E te tec ++ scW E s s_3 ++ rowW E sp sp_9) rfl ?_
        have nt := f_9_1
        obtain ⟨j1, j2, j3, j4, j5⟩ := id nt
        refine g_aload_n (pc := 154) hX 0 d_NS_contract_154 rfl rfl ?_
        refine g_get (pc := 155) hX f_NS_45 0 rfl rfl d_NS_contract_155 ?_
        refine g_iV (pc := 158) hX (c_RW_count l E sp sp_9 spk_9) gy_RW_count gv_RW_count w_157 rfl (by decide) (by decide) [9, 10, 11, 12] rfl rfl rfl rfl rfl _ rfl (Nat.le_of_ble_eq_true rfl) d_NS_contract_158 (show _ + 0 ≤ 60000 by omega) (show _ + 0 ≤ 360000 by omega) ?_
        exact g_iret (pc := 161) hX hE d_NS_contract_161 (show _ ≤ 60000 by omega) (show _ ≤ 360000 by omega) (Or.inr (Or.inr ⟨kn, b, v, s_3, sp_8, sp_9, rfl, hcbv, by omega, rfl, rfl, sk_3, spk_9, hfin, nt, by omega, by omega, by omega, by omega⟩))
      · refine g_bipush (pc := 109) hX (-2) d_NS_contract_109 (by decide) ?_
        exact g_iret (pc := 111) hX hE d_NS_contract_111 (show _ ≤ 60000 by omega) (show _ ≤ 360000 by omega) (Or.inr (Or.inl ⟨kn, b, v, s_3, rfl, hcbv, by omega, rfl, rfl, sk_3, by rw [Nat.zero_add, Nat.zero_add]; exact b3⟩))
    · refine g_iload_n (pc := 18) hX 1 d_NS_contract_18 rfl rfl ?_
      refine g_iconst (pc := 19) hX d_NS_contract_19 ?_
      refine g_iadd (pc := 20) hX d_NS_contract_20 ?_
      refine g_goto (pc := 21) (tgt := 32) hX d_NS_contract_21 (by decide) ?_
      refine g_st (.int (iI (v : Int)) :: []) (by rw [show (v : Int) = (kn : Int) + 1 by omega]) ?_
      refine g_istore_n (pc := 32) hX 3 d_NS_contract_32 rfl (by decide) ?_
      refine g_aload_n (pc := 33) hX 0 d_NS_contract_33 rfl rfl ?_
      refine g_get (pc := 34) hX f_NS_32 0 rfl rfl d_NS_contract_34 ?_
      refine g_aload_n (pc := 37) hX 0 d_NS_contract_37 rfl rfl ?_
      refine g_get (pc := 38) hX f_NS_45 0 rfl rfl d_NS_contract_38 ?_
      refine g_callV (pc := 41) hX (c_SC_read l E s sc sk te tec tek σ hm.1 hm.2.1 hm.2.2.1 hm.2.2.2) gy_SC_read gv_SC_read w_237 rfl (by decide) (by decide) [5, 6, 7, 8, 1, 2, 3, 4] rfl rfl rfl rfl rfl _ rfl (Nat.le_of_ble_eq_true rfl) d_NS_contract_41 (show _ + 6000 ≤ 60000 by omega) (show _ + 36000 ≤ 360000 by omega) (fun _ _ _ _ h => by obtain ⟨_, _, h2, _⟩ := h; rw [h2]; exact Nat.le_of_ble_eq_true rfl) (fun v w dc_10 ds_10 hp => ?_)
      obtain ⟨s_10, rfl, rfl, sk_10, f_10⟩ := hp
      refine g_ws (nsO x g kp pa la s n te sp ++ rowW E te tec ++ scW E s s_10 ++ rowW E sp spc) rfl ?_
      obtain ⟨b1, b2, b3⟩ := f_10
      have hs : scFor s_10 tec := ⟨b1, b2⟩
      obtain ⟨b4, b5, b6⟩ := id b3
      obtain ⟨⟨m1, m2, m3, m4⟩, -⟩ := id sk_10
      refine g_aload_n (pc := 44) hX 0 d_NS_contract_44 rfl rfl ?_
      refine g_get (pc := 45) hX f_NS_45 0 rfl rfl d_NS_contract_45 ?_
      refine g_iV (pc := 48) hX (c_RW_count l E te tec tek) gy_RW_count gv_RW_count w_157 rfl (by decide) (by decide) [1, 2, 3, 4] rfl rfl rfl rfl rfl _ rfl (Nat.le_of_ble_eq_true rfl) d_NS_contract_48 (show _ + 0 ≤ 60000 by omega) (show _ + 0 ≤ 360000 by omega) ?_
      refine g_aload_n (pc := 51) hX 0 d_NS_contract_51 rfl rfl ?_
      refine g_get (pc := 52) hX f_NS_45 0 rfl rfl d_NS_contract_52 ?_
      refine g_iload_n (pc := 55) hX 1 d_NS_contract_55 rfl rfl ?_
      refine g_iV (pc := 56) hX (c_RW_size l E te tec tek _ (by omega)) gy_RW_size gv_RW_size w_311 rfl (by decide) (by decide) [1, 2, 3, 4] rfl rfl rfl rfl rfl _ rfl (Nat.le_of_ble_eq_true rfl) d_NS_contract_56 (show _ + 0 ≤ 60000 by omega) (show _ + 0 ≤ 360000 by omega) ?_
      refine g_isub (pc := 59) hX d_NS_contract_59 ?_
      refine g_istore (pc := 60) hX d_NS_contract_60 (by decide) ?_
      refine g_aload_n (pc := 62) hX 0 d_NS_contract_62 rfl rfl ?_
      refine g_get (pc := 63) hX f_NS_45 0 rfl rfl d_NS_contract_63 ?_
      refine g_iload_n (pc := 66) hX 2 d_NS_contract_66 rfl rfl ?_
      refine g_iV (pc := 67) hX (c_RW_end l E te tec tek _ (by omega)) gy_RW_end gv_RW_end w_321 rfl (by decide) (by decide) [1, 2, 3, 4] rfl rfl rfl rfl rfl _ rfl (Nat.le_of_ble_eq_true rfl) d_NS_contract_67 (show _ + 0 ≤ 60000 by omega) (show _ + 0 ≤ 360000 by omega) ?_
      refine g_aload_n (pc := 70) hX 0 d_NS_contract_70 rfl rfl ?_
      refine g_get (pc := 71) hX f_NS_45 0 rfl rfl d_NS_contract_71 ?_
      refine g_iload_n (pc := 74) hX 2 d_NS_contract_74 rfl rfl ?_
      refine g_iV (pc := 75) hX (c_RW_second l E te tec tek _ (by omega) (by omega)) gy_RW_second gv_RW_second w_322 rfl (by decide) (by decide) [1, 2, 3, 4] rfl rfl rfl rfl rfl _ rfl (Nat.le_of_ble_eq_true rfl) d_NS_contract_75 (show _ + 0 ≤ 60000 by omega) (show _ + 0 ≤ 360000 by omega) ?_
      refine g_isub (pc := 78) hX d_NS_contract_78 ?_
      refine g_istore (pc := 79) hX d_NS_contract_79 (by decide) ?_
      refine g_iload (pc := 81) hX d_NS_contract_81 rfl ?_
      refine g_iload (pc := 83) hX d_NS_contract_83 rfl ?_
      refine g_iadd (pc := 85) hX d_NS_contract_85 ?_
      refine g_aload_n (pc := 86) hX 0 d_NS_contract_86 rfl rfl ?_
      refine g_iload_n (pc := 87) hX 2 d_NS_contract_87 rfl rfl ?_
      refine g_iV (pc := 88) hX (c_NS_countUses l E x g kp pa la s n te sp tec tek s_10 sk_10 σ hm hs b ⟨hb1, hb2⟩) gy_NS_countUses gv_NS_countUses w_316 rfl (by decide) (by decide) [0, 1, 2, 3, 4, 5, 6, 7, 8] rfl rfl rfl rfl rfl _ rfl (Nat.le_of_ble_eq_true rfl) d_NS_contract_88 (show _ + 0 ≤ 60000 by omega) (show _ + 0 ≤ 360000 by omega) ?_
      refine g_aload_n (pc := 91) hX 0 d_NS_contract_91 rfl rfl ?_
      refine g_get (pc := 92) hX f_NS_45 0 rfl rfl d_NS_contract_92 ?_
      refine g_iload_n (pc := 95) hX 3 d_NS_contract_95 rfl rfl ?_
      refine g_iV (pc := 96) hX (c_RW_size l E te tec tek _ (by omega)) gy_RW_size gv_RW_size w_311 rfl (by decide) (by decide) [1, 2, 3, 4] rfl rfl rfl rfl rfl _ rfl (Nat.le_of_ble_eq_true rfl) d_NS_contract_96 (show _ + 0 ≤ 60000 by omega) (show _ + 0 ≤ 360000 by omega) ?_
      refine g_iconst (pc := 99) hX d_NS_contract_99 ?_
      refine g_isub (pc := 100) hX d_NS_contract_100 ?_
      refine g_imul (pc := 101) hX d_NS_contract_101 ?_
      refine g_iadd (pc := 102) hX d_NS_contract_102 ?_
      have hcl := cOut_len (f := rF tec) (g := rG tec) (σ := σ) (n := rN tec) (k := kn) (b := b) (v := v) y4 x5
      have hcu := uCnt_le (rF tec) (rG tec) b (b + 1 + σ (b + 1)) (σ (b + 1 + σ (b + 1)))
      have hmb := mulb (a := (uCnt (rF tec) (rG tec) b (b + 1 + σ (b + 1)) (σ (b + 1 + σ (b + 1))) : Nat)) (b := σ v) (by omega) y4 (by omega)
      have htot : (rN tec : Int) - rS tec (kn : Int) + ((b : Int) + rS tec (b : Int) - ((b : Int) + 1 + rS tec ((b : Int) + 1))) + ((uCnt (rF tec) (rG tec) b (b + 1 + σ (b + 1)) (σ (b + 1 + σ (b + 1))) : Nat) : Int) * (rS tec (v : Int) - 1) = (((cOut (rF tec) (rG tec) σ (rN tec) kn b v).length : Nat) : Int) := by
        rw [xs, es, eb, ev, hcl]; omega
      have hcl2 : (cOut (rF tec) (rG tec) σ (rN tec) kn b v).length = kn + (bL (rF tec) (rG tec) b v (σ v) (b + 1 + σ (b + 1)) (σ (b + 1 + σ (b + 1)))).length + (rN tec - (kn + σ kn)) := by unfold cOut; rw [List.length_append, List.length_append, seg_len, seg_len]
      rw [htot]
      refine g_sipush (pc := 103) hX 3000 d_NS_contract_103 (by decide) ?_
      refine g_icmp_le (pc := 106) (tgt := 112) hX d_NS_contract_106 (by decide) (by omega) (by omega) (fun c_11 => ?_) (fun c_11 => ?_)
      · refine g_aload_n (pc := 112) hX 0 d_NS_contract_112 rfl rfl ?_
        refine g_get (pc := 113) hX f_NS_48 0 rfl rfl d_NS_contract_113 ?_
        refine g_callV (pc := 116) hX (c_RW_clear l E sp spc spk) gy_RW_clear gv_RW_clear w_203 rfl (by decide) (by decide) [9, 10, 11, 12] rfl rfl rfl rfl rfl _ rfl (Nat.le_of_ble_eq_true rfl) d_NS_contract_116 (show _ + 0 ≤ 60000 by omega) (show _ + 0 ≤ 360000 by omega) (fun _ _ _ _ h => by obtain ⟨_, _, h2, _⟩ := h; rw [h2]; exact Nat.le_of_ble_eq_true rfl) (fun v w dc_12 ds_12 hp => ?_)
        obtain ⟨sp_12, rfl, rfl, spk_12, f_12_1, f_12_2, rfl, rfl⟩ := hp
        refine g_ws (nsO x g kp pa la s n te sp ++ rowW E te tec ++ scW E s s_10 ++ rowW E sp sp_12) rfl ?_
        obtain ⟨⟨u1, u2, u3, u4⟩, -⟩ := id spk_12
        refine g_aload_n (pc := 119) hX 0 d_NS_contract_119 rfl rfl ?_
        refine g_iconst (pc := 120) hX d_NS_contract_120 ?_
        refine g_iload_n (pc := 121) hX 1 d_NS_contract_121 rfl rfl ?_
        refine g_st (.int (iI (kn : Int)) :: .int (iI ((0 : Nat) : Int)) :: .ref x :: []) rfl ?_
        refine g_callV (pc := 122) hX (c_NS_copy l E x g kp pa la s n te sp tec tek sp_12 spk_12 0 kn ⟨by omega, by omega, by omega⟩) gy_NS_copy gv_NS_copy w_331 rfl (by decide) (by decide) [0, 1, 2, 3, 4, 9, 10, 11, 12] rfl rfl rfl rfl rfl _ rfl (Nat.le_of_ble_eq_true rfl) d_NS_contract_122 (show _ + 12000 ≤ 60000 by omega) (show _ + 72000 ≤ 360000 by omega) (fun _ _ _ _ h => by obtain ⟨_, _, h2, _⟩ := h; rw [h2]; exact Nat.le_of_ble_eq_true rfl) (fun v w dc_13 ds_13 hp => ?_)
        obtain ⟨sp_13, rfl, rfl, spk_13, f_13⟩ := hp
        refine g_ws (nsO x g kp pa la s n te sp ++ rowW E te tec ++ scW E s s_10 ++ rowW E sp sp_13) rfl ?_
        obtain ⟨d1, d2, d3, d4⟩ := f_13
        have n1 := congrArg List.length d1
        rw [List.length_append, Lr_len, Lr_len, seg_len] at n1
        obtain ⟨⟨t1, t2, t3, t4⟩, -⟩ := id spk_13
        refine g_aload_n (pc := 125) hX 0 d_NS_contract_125 rfl rfl ?_
        refine g_iload_n (pc := 126) hX 2 d_NS_contract_126 rfl rfl ?_
        refine g_iload_n (pc := 127) hX 3 d_NS_contract_127 rfl rfl ?_
        refine g_callV (pc := 128) hX (c_NS_copyLastPart l E x g kp pa la s n te sp tec tek s_10 sk_10 sp_13 spk_13 σ hm hs hb b v ⟨hb1, hb2, v1, by omega⟩) gy_NS_copyLastPart gv_NS_copyLastPart w_335 rfl (by decide) (by decide) [0, 1, 2, 3, 4, 5, 6, 7, 8, 9, 10, 11, 12] rfl rfl rfl rfl rfl _ rfl (Nat.le_of_ble_eq_true rfl) d_NS_contract_128 (show _ + 18000 ≤ 60000 by omega) (show _ + 108000 ≤ 360000 by omega) (fun _ _ _ _ h => by obtain ⟨_, _, h2, _⟩ := h; rw [h2]; exact Nat.le_of_ble_eq_true rfl) (fun v w dc_14 ds_14 hp => ?_)
        obtain ⟨sp_14, rfl, rfl, spk_14, f_14⟩ := hp
        refine g_ws (nsO x g kp pa la s n te sp ++ rowW E te tec ++ scW E s s_10 ++ rowW E sp sp_14) rfl ?_
        obtain ⟨e1, e2, e3, e4⟩ := f_14
        have n2 := congrArg List.length e1
        rw [List.length_append, Lr_len, Lr_len] at n2
        obtain ⟨⟨q1, q2, q3, q4⟩, -⟩ := id spk_14
        refine g_aload_n (pc := 131) hX 0 d_NS_contract_131 rfl rfl ?_
        refine g_aload_n (pc := 132) hX 0 d_NS_contract_132 rfl rfl ?_
        refine g_get (pc := 133) hX f_NS_45 0 rfl rfl d_NS_contract_133 ?_
        refine g_iload_n (pc := 136) hX 1 d_NS_contract_136 rfl rfl ?_
        refine g_iV (pc := 137) hX (c_RW_end l E te tec tek _ (by omega)) gy_RW_end gv_RW_end w_321 rfl (by decide) (by decide) [1, 2, 3, 4] rfl rfl rfl rfl rfl _ rfl (Nat.le_of_ble_eq_true rfl) d_NS_contract_137 (show _ + 0 ≤ 60000 by omega) (show _ + 0 ≤ 360000 by omega) ?_
        refine g_aload_n (pc := 140) hX 0 d_NS_contract_140 rfl rfl ?_
        refine g_get (pc := 141) hX f_NS_45 0 rfl rfl d_NS_contract_141 ?_
        refine g_iV (pc := 144) hX (c_RW_count l E te tec tek) gy_RW_count gv_RW_count w_157 rfl (by decide) (by decide) [1, 2, 3, 4] rfl rfl rfl rfl rfl _ rfl (Nat.le_of_ble_eq_true rfl) d_NS_contract_144 (show _ + 0 ≤ 60000 by omega) (show _ + 0 ≤ 360000 by omega) ?_
        refine g_st (.int (iI (rN tec : Int)) :: .int (iI ((kn + σ kn : Nat) : Int)) :: .ref x :: []) (by rw [xs] <;> rfl) ?_
        refine g_callV (pc := 147) hX (c_NS_copy l E x g kp pa la s n te sp tec tek sp_14 spk_14 (kn + σ kn) (rN tec) ⟨by omega, by omega, by omega⟩) gy_NS_copy gv_NS_copy w_331 rfl (by decide) (by decide) [0, 1, 2, 3, 4, 9, 10, 11, 12] rfl rfl rfl rfl rfl _ rfl (Nat.le_of_ble_eq_true rfl) d_NS_contract_147 (show _ + 12000 ≤ 60000 by omega) (show _ + 72000 ≤ 360000 by omega) (fun _ _ _ _ h => by obtain ⟨_, _, h2, _⟩ := h; rw [h2]; exact Nat.le_of_ble_eq_true rfl) (fun v w dc_15 ds_15 hp => ?_)
        obtain ⟨sp_15, rfl, rfl, spk_15, f_15⟩ := hp
        refine g_ws (nsO x g kp pa la s n te sp ++ rowW E te tec ++ scW E s s_10 ++ rowW E sp sp_15) rfl ?_
        obtain ⟨i1, i2, i3, i4⟩ := f_15
        obtain ⟨⟨o1, o2, o3, o4⟩, -⟩ := id spk_15
        have hfin : rL sp_15 = cOut (rF tec) (rG tec) σ (rN tec) kn b v := by
          rw [i1, e1, d1, show rL sp_12 = [] by show Lr (rN sp_12) _ _ = []; rw [f_12_1]; rfl]
          simp only [List.nil_append]
          rfl
        refine g_aload_n (pc := 150) hX 0 d_NS_contract_150 rfl rfl ?_
        refine g_callV (pc := 151) hX (c_NS_takeSpare l E x g kp pa la s n te sp tec tek sp_15 spk_15) gy_NS_takeSpare gv_NS_takeSpare w_297 rfl (by decide) (by decide) [0, 1, 2, 3, 4, 9, 10, 11, 12] rfl rfl rfl rfl rfl _ rfl (Nat.le_of_ble_eq_true rfl) d_NS_contract_151 (show _ + 0 ≤ 60000 by omega) (show _ + 0 ≤ 360000 by omega) (fun _ _ _ _ h => by obtain ⟨_, _, h2, _⟩ := h; rw [h2]; exact Nat.le_of_ble_eq_true rfl) (fun v w dc_16 ds_16 hp => ?_)
        obtain ⟨sp_16, rfl, rfl, spk_16, f_16_1, rfl, rfl⟩ := hp
        refine g_ws (nsO x g kp pa la s n sp te ++ rowW E te tec ++ scW E s s_10 ++ rowW E sp sp_16) rfl ?_
        have nt := f_16_1
        obtain ⟨j1, j2, j3, j4, j5⟩ := id nt
        refine g_aload_n (pc := 154) hX 0 d_NS_contract_154 rfl rfl ?_
        refine g_get (pc := 155) hX f_NS_45 0 rfl rfl d_NS_contract_155 ?_
        refine g_iV (pc := 158) hX (c_RW_count l E sp sp_16 spk_16) gy_RW_count gv_RW_count w_157 rfl (by decide) (by decide) [9, 10, 11, 12] rfl rfl rfl rfl rfl _ rfl (Nat.le_of_ble_eq_true rfl) d_NS_contract_158 (show _ + 0 ≤ 60000 by omega) (show _ + 0 ≤ 360000 by omega) ?_
        exact g_iret (pc := 161) hX hE d_NS_contract_161 (show _ ≤ 60000 by omega) (show _ ≤ 360000 by omega) (Or.inr (Or.inr ⟨kn, b, v, s_10, sp_15, sp_16, rfl, hcbv, by omega, rfl, rfl, sk_10, spk_16, hfin, nt, by omega, by omega, by omega, by omega⟩))
      · refine g_bipush (pc := 109) hX (-2) d_NS_contract_109 (by decide) ?_
        exact g_iret (pc := 111) hX hE d_NS_contract_111 (show _ ≤ 60000 by omega) (show _ ≤ 360000 by omega) (Or.inr (Or.inl ⟨kn, b, v, s_10, rfl, hcbv, by omega, rfl, rfl, sk_10, by rw [Nat.zero_add, Nat.zero_add]; exact b3⟩))
  · refine g_iconst (pc := 11) hX d_NS_contract_11 ?_
    exact g_iret (pc := 12) hX hE d_NS_contract_12 (show _ ≤ 60000 by omega) (show _ ≤ 360000 by omega) (Or.inl ⟨by omega, rfl, rfl, rfl, rfl⟩)
end
section
-- bits of longs, by integers
theorem lI_bv (a : Int) : (lI a).toBitVec = BitVec.ofInt 64 a := rfl
theorem lI_un (a : Int) : (lI a).toBitVec.toNat = (a % 18446744073709551616).toNat := by rw [lI_bv, BitVec.toNat_ofInt]; rfl
theorem lI_inj {x : Int64} {a : Int} (h : x.toBitVec.toNat = (a % 18446744073709551616).toNat) : x = lI a := by
  apply Int64.toBitVec.inj
  apply BitVec.eq_of_toNat_eq
  rw [h, lI_un]
theorem lI_255 (a : Int) : lI a &&& lI 255 = lI (a % 256) := by
  apply lI_inj
  rw [Int64.toBitVec_and, BitVec.toNat_and, lI_un, lI_un, show ((255 : Int) % 18446744073709551616).toNat = 2 ^ 8 - 1 by decide, Nat.and_two_pow_sub_one_eq_mod]
  omega
theorem sh_u : ∀ k : Fin 64, ((iI (k.val : Int)).toInt64.toUInt64 &&& Int64.toUInt64 63) = UInt64.ofNat k.val := by decide
theorem lI_ush (a : Int) {k : Nat} (hk : k < 64) : ((lI a).toUInt64 >>> ((iI (k : Int)).toInt64.toUInt64 &&& Int64.toUInt64 63)).toInt64 = lI ((a % 18446744073709551616) / ((2 ^ k : Nat) : Int)) := by
  rw [sh_u ⟨k, hk⟩]
  apply lI_inj
  show ((lI a).toUInt64 >>> UInt64.ofNat k).toBitVec.toNat = _
  rw [UInt64.toBitVec_shiftRight]
  have e : ((UInt64.ofNat k).toBitVec % 64).toNat = k := by
    show ((BitVec.ofNat 64 k) % 64#64).toNat = k
    rw [BitVec.toNat_umod, BitVec.toNat_ofNat]
    show (k % 18446744073709551616) % 64 = k
    omega
  show ((lI a).toBitVec >>> ((UInt64.ofNat k).toBitVec % 64)).toNat = _
  rw [BitVec.ushiftRight_eq', e, BitVec.toNat_ushiftRight, lI_un, Nat.shiftRight_eq_div_pow]
  have h0 : 0 ≤ a % 18446744073709551616 := Int.emod_nonneg _ (by decide)
  have h1 : a % 18446744073709551616 < 18446744073709551616 := Int.emod_lt_of_pos _ (by decide)
  generalize a % 18446744073709551616 = z at h0 h1
  obtain ⟨n, rfl⟩ := Int.eq_ofNat_of_zero_le h0
  rw [Int.toNat_natCast, ← Int.natCast_ediv]
  have := Nat.div_le_self n (2 ^ k)
  generalize n / 2 ^ k = q at *
  omega
theorem lI_ush8 {a : Int} (h0 : 0 ≤ a) (h1 : a < 9223372036854775808) : ((lI a).toUInt64 >>> ((iI 8).toInt64.toUInt64 &&& Int64.toUInt64 63)).toInt64 = lI (a / 256) := by
  have := lI_ush a (k := 8) (by decide)
  rw [show a % 18446744073709551616 = a by omega] at this
  exact this
theorem lI_ush32 {a : Int} (h0 : 0 ≤ a) (h1 : a < 9223372036854775808) : ((lI a).toUInt64 >>> ((iI 32).toInt64.toUInt64 &&& Int64.toUInt64 63)).toInt64 = lI (a / 4294967296) := by
  have := lI_ush a (k := 32) (by decide)
  rw [show a % 18446744073709551616 = a by omega] at this
  exact this
theorem lI_shl8 (a : Int) : lI a <<< ((iI 8).toInt64 &&& 63) = lI (a * 256) := by
  rw [show ((iI 8).toInt64 &&& 63) = 8 by decide]
  apply lI_inj
  rw [Int64.toBitVec_shiftLeft]
  show ((lI a).toBitVec <<< ((8 : Int64).toBitVec.smod 64)).toNat = _
  rw [show ((8 : Int64).toBitVec.smod 64) = 8#64 by decide, BitVec.shiftLeft_eq', BitVec.toNat_shiftLeft, lI_un, Nat.shiftLeft_eq]
  show _ * 2 ^ 8 % 2 ^ 64 = _
  omega
theorem lI_or8 {a d : Int} (h0 : 0 ≤ d) (h1 : d < 256) : lI (a * 256) ||| lI d = lI (a * 256 + d) := by
  apply lI_inj
  rw [Int64.toBitVec_or, BitVec.toNat_or, lI_un, lI_un]
  obtain ⟨y, hy⟩ : ∃ y : Nat, ((a * 256) % 18446744073709551616).toNat = y * 2 ^ 8 := ⟨((a * 256) % 18446744073709551616).toNat / 256, by omega⟩
  rw [hy, show (d % 18446744073709551616).toNat = d.toNat by omega, ← Nat.shiftLeft_eq, ← Nat.shiftLeft_add_eq_or_of_lt (by omega), Nat.shiftLeft_eq]
  omega
theorem iI_div {a b : Int} (h0 : 0 ≤ a) (h1 : a < 2147483648) (h2 : 0 < b) (h3 : b < 2147483648) : iI a / iI b = iI (a / b) := by
  obtain ⟨n, rfl⟩ := Int.eq_ofNat_of_zero_le h0
  obtain ⟨m, rfl⟩ := Int.eq_ofNat_of_zero_le (Int.le_of_lt h2)
  have := pk_div (a := n) (d := m) (by omega) (by omega) (by omega)
  rw [← Int.natCast_ediv, ← iI_nat, ← iI_nat, ← iI_nat]
  exact this
theorem iI_rem {a b : Int} (h0 : 0 ≤ a) (h1 : a < 2147483648) (h2 : 0 < b) (h3 : b < 2147483648) : iI a - iI a / iI b * iI b = iI (a % b) := by
  obtain ⟨n, rfl⟩ := Int.eq_ofNat_of_zero_le h0
  obtain ⟨m, rfl⟩ := Int.eq_ofNat_of_zero_le (Int.le_of_lt h2)
  have := pk_rem (a := n) (d := m) (by omega) (by omega) (by omega)
  rw [← Int.natCast_emod, ← iI_nat, ← iI_nat, ← iI_nat]
  exact this
/-- names -/
abbrev bOK (r : Int) : Prop := (97 ≤ r % 256 ∧ r % 256 ≤ 122) ∨ (256 ≤ r ∧ 48 ≤ r % 256 ∧ r % 256 ≤ 57)
def cbg : Nat → Int → Prop
  | 0, _ => True
  | k + 1, r => r = 0 ∨ (bOK r ∧ cbg k (r / 256))
def okName (z : Int) : Prop := 0 < z ∧ z < 4294967296 ∧ cbg 4 z
def f4 (z : Int) : Int := if z < 4294967296 then z else if z < 1099511627776 then z / 256 else if z < 281474976710656 then z / 65536 else if z < 72057594037927936 then z / 16777216 else z / 4294967296
def nst (v n t : Int) : Int := if t ≤ n then v * 256 + (48 + n / t % 10) else v
def nmb (z n : Int) : Int := nst (nst (nst (nst z n 1000) n 100) n 10) n 1
def nbh (base : Int) : Nat → Int → Int → Int → Int
  | 0, _, _, _ => 0
  | k + 1, h, m, t => if 48 ≤ h % 256 ∧ h % 256 ≤ 57 then (if h / 256 = base then (if h % 256 = 48 then 0 else m + t * (h % 256 - 48)) else nbh base k (h / 256) (m + t * (h % 256 - 48)) (t * 10)) else 0
theorem nbh_s {base h m t : Int} {k : Nat} (h1 : 48 ≤ h % 256 ∧ h % 256 ≤ 57) (h2 : ¬ h / 256 = base) : nbh base (k + 1) h m t = nbh base k (h / 256) (m + t * (h % 256 - 48)) (t * 10) := by
  rw [nbh, if_pos h1, if_neg h2]
theorem nbh_e {base h m t : Int} {k : Nat} (h1 : 48 ≤ h % 256 ∧ h % 256 ≤ 57) (h2 : h / 256 = base) : nbh base (k + 1) h m t = if h % 256 = 48 then 0 else m + t * (h % 256 - 48) := by
  rw [nbh, if_pos h1, if_pos h2]
theorem nbh_n {base h m t : Int} {k : Nat} (h1 : ¬ (48 ≤ h % 256 ∧ h % 256 ≤ 57)) : nbh base (k + 1) h m t = 0 := by
  rw [nbh, if_neg h1]
theorem cbg_s {r : Int} {k : Nat} (h1 : ¬ r = 0) (h2 : bOK r) : cbg (k + 1) r ↔ cbg k (r / 256) := ⟨fun q => q.elim (fun e => absurd e h1) (fun q => q.2), fun q => Or.inr ⟨h2, q⟩⟩
end
section
abbrev rm_NM_isDigit : Room := { frames := 0, cells := 0, slots := 0, locals := 0 }
set_option maxHeartbeats 4000000 in
set_option maxRecDepth 100000 in
theorem c_NM_isDigit (l : Launch) (E : gE) (z : Int) (hz : gil z) : CtI l E y_NM_isDigit b_NM_isDigit 2 (some .boolean) rm_NM_isDigit [.long (lI z)] ([]) (bZ (48 ≤ z ∧ z ≤ 57)) := by
  refine g_start (by decide) (Nat.le_of_ble_eq_true rfl) (fun X hX hE hin => ?_)
  refine g_lload_n (pc := 0) hX 0 d_NM_isDigit_0 rfl rfl ?_
  refine g_ldc2 (pc := 1) hX 48 w_139 (by decide) d_NM_isDigit_1 ?_
  refine g_lcmp_lt (pc := 4) (tgt := 20) hX d_NM_isDigit_4 d_NM_isDigit_5 (by decide) (by omega) (by omega) (fun c_1 => ?_) (fun c_1 => ?_)
  · refine g_iconst (pc := 20) hX d_NM_isDigit_20 ?_
    exact g_zret (pc := 21) hX hE (by first | exact Or.inl rfl | exact Or.inr rfl | exact bZ_01 _) d_NM_isDigit_21 (by decide) (by decide) ⟨by rw [bZ_f (by omega)], rfl, rfl, rfl⟩
  · refine g_lload_n (pc := 8) hX 0 d_NM_isDigit_8 rfl rfl ?_
    refine g_ldc2 (pc := 9) hX 57 w_140 (by decide) d_NM_isDigit_9 ?_
    refine g_lcmp_gt (pc := 12) (tgt := 20) hX d_NM_isDigit_12 d_NM_isDigit_13 (by decide) (by omega) (by omega) (fun c_2 => ?_) (fun c_2 => ?_)
    · refine g_iconst (pc := 20) hX d_NM_isDigit_20 ?_
      exact g_zret (pc := 21) hX hE (by first | exact Or.inl rfl | exact Or.inr rfl | exact bZ_01 _) d_NM_isDigit_21 (by decide) (by decide) ⟨by rw [bZ_f (by omega)], rfl, rfl, rfl⟩
    · refine g_iconst (pc := 16) hX d_NM_isDigit_16 ?_
      refine g_goto (pc := 17) (tgt := 21) hX d_NM_isDigit_17 (by decide) ?_
      exact g_zret (pc := 21) hX hE (by first | exact Or.inl rfl | exact Or.inr rfl | exact bZ_01 _) d_NM_isDigit_21 (by decide) (by decide) ⟨by rw [bZ_t (by omega)], rfl, rfl, rfl⟩

abbrev rm_NM_canBeGiven : Room := { frames := 1, cells := 0, slots := 0, locals := 21 }
set_option maxHeartbeats 4000000 in
set_option maxRecDepth 100000 in
theorem c_NM_canBeGiven (l : Launch) (E : gE) (z : Int) (hz : gil z) : CtI l E y_NM_canBeGiven b_NM_canBeGiven 9 (some .boolean) rm_NM_canBeGiven [.long (lI z)] ([]) (bZ (okName z)) := by
  refine g_start (by decide) (Nat.le_of_ble_eq_true rfl) (fun X hX hE hin => ?_)
  refine g_lload_n (pc := 0) hX 0 d_NM_canBeGiven_0 rfl rfl ?_
  refine g_lconst (pc := 1) hX 0 d_NM_canBeGiven_1 (by decide) ?_
  refine g_lcmp_le (pc := 2) (tgt := 15) hX d_NM_canBeGiven_2 d_NM_canBeGiven_3 (by decide) (by omega) (by omega) (fun c_1 => ?_) (fun c_1 => ?_)
  · refine g_iconst (pc := 15) hX d_NM_canBeGiven_15 ?_
    exact g_zret (pc := 16) hX hE (by first | exact Or.inl rfl | exact Or.inr rfl | exact bZ_01 _) d_NM_canBeGiven_16 (by decide) (by decide) ⟨by rw [bZ_f (fun q => by have := q.1; have := q.2.1; omega)], rfl, rfl, rfl⟩
  · refine g_lload_n (pc := 6) hX 0 d_NM_canBeGiven_6 rfl rfl ?_
    refine g_bipush (pc := 7) hX 32 d_NM_canBeGiven_7 (by decide) ?_
    refine g_lushr (pc := 9) hX (z / 4294967296) d_NM_canBeGiven_9 (lI_ush32 (by omega) (by omega)) ?_
    refine g_lconst (pc := 10) hX 0 d_NM_canBeGiven_10 (by decide) ?_
    refine g_lcmp_eq (pc := 11) (tgt := 17) hX d_NM_canBeGiven_11 d_NM_canBeGiven_12 (by decide) (by omega) (by omega) (fun c_2 => ?_) (fun c_2 => ?_)
    · refine g_lload_n (pc := 17) hX 0 d_NM_canBeGiven_17 rfl rfl ?_
      refine g_lstore_n (pc := 18) hX 2 d_NM_canBeGiven_18 rfl (by decide) ?_
      refine g_iconst (pc := 19) hX d_NM_canBeGiven_19 ?_
      refine g_istore (pc := 20) hX d_NM_canBeGiven_20 (by decide) ?_
      have loop : ∀ (d : Nat) (k : Nat) (r i : Int), k < d → i = 4 - (k : Int) → k ≤ 4 → 0 ≤ r → r < 4294967296 → (cbg k r ↔ okName z) → gW X ([]) 0 0 22 [(0, .long (lI z)), (2, .long (lI (r))), (4, .int (iI (i)))] [] := by
        intro d
        induction d with
        | zero => intro k r i hfu hi hk h0 h1 hc; omega
        | succ d ih =>
          intro k r i hfu hi hk h0 h1 hc
          refine g_iload (pc := 22) hX d_NM_canBeGiven_22 rfl ?_
          refine g_iconst (pc := 24) hX d_NM_canBeGiven_24 ?_
          refine g_icmp_ge (pc := 25) (tgt := 111) hX d_NM_canBeGiven_25 (by decide) (by omega) (by omega) (fun c_3 => ?_) (fun c_3 => ?_)
          · refine g_iconst (pc := 111) hX d_NM_canBeGiven_111 ?_
            exact g_zret (pc := 112) hX hE (by first | exact Or.inl rfl | exact Or.inr rfl | exact bZ_01 _) d_NM_canBeGiven_112 (by decide) (by decide) ⟨by rw [bZ_t (by first | exact hc.mp (Or.inl (by omega)) | (have e : k = 0 := (by omega); subst e; exact hc.mp trivial))], rfl, rfl, rfl⟩
          · obtain ⟨k, rfl⟩ : ∃ k2, k = k2 + 1 := ⟨k - 1, by omega⟩
            refine g_lload_n (pc := 28) hX 2 d_NM_canBeGiven_28 rfl rfl ?_
            refine g_lconst (pc := 29) hX 0 d_NM_canBeGiven_29 (by decide) ?_
            refine g_lcmp_eq (pc := 30) (tgt := 111) hX d_NM_canBeGiven_30 d_NM_canBeGiven_31 (by decide) (by omega) (by omega) (fun c_4 => ?_) (fun c_4 => ?_)
            · refine g_iconst (pc := 111) hX d_NM_canBeGiven_111 ?_
              exact g_zret (pc := 112) hX hE (by first | exact Or.inl rfl | exact Or.inr rfl | exact bZ_01 _) d_NM_canBeGiven_112 (by decide) (by decide) ⟨by rw [bZ_t (by first | exact hc.mp (Or.inl (by omega)) | (have e : k = 0 := (by omega); subst e; exact hc.mp trivial))], rfl, rfl, rfl⟩
            · refine g_lload_n (pc := 34) hX 2 d_NM_canBeGiven_34 rfl rfl ?_
              refine g_ldc2 (pc := 35) hX 255 w_133 (by decide) d_NM_canBeGiven_35 ?_
              refine g_land (pc := 38) hX (r % 256) d_NM_canBeGiven_38 (lI_255 r) ?_
              refine g_lstore (pc := 39) hX d_NM_canBeGiven_39 (by decide) ?_
              refine g_lload_n (pc := 41) hX 2 d_NM_canBeGiven_41 rfl rfl ?_
              refine g_lload (pc := 42) hX d_NM_canBeGiven_42 rfl ?_
              refine g_lcmp_ne (pc := 44) (tgt := 52) hX d_NM_canBeGiven_44 d_NM_canBeGiven_45 (by decide) (by omega) (by omega) (fun c_5 => ?_) (fun c_5 => ?_)
              · refine g_iconst (pc := 52) hX d_NM_canBeGiven_52 ?_
                refine g_istore (pc := 53) hX d_NM_canBeGiven_53 (by decide) ?_
                refine g_lload (pc := 55) hX d_NM_canBeGiven_55 rfl ?_
                refine g_ldc2 (pc := 57) hX 97 w_134 (by decide) d_NM_canBeGiven_57 ?_
                refine g_lcmp_lt (pc := 60) (tgt := 77) hX d_NM_canBeGiven_60 d_NM_canBeGiven_61 (by decide) (by omega) (by omega) (fun c_6 => ?_) (fun c_6 => ?_)
                · refine g_iconst (pc := 77) hX d_NM_canBeGiven_77 ?_
                  refine g_istore (pc := 78) hX d_NM_canBeGiven_78 (by decide) ?_
                  refine g_iload (pc := 80) hX d_NM_canBeGiven_80 rfl ?_
                  refine g_if_ne (pc := 82) (tgt := 100) hX d_NM_canBeGiven_82 (by decide) (by decide) (fun c_7 => ?_) (fun c_7 => ?_)
                  · exact absurd c_7 (by decide)
                  · refine g_iload (pc := 85) hX d_NM_canBeGiven_85 rfl ?_
                    refine g_if_ne (pc := 87) (tgt := 98) hX d_NM_canBeGiven_87 (by decide) (by decide) (fun c_8 => ?_) (fun c_8 => ?_)
                    · exact absurd c_8 (by decide)
                    · refine g_lload (pc := 90) hX d_NM_canBeGiven_90 rfl ?_
                      refine g_iS (pc := 92) hX (c_NM_isDigit l E _ (by omega)) gy_NM_isDigit w_137 w_136 rfl (by decide) (by decide) [] rfl rfl _ rfl (Nat.le_of_ble_eq_true rfl) d_NM_canBeGiven_92 (by decide) (by decide) ?_
                      refine g_bne (pc := 95) (tgt := 100) hX d_NM_canBeGiven_95 (by decide) (fun c_9 => ?_) (fun c_9 => ?_)
                      · refine g_lload_n (pc := 100) hX 2 d_NM_canBeGiven_100 rfl rfl ?_
                        refine g_bipush (pc := 101) hX 8 d_NM_canBeGiven_101 (by decide) ?_
                        refine g_lushr (pc := 103) hX (r / 256) d_NM_canBeGiven_103 (lI_ush8 (by omega) (by omega)) ?_
                        refine g_lstore_n (pc := 104) hX 2 d_NM_canBeGiven_104 rfl (by decide) ?_
                        refine g_iinc (pc := 105) hX d_NM_canBeGiven_105 (by decide) rfl ?_
                        refine g_goto (pc := 108) (tgt := 22) hX d_NM_canBeGiven_108 (by decide) ?_
                        refine g_lv [(0, .long (lI z)), (2, .long (lI (r / 256))), (4, .int (iI (i + 1)))] ⟨rfl, rfl, rfl, trivial⟩ ?_
                        exact ih k (r / 256) (i + 1) (by omega) (by omega) (by omega) (by omega) (by omega) (by rw [← hc, cbg_s (by omega) (by omega)])
                      · refine g_iconst (pc := 98) hX d_NM_canBeGiven_98 ?_
                        exact g_zret (pc := 99) hX hE (by first | exact Or.inl rfl | exact Or.inr rfl | exact bZ_01 _) d_NM_canBeGiven_99 (by decide) (by decide) ⟨by rw [bZ_f (fun q => (show r = 0 ∨ (bOK r ∧ cbg k (r / 256)) from hc.mpr q).elim (fun e => absurd e (by omega)) (fun e => absurd e.1 (by omega)))], rfl, rfl, rfl⟩
                · refine g_lload (pc := 64) hX d_NM_canBeGiven_64 rfl ?_
                  refine g_ldc2 (pc := 66) hX 122 w_135 (by decide) d_NM_canBeGiven_66 ?_
                  refine g_lcmp_gt (pc := 69) (tgt := 77) hX d_NM_canBeGiven_69 d_NM_canBeGiven_70 (by decide) (by omega) (by omega) (fun c_10 => ?_) (fun c_10 => ?_)
                  · refine g_iconst (pc := 77) hX d_NM_canBeGiven_77 ?_
                    refine g_istore (pc := 78) hX d_NM_canBeGiven_78 (by decide) ?_
                    refine g_iload (pc := 80) hX d_NM_canBeGiven_80 rfl ?_
                    refine g_if_ne (pc := 82) (tgt := 100) hX d_NM_canBeGiven_82 (by decide) (by decide) (fun c_11 => ?_) (fun c_11 => ?_)
                    · exact absurd c_11 (by decide)
                    · refine g_iload (pc := 85) hX d_NM_canBeGiven_85 rfl ?_
                      refine g_if_ne (pc := 87) (tgt := 98) hX d_NM_canBeGiven_87 (by decide) (by decide) (fun c_12 => ?_) (fun c_12 => ?_)
                      · exact absurd c_12 (by decide)
                      · refine g_lload (pc := 90) hX d_NM_canBeGiven_90 rfl ?_
                        refine g_iS (pc := 92) hX (c_NM_isDigit l E _ (by omega)) gy_NM_isDigit w_137 w_136 rfl (by decide) (by decide) [] rfl rfl _ rfl (Nat.le_of_ble_eq_true rfl) d_NM_canBeGiven_92 (by decide) (by decide) ?_
                        refine g_bne (pc := 95) (tgt := 100) hX d_NM_canBeGiven_95 (by decide) (fun c_13 => ?_) (fun c_13 => ?_)
                        · refine g_lload_n (pc := 100) hX 2 d_NM_canBeGiven_100 rfl rfl ?_
                          refine g_bipush (pc := 101) hX 8 d_NM_canBeGiven_101 (by decide) ?_
                          refine g_lushr (pc := 103) hX (r / 256) d_NM_canBeGiven_103 (lI_ush8 (by omega) (by omega)) ?_
                          refine g_lstore_n (pc := 104) hX 2 d_NM_canBeGiven_104 rfl (by decide) ?_
                          refine g_iinc (pc := 105) hX d_NM_canBeGiven_105 (by decide) rfl ?_
                          refine g_goto (pc := 108) (tgt := 22) hX d_NM_canBeGiven_108 (by decide) ?_
                          refine g_lv [(0, .long (lI z)), (2, .long (lI (r / 256))), (4, .int (iI (i + 1)))] ⟨rfl, rfl, rfl, trivial⟩ ?_
                          exact ih k (r / 256) (i + 1) (by omega) (by omega) (by omega) (by omega) (by omega) (by rw [← hc, cbg_s (by omega) (by omega)])
                        · refine g_iconst (pc := 98) hX d_NM_canBeGiven_98 ?_
                          exact g_zret (pc := 99) hX hE (by first | exact Or.inl rfl | exact Or.inr rfl | exact bZ_01 _) d_NM_canBeGiven_99 (by decide) (by decide) ⟨by rw [bZ_f (fun q => (show r = 0 ∨ (bOK r ∧ cbg k (r / 256)) from hc.mpr q).elim (fun e => absurd e (by omega)) (fun e => absurd e.1 (by omega)))], rfl, rfl, rfl⟩
                  · refine g_iconst (pc := 73) hX d_NM_canBeGiven_73 ?_
                    refine g_goto (pc := 74) (tgt := 78) hX d_NM_canBeGiven_74 (by decide) ?_
                    refine g_istore (pc := 78) hX d_NM_canBeGiven_78 (by decide) ?_
                    refine g_iload (pc := 80) hX d_NM_canBeGiven_80 rfl ?_
                    refine g_if_ne (pc := 82) (tgt := 100) hX d_NM_canBeGiven_82 (by decide) (by decide) (fun c_14 => ?_) (fun c_14 => ?_)
                    · refine g_lload_n (pc := 100) hX 2 d_NM_canBeGiven_100 rfl rfl ?_
                      refine g_bipush (pc := 101) hX 8 d_NM_canBeGiven_101 (by decide) ?_
                      refine g_lushr (pc := 103) hX (r / 256) d_NM_canBeGiven_103 (lI_ush8 (by omega) (by omega)) ?_
                      refine g_lstore_n (pc := 104) hX 2 d_NM_canBeGiven_104 rfl (by decide) ?_
                      refine g_iinc (pc := 105) hX d_NM_canBeGiven_105 (by decide) rfl ?_
                      refine g_goto (pc := 108) (tgt := 22) hX d_NM_canBeGiven_108 (by decide) ?_
                      refine g_lv [(0, .long (lI z)), (2, .long (lI (r / 256))), (4, .int (iI (i + 1)))] ⟨rfl, rfl, rfl, trivial⟩ ?_
                      exact ih k (r / 256) (i + 1) (by omega) (by omega) (by omega) (by omega) (by omega) (by rw [← hc, cbg_s (by omega) (by omega)])
                    · exact absurd (by decide) c_14
              · refine g_iconst (pc := 48) hX d_NM_canBeGiven_48 ?_
                refine g_goto (pc := 49) (tgt := 53) hX d_NM_canBeGiven_49 (by decide) ?_
                refine g_istore (pc := 53) hX d_NM_canBeGiven_53 (by decide) ?_
                refine g_lload (pc := 55) hX d_NM_canBeGiven_55 rfl ?_
                refine g_ldc2 (pc := 57) hX 97 w_134 (by decide) d_NM_canBeGiven_57 ?_
                refine g_lcmp_lt (pc := 60) (tgt := 77) hX d_NM_canBeGiven_60 d_NM_canBeGiven_61 (by decide) (by omega) (by omega) (fun c_15 => ?_) (fun c_15 => ?_)
                · refine g_iconst (pc := 77) hX d_NM_canBeGiven_77 ?_
                  refine g_istore (pc := 78) hX d_NM_canBeGiven_78 (by decide) ?_
                  refine g_iload (pc := 80) hX d_NM_canBeGiven_80 rfl ?_
                  refine g_if_ne (pc := 82) (tgt := 100) hX d_NM_canBeGiven_82 (by decide) (by decide) (fun c_16 => ?_) (fun c_16 => ?_)
                  · exact absurd c_16 (by decide)
                  · refine g_iload (pc := 85) hX d_NM_canBeGiven_85 rfl ?_
                    refine g_if_ne (pc := 87) (tgt := 98) hX d_NM_canBeGiven_87 (by decide) (by decide) (fun c_17 => ?_) (fun c_17 => ?_)
                    · refine g_iconst (pc := 98) hX d_NM_canBeGiven_98 ?_
                      exact g_zret (pc := 99) hX hE (by first | exact Or.inl rfl | exact Or.inr rfl | exact bZ_01 _) d_NM_canBeGiven_99 (by decide) (by decide) ⟨by rw [bZ_f (fun q => (show r = 0 ∨ (bOK r ∧ cbg k (r / 256)) from hc.mpr q).elim (fun e => absurd e (by omega)) (fun e => absurd e.1 (by omega)))], rfl, rfl, rfl⟩
                    · exact absurd (by decide) c_17
                · refine g_lload (pc := 64) hX d_NM_canBeGiven_64 rfl ?_
                  refine g_ldc2 (pc := 66) hX 122 w_135 (by decide) d_NM_canBeGiven_66 ?_
                  refine g_lcmp_gt (pc := 69) (tgt := 77) hX d_NM_canBeGiven_69 d_NM_canBeGiven_70 (by decide) (by omega) (by omega) (fun c_18 => ?_) (fun c_18 => ?_)
                  · refine g_iconst (pc := 77) hX d_NM_canBeGiven_77 ?_
                    refine g_istore (pc := 78) hX d_NM_canBeGiven_78 (by decide) ?_
                    refine g_iload (pc := 80) hX d_NM_canBeGiven_80 rfl ?_
                    refine g_if_ne (pc := 82) (tgt := 100) hX d_NM_canBeGiven_82 (by decide) (by decide) (fun c_19 => ?_) (fun c_19 => ?_)
                    · exact absurd c_19 (by decide)
                    · refine g_iload (pc := 85) hX d_NM_canBeGiven_85 rfl ?_
                      refine g_if_ne (pc := 87) (tgt := 98) hX d_NM_canBeGiven_87 (by decide) (by decide) (fun c_20 => ?_) (fun c_20 => ?_)
                      · refine g_iconst (pc := 98) hX d_NM_canBeGiven_98 ?_
                        exact g_zret (pc := 99) hX hE (by first | exact Or.inl rfl | exact Or.inr rfl | exact bZ_01 _) d_NM_canBeGiven_99 (by decide) (by decide) ⟨by rw [bZ_f (fun q => (show r = 0 ∨ (bOK r ∧ cbg k (r / 256)) from hc.mpr q).elim (fun e => absurd e (by omega)) (fun e => absurd e.1 (by omega)))], rfl, rfl, rfl⟩
                      · exact absurd (by decide) c_20
                  · refine g_iconst (pc := 73) hX d_NM_canBeGiven_73 ?_
                    refine g_goto (pc := 74) (tgt := 78) hX d_NM_canBeGiven_74 (by decide) ?_
                    refine g_istore (pc := 78) hX d_NM_canBeGiven_78 (by decide) ?_
                    refine g_iload (pc := 80) hX d_NM_canBeGiven_80 rfl ?_
                    refine g_if_ne (pc := 82) (tgt := 100) hX d_NM_canBeGiven_82 (by decide) (by decide) (fun c_21 => ?_) (fun c_21 => ?_)
                    · refine g_lload_n (pc := 100) hX 2 d_NM_canBeGiven_100 rfl rfl ?_
                      refine g_bipush (pc := 101) hX 8 d_NM_canBeGiven_101 (by decide) ?_
                      refine g_lushr (pc := 103) hX (r / 256) d_NM_canBeGiven_103 (lI_ush8 (by omega) (by omega)) ?_
                      refine g_lstore_n (pc := 104) hX 2 d_NM_canBeGiven_104 rfl (by decide) ?_
                      refine g_iinc (pc := 105) hX d_NM_canBeGiven_105 (by decide) rfl ?_
                      refine g_goto (pc := 108) (tgt := 22) hX d_NM_canBeGiven_108 (by decide) ?_
                      refine g_lv [(0, .long (lI z)), (2, .long (lI (r / 256))), (4, .int (iI (i + 1)))] ⟨rfl, rfl, rfl, trivial⟩ ?_
                      exact ih k (r / 256) (i + 1) (by omega) (by omega) (by omega) (by omega) (by omega) (by rw [← hc, cbg_s (by omega) (by omega)])
                    · exact absurd (by decide) c_21
      refine g_lv [(0, .long (lI z)), (2, .long (lI (z))), (4, .int (iI (0)))] ⟨rfl, rfl, rfl, trivial⟩ ?_
      exact loop 5 4 z 0 (by omega) (by omega) (by omega) (by omega) (by omega) (by unfold okName; exact ⟨fun q => ⟨by omega, by omega, q⟩, fun q => q.2.2⟩)
      
    · refine g_iconst (pc := 15) hX d_NM_canBeGiven_15 ?_
      exact g_zret (pc := 16) hX hE (by first | exact Or.inl rfl | exact Or.inr rfl | exact bZ_01 _) d_NM_canBeGiven_16 (by decide) (by decide) ⟨by rw [bZ_f (fun q => by have := q.1; have := q.2.1; omega)], rfl, rfl, rfl⟩

abbrev rm_NM_firstFour : Room := { frames := 0, cells := 0, slots := 0, locals := 0 }
set_option maxHeartbeats 4000000 in
set_option maxRecDepth 100000 in
theorem c_NM_firstFour (l : Launch) (E : gE) (z : Int) (hz : gil z) (h0 : 0 ≤ z) : CtL l E y_NM_firstFour b_NM_firstFour 5 (some .long) rm_NM_firstFour [.long (lI z)] ([]) (f4 z) := by
  refine g_start (by decide) (Nat.le_of_ble_eq_true rfl) (fun X hX hE hin => ?_)
  refine g_lload_n (pc := 0) hX 0 d_NM_firstFour_0 rfl rfl ?_
  refine g_lstore_n (pc := 1) hX 2 d_NM_firstFour_1 rfl (by decide) ?_
  refine g_iconst (pc := 2) hX d_NM_firstFour_2 ?_
  refine g_istore (pc := 3) hX d_NM_firstFour_3 (by decide) ?_
  refine g_iload (pc := 5) hX d_NM_firstFour_5 rfl ?_
  refine g_bipush (pc := 7) hX 8 d_NM_firstFour_7 (by decide) ?_
  refine g_icmp_ge (pc := 9) (tgt := 32) hX d_NM_firstFour_9 (by decide) (by decide) (by decide) (fun c_1 => ?_) (fun c_1 => ?_)
  · exact absurd c_1 (by decide)
  · refine g_lload_n (pc := 12) hX 2 d_NM_firstFour_12 rfl rfl ?_
    refine g_bipush (pc := 13) hX 32 d_NM_firstFour_13 (by decide) ?_
    refine g_lushr (pc := 15) hX (z / 4294967296) d_NM_firstFour_15 (lI_ush32 (by omega) (by omega)) ?_
    refine g_lconst (pc := 16) hX 0 d_NM_firstFour_16 (by decide) ?_
    refine g_lcmp_eq (pc := 17) (tgt := 32) hX d_NM_firstFour_17 d_NM_firstFour_18 (by decide) (by omega) (by omega) (fun c_2 => ?_) (fun c_2 => ?_)
    · refine g_lload_n (pc := 32) hX 2 d_NM_firstFour_32 rfl rfl ?_
      exact g_lret (pc := 33) hX hE d_NM_firstFour_33 (by decide) (by decide) ⟨by unfold f4; rw [if_pos (by omega)], rfl, rfl, rfl⟩
    · refine g_lload_n (pc := 21) hX 2 d_NM_firstFour_21 rfl rfl ?_
      refine g_bipush (pc := 22) hX 8 d_NM_firstFour_22 (by decide) ?_
      refine g_lushr (pc := 24) hX (z / 256) d_NM_firstFour_24 (by rw [lI_ush8 (by omega) (by omega)] <;> (try congr 1) <;> (try omega)) ?_
      refine g_lstore_n (pc := 25) hX 2 d_NM_firstFour_25 rfl (by decide) ?_
      refine g_iinc (pc := 26) hX d_NM_firstFour_26 (by decide) rfl ?_
      refine g_goto (pc := 29) (tgt := 5) hX d_NM_firstFour_29 (by decide) ?_
      refine g_iload (pc := 5) hX d_NM_firstFour_5 rfl ?_
      refine g_bipush (pc := 7) hX 8 d_NM_firstFour_7 (by decide) ?_
      refine g_icmp_ge (pc := 9) (tgt := 32) hX d_NM_firstFour_9 (by decide) (by decide) (by decide) (fun c_3 => ?_) (fun c_3 => ?_)
      · exact absurd c_3 (by decide)
      · refine g_lload_n (pc := 12) hX 2 d_NM_firstFour_12 rfl rfl ?_
        refine g_bipush (pc := 13) hX 32 d_NM_firstFour_13 (by decide) ?_
        refine g_lushr (pc := 15) hX (z / 256 / 4294967296) d_NM_firstFour_15 (lI_ush32 (by omega) (by omega)) ?_
        refine g_lconst (pc := 16) hX 0 d_NM_firstFour_16 (by decide) ?_
        refine g_lcmp_eq (pc := 17) (tgt := 32) hX d_NM_firstFour_17 d_NM_firstFour_18 (by decide) (by omega) (by omega) (fun c_4 => ?_) (fun c_4 => ?_)
        · refine g_lload_n (pc := 32) hX 2 d_NM_firstFour_32 rfl rfl ?_
          exact g_lret (pc := 33) hX hE d_NM_firstFour_33 (by decide) (by decide) ⟨by unfold f4; rw [if_neg (by omega), if_pos (by omega)], rfl, rfl, rfl⟩
        · refine g_lload_n (pc := 21) hX 2 d_NM_firstFour_21 rfl rfl ?_
          refine g_bipush (pc := 22) hX 8 d_NM_firstFour_22 (by decide) ?_
          refine g_lushr (pc := 24) hX (z / 65536) d_NM_firstFour_24 (by rw [lI_ush8 (by omega) (by omega)] <;> (try congr 1) <;> (try omega)) ?_
          refine g_lstore_n (pc := 25) hX 2 d_NM_firstFour_25 rfl (by decide) ?_
          refine g_iinc (pc := 26) hX d_NM_firstFour_26 (by decide) rfl ?_
          refine g_goto (pc := 29) (tgt := 5) hX d_NM_firstFour_29 (by decide) ?_
          refine g_iload (pc := 5) hX d_NM_firstFour_5 rfl ?_
          refine g_bipush (pc := 7) hX 8 d_NM_firstFour_7 (by decide) ?_
          refine g_icmp_ge (pc := 9) (tgt := 32) hX d_NM_firstFour_9 (by decide) (by decide) (by decide) (fun c_5 => ?_) (fun c_5 => ?_)
          · exact absurd c_5 (by decide)
          · refine g_lload_n (pc := 12) hX 2 d_NM_firstFour_12 rfl rfl ?_
            refine g_bipush (pc := 13) hX 32 d_NM_firstFour_13 (by decide) ?_
            refine g_lushr (pc := 15) hX (z / 65536 / 4294967296) d_NM_firstFour_15 (lI_ush32 (by omega) (by omega)) ?_
            refine g_lconst (pc := 16) hX 0 d_NM_firstFour_16 (by decide) ?_
            refine g_lcmp_eq (pc := 17) (tgt := 32) hX d_NM_firstFour_17 d_NM_firstFour_18 (by decide) (by omega) (by omega) (fun c_6 => ?_) (fun c_6 => ?_)
            · refine g_lload_n (pc := 32) hX 2 d_NM_firstFour_32 rfl rfl ?_
              exact g_lret (pc := 33) hX hE d_NM_firstFour_33 (by decide) (by decide) ⟨by unfold f4; rw [if_neg (by omega), if_neg (by omega), if_pos (by omega)], rfl, rfl, rfl⟩
            · refine g_lload_n (pc := 21) hX 2 d_NM_firstFour_21 rfl rfl ?_
              refine g_bipush (pc := 22) hX 8 d_NM_firstFour_22 (by decide) ?_
              refine g_lushr (pc := 24) hX (z / 16777216) d_NM_firstFour_24 (by rw [lI_ush8 (by omega) (by omega)] <;> (try congr 1) <;> (try omega)) ?_
              refine g_lstore_n (pc := 25) hX 2 d_NM_firstFour_25 rfl (by decide) ?_
              refine g_iinc (pc := 26) hX d_NM_firstFour_26 (by decide) rfl ?_
              refine g_goto (pc := 29) (tgt := 5) hX d_NM_firstFour_29 (by decide) ?_
              refine g_iload (pc := 5) hX d_NM_firstFour_5 rfl ?_
              refine g_bipush (pc := 7) hX 8 d_NM_firstFour_7 (by decide) ?_
              refine g_icmp_ge (pc := 9) (tgt := 32) hX d_NM_firstFour_9 (by decide) (by decide) (by decide) (fun c_7 => ?_) (fun c_7 => ?_)
              · exact absurd c_7 (by decide)
              · refine g_lload_n (pc := 12) hX 2 d_NM_firstFour_12 rfl rfl ?_
                refine g_bipush (pc := 13) hX 32 d_NM_firstFour_13 (by decide) ?_
                refine g_lushr (pc := 15) hX (z / 16777216 / 4294967296) d_NM_firstFour_15 (lI_ush32 (by omega) (by omega)) ?_
                refine g_lconst (pc := 16) hX 0 d_NM_firstFour_16 (by decide) ?_
                refine g_lcmp_eq (pc := 17) (tgt := 32) hX d_NM_firstFour_17 d_NM_firstFour_18 (by decide) (by omega) (by omega) (fun c_8 => ?_) (fun c_8 => ?_)
                · refine g_lload_n (pc := 32) hX 2 d_NM_firstFour_32 rfl rfl ?_
                  exact g_lret (pc := 33) hX hE d_NM_firstFour_33 (by decide) (by decide) ⟨by unfold f4; rw [if_neg (by omega), if_neg (by omega), if_neg (by omega), if_pos (by omega)], rfl, rfl, rfl⟩
                · refine g_lload_n (pc := 21) hX 2 d_NM_firstFour_21 rfl rfl ?_
                  refine g_bipush (pc := 22) hX 8 d_NM_firstFour_22 (by decide) ?_
                  refine g_lushr (pc := 24) hX (z / 4294967296) d_NM_firstFour_24 (by rw [lI_ush8 (by omega) (by omega)] <;> (try congr 1) <;> (try omega)) ?_
                  refine g_lstore_n (pc := 25) hX 2 d_NM_firstFour_25 rfl (by decide) ?_
                  refine g_iinc (pc := 26) hX d_NM_firstFour_26 (by decide) rfl ?_
                  refine g_goto (pc := 29) (tgt := 5) hX d_NM_firstFour_29 (by decide) ?_
                  refine g_iload (pc := 5) hX d_NM_firstFour_5 rfl ?_
                  refine g_bipush (pc := 7) hX 8 d_NM_firstFour_7 (by decide) ?_
                  refine g_icmp_ge (pc := 9) (tgt := 32) hX d_NM_firstFour_9 (by decide) (by decide) (by decide) (fun c_9 => ?_) (fun c_9 => ?_)
                  · refine g_lload_n (pc := 32) hX 2 d_NM_firstFour_32 rfl rfl ?_
                    exact g_lret (pc := 33) hX hE d_NM_firstFour_33 (by decide) (by decide) ⟨by unfold f4; rw [if_neg (by omega), if_neg (by omega), if_neg (by omega), if_neg (by omega)], rfl, rfl, rfl⟩
                  · exact absurd (by decide) c_9

abbrev rm_NM_numbered : Room := { frames := 0, cells := 0, slots := 0, locals := 0 }
set_option maxHeartbeats 4000000 in
set_option maxRecDepth 100000 in
theorem c_NM_numbered (l : Launch) (E : gE) (z : Int) (hz : gil z) (m : Int) (hm : gin m) (h0 : 0 ≤ z ∧ z < 4294967296 ∧ 0 ≤ m ∧ m ≤ 9999) : CtL l E y_NM_numbered b_NM_numbered 6 (some .long) rm_NM_numbered [.long (lI z), .int (iI m)] ([]) (nmb z m) := by
  refine g_start (by decide) (Nat.le_of_ble_eq_true rfl) (fun X hX hE hin => ?_)
  refine g_lload_n (pc := 0) hX 0 d_NM_numbered_0 rfl rfl ?_
  refine g_lstore_n (pc := 1) hX 3 d_NM_numbered_1 rfl (by decide) ?_
  refine g_sipush (pc := 2) hX 1000 d_NM_numbered_2 (by decide) ?_
  refine g_istore (pc := 5) hX d_NM_numbered_5 (by decide) ?_
  refine g_iload (pc := 7) hX d_NM_numbered_7 rfl ?_
  refine g_if_le (pc := 9) (tgt := 45) hX d_NM_numbered_9 (by decide) (by decide) (fun c_1 => ?_) (fun c_1 => ?_)
  · exact absurd c_1 (by decide)
  · refine g_iload_n (pc := 12) hX 2 d_NM_numbered_12 rfl rfl ?_
    refine g_iload (pc := 13) hX d_NM_numbered_13 rfl ?_
    refine g_icmp_lt (pc := 15) (tgt := 35) hX d_NM_numbered_15 (by decide) (by omega) (by omega) (fun c_2 => ?_) (fun c_2 => ?_)
    · refine g_iload (pc := 35) hX d_NM_numbered_35 rfl ?_
      refine g_bipush (pc := 37) hX 10 d_NM_numbered_37 (by decide) ?_
      refine g_idiv (pc := 39) hX (100) d_NM_numbered_39 (by decide) (by decide) ?_
      refine g_istore (pc := 40) hX d_NM_numbered_40 (by decide) ?_
      refine g_goto (pc := 42) (tgt := 7) hX d_NM_numbered_42 (by decide) ?_
      refine g_iload (pc := 7) hX d_NM_numbered_7 rfl ?_
      refine g_if_le (pc := 9) (tgt := 45) hX d_NM_numbered_9 (by decide) (by decide) (fun c_3 => ?_) (fun c_3 => ?_)
      · exact absurd c_3 (by decide)
      · refine g_iload_n (pc := 12) hX 2 d_NM_numbered_12 rfl rfl ?_
        refine g_iload (pc := 13) hX d_NM_numbered_13 rfl ?_
        refine g_icmp_lt (pc := 15) (tgt := 35) hX d_NM_numbered_15 (by decide) (by omega) (by omega) (fun c_4 => ?_) (fun c_4 => ?_)
        · refine g_iload (pc := 35) hX d_NM_numbered_35 rfl ?_
          refine g_bipush (pc := 37) hX 10 d_NM_numbered_37 (by decide) ?_
          refine g_idiv (pc := 39) hX (10) d_NM_numbered_39 (by decide) (by decide) ?_
          refine g_istore (pc := 40) hX d_NM_numbered_40 (by decide) ?_
          refine g_goto (pc := 42) (tgt := 7) hX d_NM_numbered_42 (by decide) ?_
          refine g_iload (pc := 7) hX d_NM_numbered_7 rfl ?_
          refine g_if_le (pc := 9) (tgt := 45) hX d_NM_numbered_9 (by decide) (by decide) (fun c_5 => ?_) (fun c_5 => ?_)
          · exact absurd c_5 (by decide)
          · refine g_iload_n (pc := 12) hX 2 d_NM_numbered_12 rfl rfl ?_
            refine g_iload (pc := 13) hX d_NM_numbered_13 rfl ?_
            refine g_icmp_lt (pc := 15) (tgt := 35) hX d_NM_numbered_15 (by decide) (by omega) (by omega) (fun c_6 => ?_) (fun c_6 => ?_)
            · refine g_iload (pc := 35) hX d_NM_numbered_35 rfl ?_
              refine g_bipush (pc := 37) hX 10 d_NM_numbered_37 (by decide) ?_
              refine g_idiv (pc := 39) hX (1) d_NM_numbered_39 (by decide) (by decide) ?_
              refine g_istore (pc := 40) hX d_NM_numbered_40 (by decide) ?_
              refine g_goto (pc := 42) (tgt := 7) hX d_NM_numbered_42 (by decide) ?_
              refine g_iload (pc := 7) hX d_NM_numbered_7 rfl ?_
              refine g_if_le (pc := 9) (tgt := 45) hX d_NM_numbered_9 (by decide) (by decide) (fun c_7 => ?_) (fun c_7 => ?_)
              · exact absurd c_7 (by decide)
              · refine g_iload_n (pc := 12) hX 2 d_NM_numbered_12 rfl rfl ?_
                refine g_iload (pc := 13) hX d_NM_numbered_13 rfl ?_
                refine g_icmp_lt (pc := 15) (tgt := 35) hX d_NM_numbered_15 (by decide) (by omega) (by omega) (fun c_8 => ?_) (fun c_8 => ?_)
                · refine g_iload (pc := 35) hX d_NM_numbered_35 rfl ?_
                  refine g_bipush (pc := 37) hX 10 d_NM_numbered_37 (by decide) ?_
                  refine g_idiv (pc := 39) hX (0) d_NM_numbered_39 (by decide) (by decide) ?_
                  refine g_istore (pc := 40) hX d_NM_numbered_40 (by decide) ?_
                  refine g_goto (pc := 42) (tgt := 7) hX d_NM_numbered_42 (by decide) ?_
                  refine g_iload (pc := 7) hX d_NM_numbered_7 rfl ?_
                  refine g_if_le (pc := 9) (tgt := 45) hX d_NM_numbered_9 (by decide) (by decide) (fun c_9 => ?_) (fun c_9 => ?_)
                  · refine g_lload_n (pc := 45) hX 3 d_NM_numbered_45 rfl rfl ?_
                    exact g_lret (pc := 46) hX hE d_NM_numbered_46 (by decide) (by decide) ⟨by unfold nmb nst; rw [if_neg (show ¬ ((1000 : Int) ≤ m) by omega), if_neg (show ¬ ((100 : Int) ≤ m) by omega), if_neg (show ¬ ((10 : Int) ≤ m) by omega), if_neg (show ¬ ((1 : Int) ≤ m) by omega)], rfl, rfl, rfl⟩
                  · exact absurd (by decide) c_9
                · refine g_lload_n (pc := 18) hX 3 d_NM_numbered_18 rfl rfl ?_
                  refine g_bipush (pc := 19) hX 8 d_NM_numbered_19 (by decide) ?_
                  refine g_lshl (pc := 21) hX (z * 256) d_NM_numbered_21 (lI_shl8 _) ?_
                  refine g_bipush (pc := 22) hX 48 d_NM_numbered_22 (by decide) ?_
                  refine g_iload_n (pc := 24) hX 2 d_NM_numbered_24 rfl rfl ?_
                  refine g_iload (pc := 25) hX d_NM_numbered_25 rfl ?_
                  refine g_idiv (pc := 27) hX (m / 1) d_NM_numbered_27 (by decide) (iI_div (a := m) (b := 1) (by omega) (by omega) (by omega) (by omega)) ?_
                  refine g_bipush (pc := 28) hX 10 d_NM_numbered_28 (by decide) ?_
                  refine g_irem (pc := 30) hX (m / 1 % 10) d_NM_numbered_30 (by decide) (iI_rem (a := m / 1) (b := 10) (by omega) (by omega) (by omega) (by omega)) ?_
                  refine g_iadd (pc := 31) hX d_NM_numbered_31 ?_
                  refine g_i2l (pc := 32) hX d_NM_numbered_32 (by omega) ?_
                  refine g_lor (pc := 33) hX ((z * 256 + (48 + m / 1 % 10))) d_NM_numbered_33 (lI_or8 (by omega) (by omega)) ?_
                  refine g_lstore_n (pc := 34) hX 3 d_NM_numbered_34 rfl (by decide) ?_
                  refine g_iload (pc := 35) hX d_NM_numbered_35 rfl ?_
                  refine g_bipush (pc := 37) hX 10 d_NM_numbered_37 (by decide) ?_
                  refine g_idiv (pc := 39) hX (0) d_NM_numbered_39 (by decide) (by decide) ?_
                  refine g_istore (pc := 40) hX d_NM_numbered_40 (by decide) ?_
                  refine g_goto (pc := 42) (tgt := 7) hX d_NM_numbered_42 (by decide) ?_
                  refine g_iload (pc := 7) hX d_NM_numbered_7 rfl ?_
                  refine g_if_le (pc := 9) (tgt := 45) hX d_NM_numbered_9 (by decide) (by decide) (fun c_10 => ?_) (fun c_10 => ?_)
                  · refine g_lload_n (pc := 45) hX 3 d_NM_numbered_45 rfl rfl ?_
                    exact g_lret (pc := 46) hX hE d_NM_numbered_46 (by decide) (by decide) ⟨by unfold nmb nst; rw [if_neg (show ¬ ((1000 : Int) ≤ m) by omega), if_neg (show ¬ ((100 : Int) ≤ m) by omega), if_neg (show ¬ ((10 : Int) ≤ m) by omega), if_pos (show ((1 : Int) ≤ m) by omega)], rfl, rfl, rfl⟩
                  · exact absurd (by decide) c_10
            · refine g_lload_n (pc := 18) hX 3 d_NM_numbered_18 rfl rfl ?_
              refine g_bipush (pc := 19) hX 8 d_NM_numbered_19 (by decide) ?_
              refine g_lshl (pc := 21) hX (z * 256) d_NM_numbered_21 (lI_shl8 _) ?_
              refine g_bipush (pc := 22) hX 48 d_NM_numbered_22 (by decide) ?_
              refine g_iload_n (pc := 24) hX 2 d_NM_numbered_24 rfl rfl ?_
              refine g_iload (pc := 25) hX d_NM_numbered_25 rfl ?_
              refine g_idiv (pc := 27) hX (m / 10) d_NM_numbered_27 (by decide) (iI_div (a := m) (b := 10) (by omega) (by omega) (by omega) (by omega)) ?_
              refine g_bipush (pc := 28) hX 10 d_NM_numbered_28 (by decide) ?_
              refine g_irem (pc := 30) hX (m / 10 % 10) d_NM_numbered_30 (by decide) (iI_rem (a := m / 10) (b := 10) (by omega) (by omega) (by omega) (by omega)) ?_
              refine g_iadd (pc := 31) hX d_NM_numbered_31 ?_
              refine g_i2l (pc := 32) hX d_NM_numbered_32 (by omega) ?_
              refine g_lor (pc := 33) hX ((z * 256 + (48 + m / 10 % 10))) d_NM_numbered_33 (lI_or8 (by omega) (by omega)) ?_
              refine g_lstore_n (pc := 34) hX 3 d_NM_numbered_34 rfl (by decide) ?_
              refine g_iload (pc := 35) hX d_NM_numbered_35 rfl ?_
              refine g_bipush (pc := 37) hX 10 d_NM_numbered_37 (by decide) ?_
              refine g_idiv (pc := 39) hX (1) d_NM_numbered_39 (by decide) (by decide) ?_
              refine g_istore (pc := 40) hX d_NM_numbered_40 (by decide) ?_
              refine g_goto (pc := 42) (tgt := 7) hX d_NM_numbered_42 (by decide) ?_
              refine g_iload (pc := 7) hX d_NM_numbered_7 rfl ?_
              refine g_if_le (pc := 9) (tgt := 45) hX d_NM_numbered_9 (by decide) (by decide) (fun c_11 => ?_) (fun c_11 => ?_)
              · exact absurd c_11 (by decide)
              · refine g_iload_n (pc := 12) hX 2 d_NM_numbered_12 rfl rfl ?_
                refine g_iload (pc := 13) hX d_NM_numbered_13 rfl ?_
                refine g_icmp_lt (pc := 15) (tgt := 35) hX d_NM_numbered_15 (by decide) (by omega) (by omega) (fun c_12 => ?_) (fun c_12 => ?_)
                · exact absurd c_12 (by omega)
                · refine g_lload_n (pc := 18) hX 3 d_NM_numbered_18 rfl rfl ?_
                  refine g_bipush (pc := 19) hX 8 d_NM_numbered_19 (by decide) ?_
                  refine g_lshl (pc := 21) hX ((z * 256 + (48 + m / 10 % 10)) * 256) d_NM_numbered_21 (lI_shl8 _) ?_
                  refine g_bipush (pc := 22) hX 48 d_NM_numbered_22 (by decide) ?_
                  refine g_iload_n (pc := 24) hX 2 d_NM_numbered_24 rfl rfl ?_
                  refine g_iload (pc := 25) hX d_NM_numbered_25 rfl ?_
                  refine g_idiv (pc := 27) hX (m / 1) d_NM_numbered_27 (by decide) (iI_div (a := m) (b := 1) (by omega) (by omega) (by omega) (by omega)) ?_
                  refine g_bipush (pc := 28) hX 10 d_NM_numbered_28 (by decide) ?_
                  refine g_irem (pc := 30) hX (m / 1 % 10) d_NM_numbered_30 (by decide) (iI_rem (a := m / 1) (b := 10) (by omega) (by omega) (by omega) (by omega)) ?_
                  refine g_iadd (pc := 31) hX d_NM_numbered_31 ?_
                  refine g_i2l (pc := 32) hX d_NM_numbered_32 (by omega) ?_
                  refine g_lor (pc := 33) hX (((z * 256 + (48 + m / 10 % 10)) * 256 + (48 + m / 1 % 10))) d_NM_numbered_33 (lI_or8 (by omega) (by omega)) ?_
                  refine g_lstore_n (pc := 34) hX 3 d_NM_numbered_34 rfl (by decide) ?_
                  refine g_iload (pc := 35) hX d_NM_numbered_35 rfl ?_
                  refine g_bipush (pc := 37) hX 10 d_NM_numbered_37 (by decide) ?_
                  refine g_idiv (pc := 39) hX (0) d_NM_numbered_39 (by decide) (by decide) ?_
                  refine g_istore (pc := 40) hX d_NM_numbered_40 (by decide) ?_
                  refine g_goto (pc := 42) (tgt := 7) hX d_NM_numbered_42 (by decide) ?_
                  refine g_iload (pc := 7) hX d_NM_numbered_7 rfl ?_
                  refine g_if_le (pc := 9) (tgt := 45) hX d_NM_numbered_9 (by decide) (by decide) (fun c_13 => ?_) (fun c_13 => ?_)
                  · refine g_lload_n (pc := 45) hX 3 d_NM_numbered_45 rfl rfl ?_
                    exact g_lret (pc := 46) hX hE d_NM_numbered_46 (by decide) (by decide) ⟨by unfold nmb nst; rw [if_neg (show ¬ ((1000 : Int) ≤ m) by omega), if_neg (show ¬ ((100 : Int) ≤ m) by omega), if_pos (show ((10 : Int) ≤ m) by omega), if_pos (show ((1 : Int) ≤ m) by omega)], rfl, rfl, rfl⟩
                  · exact absurd (by decide) c_13
        · refine g_lload_n (pc := 18) hX 3 d_NM_numbered_18 rfl rfl ?_
          refine g_bipush (pc := 19) hX 8 d_NM_numbered_19 (by decide) ?_
          refine g_lshl (pc := 21) hX (z * 256) d_NM_numbered_21 (lI_shl8 _) ?_
          refine g_bipush (pc := 22) hX 48 d_NM_numbered_22 (by decide) ?_
          refine g_iload_n (pc := 24) hX 2 d_NM_numbered_24 rfl rfl ?_
          refine g_iload (pc := 25) hX d_NM_numbered_25 rfl ?_
          refine g_idiv (pc := 27) hX (m / 100) d_NM_numbered_27 (by decide) (iI_div (a := m) (b := 100) (by omega) (by omega) (by omega) (by omega)) ?_
          refine g_bipush (pc := 28) hX 10 d_NM_numbered_28 (by decide) ?_
          refine g_irem (pc := 30) hX (m / 100 % 10) d_NM_numbered_30 (by decide) (iI_rem (a := m / 100) (b := 10) (by omega) (by omega) (by omega) (by omega)) ?_
          refine g_iadd (pc := 31) hX d_NM_numbered_31 ?_
          refine g_i2l (pc := 32) hX d_NM_numbered_32 (by omega) ?_
          refine g_lor (pc := 33) hX ((z * 256 + (48 + m / 100 % 10))) d_NM_numbered_33 (lI_or8 (by omega) (by omega)) ?_
          refine g_lstore_n (pc := 34) hX 3 d_NM_numbered_34 rfl (by decide) ?_
          refine g_iload (pc := 35) hX d_NM_numbered_35 rfl ?_
          refine g_bipush (pc := 37) hX 10 d_NM_numbered_37 (by decide) ?_
          refine g_idiv (pc := 39) hX (10) d_NM_numbered_39 (by decide) (by decide) ?_
          refine g_istore (pc := 40) hX d_NM_numbered_40 (by decide) ?_
          refine g_goto (pc := 42) (tgt := 7) hX d_NM_numbered_42 (by decide) ?_
          refine g_iload (pc := 7) hX d_NM_numbered_7 rfl ?_
          refine g_if_le (pc := 9) (tgt := 45) hX d_NM_numbered_9 (by decide) (by decide) (fun c_14 => ?_) (fun c_14 => ?_)
          · exact absurd c_14 (by decide)
          · refine g_iload_n (pc := 12) hX 2 d_NM_numbered_12 rfl rfl ?_
            refine g_iload (pc := 13) hX d_NM_numbered_13 rfl ?_
            refine g_icmp_lt (pc := 15) (tgt := 35) hX d_NM_numbered_15 (by decide) (by omega) (by omega) (fun c_15 => ?_) (fun c_15 => ?_)
            · exact absurd c_15 (by omega)
            · refine g_lload_n (pc := 18) hX 3 d_NM_numbered_18 rfl rfl ?_
              refine g_bipush (pc := 19) hX 8 d_NM_numbered_19 (by decide) ?_
              refine g_lshl (pc := 21) hX ((z * 256 + (48 + m / 100 % 10)) * 256) d_NM_numbered_21 (lI_shl8 _) ?_
              refine g_bipush (pc := 22) hX 48 d_NM_numbered_22 (by decide) ?_
              refine g_iload_n (pc := 24) hX 2 d_NM_numbered_24 rfl rfl ?_
              refine g_iload (pc := 25) hX d_NM_numbered_25 rfl ?_
              refine g_idiv (pc := 27) hX (m / 10) d_NM_numbered_27 (by decide) (iI_div (a := m) (b := 10) (by omega) (by omega) (by omega) (by omega)) ?_
              refine g_bipush (pc := 28) hX 10 d_NM_numbered_28 (by decide) ?_
              refine g_irem (pc := 30) hX (m / 10 % 10) d_NM_numbered_30 (by decide) (iI_rem (a := m / 10) (b := 10) (by omega) (by omega) (by omega) (by omega)) ?_
              refine g_iadd (pc := 31) hX d_NM_numbered_31 ?_
              refine g_i2l (pc := 32) hX d_NM_numbered_32 (by omega) ?_
              refine g_lor (pc := 33) hX (((z * 256 + (48 + m / 100 % 10)) * 256 + (48 + m / 10 % 10))) d_NM_numbered_33 (lI_or8 (by omega) (by omega)) ?_
              refine g_lstore_n (pc := 34) hX 3 d_NM_numbered_34 rfl (by decide) ?_
              refine g_iload (pc := 35) hX d_NM_numbered_35 rfl ?_
              refine g_bipush (pc := 37) hX 10 d_NM_numbered_37 (by decide) ?_
              refine g_idiv (pc := 39) hX (1) d_NM_numbered_39 (by decide) (by decide) ?_
              refine g_istore (pc := 40) hX d_NM_numbered_40 (by decide) ?_
              refine g_goto (pc := 42) (tgt := 7) hX d_NM_numbered_42 (by decide) ?_
              refine g_iload (pc := 7) hX d_NM_numbered_7 rfl ?_
              refine g_if_le (pc := 9) (tgt := 45) hX d_NM_numbered_9 (by decide) (by decide) (fun c_16 => ?_) (fun c_16 => ?_)
              · exact absurd c_16 (by decide)
              · refine g_iload_n (pc := 12) hX 2 d_NM_numbered_12 rfl rfl ?_
                refine g_iload (pc := 13) hX d_NM_numbered_13 rfl ?_
                refine g_icmp_lt (pc := 15) (tgt := 35) hX d_NM_numbered_15 (by decide) (by omega) (by omega) (fun c_17 => ?_) (fun c_17 => ?_)
                · exact absurd c_17 (by omega)
                · refine g_lload_n (pc := 18) hX 3 d_NM_numbered_18 rfl rfl ?_
                  refine g_bipush (pc := 19) hX 8 d_NM_numbered_19 (by decide) ?_
                  refine g_lshl (pc := 21) hX (((z * 256 + (48 + m / 100 % 10)) * 256 + (48 + m / 10 % 10)) * 256) d_NM_numbered_21 (lI_shl8 _) ?_
                  refine g_bipush (pc := 22) hX 48 d_NM_numbered_22 (by decide) ?_
                  refine g_iload_n (pc := 24) hX 2 d_NM_numbered_24 rfl rfl ?_
                  refine g_iload (pc := 25) hX d_NM_numbered_25 rfl ?_
                  refine g_idiv (pc := 27) hX (m / 1) d_NM_numbered_27 (by decide) (iI_div (a := m) (b := 1) (by omega) (by omega) (by omega) (by omega)) ?_
                  refine g_bipush (pc := 28) hX 10 d_NM_numbered_28 (by decide) ?_
                  refine g_irem (pc := 30) hX (m / 1 % 10) d_NM_numbered_30 (by decide) (iI_rem (a := m / 1) (b := 10) (by omega) (by omega) (by omega) (by omega)) ?_
                  refine g_iadd (pc := 31) hX d_NM_numbered_31 ?_
                  refine g_i2l (pc := 32) hX d_NM_numbered_32 (by omega) ?_
                  refine g_lor (pc := 33) hX ((((z * 256 + (48 + m / 100 % 10)) * 256 + (48 + m / 10 % 10)) * 256 + (48 + m / 1 % 10))) d_NM_numbered_33 (lI_or8 (by omega) (by omega)) ?_
                  refine g_lstore_n (pc := 34) hX 3 d_NM_numbered_34 rfl (by decide) ?_
                  refine g_iload (pc := 35) hX d_NM_numbered_35 rfl ?_
                  refine g_bipush (pc := 37) hX 10 d_NM_numbered_37 (by decide) ?_
                  refine g_idiv (pc := 39) hX (0) d_NM_numbered_39 (by decide) (by decide) ?_
                  refine g_istore (pc := 40) hX d_NM_numbered_40 (by decide) ?_
                  refine g_goto (pc := 42) (tgt := 7) hX d_NM_numbered_42 (by decide) ?_
                  refine g_iload (pc := 7) hX d_NM_numbered_7 rfl ?_
                  refine g_if_le (pc := 9) (tgt := 45) hX d_NM_numbered_9 (by decide) (by decide) (fun c_18 => ?_) (fun c_18 => ?_)
                  · refine g_lload_n (pc := 45) hX 3 d_NM_numbered_45 rfl rfl ?_
                    exact g_lret (pc := 46) hX hE d_NM_numbered_46 (by decide) (by decide) ⟨by unfold nmb nst; rw [if_neg (show ¬ ((1000 : Int) ≤ m) by omega), if_pos (show ((100 : Int) ≤ m) by omega), if_pos (show ((10 : Int) ≤ m) by omega), if_pos (show ((1 : Int) ≤ m) by omega)], rfl, rfl, rfl⟩
                  · exact absurd (by decide) c_18
    · refine g_lload_n (pc := 18) hX 3 d_NM_numbered_18 rfl rfl ?_
      refine g_bipush (pc := 19) hX 8 d_NM_numbered_19 (by decide) ?_
      refine g_lshl (pc := 21) hX (z * 256) d_NM_numbered_21 (lI_shl8 _) ?_
      refine g_bipush (pc := 22) hX 48 d_NM_numbered_22 (by decide) ?_
      refine g_iload_n (pc := 24) hX 2 d_NM_numbered_24 rfl rfl ?_
      refine g_iload (pc := 25) hX d_NM_numbered_25 rfl ?_
      refine g_idiv (pc := 27) hX (m / 1000) d_NM_numbered_27 (by decide) (iI_div (a := m) (b := 1000) (by omega) (by omega) (by omega) (by omega)) ?_
      refine g_bipush (pc := 28) hX 10 d_NM_numbered_28 (by decide) ?_
      refine g_irem (pc := 30) hX (m / 1000 % 10) d_NM_numbered_30 (by decide) (iI_rem (a := m / 1000) (b := 10) (by omega) (by omega) (by omega) (by omega)) ?_
      refine g_iadd (pc := 31) hX d_NM_numbered_31 ?_
      refine g_i2l (pc := 32) hX d_NM_numbered_32 (by omega) ?_
      refine g_lor (pc := 33) hX ((z * 256 + (48 + m / 1000 % 10))) d_NM_numbered_33 (lI_or8 (by omega) (by omega)) ?_
      refine g_lstore_n (pc := 34) hX 3 d_NM_numbered_34 rfl (by decide) ?_
      refine g_iload (pc := 35) hX d_NM_numbered_35 rfl ?_
      refine g_bipush (pc := 37) hX 10 d_NM_numbered_37 (by decide) ?_
      refine g_idiv (pc := 39) hX (100) d_NM_numbered_39 (by decide) (by decide) ?_
      refine g_istore (pc := 40) hX d_NM_numbered_40 (by decide) ?_
      refine g_goto (pc := 42) (tgt := 7) hX d_NM_numbered_42 (by decide) ?_
      refine g_iload (pc := 7) hX d_NM_numbered_7 rfl ?_
      refine g_if_le (pc := 9) (tgt := 45) hX d_NM_numbered_9 (by decide) (by decide) (fun c_19 => ?_) (fun c_19 => ?_)
      · exact absurd c_19 (by decide)
      · refine g_iload_n (pc := 12) hX 2 d_NM_numbered_12 rfl rfl ?_
        refine g_iload (pc := 13) hX d_NM_numbered_13 rfl ?_
        refine g_icmp_lt (pc := 15) (tgt := 35) hX d_NM_numbered_15 (by decide) (by omega) (by omega) (fun c_20 => ?_) (fun c_20 => ?_)
        · exact absurd c_20 (by omega)
        · refine g_lload_n (pc := 18) hX 3 d_NM_numbered_18 rfl rfl ?_
          refine g_bipush (pc := 19) hX 8 d_NM_numbered_19 (by decide) ?_
          refine g_lshl (pc := 21) hX ((z * 256 + (48 + m / 1000 % 10)) * 256) d_NM_numbered_21 (lI_shl8 _) ?_
          refine g_bipush (pc := 22) hX 48 d_NM_numbered_22 (by decide) ?_
          refine g_iload_n (pc := 24) hX 2 d_NM_numbered_24 rfl rfl ?_
          refine g_iload (pc := 25) hX d_NM_numbered_25 rfl ?_
          refine g_idiv (pc := 27) hX (m / 100) d_NM_numbered_27 (by decide) (iI_div (a := m) (b := 100) (by omega) (by omega) (by omega) (by omega)) ?_
          refine g_bipush (pc := 28) hX 10 d_NM_numbered_28 (by decide) ?_
          refine g_irem (pc := 30) hX (m / 100 % 10) d_NM_numbered_30 (by decide) (iI_rem (a := m / 100) (b := 10) (by omega) (by omega) (by omega) (by omega)) ?_
          refine g_iadd (pc := 31) hX d_NM_numbered_31 ?_
          refine g_i2l (pc := 32) hX d_NM_numbered_32 (by omega) ?_
          refine g_lor (pc := 33) hX (((z * 256 + (48 + m / 1000 % 10)) * 256 + (48 + m / 100 % 10))) d_NM_numbered_33 (lI_or8 (by omega) (by omega)) ?_
          refine g_lstore_n (pc := 34) hX 3 d_NM_numbered_34 rfl (by decide) ?_
          refine g_iload (pc := 35) hX d_NM_numbered_35 rfl ?_
          refine g_bipush (pc := 37) hX 10 d_NM_numbered_37 (by decide) ?_
          refine g_idiv (pc := 39) hX (10) d_NM_numbered_39 (by decide) (by decide) ?_
          refine g_istore (pc := 40) hX d_NM_numbered_40 (by decide) ?_
          refine g_goto (pc := 42) (tgt := 7) hX d_NM_numbered_42 (by decide) ?_
          refine g_iload (pc := 7) hX d_NM_numbered_7 rfl ?_
          refine g_if_le (pc := 9) (tgt := 45) hX d_NM_numbered_9 (by decide) (by decide) (fun c_21 => ?_) (fun c_21 => ?_)
          · exact absurd c_21 (by decide)
          · refine g_iload_n (pc := 12) hX 2 d_NM_numbered_12 rfl rfl ?_
            refine g_iload (pc := 13) hX d_NM_numbered_13 rfl ?_
            refine g_icmp_lt (pc := 15) (tgt := 35) hX d_NM_numbered_15 (by decide) (by omega) (by omega) (fun c_22 => ?_) (fun c_22 => ?_)
            · exact absurd c_22 (by omega)
            · refine g_lload_n (pc := 18) hX 3 d_NM_numbered_18 rfl rfl ?_
              refine g_bipush (pc := 19) hX 8 d_NM_numbered_19 (by decide) ?_
              refine g_lshl (pc := 21) hX (((z * 256 + (48 + m / 1000 % 10)) * 256 + (48 + m / 100 % 10)) * 256) d_NM_numbered_21 (lI_shl8 _) ?_
              refine g_bipush (pc := 22) hX 48 d_NM_numbered_22 (by decide) ?_
              refine g_iload_n (pc := 24) hX 2 d_NM_numbered_24 rfl rfl ?_
              refine g_iload (pc := 25) hX d_NM_numbered_25 rfl ?_
              refine g_idiv (pc := 27) hX (m / 10) d_NM_numbered_27 (by decide) (iI_div (a := m) (b := 10) (by omega) (by omega) (by omega) (by omega)) ?_
              refine g_bipush (pc := 28) hX 10 d_NM_numbered_28 (by decide) ?_
              refine g_irem (pc := 30) hX (m / 10 % 10) d_NM_numbered_30 (by decide) (iI_rem (a := m / 10) (b := 10) (by omega) (by omega) (by omega) (by omega)) ?_
              refine g_iadd (pc := 31) hX d_NM_numbered_31 ?_
              refine g_i2l (pc := 32) hX d_NM_numbered_32 (by omega) ?_
              refine g_lor (pc := 33) hX ((((z * 256 + (48 + m / 1000 % 10)) * 256 + (48 + m / 100 % 10)) * 256 + (48 + m / 10 % 10))) d_NM_numbered_33 (lI_or8 (by omega) (by omega)) ?_
              refine g_lstore_n (pc := 34) hX 3 d_NM_numbered_34 rfl (by decide) ?_
              refine g_iload (pc := 35) hX d_NM_numbered_35 rfl ?_
              refine g_bipush (pc := 37) hX 10 d_NM_numbered_37 (by decide) ?_
              refine g_idiv (pc := 39) hX (1) d_NM_numbered_39 (by decide) (by decide) ?_
              refine g_istore (pc := 40) hX d_NM_numbered_40 (by decide) ?_
              refine g_goto (pc := 42) (tgt := 7) hX d_NM_numbered_42 (by decide) ?_
              refine g_iload (pc := 7) hX d_NM_numbered_7 rfl ?_
              refine g_if_le (pc := 9) (tgt := 45) hX d_NM_numbered_9 (by decide) (by decide) (fun c_23 => ?_) (fun c_23 => ?_)
              · exact absurd c_23 (by decide)
              · refine g_iload_n (pc := 12) hX 2 d_NM_numbered_12 rfl rfl ?_
                refine g_iload (pc := 13) hX d_NM_numbered_13 rfl ?_
                refine g_icmp_lt (pc := 15) (tgt := 35) hX d_NM_numbered_15 (by decide) (by omega) (by omega) (fun c_24 => ?_) (fun c_24 => ?_)
                · exact absurd c_24 (by omega)
                · refine g_lload_n (pc := 18) hX 3 d_NM_numbered_18 rfl rfl ?_
                  refine g_bipush (pc := 19) hX 8 d_NM_numbered_19 (by decide) ?_
                  refine g_lshl (pc := 21) hX ((((z * 256 + (48 + m / 1000 % 10)) * 256 + (48 + m / 100 % 10)) * 256 + (48 + m / 10 % 10)) * 256) d_NM_numbered_21 (lI_shl8 _) ?_
                  refine g_bipush (pc := 22) hX 48 d_NM_numbered_22 (by decide) ?_
                  refine g_iload_n (pc := 24) hX 2 d_NM_numbered_24 rfl rfl ?_
                  refine g_iload (pc := 25) hX d_NM_numbered_25 rfl ?_
                  refine g_idiv (pc := 27) hX (m / 1) d_NM_numbered_27 (by decide) (iI_div (a := m) (b := 1) (by omega) (by omega) (by omega) (by omega)) ?_
                  refine g_bipush (pc := 28) hX 10 d_NM_numbered_28 (by decide) ?_
                  refine g_irem (pc := 30) hX (m / 1 % 10) d_NM_numbered_30 (by decide) (iI_rem (a := m / 1) (b := 10) (by omega) (by omega) (by omega) (by omega)) ?_
                  refine g_iadd (pc := 31) hX d_NM_numbered_31 ?_
                  refine g_i2l (pc := 32) hX d_NM_numbered_32 (by omega) ?_
                  refine g_lor (pc := 33) hX (((((z * 256 + (48 + m / 1000 % 10)) * 256 + (48 + m / 100 % 10)) * 256 + (48 + m / 10 % 10)) * 256 + (48 + m / 1 % 10))) d_NM_numbered_33 (lI_or8 (by omega) (by omega)) ?_
                  refine g_lstore_n (pc := 34) hX 3 d_NM_numbered_34 rfl (by decide) ?_
                  refine g_iload (pc := 35) hX d_NM_numbered_35 rfl ?_
                  refine g_bipush (pc := 37) hX 10 d_NM_numbered_37 (by decide) ?_
                  refine g_idiv (pc := 39) hX (0) d_NM_numbered_39 (by decide) (by decide) ?_
                  refine g_istore (pc := 40) hX d_NM_numbered_40 (by decide) ?_
                  refine g_goto (pc := 42) (tgt := 7) hX d_NM_numbered_42 (by decide) ?_
                  refine g_iload (pc := 7) hX d_NM_numbered_7 rfl ?_
                  refine g_if_le (pc := 9) (tgt := 45) hX d_NM_numbered_9 (by decide) (by decide) (fun c_25 => ?_) (fun c_25 => ?_)
                  · refine g_lload_n (pc := 45) hX 3 d_NM_numbered_45 rfl rfl ?_
                    exact g_lret (pc := 46) hX hE d_NM_numbered_46 (by decide) (by decide) ⟨by unfold nmb nst; rw [if_pos (show ((1000 : Int) ≤ m) by omega), if_pos (show ((100 : Int) ≤ m) by omega), if_pos (show ((10 : Int) ≤ m) by omega), if_pos (show ((1 : Int) ≤ m) by omega)], rfl, rfl, rfl⟩
                  · exact absurd (by decide) c_25

abbrev rm_NM_numberBehind : Room := { frames := 1, cells := 0, slots := 0, locals := 21 }
set_option maxHeartbeats 4000000 in
set_option maxRecDepth 100000 in
theorem c_NM_numberBehind (l : Launch) (E : gE) (b : Int) (hb : gil b) (z : Int) (hz : gil z) (h0 : 0 ≤ z) : CtI l E y_NM_numberBehind b_NM_numberBehind 11 (some .int) rm_NM_numberBehind [.long (lI b), .long (lI z)] ([]) (nbh b 7 z 0 1) := by
  refine g_start (by decide) (Nat.le_of_ble_eq_true rfl) (fun X hX hE hin => ?_)
  refine g_lload_n (pc := 0) hX 2 d_NM_numberBehind_0 rfl rfl ?_
  refine g_lstore (pc := 1) hX d_NM_numberBehind_1 (by decide) ?_
  refine g_iconst (pc := 3) hX d_NM_numberBehind_3 ?_
  refine g_istore (pc := 4) hX d_NM_numberBehind_4 (by decide) ?_
  refine g_iconst (pc := 6) hX d_NM_numberBehind_6 ?_
  refine g_istore (pc := 7) hX d_NM_numberBehind_7 (by decide) ?_
  refine g_iconst (pc := 9) hX d_NM_numberBehind_9 ?_
  refine g_istore (pc := 10) hX d_NM_numberBehind_10 (by decide) ?_
  have loop : ∀ (d : Nat) (k : Nat) (h m t i : Int), k < d → i = 8 - (k : Int) → k ≤ 7 → 0 ≤ h → h < 9223372036854775808 → nbh b k h m t = nbh b 7 z 0 1 → gW X ([]) 0 0 12 [(0, .long (lI b)), (4, .long (lI (h))), (6, .int (iI (m))), (7, .int (iI (t))), (8, .int (iI (i)))] [] := by
    intro d
    induction d with
    | zero => intro k h m t i hfu hi hk h1 h2 hc; omega
    | succ d ih =>
      intro k h m t i hfu hi hk h1 h2 hc
      refine g_iload (pc := 12) hX d_NM_numberBehind_12 rfl ?_
      refine g_bipush (pc := 14) hX 8 d_NM_numberBehind_14 (by decide) ?_
      refine g_icmp_ge (pc := 16) (tgt := 95) hX d_NM_numberBehind_16 (by decide) (by omega) (by omega) (fun c_1 => ?_) (fun c_1 => ?_)
      · refine g_iconst (pc := 95) hX d_NM_numberBehind_95 ?_
        exact g_iret (pc := 96) hX hE d_NM_numberBehind_96 (by decide) (by decide) ⟨by rw [← hc, show k = 0 by omega]; rfl, rfl, rfl, rfl⟩
      · obtain ⟨k, rfl⟩ : ∃ k2, k = k2 + 1 := ⟨k - 1, by omega⟩
        refine g_lload (pc := 19) hX d_NM_numberBehind_19 rfl ?_
        refine g_ldc2 (pc := 21) hX 255 w_133 (by decide) d_NM_numberBehind_21 ?_
        refine g_land (pc := 24) hX (h % 256) d_NM_numberBehind_24 (lI_255 h) ?_
        refine g_lstore (pc := 25) hX d_NM_numberBehind_25 (by decide) ?_
        refine g_lload (pc := 27) hX d_NM_numberBehind_27 rfl ?_
        refine g_iS (pc := 29) hX (c_NM_isDigit l E _ (by omega)) gy_NM_isDigit w_137 w_136 rfl (by decide) (by decide) [] rfl rfl _ rfl (Nat.le_of_ble_eq_true rfl) d_NM_numberBehind_29 (by decide) (by decide) ?_
        refine g_bne (pc := 32) (tgt := 37) hX d_NM_numberBehind_32 (by decide) (fun c_2 => ?_) (fun c_2 => ?_)
        · refine g_iload (pc := 37) hX d_NM_numberBehind_37 rfl ?_
          refine g_iload (pc := 39) hX d_NM_numberBehind_39 rfl ?_
          refine g_lload (pc := 41) hX d_NM_numberBehind_41 rfl ?_
          refine g_ldc2 (pc := 43) hX 48 w_139 (by decide) d_NM_numberBehind_43 ?_
          refine g_lsub (pc := 46) hX d_NM_numberBehind_46 ?_
          refine g_l2i (pc := 47) hX d_NM_numberBehind_47 ?_
          refine g_imul (pc := 48) hX d_NM_numberBehind_48 ?_
          refine g_iadd (pc := 49) hX d_NM_numberBehind_49 ?_
          refine g_istore (pc := 50) hX d_NM_numberBehind_50 (by decide) ?_
          refine g_iload (pc := 52) hX d_NM_numberBehind_52 rfl ?_
          refine g_bipush (pc := 54) hX 10 d_NM_numberBehind_54 (by decide) ?_
          refine g_imul (pc := 56) hX d_NM_numberBehind_56 ?_
          refine g_istore (pc := 57) hX d_NM_numberBehind_57 (by decide) ?_
          refine g_lload (pc := 59) hX d_NM_numberBehind_59 rfl ?_
          refine g_bipush (pc := 61) hX 8 d_NM_numberBehind_61 (by decide) ?_
          refine g_lushr (pc := 63) hX (h / 256) d_NM_numberBehind_63 (lI_ush8 (by omega) (by omega)) ?_
          refine g_lstore (pc := 64) hX d_NM_numberBehind_64 (by decide) ?_
          refine g_lload (pc := 66) hX d_NM_numberBehind_66 rfl ?_
          refine g_lload_n (pc := 68) hX 0 d_NM_numberBehind_68 rfl rfl ?_
          refine g_lcmp_ne (pc := 69) (tgt := 89) hX d_NM_numberBehind_69 d_NM_numberBehind_70 (by decide) (by omega) (by omega) (fun c_3 => ?_) (fun c_3 => ?_)
          · refine g_iinc (pc := 89) hX d_NM_numberBehind_89 (by decide) rfl ?_
            refine g_goto (pc := 92) (tgt := 12) hX d_NM_numberBehind_92 (by decide) ?_
            refine g_lv [(0, .long (lI b)), (4, .long (lI (h / 256))), (6, .int (iI (m + t * (h % 256 - 48)))), (7, .int (iI (t * 10))), (8, .int (iI (i + 1)))] ⟨rfl, rfl, rfl, rfl, rfl, trivial⟩ ?_
            exact ih k (h / 256) _ _ (i + 1) (by omega) (by omega) (by omega) (by omega) (by omega) (by rw [← hc, nbh_s (by omega) (by omega)])
          · refine g_lload (pc := 73) hX d_NM_numberBehind_73 rfl ?_
            refine g_ldc2 (pc := 75) hX 48 w_139 (by decide) d_NM_numberBehind_75 ?_
            refine g_lcmp_ne (pc := 78) (tgt := 86) hX d_NM_numberBehind_78 d_NM_numberBehind_79 (by decide) (by omega) (by omega) (fun c_4 => ?_) (fun c_4 => ?_)
            · refine g_iload (pc := 86) hX d_NM_numberBehind_86 rfl ?_
              exact g_iret (pc := 88) hX hE d_NM_numberBehind_88 (by decide) (by decide) ⟨by rw [← hc, nbh_e (by omega) (by omega), if_neg (by omega)], rfl, rfl, rfl⟩
            · refine g_iconst (pc := 82) hX d_NM_numberBehind_82 ?_
              refine g_goto (pc := 83) (tgt := 88) hX d_NM_numberBehind_83 (by decide) ?_
              exact g_iret (pc := 88) hX hE d_NM_numberBehind_88 (by decide) (by decide) ⟨by rw [← hc, nbh_e (by omega) (by omega), if_pos (by omega)], rfl, rfl, rfl⟩
        · refine g_iconst (pc := 35) hX d_NM_numberBehind_35 ?_
          exact g_iret (pc := 36) hX hE d_NM_numberBehind_36 (by decide) (by decide) ⟨by rw [← hc, nbh_n (by omega)], rfl, rfl, rfl⟩
  refine g_lv [(0, .long (lI b)), (4, .long (lI (z))), (6, .int (iI (0))), (7, .int (iI (1))), (8, .int (iI (1)))] ⟨rfl, rfl, rfl, rfl, rfl, trivial⟩ ?_
  exact loop 8 7 z 0 1 1 (by omega) (by omega) (by omega) (by omega) (by omega) rfl
  
end
section
-- laying and binding
def okBes (k z : Int) : Prop := (0 ≤ k ∧ k ≤ 3 ∧ okName z) ∨ (k = 5 ∧ 0 ≤ z ∧ z ≤ 100) ∨ ((k = 4 ∨ k = 6) ∧ z = 0)
theorem okBes_n {k z : Int} (h : 0 ≤ k ∧ k ≤ 3) : okName z ↔ okBes k z := ⟨fun q => Or.inl ⟨h.1, h.2, q⟩, fun q => by
  rcases q with q | q | q
  · exact q.2.2
  · omega
  · omega⟩
theorem okBes_5 {z : Int} : (0 ≤ z ∧ z ≤ 100) ↔ okBes 5 z := ⟨fun q => Or.inr (Or.inl ⟨rfl, q⟩), fun q => by
  rcases q with q | q | q
  · omega
  · exact q.2
  · omega⟩
theorem okBes_46 {k z : Int} (h : k = 4 ∨ k = 6) : z = 0 ↔ okBes k z := ⟨fun q => Or.inr (Or.inr ⟨h, q⟩), fun q => by
  rcases q with q | q | q
  · omega
  · omega
  · exact q.2⟩
theorem okBes_o {k z : Int} (h : k < 0 ∨ 6 < k) : ¬ okBes k z := fun q => by
  rcases q with q | q | q <;> omega
/-- the binder's index that a name means at node k, or -1 -/
def bIdx (f g : Nat → Int) (k : Nat) (x : Int) : Int := fnd (dep f k) (fun i => g ((env f k).getD i 0)) x
def bN (f g : Nat → Int) (un : Nat) (uf : Nat → Int) (k : Nat) : Option (Int × Int) :=
  if f k = 0 then (if bIdx f g k (g k) ≠ -1 then some (0, bIdx f g k (g k)) else if fnd un uf (g k) ≠ -1 then some (7, fnd un uf (g k)) else none)
  else if f k = 1 ∨ f k = 2 ∨ f k = 3 then some (f k, f4 (g k)) else if f k = 6 then some (2, 0) else some (f k, g k)
def nB (ρ : RowT) : Prop := ∀ j, j < rN ρ → 0 ≤ rG ρ j
def kB (ρ : RowT) : Prop := ∀ j, j < rN ρ → 0 ≤ rF ρ j ∧ rF ρ j ≤ 6
theorem f4_in {z : Int} (h : 0 ≤ z) (h2 : gil z) : 0 ≤ f4 z ∧ f4 z < 4294967296 := by
  unfold f4; repeat' split
  all_goals omega
/-- what stands open is the environment of node k -/
theorem scFor.op {ς : ScT} {ρ : RowT} (hok : scOK ς) (h : scFor ς ρ) {σ : Nat → Nat} (hm : mea ρ σ) {k : Nat} (hk : k < rN ρ) (hmt : mat (sO ς) (env (rF ρ) k)) {i : Nat} (hi : i < dep (rF ρ) k) : zO ς ((dep (rF ρ) k : Int) - 1 - i) = ((env (rF ρ) k).getD i 0 : Nat) ∧ (env (rF ρ) k).getD i 0 < k := by
  have hle : dep (rF ρ) k ≤ k := env_le hm.1 hm.2.1 hk
  have hc := hok.1.2.1
  have hn := h.1
  have hg : (env (rF ρ) k)[i]? = some ((env (rF ρ) k).getD i 0) := by
    rw [List.getD_eq_getElem?_getD, List.getElem?_eq_getElem hi]; rfl
  have := hmt i _ hg
  constructor
  · rw [zO_t (by omega)]
    have e : ((dep (rF ρ) k : Int) - 1 - i).toNat = (env (rF ρ) k).length - 1 - i := by show (((env (rF ρ) k).length : Int) - 1 - i).toNat = _; omega
    rw [e]; exact this
  · have key : ∀ m k, k ≤ m → k < rN ρ → ∀ b ∈ env (rF ρ) k, b < k := by
      intro m
      induction m with
      | zero =>
        intro k h1 h2 b hb
        have e : k = 0 := by omega
        subst e
        have := env_le hm.1 hm.2.1 h2
        have e2 : env (rF ρ) 0 = [] := List.length_eq_zero_iff.mp (by omega)
        rw [e2] at hb; cases hb
      | succ m ih =>
        intro k h1 h2 b hb
        rcases env_hd hm.1 hm.2.1 h2 with ⟨e1, -⟩ | ⟨c, e1, -, e3, -⟩
        · rw [e1] at hb; cases hb
        · rw [e1] at hb
          rcases List.mem_cons.mp hb with hb | hb
          · omega
          · have := ih c (by omega) (by omega) b hb
            omega
    exact key k k (Nat.le_refl _) hk _ (List.mem_of_getElem? hg)
end
section
abbrev rm_NS_canBeBeside : Room := { frames := 2, cells := 0, slots := 0, locals := 49 }
set_option maxHeartbeats 4000000 in
set_option maxRecDepth 100000 in
theorem c_NS_canBeBeside (l : Launch) (E : gE) (k : Int) (hk : gin k) (b : Int) (hb : gil b) : CtI l E y_NS_canBeBeside b_NS_canBeBeside 3 (some .boolean) rm_NS_canBeBeside [.int (iI k), .long (lI b)] ([]) (bZ (okBes k b)) := by
  refine g_start (by decide) (Nat.le_of_ble_eq_true rfl) (fun X hX hE hin => ?_)
  refine g_iload_n (pc := 0) hX 0 d_NS_canBeBeside_0 rfl rfl ?_
  by_cases e_0 : k = 0
  · subst e_0
    refine g_tsw (pc := 1) (tgt := 44) hX d_NS_canBeBeside_1 (by decide) (by decide) (by decide) rfl (by decide) ?_
    refine g_lload_n (pc := 44) hX 1 d_NS_canBeBeside_44 rfl rfl ?_
    refine g_iS (pc := 45) hX (c_NM_canBeGiven l E _ (by omega)) gy_NM_canBeGiven w_131 w_130 rfl (by decide) (by decide) [] rfl rfl _ rfl (Nat.le_of_ble_eq_true rfl) d_NS_canBeBeside_45 (by decide) (by decide) ?_
    exact g_zret (pc := 48) hX hE (by first | exact Or.inl rfl | exact Or.inr rfl | exact bZ_01 _) d_NS_canBeBeside_48 (by decide) (by decide) ⟨by rw [bZ_c (okBes_n (k := 0) (by decide))], rfl, rfl, rfl⟩
  by_cases e_1 : k = 1
  · subst e_1
    refine g_tsw (pc := 1) (tgt := 44) hX d_NS_canBeBeside_1 (by decide) (by decide) (by decide) rfl (by decide) ?_
    refine g_lload_n (pc := 44) hX 1 d_NS_canBeBeside_44 rfl rfl ?_
    refine g_iS (pc := 45) hX (c_NM_canBeGiven l E _ (by omega)) gy_NM_canBeGiven w_131 w_130 rfl (by decide) (by decide) [] rfl rfl _ rfl (Nat.le_of_ble_eq_true rfl) d_NS_canBeBeside_45 (by decide) (by decide) ?_
    exact g_zret (pc := 48) hX hE (by first | exact Or.inl rfl | exact Or.inr rfl | exact bZ_01 _) d_NS_canBeBeside_48 (by decide) (by decide) ⟨by rw [bZ_c (okBes_n (k := 1) (by decide))], rfl, rfl, rfl⟩
  by_cases e_2 : k = 2
  · subst e_2
    refine g_tsw (pc := 1) (tgt := 44) hX d_NS_canBeBeside_1 (by decide) (by decide) (by decide) rfl (by decide) ?_
    refine g_lload_n (pc := 44) hX 1 d_NS_canBeBeside_44 rfl rfl ?_
    refine g_iS (pc := 45) hX (c_NM_canBeGiven l E _ (by omega)) gy_NM_canBeGiven w_131 w_130 rfl (by decide) (by decide) [] rfl rfl _ rfl (Nat.le_of_ble_eq_true rfl) d_NS_canBeBeside_45 (by decide) (by decide) ?_
    exact g_zret (pc := 48) hX hE (by first | exact Or.inl rfl | exact Or.inr rfl | exact bZ_01 _) d_NS_canBeBeside_48 (by decide) (by decide) ⟨by rw [bZ_c (okBes_n (k := 2) (by decide))], rfl, rfl, rfl⟩
  by_cases e_3 : k = 3
  · subst e_3
    refine g_tsw (pc := 1) (tgt := 44) hX d_NS_canBeBeside_1 (by decide) (by decide) (by decide) rfl (by decide) ?_
    refine g_lload_n (pc := 44) hX 1 d_NS_canBeBeside_44 rfl rfl ?_
    refine g_iS (pc := 45) hX (c_NM_canBeGiven l E _ (by omega)) gy_NM_canBeGiven w_131 w_130 rfl (by decide) (by decide) [] rfl rfl _ rfl (Nat.le_of_ble_eq_true rfl) d_NS_canBeBeside_45 (by decide) (by decide) ?_
    exact g_zret (pc := 48) hX hE (by first | exact Or.inl rfl | exact Or.inr rfl | exact bZ_01 _) d_NS_canBeBeside_48 (by decide) (by decide) ⟨by rw [bZ_c (okBes_n (k := 3) (by decide))], rfl, rfl, rfl⟩
  by_cases e_4 : k = 4
  · subst e_4
    refine g_tsw (pc := 1) (tgt := 69) hX d_NS_canBeBeside_1 (by decide) (by decide) (by decide) rfl (by decide) ?_
    refine g_lload_n (pc := 69) hX 1 d_NS_canBeBeside_69 rfl rfl ?_
    refine g_lconst (pc := 70) hX 0 d_NS_canBeBeside_70 (by decide) ?_
    refine g_lcmp_ne (pc := 71) (tgt := 79) hX d_NS_canBeBeside_71 d_NS_canBeBeside_72 (by decide) (by omega) (by omega) (fun c_1 => ?_) (fun c_1 => ?_)
    · refine g_iconst (pc := 79) hX d_NS_canBeBeside_79 ?_
      exact g_zret (pc := 80) hX hE (by first | exact Or.inl rfl | exact Or.inr rfl | exact bZ_01 _) d_NS_canBeBeside_80 (by decide) (by decide) ⟨by rw [bZ_f (fun q => absurd ((okBes_46 (by omega)).mpr q) (by omega))], rfl, rfl, rfl⟩
    · refine g_iconst (pc := 75) hX d_NS_canBeBeside_75 ?_
      refine g_goto (pc := 76) (tgt := 80) hX d_NS_canBeBeside_76 (by decide) ?_
      exact g_zret (pc := 80) hX hE (by first | exact Or.inl rfl | exact Or.inr rfl | exact bZ_01 _) d_NS_canBeBeside_80 (by decide) (by decide) ⟨by rw [bZ_t ((okBes_46 (by omega)).mp (by omega))], rfl, rfl, rfl⟩
  by_cases e_5 : k = 5
  · subst e_5
    refine g_tsw (pc := 1) (tgt := 49) hX d_NS_canBeBeside_1 (by decide) (by decide) (by decide) rfl (by decide) ?_
    refine g_lload_n (pc := 49) hX 1 d_NS_canBeBeside_49 rfl rfl ?_
    refine g_lconst (pc := 50) hX 0 d_NS_canBeBeside_50 (by decide) ?_
    refine g_lcmp_lt (pc := 51) (tgt := 67) hX d_NS_canBeBeside_51 d_NS_canBeBeside_52 (by decide) (by omega) (by omega) (fun c_2 => ?_) (fun c_2 => ?_)
    · refine g_iconst (pc := 67) hX d_NS_canBeBeside_67 ?_
      exact g_zret (pc := 68) hX hE (by first | exact Or.inl rfl | exact Or.inr rfl | exact bZ_01 _) d_NS_canBeBeside_68 (by decide) (by decide) ⟨by rw [bZ_f (show ¬ okBes 5 b from fun q => absurd (okBes_5.mpr q) (by omega))], rfl, rfl, rfl⟩
    · refine g_lload_n (pc := 55) hX 1 d_NS_canBeBeside_55 rfl rfl ?_
      refine g_ldc2 (pc := 56) hX 100 w_156 (by decide) d_NS_canBeBeside_56 ?_
      refine g_lcmp_gt (pc := 59) (tgt := 67) hX d_NS_canBeBeside_59 d_NS_canBeBeside_60 (by decide) (by omega) (by omega) (fun c_3 => ?_) (fun c_3 => ?_)
      · refine g_iconst (pc := 67) hX d_NS_canBeBeside_67 ?_
        exact g_zret (pc := 68) hX hE (by first | exact Or.inl rfl | exact Or.inr rfl | exact bZ_01 _) d_NS_canBeBeside_68 (by decide) (by decide) ⟨by rw [bZ_f (show ¬ okBes 5 b from fun q => absurd (okBes_5.mpr q) (by omega))], rfl, rfl, rfl⟩
      · refine g_iconst (pc := 63) hX d_NS_canBeBeside_63 ?_
        refine g_goto (pc := 64) (tgt := 68) hX d_NS_canBeBeside_64 (by decide) ?_
        exact g_zret (pc := 68) hX hE (by first | exact Or.inl rfl | exact Or.inr rfl | exact bZ_01 _) d_NS_canBeBeside_68 (by decide) (by decide) ⟨by rw [bZ_t (show okBes 5 b from okBes_5.mp (by omega))], rfl, rfl, rfl⟩
  by_cases e_6 : k = 6
  · subst e_6
    refine g_tsw (pc := 1) (tgt := 69) hX d_NS_canBeBeside_1 (by decide) (by decide) (by decide) rfl (by decide) ?_
    refine g_lload_n (pc := 69) hX 1 d_NS_canBeBeside_69 rfl rfl ?_
    refine g_lconst (pc := 70) hX 0 d_NS_canBeBeside_70 (by decide) ?_
    refine g_lcmp_ne (pc := 71) (tgt := 79) hX d_NS_canBeBeside_71 d_NS_canBeBeside_72 (by decide) (by omega) (by omega) (fun c_4 => ?_) (fun c_4 => ?_)
    · refine g_iconst (pc := 79) hX d_NS_canBeBeside_79 ?_
      exact g_zret (pc := 80) hX hE (by first | exact Or.inl rfl | exact Or.inr rfl | exact bZ_01 _) d_NS_canBeBeside_80 (by decide) (by decide) ⟨by rw [bZ_f (fun q => absurd ((okBes_46 (by omega)).mpr q) (by omega))], rfl, rfl, rfl⟩
    · refine g_iconst (pc := 75) hX d_NS_canBeBeside_75 ?_
      refine g_goto (pc := 76) (tgt := 80) hX d_NS_canBeBeside_76 (by decide) ?_
      exact g_zret (pc := 80) hX hE (by first | exact Or.inl rfl | exact Or.inr rfl | exact bZ_01 _) d_NS_canBeBeside_80 (by decide) (by decide) ⟨by rw [bZ_t ((okBes_46 (by omega)).mp (by omega))], rfl, rfl, rfl⟩
  refine g_tswO (pc := 1) (tgt := 81) hX d_NS_canBeBeside_1 (by omega) (by omega) (by decide) ?_
  refine g_iconst (pc := 81) hX d_NS_canBeBeside_81 ?_
  exact g_zret (pc := 82) hX hE (by first | exact Or.inl rfl | exact Or.inr rfl | exact bZ_01 _) d_NS_canBeBeside_82 (by decide) (by decide) ⟨by rw [bZ_f (okBes_o (by omega))], rfl, rfl, rfl⟩

abbrev rm_NS_global : Room := { frames := 2, cells := 0, slots := 0, locals := 49 }
set_option maxHeartbeats 4000000 in
set_option maxRecDepth 100000 in
theorem c_NS_global (l : Launch) (E : gE) (x g kp pa la s n te sp : Nat) (gc : GlT) (gk : glOK gc) (z : Int) (hz : gil z) : Ct l E y_NS_global b_NS_global 3 (some .int) rm_NS_global [.ref x, .long (lI z)] (nsO x g kp pa la s n te sp ++ glW E g gc) (fun v w dc ds => ∃ γ, ∃ r : Int, v = some (.int (iI r)) ∧ w = nsO x g kp pa la s n te sp ++ glW E g γ ∧ glOK γ ∧ ((okName z ∧ uN gc < 200 ∧ fnd (uN gc) (uF gc) z = -1 ∧ r = uN gc ∧ γ = (gc.1, uN gc + 1, uZ (uF gc) (uN gc) z)) ∨ (¬ (okName z ∧ uN gc < 200 ∧ fnd (uN gc) (uF gc) z = -1) ∧ r = -1 ∧ γ = gc)) ∧ dc = 0 ∧ ds = 0) := by
  obtain ⟨g1, g2⟩ := id gk
  refine g_start (by decide) (Nat.le_of_ble_eq_true rfl) (fun X hX hE hin => ?_)
  refine g_lload_n (pc := 0) hX 1 d_NS_global_0 rfl rfl ?_
  refine g_iS (pc := 1) hX (c_NM_canBeGiven l E _ (by omega)) gy_NM_canBeGiven w_131 w_130 rfl (by decide) (by decide) [] rfl rfl _ rfl (Nat.le_of_ble_eq_true rfl) d_NS_global_1 (by decide) (by decide) ?_
  refine g_beq (pc := 4) (tgt := 18) hX d_NS_global_4 (by decide) (fun c_1 => ?_) (fun c_1 => ?_)
  · refine g_iconst (pc := 18) hX d_NS_global_18 ?_
    exact g_iret (pc := 19) hX hE d_NS_global_19 (by decide) (by decide) ⟨gc, -1, rfl, rfl, gk, Or.inr ⟨fun q => c_1 q.1, rfl, rfl⟩, rfl, rfl⟩
  · refine g_aload_n (pc := 7) hX 0 d_NS_global_7 rfl rfl ?_
    refine g_get (pc := 8) hX f_NS_10 0 rfl rfl d_NS_global_8 ?_
    refine g_lload_n (pc := 11) hX 1 d_NS_global_11 rfl rfl ?_
    refine g_callV (pc := 12) hX (c_GL_add l E g gc gk _ (by omega)) gy_GL_add gv_GL_add w_141 rfl (by decide) (by decide) [1, 2] rfl rfl rfl rfl rfl _ rfl (Nat.le_of_ble_eq_true rfl) d_NS_global_12 (by decide) (by decide) (fun _ _ _ _ h => by obtain ⟨_, _, h2, _⟩ := h; rw [h2]; exact Nat.le_of_ble_eq_true rfl) (fun v w dc_2 ds_2 hp => ?_)
    obtain ⟨g_2, rfl, rfl, gk_2, f_2_1, rfl, rfl⟩ := hp
    refine g_ws (nsO x g kp pa la s n te sp ++ glW E g g_2) rfl ?_
    have hgl : (okName z ∧ uN gc < 200 ∧ fnd (uN gc) (uF gc) z = -1 ∧ (if uN gc < 200 ∧ fnd (uN gc) (uF gc) z = -1 then (uN gc : Int) else -1) = uN gc ∧ g_2 = (gc.1, uN gc + 1, uZ (uF gc) (uN gc) z)) ∨ (¬ (okName z ∧ uN gc < 200 ∧ fnd (uN gc) (uF gc) z = -1) ∧ (if uN gc < 200 ∧ fnd (uN gc) (uF gc) z = -1 then (uN gc : Int) else -1) = -1 ∧ g_2 = gc) := by
      by_cases hq : uN gc < 200 ∧ fnd (uN gc) (uF gc) z = -1
      · exact Or.inl ⟨c_1, hq.1, hq.2, by rw [if_pos hq], by rw [f_2_1, if_pos hq]⟩
      · exact Or.inr ⟨fun q => hq q.2, by rw [if_neg hq], by rw [f_2_1, if_neg hq]⟩
    refine g_goto (pc := 15) (tgt := 19) hX d_NS_global_15 (by decide) ?_
    exact g_iret (pc := 19) hX hE d_NS_global_19 (by decide) (by decide) ⟨g_2, _, rfl, rfl, gk_2, hgl, rfl, rfl⟩

abbrev rm_NS_lay : Room := { frames := 4, cells := 6000, slots := 36000, locals := 93 }
set_option maxHeartbeats 4000000 in
set_option maxRecDepth 100000 in
theorem c_NS_lay (l : Launch) (E : gE) (x g kp pa la s n te sp : Nat) (lac : RowT) (lak : rowOK lac) (k : Int) (hk : gin k) (b : Int) (hb : gil b) : Ct l E y_NS_lay b_NS_lay 4 (some .int) rm_NS_lay [.ref x, .int (iI k), .long (lI b)] (nsO x g kp pa la s n te sp ++ rowW E la lac) (fun v w dc ds => ∃ ρ, ∃ r : Int, v = some (.int (iI r)) ∧ w = nsO x g kp pa la s n te sp ++ rowW E la ρ ∧ rowOK ρ ∧ ((okBes k b ∧ rN lac < 3000 ∧ rL ρ = rL lac ++ [(k, b)] ∧ r = rN lac + 1 ∧ rGrow lac ρ dc ds) ∨ (¬ (okBes k b ∧ rN lac < 3000) ∧ r = -1 ∧ ρ = lac ∧ dc = 0 ∧ ds = 0))) := by
  obtain ⟨⟨la1, la2, la3, la4⟩, laf, lag, lah⟩ := id lak
  refine g_start (by decide) (Nat.le_of_ble_eq_true rfl) (fun X hX hE hin => ?_)
  refine g_iload_n (pc := 0) hX 1 d_NS_lay_0 rfl rfl ?_
  refine g_lload_n (pc := 1) hX 2 d_NS_lay_1 rfl rfl ?_
  refine g_iS (pc := 2) hX (c_NS_canBeBeside l E _ (by omega) _ (by omega)) gy_NS_canBeBeside w_154 w_153 rfl (by decide) (by decide) [] rfl rfl _ rfl (Nat.le_of_ble_eq_true rfl) d_NS_lay_2 (show _ + 0 ≤ 6000 by omega) (show _ + 0 ≤ 36000 by omega) ?_
  refine g_beq (pc := 5) (tgt := 21) hX d_NS_lay_5 (by decide) (fun c_1 => ?_) (fun c_1 => ?_)
  · refine g_iconst (pc := 21) hX d_NS_lay_21 ?_
    exact g_iret (pc := 22) hX hE d_NS_lay_22 (show _ ≤ 6000 by omega) (show _ ≤ 36000 by omega) ⟨lac, -1, rfl, rfl, lak, Or.inr ⟨fun q => by first | exact c_1 q.1 | (have := q.2; omega), rfl, rfl, rfl, rfl⟩⟩
  · refine g_aload_n (pc := 8) hX 0 d_NS_lay_8 rfl rfl ?_
    refine g_get (pc := 9) hX f_NS_26 0 rfl rfl d_NS_lay_9 ?_
    refine g_iV (pc := 12) hX (c_RW_count l E la lac lak) gy_RW_count gv_RW_count w_157 rfl (by decide) (by decide) [1, 2, 3, 4] rfl rfl rfl rfl rfl _ rfl (Nat.le_of_ble_eq_true rfl) d_NS_lay_12 (show _ + 0 ≤ 6000 by omega) (show _ + 0 ≤ 36000 by omega) ?_
    refine g_sipush (pc := 15) hX 3000 d_NS_lay_15 (by decide) ?_
    refine g_icmp_lt (pc := 18) (tgt := 23) hX d_NS_lay_18 (by decide) (by omega) (by omega) (fun c_2 => ?_) (fun c_2 => ?_)
    · refine g_aload_n (pc := 23) hX 0 d_NS_lay_23 rfl rfl ?_
      refine g_get (pc := 24) hX f_NS_26 0 rfl rfl d_NS_lay_24 ?_
      refine g_iload_n (pc := 27) hX 1 d_NS_lay_27 rfl rfl ?_
      refine g_lload_n (pc := 28) hX 2 d_NS_lay_28 rfl rfl ?_
      refine g_callV (pc := 29) hX (c_RW_add l E la lac lak _ (by omega) _ (by omega) (by omega)) gy_RW_add gv_RW_add w_161 rfl (by decide) (by decide) [1, 2, 3, 4] rfl rfl rfl rfl rfl _ rfl (Nat.le_of_ble_eq_true rfl) d_NS_lay_29 (show _ + 6000 ≤ 6000 by omega) (show _ + 36000 ≤ 36000 by omega) (fun _ _ _ _ h => by obtain ⟨_, _, h2, _⟩ := h; rw [h2]; exact Nat.le_of_ble_eq_true rfl) (fun v w dc_3 ds_3 hp => ?_)
      obtain ⟨la_3, rfl, rfl, lak_3, f_3⟩ := hp
      refine g_ws (nsO x g kp pa la s n te sp ++ rowW E la la_3) rfl ?_
      obtain ⟨d1, d2, d3, d4, d5⟩ := f_3
      obtain ⟨⟨t1, t2, t3, t4⟩, -⟩ := id lak_3
      refine g_aload_n (pc := 32) hX 0 d_NS_lay_32 rfl rfl ?_
      refine g_get (pc := 33) hX f_NS_26 0 rfl rfl d_NS_lay_33 ?_
      refine g_iV (pc := 36) hX (c_RW_count l E la la_3 lak_3) gy_RW_count gv_RW_count w_157 rfl (by decide) (by decide) [1, 2, 3, 4] rfl rfl rfl rfl rfl _ rfl (Nat.le_of_ble_eq_true rfl) d_NS_lay_36 (show _ + 0 ≤ 6000 by omega) (show _ + 0 ≤ 36000 by omega) ?_
      exact g_iret (pc := 39) hX hE d_NS_lay_39 (show _ ≤ 6000 by omega) (show _ ≤ 36000 by omega) ⟨la_3, _, rfl, rfl, lak_3, Or.inl ⟨c_1, by omega, d1, by rw [d2]; rfl, by rw [Nat.zero_add, Nat.zero_add]; exact ⟨d3, d4, d5⟩⟩⟩
    · refine g_iconst (pc := 21) hX d_NS_lay_21 ?_
      exact g_iret (pc := 22) hX hE d_NS_lay_22 (show _ ≤ 6000 by omega) (show _ ≤ 36000 by omega) ⟨lac, -1, rfl, rfl, lak, Or.inr ⟨fun q => by first | exact c_1 q.1 | (have := q.2; omega), rfl, rfl, rfl, rfl⟩⟩
end
section
abbrev rm_NS_bindName : Room := { frames := 4, cells := 6000, slots := 36000, locals := 93 }
set_option maxHeartbeats 4000000 in
set_option maxRecDepth 100000 in
theorem c_NS_bindName (l : Launch) (E : gE) (x g kp pa la s n te sp : Nat) (gc : GlT) (gk : glOK gc) (lac : RowT) (lak : rowOK lac) (sc : ScT) (sk : scOK sc) (spc : RowT) (spk : rowOK spc) (σ : Nat → Nat) (hm : mea lac σ) (hs : scFor sc lac) (k : Nat) (y : Int) (hy : y = rG lac k) (hk : k < rN lac) (hmt : mat (sO sc) (env (rF lac) k)) (hn : rN spc < 3000) (hk0 : rF lac k = 0) : Ct l E y_NS_bindName b_NS_bindName 6 (some .boolean) rm_NS_bindName [.ref x, .int (iI (k : Int)), .long (lI y)] (nsO x g kp pa la s n te sp ++ glW E g gc ++ rowW E la lac ++ scW E s sc ++ rowW E sp spc) (fun v w dc ds => ∃ ρ, ∃ t : Int, v = some (.int (iI t)) ∧ w = nsO x g kp pa la s n te sp ++ glW E g gc ++ rowW E la lac ++ scW E s sc ++ rowW E sp ρ ∧ rowOK ρ ∧ ((∃ p, bN (rF lac) (rG lac) (uN gc) (uF gc) k = some p ∧ t = 1 ∧ rL ρ = rL spc ++ [p] ∧ rGrow spc ρ dc ds) ∨ (bN (rF lac) (rG lac) (uN gc) (uF gc) k = none ∧ t = 0 ∧ ρ = spc ∧ dc = 0 ∧ ds = 0))) := by
  subst hy
  obtain ⟨g1, g2⟩ := id gk
  obtain ⟨⟨la1, la2, la3, la4⟩, laf, lag, lah⟩ := id lak
  obtain ⟨⟨sp1, sp2, sp3, sp4⟩, spf, spg, sph⟩ := id spk
  have ed := hs.d hk
  have zs := hs.1
  have dk : dep (rF lac) k ≤ k := env_le hm.1 hm.2.1 hk
  have hgk := lag k
  refine g_start (by decide) (Nat.le_of_ble_eq_true rfl) (fun X hX hE hin => ?_)
  refine g_aload_n (pc := 0) hX 0 d_NS_bindName_0 rfl rfl ?_
  refine g_get (pc := 1) hX f_NS_32 0 rfl rfl d_NS_bindName_1 ?_
  refine g_lload_n (pc := 4) hX 2 d_NS_bindName_4 rfl rfl ?_
  refine g_aload_n (pc := 5) hX 0 d_NS_bindName_5 rfl rfl ?_
  refine g_get (pc := 6) hX f_NS_26 0 rfl rfl d_NS_bindName_6 ?_
  refine g_iload_n (pc := 9) hX 1 d_NS_bindName_9 rfl rfl ?_
  refine g_iV (pc := 10) hX (c_SC_indexOf l E s sc sk _ (by omega) la lac lak _ (by omega)) gy_SC_indexOf gv_SC_indexOf w_284 rfl (by decide) (by decide) [7, 8, 9, 10, 3, 4, 5, 6] rfl rfl rfl rfl rfl _ rfl (Nat.le_of_ble_eq_true rfl) d_NS_bindName_10 (show _ + 0 ≤ 6000 by omega) (show _ + 0 ≤ 36000 by omega) ?_
  have hix : fnd (zD sc (k : Int)).toNat (fun i => rB lac (zO sc (zD sc (k : Int) - 1 - i))) (rG lac k) = bIdx (rF lac) (rG lac) k (rG lac k) := by
    rw [ed]
    exact fnd_congr (fun i hi => by
      obtain ⟨u1, u2⟩ := hs.op sk hm hk hmt (i := i) (by omega)
      rw [u1, rB_t (by omega)]; rfl) _
  rw [hix]
  have hi1 := fnd_in (dep (rF lac) k) (fun i => rG lac ((env (rF lac) k).getD i 0)) (rG lac k)
  change -1 ≤ bIdx (rF lac) (rG lac) k (rG lac k) ∧ bIdx (rF lac) (rG lac) k (rG lac k) < _ at hi1
  have hi2 := fnd_in (uN gc) (uF gc) (rG lac k)
  refine g_istore (pc := 13) hX d_NS_bindName_13 (by decide) ?_
  refine g_iload (pc := 15) hX d_NS_bindName_15 rfl ?_
  refine g_iconst (pc := 17) hX d_NS_bindName_17 ?_
  refine g_icmp_eq (pc := 18) (tgt := 34) hX d_NS_bindName_18 (by decide) (by omega) (by omega) (fun c_1 => ?_) (fun c_1 => ?_)
  · refine g_aload_n (pc := 34) hX 0 d_NS_bindName_34 rfl rfl ?_
    refine g_get (pc := 35) hX f_NS_10 0 rfl rfl d_NS_bindName_35 ?_
    refine g_lload_n (pc := 38) hX 2 d_NS_bindName_38 rfl rfl ?_
    refine g_iV (pc := 39) hX (c_GL_find l E g gc gk _ (by omega)) gy_GL_find gv_GL_find w_293 rfl (by decide) (by decide) [1, 2] rfl rfl rfl rfl rfl _ rfl (Nat.le_of_ble_eq_true rfl) d_NS_bindName_39 (show _ + 0 ≤ 6000 by omega) (show _ + 0 ≤ 36000 by omega) ?_
    refine g_istore (pc := 42) hX d_NS_bindName_42 (by decide) ?_
    refine g_iload (pc := 44) hX d_NS_bindName_44 rfl ?_
    refine g_iconst (pc := 46) hX d_NS_bindName_46 ?_
    refine g_icmp_ne (pc := 47) (tgt := 52) hX d_NS_bindName_47 (by decide) (by omega) (by omega) (fun c_2 => ?_) (fun c_2 => ?_)
    · refine g_aload_n (pc := 52) hX 0 d_NS_bindName_52 rfl rfl ?_
      refine g_get (pc := 53) hX f_NS_48 0 rfl rfl d_NS_bindName_53 ?_
      refine g_bipush (pc := 56) hX 7 d_NS_bindName_56 (by decide) ?_
      refine g_iload (pc := 58) hX d_NS_bindName_58 rfl ?_
      refine g_i2l (pc := 60) hX d_NS_bindName_60 (by omega) ?_
      refine g_callV (pc := 61) hX (c_RW_add l E sp spc spk _ (by omega) _ (by omega) (by omega)) gy_RW_add gv_RW_add w_161 rfl (by decide) (by decide) [11, 12, 13, 14] rfl rfl rfl rfl rfl _ rfl (Nat.le_of_ble_eq_true rfl) d_NS_bindName_61 (show _ + 6000 ≤ 6000 by omega) (show _ + 36000 ≤ 36000 by omega) (fun _ _ _ _ h => by obtain ⟨_, _, h2, _⟩ := h; rw [h2]; exact Nat.le_of_ble_eq_true rfl) (fun v w dc_3 ds_3 hp => ?_)
      obtain ⟨sp_3, rfl, rfl, spk_3, f_3⟩ := hp
      refine g_ws (nsO x g kp pa la s n te sp ++ glW E g gc ++ rowW E la lac ++ scW E s sc ++ rowW E sp sp_3) rfl ?_
      obtain ⟨d1, d2, d3, d4, d5⟩ := f_3
      obtain ⟨⟨t1, t2, t3, t4⟩, -⟩ := id spk_3
      refine g_iconst (pc := 64) hX d_NS_bindName_64 ?_
      exact g_zret (pc := 65) hX hE (by first | exact Or.inl rfl | exact Or.inr rfl | exact bZ_01 _) d_NS_bindName_65 (show _ ≤ 6000 by omega) (show _ ≤ 36000 by omega) ⟨sp_3, 1, rfl, rfl, spk_3, Or.inl ⟨_, by unfold bN; rw [if_pos hk0, if_neg (by omega), if_pos (by omega)], rfl, d1, by rw [Nat.zero_add, Nat.zero_add]; exact ⟨d3, d4, d5⟩⟩⟩
    · refine g_iconst (pc := 50) hX d_NS_bindName_50 ?_
      exact g_zret (pc := 51) hX hE (by first | exact Or.inl rfl | exact Or.inr rfl | exact bZ_01 _) d_NS_bindName_51 (show _ ≤ 6000 by omega) (show _ ≤ 36000 by omega) ⟨spc, 0, rfl, rfl, spk, Or.inr ⟨by unfold bN; rw [if_pos hk0, if_neg (by omega), if_neg (by omega)], rfl, rfl, rfl, rfl⟩⟩
  · refine g_aload_n (pc := 21) hX 0 d_NS_bindName_21 rfl rfl ?_
    refine g_get (pc := 22) hX f_NS_48 0 rfl rfl d_NS_bindName_22 ?_
    refine g_iconst (pc := 25) hX d_NS_bindName_25 ?_
    refine g_iload (pc := 26) hX d_NS_bindName_26 rfl ?_
    refine g_i2l (pc := 28) hX d_NS_bindName_28 (by omega) ?_
    refine g_callV (pc := 29) hX (c_RW_add l E sp spc spk _ (by omega) _ (by omega) (by omega)) gy_RW_add gv_RW_add w_161 rfl (by decide) (by decide) [11, 12, 13, 14] rfl rfl rfl rfl rfl _ rfl (Nat.le_of_ble_eq_true rfl) d_NS_bindName_29 (show _ + 6000 ≤ 6000 by omega) (show _ + 36000 ≤ 36000 by omega) (fun _ _ _ _ h => by obtain ⟨_, _, h2, _⟩ := h; rw [h2]; exact Nat.le_of_ble_eq_true rfl) (fun v w dc_4 ds_4 hp => ?_)
    obtain ⟨sp_4, rfl, rfl, spk_4, f_4⟩ := hp
    refine g_ws (nsO x g kp pa la s n te sp ++ glW E g gc ++ rowW E la lac ++ scW E s sc ++ rowW E sp sp_4) rfl ?_
    obtain ⟨d1, d2, d3, d4, d5⟩ := f_4
    obtain ⟨⟨t1, t2, t3, t4⟩, -⟩ := id spk_4
    refine g_iconst (pc := 32) hX d_NS_bindName_32 ?_
    exact g_zret (pc := 33) hX hE (by first | exact Or.inl rfl | exact Or.inr rfl | exact bZ_01 _) d_NS_bindName_33 (show _ ≤ 6000 by omega) (show _ ≤ 36000 by omega) ⟨sp_4, 1, rfl, rfl, spk_4, Or.inl ⟨_, by unfold bN; rw [if_pos hk0, if_pos (by omega)], rfl, d1, by rw [Nat.zero_add, Nat.zero_add]; exact ⟨d3, d4, d5⟩⟩⟩

abbrev rm_NS_bindNode : Room := { frames := 5, cells := 6000, slots := 36000, locals := 118 }
set_option maxHeartbeats 4000000 in
set_option maxRecDepth 100000 in
theorem c_NS_bindNode (l : Launch) (E : gE) (x g kp pa la s n te sp : Nat) (gc : GlT) (gk : glOK gc) (lac : RowT) (lak : rowOK lac) (sc : ScT) (sk : scOK sc) (spc : RowT) (spk : rowOK spc) (σ : Nat → Nat) (hm : mea lac σ) (hs : scFor sc lac) (k : Nat) (hk : k < rN lac) (hmt : mat (sO sc) (env (rF lac) k)) (hn : rN spc < 3000) (hnB : nB lac) (hkB : kB lac) : Ct l E y_NS_bindNode b_NS_bindNode 5 (some .boolean) rm_NS_bindNode [.ref x, .int (iI (k : Int))] (nsO x g kp pa la s n te sp ++ glW E g gc ++ rowW E la lac ++ scW E s sc ++ rowW E sp spc) (fun v w dc ds => ∃ ρ, ∃ t : Int, v = some (.int (iI t)) ∧ w = nsO x g kp pa la s n te sp ++ glW E g gc ++ rowW E la lac ++ scW E s sc ++ rowW E sp ρ ∧ rowOK ρ ∧ ((∃ p, bN (rF lac) (rG lac) (uN gc) (uF gc) k = some p ∧ t = 1 ∧ rL ρ = rL spc ++ [p] ∧ rGrow spc ρ dc ds) ∨ (bN (rF lac) (rG lac) (uN gc) (uF gc) k = none ∧ t = 0 ∧ ρ = spc ∧ dc = 0 ∧ ds = 0))) := by
  obtain ⟨g1, g2⟩ := id gk
  obtain ⟨⟨la1, la2, la3, la4⟩, laf, lag, lah⟩ := id lak
  obtain ⟨⟨sp1, sp2, sp3, sp4⟩, spf, spg, sph⟩ := id spk
  have hgk := lag k
  have hfk := laf k
  have hg0 := hnB k hk
  have hf0 := hkB k hk
  have hf4 := f4_in hg0 hgk
  refine g_start (by decide) (Nat.le_of_ble_eq_true rfl) (fun X hX hE hin => ?_)
  refine g_aload_n (pc := 0) hX 0 d_NS_bindNode_0 rfl rfl ?_
  refine g_get (pc := 1) hX f_NS_26 0 rfl rfl d_NS_bindNode_1 ?_
  refine g_iload_n (pc := 4) hX 1 d_NS_bindNode_4 rfl rfl ?_
  refine g_iV (pc := 5) hX (c_RW_kind l E la lac lak _ (by omega)) gy_RW_kind gv_RW_kind w_274 rfl (by decide) (by decide) [3, 4, 5, 6] rfl rfl rfl rfl rfl _ rfl (Nat.le_of_ble_eq_true rfl) d_NS_bindNode_5 (show _ + 0 ≤ 6000 by omega) (show _ + 0 ≤ 36000 by omega) ?_
  rw [show rK lac (k : Int) = rF lac k from rK_t (by omega)]
  refine g_istore_n (pc := 8) hX 2 d_NS_bindNode_8 rfl (by decide) ?_
  refine g_aload_n (pc := 9) hX 0 d_NS_bindNode_9 rfl rfl ?_
  refine g_get (pc := 10) hX f_NS_26 0 rfl rfl d_NS_bindNode_10 ?_
  refine g_iload_n (pc := 13) hX 1 d_NS_bindNode_13 rfl rfl ?_
  refine g_lV (pc := 14) hX (c_RW_beside l E la lac lak _ (by omega)) gy_RW_beside gv_RW_beside w_275 rfl (by decide) (by decide) [3, 4, 5, 6] rfl rfl rfl rfl rfl _ rfl (Nat.le_of_ble_eq_true rfl) d_NS_bindNode_14 (show _ + 0 ≤ 6000 by omega) (show _ + 0 ≤ 36000 by omega) ?_
  rw [show rB lac (k : Int) = rG lac k from rB_t (by omega)]
  refine g_lstore_n (pc := 17) hX 3 d_NS_bindNode_17 rfl (by decide) ?_
  refine g_iload_n (pc := 18) hX 2 d_NS_bindNode_18 rfl rfl ?_
  by_cases e_0 : rF lac k = 0
  · have hkc : rF lac k = 0 := e_0
    refine g_tsw (pc := 19) (tgt := 60) (off := 41) hX d_NS_bindNode_19 (by omega) (by omega) (by omega) (by rw [hkc]; rfl) (by decide) ?_
    refine g_aload_n (pc := 60) hX 0 d_NS_bindNode_60 rfl rfl ?_
    refine g_iload_n (pc := 61) hX 1 d_NS_bindNode_61 rfl rfl ?_
    refine g_lload_n (pc := 62) hX 3 d_NS_bindNode_62 rfl rfl ?_
    refine g_callV (pc := 63) hX (c_NS_bindName l E x g kp pa la s n te sp gc gk lac lak sc sk spc spk σ hm hs k _ rfl hk hmt hn hkc) gy_NS_bindName gv_NS_bindName w_280 rfl (by decide) (by decide) [0, 1, 2, 3, 4, 5, 6, 7, 8, 9, 10, 11, 12, 13, 14] rfl rfl rfl rfl rfl _ rfl (Nat.le_of_ble_eq_true rfl) d_NS_bindNode_63 (show _ + 6000 ≤ 6000 by omega) (show _ + 36000 ≤ 36000 by omega) (fun _ _ _ _ h => by obtain ⟨_, _, _, h2, _⟩ := h; rw [h2]; exact Nat.le_of_ble_eq_true rfl) (fun v w dc_1 ds_1 hp => ?_)
    obtain ⟨sp_1, t_1, rfl, rfl, spk_1, f_1⟩ := hp
    refine g_ws (nsO x g kp pa la s n te sp ++ glW E g gc ++ rowW E la lac ++ scW E s sc ++ rowW E sp sp_1) rfl ?_
    have ht : t_1 = 0 ∨ t_1 = 1 := by
      rcases f_1 with ⟨_, _, e, _⟩ | ⟨_, e, _⟩
      · exact Or.inr e
      · exact Or.inl e
    have hbd : dc_1 ≤ 6000 ∧ ds_1 ≤ 36000 := by
      obtain ⟨⟨t1, t2, t3, t4⟩, -⟩ := id spk_1
      rcases f_1 with ⟨_, _, _, _, g1, g2, g3⟩ | ⟨_, _, _, g1, g2⟩
      · constructor <;> omega
      · constructor <;> omega
    exact g_zret (pc := 66) hX hE (by first | assumption | exact Or.inl rfl | exact Or.inr rfl | exact bZ_01 _) d_NS_bindNode_66 (show _ ≤ 6000 by omega) (show _ ≤ 36000 by omega) ⟨sp_1, t_1, rfl, rfl, spk_1, by rw [Nat.zero_add, Nat.zero_add]; exact f_1⟩
  by_cases e_1 : rF lac k = 1
  · have hkc : rF lac k = 1 := e_1
    refine g_tsw (pc := 19) (tgt := 67) (off := 48) hX d_NS_bindNode_19 (by omega) (by omega) (by omega) (by rw [hkc]; rfl) (by decide) ?_
    refine g_aload_n (pc := 67) hX 0 d_NS_bindNode_67 rfl rfl ?_
    refine g_get (pc := 68) hX f_NS_48 0 rfl rfl d_NS_bindNode_68 ?_
    refine g_iload_n (pc := 71) hX 2 d_NS_bindNode_71 rfl rfl ?_
    refine g_lload_n (pc := 72) hX 3 d_NS_bindNode_72 rfl rfl ?_
    refine g_lS (pc := 73) hX (c_NM_firstFour l E _ (by omega) (by omega)) gy_NM_firstFour w_295 w_294 rfl (by decide) (by decide) [] rfl rfl _ rfl (Nat.le_of_ble_eq_true rfl) d_NS_bindNode_73 (show _ + 0 ≤ 6000 by omega) (show _ + 0 ≤ 36000 by omega) ?_
    refine g_callV (pc := 76) hX (c_RW_add l E sp spc spk _ (by omega) _ (by omega) (by omega)) gy_RW_add gv_RW_add w_161 rfl (by decide) (by decide) [11, 12, 13, 14] rfl rfl rfl rfl rfl _ rfl (Nat.le_of_ble_eq_true rfl) d_NS_bindNode_76 (show _ + 6000 ≤ 6000 by omega) (show _ + 36000 ≤ 36000 by omega) (fun _ _ _ _ h => by obtain ⟨_, _, h2, _⟩ := h; rw [h2]; exact Nat.le_of_ble_eq_true rfl) (fun v w dc_2 ds_2 hp => ?_)
    obtain ⟨sp_2, rfl, rfl, spk_2, f_2⟩ := hp
    refine g_ws (nsO x g kp pa la s n te sp ++ glW E g gc ++ rowW E la lac ++ scW E s sc ++ rowW E sp sp_2) rfl ?_
    obtain ⟨d1, d2, d3, d4, d5⟩ := f_2
    obtain ⟨⟨t1, t2, t3, t4⟩, -⟩ := id spk_2
    refine g_iconst (pc := 79) hX d_NS_bindNode_79 ?_
    exact g_zret (pc := 80) hX hE (by first | exact Or.inl rfl | exact Or.inr rfl | exact bZ_01 _) d_NS_bindNode_80 (show _ ≤ 6000 by omega) (show _ ≤ 36000 by omega) ⟨sp_2, 1, rfl, rfl, spk_2, Or.inl ⟨_, by unfold bN; rw [if_neg (by omega), if_pos (by omega), hkc], rfl, d1, by rw [Nat.zero_add, Nat.zero_add]; exact ⟨d3, d4, d5⟩⟩⟩
  by_cases e_2 : rF lac k = 2
  · have hkc : rF lac k = 2 := e_2
    refine g_tsw (pc := 19) (tgt := 67) (off := 48) hX d_NS_bindNode_19 (by omega) (by omega) (by omega) (by rw [hkc]; rfl) (by decide) ?_
    refine g_aload_n (pc := 67) hX 0 d_NS_bindNode_67 rfl rfl ?_
    refine g_get (pc := 68) hX f_NS_48 0 rfl rfl d_NS_bindNode_68 ?_
    refine g_iload_n (pc := 71) hX 2 d_NS_bindNode_71 rfl rfl ?_
    refine g_lload_n (pc := 72) hX 3 d_NS_bindNode_72 rfl rfl ?_
    refine g_lS (pc := 73) hX (c_NM_firstFour l E _ (by omega) (by omega)) gy_NM_firstFour w_295 w_294 rfl (by decide) (by decide) [] rfl rfl _ rfl (Nat.le_of_ble_eq_true rfl) d_NS_bindNode_73 (show _ + 0 ≤ 6000 by omega) (show _ + 0 ≤ 36000 by omega) ?_
    refine g_callV (pc := 76) hX (c_RW_add l E sp spc spk _ (by omega) _ (by omega) (by omega)) gy_RW_add gv_RW_add w_161 rfl (by decide) (by decide) [11, 12, 13, 14] rfl rfl rfl rfl rfl _ rfl (Nat.le_of_ble_eq_true rfl) d_NS_bindNode_76 (show _ + 6000 ≤ 6000 by omega) (show _ + 36000 ≤ 36000 by omega) (fun _ _ _ _ h => by obtain ⟨_, _, h2, _⟩ := h; rw [h2]; exact Nat.le_of_ble_eq_true rfl) (fun v w dc_3 ds_3 hp => ?_)
    obtain ⟨sp_3, rfl, rfl, spk_3, f_3⟩ := hp
    refine g_ws (nsO x g kp pa la s n te sp ++ glW E g gc ++ rowW E la lac ++ scW E s sc ++ rowW E sp sp_3) rfl ?_
    obtain ⟨d1, d2, d3, d4, d5⟩ := f_3
    obtain ⟨⟨t1, t2, t3, t4⟩, -⟩ := id spk_3
    refine g_iconst (pc := 79) hX d_NS_bindNode_79 ?_
    exact g_zret (pc := 80) hX hE (by first | exact Or.inl rfl | exact Or.inr rfl | exact bZ_01 _) d_NS_bindNode_80 (show _ ≤ 6000 by omega) (show _ ≤ 36000 by omega) ⟨sp_3, 1, rfl, rfl, spk_3, Or.inl ⟨_, by unfold bN; rw [if_neg (by omega), if_pos (by omega), hkc], rfl, d1, by rw [Nat.zero_add, Nat.zero_add]; exact ⟨d3, d4, d5⟩⟩⟩
  by_cases e_3 : rF lac k = 3
  · have hkc : rF lac k = 3 := e_3
    refine g_tsw (pc := 19) (tgt := 67) (off := 48) hX d_NS_bindNode_19 (by omega) (by omega) (by omega) (by rw [hkc]; rfl) (by decide) ?_
    refine g_aload_n (pc := 67) hX 0 d_NS_bindNode_67 rfl rfl ?_
    refine g_get (pc := 68) hX f_NS_48 0 rfl rfl d_NS_bindNode_68 ?_
    refine g_iload_n (pc := 71) hX 2 d_NS_bindNode_71 rfl rfl ?_
    refine g_lload_n (pc := 72) hX 3 d_NS_bindNode_72 rfl rfl ?_
    refine g_lS (pc := 73) hX (c_NM_firstFour l E _ (by omega) (by omega)) gy_NM_firstFour w_295 w_294 rfl (by decide) (by decide) [] rfl rfl _ rfl (Nat.le_of_ble_eq_true rfl) d_NS_bindNode_73 (show _ + 0 ≤ 6000 by omega) (show _ + 0 ≤ 36000 by omega) ?_
    refine g_callV (pc := 76) hX (c_RW_add l E sp spc spk _ (by omega) _ (by omega) (by omega)) gy_RW_add gv_RW_add w_161 rfl (by decide) (by decide) [11, 12, 13, 14] rfl rfl rfl rfl rfl _ rfl (Nat.le_of_ble_eq_true rfl) d_NS_bindNode_76 (show _ + 6000 ≤ 6000 by omega) (show _ + 36000 ≤ 36000 by omega) (fun _ _ _ _ h => by obtain ⟨_, _, h2, _⟩ := h; rw [h2]; exact Nat.le_of_ble_eq_true rfl) (fun v w dc_4 ds_4 hp => ?_)
    obtain ⟨sp_4, rfl, rfl, spk_4, f_4⟩ := hp
    refine g_ws (nsO x g kp pa la s n te sp ++ glW E g gc ++ rowW E la lac ++ scW E s sc ++ rowW E sp sp_4) rfl ?_
    obtain ⟨d1, d2, d3, d4, d5⟩ := f_4
    obtain ⟨⟨t1, t2, t3, t4⟩, -⟩ := id spk_4
    refine g_iconst (pc := 79) hX d_NS_bindNode_79 ?_
    exact g_zret (pc := 80) hX hE (by first | exact Or.inl rfl | exact Or.inr rfl | exact bZ_01 _) d_NS_bindNode_80 (show _ ≤ 6000 by omega) (show _ ≤ 36000 by omega) ⟨sp_4, 1, rfl, rfl, spk_4, Or.inl ⟨_, by unfold bN; rw [if_neg (by omega), if_pos (by omega), hkc], rfl, d1, by rw [Nat.zero_add, Nat.zero_add]; exact ⟨d3, d4, d5⟩⟩⟩
  by_cases e_4 : rF lac k = 4
  · have hkc : rF lac k = 4 := e_4
    refine g_tsw (pc := 19) (tgt := 92) (off := 73) hX d_NS_bindNode_19 (by omega) (by omega) (by omega) (by rw [hkc]; rfl) (by decide) ?_
    refine g_aload_n (pc := 92) hX 0 d_NS_bindNode_92 rfl rfl ?_
    refine g_get (pc := 93) hX f_NS_48 0 rfl rfl d_NS_bindNode_93 ?_
    refine g_iload_n (pc := 96) hX 2 d_NS_bindNode_96 rfl rfl ?_
    refine g_lload_n (pc := 97) hX 3 d_NS_bindNode_97 rfl rfl ?_
    refine g_callV (pc := 98) hX (c_RW_add l E sp spc spk _ (by omega) _ (by omega) (by omega)) gy_RW_add gv_RW_add w_161 rfl (by decide) (by decide) [11, 12, 13, 14] rfl rfl rfl rfl rfl _ rfl (Nat.le_of_ble_eq_true rfl) d_NS_bindNode_98 (show _ + 6000 ≤ 6000 by omega) (show _ + 36000 ≤ 36000 by omega) (fun _ _ _ _ h => by obtain ⟨_, _, h2, _⟩ := h; rw [h2]; exact Nat.le_of_ble_eq_true rfl) (fun v w dc_5 ds_5 hp => ?_)
    obtain ⟨sp_5, rfl, rfl, spk_5, f_5⟩ := hp
    refine g_ws (nsO x g kp pa la s n te sp ++ glW E g gc ++ rowW E la lac ++ scW E s sc ++ rowW E sp sp_5) rfl ?_
    obtain ⟨d1, d2, d3, d4, d5⟩ := f_5
    obtain ⟨⟨t1, t2, t3, t4⟩, -⟩ := id spk_5
    refine g_iconst (pc := 101) hX d_NS_bindNode_101 ?_
    exact g_zret (pc := 102) hX hE (by first | exact Or.inl rfl | exact Or.inr rfl | exact bZ_01 _) d_NS_bindNode_102 (show _ ≤ 6000 by omega) (show _ ≤ 36000 by omega) ⟨sp_5, 1, rfl, rfl, spk_5, Or.inl ⟨_, by unfold bN; rw [if_neg (by omega), if_neg (by omega), if_neg (by omega), hkc], rfl, d1, by rw [Nat.zero_add, Nat.zero_add]; exact ⟨d3, d4, d5⟩⟩⟩
  by_cases e_5 : rF lac k = 5
  · have hkc : rF lac k = 5 := e_5
    refine g_tsw (pc := 19) (tgt := 92) (off := 73) hX d_NS_bindNode_19 (by omega) (by omega) (by omega) (by rw [hkc]; rfl) (by decide) ?_
    refine g_aload_n (pc := 92) hX 0 d_NS_bindNode_92 rfl rfl ?_
    refine g_get (pc := 93) hX f_NS_48 0 rfl rfl d_NS_bindNode_93 ?_
    refine g_iload_n (pc := 96) hX 2 d_NS_bindNode_96 rfl rfl ?_
    refine g_lload_n (pc := 97) hX 3 d_NS_bindNode_97 rfl rfl ?_
    refine g_callV (pc := 98) hX (c_RW_add l E sp spc spk _ (by omega) _ (by omega) (by omega)) gy_RW_add gv_RW_add w_161 rfl (by decide) (by decide) [11, 12, 13, 14] rfl rfl rfl rfl rfl _ rfl (Nat.le_of_ble_eq_true rfl) d_NS_bindNode_98 (show _ + 6000 ≤ 6000 by omega) (show _ + 36000 ≤ 36000 by omega) (fun _ _ _ _ h => by obtain ⟨_, _, h2, _⟩ := h; rw [h2]; exact Nat.le_of_ble_eq_true rfl) (fun v w dc_6 ds_6 hp => ?_)
    obtain ⟨sp_6, rfl, rfl, spk_6, f_6⟩ := hp
    refine g_ws (nsO x g kp pa la s n te sp ++ glW E g gc ++ rowW E la lac ++ scW E s sc ++ rowW E sp sp_6) rfl ?_
    obtain ⟨d1, d2, d3, d4, d5⟩ := f_6
    obtain ⟨⟨t1, t2, t3, t4⟩, -⟩ := id spk_6
    refine g_iconst (pc := 101) hX d_NS_bindNode_101 ?_
    exact g_zret (pc := 102) hX hE (by first | exact Or.inl rfl | exact Or.inr rfl | exact bZ_01 _) d_NS_bindNode_102 (show _ ≤ 6000 by omega) (show _ ≤ 36000 by omega) ⟨sp_6, 1, rfl, rfl, spk_6, Or.inl ⟨_, by unfold bN; rw [if_neg (by omega), if_neg (by omega), if_neg (by omega), hkc], rfl, d1, by rw [Nat.zero_add, Nat.zero_add]; exact ⟨d3, d4, d5⟩⟩⟩
  by_cases e_6 : rF lac k = 6
  · have hkc : rF lac k = 6 := e_6
    refine g_tsw (pc := 19) (tgt := 81) (off := 62) hX d_NS_bindNode_19 (by omega) (by omega) (by omega) (by rw [hkc]; rfl) (by decide) ?_
    refine g_aload_n (pc := 81) hX 0 d_NS_bindNode_81 rfl rfl ?_
    refine g_get (pc := 82) hX f_NS_48 0 rfl rfl d_NS_bindNode_82 ?_
    refine g_iconst (pc := 85) hX d_NS_bindNode_85 ?_
    refine g_lconst (pc := 86) hX 0 d_NS_bindNode_86 (by decide) ?_
    refine g_callV (pc := 87) hX (c_RW_add l E sp spc spk _ (by omega) _ (by omega) (by omega)) gy_RW_add gv_RW_add w_161 rfl (by decide) (by decide) [11, 12, 13, 14] rfl rfl rfl rfl rfl _ rfl (Nat.le_of_ble_eq_true rfl) d_NS_bindNode_87 (show _ + 6000 ≤ 6000 by omega) (show _ + 36000 ≤ 36000 by omega) (fun _ _ _ _ h => by obtain ⟨_, _, h2, _⟩ := h; rw [h2]; exact Nat.le_of_ble_eq_true rfl) (fun v w dc_7 ds_7 hp => ?_)
    obtain ⟨sp_7, rfl, rfl, spk_7, f_7⟩ := hp
    refine g_ws (nsO x g kp pa la s n te sp ++ glW E g gc ++ rowW E la lac ++ scW E s sc ++ rowW E sp sp_7) rfl ?_
    obtain ⟨d1, d2, d3, d4, d5⟩ := f_7
    obtain ⟨⟨t1, t2, t3, t4⟩, -⟩ := id spk_7
    refine g_iconst (pc := 90) hX d_NS_bindNode_90 ?_
    exact g_zret (pc := 91) hX hE (by first | exact Or.inl rfl | exact Or.inr rfl | exact bZ_01 _) d_NS_bindNode_91 (show _ ≤ 6000 by omega) (show _ ≤ 36000 by omega) ⟨sp_7, 1, rfl, rfl, spk_7, Or.inl ⟨_, by unfold bN; rw [if_neg (by omega), if_neg (by omega), if_pos (by omega)], rfl, d1, by rw [Nat.zero_add, Nat.zero_add]; exact ⟨d3, d4, d5⟩⟩⟩
  exact absurd hf0 (by omega)
end
