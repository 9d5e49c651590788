def R_GL : String := "NameScope$Globals"
def T_GL : u_T := fun k => match k with
  | 0 => ("NameScope$Globals", "names", "[J", true)
  | _ => ("NameScope$Globals", "count", "I", false)
def t_GL : Nat → FieldType := fun k => match k with
  | 0 => .array .long
  | _ => .int
def R_PN : String := "NameScope$Pen"
def T_PN : u_T := fun k => match k with
  | 0 => ("NameScope$Pen", "scopes", "LNameScope$Scopes;", true)
  | 1 => ("NameScope$Pen", "next", "[I", false)
  | 2 => ("NameScope$Pen", "latest", "[I", false)
  | 3 => ("NameScope$Pen", "near", "[J", false)
  | 4 => ("NameScope$Pen", "taken", "[Z", false)
  | _ => ("NameScope$Pen", "nearCount", "I", false)
def t_PN : Nat → FieldType := fun k => match k with
  | 0 => .object "NameScope$Scopes"
  | 1 => .array .int
  | 2 => .array .int
  | 3 => .array .long
  | 4 => .array .boolean
  | _ => .int
def R_RW : String := "NameScope$Row"
def T_RW : u_T := fun k => match k with
  | 0 => ("NameScope$Row", "kinds", "[I", false)
  | 1 => ("NameScope$Row", "besides", "[J", false)
  | 2 => ("NameScope$Row", "sizes", "[I", false)
  | _ => ("NameScope$Row", "count", "I", false)
def t_RW : Nat → FieldType := fun k => match k with
  | 0 => .array .int
  | 1 => .array .long
  | 2 => .array .int
  | _ => .int
def R_SC : String := "NameScope$Scopes"
def T_SC : u_T := fun k => match k with
  | 0 => ("NameScope$Scopes", "count", "I", false)
  | 1 => ("NameScope$Scopes", "innermost", "[I", false)
  | 2 => ("NameScope$Scopes", "depths", "[I", false)
  | _ => ("NameScope$Scopes", "open", "[I", false)
def t_SC : Nat → FieldType := fun k => match k with
  | 0 => .int
  | 1 => .array .int
  | 2 => .array .int
  | _ => .array .int
def R_NS : String := "NameScope"
def T_NS : u_T := fun k => match k with
  | 0 => ("NameScope", "globals", "LNameScope$Globals;", true)
  | 1 => ("NameScope", "kept", "LNameScope$Row;", true)
  | 2 => ("NameScope", "paper", "LNameScope$Row;", true)
  | 3 => ("NameScope", "laid", "LNameScope$Row;", true)
  | 4 => ("NameScope", "scopes", "LNameScope$Scopes;", true)
  | 5 => ("NameScope", "pen", "LNameScope$Pen;", true)
  | 6 => ("NameScope", "term", "LNameScope$Row;", false)
  | _ => ("NameScope", "spare", "LNameScope$Row;", false)
def t_NS : Nat → FieldType := fun k => match k with
  | 0 => .object "NameScope$Globals"
  | 1 => .object "NameScope$Row"
  | 2 => .object "NameScope$Row"
  | 3 => .object "NameScope$Row"
  | 4 => .object "NameScope$Scopes"
  | 5 => .object "NameScope$Pen"
  | 6 => .object "NameScope$Row"
  | _ => .object "NameScope$Row"
def R_MD : String := "NameScopeModel"
def T_MD : u_T := fun k => match k with
  | 0 => ("NameScopeModel", "globals", "[J", true)
  | 1 => ("NameScopeModel", "globalCount", "I", false)
  | 2 => ("NameScopeModel", "laidKind", "[I", true)
  | 3 => ("NameScopeModel", "laidBeside", "[J", true)
  | 4 => ("NameScopeModel", "laid", "I", false)
  | 5 => ("NameScopeModel", "kind", "[I", true)
  | 6 => ("NameScopeModel", "beside", "[J", true)
  | 7 => ("NameScopeModel", "count", "I", false)
  | 8 => ("NameScopeModel", "keptKind", "[I", true)
  | 9 => ("NameScopeModel", "keptBeside", "[J", true)
  | 10 => ("NameScopeModel", "kept", "I", false)
  | 11 => ("NameScopeModel", "saidKind", "[I", true)
  | 12 => ("NameScopeModel", "saidBeside", "[J", true)
  | 13 => ("NameScopeModel", "said", "I", false)
  | 14 => ("NameScopeModel", "draftKind", "[I", true)
  | 15 => ("NameScopeModel", "draftBeside", "[J", true)
  | 16 => ("NameScopeModel", "drafts", "I", false)
  | 17 => ("NameScopeModel", "sizes", "[I", true)
  | 18 => ("NameScopeModel", "whole", "[I", true)
  | 19 => ("NameScopeModel", "binderOf", "[I", true)
  | 20 => ("NameScopeModel", "meant", "Z", false)
  | _ => ("NameScopeModel", "meaning", "J", false)
def t_MD : Nat → FieldType := fun k => match k with
  | 0 => .array .long
  | 1 => .int
  | 2 => .array .int
  | 3 => .array .long
  | 4 => .int
  | 5 => .array .int
  | 6 => .array .long
  | 7 => .int
  | 8 => .array .int
  | 9 => .array .long
  | 10 => .int
  | 11 => .array .int
  | 12 => .array .long
  | 13 => .int
  | 14 => .array .int
  | 15 => .array .long
  | 16 => .int
  | 17 => .array .int
  | 18 => .array .int
  | 19 => .array .int
  | 20 => .boolean
  | _ => .long
def vwCl : List vw_C := [(R_GL, T_GL, 2), (R_PN, T_PN, 6), (R_RW, T_RW, 4), (R_SC, T_SC, 4), (R_NS, T_NS, 8), (R_MD, T_MD, 22)]
theorem in_GL : ∀ w ∈ u_ws R_GL T_GL 2, w ∈ gTB := by decide +kernel
theorem in_PN : ∀ w ∈ u_ws R_PN T_PN 6, w ∈ gTB := by decide +kernel
theorem in_RW : ∀ w ∈ u_ws R_RW T_RW 4, w ∈ gTB := by decide +kernel
theorem in_SC : ∀ w ∈ u_ws R_SC T_SC 4, w ∈ gTB := by decide +kernel
theorem in_NS : ∀ w ∈ u_ws R_NS T_NS 8, w ∈ gTB := by decide +kernel
theorem in_MD : ∀ w ∈ u_ws R_MD T_MD 22, w ∈ gTB := by decide +kernel
