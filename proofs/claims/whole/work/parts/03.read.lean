-- the tables, read
def xm_meth (mi : Nat) : Nat × MethodName × ByteArray × Nat × Option FieldType × List (Nat × Nat × Nat × Nat) := xt_M.getD mi (9999, ⟨"", "", ""⟩, ⟨#[]⟩, 0, none, [])
abbrev xm_oc (mi : Nat) : Nat := (xm_meth mi).1
abbrev xm_name (mi : Nat) : MethodName := (xm_meth mi).2.1
abbrev xm_code (mi : Nat) : ByteArray := (xm_meth mi).2.2.1
abbrev xm_maxL (mi : Nat) : Nat := (xm_meth mi).2.2.2.1
abbrev xm_ret (mi : Nat) : Option FieldType := (xm_meth mi).2.2.2.2.1
abbrev xm_hand (mi : Nat) : List (Nat × Nat × Nat × Nat) := (xm_meth mi).2.2.2.2.2
def xm_find {α : Type} (l : List ((Nat × Nat × Nat) × α)) (a b c : Nat) : Option α := (l.find? (fun q => q.1.1 == a && (q.1.2.1 == b && q.1.2.2 == c))).map (·.2)
/-- how many slots a class's object has -/
def xm_N (ci : Nat) : Nat := ((xt_cl[ci]?).map (·.2.2)).getD 0
def xm_ty (ci k : Nat) : FieldType := (((xt_cl[ci]?).bind fun q => parseFieldDescriptor (q.2.1 k).2.2.1)).getD .int
def xm_fin (ci k : Nat) : Bool := (((xt_cl[ci]?).map fun q => (q.2.1 k).2.2.2)).getD true
def xm_decl (ci k : Nat) : String := (((xt_cl[ci]?).map fun q => (q.2.1 k).1)).getD ""
/-- what a field of a new object holds -/
def xm_dflt (ci k : Nat) : Value := defaultValue (xm_ty ci k)
