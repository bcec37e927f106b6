/-! THE ABSTRACT MACHINE. Cells have numbers: 0 is the script, 1 .. n-1 are the cells made since the law began, in their order.
A heap: n; the kinds of the cells (0, class) | (1, length): an int array | (2, length): a long array; the fields; the ints; the longs; how many cells and slots have been made (exceptions counted). -/
abbrev xm_H : Type := Nat × (Nat → Nat × Nat) × (Nat → Nat → Value) × (Nat → Nat → Int32) × (Nat → Nat → Int64) × Nat × Nat
abbrev xm_n (h : xm_H) : Nat := h.1
abbrev xm_S (h : xm_H) : Nat → Nat × Nat := h.2.1
abbrev xm_F (h : xm_H) : Nat → Nat → Value := h.2.2.1
abbrev xm_A (h : xm_H) : Nat → Nat → Int32 := h.2.2.2.1
abbrev xm_L (h : xm_H) : Nat → Nat → Int64 := h.2.2.2.2.1
abbrev xm_nc (h : xm_H) : Nat := h.2.2.2.2.2.1
abbrev xm_ns (h : xm_H) : Nat := h.2.2.2.2.2.2
abbrev xm_R : Type := Option (xm_H × Outcome)
/-- in a row at a place -/
def xm_up {α : Type} (F : Nat → Nat → α) (i k : Nat) (v : α) : Nat → Nat → α := va_up F i (va_up (F i) k v)
def xm_setF (h : xm_H) (i k : Nat) (v : Value) : xm_H := (h.1, h.2.1, xm_up h.2.2.1 i k v, h.2.2.2)
def xm_setA (h : xm_H) (i : Nat) (f : Nat → Int32) : xm_H := (h.1, h.2.1, h.2.2.1, va_up h.2.2.2.1 i f, h.2.2.2.2)
def xm_setL (h : xm_H) (i k : Nat) (v : Int64) : xm_H := (h.1, h.2.1, h.2.2.1, h.2.2.2.1, xm_up h.2.2.2.2.1 i k v, h.2.2.2.2.2)
/-- a new cell -/
def xm_new (h : xm_H) (sh : Nat × Nat) (f : Nat → Value) (N : Nat) : xm_H := (h.1 + 1, va_up h.2.1 h.1 sh, va_up h.2.2.1 h.1 f, va_up h.2.2.2.1 h.1 (fun _ => 0), va_up h.2.2.2.2.1 h.1 (fun _ => 0), h.2.2.2.2.2.1 + 1, h.2.2.2.2.2.2 + N)
/-- cells that nobody keeps: an exception -/
def xm_lost (h : xm_H) (c N : Nat) : xm_H := (h.1, h.2.1, h.2.2.1, h.2.2.2.1, h.2.2.2.2.1, h.2.2.2.2.2.1 + c, h.2.2.2.2.2.2 + N)
-- the operand stack by its shape
def xm_1i (st : List Value) (k : Int32 → List Value → xm_R) : xm_R := match st with
  | .int x :: r => k x r
  | _ => none
def xm_2i (st : List Value) (k : Int32 → Int32 → List Value → xm_R) : xm_R := match st with
  | .int y :: .int x :: r => k x y r
  | _ => none
def xm_3i (st : List Value) (k : Nat → Int32 → Int32 → List Value → xm_R) : xm_R := match st with
  | .int x :: .int i :: .ref a :: r => k a i x r
  | _ => none
def xm_3l (st : List Value) (k : Nat → Int32 → Int64 → List Value → xm_R) : xm_R := match st with
  | .long x :: .int i :: .ref a :: r => k a i x r
  | _ => none
def xm_1l (st : List Value) (k : Int64 → List Value → xm_R) : xm_R := match st with
  | .long x :: r => k x r
  | _ => none
def xm_2l (st : List Value) (k : Int64 → Int64 → List Value → xm_R) : xm_R := match st with
  | .long y :: .long x :: r => k x y r
  | _ => none
def xm_il (st : List Value) (k : Int64 → Int32 → List Value → xm_R) : xm_R := match st with
  | .int y :: .long x :: r => k x y r
  | _ => none
def xm_1r (st : List Value) (k : Nat → List Value → xm_R) : xm_R := match st with
  | .ref a :: r => k a r
  | _ => none
def xm_ri (st : List Value) (k : Nat → Int32 → List Value → xm_R) : xm_R := match st with
  | .int i :: .ref a :: r => k a i r
  | _ => none
def xm_1v (st : List Value) (k : Value → List Value → xm_R) : xm_R := match st with
  | v :: r => if v.category = 1 then k v r else none
  | _ => none
def xm_2v (st : List Value) (k : Value → Value → List Value → xm_R) : xm_R := match st with
  | v :: w :: r => if v.category = 1 ∧ w.category = 1 then k v w r else none
  | _ => none
def xm_vr (st : List Value) (k : Nat → Value → List Value → xm_R) : xm_R := match st with
  | v :: .ref a :: r => k a v r
  | _ => none
def xm_5 (st : List Value) (k : Nat → Int32 → Nat → Int32 → Int32 → List Value → xm_R) : xm_R := match st with
  | .int n :: .int dp :: .ref b :: .int sp :: .ref a :: r => k a sp b dp n r
  | _ => none
def xm_recv (v : Value) (k : Nat → xm_R) : xm_R := match v with
  | .ref a => k a
  | _ => none
/-- a local variable; 'null' stands for 'unknown' -/
def xm_get (ls : List Value) (i : Nat) : Value := ls.getD i .null
/-- storing: a long takes two places, and what it lay over is unknown -/
def xm_wide (ls : List Value) (i : Nat) : List Value := match i with
  | 0 => ls
  | j + 1 => if (ls.getD j .null).category = 2 then ls.set j .null else ls
def xm_put1 (ls : List Value) (i : Nat) (v : Value) : List Value := (xm_wide ls i).set i v
def xm_put2 (ls : List Value) (i : Nat) (v : Value) : List Value := ((xm_wide ls i).set (i + 1) .null).set i v
def xm_jump (pc : Nat) (off : Int) (k : Nat → xm_R) : xm_R := if 0 ≤ (pc : Int) + off then k ((pc : Int) + off).toNat else none
def xm_cond (c : ClassFile.Cond) (x y : Int32) : Bool := match c with
  | .eq => decide (x = y)
  | .ne => decide (¬ x = y)
  | .lt => decide (x < y)
  | .ge => decide (y ≤ x)
  | .gt => decide (y < x)
  | .le => decide (x ≤ y)
/-- the arguments as local variables -/
def xm_slots (vs : List Value) : List Value := vs.flatMap fun v => if v.category = 2 then [v, .null] else [v]
def xm_locals (vs : List Value) (n : Nat) : List Value := xm_slots vs ++ List.replicate (n - (xm_slots vs).length) .null
def xm_words (st : List Value) : Nat := (st.map fun v => v.category).sum
/-- where a thrown object of the class 'ex' goes in the method: its table's first entry that has the pc, and whose class it is -/
def xm_catch (mi pc ex : Nat) : Option Nat := ((xm_hand mi).find? fun q => decide (q.1 ≤ pc) && (decide (pc < q.2.1) && (xm_find xt_X (xm_oc mi) q.2.2.2 ex).getD false)).map fun q => q.2.2.1
/-- behind a call -/
def xm_after (mi pc : Nat) (go : Nat → List Value → List Value → xm_H → xm_R) (ls rest : List Value) (r : xm_R) : xm_R := match r with
  | some (h, .returned v) => go (pc + 3) ls (v.toList ++ rest) h
  | some (h, .threw ex) => match xm_catch mi pc ex with
    | some t => match decode (xm_code mi) t with
      | .ok (.astore k, 2) => if k < ls.length then go (t + 2) (xm_put1 ls k .null) [] h else none
      | .ok (.astore_n k, 1) => if k.val < ls.length then go (t + 1) (xm_put1 ls k .null) [] h else none
      | _ => none
    | none => none
  | none => none
/-- the length that an instruction has here (0: any) -/
def xm_len (i : Instr) : Nat := match i with
  | .bipush _ | .iload _ | .lload _ | .aload _ | .istore _ | .lstore _ | .astore _ | .ldc _ | .newarray _ => 2
  | .sipush _ | .ldc2_w _ | .ldc_w _ | .ifCond _ _ | .if_icmp _ _ | .goto _ | .getfield _ | .putfield _ | .invokevirtual _ | .invokespecial _ | .invokestatic _ | .new _ | .iinc _ _ => 3
  | .tableswitch _ _ _ _ => 0
  | _ => 1
def xm_isI (v : Value) : Bool := match v with
  | .int _ => true
  | _ => false
def xm_isL (v : Value) : Bool := match v with
  | .long _ => true
  | _ => false
def xm_isR (v : Value) : Bool := match v with
  | .ref _ => true
  | _ => false
/-- loads -/
def xm_ld (ok : Value → Bool) (ls st : List Value) (i : Nat) (k : List Value → xm_R) : xm_R := if ok (xm_get ls i) = true then k (xm_get ls i :: st) else none
def xm_st1 (ok : Value → Bool) (ls st : List Value) (i : Nat) (k : List Value → List Value → xm_R) : xm_R := match st with
  | v :: r => if ok v = true ∧ i < ls.length then k (xm_put1 ls i v) r else none
  | _ => none
def xm_st2 (ls st : List Value) (i : Nat) (k : List Value → List Value → xm_R) : xm_R := match st with
  | .long v :: r => if i + 1 < ls.length then k (xm_put2 ls i (.long v)) r else none
  | _ => none
def xm_okr (r : Option FieldType) (x : Int32) : Bool := match r with
  | some t => decide (narrow t (.int x) = .int x) && (t == .int || t == .boolean)
  | none => false
/-- one instruction: 'go' goes on in this frame, 'ca' runs another method -/
def xm_step (mi : Nat) (go : Nat → List Value → List Value → xm_H → xm_R) (ca : Nat → List Value → xm_H → xm_R) (d pc : Nat) (ls st : List Value) (h : xm_H) (i : Instr) : xm_R := match i with
  | .iconst n => go (pc + 1) ls (.int (Int32.ofInt n) :: st) h
  | .bipush n => go (pc + 2) ls (.int (Int8.ofInt n).toInt32 :: st) h
  | .sipush n => go (pc + 3) ls (.int (Int16.ofInt n).toInt32 :: st) h
  | .ldc k => match xm_find xt_I (xm_oc mi) k 0 with
    | some v => go (pc + 2) ls (.int v.1 :: st) h
    | none => none
  | .ldc_w k => match xm_find xt_I (xm_oc mi) k 0 with
    | some v => go (pc + 3) ls (.int v.1 :: st) h
    | none => none
  | .ldc2_w k => match xm_find xt_J (xm_oc mi) k 0 with
    | some v => go (pc + 3) ls (.long v.1 :: st) h
    | none => none
  | .iload k => xm_ld xm_isI ls st k fun st => go (pc + 2) ls st h
  | .iload_n k => xm_ld xm_isI ls st k.val fun st => go (pc + 1) ls st h
  | .lload k => xm_ld xm_isL ls st k fun st => go (pc + 2) ls st h
  | .lload_n k => xm_ld xm_isL ls st k.val fun st => go (pc + 1) ls st h
  | .aload k => xm_ld xm_isR ls st k fun st => go (pc + 2) ls st h
  | .aload_n k => xm_ld xm_isR ls st k.val fun st => go (pc + 1) ls st h
  | .istore k => xm_st1 xm_isI ls st k fun ls st => go (pc + 2) ls st h
  | .istore_n k => xm_st1 xm_isI ls st k.val fun ls st => go (pc + 1) ls st h
  | .astore k => xm_st1 xm_isR ls st k fun ls st => go (pc + 2) ls st h
  | .astore_n k => xm_st1 xm_isR ls st k.val fun ls st => go (pc + 1) ls st h
  | .lstore k => xm_st2 ls st k fun ls st => go (pc + 2) ls st h
  | .lstore_n k => xm_st2 ls st k.val fun ls st => go (pc + 1) ls st h
  | .iinc k n => match xm_get ls k with
    | .int x => go (pc + 3) (xm_put1 ls k (.int (x + Int32.ofInt n))) st h
    | _ => none
  | .iadd => xm_2i st fun x y st => go (pc + 1) ls (.int (x + y) :: st) h
  | .isub => xm_2i st fun x y st => go (pc + 1) ls (.int (x - y) :: st) h
  | .imul => xm_2i st fun x y st => go (pc + 1) ls (.int (x * y) :: st) h
  | .iand => xm_2i st fun x y st => go (pc + 1) ls (.int (x &&& y) :: st) h
  | .ior => xm_2i st fun x y st => go (pc + 1) ls (.int (x ||| y) :: st) h
  | .ixor => xm_2i st fun x y st => go (pc + 1) ls (.int (x ^^^ y) :: st) h
  | .ishl => xm_2i st fun x y st => go (pc + 1) ls (.int (x <<< (y &&& 31)) :: st) h
  | .ishr => xm_2i st fun x y st => go (pc + 1) ls (.int (x >>> (y &&& 31)) :: st) h
  | .idiv => xm_2i st fun x y st => if y = 0 then none else go (pc + 1) ls (.int (x / y) :: st) h
  | .irem => xm_2i st fun x y st => if y = 0 then none else go (pc + 1) ls (.int (x - x / y * y) :: st) h
  | .ineg => xm_1i st fun x st => go (pc + 1) ls (.int (-x) :: st) h
  | .i2l => xm_1i st fun x st => go (pc + 1) ls (.long x.toInt64 :: st) h
  | .l2i => xm_1l st fun x st => go (pc + 1) ls (.int x.toInt32 :: st) h
  | .land => xm_2l st fun x y st => go (pc + 1) ls (.long (x &&& y) :: st) h
  | .lor => xm_2l st fun x y st => go (pc + 1) ls (.long (x ||| y) :: st) h
  | .lshl => xm_il st fun x y st => go (pc + 1) ls (.long (x <<< (y.toInt64 &&& 63)) :: st) h
  | .lshr => xm_il st fun x y st => go (pc + 1) ls (.long (x >>> (y.toInt64 &&& 63)) :: st) h
  | .lcmp => xm_2l st fun x y st => go (pc + 1) ls (.int (lg_cmp x y) :: st) h
  | .dup => xm_1v st fun v st => go (pc + 1) ls (v :: v :: st) h
  | .pop => xm_1v st fun _ st => go (pc + 1) ls st h
  | .dup_x1 => xm_2v st fun v w st => go (pc + 1) ls (v :: w :: v :: st) h
  | .dup2 => xm_2v st fun v w st => go (pc + 1) ls (v :: w :: v :: w :: st) h
  | .ifCond c off => xm_1i st fun x st => xm_jump pc off fun t => if xm_cond c x 0 = true then go t ls st h else go (pc + 3) ls st h
  | .if_icmp c off => xm_2i st fun x y st => xm_jump pc off fun t => if xm_cond c x y = true then go t ls st h else go (pc + 3) ls st h
  | .goto off => xm_jump pc off fun t => go t ls st h
  | .tableswitch dflt lo hi offs => xm_1i st fun x st =>
    if x.toInt < lo ∨ hi < x.toInt then xm_jump pc dflt fun t => go t ls st h
    else match offs[(x.toInt - lo).toNat]? with
      | some off => xm_jump pc off fun t => go t ls st h
      | none => none
  | .iaload => xm_ri st fun a i st => if (xm_S h a).1 = 1 ∧ a < xm_n h ∧ 0 ≤ i ∧ i.toNatClampNeg < (xm_S h a).2 then go (pc + 1) ls (.int (xm_A h a i.toNatClampNeg) :: st) h else none
  | .laload => xm_ri st fun a i st => if (xm_S h a).1 = 2 ∧ 0 < a ∧ a < xm_n h ∧ 0 ≤ i ∧ i.toNatClampNeg < (xm_S h a).2 then go (pc + 1) ls (.long (xm_L h a i.toNatClampNeg) :: st) h else none
  | .iastore => xm_3i st fun a i x st => if (xm_S h a).1 = 1 ∧ 0 < a ∧ a < xm_n h ∧ 0 ≤ i ∧ i.toNatClampNeg < (xm_S h a).2 then go (pc + 1) ls st (xm_setA h a (va_up (xm_A h a) i.toNatClampNeg x)) else none
  | .lastore => xm_3l st fun a i x st => if (xm_S h a).1 = 2 ∧ 0 < a ∧ a < xm_n h ∧ 0 ≤ i ∧ i.toNatClampNeg < (xm_S h a).2 then go (pc + 1) ls st (xm_setL h a i.toNatClampNeg x) else none
  | .arraylength => xm_1r st fun a st => if 1 ≤ (xm_S h a).1 ∧ (xm_S h a).1 ≤ 2 ∧ a < xm_n h then go (pc + 1) ls (.int (Int32.ofNat (xm_S h a).2) :: st) h else none
  | .getfield k => xm_1r st fun a st => if (xm_S h a).1 = 0 ∧ 0 < a ∧ a < xm_n h then
      match xm_find xt_F (xm_oc mi) k (xm_S h a).2 with
      | some q => go (pc + 3) ls (xm_F h a q.2.1 :: st) h
      | none => none
    else none
  | .putfield k => xm_vr st fun a v st => if (xm_S h a).1 = 0 ∧ 0 < a ∧ a < xm_n h then
      match xm_find xt_F (xm_oc mi) k (xm_S h a).2 with
      | some q => if narrow (xm_ty (xm_S h a).2 q.2.1) v = v ∧ fits (xm_ty (xm_S h a).2 q.2.1) v = true ∧ (xm_fin (xm_S h a).2 q.2.1 = false ∨ ((xm_name mi).name = "<init>" ∧ xm_decl (xm_S h a).2 q.2.1 = (xm_name mi).cls)) then go (pc + 3) ls st (xm_setF h a q.2.1 v) else none
      | none => none
    else none
  | .new k => match xm_find xt_N (xm_oc mi) k 0 with
    | some q => if xm_nc h + 1 = xm_n h ∧ xm_nc h + 1 ≤ 1076 ∧ xm_ns h + xm_N q.1 ≤ 21520 then go (pc + 3) ls (.ref (xm_n h) :: st) (xm_new h (0, q.1) (xm_dflt q.1) (xm_N q.1)) else none
    | none => match xm_find xt_T mi pc 0 with
      | some q => if k = q.2.1 ∧ xm_hand mi = [] ∧ decode (xm_code mi) (pc + 3) = .ok (.dup, 1) ∧ decode (xm_code mi) (pc + 4) = .ok (.ldc q.2.2.1, 2) ∧ decode (xm_code mi) (pc + 6) = .ok (.invokespecial q.2.2.2, 3) ∧ decode (xm_code mi) (pc + 9) = .ok (.athrow, 1) ∧ 7 ≤ d ∧ xm_words st ≤ 8 ∧ xm_nc h + 1 ≤ 1076 ∧ xm_ns h + 6 ≤ 21520 then some (xm_lost h 1 6, .threw q.1) else none
      | none => none
  | .newarray t => xm_1i st fun x st => if xm_nc h + 1 = xm_n h ∧ xm_nc h + 1 ≤ 1076 ∧ 0 ≤ x ∧ x.toNatClampNeg ≤ 4000 ∧ xm_ns h + x.toNatClampNeg ≤ 21520 then
      (match t with
      | .int => go (pc + 2) ls (.ref (xm_n h) :: st) (xm_new h (1, x.toNatClampNeg) (fun _ => .null) x.toNatClampNeg)
      | .long => go (pc + 2) ls (.ref (xm_n h) :: st) (xm_new h (2, x.toNatClampNeg) (fun _ => .null) x.toNatClampNeg)
      | _ => none)
    else none
  | .invokestatic k => match xm_find xt_CS (xm_oc mi) k 0 with
    | some q => if xm_words (st.drop q.2.1) ≤ 8 ∧ q.2.1 ≤ st.length then
        xm_after mi pc go ls (st.drop q.2.1) (ca q.1 (st.take q.2.1).reverse h) else none
    | none => match (xm_find xt_B (xm_oc mi) k 0).map (·.1) with
      | some 0 => xm_1i st fun x st => if xm_words st ≤ 8 ∧ 1 ≤ d then go (pc + 3) ls (.int (if 0 ≤ x then x else 0 - x) :: st) h else none
      | some 1 => xm_2i st fun x y st => if xm_words st ≤ 8 ∧ 1 ≤ d then go (pc + 3) ls (.int (if x < y then y else x) :: st) h else none
      | some 2 => xm_2i st fun x y st => if xm_words st ≤ 8 ∧ 1 ≤ d then go (pc + 3) ls (.int (if y < x then y else x) :: st) h else none
      | some 3 => xm_5 st fun a sp b dp n st => if (xm_words st ≤ 8 ∧ 1 ≤ d) ∧ ((xm_S h a).1 = 1 ∧ 0 < a ∧ a < xm_n h) ∧ ((xm_S h b).1 = 1 ∧ 0 < b ∧ b < xm_n h) ∧ 0 ≤ sp ∧ 0 ≤ dp ∧ 0 ≤ n ∧ sp.toNatClampNeg + n.toNatClampNeg ≤ (xm_S h a).2 ∧ dp.toNatClampNeg + n.toNatClampNeg ≤ (xm_S h b).2 then
            go (pc + 3) ls st (xm_setA h b (va_cpy (xm_A h a) (xm_A h b) sp.toNatClampNeg dp.toNatClampNeg n.toNatClampNeg)) else none
      | _ => none
  | .invokespecial k => match xm_find xt_CI (xm_oc mi) k 0 with
    | some q => if xm_words (st.drop (q.2.1 + 1)) ≤ 8 ∧ q.2.1 + 1 ≤ st.length ∧ xm_isR (st.getD q.2.1 .null) = true then
        xm_after mi pc go ls (st.drop (q.2.1 + 1)) (ca q.1 (st.take (q.2.1 + 1)).reverse h) else none
    | none => match (xm_find xt_B (xm_oc mi) k 0).map (·.1) with
      | some 4 => xm_1r st fun _ st => if xm_words st ≤ 8 ∧ 1 ≤ d then go (pc + 3) ls st h else none
      | _ => none
  | .invokevirtual k => match xm_find xt_V (xm_oc mi) k 0 with
    | some n => if n + 1 ≤ st.length ∧ xm_words (st.drop (n + 1)) ≤ 8 then
        xm_recv (st.getD n .null) fun a => if (xm_S h a).1 = 0 ∧ 0 < a ∧ a < xm_n h then
            (match xm_find xt_CV (xm_oc mi) k (xm_S h a).2 with
            | some q => if q.2.1 = n then xm_after mi pc go ls (st.drop (n + 1)) (ca q.1 (st.take (n + 1)).reverse h) else none
            | none => none)
          else none
      else none
    | none => none
  | .ireturn => xm_1i st fun x st => if st = [] ∧ xm_okr (xm_ret mi) x = true then some (h, .returned (some (.int x))) else none
  | .return_ => if st = [] ∧ xm_ret mi = none then some (h, .returned none) else none
  | _ => none
/-- the machine: n steps at most, d calls deep at most -/
def xm_run : Nat → Nat → Nat → Nat → List Value → List Value → xm_H → xm_R
  | 0, _, _, _, _, _, _ => none
  | n + 1, d, mi, pc, ls, st, h => match decode (xm_code mi) pc with
    | .ok (i, len) => if xm_len i = 0 ∨ xm_len i = len then
        xm_step mi (fun pc ls st h => xm_run n d mi pc ls st h) (fun mj vs h => match d with
          | 0 => none
          | d' + 1 => if (xm_slots vs).length ≤ xm_maxL mj ∧ xm_maxL mj ≤ 14 then xm_run n d' mj 0 (xm_locals vs (xm_maxL mj)) [] h else none) d pc ls st h i
      else none
    | .error _ => none
