section XH
variable {p : Program} {l : Launch} {e : Env} {R : Room} {s : State} {m : MethodId} {args : Array Value} {below : List Frame} {meth : Method} {c : Code}
variable {b L : Nat} {xs : Nat → Int32} {H0 : Heap} {dC : Nat → ClassId} {dI : Nat → Nat → Nat} {cI cJ : ClassId} {mi nc0 ns0 : Nat}
theorem xs_after (C : xs_Ctx p b L xs H0 dC dI cI cJ mi s m args meth c) {go : Nat → List Value → List Value → xm_H → xm_R} {res : xm_H × Outcome} {pc : Nat} {ls stk rest : List Value} {h : xm_H} {ig : Instr} (hd : decode (xm_code mi) pc = .ok (ig, 3))
    (hgo : ∀ pc' ls' st' h', go pc' ls' st' h' = some res → xs_At p l e R s m args below meth c b L xs H0 dC dI cI cJ mi nc0 ns0 res pc' ls' st' h') {res' : xm_H × Outcome} (hs : xm_after mi pc go ls rest (some res') = some res) : xs_Cont p l e R s m args below meth c b L xs H0 dC dI cI cJ mi nc0 ns0 res pc ls stk rest h res' := by
  obtain ⟨h', o⟩ := res'
  cases o with
  | returned v => exact xs_Cont.ret C hd (hgo _ _ _ _ hs)
  | threw ex =>
    change (match xm_catch mi pc ex with
      | some t => match decode (xm_code mi) t with
        | .ok (.astore k, 2) => if k < ls.length then go (t + 2) (xm_put1 ls k .null) [] h' else none
        | .ok (.astore_n k, 1) => if k.val < ls.length then go (t + 1) (xm_put1 ls k .null) [] h' else none
        | _ => none
      | none => none) = some res at hs
    split at hs
    · rename_i t0 hct
      have hex : ex < 3 := by
        obtain ⟨z, hz1, -⟩ := Option.map_eq_some_iff.mp hct
        have hp := List.find?_some hz1
        simp only [Bool.and_eq_true] at hp
        have hg := hp.2.2
        cases hf : xm_find xt_X (xm_oc mi) z.2.2.2 ex with
        | none => rw [hf] at hg; cases hg
        | some v =>
          have hm := xm_find_mem hf
          have hx : xt_X.all (fun q => decide (q.1.2.2 < 3)) = true := by decide +kernel
          have := List.all_eq_true.mp hx _ hm
          simpa using this
      split at hs
      · rename_i k hdk
        split at hs
        · rename_i hk; exact xs_Cont.catch C hex hct (xs_lay C hk hdk (hgo _ _ _ _ hs))
        · cases hs
      · rename_i k hdk
        split at hs
        · rename_i hk; exact xs_Cont.catch C hex hct (xs_lay_n C hk hdk (hgo _ _ _ _ hs))
        · cases hs
      · cases hs
    · cases hs
theorem xs_ln {i : Instr} {len k : Nat} (h : xm_len i = 0 ∨ xm_len i = len) (hk : xm_len i = k + 1) : len = k + 1 := by omega
theorem xs_split {st : List Value} {n a0 : Nat} (hn : n + 1 ≤ st.length) (ha : st.getD n .null = .ref a0) : ∃ vs, (st.take (n + 1)).reverse = .ref a0 :: vs ∧ vs.length = n := by
  refine ⟨(st.take n).reverse, ?_, by rw [List.length_reverse, List.length_take]; omega⟩
  have h1 : st[n]? = some (.ref a0) := by
    rw [List.getD_eq_getElem?_getD] at ha
    rw [List.getElem?_eq_getElem (by omega)] at ha ⊢
    exact congrArg some ha
  rw [List.take_add_one, h1, List.reverse_append]
  rfl
theorem xs_iret (C : xs_Ctx p b L xs H0 dC dI cI cJ mi s m args meth c) {pc : Nat} {ls : List Value} {h : xm_H} {x : Int32} (hd : decode (xm_code mi) pc = .ok (.ireturn, 1)) (hc : xm_okr (xm_ret mi) x = true) : xs_At p l e R s m args below meth c b L xs H0 dC dI cI cJ mi nc0 ns0 (h, .returned (some (.int x))) pc ls [.int x] h := by
  intro H LS locs h1 h2 h3 h4
  cases hr : xm_ret mi with
  | none => rw [hr] at hc; cases hc
  | some t =>
    rw [hr] at hc
    simp only [xm_okr, Bool.and_eq_true, decide_eq_true_eq] at hc
    exact xw_zret C.1 C.2.1 (C.2.2.2.1.trans hr) hc.1 C.2.2.2.2.1 (fun u hu hE => ⟨h1, h2, locs, by rw [hu]; exact h3, hE⟩) hd
theorem xs_vret (C : xs_Ctx p b L xs H0 dC dI cI cJ mi s m args meth c) {pc : Nat} {ls : List Value} {h : xm_H} (hd : decode (xm_code mi) pc = .ok (.return_, 1)) (hc : xm_ret mi = none) : xs_At p l e R s m args below meth c b L xs H0 dC dI cI cJ mi nc0 ns0 (h, .returned none) pc ls [] h := by
  intro H LS locs h1 h2 h3 h4
  exact xw_vret C.1 C.2.1 (C.2.2.2.1.trans hc) C.2.2.2.2.1 (fun u hu hE => ⟨h1, h2, locs, by rw [hu]; exact h3, hE⟩) hd
set_option maxHeartbeats 4000000 in
theorem xs_step (C : xs_Ctx p b L xs H0 dC dI cI cJ mi s m args meth c) {d : Nat} (hR : xs_Room R d nc0 ns0) (hsz : s.heap.size ≤ H0.size + nc0) (htr : e.platform.stackTraces = false) {go : Nat → List Value → List Value → xm_H → xm_R} {ca : Nat → List Value → xm_H → xm_R} {res : xm_H × Outcome} {pc len : Nat} {ls st : List Value} {h : xm_H} {i : Instr}
    (hd : decode (xm_code mi) pc = .ok (i, len)) (hlen : xm_len i = 0 ∨ xm_len i = len)
    (hgo : ∀ pc' ls' st' h', go pc' ls' st' h' = some res → xs_At p l e R s m args below meth c b L xs H0 dC dI cI cJ mi nc0 ns0 res pc' ls' st' h')
    (hca : ∀ mj vs h' res', ca mj vs h' = some res' → ∃ d', d = d' + 1 ∧ (xm_slots vs).length ≤ xm_maxL mj ∧ xm_maxL mj ≤ 14 ∧ xs_Run p l e b L xs H0 dC dI cI cJ mj d' vs h' res')
    (hs : xm_step mi go ca d pc ls st h i = some res) : xs_At p l e R s m args below meth c b L xs H0 dC dI cI cJ mi nc0 ns0 res pc ls st h := by
  cases i with
  | iadd =>
    obtain rfl : len = 1 := xs_ln hlen rfl
    dsimp only [xm_step] at hs
    obtain ⟨x, y, t, rfl, hs1⟩ := xi_2i hs
    exact xs_iadd C hd (hgo _ _ _ _ hs1)
  | isub =>
    obtain rfl : len = 1 := xs_ln hlen rfl
    dsimp only [xm_step] at hs
    obtain ⟨x, y, t, rfl, hs1⟩ := xi_2i hs
    exact xs_isub C hd (hgo _ _ _ _ hs1)
  | imul =>
    obtain rfl : len = 1 := xs_ln hlen rfl
    dsimp only [xm_step] at hs
    obtain ⟨x, y, t, rfl, hs1⟩ := xi_2i hs
    exact xs_imul C hd (hgo _ _ _ _ hs1)
  | iand =>
    obtain rfl : len = 1 := xs_ln hlen rfl
    dsimp only [xm_step] at hs
    obtain ⟨x, y, t, rfl, hs1⟩ := xi_2i hs
    exact xs_iand C hd (hgo _ _ _ _ hs1)
  | ior =>
    obtain rfl : len = 1 := xs_ln hlen rfl
    dsimp only [xm_step] at hs
    obtain ⟨x, y, t, rfl, hs1⟩ := xi_2i hs
    exact xs_ior C hd (hgo _ _ _ _ hs1)
  | ixor =>
    obtain rfl : len = 1 := xs_ln hlen rfl
    dsimp only [xm_step] at hs
    obtain ⟨x, y, t, rfl, hs1⟩ := xi_2i hs
    exact xs_ixor C hd (hgo _ _ _ _ hs1)
  | ishl =>
    obtain rfl : len = 1 := xs_ln hlen rfl
    dsimp only [xm_step] at hs
    obtain ⟨x, y, t, rfl, hs1⟩ := xi_2i hs
    exact xs_ishl C hd (hgo _ _ _ _ hs1)
  | ishr =>
    obtain rfl : len = 1 := xs_ln hlen rfl
    dsimp only [xm_step] at hs
    obtain ⟨x, y, t, rfl, hs1⟩ := xi_2i hs
    exact xs_ishr C hd (hgo _ _ _ _ hs1)
  | idiv =>
    obtain rfl : len = 1 := xs_ln hlen rfl
    dsimp only [xm_step] at hs
    obtain ⟨x, y, t, rfl, hs1⟩ := xi_2i hs
    by_cases hy : y = 0
    · rw [if_pos hy] at hs1; cases hs1
    · rw [if_neg hy] at hs1; exact xs_idiv C hy hd (hgo _ _ _ _ hs1)
  | irem =>
    obtain rfl : len = 1 := xs_ln hlen rfl
    dsimp only [xm_step] at hs
    obtain ⟨x, y, t, rfl, hs1⟩ := xi_2i hs
    by_cases hy : y = 0
    · rw [if_pos hy] at hs1; cases hs1
    · rw [if_neg hy] at hs1; exact xs_irem C hy hd (hgo _ _ _ _ hs1)
  | ineg =>
    obtain rfl : len = 1 := xs_ln hlen rfl
    dsimp only [xm_step] at hs
    obtain ⟨x, t, rfl, hs1⟩ := xi_1i hs
    exact xs_ineg C hd (hgo _ _ _ _ hs1)
  | i2l =>
    obtain rfl : len = 1 := xs_ln hlen rfl
    dsimp only [xm_step] at hs
    obtain ⟨x, t, rfl, hs1⟩ := xi_1i hs
    exact xs_i2l C hd (hgo _ _ _ _ hs1)
  | l2i =>
    obtain rfl : len = 1 := xs_ln hlen rfl
    dsimp only [xm_step] at hs
    obtain ⟨x, t, rfl, hs1⟩ := xi_1l hs
    exact xs_l2i C hd (hgo _ _ _ _ hs1)
  | land =>
    obtain rfl : len = 1 := xs_ln hlen rfl
    dsimp only [xm_step] at hs
    obtain ⟨x, y, t, rfl, hs1⟩ := xi_2l hs
    exact xs_land C hd (hgo _ _ _ _ hs1)
  | lor =>
    obtain rfl : len = 1 := xs_ln hlen rfl
    dsimp only [xm_step] at hs
    obtain ⟨x, y, t, rfl, hs1⟩ := xi_2l hs
    exact xs_lor C hd (hgo _ _ _ _ hs1)
  | lcmp =>
    obtain rfl : len = 1 := xs_ln hlen rfl
    dsimp only [xm_step] at hs
    obtain ⟨x, y, t, rfl, hs1⟩ := xi_2l hs
    exact xs_lcmp C hd (hgo _ _ _ _ hs1)
  | lshl =>
    obtain rfl : len = 1 := xs_ln hlen rfl
    dsimp only [xm_step] at hs
    obtain ⟨x, y, t, rfl, hs1⟩ := xi_il hs
    exact xs_lshl C hd (hgo _ _ _ _ hs1)
  | lshr =>
    obtain rfl : len = 1 := xs_ln hlen rfl
    dsimp only [xm_step] at hs
    obtain ⟨x, y, t, rfl, hs1⟩ := xi_il hs
    exact xs_lshr C hd (hgo _ _ _ _ hs1)
  | iconst n =>
    obtain rfl : len = 1 := xs_ln hlen rfl
    dsimp only [xm_step] at hs
    exact xs_iconst C hd (hgo _ _ _ _ hs)
  | bipush n =>
    obtain rfl : len = 2 := xs_ln hlen rfl
    dsimp only [xm_step] at hs
    exact xs_bipush C hd (hgo _ _ _ _ hs)
  | sipush n =>
    obtain rfl : len = 3 := xs_ln hlen rfl
    dsimp only [xm_step] at hs
    exact xs_sipush C hd (hgo _ _ _ _ hs)
  | dup =>
    obtain rfl : len = 1 := xs_ln hlen rfl
    dsimp only [xm_step] at hs
    obtain ⟨v, t, rfl, hv, hs1⟩ := xi_1v hs
    exact xs_dup C hv hd (hgo _ _ _ _ hs1)
  | pop =>
    obtain rfl : len = 1 := xs_ln hlen rfl
    dsimp only [xm_step] at hs
    obtain ⟨v, t, rfl, hv, hs1⟩ := xi_1v hs
    exact xs_pop C hv hd (hgo _ _ _ _ hs1)
  | dup_x1 =>
    obtain rfl : len = 1 := xs_ln hlen rfl
    dsimp only [xm_step] at hs
    obtain ⟨v, w, t, rfl, hv, hw, hs1⟩ := xi_2v hs
    exact xs_dup_x1 C hv hw hd (hgo _ _ _ _ hs1)
  | dup2 =>
    obtain rfl : len = 1 := xs_ln hlen rfl
    dsimp only [xm_step] at hs
    obtain ⟨v, w, t, rfl, hv, hw, hs1⟩ := xi_2v hs
    exact xs_dup2 C hv hw hd (hgo _ _ _ _ hs1)
  | goto off =>
    obtain rfl : len = 3 := xs_ln hlen rfl
    dsimp only [xm_step] at hs
    obtain ⟨t, ht, hs1⟩ := xi_jump hs
    exact xs_goto C ht hd (hgo _ _ _ _ hs1)
  | iload j =>
    obtain rfl : len = 2 := xs_ln hlen rfl
    dsimp only [xm_step] at hs
    obtain ⟨h0, hs1⟩ := xi_ld hs
    obtain ⟨x, hx⟩ := xi_isI h0
    rw [hx] at hs1
    exact xs_iload C hx hd (hgo _ _ _ _ hs1)
  | iload_n j =>
    obtain rfl : len = 1 := xs_ln hlen rfl
    dsimp only [xm_step] at hs
    obtain ⟨h0, hs1⟩ := xi_ld hs
    obtain ⟨x, hx⟩ := xi_isI h0
    rw [hx] at hs1
    exact xs_iload_n C hx hd (hgo _ _ _ _ hs1)
  | lload j =>
    obtain rfl : len = 2 := xs_ln hlen rfl
    dsimp only [xm_step] at hs
    obtain ⟨h0, hs1⟩ := xi_ld hs
    obtain ⟨x, hx⟩ := xi_isL h0
    rw [hx] at hs1
    exact xs_lload C hx hd (hgo _ _ _ _ hs1)
  | lload_n j =>
    obtain rfl : len = 1 := xs_ln hlen rfl
    dsimp only [xm_step] at hs
    obtain ⟨h0, hs1⟩ := xi_ld hs
    obtain ⟨x, hx⟩ := xi_isL h0
    rw [hx] at hs1
    exact xs_lload_n C hx hd (hgo _ _ _ _ hs1)
  | aload j =>
    obtain rfl : len = 2 := xs_ln hlen rfl
    dsimp only [xm_step] at hs
    obtain ⟨h0, hs1⟩ := xi_ld hs
    obtain ⟨x, hx⟩ := xi_isR h0
    rw [hx] at hs1
    exact xs_aload C hx hd (hgo _ _ _ _ hs1)
  | aload_n j =>
    obtain rfl : len = 1 := xs_ln hlen rfl
    dsimp only [xm_step] at hs
    obtain ⟨h0, hs1⟩ := xi_ld hs
    obtain ⟨x, hx⟩ := xi_isR h0
    rw [hx] at hs1
    exact xs_aload_n C hx hd (hgo _ _ _ _ hs1)
  | istore j =>
    obtain rfl : len = 2 := xs_ln hlen rfl
    dsimp only [xm_step] at hs
    obtain ⟨v, t, rfl, h0, hj, hs1⟩ := xi_st1 hs
    obtain ⟨x, rfl⟩ := xi_isI h0
    exact xs_istore C hj hd (hgo _ _ _ _ hs1)
  | istore_n j =>
    obtain rfl : len = 1 := xs_ln hlen rfl
    dsimp only [xm_step] at hs
    obtain ⟨v, t, rfl, h0, hj, hs1⟩ := xi_st1 hs
    obtain ⟨x, rfl⟩ := xi_isI h0
    exact xs_istore_n C hj hd (hgo _ _ _ _ hs1)
  | astore j =>
    obtain rfl : len = 2 := xs_ln hlen rfl
    dsimp only [xm_step] at hs
    obtain ⟨v, t, rfl, h0, hj, hs1⟩ := xi_st1 hs
    obtain ⟨x, rfl⟩ := xi_isR h0
    exact xs_astore C hj hd (hgo _ _ _ _ hs1)
  | astore_n j =>
    obtain rfl : len = 1 := xs_ln hlen rfl
    dsimp only [xm_step] at hs
    obtain ⟨v, t, rfl, h0, hj, hs1⟩ := xi_st1 hs
    obtain ⟨x, rfl⟩ := xi_isR h0
    exact xs_astore_n C hj hd (hgo _ _ _ _ hs1)
  | lstore j =>
    obtain rfl : len = 2 := xs_ln hlen rfl
    dsimp only [xm_step] at hs
    obtain ⟨v, t, rfl, hj, hs1⟩ := xi_st2 hs
    exact xs_lstore C hj hd (hgo _ _ _ _ hs1)
  | lstore_n j =>
    obtain rfl : len = 1 := xs_ln hlen rfl
    dsimp only [xm_step] at hs
    obtain ⟨v, t, rfl, hj, hs1⟩ := xi_st2 hs
    exact xs_lstore_n C hj hd (hgo _ _ _ _ hs1)
  | iinc j n =>
    obtain rfl : len = 3 := xs_ln hlen rfl
    dsimp only [xm_step] at hs
    change (match xm_get ls j with | .int x => go (pc + 3) (xm_put1 ls j (.int (x + Int32.ofInt n))) st h | _ => none) = some res at hs
    split at hs
    · rename_i x hx; exact xs_iinc C hx hd (hgo _ _ _ _ hs)
    · cases hs
  | ifCond cd off =>
    obtain rfl : len = 3 := xs_ln hlen rfl
    dsimp only [xm_step] at hs
    obtain ⟨x, t, rfl, hs1⟩ := xi_1i hs
    obtain ⟨tg, ht, hs2⟩ := xi_jump hs1
    cases cd with
    | eq => exact xs_if_eq C hd ht (fun q => hgo _ _ _ _ (by rw [if_pos (by simpa [xm_cond] using q)] at hs2; exact hs2)) (fun q => hgo _ _ _ _ (by rw [if_neg (by simpa [xm_cond] using q)] at hs2; exact hs2))
    | ne => exact xs_if_ne C hd ht (fun q => hgo _ _ _ _ (by rw [if_pos (by simpa [xm_cond] using q)] at hs2; exact hs2)) (fun q => hgo _ _ _ _ (by rw [if_neg (by simpa [xm_cond] using q)] at hs2; exact hs2))
    | lt => exact xs_if_lt C hd ht (fun q => hgo _ _ _ _ (by rw [if_pos (by simpa [xm_cond] using q)] at hs2; exact hs2)) (fun q => hgo _ _ _ _ (by rw [if_neg (by simpa [xm_cond] using q)] at hs2; exact hs2))
    | ge => exact xs_if_ge C hd ht (fun q => hgo _ _ _ _ (by rw [if_pos (by simpa [xm_cond] using q)] at hs2; exact hs2)) (fun q => hgo _ _ _ _ (by rw [if_neg (by simpa [xm_cond] using q)] at hs2; exact hs2))
    | gt => exact xs_if_gt C hd ht (fun q => hgo _ _ _ _ (by rw [if_pos (by simpa [xm_cond] using q)] at hs2; exact hs2)) (fun q => hgo _ _ _ _ (by rw [if_neg (by simpa [xm_cond] using q)] at hs2; exact hs2))
    | le => exact xs_if_le C hd ht (fun q => hgo _ _ _ _ (by rw [if_pos (by simpa [xm_cond] using q)] at hs2; exact hs2)) (fun q => hgo _ _ _ _ (by rw [if_neg (by simpa [xm_cond] using q)] at hs2; exact hs2))
  | if_icmp cd off =>
    obtain rfl : len = 3 := xs_ln hlen rfl
    dsimp only [xm_step] at hs
    obtain ⟨x, y, t, rfl, hs1⟩ := xi_2i hs
    obtain ⟨tg, ht, hs2⟩ := xi_jump hs1
    cases cd with
    | eq => exact xs_icmp_eq C hd ht (fun q => hgo _ _ _ _ (by rw [if_pos (by simpa [xm_cond] using q)] at hs2; exact hs2)) (fun q => hgo _ _ _ _ (by rw [if_neg (by simpa [xm_cond] using q)] at hs2; exact hs2))
    | ne => exact xs_icmp_ne C hd ht (fun q => hgo _ _ _ _ (by rw [if_pos (by simpa [xm_cond] using q)] at hs2; exact hs2)) (fun q => hgo _ _ _ _ (by rw [if_neg (by simpa [xm_cond] using q)] at hs2; exact hs2))
    | lt => exact xs_icmp_lt C hd ht (fun q => hgo _ _ _ _ (by rw [if_pos (by simpa [xm_cond] using q)] at hs2; exact hs2)) (fun q => hgo _ _ _ _ (by rw [if_neg (by simpa [xm_cond] using q)] at hs2; exact hs2))
    | ge => exact xs_icmp_ge C hd ht (fun q => hgo _ _ _ _ (by rw [if_pos (by simpa [xm_cond] using q)] at hs2; exact hs2)) (fun q => hgo _ _ _ _ (by rw [if_neg (by simpa [xm_cond] using q)] at hs2; exact hs2))
    | gt => exact xs_icmp_gt C hd ht (fun q => hgo _ _ _ _ (by rw [if_pos (by simpa [xm_cond] using q)] at hs2; exact hs2)) (fun q => hgo _ _ _ _ (by rw [if_neg (by simpa [xm_cond] using q)] at hs2; exact hs2))
    | le => exact xs_icmp_le C hd ht (fun q => hgo _ _ _ _ (by rw [if_pos (by simpa [xm_cond] using q)] at hs2; exact hs2)) (fun q => hgo _ _ _ _ (by rw [if_neg (by simpa [xm_cond] using q)] at hs2; exact hs2))
  | tableswitch dflt lo hi offs =>
    dsimp only [xm_step] at hs
    obtain ⟨x, t, rfl, hs1⟩ := xi_1i hs
    split at hs1
    · rename_i hx
      obtain ⟨tg, ht, hs2⟩ := xi_jump hs1
      exact xs_tabOut C hx ht hd (hgo _ _ _ _ hs2)
    · rename_i hx
      split at hs1
      · rename_i off ho
        obtain ⟨tg, ht, hs3⟩ := xi_jump hs1
        exact xs_tabIn C (fun q => hx (Or.inl q)) (fun q => hx (Or.inr q)) ho ht hd (hgo _ _ _ _ hs3)
      · cases hs1
  | iaload =>
    obtain rfl : len = 1 := xs_ln hlen rfl
    dsimp only [xm_step] at hs
    obtain ⟨a, i, t, rfl, hs1⟩ := xi_ri hs
    split at hs1
    · rename_i hc; exact xs_iald C hc.1 hc.2.1 hc.2.2.1 hc.2.2.2 hd (hgo _ _ _ _ hs1)
    · cases hs1
  | laload =>
    obtain rfl : len = 1 := xs_ln hlen rfl
    dsimp only [xm_step] at hs
    obtain ⟨a, i, t, rfl, hs1⟩ := xi_ri hs
    split at hs1
    · rename_i hc
      obtain ⟨q, rfl⟩ : ∃ q, a = q + 1 := ⟨a - 1, (Nat.sub_add_cancel hc.2.1).symm⟩
      exact xs_lald C hc.1 hc.2.2.1 hc.2.2.2.1 hc.2.2.2.2 hd (hgo _ _ _ _ hs1)
    · cases hs1
  | iastore =>
    obtain rfl : len = 1 := xs_ln hlen rfl
    dsimp only [xm_step] at hs
    obtain ⟨a, i, x, t, rfl, hs1⟩ := xi_3i hs
    split at hs1
    · rename_i hc
      obtain ⟨q, rfl⟩ : ∃ q, a = q + 1 := ⟨a - 1, (Nat.sub_add_cancel hc.2.1).symm⟩
      exact xs_iast C hc.1 hc.2.2.1 hc.2.2.2.1 hc.2.2.2.2 hd (hgo _ _ _ _ hs1)
    · cases hs1
  | lastore =>
    obtain rfl : len = 1 := xs_ln hlen rfl
    dsimp only [xm_step] at hs
    obtain ⟨a, i, x, t, rfl, hs1⟩ := xi_3l hs
    split at hs1
    · rename_i hc
      obtain ⟨q, rfl⟩ : ∃ q, a = q + 1 := ⟨a - 1, (Nat.sub_add_cancel hc.2.1).symm⟩
      exact xs_last C hc.1 hc.2.2.1 hc.2.2.2.1 hc.2.2.2.2 hd (hgo _ _ _ _ hs1)
    · cases hs1
  | arraylength =>
    obtain rfl : len = 1 := xs_ln hlen rfl
    dsimp only [xm_step] at hs
    obtain ⟨a, t, rfl, hs1⟩ := xi_1r hs
    split at hs1
    · rename_i hc; exact xs_alen C hc.1 hc.2.1 hc.2.2 hd (hgo _ _ _ _ hs1)
    · cases hs1
  | getfield k =>
    obtain rfl : len = 3 := xs_ln hlen rfl
    dsimp only [xm_step] at hs
    obtain ⟨a, t, rfl, hs1⟩ := xi_1r hs
    split at hs1
    · rename_i hc
      obtain ⟨q, rfl⟩ : ∃ q, a = q + 1 := ⟨a - 1, (Nat.sub_add_cancel hc.2.1).symm⟩
      have hsh : xm_S h (q + 1) = (0, (xm_S h (q + 1)).2) := Prod.ext hc.1 rfl
      split at hs1
      · rename_i r hf; exact xs_getf C hsh hc.2.2 hf hd (hgo _ _ _ _ hs1)
      · cases hs1
    · cases hs1
  | putfield k =>
    obtain rfl : len = 3 := xs_ln hlen rfl
    dsimp only [xm_step] at hs
    obtain ⟨a, v, t, rfl, hs1⟩ := xi_vr hs
    split at hs1
    · rename_i hc
      obtain ⟨q, rfl⟩ : ∃ q, a = q + 1 := ⟨a - 1, (Nat.sub_add_cancel hc.2.1).symm⟩
      have hsh : xm_S h (q + 1) = (0, (xm_S h (q + 1)).2) := Prod.ext hc.1 rfl
      split at hs1
      · rename_i r hf
        split at hs1
        · rename_i h5; exact xs_putf C hsh hc.2.2 hf h5.1 h5.2.1 h5.2.2 hd (hgo _ _ _ _ hs1)
        · cases hs1
      · cases hs1
    · cases hs1
  | ldc k =>
    obtain rfl : len = 2 := xs_ln hlen rfl
    dsimp only [xm_step] at hs
    change (match xm_find xt_I (xm_oc mi) k 0 with | some v => go (pc + 2) ls (.int v.1 :: st) h | none => none) = some res at hs
    split at hs
    · rename_i v hf; exact xs_ldc C hf hd (hgo _ _ _ _ hs)
    · cases hs
  | ldc2_w k =>
    obtain rfl : len = 3 := xs_ln hlen rfl
    dsimp only [xm_step] at hs
    change (match xm_find xt_J (xm_oc mi) k 0 with | some v => go (pc + 3) ls (.long v.1 :: st) h | none => none) = some res at hs
    split at hs
    · rename_i v hf; exact xs_ldc2 C hf hd (hgo _ _ _ _ hs)
    · cases hs
  | newarray ty =>
    obtain rfl : len = 2 := xs_ln hlen rfl
    dsimp only [xm_step] at hs
    obtain ⟨x, t, rfl, hs1⟩ := xi_1i hs
    split at hs1
    · rename_i hc
      cases ty with
      | int => exact xs_newi C hR hsz hc.1 hc.2.1 hc.2.2.1 hc.2.2.2.1 hc.2.2.2.2 hd (hgo _ _ _ _ hs1)
      | long => exact xs_newl C hR hsz hc.1 hc.2.1 hc.2.2.1 hc.2.2.2.1 hc.2.2.2.2 hd (hgo _ _ _ _ hs1)
      | _ => cases hs1
    · cases hs1
  | ldc_w k =>
    obtain rfl : len = 3 := xs_ln hlen rfl
    dsimp only [xm_step] at hs
    change (match xm_find xt_I (xm_oc mi) k 0 with | some v => go (pc + 3) ls (.int v.1 :: st) h | none => none) = some res at hs
    split at hs
    · rename_i v hf; exact xs_ldc_w C hf hd (hgo _ _ _ _ hs)
    · cases hs
  | new k =>
    obtain rfl : len = 3 := xs_ln hlen rfl
    simp only [xm_step] at hs
    split at hs
    · rename_i q hf
      split at hs
      · rename_i hc; exact xs_new C hR hsz hc.1 hc.2.1 hc.2.2 hf hd (hgo _ _ _ _ hs)
      · cases hs
    · split at hs
      · rename_i q hf
        split at hs
        · rename_i hc
          cases hs
          exact xs_throw C hR htr hf hc.1 hc.2.1 hd hc.2.2.1 hc.2.2.2.1 hc.2.2.2.2.1 hc.2.2.2.2.2.1 hc.2.2.2.2.2.2.1 hc.2.2.2.2.2.2.2.1 hc.2.2.2.2.2.2.2.2.1 hc.2.2.2.2.2.2.2.2.2
        · cases hs
      · cases hs
  | invokestatic k =>
    obtain rfl : len = 3 := xs_ln hlen rfl
    simp only [xm_step] at hs
    split at hs
    · rename_i q hf
      obtain ⟨mj, n, nest, j, js⟩ := q
      dsimp only at hs
      split at hs
      · rename_i hc
        cases hr : ca mj (st.take n).reverse h with
        | none => rw [hr] at hs; cases hs
        | some res' =>
          rw [hr] at hs
          obtain ⟨d', rfl, hsl, hml, hrun⟩ := hca _ _ _ _ hr
          have hst : st = ((st.take n).reverse).reverse ++ st.drop n := by rw [List.reverse_reverse, List.take_append_drop]
          have hln : (st.take n).reverse.length = n := by rw [List.length_reverse, List.length_take]; omega
          have hk := xs_callS C hR hsz (vs := (st.take n).reverse) (rest := st.drop n) (by rw [hln]; exact hf) hc.1 hsl hml hd hrun (xs_after C hd hgo hs)
          rw [← hst] at hk
          exact hk
      · cases hs
    · split at hs
      · rename_i hf; obtain ⟨x, t, rfl, hs1⟩ := xi_1i hs; split at hs1
        · rename_i hc; exact xs_mabs C hR hc.1 hc.2 hf hd (hgo _ _ _ _ hs1)
        · cases hs1
      · rename_i hf; obtain ⟨x, y, t, rfl, hs2⟩ := xi_2i hs; split at hs2
        · rename_i hc; exact xs_mmax C hR hc.1 hc.2 hf hd (hgo _ _ _ _ hs2)
        · cases hs2
      · rename_i hf; obtain ⟨x, y, t, rfl, hs3⟩ := xi_2i hs; split at hs3
        · rename_i hc; exact xs_mmin C hR hc.1 hc.2 hf hd (hgo _ _ _ _ hs3)
        · cases hs3
      · rename_i hf; obtain ⟨a, sp, b2, dp, n, t, rfl, hs4⟩ := xi_5 hs; split at hs4
        · rename_i hc
          obtain ⟨⟨w1, w2⟩, ⟨a1, a2, a3⟩, ⟨b1, b2', b3⟩, p1, p2, p3, p4, p5⟩ := hc
          obtain ⟨q0, rfl⟩ : ∃ q, a = q + 1 := ⟨a - 1, (Nat.sub_add_cancel a2).symm⟩
          obtain ⟨q1, rfl⟩ : ∃ q, b2 = q + 1 := ⟨b2 - 1, (Nat.sub_add_cancel b2').symm⟩
          exact xs_copy C hR w1 w2 a1 a3 b1 b3 p1 p2 p3 p4 p5 hf hd (hgo _ _ _ _ hs4)
        · cases hs4
      · cases hs
  | invokespecial k =>
    obtain rfl : len = 3 := xs_ln hlen rfl
    simp only [xm_step] at hs
    split at hs
    · rename_i q hf
      obtain ⟨mj, n, nest, j, js⟩ := q
      dsimp only at hs
      split at hs
      · rename_i hc
        cases hr : ca mj (st.take (n + 1)).reverse h with
        | none => rw [hr] at hs; cases hs
        | some res' =>
          rw [hr] at hs
          obtain ⟨d', rfl, hsl, hml, hrun⟩ := hca _ _ _ _ hr
          obtain ⟨a0, ha0⟩ := xi_isR hc.2.2
          obtain ⟨vs, hvs, hvl⟩ := xs_split hc.2.1 ha0
          rw [hvs] at hsl hrun
          have hst : st = (Value.ref a0 :: vs).reverse ++ st.drop (n + 1) := by rw [← hvs, List.reverse_reverse, List.take_append_drop]
          have hk := xs_callI C hR hsz (a0 := a0) (vs := vs) (rest := st.drop (n + 1)) (by rw [hvl]; exact hf) hc.1 hsl hml hd hrun (xs_after C hd hgo hs)
          rw [← hst] at hk
          exact hk
      · cases hs
    · split at hs
      · rename_i hf; obtain ⟨x, t, rfl, hs1⟩ := xi_1r hs; split at hs1
        · rename_i hc; exact xs_oinit C hR hc.1 hc.2 hf hd (hgo _ _ _ _ hs1)
        · cases hs1
      · cases hs
  | invokevirtual k =>
    obtain rfl : len = 3 := xs_ln hlen rfl
    simp only [xm_step] at hs
    split at hs
    · rename_i n hfn
      split at hs
      · rename_i hc
        obtain ⟨a, ha0, hs1⟩ := xi_recv hs
        split at hs1
        · rename_i ho
          obtain ⟨q0, rfl⟩ : ∃ q, a = q + 1 := ⟨a - 1, (Nat.sub_add_cancel ho.2.1).symm⟩
          have hsh : xm_S h (q0 + 1) = (0, (xm_S h (q0 + 1)).2) := Prod.ext ho.1 rfl
          split at hs1
          · rename_i q hf
            obtain ⟨mj, n2, r, j1, j2, j3, j4, j5⟩ := q
            dsimp only at hs1
            split at hs1
            · rename_i hn2; subst hn2
              cases hr : ca mj (st.take (n2 + 1)).reverse h with
              | none => rw [hr] at hs1; cases hs1
              | some res' =>
                rw [hr] at hs1
                obtain ⟨d', rfl, hsl, hml, hrun⟩ := hca _ _ _ _ hr
                obtain ⟨vs, hvs, hvl⟩ := xs_split hc.1 ha0
                rw [hvs] at hsl hrun
                have hst : st = (Value.ref (q0 + 1) :: vs).reverse ++ st.drop (n2 + 1) := by rw [← hvs, List.reverse_reverse, List.take_append_drop]
                have hk := xs_callV C hR hsz (q0 := q0) (vs := vs) (rest := st.drop (n2 + 1)) hsh ho.2.2 (by rw [hvl]; exact hf) hc.2 hsl hml hd hrun (xs_after C hd hgo hs1)
                rw [← hst] at hk
                exact hk
            · cases hs1
          · cases hs1
        · cases hs1
      · cases hs
    · cases hs
  | ireturn =>
    obtain rfl : len = 1 := xs_ln hlen rfl
    dsimp only [xm_step] at hs
    obtain ⟨x, t, rfl, hs1⟩ := xi_1i hs
    split at hs1
    · rename_i hc
      obtain ⟨rfl, hc⟩ := hc
      cases hs1
      exact xs_iret C hd hc
    · cases hs1
  | return_ =>
    obtain rfl : len = 1 := xs_ln hlen rfl
    dsimp only [xm_step] at hs
    change (if st = [] ∧ xm_ret mi = none then some (h, Outcome.returned none) else none) = some res at hs
    split at hs
    · rename_i hc
      obtain ⟨rfl, hc⟩ := hc
      cases hs
      exact xs_vret C hd hc
    · cases hs
  | _ => cases hs
theorem xs_sound (htr : e.platform.stackTraces = false) : ∀ (n d mi pc : Nat) (ls st : List Value) (h : xm_H) (res : xm_H × Outcome), xm_run n d mi pc ls st h = some res →
    ∀ (R : Room) (s : State) (m : MethodId) (args : Array Value) (below : List Frame) (meth : Method) (c : Code) (nc0 ns0 : Nat), xs_Ctx p b L xs H0 dC dI cI cJ mi s m args meth c → xs_Room R d nc0 ns0 → s.heap.size ≤ H0.size + nc0 → xs_At p l e R s m args below meth c b L xs H0 dC dI cI cJ mi nc0 ns0 res pc ls st h
  | 0, _, _, _, _, _, _, _, hs => by cases hs
  | n + 1, d, mi, pc, ls, st, h, res, hs => by
    intro R s m args below meth c nc0 ns0 C hR hsz
    unfold xm_run at hs
    split at hs
    · rename_i i len hd
      split at hs
      · rename_i hlen
        refine xs_step C hR hsz htr hd hlen (fun pc' ls' st' h' hg => xs_sound htr n d mi pc' ls' st' h' res hg R s m args below meth c nc0 ns0 C hR hsz) (fun mj vs h' res' hc => ?_) hs
        cases d with
        | zero => cases hc
        | succ d' =>
          dsimp only at hc
          split at hc
          · rename_i hk
            exact ⟨d', rfl, hk.1, hk.2, fun R2 s2 m2 args2 below2 meth2 c2 C2 hR2 hsz2 => xs_sound htr n d' mj 0 _ [] h' res' hc R2 s2 m2 args2 below2 meth2 c2 _ _ C2 hR2 hsz2⟩
          · cases hc
      · cases hs
    · cases hs
end XH
