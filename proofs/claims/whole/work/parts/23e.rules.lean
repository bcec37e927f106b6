/-! the rules, place by place (by program: wip/whole/gen23.py) -/
section XR23
variable {d : Nat} {Q : xm_H × Outcome → Prop} {h : xm_H} {st ls : List Value} {f : Nat → Nat → Int} {a : Nat → Int → Int} {g : xG} {x y z : Int} {v w : Int32} {vl wl : Int64} {ov ow : Nat} {l0 l1 l2 l3 l4 l5 l6 l7 l8 l9 l10 l11 l12 l13 : Value}
-- M_readBlock
theorem r149_0 : xT d 149 0 (.ref ov :: ls) (st) h Q ↔ xT d 149 1 (.ref ov :: ls) (.ref ov :: st) h Q := xT_aload_n (k := 0) (by decide +kernel) rfl rfl
theorem r149_1 : xT d 149 1 (.ref ov :: ls) (st) h Q ↔ xT d 149 2 (.ref ov :: ls) (.ref ov :: st) h Q := xT_aload_n (k := 0) (by decide +kernel) rfl rfl
theorem r149_2 : xT d 149 2 (ls) (.ref 21 :: st) (hh f a g) Q ↔ xT d 149 5 (ls) (.int (xI (f 21 9)) :: st) (hh f a g) Q := xT_getf (k := 263) (ci := 8) (fi := 9) (by decide +kernel) rfl rfl ⟨Nat.le_of_ble_eq_true rfl, Nat.le_of_ble_eq_true rfl⟩ (by decide +kernel) rfl
theorem r149_5 : xT d 149 5 (ls) (.int (xI x) :: .ref 21 :: st) (hh f a g) Q ↔ xT d 149 8 (ls) (st) (hh (xu f 21 20 x) a g) Q := xT_putf (k := 71) (ci := 8) (fi := 20) (by decide +kernel) rfl rfl ⟨Nat.le_of_ble_eq_true rfl, Nat.le_of_ble_eq_true rfl⟩ (by decide +kernel) (by decide +kernel) (by decide +kernel) rfl
theorem r149_8 : xT d 149 8 (.ref ov :: ls) (st) h Q ↔ xT d 149 9 (.ref ov :: ls) (.ref ov :: st) h Q := xT_aload_n (k := 0) (by decide +kernel) rfl rfl
theorem r149_9 : xT d 149 9 (.ref ov :: ls) (st) h Q ↔ xT d 149 10 (.ref ov :: ls) (.ref ov :: st) h Q := xT_aload_n (k := 0) (by decide +kernel) rfl rfl
theorem r149_10 : xT d 149 10 (ls) (.ref 21 :: st) (hh f a g) Q ↔ xT d 149 13 (ls) (.int (xI (f 21 10)) :: st) (hh f a g) Q := xT_getf (k := 266) (ci := 8) (fi := 10) (by decide +kernel) rfl rfl ⟨Nat.le_of_ble_eq_true rfl, Nat.le_of_ble_eq_true rfl⟩ (by decide +kernel) rfl
theorem r149_13 : xT d 149 13 (ls) (.int (xI x) :: .ref 21 :: st) (hh f a g) Q ↔ xT d 149 16 (ls) (st) (hh (xu f 21 21 x) a g) Q := xT_putf (k := 214) (ci := 8) (fi := 21) (by decide +kernel) rfl rfl ⟨Nat.le_of_ble_eq_true rfl, Nat.le_of_ble_eq_true rfl⟩ (by decide +kernel) (by decide +kernel) (by decide +kernel) rfl
theorem r149_16 : xT d 149 16 (ls) (st) h Q ↔ xT d 149 17 (ls) (.int (xI 0) :: st) h Q := xT_iconst (n := 0) (by decide +kernel) rfl
theorem r149_17 : xT d 149 17 ([l0, .int w, l2, l3, l4, l5]) (.int v :: st) h Q ↔ xT d 149 18 ([l0, .int w, .int v, l3, l4, l5]) (st) h Q := xT_istore_n (k := 2) (by decide +kernel) rfl (Nat.le_of_ble_eq_true rfl) rfl
theorem r149_18 : xT d 149 18 (l0 :: l1 :: .int v :: ls) (st) h Q ↔ xT d 149 19 (l0 :: l1 :: .int v :: ls) (.int v :: st) h Q := xT_iload_n (k := 2) (by decide +kernel) rfl rfl
theorem r149_19 : xT d 149 19 (.ref ov :: ls) (st) h Q ↔ xT d 149 20 (.ref ov :: ls) (.ref ov :: st) h Q := xT_aload_n (k := 0) (by decide +kernel) rfl rfl
theorem r149_20 : xT d 149 20 (ls) (.ref 21 :: st) (hh f a g) Q ↔ xT d 149 23 (ls) (.int (xI (f 21 18)) :: st) (hh f a g) Q := xT_getf (k := 220) (ci := 8) (fi := 18) (by decide +kernel) rfl rfl ⟨Nat.le_of_ble_eq_true rfl, Nat.le_of_ble_eq_true rfl⟩ (by decide +kernel) rfl
theorem r149_23 (x0 : -2147483648 ≤ x) (x1 : x ≤ 2147483647) (y0 : -2147483648 ≤ y) (y1 : y ≤ 2147483647) : xT d 149 23 (ls) (.int (xI y) :: .int (xI x) :: st) h Q ↔ (x < y → xT d 149 26 (ls) (st) h Q) ∧ (¬ x < y → xT d 149 229 (ls) (st) h Q) := xT_icge (off := 206) (by decide +kernel) rfl rfl x0 x1 y0 y1
theorem r149_26 : xT d 149 26 (.ref ov :: ls) (st) h Q ↔ xT d 149 27 (.ref ov :: ls) (.ref ov :: st) h Q := xT_aload_n (k := 0) (by decide +kernel) rfl rfl
theorem r149_27 : xT d 149 27 (ls) (.ref 21 :: st) (hh f a g) Q ↔ xT d 149 30 (ls) (.int (xI (f 21 16)) :: st) (hh f a g) Q := xT_getf (k := 244) (ci := 8) (fi := 16) (by decide +kernel) rfl rfl ⟨Nat.le_of_ble_eq_true rfl, Nat.le_of_ble_eq_true rfl⟩ (by decide +kernel) rfl
theorem r149_30 (x0 : -2147483648 ≤ x) (x1 : x ≤ 2147483647) : xT d 149 30 (ls) (.int (xI x) :: st) h Q ↔ (x = 0 → xT d 149 33 (ls) (st) h Q) ∧ (¬ x = 0 → xT d 149 229 (ls) (st) h Q) := xT_ifne (off := 199) (by decide +kernel) rfl rfl x0 x1
theorem r149_33 : xT d 149 33 (.ref ov :: ls) (st) h Q ↔ xT d 149 34 (.ref ov :: ls) (.ref ov :: st) h Q := xT_aload_n (k := 0) (by decide +kernel) rfl rfl
theorem r149_34 : xT d 149 34 (ls) (.ref 21 :: st) (hh f a g) Q ↔ xT d 149 37 (ls) (.int (xI (f 21 15)) :: st) (hh f a g) Q := xT_getf (k := 247) (ci := 8) (fi := 15) (by decide +kernel) rfl rfl ⟨Nat.le_of_ble_eq_true rfl, Nat.le_of_ble_eq_true rfl⟩ (by decide +kernel) rfl
theorem r149_37 : xT d 149 37 (ls) (st) h Q ↔ xT d 149 38 (ls) (.int (xI 2) :: st) h Q := xT_iconst (n := 2) (by decide +kernel) rfl
theorem r149_38 : xT d 149 38 (ls) (.int (xI y) :: .int (xI x) :: st) h Q ↔ xT d 149 39 (ls) (.int (xI (x + y)) :: st) h Q := xT_iadd (by decide +kernel) rfl
theorem r149_39 : xT d 149 39 (l0 :: .int v :: ls) (st) h Q ↔ xT d 149 40 (l0 :: .int v :: ls) (.int v :: st) h Q := xT_iload_n (k := 1) (by decide +kernel) rfl rfl
theorem r149_40 (x0 : -2147483648 ≤ x) (x1 : x ≤ 2147483647) (y0 : -2147483648 ≤ y) (y1 : y ≤ 2147483647) : xT d 149 40 (ls) (.int (xI y) :: .int (xI x) :: st) h Q ↔ (y < x → xT d 149 71 (ls) (st) h Q) ∧ (¬ y < x → xT d 149 43 (ls) (st) h Q) := xT_icgt (off := 31) (by decide +kernel) rfl rfl x0 x1 y0 y1
theorem r149_43 : xT d 149 43 (ls) (st) h Q ↔ xT d 149 46 (ls) (.int (xI 256) :: st) h Q := xT_sipush (n := 256) (by decide +kernel) rfl (by decide +kernel)
theorem r149_46 : xT d 149 46 (.ref ov :: ls) (st) h Q ↔ xT d 149 47 (.ref ov :: ls) (.ref ov :: st) h Q := xT_aload_n (k := 0) (by decide +kernel) rfl rfl
theorem r149_47 : xT d 149 47 (ls) (.ref 21 :: st) (hh f a g) Q ↔ xT d 149 50 (ls) (.ref 24 :: st) (hh f a g) Q := xT_getf (k := 26) (ci := 8) (fi := 8) (by decide +kernel) rfl rfl ⟨Nat.le_of_ble_eq_true rfl, Nat.le_of_ble_eq_true rfl⟩ (by decide +kernel) rfl
theorem r149_50 : xT d 149 50 (.ref ov :: ls) (st) h Q ↔ xT d 149 51 (.ref ov :: ls) (.ref ov :: st) h Q := xT_aload_n (k := 0) (by decide +kernel) rfl rfl
theorem r149_51 : xT d 149 51 (ls) (.ref 21 :: st) (hh f a g) Q ↔ xT d 149 54 (ls) (.int (xI (f 21 15)) :: st) (hh f a g) Q := xT_getf (k := 247) (ci := 8) (fi := 15) (by decide +kernel) rfl rfl ⟨Nat.le_of_ble_eq_true rfl, Nat.le_of_ble_eq_true rfl⟩ (by decide +kernel) rfl
theorem r149_54 (x0 : 0 ≤ x) (x1 : x < 1200) : xT d 149 54 (ls) (.int (xI x) :: .ref 24 :: st) (hh f a g) Q ↔ xT d 149 55 (ls) (.int (xI (a 24 x)) :: st) (hh f a g) Q := xT_iaload (N := 1200) (by decide +kernel) rfl rfl (Nat.le_of_ble_eq_true rfl) x0 x1 (Nat.le_of_ble_eq_true rfl)
theorem r149_55 : xT d 149 55 (ls) (.int (xI y) :: .int (xI x) :: st) h Q ↔ xT d 149 56 (ls) (.int (xI (x * y)) :: st) h Q := xT_imul (by decide +kernel) rfl
theorem r149_56 : xT d 149 56 (.ref ov :: ls) (st) h Q ↔ xT d 149 57 (.ref ov :: ls) (.ref ov :: st) h Q := xT_aload_n (k := 0) (by decide +kernel) rfl rfl
theorem r149_57 : xT d 149 57 (ls) (.ref 21 :: st) (hh f a g) Q ↔ xT d 149 60 (ls) (.ref 24 :: st) (hh f a g) Q := xT_getf (k := 26) (ci := 8) (fi := 8) (by decide +kernel) rfl rfl ⟨Nat.le_of_ble_eq_true rfl, Nat.le_of_ble_eq_true rfl⟩ (by decide +kernel) rfl
theorem r149_60 : xT d 149 60 (.ref ov :: ls) (st) h Q ↔ xT d 149 61 (.ref ov :: ls) (.ref ov :: st) h Q := xT_aload_n (k := 0) (by decide +kernel) rfl rfl
theorem r149_61 : xT d 149 61 (ls) (.ref 21 :: st) (hh f a g) Q ↔ xT d 149 64 (ls) (.int (xI (f 21 15)) :: st) (hh f a g) Q := xT_getf (k := 247) (ci := 8) (fi := 15) (by decide +kernel) rfl rfl ⟨Nat.le_of_ble_eq_true rfl, Nat.le_of_ble_eq_true rfl⟩ (by decide +kernel) rfl
theorem r149_64 : xT d 149 64 (ls) (st) h Q ↔ xT d 149 65 (ls) (.int (xI 1) :: st) h Q := xT_iconst (n := 1) (by decide +kernel) rfl
theorem r149_65 : xT d 149 65 (ls) (.int (xI y) :: .int (xI x) :: st) h Q ↔ xT d 149 66 (ls) (.int (xI (x + y)) :: st) h Q := xT_iadd (by decide +kernel) rfl
theorem r149_66 (x0 : 0 ≤ x) (x1 : x < 1200) : xT d 149 66 (ls) (.int (xI x) :: .ref 24 :: st) (hh f a g) Q ↔ xT d 149 67 (ls) (.int (xI (a 24 x)) :: st) (hh f a g) Q := xT_iaload (N := 1200) (by decide +kernel) rfl rfl (Nat.le_of_ble_eq_true rfl) x0 x1 (Nat.le_of_ble_eq_true rfl)
theorem r149_67 : xT d 149 67 (ls) (.int (xI y) :: .int (xI x) :: st) h Q ↔ xT d 149 68 (ls) (.int (xI (x + y)) :: st) h Q := xT_iadd (by decide +kernel) rfl
theorem r149_68 : xT d 149 68 (ls) (st) h Q ↔ xT d 149 74 (ls) (st) h Q := xT_goto (off := 6) (by decide +kernel) rfl
theorem r149_71 : xT d 149 71 (ls) (st) h Q ↔ xT d 149 74 (ls) (.int (xI 65536) :: st) h Q := xT_ldcw (k := 275) (n := 65536) (by decide +kernel) rfl (by decide +kernel)
theorem r149_74 : xT d 149 74 ([l0, l1, .int w, l3, l4, l5]) (.int v :: st) h Q ↔ xT d 149 75 ([l0, l1, .int w, .int v, l4, l5]) (st) h Q := xT_istore_n (k := 3) (by decide +kernel) rfl (Nat.le_of_ble_eq_true rfl) rfl
theorem r149_75 : xT d 149 75 (.ref ov :: ls) (st) h Q ↔ xT d 149 76 (.ref ov :: ls) (.ref ov :: st) h Q := xT_aload_n (k := 0) (by decide +kernel) rfl rfl
theorem r149_76 : xT d 149 76 (ls) (.ref 21 :: st) (hh f a g) Q ↔ xT d 149 79 (ls) (.int (xI (f 21 15)) :: st) (hh f a g) Q := xT_getf (k := 247) (ci := 8) (fi := 15) (by decide +kernel) rfl rfl ⟨Nat.le_of_ble_eq_true rfl, Nat.le_of_ble_eq_true rfl⟩ (by decide +kernel) rfl
theorem r149_79 : xT d 149 79 (ls) (st) h Q ↔ xT d 149 80 (ls) (.int (xI 4) :: st) h Q := xT_iconst (n := 4) (by decide +kernel) rfl
theorem r149_80 : xT d 149 80 (ls) (.int (xI y) :: .int (xI x) :: st) h Q ↔ xT d 149 81 (ls) (.int (xI (x + y)) :: st) h Q := xT_iadd (by decide +kernel) rfl
theorem r149_81 : xT d 149 81 (l0 :: l1 :: l2 :: .int v :: ls) (st) h Q ↔ xT d 149 82 (l0 :: l1 :: l2 :: .int v :: ls) (.int v :: st) h Q := xT_iload_n (k := 3) (by decide +kernel) rfl rfl
theorem r149_82 : xT d 149 82 (ls) (.int (xI y) :: .int (xI x) :: st) h Q ↔ xT d 149 83 (ls) (.int (xI (x + y)) :: st) h Q := xT_iadd (by decide +kernel) rfl
theorem r149_83 : xT d 149 83 (l0 :: .int v :: ls) (st) h Q ↔ xT d 149 84 (l0 :: .int v :: ls) (.int v :: st) h Q := xT_iload_n (k := 1) (by decide +kernel) rfl rfl
theorem r149_84 (x0 : -2147483648 ≤ x) (x1 : x ≤ 2147483647) (y0 : -2147483648 ≤ y) (y1 : y ≤ 2147483647) : xT d 149 84 (ls) (.int (xI y) :: .int (xI x) :: st) h Q ↔ (y < x → xT d 149 87 (ls) (st) h Q) ∧ (¬ y < x → xT d 149 93 (ls) (st) h Q) := xT_icle (off := 9) (by decide +kernel) rfl rfl x0 x1 y0 y1
theorem r149_87 : xT d 149 87 (.ref ov :: ls) (st) h Q ↔ xT d 149 88 (.ref ov :: ls) (.ref ov :: st) h Q := xT_aload_n (k := 0) (by decide +kernel) rfl rfl
theorem r149_88 : xT d 149 88 (ls) (st) h Q ↔ xT d 149 89 (ls) (.int (xI 1) :: st) h Q := xT_iconst (n := 1) (by decide +kernel) rfl
theorem r149_89 (hx : x = 0 ∨ x = 1) : xT d 149 89 (ls) (.int (xI x) :: .ref 21 :: st) (hh f a g) Q ↔ xT d 149 92 (ls) (st) (hh (xu f 21 16 x) a g) Q := xT_putz (k := 244) (ci := 8) (fi := 16) (by decide +kernel) rfl rfl ⟨Nat.le_of_ble_eq_true rfl, Nat.le_of_ble_eq_true rfl⟩ (by decide +kernel) (by decide +kernel) (by decide +kernel) rfl hx
theorem r149_92 : xT d 149 92 (ls) ([]) h Q ↔ Q (h, .returned none) := xT_return (by decide +kernel) rfl
theorem r149_93 : xT d 149 93 (.ref ov :: ls) (st) h Q ↔ xT d 149 94 (.ref ov :: ls) (.ref ov :: st) h Q := xT_aload_n (k := 0) (by decide +kernel) rfl rfl
theorem r149_94 : xT d 149 94 (ls) (.ref 21 :: st) (hh f a g) Q ↔ xT d 149 97 (ls) (.int (xI (f 21 15)) :: st) (hh f a g) Q := xT_getf (k := 247) (ci := 8) (fi := 15) (by decide +kernel) rfl rfl ⟨Nat.le_of_ble_eq_true rfl, Nat.le_of_ble_eq_true rfl⟩ (by decide +kernel) rfl
theorem r149_97 : xT d 149 97 (ls) (st) h Q ↔ xT d 149 98 (ls) (.int (xI 2) :: st) h Q := xT_iconst (n := 2) (by decide +kernel) rfl
theorem r149_98 : xT d 149 98 (ls) (.int (xI y) :: .int (xI x) :: st) h Q ↔ xT d 149 99 (ls) (.int (xI (x + y)) :: st) h Q := xT_iadd (by decide +kernel) rfl
theorem r149_99 : xT d 149 99 ([l0, l1, l2, .int w, l4, l5]) (.int v :: st) h Q ↔ xT d 149 101 ([l0, l1, l2, .int w, .int v, l5]) (st) h Q := xT_istore (k := 4) (by decide +kernel) rfl (Nat.le_of_ble_eq_true rfl) rfl
theorem r149_101 : xT d 149 101 (ls) (st) h Q ↔ xT d 149 104 (ls) (.int (xI 256) :: st) h Q := xT_sipush (n := 256) (by decide +kernel) rfl (by decide +kernel)
theorem r149_104 : xT d 149 104 (.ref ov :: ls) (st) h Q ↔ xT d 149 105 (.ref ov :: ls) (.ref ov :: st) h Q := xT_aload_n (k := 0) (by decide +kernel) rfl rfl
theorem r149_105 : xT d 149 105 (ls) (.ref 21 :: st) (hh f a g) Q ↔ xT d 149 108 (ls) (.ref 24 :: st) (hh f a g) Q := xT_getf (k := 26) (ci := 8) (fi := 8) (by decide +kernel) rfl rfl ⟨Nat.le_of_ble_eq_true rfl, Nat.le_of_ble_eq_true rfl⟩ (by decide +kernel) rfl
theorem r149_108 : xT d 149 108 (l0 :: l1 :: l2 :: l3 :: .int v :: ls) (st) h Q ↔ xT d 149 110 (l0 :: l1 :: l2 :: l3 :: .int v :: ls) (.int v :: st) h Q := xT_iload (k := 4) (by decide +kernel) rfl rfl
theorem r149_110 : xT d 149 110 (l0 :: l1 :: l2 :: .int v :: ls) (st) h Q ↔ xT d 149 111 (l0 :: l1 :: l2 :: .int v :: ls) (.int v :: st) h Q := xT_iload_n (k := 3) (by decide +kernel) rfl rfl
theorem r149_111 : xT d 149 111 (ls) (.int (xI y) :: .int (xI x) :: st) h Q ↔ xT d 149 112 (ls) (.int (xI (x + y)) :: st) h Q := xT_iadd (by decide +kernel) rfl
theorem r149_112 (x0 : 0 ≤ x) (x1 : x < 1200) : xT d 149 112 (ls) (.int (xI x) :: .ref 24 :: st) (hh f a g) Q ↔ xT d 149 113 (ls) (.int (xI (a 24 x)) :: st) (hh f a g) Q := xT_iaload (N := 1200) (by decide +kernel) rfl rfl (Nat.le_of_ble_eq_true rfl) x0 x1 (Nat.le_of_ble_eq_true rfl)
theorem r149_113 : xT d 149 113 (ls) (.int (xI y) :: .int (xI x) :: st) h Q ↔ xT d 149 114 (ls) (.int (xI (x * y)) :: st) h Q := xT_imul (by decide +kernel) rfl
theorem r149_114 : xT d 149 114 (.ref ov :: ls) (st) h Q ↔ xT d 149 115 (.ref ov :: ls) (.ref ov :: st) h Q := xT_aload_n (k := 0) (by decide +kernel) rfl rfl
theorem r149_115 : xT d 149 115 (ls) (.ref 21 :: st) (hh f a g) Q ↔ xT d 149 118 (ls) (.ref 24 :: st) (hh f a g) Q := xT_getf (k := 26) (ci := 8) (fi := 8) (by decide +kernel) rfl rfl ⟨Nat.le_of_ble_eq_true rfl, Nat.le_of_ble_eq_true rfl⟩ (by decide +kernel) rfl
theorem r149_118 : xT d 149 118 (l0 :: l1 :: l2 :: l3 :: .int v :: ls) (st) h Q ↔ xT d 149 120 (l0 :: l1 :: l2 :: l3 :: .int v :: ls) (.int v :: st) h Q := xT_iload (k := 4) (by decide +kernel) rfl rfl
theorem r149_120 : xT d 149 120 (l0 :: l1 :: l2 :: .int v :: ls) (st) h Q ↔ xT d 149 121 (l0 :: l1 :: l2 :: .int v :: ls) (.int v :: st) h Q := xT_iload_n (k := 3) (by decide +kernel) rfl rfl
theorem r149_121 : xT d 149 121 (ls) (.int (xI y) :: .int (xI x) :: st) h Q ↔ xT d 149 122 (ls) (.int (xI (x + y)) :: st) h Q := xT_iadd (by decide +kernel) rfl
theorem r149_122 : xT d 149 122 (ls) (st) h Q ↔ xT d 149 123 (ls) (.int (xI 1) :: st) h Q := xT_iconst (n := 1) (by decide +kernel) rfl
theorem r149_123 : xT d 149 123 (ls) (.int (xI y) :: .int (xI x) :: st) h Q ↔ xT d 149 124 (ls) (.int (xI (x + y)) :: st) h Q := xT_iadd (by decide +kernel) rfl
theorem r149_124 (x0 : 0 ≤ x) (x1 : x < 1200) : xT d 149 124 (ls) (.int (xI x) :: .ref 24 :: st) (hh f a g) Q ↔ xT d 149 125 (ls) (.int (xI (a 24 x)) :: st) (hh f a g) Q := xT_iaload (N := 1200) (by decide +kernel) rfl rfl (Nat.le_of_ble_eq_true rfl) x0 x1 (Nat.le_of_ble_eq_true rfl)
theorem r149_125 : xT d 149 125 (ls) (.int (xI y) :: .int (xI x) :: st) h Q ↔ xT d 149 126 (ls) (.int (xI (x + y)) :: st) h Q := xT_iadd (by decide +kernel) rfl
theorem r149_126 : xT d 149 126 ([l0, l1, l2, l3, .int w, l5]) (.int v :: st) h Q ↔ xT d 149 128 ([l0, l1, l2, l3, .int w, .int v]) (st) h Q := xT_istore (k := 5) (by decide +kernel) rfl (Nat.le_of_ble_eq_true rfl) rfl
theorem r149_128 : xT d 149 128 (l0 :: l1 :: l2 :: l3 :: l4 :: .int v :: ls) (st) h Q ↔ xT d 149 130 (l0 :: l1 :: l2 :: l3 :: l4 :: .int v :: ls) (.int v :: st) h Q := xT_iload (k := 5) (by decide +kernel) rfl rfl
theorem r149_130 : xT d 149 130 (.ref ov :: ls) (st) h Q ↔ xT d 149 131 (.ref ov :: ls) (.ref ov :: st) h Q := xT_aload_n (k := 0) (by decide +kernel) rfl rfl
theorem r149_131 : xT d 149 131 (l0 :: l1 :: l2 :: l3 :: .int v :: ls) (st) h Q ↔ xT d 149 133 (l0 :: l1 :: l2 :: l3 :: .int v :: ls) (.int v :: st) h Q := xT_iload (k := 4) (by decide +kernel) rfl rfl
theorem r149_133 : xT d 149 133 (l0 :: l1 :: l2 :: .int v :: ls) (st) h Q ↔ xT d 149 134 (l0 :: l1 :: l2 :: .int v :: ls) (.int v :: st) h Q := xT_iload_n (k := 3) (by decide +kernel) rfl rfl
theorem r149_134 {z0 : Int32} {z1 : Int32} {z3 : Int32} (hd : 1 ≤ d) : xT d 149 134 (ls) ([.int z0, .int z1, .ref 21, .int z3]) (hh f a g) Q ↔ xTC (d - 1) 130 [.ref 21, .int z1, .int z0] (hh f a g) (xAf d 149 134 (ls) [.int z3] Q) := xT_virtual (k := 208) (na := 2) (ci := 8) (by decide +kernel) (by decide +kernel) (by decide +kernel) ⟨Nat.le_of_ble_eq_true rfl, Nat.le_of_ble_eq_true rfl⟩ rfl rfl (Nat.le_of_ble_eq_true rfl) rfl rfl ⟨Nat.le_of_ble_eq_true rfl, Nat.le_of_ble_eq_true rfl⟩ (Nat.le_of_ble_eq_true rfl) hd
theorem r149_137 (x0 : -2147483648 ≤ x) (x1 : x ≤ 2147483647) (y0 : -2147483648 ≤ y) (y1 : y ≤ 2147483647) : xT d 149 137 (ls) (.int (xI y) :: .int (xI x) :: st) h Q ↔ (x = y → xT d 149 154 (ls) (st) h Q) ∧ (¬ x = y → xT d 149 140 (ls) (st) h Q) := xT_iceq (off := 17) (by decide +kernel) rfl rfl x0 x1 y0 y1
theorem r149_140 : xT d 149 140 (.ref ov :: ls) (st) h Q ↔ xT d 149 141 (.ref ov :: ls) (.ref ov :: st) h Q := xT_aload_n (k := 0) (by decide +kernel) rfl rfl
theorem r149_141 : xT d 149 141 (ls) (st) h Q ↔ xT d 149 142 (ls) (.int (xI 1) :: st) h Q := xT_iconst (n := 1) (by decide +kernel) rfl
theorem r149_142 (hx : x = 0 ∨ x = 1) : xT d 149 142 (ls) (.int (xI x) :: .ref 21 :: st) (hh f a g) Q ↔ xT d 149 145 (ls) (st) (hh (xu f 21 16 x) a g) Q := xT_putz (k := 244) (ci := 8) (fi := 16) (by decide +kernel) rfl rfl ⟨Nat.le_of_ble_eq_true rfl, Nat.le_of_ble_eq_true rfl⟩ (by decide +kernel) (by decide +kernel) (by decide +kernel) rfl hx
theorem r149_145 : xT d 149 145 (.ref ov :: ls) (st) h Q ↔ xT d 149 146 (.ref ov :: ls) (.ref ov :: st) h Q := xT_aload_n (k := 0) (by decide +kernel) rfl rfl
theorem r149_146 : xT d 149 146 (l0 :: l1 :: l2 :: l3 :: .int v :: ls) (st) h Q ↔ xT d 149 148 (l0 :: l1 :: l2 :: l3 :: .int v :: ls) (.int v :: st) h Q := xT_iload (k := 4) (by decide +kernel) rfl rfl
theorem r149_148 : xT d 149 148 (l0 :: l1 :: l2 :: .int v :: ls) (st) h Q ↔ xT d 149 149 (l0 :: l1 :: l2 :: .int v :: ls) (.int v :: st) h Q := xT_iload_n (k := 3) (by decide +kernel) rfl rfl
theorem r149_149 : xT d 149 149 (ls) (.int (xI y) :: .int (xI x) :: st) h Q ↔ xT d 149 150 (ls) (.int (xI (x + y)) :: st) h Q := xT_iadd (by decide +kernel) rfl
theorem r149_150 : xT d 149 150 (ls) (.int (xI x) :: .ref 21 :: st) (hh f a g) Q ↔ xT d 149 153 (ls) (st) (hh (xu f 21 15 x) a g) Q := xT_putf (k := 247) (ci := 8) (fi := 15) (by decide +kernel) rfl rfl ⟨Nat.le_of_ble_eq_true rfl, Nat.le_of_ble_eq_true rfl⟩ (by decide +kernel) (by decide +kernel) (by decide +kernel) rfl
theorem r149_153 : xT d 149 153 (ls) ([]) h Q ↔ Q (h, .returned none) := xT_return (by decide +kernel) rfl
theorem r149_154 : xT d 149 154 (.ref ov :: ls) (st) h Q ↔ xT d 149 155 (.ref ov :: ls) (.ref ov :: st) h Q := xT_aload_n (k := 0) (by decide +kernel) rfl rfl
theorem r149_155 : xT d 149 155 (.ref ov :: ls) (st) h Q ↔ xT d 149 156 (.ref ov :: ls) (.ref ov :: st) h Q := xT_aload_n (k := 0) (by decide +kernel) rfl rfl
theorem r149_156 : xT d 149 156 (.ref ov :: ls) (st) h Q ↔ xT d 149 157 (.ref ov :: ls) (.ref ov :: st) h Q := xT_aload_n (k := 0) (by decide +kernel) rfl rfl
theorem r149_157 : xT d 149 157 (ls) (.ref 21 :: st) (hh f a g) Q ↔ xT d 149 160 (ls) (.int (xI (f 21 12)) :: st) (hh f a g) Q := xT_getf (k := 272) (ci := 8) (fi := 12) (by decide +kernel) rfl rfl ⟨Nat.le_of_ble_eq_true rfl, Nat.le_of_ble_eq_true rfl⟩ (by decide +kernel) rfl
theorem r149_160 : xT d 149 160 (l0 :: l1 :: .int v :: ls) (st) h Q ↔ xT d 149 161 (l0 :: l1 :: .int v :: ls) (.int v :: st) h Q := xT_iload_n (k := 2) (by decide +kernel) rfl rfl
theorem r149_161 : xT d 149 161 (.ref ov :: ls) (st) h Q ↔ xT d 149 162 (.ref ov :: ls) (.ref ov :: st) h Q := xT_aload_n (k := 0) (by decide +kernel) rfl rfl
theorem r149_162 : xT d 149 162 (ls) (.ref 21 :: st) (hh f a g) Q ↔ xT d 149 165 (ls) (.int (xI (f 21 21)) :: st) (hh f a g) Q := xT_getf (k := 214) (ci := 8) (fi := 21) (by decide +kernel) rfl rfl ⟨Nat.le_of_ble_eq_true rfl, Nat.le_of_ble_eq_true rfl⟩ (by decide +kernel) rfl
theorem r149_165 : xT d 149 165 (ls) (.int (xI y) :: .int (xI x) :: st) h Q ↔ xT d 149 166 (ls) (.int (xI (x * y)) :: st) h Q := xT_imul (by decide +kernel) rfl
theorem r149_166 : xT d 149 166 (.ref ov :: ls) (st) h Q ↔ xT d 149 167 (.ref ov :: ls) (.ref ov :: st) h Q := xT_aload_n (k := 0) (by decide +kernel) rfl rfl
theorem r149_167 : xT d 149 167 (ls) (.ref 21 :: st) (hh f a g) Q ↔ xT d 149 170 (ls) (.int (xI (f 21 18)) :: st) (hh f a g) Q := xT_getf (k := 220) (ci := 8) (fi := 18) (by decide +kernel) rfl rfl ⟨Nat.le_of_ble_eq_true rfl, Nat.le_of_ble_eq_true rfl⟩ (by decide +kernel) rfl
theorem r149_170 (x0 : 0 ≤ x) (x1 : x ≤ 2147483647) (y0 : 0 < y) (y1 : y ≤ 2147483647) : xT d 149 170 (ls) (.int (xI y) :: .int (xI x) :: st) h Q ↔ xT d 149 171 (ls) (.int (xI (x / y)) :: st) h Q := xT_idiv (by decide +kernel) rfl x0 x1 y0 y1
theorem r149_170_t (x0 : -2147483648 < x) (x1 : x ≤ 2147483647) (y0 : 0 < y) (y1 : y ≤ 2147483647) : xT d 149 170 (ls) (.int (xI y) :: .int (xI x) :: st) h Q ↔ xT d 149 171 (ls) (.int (xI (x.tdiv y)) :: st) h Q := xT_tdiv (by decide +kernel) rfl x0 x1 y0 y1
theorem r149_171 : xT d 149 171 (l0 :: l1 :: .int v :: ls) (st) h Q ↔ xT d 149 172 (l0 :: l1 :: .int v :: ls) (.int v :: st) h Q := xT_iload_n (k := 2) (by decide +kernel) rfl rfl
theorem r149_172 : xT d 149 172 (ls) (st) h Q ↔ xT d 149 173 (ls) (.int (xI 1) :: st) h Q := xT_iconst (n := 1) (by decide +kernel) rfl
theorem r149_173 : xT d 149 173 (ls) (.int (xI y) :: .int (xI x) :: st) h Q ↔ xT d 149 174 (ls) (.int (xI (x + y)) :: st) h Q := xT_iadd (by decide +kernel) rfl
theorem r149_174 : xT d 149 174 (.ref ov :: ls) (st) h Q ↔ xT d 149 175 (.ref ov :: ls) (.ref ov :: st) h Q := xT_aload_n (k := 0) (by decide +kernel) rfl rfl
theorem r149_175 : xT d 149 175 (ls) (.ref 21 :: st) (hh f a g) Q ↔ xT d 149 178 (ls) (.int (xI (f 21 21)) :: st) (hh f a g) Q := xT_getf (k := 214) (ci := 8) (fi := 21) (by decide +kernel) rfl rfl ⟨Nat.le_of_ble_eq_true rfl, Nat.le_of_ble_eq_true rfl⟩ (by decide +kernel) rfl
theorem r149_178 : xT d 149 178 (ls) (.int (xI y) :: .int (xI x) :: st) h Q ↔ xT d 149 179 (ls) (.int (xI (x * y)) :: st) h Q := xT_imul (by decide +kernel) rfl
theorem r149_179 : xT d 149 179 (.ref ov :: ls) (st) h Q ↔ xT d 149 180 (.ref ov :: ls) (.ref ov :: st) h Q := xT_aload_n (k := 0) (by decide +kernel) rfl rfl
theorem r149_180 : xT d 149 180 (ls) (.ref 21 :: st) (hh f a g) Q ↔ xT d 149 183 (ls) (.int (xI (f 21 18)) :: st) (hh f a g) Q := xT_getf (k := 220) (ci := 8) (fi := 18) (by decide +kernel) rfl rfl ⟨Nat.le_of_ble_eq_true rfl, Nat.le_of_ble_eq_true rfl⟩ (by decide +kernel) rfl
theorem r149_183 (x0 : 0 ≤ x) (x1 : x ≤ 2147483647) (y0 : 0 < y) (y1 : y ≤ 2147483647) : xT d 149 183 (ls) (.int (xI y) :: .int (xI x) :: st) h Q ↔ xT d 149 184 (ls) (.int (xI (x / y)) :: st) h Q := xT_idiv (by decide +kernel) rfl x0 x1 y0 y1
theorem r149_183_t (x0 : -2147483648 < x) (x1 : x ≤ 2147483647) (y0 : 0 < y) (y1 : y ≤ 2147483647) : xT d 149 183 (ls) (.int (xI y) :: .int (xI x) :: st) h Q ↔ xT d 149 184 (ls) (.int (xI (x.tdiv y)) :: st) h Q := xT_tdiv (by decide +kernel) rfl x0 x1 y0 y1
theorem r149_184 : xT d 149 184 (l0 :: l1 :: l2 :: l3 :: .int v :: ls) (st) h Q ↔ xT d 149 186 (l0 :: l1 :: l2 :: l3 :: .int v :: ls) (.int v :: st) h Q := xT_iload (k := 4) (by decide +kernel) rfl rfl
theorem r149_186 : xT d 149 186 (l0 :: l1 :: l2 :: .int v :: ls) (st) h Q ↔ xT d 149 187 (l0 :: l1 :: l2 :: .int v :: ls) (.int v :: st) h Q := xT_iload_n (k := 3) (by decide +kernel) rfl rfl
theorem r149_187 {z0 : Int32} {z1 : Int32} {z2 : Int32} {z3 : Int32} {z4 : Int32} {z6 : Nat} (hd : 1 ≤ d) : xT d 149 187 (ls) ([.int z0, .int z1, .int z2, .int z3, .int z4, .ref 21, .ref z6]) (hh f a g) Q ↔ xTC (d - 1) 127 [.ref 21, .int z4, .int z3, .int z2, .int z1, .int z0] (hh f a g) (xAf d 149 187 (ls) [.ref z6] Q) := xT_virtual (k := 276) (na := 5) (ci := 8) (by decide +kernel) (by decide +kernel) (by decide +kernel) ⟨Nat.le_of_ble_eq_true rfl, Nat.le_of_ble_eq_true rfl⟩ rfl rfl (Nat.le_of_ble_eq_true rfl) rfl rfl ⟨Nat.le_of_ble_eq_true rfl, Nat.le_of_ble_eq_true rfl⟩ (Nat.le_of_ble_eq_true rfl) hd
theorem r149_190 (x0 : -2147483648 ≤ x) (x1 : x ≤ 2147483647) : xT d 149 190 (ls) (.int (xI x) :: st) h Q ↔ (x = 0 → xT d 149 193 (ls) (st) h Q) ∧ (¬ x = 0 → xT d 149 197 (ls) (st) h Q) := xT_ifne (off := 7) (by decide +kernel) rfl rfl x0 x1
theorem r149_193 : xT d 149 193 (ls) (st) h Q ↔ xT d 149 194 (ls) (.int (xI 1) :: st) h Q := xT_iconst (n := 1) (by decide +kernel) rfl
theorem r149_194 : xT d 149 194 (ls) (st) h Q ↔ xT d 149 198 (ls) (st) h Q := xT_goto (off := 4) (by decide +kernel) rfl
theorem r149_197 : xT d 149 197 (ls) (st) h Q ↔ xT d 149 198 (ls) (.int (xI 0) :: st) h Q := xT_iconst (n := 0) (by decide +kernel) rfl
theorem r149_198 (hx : x = 0 ∨ x = 1) : xT d 149 198 (ls) (.int (xI x) :: .ref 21 :: st) (hh f a g) Q ↔ xT d 149 201 (ls) (st) (hh (xu f 21 16 x) a g) Q := xT_putz (k := 244) (ci := 8) (fi := 16) (by decide +kernel) rfl rfl ⟨Nat.le_of_ble_eq_true rfl, Nat.le_of_ble_eq_true rfl⟩ (by decide +kernel) (by decide +kernel) (by decide +kernel) rfl hx
theorem r149_201 : xT d 149 201 (.ref ov :: ls) (st) h Q ↔ xT d 149 202 (.ref ov :: ls) (.ref ov :: st) h Q := xT_aload_n (k := 0) (by decide +kernel) rfl rfl
theorem r149_202 : xT d 149 202 (.ref ov :: ls) (st) h Q ↔ xT d 149 203 (.ref ov :: ls) (.ref ov :: st) h Q := xT_aload_n (k := 0) (by decide +kernel) rfl rfl
theorem r149_203 : xT d 149 203 (ls) (.ref 21 :: st) (hh f a g) Q ↔ xT d 149 206 (ls) (.int (xI (f 21 16)) :: st) (hh f a g) Q := xT_getf (k := 244) (ci := 8) (fi := 16) (by decide +kernel) rfl rfl ⟨Nat.le_of_ble_eq_true rfl, Nat.le_of_ble_eq_true rfl⟩ (by decide +kernel) rfl
theorem r149_206 (x0 : -2147483648 ≤ x) (x1 : x ≤ 2147483647) : xT d 149 206 (ls) (.int (xI x) :: st) h Q ↔ (x = 0 → xT d 149 214 (ls) (st) h Q) ∧ (¬ x = 0 → xT d 149 209 (ls) (st) h Q) := xT_ifeq (off := 8) (by decide +kernel) rfl rfl x0 x1
theorem r149_209 : xT d 149 209 (l0 :: l1 :: l2 :: l3 :: .int v :: ls) (st) h Q ↔ xT d 149 211 (l0 :: l1 :: l2 :: l3 :: .int v :: ls) (.int v :: st) h Q := xT_iload (k := 4) (by decide +kernel) rfl rfl
theorem r149_211 : xT d 149 211 (ls) (st) h Q ↔ xT d 149 220 (ls) (st) h Q := xT_goto (off := 9) (by decide +kernel) rfl
theorem r149_214 : xT d 149 214 (l0 :: l1 :: l2 :: l3 :: .int v :: ls) (st) h Q ↔ xT d 149 216 (l0 :: l1 :: l2 :: l3 :: .int v :: ls) (.int v :: st) h Q := xT_iload (k := 4) (by decide +kernel) rfl rfl
theorem r149_216 : xT d 149 216 (l0 :: l1 :: l2 :: .int v :: ls) (st) h Q ↔ xT d 149 217 (l0 :: l1 :: l2 :: .int v :: ls) (.int v :: st) h Q := xT_iload_n (k := 3) (by decide +kernel) rfl rfl
theorem r149_217 : xT d 149 217 (ls) (.int (xI y) :: .int (xI x) :: st) h Q ↔ xT d 149 218 (ls) (.int (xI (x + y)) :: st) h Q := xT_iadd (by decide +kernel) rfl
theorem r149_218 : xT d 149 218 (ls) (st) h Q ↔ xT d 149 219 (ls) (.int (xI 2) :: st) h Q := xT_iconst (n := 2) (by decide +kernel) rfl
theorem r149_219 : xT d 149 219 (ls) (.int (xI y) :: .int (xI x) :: st) h Q ↔ xT d 149 220 (ls) (.int (xI (x + y)) :: st) h Q := xT_iadd (by decide +kernel) rfl
theorem r149_220 : xT d 149 220 (ls) (.int (xI x) :: .ref 21 :: st) (hh f a g) Q ↔ xT d 149 223 (ls) (st) (hh (xu f 21 15 x) a g) Q := xT_putf (k := 247) (ci := 8) (fi := 15) (by decide +kernel) rfl rfl ⟨Nat.le_of_ble_eq_true rfl, Nat.le_of_ble_eq_true rfl⟩ (by decide +kernel) (by decide +kernel) (by decide +kernel) rfl
theorem r149_223 : xT d 149 223 ([l0, .int w, .int (xI x), l3, l4, l5]) (st) h Q ↔ xT d 149 226 ([l0, .int w, .int (xI (x + 1)), l3, l4, l5]) (st) h Q := xT_iinc (k := 2) (by decide +kernel) rfl rfl rfl
theorem r149_226 : xT d 149 226 (ls) (st) h Q ↔ xT d 149 18 (ls) (st) h Q := xT_goto (off := (-208)) (by decide +kernel) rfl
theorem r149_229 : xT d 149 229 (.ref ov :: ls) (st) h Q ↔ xT d 149 230 (.ref ov :: ls) (.ref ov :: st) h Q := xT_aload_n (k := 0) (by decide +kernel) rfl rfl
theorem r149_230 : xT d 149 230 (.ref ov :: ls) (st) h Q ↔ xT d 149 231 (.ref ov :: ls) (.ref ov :: st) h Q := xT_aload_n (k := 0) (by decide +kernel) rfl rfl
theorem r149_231 : xT d 149 231 (ls) (.ref 21 :: st) (hh f a g) Q ↔ xT d 149 234 (ls) (.int (xI (f 21 16)) :: st) (hh f a g) Q := xT_getf (k := 244) (ci := 8) (fi := 16) (by decide +kernel) rfl rfl ⟨Nat.le_of_ble_eq_true rfl, Nat.le_of_ble_eq_true rfl⟩ (by decide +kernel) rfl
theorem r149_234 (x0 : -2147483648 ≤ x) (x1 : x ≤ 2147483647) : xT d 149 234 (ls) (.int (xI x) :: st) h Q ↔ (x = 0 → xT d 149 237 (ls) (st) h Q) ∧ (¬ x = 0 → xT d 149 245 (ls) (st) h Q) := xT_ifne (off := 11) (by decide +kernel) rfl rfl x0 x1
theorem r149_237 : xT d 149 237 (.ref ov :: ls) (st) h Q ↔ xT d 149 238 (.ref ov :: ls) (.ref ov :: st) h Q := xT_aload_n (k := 0) (by decide +kernel) rfl rfl
theorem r149_238 : xT d 149 238 (ls) (.ref 21 :: st) (hh f a g) Q ↔ xT d 149 241 (ls) (.int (xI (f 21 15)) :: st) (hh f a g) Q := xT_getf (k := 247) (ci := 8) (fi := 15) (by decide +kernel) rfl rfl ⟨Nat.le_of_ble_eq_true rfl, Nat.le_of_ble_eq_true rfl⟩ (by decide +kernel) rfl
theorem r149_241 : xT d 149 241 (l0 :: .int v :: ls) (st) h Q ↔ xT d 149 242 (l0 :: .int v :: ls) (.int v :: st) h Q := xT_iload_n (k := 1) (by decide +kernel) rfl rfl
theorem r149_242 (x0 : -2147483648 ≤ x) (x1 : x ≤ 2147483647) (y0 : -2147483648 ≤ y) (y1 : y ≤ 2147483647) : xT d 149 242 (ls) (.int (xI y) :: .int (xI x) :: st) h Q ↔ (x = y → xT d 149 249 (ls) (st) h Q) ∧ (¬ x = y → xT d 149 245 (ls) (st) h Q) := xT_iceq (off := 7) (by decide +kernel) rfl rfl x0 x1 y0 y1
theorem r149_245 : xT d 149 245 (ls) (st) h Q ↔ xT d 149 246 (ls) (.int (xI 1) :: st) h Q := xT_iconst (n := 1) (by decide +kernel) rfl
theorem r149_246 : xT d 149 246 (ls) (st) h Q ↔ xT d 149 250 (ls) (st) h Q := xT_goto (off := 4) (by decide +kernel) rfl
theorem r149_249 : xT d 149 249 (ls) (st) h Q ↔ xT d 149 250 (ls) (.int (xI 0) :: st) h Q := xT_iconst (n := 0) (by decide +kernel) rfl
theorem r149_250 (hx : x = 0 ∨ x = 1) : xT d 149 250 (ls) (.int (xI x) :: .ref 21 :: st) (hh f a g) Q ↔ xT d 149 253 (ls) (st) (hh (xu f 21 16 x) a g) Q := xT_putz (k := 244) (ci := 8) (fi := 16) (by decide +kernel) rfl rfl ⟨Nat.le_of_ble_eq_true rfl, Nat.le_of_ble_eq_true rfl⟩ (by decide +kernel) (by decide +kernel) (by decide +kernel) rfl hx
theorem r149_253 : xT d 149 253 (ls) ([]) h Q ↔ Q (h, .returned none) := xT_return (by decide +kernel) rfl
theorem e149 {z0 : Nat} {z1 : Int32} : xTC d 149 [.ref z0, .int z1] h Q ↔ xT d 149 0 [.ref z0, .int z1, .null, .null, .null, .null] [] h Q := Iff.rfl
-- M_readFrame
theorem r150_0 : xT d 150 0 (.ref ov :: ls) (st) h Q ↔ xT d 150 1 (.ref ov :: ls) (.ref ov :: st) h Q := xT_aload_n (k := 0) (by decide +kernel) rfl rfl
theorem r150_1 : xT d 150 1 (ls) (.ref 21 :: st) (hh f a g) Q ↔ xT d 150 4 (ls) (.int (xI (f 21 12)) :: st) (hh f a g) Q := xT_getf (k := 272) (ci := 8) (fi := 12) (by decide +kernel) rfl rfl ⟨Nat.le_of_ble_eq_true rfl, Nat.le_of_ble_eq_true rfl⟩ (by decide +kernel) rfl
theorem r150_4 : xT d 150 4 (ls) (st) h Q ↔ xT d 150 5 (ls) (.int (xI 3) :: st) h Q := xT_iconst (n := 3) (by decide +kernel) rfl
theorem r150_5 (x0 : -2147483648 ≤ x) (x1 : x ≤ 2147483647) (y0 : -2147483648 ≤ y) (y1 : y ≤ 2147483647) : xT d 150 5 (ls) (.int (xI y) :: .int (xI x) :: st) h Q ↔ (x = y → xT d 150 8 (ls) (st) h Q) ∧ (¬ x = y → xT d 150 14 (ls) (st) h Q) := xT_icne (off := 9) (by decide +kernel) rfl rfl x0 x1 y0 y1
theorem r150_8 : xT d 150 8 (.ref ov :: ls) (st) h Q ↔ xT d 150 9 (.ref ov :: ls) (.ref ov :: st) h Q := xT_aload_n (k := 0) (by decide +kernel) rfl rfl
theorem r150_9 : xT d 150 9 (ls) (st) h Q ↔ xT d 150 10 (ls) (.int (xI 1) :: st) h Q := xT_iconst (n := 1) (by decide +kernel) rfl
theorem r150_10 (hx : x = 0 ∨ x = 1) : xT d 150 10 (ls) (.int (xI x) :: .ref 21 :: st) (hh f a g) Q ↔ xT d 150 13 (ls) (st) (hh (xu f 21 16 x) a g) Q := xT_putz (k := 244) (ci := 8) (fi := 16) (by decide +kernel) rfl rfl ⟨Nat.le_of_ble_eq_true rfl, Nat.le_of_ble_eq_true rfl⟩ (by decide +kernel) (by decide +kernel) (by decide +kernel) rfl hx
theorem r150_13 : xT d 150 13 (ls) ([]) h Q ↔ Q (h, .returned none) := xT_return (by decide +kernel) rfl
theorem r150_14 : xT d 150 14 (.ref ov :: ls) (st) h Q ↔ xT d 150 15 (.ref ov :: ls) (.ref ov :: st) h Q := xT_aload_n (k := 0) (by decide +kernel) rfl rfl
theorem r150_15 : xT d 150 15 (ls) (st) h Q ↔ xT d 150 17 (ls) (.int (xI 31) :: st) h Q := xT_bipush (n := 31) (by decide +kernel) rfl (by decide +kernel)
theorem r150_17 : xT d 150 17 (l0 :: .int v :: ls) (st) h Q ↔ xT d 150 18 (l0 :: .int v :: ls) (.int v :: st) h Q := xT_iload_n (k := 1) (by decide +kernel) rfl rfl
theorem r150_18 : xT d 150 18 (ls) (st) h Q ↔ xT d 150 19 (ls) (.int (xI (-1)) :: st) h Q := xT_iconst (n := (-1)) (by decide +kernel) rfl
theorem r150_19 {z0 : Int32} {z1 : Int32} {z2 : Int32} (hd : 1 ≤ d) : xT d 150 19 (ls) ([.int z0, .int z1, .int z2, .ref 21]) (hh f a g) Q ↔ xTC (d - 1) 144 [.ref 21, .int z2, .int z1, .int z0] (hh f a g) (xAf d 150 19 (ls) [] Q) := xT_virtual (k := 256) (na := 3) (ci := 8) (by decide +kernel) (by decide +kernel) (by decide +kernel) ⟨Nat.le_of_ble_eq_true rfl, Nat.le_of_ble_eq_true rfl⟩ rfl rfl (Nat.le_of_ble_eq_true rfl) rfl rfl ⟨Nat.le_of_ble_eq_true rfl, Nat.le_of_ble_eq_true rfl⟩ (Nat.le_of_ble_eq_true rfl) hd
theorem r150_22 : xT d 150 22 ([l0, .int w, l2, l3]) (.int v :: st) h Q ↔ xT d 150 23 ([l0, .int w, .int v, l3]) (st) h Q := xT_istore_n (k := 2) (by decide +kernel) rfl (Nat.le_of_ble_eq_true rfl) rfl
theorem r150_23 : xT d 150 23 (.ref ov :: ls) (st) h Q ↔ xT d 150 24 (.ref ov :: ls) (.ref ov :: st) h Q := xT_aload_n (k := 0) (by decide +kernel) rfl rfl
theorem r150_24 : xT d 150 24 (l0 :: l1 :: .int v :: ls) (st) h Q ↔ xT d 150 25 (l0 :: l1 :: .int v :: ls) (.int v :: st) h Q := xT_iload_n (k := 2) (by decide +kernel) rfl rfl
theorem r150_25 {z0 : Int32} (hd : 1 ≤ d) : xT d 150 25 (ls) ([.int z0, .ref 21]) (hh f a g) Q ↔ xTC (d - 1) 148 [.ref 21, .int z0] (hh f a g) (xAf d 150 25 (ls) [] Q) := xT_virtual (k := 280) (na := 1) (ci := 8) (by decide +kernel) (by decide +kernel) (by decide +kernel) ⟨Nat.le_of_ble_eq_true rfl, Nat.le_of_ble_eq_true rfl⟩ rfl rfl (Nat.le_of_ble_eq_true rfl) rfl rfl ⟨Nat.le_of_ble_eq_true rfl, Nat.le_of_ble_eq_true rfl⟩ (Nat.le_of_ble_eq_true rfl) hd
theorem r150_28 : xT d 150 28 (.ref ov :: ls) (st) h Q ↔ xT d 150 29 (.ref ov :: ls) (.ref ov :: st) h Q := xT_aload_n (k := 0) (by decide +kernel) rfl rfl
theorem r150_29 : xT d 150 29 (ls) (.ref 21 :: st) (hh f a g) Q ↔ xT d 150 32 (ls) (.int (xI (f 21 16)) :: st) (hh f a g) Q := xT_getf (k := 244) (ci := 8) (fi := 16) (by decide +kernel) rfl rfl ⟨Nat.le_of_ble_eq_true rfl, Nat.le_of_ble_eq_true rfl⟩ (by decide +kernel) rfl
theorem r150_32 (x0 : -2147483648 ≤ x) (x1 : x ≤ 2147483647) : xT d 150 32 (ls) (.int (xI x) :: st) h Q ↔ (x = 0 → xT d 150 42 (ls) (st) h Q) ∧ (¬ x = 0 → xT d 150 35 (ls) (st) h Q) := xT_ifeq (off := 10) (by decide +kernel) rfl rfl x0 x1
theorem r150_35 : xT d 150 35 (.ref ov :: ls) (st) h Q ↔ xT d 150 36 (.ref ov :: ls) (.ref ov :: st) h Q := xT_aload_n (k := 0) (by decide +kernel) rfl rfl
theorem r150_36 : xT d 150 36 (ls) (.ref 21 :: st) (hh f a g) Q ↔ xT d 150 39 (ls) (.int (xI (f 21 15)) :: st) (hh f a g) Q := xT_getf (k := 247) (ci := 8) (fi := 15) (by decide +kernel) rfl rfl ⟨Nat.le_of_ble_eq_true rfl, Nat.le_of_ble_eq_true rfl⟩ (by decide +kernel) rfl
theorem r150_39 : xT d 150 39 (ls) (st) h Q ↔ xT d 150 51 (ls) (st) h Q := xT_goto (off := 12) (by decide +kernel) rfl
theorem r150_42 : xT d 150 42 (.ref ov :: ls) (st) h Q ↔ xT d 150 43 (.ref ov :: ls) (.ref ov :: st) h Q := xT_aload_n (k := 0) (by decide +kernel) rfl rfl
theorem r150_43 : xT d 150 43 (ls) (st) h Q ↔ xT d 150 46 (ls) (.int (xI 163) :: st) h Q := xT_sipush (n := 163) (by decide +kernel) rfl (by decide +kernel)
theorem r150_46 : xT d 150 46 (l0 :: l1 :: .int v :: ls) (st) h Q ↔ xT d 150 47 (l0 :: l1 :: .int v :: ls) (.int v :: st) h Q := xT_iload_n (k := 2) (by decide +kernel) rfl rfl
theorem r150_47 : xT d 150 47 (ls) (st) h Q ↔ xT d 150 48 (ls) (.int (xI (-1)) :: st) h Q := xT_iconst (n := (-1)) (by decide +kernel) rfl
theorem r150_48 {z0 : Int32} {z1 : Int32} {z2 : Int32} (hd : 1 ≤ d) : xT d 150 48 (ls) ([.int z0, .int z1, .int z2, .ref 21]) (hh f a g) Q ↔ xTC (d - 1) 144 [.ref 21, .int z2, .int z1, .int z0] (hh f a g) (xAf d 150 48 (ls) [] Q) := xT_virtual (k := 256) (na := 3) (ci := 8) (by decide +kernel) (by decide +kernel) (by decide +kernel) ⟨Nat.le_of_ble_eq_true rfl, Nat.le_of_ble_eq_true rfl⟩ rfl rfl (Nat.le_of_ble_eq_true rfl) rfl rfl ⟨Nat.le_of_ble_eq_true rfl, Nat.le_of_ble_eq_true rfl⟩ (Nat.le_of_ble_eq_true rfl) hd
theorem r150_51 : xT d 150 51 ([l0, l1, .int w, l3]) (.int v :: st) h Q ↔ xT d 150 52 ([l0, l1, .int w, .int v]) (st) h Q := xT_istore_n (k := 3) (by decide +kernel) rfl (Nat.le_of_ble_eq_true rfl) rfl
theorem r150_52 : xT d 150 52 (.ref ov :: ls) (st) h Q ↔ xT d 150 53 (.ref ov :: ls) (.ref ov :: st) h Q := xT_aload_n (k := 0) (by decide +kernel) rfl rfl
theorem r150_53 : xT d 150 53 (ls) (.ref 21 :: st) (hh f a g) Q ↔ xT d 150 56 (ls) (.int (xI (f 21 16)) :: st) (hh f a g) Q := xT_getf (k := 244) (ci := 8) (fi := 16) (by decide +kernel) rfl rfl ⟨Nat.le_of_ble_eq_true rfl, Nat.le_of_ble_eq_true rfl⟩ (by decide +kernel) rfl
theorem r150_56 (x0 : -2147483648 ≤ x) (x1 : x ≤ 2147483647) : xT d 150 56 (ls) (.int (xI x) :: st) h Q ↔ (x = 0 → xT d 150 59 (ls) (st) h Q) ∧ (¬ x = 0 → xT d 150 64 (ls) (st) h Q) := xT_ifne (off := 8) (by decide +kernel) rfl rfl x0 x1
theorem r150_59 : xT d 150 59 (.ref ov :: ls) (st) h Q ↔ xT d 150 60 (.ref ov :: ls) (.ref ov :: st) h Q := xT_aload_n (k := 0) (by decide +kernel) rfl rfl
theorem r150_60 : xT d 150 60 (l0 :: l1 :: l2 :: .int v :: ls) (st) h Q ↔ xT d 150 61 (l0 :: l1 :: l2 :: .int v :: ls) (.int v :: st) h Q := xT_iload_n (k := 3) (by decide +kernel) rfl rfl
theorem r150_61 {z0 : Int32} (hd : 1 ≤ d) : xT d 150 61 (ls) ([.int z0, .ref 21]) (hh f a g) Q ↔ xTC (d - 1) 149 [.ref 21, .int z0] (hh f a g) (xAf d 150 61 (ls) [] Q) := xT_virtual (k := 283) (na := 1) (ci := 8) (by decide +kernel) (by decide +kernel) (by decide +kernel) ⟨Nat.le_of_ble_eq_true rfl, Nat.le_of_ble_eq_true rfl⟩ rfl rfl (Nat.le_of_ble_eq_true rfl) rfl rfl ⟨Nat.le_of_ble_eq_true rfl, Nat.le_of_ble_eq_true rfl⟩ (Nat.le_of_ble_eq_true rfl) hd
theorem r150_64 : xT d 150 64 (.ref ov :: ls) (st) h Q ↔ xT d 150 65 (.ref ov :: ls) (.ref ov :: st) h Q := xT_aload_n (k := 0) (by decide +kernel) rfl rfl
theorem r150_65 : xT d 150 65 (ls) (.ref 21 :: st) (hh f a g) Q ↔ xT d 150 68 (ls) (.int (xI (f 21 16)) :: st) (hh f a g) Q := xT_getf (k := 244) (ci := 8) (fi := 16) (by decide +kernel) rfl rfl ⟨Nat.le_of_ble_eq_true rfl, Nat.le_of_ble_eq_true rfl⟩ (by decide +kernel) rfl
theorem r150_68 (x0 : -2147483648 ≤ x) (x1 : x ≤ 2147483647) : xT d 150 68 (ls) (.int (xI x) :: st) h Q ↔ (x = 0 → xT d 150 71 (ls) (st) h Q) ∧ (¬ x = 0 → xT d 150 86 (ls) (st) h Q) := xT_ifne (off := 18) (by decide +kernel) rfl rfl x0 x1
theorem r150_71 : xT d 150 71 (.ref ov :: ls) (st) h Q ↔ xT d 150 72 (.ref ov :: ls) (.ref ov :: st) h Q := xT_aload_n (k := 0) (by decide +kernel) rfl rfl
theorem r150_72 : xT d 150 72 (l0 :: l1 :: .int v :: ls) (st) h Q ↔ xT d 150 73 (l0 :: l1 :: .int v :: ls) (.int v :: st) h Q := xT_iload_n (k := 2) (by decide +kernel) rfl rfl
theorem r150_73 {z0 : Int32} (hd : 1 ≤ d) : xT d 150 73 (ls) ([.int z0, .ref 21]) (hh f a g) Q ↔ xTC (d - 1) 145 [.ref 21, .int z0] (hh f a g) (xAf d 150 73 (ls) [] Q) := xT_virtual (k := 269) (na := 1) (ci := 8) (by decide +kernel) (by decide +kernel) (by decide +kernel) ⟨Nat.le_of_ble_eq_true rfl, Nat.le_of_ble_eq_true rfl⟩ rfl rfl (Nat.le_of_ble_eq_true rfl) rfl rfl ⟨Nat.le_of_ble_eq_true rfl, Nat.le_of_ble_eq_true rfl⟩ (Nat.le_of_ble_eq_true rfl) hd
theorem r150_76 : xT d 150 76 (.ref ov :: ls) (st) h Q ↔ xT d 150 77 (.ref ov :: ls) (.ref ov :: st) h Q := xT_aload_n (k := 0) (by decide +kernel) rfl rfl
theorem r150_77 : xT d 150 77 (ls) (.ref ow :: st) h Q ↔ xT d 150 78 (ls) (.ref ow :: .ref ow :: st) h Q := xT_dup (by decide +kernel) rfl rfl
theorem r150_78 : xT d 150 78 (ls) (.ref 21 :: st) (hh f a g) Q ↔ xT d 150 81 (ls) (.int (xI (f 21 12)) :: st) (hh f a g) Q := xT_getf (k := 272) (ci := 8) (fi := 12) (by decide +kernel) rfl rfl ⟨Nat.le_of_ble_eq_true rfl, Nat.le_of_ble_eq_true rfl⟩ (by decide +kernel) rfl
theorem r150_81 : xT d 150 81 (ls) (st) h Q ↔ xT d 150 82 (ls) (.int (xI 1) :: st) h Q := xT_iconst (n := 1) (by decide +kernel) rfl
theorem r150_82 : xT d 150 82 (ls) (.int (xI y) :: .int (xI x) :: st) h Q ↔ xT d 150 83 (ls) (.int (xI (x + y)) :: st) h Q := xT_iadd (by decide +kernel) rfl
theorem r150_83 : xT d 150 83 (ls) (.int (xI x) :: .ref 21 :: st) (hh f a g) Q ↔ xT d 150 86 (ls) (st) (hh (xu f 21 12 x) a g) Q := xT_putf (k := 272) (ci := 8) (fi := 12) (by decide +kernel) rfl rfl ⟨Nat.le_of_ble_eq_true rfl, Nat.le_of_ble_eq_true rfl⟩ (by decide +kernel) (by decide +kernel) (by decide +kernel) rfl
theorem r150_86 : xT d 150 86 (ls) ([]) h Q ↔ Q (h, .returned none) := xT_return (by decide +kernel) rfl
theorem e150 {z0 : Nat} {z1 : Int32} : xTC d 150 [.ref z0, .int z1] h Q ↔ xT d 150 0 [.ref z0, .int z1, .null, .null] [] h Q := Iff.rfl
-- M_frame
theorem r151_0 : xT d 151 0 (.ref ov :: ls) (st) h Q ↔ xT d 151 1 (.ref ov :: ls) (.ref ov :: st) h Q := xT_aload_n (k := 0) (by decide +kernel) rfl rfl
theorem r151_1 : xT d 151 1 (l0 :: .int v :: ls) (st) h Q ↔ xT d 151 2 (l0 :: .int v :: ls) (.int v :: st) h Q := xT_iload_n (k := 1) (by decide +kernel) rfl rfl
theorem r151_2 : xT d 151 2 (ls) (st) h Q ↔ xT d 151 3 (ls) (.int (xI 0) :: st) h Q := xT_iconst (n := 0) (by decide +kernel) rfl
theorem r151_3 : xT d 151 3 (ls) (st) h Q ↔ xT d 151 5 (ls) (.int (xI 65535) :: st) h Q := xT_ldc (k := 66) (n := 65535) (by decide +kernel) rfl (by decide +kernel)
theorem r151_5 {z0 : Int32} {z1 : Int32} {z2 : Int32} {z3 : Nat} (hd : 1 ≤ d) : xT d 151 5 (ls) ([.int z0, .int z1, .int z2, .ref z3]) h Q ↔ xTC (d - 1) 129 [.int z2, .int z1, .int z0] h (xAf d 151 5 (ls) [.ref z3] Q) := xT_static (k := 59) (na := 3) (by decide +kernel) (by decide +kernel) ⟨Nat.le_of_ble_eq_true rfl, Nat.le_of_ble_eq_true rfl⟩ rfl rfl (Nat.le_of_ble_eq_true rfl) (Nat.le_of_ble_eq_true rfl) hd
theorem r151_8 (x0 : -2147483648 ≤ x) (x1 : x ≤ 2147483647) : xT d 151 8 (ls) (.int (xI x) :: st) h Q ↔ (x = 0 → xT d 151 33 (ls) (st) h Q) ∧ (¬ x = 0 → xT d 151 11 (ls) (st) h Q) := xT_ifeq (off := 25) (by decide +kernel) rfl rfl x0 x1
theorem r151_11 : xT d 151 11 (.ref ov :: ls) (st) h Q ↔ xT d 151 12 (.ref ov :: ls) (.ref ov :: st) h Q := xT_aload_n (k := 0) (by decide +kernel) rfl rfl
theorem r151_12 : xT d 151 12 (ls) (.ref 21 :: st) (hh f a g) Q ↔ xT d 151 15 (ls) (.int (xI (f 21 4)) :: st) (hh f a g) Q := xT_getf (k := 63) (ci := 8) (fi := 4) (by decide +kernel) rfl rfl ⟨Nat.le_of_ble_eq_true rfl, Nat.le_of_ble_eq_true rfl⟩ (by decide +kernel) rfl
theorem r151_15 (x0 : -2147483648 ≤ x) (x1 : x ≤ 2147483647) : xT d 151 15 (ls) (.int (xI x) :: st) h Q ↔ (0 < x → xT d 151 18 (ls) (st) h Q) ∧ (¬ 0 < x → xT d 151 37 (ls) (st) h Q) := xT_ifle (off := 22) (by decide +kernel) rfl rfl x0 x1
theorem r151_18 : xT d 151 18 (l0 :: .int v :: ls) (st) h Q ↔ xT d 151 19 (l0 :: .int v :: ls) (.int v :: st) h Q := xT_iload_n (k := 1) (by decide +kernel) rfl rfl
theorem r151_19 : xT d 151 19 (.ref ov :: ls) (st) h Q ↔ xT d 151 20 (.ref ov :: ls) (.ref ov :: st) h Q := xT_aload_n (k := 0) (by decide +kernel) rfl rfl
theorem r151_20 : xT d 151 20 (ls) (.ref 21 :: st) (hh f a g) Q ↔ xT d 151 23 (ls) (.ref 22 :: st) (hh f a g) Q := xT_getf (k := 19) (ci := 8) (fi := 5) (by decide +kernel) rfl rfl ⟨Nat.le_of_ble_eq_true rfl, Nat.le_of_ble_eq_true rfl⟩ (by decide +kernel) rfl
theorem r151_23 : xT d 151 23 (.ref ov :: ls) (st) h Q ↔ xT d 151 24 (.ref ov :: ls) (.ref ov :: st) h Q := xT_aload_n (k := 0) (by decide +kernel) rfl rfl
theorem r151_24 : xT d 151 24 (ls) (.ref 21 :: st) (hh f a g) Q ↔ xT d 151 27 (ls) (.int (xI (f 21 4)) :: st) (hh f a g) Q := xT_getf (k := 63) (ci := 8) (fi := 4) (by decide +kernel) rfl rfl ⟨Nat.le_of_ble_eq_true rfl, Nat.le_of_ble_eq_true rfl⟩ (by decide +kernel) rfl
theorem r151_27 : xT d 151 27 (ls) (st) h Q ↔ xT d 151 28 (ls) (.int (xI 1) :: st) h Q := xT_iconst (n := 1) (by decide +kernel) rfl
theorem r151_28 : xT d 151 28 (ls) (.int (xI y) :: .int (xI x) :: st) h Q ↔ xT d 151 29 (ls) (.int (xI (x - y)) :: st) h Q := xT_isub (by decide +kernel) rfl
theorem r151_29 (x0 : 0 ≤ x) (x1 : x < 3) : xT d 151 29 (ls) (.int (xI x) :: .ref 22 :: st) (hh f a g) Q ↔ xT d 151 30 (ls) (.int (xI (a 22 x)) :: st) (hh f a g) Q := xT_iaload (N := 3) (by decide +kernel) rfl rfl (Nat.le_of_ble_eq_true rfl) x0 x1 (Nat.le_of_ble_eq_true rfl)
theorem r151_30 (x0 : -2147483648 ≤ x) (x1 : x ≤ 2147483647) (y0 : -2147483648 ≤ y) (y1 : y ≤ 2147483647) : xT d 151 30 (ls) (.int (xI y) :: .int (xI x) :: st) h Q ↔ (y < x → xT d 151 37 (ls) (st) h Q) ∧ (¬ y < x → xT d 151 33 (ls) (st) h Q) := xT_icgt (off := 7) (by decide +kernel) rfl rfl x0 x1 y0 y1
theorem r151_33 : xT d 151 33 (ls) (st) h Q ↔ xT d 151 34 (ls) (.int (xI 1) :: st) h Q := xT_iconst (n := 1) (by decide +kernel) rfl
theorem r151_34 : xT d 151 34 (ls) (st) h Q ↔ xT d 151 50 (ls) (st) h Q := xT_goto (off := 16) (by decide +kernel) rfl
theorem r151_37 : xT d 151 37 (.ref ov :: ls) (st) h Q ↔ xT d 151 38 (.ref ov :: ls) (.ref ov :: st) h Q := xT_aload_n (k := 0) (by decide +kernel) rfl rfl
theorem r151_38 : xT d 151 38 (ls) (.ref 21 :: st) (hh f a g) Q ↔ xT d 151 41 (ls) (.int (xI (f 21 4)) :: st) (hh f a g) Q := xT_getf (k := 63) (ci := 8) (fi := 4) (by decide +kernel) rfl rfl ⟨Nat.le_of_ble_eq_true rfl, Nat.le_of_ble_eq_true rfl⟩ (by decide +kernel) rfl
theorem r151_41 : xT d 151 41 (ls) (st) h Q ↔ xT d 151 42 (ls) (.int (xI 3) :: st) h Q := xT_iconst (n := 3) (by decide +kernel) rfl
theorem r151_42 (x0 : -2147483648 ≤ x) (x1 : x ≤ 2147483647) (y0 : -2147483648 ≤ y) (y1 : y ≤ 2147483647) : xT d 151 42 (ls) (.int (xI y) :: .int (xI x) :: st) h Q ↔ (x = y → xT d 151 45 (ls) (st) h Q) ∧ (¬ x = y → xT d 151 49 (ls) (st) h Q) := xT_icne (off := 7) (by decide +kernel) rfl rfl x0 x1 y0 y1
theorem r151_45 : xT d 151 45 (ls) (st) h Q ↔ xT d 151 46 (ls) (.int (xI 2) :: st) h Q := xT_iconst (n := 2) (by decide +kernel) rfl
theorem r151_46 : xT d 151 46 (ls) (st) h Q ↔ xT d 151 50 (ls) (st) h Q := xT_goto (off := 4) (by decide +kernel) rfl
theorem r151_49 : xT d 151 49 (ls) (st) h Q ↔ xT d 151 50 (ls) (.int (xI 0) :: st) h Q := xT_iconst (n := 0) (by decide +kernel) rfl
theorem r151_50 : xT d 151 50 (ls) (.int (xI x) :: .ref 21 :: st) (hh f a g) Q ↔ xT d 151 53 (ls) (st) (hh (xu f 21 0 x) a g) Q := xT_putf (k := 56) (ci := 8) (fi := 0) (by decide +kernel) rfl rfl ⟨Nat.le_of_ble_eq_true rfl, Nat.le_of_ble_eq_true rfl⟩ (by decide +kernel) (by decide +kernel) (by decide +kernel) rfl
theorem r151_53 : xT d 151 53 (.ref ov :: ls) (st) h Q ↔ xT d 151 54 (.ref ov :: ls) (.ref ov :: st) h Q := xT_aload_n (k := 0) (by decide +kernel) rfl rfl
theorem r151_54 : xT d 151 54 (ls) (.ref 21 :: st) (hh f a g) Q ↔ xT d 151 57 (ls) (.int (xI (f 21 0)) :: st) (hh f a g) Q := xT_getf (k := 56) (ci := 8) (fi := 0) (by decide +kernel) rfl rfl ⟨Nat.le_of_ble_eq_true rfl, Nat.le_of_ble_eq_true rfl⟩ (by decide +kernel) rfl
theorem r151_57 (x0 : -2147483648 ≤ x) (x1 : x ≤ 2147483647) : xT d 151 57 (ls) (.int (xI x) :: st) h Q ↔ (0 < x → xT d 151 60 (ls) (st) h Q) ∧ (¬ 0 < x → xT d 151 62 (ls) (st) h Q) := xT_ifle (off := 5) (by decide +kernel) rfl rfl x0 x1
theorem r151_60 : xT d 151 60 (ls) (st) h Q ↔ xT d 151 61 (ls) (.int (xI 0) :: st) h Q := xT_iconst (n := 0) (by decide +kernel) rfl
theorem r151_61 : xT d 151 61 (ls) ([.int (xI x)]) h Q ↔ Q (h, .returned (some (.int (xI x)))) := xT_ireturn (by decide +kernel) rfl
theorem r151_62 : xT d 151 62 (.ref ov :: ls) (st) h Q ↔ xT d 151 63 (.ref ov :: ls) (.ref ov :: st) h Q := xT_aload_n (k := 0) (by decide +kernel) rfl rfl
theorem r151_63 : xT d 151 63 (ls) (.ref 21 :: st) (hh f a g) Q ↔ xT d 151 66 (ls) (.ref 22 :: st) (hh f a g) Q := xT_getf (k := 19) (ci := 8) (fi := 5) (by decide +kernel) rfl rfl ⟨Nat.le_of_ble_eq_true rfl, Nat.le_of_ble_eq_true rfl⟩ (by decide +kernel) rfl
theorem r151_66 : xT d 151 66 (.ref ov :: ls) (st) h Q ↔ xT d 151 67 (.ref ov :: ls) (.ref ov :: st) h Q := xT_aload_n (k := 0) (by decide +kernel) rfl rfl
theorem r151_67 : xT d 151 67 (ls) (.ref 21 :: st) (hh f a g) Q ↔ xT d 151 70 (ls) (.int (xI (f 21 4)) :: st) (hh f a g) Q := xT_getf (k := 63) (ci := 8) (fi := 4) (by decide +kernel) rfl rfl ⟨Nat.le_of_ble_eq_true rfl, Nat.le_of_ble_eq_true rfl⟩ (by decide +kernel) rfl
theorem r151_70 : xT d 151 70 (l0 :: .int v :: ls) (st) h Q ↔ xT d 151 71 (l0 :: .int v :: ls) (.int v :: st) h Q := xT_iload_n (k := 1) (by decide +kernel) rfl rfl
theorem r151_71 (x0 : 0 ≤ x) (x1 : x < 3) : xT d 151 71 (ls) (.int (xI y) :: .int (xI x) :: .ref 22 :: st) (hh f a g) Q ↔ xT d 151 72 (ls) (st) (hh f (xw a 22 x y) g) Q := xT_iastore (N := 3) (by decide +kernel) rfl rfl ⟨Nat.le_of_ble_eq_true rfl, Nat.le_of_ble_eq_true rfl⟩ x0 x1 (Nat.le_of_ble_eq_true rfl)
theorem r151_72 : xT d 151 72 (ls) (st) h Q ↔ xT d 151 73 (ls) (.int (xI 0) :: st) h Q := xT_iconst (n := 0) (by decide +kernel) rfl
theorem r151_73 : xT d 151 73 ([l0, .int w, l2]) (.int v :: st) h Q ↔ xT d 151 74 ([l0, .int w, .int v]) (st) h Q := xT_istore_n (k := 2) (by decide +kernel) rfl (Nat.le_of_ble_eq_true rfl) rfl
theorem r151_74 : xT d 151 74 (l0 :: l1 :: .int v :: ls) (st) h Q ↔ xT d 151 75 (l0 :: l1 :: .int v :: ls) (.int v :: st) h Q := xT_iload_n (k := 2) (by decide +kernel) rfl rfl
theorem r151_75 : xT d 151 75 (ls) (st) h Q ↔ xT d 151 77 (ls) (.int (xI 108) :: st) h Q := xT_bipush (n := 108) (by decide +kernel) rfl (by decide +kernel)
theorem r151_77 (x0 : -2147483648 ≤ x) (x1 : x ≤ 2147483647) (y0 : -2147483648 ≤ y) (y1 : y ≤ 2147483647) : xT d 151 77 (ls) (.int (xI y) :: .int (xI x) :: st) h Q ↔ (x < y → xT d 151 80 (ls) (st) h Q) ∧ (¬ x < y → xT d 151 101 (ls) (st) h Q) := xT_icge (off := 24) (by decide +kernel) rfl rfl x0 x1 y0 y1
theorem r151_80 : xT d 151 80 (.ref ov :: ls) (st) h Q ↔ xT d 151 81 (.ref ov :: ls) (.ref ov :: st) h Q := xT_aload_n (k := 0) (by decide +kernel) rfl rfl
theorem r151_81 : xT d 151 81 (ls) (.ref 21 :: st) (hh f a g) Q ↔ xT d 151 84 (ls) (.ref 23 :: st) (hh f a g) Q := xT_getf (k := 23) (ci := 8) (fi := 6) (by decide +kernel) rfl rfl ⟨Nat.le_of_ble_eq_true rfl, Nat.le_of_ble_eq_true rfl⟩ (by decide +kernel) rfl
theorem r151_84 : xT d 151 84 (ls) (st) h Q ↔ xT d 151 86 (ls) (.int (xI 108) :: st) h Q := xT_bipush (n := 108) (by decide +kernel) rfl (by decide +kernel)
theorem r151_86 : xT d 151 86 (.ref ov :: ls) (st) h Q ↔ xT d 151 87 (.ref ov :: ls) (.ref ov :: st) h Q := xT_aload_n (k := 0) (by decide +kernel) rfl rfl
theorem r151_87 : xT d 151 87 (ls) (.ref 21 :: st) (hh f a g) Q ↔ xT d 151 90 (ls) (.int (xI (f 21 4)) :: st) (hh f a g) Q := xT_getf (k := 63) (ci := 8) (fi := 4) (by decide +kernel) rfl rfl ⟨Nat.le_of_ble_eq_true rfl, Nat.le_of_ble_eq_true rfl⟩ (by decide +kernel) rfl
theorem r151_90 : xT d 151 90 (ls) (.int (xI y) :: .int (xI x) :: st) h Q ↔ xT d 151 91 (ls) (.int (xI (x * y)) :: st) h Q := xT_imul (by decide +kernel) rfl
theorem r151_91 : xT d 151 91 (l0 :: l1 :: .int v :: ls) (st) h Q ↔ xT d 151 92 (l0 :: l1 :: .int v :: ls) (.int v :: st) h Q := xT_iload_n (k := 2) (by decide +kernel) rfl rfl
theorem r151_92 : xT d 151 92 (ls) (.int (xI y) :: .int (xI x) :: st) h Q ↔ xT d 151 93 (ls) (.int (xI (x + y)) :: st) h Q := xT_iadd (by decide +kernel) rfl
theorem r151_93 : xT d 151 93 (ls) (st) h Q ↔ xT d 151 94 (ls) (.int (xI 0) :: st) h Q := xT_iconst (n := 0) (by decide +kernel) rfl
theorem r151_94 (x0 : 0 ≤ x) (x1 : x < 324) : xT d 151 94 (ls) (.int (xI y) :: .int (xI x) :: .ref 23 :: st) (hh f a g) Q ↔ xT d 151 95 (ls) (st) (hh f (xw a 23 x y) g) Q := xT_iastore (N := 324) (by decide +kernel) rfl rfl ⟨Nat.le_of_ble_eq_true rfl, Nat.le_of_ble_eq_true rfl⟩ x0 x1 (Nat.le_of_ble_eq_true rfl)
theorem r151_95 : xT d 151 95 ([l0, .int w, .int (xI x)]) (st) h Q ↔ xT d 151 98 ([l0, .int w, .int (xI (x + 1))]) (st) h Q := xT_iinc (k := 2) (by decide +kernel) rfl rfl rfl
theorem r151_98 : xT d 151 98 (ls) (st) h Q ↔ xT d 151 74 (ls) (st) h Q := xT_goto (off := (-24)) (by decide +kernel) rfl
theorem r151_101 : xT d 151 101 (.ref ov :: ls) (st) h Q ↔ xT d 151 102 (.ref ov :: ls) (.ref ov :: st) h Q := xT_aload_n (k := 0) (by decide +kernel) rfl rfl
theorem r151_102 : xT d 151 102 (ls) (.ref ow :: st) h Q ↔ xT d 151 103 (ls) (.ref ow :: .ref ow :: st) h Q := xT_dup (by decide +kernel) rfl rfl
theorem r151_103 : xT d 151 103 (ls) (.ref 21 :: st) (hh f a g) Q ↔ xT d 151 106 (ls) (.int (xI (f 21 4)) :: st) (hh f a g) Q := xT_getf (k := 63) (ci := 8) (fi := 4) (by decide +kernel) rfl rfl ⟨Nat.le_of_ble_eq_true rfl, Nat.le_of_ble_eq_true rfl⟩ (by decide +kernel) rfl
theorem r151_106 : xT d 151 106 (ls) (st) h Q ↔ xT d 151 107 (ls) (.int (xI 1) :: st) h Q := xT_iconst (n := 1) (by decide +kernel) rfl
theorem r151_107 : xT d 151 107 (ls) (.int (xI y) :: .int (xI x) :: st) h Q ↔ xT d 151 108 (ls) (.int (xI (x + y)) :: st) h Q := xT_iadd (by decide +kernel) rfl
theorem r151_108 : xT d 151 108 (ls) (.int (xI x) :: .ref 21 :: st) (hh f a g) Q ↔ xT d 151 111 (ls) (st) (hh (xu f 21 4 x) a g) Q := xT_putf (k := 63) (ci := 8) (fi := 4) (by decide +kernel) rfl rfl ⟨Nat.le_of_ble_eq_true rfl, Nat.le_of_ble_eq_true rfl⟩ (by decide +kernel) (by decide +kernel) (by decide +kernel) rfl
theorem r151_111 : xT d 151 111 (.ref ov :: ls) (st) h Q ↔ xT d 151 112 (.ref ov :: ls) (.ref ov :: st) h Q := xT_aload_n (k := 0) (by decide +kernel) rfl rfl
theorem r151_112 : xT d 151 112 (ls) (.ref 21 :: st) (hh f a g) Q ↔ xT d 151 115 (ls) (.int (xI (f 21 4)) :: st) (hh f a g) Q := xT_getf (k := 63) (ci := 8) (fi := 4) (by decide +kernel) rfl rfl ⟨Nat.le_of_ble_eq_true rfl, Nat.le_of_ble_eq_true rfl⟩ (by decide +kernel) rfl
theorem r151_115 : xT d 151 115 (ls) (st) h Q ↔ xT d 151 116 (ls) (.int (xI 1) :: st) h Q := xT_iconst (n := 1) (by decide +kernel) rfl
theorem r151_116 : xT d 151 116 (ls) (.int (xI y) :: .int (xI x) :: st) h Q ↔ xT d 151 117 (ls) (.int (xI (x - y)) :: st) h Q := xT_isub (by decide +kernel) rfl
theorem r151_117 : xT d 151 117 (ls) ([.int (xI x)]) h Q ↔ Q (h, .returned (some (.int (xI x)))) := xT_ireturn (by decide +kernel) rfl
theorem e151 {z0 : Nat} {z1 : Int32} : xTC d 151 [.ref z0, .int z1] h Q ↔ xT d 151 0 [.ref z0, .int z1, .null] [] h Q := Iff.rfl
-- M_readAll
theorem r152_0 : xT d 152 0 (.ref ov :: ls) (st) h Q ↔ xT d 152 1 (.ref ov :: ls) (.ref ov :: st) h Q := xT_aload_n (k := 0) (by decide +kernel) rfl rfl
theorem r152_1 : xT d 152 1 (ls) (st) h Q ↔ xT d 152 3 (ls) (.int (xI 26) :: st) h Q := xT_bipush (n := 26) (by decide +kernel) rfl (by decide +kernel)
theorem r152_3 : xT d 152 3 (.ref ov :: ls) (st) h Q ↔ xT d 152 4 (.ref ov :: ls) (.ref ov :: st) h Q := xT_aload_n (k := 0) (by decide +kernel) rfl rfl
theorem r152_4 : xT d 152 4 (ls) (.ref 21 :: st) (hh f a g) Q ↔ xT d 152 7 (ls) (.int (xI (f 21 7)) :: st) (hh f a g) Q := xT_getf (k := 205) (ci := 8) (fi := 7) (by decide +kernel) rfl rfl ⟨Nat.le_of_ble_eq_true rfl, Nat.le_of_ble_eq_true rfl⟩ (by decide +kernel) rfl
theorem r152_7 : xT d 152 7 (ls) (st) h Q ↔ xT d 152 8 (ls) (.int (xI (-1)) :: st) h Q := xT_iconst (n := (-1)) (by decide +kernel) rfl
theorem r152_8 {z0 : Int32} {z1 : Int32} {z2 : Int32} (hd : 1 ≤ d) : xT d 152 8 (ls) ([.int z0, .int z1, .int z2, .ref 21]) (hh f a g) Q ↔ xTC (d - 1) 144 [.ref 21, .int z2, .int z1, .int z0] (hh f a g) (xAf d 152 8 (ls) [] Q) := xT_virtual (k := 256) (na := 3) (ci := 8) (by decide +kernel) (by decide +kernel) (by decide +kernel) ⟨Nat.le_of_ble_eq_true rfl, Nat.le_of_ble_eq_true rfl⟩ rfl rfl (Nat.le_of_ble_eq_true rfl) rfl rfl ⟨Nat.le_of_ble_eq_true rfl, Nat.le_of_ble_eq_true rfl⟩ (Nat.le_of_ble_eq_true rfl) hd
theorem r152_11 : xT d 152 11 ([.ref ow, l1, l2, l3, l4]) (.int v :: st) h Q ↔ xT d 152 12 ([.ref ow, .int v, l2, l3, l4]) (st) h Q := xT_istore_n (k := 1) (by decide +kernel) rfl (Nat.le_of_ble_eq_true rfl) rfl
theorem r152_12 : xT d 152 12 (.ref ov :: ls) (st) h Q ↔ xT d 152 13 (.ref ov :: ls) (.ref ov :: st) h Q := xT_aload_n (k := 0) (by decide +kernel) rfl rfl
theorem r152_13 : xT d 152 13 (ls) (.ref 21 :: st) (hh f a g) Q ↔ xT d 152 16 (ls) (.int (xI (f 21 16)) :: st) (hh f a g) Q := xT_getf (k := 244) (ci := 8) (fi := 16) (by decide +kernel) rfl rfl ⟨Nat.le_of_ble_eq_true rfl, Nat.le_of_ble_eq_true rfl⟩ (by decide +kernel) rfl
theorem r152_16 (x0 : -2147483648 ≤ x) (x1 : x ≤ 2147483647) : xT d 152 16 (ls) (.int (xI x) :: st) h Q ↔ (x = 0 → xT d 152 23 (ls) (st) h Q) ∧ (¬ x = 0 → xT d 152 19 (ls) (st) h Q) := xT_ifeq (off := 7) (by decide +kernel) rfl rfl x0 x1
theorem r152_19 : xT d 152 19 (ls) (st) h Q ↔ xT d 152 20 (ls) (.int (xI 0) :: st) h Q := xT_iconst (n := 0) (by decide +kernel) rfl
theorem r152_20 : xT d 152 20 (ls) (st) h Q ↔ xT d 152 32 (ls) (st) h Q := xT_goto (off := 12) (by decide +kernel) rfl
theorem r152_23 : xT d 152 23 (.ref ov :: ls) (st) h Q ↔ xT d 152 24 (.ref ov :: ls) (.ref ov :: st) h Q := xT_aload_n (k := 0) (by decide +kernel) rfl rfl
theorem r152_24 : xT d 152 24 (ls) (st) h Q ↔ xT d 152 26 (ls) (.int (xI 66) :: st) h Q := xT_bipush (n := 66) (by decide +kernel) rfl (by decide +kernel)
theorem r152_26 : xT d 152 26 (l0 :: .int v :: ls) (st) h Q ↔ xT d 152 27 (l0 :: .int v :: ls) (.int v :: st) h Q := xT_iload_n (k := 1) (by decide +kernel) rfl rfl
theorem r152_27 : xT d 152 27 (ls) (st) h Q ↔ xT d 152 28 (ls) (.int (xI 1) :: st) h Q := xT_iconst (n := 1) (by decide +kernel) rfl
theorem r152_28 : xT d 152 28 (ls) (st) h Q ↔ xT d 152 29 (ls) (.int (xI 1) :: st) h Q := xT_iconst (n := 1) (by decide +kernel) rfl
theorem r152_29 {z0 : Int32} {z1 : Int32} {z2 : Int32} {z3 : Int32} (hd : 1 ≤ d) : xT d 152 29 (ls) ([.int z0, .int z1, .int z2, .int z3, .ref 21]) (hh f a g) Q ↔ xTC (d - 1) 146 [.ref 21, .int z3, .int z2, .int z1, .int z0] (hh f a g) (xAf d 152 29 (ls) [] Q) := xT_virtual (k := 259) (na := 4) (ci := 8) (by decide +kernel) (by decide +kernel) (by decide +kernel) ⟨Nat.le_of_ble_eq_true rfl, Nat.le_of_ble_eq_true rfl⟩ rfl rfl (Nat.le_of_ble_eq_true rfl) rfl rfl ⟨Nat.le_of_ble_eq_true rfl, Nat.le_of_ble_eq_true rfl⟩ (Nat.le_of_ble_eq_true rfl) hd
theorem r152_32 : xT d 152 32 ([l0, .int w, l2, l3, l4]) (.int v :: st) h Q ↔ xT d 152 33 ([l0, .int w, .int v, l3, l4]) (st) h Q := xT_istore_n (k := 2) (by decide +kernel) rfl (Nat.le_of_ble_eq_true rfl) rfl
theorem r152_33 : xT d 152 33 (.ref ov :: ls) (st) h Q ↔ xT d 152 34 (.ref ov :: ls) (.ref ov :: st) h Q := xT_aload_n (k := 0) (by decide +kernel) rfl rfl
theorem r152_34 : xT d 152 34 (ls) (.ref 21 :: st) (hh f a g) Q ↔ xT d 152 37 (ls) (.int (xI (f 21 16)) :: st) (hh f a g) Q := xT_getf (k := 244) (ci := 8) (fi := 16) (by decide +kernel) rfl rfl ⟨Nat.le_of_ble_eq_true rfl, Nat.le_of_ble_eq_true rfl⟩ (by decide +kernel) rfl
theorem r152_37 (x0 : -2147483648 ≤ x) (x1 : x ≤ 2147483647) : xT d 152 37 (ls) (.int (xI x) :: st) h Q ↔ (x = 0 → xT d 152 40 (ls) (st) h Q) ∧ (¬ x = 0 → xT d 152 45 (ls) (st) h Q) := xT_ifne (off := 8) (by decide +kernel) rfl rfl x0 x1
theorem r152_40 : xT d 152 40 (l0 :: l1 :: .int v :: ls) (st) h Q ↔ xT d 152 41 (l0 :: l1 :: .int v :: ls) (.int v :: st) h Q := xT_iload_n (k := 2) (by decide +kernel) rfl rfl
theorem r152_41 : xT d 152 41 (ls) (st) h Q ↔ xT d 152 42 (ls) (.int (xI 1) :: st) h Q := xT_iconst (n := 1) (by decide +kernel) rfl
theorem r152_42 (x0 : -2147483648 ≤ x) (x1 : x ≤ 2147483647) (y0 : -2147483648 ≤ y) (y1 : y ≤ 2147483647) : xT d 152 42 (ls) (.int (xI y) :: .int (xI x) :: st) h Q ↔ (x = y → xT d 152 46 (ls) (st) h Q) ∧ (¬ x = y → xT d 152 45 (ls) (st) h Q) := xT_iceq (off := 4) (by decide +kernel) rfl rfl x0 x1 y0 y1
theorem r152_45 : xT d 152 45 (ls) ([]) h Q ↔ Q (h, .returned none) := xT_return (by decide +kernel) rfl
theorem r152_46 : xT d 152 46 (.ref ov :: ls) (st) h Q ↔ xT d 152 47 (.ref ov :: ls) (.ref ov :: st) h Q := xT_aload_n (k := 0) (by decide +kernel) rfl rfl
theorem r152_47 : xT d 152 47 (l0 :: .int v :: ls) (st) h Q ↔ xT d 152 48 (l0 :: .int v :: ls) (.int v :: st) h Q := xT_iload_n (k := 1) (by decide +kernel) rfl rfl
theorem r152_48 {z0 : Int32} (hd : 1 ≤ d) : xT d 152 48 (ls) ([.int z0, .ref 21]) (hh f a g) Q ↔ xTC (d - 1) 145 [.ref 21, .int z0] (hh f a g) (xAf d 152 48 (ls) [] Q) := xT_virtual (k := 269) (na := 1) (ci := 8) (by decide +kernel) (by decide +kernel) (by decide +kernel) ⟨Nat.le_of_ble_eq_true rfl, Nat.le_of_ble_eq_true rfl⟩ rfl rfl (Nat.le_of_ble_eq_true rfl) rfl rfl ⟨Nat.le_of_ble_eq_true rfl, Nat.le_of_ble_eq_true rfl⟩ (Nat.le_of_ble_eq_true rfl) hd
theorem r152_51 : xT d 152 51 (.ref ov :: ls) (st) h Q ↔ xT d 152 52 (.ref ov :: ls) (.ref ov :: st) h Q := xT_aload_n (k := 0) (by decide +kernel) rfl rfl
theorem r152_52 : xT d 152 52 (ls) (.ref 21 :: st) (hh f a g) Q ↔ xT d 152 55 (ls) (.int (xI (f 21 16)) :: st) (hh f a g) Q := xT_getf (k := 244) (ci := 8) (fi := 16) (by decide +kernel) rfl rfl ⟨Nat.le_of_ble_eq_true rfl, Nat.le_of_ble_eq_true rfl⟩ (by decide +kernel) rfl
theorem r152_55 (x0 : -2147483648 ≤ x) (x1 : x ≤ 2147483647) : xT d 152 55 (ls) (.int (xI x) :: st) h Q ↔ (x = 0 → xT d 152 62 (ls) (st) h Q) ∧ (¬ x = 0 → xT d 152 58 (ls) (st) h Q) := xT_ifeq (off := 7) (by decide +kernel) rfl rfl x0 x1
theorem r152_58 : xT d 152 58 (ls) (st) h Q ↔ xT d 152 59 (ls) (.int (xI 0) :: st) h Q := xT_iconst (n := 0) (by decide +kernel) rfl
theorem r152_59 : xT d 152 59 (ls) (st) h Q ↔ xT d 152 73 (ls) (st) h Q := xT_goto (off := 14) (by decide +kernel) rfl
theorem r152_62 : xT d 152 62 (.ref ov :: ls) (st) h Q ↔ xT d 152 63 (.ref ov :: ls) (.ref ov :: st) h Q := xT_aload_n (k := 0) (by decide +kernel) rfl rfl
theorem r152_63 : xT d 152 63 (ls) (st) h Q ↔ xT d 152 65 (ls) (.int (xI 24) :: st) h Q := xT_bipush (n := 24) (by decide +kernel) rfl (by decide +kernel)
theorem r152_65 : xT d 152 65 (.ref ov :: ls) (st) h Q ↔ xT d 152 66 (.ref ov :: ls) (.ref ov :: st) h Q := xT_aload_n (k := 0) (by decide +kernel) rfl rfl
theorem r152_66 : xT d 152 66 (ls) (.ref 21 :: st) (hh f a g) Q ↔ xT d 152 69 (ls) (.int (xI (f 21 7)) :: st) (hh f a g) Q := xT_getf (k := 205) (ci := 8) (fi := 7) (by decide +kernel) rfl rfl ⟨Nat.le_of_ble_eq_true rfl, Nat.le_of_ble_eq_true rfl⟩ (by decide +kernel) rfl
theorem r152_69 : xT d 152 69 (ls) (st) h Q ↔ xT d 152 70 (ls) (.int (xI (-1)) :: st) h Q := xT_iconst (n := (-1)) (by decide +kernel) rfl
theorem r152_70 {z0 : Int32} {z1 : Int32} {z2 : Int32} (hd : 1 ≤ d) : xT d 152 70 (ls) ([.int z0, .int z1, .int z2, .ref 21]) (hh f a g) Q ↔ xTC (d - 1) 144 [.ref 21, .int z2, .int z1, .int z0] (hh f a g) (xAf d 152 70 (ls) [] Q) := xT_virtual (k := 256) (na := 3) (ci := 8) (by decide +kernel) (by decide +kernel) (by decide +kernel) ⟨Nat.le_of_ble_eq_true rfl, Nat.le_of_ble_eq_true rfl⟩ rfl rfl (Nat.le_of_ble_eq_true rfl) rfl rfl ⟨Nat.le_of_ble_eq_true rfl, Nat.le_of_ble_eq_true rfl⟩ (Nat.le_of_ble_eq_true rfl) hd
theorem r152_73 : xT d 152 73 ([l0, l1, .int w, l3, l4]) (.int v :: st) h Q ↔ xT d 152 74 ([l0, l1, .int w, .int v, l4]) (st) h Q := xT_istore_n (k := 3) (by decide +kernel) rfl (Nat.le_of_ble_eq_true rfl) rfl
theorem r152_74 : xT d 152 74 (.ref ov :: ls) (st) h Q ↔ xT d 152 75 (.ref ov :: ls) (.ref ov :: st) h Q := xT_aload_n (k := 0) (by decide +kernel) rfl rfl
theorem r152_75 : xT d 152 75 (ls) (.ref 21 :: st) (hh f a g) Q ↔ xT d 152 78 (ls) (.int (xI (f 21 16)) :: st) (hh f a g) Q := xT_getf (k := 244) (ci := 8) (fi := 16) (by decide +kernel) rfl rfl ⟨Nat.le_of_ble_eq_true rfl, Nat.le_of_ble_eq_true rfl⟩ (by decide +kernel) rfl
theorem r152_78 (x0 : -2147483648 ≤ x) (x1 : x ≤ 2147483647) : xT d 152 78 (ls) (.int (xI x) :: st) h Q ↔ (x = 0 → xT d 152 85 (ls) (st) h Q) ∧ (¬ x = 0 → xT d 152 81 (ls) (st) h Q) := xT_ifeq (off := 7) (by decide +kernel) rfl rfl x0 x1
theorem r152_81 : xT d 152 81 (ls) (st) h Q ↔ xT d 152 82 (ls) (.int (xI 0) :: st) h Q := xT_iconst (n := 0) (by decide +kernel) rfl
theorem r152_82 : xT d 152 82 (ls) (st) h Q ↔ xT d 152 94 (ls) (st) h Q := xT_goto (off := 12) (by decide +kernel) rfl
theorem r152_85 : xT d 152 85 (.ref ov :: ls) (st) h Q ↔ xT d 152 86 (.ref ov :: ls) (.ref ov :: st) h Q := xT_aload_n (k := 0) (by decide +kernel) rfl rfl
theorem r152_86 : xT d 152 86 (ls) (st) h Q ↔ xT d 152 89 (ls) (.int (xI 174) :: st) h Q := xT_sipush (n := 174) (by decide +kernel) rfl (by decide +kernel)
theorem r152_89 : xT d 152 89 (l0 :: l1 :: l2 :: .int v :: ls) (st) h Q ↔ xT d 152 90 (l0 :: l1 :: l2 :: .int v :: ls) (.int v :: st) h Q := xT_iload_n (k := 3) (by decide +kernel) rfl rfl
theorem r152_90 : xT d 152 90 (ls) (st) h Q ↔ xT d 152 91 (ls) (.int (xI (-1)) :: st) h Q := xT_iconst (n := (-1)) (by decide +kernel) rfl
theorem r152_91 {z0 : Int32} {z1 : Int32} {z2 : Int32} (hd : 1 ≤ d) : xT d 152 91 (ls) ([.int z0, .int z1, .int z2, .ref 21]) (hh f a g) Q ↔ xTC (d - 1) 144 [.ref 21, .int z2, .int z1, .int z0] (hh f a g) (xAf d 152 91 (ls) [] Q) := xT_virtual (k := 256) (na := 3) (ci := 8) (by decide +kernel) (by decide +kernel) (by decide +kernel) ⟨Nat.le_of_ble_eq_true rfl, Nat.le_of_ble_eq_true rfl⟩ rfl rfl (Nat.le_of_ble_eq_true rfl) rfl rfl ⟨Nat.le_of_ble_eq_true rfl, Nat.le_of_ble_eq_true rfl⟩ (Nat.le_of_ble_eq_true rfl) hd
theorem r152_94 : xT d 152 94 ([l0, l1, l2, .int w, l4]) (.int v :: st) h Q ↔ xT d 152 96 ([l0, l1, l2, .int w, .int v]) (st) h Q := xT_istore (k := 4) (by decide +kernel) rfl (Nat.le_of_ble_eq_true rfl) rfl
theorem r152_96 : xT d 152 96 (.ref ov :: ls) (st) h Q ↔ xT d 152 97 (.ref ov :: ls) (.ref ov :: st) h Q := xT_aload_n (k := 0) (by decide +kernel) rfl rfl
theorem r152_97 : xT d 152 97 (ls) (.ref 21 :: st) (hh f a g) Q ↔ xT d 152 100 (ls) (.int (xI (f 21 16)) :: st) (hh f a g) Q := xT_getf (k := 244) (ci := 8) (fi := 16) (by decide +kernel) rfl rfl ⟨Nat.le_of_ble_eq_true rfl, Nat.le_of_ble_eq_true rfl⟩ (by decide +kernel) rfl
theorem r152_100 (x0 : -2147483648 ≤ x) (x1 : x ≤ 2147483647) : xT d 152 100 (ls) (.int (xI x) :: st) h Q ↔ (x = 0 → xT d 152 104 (ls) (st) h Q) ∧ (¬ x = 0 → xT d 152 103 (ls) (st) h Q) := xT_ifeq (off := 4) (by decide +kernel) rfl rfl x0 x1
theorem r152_103 : xT d 152 103 (ls) ([]) h Q ↔ Q (h, .returned none) := xT_return (by decide +kernel) rfl
theorem r152_104 : xT d 152 104 (.ref ov :: ls) (st) h Q ↔ xT d 152 105 (.ref ov :: ls) (.ref ov :: st) h Q := xT_aload_n (k := 0) (by decide +kernel) rfl rfl
theorem r152_105 : xT d 152 105 (l0 :: l1 :: l2 :: l3 :: .int v :: ls) (st) h Q ↔ xT d 152 107 (l0 :: l1 :: l2 :: l3 :: .int v :: ls) (.int v :: st) h Q := xT_iload (k := 4) (by decide +kernel) rfl rfl
theorem r152_107 {z0 : Int32} (hd : 1 ≤ d) : xT d 152 107 (ls) ([.int z0, .ref 21]) (hh f a g) Q ↔ xTC (d - 1) 147 [.ref 21, .int z0] (hh f a g) (xAf d 152 107 (ls) [] Q) := xT_virtual (k := 286) (na := 1) (ci := 8) (by decide +kernel) (by decide +kernel) (by decide +kernel) ⟨Nat.le_of_ble_eq_true rfl, Nat.le_of_ble_eq_true rfl⟩ rfl rfl (Nat.le_of_ble_eq_true rfl) rfl rfl ⟨Nat.le_of_ble_eq_true rfl, Nat.le_of_ble_eq_true rfl⟩ (Nat.le_of_ble_eq_true rfl) hd
theorem r152_110 : xT d 152 110 (.ref ov :: ls) (st) h Q ↔ xT d 152 111 (.ref ov :: ls) (.ref ov :: st) h Q := xT_aload_n (k := 0) (by decide +kernel) rfl rfl
theorem r152_111 : xT d 152 111 (l0 :: l1 :: l2 :: .int v :: ls) (st) h Q ↔ xT d 152 112 (l0 :: l1 :: l2 :: .int v :: ls) (.int v :: st) h Q := xT_iload_n (k := 3) (by decide +kernel) rfl rfl
theorem r152_112 {z0 : Int32} (hd : 1 ≤ d) : xT d 152 112 (ls) ([.int z0, .ref 21]) (hh f a g) Q ↔ xTC (d - 1) 143 [.ref 21, .int z0] (hh f a g) (xAf d 152 112 (ls) [] Q) := xT_virtual (k := 253) (na := 1) (ci := 8) (by decide +kernel) (by decide +kernel) (by decide +kernel) ⟨Nat.le_of_ble_eq_true rfl, Nat.le_of_ble_eq_true rfl⟩ rfl rfl (Nat.le_of_ble_eq_true rfl) rfl rfl ⟨Nat.le_of_ble_eq_true rfl, Nat.le_of_ble_eq_true rfl⟩ (Nat.le_of_ble_eq_true rfl) hd
theorem r152_115 : xT d 152 115 (.ref ov :: ls) (st) h Q ↔ xT d 152 116 (.ref ov :: ls) (.ref ov :: st) h Q := xT_aload_n (k := 0) (by decide +kernel) rfl rfl
theorem r152_116 : xT d 152 116 (ls) (.ref 21 :: st) (hh f a g) Q ↔ xT d 152 119 (ls) (.int (xI (f 21 16)) :: st) (hh f a g) Q := xT_getf (k := 244) (ci := 8) (fi := 16) (by decide +kernel) rfl rfl ⟨Nat.le_of_ble_eq_true rfl, Nat.le_of_ble_eq_true rfl⟩ (by decide +kernel) rfl
theorem r152_119 (x0 : -2147483648 ≤ x) (x1 : x ≤ 2147483647) : xT d 152 119 (ls) (.int (xI x) :: st) h Q ↔ (x = 0 → xT d 152 122 (ls) (st) h Q) ∧ (¬ x = 0 → xT d 152 143 (ls) (st) h Q) := xT_ifne (off := 24) (by decide +kernel) rfl rfl x0 x1
theorem r152_122 : xT d 152 122 (.ref ov :: ls) (st) h Q ↔ xT d 152 123 (.ref ov :: ls) (.ref ov :: st) h Q := xT_aload_n (k := 0) (by decide +kernel) rfl rfl
theorem r152_123 : xT d 152 123 (ls) (.ref 21 :: st) (hh f a g) Q ↔ xT d 152 126 (ls) (.int (xI (f 21 15)) :: st) (hh f a g) Q := xT_getf (k := 247) (ci := 8) (fi := 15) (by decide +kernel) rfl rfl ⟨Nat.le_of_ble_eq_true rfl, Nat.le_of_ble_eq_true rfl⟩ (by decide +kernel) rfl
theorem r152_126 : xT d 152 126 (l0 :: l1 :: l2 :: .int v :: ls) (st) h Q ↔ xT d 152 127 (l0 :: l1 :: l2 :: .int v :: ls) (.int v :: st) h Q := xT_iload_n (k := 3) (by decide +kernel) rfl rfl
theorem r152_127 (x0 : -2147483648 ≤ x) (x1 : x ≤ 2147483647) (y0 : -2147483648 ≤ y) (y1 : y ≤ 2147483647) : xT d 152 127 (ls) (.int (xI y) :: .int (xI x) :: st) h Q ↔ (x < y → xT d 152 130 (ls) (st) h Q) ∧ (¬ x < y → xT d 152 143 (ls) (st) h Q) := xT_icge (off := 16) (by decide +kernel) rfl rfl x0 x1 y0 y1
theorem r152_130 : xT d 152 130 (.ref ov :: ls) (st) h Q ↔ xT d 152 131 (.ref ov :: ls) (.ref ov :: st) h Q := xT_aload_n (k := 0) (by decide +kernel) rfl rfl
theorem r152_131 : xT d 152 131 (l0 :: l1 :: l2 :: .int v :: ls) (st) h Q ↔ xT d 152 132 (l0 :: l1 :: l2 :: .int v :: ls) (.int v :: st) h Q := xT_iload_n (k := 3) (by decide +kernel) rfl rfl
theorem r152_132 {z0 : Int32} (hd : 1 ≤ d) : xT d 152 132 (ls) ([.int z0, .ref 21]) (hh f a g) Q ↔ xTC (d - 1) 150 [.ref 21, .int z0] (hh f a g) (xAf d 152 132 (ls) [] Q) := xT_virtual (k := 289) (na := 1) (ci := 8) (by decide +kernel) (by decide +kernel) (by decide +kernel) ⟨Nat.le_of_ble_eq_true rfl, Nat.le_of_ble_eq_true rfl⟩ rfl rfl (Nat.le_of_ble_eq_true rfl) rfl rfl ⟨Nat.le_of_ble_eq_true rfl, Nat.le_of_ble_eq_true rfl⟩ (Nat.le_of_ble_eq_true rfl) hd
theorem r152_135 : xT d 152 135 (.ref ov :: ls) (st) h Q ↔ xT d 152 136 (.ref ov :: ls) (.ref ov :: st) h Q := xT_aload_n (k := 0) (by decide +kernel) rfl rfl
theorem r152_136 : xT d 152 136 (l0 :: l1 :: l2 :: .int v :: ls) (st) h Q ↔ xT d 152 137 (l0 :: l1 :: l2 :: .int v :: ls) (.int v :: st) h Q := xT_iload_n (k := 3) (by decide +kernel) rfl rfl
theorem r152_137 {z0 : Int32} (hd : 1 ≤ d) : xT d 152 137 (ls) ([.int z0, .ref 21]) (hh f a g) Q ↔ xTC (d - 1) 143 [.ref 21, .int z0] (hh f a g) (xAf d 152 137 (ls) [] Q) := xT_virtual (k := 253) (na := 1) (ci := 8) (by decide +kernel) (by decide +kernel) (by decide +kernel) ⟨Nat.le_of_ble_eq_true rfl, Nat.le_of_ble_eq_true rfl⟩ rfl rfl (Nat.le_of_ble_eq_true rfl) rfl rfl ⟨Nat.le_of_ble_eq_true rfl, Nat.le_of_ble_eq_true rfl⟩ (Nat.le_of_ble_eq_true rfl) hd
theorem r152_140 : xT d 152 140 (ls) (st) h Q ↔ xT d 152 115 (ls) (st) h Q := xT_goto (off := (-25)) (by decide +kernel) rfl
theorem r152_143 : xT d 152 143 (.ref ov :: ls) (st) h Q ↔ xT d 152 144 (.ref ov :: ls) (.ref ov :: st) h Q := xT_aload_n (k := 0) (by decide +kernel) rfl rfl
theorem r152_144 : xT d 152 144 (ls) (.ref 21 :: st) (hh f a g) Q ↔ xT d 152 147 (ls) (.int (xI (f 21 16)) :: st) (hh f a g) Q := xT_getf (k := 244) (ci := 8) (fi := 16) (by decide +kernel) rfl rfl ⟨Nat.le_of_ble_eq_true rfl, Nat.le_of_ble_eq_true rfl⟩ (by decide +kernel) rfl
theorem r152_147 (x0 : -2147483648 ≤ x) (x1 : x ≤ 2147483647) : xT d 152 147 (ls) (.int (xI x) :: st) h Q ↔ (x = 0 → xT d 152 150 (ls) (st) h Q) ∧ (¬ x = 0 → xT d 152 158 (ls) (st) h Q) := xT_ifne (off := 11) (by decide +kernel) rfl rfl x0 x1
theorem r152_150 : xT d 152 150 (.ref ov :: ls) (st) h Q ↔ xT d 152 151 (.ref ov :: ls) (.ref ov :: st) h Q := xT_aload_n (k := 0) (by decide +kernel) rfl rfl
theorem r152_151 : xT d 152 151 (.ref ov :: ls) (st) h Q ↔ xT d 152 152 (.ref ov :: ls) (.ref ov :: st) h Q := xT_aload_n (k := 0) (by decide +kernel) rfl rfl
theorem r152_152 : xT d 152 152 (ls) (.ref 21 :: st) (hh f a g) Q ↔ xT d 152 155 (ls) (.int (xI (f 21 7)) :: st) (hh f a g) Q := xT_getf (k := 205) (ci := 8) (fi := 7) (by decide +kernel) rfl rfl ⟨Nat.le_of_ble_eq_true rfl, Nat.le_of_ble_eq_true rfl⟩ (by decide +kernel) rfl
theorem r152_155 {z0 : Int32} (hd : 1 ≤ d) : xT d 152 155 (ls) ([.int z0, .ref 21]) (hh f a g) Q ↔ xTC (d - 1) 145 [.ref 21, .int z0] (hh f a g) (xAf d 152 155 (ls) [] Q) := xT_virtual (k := 269) (na := 1) (ci := 8) (by decide +kernel) (by decide +kernel) (by decide +kernel) ⟨Nat.le_of_ble_eq_true rfl, Nat.le_of_ble_eq_true rfl⟩ rfl rfl (Nat.le_of_ble_eq_true rfl) rfl rfl ⟨Nat.le_of_ble_eq_true rfl, Nat.le_of_ble_eq_true rfl⟩ (Nat.le_of_ble_eq_true rfl) hd
theorem r152_158 : xT d 152 158 (ls) ([]) h Q ↔ Q (h, .returned none) := xT_return (by decide +kernel) rfl
theorem e152 {z0 : Nat} : xTC d 152 [.ref z0] h Q ↔ xT d 152 0 [.ref z0, .null, .null, .null, .null] [] h Q := Iff.rfl
-- M_read
theorem r153_0 : xT d 153 0 (.ref ov :: ls) (st) h Q ↔ xT d 153 1 (.ref ov :: ls) (.ref ov :: st) h Q := xT_aload_n (k := 0) (by decide +kernel) rfl rfl
theorem r153_1 : xT d 153 1 (ls) (st) h Q ↔ xT d 153 2 (ls) (.int (xI 0) :: st) h Q := xT_iconst (n := 0) (by decide +kernel) rfl
theorem r153_2 : xT d 153 2 (ls) (.int (xI x) :: .ref 21 :: st) (hh f a g) Q ↔ xT d 153 5 (ls) (st) (hh (xu f 21 0 x) a g) Q := xT_putf (k := 56) (ci := 8) (fi := 0) (by decide +kernel) rfl rfl ⟨Nat.le_of_ble_eq_true rfl, Nat.le_of_ble_eq_true rfl⟩ (by decide +kernel) (by decide +kernel) (by decide +kernel) rfl
theorem r153_5 : xT d 153 5 (.ref ov :: ls) (st) h Q ↔ xT d 153 6 (.ref ov :: ls) (.ref ov :: st) h Q := xT_aload_n (k := 0) (by decide +kernel) rfl rfl
theorem r153_6 : xT d 153 6 (ls) (st) h Q ↔ xT d 153 7 (ls) (.int (xI 0) :: st) h Q := xT_iconst (n := 0) (by decide +kernel) rfl
theorem r153_7 : xT d 153 7 (ls) (.int (xI x) :: .ref 21 :: st) (hh f a g) Q ↔ xT d 153 10 (ls) (st) (hh (xu f 21 15 x) a g) Q := xT_putf (k := 247) (ci := 8) (fi := 15) (by decide +kernel) rfl rfl ⟨Nat.le_of_ble_eq_true rfl, Nat.le_of_ble_eq_true rfl⟩ (by decide +kernel) (by decide +kernel) (by decide +kernel) rfl
theorem r153_10 : xT d 153 10 (.ref ov :: ls) (st) h Q ↔ xT d 153 11 (.ref ov :: ls) (.ref ov :: st) h Q := xT_aload_n (k := 0) (by decide +kernel) rfl rfl
theorem r153_11 : xT d 153 11 (ls) (st) h Q ↔ xT d 153 12 (ls) (.int (xI 0) :: st) h Q := xT_iconst (n := 0) (by decide +kernel) rfl
theorem r153_12 (hx : x = 0 ∨ x = 1) : xT d 153 12 (ls) (.int (xI x) :: .ref 21 :: st) (hh f a g) Q ↔ xT d 153 15 (ls) (st) (hh (xu f 21 16 x) a g) Q := xT_putz (k := 244) (ci := 8) (fi := 16) (by decide +kernel) rfl rfl ⟨Nat.le_of_ble_eq_true rfl, Nat.le_of_ble_eq_true rfl⟩ (by decide +kernel) (by decide +kernel) (by decide +kernel) rfl hx
theorem r153_15 : xT d 153 15 (.ref ov :: ls) (st) h Q ↔ xT d 153 16 (.ref ov :: ls) (.ref ov :: st) h Q := xT_aload_n (k := 0) (by decide +kernel) rfl rfl
theorem r153_16 : xT d 153 16 (ls) (st) h Q ↔ xT d 153 17 (ls) (.int (xI 0) :: st) h Q := xT_iconst (n := 0) (by decide +kernel) rfl
theorem r153_17 : xT d 153 17 (ls) (.int (xI x) :: .ref 21 :: st) (hh f a g) Q ↔ xT d 153 20 (ls) (st) (hh (xu f 21 12 x) a g) Q := xT_putf (k := 272) (ci := 8) (fi := 12) (by decide +kernel) rfl rfl ⟨Nat.le_of_ble_eq_true rfl, Nat.le_of_ble_eq_true rfl⟩ (by decide +kernel) (by decide +kernel) (by decide +kernel) rfl
theorem r153_20 : xT d 153 20 (.ref ov :: ls) (st) h Q ↔ xT d 153 21 (.ref ov :: ls) (.ref ov :: st) h Q := xT_aload_n (k := 0) (by decide +kernel) rfl rfl
theorem r153_21 (hd : 1 ≤ d) : xT d 153 21 (ls) ([.ref 21]) (hh f a g) Q ↔ xTC (d - 1) 152 [.ref 21] (hh f a g) (xAf d 153 21 (ls) [] Q) := xT_virtual (k := 292) (na := 0) (ci := 8) (by decide +kernel) (by decide +kernel) (by decide +kernel) ⟨Nat.le_of_ble_eq_true rfl, Nat.le_of_ble_eq_true rfl⟩ rfl rfl (Nat.le_of_ble_eq_true rfl) rfl rfl ⟨Nat.le_of_ble_eq_true rfl, Nat.le_of_ble_eq_true rfl⟩ (Nat.le_of_ble_eq_true rfl) hd
theorem r153_24 : xT d 153 24 (.ref ov :: ls) (st) h Q ↔ xT d 153 25 (.ref ov :: ls) (.ref ov :: st) h Q := xT_aload_n (k := 0) (by decide +kernel) rfl rfl
theorem r153_25 : xT d 153 25 (ls) (.ref 21 :: st) (hh f a g) Q ↔ xT d 153 28 (ls) (.int (xI (f 21 16)) :: st) (hh f a g) Q := xT_getf (k := 244) (ci := 8) (fi := 16) (by decide +kernel) rfl rfl ⟨Nat.le_of_ble_eq_true rfl, Nat.le_of_ble_eq_true rfl⟩ (by decide +kernel) rfl
theorem r153_28 (x0 : -2147483648 ≤ x) (x1 : x ≤ 2147483647) : xT d 153 28 (ls) (.int (xI x) :: st) h Q ↔ (x = 0 → xT d 153 36 (ls) (st) h Q) ∧ (¬ x = 0 → xT d 153 31 (ls) (st) h Q) := xT_ifeq (off := 8) (by decide +kernel) rfl rfl x0 x1
theorem r153_31 : xT d 153 31 (.ref ov :: ls) (st) h Q ↔ xT d 153 32 (.ref ov :: ls) (.ref ov :: st) h Q := xT_aload_n (k := 0) (by decide +kernel) rfl rfl
theorem r153_32 : xT d 153 32 (ls) (.ref 21 :: st) (hh f a g) Q ↔ xT d 153 35 (ls) (.int (xI (f 21 15)) :: st) (hh f a g) Q := xT_getf (k := 247) (ci := 8) (fi := 15) (by decide +kernel) rfl rfl ⟨Nat.le_of_ble_eq_true rfl, Nat.le_of_ble_eq_true rfl⟩ (by decide +kernel) rfl
theorem r153_35 : xT d 153 35 (ls) ([.int (xI x)]) h Q ↔ Q (h, .returned (some (.int (xI x)))) := xT_ireturn (by decide +kernel) rfl
theorem r153_36 : xT d 153 36 (.ref ov :: ls) (st) h Q ↔ xT d 153 37 (.ref ov :: ls) (.ref ov :: st) h Q := xT_aload_n (k := 0) (by decide +kernel) rfl rfl
theorem r153_37 : xT d 153 37 (.ref ov :: ls) (st) h Q ↔ xT d 153 38 (.ref ov :: ls) (.ref ov :: st) h Q := xT_aload_n (k := 0) (by decide +kernel) rfl rfl
theorem r153_38 : xT d 153 38 (ls) (.ref 21 :: st) (hh f a g) Q ↔ xT d 153 41 (ls) (.int (xI (f 21 9)) :: st) (hh f a g) Q := xT_getf (k := 263) (ci := 8) (fi := 9) (by decide +kernel) rfl rfl ⟨Nat.le_of_ble_eq_true rfl, Nat.le_of_ble_eq_true rfl⟩ (by decide +kernel) rfl
theorem r153_41 : xT d 153 41 (ls) (.int (xI x) :: .ref 21 :: st) (hh f a g) Q ↔ xT d 153 44 (ls) (st) (hh (xu f 21 1 x) a g) Q := xT_putf (k := 7) (ci := 8) (fi := 1) (by decide +kernel) rfl rfl ⟨Nat.le_of_ble_eq_true rfl, Nat.le_of_ble_eq_true rfl⟩ (by decide +kernel) (by decide +kernel) (by decide +kernel) rfl
theorem r153_44 : xT d 153 44 (.ref ov :: ls) (st) h Q ↔ xT d 153 45 (.ref ov :: ls) (.ref ov :: st) h Q := xT_aload_n (k := 0) (by decide +kernel) rfl rfl
theorem r153_45 : xT d 153 45 (.ref ov :: ls) (st) h Q ↔ xT d 153 46 (.ref ov :: ls) (.ref ov :: st) h Q := xT_aload_n (k := 0) (by decide +kernel) rfl rfl
theorem r153_46 : xT d 153 46 (ls) (.ref 21 :: st) (hh f a g) Q ↔ xT d 153 49 (ls) (.int (xI (f 21 10)) :: st) (hh f a g) Q := xT_getf (k := 266) (ci := 8) (fi := 10) (by decide +kernel) rfl rfl ⟨Nat.le_of_ble_eq_true rfl, Nat.le_of_ble_eq_true rfl⟩ (by decide +kernel) rfl
theorem r153_49 : xT d 153 49 (ls) (.int (xI x) :: .ref 21 :: st) (hh f a g) Q ↔ xT d 153 52 (ls) (st) (hh (xu f 21 2 x) a g) Q := xT_putf (k := 13) (ci := 8) (fi := 2) (by decide +kernel) rfl rfl ⟨Nat.le_of_ble_eq_true rfl, Nat.le_of_ble_eq_true rfl⟩ (by decide +kernel) (by decide +kernel) (by decide +kernel) rfl
theorem r153_52 : xT d 153 52 (.ref ov :: ls) (st) h Q ↔ xT d 153 53 (.ref ov :: ls) (.ref ov :: st) h Q := xT_aload_n (k := 0) (by decide +kernel) rfl rfl
theorem r153_53 : xT d 153 53 (.ref ov :: ls) (st) h Q ↔ xT d 153 54 (.ref ov :: ls) (.ref ov :: st) h Q := xT_aload_n (k := 0) (by decide +kernel) rfl rfl
theorem r153_54 : xT d 153 54 (ls) (.ref 21 :: st) (hh f a g) Q ↔ xT d 153 57 (ls) (.int (xI (f 21 11)) :: st) (hh f a g) Q := xT_getf (k := 188) (ci := 8) (fi := 11) (by decide +kernel) rfl rfl ⟨Nat.le_of_ble_eq_true rfl, Nat.le_of_ble_eq_true rfl⟩ (by decide +kernel) rfl
theorem r153_57 : xT d 153 57 (ls) (.int (xI x) :: .ref 21 :: st) (hh f a g) Q ↔ xT d 153 60 (ls) (st) (hh (xu f 21 3 x) a g) Q := xT_putf (k := 16) (ci := 8) (fi := 3) (by decide +kernel) rfl rfl ⟨Nat.le_of_ble_eq_true rfl, Nat.le_of_ble_eq_true rfl⟩ (by decide +kernel) (by decide +kernel) (by decide +kernel) rfl
theorem r153_60 : xT d 153 60 (.ref ov :: ls) (st) h Q ↔ xT d 153 61 (.ref ov :: ls) (.ref ov :: st) h Q := xT_aload_n (k := 0) (by decide +kernel) rfl rfl
theorem r153_61 : xT d 153 61 (.ref ov :: ls) (st) h Q ↔ xT d 153 62 (.ref ov :: ls) (.ref ov :: st) h Q := xT_aload_n (k := 0) (by decide +kernel) rfl rfl
theorem r153_62 : xT d 153 62 (ls) (.ref 21 :: st) (hh f a g) Q ↔ xT d 153 65 (ls) (.int (xI (f 21 12)) :: st) (hh f a g) Q := xT_getf (k := 272) (ci := 8) (fi := 12) (by decide +kernel) rfl rfl ⟨Nat.le_of_ble_eq_true rfl, Nat.le_of_ble_eq_true rfl⟩ (by decide +kernel) rfl
theorem r153_65 : xT d 153 65 (ls) (.int (xI x) :: .ref 21 :: st) (hh f a g) Q ↔ xT d 153 68 (ls) (st) (hh (xu f 21 4 x) a g) Q := xT_putf (k := 63) (ci := 8) (fi := 4) (by decide +kernel) rfl rfl ⟨Nat.le_of_ble_eq_true rfl, Nat.le_of_ble_eq_true rfl⟩ (by decide +kernel) (by decide +kernel) (by decide +kernel) rfl
theorem r153_68 : xT d 153 68 (ls) (st) h Q ↔ xT d 153 69 (ls) (.int (xI 0) :: st) h Q := xT_iconst (n := 0) (by decide +kernel) rfl
theorem r153_69 : xT d 153 69 ([.ref ow, l1, l2]) (.int v :: st) h Q ↔ xT d 153 70 ([.ref ow, .int v, l2]) (st) h Q := xT_istore_n (k := 1) (by decide +kernel) rfl (Nat.le_of_ble_eq_true rfl) rfl
theorem r153_70 : xT d 153 70 (l0 :: .int v :: ls) (st) h Q ↔ xT d 153 71 (l0 :: .int v :: ls) (.int v :: st) h Q := xT_iload_n (k := 1) (by decide +kernel) rfl rfl
theorem r153_71 : xT d 153 71 (.ref ov :: ls) (st) h Q ↔ xT d 153 72 (.ref ov :: ls) (.ref ov :: st) h Q := xT_aload_n (k := 0) (by decide +kernel) rfl rfl
theorem r153_72 : xT d 153 72 (ls) (.ref 21 :: st) (hh f a g) Q ↔ xT d 153 75 (ls) (.int (xI (f 21 4)) :: st) (hh f a g) Q := xT_getf (k := 63) (ci := 8) (fi := 4) (by decide +kernel) rfl rfl ⟨Nat.le_of_ble_eq_true rfl, Nat.le_of_ble_eq_true rfl⟩ (by decide +kernel) rfl
theorem r153_75 (x0 : -2147483648 ≤ x) (x1 : x ≤ 2147483647) (y0 : -2147483648 ≤ y) (y1 : y ≤ 2147483647) : xT d 153 75 (ls) (.int (xI y) :: .int (xI x) :: st) h Q ↔ (x < y → xT d 153 78 (ls) (st) h Q) ∧ (¬ x < y → xT d 153 132 (ls) (st) h Q) := xT_icge (off := 57) (by decide +kernel) rfl rfl x0 x1 y0 y1
theorem r153_78 : xT d 153 78 (.ref ov :: ls) (st) h Q ↔ xT d 153 79 (.ref ov :: ls) (.ref ov :: st) h Q := xT_aload_n (k := 0) (by decide +kernel) rfl rfl
theorem r153_79 : xT d 153 79 (ls) (.ref 21 :: st) (hh f a g) Q ↔ xT d 153 82 (ls) (.ref 22 :: st) (hh f a g) Q := xT_getf (k := 19) (ci := 8) (fi := 5) (by decide +kernel) rfl rfl ⟨Nat.le_of_ble_eq_true rfl, Nat.le_of_ble_eq_true rfl⟩ (by decide +kernel) rfl
theorem r153_82 : xT d 153 82 (l0 :: .int v :: ls) (st) h Q ↔ xT d 153 83 (l0 :: .int v :: ls) (.int v :: st) h Q := xT_iload_n (k := 1) (by decide +kernel) rfl rfl
theorem r153_83 : xT d 153 83 (.ref ov :: ls) (st) h Q ↔ xT d 153 84 (.ref ov :: ls) (.ref ov :: st) h Q := xT_aload_n (k := 0) (by decide +kernel) rfl rfl
theorem r153_84 : xT d 153 84 (ls) (.ref 21 :: st) (hh f a g) Q ↔ xT d 153 87 (ls) (.ref 25 :: st) (hh f a g) Q := xT_getf (k := 29) (ci := 8) (fi := 13) (by decide +kernel) rfl rfl ⟨Nat.le_of_ble_eq_true rfl, Nat.le_of_ble_eq_true rfl⟩ (by decide +kernel) rfl
theorem r153_87 : xT d 153 87 (l0 :: .int v :: ls) (st) h Q ↔ xT d 153 88 (l0 :: .int v :: ls) (.int v :: st) h Q := xT_iload_n (k := 1) (by decide +kernel) rfl rfl
theorem r153_88 (x0 : 0 ≤ x) (x1 : x < 3) : xT d 153 88 (ls) (.int (xI x) :: .ref 25 :: st) (hh f a g) Q ↔ xT d 153 89 (ls) (.int (xI (a 25 x)) :: st) (hh f a g) Q := xT_iaload (N := 3) (by decide +kernel) rfl rfl (Nat.le_of_ble_eq_true rfl) x0 x1 (Nat.le_of_ble_eq_true rfl)
theorem r153_89 (x0 : 0 ≤ x) (x1 : x < 3) : xT d 153 89 (ls) (.int (xI y) :: .int (xI x) :: .ref 22 :: st) (hh f a g) Q ↔ xT d 153 90 (ls) (st) (hh f (xw a 22 x y) g) Q := xT_iastore (N := 3) (by decide +kernel) rfl rfl ⟨Nat.le_of_ble_eq_true rfl, Nat.le_of_ble_eq_true rfl⟩ x0 x1 (Nat.le_of_ble_eq_true rfl)
theorem r153_90 : xT d 153 90 (ls) (st) h Q ↔ xT d 153 91 (ls) (.int (xI 0) :: st) h Q := xT_iconst (n := 0) (by decide +kernel) rfl
theorem r153_91 : xT d 153 91 ([l0, .int w, l2]) (.int v :: st) h Q ↔ xT d 153 92 ([l0, .int w, .int v]) (st) h Q := xT_istore_n (k := 2) (by decide +kernel) rfl (Nat.le_of_ble_eq_true rfl) rfl
theorem r153_92 : xT d 153 92 (l0 :: l1 :: .int v :: ls) (st) h Q ↔ xT d 153 93 (l0 :: l1 :: .int v :: ls) (.int v :: st) h Q := xT_iload_n (k := 2) (by decide +kernel) rfl rfl
theorem r153_93 : xT d 153 93 (ls) (st) h Q ↔ xT d 153 95 (ls) (.int (xI 108) :: st) h Q := xT_bipush (n := 108) (by decide +kernel) rfl (by decide +kernel)
theorem r153_95 (x0 : -2147483648 ≤ x) (x1 : x ≤ 2147483647) (y0 : -2147483648 ≤ y) (y1 : y ≤ 2147483647) : xT d 153 95 (ls) (.int (xI y) :: .int (xI x) :: st) h Q ↔ (x < y → xT d 153 98 (ls) (st) h Q) ∧ (¬ x < y → xT d 153 126 (ls) (st) h Q) := xT_icge (off := 31) (by decide +kernel) rfl rfl x0 x1 y0 y1
theorem r153_98 : xT d 153 98 (.ref ov :: ls) (st) h Q ↔ xT d 153 99 (.ref ov :: ls) (.ref ov :: st) h Q := xT_aload_n (k := 0) (by decide +kernel) rfl rfl
theorem r153_99 : xT d 153 99 (ls) (.ref 21 :: st) (hh f a g) Q ↔ xT d 153 102 (ls) (.ref 23 :: st) (hh f a g) Q := xT_getf (k := 23) (ci := 8) (fi := 6) (by decide +kernel) rfl rfl ⟨Nat.le_of_ble_eq_true rfl, Nat.le_of_ble_eq_true rfl⟩ (by decide +kernel) rfl
theorem r153_102 : xT d 153 102 (ls) (st) h Q ↔ xT d 153 104 (ls) (.int (xI 108) :: st) h Q := xT_bipush (n := 108) (by decide +kernel) rfl (by decide +kernel)
theorem r153_104 : xT d 153 104 (l0 :: .int v :: ls) (st) h Q ↔ xT d 153 105 (l0 :: .int v :: ls) (.int v :: st) h Q := xT_iload_n (k := 1) (by decide +kernel) rfl rfl
theorem r153_105 : xT d 153 105 (ls) (.int (xI y) :: .int (xI x) :: st) h Q ↔ xT d 153 106 (ls) (.int (xI (x * y)) :: st) h Q := xT_imul (by decide +kernel) rfl
theorem r153_106 : xT d 153 106 (l0 :: l1 :: .int v :: ls) (st) h Q ↔ xT d 153 107 (l0 :: l1 :: .int v :: ls) (.int v :: st) h Q := xT_iload_n (k := 2) (by decide +kernel) rfl rfl
theorem r153_107 : xT d 153 107 (ls) (.int (xI y) :: .int (xI x) :: st) h Q ↔ xT d 153 108 (ls) (.int (xI (x + y)) :: st) h Q := xT_iadd (by decide +kernel) rfl
theorem r153_108 : xT d 153 108 (.ref ov :: ls) (st) h Q ↔ xT d 153 109 (.ref ov :: ls) (.ref ov :: st) h Q := xT_aload_n (k := 0) (by decide +kernel) rfl rfl
theorem r153_109 : xT d 153 109 (ls) (.ref 21 :: st) (hh f a g) Q ↔ xT d 153 112 (ls) (.ref 26 :: st) (hh f a g) Q := xT_getf (k := 32) (ci := 8) (fi := 14) (by decide +kernel) rfl rfl ⟨Nat.le_of_ble_eq_true rfl, Nat.le_of_ble_eq_true rfl⟩ (by decide +kernel) rfl
theorem r153_112 : xT d 153 112 (ls) (st) h Q ↔ xT d 153 114 (ls) (.int (xI 108) :: st) h Q := xT_bipush (n := 108) (by decide +kernel) rfl (by decide +kernel)
theorem r153_114 : xT d 153 114 (l0 :: .int v :: ls) (st) h Q ↔ xT d 153 115 (l0 :: .int v :: ls) (.int v :: st) h Q := xT_iload_n (k := 1) (by decide +kernel) rfl rfl
theorem r153_115 : xT d 153 115 (ls) (.int (xI y) :: .int (xI x) :: st) h Q ↔ xT d 153 116 (ls) (.int (xI (x * y)) :: st) h Q := xT_imul (by decide +kernel) rfl
theorem r153_116 : xT d 153 116 (l0 :: l1 :: .int v :: ls) (st) h Q ↔ xT d 153 117 (l0 :: l1 :: .int v :: ls) (.int v :: st) h Q := xT_iload_n (k := 2) (by decide +kernel) rfl rfl
theorem r153_117 : xT d 153 117 (ls) (.int (xI y) :: .int (xI x) :: st) h Q ↔ xT d 153 118 (ls) (.int (xI (x + y)) :: st) h Q := xT_iadd (by decide +kernel) rfl
theorem r153_118 (x0 : 0 ≤ x) (x1 : x < 324) : xT d 153 118 (ls) (.int (xI x) :: .ref 26 :: st) (hh f a g) Q ↔ xT d 153 119 (ls) (.int (xI (a 26 x)) :: st) (hh f a g) Q := xT_iaload (N := 324) (by decide +kernel) rfl rfl (Nat.le_of_ble_eq_true rfl) x0 x1 (Nat.le_of_ble_eq_true rfl)
theorem r153_119 (x0 : 0 ≤ x) (x1 : x < 324) : xT d 153 119 (ls) (.int (xI y) :: .int (xI x) :: .ref 23 :: st) (hh f a g) Q ↔ xT d 153 120 (ls) (st) (hh f (xw a 23 x y) g) Q := xT_iastore (N := 324) (by decide +kernel) rfl rfl ⟨Nat.le_of_ble_eq_true rfl, Nat.le_of_ble_eq_true rfl⟩ x0 x1 (Nat.le_of_ble_eq_true rfl)
theorem r153_120 : xT d 153 120 ([l0, .int w, .int (xI x)]) (st) h Q ↔ xT d 153 123 ([l0, .int w, .int (xI (x + 1))]) (st) h Q := xT_iinc (k := 2) (by decide +kernel) rfl rfl rfl
theorem r153_123 : xT d 153 123 (ls) (st) h Q ↔ xT d 153 92 (ls) (st) h Q := xT_goto (off := (-31)) (by decide +kernel) rfl
theorem r153_126 : xT d 153 126 ([.ref ow, .int (xI x), l2]) (st) h Q ↔ xT d 153 129 ([.ref ow, .int (xI (x + 1)), l2]) (st) h Q := xT_iinc (k := 1) (by decide +kernel) rfl rfl rfl
theorem r153_129 : xT d 153 129 (ls) (st) h Q ↔ xT d 153 70 (ls) (st) h Q := xT_goto (off := (-59)) (by decide +kernel) rfl
theorem r153_132 : xT d 153 132 (ls) (st) h Q ↔ xT d 153 133 (ls) (.int (xI (-1)) :: st) h Q := xT_iconst (n := (-1)) (by decide +kernel) rfl
theorem r153_133 : xT d 153 133 (ls) ([.int (xI x)]) h Q ↔ Q (h, .returned (some (.int (xI x)))) := xT_ireturn (by decide +kernel) rfl
theorem e153 {z0 : Nat} : xTC d 153 [.ref z0] h Q ↔ xT d 153 0 [.ref z0, .null, .null] [] h Q := Iff.rfl
-- M_size
theorem r154_0 : xT d 154 0 (.ref ov :: ls) (st) h Q ↔ xT d 154 1 (.ref ov :: ls) (.ref ov :: st) h Q := xT_aload_n (k := 0) (by decide +kernel) rfl rfl
theorem r154_1 : xT d 154 1 (ls) (st) h Q ↔ xT d 154 2 (ls) (.int (xI 0) :: st) h Q := xT_iconst (n := 0) (by decide +kernel) rfl
theorem r154_2 : xT d 154 2 (ls) (.int (xI x) :: .ref 21 :: st) (hh f a g) Q ↔ xT d 154 5 (ls) (st) (hh (xu f 21 0 x) a g) Q := xT_putf (k := 56) (ci := 8) (fi := 0) (by decide +kernel) rfl rfl ⟨Nat.le_of_ble_eq_true rfl, Nat.le_of_ble_eq_true rfl⟩ (by decide +kernel) (by decide +kernel) (by decide +kernel) rfl
theorem r154_5 : xT d 154 5 (.ref ov :: ls) (st) h Q ↔ xT d 154 6 (.ref ov :: ls) (.ref ov :: st) h Q := xT_aload_n (k := 0) (by decide +kernel) rfl rfl
theorem r154_6 : xT d 154 6 (ls) (.ref 21 :: st) (hh f a g) Q ↔ xT d 154 9 (ls) (.int (xI (f 21 7)) :: st) (hh f a g) Q := xT_getf (k := 205) (ci := 8) (fi := 7) (by decide +kernel) rfl rfl ⟨Nat.le_of_ble_eq_true rfl, Nat.le_of_ble_eq_true rfl⟩ (by decide +kernel) rfl
theorem r154_9 : xT d 154 9 (ls) ([.int (xI x)]) h Q ↔ Q (h, .returned (some (.int (xI x)))) := xT_ireturn (by decide +kernel) rfl
theorem e154 {z0 : Nat} : xTC d 154 [.ref z0] h Q ↔ xT d 154 0 [.ref z0] [] h Q := Iff.rfl
-- M_byteAt
theorem r155_0 : xT d 155 0 (.ref ov :: ls) (st) h Q ↔ xT d 155 1 (.ref ov :: ls) (.ref ov :: st) h Q := xT_aload_n (k := 0) (by decide +kernel) rfl rfl
theorem r155_1 : xT d 155 1 (l0 :: .int v :: ls) (st) h Q ↔ xT d 155 2 (l0 :: .int v :: ls) (.int v :: st) h Q := xT_iload_n (k := 1) (by decide +kernel) rfl rfl
theorem r155_2 : xT d 155 2 (ls) (st) h Q ↔ xT d 155 3 (ls) (.int (xI 0) :: st) h Q := xT_iconst (n := 0) (by decide +kernel) rfl
theorem r155_3 : xT d 155 3 (.ref ov :: ls) (st) h Q ↔ xT d 155 4 (.ref ov :: ls) (.ref ov :: st) h Q := xT_aload_n (k := 0) (by decide +kernel) rfl rfl
theorem r155_4 : xT d 155 4 (ls) (.ref 21 :: st) (hh f a g) Q ↔ xT d 155 7 (ls) (.int (xI (f 21 7)) :: st) (hh f a g) Q := xT_getf (k := 205) (ci := 8) (fi := 7) (by decide +kernel) rfl rfl ⟨Nat.le_of_ble_eq_true rfl, Nat.le_of_ble_eq_true rfl⟩ (by decide +kernel) rfl
theorem r155_7 : xT d 155 7 (ls) (st) h Q ↔ xT d 155 8 (ls) (.int (xI 1) :: st) h Q := xT_iconst (n := 1) (by decide +kernel) rfl
theorem r155_8 : xT d 155 8 (ls) (.int (xI y) :: .int (xI x) :: st) h Q ↔ xT d 155 9 (ls) (.int (xI (x - y)) :: st) h Q := xT_isub (by decide +kernel) rfl
theorem r155_9 {z0 : Int32} {z1 : Int32} {z2 : Int32} {z3 : Nat} (hd : 1 ≤ d) : xT d 155 9 (ls) ([.int z0, .int z1, .int z2, .ref z3]) h Q ↔ xTC (d - 1) 129 [.int z2, .int z1, .int z0] h (xAf d 155 9 (ls) [.ref z3] Q) := xT_static (k := 59) (na := 3) (by decide +kernel) (by decide +kernel) ⟨Nat.le_of_ble_eq_true rfl, Nat.le_of_ble_eq_true rfl⟩ rfl rfl (Nat.le_of_ble_eq_true rfl) (Nat.le_of_ble_eq_true rfl) hd
theorem r155_12 (x0 : -2147483648 ≤ x) (x1 : x ≤ 2147483647) : xT d 155 12 (ls) (.int (xI x) :: st) h Q ↔ (x = 0 → xT d 155 19 (ls) (st) h Q) ∧ (¬ x = 0 → xT d 155 15 (ls) (st) h Q) := xT_ifeq (off := 7) (by decide +kernel) rfl rfl x0 x1
theorem r155_15 : xT d 155 15 (ls) (st) h Q ↔ xT d 155 16 (ls) (.int (xI 0) :: st) h Q := xT_iconst (n := 0) (by decide +kernel) rfl
theorem r155_16 : xT d 155 16 (ls) (st) h Q ↔ xT d 155 20 (ls) (st) h Q := xT_goto (off := 4) (by decide +kernel) rfl
theorem r155_19 : xT d 155 19 (ls) (st) h Q ↔ xT d 155 20 (ls) (.int (xI 1) :: st) h Q := xT_iconst (n := 1) (by decide +kernel) rfl
theorem r155_20 : xT d 155 20 (ls) (.int (xI x) :: .ref 21 :: st) (hh f a g) Q ↔ xT d 155 23 (ls) (st) (hh (xu f 21 0 x) a g) Q := xT_putf (k := 56) (ci := 8) (fi := 0) (by decide +kernel) rfl rfl ⟨Nat.le_of_ble_eq_true rfl, Nat.le_of_ble_eq_true rfl⟩ (by decide +kernel) (by decide +kernel) (by decide +kernel) rfl
theorem r155_23 : xT d 155 23 (.ref ov :: ls) (st) h Q ↔ xT d 155 24 (.ref ov :: ls) (.ref ov :: st) h Q := xT_aload_n (k := 0) (by decide +kernel) rfl rfl
theorem r155_24 : xT d 155 24 (ls) (.ref 21 :: st) (hh f a g) Q ↔ xT d 155 27 (ls) (.int (xI (f 21 0)) :: st) (hh f a g) Q := xT_getf (k := 56) (ci := 8) (fi := 0) (by decide +kernel) rfl rfl ⟨Nat.le_of_ble_eq_true rfl, Nat.le_of_ble_eq_true rfl⟩ (by decide +kernel) rfl
theorem r155_27 (x0 : -2147483648 ≤ x) (x1 : x ≤ 2147483647) : xT d 155 27 (ls) (.int (xI x) :: st) h Q ↔ (0 < x → xT d 155 30 (ls) (st) h Q) ∧ (¬ 0 < x → xT d 155 34 (ls) (st) h Q) := xT_ifle (off := 7) (by decide +kernel) rfl rfl x0 x1
theorem r155_30 : xT d 155 30 (ls) (st) h Q ↔ xT d 155 31 (ls) (.int (xI 0) :: st) h Q := xT_iconst (n := 0) (by decide +kernel) rfl
theorem r155_31 : xT d 155 31 (ls) (st) h Q ↔ xT d 155 40 (ls) (st) h Q := xT_goto (off := 9) (by decide +kernel) rfl
theorem r155_34 : xT d 155 34 (.ref ov :: ls) (st) h Q ↔ xT d 155 35 (.ref ov :: ls) (.ref ov :: st) h Q := xT_aload_n (k := 0) (by decide +kernel) rfl rfl
theorem r155_35 : xT d 155 35 (ls) (.ref 21 :: st) (hh f a g) Q ↔ xT d 155 38 (ls) (.ref 24 :: st) (hh f a g) Q := xT_getf (k := 26) (ci := 8) (fi := 8) (by decide +kernel) rfl rfl ⟨Nat.le_of_ble_eq_true rfl, Nat.le_of_ble_eq_true rfl⟩ (by decide +kernel) rfl
theorem r155_38 : xT d 155 38 (l0 :: .int v :: ls) (st) h Q ↔ xT d 155 39 (l0 :: .int v :: ls) (.int v :: st) h Q := xT_iload_n (k := 1) (by decide +kernel) rfl rfl
theorem r155_39 (x0 : 0 ≤ x) (x1 : x < 1200) : xT d 155 39 (ls) (.int (xI x) :: .ref 24 :: st) (hh f a g) Q ↔ xT d 155 40 (ls) (.int (xI (a 24 x)) :: st) (hh f a g) Q := xT_iaload (N := 1200) (by decide +kernel) rfl rfl (Nat.le_of_ble_eq_true rfl) x0 x1 (Nat.le_of_ble_eq_true rfl)
theorem r155_40 : xT d 155 40 (ls) ([.int (xI x)]) h Q ↔ Q (h, .returned (some (.int (xI x)))) := xT_ireturn (by decide +kernel) rfl
theorem e155 {z0 : Nat} {z1 : Int32} : xTC d 155 [.ref z0, .int z1] h Q ↔ xT d 155 0 [.ref z0, .int z1] [] h Q := Iff.rfl
-- M_poke
theorem r156_0 : xT d 156 0 (.ref ov :: ls) (st) h Q ↔ xT d 156 1 (.ref ov :: ls) (.ref ov :: st) h Q := xT_aload_n (k := 0) (by decide +kernel) rfl rfl
theorem r156_1 : xT d 156 1 (l0 :: .int v :: ls) (st) h Q ↔ xT d 156 2 (l0 :: .int v :: ls) (.int v :: st) h Q := xT_iload_n (k := 1) (by decide +kernel) rfl rfl
theorem r156_2 : xT d 156 2 (ls) (st) h Q ↔ xT d 156 3 (ls) (.int (xI 0) :: st) h Q := xT_iconst (n := 0) (by decide +kernel) rfl
theorem r156_3 : xT d 156 3 (.ref ov :: ls) (st) h Q ↔ xT d 156 4 (.ref ov :: ls) (.ref ov :: st) h Q := xT_aload_n (k := 0) (by decide +kernel) rfl rfl
theorem r156_4 : xT d 156 4 (ls) (.ref 21 :: st) (hh f a g) Q ↔ xT d 156 7 (ls) (.int (xI (f 21 7)) :: st) (hh f a g) Q := xT_getf (k := 205) (ci := 8) (fi := 7) (by decide +kernel) rfl rfl ⟨Nat.le_of_ble_eq_true rfl, Nat.le_of_ble_eq_true rfl⟩ (by decide +kernel) rfl
theorem r156_7 : xT d 156 7 (ls) (st) h Q ↔ xT d 156 8 (ls) (.int (xI 1) :: st) h Q := xT_iconst (n := 1) (by decide +kernel) rfl
theorem r156_8 : xT d 156 8 (ls) (.int (xI y) :: .int (xI x) :: st) h Q ↔ xT d 156 9 (ls) (.int (xI (x - y)) :: st) h Q := xT_isub (by decide +kernel) rfl
theorem r156_9 {z0 : Int32} {z1 : Int32} {z2 : Int32} {z3 : Nat} (hd : 1 ≤ d) : xT d 156 9 (ls) ([.int z0, .int z1, .int z2, .ref z3]) h Q ↔ xTC (d - 1) 129 [.int z2, .int z1, .int z0] h (xAf d 156 9 (ls) [.ref z3] Q) := xT_static (k := 59) (na := 3) (by decide +kernel) (by decide +kernel) ⟨Nat.le_of_ble_eq_true rfl, Nat.le_of_ble_eq_true rfl⟩ rfl rfl (Nat.le_of_ble_eq_true rfl) (Nat.le_of_ble_eq_true rfl) hd
theorem r156_12 (x0 : -2147483648 ≤ x) (x1 : x ≤ 2147483647) : xT d 156 12 (ls) (.int (xI x) :: st) h Q ↔ (x = 0 → xT d 156 15 (ls) (st) h Q) ∧ (¬ x = 0 → xT d 156 19 (ls) (st) h Q) := xT_ifne (off := 7) (by decide +kernel) rfl rfl x0 x1
theorem r156_15 : xT d 156 15 (ls) (st) h Q ↔ xT d 156 16 (ls) (.int (xI 1) :: st) h Q := xT_iconst (n := 1) (by decide +kernel) rfl
theorem r156_16 : xT d 156 16 (ls) (st) h Q ↔ xT d 156 35 (ls) (st) h Q := xT_goto (off := 19) (by decide +kernel) rfl
theorem r156_19 : xT d 156 19 (l0 :: l1 :: .int v :: ls) (st) h Q ↔ xT d 156 20 (l0 :: l1 :: .int v :: ls) (.int v :: st) h Q := xT_iload_n (k := 2) (by decide +kernel) rfl rfl
theorem r156_20 : xT d 156 20 (ls) (st) h Q ↔ xT d 156 21 (ls) (.int (xI 0) :: st) h Q := xT_iconst (n := 0) (by decide +kernel) rfl
theorem r156_21 : xT d 156 21 (ls) (st) h Q ↔ xT d 156 24 (ls) (.int (xI 255) :: st) h Q := xT_sipush (n := 255) (by decide +kernel) rfl (by decide +kernel)
theorem r156_24 {z0 : Int32} {z1 : Int32} {z2 : Int32} {z3 : Nat} (hd : 1 ≤ d) : xT d 156 24 (ls) ([.int z0, .int z1, .int z2, .ref z3]) h Q ↔ xTC (d - 1) 129 [.int z2, .int z1, .int z0] h (xAf d 156 24 (ls) [.ref z3] Q) := xT_static (k := 59) (na := 3) (by decide +kernel) (by decide +kernel) ⟨Nat.le_of_ble_eq_true rfl, Nat.le_of_ble_eq_true rfl⟩ rfl rfl (Nat.le_of_ble_eq_true rfl) (Nat.le_of_ble_eq_true rfl) hd
theorem r156_27 (x0 : -2147483648 ≤ x) (x1 : x ≤ 2147483647) : xT d 156 27 (ls) (.int (xI x) :: st) h Q ↔ (x = 0 → xT d 156 34 (ls) (st) h Q) ∧ (¬ x = 0 → xT d 156 30 (ls) (st) h Q) := xT_ifeq (off := 7) (by decide +kernel) rfl rfl x0 x1
theorem r156_30 : xT d 156 30 (ls) (st) h Q ↔ xT d 156 31 (ls) (.int (xI 0) :: st) h Q := xT_iconst (n := 0) (by decide +kernel) rfl
theorem r156_31 : xT d 156 31 (ls) (st) h Q ↔ xT d 156 35 (ls) (st) h Q := xT_goto (off := 4) (by decide +kernel) rfl
theorem r156_34 : xT d 156 34 (ls) (st) h Q ↔ xT d 156 35 (ls) (.int (xI 2) :: st) h Q := xT_iconst (n := 2) (by decide +kernel) rfl
theorem r156_35 : xT d 156 35 (ls) (.int (xI x) :: .ref 21 :: st) (hh f a g) Q ↔ xT d 156 38 (ls) (st) (hh (xu f 21 0 x) a g) Q := xT_putf (k := 56) (ci := 8) (fi := 0) (by decide +kernel) rfl rfl ⟨Nat.le_of_ble_eq_true rfl, Nat.le_of_ble_eq_true rfl⟩ (by decide +kernel) (by decide +kernel) (by decide +kernel) rfl
theorem r156_38 : xT d 156 38 (.ref ov :: ls) (st) h Q ↔ xT d 156 39 (.ref ov :: ls) (.ref ov :: st) h Q := xT_aload_n (k := 0) (by decide +kernel) rfl rfl
theorem r156_39 : xT d 156 39 (ls) (.ref 21 :: st) (hh f a g) Q ↔ xT d 156 42 (ls) (.int (xI (f 21 0)) :: st) (hh f a g) Q := xT_getf (k := 56) (ci := 8) (fi := 0) (by decide +kernel) rfl rfl ⟨Nat.le_of_ble_eq_true rfl, Nat.le_of_ble_eq_true rfl⟩ (by decide +kernel) rfl
theorem r156_42 (x0 : -2147483648 ≤ x) (x1 : x ≤ 2147483647) : xT d 156 42 (ls) (.int (xI x) :: st) h Q ↔ (x = 0 → xT d 156 45 (ls) (st) h Q) ∧ (¬ x = 0 → xT d 156 52 (ls) (st) h Q) := xT_ifne (off := 10) (by decide +kernel) rfl rfl x0 x1
theorem r156_45 : xT d 156 45 (.ref ov :: ls) (st) h Q ↔ xT d 156 46 (.ref ov :: ls) (.ref ov :: st) h Q := xT_aload_n (k := 0) (by decide +kernel) rfl rfl
theorem r156_46 : xT d 156 46 (ls) (.ref 21 :: st) (hh f a g) Q ↔ xT d 156 49 (ls) (.ref 24 :: st) (hh f a g) Q := xT_getf (k := 26) (ci := 8) (fi := 8) (by decide +kernel) rfl rfl ⟨Nat.le_of_ble_eq_true rfl, Nat.le_of_ble_eq_true rfl⟩ (by decide +kernel) rfl
theorem r156_49 : xT d 156 49 (l0 :: .int v :: ls) (st) h Q ↔ xT d 156 50 (l0 :: .int v :: ls) (.int v :: st) h Q := xT_iload_n (k := 1) (by decide +kernel) rfl rfl
theorem r156_50 : xT d 156 50 (l0 :: l1 :: .int v :: ls) (st) h Q ↔ xT d 156 51 (l0 :: l1 :: .int v :: ls) (.int v :: st) h Q := xT_iload_n (k := 2) (by decide +kernel) rfl rfl
theorem r156_51 (x0 : 0 ≤ x) (x1 : x < 1200) : xT d 156 51 (ls) (.int (xI y) :: .int (xI x) :: .ref 24 :: st) (hh f a g) Q ↔ xT d 156 52 (ls) (st) (hh f (xw a 24 x y) g) Q := xT_iastore (N := 1200) (by decide +kernel) rfl rfl ⟨Nat.le_of_ble_eq_true rfl, Nat.le_of_ble_eq_true rfl⟩ x0 x1 (Nat.le_of_ble_eq_true rfl)
theorem r156_52 : xT d 156 52 (ls) ([]) h Q ↔ Q (h, .returned none) := xT_return (by decide +kernel) rfl
theorem e156 {z0 : Nat} {z1 : Int32} {z2 : Int32} : xTC d 156 [.ref z0, .int z1, .int z2] h Q ↔ xT d 156 0 [.ref z0, .int z1, .int z2] [] h Q := Iff.rfl
-- M_type
theorem r157_0 : xT d 157 0 (.ref ov :: ls) (st) h Q ↔ xT d 157 1 (.ref ov :: ls) (.ref ov :: st) h Q := xT_aload_n (k := 0) (by decide +kernel) rfl rfl
theorem r157_1 : xT d 157 1 (l0 :: l1 :: l2 :: .int v :: ls) (st) h Q ↔ xT d 157 2 (l0 :: l1 :: l2 :: .int v :: ls) (.int v :: st) h Q := xT_iload_n (k := 3) (by decide +kernel) rfl rfl
theorem r157_2 : xT d 157 2 (ls) (st) h Q ↔ xT d 157 3 (ls) (.int (xI 1) :: st) h Q := xT_iconst (n := 1) (by decide +kernel) rfl
theorem r157_3 : xT d 157 3 (ls) (st) h Q ↔ xT d 157 5 (ls) (.int (xI 8) :: st) h Q := xT_bipush (n := 8) (by decide +kernel) rfl (by decide +kernel)
theorem r157_5 {z0 : Int32} {z1 : Int32} {z2 : Int32} {z3 : Nat} (hd : 1 ≤ d) : xT d 157 5 (ls) ([.int z0, .int z1, .int z2, .ref z3]) h Q ↔ xTC (d - 1) 129 [.int z2, .int z1, .int z0] h (xAf d 157 5 (ls) [.ref z3] Q) := xT_static (k := 59) (na := 3) (by decide +kernel) (by decide +kernel) ⟨Nat.le_of_ble_eq_true rfl, Nat.le_of_ble_eq_true rfl⟩ rfl rfl (Nat.le_of_ble_eq_true rfl) (Nat.le_of_ble_eq_true rfl) hd
theorem r157_8 (x0 : -2147483648 ≤ x) (x1 : x ≤ 2147483647) : xT d 157 8 (ls) (.int (xI x) :: st) h Q ↔ (x = 0 → xT d 157 11 (ls) (st) h Q) ∧ (¬ x = 0 → xT d 157 15 (ls) (st) h Q) := xT_ifne (off := 7) (by decide +kernel) rfl rfl x0 x1
theorem r157_11 : xT d 157 11 (ls) (st) h Q ↔ xT d 157 12 (ls) (.int (xI 1) :: st) h Q := xT_iconst (n := 1) (by decide +kernel) rfl
theorem r157_12 : xT d 157 12 (ls) (st) h Q ↔ xT d 157 32 (ls) (st) h Q := xT_goto (off := 20) (by decide +kernel) rfl
theorem r157_15 : xT d 157 15 (.ref ov :: ls) (st) h Q ↔ xT d 157 16 (.ref ov :: ls) (.ref ov :: st) h Q := xT_aload_n (k := 0) (by decide +kernel) rfl rfl
theorem r157_16 : xT d 157 16 (ls) (.ref 21 :: st) (hh f a g) Q ↔ xT d 157 19 (ls) (.int (xI (f 21 7)) :: st) (hh f a g) Q := xT_getf (k := 205) (ci := 8) (fi := 7) (by decide +kernel) rfl rfl ⟨Nat.le_of_ble_eq_true rfl, Nat.le_of_ble_eq_true rfl⟩ (by decide +kernel) rfl
theorem r157_19 : xT d 157 19 (l0 :: l1 :: l2 :: .int v :: ls) (st) h Q ↔ xT d 157 20 (l0 :: l1 :: l2 :: .int v :: ls) (.int v :: st) h Q := xT_iload_n (k := 3) (by decide +kernel) rfl rfl
theorem r157_20 : xT d 157 20 (ls) (.int (xI y) :: .int (xI x) :: st) h Q ↔ xT d 157 21 (ls) (.int (xI (x + y)) :: st) h Q := xT_iadd (by decide +kernel) rfl
theorem r157_21 : xT d 157 21 (ls) (st) h Q ↔ xT d 157 24 (ls) (.int (xI 1200) :: st) h Q := xT_sipush (n := 1200) (by decide +kernel) rfl (by decide +kernel)
theorem r157_24 (x0 : -2147483648 ≤ x) (x1 : x ≤ 2147483647) (y0 : -2147483648 ≤ y) (y1 : y ≤ 2147483647) : xT d 157 24 (ls) (.int (xI y) :: .int (xI x) :: st) h Q ↔ (y < x → xT d 157 27 (ls) (st) h Q) ∧ (¬ y < x → xT d 157 31 (ls) (st) h Q) := xT_icle (off := 7) (by decide +kernel) rfl rfl x0 x1 y0 y1
theorem r157_27 : xT d 157 27 (ls) (st) h Q ↔ xT d 157 28 (ls) (.int (xI 2) :: st) h Q := xT_iconst (n := 2) (by decide +kernel) rfl
theorem r157_28 : xT d 157 28 (ls) (st) h Q ↔ xT d 157 32 (ls) (st) h Q := xT_goto (off := 4) (by decide +kernel) rfl
theorem r157_31 : xT d 157 31 (ls) (st) h Q ↔ xT d 157 32 (ls) (.int (xI 0) :: st) h Q := xT_iconst (n := 0) (by decide +kernel) rfl
theorem r157_32 : xT d 157 32 (ls) (.int (xI x) :: .ref 21 :: st) (hh f a g) Q ↔ xT d 157 35 (ls) (st) (hh (xu f 21 0 x) a g) Q := xT_putf (k := 56) (ci := 8) (fi := 0) (by decide +kernel) rfl rfl ⟨Nat.le_of_ble_eq_true rfl, Nat.le_of_ble_eq_true rfl⟩ (by decide +kernel) (by decide +kernel) (by decide +kernel) rfl
theorem r157_35 : xT d 157 35 (l0 :: l1 :: l2 :: .int v :: ls) (st) h Q ↔ xT d 157 36 (l0 :: l1 :: l2 :: .int v :: ls) (.int v :: st) h Q := xT_iload_n (k := 3) (by decide +kernel) rfl rfl
theorem r157_36 : xT d 157 36 (ls) (st) h Q ↔ xT d 157 37 (ls) (.int (xI 1) :: st) h Q := xT_iconst (n := 1) (by decide +kernel) rfl
theorem r157_37 : xT d 157 37 (ls) (.int (xI y) :: .int (xI x) :: st) h Q ↔ xT d 157 38 (ls) (.int (xI (x - y)) :: st) h Q := xT_isub (by decide +kernel) rfl
theorem r157_38 : xT d 157 38 ([l0, l1, l2, .int w, l4]) (.int v :: st) h Q ↔ xT d 157 40 ([l0, l1, l2, .int w, .int v]) (st) h Q := xT_istore (k := 4) (by decide +kernel) rfl (Nat.le_of_ble_eq_true rfl) rfl
theorem r157_40 : xT d 157 40 (l0 :: l1 :: l2 :: l3 :: .int v :: ls) (st) h Q ↔ xT d 157 42 (l0 :: l1 :: l2 :: l3 :: .int v :: ls) (.int v :: st) h Q := xT_iload (k := 4) (by decide +kernel) rfl rfl
theorem r157_42 (x0 : -2147483648 ≤ x) (x1 : x ≤ 2147483647) : xT d 157 42 (ls) (.int (xI x) :: st) h Q ↔ (x < 0 → xT d 157 74 (ls) (st) h Q) ∧ (¬ x < 0 → xT d 157 45 (ls) (st) h Q) := xT_iflt (off := 32) (by decide +kernel) rfl rfl x0 x1
theorem r157_45 : xT d 157 45 (.ref ov :: ls) (st) h Q ↔ xT d 157 46 (.ref ov :: ls) (.ref ov :: st) h Q := xT_aload_n (k := 0) (by decide +kernel) rfl rfl
theorem r157_46 : xT d 157 46 (ls) (.ref 21 :: st) (hh f a g) Q ↔ xT d 157 49 (ls) (.int (xI (f 21 0)) :: st) (hh f a g) Q := xT_getf (k := 56) (ci := 8) (fi := 0) (by decide +kernel) rfl rfl ⟨Nat.le_of_ble_eq_true rfl, Nat.le_of_ble_eq_true rfl⟩ (by decide +kernel) rfl
theorem r157_49 (x0 : -2147483648 ≤ x) (x1 : x ≤ 2147483647) : xT d 157 49 (ls) (.int (xI x) :: st) h Q ↔ (x = 0 → xT d 157 52 (ls) (st) h Q) ∧ (¬ x = 0 → xT d 157 74 (ls) (st) h Q) := xT_ifne (off := 25) (by decide +kernel) rfl rfl x0 x1
theorem r157_52 : xT d 157 52 (.ref ov :: ls) (st) h Q ↔ xT d 157 53 (.ref ov :: ls) (.ref ov :: st) h Q := xT_aload_n (k := 0) (by decide +kernel) rfl rfl
theorem r157_53 : xT d 157 53 (l0 :: .long vl :: ls) (st) h Q ↔ xT d 157 54 (l0 :: .long vl :: ls) (.long vl :: st) h Q := xT_lload_n (k := 1) (by decide +kernel) rfl rfl
theorem r157_54 : xT d 157 54 (ls) (st) h Q ↔ xT d 157 56 (ls) (.int (xI 8) :: st) h Q := xT_bipush (n := 8) (by decide +kernel) rfl (by decide +kernel)
theorem r157_56 : xT d 157 56 (l0 :: l1 :: l2 :: l3 :: .int v :: ls) (st) h Q ↔ xT d 157 58 (l0 :: l1 :: l2 :: l3 :: .int v :: ls) (.int v :: st) h Q := xT_iload (k := 4) (by decide +kernel) rfl rfl
theorem r157_58 : xT d 157 58 (ls) (.int (xI y) :: .int (xI x) :: st) h Q ↔ xT d 157 59 (ls) (.int (xI (x * y)) :: st) h Q := xT_imul (by decide +kernel) rfl
theorem r157_59 : xT d 157 59 (ls) (.int w :: .long vl :: st) h Q ↔ xT d 157 60 (ls) (.long (vl >>> (w.toInt64 &&& 63)) :: st) h Q := xT_lshr (by decide +kernel) rfl
theorem r157_60 : xT d 157 60 (ls) (.long vl :: st) h Q ↔ xT d 157 61 (ls) (.int vl.toInt32 :: st) h Q := xT_l2i (by decide +kernel) rfl
theorem r157_61 : xT d 157 61 (ls) (st) h Q ↔ xT d 157 64 (ls) (.int (xI 255) :: st) h Q := xT_sipush (n := 255) (by decide +kernel) rfl (by decide +kernel)
theorem r157_64 : xT d 157 64 (ls) (.int (xI y) :: .int (xI x) :: st) h Q ↔ xT d 157 65 (ls) (.int (xI (xA x y)) :: st) h Q := xT_iand (by decide +kernel) rfl
theorem r157_65 {z0 : Int32} (hd : 1 ≤ d) : xT d 157 65 (ls) ([.int z0, .ref 21]) (hh f a g) Q ↔ xTC (d - 1) 137 [.ref 21, .int z0] (hh f a g) (xAf d 157 65 (ls) [] Q) := xT_virtual (k := 229) (na := 1) (ci := 8) (by decide +kernel) (by decide +kernel) (by decide +kernel) ⟨Nat.le_of_ble_eq_true rfl, Nat.le_of_ble_eq_true rfl⟩ rfl rfl (Nat.le_of_ble_eq_true rfl) rfl rfl ⟨Nat.le_of_ble_eq_true rfl, Nat.le_of_ble_eq_true rfl⟩ (Nat.le_of_ble_eq_true rfl) hd
theorem r157_68 : xT d 157 68 ([l0, l1, l2, .int w, .int (xI x)]) (st) h Q ↔ xT d 157 71 ([l0, l1, l2, .int w, .int (xI (x + (-1)))]) (st) h Q := xT_iinc (k := 4) (by decide +kernel) rfl rfl rfl
theorem r157_71 : xT d 157 71 (ls) (st) h Q ↔ xT d 157 40 (ls) (st) h Q := xT_goto (off := (-31)) (by decide +kernel) rfl
theorem r157_74 : xT d 157 74 (.ref ov :: ls) (st) h Q ↔ xT d 157 75 (.ref ov :: ls) (.ref ov :: st) h Q := xT_aload_n (k := 0) (by decide +kernel) rfl rfl
theorem r157_75 : xT d 157 75 (ls) (.ref 21 :: st) (hh f a g) Q ↔ xT d 157 78 (ls) (.int (xI (f 21 0)) :: st) (hh f a g) Q := xT_getf (k := 56) (ci := 8) (fi := 0) (by decide +kernel) rfl rfl ⟨Nat.le_of_ble_eq_true rfl, Nat.le_of_ble_eq_true rfl⟩ (by decide +kernel) rfl
theorem r157_78 (x0 : -2147483648 ≤ x) (x1 : x ≤ 2147483647) : xT d 157 78 (ls) (.int (xI x) :: st) h Q ↔ (0 < x → xT d 157 81 (ls) (st) h Q) ∧ (¬ 0 < x → xT d 157 85 (ls) (st) h Q) := xT_ifle (off := 7) (by decide +kernel) rfl rfl x0 x1
theorem r157_81 : xT d 157 81 (ls) (st) h Q ↔ xT d 157 82 (ls) (.int (xI 0) :: st) h Q := xT_iconst (n := 0) (by decide +kernel) rfl
theorem r157_82 : xT d 157 82 (ls) (st) h Q ↔ xT d 157 89 (ls) (st) h Q := xT_goto (off := 7) (by decide +kernel) rfl
theorem r157_85 : xT d 157 85 (.ref ov :: ls) (st) h Q ↔ xT d 157 86 (.ref ov :: ls) (.ref ov :: st) h Q := xT_aload_n (k := 0) (by decide +kernel) rfl rfl
theorem r157_86 : xT d 157 86 (ls) (.ref 21 :: st) (hh f a g) Q ↔ xT d 157 89 (ls) (.int (xI (f 21 7)) :: st) (hh f a g) Q := xT_getf (k := 205) (ci := 8) (fi := 7) (by decide +kernel) rfl rfl ⟨Nat.le_of_ble_eq_true rfl, Nat.le_of_ble_eq_true rfl⟩ (by decide +kernel) rfl
theorem r157_89 : xT d 157 89 (ls) ([.int (xI x)]) h Q ↔ Q (h, .returned (some (.int (xI x)))) := xT_ireturn (by decide +kernel) rfl
theorem e157 {z0 : Nat} {z1 : Int64} {z2 : Int32} : xTC d 157 [.ref z0, .long z1, .int z2] h Q ↔ xT d 157 0 [.ref z0, .long z1, .null, .int z2, .null] [] h Q := Iff.rfl
-- M_cut
theorem r158_0 : xT d 158 0 (.ref ov :: ls) (st) h Q ↔ xT d 158 1 (.ref ov :: ls) (.ref ov :: st) h Q := xT_aload_n (k := 0) (by decide +kernel) rfl rfl
theorem r158_1 : xT d 158 1 (l0 :: .int v :: ls) (st) h Q ↔ xT d 158 2 (l0 :: .int v :: ls) (.int v :: st) h Q := xT_iload_n (k := 1) (by decide +kernel) rfl rfl
theorem r158_2 : xT d 158 2 (ls) (st) h Q ↔ xT d 158 3 (ls) (.int (xI 0) :: st) h Q := xT_iconst (n := 0) (by decide +kernel) rfl
theorem r158_3 : xT d 158 3 (.ref ov :: ls) (st) h Q ↔ xT d 158 4 (.ref ov :: ls) (.ref ov :: st) h Q := xT_aload_n (k := 0) (by decide +kernel) rfl rfl
theorem r158_4 : xT d 158 4 (ls) (.ref 21 :: st) (hh f a g) Q ↔ xT d 158 7 (ls) (.int (xI (f 21 7)) :: st) (hh f a g) Q := xT_getf (k := 205) (ci := 8) (fi := 7) (by decide +kernel) rfl rfl ⟨Nat.le_of_ble_eq_true rfl, Nat.le_of_ble_eq_true rfl⟩ (by decide +kernel) rfl
theorem r158_7 {z0 : Int32} {z1 : Int32} {z2 : Int32} {z3 : Nat} (hd : 1 ≤ d) : xT d 158 7 (ls) ([.int z0, .int z1, .int z2, .ref z3]) h Q ↔ xTC (d - 1) 129 [.int z2, .int z1, .int z0] h (xAf d 158 7 (ls) [.ref z3] Q) := xT_static (k := 59) (na := 3) (by decide +kernel) (by decide +kernel) ⟨Nat.le_of_ble_eq_true rfl, Nat.le_of_ble_eq_true rfl⟩ rfl rfl (Nat.le_of_ble_eq_true rfl) (Nat.le_of_ble_eq_true rfl) hd
theorem r158_10 (x0 : -2147483648 ≤ x) (x1 : x ≤ 2147483647) : xT d 158 10 (ls) (.int (xI x) :: st) h Q ↔ (x = 0 → xT d 158 17 (ls) (st) h Q) ∧ (¬ x = 0 → xT d 158 13 (ls) (st) h Q) := xT_ifeq (off := 7) (by decide +kernel) rfl rfl x0 x1
theorem r158_13 : xT d 158 13 (ls) (st) h Q ↔ xT d 158 14 (ls) (.int (xI 0) :: st) h Q := xT_iconst (n := 0) (by decide +kernel) rfl
theorem r158_14 : xT d 158 14 (ls) (st) h Q ↔ xT d 158 18 (ls) (st) h Q := xT_goto (off := 4) (by decide +kernel) rfl
theorem r158_17 : xT d 158 17 (ls) (st) h Q ↔ xT d 158 18 (ls) (.int (xI 1) :: st) h Q := xT_iconst (n := 1) (by decide +kernel) rfl
theorem r158_18 : xT d 158 18 (ls) (.int (xI x) :: .ref 21 :: st) (hh f a g) Q ↔ xT d 158 21 (ls) (st) (hh (xu f 21 0 x) a g) Q := xT_putf (k := 56) (ci := 8) (fi := 0) (by decide +kernel) rfl rfl ⟨Nat.le_of_ble_eq_true rfl, Nat.le_of_ble_eq_true rfl⟩ (by decide +kernel) (by decide +kernel) (by decide +kernel) rfl
theorem r158_21 : xT d 158 21 (.ref ov :: ls) (st) h Q ↔ xT d 158 22 (.ref ov :: ls) (.ref ov :: st) h Q := xT_aload_n (k := 0) (by decide +kernel) rfl rfl
theorem r158_22 : xT d 158 22 (.ref ov :: ls) (st) h Q ↔ xT d 158 23 (.ref ov :: ls) (.ref ov :: st) h Q := xT_aload_n (k := 0) (by decide +kernel) rfl rfl
theorem r158_23 : xT d 158 23 (ls) (.ref 21 :: st) (hh f a g) Q ↔ xT d 158 26 (ls) (.int (xI (f 21 0)) :: st) (hh f a g) Q := xT_getf (k := 56) (ci := 8) (fi := 0) (by decide +kernel) rfl rfl ⟨Nat.le_of_ble_eq_true rfl, Nat.le_of_ble_eq_true rfl⟩ (by decide +kernel) rfl
theorem r158_26 (x0 : -2147483648 ≤ x) (x1 : x ≤ 2147483647) : xT d 158 26 (ls) (.int (xI x) :: st) h Q ↔ (0 < x → xT d 158 29 (ls) (st) h Q) ∧ (¬ 0 < x → xT d 158 36 (ls) (st) h Q) := xT_ifle (off := 10) (by decide +kernel) rfl rfl x0 x1
theorem r158_29 : xT d 158 29 (.ref ov :: ls) (st) h Q ↔ xT d 158 30 (.ref ov :: ls) (.ref ov :: st) h Q := xT_aload_n (k := 0) (by decide +kernel) rfl rfl
theorem r158_30 : xT d 158 30 (ls) (.ref 21 :: st) (hh f a g) Q ↔ xT d 158 33 (ls) (.int (xI (f 21 7)) :: st) (hh f a g) Q := xT_getf (k := 205) (ci := 8) (fi := 7) (by decide +kernel) rfl rfl ⟨Nat.le_of_ble_eq_true rfl, Nat.le_of_ble_eq_true rfl⟩ (by decide +kernel) rfl
theorem r158_33 : xT d 158 33 (ls) (st) h Q ↔ xT d 158 37 (ls) (st) h Q := xT_goto (off := 4) (by decide +kernel) rfl
theorem r158_36 : xT d 158 36 (l0 :: .int v :: ls) (st) h Q ↔ xT d 158 37 (l0 :: .int v :: ls) (.int v :: st) h Q := xT_iload_n (k := 1) (by decide +kernel) rfl rfl
theorem r158_37 : xT d 158 37 (ls) (.int (xI x) :: .ref 21 :: st) (hh f a g) Q ↔ xT d 158 40 (ls) (st) (hh (xu f 21 7 x) a g) Q := xT_putf (k := 205) (ci := 8) (fi := 7) (by decide +kernel) rfl rfl ⟨Nat.le_of_ble_eq_true rfl, Nat.le_of_ble_eq_true rfl⟩ (by decide +kernel) (by decide +kernel) (by decide +kernel) rfl
theorem r158_40 : xT d 158 40 (ls) ([]) h Q ↔ Q (h, .returned none) := xT_return (by decide +kernel) rfl
theorem e158 {z0 : Nat} {z1 : Int32} : xTC d 158 [.ref z0, .int z1] h Q ↔ xT d 158 0 [.ref z0, .int z1] [] h Q := Iff.rfl
-- M_isPlace
theorem r159_0 : xT d 159 0 (l0 :: .int v :: ls) (st) h Q ↔ xT d 159 1 (l0 :: .int v :: ls) (.int v :: st) h Q := xT_iload_n (k := 1) (by decide +kernel) rfl rfl
theorem r159_1 : xT d 159 1 (ls) (st) h Q ↔ xT d 159 2 (ls) (.int (xI 0) :: st) h Q := xT_iconst (n := 0) (by decide +kernel) rfl
theorem r159_2 : xT d 159 2 (.ref ov :: ls) (st) h Q ↔ xT d 159 3 (.ref ov :: ls) (.ref ov :: st) h Q := xT_aload_n (k := 0) (by decide +kernel) rfl rfl
theorem r159_3 : xT d 159 3 (ls) (.ref 21 :: st) (hh f a g) Q ↔ xT d 159 6 (ls) (.int (xI (f 21 4)) :: st) (hh f a g) Q := xT_getf (k := 63) (ci := 8) (fi := 4) (by decide +kernel) rfl rfl ⟨Nat.le_of_ble_eq_true rfl, Nat.le_of_ble_eq_true rfl⟩ (by decide +kernel) rfl
theorem r159_6 : xT d 159 6 (ls) (st) h Q ↔ xT d 159 7 (ls) (.int (xI 1) :: st) h Q := xT_iconst (n := 1) (by decide +kernel) rfl
theorem r159_7 : xT d 159 7 (ls) (.int (xI y) :: .int (xI x) :: st) h Q ↔ xT d 159 8 (ls) (.int (xI (x - y)) :: st) h Q := xT_isub (by decide +kernel) rfl
theorem r159_8 {z0 : Int32} {z1 : Int32} {z2 : Int32} (hd : 1 ≤ d) : xT d 159 8 (ls) ([.int z0, .int z1, .int z2]) h Q ↔ xTC (d - 1) 129 [.int z2, .int z1, .int z0] h (xAf d 159 8 (ls) [] Q) := xT_static (k := 59) (na := 3) (by decide +kernel) (by decide +kernel) ⟨Nat.le_of_ble_eq_true rfl, Nat.le_of_ble_eq_true rfl⟩ rfl rfl (Nat.le_of_ble_eq_true rfl) (Nat.le_of_ble_eq_true rfl) hd
theorem r159_11 (x0 : -2147483648 ≤ x) (x1 : x ≤ 2147483647) : xT d 159 11 (ls) (.int (xI x) :: st) h Q ↔ (x = 0 → xT d 159 61 (ls) (st) h Q) ∧ (¬ x = 0 → xT d 159 14 (ls) (st) h Q) := xT_ifeq (off := 50) (by decide +kernel) rfl rfl x0 x1
theorem r159_14 : xT d 159 14 (l0 :: l1 :: .int v :: ls) (st) h Q ↔ xT d 159 15 (l0 :: l1 :: .int v :: ls) (.int v :: st) h Q := xT_iload_n (k := 2) (by decide +kernel) rfl rfl
theorem r159_15 : xT d 159 15 (ls) (st) h Q ↔ xT d 159 16 (ls) (.int (xI 0) :: st) h Q := xT_iconst (n := 0) (by decide +kernel) rfl
theorem r159_16 : xT d 159 16 (.ref ov :: ls) (st) h Q ↔ xT d 159 17 (.ref ov :: ls) (.ref ov :: st) h Q := xT_aload_n (k := 0) (by decide +kernel) rfl rfl
theorem r159_17 : xT d 159 17 (ls) (.ref 21 :: st) (hh f a g) Q ↔ xT d 159 20 (ls) (.int (xI (f 21 3)) :: st) (hh f a g) Q := xT_getf (k := 16) (ci := 8) (fi := 3) (by decide +kernel) rfl rfl ⟨Nat.le_of_ble_eq_true rfl, Nat.le_of_ble_eq_true rfl⟩ (by decide +kernel) rfl
theorem r159_20 : xT d 159 20 (ls) (st) h Q ↔ xT d 159 21 (ls) (.int (xI 1) :: st) h Q := xT_iconst (n := 1) (by decide +kernel) rfl
theorem r159_21 : xT d 159 21 (ls) (.int (xI y) :: .int (xI x) :: st) h Q ↔ xT d 159 22 (ls) (.int (xI (x - y)) :: st) h Q := xT_isub (by decide +kernel) rfl
theorem r159_22 {z0 : Int32} {z1 : Int32} {z2 : Int32} (hd : 1 ≤ d) : xT d 159 22 (ls) ([.int z0, .int z1, .int z2]) h Q ↔ xTC (d - 1) 129 [.int z2, .int z1, .int z0] h (xAf d 159 22 (ls) [] Q) := xT_static (k := 59) (na := 3) (by decide +kernel) (by decide +kernel) ⟨Nat.le_of_ble_eq_true rfl, Nat.le_of_ble_eq_true rfl⟩ rfl rfl (Nat.le_of_ble_eq_true rfl) (Nat.le_of_ble_eq_true rfl) hd
theorem r159_25 (x0 : -2147483648 ≤ x) (x1 : x ≤ 2147483647) : xT d 159 25 (ls) (.int (xI x) :: st) h Q ↔ (x = 0 → xT d 159 61 (ls) (st) h Q) ∧ (¬ x = 0 → xT d 159 28 (ls) (st) h Q) := xT_ifeq (off := 36) (by decide +kernel) rfl rfl x0 x1
theorem r159_28 : xT d 159 28 (l0 :: l1 :: l2 :: .int v :: ls) (st) h Q ↔ xT d 159 29 (l0 :: l1 :: l2 :: .int v :: ls) (.int v :: st) h Q := xT_iload_n (k := 3) (by decide +kernel) rfl rfl
theorem r159_29 : xT d 159 29 (ls) (st) h Q ↔ xT d 159 30 (ls) (.int (xI 0) :: st) h Q := xT_iconst (n := 0) (by decide +kernel) rfl
theorem r159_30 : xT d 159 30 (.ref ov :: ls) (st) h Q ↔ xT d 159 31 (.ref ov :: ls) (.ref ov :: st) h Q := xT_aload_n (k := 0) (by decide +kernel) rfl rfl
theorem r159_31 : xT d 159 31 (ls) (.ref 21 :: st) (hh f a g) Q ↔ xT d 159 34 (ls) (.int (xI (f 21 1)) :: st) (hh f a g) Q := xT_getf (k := 7) (ci := 8) (fi := 1) (by decide +kernel) rfl rfl ⟨Nat.le_of_ble_eq_true rfl, Nat.le_of_ble_eq_true rfl⟩ (by decide +kernel) rfl
theorem r159_34 : xT d 159 34 (ls) (st) h Q ↔ xT d 159 35 (ls) (.int (xI 1) :: st) h Q := xT_iconst (n := 1) (by decide +kernel) rfl
theorem r159_35 : xT d 159 35 (ls) (.int (xI y) :: .int (xI x) :: st) h Q ↔ xT d 159 36 (ls) (.int (xI (x - y)) :: st) h Q := xT_isub (by decide +kernel) rfl
theorem r159_36 {z0 : Int32} {z1 : Int32} {z2 : Int32} (hd : 1 ≤ d) : xT d 159 36 (ls) ([.int z0, .int z1, .int z2]) h Q ↔ xTC (d - 1) 129 [.int z2, .int z1, .int z0] h (xAf d 159 36 (ls) [] Q) := xT_static (k := 59) (na := 3) (by decide +kernel) (by decide +kernel) ⟨Nat.le_of_ble_eq_true rfl, Nat.le_of_ble_eq_true rfl⟩ rfl rfl (Nat.le_of_ble_eq_true rfl) (Nat.le_of_ble_eq_true rfl) hd
theorem r159_39 (x0 : -2147483648 ≤ x) (x1 : x ≤ 2147483647) : xT d 159 39 (ls) (.int (xI x) :: st) h Q ↔ (x = 0 → xT d 159 61 (ls) (st) h Q) ∧ (¬ x = 0 → xT d 159 42 (ls) (st) h Q) := xT_ifeq (off := 22) (by decide +kernel) rfl rfl x0 x1
theorem r159_42 : xT d 159 42 (l0 :: l1 :: l2 :: l3 :: .int v :: ls) (st) h Q ↔ xT d 159 44 (l0 :: l1 :: l2 :: l3 :: .int v :: ls) (.int v :: st) h Q := xT_iload (k := 4) (by decide +kernel) rfl rfl
theorem r159_44 : xT d 159 44 (ls) (st) h Q ↔ xT d 159 45 (ls) (.int (xI 0) :: st) h Q := xT_iconst (n := 0) (by decide +kernel) rfl
theorem r159_45 : xT d 159 45 (.ref ov :: ls) (st) h Q ↔ xT d 159 46 (.ref ov :: ls) (.ref ov :: st) h Q := xT_aload_n (k := 0) (by decide +kernel) rfl rfl
theorem r159_46 : xT d 159 46 (ls) (.ref 21 :: st) (hh f a g) Q ↔ xT d 159 49 (ls) (.int (xI (f 21 2)) :: st) (hh f a g) Q := xT_getf (k := 13) (ci := 8) (fi := 2) (by decide +kernel) rfl rfl ⟨Nat.le_of_ble_eq_true rfl, Nat.le_of_ble_eq_true rfl⟩ (by decide +kernel) rfl
theorem r159_49 : xT d 159 49 (ls) (st) h Q ↔ xT d 159 50 (ls) (.int (xI 1) :: st) h Q := xT_iconst (n := 1) (by decide +kernel) rfl
theorem r159_50 : xT d 159 50 (ls) (.int (xI y) :: .int (xI x) :: st) h Q ↔ xT d 159 51 (ls) (.int (xI (x - y)) :: st) h Q := xT_isub (by decide +kernel) rfl
theorem r159_51 {z0 : Int32} {z1 : Int32} {z2 : Int32} (hd : 1 ≤ d) : xT d 159 51 (ls) ([.int z0, .int z1, .int z2]) h Q ↔ xTC (d - 1) 129 [.int z2, .int z1, .int z0] h (xAf d 159 51 (ls) [] Q) := xT_static (k := 59) (na := 3) (by decide +kernel) (by decide +kernel) ⟨Nat.le_of_ble_eq_true rfl, Nat.le_of_ble_eq_true rfl⟩ rfl rfl (Nat.le_of_ble_eq_true rfl) (Nat.le_of_ble_eq_true rfl) hd
theorem r159_54 (x0 : -2147483648 ≤ x) (x1 : x ≤ 2147483647) : xT d 159 54 (ls) (.int (xI x) :: st) h Q ↔ (x = 0 → xT d 159 61 (ls) (st) h Q) ∧ (¬ x = 0 → xT d 159 57 (ls) (st) h Q) := xT_ifeq (off := 7) (by decide +kernel) rfl rfl x0 x1
theorem r159_57 : xT d 159 57 (ls) (st) h Q ↔ xT d 159 58 (ls) (.int (xI 1) :: st) h Q := xT_iconst (n := 1) (by decide +kernel) rfl
theorem r159_58 : xT d 159 58 (ls) (st) h Q ↔ xT d 159 62 (ls) (st) h Q := xT_goto (off := 4) (by decide +kernel) rfl
theorem r159_61 : xT d 159 61 (ls) (st) h Q ↔ xT d 159 62 (ls) (.int (xI 0) :: st) h Q := xT_iconst (n := 0) (by decide +kernel) rfl
theorem r159_62 (hx : x = 0 ∨ x = 1) : xT d 159 62 (ls) ([.int (xI x)]) h Q ↔ Q (h, .returned (some (.int (xI x)))) := xT_zreturn (by decide +kernel) rfl hx
theorem e159 {z0 : Nat} {z1 : Int32} {z2 : Int32} {z3 : Int32} {z4 : Int32} : xTC d 159 [.ref z0, .int z1, .int z2, .int z3, .int z4] h Q ↔ xT d 159 0 [.ref z0, .int z1, .int z2, .int z3, .int z4] [] h Q := Iff.rfl
-- M_set
theorem r160_0 : xT d 160 0 (.ref ov :: ls) (st) h Q ↔ xT d 160 1 (.ref ov :: ls) (.ref ov :: st) h Q := xT_aload_n (k := 0) (by decide +kernel) rfl rfl
theorem r160_1 : xT d 160 1 (.ref ov :: ls) (st) h Q ↔ xT d 160 2 (.ref ov :: ls) (.ref ov :: st) h Q := xT_aload_n (k := 0) (by decide +kernel) rfl rfl
theorem r160_2 : xT d 160 2 (l0 :: .int v :: ls) (st) h Q ↔ xT d 160 3 (l0 :: .int v :: ls) (.int v :: st) h Q := xT_iload_n (k := 1) (by decide +kernel) rfl rfl
theorem r160_3 : xT d 160 3 (l0 :: l1 :: .int v :: ls) (st) h Q ↔ xT d 160 4 (l0 :: l1 :: .int v :: ls) (.int v :: st) h Q := xT_iload_n (k := 2) (by decide +kernel) rfl rfl
theorem r160_4 : xT d 160 4 (l0 :: l1 :: l2 :: .int v :: ls) (st) h Q ↔ xT d 160 5 (l0 :: l1 :: l2 :: .int v :: ls) (.int v :: st) h Q := xT_iload_n (k := 3) (by decide +kernel) rfl rfl
theorem r160_5 : xT d 160 5 (l0 :: l1 :: l2 :: l3 :: .int v :: ls) (st) h Q ↔ xT d 160 7 (l0 :: l1 :: l2 :: l3 :: .int v :: ls) (.int v :: st) h Q := xT_iload (k := 4) (by decide +kernel) rfl rfl
theorem r160_7 {z0 : Int32} {z1 : Int32} {z2 : Int32} {z3 : Int32} {z5 : Nat} (hd : 1 ≤ d) : xT d 160 7 (ls) ([.int z0, .int z1, .int z2, .int z3, .ref 21, .ref z5]) (hh f a g) Q ↔ xTC (d - 1) 159 [.ref 21, .int z3, .int z2, .int z1, .int z0] (hh f a g) (xAf d 160 7 (ls) [.ref z5] Q) := xT_virtual (k := 67) (na := 4) (ci := 8) (by decide +kernel) (by decide +kernel) (by decide +kernel) ⟨Nat.le_of_ble_eq_true rfl, Nat.le_of_ble_eq_true rfl⟩ rfl rfl (Nat.le_of_ble_eq_true rfl) rfl rfl ⟨Nat.le_of_ble_eq_true rfl, Nat.le_of_ble_eq_true rfl⟩ (Nat.le_of_ble_eq_true rfl) hd
theorem r160_10 (x0 : -2147483648 ≤ x) (x1 : x ≤ 2147483647) : xT d 160 10 (ls) (.int (xI x) :: st) h Q ↔ (x = 0 → xT d 160 13 (ls) (st) h Q) ∧ (¬ x = 0 → xT d 160 17 (ls) (st) h Q) := xT_ifne (off := 7) (by decide +kernel) rfl rfl x0 x1
theorem r160_13 : xT d 160 13 (ls) (st) h Q ↔ xT d 160 14 (ls) (.int (xI 1) :: st) h Q := xT_iconst (n := 1) (by decide +kernel) rfl
theorem r160_14 : xT d 160 14 (ls) (st) h Q ↔ xT d 160 34 (ls) (st) h Q := xT_goto (off := 20) (by decide +kernel) rfl
theorem r160_17 : xT d 160 17 (l0 :: l1 :: l2 :: l3 :: l4 :: .int v :: ls) (st) h Q ↔ xT d 160 19 (l0 :: l1 :: l2 :: l3 :: l4 :: .int v :: ls) (.int v :: st) h Q := xT_iload (k := 5) (by decide +kernel) rfl rfl
theorem r160_19 : xT d 160 19 (ls) (st) h Q ↔ xT d 160 20 (ls) (.int (xI 0) :: st) h Q := xT_iconst (n := 0) (by decide +kernel) rfl
theorem r160_20 : xT d 160 20 (ls) (st) h Q ↔ xT d 160 23 (ls) (.int (xI 255) :: st) h Q := xT_sipush (n := 255) (by decide +kernel) rfl (by decide +kernel)
theorem r160_23 {z0 : Int32} {z1 : Int32} {z2 : Int32} {z3 : Nat} (hd : 1 ≤ d) : xT d 160 23 (ls) ([.int z0, .int z1, .int z2, .ref z3]) h Q ↔ xTC (d - 1) 129 [.int z2, .int z1, .int z0] h (xAf d 160 23 (ls) [.ref z3] Q) := xT_static (k := 59) (na := 3) (by decide +kernel) (by decide +kernel) ⟨Nat.le_of_ble_eq_true rfl, Nat.le_of_ble_eq_true rfl⟩ rfl rfl (Nat.le_of_ble_eq_true rfl) (Nat.le_of_ble_eq_true rfl) hd
theorem r160_26 (x0 : -2147483648 ≤ x) (x1 : x ≤ 2147483647) : xT d 160 26 (ls) (.int (xI x) :: st) h Q ↔ (x = 0 → xT d 160 33 (ls) (st) h Q) ∧ (¬ x = 0 → xT d 160 29 (ls) (st) h Q) := xT_ifeq (off := 7) (by decide +kernel) rfl rfl x0 x1
theorem r160_29 : xT d 160 29 (ls) (st) h Q ↔ xT d 160 30 (ls) (.int (xI 0) :: st) h Q := xT_iconst (n := 0) (by decide +kernel) rfl
theorem r160_30 : xT d 160 30 (ls) (st) h Q ↔ xT d 160 34 (ls) (st) h Q := xT_goto (off := 4) (by decide +kernel) rfl
theorem r160_33 : xT d 160 33 (ls) (st) h Q ↔ xT d 160 34 (ls) (.int (xI 2) :: st) h Q := xT_iconst (n := 2) (by decide +kernel) rfl
theorem r160_34 : xT d 160 34 (ls) (.int (xI x) :: .ref 21 :: st) (hh f a g) Q ↔ xT d 160 37 (ls) (st) (hh (xu f 21 0 x) a g) Q := xT_putf (k := 56) (ci := 8) (fi := 0) (by decide +kernel) rfl rfl ⟨Nat.le_of_ble_eq_true rfl, Nat.le_of_ble_eq_true rfl⟩ (by decide +kernel) (by decide +kernel) (by decide +kernel) rfl
theorem r160_37 : xT d 160 37 (.ref ov :: ls) (st) h Q ↔ xT d 160 38 (.ref ov :: ls) (.ref ov :: st) h Q := xT_aload_n (k := 0) (by decide +kernel) rfl rfl
theorem r160_38 : xT d 160 38 (ls) (.ref 21 :: st) (hh f a g) Q ↔ xT d 160 41 (ls) (.int (xI (f 21 0)) :: st) (hh f a g) Q := xT_getf (k := 56) (ci := 8) (fi := 0) (by decide +kernel) rfl rfl ⟨Nat.le_of_ble_eq_true rfl, Nat.le_of_ble_eq_true rfl⟩ (by decide +kernel) rfl
theorem r160_41 (x0 : -2147483648 ≤ x) (x1 : x ≤ 2147483647) : xT d 160 41 (ls) (.int (xI x) :: st) h Q ↔ (0 < x → xT d 160 44 (ls) (st) h Q) ∧ (¬ 0 < x → xT d 160 46 (ls) (st) h Q) := xT_ifle (off := 5) (by decide +kernel) rfl rfl x0 x1
theorem r160_44 : xT d 160 44 (ls) (st) h Q ↔ xT d 160 45 (ls) (.int (xI 0) :: st) h Q := xT_iconst (n := 0) (by decide +kernel) rfl
theorem r160_45 : xT d 160 45 (ls) ([.int (xI x)]) h Q ↔ Q (h, .returned (some (.int (xI x)))) := xT_ireturn (by decide +kernel) rfl
theorem r160_46 : xT d 160 46 (ls) (st) h Q ↔ xT d 160 48 (ls) (.int (xI 108) :: st) h Q := xT_bipush (n := 108) (by decide +kernel) rfl (by decide +kernel)
theorem r160_48 : xT d 160 48 (l0 :: .int v :: ls) (st) h Q ↔ xT d 160 49 (l0 :: .int v :: ls) (.int v :: st) h Q := xT_iload_n (k := 1) (by decide +kernel) rfl rfl
theorem r160_49 : xT d 160 49 (ls) (.int (xI y) :: .int (xI x) :: st) h Q ↔ xT d 160 50 (ls) (.int (xI (x * y)) :: st) h Q := xT_imul (by decide +kernel) rfl
theorem r160_50 : xT d 160 50 (ls) (st) h Q ↔ xT d 160 52 (ls) (.int (xI 36) :: st) h Q := xT_bipush (n := 36) (by decide +kernel) rfl (by decide +kernel)
theorem r160_52 : xT d 160 52 (l0 :: l1 :: .int v :: ls) (st) h Q ↔ xT d 160 53 (l0 :: l1 :: .int v :: ls) (.int v :: st) h Q := xT_iload_n (k := 2) (by decide +kernel) rfl rfl
theorem r160_53 : xT d 160 53 (ls) (.int (xI y) :: .int (xI x) :: st) h Q ↔ xT d 160 54 (ls) (.int (xI (x * y)) :: st) h Q := xT_imul (by decide +kernel) rfl
theorem r160_54 : xT d 160 54 (ls) (.int (xI y) :: .int (xI x) :: st) h Q ↔ xT d 160 55 (ls) (.int (xI (x + y)) :: st) h Q := xT_iadd (by decide +kernel) rfl
theorem r160_55 : xT d 160 55 (ls) (st) h Q ↔ xT d 160 57 (ls) (.int (xI 6) :: st) h Q := xT_bipush (n := 6) (by decide +kernel) rfl (by decide +kernel)
theorem r160_57 : xT d 160 57 (l0 :: l1 :: l2 :: l3 :: .int v :: ls) (st) h Q ↔ xT d 160 59 (l0 :: l1 :: l2 :: l3 :: .int v :: ls) (.int v :: st) h Q := xT_iload (k := 4) (by decide +kernel) rfl rfl
theorem r160_59 : xT d 160 59 (ls) (.int (xI y) :: .int (xI x) :: st) h Q ↔ xT d 160 60 (ls) (.int (xI (x * y)) :: st) h Q := xT_imul (by decide +kernel) rfl
theorem r160_60 : xT d 160 60 (ls) (.int (xI y) :: .int (xI x) :: st) h Q ↔ xT d 160 61 (ls) (.int (xI (x + y)) :: st) h Q := xT_iadd (by decide +kernel) rfl
theorem r160_61 : xT d 160 61 (l0 :: l1 :: l2 :: .int v :: ls) (st) h Q ↔ xT d 160 62 (l0 :: l1 :: l2 :: .int v :: ls) (.int v :: st) h Q := xT_iload_n (k := 3) (by decide +kernel) rfl rfl
theorem r160_62 : xT d 160 62 (ls) (.int (xI y) :: .int (xI x) :: st) h Q ↔ xT d 160 63 (ls) (.int (xI (x + y)) :: st) h Q := xT_iadd (by decide +kernel) rfl
theorem r160_63 : xT d 160 63 ([l0, l1, l2, l3, l4, .int w, l6, l7]) (.int v :: st) h Q ↔ xT d 160 65 ([l0, l1, l2, l3, l4, .int w, .int v, l7]) (st) h Q := xT_istore (k := 6) (by decide +kernel) rfl (Nat.le_of_ble_eq_true rfl) rfl
theorem r160_65 : xT d 160 65 (.ref ov :: ls) (st) h Q ↔ xT d 160 66 (.ref ov :: ls) (.ref ov :: st) h Q := xT_aload_n (k := 0) (by decide +kernel) rfl rfl
theorem r160_66 : xT d 160 66 (ls) (.ref 21 :: st) (hh f a g) Q ↔ xT d 160 69 (ls) (.ref 23 :: st) (hh f a g) Q := xT_getf (k := 23) (ci := 8) (fi := 6) (by decide +kernel) rfl rfl ⟨Nat.le_of_ble_eq_true rfl, Nat.le_of_ble_eq_true rfl⟩ (by decide +kernel) rfl
theorem r160_69 : xT d 160 69 (l0 :: l1 :: l2 :: l3 :: l4 :: l5 :: .int v :: ls) (st) h Q ↔ xT d 160 71 (l0 :: l1 :: l2 :: l3 :: l4 :: l5 :: .int v :: ls) (.int v :: st) h Q := xT_iload (k := 6) (by decide +kernel) rfl rfl
theorem r160_71 (x0 : 0 ≤ x) (x1 : x < 324) : xT d 160 71 (ls) (.int (xI x) :: .ref 23 :: st) (hh f a g) Q ↔ xT d 160 72 (ls) (.int (xI (a 23 x)) :: st) (hh f a g) Q := xT_iaload (N := 324) (by decide +kernel) rfl rfl (Nat.le_of_ble_eq_true rfl) x0 x1 (Nat.le_of_ble_eq_true rfl)
theorem r160_72 : xT d 160 72 ([l0, l1, l2, l3, l4, l5, .int w, l7]) (.int v :: st) h Q ↔ xT d 160 74 ([l0, l1, l2, l3, l4, l5, .int w, .int v]) (st) h Q := xT_istore (k := 7) (by decide +kernel) rfl (Nat.le_of_ble_eq_true rfl) rfl
theorem r160_74 : xT d 160 74 (.ref ov :: ls) (st) h Q ↔ xT d 160 75 (.ref ov :: ls) (.ref ov :: st) h Q := xT_aload_n (k := 0) (by decide +kernel) rfl rfl
theorem r160_75 : xT d 160 75 (ls) (.ref 21 :: st) (hh f a g) Q ↔ xT d 160 78 (ls) (.ref 23 :: st) (hh f a g) Q := xT_getf (k := 23) (ci := 8) (fi := 6) (by decide +kernel) rfl rfl ⟨Nat.le_of_ble_eq_true rfl, Nat.le_of_ble_eq_true rfl⟩ (by decide +kernel) rfl
theorem r160_78 : xT d 160 78 (l0 :: l1 :: l2 :: l3 :: l4 :: l5 :: .int v :: ls) (st) h Q ↔ xT d 160 80 (l0 :: l1 :: l2 :: l3 :: l4 :: l5 :: .int v :: ls) (.int v :: st) h Q := xT_iload (k := 6) (by decide +kernel) rfl rfl
theorem r160_80 : xT d 160 80 (l0 :: l1 :: l2 :: l3 :: l4 :: .int v :: ls) (st) h Q ↔ xT d 160 82 (l0 :: l1 :: l2 :: l3 :: l4 :: .int v :: ls) (.int v :: st) h Q := xT_iload (k := 5) (by decide +kernel) rfl rfl
theorem r160_82 (x0 : 0 ≤ x) (x1 : x < 324) : xT d 160 82 (ls) (.int (xI y) :: .int (xI x) :: .ref 23 :: st) (hh f a g) Q ↔ xT d 160 83 (ls) (st) (hh f (xw a 23 x y) g) Q := xT_iastore (N := 324) (by decide +kernel) rfl rfl ⟨Nat.le_of_ble_eq_true rfl, Nat.le_of_ble_eq_true rfl⟩ x0 x1 (Nat.le_of_ble_eq_true rfl)
theorem r160_83 : xT d 160 83 (l0 :: l1 :: l2 :: l3 :: l4 :: l5 :: l6 :: .int v :: ls) (st) h Q ↔ xT d 160 85 (l0 :: l1 :: l2 :: l3 :: l4 :: l5 :: l6 :: .int v :: ls) (.int v :: st) h Q := xT_iload (k := 7) (by decide +kernel) rfl rfl
theorem r160_85 : xT d 160 85 (ls) ([.int (xI x)]) h Q ↔ Q (h, .returned (some (.int (xI x)))) := xT_ireturn (by decide +kernel) rfl
theorem e160 {z0 : Nat} {z1 : Int32} {z2 : Int32} {z3 : Int32} {z4 : Int32} {z5 : Int32} : xTC d 160 [.ref z0, .int z1, .int z2, .int z3, .int z4, .int z5] h Q ↔ xT d 160 0 [.ref z0, .int z1, .int z2, .int z3, .int z4, .int z5, .null, .null] [] h Q := Iff.rfl
-- M_get
theorem r161_0 : xT d 161 0 (.ref ov :: ls) (st) h Q ↔ xT d 161 1 (.ref ov :: ls) (.ref ov :: st) h Q := xT_aload_n (k := 0) (by decide +kernel) rfl rfl
theorem r161_1 : xT d 161 1 (.ref ov :: ls) (st) h Q ↔ xT d 161 2 (.ref ov :: ls) (.ref ov :: st) h Q := xT_aload_n (k := 0) (by decide +kernel) rfl rfl
theorem r161_2 : xT d 161 2 (l0 :: .int v :: ls) (st) h Q ↔ xT d 161 3 (l0 :: .int v :: ls) (.int v :: st) h Q := xT_iload_n (k := 1) (by decide +kernel) rfl rfl
theorem r161_3 : xT d 161 3 (l0 :: l1 :: .int v :: ls) (st) h Q ↔ xT d 161 4 (l0 :: l1 :: .int v :: ls) (.int v :: st) h Q := xT_iload_n (k := 2) (by decide +kernel) rfl rfl
theorem r161_4 : xT d 161 4 (l0 :: l1 :: l2 :: .int v :: ls) (st) h Q ↔ xT d 161 5 (l0 :: l1 :: l2 :: .int v :: ls) (.int v :: st) h Q := xT_iload_n (k := 3) (by decide +kernel) rfl rfl
theorem r161_5 : xT d 161 5 (l0 :: l1 :: l2 :: l3 :: .int v :: ls) (st) h Q ↔ xT d 161 7 (l0 :: l1 :: l2 :: l3 :: .int v :: ls) (.int v :: st) h Q := xT_iload (k := 4) (by decide +kernel) rfl rfl
theorem r161_7 {z0 : Int32} {z1 : Int32} {z2 : Int32} {z3 : Int32} {z5 : Nat} (hd : 1 ≤ d) : xT d 161 7 (ls) ([.int z0, .int z1, .int z2, .int z3, .ref 21, .ref z5]) (hh f a g) Q ↔ xTC (d - 1) 159 [.ref 21, .int z3, .int z2, .int z1, .int z0] (hh f a g) (xAf d 161 7 (ls) [.ref z5] Q) := xT_virtual (k := 67) (na := 4) (ci := 8) (by decide +kernel) (by decide +kernel) (by decide +kernel) ⟨Nat.le_of_ble_eq_true rfl, Nat.le_of_ble_eq_true rfl⟩ rfl rfl (Nat.le_of_ble_eq_true rfl) rfl rfl ⟨Nat.le_of_ble_eq_true rfl, Nat.le_of_ble_eq_true rfl⟩ (Nat.le_of_ble_eq_true rfl) hd
theorem r161_10 (x0 : -2147483648 ≤ x) (x1 : x ≤ 2147483647) : xT d 161 10 (ls) (.int (xI x) :: st) h Q ↔ (x = 0 → xT d 161 17 (ls) (st) h Q) ∧ (¬ x = 0 → xT d 161 13 (ls) (st) h Q) := xT_ifeq (off := 7) (by decide +kernel) rfl rfl x0 x1
theorem r161_13 : xT d 161 13 (ls) (st) h Q ↔ xT d 161 14 (ls) (.int (xI 0) :: st) h Q := xT_iconst (n := 0) (by decide +kernel) rfl
theorem r161_14 : xT d 161 14 (ls) (st) h Q ↔ xT d 161 18 (ls) (st) h Q := xT_goto (off := 4) (by decide +kernel) rfl
theorem r161_17 : xT d 161 17 (ls) (st) h Q ↔ xT d 161 18 (ls) (.int (xI 1) :: st) h Q := xT_iconst (n := 1) (by decide +kernel) rfl
theorem r161_18 : xT d 161 18 (ls) (.int (xI x) :: .ref 21 :: st) (hh f a g) Q ↔ xT d 161 21 (ls) (st) (hh (xu f 21 0 x) a g) Q := xT_putf (k := 56) (ci := 8) (fi := 0) (by decide +kernel) rfl rfl ⟨Nat.le_of_ble_eq_true rfl, Nat.le_of_ble_eq_true rfl⟩ (by decide +kernel) (by decide +kernel) (by decide +kernel) rfl
theorem r161_21 : xT d 161 21 (.ref ov :: ls) (st) h Q ↔ xT d 161 22 (.ref ov :: ls) (.ref ov :: st) h Q := xT_aload_n (k := 0) (by decide +kernel) rfl rfl
theorem r161_22 : xT d 161 22 (ls) (.ref 21 :: st) (hh f a g) Q ↔ xT d 161 25 (ls) (.int (xI (f 21 0)) :: st) (hh f a g) Q := xT_getf (k := 56) (ci := 8) (fi := 0) (by decide +kernel) rfl rfl ⟨Nat.le_of_ble_eq_true rfl, Nat.le_of_ble_eq_true rfl⟩ (by decide +kernel) rfl
theorem r161_25 (x0 : -2147483648 ≤ x) (x1 : x ≤ 2147483647) : xT d 161 25 (ls) (.int (xI x) :: st) h Q ↔ (0 < x → xT d 161 28 (ls) (st) h Q) ∧ (¬ 0 < x → xT d 161 32 (ls) (st) h Q) := xT_ifle (off := 7) (by decide +kernel) rfl rfl x0 x1
theorem r161_28 : xT d 161 28 (ls) (st) h Q ↔ xT d 161 29 (ls) (.int (xI 0) :: st) h Q := xT_iconst (n := 0) (by decide +kernel) rfl
theorem r161_29 : xT d 161 29 (ls) (st) h Q ↔ xT d 161 54 (ls) (st) h Q := xT_goto (off := 25) (by decide +kernel) rfl
theorem r161_32 : xT d 161 32 (.ref ov :: ls) (st) h Q ↔ xT d 161 33 (.ref ov :: ls) (.ref ov :: st) h Q := xT_aload_n (k := 0) (by decide +kernel) rfl rfl
theorem r161_33 : xT d 161 33 (ls) (.ref 21 :: st) (hh f a g) Q ↔ xT d 161 36 (ls) (.ref 23 :: st) (hh f a g) Q := xT_getf (k := 23) (ci := 8) (fi := 6) (by decide +kernel) rfl rfl ⟨Nat.le_of_ble_eq_true rfl, Nat.le_of_ble_eq_true rfl⟩ (by decide +kernel) rfl
theorem r161_36 : xT d 161 36 (ls) (st) h Q ↔ xT d 161 38 (ls) (.int (xI 108) :: st) h Q := xT_bipush (n := 108) (by decide +kernel) rfl (by decide +kernel)
theorem r161_38 : xT d 161 38 (l0 :: .int v :: ls) (st) h Q ↔ xT d 161 39 (l0 :: .int v :: ls) (.int v :: st) h Q := xT_iload_n (k := 1) (by decide +kernel) rfl rfl
theorem r161_39 : xT d 161 39 (ls) (.int (xI y) :: .int (xI x) :: st) h Q ↔ xT d 161 40 (ls) (.int (xI (x * y)) :: st) h Q := xT_imul (by decide +kernel) rfl
theorem r161_40 : xT d 161 40 (ls) (st) h Q ↔ xT d 161 42 (ls) (.int (xI 36) :: st) h Q := xT_bipush (n := 36) (by decide +kernel) rfl (by decide +kernel)
theorem r161_42 : xT d 161 42 (l0 :: l1 :: .int v :: ls) (st) h Q ↔ xT d 161 43 (l0 :: l1 :: .int v :: ls) (.int v :: st) h Q := xT_iload_n (k := 2) (by decide +kernel) rfl rfl
theorem r161_43 : xT d 161 43 (ls) (.int (xI y) :: .int (xI x) :: st) h Q ↔ xT d 161 44 (ls) (.int (xI (x * y)) :: st) h Q := xT_imul (by decide +kernel) rfl
theorem r161_44 : xT d 161 44 (ls) (.int (xI y) :: .int (xI x) :: st) h Q ↔ xT d 161 45 (ls) (.int (xI (x + y)) :: st) h Q := xT_iadd (by decide +kernel) rfl
theorem r161_45 : xT d 161 45 (ls) (st) h Q ↔ xT d 161 47 (ls) (.int (xI 6) :: st) h Q := xT_bipush (n := 6) (by decide +kernel) rfl (by decide +kernel)
theorem r161_47 : xT d 161 47 (l0 :: l1 :: l2 :: l3 :: .int v :: ls) (st) h Q ↔ xT d 161 49 (l0 :: l1 :: l2 :: l3 :: .int v :: ls) (.int v :: st) h Q := xT_iload (k := 4) (by decide +kernel) rfl rfl
theorem r161_49 : xT d 161 49 (ls) (.int (xI y) :: .int (xI x) :: st) h Q ↔ xT d 161 50 (ls) (.int (xI (x * y)) :: st) h Q := xT_imul (by decide +kernel) rfl
theorem r161_50 : xT d 161 50 (ls) (.int (xI y) :: .int (xI x) :: st) h Q ↔ xT d 161 51 (ls) (.int (xI (x + y)) :: st) h Q := xT_iadd (by decide +kernel) rfl
theorem r161_51 : xT d 161 51 (l0 :: l1 :: l2 :: .int v :: ls) (st) h Q ↔ xT d 161 52 (l0 :: l1 :: l2 :: .int v :: ls) (.int v :: st) h Q := xT_iload_n (k := 3) (by decide +kernel) rfl rfl
theorem r161_52 : xT d 161 52 (ls) (.int (xI y) :: .int (xI x) :: st) h Q ↔ xT d 161 53 (ls) (.int (xI (x + y)) :: st) h Q := xT_iadd (by decide +kernel) rfl
theorem r161_53 (x0 : 0 ≤ x) (x1 : x < 324) : xT d 161 53 (ls) (.int (xI x) :: .ref 23 :: st) (hh f a g) Q ↔ xT d 161 54 (ls) (.int (xI (a 23 x)) :: st) (hh f a g) Q := xT_iaload (N := 324) (by decide +kernel) rfl rfl (Nat.le_of_ble_eq_true rfl) x0 x1 (Nat.le_of_ble_eq_true rfl)
theorem r161_54 : xT d 161 54 (ls) ([.int (xI x)]) h Q ↔ Q (h, .returned (some (.int (xI x)))) := xT_ireturn (by decide +kernel) rfl
theorem e161 {z0 : Nat} {z1 : Int32} {z2 : Int32} {z3 : Int32} {z4 : Int32} : xTC d 161 [.ref z0, .int z1, .int z2, .int z3, .int z4] h Q ↔ xT d 161 0 [.ref z0, .int z1, .int z2, .int z3, .int z4] [] h Q := Iff.rfl
-- M_time
theorem r162_0 : xT d 162 0 (.ref ov :: ls) (st) h Q ↔ xT d 162 1 (.ref ov :: ls) (.ref ov :: st) h Q := xT_aload_n (k := 0) (by decide +kernel) rfl rfl
theorem r162_1 : xT d 162 1 (l0 :: .int v :: ls) (st) h Q ↔ xT d 162 2 (l0 :: .int v :: ls) (.int v :: st) h Q := xT_iload_n (k := 1) (by decide +kernel) rfl rfl
theorem r162_2 : xT d 162 2 (ls) (st) h Q ↔ xT d 162 3 (ls) (.int (xI 0) :: st) h Q := xT_iconst (n := 0) (by decide +kernel) rfl
theorem r162_3 : xT d 162 3 (.ref ov :: ls) (st) h Q ↔ xT d 162 4 (.ref ov :: ls) (.ref ov :: st) h Q := xT_aload_n (k := 0) (by decide +kernel) rfl rfl
theorem r162_4 : xT d 162 4 (ls) (.ref 21 :: st) (hh f a g) Q ↔ xT d 162 7 (ls) (.int (xI (f 21 4)) :: st) (hh f a g) Q := xT_getf (k := 63) (ci := 8) (fi := 4) (by decide +kernel) rfl rfl ⟨Nat.le_of_ble_eq_true rfl, Nat.le_of_ble_eq_true rfl⟩ (by decide +kernel) rfl
theorem r162_7 : xT d 162 7 (ls) (st) h Q ↔ xT d 162 8 (ls) (.int (xI 1) :: st) h Q := xT_iconst (n := 1) (by decide +kernel) rfl
theorem r162_8 : xT d 162 8 (ls) (.int (xI y) :: .int (xI x) :: st) h Q ↔ xT d 162 9 (ls) (.int (xI (x - y)) :: st) h Q := xT_isub (by decide +kernel) rfl
theorem r162_9 {z0 : Int32} {z1 : Int32} {z2 : Int32} {z3 : Nat} (hd : 1 ≤ d) : xT d 162 9 (ls) ([.int z0, .int z1, .int z2, .ref z3]) h Q ↔ xTC (d - 1) 129 [.int z2, .int z1, .int z0] h (xAf d 162 9 (ls) [.ref z3] Q) := xT_static (k := 59) (na := 3) (by decide +kernel) (by decide +kernel) ⟨Nat.le_of_ble_eq_true rfl, Nat.le_of_ble_eq_true rfl⟩ rfl rfl (Nat.le_of_ble_eq_true rfl) (Nat.le_of_ble_eq_true rfl) hd
theorem r162_12 (x0 : -2147483648 ≤ x) (x1 : x ≤ 2147483647) : xT d 162 12 (ls) (.int (xI x) :: st) h Q ↔ (x = 0 → xT d 162 19 (ls) (st) h Q) ∧ (¬ x = 0 → xT d 162 15 (ls) (st) h Q) := xT_ifeq (off := 7) (by decide +kernel) rfl rfl x0 x1
theorem r162_15 : xT d 162 15 (ls) (st) h Q ↔ xT d 162 16 (ls) (.int (xI 0) :: st) h Q := xT_iconst (n := 0) (by decide +kernel) rfl
theorem r162_16 : xT d 162 16 (ls) (st) h Q ↔ xT d 162 20 (ls) (st) h Q := xT_goto (off := 4) (by decide +kernel) rfl
theorem r162_19 : xT d 162 19 (ls) (st) h Q ↔ xT d 162 20 (ls) (.int (xI 1) :: st) h Q := xT_iconst (n := 1) (by decide +kernel) rfl
theorem r162_20 : xT d 162 20 (ls) (.int (xI x) :: .ref 21 :: st) (hh f a g) Q ↔ xT d 162 23 (ls) (st) (hh (xu f 21 0 x) a g) Q := xT_putf (k := 56) (ci := 8) (fi := 0) (by decide +kernel) rfl rfl ⟨Nat.le_of_ble_eq_true rfl, Nat.le_of_ble_eq_true rfl⟩ (by decide +kernel) (by decide +kernel) (by decide +kernel) rfl
theorem r162_23 : xT d 162 23 (.ref ov :: ls) (st) h Q ↔ xT d 162 24 (.ref ov :: ls) (.ref ov :: st) h Q := xT_aload_n (k := 0) (by decide +kernel) rfl rfl
theorem r162_24 : xT d 162 24 (ls) (.ref 21 :: st) (hh f a g) Q ↔ xT d 162 27 (ls) (.int (xI (f 21 0)) :: st) (hh f a g) Q := xT_getf (k := 56) (ci := 8) (fi := 0) (by decide +kernel) rfl rfl ⟨Nat.le_of_ble_eq_true rfl, Nat.le_of_ble_eq_true rfl⟩ (by decide +kernel) rfl
theorem r162_27 (x0 : -2147483648 ≤ x) (x1 : x ≤ 2147483647) : xT d 162 27 (ls) (.int (xI x) :: st) h Q ↔ (0 < x → xT d 162 30 (ls) (st) h Q) ∧ (¬ 0 < x → xT d 162 34 (ls) (st) h Q) := xT_ifle (off := 7) (by decide +kernel) rfl rfl x0 x1
theorem r162_30 : xT d 162 30 (ls) (st) h Q ↔ xT d 162 31 (ls) (.int (xI 0) :: st) h Q := xT_iconst (n := 0) (by decide +kernel) rfl
theorem r162_31 : xT d 162 31 (ls) (st) h Q ↔ xT d 162 40 (ls) (st) h Q := xT_goto (off := 9) (by decide +kernel) rfl
theorem r162_34 : xT d 162 34 (.ref ov :: ls) (st) h Q ↔ xT d 162 35 (.ref ov :: ls) (.ref ov :: st) h Q := xT_aload_n (k := 0) (by decide +kernel) rfl rfl
theorem r162_35 : xT d 162 35 (ls) (.ref 21 :: st) (hh f a g) Q ↔ xT d 162 38 (ls) (.ref 22 :: st) (hh f a g) Q := xT_getf (k := 19) (ci := 8) (fi := 5) (by decide +kernel) rfl rfl ⟨Nat.le_of_ble_eq_true rfl, Nat.le_of_ble_eq_true rfl⟩ (by decide +kernel) rfl
theorem r162_38 : xT d 162 38 (l0 :: .int v :: ls) (st) h Q ↔ xT d 162 39 (l0 :: .int v :: ls) (.int v :: st) h Q := xT_iload_n (k := 1) (by decide +kernel) rfl rfl
theorem r162_39 (x0 : 0 ≤ x) (x1 : x < 3) : xT d 162 39 (ls) (.int (xI x) :: .ref 22 :: st) (hh f a g) Q ↔ xT d 162 40 (ls) (.int (xI (a 22 x)) :: st) (hh f a g) Q := xT_iaload (N := 3) (by decide +kernel) rfl rfl (Nat.le_of_ble_eq_true rfl) x0 x1 (Nat.le_of_ble_eq_true rfl)
theorem r162_40 : xT d 162 40 (ls) ([.int (xI x)]) h Q ↔ Q (h, .returned (some (.int (xI x)))) := xT_ireturn (by decide +kernel) rfl
theorem e162 {z0 : Nat} {z1 : Int32} : xTC d 162 [.ref z0, .int z1] h Q ↔ xT d 162 0 [.ref z0, .int z1] [] h Q := Iff.rfl
-- Arrays_fill
theorem r163_0 : xT d 163 0 (ls) (st) h Q ↔ xT d 163 1 (ls) (.int (xI 0) :: st) h Q := xT_iconst (n := 0) (by decide +kernel) rfl
theorem r163_1 : xT d 163 1 ([l0, .int w, l2, l3]) (.int v :: st) h Q ↔ xT d 163 2 ([l0, .int w, .int v, l3]) (st) h Q := xT_istore_n (k := 2) (by decide +kernel) rfl (Nat.le_of_ble_eq_true rfl) rfl
theorem r163_2 : xT d 163 2 (.ref ov :: ls) (st) h Q ↔ xT d 163 3 (.ref ov :: ls) (.ref ov :: st) h Q := xT_aload_n (k := 0) (by decide +kernel) rfl rfl
theorem r163_3 : xT d 163 3 (ls) (.ref 15 :: st) (hh f a g) Q ↔ xT d 163 4 (ls) (.int (xI 126) :: st) (hh f a g) Q := xT_arraylength (N := 126) (by decide +kernel) rfl rfl (Nat.le_of_ble_eq_true rfl)
theorem r163_3_1 : xT d 163 3 (ls) (.ref 16 :: st) (hh f a g) Q ↔ xT d 163 4 (ls) (.int (xI 126) :: st) (hh f a g) Q := xT_arraylength (N := 126) (by decide +kernel) rfl rfl (Nat.le_of_ble_eq_true rfl)
theorem r163_3_2 : xT d 163 3 (ls) (.ref 18 :: st) (hh f a g) Q ↔ xT d 163 4 (ls) (.int (xI 2394) :: st) (hh f a g) Q := xT_arraylength (N := 2394) (by decide +kernel) rfl rfl (Nat.le_of_ble_eq_true rfl)
theorem r163_4 : xT d 163 4 ([l0, l1, .int w, l3]) (.int v :: st) h Q ↔ xT d 163 5 ([l0, l1, .int w, .int v]) (st) h Q := xT_istore_n (k := 3) (by decide +kernel) rfl (Nat.le_of_ble_eq_true rfl) rfl
theorem r163_5 : xT d 163 5 (l0 :: l1 :: .int v :: ls) (st) h Q ↔ xT d 163 6 (l0 :: l1 :: .int v :: ls) (.int v :: st) h Q := xT_iload_n (k := 2) (by decide +kernel) rfl rfl
theorem r163_6 : xT d 163 6 (l0 :: l1 :: l2 :: .int v :: ls) (st) h Q ↔ xT d 163 7 (l0 :: l1 :: l2 :: .int v :: ls) (.int v :: st) h Q := xT_iload_n (k := 3) (by decide +kernel) rfl rfl
theorem r163_7 (x0 : -2147483648 ≤ x) (x1 : x ≤ 2147483647) (y0 : -2147483648 ≤ y) (y1 : y ≤ 2147483647) : xT d 163 7 (ls) (.int (xI y) :: .int (xI x) :: st) h Q ↔ (x < y → xT d 163 10 (ls) (st) h Q) ∧ (¬ x < y → xT d 163 20 (ls) (st) h Q) := xT_icge (off := 13) (by decide +kernel) rfl rfl x0 x1 y0 y1
theorem r163_10 : xT d 163 10 (.ref ov :: ls) (st) h Q ↔ xT d 163 11 (.ref ov :: ls) (.ref ov :: st) h Q := xT_aload_n (k := 0) (by decide +kernel) rfl rfl
theorem r163_11 : xT d 163 11 (l0 :: l1 :: .int v :: ls) (st) h Q ↔ xT d 163 12 (l0 :: l1 :: .int v :: ls) (.int v :: st) h Q := xT_iload_n (k := 2) (by decide +kernel) rfl rfl
theorem r163_12 : xT d 163 12 (l0 :: .int v :: ls) (st) h Q ↔ xT d 163 13 (l0 :: .int v :: ls) (.int v :: st) h Q := xT_iload_n (k := 1) (by decide +kernel) rfl rfl
theorem r163_13 (x0 : 0 ≤ x) (x1 : x < 126) : xT d 163 13 (ls) (.int (xI y) :: .int (xI x) :: .ref 15 :: st) (hh f a g) Q ↔ xT d 163 14 (ls) (st) (hh f (xw a 15 x y) g) Q := xT_iastore (N := 126) (by decide +kernel) rfl rfl ⟨Nat.le_of_ble_eq_true rfl, Nat.le_of_ble_eq_true rfl⟩ x0 x1 (Nat.le_of_ble_eq_true rfl)
theorem r163_13_1 (x0 : 0 ≤ x) (x1 : x < 126) : xT d 163 13 (ls) (.int (xI y) :: .int (xI x) :: .ref 16 :: st) (hh f a g) Q ↔ xT d 163 14 (ls) (st) (hh f (xw a 16 x y) g) Q := xT_iastore (N := 126) (by decide +kernel) rfl rfl ⟨Nat.le_of_ble_eq_true rfl, Nat.le_of_ble_eq_true rfl⟩ x0 x1 (Nat.le_of_ble_eq_true rfl)
theorem r163_13_2 (x0 : 0 ≤ x) (x1 : x < 2394) : xT d 163 13 (ls) (.int (xI y) :: .int (xI x) :: .ref 18 :: st) (hh f a g) Q ↔ xT d 163 14 (ls) (st) (hh f (xw a 18 x y) g) Q := xT_iastore (N := 2394) (by decide +kernel) rfl rfl ⟨Nat.le_of_ble_eq_true rfl, Nat.le_of_ble_eq_true rfl⟩ x0 x1 (Nat.le_of_ble_eq_true rfl)
theorem r163_14 : xT d 163 14 ([l0, .int w, .int (xI x), l3]) (st) h Q ↔ xT d 163 17 ([l0, .int w, .int (xI (x + 1)), l3]) (st) h Q := xT_iinc (k := 2) (by decide +kernel) rfl rfl rfl
theorem r163_17 : xT d 163 17 (ls) (st) h Q ↔ xT d 163 5 (ls) (st) h Q := xT_goto (off := (-12)) (by decide +kernel) rfl
theorem r163_20 : xT d 163 20 (ls) ([]) h Q ↔ Q (h, .returned none) := xT_return (by decide +kernel) rfl
theorem e163 {z0 : Nat} {z1 : Int32} : xTC d 163 [.ref z0, .int z1] h Q ↔ xT d 163 0 [.ref z0, .int z1, .null, .null] [] h Q := Iff.rfl
end XR23
