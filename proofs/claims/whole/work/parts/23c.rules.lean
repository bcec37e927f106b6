/-! the rules, place by place (by program: wip/whole/gen23.py) -/
section XR23
variable {d : Nat} {Q : xm_H × Outcome → Prop} {h : xm_H} {st ls : List Value} {f : Nat → Nat → Int} {a : Nat → Int → Int} {g : xG} {x y z : Int} {v w : Int32} {vl wl : Int64} {ov ow : Nat} {l0 l1 l2 l3 l4 l5 l6 l7 l8 l9 l10 l11 l12 l13 : Value}
-- FilmReader_takeHead
theorem r89_0 : xT d 89 0 (.ref ov :: ls) (st) h Q ↔ xT d 89 1 (.ref ov :: ls) (.ref ov :: st) h Q := xT_aload_n (k := 0) (by decide +kernel) rfl rfl
theorem r89_1 : xT d 89 1 (ls) (st) h Q ↔ xT d 89 2 (ls) (.int (xI 0) :: st) h Q := xT_iconst (n := 0) (by decide +kernel) rfl
theorem r89_2 : xT d 89 2 (ls) (.int (xI x) :: .ref 20 :: st) (hh f a g) Q ↔ xT d 89 5 (ls) (st) (hh (xu f 20 6 x) a g) Q := xT_putf (k := 33) (ci := 7) (fi := 6) (by decide +kernel) rfl rfl ⟨Nat.le_of_ble_eq_true rfl, Nat.le_of_ble_eq_true rfl⟩ (by decide +kernel) (by decide +kernel) (by decide +kernel) rfl
theorem r89_5 : xT d 89 5 (.ref ov :: ls) (st) h Q ↔ xT d 89 6 (.ref ov :: ls) (.ref ov :: st) h Q := xT_aload_n (k := 0) (by decide +kernel) rfl rfl
theorem r89_6 : xT d 89 6 (ls) (st) h Q ↔ xT d 89 7 (ls) (.int (xI (-1)) :: st) h Q := xT_iconst (n := (-1)) (by decide +kernel) rfl
theorem r89_7 : xT d 89 7 (ls) (.int (xI x) :: .ref 20 :: st) (hh f a g) Q ↔ xT d 89 10 (ls) (st) (hh (xu f 20 7 x) a g) Q := xT_putf (k := 37) (ci := 7) (fi := 7) (by decide +kernel) rfl rfl ⟨Nat.le_of_ble_eq_true rfl, Nat.le_of_ble_eq_true rfl⟩ (by decide +kernel) (by decide +kernel) (by decide +kernel) rfl
theorem r89_10 : xT d 89 10 (.ref ov :: ls) (st) h Q ↔ xT d 89 11 (.ref ov :: ls) (.ref ov :: st) h Q := xT_aload_n (k := 0) (by decide +kernel) rfl rfl
theorem r89_11 : xT d 89 11 (ls) (st) h Q ↔ xT d 89 13 (ls) (.int (xI 26) :: st) h Q := xT_bipush (n := 26) (by decide +kernel) rfl (by decide +kernel)
theorem r89_13 : xT d 89 13 (.ref ov :: ls) (st) h Q ↔ xT d 89 14 (.ref ov :: ls) (.ref ov :: st) h Q := xT_aload_n (k := 0) (by decide +kernel) rfl rfl
theorem r89_14 : xT d 89 14 (ls) (.ref 20 :: st) (hh f a g) Q ↔ xT d 89 17 (ls) (.ref 8 :: st) (hh f a g) Q := xT_getf (k := 9) (ci := 7) (fi := 0) (by decide +kernel) rfl rfl ⟨Nat.le_of_ble_eq_true rfl, Nat.le_of_ble_eq_true rfl⟩ (by decide +kernel) rfl
theorem r89_17 : xT d 89 17 (ls) (.ref 8 :: st) (hh f a g) Q ↔ xT d 89 20 (ls) (.int (xI (f 8 0)) :: st) (hh f a g) Q := xT_getf (k := 40) (ci := 2) (fi := 0) (by decide +kernel) rfl rfl ⟨Nat.le_of_ble_eq_true rfl, Nat.le_of_ble_eq_true rfl⟩ (by decide +kernel) rfl
theorem r89_20 {z0 : Int32} {z1 : Int32} (hd : 1 ≤ d) : xT d 89 20 (ls) ([.int z0, .int z1, .ref 20]) (hh f a g) Q ↔ xTC (d - 1) 96 [.ref 20, .int z1, .int z0] (hh f a g) (xAf d 89 20 (ls) [] Q) := xT_virtual (k := 45) (na := 2) (ci := 7) (by decide +kernel) (by decide +kernel) (by decide +kernel) ⟨Nat.le_of_ble_eq_true rfl, Nat.le_of_ble_eq_true rfl⟩ rfl rfl (Nat.le_of_ble_eq_true rfl) rfl rfl ⟨Nat.le_of_ble_eq_true rfl, Nat.le_of_ble_eq_true rfl⟩ (Nat.le_of_ble_eq_true rfl) hd
theorem r89_23 : xT d 89 23 ([.ref ow, l1]) (.int v :: st) h Q ↔ xT d 89 24 ([.ref ow, .int v]) (st) h Q := xT_istore_n (k := 1) (by decide +kernel) rfl (Nat.le_of_ble_eq_true rfl) rfl
theorem r89_24 : xT d 89 24 (.ref ov :: ls) (st) h Q ↔ xT d 89 25 (.ref ov :: ls) (.ref ov :: st) h Q := xT_aload_n (k := 0) (by decide +kernel) rfl rfl
theorem r89_25 : xT d 89 25 (ls) (st) h Q ↔ xT d 89 27 (ls) (.int (xI 66) :: st) h Q := xT_bipush (n := 66) (by decide +kernel) rfl (by decide +kernel)
theorem r89_27 : xT d 89 27 (ls) (st) h Q ↔ xT d 89 28 (ls) (.int (xI 1) :: st) h Q := xT_iconst (n := 1) (by decide +kernel) rfl
theorem r89_28 : xT d 89 28 (ls) (st) h Q ↔ xT d 89 29 (ls) (.int (xI 1) :: st) h Q := xT_iconst (n := 1) (by decide +kernel) rfl
theorem r89_29 : xT d 89 29 (ls) (st) h Q ↔ xT d 89 30 (ls) (.int (xI 1) :: st) h Q := xT_iconst (n := 1) (by decide +kernel) rfl
theorem r89_30 : xT d 89 30 (l0 :: .int v :: ls) (st) h Q ↔ xT d 89 31 (l0 :: .int v :: ls) (.int v :: st) h Q := xT_iload_n (k := 1) (by decide +kernel) rfl rfl
theorem r89_31 {z0 : Int32} {z1 : Int32} {z2 : Int32} {z3 : Int32} {z4 : Int32} (hd : 1 ≤ d) : xT d 89 31 (ls) ([.int z0, .int z1, .int z2, .int z3, .int z4, .ref 20]) (hh f a g) Q ↔ xTC (d - 1) 85 [.ref 20, .int z4, .int z3, .int z2, .int z1, .int z0] (hh f a g) (xAf d 89 31 (ls) [] Q) := xT_virtual (k := 49) (na := 5) (ci := 7) (by decide +kernel) (by decide +kernel) (by decide +kernel) ⟨Nat.le_of_ble_eq_true rfl, Nat.le_of_ble_eq_true rfl⟩ rfl rfl (Nat.le_of_ble_eq_true rfl) rfl rfl ⟨Nat.le_of_ble_eq_true rfl, Nat.le_of_ble_eq_true rfl⟩ (Nat.le_of_ble_eq_true rfl) hd
theorem r89_34 : xT d 89 34 (ls) (.int w :: st) h Q ↔ xT d 89 35 (ls) (st) h Q := xT_pop (by decide +kernel) rfl rfl
theorem r89_35 : xT d 89 35 (.ref ov :: ls) (st) h Q ↔ xT d 89 36 (.ref ov :: ls) (.ref ov :: st) h Q := xT_aload_n (k := 0) (by decide +kernel) rfl rfl
theorem r89_36 : xT d 89 36 (l0 :: .int v :: ls) (st) h Q ↔ xT d 89 37 (l0 :: .int v :: ls) (.int v :: st) h Q := xT_iload_n (k := 1) (by decide +kernel) rfl rfl
theorem r89_37 {z0 : Int32} (hd : 1 ≤ d) : xT d 89 37 (ls) ([.int z0, .ref 20]) (hh f a g) Q ↔ xTC (d - 1) 83 [.ref 20, .int z0] (hh f a g) (xAf d 89 37 (ls) [] Q) := xT_virtual (k := 53) (na := 1) (ci := 7) (by decide +kernel) (by decide +kernel) (by decide +kernel) ⟨Nat.le_of_ble_eq_true rfl, Nat.le_of_ble_eq_true rfl⟩ rfl rfl (Nat.le_of_ble_eq_true rfl) rfl rfl ⟨Nat.le_of_ble_eq_true rfl, Nat.le_of_ble_eq_true rfl⟩ (Nat.le_of_ble_eq_true rfl) hd
theorem r89_40 : xT d 89 40 (.ref ov :: ls) (st) h Q ↔ xT d 89 41 (.ref ov :: ls) (.ref ov :: st) h Q := xT_aload_n (k := 0) (by decide +kernel) rfl rfl
theorem r89_41 : xT d 89 41 (.ref ov :: ls) (st) h Q ↔ xT d 89 42 (.ref ov :: ls) (.ref ov :: st) h Q := xT_aload_n (k := 0) (by decide +kernel) rfl rfl
theorem r89_42 : xT d 89 42 (ls) (st) h Q ↔ xT d 89 44 (ls) (.int (xI 24) :: st) h Q := xT_bipush (n := 24) (by decide +kernel) rfl (by decide +kernel)
theorem r89_44 : xT d 89 44 (.ref ov :: ls) (st) h Q ↔ xT d 89 45 (.ref ov :: ls) (.ref ov :: st) h Q := xT_aload_n (k := 0) (by decide +kernel) rfl rfl
theorem r89_45 : xT d 89 45 (ls) (.ref 20 :: st) (hh f a g) Q ↔ xT d 89 48 (ls) (.ref 8 :: st) (hh f a g) Q := xT_getf (k := 9) (ci := 7) (fi := 0) (by decide +kernel) rfl rfl ⟨Nat.le_of_ble_eq_true rfl, Nat.le_of_ble_eq_true rfl⟩ (by decide +kernel) rfl
theorem r89_48 : xT d 89 48 (ls) (.ref 8 :: st) (hh f a g) Q ↔ xT d 89 51 (ls) (.int (xI (f 8 0)) :: st) (hh f a g) Q := xT_getf (k := 40) (ci := 2) (fi := 0) (by decide +kernel) rfl rfl ⟨Nat.le_of_ble_eq_true rfl, Nat.le_of_ble_eq_true rfl⟩ (by decide +kernel) rfl
theorem r89_51 {z0 : Int32} {z1 : Int32} {z3 : Nat} (hd : 1 ≤ d) : xT d 89 51 (ls) ([.int z0, .int z1, .ref 20, .ref z3]) (hh f a g) Q ↔ xTC (d - 1) 96 [.ref 20, .int z1, .int z0] (hh f a g) (xAf d 89 51 (ls) [.ref z3] Q) := xT_virtual (k := 45) (na := 2) (ci := 7) (by decide +kernel) (by decide +kernel) (by decide +kernel) ⟨Nat.le_of_ble_eq_true rfl, Nat.le_of_ble_eq_true rfl⟩ rfl rfl (Nat.le_of_ble_eq_true rfl) rfl rfl ⟨Nat.le_of_ble_eq_true rfl, Nat.le_of_ble_eq_true rfl⟩ (Nat.le_of_ble_eq_true rfl) hd
theorem r89_54 : xT d 89 54 (ls) (.int (xI x) :: .ref 20 :: st) (hh f a g) Q ↔ xT d 89 57 (ls) (st) (hh (xu f 20 8 x) a g) Q := xT_putf (k := 57) (ci := 7) (fi := 8) (by decide +kernel) rfl rfl ⟨Nat.le_of_ble_eq_true rfl, Nat.le_of_ble_eq_true rfl⟩ (by decide +kernel) (by decide +kernel) (by decide +kernel) rfl
theorem r89_57 : xT d 89 57 (ls) ([]) h Q ↔ Q (h, .returned none) := xT_return (by decide +kernel) rfl
theorem e89 {z0 : Nat} : xTC d 89 [.ref z0] h Q ↔ xT d 89 0 [.ref z0, .null] [] h Q := Iff.rfl
-- FilmReader_takeTrack
theorem r90_0 : xT d 90 0 (.ref ov :: ls) (st) h Q ↔ xT d 90 1 (.ref ov :: ls) (.ref ov :: st) h Q := xT_aload_n (k := 0) (by decide +kernel) rfl rfl
theorem r90_1 : xT d 90 1 (ls) (st) h Q ↔ xT d 90 4 (ls) (.int (xI 174) :: st) h Q := xT_sipush (n := 174) (by decide +kernel) rfl (by decide +kernel)
theorem r90_4 : xT d 90 4 (.ref ov :: ls) (st) h Q ↔ xT d 90 5 (.ref ov :: ls) (.ref ov :: st) h Q := xT_aload_n (k := 0) (by decide +kernel) rfl rfl
theorem r90_5 : xT d 90 5 (ls) (.ref 20 :: st) (hh f a g) Q ↔ xT d 90 8 (ls) (.int (xI (f 20 8)) :: st) (hh f a g) Q := xT_getf (k := 57) (ci := 7) (fi := 8) (by decide +kernel) rfl rfl ⟨Nat.le_of_ble_eq_true rfl, Nat.le_of_ble_eq_true rfl⟩ (by decide +kernel) rfl
theorem r90_8 {z0 : Int32} {z1 : Int32} (hd : 1 ≤ d) : xT d 90 8 (ls) ([.int z0, .int z1, .ref 20]) (hh f a g) Q ↔ xTC (d - 1) 96 [.ref 20, .int z1, .int z0] (hh f a g) (xAf d 90 8 (ls) [] Q) := xT_virtual (k := 45) (na := 2) (ci := 7) (by decide +kernel) (by decide +kernel) (by decide +kernel) ⟨Nat.le_of_ble_eq_true rfl, Nat.le_of_ble_eq_true rfl⟩ rfl rfl (Nat.le_of_ble_eq_true rfl) rfl rfl ⟨Nat.le_of_ble_eq_true rfl, Nat.le_of_ble_eq_true rfl⟩ (Nat.le_of_ble_eq_true rfl) hd
theorem r90_11 : xT d 90 11 ([.ref ow, l1, l2, l3, l4, l5]) (.int v :: st) h Q ↔ xT d 90 12 ([.ref ow, .int v, l2, l3, l4, l5]) (st) h Q := xT_istore_n (k := 1) (by decide +kernel) rfl (Nat.le_of_ble_eq_true rfl) rfl
theorem r90_12 : xT d 90 12 (.ref ov :: ls) (st) h Q ↔ xT d 90 13 (.ref ov :: ls) (.ref ov :: st) h Q := xT_aload_n (k := 0) (by decide +kernel) rfl rfl
theorem r90_13 : xT d 90 13 (ls) (st) h Q ↔ xT d 90 16 (ls) (.int (xI 176) :: st) h Q := xT_sipush (n := 176) (by decide +kernel) rfl (by decide +kernel)
theorem r90_16 : xT d 90 16 (ls) (st) h Q ↔ xT d 90 17 (ls) (.int (xI 1) :: st) h Q := xT_iconst (n := 1) (by decide +kernel) rfl
theorem r90_17 : xT d 90 17 (ls) (st) h Q ↔ xT d 90 18 (ls) (.int (xI 1) :: st) h Q := xT_iconst (n := 1) (by decide +kernel) rfl
theorem r90_18 : xT d 90 18 (ls) (st) h Q ↔ xT d 90 20 (ls) (.int (xI 6) :: st) h Q := xT_bipush (n := 6) (by decide +kernel) rfl (by decide +kernel)
theorem r90_20 : xT d 90 20 (l0 :: .int v :: ls) (st) h Q ↔ xT d 90 21 (l0 :: .int v :: ls) (.int v :: st) h Q := xT_iload_n (k := 1) (by decide +kernel) rfl rfl
theorem r90_21 {z0 : Int32} {z1 : Int32} {z2 : Int32} {z3 : Int32} {z4 : Int32} (hd : 1 ≤ d) : xT d 90 21 (ls) ([.int z0, .int z1, .int z2, .int z3, .int z4, .ref 20]) (hh f a g) Q ↔ xTC (d - 1) 85 [.ref 20, .int z4, .int z3, .int z2, .int z1, .int z0] (hh f a g) (xAf d 90 21 (ls) [] Q) := xT_virtual (k := 49) (na := 5) (ci := 7) (by decide +kernel) (by decide +kernel) (by decide +kernel) ⟨Nat.le_of_ble_eq_true rfl, Nat.le_of_ble_eq_true rfl⟩ rfl rfl (Nat.le_of_ble_eq_true rfl) rfl rfl ⟨Nat.le_of_ble_eq_true rfl, Nat.le_of_ble_eq_true rfl⟩ (Nat.le_of_ble_eq_true rfl) hd
theorem r90_24 : xT d 90 24 ([l0, .int w, l2, l3, l4, l5]) (.int v :: st) h Q ↔ xT d 90 25 ([l0, .int w, .int v, l3, l4, l5]) (st) h Q := xT_istore_n (k := 2) (by decide +kernel) rfl (Nat.le_of_ble_eq_true rfl) rfl
theorem r90_25 : xT d 90 25 (.ref ov :: ls) (st) h Q ↔ xT d 90 26 (.ref ov :: ls) (.ref ov :: st) h Q := xT_aload_n (k := 0) (by decide +kernel) rfl rfl
theorem r90_26 : xT d 90 26 (ls) (st) h Q ↔ xT d 90 29 (ls) (.int (xI 186) :: st) h Q := xT_sipush (n := 186) (by decide +kernel) rfl (by decide +kernel)
theorem r90_29 : xT d 90 29 (ls) (st) h Q ↔ xT d 90 30 (ls) (.int (xI 1) :: st) h Q := xT_iconst (n := 1) (by decide +kernel) rfl
theorem r90_30 : xT d 90 30 (ls) (st) h Q ↔ xT d 90 31 (ls) (.int (xI 1) :: st) h Q := xT_iconst (n := 1) (by decide +kernel) rfl
theorem r90_31 : xT d 90 31 (ls) (st) h Q ↔ xT d 90 33 (ls) (.int (xI 6) :: st) h Q := xT_bipush (n := 6) (by decide +kernel) rfl (by decide +kernel)
theorem r90_33 : xT d 90 33 (l0 :: .int v :: ls) (st) h Q ↔ xT d 90 34 (l0 :: .int v :: ls) (.int v :: st) h Q := xT_iload_n (k := 1) (by decide +kernel) rfl rfl
theorem r90_34 {z0 : Int32} {z1 : Int32} {z2 : Int32} {z3 : Int32} {z4 : Int32} (hd : 1 ≤ d) : xT d 90 34 (ls) ([.int z0, .int z1, .int z2, .int z3, .int z4, .ref 20]) (hh f a g) Q ↔ xTC (d - 1) 85 [.ref 20, .int z4, .int z3, .int z2, .int z1, .int z0] (hh f a g) (xAf d 90 34 (ls) [] Q) := xT_virtual (k := 49) (na := 5) (ci := 7) (by decide +kernel) (by decide +kernel) (by decide +kernel) ⟨Nat.le_of_ble_eq_true rfl, Nat.le_of_ble_eq_true rfl⟩ rfl rfl (Nat.le_of_ble_eq_true rfl) rfl rfl ⟨Nat.le_of_ble_eq_true rfl, Nat.le_of_ble_eq_true rfl⟩ (Nat.le_of_ble_eq_true rfl) hd
theorem r90_37 : xT d 90 37 ([l0, l1, .int w, l3, l4, l5]) (.int v :: st) h Q ↔ xT d 90 38 ([l0, l1, .int w, .int v, l4, l5]) (st) h Q := xT_istore_n (k := 3) (by decide +kernel) rfl (Nat.le_of_ble_eq_true rfl) rfl
theorem r90_38 : xT d 90 38 (.ref ov :: ls) (st) h Q ↔ xT d 90 39 (.ref ov :: ls) (.ref ov :: st) h Q := xT_aload_n (k := 0) (by decide +kernel) rfl rfl
theorem r90_39 : xT d 90 39 (ls) (st) h Q ↔ xT d 90 41 (ls) (.int (xI 83) :: st) h Q := xT_bipush (n := 83) (by decide +kernel) rfl (by decide +kernel)
theorem r90_41 : xT d 90 41 (ls) (st) h Q ↔ xT d 90 42 (ls) (.int (xI 1) :: st) h Q := xT_iconst (n := 1) (by decide +kernel) rfl
theorem r90_42 : xT d 90 42 (ls) (st) h Q ↔ xT d 90 43 (ls) (.int (xI 1) :: st) h Q := xT_iconst (n := 1) (by decide +kernel) rfl
theorem r90_43 : xT d 90 43 (ls) (st) h Q ↔ xT d 90 44 (ls) (.int (xI 3) :: st) h Q := xT_iconst (n := 3) (by decide +kernel) rfl
theorem r90_44 : xT d 90 44 (l0 :: .int v :: ls) (st) h Q ↔ xT d 90 45 (l0 :: .int v :: ls) (.int v :: st) h Q := xT_iload_n (k := 1) (by decide +kernel) rfl rfl
theorem r90_45 {z0 : Int32} {z1 : Int32} {z2 : Int32} {z3 : Int32} {z4 : Int32} (hd : 1 ≤ d) : xT d 90 45 (ls) ([.int z0, .int z1, .int z2, .int z3, .int z4, .ref 20]) (hh f a g) Q ↔ xTC (d - 1) 85 [.ref 20, .int z4, .int z3, .int z2, .int z1, .int z0] (hh f a g) (xAf d 90 45 (ls) [] Q) := xT_virtual (k := 49) (na := 5) (ci := 7) (by decide +kernel) (by decide +kernel) (by decide +kernel) ⟨Nat.le_of_ble_eq_true rfl, Nat.le_of_ble_eq_true rfl⟩ rfl rfl (Nat.le_of_ble_eq_true rfl) rfl rfl ⟨Nat.le_of_ble_eq_true rfl, Nat.le_of_ble_eq_true rfl⟩ (Nat.le_of_ble_eq_true rfl) hd
theorem r90_48 : xT d 90 48 ([l0, l1, l2, .int w, l4, l5]) (.int v :: st) h Q ↔ xT d 90 50 ([l0, l1, l2, .int w, .int v, l5]) (st) h Q := xT_istore (k := 4) (by decide +kernel) rfl (Nat.le_of_ble_eq_true rfl) rfl
theorem r90_50 : xT d 90 50 (l0 :: l1 :: l2 :: l3 :: .int v :: ls) (st) h Q ↔ xT d 90 52 (l0 :: l1 :: l2 :: l3 :: .int v :: ls) (.int v :: st) h Q := xT_iload (k := 4) (by decide +kernel) rfl rfl
theorem r90_52 {z0 : Int32} (hd : 1 ≤ d) : xT d 90 52 (ls) ([.int z0]) h Q ↔ xTC (d - 1) 20 [.int z0] h (xAf d 90 52 (ls) [] Q) := xT_static (k := 60) (na := 1) (by decide +kernel) (by decide +kernel) ⟨Nat.le_of_ble_eq_true rfl, Nat.le_of_ble_eq_true rfl⟩ rfl rfl (Nat.le_of_ble_eq_true rfl) (Nat.le_of_ble_eq_true rfl) hd
theorem r90_55 (x0 : -2147483648 ≤ x) (x1 : x ≤ 2147483647) : xT d 90 55 (ls) (.int (xI x) :: st) h Q ↔ (x = 0 → xT d 90 58 (ls) (st) h Q) ∧ (¬ x = 0 → xT d 90 68 (ls) (st) h Q) := xT_ifne (off := 13) (by decide +kernel) rfl rfl x0 x1
theorem r90_58 : xT d 90 58 (.ref ov :: ls) (st) h Q ↔ xT d 90 59 (.ref ov :: ls) (.ref ov :: st) h Q := xT_aload_n (k := 0) (by decide +kernel) rfl rfl
theorem r90_59 : xT d 90 59 (.ref ov :: ls) (st) h Q ↔ xT d 90 60 (.ref ov :: ls) (.ref ov :: st) h Q := xT_aload_n (k := 0) (by decide +kernel) rfl rfl
theorem r90_60 : xT d 90 60 (ls) (.ref 20 :: st) (hh f a g) Q ↔ xT d 90 63 (ls) (.int (xI (f 20 6)) :: st) (hh f a g) Q := xT_getf (k := 33) (ci := 7) (fi := 6) (by decide +kernel) rfl rfl ⟨Nat.le_of_ble_eq_true rfl, Nat.le_of_ble_eq_true rfl⟩ (by decide +kernel) rfl
theorem r90_63 : xT d 90 63 (ls) (st) h Q ↔ xT d 90 64 (ls) (.int (xI 1) :: st) h Q := xT_iconst (n := 1) (by decide +kernel) rfl
theorem r90_64 : xT d 90 64 (ls) (.int (xI y) :: .int (xI x) :: st) h Q ↔ xT d 90 65 (ls) (.int (xI (x - y)) :: st) h Q := xT_isub (by decide +kernel) rfl
theorem r90_65 {z0 : Int32} (hd : 1 ≤ d) : xT d 90 65 (ls) ([.int z0, .ref 20]) (hh f a g) Q ↔ xTC (d - 1) 94 [.ref 20, .int z0] (hh f a g) (xAf d 90 65 (ls) [] Q) := xT_virtual (k := 64) (na := 1) (ci := 7) (by decide +kernel) (by decide +kernel) (by decide +kernel) ⟨Nat.le_of_ble_eq_true rfl, Nat.le_of_ble_eq_true rfl⟩ rfl rfl (Nat.le_of_ble_eq_true rfl) rfl rfl ⟨Nat.le_of_ble_eq_true rfl, Nat.le_of_ble_eq_true rfl⟩ (Nat.le_of_ble_eq_true rfl) hd
theorem r90_68 : xT d 90 68 (.ref ov :: ls) (st) h Q ↔ xT d 90 69 (.ref ov :: ls) (.ref ov :: st) h Q := xT_aload_n (k := 0) (by decide +kernel) rfl rfl
theorem r90_69 : xT d 90 69 (ls) (st) h Q ↔ xT d 90 71 (ls) (.int (xI 84) :: st) h Q := xT_bipush (n := 84) (by decide +kernel) rfl (by decide +kernel)
theorem r90_71 : xT d 90 71 (ls) (st) h Q ↔ xT d 90 72 (ls) (.int (xI 1) :: st) h Q := xT_iconst (n := 1) (by decide +kernel) rfl
theorem r90_72 : xT d 90 72 (ls) (st) h Q ↔ xT d 90 73 (ls) (.int (xI 0) :: st) h Q := xT_iconst (n := 0) (by decide +kernel) rfl
theorem r90_73 : xT d 90 73 (ls) (st) h Q ↔ xT d 90 76 (ls) (.int (xI 255) :: st) h Q := xT_sipush (n := 255) (by decide +kernel) rfl (by decide +kernel)
theorem r90_76 : xT d 90 76 (l0 :: .int v :: ls) (st) h Q ↔ xT d 90 77 (l0 :: .int v :: ls) (.int v :: st) h Q := xT_iload_n (k := 1) (by decide +kernel) rfl rfl
theorem r90_77 {z0 : Int32} {z1 : Int32} {z2 : Int32} {z3 : Int32} {z4 : Int32} (hd : 1 ≤ d) : xT d 90 77 (ls) ([.int z0, .int z1, .int z2, .int z3, .int z4, .ref 20]) (hh f a g) Q ↔ xTC (d - 1) 85 [.ref 20, .int z4, .int z3, .int z2, .int z1, .int z0] (hh f a g) (xAf d 90 77 (ls) [] Q) := xT_virtual (k := 49) (na := 5) (ci := 7) (by decide +kernel) (by decide +kernel) (by decide +kernel) ⟨Nat.le_of_ble_eq_true rfl, Nat.le_of_ble_eq_true rfl⟩ rfl rfl (Nat.le_of_ble_eq_true rfl) rfl rfl ⟨Nat.le_of_ble_eq_true rfl, Nat.le_of_ble_eq_true rfl⟩ (Nat.le_of_ble_eq_true rfl) hd
theorem r90_80 : xT d 90 80 ([l0, l1, l2, l3, .int w, l5]) (.int v :: st) h Q ↔ xT d 90 82 ([l0, l1, l2, l3, .int w, .int v]) (st) h Q := xT_istore (k := 5) (by decide +kernel) rfl (Nat.le_of_ble_eq_true rfl) rfl
theorem r90_82 : xT d 90 82 (.ref ov :: ls) (st) h Q ↔ xT d 90 83 (.ref ov :: ls) (.ref ov :: st) h Q := xT_aload_n (k := 0) (by decide +kernel) rfl rfl
theorem r90_83 : xT d 90 83 (l0 :: l1 :: l2 :: l3 :: l4 :: .int v :: ls) (st) h Q ↔ xT d 90 85 (l0 :: l1 :: l2 :: l3 :: l4 :: .int v :: ls) (.int v :: st) h Q := xT_iload (k := 5) (by decide +kernel) rfl rfl
theorem r90_85 : xT d 90 85 (ls) (st) h Q ↔ xT d 90 87 (ls) (.int (xI 16) :: st) h Q := xT_bipush (n := 16) (by decide +kernel) rfl (by decide +kernel)
theorem r90_87 (x0 : 0 ≤ x) (x1 : x ≤ 2147483647) (y0 : 0 < y) (y1 : y ≤ 2147483647) : xT d 90 87 (ls) (.int (xI y) :: .int (xI x) :: st) h Q ↔ xT d 90 88 (ls) (.int (xI (x / y)) :: st) h Q := xT_idiv (by decide +kernel) rfl x0 x1 y0 y1
theorem r90_87_t (x0 : -2147483648 < x) (x1 : x ≤ 2147483647) (y0 : 0 < y) (y1 : y ≤ 2147483647) : xT d 90 87 (ls) (.int (xI y) :: .int (xI x) :: st) h Q ↔ xT d 90 88 (ls) (.int (xI (x.tdiv y)) :: st) h Q := xT_tdiv (by decide +kernel) rfl x0 x1 y0 y1
theorem r90_88 : xT d 90 88 (ls) (.int (xI x) :: .ref 20 :: st) (hh f a g) Q ↔ xT d 90 91 (ls) (st) (hh (xu f 20 10 x) a g) Q := xT_putf (k := 67) (ci := 7) (fi := 10) (by decide +kernel) rfl rfl ⟨Nat.le_of_ble_eq_true rfl, Nat.le_of_ble_eq_true rfl⟩ (by decide +kernel) (by decide +kernel) (by decide +kernel) rfl
theorem r90_91 : xT d 90 91 (.ref ov :: ls) (st) h Q ↔ xT d 90 92 (.ref ov :: ls) (.ref ov :: st) h Q := xT_aload_n (k := 0) (by decide +kernel) rfl rfl
theorem r90_92 : xT d 90 92 (l0 :: l1 :: l2 :: l3 :: l4 :: .int v :: ls) (st) h Q ↔ xT d 90 94 (l0 :: l1 :: l2 :: l3 :: l4 :: .int v :: ls) (.int v :: st) h Q := xT_iload (k := 5) (by decide +kernel) rfl rfl
theorem r90_94 : xT d 90 94 (ls) (st) h Q ↔ xT d 90 96 (ls) (.int (xI 16) :: st) h Q := xT_bipush (n := 16) (by decide +kernel) rfl (by decide +kernel)
theorem r90_96 (x0 : 0 ≤ x) (x1 : x ≤ 2147483647) (y0 : 0 < y) (y1 : y ≤ 2147483647) : xT d 90 96 (ls) (.int (xI y) :: .int (xI x) :: st) h Q ↔ xT d 90 97 (ls) (.int (xI (x % y)) :: st) h Q := xT_irem (by decide +kernel) rfl x0 x1 y0 y1
theorem r90_96_t (x0 : -2147483648 < x) (x1 : x ≤ 2147483647) (y0 : 0 < y) (y1 : y ≤ 2147483647) : xT d 90 96 (ls) (.int (xI y) :: .int (xI x) :: st) h Q ↔ xT d 90 97 (ls) (.int (xI (x.tmod y)) :: st) h Q := xT_tmod (by decide +kernel) rfl x0 x1 y0 y1
theorem r90_97 : xT d 90 97 (ls) (.int (xI x) :: .ref 20 :: st) (hh f a g) Q ↔ xT d 90 100 (ls) (st) (hh (xu f 20 11 x) a g) Q := xT_putf (k := 70) (ci := 7) (fi := 11) (by decide +kernel) rfl rfl ⟨Nat.le_of_ble_eq_true rfl, Nat.le_of_ble_eq_true rfl⟩ (by decide +kernel) (by decide +kernel) (by decide +kernel) rfl
theorem r90_100 : xT d 90 100 (.ref ov :: ls) (st) h Q ↔ xT d 90 101 (.ref ov :: ls) (.ref ov :: st) h Q := xT_aload_n (k := 0) (by decide +kernel) rfl rfl
theorem r90_101 : xT d 90 101 (ls) (.ref 20 :: st) (hh f a g) Q ↔ xT d 90 104 (ls) (.int (xI (f 20 10)) :: st) (hh f a g) Q := xT_getf (k := 67) (ci := 7) (fi := 10) (by decide +kernel) rfl rfl ⟨Nat.le_of_ble_eq_true rfl, Nat.le_of_ble_eq_true rfl⟩ (by decide +kernel) rfl
theorem r90_104 : xT d 90 104 (.ref ov :: ls) (st) h Q ↔ xT d 90 105 (.ref ov :: ls) (.ref ov :: st) h Q := xT_aload_n (k := 0) (by decide +kernel) rfl rfl
theorem r90_105 : xT d 90 105 (ls) (.ref 20 :: st) (hh f a g) Q ↔ xT d 90 108 (ls) (.int (xI (f 20 11)) :: st) (hh f a g) Q := xT_getf (k := 70) (ci := 7) (fi := 11) (by decide +kernel) rfl rfl ⟨Nat.le_of_ble_eq_true rfl, Nat.le_of_ble_eq_true rfl⟩ (by decide +kernel) rfl
theorem r90_108 : xT d 90 108 (l0 :: l1 :: l2 :: .int v :: ls) (st) h Q ↔ xT d 90 109 (l0 :: l1 :: l2 :: .int v :: ls) (.int v :: st) h Q := xT_iload_n (k := 3) (by decide +kernel) rfl rfl
theorem r90_109 {z0 : Int32} {z1 : Int32} {z2 : Int32} (hd : 1 ≤ d) : xT d 90 109 (ls) ([.int z0, .int z1, .int z2]) h Q ↔ xTC (d - 1) 21 [.int z2, .int z1, .int z0] h (xAf d 90 109 (ls) [] Q) := xT_static (k := 73) (na := 3) (by decide +kernel) (by decide +kernel) ⟨Nat.le_of_ble_eq_true rfl, Nat.le_of_ble_eq_true rfl⟩ rfl rfl (Nat.le_of_ble_eq_true rfl) (Nat.le_of_ble_eq_true rfl) hd
theorem r90_112 (x0 : -2147483648 ≤ x) (x1 : x ≤ 2147483647) : xT d 90 112 (ls) (.int (xI x) :: st) h Q ↔ (x = 0 → xT d 90 115 (ls) (st) h Q) ∧ (¬ x = 0 → xT d 90 125 (ls) (st) h Q) := xT_ifne (off := 13) (by decide +kernel) rfl rfl x0 x1
theorem r90_115 : xT d 90 115 (.ref ov :: ls) (st) h Q ↔ xT d 90 116 (.ref ov :: ls) (.ref ov :: st) h Q := xT_aload_n (k := 0) (by decide +kernel) rfl rfl
theorem r90_116 : xT d 90 116 (.ref ov :: ls) (st) h Q ↔ xT d 90 117 (.ref ov :: ls) (.ref ov :: st) h Q := xT_aload_n (k := 0) (by decide +kernel) rfl rfl
theorem r90_117 : xT d 90 117 (ls) (.ref 20 :: st) (hh f a g) Q ↔ xT d 90 120 (ls) (.int (xI (f 20 6)) :: st) (hh f a g) Q := xT_getf (k := 33) (ci := 7) (fi := 6) (by decide +kernel) rfl rfl ⟨Nat.le_of_ble_eq_true rfl, Nat.le_of_ble_eq_true rfl⟩ (by decide +kernel) rfl
theorem r90_120 : xT d 90 120 (ls) (st) h Q ↔ xT d 90 121 (ls) (.int (xI 1) :: st) h Q := xT_iconst (n := 1) (by decide +kernel) rfl
theorem r90_121 : xT d 90 121 (ls) (.int (xI y) :: .int (xI x) :: st) h Q ↔ xT d 90 122 (ls) (.int (xI (x - y)) :: st) h Q := xT_isub (by decide +kernel) rfl
theorem r90_122 {z0 : Int32} (hd : 1 ≤ d) : xT d 90 122 (ls) ([.int z0, .ref 20]) (hh f a g) Q ↔ xTC (d - 1) 94 [.ref 20, .int z0] (hh f a g) (xAf d 90 122 (ls) [] Q) := xT_virtual (k := 64) (na := 1) (ci := 7) (by decide +kernel) (by decide +kernel) (by decide +kernel) ⟨Nat.le_of_ble_eq_true rfl, Nat.le_of_ble_eq_true rfl⟩ rfl rfl (Nat.le_of_ble_eq_true rfl) rfl rfl ⟨Nat.le_of_ble_eq_true rfl, Nat.le_of_ble_eq_true rfl⟩ (Nat.le_of_ble_eq_true rfl) hd
theorem r90_125 : xT d 90 125 (.ref ov :: ls) (st) h Q ↔ xT d 90 126 (.ref ov :: ls) (.ref ov :: st) h Q := xT_aload_n (k := 0) (by decide +kernel) rfl rfl
theorem r90_126 : xT d 90 126 (l0 :: .int v :: ls) (st) h Q ↔ xT d 90 127 (l0 :: .int v :: ls) (.int v :: st) h Q := xT_iload_n (k := 1) (by decide +kernel) rfl rfl
theorem r90_127 {z0 : Int32} (hd : 1 ≤ d) : xT d 90 127 (ls) ([.int z0, .ref 20]) (hh f a g) Q ↔ xTC (d - 1) 83 [.ref 20, .int z0] (hh f a g) (xAf d 90 127 (ls) [] Q) := xT_virtual (k := 53) (na := 1) (ci := 7) (by decide +kernel) (by decide +kernel) (by decide +kernel) ⟨Nat.le_of_ble_eq_true rfl, Nat.le_of_ble_eq_true rfl⟩ rfl rfl (Nat.le_of_ble_eq_true rfl) rfl rfl ⟨Nat.le_of_ble_eq_true rfl, Nat.le_of_ble_eq_true rfl⟩ (Nat.le_of_ble_eq_true rfl) hd
theorem r90_130 : xT d 90 130 (.ref ov :: ls) (st) h Q ↔ xT d 90 131 (.ref ov :: ls) (.ref ov :: st) h Q := xT_aload_n (k := 0) (by decide +kernel) rfl rfl
theorem r90_131 : xT d 90 131 (.ref ov :: ls) (st) h Q ↔ xT d 90 132 (.ref ov :: ls) (.ref ov :: st) h Q := xT_aload_n (k := 0) (by decide +kernel) rfl rfl
theorem r90_132 : xT d 90 132 (ls) (.ref 20 :: st) (hh f a g) Q ↔ xT d 90 135 (ls) (.int (xI (f 20 8)) :: st) (hh f a g) Q := xT_getf (k := 57) (ci := 7) (fi := 8) (by decide +kernel) rfl rfl ⟨Nat.le_of_ble_eq_true rfl, Nat.le_of_ble_eq_true rfl⟩ (by decide +kernel) rfl
theorem r90_135 {z0 : Int32} (hd : 1 ≤ d) : xT d 90 135 (ls) ([.int z0, .ref 20]) (hh f a g) Q ↔ xTC (d - 1) 95 [.ref 20, .int z0] (hh f a g) (xAf d 90 135 (ls) [] Q) := xT_virtual (k := 77) (na := 1) (ci := 7) (by decide +kernel) (by decide +kernel) (by decide +kernel) ⟨Nat.le_of_ble_eq_true rfl, Nat.le_of_ble_eq_true rfl⟩ rfl rfl (Nat.le_of_ble_eq_true rfl) rfl rfl ⟨Nat.le_of_ble_eq_true rfl, Nat.le_of_ble_eq_true rfl⟩ (Nat.le_of_ble_eq_true rfl) hd
theorem r90_138 : xT d 90 138 (.ref ov :: ls) (st) h Q ↔ xT d 90 139 (.ref ov :: ls) (.ref ov :: st) h Q := xT_aload_n (k := 0) (by decide +kernel) rfl rfl
theorem r90_139 : xT d 90 139 (ls) (.ref 20 :: st) (hh f a g) Q ↔ xT d 90 142 (ls) (.int (xI (f 20 7)) :: st) (hh f a g) Q := xT_getf (k := 37) (ci := 7) (fi := 7) (by decide +kernel) rfl rfl ⟨Nat.le_of_ble_eq_true rfl, Nat.le_of_ble_eq_true rfl⟩ (by decide +kernel) rfl
theorem r90_142 : xT d 90 142 (ls) (st) h Q ↔ xT d 90 143 (ls) (.int (xI (-1)) :: st) h Q := xT_iconst (n := (-1)) (by decide +kernel) rfl
theorem r90_143 (x0 : -2147483648 ≤ x) (x1 : x ≤ 2147483647) (y0 : -2147483648 ≤ y) (y1 : y ≤ 2147483647) : xT d 90 143 (ls) (.int (xI y) :: .int (xI x) :: st) h Q ↔ (x = y → xT d 90 146 (ls) (st) h Q) ∧ (¬ x = y → xT d 90 157 (ls) (st) h Q) := xT_icne (off := 14) (by decide +kernel) rfl rfl x0 x1 y0 y1
theorem r90_146 : xT d 90 146 (.ref ov :: ls) (st) h Q ↔ xT d 90 147 (.ref ov :: ls) (.ref ov :: st) h Q := xT_aload_n (k := 0) (by decide +kernel) rfl rfl
theorem r90_147 : xT d 90 147 (ls) (.ref 20 :: st) (hh f a g) Q ↔ xT d 90 150 (ls) (.ref 5 :: st) (hh f a g) Q := xT_getf (k := 18) (ci := 7) (fi := 2) (by decide +kernel) rfl rfl ⟨Nat.le_of_ble_eq_true rfl, Nat.le_of_ble_eq_true rfl⟩ (by decide +kernel) rfl
theorem r90_150 : xT d 90 150 (l0 :: l1 :: .int v :: ls) (st) h Q ↔ xT d 90 151 (l0 :: l1 :: .int v :: ls) (.int v :: st) h Q := xT_iload_n (k := 2) (by decide +kernel) rfl rfl
theorem r90_151 : xT d 90 151 (l0 :: l1 :: l2 :: .int v :: ls) (st) h Q ↔ xT d 90 152 (l0 :: l1 :: l2 :: .int v :: ls) (.int v :: st) h Q := xT_iload_n (k := 3) (by decide +kernel) rfl rfl
theorem r90_152 : xT d 90 152 (l0 :: l1 :: l2 :: l3 :: .int v :: ls) (st) h Q ↔ xT d 90 154 (l0 :: l1 :: l2 :: l3 :: .int v :: ls) (.int v :: st) h Q := xT_iload (k := 4) (by decide +kernel) rfl rfl
theorem r90_154 {z0 : Int32} {z1 : Int32} {z2 : Int32} (hd : 1 ≤ d) : xT d 90 154 (ls) ([.int z0, .int z1, .int z2, .ref 5]) (hh f a g) Q ↔ xTC (d - 1) 34 [.ref 5, .int z2, .int z1, .int z0] (hh f a g) (xAf d 90 154 (ls) [] Q) := xT_virtual (k := 80) (na := 3) (ci := 1) (by decide +kernel) (by decide +kernel) (by decide +kernel) ⟨Nat.le_of_ble_eq_true rfl, Nat.le_of_ble_eq_true rfl⟩ rfl rfl (Nat.le_of_ble_eq_true rfl) rfl rfl ⟨Nat.le_of_ble_eq_true rfl, Nat.le_of_ble_eq_true rfl⟩ (Nat.le_of_ble_eq_true rfl) hd
theorem r90_157 : xT d 90 157 (ls) ([]) h Q ↔ Q (h, .returned none) := xT_return (by decide +kernel) rfl
theorem e90 {z0 : Nat} : xTC d 90 [.ref z0] h Q ↔ xT d 90 0 [.ref z0, .null, .null, .null, .null, .null] [] h Q := Iff.rfl
-- FilmReader_hasMore
theorem r91_0 : xT d 91 0 (.ref ov :: ls) (st) h Q ↔ xT d 91 1 (.ref ov :: ls) (.ref ov :: st) h Q := xT_aload_n (k := 0) (by decide +kernel) rfl rfl
theorem r91_1 : xT d 91 1 (ls) (.ref 20 :: st) (hh f a g) Q ↔ xT d 91 4 (ls) (.int (xI (f 20 7)) :: st) (hh f a g) Q := xT_getf (k := 37) (ci := 7) (fi := 7) (by decide +kernel) rfl rfl ⟨Nat.le_of_ble_eq_true rfl, Nat.le_of_ble_eq_true rfl⟩ (by decide +kernel) rfl
theorem r91_4 : xT d 91 4 (ls) (st) h Q ↔ xT d 91 5 (ls) (.int (xI (-1)) :: st) h Q := xT_iconst (n := (-1)) (by decide +kernel) rfl
theorem r91_5 (x0 : -2147483648 ≤ x) (x1 : x ≤ 2147483647) (y0 : -2147483648 ≤ y) (y1 : y ≤ 2147483647) : xT d 91 5 (ls) (.int (xI y) :: .int (xI x) :: st) h Q ↔ (x = y → xT d 91 8 (ls) (st) h Q) ∧ (¬ x = y → xT d 91 23 (ls) (st) h Q) := xT_icne (off := 18) (by decide +kernel) rfl rfl x0 x1 y0 y1
theorem r91_8 : xT d 91 8 (.ref ov :: ls) (st) h Q ↔ xT d 91 9 (.ref ov :: ls) (.ref ov :: st) h Q := xT_aload_n (k := 0) (by decide +kernel) rfl rfl
theorem r91_9 : xT d 91 9 (ls) (.ref 20 :: st) (hh f a g) Q ↔ xT d 91 12 (ls) (.int (xI (f 20 6)) :: st) (hh f a g) Q := xT_getf (k := 33) (ci := 7) (fi := 6) (by decide +kernel) rfl rfl ⟨Nat.le_of_ble_eq_true rfl, Nat.le_of_ble_eq_true rfl⟩ (by decide +kernel) rfl
theorem r91_12 : xT d 91 12 (.ref ov :: ls) (st) h Q ↔ xT d 91 13 (.ref ov :: ls) (.ref ov :: st) h Q := xT_aload_n (k := 0) (by decide +kernel) rfl rfl
theorem r91_13 : xT d 91 13 (ls) (.ref 20 :: st) (hh f a g) Q ↔ xT d 91 16 (ls) (.int (xI (f 20 8)) :: st) (hh f a g) Q := xT_getf (k := 57) (ci := 7) (fi := 8) (by decide +kernel) rfl rfl ⟨Nat.le_of_ble_eq_true rfl, Nat.le_of_ble_eq_true rfl⟩ (by decide +kernel) rfl
theorem r91_16 (x0 : -2147483648 ≤ x) (x1 : x ≤ 2147483647) (y0 : -2147483648 ≤ y) (y1 : y ≤ 2147483647) : xT d 91 16 (ls) (.int (xI y) :: .int (xI x) :: st) h Q ↔ (x < y → xT d 91 19 (ls) (st) h Q) ∧ (¬ x < y → xT d 91 23 (ls) (st) h Q) := xT_icge (off := 7) (by decide +kernel) rfl rfl x0 x1 y0 y1
theorem r91_19 : xT d 91 19 (ls) (st) h Q ↔ xT d 91 20 (ls) (.int (xI 1) :: st) h Q := xT_iconst (n := 1) (by decide +kernel) rfl
theorem r91_20 : xT d 91 20 (ls) (st) h Q ↔ xT d 91 24 (ls) (st) h Q := xT_goto (off := 4) (by decide +kernel) rfl
theorem r91_23 : xT d 91 23 (ls) (st) h Q ↔ xT d 91 24 (ls) (.int (xI 0) :: st) h Q := xT_iconst (n := 0) (by decide +kernel) rfl
theorem r91_24 (hx : x = 0 ∨ x = 1) : xT d 91 24 (ls) ([.int (xI x)]) h Q ↔ Q (h, .returned (some (.int (xI x)))) := xT_zreturn (by decide +kernel) rfl hx
theorem e91 {z0 : Nat} : xTC d 91 [.ref z0] h Q ↔ xT d 91 0 [.ref z0] [] h Q := Iff.rfl
-- FilmReader_takeFrame
theorem r92_0 : xT d 92 0 (.ref ov :: ls) (st) h Q ↔ xT d 92 1 (.ref ov :: ls) (.ref ov :: st) h Q := xT_aload_n (k := 0) (by decide +kernel) rfl rfl
theorem r92_1 : xT d 92 1 (ls) (st) h Q ↔ xT d 92 3 (ls) (.int (xI 31) :: st) h Q := xT_bipush (n := 31) (by decide +kernel) rfl (by decide +kernel)
theorem r92_3 : xT d 92 3 (.ref ov :: ls) (st) h Q ↔ xT d 92 4 (.ref ov :: ls) (.ref ov :: st) h Q := xT_aload_n (k := 0) (by decide +kernel) rfl rfl
theorem r92_4 : xT d 92 4 (ls) (.ref 20 :: st) (hh f a g) Q ↔ xT d 92 7 (ls) (.int (xI (f 20 8)) :: st) (hh f a g) Q := xT_getf (k := 57) (ci := 7) (fi := 8) (by decide +kernel) rfl rfl ⟨Nat.le_of_ble_eq_true rfl, Nat.le_of_ble_eq_true rfl⟩ (by decide +kernel) rfl
theorem r92_7 {z0 : Int32} {z1 : Int32} (hd : 1 ≤ d) : xT d 92 7 (ls) ([.int z0, .int z1, .ref 20]) (hh f a g) Q ↔ xTC (d - 1) 96 [.ref 20, .int z1, .int z0] (hh f a g) (xAf d 92 7 (ls) [] Q) := xT_virtual (k := 45) (na := 2) (ci := 7) (by decide +kernel) (by decide +kernel) (by decide +kernel) ⟨Nat.le_of_ble_eq_true rfl, Nat.le_of_ble_eq_true rfl⟩ rfl rfl (Nat.le_of_ble_eq_true rfl) rfl rfl ⟨Nat.le_of_ble_eq_true rfl, Nat.le_of_ble_eq_true rfl⟩ (Nat.le_of_ble_eq_true rfl) hd
theorem r92_10 : xT d 92 10 ([l0, .int w, l2, l3, l4]) (.int v :: st) h Q ↔ xT d 92 11 ([l0, .int w, .int v, l3, l4]) (st) h Q := xT_istore_n (k := 2) (by decide +kernel) rfl (Nat.le_of_ble_eq_true rfl) rfl
theorem r92_11 : xT d 92 11 (.ref ov :: ls) (st) h Q ↔ xT d 92 12 (.ref ov :: ls) (.ref ov :: st) h Q := xT_aload_n (k := 0) (by decide +kernel) rfl rfl
theorem r92_12 : xT d 92 12 (ls) (st) h Q ↔ xT d 92 15 (ls) (.int (xI 231) :: st) h Q := xT_sipush (n := 231) (by decide +kernel) rfl (by decide +kernel)
theorem r92_15 : xT d 92 15 (ls) (st) h Q ↔ xT d 92 16 (ls) (.int (xI 2) :: st) h Q := xT_iconst (n := 2) (by decide +kernel) rfl
theorem r92_16 : xT d 92 16 (.ref ov :: ls) (st) h Q ↔ xT d 92 17 (.ref ov :: ls) (.ref ov :: st) h Q := xT_aload_n (k := 0) (by decide +kernel) rfl rfl
theorem r92_17 : xT d 92 17 (ls) (.ref 20 :: st) (hh f a g) Q ↔ xT d 92 20 (ls) (.ref 5 :: st) (hh f a g) Q := xT_getf (k := 18) (ci := 7) (fi := 2) (by decide +kernel) rfl rfl ⟨Nat.le_of_ble_eq_true rfl, Nat.le_of_ble_eq_true rfl⟩ (by decide +kernel) rfl
theorem r92_20 {z1 : Int32} {z2 : Int32} {z3 : Nat} (hd : 1 ≤ d) : xT d 92 20 (ls) ([.ref 5, .int z1, .int z2, .ref z3]) (hh f a g) Q ↔ xTC (d - 1) 35 [.ref 5] (hh f a g) (xAf d 92 20 (ls) [.int z1, .int z2, .ref z3] Q) := xT_virtual (k := 86) (na := 0) (ci := 1) (by decide +kernel) (by decide +kernel) (by decide +kernel) ⟨Nat.le_of_ble_eq_true rfl, Nat.le_of_ble_eq_true rfl⟩ rfl rfl (Nat.le_of_ble_eq_true rfl) rfl rfl ⟨Nat.le_of_ble_eq_true rfl, Nat.le_of_ble_eq_true rfl⟩ (Nat.le_of_ble_eq_true rfl) hd
theorem r92_23 : xT d 92 23 (ls) (st) h Q ↔ xT d 92 24 (ls) (.int (xI 1) :: st) h Q := xT_iconst (n := 1) (by decide +kernel) rfl
theorem r92_24 : xT d 92 24 (ls) (.int (xI y) :: .int (xI x) :: st) h Q ↔ xT d 92 25 (ls) (.int (xI (x + y)) :: st) h Q := xT_iadd (by decide +kernel) rfl
theorem r92_25 : xT d 92 25 (ls) (st) h Q ↔ xT d 92 27 (ls) (.int (xI 65535) :: st) h Q := xT_ldc (k := 90) (n := 65535) (by decide +kernel) rfl (by decide +kernel)
theorem r92_27 : xT d 92 27 (l0 :: l1 :: .int v :: ls) (st) h Q ↔ xT d 92 28 (l0 :: l1 :: .int v :: ls) (.int v :: st) h Q := xT_iload_n (k := 2) (by decide +kernel) rfl rfl
theorem r92_28 {z0 : Int32} {z1 : Int32} {z2 : Int32} {z3 : Int32} {z4 : Int32} (hd : 1 ≤ d) : xT d 92 28 (ls) ([.int z0, .int z1, .int z2, .int z3, .int z4, .ref 20]) (hh f a g) Q ↔ xTC (d - 1) 85 [.ref 20, .int z4, .int z3, .int z2, .int z1, .int z0] (hh f a g) (xAf d 92 28 (ls) [] Q) := xT_virtual (k := 49) (na := 5) (ci := 7) (by decide +kernel) (by decide +kernel) (by decide +kernel) ⟨Nat.le_of_ble_eq_true rfl, Nat.le_of_ble_eq_true rfl⟩ rfl rfl (Nat.le_of_ble_eq_true rfl) rfl rfl ⟨Nat.le_of_ble_eq_true rfl, Nat.le_of_ble_eq_true rfl⟩ (Nat.le_of_ble_eq_true rfl) hd
theorem r92_31 : xT d 92 31 ([l0, l1, .int w, l3, l4]) (.int v :: st) h Q ↔ xT d 92 32 ([l0, l1, .int w, .int v, l4]) (st) h Q := xT_istore_n (k := 3) (by decide +kernel) rfl (Nat.le_of_ble_eq_true rfl) rfl
theorem r92_32 : xT d 92 32 (.ref ov :: ls) (st) h Q ↔ xT d 92 33 (.ref ov :: ls) (.ref ov :: st) h Q := xT_aload_n (k := 0) (by decide +kernel) rfl rfl
theorem r92_33 : xT d 92 33 (ls) (st) h Q ↔ xT d 92 36 (ls) (.int (xI 163) :: st) h Q := xT_sipush (n := 163) (by decide +kernel) rfl (by decide +kernel)
theorem r92_36 : xT d 92 36 (l0 :: l1 :: .int v :: ls) (st) h Q ↔ xT d 92 37 (l0 :: l1 :: .int v :: ls) (.int v :: st) h Q := xT_iload_n (k := 2) (by decide +kernel) rfl rfl
theorem r92_37 {z0 : Int32} {z1 : Int32} (hd : 1 ≤ d) : xT d 92 37 (ls) ([.int z0, .int z1, .ref 20]) (hh f a g) Q ↔ xTC (d - 1) 96 [.ref 20, .int z1, .int z0] (hh f a g) (xAf d 92 37 (ls) [] Q) := xT_virtual (k := 45) (na := 2) (ci := 7) (by decide +kernel) (by decide +kernel) (by decide +kernel) ⟨Nat.le_of_ble_eq_true rfl, Nat.le_of_ble_eq_true rfl⟩ rfl rfl (Nat.le_of_ble_eq_true rfl) rfl rfl ⟨Nat.le_of_ble_eq_true rfl, Nat.le_of_ble_eq_true rfl⟩ (Nat.le_of_ble_eq_true rfl) hd
theorem r92_40 : xT d 92 40 ([l0, l1, l2, .int w, l4]) (.int v :: st) h Q ↔ xT d 92 42 ([l0, l1, l2, .int w, .int v]) (st) h Q := xT_istore (k := 4) (by decide +kernel) rfl (Nat.le_of_ble_eq_true rfl) rfl
theorem r92_42 : xT d 92 42 (.ref ov :: ls) (st) h Q ↔ xT d 92 43 (.ref ov :: ls) (.ref ov :: st) h Q := xT_aload_n (k := 0) (by decide +kernel) rfl rfl
theorem r92_43 : xT d 92 43 (ls) (.ref 20 :: st) (hh f a g) Q ↔ xT d 92 46 (ls) (.int (xI (f 20 7)) :: st) (hh f a g) Q := xT_getf (k := 37) (ci := 7) (fi := 7) (by decide +kernel) rfl rfl ⟨Nat.le_of_ble_eq_true rfl, Nat.le_of_ble_eq_true rfl⟩ (by decide +kernel) rfl
theorem r92_46 : xT d 92 46 (ls) (st) h Q ↔ xT d 92 47 (ls) (.int (xI (-1)) :: st) h Q := xT_iconst (n := (-1)) (by decide +kernel) rfl
theorem r92_47 (x0 : -2147483648 ≤ x) (x1 : x ≤ 2147483647) (y0 : -2147483648 ≤ y) (y1 : y ≤ 2147483647) : xT d 92 47 (ls) (.int (xI y) :: .int (xI x) :: st) h Q ↔ (x = y → xT d 92 50 (ls) (st) h Q) ∧ (¬ x = y → xT d 92 65 (ls) (st) h Q) := xT_icne (off := 18) (by decide +kernel) rfl rfl x0 x1 y0 y1
theorem r92_50 : xT d 92 50 (.ref ov :: ls) (st) h Q ↔ xT d 92 51 (.ref ov :: ls) (.ref ov :: st) h Q := xT_aload_n (k := 0) (by decide +kernel) rfl rfl
theorem r92_51 : xT d 92 51 (ls) (.ref 20 :: st) (hh f a g) Q ↔ xT d 92 54 (ls) (.ref 5 :: st) (hh f a g) Q := xT_getf (k := 18) (ci := 7) (fi := 2) (by decide +kernel) rfl rfl ⟨Nat.le_of_ble_eq_true rfl, Nat.le_of_ble_eq_true rfl⟩ (by decide +kernel) rfl
theorem r92_54 : xT d 92 54 (l0 :: l1 :: l2 :: .int v :: ls) (st) h Q ↔ xT d 92 55 (l0 :: l1 :: l2 :: .int v :: ls) (.int v :: st) h Q := xT_iload_n (k := 3) (by decide +kernel) rfl rfl
theorem r92_55 {z0 : Int32} (hd : 1 ≤ d) : xT d 92 55 (ls) ([.int z0, .ref 5]) (hh f a g) Q ↔ xTC (d - 1) 36 [.ref 5, .int z0] (hh f a g) (xAf d 92 55 (ls) [] Q) := xT_virtual (k := 91) (na := 1) (ci := 1) (by decide +kernel) (by decide +kernel) (by decide +kernel) ⟨Nat.le_of_ble_eq_true rfl, Nat.le_of_ble_eq_true rfl⟩ rfl rfl (Nat.le_of_ble_eq_true rfl) rfl rfl ⟨Nat.le_of_ble_eq_true rfl, Nat.le_of_ble_eq_true rfl⟩ (Nat.le_of_ble_eq_true rfl) hd
theorem r92_58 : xT d 92 58 (.ref ov :: ls) (st) h Q ↔ xT d 92 59 (.ref ov :: ls) (.ref ov :: st) h Q := xT_aload_n (k := 0) (by decide +kernel) rfl rfl
theorem r92_59 : xT d 92 59 (l0 :: .int v :: ls) (st) h Q ↔ xT d 92 60 (l0 :: .int v :: ls) (.int v :: st) h Q := xT_iload_n (k := 1) (by decide +kernel) rfl rfl
theorem r92_60 : xT d 92 60 (l0 :: l1 :: l2 :: l3 :: .int v :: ls) (st) h Q ↔ xT d 92 62 (l0 :: l1 :: l2 :: l3 :: .int v :: ls) (.int v :: st) h Q := xT_iload (k := 4) (by decide +kernel) rfl rfl
theorem r92_62 {z0 : Int32} {z1 : Int32} (hd : 1 ≤ d) : xT d 92 62 (ls) ([.int z0, .int z1, .ref 20]) (hh f a g) Q ↔ xTC (d - 1) 86 [.ref 20, .int z1, .int z0] (hh f a g) (xAf d 92 62 (ls) [] Q) := xT_virtual (k := 94) (na := 2) (ci := 7) (by decide +kernel) (by decide +kernel) (by decide +kernel) ⟨Nat.le_of_ble_eq_true rfl, Nat.le_of_ble_eq_true rfl⟩ rfl rfl (Nat.le_of_ble_eq_true rfl) rfl rfl ⟨Nat.le_of_ble_eq_true rfl, Nat.le_of_ble_eq_true rfl⟩ (Nat.le_of_ble_eq_true rfl) hd
theorem r92_65 : xT d 92 65 (.ref ov :: ls) (st) h Q ↔ xT d 92 66 (.ref ov :: ls) (.ref ov :: st) h Q := xT_aload_n (k := 0) (by decide +kernel) rfl rfl
theorem r92_66 : xT d 92 66 (l0 :: l1 :: .int v :: ls) (st) h Q ↔ xT d 92 67 (l0 :: l1 :: .int v :: ls) (.int v :: st) h Q := xT_iload_n (k := 2) (by decide +kernel) rfl rfl
theorem r92_67 {z0 : Int32} (hd : 1 ≤ d) : xT d 92 67 (ls) ([.int z0, .ref 20]) (hh f a g) Q ↔ xTC (d - 1) 83 [.ref 20, .int z0] (hh f a g) (xAf d 92 67 (ls) [] Q) := xT_virtual (k := 53) (na := 1) (ci := 7) (by decide +kernel) (by decide +kernel) (by decide +kernel) ⟨Nat.le_of_ble_eq_true rfl, Nat.le_of_ble_eq_true rfl⟩ rfl rfl (Nat.le_of_ble_eq_true rfl) rfl rfl ⟨Nat.le_of_ble_eq_true rfl, Nat.le_of_ble_eq_true rfl⟩ (Nat.le_of_ble_eq_true rfl) hd
theorem r92_70 : xT d 92 70 (.ref ov :: ls) (st) h Q ↔ xT d 92 71 (.ref ov :: ls) (.ref ov :: st) h Q := xT_aload_n (k := 0) (by decide +kernel) rfl rfl
theorem r92_71 : xT d 92 71 (.ref ov :: ls) (st) h Q ↔ xT d 92 72 (.ref ov :: ls) (.ref ov :: st) h Q := xT_aload_n (k := 0) (by decide +kernel) rfl rfl
theorem r92_72 : xT d 92 72 (ls) (.ref 20 :: st) (hh f a g) Q ↔ xT d 92 75 (ls) (.int (xI (f 20 8)) :: st) (hh f a g) Q := xT_getf (k := 57) (ci := 7) (fi := 8) (by decide +kernel) rfl rfl ⟨Nat.le_of_ble_eq_true rfl, Nat.le_of_ble_eq_true rfl⟩ (by decide +kernel) rfl
theorem r92_75 {z0 : Int32} (hd : 1 ≤ d) : xT d 92 75 (ls) ([.int z0, .ref 20]) (hh f a g) Q ↔ xTC (d - 1) 95 [.ref 20, .int z0] (hh f a g) (xAf d 92 75 (ls) [] Q) := xT_virtual (k := 77) (na := 1) (ci := 7) (by decide +kernel) (by decide +kernel) (by decide +kernel) ⟨Nat.le_of_ble_eq_true rfl, Nat.le_of_ble_eq_true rfl⟩ rfl rfl (Nat.le_of_ble_eq_true rfl) rfl rfl ⟨Nat.le_of_ble_eq_true rfl, Nat.le_of_ble_eq_true rfl⟩ (Nat.le_of_ble_eq_true rfl) hd
theorem r92_78 : xT d 92 78 (ls) ([]) h Q ↔ Q (h, .returned none) := xT_return (by decide +kernel) rfl
theorem e92 {z0 : Nat} {z1 : Int32} : xTC d 92 [.ref z0, .int z1] h Q ↔ xT d 92 0 [.ref z0, .int z1, .null, .null, .null] [] h Q := Iff.rfl
-- FilmReader_finish
theorem r93_0 : xT d 93 0 (.ref ov :: ls) (st) h Q ↔ xT d 93 1 (.ref ov :: ls) (.ref ov :: st) h Q := xT_aload_n (k := 0) (by decide +kernel) rfl rfl
theorem r93_1 : xT d 93 1 (.ref ov :: ls) (st) h Q ↔ xT d 93 2 (.ref ov :: ls) (.ref ov :: st) h Q := xT_aload_n (k := 0) (by decide +kernel) rfl rfl
theorem r93_2 : xT d 93 2 (ls) (.ref 20 :: st) (hh f a g) Q ↔ xT d 93 5 (ls) (.int (xI (f 20 8)) :: st) (hh f a g) Q := xT_getf (k := 57) (ci := 7) (fi := 8) (by decide +kernel) rfl rfl ⟨Nat.le_of_ble_eq_true rfl, Nat.le_of_ble_eq_true rfl⟩ (by decide +kernel) rfl
theorem r93_5 {z0 : Int32} (hd : 1 ≤ d) : xT d 93 5 (ls) ([.int z0, .ref 20]) (hh f a g) Q ↔ xTC (d - 1) 83 [.ref 20, .int z0] (hh f a g) (xAf d 93 5 (ls) [] Q) := xT_virtual (k := 53) (na := 1) (ci := 7) (by decide +kernel) (by decide +kernel) (by decide +kernel) ⟨Nat.le_of_ble_eq_true rfl, Nat.le_of_ble_eq_true rfl⟩ rfl rfl (Nat.le_of_ble_eq_true rfl) rfl rfl ⟨Nat.le_of_ble_eq_true rfl, Nat.le_of_ble_eq_true rfl⟩ (Nat.le_of_ble_eq_true rfl) hd
theorem r93_8 : xT d 93 8 (.ref ov :: ls) (st) h Q ↔ xT d 93 9 (.ref ov :: ls) (.ref ov :: st) h Q := xT_aload_n (k := 0) (by decide +kernel) rfl rfl
theorem r93_9 : xT d 93 9 (.ref ov :: ls) (st) h Q ↔ xT d 93 10 (.ref ov :: ls) (.ref ov :: st) h Q := xT_aload_n (k := 0) (by decide +kernel) rfl rfl
theorem r93_10 : xT d 93 10 (ls) (.ref 20 :: st) (hh f a g) Q ↔ xT d 93 13 (ls) (.ref 8 :: st) (hh f a g) Q := xT_getf (k := 9) (ci := 7) (fi := 0) (by decide +kernel) rfl rfl ⟨Nat.le_of_ble_eq_true rfl, Nat.le_of_ble_eq_true rfl⟩ (by decide +kernel) rfl
theorem r93_13 : xT d 93 13 (ls) (.ref 8 :: st) (hh f a g) Q ↔ xT d 93 16 (ls) (.int (xI (f 8 0)) :: st) (hh f a g) Q := xT_getf (k := 40) (ci := 2) (fi := 0) (by decide +kernel) rfl rfl ⟨Nat.le_of_ble_eq_true rfl, Nat.le_of_ble_eq_true rfl⟩ (by decide +kernel) rfl
theorem r93_16 {z0 : Int32} (hd : 1 ≤ d) : xT d 93 16 (ls) ([.int z0, .ref 20]) (hh f a g) Q ↔ xTC (d - 1) 83 [.ref 20, .int z0] (hh f a g) (xAf d 93 16 (ls) [] Q) := xT_virtual (k := 53) (na := 1) (ci := 7) (by decide +kernel) (by decide +kernel) (by decide +kernel) ⟨Nat.le_of_ble_eq_true rfl, Nat.le_of_ble_eq_true rfl⟩ rfl rfl (Nat.le_of_ble_eq_true rfl) rfl rfl ⟨Nat.le_of_ble_eq_true rfl, Nat.le_of_ble_eq_true rfl⟩ (Nat.le_of_ble_eq_true rfl) hd
theorem r93_19 : xT d 93 19 (.ref ov :: ls) (st) h Q ↔ xT d 93 20 (.ref ov :: ls) (.ref ov :: st) h Q := xT_aload_n (k := 0) (by decide +kernel) rfl rfl
theorem r93_20 : xT d 93 20 (ls) (.ref 20 :: st) (hh f a g) Q ↔ xT d 93 23 (ls) (.int (xI (f 20 7)) :: st) (hh f a g) Q := xT_getf (k := 37) (ci := 7) (fi := 7) (by decide +kernel) rfl rfl ⟨Nat.le_of_ble_eq_true rfl, Nat.le_of_ble_eq_true rfl⟩ (by decide +kernel) rfl
theorem r93_23 : xT d 93 23 (ls) ([.int (xI x)]) h Q ↔ Q (h, .returned (some (.int (xI x)))) := xT_ireturn (by decide +kernel) rfl
theorem e93 {z0 : Nat} : xTC d 93 [.ref z0] h Q ↔ xT d 93 0 [.ref z0] [] h Q := Iff.rfl
-- FilmReader_fail
theorem r94_0 : xT d 94 0 (.ref ov :: ls) (st) h Q ↔ xT d 94 1 (.ref ov :: ls) (.ref ov :: st) h Q := xT_aload_n (k := 0) (by decide +kernel) rfl rfl
theorem r94_1 : xT d 94 1 (ls) (.ref 20 :: st) (hh f a g) Q ↔ xT d 94 4 (ls) (.int (xI (f 20 7)) :: st) (hh f a g) Q := xT_getf (k := 37) (ci := 7) (fi := 7) (by decide +kernel) rfl rfl ⟨Nat.le_of_ble_eq_true rfl, Nat.le_of_ble_eq_true rfl⟩ (by decide +kernel) rfl
theorem r94_4 : xT d 94 4 (ls) (st) h Q ↔ xT d 94 5 (ls) (.int (xI (-1)) :: st) h Q := xT_iconst (n := (-1)) (by decide +kernel) rfl
theorem r94_5 (x0 : -2147483648 ≤ x) (x1 : x ≤ 2147483647) (y0 : -2147483648 ≤ y) (y1 : y ≤ 2147483647) : xT d 94 5 (ls) (.int (xI y) :: .int (xI x) :: st) h Q ↔ (x = y → xT d 94 8 (ls) (st) h Q) ∧ (¬ x = y → xT d 94 13 (ls) (st) h Q) := xT_icne (off := 8) (by decide +kernel) rfl rfl x0 x1 y0 y1
theorem r94_8 : xT d 94 8 (.ref ov :: ls) (st) h Q ↔ xT d 94 9 (.ref ov :: ls) (.ref ov :: st) h Q := xT_aload_n (k := 0) (by decide +kernel) rfl rfl
theorem r94_9 : xT d 94 9 (l0 :: .int v :: ls) (st) h Q ↔ xT d 94 10 (l0 :: .int v :: ls) (.int v :: st) h Q := xT_iload_n (k := 1) (by decide +kernel) rfl rfl
theorem r94_10 : xT d 94 10 (ls) (.int (xI x) :: .ref 20 :: st) (hh f a g) Q ↔ xT d 94 13 (ls) (st) (hh (xu f 20 7 x) a g) Q := xT_putf (k := 37) (ci := 7) (fi := 7) (by decide +kernel) rfl rfl ⟨Nat.le_of_ble_eq_true rfl, Nat.le_of_ble_eq_true rfl⟩ (by decide +kernel) (by decide +kernel) (by decide +kernel) rfl
theorem r94_13 : xT d 94 13 (ls) ([]) h Q ↔ Q (h, .returned none) := xT_return (by decide +kernel) rfl
theorem e94 {z0 : Nat} {z1 : Int32} : xTC d 94 [.ref z0, .int z1] h Q ↔ xT d 94 0 [.ref z0, .int z1] [] h Q := Iff.rfl
-- FilmReader_passEmpty
theorem r95_0 : xT d 95 0 (ls) (st) h Q ↔ xT d 95 1 (ls) (.int (xI 0) :: st) h Q := xT_iconst (n := 0) (by decide +kernel) rfl
theorem r95_1 : xT d 95 1 ([l0, .int w, l2]) (.int v :: st) h Q ↔ xT d 95 2 ([l0, .int w, .int v]) (st) h Q := xT_istore_n (k := 2) (by decide +kernel) rfl (Nat.le_of_ble_eq_true rfl) rfl
theorem r95_2 : xT d 95 2 (l0 :: l1 :: .int v :: ls) (st) h Q ↔ xT d 95 3 (l0 :: l1 :: .int v :: ls) (.int v :: st) h Q := xT_iload_n (k := 2) (by decide +kernel) rfl rfl
theorem r95_3 : xT d 95 3 (ls) (st) h Q ↔ xT d 95 6 (ls) (.int (xI 1200) :: st) h Q := xT_sipush (n := 1200) (by decide +kernel) rfl (by decide +kernel)
theorem r95_6 (x0 : -2147483648 ≤ x) (x1 : x ≤ 2147483647) (y0 : -2147483648 ≤ y) (y1 : y ≤ 2147483647) : xT d 95 6 (ls) (.int (xI y) :: .int (xI x) :: st) h Q ↔ (x < y → xT d 95 9 (ls) (st) h Q) ∧ (¬ x < y → xT d 95 67 (ls) (st) h Q) := xT_icge (off := 61) (by decide +kernel) rfl rfl x0 x1 y0 y1
theorem r95_9 : xT d 95 9 (.ref ov :: ls) (st) h Q ↔ xT d 95 10 (.ref ov :: ls) (.ref ov :: st) h Q := xT_aload_n (k := 0) (by decide +kernel) rfl rfl
theorem r95_10 : xT d 95 10 (ls) (.ref 20 :: st) (hh f a g) Q ↔ xT d 95 13 (ls) (.int (xI (f 20 7)) :: st) (hh f a g) Q := xT_getf (k := 37) (ci := 7) (fi := 7) (by decide +kernel) rfl rfl ⟨Nat.le_of_ble_eq_true rfl, Nat.le_of_ble_eq_true rfl⟩ (by decide +kernel) rfl
theorem r95_13 : xT d 95 13 (ls) (st) h Q ↔ xT d 95 14 (ls) (.int (xI (-1)) :: st) h Q := xT_iconst (n := (-1)) (by decide +kernel) rfl
theorem r95_14 (x0 : -2147483648 ≤ x) (x1 : x ≤ 2147483647) (y0 : -2147483648 ≤ y) (y1 : y ≤ 2147483647) : xT d 95 14 (ls) (.int (xI y) :: .int (xI x) :: st) h Q ↔ (x = y → xT d 95 17 (ls) (st) h Q) ∧ (¬ x = y → xT d 95 67 (ls) (st) h Q) := xT_icne (off := 53) (by decide +kernel) rfl rfl x0 x1 y0 y1
theorem r95_17 : xT d 95 17 (.ref ov :: ls) (st) h Q ↔ xT d 95 18 (.ref ov :: ls) (.ref ov :: st) h Q := xT_aload_n (k := 0) (by decide +kernel) rfl rfl
theorem r95_18 : xT d 95 18 (ls) (.ref 20 :: st) (hh f a g) Q ↔ xT d 95 21 (ls) (.int (xI (f 20 6)) :: st) (hh f a g) Q := xT_getf (k := 33) (ci := 7) (fi := 6) (by decide +kernel) rfl rfl ⟨Nat.le_of_ble_eq_true rfl, Nat.le_of_ble_eq_true rfl⟩ (by decide +kernel) rfl
theorem r95_21 : xT d 95 21 (l0 :: .int v :: ls) (st) h Q ↔ xT d 95 22 (l0 :: .int v :: ls) (.int v :: st) h Q := xT_iload_n (k := 1) (by decide +kernel) rfl rfl
theorem r95_22 (x0 : -2147483648 ≤ x) (x1 : x ≤ 2147483647) (y0 : -2147483648 ≤ y) (y1 : y ≤ 2147483647) : xT d 95 22 (ls) (.int (xI y) :: .int (xI x) :: st) h Q ↔ (x < y → xT d 95 25 (ls) (st) h Q) ∧ (¬ x < y → xT d 95 67 (ls) (st) h Q) := xT_icge (off := 45) (by decide +kernel) rfl rfl x0 x1 y0 y1
theorem r95_25 : xT d 95 25 (.ref ov :: ls) (st) h Q ↔ xT d 95 26 (.ref ov :: ls) (.ref ov :: st) h Q := xT_aload_n (k := 0) (by decide +kernel) rfl rfl
theorem r95_26 : xT d 95 26 (ls) (.ref 20 :: st) (hh f a g) Q ↔ xT d 95 29 (ls) (.ref 8 :: st) (hh f a g) Q := xT_getf (k := 9) (ci := 7) (fi := 0) (by decide +kernel) rfl rfl ⟨Nat.le_of_ble_eq_true rfl, Nat.le_of_ble_eq_true rfl⟩ (by decide +kernel) rfl
theorem r95_29 : xT d 95 29 (.ref ov :: ls) (st) h Q ↔ xT d 95 30 (.ref ov :: ls) (.ref ov :: st) h Q := xT_aload_n (k := 0) (by decide +kernel) rfl rfl
theorem r95_30 : xT d 95 30 (ls) (.ref 20 :: st) (hh f a g) Q ↔ xT d 95 33 (ls) (.int (xI (f 20 6)) :: st) (hh f a g) Q := xT_getf (k := 33) (ci := 7) (fi := 6) (by decide +kernel) rfl rfl ⟨Nat.le_of_ble_eq_true rfl, Nat.le_of_ble_eq_true rfl⟩ (by decide +kernel) rfl
theorem r95_33 {z0 : Int32} (hd : 1 ≤ d) : xT d 95 33 (ls) ([.int z0, .ref 8]) (hh f a g) Q ↔ xTC (d - 1) 49 [.ref 8, .int z0] (hh f a g) (xAf d 95 33 (ls) [] Q) := xT_virtual (k := 98) (na := 1) (ci := 2) (by decide +kernel) (by decide +kernel) (by decide +kernel) ⟨Nat.le_of_ble_eq_true rfl, Nat.le_of_ble_eq_true rfl⟩ rfl rfl (Nat.le_of_ble_eq_true rfl) rfl rfl ⟨Nat.le_of_ble_eq_true rfl, Nat.le_of_ble_eq_true rfl⟩ (Nat.le_of_ble_eq_true rfl) hd
theorem r95_36 : xT d 95 36 (ls) (st) h Q ↔ xT d 95 39 (ls) (.int (xI 236) :: st) h Q := xT_sipush (n := 236) (by decide +kernel) rfl (by decide +kernel)
theorem r95_39 (x0 : -2147483648 ≤ x) (x1 : x ≤ 2147483647) (y0 : -2147483648 ≤ y) (y1 : y ≤ 2147483647) : xT d 95 39 (ls) (.int (xI y) :: .int (xI x) :: st) h Q ↔ (x = y → xT d 95 42 (ls) (st) h Q) ∧ (¬ x = y → xT d 95 67 (ls) (st) h Q) := xT_icne (off := 28) (by decide +kernel) rfl rfl x0 x1 y0 y1
theorem r95_42 : xT d 95 42 (.ref ov :: ls) (st) h Q ↔ xT d 95 43 (.ref ov :: ls) (.ref ov :: st) h Q := xT_aload_n (k := 0) (by decide +kernel) rfl rfl
theorem r95_43 : xT d 95 43 (ls) (.ref ow :: st) h Q ↔ xT d 95 44 (ls) (.ref ow :: .ref ow :: st) h Q := xT_dup (by decide +kernel) rfl rfl
theorem r95_44 : xT d 95 44 (ls) (.ref 20 :: st) (hh f a g) Q ↔ xT d 95 47 (ls) (.int (xI (f 20 6)) :: st) (hh f a g) Q := xT_getf (k := 33) (ci := 7) (fi := 6) (by decide +kernel) rfl rfl ⟨Nat.le_of_ble_eq_true rfl, Nat.le_of_ble_eq_true rfl⟩ (by decide +kernel) rfl
theorem r95_47 : xT d 95 47 (ls) (st) h Q ↔ xT d 95 48 (ls) (.int (xI 1) :: st) h Q := xT_iconst (n := 1) (by decide +kernel) rfl
theorem r95_48 : xT d 95 48 (ls) (.int (xI y) :: .int (xI x) :: st) h Q ↔ xT d 95 49 (ls) (.int (xI (x + y)) :: st) h Q := xT_iadd (by decide +kernel) rfl
theorem r95_49 : xT d 95 49 (ls) (.int (xI x) :: .ref 20 :: st) (hh f a g) Q ↔ xT d 95 52 (ls) (st) (hh (xu f 20 6 x) a g) Q := xT_putf (k := 33) (ci := 7) (fi := 6) (by decide +kernel) rfl rfl ⟨Nat.le_of_ble_eq_true rfl, Nat.le_of_ble_eq_true rfl⟩ (by decide +kernel) (by decide +kernel) (by decide +kernel) rfl
theorem r95_52 : xT d 95 52 (.ref ov :: ls) (st) h Q ↔ xT d 95 53 (.ref ov :: ls) (.ref ov :: st) h Q := xT_aload_n (k := 0) (by decide +kernel) rfl rfl
theorem r95_53 : xT d 95 53 (.ref ov :: ls) (st) h Q ↔ xT d 95 54 (.ref ov :: ls) (.ref ov :: st) h Q := xT_aload_n (k := 0) (by decide +kernel) rfl rfl
theorem r95_54 : xT d 95 54 (l0 :: .int v :: ls) (st) h Q ↔ xT d 95 55 (l0 :: .int v :: ls) (.int v :: st) h Q := xT_iload_n (k := 1) (by decide +kernel) rfl rfl
theorem r95_55 {z0 : Int32} {z2 : Nat} (hd : 1 ≤ d) : xT d 95 55 (ls) ([.int z0, .ref 20, .ref z2]) (hh f a g) Q ↔ xTC (d - 1) 84 [.ref 20, .int z0] (hh f a g) (xAf d 95 55 (ls) [.ref z2] Q) := xT_virtual (k := 101) (na := 1) (ci := 7) (by decide +kernel) (by decide +kernel) (by decide +kernel) ⟨Nat.le_of_ble_eq_true rfl, Nat.le_of_ble_eq_true rfl⟩ rfl rfl (Nat.le_of_ble_eq_true rfl) rfl rfl ⟨Nat.le_of_ble_eq_true rfl, Nat.le_of_ble_eq_true rfl⟩ (Nat.le_of_ble_eq_true rfl) hd
theorem r95_58 : xT d 95 58 (ls) (.int (xI x) :: .ref 20 :: st) (hh f a g) Q ↔ xT d 95 61 (ls) (st) (hh (xu f 20 6 x) a g) Q := xT_putf (k := 33) (ci := 7) (fi := 6) (by decide +kernel) rfl rfl ⟨Nat.le_of_ble_eq_true rfl, Nat.le_of_ble_eq_true rfl⟩ (by decide +kernel) (by decide +kernel) (by decide +kernel) rfl
theorem r95_61 : xT d 95 61 ([l0, .int w, .int (xI x)]) (st) h Q ↔ xT d 95 64 ([l0, .int w, .int (xI (x + 1))]) (st) h Q := xT_iinc (k := 2) (by decide +kernel) rfl rfl rfl
theorem r95_64 : xT d 95 64 (ls) (st) h Q ↔ xT d 95 2 (ls) (st) h Q := xT_goto (off := (-62)) (by decide +kernel) rfl
theorem r95_67 : xT d 95 67 (ls) ([]) h Q ↔ Q (h, .returned none) := xT_return (by decide +kernel) rfl
theorem e95 {z0 : Nat} {z1 : Int32} : xTC d 95 [.ref z0, .int z1] h Q ↔ xT d 95 0 [.ref z0, .int z1, .null] [] h Q := Iff.rfl
-- FilmReader_enter
theorem r96_0 : xT d 96 0 (.ref ov :: ls) (st) h Q ↔ xT d 96 1 (.ref ov :: ls) (.ref ov :: st) h Q := xT_aload_n (k := 0) (by decide +kernel) rfl rfl
theorem r96_1 : xT d 96 1 (l0 :: l1 :: .int v :: ls) (st) h Q ↔ xT d 96 2 (l0 :: l1 :: .int v :: ls) (.int v :: st) h Q := xT_iload_n (k := 2) (by decide +kernel) rfl rfl
theorem r96_2 {z0 : Int32} (hd : 1 ≤ d) : xT d 96 2 (ls) ([.int z0, .ref 20]) (hh f a g) Q ↔ xTC (d - 1) 95 [.ref 20, .int z0] (hh f a g) (xAf d 96 2 (ls) [] Q) := xT_virtual (k := 77) (na := 1) (ci := 7) (by decide +kernel) (by decide +kernel) (by decide +kernel) ⟨Nat.le_of_ble_eq_true rfl, Nat.le_of_ble_eq_true rfl⟩ rfl rfl (Nat.le_of_ble_eq_true rfl) rfl rfl ⟨Nat.le_of_ble_eq_true rfl, Nat.le_of_ble_eq_true rfl⟩ (Nat.le_of_ble_eq_true rfl) hd
theorem r96_5 : xT d 96 5 (.ref ov :: ls) (st) h Q ↔ xT d 96 6 (.ref ov :: ls) (.ref ov :: st) h Q := xT_aload_n (k := 0) (by decide +kernel) rfl rfl
theorem r96_6 : xT d 96 6 (ls) (.ref 20 :: st) (hh f a g) Q ↔ xT d 96 9 (ls) (.int (xI (f 20 6)) :: st) (hh f a g) Q := xT_getf (k := 33) (ci := 7) (fi := 6) (by decide +kernel) rfl rfl ⟨Nat.le_of_ble_eq_true rfl, Nat.le_of_ble_eq_true rfl⟩ (by decide +kernel) rfl
theorem r96_9 : xT d 96 9 (l0 :: l1 :: .int v :: ls) (st) h Q ↔ xT d 96 10 (l0 :: l1 :: .int v :: ls) (.int v :: st) h Q := xT_iload_n (k := 2) (by decide +kernel) rfl rfl
theorem r96_10 (x0 : -2147483648 ≤ x) (x1 : x ≤ 2147483647) (y0 : -2147483648 ≤ y) (y1 : y ≤ 2147483647) : xT d 96 10 (ls) (.int (xI y) :: .int (xI x) :: st) h Q ↔ (x < y → xT d 96 13 (ls) (st) h Q) ∧ (¬ x < y → xT d 96 28 (ls) (st) h Q) := xT_icge (off := 18) (by decide +kernel) rfl rfl x0 x1 y0 y1
theorem r96_13 : xT d 96 13 (.ref ov :: ls) (st) h Q ↔ xT d 96 14 (.ref ov :: ls) (.ref ov :: st) h Q := xT_aload_n (k := 0) (by decide +kernel) rfl rfl
theorem r96_14 : xT d 96 14 (ls) (.ref 20 :: st) (hh f a g) Q ↔ xT d 96 17 (ls) (.ref 8 :: st) (hh f a g) Q := xT_getf (k := 9) (ci := 7) (fi := 0) (by decide +kernel) rfl rfl ⟨Nat.le_of_ble_eq_true rfl, Nat.le_of_ble_eq_true rfl⟩ (by decide +kernel) rfl
theorem r96_17 : xT d 96 17 (.ref ov :: ls) (st) h Q ↔ xT d 96 18 (.ref ov :: ls) (.ref ov :: st) h Q := xT_aload_n (k := 0) (by decide +kernel) rfl rfl
theorem r96_18 : xT d 96 18 (ls) (.ref 20 :: st) (hh f a g) Q ↔ xT d 96 21 (ls) (.int (xI (f 20 6)) :: st) (hh f a g) Q := xT_getf (k := 33) (ci := 7) (fi := 6) (by decide +kernel) rfl rfl ⟨Nat.le_of_ble_eq_true rfl, Nat.le_of_ble_eq_true rfl⟩ (by decide +kernel) rfl
theorem r96_21 {z0 : Int32} (hd : 1 ≤ d) : xT d 96 21 (ls) ([.int z0, .ref 8]) (hh f a g) Q ↔ xTC (d - 1) 49 [.ref 8, .int z0] (hh f a g) (xAf d 96 21 (ls) [] Q) := xT_virtual (k := 98) (na := 1) (ci := 2) (by decide +kernel) (by decide +kernel) (by decide +kernel) ⟨Nat.le_of_ble_eq_true rfl, Nat.le_of_ble_eq_true rfl⟩ rfl rfl (Nat.le_of_ble_eq_true rfl) rfl rfl ⟨Nat.le_of_ble_eq_true rfl, Nat.le_of_ble_eq_true rfl⟩ (Nat.le_of_ble_eq_true rfl) hd
theorem r96_24 : xT d 96 24 (l0 :: .int v :: ls) (st) h Q ↔ xT d 96 25 (l0 :: .int v :: ls) (.int v :: st) h Q := xT_iload_n (k := 1) (by decide +kernel) rfl rfl
theorem r96_25 (x0 : -2147483648 ≤ x) (x1 : x ≤ 2147483647) (y0 : -2147483648 ≤ y) (y1 : y ≤ 2147483647) : xT d 96 25 (ls) (.int (xI y) :: .int (xI x) :: st) h Q ↔ (x = y → xT d 96 36 (ls) (st) h Q) ∧ (¬ x = y → xT d 96 28 (ls) (st) h Q) := xT_iceq (off := 11) (by decide +kernel) rfl rfl x0 x1 y0 y1
theorem r96_28 : xT d 96 28 (.ref ov :: ls) (st) h Q ↔ xT d 96 29 (.ref ov :: ls) (.ref ov :: st) h Q := xT_aload_n (k := 0) (by decide +kernel) rfl rfl
theorem r96_29 : xT d 96 29 (.ref ov :: ls) (st) h Q ↔ xT d 96 30 (.ref ov :: ls) (.ref ov :: st) h Q := xT_aload_n (k := 0) (by decide +kernel) rfl rfl
theorem r96_30 : xT d 96 30 (ls) (.ref 20 :: st) (hh f a g) Q ↔ xT d 96 33 (ls) (.int (xI (f 20 6)) :: st) (hh f a g) Q := xT_getf (k := 33) (ci := 7) (fi := 6) (by decide +kernel) rfl rfl ⟨Nat.le_of_ble_eq_true rfl, Nat.le_of_ble_eq_true rfl⟩ (by decide +kernel) rfl
theorem r96_33 {z0 : Int32} (hd : 1 ≤ d) : xT d 96 33 (ls) ([.int z0, .ref 20]) (hh f a g) Q ↔ xTC (d - 1) 94 [.ref 20, .int z0] (hh f a g) (xAf d 96 33 (ls) [] Q) := xT_virtual (k := 64) (na := 1) (ci := 7) (by decide +kernel) (by decide +kernel) (by decide +kernel) ⟨Nat.le_of_ble_eq_true rfl, Nat.le_of_ble_eq_true rfl⟩ rfl rfl (Nat.le_of_ble_eq_true rfl) rfl rfl ⟨Nat.le_of_ble_eq_true rfl, Nat.le_of_ble_eq_true rfl⟩ (Nat.le_of_ble_eq_true rfl) hd
theorem r96_36 : xT d 96 36 (.ref ov :: ls) (st) h Q ↔ xT d 96 37 (.ref ov :: ls) (.ref ov :: st) h Q := xT_aload_n (k := 0) (by decide +kernel) rfl rfl
theorem r96_37 : xT d 96 37 (ls) (.ref 20 :: st) (hh f a g) Q ↔ xT d 96 40 (ls) (.int (xI (f 20 7)) :: st) (hh f a g) Q := xT_getf (k := 37) (ci := 7) (fi := 7) (by decide +kernel) rfl rfl ⟨Nat.le_of_ble_eq_true rfl, Nat.le_of_ble_eq_true rfl⟩ (by decide +kernel) rfl
theorem r96_40 : xT d 96 40 (ls) (st) h Q ↔ xT d 96 41 (ls) (.int (xI (-1)) :: st) h Q := xT_iconst (n := (-1)) (by decide +kernel) rfl
theorem r96_41 (x0 : -2147483648 ≤ x) (x1 : x ≤ 2147483647) (y0 : -2147483648 ≤ y) (y1 : y ≤ 2147483647) : xT d 96 41 (ls) (.int (xI y) :: .int (xI x) :: st) h Q ↔ (x = y → xT d 96 49 (ls) (st) h Q) ∧ (¬ x = y → xT d 96 44 (ls) (st) h Q) := xT_iceq (off := 8) (by decide +kernel) rfl rfl x0 x1 y0 y1
theorem r96_44 : xT d 96 44 (.ref ov :: ls) (st) h Q ↔ xT d 96 45 (.ref ov :: ls) (.ref ov :: st) h Q := xT_aload_n (k := 0) (by decide +kernel) rfl rfl
theorem r96_45 : xT d 96 45 (ls) (.ref 20 :: st) (hh f a g) Q ↔ xT d 96 48 (ls) (.int (xI (f 20 6)) :: st) (hh f a g) Q := xT_getf (k := 33) (ci := 7) (fi := 6) (by decide +kernel) rfl rfl ⟨Nat.le_of_ble_eq_true rfl, Nat.le_of_ble_eq_true rfl⟩ (by decide +kernel) rfl
theorem r96_48 : xT d 96 48 (ls) ([.int (xI x)]) h Q ↔ Q (h, .returned (some (.int (xI x)))) := xT_ireturn (by decide +kernel) rfl
theorem r96_49 : xT d 96 49 (.ref ov :: ls) (st) h Q ↔ xT d 96 50 (.ref ov :: ls) (.ref ov :: st) h Q := xT_aload_n (k := 0) (by decide +kernel) rfl rfl
theorem r96_50 : xT d 96 50 (ls) (.ref ow :: st) h Q ↔ xT d 96 51 (ls) (.ref ow :: .ref ow :: st) h Q := xT_dup (by decide +kernel) rfl rfl
theorem r96_51 : xT d 96 51 (ls) (.ref 20 :: st) (hh f a g) Q ↔ xT d 96 54 (ls) (.int (xI (f 20 6)) :: st) (hh f a g) Q := xT_getf (k := 33) (ci := 7) (fi := 6) (by decide +kernel) rfl rfl ⟨Nat.le_of_ble_eq_true rfl, Nat.le_of_ble_eq_true rfl⟩ (by decide +kernel) rfl
theorem r96_54 : xT d 96 54 (ls) (st) h Q ↔ xT d 96 55 (ls) (.int (xI 1) :: st) h Q := xT_iconst (n := 1) (by decide +kernel) rfl
theorem r96_55 : xT d 96 55 (ls) (.int (xI y) :: .int (xI x) :: st) h Q ↔ xT d 96 56 (ls) (.int (xI (x + y)) :: st) h Q := xT_iadd (by decide +kernel) rfl
theorem r96_56 : xT d 96 56 (ls) (.int (xI x) :: .ref 20 :: st) (hh f a g) Q ↔ xT d 96 59 (ls) (st) (hh (xu f 20 6 x) a g) Q := xT_putf (k := 33) (ci := 7) (fi := 6) (by decide +kernel) rfl rfl ⟨Nat.le_of_ble_eq_true rfl, Nat.le_of_ble_eq_true rfl⟩ (by decide +kernel) (by decide +kernel) (by decide +kernel) rfl
theorem r96_59 : xT d 96 59 (.ref ov :: ls) (st) h Q ↔ xT d 96 60 (.ref ov :: ls) (.ref ov :: st) h Q := xT_aload_n (k := 0) (by decide +kernel) rfl rfl
theorem r96_60 : xT d 96 60 (l0 :: l1 :: .int v :: ls) (st) h Q ↔ xT d 96 61 (l0 :: l1 :: .int v :: ls) (.int v :: st) h Q := xT_iload_n (k := 2) (by decide +kernel) rfl rfl
theorem r96_61 {z0 : Int32} (hd : 1 ≤ d) : xT d 96 61 (ls) ([.int z0, .ref 20]) (hh f a g) Q ↔ xTC (d - 1) 84 [.ref 20, .int z0] (hh f a g) (xAf d 96 61 (ls) [] Q) := xT_virtual (k := 101) (na := 1) (ci := 7) (by decide +kernel) (by decide +kernel) (by decide +kernel) ⟨Nat.le_of_ble_eq_true rfl, Nat.le_of_ble_eq_true rfl⟩ rfl rfl (Nat.le_of_ble_eq_true rfl) rfl rfl ⟨Nat.le_of_ble_eq_true rfl, Nat.le_of_ble_eq_true rfl⟩ (Nat.le_of_ble_eq_true rfl) hd
theorem r96_64 : xT d 96 64 (ls) ([.int (xI x)]) h Q ↔ Q (h, .returned (some (.int (xI x)))) := xT_ireturn (by decide +kernel) rfl
theorem e96 {z0 : Nat} {z1 : Int32} {z2 : Int32} : xTC d 96 [.ref z0, .int z1, .int z2] h Q ↔ xT d 96 0 [.ref z0, .int z1, .int z2] [] h Q := Iff.rfl
-- M_about
theorem r97_0 : xT d 97 0 (.ref ov :: ls) (st) h Q ↔ xT d 97 1 (.ref ov :: ls) (.ref ov :: st) h Q := xT_aload_n (k := 0) (by decide +kernel) rfl rfl
theorem r97_1 : xT d 97 1 (l0 :: .int v :: ls) (st) h Q ↔ xT d 97 2 (l0 :: .int v :: ls) (.int v :: st) h Q := xT_iload_n (k := 1) (by decide +kernel) rfl rfl
theorem r97_2 : xT d 97 2 (ls) (st) h Q ↔ xT d 97 3 (ls) (.int (xI 0) :: st) h Q := xT_iconst (n := 0) (by decide +kernel) rfl
theorem r97_3 : xT d 97 3 (ls) (st) h Q ↔ xT d 97 4 (ls) (.int (xI 3) :: st) h Q := xT_iconst (n := 3) (by decide +kernel) rfl
theorem r97_4 {z0 : Int32} {z1 : Int32} {z2 : Int32} {z3 : Nat} (hd : 1 ≤ d) : xT d 97 4 (ls) ([.int z0, .int z1, .int z2, .ref z3]) h Q ↔ xTC (d - 1) 129 [.int z2, .int z1, .int z0] h (xAf d 97 4 (ls) [.ref z3] Q) := xT_static (k := 59) (na := 3) (by decide +kernel) (by decide +kernel) ⟨Nat.le_of_ble_eq_true rfl, Nat.le_of_ble_eq_true rfl⟩ rfl rfl (Nat.le_of_ble_eq_true rfl) (Nat.le_of_ble_eq_true rfl) hd
theorem r97_7 (x0 : -2147483648 ≤ x) (x1 : x ≤ 2147483647) : xT d 97 7 (ls) (.int (xI x) :: st) h Q ↔ (x = 0 → xT d 97 14 (ls) (st) h Q) ∧ (¬ x = 0 → xT d 97 10 (ls) (st) h Q) := xT_ifeq (off := 7) (by decide +kernel) rfl rfl x0 x1
theorem r97_10 : xT d 97 10 (ls) (st) h Q ↔ xT d 97 11 (ls) (.int (xI 0) :: st) h Q := xT_iconst (n := 0) (by decide +kernel) rfl
theorem r97_11 : xT d 97 11 (ls) (st) h Q ↔ xT d 97 15 (ls) (st) h Q := xT_goto (off := 4) (by decide +kernel) rfl
theorem r97_14 : xT d 97 14 (ls) (st) h Q ↔ xT d 97 15 (ls) (.int (xI 1) :: st) h Q := xT_iconst (n := 1) (by decide +kernel) rfl
theorem r97_15 : xT d 97 15 (ls) (.int (xI x) :: .ref 21 :: st) (hh f a g) Q ↔ xT d 97 18 (ls) (st) (hh (xu f 21 0 x) a g) Q := xT_putf (k := 56) (ci := 8) (fi := 0) (by decide +kernel) rfl rfl ⟨Nat.le_of_ble_eq_true rfl, Nat.le_of_ble_eq_true rfl⟩ (by decide +kernel) (by decide +kernel) (by decide +kernel) rfl
theorem r97_18 : xT d 97 18 (.ref ov :: ls) (st) h Q ↔ xT d 97 19 (.ref ov :: ls) (.ref ov :: st) h Q := xT_aload_n (k := 0) (by decide +kernel) rfl rfl
theorem r97_19 : xT d 97 19 (ls) (.ref 21 :: st) (hh f a g) Q ↔ xT d 97 22 (ls) (.int (xI (f 21 0)) :: st) (hh f a g) Q := xT_getf (k := 56) (ci := 8) (fi := 0) (by decide +kernel) rfl rfl ⟨Nat.le_of_ble_eq_true rfl, Nat.le_of_ble_eq_true rfl⟩ (by decide +kernel) rfl
theorem r97_22 (x0 : -2147483648 ≤ x) (x1 : x ≤ 2147483647) : xT d 97 22 (ls) (.int (xI x) :: st) h Q ↔ (0 < x → xT d 97 25 (ls) (st) h Q) ∧ (¬ 0 < x → xT d 97 29 (ls) (st) h Q) := xT_ifle (off := 7) (by decide +kernel) rfl rfl x0 x1
theorem r97_25 : xT d 97 25 (ls) (st) h Q ↔ xT d 97 26 (ls) (.int (xI 0) :: st) h Q := xT_iconst (n := 0) (by decide +kernel) rfl
theorem r97_26 : xT d 97 26 (ls) (st) h Q ↔ xT d 97 68 (ls) (st) h Q := xT_goto (off := 42) (by decide +kernel) rfl
theorem r97_29 : xT d 97 29 (l0 :: .int v :: ls) (st) h Q ↔ xT d 97 30 (l0 :: .int v :: ls) (.int v :: st) h Q := xT_iload_n (k := 1) (by decide +kernel) rfl rfl
theorem r97_30 (x0 : -2147483648 ≤ x) (x1 : x ≤ 2147483647) : xT d 97 30 (ls) (.int (xI x) :: st) h Q ↔ (x = 0 → xT d 97 33 (ls) (st) h Q) ∧ (¬ x = 0 → xT d 97 40 (ls) (st) h Q) := xT_ifne (off := 10) (by decide +kernel) rfl rfl x0 x1
theorem r97_33 : xT d 97 33 (.ref ov :: ls) (st) h Q ↔ xT d 97 34 (.ref ov :: ls) (.ref ov :: st) h Q := xT_aload_n (k := 0) (by decide +kernel) rfl rfl
theorem r97_34 : xT d 97 34 (ls) (.ref 21 :: st) (hh f a g) Q ↔ xT d 97 37 (ls) (.int (xI (f 21 4)) :: st) (hh f a g) Q := xT_getf (k := 63) (ci := 8) (fi := 4) (by decide +kernel) rfl rfl ⟨Nat.le_of_ble_eq_true rfl, Nat.le_of_ble_eq_true rfl⟩ (by decide +kernel) rfl
theorem r97_37 : xT d 97 37 (ls) (st) h Q ↔ xT d 97 68 (ls) (st) h Q := xT_goto (off := 31) (by decide +kernel) rfl
theorem r97_40 : xT d 97 40 (l0 :: .int v :: ls) (st) h Q ↔ xT d 97 41 (l0 :: .int v :: ls) (.int v :: st) h Q := xT_iload_n (k := 1) (by decide +kernel) rfl rfl
theorem r97_41 : xT d 97 41 (ls) (st) h Q ↔ xT d 97 42 (ls) (.int (xI 1) :: st) h Q := xT_iconst (n := 1) (by decide +kernel) rfl
theorem r97_42 (x0 : -2147483648 ≤ x) (x1 : x ≤ 2147483647) (y0 : -2147483648 ≤ y) (y1 : y ≤ 2147483647) : xT d 97 42 (ls) (.int (xI y) :: .int (xI x) :: st) h Q ↔ (x = y → xT d 97 45 (ls) (st) h Q) ∧ (¬ x = y → xT d 97 52 (ls) (st) h Q) := xT_icne (off := 10) (by decide +kernel) rfl rfl x0 x1 y0 y1
theorem r97_45 : xT d 97 45 (.ref ov :: ls) (st) h Q ↔ xT d 97 46 (.ref ov :: ls) (.ref ov :: st) h Q := xT_aload_n (k := 0) (by decide +kernel) rfl rfl
theorem r97_46 : xT d 97 46 (ls) (.ref 21 :: st) (hh f a g) Q ↔ xT d 97 49 (ls) (.int (xI (f 21 1)) :: st) (hh f a g) Q := xT_getf (k := 7) (ci := 8) (fi := 1) (by decide +kernel) rfl rfl ⟨Nat.le_of_ble_eq_true rfl, Nat.le_of_ble_eq_true rfl⟩ (by decide +kernel) rfl
theorem r97_49 : xT d 97 49 (ls) (st) h Q ↔ xT d 97 68 (ls) (st) h Q := xT_goto (off := 19) (by decide +kernel) rfl
theorem r97_52 : xT d 97 52 (l0 :: .int v :: ls) (st) h Q ↔ xT d 97 53 (l0 :: .int v :: ls) (.int v :: st) h Q := xT_iload_n (k := 1) (by decide +kernel) rfl rfl
theorem r97_53 : xT d 97 53 (ls) (st) h Q ↔ xT d 97 54 (ls) (.int (xI 2) :: st) h Q := xT_iconst (n := 2) (by decide +kernel) rfl
theorem r97_54 (x0 : -2147483648 ≤ x) (x1 : x ≤ 2147483647) (y0 : -2147483648 ≤ y) (y1 : y ≤ 2147483647) : xT d 97 54 (ls) (.int (xI y) :: .int (xI x) :: st) h Q ↔ (x = y → xT d 97 57 (ls) (st) h Q) ∧ (¬ x = y → xT d 97 64 (ls) (st) h Q) := xT_icne (off := 10) (by decide +kernel) rfl rfl x0 x1 y0 y1
theorem r97_57 : xT d 97 57 (.ref ov :: ls) (st) h Q ↔ xT d 97 58 (.ref ov :: ls) (.ref ov :: st) h Q := xT_aload_n (k := 0) (by decide +kernel) rfl rfl
theorem r97_58 : xT d 97 58 (ls) (.ref 21 :: st) (hh f a g) Q ↔ xT d 97 61 (ls) (.int (xI (f 21 2)) :: st) (hh f a g) Q := xT_getf (k := 13) (ci := 8) (fi := 2) (by decide +kernel) rfl rfl ⟨Nat.le_of_ble_eq_true rfl, Nat.le_of_ble_eq_true rfl⟩ (by decide +kernel) rfl
theorem r97_61 : xT d 97 61 (ls) (st) h Q ↔ xT d 97 68 (ls) (st) h Q := xT_goto (off := 7) (by decide +kernel) rfl
theorem r97_64 : xT d 97 64 (.ref ov :: ls) (st) h Q ↔ xT d 97 65 (.ref ov :: ls) (.ref ov :: st) h Q := xT_aload_n (k := 0) (by decide +kernel) rfl rfl
theorem r97_65 : xT d 97 65 (ls) (.ref 21 :: st) (hh f a g) Q ↔ xT d 97 68 (ls) (.int (xI (f 21 3)) :: st) (hh f a g) Q := xT_getf (k := 16) (ci := 8) (fi := 3) (by decide +kernel) rfl rfl ⟨Nat.le_of_ble_eq_true rfl, Nat.le_of_ble_eq_true rfl⟩ (by decide +kernel) rfl
theorem r97_68 : xT d 97 68 (ls) ([.int (xI x)]) h Q ↔ Q (h, .returned (some (.int (xI x)))) := xT_ireturn (by decide +kernel) rfl
theorem e97 {z0 : Nat} {z1 : Int32} : xTC d 97 [.ref z0, .int z1] h Q ↔ xT d 97 0 [.ref z0, .int z1] [] h Q := Iff.rfl
-- M_middle
theorem r98_0 : xT d 98 0 (.int v :: ls) (st) h Q ↔ xT d 98 1 (.int v :: ls) (.int v :: st) h Q := xT_iload_n (k := 0) (by decide +kernel) rfl rfl
theorem r98_1 : xT d 98 1 (l0 :: .int v :: ls) (st) h Q ↔ xT d 98 2 (l0 :: .int v :: ls) (.int v :: st) h Q := xT_iload_n (k := 1) (by decide +kernel) rfl rfl
theorem r98_2 (x0 : -2147483648 ≤ x) (x1 : x ≤ 2147483647) (y0 : -2147483648 ≤ y) (y1 : y ≤ 2147483647) : xT d 98 2 (ls) (.int (xI y) :: .int (xI x) :: st) h Q ↔ (x < y → xT d 98 5 (ls) (st) h Q) ∧ (¬ x < y → xT d 98 9 (ls) (st) h Q) := xT_icge (off := 7) (by decide +kernel) rfl rfl x0 x1 y0 y1
theorem r98_5 : xT d 98 5 (.int v :: ls) (st) h Q ↔ xT d 98 6 (.int v :: ls) (.int v :: st) h Q := xT_iload_n (k := 0) (by decide +kernel) rfl rfl
theorem r98_6 : xT d 98 6 (ls) (st) h Q ↔ xT d 98 10 (ls) (st) h Q := xT_goto (off := 4) (by decide +kernel) rfl
theorem r98_9 : xT d 98 9 (l0 :: .int v :: ls) (st) h Q ↔ xT d 98 10 (l0 :: .int v :: ls) (.int v :: st) h Q := xT_iload_n (k := 1) (by decide +kernel) rfl rfl
theorem r98_10 : xT d 98 10 ([l0, l1, .int w, l3, l4]) (.int v :: st) h Q ↔ xT d 98 11 ([l0, l1, .int w, .int v, l4]) (st) h Q := xT_istore_n (k := 3) (by decide +kernel) rfl (Nat.le_of_ble_eq_true rfl) rfl
theorem r98_11 : xT d 98 11 (.int v :: ls) (st) h Q ↔ xT d 98 12 (.int v :: ls) (.int v :: st) h Q := xT_iload_n (k := 0) (by decide +kernel) rfl rfl
theorem r98_12 : xT d 98 12 (l0 :: .int v :: ls) (st) h Q ↔ xT d 98 13 (l0 :: .int v :: ls) (.int v :: st) h Q := xT_iload_n (k := 1) (by decide +kernel) rfl rfl
theorem r98_13 (x0 : -2147483648 ≤ x) (x1 : x ≤ 2147483647) (y0 : -2147483648 ≤ y) (y1 : y ≤ 2147483647) : xT d 98 13 (ls) (.int (xI y) :: .int (xI x) :: st) h Q ↔ (x < y → xT d 98 16 (ls) (st) h Q) ∧ (¬ x < y → xT d 98 20 (ls) (st) h Q) := xT_icge (off := 7) (by decide +kernel) rfl rfl x0 x1 y0 y1
theorem r98_16 : xT d 98 16 (l0 :: .int v :: ls) (st) h Q ↔ xT d 98 17 (l0 :: .int v :: ls) (.int v :: st) h Q := xT_iload_n (k := 1) (by decide +kernel) rfl rfl
theorem r98_17 : xT d 98 17 (ls) (st) h Q ↔ xT d 98 21 (ls) (st) h Q := xT_goto (off := 4) (by decide +kernel) rfl
theorem r98_20 : xT d 98 20 (.int v :: ls) (st) h Q ↔ xT d 98 21 (.int v :: ls) (.int v :: st) h Q := xT_iload_n (k := 0) (by decide +kernel) rfl rfl
theorem r98_21 : xT d 98 21 ([l0, l1, l2, .int w, l4]) (.int v :: st) h Q ↔ xT d 98 23 ([l0, l1, l2, .int w, .int v]) (st) h Q := xT_istore (k := 4) (by decide +kernel) rfl (Nat.le_of_ble_eq_true rfl) rfl
theorem r98_23 : xT d 98 23 (l0 :: l1 :: .int v :: ls) (st) h Q ↔ xT d 98 24 (l0 :: l1 :: .int v :: ls) (.int v :: st) h Q := xT_iload_n (k := 2) (by decide +kernel) rfl rfl
theorem r98_24 : xT d 98 24 (l0 :: l1 :: l2 :: .int v :: ls) (st) h Q ↔ xT d 98 25 (l0 :: l1 :: l2 :: .int v :: ls) (.int v :: st) h Q := xT_iload_n (k := 3) (by decide +kernel) rfl rfl
theorem r98_25 (x0 : -2147483648 ≤ x) (x1 : x ≤ 2147483647) (y0 : -2147483648 ≤ y) (y1 : y ≤ 2147483647) : xT d 98 25 (ls) (.int (xI y) :: .int (xI x) :: st) h Q ↔ (x < y → xT d 98 28 (ls) (st) h Q) ∧ (¬ x < y → xT d 98 32 (ls) (st) h Q) := xT_icge (off := 7) (by decide +kernel) rfl rfl x0 x1 y0 y1
theorem r98_28 : xT d 98 28 (l0 :: l1 :: l2 :: .int v :: ls) (st) h Q ↔ xT d 98 29 (l0 :: l1 :: l2 :: .int v :: ls) (.int v :: st) h Q := xT_iload_n (k := 3) (by decide +kernel) rfl rfl
theorem r98_29 : xT d 98 29 (ls) (st) h Q ↔ xT d 98 44 (ls) (st) h Q := xT_goto (off := 15) (by decide +kernel) rfl
theorem r98_32 : xT d 98 32 (l0 :: l1 :: .int v :: ls) (st) h Q ↔ xT d 98 33 (l0 :: l1 :: .int v :: ls) (.int v :: st) h Q := xT_iload_n (k := 2) (by decide +kernel) rfl rfl
theorem r98_33 : xT d 98 33 (l0 :: l1 :: l2 :: l3 :: .int v :: ls) (st) h Q ↔ xT d 98 35 (l0 :: l1 :: l2 :: l3 :: .int v :: ls) (.int v :: st) h Q := xT_iload (k := 4) (by decide +kernel) rfl rfl
theorem r98_35 (x0 : -2147483648 ≤ x) (x1 : x ≤ 2147483647) (y0 : -2147483648 ≤ y) (y1 : y ≤ 2147483647) : xT d 98 35 (ls) (.int (xI y) :: .int (xI x) :: st) h Q ↔ (y < x → xT d 98 38 (ls) (st) h Q) ∧ (¬ y < x → xT d 98 43 (ls) (st) h Q) := xT_icle (off := 8) (by decide +kernel) rfl rfl x0 x1 y0 y1
theorem r98_38 : xT d 98 38 (l0 :: l1 :: l2 :: l3 :: .int v :: ls) (st) h Q ↔ xT d 98 40 (l0 :: l1 :: l2 :: l3 :: .int v :: ls) (.int v :: st) h Q := xT_iload (k := 4) (by decide +kernel) rfl rfl
theorem r98_40 : xT d 98 40 (ls) (st) h Q ↔ xT d 98 44 (ls) (st) h Q := xT_goto (off := 4) (by decide +kernel) rfl
theorem r98_43 : xT d 98 43 (l0 :: l1 :: .int v :: ls) (st) h Q ↔ xT d 98 44 (l0 :: l1 :: .int v :: ls) (.int v :: st) h Q := xT_iload_n (k := 2) (by decide +kernel) rfl rfl
theorem r98_44 : xT d 98 44 (ls) ([.int (xI x)]) h Q ↔ Q (h, .returned (some (.int (xI x)))) := xT_ireturn (by decide +kernel) rfl
theorem e98 {z0 : Int32} {z1 : Int32} {z2 : Int32} : xTC d 98 [.int z0, .int z1, .int z2] h Q ↔ xT d 98 0 [.int z0, .int z1, .int z2, .null, .null] [] h Q := Iff.rfl
-- M_grade
theorem r99_0 : xT d 99 0 (.int v :: ls) (st) h Q ↔ xT d 99 1 (.int v :: ls) (.int v :: st) h Q := xT_iload_n (k := 0) (by decide +kernel) rfl rfl
theorem r99_1 : xT d 99 1 (ls) (st) h Q ↔ xT d 99 2 (ls) (.int (xI 4) :: st) h Q := xT_iconst (n := 4) (by decide +kernel) rfl
theorem r99_2 (x0 : -2147483648 ≤ x) (x1 : x ≤ 2147483647) (y0 : -2147483648 ≤ y) (y1 : y ≤ 2147483647) : xT d 99 2 (ls) (.int (xI y) :: .int (xI x) :: st) h Q ↔ (y < x → xT d 99 5 (ls) (st) h Q) ∧ (¬ y < x → xT d 99 9 (ls) (st) h Q) := xT_icle (off := 7) (by decide +kernel) rfl rfl x0 x1 y0 y1
theorem r99_5 : xT d 99 5 (ls) (st) h Q ↔ xT d 99 6 (ls) (.int (xI 2) :: st) h Q := xT_iconst (n := 2) (by decide +kernel) rfl
theorem r99_6 : xT d 99 6 (ls) (st) h Q ↔ xT d 99 37 (ls) (st) h Q := xT_goto (off := 31) (by decide +kernel) rfl
theorem r99_9 : xT d 99 9 (.int v :: ls) (st) h Q ↔ xT d 99 10 (.int v :: ls) (.int v :: st) h Q := xT_iload_n (k := 0) (by decide +kernel) rfl rfl
theorem r99_10 (x0 : -2147483648 ≤ x) (x1 : x ≤ 2147483647) : xT d 99 10 (ls) (.int (xI x) :: st) h Q ↔ (0 < x → xT d 99 13 (ls) (st) h Q) ∧ (¬ 0 < x → xT d 99 17 (ls) (st) h Q) := xT_ifle (off := 7) (by decide +kernel) rfl rfl x0 x1
theorem r99_13 : xT d 99 13 (ls) (st) h Q ↔ xT d 99 14 (ls) (.int (xI 1) :: st) h Q := xT_iconst (n := 1) (by decide +kernel) rfl
theorem r99_14 : xT d 99 14 (ls) (st) h Q ↔ xT d 99 37 (ls) (st) h Q := xT_goto (off := 23) (by decide +kernel) rfl
theorem r99_17 : xT d 99 17 (.int v :: ls) (st) h Q ↔ xT d 99 18 (.int v :: ls) (.int v :: st) h Q := xT_iload_n (k := 0) (by decide +kernel) rfl rfl
theorem r99_18 : xT d 99 18 (ls) (st) h Q ↔ xT d 99 20 (ls) (.int (xI (-4)) :: st) h Q := xT_bipush (n := (-4)) (by decide +kernel) rfl (by decide +kernel)
theorem r99_20 (x0 : -2147483648 ≤ x) (x1 : x ≤ 2147483647) (y0 : -2147483648 ≤ y) (y1 : y ≤ 2147483647) : xT d 99 20 (ls) (.int (xI y) :: .int (xI x) :: st) h Q ↔ (x < y → xT d 99 23 (ls) (st) h Q) ∧ (¬ x < y → xT d 99 28 (ls) (st) h Q) := xT_icge (off := 8) (by decide +kernel) rfl rfl x0 x1 y0 y1
theorem r99_23 : xT d 99 23 (ls) (st) h Q ↔ xT d 99 25 (ls) (.int (xI (-2)) :: st) h Q := xT_bipush (n := (-2)) (by decide +kernel) rfl (by decide +kernel)
theorem r99_25 : xT d 99 25 (ls) (st) h Q ↔ xT d 99 37 (ls) (st) h Q := xT_goto (off := 12) (by decide +kernel) rfl
theorem r99_28 : xT d 99 28 (.int v :: ls) (st) h Q ↔ xT d 99 29 (.int v :: ls) (.int v :: st) h Q := xT_iload_n (k := 0) (by decide +kernel) rfl rfl
theorem r99_29 (x0 : -2147483648 ≤ x) (x1 : x ≤ 2147483647) : xT d 99 29 (ls) (.int (xI x) :: st) h Q ↔ (x < 0 → xT d 99 32 (ls) (st) h Q) ∧ (¬ x < 0 → xT d 99 36 (ls) (st) h Q) := xT_ifge (off := 7) (by decide +kernel) rfl rfl x0 x1
theorem r99_32 : xT d 99 32 (ls) (st) h Q ↔ xT d 99 33 (ls) (.int (xI (-1)) :: st) h Q := xT_iconst (n := (-1)) (by decide +kernel) rfl
theorem r99_33 : xT d 99 33 (ls) (st) h Q ↔ xT d 99 37 (ls) (st) h Q := xT_goto (off := 4) (by decide +kernel) rfl
theorem r99_36 : xT d 99 36 (ls) (st) h Q ↔ xT d 99 37 (ls) (.int (xI 0) :: st) h Q := xT_iconst (n := 0) (by decide +kernel) rfl
theorem r99_37 : xT d 99 37 (ls) ([.int (xI x)]) h Q ↔ Q (h, .returned (some (.int (xI x)))) := xT_ireturn (by decide +kernel) rfl
theorem e99 {z0 : Int32} : xTC d 99 [.int z0] h Q ↔ xT d 99 0 [.int z0] [] h Q := Iff.rfl
-- M_modulus
theorem r100_0 : xT d 100 0 (.int v :: ls) (st) h Q ↔ xT d 100 1 (.int v :: ls) (.int v :: st) h Q := xT_iload_n (k := 0) (by decide +kernel) rfl rfl
theorem r100_1 (x0 : -2147483648 ≤ x) (x1 : x ≤ 2147483647) : xT d 100 1 (ls) (.int (xI x) :: st) h Q ↔ (x = 0 → xT d 100 4 (ls) (st) h Q) ∧ (¬ x = 0 → xT d 100 10 (ls) (st) h Q) := xT_ifne (off := 9) (by decide +kernel) rfl rfl x0 x1
theorem r100_4 : xT d 100 4 (ls) (st) h Q ↔ xT d 100 7 (ls) (.int (xI 256) :: st) h Q := xT_sipush (n := 256) (by decide +kernel) rfl (by decide +kernel)
theorem r100_7 : xT d 100 7 (ls) (st) h Q ↔ xT d 100 13 (ls) (st) h Q := xT_goto (off := 6) (by decide +kernel) rfl
theorem r100_10 : xT d 100 10 (ls) (st) h Q ↔ xT d 100 13 (ls) (.int (xI 512) :: st) h Q := xT_sipush (n := 512) (by decide +kernel) rfl (by decide +kernel)
theorem r100_13 : xT d 100 13 (ls) ([.int (xI x)]) h Q ↔ Q (h, .returned (some (.int (xI x)))) := xT_ireturn (by decide +kernel) rfl
theorem e100 {z0 : Int32} : xTC d 100 [.int z0] h Q ↔ xT d 100 0 [.int z0] [] h Q := Iff.rfl
-- M_look
theorem r101_0 : xT d 101 0 (ls) (st) h Q ↔ xT d 101 2 (ls) (.int (xI 36) :: st) h Q := xT_bipush (n := 36) (by decide +kernel) rfl (by decide +kernel)
theorem r101_2 : xT d 101 2 (l0 :: .int v :: ls) (st) h Q ↔ xT d 101 3 (l0 :: .int v :: ls) (.int v :: st) h Q := xT_iload_n (k := 1) (by decide +kernel) rfl rfl
theorem r101_3 : xT d 101 3 (ls) (.int (xI y) :: .int (xI x) :: st) h Q ↔ xT d 101 4 (ls) (.int (xI (x * y)) :: st) h Q := xT_imul (by decide +kernel) rfl
theorem r101_4 : xT d 101 4 (ls) (st) h Q ↔ xT d 101 6 (ls) (.int (xI 6) :: st) h Q := xT_bipush (n := 6) (by decide +kernel) rfl (by decide +kernel)
theorem r101_6 : xT d 101 6 (l0 :: l1 :: l2 :: .int v :: ls) (st) h Q ↔ xT d 101 7 (l0 :: l1 :: l2 :: .int v :: ls) (.int v :: st) h Q := xT_iload_n (k := 3) (by decide +kernel) rfl rfl
theorem r101_7 : xT d 101 7 (ls) (.int (xI y) :: .int (xI x) :: st) h Q ↔ xT d 101 8 (ls) (.int (xI (x * y)) :: st) h Q := xT_imul (by decide +kernel) rfl
theorem r101_8 : xT d 101 8 (ls) (.int (xI y) :: .int (xI x) :: st) h Q ↔ xT d 101 9 (ls) (.int (xI (x + y)) :: st) h Q := xT_iadd (by decide +kernel) rfl
theorem r101_9 : xT d 101 9 (l0 :: l1 :: .int v :: ls) (st) h Q ↔ xT d 101 10 (l0 :: l1 :: .int v :: ls) (.int v :: st) h Q := xT_iload_n (k := 2) (by decide +kernel) rfl rfl
theorem r101_10 : xT d 101 10 (ls) (.int (xI y) :: .int (xI x) :: st) h Q ↔ xT d 101 11 (ls) (.int (xI (x + y)) :: st) h Q := xT_iadd (by decide +kernel) rfl
theorem r101_11 : xT d 101 11 ([l0, l1, l2, l3, .int w, l5, l6, l7, l8, l9, l10, l11]) (.int v :: st) h Q ↔ xT d 101 13 ([l0, l1, l2, l3, .int w, .int v, l6, l7, l8, l9, l10, l11]) (st) h Q := xT_istore (k := 5) (by decide +kernel) rfl (Nat.le_of_ble_eq_true rfl) rfl
theorem r101_13 : xT d 101 13 (l0 :: l1 :: l2 :: .int v :: ls) (st) h Q ↔ xT d 101 14 (l0 :: l1 :: l2 :: .int v :: ls) (.int v :: st) h Q := xT_iload_n (k := 3) (by decide +kernel) rfl rfl
theorem r101_14 : xT d 101 14 (l0 :: l1 :: l2 :: l3 :: .int v :: ls) (st) h Q ↔ xT d 101 16 (l0 :: l1 :: l2 :: l3 :: .int v :: ls) (.int v :: st) h Q := xT_iload (k := 4) (by decide +kernel) rfl rfl
theorem r101_16 (x0 : -2147483648 ≤ x) (x1 : x ≤ 2147483647) (y0 : -2147483648 ≤ y) (y1 : y ≤ 2147483647) : xT d 101 16 (ls) (.int (xI y) :: .int (xI x) :: st) h Q ↔ (x = y → xT d 101 19 (ls) (st) h Q) ∧ (¬ x = y → xT d 101 23 (ls) (st) h Q) := xT_icne (off := 7) (by decide +kernel) rfl rfl x0 x1 y0 y1
theorem r101_19 : xT d 101 19 (ls) (st) h Q ↔ xT d 101 20 (ls) (.int (xI 1) :: st) h Q := xT_iconst (n := 1) (by decide +kernel) rfl
theorem r101_20 : xT d 101 20 (ls) (st) h Q ↔ xT d 101 24 (ls) (st) h Q := xT_goto (off := 4) (by decide +kernel) rfl
theorem r101_23 : xT d 101 23 (ls) (st) h Q ↔ xT d 101 24 (ls) (.int (xI 0) :: st) h Q := xT_iconst (n := 0) (by decide +kernel) rfl
theorem r101_24 : xT d 101 24 ([l0, l1, l2, l3, l4, .int w, l6, l7, l8, l9, l10, l11]) (.int v :: st) h Q ↔ xT d 101 26 ([l0, l1, l2, l3, l4, .int w, .int v, l7, l8, l9, l10, l11]) (st) h Q := xT_istore (k := 6) (by decide +kernel) rfl (Nat.le_of_ble_eq_true rfl) rfl
theorem r101_26 : xT d 101 26 (l0 :: l1 :: l2 :: l3 :: l4 :: l5 :: .int v :: ls) (st) h Q ↔ xT d 101 28 (l0 :: l1 :: l2 :: l3 :: l4 :: l5 :: .int v :: ls) (.int v :: st) h Q := xT_iload (k := 6) (by decide +kernel) rfl rfl
theorem r101_28 (x0 : -2147483648 ≤ x) (x1 : x ≤ 2147483647) : xT d 101 28 (ls) (.int (xI x) :: st) h Q ↔ (x = 0 → xT d 101 35 (ls) (st) h Q) ∧ (¬ x = 0 → xT d 101 31 (ls) (st) h Q) := xT_ifeq (off := 7) (by decide +kernel) rfl rfl x0 x1
theorem r101_31 : xT d 101 31 (ls) (st) h Q ↔ xT d 101 32 (ls) (.int (xI 0) :: st) h Q := xT_iconst (n := 0) (by decide +kernel) rfl
theorem r101_32 : xT d 101 32 (ls) (st) h Q ↔ xT d 101 45 (ls) (st) h Q := xT_goto (off := 13) (by decide +kernel) rfl
theorem r101_35 : xT d 101 35 (.ref ov :: ls) (st) h Q ↔ xT d 101 36 (.ref ov :: ls) (.ref ov :: st) h Q := xT_aload_n (k := 0) (by decide +kernel) rfl rfl
theorem r101_36 : xT d 101 36 (ls) (.ref 21 :: st) (hh f a g) Q ↔ xT d 101 39 (ls) (.ref 27 :: st) (hh f a g) Q := xT_getf (k := 35) (ci := 8) (fi := 19) (by decide +kernel) rfl rfl ⟨Nat.le_of_ble_eq_true rfl, Nat.le_of_ble_eq_true rfl⟩ (by decide +kernel) rfl
theorem r101_39 : xT d 101 39 (l0 :: l1 :: l2 :: l3 :: l4 :: .int v :: ls) (st) h Q ↔ xT d 101 41 (l0 :: l1 :: l2 :: l3 :: l4 :: .int v :: ls) (.int v :: st) h Q := xT_iload (k := 5) (by decide +kernel) rfl rfl
theorem r101_41 : xT d 101 41 (ls) (st) h Q ↔ xT d 101 43 (ls) (.int (xI 6) :: st) h Q := xT_bipush (n := 6) (by decide +kernel) rfl (by decide +kernel)
theorem r101_43 : xT d 101 43 (ls) (.int (xI y) :: .int (xI x) :: st) h Q ↔ xT d 101 44 (ls) (.int (xI (x - y)) :: st) h Q := xT_isub (by decide +kernel) rfl
theorem r101_44 (x0 : 0 ≤ x) (x1 : x < 108) : xT d 101 44 (ls) (.int (xI x) :: .ref 27 :: st) (hh f a g) Q ↔ xT d 101 45 (ls) (.int (xI (a 27 x)) :: st) (hh f a g) Q := xT_iaload (N := 108) (by decide +kernel) rfl rfl (Nat.le_of_ble_eq_true rfl) x0 x1 (Nat.le_of_ble_eq_true rfl)
theorem r101_45 : xT d 101 45 ([l0, l1, l2, l3, l4, l5, .int w, l7, l8, l9, l10, l11]) (.int v :: st) h Q ↔ xT d 101 47 ([l0, l1, l2, l3, l4, l5, .int w, .int v, l8, l9, l10, l11]) (st) h Q := xT_istore (k := 7) (by decide +kernel) rfl (Nat.le_of_ble_eq_true rfl) rfl
theorem r101_47 : xT d 101 47 (l0 :: l1 :: .int v :: ls) (st) h Q ↔ xT d 101 48 (l0 :: l1 :: .int v :: ls) (.int v :: st) h Q := xT_iload_n (k := 2) (by decide +kernel) rfl rfl
theorem r101_48 (x0 : -2147483648 ≤ x) (x1 : x ≤ 2147483647) : xT d 101 48 (ls) (.int (xI x) :: st) h Q ↔ (x = 0 → xT d 101 51 (ls) (st) h Q) ∧ (¬ x = 0 → xT d 101 56 (ls) (st) h Q) := xT_ifne (off := 8) (by decide +kernel) rfl rfl x0 x1
theorem r101_51 : xT d 101 51 (l0 :: l1 :: l2 :: l3 :: l4 :: l5 :: l6 :: .int v :: ls) (st) h Q ↔ xT d 101 53 (l0 :: l1 :: l2 :: l3 :: l4 :: l5 :: l6 :: .int v :: ls) (.int v :: st) h Q := xT_iload (k := 7) (by decide +kernel) rfl rfl
theorem r101_53 : xT d 101 53 (ls) (st) h Q ↔ xT d 101 65 (ls) (st) h Q := xT_goto (off := 12) (by decide +kernel) rfl
theorem r101_56 : xT d 101 56 (.ref ov :: ls) (st) h Q ↔ xT d 101 57 (.ref ov :: ls) (.ref ov :: st) h Q := xT_aload_n (k := 0) (by decide +kernel) rfl rfl
theorem r101_57 : xT d 101 57 (ls) (.ref 21 :: st) (hh f a g) Q ↔ xT d 101 60 (ls) (.ref 27 :: st) (hh f a g) Q := xT_getf (k := 35) (ci := 8) (fi := 19) (by decide +kernel) rfl rfl ⟨Nat.le_of_ble_eq_true rfl, Nat.le_of_ble_eq_true rfl⟩ (by decide +kernel) rfl
theorem r101_60 : xT d 101 60 (l0 :: l1 :: l2 :: l3 :: l4 :: .int v :: ls) (st) h Q ↔ xT d 101 62 (l0 :: l1 :: l2 :: l3 :: l4 :: .int v :: ls) (.int v :: st) h Q := xT_iload (k := 5) (by decide +kernel) rfl rfl
theorem r101_62 : xT d 101 62 (ls) (st) h Q ↔ xT d 101 63 (ls) (.int (xI 1) :: st) h Q := xT_iconst (n := 1) (by decide +kernel) rfl
theorem r101_63 : xT d 101 63 (ls) (.int (xI y) :: .int (xI x) :: st) h Q ↔ xT d 101 64 (ls) (.int (xI (x - y)) :: st) h Q := xT_isub (by decide +kernel) rfl
theorem r101_64 (x0 : 0 ≤ x) (x1 : x < 108) : xT d 101 64 (ls) (.int (xI x) :: .ref 27 :: st) (hh f a g) Q ↔ xT d 101 65 (ls) (.int (xI (a 27 x)) :: st) (hh f a g) Q := xT_iaload (N := 108) (by decide +kernel) rfl rfl (Nat.le_of_ble_eq_true rfl) x0 x1 (Nat.le_of_ble_eq_true rfl)
theorem r101_65 : xT d 101 65 ([l0, l1, l2, l3, l4, l5, l6, .int w, l8, l9, l10, l11]) (.int v :: st) h Q ↔ xT d 101 67 ([l0, l1, l2, l3, l4, l5, l6, .int w, .int v, l9, l10, l11]) (st) h Q := xT_istore (k := 8) (by decide +kernel) rfl (Nat.le_of_ble_eq_true rfl) rfl
theorem r101_67 : xT d 101 67 (l0 :: l1 :: l2 :: l3 :: l4 :: l5 :: .int v :: ls) (st) h Q ↔ xT d 101 69 (l0 :: l1 :: l2 :: l3 :: l4 :: l5 :: .int v :: ls) (.int v :: st) h Q := xT_iload (k := 6) (by decide +kernel) rfl rfl
theorem r101_69 (x0 : -2147483648 ≤ x) (x1 : x ≤ 2147483647) : xT d 101 69 (ls) (.int (xI x) :: st) h Q ↔ (x = 0 → xT d 101 76 (ls) (st) h Q) ∧ (¬ x = 0 → xT d 101 72 (ls) (st) h Q) := xT_ifeq (off := 7) (by decide +kernel) rfl rfl x0 x1
theorem r101_72 : xT d 101 72 (ls) (st) h Q ↔ xT d 101 73 (ls) (.int (xI 0) :: st) h Q := xT_iconst (n := 0) (by decide +kernel) rfl
theorem r101_73 : xT d 101 73 (ls) (st) h Q ↔ xT d 101 95 (ls) (st) h Q := xT_goto (off := 22) (by decide +kernel) rfl
theorem r101_76 : xT d 101 76 (l0 :: l1 :: .int v :: ls) (st) h Q ↔ xT d 101 77 (l0 :: l1 :: .int v :: ls) (.int v :: st) h Q := xT_iload_n (k := 2) (by decide +kernel) rfl rfl
theorem r101_77 (x0 : -2147483648 ≤ x) (x1 : x ≤ 2147483647) : xT d 101 77 (ls) (.int (xI x) :: st) h Q ↔ (x = 0 → xT d 101 80 (ls) (st) h Q) ∧ (¬ x = 0 → xT d 101 85 (ls) (st) h Q) := xT_ifne (off := 8) (by decide +kernel) rfl rfl x0 x1
theorem r101_80 : xT d 101 80 (l0 :: l1 :: l2 :: l3 :: l4 :: l5 :: l6 :: .int v :: ls) (st) h Q ↔ xT d 101 82 (l0 :: l1 :: l2 :: l3 :: l4 :: l5 :: l6 :: .int v :: ls) (.int v :: st) h Q := xT_iload (k := 7) (by decide +kernel) rfl rfl
theorem r101_82 : xT d 101 82 (ls) (st) h Q ↔ xT d 101 95 (ls) (st) h Q := xT_goto (off := 13) (by decide +kernel) rfl
theorem r101_85 : xT d 101 85 (.ref ov :: ls) (st) h Q ↔ xT d 101 86 (.ref ov :: ls) (.ref ov :: st) h Q := xT_aload_n (k := 0) (by decide +kernel) rfl rfl
theorem r101_86 : xT d 101 86 (ls) (.ref 21 :: st) (hh f a g) Q ↔ xT d 101 89 (ls) (.ref 27 :: st) (hh f a g) Q := xT_getf (k := 35) (ci := 8) (fi := 19) (by decide +kernel) rfl rfl ⟨Nat.le_of_ble_eq_true rfl, Nat.le_of_ble_eq_true rfl⟩ (by decide +kernel) rfl
theorem r101_89 : xT d 101 89 (l0 :: l1 :: l2 :: l3 :: l4 :: .int v :: ls) (st) h Q ↔ xT d 101 91 (l0 :: l1 :: l2 :: l3 :: l4 :: .int v :: ls) (.int v :: st) h Q := xT_iload (k := 5) (by decide +kernel) rfl rfl
theorem r101_91 : xT d 101 91 (ls) (st) h Q ↔ xT d 101 93 (ls) (.int (xI 7) :: st) h Q := xT_bipush (n := 7) (by decide +kernel) rfl (by decide +kernel)
theorem r101_93 : xT d 101 93 (ls) (.int (xI y) :: .int (xI x) :: st) h Q ↔ xT d 101 94 (ls) (.int (xI (x - y)) :: st) h Q := xT_isub (by decide +kernel) rfl
theorem r101_94 (x0 : 0 ≤ x) (x1 : x < 108) : xT d 101 94 (ls) (.int (xI x) :: .ref 27 :: st) (hh f a g) Q ↔ xT d 101 95 (ls) (.int (xI (a 27 x)) :: st) (hh f a g) Q := xT_iaload (N := 108) (by decide +kernel) rfl rfl (Nat.le_of_ble_eq_true rfl) x0 x1 (Nat.le_of_ble_eq_true rfl)
theorem r101_95 : xT d 101 95 ([l0, l1, l2, l3, l4, l5, l6, l7, .int w, l9, l10, l11]) (.int v :: st) h Q ↔ xT d 101 97 ([l0, l1, l2, l3, l4, l5, l6, l7, .int w, .int v, l10, l11]) (st) h Q := xT_istore (k := 9) (by decide +kernel) rfl (Nat.le_of_ble_eq_true rfl) rfl
theorem r101_97 : xT d 101 97 (l0 :: l1 :: l2 :: l3 :: l4 :: l5 :: .int v :: ls) (st) h Q ↔ xT d 101 99 (l0 :: l1 :: l2 :: l3 :: l4 :: l5 :: .int v :: ls) (.int v :: st) h Q := xT_iload (k := 6) (by decide +kernel) rfl rfl
theorem r101_99 (x0 : -2147483648 ≤ x) (x1 : x ≤ 2147483647) : xT d 101 99 (ls) (.int (xI x) :: st) h Q ↔ (x = 0 → xT d 101 106 (ls) (st) h Q) ∧ (¬ x = 0 → xT d 101 102 (ls) (st) h Q) := xT_ifeq (off := 7) (by decide +kernel) rfl rfl x0 x1
theorem r101_102 : xT d 101 102 (ls) (st) h Q ↔ xT d 101 103 (ls) (.int (xI 0) :: st) h Q := xT_iconst (n := 0) (by decide +kernel) rfl
theorem r101_103 : xT d 101 103 (ls) (st) h Q ↔ xT d 101 130 (ls) (st) h Q := xT_goto (off := 27) (by decide +kernel) rfl
theorem r101_106 : xT d 101 106 (l0 :: l1 :: .int v :: ls) (st) h Q ↔ xT d 101 107 (l0 :: l1 :: .int v :: ls) (.int v :: st) h Q := xT_iload_n (k := 2) (by decide +kernel) rfl rfl
theorem r101_107 : xT d 101 107 (.ref ov :: ls) (st) h Q ↔ xT d 101 108 (.ref ov :: ls) (.ref ov :: st) h Q := xT_aload_n (k := 0) (by decide +kernel) rfl rfl
theorem r101_108 : xT d 101 108 (ls) (.ref 21 :: st) (hh f a g) Q ↔ xT d 101 111 (ls) (.int (xI (f 21 20)) :: st) (hh f a g) Q := xT_getf (k := 71) (ci := 8) (fi := 20) (by decide +kernel) rfl rfl ⟨Nat.le_of_ble_eq_true rfl, Nat.le_of_ble_eq_true rfl⟩ (by decide +kernel) rfl
theorem r101_111 : xT d 101 111 (ls) (st) h Q ↔ xT d 101 112 (ls) (.int (xI 1) :: st) h Q := xT_iconst (n := 1) (by decide +kernel) rfl
theorem r101_112 : xT d 101 112 (ls) (.int (xI y) :: .int (xI x) :: st) h Q ↔ xT d 101 113 (ls) (.int (xI (x - y)) :: st) h Q := xT_isub (by decide +kernel) rfl
theorem r101_113 (x0 : -2147483648 ≤ x) (x1 : x ≤ 2147483647) (y0 : -2147483648 ≤ y) (y1 : y ≤ 2147483647) : xT d 101 113 (ls) (.int (xI y) :: .int (xI x) :: st) h Q ↔ (x = y → xT d 101 116 (ls) (st) h Q) ∧ (¬ x = y → xT d 101 121 (ls) (st) h Q) := xT_icne (off := 8) (by decide +kernel) rfl rfl x0 x1 y0 y1
theorem r101_116 : xT d 101 116 (l0 :: l1 :: l2 :: l3 :: l4 :: l5 :: l6 :: .int v :: ls) (st) h Q ↔ xT d 101 118 (l0 :: l1 :: l2 :: l3 :: l4 :: l5 :: l6 :: .int v :: ls) (.int v :: st) h Q := xT_iload (k := 7) (by decide +kernel) rfl rfl
theorem r101_118 : xT d 101 118 (ls) (st) h Q ↔ xT d 101 130 (ls) (st) h Q := xT_goto (off := 12) (by decide +kernel) rfl
theorem r101_121 : xT d 101 121 (.ref ov :: ls) (st) h Q ↔ xT d 101 122 (.ref ov :: ls) (.ref ov :: st) h Q := xT_aload_n (k := 0) (by decide +kernel) rfl rfl
theorem r101_122 : xT d 101 122 (ls) (.ref 21 :: st) (hh f a g) Q ↔ xT d 101 125 (ls) (.ref 27 :: st) (hh f a g) Q := xT_getf (k := 35) (ci := 8) (fi := 19) (by decide +kernel) rfl rfl ⟨Nat.le_of_ble_eq_true rfl, Nat.le_of_ble_eq_true rfl⟩ (by decide +kernel) rfl
theorem r101_125 : xT d 101 125 (l0 :: l1 :: l2 :: l3 :: l4 :: .int v :: ls) (st) h Q ↔ xT d 101 127 (l0 :: l1 :: l2 :: l3 :: l4 :: .int v :: ls) (.int v :: st) h Q := xT_iload (k := 5) (by decide +kernel) rfl rfl
theorem r101_127 : xT d 101 127 (ls) (st) h Q ↔ xT d 101 128 (ls) (.int (xI 5) :: st) h Q := xT_iconst (n := 5) (by decide +kernel) rfl
theorem r101_128 : xT d 101 128 (ls) (.int (xI y) :: .int (xI x) :: st) h Q ↔ xT d 101 129 (ls) (.int (xI (x - y)) :: st) h Q := xT_isub (by decide +kernel) rfl
theorem r101_129 (x0 : 0 ≤ x) (x1 : x < 108) : xT d 101 129 (ls) (.int (xI x) :: .ref 27 :: st) (hh f a g) Q ↔ xT d 101 130 (ls) (.int (xI (a 27 x)) :: st) (hh f a g) Q := xT_iaload (N := 108) (by decide +kernel) rfl rfl (Nat.le_of_ble_eq_true rfl) x0 x1 (Nat.le_of_ble_eq_true rfl)
theorem r101_130 : xT d 101 130 ([l0, l1, l2, l3, l4, l5, l6, l7, l8, .int w, l10, l11]) (.int v :: st) h Q ↔ xT d 101 132 ([l0, l1, l2, l3, l4, l5, l6, l7, l8, .int w, .int v, l11]) (st) h Q := xT_istore (k := 10) (by decide +kernel) rfl (Nat.le_of_ble_eq_true rfl) rfl
theorem r101_132 : xT d 101 132 (.ref ov :: ls) (st) h Q ↔ xT d 101 133 (.ref ov :: ls) (.ref ov :: st) h Q := xT_aload_n (k := 0) (by decide +kernel) rfl rfl
theorem r101_133 : xT d 101 133 (l0 :: l1 :: l2 :: l3 :: l4 :: l5 :: l6 :: l7 :: .int v :: ls) (st) h Q ↔ xT d 101 135 (l0 :: l1 :: l2 :: l3 :: l4 :: l5 :: l6 :: l7 :: .int v :: ls) (.int v :: st) h Q := xT_iload (k := 8) (by decide +kernel) rfl rfl
theorem r101_135 : xT d 101 135 (l0 :: l1 :: l2 :: l3 :: l4 :: l5 :: l6 :: .int v :: ls) (st) h Q ↔ xT d 101 137 (l0 :: l1 :: l2 :: l3 :: l4 :: l5 :: l6 :: .int v :: ls) (.int v :: st) h Q := xT_iload (k := 7) (by decide +kernel) rfl rfl
theorem r101_137 : xT d 101 137 (l0 :: l1 :: l2 :: l3 :: l4 :: l5 :: l6 :: l7 :: .int v :: ls) (st) h Q ↔ xT d 101 139 (l0 :: l1 :: l2 :: l3 :: l4 :: l5 :: l6 :: l7 :: .int v :: ls) (.int v :: st) h Q := xT_iload (k := 8) (by decide +kernel) rfl rfl
theorem r101_139 : xT d 101 139 (l0 :: l1 :: l2 :: l3 :: l4 :: l5 :: l6 :: .int v :: ls) (st) h Q ↔ xT d 101 141 (l0 :: l1 :: l2 :: l3 :: l4 :: l5 :: l6 :: .int v :: ls) (.int v :: st) h Q := xT_iload (k := 7) (by decide +kernel) rfl rfl
theorem r101_141 : xT d 101 141 (ls) (.int (xI y) :: .int (xI x) :: st) h Q ↔ xT d 101 142 (ls) (.int (xI (x + y)) :: st) h Q := xT_iadd (by decide +kernel) rfl
theorem r101_142 : xT d 101 142 (l0 :: l1 :: l2 :: l3 :: l4 :: l5 :: l6 :: l7 :: l8 :: .int v :: ls) (st) h Q ↔ xT d 101 144 (l0 :: l1 :: l2 :: l3 :: l4 :: l5 :: l6 :: l7 :: l8 :: .int v :: ls) (.int v :: st) h Q := xT_iload (k := 9) (by decide +kernel) rfl rfl
theorem r101_144 : xT d 101 144 (ls) (.int (xI y) :: .int (xI x) :: st) h Q ↔ xT d 101 145 (ls) (.int (xI (x - y)) :: st) h Q := xT_isub (by decide +kernel) rfl
theorem r101_145 {z0 : Int32} {z1 : Int32} {z2 : Int32} {z3 : Nat} (hd : 1 ≤ d) : xT d 101 145 (ls) ([.int z0, .int z1, .int z2, .ref z3]) h Q ↔ xTC (d - 1) 98 [.int z2, .int z1, .int z0] h (xAf d 101 145 (ls) [.ref z3] Q) := xT_static (k := 74) (na := 3) (by decide +kernel) (by decide +kernel) ⟨Nat.le_of_ble_eq_true rfl, Nat.le_of_ble_eq_true rfl⟩ rfl rfl (Nat.le_of_ble_eq_true rfl) (Nat.le_of_ble_eq_true rfl) hd
theorem r101_148 : xT d 101 148 (ls) (.int (xI x) :: .ref 21 :: st) (hh f a g) Q ↔ xT d 101 151 (ls) (st) (hh (xu f 21 25 x) a g) Q := xT_putf (k := 78) (ci := 8) (fi := 25) (by decide +kernel) rfl rfl ⟨Nat.le_of_ble_eq_true rfl, Nat.le_of_ble_eq_true rfl⟩ (by decide +kernel) (by decide +kernel) (by decide +kernel) rfl
theorem r101_151 : xT d 101 151 (ls) (st) h Q ↔ xT d 101 153 (ls) (.int (xI 25) :: st) h Q := xT_bipush (n := 25) (by decide +kernel) rfl (by decide +kernel)
theorem r101_153 : xT d 101 153 (l0 :: l1 :: l2 :: l3 :: l4 :: l5 :: l6 :: l7 :: .int v :: ls) (st) h Q ↔ xT d 101 155 (l0 :: l1 :: l2 :: l3 :: l4 :: l5 :: l6 :: l7 :: .int v :: ls) (.int v :: st) h Q := xT_iload (k := 8) (by decide +kernel) rfl rfl
theorem r101_155 : xT d 101 155 (l0 :: l1 :: l2 :: l3 :: l4 :: l5 :: l6 :: l7 :: l8 :: .int v :: ls) (st) h Q ↔ xT d 101 157 (l0 :: l1 :: l2 :: l3 :: l4 :: l5 :: l6 :: l7 :: l8 :: .int v :: ls) (.int v :: st) h Q := xT_iload (k := 9) (by decide +kernel) rfl rfl
theorem r101_157 : xT d 101 157 (ls) (.int (xI y) :: .int (xI x) :: st) h Q ↔ xT d 101 158 (ls) (.int (xI (x - y)) :: st) h Q := xT_isub (by decide +kernel) rfl
theorem r101_158 {z0 : Int32} {z1 : Int32} (hd : 1 ≤ d) : xT d 101 158 (ls) ([.int z0, .int z1]) h Q ↔ xTC (d - 1) 99 [.int z0] h (xAf d 101 158 (ls) [.int z1] Q) := xT_static (k := 81) (na := 1) (by decide +kernel) (by decide +kernel) ⟨Nat.le_of_ble_eq_true rfl, Nat.le_of_ble_eq_true rfl⟩ rfl rfl (Nat.le_of_ble_eq_true rfl) (Nat.le_of_ble_eq_true rfl) hd
theorem r101_161 : xT d 101 161 (ls) (.int (xI y) :: .int (xI x) :: st) h Q ↔ xT d 101 162 (ls) (.int (xI (x * y)) :: st) h Q := xT_imul (by decide +kernel) rfl
theorem r101_162 : xT d 101 162 (ls) (st) h Q ↔ xT d 101 163 (ls) (.int (xI 5) :: st) h Q := xT_iconst (n := 5) (by decide +kernel) rfl
theorem r101_163 : xT d 101 163 (l0 :: l1 :: l2 :: l3 :: l4 :: l5 :: l6 :: l7 :: l8 :: .int v :: ls) (st) h Q ↔ xT d 101 165 (l0 :: l1 :: l2 :: l3 :: l4 :: l5 :: l6 :: l7 :: l8 :: .int v :: ls) (.int v :: st) h Q := xT_iload (k := 9) (by decide +kernel) rfl rfl
theorem r101_165 : xT d 101 165 (l0 :: l1 :: l2 :: l3 :: l4 :: l5 :: l6 :: .int v :: ls) (st) h Q ↔ xT d 101 167 (l0 :: l1 :: l2 :: l3 :: l4 :: l5 :: l6 :: .int v :: ls) (.int v :: st) h Q := xT_iload (k := 7) (by decide +kernel) rfl rfl
theorem r101_167 : xT d 101 167 (ls) (.int (xI y) :: .int (xI x) :: st) h Q ↔ xT d 101 168 (ls) (.int (xI (x - y)) :: st) h Q := xT_isub (by decide +kernel) rfl
theorem r101_168 {z0 : Int32} {z1 : Int32} {z2 : Int32} (hd : 1 ≤ d) : xT d 101 168 (ls) ([.int z0, .int z1, .int z2]) h Q ↔ xTC (d - 1) 99 [.int z0] h (xAf d 101 168 (ls) [.int z1, .int z2] Q) := xT_static (k := 81) (na := 1) (by decide +kernel) (by decide +kernel) ⟨Nat.le_of_ble_eq_true rfl, Nat.le_of_ble_eq_true rfl⟩ rfl rfl (Nat.le_of_ble_eq_true rfl) (Nat.le_of_ble_eq_true rfl) hd
theorem r101_171 : xT d 101 171 (ls) (.int (xI y) :: .int (xI x) :: st) h Q ↔ xT d 101 172 (ls) (.int (xI (x * y)) :: st) h Q := xT_imul (by decide +kernel) rfl
theorem r101_172 : xT d 101 172 (ls) (.int (xI y) :: .int (xI x) :: st) h Q ↔ xT d 101 173 (ls) (.int (xI (x + y)) :: st) h Q := xT_iadd (by decide +kernel) rfl
theorem r101_173 : xT d 101 173 (l0 :: l1 :: l2 :: l3 :: l4 :: l5 :: l6 :: .int v :: ls) (st) h Q ↔ xT d 101 175 (l0 :: l1 :: l2 :: l3 :: l4 :: l5 :: l6 :: .int v :: ls) (.int v :: st) h Q := xT_iload (k := 7) (by decide +kernel) rfl rfl
theorem r101_175 : xT d 101 175 (l0 :: l1 :: l2 :: l3 :: l4 :: l5 :: l6 :: l7 :: l8 :: l9 :: .int v :: ls) (st) h Q ↔ xT d 101 177 (l0 :: l1 :: l2 :: l3 :: l4 :: l5 :: l6 :: l7 :: l8 :: l9 :: .int v :: ls) (.int v :: st) h Q := xT_iload (k := 10) (by decide +kernel) rfl rfl
theorem r101_177 : xT d 101 177 (ls) (.int (xI y) :: .int (xI x) :: st) h Q ↔ xT d 101 178 (ls) (.int (xI (x - y)) :: st) h Q := xT_isub (by decide +kernel) rfl
theorem r101_178 {z0 : Int32} {z1 : Int32} (hd : 1 ≤ d) : xT d 101 178 (ls) ([.int z0, .int z1]) h Q ↔ xTC (d - 1) 99 [.int z0] h (xAf d 101 178 (ls) [.int z1] Q) := xT_static (k := 81) (na := 1) (by decide +kernel) (by decide +kernel) ⟨Nat.le_of_ble_eq_true rfl, Nat.le_of_ble_eq_true rfl⟩ rfl rfl (Nat.le_of_ble_eq_true rfl) (Nat.le_of_ble_eq_true rfl) hd
theorem r101_181 : xT d 101 181 (ls) (.int (xI y) :: .int (xI x) :: st) h Q ↔ xT d 101 182 (ls) (.int (xI (x + y)) :: st) h Q := xT_iadd (by decide +kernel) rfl
theorem r101_182 : xT d 101 182 ([l0, l1, l2, l3, l4, l5, l6, l7, l8, l9, .int w, l11]) (.int v :: st) h Q ↔ xT d 101 184 ([l0, l1, l2, l3, l4, l5, l6, l7, l8, l9, .int w, .int v]) (st) h Q := xT_istore (k := 11) (by decide +kernel) rfl (Nat.le_of_ble_eq_true rfl) rfl
theorem r101_184 : xT d 101 184 (.ref ov :: ls) (st) h Q ↔ xT d 101 185 (.ref ov :: ls) (.ref ov :: st) h Q := xT_aload_n (k := 0) (by decide +kernel) rfl rfl
theorem r101_185 : xT d 101 185 (l0 :: l1 :: l2 :: l3 :: l4 :: l5 :: l6 :: l7 :: l8 :: l9 :: l10 :: .int v :: ls) (st) h Q ↔ xT d 101 187 (l0 :: l1 :: l2 :: l3 :: l4 :: l5 :: l6 :: l7 :: l8 :: l9 :: l10 :: .int v :: ls) (.int v :: st) h Q := xT_iload (k := 11) (by decide +kernel) rfl rfl
theorem r101_187 (x0 : -2147483648 ≤ x) (x1 : x ≤ 2147483647) : xT d 101 187 (ls) (.int (xI x) :: st) h Q ↔ (x < 0 → xT d 101 190 (ls) (st) h Q) ∧ (¬ x < 0 → xT d 101 194 (ls) (st) h Q) := xT_ifge (off := 7) (by decide +kernel) rfl rfl x0 x1
theorem r101_190 : xT d 101 190 (ls) (st) h Q ↔ xT d 101 191 (ls) (.int (xI 1) :: st) h Q := xT_iconst (n := 1) (by decide +kernel) rfl
theorem r101_191 : xT d 101 191 (ls) (st) h Q ↔ xT d 101 195 (ls) (st) h Q := xT_goto (off := 4) (by decide +kernel) rfl
theorem r101_194 : xT d 101 194 (ls) (st) h Q ↔ xT d 101 195 (ls) (.int (xI 0) :: st) h Q := xT_iconst (n := 0) (by decide +kernel) rfl
theorem r101_195 (hx : x = 0 ∨ x = 1) : xT d 101 195 (ls) (.int (xI x) :: .ref 21 :: st) (hh f a g) Q ↔ xT d 101 198 (ls) (st) (hh (xu f 21 27 x) a g) Q := xT_putz (k := 85) (ci := 8) (fi := 27) (by decide +kernel) rfl rfl ⟨Nat.le_of_ble_eq_true rfl, Nat.le_of_ble_eq_true rfl⟩ (by decide +kernel) (by decide +kernel) (by decide +kernel) rfl hx
theorem r101_198 : xT d 101 198 (.ref ov :: ls) (st) h Q ↔ xT d 101 199 (.ref ov :: ls) (.ref ov :: st) h Q := xT_aload_n (k := 0) (by decide +kernel) rfl rfl
theorem r101_199 : xT d 101 199 (l0 :: .int v :: ls) (st) h Q ↔ xT d 101 200 (l0 :: .int v :: ls) (.int v :: st) h Q := xT_iload_n (k := 1) (by decide +kernel) rfl rfl
theorem r101_200 (x0 : -2147483648 ≤ x) (x1 : x ≤ 2147483647) : xT d 101 200 (ls) (.int (xI x) :: st) h Q ↔ (x = 0 → xT d 101 203 (ls) (st) h Q) ∧ (¬ x = 0 → xT d 101 207 (ls) (st) h Q) := xT_ifne (off := 7) (by decide +kernel) rfl rfl x0 x1
theorem r101_203 : xT d 101 203 (ls) (st) h Q ↔ xT d 101 204 (ls) (.int (xI 0) :: st) h Q := xT_iconst (n := 0) (by decide +kernel) rfl
theorem r101_204 : xT d 101 204 (ls) (st) h Q ↔ xT d 101 209 (ls) (st) h Q := xT_goto (off := 5) (by decide +kernel) rfl
theorem r101_207 : xT d 101 207 (ls) (st) h Q ↔ xT d 101 209 (ls) (.int (xI 63) :: st) h Q := xT_bipush (n := 63) (by decide +kernel) rfl (by decide +kernel)
theorem r101_209 : xT d 101 209 (l0 :: l1 :: l2 :: l3 :: l4 :: l5 :: l6 :: l7 :: l8 :: l9 :: l10 :: .int v :: ls) (st) h Q ↔ xT d 101 211 (l0 :: l1 :: l2 :: l3 :: l4 :: l5 :: l6 :: l7 :: l8 :: l9 :: l10 :: .int v :: ls) (.int v :: st) h Q := xT_iload (k := 11) (by decide +kernel) rfl rfl
theorem r101_211 (x0 : -2147483648 ≤ x) (x1 : x ≤ 2147483647) : xT d 101 211 (ls) (.int (xI x) :: st) h Q ↔ (x < 0 → xT d 101 214 (ls) (st) h Q) ∧ (¬ x < 0 → xT d 101 220 (ls) (st) h Q) := xT_ifge (off := 9) (by decide +kernel) rfl rfl x0 x1
theorem r101_214 : xT d 101 214 (l0 :: l1 :: l2 :: l3 :: l4 :: l5 :: l6 :: l7 :: l8 :: l9 :: l10 :: .int v :: ls) (st) h Q ↔ xT d 101 216 (l0 :: l1 :: l2 :: l3 :: l4 :: l5 :: l6 :: l7 :: l8 :: l9 :: l10 :: .int v :: ls) (.int v :: st) h Q := xT_iload (k := 11) (by decide +kernel) rfl rfl
theorem r101_216 : xT d 101 216 (ls) (.int (xI x) :: st) h Q ↔ xT d 101 217 (ls) (.int (xI (-x)) :: st) h Q := xT_ineg (by decide +kernel) rfl
theorem r101_217 : xT d 101 217 (ls) (st) h Q ↔ xT d 101 222 (ls) (st) h Q := xT_goto (off := 5) (by decide +kernel) rfl
theorem r101_220 : xT d 101 220 (l0 :: l1 :: l2 :: l3 :: l4 :: l5 :: l6 :: l7 :: l8 :: l9 :: l10 :: .int v :: ls) (st) h Q ↔ xT d 101 222 (l0 :: l1 :: l2 :: l3 :: l4 :: l5 :: l6 :: l7 :: l8 :: l9 :: l10 :: .int v :: ls) (.int v :: st) h Q := xT_iload (k := 11) (by decide +kernel) rfl rfl
theorem r101_222 : xT d 101 222 (ls) (.int (xI y) :: .int (xI x) :: st) h Q ↔ xT d 101 223 (ls) (.int (xI (x + y)) :: st) h Q := xT_iadd (by decide +kernel) rfl
theorem r101_223 : xT d 101 223 (ls) (.int (xI x) :: .ref 21 :: st) (hh f a g) Q ↔ xT d 101 226 (ls) (st) (hh (xu f 21 26 x) a g) Q := xT_putf (k := 89) (ci := 8) (fi := 26) (by decide +kernel) rfl rfl ⟨Nat.le_of_ble_eq_true rfl, Nat.le_of_ble_eq_true rfl⟩ (by decide +kernel) (by decide +kernel) (by decide +kernel) rfl
theorem r101_226 : xT d 101 226 (ls) ([]) h Q ↔ Q (h, .returned none) := xT_return (by decide +kernel) rfl
theorem e101 {z0 : Nat} {z1 : Int32} {z2 : Int32} {z3 : Int32} {z4 : Int32} : xTC d 101 [.ref z0, .int z1, .int z2, .int z3, .int z4] h Q ↔ xT d 101 0 [.ref z0, .int z1, .int z2, .int z3, .int z4, .null, .null, .null, .null, .null, .null, .null] [] h Q := Iff.rfl
-- M_newContexts
theorem r102_0 : xT d 102 0 (ls) (st) h Q ↔ xT d 102 1 (ls) (.int (xI 0) :: st) h Q := xT_iconst (n := 0) (by decide +kernel) rfl
theorem r102_1 : xT d 102 1 ([.ref ow, l1]) (.int v :: st) h Q ↔ xT d 102 2 ([.ref ow, .int v]) (st) h Q := xT_istore_n (k := 1) (by decide +kernel) rfl (Nat.le_of_ble_eq_true rfl) rfl
theorem r102_2 : xT d 102 2 (l0 :: .int v :: ls) (st) h Q ↔ xT d 102 3 (l0 :: .int v :: ls) (.int v :: st) h Q := xT_iload_n (k := 1) (by decide +kernel) rfl rfl
theorem r102_3 : xT d 102 3 (ls) (st) h Q ↔ xT d 102 5 (ls) (.int (xI 126) :: st) h Q := xT_bipush (n := 126) (by decide +kernel) rfl (by decide +kernel)
theorem r102_5 (x0 : -2147483648 ≤ x) (x1 : x ≤ 2147483647) (y0 : -2147483648 ≤ y) (y1 : y ≤ 2147483647) : xT d 102 5 (ls) (.int (xI y) :: .int (xI x) :: st) h Q ↔ (x < y → xT d 102 8 (ls) (st) h Q) ∧ (¬ x < y → xT d 102 28 (ls) (st) h Q) := xT_icge (off := 23) (by decide +kernel) rfl rfl x0 x1 y0 y1
theorem r102_8 : xT d 102 8 (.ref ov :: ls) (st) h Q ↔ xT d 102 9 (.ref ov :: ls) (.ref ov :: st) h Q := xT_aload_n (k := 0) (by decide +kernel) rfl rfl
theorem r102_9 : xT d 102 9 (ls) (.ref 21 :: st) (hh f a g) Q ↔ xT d 102 12 (ls) (.ref 28 :: st) (hh f a g) Q := xT_getf (k := 38) (ci := 8) (fi := 22) (by decide +kernel) rfl rfl ⟨Nat.le_of_ble_eq_true rfl, Nat.le_of_ble_eq_true rfl⟩ (by decide +kernel) rfl
theorem r102_12 : xT d 102 12 (l0 :: .int v :: ls) (st) h Q ↔ xT d 102 13 (l0 :: .int v :: ls) (.int v :: st) h Q := xT_iload_n (k := 1) (by decide +kernel) rfl rfl
theorem r102_13 : xT d 102 13 (ls) (st) h Q ↔ xT d 102 14 (ls) (.int (xI 4) :: st) h Q := xT_iconst (n := 4) (by decide +kernel) rfl
theorem r102_14 (x0 : 0 ≤ x) (x1 : x < 126) : xT d 102 14 (ls) (.int (xI y) :: .int (xI x) :: .ref 28 :: st) (hh f a g) Q ↔ xT d 102 15 (ls) (st) (hh f (xw a 28 x y) g) Q := xT_iastore (N := 126) (by decide +kernel) rfl rfl ⟨Nat.le_of_ble_eq_true rfl, Nat.le_of_ble_eq_true rfl⟩ x0 x1 (Nat.le_of_ble_eq_true rfl)
theorem r102_15 : xT d 102 15 (.ref ov :: ls) (st) h Q ↔ xT d 102 16 (.ref ov :: ls) (.ref ov :: st) h Q := xT_aload_n (k := 0) (by decide +kernel) rfl rfl
theorem r102_16 : xT d 102 16 (ls) (.ref 21 :: st) (hh f a g) Q ↔ xT d 102 19 (ls) (.ref 29 :: st) (hh f a g) Q := xT_getf (k := 41) (ci := 8) (fi := 23) (by decide +kernel) rfl rfl ⟨Nat.le_of_ble_eq_true rfl, Nat.le_of_ble_eq_true rfl⟩ (by decide +kernel) rfl
theorem r102_19 : xT d 102 19 (l0 :: .int v :: ls) (st) h Q ↔ xT d 102 20 (l0 :: .int v :: ls) (.int v :: st) h Q := xT_iload_n (k := 1) (by decide +kernel) rfl rfl
theorem r102_20 : xT d 102 20 (ls) (st) h Q ↔ xT d 102 21 (ls) (.int (xI 1) :: st) h Q := xT_iconst (n := 1) (by decide +kernel) rfl
theorem r102_21 (x0 : 0 ≤ x) (x1 : x < 126) : xT d 102 21 (ls) (.int (xI y) :: .int (xI x) :: .ref 29 :: st) (hh f a g) Q ↔ xT d 102 22 (ls) (st) (hh f (xw a 29 x y) g) Q := xT_iastore (N := 126) (by decide +kernel) rfl rfl ⟨Nat.le_of_ble_eq_true rfl, Nat.le_of_ble_eq_true rfl⟩ x0 x1 (Nat.le_of_ble_eq_true rfl)
theorem r102_22 : xT d 102 22 ([.ref ow, .int (xI x)]) (st) h Q ↔ xT d 102 25 ([.ref ow, .int (xI (x + 1))]) (st) h Q := xT_iinc (k := 1) (by decide +kernel) rfl rfl rfl
theorem r102_25 : xT d 102 25 (ls) (st) h Q ↔ xT d 102 2 (ls) (st) h Q := xT_goto (off := (-23)) (by decide +kernel) rfl
theorem r102_28 : xT d 102 28 (ls) (st) h Q ↔ xT d 102 29 (ls) (.int (xI 0) :: st) h Q := xT_iconst (n := 0) (by decide +kernel) rfl
theorem r102_29 : xT d 102 29 ([.ref ow, l1]) (.int v :: st) h Q ↔ xT d 102 30 ([.ref ow, .int v]) (st) h Q := xT_istore_n (k := 1) (by decide +kernel) rfl (Nat.le_of_ble_eq_true rfl) rfl
theorem r102_30 : xT d 102 30 (l0 :: .int v :: ls) (st) h Q ↔ xT d 102 31 (l0 :: .int v :: ls) (.int v :: st) h Q := xT_iload_n (k := 1) (by decide +kernel) rfl rfl
theorem r102_31 : xT d 102 31 (ls) (st) h Q ↔ xT d 102 34 (ls) (.int (xI 2394) :: st) h Q := xT_sipush (n := 2394) (by decide +kernel) rfl (by decide +kernel)
theorem r102_34 (x0 : -2147483648 ≤ x) (x1 : x ≤ 2147483647) (y0 : -2147483648 ≤ y) (y1 : y ≤ 2147483647) : xT d 102 34 (ls) (.int (xI y) :: .int (xI x) :: st) h Q ↔ (x < y → xT d 102 37 (ls) (st) h Q) ∧ (¬ x < y → xT d 102 52 (ls) (st) h Q) := xT_icge (off := 18) (by decide +kernel) rfl rfl x0 x1 y0 y1
theorem r102_37 : xT d 102 37 (.ref ov :: ls) (st) h Q ↔ xT d 102 38 (.ref ov :: ls) (.ref ov :: st) h Q := xT_aload_n (k := 0) (by decide +kernel) rfl rfl
theorem r102_38 : xT d 102 38 (ls) (.ref 21 :: st) (hh f a g) Q ↔ xT d 102 41 (ls) (.ref 30 :: st) (hh f a g) Q := xT_getf (k := 44) (ci := 8) (fi := 24) (by decide +kernel) rfl rfl ⟨Nat.le_of_ble_eq_true rfl, Nat.le_of_ble_eq_true rfl⟩ (by decide +kernel) rfl
theorem r102_41 : xT d 102 41 (l0 :: .int v :: ls) (st) h Q ↔ xT d 102 42 (l0 :: .int v :: ls) (.int v :: st) h Q := xT_iload_n (k := 1) (by decide +kernel) rfl rfl
theorem r102_42 : xT d 102 42 (ls) (st) h Q ↔ xT d 102 45 (ls) (.int (xI 128) :: st) h Q := xT_sipush (n := 128) (by decide +kernel) rfl (by decide +kernel)
theorem r102_45 (x0 : 0 ≤ x) (x1 : x < 2394) : xT d 102 45 (ls) (.int (xI y) :: .int (xI x) :: .ref 30 :: st) (hh f a g) Q ↔ xT d 102 46 (ls) (st) (hh f (xw a 30 x y) g) Q := xT_iastore (N := 2394) (by decide +kernel) rfl rfl ⟨Nat.le_of_ble_eq_true rfl, Nat.le_of_ble_eq_true rfl⟩ x0 x1 (Nat.le_of_ble_eq_true rfl)
theorem r102_46 : xT d 102 46 ([.ref ow, .int (xI x)]) (st) h Q ↔ xT d 102 49 ([.ref ow, .int (xI (x + 1))]) (st) h Q := xT_iinc (k := 1) (by decide +kernel) rfl rfl rfl
theorem r102_49 : xT d 102 49 (ls) (st) h Q ↔ xT d 102 30 (ls) (st) h Q := xT_goto (off := (-19)) (by decide +kernel) rfl
theorem r102_52 : xT d 102 52 (ls) ([]) h Q ↔ Q (h, .returned none) := xT_return (by decide +kernel) rfl
theorem e102 {z0 : Nat} : xTC d 102 [.ref z0] h Q ↔ xT d 102 0 [.ref z0, .null] [] h Q := Iff.rfl
-- M_places
theorem r103_0 : xT d 103 0 (ls) (st) h Q ↔ xT d 103 1 (ls) (.int (xI 0) :: st) h Q := xT_iconst (n := 0) (by decide +kernel) rfl
theorem r103_1 : xT d 103 1 ([.ref ow, l1]) (.int v :: st) h Q ↔ xT d 103 2 ([.ref ow, .int v]) (st) h Q := xT_istore_n (k := 1) (by decide +kernel) rfl (Nat.le_of_ble_eq_true rfl) rfl
theorem r103_2 : xT d 103 2 (.ref ov :: ls) (st) h Q ↔ xT d 103 3 (.ref ov :: ls) (.ref ov :: st) h Q := xT_aload_n (k := 0) (by decide +kernel) rfl rfl
theorem r103_3 : xT d 103 3 (ls) (.ref 21 :: st) (hh f a g) Q ↔ xT d 103 6 (ls) (.ref 29 :: st) (hh f a g) Q := xT_getf (k := 41) (ci := 8) (fi := 23) (by decide +kernel) rfl rfl ⟨Nat.le_of_ble_eq_true rfl, Nat.le_of_ble_eq_true rfl⟩ (by decide +kernel) rfl
theorem r103_6 : xT d 103 6 (.ref ov :: ls) (st) h Q ↔ xT d 103 7 (.ref ov :: ls) (.ref ov :: st) h Q := xT_aload_n (k := 0) (by decide +kernel) rfl rfl
theorem r103_7 : xT d 103 7 (ls) (.ref 21 :: st) (hh f a g) Q ↔ xT d 103 10 (ls) (.int (xI (f 21 26)) :: st) (hh f a g) Q := xT_getf (k := 89) (ci := 8) (fi := 26) (by decide +kernel) rfl rfl ⟨Nat.le_of_ble_eq_true rfl, Nat.le_of_ble_eq_true rfl⟩ (by decide +kernel) rfl
theorem r103_10 (x0 : 0 ≤ x) (x1 : x < 126) : xT d 103 10 (ls) (.int (xI x) :: .ref 29 :: st) (hh f a g) Q ↔ xT d 103 11 (ls) (.int (xI (a 29 x)) :: st) (hh f a g) Q := xT_iaload (N := 126) (by decide +kernel) rfl rfl (Nat.le_of_ble_eq_true rfl) x0 x1 (Nat.le_of_ble_eq_true rfl)
theorem r103_11 : xT d 103 11 (l0 :: .int v :: ls) (st) h Q ↔ xT d 103 12 (l0 :: .int v :: ls) (.int v :: st) h Q := xT_iload_n (k := 1) (by decide +kernel) rfl rfl
theorem r103_12 (y0 : 0 ≤ y) (y1 : y ≤ 31) : xT d 103 12 (ls) (.int (xI y) :: .int (xI x) :: st) h Q ↔ xT d 103 13 (ls) (.int (xI (x * 2 ^ y.toNat)) :: st) h Q := xT_ishl (by decide +kernel) rfl y0 y1
theorem r103_13 : xT d 103 13 (.ref ov :: ls) (st) h Q ↔ xT d 103 14 (.ref ov :: ls) (.ref ov :: st) h Q := xT_aload_n (k := 0) (by decide +kernel) rfl rfl
theorem r103_14 : xT d 103 14 (ls) (.ref 21 :: st) (hh f a g) Q ↔ xT d 103 17 (ls) (.ref 28 :: st) (hh f a g) Q := xT_getf (k := 38) (ci := 8) (fi := 22) (by decide +kernel) rfl rfl ⟨Nat.le_of_ble_eq_true rfl, Nat.le_of_ble_eq_true rfl⟩ (by decide +kernel) rfl
theorem r103_17 : xT d 103 17 (.ref ov :: ls) (st) h Q ↔ xT d 103 18 (.ref ov :: ls) (.ref ov :: st) h Q := xT_aload_n (k := 0) (by decide +kernel) rfl rfl
theorem r103_18 : xT d 103 18 (ls) (.ref 21 :: st) (hh f a g) Q ↔ xT d 103 21 (ls) (.int (xI (f 21 26)) :: st) (hh f a g) Q := xT_getf (k := 89) (ci := 8) (fi := 26) (by decide +kernel) rfl rfl ⟨Nat.le_of_ble_eq_true rfl, Nat.le_of_ble_eq_true rfl⟩ (by decide +kernel) rfl
theorem r103_21 (x0 : 0 ≤ x) (x1 : x < 126) : xT d 103 21 (ls) (.int (xI x) :: .ref 28 :: st) (hh f a g) Q ↔ xT d 103 22 (ls) (.int (xI (a 28 x)) :: st) (hh f a g) Q := xT_iaload (N := 126) (by decide +kernel) rfl rfl (Nat.le_of_ble_eq_true rfl) x0 x1 (Nat.le_of_ble_eq_true rfl)
theorem r103_22 (x0 : -2147483648 ≤ x) (x1 : x ≤ 2147483647) (y0 : -2147483648 ≤ y) (y1 : y ≤ 2147483647) : xT d 103 22 (ls) (.int (xI y) :: .int (xI x) :: st) h Q ↔ (x < y → xT d 103 25 (ls) (st) h Q) ∧ (¬ x < y → xT d 103 31 (ls) (st) h Q) := xT_icge (off := 9) (by decide +kernel) rfl rfl x0 x1 y0 y1
theorem r103_25 : xT d 103 25 ([.ref ow, .int (xI x)]) (st) h Q ↔ xT d 103 28 ([.ref ow, .int (xI (x + 1))]) (st) h Q := xT_iinc (k := 1) (by decide +kernel) rfl rfl rfl
theorem r103_28 : xT d 103 28 (ls) (st) h Q ↔ xT d 103 2 (ls) (st) h Q := xT_goto (off := (-26)) (by decide +kernel) rfl
theorem r103_31 : xT d 103 31 (l0 :: .int v :: ls) (st) h Q ↔ xT d 103 32 (l0 :: .int v :: ls) (.int v :: st) h Q := xT_iload_n (k := 1) (by decide +kernel) rfl rfl
theorem r103_32 : xT d 103 32 (ls) ([.int (xI x)]) h Q ↔ Q (h, .returned (some (.int (xI x)))) := xT_ireturn (by decide +kernel) rfl
theorem e103 {z0 : Nat} : xTC d 103 [.ref z0] h Q ↔ xT d 103 0 [.ref z0, .null] [] h Q := Iff.rfl
-- M_learn
theorem r104_0 : xT d 104 0 (.ref ov :: ls) (st) h Q ↔ xT d 104 1 (.ref ov :: ls) (.ref ov :: st) h Q := xT_aload_n (k := 0) (by decide +kernel) rfl rfl
theorem r104_1 : xT d 104 1 (ls) (.ref 21 :: st) (hh f a g) Q ↔ xT d 104 4 (ls) (.ref 28 :: st) (hh f a g) Q := xT_getf (k := 38) (ci := 8) (fi := 22) (by decide +kernel) rfl rfl ⟨Nat.le_of_ble_eq_true rfl, Nat.le_of_ble_eq_true rfl⟩ (by decide +kernel) rfl
theorem r104_4 : xT d 104 4 (.ref ov :: ls) (st) h Q ↔ xT d 104 5 (.ref ov :: ls) (.ref ov :: st) h Q := xT_aload_n (k := 0) (by decide +kernel) rfl rfl
theorem r104_5 : xT d 104 5 (ls) (.ref 21 :: st) (hh f a g) Q ↔ xT d 104 8 (ls) (.int (xI (f 21 26)) :: st) (hh f a g) Q := xT_getf (k := 89) (ci := 8) (fi := 26) (by decide +kernel) rfl rfl ⟨Nat.le_of_ble_eq_true rfl, Nat.le_of_ble_eq_true rfl⟩ (by decide +kernel) rfl
theorem r104_8 : xT d 104 8 (.ref ov :: ls) (st) h Q ↔ xT d 104 9 (.ref ov :: ls) (.ref ov :: st) h Q := xT_aload_n (k := 0) (by decide +kernel) rfl rfl
theorem r104_9 : xT d 104 9 (ls) (.ref 21 :: st) (hh f a g) Q ↔ xT d 104 12 (ls) (.ref 28 :: st) (hh f a g) Q := xT_getf (k := 38) (ci := 8) (fi := 22) (by decide +kernel) rfl rfl ⟨Nat.le_of_ble_eq_true rfl, Nat.le_of_ble_eq_true rfl⟩ (by decide +kernel) rfl
theorem r104_12 : xT d 104 12 (.ref ov :: ls) (st) h Q ↔ xT d 104 13 (.ref ov :: ls) (.ref ov :: st) h Q := xT_aload_n (k := 0) (by decide +kernel) rfl rfl
theorem r104_13 : xT d 104 13 (ls) (.ref 21 :: st) (hh f a g) Q ↔ xT d 104 16 (ls) (.int (xI (f 21 26)) :: st) (hh f a g) Q := xT_getf (k := 89) (ci := 8) (fi := 26) (by decide +kernel) rfl rfl ⟨Nat.le_of_ble_eq_true rfl, Nat.le_of_ble_eq_true rfl⟩ (by decide +kernel) rfl
theorem r104_16 (x0 : 0 ≤ x) (x1 : x < 126) : xT d 104 16 (ls) (.int (xI x) :: .ref 28 :: st) (hh f a g) Q ↔ xT d 104 17 (ls) (.int (xI (a 28 x)) :: st) (hh f a g) Q := xT_iaload (N := 126) (by decide +kernel) rfl rfl (Nat.le_of_ble_eq_true rfl) x0 x1 (Nat.le_of_ble_eq_true rfl)
theorem r104_17 : xT d 104 17 (l0 :: .int v :: ls) (st) h Q ↔ xT d 104 18 (l0 :: .int v :: ls) (.int v :: st) h Q := xT_iload_n (k := 1) (by decide +kernel) rfl rfl
theorem r104_18 (x0 : -2147483648 ≤ x) (x1 : x ≤ 2147483647) : xT d 104 18 (ls) (.int (xI x) :: st) h Q ↔ (x < 0 → xT d 104 21 (ls) (st) h Q) ∧ (¬ x < 0 → xT d 104 26 (ls) (st) h Q) := xT_ifge (off := 8) (by decide +kernel) rfl rfl x0 x1
theorem r104_21 : xT d 104 21 (l0 :: .int v :: ls) (st) h Q ↔ xT d 104 22 (l0 :: .int v :: ls) (.int v :: st) h Q := xT_iload_n (k := 1) (by decide +kernel) rfl rfl
theorem r104_22 : xT d 104 22 (ls) (.int (xI x) :: st) h Q ↔ xT d 104 23 (ls) (.int (xI (-x)) :: st) h Q := xT_ineg (by decide +kernel) rfl
theorem r104_23 : xT d 104 23 (ls) (st) h Q ↔ xT d 104 27 (ls) (st) h Q := xT_goto (off := 4) (by decide +kernel) rfl
theorem r104_26 : xT d 104 26 (l0 :: .int v :: ls) (st) h Q ↔ xT d 104 27 (l0 :: .int v :: ls) (.int v :: st) h Q := xT_iload_n (k := 1) (by decide +kernel) rfl rfl
theorem r104_27 : xT d 104 27 (ls) (.int (xI y) :: .int (xI x) :: st) h Q ↔ xT d 104 28 (ls) (.int (xI (x + y)) :: st) h Q := xT_iadd (by decide +kernel) rfl
theorem r104_28 (x0 : 0 ≤ x) (x1 : x < 126) : xT d 104 28 (ls) (.int (xI y) :: .int (xI x) :: .ref 28 :: st) (hh f a g) Q ↔ xT d 104 29 (ls) (st) (hh f (xw a 28 x y) g) Q := xT_iastore (N := 126) (by decide +kernel) rfl rfl ⟨Nat.le_of_ble_eq_true rfl, Nat.le_of_ble_eq_true rfl⟩ x0 x1 (Nat.le_of_ble_eq_true rfl)
theorem r104_29 : xT d 104 29 (.ref ov :: ls) (st) h Q ↔ xT d 104 30 (.ref ov :: ls) (.ref ov :: st) h Q := xT_aload_n (k := 0) (by decide +kernel) rfl rfl
theorem r104_30 : xT d 104 30 (ls) (.ref 21 :: st) (hh f a g) Q ↔ xT d 104 33 (ls) (.ref 29 :: st) (hh f a g) Q := xT_getf (k := 41) (ci := 8) (fi := 23) (by decide +kernel) rfl rfl ⟨Nat.le_of_ble_eq_true rfl, Nat.le_of_ble_eq_true rfl⟩ (by decide +kernel) rfl
theorem r104_33 : xT d 104 33 (.ref ov :: ls) (st) h Q ↔ xT d 104 34 (.ref ov :: ls) (.ref ov :: st) h Q := xT_aload_n (k := 0) (by decide +kernel) rfl rfl
theorem r104_34 : xT d 104 34 (ls) (.ref 21 :: st) (hh f a g) Q ↔ xT d 104 37 (ls) (.int (xI (f 21 26)) :: st) (hh f a g) Q := xT_getf (k := 89) (ci := 8) (fi := 26) (by decide +kernel) rfl rfl ⟨Nat.le_of_ble_eq_true rfl, Nat.le_of_ble_eq_true rfl⟩ (by decide +kernel) rfl
theorem r104_37 : xT d 104 37 (.ref ov :: ls) (st) h Q ↔ xT d 104 38 (.ref ov :: ls) (.ref ov :: st) h Q := xT_aload_n (k := 0) (by decide +kernel) rfl rfl
theorem r104_38 : xT d 104 38 (ls) (.ref 21 :: st) (hh f a g) Q ↔ xT d 104 41 (ls) (.ref 29 :: st) (hh f a g) Q := xT_getf (k := 41) (ci := 8) (fi := 23) (by decide +kernel) rfl rfl ⟨Nat.le_of_ble_eq_true rfl, Nat.le_of_ble_eq_true rfl⟩ (by decide +kernel) rfl
theorem r104_41 : xT d 104 41 (.ref ov :: ls) (st) h Q ↔ xT d 104 42 (.ref ov :: ls) (.ref ov :: st) h Q := xT_aload_n (k := 0) (by decide +kernel) rfl rfl
theorem r104_42 : xT d 104 42 (ls) (.ref 21 :: st) (hh f a g) Q ↔ xT d 104 45 (ls) (.int (xI (f 21 26)) :: st) (hh f a g) Q := xT_getf (k := 89) (ci := 8) (fi := 26) (by decide +kernel) rfl rfl ⟨Nat.le_of_ble_eq_true rfl, Nat.le_of_ble_eq_true rfl⟩ (by decide +kernel) rfl
theorem r104_45 (x0 : 0 ≤ x) (x1 : x < 126) : xT d 104 45 (ls) (.int (xI x) :: .ref 29 :: st) (hh f a g) Q ↔ xT d 104 46 (ls) (.int (xI (a 29 x)) :: st) (hh f a g) Q := xT_iaload (N := 126) (by decide +kernel) rfl rfl (Nat.le_of_ble_eq_true rfl) x0 x1 (Nat.le_of_ble_eq_true rfl)
theorem r104_46 : xT d 104 46 (ls) (st) h Q ↔ xT d 104 47 (ls) (.int (xI 1) :: st) h Q := xT_iconst (n := 1) (by decide +kernel) rfl
theorem r104_47 : xT d 104 47 (ls) (.int (xI y) :: .int (xI x) :: st) h Q ↔ xT d 104 48 (ls) (.int (xI (x + y)) :: st) h Q := xT_iadd (by decide +kernel) rfl
theorem r104_48 (x0 : 0 ≤ x) (x1 : x < 126) : xT d 104 48 (ls) (.int (xI y) :: .int (xI x) :: .ref 29 :: st) (hh f a g) Q ↔ xT d 104 49 (ls) (st) (hh f (xw a 29 x y) g) Q := xT_iastore (N := 126) (by decide +kernel) rfl rfl ⟨Nat.le_of_ble_eq_true rfl, Nat.le_of_ble_eq_true rfl⟩ x0 x1 (Nat.le_of_ble_eq_true rfl)
theorem r104_49 : xT d 104 49 (.ref ov :: ls) (st) h Q ↔ xT d 104 50 (.ref ov :: ls) (.ref ov :: st) h Q := xT_aload_n (k := 0) (by decide +kernel) rfl rfl
theorem r104_50 : xT d 104 50 (ls) (.ref 21 :: st) (hh f a g) Q ↔ xT d 104 53 (ls) (.ref 29 :: st) (hh f a g) Q := xT_getf (k := 41) (ci := 8) (fi := 23) (by decide +kernel) rfl rfl ⟨Nat.le_of_ble_eq_true rfl, Nat.le_of_ble_eq_true rfl⟩ (by decide +kernel) rfl
theorem r104_53 : xT d 104 53 (.ref ov :: ls) (st) h Q ↔ xT d 104 54 (.ref ov :: ls) (.ref ov :: st) h Q := xT_aload_n (k := 0) (by decide +kernel) rfl rfl
theorem r104_54 : xT d 104 54 (ls) (.ref 21 :: st) (hh f a g) Q ↔ xT d 104 57 (ls) (.int (xI (f 21 26)) :: st) (hh f a g) Q := xT_getf (k := 89) (ci := 8) (fi := 26) (by decide +kernel) rfl rfl ⟨Nat.le_of_ble_eq_true rfl, Nat.le_of_ble_eq_true rfl⟩ (by decide +kernel) rfl
theorem r104_57 (x0 : 0 ≤ x) (x1 : x < 126) : xT d 104 57 (ls) (.int (xI x) :: .ref 29 :: st) (hh f a g) Q ↔ xT d 104 58 (ls) (.int (xI (a 29 x)) :: st) (hh f a g) Q := xT_iaload (N := 126) (by decide +kernel) rfl rfl (Nat.le_of_ble_eq_true rfl) x0 x1 (Nat.le_of_ble_eq_true rfl)
theorem r104_58 : xT d 104 58 (ls) (st) h Q ↔ xT d 104 60 (ls) (.int (xI 16) :: st) h Q := xT_bipush (n := 16) (by decide +kernel) rfl (by decide +kernel)
theorem r104_60 (x0 : -2147483648 ≤ x) (x1 : x ≤ 2147483647) (y0 : -2147483648 ≤ y) (y1 : y ≤ 2147483647) : xT d 104 60 (ls) (.int (xI y) :: .int (xI x) :: st) h Q ↔ (x = y → xT d 104 63 (ls) (st) h Q) ∧ (¬ x = y → xT d 104 94 (ls) (st) h Q) := xT_icne (off := 34) (by decide +kernel) rfl rfl x0 x1 y0 y1
theorem r104_63 : xT d 104 63 (.ref ov :: ls) (st) h Q ↔ xT d 104 64 (.ref ov :: ls) (.ref ov :: st) h Q := xT_aload_n (k := 0) (by decide +kernel) rfl rfl
theorem r104_64 : xT d 104 64 (ls) (.ref 21 :: st) (hh f a g) Q ↔ xT d 104 67 (ls) (.ref 29 :: st) (hh f a g) Q := xT_getf (k := 41) (ci := 8) (fi := 23) (by decide +kernel) rfl rfl ⟨Nat.le_of_ble_eq_true rfl, Nat.le_of_ble_eq_true rfl⟩ (by decide +kernel) rfl
theorem r104_67 : xT d 104 67 (.ref ov :: ls) (st) h Q ↔ xT d 104 68 (.ref ov :: ls) (.ref ov :: st) h Q := xT_aload_n (k := 0) (by decide +kernel) rfl rfl
theorem r104_68 : xT d 104 68 (ls) (.ref 21 :: st) (hh f a g) Q ↔ xT d 104 71 (ls) (.int (xI (f 21 26)) :: st) (hh f a g) Q := xT_getf (k := 89) (ci := 8) (fi := 26) (by decide +kernel) rfl rfl ⟨Nat.le_of_ble_eq_true rfl, Nat.le_of_ble_eq_true rfl⟩ (by decide +kernel) rfl
theorem r104_71 : xT d 104 71 (ls) (st) h Q ↔ xT d 104 73 (ls) (.int (xI 8) :: st) h Q := xT_bipush (n := 8) (by decide +kernel) rfl (by decide +kernel)
theorem r104_73 (x0 : 0 ≤ x) (x1 : x < 126) : xT d 104 73 (ls) (.int (xI y) :: .int (xI x) :: .ref 29 :: st) (hh f a g) Q ↔ xT d 104 74 (ls) (st) (hh f (xw a 29 x y) g) Q := xT_iastore (N := 126) (by decide +kernel) rfl rfl ⟨Nat.le_of_ble_eq_true rfl, Nat.le_of_ble_eq_true rfl⟩ x0 x1 (Nat.le_of_ble_eq_true rfl)
theorem r104_74 : xT d 104 74 (.ref ov :: ls) (st) h Q ↔ xT d 104 75 (.ref ov :: ls) (.ref ov :: st) h Q := xT_aload_n (k := 0) (by decide +kernel) rfl rfl
theorem r104_75 : xT d 104 75 (ls) (.ref 21 :: st) (hh f a g) Q ↔ xT d 104 78 (ls) (.ref 28 :: st) (hh f a g) Q := xT_getf (k := 38) (ci := 8) (fi := 22) (by decide +kernel) rfl rfl ⟨Nat.le_of_ble_eq_true rfl, Nat.le_of_ble_eq_true rfl⟩ (by decide +kernel) rfl
theorem r104_78 : xT d 104 78 (.ref ov :: ls) (st) h Q ↔ xT d 104 79 (.ref ov :: ls) (.ref ov :: st) h Q := xT_aload_n (k := 0) (by decide +kernel) rfl rfl
theorem r104_79 : xT d 104 79 (ls) (.ref 21 :: st) (hh f a g) Q ↔ xT d 104 82 (ls) (.int (xI (f 21 26)) :: st) (hh f a g) Q := xT_getf (k := 89) (ci := 8) (fi := 26) (by decide +kernel) rfl rfl ⟨Nat.le_of_ble_eq_true rfl, Nat.le_of_ble_eq_true rfl⟩ (by decide +kernel) rfl
theorem r104_82 : xT d 104 82 (.ref ov :: ls) (st) h Q ↔ xT d 104 83 (.ref ov :: ls) (.ref ov :: st) h Q := xT_aload_n (k := 0) (by decide +kernel) rfl rfl
theorem r104_83 : xT d 104 83 (ls) (.ref 21 :: st) (hh f a g) Q ↔ xT d 104 86 (ls) (.ref 28 :: st) (hh f a g) Q := xT_getf (k := 38) (ci := 8) (fi := 22) (by decide +kernel) rfl rfl ⟨Nat.le_of_ble_eq_true rfl, Nat.le_of_ble_eq_true rfl⟩ (by decide +kernel) rfl
theorem r104_86 : xT d 104 86 (.ref ov :: ls) (st) h Q ↔ xT d 104 87 (.ref ov :: ls) (.ref ov :: st) h Q := xT_aload_n (k := 0) (by decide +kernel) rfl rfl
theorem r104_87 : xT d 104 87 (ls) (.ref 21 :: st) (hh f a g) Q ↔ xT d 104 90 (ls) (.int (xI (f 21 26)) :: st) (hh f a g) Q := xT_getf (k := 89) (ci := 8) (fi := 26) (by decide +kernel) rfl rfl ⟨Nat.le_of_ble_eq_true rfl, Nat.le_of_ble_eq_true rfl⟩ (by decide +kernel) rfl
theorem r104_90 (x0 : 0 ≤ x) (x1 : x < 126) : xT d 104 90 (ls) (.int (xI x) :: .ref 28 :: st) (hh f a g) Q ↔ xT d 104 91 (ls) (.int (xI (a 28 x)) :: st) (hh f a g) Q := xT_iaload (N := 126) (by decide +kernel) rfl rfl (Nat.le_of_ble_eq_true rfl) x0 x1 (Nat.le_of_ble_eq_true rfl)
theorem r104_91 : xT d 104 91 (ls) (st) h Q ↔ xT d 104 92 (ls) (.int (xI 2) :: st) h Q := xT_iconst (n := 2) (by decide +kernel) rfl
theorem r104_92 (x0 : 0 ≤ x) (x1 : x ≤ 2147483647) (y0 : 0 < y) (y1 : y ≤ 2147483647) : xT d 104 92 (ls) (.int (xI y) :: .int (xI x) :: st) h Q ↔ xT d 104 93 (ls) (.int (xI (x / y)) :: st) h Q := xT_idiv (by decide +kernel) rfl x0 x1 y0 y1
theorem r104_92_t (x0 : -2147483648 < x) (x1 : x ≤ 2147483647) (y0 : 0 < y) (y1 : y ≤ 2147483647) : xT d 104 92 (ls) (.int (xI y) :: .int (xI x) :: st) h Q ↔ xT d 104 93 (ls) (.int (xI (x.tdiv y)) :: st) h Q := xT_tdiv (by decide +kernel) rfl x0 x1 y0 y1
theorem r104_93 (x0 : 0 ≤ x) (x1 : x < 126) : xT d 104 93 (ls) (.int (xI y) :: .int (xI x) :: .ref 28 :: st) (hh f a g) Q ↔ xT d 104 94 (ls) (st) (hh f (xw a 28 x y) g) Q := xT_iastore (N := 126) (by decide +kernel) rfl rfl ⟨Nat.le_of_ble_eq_true rfl, Nat.le_of_ble_eq_true rfl⟩ x0 x1 (Nat.le_of_ble_eq_true rfl)
theorem r104_94 : xT d 104 94 (ls) ([]) h Q ↔ Q (h, .returned none) := xT_return (by decide +kernel) rfl
theorem e104 {z0 : Nat} {z1 : Int32} : xTC d 104 [.ref z0, .int z1] h Q ↔ xT d 104 0 [.ref z0, .int z1] [] h Q := Iff.rfl
-- M_near
theorem r105_0 : xT d 105 0 (.int v :: ls) (st) h Q ↔ xT d 105 1 (.int v :: ls) (.int v :: st) h Q := xT_iload_n (k := 0) (by decide +kernel) rfl rfl
theorem r105_1 : xT d 105 1 (l0 :: .int v :: ls) (st) h Q ↔ xT d 105 2 (l0 :: .int v :: ls) (.int v :: st) h Q := xT_iload_n (k := 1) (by decide +kernel) rfl rfl
theorem r105_2 (x0 : 0 ≤ x) (x1 : x ≤ 2147483647) (y0 : 0 < y) (y1 : y ≤ 2147483647) : xT d 105 2 (ls) (.int (xI y) :: .int (xI x) :: st) h Q ↔ xT d 105 3 (ls) (.int (xI (x % y)) :: st) h Q := xT_irem (by decide +kernel) rfl x0 x1 y0 y1
theorem r105_2_t (x0 : -2147483648 < x) (x1 : x ≤ 2147483647) (y0 : 0 < y) (y1 : y ≤ 2147483647) : xT d 105 2 (ls) (.int (xI y) :: .int (xI x) :: st) h Q ↔ xT d 105 3 (ls) (.int (xI (x.tmod y)) :: st) h Q := xT_tmod (by decide +kernel) rfl x0 x1 y0 y1
theorem r105_3 : xT d 105 3 (l0 :: .int v :: ls) (st) h Q ↔ xT d 105 4 (l0 :: .int v :: ls) (.int v :: st) h Q := xT_iload_n (k := 1) (by decide +kernel) rfl rfl
theorem r105_4 : xT d 105 4 (ls) (.int (xI y) :: .int (xI x) :: st) h Q ↔ xT d 105 5 (ls) (.int (xI (x + y)) :: st) h Q := xT_iadd (by decide +kernel) rfl
theorem r105_5 : xT d 105 5 (l0 :: .int v :: ls) (st) h Q ↔ xT d 105 6 (l0 :: .int v :: ls) (.int v :: st) h Q := xT_iload_n (k := 1) (by decide +kernel) rfl rfl
theorem r105_6 (x0 : 0 ≤ x) (x1 : x ≤ 2147483647) (y0 : 0 < y) (y1 : y ≤ 2147483647) : xT d 105 6 (ls) (.int (xI y) :: .int (xI x) :: st) h Q ↔ xT d 105 7 (ls) (.int (xI (x % y)) :: st) h Q := xT_irem (by decide +kernel) rfl x0 x1 y0 y1
theorem r105_6_t (x0 : -2147483648 < x) (x1 : x ≤ 2147483647) (y0 : 0 < y) (y1 : y ≤ 2147483647) : xT d 105 6 (ls) (.int (xI y) :: .int (xI x) :: st) h Q ↔ xT d 105 7 (ls) (.int (xI (x.tmod y)) :: st) h Q := xT_tmod (by decide +kernel) rfl x0 x1 y0 y1
theorem r105_7 : xT d 105 7 ([l0, .int w, l2]) (.int v :: st) h Q ↔ xT d 105 8 ([l0, .int w, .int v]) (st) h Q := xT_istore_n (k := 2) (by decide +kernel) rfl (Nat.le_of_ble_eq_true rfl) rfl
theorem r105_8 : xT d 105 8 (l0 :: l1 :: .int v :: ls) (st) h Q ↔ xT d 105 9 (l0 :: l1 :: .int v :: ls) (.int v :: st) h Q := xT_iload_n (k := 2) (by decide +kernel) rfl rfl
theorem r105_9 : xT d 105 9 (l0 :: .int v :: ls) (st) h Q ↔ xT d 105 10 (l0 :: .int v :: ls) (.int v :: st) h Q := xT_iload_n (k := 1) (by decide +kernel) rfl rfl
theorem r105_10 : xT d 105 10 (ls) (st) h Q ↔ xT d 105 11 (ls) (.int (xI 2) :: st) h Q := xT_iconst (n := 2) (by decide +kernel) rfl
theorem r105_11 (x0 : 0 ≤ x) (x1 : x ≤ 2147483647) (y0 : 0 < y) (y1 : y ≤ 2147483647) : xT d 105 11 (ls) (.int (xI y) :: .int (xI x) :: st) h Q ↔ xT d 105 12 (ls) (.int (xI (x / y)) :: st) h Q := xT_idiv (by decide +kernel) rfl x0 x1 y0 y1
theorem r105_11_t (x0 : -2147483648 < x) (x1 : x ≤ 2147483647) (y0 : 0 < y) (y1 : y ≤ 2147483647) : xT d 105 11 (ls) (.int (xI y) :: .int (xI x) :: st) h Q ↔ xT d 105 12 (ls) (.int (xI (x.tdiv y)) :: st) h Q := xT_tdiv (by decide +kernel) rfl x0 x1 y0 y1
theorem r105_12 (x0 : -2147483648 ≤ x) (x1 : x ≤ 2147483647) (y0 : -2147483648 ≤ y) (y1 : y ≤ 2147483647) : xT d 105 12 (ls) (.int (xI y) :: .int (xI x) :: st) h Q ↔ (x < y → xT d 105 21 (ls) (st) h Q) ∧ (¬ x < y → xT d 105 15 (ls) (st) h Q) := xT_iclt (off := 9) (by decide +kernel) rfl rfl x0 x1 y0 y1
theorem r105_15 : xT d 105 15 (l0 :: l1 :: .int v :: ls) (st) h Q ↔ xT d 105 16 (l0 :: l1 :: .int v :: ls) (.int v :: st) h Q := xT_iload_n (k := 2) (by decide +kernel) rfl rfl
theorem r105_16 : xT d 105 16 (l0 :: .int v :: ls) (st) h Q ↔ xT d 105 17 (l0 :: .int v :: ls) (.int v :: st) h Q := xT_iload_n (k := 1) (by decide +kernel) rfl rfl
theorem r105_17 : xT d 105 17 (ls) (.int (xI y) :: .int (xI x) :: st) h Q ↔ xT d 105 18 (ls) (.int (xI (x - y)) :: st) h Q := xT_isub (by decide +kernel) rfl
theorem r105_18 : xT d 105 18 (ls) (st) h Q ↔ xT d 105 22 (ls) (st) h Q := xT_goto (off := 4) (by decide +kernel) rfl
theorem r105_21 : xT d 105 21 (l0 :: l1 :: .int v :: ls) (st) h Q ↔ xT d 105 22 (l0 :: l1 :: .int v :: ls) (.int v :: st) h Q := xT_iload_n (k := 2) (by decide +kernel) rfl rfl
theorem r105_22 : xT d 105 22 (ls) ([.int (xI x)]) h Q ↔ Q (h, .returned (some (.int (xI x)))) := xT_ireturn (by decide +kernel) rfl
theorem e105 {z0 : Int32} {z1 : Int32} : xTC d 105 [.int z0, .int z1] h Q ↔ xT d 105 0 [.int z0, .int z1, .null] [] h Q := Iff.rfl
-- M_putBit
theorem r106_0 : xT d 106 0 (.ref ov :: ls) (st) h Q ↔ xT d 106 1 (.ref ov :: ls) (.ref ov :: st) h Q := xT_aload_n (k := 0) (by decide +kernel) rfl rfl
theorem r106_1 : xT d 106 1 (ls) (.ref 21 :: st) (hh f a g) Q ↔ xT d 106 4 (ls) (.int (xI (f 21 30)) :: st) (hh f a g) Q := xT_getf (k := 92) (ci := 8) (fi := 30) (by decide +kernel) rfl rfl ⟨Nat.le_of_ble_eq_true rfl, Nat.le_of_ble_eq_true rfl⟩ (by decide +kernel) rfl
theorem r106_4 : xT d 106 4 (ls) (st) h Q ↔ xT d 106 6 (ls) (.int (xI 8) :: st) h Q := xT_bipush (n := 8) (by decide +kernel) rfl (by decide +kernel)
theorem r106_6 (x0 : 0 ≤ x) (x1 : x ≤ 2147483647) (y0 : 0 < y) (y1 : y ≤ 2147483647) : xT d 106 6 (ls) (.int (xI y) :: .int (xI x) :: st) h Q ↔ xT d 106 7 (ls) (.int (xI (x % y)) :: st) h Q := xT_irem (by decide +kernel) rfl x0 x1 y0 y1
theorem r106_6_t (x0 : -2147483648 < x) (x1 : x ≤ 2147483647) (y0 : 0 < y) (y1 : y ≤ 2147483647) : xT d 106 6 (ls) (.int (xI y) :: .int (xI x) :: st) h Q ↔ xT d 106 7 (ls) (.int (xI (x.tmod y)) :: st) h Q := xT_tmod (by decide +kernel) rfl x0 x1 y0 y1
theorem r106_7 (x0 : -2147483648 ≤ x) (x1 : x ≤ 2147483647) : xT d 106 7 (ls) (.int (xI x) :: st) h Q ↔ (x = 0 → xT d 106 10 (ls) (st) h Q) ∧ (¬ x = 0 → xT d 106 30 (ls) (st) h Q) := xT_ifne (off := 23) (by decide +kernel) rfl rfl x0 x1
theorem r106_10 : xT d 106 10 (.ref ov :: ls) (st) h Q ↔ xT d 106 11 (.ref ov :: ls) (.ref ov :: st) h Q := xT_aload_n (k := 0) (by decide +kernel) rfl rfl
theorem r106_11 : xT d 106 11 (ls) (.ref 21 :: st) (hh f a g) Q ↔ xT d 106 14 (ls) (.ref 31 :: st) (hh f a g) Q := xT_getf (k := 47) (ci := 8) (fi := 28) (by decide +kernel) rfl rfl ⟨Nat.le_of_ble_eq_true rfl, Nat.le_of_ble_eq_true rfl⟩ (by decide +kernel) rfl
theorem r106_14 : xT d 106 14 (.ref ov :: ls) (st) h Q ↔ xT d 106 15 (.ref ov :: ls) (.ref ov :: st) h Q := xT_aload_n (k := 0) (by decide +kernel) rfl rfl
theorem r106_15 : xT d 106 15 (ls) (.ref 21 :: st) (hh f a g) Q ↔ xT d 106 18 (ls) (.int (xI (f 21 29)) :: st) (hh f a g) Q := xT_getf (k := 95) (ci := 8) (fi := 29) (by decide +kernel) rfl rfl ⟨Nat.le_of_ble_eq_true rfl, Nat.le_of_ble_eq_true rfl⟩ (by decide +kernel) rfl
theorem r106_18 : xT d 106 18 (ls) (st) h Q ↔ xT d 106 19 (ls) (.int (xI 0) :: st) h Q := xT_iconst (n := 0) (by decide +kernel) rfl
theorem r106_19 (x0 : 0 ≤ x) (x1 : x < 1400) : xT d 106 19 (ls) (.int (xI y) :: .int (xI x) :: .ref 31 :: st) (hh f a g) Q ↔ xT d 106 20 (ls) (st) (hh f (xw a 31 x y) g) Q := xT_iastore (N := 1400) (by decide +kernel) rfl rfl ⟨Nat.le_of_ble_eq_true rfl, Nat.le_of_ble_eq_true rfl⟩ x0 x1 (Nat.le_of_ble_eq_true rfl)
theorem r106_20 : xT d 106 20 (.ref ov :: ls) (st) h Q ↔ xT d 106 21 (.ref ov :: ls) (.ref ov :: st) h Q := xT_aload_n (k := 0) (by decide +kernel) rfl rfl
theorem r106_21 : xT d 106 21 (ls) (.ref ow :: st) h Q ↔ xT d 106 22 (ls) (.ref ow :: .ref ow :: st) h Q := xT_dup (by decide +kernel) rfl rfl
theorem r106_22 : xT d 106 22 (ls) (.ref 21 :: st) (hh f a g) Q ↔ xT d 106 25 (ls) (.int (xI (f 21 29)) :: st) (hh f a g) Q := xT_getf (k := 95) (ci := 8) (fi := 29) (by decide +kernel) rfl rfl ⟨Nat.le_of_ble_eq_true rfl, Nat.le_of_ble_eq_true rfl⟩ (by decide +kernel) rfl
theorem r106_25 : xT d 106 25 (ls) (st) h Q ↔ xT d 106 26 (ls) (.int (xI 1) :: st) h Q := xT_iconst (n := 1) (by decide +kernel) rfl
theorem r106_26 : xT d 106 26 (ls) (.int (xI y) :: .int (xI x) :: st) h Q ↔ xT d 106 27 (ls) (.int (xI (x + y)) :: st) h Q := xT_iadd (by decide +kernel) rfl
theorem r106_27 : xT d 106 27 (ls) (.int (xI x) :: .ref 21 :: st) (hh f a g) Q ↔ xT d 106 30 (ls) (st) (hh (xu f 21 29 x) a g) Q := xT_putf (k := 95) (ci := 8) (fi := 29) (by decide +kernel) rfl rfl ⟨Nat.le_of_ble_eq_true rfl, Nat.le_of_ble_eq_true rfl⟩ (by decide +kernel) (by decide +kernel) (by decide +kernel) rfl
theorem r106_30 : xT d 106 30 (.ref ov :: ls) (st) h Q ↔ xT d 106 31 (.ref ov :: ls) (.ref ov :: st) h Q := xT_aload_n (k := 0) (by decide +kernel) rfl rfl
theorem r106_31 : xT d 106 31 (ls) (.ref 21 :: st) (hh f a g) Q ↔ xT d 106 34 (ls) (.ref 31 :: st) (hh f a g) Q := xT_getf (k := 47) (ci := 8) (fi := 28) (by decide +kernel) rfl rfl ⟨Nat.le_of_ble_eq_true rfl, Nat.le_of_ble_eq_true rfl⟩ (by decide +kernel) rfl
theorem r106_34 : xT d 106 34 (.ref ov :: ls) (st) h Q ↔ xT d 106 35 (.ref ov :: ls) (.ref ov :: st) h Q := xT_aload_n (k := 0) (by decide +kernel) rfl rfl
theorem r106_35 : xT d 106 35 (ls) (.ref 21 :: st) (hh f a g) Q ↔ xT d 106 38 (ls) (.int (xI (f 21 29)) :: st) (hh f a g) Q := xT_getf (k := 95) (ci := 8) (fi := 29) (by decide +kernel) rfl rfl ⟨Nat.le_of_ble_eq_true rfl, Nat.le_of_ble_eq_true rfl⟩ (by decide +kernel) rfl
theorem r106_38 : xT d 106 38 (ls) (st) h Q ↔ xT d 106 39 (ls) (.int (xI 1) :: st) h Q := xT_iconst (n := 1) (by decide +kernel) rfl
theorem r106_39 : xT d 106 39 (ls) (.int (xI y) :: .int (xI x) :: st) h Q ↔ xT d 106 40 (ls) (.int (xI (x - y)) :: st) h Q := xT_isub (by decide +kernel) rfl
theorem r106_40 : xT d 106 40 (.ref ov :: ls) (st) h Q ↔ xT d 106 41 (.ref ov :: ls) (.ref ov :: st) h Q := xT_aload_n (k := 0) (by decide +kernel) rfl rfl
theorem r106_41 : xT d 106 41 (ls) (.ref 21 :: st) (hh f a g) Q ↔ xT d 106 44 (ls) (.ref 31 :: st) (hh f a g) Q := xT_getf (k := 47) (ci := 8) (fi := 28) (by decide +kernel) rfl rfl ⟨Nat.le_of_ble_eq_true rfl, Nat.le_of_ble_eq_true rfl⟩ (by decide +kernel) rfl
theorem r106_44 : xT d 106 44 (.ref ov :: ls) (st) h Q ↔ xT d 106 45 (.ref ov :: ls) (.ref ov :: st) h Q := xT_aload_n (k := 0) (by decide +kernel) rfl rfl
theorem r106_45 : xT d 106 45 (ls) (.ref 21 :: st) (hh f a g) Q ↔ xT d 106 48 (ls) (.int (xI (f 21 29)) :: st) (hh f a g) Q := xT_getf (k := 95) (ci := 8) (fi := 29) (by decide +kernel) rfl rfl ⟨Nat.le_of_ble_eq_true rfl, Nat.le_of_ble_eq_true rfl⟩ (by decide +kernel) rfl
theorem r106_48 : xT d 106 48 (ls) (st) h Q ↔ xT d 106 49 (ls) (.int (xI 1) :: st) h Q := xT_iconst (n := 1) (by decide +kernel) rfl
theorem r106_49 : xT d 106 49 (ls) (.int (xI y) :: .int (xI x) :: st) h Q ↔ xT d 106 50 (ls) (.int (xI (x - y)) :: st) h Q := xT_isub (by decide +kernel) rfl
theorem r106_50 (x0 : 0 ≤ x) (x1 : x < 1400) : xT d 106 50 (ls) (.int (xI x) :: .ref 31 :: st) (hh f a g) Q ↔ xT d 106 51 (ls) (.int (xI (a 31 x)) :: st) (hh f a g) Q := xT_iaload (N := 1400) (by decide +kernel) rfl rfl (Nat.le_of_ble_eq_true rfl) x0 x1 (Nat.le_of_ble_eq_true rfl)
theorem r106_51 : xT d 106 51 (l0 :: .int v :: ls) (st) h Q ↔ xT d 106 52 (l0 :: .int v :: ls) (.int v :: st) h Q := xT_iload_n (k := 1) (by decide +kernel) rfl rfl
theorem r106_52 : xT d 106 52 (ls) (st) h Q ↔ xT d 106 54 (ls) (.int (xI 7) :: st) h Q := xT_bipush (n := 7) (by decide +kernel) rfl (by decide +kernel)
theorem r106_54 : xT d 106 54 (.ref ov :: ls) (st) h Q ↔ xT d 106 55 (.ref ov :: ls) (.ref ov :: st) h Q := xT_aload_n (k := 0) (by decide +kernel) rfl rfl
theorem r106_55 : xT d 106 55 (ls) (.ref 21 :: st) (hh f a g) Q ↔ xT d 106 58 (ls) (.int (xI (f 21 30)) :: st) (hh f a g) Q := xT_getf (k := 92) (ci := 8) (fi := 30) (by decide +kernel) rfl rfl ⟨Nat.le_of_ble_eq_true rfl, Nat.le_of_ble_eq_true rfl⟩ (by decide +kernel) rfl
theorem r106_58 : xT d 106 58 (ls) (st) h Q ↔ xT d 106 60 (ls) (.int (xI 8) :: st) h Q := xT_bipush (n := 8) (by decide +kernel) rfl (by decide +kernel)
theorem r106_60 (x0 : 0 ≤ x) (x1 : x ≤ 2147483647) (y0 : 0 < y) (y1 : y ≤ 2147483647) : xT d 106 60 (ls) (.int (xI y) :: .int (xI x) :: st) h Q ↔ xT d 106 61 (ls) (.int (xI (x % y)) :: st) h Q := xT_irem (by decide +kernel) rfl x0 x1 y0 y1
theorem r106_60_t (x0 : -2147483648 < x) (x1 : x ≤ 2147483647) (y0 : 0 < y) (y1 : y ≤ 2147483647) : xT d 106 60 (ls) (.int (xI y) :: .int (xI x) :: st) h Q ↔ xT d 106 61 (ls) (.int (xI (x.tmod y)) :: st) h Q := xT_tmod (by decide +kernel) rfl x0 x1 y0 y1
theorem r106_61 : xT d 106 61 (ls) (.int (xI y) :: .int (xI x) :: st) h Q ↔ xT d 106 62 (ls) (.int (xI (x - y)) :: st) h Q := xT_isub (by decide +kernel) rfl
theorem r106_62 (y0 : 0 ≤ y) (y1 : y ≤ 31) : xT d 106 62 (ls) (.int (xI y) :: .int (xI x) :: st) h Q ↔ xT d 106 63 (ls) (.int (xI (x * 2 ^ y.toNat)) :: st) h Q := xT_ishl (by decide +kernel) rfl y0 y1
theorem r106_63 : xT d 106 63 (ls) (.int (xI y) :: .int (xI x) :: st) h Q ↔ xT d 106 64 (ls) (.int (xI (xO x y)) :: st) h Q := xT_ior (by decide +kernel) rfl
theorem r106_64 (x0 : 0 ≤ x) (x1 : x < 1400) : xT d 106 64 (ls) (.int (xI y) :: .int (xI x) :: .ref 31 :: st) (hh f a g) Q ↔ xT d 106 65 (ls) (st) (hh f (xw a 31 x y) g) Q := xT_iastore (N := 1400) (by decide +kernel) rfl rfl ⟨Nat.le_of_ble_eq_true rfl, Nat.le_of_ble_eq_true rfl⟩ x0 x1 (Nat.le_of_ble_eq_true rfl)
theorem r106_65 : xT d 106 65 (.ref ov :: ls) (st) h Q ↔ xT d 106 66 (.ref ov :: ls) (.ref ov :: st) h Q := xT_aload_n (k := 0) (by decide +kernel) rfl rfl
theorem r106_66 : xT d 106 66 (ls) (.ref ow :: st) h Q ↔ xT d 106 67 (ls) (.ref ow :: .ref ow :: st) h Q := xT_dup (by decide +kernel) rfl rfl
theorem r106_67 : xT d 106 67 (ls) (.ref 21 :: st) (hh f a g) Q ↔ xT d 106 70 (ls) (.int (xI (f 21 30)) :: st) (hh f a g) Q := xT_getf (k := 92) (ci := 8) (fi := 30) (by decide +kernel) rfl rfl ⟨Nat.le_of_ble_eq_true rfl, Nat.le_of_ble_eq_true rfl⟩ (by decide +kernel) rfl
theorem r106_70 : xT d 106 70 (ls) (st) h Q ↔ xT d 106 71 (ls) (.int (xI 1) :: st) h Q := xT_iconst (n := 1) (by decide +kernel) rfl
theorem r106_71 : xT d 106 71 (ls) (.int (xI y) :: .int (xI x) :: st) h Q ↔ xT d 106 72 (ls) (.int (xI (x + y)) :: st) h Q := xT_iadd (by decide +kernel) rfl
theorem r106_72 : xT d 106 72 (ls) (.int (xI x) :: .ref 21 :: st) (hh f a g) Q ↔ xT d 106 75 (ls) (st) (hh (xu f 21 30 x) a g) Q := xT_putf (k := 92) (ci := 8) (fi := 30) (by decide +kernel) rfl rfl ⟨Nat.le_of_ble_eq_true rfl, Nat.le_of_ble_eq_true rfl⟩ (by decide +kernel) (by decide +kernel) (by decide +kernel) rfl
theorem r106_75 : xT d 106 75 (ls) ([]) h Q ↔ Q (h, .returned none) := xT_return (by decide +kernel) rfl
theorem e106 {z0 : Nat} {z1 : Int32} : xTC d 106 [.ref z0, .int z1] h Q ↔ xT d 106 0 [.ref z0, .int z1] [] h Q := Iff.rfl
-- M_putBits
theorem r108_0 : xT d 108 0 (l0 :: l1 :: .int v :: ls) (st) h Q ↔ xT d 108 1 (l0 :: l1 :: .int v :: ls) (.int v :: st) h Q := xT_iload_n (k := 2) (by decide +kernel) rfl rfl
theorem r108_1 : xT d 108 1 (ls) (st) h Q ↔ xT d 108 2 (ls) (.int (xI 1) :: st) h Q := xT_iconst (n := 1) (by decide +kernel) rfl
theorem r108_2 : xT d 108 2 (ls) (.int (xI y) :: .int (xI x) :: st) h Q ↔ xT d 108 3 (ls) (.int (xI (x - y)) :: st) h Q := xT_isub (by decide +kernel) rfl
theorem r108_3 : xT d 108 3 ([l0, l1, .int w, l3]) (.int v :: st) h Q ↔ xT d 108 4 ([l0, l1, .int w, .int v]) (st) h Q := xT_istore_n (k := 3) (by decide +kernel) rfl (Nat.le_of_ble_eq_true rfl) rfl
theorem r108_4 : xT d 108 4 (l0 :: l1 :: l2 :: .int v :: ls) (st) h Q ↔ xT d 108 5 (l0 :: l1 :: l2 :: .int v :: ls) (.int v :: st) h Q := xT_iload_n (k := 3) (by decide +kernel) rfl rfl
theorem r108_5 (x0 : -2147483648 ≤ x) (x1 : x ≤ 2147483647) : xT d 108 5 (ls) (.int (xI x) :: st) h Q ↔ (x < 0 → xT d 108 23 (ls) (st) h Q) ∧ (¬ x < 0 → xT d 108 8 (ls) (st) h Q) := xT_iflt (off := 18) (by decide +kernel) rfl rfl x0 x1
theorem r108_8 : xT d 108 8 (.ref ov :: ls) (st) h Q ↔ xT d 108 9 (.ref ov :: ls) (.ref ov :: st) h Q := xT_aload_n (k := 0) (by decide +kernel) rfl rfl
theorem r108_9 : xT d 108 9 (l0 :: .int v :: ls) (st) h Q ↔ xT d 108 10 (l0 :: .int v :: ls) (.int v :: st) h Q := xT_iload_n (k := 1) (by decide +kernel) rfl rfl
theorem r108_10 : xT d 108 10 (l0 :: l1 :: l2 :: .int v :: ls) (st) h Q ↔ xT d 108 11 (l0 :: l1 :: l2 :: .int v :: ls) (.int v :: st) h Q := xT_iload_n (k := 3) (by decide +kernel) rfl rfl
theorem r108_11 (y0 : 0 ≤ y) (y1 : y ≤ 31) (x0 : -2147483648 ≤ x) (x1 : x ≤ 2147483647) : xT d 108 11 (ls) (.int (xI y) :: .int (xI x) :: st) h Q ↔ xT d 108 12 (ls) (.int (xI (x / 2 ^ y.toNat)) :: st) h Q := xT_ishr (by decide +kernel) rfl y0 y1 x0 x1
theorem r108_12 : xT d 108 12 (ls) (st) h Q ↔ xT d 108 13 (ls) (.int (xI 1) :: st) h Q := xT_iconst (n := 1) (by decide +kernel) rfl
theorem r108_13 : xT d 108 13 (ls) (.int (xI y) :: .int (xI x) :: st) h Q ↔ xT d 108 14 (ls) (.int (xI (xA x y)) :: st) h Q := xT_iand (by decide +kernel) rfl
theorem r108_14 {z0 : Int32} (hd : 1 ≤ d) : xT d 108 14 (ls) ([.int z0, .ref 21]) (hh f a g) Q ↔ xTC (d - 1) 106 [.ref 21, .int z0] (hh f a g) (xAf d 108 14 (ls) [] Q) := xT_virtual (k := 98) (na := 1) (ci := 8) (by decide +kernel) (by decide +kernel) (by decide +kernel) ⟨Nat.le_of_ble_eq_true rfl, Nat.le_of_ble_eq_true rfl⟩ rfl rfl (Nat.le_of_ble_eq_true rfl) rfl rfl ⟨Nat.le_of_ble_eq_true rfl, Nat.le_of_ble_eq_true rfl⟩ (Nat.le_of_ble_eq_true rfl) hd
theorem r108_17 : xT d 108 17 ([l0, l1, .int w, .int (xI x)]) (st) h Q ↔ xT d 108 20 ([l0, l1, .int w, .int (xI (x + (-1)))]) (st) h Q := xT_iinc (k := 3) (by decide +kernel) rfl rfl rfl
theorem r108_20 : xT d 108 20 (ls) (st) h Q ↔ xT d 108 4 (ls) (st) h Q := xT_goto (off := (-16)) (by decide +kernel) rfl
theorem r108_23 : xT d 108 23 (ls) ([]) h Q ↔ Q (h, .returned none) := xT_return (by decide +kernel) rfl
theorem e108 {z0 : Nat} {z1 : Int32} {z2 : Int32} : xTC d 108 [.ref z0, .int z1, .int z2] h Q ↔ xT d 108 0 [.ref z0, .int z1, .int z2, .null] [] h Q := Iff.rfl
-- M_codeByBits
theorem r109_0 : xT d 109 0 (.ref ov :: ls) (st) h Q ↔ xT d 109 1 (.ref ov :: ls) (.ref ov :: st) h Q := xT_aload_n (k := 0) (by decide +kernel) rfl rfl
theorem r109_1 (hd : 1 ≤ d) : xT d 109 1 (ls) ([.ref 21]) (hh f a g) Q ↔ xTC (d - 1) 103 [.ref 21] (hh f a g) (xAf d 109 1 (ls) [] Q) := xT_virtual (k := 102) (na := 0) (ci := 8) (by decide +kernel) (by decide +kernel) (by decide +kernel) ⟨Nat.le_of_ble_eq_true rfl, Nat.le_of_ble_eq_true rfl⟩ rfl rfl (Nat.le_of_ble_eq_true rfl) rfl rfl ⟨Nat.le_of_ble_eq_true rfl, Nat.le_of_ble_eq_true rfl⟩ (Nat.le_of_ble_eq_true rfl) hd
theorem r109_4 : xT d 109 4 ([l0, .int w, l2, l3, l4]) (.int v :: st) h Q ↔ xT d 109 5 ([l0, .int w, .int v, l3, l4]) (st) h Q := xT_istore_n (k := 2) (by decide +kernel) rfl (Nat.le_of_ble_eq_true rfl) rfl
theorem r109_5 : xT d 109 5 (l0 :: .int v :: ls) (st) h Q ↔ xT d 109 6 (l0 :: .int v :: ls) (.int v :: st) h Q := xT_iload_n (k := 1) (by decide +kernel) rfl rfl
theorem r109_6 (x0 : -2147483648 ≤ x) (x1 : x ≤ 2147483647) : xT d 109 6 (ls) (.int (xI x) :: st) h Q ↔ (x < 0 → xT d 109 9 (ls) (st) h Q) ∧ (¬ x < 0 → xT d 109 18 (ls) (st) h Q) := xT_ifge (off := 12) (by decide +kernel) rfl rfl x0 x1
theorem r109_9 : xT d 109 9 (ls) (st) h Q ↔ xT d 109 11 (ls) (.int (xI (-2)) :: st) h Q := xT_bipush (n := (-2)) (by decide +kernel) rfl (by decide +kernel)
theorem r109_11 : xT d 109 11 (l0 :: .int v :: ls) (st) h Q ↔ xT d 109 12 (l0 :: .int v :: ls) (.int v :: st) h Q := xT_iload_n (k := 1) (by decide +kernel) rfl rfl
theorem r109_12 : xT d 109 12 (ls) (.int (xI y) :: .int (xI x) :: st) h Q ↔ xT d 109 13 (ls) (.int (xI (x * y)) :: st) h Q := xT_imul (by decide +kernel) rfl
theorem r109_13 : xT d 109 13 (ls) (st) h Q ↔ xT d 109 14 (ls) (.int (xI 1) :: st) h Q := xT_iconst (n := 1) (by decide +kernel) rfl
theorem r109_14 : xT d 109 14 (ls) (.int (xI y) :: .int (xI x) :: st) h Q ↔ xT d 109 15 (ls) (.int (xI (x - y)) :: st) h Q := xT_isub (by decide +kernel) rfl
theorem r109_15 : xT d 109 15 (ls) (st) h Q ↔ xT d 109 21 (ls) (st) h Q := xT_goto (off := 6) (by decide +kernel) rfl
theorem r109_18 : xT d 109 18 (ls) (st) h Q ↔ xT d 109 19 (ls) (.int (xI 2) :: st) h Q := xT_iconst (n := 2) (by decide +kernel) rfl
theorem r109_19 : xT d 109 19 (l0 :: .int v :: ls) (st) h Q ↔ xT d 109 20 (l0 :: .int v :: ls) (.int v :: st) h Q := xT_iload_n (k := 1) (by decide +kernel) rfl rfl
theorem r109_20 : xT d 109 20 (ls) (.int (xI y) :: .int (xI x) :: st) h Q ↔ xT d 109 21 (ls) (.int (xI (x * y)) :: st) h Q := xT_imul (by decide +kernel) rfl
theorem r109_21 : xT d 109 21 ([l0, l1, .int w, l3, l4]) (.int v :: st) h Q ↔ xT d 109 22 ([l0, l1, .int w, .int v, l4]) (st) h Q := xT_istore_n (k := 3) (by decide +kernel) rfl (Nat.le_of_ble_eq_true rfl) rfl
theorem r109_22 : xT d 109 22 (l0 :: l1 :: l2 :: .int v :: ls) (st) h Q ↔ xT d 109 23 (l0 :: l1 :: l2 :: .int v :: ls) (.int v :: st) h Q := xT_iload_n (k := 3) (by decide +kernel) rfl rfl
theorem r109_23 : xT d 109 23 (l0 :: l1 :: .int v :: ls) (st) h Q ↔ xT d 109 24 (l0 :: l1 :: .int v :: ls) (.int v :: st) h Q := xT_iload_n (k := 2) (by decide +kernel) rfl rfl
theorem r109_24 (y0 : 0 ≤ y) (y1 : y ≤ 31) (x0 : -2147483648 ≤ x) (x1 : x ≤ 2147483647) : xT d 109 24 (ls) (.int (xI y) :: .int (xI x) :: st) h Q ↔ xT d 109 25 (ls) (.int (xI (x / 2 ^ y.toNat)) :: st) h Q := xT_ishr (by decide +kernel) rfl y0 y1 x0 x1
theorem r109_25 : xT d 109 25 ([l0, l1, l2, .int w, l4]) (.int v :: st) h Q ↔ xT d 109 27 ([l0, l1, l2, .int w, .int v]) (st) h Q := xT_istore (k := 4) (by decide +kernel) rfl (Nat.le_of_ble_eq_true rfl) rfl
theorem r109_27 : xT d 109 27 (.ref ov :: ls) (st) h Q ↔ xT d 109 28 (.ref ov :: ls) (.ref ov :: st) h Q := xT_aload_n (k := 0) (by decide +kernel) rfl rfl
theorem r109_28 : xT d 109 28 (ls) (st) h Q ↔ xT d 109 29 (ls) (.int (xI 0) :: st) h Q := xT_iconst (n := 0) (by decide +kernel) rfl
theorem r109_29 : xT d 109 29 (l0 :: l1 :: l2 :: l3 :: .int v :: ls) (st) h Q ↔ xT d 109 31 (l0 :: l1 :: l2 :: l3 :: .int v :: ls) (.int v :: st) h Q := xT_iload (k := 4) (by decide +kernel) rfl rfl
theorem r109_31 : xT d 109 31 (ls) (st) h Q ↔ xT d 109 33 (ls) (.int (xI 12) :: st) h Q := xT_bipush (n := 12) (by decide +kernel) rfl (by decide +kernel)
theorem r109_33 (x0 : -2147483648 ≤ x) (x1 : x ≤ 2147483647) (y0 : -2147483648 ≤ y) (y1 : y ≤ 2147483647) : xT d 109 33 (ls) (.int (xI y) :: .int (xI x) :: st) h Q ↔ (x < y → xT d 109 36 (ls) (st) h Q) ∧ (¬ x < y → xT d 109 41 (ls) (st) h Q) := xT_icge (off := 8) (by decide +kernel) rfl rfl x0 x1 y0 y1
theorem r109_36 : xT d 109 36 (l0 :: l1 :: l2 :: l3 :: .int v :: ls) (st) h Q ↔ xT d 109 38 (l0 :: l1 :: l2 :: l3 :: .int v :: ls) (.int v :: st) h Q := xT_iload (k := 4) (by decide +kernel) rfl rfl
theorem r109_38 : xT d 109 38 (ls) (st) h Q ↔ xT d 109 43 (ls) (st) h Q := xT_goto (off := 5) (by decide +kernel) rfl
theorem r109_41 : xT d 109 41 (ls) (st) h Q ↔ xT d 109 43 (ls) (.int (xI 12) :: st) h Q := xT_bipush (n := 12) (by decide +kernel) rfl (by decide +kernel)
theorem r109_43 {z0 : Int32} {z1 : Int32} (hd : 1 ≤ d) : xT d 109 43 (ls) ([.int z0, .int z1, .ref 21]) (hh f a g) Q ↔ xTC (d - 1) 108 [.ref 21, .int z1, .int z0] (hh f a g) (xAf d 109 43 (ls) [] Q) := xT_virtual (k := 106) (na := 2) (ci := 8) (by decide +kernel) (by decide +kernel) (by decide +kernel) ⟨Nat.le_of_ble_eq_true rfl, Nat.le_of_ble_eq_true rfl⟩ rfl rfl (Nat.le_of_ble_eq_true rfl) rfl rfl ⟨Nat.le_of_ble_eq_true rfl, Nat.le_of_ble_eq_true rfl⟩ (Nat.le_of_ble_eq_true rfl) hd
theorem r109_46 : xT d 109 46 (l0 :: l1 :: l2 :: l3 :: .int v :: ls) (st) h Q ↔ xT d 109 48 (l0 :: l1 :: l2 :: l3 :: .int v :: ls) (.int v :: st) h Q := xT_iload (k := 4) (by decide +kernel) rfl rfl
theorem r109_48 : xT d 109 48 (ls) (st) h Q ↔ xT d 109 50 (ls) (.int (xI 12) :: st) h Q := xT_bipush (n := 12) (by decide +kernel) rfl (by decide +kernel)
theorem r109_50 (x0 : -2147483648 ≤ x) (x1 : x ≤ 2147483647) (y0 : -2147483648 ≤ y) (y1 : y ≤ 2147483647) : xT d 109 50 (ls) (.int (xI y) :: .int (xI x) :: st) h Q ↔ (x < y → xT d 109 53 (ls) (st) h Q) ∧ (¬ x < y → xT d 109 58 (ls) (st) h Q) := xT_icge (off := 8) (by decide +kernel) rfl rfl x0 x1 y0 y1
theorem r109_53 : xT d 109 53 (.ref ov :: ls) (st) h Q ↔ xT d 109 54 (.ref ov :: ls) (.ref ov :: st) h Q := xT_aload_n (k := 0) (by decide +kernel) rfl rfl
theorem r109_54 : xT d 109 54 (ls) (st) h Q ↔ xT d 109 55 (ls) (.int (xI 1) :: st) h Q := xT_iconst (n := 1) (by decide +kernel) rfl
theorem r109_55 {z0 : Int32} (hd : 1 ≤ d) : xT d 109 55 (ls) ([.int z0, .ref 21]) (hh f a g) Q ↔ xTC (d - 1) 106 [.ref 21, .int z0] (hh f a g) (xAf d 109 55 (ls) [] Q) := xT_virtual (k := 98) (na := 1) (ci := 8) (by decide +kernel) (by decide +kernel) (by decide +kernel) ⟨Nat.le_of_ble_eq_true rfl, Nat.le_of_ble_eq_true rfl⟩ rfl rfl (Nat.le_of_ble_eq_true rfl) rfl rfl ⟨Nat.le_of_ble_eq_true rfl, Nat.le_of_ble_eq_true rfl⟩ (Nat.le_of_ble_eq_true rfl) hd
theorem r109_58 : xT d 109 58 (.ref ov :: ls) (st) h Q ↔ xT d 109 59 (.ref ov :: ls) (.ref ov :: st) h Q := xT_aload_n (k := 0) (by decide +kernel) rfl rfl
theorem r109_59 : xT d 109 59 (l0 :: l1 :: l2 :: .int v :: ls) (st) h Q ↔ xT d 109 60 (l0 :: l1 :: l2 :: .int v :: ls) (.int v :: st) h Q := xT_iload_n (k := 3) (by decide +kernel) rfl rfl
theorem r109_60 : xT d 109 60 (l0 :: l1 :: l2 :: l3 :: .int v :: ls) (st) h Q ↔ xT d 109 62 (l0 :: l1 :: l2 :: l3 :: .int v :: ls) (.int v :: st) h Q := xT_iload (k := 4) (by decide +kernel) rfl rfl
theorem r109_62 : xT d 109 62 (ls) (st) h Q ↔ xT d 109 64 (ls) (.int (xI 12) :: st) h Q := xT_bipush (n := 12) (by decide +kernel) rfl (by decide +kernel)
theorem r109_64 (x0 : -2147483648 ≤ x) (x1 : x ≤ 2147483647) (y0 : -2147483648 ≤ y) (y1 : y ≤ 2147483647) : xT d 109 64 (ls) (.int (xI y) :: .int (xI x) :: st) h Q ↔ (x < y → xT d 109 67 (ls) (st) h Q) ∧ (¬ x < y → xT d 109 71 (ls) (st) h Q) := xT_icge (off := 7) (by decide +kernel) rfl rfl x0 x1 y0 y1
theorem r109_67 : xT d 109 67 (l0 :: l1 :: .int v :: ls) (st) h Q ↔ xT d 109 68 (l0 :: l1 :: .int v :: ls) (.int v :: st) h Q := xT_iload_n (k := 2) (by decide +kernel) rfl rfl
theorem r109_68 : xT d 109 68 (ls) (st) h Q ↔ xT d 109 73 (ls) (st) h Q := xT_goto (off := 5) (by decide +kernel) rfl
theorem r109_71 : xT d 109 71 (ls) (st) h Q ↔ xT d 109 73 (ls) (.int (xI 9) :: st) h Q := xT_bipush (n := 9) (by decide +kernel) rfl (by decide +kernel)
theorem r109_73 {z0 : Int32} {z1 : Int32} (hd : 1 ≤ d) : xT d 109 73 (ls) ([.int z0, .int z1, .ref 21]) (hh f a g) Q ↔ xTC (d - 1) 108 [.ref 21, .int z1, .int z0] (hh f a g) (xAf d 109 73 (ls) [] Q) := xT_virtual (k := 106) (na := 2) (ci := 8) (by decide +kernel) (by decide +kernel) (by decide +kernel) ⟨Nat.le_of_ble_eq_true rfl, Nat.le_of_ble_eq_true rfl⟩ rfl rfl (Nat.le_of_ble_eq_true rfl) rfl rfl ⟨Nat.le_of_ble_eq_true rfl, Nat.le_of_ble_eq_true rfl⟩ (Nat.le_of_ble_eq_true rfl) hd
theorem r109_76 : xT d 109 76 (.ref ov :: ls) (st) h Q ↔ xT d 109 77 (.ref ov :: ls) (.ref ov :: st) h Q := xT_aload_n (k := 0) (by decide +kernel) rfl rfl
theorem r109_77 : xT d 109 77 (l0 :: .int v :: ls) (st) h Q ↔ xT d 109 78 (l0 :: .int v :: ls) (.int v :: st) h Q := xT_iload_n (k := 1) (by decide +kernel) rfl rfl
theorem r109_78 {z0 : Int32} (hd : 1 ≤ d) : xT d 109 78 (ls) ([.int z0, .ref 21]) (hh f a g) Q ↔ xTC (d - 1) 104 [.ref 21, .int z0] (hh f a g) (xAf d 109 78 (ls) [] Q) := xT_virtual (k := 110) (na := 1) (ci := 8) (by decide +kernel) (by decide +kernel) (by decide +kernel) ⟨Nat.le_of_ble_eq_true rfl, Nat.le_of_ble_eq_true rfl⟩ rfl rfl (Nat.le_of_ble_eq_true rfl) rfl rfl ⟨Nat.le_of_ble_eq_true rfl, Nat.le_of_ble_eq_true rfl⟩ (Nat.le_of_ble_eq_true rfl) hd
theorem r109_81 : xT d 109 81 (ls) ([]) h Q ↔ Q (h, .returned none) := xT_return (by decide +kernel) rfl
theorem e109 {z0 : Nat} {z1 : Int32} : xTC d 109 [.ref z0, .int z1] h Q ↔ xT d 109 0 [.ref z0, .int z1, .null, .null, .null] [] h Q := Iff.rfl
-- M_add
theorem r110_0 : xT d 110 0 (.ref ov :: ls) (st) h Q ↔ xT d 110 1 (.ref ov :: ls) (.ref ov :: st) h Q := xT_aload_n (k := 0) (by decide +kernel) rfl rfl
theorem r110_1 : xT d 110 1 (ls) (.ref 21 :: st) (hh f a g) Q ↔ xT d 110 4 (ls) (.ref 31 :: st) (hh f a g) Q := xT_getf (k := 47) (ci := 8) (fi := 28) (by decide +kernel) rfl rfl ⟨Nat.le_of_ble_eq_true rfl, Nat.le_of_ble_eq_true rfl⟩ (by decide +kernel) rfl
theorem r110_4 : xT d 110 4 (.ref ov :: ls) (st) h Q ↔ xT d 110 5 (.ref ov :: ls) (.ref ov :: st) h Q := xT_aload_n (k := 0) (by decide +kernel) rfl rfl
theorem r110_5 : xT d 110 5 (ls) (.ref 21 :: st) (hh f a g) Q ↔ xT d 110 8 (ls) (.int (xI (f 21 29)) :: st) (hh f a g) Q := xT_getf (k := 95) (ci := 8) (fi := 29) (by decide +kernel) rfl rfl ⟨Nat.le_of_ble_eq_true rfl, Nat.le_of_ble_eq_true rfl⟩ (by decide +kernel) rfl
theorem r110_8 : xT d 110 8 (ls) (st) h Q ↔ xT d 110 9 (ls) (.int (xI 1) :: st) h Q := xT_iconst (n := 1) (by decide +kernel) rfl
theorem r110_9 : xT d 110 9 (ls) (.int (xI y) :: .int (xI x) :: st) h Q ↔ xT d 110 10 (ls) (.int (xI (x - y)) :: st) h Q := xT_isub (by decide +kernel) rfl
theorem r110_10 : xT d 110 10 (.ref ov :: ls) (st) h Q ↔ xT d 110 11 (.ref ov :: ls) (.ref ov :: st) h Q := xT_aload_n (k := 0) (by decide +kernel) rfl rfl
theorem r110_11 : xT d 110 11 (ls) (.ref 21 :: st) (hh f a g) Q ↔ xT d 110 14 (ls) (.ref 31 :: st) (hh f a g) Q := xT_getf (k := 47) (ci := 8) (fi := 28) (by decide +kernel) rfl rfl ⟨Nat.le_of_ble_eq_true rfl, Nat.le_of_ble_eq_true rfl⟩ (by decide +kernel) rfl
theorem r110_14 : xT d 110 14 (.ref ov :: ls) (st) h Q ↔ xT d 110 15 (.ref ov :: ls) (.ref ov :: st) h Q := xT_aload_n (k := 0) (by decide +kernel) rfl rfl
theorem r110_15 : xT d 110 15 (ls) (.ref 21 :: st) (hh f a g) Q ↔ xT d 110 18 (ls) (.int (xI (f 21 29)) :: st) (hh f a g) Q := xT_getf (k := 95) (ci := 8) (fi := 29) (by decide +kernel) rfl rfl ⟨Nat.le_of_ble_eq_true rfl, Nat.le_of_ble_eq_true rfl⟩ (by decide +kernel) rfl
theorem r110_18 : xT d 110 18 (ls) (st) h Q ↔ xT d 110 19 (ls) (.int (xI 1) :: st) h Q := xT_iconst (n := 1) (by decide +kernel) rfl
theorem r110_19 : xT d 110 19 (ls) (.int (xI y) :: .int (xI x) :: st) h Q ↔ xT d 110 20 (ls) (.int (xI (x - y)) :: st) h Q := xT_isub (by decide +kernel) rfl
theorem r110_20 (x0 : 0 ≤ x) (x1 : x < 1400) : xT d 110 20 (ls) (.int (xI x) :: .ref 31 :: st) (hh f a g) Q ↔ xT d 110 21 (ls) (.int (xI (a 31 x)) :: st) (hh f a g) Q := xT_iaload (N := 1400) (by decide +kernel) rfl rfl (Nat.le_of_ble_eq_true rfl) x0 x1 (Nat.le_of_ble_eq_true rfl)
theorem r110_21 : xT d 110 21 (l0 :: .int v :: ls) (st) h Q ↔ xT d 110 22 (l0 :: .int v :: ls) (.int v :: st) h Q := xT_iload_n (k := 1) (by decide +kernel) rfl rfl
theorem r110_22 : xT d 110 22 (ls) (st) h Q ↔ xT d 110 25 (ls) (.int (xI 255) :: st) h Q := xT_sipush (n := 255) (by decide +kernel) rfl (by decide +kernel)
theorem r110_25 : xT d 110 25 (ls) (.int (xI y) :: .int (xI x) :: st) h Q ↔ xT d 110 26 (ls) (.int (xI (xA x y)) :: st) h Q := xT_iand (by decide +kernel) rfl
theorem r110_26 : xT d 110 26 (ls) (.int (xI y) :: .int (xI x) :: st) h Q ↔ xT d 110 27 (ls) (.int (xI (x + y)) :: st) h Q := xT_iadd (by decide +kernel) rfl
theorem r110_27 (x0 : 0 ≤ x) (x1 : x < 1400) : xT d 110 27 (ls) (.int (xI y) :: .int (xI x) :: .ref 31 :: st) (hh f a g) Q ↔ xT d 110 28 (ls) (st) (hh f (xw a 31 x y) g) Q := xT_iastore (N := 1400) (by decide +kernel) rfl rfl ⟨Nat.le_of_ble_eq_true rfl, Nat.le_of_ble_eq_true rfl⟩ x0 x1 (Nat.le_of_ble_eq_true rfl)
theorem r110_28 : xT d 110 28 (.ref ov :: ls) (st) h Q ↔ xT d 110 29 (.ref ov :: ls) (.ref ov :: st) h Q := xT_aload_n (k := 0) (by decide +kernel) rfl rfl
theorem r110_29 : xT d 110 29 (ls) (.ref 21 :: st) (hh f a g) Q ↔ xT d 110 32 (ls) (.ref 31 :: st) (hh f a g) Q := xT_getf (k := 47) (ci := 8) (fi := 28) (by decide +kernel) rfl rfl ⟨Nat.le_of_ble_eq_true rfl, Nat.le_of_ble_eq_true rfl⟩ (by decide +kernel) rfl
theorem r110_32 : xT d 110 32 (.ref ov :: ls) (st) h Q ↔ xT d 110 33 (.ref ov :: ls) (.ref ov :: st) h Q := xT_aload_n (k := 0) (by decide +kernel) rfl rfl
theorem r110_33 : xT d 110 33 (ls) (.ref 21 :: st) (hh f a g) Q ↔ xT d 110 36 (ls) (.int (xI (f 21 29)) :: st) (hh f a g) Q := xT_getf (k := 95) (ci := 8) (fi := 29) (by decide +kernel) rfl rfl ⟨Nat.le_of_ble_eq_true rfl, Nat.le_of_ble_eq_true rfl⟩ (by decide +kernel) rfl
theorem r110_36 : xT d 110 36 (ls) (st) h Q ↔ xT d 110 37 (ls) (.int (xI 2) :: st) h Q := xT_iconst (n := 2) (by decide +kernel) rfl
theorem r110_37 : xT d 110 37 (ls) (.int (xI y) :: .int (xI x) :: st) h Q ↔ xT d 110 38 (ls) (.int (xI (x - y)) :: st) h Q := xT_isub (by decide +kernel) rfl
theorem r110_38 : xT d 110 38 (.ref ov :: ls) (st) h Q ↔ xT d 110 39 (.ref ov :: ls) (.ref ov :: st) h Q := xT_aload_n (k := 0) (by decide +kernel) rfl rfl
theorem r110_39 : xT d 110 39 (ls) (.ref 21 :: st) (hh f a g) Q ↔ xT d 110 42 (ls) (.ref 31 :: st) (hh f a g) Q := xT_getf (k := 47) (ci := 8) (fi := 28) (by decide +kernel) rfl rfl ⟨Nat.le_of_ble_eq_true rfl, Nat.le_of_ble_eq_true rfl⟩ (by decide +kernel) rfl
theorem r110_42 : xT d 110 42 (.ref ov :: ls) (st) h Q ↔ xT d 110 43 (.ref ov :: ls) (.ref ov :: st) h Q := xT_aload_n (k := 0) (by decide +kernel) rfl rfl
theorem r110_43 : xT d 110 43 (ls) (.ref 21 :: st) (hh f a g) Q ↔ xT d 110 46 (ls) (.int (xI (f 21 29)) :: st) (hh f a g) Q := xT_getf (k := 95) (ci := 8) (fi := 29) (by decide +kernel) rfl rfl ⟨Nat.le_of_ble_eq_true rfl, Nat.le_of_ble_eq_true rfl⟩ (by decide +kernel) rfl
theorem r110_46 : xT d 110 46 (ls) (st) h Q ↔ xT d 110 47 (ls) (.int (xI 2) :: st) h Q := xT_iconst (n := 2) (by decide +kernel) rfl
theorem r110_47 : xT d 110 47 (ls) (.int (xI y) :: .int (xI x) :: st) h Q ↔ xT d 110 48 (ls) (.int (xI (x - y)) :: st) h Q := xT_isub (by decide +kernel) rfl
theorem r110_48 (x0 : 0 ≤ x) (x1 : x < 1400) : xT d 110 48 (ls) (.int (xI x) :: .ref 31 :: st) (hh f a g) Q ↔ xT d 110 49 (ls) (.int (xI (a 31 x)) :: st) (hh f a g) Q := xT_iaload (N := 1400) (by decide +kernel) rfl rfl (Nat.le_of_ble_eq_true rfl) x0 x1 (Nat.le_of_ble_eq_true rfl)
theorem r110_49 : xT d 110 49 (l0 :: .int v :: ls) (st) h Q ↔ xT d 110 50 (l0 :: .int v :: ls) (.int v :: st) h Q := xT_iload_n (k := 1) (by decide +kernel) rfl rfl
theorem r110_50 : xT d 110 50 (ls) (st) h Q ↔ xT d 110 52 (ls) (.int (xI 8) :: st) h Q := xT_bipush (n := 8) (by decide +kernel) rfl (by decide +kernel)
theorem r110_52 (y0 : 0 ≤ y) (y1 : y ≤ 31) (x0 : -2147483648 ≤ x) (x1 : x ≤ 2147483647) : xT d 110 52 (ls) (.int (xI y) :: .int (xI x) :: st) h Q ↔ xT d 110 53 (ls) (.int (xI (x / 2 ^ y.toNat)) :: st) h Q := xT_ishr (by decide +kernel) rfl y0 y1 x0 x1
theorem r110_53 : xT d 110 53 (ls) (.int (xI y) :: .int (xI x) :: st) h Q ↔ xT d 110 54 (ls) (.int (xI (x + y)) :: st) h Q := xT_iadd (by decide +kernel) rfl
theorem r110_54 (x0 : 0 ≤ x) (x1 : x < 1400) : xT d 110 54 (ls) (.int (xI y) :: .int (xI x) :: .ref 31 :: st) (hh f a g) Q ↔ xT d 110 55 (ls) (st) (hh f (xw a 31 x y) g) Q := xT_iastore (N := 1400) (by decide +kernel) rfl rfl ⟨Nat.le_of_ble_eq_true rfl, Nat.le_of_ble_eq_true rfl⟩ x0 x1 (Nat.le_of_ble_eq_true rfl)
theorem r110_55 : xT d 110 55 (.ref ov :: ls) (st) h Q ↔ xT d 110 56 (.ref ov :: ls) (.ref ov :: st) h Q := xT_aload_n (k := 0) (by decide +kernel) rfl rfl
theorem r110_56 : xT d 110 56 (ls) (.ref 21 :: st) (hh f a g) Q ↔ xT d 110 59 (ls) (.int (xI (f 21 29)) :: st) (hh f a g) Q := xT_getf (k := 95) (ci := 8) (fi := 29) (by decide +kernel) rfl rfl ⟨Nat.le_of_ble_eq_true rfl, Nat.le_of_ble_eq_true rfl⟩ (by decide +kernel) rfl
theorem r110_59 : xT d 110 59 (ls) (st) h Q ↔ xT d 110 60 (ls) (.int (xI 1) :: st) h Q := xT_iconst (n := 1) (by decide +kernel) rfl
theorem r110_60 : xT d 110 60 (ls) (.int (xI y) :: .int (xI x) :: st) h Q ↔ xT d 110 61 (ls) (.int (xI (x - y)) :: st) h Q := xT_isub (by decide +kernel) rfl
theorem r110_61 : xT d 110 61 ([l0, .int w, l2, l3]) (.int v :: st) h Q ↔ xT d 110 62 ([l0, .int w, .int v, l3]) (st) h Q := xT_istore_n (k := 2) (by decide +kernel) rfl (Nat.le_of_ble_eq_true rfl) rfl
theorem r110_62 : xT d 110 62 (l0 :: l1 :: .int v :: ls) (st) h Q ↔ xT d 110 63 (l0 :: l1 :: .int v :: ls) (.int v :: st) h Q := xT_iload_n (k := 2) (by decide +kernel) rfl rfl
theorem r110_63 (x0 : -2147483648 ≤ x) (x1 : x ≤ 2147483647) : xT d 110 63 (ls) (.int (xI x) :: st) h Q ↔ (0 < x → xT d 110 66 (ls) (st) h Q) ∧ (¬ 0 < x → xT d 110 138 (ls) (st) h Q) := xT_ifle (off := 75) (by decide +kernel) rfl rfl x0 x1
theorem r110_66 : xT d 110 66 (l0 :: l1 :: .int v :: ls) (st) h Q ↔ xT d 110 67 (l0 :: l1 :: .int v :: ls) (.int v :: st) h Q := xT_iload_n (k := 2) (by decide +kernel) rfl rfl
theorem r110_67 : xT d 110 67 (.ref ov :: ls) (st) h Q ↔ xT d 110 68 (.ref ov :: ls) (.ref ov :: st) h Q := xT_aload_n (k := 0) (by decide +kernel) rfl rfl
theorem r110_68 : xT d 110 68 (ls) (.ref 21 :: st) (hh f a g) Q ↔ xT d 110 71 (ls) (.int (xI (f 21 29)) :: st) (hh f a g) Q := xT_getf (k := 95) (ci := 8) (fi := 29) (by decide +kernel) rfl rfl ⟨Nat.le_of_ble_eq_true rfl, Nat.le_of_ble_eq_true rfl⟩ (by decide +kernel) rfl
theorem r110_71 : xT d 110 71 (ls) (st) h Q ↔ xT d 110 72 (ls) (.int (xI 3) :: st) h Q := xT_iconst (n := 3) (by decide +kernel) rfl
theorem r110_72 : xT d 110 72 (ls) (.int (xI y) :: .int (xI x) :: st) h Q ↔ xT d 110 73 (ls) (.int (xI (x - y)) :: st) h Q := xT_isub (by decide +kernel) rfl
theorem r110_73 (x0 : -2147483648 ≤ x) (x1 : x ≤ 2147483647) (y0 : -2147483648 ≤ y) (y1 : y ≤ 2147483647) : xT d 110 73 (ls) (.int (xI y) :: .int (xI x) :: st) h Q ↔ (y < x → xT d 110 88 (ls) (st) h Q) ∧ (¬ y < x → xT d 110 76 (ls) (st) h Q) := xT_icgt (off := 15) (by decide +kernel) rfl rfl x0 x1 y0 y1
theorem r110_76 : xT d 110 76 (.ref ov :: ls) (st) h Q ↔ xT d 110 77 (.ref ov :: ls) (.ref ov :: st) h Q := xT_aload_n (k := 0) (by decide +kernel) rfl rfl
theorem r110_77 : xT d 110 77 (ls) (.ref 21 :: st) (hh f a g) Q ↔ xT d 110 80 (ls) (.ref 31 :: st) (hh f a g) Q := xT_getf (k := 47) (ci := 8) (fi := 28) (by decide +kernel) rfl rfl ⟨Nat.le_of_ble_eq_true rfl, Nat.le_of_ble_eq_true rfl⟩ (by decide +kernel) rfl
theorem r110_80 : xT d 110 80 (l0 :: l1 :: .int v :: ls) (st) h Q ↔ xT d 110 81 (l0 :: l1 :: .int v :: ls) (.int v :: st) h Q := xT_iload_n (k := 2) (by decide +kernel) rfl rfl
theorem r110_81 (x0 : 0 ≤ x) (x1 : x < 1400) : xT d 110 81 (ls) (.int (xI x) :: .ref 31 :: st) (hh f a g) Q ↔ xT d 110 82 (ls) (.int (xI (a 31 x)) :: st) (hh f a g) Q := xT_iaload (N := 1400) (by decide +kernel) rfl rfl (Nat.le_of_ble_eq_true rfl) x0 x1 (Nat.le_of_ble_eq_true rfl)
theorem r110_82 : xT d 110 82 (ls) (st) h Q ↔ xT d 110 85 (ls) (.int (xI 255) :: st) h Q := xT_sipush (n := 255) (by decide +kernel) rfl (by decide +kernel)
theorem r110_85 (x0 : -2147483648 ≤ x) (x1 : x ≤ 2147483647) (y0 : -2147483648 ≤ y) (y1 : y ≤ 2147483647) : xT d 110 85 (ls) (.int (xI y) :: .int (xI x) :: st) h Q ↔ (y < x → xT d 110 88 (ls) (st) h Q) ∧ (¬ y < x → xT d 110 138 (ls) (st) h Q) := xT_icle (off := 53) (by decide +kernel) rfl rfl x0 x1 y0 y1
theorem r110_88 : xT d 110 88 (.ref ov :: ls) (st) h Q ↔ xT d 110 89 (.ref ov :: ls) (.ref ov :: st) h Q := xT_aload_n (k := 0) (by decide +kernel) rfl rfl
theorem r110_89 : xT d 110 89 (ls) (.ref 21 :: st) (hh f a g) Q ↔ xT d 110 92 (ls) (.ref 31 :: st) (hh f a g) Q := xT_getf (k := 47) (ci := 8) (fi := 28) (by decide +kernel) rfl rfl ⟨Nat.le_of_ble_eq_true rfl, Nat.le_of_ble_eq_true rfl⟩ (by decide +kernel) rfl
theorem r110_92 : xT d 110 92 (l0 :: l1 :: .int v :: ls) (st) h Q ↔ xT d 110 93 (l0 :: l1 :: .int v :: ls) (.int v :: st) h Q := xT_iload_n (k := 2) (by decide +kernel) rfl rfl
theorem r110_93 (x0 : 0 ≤ x) (x1 : x < 1400) : xT d 110 93 (ls) (.int (xI x) :: .ref 31 :: st) (hh f a g) Q ↔ xT d 110 94 (ls) (.int (xI (a 31 x)) :: st) (hh f a g) Q := xT_iaload (N := 1400) (by decide +kernel) rfl rfl (Nat.le_of_ble_eq_true rfl) x0 x1 (Nat.le_of_ble_eq_true rfl)
theorem r110_94 : xT d 110 94 (ls) (st) h Q ↔ xT d 110 96 (ls) (.int (xI 8) :: st) h Q := xT_bipush (n := 8) (by decide +kernel) rfl (by decide +kernel)
theorem r110_96 (y0 : 0 ≤ y) (y1 : y ≤ 31) (x0 : -2147483648 ≤ x) (x1 : x ≤ 2147483647) : xT d 110 96 (ls) (.int (xI y) :: .int (xI x) :: st) h Q ↔ xT d 110 97 (ls) (.int (xI (x / 2 ^ y.toNat)) :: st) h Q := xT_ishr (by decide +kernel) rfl y0 y1 x0 x1
theorem r110_97 : xT d 110 97 ([l0, l1, .int w, l3]) (.int v :: st) h Q ↔ xT d 110 98 ([l0, l1, .int w, .int v]) (st) h Q := xT_istore_n (k := 3) (by decide +kernel) rfl (Nat.le_of_ble_eq_true rfl) rfl
theorem r110_98 : xT d 110 98 (.ref ov :: ls) (st) h Q ↔ xT d 110 99 (.ref ov :: ls) (.ref ov :: st) h Q := xT_aload_n (k := 0) (by decide +kernel) rfl rfl
theorem r110_99 : xT d 110 99 (ls) (.ref 21 :: st) (hh f a g) Q ↔ xT d 110 102 (ls) (.ref 31 :: st) (hh f a g) Q := xT_getf (k := 47) (ci := 8) (fi := 28) (by decide +kernel) rfl rfl ⟨Nat.le_of_ble_eq_true rfl, Nat.le_of_ble_eq_true rfl⟩ (by decide +kernel) rfl
theorem r110_102 : xT d 110 102 (l0 :: l1 :: .int v :: ls) (st) h Q ↔ xT d 110 103 (l0 :: l1 :: .int v :: ls) (.int v :: st) h Q := xT_iload_n (k := 2) (by decide +kernel) rfl rfl
theorem r110_103 : xT d 110 103 (.ref ov :: ls) (st) h Q ↔ xT d 110 104 (.ref ov :: ls) (.ref ov :: st) h Q := xT_aload_n (k := 0) (by decide +kernel) rfl rfl
theorem r110_104 : xT d 110 104 (ls) (.ref 21 :: st) (hh f a g) Q ↔ xT d 110 107 (ls) (.ref 31 :: st) (hh f a g) Q := xT_getf (k := 47) (ci := 8) (fi := 28) (by decide +kernel) rfl rfl ⟨Nat.le_of_ble_eq_true rfl, Nat.le_of_ble_eq_true rfl⟩ (by decide +kernel) rfl
theorem r110_107 : xT d 110 107 (l0 :: l1 :: .int v :: ls) (st) h Q ↔ xT d 110 108 (l0 :: l1 :: .int v :: ls) (.int v :: st) h Q := xT_iload_n (k := 2) (by decide +kernel) rfl rfl
theorem r110_108 (x0 : 0 ≤ x) (x1 : x < 1400) : xT d 110 108 (ls) (.int (xI x) :: .ref 31 :: st) (hh f a g) Q ↔ xT d 110 109 (ls) (.int (xI (a 31 x)) :: st) (hh f a g) Q := xT_iaload (N := 1400) (by decide +kernel) rfl rfl (Nat.le_of_ble_eq_true rfl) x0 x1 (Nat.le_of_ble_eq_true rfl)
theorem r110_109 : xT d 110 109 (ls) (st) h Q ↔ xT d 110 112 (ls) (.int (xI 255) :: st) h Q := xT_sipush (n := 255) (by decide +kernel) rfl (by decide +kernel)
theorem r110_112 : xT d 110 112 (ls) (.int (xI y) :: .int (xI x) :: st) h Q ↔ xT d 110 113 (ls) (.int (xI (xA x y)) :: st) h Q := xT_iand (by decide +kernel) rfl
theorem r110_113 (x0 : 0 ≤ x) (x1 : x < 1400) : xT d 110 113 (ls) (.int (xI y) :: .int (xI x) :: .ref 31 :: st) (hh f a g) Q ↔ xT d 110 114 (ls) (st) (hh f (xw a 31 x y) g) Q := xT_iastore (N := 1400) (by decide +kernel) rfl rfl ⟨Nat.le_of_ble_eq_true rfl, Nat.le_of_ble_eq_true rfl⟩ x0 x1 (Nat.le_of_ble_eq_true rfl)
theorem r110_114 : xT d 110 114 (.ref ov :: ls) (st) h Q ↔ xT d 110 115 (.ref ov :: ls) (.ref ov :: st) h Q := xT_aload_n (k := 0) (by decide +kernel) rfl rfl
theorem r110_115 : xT d 110 115 (ls) (.ref 21 :: st) (hh f a g) Q ↔ xT d 110 118 (ls) (.ref 31 :: st) (hh f a g) Q := xT_getf (k := 47) (ci := 8) (fi := 28) (by decide +kernel) rfl rfl ⟨Nat.le_of_ble_eq_true rfl, Nat.le_of_ble_eq_true rfl⟩ (by decide +kernel) rfl
theorem r110_118 : xT d 110 118 (l0 :: l1 :: .int v :: ls) (st) h Q ↔ xT d 110 119 (l0 :: l1 :: .int v :: ls) (.int v :: st) h Q := xT_iload_n (k := 2) (by decide +kernel) rfl rfl
theorem r110_119 : xT d 110 119 (ls) (st) h Q ↔ xT d 110 120 (ls) (.int (xI 1) :: st) h Q := xT_iconst (n := 1) (by decide +kernel) rfl
theorem r110_120 : xT d 110 120 (ls) (.int (xI y) :: .int (xI x) :: st) h Q ↔ xT d 110 121 (ls) (.int (xI (x - y)) :: st) h Q := xT_isub (by decide +kernel) rfl
theorem r110_121 : xT d 110 121 (.ref ov :: ls) (st) h Q ↔ xT d 110 122 (.ref ov :: ls) (.ref ov :: st) h Q := xT_aload_n (k := 0) (by decide +kernel) rfl rfl
theorem r110_122 : xT d 110 122 (ls) (.ref 21 :: st) (hh f a g) Q ↔ xT d 110 125 (ls) (.ref 31 :: st) (hh f a g) Q := xT_getf (k := 47) (ci := 8) (fi := 28) (by decide +kernel) rfl rfl ⟨Nat.le_of_ble_eq_true rfl, Nat.le_of_ble_eq_true rfl⟩ (by decide +kernel) rfl
theorem r110_125 : xT d 110 125 (l0 :: l1 :: .int v :: ls) (st) h Q ↔ xT d 110 126 (l0 :: l1 :: .int v :: ls) (.int v :: st) h Q := xT_iload_n (k := 2) (by decide +kernel) rfl rfl
theorem r110_126 : xT d 110 126 (ls) (st) h Q ↔ xT d 110 127 (ls) (.int (xI 1) :: st) h Q := xT_iconst (n := 1) (by decide +kernel) rfl
theorem r110_127 : xT d 110 127 (ls) (.int (xI y) :: .int (xI x) :: st) h Q ↔ xT d 110 128 (ls) (.int (xI (x - y)) :: st) h Q := xT_isub (by decide +kernel) rfl
theorem r110_128 (x0 : 0 ≤ x) (x1 : x < 1400) : xT d 110 128 (ls) (.int (xI x) :: .ref 31 :: st) (hh f a g) Q ↔ xT d 110 129 (ls) (.int (xI (a 31 x)) :: st) (hh f a g) Q := xT_iaload (N := 1400) (by decide +kernel) rfl rfl (Nat.le_of_ble_eq_true rfl) x0 x1 (Nat.le_of_ble_eq_true rfl)
theorem r110_129 : xT d 110 129 (l0 :: l1 :: l2 :: .int v :: ls) (st) h Q ↔ xT d 110 130 (l0 :: l1 :: l2 :: .int v :: ls) (.int v :: st) h Q := xT_iload_n (k := 3) (by decide +kernel) rfl rfl
theorem r110_130 : xT d 110 130 (ls) (.int (xI y) :: .int (xI x) :: st) h Q ↔ xT d 110 131 (ls) (.int (xI (x + y)) :: st) h Q := xT_iadd (by decide +kernel) rfl
theorem r110_131 (x0 : 0 ≤ x) (x1 : x < 1400) : xT d 110 131 (ls) (.int (xI y) :: .int (xI x) :: .ref 31 :: st) (hh f a g) Q ↔ xT d 110 132 (ls) (st) (hh f (xw a 31 x y) g) Q := xT_iastore (N := 1400) (by decide +kernel) rfl rfl ⟨Nat.le_of_ble_eq_true rfl, Nat.le_of_ble_eq_true rfl⟩ x0 x1 (Nat.le_of_ble_eq_true rfl)
theorem r110_132 : xT d 110 132 ([l0, .int w, .int (xI x), l3]) (st) h Q ↔ xT d 110 135 ([l0, .int w, .int (xI (x + (-1))), l3]) (st) h Q := xT_iinc (k := 2) (by decide +kernel) rfl rfl rfl
theorem r110_135 : xT d 110 135 (ls) (st) h Q ↔ xT d 110 62 (ls) (st) h Q := xT_goto (off := (-73)) (by decide +kernel) rfl
theorem r110_138 : xT d 110 138 (ls) ([]) h Q ↔ Q (h, .returned none) := xT_return (by decide +kernel) rfl
theorem e110 {z0 : Nat} {z1 : Int32} : xTC d 110 [.ref z0, .int z1] h Q ↔ xT d 110 0 [.ref z0, .int z1, .null, .null] [] h Q := Iff.rfl
-- M_adapt
theorem r111_0 : xT d 111 0 (ls) (st) h Q ↔ xT d 111 2 (ls) (.int (xI 19) :: st) h Q := xT_bipush (n := 19) (by decide +kernel) rfl (by decide +kernel)
theorem r111_2 : xT d 111 2 (.ref ov :: ls) (st) h Q ↔ xT d 111 3 (.ref ov :: ls) (.ref ov :: st) h Q := xT_aload_n (k := 0) (by decide +kernel) rfl rfl
theorem r111_3 : xT d 111 3 (ls) (.ref 21 :: st) (hh f a g) Q ↔ xT d 111 6 (ls) (.int (xI (f 21 26)) :: st) (hh f a g) Q := xT_getf (k := 89) (ci := 8) (fi := 26) (by decide +kernel) rfl rfl ⟨Nat.le_of_ble_eq_true rfl, Nat.le_of_ble_eq_true rfl⟩ (by decide +kernel) rfl
theorem r111_6 : xT d 111 6 (ls) (.int (xI y) :: .int (xI x) :: st) h Q ↔ xT d 111 7 (ls) (.int (xI (x * y)) :: st) h Q := xT_imul (by decide +kernel) rfl
theorem r111_7 : xT d 111 7 (l0 :: .int v :: ls) (st) h Q ↔ xT d 111 8 (l0 :: .int v :: ls) (.int v :: st) h Q := xT_iload_n (k := 1) (by decide +kernel) rfl rfl
theorem r111_8 : xT d 111 8 (ls) (.int (xI y) :: .int (xI x) :: st) h Q ↔ xT d 111 9 (ls) (.int (xI (x + y)) :: st) h Q := xT_iadd (by decide +kernel) rfl
theorem r111_9 : xT d 111 9 ([l0, l1, .int w, l3, l4]) (.int v :: st) h Q ↔ xT d 111 10 ([l0, l1, .int w, .int v, l4]) (st) h Q := xT_istore_n (k := 3) (by decide +kernel) rfl (Nat.le_of_ble_eq_true rfl) rfl
theorem r111_10 : xT d 111 10 (.ref ov :: ls) (st) h Q ↔ xT d 111 11 (.ref ov :: ls) (.ref ov :: st) h Q := xT_aload_n (k := 0) (by decide +kernel) rfl rfl
theorem r111_11 : xT d 111 11 (ls) (.ref 21 :: st) (hh f a g) Q ↔ xT d 111 14 (ls) (.ref 30 :: st) (hh f a g) Q := xT_getf (k := 44) (ci := 8) (fi := 24) (by decide +kernel) rfl rfl ⟨Nat.le_of_ble_eq_true rfl, Nat.le_of_ble_eq_true rfl⟩ (by decide +kernel) rfl
theorem r111_14 : xT d 111 14 (l0 :: l1 :: l2 :: .int v :: ls) (st) h Q ↔ xT d 111 15 (l0 :: l1 :: l2 :: .int v :: ls) (.int v :: st) h Q := xT_iload_n (k := 3) (by decide +kernel) rfl rfl
theorem r111_15 (x0 : 0 ≤ x) (x1 : x < 2394) : xT d 111 15 (ls) (.int (xI x) :: .ref 30 :: st) (hh f a g) Q ↔ xT d 111 16 (ls) (.int (xI (a 30 x)) :: st) (hh f a g) Q := xT_iaload (N := 2394) (by decide +kernel) rfl rfl (Nat.le_of_ble_eq_true rfl) x0 x1 (Nat.le_of_ble_eq_true rfl)
theorem r111_16 : xT d 111 16 ([l0, l1, l2, .int w, l4]) (.int v :: st) h Q ↔ xT d 111 18 ([l0, l1, l2, .int w, .int v]) (st) h Q := xT_istore (k := 4) (by decide +kernel) rfl (Nat.le_of_ble_eq_true rfl) rfl
theorem r111_18 : xT d 111 18 (.ref ov :: ls) (st) h Q ↔ xT d 111 19 (.ref ov :: ls) (.ref ov :: st) h Q := xT_aload_n (k := 0) (by decide +kernel) rfl rfl
theorem r111_19 : xT d 111 19 (ls) (.ref 21 :: st) (hh f a g) Q ↔ xT d 111 22 (ls) (.ref 30 :: st) (hh f a g) Q := xT_getf (k := 44) (ci := 8) (fi := 24) (by decide +kernel) rfl rfl ⟨Nat.le_of_ble_eq_true rfl, Nat.le_of_ble_eq_true rfl⟩ (by decide +kernel) rfl
theorem r111_22 : xT d 111 22 (l0 :: l1 :: l2 :: .int v :: ls) (st) h Q ↔ xT d 111 23 (l0 :: l1 :: l2 :: .int v :: ls) (.int v :: st) h Q := xT_iload_n (k := 3) (by decide +kernel) rfl rfl
theorem r111_23 : xT d 111 23 (l0 :: l1 :: .int v :: ls) (st) h Q ↔ xT d 111 24 (l0 :: l1 :: .int v :: ls) (.int v :: st) h Q := xT_iload_n (k := 2) (by decide +kernel) rfl rfl
theorem r111_24 : xT d 111 24 (ls) (st) h Q ↔ xT d 111 25 (ls) (.int (xI 1) :: st) h Q := xT_iconst (n := 1) (by decide +kernel) rfl
theorem r111_25 (x0 : -2147483648 ≤ x) (x1 : x ≤ 2147483647) (y0 : -2147483648 ≤ y) (y1 : y ≤ 2147483647) : xT d 111 25 (ls) (.int (xI y) :: .int (xI x) :: st) h Q ↔ (x = y → xT d 111 28 (ls) (st) h Q) ∧ (¬ x = y → xT d 111 42 (ls) (st) h Q) := xT_icne (off := 17) (by decide +kernel) rfl rfl x0 x1 y0 y1
theorem r111_28 : xT d 111 28 (l0 :: l1 :: l2 :: l3 :: .int v :: ls) (st) h Q ↔ xT d 111 30 (l0 :: l1 :: l2 :: l3 :: .int v :: ls) (.int v :: st) h Q := xT_iload (k := 4) (by decide +kernel) rfl rfl
theorem r111_30 : xT d 111 30 (ls) (st) h Q ↔ xT d 111 33 (ls) (.int (xI 256) :: st) h Q := xT_sipush (n := 256) (by decide +kernel) rfl (by decide +kernel)
theorem r111_33 : xT d 111 33 (l0 :: l1 :: l2 :: l3 :: .int v :: ls) (st) h Q ↔ xT d 111 35 (l0 :: l1 :: l2 :: l3 :: .int v :: ls) (.int v :: st) h Q := xT_iload (k := 4) (by decide +kernel) rfl rfl
theorem r111_35 : xT d 111 35 (ls) (.int (xI y) :: .int (xI x) :: st) h Q ↔ xT d 111 36 (ls) (.int (xI (x - y)) :: st) h Q := xT_isub (by decide +kernel) rfl
theorem r111_36 : xT d 111 36 (ls) (st) h Q ↔ xT d 111 37 (ls) (.int (xI 4) :: st) h Q := xT_iconst (n := 4) (by decide +kernel) rfl
theorem r111_37 (y0 : 0 ≤ y) (y1 : y ≤ 31) (x0 : -2147483648 ≤ x) (x1 : x ≤ 2147483647) : xT d 111 37 (ls) (.int (xI y) :: .int (xI x) :: st) h Q ↔ xT d 111 38 (ls) (.int (xI (x / 2 ^ y.toNat)) :: st) h Q := xT_ishr (by decide +kernel) rfl y0 y1 x0 x1
theorem r111_38 : xT d 111 38 (ls) (.int (xI y) :: .int (xI x) :: st) h Q ↔ xT d 111 39 (ls) (.int (xI (x + y)) :: st) h Q := xT_iadd (by decide +kernel) rfl
theorem r111_39 : xT d 111 39 (ls) (st) h Q ↔ xT d 111 49 (ls) (st) h Q := xT_goto (off := 10) (by decide +kernel) rfl
theorem r111_42 : xT d 111 42 (l0 :: l1 :: l2 :: l3 :: .int v :: ls) (st) h Q ↔ xT d 111 44 (l0 :: l1 :: l2 :: l3 :: .int v :: ls) (.int v :: st) h Q := xT_iload (k := 4) (by decide +kernel) rfl rfl
theorem r111_44 : xT d 111 44 (l0 :: l1 :: l2 :: l3 :: .int v :: ls) (st) h Q ↔ xT d 111 46 (l0 :: l1 :: l2 :: l3 :: .int v :: ls) (.int v :: st) h Q := xT_iload (k := 4) (by decide +kernel) rfl rfl
theorem r111_46 : xT d 111 46 (ls) (st) h Q ↔ xT d 111 47 (ls) (.int (xI 4) :: st) h Q := xT_iconst (n := 4) (by decide +kernel) rfl
theorem r111_47 (y0 : 0 ≤ y) (y1 : y ≤ 31) (x0 : -2147483648 ≤ x) (x1 : x ≤ 2147483647) : xT d 111 47 (ls) (.int (xI y) :: .int (xI x) :: st) h Q ↔ xT d 111 48 (ls) (.int (xI (x / 2 ^ y.toNat)) :: st) h Q := xT_ishr (by decide +kernel) rfl y0 y1 x0 x1
theorem r111_48 : xT d 111 48 (ls) (.int (xI y) :: .int (xI x) :: st) h Q ↔ xT d 111 49 (ls) (.int (xI (x - y)) :: st) h Q := xT_isub (by decide +kernel) rfl
theorem r111_49 (x0 : 0 ≤ x) (x1 : x < 2394) : xT d 111 49 (ls) (.int (xI y) :: .int (xI x) :: .ref 30 :: st) (hh f a g) Q ↔ xT d 111 50 (ls) (st) (hh f (xw a 30 x y) g) Q := xT_iastore (N := 2394) (by decide +kernel) rfl rfl ⟨Nat.le_of_ble_eq_true rfl, Nat.le_of_ble_eq_true rfl⟩ x0 x1 (Nat.le_of_ble_eq_true rfl)
theorem r111_50 : xT d 111 50 (ls) ([]) h Q ↔ Q (h, .returned none) := xT_return (by decide +kernel) rfl
theorem e111 {z0 : Nat} {z1 : Int32} {z2 : Int32} : xTC d 111 [.ref z0, .int z1, .int z2] h Q ↔ xT d 111 0 [.ref z0, .int z1, .int z2, .null, .null] [] h Q := Iff.rfl
-- M_part
theorem r112_0 : xT d 112 0 (.ref ov :: ls) (st) h Q ↔ xT d 112 1 (.ref ov :: ls) (.ref ov :: st) h Q := xT_aload_n (k := 0) (by decide +kernel) rfl rfl
theorem r112_1 : xT d 112 1 (ls) (.ref 21 :: st) (hh f a g) Q ↔ xT d 112 4 (ls) (.int (xI (f 21 31)) :: st) (hh f a g) Q := xT_getf (k := 113) (ci := 8) (fi := 31) (by decide +kernel) rfl rfl ⟨Nat.le_of_ble_eq_true rfl, Nat.le_of_ble_eq_true rfl⟩ (by decide +kernel) rfl
theorem r112_4 : xT d 112 4 (.ref ov :: ls) (st) h Q ↔ xT d 112 5 (.ref ov :: ls) (.ref ov :: st) h Q := xT_aload_n (k := 0) (by decide +kernel) rfl rfl
theorem r112_5 : xT d 112 5 (ls) (.ref 21 :: st) (hh f a g) Q ↔ xT d 112 8 (ls) (.ref 30 :: st) (hh f a g) Q := xT_getf (k := 44) (ci := 8) (fi := 24) (by decide +kernel) rfl rfl ⟨Nat.le_of_ble_eq_true rfl, Nat.le_of_ble_eq_true rfl⟩ (by decide +kernel) rfl
theorem r112_8 : xT d 112 8 (ls) (st) h Q ↔ xT d 112 10 (ls) (.int (xI 19) :: st) h Q := xT_bipush (n := 19) (by decide +kernel) rfl (by decide +kernel)
theorem r112_10 : xT d 112 10 (.ref ov :: ls) (st) h Q ↔ xT d 112 11 (.ref ov :: ls) (.ref ov :: st) h Q := xT_aload_n (k := 0) (by decide +kernel) rfl rfl
theorem r112_11 : xT d 112 11 (ls) (.ref 21 :: st) (hh f a g) Q ↔ xT d 112 14 (ls) (.int (xI (f 21 26)) :: st) (hh f a g) Q := xT_getf (k := 89) (ci := 8) (fi := 26) (by decide +kernel) rfl rfl ⟨Nat.le_of_ble_eq_true rfl, Nat.le_of_ble_eq_true rfl⟩ (by decide +kernel) rfl
theorem r112_14 : xT d 112 14 (ls) (.int (xI y) :: .int (xI x) :: st) h Q ↔ xT d 112 15 (ls) (.int (xI (x * y)) :: st) h Q := xT_imul (by decide +kernel) rfl
theorem r112_15 : xT d 112 15 (l0 :: .int v :: ls) (st) h Q ↔ xT d 112 16 (l0 :: .int v :: ls) (.int v :: st) h Q := xT_iload_n (k := 1) (by decide +kernel) rfl rfl
theorem r112_16 : xT d 112 16 (ls) (.int (xI y) :: .int (xI x) :: st) h Q ↔ xT d 112 17 (ls) (.int (xI (x + y)) :: st) h Q := xT_iadd (by decide +kernel) rfl
theorem r112_17 (x0 : 0 ≤ x) (x1 : x < 2394) : xT d 112 17 (ls) (.int (xI x) :: .ref 30 :: st) (hh f a g) Q ↔ xT d 112 18 (ls) (.int (xI (a 30 x)) :: st) (hh f a g) Q := xT_iaload (N := 2394) (by decide +kernel) rfl rfl (Nat.le_of_ble_eq_true rfl) x0 x1 (Nat.le_of_ble_eq_true rfl)
theorem r112_18 : xT d 112 18 (ls) (.int (xI y) :: .int (xI x) :: st) h Q ↔ xT d 112 19 (ls) (.int (xI (x * y)) :: st) h Q := xT_imul (by decide +kernel) rfl
theorem r112_19 : xT d 112 19 (ls) (st) h Q ↔ xT d 112 21 (ls) (.int (xI 8) :: st) h Q := xT_bipush (n := 8) (by decide +kernel) rfl (by decide +kernel)
theorem r112_21 (y0 : 0 ≤ y) (y1 : y ≤ 31) (x0 : -2147483648 ≤ x) (x1 : x ≤ 2147483647) : xT d 112 21 (ls) (.int (xI y) :: .int (xI x) :: st) h Q ↔ xT d 112 22 (ls) (.int (xI (x / 2 ^ y.toNat)) :: st) h Q := xT_ishr (by decide +kernel) rfl y0 y1 x0 x1
theorem r112_22 : xT d 112 22 (ls) ([.int (xI x)]) h Q ↔ Q (h, .returned (some (.int (xI x)))) := xT_ireturn (by decide +kernel) rfl
theorem e112 {z0 : Nat} {z1 : Int32} : xTC d 112 [.ref z0, .int z1] h Q ↔ xT d 112 0 [.ref z0, .int z1] [] h Q := Iff.rfl
-- M_codeBit
theorem r113_0 : xT d 113 0 (.ref ov :: ls) (st) h Q ↔ xT d 113 1 (.ref ov :: ls) (.ref ov :: st) h Q := xT_aload_n (k := 0) (by decide +kernel) rfl rfl
theorem r113_1 : xT d 113 1 (l0 :: .int v :: ls) (st) h Q ↔ xT d 113 2 (l0 :: .int v :: ls) (.int v :: st) h Q := xT_iload_n (k := 1) (by decide +kernel) rfl rfl
theorem r113_2 {z0 : Int32} (hd : 1 ≤ d) : xT d 113 2 (ls) ([.int z0, .ref 21]) (hh f a g) Q ↔ xTC (d - 1) 112 [.ref 21, .int z0] (hh f a g) (xAf d 113 2 (ls) [] Q) := xT_virtual (k := 116) (na := 1) (ci := 8) (by decide +kernel) (by decide +kernel) (by decide +kernel) ⟨Nat.le_of_ble_eq_true rfl, Nat.le_of_ble_eq_true rfl⟩ rfl rfl (Nat.le_of_ble_eq_true rfl) rfl rfl ⟨Nat.le_of_ble_eq_true rfl, Nat.le_of_ble_eq_true rfl⟩ (Nat.le_of_ble_eq_true rfl) hd
theorem r113_5 : xT d 113 5 ([l0, l1, .int w, l3]) (.int v :: st) h Q ↔ xT d 113 6 ([l0, l1, .int w, .int v]) (st) h Q := xT_istore_n (k := 3) (by decide +kernel) rfl (Nat.le_of_ble_eq_true rfl) rfl
theorem r113_6 : xT d 113 6 (l0 :: l1 :: .int v :: ls) (st) h Q ↔ xT d 113 7 (l0 :: l1 :: .int v :: ls) (.int v :: st) h Q := xT_iload_n (k := 2) (by decide +kernel) rfl rfl
theorem r113_7 : xT d 113 7 (ls) (st) h Q ↔ xT d 113 8 (ls) (.int (xI 1) :: st) h Q := xT_iconst (n := 1) (by decide +kernel) rfl
theorem r113_8 (x0 : -2147483648 ≤ x) (x1 : x ≤ 2147483647) (y0 : -2147483648 ≤ y) (y1 : y ≤ 2147483647) : xT d 113 8 (ls) (.int (xI y) :: .int (xI x) :: st) h Q ↔ (x = y → xT d 113 11 (ls) (st) h Q) ∧ (¬ x = y → xT d 113 29 (ls) (st) h Q) := xT_icne (off := 21) (by decide +kernel) rfl rfl x0 x1 y0 y1
theorem r113_11 : xT d 113 11 (.ref ov :: ls) (st) h Q ↔ xT d 113 12 (.ref ov :: ls) (.ref ov :: st) h Q := xT_aload_n (k := 0) (by decide +kernel) rfl rfl
theorem r113_12 : xT d 113 12 (.ref ov :: ls) (st) h Q ↔ xT d 113 13 (.ref ov :: ls) (.ref ov :: st) h Q := xT_aload_n (k := 0) (by decide +kernel) rfl rfl
theorem r113_13 : xT d 113 13 (ls) (.ref 21 :: st) (hh f a g) Q ↔ xT d 113 16 (ls) (.int (xI (f 21 31)) :: st) (hh f a g) Q := xT_getf (k := 113) (ci := 8) (fi := 31) (by decide +kernel) rfl rfl ⟨Nat.le_of_ble_eq_true rfl, Nat.le_of_ble_eq_true rfl⟩ (by decide +kernel) rfl
theorem r113_16 : xT d 113 16 (l0 :: l1 :: l2 :: .int v :: ls) (st) h Q ↔ xT d 113 17 (l0 :: l1 :: l2 :: .int v :: ls) (.int v :: st) h Q := xT_iload_n (k := 3) (by decide +kernel) rfl rfl
theorem r113_17 : xT d 113 17 (ls) (.int (xI y) :: .int (xI x) :: st) h Q ↔ xT d 113 18 (ls) (.int (xI (x - y)) :: st) h Q := xT_isub (by decide +kernel) rfl
theorem r113_18 {z0 : Int32} (hd : 1 ≤ d) : xT d 113 18 (ls) ([.int z0, .ref 21]) (hh f a g) Q ↔ xTC (d - 1) 110 [.ref 21, .int z0] (hh f a g) (xAf d 113 18 (ls) [] Q) := xT_virtual (k := 119) (na := 1) (ci := 8) (by decide +kernel) (by decide +kernel) (by decide +kernel) ⟨Nat.le_of_ble_eq_true rfl, Nat.le_of_ble_eq_true rfl⟩ rfl rfl (Nat.le_of_ble_eq_true rfl) rfl rfl ⟨Nat.le_of_ble_eq_true rfl, Nat.le_of_ble_eq_true rfl⟩ (Nat.le_of_ble_eq_true rfl) hd
theorem r113_21 : xT d 113 21 (.ref ov :: ls) (st) h Q ↔ xT d 113 22 (.ref ov :: ls) (.ref ov :: st) h Q := xT_aload_n (k := 0) (by decide +kernel) rfl rfl
theorem r113_22 : xT d 113 22 (l0 :: l1 :: l2 :: .int v :: ls) (st) h Q ↔ xT d 113 23 (l0 :: l1 :: l2 :: .int v :: ls) (.int v :: st) h Q := xT_iload_n (k := 3) (by decide +kernel) rfl rfl
theorem r113_23 : xT d 113 23 (ls) (.int (xI x) :: .ref 21 :: st) (hh f a g) Q ↔ xT d 113 26 (ls) (st) (hh (xu f 21 31 x) a g) Q := xT_putf (k := 113) (ci := 8) (fi := 31) (by decide +kernel) rfl rfl ⟨Nat.le_of_ble_eq_true rfl, Nat.le_of_ble_eq_true rfl⟩ (by decide +kernel) (by decide +kernel) (by decide +kernel) rfl
theorem r113_26 : xT d 113 26 (ls) (st) h Q ↔ xT d 113 39 (ls) (st) h Q := xT_goto (off := 13) (by decide +kernel) rfl
theorem r113_29 : xT d 113 29 (.ref ov :: ls) (st) h Q ↔ xT d 113 30 (.ref ov :: ls) (.ref ov :: st) h Q := xT_aload_n (k := 0) (by decide +kernel) rfl rfl
theorem r113_30 : xT d 113 30 (.ref ov :: ls) (st) h Q ↔ xT d 113 31 (.ref ov :: ls) (.ref ov :: st) h Q := xT_aload_n (k := 0) (by decide +kernel) rfl rfl
theorem r113_31 : xT d 113 31 (ls) (.ref 21 :: st) (hh f a g) Q ↔ xT d 113 34 (ls) (.int (xI (f 21 31)) :: st) (hh f a g) Q := xT_getf (k := 113) (ci := 8) (fi := 31) (by decide +kernel) rfl rfl ⟨Nat.le_of_ble_eq_true rfl, Nat.le_of_ble_eq_true rfl⟩ (by decide +kernel) rfl
theorem r113_34 : xT d 113 34 (l0 :: l1 :: l2 :: .int v :: ls) (st) h Q ↔ xT d 113 35 (l0 :: l1 :: l2 :: .int v :: ls) (.int v :: st) h Q := xT_iload_n (k := 3) (by decide +kernel) rfl rfl
theorem r113_35 : xT d 113 35 (ls) (.int (xI y) :: .int (xI x) :: st) h Q ↔ xT d 113 36 (ls) (.int (xI (x - y)) :: st) h Q := xT_isub (by decide +kernel) rfl
theorem r113_36 : xT d 113 36 (ls) (.int (xI x) :: .ref 21 :: st) (hh f a g) Q ↔ xT d 113 39 (ls) (st) (hh (xu f 21 31 x) a g) Q := xT_putf (k := 113) (ci := 8) (fi := 31) (by decide +kernel) rfl rfl ⟨Nat.le_of_ble_eq_true rfl, Nat.le_of_ble_eq_true rfl⟩ (by decide +kernel) (by decide +kernel) (by decide +kernel) rfl
theorem r113_39 : xT d 113 39 (.ref ov :: ls) (st) h Q ↔ xT d 113 40 (.ref ov :: ls) (.ref ov :: st) h Q := xT_aload_n (k := 0) (by decide +kernel) rfl rfl
theorem r113_40 : xT d 113 40 (l0 :: .int v :: ls) (st) h Q ↔ xT d 113 41 (l0 :: .int v :: ls) (.int v :: st) h Q := xT_iload_n (k := 1) (by decide +kernel) rfl rfl
theorem r113_41 : xT d 113 41 (l0 :: l1 :: .int v :: ls) (st) h Q ↔ xT d 113 42 (l0 :: l1 :: .int v :: ls) (.int v :: st) h Q := xT_iload_n (k := 2) (by decide +kernel) rfl rfl
theorem r113_42 {z0 : Int32} {z1 : Int32} (hd : 1 ≤ d) : xT d 113 42 (ls) ([.int z0, .int z1, .ref 21]) (hh f a g) Q ↔ xTC (d - 1) 111 [.ref 21, .int z1, .int z0] (hh f a g) (xAf d 113 42 (ls) [] Q) := xT_virtual (k := 122) (na := 2) (ci := 8) (by decide +kernel) (by decide +kernel) (by decide +kernel) ⟨Nat.le_of_ble_eq_true rfl, Nat.le_of_ble_eq_true rfl⟩ rfl rfl (Nat.le_of_ble_eq_true rfl) rfl rfl ⟨Nat.le_of_ble_eq_true rfl, Nat.le_of_ble_eq_true rfl⟩ (Nat.le_of_ble_eq_true rfl) hd
theorem r113_45 : xT d 113 45 (.ref ov :: ls) (st) h Q ↔ xT d 113 46 (.ref ov :: ls) (.ref ov :: st) h Q := xT_aload_n (k := 0) (by decide +kernel) rfl rfl
theorem r113_46 : xT d 113 46 (ls) (.ref 21 :: st) (hh f a g) Q ↔ xT d 113 49 (ls) (.int (xI (f 21 31)) :: st) (hh f a g) Q := xT_getf (k := 113) (ci := 8) (fi := 31) (by decide +kernel) rfl rfl ⟨Nat.le_of_ble_eq_true rfl, Nat.le_of_ble_eq_true rfl⟩ (by decide +kernel) rfl
theorem r113_49 : xT d 113 49 (ls) (st) h Q ↔ xT d 113 52 (ls) (.int (xI 256) :: st) h Q := xT_sipush (n := 256) (by decide +kernel) rfl (by decide +kernel)
theorem r113_52 (x0 : -2147483648 ≤ x) (x1 : x ≤ 2147483647) (y0 : -2147483648 ≤ y) (y1 : y ≤ 2147483647) : xT d 113 52 (ls) (.int (xI y) :: .int (xI x) :: st) h Q ↔ (x < y → xT d 113 55 (ls) (st) h Q) ∧ (¬ x < y → xT d 113 90 (ls) (st) h Q) := xT_icge (off := 38) (by decide +kernel) rfl rfl x0 x1 y0 y1
theorem r113_55 : xT d 113 55 (.ref ov :: ls) (st) h Q ↔ xT d 113 56 (.ref ov :: ls) (.ref ov :: st) h Q := xT_aload_n (k := 0) (by decide +kernel) rfl rfl
theorem r113_56 : xT d 113 56 (.ref ov :: ls) (st) h Q ↔ xT d 113 57 (.ref ov :: ls) (.ref ov :: st) h Q := xT_aload_n (k := 0) (by decide +kernel) rfl rfl
theorem r113_57 : xT d 113 57 (ls) (.ref 21 :: st) (hh f a g) Q ↔ xT d 113 60 (ls) (.int (xI (f 21 31)) :: st) (hh f a g) Q := xT_getf (k := 113) (ci := 8) (fi := 31) (by decide +kernel) rfl rfl ⟨Nat.le_of_ble_eq_true rfl, Nat.le_of_ble_eq_true rfl⟩ (by decide +kernel) rfl
theorem r113_60 : xT d 113 60 (ls) (st) h Q ↔ xT d 113 63 (ls) (.int (xI 256) :: st) h Q := xT_sipush (n := 256) (by decide +kernel) rfl (by decide +kernel)
theorem r113_63 : xT d 113 63 (ls) (.int (xI y) :: .int (xI x) :: st) h Q ↔ xT d 113 64 (ls) (.int (xI (x * y)) :: st) h Q := xT_imul (by decide +kernel) rfl
theorem r113_64 : xT d 113 64 (ls) (.int (xI x) :: .ref 21 :: st) (hh f a g) Q ↔ xT d 113 67 (ls) (st) (hh (xu f 21 31 x) a g) Q := xT_putf (k := 113) (ci := 8) (fi := 31) (by decide +kernel) rfl rfl ⟨Nat.le_of_ble_eq_true rfl, Nat.le_of_ble_eq_true rfl⟩ (by decide +kernel) (by decide +kernel) (by decide +kernel) rfl
theorem r113_67 : xT d 113 67 (.ref ov :: ls) (st) h Q ↔ xT d 113 68 (.ref ov :: ls) (.ref ov :: st) h Q := xT_aload_n (k := 0) (by decide +kernel) rfl rfl
theorem r113_68 : xT d 113 68 (ls) (.ref 21 :: st) (hh f a g) Q ↔ xT d 113 71 (ls) (.ref 31 :: st) (hh f a g) Q := xT_getf (k := 47) (ci := 8) (fi := 28) (by decide +kernel) rfl rfl ⟨Nat.le_of_ble_eq_true rfl, Nat.le_of_ble_eq_true rfl⟩ (by decide +kernel) rfl
theorem r113_71 : xT d 113 71 (.ref ov :: ls) (st) h Q ↔ xT d 113 72 (.ref ov :: ls) (.ref ov :: st) h Q := xT_aload_n (k := 0) (by decide +kernel) rfl rfl
theorem r113_72 : xT d 113 72 (ls) (.ref 21 :: st) (hh f a g) Q ↔ xT d 113 75 (ls) (.int (xI (f 21 29)) :: st) (hh f a g) Q := xT_getf (k := 95) (ci := 8) (fi := 29) (by decide +kernel) rfl rfl ⟨Nat.le_of_ble_eq_true rfl, Nat.le_of_ble_eq_true rfl⟩ (by decide +kernel) rfl
theorem r113_75 : xT d 113 75 (ls) (st) h Q ↔ xT d 113 76 (ls) (.int (xI 0) :: st) h Q := xT_iconst (n := 0) (by decide +kernel) rfl
theorem r113_76 (x0 : 0 ≤ x) (x1 : x < 1400) : xT d 113 76 (ls) (.int (xI y) :: .int (xI x) :: .ref 31 :: st) (hh f a g) Q ↔ xT d 113 77 (ls) (st) (hh f (xw a 31 x y) g) Q := xT_iastore (N := 1400) (by decide +kernel) rfl rfl ⟨Nat.le_of_ble_eq_true rfl, Nat.le_of_ble_eq_true rfl⟩ x0 x1 (Nat.le_of_ble_eq_true rfl)
theorem r113_77 : xT d 113 77 (.ref ov :: ls) (st) h Q ↔ xT d 113 78 (.ref ov :: ls) (.ref ov :: st) h Q := xT_aload_n (k := 0) (by decide +kernel) rfl rfl
theorem r113_78 : xT d 113 78 (ls) (.ref ow :: st) h Q ↔ xT d 113 79 (ls) (.ref ow :: .ref ow :: st) h Q := xT_dup (by decide +kernel) rfl rfl
theorem r113_79 : xT d 113 79 (ls) (.ref 21 :: st) (hh f a g) Q ↔ xT d 113 82 (ls) (.int (xI (f 21 29)) :: st) (hh f a g) Q := xT_getf (k := 95) (ci := 8) (fi := 29) (by decide +kernel) rfl rfl ⟨Nat.le_of_ble_eq_true rfl, Nat.le_of_ble_eq_true rfl⟩ (by decide +kernel) rfl
theorem r113_82 : xT d 113 82 (ls) (st) h Q ↔ xT d 113 83 (ls) (.int (xI 1) :: st) h Q := xT_iconst (n := 1) (by decide +kernel) rfl
theorem r113_83 : xT d 113 83 (ls) (.int (xI y) :: .int (xI x) :: st) h Q ↔ xT d 113 84 (ls) (.int (xI (x + y)) :: st) h Q := xT_iadd (by decide +kernel) rfl
theorem r113_84 : xT d 113 84 (ls) (.int (xI x) :: .ref 21 :: st) (hh f a g) Q ↔ xT d 113 87 (ls) (st) (hh (xu f 21 29 x) a g) Q := xT_putf (k := 95) (ci := 8) (fi := 29) (by decide +kernel) rfl rfl ⟨Nat.le_of_ble_eq_true rfl, Nat.le_of_ble_eq_true rfl⟩ (by decide +kernel) (by decide +kernel) (by decide +kernel) rfl
theorem r113_87 : xT d 113 87 (ls) (st) h Q ↔ xT d 113 45 (ls) (st) h Q := xT_goto (off := (-42)) (by decide +kernel) rfl
theorem r113_90 : xT d 113 90 (ls) ([]) h Q ↔ Q (h, .returned none) := xT_return (by decide +kernel) rfl
theorem e113 {z0 : Nat} {z1 : Int32} {z2 : Int32} : xTC d 113 [.ref z0, .int z1, .int z2] h Q ↔ xT d 113 0 [.ref z0, .int z1, .int z2, .null] [] h Q := Iff.rfl
-- M_power
theorem r114_0 : xT d 114 0 (ls) (st) h Q ↔ xT d 114 1 (ls) (.int (xI 0) :: st) h Q := xT_iconst (n := 0) (by decide +kernel) rfl
theorem r114_1 : xT d 114 1 ([.int w, l1]) (.int v :: st) h Q ↔ xT d 114 2 ([.int w, .int v]) (st) h Q := xT_istore_n (k := 1) (by decide +kernel) rfl (Nat.le_of_ble_eq_true rfl) rfl
theorem r114_2 : xT d 114 2 (.int v :: ls) (st) h Q ↔ xT d 114 3 (.int v :: ls) (.int v :: st) h Q := xT_iload_n (k := 0) (by decide +kernel) rfl rfl
theorem r114_3 : xT d 114 3 (l0 :: .int v :: ls) (st) h Q ↔ xT d 114 4 (l0 :: .int v :: ls) (.int v :: st) h Q := xT_iload_n (k := 1) (by decide +kernel) rfl rfl
theorem r114_4 (y0 : 0 ≤ y) (y1 : y ≤ 31) (x0 : -2147483648 ≤ x) (x1 : x ≤ 2147483647) : xT d 114 4 (ls) (.int (xI y) :: .int (xI x) :: st) h Q ↔ xT d 114 5 (ls) (.int (xI (x / 2 ^ y.toNat)) :: st) h Q := xT_ishr (by decide +kernel) rfl y0 y1 x0 x1
theorem r114_5 : xT d 114 5 (ls) (st) h Q ↔ xT d 114 6 (ls) (.int (xI 1) :: st) h Q := xT_iconst (n := 1) (by decide +kernel) rfl
theorem r114_6 (x0 : -2147483648 ≤ x) (x1 : x ≤ 2147483647) (y0 : -2147483648 ≤ y) (y1 : y ≤ 2147483647) : xT d 114 6 (ls) (.int (xI y) :: .int (xI x) :: st) h Q ↔ (y < x → xT d 114 9 (ls) (st) h Q) ∧ (¬ y < x → xT d 114 15 (ls) (st) h Q) := xT_icle (off := 9) (by decide +kernel) rfl rfl x0 x1 y0 y1
theorem r114_9 : xT d 114 9 ([.int w, .int (xI x)]) (st) h Q ↔ xT d 114 12 ([.int w, .int (xI (x + 1))]) (st) h Q := xT_iinc (k := 1) (by decide +kernel) rfl rfl rfl
theorem r114_12 : xT d 114 12 (ls) (st) h Q ↔ xT d 114 2 (ls) (st) h Q := xT_goto (off := (-10)) (by decide +kernel) rfl
theorem r114_15 : xT d 114 15 (l0 :: .int v :: ls) (st) h Q ↔ xT d 114 16 (l0 :: .int v :: ls) (.int v :: st) h Q := xT_iload_n (k := 1) (by decide +kernel) rfl rfl
theorem r114_16 : xT d 114 16 (ls) ([.int (xI x)]) h Q ↔ Q (h, .returned (some (.int (xI x)))) := xT_ireturn (by decide +kernel) rfl
theorem e114 {z0 : Int32} : xTC d 114 [.int z0] h Q ↔ xT d 114 0 [.int z0, .null] [] h Q := Iff.rfl
-- M_codeByRanges
theorem r115_0 : xT d 115 0 (.ref ov :: ls) (st) h Q ↔ xT d 115 1 (.ref ov :: ls) (.ref ov :: st) h Q := xT_aload_n (k := 0) (by decide +kernel) rfl rfl
theorem r115_1 : xT d 115 1 (ls) (st) h Q ↔ xT d 115 2 (ls) (.int (xI 0) :: st) h Q := xT_iconst (n := 0) (by decide +kernel) rfl
theorem r115_2 : xT d 115 2 (l0 :: .int v :: ls) (st) h Q ↔ xT d 115 3 (l0 :: .int v :: ls) (.int v :: st) h Q := xT_iload_n (k := 1) (by decide +kernel) rfl rfl
theorem r115_3 (x0 : -2147483648 ≤ x) (x1 : x ≤ 2147483647) : xT d 115 3 (ls) (.int (xI x) :: st) h Q ↔ (x = 0 → xT d 115 6 (ls) (st) h Q) ∧ (¬ x = 0 → xT d 115 10 (ls) (st) h Q) := xT_ifne (off := 7) (by decide +kernel) rfl rfl x0 x1
theorem r115_6 : xT d 115 6 (ls) (st) h Q ↔ xT d 115 7 (ls) (.int (xI 1) :: st) h Q := xT_iconst (n := 1) (by decide +kernel) rfl
theorem r115_7 : xT d 115 7 (ls) (st) h Q ↔ xT d 115 11 (ls) (st) h Q := xT_goto (off := 4) (by decide +kernel) rfl
theorem r115_10 : xT d 115 10 (ls) (st) h Q ↔ xT d 115 11 (ls) (.int (xI 0) :: st) h Q := xT_iconst (n := 0) (by decide +kernel) rfl
theorem r115_11 {z0 : Int32} {z1 : Int32} (hd : 1 ≤ d) : xT d 115 11 (ls) ([.int z0, .int z1, .ref 21]) (hh f a g) Q ↔ xTC (d - 1) 113 [.ref 21, .int z1, .int z0] (hh f a g) (xAf d 115 11 (ls) [] Q) := xT_virtual (k := 125) (na := 2) (ci := 8) (by decide +kernel) (by decide +kernel) (by decide +kernel) ⟨Nat.le_of_ble_eq_true rfl, Nat.le_of_ble_eq_true rfl⟩ rfl rfl (Nat.le_of_ble_eq_true rfl) rfl rfl ⟨Nat.le_of_ble_eq_true rfl, Nat.le_of_ble_eq_true rfl⟩ (Nat.le_of_ble_eq_true rfl) hd
theorem r115_14 : xT d 115 14 (l0 :: .int v :: ls) (st) h Q ↔ xT d 115 15 (l0 :: .int v :: ls) (.int v :: st) h Q := xT_iload_n (k := 1) (by decide +kernel) rfl rfl
theorem r115_15 (x0 : -2147483648 ≤ x) (x1 : x ≤ 2147483647) : xT d 115 15 (ls) (.int (xI x) :: st) h Q ↔ (x = 0 → xT d 115 18 (ls) (st) h Q) ∧ (¬ x = 0 → xT d 115 19 (ls) (st) h Q) := xT_ifne (off := 4) (by decide +kernel) rfl rfl x0 x1
theorem r115_18 : xT d 115 18 (ls) ([]) h Q ↔ Q (h, .returned none) := xT_return (by decide +kernel) rfl
theorem r115_19 : xT d 115 19 (l0 :: .int v :: ls) (st) h Q ↔ xT d 115 20 (l0 :: .int v :: ls) (.int v :: st) h Q := xT_iload_n (k := 1) (by decide +kernel) rfl rfl
theorem r115_20 (x0 : -2147483648 ≤ x) (x1 : x ≤ 2147483647) : xT d 115 20 (ls) (.int (xI x) :: st) h Q ↔ (x < 0 → xT d 115 23 (ls) (st) h Q) ∧ (¬ x < 0 → xT d 115 28 (ls) (st) h Q) := xT_ifge (off := 8) (by decide +kernel) rfl rfl x0 x1
theorem r115_23 : xT d 115 23 (l0 :: .int v :: ls) (st) h Q ↔ xT d 115 24 (l0 :: .int v :: ls) (.int v :: st) h Q := xT_iload_n (k := 1) (by decide +kernel) rfl rfl
theorem r115_24 : xT d 115 24 (ls) (.int (xI x) :: st) h Q ↔ xT d 115 25 (ls) (.int (xI (-x)) :: st) h Q := xT_ineg (by decide +kernel) rfl
theorem r115_25 : xT d 115 25 (ls) (st) h Q ↔ xT d 115 29 (ls) (st) h Q := xT_goto (off := 4) (by decide +kernel) rfl
theorem r115_28 : xT d 115 28 (l0 :: .int v :: ls) (st) h Q ↔ xT d 115 29 (l0 :: .int v :: ls) (.int v :: st) h Q := xT_iload_n (k := 1) (by decide +kernel) rfl rfl
theorem r115_29 : xT d 115 29 ([l0, .int w, l2, l3, l4]) (.int v :: st) h Q ↔ xT d 115 30 ([l0, .int w, .int v, l3, l4]) (st) h Q := xT_istore_n (k := 2) (by decide +kernel) rfl (Nat.le_of_ble_eq_true rfl) rfl
theorem r115_30 : xT d 115 30 (l0 :: l1 :: .int v :: ls) (st) h Q ↔ xT d 115 31 (l0 :: l1 :: .int v :: ls) (.int v :: st) h Q := xT_iload_n (k := 2) (by decide +kernel) rfl rfl
theorem r115_31 {z0 : Int32} (hd : 1 ≤ d) : xT d 115 31 (ls) ([.int z0]) h Q ↔ xTC (d - 1) 114 [.int z0] h (xAf d 115 31 (ls) [] Q) := xT_static (k := 128) (na := 1) (by decide +kernel) (by decide +kernel) ⟨Nat.le_of_ble_eq_true rfl, Nat.le_of_ble_eq_true rfl⟩ rfl rfl (Nat.le_of_ble_eq_true rfl) (Nat.le_of_ble_eq_true rfl) hd
theorem r115_34 : xT d 115 34 ([l0, l1, .int w, l3, l4]) (.int v :: st) h Q ↔ xT d 115 35 ([l0, l1, .int w, .int v, l4]) (st) h Q := xT_istore_n (k := 3) (by decide +kernel) rfl (Nat.le_of_ble_eq_true rfl) rfl
theorem r115_35 : xT d 115 35 (ls) (st) h Q ↔ xT d 115 36 (ls) (.int (xI 0) :: st) h Q := xT_iconst (n := 0) (by decide +kernel) rfl
theorem r115_36 : xT d 115 36 ([l0, l1, l2, .int w, l4]) (.int v :: st) h Q ↔ xT d 115 38 ([l0, l1, l2, .int w, .int v]) (st) h Q := xT_istore (k := 4) (by decide +kernel) rfl (Nat.le_of_ble_eq_true rfl) rfl
theorem r115_38 : xT d 115 38 (l0 :: l1 :: l2 :: l3 :: .int v :: ls) (st) h Q ↔ xT d 115 40 (l0 :: l1 :: l2 :: l3 :: .int v :: ls) (.int v :: st) h Q := xT_iload (k := 4) (by decide +kernel) rfl rfl
theorem r115_40 : xT d 115 40 (l0 :: l1 :: l2 :: .int v :: ls) (st) h Q ↔ xT d 115 41 (l0 :: l1 :: l2 :: .int v :: ls) (.int v :: st) h Q := xT_iload_n (k := 3) (by decide +kernel) rfl rfl
theorem r115_41 (x0 : -2147483648 ≤ x) (x1 : x ≤ 2147483647) (y0 : -2147483648 ≤ y) (y1 : y ≤ 2147483647) : xT d 115 41 (ls) (.int (xI y) :: .int (xI x) :: st) h Q ↔ (x < y → xT d 115 44 (ls) (st) h Q) ∧ (¬ x < y → xT d 115 59 (ls) (st) h Q) := xT_icge (off := 18) (by decide +kernel) rfl rfl x0 x1 y0 y1
theorem r115_44 : xT d 115 44 (.ref ov :: ls) (st) h Q ↔ xT d 115 45 (.ref ov :: ls) (.ref ov :: st) h Q := xT_aload_n (k := 0) (by decide +kernel) rfl rfl
theorem r115_45 : xT d 115 45 (ls) (st) h Q ↔ xT d 115 46 (ls) (.int (xI 1) :: st) h Q := xT_iconst (n := 1) (by decide +kernel) rfl
theorem r115_46 : xT d 115 46 (l0 :: l1 :: l2 :: l3 :: .int v :: ls) (st) h Q ↔ xT d 115 48 (l0 :: l1 :: l2 :: l3 :: .int v :: ls) (.int v :: st) h Q := xT_iload (k := 4) (by decide +kernel) rfl rfl
theorem r115_48 : xT d 115 48 (ls) (.int (xI y) :: .int (xI x) :: st) h Q ↔ xT d 115 49 (ls) (.int (xI (x + y)) :: st) h Q := xT_iadd (by decide +kernel) rfl
theorem r115_49 : xT d 115 49 (ls) (st) h Q ↔ xT d 115 50 (ls) (.int (xI 1) :: st) h Q := xT_iconst (n := 1) (by decide +kernel) rfl
theorem r115_50 {z0 : Int32} {z1 : Int32} (hd : 1 ≤ d) : xT d 115 50 (ls) ([.int z0, .int z1, .ref 21]) (hh f a g) Q ↔ xTC (d - 1) 113 [.ref 21, .int z1, .int z0] (hh f a g) (xAf d 115 50 (ls) [] Q) := xT_virtual (k := 125) (na := 2) (ci := 8) (by decide +kernel) (by decide +kernel) (by decide +kernel) ⟨Nat.le_of_ble_eq_true rfl, Nat.le_of_ble_eq_true rfl⟩ rfl rfl (Nat.le_of_ble_eq_true rfl) rfl rfl ⟨Nat.le_of_ble_eq_true rfl, Nat.le_of_ble_eq_true rfl⟩ (Nat.le_of_ble_eq_true rfl) hd
theorem r115_53 : xT d 115 53 ([l0, l1, l2, .int w, .int (xI x)]) (st) h Q ↔ xT d 115 56 ([l0, l1, l2, .int w, .int (xI (x + 1))]) (st) h Q := xT_iinc (k := 4) (by decide +kernel) rfl rfl rfl
theorem r115_56 : xT d 115 56 (ls) (st) h Q ↔ xT d 115 38 (ls) (st) h Q := xT_goto (off := (-18)) (by decide +kernel) rfl
theorem r115_59 : xT d 115 59 (l0 :: l1 :: l2 :: .int v :: ls) (st) h Q ↔ xT d 115 60 (l0 :: l1 :: l2 :: .int v :: ls) (.int v :: st) h Q := xT_iload_n (k := 3) (by decide +kernel) rfl rfl
theorem r115_60 : xT d 115 60 (ls) (st) h Q ↔ xT d 115 62 (ls) (.int (xI 8) :: st) h Q := xT_bipush (n := 8) (by decide +kernel) rfl (by decide +kernel)
theorem r115_62 (x0 : -2147483648 ≤ x) (x1 : x ≤ 2147483647) (y0 : -2147483648 ≤ y) (y1 : y ≤ 2147483647) : xT d 115 62 (ls) (.int (xI y) :: .int (xI x) :: st) h Q ↔ (x < y → xT d 115 65 (ls) (st) h Q) ∧ (¬ x < y → xT d 115 73 (ls) (st) h Q) := xT_icge (off := 11) (by decide +kernel) rfl rfl x0 x1 y0 y1
theorem r115_65 : xT d 115 65 (.ref ov :: ls) (st) h Q ↔ xT d 115 66 (.ref ov :: ls) (.ref ov :: st) h Q := xT_aload_n (k := 0) (by decide +kernel) rfl rfl
theorem r115_66 : xT d 115 66 (ls) (st) h Q ↔ xT d 115 67 (ls) (.int (xI 1) :: st) h Q := xT_iconst (n := 1) (by decide +kernel) rfl
theorem r115_67 : xT d 115 67 (l0 :: l1 :: l2 :: .int v :: ls) (st) h Q ↔ xT d 115 68 (l0 :: l1 :: l2 :: .int v :: ls) (.int v :: st) h Q := xT_iload_n (k := 3) (by decide +kernel) rfl rfl
theorem r115_68 : xT d 115 68 (ls) (.int (xI y) :: .int (xI x) :: st) h Q ↔ xT d 115 69 (ls) (.int (xI (x + y)) :: st) h Q := xT_iadd (by decide +kernel) rfl
theorem r115_69 : xT d 115 69 (ls) (st) h Q ↔ xT d 115 70 (ls) (.int (xI 0) :: st) h Q := xT_iconst (n := 0) (by decide +kernel) rfl
theorem r115_70 {z0 : Int32} {z1 : Int32} (hd : 1 ≤ d) : xT d 115 70 (ls) ([.int z0, .int z1, .ref 21]) (hh f a g) Q ↔ xTC (d - 1) 113 [.ref 21, .int z1, .int z0] (hh f a g) (xAf d 115 70 (ls) [] Q) := xT_virtual (k := 125) (na := 2) (ci := 8) (by decide +kernel) (by decide +kernel) (by decide +kernel) ⟨Nat.le_of_ble_eq_true rfl, Nat.le_of_ble_eq_true rfl⟩ rfl rfl (Nat.le_of_ble_eq_true rfl) rfl rfl ⟨Nat.le_of_ble_eq_true rfl, Nat.le_of_ble_eq_true rfl⟩ (Nat.le_of_ble_eq_true rfl) hd
theorem r115_73 : xT d 115 73 (l0 :: l1 :: l2 :: .int v :: ls) (st) h Q ↔ xT d 115 74 (l0 :: l1 :: l2 :: .int v :: ls) (.int v :: st) h Q := xT_iload_n (k := 3) (by decide +kernel) rfl rfl
theorem r115_74 : xT d 115 74 (ls) (st) h Q ↔ xT d 115 75 (ls) (.int (xI 1) :: st) h Q := xT_iconst (n := 1) (by decide +kernel) rfl
theorem r115_75 : xT d 115 75 (ls) (.int (xI y) :: .int (xI x) :: st) h Q ↔ xT d 115 76 (ls) (.int (xI (x - y)) :: st) h Q := xT_isub (by decide +kernel) rfl
theorem r115_76 : xT d 115 76 ([l0, l1, l2, .int w, l4]) (.int v :: st) h Q ↔ xT d 115 78 ([l0, l1, l2, .int w, .int v]) (st) h Q := xT_istore (k := 4) (by decide +kernel) rfl (Nat.le_of_ble_eq_true rfl) rfl
theorem r115_78 : xT d 115 78 (l0 :: l1 :: l2 :: l3 :: .int v :: ls) (st) h Q ↔ xT d 115 80 (l0 :: l1 :: l2 :: l3 :: .int v :: ls) (.int v :: st) h Q := xT_iload (k := 4) (by decide +kernel) rfl rfl
theorem r115_80 (x0 : -2147483648 ≤ x) (x1 : x ≤ 2147483647) : xT d 115 80 (ls) (.int (xI x) :: st) h Q ↔ (x < 0 → xT d 115 104 (ls) (st) h Q) ∧ (¬ x < 0 → xT d 115 83 (ls) (st) h Q) := xT_iflt (off := 24) (by decide +kernel) rfl rfl x0 x1
theorem r115_83 : xT d 115 83 (.ref ov :: ls) (st) h Q ↔ xT d 115 84 (.ref ov :: ls) (.ref ov :: st) h Q := xT_aload_n (k := 0) (by decide +kernel) rfl rfl
theorem r115_84 : xT d 115 84 (ls) (st) h Q ↔ xT d 115 86 (ls) (.int (xI 10) :: st) h Q := xT_bipush (n := 10) (by decide +kernel) rfl (by decide +kernel)
theorem r115_86 : xT d 115 86 (l0 :: l1 :: l2 :: l3 :: .int v :: ls) (st) h Q ↔ xT d 115 88 (l0 :: l1 :: l2 :: l3 :: .int v :: ls) (.int v :: st) h Q := xT_iload (k := 4) (by decide +kernel) rfl rfl
theorem r115_88 : xT d 115 88 (ls) (.int (xI y) :: .int (xI x) :: st) h Q ↔ xT d 115 89 (ls) (.int (xI (x + y)) :: st) h Q := xT_iadd (by decide +kernel) rfl
theorem r115_89 : xT d 115 89 (l0 :: l1 :: .int v :: ls) (st) h Q ↔ xT d 115 90 (l0 :: l1 :: .int v :: ls) (.int v :: st) h Q := xT_iload_n (k := 2) (by decide +kernel) rfl rfl
theorem r115_90 : xT d 115 90 (l0 :: l1 :: l2 :: l3 :: .int v :: ls) (st) h Q ↔ xT d 115 92 (l0 :: l1 :: l2 :: l3 :: .int v :: ls) (.int v :: st) h Q := xT_iload (k := 4) (by decide +kernel) rfl rfl
theorem r115_92 (y0 : 0 ≤ y) (y1 : y ≤ 31) (x0 : -2147483648 ≤ x) (x1 : x ≤ 2147483647) : xT d 115 92 (ls) (.int (xI y) :: .int (xI x) :: st) h Q ↔ xT d 115 93 (ls) (.int (xI (x / 2 ^ y.toNat)) :: st) h Q := xT_ishr (by decide +kernel) rfl y0 y1 x0 x1
theorem r115_93 : xT d 115 93 (ls) (st) h Q ↔ xT d 115 94 (ls) (.int (xI 1) :: st) h Q := xT_iconst (n := 1) (by decide +kernel) rfl
theorem r115_94 : xT d 115 94 (ls) (.int (xI y) :: .int (xI x) :: st) h Q ↔ xT d 115 95 (ls) (.int (xI (xA x y)) :: st) h Q := xT_iand (by decide +kernel) rfl
theorem r115_95 {z0 : Int32} {z1 : Int32} (hd : 1 ≤ d) : xT d 115 95 (ls) ([.int z0, .int z1, .ref 21]) (hh f a g) Q ↔ xTC (d - 1) 113 [.ref 21, .int z1, .int z0] (hh f a g) (xAf d 115 95 (ls) [] Q) := xT_virtual (k := 125) (na := 2) (ci := 8) (by decide +kernel) (by decide +kernel) (by decide +kernel) ⟨Nat.le_of_ble_eq_true rfl, Nat.le_of_ble_eq_true rfl⟩ rfl rfl (Nat.le_of_ble_eq_true rfl) rfl rfl ⟨Nat.le_of_ble_eq_true rfl, Nat.le_of_ble_eq_true rfl⟩ (Nat.le_of_ble_eq_true rfl) hd
theorem r115_98 : xT d 115 98 ([l0, l1, l2, .int w, .int (xI x)]) (st) h Q ↔ xT d 115 101 ([l0, l1, l2, .int w, .int (xI (x + (-1)))]) (st) h Q := xT_iinc (k := 4) (by decide +kernel) rfl rfl rfl
theorem r115_101 : xT d 115 101 (ls) (st) h Q ↔ xT d 115 78 (ls) (st) h Q := xT_goto (off := (-23)) (by decide +kernel) rfl
theorem r115_104 : xT d 115 104 (.ref ov :: ls) (st) h Q ↔ xT d 115 105 (.ref ov :: ls) (.ref ov :: st) h Q := xT_aload_n (k := 0) (by decide +kernel) rfl rfl
theorem r115_105 : xT d 115 105 (ls) (st) h Q ↔ xT d 115 107 (ls) (.int (xI 18) :: st) h Q := xT_bipush (n := 18) (by decide +kernel) rfl (by decide +kernel)
theorem r115_107 : xT d 115 107 (l0 :: .int v :: ls) (st) h Q ↔ xT d 115 108 (l0 :: .int v :: ls) (.int v :: st) h Q := xT_iload_n (k := 1) (by decide +kernel) rfl rfl
theorem r115_108 (x0 : -2147483648 ≤ x) (x1 : x ≤ 2147483647) : xT d 115 108 (ls) (.int (xI x) :: st) h Q ↔ (x < 0 → xT d 115 111 (ls) (st) h Q) ∧ (¬ x < 0 → xT d 115 115 (ls) (st) h Q) := xT_ifge (off := 7) (by decide +kernel) rfl rfl x0 x1
theorem r115_111 : xT d 115 111 (ls) (st) h Q ↔ xT d 115 112 (ls) (.int (xI 1) :: st) h Q := xT_iconst (n := 1) (by decide +kernel) rfl
theorem r115_112 : xT d 115 112 (ls) (st) h Q ↔ xT d 115 116 (ls) (st) h Q := xT_goto (off := 4) (by decide +kernel) rfl
theorem r115_115 : xT d 115 115 (ls) (st) h Q ↔ xT d 115 116 (ls) (.int (xI 0) :: st) h Q := xT_iconst (n := 0) (by decide +kernel) rfl
theorem r115_116 {z0 : Int32} {z1 : Int32} (hd : 1 ≤ d) : xT d 115 116 (ls) ([.int z0, .int z1, .ref 21]) (hh f a g) Q ↔ xTC (d - 1) 113 [.ref 21, .int z1, .int z0] (hh f a g) (xAf d 115 116 (ls) [] Q) := xT_virtual (k := 125) (na := 2) (ci := 8) (by decide +kernel) (by decide +kernel) (by decide +kernel) ⟨Nat.le_of_ble_eq_true rfl, Nat.le_of_ble_eq_true rfl⟩ rfl rfl (Nat.le_of_ble_eq_true rfl) rfl rfl ⟨Nat.le_of_ble_eq_true rfl, Nat.le_of_ble_eq_true rfl⟩ (Nat.le_of_ble_eq_true rfl) hd
theorem r115_119 : xT d 115 119 (ls) ([]) h Q ↔ Q (h, .returned none) := xT_return (by decide +kernel) rfl
theorem e115 {z0 : Nat} {z1 : Int32} : xTC d 115 [.ref z0, .int z1] h Q ↔ xT d 115 0 [.ref z0, .int z1, .null, .null, .null] [] h Q := Iff.rfl
-- M_codeSlice
theorem r116_0 : xT d 116 0 (.ref ov :: ls) (st) h Q ↔ xT d 116 1 (.ref ov :: ls) (.ref ov :: st) h Q := xT_aload_n (k := 0) (by decide +kernel) rfl rfl
theorem r116_1 (hd : 1 ≤ d) : xT d 116 1 (ls) ([.ref 21]) (hh f a g) Q ↔ xTC (d - 1) 102 [.ref 21] (hh f a g) (xAf d 116 1 (ls) [] Q) := xT_virtual (k := 131) (na := 0) (ci := 8) (by decide +kernel) (by decide +kernel) (by decide +kernel) ⟨Nat.le_of_ble_eq_true rfl, Nat.le_of_ble_eq_true rfl⟩ rfl rfl (Nat.le_of_ble_eq_true rfl) rfl rfl ⟨Nat.le_of_ble_eq_true rfl, Nat.le_of_ble_eq_true rfl⟩ (Nat.le_of_ble_eq_true rfl) hd
theorem r116_4 : xT d 116 4 (.ref ov :: ls) (st) h Q ↔ xT d 116 5 (.ref ov :: ls) (.ref ov :: st) h Q := xT_aload_n (k := 0) (by decide +kernel) rfl rfl
theorem r116_5 : xT d 116 5 (.ref ov :: ls) (st) h Q ↔ xT d 116 6 (.ref ov :: ls) (.ref ov :: st) h Q := xT_aload_n (k := 0) (by decide +kernel) rfl rfl
theorem r116_6 : xT d 116 6 (ls) (.ref 21 :: st) (hh f a g) Q ↔ xT d 116 9 (ls) (.int (xI (f 21 17)) :: st) (hh f a g) Q := xT_getf (k := 134) (ci := 8) (fi := 17) (by decide +kernel) rfl rfl ⟨Nat.le_of_ble_eq_true rfl, Nat.le_of_ble_eq_true rfl⟩ (by decide +kernel) rfl
theorem r116_9 (x0 : -2147483648 ≤ x) (x1 : x ≤ 2147483647) : xT d 116 9 (ls) (.int (xI x) :: st) h Q ↔ (x = 0 → xT d 116 12 (ls) (st) h Q) ∧ (¬ x = 0 → xT d 116 16 (ls) (st) h Q) := xT_ifne (off := 7) (by decide +kernel) rfl rfl x0 x1
theorem r116_12 : xT d 116 12 (ls) (st) h Q ↔ xT d 116 13 (ls) (.int (xI 0) :: st) h Q := xT_iconst (n := 0) (by decide +kernel) rfl
theorem r116_13 : xT d 116 13 (ls) (st) h Q ↔ xT d 116 17 (ls) (st) h Q := xT_goto (off := 4) (by decide +kernel) rfl
theorem r116_16 : xT d 116 16 (ls) (st) h Q ↔ xT d 116 17 (ls) (.int (xI 2) :: st) h Q := xT_iconst (n := 2) (by decide +kernel) rfl
theorem r116_17 : xT d 116 17 (ls) (.int (xI x) :: .ref 21 :: st) (hh f a g) Q ↔ xT d 116 20 (ls) (st) (hh (xu f 21 29 x) a g) Q := xT_putf (k := 95) (ci := 8) (fi := 29) (by decide +kernel) rfl rfl ⟨Nat.le_of_ble_eq_true rfl, Nat.le_of_ble_eq_true rfl⟩ (by decide +kernel) (by decide +kernel) (by decide +kernel) rfl
theorem r116_20 : xT d 116 20 (.ref ov :: ls) (st) h Q ↔ xT d 116 21 (.ref ov :: ls) (.ref ov :: st) h Q := xT_aload_n (k := 0) (by decide +kernel) rfl rfl
theorem r116_21 : xT d 116 21 (ls) (.ref 21 :: st) (hh f a g) Q ↔ xT d 116 24 (ls) (.ref 31 :: st) (hh f a g) Q := xT_getf (k := 47) (ci := 8) (fi := 28) (by decide +kernel) rfl rfl ⟨Nat.le_of_ble_eq_true rfl, Nat.le_of_ble_eq_true rfl⟩ (by decide +kernel) rfl
theorem r116_24 : xT d 116 24 (ls) (st) h Q ↔ xT d 116 25 (ls) (.int (xI 0) :: st) h Q := xT_iconst (n := 0) (by decide +kernel) rfl
theorem r116_25 : xT d 116 25 (ls) (st) h Q ↔ xT d 116 26 (ls) (.int (xI 0) :: st) h Q := xT_iconst (n := 0) (by decide +kernel) rfl
theorem r116_26 (x0 : 0 ≤ x) (x1 : x < 1400) : xT d 116 26 (ls) (.int (xI y) :: .int (xI x) :: .ref 31 :: st) (hh f a g) Q ↔ xT d 116 27 (ls) (st) (hh f (xw a 31 x y) g) Q := xT_iastore (N := 1400) (by decide +kernel) rfl rfl ⟨Nat.le_of_ble_eq_true rfl, Nat.le_of_ble_eq_true rfl⟩ x0 x1 (Nat.le_of_ble_eq_true rfl)
theorem r116_27 : xT d 116 27 (.ref ov :: ls) (st) h Q ↔ xT d 116 28 (.ref ov :: ls) (.ref ov :: st) h Q := xT_aload_n (k := 0) (by decide +kernel) rfl rfl
theorem r116_28 : xT d 116 28 (ls) (.ref 21 :: st) (hh f a g) Q ↔ xT d 116 31 (ls) (.ref 31 :: st) (hh f a g) Q := xT_getf (k := 47) (ci := 8) (fi := 28) (by decide +kernel) rfl rfl ⟨Nat.le_of_ble_eq_true rfl, Nat.le_of_ble_eq_true rfl⟩ (by decide +kernel) rfl
theorem r116_31 : xT d 116 31 (ls) (st) h Q ↔ xT d 116 32 (ls) (.int (xI 1) :: st) h Q := xT_iconst (n := 1) (by decide +kernel) rfl
theorem r116_32 : xT d 116 32 (ls) (st) h Q ↔ xT d 116 33 (ls) (.int (xI 0) :: st) h Q := xT_iconst (n := 0) (by decide +kernel) rfl
theorem r116_33 (x0 : 0 ≤ x) (x1 : x < 1400) : xT d 116 33 (ls) (.int (xI y) :: .int (xI x) :: .ref 31 :: st) (hh f a g) Q ↔ xT d 116 34 (ls) (st) (hh f (xw a 31 x y) g) Q := xT_iastore (N := 1400) (by decide +kernel) rfl rfl ⟨Nat.le_of_ble_eq_true rfl, Nat.le_of_ble_eq_true rfl⟩ x0 x1 (Nat.le_of_ble_eq_true rfl)
theorem r116_34 : xT d 116 34 (.ref ov :: ls) (st) h Q ↔ xT d 116 35 (.ref ov :: ls) (.ref ov :: st) h Q := xT_aload_n (k := 0) (by decide +kernel) rfl rfl
theorem r116_35 : xT d 116 35 (ls) (st) h Q ↔ xT d 116 36 (ls) (.int (xI 0) :: st) h Q := xT_iconst (n := 0) (by decide +kernel) rfl
theorem r116_36 : xT d 116 36 (ls) (.int (xI x) :: .ref 21 :: st) (hh f a g) Q ↔ xT d 116 39 (ls) (st) (hh (xu f 21 30 x) a g) Q := xT_putf (k := 92) (ci := 8) (fi := 30) (by decide +kernel) rfl rfl ⟨Nat.le_of_ble_eq_true rfl, Nat.le_of_ble_eq_true rfl⟩ (by decide +kernel) (by decide +kernel) (by decide +kernel) rfl
theorem r116_39 : xT d 116 39 (.ref ov :: ls) (st) h Q ↔ xT d 116 40 (.ref ov :: ls) (.ref ov :: st) h Q := xT_aload_n (k := 0) (by decide +kernel) rfl rfl
theorem r116_40 : xT d 116 40 (ls) (st) h Q ↔ xT d 116 42 (ls) (.int (xI 65280) :: st) h Q := xT_ldc (k := 137) (n := 65280) (by decide +kernel) rfl (by decide +kernel)
theorem r116_42 : xT d 116 42 (ls) (.int (xI x) :: .ref 21 :: st) (hh f a g) Q ↔ xT d 116 45 (ls) (st) (hh (xu f 21 31 x) a g) Q := xT_putf (k := 113) (ci := 8) (fi := 31) (by decide +kernel) rfl rfl ⟨Nat.le_of_ble_eq_true rfl, Nat.le_of_ble_eq_true rfl⟩ (by decide +kernel) (by decide +kernel) (by decide +kernel) rfl
theorem r116_45 : xT d 116 45 (ls) (st) h Q ↔ xT d 116 46 (ls) (.int (xI 0) :: st) h Q := xT_iconst (n := 0) (by decide +kernel) rfl
theorem r116_46 : xT d 116 46 ([l0, l1, l2, .int w, l4, l5, l6, l7, l8, l9]) (.int v :: st) h Q ↔ xT d 116 48 ([l0, l1, l2, .int w, .int v, l5, l6, l7, l8, l9]) (st) h Q := xT_istore (k := 4) (by decide +kernel) rfl (Nat.le_of_ble_eq_true rfl) rfl
theorem r116_48 : xT d 116 48 (l0 :: l1 :: l2 :: l3 :: .int v :: ls) (st) h Q ↔ xT d 116 50 (l0 :: l1 :: l2 :: l3 :: .int v :: ls) (.int v :: st) h Q := xT_iload (k := 4) (by decide +kernel) rfl rfl
theorem r116_50 : xT d 116 50 (l0 :: l1 :: l2 :: .int v :: ls) (st) h Q ↔ xT d 116 51 (l0 :: l1 :: l2 :: .int v :: ls) (.int v :: st) h Q := xT_iload_n (k := 3) (by decide +kernel) rfl rfl
theorem r116_51 (x0 : -2147483648 ≤ x) (x1 : x ≤ 2147483647) (y0 : -2147483648 ≤ y) (y1 : y ≤ 2147483647) : xT d 116 51 (ls) (.int (xI y) :: .int (xI x) :: st) h Q ↔ (x < y → xT d 116 54 (ls) (st) h Q) ∧ (¬ x < y → xT d 116 201 (ls) (st) h Q) := xT_icge (off := 150) (by decide +kernel) rfl rfl x0 x1 y0 y1
theorem r116_54 : xT d 116 54 (l0 :: .int v :: ls) (st) h Q ↔ xT d 116 55 (l0 :: .int v :: ls) (.int v :: st) h Q := xT_iload_n (k := 1) (by decide +kernel) rfl rfl
theorem r116_55 : xT d 116 55 (.ref ov :: ls) (st) h Q ↔ xT d 116 56 (.ref ov :: ls) (.ref ov :: st) h Q := xT_aload_n (k := 0) (by decide +kernel) rfl rfl
theorem r116_56 : xT d 116 56 (ls) (.ref 21 :: st) (hh f a g) Q ↔ xT d 116 59 (ls) (.int (xI (f 21 20)) :: st) (hh f a g) Q := xT_getf (k := 71) (ci := 8) (fi := 20) (by decide +kernel) rfl rfl ⟨Nat.le_of_ble_eq_true rfl, Nat.le_of_ble_eq_true rfl⟩ (by decide +kernel) rfl
theorem r116_59 : xT d 116 59 (ls) (.int (xI y) :: .int (xI x) :: st) h Q ↔ xT d 116 60 (ls) (.int (xI (x * y)) :: st) h Q := xT_imul (by decide +kernel) rfl
theorem r116_60 : xT d 116 60 ([l0, l1, l2, l3, .int w, l5, l6, l7, l8, l9]) (.int v :: st) h Q ↔ xT d 116 62 ([l0, l1, l2, l3, .int w, .int v, l6, l7, l8, l9]) (st) h Q := xT_istore (k := 5) (by decide +kernel) rfl (Nat.le_of_ble_eq_true rfl) rfl
theorem r116_62 : xT d 116 62 (l0 :: l1 :: l2 :: l3 :: l4 :: .int v :: ls) (st) h Q ↔ xT d 116 64 (l0 :: l1 :: l2 :: l3 :: l4 :: .int v :: ls) (.int v :: st) h Q := xT_iload (k := 5) (by decide +kernel) rfl rfl
theorem r116_64 : xT d 116 64 (l0 :: l1 :: .int v :: ls) (st) h Q ↔ xT d 116 65 (l0 :: l1 :: .int v :: ls) (.int v :: st) h Q := xT_iload_n (k := 2) (by decide +kernel) rfl rfl
theorem r116_65 : xT d 116 65 (.ref ov :: ls) (st) h Q ↔ xT d 116 66 (.ref ov :: ls) (.ref ov :: st) h Q := xT_aload_n (k := 0) (by decide +kernel) rfl rfl
theorem r116_66 : xT d 116 66 (ls) (.ref 21 :: st) (hh f a g) Q ↔ xT d 116 69 (ls) (.int (xI (f 21 20)) :: st) (hh f a g) Q := xT_getf (k := 71) (ci := 8) (fi := 20) (by decide +kernel) rfl rfl ⟨Nat.le_of_ble_eq_true rfl, Nat.le_of_ble_eq_true rfl⟩ (by decide +kernel) rfl
theorem r116_69 : xT d 116 69 (ls) (.int (xI y) :: .int (xI x) :: st) h Q ↔ xT d 116 70 (ls) (.int (xI (x * y)) :: st) h Q := xT_imul (by decide +kernel) rfl
theorem r116_70 (x0 : -2147483648 ≤ x) (x1 : x ≤ 2147483647) (y0 : -2147483648 ≤ y) (y1 : y ≤ 2147483647) : xT d 116 70 (ls) (.int (xI y) :: .int (xI x) :: st) h Q ↔ (x < y → xT d 116 73 (ls) (st) h Q) ∧ (¬ x < y → xT d 116 195 (ls) (st) h Q) := xT_icge (off := 125) (by decide +kernel) rfl rfl x0 x1 y0 y1
theorem r116_73 : xT d 116 73 (l0 :: l1 :: l2 :: l3 :: l4 :: .int v :: ls) (st) h Q ↔ xT d 116 75 (l0 :: l1 :: l2 :: l3 :: l4 :: .int v :: ls) (.int v :: st) h Q := xT_iload (k := 5) (by decide +kernel) rfl rfl
theorem r116_75 : xT d 116 75 (.ref ov :: ls) (st) h Q ↔ xT d 116 76 (.ref ov :: ls) (.ref ov :: st) h Q := xT_aload_n (k := 0) (by decide +kernel) rfl rfl
theorem r116_76 : xT d 116 76 (ls) (.ref 21 :: st) (hh f a g) Q ↔ xT d 116 79 (ls) (.int (xI (f 21 20)) :: st) (hh f a g) Q := xT_getf (k := 71) (ci := 8) (fi := 20) (by decide +kernel) rfl rfl ⟨Nat.le_of_ble_eq_true rfl, Nat.le_of_ble_eq_true rfl⟩ (by decide +kernel) rfl
theorem r116_79 (x0 : 0 ≤ x) (x1 : x ≤ 2147483647) (y0 : 0 < y) (y1 : y ≤ 2147483647) : xT d 116 79 (ls) (.int (xI y) :: .int (xI x) :: st) h Q ↔ xT d 116 80 (ls) (.int (xI (x % y)) :: st) h Q := xT_irem (by decide +kernel) rfl x0 x1 y0 y1
theorem r116_79_t (x0 : -2147483648 < x) (x1 : x ≤ 2147483647) (y0 : 0 < y) (y1 : y ≤ 2147483647) : xT d 116 79 (ls) (.int (xI y) :: .int (xI x) :: st) h Q ↔ xT d 116 80 (ls) (.int (xI (x.tmod y)) :: st) h Q := xT_tmod (by decide +kernel) rfl x0 x1 y0 y1
theorem r116_80 : xT d 116 80 ([l0, l1, l2, l3, l4, .int w, l6, l7, l8, l9]) (.int v :: st) h Q ↔ xT d 116 82 ([l0, l1, l2, l3, l4, .int w, .int v, l7, l8, l9]) (st) h Q := xT_istore (k := 6) (by decide +kernel) rfl (Nat.le_of_ble_eq_true rfl) rfl
theorem r116_82 : xT d 116 82 (l0 :: l1 :: l2 :: l3 :: l4 :: .int v :: ls) (st) h Q ↔ xT d 116 84 (l0 :: l1 :: l2 :: l3 :: l4 :: .int v :: ls) (.int v :: st) h Q := xT_iload (k := 5) (by decide +kernel) rfl rfl
theorem r116_84 : xT d 116 84 (.ref ov :: ls) (st) h Q ↔ xT d 116 85 (.ref ov :: ls) (.ref ov :: st) h Q := xT_aload_n (k := 0) (by decide +kernel) rfl rfl
theorem r116_85 : xT d 116 85 (ls) (.ref 21 :: st) (hh f a g) Q ↔ xT d 116 88 (ls) (.int (xI (f 21 20)) :: st) (hh f a g) Q := xT_getf (k := 71) (ci := 8) (fi := 20) (by decide +kernel) rfl rfl ⟨Nat.le_of_ble_eq_true rfl, Nat.le_of_ble_eq_true rfl⟩ (by decide +kernel) rfl
theorem r116_88 (x0 : 0 ≤ x) (x1 : x ≤ 2147483647) (y0 : 0 < y) (y1 : y ≤ 2147483647) : xT d 116 88 (ls) (.int (xI y) :: .int (xI x) :: st) h Q ↔ xT d 116 89 (ls) (.int (xI (x / y)) :: st) h Q := xT_idiv (by decide +kernel) rfl x0 x1 y0 y1
theorem r116_88_t (x0 : -2147483648 < x) (x1 : x ≤ 2147483647) (y0 : 0 < y) (y1 : y ≤ 2147483647) : xT d 116 88 (ls) (.int (xI y) :: .int (xI x) :: st) h Q ↔ xT d 116 89 (ls) (.int (xI (x.tdiv y)) :: st) h Q := xT_tdiv (by decide +kernel) rfl x0 x1 y0 y1
theorem r116_89 : xT d 116 89 ([l0, l1, l2, l3, l4, l5, .int w, l7, l8, l9]) (.int v :: st) h Q ↔ xT d 116 91 ([l0, l1, l2, l3, l4, l5, .int w, .int v, l8, l9]) (st) h Q := xT_istore (k := 7) (by decide +kernel) rfl (Nat.le_of_ble_eq_true rfl) rfl
theorem r116_91 : xT d 116 91 (.ref ov :: ls) (st) h Q ↔ xT d 116 92 (.ref ov :: ls) (.ref ov :: st) h Q := xT_aload_n (k := 0) (by decide +kernel) rfl rfl
theorem r116_92 : xT d 116 92 (l0 :: l1 :: l2 :: l3 :: .int v :: ls) (st) h Q ↔ xT d 116 94 (l0 :: l1 :: l2 :: l3 :: .int v :: ls) (.int v :: st) h Q := xT_iload (k := 4) (by decide +kernel) rfl rfl
theorem r116_94 : xT d 116 94 (l0 :: l1 :: l2 :: l3 :: l4 :: l5 :: .int v :: ls) (st) h Q ↔ xT d 116 96 (l0 :: l1 :: l2 :: l3 :: l4 :: l5 :: .int v :: ls) (.int v :: st) h Q := xT_iload (k := 6) (by decide +kernel) rfl rfl
theorem r116_96 : xT d 116 96 (l0 :: l1 :: l2 :: l3 :: l4 :: l5 :: l6 :: .int v :: ls) (st) h Q ↔ xT d 116 98 (l0 :: l1 :: l2 :: l3 :: l4 :: l5 :: l6 :: .int v :: ls) (.int v :: st) h Q := xT_iload (k := 7) (by decide +kernel) rfl rfl
theorem r116_98 : xT d 116 98 (l0 :: .int v :: ls) (st) h Q ↔ xT d 116 99 (l0 :: .int v :: ls) (.int v :: st) h Q := xT_iload_n (k := 1) (by decide +kernel) rfl rfl
theorem r116_99 {z0 : Int32} {z1 : Int32} {z2 : Int32} {z3 : Int32} (hd : 1 ≤ d) : xT d 116 99 (ls) ([.int z0, .int z1, .int z2, .int z3, .ref 21]) (hh f a g) Q ↔ xTC (d - 1) 101 [.ref 21, .int z3, .int z2, .int z1, .int z0] (hh f a g) (xAf d 116 99 (ls) [] Q) := xT_virtual (k := 138) (na := 4) (ci := 8) (by decide +kernel) (by decide +kernel) (by decide +kernel) ⟨Nat.le_of_ble_eq_true rfl, Nat.le_of_ble_eq_true rfl⟩ rfl rfl (Nat.le_of_ble_eq_true rfl) rfl rfl ⟨Nat.le_of_ble_eq_true rfl, Nat.le_of_ble_eq_true rfl⟩ (Nat.le_of_ble_eq_true rfl) hd
theorem r116_102 : xT d 116 102 (l0 :: l1 :: l2 :: l3 :: .int v :: ls) (st) h Q ↔ xT d 116 104 (l0 :: l1 :: l2 :: l3 :: .int v :: ls) (.int v :: st) h Q := xT_iload (k := 4) (by decide +kernel) rfl rfl
theorem r116_104 {z0 : Int32} (hd : 1 ≤ d) : xT d 116 104 (ls) ([.int z0]) h Q ↔ xTC (d - 1) 100 [.int z0] h (xAf d 116 104 (ls) [] Q) := xT_static (k := 142) (na := 1) (by decide +kernel) (by decide +kernel) ⟨Nat.le_of_ble_eq_true rfl, Nat.le_of_ble_eq_true rfl⟩ rfl rfl (Nat.le_of_ble_eq_true rfl) (Nat.le_of_ble_eq_true rfl) hd
theorem r116_107 : xT d 116 107 ([l0, l1, l2, l3, l4, l5, l6, .int w, l8, l9]) (.int v :: st) h Q ↔ xT d 116 109 ([l0, l1, l2, l3, l4, l5, l6, .int w, .int v, l9]) (st) h Q := xT_istore (k := 8) (by decide +kernel) rfl (Nat.le_of_ble_eq_true rfl) rfl
theorem r116_109 : xT d 116 109 (.ref ov :: ls) (st) h Q ↔ xT d 116 110 (.ref ov :: ls) (.ref ov :: st) h Q := xT_aload_n (k := 0) (by decide +kernel) rfl rfl
theorem r116_110 : xT d 116 110 (ls) (.ref 21 :: st) (hh f a g) Q ↔ xT d 116 113 (ls) (.ref 27 :: st) (hh f a g) Q := xT_getf (k := 35) (ci := 8) (fi := 19) (by decide +kernel) rfl rfl ⟨Nat.le_of_ble_eq_true rfl, Nat.le_of_ble_eq_true rfl⟩ (by decide +kernel) rfl
theorem r116_113 : xT d 116 113 (ls) (st) h Q ↔ xT d 116 115 (ls) (.int (xI 36) :: st) h Q := xT_bipush (n := 36) (by decide +kernel) rfl (by decide +kernel)
theorem r116_115 : xT d 116 115 (l0 :: l1 :: l2 :: l3 :: .int v :: ls) (st) h Q ↔ xT d 116 117 (l0 :: l1 :: l2 :: l3 :: .int v :: ls) (.int v :: st) h Q := xT_iload (k := 4) (by decide +kernel) rfl rfl
theorem r116_117 : xT d 116 117 (ls) (.int (xI y) :: .int (xI x) :: st) h Q ↔ xT d 116 118 (ls) (.int (xI (x * y)) :: st) h Q := xT_imul (by decide +kernel) rfl
theorem r116_118 : xT d 116 118 (ls) (st) h Q ↔ xT d 116 120 (ls) (.int (xI 6) :: st) h Q := xT_bipush (n := 6) (by decide +kernel) rfl (by decide +kernel)
theorem r116_120 : xT d 116 120 (l0 :: l1 :: l2 :: l3 :: l4 :: l5 :: l6 :: .int v :: ls) (st) h Q ↔ xT d 116 122 (l0 :: l1 :: l2 :: l3 :: l4 :: l5 :: l6 :: .int v :: ls) (.int v :: st) h Q := xT_iload (k := 7) (by decide +kernel) rfl rfl
theorem r116_122 : xT d 116 122 (ls) (.int (xI y) :: .int (xI x) :: st) h Q ↔ xT d 116 123 (ls) (.int (xI (x * y)) :: st) h Q := xT_imul (by decide +kernel) rfl
theorem r116_123 : xT d 116 123 (ls) (.int (xI y) :: .int (xI x) :: st) h Q ↔ xT d 116 124 (ls) (.int (xI (x + y)) :: st) h Q := xT_iadd (by decide +kernel) rfl
theorem r116_124 : xT d 116 124 (l0 :: l1 :: l2 :: l3 :: l4 :: l5 :: .int v :: ls) (st) h Q ↔ xT d 116 126 (l0 :: l1 :: l2 :: l3 :: l4 :: l5 :: .int v :: ls) (.int v :: st) h Q := xT_iload (k := 6) (by decide +kernel) rfl rfl
theorem r116_126 : xT d 116 126 (ls) (.int (xI y) :: .int (xI x) :: st) h Q ↔ xT d 116 127 (ls) (.int (xI (x + y)) :: st) h Q := xT_iadd (by decide +kernel) rfl
theorem r116_127 (x0 : 0 ≤ x) (x1 : x < 108) : xT d 116 127 (ls) (.int (xI x) :: .ref 27 :: st) (hh f a g) Q ↔ xT d 116 128 (ls) (.int (xI (a 27 x)) :: st) (hh f a g) Q := xT_iaload (N := 108) (by decide +kernel) rfl rfl (Nat.le_of_ble_eq_true rfl) x0 x1 (Nat.le_of_ble_eq_true rfl)
theorem r116_128 : xT d 116 128 (.ref ov :: ls) (st) h Q ↔ xT d 116 129 (.ref ov :: ls) (.ref ov :: st) h Q := xT_aload_n (k := 0) (by decide +kernel) rfl rfl
theorem r116_129 : xT d 116 129 (ls) (.ref 21 :: st) (hh f a g) Q ↔ xT d 116 132 (ls) (.int (xI (f 21 25)) :: st) (hh f a g) Q := xT_getf (k := 78) (ci := 8) (fi := 25) (by decide +kernel) rfl rfl ⟨Nat.le_of_ble_eq_true rfl, Nat.le_of_ble_eq_true rfl⟩ (by decide +kernel) rfl
theorem r116_132 : xT d 116 132 (ls) (.int (xI y) :: .int (xI x) :: st) h Q ↔ xT d 116 133 (ls) (.int (xI (x - y)) :: st) h Q := xT_isub (by decide +kernel) rfl
theorem r116_133 : xT d 116 133 (l0 :: l1 :: l2 :: l3 :: l4 :: l5 :: l6 :: l7 :: .int v :: ls) (st) h Q ↔ xT d 116 135 (l0 :: l1 :: l2 :: l3 :: l4 :: l5 :: l6 :: l7 :: .int v :: ls) (.int v :: st) h Q := xT_iload (k := 8) (by decide +kernel) rfl rfl
theorem r116_135 {z0 : Int32} {z1 : Int32} (hd : 1 ≤ d) : xT d 116 135 (ls) ([.int z0, .int z1]) h Q ↔ xTC (d - 1) 105 [.int z1, .int z0] h (xAf d 116 135 (ls) [] Q) := xT_static (k := 145) (na := 2) (by decide +kernel) (by decide +kernel) ⟨Nat.le_of_ble_eq_true rfl, Nat.le_of_ble_eq_true rfl⟩ rfl rfl (Nat.le_of_ble_eq_true rfl) (Nat.le_of_ble_eq_true rfl) hd
theorem r116_138 : xT d 116 138 ([l0, l1, l2, l3, l4, l5, l6, l7, .int w, l9]) (.int v :: st) h Q ↔ xT d 116 140 ([l0, l1, l2, l3, l4, l5, l6, l7, .int w, .int v]) (st) h Q := xT_istore (k := 9) (by decide +kernel) rfl (Nat.le_of_ble_eq_true rfl) rfl
theorem r116_140 : xT d 116 140 (.ref ov :: ls) (st) h Q ↔ xT d 116 141 (.ref ov :: ls) (.ref ov :: st) h Q := xT_aload_n (k := 0) (by decide +kernel) rfl rfl
theorem r116_141 : xT d 116 141 (ls) (.ref 21 :: st) (hh f a g) Q ↔ xT d 116 144 (ls) (.int (xI (f 21 27)) :: st) (hh f a g) Q := xT_getf (k := 85) (ci := 8) (fi := 27) (by decide +kernel) rfl rfl ⟨Nat.le_of_ble_eq_true rfl, Nat.le_of_ble_eq_true rfl⟩ (by decide +kernel) rfl
theorem r116_144 (x0 : -2147483648 ≤ x) (x1 : x ≤ 2147483647) : xT d 116 144 (ls) (.int (xI x) :: st) h Q ↔ (x = 0 → xT d 116 163 (ls) (st) h Q) ∧ (¬ x = 0 → xT d 116 147 (ls) (st) h Q) := xT_ifeq (off := 19) (by decide +kernel) rfl rfl x0 x1
theorem r116_147 : xT d 116 147 (l0 :: l1 :: l2 :: l3 :: l4 :: l5 :: l6 :: l7 :: l8 :: .int v :: ls) (st) h Q ↔ xT d 116 149 (l0 :: l1 :: l2 :: l3 :: l4 :: l5 :: l6 :: l7 :: l8 :: .int v :: ls) (.int v :: st) h Q := xT_iload (k := 9) (by decide +kernel) rfl rfl
theorem r116_149 : xT d 116 149 (l0 :: l1 :: l2 :: l3 :: l4 :: l5 :: l6 :: l7 :: .int v :: ls) (st) h Q ↔ xT d 116 151 (l0 :: l1 :: l2 :: l3 :: l4 :: l5 :: l6 :: l7 :: .int v :: ls) (.int v :: st) h Q := xT_iload (k := 8) (by decide +kernel) rfl rfl
theorem r116_151 : xT d 116 151 (ls) (.int (xI x) :: st) h Q ↔ xT d 116 152 (ls) (.int (xI (-x)) :: st) h Q := xT_ineg (by decide +kernel) rfl
theorem r116_152 : xT d 116 152 (ls) (st) h Q ↔ xT d 116 153 (ls) (.int (xI 2) :: st) h Q := xT_iconst (n := 2) (by decide +kernel) rfl
theorem r116_153 (x0 : 0 ≤ x) (x1 : x ≤ 2147483647) (y0 : 0 < y) (y1 : y ≤ 2147483647) : xT d 116 153 (ls) (.int (xI y) :: .int (xI x) :: st) h Q ↔ xT d 116 154 (ls) (.int (xI (x / y)) :: st) h Q := xT_idiv (by decide +kernel) rfl x0 x1 y0 y1
theorem r116_153_t (x0 : -2147483648 < x) (x1 : x ≤ 2147483647) (y0 : 0 < y) (y1 : y ≤ 2147483647) : xT d 116 153 (ls) (.int (xI y) :: .int (xI x) :: st) h Q ↔ xT d 116 154 (ls) (.int (xI (x.tdiv y)) :: st) h Q := xT_tdiv (by decide +kernel) rfl x0 x1 y0 y1
theorem r116_154 (x0 : -2147483648 ≤ x) (x1 : x ≤ 2147483647) (y0 : -2147483648 ≤ y) (y1 : y ≤ 2147483647) : xT d 116 154 (ls) (.int (xI y) :: .int (xI x) :: st) h Q ↔ (x = y → xT d 116 163 (ls) (st) h Q) ∧ (¬ x = y → xT d 116 157 (ls) (st) h Q) := xT_iceq (off := 9) (by decide +kernel) rfl rfl x0 x1 y0 y1
theorem r116_157 : xT d 116 157 (l0 :: l1 :: l2 :: l3 :: l4 :: l5 :: l6 :: l7 :: l8 :: .int v :: ls) (st) h Q ↔ xT d 116 159 (l0 :: l1 :: l2 :: l3 :: l4 :: l5 :: l6 :: l7 :: l8 :: .int v :: ls) (.int v :: st) h Q := xT_iload (k := 9) (by decide +kernel) rfl rfl
theorem r116_159 : xT d 116 159 (ls) (.int (xI x) :: st) h Q ↔ xT d 116 160 (ls) (.int (xI (-x)) :: st) h Q := xT_ineg (by decide +kernel) rfl
theorem r116_160 : xT d 116 160 (ls) (st) h Q ↔ xT d 116 165 (ls) (st) h Q := xT_goto (off := 5) (by decide +kernel) rfl
theorem r116_163 : xT d 116 163 (l0 :: l1 :: l2 :: l3 :: l4 :: l5 :: l6 :: l7 :: l8 :: .int v :: ls) (st) h Q ↔ xT d 116 165 (l0 :: l1 :: l2 :: l3 :: l4 :: l5 :: l6 :: l7 :: l8 :: .int v :: ls) (.int v :: st) h Q := xT_iload (k := 9) (by decide +kernel) rfl rfl
theorem r116_165 : xT d 116 165 ([l0, l1, l2, l3, l4, l5, l6, l7, .int w, l9]) (.int v :: st) h Q ↔ xT d 116 167 ([l0, l1, l2, l3, l4, l5, l6, l7, .int w, .int v]) (st) h Q := xT_istore (k := 9) (by decide +kernel) rfl (Nat.le_of_ble_eq_true rfl) rfl
theorem r116_167 : xT d 116 167 (.ref ov :: ls) (st) h Q ↔ xT d 116 168 (.ref ov :: ls) (.ref ov :: st) h Q := xT_aload_n (k := 0) (by decide +kernel) rfl rfl
theorem r116_168 : xT d 116 168 (ls) (.ref 21 :: st) (hh f a g) Q ↔ xT d 116 171 (ls) (.int (xI (f 21 17)) :: st) (hh f a g) Q := xT_getf (k := 134) (ci := 8) (fi := 17) (by decide +kernel) rfl rfl ⟨Nat.le_of_ble_eq_true rfl, Nat.le_of_ble_eq_true rfl⟩ (by decide +kernel) rfl
theorem r116_171 (x0 : -2147483648 ≤ x) (x1 : x ≤ 2147483647) : xT d 116 171 (ls) (.int (xI x) :: st) h Q ↔ (x = 0 → xT d 116 174 (ls) (st) h Q) ∧ (¬ x = 0 → xT d 116 183 (ls) (st) h Q) := xT_ifne (off := 12) (by decide +kernel) rfl rfl x0 x1
theorem r116_174 : xT d 116 174 (.ref ov :: ls) (st) h Q ↔ xT d 116 175 (.ref ov :: ls) (.ref ov :: st) h Q := xT_aload_n (k := 0) (by decide +kernel) rfl rfl
theorem r116_175 : xT d 116 175 (l0 :: l1 :: l2 :: l3 :: l4 :: l5 :: l6 :: l7 :: l8 :: .int v :: ls) (st) h Q ↔ xT d 116 177 (l0 :: l1 :: l2 :: l3 :: l4 :: l5 :: l6 :: l7 :: l8 :: .int v :: ls) (.int v :: st) h Q := xT_iload (k := 9) (by decide +kernel) rfl rfl
theorem r116_177 {z0 : Int32} (hd : 1 ≤ d) : xT d 116 177 (ls) ([.int z0, .ref 21]) (hh f a g) Q ↔ xTC (d - 1) 109 [.ref 21, .int z0] (hh f a g) (xAf d 116 177 (ls) [] Q) := xT_virtual (k := 149) (na := 1) (ci := 8) (by decide +kernel) (by decide +kernel) (by decide +kernel) ⟨Nat.le_of_ble_eq_true rfl, Nat.le_of_ble_eq_true rfl⟩ rfl rfl (Nat.le_of_ble_eq_true rfl) rfl rfl ⟨Nat.le_of_ble_eq_true rfl, Nat.le_of_ble_eq_true rfl⟩ (Nat.le_of_ble_eq_true rfl) hd
theorem r116_180 : xT d 116 180 (ls) (st) h Q ↔ xT d 116 189 (ls) (st) h Q := xT_goto (off := 9) (by decide +kernel) rfl
theorem r116_183 : xT d 116 183 (.ref ov :: ls) (st) h Q ↔ xT d 116 184 (.ref ov :: ls) (.ref ov :: st) h Q := xT_aload_n (k := 0) (by decide +kernel) rfl rfl
theorem r116_184 : xT d 116 184 (l0 :: l1 :: l2 :: l3 :: l4 :: l5 :: l6 :: l7 :: l8 :: .int v :: ls) (st) h Q ↔ xT d 116 186 (l0 :: l1 :: l2 :: l3 :: l4 :: l5 :: l6 :: l7 :: l8 :: .int v :: ls) (.int v :: st) h Q := xT_iload (k := 9) (by decide +kernel) rfl rfl
theorem r116_186 {z0 : Int32} (hd : 1 ≤ d) : xT d 116 186 (ls) ([.int z0, .ref 21]) (hh f a g) Q ↔ xTC (d - 1) 115 [.ref 21, .int z0] (hh f a g) (xAf d 116 186 (ls) [] Q) := xT_virtual (k := 152) (na := 1) (ci := 8) (by decide +kernel) (by decide +kernel) (by decide +kernel) ⟨Nat.le_of_ble_eq_true rfl, Nat.le_of_ble_eq_true rfl⟩ rfl rfl (Nat.le_of_ble_eq_true rfl) rfl rfl ⟨Nat.le_of_ble_eq_true rfl, Nat.le_of_ble_eq_true rfl⟩ (Nat.le_of_ble_eq_true rfl) hd
theorem r116_189 : xT d 116 189 ([l0, l1, l2, l3, .int w, .int (xI x), l6, l7, l8, l9]) (st) h Q ↔ xT d 116 192 ([l0, l1, l2, l3, .int w, .int (xI (x + 1)), l6, l7, l8, l9]) (st) h Q := xT_iinc (k := 5) (by decide +kernel) rfl rfl rfl
theorem r116_192 : xT d 116 192 (ls) (st) h Q ↔ xT d 116 62 (ls) (st) h Q := xT_goto (off := (-130)) (by decide +kernel) rfl
theorem r116_195 : xT d 116 195 ([l0, l1, l2, .int w, .int (xI x), l5, l6, l7, l8, l9]) (st) h Q ↔ xT d 116 198 ([l0, l1, l2, .int w, .int (xI (x + 1)), l5, l6, l7, l8, l9]) (st) h Q := xT_iinc (k := 4) (by decide +kernel) rfl rfl rfl
theorem r116_198 : xT d 116 198 (ls) (st) h Q ↔ xT d 116 48 (ls) (st) h Q := xT_goto (off := (-150)) (by decide +kernel) rfl
theorem r116_201 : xT d 116 201 (ls) ([]) h Q ↔ Q (h, .returned none) := xT_return (by decide +kernel) rfl
theorem e116 {z0 : Nat} {z1 : Int32} {z2 : Int32} {z3 : Int32} : xTC d 116 [.ref z0, .int z1, .int z2, .int z3] h Q ↔ xT d 116 0 [.ref z0, .int z1, .int z2, .int z3, .null, .null, .null, .null, .null, .null] [] h Q := Iff.rfl
-- M_nextByte
theorem r117_0 : xT d 117 0 (.ref ov :: ls) (st) h Q ↔ xT d 117 1 (.ref ov :: ls) (.ref ov :: st) h Q := xT_aload_n (k := 0) (by decide +kernel) rfl rfl
theorem r117_1 : xT d 117 1 (ls) (.ref 21 :: st) (hh f a g) Q ↔ xT d 117 4 (ls) (.int (xI (f 21 32)) :: st) (hh f a g) Q := xT_getf (k := 155) (ci := 8) (fi := 32) (by decide +kernel) rfl rfl ⟨Nat.le_of_ble_eq_true rfl, Nat.le_of_ble_eq_true rfl⟩ (by decide +kernel) rfl
theorem r117_4 : xT d 117 4 (.ref ov :: ls) (st) h Q ↔ xT d 117 5 (.ref ov :: ls) (.ref ov :: st) h Q := xT_aload_n (k := 0) (by decide +kernel) rfl rfl
theorem r117_5 : xT d 117 5 (ls) (.ref 21 :: st) (hh f a g) Q ↔ xT d 117 8 (ls) (.int (xI (f 21 33)) :: st) (hh f a g) Q := xT_getf (k := 158) (ci := 8) (fi := 33) (by decide +kernel) rfl rfl ⟨Nat.le_of_ble_eq_true rfl, Nat.le_of_ble_eq_true rfl⟩ (by decide +kernel) rfl
theorem r117_8 (x0 : -2147483648 ≤ x) (x1 : x ≤ 2147483647) (y0 : -2147483648 ≤ y) (y1 : y ≤ 2147483647) : xT d 117 8 (ls) (.int (xI y) :: .int (xI x) :: st) h Q ↔ (x < y → xT d 117 11 (ls) (st) h Q) ∧ (¬ x < y → xT d 117 23 (ls) (st) h Q) := xT_icge (off := 15) (by decide +kernel) rfl rfl x0 x1 y0 y1
theorem r117_11 : xT d 117 11 (.ref ov :: ls) (st) h Q ↔ xT d 117 12 (.ref ov :: ls) (.ref ov :: st) h Q := xT_aload_n (k := 0) (by decide +kernel) rfl rfl
theorem r117_12 : xT d 117 12 (ls) (.ref 21 :: st) (hh f a g) Q ↔ xT d 117 15 (ls) (.ref 24 :: st) (hh f a g) Q := xT_getf (k := 26) (ci := 8) (fi := 8) (by decide +kernel) rfl rfl ⟨Nat.le_of_ble_eq_true rfl, Nat.le_of_ble_eq_true rfl⟩ (by decide +kernel) rfl
theorem r117_15 : xT d 117 15 (.ref ov :: ls) (st) h Q ↔ xT d 117 16 (.ref ov :: ls) (.ref ov :: st) h Q := xT_aload_n (k := 0) (by decide +kernel) rfl rfl
theorem r117_16 : xT d 117 16 (ls) (.ref 21 :: st) (hh f a g) Q ↔ xT d 117 19 (ls) (.int (xI (f 21 32)) :: st) (hh f a g) Q := xT_getf (k := 155) (ci := 8) (fi := 32) (by decide +kernel) rfl rfl ⟨Nat.le_of_ble_eq_true rfl, Nat.le_of_ble_eq_true rfl⟩ (by decide +kernel) rfl
theorem r117_19 (x0 : 0 ≤ x) (x1 : x < 1200) : xT d 117 19 (ls) (.int (xI x) :: .ref 24 :: st) (hh f a g) Q ↔ xT d 117 20 (ls) (.int (xI (a 24 x)) :: st) (hh f a g) Q := xT_iaload (N := 1200) (by decide +kernel) rfl rfl (Nat.le_of_ble_eq_true rfl) x0 x1 (Nat.le_of_ble_eq_true rfl)
theorem r117_20 : xT d 117 20 (ls) (st) h Q ↔ xT d 117 24 (ls) (st) h Q := xT_goto (off := 4) (by decide +kernel) rfl
theorem r117_23 : xT d 117 23 (ls) (st) h Q ↔ xT d 117 24 (ls) (.int (xI 0) :: st) h Q := xT_iconst (n := 0) (by decide +kernel) rfl
theorem r117_24 : xT d 117 24 ([.ref ow, l1]) (.int v :: st) h Q ↔ xT d 117 25 ([.ref ow, .int v]) (st) h Q := xT_istore_n (k := 1) (by decide +kernel) rfl (Nat.le_of_ble_eq_true rfl) rfl
theorem r117_25 : xT d 117 25 (.ref ov :: ls) (st) h Q ↔ xT d 117 26 (.ref ov :: ls) (.ref ov :: st) h Q := xT_aload_n (k := 0) (by decide +kernel) rfl rfl
theorem r117_26 : xT d 117 26 (ls) (.ref ow :: st) h Q ↔ xT d 117 27 (ls) (.ref ow :: .ref ow :: st) h Q := xT_dup (by decide +kernel) rfl rfl
theorem r117_27 : xT d 117 27 (ls) (.ref 21 :: st) (hh f a g) Q ↔ xT d 117 30 (ls) (.int (xI (f 21 32)) :: st) (hh f a g) Q := xT_getf (k := 155) (ci := 8) (fi := 32) (by decide +kernel) rfl rfl ⟨Nat.le_of_ble_eq_true rfl, Nat.le_of_ble_eq_true rfl⟩ (by decide +kernel) rfl
theorem r117_30 : xT d 117 30 (ls) (st) h Q ↔ xT d 117 31 (ls) (.int (xI 1) :: st) h Q := xT_iconst (n := 1) (by decide +kernel) rfl
theorem r117_31 : xT d 117 31 (ls) (.int (xI y) :: .int (xI x) :: st) h Q ↔ xT d 117 32 (ls) (.int (xI (x + y)) :: st) h Q := xT_iadd (by decide +kernel) rfl
theorem r117_32 : xT d 117 32 (ls) (.int (xI x) :: .ref 21 :: st) (hh f a g) Q ↔ xT d 117 35 (ls) (st) (hh (xu f 21 32 x) a g) Q := xT_putf (k := 155) (ci := 8) (fi := 32) (by decide +kernel) rfl rfl ⟨Nat.le_of_ble_eq_true rfl, Nat.le_of_ble_eq_true rfl⟩ (by decide +kernel) (by decide +kernel) (by decide +kernel) rfl
theorem r117_35 : xT d 117 35 (l0 :: .int v :: ls) (st) h Q ↔ xT d 117 36 (l0 :: .int v :: ls) (.int v :: st) h Q := xT_iload_n (k := 1) (by decide +kernel) rfl rfl
theorem r117_36 : xT d 117 36 (ls) ([.int (xI x)]) h Q ↔ Q (h, .returned (some (.int (xI x)))) := xT_ireturn (by decide +kernel) rfl
theorem e117 {z0 : Nat} : xTC d 117 [.ref z0] h Q ↔ xT d 117 0 [.ref z0, .null] [] h Q := Iff.rfl
-- M_thrown
theorem r118_0 : xT d 118 0 (.ref ov :: ls) (st) h Q ↔ xT d 118 1 (.ref ov :: ls) (.ref ov :: st) h Q := xT_aload_n (k := 0) (by decide +kernel) rfl rfl
theorem r118_1 : xT d 118 1 (ls) (.ref 21 :: st) (hh f a g) Q ↔ xT d 118 4 (ls) (.int (xI (f 21 0)) :: st) (hh f a g) Q := xT_getf (k := 56) (ci := 8) (fi := 0) (by decide +kernel) rfl rfl ⟨Nat.le_of_ble_eq_true rfl, Nat.le_of_ble_eq_true rfl⟩ (by decide +kernel) rfl
theorem r118_4 : xT d 118 4 (ls) ([.int (xI x)]) h Q ↔ Q (h, .returned (some (.int (xI x)))) := xT_ireturn (by decide +kernel) rfl
theorem e118 {z0 : Nat} : xTC d 118 [.ref z0] h Q ↔ xT d 118 0 [.ref z0] [] h Q := Iff.rfl
-- M_takeBit
theorem r119_0 : xT d 119 0 (.ref ov :: ls) (st) h Q ↔ xT d 119 1 (.ref ov :: ls) (.ref ov :: st) h Q := xT_aload_n (k := 0) (by decide +kernel) rfl rfl
theorem r119_1 : xT d 119 1 (ls) (.ref 21 :: st) (hh f a g) Q ↔ xT d 119 4 (ls) (.int (xI (f 21 32)) :: st) (hh f a g) Q := xT_getf (k := 155) (ci := 8) (fi := 32) (by decide +kernel) rfl rfl ⟨Nat.le_of_ble_eq_true rfl, Nat.le_of_ble_eq_true rfl⟩ (by decide +kernel) rfl
theorem r119_4 : xT d 119 4 (.ref ov :: ls) (st) h Q ↔ xT d 119 5 (.ref ov :: ls) (.ref ov :: st) h Q := xT_aload_n (k := 0) (by decide +kernel) rfl rfl
theorem r119_5 : xT d 119 5 (ls) (.ref 21 :: st) (hh f a g) Q ↔ xT d 119 8 (ls) (.int (xI (f 21 30)) :: st) (hh f a g) Q := xT_getf (k := 92) (ci := 8) (fi := 30) (by decide +kernel) rfl rfl ⟨Nat.le_of_ble_eq_true rfl, Nat.le_of_ble_eq_true rfl⟩ (by decide +kernel) rfl
theorem r119_8 : xT d 119 8 (ls) (st) h Q ↔ xT d 119 10 (ls) (.int (xI 8) :: st) h Q := xT_bipush (n := 8) (by decide +kernel) rfl (by decide +kernel)
theorem r119_10 (x0 : 0 ≤ x) (x1 : x ≤ 2147483647) (y0 : 0 < y) (y1 : y ≤ 2147483647) : xT d 119 10 (ls) (.int (xI y) :: .int (xI x) :: st) h Q ↔ xT d 119 11 (ls) (.int (xI (x / y)) :: st) h Q := xT_idiv (by decide +kernel) rfl x0 x1 y0 y1
theorem r119_10_t (x0 : -2147483648 < x) (x1 : x ≤ 2147483647) (y0 : 0 < y) (y1 : y ≤ 2147483647) : xT d 119 10 (ls) (.int (xI y) :: .int (xI x) :: st) h Q ↔ xT d 119 11 (ls) (.int (xI (x.tdiv y)) :: st) h Q := xT_tdiv (by decide +kernel) rfl x0 x1 y0 y1
theorem r119_11 : xT d 119 11 (ls) (.int (xI y) :: .int (xI x) :: st) h Q ↔ xT d 119 12 (ls) (.int (xI (x + y)) :: st) h Q := xT_iadd (by decide +kernel) rfl
theorem r119_12 : xT d 119 12 ([.ref ow, l1, l2]) (.int v :: st) h Q ↔ xT d 119 13 ([.ref ow, .int v, l2]) (st) h Q := xT_istore_n (k := 1) (by decide +kernel) rfl (Nat.le_of_ble_eq_true rfl) rfl
theorem r119_13 : xT d 119 13 (l0 :: .int v :: ls) (st) h Q ↔ xT d 119 14 (l0 :: .int v :: ls) (.int v :: st) h Q := xT_iload_n (k := 1) (by decide +kernel) rfl rfl
theorem r119_14 : xT d 119 14 (.ref ov :: ls) (st) h Q ↔ xT d 119 15 (.ref ov :: ls) (.ref ov :: st) h Q := xT_aload_n (k := 0) (by decide +kernel) rfl rfl
theorem r119_15 : xT d 119 15 (ls) (.ref 21 :: st) (hh f a g) Q ↔ xT d 119 18 (ls) (.int (xI (f 21 33)) :: st) (hh f a g) Q := xT_getf (k := 158) (ci := 8) (fi := 33) (by decide +kernel) rfl rfl ⟨Nat.le_of_ble_eq_true rfl, Nat.le_of_ble_eq_true rfl⟩ (by decide +kernel) rfl
theorem r119_18 (x0 : -2147483648 ≤ x) (x1 : x ≤ 2147483647) (y0 : -2147483648 ≤ y) (y1 : y ≤ 2147483647) : xT d 119 18 (ls) (.int (xI y) :: .int (xI x) :: st) h Q ↔ (x < y → xT d 119 21 (ls) (st) h Q) ∧ (¬ x < y → xT d 119 43 (ls) (st) h Q) := xT_icge (off := 25) (by decide +kernel) rfl rfl x0 x1 y0 y1
theorem r119_21 : xT d 119 21 (.ref ov :: ls) (st) h Q ↔ xT d 119 22 (.ref ov :: ls) (.ref ov :: st) h Q := xT_aload_n (k := 0) (by decide +kernel) rfl rfl
theorem r119_22 : xT d 119 22 (ls) (.ref 21 :: st) (hh f a g) Q ↔ xT d 119 25 (ls) (.ref 24 :: st) (hh f a g) Q := xT_getf (k := 26) (ci := 8) (fi := 8) (by decide +kernel) rfl rfl ⟨Nat.le_of_ble_eq_true rfl, Nat.le_of_ble_eq_true rfl⟩ (by decide +kernel) rfl
theorem r119_25 : xT d 119 25 (l0 :: .int v :: ls) (st) h Q ↔ xT d 119 26 (l0 :: .int v :: ls) (.int v :: st) h Q := xT_iload_n (k := 1) (by decide +kernel) rfl rfl
theorem r119_26 (x0 : 0 ≤ x) (x1 : x < 1200) : xT d 119 26 (ls) (.int (xI x) :: .ref 24 :: st) (hh f a g) Q ↔ xT d 119 27 (ls) (.int (xI (a 24 x)) :: st) (hh f a g) Q := xT_iaload (N := 1200) (by decide +kernel) rfl rfl (Nat.le_of_ble_eq_true rfl) x0 x1 (Nat.le_of_ble_eq_true rfl)
theorem r119_27 : xT d 119 27 (ls) (st) h Q ↔ xT d 119 29 (ls) (.int (xI 7) :: st) h Q := xT_bipush (n := 7) (by decide +kernel) rfl (by decide +kernel)
theorem r119_29 : xT d 119 29 (.ref ov :: ls) (st) h Q ↔ xT d 119 30 (.ref ov :: ls) (.ref ov :: st) h Q := xT_aload_n (k := 0) (by decide +kernel) rfl rfl
theorem r119_30 : xT d 119 30 (ls) (.ref 21 :: st) (hh f a g) Q ↔ xT d 119 33 (ls) (.int (xI (f 21 30)) :: st) (hh f a g) Q := xT_getf (k := 92) (ci := 8) (fi := 30) (by decide +kernel) rfl rfl ⟨Nat.le_of_ble_eq_true rfl, Nat.le_of_ble_eq_true rfl⟩ (by decide +kernel) rfl
theorem r119_33 : xT d 119 33 (ls) (st) h Q ↔ xT d 119 35 (ls) (.int (xI 8) :: st) h Q := xT_bipush (n := 8) (by decide +kernel) rfl (by decide +kernel)
theorem r119_35 (x0 : 0 ≤ x) (x1 : x ≤ 2147483647) (y0 : 0 < y) (y1 : y ≤ 2147483647) : xT d 119 35 (ls) (.int (xI y) :: .int (xI x) :: st) h Q ↔ xT d 119 36 (ls) (.int (xI (x % y)) :: st) h Q := xT_irem (by decide +kernel) rfl x0 x1 y0 y1
theorem r119_35_t (x0 : -2147483648 < x) (x1 : x ≤ 2147483647) (y0 : 0 < y) (y1 : y ≤ 2147483647) : xT d 119 35 (ls) (.int (xI y) :: .int (xI x) :: st) h Q ↔ xT d 119 36 (ls) (.int (xI (x.tmod y)) :: st) h Q := xT_tmod (by decide +kernel) rfl x0 x1 y0 y1
theorem r119_36 : xT d 119 36 (ls) (.int (xI y) :: .int (xI x) :: st) h Q ↔ xT d 119 37 (ls) (.int (xI (x - y)) :: st) h Q := xT_isub (by decide +kernel) rfl
theorem r119_37 (y0 : 0 ≤ y) (y1 : y ≤ 31) (x0 : -2147483648 ≤ x) (x1 : x ≤ 2147483647) : xT d 119 37 (ls) (.int (xI y) :: .int (xI x) :: st) h Q ↔ xT d 119 38 (ls) (.int (xI (x / 2 ^ y.toNat)) :: st) h Q := xT_ishr (by decide +kernel) rfl y0 y1 x0 x1
theorem r119_38 : xT d 119 38 (ls) (st) h Q ↔ xT d 119 39 (ls) (.int (xI 1) :: st) h Q := xT_iconst (n := 1) (by decide +kernel) rfl
theorem r119_39 : xT d 119 39 (ls) (.int (xI y) :: .int (xI x) :: st) h Q ↔ xT d 119 40 (ls) (.int (xI (xA x y)) :: st) h Q := xT_iand (by decide +kernel) rfl
theorem r119_40 : xT d 119 40 (ls) (st) h Q ↔ xT d 119 44 (ls) (st) h Q := xT_goto (off := 4) (by decide +kernel) rfl
theorem r119_43 : xT d 119 43 (ls) (st) h Q ↔ xT d 119 44 (ls) (.int (xI 0) :: st) h Q := xT_iconst (n := 0) (by decide +kernel) rfl
theorem r119_44 : xT d 119 44 ([l0, .int w, l2]) (.int v :: st) h Q ↔ xT d 119 45 ([l0, .int w, .int v]) (st) h Q := xT_istore_n (k := 2) (by decide +kernel) rfl (Nat.le_of_ble_eq_true rfl) rfl
theorem r119_45 : xT d 119 45 (.ref ov :: ls) (st) h Q ↔ xT d 119 46 (.ref ov :: ls) (.ref ov :: st) h Q := xT_aload_n (k := 0) (by decide +kernel) rfl rfl
theorem r119_46 : xT d 119 46 (ls) (.ref ow :: st) h Q ↔ xT d 119 47 (ls) (.ref ow :: .ref ow :: st) h Q := xT_dup (by decide +kernel) rfl rfl
theorem r119_47 : xT d 119 47 (ls) (.ref 21 :: st) (hh f a g) Q ↔ xT d 119 50 (ls) (.int (xI (f 21 30)) :: st) (hh f a g) Q := xT_getf (k := 92) (ci := 8) (fi := 30) (by decide +kernel) rfl rfl ⟨Nat.le_of_ble_eq_true rfl, Nat.le_of_ble_eq_true rfl⟩ (by decide +kernel) rfl
theorem r119_50 : xT d 119 50 (ls) (st) h Q ↔ xT d 119 51 (ls) (.int (xI 1) :: st) h Q := xT_iconst (n := 1) (by decide +kernel) rfl
theorem r119_51 : xT d 119 51 (ls) (.int (xI y) :: .int (xI x) :: st) h Q ↔ xT d 119 52 (ls) (.int (xI (x + y)) :: st) h Q := xT_iadd (by decide +kernel) rfl
theorem r119_52 : xT d 119 52 (ls) (.int (xI x) :: .ref 21 :: st) (hh f a g) Q ↔ xT d 119 55 (ls) (st) (hh (xu f 21 30 x) a g) Q := xT_putf (k := 92) (ci := 8) (fi := 30) (by decide +kernel) rfl rfl ⟨Nat.le_of_ble_eq_true rfl, Nat.le_of_ble_eq_true rfl⟩ (by decide +kernel) (by decide +kernel) (by decide +kernel) rfl
theorem r119_55 : xT d 119 55 (l0 :: l1 :: .int v :: ls) (st) h Q ↔ xT d 119 56 (l0 :: l1 :: .int v :: ls) (.int v :: st) h Q := xT_iload_n (k := 2) (by decide +kernel) rfl rfl
theorem r119_56 : xT d 119 56 (ls) ([.int (xI x)]) h Q ↔ Q (h, .returned (some (.int (xI x)))) := xT_ireturn (by decide +kernel) rfl
theorem e119 {z0 : Nat} : xTC d 119 [.ref z0] h Q ↔ xT d 119 0 [.ref z0, .null, .null] [] h Q := Iff.rfl
-- M_takeBits
theorem r120_0 : xT d 120 0 (ls) (st) h Q ↔ xT d 120 1 (ls) (.int (xI 0) :: st) h Q := xT_iconst (n := 0) (by decide +kernel) rfl
theorem r120_1 : xT d 120 1 ([l0, .int w, l2, l3]) (.int v :: st) h Q ↔ xT d 120 2 ([l0, .int w, .int v, l3]) (st) h Q := xT_istore_n (k := 2) (by decide +kernel) rfl (Nat.le_of_ble_eq_true rfl) rfl
theorem r120_2 : xT d 120 2 (ls) (st) h Q ↔ xT d 120 3 (ls) (.int (xI 0) :: st) h Q := xT_iconst (n := 0) (by decide +kernel) rfl
theorem r120_3 : xT d 120 3 ([l0, l1, .int w, l3]) (.int v :: st) h Q ↔ xT d 120 4 ([l0, l1, .int w, .int v]) (st) h Q := xT_istore_n (k := 3) (by decide +kernel) rfl (Nat.le_of_ble_eq_true rfl) rfl
theorem r120_4 : xT d 120 4 (l0 :: l1 :: l2 :: .int v :: ls) (st) h Q ↔ xT d 120 5 (l0 :: l1 :: l2 :: .int v :: ls) (.int v :: st) h Q := xT_iload_n (k := 3) (by decide +kernel) rfl rfl
theorem r120_5 : xT d 120 5 (l0 :: .int v :: ls) (st) h Q ↔ xT d 120 6 (l0 :: .int v :: ls) (.int v :: st) h Q := xT_iload_n (k := 1) (by decide +kernel) rfl rfl
theorem r120_6 (x0 : -2147483648 ≤ x) (x1 : x ≤ 2147483647) (y0 : -2147483648 ≤ y) (y1 : y ≤ 2147483647) : xT d 120 6 (ls) (.int (xI y) :: .int (xI x) :: st) h Q ↔ (x < y → xT d 120 9 (ls) (st) h Q) ∧ (¬ x < y → xT d 120 24 (ls) (st) h Q) := xT_icge (off := 18) (by decide +kernel) rfl rfl x0 x1 y0 y1
theorem r120_9 : xT d 120 9 (ls) (st) h Q ↔ xT d 120 10 (ls) (.int (xI 2) :: st) h Q := xT_iconst (n := 2) (by decide +kernel) rfl
theorem r120_10 : xT d 120 10 (l0 :: l1 :: .int v :: ls) (st) h Q ↔ xT d 120 11 (l0 :: l1 :: .int v :: ls) (.int v :: st) h Q := xT_iload_n (k := 2) (by decide +kernel) rfl rfl
theorem r120_11 : xT d 120 11 (ls) (.int (xI y) :: .int (xI x) :: st) h Q ↔ xT d 120 12 (ls) (.int (xI (x * y)) :: st) h Q := xT_imul (by decide +kernel) rfl
theorem r120_12 : xT d 120 12 (.ref ov :: ls) (st) h Q ↔ xT d 120 13 (.ref ov :: ls) (.ref ov :: st) h Q := xT_aload_n (k := 0) (by decide +kernel) rfl rfl
theorem r120_13 {z1 : Int32} (hd : 1 ≤ d) : xT d 120 13 (ls) ([.ref 21, .int z1]) (hh f a g) Q ↔ xTC (d - 1) 119 [.ref 21] (hh f a g) (xAf d 120 13 (ls) [.int z1] Q) := xT_virtual (k := 161) (na := 0) (ci := 8) (by decide +kernel) (by decide +kernel) (by decide +kernel) ⟨Nat.le_of_ble_eq_true rfl, Nat.le_of_ble_eq_true rfl⟩ rfl rfl (Nat.le_of_ble_eq_true rfl) rfl rfl ⟨Nat.le_of_ble_eq_true rfl, Nat.le_of_ble_eq_true rfl⟩ (Nat.le_of_ble_eq_true rfl) hd
theorem r120_16 : xT d 120 16 (ls) (.int (xI y) :: .int (xI x) :: st) h Q ↔ xT d 120 17 (ls) (.int (xI (x + y)) :: st) h Q := xT_iadd (by decide +kernel) rfl
theorem r120_17 : xT d 120 17 ([l0, .int w, l2, l3]) (.int v :: st) h Q ↔ xT d 120 18 ([l0, .int w, .int v, l3]) (st) h Q := xT_istore_n (k := 2) (by decide +kernel) rfl (Nat.le_of_ble_eq_true rfl) rfl
theorem r120_18 : xT d 120 18 ([l0, l1, .int w, .int (xI x)]) (st) h Q ↔ xT d 120 21 ([l0, l1, .int w, .int (xI (x + 1))]) (st) h Q := xT_iinc (k := 3) (by decide +kernel) rfl rfl rfl
theorem r120_21 : xT d 120 21 (ls) (st) h Q ↔ xT d 120 4 (ls) (st) h Q := xT_goto (off := (-17)) (by decide +kernel) rfl
theorem r120_24 : xT d 120 24 (l0 :: l1 :: .int v :: ls) (st) h Q ↔ xT d 120 25 (l0 :: l1 :: .int v :: ls) (.int v :: st) h Q := xT_iload_n (k := 2) (by decide +kernel) rfl rfl
theorem r120_25 : xT d 120 25 (ls) ([.int (xI x)]) h Q ↔ Q (h, .returned (some (.int (xI x)))) := xT_ireturn (by decide +kernel) rfl
theorem e120 {z0 : Nat} {z1 : Int32} : xTC d 120 [.ref z0, .int z1] h Q ↔ xT d 120 0 [.ref z0, .int z1, .null, .null] [] h Q := Iff.rfl
-- M_sound
theorem r121_0 : xT d 121 0 (l0 :: .int v :: ls) (st) h Q ↔ xT d 121 1 (l0 :: .int v :: ls) (.int v :: st) h Q := xT_iload_n (k := 1) (by decide +kernel) rfl rfl
theorem r121_1 : xT d 121 1 (l0 :: l1 :: .int v :: ls) (st) h Q ↔ xT d 121 2 (l0 :: l1 :: .int v :: ls) (.int v :: st) h Q := xT_iload_n (k := 2) (by decide +kernel) rfl rfl
theorem r121_2 : xT d 121 2 (ls) (.int (xI x) :: st) h Q ↔ xT d 121 3 (ls) (.int (xI (-x)) :: st) h Q := xT_ineg (by decide +kernel) rfl
theorem r121_3 : xT d 121 3 (ls) (st) h Q ↔ xT d 121 4 (ls) (.int (xI 2) :: st) h Q := xT_iconst (n := 2) (by decide +kernel) rfl
theorem r121_4 (x0 : 0 ≤ x) (x1 : x ≤ 2147483647) (y0 : 0 < y) (y1 : y ≤ 2147483647) : xT d 121 4 (ls) (.int (xI y) :: .int (xI x) :: st) h Q ↔ xT d 121 5 (ls) (.int (xI (x / y)) :: st) h Q := xT_idiv (by decide +kernel) rfl x0 x1 y0 y1
theorem r121_4_t (x0 : -2147483648 < x) (x1 : x ≤ 2147483647) (y0 : 0 < y) (y1 : y ≤ 2147483647) : xT d 121 4 (ls) (.int (xI y) :: .int (xI x) :: st) h Q ↔ xT d 121 5 (ls) (.int (xI (x.tdiv y)) :: st) h Q := xT_tdiv (by decide +kernel) rfl x0 x1 y0 y1
theorem r121_5 (x0 : -2147483648 ≤ x) (x1 : x ≤ 2147483647) (y0 : -2147483648 ≤ y) (y1 : y ≤ 2147483647) : xT d 121 5 (ls) (.int (xI y) :: .int (xI x) :: st) h Q ↔ (x < y → xT d 121 19 (ls) (st) h Q) ∧ (¬ x < y → xT d 121 8 (ls) (st) h Q) := xT_iclt (off := 14) (by decide +kernel) rfl rfl x0 x1 y0 y1
theorem r121_8 : xT d 121 8 (l0 :: .int v :: ls) (st) h Q ↔ xT d 121 9 (l0 :: .int v :: ls) (.int v :: st) h Q := xT_iload_n (k := 1) (by decide +kernel) rfl rfl
theorem r121_9 : xT d 121 9 (l0 :: l1 :: .int v :: ls) (st) h Q ↔ xT d 121 10 (l0 :: l1 :: .int v :: ls) (.int v :: st) h Q := xT_iload_n (k := 2) (by decide +kernel) rfl rfl
theorem r121_10 : xT d 121 10 (ls) (st) h Q ↔ xT d 121 11 (ls) (.int (xI 2) :: st) h Q := xT_iconst (n := 2) (by decide +kernel) rfl
theorem r121_11 (x0 : 0 ≤ x) (x1 : x ≤ 2147483647) (y0 : 0 < y) (y1 : y ≤ 2147483647) : xT d 121 11 (ls) (.int (xI y) :: .int (xI x) :: st) h Q ↔ xT d 121 12 (ls) (.int (xI (x / y)) :: st) h Q := xT_idiv (by decide +kernel) rfl x0 x1 y0 y1
theorem r121_11_t (x0 : -2147483648 < x) (x1 : x ≤ 2147483647) (y0 : 0 < y) (y1 : y ≤ 2147483647) : xT d 121 11 (ls) (.int (xI y) :: .int (xI x) :: st) h Q ↔ xT d 121 12 (ls) (.int (xI (x.tdiv y)) :: st) h Q := xT_tdiv (by decide +kernel) rfl x0 x1 y0 y1
theorem r121_12 (x0 : -2147483648 ≤ x) (x1 : x ≤ 2147483647) (y0 : -2147483648 ≤ y) (y1 : y ≤ 2147483647) : xT d 121 12 (ls) (.int (xI y) :: .int (xI x) :: st) h Q ↔ (x < y → xT d 121 15 (ls) (st) h Q) ∧ (¬ x < y → xT d 121 19 (ls) (st) h Q) := xT_icge (off := 7) (by decide +kernel) rfl rfl x0 x1 y0 y1
theorem r121_15 : xT d 121 15 (ls) (st) h Q ↔ xT d 121 16 (ls) (.int (xI 1) :: st) h Q := xT_iconst (n := 1) (by decide +kernel) rfl
theorem r121_16 : xT d 121 16 (ls) (st) h Q ↔ xT d 121 20 (ls) (st) h Q := xT_goto (off := 4) (by decide +kernel) rfl
theorem r121_19 : xT d 121 19 (ls) (st) h Q ↔ xT d 121 20 (ls) (.int (xI 0) :: st) h Q := xT_iconst (n := 0) (by decide +kernel) rfl
theorem r121_20 : xT d 121 20 ([l0, l1, .int w, l3]) (.int v :: st) h Q ↔ xT d 121 21 ([l0, l1, .int w, .int v]) (st) h Q := xT_istore_n (k := 3) (by decide +kernel) rfl (Nat.le_of_ble_eq_true rfl) rfl
theorem r121_21 : xT d 121 21 (.ref ov :: ls) (st) h Q ↔ xT d 121 22 (.ref ov :: ls) (.ref ov :: st) h Q := xT_aload_n (k := 0) (by decide +kernel) rfl rfl
theorem r121_22 : xT d 121 22 (.ref ov :: ls) (st) h Q ↔ xT d 121 23 (.ref ov :: ls) (.ref ov :: st) h Q := xT_aload_n (k := 0) (by decide +kernel) rfl rfl
theorem r121_23 : xT d 121 23 (ls) (.ref 21 :: st) (hh f a g) Q ↔ xT d 121 26 (ls) (.int (xI (f 21 35)) :: st) (hh f a g) Q := xT_getf (k := 164) (ci := 8) (fi := 35) (by decide +kernel) rfl rfl ⟨Nat.le_of_ble_eq_true rfl, Nat.le_of_ble_eq_true rfl⟩ (by decide +kernel) rfl
theorem r121_26 (x0 : -2147483648 ≤ x) (x1 : x ≤ 2147483647) : xT d 121 26 (ls) (.int (xI x) :: st) h Q ↔ (x = 0 → xT d 121 29 (ls) (st) h Q) ∧ (¬ x = 0 → xT d 121 33 (ls) (st) h Q) := xT_ifne (off := 7) (by decide +kernel) rfl rfl x0 x1
theorem r121_29 : xT d 121 29 (l0 :: l1 :: l2 :: .int v :: ls) (st) h Q ↔ xT d 121 30 (l0 :: l1 :: l2 :: .int v :: ls) (.int v :: st) h Q := xT_iload_n (k := 3) (by decide +kernel) rfl rfl
theorem r121_30 (x0 : -2147483648 ≤ x) (x1 : x ≤ 2147483647) : xT d 121 30 (ls) (.int (xI x) :: st) h Q ↔ (x = 0 → xT d 121 33 (ls) (st) h Q) ∧ (¬ x = 0 → xT d 121 37 (ls) (st) h Q) := xT_ifne (off := 7) (by decide +kernel) rfl rfl x0 x1
theorem r121_33 : xT d 121 33 (ls) (st) h Q ↔ xT d 121 34 (ls) (.int (xI 1) :: st) h Q := xT_iconst (n := 1) (by decide +kernel) rfl
theorem r121_34 : xT d 121 34 (ls) (st) h Q ↔ xT d 121 38 (ls) (st) h Q := xT_goto (off := 4) (by decide +kernel) rfl
theorem r121_37 : xT d 121 37 (ls) (st) h Q ↔ xT d 121 38 (ls) (.int (xI 0) :: st) h Q := xT_iconst (n := 0) (by decide +kernel) rfl
theorem r121_38 (hx : x = 0 ∨ x = 1) : xT d 121 38 (ls) (.int (xI x) :: .ref 21 :: st) (hh f a g) Q ↔ xT d 121 41 (ls) (st) (hh (xu f 21 35 x) a g) Q := xT_putz (k := 164) (ci := 8) (fi := 35) (by decide +kernel) rfl rfl ⟨Nat.le_of_ble_eq_true rfl, Nat.le_of_ble_eq_true rfl⟩ (by decide +kernel) (by decide +kernel) (by decide +kernel) rfl hx
theorem r121_41 : xT d 121 41 (l0 :: l1 :: l2 :: .int v :: ls) (st) h Q ↔ xT d 121 42 (l0 :: l1 :: l2 :: .int v :: ls) (.int v :: st) h Q := xT_iload_n (k := 3) (by decide +kernel) rfl rfl
theorem r121_42 (x0 : -2147483648 ≤ x) (x1 : x ≤ 2147483647) : xT d 121 42 (ls) (.int (xI x) :: st) h Q ↔ (x = 0 → xT d 121 49 (ls) (st) h Q) ∧ (¬ x = 0 → xT d 121 45 (ls) (st) h Q) := xT_ifeq (off := 7) (by decide +kernel) rfl rfl x0 x1
theorem r121_45 : xT d 121 45 (l0 :: .int v :: ls) (st) h Q ↔ xT d 121 46 (l0 :: .int v :: ls) (.int v :: st) h Q := xT_iload_n (k := 1) (by decide +kernel) rfl rfl
theorem r121_46 : xT d 121 46 (ls) (st) h Q ↔ xT d 121 50 (ls) (st) h Q := xT_goto (off := 4) (by decide +kernel) rfl
theorem r121_49 : xT d 121 49 (ls) (st) h Q ↔ xT d 121 50 (ls) (.int (xI 0) :: st) h Q := xT_iconst (n := 0) (by decide +kernel) rfl
theorem r121_50 : xT d 121 50 (ls) ([.int (xI x)]) h Q ↔ Q (h, .returned (some (.int (xI x)))) := xT_ireturn (by decide +kernel) rfl
theorem e121 {z0 : Nat} {z1 : Int32} {z2 : Int32} : xTC d 121 [.ref z0, .int z1, .int z2] h Q ↔ xT d 121 0 [.ref z0, .int z1, .int z2, .null] [] h Q := Iff.rfl
-- M_decodeByBits
theorem r122_0 : xT d 122 0 (.ref ov :: ls) (st) h Q ↔ xT d 122 1 (.ref ov :: ls) (.ref ov :: st) h Q := xT_aload_n (k := 0) (by decide +kernel) rfl rfl
theorem r122_1 (hd : 1 ≤ d) : xT d 122 1 (ls) ([.ref 21]) (hh f a g) Q ↔ xTC (d - 1) 103 [.ref 21] (hh f a g) (xAf d 122 1 (ls) [] Q) := xT_virtual (k := 102) (na := 0) (ci := 8) (by decide +kernel) (by decide +kernel) (by decide +kernel) ⟨Nat.le_of_ble_eq_true rfl, Nat.le_of_ble_eq_true rfl⟩ rfl rfl (Nat.le_of_ble_eq_true rfl) rfl rfl ⟨Nat.le_of_ble_eq_true rfl, Nat.le_of_ble_eq_true rfl⟩ (Nat.le_of_ble_eq_true rfl) hd
theorem r122_4 : xT d 122 4 ([l0, .int w, l2, l3, l4, l5]) (.int v :: st) h Q ↔ xT d 122 5 ([l0, .int w, .int v, l3, l4, l5]) (st) h Q := xT_istore_n (k := 2) (by decide +kernel) rfl (Nat.le_of_ble_eq_true rfl) rfl
theorem r122_5 : xT d 122 5 (ls) (st) h Q ↔ xT d 122 6 (ls) (.int (xI 0) :: st) h Q := xT_iconst (n := 0) (by decide +kernel) rfl
theorem r122_6 : xT d 122 6 ([l0, l1, .int w, l3, l4, l5]) (.int v :: st) h Q ↔ xT d 122 7 ([l0, l1, .int w, .int v, l4, l5]) (st) h Q := xT_istore_n (k := 3) (by decide +kernel) rfl (Nat.le_of_ble_eq_true rfl) rfl
theorem r122_7 : xT d 122 7 (l0 :: l1 :: l2 :: .int v :: ls) (st) h Q ↔ xT d 122 8 (l0 :: l1 :: l2 :: .int v :: ls) (.int v :: st) h Q := xT_iload_n (k := 3) (by decide +kernel) rfl rfl
theorem r122_8 : xT d 122 8 (ls) (st) h Q ↔ xT d 122 10 (ls) (.int (xI 12) :: st) h Q := xT_bipush (n := 12) (by decide +kernel) rfl (by decide +kernel)
theorem r122_10 (x0 : -2147483648 ≤ x) (x1 : x ≤ 2147483647) (y0 : -2147483648 ≤ y) (y1 : y ≤ 2147483647) : xT d 122 10 (ls) (.int (xI y) :: .int (xI x) :: st) h Q ↔ (x < y → xT d 122 13 (ls) (st) h Q) ∧ (¬ x < y → xT d 122 26 (ls) (st) h Q) := xT_icge (off := 16) (by decide +kernel) rfl rfl x0 x1 y0 y1
theorem r122_13 : xT d 122 13 (.ref ov :: ls) (st) h Q ↔ xT d 122 14 (.ref ov :: ls) (.ref ov :: st) h Q := xT_aload_n (k := 0) (by decide +kernel) rfl rfl
theorem r122_14 (hd : 1 ≤ d) : xT d 122 14 (ls) ([.ref 21]) (hh f a g) Q ↔ xTC (d - 1) 119 [.ref 21] (hh f a g) (xAf d 122 14 (ls) [] Q) := xT_virtual (k := 161) (na := 0) (ci := 8) (by decide +kernel) (by decide +kernel) (by decide +kernel) ⟨Nat.le_of_ble_eq_true rfl, Nat.le_of_ble_eq_true rfl⟩ rfl rfl (Nat.le_of_ble_eq_true rfl) rfl rfl ⟨Nat.le_of_ble_eq_true rfl, Nat.le_of_ble_eq_true rfl⟩ (Nat.le_of_ble_eq_true rfl) hd
theorem r122_17 (x0 : -2147483648 ≤ x) (x1 : x ≤ 2147483647) : xT d 122 17 (ls) (.int (xI x) :: st) h Q ↔ (x = 0 → xT d 122 20 (ls) (st) h Q) ∧ (¬ x = 0 → xT d 122 26 (ls) (st) h Q) := xT_ifne (off := 9) (by decide +kernel) rfl rfl x0 x1
theorem r122_20 : xT d 122 20 ([l0, l1, .int w, .int (xI x), l4, l5]) (st) h Q ↔ xT d 122 23 ([l0, l1, .int w, .int (xI (x + 1)), l4, l5]) (st) h Q := xT_iinc (k := 3) (by decide +kernel) rfl rfl rfl
theorem r122_23 : xT d 122 23 (ls) (st) h Q ↔ xT d 122 7 (ls) (st) h Q := xT_goto (off := (-16)) (by decide +kernel) rfl
theorem r122_26 : xT d 122 26 (l0 :: l1 :: l2 :: .int v :: ls) (st) h Q ↔ xT d 122 27 (l0 :: l1 :: l2 :: .int v :: ls) (.int v :: st) h Q := xT_iload_n (k := 3) (by decide +kernel) rfl rfl
theorem r122_27 : xT d 122 27 (ls) (st) h Q ↔ xT d 122 29 (ls) (.int (xI 12) :: st) h Q := xT_bipush (n := 12) (by decide +kernel) rfl (by decide +kernel)
theorem r122_29 (x0 : -2147483648 ≤ x) (x1 : x ≤ 2147483647) (y0 : -2147483648 ≤ y) (y1 : y ≤ 2147483647) : xT d 122 29 (ls) (.int (xI y) :: .int (xI x) :: st) h Q ↔ (x < y → xT d 122 32 (ls) (st) h Q) ∧ (¬ x < y → xT d 122 44 (ls) (st) h Q) := xT_icge (off := 15) (by decide +kernel) rfl rfl x0 x1 y0 y1
theorem r122_32 : xT d 122 32 (l0 :: l1 :: l2 :: .int v :: ls) (st) h Q ↔ xT d 122 33 (l0 :: l1 :: l2 :: .int v :: ls) (.int v :: st) h Q := xT_iload_n (k := 3) (by decide +kernel) rfl rfl
theorem r122_33 : xT d 122 33 (l0 :: l1 :: .int v :: ls) (st) h Q ↔ xT d 122 34 (l0 :: l1 :: .int v :: ls) (.int v :: st) h Q := xT_iload_n (k := 2) (by decide +kernel) rfl rfl
theorem r122_34 (y0 : 0 ≤ y) (y1 : y ≤ 31) : xT d 122 34 (ls) (.int (xI y) :: .int (xI x) :: st) h Q ↔ xT d 122 35 (ls) (.int (xI (x * 2 ^ y.toNat)) :: st) h Q := xT_ishl (by decide +kernel) rfl y0 y1
theorem r122_35 : xT d 122 35 (.ref ov :: ls) (st) h Q ↔ xT d 122 36 (.ref ov :: ls) (.ref ov :: st) h Q := xT_aload_n (k := 0) (by decide +kernel) rfl rfl
theorem r122_36 : xT d 122 36 (l0 :: l1 :: .int v :: ls) (st) h Q ↔ xT d 122 37 (l0 :: l1 :: .int v :: ls) (.int v :: st) h Q := xT_iload_n (k := 2) (by decide +kernel) rfl rfl
theorem r122_37 {z0 : Int32} {z2 : Int32} (hd : 1 ≤ d) : xT d 122 37 (ls) ([.int z0, .ref 21, .int z2]) (hh f a g) Q ↔ xTC (d - 1) 120 [.ref 21, .int z0] (hh f a g) (xAf d 122 37 (ls) [.int z2] Q) := xT_virtual (k := 167) (na := 1) (ci := 8) (by decide +kernel) (by decide +kernel) (by decide +kernel) ⟨Nat.le_of_ble_eq_true rfl, Nat.le_of_ble_eq_true rfl⟩ rfl rfl (Nat.le_of_ble_eq_true rfl) rfl rfl ⟨Nat.le_of_ble_eq_true rfl, Nat.le_of_ble_eq_true rfl⟩ (Nat.le_of_ble_eq_true rfl) hd
theorem r122_40 : xT d 122 40 (ls) (.int (xI y) :: .int (xI x) :: st) h Q ↔ xT d 122 41 (ls) (.int (xI (xO x y)) :: st) h Q := xT_ior (by decide +kernel) rfl
theorem r122_41 : xT d 122 41 (ls) (st) h Q ↔ xT d 122 50 (ls) (st) h Q := xT_goto (off := 9) (by decide +kernel) rfl
theorem r122_44 : xT d 122 44 (.ref ov :: ls) (st) h Q ↔ xT d 122 45 (.ref ov :: ls) (.ref ov :: st) h Q := xT_aload_n (k := 0) (by decide +kernel) rfl rfl
theorem r122_45 : xT d 122 45 (ls) (st) h Q ↔ xT d 122 47 (ls) (.int (xI 9) :: st) h Q := xT_bipush (n := 9) (by decide +kernel) rfl (by decide +kernel)
theorem r122_47 {z0 : Int32} (hd : 1 ≤ d) : xT d 122 47 (ls) ([.int z0, .ref 21]) (hh f a g) Q ↔ xTC (d - 1) 120 [.ref 21, .int z0] (hh f a g) (xAf d 122 47 (ls) [] Q) := xT_virtual (k := 167) (na := 1) (ci := 8) (by decide +kernel) (by decide +kernel) (by decide +kernel) ⟨Nat.le_of_ble_eq_true rfl, Nat.le_of_ble_eq_true rfl⟩ rfl rfl (Nat.le_of_ble_eq_true rfl) rfl rfl ⟨Nat.le_of_ble_eq_true rfl, Nat.le_of_ble_eq_true rfl⟩ (Nat.le_of_ble_eq_true rfl) hd
theorem r122_50 : xT d 122 50 ([l0, l1, l2, .int w, l4, l5]) (.int v :: st) h Q ↔ xT d 122 52 ([l0, l1, l2, .int w, .int v, l5]) (st) h Q := xT_istore (k := 4) (by decide +kernel) rfl (Nat.le_of_ble_eq_true rfl) rfl
theorem r122_52 : xT d 122 52 (.ref ov :: ls) (st) h Q ↔ xT d 122 53 (.ref ov :: ls) (.ref ov :: st) h Q := xT_aload_n (k := 0) (by decide +kernel) rfl rfl
theorem r122_53 : xT d 122 53 (l0 :: l1 :: l2 :: l3 :: .int v :: ls) (st) h Q ↔ xT d 122 55 (l0 :: l1 :: l2 :: l3 :: .int v :: ls) (.int v :: st) h Q := xT_iload (k := 4) (by decide +kernel) rfl rfl
theorem r122_55 : xT d 122 55 (ls) (st) h Q ↔ xT d 122 56 (ls) (.int (xI 2) :: st) h Q := xT_iconst (n := 2) (by decide +kernel) rfl
theorem r122_56 (x0 : 0 ≤ x) (x1 : x ≤ 2147483647) (y0 : 0 < y) (y1 : y ≤ 2147483647) : xT d 122 56 (ls) (.int (xI y) :: .int (xI x) :: st) h Q ↔ xT d 122 57 (ls) (.int (xI (x % y)) :: st) h Q := xT_irem (by decide +kernel) rfl x0 x1 y0 y1
theorem r122_56_t (x0 : -2147483648 < x) (x1 : x ≤ 2147483647) (y0 : 0 < y) (y1 : y ≤ 2147483647) : xT d 122 56 (ls) (.int (xI y) :: .int (xI x) :: st) h Q ↔ xT d 122 57 (ls) (.int (xI (x.tmod y)) :: st) h Q := xT_tmod (by decide +kernel) rfl x0 x1 y0 y1
theorem r122_57 (x0 : -2147483648 ≤ x) (x1 : x ≤ 2147483647) : xT d 122 57 (ls) (.int (xI x) :: st) h Q ↔ (x = 0 → xT d 122 60 (ls) (st) h Q) ∧ (¬ x = 0 → xT d 122 67 (ls) (st) h Q) := xT_ifne (off := 10) (by decide +kernel) rfl rfl x0 x1
theorem r122_60 : xT d 122 60 (l0 :: l1 :: l2 :: l3 :: .int v :: ls) (st) h Q ↔ xT d 122 62 (l0 :: l1 :: l2 :: l3 :: .int v :: ls) (.int v :: st) h Q := xT_iload (k := 4) (by decide +kernel) rfl rfl
theorem r122_62 : xT d 122 62 (ls) (st) h Q ↔ xT d 122 63 (ls) (.int (xI 2) :: st) h Q := xT_iconst (n := 2) (by decide +kernel) rfl
theorem r122_63 (x0 : 0 ≤ x) (x1 : x ≤ 2147483647) (y0 : 0 < y) (y1 : y ≤ 2147483647) : xT d 122 63 (ls) (.int (xI y) :: .int (xI x) :: st) h Q ↔ xT d 122 64 (ls) (.int (xI (x / y)) :: st) h Q := xT_idiv (by decide +kernel) rfl x0 x1 y0 y1
theorem r122_63_t (x0 : -2147483648 < x) (x1 : x ≤ 2147483647) (y0 : 0 < y) (y1 : y ≤ 2147483647) : xT d 122 63 (ls) (.int (xI y) :: .int (xI x) :: st) h Q ↔ xT d 122 64 (ls) (.int (xI (x.tdiv y)) :: st) h Q := xT_tdiv (by decide +kernel) rfl x0 x1 y0 y1
theorem r122_64 : xT d 122 64 (ls) (st) h Q ↔ xT d 122 74 (ls) (st) h Q := xT_goto (off := 10) (by decide +kernel) rfl
theorem r122_67 : xT d 122 67 (l0 :: l1 :: l2 :: l3 :: .int v :: ls) (st) h Q ↔ xT d 122 69 (l0 :: l1 :: l2 :: l3 :: .int v :: ls) (.int v :: st) h Q := xT_iload (k := 4) (by decide +kernel) rfl rfl
theorem r122_69 : xT d 122 69 (ls) (st) h Q ↔ xT d 122 70 (ls) (.int (xI 1) :: st) h Q := xT_iconst (n := 1) (by decide +kernel) rfl
theorem r122_70 : xT d 122 70 (ls) (.int (xI y) :: .int (xI x) :: st) h Q ↔ xT d 122 71 (ls) (.int (xI (x + y)) :: st) h Q := xT_iadd (by decide +kernel) rfl
theorem r122_71 : xT d 122 71 (ls) (.int (xI x) :: st) h Q ↔ xT d 122 72 (ls) (.int (xI (-x)) :: st) h Q := xT_ineg (by decide +kernel) rfl
theorem r122_72 : xT d 122 72 (ls) (st) h Q ↔ xT d 122 73 (ls) (.int (xI 2) :: st) h Q := xT_iconst (n := 2) (by decide +kernel) rfl
theorem r122_73 (x0 : 0 ≤ x) (x1 : x ≤ 2147483647) (y0 : 0 < y) (y1 : y ≤ 2147483647) : xT d 122 73 (ls) (.int (xI y) :: .int (xI x) :: st) h Q ↔ xT d 122 74 (ls) (.int (xI (x / y)) :: st) h Q := xT_idiv (by decide +kernel) rfl x0 x1 y0 y1
theorem r122_73_t (x0 : -2147483648 < x) (x1 : x ≤ 2147483647) (y0 : 0 < y) (y1 : y ≤ 2147483647) : xT d 122 73 (ls) (.int (xI y) :: .int (xI x) :: st) h Q ↔ xT d 122 74 (ls) (.int (xI (x.tdiv y)) :: st) h Q := xT_tdiv (by decide +kernel) rfl x0 x1 y0 y1
theorem r122_74 : xT d 122 74 (l0 :: .int v :: ls) (st) h Q ↔ xT d 122 75 (l0 :: .int v :: ls) (.int v :: st) h Q := xT_iload_n (k := 1) (by decide +kernel) rfl rfl
theorem r122_75 {z0 : Int32} {z1 : Int32} (hd : 1 ≤ d) : xT d 122 75 (ls) ([.int z0, .int z1, .ref 21]) (hh f a g) Q ↔ xTC (d - 1) 121 [.ref 21, .int z1, .int z0] (hh f a g) (xAf d 122 75 (ls) [] Q) := xT_virtual (k := 170) (na := 2) (ci := 8) (by decide +kernel) (by decide +kernel) (by decide +kernel) ⟨Nat.le_of_ble_eq_true rfl, Nat.le_of_ble_eq_true rfl⟩ rfl rfl (Nat.le_of_ble_eq_true rfl) rfl rfl ⟨Nat.le_of_ble_eq_true rfl, Nat.le_of_ble_eq_true rfl⟩ (Nat.le_of_ble_eq_true rfl) hd
theorem r122_78 : xT d 122 78 ([l0, l1, l2, l3, .int w, l5]) (.int v :: st) h Q ↔ xT d 122 80 ([l0, l1, l2, l3, .int w, .int v]) (st) h Q := xT_istore (k := 5) (by decide +kernel) rfl (Nat.le_of_ble_eq_true rfl) rfl
theorem r122_80 : xT d 122 80 (.ref ov :: ls) (st) h Q ↔ xT d 122 81 (.ref ov :: ls) (.ref ov :: st) h Q := xT_aload_n (k := 0) (by decide +kernel) rfl rfl
theorem r122_81 : xT d 122 81 (l0 :: l1 :: l2 :: l3 :: l4 :: .int v :: ls) (st) h Q ↔ xT d 122 83 (l0 :: l1 :: l2 :: l3 :: l4 :: .int v :: ls) (.int v :: st) h Q := xT_iload (k := 5) (by decide +kernel) rfl rfl
theorem r122_83 {z0 : Int32} (hd : 1 ≤ d) : xT d 122 83 (ls) ([.int z0, .ref 21]) (hh f a g) Q ↔ xTC (d - 1) 104 [.ref 21, .int z0] (hh f a g) (xAf d 122 83 (ls) [] Q) := xT_virtual (k := 110) (na := 1) (ci := 8) (by decide +kernel) (by decide +kernel) (by decide +kernel) ⟨Nat.le_of_ble_eq_true rfl, Nat.le_of_ble_eq_true rfl⟩ rfl rfl (Nat.le_of_ble_eq_true rfl) rfl rfl ⟨Nat.le_of_ble_eq_true rfl, Nat.le_of_ble_eq_true rfl⟩ (Nat.le_of_ble_eq_true rfl) hd
theorem r122_86 : xT d 122 86 (l0 :: l1 :: l2 :: l3 :: l4 :: .int v :: ls) (st) h Q ↔ xT d 122 88 (l0 :: l1 :: l2 :: l3 :: l4 :: .int v :: ls) (.int v :: st) h Q := xT_iload (k := 5) (by decide +kernel) rfl rfl
theorem r122_88 : xT d 122 88 (ls) ([.int (xI x)]) h Q ↔ Q (h, .returned (some (.int (xI x)))) := xT_ireturn (by decide +kernel) rfl
theorem e122 {z0 : Nat} {z1 : Int32} : xTC d 122 [.ref z0, .int z1] h Q ↔ xT d 122 0 [.ref z0, .int z1, .null, .null, .null, .null] [] h Q := Iff.rfl
-- M_decodeBit
theorem r123_0 : xT d 123 0 (.ref ov :: ls) (st) h Q ↔ xT d 123 1 (.ref ov :: ls) (.ref ov :: st) h Q := xT_aload_n (k := 0) (by decide +kernel) rfl rfl
theorem r123_1 : xT d 123 1 (l0 :: .int v :: ls) (st) h Q ↔ xT d 123 2 (l0 :: .int v :: ls) (.int v :: st) h Q := xT_iload_n (k := 1) (by decide +kernel) rfl rfl
theorem r123_2 {z0 : Int32} (hd : 1 ≤ d) : xT d 123 2 (ls) ([.int z0, .ref 21]) (hh f a g) Q ↔ xTC (d - 1) 112 [.ref 21, .int z0] (hh f a g) (xAf d 123 2 (ls) [] Q) := xT_virtual (k := 116) (na := 1) (ci := 8) (by decide +kernel) (by decide +kernel) (by decide +kernel) ⟨Nat.le_of_ble_eq_true rfl, Nat.le_of_ble_eq_true rfl⟩ rfl rfl (Nat.le_of_ble_eq_true rfl) rfl rfl ⟨Nat.le_of_ble_eq_true rfl, Nat.le_of_ble_eq_true rfl⟩ (Nat.le_of_ble_eq_true rfl) hd
theorem r123_5 : xT d 123 5 ([l0, .int w, l2, l3]) (.int v :: st) h Q ↔ xT d 123 6 ([l0, .int w, .int v, l3]) (st) h Q := xT_istore_n (k := 2) (by decide +kernel) rfl (Nat.le_of_ble_eq_true rfl) rfl
theorem r123_6 : xT d 123 6 (.ref ov :: ls) (st) h Q ↔ xT d 123 7 (.ref ov :: ls) (.ref ov :: st) h Q := xT_aload_n (k := 0) (by decide +kernel) rfl rfl
theorem r123_7 : xT d 123 7 (ls) (.ref 21 :: st) (hh f a g) Q ↔ xT d 123 10 (ls) (.int (xI (f 21 34)) :: st) (hh f a g) Q := xT_getf (k := 173) (ci := 8) (fi := 34) (by decide +kernel) rfl rfl ⟨Nat.le_of_ble_eq_true rfl, Nat.le_of_ble_eq_true rfl⟩ (by decide +kernel) rfl
theorem r123_10 : xT d 123 10 (.ref ov :: ls) (st) h Q ↔ xT d 123 11 (.ref ov :: ls) (.ref ov :: st) h Q := xT_aload_n (k := 0) (by decide +kernel) rfl rfl
theorem r123_11 : xT d 123 11 (ls) (.ref 21 :: st) (hh f a g) Q ↔ xT d 123 14 (ls) (.int (xI (f 21 31)) :: st) (hh f a g) Q := xT_getf (k := 113) (ci := 8) (fi := 31) (by decide +kernel) rfl rfl ⟨Nat.le_of_ble_eq_true rfl, Nat.le_of_ble_eq_true rfl⟩ (by decide +kernel) rfl
theorem r123_14 : xT d 123 14 (l0 :: l1 :: .int v :: ls) (st) h Q ↔ xT d 123 15 (l0 :: l1 :: .int v :: ls) (.int v :: st) h Q := xT_iload_n (k := 2) (by decide +kernel) rfl rfl
theorem r123_15 : xT d 123 15 (ls) (.int (xI y) :: .int (xI x) :: st) h Q ↔ xT d 123 16 (ls) (.int (xI (x - y)) :: st) h Q := xT_isub (by decide +kernel) rfl
theorem r123_16 (x0 : -2147483648 ≤ x) (x1 : x ≤ 2147483647) (y0 : -2147483648 ≤ y) (y1 : y ≤ 2147483647) : xT d 123 16 (ls) (.int (xI y) :: .int (xI x) :: st) h Q ↔ (x < y → xT d 123 23 (ls) (st) h Q) ∧ (¬ x < y → xT d 123 19 (ls) (st) h Q) := xT_iclt (off := 7) (by decide +kernel) rfl rfl x0 x1 y0 y1
theorem r123_19 : xT d 123 19 (ls) (st) h Q ↔ xT d 123 20 (ls) (.int (xI 1) :: st) h Q := xT_iconst (n := 1) (by decide +kernel) rfl
theorem r123_20 : xT d 123 20 (ls) (st) h Q ↔ xT d 123 24 (ls) (st) h Q := xT_goto (off := 4) (by decide +kernel) rfl
theorem r123_23 : xT d 123 23 (ls) (st) h Q ↔ xT d 123 24 (ls) (.int (xI 0) :: st) h Q := xT_iconst (n := 0) (by decide +kernel) rfl
theorem r123_24 : xT d 123 24 ([l0, l1, .int w, l3]) (.int v :: st) h Q ↔ xT d 123 25 ([l0, l1, .int w, .int v]) (st) h Q := xT_istore_n (k := 3) (by decide +kernel) rfl (Nat.le_of_ble_eq_true rfl) rfl
theorem r123_25 : xT d 123 25 (.ref ov :: ls) (st) h Q ↔ xT d 123 26 (.ref ov :: ls) (.ref ov :: st) h Q := xT_aload_n (k := 0) (by decide +kernel) rfl rfl
theorem r123_26 : xT d 123 26 (l0 :: l1 :: l2 :: .int v :: ls) (st) h Q ↔ xT d 123 27 (l0 :: l1 :: l2 :: .int v :: ls) (.int v :: st) h Q := xT_iload_n (k := 3) (by decide +kernel) rfl rfl
theorem r123_27 : xT d 123 27 (ls) (st) h Q ↔ xT d 123 28 (ls) (.int (xI 1) :: st) h Q := xT_iconst (n := 1) (by decide +kernel) rfl
theorem r123_28 (x0 : -2147483648 ≤ x) (x1 : x ≤ 2147483647) (y0 : -2147483648 ≤ y) (y1 : y ≤ 2147483647) : xT d 123 28 (ls) (.int (xI y) :: .int (xI x) :: st) h Q ↔ (x = y → xT d 123 31 (ls) (st) h Q) ∧ (¬ x = y → xT d 123 45 (ls) (st) h Q) := xT_icne (off := 17) (by decide +kernel) rfl rfl x0 x1 y0 y1
theorem r123_31 : xT d 123 31 (.ref ov :: ls) (st) h Q ↔ xT d 123 32 (.ref ov :: ls) (.ref ov :: st) h Q := xT_aload_n (k := 0) (by decide +kernel) rfl rfl
theorem r123_32 : xT d 123 32 (ls) (.ref 21 :: st) (hh f a g) Q ↔ xT d 123 35 (ls) (.int (xI (f 21 34)) :: st) (hh f a g) Q := xT_getf (k := 173) (ci := 8) (fi := 34) (by decide +kernel) rfl rfl ⟨Nat.le_of_ble_eq_true rfl, Nat.le_of_ble_eq_true rfl⟩ (by decide +kernel) rfl
theorem r123_35 : xT d 123 35 (.ref ov :: ls) (st) h Q ↔ xT d 123 36 (.ref ov :: ls) (.ref ov :: st) h Q := xT_aload_n (k := 0) (by decide +kernel) rfl rfl
theorem r123_36 : xT d 123 36 (ls) (.ref 21 :: st) (hh f a g) Q ↔ xT d 123 39 (ls) (.int (xI (f 21 31)) :: st) (hh f a g) Q := xT_getf (k := 113) (ci := 8) (fi := 31) (by decide +kernel) rfl rfl ⟨Nat.le_of_ble_eq_true rfl, Nat.le_of_ble_eq_true rfl⟩ (by decide +kernel) rfl
theorem r123_39 : xT d 123 39 (ls) (.int (xI y) :: .int (xI x) :: st) h Q ↔ xT d 123 40 (ls) (.int (xI (x - y)) :: st) h Q := xT_isub (by decide +kernel) rfl
theorem r123_40 : xT d 123 40 (l0 :: l1 :: .int v :: ls) (st) h Q ↔ xT d 123 41 (l0 :: l1 :: .int v :: ls) (.int v :: st) h Q := xT_iload_n (k := 2) (by decide +kernel) rfl rfl
theorem r123_41 : xT d 123 41 (ls) (.int (xI y) :: .int (xI x) :: st) h Q ↔ xT d 123 42 (ls) (.int (xI (x + y)) :: st) h Q := xT_iadd (by decide +kernel) rfl
theorem r123_42 : xT d 123 42 (ls) (st) h Q ↔ xT d 123 49 (ls) (st) h Q := xT_goto (off := 7) (by decide +kernel) rfl
theorem r123_45 : xT d 123 45 (.ref ov :: ls) (st) h Q ↔ xT d 123 46 (.ref ov :: ls) (.ref ov :: st) h Q := xT_aload_n (k := 0) (by decide +kernel) rfl rfl
theorem r123_46 : xT d 123 46 (ls) (.ref 21 :: st) (hh f a g) Q ↔ xT d 123 49 (ls) (.int (xI (f 21 34)) :: st) (hh f a g) Q := xT_getf (k := 173) (ci := 8) (fi := 34) (by decide +kernel) rfl rfl ⟨Nat.le_of_ble_eq_true rfl, Nat.le_of_ble_eq_true rfl⟩ (by decide +kernel) rfl
theorem r123_49 : xT d 123 49 (ls) (.int (xI x) :: .ref 21 :: st) (hh f a g) Q ↔ xT d 123 52 (ls) (st) (hh (xu f 21 34 x) a g) Q := xT_putf (k := 173) (ci := 8) (fi := 34) (by decide +kernel) rfl rfl ⟨Nat.le_of_ble_eq_true rfl, Nat.le_of_ble_eq_true rfl⟩ (by decide +kernel) (by decide +kernel) (by decide +kernel) rfl
theorem r123_52 : xT d 123 52 (.ref ov :: ls) (st) h Q ↔ xT d 123 53 (.ref ov :: ls) (.ref ov :: st) h Q := xT_aload_n (k := 0) (by decide +kernel) rfl rfl
theorem r123_53 : xT d 123 53 (l0 :: l1 :: l2 :: .int v :: ls) (st) h Q ↔ xT d 123 54 (l0 :: l1 :: l2 :: .int v :: ls) (.int v :: st) h Q := xT_iload_n (k := 3) (by decide +kernel) rfl rfl
theorem r123_54 : xT d 123 54 (ls) (st) h Q ↔ xT d 123 55 (ls) (.int (xI 1) :: st) h Q := xT_iconst (n := 1) (by decide +kernel) rfl
theorem r123_55 (x0 : -2147483648 ≤ x) (x1 : x ≤ 2147483647) (y0 : -2147483648 ≤ y) (y1 : y ≤ 2147483647) : xT d 123 55 (ls) (.int (xI y) :: .int (xI x) :: st) h Q ↔ (x = y → xT d 123 58 (ls) (st) h Q) ∧ (¬ x = y → xT d 123 62 (ls) (st) h Q) := xT_icne (off := 7) (by decide +kernel) rfl rfl x0 x1 y0 y1
theorem r123_58 : xT d 123 58 (l0 :: l1 :: .int v :: ls) (st) h Q ↔ xT d 123 59 (l0 :: l1 :: .int v :: ls) (.int v :: st) h Q := xT_iload_n (k := 2) (by decide +kernel) rfl rfl
theorem r123_59 : xT d 123 59 (ls) (st) h Q ↔ xT d 123 68 (ls) (st) h Q := xT_goto (off := 9) (by decide +kernel) rfl
theorem r123_62 : xT d 123 62 (.ref ov :: ls) (st) h Q ↔ xT d 123 63 (.ref ov :: ls) (.ref ov :: st) h Q := xT_aload_n (k := 0) (by decide +kernel) rfl rfl
theorem r123_63 : xT d 123 63 (ls) (.ref 21 :: st) (hh f a g) Q ↔ xT d 123 66 (ls) (.int (xI (f 21 31)) :: st) (hh f a g) Q := xT_getf (k := 113) (ci := 8) (fi := 31) (by decide +kernel) rfl rfl ⟨Nat.le_of_ble_eq_true rfl, Nat.le_of_ble_eq_true rfl⟩ (by decide +kernel) rfl
theorem r123_66 : xT d 123 66 (l0 :: l1 :: .int v :: ls) (st) h Q ↔ xT d 123 67 (l0 :: l1 :: .int v :: ls) (.int v :: st) h Q := xT_iload_n (k := 2) (by decide +kernel) rfl rfl
theorem r123_67 : xT d 123 67 (ls) (.int (xI y) :: .int (xI x) :: st) h Q ↔ xT d 123 68 (ls) (.int (xI (x - y)) :: st) h Q := xT_isub (by decide +kernel) rfl
theorem r123_68 : xT d 123 68 (ls) (.int (xI x) :: .ref 21 :: st) (hh f a g) Q ↔ xT d 123 71 (ls) (st) (hh (xu f 21 31 x) a g) Q := xT_putf (k := 113) (ci := 8) (fi := 31) (by decide +kernel) rfl rfl ⟨Nat.le_of_ble_eq_true rfl, Nat.le_of_ble_eq_true rfl⟩ (by decide +kernel) (by decide +kernel) (by decide +kernel) rfl
theorem r123_71 : xT d 123 71 (.ref ov :: ls) (st) h Q ↔ xT d 123 72 (.ref ov :: ls) (.ref ov :: st) h Q := xT_aload_n (k := 0) (by decide +kernel) rfl rfl
theorem r123_72 : xT d 123 72 (l0 :: .int v :: ls) (st) h Q ↔ xT d 123 73 (l0 :: .int v :: ls) (.int v :: st) h Q := xT_iload_n (k := 1) (by decide +kernel) rfl rfl
theorem r123_73 : xT d 123 73 (l0 :: l1 :: l2 :: .int v :: ls) (st) h Q ↔ xT d 123 74 (l0 :: l1 :: l2 :: .int v :: ls) (.int v :: st) h Q := xT_iload_n (k := 3) (by decide +kernel) rfl rfl
theorem r123_74 {z0 : Int32} {z1 : Int32} (hd : 1 ≤ d) : xT d 123 74 (ls) ([.int z0, .int z1, .ref 21]) (hh f a g) Q ↔ xTC (d - 1) 111 [.ref 21, .int z1, .int z0] (hh f a g) (xAf d 123 74 (ls) [] Q) := xT_virtual (k := 122) (na := 2) (ci := 8) (by decide +kernel) (by decide +kernel) (by decide +kernel) ⟨Nat.le_of_ble_eq_true rfl, Nat.le_of_ble_eq_true rfl⟩ rfl rfl (Nat.le_of_ble_eq_true rfl) rfl rfl ⟨Nat.le_of_ble_eq_true rfl, Nat.le_of_ble_eq_true rfl⟩ (Nat.le_of_ble_eq_true rfl) hd
theorem r123_77 : xT d 123 77 (.ref ov :: ls) (st) h Q ↔ xT d 123 78 (.ref ov :: ls) (.ref ov :: st) h Q := xT_aload_n (k := 0) (by decide +kernel) rfl rfl
theorem r123_78 : xT d 123 78 (ls) (.ref 21 :: st) (hh f a g) Q ↔ xT d 123 81 (ls) (.int (xI (f 21 31)) :: st) (hh f a g) Q := xT_getf (k := 113) (ci := 8) (fi := 31) (by decide +kernel) rfl rfl ⟨Nat.le_of_ble_eq_true rfl, Nat.le_of_ble_eq_true rfl⟩ (by decide +kernel) rfl
theorem r123_81 : xT d 123 81 (ls) (st) h Q ↔ xT d 123 84 (ls) (.int (xI 256) :: st) h Q := xT_sipush (n := 256) (by decide +kernel) rfl (by decide +kernel)
theorem r123_84 (x0 : -2147483648 ≤ x) (x1 : x ≤ 2147483647) (y0 : -2147483648 ≤ y) (y1 : y ≤ 2147483647) : xT d 123 84 (ls) (.int (xI y) :: .int (xI x) :: st) h Q ↔ (x < y → xT d 123 87 (ls) (st) h Q) ∧ (¬ x < y → xT d 123 119 (ls) (st) h Q) := xT_icge (off := 35) (by decide +kernel) rfl rfl x0 x1 y0 y1
theorem r123_87 : xT d 123 87 (.ref ov :: ls) (st) h Q ↔ xT d 123 88 (.ref ov :: ls) (.ref ov :: st) h Q := xT_aload_n (k := 0) (by decide +kernel) rfl rfl
theorem r123_88 : xT d 123 88 (.ref ov :: ls) (st) h Q ↔ xT d 123 89 (.ref ov :: ls) (.ref ov :: st) h Q := xT_aload_n (k := 0) (by decide +kernel) rfl rfl
theorem r123_89 : xT d 123 89 (ls) (.ref 21 :: st) (hh f a g) Q ↔ xT d 123 92 (ls) (.int (xI (f 21 31)) :: st) (hh f a g) Q := xT_getf (k := 113) (ci := 8) (fi := 31) (by decide +kernel) rfl rfl ⟨Nat.le_of_ble_eq_true rfl, Nat.le_of_ble_eq_true rfl⟩ (by decide +kernel) rfl
theorem r123_92 : xT d 123 92 (ls) (st) h Q ↔ xT d 123 95 (ls) (.int (xI 256) :: st) h Q := xT_sipush (n := 256) (by decide +kernel) rfl (by decide +kernel)
theorem r123_95 : xT d 123 95 (ls) (.int (xI y) :: .int (xI x) :: st) h Q ↔ xT d 123 96 (ls) (.int (xI (x * y)) :: st) h Q := xT_imul (by decide +kernel) rfl
theorem r123_96 : xT d 123 96 (ls) (.int (xI x) :: .ref 21 :: st) (hh f a g) Q ↔ xT d 123 99 (ls) (st) (hh (xu f 21 31 x) a g) Q := xT_putf (k := 113) (ci := 8) (fi := 31) (by decide +kernel) rfl rfl ⟨Nat.le_of_ble_eq_true rfl, Nat.le_of_ble_eq_true rfl⟩ (by decide +kernel) (by decide +kernel) (by decide +kernel) rfl
theorem r123_99 : xT d 123 99 (.ref ov :: ls) (st) h Q ↔ xT d 123 100 (.ref ov :: ls) (.ref ov :: st) h Q := xT_aload_n (k := 0) (by decide +kernel) rfl rfl
theorem r123_100 : xT d 123 100 (.ref ov :: ls) (st) h Q ↔ xT d 123 101 (.ref ov :: ls) (.ref ov :: st) h Q := xT_aload_n (k := 0) (by decide +kernel) rfl rfl
theorem r123_101 : xT d 123 101 (ls) (.ref 21 :: st) (hh f a g) Q ↔ xT d 123 104 (ls) (.int (xI (f 21 34)) :: st) (hh f a g) Q := xT_getf (k := 173) (ci := 8) (fi := 34) (by decide +kernel) rfl rfl ⟨Nat.le_of_ble_eq_true rfl, Nat.le_of_ble_eq_true rfl⟩ (by decide +kernel) rfl
theorem r123_104 : xT d 123 104 (ls) (st) h Q ↔ xT d 123 107 (ls) (.int (xI 256) :: st) h Q := xT_sipush (n := 256) (by decide +kernel) rfl (by decide +kernel)
theorem r123_107 : xT d 123 107 (ls) (.int (xI y) :: .int (xI x) :: st) h Q ↔ xT d 123 108 (ls) (.int (xI (x * y)) :: st) h Q := xT_imul (by decide +kernel) rfl
theorem r123_108 : xT d 123 108 (.ref ov :: ls) (st) h Q ↔ xT d 123 109 (.ref ov :: ls) (.ref ov :: st) h Q := xT_aload_n (k := 0) (by decide +kernel) rfl rfl
theorem r123_109 {z1 : Int32} {z2 : Nat} (hd : 1 ≤ d) : xT d 123 109 (ls) ([.ref 21, .int z1, .ref z2]) (hh f a g) Q ↔ xTC (d - 1) 117 [.ref 21] (hh f a g) (xAf d 123 109 (ls) [.int z1, .ref z2] Q) := xT_virtual (k := 176) (na := 0) (ci := 8) (by decide +kernel) (by decide +kernel) (by decide +kernel) ⟨Nat.le_of_ble_eq_true rfl, Nat.le_of_ble_eq_true rfl⟩ rfl rfl (Nat.le_of_ble_eq_true rfl) rfl rfl ⟨Nat.le_of_ble_eq_true rfl, Nat.le_of_ble_eq_true rfl⟩ (Nat.le_of_ble_eq_true rfl) hd
theorem r123_112 : xT d 123 112 (ls) (.int (xI y) :: .int (xI x) :: st) h Q ↔ xT d 123 113 (ls) (.int (xI (x + y)) :: st) h Q := xT_iadd (by decide +kernel) rfl
theorem r123_113 : xT d 123 113 (ls) (.int (xI x) :: .ref 21 :: st) (hh f a g) Q ↔ xT d 123 116 (ls) (st) (hh (xu f 21 34 x) a g) Q := xT_putf (k := 173) (ci := 8) (fi := 34) (by decide +kernel) rfl rfl ⟨Nat.le_of_ble_eq_true rfl, Nat.le_of_ble_eq_true rfl⟩ (by decide +kernel) (by decide +kernel) (by decide +kernel) rfl
theorem r123_116 : xT d 123 116 (ls) (st) h Q ↔ xT d 123 77 (ls) (st) h Q := xT_goto (off := (-39)) (by decide +kernel) rfl
theorem r123_119 : xT d 123 119 (l0 :: l1 :: l2 :: .int v :: ls) (st) h Q ↔ xT d 123 120 (l0 :: l1 :: l2 :: .int v :: ls) (.int v :: st) h Q := xT_iload_n (k := 3) (by decide +kernel) rfl rfl
theorem r123_120 : xT d 123 120 (ls) ([.int (xI x)]) h Q ↔ Q (h, .returned (some (.int (xI x)))) := xT_ireturn (by decide +kernel) rfl
theorem e123 {z0 : Nat} {z1 : Int32} : xTC d 123 [.ref z0, .int z1] h Q ↔ xT d 123 0 [.ref z0, .int z1, .null, .null] [] h Q := Iff.rfl
end XR23
