/-! the words of the three exceptions, as the library's throw asks them -/
def xo_oth (w : Cond) : Bool := decide (w = .isRef (.static Bundle.tN "UNASSIGNED_STACK" Bundle.steD)) || (decide (w = .isRef (.static Bundle.tN "SUPPRESSED_SENTINEL" Bundle.listD)) || (decide (w = .laysStatic Bundle.tN "UNASSIGNED_STACK" Bundle.steD) || (decide (w = .laysStatic Bundle.tN "SUPPRESSED_SENTINEL" Bundle.listD) || (decide (w = .castable (xt_E.getD 0 "") (xt_E.getD 0 "")) || (decide (w = .castable (xt_E.getD 1 "") (xt_E.getD 1 "")) || decide (w = .castable (xt_E.getD 2 "") (xt_E.getD 2 "")))))))
def xo_ic (ex : Nat) : Nat := [69, 91, 104].getD ex 0
abbrev xo_at (ex : Nat) : List Cond := Bundle.ownAtoms "FrameVault" (xo_ic ex) (xt_E.getD ex "") ["java/lang/RuntimeException", "java/lang/Exception"]
def xo_ix0 : List Nat := [71, 585, 594, 598, 601, 603, 586, 587, 86, 87, 588, 593, 599, 619, 575, 620, 577, 621, 579, 589, 590, 591, 592, 581, 615, 616, 618, 581, 606, 607, 608, 609, 567, 609, 610, 611, 612, 569, 612, 613, 614, 615, 571, 605, 564, 565, 572, 573, 574, 576, 578, 580, 9999, 9999, 617, 583, 582]
def xo_ix1 : List Nat := [71, 585, 594, 598, 601, 603, 586, 587, 86, 87, 588, 593, 599, 619, 575, 620, 577, 621, 579, 589, 590, 591, 592, 581, 615, 616, 618, 581, 654, 655, 656, 609, 567, 609, 610, 611, 612, 569, 612, 613, 614, 615, 571, 653, 644, 645, 646, 596, 647, 648, 649, 650, 9999, 9999, 617, 583, 651]
def xo_ix2 : List Nat := [71, 585, 594, 598, 601, 603, 586, 587, 86, 87, 588, 593, 599, 619, 575, 620, 577, 621, 579, 589, 590, 591, 592, 581, 615, 616, 618, 581, 683, 684, 685, 609, 567, 609, 610, 611, 612, 569, 612, 613, 614, 615, 571, 682, 673, 674, 675, 597, 676, 677, 678, 679, 9999, 9999, 617, 583, 680]
def xo_ix (ex : Nat) : List Nat := [xo_ix0, xo_ix1, xo_ix2].getD ex []
set_option maxRecDepth 100000 in
theorem xo_all : (List.range 3).all (fun ex => decide ((xo_at ex).length = (xo_ix ex).length) && ((xo_at ex).zip (xo_ix ex)).all (fun q => xk_at q.2 q.1 || xo_oth q.1)) = true := by decide +kernel
def xo_w (ex : Nat) : Nat × Nat × Nat × Nat := [(65, 563, 74, 564), (87, 643, 75, 644), (100, 672, 76, 673)].getD ex (0, 0, 0, 0)
def xk_Tb (q : (Nat × Nat × Nat) × (Nat × Nat × Nat × Nat)) : Bool := decide (q.2.1 < 3) && (decide (xm_oc q.1.1 = 1) && (decide (q.2.2.1 = (xo_w q.2.1).1) && (decide (q.2.2.2.2 = xo_ic q.2.1) && xt_Str.any (fun z => z.1 == q.2.2.2.1))))
theorem xk_T_all : xt_T.all xk_Tb = true := by decide +kernel
theorem xo_words : (List.range 3).all (fun ex => xk_at (xo_w ex).2.1 (.classLink "FrameVault" (xo_w ex).1 (xt_E.getD ex "")) && (xk_at (xo_w ex).2.2.1 (.initialized (xt_E.getD ex "")) && (xk_at (xo_w ex).2.2.2 (.instantiable (xt_E.getD ex "") 6) && (Bundle.fit (xt_E.getD ex "") && (Bundle.fit "java/lang/RuntimeException" && Bundle.fit "java/lang/Exception"))))) = true := by decide +kernel
theorem xo_cast {args : Array Value} {s : State} {C : String} {c : ClassId} (h : s.vm.findClass C = some c) : (Cond.castable C C).before args s = true := by
  simp [Cond.before, Cond.holds, Cond.value, h, va_asg]
/-- all that the library's throw asks -/
theorem xo_own {args : Array Value} {s : State} (hts : xk_W args s) (hT : xo_T s.heap s) {ex : Nat} (hex : ex < 3) : ∀ a ∈ xo_at ex, a.before args s = true := by
  have hfc : ∀ j, j < 3 → ∃ c, s.vm.findClass (xt_E.getD j "") = some c := fun j hj => by
    have h1 := List.all_eq_true.mp xo_words j (List.mem_range.mpr hj)
    simp only [Bool.and_eq_true] at h1
    obtain ⟨c1, -, h3, -⟩ := Cond.instantiable_spec (hts _ _ h1.2.2.1)
    exact ⟨c1, h3⟩
  have h1 := List.all_eq_true.mp xo_all ex (List.mem_range.mpr hex)
  simp only [Bool.and_eq_true, decide_eq_true_eq, List.all_eq_true, Bool.or_eq_true] at h1
  intro a ha
  obtain ⟨i, hi⟩ := List.getElem?_of_mem ha
  have hl := (List.getElem?_eq_some_iff.mp hi).1
  obtain ⟨j, hj⟩ : ∃ j, (xo_ix ex)[i]? = some j := ⟨_, List.getElem?_eq_getElem (by rw [← h1.1]; exact hl)⟩
  have hz : (a, j) ∈ (xo_at ex).zip (xo_ix ex) := List.mem_of_getElem? (i := i) (by rw [List.getElem?_zip_eq_some]; exact ⟨hi, hj⟩)
  rcases h1.2 _ hz with h2 | h2
  · exact hts _ _ h2
  · unfold xo_oth at h2
    simp only [Bool.or_eq_true, decide_eq_true_eq] at h2
    rcases h2 with rfl | rfl | rfl | rfl | rfl | rfl | rfl
    · exact hT.1.ref
    · exact hT.2.1.ref
    · exact hT.1.lays
    · exact hT.2.1.lays
    · obtain ⟨c, hc⟩ := hfc 0 (by omega); exact xo_cast hc
    · obtain ⟨c, hc⟩ := hfc 1 (by omega); exact xo_cast hc
    · obtain ⟨c, hc⟩ := hfc 2 (by omega); exact xo_cast hc
