/-! THE CALLS of the law's script, one by one (printed by gencase.py) -/
section CA
variable {θ : zS} {L d t : Nat} {xs : Nat → Int} {μ : zM} {Q : Option zV → zS → zM → Prop}
theorem wi1 {n : Nat} (h : n < 2147483000) : w32 ((n : Int) + 1) = ((n + 1 : Nat) : Int) := by unfold w32; omega
theorem wi2 {n : Nat} (h : n < 2147483000) : w32 ((n : Int) + 2) = ((n + 2 : Nat) : Int) := by unfold w32; omega
theorem wi3 {n : Nat} (h : n < 2147483000) : w32 ((n : Int) + 3) = ((n + 3 : Nat) : Int) := by unfold w32; omega
theorem wi4 {n : Nat} (h : n < 2147483000) : w32 ((n : Int) + 4) = ((n + 4 : Nat) : Int) := by unfold w32; omega
theorem wi5 {n : Nat} (h : n < 2147483000) : w32 ((n : Int) + 5) = ((n + 5 : Nat) : Int) := by unfold w32; omega
theorem wi6 {n : Nat} (h : n < 2147483000) : w32 ((n : Int) + 6) = ((n + 6 : Nat) : Int) := by unfold w32; omega
theorem c_feed (hd : 40 ≤ d) (h : IV L xs t θ μ) (ht : 6 * t + 6 ≤ L) (hL : L ≤ 3077) (K : ∀ θ' μ', IV L xs (t + 1) θ' μ' → Ex d 296 1971 [vr 1, vr 2, vr 138, vi ((6 * t : Nat) : Int)] [] θ' μ' Q) : Ex d 296 248 [vr 1, vr 2, vr 138, vi ((6 * t : Nat) : Int)] [] θ μ Q := by
  obtain ⟨T, U, σ, s, hC, hM, hB, hm, h1, hx⟩ := h
  have hc := hC.1.1.1
  have hmm := hM.1.1
  have hd0 : 0 < d := by omega
  have g1 := IV_1 h1
  have wb : 6 * t < 2147483000 := by omega
  have X1 : (zix θ .int 1 ((6 * t + 1 : Nat) : Int) = true) = True := zix_T g1 (by omega) (by omega)
  have X2 : (zix θ .int 1 ((6 * t + 2 : Nat) : Int) = true) = True := zix_T g1 (by omega) (by omega)
  have X3 : (zix θ .int 1 ((6 * t + 3 : Nat) : Int) = true) = True := zix_T g1 (by omega) (by omega)
  have X4 : (zix θ .int 1 ((6 * t + 4 : Nat) : Int) = true) = True := zix_T g1 (by omega) (by omega)
  have X5 : (zix θ .int 1 ((6 * t + 5 : Nat) : Int) = true) = True := zix_T g1 (by omega) (by omega)
  simp only [x296_248, x296_249, x296_250, x296_251, x296_252, x296_253, x296_254, x296_255, x296_256, x296_257, x296_258, x296_259, x296_260, x296_261, x296_262, x296_263, x296_264, x296_265, x296_266, x296_267, x296_268, x296_269, x296_270, x296_271, x296_272, x296_273, x296_274, ↓reduceIte, Bool.false_eq_true, Nat.reduceAdd, Nat.reduceLT, Nat.reduceLeDiff, Nat.reduceSub, Nat.reduceEqDiff, Int.reduceToNat, Int.reduceEq, Int.reduceLT, Int.reduceLE, Int.reduceAdd, Int.reduceSub, zg, zI, zJ, zR, zst, zkl, zn, zcat, zok, zraw, List.length_cons, List.length_nil, Option.toList, List.nil_append, List.cons_append, true_and, and_true, if_true, if_false, ne_eq, not_true, not_false_eq_true, and_self, true_or, or_true, false_or, or_false, false_and, and_false, b_2 hc, b_138 hmm, X1, wi1 wb, X2, wi2 wb, X3, wi3 wb, X4, wi4 wb, X5, wi5 wb, Int.toNat_natCast, hx, hd0]
  refine Ex_keep hB ?_
  refine kFeed (D := d - 1) hC (by omega) (fun μ1 l1 C1 hB1 => ?_)
  have M1 : MS θ σ s μ1 := MS_CL hM (fun a ha => l1 a (Or.inr ha))
  have hx1 : ∀ j, μ1 1 j = xs j := fun j => by rw [l1 1 (Or.inl (by decide))]; exact hx j
  simp only [x296_277, x296_278, x296_279, x296_280, x296_281, x296_282, x296_283, x296_284, x296_285, x296_286, x296_287, x296_288, x296_289, x296_290, x296_291, x296_292, x296_293, x296_294, x296_295, x296_296, x296_297, x296_298, x296_299, x296_300, x296_301, x296_302, x296_303, ↓reduceIte, Bool.false_eq_true, Nat.reduceAdd, Nat.reduceLT, Nat.reduceLeDiff, Nat.reduceSub, Nat.reduceEqDiff, Int.reduceToNat, Int.reduceEq, Int.reduceLT, Int.reduceLE, Int.reduceAdd, Int.reduceSub, zg, zI, zJ, zR, zst, zkl, zn, zcat, zok, zraw, List.length_cons, List.length_nil, Option.toList, List.nil_append, List.cons_append, true_and, and_true, if_true, if_false, ne_eq, not_true, not_false_eq_true, and_self, true_or, or_true, false_or, or_false, false_and, and_false, b_138 hmm, X1, wi1 wb, X2, wi2 wb, X3, wi3 wb, X4, wi4 wb, X5, wi5 wb, Int.toNat_natCast, hx1, hd0]
  refine Ex_keep hB1 ?_
  refine rFeed (D := d - 1) M1 (by omega) (fun μ2 l2 M2 hB2 => ?_)
  simp only [x296_306, x296_309, x296_310, ↓reduceIte, Bool.false_eq_true, Nat.reduceAdd, Nat.reduceLT, Nat.reduceLeDiff, Nat.reduceSub, Nat.reduceEqDiff, Int.reduceToNat, Int.reduceEq, Int.reduceLT, Int.reduceLE, Int.reduceAdd, Int.reduceSub, zg, zI, zJ, zR, zst, zkl, zn, zcat, zok, zraw, List.length_cons, List.length_nil, Option.toList, List.nil_append, List.cons_append, true_and, and_true, if_true, if_false, ne_eq, not_true, not_false_eq_true, and_self, true_or, or_true, false_or, or_false, false_and, and_false]
  exact K _ _ ⟨T, U, _, s, (CS_ML C1 l2), M2, hB2, (sM_feed (by omega)), h1, (fun j => by rw [l2 1 (by decide)]; exact hx1 j)⟩
theorem c_back (hd : 40 ≤ d) (h : IV L xs t θ μ) (ht : 6 * t + 6 ≤ L) (hL : L ≤ 3077) (K : ∀ θ' μ', IV L xs (t + 1) θ' μ' → Ex d 296 1971 [vr 1, vr 2, vr 138, vi ((6 * t : Nat) : Int)] [] θ' μ' Q) : Ex d 296 311 [vr 1, vr 2, vr 138, vi ((6 * t : Nat) : Int)] [] θ μ Q := by
  obtain ⟨T, U, σ, s, hC, hM, hB, hm, h1, hx⟩ := h
  have hc := hC.1.1.1
  have hmm := hM.1.1
  have hd0 : 0 < d := by omega
  have g1 := IV_1 h1
  have wb : 6 * t < 2147483000 := by omega
  have X1 : (zix θ .int 1 ((6 * t + 1 : Nat) : Int) = true) = True := zix_T g1 (by omega) (by omega)
  simp only [x296_311, x296_312, x296_313, x296_314, x296_315, x296_316, x296_317, ↓reduceIte, Bool.false_eq_true, Nat.reduceAdd, Nat.reduceLT, Nat.reduceLeDiff, Nat.reduceSub, Nat.reduceEqDiff, Int.reduceToNat, Int.reduceEq, Int.reduceLT, Int.reduceLE, Int.reduceAdd, Int.reduceSub, zg, zI, zJ, zR, zst, zkl, zn, zcat, zok, zraw, List.length_cons, List.length_nil, Option.toList, List.nil_append, List.cons_append, true_and, and_true, if_true, if_false, ne_eq, not_true, not_false_eq_true, and_self, true_or, or_true, false_or, or_false, false_and, and_false, b_2 hc, b_138 hmm, X1, wi1 wb, Int.toNat_natCast, hx, hd0]
  refine Ex_keep hB ?_
  refine kBack (D := d - 1) hC (by omega) (fun μ1 l1 C1 hB1 => ?_)
  have M1 : MS θ σ s μ1 := MS_CL hM (fun a ha => l1 a (Or.inr ha))
  have hx1 : ∀ j, μ1 1 j = xs j := fun j => by rw [l1 1 (Or.inl (by decide))]; exact hx j
  simp only [x296_320, x296_321, x296_322, x296_323, x296_324, x296_325, x296_326, ↓reduceIte, Bool.false_eq_true, Nat.reduceAdd, Nat.reduceLT, Nat.reduceLeDiff, Nat.reduceSub, Nat.reduceEqDiff, Int.reduceToNat, Int.reduceEq, Int.reduceLT, Int.reduceLE, Int.reduceAdd, Int.reduceSub, zg, zI, zJ, zR, zst, zkl, zn, zcat, zok, zraw, List.length_cons, List.length_nil, Option.toList, List.nil_append, List.cons_append, true_and, and_true, if_true, if_false, ne_eq, not_true, not_false_eq_true, and_self, true_or, or_true, false_or, or_false, false_and, and_false, b_138 hmm, X1, wi1 wb, Int.toNat_natCast, hx1, hd0]
  refine Ex_keep hB1 ?_
  refine rBack (D := d - 1) M1 (by omega) (fun μ2 l2 M2 hB2 => ?_)
  simp only [x296_329, x296_332, x296_333, ↓reduceIte, Bool.false_eq_true, Nat.reduceAdd, Nat.reduceLT, Nat.reduceLeDiff, Nat.reduceSub, Nat.reduceEqDiff, Int.reduceToNat, Int.reduceEq, Int.reduceLT, Int.reduceLE, Int.reduceAdd, Int.reduceSub, zg, zI, zJ, zR, zst, zkl, zn, zcat, zok, zraw, List.length_cons, List.length_nil, Option.toList, List.nil_append, List.cons_append, true_and, and_true, if_true, if_false, ne_eq, not_true, not_false_eq_true, and_self, true_or, or_true, false_or, or_false, false_and, and_false]
  exact K _ _ ⟨T, U, _, s, (CS_ML C1 l2), M2, hB2, (sM_back (by omega)), h1, (fun j => by rw [l2 1 (by decide)]; exact hx1 j)⟩
theorem c_read (hd : 40 ≤ d) (h : IV L xs t θ μ) (ht : 6 * t + 6 ≤ L) (hL : L ≤ 3077) (K : ∀ θ' μ', IV L xs (t + 1) θ' μ' → Ex d 296 1971 [vr 1, vr 2, vr 138, vi ((6 * t : Nat) : Int)] [] θ' μ' Q) : Ex d 296 334 [vr 1, vr 2, vr 138, vi ((6 * t : Nat) : Int)] [] θ μ Q := by
  obtain ⟨T, U, σ, s, hC, hM, hB, hm, h1, hx⟩ := h
  have hc := hC.1.1.1
  have hmm := hM.1.1
  have hd0 : 0 < d := by omega
  simp only [x296_334, x296_335, ↓reduceIte, Bool.false_eq_true, Nat.reduceAdd, Nat.reduceLT, Nat.reduceLeDiff, Nat.reduceSub, Nat.reduceEqDiff, Int.reduceToNat, Int.reduceEq, Int.reduceLT, Int.reduceLE, Int.reduceAdd, Int.reduceSub, zg, zI, zJ, zR, zst, zkl, zn, zcat, zok, zraw, List.length_cons, List.length_nil, Option.toList, List.nil_append, List.cons_append, true_and, and_true, if_true, if_false, ne_eq, not_true, not_false_eq_true, and_self, true_or, or_true, false_or, or_false, false_and, and_false, b_2 hc, b_138 hmm, Int.toNat_natCast, hx, hd0]
  refine Ex_keep hB ?_
  refine kRead (d := d - 1) hC (by omega) (fun θ1 T1 U1 μ1 ro l1 C1 hB1 => ?_)
  have hm1 := Tm_ro hmm ro
  have M1 : MS θ1 σ s μ1 := MS_th (MS_CL hM (fun a ha => l1 a (Or.inr ha))) hm1
  have h11 : θ1.1 = (SHL L).take 214 := by rw [ro.1]; exact h1
  have hx1 : ∀ j, μ1 1 j = xs j := fun j => by rw [l1 1 (Or.inl (by decide))]; exact hx j
  simp only [x296_338, x296_339, ↓reduceIte, Bool.false_eq_true, Nat.reduceAdd, Nat.reduceLT, Nat.reduceLeDiff, Nat.reduceSub, Nat.reduceEqDiff, Int.reduceToNat, Int.reduceEq, Int.reduceLT, Int.reduceLE, Int.reduceAdd, Int.reduceSub, zg, zI, zJ, zR, zst, zkl, zn, zcat, zok, zraw, List.length_cons, List.length_nil, Option.toList, List.nil_append, List.cons_append, true_and, and_true, if_true, if_false, ne_eq, not_true, not_false_eq_true, and_self, true_or, or_true, false_or, or_false, false_and, and_false, b_138 hm1, Int.toNat_natCast, hx1, hd0]
  refine Ex_keep hB1 ?_
  refine rRead (d := d - 1) M1 (by omega) (fun s1 μ2 l2 M2 hB2 => ?_)
  simp only [x296_342, x296_345, x296_346, ↓reduceIte, Bool.false_eq_true, Nat.reduceAdd, Nat.reduceLT, Nat.reduceLeDiff, Nat.reduceSub, Nat.reduceEqDiff, Int.reduceToNat, Int.reduceEq, Int.reduceLT, Int.reduceLE, Int.reduceAdd, Int.reduceSub, zg, zI, zJ, zR, zst, zkl, zn, zcat, zok, zraw, List.length_cons, List.length_nil, Option.toList, List.nil_append, List.cons_append, true_and, and_true, if_true, if_false, ne_eq, not_true, not_false_eq_true, and_self, true_or, or_true, false_or, or_false, false_and, and_false]
  exact K _ _ ⟨T1, U1, _, s1, (CS_ML C1 l2), M2, hB2, (sM_read (by omega)), h11, (fun j => by rw [l2 1 (by decide)]; exact hx1 j)⟩
theorem c_place (hd : 40 ≤ d) (h : IV L xs t θ μ) (ht : 6 * t + 6 ≤ L) (hL : L ≤ 3077) (K : ∀ θ' μ', IV L xs (t + 1) θ' μ' → Ex d 296 1971 [vr 1, vr 2, vr 138, vi ((6 * t : Nat) : Int)] [] θ' μ' Q) : Ex d 296 347 [vr 1, vr 2, vr 138, vi ((6 * t : Nat) : Int)] [] θ μ Q := by
  obtain ⟨T, U, σ, s, hC, hM, hB, hm, h1, hx⟩ := h
  have hc := hC.1.1.1
  have hmm := hM.1.1
  have hd0 : 0 < d := by omega
  simp only [x296_347, x296_348, ↓reduceIte, Bool.false_eq_true, Nat.reduceAdd, Nat.reduceLT, Nat.reduceLeDiff, Nat.reduceSub, Nat.reduceEqDiff, Int.reduceToNat, Int.reduceEq, Int.reduceLT, Int.reduceLE, Int.reduceAdd, Int.reduceSub, zg, zI, zJ, zR, zst, zkl, zn, zcat, zok, zraw, List.length_cons, List.length_nil, Option.toList, List.nil_append, List.cons_append, true_and, and_true, if_true, if_false, ne_eq, not_true, not_false_eq_true, and_self, true_or, or_true, false_or, or_false, false_and, and_false, b_2 hc, b_138 hmm, Int.toNat_natCast, hx, hd0]
  refine Ex_keep hB ?_
  refine kPlace (D := d - 1) hC (fun hB1 => ?_)
  simp only [x296_351, x296_352, ↓reduceIte, Bool.false_eq_true, Nat.reduceAdd, Nat.reduceLT, Nat.reduceLeDiff, Nat.reduceSub, Nat.reduceEqDiff, Int.reduceToNat, Int.reduceEq, Int.reduceLT, Int.reduceLE, Int.reduceAdd, Int.reduceSub, zg, zI, zJ, zR, zst, zkl, zn, zcat, zok, zraw, List.length_cons, List.length_nil, Option.toList, List.nil_append, List.cons_append, true_and, and_true, if_true, if_false, ne_eq, not_true, not_false_eq_true, and_self, true_or, or_true, false_or, or_false, false_and, and_false, b_138 hmm, Int.toNat_natCast, hx, hd0]
  refine Ex_keep hB1 ?_
  refine rPlace (D := d - 1) hM (fun hB2 => ?_)
  simp only [x296_355, x296_358, x296_359, ↓reduceIte, Bool.false_eq_true, Nat.reduceAdd, Nat.reduceLT, Nat.reduceLeDiff, Nat.reduceSub, Nat.reduceEqDiff, Int.reduceToNat, Int.reduceEq, Int.reduceLT, Int.reduceLE, Int.reduceAdd, Int.reduceSub, zg, zI, zJ, zR, zst, zkl, zn, zcat, zok, zraw, List.length_cons, List.length_nil, Option.toList, List.nil_append, List.cons_append, true_and, and_true, if_true, if_false, ne_eq, not_true, not_false_eq_true, and_self, true_or, or_true, false_or, or_false, false_and, and_false]
  exact K _ _ ⟨T, U, _, s, hC, hM, hB2, (by omega), h1, hx⟩
theorem c_tile (hd : 40 ≤ d) (h : IV L xs t θ μ) (ht : 6 * t + 6 ≤ L) (hL : L ≤ 3077) (K : ∀ θ' μ', IV L xs (t + 1) θ' μ' → Ex d 296 1971 [vr 1, vr 2, vr 138, vi ((6 * t : Nat) : Int)] [] θ' μ' Q) : Ex d 296 360 [vr 1, vr 2, vr 138, vi ((6 * t : Nat) : Int)] [] θ μ Q := by
  obtain ⟨T, U, σ, s, hC, hM, hB, hm, h1, hx⟩ := h
  have hc := hC.1.1.1
  have hmm := hM.1.1
  have hd0 : 0 < d := by omega
  have g1 := IV_1 h1
  have wb : 6 * t < 2147483000 := by omega
  have X1 : (zix θ .int 1 ((6 * t + 1 : Nat) : Int) = true) = True := zix_T g1 (by omega) (by omega)
  have X2 : (zix θ .int 1 ((6 * t + 2 : Nat) : Int) = true) = True := zix_T g1 (by omega) (by omega)
  simp only [x296_360, x296_361, x296_362, x296_363, x296_364, x296_365, x296_366, x296_367, x296_368, x296_369, x296_370, x296_371, ↓reduceIte, Bool.false_eq_true, Nat.reduceAdd, Nat.reduceLT, Nat.reduceLeDiff, Nat.reduceSub, Nat.reduceEqDiff, Int.reduceToNat, Int.reduceEq, Int.reduceLT, Int.reduceLE, Int.reduceAdd, Int.reduceSub, zg, zI, zJ, zR, zst, zkl, zn, zcat, zok, zraw, List.length_cons, List.length_nil, Option.toList, List.nil_append, List.cons_append, true_and, and_true, if_true, if_false, ne_eq, not_true, not_false_eq_true, and_self, true_or, or_true, false_or, or_false, false_and, and_false, b_2 hc, b_138 hmm, X1, wi1 wb, X2, wi2 wb, Int.toNat_natCast, hx, hd0]
  refine Ex_keep hB ?_
  refine kTile (d := d - 1) hC (by omega) (fun hB1 => ?_)
  simp only [x296_374, x296_375, x296_376, x296_377, x296_378, x296_379, x296_380, x296_381, x296_382, x296_383, x296_384, x296_385, ↓reduceIte, Bool.false_eq_true, Nat.reduceAdd, Nat.reduceLT, Nat.reduceLeDiff, Nat.reduceSub, Nat.reduceEqDiff, Int.reduceToNat, Int.reduceEq, Int.reduceLT, Int.reduceLE, Int.reduceAdd, Int.reduceSub, zg, zI, zJ, zR, zst, zkl, zn, zcat, zok, zraw, List.length_cons, List.length_nil, Option.toList, List.nil_append, List.cons_append, true_and, and_true, if_true, if_false, ne_eq, not_true, not_false_eq_true, and_self, true_or, or_true, false_or, or_false, false_and, and_false, b_138 hmm, X1, wi1 wb, X2, wi2 wb, Int.toNat_natCast, hx, hd0]
  refine Ex_keep hB1 ?_
  refine rTile (d := d - 1) hM (by omega) (fun hB2 => ?_)
  simp only [x296_388, x296_391, x296_392, ↓reduceIte, Bool.false_eq_true, Nat.reduceAdd, Nat.reduceLT, Nat.reduceLeDiff, Nat.reduceSub, Nat.reduceEqDiff, Int.reduceToNat, Int.reduceEq, Int.reduceLT, Int.reduceLE, Int.reduceAdd, Int.reduceSub, zg, zI, zJ, zR, zst, zkl, zn, zcat, zok, zraw, List.length_cons, List.length_nil, Option.toList, List.nil_append, List.cons_append, true_and, and_true, if_true, if_false, ne_eq, not_true, not_false_eq_true, and_self, true_or, or_true, false_or, or_false, false_and, and_false]
  exact K _ _ ⟨T, U, _, s, hC, hM, hB2, (by omega), h1, hx⟩
theorem c_set (hd : 40 ≤ d) (h : IV L xs t θ μ) (ht : 6 * t + 6 ≤ L) (hL : L ≤ 3077) (K : ∀ θ' μ', IV L xs (t + 1) θ' μ' → Ex d 296 1971 [vr 1, vr 2, vr 138, vi ((6 * t : Nat) : Int)] [] θ' μ' Q) : Ex d 296 393 [vr 1, vr 2, vr 138, vi ((6 * t : Nat) : Int)] [] θ μ Q := by
  obtain ⟨T, U, σ, s, hC, hM, hB, hm, h1, hx⟩ := h
  have hc := hC.1.1.1
  have hmm := hM.1.1
  have hd0 : 0 < d := by omega
  have g1 := IV_1 h1
  have wb : 6 * t < 2147483000 := by omega
  have X1 : (zix θ .int 1 ((6 * t + 1 : Nat) : Int) = true) = True := zix_T g1 (by omega) (by omega)
  have X2 : (zix θ .int 1 ((6 * t + 2 : Nat) : Int) = true) = True := zix_T g1 (by omega) (by omega)
  have X3 : (zix θ .int 1 ((6 * t + 3 : Nat) : Int) = true) = True := zix_T g1 (by omega) (by omega)
  simp only [x296_393, x296_394, x296_395, x296_396, x296_397, x296_398, x296_399, x296_400, x296_401, x296_402, x296_403, x296_404, x296_405, x296_406, x296_407, x296_408, x296_409, ↓reduceIte, Bool.false_eq_true, Nat.reduceAdd, Nat.reduceLT, Nat.reduceLeDiff, Nat.reduceSub, Nat.reduceEqDiff, Int.reduceToNat, Int.reduceEq, Int.reduceLT, Int.reduceLE, Int.reduceAdd, Int.reduceSub, zg, zI, zJ, zR, zst, zkl, zn, zcat, zok, zraw, List.length_cons, List.length_nil, Option.toList, List.nil_append, List.cons_append, true_and, and_true, if_true, if_false, ne_eq, not_true, not_false_eq_true, and_self, true_or, or_true, false_or, or_false, false_and, and_false, b_2 hc, b_138 hmm, X1, wi1 wb, X2, wi2 wb, X3, wi3 wb, Int.toNat_natCast, hx, hd0]
  refine Ex_keep hB ?_
  refine kSet (d := d - 1) hC (by omega) (fun μ1 l1 C1 hB1 => ?_)
  have M1 : MS θ σ s μ1 := MS_CL hM (fun a ha => l1 a (Or.inr ha))
  have hx1 : ∀ j, μ1 1 j = xs j := fun j => by rw [l1 1 (Or.inl (by decide))]; exact hx j
  simp only [x296_412, x296_413, x296_414, x296_415, x296_416, x296_417, x296_418, x296_419, x296_420, x296_421, x296_422, x296_423, x296_424, x296_425, x296_426, x296_427, x296_428, ↓reduceIte, Bool.false_eq_true, Nat.reduceAdd, Nat.reduceLT, Nat.reduceLeDiff, Nat.reduceSub, Nat.reduceEqDiff, Int.reduceToNat, Int.reduceEq, Int.reduceLT, Int.reduceLE, Int.reduceAdd, Int.reduceSub, zg, zI, zJ, zR, zst, zkl, zn, zcat, zok, zraw, List.length_cons, List.length_nil, Option.toList, List.nil_append, List.cons_append, true_and, and_true, if_true, if_false, ne_eq, not_true, not_false_eq_true, and_self, true_or, or_true, false_or, or_false, false_and, and_false, b_138 hmm, X1, wi1 wb, X2, wi2 wb, X3, wi3 wb, Int.toNat_natCast, hx1, hd0]
  refine Ex_keep hB1 ?_
  refine rSet (d := d - 1) M1 (by omega) (fun μ2 l2 M2 hB2 => ?_)
  simp only [x296_431, x296_434, x296_435, ↓reduceIte, Bool.false_eq_true, Nat.reduceAdd, Nat.reduceLT, Nat.reduceLeDiff, Nat.reduceSub, Nat.reduceEqDiff, Int.reduceToNat, Int.reduceEq, Int.reduceLT, Int.reduceLE, Int.reduceAdd, Int.reduceSub, zg, zI, zJ, zR, zst, zkl, zn, zcat, zok, zraw, List.length_cons, List.length_nil, Option.toList, List.nil_append, List.cons_append, true_and, and_true, if_true, if_false, ne_eq, not_true, not_false_eq_true, and_self, true_or, or_true, false_or, or_false, false_and, and_false]
  exact K _ _ ⟨T, U, _, s, (CS_ML C1 l2), M2, hB2, (sM_set (by omega)), h1, (fun j => by rw [l2 1 (by decide)]; exact hx1 j)⟩
theorem c_there (hd : 40 ≤ d) (h : IV L xs t θ μ) (ht : 6 * t + 6 ≤ L) (hL : L ≤ 3077) (K : ∀ θ' μ', IV L xs (t + 1) θ' μ' → Ex d 296 1971 [vr 1, vr 2, vr 138, vi ((6 * t : Nat) : Int)] [] θ' μ' Q) : Ex d 296 436 [vr 1, vr 2, vr 138, vi ((6 * t : Nat) : Int)] [] θ μ Q := by
  obtain ⟨T, U, σ, s, hC, hM, hB, hm, h1, hx⟩ := h
  have hc := hC.1.1.1
  have hmm := hM.1.1
  have hd0 : 0 < d := by omega
  have g1 := IV_1 h1
  have wb : 6 * t < 2147483000 := by omega
  have X1 : (zix θ .int 1 ((6 * t + 1 : Nat) : Int) = true) = True := zix_T g1 (by omega) (by omega)
  have X2 : (zix θ .int 1 ((6 * t + 2 : Nat) : Int) = true) = True := zix_T g1 (by omega) (by omega)
  by_cases e : xs (6 * t + 2) = 0
  · simp only [x296_436, x296_437, x296_438, x296_439, x296_440, x296_441, x296_442, x296_443, x296_444, x296_445, x296_446, x296_447, x296_450, x296_451, x296_454, x296_455, ↓reduceIte, Bool.false_eq_true, Nat.reduceAdd, Nat.reduceLT, Nat.reduceLeDiff, Nat.reduceSub, Nat.reduceEqDiff, Int.reduceToNat, Int.reduceEq, Int.reduceLT, Int.reduceLE, Int.reduceAdd, Int.reduceSub, zg, zI, zJ, zR, zst, zkl, zn, zcat, zok, zraw, List.length_cons, List.length_nil, Option.toList, List.nil_append, List.cons_append, true_and, and_true, if_true, if_false, ne_eq, not_true, not_false_eq_true, and_self, true_or, or_true, false_or, or_false, false_and, and_false, b_2 hc, b_138 hmm, X1, wi1 wb, X2, wi2 wb, Int.toNat_natCast, hx, e, hd0]
    refine Ex_keep hB ?_
    refine kThere (d := d - 1) hC (by omega) (Or.inl rfl) (fun μ1 l1 C1 hB1 => ?_)
    have M1 : MS θ σ s μ1 := MS_CL hM (fun a ha => l1 a (Or.inr ha))
    have hx1 : ∀ j, μ1 1 j = xs j := fun j => by rw [l1 1 (Or.inl (by decide))]; exact hx j
    simp only [x296_458, x296_459, x296_460, x296_461, x296_462, x296_463, x296_464, x296_465, x296_466, x296_467, x296_468, x296_469, x296_472, x296_473, x296_476, x296_477, ↓reduceIte, Bool.false_eq_true, Nat.reduceAdd, Nat.reduceLT, Nat.reduceLeDiff, Nat.reduceSub, Nat.reduceEqDiff, Int.reduceToNat, Int.reduceEq, Int.reduceLT, Int.reduceLE, Int.reduceAdd, Int.reduceSub, zg, zI, zJ, zR, zst, zkl, zn, zcat, zok, zraw, List.length_cons, List.length_nil, Option.toList, List.nil_append, List.cons_append, true_and, and_true, if_true, if_false, ne_eq, not_true, not_false_eq_true, and_self, true_or, or_true, false_or, or_false, false_and, and_false, b_138 hmm, X1, wi1 wb, X2, wi2 wb, Int.toNat_natCast, hx1, e, hd0]
    refine Ex_keep hB1 ?_
    refine rThere (d := d - 1) M1 (by omega) (Or.inl rfl) (fun μ2 l2 M2 hB2 => ?_)
    simp only [x296_480, x296_483, x296_484, ↓reduceIte, Bool.false_eq_true, Nat.reduceAdd, Nat.reduceLT, Nat.reduceLeDiff, Nat.reduceSub, Nat.reduceEqDiff, Int.reduceToNat, Int.reduceEq, Int.reduceLT, Int.reduceLE, Int.reduceAdd, Int.reduceSub, zg, zI, zJ, zR, zst, zkl, zn, zcat, zok, zraw, List.length_cons, List.length_nil, Option.toList, List.nil_append, List.cons_append, true_and, and_true, if_true, if_false, ne_eq, not_true, not_false_eq_true, and_self, true_or, or_true, false_or, or_false, false_and, and_false]
    exact K _ _ ⟨T, U, _, s, (CS_ML C1 l2), M2, hB2, (sM_there (by omega)), h1, (fun j => by rw [l2 1 (by decide)]; exact hx1 j)⟩
  · simp only [x296_436, x296_437, x296_438, x296_439, x296_440, x296_441, x296_442, x296_443, x296_444, x296_445, x296_446, x296_447, x296_450, x296_451, x296_454, x296_455, ↓reduceIte, Bool.false_eq_true, Nat.reduceAdd, Nat.reduceLT, Nat.reduceLeDiff, Nat.reduceSub, Nat.reduceEqDiff, Int.reduceToNat, Int.reduceEq, Int.reduceLT, Int.reduceLE, Int.reduceAdd, Int.reduceSub, zg, zI, zJ, zR, zst, zkl, zn, zcat, zok, zraw, List.length_cons, List.length_nil, Option.toList, List.nil_append, List.cons_append, true_and, and_true, if_true, if_false, ne_eq, not_true, not_false_eq_true, and_self, true_or, or_true, false_or, or_false, false_and, and_false, b_2 hc, b_138 hmm, X1, wi1 wb, X2, wi2 wb, Int.toNat_natCast, hx, e, hd0]
    refine Ex_keep hB ?_
    refine kThere (d := d - 1) hC (by omega) (Or.inr rfl) (fun μ1 l1 C1 hB1 => ?_)
    have M1 : MS θ σ s μ1 := MS_CL hM (fun a ha => l1 a (Or.inr ha))
    have hx1 : ∀ j, μ1 1 j = xs j := fun j => by rw [l1 1 (Or.inl (by decide))]; exact hx j
    simp only [x296_458, x296_459, x296_460, x296_461, x296_462, x296_463, x296_464, x296_465, x296_466, x296_467, x296_468, x296_469, x296_472, x296_473, x296_476, x296_477, ↓reduceIte, Bool.false_eq_true, Nat.reduceAdd, Nat.reduceLT, Nat.reduceLeDiff, Nat.reduceSub, Nat.reduceEqDiff, Int.reduceToNat, Int.reduceEq, Int.reduceLT, Int.reduceLE, Int.reduceAdd, Int.reduceSub, zg, zI, zJ, zR, zst, zkl, zn, zcat, zok, zraw, List.length_cons, List.length_nil, Option.toList, List.nil_append, List.cons_append, true_and, and_true, if_true, if_false, ne_eq, not_true, not_false_eq_true, and_self, true_or, or_true, false_or, or_false, false_and, and_false, b_138 hmm, X1, wi1 wb, X2, wi2 wb, Int.toNat_natCast, hx1, e, hd0]
    refine Ex_keep hB1 ?_
    refine rThere (d := d - 1) M1 (by omega) (Or.inr rfl) (fun μ2 l2 M2 hB2 => ?_)
    simp only [x296_480, x296_483, x296_484, ↓reduceIte, Bool.false_eq_true, Nat.reduceAdd, Nat.reduceLT, Nat.reduceLeDiff, Nat.reduceSub, Nat.reduceEqDiff, Int.reduceToNat, Int.reduceEq, Int.reduceLT, Int.reduceLE, Int.reduceAdd, Int.reduceSub, zg, zI, zJ, zR, zst, zkl, zn, zcat, zok, zraw, List.length_cons, List.length_nil, Option.toList, List.nil_append, List.cons_append, true_and, and_true, if_true, if_false, ne_eq, not_true, not_false_eq_true, and_self, true_or, or_true, false_or, or_false, false_and, and_false]
    exact K _ _ ⟨T, U, _, s, (CS_ML C1 l2), M2, hB2, (sM_there (by omega)), h1, (fun j => by rw [l2 1 (by decide)]; exact hx1 j)⟩
theorem c_open (hd : 40 ≤ d) (h : IV L xs t θ μ) (ht : 6 * t + 6 ≤ L) (hL : L ≤ 3077) (K : ∀ θ' μ', IV L xs (t + 1) θ' μ' → Ex d 296 1971 [vr 1, vr 2, vr 138, vi ((6 * t : Nat) : Int)] [] θ' μ' Q) : Ex d 296 485 [vr 1, vr 2, vr 138, vi ((6 * t : Nat) : Int)] [] θ μ Q := by
  obtain ⟨T, U, σ, s, hC, hM, hB, hm, h1, hx⟩ := h
  have hc := hC.1.1.1
  have hmm := hM.1.1
  have hd0 : 0 < d := by omega
  have g1 := IV_1 h1
  have wb : 6 * t < 2147483000 := by omega
  have X1 : (zix θ .int 1 ((6 * t + 1 : Nat) : Int) = true) = True := zix_T g1 (by omega) (by omega)
  have X2 : (zix θ .int 1 ((6 * t + 2 : Nat) : Int) = true) = True := zix_T g1 (by omega) (by omega)
  by_cases e : xs (6 * t + 2) = 0
  · simp only [x296_485, x296_486, x296_487, x296_488, x296_489, x296_490, x296_491, x296_492, x296_493, x296_494, x296_495, x296_496, x296_499, x296_500, x296_503, x296_504, ↓reduceIte, Bool.false_eq_true, Nat.reduceAdd, Nat.reduceLT, Nat.reduceLeDiff, Nat.reduceSub, Nat.reduceEqDiff, Int.reduceToNat, Int.reduceEq, Int.reduceLT, Int.reduceLE, Int.reduceAdd, Int.reduceSub, zg, zI, zJ, zR, zst, zkl, zn, zcat, zok, zraw, List.length_cons, List.length_nil, Option.toList, List.nil_append, List.cons_append, true_and, and_true, if_true, if_false, ne_eq, not_true, not_false_eq_true, and_self, true_or, or_true, false_or, or_false, false_and, and_false, b_2 hc, b_138 hmm, X1, wi1 wb, X2, wi2 wb, Int.toNat_natCast, hx, e, hd0]
    refine Ex_keep hB ?_
    refine kOpen (D := d - 1) hC (by omega) (Or.inl rfl) (fun μ1 l1 C1 hB1 => ?_)
    have M1 : MS θ σ s μ1 := MS_CL hM (fun a ha => l1 a (Or.inr ha))
    have hx1 : ∀ j, μ1 1 j = xs j := fun j => by rw [l1 1 (Or.inl (by decide))]; exact hx j
    simp only [x296_507, x296_508, x296_509, x296_510, x296_511, x296_512, x296_513, x296_514, x296_515, x296_516, x296_517, x296_518, x296_521, x296_522, x296_525, x296_526, ↓reduceIte, Bool.false_eq_true, Nat.reduceAdd, Nat.reduceLT, Nat.reduceLeDiff, Nat.reduceSub, Nat.reduceEqDiff, Int.reduceToNat, Int.reduceEq, Int.reduceLT, Int.reduceLE, Int.reduceAdd, Int.reduceSub, zg, zI, zJ, zR, zst, zkl, zn, zcat, zok, zraw, List.length_cons, List.length_nil, Option.toList, List.nil_append, List.cons_append, true_and, and_true, if_true, if_false, ne_eq, not_true, not_false_eq_true, and_self, true_or, or_true, false_or, or_false, false_and, and_false, b_138 hmm, X1, wi1 wb, X2, wi2 wb, Int.toNat_natCast, hx1, e, hd0]
    refine Ex_keep hB1 ?_
    refine rOpen (D := d - 1) M1 (by omega) (Or.inl rfl) (fun μ2 l2 M2 hB2 => ?_)
    simp only [x296_529, x296_532, x296_533, ↓reduceIte, Bool.false_eq_true, Nat.reduceAdd, Nat.reduceLT, Nat.reduceLeDiff, Nat.reduceSub, Nat.reduceEqDiff, Int.reduceToNat, Int.reduceEq, Int.reduceLT, Int.reduceLE, Int.reduceAdd, Int.reduceSub, zg, zI, zJ, zR, zst, zkl, zn, zcat, zok, zraw, List.length_cons, List.length_nil, Option.toList, List.nil_append, List.cons_append, true_and, and_true, if_true, if_false, ne_eq, not_true, not_false_eq_true, and_self, true_or, or_true, false_or, or_false, false_and, and_false]
    exact K _ _ ⟨T, U, _, s, (CS_ML C1 l2), M2, hB2, (sM_open (by omega)), h1, (fun j => by rw [l2 1 (by decide)]; exact hx1 j)⟩
  · simp only [x296_485, x296_486, x296_487, x296_488, x296_489, x296_490, x296_491, x296_492, x296_493, x296_494, x296_495, x296_496, x296_499, x296_500, x296_503, x296_504, ↓reduceIte, Bool.false_eq_true, Nat.reduceAdd, Nat.reduceLT, Nat.reduceLeDiff, Nat.reduceSub, Nat.reduceEqDiff, Int.reduceToNat, Int.reduceEq, Int.reduceLT, Int.reduceLE, Int.reduceAdd, Int.reduceSub, zg, zI, zJ, zR, zst, zkl, zn, zcat, zok, zraw, List.length_cons, List.length_nil, Option.toList, List.nil_append, List.cons_append, true_and, and_true, if_true, if_false, ne_eq, not_true, not_false_eq_true, and_self, true_or, or_true, false_or, or_false, false_and, and_false, b_2 hc, b_138 hmm, X1, wi1 wb, X2, wi2 wb, Int.toNat_natCast, hx, e, hd0]
    refine Ex_keep hB ?_
    refine kOpen (D := d - 1) hC (by omega) (Or.inr rfl) (fun μ1 l1 C1 hB1 => ?_)
    have M1 : MS θ σ s μ1 := MS_CL hM (fun a ha => l1 a (Or.inr ha))
    have hx1 : ∀ j, μ1 1 j = xs j := fun j => by rw [l1 1 (Or.inl (by decide))]; exact hx j
    simp only [x296_507, x296_508, x296_509, x296_510, x296_511, x296_512, x296_513, x296_514, x296_515, x296_516, x296_517, x296_518, x296_521, x296_522, x296_525, x296_526, ↓reduceIte, Bool.false_eq_true, Nat.reduceAdd, Nat.reduceLT, Nat.reduceLeDiff, Nat.reduceSub, Nat.reduceEqDiff, Int.reduceToNat, Int.reduceEq, Int.reduceLT, Int.reduceLE, Int.reduceAdd, Int.reduceSub, zg, zI, zJ, zR, zst, zkl, zn, zcat, zok, zraw, List.length_cons, List.length_nil, Option.toList, List.nil_append, List.cons_append, true_and, and_true, if_true, if_false, ne_eq, not_true, not_false_eq_true, and_self, true_or, or_true, false_or, or_false, false_and, and_false, b_138 hmm, X1, wi1 wb, X2, wi2 wb, Int.toNat_natCast, hx1, e, hd0]
    refine Ex_keep hB1 ?_
    refine rOpen (D := d - 1) M1 (by omega) (Or.inr rfl) (fun μ2 l2 M2 hB2 => ?_)
    simp only [x296_529, x296_532, x296_533, ↓reduceIte, Bool.false_eq_true, Nat.reduceAdd, Nat.reduceLT, Nat.reduceLeDiff, Nat.reduceSub, Nat.reduceEqDiff, Int.reduceToNat, Int.reduceEq, Int.reduceLT, Int.reduceLE, Int.reduceAdd, Int.reduceSub, zg, zI, zJ, zR, zst, zkl, zn, zcat, zok, zraw, List.length_cons, List.length_nil, Option.toList, List.nil_append, List.cons_append, true_and, and_true, if_true, if_false, ne_eq, not_true, not_false_eq_true, and_self, true_or, or_true, false_or, or_false, false_and, and_false]
    exact K _ _ ⟨T, U, _, s, (CS_ML C1 l2), M2, hB2, (sM_open (by omega)), h1, (fun j => by rw [l2 1 (by decide)]; exact hx1 j)⟩
theorem c_felt (hd : 40 ≤ d) (h : IV L xs t θ μ) (ht : 6 * t + 6 ≤ L) (hL : L ≤ 3077) (K : ∀ θ' μ', IV L xs (t + 1) θ' μ' → Ex d 296 1971 [vr 1, vr 2, vr 138, vi ((6 * t : Nat) : Int)] [] θ' μ' Q) : Ex d 296 534 [vr 1, vr 2, vr 138, vi ((6 * t : Nat) : Int)] [] θ μ Q := by
  obtain ⟨T, U, σ, s, hC, hM, hB, hm, h1, hx⟩ := h
  have hc := hC.1.1.1
  have hmm := hM.1.1
  have hd0 : 0 < d := by omega
  have g1 := IV_1 h1
  have wb : 6 * t < 2147483000 := by omega
  have X1 : (zix θ .int 1 ((6 * t + 1 : Nat) : Int) = true) = True := zix_T g1 (by omega) (by omega)
  by_cases e : xs (6 * t + 1) = 0
  · simp only [x296_534, x296_535, x296_536, x296_537, x296_538, x296_539, x296_540, x296_543, x296_544, x296_547, x296_548, ↓reduceIte, Bool.false_eq_true, Nat.reduceAdd, Nat.reduceLT, Nat.reduceLeDiff, Nat.reduceSub, Nat.reduceEqDiff, Int.reduceToNat, Int.reduceEq, Int.reduceLT, Int.reduceLE, Int.reduceAdd, Int.reduceSub, zg, zI, zJ, zR, zst, zkl, zn, zcat, zok, zraw, List.length_cons, List.length_nil, Option.toList, List.nil_append, List.cons_append, true_and, and_true, if_true, if_false, ne_eq, not_true, not_false_eq_true, and_self, true_or, or_true, false_or, or_false, false_and, and_false, b_2 hc, b_138 hmm, X1, wi1 wb, Int.toNat_natCast, hx, e, hd0]
    refine Ex_keep hB ?_
    refine kFelt (d := d - 1) hC (by omega) (Or.inl rfl) (fun μ1 l1 C1 hB1 => ?_)
    have M1 : MS θ σ s μ1 := MS_CL hM (fun a ha => l1 a (Or.inr ha))
    have hx1 : ∀ j, μ1 1 j = xs j := fun j => by rw [l1 1 (Or.inl (by decide))]; exact hx j
    simp only [x296_551, x296_552, x296_553, x296_554, x296_555, x296_556, x296_557, x296_560, x296_561, x296_564, x296_565, ↓reduceIte, Bool.false_eq_true, Nat.reduceAdd, Nat.reduceLT, Nat.reduceLeDiff, Nat.reduceSub, Nat.reduceEqDiff, Int.reduceToNat, Int.reduceEq, Int.reduceLT, Int.reduceLE, Int.reduceAdd, Int.reduceSub, zg, zI, zJ, zR, zst, zkl, zn, zcat, zok, zraw, List.length_cons, List.length_nil, Option.toList, List.nil_append, List.cons_append, true_and, and_true, if_true, if_false, ne_eq, not_true, not_false_eq_true, and_self, true_or, or_true, false_or, or_false, false_and, and_false, b_138 hmm, X1, wi1 wb, Int.toNat_natCast, hx1, e, hd0]
    refine Ex_keep hB1 ?_
    refine rFelt (d := d - 1) M1 (by omega) (Or.inl rfl) (fun μ2 l2 M2 hB2 => ?_)
    simp only [x296_568, x296_571, x296_572, ↓reduceIte, Bool.false_eq_true, Nat.reduceAdd, Nat.reduceLT, Nat.reduceLeDiff, Nat.reduceSub, Nat.reduceEqDiff, Int.reduceToNat, Int.reduceEq, Int.reduceLT, Int.reduceLE, Int.reduceAdd, Int.reduceSub, zg, zI, zJ, zR, zst, zkl, zn, zcat, zok, zraw, List.length_cons, List.length_nil, Option.toList, List.nil_append, List.cons_append, true_and, and_true, if_true, if_false, ne_eq, not_true, not_false_eq_true, and_self, true_or, or_true, false_or, or_false, false_and, and_false]
    exact K _ _ ⟨T, U, _, s, (CS_ML C1 l2), M2, hB2, (sM_felt (by omega)), h1, (fun j => by rw [l2 1 (by decide)]; exact hx1 j)⟩
  · simp only [x296_534, x296_535, x296_536, x296_537, x296_538, x296_539, x296_540, x296_543, x296_544, x296_547, x296_548, ↓reduceIte, Bool.false_eq_true, Nat.reduceAdd, Nat.reduceLT, Nat.reduceLeDiff, Nat.reduceSub, Nat.reduceEqDiff, Int.reduceToNat, Int.reduceEq, Int.reduceLT, Int.reduceLE, Int.reduceAdd, Int.reduceSub, zg, zI, zJ, zR, zst, zkl, zn, zcat, zok, zraw, List.length_cons, List.length_nil, Option.toList, List.nil_append, List.cons_append, true_and, and_true, if_true, if_false, ne_eq, not_true, not_false_eq_true, and_self, true_or, or_true, false_or, or_false, false_and, and_false, b_2 hc, b_138 hmm, X1, wi1 wb, Int.toNat_natCast, hx, e, hd0]
    refine Ex_keep hB ?_
    refine kFelt (d := d - 1) hC (by omega) (Or.inr rfl) (fun μ1 l1 C1 hB1 => ?_)
    have M1 : MS θ σ s μ1 := MS_CL hM (fun a ha => l1 a (Or.inr ha))
    have hx1 : ∀ j, μ1 1 j = xs j := fun j => by rw [l1 1 (Or.inl (by decide))]; exact hx j
    simp only [x296_551, x296_552, x296_553, x296_554, x296_555, x296_556, x296_557, x296_560, x296_561, x296_564, x296_565, ↓reduceIte, Bool.false_eq_true, Nat.reduceAdd, Nat.reduceLT, Nat.reduceLeDiff, Nat.reduceSub, Nat.reduceEqDiff, Int.reduceToNat, Int.reduceEq, Int.reduceLT, Int.reduceLE, Int.reduceAdd, Int.reduceSub, zg, zI, zJ, zR, zst, zkl, zn, zcat, zok, zraw, List.length_cons, List.length_nil, Option.toList, List.nil_append, List.cons_append, true_and, and_true, if_true, if_false, ne_eq, not_true, not_false_eq_true, and_self, true_or, or_true, false_or, or_false, false_and, and_false, b_138 hmm, X1, wi1 wb, Int.toNat_natCast, hx1, e, hd0]
    refine Ex_keep hB1 ?_
    refine rFelt (d := d - 1) M1 (by omega) (Or.inr rfl) (fun μ2 l2 M2 hB2 => ?_)
    simp only [x296_568, x296_571, x296_572, ↓reduceIte, Bool.false_eq_true, Nat.reduceAdd, Nat.reduceLT, Nat.reduceLeDiff, Nat.reduceSub, Nat.reduceEqDiff, Int.reduceToNat, Int.reduceEq, Int.reduceLT, Int.reduceLE, Int.reduceAdd, Int.reduceSub, zg, zI, zJ, zR, zst, zkl, zn, zcat, zok, zraw, List.length_cons, List.length_nil, Option.toList, List.nil_append, List.cons_append, true_and, and_true, if_true, if_false, ne_eq, not_true, not_false_eq_true, and_self, true_or, or_true, false_or, or_false, false_and, and_false]
    exact K _ _ ⟨T, U, _, s, (CS_ML C1 l2), M2, hB2, (sM_felt (by omega)), h1, (fun j => by rw [l2 1 (by decide)]; exact hx1 j)⟩
theorem c_door (hd : 40 ≤ d) (h : IV L xs t θ μ) (ht : 6 * t + 6 ≤ L) (hL : L ≤ 3077) (K : ∀ θ' μ', IV L xs (t + 1) θ' μ' → Ex d 296 1971 [vr 1, vr 2, vr 138, vi ((6 * t : Nat) : Int)] [] θ' μ' Q) : Ex d 296 573 [vr 1, vr 2, vr 138, vi ((6 * t : Nat) : Int)] [] θ μ Q := by
  obtain ⟨T, U, σ, s, hC, hM, hB, hm, h1, hx⟩ := h
  have hc := hC.1.1.1
  have hmm := hM.1.1
  have hd0 : 0 < d := by omega
  have g1 := IV_1 h1
  have wb : 6 * t < 2147483000 := by omega
  have X1 : (zix θ .int 1 ((6 * t + 1 : Nat) : Int) = true) = True := zix_T g1 (by omega) (by omega)
  have X2 : (zix θ .int 1 ((6 * t + 2 : Nat) : Int) = true) = True := zix_T g1 (by omega) (by omega)
  simp only [x296_573, x296_574, x296_575, x296_576, x296_577, x296_578, x296_579, x296_580, x296_581, x296_582, x296_583, x296_584, ↓reduceIte, Bool.false_eq_true, Nat.reduceAdd, Nat.reduceLT, Nat.reduceLeDiff, Nat.reduceSub, Nat.reduceEqDiff, Int.reduceToNat, Int.reduceEq, Int.reduceLT, Int.reduceLE, Int.reduceAdd, Int.reduceSub, zg, zI, zJ, zR, zst, zkl, zn, zcat, zok, zraw, List.length_cons, List.length_nil, Option.toList, List.nil_append, List.cons_append, true_and, and_true, if_true, if_false, ne_eq, not_true, not_false_eq_true, and_self, true_or, or_true, false_or, or_false, false_and, and_false, b_2 hc, b_138 hmm, X1, wi1 wb, X2, wi2 wb, Int.toNat_natCast, hx, hd0]
  refine Ex_keep hB ?_
  refine kDoor (d := d - 1) hC (by omega) (fun hB1 => ?_)
  simp only [x296_587, x296_588, x296_589, x296_590, x296_591, x296_592, x296_593, x296_594, x296_595, x296_596, x296_597, x296_598, ↓reduceIte, Bool.false_eq_true, Nat.reduceAdd, Nat.reduceLT, Nat.reduceLeDiff, Nat.reduceSub, Nat.reduceEqDiff, Int.reduceToNat, Int.reduceEq, Int.reduceLT, Int.reduceLE, Int.reduceAdd, Int.reduceSub, zg, zI, zJ, zR, zst, zkl, zn, zcat, zok, zraw, List.length_cons, List.length_nil, Option.toList, List.nil_append, List.cons_append, true_and, and_true, if_true, if_false, ne_eq, not_true, not_false_eq_true, and_self, true_or, or_true, false_or, or_false, false_and, and_false, b_138 hmm, X1, wi1 wb, X2, wi2 wb, Int.toNat_natCast, hx, hd0]
  refine Ex_keep hB1 ?_
  refine rDoor (d := d - 1) hM (by omega) (fun hB2 => ?_)
  simp only [x296_601, x296_604, x296_605, ↓reduceIte, Bool.false_eq_true, Nat.reduceAdd, Nat.reduceLT, Nat.reduceLeDiff, Nat.reduceSub, Nat.reduceEqDiff, Int.reduceToNat, Int.reduceEq, Int.reduceLT, Int.reduceLE, Int.reduceAdd, Int.reduceSub, zg, zI, zJ, zR, zst, zkl, zn, zcat, zok, zraw, List.length_cons, List.length_nil, Option.toList, List.nil_append, List.cons_append, true_and, and_true, if_true, if_false, ne_eq, not_true, not_false_eq_true, and_self, true_or, or_true, false_or, or_false, false_and, and_false]
  exact K _ _ ⟨T, U, _, s, hC, hM, hB2, (by omega), h1, hx⟩
theorem c_inlet (hd : 40 ≤ d) (h : IV L xs t θ μ) (ht : 6 * t + 6 ≤ L) (hL : L ≤ 3077) (K : ∀ θ' μ', IV L xs (t + 1) θ' μ' → Ex d 296 1971 [vr 1, vr 2, vr 138, vi ((6 * t : Nat) : Int)] [] θ' μ' Q) : Ex d 296 606 [vr 1, vr 2, vr 138, vi ((6 * t : Nat) : Int)] [] θ μ Q := by
  obtain ⟨T, U, σ, s, hC, hM, hB, hm, h1, hx⟩ := h
  have hc := hC.1.1.1
  have hmm := hM.1.1
  have hd0 : 0 < d := by omega
  have g1 := IV_1 h1
  have wb : 6 * t < 2147483000 := by omega
  have X1 : (zix θ .int 1 ((6 * t + 1 : Nat) : Int) = true) = True := zix_T g1 (by omega) (by omega)
  have X2 : (zix θ .int 1 ((6 * t + 2 : Nat) : Int) = true) = True := zix_T g1 (by omega) (by omega)
  simp only [x296_606, x296_607, x296_608, x296_609, x296_610, x296_611, x296_612, x296_613, x296_614, x296_615, x296_616, x296_617, ↓reduceIte, Bool.false_eq_true, Nat.reduceAdd, Nat.reduceLT, Nat.reduceLeDiff, Nat.reduceSub, Nat.reduceEqDiff, Int.reduceToNat, Int.reduceEq, Int.reduceLT, Int.reduceLE, Int.reduceAdd, Int.reduceSub, zg, zI, zJ, zR, zst, zkl, zn, zcat, zok, zraw, List.length_cons, List.length_nil, Option.toList, List.nil_append, List.cons_append, true_and, and_true, if_true, if_false, ne_eq, not_true, not_false_eq_true, and_self, true_or, or_true, false_or, or_false, false_and, and_false, b_2 hc, b_138 hmm, X1, wi1 wb, X2, wi2 wb, Int.toNat_natCast, hx, hd0]
  refine Ex_keep hB ?_
  refine kInlet (d := d - 1) hC (by omega) (fun μ1 l1 C1 hB1 => ?_)
  have M1 : MS θ σ s μ1 := MS_CL hM (fun a ha => l1 a (Or.inr ha))
  have hx1 : ∀ j, μ1 1 j = xs j := fun j => by rw [l1 1 (Or.inl (by decide))]; exact hx j
  simp only [x296_620, x296_621, x296_622, x296_623, x296_624, x296_625, x296_626, x296_627, x296_628, x296_629, x296_630, x296_631, ↓reduceIte, Bool.false_eq_true, Nat.reduceAdd, Nat.reduceLT, Nat.reduceLeDiff, Nat.reduceSub, Nat.reduceEqDiff, Int.reduceToNat, Int.reduceEq, Int.reduceLT, Int.reduceLE, Int.reduceAdd, Int.reduceSub, zg, zI, zJ, zR, zst, zkl, zn, zcat, zok, zraw, List.length_cons, List.length_nil, Option.toList, List.nil_append, List.cons_append, true_and, and_true, if_true, if_false, ne_eq, not_true, not_false_eq_true, and_self, true_or, or_true, false_or, or_false, false_and, and_false, b_138 hmm, X1, wi1 wb, X2, wi2 wb, Int.toNat_natCast, hx1, hd0]
  refine Ex_keep hB1 ?_
  refine rInlet (d := d - 1) M1 (by omega) (fun μ2 l2 M2 hB2 => ?_)
  simp only [x296_634, x296_637, x296_638, ↓reduceIte, Bool.false_eq_true, Nat.reduceAdd, Nat.reduceLT, Nat.reduceLeDiff, Nat.reduceSub, Nat.reduceEqDiff, Int.reduceToNat, Int.reduceEq, Int.reduceLT, Int.reduceLE, Int.reduceAdd, Int.reduceSub, zg, zI, zJ, zR, zst, zkl, zn, zcat, zok, zraw, List.length_cons, List.length_nil, Option.toList, List.nil_append, List.cons_append, true_and, and_true, if_true, if_false, ne_eq, not_true, not_false_eq_true, and_self, true_or, or_true, false_or, or_false, false_and, and_false]
  exact K _ _ ⟨T, U, _, s, (CS_ML C1 l2), M2, hB2, (by omega), h1, (fun j => by rw [l2 1 (by decide)]; exact hx1 j)⟩
theorem c_lift (hd : 40 ≤ d) (h : IV L xs t θ μ) (ht : 6 * t + 6 ≤ L) (hL : L ≤ 3077) (K : ∀ θ' μ', IV L xs (t + 1) θ' μ' → Ex d 296 1971 [vr 1, vr 2, vr 138, vi ((6 * t : Nat) : Int)] [] θ' μ' Q) : Ex d 296 639 [vr 1, vr 2, vr 138, vi ((6 * t : Nat) : Int)] [] θ μ Q := by
  obtain ⟨T, U, σ, s, hC, hM, hB, hm, h1, hx⟩ := h
  have hc := hC.1.1.1
  have hmm := hM.1.1
  have hd0 : 0 < d := by omega
  have g1 := IV_1 h1
  have wb : 6 * t < 2147483000 := by omega
  have X1 : (zix θ .int 1 ((6 * t + 1 : Nat) : Int) = true) = True := zix_T g1 (by omega) (by omega)
  have X2 : (zix θ .int 1 ((6 * t + 2 : Nat) : Int) = true) = True := zix_T g1 (by omega) (by omega)
  have X3 : (zix θ .int 1 ((6 * t + 3 : Nat) : Int) = true) = True := zix_T g1 (by omega) (by omega)
  have X4 : (zix θ .int 1 ((6 * t + 4 : Nat) : Int) = true) = True := zix_T g1 (by omega) (by omega)
  simp only [x296_639, x296_640, x296_641, x296_642, x296_643, x296_644, x296_645, x296_646, x296_647, x296_648, x296_649, x296_650, x296_651, x296_652, x296_653, x296_654, x296_655, x296_656, x296_657, x296_658, x296_659, x296_660, ↓reduceIte, Bool.false_eq_true, Nat.reduceAdd, Nat.reduceLT, Nat.reduceLeDiff, Nat.reduceSub, Nat.reduceEqDiff, Int.reduceToNat, Int.reduceEq, Int.reduceLT, Int.reduceLE, Int.reduceAdd, Int.reduceSub, zg, zI, zJ, zR, zst, zkl, zn, zcat, zok, zraw, List.length_cons, List.length_nil, Option.toList, List.nil_append, List.cons_append, true_and, and_true, if_true, if_false, ne_eq, not_true, not_false_eq_true, and_self, true_or, or_true, false_or, or_false, false_and, and_false, b_2 hc, b_138 hmm, X1, wi1 wb, X2, wi2 wb, X3, wi3 wb, X4, wi4 wb, Int.toNat_natCast, hx, hd0]
  refine Ex_keep hB ?_
  refine kLift (d := d - 1) hC (by omega) (fun μ1 l1 C1 hB1 => ?_)
  have M1 : MS θ σ s μ1 := MS_CL hM (fun a ha => l1 a (Or.inr ha))
  have hx1 : ∀ j, μ1 1 j = xs j := fun j => by rw [l1 1 (Or.inl (by decide))]; exact hx j
  simp only [x296_663, x296_664, x296_665, x296_666, x296_667, x296_668, x296_669, x296_670, x296_671, x296_672, x296_673, x296_674, x296_675, x296_676, x296_677, x296_678, x296_679, x296_680, x296_681, x296_682, x296_683, x296_684, ↓reduceIte, Bool.false_eq_true, Nat.reduceAdd, Nat.reduceLT, Nat.reduceLeDiff, Nat.reduceSub, Nat.reduceEqDiff, Int.reduceToNat, Int.reduceEq, Int.reduceLT, Int.reduceLE, Int.reduceAdd, Int.reduceSub, zg, zI, zJ, zR, zst, zkl, zn, zcat, zok, zraw, List.length_cons, List.length_nil, Option.toList, List.nil_append, List.cons_append, true_and, and_true, if_true, if_false, ne_eq, not_true, not_false_eq_true, and_self, true_or, or_true, false_or, or_false, false_and, and_false, b_138 hmm, X1, wi1 wb, X2, wi2 wb, X3, wi3 wb, X4, wi4 wb, Int.toNat_natCast, hx1, hd0]
  refine Ex_keep hB1 ?_
  refine rLift (d := d - 1) M1 (by omega) (fun μ2 l2 M2 hB2 => ?_)
  simp only [x296_687, x296_690, x296_691, ↓reduceIte, Bool.false_eq_true, Nat.reduceAdd, Nat.reduceLT, Nat.reduceLeDiff, Nat.reduceSub, Nat.reduceEqDiff, Int.reduceToNat, Int.reduceEq, Int.reduceLT, Int.reduceLE, Int.reduceAdd, Int.reduceSub, zg, zI, zJ, zR, zst, zkl, zn, zcat, zok, zraw, List.length_cons, List.length_nil, Option.toList, List.nil_append, List.cons_append, true_and, and_true, if_true, if_false, ne_eq, not_true, not_false_eq_true, and_self, true_or, or_true, false_or, or_false, false_and, and_false]
  exact K _ _ ⟨T, U, _, s, (CS_ML C1 l2), M2, hB2, (by omega), h1, (fun j => by rw [l2 1 (by decide)]; exact hx1 j)⟩
theorem c_goes (hd : 40 ≤ d) (h : IV L xs t θ μ) (ht : 6 * t + 6 ≤ L) (hL : L ≤ 3077) (K : ∀ θ' μ', IV L xs (t + 1) θ' μ' → Ex d 296 1971 [vr 1, vr 2, vr 138, vi ((6 * t : Nat) : Int)] [] θ' μ' Q) : Ex d 296 692 [vr 1, vr 2, vr 138, vi ((6 * t : Nat) : Int)] [] θ μ Q := by
  obtain ⟨T, U, σ, s, hC, hM, hB, hm, h1, hx⟩ := h
  have hc := hC.1.1.1
  have hmm := hM.1.1
  have hd0 : 0 < d := by omega
  have g1 := IV_1 h1
  have wb : 6 * t < 2147483000 := by omega
  have X1 : (zix θ .int 1 ((6 * t + 1 : Nat) : Int) = true) = True := zix_T g1 (by omega) (by omega)
  have X2 : (zix θ .int 1 ((6 * t + 2 : Nat) : Int) = true) = True := zix_T g1 (by omega) (by omega)
  have X3 : (zix θ .int 1 ((6 * t + 3 : Nat) : Int) = true) = True := zix_T g1 (by omega) (by omega)
  by_cases e : xs (6 * t + 3) = 0
  · simp only [x296_692, x296_693, x296_694, x296_695, x296_696, x296_697, x296_698, x296_699, x296_700, x296_701, x296_702, x296_703, x296_704, x296_705, x296_706, x296_707, x296_708, x296_711, x296_712, x296_715, x296_716, ↓reduceIte, Bool.false_eq_true, Nat.reduceAdd, Nat.reduceLT, Nat.reduceLeDiff, Nat.reduceSub, Nat.reduceEqDiff, Int.reduceToNat, Int.reduceEq, Int.reduceLT, Int.reduceLE, Int.reduceAdd, Int.reduceSub, zg, zI, zJ, zR, zst, zkl, zn, zcat, zok, zraw, List.length_cons, List.length_nil, Option.toList, List.nil_append, List.cons_append, true_and, and_true, if_true, if_false, ne_eq, not_true, not_false_eq_true, and_self, true_or, or_true, false_or, or_false, false_and, and_false, b_2 hc, b_138 hmm, X1, wi1 wb, X2, wi2 wb, X3, wi3 wb, Int.toNat_natCast, hx, e, hd0]
    refine Ex_keep hB ?_
    refine kGoes (d := d - 1) hC (by omega) (Or.inl rfl) (fun μ1 l1 C1 hB1 => ?_)
    have M1 : MS θ σ s μ1 := MS_CL hM (fun a ha => l1 a (Or.inr ha))
    have hx1 : ∀ j, μ1 1 j = xs j := fun j => by rw [l1 1 (Or.inl (by decide))]; exact hx j
    simp only [x296_719, x296_720, x296_721, x296_722, x296_723, x296_724, x296_725, x296_726, x296_727, x296_728, x296_729, x296_730, x296_731, x296_732, x296_733, x296_734, x296_735, x296_738, x296_739, x296_742, x296_743, ↓reduceIte, Bool.false_eq_true, Nat.reduceAdd, Nat.reduceLT, Nat.reduceLeDiff, Nat.reduceSub, Nat.reduceEqDiff, Int.reduceToNat, Int.reduceEq, Int.reduceLT, Int.reduceLE, Int.reduceAdd, Int.reduceSub, zg, zI, zJ, zR, zst, zkl, zn, zcat, zok, zraw, List.length_cons, List.length_nil, Option.toList, List.nil_append, List.cons_append, true_and, and_true, if_true, if_false, ne_eq, not_true, not_false_eq_true, and_self, true_or, or_true, false_or, or_false, false_and, and_false, b_138 hmm, X1, wi1 wb, X2, wi2 wb, X3, wi3 wb, Int.toNat_natCast, hx1, e, hd0]
    refine Ex_keep hB1 ?_
    refine rGoes (d := d - 1) M1 (by omega) (Or.inl rfl) (fun μ2 l2 M2 hB2 => ?_)
    simp only [x296_746, x296_749, x296_750, ↓reduceIte, Bool.false_eq_true, Nat.reduceAdd, Nat.reduceLT, Nat.reduceLeDiff, Nat.reduceSub, Nat.reduceEqDiff, Int.reduceToNat, Int.reduceEq, Int.reduceLT, Int.reduceLE, Int.reduceAdd, Int.reduceSub, zg, zI, zJ, zR, zst, zkl, zn, zcat, zok, zraw, List.length_cons, List.length_nil, Option.toList, List.nil_append, List.cons_append, true_and, and_true, if_true, if_false, ne_eq, not_true, not_false_eq_true, and_self, true_or, or_true, false_or, or_false, false_and, and_false]
    exact K _ _ ⟨T, U, _, s, (CS_ML C1 l2), M2, hB2, (by omega), h1, (fun j => by rw [l2 1 (by decide)]; exact hx1 j)⟩
  · simp only [x296_692, x296_693, x296_694, x296_695, x296_696, x296_697, x296_698, x296_699, x296_700, x296_701, x296_702, x296_703, x296_704, x296_705, x296_706, x296_707, x296_708, x296_711, x296_712, x296_715, x296_716, ↓reduceIte, Bool.false_eq_true, Nat.reduceAdd, Nat.reduceLT, Nat.reduceLeDiff, Nat.reduceSub, Nat.reduceEqDiff, Int.reduceToNat, Int.reduceEq, Int.reduceLT, Int.reduceLE, Int.reduceAdd, Int.reduceSub, zg, zI, zJ, zR, zst, zkl, zn, zcat, zok, zraw, List.length_cons, List.length_nil, Option.toList, List.nil_append, List.cons_append, true_and, and_true, if_true, if_false, ne_eq, not_true, not_false_eq_true, and_self, true_or, or_true, false_or, or_false, false_and, and_false, b_2 hc, b_138 hmm, X1, wi1 wb, X2, wi2 wb, X3, wi3 wb, Int.toNat_natCast, hx, e, hd0]
    refine Ex_keep hB ?_
    refine kGoes (d := d - 1) hC (by omega) (Or.inr rfl) (fun μ1 l1 C1 hB1 => ?_)
    have M1 : MS θ σ s μ1 := MS_CL hM (fun a ha => l1 a (Or.inr ha))
    have hx1 : ∀ j, μ1 1 j = xs j := fun j => by rw [l1 1 (Or.inl (by decide))]; exact hx j
    simp only [x296_719, x296_720, x296_721, x296_722, x296_723, x296_724, x296_725, x296_726, x296_727, x296_728, x296_729, x296_730, x296_731, x296_732, x296_733, x296_734, x296_735, x296_738, x296_739, x296_742, x296_743, ↓reduceIte, Bool.false_eq_true, Nat.reduceAdd, Nat.reduceLT, Nat.reduceLeDiff, Nat.reduceSub, Nat.reduceEqDiff, Int.reduceToNat, Int.reduceEq, Int.reduceLT, Int.reduceLE, Int.reduceAdd, Int.reduceSub, zg, zI, zJ, zR, zst, zkl, zn, zcat, zok, zraw, List.length_cons, List.length_nil, Option.toList, List.nil_append, List.cons_append, true_and, and_true, if_true, if_false, ne_eq, not_true, not_false_eq_true, and_self, true_or, or_true, false_or, or_false, false_and, and_false, b_138 hmm, X1, wi1 wb, X2, wi2 wb, X3, wi3 wb, Int.toNat_natCast, hx1, e, hd0]
    refine Ex_keep hB1 ?_
    refine rGoes (d := d - 1) M1 (by omega) (Or.inr rfl) (fun μ2 l2 M2 hB2 => ?_)
    simp only [x296_746, x296_749, x296_750, ↓reduceIte, Bool.false_eq_true, Nat.reduceAdd, Nat.reduceLT, Nat.reduceLeDiff, Nat.reduceSub, Nat.reduceEqDiff, Int.reduceToNat, Int.reduceEq, Int.reduceLT, Int.reduceLE, Int.reduceAdd, Int.reduceSub, zg, zI, zJ, zR, zst, zkl, zn, zcat, zok, zraw, List.length_cons, List.length_nil, Option.toList, List.nil_append, List.cons_append, true_and, and_true, if_true, if_false, ne_eq, not_true, not_false_eq_true, and_self, true_or, or_true, false_or, or_false, false_and, and_false]
    exact K _ _ ⟨T, U, _, s, (CS_ML C1 l2), M2, hB2, (by omega), h1, (fun j => by rw [l2 1 (by decide)]; exact hx1 j)⟩
theorem c_first (hd : 40 ≤ d) (h : IV L xs t θ μ) (ht : 6 * t + 6 ≤ L) (hL : L ≤ 3077) (K : ∀ θ' μ', IV L xs (t + 1) θ' μ' → Ex d 296 1971 [vr 1, vr 2, vr 138, vi ((6 * t : Nat) : Int)] [] θ' μ' Q) : Ex d 296 751 [vr 1, vr 2, vr 138, vi ((6 * t : Nat) : Int)] [] θ μ Q := by
  obtain ⟨T, U, σ, s, hC, hM, hB, hm, h1, hx⟩ := h
  have hc := hC.1.1.1
  have hmm := hM.1.1
  have hd0 : 0 < d := by omega
  have g1 := IV_1 h1
  have wb : 6 * t < 2147483000 := by omega
  have X1 : (zix θ .int 1 ((6 * t + 1 : Nat) : Int) = true) = True := zix_T g1 (by omega) (by omega)
  have X2 : (zix θ .int 1 ((6 * t + 2 : Nat) : Int) = true) = True := zix_T g1 (by omega) (by omega)
  by_cases e : xs (6 * t + 2) = 0
  · simp only [x296_751, x296_752, x296_753, x296_754, x296_755, x296_756, x296_757, x296_758, x296_759, x296_760, x296_761, x296_762, x296_765, x296_766, x296_769, x296_770, ↓reduceIte, Bool.false_eq_true, Nat.reduceAdd, Nat.reduceLT, Nat.reduceLeDiff, Nat.reduceSub, Nat.reduceEqDiff, Int.reduceToNat, Int.reduceEq, Int.reduceLT, Int.reduceLE, Int.reduceAdd, Int.reduceSub, zg, zI, zJ, zR, zst, zkl, zn, zcat, zok, zraw, List.length_cons, List.length_nil, Option.toList, List.nil_append, List.cons_append, true_and, and_true, if_true, if_false, ne_eq, not_true, not_false_eq_true, and_self, true_or, or_true, false_or, or_false, false_and, and_false, b_2 hc, b_138 hmm, X1, wi1 wb, X2, wi2 wb, Int.toNat_natCast, hx, e, hd0]
    refine Ex_keep hB ?_
    refine kFirst (D := d - 1) hC (by omega) (Or.inl rfl) (fun μ1 l1 C1 hB1 => ?_)
    have M1 : MS θ σ s μ1 := MS_CL hM (fun a ha => l1 a (Or.inr ha))
    have hx1 : ∀ j, μ1 1 j = xs j := fun j => by rw [l1 1 (Or.inl (by decide))]; exact hx j
    simp only [x296_773, x296_774, x296_775, x296_776, x296_777, x296_778, x296_779, x296_780, x296_781, x296_782, x296_783, x296_784, x296_787, x296_788, x296_791, x296_792, ↓reduceIte, Bool.false_eq_true, Nat.reduceAdd, Nat.reduceLT, Nat.reduceLeDiff, Nat.reduceSub, Nat.reduceEqDiff, Int.reduceToNat, Int.reduceEq, Int.reduceLT, Int.reduceLE, Int.reduceAdd, Int.reduceSub, zg, zI, zJ, zR, zst, zkl, zn, zcat, zok, zraw, List.length_cons, List.length_nil, Option.toList, List.nil_append, List.cons_append, true_and, and_true, if_true, if_false, ne_eq, not_true, not_false_eq_true, and_self, true_or, or_true, false_or, or_false, false_and, and_false, b_138 hmm, X1, wi1 wb, X2, wi2 wb, Int.toNat_natCast, hx1, e, hd0]
    refine Ex_keep hB1 ?_
    refine rFirst (D := d - 1) M1 (by omega) (Or.inl rfl) (fun μ2 l2 M2 hB2 => ?_)
    simp only [x296_795, x296_798, x296_799, ↓reduceIte, Bool.false_eq_true, Nat.reduceAdd, Nat.reduceLT, Nat.reduceLeDiff, Nat.reduceSub, Nat.reduceEqDiff, Int.reduceToNat, Int.reduceEq, Int.reduceLT, Int.reduceLE, Int.reduceAdd, Int.reduceSub, zg, zI, zJ, zR, zst, zkl, zn, zcat, zok, zraw, List.length_cons, List.length_nil, Option.toList, List.nil_append, List.cons_append, true_and, and_true, if_true, if_false, ne_eq, not_true, not_false_eq_true, and_self, true_or, or_true, false_or, or_false, false_and, and_false]
    exact K _ _ ⟨T, U, _, s, (CS_ML C1 l2), M2, hB2, (by omega), h1, (fun j => by rw [l2 1 (by decide)]; exact hx1 j)⟩
  · simp only [x296_751, x296_752, x296_753, x296_754, x296_755, x296_756, x296_757, x296_758, x296_759, x296_760, x296_761, x296_762, x296_765, x296_766, x296_769, x296_770, ↓reduceIte, Bool.false_eq_true, Nat.reduceAdd, Nat.reduceLT, Nat.reduceLeDiff, Nat.reduceSub, Nat.reduceEqDiff, Int.reduceToNat, Int.reduceEq, Int.reduceLT, Int.reduceLE, Int.reduceAdd, Int.reduceSub, zg, zI, zJ, zR, zst, zkl, zn, zcat, zok, zraw, List.length_cons, List.length_nil, Option.toList, List.nil_append, List.cons_append, true_and, and_true, if_true, if_false, ne_eq, not_true, not_false_eq_true, and_self, true_or, or_true, false_or, or_false, false_and, and_false, b_2 hc, b_138 hmm, X1, wi1 wb, X2, wi2 wb, Int.toNat_natCast, hx, e, hd0]
    refine Ex_keep hB ?_
    refine kFirst (D := d - 1) hC (by omega) (Or.inr rfl) (fun μ1 l1 C1 hB1 => ?_)
    have M1 : MS θ σ s μ1 := MS_CL hM (fun a ha => l1 a (Or.inr ha))
    have hx1 : ∀ j, μ1 1 j = xs j := fun j => by rw [l1 1 (Or.inl (by decide))]; exact hx j
    simp only [x296_773, x296_774, x296_775, x296_776, x296_777, x296_778, x296_779, x296_780, x296_781, x296_782, x296_783, x296_784, x296_787, x296_788, x296_791, x296_792, ↓reduceIte, Bool.false_eq_true, Nat.reduceAdd, Nat.reduceLT, Nat.reduceLeDiff, Nat.reduceSub, Nat.reduceEqDiff, Int.reduceToNat, Int.reduceEq, Int.reduceLT, Int.reduceLE, Int.reduceAdd, Int.reduceSub, zg, zI, zJ, zR, zst, zkl, zn, zcat, zok, zraw, List.length_cons, List.length_nil, Option.toList, List.nil_append, List.cons_append, true_and, and_true, if_true, if_false, ne_eq, not_true, not_false_eq_true, and_self, true_or, or_true, false_or, or_false, false_and, and_false, b_138 hmm, X1, wi1 wb, X2, wi2 wb, Int.toNat_natCast, hx1, e, hd0]
    refine Ex_keep hB1 ?_
    refine rFirst (D := d - 1) M1 (by omega) (Or.inr rfl) (fun μ2 l2 M2 hB2 => ?_)
    simp only [x296_795, x296_798, x296_799, ↓reduceIte, Bool.false_eq_true, Nat.reduceAdd, Nat.reduceLT, Nat.reduceLeDiff, Nat.reduceSub, Nat.reduceEqDiff, Int.reduceToNat, Int.reduceEq, Int.reduceLT, Int.reduceLE, Int.reduceAdd, Int.reduceSub, zg, zI, zJ, zR, zst, zkl, zn, zcat, zok, zraw, List.length_cons, List.length_nil, Option.toList, List.nil_append, List.cons_append, true_and, and_true, if_true, if_false, ne_eq, not_true, not_false_eq_true, and_self, true_or, or_true, false_or, or_false, false_and, and_false]
    exact K _ _ ⟨T, U, _, s, (CS_ML C1 l2), M2, hB2, (by omega), h1, (fun j => by rw [l2 1 (by decide)]; exact hx1 j)⟩
theorem c_fall (hd : 40 ≤ d) (h : IV L xs t θ μ) (ht : 6 * t + 6 ≤ L) (hL : L ≤ 3077) (K : ∀ θ' μ', IV L xs (t + 1) θ' μ' → Ex d 296 1971 [vr 1, vr 2, vr 138, vi ((6 * t : Nat) : Int)] [] θ' μ' Q) : Ex d 296 800 [vr 1, vr 2, vr 138, vi ((6 * t : Nat) : Int)] [] θ μ Q := by
  obtain ⟨T, U, σ, s, hC, hM, hB, hm, h1, hx⟩ := h
  have hc := hC.1.1.1
  have hmm := hM.1.1
  have hd0 : 0 < d := by omega
  have g1 := IV_1 h1
  have wb : 6 * t < 2147483000 := by omega
  have X1 : (zix θ .int 1 ((6 * t + 1 : Nat) : Int) = true) = True := zix_T g1 (by omega) (by omega)
  have X2 : (zix θ .int 1 ((6 * t + 2 : Nat) : Int) = true) = True := zix_T g1 (by omega) (by omega)
  have X3 : (zix θ .int 1 ((6 * t + 3 : Nat) : Int) = true) = True := zix_T g1 (by omega) (by omega)
  simp only [x296_800, x296_801, x296_802, x296_803, x296_804, x296_805, x296_806, x296_807, x296_808, x296_809, x296_810, x296_811, x296_812, x296_813, x296_814, x296_815, x296_816, ↓reduceIte, Bool.false_eq_true, Nat.reduceAdd, Nat.reduceLT, Nat.reduceLeDiff, Nat.reduceSub, Nat.reduceEqDiff, Int.reduceToNat, Int.reduceEq, Int.reduceLT, Int.reduceLE, Int.reduceAdd, Int.reduceSub, zg, zI, zJ, zR, zst, zkl, zn, zcat, zok, zraw, List.length_cons, List.length_nil, Option.toList, List.nil_append, List.cons_append, true_and, and_true, if_true, if_false, ne_eq, not_true, not_false_eq_true, and_self, true_or, or_true, false_or, or_false, false_and, and_false, b_2 hc, b_138 hmm, X1, wi1 wb, X2, wi2 wb, X3, wi3 wb, Int.toNat_natCast, hx, hd0]
  refine Ex_keep hB ?_
  refine kFall (d := d - 1) hC (by omega) (fun μ1 l1 C1 hB1 => ?_)
  have M1 : MS θ σ s μ1 := MS_CL hM (fun a ha => l1 a (Or.inr ha))
  have hx1 : ∀ j, μ1 1 j = xs j := fun j => by rw [l1 1 (Or.inl (by decide))]; exact hx j
  simp only [x296_819, x296_820, x296_821, x296_822, x296_823, x296_824, x296_825, x296_826, x296_827, x296_828, x296_829, x296_830, x296_831, x296_832, x296_833, x296_834, x296_835, ↓reduceIte, Bool.false_eq_true, Nat.reduceAdd, Nat.reduceLT, Nat.reduceLeDiff, Nat.reduceSub, Nat.reduceEqDiff, Int.reduceToNat, Int.reduceEq, Int.reduceLT, Int.reduceLE, Int.reduceAdd, Int.reduceSub, zg, zI, zJ, zR, zst, zkl, zn, zcat, zok, zraw, List.length_cons, List.length_nil, Option.toList, List.nil_append, List.cons_append, true_and, and_true, if_true, if_false, ne_eq, not_true, not_false_eq_true, and_self, true_or, or_true, false_or, or_false, false_and, and_false, b_138 hmm, X1, wi1 wb, X2, wi2 wb, X3, wi3 wb, Int.toNat_natCast, hx1, hd0]
  refine Ex_keep hB1 ?_
  refine rFall (d := d - 1) M1 (by omega) (fun μ2 l2 M2 hB2 => ?_)
  simp only [x296_838, x296_841, x296_842, ↓reduceIte, Bool.false_eq_true, Nat.reduceAdd, Nat.reduceLT, Nat.reduceLeDiff, Nat.reduceSub, Nat.reduceEqDiff, Int.reduceToNat, Int.reduceEq, Int.reduceLT, Int.reduceLE, Int.reduceAdd, Int.reduceSub, zg, zI, zJ, zR, zst, zkl, zn, zcat, zok, zraw, List.length_cons, List.length_nil, Option.toList, List.nil_append, List.cons_append, true_and, and_true, if_true, if_false, ne_eq, not_true, not_false_eq_true, and_self, true_or, or_true, false_or, or_false, false_and, and_false]
  exact K _ _ ⟨T, U, _, s, (CS_ML C1 l2), M2, hB2, (by omega), h1, (fun j => by rw [l2 1 (by decide)]; exact hx1 j)⟩
theorem c_fallen (hd : 40 ≤ d) (h : IV L xs t θ μ) (ht : 6 * t + 6 ≤ L) (hL : L ≤ 3077) (K : ∀ θ' μ', IV L xs (t + 1) θ' μ' → Ex d 296 1971 [vr 1, vr 2, vr 138, vi ((6 * t : Nat) : Int)] [] θ' μ' Q) : Ex d 296 843 [vr 1, vr 2, vr 138, vi ((6 * t : Nat) : Int)] [] θ μ Q := by
  obtain ⟨T, U, σ, s, hC, hM, hB, hm, h1, hx⟩ := h
  have hc := hC.1.1.1
  have hmm := hM.1.1
  have hd0 : 0 < d := by omega
  have g1 := IV_1 h1
  have wb : 6 * t < 2147483000 := by omega
  have X1 : (zix θ .int 1 ((6 * t + 1 : Nat) : Int) = true) = True := zix_T g1 (by omega) (by omega)
  have X2 : (zix θ .int 1 ((6 * t + 2 : Nat) : Int) = true) = True := zix_T g1 (by omega) (by omega)
  have X3 : (zix θ .int 1 ((6 * t + 3 : Nat) : Int) = true) = True := zix_T g1 (by omega) (by omega)
  simp only [x296_843, x296_844, x296_845, x296_846, x296_847, x296_848, x296_849, x296_850, x296_851, x296_852, x296_853, x296_854, x296_855, x296_856, x296_857, x296_858, x296_859, ↓reduceIte, Bool.false_eq_true, Nat.reduceAdd, Nat.reduceLT, Nat.reduceLeDiff, Nat.reduceSub, Nat.reduceEqDiff, Int.reduceToNat, Int.reduceEq, Int.reduceLT, Int.reduceLE, Int.reduceAdd, Int.reduceSub, zg, zI, zJ, zR, zst, zkl, zn, zcat, zok, zraw, List.length_cons, List.length_nil, Option.toList, List.nil_append, List.cons_append, true_and, and_true, if_true, if_false, ne_eq, not_true, not_false_eq_true, and_self, true_or, or_true, false_or, or_false, false_and, and_false, b_2 hc, b_138 hmm, X1, wi1 wb, X2, wi2 wb, X3, wi3 wb, Int.toNat_natCast, hx, hd0]
  refine Ex_keep hB ?_
  refine kFallen (D := d - 1) hC (by omega) (fun μ1 l1 C1 hB1 => ?_)
  have M1 : MS θ σ s μ1 := MS_CL hM (fun a ha => l1 a (Or.inr ha))
  have hx1 : ∀ j, μ1 1 j = xs j := fun j => by rw [l1 1 (Or.inl (by decide))]; exact hx j
  simp only [x296_862, x296_863, x296_864, x296_865, x296_866, x296_867, x296_868, x296_869, x296_870, x296_871, x296_872, x296_873, x296_874, x296_875, x296_876, x296_877, x296_878, ↓reduceIte, Bool.false_eq_true, Nat.reduceAdd, Nat.reduceLT, Nat.reduceLeDiff, Nat.reduceSub, Nat.reduceEqDiff, Int.reduceToNat, Int.reduceEq, Int.reduceLT, Int.reduceLE, Int.reduceAdd, Int.reduceSub, zg, zI, zJ, zR, zst, zkl, zn, zcat, zok, zraw, List.length_cons, List.length_nil, Option.toList, List.nil_append, List.cons_append, true_and, and_true, if_true, if_false, ne_eq, not_true, not_false_eq_true, and_self, true_or, or_true, false_or, or_false, false_and, and_false, b_138 hmm, X1, wi1 wb, X2, wi2 wb, X3, wi3 wb, Int.toNat_natCast, hx1, hd0]
  refine Ex_keep hB1 ?_
  refine rFallen (D := d - 1) M1 (by omega) (fun μ2 l2 M2 hB2 => ?_)
  simp only [x296_881, x296_884, x296_885, ↓reduceIte, Bool.false_eq_true, Nat.reduceAdd, Nat.reduceLT, Nat.reduceLeDiff, Nat.reduceSub, Nat.reduceEqDiff, Int.reduceToNat, Int.reduceEq, Int.reduceLT, Int.reduceLE, Int.reduceAdd, Int.reduceSub, zg, zI, zJ, zR, zst, zkl, zn, zcat, zok, zraw, List.length_cons, List.length_nil, Option.toList, List.nil_append, List.cons_append, true_and, and_true, if_true, if_false, ne_eq, not_true, not_false_eq_true, and_self, true_or, or_true, false_or, or_false, false_and, and_false]
  exact K _ _ ⟨T, U, _, s, (CS_ML C1 l2), M2, hB2, (by omega), h1, (fun j => by rw [l2 1 (by decide)]; exact hx1 j)⟩
theorem c_round (hd : 40 ≤ d) (h : IV L xs t θ μ) (ht : 6 * t + 6 ≤ L) (hL : L ≤ 3077) (K : ∀ θ' μ', IV L xs (t + 1) θ' μ' → Ex d 296 1971 [vr 1, vr 2, vr 138, vi ((6 * t : Nat) : Int)] [] θ' μ' Q) : Ex d 296 886 [vr 1, vr 2, vr 138, vi ((6 * t : Nat) : Int)] [] θ μ Q := by
  obtain ⟨T, U, σ, s, hC, hM, hB, hm, h1, hx⟩ := h
  have hc := hC.1.1.1
  have hmm := hM.1.1
  have hd0 : 0 < d := by omega
  have g1 := IV_1 h1
  have wb : 6 * t < 2147483000 := by omega
  have X1 : (zix θ .int 1 ((6 * t + 1 : Nat) : Int) = true) = True := zix_T g1 (by omega) (by omega)
  have X2 : (zix θ .int 1 ((6 * t + 2 : Nat) : Int) = true) = True := zix_T g1 (by omega) (by omega)
  have X3 : (zix θ .int 1 ((6 * t + 3 : Nat) : Int) = true) = True := zix_T g1 (by omega) (by omega)
  simp only [x296_886, x296_887, x296_888, x296_889, x296_890, x296_891, x296_892, x296_893, x296_894, x296_895, x296_896, x296_897, x296_898, x296_899, x296_900, x296_901, x296_902, ↓reduceIte, Bool.false_eq_true, Nat.reduceAdd, Nat.reduceLT, Nat.reduceLeDiff, Nat.reduceSub, Nat.reduceEqDiff, Int.reduceToNat, Int.reduceEq, Int.reduceLT, Int.reduceLE, Int.reduceAdd, Int.reduceSub, zg, zI, zJ, zR, zst, zkl, zn, zcat, zok, zraw, List.length_cons, List.length_nil, Option.toList, List.nil_append, List.cons_append, true_and, and_true, if_true, if_false, ne_eq, not_true, not_false_eq_true, and_self, true_or, or_true, false_or, or_false, false_and, and_false, b_2 hc, b_138 hmm, X1, wi1 wb, X2, wi2 wb, X3, wi3 wb, Int.toNat_natCast, hx, hd0]
  refine Ex_keep hB ?_
  refine kRound (d := d - 1) hC (by omega) (fun μ1 l1 C1 hB1 => ?_)
  have M1 : MS θ σ s μ1 := MS_CL hM (fun a ha => l1 a (Or.inr ha))
  have hx1 : ∀ j, μ1 1 j = xs j := fun j => by rw [l1 1 (Or.inl (by decide))]; exact hx j
  simp only [x296_905, x296_906, x296_907, x296_908, x296_909, x296_910, x296_911, x296_912, x296_913, x296_914, x296_915, x296_916, x296_917, x296_918, x296_919, x296_920, x296_921, ↓reduceIte, Bool.false_eq_true, Nat.reduceAdd, Nat.reduceLT, Nat.reduceLeDiff, Nat.reduceSub, Nat.reduceEqDiff, Int.reduceToNat, Int.reduceEq, Int.reduceLT, Int.reduceLE, Int.reduceAdd, Int.reduceSub, zg, zI, zJ, zR, zst, zkl, zn, zcat, zok, zraw, List.length_cons, List.length_nil, Option.toList, List.nil_append, List.cons_append, true_and, and_true, if_true, if_false, ne_eq, not_true, not_false_eq_true, and_self, true_or, or_true, false_or, or_false, false_and, and_false, b_138 hmm, X1, wi1 wb, X2, wi2 wb, X3, wi3 wb, Int.toNat_natCast, hx1, hd0]
  refine Ex_keep hB1 ?_
  refine rRound (d := d - 1) M1 (by omega) (fun μ2 l2 M2 hB2 => ?_)
  simp only [x296_924, x296_927, x296_928, ↓reduceIte, Bool.false_eq_true, Nat.reduceAdd, Nat.reduceLT, Nat.reduceLeDiff, Nat.reduceSub, Nat.reduceEqDiff, Int.reduceToNat, Int.reduceEq, Int.reduceLT, Int.reduceLE, Int.reduceAdd, Int.reduceSub, zg, zI, zJ, zR, zst, zkl, zn, zcat, zok, zraw, List.length_cons, List.length_nil, Option.toList, List.nil_append, List.cons_append, true_and, and_true, if_true, if_false, ne_eq, not_true, not_false_eq_true, and_self, true_or, or_true, false_or, or_false, false_and, and_false]
  exact K _ _ ⟨T, U, _, s, (CS_ML C1 l2), M2, hB2, (by omega), h1, (fun j => by rw [l2 1 (by decide)]; exact hx1 j)⟩
theorem c_lands (hd : 40 ≤ d) (h : IV L xs t θ μ) (ht : 6 * t + 6 ≤ L) (hL : L ≤ 3077) (K : ∀ θ' μ', IV L xs (t + 1) θ' μ' → Ex d 296 1971 [vr 1, vr 2, vr 138, vi ((6 * t : Nat) : Int)] [] θ' μ' Q) : Ex d 296 929 [vr 1, vr 2, vr 138, vi ((6 * t : Nat) : Int)] [] θ μ Q := by
  obtain ⟨T, U, σ, s, hC, hM, hB, hm, h1, hx⟩ := h
  have hc := hC.1.1.1
  have hmm := hM.1.1
  have hd0 : 0 < d := by omega
  have g1 := IV_1 h1
  have wb : 6 * t < 2147483000 := by omega
  have X1 : (zix θ .int 1 ((6 * t + 1 : Nat) : Int) = true) = True := zix_T g1 (by omega) (by omega)
  have X2 : (zix θ .int 1 ((6 * t + 2 : Nat) : Int) = true) = True := zix_T g1 (by omega) (by omega)
  have X3 : (zix θ .int 1 ((6 * t + 3 : Nat) : Int) = true) = True := zix_T g1 (by omega) (by omega)
  simp only [x296_929, x296_930, x296_931, x296_932, x296_933, x296_934, x296_935, x296_936, x296_937, x296_938, x296_939, x296_940, x296_941, x296_942, x296_943, x296_944, x296_945, ↓reduceIte, Bool.false_eq_true, Nat.reduceAdd, Nat.reduceLT, Nat.reduceLeDiff, Nat.reduceSub, Nat.reduceEqDiff, Int.reduceToNat, Int.reduceEq, Int.reduceLT, Int.reduceLE, Int.reduceAdd, Int.reduceSub, zg, zI, zJ, zR, zst, zkl, zn, zcat, zok, zraw, List.length_cons, List.length_nil, Option.toList, List.nil_append, List.cons_append, true_and, and_true, if_true, if_false, ne_eq, not_true, not_false_eq_true, and_self, true_or, or_true, false_or, or_false, false_and, and_false, b_2 hc, b_138 hmm, X1, wi1 wb, X2, wi2 wb, X3, wi3 wb, Int.toNat_natCast, hx, hd0]
  refine Ex_keep hB ?_
  refine kLands (d := d - 1) hC (by omega) (fun μ1 l1 C1 hB1 => ?_)
  have M1 : MS θ σ s μ1 := MS_CL hM (fun a ha => l1 a (Or.inr ha))
  have hx1 : ∀ j, μ1 1 j = xs j := fun j => by rw [l1 1 (Or.inl (by decide))]; exact hx j
  simp only [x296_948, x296_949, x296_950, x296_951, x296_952, x296_953, x296_954, x296_955, x296_956, x296_957, x296_958, x296_959, x296_960, x296_961, x296_962, x296_963, x296_964, ↓reduceIte, Bool.false_eq_true, Nat.reduceAdd, Nat.reduceLT, Nat.reduceLeDiff, Nat.reduceSub, Nat.reduceEqDiff, Int.reduceToNat, Int.reduceEq, Int.reduceLT, Int.reduceLE, Int.reduceAdd, Int.reduceSub, zg, zI, zJ, zR, zst, zkl, zn, zcat, zok, zraw, List.length_cons, List.length_nil, Option.toList, List.nil_append, List.cons_append, true_and, and_true, if_true, if_false, ne_eq, not_true, not_false_eq_true, and_self, true_or, or_true, false_or, or_false, false_and, and_false, b_138 hmm, X1, wi1 wb, X2, wi2 wb, X3, wi3 wb, Int.toNat_natCast, hx1, hd0]
  refine Ex_keep hB1 ?_
  refine rLands (d := d - 1) M1 (by omega) (fun μ2 l2 M2 hB2 => ?_)
  simp only [x296_967, x296_970, x296_971, ↓reduceIte, Bool.false_eq_true, Nat.reduceAdd, Nat.reduceLT, Nat.reduceLeDiff, Nat.reduceSub, Nat.reduceEqDiff, Int.reduceToNat, Int.reduceEq, Int.reduceLT, Int.reduceLE, Int.reduceAdd, Int.reduceSub, zg, zI, zJ, zR, zst, zkl, zn, zcat, zok, zraw, List.length_cons, List.length_nil, Option.toList, List.nil_append, List.cons_append, true_and, and_true, if_true, if_false, ne_eq, not_true, not_false_eq_true, and_self, true_or, or_true, false_or, or_false, false_and, and_false]
  exact K _ _ ⟨T, U, _, s, (CS_ML C1 l2), M2, hB2, (by omega), h1, (fun j => by rw [l2 1 (by decide)]; exact hx1 j)⟩
theorem c_blow (hd : 40 ≤ d) (h : IV L xs t θ μ) (ht : 6 * t + 6 ≤ L) (hL : L ≤ 3077) (K : ∀ θ' μ', IV L xs (t + 1) θ' μ' → Ex d 296 1971 [vr 1, vr 2, vr 138, vi ((6 * t : Nat) : Int)] [] θ' μ' Q) : Ex d 296 972 [vr 1, vr 2, vr 138, vi ((6 * t : Nat) : Int)] [] θ μ Q := by
  obtain ⟨T, U, σ, s, hC, hM, hB, hm, h1, hx⟩ := h
  have hc := hC.1.1.1
  have hmm := hM.1.1
  have hd0 : 0 < d := by omega
  have g1 := IV_1 h1
  have wb : 6 * t < 2147483000 := by omega
  have X1 : (zix θ .int 1 ((6 * t + 1 : Nat) : Int) = true) = True := zix_T g1 (by omega) (by omega)
  have X2 : (zix θ .int 1 ((6 * t + 2 : Nat) : Int) = true) = True := zix_T g1 (by omega) (by omega)
  simp only [x296_972, x296_973, x296_974, x296_975, x296_976, x296_977, x296_978, x296_979, x296_980, x296_981, x296_982, x296_983, ↓reduceIte, Bool.false_eq_true, Nat.reduceAdd, Nat.reduceLT, Nat.reduceLeDiff, Nat.reduceSub, Nat.reduceEqDiff, Int.reduceToNat, Int.reduceEq, Int.reduceLT, Int.reduceLE, Int.reduceAdd, Int.reduceSub, zg, zI, zJ, zR, zst, zkl, zn, zcat, zok, zraw, List.length_cons, List.length_nil, Option.toList, List.nil_append, List.cons_append, true_and, and_true, if_true, if_false, ne_eq, not_true, not_false_eq_true, and_self, true_or, or_true, false_or, or_false, false_and, and_false, b_2 hc, b_138 hmm, X1, wi1 wb, X2, wi2 wb, Int.toNat_natCast, hx, hd0]
  refine Ex_keep hB ?_
  refine kBlow (D := d - 1) hC (by omega) (by omega) (fun μ1 l1 C1 hB1 => ?_)
  have M1 : MS θ σ s μ1 := MS_CL hM (fun a ha => l1 a (Or.inr ha))
  have hx1 : ∀ j, μ1 1 j = xs j := fun j => by rw [l1 1 (Or.inl (by decide))]; exact hx j
  simp only [x296_986, x296_987, x296_988, x296_989, x296_990, x296_991, x296_992, x296_993, x296_994, x296_995, x296_996, x296_997, ↓reduceIte, Bool.false_eq_true, Nat.reduceAdd, Nat.reduceLT, Nat.reduceLeDiff, Nat.reduceSub, Nat.reduceEqDiff, Int.reduceToNat, Int.reduceEq, Int.reduceLT, Int.reduceLE, Int.reduceAdd, Int.reduceSub, zg, zI, zJ, zR, zst, zkl, zn, zcat, zok, zraw, List.length_cons, List.length_nil, Option.toList, List.nil_append, List.cons_append, true_and, and_true, if_true, if_false, ne_eq, not_true, not_false_eq_true, and_self, true_or, or_true, false_or, or_false, false_and, and_false, b_138 hmm, X1, wi1 wb, X2, wi2 wb, Int.toNat_natCast, hx1, hd0]
  refine Ex_keep hB1 ?_
  refine rBlow (D := d - 1) M1 (by omega) (by omega) (fun μ2 l2 M2 hB2 => ?_)
  simp only [x296_1000, x296_1003, x296_1004, ↓reduceIte, Bool.false_eq_true, Nat.reduceAdd, Nat.reduceLT, Nat.reduceLeDiff, Nat.reduceSub, Nat.reduceEqDiff, Int.reduceToNat, Int.reduceEq, Int.reduceLT, Int.reduceLE, Int.reduceAdd, Int.reduceSub, zg, zI, zJ, zR, zst, zkl, zn, zcat, zok, zraw, List.length_cons, List.length_nil, Option.toList, List.nil_append, List.cons_append, true_and, and_true, if_true, if_false, ne_eq, not_true, not_false_eq_true, and_self, true_or, or_true, false_or, or_false, false_and, and_false]
  exact K _ _ ⟨T, U, _, s, (CS_ML C1 l2), M2, hB2, (sM_blow (by omega)), h1, (fun j => by rw [l2 1 (by decide)]; exact hx1 j)⟩
theorem c_yard (hd : 40 ≤ d) (h : IV L xs t θ μ) (ht : 6 * t + 6 ≤ L) (hL : L ≤ 3077) (K : ∀ θ' μ', IV L xs (t + 1) θ' μ' → Ex d 296 1971 [vr 1, vr 2, vr 138, vi ((6 * t : Nat) : Int)] [] θ' μ' Q) : Ex d 296 1005 [vr 1, vr 2, vr 138, vi ((6 * t : Nat) : Int)] [] θ μ Q := by
  obtain ⟨T, U, σ, s, hC, hM, hB, hm, h1, hx⟩ := h
  have hc := hC.1.1.1
  have hmm := hM.1.1
  have hd0 : 0 < d := by omega
  have g1 := IV_1 h1
  have wb : 6 * t < 2147483000 := by omega
  have X1 : (zix θ .int 1 ((6 * t + 1 : Nat) : Int) = true) = True := zix_T g1 (by omega) (by omega)
  simp only [x296_1005, x296_1006, x296_1007, x296_1008, x296_1009, x296_1010, x296_1011, ↓reduceIte, Bool.false_eq_true, Nat.reduceAdd, Nat.reduceLT, Nat.reduceLeDiff, Nat.reduceSub, Nat.reduceEqDiff, Int.reduceToNat, Int.reduceEq, Int.reduceLT, Int.reduceLE, Int.reduceAdd, Int.reduceSub, zg, zI, zJ, zR, zst, zkl, zn, zcat, zok, zraw, List.length_cons, List.length_nil, Option.toList, List.nil_append, List.cons_append, true_and, and_true, if_true, if_false, ne_eq, not_true, not_false_eq_true, and_self, true_or, or_true, false_or, or_false, false_and, and_false, b_2 hc, b_138 hmm, X1, wi1 wb, Int.toNat_natCast, hx, hd0]
  refine Ex_keep hB ?_
  refine kYard (D := d - 1) hC (by omega) (fun hB1 => ?_)
  simp only [x296_1014, x296_1015, x296_1016, x296_1017, x296_1018, x296_1019, x296_1020, ↓reduceIte, Bool.false_eq_true, Nat.reduceAdd, Nat.reduceLT, Nat.reduceLeDiff, Nat.reduceSub, Nat.reduceEqDiff, Int.reduceToNat, Int.reduceEq, Int.reduceLT, Int.reduceLE, Int.reduceAdd, Int.reduceSub, zg, zI, zJ, zR, zst, zkl, zn, zcat, zok, zraw, List.length_cons, List.length_nil, Option.toList, List.nil_append, List.cons_append, true_and, and_true, if_true, if_false, ne_eq, not_true, not_false_eq_true, and_self, true_or, or_true, false_or, or_false, false_and, and_false, b_138 hmm, X1, wi1 wb, Int.toNat_natCast, hx, hd0]
  refine Ex_keep hB1 ?_
  refine rYard (D := d - 1) hM (by omega) (fun hB2 => ?_)
  simp only [x296_1023, x296_1026, x296_1027, ↓reduceIte, Bool.false_eq_true, Nat.reduceAdd, Nat.reduceLT, Nat.reduceLeDiff, Nat.reduceSub, Nat.reduceEqDiff, Int.reduceToNat, Int.reduceEq, Int.reduceLT, Int.reduceLE, Int.reduceAdd, Int.reduceSub, zg, zI, zJ, zR, zst, zkl, zn, zcat, zok, zraw, List.length_cons, List.length_nil, Option.toList, List.nil_append, List.cons_append, true_and, and_true, if_true, if_false, ne_eq, not_true, not_false_eq_true, and_self, true_or, or_true, false_or, or_false, false_and, and_false]
  exact K _ _ ⟨T, U, _, s, hC, hM, hB2, (by omega), h1, hx⟩
theorem c_sweep (hd : 40 ≤ d) (h : IV L xs t θ μ) (ht : 6 * t + 6 ≤ L) (hL : L ≤ 3077) (K : ∀ θ' μ', IV L xs (t + 1) θ' μ' → Ex d 296 1971 [vr 1, vr 2, vr 138, vi ((6 * t : Nat) : Int)] [] θ' μ' Q) : Ex d 296 1028 [vr 1, vr 2, vr 138, vi ((6 * t : Nat) : Int)] [] θ μ Q := by
  obtain ⟨T, U, σ, s, hC, hM, hB, hm, h1, hx⟩ := h
  have hc := hC.1.1.1
  have hmm := hM.1.1
  have hd0 : 0 < d := by omega
  simp only [x296_1028, x296_1029, ↓reduceIte, Bool.false_eq_true, Nat.reduceAdd, Nat.reduceLT, Nat.reduceLeDiff, Nat.reduceSub, Nat.reduceEqDiff, Int.reduceToNat, Int.reduceEq, Int.reduceLT, Int.reduceLE, Int.reduceAdd, Int.reduceSub, zg, zI, zJ, zR, zst, zkl, zn, zcat, zok, zraw, List.length_cons, List.length_nil, Option.toList, List.nil_append, List.cons_append, true_and, and_true, if_true, if_false, ne_eq, not_true, not_false_eq_true, and_self, true_or, or_true, false_or, or_false, false_and, and_false, b_2 hc, b_138 hmm, Int.toNat_natCast, hx, hd0]
  refine Ex_keep hB ?_
  refine kSweep (D := d - 1) hC (by omega) (fun μ1 l1 C1 hB1 => ?_)
  have M1 : MS θ σ s μ1 := MS_CL hM (fun a ha => l1 a (Or.inr ha))
  have hx1 : ∀ j, μ1 1 j = xs j := fun j => by rw [l1 1 (Or.inl (by decide))]; exact hx j
  simp only [x296_1032, x296_1033, ↓reduceIte, Bool.false_eq_true, Nat.reduceAdd, Nat.reduceLT, Nat.reduceLeDiff, Nat.reduceSub, Nat.reduceEqDiff, Int.reduceToNat, Int.reduceEq, Int.reduceLT, Int.reduceLE, Int.reduceAdd, Int.reduceSub, zg, zI, zJ, zR, zst, zkl, zn, zcat, zok, zraw, List.length_cons, List.length_nil, Option.toList, List.nil_append, List.cons_append, true_and, and_true, if_true, if_false, ne_eq, not_true, not_false_eq_true, and_self, true_or, or_true, false_or, or_false, false_and, and_false, b_138 hmm, Int.toNat_natCast, hx1, hd0]
  refine Ex_keep hB1 ?_
  refine rSweep (D := d - 1) M1 (by omega) (fun μ2 l2 M2 hB2 => ?_)
  simp only [x296_1036, x296_1039, x296_1040, ↓reduceIte, Bool.false_eq_true, Nat.reduceAdd, Nat.reduceLT, Nat.reduceLeDiff, Nat.reduceSub, Nat.reduceEqDiff, Int.reduceToNat, Int.reduceEq, Int.reduceLT, Int.reduceLE, Int.reduceAdd, Int.reduceSub, zg, zI, zJ, zR, zst, zkl, zn, zcat, zok, zraw, List.length_cons, List.length_nil, Option.toList, List.nil_append, List.cons_append, true_and, and_true, if_true, if_false, ne_eq, not_true, not_false_eq_true, and_self, true_or, or_true, false_or, or_false, false_and, and_false]
  exact K _ _ ⟨T, U, _, s, (CS_ML C1 l2), M2, hB2, (sM_sweep (by omega)), h1, (fun j => by rw [l2 1 (by decide)]; exact hx1 j)⟩
theorem c_car (hd : 40 ≤ d) (h : IV L xs t θ μ) (ht : 6 * t + 6 ≤ L) (hL : L ≤ 3077) (K : ∀ θ' μ', IV L xs (t + 1) θ' μ' → Ex d 296 1971 [vr 1, vr 2, vr 138, vi ((6 * t : Nat) : Int)] [] θ' μ' Q) : Ex d 296 1041 [vr 1, vr 2, vr 138, vi ((6 * t : Nat) : Int)] [] θ μ Q := by
  obtain ⟨T, U, σ, s, hC, hM, hB, hm, h1, hx⟩ := h
  have hc := hC.1.1.1
  have hmm := hM.1.1
  have hd0 : 0 < d := by omega
  have g1 := IV_1 h1
  have wb : 6 * t < 2147483000 := by omega
  have X1 : (zix θ .int 1 ((6 * t + 1 : Nat) : Int) = true) = True := zix_T g1 (by omega) (by omega)
  simp only [x296_1041, x296_1042, x296_1043, x296_1044, x296_1045, x296_1046, x296_1047, ↓reduceIte, Bool.false_eq_true, Nat.reduceAdd, Nat.reduceLT, Nat.reduceLeDiff, Nat.reduceSub, Nat.reduceEqDiff, Int.reduceToNat, Int.reduceEq, Int.reduceLT, Int.reduceLE, Int.reduceAdd, Int.reduceSub, zg, zI, zJ, zR, zst, zkl, zn, zcat, zok, zraw, List.length_cons, List.length_nil, Option.toList, List.nil_append, List.cons_append, true_and, and_true, if_true, if_false, ne_eq, not_true, not_false_eq_true, and_self, true_or, or_true, false_or, or_false, false_and, and_false, b_2 hc, b_138 hmm, X1, wi1 wb, Int.toNat_natCast, hx, hd0]
  refine Ex_keep hB ?_
  refine kCar (D := d - 1) hC (by omega) (fun μ1 l1 C1 hB1 => ?_)
  have M1 : MS θ σ s μ1 := MS_CL hM (fun a ha => l1 a (Or.inr ha))
  have hx1 : ∀ j, μ1 1 j = xs j := fun j => by rw [l1 1 (Or.inl (by decide))]; exact hx j
  simp only [x296_1050, x296_1051, x296_1052, x296_1053, x296_1054, x296_1055, x296_1056, ↓reduceIte, Bool.false_eq_true, Nat.reduceAdd, Nat.reduceLT, Nat.reduceLeDiff, Nat.reduceSub, Nat.reduceEqDiff, Int.reduceToNat, Int.reduceEq, Int.reduceLT, Int.reduceLE, Int.reduceAdd, Int.reduceSub, zg, zI, zJ, zR, zst, zkl, zn, zcat, zok, zraw, List.length_cons, List.length_nil, Option.toList, List.nil_append, List.cons_append, true_and, and_true, if_true, if_false, ne_eq, not_true, not_false_eq_true, and_self, true_or, or_true, false_or, or_false, false_and, and_false, b_138 hmm, X1, wi1 wb, Int.toNat_natCast, hx1, hd0]
  refine Ex_keep hB1 ?_
  refine rCar (D := d - 1) M1 (by omega) (fun μ2 l2 M2 hB2 => ?_)
  simp only [x296_1059, x296_1062, x296_1063, ↓reduceIte, Bool.false_eq_true, Nat.reduceAdd, Nat.reduceLT, Nat.reduceLeDiff, Nat.reduceSub, Nat.reduceEqDiff, Int.reduceToNat, Int.reduceEq, Int.reduceLT, Int.reduceLE, Int.reduceAdd, Int.reduceSub, zg, zI, zJ, zR, zst, zkl, zn, zcat, zok, zraw, List.length_cons, List.length_nil, Option.toList, List.nil_append, List.cons_append, true_and, and_true, if_true, if_false, ne_eq, not_true, not_false_eq_true, and_self, true_or, or_true, false_or, or_false, false_and, and_false]
  exact K _ _ ⟨T, U, _, s, (CS_ML C1 l2), M2, hB2, (sM_car (by omega)), h1, (fun j => by rw [l2 1 (by decide)]; exact hx1 j)⟩
theorem c_hits (hd : 40 ≤ d) (h : IV L xs t θ μ) (ht : 6 * t + 6 ≤ L) (hL : L ≤ 3077) (K : ∀ θ' μ', IV L xs (t + 1) θ' μ' → Ex d 296 1971 [vr 1, vr 2, vr 138, vi ((6 * t : Nat) : Int)] [] θ' μ' Q) : Ex d 296 1064 [vr 1, vr 2, vr 138, vi ((6 * t : Nat) : Int)] [] θ μ Q := by
  obtain ⟨T, U, σ, s, hC, hM, hB, hm, h1, hx⟩ := h
  have hc := hC.1.1.1
  have hmm := hM.1.1
  have hd0 : 0 < d := by omega
  have g1 := IV_1 h1
  have wb : 6 * t < 2147483000 := by omega
  have X1 : (zix θ .int 1 ((6 * t + 1 : Nat) : Int) = true) = True := zix_T g1 (by omega) (by omega)
  simp only [x296_1064, x296_1065, x296_1066, x296_1067, x296_1068, x296_1069, x296_1070, ↓reduceIte, Bool.false_eq_true, Nat.reduceAdd, Nat.reduceLT, Nat.reduceLeDiff, Nat.reduceSub, Nat.reduceEqDiff, Int.reduceToNat, Int.reduceEq, Int.reduceLT, Int.reduceLE, Int.reduceAdd, Int.reduceSub, zg, zI, zJ, zR, zst, zkl, zn, zcat, zok, zraw, List.length_cons, List.length_nil, Option.toList, List.nil_append, List.cons_append, true_and, and_true, if_true, if_false, ne_eq, not_true, not_false_eq_true, and_self, true_or, or_true, false_or, or_false, false_and, and_false, b_2 hc, b_138 hmm, X1, wi1 wb, Int.toNat_natCast, hx, hd0]
  refine Ex_keep hB ?_
  refine kHits (D := d - 1) hC (fun hB1 => ?_)
  simp only [x296_1073, x296_1074, x296_1075, x296_1076, x296_1077, x296_1078, x296_1079, ↓reduceIte, Bool.false_eq_true, Nat.reduceAdd, Nat.reduceLT, Nat.reduceLeDiff, Nat.reduceSub, Nat.reduceEqDiff, Int.reduceToNat, Int.reduceEq, Int.reduceLT, Int.reduceLE, Int.reduceAdd, Int.reduceSub, zg, zI, zJ, zR, zst, zkl, zn, zcat, zok, zraw, List.length_cons, List.length_nil, Option.toList, List.nil_append, List.cons_append, true_and, and_true, if_true, if_false, ne_eq, not_true, not_false_eq_true, and_self, true_or, or_true, false_or, or_false, false_and, and_false, b_138 hmm, X1, wi1 wb, Int.toNat_natCast, hx, hd0]
  refine Ex_keep hB1 ?_
  refine rHits (D := d - 1) hM (by omega) (fun hB2 => ?_)
  simp only [x296_1082, x296_1085, x296_1086, ↓reduceIte, Bool.false_eq_true, Nat.reduceAdd, Nat.reduceLT, Nat.reduceLeDiff, Nat.reduceSub, Nat.reduceEqDiff, Int.reduceToNat, Int.reduceEq, Int.reduceLT, Int.reduceLE, Int.reduceAdd, Int.reduceSub, zg, zI, zJ, zR, zst, zkl, zn, zcat, zok, zraw, List.length_cons, List.length_nil, Option.toList, List.nil_append, List.cons_append, true_and, and_true, if_true, if_false, ne_eq, not_true, not_false_eq_true, and_self, true_or, or_true, false_or, or_false, false_and, and_false]
  exact K _ _ ⟨T, U, _, s, hC, hM, hB2, (by omega), h1, hx⟩
theorem c_worst (hd : 40 ≤ d) (h : IV L xs t θ μ) (ht : 6 * t + 6 ≤ L) (hL : L ≤ 3077) (K : ∀ θ' μ', IV L xs (t + 1) θ' μ' → Ex d 296 1971 [vr 1, vr 2, vr 138, vi ((6 * t : Nat) : Int)] [] θ' μ' Q) : Ex d 296 1087 [vr 1, vr 2, vr 138, vi ((6 * t : Nat) : Int)] [] θ μ Q := by
  obtain ⟨T, U, σ, s, hC, hM, hB, hm, h1, hx⟩ := h
  have hc := hC.1.1.1
  have hmm := hM.1.1
  have hd0 : 0 < d := by omega
  have g1 := IV_1 h1
  have wb : 6 * t < 2147483000 := by omega
  have X1 : (zix θ .int 1 ((6 * t + 1 : Nat) : Int) = true) = True := zix_T g1 (by omega) (by omega)
  have X2 : (zix θ .int 1 ((6 * t + 2 : Nat) : Int) = true) = True := zix_T g1 (by omega) (by omega)
  simp only [x296_1087, x296_1088, x296_1089, x296_1090, x296_1091, x296_1092, x296_1093, x296_1094, x296_1095, x296_1096, x296_1097, x296_1098, ↓reduceIte, Bool.false_eq_true, Nat.reduceAdd, Nat.reduceLT, Nat.reduceLeDiff, Nat.reduceSub, Nat.reduceEqDiff, Int.reduceToNat, Int.reduceEq, Int.reduceLT, Int.reduceLE, Int.reduceAdd, Int.reduceSub, zg, zI, zJ, zR, zst, zkl, zn, zcat, zok, zraw, List.length_cons, List.length_nil, Option.toList, List.nil_append, List.cons_append, true_and, and_true, if_true, if_false, ne_eq, not_true, not_false_eq_true, and_self, true_or, or_true, false_or, or_false, false_and, and_false, b_2 hc, b_138 hmm, X1, wi1 wb, X2, wi2 wb, Int.toNat_natCast, hx, hd0]
  refine Ex_keep hB ?_
  refine kWorst (D := d - 1) hC (by omega) (fun μ1 l1 C1 hB1 => ?_)
  have M1 : MS θ σ s μ1 := MS_CL hM (fun a ha => l1 a (Or.inr ha))
  have hx1 : ∀ j, μ1 1 j = xs j := fun j => by rw [l1 1 (Or.inl (by decide))]; exact hx j
  simp only [x296_1101, x296_1102, x296_1103, x296_1104, x296_1105, x296_1106, x296_1107, x296_1108, x296_1109, x296_1110, x296_1111, x296_1112, ↓reduceIte, Bool.false_eq_true, Nat.reduceAdd, Nat.reduceLT, Nat.reduceLeDiff, Nat.reduceSub, Nat.reduceEqDiff, Int.reduceToNat, Int.reduceEq, Int.reduceLT, Int.reduceLE, Int.reduceAdd, Int.reduceSub, zg, zI, zJ, zR, zst, zkl, zn, zcat, zok, zraw, List.length_cons, List.length_nil, Option.toList, List.nil_append, List.cons_append, true_and, and_true, if_true, if_false, ne_eq, not_true, not_false_eq_true, and_self, true_or, or_true, false_or, or_false, false_and, and_false, b_138 hmm, X1, wi1 wb, X2, wi2 wb, Int.toNat_natCast, hx1, hd0]
  refine Ex_keep hB1 ?_
  refine rWorst (D := d - 1) M1 (by omega) (fun μ2 l2 M2 hB2 => ?_)
  simp only [x296_1115, x296_1118, x296_1119, ↓reduceIte, Bool.false_eq_true, Nat.reduceAdd, Nat.reduceLT, Nat.reduceLeDiff, Nat.reduceSub, Nat.reduceEqDiff, Int.reduceToNat, Int.reduceEq, Int.reduceLT, Int.reduceLE, Int.reduceAdd, Int.reduceSub, zg, zI, zJ, zR, zst, zkl, zn, zcat, zok, zraw, List.length_cons, List.length_nil, Option.toList, List.nil_append, List.cons_append, true_and, and_true, if_true, if_false, ne_eq, not_true, not_false_eq_true, and_self, true_or, or_true, false_or, or_false, false_and, and_false]
  exact K _ _ ⟨T, U, _, s, (CS_ML C1 l2), M2, hB2, (by omega), h1, (fun j => by rw [l2 1 (by decide)]; exact hx1 j)⟩
theorem c_gust (hd : 40 ≤ d) (h : IV L xs t θ μ) (ht : 6 * t + 6 ≤ L) (hL : L ≤ 3077) (K : ∀ θ' μ', IV L xs (t + 1) θ' μ' → Ex d 296 1971 [vr 1, vr 2, vr 138, vi ((6 * t : Nat) : Int)] [] θ' μ' Q) : Ex d 296 1120 [vr 1, vr 2, vr 138, vi ((6 * t : Nat) : Int)] [] θ μ Q := by
  obtain ⟨T, U, σ, s, hC, hM, hB, hm, h1, hx⟩ := h
  have hc := hC.1.1.1
  have hmm := hM.1.1
  have hd0 : 0 < d := by omega
  have g1 := IV_1 h1
  have wb : 6 * t < 2147483000 := by omega
  have X1 : (zix θ .int 1 ((6 * t + 1 : Nat) : Int) = true) = True := zix_T g1 (by omega) (by omega)
  have X2 : (zix θ .int 1 ((6 * t + 2 : Nat) : Int) = true) = True := zix_T g1 (by omega) (by omega)
  have X3 : (zix θ .int 1 ((6 * t + 3 : Nat) : Int) = true) = True := zix_T g1 (by omega) (by omega)
  simp only [x296_1120, x296_1121, x296_1122, x296_1123, x296_1124, x296_1125, x296_1126, x296_1127, x296_1128, x296_1129, x296_1130, x296_1131, x296_1132, x296_1133, x296_1134, x296_1135, x296_1136, ↓reduceIte, Bool.false_eq_true, Nat.reduceAdd, Nat.reduceLT, Nat.reduceLeDiff, Nat.reduceSub, Nat.reduceEqDiff, Int.reduceToNat, Int.reduceEq, Int.reduceLT, Int.reduceLE, Int.reduceAdd, Int.reduceSub, zg, zI, zJ, zR, zst, zkl, zn, zcat, zok, zraw, List.length_cons, List.length_nil, Option.toList, List.nil_append, List.cons_append, true_and, and_true, if_true, if_false, ne_eq, not_true, not_false_eq_true, and_self, true_or, or_true, false_or, or_false, false_and, and_false, b_2 hc, b_138 hmm, X1, wi1 wb, X2, wi2 wb, X3, wi3 wb, Int.toNat_natCast, hx, hd0]
  refine Ex_keep hB ?_
  refine kGust (D := d - 1) hC (by omega) (fun μ1 l1 C1 hB1 => ?_)
  have M1 : MS θ σ s μ1 := MS_CL hM (fun a ha => l1 a (Or.inr ha))
  have hx1 : ∀ j, μ1 1 j = xs j := fun j => by rw [l1 1 (Or.inl (by decide))]; exact hx j
  simp only [x296_1139, x296_1140, x296_1141, x296_1142, x296_1143, x296_1144, x296_1145, x296_1146, x296_1147, x296_1148, x296_1149, x296_1150, x296_1151, x296_1152, x296_1153, x296_1154, x296_1155, ↓reduceIte, Bool.false_eq_true, Nat.reduceAdd, Nat.reduceLT, Nat.reduceLeDiff, Nat.reduceSub, Nat.reduceEqDiff, Int.reduceToNat, Int.reduceEq, Int.reduceLT, Int.reduceLE, Int.reduceAdd, Int.reduceSub, zg, zI, zJ, zR, zst, zkl, zn, zcat, zok, zraw, List.length_cons, List.length_nil, Option.toList, List.nil_append, List.cons_append, true_and, and_true, if_true, if_false, ne_eq, not_true, not_false_eq_true, and_self, true_or, or_true, false_or, or_false, false_and, and_false, b_138 hmm, X1, wi1 wb, X2, wi2 wb, X3, wi3 wb, Int.toNat_natCast, hx1, hd0]
  refine Ex_keep hB1 ?_
  refine rGust (D := d - 1) M1 (by omega) (fun μ2 l2 M2 hB2 => ?_)
  simp only [x296_1158, x296_1161, x296_1162, ↓reduceIte, Bool.false_eq_true, Nat.reduceAdd, Nat.reduceLT, Nat.reduceLeDiff, Nat.reduceSub, Nat.reduceEqDiff, Int.reduceToNat, Int.reduceEq, Int.reduceLT, Int.reduceLE, Int.reduceAdd, Int.reduceSub, zg, zI, zJ, zR, zst, zkl, zn, zcat, zok, zraw, List.length_cons, List.length_nil, Option.toList, List.nil_append, List.cons_append, true_and, and_true, if_true, if_false, ne_eq, not_true, not_false_eq_true, and_self, true_or, or_true, false_or, or_false, false_and, and_false]
  exact K _ _ ⟨T, U, _, s, (CS_ML C1 l2), M2, hB2, (sM_gust (by omega)), h1, (fun j => by rw [l2 1 (by decide)]; exact hx1 j)⟩
theorem c_calm (hd : 40 ≤ d) (h : IV L xs t θ μ) (ht : 6 * t + 6 ≤ L) (hL : L ≤ 3077) (K : ∀ θ' μ', IV L xs (t + 1) θ' μ' → Ex d 296 1971 [vr 1, vr 2, vr 138, vi ((6 * t : Nat) : Int)] [] θ' μ' Q) : Ex d 296 1163 [vr 1, vr 2, vr 138, vi ((6 * t : Nat) : Int)] [] θ μ Q := by
  obtain ⟨T, U, σ, s, hC, hM, hB, hm, h1, hx⟩ := h
  have hc := hC.1.1.1
  have hmm := hM.1.1
  have hd0 : 0 < d := by omega
  simp only [x296_1163, x296_1164, ↓reduceIte, Bool.false_eq_true, Nat.reduceAdd, Nat.reduceLT, Nat.reduceLeDiff, Nat.reduceSub, Nat.reduceEqDiff, Int.reduceToNat, Int.reduceEq, Int.reduceLT, Int.reduceLE, Int.reduceAdd, Int.reduceSub, zg, zI, zJ, zR, zst, zkl, zn, zcat, zok, zraw, List.length_cons, List.length_nil, Option.toList, List.nil_append, List.cons_append, true_and, and_true, if_true, if_false, ne_eq, not_true, not_false_eq_true, and_self, true_or, or_true, false_or, or_false, false_and, and_false, b_2 hc, b_138 hmm, Int.toNat_natCast, hx, hd0]
  refine Ex_keep hB ?_
  refine kCalm (D := d - 1) hC (by omega) (fun μ1 l1 C1 hB1 => ?_)
  have M1 : MS θ σ s μ1 := MS_CL hM (fun a ha => l1 a (Or.inr ha))
  have hx1 : ∀ j, μ1 1 j = xs j := fun j => by rw [l1 1 (Or.inl (by decide))]; exact hx j
  simp only [x296_1167, x296_1168, ↓reduceIte, Bool.false_eq_true, Nat.reduceAdd, Nat.reduceLT, Nat.reduceLeDiff, Nat.reduceSub, Nat.reduceEqDiff, Int.reduceToNat, Int.reduceEq, Int.reduceLT, Int.reduceLE, Int.reduceAdd, Int.reduceSub, zg, zI, zJ, zR, zst, zkl, zn, zcat, zok, zraw, List.length_cons, List.length_nil, Option.toList, List.nil_append, List.cons_append, true_and, and_true, if_true, if_false, ne_eq, not_true, not_false_eq_true, and_self, true_or, or_true, false_or, or_false, false_and, and_false, b_138 hmm, Int.toNat_natCast, hx1, hd0]
  refine Ex_keep hB1 ?_
  refine rCalm (D := d - 1) M1 (fun μ2 l2 M2 hB2 => ?_)
  simp only [x296_1171, x296_1174, x296_1175, ↓reduceIte, Bool.false_eq_true, Nat.reduceAdd, Nat.reduceLT, Nat.reduceLeDiff, Nat.reduceSub, Nat.reduceEqDiff, Int.reduceToNat, Int.reduceEq, Int.reduceLT, Int.reduceLE, Int.reduceAdd, Int.reduceSub, zg, zI, zJ, zR, zst, zkl, zn, zcat, zok, zraw, List.length_cons, List.length_nil, Option.toList, List.nil_append, List.cons_append, true_and, and_true, if_true, if_false, ne_eq, not_true, not_false_eq_true, and_self, true_or, or_true, false_or, or_false, false_and, and_false]
  exact K _ _ ⟨T, U, _, s, (CS_ML C1 l2), M2, hB2, (sM_calm (by omega)), h1, (fun j => by rw [l2 1 (by decide)]; exact hx1 j)⟩
theorem c_harm (hd : 40 ≤ d) (h : IV L xs t θ μ) (ht : 6 * t + 6 ≤ L) (hL : L ≤ 3077) (K : ∀ θ' μ', IV L xs (t + 1) θ' μ' → Ex d 296 1971 [vr 1, vr 2, vr 138, vi ((6 * t : Nat) : Int)] [] θ' μ' Q) : Ex d 296 1176 [vr 1, vr 2, vr 138, vi ((6 * t : Nat) : Int)] [] θ μ Q := by
  obtain ⟨T, U, σ, s, hC, hM, hB, hm, h1, hx⟩ := h
  have hc := hC.1.1.1
  have hmm := hM.1.1
  have hd0 : 0 < d := by omega
  simp only [x296_1176, x296_1177, ↓reduceIte, Bool.false_eq_true, Nat.reduceAdd, Nat.reduceLT, Nat.reduceLeDiff, Nat.reduceSub, Nat.reduceEqDiff, Int.reduceToNat, Int.reduceEq, Int.reduceLT, Int.reduceLE, Int.reduceAdd, Int.reduceSub, zg, zI, zJ, zR, zst, zkl, zn, zcat, zok, zraw, List.length_cons, List.length_nil, Option.toList, List.nil_append, List.cons_append, true_and, and_true, if_true, if_false, ne_eq, not_true, not_false_eq_true, and_self, true_or, or_true, false_or, or_false, false_and, and_false, b_2 hc, b_138 hmm, Int.toNat_natCast, hx, hd0]
  refine Ex_keep hB ?_
  refine kHarm (d := d - 1) hC (by omega) (fun μ1 l1 C1 hB1 => ?_)
  have M1 : MS θ σ s μ1 := MS_CL hM (fun a ha => l1 a (Or.inr ha))
  have hx1 : ∀ j, μ1 1 j = xs j := fun j => by rw [l1 1 (Or.inl (by decide))]; exact hx j
  simp only [x296_1180, x296_1181, ↓reduceIte, Bool.false_eq_true, Nat.reduceAdd, Nat.reduceLT, Nat.reduceLeDiff, Nat.reduceSub, Nat.reduceEqDiff, Int.reduceToNat, Int.reduceEq, Int.reduceLT, Int.reduceLE, Int.reduceAdd, Int.reduceSub, zg, zI, zJ, zR, zst, zkl, zn, zcat, zok, zraw, List.length_cons, List.length_nil, Option.toList, List.nil_append, List.cons_append, true_and, and_true, if_true, if_false, ne_eq, not_true, not_false_eq_true, and_self, true_or, or_true, false_or, or_false, false_and, and_false, b_138 hmm, Int.toNat_natCast, hx1, hd0]
  refine Ex_keep hB1 ?_
  refine rHarm (d := d - 1) M1 (by omega) (fun μ2 l2 M2 hB2 => ?_)
  simp only [x296_1184, x296_1187, x296_1188, ↓reduceIte, Bool.false_eq_true, Nat.reduceAdd, Nat.reduceLT, Nat.reduceLeDiff, Nat.reduceSub, Nat.reduceEqDiff, Int.reduceToNat, Int.reduceEq, Int.reduceLT, Int.reduceLE, Int.reduceAdd, Int.reduceSub, zg, zI, zJ, zR, zst, zkl, zn, zcat, zok, zraw, List.length_cons, List.length_nil, Option.toList, List.nil_append, List.cons_append, true_and, and_true, if_true, if_false, ne_eq, not_true, not_false_eq_true, and_self, true_or, or_true, false_or, or_false, false_and, and_false]
  exact K _ _ ⟨T, U, _, s, (CS_ML C1 l2), M2, hB2, (by omega), h1, (fun j => by rw [l2 1 (by decide)]; exact hx1 j)⟩
theorem c_doors (hd : 40 ≤ d) (h : IV L xs t θ μ) (ht : 6 * t + 6 ≤ L) (hL : L ≤ 3077) (K : ∀ θ' μ', IV L xs (t + 1) θ' μ' → Ex d 296 1971 [vr 1, vr 2, vr 138, vi ((6 * t : Nat) : Int)] [] θ' μ' Q) : Ex d 296 1189 [vr 1, vr 2, vr 138, vi ((6 * t : Nat) : Int)] [] θ μ Q := by
  obtain ⟨T, U, σ, s, hC, hM, hB, hm, h1, hx⟩ := h
  have hc := hC.1.1.1
  have hmm := hM.1.1
  have hd0 : 0 < d := by omega
  have g1 := IV_1 h1
  have wb : 6 * t < 2147483000 := by omega
  have X1 : (zix θ .int 1 ((6 * t + 1 : Nat) : Int) = true) = True := zix_T g1 (by omega) (by omega)
  have X2 : (zix θ .int 1 ((6 * t + 2 : Nat) : Int) = true) = True := zix_T g1 (by omega) (by omega)
  simp only [x296_1189, x296_1190, x296_1191, x296_1192, x296_1193, x296_1194, x296_1195, x296_1196, x296_1197, x296_1198, x296_1199, x296_1200, ↓reduceIte, Bool.false_eq_true, Nat.reduceAdd, Nat.reduceLT, Nat.reduceLeDiff, Nat.reduceSub, Nat.reduceEqDiff, Int.reduceToNat, Int.reduceEq, Int.reduceLT, Int.reduceLE, Int.reduceAdd, Int.reduceSub, zg, zI, zJ, zR, zst, zkl, zn, zcat, zok, zraw, List.length_cons, List.length_nil, Option.toList, List.nil_append, List.cons_append, true_and, and_true, if_true, if_false, ne_eq, not_true, not_false_eq_true, and_self, true_or, or_true, false_or, or_false, false_and, and_false, b_2 hc, b_138 hmm, X1, wi1 wb, X2, wi2 wb, Int.toNat_natCast, hx, hd0]
  refine Ex_keep hB ?_
  refine kDoors (d := d - 1) hC (by omega) (fun μ1 l1 C1 hB1 => ?_)
  have M1 : MS θ σ s μ1 := MS_CL hM (fun a ha => l1 a (Or.inr ha))
  have hx1 : ∀ j, μ1 1 j = xs j := fun j => by rw [l1 1 (Or.inl (by decide))]; exact hx j
  simp only [x296_1203, x296_1204, x296_1205, x296_1206, x296_1207, x296_1208, x296_1209, x296_1210, x296_1211, x296_1212, x296_1213, x296_1214, ↓reduceIte, Bool.false_eq_true, Nat.reduceAdd, Nat.reduceLT, Nat.reduceLeDiff, Nat.reduceSub, Nat.reduceEqDiff, Int.reduceToNat, Int.reduceEq, Int.reduceLT, Int.reduceLE, Int.reduceAdd, Int.reduceSub, zg, zI, zJ, zR, zst, zkl, zn, zcat, zok, zraw, List.length_cons, List.length_nil, Option.toList, List.nil_append, List.cons_append, true_and, and_true, if_true, if_false, ne_eq, not_true, not_false_eq_true, and_self, true_or, or_true, false_or, or_false, false_and, and_false, b_138 hmm, X1, wi1 wb, X2, wi2 wb, Int.toNat_natCast, hx1, hd0]
  refine Ex_keep hB1 ?_
  refine rDoors (d := d - 1) M1 (by omega) (fun μ2 l2 M2 hB2 => ?_)
  simp only [x296_1217, x296_1220, x296_1221, ↓reduceIte, Bool.false_eq_true, Nat.reduceAdd, Nat.reduceLT, Nat.reduceLeDiff, Nat.reduceSub, Nat.reduceEqDiff, Int.reduceToNat, Int.reduceEq, Int.reduceLT, Int.reduceLE, Int.reduceAdd, Int.reduceSub, zg, zI, zJ, zR, zst, zkl, zn, zcat, zok, zraw, List.length_cons, List.length_nil, Option.toList, List.nil_append, List.cons_append, true_and, and_true, if_true, if_false, ne_eq, not_true, not_false_eq_true, and_self, true_or, or_true, false_or, or_false, false_and, and_false]
  exact K _ _ ⟨T, U, _, s, (CS_ML C1 l2), M2, hB2, (by omega), h1, (fun j => by rw [l2 1 (by decide)]; exact hx1 j)⟩
theorem c_helps (hd : 40 ≤ d) (h : IV L xs t θ μ) (ht : 6 * t + 6 ≤ L) (hL : L ≤ 3077) (K : ∀ θ' μ', IV L xs (t + 1) θ' μ' → Ex d 296 1971 [vr 1, vr 2, vr 138, vi ((6 * t : Nat) : Int)] [] θ' μ' Q) : Ex d 296 1222 [vr 1, vr 2, vr 138, vi ((6 * t : Nat) : Int)] [] θ μ Q := by
  obtain ⟨T, U, σ, s, hC, hM, hB, hm, h1, hx⟩ := h
  have hc := hC.1.1.1
  have hmm := hM.1.1
  have hd0 : 0 < d := by omega
  have g1 := IV_1 h1
  have wb : 6 * t < 2147483000 := by omega
  have X1 : (zix θ .int 1 ((6 * t + 1 : Nat) : Int) = true) = True := zix_T g1 (by omega) (by omega)
  have X2 : (zix θ .int 1 ((6 * t + 2 : Nat) : Int) = true) = True := zix_T g1 (by omega) (by omega)
  have X3 : (zix θ .int 1 ((6 * t + 3 : Nat) : Int) = true) = True := zix_T g1 (by omega) (by omega)
  simp only [x296_1222, x296_1223, x296_1224, x296_1225, x296_1226, x296_1227, x296_1228, x296_1229, x296_1230, x296_1231, x296_1232, x296_1233, x296_1234, x296_1235, x296_1236, x296_1237, x296_1238, ↓reduceIte, Bool.false_eq_true, Nat.reduceAdd, Nat.reduceLT, Nat.reduceLeDiff, Nat.reduceSub, Nat.reduceEqDiff, Int.reduceToNat, Int.reduceEq, Int.reduceLT, Int.reduceLE, Int.reduceAdd, Int.reduceSub, zg, zI, zJ, zR, zst, zkl, zn, zcat, zok, zraw, List.length_cons, List.length_nil, Option.toList, List.nil_append, List.cons_append, true_and, and_true, if_true, if_false, ne_eq, not_true, not_false_eq_true, and_self, true_or, or_true, false_or, or_false, false_and, and_false, b_2 hc, b_138 hmm, X1, wi1 wb, X2, wi2 wb, X3, wi3 wb, Int.toNat_natCast, hx, hd0]
  refine Ex_keep hB ?_
  refine kHelps (d := d - 1) hC (by omega) (fun μ1 l1 C1 hB1 => ?_)
  have M1 : MS θ σ s μ1 := MS_CL hM (fun a ha => l1 a (Or.inr ha))
  have hx1 : ∀ j, μ1 1 j = xs j := fun j => by rw [l1 1 (Or.inl (by decide))]; exact hx j
  simp only [x296_1241, x296_1242, x296_1243, x296_1244, x296_1245, x296_1246, x296_1247, x296_1248, x296_1249, x296_1250, x296_1251, x296_1252, x296_1253, x296_1254, x296_1255, x296_1256, x296_1257, ↓reduceIte, Bool.false_eq_true, Nat.reduceAdd, Nat.reduceLT, Nat.reduceLeDiff, Nat.reduceSub, Nat.reduceEqDiff, Int.reduceToNat, Int.reduceEq, Int.reduceLT, Int.reduceLE, Int.reduceAdd, Int.reduceSub, zg, zI, zJ, zR, zst, zkl, zn, zcat, zok, zraw, List.length_cons, List.length_nil, Option.toList, List.nil_append, List.cons_append, true_and, and_true, if_true, if_false, ne_eq, not_true, not_false_eq_true, and_self, true_or, or_true, false_or, or_false, false_and, and_false, b_138 hmm, X1, wi1 wb, X2, wi2 wb, X3, wi3 wb, Int.toNat_natCast, hx1, hd0]
  refine Ex_keep hB1 ?_
  refine rHelps (d := d - 1) M1 (by omega) (fun μ2 l2 M2 hB2 => ?_)
  simp only [x296_1260, x296_1263, x296_1264, ↓reduceIte, Bool.false_eq_true, Nat.reduceAdd, Nat.reduceLT, Nat.reduceLeDiff, Nat.reduceSub, Nat.reduceEqDiff, Int.reduceToNat, Int.reduceEq, Int.reduceLT, Int.reduceLE, Int.reduceAdd, Int.reduceSub, zg, zI, zJ, zR, zst, zkl, zn, zcat, zok, zraw, List.length_cons, List.length_nil, Option.toList, List.nil_append, List.cons_append, true_and, and_true, if_true, if_false, ne_eq, not_true, not_false_eq_true, and_self, true_or, or_true, false_or, or_false, false_and, and_false]
  exact K _ _ ⟨T, U, _, s, (CS_ML C1 l2), M2, hB2, (by omega), h1, (fun j => by rw [l2 1 (by decide)]; exact hx1 j)⟩
theorem c_ever (hd : 40 ≤ d) (h : IV L xs t θ μ) (ht : 6 * t + 6 ≤ L) (hL : L ≤ 3077) (K : ∀ θ' μ', IV L xs (t + 1) θ' μ' → Ex d 296 1971 [vr 1, vr 2, vr 138, vi ((6 * t : Nat) : Int)] [] θ' μ' Q) : Ex d 296 1265 [vr 1, vr 2, vr 138, vi ((6 * t : Nat) : Int)] [] θ μ Q := by
  obtain ⟨T, U, σ, s, hC, hM, hB, hm, h1, hx⟩ := h
  have hc := hC.1.1.1
  have hmm := hM.1.1
  have hd0 : 0 < d := by omega
  have g1 := IV_1 h1
  have wb : 6 * t < 2147483000 := by omega
  have X1 : (zix θ .int 1 ((6 * t + 1 : Nat) : Int) = true) = True := zix_T g1 (by omega) (by omega)
  have X2 : (zix θ .int 1 ((6 * t + 2 : Nat) : Int) = true) = True := zix_T g1 (by omega) (by omega)
  simp only [x296_1265, x296_1266, x296_1267, x296_1268, x296_1269, x296_1270, x296_1271, x296_1272, x296_1273, x296_1274, x296_1275, x296_1276, ↓reduceIte, Bool.false_eq_true, Nat.reduceAdd, Nat.reduceLT, Nat.reduceLeDiff, Nat.reduceSub, Nat.reduceEqDiff, Int.reduceToNat, Int.reduceEq, Int.reduceLT, Int.reduceLE, Int.reduceAdd, Int.reduceSub, zg, zI, zJ, zR, zst, zkl, zn, zcat, zok, zraw, List.length_cons, List.length_nil, Option.toList, List.nil_append, List.cons_append, true_and, and_true, if_true, if_false, ne_eq, not_true, not_false_eq_true, and_self, true_or, or_true, false_or, or_false, false_and, and_false, b_2 hc, b_138 hmm, X1, wi1 wb, X2, wi2 wb, Int.toNat_natCast, hx, hd0]
  refine Ex_keep hB ?_
  refine kEver (d := d - 1) hC (by omega) (fun μ1 l1 C1 hB1 => ?_)
  have M1 : MS θ σ s μ1 := MS_CL hM (fun a ha => l1 a (Or.inr ha))
  have hx1 : ∀ j, μ1 1 j = xs j := fun j => by rw [l1 1 (Or.inl (by decide))]; exact hx j
  simp only [x296_1279, x296_1280, x296_1281, x296_1282, x296_1283, x296_1284, x296_1285, x296_1286, x296_1287, x296_1288, x296_1289, x296_1290, ↓reduceIte, Bool.false_eq_true, Nat.reduceAdd, Nat.reduceLT, Nat.reduceLeDiff, Nat.reduceSub, Nat.reduceEqDiff, Int.reduceToNat, Int.reduceEq, Int.reduceLT, Int.reduceLE, Int.reduceAdd, Int.reduceSub, zg, zI, zJ, zR, zst, zkl, zn, zcat, zok, zraw, List.length_cons, List.length_nil, Option.toList, List.nil_append, List.cons_append, true_and, and_true, if_true, if_false, ne_eq, not_true, not_false_eq_true, and_self, true_or, or_true, false_or, or_false, false_and, and_false, b_138 hmm, X1, wi1 wb, X2, wi2 wb, Int.toNat_natCast, hx1, hd0]
  refine Ex_keep hB1 ?_
  refine rEver (d := d - 1) M1 (by omega) (fun μ2 l2 M2 hB2 => ?_)
  simp only [x296_1293, x296_1296, x296_1297, ↓reduceIte, Bool.false_eq_true, Nat.reduceAdd, Nat.reduceLT, Nat.reduceLeDiff, Nat.reduceSub, Nat.reduceEqDiff, Int.reduceToNat, Int.reduceEq, Int.reduceLT, Int.reduceLE, Int.reduceAdd, Int.reduceSub, zg, zI, zJ, zR, zst, zkl, zn, zcat, zok, zraw, List.length_cons, List.length_nil, Option.toList, List.nil_append, List.cons_append, true_and, and_true, if_true, if_false, ne_eq, not_true, not_false_eq_true, and_self, true_or, or_true, false_or, or_false, false_and, and_false]
  exact K _ _ ⟨T, U, _, s, (CS_ML C1 l2), M2, hB2, (by omega), h1, (fun j => by rw [l2 1 (by decide)]; exact hx1 j)⟩
theorem c_nailing (hd : 40 ≤ d) (h : IV L xs t θ μ) (ht : 6 * t + 6 ≤ L) (hL : L ≤ 3077) (K : ∀ θ' μ', IV L xs (t + 1) θ' μ' → Ex d 296 1971 [vr 1, vr 2, vr 138, vi ((6 * t : Nat) : Int)] [] θ' μ' Q) : Ex d 296 1298 [vr 1, vr 2, vr 138, vi ((6 * t : Nat) : Int)] [] θ μ Q := by
  obtain ⟨T, U, σ, s, hC, hM, hB, hm, h1, hx⟩ := h
  have hc := hC.1.1.1
  have hmm := hM.1.1
  have hd0 : 0 < d := by omega
  have g1 := IV_1 h1
  have wb : 6 * t < 2147483000 := by omega
  have X1 : (zix θ .int 1 ((6 * t + 1 : Nat) : Int) = true) = True := zix_T g1 (by omega) (by omega)
  simp only [x296_1298, x296_1299, x296_1300, x296_1301, x296_1302, x296_1303, x296_1304, ↓reduceIte, Bool.false_eq_true, Nat.reduceAdd, Nat.reduceLT, Nat.reduceLeDiff, Nat.reduceSub, Nat.reduceEqDiff, Int.reduceToNat, Int.reduceEq, Int.reduceLT, Int.reduceLE, Int.reduceAdd, Int.reduceSub, zg, zI, zJ, zR, zst, zkl, zn, zcat, zok, zraw, List.length_cons, List.length_nil, Option.toList, List.nil_append, List.cons_append, true_and, and_true, if_true, if_false, ne_eq, not_true, not_false_eq_true, and_self, true_or, or_true, false_or, or_false, false_and, and_false, b_2 hc, b_138 hmm, X1, wi1 wb, Int.toNat_natCast, hx, hd0]
  refine Ex_keep hB ?_
  refine kNailing (d := d - 1) hC (by omega) (fun μ1 l1 C1 hB1 => ?_)
  have M1 : MS θ σ s μ1 := MS_CL hM (fun a ha => l1 a (Or.inr ha))
  have hx1 : ∀ j, μ1 1 j = xs j := fun j => by rw [l1 1 (Or.inl (by decide))]; exact hx j
  simp only [x296_1307, x296_1308, x296_1309, x296_1310, x296_1311, x296_1312, x296_1313, ↓reduceIte, Bool.false_eq_true, Nat.reduceAdd, Nat.reduceLT, Nat.reduceLeDiff, Nat.reduceSub, Nat.reduceEqDiff, Int.reduceToNat, Int.reduceEq, Int.reduceLT, Int.reduceLE, Int.reduceAdd, Int.reduceSub, zg, zI, zJ, zR, zst, zkl, zn, zcat, zok, zraw, List.length_cons, List.length_nil, Option.toList, List.nil_append, List.cons_append, true_and, and_true, if_true, if_false, ne_eq, not_true, not_false_eq_true, and_self, true_or, or_true, false_or, or_false, false_and, and_false, b_138 hmm, X1, wi1 wb, Int.toNat_natCast, hx1, hd0]
  refine Ex_keep hB1 ?_
  refine rNailing (d := d - 1) M1 (by omega) (fun μ2 l2 M2 hB2 => ?_)
  simp only [x296_1316, x296_1319, x296_1320, ↓reduceIte, Bool.false_eq_true, Nat.reduceAdd, Nat.reduceLT, Nat.reduceLeDiff, Nat.reduceSub, Nat.reduceEqDiff, Int.reduceToNat, Int.reduceEq, Int.reduceLT, Int.reduceLE, Int.reduceAdd, Int.reduceSub, zg, zI, zJ, zR, zst, zkl, zn, zcat, zok, zraw, List.length_cons, List.length_nil, Option.toList, List.nil_append, List.cons_append, true_and, and_true, if_true, if_false, ne_eq, not_true, not_false_eq_true, and_self, true_or, or_true, false_or, or_false, false_and, and_false]
  exact K _ _ ⟨T, U, _, s, (CS_ML C1 l2), M2, hB2, (by omega), h1, (fun j => by rw [l2 1 (by decide)]; exact hx1 j)⟩
theorem c_nailingAt (hd : 40 ≤ d) (h : IV L xs t θ μ) (ht : 6 * t + 6 ≤ L) (hL : L ≤ 3077) (K : ∀ θ' μ', IV L xs (t + 1) θ' μ' → Ex d 296 1971 [vr 1, vr 2, vr 138, vi ((6 * t : Nat) : Int)] [] θ' μ' Q) : Ex d 296 1321 [vr 1, vr 2, vr 138, vi ((6 * t : Nat) : Int)] [] θ μ Q := by
  obtain ⟨T, U, σ, s, hC, hM, hB, hm, h1, hx⟩ := h
  have hc := hC.1.1.1
  have hmm := hM.1.1
  have hd0 : 0 < d := by omega
  have g1 := IV_1 h1
  have wb : 6 * t < 2147483000 := by omega
  have X1 : (zix θ .int 1 ((6 * t + 1 : Nat) : Int) = true) = True := zix_T g1 (by omega) (by omega)
  have X2 : (zix θ .int 1 ((6 * t + 2 : Nat) : Int) = true) = True := zix_T g1 (by omega) (by omega)
  simp only [x296_1321, x296_1322, x296_1323, x296_1324, x296_1325, x296_1326, x296_1327, x296_1328, x296_1329, x296_1330, x296_1331, x296_1332, ↓reduceIte, Bool.false_eq_true, Nat.reduceAdd, Nat.reduceLT, Nat.reduceLeDiff, Nat.reduceSub, Nat.reduceEqDiff, Int.reduceToNat, Int.reduceEq, Int.reduceLT, Int.reduceLE, Int.reduceAdd, Int.reduceSub, zg, zI, zJ, zR, zst, zkl, zn, zcat, zok, zraw, List.length_cons, List.length_nil, Option.toList, List.nil_append, List.cons_append, true_and, and_true, if_true, if_false, ne_eq, not_true, not_false_eq_true, and_self, true_or, or_true, false_or, or_false, false_and, and_false, b_2 hc, b_138 hmm, X1, wi1 wb, X2, wi2 wb, Int.toNat_natCast, hx, hd0]
  refine Ex_keep hB ?_
  refine kNailingAt (d := d - 1) hC (by omega) (fun μ1 l1 C1 hB1 => ?_)
  have M1 : MS θ σ s μ1 := MS_CL hM (fun a ha => l1 a (Or.inr ha))
  have hx1 : ∀ j, μ1 1 j = xs j := fun j => by rw [l1 1 (Or.inl (by decide))]; exact hx j
  simp only [x296_1335, x296_1336, x296_1337, x296_1338, x296_1339, x296_1340, x296_1341, x296_1342, x296_1343, x296_1344, x296_1345, x296_1346, ↓reduceIte, Bool.false_eq_true, Nat.reduceAdd, Nat.reduceLT, Nat.reduceLeDiff, Nat.reduceSub, Nat.reduceEqDiff, Int.reduceToNat, Int.reduceEq, Int.reduceLT, Int.reduceLE, Int.reduceAdd, Int.reduceSub, zg, zI, zJ, zR, zst, zkl, zn, zcat, zok, zraw, List.length_cons, List.length_nil, Option.toList, List.nil_append, List.cons_append, true_and, and_true, if_true, if_false, ne_eq, not_true, not_false_eq_true, and_self, true_or, or_true, false_or, or_false, false_and, and_false, b_138 hmm, X1, wi1 wb, X2, wi2 wb, Int.toNat_natCast, hx1, hd0]
  refine Ex_keep hB1 ?_
  refine rNailingAt (d := d - 1) M1 (by omega) (fun μ2 l2 M2 hB2 => ?_)
  simp only [x296_1349, x296_1352, x296_1353, ↓reduceIte, Bool.false_eq_true, Nat.reduceAdd, Nat.reduceLT, Nat.reduceLeDiff, Nat.reduceSub, Nat.reduceEqDiff, Int.reduceToNat, Int.reduceEq, Int.reduceLT, Int.reduceLE, Int.reduceAdd, Int.reduceSub, zg, zI, zJ, zR, zst, zkl, zn, zcat, zok, zraw, List.length_cons, List.length_nil, Option.toList, List.nil_append, List.cons_append, true_and, and_true, if_true, if_false, ne_eq, not_true, not_false_eq_true, and_self, true_or, or_true, false_or, or_false, false_and, and_false]
  exact K _ _ ⟨T, U, _, s, (CS_ML C1 l2), M2, hB2, (by omega), h1, (fun j => by rw [l2 1 (by decide)]; exact hx1 j)⟩
theorem c_onebyone (hd : 40 ≤ d) (h : IV L xs t θ μ) (ht : 6 * t + 6 ≤ L) (hL : L ≤ 3077) (K : ∀ θ' μ', IV L xs (t + 1) θ' μ' → Ex d 296 1971 [vr 1, vr 2, vr 138, vi ((6 * t : Nat) : Int)] [] θ' μ' Q) : Ex d 296 1354 [vr 1, vr 2, vr 138, vi ((6 * t : Nat) : Int)] [] θ μ Q := by
  obtain ⟨T, U, σ, s, hC, hM, hB, hm, h1, hx⟩ := h
  have hc := hC.1.1.1
  have hmm := hM.1.1
  have hd0 : 0 < d := by omega
  have g1 := IV_1 h1
  have wb : 6 * t < 2147483000 := by omega
  have X1 : (zix θ .int 1 ((6 * t + 1 : Nat) : Int) = true) = True := zix_T g1 (by omega) (by omega)
  simp only [x296_1354, x296_1355, x296_1356, x296_1357, x296_1358, x296_1359, x296_1360, ↓reduceIte, Bool.false_eq_true, Nat.reduceAdd, Nat.reduceLT, Nat.reduceLeDiff, Nat.reduceSub, Nat.reduceEqDiff, Int.reduceToNat, Int.reduceEq, Int.reduceLT, Int.reduceLE, Int.reduceAdd, Int.reduceSub, zg, zI, zJ, zR, zst, zkl, zn, zcat, zok, zraw, List.length_cons, List.length_nil, Option.toList, List.nil_append, List.cons_append, true_and, and_true, if_true, if_false, ne_eq, not_true, not_false_eq_true, and_self, true_or, or_true, false_or, or_false, false_and, and_false, b_2 hc, b_138 hmm, X1, wi1 wb, Int.toNat_natCast, hx, hd0]
  refine Ex_keep hB ?_
  refine kOneByOne (d := d - 1) hC (by omega) (fun μ1 l1 C1 hB1 => ?_)
  have M1 : MS θ σ s μ1 := MS_CL hM (fun a ha => l1 a (Or.inr ha))
  have hx1 : ∀ j, μ1 1 j = xs j := fun j => by rw [l1 1 (Or.inl (by decide))]; exact hx j
  simp only [x296_1363, x296_1364, x296_1365, x296_1366, x296_1367, x296_1368, x296_1369, ↓reduceIte, Bool.false_eq_true, Nat.reduceAdd, Nat.reduceLT, Nat.reduceLeDiff, Nat.reduceSub, Nat.reduceEqDiff, Int.reduceToNat, Int.reduceEq, Int.reduceLT, Int.reduceLE, Int.reduceAdd, Int.reduceSub, zg, zI, zJ, zR, zst, zkl, zn, zcat, zok, zraw, List.length_cons, List.length_nil, Option.toList, List.nil_append, List.cons_append, true_and, and_true, if_true, if_false, ne_eq, not_true, not_false_eq_true, and_self, true_or, or_true, false_or, or_false, false_and, and_false, b_138 hmm, X1, wi1 wb, Int.toNat_natCast, hx1, hd0]
  refine Ex_keep hB1 ?_
  refine rOneByOne (d := d - 1) M1 (by omega) (fun μ2 l2 M2 hB2 => ?_)
  simp only [x296_1372, x296_1375, x296_1376, ↓reduceIte, Bool.false_eq_true, Nat.reduceAdd, Nat.reduceLT, Nat.reduceLeDiff, Nat.reduceSub, Nat.reduceEqDiff, Int.reduceToNat, Int.reduceEq, Int.reduceLT, Int.reduceLE, Int.reduceAdd, Int.reduceSub, zg, zI, zJ, zR, zst, zkl, zn, zcat, zok, zraw, List.length_cons, List.length_nil, Option.toList, List.nil_append, List.cons_append, true_and, and_true, if_true, if_false, ne_eq, not_true, not_false_eq_true, and_self, true_or, or_true, false_or, or_false, false_and, and_false]
  exact K _ _ ⟨T, U, _, s, (CS_ML C1 l2), M2, hB2, (by omega), h1, (fun j => by rw [l2 1 (by decide)]; exact hx1 j)⟩
theorem c_onebyoneAt (hd : 40 ≤ d) (h : IV L xs t θ μ) (ht : 6 * t + 6 ≤ L) (hL : L ≤ 3077) (K : ∀ θ' μ', IV L xs (t + 1) θ' μ' → Ex d 296 1971 [vr 1, vr 2, vr 138, vi ((6 * t : Nat) : Int)] [] θ' μ' Q) : Ex d 296 1377 [vr 1, vr 2, vr 138, vi ((6 * t : Nat) : Int)] [] θ μ Q := by
  obtain ⟨T, U, σ, s, hC, hM, hB, hm, h1, hx⟩ := h
  have hc := hC.1.1.1
  have hmm := hM.1.1
  have hd0 : 0 < d := by omega
  have g1 := IV_1 h1
  have wb : 6 * t < 2147483000 := by omega
  have X1 : (zix θ .int 1 ((6 * t + 1 : Nat) : Int) = true) = True := zix_T g1 (by omega) (by omega)
  have X2 : (zix θ .int 1 ((6 * t + 2 : Nat) : Int) = true) = True := zix_T g1 (by omega) (by omega)
  simp only [x296_1377, x296_1378, x296_1379, x296_1380, x296_1381, x296_1382, x296_1383, x296_1384, x296_1385, x296_1386, x296_1387, x296_1388, ↓reduceIte, Bool.false_eq_true, Nat.reduceAdd, Nat.reduceLT, Nat.reduceLeDiff, Nat.reduceSub, Nat.reduceEqDiff, Int.reduceToNat, Int.reduceEq, Int.reduceLT, Int.reduceLE, Int.reduceAdd, Int.reduceSub, zg, zI, zJ, zR, zst, zkl, zn, zcat, zok, zraw, List.length_cons, List.length_nil, Option.toList, List.nil_append, List.cons_append, true_and, and_true, if_true, if_false, ne_eq, not_true, not_false_eq_true, and_self, true_or, or_true, false_or, or_false, false_and, and_false, b_2 hc, b_138 hmm, X1, wi1 wb, X2, wi2 wb, Int.toNat_natCast, hx, hd0]
  refine Ex_keep hB ?_
  refine kOneByOneAt (d := d - 1) hC (by omega) (fun μ1 l1 C1 hB1 => ?_)
  have M1 : MS θ σ s μ1 := MS_CL hM (fun a ha => l1 a (Or.inr ha))
  have hx1 : ∀ j, μ1 1 j = xs j := fun j => by rw [l1 1 (Or.inl (by decide))]; exact hx j
  simp only [x296_1391, x296_1392, x296_1393, x296_1394, x296_1395, x296_1396, x296_1397, x296_1398, x296_1399, x296_1400, x296_1401, x296_1402, ↓reduceIte, Bool.false_eq_true, Nat.reduceAdd, Nat.reduceLT, Nat.reduceLeDiff, Nat.reduceSub, Nat.reduceEqDiff, Int.reduceToNat, Int.reduceEq, Int.reduceLT, Int.reduceLE, Int.reduceAdd, Int.reduceSub, zg, zI, zJ, zR, zst, zkl, zn, zcat, zok, zraw, List.length_cons, List.length_nil, Option.toList, List.nil_append, List.cons_append, true_and, and_true, if_true, if_false, ne_eq, not_true, not_false_eq_true, and_self, true_or, or_true, false_or, or_false, false_and, and_false, b_138 hmm, X1, wi1 wb, X2, wi2 wb, Int.toNat_natCast, hx1, hd0]
  refine Ex_keep hB1 ?_
  refine rOneByOneAt (d := d - 1) M1 (by omega) (fun μ2 l2 M2 hB2 => ?_)
  simp only [x296_1405, x296_1408, x296_1409, ↓reduceIte, Bool.false_eq_true, Nat.reduceAdd, Nat.reduceLT, Nat.reduceLeDiff, Nat.reduceSub, Nat.reduceEqDiff, Int.reduceToNat, Int.reduceEq, Int.reduceLT, Int.reduceLE, Int.reduceAdd, Int.reduceSub, zg, zI, zJ, zR, zst, zkl, zn, zcat, zok, zraw, List.length_cons, List.length_nil, Option.toList, List.nil_append, List.cons_append, true_and, and_true, if_true, if_false, ne_eq, not_true, not_false_eq_true, and_self, true_or, or_true, false_or, or_false, false_and, and_false]
  exact K _ _ ⟨T, U, _, s, (CS_ML C1 l2), M2, hB2, (by omega), h1, (fun j => by rw [l2 1 (by decide)]; exact hx1 j)⟩
theorem c_without (hd : 40 ≤ d) (h : IV L xs t θ μ) (ht : 6 * t + 6 ≤ L) (hL : L ≤ 3077) (K : ∀ θ' μ', IV L xs (t + 1) θ' μ' → Ex d 296 1971 [vr 1, vr 2, vr 138, vi ((6 * t : Nat) : Int)] [] θ' μ' Q) : Ex d 296 1410 [vr 1, vr 2, vr 138, vi ((6 * t : Nat) : Int)] [] θ μ Q := by
  obtain ⟨T, U, σ, s, hC, hM, hB, hm, h1, hx⟩ := h
  have hc := hC.1.1.1
  have hmm := hM.1.1
  have hd0 : 0 < d := by omega
  have g1 := IV_1 h1
  have wb : 6 * t < 2147483000 := by omega
  have X1 : (zix θ .int 1 ((6 * t + 1 : Nat) : Int) = true) = True := zix_T g1 (by omega) (by omega)
  simp only [x296_1410, x296_1411, x296_1412, x296_1413, x296_1414, x296_1415, x296_1416, ↓reduceIte, Bool.false_eq_true, Nat.reduceAdd, Nat.reduceLT, Nat.reduceLeDiff, Nat.reduceSub, Nat.reduceEqDiff, Int.reduceToNat, Int.reduceEq, Int.reduceLT, Int.reduceLE, Int.reduceAdd, Int.reduceSub, zg, zI, zJ, zR, zst, zkl, zn, zcat, zok, zraw, List.length_cons, List.length_nil, Option.toList, List.nil_append, List.cons_append, true_and, and_true, if_true, if_false, ne_eq, not_true, not_false_eq_true, and_self, true_or, or_true, false_or, or_false, false_and, and_false, b_2 hc, b_138 hmm, X1, wi1 wb, Int.toNat_natCast, hx, hd0]
  refine Ex_keep hB ?_
  refine kWithout (d := d - 1) hC (by omega) (fun μ1 l1 C1 hB1 => ?_)
  have M1 : MS θ σ s μ1 := MS_CL hM (fun a ha => l1 a (Or.inr ha))
  have hx1 : ∀ j, μ1 1 j = xs j := fun j => by rw [l1 1 (Or.inl (by decide))]; exact hx j
  simp only [x296_1419, x296_1420, x296_1421, x296_1422, x296_1423, x296_1424, x296_1425, ↓reduceIte, Bool.false_eq_true, Nat.reduceAdd, Nat.reduceLT, Nat.reduceLeDiff, Nat.reduceSub, Nat.reduceEqDiff, Int.reduceToNat, Int.reduceEq, Int.reduceLT, Int.reduceLE, Int.reduceAdd, Int.reduceSub, zg, zI, zJ, zR, zst, zkl, zn, zcat, zok, zraw, List.length_cons, List.length_nil, Option.toList, List.nil_append, List.cons_append, true_and, and_true, if_true, if_false, ne_eq, not_true, not_false_eq_true, and_self, true_or, or_true, false_or, or_false, false_and, and_false, b_138 hmm, X1, wi1 wb, Int.toNat_natCast, hx1, hd0]
  refine Ex_keep hB1 ?_
  refine rWithout (d := d - 1) M1 (by omega) (fun μ2 l2 M2 hB2 => ?_)
  simp only [x296_1428, x296_1431, x296_1432, ↓reduceIte, Bool.false_eq_true, Nat.reduceAdd, Nat.reduceLT, Nat.reduceLeDiff, Nat.reduceSub, Nat.reduceEqDiff, Int.reduceToNat, Int.reduceEq, Int.reduceLT, Int.reduceLE, Int.reduceAdd, Int.reduceSub, zg, zI, zJ, zR, zst, zkl, zn, zcat, zok, zraw, List.length_cons, List.length_nil, Option.toList, List.nil_append, List.cons_append, true_and, and_true, if_true, if_false, ne_eq, not_true, not_false_eq_true, and_self, true_or, or_true, false_or, or_false, false_and, and_false]
  exact K _ _ ⟨T, U, _, s, (CS_ML C1 l2), M2, hB2, (by omega), h1, (fun j => by rw [l2 1 (by decide)]; exact hx1 j)⟩
theorem c_neglect (hd : 40 ≤ d) (h : IV L xs t θ μ) (ht : 6 * t + 6 ≤ L) (hL : L ≤ 3077) (K : ∀ θ' μ', IV L xs (t + 1) θ' μ' → Ex d 296 1971 [vr 1, vr 2, vr 138, vi ((6 * t : Nat) : Int)] [] θ' μ' Q) : Ex d 296 1433 [vr 1, vr 2, vr 138, vi ((6 * t : Nat) : Int)] [] θ μ Q := by
  obtain ⟨T, U, σ, s, hC, hM, hB, hm, h1, hx⟩ := h
  have hc := hC.1.1.1
  have hmm := hM.1.1
  have hd0 : 0 < d := by omega
  have g1 := IV_1 h1
  have wb : 6 * t < 2147483000 := by omega
  have X1 : (zix θ .int 1 ((6 * t + 1 : Nat) : Int) = true) = True := zix_T g1 (by omega) (by omega)
  have X2 : (zix θ .int 1 ((6 * t + 2 : Nat) : Int) = true) = True := zix_T g1 (by omega) (by omega)
  simp only [x296_1433, x296_1434, x296_1435, x296_1436, x296_1437, x296_1438, x296_1439, x296_1440, x296_1441, x296_1442, x296_1443, x296_1444, ↓reduceIte, Bool.false_eq_true, Nat.reduceAdd, Nat.reduceLT, Nat.reduceLeDiff, Nat.reduceSub, Nat.reduceEqDiff, Int.reduceToNat, Int.reduceEq, Int.reduceLT, Int.reduceLE, Int.reduceAdd, Int.reduceSub, zg, zI, zJ, zR, zst, zkl, zn, zcat, zok, zraw, List.length_cons, List.length_nil, Option.toList, List.nil_append, List.cons_append, true_and, and_true, if_true, if_false, ne_eq, not_true, not_false_eq_true, and_self, true_or, or_true, false_or, or_false, false_and, and_false, b_2 hc, b_138 hmm, X1, wi1 wb, X2, wi2 wb, Int.toNat_natCast, hx, hd0]
  refine Ex_keep hB ?_
  refine kNeglect (d := d - 1) hC (by omega) (fun μ1 l1 C1 hB1 => ?_)
  have M1 : MS θ σ s μ1 := MS_CL hM (fun a ha => l1 a (Or.inr ha))
  have hx1 : ∀ j, μ1 1 j = xs j := fun j => by rw [l1 1 (Or.inl (by decide))]; exact hx j
  simp only [x296_1447, x296_1448, x296_1449, x296_1450, x296_1451, x296_1452, x296_1453, x296_1454, x296_1455, x296_1456, x296_1457, x296_1458, ↓reduceIte, Bool.false_eq_true, Nat.reduceAdd, Nat.reduceLT, Nat.reduceLeDiff, Nat.reduceSub, Nat.reduceEqDiff, Int.reduceToNat, Int.reduceEq, Int.reduceLT, Int.reduceLE, Int.reduceAdd, Int.reduceSub, zg, zI, zJ, zR, zst, zkl, zn, zcat, zok, zraw, List.length_cons, List.length_nil, Option.toList, List.nil_append, List.cons_append, true_and, and_true, if_true, if_false, ne_eq, not_true, not_false_eq_true, and_self, true_or, or_true, false_or, or_false, false_and, and_false, b_138 hmm, X1, wi1 wb, X2, wi2 wb, Int.toNat_natCast, hx1, hd0]
  refine Ex_keep hB1 ?_
  refine rNeglect (d := d - 1) M1 (by omega) (fun μ2 l2 M2 hB2 => ?_)
  simp only [x296_1461, x296_1464, x296_1465, ↓reduceIte, Bool.false_eq_true, Nat.reduceAdd, Nat.reduceLT, Nat.reduceLeDiff, Nat.reduceSub, Nat.reduceEqDiff, Int.reduceToNat, Int.reduceEq, Int.reduceLT, Int.reduceLE, Int.reduceAdd, Int.reduceSub, zg, zI, zJ, zR, zst, zkl, zn, zcat, zok, zraw, List.length_cons, List.length_nil, Option.toList, List.nil_append, List.cons_append, true_and, and_true, if_true, if_false, ne_eq, not_true, not_false_eq_true, and_self, true_or, or_true, false_or, or_false, false_and, and_false]
  exact K _ _ ⟨T, U, _, s, (CS_ML C1 l2), M2, hB2, (by omega), h1, (fun j => by rw [l2 1 (by decide)]; exact hx1 j)⟩
theorem c_night (hd : 40 ≤ d) (h : IV L xs t θ μ) (ht : 6 * t + 6 ≤ L) (hL : L ≤ 3077) (K : ∀ θ' μ', IV L xs (t + 1) θ' μ' → Ex d 296 1971 [vr 1, vr 2, vr 138, vi ((6 * t : Nat) : Int)] [] θ' μ' Q) : Ex d 296 1466 [vr 1, vr 2, vr 138, vi ((6 * t : Nat) : Int)] [] θ μ Q := by
  obtain ⟨T, U, σ, s, hC, hM, hB, hm, h1, hx⟩ := h
  have hc := hC.1.1.1
  have hmm := hM.1.1
  have hd0 : 0 < d := by omega
  have g1 := IV_1 h1
  have wb : 6 * t < 2147483000 := by omega
  have X1 : (zix θ .int 1 ((6 * t + 1 : Nat) : Int) = true) = True := zix_T g1 (by omega) (by omega)
  simp only [x296_1466, x296_1467, x296_1468, x296_1469, x296_1470, x296_1471, x296_1472, ↓reduceIte, Bool.false_eq_true, Nat.reduceAdd, Nat.reduceLT, Nat.reduceLeDiff, Nat.reduceSub, Nat.reduceEqDiff, Int.reduceToNat, Int.reduceEq, Int.reduceLT, Int.reduceLE, Int.reduceAdd, Int.reduceSub, zg, zI, zJ, zR, zst, zkl, zn, zcat, zok, zraw, List.length_cons, List.length_nil, Option.toList, List.nil_append, List.cons_append, true_and, and_true, if_true, if_false, ne_eq, not_true, not_false_eq_true, and_self, true_or, or_true, false_or, or_false, false_and, and_false, b_2 hc, b_138 hmm, X1, wi1 wb, Int.toNat_natCast, hx, hd0]
  refine Ex_keep hB ?_
  refine kNight (d := d - 1) hC (by omega) (fun μ1 l1 C1 hB1 => ?_)
  have M1 : MS θ σ s μ1 := MS_CL hM (fun a ha => l1 a (Or.inr ha))
  have hx1 : ∀ j, μ1 1 j = xs j := fun j => by rw [l1 1 (Or.inl (by decide))]; exact hx j
  simp only [x296_1475, x296_1476, x296_1477, x296_1478, x296_1479, x296_1480, x296_1481, ↓reduceIte, Bool.false_eq_true, Nat.reduceAdd, Nat.reduceLT, Nat.reduceLeDiff, Nat.reduceSub, Nat.reduceEqDiff, Int.reduceToNat, Int.reduceEq, Int.reduceLT, Int.reduceLE, Int.reduceAdd, Int.reduceSub, zg, zI, zJ, zR, zst, zkl, zn, zcat, zok, zraw, List.length_cons, List.length_nil, Option.toList, List.nil_append, List.cons_append, true_and, and_true, if_true, if_false, ne_eq, not_true, not_false_eq_true, and_self, true_or, or_true, false_or, or_false, false_and, and_false, b_138 hmm, X1, wi1 wb, Int.toNat_natCast, hx1, hd0]
  refine Ex_keep hB1 ?_
  refine rNight (d := d - 1) M1 (by omega) (fun μ2 l2 M2 hB2 => ?_)
  simp only [x296_1484, x296_1487, x296_1488, ↓reduceIte, Bool.false_eq_true, Nat.reduceAdd, Nat.reduceLT, Nat.reduceLeDiff, Nat.reduceSub, Nat.reduceEqDiff, Int.reduceToNat, Int.reduceEq, Int.reduceLT, Int.reduceLE, Int.reduceAdd, Int.reduceSub, zg, zI, zJ, zR, zst, zkl, zn, zcat, zok, zraw, List.length_cons, List.length_nil, Option.toList, List.nil_append, List.cons_append, true_and, and_true, if_true, if_false, ne_eq, not_true, not_false_eq_true, and_self, true_or, or_true, false_or, or_false, false_and, and_false]
  exact K _ _ ⟨T, U, _, s, (CS_ML C1 l2), M2, hB2, (by omega), h1, (fun j => by rw [l2 1 (by decide)]; exact hx1 j)⟩
theorem c_years (hd : 40 ≤ d) (h : IV L xs t θ μ) (ht : 6 * t + 6 ≤ L) (hL : L ≤ 3077) (K : ∀ θ' μ', IV L xs (t + 1) θ' μ' → Ex d 296 1971 [vr 1, vr 2, vr 138, vi ((6 * t : Nat) : Int)] [] θ' μ' Q) : Ex d 296 1489 [vr 1, vr 2, vr 138, vi ((6 * t : Nat) : Int)] [] θ μ Q := by
  obtain ⟨T, U, σ, s, hC, hM, hB, hm, h1, hx⟩ := h
  have hc := hC.1.1.1
  have hmm := hM.1.1
  have hd0 : 0 < d := by omega
  have g1 := IV_1 h1
  have wb : 6 * t < 2147483000 := by omega
  have X1 : (zix θ .int 1 ((6 * t + 1 : Nat) : Int) = true) = True := zix_T g1 (by omega) (by omega)
  have X2 : (zix θ .int 1 ((6 * t + 2 : Nat) : Int) = true) = True := zix_T g1 (by omega) (by omega)
  simp only [x296_1489, x296_1490, x296_1491, x296_1492, x296_1493, x296_1494, x296_1495, x296_1496, x296_1497, x296_1498, x296_1499, x296_1500, ↓reduceIte, Bool.false_eq_true, Nat.reduceAdd, Nat.reduceLT, Nat.reduceLeDiff, Nat.reduceSub, Nat.reduceEqDiff, Int.reduceToNat, Int.reduceEq, Int.reduceLT, Int.reduceLE, Int.reduceAdd, Int.reduceSub, zg, zI, zJ, zR, zst, zkl, zn, zcat, zok, zraw, List.length_cons, List.length_nil, Option.toList, List.nil_append, List.cons_append, true_and, and_true, if_true, if_false, ne_eq, not_true, not_false_eq_true, and_self, true_or, or_true, false_or, or_false, false_and, and_false, b_2 hc, b_138 hmm, X1, wi1 wb, X2, wi2 wb, Int.toNat_natCast, hx, hd0]
  refine Ex_keep hB ?_
  refine kYears (d := d - 1) hC (by omega) (fun μ1 l1 C1 hB1 => ?_)
  have M1 : MS θ σ s μ1 := MS_CL hM (fun a ha => l1 a (Or.inr ha))
  have hx1 : ∀ j, μ1 1 j = xs j := fun j => by rw [l1 1 (Or.inl (by decide))]; exact hx j
  simp only [x296_1503, x296_1504, x296_1505, x296_1506, x296_1507, x296_1508, x296_1509, x296_1510, x296_1511, x296_1512, x296_1513, x296_1514, ↓reduceIte, Bool.false_eq_true, Nat.reduceAdd, Nat.reduceLT, Nat.reduceLeDiff, Nat.reduceSub, Nat.reduceEqDiff, Int.reduceToNat, Int.reduceEq, Int.reduceLT, Int.reduceLE, Int.reduceAdd, Int.reduceSub, zg, zI, zJ, zR, zst, zkl, zn, zcat, zok, zraw, List.length_cons, List.length_nil, Option.toList, List.nil_append, List.cons_append, true_and, and_true, if_true, if_false, ne_eq, not_true, not_false_eq_true, and_self, true_or, or_true, false_or, or_false, false_and, and_false, b_138 hmm, X1, wi1 wb, X2, wi2 wb, Int.toNat_natCast, hx1, hd0]
  refine Ex_keep hB1 ?_
  refine rYears (d := d - 1) M1 (by omega) (fun μ2 l2 M2 hB2 => ?_)
  simp only [x296_1517, x296_1520, x296_1521, ↓reduceIte, Bool.false_eq_true, Nat.reduceAdd, Nat.reduceLT, Nat.reduceLeDiff, Nat.reduceSub, Nat.reduceEqDiff, Int.reduceToNat, Int.reduceEq, Int.reduceLT, Int.reduceLE, Int.reduceAdd, Int.reduceSub, zg, zI, zJ, zR, zst, zkl, zn, zcat, zok, zraw, List.length_cons, List.length_nil, Option.toList, List.nil_append, List.cons_append, true_and, and_true, if_true, if_false, ne_eq, not_true, not_false_eq_true, and_self, true_or, or_true, false_or, or_false, false_and, and_false]
  exact K _ _ ⟨T, U, _, s, (CS_ML C1 l2), M2, hB2, (by omega), h1, (fun j => by rw [l2 1 (by decide)]; exact hx1 j)⟩
theorem c_lasts (hd : 40 ≤ d) (h : IV L xs t θ μ) (ht : 6 * t + 6 ≤ L) (hL : L ≤ 3077) (K : ∀ θ' μ', IV L xs (t + 1) θ' μ' → Ex d 296 1971 [vr 1, vr 2, vr 138, vi ((6 * t : Nat) : Int)] [] θ' μ' Q) : Ex d 296 1522 [vr 1, vr 2, vr 138, vi ((6 * t : Nat) : Int)] [] θ μ Q := by
  obtain ⟨T, U, σ, s, hC, hM, hB, hm, h1, hx⟩ := h
  have hc := hC.1.1.1
  have hmm := hM.1.1
  have hd0 : 0 < d := by omega
  have g1 := IV_1 h1
  have wb : 6 * t < 2147483000 := by omega
  have X1 : (zix θ .int 1 ((6 * t + 1 : Nat) : Int) = true) = True := zix_T g1 (by omega) (by omega)
  simp only [x296_1522, x296_1523, x296_1524, x296_1525, x296_1526, x296_1527, x296_1528, ↓reduceIte, Bool.false_eq_true, Nat.reduceAdd, Nat.reduceLT, Nat.reduceLeDiff, Nat.reduceSub, Nat.reduceEqDiff, Int.reduceToNat, Int.reduceEq, Int.reduceLT, Int.reduceLE, Int.reduceAdd, Int.reduceSub, zg, zI, zJ, zR, zst, zkl, zn, zcat, zok, zraw, List.length_cons, List.length_nil, Option.toList, List.nil_append, List.cons_append, true_and, and_true, if_true, if_false, ne_eq, not_true, not_false_eq_true, and_self, true_or, or_true, false_or, or_false, false_and, and_false, b_2 hc, b_138 hmm, X1, wi1 wb, Int.toNat_natCast, hx, hd0]
  refine Ex_keep hB ?_
  refine kLasts (d := d - 1) hC (by omega) (fun μ1 l1 C1 hB1 => ?_)
  have M1 : MS θ σ s μ1 := MS_CL hM (fun a ha => l1 a (Or.inr ha))
  have hx1 : ∀ j, μ1 1 j = xs j := fun j => by rw [l1 1 (Or.inl (by decide))]; exact hx j
  simp only [x296_1531, x296_1532, x296_1533, x296_1534, x296_1535, x296_1536, x296_1537, ↓reduceIte, Bool.false_eq_true, Nat.reduceAdd, Nat.reduceLT, Nat.reduceLeDiff, Nat.reduceSub, Nat.reduceEqDiff, Int.reduceToNat, Int.reduceEq, Int.reduceLT, Int.reduceLE, Int.reduceAdd, Int.reduceSub, zg, zI, zJ, zR, zst, zkl, zn, zcat, zok, zraw, List.length_cons, List.length_nil, Option.toList, List.nil_append, List.cons_append, true_and, and_true, if_true, if_false, ne_eq, not_true, not_false_eq_true, and_self, true_or, or_true, false_or, or_false, false_and, and_false, b_138 hmm, X1, wi1 wb, Int.toNat_natCast, hx1, hd0]
  refine Ex_keep hB1 ?_
  refine rLasts (d := d - 1) M1 (by omega) (fun μ2 l2 M2 hB2 => ?_)
  simp only [x296_1540, x296_1543, x296_1544, ↓reduceIte, Bool.false_eq_true, Nat.reduceAdd, Nat.reduceLT, Nat.reduceLeDiff, Nat.reduceSub, Nat.reduceEqDiff, Int.reduceToNat, Int.reduceEq, Int.reduceLT, Int.reduceLE, Int.reduceAdd, Int.reduceSub, zg, zI, zJ, zR, zst, zkl, zn, zcat, zok, zraw, List.length_cons, List.length_nil, Option.toList, List.nil_append, List.cons_append, true_and, and_true, if_true, if_false, ne_eq, not_true, not_false_eq_true, and_self, true_or, or_true, false_or, or_false, false_and, and_false]
  exact K _ _ ⟨T, U, _, s, (CS_ML C1 l2), M2, hB2, (by omega), h1, (fun j => by rw [l2 1 (by decide)]; exact hx1 j)⟩
theorem c_odds (hd : 40 ≤ d) (h : IV L xs t θ μ) (ht : 6 * t + 6 ≤ L) (hL : L ≤ 3077) (K : ∀ θ' μ', IV L xs (t + 1) θ' μ' → Ex d 296 1971 [vr 1, vr 2, vr 138, vi ((6 * t : Nat) : Int)] [] θ' μ' Q) : Ex d 296 1545 [vr 1, vr 2, vr 138, vi ((6 * t : Nat) : Int)] [] θ μ Q := by
  obtain ⟨T, U, σ, s, hC, hM, hB, hm, h1, hx⟩ := h
  have hc := hC.1.1.1
  have hmm := hM.1.1
  have hd0 : 0 < d := by omega
  have g1 := IV_1 h1
  have wb : 6 * t < 2147483000 := by omega
  have X1 : (zix θ .int 1 ((6 * t + 1 : Nat) : Int) = true) = True := zix_T g1 (by omega) (by omega)
  have X2 : (zix θ .int 1 ((6 * t + 2 : Nat) : Int) = true) = True := zix_T g1 (by omega) (by omega)
  have X3 : (zix θ .int 1 ((6 * t + 3 : Nat) : Int) = true) = True := zix_T g1 (by omega) (by omega)
  have X4 : (zix θ .int 1 ((6 * t + 4 : Nat) : Int) = true) = True := zix_T g1 (by omega) (by omega)
  simp only [x296_1545, x296_1546, x296_1547, x296_1548, x296_1549, x296_1550, x296_1551, x296_1552, x296_1553, x296_1554, x296_1555, x296_1556, x296_1557, x296_1558, x296_1559, x296_1560, x296_1561, x296_1562, x296_1563, x296_1564, x296_1565, x296_1566, ↓reduceIte, Bool.false_eq_true, Nat.reduceAdd, Nat.reduceLT, Nat.reduceLeDiff, Nat.reduceSub, Nat.reduceEqDiff, Int.reduceToNat, Int.reduceEq, Int.reduceLT, Int.reduceLE, Int.reduceAdd, Int.reduceSub, zg, zI, zJ, zR, zst, zkl, zn, zcat, zok, zraw, List.length_cons, List.length_nil, Option.toList, List.nil_append, List.cons_append, true_and, and_true, if_true, if_false, ne_eq, not_true, not_false_eq_true, and_self, true_or, or_true, false_or, or_false, false_and, and_false, b_2 hc, b_138 hmm, X1, wi1 wb, X2, wi2 wb, X3, wi3 wb, X4, wi4 wb, Int.toNat_natCast, hx, hd0]
  refine Ex_keep hB ?_
  refine kOdds (d := d - 1) hC (by omega) (fun μ1 l1 C1 hB1 => ?_)
  have M1 : MS θ σ s μ1 := MS_CL hM (fun a ha => l1 a (Or.inr ha))
  have hx1 : ∀ j, μ1 1 j = xs j := fun j => by rw [l1 1 (Or.inl (by decide))]; exact hx j
  simp only [x296_1569, x296_1570, x296_1571, x296_1572, x296_1573, x296_1574, x296_1575, x296_1576, x296_1577, x296_1578, x296_1579, x296_1580, x296_1581, x296_1582, x296_1583, x296_1584, x296_1585, x296_1586, x296_1587, x296_1588, x296_1589, x296_1590, ↓reduceIte, Bool.false_eq_true, Nat.reduceAdd, Nat.reduceLT, Nat.reduceLeDiff, Nat.reduceSub, Nat.reduceEqDiff, Int.reduceToNat, Int.reduceEq, Int.reduceLT, Int.reduceLE, Int.reduceAdd, Int.reduceSub, zg, zI, zJ, zR, zst, zkl, zn, zcat, zok, zraw, List.length_cons, List.length_nil, Option.toList, List.nil_append, List.cons_append, true_and, and_true, if_true, if_false, ne_eq, not_true, not_false_eq_true, and_self, true_or, or_true, false_or, or_false, false_and, and_false, b_138 hmm, X1, wi1 wb, X2, wi2 wb, X3, wi3 wb, X4, wi4 wb, Int.toNat_natCast, hx1, hd0]
  refine Ex_keep hB1 ?_
  refine rOdds (d := d - 1) M1 (by omega) (fun μ2 l2 M2 hB2 => ?_)
  simp only [x296_1593, x296_1596, x296_1597, ↓reduceIte, Bool.false_eq_true, Nat.reduceAdd, Nat.reduceLT, Nat.reduceLeDiff, Nat.reduceSub, Nat.reduceEqDiff, Int.reduceToNat, Int.reduceEq, Int.reduceLT, Int.reduceLE, Int.reduceAdd, Int.reduceSub, zg, zI, zJ, zR, zst, zkl, zn, zcat, zok, zraw, List.length_cons, List.length_nil, Option.toList, List.nil_append, List.cons_append, true_and, and_true, if_true, if_false, ne_eq, not_true, not_false_eq_true, and_self, true_or, or_true, false_or, or_false, false_and, and_false]
  exact K _ _ ⟨T, U, _, s, (CS_ML C1 l2), M2, hB2, (by omega), h1, (fun j => by rw [l2 1 (by decide)]; exact hx1 j)⟩
theorem c_yardTells (hd : 40 ≤ d) (h : IV L xs t θ μ) (ht : 6 * t + 6 ≤ L) (hL : L ≤ 3077) (K : ∀ θ' μ', IV L xs (t + 1) θ' μ' → Ex d 296 1971 [vr 1, vr 2, vr 138, vi ((6 * t : Nat) : Int)] [] θ' μ' Q) : Ex d 296 1598 [vr 1, vr 2, vr 138, vi ((6 * t : Nat) : Int)] [] θ μ Q := by
  obtain ⟨T, U, σ, s, hC, hM, hB, hm, h1, hx⟩ := h
  have hc := hC.1.1.1
  have hmm := hM.1.1
  have hd0 : 0 < d := by omega
  have g1 := IV_1 h1
  have wb : 6 * t < 2147483000 := by omega
  have X1 : (zix θ .int 1 ((6 * t + 1 : Nat) : Int) = true) = True := zix_T g1 (by omega) (by omega)
  simp only [x296_1598, x296_1599, x296_1600, x296_1601, x296_1602, x296_1603, x296_1604, ↓reduceIte, Bool.false_eq_true, Nat.reduceAdd, Nat.reduceLT, Nat.reduceLeDiff, Nat.reduceSub, Nat.reduceEqDiff, Int.reduceToNat, Int.reduceEq, Int.reduceLT, Int.reduceLE, Int.reduceAdd, Int.reduceSub, zg, zI, zJ, zR, zst, zkl, zn, zcat, zok, zraw, List.length_cons, List.length_nil, Option.toList, List.nil_append, List.cons_append, true_and, and_true, if_true, if_false, ne_eq, not_true, not_false_eq_true, and_self, true_or, or_true, false_or, or_false, false_and, and_false, b_2 hc, b_138 hmm, X1, wi1 wb, Int.toNat_natCast, hx, hd0]
  refine Ex_keep hB ?_
  refine kTells (D := d - 1) hC (by omega) (fun μ1 l1 C1 hB1 => ?_)
  have M1 : MS θ σ s μ1 := MS_CL hM (fun a ha => l1 a (Or.inr ha))
  have hx1 : ∀ j, μ1 1 j = xs j := fun j => by rw [l1 1 (Or.inl (by decide))]; exact hx j
  simp only [x296_1607, x296_1608, x296_1609, x296_1610, x296_1611, x296_1612, x296_1613, ↓reduceIte, Bool.false_eq_true, Nat.reduceAdd, Nat.reduceLT, Nat.reduceLeDiff, Nat.reduceSub, Nat.reduceEqDiff, Int.reduceToNat, Int.reduceEq, Int.reduceLT, Int.reduceLE, Int.reduceAdd, Int.reduceSub, zg, zI, zJ, zR, zst, zkl, zn, zcat, zok, zraw, List.length_cons, List.length_nil, Option.toList, List.nil_append, List.cons_append, true_and, and_true, if_true, if_false, ne_eq, not_true, not_false_eq_true, and_self, true_or, or_true, false_or, or_false, false_and, and_false, b_138 hmm, X1, wi1 wb, Int.toNat_natCast, hx1, hd0]
  refine Ex_keep hB1 ?_
  refine rTells (D := d - 1) M1 (by omega) (fun μ2 l2 M2 hB2 => ?_)
  simp only [x296_1616, x296_1619, x296_1620, ↓reduceIte, Bool.false_eq_true, Nat.reduceAdd, Nat.reduceLT, Nat.reduceLeDiff, Nat.reduceSub, Nat.reduceEqDiff, Int.reduceToNat, Int.reduceEq, Int.reduceLT, Int.reduceLE, Int.reduceAdd, Int.reduceSub, zg, zI, zJ, zR, zst, zkl, zn, zcat, zok, zraw, List.length_cons, List.length_nil, Option.toList, List.nil_append, List.cons_append, true_and, and_true, if_true, if_false, ne_eq, not_true, not_false_eq_true, and_self, true_or, or_true, false_or, or_false, false_and, and_false]
  exact K _ _ ⟨T, U, _, s, (CS_ML C1 l2), M2, hB2, (by omega), h1, (fun j => by rw [l2 1 (by decide)]; exact hx1 j)⟩
theorem c_house (hd : 40 ≤ d) (h : IV L xs t θ μ) (ht : 6 * t + 6 ≤ L) (hL : L ≤ 3077) (K : ∀ θ' μ', IV L xs (t + 1) θ' μ' → Ex d 296 1971 [vr 1, vr 2, vr 138, vi ((6 * t : Nat) : Int)] [] θ' μ' Q) : Ex d 296 1621 [vr 1, vr 2, vr 138, vi ((6 * t : Nat) : Int)] [] θ μ Q := by
  obtain ⟨T, U, σ, s, hC, hM, hB, hm, h1, hx⟩ := h
  have hc := hC.1.1.1
  have hmm := hM.1.1
  have hd0 : 0 < d := by omega
  have g1 := IV_1 h1
  have wb : 6 * t < 2147483000 := by omega
  have X1 : (zix θ .int 1 ((6 * t + 1 : Nat) : Int) = true) = True := zix_T g1 (by omega) (by omega)
  have X2 : (zix θ .int 1 ((6 * t + 2 : Nat) : Int) = true) = True := zix_T g1 (by omega) (by omega)
  have X3 : (zix θ .int 1 ((6 * t + 3 : Nat) : Int) = true) = True := zix_T g1 (by omega) (by omega)
  have X4 : (zix θ .int 1 ((6 * t + 4 : Nat) : Int) = true) = True := zix_T g1 (by omega) (by omega)
  simp only [x296_1621, x296_1622, x296_1623, x296_1624, x296_1625, x296_1626, x296_1627, x296_1628, x296_1629, x296_1630, x296_1631, x296_1632, x296_1633, x296_1634, x296_1635, x296_1636, x296_1637, x296_1638, x296_1639, x296_1640, x296_1641, x296_1642, ↓reduceIte, Bool.false_eq_true, Nat.reduceAdd, Nat.reduceLT, Nat.reduceLeDiff, Nat.reduceSub, Nat.reduceEqDiff, Int.reduceToNat, Int.reduceEq, Int.reduceLT, Int.reduceLE, Int.reduceAdd, Int.reduceSub, zg, zI, zJ, zR, zst, zkl, zn, zcat, zok, zraw, List.length_cons, List.length_nil, Option.toList, List.nil_append, List.cons_append, true_and, and_true, if_true, if_false, ne_eq, not_true, not_false_eq_true, and_self, true_or, or_true, false_or, or_false, false_and, and_false, b_2 hc, b_138 hmm, X1, wi1 wb, X2, wi2 wb, X3, wi3 wb, X4, wi4 wb, Int.toNat_natCast, hx, hd0]
  refine Ex_keep hB ?_
  refine kHouse (D := d - 1) hC (by omega) (fun μ1 l1 C1 hB1 => ?_)
  have M1 : MS θ σ s μ1 := MS_CL hM (fun a ha => l1 a (Or.inr ha))
  have hx1 : ∀ j, μ1 1 j = xs j := fun j => by rw [l1 1 (Or.inl (by decide))]; exact hx j
  simp only [x296_1645, x296_1646, x296_1647, x296_1648, x296_1649, x296_1650, x296_1651, x296_1652, x296_1653, x296_1654, x296_1655, x296_1656, x296_1657, x296_1658, x296_1659, x296_1660, x296_1661, x296_1662, x296_1663, x296_1664, x296_1665, x296_1666, ↓reduceIte, Bool.false_eq_true, Nat.reduceAdd, Nat.reduceLT, Nat.reduceLeDiff, Nat.reduceSub, Nat.reduceEqDiff, Int.reduceToNat, Int.reduceEq, Int.reduceLT, Int.reduceLE, Int.reduceAdd, Int.reduceSub, zg, zI, zJ, zR, zst, zkl, zn, zcat, zok, zraw, List.length_cons, List.length_nil, Option.toList, List.nil_append, List.cons_append, true_and, and_true, if_true, if_false, ne_eq, not_true, not_false_eq_true, and_self, true_or, or_true, false_or, or_false, false_and, and_false, b_138 hmm, X1, wi1 wb, X2, wi2 wb, X3, wi3 wb, X4, wi4 wb, Int.toNat_natCast, hx1, hd0]
  refine Ex_keep hB1 ?_
  refine rHouse (D := d - 1) M1 (by omega) (fun μ2 l2 M2 hB2 => ?_)
  simp only [x296_1669, x296_1672, x296_1673, ↓reduceIte, Bool.false_eq_true, Nat.reduceAdd, Nat.reduceLT, Nat.reduceLeDiff, Nat.reduceSub, Nat.reduceEqDiff, Int.reduceToNat, Int.reduceEq, Int.reduceLT, Int.reduceLE, Int.reduceAdd, Int.reduceSub, zg, zI, zJ, zR, zst, zkl, zn, zcat, zok, zraw, List.length_cons, List.length_nil, Option.toList, List.nil_append, List.cons_append, true_and, and_true, if_true, if_false, ne_eq, not_true, not_false_eq_true, and_self, true_or, or_true, false_or, or_false, false_and, and_false]
  exact K _ _ ⟨T, U, _, s, (CS_ML C1 l2), M2, hB2, (sM_house (by omega)), h1, (fun j => by rw [l2 1 (by decide)]; exact hx1 j)⟩
theorem c_annul (hd : 40 ≤ d) (h : IV L xs t θ μ) (ht : 6 * t + 6 ≤ L) (hL : L ≤ 3077) (K : ∀ θ' μ', IV L xs (t + 1) θ' μ' → Ex d 296 1971 [vr 1, vr 2, vr 138, vi ((6 * t : Nat) : Int)] [] θ' μ' Q) : Ex d 296 1674 [vr 1, vr 2, vr 138, vi ((6 * t : Nat) : Int)] [] θ μ Q := by
  obtain ⟨T, U, σ, s, hC, hM, hB, hm, h1, hx⟩ := h
  have hc := hC.1.1.1
  have hmm := hM.1.1
  have hd0 : 0 < d := by omega
  have g1 := IV_1 h1
  have wb : 6 * t < 2147483000 := by omega
  have X1 : (zix θ .int 1 ((6 * t + 1 : Nat) : Int) = true) = True := zix_T g1 (by omega) (by omega)
  simp only [x296_1674, x296_1675, x296_1676, x296_1677, x296_1678, x296_1679, x296_1680, ↓reduceIte, Bool.false_eq_true, Nat.reduceAdd, Nat.reduceLT, Nat.reduceLeDiff, Nat.reduceSub, Nat.reduceEqDiff, Int.reduceToNat, Int.reduceEq, Int.reduceLT, Int.reduceLE, Int.reduceAdd, Int.reduceSub, zg, zI, zJ, zR, zst, zkl, zn, zcat, zok, zraw, List.length_cons, List.length_nil, Option.toList, List.nil_append, List.cons_append, true_and, and_true, if_true, if_false, ne_eq, not_true, not_false_eq_true, and_self, true_or, or_true, false_or, or_false, false_and, and_false, b_2 hc, b_138 hmm, X1, wi1 wb, Int.toNat_natCast, hx, hd0]
  refine Ex_keep hB ?_
  refine kAnnul (D := d - 1) hC (by omega) (fun μ1 l1 C1 hB1 => ?_)
  have M1 : MS θ σ s μ1 := MS_CL hM (fun a ha => l1 a (Or.inr ha))
  have hx1 : ∀ j, μ1 1 j = xs j := fun j => by rw [l1 1 (Or.inl (by decide))]; exact hx j
  simp only [x296_1683, x296_1684, x296_1685, x296_1686, x296_1687, x296_1688, x296_1689, ↓reduceIte, Bool.false_eq_true, Nat.reduceAdd, Nat.reduceLT, Nat.reduceLeDiff, Nat.reduceSub, Nat.reduceEqDiff, Int.reduceToNat, Int.reduceEq, Int.reduceLT, Int.reduceLE, Int.reduceAdd, Int.reduceSub, zg, zI, zJ, zR, zst, zkl, zn, zcat, zok, zraw, List.length_cons, List.length_nil, Option.toList, List.nil_append, List.cons_append, true_and, and_true, if_true, if_false, ne_eq, not_true, not_false_eq_true, and_self, true_or, or_true, false_or, or_false, false_and, and_false, b_138 hmm, X1, wi1 wb, Int.toNat_natCast, hx1, hd0]
  refine Ex_keep hB1 ?_
  refine rAnnul (D := d - 1) M1 (by omega) (fun μ2 l2 M2 hB2 => ?_)
  simp only [x296_1692, x296_1695, x296_1696, ↓reduceIte, Bool.false_eq_true, Nat.reduceAdd, Nat.reduceLT, Nat.reduceLeDiff, Nat.reduceSub, Nat.reduceEqDiff, Int.reduceToNat, Int.reduceEq, Int.reduceLT, Int.reduceLE, Int.reduceAdd, Int.reduceSub, zg, zI, zJ, zR, zst, zkl, zn, zcat, zok, zraw, List.length_cons, List.length_nil, Option.toList, List.nil_append, List.cons_append, true_and, and_true, if_true, if_false, ne_eq, not_true, not_false_eq_true, and_self, true_or, or_true, false_or, or_false, false_and, and_false]
  exact K _ _ ⟨T, U, _, s, (CS_ML C1 l2), M2, hB2, (sM_annul (by omega)), h1, (fun j => by rw [l2 1 (by decide)]; exact hx1 j)⟩
theorem c_warned (hd : 40 ≤ d) (h : IV L xs t θ μ) (ht : 6 * t + 6 ≤ L) (hL : L ≤ 3077) (K : ∀ θ' μ', IV L xs (t + 1) θ' μ' → Ex d 296 1971 [vr 1, vr 2, vr 138, vi ((6 * t : Nat) : Int)] [] θ' μ' Q) : Ex d 296 1697 [vr 1, vr 2, vr 138, vi ((6 * t : Nat) : Int)] [] θ μ Q := by
  obtain ⟨T, U, σ, s, hC, hM, hB, hm, h1, hx⟩ := h
  have hc := hC.1.1.1
  have hmm := hM.1.1
  have hd0 : 0 < d := by omega
  have g1 := IV_1 h1
  have wb : 6 * t < 2147483000 := by omega
  have X1 : (zix θ .int 1 ((6 * t + 1 : Nat) : Int) = true) = True := zix_T g1 (by omega) (by omega)
  have X2 : (zix θ .int 1 ((6 * t + 2 : Nat) : Int) = true) = True := zix_T g1 (by omega) (by omega)
  have X3 : (zix θ .int 1 ((6 * t + 3 : Nat) : Int) = true) = True := zix_T g1 (by omega) (by omega)
  simp only [x296_1697, x296_1698, x296_1699, x296_1700, x296_1701, x296_1702, x296_1703, x296_1704, x296_1705, x296_1706, x296_1707, x296_1708, x296_1709, x296_1710, x296_1711, x296_1712, x296_1713, ↓reduceIte, Bool.false_eq_true, Nat.reduceAdd, Nat.reduceLT, Nat.reduceLeDiff, Nat.reduceSub, Nat.reduceEqDiff, Int.reduceToNat, Int.reduceEq, Int.reduceLT, Int.reduceLE, Int.reduceAdd, Int.reduceSub, zg, zI, zJ, zR, zst, zkl, zn, zcat, zok, zraw, List.length_cons, List.length_nil, Option.toList, List.nil_append, List.cons_append, true_and, and_true, if_true, if_false, ne_eq, not_true, not_false_eq_true, and_self, true_or, or_true, false_or, or_false, false_and, and_false, b_2 hc, b_138 hmm, X1, wi1 wb, X2, wi2 wb, X3, wi3 wb, Int.toNat_natCast, hx, hd0]
  refine Ex_keep hB ?_
  refine kWarned (D := d - 1) hC (by omega) (fun μ1 l1 C1 hB1 => ?_)
  have M1 : MS θ σ s μ1 := MS_CL hM (fun a ha => l1 a (Or.inr ha))
  have hx1 : ∀ j, μ1 1 j = xs j := fun j => by rw [l1 1 (Or.inl (by decide))]; exact hx j
  simp only [x296_1716, x296_1717, x296_1718, x296_1719, x296_1720, x296_1721, x296_1722, x296_1723, x296_1724, x296_1725, x296_1726, x296_1727, x296_1728, x296_1729, x296_1730, x296_1731, x296_1732, ↓reduceIte, Bool.false_eq_true, Nat.reduceAdd, Nat.reduceLT, Nat.reduceLeDiff, Nat.reduceSub, Nat.reduceEqDiff, Int.reduceToNat, Int.reduceEq, Int.reduceLT, Int.reduceLE, Int.reduceAdd, Int.reduceSub, zg, zI, zJ, zR, zst, zkl, zn, zcat, zok, zraw, List.length_cons, List.length_nil, Option.toList, List.nil_append, List.cons_append, true_and, and_true, if_true, if_false, ne_eq, not_true, not_false_eq_true, and_self, true_or, or_true, false_or, or_false, false_and, and_false, b_138 hmm, X1, wi1 wb, X2, wi2 wb, X3, wi3 wb, Int.toNat_natCast, hx1, hd0]
  refine Ex_keep hB1 ?_
  refine rWarned (D := d - 1) M1 (by omega) (fun μ2 l2 M2 hB2 => ?_)
  simp only [x296_1735, x296_1738, x296_1739, ↓reduceIte, Bool.false_eq_true, Nat.reduceAdd, Nat.reduceLT, Nat.reduceLeDiff, Nat.reduceSub, Nat.reduceEqDiff, Int.reduceToNat, Int.reduceEq, Int.reduceLT, Int.reduceLE, Int.reduceAdd, Int.reduceSub, zg, zI, zJ, zR, zst, zkl, zn, zcat, zok, zraw, List.length_cons, List.length_nil, Option.toList, List.nil_append, List.cons_append, true_and, and_true, if_true, if_false, ne_eq, not_true, not_false_eq_true, and_self, true_or, or_true, false_or, or_false, false_and, and_false]
  exact K _ _ ⟨T, U, _, s, (CS_ML C1 l2), M2, hB2, (by omega), h1, (fun j => by rw [l2 1 (by decide)]; exact hx1 j)⟩
theorem c_village (hd : 40 ≤ d) (h : IV L xs t θ μ) (ht : 6 * t + 6 ≤ L) (hL : L ≤ 3077) (K : ∀ θ' μ', IV L xs (t + 1) θ' μ' → Ex d 296 1971 [vr 1, vr 2, vr 138, vi ((6 * t : Nat) : Int)] [] θ' μ' Q) : Ex d 296 1740 [vr 1, vr 2, vr 138, vi ((6 * t : Nat) : Int)] [] θ μ Q := by
  obtain ⟨T, U, σ, s, hC, hM, hB, hm, h1, hx⟩ := h
  have hc := hC.1.1.1
  have hmm := hM.1.1
  have hd0 : 0 < d := by omega
  have g1 := IV_1 h1
  have wb : 6 * t < 2147483000 := by omega
  have X1 : (zix θ .int 1 ((6 * t + 1 : Nat) : Int) = true) = True := zix_T g1 (by omega) (by omega)
  have X2 : (zix θ .int 1 ((6 * t + 2 : Nat) : Int) = true) = True := zix_T g1 (by omega) (by omega)
  have X3 : (zix θ .int 1 ((6 * t + 3 : Nat) : Int) = true) = True := zix_T g1 (by omega) (by omega)
  simp only [x296_1740, x296_1741, x296_1742, x296_1743, x296_1744, x296_1745, x296_1746, x296_1747, x296_1748, x296_1749, x296_1750, x296_1751, x296_1752, x296_1753, x296_1754, x296_1755, x296_1756, ↓reduceIte, Bool.false_eq_true, Nat.reduceAdd, Nat.reduceLT, Nat.reduceLeDiff, Nat.reduceSub, Nat.reduceEqDiff, Int.reduceToNat, Int.reduceEq, Int.reduceLT, Int.reduceLE, Int.reduceAdd, Int.reduceSub, zg, zI, zJ, zR, zst, zkl, zn, zcat, zok, zraw, List.length_cons, List.length_nil, Option.toList, List.nil_append, List.cons_append, true_and, and_true, if_true, if_false, ne_eq, not_true, not_false_eq_true, and_self, true_or, or_true, false_or, or_false, false_and, and_false, b_2 hc, b_138 hmm, X1, wi1 wb, X2, wi2 wb, X3, wi3 wb, Int.toNat_natCast, hx, hd0]
  refine Ex_keep hB ?_
  refine kVillage (D := d - 1) hC (by omega) (fun μ1 l1 C1 hB1 => ?_)
  have M1 : MS θ σ s μ1 := MS_CL hM (fun a ha => l1 a (Or.inr ha))
  have hx1 : ∀ j, μ1 1 j = xs j := fun j => by rw [l1 1 (Or.inl (by decide))]; exact hx j
  simp only [x296_1759, x296_1760, x296_1761, x296_1762, x296_1763, x296_1764, x296_1765, x296_1766, x296_1767, x296_1768, x296_1769, x296_1770, x296_1771, x296_1772, x296_1773, x296_1774, x296_1775, ↓reduceIte, Bool.false_eq_true, Nat.reduceAdd, Nat.reduceLT, Nat.reduceLeDiff, Nat.reduceSub, Nat.reduceEqDiff, Int.reduceToNat, Int.reduceEq, Int.reduceLT, Int.reduceLE, Int.reduceAdd, Int.reduceSub, zg, zI, zJ, zR, zst, zkl, zn, zcat, zok, zraw, List.length_cons, List.length_nil, Option.toList, List.nil_append, List.cons_append, true_and, and_true, if_true, if_false, ne_eq, not_true, not_false_eq_true, and_self, true_or, or_true, false_or, or_false, false_and, and_false, b_138 hmm, X1, wi1 wb, X2, wi2 wb, X3, wi3 wb, Int.toNat_natCast, hx1, hd0]
  refine Ex_keep hB1 ?_
  refine rVillage (D := d - 1) M1 (by omega) (fun μ2 l2 M2 hB2 => ?_)
  simp only [x296_1778, x296_1781, x296_1782, ↓reduceIte, Bool.false_eq_true, Nat.reduceAdd, Nat.reduceLT, Nat.reduceLeDiff, Nat.reduceSub, Nat.reduceEqDiff, Int.reduceToNat, Int.reduceEq, Int.reduceLT, Int.reduceLE, Int.reduceAdd, Int.reduceSub, zg, zI, zJ, zR, zst, zkl, zn, zcat, zok, zraw, List.length_cons, List.length_nil, Option.toList, List.nil_append, List.cons_append, true_and, and_true, if_true, if_false, ne_eq, not_true, not_false_eq_true, and_self, true_or, or_true, false_or, or_false, false_and, and_false]
  exact K _ _ ⟨T, U, _, s, (CS_ML C1 l2), M2, hB2, (by omega), h1, (fun j => by rw [l2 1 (by decide)]; exact hx1 j)⟩
theorem c_villageWays (hd : 40 ≤ d) (h : IV L xs t θ μ) (ht : 6 * t + 6 ≤ L) (hL : L ≤ 3077) (K : ∀ θ' μ', IV L xs (t + 1) θ' μ' → Ex d 296 1971 [vr 1, vr 2, vr 138, vi ((6 * t : Nat) : Int)] [] θ' μ' Q) : Ex d 296 1783 [vr 1, vr 2, vr 138, vi ((6 * t : Nat) : Int)] [] θ μ Q := by
  obtain ⟨T, U, σ, s, hC, hM, hB, hm, h1, hx⟩ := h
  have hc := hC.1.1.1
  have hmm := hM.1.1
  have hd0 : 0 < d := by omega
  have g1 := IV_1 h1
  have wb : 6 * t < 2147483000 := by omega
  have X1 : (zix θ .int 1 ((6 * t + 1 : Nat) : Int) = true) = True := zix_T g1 (by omega) (by omega)
  have X2 : (zix θ .int 1 ((6 * t + 2 : Nat) : Int) = true) = True := zix_T g1 (by omega) (by omega)
  have X3 : (zix θ .int 1 ((6 * t + 3 : Nat) : Int) = true) = True := zix_T g1 (by omega) (by omega)
  by_cases e : xs (6 * t + 3) = 0
  · simp only [x296_1783, x296_1784, x296_1785, x296_1786, x296_1787, x296_1788, x296_1789, x296_1790, x296_1791, x296_1792, x296_1793, x296_1794, x296_1795, x296_1796, x296_1797, x296_1798, x296_1799, x296_1802, x296_1803, x296_1806, x296_1807, ↓reduceIte, Bool.false_eq_true, Nat.reduceAdd, Nat.reduceLT, Nat.reduceLeDiff, Nat.reduceSub, Nat.reduceEqDiff, Int.reduceToNat, Int.reduceEq, Int.reduceLT, Int.reduceLE, Int.reduceAdd, Int.reduceSub, zg, zI, zJ, zR, zst, zkl, zn, zcat, zok, zraw, List.length_cons, List.length_nil, Option.toList, List.nil_append, List.cons_append, true_and, and_true, if_true, if_false, ne_eq, not_true, not_false_eq_true, and_self, true_or, or_true, false_or, or_false, false_and, and_false, b_2 hc, b_138 hmm, X1, wi1 wb, X2, wi2 wb, X3, wi3 wb, Int.toNat_natCast, hx, e, hd0]
    refine Ex_keep hB ?_
    refine kWays (D := d - 1) hC (by omega) (Or.inl rfl) (fun μ1 l1 C1 hB1 => ?_)
    have M1 : MS θ σ s μ1 := MS_CL hM (fun a ha => l1 a (Or.inr ha))
    have hx1 : ∀ j, μ1 1 j = xs j := fun j => by rw [l1 1 (Or.inl (by decide))]; exact hx j
    simp only [x296_1810, x296_1811, x296_1812, x296_1813, x296_1814, x296_1815, x296_1816, x296_1817, x296_1818, x296_1819, x296_1820, x296_1821, x296_1822, x296_1823, x296_1824, x296_1825, x296_1826, x296_1829, x296_1830, x296_1833, x296_1834, ↓reduceIte, Bool.false_eq_true, Nat.reduceAdd, Nat.reduceLT, Nat.reduceLeDiff, Nat.reduceSub, Nat.reduceEqDiff, Int.reduceToNat, Int.reduceEq, Int.reduceLT, Int.reduceLE, Int.reduceAdd, Int.reduceSub, zg, zI, zJ, zR, zst, zkl, zn, zcat, zok, zraw, List.length_cons, List.length_nil, Option.toList, List.nil_append, List.cons_append, true_and, and_true, if_true, if_false, ne_eq, not_true, not_false_eq_true, and_self, true_or, or_true, false_or, or_false, false_and, and_false, b_138 hmm, X1, wi1 wb, X2, wi2 wb, X3, wi3 wb, Int.toNat_natCast, hx1, e, hd0]
    refine Ex_keep hB1 ?_
    refine rWays (D := d - 1) M1 (by omega) (Or.inl rfl) (fun μ2 l2 M2 hB2 => ?_)
    simp only [x296_1837, x296_1838, x296_1841, x296_1842, ↓reduceIte, Bool.false_eq_true, Nat.reduceAdd, Nat.reduceLT, Nat.reduceLeDiff, Nat.reduceSub, Nat.reduceEqDiff, Int.reduceToNat, Int.reduceEq, Int.reduceLT, Int.reduceLE, Int.reduceAdd, Int.reduceSub, zg, zI, zJ, zR, zst, zkl, zn, zcat, zok, zraw, List.length_cons, List.length_nil, Option.toList, List.nil_append, List.cons_append, true_and, and_true, if_true, if_false, ne_eq, not_true, not_false_eq_true, and_self, true_or, or_true, false_or, or_false, false_and, and_false, zlc_s]
    exact K _ _ ⟨T, U, _, s, (CS_ML C1 l2), M2, hB2, (by omega), h1, (fun j => by rw [l2 1 (by decide)]; exact hx1 j)⟩
  · simp only [x296_1783, x296_1784, x296_1785, x296_1786, x296_1787, x296_1788, x296_1789, x296_1790, x296_1791, x296_1792, x296_1793, x296_1794, x296_1795, x296_1796, x296_1797, x296_1798, x296_1799, x296_1802, x296_1803, x296_1806, x296_1807, ↓reduceIte, Bool.false_eq_true, Nat.reduceAdd, Nat.reduceLT, Nat.reduceLeDiff, Nat.reduceSub, Nat.reduceEqDiff, Int.reduceToNat, Int.reduceEq, Int.reduceLT, Int.reduceLE, Int.reduceAdd, Int.reduceSub, zg, zI, zJ, zR, zst, zkl, zn, zcat, zok, zraw, List.length_cons, List.length_nil, Option.toList, List.nil_append, List.cons_append, true_and, and_true, if_true, if_false, ne_eq, not_true, not_false_eq_true, and_self, true_or, or_true, false_or, or_false, false_and, and_false, b_2 hc, b_138 hmm, X1, wi1 wb, X2, wi2 wb, X3, wi3 wb, Int.toNat_natCast, hx, e, hd0]
    refine Ex_keep hB ?_
    refine kWays (D := d - 1) hC (by omega) (Or.inr rfl) (fun μ1 l1 C1 hB1 => ?_)
    have M1 : MS θ σ s μ1 := MS_CL hM (fun a ha => l1 a (Or.inr ha))
    have hx1 : ∀ j, μ1 1 j = xs j := fun j => by rw [l1 1 (Or.inl (by decide))]; exact hx j
    simp only [x296_1810, x296_1811, x296_1812, x296_1813, x296_1814, x296_1815, x296_1816, x296_1817, x296_1818, x296_1819, x296_1820, x296_1821, x296_1822, x296_1823, x296_1824, x296_1825, x296_1826, x296_1829, x296_1830, x296_1833, x296_1834, ↓reduceIte, Bool.false_eq_true, Nat.reduceAdd, Nat.reduceLT, Nat.reduceLeDiff, Nat.reduceSub, Nat.reduceEqDiff, Int.reduceToNat, Int.reduceEq, Int.reduceLT, Int.reduceLE, Int.reduceAdd, Int.reduceSub, zg, zI, zJ, zR, zst, zkl, zn, zcat, zok, zraw, List.length_cons, List.length_nil, Option.toList, List.nil_append, List.cons_append, true_and, and_true, if_true, if_false, ne_eq, not_true, not_false_eq_true, and_self, true_or, or_true, false_or, or_false, false_and, and_false, b_138 hmm, X1, wi1 wb, X2, wi2 wb, X3, wi3 wb, Int.toNat_natCast, hx1, e, hd0]
    refine Ex_keep hB1 ?_
    refine rWays (D := d - 1) M1 (by omega) (Or.inr rfl) (fun μ2 l2 M2 hB2 => ?_)
    simp only [x296_1837, x296_1838, x296_1841, x296_1842, ↓reduceIte, Bool.false_eq_true, Nat.reduceAdd, Nat.reduceLT, Nat.reduceLeDiff, Nat.reduceSub, Nat.reduceEqDiff, Int.reduceToNat, Int.reduceEq, Int.reduceLT, Int.reduceLE, Int.reduceAdd, Int.reduceSub, zg, zI, zJ, zR, zst, zkl, zn, zcat, zok, zraw, List.length_cons, List.length_nil, Option.toList, List.nil_append, List.cons_append, true_and, and_true, if_true, if_false, ne_eq, not_true, not_false_eq_true, and_self, true_or, or_true, false_or, or_false, false_and, and_false, zlc_s]
    exact K _ _ ⟨T, U, _, s, (CS_ML C1 l2), M2, hB2, (by omega), h1, (fun j => by rw [l2 1 (by decide)]; exact hx1 j)⟩
theorem c_line (hd : 40 ≤ d) (h : IV L xs t θ μ) (ht : 6 * t + 6 ≤ L) (hL : L ≤ 3077) (K : ∀ θ' μ', IV L xs (t + 1) θ' μ' → Ex d 296 1971 [vr 1, vr 2, vr 138, vi ((6 * t : Nat) : Int)] [] θ' μ' Q) : Ex d 296 1843 [vr 1, vr 2, vr 138, vi ((6 * t : Nat) : Int)] [] θ μ Q := by
  obtain ⟨T, U, σ, s, hC, hM, hB, hm, h1, hx⟩ := h
  have hc := hC.1.1.1
  have hmm := hM.1.1
  have hd0 : 0 < d := by omega
  have g1 := IV_1 h1
  have wb : 6 * t < 2147483000 := by omega
  have X1 : (zix θ .int 1 ((6 * t + 1 : Nat) : Int) = true) = True := zix_T g1 (by omega) (by omega)
  have X2 : (zix θ .int 1 ((6 * t + 2 : Nat) : Int) = true) = True := zix_T g1 (by omega) (by omega)
  have X3 : (zix θ .int 1 ((6 * t + 3 : Nat) : Int) = true) = True := zix_T g1 (by omega) (by omega)
  by_cases e : xs (6 * t + 3) = 0
  · simp only [x296_1843, x296_1844, x296_1845, x296_1846, x296_1847, x296_1848, x296_1849, x296_1850, x296_1851, x296_1852, x296_1853, x296_1854, x296_1855, x296_1856, x296_1857, x296_1858, x296_1859, x296_1862, x296_1863, x296_1866, x296_1867, ↓reduceIte, Bool.false_eq_true, Nat.reduceAdd, Nat.reduceLT, Nat.reduceLeDiff, Nat.reduceSub, Nat.reduceEqDiff, Int.reduceToNat, Int.reduceEq, Int.reduceLT, Int.reduceLE, Int.reduceAdd, Int.reduceSub, zg, zI, zJ, zR, zst, zkl, zn, zcat, zok, zraw, List.length_cons, List.length_nil, Option.toList, List.nil_append, List.cons_append, true_and, and_true, if_true, if_false, ne_eq, not_true, not_false_eq_true, and_self, true_or, or_true, false_or, or_false, false_and, and_false, b_2 hc, b_138 hmm, X1, wi1 wb, X2, wi2 wb, X3, wi3 wb, Int.toNat_natCast, hx, e, hd0]
    refine Ex_keep hB ?_
    refine kLine (D := d - 1) hC (by omega) (Or.inl rfl) (fun μ1 l1 C1 hB1 => ?_)
    have M1 : MS θ σ s μ1 := MS_CL hM (fun a ha => l1 a (Or.inr ha))
    have hx1 : ∀ j, μ1 1 j = xs j := fun j => by rw [l1 1 (Or.inl (by decide))]; exact hx j
    simp only [x296_1870, x296_1871, x296_1872, x296_1873, x296_1874, x296_1875, x296_1876, x296_1877, x296_1878, x296_1879, x296_1880, x296_1881, x296_1882, x296_1883, x296_1884, x296_1885, x296_1886, x296_1889, x296_1890, x296_1893, x296_1894, ↓reduceIte, Bool.false_eq_true, Nat.reduceAdd, Nat.reduceLT, Nat.reduceLeDiff, Nat.reduceSub, Nat.reduceEqDiff, Int.reduceToNat, Int.reduceEq, Int.reduceLT, Int.reduceLE, Int.reduceAdd, Int.reduceSub, zg, zI, zJ, zR, zst, zkl, zn, zcat, zok, zraw, List.length_cons, List.length_nil, Option.toList, List.nil_append, List.cons_append, true_and, and_true, if_true, if_false, ne_eq, not_true, not_false_eq_true, and_self, true_or, or_true, false_or, or_false, false_and, and_false, b_138 hmm, X1, wi1 wb, X2, wi2 wb, X3, wi3 wb, Int.toNat_natCast, hx1, e, hd0]
    refine Ex_keep hB1 ?_
    refine rLine (D := d - 1) M1 (by omega) (Or.inl rfl) (fun μ2 l2 M2 hB2 => ?_)
    simp only [x296_1897, x296_1900, x296_1901, ↓reduceIte, Bool.false_eq_true, Nat.reduceAdd, Nat.reduceLT, Nat.reduceLeDiff, Nat.reduceSub, Nat.reduceEqDiff, Int.reduceToNat, Int.reduceEq, Int.reduceLT, Int.reduceLE, Int.reduceAdd, Int.reduceSub, zg, zI, zJ, zR, zst, zkl, zn, zcat, zok, zraw, List.length_cons, List.length_nil, Option.toList, List.nil_append, List.cons_append, true_and, and_true, if_true, if_false, ne_eq, not_true, not_false_eq_true, and_self, true_or, or_true, false_or, or_false, false_and, and_false]
    exact K _ _ ⟨T, U, _, s, (CS_ML C1 l2), M2, hB2, (by omega), h1, (fun j => by rw [l2 1 (by decide)]; exact hx1 j)⟩
  · simp only [x296_1843, x296_1844, x296_1845, x296_1846, x296_1847, x296_1848, x296_1849, x296_1850, x296_1851, x296_1852, x296_1853, x296_1854, x296_1855, x296_1856, x296_1857, x296_1858, x296_1859, x296_1862, x296_1863, x296_1866, x296_1867, ↓reduceIte, Bool.false_eq_true, Nat.reduceAdd, Nat.reduceLT, Nat.reduceLeDiff, Nat.reduceSub, Nat.reduceEqDiff, Int.reduceToNat, Int.reduceEq, Int.reduceLT, Int.reduceLE, Int.reduceAdd, Int.reduceSub, zg, zI, zJ, zR, zst, zkl, zn, zcat, zok, zraw, List.length_cons, List.length_nil, Option.toList, List.nil_append, List.cons_append, true_and, and_true, if_true, if_false, ne_eq, not_true, not_false_eq_true, and_self, true_or, or_true, false_or, or_false, false_and, and_false, b_2 hc, b_138 hmm, X1, wi1 wb, X2, wi2 wb, X3, wi3 wb, Int.toNat_natCast, hx, e, hd0]
    refine Ex_keep hB ?_
    refine kLine (D := d - 1) hC (by omega) (Or.inr rfl) (fun μ1 l1 C1 hB1 => ?_)
    have M1 : MS θ σ s μ1 := MS_CL hM (fun a ha => l1 a (Or.inr ha))
    have hx1 : ∀ j, μ1 1 j = xs j := fun j => by rw [l1 1 (Or.inl (by decide))]; exact hx j
    simp only [x296_1870, x296_1871, x296_1872, x296_1873, x296_1874, x296_1875, x296_1876, x296_1877, x296_1878, x296_1879, x296_1880, x296_1881, x296_1882, x296_1883, x296_1884, x296_1885, x296_1886, x296_1889, x296_1890, x296_1893, x296_1894, ↓reduceIte, Bool.false_eq_true, Nat.reduceAdd, Nat.reduceLT, Nat.reduceLeDiff, Nat.reduceSub, Nat.reduceEqDiff, Int.reduceToNat, Int.reduceEq, Int.reduceLT, Int.reduceLE, Int.reduceAdd, Int.reduceSub, zg, zI, zJ, zR, zst, zkl, zn, zcat, zok, zraw, List.length_cons, List.length_nil, Option.toList, List.nil_append, List.cons_append, true_and, and_true, if_true, if_false, ne_eq, not_true, not_false_eq_true, and_self, true_or, or_true, false_or, or_false, false_and, and_false, b_138 hmm, X1, wi1 wb, X2, wi2 wb, X3, wi3 wb, Int.toNat_natCast, hx1, e, hd0]
    refine Ex_keep hB1 ?_
    refine rLine (D := d - 1) M1 (by omega) (Or.inr rfl) (fun μ2 l2 M2 hB2 => ?_)
    simp only [x296_1897, x296_1900, x296_1901, ↓reduceIte, Bool.false_eq_true, Nat.reduceAdd, Nat.reduceLT, Nat.reduceLeDiff, Nat.reduceSub, Nat.reduceEqDiff, Int.reduceToNat, Int.reduceEq, Int.reduceLT, Int.reduceLE, Int.reduceAdd, Int.reduceSub, zg, zI, zJ, zR, zst, zkl, zn, zcat, zok, zraw, List.length_cons, List.length_nil, Option.toList, List.nil_append, List.cons_append, true_and, and_true, if_true, if_false, ne_eq, not_true, not_false_eq_true, and_self, true_or, or_true, false_or, or_false, false_and, and_false]
    exact K _ _ ⟨T, U, _, s, (CS_ML C1 l2), M2, hB2, (by omega), h1, (fun j => by rw [l2 1 (by decide)]; exact hx1 j)⟩
theorem c_hold (hd : 40 ≤ d) (h : IV L xs t θ μ) (ht : 6 * t + 6 ≤ L) (hL : L ≤ 3077) (K : ∀ θ' μ', IV L xs (t + 1) θ' μ' → Ex d 296 1971 [vr 1, vr 2, vr 138, vi ((6 * t : Nat) : Int)] [] θ' μ' Q) : Ex d 296 1902 [vr 1, vr 2, vr 138, vi ((6 * t : Nat) : Int)] [] θ μ Q := by
  obtain ⟨T, U, σ, s, hC, hM, hB, hm, h1, hx⟩ := h
  have hc := hC.1.1.1
  have hmm := hM.1.1
  have hd0 : 0 < d := by omega
  have g1 := IV_1 h1
  have wb : 6 * t < 2147483000 := by omega
  have X1 : (zix θ .int 1 ((6 * t + 1 : Nat) : Int) = true) = True := zix_T g1 (by omega) (by omega)
  simp only [x296_1902, x296_1903, x296_1904, x296_1905, x296_1906, x296_1907, x296_1908, ↓reduceIte, Bool.false_eq_true, Nat.reduceAdd, Nat.reduceLT, Nat.reduceLeDiff, Nat.reduceSub, Nat.reduceEqDiff, Int.reduceToNat, Int.reduceEq, Int.reduceLT, Int.reduceLE, Int.reduceAdd, Int.reduceSub, zg, zI, zJ, zR, zst, zkl, zn, zcat, zok, zraw, List.length_cons, List.length_nil, Option.toList, List.nil_append, List.cons_append, true_and, and_true, if_true, if_false, ne_eq, not_true, not_false_eq_true, and_self, true_or, or_true, false_or, or_false, false_and, and_false, b_2 hc, b_138 hmm, X1, wi1 wb, Int.toNat_natCast, hx, hd0]
  refine Ex_keep hB ?_
  refine kHold (D := d - 1) hC (by omega) (fun μ1 l1 C1 hB1 => ?_)
  have M1 : MS θ σ s μ1 := MS_CL hM (fun a ha => l1 a (Or.inr ha))
  have hx1 : ∀ j, μ1 1 j = xs j := fun j => by rw [l1 1 (Or.inl (by decide))]; exact hx j
  simp only [x296_1911, x296_1912, x296_1913, x296_1914, x296_1915, x296_1916, x296_1917, ↓reduceIte, Bool.false_eq_true, Nat.reduceAdd, Nat.reduceLT, Nat.reduceLeDiff, Nat.reduceSub, Nat.reduceEqDiff, Int.reduceToNat, Int.reduceEq, Int.reduceLT, Int.reduceLE, Int.reduceAdd, Int.reduceSub, zg, zI, zJ, zR, zst, zkl, zn, zcat, zok, zraw, List.length_cons, List.length_nil, Option.toList, List.nil_append, List.cons_append, true_and, and_true, if_true, if_false, ne_eq, not_true, not_false_eq_true, and_self, true_or, or_true, false_or, or_false, false_and, and_false, b_138 hmm, X1, wi1 wb, Int.toNat_natCast, hx1, hd0]
  refine Ex_keep hB1 ?_
  refine rHold (D := d - 1) M1 hB1 (by omega) (fun μ2 l2 M2 hB2 => ?_)
  simp only [x296_1920, x296_1923, x296_1924, ↓reduceIte, Bool.false_eq_true, Nat.reduceAdd, Nat.reduceLT, Nat.reduceLeDiff, Nat.reduceSub, Nat.reduceEqDiff, Int.reduceToNat, Int.reduceEq, Int.reduceLT, Int.reduceLE, Int.reduceAdd, Int.reduceSub, zg, zI, zJ, zR, zst, zkl, zn, zcat, zok, zraw, List.length_cons, List.length_nil, Option.toList, List.nil_append, List.cons_append, true_and, and_true, if_true, if_false, ne_eq, not_true, not_false_eq_true, and_self, true_or, or_true, false_or, or_false, false_and, and_false]
  exact K _ _ ⟨T, U, _, s, (CS_ML C1 l2), M2, hB2, (sM_hold (by omega)), h1, (fun j => by rw [l2 1 (by decide)]; exact hx1 j)⟩
theorem c_restore (hd : 40 ≤ d) (h : IV L xs t θ μ) (ht : 6 * t + 6 ≤ L) (hL : L ≤ 3077) (K : ∀ θ' μ', IV L xs (t + 1) θ' μ' → Ex d 296 1971 [vr 1, vr 2, vr 138, vi ((6 * t : Nat) : Int)] [] θ' μ' Q) : Ex d 296 1925 [vr 1, vr 2, vr 138, vi ((6 * t : Nat) : Int)] [] θ μ Q := by
  obtain ⟨T, U, σ, s, hC, hM, hB, hm, h1, hx⟩ := h
  have hc := hC.1.1.1
  have hmm := hM.1.1
  have hd0 : 0 < d := by omega
  have g1 := IV_1 h1
  have wb : 6 * t < 2147483000 := by omega
  have X1 : (zix θ .int 1 ((6 * t + 1 : Nat) : Int) = true) = True := zix_T g1 (by omega) (by omega)
  simp only [x296_1925, x296_1926, x296_1927, x296_1928, x296_1929, x296_1930, x296_1931, ↓reduceIte, Bool.false_eq_true, Nat.reduceAdd, Nat.reduceLT, Nat.reduceLeDiff, Nat.reduceSub, Nat.reduceEqDiff, Int.reduceToNat, Int.reduceEq, Int.reduceLT, Int.reduceLE, Int.reduceAdd, Int.reduceSub, zg, zI, zJ, zR, zst, zkl, zn, zcat, zok, zraw, List.length_cons, List.length_nil, Option.toList, List.nil_append, List.cons_append, true_and, and_true, if_true, if_false, ne_eq, not_true, not_false_eq_true, and_self, true_or, or_true, false_or, or_false, false_and, and_false, b_2 hc, b_138 hmm, X1, wi1 wb, Int.toNat_natCast, hx, hd0]
  refine Ex_keep hB ?_
  refine kRestore (D := d - 1) hC (by omega) (fun μ1 l1 C1 hB1 => ?_)
  have M1 : MS θ σ s μ1 := MS_CL hM (fun a ha => l1 a (Or.inr ha))
  have hx1 : ∀ j, μ1 1 j = xs j := fun j => by rw [l1 1 (Or.inl (by decide))]; exact hx j
  simp only [x296_1934, x296_1935, x296_1936, x296_1937, x296_1938, x296_1939, x296_1940, ↓reduceIte, Bool.false_eq_true, Nat.reduceAdd, Nat.reduceLT, Nat.reduceLeDiff, Nat.reduceSub, Nat.reduceEqDiff, Int.reduceToNat, Int.reduceEq, Int.reduceLT, Int.reduceLE, Int.reduceAdd, Int.reduceSub, zg, zI, zJ, zR, zst, zkl, zn, zcat, zok, zraw, List.length_cons, List.length_nil, Option.toList, List.nil_append, List.cons_append, true_and, and_true, if_true, if_false, ne_eq, not_true, not_false_eq_true, and_self, true_or, or_true, false_or, or_false, false_and, and_false, b_138 hmm, X1, wi1 wb, Int.toNat_natCast, hx1, hd0]
  refine Ex_keep hB1 ?_
  refine rRestore (D := d - 1) M1 hB1 (by omega) (fun μ2 l2 M2 hB2 => ?_)
  simp only [x296_1943, x296_1946, x296_1947, ↓reduceIte, Bool.false_eq_true, Nat.reduceAdd, Nat.reduceLT, Nat.reduceLeDiff, Nat.reduceSub, Nat.reduceEqDiff, Int.reduceToNat, Int.reduceEq, Int.reduceLT, Int.reduceLE, Int.reduceAdd, Int.reduceSub, zg, zI, zJ, zR, zst, zkl, zn, zcat, zok, zraw, List.length_cons, List.length_nil, Option.toList, List.nil_append, List.cons_append, true_and, and_true, if_true, if_false, ne_eq, not_true, not_false_eq_true, and_self, true_or, or_true, false_or, or_false, false_and, and_false]
  exact K _ _ ⟨T, U, _, s, (CS_ML C1 l2), M2, hB2, (sM_restore (by omega)), h1, (fun j => by rw [l2 1 (by decide)]; exact hx1 j)⟩
theorem c_count (hd : 40 ≤ d) (h : IV L xs t θ μ) (ht : 6 * t + 6 ≤ L) (hL : L ≤ 3077) (K : ∀ θ' μ', IV L xs (t + 1) θ' μ' → Ex d 296 1971 [vr 1, vr 2, vr 138, vi ((6 * t : Nat) : Int)] [] θ' μ' Q) : Ex d 296 1948 [vr 1, vr 2, vr 138, vi ((6 * t : Nat) : Int)] [] θ μ Q := by
  obtain ⟨T, U, σ, s, hC, hM, hB, hm, h1, hx⟩ := h
  have hc := hC.1.1.1
  have hmm := hM.1.1
  have hd0 : 0 < d := by omega
  have g1 := IV_1 h1
  have wb : 6 * t < 2147483000 := by omega
  have X1 : (zix θ .int 1 ((6 * t + 1 : Nat) : Int) = true) = True := zix_T g1 (by omega) (by omega)
  simp only [x296_1948, x296_1949, x296_1950, x296_1951, x296_1952, x296_1953, x296_1954, ↓reduceIte, Bool.false_eq_true, Nat.reduceAdd, Nat.reduceLT, Nat.reduceLeDiff, Nat.reduceSub, Nat.reduceEqDiff, Int.reduceToNat, Int.reduceEq, Int.reduceLT, Int.reduceLE, Int.reduceAdd, Int.reduceSub, zg, zI, zJ, zR, zst, zkl, zn, zcat, zok, zraw, List.length_cons, List.length_nil, Option.toList, List.nil_append, List.cons_append, true_and, and_true, if_true, if_false, ne_eq, not_true, not_false_eq_true, and_self, true_or, or_true, false_or, or_false, false_and, and_false, b_2 hc, b_138 hmm, X1, wi1 wb, Int.toNat_natCast, hx, hd0]
  refine Ex_keep hB ?_
  refine kCount (D := d - 1) hC (by omega) (fun hB1 => ?_)
  simp only [x296_1957, x296_1958, x296_1959, x296_1960, x296_1961, x296_1962, x296_1963, ↓reduceIte, Bool.false_eq_true, Nat.reduceAdd, Nat.reduceLT, Nat.reduceLeDiff, Nat.reduceSub, Nat.reduceEqDiff, Int.reduceToNat, Int.reduceEq, Int.reduceLT, Int.reduceLE, Int.reduceAdd, Int.reduceSub, zg, zI, zJ, zR, zst, zkl, zn, zcat, zok, zraw, List.length_cons, List.length_nil, Option.toList, List.nil_append, List.cons_append, true_and, and_true, if_true, if_false, ne_eq, not_true, not_false_eq_true, and_self, true_or, or_true, false_or, or_false, false_and, and_false, b_138 hmm, X1, wi1 wb, Int.toNat_natCast, hx, hd0]
  refine Ex_keep hB1 ?_
  refine rCount (D := d - 1) hM (by omega) (fun μ2 l2 M2 hB2 => ?_)
  simp only [x296_1966, x296_1969, x296_1970, ↓reduceIte, Bool.false_eq_true, Nat.reduceAdd, Nat.reduceLT, Nat.reduceLeDiff, Nat.reduceSub, Nat.reduceEqDiff, Int.reduceToNat, Int.reduceEq, Int.reduceLT, Int.reduceLE, Int.reduceAdd, Int.reduceSub, zg, zI, zJ, zR, zst, zkl, zn, zcat, zok, zraw, List.length_cons, List.length_nil, Option.toList, List.nil_append, List.cons_append, true_and, and_true, if_true, if_false, ne_eq, not_true, not_false_eq_true, and_self, true_or, or_true, false_or, or_false, false_and, and_false]
  exact K _ _ ⟨T, U, _, s, (CS_ML hC l2), M2, hB2, (by omega), h1, (fun j => by rw [l2 1 (by decide)]; exact hx j)⟩
end CA
