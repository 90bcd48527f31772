/-! THE REFERENCE reads: small steps -/
def TR (K : Nat → Nat) (V W st : Nat → Int) (Z : Nat) (μ : zM) : Prop := okZ K Z ∧ (∀ j, K j = 2 → 0 ≤ V j ∧ V j ≤ 9999) ∧ (∀ j, j ≤ Z → K j ≤ 48) ∧ ∀ j, j ≤ Z → μ 141 j = rkO (K j) ∧ μ 142 j = st j ∧ (K j = 2 → μ 143 j = V j) ∧ (K j = 3 → μ 144 j = W j)
section SR
variable {θ : zS} {Q : Option zV → zS → zM → Prop} {μ μ0 : zM} {K : Nat → Nat} {V W st : Nat → Int} {Z : Nat}
theorem TR_fr {μ' : zM} {A : List Nat} (h : TR K V W st Z μ) (f : Fr A μ μ') (h1 : 141 ∉ A) (h2 : 142 ∉ A) (h3 : 143 ∉ A) (h4 : 144 ∉ A) : TR K V W st Z μ' := by
  refine ⟨h.1, h.2.1, h.2.2.1, fun j hj => ?_⟩
  rw [f 141 h1, f 142 h2, f 143 h3, f 144 h4]
  exact h.2.2.2 j hj
theorem eIs (d : Nat) {p k : Nat} {c : Int} (hm : Tm θ) (hT : TR K V W st Z μ) (hp : p ≤ Z) (h11 : μ 138 11 = (p : Nat)) (h13 : μ 138 13 = 0) (hk : k ≤ 48) (hc : c = rkO k) : Ex d 175 0 [vr 138, vi c] [] θ μ Q = Q (some (vi (b2 (decide (K p = k))))) θ μ := by
  have hz := hT.1.1
  have i1 : (0 : Int) ≤ (p : Int) := by omega
  have i2 : (p : Int) < 403 := by omega
  have e1 := (hT.2.2.2 p hp).1
  have ek := rk_eq (hT.2.2.1 p hp) hk
  rw [← hc] at ek
  by_cases h : K p = k
  · have h' := ek.mpr h
    simp only [x175_0, x175_1, x175_4, x175_7, x175_8, x175_11, x175_12, x175_15, x175_16, x175_17, x175_20, x175_21, x175_24, x175_25, ↓reduceIte, Bool.false_eq_true, Nat.reduceAdd, Nat.reduceLT, Nat.reduceLeDiff, Nat.reduceSub, Nat.reduceEqDiff, Int.reduceToNat, Int.reduceEq, Int.reduceLT, Int.reduceLE, Int.reduceAdd, Int.reduceSub, zg, zI, zJ, zR, zst, zkl, zn, zcat, zok, zraw, List.length_cons, List.length_nil, Option.toList, List.nil_append, List.cons_append, true_and, and_true, if_true, if_false, ne_eq, not_true, not_false_eq_true, and_self, true_or, or_true, false_or, or_false, false_and, and_false, b_138 hm, r_138_5 hm, x_141 hm i1 i2, h11, h13, e1, Int.toNat_natCast, h', decide_eq_true h, b2]
  · have h' : ¬ rkO (K p) = c := fun hh => h (ek.mp hh)
    simp only [x175_0, x175_1, x175_4, x175_7, x175_8, x175_11, x175_12, x175_15, x175_16, x175_17, x175_20, x175_21, x175_24, x175_25, ↓reduceIte, Bool.false_eq_true, Nat.reduceAdd, Nat.reduceLT, Nat.reduceLeDiff, Nat.reduceSub, Nat.reduceEqDiff, Int.reduceToNat, Int.reduceEq, Int.reduceLT, Int.reduceLE, Int.reduceAdd, Int.reduceSub, zg, zI, zJ, zR, zst, zkl, zn, zcat, zok, zraw, List.length_cons, List.length_nil, Option.toList, List.nil_append, List.cons_append, true_and, and_true, if_true, if_false, ne_eq, not_true, not_false_eq_true, and_self, true_or, or_true, false_or, or_false, false_and, and_false, b_138 hm, r_138_5 hm, x_141 hm i1 i2, h11, h13, e1, Int.toNat_natCast, h', decide_eq_false h, b2]
theorem eIsF (d : Nat) {c : Int} (hm : Tm θ) (h13 : 0 < μ 138 13) : Ex d 175 0 [vr 138, vi c] [] θ μ Q = Q (some (vi 0)) θ μ := by
  have h : ¬ μ 138 13 = 0 := by omega
  simp only [x175_0, x175_1, x175_4, x175_7, x175_8, x175_11, x175_12, x175_15, x175_16, x175_17, x175_20, x175_21, x175_24, x175_25, ↓reduceIte, Bool.false_eq_true, Nat.reduceAdd, Nat.reduceLT, Nat.reduceLeDiff, Nat.reduceSub, Nat.reduceEqDiff, Int.reduceToNat, Int.reduceEq, Int.reduceLT, Int.reduceLE, Int.reduceAdd, Int.reduceSub, zg, zI, zJ, zR, zst, zkl, zn, zcat, zok, zraw, List.length_cons, List.length_nil, Option.toList, List.nil_append, List.cons_append, true_and, and_true, if_true, if_false, ne_eq, not_true, not_false_eq_true, and_self, true_or, or_true, false_or, or_false, false_and, and_false, b_138 hm, h]
theorem eFailF (d : Nat) {c : Int} (hm : Tm θ) (h13 : 0 < μ 138 13) : Ex d 176 0 [vr 138, vi c] [] θ μ Q = Q none θ μ := by
  have h : ¬ μ 138 13 ≤ 0 := by omega
  simp only [x176_0, x176_1, x176_4, x176_7, x176_8, x176_9, x176_10, x176_13, x176_14, x176_15, x176_18, x176_19, x176_22, x176_23, x176_26, ↓reduceIte, Bool.false_eq_true, Nat.reduceAdd, Nat.reduceLT, Nat.reduceLeDiff, Nat.reduceSub, Nat.reduceEqDiff, Int.reduceToNat, Int.reduceEq, Int.reduceLT, Int.reduceLE, Int.reduceAdd, Int.reduceSub, zg, zI, zJ, zR, zst, zkl, zn, zcat, zok, zraw, List.length_cons, List.length_nil, Option.toList, List.nil_append, List.cons_append, true_and, and_true, if_true, if_false, ne_eq, not_true, not_false_eq_true, and_self, true_or, or_true, false_or, or_false, false_and, and_false, b_138 hm, h]
theorem mFail {d p : Nat} {c : Int} (hm : Tm θ) (hT : TR K V W st Z μ) (hp : p ≤ Z) (h11 : μ 138 11 = (p : Nat)) (h13 : μ 138 13 = 0)
    (hQ : ∀ μ', Fr [138] μ μ' → (∀ j, j ≠ 13 → j ≠ 14 → μ' 138 j = μ 138 j) → μ' 138 13 = c → μ' 138 14 = st p → Q none θ μ') : Ex d 176 0 [vr 138, vi c] [] θ μ Q := by
  have hz := hT.1.1
  have i1 : (0 : Int) ≤ (p : Int) := by omega
  have i2 : (p : Int) < 403 := by omega
  have e1 := (hT.2.2.2 p hp).2.1
  have n1 : ¬ (6 = 13) := by omega
  have n2 : ¬ (11 = 13) := by omega
  have n3 : ¬ (142 = 138) := by omega
  have z0 : (0 : Int) ≤ 0 := by omega
  simp only [x176_0, x176_1, x176_4, x176_7, x176_8, x176_9, x176_10, x176_13, x176_14, x176_15, x176_18, x176_19, x176_22, x176_23, x176_26, ↓reduceIte, Bool.false_eq_true, Nat.reduceAdd, Nat.reduceLT, Nat.reduceLeDiff, Nat.reduceSub, Nat.reduceEqDiff, Int.reduceToNat, Int.reduceEq, Int.reduceLT, Int.reduceLE, Int.reduceAdd, Int.reduceSub, zg, zI, zJ, zR, zst, zkl, zn, zcat, zok, zraw, List.length_cons, List.length_nil, Option.toList, List.nil_append, List.cons_append, true_and, and_true, if_true, if_false, ne_eq, not_true, not_false_eq_true, and_self, true_or, or_true, false_or, or_false, false_and, and_false, b_138 hm, r_138_6 hm, x_142 hm i1 i2, h11, h13, ua_eq, us_same, zup_ne n1, zup_ne n2, us_ne n3, e1, Int.toNat_natCast, z0]
  refine hQ _ (Fr.us (by simp) (Fr.us (by simp) Fr.refl)) (fun j h1 h2 => ?_) ?_ ?_
  · rw [us_same, zup_ne h2, zup_ne h1]
  · rw [us_same, zup_ne (by decide), zup_same rfl]
  · rw [us_same, zup_same rfl]
theorem mGoes {d p : Nat} (hm : Tm θ) (hd : 0 < d) (hT : TR K V W st Z μ) (hp : p ≤ Z) (h11 : μ 138 11 = (p : Nat)) (h13 : μ 138 13 = 0)
    (hQ : p < 400 → Q none θ (us μ 138 (zup (μ 138) 11 ((p + 1 : Nat) : Int)))) (hN : ¬ p < 400 → ∀ μ', Fr [138] μ μ' → (∀ j, j ≠ 13 → j ≠ 14 → μ' 138 j = μ 138 j) → μ' 138 13 = 2 → μ' 138 14 = st p → Q none θ μ') : Ex d 178 0 [vr 138] [] θ μ Q := by
  have hz := hT.1.1
  by_cases h : p < 400
  · have h' : ¬ (p : Int) = 400 := by omega
    have hw := w32_s (t := p) (by omega)
    simp only [x178_0, x178_1, x178_4, x178_7, x178_10, x178_11, x178_12, x178_15, x178_18, x178_19, x178_20, x178_23, x178_24, x178_25, x178_28, ↓reduceIte, Bool.false_eq_true, Nat.reduceAdd, Nat.reduceLT, Nat.reduceLeDiff, Nat.reduceSub, Nat.reduceEqDiff, Int.reduceToNat, Int.reduceEq, Int.reduceLT, Int.reduceLE, Int.reduceAdd, Int.reduceSub, zg, zI, zJ, zR, zst, zkl, zn, zcat, zok, zraw, List.length_cons, List.length_nil, Option.toList, List.nil_append, List.cons_append, true_and, and_true, if_true, if_false, ne_eq, not_true, not_false_eq_true, and_self, true_or, or_true, false_or, or_false, false_and, and_false, b_138 hm, h11, h', ua_eq, hw]
    exact hQ h
  · have h' : (p : Int) = 400 := by omega
    simp only [x178_0, x178_1, x178_4, x178_7, x178_10, x178_11, x178_12, x178_15, x178_18, x178_19, x178_20, x178_23, x178_24, x178_25, x178_28, ↓reduceIte, Bool.false_eq_true, Nat.reduceAdd, Nat.reduceLT, Nat.reduceLeDiff, Nat.reduceSub, Nat.reduceEqDiff, Int.reduceToNat, Int.reduceEq, Int.reduceLT, Int.reduceLE, Int.reduceAdd, Int.reduceSub, zg, zI, zJ, zR, zst, zkl, zn, zcat, zok, zraw, List.length_cons, List.length_nil, Option.toList, List.nil_append, List.cons_append, true_and, and_true, if_true, if_false, ne_eq, not_true, not_false_eq_true, and_self, true_or, or_true, false_or, or_false, false_and, and_false, b_138 hm, h11, h', hd]
    refine mFail hm hT hp h11 h13 (fun μ' f j g1 g2 => ?_)
    simp only [x178_0, x178_1, x178_4, x178_7, x178_10, x178_11, x178_12, x178_15, x178_18, x178_19, x178_20, x178_23, x178_24, x178_25, x178_28, ↓reduceIte, Bool.false_eq_true, Nat.reduceAdd, Nat.reduceLT, Nat.reduceLeDiff, Nat.reduceSub, Nat.reduceEqDiff, Int.reduceToNat, Int.reduceEq, Int.reduceLT, Int.reduceLE, Int.reduceAdd, Int.reduceSub, zg, zI, zJ, zR, zst, zkl, zn, zcat, zok, zraw, List.length_cons, List.length_nil, Option.toList, List.nil_append, List.cons_append, true_and, and_true, if_true, if_false, ne_eq, not_true, not_false_eq_true, and_self, true_or, or_true, false_or, or_false, false_and, and_false]
    exact hN h μ' f j g1 g2
/-- behind a fault -/
theorem mGoesF {d p : Nat} (hm : Tm θ) (hd : 0 < d) (hp : p ≤ 400) (h11 : μ 138 11 = (p : Nat)) (h13 : 0 < μ 138 13)
    (hQ : ∀ μ' q, q ≤ 400 → Fr [138] μ μ' → (∀ j, j ≠ 11 → μ' 138 j = μ 138 j) → μ' 138 11 = ((q : Nat) : Int) → Q none θ μ') : Ex d 178 0 [vr 138] [] θ μ Q := by
  by_cases h : p < 400
  · have h' : ¬ (p : Int) = 400 := by omega
    have hw := w32_s (t := p) (by omega)
    simp only [x178_0, x178_1, x178_4, x178_7, x178_10, x178_11, x178_12, x178_15, x178_18, x178_19, x178_20, x178_23, x178_24, x178_25, x178_28, ↓reduceIte, Bool.false_eq_true, Nat.reduceAdd, Nat.reduceLT, Nat.reduceLeDiff, Nat.reduceSub, Nat.reduceEqDiff, Int.reduceToNat, Int.reduceEq, Int.reduceLT, Int.reduceLE, Int.reduceAdd, Int.reduceSub, zg, zI, zJ, zR, zst, zkl, zn, zcat, zok, zraw, List.length_cons, List.length_nil, Option.toList, List.nil_append, List.cons_append, true_and, and_true, if_true, if_false, ne_eq, not_true, not_false_eq_true, and_self, true_or, or_true, false_or, or_false, false_and, and_false, b_138 hm, h11, h', ua_eq, hw]
    exact hQ _ (p + 1) (by omega) (Fr.us (by simp) Fr.refl) (fun j hj => by rw [us_same, zup_ne hj]) (by rw [us_same, zup_same rfl])
  · have h' : (p : Int) = 400 := by omega
    simp only [x178_0, x178_1, x178_4, x178_7, x178_10, x178_11, x178_12, x178_15, x178_18, x178_19, x178_20, x178_23, x178_24, x178_25, x178_28, ↓reduceIte, Bool.false_eq_true, Nat.reduceAdd, Nat.reduceLT, Nat.reduceLeDiff, Nat.reduceSub, Nat.reduceEqDiff, Int.reduceToNat, Int.reduceEq, Int.reduceLT, Int.reduceLE, Int.reduceAdd, Int.reduceSub, zg, zI, zJ, zR, zst, zkl, zn, zcat, zok, zraw, List.length_cons, List.length_nil, Option.toList, List.nil_append, List.cons_append, true_and, and_true, if_true, if_false, ne_eq, not_true, not_false_eq_true, and_self, true_or, or_true, false_or, or_false, false_and, and_false, b_138 hm, h11, h', hd, eFailF _ hm h13]
    exact hQ μ p hp Fr.refl (fun j hj => rfl) h11
/-- what waits: the top of the row is the head of the list -/
def wtO (f : Nat → Int) : List Nat → Prop
  | [] => True
  | x :: w => f w.length = rkO x ∧ wtO f w
theorem wtO_cg {f g : Nat → Int} : ∀ w : List Nat, (∀ i, i < w.length → f i = g i) → wtO f w → wtO g w := by
  intro w
  induction w with
  | nil => intro _ h; exact h
  | cons x w ih =>
    intro h hw
    exact ⟨by rw [← h w.length (by simp)]; exact hw.1, ih (fun i hi => h i (by simp; omega)) hw.2⟩
/-- at token p, these wait, this code from a on, all else as it was -/
def QE (a : Nat) (w : List Nat) (c : zC) (μ0 μ : zM) : Prop := Fr [138, 167, 168, 169] μ0 μ ∧ μ 138 47 = (w.length : Nat) ∧ wtO (μ 169) w ∧ μ 138 43 = ((a + c.length : Nat) : Int) ∧ (∀ j, j ≠ 11 → j ≠ 12 → j ≠ 43 → j ≠ 47 → μ 138 j = μ0 138 j)
  ∧ (∀ i, (i < a ∨ ((i / 420 : Nat) : Int) ≠ μ0 138 19) → μ 167 i = μ0 167 i ∧ μ 168 i = μ0 168 i) ∧ ∀ i (h : i < c.length), μ 167 (a + i) = (c[i]).1 ∧ μ 168 (a + i) = (c[i]).2
theorem mEmit {d a : Nat} {w : List Nat} {c : zC} {k : Nat} {kk v : Int} (hm : Tm θ) (hk : kk = (k : Nat)) (h : QE a w c μ0 μ) (h19 : μ0 138 19 = (((a + c.length) / 420 : Nat) : Int)) (hb : a + c.length < 840)
    (hQ : ∀ μ', QE a w (c ++ [(k, v)]) μ0 μ' → μ' 138 11 = μ 138 11 → μ' 138 12 = μ 138 12 → Q none θ μ') : Ex d 188 0 [vr 138, vi kk, vi v] [] θ μ Q := by
  subst hk
  obtain ⟨hf, h47, hw, h43, hj, ha, hc⟩ := h
  have i1 : (0 : Int) ≤ ((a + c.length : Nat) : Int) := by omega
  have i2 : ((a + c.length : Nat) : Int) < 840 := by omega
  have w1 : a + c.length < 2147483647 := by omega
  simp only [x188_0, x188_1, x188_4, x188_5, x188_8, x188_9, x188_10, x188_11, x188_14, x188_15, x188_18, x188_19, x188_20, x188_21, x188_22, x188_25, x188_26, x188_27, x188_30, ↓reduceIte, Bool.false_eq_true, Nat.reduceAdd, Nat.reduceLT, Nat.reduceLeDiff, Nat.reduceSub, Nat.reduceEqDiff, Int.reduceToNat, Int.reduceEq, Int.reduceLT, Int.reduceLE, Int.reduceAdd, Int.reduceSub, zg, zI, zJ, zR, zst, zkl, zn, zcat, zok, zraw, List.length_cons, List.length_nil, Option.toList, List.nil_append, List.cons_append, true_and, and_true, if_true, if_false, ne_eq, not_true, not_false_eq_true, and_self, true_or, or_true, false_or, or_false, false_and, and_false, b_138 hm, r_138_44 hm, r_138_45 hm, x_167 hm i1 i2, x_168 hm i1 i2, h43, ua_eq, Int.toNat_natCast, us_ne (show (138 : Nat) ≠ 167 by decide), us_ne (show (138 : Nat) ≠ 168 by decide), us_ne (show (168 : Nat) ≠ 167 by decide), w32_s w1]
  refine hQ _ ⟨Fr.us (by simp) (Fr.us (by simp) (Fr.us (by simp) hf)), ?_, ?_, ?_, fun j j1 j2 j3 j4 => ?_, fun i hi => ?_, fun i hi => ?_⟩ ?_ ?_
  · rw [us_same, zup_ne (by decide)]; exact h47
  · rw [us_ne (by decide), us_ne (by decide), us_ne (by decide)]; exact hw
  · rw [us_same, zup_same rfl]; simp; omega
  · rw [us_same, zup_ne j3]; exact hj j j1 j2 j3 j4
  · rw [us_ne (by decide), us_ne (by decide), us_same, us_ne (by decide), us_same, zup_ne (by omega), zup_ne (by omega)]; exact ha i hi
  · rw [us_ne (by decide), us_ne (by decide), us_same, us_ne (by decide), us_same]
    by_cases q : i < c.length
    · rw [zup_ne (by omega), zup_ne (by omega), List.getElem_append_left q]; exact hc i q
    · have e : i = c.length := by simp at hi; omega
      subst e
      rw [zup_same rfl, zup_same rfl]
      simp
  · rw [us_same, zup_ne (by decide)]
  · rw [us_same, zup_ne (by decide)]
end SR
