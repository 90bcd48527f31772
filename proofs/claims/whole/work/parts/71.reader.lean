/-! THE CLASS READS: the TOKENS as they lie, the small steps, an E -/
theorem zenc_s : ∀ k : Fin 64, zshl (k.val : Int) 16 = ((65536 * k.val : Nat) : Int) := by decide +kernel
theorem zenc {k v : Int} (h0 : 0 ≤ k) (h1 : k < 64) (h2 : 0 ≤ v) (h3 : v < 65536) : zor (zshl k 16) v = k * 65536 + v := by
  obtain ⟨a, rfl⟩ : ∃ a : Nat, k = (a : Int) := ⟨k.toNat, by omega⟩
  obtain ⟨b, rfl⟩ : ∃ b : Nat, v = (b : Int) := ⟨v.toNat, by omega⟩
  have e := zenc_s ⟨a, by omega⟩
  simp only at e
  rw [e, zor_nat (by omega) (by omega)]
  have := Nat.two_pow_add_eq_or_of_lt (i := 16) (b := b) (by omega) a
  rw [show (65536 : Nat) = 2 ^ 16 from rfl, ← this]
  omega
def RdC (θ : zS) (U : Nat) : Prop := Tc θ ∧ Tq θ U ∧ (U = 12 ∨ U = 26) ∧ θ.2 60 2 = some U
/-- the TOKENS up to Z: kinds, places, what INTS are worth, what NAMES are -/
def TK (K : Nat → Nat) (V W st : Nat → Int) (Z : Nat) (μ : zM) : Prop := okZ K Z ∧ (∀ j, K j = 2 → 0 ≤ V j ∧ V j ≤ 9999) ∧ (∀ j, j ≤ Z → K j ≤ 48) ∧ ∀ j, j ≤ Z → μ 4 j = (K j : Nat) ∧ μ 5 j = st j ∧ (K j = 2 → μ 6 j = V j) ∧ (K j = 3 → μ 6 j = W j)
/-- at token p, from a on this code, all else as it was -/
def PE (U p a : Nat) (c : List (Int × Int)) (μ0 μ : zM) : Prop := Fr [60, U, U + 5] μ0 μ ∧ μ 60 3 = (p : Nat) ∧ (∀ j, j ≠ 3 → μ 60 j = μ0 60 j) ∧ μ U 16 = ((a + c.length : Nat) : Int) ∧ (∀ j, j ≠ 16 → μ U j = μ0 U j) ∧ (∀ i, i < a → μ (U + 5) i = μ0 (U + 5) i)
  ∧ ∀ i (h : i < c.length), μ (U + 5) (a + i) = (c[i]).1 * 65536 + (c[i]).2
section RE
variable {θ : zS} {Q : Option zV → zS → zM → Prop} {μ μ0 : zM} {K : Nat → Nat} {V W st : Nat → Int} {Z U : Nat}
theorem TK_fr {μ' : zM} (h : TK K V W st Z μ) (h4 : μ' 4 = μ 4) (h5 : μ' 5 = μ 5) (h6 : μ' 6 = μ 6) : TK K V W st Z μ' := by
  unfold TK; rw [h4, h5, h6]; exact h
theorem TK_E {μ' : zM} (hr : RdC θ U) (h : TK K V W st Z μ) (hf : Fr [60, U, U + 5] μ μ') : TK K V W st Z μ' := by
  have hu := hr.2.2.1
  exact TK_fr h (hf 4 (by simp; omega)) (hf 5 (by simp; omega)) (hf 6 (by simp; omega))
theorem PE_refl {p a : Nat} (h3 : μ 60 3 = (p : Nat)) (h16 : μ U 16 = (a : Nat)) : PE U p a [] μ μ :=
  ⟨Fr.refl, h3, fun _ _ => rfl, by simpa using h16, fun _ _ => rfl, fun _ _ => rfl, fun i h => by simp at h⟩
theorem PE_at {p q a : Nat} {c : List (Int × Int)} (hr : RdC θ U) (h : PE U p a c μ0 μ) : PE U q a c μ0 (us μ 60 (zup (μ 60) 3 (q : Nat))) := by
  have hu := hr.2.2.1
  obtain ⟨h1, h2, h3, h4, h5, h6, h7⟩ := h
  refine ⟨Fr.us (by simp) h1, by rw [us_same, zup_same rfl], fun j hj => by rw [us_same, zup_ne hj]; exact h3 j hj, ?_, ?_, ?_, ?_⟩
  · rw [us_ne (by omega)]; exact h4
  · rw [us_ne (by omega)]; exact h5
  · rw [us_ne (by omega)]; exact h6
  · rw [us_ne (by omega)]; exact h7
theorem PE_emit {p a s : Nat} {c : List (Int × Int)} {k v : Int} (hr : RdC θ U) (h : PE U p a c μ0 μ) (hs : s = a + c.length) :
    PE U p a (c ++ [(k, v)]) μ0 (us (us μ (U + 5) (zup (μ (U + 5)) s (k * 65536 + v))) U (zup (μ U) 16 ((s + 1 : Nat) : Int))) := by
  have hu := hr.2.2.1
  obtain ⟨h1, h2, h3, h4, h5, h6, h7⟩ := h
  refine ⟨Fr.us (by simp) (Fr.us (by simp) h1), ?_, fun j hj => ?_, ?_, fun j hj => ?_, fun i hi => ?_, fun i hi => ?_⟩
  · rw [us_ne (by omega), us_ne (by omega)]; exact h2
  · rw [us_ne (by omega), us_ne (by omega)]; exact h3 j hj
  · rw [us_same, zup_same rfl, hs]; simp; omega
  · rw [us_same, zup_ne hj]; exact h5 j hj
  · rw [us_ne (by omega), us_same, zup_ne (by omega)]; exact h6 i hi
  · rw [us_ne (by omega), us_same]
    by_cases q : i < c.length
    · rw [zup_ne (by omega), h7 i q]
      simp [List.getElem_append_left q]
    · have e : i = c.length := by simp at hi; omega
      subst e
      rw [zup_same (by omega)]
      simp
theorem PE_app {p q a b : Nat} {c e : List (Int × Int)} {μ1 μ2 : zM} (hr : RdC θ U) (h : PE U p a c μ0 μ1) (hb : b = a + c.length) (h' : PE U q b e μ1 μ2) : PE U q a (c ++ e) μ0 μ2 := by
  obtain ⟨h1, h2, h3, h4, h5, h6, h7⟩ := h
  obtain ⟨g1, g2, g3, g4, g5, g6, g7⟩ := h'
  refine ⟨h1.trans g1, g2, fun j hj => (g3 j hj).trans (h3 j hj), ?_, fun j hj => (g5 j hj).trans (h5 j hj), fun i hi => (g6 i (by omega)).trans (h6 i hi), fun i hi => ?_⟩
  · rw [g4, hb]; simp; omega
  · by_cases q : i < c.length
    · rw [g6 (a + i) (by omega), h7 i q]; simp [List.getElem_append_left q]
    · have hi' : i - c.length < e.length := by simp at hi; omega
      have := g7 (i - c.length) hi'
      rw [show b + (i - c.length) = a + i by omega] at this
      rw [this, List.getElem_append_right (by omega)]
theorem cEmit {d s : Nat} {k v : Int} (hr : RdC θ U) (hs : μ U 16 = (s : Nat)) (hk : 0 ≤ k ∧ k < 64) (hv : 0 ≤ v ∧ v < 65536)
    (hQ : s < 400 → Q none θ (us (us μ (U + 5) (zup (μ (U + 5)) s (k * 65536 + v))) U (zup (μ U) 16 ((s + 1 : Nat) : Int)))) (hN : ¬ s < 400 → Q none θ μ) : Ex d 90 0 [vr U, vi k, vi v] [] θ μ Q := by
  obtain ⟨hc, hU, hu, h60⟩ := hr
  by_cases h : s < 400
  · have h' : ¬ (400 : Int) ≤ (s : Int) := by omega
    have e := zenc hk.1 hk.2 hv.1 hv.2
    have n1 : U ≠ U + 5 := by omega
    have hw := w32_s (t := s) (by omega)
    have i1 : (0 : Int) ≤ (s : Int) := by omega
    have i2 : (s : Int) < 400 := by omega
    have hq := hQ h
    simp only [x90_0, x90_1, x90_4, x90_7, x90_10, x90_11, x90_14, x90_15, x90_18, x90_19, x90_21, x90_22, x90_23, x90_24, x90_25, x90_26, x90_27, x90_30, x90_31, x90_32, x90_35, ↓reduceIte, Bool.false_eq_true, Nat.reduceAdd, Nat.reduceLT, Nat.reduceLeDiff, Nat.reduceSub, Nat.reduceEqDiff, Int.reduceToNat, Int.reduceEq, Int.reduceLT, Int.reduceLE, Int.reduceAdd, Int.reduceSub, zg, zI, zJ, zR, zst, zkl, zn, zcat, zok, zraw, List.length_cons, List.length_nil, Option.toList, List.nil_append, List.cons_append, true_and, and_true, if_true, if_false, ne_eq, not_true, not_false_eq_true, and_self, true_or, or_true, false_or, or_false, false_and, and_false, tb hU, Tq2 hU, tr_4 hU, tx_5 hU i1 i2, Nat.le_add_right_of_le (Tq2 hU), hs, h', e, ua_eq, us_ne n1, Int.toNat_natCast, hw]
    exact hq
  · have h' : (400 : Int) ≤ (s : Int) := by omega
    simp only [x90_0, x90_1, x90_4, x90_7, x90_10, x90_11, x90_14, x90_15, x90_18, x90_19, x90_21, x90_22, x90_23, x90_24, x90_25, x90_26, x90_27, x90_30, x90_31, x90_32, x90_35, ↓reduceIte, Bool.false_eq_true, Nat.reduceAdd, Nat.reduceLT, Nat.reduceLeDiff, Nat.reduceSub, Nat.reduceEqDiff, Int.reduceToNat, Int.reduceEq, Int.reduceLT, Int.reduceLE, Int.reduceAdd, Int.reduceSub, zg, zI, zJ, zR, zst, zkl, zn, zcat, zok, zraw, List.length_cons, List.length_nil, Option.toList, List.nil_append, List.cons_append, true_and, and_true, if_true, if_false, ne_eq, not_true, not_false_eq_true, and_self, true_or, or_true, false_or, or_false, false_and, and_false, tb hU, hs, h']
    exact hN h
theorem cPass {d p : Nat} (hr : RdC θ U) (hT : TK K V W st Z μ) (hp : p ≤ Z) (h3 : μ 60 3 = (p : Nat))
    (hQ : p < 400 → Q (some (vi 1)) θ (us μ 60 (zup (μ 60) 3 ((p + 1 : Nat) : Int)))) (hN : ¬ p < 400 → ∀ μ', Fr [60] μ μ' → μ' 60 4 = 2 → μ' 60 0 = st p → Q (some (vi 0)) θ μ') : Ex d 56 0 [vr 60] [] θ μ Q := by
  obtain ⟨hc, hU, hu, h60⟩ := hr
  have hz := hT.1.1
  have e5 := (hT.2.2.2 p hp).2.1
  by_cases h : p < 400
  · have h' : (p : Int) < 400 := by omega
    have hw := w32_s (t := p) (by omega)
    simp only [x56_0, x56_1, x56_4, x56_7, x56_10, x56_11, x56_12, x56_15, x56_16, x56_17, x56_20, x56_23, x56_24, x56_27, x56_28, x56_31, x56_32, x56_33, x56_34, x56_35, x56_38, x56_39, x56_40, x56_43, x56_44, ↓reduceIte, Bool.false_eq_true, Nat.reduceAdd, Nat.reduceLT, Nat.reduceLeDiff, Nat.reduceSub, Nat.reduceEqDiff, Int.reduceToNat, Int.reduceEq, Int.reduceLT, Int.reduceLE, Int.reduceAdd, Int.reduceSub, zg, zI, zJ, zR, zst, zkl, zn, zcat, zok, zraw, List.length_cons, List.length_nil, Option.toList, List.nil_append, List.cons_append, true_and, and_true, if_true, if_false, ne_eq, not_true, not_false_eq_true, and_self, true_or, or_true, false_or, or_false, false_and, and_false, b_60 hc, h3, h', ua_eq, hw]
    exact hQ h
  · have h' : ¬ (p : Int) < 400 := by omega
    have n1 : ¬ 5 = 60 := by omega
    have n2 : ¬ 3 = 4 := by omega
    simp (disch := omega) only [x56_0, x56_1, x56_4, x56_7, x56_10, x56_11, x56_12, x56_15, x56_16, x56_17, x56_20, x56_23, x56_24, x56_27, x56_28, x56_31, x56_32, x56_33, x56_34, x56_35, x56_38, x56_39, x56_40, x56_43, x56_44, ↓reduceIte, Bool.false_eq_true, Nat.reduceAdd, Nat.reduceLT, Nat.reduceLeDiff, Nat.reduceSub, Nat.reduceEqDiff, Int.reduceToNat, Int.reduceEq, Int.reduceLT, Int.reduceLE, Int.reduceAdd, Int.reduceSub, zg, zI, zJ, zR, zst, zkl, zn, zcat, zok, zraw, List.length_cons, List.length_nil, Option.toList, List.nil_append, List.cons_append, true_and, and_true, if_true, if_false, ne_eq, not_true, not_false_eq_true, and_self, true_or, or_true, false_or, or_false, false_and, and_false, b_2 hc, b_3 hc, b_9 hc, b_12 hc, b_26 hc, b_40 hc, b_46 hc, b_47 hc, b_60 hc, b_62 hc, b_63 hc, b_76 hc, b_77 hc, b_90 hc, b_91 hc, b_104 hc, b_107 hc, b_114 hc, b_115 hc, b_122 hc, b_123 hc, b_131 hc, b_3 hc, r_3_0 hc, x_4 hc, r_3_1 hc, x_5 hc, r_3_2 hc, x_6 hc, r_3_4 hc, x_7 hc, n_7 hc, r_3_5 hc, x_8 hc, b_60 hc, r_60_1 hc, h3, h', ua_eq, us_same, us_us, zup_ne, us_ne, Int.toNat_natCast, e5]
    refine hN h _ (Fr.us (by simp) Fr.refl) ?_ ?_
    · rw [us_same, zup_ne (by omega), zup_same rfl]
    · rw [us_same, zup_same rfl]
theorem cRefuse {d p : Nat} {k : Int} (hr : RdC θ U) (hT : TK K V W st Z μ) (hp : p ≤ Z) (h3 : μ 60 3 = (p : Nat))
    (hQ : ∀ μ', Fr [60] μ μ' → μ' 60 4 = k → μ' 60 0 = st p → Q (some (vi 0)) θ μ') : Ex d 57 0 [vr 60, vi k] [] θ μ Q := by
  obtain ⟨hc, hU, hu, h60⟩ := hr
  have hz := hT.1.1
  have e5 := (hT.2.2.2 p hp).2.1
  simp (disch := omega) only [x57_0, x57_1, x57_2, x57_5, x57_6, x57_7, x57_10, x57_13, x57_14, x57_17, x57_18, x57_21, x57_22, ↓reduceIte, Bool.false_eq_true, Nat.reduceAdd, Nat.reduceLT, Nat.reduceLeDiff, Nat.reduceSub, Nat.reduceEqDiff, Int.reduceToNat, Int.reduceEq, Int.reduceLT, Int.reduceLE, Int.reduceAdd, Int.reduceSub, zg, zI, zJ, zR, zst, zkl, zn, zcat, zok, zraw, List.length_cons, List.length_nil, Option.toList, List.nil_append, List.cons_append, true_and, and_true, if_true, if_false, ne_eq, not_true, not_false_eq_true, and_self, true_or, or_true, false_or, or_false, false_and, and_false, b_2 hc, b_3 hc, b_9 hc, b_12 hc, b_26 hc, b_40 hc, b_46 hc, b_47 hc, b_60 hc, b_62 hc, b_63 hc, b_76 hc, b_77 hc, b_90 hc, b_91 hc, b_104 hc, b_107 hc, b_114 hc, b_115 hc, b_122 hc, b_123 hc, b_131 hc, b_3 hc, r_3_0 hc, x_4 hc, r_3_1 hc, x_5 hc, r_3_2 hc, x_6 hc, r_3_4 hc, x_7 hc, n_7 hc, r_3_5 hc, x_8 hc, b_60 hc, r_60_1 hc, h3, ua_eq, us_same, us_us, zup_ne, us_ne, Int.toNat_natCast, e5]
  refine hQ _ (Fr.us (by simp) Fr.refl) ?_ ?_
  · rw [us_same, zup_ne (by omega), zup_same rfl]
  · rw [us_same, zup_same rfl]
end RE
