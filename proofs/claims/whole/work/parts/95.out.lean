/-! THE REFERENCE reads: what waits comes out -/
section OU
variable {θ : zS} {Q : Option zV → zS → zM → Prop} {μ0 : zM}
theorem out_cons {s : Bool} {x : Nat} {w : List Nat} {c : zC} (h : ¬ (x = 14 ∨ (s = true ∧ (x = 6 ∨ x = 7)))) : outO s (x :: w) c = outO s w (c ++ [(x - 4, 0)]) := by
  conv => lhs; unfold outO
  rw [if_neg h]
theorem QE_pop {a x : Nat} {w : List Nat} {c : zC} {μ : zM} (h : QE a (x :: w) c μ0 μ) : QE a w c μ0 (us μ 138 (zup (μ 138) 47 (w.length : Nat))) := by
  obtain ⟨hf, h47, hw, h43, hj, ha, hc⟩ := h
  refine ⟨Fr.us (by simp) hf, ?_, ?_, ?_, fun j j1 j2 j3 j4 => ?_, fun i hi => ?_, fun i hi => ?_⟩
  · rw [us_same, zup_same rfl]
  · rw [us_ne (by decide)]; exact hw.2
  · rw [us_same, zup_ne (by decide)]; exact h43
  · rw [us_same, zup_ne j4]; exact hj j j1 j2 j3 j4
  · rw [us_ne (by decide), us_ne (by decide)]; exact ha i hi
  · rw [us_ne (by decide), us_ne (by decide)]; exact hc i hi
theorem mOut {d a b : Nat} {s : Bool} (hm : Tm θ) (hd : 0 < d) (h19 : μ0 138 19 = (b : Nat)) (hb1 : b ≤ 1) : ∀ (w : List Nat) (c : zC) (μ : zM) (x2 : zV), (∀ x ∈ w, x = 14 ∨ (6 ≤ x ∧ x ≤ 9)) → (420 * b ≤ a ∧ a + c.length + w.length ≤ 420 * b + 420) → w.length ≤ 64 → QE a w c μ0 μ → (∀ μ', QE a (outO s w c).1 (outO s w c).2 μ0 μ' → μ' 138 11 = μ 138 11 → μ' 138 12 = μ 138 12 → Q none θ μ') → Ex d 189 0 [vr 138, vi (b2 s), x2] [] θ μ Q := by
  intro w
  induction w with
  | nil =>
    intro c μ x2 _ _ _ h hQ
    have h47 : μ 138 47 = 0 := h.2.1
    have z0 : (0 : Int) ≤ 0 := by omega
    rw [x189_0]
    simp only [x189_1, x189_4, x189_7, x189_8, x189_11, x189_12, x189_15, x189_16, x189_17, x189_18, x189_19, x189_20, x189_22, x189_25, x189_26, x189_29, x189_30, x189_32, x189_35, x189_36, x189_38, x189_41, x189_42, x189_43, x189_44, x189_47, x189_48, x189_49, x189_52, x189_53, x189_54, x189_56, x189_59, x189_60, x189_63, x189_64, x189_66, x189_69, x189_70, x189_73, x189_74, x189_76, x189_79, x189_80, x189_83, x189_84, x189_85, x189_88, x189_91, ↓reduceIte, Bool.false_eq_true, Nat.reduceAdd, Nat.reduceLT, Nat.reduceLeDiff, Nat.reduceSub, Nat.reduceEqDiff, Int.reduceToNat, Int.reduceEq, Int.reduceLT, Int.reduceLE, Int.reduceAdd, Int.reduceSub, zg, zI, zJ, zR, zst, zkl, zn, zcat, zok, zraw, List.length_cons, List.length_nil, Option.toList, List.nil_append, List.cons_append, true_and, and_true, if_true, if_false, ne_eq, not_true, not_false_eq_true, and_self, true_or, or_true, false_or, or_false, false_and, and_false, b_138 hm, h47, z0]
    exact hQ μ h rfl rfl
  | cons x w ih =>
    intro c μ x2 hx hb hl h hQ
    have h47 : μ 138 47 = ((w.length + 1 : Nat) : Int) := h.2.1
    have hl' : w.length + 1 ≤ 64 := by simpa using hl
    have hb' : a + c.length + (w.length + 1) ≤ 420 * b + 420 := by simpa using hb.2
    have hb0 := hb.1
    have c0 : ¬ ((w.length + 1 : Nat) : Int) ≤ 0 := by omega
    have w1 : w32 (((w.length + 1 : Nat) : Int) - 1) = (w.length : Nat) := by rw [w32_i (by omega) (by omega)]; omega
    have i1 : (0 : Int) ≤ ((w.length : Nat) : Int) := by omega
    have i2 : ((w.length : Nat) : Int) < 64 := by omega
    have e := h.2.2.1.1
    by_cases st : x = 14 ∨ (s = true ∧ (x = 6 ∨ x = 7))
    · have ho : outO s (x :: w) c = (x :: w, c) := out_top st
      rw [ho] at hQ
      have := hQ μ h rfl rfl
      rw [x189_0]
      rcases st with rfl | ⟨rfl, rfl | rfl⟩
      · have e' : μ 169 w.length = 6 := e
        simp only [x189_1, x189_4, x189_7, x189_8, x189_11, x189_12, x189_15, x189_16, x189_17, x189_18, x189_19, x189_20, x189_22, x189_25, x189_26, x189_29, x189_30, x189_32, x189_35, x189_36, x189_38, x189_41, x189_42, x189_43, x189_44, x189_47, x189_48, x189_49, x189_52, x189_53, x189_54, x189_56, x189_59, x189_60, x189_63, x189_64, x189_66, x189_69, x189_70, x189_73, x189_74, x189_76, x189_79, x189_80, x189_83, x189_84, x189_85, x189_88, x189_91, ↓reduceIte, Bool.false_eq_true, Nat.reduceAdd, Nat.reduceLT, Nat.reduceLeDiff, Nat.reduceSub, Nat.reduceEqDiff, Int.reduceToNat, Int.reduceEq, Int.reduceLT, Int.reduceLE, Int.reduceAdd, Int.reduceSub, zg, zI, zJ, zR, zst, zkl, zn, zcat, zok, zraw, List.length_cons, List.length_nil, Option.toList, List.nil_append, List.cons_append, true_and, and_true, if_true, if_false, ne_eq, not_true, not_false_eq_true, and_self, true_or, or_true, false_or, or_false, false_and, and_false, b_138 hm, r_138_46 hm, x_169 hm i1 i2, h47, c0, w1, Int.toNat_natCast, e', b2]
        exact this
      · have e' : μ 169 w.length = 8 := e
        simp only [x189_1, x189_4, x189_7, x189_8, x189_11, x189_12, x189_15, x189_16, x189_17, x189_18, x189_19, x189_20, x189_22, x189_25, x189_26, x189_29, x189_30, x189_32, x189_35, x189_36, x189_38, x189_41, x189_42, x189_43, x189_44, x189_47, x189_48, x189_49, x189_52, x189_53, x189_54, x189_56, x189_59, x189_60, x189_63, x189_64, x189_66, x189_69, x189_70, x189_73, x189_74, x189_76, x189_79, x189_80, x189_83, x189_84, x189_85, x189_88, x189_91, ↓reduceIte, Bool.false_eq_true, Nat.reduceAdd, Nat.reduceLT, Nat.reduceLeDiff, Nat.reduceSub, Nat.reduceEqDiff, Int.reduceToNat, Int.reduceEq, Int.reduceLT, Int.reduceLE, Int.reduceAdd, Int.reduceSub, zg, zI, zJ, zR, zst, zkl, zn, zcat, zok, zraw, List.length_cons, List.length_nil, Option.toList, List.nil_append, List.cons_append, true_and, and_true, if_true, if_false, ne_eq, not_true, not_false_eq_true, and_self, true_or, or_true, false_or, or_false, false_and, and_false, b_138 hm, r_138_46 hm, x_169 hm i1 i2, h47, c0, w1, Int.toNat_natCast, e', b2]
        exact this
      · have e' : μ 169 w.length = 9 := e
        simp only [x189_1, x189_4, x189_7, x189_8, x189_11, x189_12, x189_15, x189_16, x189_17, x189_18, x189_19, x189_20, x189_22, x189_25, x189_26, x189_29, x189_30, x189_32, x189_35, x189_36, x189_38, x189_41, x189_42, x189_43, x189_44, x189_47, x189_48, x189_49, x189_52, x189_53, x189_54, x189_56, x189_59, x189_60, x189_63, x189_64, x189_66, x189_69, x189_70, x189_73, x189_74, x189_76, x189_79, x189_80, x189_83, x189_84, x189_85, x189_88, x189_91, ↓reduceIte, Bool.false_eq_true, Nat.reduceAdd, Nat.reduceLT, Nat.reduceLeDiff, Nat.reduceSub, Nat.reduceEqDiff, Int.reduceToNat, Int.reduceEq, Int.reduceLT, Int.reduceLE, Int.reduceAdd, Int.reduceSub, zg, zI, zJ, zR, zst, zkl, zn, zcat, zok, zraw, List.length_cons, List.length_nil, Option.toList, List.nil_append, List.cons_append, true_and, and_true, if_true, if_false, ne_eq, not_true, not_false_eq_true, and_self, true_or, or_true, false_or, or_false, false_and, and_false, b_138 hm, r_138_46 hm, x_169 hm i1 i2, h47, c0, w1, Int.toNat_natCast, e', b2]
        exact this
    · rw [out_cons st] at hQ
      have go : ∀ (k : Int) (y : zV), k = ((x - 4 : Nat) : Int) → Ex d 189 84 [vr 138, vi (b2 s), y] [vi k, vr 138] θ (us μ 138 (zup (μ 138) 47 (w.length : Nat))) Q := by
        intro k y hk
        simp only [x189_1, x189_4, x189_7, x189_8, x189_11, x189_12, x189_15, x189_16, x189_17, x189_18, x189_19, x189_20, x189_22, x189_25, x189_26, x189_29, x189_30, x189_32, x189_35, x189_36, x189_38, x189_41, x189_42, x189_43, x189_44, x189_47, x189_48, x189_49, x189_52, x189_53, x189_54, x189_56, x189_59, x189_60, x189_63, x189_64, x189_66, x189_69, x189_70, x189_73, x189_74, x189_76, x189_79, x189_80, x189_83, x189_84, x189_85, x189_88, x189_91, ↓reduceIte, Bool.false_eq_true, Nat.reduceAdd, Nat.reduceLT, Nat.reduceLeDiff, Nat.reduceSub, Nat.reduceEqDiff, Int.reduceToNat, Int.reduceEq, Int.reduceLT, Int.reduceLE, Int.reduceAdd, Int.reduceSub, zg, zI, zJ, zR, zst, zkl, zn, zcat, zok, zraw, List.length_cons, List.length_nil, Option.toList, List.nil_append, List.cons_append, true_and, and_true, if_true, if_false, ne_eq, not_true, not_false_eq_true, and_self, true_or, or_true, false_or, or_false, false_and, and_false, b_138 hm, hd]
        refine mEmit (d := d - 1) hm hk (QE_pop h) (by rw [h19]; omega) (by omega) (fun μ' h' g1 g2 => ?_)
        simp only [x189_1, x189_4, x189_7, x189_8, x189_11, x189_12, x189_15, x189_16, x189_17, x189_18, x189_19, x189_20, x189_22, x189_25, x189_26, x189_29, x189_30, x189_32, x189_35, x189_36, x189_38, x189_41, x189_42, x189_43, x189_44, x189_47, x189_48, x189_49, x189_52, x189_53, x189_54, x189_56, x189_59, x189_60, x189_63, x189_64, x189_66, x189_69, x189_70, x189_73, x189_74, x189_76, x189_79, x189_80, x189_83, x189_84, x189_85, x189_88, x189_91, ↓reduceIte, Bool.false_eq_true, Nat.reduceAdd, Nat.reduceLT, Nat.reduceLeDiff, Nat.reduceSub, Nat.reduceEqDiff, Int.reduceToNat, Int.reduceEq, Int.reduceLT, Int.reduceLE, Int.reduceAdd, Int.reduceSub, zg, zI, zJ, zR, zst, zkl, zn, zcat, zok, zraw, List.length_cons, List.length_nil, Option.toList, List.nil_append, List.cons_append, true_and, and_true, if_true, if_false, ne_eq, not_true, not_false_eq_true, and_self, true_or, or_true, false_or, or_false, false_and, and_false]
        refine ih _ μ' _ (fun y hy => hx y (List.mem_cons_of_mem _ hy)) (by simp; omega) (by omega) h' (fun μ2 h2 k1 k2 => hQ μ2 h2 (k1.trans ?_) (k2.trans ?_))
        · rw [g1, us_same, zup_ne (by decide)]
        · rw [g2, us_same, zup_ne (by decide)]
      have hx0 := hx x (by simp)
      cases s with
      | false =>
        obtain rfl | rfl | rfl | rfl : x = 6 ∨ x = 7 ∨ x = 8 ∨ x = 9 := by
          by_cases q : x = 14
          · exact absurd (Or.inl q) st
          · omega
        · have e' : μ 169 w.length = 8 := e
          have := go 2 (vi 8) rfl
          rw [x189_0]
          simp only [x189_1, x189_4, x189_7, x189_8, x189_11, x189_12, x189_15, x189_16, x189_17, x189_18, x189_19, x189_20, x189_22, x189_25, x189_26, x189_29, x189_30, x189_32, x189_35, x189_36, x189_38, x189_41, x189_42, x189_43, x189_44, x189_47, x189_48, x189_49, x189_52, x189_53, x189_54, x189_56, x189_59, x189_60, x189_63, x189_64, x189_66, x189_69, x189_70, x189_73, x189_74, x189_76, x189_79, x189_80, x189_83, x189_85, x189_88, x189_91, ↓reduceIte, Bool.false_eq_true, Nat.reduceAdd, Nat.reduceLT, Nat.reduceLeDiff, Nat.reduceSub, Nat.reduceEqDiff, Int.reduceToNat, Int.reduceEq, Int.reduceLT, Int.reduceLE, Int.reduceAdd, Int.reduceSub, zg, zI, zJ, zR, zst, zkl, zn, zcat, zok, zraw, List.length_cons, List.length_nil, Option.toList, List.nil_append, List.cons_append, true_and, and_true, if_true, if_false, ne_eq, not_true, not_false_eq_true, and_self, true_or, or_true, false_or, or_false, false_and, and_false, b_138 hm, r_138_46 hm, x_169 hm i1 i2, h47, c0, w1, ua_eq, Int.toNat_natCast, e', b2] at this ⊢
          exact this
        · have e' : μ 169 w.length = 9 := e
          have := go 3 (vi 9) rfl
          rw [x189_0]
          simp only [x189_1, x189_4, x189_7, x189_8, x189_11, x189_12, x189_15, x189_16, x189_17, x189_18, x189_19, x189_20, x189_22, x189_25, x189_26, x189_29, x189_30, x189_32, x189_35, x189_36, x189_38, x189_41, x189_42, x189_43, x189_44, x189_47, x189_48, x189_49, x189_52, x189_53, x189_54, x189_56, x189_59, x189_60, x189_63, x189_64, x189_66, x189_69, x189_70, x189_73, x189_74, x189_76, x189_79, x189_80, x189_83, x189_85, x189_88, x189_91, ↓reduceIte, Bool.false_eq_true, Nat.reduceAdd, Nat.reduceLT, Nat.reduceLeDiff, Nat.reduceSub, Nat.reduceEqDiff, Int.reduceToNat, Int.reduceEq, Int.reduceLT, Int.reduceLE, Int.reduceAdd, Int.reduceSub, zg, zI, zJ, zR, zst, zkl, zn, zcat, zok, zraw, List.length_cons, List.length_nil, Option.toList, List.nil_append, List.cons_append, true_and, and_true, if_true, if_false, ne_eq, not_true, not_false_eq_true, and_self, true_or, or_true, false_or, or_false, false_and, and_false, b_138 hm, r_138_46 hm, x_169 hm i1 i2, h47, c0, w1, ua_eq, Int.toNat_natCast, e', b2] at this ⊢
          exact this
        · have e' : μ 169 w.length = 10 := e
          have := go 4 (vi 10) rfl
          rw [x189_0]
          simp only [x189_1, x189_4, x189_7, x189_8, x189_11, x189_12, x189_15, x189_16, x189_17, x189_18, x189_19, x189_20, x189_22, x189_25, x189_26, x189_29, x189_30, x189_32, x189_35, x189_36, x189_38, x189_41, x189_42, x189_43, x189_44, x189_47, x189_48, x189_49, x189_52, x189_53, x189_54, x189_56, x189_59, x189_60, x189_63, x189_64, x189_66, x189_69, x189_70, x189_73, x189_74, x189_76, x189_79, x189_80, x189_83, x189_85, x189_88, x189_91, ↓reduceIte, Bool.false_eq_true, Nat.reduceAdd, Nat.reduceLT, Nat.reduceLeDiff, Nat.reduceSub, Nat.reduceEqDiff, Int.reduceToNat, Int.reduceEq, Int.reduceLT, Int.reduceLE, Int.reduceAdd, Int.reduceSub, zg, zI, zJ, zR, zst, zkl, zn, zcat, zok, zraw, List.length_cons, List.length_nil, Option.toList, List.nil_append, List.cons_append, true_and, and_true, if_true, if_false, ne_eq, not_true, not_false_eq_true, and_self, true_or, or_true, false_or, or_false, false_and, and_false, b_138 hm, r_138_46 hm, x_169 hm i1 i2, h47, c0, w1, ua_eq, Int.toNat_natCast, e', b2] at this ⊢
          exact this
        · have e' : μ 169 w.length = 15 := e
          have := go 5 (vi 15) rfl
          rw [x189_0]
          simp only [x189_1, x189_4, x189_7, x189_8, x189_11, x189_12, x189_15, x189_16, x189_17, x189_18, x189_19, x189_20, x189_22, x189_25, x189_26, x189_29, x189_30, x189_32, x189_35, x189_36, x189_38, x189_41, x189_42, x189_43, x189_44, x189_47, x189_48, x189_49, x189_52, x189_53, x189_54, x189_56, x189_59, x189_60, x189_63, x189_64, x189_66, x189_69, x189_70, x189_73, x189_74, x189_76, x189_79, x189_80, x189_83, x189_85, x189_88, x189_91, ↓reduceIte, Bool.false_eq_true, Nat.reduceAdd, Nat.reduceLT, Nat.reduceLeDiff, Nat.reduceSub, Nat.reduceEqDiff, Int.reduceToNat, Int.reduceEq, Int.reduceLT, Int.reduceLE, Int.reduceAdd, Int.reduceSub, zg, zI, zJ, zR, zst, zkl, zn, zcat, zok, zraw, List.length_cons, List.length_nil, Option.toList, List.nil_append, List.cons_append, true_and, and_true, if_true, if_false, ne_eq, not_true, not_false_eq_true, and_self, true_or, or_true, false_or, or_false, false_and, and_false, b_138 hm, r_138_46 hm, x_169 hm i1 i2, h47, c0, w1, ua_eq, Int.toNat_natCast, e', b2] at this ⊢
          exact this
      | true =>
        obtain rfl | rfl : x = 8 ∨ x = 9 := by
          by_cases q : x = 14
          · exact absurd (Or.inl q) st
          · by_cases q6 : x = 6
            · exact absurd (Or.inr ⟨rfl, Or.inl q6⟩) st
            · by_cases q7 : x = 7
              · exact absurd (Or.inr ⟨rfl, Or.inr q7⟩) st
              · omega
        · have e' : μ 169 w.length = 10 := e
          have := go 4 (vi 10) rfl
          rw [x189_0]
          simp only [x189_1, x189_4, x189_7, x189_8, x189_11, x189_12, x189_15, x189_16, x189_17, x189_18, x189_19, x189_20, x189_22, x189_25, x189_26, x189_29, x189_30, x189_32, x189_35, x189_36, x189_38, x189_41, x189_42, x189_43, x189_44, x189_47, x189_48, x189_49, x189_52, x189_53, x189_54, x189_56, x189_59, x189_60, x189_63, x189_64, x189_66, x189_69, x189_70, x189_73, x189_74, x189_76, x189_79, x189_80, x189_83, x189_85, x189_88, x189_91, ↓reduceIte, Bool.false_eq_true, Nat.reduceAdd, Nat.reduceLT, Nat.reduceLeDiff, Nat.reduceSub, Nat.reduceEqDiff, Int.reduceToNat, Int.reduceEq, Int.reduceLT, Int.reduceLE, Int.reduceAdd, Int.reduceSub, zg, zI, zJ, zR, zst, zkl, zn, zcat, zok, zraw, List.length_cons, List.length_nil, Option.toList, List.nil_append, List.cons_append, true_and, and_true, if_true, if_false, ne_eq, not_true, not_false_eq_true, and_self, true_or, or_true, false_or, or_false, false_and, and_false, b_138 hm, r_138_46 hm, x_169 hm i1 i2, h47, c0, w1, ua_eq, Int.toNat_natCast, e', b2] at this ⊢
          exact this
        · have e' : μ 169 w.length = 15 := e
          have := go 5 (vi 15) rfl
          rw [x189_0]
          simp only [x189_1, x189_4, x189_7, x189_8, x189_11, x189_12, x189_15, x189_16, x189_17, x189_18, x189_19, x189_20, x189_22, x189_25, x189_26, x189_29, x189_30, x189_32, x189_35, x189_36, x189_38, x189_41, x189_42, x189_43, x189_44, x189_47, x189_48, x189_49, x189_52, x189_53, x189_54, x189_56, x189_59, x189_60, x189_63, x189_64, x189_66, x189_69, x189_70, x189_73, x189_74, x189_76, x189_79, x189_80, x189_83, x189_85, x189_88, x189_91, ↓reduceIte, Bool.false_eq_true, Nat.reduceAdd, Nat.reduceLT, Nat.reduceLeDiff, Nat.reduceSub, Nat.reduceEqDiff, Int.reduceToNat, Int.reduceEq, Int.reduceLT, Int.reduceLE, Int.reduceAdd, Int.reduceSub, zg, zI, zJ, zR, zst, zkl, zn, zcat, zok, zraw, List.length_cons, List.length_nil, Option.toList, List.nil_append, List.cons_append, true_and, and_true, if_true, if_false, ne_eq, not_true, not_false_eq_true, and_self, true_or, or_true, false_or, or_false, false_and, and_false, b_138 hm, r_138_46 hm, x_169 hm i1 i2, h47, c0, w1, ua_eq, Int.toNat_natCast, e', b2] at this ⊢
          exact this
end OU
