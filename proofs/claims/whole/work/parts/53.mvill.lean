/-! FACTS: the reference's counts, ways, THE LINE -/
section MZ
variable {θ : zS} {τ : zT} {s : Nat} {Q : Option zV → zS → zM → Prop} {μ : zM} {V : zV2}
theorem MV2_fr {μ' : zM} {A : List Nat} (h : MV2 V μ) (hf : Fr A μ μ') (hA : ∀ a ∈ A, ¬ (193 ≤ a ∧ a ≤ 197)) (h0 : μ' 138 78 = μ 138 78) : MV2 V μ' := by
  have e : ∀ a, 193 ≤ a → a ≤ 197 → μ' a = μ a := fun a h1 h2 => hf a (fun hm => hA a hm ⟨h1, h2⟩)
  unfold MV2
  rw [h0, e 193 (by decide) (by decide), e 194 (by decide) (by decide), e 195 (by decide) (by decide), e 196 (by decide) (by decide), e 197 (by decide) (by decide)]
  exact h
theorem mWarned {d : Nat} {a w n : Int} {x4 : zV} (h : MX θ τ s μ) (hd : 4 ≤ d) (hQ : ∀ μ', Fr GM μ μ' → (∀ j, j ≠ 50 → μ' 138 j = μ 138 j) → Q (some (vi (b2 (holds τ 2 (wnV a w n))))) θ μ') : Ex d 280 0 [vr 138, vi a, vi w, vi n, x4] [] θ μ Q := by
  have hm := h.1
  have hd0 : 0 < d := by omega
  have key : ∀ t L μ1, t ≤ 13 → (L = [vr 138, vi a, vi w, vi n, vi (t : Nat)] ∧ Fr [170] μ μ1 ∧ ∀ j, j < t → μ1 170 j = 0) → Ex d 280 3 L [] θ μ1 Q := by
    refine Ex_loop (I := fun t L μ1 => L = [vr 138, vi a, vi w, vi n, vi (t : Nat)] ∧ Fr [170] μ μ1 ∧ ∀ j, j < t → μ1 170 j = 0) 13 ?_ ?_
    · rintro t L μ1 ht ⟨rfl, hf, ha⟩ hk
      have i1 : ¬ ((13 : Int) ≤ (t : Int)) := by omega
      rw [x280_3]
      simp (disch := omega) only [x280_0, x280_1, x280_5, x280_7, x280_10, x280_11, x280_14, x280_16, x280_17, x280_18, x280_21, x280_24, x280_25, x280_28, x280_30, x280_31, x280_32, x280_33, x280_36, x280_38, x280_39, x280_40, x280_41, x280_44, x280_46, x280_47, x280_48, x280_49, x280_50, x280_53, ↓reduceIte, Bool.false_eq_true, Nat.reduceAdd, Nat.reduceLT, Nat.reduceLeDiff, Nat.reduceSub, Nat.reduceEqDiff, Int.reduceToNat, Int.reduceEq, Int.reduceLT, Int.reduceLE, Int.reduceAdd, Int.reduceSub, zg, zI, zJ, zR, zst, zkl, zn, zcat, zok, zraw, List.length_cons, List.length_nil, Option.toList, List.nil_append, List.cons_append, true_and, and_true, if_true, if_false, ne_eq, not_true, not_false_eq_true, and_self, true_or, or_true, false_or, or_false, false_and, and_false, b_138 hm, r_138_48 hm, x_170 hm, i1, Int.toNat_natCast, w32_s, ua_eq]
      apply hk
      refine ⟨rfl, Fr.us (by decide) hf, ?_⟩
      intro j hj
      rw [us_same, zup_ap]
      by_cases h1 : j = t
      · rw [if_pos h1]
      · rw [if_neg h1]; exact ha j (by omega)
    · rintro L μ1 ⟨rfl, hf, ha⟩
      have i1 : ((13 : Int) ≤ ((13 : Nat) : Int)) := by decide
      rw [x280_3]
      simp (disch := omega) only [x280_0, x280_1, x280_5, x280_7, x280_10, x280_11, x280_14, x280_16, x280_17, x280_18, x280_21, x280_24, x280_25, x280_28, x280_30, x280_31, x280_32, x280_33, x280_36, x280_38, x280_39, x280_40, x280_41, x280_44, x280_46, x280_47, x280_48, x280_49, x280_50, x280_53, ↓reduceIte, Bool.false_eq_true, Nat.reduceAdd, Nat.reduceLT, Nat.reduceLeDiff, Nat.reduceSub, Nat.reduceEqDiff, Int.reduceToNat, Int.reduceEq, Int.reduceLT, Int.reduceLE, Int.reduceAdd, Int.reduceSub, zg, zI, zJ, zR, zst, zkl, zn, zcat, zok, zraw, List.length_cons, List.length_nil, Option.toList, List.nil_append, List.cons_append, true_and, and_true, if_true, if_false, ne_eq, not_true, not_false_eq_true, and_self, true_or, or_true, false_or, or_false, false_and, and_false, b_138 hm, r_138_48 hm, x_170 hm, i1, hd0, ua_eq, us_same, us_us, Int.reduceToNat]
      have hfu : Fr [170] μ (us μ1 170 (zup (zup (zup (μ1 170) 9 w) 10 a) 12 n)) := Fr.us (by decide) hf
      refine mSome (d := d - 1) (k := 2) (v := wnV a w n) (MX_fr h hfu (by decide) (by rw [us_ne (by decide), hf 138 (by decide)])) (by omega) rfl (by decide) ?_ ?_
      · intro j hj
        rw [us_same]
        have : j = 0 ∨ j = 1 ∨ j = 2 ∨ j = 3 ∨ j = 4 ∨ j = 5 ∨ j = 6 ∨ j = 7 ∨ j = 8 ∨ j = 9 ∨ j = 10 ∨ j = 11 ∨ j = 12 := by omega
        rcases this with rfl | rfl | rfl | rfl | rfl | rfl | rfl | rfl | rfl | rfl | rfl | rfl | rfl <;> simp [zup_ap, wnV, ha]
      · intro μ2 hf2 hj2
        have hbz : b2 (holds τ 2 (wnV a w n)) = 0 ∨ b2 (holds τ 2 (wnV a w n)) = 1 := by cases holds τ 2 (wnV a w n) <;> simp [b2]
        simp (disch := omega) only [x280_0, x280_1, x280_5, x280_7, x280_10, x280_11, x280_14, x280_16, x280_17, x280_18, x280_21, x280_24, x280_25, x280_28, x280_30, x280_31, x280_32, x280_33, x280_36, x280_38, x280_39, x280_40, x280_41, x280_44, x280_46, x280_47, x280_48, x280_49, x280_50, x280_53, ↓reduceIte, Bool.false_eq_true, Nat.reduceAdd, Nat.reduceLT, Nat.reduceLeDiff, Nat.reduceSub, Nat.reduceEqDiff, Int.reduceToNat, Int.reduceEq, Int.reduceLT, Int.reduceLE, Int.reduceAdd, Int.reduceSub, zg, zI, zJ, zR, zst, zkl, zn, zcat, zok, zraw, List.length_cons, List.length_nil, Option.toList, List.nil_append, List.cons_append, true_and, and_true, if_true, if_false, ne_eq, not_true, not_false_eq_true, and_self, true_or, or_true, false_or, or_false, false_and, and_false, hbz]
        refine hQ μ2 ((hfu.mono (by decide)).trans (hf2.mono (by decide))) ?_
        intro j hj
        rw [hj2 j hj, us_ne (by decide), hf 138 (by decide)]
  simp (disch := omega) only [x280_0, x280_1, x280_5, x280_7, x280_10, x280_11, x280_14, x280_16, x280_17, x280_18, x280_21, x280_24, x280_25, x280_28, x280_30, x280_31, x280_32, x280_33, x280_36, x280_38, x280_39, x280_40, x280_41, x280_44, x280_46, x280_47, x280_48, x280_49, x280_50, x280_53, ↓reduceIte, Bool.false_eq_true, Nat.reduceAdd, Nat.reduceLT, Nat.reduceLeDiff, Nat.reduceSub, Nat.reduceEqDiff, Int.reduceToNat, Int.reduceEq, Int.reduceLT, Int.reduceLE, Int.reduceAdd, Int.reduceSub, zg, zI, zJ, zR, zst, zkl, zn, zcat, zok, zraw, List.length_cons, List.length_nil, Option.toList, List.nil_append, List.cons_append, true_and, and_true, if_true, if_false, ne_eq, not_true, not_false_eq_true, and_self, true_or, or_true, false_or, or_false, false_and, and_false]
  exact key 0 _ μ (by omega) ⟨rfl, Fr.refl, fun j hj => absurd hj (by omega)⟩
theorem mCounts {d n i : Nat} {x y : Int} {x3 : zV} (hm : Tm θ) (hV : wfV V) (hC : MV2 V μ) (hx : x = (i : Int)) (hy : y = (n : Int)) (hn : n ≤ V.1) (hi : i < n)
    (hQ : Q (some (vi (b2 (knO V n i)))) θ μ) : Ex d 282 0 [vr 138, vi x, vi y, x3] [] θ μ Q := by
  subst hx
  subst hy
  have h60 := hV.1
  have ei := (hC.2 i (by omega)).1
  by_cases hm1 : V.2.2.2.2.2 i = -1
  · have key : ∀ t L μ1, t ≤ n → (i + 1 ≤ t ∧ L = [vr 138, vi (i : Nat), vi (n : Nat), vi (t : Nat)] ∧ μ1 = μ ∧ ∀ j, j < t → V.2.2.2.2.2 j ≠ (i : Int)) → Ex d 282 16 L [] θ μ1 Q := by
      refine Ex_loop (I := fun t L μ1 => i + 1 ≤ t ∧ L = [vr 138, vi (i : Nat), vi (n : Nat), vi (t : Nat)] ∧ μ1 = μ ∧ ∀ j, j < t → V.2.2.2.2.2 j ≠ (i : Int)) n ?_ ?_
      · rintro t L μ1 ht ⟨hit, rfl, rfl, hno⟩ hk
        have i1 : ¬ ((n : Int) ≤ (t : Int)) := by omega
        have e := (hC.2 t (by omega)).1
        rw [x282_16]
        by_cases hti : V.2.2.2.2.2 t = (i : Int)
        · have hk0 : knO V n i = false := by
            cases hk0 : knO V n i with
            | false => rfl
            | true => exact absurd hti ((kn_iff.mp hk0).2 t ht)
          rw [hk0] at hQ
          simp (disch := omega) only [x282_0, x282_1, x282_4, x282_5, x282_6, x282_7, x282_10, x282_11, x282_12, x282_13, x282_14, x282_15, x282_17, x282_18, x282_21, x282_22, x282_25, x282_26, x282_27, x282_28, x282_31, x282_32, x282_33, x282_36, x282_39, x282_40, ↓reduceIte, Bool.false_eq_true, Nat.reduceAdd, Nat.reduceLT, Nat.reduceLeDiff, Nat.reduceSub, Nat.reduceEqDiff, Int.reduceToNat, Int.reduceEq, Int.reduceLT, Int.reduceLE, Int.reduceAdd, Int.reduceSub, zg, zI, zJ, zR, zst, zkl, zn, zcat, zok, zraw, List.length_cons, List.length_nil, Option.toList, List.nil_append, List.cons_append, true_and, and_true, if_true, if_false, ne_eq, not_true, not_false_eq_true, and_self, true_or, or_true, false_or, or_false, false_and, and_false, b_138 hm, r_138_79 hm, x_193 hm, i1, e, hti, Int.toNat_natCast]
          exact hQ
        · simp (disch := omega) only [x282_0, x282_1, x282_4, x282_5, x282_6, x282_7, x282_10, x282_11, x282_12, x282_13, x282_14, x282_15, x282_17, x282_18, x282_21, x282_22, x282_25, x282_26, x282_27, x282_28, x282_31, x282_32, x282_33, x282_36, x282_39, x282_40, ↓reduceIte, Bool.false_eq_true, Nat.reduceAdd, Nat.reduceLT, Nat.reduceLeDiff, Nat.reduceSub, Nat.reduceEqDiff, Int.reduceToNat, Int.reduceEq, Int.reduceLT, Int.reduceLE, Int.reduceAdd, Int.reduceSub, zg, zI, zJ, zR, zst, zkl, zn, zcat, zok, zraw, List.length_cons, List.length_nil, Option.toList, List.nil_append, List.cons_append, true_and, and_true, if_true, if_false, ne_eq, not_true, not_false_eq_true, and_self, true_or, or_true, false_or, or_false, false_and, and_false, b_138 hm, r_138_79 hm, x_193 hm, i1, e, hti, Int.toNat_natCast, w32_s]
          refine hk _ _ ⟨by omega, rfl, rfl, ?_⟩
          intro j hj
          by_cases hjt : j = t
          · rw [hjt]; exact hti
          · exact hno j (by omega)
      · rintro L μ1 ⟨hit, rfl, rfl, hno⟩
        have hk1 : knO V n i = true := kn_iff.mpr ⟨hm1, hno⟩
        rw [hk1] at hQ
        rw [x282_16]
        simp (disch := omega) only [x282_0, x282_1, x282_4, x282_5, x282_6, x282_7, x282_10, x282_11, x282_12, x282_13, x282_14, x282_15, x282_17, x282_18, x282_21, x282_22, x282_25, x282_26, x282_27, x282_28, x282_31, x282_32, x282_33, x282_36, x282_39, x282_40, ↓reduceIte, Bool.false_eq_true, Nat.reduceAdd, Nat.reduceLT, Nat.reduceLeDiff, Nat.reduceSub, Nat.reduceEqDiff, Int.reduceToNat, Int.reduceEq, Int.reduceLT, Int.reduceLE, Int.reduceAdd, Int.reduceSub, zg, zI, zJ, zR, zst, zkl, zn, zcat, zok, zraw, List.length_cons, List.length_nil, Option.toList, List.nil_append, List.cons_append, true_and, and_true, if_true, if_false, ne_eq, not_true, not_false_eq_true, and_self, true_or, or_true, false_or, or_false, false_and, and_false, Int.le_refl]
        exact hQ
    simp (disch := omega) only [x282_0, x282_1, x282_4, x282_5, x282_6, x282_7, x282_10, x282_11, x282_12, x282_13, x282_14, x282_15, x282_17, x282_18, x282_21, x282_22, x282_25, x282_26, x282_27, x282_28, x282_31, x282_32, x282_33, x282_36, x282_39, x282_40, ↓reduceIte, Bool.false_eq_true, Nat.reduceAdd, Nat.reduceLT, Nat.reduceLeDiff, Nat.reduceSub, Nat.reduceEqDiff, Int.reduceToNat, Int.reduceEq, Int.reduceLT, Int.reduceLE, Int.reduceAdd, Int.reduceSub, zg, zI, zJ, zR, zst, zkl, zn, zcat, zok, zraw, List.length_cons, List.length_nil, Option.toList, List.nil_append, List.cons_append, true_and, and_true, if_true, if_false, ne_eq, not_true, not_false_eq_true, and_self, true_or, or_true, false_or, or_false, false_and, and_false, b_138 hm, r_138_79 hm, x_193 hm, ei, hm1, Int.toNat_natCast, w32_s]
    refine key (i + 1) _ μ (by omega) ⟨Nat.le_refl _, rfl, rfl, ?_⟩
    intro j hj
    have hvj := hV.2 j (by omega)
    rcases hvj with h | h
    · rw [h.1]; omega
    · omega
  · have hk0 : knO V n i = false := by
      cases hk0 : knO V n i with
      | false => rfl
      | true => exact absurd (kn_iff.mp hk0).1 hm1
    rw [hk0] at hQ
    simp (disch := omega) only [x282_0, x282_1, x282_4, x282_5, x282_6, x282_7, x282_10, x282_11, x282_12, x282_13, x282_14, x282_15, x282_17, x282_18, x282_21, x282_22, x282_25, x282_26, x282_27, x282_28, x282_31, x282_32, x282_33, x282_36, x282_39, x282_40, ↓reduceIte, Bool.false_eq_true, Nat.reduceAdd, Nat.reduceLT, Nat.reduceLeDiff, Nat.reduceSub, Nat.reduceEqDiff, Int.reduceToNat, Int.reduceEq, Int.reduceLT, Int.reduceLE, Int.reduceAdd, Int.reduceSub, zg, zI, zJ, zR, zst, zkl, zn, zcat, zok, zraw, List.length_cons, List.length_nil, Option.toList, List.nil_append, List.cons_append, true_and, and_true, if_true, if_false, ne_eq, not_true, not_false_eq_true, and_self, true_or, or_true, false_or, or_false, false_and, and_false, b_138 hm, r_138_79 hm, x_193 hm, ei, hm1, Int.toNat_natCast]
    exact hQ
theorem mVillageOf {d n what : Nat} {x y c : Int} {x4 x5 x6 x7 : zV} (h : MX θ τ s μ) (hV : wfV V) (hC : MV2 V μ) (hd : 5 ≤ d) (hx : x = (n : Int)) (hn : n ≤ V.1) (hy : y = (what : Int)) (hw3 : what ≤ 3)
    (hQ : ∀ μ', Fr GM μ μ' → (∀ j, j ≠ 50 → μ' 138 j = μ 138 j) → Q (some (vi (vlO τ V n c what))) θ μ') : Ex d 284 0 [vr 138, vi x, vi c, vi y, x4, x5, x6, x7] [] θ μ Q := by
  subst hx
  subst hy
  have hm := h.1
  have hd0 : 0 < d := by omega
  have h60 := hV.1
  have key : ∀ t L μ1, t ≤ n → (∃ x6 x7, L = [vr 138, vi (n : Nat), vi c, vi (what : Nat), vi (sm (vlF τ V n c what) t), vi (t : Nat), x6, x7] ∧ Fr GM μ μ1 ∧ ∀ j, j ≠ 50 → μ1 138 j = μ 138 j) → Ex d 284 6 L [] θ μ1 Q := by
    refine Ex_loop (I := fun t L μ1 => ∃ x6 x7, L = [vr 138, vi (n : Nat), vi c, vi (what : Nat), vi (sm (vlF τ V n c what) t), vi (t : Nat), x6, x7] ∧ Fr GM μ μ1 ∧ ∀ j, j ≠ 50 → μ1 138 j = μ 138 j) n ?_ ?_
    · rintro t L μ1 ht ⟨x6, x7, rfl, hf, hj⟩ hk
      have i1 : ¬ ((n : Int) ≤ (t : Int)) := by omega
      have X1 : MX θ τ s μ1 := MX_fr h hf (by decide) (hj 18 (by decide))
      have C1 : MV2 V μ1 := MV2_fr hC hf (by decide) (hj 78 (by decide))
      have hb := vl_b (τ := τ) (V := V) (n := n) (c := c) (what := what) (m := t)
      have a1 : w32 (sm (vlF τ V n c what) t + 1) = sm (vlF τ V n c what) t + 1 := w32_i (by omega) (by omega)
      have hst : sm (vlF τ V n c what) (t + 1) = sm (vlF τ V n c what) t + vlF τ V n c what t := rfl
      rw [x284_6]
      simp (disch := omega) only [x284_0, x284_1, x284_3, x284_4, x284_8, x284_9, x284_12, x284_13, x284_15, x284_16, x284_19, x284_22, x284_25, x284_26, x284_27, x284_30, x284_32, x284_33, x284_34, x284_37, x284_39, x284_40, x284_41, x284_44, x284_46, x284_47, x284_50, x284_52, x284_53, x284_56, x284_58, x284_59, x284_60, x284_63, x284_64, x284_67, x284_68, x284_70, x284_71, x284_74, x284_75, x284_76, x284_79, x284_81, x284_84, x284_85, x284_86, x284_89, x284_91, x284_94, x284_95, x284_96, x284_99, x284_101, x284_104, x284_106, x284_109, x284_112, x284_115, x284_118, x284_120, ↓reduceIte, Bool.false_eq_true, Nat.reduceAdd, Nat.reduceLT, Nat.reduceLeDiff, Nat.reduceSub, Nat.reduceEqDiff, Int.reduceToNat, Int.reduceEq, Int.reduceLT, Int.reduceLE, Int.reduceAdd, Int.reduceSub, zg, zI, zJ, zR, zst, zkl, zn, zcat, zok, zraw, List.length_cons, List.length_nil, Option.toList, List.nil_append, List.cons_append, true_and, and_true, if_true, if_false, ne_eq, not_true, not_false_eq_true, and_self, true_or, or_true, false_or, or_false, false_and, and_false, b_138 hm, i1, hd0]
      refine mCounts (d := d - 1) hm hV C1 rfl rfl hn ht ?_
      cases hkt : knO V n t with
      | true =>
        obtain ⟨ev, eh⟩ := C1.2 t (by omega)
        obtain ⟨g1, g2, g3, g4⟩ := eh (kn_iff.mp hkt).1
        have hvt : vlF τ V n c what t = vtO τ V c what t := by unfold vlF; rw [if_pos hkt]
        simp (disch := omega) only [x284_0, x284_1, x284_3, x284_4, x284_8, x284_9, x284_12, x284_13, x284_15, x284_16, x284_19, x284_22, x284_25, x284_26, x284_27, x284_30, x284_32, x284_33, x284_34, x284_37, x284_39, x284_40, x284_41, x284_44, x284_46, x284_47, x284_50, x284_52, x284_53, x284_56, x284_58, x284_59, x284_60, x284_63, x284_64, x284_67, x284_68, x284_70, x284_71, x284_74, x284_75, x284_76, x284_79, x284_81, x284_84, x284_85, x284_86, x284_89, x284_91, x284_94, x284_95, x284_96, x284_99, x284_101, x284_104, x284_106, x284_109, x284_112, x284_115, x284_118, x284_120, ↓reduceIte, Bool.false_eq_true, Nat.reduceAdd, Nat.reduceLT, Nat.reduceLeDiff, Nat.reduceSub, Nat.reduceEqDiff, Int.reduceToNat, Int.reduceEq, Int.reduceLT, Int.reduceLE, Int.reduceAdd, Int.reduceSub, zg, zI, zJ, zR, zst, zkl, zn, zcat, zok, zraw, List.length_cons, List.length_nil, Option.toList, List.nil_append, List.cons_append, true_and, and_true, if_true, if_false, ne_eq, not_true, not_false_eq_true, and_self, true_or, or_true, false_or, or_false, false_and, and_false, b_138 hm, r_138_80 hm, x_194 hm, r_138_81 hm, x_195 hm, r_138_82 hm, x_196 hm, b2, g1, g2, g3, hd0, Int.toNat_natCast]
        refine mWarned (d := d - 1) X1 (by omega) ?_
        intro μ2 hf2 hj2
        have ew : b2 (holds τ 2 (wnV (V.2.1 t) (V.2.2.1 t) (V.2.2.2.1 t))) = waO τ V t := rfl
        have m197 : μ2 197 t = V.2.2.2.2.1 t := by rw [hf2 197 (by decide)]; exact g4
        have hwz := wa_z (τ := τ) (V := V) (i := t)
        have hf02 := hf.trans hf2
        have hj02 : ∀ j, j ≠ 50 → μ2 138 j = μ 138 j := fun j h' => by rw [hj2 j h', hj j h']
        have yes : vtO τ V c what t = 1 → ∀ y6 y7, Ex d 284 6 [vr 138, vi (n : Nat), vi c, vi (what : Nat), vi (sm (vlF τ V n c what) t + 1), vi ((t + 1 : Nat) : Int), y6, y7] [] θ μ2 Q := fun h1 y6 y7 => hk _ _ ⟨y6, y7, by rw [hst, hvt, h1], hf02, hj02⟩
        have no : vtO τ V c what t = 0 → ∀ y6 y7, Ex d 284 6 [vr 138, vi (n : Nat), vi c, vi (what : Nat), vi (sm (vlF τ V n c what) t), vi ((t + 1 : Nat) : Int), y6, y7] [] θ μ2 Q := fun h1 y6 y7 => hk _ _ ⟨y6, y7, by rw [hst, hvt, h1, Int.add_zero], hf02, hj02⟩
        have t1 : vtO τ V c 1 t = waO τ V t := rfl
        have t2 : vtO τ V c 2 t = huO V c t := rfl
        have t3 : vtO τ V c 3 t = if waO τ V t = 1 ∧ huO V c t = 1 then 1 else 0 := rfl
        rw [ew]
        have hw4 : what = 0 ∨ what = 1 ∨ what = 2 ∨ what = 3 := by omega
        have j0 : ((0 : Nat) : Int) = 0 := rfl
        have j1 : ((1 : Nat) : Int) = 1 := rfl
        have j2 : ((2 : Nat) : Int) = 2 := rfl
        have j3 : ((3 : Nat) : Int) = 3 := rfl
        by_cases hcc : c ≤ V.2.2.2.2.1 t
        · have hcn : ¬ V.2.2.2.2.1 t < c := by omega
          have hu1 : huO V c t = 1 := by unfold huO; rw [if_pos hcc]
          rcases hw4 with rfl | rfl | rfl | rfl <;> rcases hwz with hwa | hwa
          all_goals
            simp (disch := omega) only [x284_0, x284_1, x284_3, x284_4, x284_8, x284_9, x284_12, x284_13, x284_15, x284_16, x284_19, x284_22, x284_25, x284_26, x284_27, x284_30, x284_32, x284_33, x284_34, x284_37, x284_39, x284_40, x284_41, x284_44, x284_46, x284_47, x284_50, x284_52, x284_53, x284_56, x284_58, x284_59, x284_60, x284_63, x284_64, x284_67, x284_68, x284_70, x284_71, x284_74, x284_75, x284_76, x284_79, x284_81, x284_84, x284_85, x284_86, x284_89, x284_91, x284_94, x284_95, x284_96, x284_99, x284_101, x284_104, x284_106, x284_109, x284_112, x284_115, x284_118, x284_120, ↓reduceIte, Bool.false_eq_true, Nat.reduceAdd, Nat.reduceLT, Nat.reduceLeDiff, Nat.reduceSub, Nat.reduceEqDiff, Int.reduceToNat, Int.reduceEq, Int.reduceLT, Int.reduceLE, Int.reduceAdd, Int.reduceSub, zg, zI, zJ, zR, zst, zkl, zn, zcat, zok, zraw, List.length_cons, List.length_nil, Option.toList, List.nil_append, List.cons_append, true_and, and_true, if_true, if_false, ne_eq, not_true, not_false_eq_true, and_self, true_or, or_true, false_or, or_false, false_and, and_false, b_138 hm, r_138_83 hm, x_197 hm, m197, hcn, hwa, j0, j1, j2, j3, a1, Int.toNat_natCast, w32_s]
            first
            | exact yes rfl _ _
            | exact yes (by rw [t1, hwa]) _ _
            | exact yes (by rw [t2, hu1]) _ _
            | exact yes (by rw [t3, hwa, hu1]; rfl) _ _
            | exact no (by rw [t1, hwa]) _ _
            | exact no (by rw [t3, hwa]; simp) _ _
        · have hcn : V.2.2.2.2.1 t < c := by omega
          have hu1 : huO V c t = 0 := by unfold huO; rw [if_neg hcc]
          rcases hw4 with rfl | rfl | rfl | rfl <;> rcases hwz with hwa | hwa
          all_goals
            simp (disch := omega) only [x284_0, x284_1, x284_3, x284_4, x284_8, x284_9, x284_12, x284_13, x284_15, x284_16, x284_19, x284_22, x284_25, x284_26, x284_27, x284_30, x284_32, x284_33, x284_34, x284_37, x284_39, x284_40, x284_41, x284_44, x284_46, x284_47, x284_50, x284_52, x284_53, x284_56, x284_58, x284_59, x284_60, x284_63, x284_64, x284_67, x284_68, x284_70, x284_71, x284_74, x284_75, x284_76, x284_79, x284_81, x284_84, x284_85, x284_86, x284_89, x284_91, x284_94, x284_95, x284_96, x284_99, x284_101, x284_104, x284_106, x284_109, x284_112, x284_115, x284_118, x284_120, ↓reduceIte, Bool.false_eq_true, Nat.reduceAdd, Nat.reduceLT, Nat.reduceLeDiff, Nat.reduceSub, Nat.reduceEqDiff, Int.reduceToNat, Int.reduceEq, Int.reduceLT, Int.reduceLE, Int.reduceAdd, Int.reduceSub, zg, zI, zJ, zR, zst, zkl, zn, zcat, zok, zraw, List.length_cons, List.length_nil, Option.toList, List.nil_append, List.cons_append, true_and, and_true, if_true, if_false, ne_eq, not_true, not_false_eq_true, and_self, true_or, or_true, false_or, or_false, false_and, and_false, b_138 hm, r_138_83 hm, x_197 hm, m197, hcn, hwa, j0, j1, j2, j3, a1, Int.toNat_natCast, w32_s]
            first
            | exact yes rfl _ _
            | exact yes (by rw [t1, hwa]) _ _
            | exact no (by rw [t2, hu1]) _ _
            | exact no (by rw [t1, hwa]) _ _
            | exact no (by rw [t3, hwa, hu1]; simp) _ _
      | false =>
        have hvt : vlF τ V n c what t = 0 := by unfold vlF; rw [hkt]; rfl
        simp (disch := omega) only [x284_0, x284_1, x284_3, x284_4, x284_8, x284_9, x284_12, x284_13, x284_15, x284_16, x284_19, x284_22, x284_25, x284_26, x284_27, x284_30, x284_32, x284_33, x284_34, x284_37, x284_39, x284_40, x284_41, x284_44, x284_46, x284_47, x284_50, x284_52, x284_53, x284_56, x284_58, x284_59, x284_60, x284_63, x284_64, x284_67, x284_68, x284_70, x284_71, x284_74, x284_75, x284_76, x284_79, x284_81, x284_84, x284_85, x284_86, x284_89, x284_91, x284_94, x284_95, x284_96, x284_99, x284_101, x284_104, x284_106, x284_109, x284_112, x284_115, x284_118, x284_120, ↓reduceIte, Bool.false_eq_true, Nat.reduceAdd, Nat.reduceLT, Nat.reduceLeDiff, Nat.reduceSub, Nat.reduceEqDiff, Int.reduceToNat, Int.reduceEq, Int.reduceLT, Int.reduceLE, Int.reduceAdd, Int.reduceSub, zg, zI, zJ, zR, zst, zkl, zn, zcat, zok, zraw, List.length_cons, List.length_nil, Option.toList, List.nil_append, List.cons_append, true_and, and_true, if_true, if_false, ne_eq, not_true, not_false_eq_true, and_self, true_or, or_true, false_or, or_false, false_and, and_false, b2, w32_s]
        exact hk _ _ ⟨_, _, by rw [hst, hvt, Int.add_zero], hf, hj⟩
    · rintro L μ1 ⟨x6, x7, rfl, hf, hj⟩
      rw [x284_6]
      simp (disch := omega) only [x284_0, x284_1, x284_3, x284_4, x284_8, x284_9, x284_12, x284_13, x284_15, x284_16, x284_19, x284_22, x284_25, x284_26, x284_27, x284_30, x284_32, x284_33, x284_34, x284_37, x284_39, x284_40, x284_41, x284_44, x284_46, x284_47, x284_50, x284_52, x284_53, x284_56, x284_58, x284_59, x284_60, x284_63, x284_64, x284_67, x284_68, x284_70, x284_71, x284_74, x284_75, x284_76, x284_79, x284_81, x284_84, x284_85, x284_86, x284_89, x284_91, x284_94, x284_95, x284_96, x284_99, x284_101, x284_104, x284_106, x284_109, x284_112, x284_115, x284_118, x284_120, ↓reduceIte, Bool.false_eq_true, Nat.reduceAdd, Nat.reduceLT, Nat.reduceLeDiff, Nat.reduceSub, Nat.reduceEqDiff, Int.reduceToNat, Int.reduceEq, Int.reduceLT, Int.reduceLE, Int.reduceAdd, Int.reduceSub, zg, zI, zJ, zR, zst, zkl, zn, zcat, zok, zraw, List.length_cons, List.length_nil, Option.toList, List.nil_append, List.cons_append, true_and, and_true, if_true, if_false, ne_eq, not_true, not_false_eq_true, and_self, true_or, or_true, false_or, or_false, false_and, and_false, Int.le_refl]
      exact hQ μ1 hf hj
  simp (disch := omega) only [x284_0, x284_1, x284_3, x284_4, x284_8, x284_9, x284_12, x284_13, x284_15, x284_16, x284_19, x284_22, x284_25, x284_26, x284_27, x284_30, x284_32, x284_33, x284_34, x284_37, x284_39, x284_40, x284_41, x284_44, x284_46, x284_47, x284_50, x284_52, x284_53, x284_56, x284_58, x284_59, x284_60, x284_63, x284_64, x284_67, x284_68, x284_70, x284_71, x284_74, x284_75, x284_76, x284_79, x284_81, x284_84, x284_85, x284_86, x284_89, x284_91, x284_94, x284_95, x284_96, x284_99, x284_101, x284_104, x284_106, x284_109, x284_112, x284_115, x284_118, x284_120, ↓reduceIte, Bool.false_eq_true, Nat.reduceAdd, Nat.reduceLT, Nat.reduceLeDiff, Nat.reduceSub, Nat.reduceEqDiff, Int.reduceToNat, Int.reduceEq, Int.reduceLT, Int.reduceLE, Int.reduceAdd, Int.reduceSub, zg, zI, zJ, zR, zst, zkl, zn, zcat, zok, zraw, List.length_cons, List.length_nil, Option.toList, List.nil_append, List.cons_append, true_and, and_true, if_true, if_false, ne_eq, not_true, not_false_eq_true, and_self, true_or, or_true, false_or, or_false, false_and, and_false]
  exact key 0 _ μ (by omega) ⟨_, _, rfl, Fr.refl, fun _ _ => rfl⟩
theorem mPicks {d : Nat} {n k : Int} {x2 x3 x4 : zV} (hn : 0 ≤ n ∧ n ≤ 60) (hk : -100 ≤ k ∧ k ≤ 100) (hQ : Q (some (vl (pkO n k))) θ μ) : Ex d 286 0 [vi n, vi k, x2, x3, x4] [] θ μ Q := by
  unfold pkO at hQ
  by_cases h1 : k < 0
  · rw [if_pos (Or.inl h1)] at hQ
    simp (disch := omega) only [x286_0, x286_1, x286_4, x286_5, x286_6, x286_9, x286_10, x286_11, x286_12, x286_13, x286_14, x286_18, x286_19, x286_22, x286_23, x286_24, x286_25, x286_26, x286_28, x286_29, x286_30, x286_31, x286_33, x286_34, x286_35, x286_36, x286_39, x286_42, x286_43, ↓reduceIte, Bool.false_eq_true, Nat.reduceAdd, Nat.reduceLT, Nat.reduceLeDiff, Nat.reduceSub, Nat.reduceEqDiff, Int.reduceToNat, Int.reduceEq, Int.reduceLT, Int.reduceLE, Int.reduceAdd, Int.reduceSub, zg, zI, zJ, zR, zst, zkl, zn, zcat, zok, zraw, List.length_cons, List.length_nil, Option.toList, List.nil_append, List.cons_append, true_and, and_true, if_true, if_false, ne_eq, not_true, not_false_eq_true, and_self, true_or, or_true, false_or, or_false, false_and, and_false, h1]
    exact hQ
  · by_cases h2 : n < k
    · rw [if_pos (Or.inr h2)] at hQ
      have h3 : ¬ k ≤ n := by omega
      simp (disch := omega) only [x286_0, x286_1, x286_4, x286_5, x286_6, x286_9, x286_10, x286_11, x286_12, x286_13, x286_14, x286_18, x286_19, x286_22, x286_23, x286_24, x286_25, x286_26, x286_28, x286_29, x286_30, x286_31, x286_33, x286_34, x286_35, x286_36, x286_39, x286_42, x286_43, ↓reduceIte, Bool.false_eq_true, Nat.reduceAdd, Nat.reduceLT, Nat.reduceLeDiff, Nat.reduceSub, Nat.reduceEqDiff, Int.reduceToNat, Int.reduceEq, Int.reduceLT, Int.reduceLE, Int.reduceAdd, Int.reduceSub, zg, zI, zJ, zR, zst, zkl, zn, zcat, zok, zraw, List.length_cons, List.length_nil, Option.toList, List.nil_append, List.cons_append, true_and, and_true, if_true, if_false, ne_eq, not_true, not_false_eq_true, and_self, true_or, or_true, false_or, or_false, false_and, and_false, h1, h3]
      exact hQ
    · rw [if_neg (by omega)] at hQ
      have h3 : k ≤ n := by omega
      obtain ⟨K, hK⟩ : ∃ K : Nat, k = (K : Int) := ⟨k.toNat, by omega⟩
      subst hK
      rw [Int.toNat_natCast] at hQ
      have key : ∀ t L μ1, t ≤ K → (∃ y3, L = [vi n, vi (K : Nat), vl (pkL (n - K) t), y3, vi ((t + 1 : Nat) : Int)] ∧ μ1 = μ) → Ex d 286 16 L [] θ μ1 Q := by
        refine Ex_loop (I := fun t L μ1 => ∃ y3, L = [vi n, vi (K : Nat), vl (pkL (n - K) t), y3, vi ((t + 1 : Nat) : Int)] ∧ μ1 = μ) K ?_ ?_
        · rintro t L μ1 ht ⟨y3, rfl, rfl⟩ hkk
          have i1 : ¬ ((K : Int) < ((t + 1 : Nat) : Int)) := by omega
          have a1 : w32 (n - (K : Int)) = n - (K : Int) := w32_i (by omega) (by omega)
          have a2 : w32 (n - (K : Int) + ((t + 1 : Nat) : Int)) = n - (K : Int) + ((t + 1 : Nat) : Int) := w32_i (by omega) (by omega)
          have a3 : ¬ (((t + 1 : Nat) : Int) = 0) := by omega
          rw [x286_16]
          simp (disch := omega) only [x286_0, x286_1, x286_4, x286_5, x286_6, x286_9, x286_10, x286_11, x286_12, x286_13, x286_14, x286_18, x286_19, x286_22, x286_23, x286_24, x286_25, x286_26, x286_28, x286_29, x286_30, x286_31, x286_33, x286_34, x286_35, x286_36, x286_39, x286_42, x286_43, ↓reduceIte, Bool.false_eq_true, Nat.reduceAdd, Nat.reduceLT, Nat.reduceLeDiff, Nat.reduceSub, Nat.reduceEqDiff, Int.reduceToNat, Int.reduceEq, Int.reduceLT, Int.reduceLE, Int.reduceAdd, Int.reduceSub, zg, zI, zJ, zR, zst, zkl, zn, zcat, zok, zraw, List.length_cons, List.length_nil, Option.toList, List.nil_append, List.cons_append, true_and, and_true, if_true, if_false, ne_eq, not_true, not_false_eq_true, and_self, true_or, or_true, false_or, or_false, false_and, and_false, i1, a1, a2, a3, w32_s]
          exact hkk _ _ ⟨_, rfl, rfl⟩
        · rintro L μ1 ⟨y3, rfl, rfl⟩
          have i1 : ((K : Int) < ((K + 1 : Nat) : Int)) := by omega
          rw [x286_16]
          simp (disch := omega) only [x286_0, x286_1, x286_4, x286_5, x286_6, x286_9, x286_10, x286_11, x286_12, x286_13, x286_14, x286_18, x286_19, x286_22, x286_23, x286_24, x286_25, x286_26, x286_28, x286_29, x286_30, x286_31, x286_33, x286_34, x286_35, x286_36, x286_39, x286_42, x286_43, ↓reduceIte, Bool.false_eq_true, Nat.reduceAdd, Nat.reduceLT, Nat.reduceLeDiff, Nat.reduceSub, Nat.reduceEqDiff, Int.reduceToNat, Int.reduceEq, Int.reduceLT, Int.reduceLE, Int.reduceAdd, Int.reduceSub, zg, zI, zJ, zR, zst, zkl, zn, zcat, zok, zraw, List.length_cons, List.length_nil, Option.toList, List.nil_append, List.cons_append, true_and, and_true, if_true, if_false, ne_eq, not_true, not_false_eq_true, and_self, true_or, or_true, false_or, or_false, false_and, and_false, i1]
          exact hQ
      simp (disch := omega) only [x286_0, x286_1, x286_4, x286_5, x286_6, x286_9, x286_10, x286_11, x286_12, x286_13, x286_14, x286_18, x286_19, x286_22, x286_23, x286_24, x286_25, x286_26, x286_28, x286_29, x286_30, x286_31, x286_33, x286_34, x286_35, x286_36, x286_39, x286_42, x286_43, ↓reduceIte, Bool.false_eq_true, Nat.reduceAdd, Nat.reduceLT, Nat.reduceLeDiff, Nat.reduceSub, Nat.reduceEqDiff, Int.reduceToNat, Int.reduceEq, Int.reduceLT, Int.reduceLE, Int.reduceAdd, Int.reduceSub, zg, zI, zJ, zR, zst, zkl, zn, zcat, zok, zraw, List.length_cons, List.length_nil, Option.toList, List.nil_append, List.cons_append, true_and, and_true, if_true, if_false, ne_eq, not_true, not_false_eq_true, and_self, true_or, or_true, false_or, or_false, false_and, and_false, h1, h3]
      exact key 0 _ μ (by omega) ⟨_, rfl, rfl⟩
end MZ
