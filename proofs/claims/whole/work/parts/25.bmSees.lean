/-! THE REFERENCE: VARS, laws, lift, landing -/
section MV
variable {θ : zS} {τ : zT} {s : Nat} {Q : Option zV → zS → zM → Prop} {μ : zM} {ρ : zF} {lost l0 : Nat → Int} {g w : Int}
theorem mSees {d : Nat} {x2 : zV} (hd : 2 ≤ d) (h : MX θ τ s μ) {t : Nat} (ht : t < tn τ) (hQ : ∀ μ', Fr [170] μ μ' → (∀ j, j < 13 → μ' 170 j = v0 τ t j) → Q none θ μ') : Ex d 201 0 [vr 138, vi (t : Nat), x2] [] θ μ Q := by
  have hX := h
  have hd0 : 0 < d := by omega
  have hm := h.1
  have hm3 : ((t : Int)).tmod 3 = ((t % 3 : Nat) : Int) := by rw [Int.tmod_eq_emod_of_nonneg (by omega)]; omega
  have key : ∀ k L μ1, k ≤ 13 → (L = [vr 138, vi (t : Nat), vi (k : Nat)] ∧ Fr [170] μ μ1 ∧ ∀ j, j < k → μ1 170 j = 0) → Ex d 201 2 L [] θ μ1 Q := by
    refine Ex_loop (I := fun k L μ1 => L = [vr 138, vi (t : Nat), vi (k : Nat)] ∧ Fr [170] μ μ1 ∧ ∀ j, j < k → μ1 170 j = 0) 13 ?_ ?_
    · rintro k L μ1 hk1 ⟨rfl, hf, ha⟩ hk
      have i1 : ¬ ((13 : Int) ≤ (k : Int)) := by omega
      rw [x201_2]
      simp (disch := omega) only [x201_0, x201_1, x201_3, x201_5, x201_8, x201_9, x201_12, x201_13, x201_14, x201_15, x201_18, x201_21, x201_22, x201_25, x201_26, x201_27, x201_28, x201_31, x201_32, x201_33, x201_36, x201_37, x201_38, x201_39, x201_42, x201_43, x201_44, x201_47, x201_48, x201_49, x201_50, x201_51, x201_52, x201_53, x201_56, x201_57, x201_58, x201_59, x201_62, x201_63, ↓reduceIte, Bool.false_eq_true, Nat.reduceAdd, Nat.reduceLT, Nat.reduceLeDiff, Nat.reduceSub, Nat.reduceEqDiff, Int.reduceToNat, Int.reduceEq, Int.reduceLT, Int.reduceLE, Int.reduceAdd, Int.reduceSub, zg, zI, zJ, zR, zst, zkl, zn, zcat, zok, zraw, List.length_cons, List.length_nil, Option.toList, List.nil_append, List.cons_append, true_and, and_true, if_true, if_false, ne_eq, not_true, not_false_eq_true, and_self, true_or, or_true, false_or, or_false, false_and, and_false, b_138 hm, r_138_48 hm, x_170 hm, i1, Int.toNat_natCast, w32_s, ua_eq]
      apply hk
      refine ⟨rfl, Fr.us (by decide) hf, ?_⟩
      intro j hj
      rw [us_same, zup_ap]
      by_cases h1 : j = k
      · rw [if_pos h1]
      · rw [if_neg h1]; exact ha j (by omega)
    · rintro L μ1 ⟨rfl, hf, ha⟩
      have X1 : MX θ τ s μ1 := MX_fr hX hf (by decide) (by rw [hf 138 (by decide)])
      have i13 : (13 : Int) ≤ ((13 : Nat) : Int) := by decide
      rw [x201_2]
      simp (disch := omega) only [x201_0, x201_1, x201_3, x201_5, x201_8, x201_9, x201_12, x201_13, x201_14, x201_15, x201_18, x201_21, x201_22, x201_25, x201_26, x201_27, x201_28, x201_31, x201_32, x201_33, x201_36, x201_37, x201_38, x201_39, x201_42, x201_43, x201_44, x201_47, x201_48, x201_49, x201_50, x201_51, x201_52, x201_53, x201_56, x201_57, x201_58, x201_59, x201_62, x201_63, ↓reduceIte, Bool.false_eq_true, Nat.reduceAdd, Nat.reduceLT, Nat.reduceLeDiff, Nat.reduceSub, Nat.reduceEqDiff, Int.reduceToNat, Int.reduceEq, Int.reduceLT, Int.reduceLE, Int.reduceAdd, Int.reduceSub, zg, zI, zJ, zR, zst, zkl, zn, zcat, zok, zraw, List.length_cons, List.length_nil, Option.toList, List.nil_append, List.cons_append, true_and, and_true, if_true, if_false, ne_eq, not_true, not_false_eq_true, and_self, true_or, or_true, false_or, or_false, false_and, and_false, b_138 hm, r_138_48 hm, x_170 hm, hd0, i13, mRow _ X1 ht]
      have X2 : MX θ τ s (ua μ1 170 0 (rwO τ t : Nat)) := MX_fr hX (Fr.ua (by decide) hf) (by decide) (by rw [ua_eq, us_ne (by decide), hf 138 (by decide)])
      simp (disch := omega) only [x201_0, x201_1, x201_3, x201_5, x201_8, x201_9, x201_12, x201_13, x201_14, x201_15, x201_18, x201_21, x201_22, x201_25, x201_26, x201_27, x201_28, x201_31, x201_32, x201_33, x201_36, x201_37, x201_38, x201_39, x201_42, x201_43, x201_44, x201_47, x201_48, x201_49, x201_50, x201_51, x201_52, x201_53, x201_56, x201_57, x201_58, x201_59, x201_62, x201_63, ↓reduceIte, Bool.false_eq_true, Nat.reduceAdd, Nat.reduceLT, Nat.reduceLeDiff, Nat.reduceSub, Nat.reduceEqDiff, Int.reduceToNat, Int.reduceEq, Int.reduceLT, Int.reduceLE, Int.reduceAdd, Int.reduceSub, zg, zI, zJ, zR, zst, zkl, zn, zcat, zok, zraw, List.length_cons, List.length_nil, Option.toList, List.nil_append, List.cons_append, true_and, and_true, if_true, if_false, ne_eq, not_true, not_false_eq_true, and_self, true_or, or_true, false_or, or_false, false_and, and_false, b_138 hm, r_138_48 hm, x_170 hm, hd0, mCol _ X2 ht, hm3]
      refine mEdge (s := s) (d := d - 1) (by omega) ?_ ht ?_
      · refine MX_fr (A := [170]) hX ?_ (by decide) ?_
        · exact Fr.ua (by decide) (Fr.ua (by decide) (Fr.ua (by decide) hf))
        · rw [ua_eq, us_ne (by decide), ua_eq, us_ne (by decide), ua_eq, us_ne (by decide), hf 138 (by decide)]
      simp (disch := omega) only [x201_0, x201_1, x201_3, x201_5, x201_8, x201_9, x201_12, x201_13, x201_14, x201_15, x201_18, x201_21, x201_22, x201_25, x201_26, x201_27, x201_28, x201_31, x201_32, x201_33, x201_36, x201_37, x201_38, x201_39, x201_42, x201_43, x201_44, x201_47, x201_48, x201_49, x201_50, x201_51, x201_52, x201_53, x201_56, x201_57, x201_58, x201_59, x201_62, x201_63, ↓reduceIte, Bool.false_eq_true, Nat.reduceAdd, Nat.reduceLT, Nat.reduceLeDiff, Nat.reduceSub, Nat.reduceEqDiff, Int.reduceToNat, Int.reduceEq, Int.reduceLT, Int.reduceLE, Int.reduceAdd, Int.reduceSub, zg, zI, zJ, zR, zst, zkl, zn, zcat, zok, zraw, List.length_cons, List.length_nil, Option.toList, List.nil_append, List.cons_append, true_and, and_true, if_true, if_false, ne_eq, not_true, not_false_eq_true, and_self, true_or, or_true, false_or, or_false, false_and, and_false, b_138 hm, r_138_48 hm, x_170 hm, hd0, ua_eq, us_same, us_us]
      refine hQ _ (Fr.us (by decide) hf) ?_
      intro j hj
      rw [us_same]
      unfold v0
      have : j = 0 ∨ j = 1 ∨ j = 2 ∨ j = 3 ∨ 4 ≤ j := by omega
      rcases this with rfl | rfl | rfl | rfl | h4
      · simp [zup_ap]
      · simp [zup_ap]
      · simp [zup_ap]
      · simp [zup_ap]
      · rw [zup_ne (by omega), zup_ne (by omega), zup_ne (by omega), zup_ne (by omega), ha j hj, if_neg (by omega), if_neg (by omega), if_neg (by omega), if_neg (by omega)]
  simp (disch := omega) only [x201_0, x201_1, x201_3, x201_5, x201_8, x201_9, x201_12, x201_13, x201_14, x201_15, x201_18, x201_21, x201_22, x201_25, x201_26, x201_27, x201_28, x201_31, x201_32, x201_33, x201_36, x201_37, x201_38, x201_39, x201_42, x201_43, x201_44, x201_47, x201_48, x201_49, x201_50, x201_51, x201_52, x201_53, x201_56, x201_57, x201_58, x201_59, x201_62, x201_63, ↓reduceIte, Bool.false_eq_true, Nat.reduceAdd, Nat.reduceLT, Nat.reduceLeDiff, Nat.reduceSub, Nat.reduceEqDiff, Int.reduceToNat, Int.reduceEq, Int.reduceLT, Int.reduceLE, Int.reduceAdd, Int.reduceSub, zg, zI, zJ, zR, zst, zkl, zn, zcat, zok, zraw, List.length_cons, List.length_nil, Option.toList, List.nil_append, List.cons_append, true_and, and_true, if_true, if_false, ne_eq, not_true, not_false_eq_true, and_self, true_or, or_true, false_or, or_false, false_and, and_false]
  exact key 0 _ μ (by omega) ⟨rfl, Fr.refl, fun j hj => absurd hj (by omega)⟩
end MV
