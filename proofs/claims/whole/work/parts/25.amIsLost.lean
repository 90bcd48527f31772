/-! THE REFERENCE: VARS, laws, lift, landing -/
section MV
variable {θ : zS} {τ : zT} {s : Nat} {Q : Option zV → zS → zM → Prop} {μ : zM} {ρ : zF} {lost l0 : Nat → Int} {g w : Int}
theorem mIsLost {d : Nat} {r c : Int} (hd : 1 ≤ d) (h : MX θ τ s μ) (hO : MO τ lost μ) {L : Int} (hL : L = if (0 ≤ r ∧ r + 1 ≤ tr τ) ∧ 0 ≤ c ∧ c + 1 ≤ tc τ then lost (r.toNat * tc τ + c.toNat) else 0)
    (hQ : Q (some (vi L)) θ μ) : Ex d 217 0 [vr 138, vi r, vi c] [] θ μ Q := by
  have hrc := MX_rc h
  have n1 := tr_b h.2.1
  have n2 := tc_b h.2.1
  have hn := tn_b h.2.1
  obtain ⟨hm, hw, hT, h18, hs⟩ := h
  have hd0 : 0 < d := by omega
  have r1 : w32 ((tr τ : Int) - 1) = ((tr τ - 1 : Nat) : Int) := w32_s1 (by omega) (by omega)
  have r2 : w32 ((tc τ : Int) - 1) = ((tc τ - 1 : Nat) : Int) := w32_s1 (by omega) (by omega)
  by_cases a1 : 0 ≤ r ∧ r + 1 ≤ tr τ
  · by_cases a2 : 0 ≤ c ∧ c + 1 ≤ tc τ
    · obtain ⟨R, rfl⟩ : ∃ R : Nat, r = R := ⟨r.toNat, by omega⟩
      obtain ⟨C, rfl⟩ : ∃ C : Nat, c = C := ⟨c.toNat, by omega⟩
      have hRC : R * tc τ + C < tn τ := by
        have h1 := Nat.mul_le_mul_right (tc τ) (show R + 1 ≤ tr τ by omega)
        rw [Nat.add_mul, Nat.one_mul] at h1
        have h2 : tn τ = tr τ * tc τ := rfl
        omega
      rw [if_pos ⟨a1, a2⟩] at hL
      simp only [Int.toNat_natCast] at hL
      have q1 : ((0 : Int) ≤ (R : Int) ∧ (R : Int) ≤ ((tr τ - 1 : Nat) : Int)) = True := by simp; omega
      have q2 : ((0 : Int) ≤ (C : Int) ∧ (C : Int) ≤ ((tc τ - 1 : Nat) : Int)) = True := by simp; omega
      have e := hO.2 _ hRC
      have hz := hO.1 (R * tc τ + C)
      rw [hL] at hQ
      rcases hz with hz | hz
      · simp (disch := omega) only [x217_0, x217_1, x217_2, x217_3, x217_6, x217_7, x217_10, x217_11, x217_12, x217_13, x217_16, x217_19, x217_20, x217_21, x217_22, x217_25, x217_26, x217_29, x217_30, x217_31, x217_32, x217_35, x217_38, x217_39, x217_42, x217_43, x217_44, x217_47, x217_48, x217_51, x217_52, x217_53, x217_54, x217_55, x217_56, x217_59, x217_60, x217_63, x217_64, ↓reduceIte, Bool.false_eq_true, Nat.reduceAdd, Nat.reduceLT, Nat.reduceLeDiff, Nat.reduceSub, Nat.reduceEqDiff, Int.reduceToNat, Int.reduceEq, Int.reduceLT, Int.reduceLE, Int.reduceAdd, Int.reduceSub, zg, zI, zJ, zR, zst, zkl, zn, zcat, zok, zraw, List.length_cons, List.length_nil, Option.toList, List.nil_append, List.cons_append, true_and, and_true, if_true, if_false, ne_eq, not_true, not_false_eq_true, and_self, true_or, or_true, false_or, or_false, false_and, and_false, b_138 hm, r_138_22 hm, x_147 hm, r_138_23 hm, x_148 hm, r_138_66 hm, x_184 hm, n_184 hm, hd0, h18, hrc.1, hrc.2.1, Int.toNat_natCast, r1, r2, mIn, q1, q2, w32_mul, w32_add, e, hz]
        rw [hz] at hQ; exact hQ
      · simp (disch := omega) only [x217_0, x217_1, x217_2, x217_3, x217_6, x217_7, x217_10, x217_11, x217_12, x217_13, x217_16, x217_19, x217_20, x217_21, x217_22, x217_25, x217_26, x217_29, x217_30, x217_31, x217_32, x217_35, x217_38, x217_39, x217_42, x217_43, x217_44, x217_47, x217_48, x217_51, x217_52, x217_53, x217_54, x217_55, x217_56, x217_59, x217_60, x217_63, x217_64, ↓reduceIte, Bool.false_eq_true, Nat.reduceAdd, Nat.reduceLT, Nat.reduceLeDiff, Nat.reduceSub, Nat.reduceEqDiff, Int.reduceToNat, Int.reduceEq, Int.reduceLT, Int.reduceLE, Int.reduceAdd, Int.reduceSub, zg, zI, zJ, zR, zst, zkl, zn, zcat, zok, zraw, List.length_cons, List.length_nil, Option.toList, List.nil_append, List.cons_append, true_and, and_true, if_true, if_false, ne_eq, not_true, not_false_eq_true, and_self, true_or, or_true, false_or, or_false, false_and, and_false, b_138 hm, r_138_22 hm, x_147 hm, r_138_23 hm, x_148 hm, r_138_66 hm, x_184 hm, n_184 hm, hd0, h18, hrc.1, hrc.2.1, Int.toNat_natCast, r1, r2, mIn, q1, q2, w32_mul, w32_add, e, hz]
        rw [hz] at hQ; exact hQ
    · rw [if_neg (fun hh => a2 hh.2)] at hL
      have q1 : ((0 : Int) ≤ r ∧ r ≤ ((tr τ - 1 : Nat) : Int)) = True := by simp; omega
      have q2 : ((0 : Int) ≤ c ∧ c ≤ ((tc τ - 1 : Nat) : Int)) = False := by simp; omega
      simp (disch := omega) only [x217_0, x217_1, x217_2, x217_3, x217_6, x217_7, x217_10, x217_11, x217_12, x217_13, x217_16, x217_19, x217_20, x217_21, x217_22, x217_25, x217_26, x217_29, x217_30, x217_31, x217_32, x217_35, x217_38, x217_39, x217_42, x217_43, x217_44, x217_47, x217_48, x217_51, x217_52, x217_53, x217_54, x217_55, x217_56, x217_59, x217_60, x217_63, x217_64, ↓reduceIte, Bool.false_eq_true, Nat.reduceAdd, Nat.reduceLT, Nat.reduceLeDiff, Nat.reduceSub, Nat.reduceEqDiff, Int.reduceToNat, Int.reduceEq, Int.reduceLT, Int.reduceLE, Int.reduceAdd, Int.reduceSub, zg, zI, zJ, zR, zst, zkl, zn, zcat, zok, zraw, List.length_cons, List.length_nil, Option.toList, List.nil_append, List.cons_append, true_and, and_true, if_true, if_false, ne_eq, not_true, not_false_eq_true, and_self, true_or, or_true, false_or, or_false, false_and, and_false, b_138 hm, r_138_22 hm, x_147 hm, r_138_23 hm, x_148 hm, r_138_66 hm, x_184 hm, n_184 hm, hd0, h18, hrc.1, hrc.2.1, Int.toNat_natCast, r1, r2, mIn, q1, q2]
      rw [hL] at hQ; exact hQ
  · rw [if_neg (fun hh => a1 hh.1)] at hL
    have q1 : ((0 : Int) ≤ r ∧ r ≤ ((tr τ - 1 : Nat) : Int)) = False := by simp; omega
    simp (disch := omega) only [x217_0, x217_1, x217_2, x217_3, x217_6, x217_7, x217_10, x217_11, x217_12, x217_13, x217_16, x217_19, x217_20, x217_21, x217_22, x217_25, x217_26, x217_29, x217_30, x217_31, x217_32, x217_35, x217_38, x217_39, x217_42, x217_43, x217_44, x217_47, x217_48, x217_51, x217_52, x217_53, x217_54, x217_55, x217_56, x217_59, x217_60, x217_63, x217_64, ↓reduceIte, Bool.false_eq_true, Nat.reduceAdd, Nat.reduceLT, Nat.reduceLeDiff, Nat.reduceSub, Nat.reduceEqDiff, Int.reduceToNat, Int.reduceEq, Int.reduceLT, Int.reduceLE, Int.reduceAdd, Int.reduceSub, zg, zI, zJ, zR, zst, zkl, zn, zcat, zok, zraw, List.length_cons, List.length_nil, Option.toList, List.nil_append, List.cons_append, true_and, and_true, if_true, if_false, ne_eq, not_true, not_false_eq_true, and_self, true_or, or_true, false_or, or_false, false_and, and_false, b_138 hm, r_138_22 hm, x_147 hm, r_138_23 hm, x_148 hm, r_138_66 hm, x_184 hm, n_184 hm, hd0, h18, hrc.1, hrc.2.1, Int.toNat_natCast, r1, r2, mIn, q1]
    rw [hL] at hQ; exact hQ
end MV
