/-! THE REFERENCE: laws, lift, landing, falls -/
section MF
variable {θ : zS} {τ : zT} {s : Nat} {Q : Option zV → zS → zM → Prop} {μ : zM} {ρ : zF} {lost l0 : Nat → Int} {g w : Int}
theorem mSays {d k : Nat} {x u : Int} {v : Nat → Int} {x3 : zV} (hd : 1 ≤ d) (h : MX θ τ s μ) (hx : x = (k : Int)) (hk : k < 4) (hv : ∀ j, j < 13 → μ 170 j = v j)
    (hQ : ∀ μ', Fr [138, 171] μ μ' → (∀ j, j ≠ 50 → μ' 138 j = μ 138 j) → Q (some (vi (says τ k v u))) θ μ') : Ex d 219 0 [vr 138, vi x, vi u, x3] [] θ μ Q := by
  subst hx
  have hX := h
  obtain ⟨hm, hw, hT, h18, hs⟩ := h
  have hd0 : 0 < d := by omega
  have hl := hT.2.2.1 k hk
  have i4 : w32 (4 * (s : Int)) = ((4 * s : Nat) : Int) := by unfold w32; omega
  cases hlaw : tL τ k with
  | none =>
    rw [hlaw] at hl
    simp only at hl
    have hq := hQ μ Fr.refl (fun _ _ => rfl)
    unfold says at hq
    rw [hlaw] at hq
    simp (disch := omega) only [x219_0, x219_1, x219_4, x219_5, x219_6, x219_9, x219_10, x219_11, x219_12, x219_13, x219_16, x219_17, x219_18, x219_19, x219_20, x219_23, x219_24, x219_25, x219_28, x219_29, x219_30, x219_31, x219_32, x219_33, x219_36, x219_37, x219_38, x219_41, x219_42, x219_43, x219_44, x219_45, x219_48, x219_49, x219_50, x219_53, x219_56, x219_57, x219_60, x219_61, ↓reduceIte, Bool.false_eq_true, Nat.reduceAdd, Nat.reduceLT, Nat.reduceLeDiff, Nat.reduceSub, Nat.reduceEqDiff, Int.reduceToNat, Int.reduceEq, Int.reduceLT, Int.reduceLE, Int.reduceAdd, Int.reduceSub, zg, zI, zJ, zR, zst, zkl, zn, zcat, zok, zraw, List.length_cons, List.length_nil, Option.toList, List.nil_append, List.cons_append, true_and, and_true, if_true, if_false, ne_eq, not_true, not_false_eq_true, and_self, true_or, or_true, false_or, or_false, false_and, and_false, b_138 hm, r_138_29 hm, x_154 hm, n_154 hm, h18, i4, w32_add, Int.toNat_natCast, hl]
    exact hq
  | some c =>
    rw [hlaw] at hl
    simp only at hl
    have hwc := hw.2.2.2.2.2.2.1 k c hk hlaw
    simp (disch := omega) only [x219_0, x219_1, x219_4, x219_5, x219_6, x219_9, x219_10, x219_11, x219_12, x219_13, x219_16, x219_17, x219_18, x219_19, x219_20, x219_23, x219_24, x219_25, x219_28, x219_29, x219_30, x219_31, x219_32, x219_33, x219_36, x219_37, x219_38, x219_41, x219_42, x219_43, x219_44, x219_45, x219_48, x219_49, x219_50, x219_53, x219_56, x219_57, x219_60, x219_61, ↓reduceIte, Bool.false_eq_true, Nat.reduceAdd, Nat.reduceLT, Nat.reduceLeDiff, Nat.reduceSub, Nat.reduceEqDiff, Int.reduceToNat, Int.reduceEq, Int.reduceLT, Int.reduceLE, Int.reduceAdd, Int.reduceSub, zg, zI, zJ, zR, zst, zkl, zn, zcat, zok, zraw, List.length_cons, List.length_nil, Option.toList, List.nil_append, List.cons_append, true_and, and_true, if_true, if_false, ne_eq, not_true, not_false_eq_true, and_self, true_or, or_true, false_or, or_false, false_and, and_false, b_138 hm, r_138_29 hm, x_154 hm, n_154 hm, r_138_30 hm, x_155 hm, r_138_31 hm, x_156 hm, h18, i4, w32_add, Int.toNat_natCast, hl.1, hd0]
    refine mTerm hm hl.2 hwc hv ?_
    intro μ1 y hf hj hy
    have hq := hQ μ1 hf hj
    unfold says at hq
    rw [hlaw] at hq
    simp only at hq
    rcases hy with ⟨e1, e2, e3⟩ | ⟨e1, e3⟩
    · rw [e1] at hq
      simp (disch := omega) only [x219_0, x219_1, x219_4, x219_5, x219_6, x219_9, x219_10, x219_11, x219_12, x219_13, x219_16, x219_17, x219_18, x219_19, x219_20, x219_23, x219_24, x219_25, x219_28, x219_29, x219_30, x219_31, x219_32, x219_33, x219_36, x219_37, x219_38, x219_41, x219_42, x219_43, x219_44, x219_45, x219_48, x219_49, x219_50, x219_53, x219_56, x219_57, x219_60, x219_61, ↓reduceIte, Bool.false_eq_true, Nat.reduceAdd, Nat.reduceLT, Nat.reduceLeDiff, Nat.reduceSub, Nat.reduceEqDiff, Int.reduceToNat, Int.reduceEq, Int.reduceLT, Int.reduceLE, Int.reduceAdd, Int.reduceSub, zg, zI, zJ, zR, zst, zkl, zn, zcat, zok, zraw, List.length_cons, List.length_nil, Option.toList, List.nil_append, List.cons_append, true_and, and_true, if_true, if_false, ne_eq, not_true, not_false_eq_true, and_self, true_or, or_true, false_or, or_false, false_and, and_false, b_138 hm, e3]
      exact hq
    · rw [e1] at hq
      simp (disch := omega) only [x219_0, x219_1, x219_4, x219_5, x219_6, x219_9, x219_10, x219_11, x219_12, x219_13, x219_16, x219_17, x219_18, x219_19, x219_20, x219_23, x219_24, x219_25, x219_28, x219_29, x219_30, x219_31, x219_32, x219_33, x219_36, x219_37, x219_38, x219_41, x219_42, x219_43, x219_44, x219_45, x219_48, x219_49, x219_50, x219_53, x219_56, x219_57, x219_60, x219_61, ↓reduceIte, Bool.false_eq_true, Nat.reduceAdd, Nat.reduceLT, Nat.reduceLeDiff, Nat.reduceSub, Nat.reduceEqDiff, Int.reduceToNat, Int.reduceEq, Int.reduceLT, Int.reduceLE, Int.reduceAdd, Int.reduceSub, zg, zI, zJ, zR, zst, zkl, zn, zcat, zok, zraw, List.length_cons, List.length_nil, Option.toList, List.nil_append, List.cons_append, true_and, and_true, if_true, if_false, ne_eq, not_true, not_false_eq_true, and_self, true_or, or_true, false_or, or_false, false_and, and_false, b_138 hm, e3]
      exact hq
theorem mHolding {d : Nat} {x2 : zV} (hd : 2 ≤ d) (h : MX θ τ s μ) (hL : ML τ ρ μ) (hO : MO τ lost μ) {t : Nat} (ht : t < tn τ) (hv : ∀ j, j < 13 → μ 170 j = va τ ρ lost t g w j)
    (hQ : ∀ μ', Fr [138, 171] μ μ' → (∀ j, j ≠ 50 → μ' 138 j = μ 138 j) → Q (some (vi (hoO τ ρ lost t g w))) θ μ') : Ex d 222 0 [vr 138, vi (t : Nat), x2] [] θ μ Q := by
  have hX := h
  have hrc := MX_rc h
  have n1 := tr_b h.2.1
  have n2 := tc_b h.2.1
  have hn := tn_b h.2.1
  obtain ⟨b1, b2, b3⟩ := rw_b h.2.1 ht
  obtain ⟨hm, hw, hT, h18, hs⟩ := h
  have hd0 : 0 < d := by omega
  have i6 : w32 (6 * (s : Int)) = ((6 * s : Nat) : Int) := by unfold w32; omega
  have t0 := hT.1.2.2.2 0 (by decide); have t1 := hT.1.2.2.2 1 (by decide); have t2 := hT.1.2.2.2 2 (by decide); have t3 := hT.1.2.2.2 3 (by decide)
  simp only [Nat.add_zero, Nat.zero_add, Nat.reduceAdd] at t0 t1 t2 t3
  have w3 := hw.2.2.2.1 3 (by decide) (by decide); have w4 := hw.2.2.2.1 4 (by decide) (by decide); have w5 := hw.2.2.2.1 5 (by decide) (by decide); have w6 := hw.2.2.2.1 6 (by decide) (by decide)
  obtain ⟨f1, f2, f3, f4⟩ := hL.2.1 t ht
  have fw := hL.1.1 t ht
  have hup : rwO τ t + 1 < tr τ ↔ t + tc τ < tn τ := by
    have hn' : tn τ = tr τ * tc τ := rfl
    constructor
    · intro hlt
      have h1 := Nat.mul_le_mul_right (tc τ) (show rwO τ t + 2 ≤ tr τ by omega)
      rw [Nat.add_mul] at h1
      omega
    · intro hlt
      rcases Nat.lt_or_ge (rwO τ t + 1) (tr τ) with h1 | h1
      · exact h1
      · have h2 := Nat.mul_le_mul_right (tc τ) h1
        rw [Nat.add_mul] at h2
        omega
  have hs2 := hQ
  unfold hoO hoB at hs2
  have i7 : ∀ k : Nat, k ≤ 5 → w32 (((6 * s : Nat) : Int) + (k : Int)) = ((6 * s + k : Nat) : Int) := fun k hk => w32_add (by omega)
  have i71 := i7 1 (by decide); have i72 := i7 2 (by decide); have i73 := i7 3 (by decide)
  have j1 : ((1 : Nat) : Int) = 1 := rfl
  have j2 : ((2 : Nat) : Int) = 2 := rfl
  have j3 : ((3 : Nat) : Int) = 3 := rfl
  rw [j1] at i71; rw [j2] at i72; rw [j3] at i73
  have a0 : w32 (tN τ 3 + ρ.1 4 t) = tN τ 3 + ρ.1 4 t := w32_i (by omega) (by omega)
  have a1 : w32 (tN τ 5 - ρ.1 3 t) = tN τ 5 - ρ.1 3 t := w32_i (by omega) (by omega)
  have hh : heldO (tN τ 5 - ρ.1 3 t) 99 = (if ρ.1 3 t < tN τ 5 then tN τ 5 - ρ.1 3 t else 0) := by unfold heldO; omega
  -- from the last sum on
  have fin : ∀ (n : Int) , n = hoB τ ρ lost t → Ex d 222 139 [vr 138, vi (t : Nat), vi n] [] θ μ Q := by
    intro n hn'
    simp (disch := omega) only [x222_0, x222_1, x222_4, x222_6, x222_7, x222_10, x222_11, x222_12, x222_13, x222_16, x222_17, x222_18, x222_19, x222_20, x222_21, x222_22, x222_25, x222_26, x222_27, x222_28, x222_31, x222_32, x222_35, x222_36, x222_39, x222_40, x222_43, x222_44, x222_45, x222_48, x222_49, x222_52, x222_53, x222_54, x222_55, x222_58, x222_59, x222_60, x222_63, x222_65, x222_66, x222_69, x222_70, x222_71, x222_72, x222_73, x222_74, x222_75, x222_76, x222_79, x222_80, x222_81, x222_84, x222_85, x222_86, x222_89, x222_91, x222_92, x222_95, x222_96, x222_97, x222_98, x222_99, x222_100, x222_103, x222_104, x222_105, x222_106, x222_108, x222_111, x222_112, x222_113, x222_114, x222_117, x222_118, x222_119, x222_122, x222_123, x222_124, x222_127, x222_129, x222_130, x222_133, x222_134, x222_135, x222_136, x222_137, x222_138, x222_139, x222_140, x222_141, x222_142, x222_143, x222_146, x222_147, ↓reduceIte, Bool.false_eq_true, Nat.reduceAdd, Nat.reduceLT, Nat.reduceLeDiff, Nat.reduceSub, Nat.reduceEqDiff, Int.reduceToNat, Int.reduceEq, Int.reduceLT, Int.reduceLE, Int.reduceAdd, Int.reduceSub, zg, zI, zJ, zR, zst, zkl, zn, zcat, zok, zraw, List.length_cons, List.length_nil, Option.toList, List.nil_append, List.cons_append, true_and, and_true, if_true, if_false, ne_eq, not_true, not_false_eq_true, and_self, true_or, or_true, false_or, or_false, false_and, and_false, b_138 hm, hd0]
    refine mSays (by omega) hX (k := 2) rfl (by decide) hv ?_
    intro μ1 hf hj
    simp (disch := omega) only [x222_0, x222_1, x222_4, x222_6, x222_7, x222_10, x222_11, x222_12, x222_13, x222_16, x222_17, x222_18, x222_19, x222_20, x222_21, x222_22, x222_25, x222_26, x222_27, x222_28, x222_31, x222_32, x222_35, x222_36, x222_39, x222_40, x222_43, x222_44, x222_45, x222_48, x222_49, x222_52, x222_53, x222_54, x222_55, x222_58, x222_59, x222_60, x222_63, x222_65, x222_66, x222_69, x222_70, x222_71, x222_72, x222_73, x222_74, x222_75, x222_76, x222_79, x222_80, x222_81, x222_84, x222_85, x222_86, x222_89, x222_91, x222_92, x222_95, x222_96, x222_97, x222_98, x222_99, x222_100, x222_103, x222_104, x222_105, x222_106, x222_108, x222_111, x222_112, x222_113, x222_114, x222_117, x222_118, x222_119, x222_122, x222_123, x222_124, x222_127, x222_129, x222_130, x222_133, x222_134, x222_135, x222_136, x222_137, x222_138, x222_139, x222_140, x222_141, x222_142, x222_143, x222_146, x222_147, ↓reduceIte, Bool.false_eq_true, Nat.reduceAdd, Nat.reduceLT, Nat.reduceLeDiff, Nat.reduceSub, Nat.reduceEqDiff, Int.reduceToNat, Int.reduceEq, Int.reduceLT, Int.reduceLE, Int.reduceAdd, Int.reduceSub, zg, zI, zJ, zR, zst, zkl, zn, zcat, zok, zraw, List.length_cons, List.length_nil, Option.toList, List.nil_append, List.cons_append, true_and, and_true, if_true, if_false, ne_eq, not_true, not_false_eq_true, and_self, true_or, or_true, false_or, or_false, false_and, and_false]
    refine Qc (hQ μ1 hf hj) ?_
    unfold hoO; rw [hn', Int.add_comm]
  unfold hoB at fin
  have q1 : (((tr τ : Nat) : Int) ≤ ((rwO τ t + 1 : Nat) : Int)) = ¬ (t + tc τ < tn τ) := propext (by rw [← hup]; omega)
  by_cases k4 : ρ.1 3 t < tN τ 5
  · rw [if_pos k4] at hh
    by_cases k1 : t + tc τ < tn τ
    · have e := hO.2 _ k1
      rcases hO.1 (t + tc τ) with k2 | k2 <;> rcases fw.2.1 with k3 | k3 <;> rcases fw.2.2.1 with k5 | k5
      all_goals
        simp (disch := omega) only [x222_0, x222_1, x222_4, x222_6, x222_7, x222_10, x222_11, x222_12, x222_13, x222_16, x222_17, x222_18, x222_19, x222_20, x222_21, x222_22, x222_25, x222_26, x222_27, x222_28, x222_31, x222_32, x222_35, x222_36, x222_39, x222_40, x222_43, x222_44, x222_45, x222_48, x222_49, x222_52, x222_53, x222_54, x222_55, x222_58, x222_59, x222_60, x222_63, x222_65, x222_66, x222_69, x222_70, x222_71, x222_72, x222_73, x222_74, x222_75, x222_76, x222_79, x222_80, x222_81, x222_84, x222_85, x222_86, x222_89, x222_91, x222_92, x222_95, x222_96, x222_97, x222_98, x222_99, x222_100, x222_103, x222_104, x222_105, x222_106, x222_108, x222_111, x222_112, x222_113, x222_114, x222_117, x222_118, x222_119, x222_122, x222_123, x222_124, x222_127, x222_129, x222_130, x222_133, x222_134, x222_135, x222_136, x222_137, x222_138, x222_140, x222_141, x222_142, x222_143, x222_146, x222_147, ↓reduceIte, Bool.false_eq_true, Nat.reduceAdd, Nat.reduceLT, Nat.reduceLeDiff, Nat.reduceSub, Nat.reduceEqDiff, Int.reduceToNat, Int.reduceEq, Int.reduceLT, Int.reduceLE, Int.reduceAdd, Int.reduceSub, zg, zI, zJ, zR, zst, zkl, zn, zcat, zok, zraw, List.length_cons, List.length_nil, Option.toList, List.nil_append, List.cons_append, true_and, and_true, if_true, if_false, ne_eq, not_true, not_false_eq_true, and_self, true_or, or_true, false_or, or_false, false_and, and_false, b_138 hm, r_138_25 hm, x_150 hm, r_138_55 hm, x_176 hm, r_138_22 hm, x_147 hm, r_138_66 hm, x_184 hm, n_184 hm, r_138_23 hm, x_148 hm, r_138_52 hm, x_173 hm, n_173 hm, r_138_54 hm, x_175 hm, r_138_53 hm, x_174 hm, n_174 hm, hd0, h18, hrc.1, hrc.2.1, Int.toNat_natCast, i6, i71, i72, i73, t0, t1, t2, t3, f1, f2, f3, f4, a0, a1, mRow _ hX ht, mHeld, hh, w32_s, q1, k1, w32_add, e, k2, k3, k5]
        refine fin _ ?_
        simp only [k1, k2, k3, k4, k5, true_and, false_and, and_true, and_false, if_true, if_false, Int.reduceEq, ↓reduceIte]
        try simp only [w32]
        omega
    · rcases fw.2.1 with k3 | k3 <;> rcases fw.2.2.1 with k5 | k5
      all_goals
        simp (disch := omega) only [x222_0, x222_1, x222_4, x222_6, x222_7, x222_10, x222_11, x222_12, x222_13, x222_16, x222_17, x222_18, x222_19, x222_20, x222_21, x222_22, x222_25, x222_26, x222_27, x222_28, x222_31, x222_32, x222_35, x222_36, x222_39, x222_40, x222_43, x222_44, x222_45, x222_48, x222_49, x222_52, x222_53, x222_54, x222_55, x222_58, x222_59, x222_60, x222_63, x222_65, x222_66, x222_69, x222_70, x222_71, x222_72, x222_73, x222_74, x222_75, x222_76, x222_79, x222_80, x222_81, x222_84, x222_85, x222_86, x222_89, x222_91, x222_92, x222_95, x222_96, x222_97, x222_98, x222_99, x222_100, x222_103, x222_104, x222_105, x222_106, x222_108, x222_111, x222_112, x222_113, x222_114, x222_117, x222_118, x222_119, x222_122, x222_123, x222_124, x222_127, x222_129, x222_130, x222_133, x222_134, x222_135, x222_136, x222_137, x222_138, x222_140, x222_141, x222_142, x222_143, x222_146, x222_147, ↓reduceIte, Bool.false_eq_true, Nat.reduceAdd, Nat.reduceLT, Nat.reduceLeDiff, Nat.reduceSub, Nat.reduceEqDiff, Int.reduceToNat, Int.reduceEq, Int.reduceLT, Int.reduceLE, Int.reduceAdd, Int.reduceSub, zg, zI, zJ, zR, zst, zkl, zn, zcat, zok, zraw, List.length_cons, List.length_nil, Option.toList, List.nil_append, List.cons_append, true_and, and_true, if_true, if_false, ne_eq, not_true, not_false_eq_true, and_self, true_or, or_true, false_or, or_false, false_and, and_false, b_138 hm, r_138_25 hm, x_150 hm, r_138_55 hm, x_176 hm, r_138_22 hm, x_147 hm, r_138_66 hm, x_184 hm, n_184 hm, r_138_23 hm, x_148 hm, r_138_52 hm, x_173 hm, n_173 hm, r_138_54 hm, x_175 hm, r_138_53 hm, x_174 hm, n_174 hm, hd0, h18, hrc.1, hrc.2.1, Int.toNat_natCast, i6, i71, i72, i73, t0, t1, t2, t3, f1, f2, f3, f4, a0, a1, mRow _ hX ht, mHeld, hh, w32_s, q1, k1, w32_add, k3, k5]
        refine fin _ ?_
        simp only [k1, k3, k4, k5, true_and, false_and, and_true, and_false, if_true, if_false, Int.reduceEq, ↓reduceIte]
        try simp only [w32]
        omega
  · rw [if_neg k4] at hh
    by_cases k1 : t + tc τ < tn τ
    · have e := hO.2 _ k1
      rcases hO.1 (t + tc τ) with k2 | k2 <;> rcases fw.2.1 with k3 | k3 <;> rcases fw.2.2.1 with k5 | k5
      all_goals
        simp (disch := omega) only [x222_0, x222_1, x222_4, x222_6, x222_7, x222_10, x222_11, x222_12, x222_13, x222_16, x222_17, x222_18, x222_19, x222_20, x222_21, x222_22, x222_25, x222_26, x222_27, x222_28, x222_31, x222_32, x222_35, x222_36, x222_39, x222_40, x222_43, x222_44, x222_45, x222_48, x222_49, x222_52, x222_53, x222_54, x222_55, x222_58, x222_59, x222_60, x222_63, x222_65, x222_66, x222_69, x222_70, x222_71, x222_72, x222_73, x222_74, x222_75, x222_76, x222_79, x222_80, x222_81, x222_84, x222_85, x222_86, x222_89, x222_91, x222_92, x222_95, x222_96, x222_97, x222_98, x222_99, x222_100, x222_103, x222_104, x222_105, x222_106, x222_108, x222_111, x222_112, x222_113, x222_114, x222_117, x222_118, x222_119, x222_122, x222_123, x222_124, x222_127, x222_129, x222_130, x222_133, x222_134, x222_135, x222_136, x222_137, x222_138, x222_140, x222_141, x222_142, x222_143, x222_146, x222_147, ↓reduceIte, Bool.false_eq_true, Nat.reduceAdd, Nat.reduceLT, Nat.reduceLeDiff, Nat.reduceSub, Nat.reduceEqDiff, Int.reduceToNat, Int.reduceEq, Int.reduceLT, Int.reduceLE, Int.reduceAdd, Int.reduceSub, zg, zI, zJ, zR, zst, zkl, zn, zcat, zok, zraw, List.length_cons, List.length_nil, Option.toList, List.nil_append, List.cons_append, true_and, and_true, if_true, if_false, ne_eq, not_true, not_false_eq_true, and_self, true_or, or_true, false_or, or_false, false_and, and_false, b_138 hm, r_138_25 hm, x_150 hm, r_138_55 hm, x_176 hm, r_138_22 hm, x_147 hm, r_138_66 hm, x_184 hm, n_184 hm, r_138_23 hm, x_148 hm, r_138_52 hm, x_173 hm, n_173 hm, r_138_54 hm, x_175 hm, r_138_53 hm, x_174 hm, n_174 hm, hd0, h18, hrc.1, hrc.2.1, Int.toNat_natCast, i6, i71, i72, i73, t0, t1, t2, t3, f1, f2, f3, f4, a0, a1, mRow _ hX ht, mHeld, hh, w32_s, q1, k1, w32_add, e, k2, k3, k5]
        refine fin _ ?_
        simp only [k1, k2, k3, k4, k5, true_and, false_and, and_true, and_false, if_true, if_false, Int.reduceEq, ↓reduceIte]
        try simp only [w32]
        omega
    · rcases fw.2.1 with k3 | k3 <;> rcases fw.2.2.1 with k5 | k5
      all_goals
        simp (disch := omega) only [x222_0, x222_1, x222_4, x222_6, x222_7, x222_10, x222_11, x222_12, x222_13, x222_16, x222_17, x222_18, x222_19, x222_20, x222_21, x222_22, x222_25, x222_26, x222_27, x222_28, x222_31, x222_32, x222_35, x222_36, x222_39, x222_40, x222_43, x222_44, x222_45, x222_48, x222_49, x222_52, x222_53, x222_54, x222_55, x222_58, x222_59, x222_60, x222_63, x222_65, x222_66, x222_69, x222_70, x222_71, x222_72, x222_73, x222_74, x222_75, x222_76, x222_79, x222_80, x222_81, x222_84, x222_85, x222_86, x222_89, x222_91, x222_92, x222_95, x222_96, x222_97, x222_98, x222_99, x222_100, x222_103, x222_104, x222_105, x222_106, x222_108, x222_111, x222_112, x222_113, x222_114, x222_117, x222_118, x222_119, x222_122, x222_123, x222_124, x222_127, x222_129, x222_130, x222_133, x222_134, x222_135, x222_136, x222_137, x222_138, x222_140, x222_141, x222_142, x222_143, x222_146, x222_147, ↓reduceIte, Bool.false_eq_true, Nat.reduceAdd, Nat.reduceLT, Nat.reduceLeDiff, Nat.reduceSub, Nat.reduceEqDiff, Int.reduceToNat, Int.reduceEq, Int.reduceLT, Int.reduceLE, Int.reduceAdd, Int.reduceSub, zg, zI, zJ, zR, zst, zkl, zn, zcat, zok, zraw, List.length_cons, List.length_nil, Option.toList, List.nil_append, List.cons_append, true_and, and_true, if_true, if_false, ne_eq, not_true, not_false_eq_true, and_self, true_or, or_true, false_or, or_false, false_and, and_false, b_138 hm, r_138_25 hm, x_150 hm, r_138_55 hm, x_176 hm, r_138_22 hm, x_147 hm, r_138_66 hm, x_184 hm, n_184 hm, r_138_23 hm, x_148 hm, r_138_52 hm, x_173 hm, n_173 hm, r_138_54 hm, x_175 hm, r_138_53 hm, x_174 hm, n_174 hm, hd0, h18, hrc.1, hrc.2.1, Int.toNat_natCast, i6, i71, i72, i73, t0, t1, t2, t3, f1, f2, f3, f4, a0, a1, mRow _ hX ht, mHeld, hh, w32_s, q1, k1, w32_add, k3, k5]
        refine fin _ ?_
        simp only [k1, k3, k4, k5, true_and, false_and, and_true, and_false, if_true, if_false, Int.reduceEq, ↓reduceIte]
        try simp only [w32]
        omega
/-- what the reference's lift may touch -/
def GM : List Nat := [138, 170, 171]
theorem mLift {d : Nat} {x : Int} (hd : 4 ≤ d) (h : MX θ τ s μ) (hL : ML τ ρ μ) (hO : MO τ lost μ) {t : Nat} (hx : x = (t : Int)) (ht : t < tn τ) (hg : 0 ≤ g ∧ g ≤ 99)
    (hQ : ∀ μ', Fr GM μ μ' → (∀ j, j ≠ 50 → μ' 138 j = μ 138 j) → Q (some (vi (liO τ ρ lost t g w))) θ μ') : Ex d 223 0 [vr 138, vi x, vi g, vi w] [] θ μ Q := by
  subst hx
  have hX := h
  have hm := h.1
  have hw := h.2.1
  have hd0 : 0 < d := by omega
  have hd1 : 0 < d - 1 := by omega
  have hn := tn_b hw
  have hedb := ed_b (τ := τ) (t := t)
  have hlb := hl_b hw hO.1
  have hdb := dr_b (od := ρ.2.1) (w := w) hw hL.1.2.1
  have hge0 : 0 ≤ g * edO τ t := Int.mul_nonneg hg.1 hedb.1
  have hge : g * edO τ t ≤ 99 * 2 := Int.mul_le_mul hg.2 hedb.2 hedb.1 (by omega)
  have hgd : (g * edO τ t).tdiv 2 = g * edO τ t / 2 := Int.tdiv_eq_ediv_of_nonneg hge0
  have a1 : w32 (g * edO τ t) = g * edO τ t := w32_i (by omega) (by omega)
  have a2 : w32 ((g * edO τ t).tdiv 2) = (g * edO τ t).tdiv 2 := by rw [hgd]; exact w32_i (by omega) (by omega)
  have a3 : w32 (g + (g * edO τ t).tdiv 2) = g + (g * edO τ t).tdiv 2 := by rw [hgd]; exact w32_i (by omega) (by omega)
  have hdf : -90 ≤ inO τ ρ.2.1 lost w - ouO τ ρ.2.1 lost w ∧ inO τ ρ.2.1 lost w - ouO τ ρ.2.1 lost w ≤ 90 := by
    unfold inO ouO
    by_cases hf : tN τ 2 = w
    · rw [if_pos hf, if_pos hf]; omega
    · rw [if_neg hf, if_neg hf]; omega
  have b1 : w32 (inO τ ρ.2.1 lost w - ouO τ ρ.2.1 lost w) = inO τ ρ.2.1 lost w - ouO τ ρ.2.1 lost w := w32_i (by omega) (by omega)
  have b2l : -9900 ≤ g * (inO τ ρ.2.1 lost w - ouO τ ρ.2.1 lost w) ∧ g * (inO τ ρ.2.1 lost w - ouO τ ρ.2.1 lost w) ≤ 9900 := by
    generalize inO τ ρ.2.1 lost w - ouO τ ρ.2.1 lost w = D at hdf
    have e1 : g * D ≤ g * 90 := Int.mul_le_mul_of_nonneg_left hdf.2 hg.1
    have e2 : g * (-90) ≤ g * D := Int.mul_le_mul_of_nonneg_left hdf.1 hg.1
    omega
  have b2 : w32 (g * (inO τ ρ.2.1 lost w - ouO τ ρ.2.1 lost w)) = g * (inO τ ρ.2.1 lost w - ouO τ ρ.2.1 lost w) := w32_i (by omega) (by omega)
  have b3 : w32 ((g * (inO τ ρ.2.1 lost w - ouO τ ρ.2.1 lost w)).tdiv 10) = (g * (inO τ ρ.2.1 lost w - ouO τ ρ.2.1 lost w)).tdiv 10 := by
    generalize g * (inO τ ρ.2.1 lost w - ouO τ ρ.2.1 lost w) = D at b2l
    have := tdiv10 D
    apply w32_i <;> omega
  simp (disch := omega) only [x223_0, x223_1, x223_2, x223_3, x223_4, x223_7, x223_8, x223_9, x223_12, x223_13, x223_14, x223_17, x223_18, x223_19, x223_20, x223_23, x223_24, ↓reduceIte, Bool.false_eq_true, Nat.reduceAdd, Nat.reduceLT, Nat.reduceLeDiff, Nat.reduceSub, Nat.reduceEqDiff, Int.reduceToNat, Int.reduceEq, Int.reduceLT, Int.reduceLE, Int.reduceAdd, Int.reduceSub, zg, zI, zJ, zR, zst, zkl, zn, zcat, zok, zraw, List.length_cons, List.length_nil, Option.toList, List.nil_append, List.cons_append, true_and, and_true, if_true, if_false, ne_eq, not_true, not_false_eq_true, and_self, true_or, or_true, false_or, or_false, false_and, and_false, b_138 hm, hd0]
  refine mLooks (by omega) hX hL hO ht ?_
  intro μ1 hf1 hv1
  have v3 : μ1 170 3 = edO τ t := by rw [hv1 3 (by decide)]; rfl
  have v6 : μ1 170 6 = inO τ ρ.2.1 lost w := by rw [hv1 6 (by decide)]; rfl
  have v7 : μ1 170 7 = ouO τ ρ.2.1 lost w := by rw [hv1 7 (by decide)]; rfl
  have k1 : μ1 138 = μ 138 := hf1 138 (by decide)
  have fr : ∀ {μ2}, Fr [138, 171] μ1 μ2 → (∀ j, j ≠ 50 → μ2 138 j = μ1 138 j) → MX θ τ s μ2 ∧ ML τ ρ μ2 ∧ MO τ lost μ2 ∧ (∀ j, j < 13 → μ2 170 j = va τ ρ lost t g w j) ∧ Fr GM μ μ2 := fun {μ2} hf hj => by
    have hff : Fr GM μ μ2 := (hf1.mono (by decide)).trans (hf.mono (by decide))
    exact ⟨MX_fr hX hff (by decide) (by rw [hj 18 (by decide), k1]), ML_fr hL hff (by decide) (by rw [hj 57 (by decide), k1]), ⟨hO.1, by rw [hff 184 (by decide)]; exact hO.2⟩, by rw [hf 170 (by decide)]; exact hv1, hff⟩
  obtain ⟨X1, L1, O1, V1, G1⟩ := fr Fr.refl (fun _ _ => rfl)
  simp (disch := omega) only [x223_0, x223_1, x223_2, x223_3, x223_4, x223_7, x223_8, x223_9, x223_12, x223_13, x223_14, x223_17, x223_18, x223_19, x223_20, x223_23, x223_24, x220_0, x220_1, x220_2, x220_3, x220_4, x220_5, x220_8, x220_9, x220_10, x220_11, x220_12, x220_13, x220_14, x220_17, ↓reduceIte, Bool.false_eq_true, Nat.reduceAdd, Nat.reduceLT, Nat.reduceLeDiff, Nat.reduceSub, Nat.reduceEqDiff, Int.reduceToNat, Int.reduceEq, Int.reduceLT, Int.reduceLE, Int.reduceAdd, Int.reduceSub, zg, zI, zJ, zR, zst, zkl, zn, zcat, zok, zraw, List.length_cons, List.length_nil, Option.toList, List.nil_append, List.cons_append, true_and, and_true, if_true, if_false, ne_eq, not_true, not_false_eq_true, and_self, true_or, or_true, false_or, or_false, false_and, and_false, b_138 hm, r_138_48 hm, x_170 hm, hd0, hd1, v3, a1, a2, a3, Int.reduceToNat]
  refine mSays (d := d - 1 - 1) (by omega) X1 (k := 0) rfl (by decide) V1 ?_
  intro μ2 hf2 hj2
  obtain ⟨X2, L2, O2, V2, G2⟩ := fr hf2 hj2
  have u6 : μ2 170 6 = inO τ ρ.2.1 lost w := by rw [hf2 170 (by decide), v6]
  have u7 : μ2 170 7 = ouO τ ρ.2.1 lost w := by rw [hf2 170 (by decide), v7]
  have u57 : μ2 138 57 = ρ.2.2 := L2.2.2.2
  have es : says τ 0 (va τ ρ lost t g w) (g + (g * edO τ t).tdiv 2) = suO τ ρ lost t g w := rfl
  rw [es]
  have last : ∀ {μ3} (P : Int), P = prO τ ρ lost t g w → Fr [138, 171] μ1 μ3 → (∀ j, j ≠ 50 → μ3 138 j = μ1 138 j) → Ex d 223 17 [vr 138, vi (t : Nat), vi g, vi w] [vi P, vi (suO τ ρ lost t g w)] θ μ3 Q := by
    intro μ3 P hP hf3 hj3
    obtain ⟨X3, L3, O3, V3, G3⟩ := fr hf3 hj3
    simp (disch := omega) only [x223_0, x223_1, x223_2, x223_3, x223_4, x223_7, x223_8, x223_9, x223_12, x223_13, x223_14, x223_17, x223_18, x223_19, x223_20, x223_23, x223_24, ↓reduceIte, Bool.false_eq_true, Nat.reduceAdd, Nat.reduceLT, Nat.reduceLeDiff, Nat.reduceSub, Nat.reduceEqDiff, Int.reduceToNat, Int.reduceEq, Int.reduceLT, Int.reduceLE, Int.reduceAdd, Int.reduceSub, zg, zI, zJ, zR, zst, zkl, zn, zcat, zok, zraw, List.length_cons, List.length_nil, Option.toList, List.nil_append, List.cons_append, true_and, and_true, if_true, if_false, ne_eq, not_true, not_false_eq_true, and_self, true_or, or_true, false_or, or_false, false_and, and_false, b_138 hm, hd0]
    refine mHolding (by omega) X3 L3 O3 ht V3 ?_
    intro μ4 hf4 hj4
    simp (disch := omega) only [x223_0, x223_1, x223_2, x223_3, x223_4, x223_7, x223_8, x223_9, x223_12, x223_13, x223_14, x223_17, x223_18, x223_19, x223_20, x223_23, x223_24, ↓reduceIte, Bool.false_eq_true, Nat.reduceAdd, Nat.reduceLT, Nat.reduceLeDiff, Nat.reduceSub, Nat.reduceEqDiff, Int.reduceToNat, Int.reduceEq, Int.reduceLT, Int.reduceLE, Int.reduceAdd, Int.reduceSub, zg, zI, zJ, zR, zst, zkl, zn, zcat, zok, zraw, List.length_cons, List.length_nil, Option.toList, List.nil_append, List.cons_append, true_and, and_true, if_true, if_false, ne_eq, not_true, not_false_eq_true, and_self, true_or, or_true, false_or, or_false, false_and, and_false]
    rw [hP]
    exact hQ μ4 (G3.trans (hf4.mono (by decide))) (fun j hj => by rw [hj4 j hj, hj3 j hj, k1])
  by_cases hfl : ρ.2.2 = 0
  · simp (disch := omega) only [x223_0, x223_1, x223_2, x223_3, x223_4, x223_7, x223_8, x223_9, x223_12, x223_13, x223_14, x223_18, x223_19, x223_20, x223_23, x223_24, x220_0, x220_1, x220_2, x220_3, x220_4, x220_5, x220_8, x220_9, x220_10, x220_11, x220_12, x220_13, x220_14, x220_17, x221_0, x221_1, x221_4, x221_7, x221_8, x221_11, x221_12, x221_13, x221_14, x221_15, x221_18, x221_20, x221_21, x221_22, x221_25, x221_27, x221_28, x221_29, x221_30, x221_32, x221_33, x221_36, ↓reduceIte, Bool.false_eq_true, Nat.reduceAdd, Nat.reduceLT, Nat.reduceLeDiff, Nat.reduceSub, Nat.reduceEqDiff, Int.reduceToNat, Int.reduceEq, Int.reduceLT, Int.reduceLE, Int.reduceAdd, Int.reduceSub, zg, zI, zJ, zR, zst, zkl, zn, zcat, zok, zraw, List.length_cons, List.length_nil, Option.toList, List.nil_append, List.cons_append, true_and, and_true, if_true, if_false, ne_eq, not_true, not_false_eq_true, and_self, true_or, or_true, false_or, or_false, false_and, and_false, b_138 hm, r_138_48 hm, x_170 hm, hd0, hd1, u57, u6, u7, hfl, b1, b2, b3, Int.reduceToNat]
    refine mSays (d := d - 1 - 1) (by omega) X2 (k := 1) rfl (by decide) V2 ?_
    intro μ3 hf3 hj3
    simp (disch := omega) only [x223_0, x223_1, x223_2, x223_3, x223_4, x223_7, x223_8, x223_9, x223_12, x223_13, x223_14, x223_18, x223_19, x223_20, x223_23, x223_24, x220_0, x220_1, x220_2, x220_3, x220_4, x220_5, x220_8, x220_9, x220_10, x220_11, x220_12, x220_13, x220_14, x220_17, x221_0, x221_1, x221_4, x221_7, x221_8, x221_11, x221_12, x221_13, x221_14, x221_15, x221_18, x221_20, x221_21, x221_22, x221_25, x221_27, x221_28, x221_29, x221_30, x221_32, x221_33, x221_36, ↓reduceIte, Bool.false_eq_true, Nat.reduceAdd, Nat.reduceLT, Nat.reduceLeDiff, Nat.reduceSub, Nat.reduceEqDiff, Int.reduceToNat, Int.reduceEq, Int.reduceLT, Int.reduceLE, Int.reduceAdd, Int.reduceSub, zg, zI, zJ, zR, zst, zkl, zn, zcat, zok, zraw, List.length_cons, List.length_nil, Option.toList, List.nil_append, List.cons_append, true_and, and_true, if_true, if_false, ne_eq, not_true, not_false_eq_true, and_self, true_or, or_true, false_or, or_false, false_and, and_false]
    exact last _ (by unfold prO; rw [if_pos hfl]) (hf2.trans hf3) (fun j hj => by rw [hj3 j hj, hj2 j hj])
  · simp (disch := omega) only [x223_0, x223_1, x223_2, x223_3, x223_4, x223_7, x223_8, x223_9, x223_12, x223_13, x223_14, x223_18, x223_19, x223_20, x223_23, x223_24, x220_0, x220_1, x220_2, x220_3, x220_4, x220_5, x220_8, x220_9, x220_10, x220_11, x220_12, x220_13, x220_14, x220_17, x221_0, x221_1, x221_4, x221_7, x221_8, x221_11, x221_12, x221_13, x221_14, x221_15, x221_18, x221_20, x221_21, x221_22, x221_25, x221_27, x221_28, x221_29, x221_30, x221_32, x221_33, x221_36, ↓reduceIte, Bool.false_eq_true, Nat.reduceAdd, Nat.reduceLT, Nat.reduceLeDiff, Nat.reduceSub, Nat.reduceEqDiff, Int.reduceToNat, Int.reduceEq, Int.reduceLT, Int.reduceLE, Int.reduceAdd, Int.reduceSub, zg, zI, zJ, zR, zst, zkl, zn, zcat, zok, zraw, List.length_cons, List.length_nil, Option.toList, List.nil_append, List.cons_append, true_and, and_true, if_true, if_false, ne_eq, not_true, not_false_eq_true, and_self, true_or, or_true, false_or, or_false, false_and, and_false, b_138 hm, r_138_48 hm, x_170 hm, hd0, hd1, u57, hfl]
    exact last _ (by unfold prO; rw [if_neg hfl]) hf2 hj2
theorem mLanding {d : Nat} {x : Int} {x4 x5 : zV} (hd : 4 ≤ d) (h : MX θ τ s μ) (hL : ML τ ρ μ) (hO : MO τ lost μ) {t : Nat} (hx : x = (t : Int)) (ht : t < tn τ) (hg : 0 ≤ g ∧ g ≤ 99) (hwy : 0 ≤ w ∧ w ≤ 3)
    (hQ : ∀ μ', Fr GM μ μ' → (∀ j, j ≠ 50 → μ' 138 j = μ 138 j) → Q (some (vi (ceO τ ρ lost t g w))) θ μ') : Ex d 225 0 [vr 138, vi x, vi g, vi w, x4, x5] [] θ μ Q := by
  subst hx
  have hX := h
  have hm := h.1
  have hw := h.2.1
  have n2 := tc_b hw
  have n1 := tr_b hw
  have n3 := rw_b hw ht
  have hd0 : 0 < d := by omega
  have hgt : g.tdiv 10 = g / 10 := Int.tdiv_eq_ediv_of_nonneg hg.1
  have a1 : w32 (g.tdiv 10) = g.tdiv 10 := by rw [hgt]; exact w32_i (by omega) (by omega)
  simp (disch := omega) only [x225_0, x225_1, x225_2, x225_3, x225_4, x225_7, x225_8, x225_9, x225_10, x225_12, x225_13, x225_16, x225_18, x225_21, x225_23, x225_24, x225_25, x225_26, x225_27, x225_28, x225_30, x225_33, x225_35, x225_36, x225_38, x225_40, x225_41, x225_42, x225_45, x225_46, x225_47, x225_50, x225_53, x225_54, x225_55, x225_58, x225_59, x225_60, x225_62, x225_63, ↓reduceIte, Bool.false_eq_true, Nat.reduceAdd, Nat.reduceLT, Nat.reduceLeDiff, Nat.reduceSub, Nat.reduceEqDiff, Int.reduceToNat, Int.reduceEq, Int.reduceLT, Int.reduceLE, Int.reduceAdd, Int.reduceSub, zg, zI, zJ, zR, zst, zkl, zn, zcat, zok, zraw, List.length_cons, List.length_nil, Option.toList, List.nil_append, List.cons_append, true_and, and_true, if_true, if_false, ne_eq, not_true, not_false_eq_true, and_self, true_or, or_true, false_or, or_false, false_and, and_false, b_138 hm, hd0]
  refine mLooks (by omega) hX hL hO ht ?_
  intro μ1 hf1 hv1
  have k1 : μ1 138 = μ 138 := hf1 138 (by decide)
  have X1 : MX θ τ s μ1 := MX_fr hX hf1 (by decide) (by rw [k1])
  simp (disch := omega) only [x225_0, x225_1, x225_2, x225_3, x225_4, x225_7, x225_8, x225_9, x225_10, x225_12, x225_13, x225_16, x225_18, x225_21, x225_23, x225_24, x225_25, x225_26, x225_27, x225_28, x225_30, x225_33, x225_35, x225_36, x225_38, x225_40, x225_41, x225_42, x225_45, x225_46, x225_47, x225_50, x225_53, x225_54, x225_55, x225_58, x225_59, x225_60, x225_62, x225_63, ↓reduceIte, Bool.false_eq_true, Nat.reduceAdd, Nat.reduceLT, Nat.reduceLeDiff, Nat.reduceSub, Nat.reduceEqDiff, Int.reduceToNat, Int.reduceEq, Int.reduceLT, Int.reduceLE, Int.reduceAdd, Int.reduceSub, zg, zI, zJ, zR, zst, zkl, zn, zcat, zok, zraw, List.length_cons, List.length_nil, Option.toList, List.nil_append, List.cons_append, true_and, and_true, if_true, if_false, ne_eq, not_true, not_false_eq_true, and_self, true_or, or_true, false_or, or_false, false_and, and_false, b_138 hm, hd0, a1]
  refine mSays (by omega) X1 (k := 3) rfl (by decide) hv1 ?_
  intro μ2 hf2 hj2
  have hff : Fr GM μ μ2 := (hf1.mono (by decide)).trans (hf2.mono (by decide))
  have X2 : MX θ τ s μ2 := MX_fr hX hff (by decide) (by rw [hj2 18 (by decide), k1])
  have hq := hQ μ2 hff (fun j hj => by rw [hj2 j hj, k1])
  unfold ceO at hq
  generalize says τ 3 (va τ ρ lost t g w) (g.tdiv 10) = z at hq ⊢
  have hhb : 0 ≤ heldO z 19 ∧ heldO z 19 ≤ 19 := by unfold heldO; omega
  have b1 : w32 (w + 2) = w + 2 := w32_i (by omega) (by omega)
  have b2 : (w + 2).tmod 4 = (w + 2) % 4 := Int.tmod_eq_emod_of_nonneg (by omega)
  have b3 : ((w + 2) % 4).tmod 2 = (w + 2) % 2 := by rw [Int.tmod_eq_emod_of_nonneg (by omega)]; omega
  by_cases hs : (w + 2) % 2 = 0
  · rw [if_pos hs] at hq
    simp (disch := omega) only [x225_0, x225_1, x225_2, x225_3, x225_4, x225_7, x225_8, x225_9, x225_10, x225_12, x225_13, x225_16, x225_18, x225_21, x225_23, x225_24, x225_25, x225_26, x225_27, x225_28, x225_30, x225_33, x225_35, x225_36, x225_38, x225_40, x225_41, x225_42, x225_45, x225_46, x225_47, x225_50, x225_53, x225_54, x225_55, x225_58, x225_59, x225_60, x225_62, x225_63, ↓reduceIte, Bool.false_eq_true, Nat.reduceAdd, Nat.reduceLT, Nat.reduceLeDiff, Nat.reduceSub, Nat.reduceEqDiff, Int.reduceToNat, Int.reduceEq, Int.reduceLT, Int.reduceLE, Int.reduceAdd, Int.reduceSub, zg, zI, zJ, zR, zst, zkl, zn, zcat, zok, zraw, List.length_cons, List.length_nil, Option.toList, List.nil_append, List.cons_append, true_and, and_true, if_true, if_false, ne_eq, not_true, not_false_eq_true, and_self, true_or, or_true, false_or, or_false, false_and, and_false, b_138 hm, hd0, mHeld, b1, b2, b3, hs, mCol _ X2 ht]
    refine Qc hq ?_
    unfold w32; omega
  · rw [if_neg hs] at hq
    simp (disch := omega) only [x225_0, x225_1, x225_2, x225_3, x225_4, x225_7, x225_8, x225_9, x225_10, x225_12, x225_13, x225_16, x225_18, x225_21, x225_23, x225_24, x225_25, x225_26, x225_27, x225_28, x225_30, x225_33, x225_35, x225_36, x225_38, x225_40, x225_41, x225_42, x225_45, x225_46, x225_47, x225_50, x225_53, x225_54, x225_55, x225_58, x225_59, x225_60, x225_62, x225_63, ↓reduceIte, Bool.false_eq_true, Nat.reduceAdd, Nat.reduceLT, Nat.reduceLeDiff, Nat.reduceSub, Nat.reduceEqDiff, Int.reduceToNat, Int.reduceEq, Int.reduceLT, Int.reduceLE, Int.reduceAdd, Int.reduceSub, zg, zI, zJ, zR, zst, zkl, zn, zcat, zok, zraw, List.length_cons, List.length_nil, Option.toList, List.nil_append, List.cons_append, true_and, and_true, if_true, if_false, ne_eq, not_true, not_false_eq_true, and_self, true_or, or_true, false_or, or_false, false_and, and_false, b_138 hm, hd0, mHeld, b1, b2, b3, hs, mRow _ X2 ht]
    refine Qc hq ?_
    unfold w32; omega
end MF
