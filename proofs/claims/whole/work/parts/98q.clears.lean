/-! THE REFERENCE reads: a side is cleared -/
section CE
variable {θ : zS} {Q : Option zV → zS → zM → Prop} {μ : zM} {W st : Nat → Int}
theorem mClears {d b : Nat} {x2 : zV} (hm : Tm θ) (hb1 : b ≤ 1) (hQ : ∀ μ', SF b μ μ' → μ' 138 = μ 138 → TM (τP π0) b μ' → Q none θ μ') : Ex d 180 0 [vr 138, vi (b : Nat), x2] [] θ μ Q := by
  have hk : b = 0 ∨ b = 1 := by omega
  have fin : ∀ {μ' : zM}, (∀ a, ¬ ((147 ≤ a ∧ a ≤ 151) ∨ a = 154 ∨ a = 157) → μ' a = μ a) → μ' 147 = zup (μ 147) b 4 → μ' 148 = zup (μ 148) b 4 → μ' 149 = zup (μ 149) b 0 → μ' 150 = zup (zup (zup (zup (zup (zup (μ 150) (6 * b) 20) (6 * b + 1) 5) (6 * b + 2) 30) (6 * b + 3) 25) (6 * b + 4) 0) (6 * b + 5) 0 →
      μ' 151 = zup (zup (zup (μ 151) (3 * b) 0) (3 * b + 1) 0) (3 * b + 2) 0 → μ' 154 = zup (zup (zup (zup (μ 154) (4 * b) 0) (4 * b + 1) 0) (4 * b + 2) 0) (4 * b + 3) 0 → μ' 157 = zup (μ 157) b 0 → Q none θ μ' := by
    intro μ' e e147 e148 e149 e150 e151 e154 e157
    refine hQ μ' ⟨fun a ha => e a (by omega), fun a j a1 a2 aj => ?_⟩ (e 138 (by decide)) (TM_iff.mpr ⟨⟨?_, ?_, ?_, fun k hk => ?_⟩, ⟨?_, fun k hk => absurd hk (Nat.not_lt_zero _)⟩, fun k hk => ?_, fun k hk => ⟨?_, fun i hi => absurd hi (Nat.not_lt_zero _)⟩⟩)
    · by_cases q : (147 ≤ a ∧ a ≤ 151) ∨ a = 154 ∨ a = 157
      · obtain r | r | r | r | r | r | r : a = 147 ∨ a = 148 ∨ a = 149 ∨ a = 150 ∨ a = 151 ∨ a = 154 ∨ a = 157 := by omega
        · subst r
          have hj : ¬ j / 1 = b := aj
          rw [e147, zup_ne (by omega)]
        · subst r
          have hj : ¬ j / 1 = b := aj
          rw [e148, zup_ne (by omega)]
        · subst r
          have hj : ¬ j / 1 = b := aj
          rw [e149, zup_ne (by omega)]
        · subst r
          have hj : ¬ j / 6 = b := aj
          rw [e150, zup_ne (by omega), zup_ne (by omega), zup_ne (by omega), zup_ne (by omega), zup_ne (by omega), zup_ne (by omega)]
        · subst r
          have hj : ¬ j / 3 = b := aj
          rw [e151, zup_ne (by omega), zup_ne (by omega), zup_ne (by omega)]
        · subst r
          have hj : ¬ j / 4 = b := aj
          rw [e154, zup_ne (by omega), zup_ne (by omega), zup_ne (by omega), zup_ne (by omega)]
        · subst r
          have hj : ¬ j / 1 = b := aj
          rw [e157, zup_ne (by omega)]
      · rw [e a q]
    · rw [e147, zup_same rfl]; rfl
    · rw [e148, zup_same rfl]; rfl
    · rw [e149, zup_same rfl]; rfl
    · rw [e150]
      obtain r | r | r | r | r | r : k = 0 ∨ k = 1 ∨ k = 2 ∨ k = 3 ∨ k = 4 ∨ k = 5 := by omega
      · subst r; rw [zup_ne (by omega), zup_ne (by omega), zup_ne (by omega), zup_ne (by omega), zup_ne (by omega), zup_same (by omega)]; rfl
      · subst r; rw [zup_ne (by omega), zup_ne (by omega), zup_ne (by omega), zup_ne (by omega), zup_same (by omega)]; rfl
      · subst r; rw [zup_ne (by omega), zup_ne (by omega), zup_ne (by omega), zup_same (by omega)]; rfl
      · subst r; rw [zup_ne (by omega), zup_ne (by omega), zup_same (by omega)]; rfl
      · subst r; rw [zup_ne (by omega), zup_same (by omega)]; rfl
      · subst r; rw [zup_same (by omega)]; rfl
    · rw [e157, zup_same rfl]; rfl
    · show μ' 154 (4 * b + k) = 0
      rw [e154]
      obtain r | r | r | r : k = 0 ∨ k = 1 ∨ k = 2 ∨ k = 3 := by omega
      · subst r; rw [zup_ne (by omega), zup_ne (by omega), zup_ne (by omega), zup_same (by omega)]
      · subst r; rw [zup_ne (by omega), zup_ne (by omega), zup_same (by omega)]
      · subst r; rw [zup_ne (by omega), zup_same (by omega)]
      · subst r; rw [zup_same (by omega)]
    · show μ' 151 (3 * b + k) = 0
      rw [e151]
      obtain r | r | r : k = 0 ∨ k = 1 ∨ k = 2 := by omega
      · subst r; rw [zup_ne (by omega), zup_ne (by omega), zup_same (by omega)]
      · subst r; rw [zup_ne (by omega), zup_same (by omega)]
      · subst r; rw [zup_same (by omega)]
  have z0 : (0 : Int) = 0 ∨ (0 : Int) = 1 := Or.inl rfl
  rcases hk with rfl | rfl
  · show Ex d 180 0 [vr 138, vi 0, x2] [] θ μ Q
    simp (disch := omega) only [x180_0, x180_1, x180_4, x180_5, x180_6, x180_7, x180_8, x180_11, x180_12, x180_13, x180_14, x180_15, x180_18, x180_19, x180_20, x180_21, x180_22, x180_25, x180_27, x180_28, x180_29, x180_31, x180_32, x180_33, x180_36, x180_38, x180_39, x180_40, x180_41, x180_42, x180_43, x180_44, x180_45, x180_48, x180_50, x180_51, x180_52, x180_53, x180_54, x180_56, x180_57, x180_58, x180_61, x180_63, x180_64, x180_65, x180_66, x180_67, x180_69, x180_70, x180_71, x180_74, x180_76, x180_77, x180_78, x180_79, x180_80, x180_81, x180_82, x180_83, x180_86, x180_88, x180_89, x180_90, x180_91, x180_92, x180_93, x180_94, x180_95, x180_96, x180_97, x180_98, x180_101, x180_102, x180_105, x180_106, x180_107, x180_108, x180_109, x180_110, x180_111, x180_112, x180_115, x180_118, x180_119, x180_120, x180_121, x180_122, x180_125, x180_126, x180_129, x180_130, x180_131, x180_132, x180_133, x180_134, x180_135, x180_136, x180_139, x180_142, x180_143, x180_146, x180_147, x180_148, x180_149, ↓reduceIte, Bool.false_eq_true, Nat.reduceAdd, Nat.reduceLT, Nat.reduceLeDiff, Nat.reduceSub, Nat.reduceEqDiff, Int.reduceToNat, Int.reduceEq, Int.reduceLT, Int.reduceLE, Int.reduceAdd, Int.reduceSub, zg, zI, zJ, zR, zst, zkl, zn, zcat, zok, zraw, List.length_cons, List.length_nil, Option.toList, List.nil_append, List.cons_append, true_and, and_true, if_true, if_false, ne_eq, not_true, not_false_eq_true, and_self, true_or, or_true, false_or, or_false, false_and, and_false, b_138 hm, r_138_22 hm, x_147 hm, r_138_23 hm, x_148 hm, r_138_24 hm, x_149 hm, r_138_25 hm, x_150 hm, r_138_26 hm, x_151 hm, r_138_29 hm, x_154 hm, n_154 hm, r_138_32 hm, x_157 hm, Int.reduceMul, Int.mul_zero, show w32 0 = 0 by decide, show w32 1 = 1 by decide, show w32 2 = 2 by decide, show w32 3 = 3 by decide, show w32 4 = 4 by decide, show w32 5 = 5 by decide, ua_eq, us_same, us_us, us_ne, ne_eq, z0]
    refine fin (fun a ha => ?_) ?_ ?_ ?_ ?_ ?_ ?_ ?_
    · rw [us_ne (by omega), us_ne (by omega), us_ne (by omega), us_ne (by omega), us_ne (by omega), us_ne (by omega), us_ne (by omega)]
    all_goals rfl
  · show Ex d 180 0 [vr 138, vi 1, x2] [] θ μ Q
    simp (disch := omega) only [x180_0, x180_1, x180_4, x180_5, x180_6, x180_7, x180_8, x180_11, x180_12, x180_13, x180_14, x180_15, x180_18, x180_19, x180_20, x180_21, x180_22, x180_25, x180_27, x180_28, x180_29, x180_31, x180_32, x180_33, x180_36, x180_38, x180_39, x180_40, x180_41, x180_42, x180_43, x180_44, x180_45, x180_48, x180_50, x180_51, x180_52, x180_53, x180_54, x180_56, x180_57, x180_58, x180_61, x180_63, x180_64, x180_65, x180_66, x180_67, x180_69, x180_70, x180_71, x180_74, x180_76, x180_77, x180_78, x180_79, x180_80, x180_81, x180_82, x180_83, x180_86, x180_88, x180_89, x180_90, x180_91, x180_92, x180_93, x180_94, x180_95, x180_96, x180_97, x180_98, x180_101, x180_102, x180_105, x180_106, x180_107, x180_108, x180_109, x180_110, x180_111, x180_112, x180_115, x180_118, x180_119, x180_120, x180_121, x180_122, x180_125, x180_126, x180_129, x180_130, x180_131, x180_132, x180_133, x180_134, x180_135, x180_136, x180_139, x180_142, x180_143, x180_146, x180_147, x180_148, x180_149, ↓reduceIte, Bool.false_eq_true, Nat.reduceAdd, Nat.reduceLT, Nat.reduceLeDiff, Nat.reduceSub, Nat.reduceEqDiff, Int.reduceToNat, Int.reduceEq, Int.reduceLT, Int.reduceLE, Int.reduceAdd, Int.reduceSub, zg, zI, zJ, zR, zst, zkl, zn, zcat, zok, zraw, List.length_cons, List.length_nil, Option.toList, List.nil_append, List.cons_append, true_and, and_true, if_true, if_false, ne_eq, not_true, not_false_eq_true, and_self, true_or, or_true, false_or, or_false, false_and, and_false, b_138 hm, r_138_22 hm, x_147 hm, r_138_23 hm, x_148 hm, r_138_24 hm, x_149 hm, r_138_25 hm, x_150 hm, r_138_26 hm, x_151 hm, r_138_29 hm, x_154 hm, n_154 hm, r_138_32 hm, x_157 hm, Int.reduceMul, Int.mul_one, show w32 1 = 1 by decide, show w32 2 = 2 by decide, show w32 3 = 3 by decide, show w32 4 = 4 by decide, show w32 5 = 5 by decide, show w32 6 = 6 by decide, show w32 7 = 7 by decide, show w32 8 = 8 by decide, show w32 9 = 9 by decide, show w32 10 = 10 by decide, show w32 11 = 11 by decide, ua_eq, us_same, us_us, us_ne, ne_eq, z0]
    refine fin (fun a ha => ?_) ?_ ?_ ?_ ?_ ?_ ?_ ?_
    · rw [us_ne (by omega), us_ne (by omega), us_ne (by omega), us_ne (by omega), us_ne (by omega), us_ne (by omega), us_ne (by omega)]
    all_goals rfl
theorem PTm_0 {b : Nat} (hb1 : b ≤ 1) (hM : TM (τP π0) b μ) (h43 : μ 138 43 = ((420 * b : Nat) : Int)) (h36 : μ 138 36 = ((150 * b : Nat) : Int)) (h20 : μ 138 20 = 0) (h15 : μ 138 15 = 0) (h19 : μ 138 19 = (b : Nat)) (h11 : μ 138 11 = 0) (h12 : μ 138 12 = 0) (h13 : μ 138 13 = 0) : PTm W st b π0 0 (420 * b) (150 * b) μ :=
  ⟨⟨hM, ⟨by omega, by omega⟩, fun _ _ hh => absurd rfl hh, fun _ _ _ hi => absurd hi (Nat.not_lt_zero _), fun q q1 q2 => by omega⟩, ⟨h43, h36⟩, ⟨⟨Nat.le_refl _, by omega⟩, Nat.le_refl _, by omega⟩, ⟨h20, fun i hi => absurd hi (Nat.not_lt_zero _)⟩, h15, h19, h11, h12, h13⟩
end CE
