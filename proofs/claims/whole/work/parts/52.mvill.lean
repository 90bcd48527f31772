/-! FACTS: the reference's village -/
def MV2 (V : zV2) (μ : zM) : Prop := μ 138 78 = (V.1 : Nat) ∧ ∀ i, i < V.1 → μ 193 i = V.2.2.2.2.2 i ∧ (V.2.2.2.2.2 i = -1 → μ 194 i = V.2.1 i ∧ μ 195 i = V.2.2.1 i ∧ μ 196 i = V.2.2.2.1 i ∧ μ 197 i = V.2.2.2.2.1 i)
section MW2
variable {θ : zS} {τ : zT} {s : Nat} {Q : Option zV → zS → zM → Prop} {μ : zM} {V : zV2}
/-- RULES: a LIT, a RULE, some RULE -/
theorem mTrue {d q : Nat} {x : Int} {l : zL} {v : Nat → Int} {x2 x3 x4 x5 : zV} (hm : Tm θ) (hd : 1 ≤ d) (hl : lAt μ q l) (hw : wfL l) (hx : x = (q : Int)) (hq : q < 300) (hv : ∀ j, j < 13 → μ 170 j = v j)
    (hQ : ∀ μ', Fr [138, 171] μ μ' → (∀ j, j ≠ 50 → μ' 138 j = μ 138 j) → Q (some (vi (b2 (litv v l)))) θ μ') : Ex d 193 0 [vr 138, vi x, x2, x3, x4, x5] [] θ μ Q := by
  subst hx
  have hd0 : 0 < d := by omega
  obtain ⟨l1, l2, l3, l4, l5⟩ := hl
  obtain ⟨w1, w2, w3⟩ := hw
  simp (disch := omega) only [x193_0, x193_1, x193_2, x193_5, x193_6, x193_7, x193_8, x193_11, x193_12, x193_13, x193_16, x193_17, x193_18, x193_21, x193_22, x193_23, x193_24, x193_27, x193_28, x193_29, x193_30, x193_33, x193_34, x193_35, x193_38, x193_40, x193_41, x193_44, x193_45, x193_48, x193_51, x193_52, x193_55, x193_56, x193_57, x193_58, x193_61, x193_62, x193_63, x193_66, x193_67, x193_69, x193_72, x193_73, x193_76, x193_77, x193_80, x193_81, x193_84, x193_85, x193_86, x193_87, x193_90, x193_91, x193_93, x193_96, x193_97, x193_100, x193_101, x193_104, x193_105, x193_108, x193_109, x193_110, x193_111, x193_114, x193_115, x193_117, x193_120, x193_121, x193_124, x193_125, x193_128, x193_129, x193_131, x193_134, x193_135, x193_138, x193_139, x193_141, x193_143, x193_146, x193_147, x193_150, x193_151, x193_154, x193_155, x193_156, x193_159, x193_160, x193_161, x193_164, x193_165, x193_168, x193_169, ↓reduceIte, Bool.false_eq_true, Nat.reduceAdd, Nat.reduceLT, Nat.reduceLeDiff, Nat.reduceSub, Nat.reduceEqDiff, Int.reduceToNat, Int.reduceEq, Int.reduceLT, Int.reduceLE, Int.reduceAdd, Int.reduceSub, zg, zI, zJ, zR, zst, zkl, zn, zcat, zok, zraw, List.length_cons, List.length_nil, Option.toList, List.nil_append, List.cons_append, true_and, and_true, if_true, if_false, ne_eq, not_true, not_false_eq_true, and_self, true_or, or_true, false_or, or_false, false_and, and_false, b_138 hm, r_138_40 hm, x_164 hm, r_138_41 hm, x_165 hm, r_138_42 hm, x_166 hm, hd0, Int.toNat_natCast]
  refine mTerm hm l4 w2 hv ?_
  intro μ1 a hf1 hj1 ha
  have l5' : mAt μ1 (μ 165 q) (μ 166 q) l.2.2.2.2 := by
    unfold mAt at l5 ⊢
    rw [hf1 167 (by decide), hf1 168 (by decide)]; exact l5
  have hb50 : μ1 138 50 = 0 ∨ μ1 138 50 = 1 := by rcases ha with h | h <;> omega
  simp (disch := omega) only [x193_0, x193_1, x193_2, x193_5, x193_6, x193_7, x193_8, x193_11, x193_12, x193_13, x193_16, x193_17, x193_18, x193_21, x193_22, x193_23, x193_24, x193_27, x193_28, x193_29, x193_30, x193_33, x193_34, x193_35, x193_38, x193_40, x193_41, x193_44, x193_45, x193_48, x193_51, x193_52, x193_55, x193_56, x193_57, x193_58, x193_61, x193_62, x193_63, x193_66, x193_67, x193_69, x193_72, x193_73, x193_76, x193_77, x193_80, x193_81, x193_84, x193_85, x193_86, x193_87, x193_90, x193_91, x193_93, x193_96, x193_97, x193_100, x193_101, x193_104, x193_105, x193_108, x193_109, x193_110, x193_111, x193_114, x193_115, x193_117, x193_120, x193_121, x193_124, x193_125, x193_128, x193_129, x193_131, x193_134, x193_135, x193_138, x193_139, x193_141, x193_143, x193_146, x193_147, x193_150, x193_151, x193_154, x193_155, x193_156, x193_159, x193_160, x193_161, x193_164, x193_165, x193_168, x193_169, ↓reduceIte, Bool.false_eq_true, Nat.reduceAdd, Nat.reduceLT, Nat.reduceLeDiff, Nat.reduceSub, Nat.reduceEqDiff, Int.reduceToNat, Int.reduceEq, Int.reduceLT, Int.reduceLE, Int.reduceAdd, Int.reduceSub, zg, zI, zJ, zR, zst, zkl, zn, zcat, zok, zraw, List.length_cons, List.length_nil, Option.toList, List.nil_append, List.cons_append, true_and, and_true, if_true, if_false, ne_eq, not_true, not_false_eq_true, and_self, true_or, or_true, false_or, or_false, false_and, and_false, b_138 hm, r_138_40 hm, x_164 hm, r_138_41 hm, x_165 hm, r_138_42 hm, x_166 hm, hd0, Int.toNat_natCast, hf1 165 (by decide), hf1 166 (by decide)]
  refine mTerm (v := v) hm l5' w3 (fun j hj => by rw [hf1 170 (by decide)]; exact hv j hj) ?_
  intro μ2 b hf2 hj2 hb
  have m161 : μ2 161 q = (l.2.2.1 : Nat) := by rw [hf2 161 (by decide), hf1 161 (by decide)]; exact l3
  have m162 : μ2 162 q = b2 l.2.1 := by rw [hf2 162 (by decide), hf1 162 (by decide)]; exact l2
  have hq := hQ μ2 (hf1.trans hf2) (fun j hj => by rw [hj2 j hj, hj1 j hj])
  unfold litv at hq
  obtain ⟨o, nt, srt, lc, rc⟩ := l
  simp only at ha hb hq m161 m162 w1
  -- how the two are compared
  have cmp : ∀ (e50 : Int), True → (if srt = 0 then (if a = b then (1 : Int) else 0) else if srt = 1 then (if a = b then 0 else 1) else if srt = 2 then (if a < b then 1 else 0) else (if a ≤ b then 1 else 0)) = b2 (cmpv srt a b) := by
    intro _ _
    unfold cmpv b2
    by_cases h0 : srt = 0
    · by_cases hab : a = b <;> simp [h0, hab]
    · by_cases h1 : srt = 1
      · by_cases hab : a = b <;> simp [h1, hab]
      · by_cases h2 : srt = 2
        · by_cases hab : a < b <;> simp [h2, hab]
        · by_cases hab : a ≤ b <;> simp [h0, h1, h2, hab]
  have fin : ∀ (c3 : Int) (r : Bool), (c3 = 0 ∨ c3 = 1) → r = (decide (c3 = 0) && cmpv srt a b) → Q (some (vi (b2 (r != nt)))) θ μ2 → ∀ x5, Ex d 193 57 [vr 138, vi (q : Nat), vi a, vi c3, vi b, x5] [] θ μ2 Q := by
    intro c3 r hc3 hr hqq x5
    have hn : b2 nt = 0 ∨ b2 nt = 1 := by cases nt <;> simp [b2]
    have hlt : (b ≤ a) = ¬ a < b := propext (by omega)
    have hle : (b < a) = ¬ a ≤ b := propext (by omega)
    have : srt = 0 ∨ srt = 1 ∨ srt = 2 ∨ srt = 3 := by omega
    have m0 : ∀ k : Nat, srt = k → μ2 161 q = (k : Int) := fun k hk => by rw [m161, hk]
    rcases this with hs | hs | hs | hs
    · have e := m0 0 hs
      have e' : μ2 161 q = 0 := e
      by_cases hab : a = b
      · have hcm : cmpv srt a b = true := by simp [cmpv, hs, hab]
        rw [hcm] at hr
        rcases hc3 with h3 | h3 <;> cases nt <;> simp [h3] at hr <;> subst hr <;> simp [b2] at m162 hqq
        all_goals
          simp (disch := omega) only [x193_0, x193_1, x193_2, x193_5, x193_6, x193_7, x193_8, x193_11, x193_12, x193_13, x193_16, x193_17, x193_18, x193_21, x193_22, x193_23, x193_24, x193_27, x193_28, x193_29, x193_30, x193_33, x193_34, x193_35, x193_38, x193_40, x193_41, x193_44, x193_45, x193_48, x193_51, x193_52, x193_55, x193_56, x193_57, x193_58, x193_61, x193_62, x193_63, x193_66, x193_67, x193_69, x193_72, x193_73, x193_76, x193_77, x193_80, x193_81, x193_84, x193_85, x193_86, x193_87, x193_90, x193_91, x193_93, x193_96, x193_97, x193_100, x193_101, x193_104, x193_105, x193_108, x193_109, x193_110, x193_111, x193_114, x193_115, x193_117, x193_120, x193_121, x193_124, x193_125, x193_128, x193_129, x193_131, x193_134, x193_135, x193_138, x193_139, x193_141, x193_143, x193_146, x193_147, x193_150, x193_151, x193_154, x193_155, x193_156, x193_159, x193_160, x193_161, x193_164, x193_165, x193_168, x193_169, ↓reduceIte, Bool.false_eq_true, Nat.reduceAdd, Nat.reduceLT, Nat.reduceLeDiff, Nat.reduceSub, Nat.reduceEqDiff, Int.reduceToNat, Int.reduceEq, Int.reduceLT, Int.reduceLE, Int.reduceAdd, Int.reduceSub, zg, zI, zJ, zR, zst, zkl, zn, zcat, zok, zraw, List.length_cons, List.length_nil, Option.toList, List.nil_append, List.cons_append, true_and, and_true, if_true, if_false, ne_eq, not_true, not_false_eq_true, and_self, true_or, or_true, false_or, or_false, false_and, and_false, b_138 hm, r_138_37 hm, x_161 hm, r_138_38 hm, x_162 hm, n_162 hm, e', m162, hab, h3, Int.toNat_natCast]
          simpa using hqq
      · have hcm : cmpv srt a b = false := by simp [cmpv, hs, hab]
        rw [hcm] at hr
        rcases hc3 with h3 | h3 <;> cases nt <;> simp [h3] at hr <;> subst hr <;> simp [b2] at m162 hqq
        all_goals
          simp (disch := omega) only [x193_0, x193_1, x193_2, x193_5, x193_6, x193_7, x193_8, x193_11, x193_12, x193_13, x193_16, x193_17, x193_18, x193_21, x193_22, x193_23, x193_24, x193_27, x193_28, x193_29, x193_30, x193_33, x193_34, x193_35, x193_38, x193_40, x193_41, x193_44, x193_45, x193_48, x193_51, x193_52, x193_55, x193_56, x193_57, x193_58, x193_61, x193_62, x193_63, x193_66, x193_67, x193_69, x193_72, x193_73, x193_76, x193_77, x193_80, x193_81, x193_84, x193_85, x193_86, x193_87, x193_90, x193_91, x193_93, x193_96, x193_97, x193_100, x193_101, x193_104, x193_105, x193_108, x193_109, x193_110, x193_111, x193_114, x193_115, x193_117, x193_120, x193_121, x193_124, x193_125, x193_128, x193_129, x193_131, x193_134, x193_135, x193_138, x193_139, x193_141, x193_143, x193_146, x193_147, x193_150, x193_151, x193_154, x193_155, x193_156, x193_159, x193_160, x193_161, x193_164, x193_165, x193_168, x193_169, ↓reduceIte, Bool.false_eq_true, Nat.reduceAdd, Nat.reduceLT, Nat.reduceLeDiff, Nat.reduceSub, Nat.reduceEqDiff, Int.reduceToNat, Int.reduceEq, Int.reduceLT, Int.reduceLE, Int.reduceAdd, Int.reduceSub, zg, zI, zJ, zR, zst, zkl, zn, zcat, zok, zraw, List.length_cons, List.length_nil, Option.toList, List.nil_append, List.cons_append, true_and, and_true, if_true, if_false, ne_eq, not_true, not_false_eq_true, and_self, true_or, or_true, false_or, or_false, false_and, and_false, b_138 hm, r_138_37 hm, x_161 hm, r_138_38 hm, x_162 hm, n_162 hm, e', m162, hab, h3, Int.toNat_natCast]
          simpa using hqq
    · have e := m0 1 hs
      have e' : μ2 161 q = 1 := e
      by_cases hab : a = b
      · have hcm : cmpv srt a b = false := by simp [cmpv, hs, hab]
        rw [hcm] at hr
        rcases hc3 with h3 | h3 <;> cases nt <;> simp [h3] at hr <;> subst hr <;> simp [b2] at m162 hqq
        all_goals
          simp (disch := omega) only [x193_0, x193_1, x193_2, x193_5, x193_6, x193_7, x193_8, x193_11, x193_12, x193_13, x193_16, x193_17, x193_18, x193_21, x193_22, x193_23, x193_24, x193_27, x193_28, x193_29, x193_30, x193_33, x193_34, x193_35, x193_38, x193_40, x193_41, x193_44, x193_45, x193_48, x193_51, x193_52, x193_55, x193_56, x193_57, x193_58, x193_61, x193_62, x193_63, x193_66, x193_67, x193_69, x193_72, x193_73, x193_76, x193_77, x193_80, x193_81, x193_84, x193_85, x193_86, x193_87, x193_90, x193_91, x193_93, x193_96, x193_97, x193_100, x193_101, x193_104, x193_105, x193_108, x193_109, x193_110, x193_111, x193_114, x193_115, x193_117, x193_120, x193_121, x193_124, x193_125, x193_128, x193_129, x193_131, x193_134, x193_135, x193_138, x193_139, x193_141, x193_143, x193_146, x193_147, x193_150, x193_151, x193_154, x193_155, x193_156, x193_159, x193_160, x193_161, x193_164, x193_165, x193_168, x193_169, ↓reduceIte, Bool.false_eq_true, Nat.reduceAdd, Nat.reduceLT, Nat.reduceLeDiff, Nat.reduceSub, Nat.reduceEqDiff, Int.reduceToNat, Int.reduceEq, Int.reduceLT, Int.reduceLE, Int.reduceAdd, Int.reduceSub, zg, zI, zJ, zR, zst, zkl, zn, zcat, zok, zraw, List.length_cons, List.length_nil, Option.toList, List.nil_append, List.cons_append, true_and, and_true, if_true, if_false, ne_eq, not_true, not_false_eq_true, and_self, true_or, or_true, false_or, or_false, false_and, and_false, b_138 hm, r_138_37 hm, x_161 hm, r_138_38 hm, x_162 hm, n_162 hm, e', m162, hab, h3, Int.toNat_natCast]
          simpa using hqq
      · have hcm : cmpv srt a b = true := by simp [cmpv, hs, hab]
        rw [hcm] at hr
        rcases hc3 with h3 | h3 <;> cases nt <;> simp [h3] at hr <;> subst hr <;> simp [b2] at m162 hqq
        all_goals
          simp (disch := omega) only [x193_0, x193_1, x193_2, x193_5, x193_6, x193_7, x193_8, x193_11, x193_12, x193_13, x193_16, x193_17, x193_18, x193_21, x193_22, x193_23, x193_24, x193_27, x193_28, x193_29, x193_30, x193_33, x193_34, x193_35, x193_38, x193_40, x193_41, x193_44, x193_45, x193_48, x193_51, x193_52, x193_55, x193_56, x193_57, x193_58, x193_61, x193_62, x193_63, x193_66, x193_67, x193_69, x193_72, x193_73, x193_76, x193_77, x193_80, x193_81, x193_84, x193_85, x193_86, x193_87, x193_90, x193_91, x193_93, x193_96, x193_97, x193_100, x193_101, x193_104, x193_105, x193_108, x193_109, x193_110, x193_111, x193_114, x193_115, x193_117, x193_120, x193_121, x193_124, x193_125, x193_128, x193_129, x193_131, x193_134, x193_135, x193_138, x193_139, x193_141, x193_143, x193_146, x193_147, x193_150, x193_151, x193_154, x193_155, x193_156, x193_159, x193_160, x193_161, x193_164, x193_165, x193_168, x193_169, ↓reduceIte, Bool.false_eq_true, Nat.reduceAdd, Nat.reduceLT, Nat.reduceLeDiff, Nat.reduceSub, Nat.reduceEqDiff, Int.reduceToNat, Int.reduceEq, Int.reduceLT, Int.reduceLE, Int.reduceAdd, Int.reduceSub, zg, zI, zJ, zR, zst, zkl, zn, zcat, zok, zraw, List.length_cons, List.length_nil, Option.toList, List.nil_append, List.cons_append, true_and, and_true, if_true, if_false, ne_eq, not_true, not_false_eq_true, and_self, true_or, or_true, false_or, or_false, false_and, and_false, b_138 hm, r_138_37 hm, x_161 hm, r_138_38 hm, x_162 hm, n_162 hm, e', m162, hab, h3, Int.toNat_natCast]
          simpa using hqq
    · have e := m0 2 hs
      have e' : μ2 161 q = 2 := e
      by_cases hab : a < b
      · have hcm : cmpv srt a b = true := by simp [cmpv, hs, hab]
        rw [hcm] at hr
        rcases hc3 with h3 | h3 <;> cases nt <;> simp [h3] at hr <;> subst hr <;> simp [b2] at m162 hqq
        all_goals
          simp (disch := omega) only [x193_0, x193_1, x193_2, x193_5, x193_6, x193_7, x193_8, x193_11, x193_12, x193_13, x193_16, x193_17, x193_18, x193_21, x193_22, x193_23, x193_24, x193_27, x193_28, x193_29, x193_30, x193_33, x193_34, x193_35, x193_38, x193_40, x193_41, x193_44, x193_45, x193_48, x193_51, x193_52, x193_55, x193_56, x193_57, x193_58, x193_61, x193_62, x193_63, x193_66, x193_67, x193_69, x193_72, x193_73, x193_76, x193_77, x193_80, x193_81, x193_84, x193_85, x193_86, x193_87, x193_90, x193_91, x193_93, x193_96, x193_97, x193_100, x193_101, x193_104, x193_105, x193_108, x193_109, x193_110, x193_111, x193_114, x193_115, x193_117, x193_120, x193_121, x193_124, x193_125, x193_128, x193_129, x193_131, x193_134, x193_135, x193_138, x193_139, x193_141, x193_143, x193_146, x193_147, x193_150, x193_151, x193_154, x193_155, x193_156, x193_159, x193_160, x193_161, x193_164, x193_165, x193_168, x193_169, ↓reduceIte, Bool.false_eq_true, Nat.reduceAdd, Nat.reduceLT, Nat.reduceLeDiff, Nat.reduceSub, Nat.reduceEqDiff, Int.reduceToNat, Int.reduceEq, Int.reduceLT, Int.reduceLE, Int.reduceAdd, Int.reduceSub, zg, zI, zJ, zR, zst, zkl, zn, zcat, zok, zraw, List.length_cons, List.length_nil, Option.toList, List.nil_append, List.cons_append, true_and, and_true, if_true, if_false, ne_eq, not_true, not_false_eq_true, and_self, true_or, or_true, false_or, or_false, false_and, and_false, b_138 hm, r_138_37 hm, x_161 hm, r_138_38 hm, x_162 hm, n_162 hm, e', m162, hlt, hab, h3, Int.toNat_natCast]
          simpa using hqq
      · have hcm : cmpv srt a b = false := by simp [cmpv, hs] <;> omega
        rw [hcm] at hr
        rcases hc3 with h3 | h3 <;> cases nt <;> simp [h3] at hr <;> subst hr <;> simp [b2] at m162 hqq
        all_goals
          simp (disch := omega) only [x193_0, x193_1, x193_2, x193_5, x193_6, x193_7, x193_8, x193_11, x193_12, x193_13, x193_16, x193_17, x193_18, x193_21, x193_22, x193_23, x193_24, x193_27, x193_28, x193_29, x193_30, x193_33, x193_34, x193_35, x193_38, x193_40, x193_41, x193_44, x193_45, x193_48, x193_51, x193_52, x193_55, x193_56, x193_57, x193_58, x193_61, x193_62, x193_63, x193_66, x193_67, x193_69, x193_72, x193_73, x193_76, x193_77, x193_80, x193_81, x193_84, x193_85, x193_86, x193_87, x193_90, x193_91, x193_93, x193_96, x193_97, x193_100, x193_101, x193_104, x193_105, x193_108, x193_109, x193_110, x193_111, x193_114, x193_115, x193_117, x193_120, x193_121, x193_124, x193_125, x193_128, x193_129, x193_131, x193_134, x193_135, x193_138, x193_139, x193_141, x193_143, x193_146, x193_147, x193_150, x193_151, x193_154, x193_155, x193_156, x193_159, x193_160, x193_161, x193_164, x193_165, x193_168, x193_169, ↓reduceIte, Bool.false_eq_true, Nat.reduceAdd, Nat.reduceLT, Nat.reduceLeDiff, Nat.reduceSub, Nat.reduceEqDiff, Int.reduceToNat, Int.reduceEq, Int.reduceLT, Int.reduceLE, Int.reduceAdd, Int.reduceSub, zg, zI, zJ, zR, zst, zkl, zn, zcat, zok, zraw, List.length_cons, List.length_nil, Option.toList, List.nil_append, List.cons_append, true_and, and_true, if_true, if_false, ne_eq, not_true, not_false_eq_true, and_self, true_or, or_true, false_or, or_false, false_and, and_false, b_138 hm, r_138_37 hm, x_161 hm, r_138_38 hm, x_162 hm, n_162 hm, e', m162, hlt, hab, h3, Int.toNat_natCast]
          simpa using hqq
    · have e := m0 3 hs
      have e' : μ2 161 q = 3 := e
      by_cases hab : a ≤ b
      · have hcm : cmpv srt a b = true := by simp [cmpv, hs, hab]
        rw [hcm] at hr
        rcases hc3 with h3 | h3 <;> cases nt <;> simp [h3] at hr <;> subst hr <;> simp [b2] at m162 hqq
        all_goals
          simp (disch := omega) only [x193_0, x193_1, x193_2, x193_5, x193_6, x193_7, x193_8, x193_11, x193_12, x193_13, x193_16, x193_17, x193_18, x193_21, x193_22, x193_23, x193_24, x193_27, x193_28, x193_29, x193_30, x193_33, x193_34, x193_35, x193_38, x193_40, x193_41, x193_44, x193_45, x193_48, x193_51, x193_52, x193_55, x193_56, x193_57, x193_58, x193_61, x193_62, x193_63, x193_66, x193_67, x193_69, x193_72, x193_73, x193_76, x193_77, x193_80, x193_81, x193_84, x193_85, x193_86, x193_87, x193_90, x193_91, x193_93, x193_96, x193_97, x193_100, x193_101, x193_104, x193_105, x193_108, x193_109, x193_110, x193_111, x193_114, x193_115, x193_117, x193_120, x193_121, x193_124, x193_125, x193_128, x193_129, x193_131, x193_134, x193_135, x193_138, x193_139, x193_141, x193_143, x193_146, x193_147, x193_150, x193_151, x193_154, x193_155, x193_156, x193_159, x193_160, x193_161, x193_164, x193_165, x193_168, x193_169, ↓reduceIte, Bool.false_eq_true, Nat.reduceAdd, Nat.reduceLT, Nat.reduceLeDiff, Nat.reduceSub, Nat.reduceEqDiff, Int.reduceToNat, Int.reduceEq, Int.reduceLT, Int.reduceLE, Int.reduceAdd, Int.reduceSub, zg, zI, zJ, zR, zst, zkl, zn, zcat, zok, zraw, List.length_cons, List.length_nil, Option.toList, List.nil_append, List.cons_append, true_and, and_true, if_true, if_false, ne_eq, not_true, not_false_eq_true, and_self, true_or, or_true, false_or, or_false, false_and, and_false, b_138 hm, r_138_37 hm, x_161 hm, r_138_38 hm, x_162 hm, n_162 hm, e', m162, hle, hab, h3, Int.toNat_natCast]
          simpa using hqq
      · have hcm : cmpv srt a b = false := by simp [cmpv, hs] <;> omega
        rw [hcm] at hr
        rcases hc3 with h3 | h3 <;> cases nt <;> simp [h3] at hr <;> subst hr <;> simp [b2] at m162 hqq
        all_goals
          simp (disch := omega) only [x193_0, x193_1, x193_2, x193_5, x193_6, x193_7, x193_8, x193_11, x193_12, x193_13, x193_16, x193_17, x193_18, x193_21, x193_22, x193_23, x193_24, x193_27, x193_28, x193_29, x193_30, x193_33, x193_34, x193_35, x193_38, x193_40, x193_41, x193_44, x193_45, x193_48, x193_51, x193_52, x193_55, x193_56, x193_57, x193_58, x193_61, x193_62, x193_63, x193_66, x193_67, x193_69, x193_72, x193_73, x193_76, x193_77, x193_80, x193_81, x193_84, x193_85, x193_86, x193_87, x193_90, x193_91, x193_93, x193_96, x193_97, x193_100, x193_101, x193_104, x193_105, x193_108, x193_109, x193_110, x193_111, x193_114, x193_115, x193_117, x193_120, x193_121, x193_124, x193_125, x193_128, x193_129, x193_131, x193_134, x193_135, x193_138, x193_139, x193_141, x193_143, x193_146, x193_147, x193_150, x193_151, x193_154, x193_155, x193_156, x193_159, x193_160, x193_161, x193_164, x193_165, x193_168, x193_169, ↓reduceIte, Bool.false_eq_true, Nat.reduceAdd, Nat.reduceLT, Nat.reduceLeDiff, Nat.reduceSub, Nat.reduceEqDiff, Int.reduceToNat, Int.reduceEq, Int.reduceLT, Int.reduceLE, Int.reduceAdd, Int.reduceSub, zg, zI, zJ, zR, zst, zkl, zn, zcat, zok, zraw, List.length_cons, List.length_nil, Option.toList, List.nil_append, List.cons_append, true_and, and_true, if_true, if_false, ne_eq, not_true, not_false_eq_true, and_self, true_or, or_true, false_or, or_false, false_and, and_false, b_138 hm, r_138_37 hm, x_161 hm, r_138_38 hm, x_162 hm, n_162 hm, e', m162, hle, hab, h3, Int.toNat_natCast]
          simpa using hqq
  rcases ha with ⟨ea, rfl, ha50⟩ | ⟨ea, ha50⟩
  · rw [ea] at hq
    simp (disch := omega) only [x193_0, x193_1, x193_2, x193_5, x193_6, x193_7, x193_8, x193_11, x193_12, x193_13, x193_16, x193_17, x193_18, x193_21, x193_22, x193_23, x193_24, x193_27, x193_28, x193_29, x193_30, x193_33, x193_34, x193_35, x193_38, x193_40, x193_41, x193_44, x193_45, x193_48, x193_51, x193_52, x193_55, x193_56, x193_58, x193_61, x193_62, x193_63, x193_66, x193_67, x193_69, x193_72, x193_73, x193_76, x193_77, x193_80, x193_81, x193_84, x193_85, x193_86, x193_87, x193_90, x193_91, x193_93, x193_96, x193_97, x193_100, x193_101, x193_104, x193_105, x193_108, x193_109, x193_110, x193_111, x193_114, x193_115, x193_117, x193_120, x193_121, x193_124, x193_125, x193_128, x193_129, x193_131, x193_134, x193_135, x193_138, x193_139, x193_141, x193_143, x193_146, x193_147, x193_150, x193_151, x193_154, x193_155, x193_156, x193_159, x193_160, x193_161, x193_164, x193_165, x193_168, x193_169, ↓reduceIte, Bool.false_eq_true, Nat.reduceAdd, Nat.reduceLT, Nat.reduceLeDiff, Nat.reduceSub, Nat.reduceEqDiff, Int.reduceToNat, Int.reduceEq, Int.reduceLT, Int.reduceLE, Int.reduceAdd, Int.reduceSub, zg, zI, zJ, zR, zst, zkl, zn, zcat, zok, zraw, List.length_cons, List.length_nil, Option.toList, List.nil_append, List.cons_append, true_and, and_true, if_true, if_false, ne_eq, not_true, not_false_eq_true, and_self, true_or, or_true, false_or, or_false, false_and, and_false, b_138 hm, ha50]
    exact fin 1 false (Or.inr rfl) (by simp) hq _
  · rcases hb with ⟨eb, rfl, hb50'⟩ | ⟨eb, hb50'⟩
    · rw [ea, eb] at hq
      simp (disch := omega) only [x193_0, x193_1, x193_2, x193_5, x193_6, x193_7, x193_8, x193_11, x193_12, x193_13, x193_16, x193_17, x193_18, x193_21, x193_22, x193_23, x193_24, x193_27, x193_28, x193_29, x193_30, x193_33, x193_34, x193_35, x193_38, x193_40, x193_41, x193_44, x193_45, x193_48, x193_51, x193_52, x193_55, x193_56, x193_58, x193_61, x193_62, x193_63, x193_66, x193_67, x193_69, x193_72, x193_73, x193_76, x193_77, x193_80, x193_81, x193_84, x193_85, x193_86, x193_87, x193_90, x193_91, x193_93, x193_96, x193_97, x193_100, x193_101, x193_104, x193_105, x193_108, x193_109, x193_110, x193_111, x193_114, x193_115, x193_117, x193_120, x193_121, x193_124, x193_125, x193_128, x193_129, x193_131, x193_134, x193_135, x193_138, x193_139, x193_141, x193_143, x193_146, x193_147, x193_150, x193_151, x193_154, x193_155, x193_156, x193_159, x193_160, x193_161, x193_164, x193_165, x193_168, x193_169, ↓reduceIte, Bool.false_eq_true, Nat.reduceAdd, Nat.reduceLT, Nat.reduceLeDiff, Nat.reduceSub, Nat.reduceEqDiff, Int.reduceToNat, Int.reduceEq, Int.reduceLT, Int.reduceLE, Int.reduceAdd, Int.reduceSub, zg, zI, zJ, zR, zst, zkl, zn, zcat, zok, zraw, List.length_cons, List.length_nil, Option.toList, List.nil_append, List.cons_append, true_and, and_true, if_true, if_false, ne_eq, not_true, not_false_eq_true, and_self, true_or, or_true, false_or, or_false, false_and, and_false, b_138 hm, ha50, hb50']
      exact fin 1 false (Or.inr rfl) (by simp) hq _
    · rw [ea, eb] at hq
      simp (disch := omega) only [x193_0, x193_1, x193_2, x193_5, x193_6, x193_7, x193_8, x193_11, x193_12, x193_13, x193_16, x193_17, x193_18, x193_21, x193_22, x193_23, x193_24, x193_27, x193_28, x193_29, x193_30, x193_33, x193_34, x193_35, x193_38, x193_40, x193_41, x193_44, x193_45, x193_48, x193_51, x193_52, x193_55, x193_56, x193_58, x193_61, x193_62, x193_63, x193_66, x193_67, x193_69, x193_72, x193_73, x193_76, x193_77, x193_80, x193_81, x193_84, x193_85, x193_86, x193_87, x193_90, x193_91, x193_93, x193_96, x193_97, x193_100, x193_101, x193_104, x193_105, x193_108, x193_109, x193_110, x193_111, x193_114, x193_115, x193_117, x193_120, x193_121, x193_124, x193_125, x193_128, x193_129, x193_131, x193_134, x193_135, x193_138, x193_139, x193_141, x193_143, x193_146, x193_147, x193_150, x193_151, x193_154, x193_155, x193_156, x193_159, x193_160, x193_161, x193_164, x193_165, x193_168, x193_169, ↓reduceIte, Bool.false_eq_true, Nat.reduceAdd, Nat.reduceLT, Nat.reduceLeDiff, Nat.reduceSub, Nat.reduceEqDiff, Int.reduceToNat, Int.reduceEq, Int.reduceLT, Int.reduceLE, Int.reduceAdd, Int.reduceSub, zg, zI, zJ, zR, zst, zkl, zn, zcat, zok, zraw, List.length_cons, List.length_nil, Option.toList, List.nil_append, List.cons_append, true_and, and_true, if_true, if_false, ne_eq, not_true, not_false_eq_true, and_self, true_or, or_true, false_or, or_false, false_and, and_false, b_138 hm, ha50, hb50']
      exact fin 0 (cmpv srt a b) (Or.inl rfl) (by simp) hq _
theorem mRule {d r : Nat} {x a b : Int} {ls : List zL} {v : Nat → Int} {x2 x3 : zV} (hm : Tm θ) (hd : 2 ≤ d) (hx : x = (r : Int)) (hr : r < 36) (ea : μ 152 r = a) (eb : μ 153 r = b) (ha0 : 0 ≤ a) (hb : b = a + ls.length) (hb3 : b ≤ 300) (hls : ∀ j (h : j < ls.length), lAt μ (a.toNat + j) ls[j]) (hw : ∀ l ∈ ls, wfL l) (hv : ∀ j, j < 13 → μ 170 j = v j)
    (hQ : ∀ μ', Fr [138, 171] μ μ' → (∀ j, j ≠ 50 → μ' 138 j = μ 138 j) → Q (some (vi (b2 (rulv v ls false)))) θ μ') : Ex d 194 0 [vr 138, vi x, x2, x3] [] θ μ Q := by
  subst hx
  have hd0 : 0 < d := by omega
  have key : ∀ t L μ1, t ≤ ls.length → (∃ all : Bool, L = [vr 138, vi (r : Nat), vi (b2 all), vi (a + (t : Nat))] ∧ Fr [138, 171] μ μ1 ∧ (∀ j, j ≠ 50 → μ1 138 j = μ 138 j) ∧ rulv v ls false = rulv v (ls.drop t) all) → Ex d 194 9 L [] θ μ1 Q := by
    refine Ex_loop (I := fun t L μ1 => ∃ all : Bool, L = [vr 138, vi (r : Nat), vi (b2 all), vi (a + (t : Nat))] ∧ Fr [138, 171] μ μ1 ∧ (∀ j, j ≠ 50 → μ1 138 j = μ 138 j) ∧ rulv v ls false = rulv v (ls.drop t) all) ls.length ?_ ?_
    · rintro t L μ1 ht ⟨all, rfl, hf, hj, hrv⟩ hk
      have i1 : ¬ (b ≤ a + (t : Int)) := by omega
      have e153 : μ1 153 r = b := by rw [hf 153 (by decide)]; exact eb
      have hl := hls t ht
      have e1 : (a + (t : Int)).toNat = a.toNat + t := by omega
      have e163 : μ1 163 (a + (t : Int)).toNat = b2 ls[t].1 := by rw [hf 163 (by decide), e1]; exact hl.1
      have i3 : w32 (a + (t : Int) + 1) = a + ((t + 1 : Nat) : Int) := by unfold w32; omega
      have hl1 : lAt μ1 (a.toNat + t) ls[t] := by
        unfold lAt mAt at hl ⊢
        rw [hf 163 (by decide), hf 162 (by decide), hf 161 (by decide), hf 164 (by decide), hf 165 (by decide), hf 166 (by decide), hf 167 (by decide), hf 168 (by decide)]
        exact hl
      have hwl := hw _ (List.getElem_mem ht)
      rw [List.drop_eq_getElem_cons ht] at hrv
      generalize ls[t] = l at *
      rw [rulv] at hrv
      have asked : ∀ A : Bool, rulv v ls false = rulv v (ls.drop (t + 1)) (A && litv v l) → A = true → (∀ μ2, Fr [138, 171] μ1 μ2 → (∀ j, j ≠ 50 → μ2 138 j = μ1 138 j) → Ex d 194 9 [vr 138, vi (r : Nat), vi (b2 (litv v l)), vi (a + ((t + 1 : Nat) : Int))] [] θ μ2 Q) := by
        intro A hA hA1 μ2 hf2 hj2
        apply hk
        refine ⟨litv v l, rfl, hf.trans hf2, fun j h => by rw [hj2 j h, hj j h], ?_⟩
        rw [hA, hA1, Bool.true_and]
      by_cases ho : l.1 = true
      · have e163' : μ1 163 (a + (t : Int)).toNat = 1 := by rw [e163, ho]; rfl
        cases all with
        | true =>
          simp only [ho, and_self, if_true] at hrv
          have hq := hQ μ1 hf hj
          rw [hrv] at hq
          rw [x194_9]
          simp (disch := omega) only [x194_0, x194_1, x194_2, x194_3, x194_6, x194_7, x194_8, x194_10, x194_11, x194_14, x194_15, x194_16, x194_19, x194_20, x194_23, x194_24, x194_25, x194_28, x194_29, x194_32, x194_33, x194_34, x194_35, x194_38, x194_39, x194_40, x194_43, x194_44, x194_45, x194_46, x194_49, x194_50, x194_51, x194_54, x194_57, x194_58, x194_61, x194_62, x194_63, x194_66, x194_69, x194_70, ↓reduceIte, Bool.false_eq_true, Nat.reduceAdd, Nat.reduceLT, Nat.reduceLeDiff, Nat.reduceSub, Nat.reduceEqDiff, Int.reduceToNat, Int.reduceEq, Int.reduceLT, Int.reduceLE, Int.reduceAdd, Int.reduceSub, zg, zI, zJ, zR, zst, zkl, zn, zcat, zok, zraw, List.length_cons, List.length_nil, Option.toList, List.nil_append, List.cons_append, true_and, and_true, if_true, if_false, ne_eq, not_true, not_false_eq_true, and_self, true_or, or_true, false_or, or_false, false_and, and_false, b_138 hm, r_138_28 hm, x_153 hm, r_138_39 hm, x_163 hm, n_163 hm, e153, i1, e163', b2, Int.toNat_natCast]
          exact hq
        | false =>
          simp only [ho, Bool.false_eq_true, and_false, if_false, if_true] at hrv
          rw [x194_9]
          simp (disch := omega) only [x194_0, x194_1, x194_2, x194_3, x194_6, x194_7, x194_8, x194_10, x194_11, x194_14, x194_15, x194_16, x194_19, x194_20, x194_23, x194_24, x194_25, x194_28, x194_29, x194_32, x194_33, x194_34, x194_35, x194_38, x194_39, x194_40, x194_43, x194_44, x194_45, x194_46, x194_49, x194_50, x194_51, x194_54, x194_57, x194_58, x194_61, x194_62, x194_63, x194_66, x194_69, x194_70, ↓reduceIte, Bool.false_eq_true, Nat.reduceAdd, Nat.reduceLT, Nat.reduceLeDiff, Nat.reduceSub, Nat.reduceEqDiff, Int.reduceToNat, Int.reduceEq, Int.reduceLT, Int.reduceLE, Int.reduceAdd, Int.reduceSub, zg, zI, zJ, zR, zst, zkl, zn, zcat, zok, zraw, List.length_cons, List.length_nil, Option.toList, List.nil_append, List.cons_append, true_and, and_true, if_true, if_false, ne_eq, not_true, not_false_eq_true, and_self, true_or, or_true, false_or, or_false, false_and, and_false, b_138 hm, r_138_28 hm, x_153 hm, r_138_39 hm, x_163 hm, n_163 hm, e153, i1, e163', b2, hd0, Int.toNat_natCast]
          refine mTrue (d := d - 1) (q := a.toNat + t) (l := l) (v := v) hm (by omega) hl1 hwl (by omega) (by omega) (fun j hj' => by rw [hf 170 (by decide)]; exact hv j hj') ?_
          intro μ2 hf2 hj2
          have := asked true hrv rfl μ2 hf2 hj2
          cases hlv : litv v l with
          | true =>
            rw [hlv] at this
            simp (disch := omega) only [x194_0, x194_1, x194_2, x194_3, x194_6, x194_7, x194_8, x194_10, x194_11, x194_14, x194_15, x194_16, x194_19, x194_20, x194_23, x194_24, x194_25, x194_28, x194_29, x194_32, x194_33, x194_34, x194_35, x194_38, x194_39, x194_40, x194_43, x194_44, x194_45, x194_46, x194_49, x194_50, x194_51, x194_54, x194_57, x194_58, x194_61, x194_62, x194_63, x194_66, x194_69, x194_70, ↓reduceIte, Bool.false_eq_true, Nat.reduceAdd, Nat.reduceLT, Nat.reduceLeDiff, Nat.reduceSub, Nat.reduceEqDiff, Int.reduceToNat, Int.reduceEq, Int.reduceLT, Int.reduceLE, Int.reduceAdd, Int.reduceSub, zg, zI, zJ, zR, zst, zkl, zn, zcat, zok, zraw, List.length_cons, List.length_nil, Option.toList, List.nil_append, List.cons_append, true_and, and_true, if_true, if_false, ne_eq, not_true, not_false_eq_true, and_self, true_or, or_true, false_or, or_false, false_and, and_false, b2, i3] at this ⊢
            exact this
          | false =>
            rw [hlv] at this
            simp (disch := omega) only [x194_0, x194_1, x194_2, x194_3, x194_6, x194_7, x194_8, x194_10, x194_11, x194_14, x194_15, x194_16, x194_19, x194_20, x194_23, x194_24, x194_25, x194_28, x194_29, x194_32, x194_33, x194_34, x194_35, x194_38, x194_39, x194_40, x194_43, x194_44, x194_45, x194_46, x194_49, x194_50, x194_51, x194_54, x194_57, x194_58, x194_61, x194_62, x194_63, x194_66, x194_69, x194_70, ↓reduceIte, Bool.false_eq_true, Nat.reduceAdd, Nat.reduceLT, Nat.reduceLeDiff, Nat.reduceSub, Nat.reduceEqDiff, Int.reduceToNat, Int.reduceEq, Int.reduceLT, Int.reduceLE, Int.reduceAdd, Int.reduceSub, zg, zI, zJ, zR, zst, zkl, zn, zcat, zok, zraw, List.length_cons, List.length_nil, Option.toList, List.nil_append, List.cons_append, true_and, and_true, if_true, if_false, ne_eq, not_true, not_false_eq_true, and_self, true_or, or_true, false_or, or_false, false_and, and_false, b2, i3] at this ⊢
            exact this
      · have e163' : μ1 163 (a + (t : Int)).toNat = 0 := by rw [e163]; unfold b2; rw [if_neg ho]
        cases all with
        | true =>
          simp only [ho, false_and, if_false] at hrv
          rw [x194_9]
          simp (disch := omega) only [x194_0, x194_1, x194_2, x194_3, x194_6, x194_7, x194_8, x194_10, x194_11, x194_14, x194_15, x194_16, x194_19, x194_20, x194_23, x194_24, x194_25, x194_28, x194_29, x194_32, x194_33, x194_34, x194_35, x194_38, x194_39, x194_40, x194_43, x194_44, x194_45, x194_46, x194_49, x194_50, x194_51, x194_54, x194_57, x194_58, x194_61, x194_62, x194_63, x194_66, x194_69, x194_70, ↓reduceIte, Bool.false_eq_true, Nat.reduceAdd, Nat.reduceLT, Nat.reduceLeDiff, Nat.reduceSub, Nat.reduceEqDiff, Int.reduceToNat, Int.reduceEq, Int.reduceLT, Int.reduceLE, Int.reduceAdd, Int.reduceSub, zg, zI, zJ, zR, zst, zkl, zn, zcat, zok, zraw, List.length_cons, List.length_nil, Option.toList, List.nil_append, List.cons_append, true_and, and_true, if_true, if_false, ne_eq, not_true, not_false_eq_true, and_self, true_or, or_true, false_or, or_false, false_and, and_false, b_138 hm, r_138_28 hm, x_153 hm, r_138_39 hm, x_163 hm, n_163 hm, e153, i1, e163', b2, hd0, Int.toNat_natCast]
          refine mTrue (d := d - 1) (q := a.toNat + t) (l := l) (v := v) hm (by omega) hl1 hwl (by omega) (by omega) (fun j hj' => by rw [hf 170 (by decide)]; exact hv j hj') ?_
          intro μ2 hf2 hj2
          have := asked true hrv rfl μ2 hf2 hj2
          cases hlv : litv v l with
          | true =>
            rw [hlv] at this
            simp (disch := omega) only [x194_0, x194_1, x194_2, x194_3, x194_6, x194_7, x194_8, x194_10, x194_11, x194_14, x194_15, x194_16, x194_19, x194_20, x194_23, x194_24, x194_25, x194_28, x194_29, x194_32, x194_33, x194_34, x194_35, x194_38, x194_39, x194_40, x194_43, x194_44, x194_45, x194_46, x194_49, x194_50, x194_51, x194_54, x194_57, x194_58, x194_61, x194_62, x194_63, x194_66, x194_69, x194_70, ↓reduceIte, Bool.false_eq_true, Nat.reduceAdd, Nat.reduceLT, Nat.reduceLeDiff, Nat.reduceSub, Nat.reduceEqDiff, Int.reduceToNat, Int.reduceEq, Int.reduceLT, Int.reduceLE, Int.reduceAdd, Int.reduceSub, zg, zI, zJ, zR, zst, zkl, zn, zcat, zok, zraw, List.length_cons, List.length_nil, Option.toList, List.nil_append, List.cons_append, true_and, and_true, if_true, if_false, ne_eq, not_true, not_false_eq_true, and_self, true_or, or_true, false_or, or_false, false_and, and_false, b2, i3] at this ⊢
            exact this
          | false =>
            rw [hlv] at this
            simp (disch := omega) only [x194_0, x194_1, x194_2, x194_3, x194_6, x194_7, x194_8, x194_10, x194_11, x194_14, x194_15, x194_16, x194_19, x194_20, x194_23, x194_24, x194_25, x194_28, x194_29, x194_32, x194_33, x194_34, x194_35, x194_38, x194_39, x194_40, x194_43, x194_44, x194_45, x194_46, x194_49, x194_50, x194_51, x194_54, x194_57, x194_58, x194_61, x194_62, x194_63, x194_66, x194_69, x194_70, ↓reduceIte, Bool.false_eq_true, Nat.reduceAdd, Nat.reduceLT, Nat.reduceLeDiff, Nat.reduceSub, Nat.reduceEqDiff, Int.reduceToNat, Int.reduceEq, Int.reduceLT, Int.reduceLE, Int.reduceAdd, Int.reduceSub, zg, zI, zJ, zR, zst, zkl, zn, zcat, zok, zraw, List.length_cons, List.length_nil, Option.toList, List.nil_append, List.cons_append, true_and, and_true, if_true, if_false, ne_eq, not_true, not_false_eq_true, and_self, true_or, or_true, false_or, or_false, false_and, and_false, b2, i3] at this ⊢
            exact this
        | false =>
          simp only [ho, false_and, if_false, Bool.false_and] at hrv
          rw [x194_9]
          simp (disch := omega) only [x194_0, x194_1, x194_2, x194_3, x194_6, x194_7, x194_8, x194_10, x194_11, x194_14, x194_15, x194_16, x194_19, x194_20, x194_23, x194_24, x194_25, x194_28, x194_29, x194_32, x194_33, x194_34, x194_35, x194_38, x194_39, x194_40, x194_43, x194_44, x194_45, x194_46, x194_49, x194_50, x194_51, x194_54, x194_57, x194_58, x194_61, x194_62, x194_63, x194_66, x194_69, x194_70, ↓reduceIte, Bool.false_eq_true, Nat.reduceAdd, Nat.reduceLT, Nat.reduceLeDiff, Nat.reduceSub, Nat.reduceEqDiff, Int.reduceToNat, Int.reduceEq, Int.reduceLT, Int.reduceLE, Int.reduceAdd, Int.reduceSub, zg, zI, zJ, zR, zst, zkl, zn, zcat, zok, zraw, List.length_cons, List.length_nil, Option.toList, List.nil_append, List.cons_append, true_and, and_true, if_true, if_false, ne_eq, not_true, not_false_eq_true, and_self, true_or, or_true, false_or, or_false, false_and, and_false, b_138 hm, r_138_28 hm, x_153 hm, r_138_39 hm, x_163 hm, n_163 hm, e153, i1, e163', b2, i3, Int.toNat_natCast]
          apply hk
          exact ⟨false, rfl, hf, hj, hrv⟩
    · rintro L μ1 ⟨all, rfl, hf, hj, hrv⟩
      have i1 : (b ≤ a + (ls.length : Int)) := by omega
      have e153 : μ1 153 r = b := by rw [hf 153 (by decide)]; exact eb
      have hbz : b2 all = 0 ∨ b2 all = 1 := by cases all <;> simp [b2]
      rw [List.drop_length] at hrv
      have hq := hQ μ1 hf hj
      rw [hrv] at hq
      rw [x194_9]
      simp (disch := omega) only [x194_0, x194_1, x194_2, x194_3, x194_6, x194_7, x194_8, x194_10, x194_11, x194_14, x194_15, x194_16, x194_19, x194_20, x194_23, x194_24, x194_25, x194_28, x194_29, x194_32, x194_33, x194_34, x194_35, x194_38, x194_39, x194_40, x194_43, x194_44, x194_45, x194_46, x194_49, x194_50, x194_51, x194_54, x194_57, x194_58, x194_61, x194_62, x194_63, x194_66, x194_69, x194_70, ↓reduceIte, Bool.false_eq_true, Nat.reduceAdd, Nat.reduceLT, Nat.reduceLeDiff, Nat.reduceSub, Nat.reduceEqDiff, Int.reduceToNat, Int.reduceEq, Int.reduceLT, Int.reduceLE, Int.reduceAdd, Int.reduceSub, zg, zI, zJ, zR, zst, zkl, zn, zcat, zok, zraw, List.length_cons, List.length_nil, Option.toList, List.nil_append, List.cons_append, true_and, and_true, if_true, if_false, ne_eq, not_true, not_false_eq_true, and_self, true_or, or_true, false_or, or_false, false_and, and_false, b_138 hm, r_138_28 hm, x_153 hm, e153, i1, hbz, Int.toNat_natCast]
      exact hq
  simp (disch := omega) only [x194_0, x194_1, x194_2, x194_3, x194_6, x194_7, x194_8, x194_10, x194_11, x194_14, x194_15, x194_16, x194_19, x194_20, x194_23, x194_24, x194_25, x194_28, x194_29, x194_32, x194_33, x194_34, x194_35, x194_38, x194_39, x194_40, x194_43, x194_44, x194_45, x194_46, x194_49, x194_50, x194_51, x194_54, x194_57, x194_58, x194_61, x194_62, x194_63, x194_66, x194_69, x194_70, ↓reduceIte, Bool.false_eq_true, Nat.reduceAdd, Nat.reduceLT, Nat.reduceLeDiff, Nat.reduceSub, Nat.reduceEqDiff, Int.reduceToNat, Int.reduceEq, Int.reduceLT, Int.reduceLE, Int.reduceAdd, Int.reduceSub, zg, zI, zJ, zR, zst, zkl, zn, zcat, zok, zraw, List.length_cons, List.length_nil, Option.toList, List.nil_append, List.cons_append, true_and, and_true, if_true, if_false, ne_eq, not_true, not_false_eq_true, and_self, true_or, or_true, false_or, or_false, false_and, and_false, b_138 hm, r_138_27 hm, x_152 hm, ea, Int.toNat_natCast]
  exact key 0 _ μ (by omega) ⟨false, by simp [b2], Fr.refl, fun _ _ => rfl, by rw [List.drop_zero]⟩
theorem mSome {d k : Nat} {x : Int} {v : Nat → Int} {x2 : zV} (h : MX θ τ s μ) (hd : 3 ≤ d) (hx : x = (k : Int)) (hk3 : k < 3) (hv : ∀ j, j < 13 → μ 170 j = v j)
    (hQ : ∀ μ', Fr [138, 171] μ μ' → (∀ j, j ≠ 50 → μ' 138 j = μ 138 j) → Q (some (vi (b2 (holds τ k v)))) θ μ') : Ex d 202 0 [vr 138, vi x, x2] [] θ μ Q := by
  subst hx
  have hm := h.1
  have hw := h.2.1
  have hd0 : 0 < d := by omega
  have h18 := h.2.2.2.1
  have hs := h.2.2.2.2
  have hr := h.2.2.1.2.2.2 k hk3
  have hw8 := hw.2.2.2.2.2.2.2 k hk3
  obtain ⟨rs, hrs⟩ : ∃ rs, tR τ k = rs := ⟨_, rfl⟩
  have hh : holds τ k v = rs.any (fun ls => rulv v ls false) := by unfold holds; rw [hrs]
  rw [hh] at hQ
  simp only [hrs] at hr hw8
  have key : ∀ t L μ1, t ≤ rs.length → (L = [vr 138, vi (k : Nat), vi (t : Nat)] ∧ Fr [138, 171] μ μ1 ∧ (∀ j, j ≠ 50 → μ1 138 j = μ 138 j) ∧ rs.any (fun ls => rulv v ls false) = (rs.drop t).any (fun ls => rulv v ls false)) → Ex d 202 2 L [] θ μ1 Q := by
    refine Ex_loop (I := fun t L μ1 => L = [vr 138, vi (k : Nat), vi (t : Nat)] ∧ Fr [138, 171] μ μ1 ∧ (∀ j, j ≠ 50 → μ1 138 j = μ 138 j) ∧ rs.any (fun ls => rulv v ls false) = (rs.drop t).any (fun ls => rulv v ls false)) rs.length ?_ ?_
    · rintro t L μ1 ht ⟨rfl, hf, hj, hany⟩ hk
      have e18 : μ1 138 18 = (s : Int) := by rw [hj 18 (by decide)]; exact h18
      have e151 : μ1 151 (3 * s + k) = (rs.length : Nat) := by rw [hf 151 (by decide)]; exact hr.1
      have i1 : ¬ ((rs.length : Int) ≤ (t : Int)) := by omega
      have i3 : w32 (3 * (s : Int)) = ((3 * s : Nat) : Int) := by unfold w32; omega
      have i18 : w32 (18 * (s : Int)) = ((18 * s : Nat) : Int) := by unfold w32; omega
      have i6 : w32 (6 * (k : Int)) = ((6 * k : Nat) : Int) := by unfold w32; omega
      have hl8 := hw8.1
      obtain ⟨⟨g0, g1, g2⟩, gl⟩ := hr.2 t ht
      have hwr := hw8.2 rs[t] (List.getElem_mem ht)
      rw [x202_2]
      simp (disch := omega) only [x202_0, x202_1, x202_3, x202_4, x202_7, x202_8, x202_9, x202_12, x202_13, x202_14, x202_15, x202_16, x202_19, x202_20, x202_22, x202_23, x202_26, x202_27, x202_29, x202_30, x202_31, x202_32, x202_33, x202_34, x202_37, x202_40, x202_41, x202_42, x202_45, x202_48, x202_49, ↓reduceIte, Bool.false_eq_true, Nat.reduceAdd, Nat.reduceLT, Nat.reduceLeDiff, Nat.reduceSub, Nat.reduceEqDiff, Int.reduceToNat, Int.reduceEq, Int.reduceLT, Int.reduceLE, Int.reduceAdd, Int.reduceSub, zg, zI, zJ, zR, zst, zkl, zn, zcat, zok, zraw, List.length_cons, List.length_nil, Option.toList, List.nil_append, List.cons_append, true_and, and_true, if_true, if_false, ne_eq, not_true, not_false_eq_true, and_self, true_or, or_true, false_or, or_false, false_and, and_false, b_138 hm, r_138_26 hm, x_151 hm, e18, e151, i1, i3, i18, i6, hd0, w32_add, Int.toNat_natCast]
      rw [List.drop_eq_getElem_cons ht] at hany
      simp only [List.any_cons] at hany
      refine mRule (d := d - 1) (r := 18 * s + 6 * k + t) (ls := rs[t]) (v := v) hm (by omega) rfl (by omega) rfl rfl (by rw [hf 152 (by decide)]; exact g0) (by rw [hf 152 (by decide), hf 153 (by decide)]; exact g1) (by rw [hf 153 (by decide)]; exact g2) ?_ hwr.1 (fun j hj' => by rw [hf 170 (by decide)]; exact hv j hj') ?_
      · intro j hj'
        have := gl j hj'
        unfold lAt mAt at this ⊢
        rw [hf 152 (by decide), hf 163 (by decide), hf 162 (by decide), hf 161 (by decide), hf 164 (by decide), hf 165 (by decide), hf 166 (by decide), hf 167 (by decide), hf 168 (by decide)]
        exact this
      · intro μ2 hf2 hj2
        cases hz : rulv v rs[t] false with
        | true =>
          rw [hz] at hany
          simp only [x202_0, x202_1, x202_3, x202_4, x202_7, x202_8, x202_9, x202_12, x202_13, x202_14, x202_15, x202_16, x202_19, x202_20, x202_22, x202_23, x202_26, x202_27, x202_29, x202_30, x202_31, x202_32, x202_33, x202_34, x202_37, x202_40, x202_41, x202_42, x202_45, x202_48, x202_49, ↓reduceIte, Bool.false_eq_true, Nat.reduceAdd, Nat.reduceLT, Nat.reduceLeDiff, Nat.reduceSub, Nat.reduceEqDiff, Int.reduceToNat, Int.reduceEq, Int.reduceLT, Int.reduceLE, Int.reduceAdd, Int.reduceSub, zg, zI, zJ, zR, zst, zkl, zn, zcat, zok, zraw, List.length_cons, List.length_nil, Option.toList, List.nil_append, List.cons_append, true_and, and_true, if_true, if_false, ne_eq, not_true, not_false_eq_true, and_self, true_or, or_true, false_or, or_false, false_and, and_false, b2]
          have := hQ μ2 (hf.trans hf2) (fun j h' => by rw [hj2 j h', hj j h'])
          rw [hany] at this
          exact this
        | false =>
          rw [hz] at hany
          simp (disch := omega) only [x202_0, x202_1, x202_3, x202_4, x202_7, x202_8, x202_9, x202_12, x202_13, x202_14, x202_15, x202_16, x202_19, x202_20, x202_22, x202_23, x202_26, x202_27, x202_29, x202_30, x202_31, x202_32, x202_33, x202_34, x202_37, x202_40, x202_41, x202_42, x202_45, x202_48, x202_49, ↓reduceIte, Bool.false_eq_true, Nat.reduceAdd, Nat.reduceLT, Nat.reduceLeDiff, Nat.reduceSub, Nat.reduceEqDiff, Int.reduceToNat, Int.reduceEq, Int.reduceLT, Int.reduceLE, Int.reduceAdd, Int.reduceSub, zg, zI, zJ, zR, zst, zkl, zn, zcat, zok, zraw, List.length_cons, List.length_nil, Option.toList, List.nil_append, List.cons_append, true_and, and_true, if_true, if_false, ne_eq, not_true, not_false_eq_true, and_self, true_or, or_true, false_or, or_false, false_and, and_false, b2, w32_s]
          exact hk _ μ2 ⟨rfl, hf.trans hf2, fun j h' => by rw [hj2 j h', hj j h'], by rw [hany, Bool.false_or]⟩
    · rintro L μ1 ⟨rfl, hf, hj, hany⟩
      have e18 : μ1 138 18 = (s : Int) := by rw [hj 18 (by decide)]; exact h18
      have e151 : μ1 151 (3 * s + k) = (rs.length : Nat) := by rw [hf 151 (by decide)]; exact hr.1
      have i3 : w32 (3 * (s : Int)) = ((3 * s : Nat) : Int) := by unfold w32; omega
      have hq := hQ μ1 hf hj
      rw [hany, List.drop_length] at hq
      rw [x202_2]
      simp (disch := omega) only [x202_0, x202_1, x202_3, x202_4, x202_7, x202_8, x202_9, x202_12, x202_13, x202_14, x202_15, x202_16, x202_19, x202_20, x202_22, x202_23, x202_26, x202_27, x202_29, x202_30, x202_31, x202_32, x202_33, x202_34, x202_37, x202_40, x202_41, x202_42, x202_45, x202_48, x202_49, ↓reduceIte, Bool.false_eq_true, Nat.reduceAdd, Nat.reduceLT, Nat.reduceLeDiff, Nat.reduceSub, Nat.reduceEqDiff, Int.reduceToNat, Int.reduceEq, Int.reduceLT, Int.reduceLE, Int.reduceAdd, Int.reduceSub, zg, zI, zJ, zR, zst, zkl, zn, zcat, zok, zraw, List.length_cons, List.length_nil, Option.toList, List.nil_append, List.cons_append, true_and, and_true, if_true, if_false, ne_eq, not_true, not_false_eq_true, and_self, true_or, or_true, false_or, or_false, false_and, and_false, b_138 hm, r_138_26 hm, x_151 hm, e18, e151, i3, w32_add, Int.toNat_natCast, Int.le_refl]
      exact hq
  simp (disch := omega) only [x202_0, x202_1, x202_3, x202_4, x202_7, x202_8, x202_9, x202_12, x202_13, x202_14, x202_15, x202_16, x202_19, x202_20, x202_22, x202_23, x202_26, x202_27, x202_29, x202_30, x202_31, x202_32, x202_33, x202_34, x202_37, x202_40, x202_41, x202_42, x202_45, x202_48, x202_49, ↓reduceIte, Bool.false_eq_true, Nat.reduceAdd, Nat.reduceLT, Nat.reduceLeDiff, Nat.reduceSub, Nat.reduceEqDiff, Int.reduceToNat, Int.reduceEq, Int.reduceLT, Int.reduceLE, Int.reduceAdd, Int.reduceSub, zg, zI, zJ, zR, zst, zkl, zn, zcat, zok, zraw, List.length_cons, List.length_nil, Option.toList, List.nil_append, List.cons_append, true_and, and_true, if_true, if_false, ne_eq, not_true, not_false_eq_true, and_self, true_or, or_true, false_or, or_false, false_and, and_false]
  exact key 0 _ μ (by omega) ⟨rfl, Fr.refl, fun _ _ => rfl, rfl⟩
end MW2
