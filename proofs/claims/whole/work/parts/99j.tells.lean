/-! CALLS: yardTells, of the reference -/
section TM3
variable {θ : zS} {σ : zSt} {Q : Option zV → zS → zM → Prop} {μ : zM} {s : Nat} {τ : zT} {ρ : zF} {g w : Int}
theorem gn_wh (τ : zT) (ρ : zF) : gnO τ (whF ρ) = fun _ => 0 := by
  funext t
  show (if t < tn τ ∧ (whF ρ).1 0 t = 0 then (1 : Int) else 0) = 0
  rw [if_neg]
  intro h
  have := h.2
  unfold whF at this
  simp at this
theorem ML_wh (h : ML τ ρ μ) : ML τ (whF ρ) μ := ⟨whF_w h.1, h.2.1, h.2.2.1, h.2.2.2⟩
/-- what lies apart, place by place -/
def apF (y f : Nat → Int) (k : Nat) : Int := if y k < f k then f k - y k else y k - f k
theorem mYtSum {D : Nat} {k b l fi n : Int} {gv wv : Int} {y f : Nat → Int} (hc : Tm θ) (hy : ∀ k, k < 480 → μ 178 k = y k ∧ 0 ≤ y k ∧ y k ≤ 36 * 600) (hf : ∀ k, k < 480 → μ 187 k = f k ∧ 0 ≤ f k ∧ f k ≤ 36) (hS : sm (apF y f) 480 ≤ 36 * 601)
    (hQ : ∀ x9, Ex D 277 153 [vr 138, vi k, vi b, vi l, vi fi, vi gv, vi wv, vi n, vi (sm (apF y f) 480), x9] [] θ μ Q) : Ex D 277 84 [vr 138, vi k, vi b, vi l, vi fi, vi gv, vi wv, vi n, vi 0, vi 0] [] θ μ Q := by
  have hm := hc
  have nn : ∀ k, k < 480 → 0 ≤ apF y f k := fun k hk => by
    unfold apF
    by_cases h : y k < f k
    · rw [if_pos h]; omega
    · rw [if_neg h]; omega
  have key : ∀ t L μ1, t ≤ 480 → (L = [vr 138, vi k, vi b, vi l, vi fi, vi gv, vi wv, vi n, vi (sm (apF y f) t), vi (t : Nat)] ∧ μ1 = μ) → Ex D 277 84 L [] θ μ1 Q := by
    refine Ex_loop (I := fun t L μ1 => L = [vr 138, vi k, vi b, vi l, vi fi, vi gv, vi wv, vi n, vi (sm (apF y f) t), vi (t : Nat)] ∧ μ1 = μ) 480 ?_ ?_
    · rintro t L μ1 ht ⟨rfl, rfl⟩ hk
      have c1 : ¬ (480 : Int) ≤ (t : Int) := by omega
      have i1 : (0 : Int) ≤ (t : Int) := by omega
      have i2 : (t : Int) < 480 := by omega
      have w1 : t < 2147483647 := by omega
      obtain ⟨ey, y1, y2⟩ := hy t ht
      obtain ⟨ef, f1, f2⟩ := hf t ht
      have s1 := sm_part nn (show t + 1 ≤ 480 by omega)
      have es : sm (apF y f) (t + 1) = sm (apF y f) t + apF y f t := rfl
      have ea : apF y f t = if y t < f t then f t - y t else y t - f t := rfl
      have hk' := hk [vr 138, vi k, vi b, vi l, vi fi, vi gv, vi wv, vi n, vi (sm (apF y f) (t + 1)), vi ((t + 1 : Nat) : Int)] μ1 ⟨rfl, rfl⟩
      rw [es] at hk' s1
      generalize sm (apF y f) t = S at hk' s1 ⊢
      generalize apF y f t = a at hk' s1 ea
      have l1 : -2147483648 ≤ S + a := by omega
      have l2 : S + a ≤ 2147483647 := by omega
      rw [x277_84]
      by_cases p : y t < f t
      · rw [if_pos p] at ea
        have p' : ¬ f t ≤ y t := by omega
        have m1 : -2147483648 ≤ a := by omega
        have m2 : a ≤ 2147483647 := by omega
        simp only [x277_0, x277_1, x277_2, x277_3, x277_6, x277_9, x277_10, x277_11, x277_12, x277_13, x277_14, x277_15, x277_17, x277_19, x277_20, x277_24, x277_26, x277_29, x277_30, x277_34, x277_35, x277_38, x277_39, x277_43, x277_44, x277_47, x277_50, x277_51, x277_54, x277_56, x277_57, x277_58, x277_61, x277_64, x277_65, x277_67, x277_69, x277_72, x277_74, x277_75, x277_78, x277_79, x277_81, x277_82, x277_86, x277_89, x277_92, x277_94, x277_95, x277_98, x277_100, x277_101, x277_102, x277_105, x277_107, x277_108, x277_111, x277_112, x277_115, x277_117, x277_118, x277_119, x277_122, x277_124, x277_125, x277_126, x277_129, x277_130, x277_133, x277_135, x277_136, x277_137, x277_140, x277_142, x277_143, x277_144, x277_145, x277_147, x277_150, x277_153, x277_154, x277_155, x277_158, x277_160, x277_161, x277_164, x277_167, x277_168, x277_170, x277_171, x277_173, x277_174, x277_175, x277_177, x277_178, x277_180, x277_183, x277_185, x277_188, x277_189, x277_190, x277_193, x277_195, x277_198, x277_201, x277_204, x277_207, x277_208, x277_211, x277_212, x277_213, x277_214, x277_217, x277_218, x277_219, x277_222, x277_223, x277_224, x277_225, x277_228, x277_229, x277_230, x277_233, x277_234, x277_237, x277_239, ↓reduceIte, Bool.false_eq_true, Nat.reduceAdd, Nat.reduceLT, Nat.reduceLeDiff, Nat.reduceSub, Nat.reduceEqDiff, Int.reduceToNat, Int.reduceEq, Int.reduceLT, Int.reduceLE, Int.reduceAdd, Int.reduceSub, zg, zI, zJ, zR, zst, zkl, zn, zcat, zok, zraw, List.length_cons, List.length_nil, Option.toList, List.nil_append, List.cons_append, true_and, and_true, if_true, if_false, ne_eq, not_true, not_false_eq_true, and_self, true_or, or_true, false_or, or_false, false_and, and_false, b_138 hm, r_138_58 hm, r_138_70 hm, x_178 hm i1 i2, x_187 hm i1 i2, c1, Int.toNat_natCast, ey, ef, p', ← ea, w32_i m1 m2, w32_i l1 l2, w32_s w1]
        exact hk'
      · rw [if_neg p] at ea
        have p' : f t ≤ y t := by omega
        have m1 : -2147483648 ≤ a := by omega
        have m2 : a ≤ 2147483647 := by omega
        simp only [x277_0, x277_1, x277_2, x277_3, x277_6, x277_9, x277_10, x277_11, x277_12, x277_13, x277_14, x277_15, x277_17, x277_19, x277_20, x277_24, x277_26, x277_29, x277_30, x277_34, x277_35, x277_38, x277_39, x277_43, x277_44, x277_47, x277_50, x277_51, x277_54, x277_56, x277_57, x277_58, x277_61, x277_64, x277_65, x277_67, x277_69, x277_72, x277_74, x277_75, x277_78, x277_79, x277_81, x277_82, x277_86, x277_89, x277_92, x277_94, x277_95, x277_98, x277_100, x277_101, x277_102, x277_105, x277_107, x277_108, x277_111, x277_112, x277_115, x277_117, x277_118, x277_119, x277_122, x277_124, x277_125, x277_126, x277_129, x277_130, x277_133, x277_135, x277_136, x277_137, x277_140, x277_142, x277_143, x277_144, x277_145, x277_147, x277_150, x277_153, x277_154, x277_155, x277_158, x277_160, x277_161, x277_164, x277_167, x277_168, x277_170, x277_171, x277_173, x277_174, x277_175, x277_177, x277_178, x277_180, x277_183, x277_185, x277_188, x277_189, x277_190, x277_193, x277_195, x277_198, x277_201, x277_204, x277_207, x277_208, x277_211, x277_212, x277_213, x277_214, x277_217, x277_218, x277_219, x277_222, x277_223, x277_224, x277_225, x277_228, x277_229, x277_230, x277_233, x277_234, x277_237, x277_239, ↓reduceIte, Bool.false_eq_true, Nat.reduceAdd, Nat.reduceLT, Nat.reduceLeDiff, Nat.reduceSub, Nat.reduceEqDiff, Int.reduceToNat, Int.reduceEq, Int.reduceLT, Int.reduceLE, Int.reduceAdd, Int.reduceSub, zg, zI, zJ, zR, zst, zkl, zn, zcat, zok, zraw, List.length_cons, List.length_nil, Option.toList, List.nil_append, List.cons_append, true_and, and_true, if_true, if_false, ne_eq, not_true, not_false_eq_true, and_self, true_or, or_true, false_or, or_false, false_and, and_false, b_138 hm, r_138_58 hm, r_138_70 hm, x_178 hm i1 i2, x_187 hm i1 i2, c1, Int.toNat_natCast, ey, ef, p', ← ea, w32_i m1 m2, w32_i l1 l2, w32_s w1]
        exact hk'
    · rintro L μ1 ⟨rfl, rfl⟩
      have := hQ (vi ((480 : Nat) : Int))
      rw [x277_84]
      simp only [x277_0, x277_1, x277_2, x277_3, x277_6, x277_9, x277_10, x277_11, x277_12, x277_13, x277_14, x277_15, x277_17, x277_19, x277_20, x277_24, x277_26, x277_29, x277_30, x277_34, x277_35, x277_38, x277_39, x277_43, x277_44, x277_47, x277_50, x277_51, x277_54, x277_56, x277_57, x277_58, x277_61, x277_64, x277_65, x277_67, x277_69, x277_72, x277_74, x277_75, x277_78, x277_79, x277_81, x277_82, x277_86, x277_89, x277_92, x277_94, x277_95, x277_98, x277_100, x277_101, x277_102, x277_105, x277_107, x277_108, x277_111, x277_112, x277_115, x277_117, x277_118, x277_119, x277_122, x277_124, x277_125, x277_126, x277_129, x277_130, x277_133, x277_135, x277_136, x277_137, x277_140, x277_142, x277_143, x277_144, x277_145, x277_147, x277_150, x277_154, x277_155, x277_158, x277_160, x277_161, x277_164, x277_167, x277_168, x277_170, x277_171, x277_173, x277_174, x277_175, x277_177, x277_178, x277_180, x277_183, x277_185, x277_188, x277_189, x277_190, x277_193, x277_195, x277_198, x277_201, x277_204, x277_207, x277_208, x277_211, x277_212, x277_213, x277_214, x277_217, x277_218, x277_219, x277_222, x277_223, x277_224, x277_225, x277_228, x277_229, x277_230, x277_233, x277_234, x277_237, x277_239, ↓reduceIte, Bool.false_eq_true, Nat.reduceAdd, Nat.reduceLT, Nat.reduceLeDiff, Nat.reduceSub, Nat.reduceEqDiff, Int.reduceToNat, Int.reduceEq, Int.reduceLT, Int.reduceLE, Int.reduceAdd, Int.reduceSub, zg, zI, zJ, zR, zst, zkl, zn, zcat, zok, zraw, List.length_cons, List.length_nil, Option.toList, List.nil_append, List.cons_append, true_and, and_true, if_true, if_false, ne_eq, not_true, not_false_eq_true, and_self, true_or, or_true, false_or, or_false, false_and, and_false, show ((480 : Nat) : Int) = 480 from rfl, Int.le_refl]
      exact this
  exact key 0 _ _ (Nat.zero_le _) ⟨rfl, rfl⟩
theorem mYtZero {D : Nat} {k b l fi gv wv : Int} {x8 x9 : zV} (h : MX θ τ s μ) (hd0 : 0 < D)
    (hQ : ∀ μ' x7, Fr [184] μ μ' → (∀ t, t < tn τ → μ' 184 t = 0) → Ex D 277 64 [vr 138, vi k, vi b, vi l, vi fi, vi gv, vi wv, x7, x8, x9] [] θ μ' Q) : Ex D 277 41 [vr 138, vi k, vi b, vi l, vi fi, vi gv, vi wv, vi 0, x8, x9] [] θ μ Q := by
  have hm := h.1
  have hn := tn_b h.2.1
  have key : ∀ t L μ1, t ≤ tn τ → (L = [vr 138, vi k, vi b, vi l, vi fi, vi gv, vi wv, vi (t : Nat), x8, x9] ∧ Fr [184] μ μ1 ∧ ∀ q, q < t → μ1 184 q = 0) → Ex D 277 41 L [] θ μ1 Q := by
    refine Ex_loop (I := fun t L μ1 => L = [vr 138, vi k, vi b, vi l, vi fi, vi gv, vi wv, vi (t : Nat), x8, x9] ∧ Fr [184] μ μ1 ∧ ∀ q, q < t → μ1 184 q = 0) (tn τ) ?_ ?_
    · rintro t L μ1 ht ⟨rfl, f, hk0⟩ hk
      have X1 : MX θ τ s μ1 := MX_fr h f (by decide) (by rw [f 138 (by decide)])
      have c1 : ¬ ((tn τ : Int) ≤ (t : Int)) := by omega
      have i1 : (0 : Int) ≤ (t : Int) := by omega
      have i2 : (t : Int) < 36 := by omega
      have w1 : t < 2147483647 := by omega
      have z1 : (0 : Int) = 0 ∨ (0 : Int) = 1 := Or.inl rfl
      rw [x277_41]
      simp only [x277_0, x277_1, x277_2, x277_3, x277_6, x277_9, x277_10, x277_11, x277_12, x277_13, x277_14, x277_15, x277_17, x277_19, x277_20, x277_24, x277_26, x277_29, x277_30, x277_34, x277_35, x277_38, x277_39, x277_43, x277_44, x277_47, x277_50, x277_51, x277_54, x277_56, x277_57, x277_58, x277_61, x277_64, x277_65, x277_67, x277_69, x277_72, x277_74, x277_75, x277_78, x277_79, x277_81, x277_82, x277_86, x277_89, x277_92, x277_94, x277_95, x277_98, x277_100, x277_101, x277_102, x277_105, x277_107, x277_108, x277_111, x277_112, x277_115, x277_117, x277_118, x277_119, x277_122, x277_124, x277_125, x277_126, x277_129, x277_130, x277_133, x277_135, x277_136, x277_137, x277_140, x277_142, x277_143, x277_144, x277_145, x277_147, x277_150, x277_153, x277_154, x277_155, x277_158, x277_160, x277_161, x277_164, x277_167, x277_168, x277_170, x277_171, x277_173, x277_174, x277_175, x277_177, x277_178, x277_180, x277_183, x277_185, x277_188, x277_189, x277_190, x277_193, x277_195, x277_198, x277_201, x277_204, x277_207, x277_208, x277_211, x277_212, x277_213, x277_214, x277_217, x277_218, x277_219, x277_222, x277_223, x277_224, x277_225, x277_228, x277_229, x277_230, x277_233, x277_234, x277_237, x277_239, ↓reduceIte, Bool.false_eq_true, Nat.reduceAdd, Nat.reduceLT, Nat.reduceLeDiff, Nat.reduceSub, Nat.reduceEqDiff, Int.reduceToNat, Int.reduceEq, Int.reduceLT, Int.reduceLE, Int.reduceAdd, Int.reduceSub, zg, zI, zJ, zR, zst, zkl, zn, zcat, zok, zraw, List.length_cons, List.length_nil, Option.toList, List.nil_append, List.cons_append, true_and, and_true, if_true, if_false, ne_eq, not_true, not_false_eq_true, and_self, true_or, or_true, false_or, or_false, false_and, and_false, b_138 hm, hd0, mTiles _ X1, c1, r_138_66 hm, x_184 hm i1 i2, n_184 hm, z1, Int.toNat_natCast, ua_eq, w32_s w1]
      refine hk _ _ ⟨rfl, f.trans (Fr.us (by simp) Fr.refl), fun q hq => ?_⟩
      rw [us_same]
      by_cases e : q = t
      · rw [zup_same e]
      · rw [zup_ne e]; exact hk0 q (by omega)
    · rintro L μ1 ⟨rfl, f, hk0⟩
      have X1 : MX θ τ s μ1 := MX_fr h f (by decide) (by rw [f 138 (by decide)])
      have := hQ μ1 (vi (tn τ : Nat)) f hk0
      rw [x277_41]
      simp only [x277_0, x277_1, x277_2, x277_3, x277_6, x277_9, x277_10, x277_11, x277_12, x277_13, x277_14, x277_15, x277_17, x277_19, x277_20, x277_24, x277_26, x277_29, x277_30, x277_34, x277_35, x277_38, x277_39, x277_43, x277_44, x277_47, x277_50, x277_51, x277_54, x277_56, x277_57, x277_58, x277_61, x277_65, x277_67, x277_69, x277_72, x277_74, x277_75, x277_78, x277_79, x277_81, x277_82, x277_86, x277_89, x277_92, x277_94, x277_95, x277_98, x277_100, x277_101, x277_102, x277_105, x277_107, x277_108, x277_111, x277_112, x277_115, x277_117, x277_118, x277_119, x277_122, x277_124, x277_125, x277_126, x277_129, x277_130, x277_133, x277_135, x277_136, x277_137, x277_140, x277_142, x277_143, x277_144, x277_145, x277_147, x277_150, x277_153, x277_154, x277_155, x277_158, x277_160, x277_161, x277_164, x277_167, x277_168, x277_170, x277_171, x277_173, x277_174, x277_175, x277_177, x277_178, x277_180, x277_183, x277_185, x277_188, x277_189, x277_190, x277_193, x277_195, x277_198, x277_201, x277_204, x277_207, x277_208, x277_211, x277_212, x277_213, x277_214, x277_217, x277_218, x277_219, x277_222, x277_223, x277_224, x277_225, x277_228, x277_229, x277_230, x277_233, x277_234, x277_237, x277_239, ↓reduceIte, Bool.false_eq_true, Nat.reduceAdd, Nat.reduceLT, Nat.reduceLeDiff, Nat.reduceSub, Nat.reduceEqDiff, Int.reduceToNat, Int.reduceEq, Int.reduceLT, Int.reduceLE, Int.reduceAdd, Int.reduceSub, zg, zI, zJ, zR, zst, zkl, zn, zcat, zok, zraw, List.length_cons, List.length_nil, Option.toList, List.nil_append, List.cons_append, true_and, and_true, if_true, if_false, ne_eq, not_true, not_false_eq_true, and_self, true_or, or_true, false_or, or_false, false_and, and_false, b_138 hm, hd0, mTiles _ X1, Int.le_refl]
      exact this
  exact key 0 _ _ (Nat.zero_le _) ⟨rfl, Fr.refl, fun q hq => absurd hq (Nat.not_lt_zero _)⟩
end TM3
