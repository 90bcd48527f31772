/-! THE REFERENCE reads: a law -/
section LW
variable {θ : zS} {Q : Option zV → zS → zM → Prop} {μ : zM} {K : Nat → Nat} {V W st : Nat → Int} {Z b : Nat} {π : zP} {p cB lB : Nat}
theorem PT_law {k q cB' : Nat} {c : zC} {μ' : zM} (h : PTm W st b π p cB lB μ) (hb1 : b ≤ 1) (hk : k < 4) (hpq : p ≤ q) (hq : q ≤ 400)
    (e1 : ∀ a, (147 ≤ a ∧ a ≤ 153) ∨ (157 ≤ a ∧ a ≤ 166) ∨ a = 146 → μ' a = μ a) (e4 : ∀ a j, 154 ≤ a → a ≤ 156 → j ≠ 4 * b + k → μ' a j = μ a j) (n154 : μ' 154 (4 * b + k) = 1) (n155 : μ' 155 (4 * b + k) = (cB : Nat)) (n156 : μ' 156 (4 * b + k) = (cB' : Nat))
    (hc : cB' = cB + c.length ∧ cB' ≤ 420 * b + q) (ec : ∀ i, i < cB → μ' 167 i = μ 167 i ∧ μ' 168 i = μ 168 i) (nc : ∀ i (h : i < c.length), μ' 167 (cB + i) = (c[i]).1 ∧ μ' 168 (cB + i) = (c[i]).2)
    (j : ∀ j, j ≠ 11 → j ≠ 12 → j ≠ 43 → j ≠ 47 → μ' 138 j = μ 138 j) (h43 : μ' 138 43 = (cB' : Nat)) (h11 : μ' 138 11 = (q : Nat)) (h12 : μ' 138 12 = 0) : PTm W st b (upL π k c) q cB' lB μ' := by
  obtain ⟨⟨hM, ⟨b1, b2⟩, b3, b4, b5⟩, ⟨g43, g36⟩, ⟨⟨r1, r2⟩, r3, r4⟩, ⟨hn20, hnm⟩, hL, h19, g11, g12, h13⟩ := h
  obtain ⟨hA, hD, hLw, hR⟩ := TM_iff.mp hM
  have cc : ∀ i, 420 * b ≤ i → i < cB → μ' 167 i = μ 167 i ∧ μ' 168 i = μ 168 i := fun i _ h2 => ec i h2
  have eL : ∀ k', tL (τP (upL π k c)) k' = if k' = k then some c else pL π k' := fun k' => rfl
  refine ⟨⟨TM_iff.mpr ⟨⟨?_, ?_, ?_, fun i hi => ?_⟩, ⟨?_, fun i hi => ?_⟩, fun i hi => ?_, fun k' hk' => ⟨?_, fun i hi => ?_⟩⟩, ⟨by omega, by omega⟩, fun i hi ht => ?_, fun k' i hk' hi => ?_, fun i i1 i2 => ?_⟩, ⟨h43, ?_⟩, ⟨⟨by omega, hc.2⟩, r3, by omega⟩, ⟨?_, fun i hi => ?_⟩, ?_, ?_, h11, h12, ?_⟩
  · rw [e1 147 (by omega)]; exact hA.1
  · rw [e1 148 (by omega)]; exact hA.2.1
  · rw [e1 149 (by omega)]; exact hA.2.2.1
  · rw [e1 150 (by omega)]; exact hA.2.2.2 i hi
  · rw [e1 157 (by omega)]; exact hD.1
  · rw [e1 158 (by omega), e1 159 (by omega), e1 160 (by omega)]; exact hD.2 i hi
  · rw [eL i]
    by_cases hik : i = k
    · subst hik
      rw [if_pos rfl]
      refine ⟨n154, ?_⟩
      rw [n155, n156]
      refine ⟨by omega, by omega, by omega, fun t ht => ?_⟩
      rw [Int.toNat_natCast]
      exact ⟨(nc t ht).1, fun _ => (nc t ht).2⟩
    · rw [if_neg hik]
      exact laM_ag (hLw i hi) (b3 i hi) (fun a a1 a2 => e4 a _ a1 a2 (by omega)) cc
  · rw [e1 151 (by omega)]; exact (hR k' hk').1
  · exact ruM_ag (l0 := 150 * b) (l1 := lB) ((hR k' hk').2 i hi) (b4 k' i hk' hi) b5 (by rw [e1 152 (by omega), e1 153 (by omega)]; exact ⟨rfl, rfl⟩) (fun a q a1 a2 _ _ => by rw [e1 a (by omega)]) cc
  · rw [eL i] at ht
    by_cases hik : i = k
    · subst hik
      rw [n155, n156]
      exact ⟨by omega, by omega⟩
    · rw [if_neg hik] at ht
      have := b3 i hi ht
      rw [e4 155 _ (by decide) (by decide) (by omega), e4 156 _ (by decide) (by decide) (by omega)]
      exact ⟨this.1, by omega⟩
  · rw [e1 152 (by omega), e1 153 (by omega)]; exact b4 k' i hk' hi
  · have := b5 i i1 i2
    rw [e1 164 (by omega), e1 166 (by omega)]
    exact ⟨this.1, by omega⟩
  · rw [j 36 (by decide) (by decide) (by decide) (by decide)]; exact g36
  · rw [j 20 (by decide) (by decide) (by decide) (by decide)]; exact hn20
  · rw [e1 146 (by omega)]; exact hnm i hi
  · have : LR (pF π) st μ' := by
      revert hL
      cases pF π with
      | none => intro hL; exact (j 15 (by decide) (by decide) (by decide) (by decide)).trans hL
      | some x => intro hL; exact ⟨(j 15 (by decide) (by decide) (by decide) (by decide)).trans hL.1, (j 16 (by decide) (by decide) (by decide) (by decide)).trans hL.2⟩
    exact this
  · rw [j 19 (by decide) (by decide) (by decide) (by decide)]; exact h19
  · rw [j 13 (by decide) (by decide) (by decide) (by decide)]; exact h13
theorem mTellLaw {d : Nat} {x2 : zV} (hm : Tm θ) (hd : 6 ≤ d) (hT : TR K V W st Z μ) (hst : ∀ i j, i < j → j ≤ Z → st i < st j) (hp : p ≤ Z) (hb1 : b ≤ 1) (hkk : 26 ≤ K p ∧ K p ≤ 29) (hw : wfP K p π) (h : PTm W st b π p cB lB μ)
    (hQ : match lawG K V p π with
      | .inl e => ∀ μ', FT b st e μ μ' → Q none θ μ'
      | .inr x => ∀ μ' cB' lB', SF b μ μ' → JF μ μ' → PTm W st b x.2 x.1 cB' lB' μ' → Q none θ μ') : Ex d 183 211 [vr 138, vi ((K p + 5 : Nat) : Int), x2] [] θ μ Q := by
  have hd0 : 0 < d := by omega
  have hd1 : 0 < d - 1 := by omega
  have hz := hT.1.1
  have G0 := GD_0 hT hp hw h
  obtain ⟨⟨hM, hB⟩, ⟨h43, h36⟩, hbd, hnm, hL, h19, h11, h12, h13⟩ := id h
  obtain ⟨k, hk⟩ : ∃ k, k = K p - 26 := ⟨_, rfl⟩
  obtain ⟨r, hr⟩ : ∃ r, r = 4 * b + (K p + 5) - 31 := ⟨_, rfl⟩
  have erk : r = 4 * b + k := by omega
  have i1 : (0 : Int) ≤ (r : Int) := by omega
  have i2 : (r : Int) < 8 := by omega
  have s4 : r / sdN 154 = b := by show r / 4 = b; omega
  have s5 : r / sdN 155 = b := by show r / 4 = b; omega
  have s6 : r / sdN 156 = b := by show r / 4 = b; omega
  have a4 : b ≤ 1000 := by omega
  have a1 : 4 * b + (K p + 5) < 2147483648 := by omega
  have a2 : 31 ≤ 4 * b + (K p + 5) := by omega
  have a3 : 4 * b + (K p + 5) ≤ 1000 := by omega
  have z1 : (1 : Int) = 0 ∨ (1 : Int) = 1 := Or.inr rfl
  have T254 : ∀ {e : Nat × Nat} {μ1 : zM} {y1 : zV}, FT b st e μ μ1 → (∀ μ', FT b st e μ μ' → Q none θ μ') → Ex d 183 254 [vr 138, y1, vi (r : Nat)] [] θ μ1 Q := by
    intro e μ1 y1 hF hq
    obtain ⟨μ2, hμ2⟩ : ∃ μ2, μ2 = us μ1 156 (zup (μ1 156) r (μ1 138 43)) := ⟨_, rfl⟩
    have F2 : FT b st e μ μ2 := by rw [hμ2]; exact hF.us1 (by decide) s6
    simp only [x183_0, x183_1, x183_4, x183_5, x183_8, x183_9, x183_10, x183_11, x183_36, x183_37, x183_40, x183_41, x183_44, x183_45, x183_48, x183_49, x183_50, x183_52, x183_55, x183_56, x183_57, x183_60, x183_61, x183_64, x183_65, x183_66, x183_68, x183_71, x183_72, x183_73, x183_76, x183_77, x183_80, x183_81, x183_82, x183_83, x183_86, x183_87, x183_88, x183_89, x183_92, x183_95, x183_96, x183_99, x183_100, x183_103, x183_104, x183_106, x183_109, x183_110, x183_111, x183_114, x183_115, x183_118, x183_121, x183_122, x183_125, x183_128, x183_129, x183_131, x183_134, x183_135, x183_137, x183_140, x183_141, x183_144, x183_145, x183_148, x183_150, x183_151, x183_154, x183_155, x183_156, x183_157, x183_159, x183_160, x183_161, x183_162, x183_164, x183_167, x183_168, x183_169, x183_170, x183_173, x183_176, x183_177, x183_179, x183_182, x183_183, x183_185, x183_188, x183_189, x183_190, x183_192, x183_193, x183_196, x183_199, x183_200, x183_202, x183_205, x183_206, x183_208, x183_211, x183_212, x183_213, x183_216, x183_217, x183_218, x183_219, x183_221, x183_222, x183_223, x183_224, x183_227, x183_228, x183_230, x183_233, x183_234, x183_237, x183_238, x183_239, x183_240, x183_241, x183_244, x183_245, x183_246, x183_249, x183_250, x183_251, x183_254, x183_255, x183_258, x183_259, x183_260, x183_263, x183_264, x183_265, x183_266, x183_269, x183_272, x183_273, x183_274, x183_277, ↓reduceIte, Bool.false_eq_true, Nat.reduceAdd, Nat.reduceLT, Nat.reduceLeDiff, Nat.reduceSub, Nat.reduceEqDiff, Int.reduceToNat, Int.reduceEq, Int.reduceLT, Int.reduceLE, Int.reduceAdd, Int.reduceSub, zg, zI, zJ, zR, zst, zkl, zn, zcat, zok, zraw, List.length_cons, List.length_nil, Option.toList, List.nil_append, List.cons_append, true_and, and_true, if_true, if_false, ne_eq, not_true, not_false_eq_true, and_self, true_or, or_true, false_or, or_false, false_and, and_false, b_138 hm, r_138_31 hm, x_156 hm i1 i2, ua_eq, Int.toNat_natCast, ← hμ2, hd0, eMustF hm hd1 F2.h0]
    exact hq _ F2
  have T233 : ∀ {e : Nat × Nat} {μ1 : zM} {y1 : zV}, FT b st e μ μ1 → (∀ μ', FT b st e μ μ' → Q none θ μ') → Ex d 183 233 [vr 138, y1, vi (r : Nat)] [] θ μ1 Q := by
    intro e μ1 y1 hF hq
    obtain ⟨μ2, hμ2⟩ : ∃ μ2, μ2 = us μ1 154 (zup (μ1 154) r 1) := ⟨_, rfl⟩
    have F2 : FT b st e μ μ2 := by rw [hμ2]; exact hF.us1 (by decide) s4
    obtain ⟨μ3, hμ3⟩ : ∃ μ3, μ3 = us μ2 155 (zup (μ2 155) r (μ2 138 43)) := ⟨_, rfl⟩
    have F3 : FT b st e μ μ3 := by rw [hμ3]; exact F2.us1 (by decide) s5
    simp only [x183_0, x183_1, x183_4, x183_5, x183_8, x183_9, x183_10, x183_11, x183_36, x183_37, x183_40, x183_41, x183_44, x183_45, x183_48, x183_49, x183_50, x183_52, x183_55, x183_56, x183_57, x183_60, x183_61, x183_64, x183_65, x183_66, x183_68, x183_71, x183_72, x183_73, x183_76, x183_77, x183_80, x183_81, x183_82, x183_83, x183_86, x183_87, x183_88, x183_89, x183_92, x183_95, x183_96, x183_99, x183_100, x183_103, x183_104, x183_106, x183_109, x183_110, x183_111, x183_114, x183_115, x183_118, x183_121, x183_122, x183_125, x183_128, x183_129, x183_131, x183_134, x183_135, x183_137, x183_140, x183_141, x183_144, x183_145, x183_148, x183_150, x183_151, x183_154, x183_155, x183_156, x183_157, x183_159, x183_160, x183_161, x183_162, x183_164, x183_167, x183_168, x183_169, x183_170, x183_173, x183_176, x183_177, x183_179, x183_182, x183_183, x183_185, x183_188, x183_189, x183_190, x183_192, x183_193, x183_196, x183_199, x183_200, x183_202, x183_205, x183_206, x183_208, x183_211, x183_212, x183_213, x183_216, x183_217, x183_218, x183_219, x183_221, x183_222, x183_223, x183_224, x183_227, x183_228, x183_230, x183_233, x183_234, x183_237, x183_238, x183_239, x183_240, x183_241, x183_244, x183_245, x183_246, x183_249, x183_250, x183_251, x183_255, x183_258, x183_259, x183_260, x183_263, x183_264, x183_265, x183_266, x183_269, x183_272, x183_273, x183_274, x183_277, ↓reduceIte, Bool.false_eq_true, Nat.reduceAdd, Nat.reduceLT, Nat.reduceLeDiff, Nat.reduceSub, Nat.reduceEqDiff, Int.reduceToNat, Int.reduceEq, Int.reduceLT, Int.reduceLE, Int.reduceAdd, Int.reduceSub, zg, zI, zJ, zR, zst, zkl, zn, zcat, zok, zraw, List.length_cons, List.length_nil, Option.toList, List.nil_append, List.cons_append, true_and, and_true, if_true, if_false, ne_eq, not_true, not_false_eq_true, and_self, true_or, or_true, false_or, or_false, false_and, and_false, b_138 hm, r_138_29 hm, r_138_30 hm, x_154 hm i1 i2, n_154 hm, x_155 hm i1 i2, ua_eq, Int.toNat_natCast, ← hμ2, ← hμ3, hd0, z1]
    refine mExprF (d := d - 1) hm F3.h0 ?_
    simp only [x183_0, x183_1, x183_4, x183_5, x183_8, x183_9, x183_10, x183_11, x183_36, x183_37, x183_40, x183_41, x183_44, x183_45, x183_48, x183_49, x183_50, x183_52, x183_55, x183_56, x183_57, x183_60, x183_61, x183_64, x183_65, x183_66, x183_68, x183_71, x183_72, x183_73, x183_76, x183_77, x183_80, x183_81, x183_82, x183_83, x183_86, x183_87, x183_88, x183_89, x183_92, x183_95, x183_96, x183_99, x183_100, x183_103, x183_104, x183_106, x183_109, x183_110, x183_111, x183_114, x183_115, x183_118, x183_121, x183_122, x183_125, x183_128, x183_129, x183_131, x183_134, x183_135, x183_137, x183_140, x183_141, x183_144, x183_145, x183_148, x183_150, x183_151, x183_154, x183_155, x183_156, x183_157, x183_159, x183_160, x183_161, x183_162, x183_164, x183_167, x183_168, x183_169, x183_170, x183_173, x183_176, x183_177, x183_179, x183_182, x183_183, x183_185, x183_188, x183_189, x183_190, x183_192, x183_193, x183_196, x183_199, x183_200, x183_202, x183_205, x183_206, x183_208, x183_211, x183_212, x183_213, x183_216, x183_217, x183_218, x183_219, x183_221, x183_222, x183_223, x183_224, x183_227, x183_228, x183_230, x183_233, x183_234, x183_237, x183_238, x183_239, x183_240, x183_241, x183_244, x183_245, x183_246, x183_249, x183_250, x183_251, x183_255, x183_258, x183_259, x183_260, x183_263, x183_264, x183_265, x183_266, x183_269, x183_272, x183_273, x183_274, x183_277, ↓reduceIte, Bool.false_eq_true, Nat.reduceAdd, Nat.reduceLT, Nat.reduceLeDiff, Nat.reduceSub, Nat.reduceEqDiff, Int.reduceToNat, Int.reduceEq, Int.reduceLT, Int.reduceLE, Int.reduceAdd, Int.reduceSub, zg, zI, zJ, zR, zst, zkl, zn, zcat, zok, zraw, List.length_cons, List.length_nil, Option.toList, List.nil_append, List.cons_append, true_and, and_true, if_true, if_false, ne_eq, not_true, not_false_eq_true, and_self, true_or, or_true, false_or, or_false, false_and, and_false]
    refine T254 ?_ hq
    obtain ⟨f1, f2, f3, f4, f5, q, f6, f7⟩ := F3
    exact ⟨f1.fr (μ' := us μ3 138 (zup (μ3 138) 47 0)) (Fr.us (a := 138) (A := [138]) (by simp) Fr.refl) (by simp), f2.trans (fun j _ _ _ _ _ _ _ _ _ j10 => by rw [us_same, zup_ne j10]), f3, by rw [us_same, zup_ne (by decide)]; exact f4, by rw [us_same, zup_ne (by decide)]; exact f5, q, f6, by rw [us_same, zup_ne (by decide)]; exact f7⟩
  unfold lawG at hQ
  simp only [x183_0, x183_1, x183_4, x183_5, x183_8, x183_9, x183_10, x183_11, x183_36, x183_37, x183_40, x183_41, x183_44, x183_45, x183_48, x183_49, x183_50, x183_52, x183_55, x183_56, x183_57, x183_60, x183_61, x183_64, x183_65, x183_66, x183_68, x183_71, x183_72, x183_73, x183_76, x183_77, x183_80, x183_81, x183_82, x183_83, x183_86, x183_87, x183_88, x183_89, x183_92, x183_95, x183_96, x183_99, x183_100, x183_103, x183_104, x183_106, x183_109, x183_110, x183_111, x183_114, x183_115, x183_118, x183_121, x183_122, x183_125, x183_128, x183_129, x183_131, x183_134, x183_135, x183_137, x183_140, x183_141, x183_144, x183_145, x183_148, x183_150, x183_151, x183_154, x183_155, x183_156, x183_157, x183_159, x183_160, x183_161, x183_162, x183_164, x183_167, x183_168, x183_169, x183_170, x183_173, x183_176, x183_177, x183_179, x183_182, x183_183, x183_185, x183_188, x183_189, x183_190, x183_192, x183_193, x183_196, x183_199, x183_200, x183_202, x183_205, x183_206, x183_208, x183_211, x183_212, x183_213, x183_216, x183_217, x183_218, x183_219, x183_221, x183_222, x183_223, x183_224, x183_228, x183_230, x183_233, x183_234, x183_237, x183_238, x183_239, x183_240, x183_241, x183_244, x183_245, x183_246, x183_249, x183_250, x183_251, x183_254, x183_255, x183_258, x183_259, x183_260, x183_263, x183_264, x183_265, x183_266, x183_269, x183_272, x183_273, x183_274, x183_277, ↓reduceIte, Bool.false_eq_true, Nat.reduceAdd, Nat.reduceLT, Nat.reduceLeDiff, Nat.reduceSub, Nat.reduceEqDiff, Int.reduceToNat, Int.reduceEq, Int.reduceLT, Int.reduceLE, Int.reduceAdd, Int.reduceSub, zg, zI, zJ, zR, zst, zkl, zn, zcat, zok, zraw, List.length_cons, List.length_nil, Option.toList, List.nil_append, List.cons_append, true_and, and_true, if_true, if_false, ne_eq, not_true, not_false_eq_true, and_self, true_or, or_true, false_or, or_false, false_and, and_false, b_138 hm, hd0, h19, wm4 a4, w32_add a1, ws31 a2 a3, ← hr]
  refine gGo (d := d - 1) hm (by omega) G0 (by omega) ?_
  generalize (nx p () : pR Unit) = w at hQ ⊢
  cases w with
  | inl e =>
    simp only [bnd] at hQ
    intro μ1 hF
    simp only [x183_0, x183_1, x183_4, x183_5, x183_8, x183_9, x183_10, x183_11, x183_36, x183_37, x183_40, x183_41, x183_44, x183_45, x183_48, x183_49, x183_50, x183_52, x183_55, x183_56, x183_57, x183_60, x183_61, x183_64, x183_65, x183_66, x183_68, x183_71, x183_72, x183_73, x183_76, x183_77, x183_80, x183_81, x183_82, x183_83, x183_86, x183_87, x183_88, x183_89, x183_92, x183_95, x183_96, x183_99, x183_100, x183_103, x183_104, x183_106, x183_109, x183_110, x183_111, x183_114, x183_115, x183_118, x183_121, x183_122, x183_125, x183_128, x183_129, x183_131, x183_134, x183_135, x183_137, x183_140, x183_141, x183_144, x183_145, x183_148, x183_150, x183_151, x183_154, x183_155, x183_156, x183_157, x183_159, x183_160, x183_161, x183_162, x183_164, x183_167, x183_168, x183_169, x183_170, x183_173, x183_176, x183_177, x183_179, x183_182, x183_183, x183_185, x183_188, x183_189, x183_190, x183_192, x183_193, x183_196, x183_199, x183_200, x183_202, x183_205, x183_206, x183_208, x183_211, x183_212, x183_213, x183_216, x183_217, x183_218, x183_219, x183_221, x183_222, x183_223, x183_224, x183_227, x183_228, x183_230, x183_234, x183_237, x183_238, x183_239, x183_240, x183_241, x183_244, x183_245, x183_246, x183_249, x183_250, x183_251, x183_254, x183_255, x183_258, x183_259, x183_260, x183_263, x183_264, x183_265, x183_266, x183_269, x183_272, x183_273, x183_274, x183_277, ↓reduceIte, Bool.false_eq_true, Nat.reduceAdd, Nat.reduceLT, Nat.reduceLeDiff, Nat.reduceSub, Nat.reduceEqDiff, Int.reduceToNat, Int.reduceEq, Int.reduceLT, Int.reduceLE, Int.reduceAdd, Int.reduceSub, zg, zI, zJ, zR, zst, zkl, zn, zcat, zok, zraw, List.length_cons, List.length_nil, Option.toList, List.nil_append, List.cons_append, true_and, and_true, if_true, if_false, ne_eq, not_true, not_false_eq_true, and_self, true_or, or_true, false_or, or_false, false_and, and_false, b_138 hm, hd0, eMustF hm hd1 hF.h0]
    exact T233 hF hQ
  | inr y =>
    obtain ⟨y0, y1⟩ := y
    simp only [bnd] at hQ ⊢
    intro hy μ1 G1 f1 j1
    simp only [x183_0, x183_1, x183_4, x183_5, x183_8, x183_9, x183_10, x183_11, x183_36, x183_37, x183_40, x183_41, x183_44, x183_45, x183_48, x183_49, x183_50, x183_52, x183_55, x183_56, x183_57, x183_60, x183_61, x183_64, x183_65, x183_66, x183_68, x183_71, x183_72, x183_73, x183_76, x183_77, x183_80, x183_81, x183_82, x183_83, x183_86, x183_87, x183_88, x183_89, x183_92, x183_95, x183_96, x183_99, x183_100, x183_103, x183_104, x183_106, x183_109, x183_110, x183_111, x183_114, x183_115, x183_118, x183_121, x183_122, x183_125, x183_128, x183_129, x183_131, x183_134, x183_135, x183_137, x183_140, x183_141, x183_144, x183_145, x183_148, x183_150, x183_151, x183_154, x183_155, x183_156, x183_157, x183_159, x183_160, x183_161, x183_162, x183_164, x183_167, x183_168, x183_169, x183_170, x183_173, x183_176, x183_177, x183_179, x183_182, x183_183, x183_185, x183_188, x183_189, x183_190, x183_192, x183_193, x183_196, x183_199, x183_200, x183_202, x183_205, x183_206, x183_208, x183_211, x183_212, x183_213, x183_216, x183_217, x183_218, x183_219, x183_221, x183_222, x183_223, x183_224, x183_227, x183_228, x183_230, x183_234, x183_237, x183_238, x183_239, x183_240, x183_241, x183_244, x183_245, x183_246, x183_249, x183_250, x183_251, x183_254, x183_255, x183_258, x183_259, x183_260, x183_263, x183_264, x183_265, x183_266, x183_269, x183_272, x183_273, x183_274, x183_277, ↓reduceIte, Bool.false_eq_true, Nat.reduceAdd, Nat.reduceLT, Nat.reduceLeDiff, Nat.reduceSub, Nat.reduceEqDiff, Int.reduceToNat, Int.reduceEq, Int.reduceLT, Int.reduceLE, Int.reduceAdd, Int.reduceSub, zg, zI, zJ, zR, zst, zkl, zn, zcat, zok, zraw, List.length_cons, List.length_nil, Option.toList, List.nil_append, List.cons_append, true_and, and_true, if_true, if_false, ne_eq, not_true, not_false_eq_true, and_self, true_or, or_true, false_or, or_false, false_and, and_false, b_138 hm, hd0]
    refine gMu (d := d - 1) (k := 5) hm (by omega) G1 (by decide) (by decide) rfl ?_
    generalize (expG K 5 y0 () : pR Unit) = w at hQ ⊢
    cases w with
    | inl e =>
      simp only [bnd] at hQ
      intro μ2 hF
      simp only [x183_0, x183_1, x183_4, x183_5, x183_8, x183_9, x183_10, x183_11, x183_36, x183_37, x183_40, x183_41, x183_44, x183_45, x183_48, x183_49, x183_50, x183_52, x183_55, x183_56, x183_57, x183_60, x183_61, x183_64, x183_65, x183_66, x183_68, x183_71, x183_72, x183_73, x183_76, x183_77, x183_80, x183_81, x183_82, x183_83, x183_86, x183_87, x183_88, x183_89, x183_92, x183_95, x183_96, x183_99, x183_100, x183_103, x183_104, x183_106, x183_109, x183_110, x183_111, x183_114, x183_115, x183_118, x183_121, x183_122, x183_125, x183_128, x183_129, x183_131, x183_134, x183_135, x183_137, x183_140, x183_141, x183_144, x183_145, x183_148, x183_150, x183_151, x183_154, x183_155, x183_156, x183_157, x183_159, x183_160, x183_161, x183_162, x183_164, x183_167, x183_168, x183_169, x183_170, x183_173, x183_176, x183_177, x183_179, x183_182, x183_183, x183_185, x183_188, x183_189, x183_190, x183_192, x183_193, x183_196, x183_199, x183_200, x183_202, x183_205, x183_206, x183_208, x183_211, x183_212, x183_213, x183_216, x183_217, x183_218, x183_219, x183_221, x183_222, x183_223, x183_224, x183_227, x183_228, x183_230, x183_234, x183_237, x183_238, x183_239, x183_240, x183_241, x183_244, x183_245, x183_246, x183_249, x183_250, x183_251, x183_254, x183_255, x183_258, x183_259, x183_260, x183_263, x183_264, x183_265, x183_266, x183_269, x183_272, x183_273, x183_274, x183_277, ↓reduceIte, Bool.false_eq_true, Nat.reduceAdd, Nat.reduceLT, Nat.reduceLeDiff, Nat.reduceSub, Nat.reduceEqDiff, Int.reduceToNat, Int.reduceEq, Int.reduceLT, Int.reduceLE, Int.reduceAdd, Int.reduceSub, zg, zI, zJ, zR, zst, zkl, zn, zcat, zok, zraw, List.length_cons, List.length_nil, Option.toList, List.nil_append, List.cons_append, true_and, and_true, if_true, if_false, ne_eq, not_true, not_false_eq_true, and_self, true_or, or_true, false_or, or_false, false_and, and_false]
      exact T233 hF hQ
    | inr y =>
      obtain ⟨z0, z1'⟩ := y
      simp only [bnd] at hQ ⊢
      intro hz2 μ2 G2 f2 j2
      obtain ⟨μ3, hμ3⟩ : ∃ μ3, μ3 = us μ2 154 (zup (μ2 154) r 1) := ⟨_, rfl⟩
      have f3 : Fr [154] μ2 μ3 := by rw [hμ3]; exact Fr.us (by simp) Fr.refl
      have m3 : μ3 138 = μ2 138 := f3 138 (by decide)
      have k43 : μ3 138 43 = (cB : Nat) := by rw [m3, j2 43 (by decide), j1 43 (by decide)]; exact h43
      obtain ⟨μ4, hμ4⟩ : ∃ μ4, μ4 = us μ3 155 (zup (μ3 155) r (cB : Nat)) := ⟨_, rfl⟩
      have f4 : Fr [155] μ3 μ4 := by rw [hμ4]; exact Fr.us (by simp) Fr.refl
      have m4 : μ4 138 = μ3 138 := f4 138 (by decide)
      have G4 : GD K V W st Z b z0 (pF π) μ μ4 := by rw [hμ4]; exact (show GD K V W st Z b z0 (pF π) μ μ3 by rw [hμ3]; exact G2.us1 (by decide) s4).us1 (by decide) s5
      simp only [x183_0, x183_1, x183_4, x183_5, x183_8, x183_9, x183_10, x183_11, x183_36, x183_37, x183_40, x183_41, x183_44, x183_45, x183_48, x183_49, x183_50, x183_52, x183_55, x183_56, x183_57, x183_60, x183_61, x183_64, x183_65, x183_66, x183_68, x183_71, x183_72, x183_73, x183_76, x183_77, x183_80, x183_81, x183_82, x183_83, x183_86, x183_87, x183_88, x183_89, x183_92, x183_95, x183_96, x183_99, x183_100, x183_103, x183_104, x183_106, x183_109, x183_110, x183_111, x183_114, x183_115, x183_118, x183_121, x183_122, x183_125, x183_128, x183_129, x183_131, x183_134, x183_135, x183_137, x183_140, x183_141, x183_144, x183_145, x183_148, x183_150, x183_151, x183_154, x183_155, x183_156, x183_157, x183_159, x183_160, x183_161, x183_162, x183_164, x183_167, x183_168, x183_169, x183_170, x183_173, x183_176, x183_177, x183_179, x183_182, x183_183, x183_185, x183_188, x183_189, x183_190, x183_192, x183_193, x183_196, x183_199, x183_200, x183_202, x183_205, x183_206, x183_208, x183_211, x183_212, x183_213, x183_216, x183_217, x183_218, x183_219, x183_221, x183_222, x183_223, x183_224, x183_227, x183_228, x183_230, x183_233, x183_234, x183_237, x183_238, x183_239, x183_240, x183_241, x183_244, x183_245, x183_246, x183_249, x183_250, x183_251, x183_255, x183_258, x183_259, x183_260, x183_263, x183_264, x183_265, x183_266, x183_269, x183_272, x183_273, x183_274, x183_277, ↓reduceIte, Bool.false_eq_true, Nat.reduceAdd, Nat.reduceLT, Nat.reduceLeDiff, Nat.reduceSub, Nat.reduceEqDiff, Int.reduceToNat, Int.reduceEq, Int.reduceLT, Int.reduceLE, Int.reduceAdd, Int.reduceSub, zg, zI, zJ, zR, zst, zkl, zn, zcat, zok, zraw, List.length_cons, List.length_nil, Option.toList, List.nil_append, List.cons_append, true_and, and_true, if_true, if_false, ne_eq, not_true, not_false_eq_true, and_self, true_or, or_true, false_or, or_false, false_and, and_false, b_138 hm, r_138_29 hm, r_138_30 hm, x_154 hm i1 i2, n_154 hm, x_155 hm i1 i2, ua_eq, Int.toNat_natCast, ← hμ3, k43, ← hμ4, hd0, z1]
      have l43 : μ4 138 43 = (cB : Nat) := by rw [m4]; exact k43
      have l12 : μ4 138 12 = 0 := by rw [m4, m3, j2 12 (by decide), j1 12 (by decide)]; exact h12
      have hzZ := G4.2.2.2.2.2.2.1
      refine mExpr (d := d - 1) (b := b) (a := cB) hm (by omega) G4.2.2.1 hzZ hb1 (by rw [G4.h19]; exact h19) (by omega) G4.2.2.2.1 l12 G4.h13 l43 ?_
      have hO := okG_E hT.1 hT.2.1 hzZ
      generalize rdE K V z0 = w at hQ hO ⊢
      cases w with
      | inl e =>
        simp only [bnd] at hQ
        intro μ5 hF
        simp only [x183_0, x183_1, x183_4, x183_5, x183_8, x183_9, x183_10, x183_11, x183_36, x183_37, x183_40, x183_41, x183_44, x183_45, x183_48, x183_49, x183_50, x183_52, x183_55, x183_56, x183_57, x183_60, x183_61, x183_64, x183_65, x183_66, x183_68, x183_71, x183_72, x183_73, x183_76, x183_77, x183_80, x183_81, x183_82, x183_83, x183_86, x183_87, x183_88, x183_89, x183_92, x183_95, x183_96, x183_99, x183_100, x183_103, x183_104, x183_106, x183_109, x183_110, x183_111, x183_114, x183_115, x183_118, x183_121, x183_122, x183_125, x183_128, x183_129, x183_131, x183_134, x183_135, x183_137, x183_140, x183_141, x183_144, x183_145, x183_148, x183_150, x183_151, x183_154, x183_155, x183_156, x183_157, x183_159, x183_160, x183_161, x183_162, x183_164, x183_167, x183_168, x183_169, x183_170, x183_173, x183_176, x183_177, x183_179, x183_182, x183_183, x183_185, x183_188, x183_189, x183_190, x183_192, x183_193, x183_196, x183_199, x183_200, x183_202, x183_205, x183_206, x183_208, x183_211, x183_212, x183_213, x183_216, x183_217, x183_218, x183_219, x183_221, x183_222, x183_223, x183_224, x183_227, x183_228, x183_230, x183_233, x183_234, x183_237, x183_238, x183_239, x183_240, x183_241, x183_244, x183_245, x183_246, x183_249, x183_250, x183_251, x183_255, x183_258, x183_259, x183_260, x183_263, x183_264, x183_265, x183_266, x183_269, x183_272, x183_273, x183_274, x183_277, ↓reduceIte, Bool.false_eq_true, Nat.reduceAdd, Nat.reduceLT, Nat.reduceLeDiff, Nat.reduceSub, Nat.reduceEqDiff, Int.reduceToNat, Int.reduceEq, Int.reduceLT, Int.reduceLE, Int.reduceAdd, Int.reduceSub, zg, zI, zJ, zR, zst, zkl, zn, zcat, zok, zraw, List.length_cons, List.length_nil, Option.toList, List.nil_append, List.cons_append, true_and, and_true, if_true, if_false, ne_eq, not_true, not_false_eq_true, and_self, true_or, or_true, false_or, or_false, false_and, and_false]
        exact T254 (FT_FQ G4.1 G4.jf (by rw [G4.h19]; exact h19) hF) hQ
      | inr c =>
        obtain ⟨c0, c1⟩ := c
        obtain ⟨o1, o2, o3, o4⟩ := hO
        simp only [bnd] at hQ o1 o2 o3 ⊢
        intro μ5 hE t11 t12
        obtain ⟨E1, E2, E3, E4, E5, E6, E7⟩ := hE
        obtain ⟨μ6, hμ6⟩ : ∃ μ6, μ6 = us μ5 156 (zup (μ5 156) r ((cB + c1.length : Nat) : Int)) := ⟨_, rfl⟩
        have f6 : Fr [156] μ5 μ6 := by rw [hμ6]; exact Fr.us (by simp) Fr.refl
        have m6 : μ6 138 = μ5 138 := f6 138 (by decide)
        have e5 : ∀ j, j ≠ 11 → j ≠ 12 → j ≠ 43 → j ≠ 47 → μ5 138 j = μ 138 j := fun j g1 g2 g3 g4 => by rw [E5 j g1 g2 g3 g4, m4, m3, j2 j g1, j1 j g1]
        have S5 : SF b μ μ5 := G4.1.code E1 (fun i hi => E6 i (Or.inr (by rw [G4.h19, h19]; omega)))
        have G6 : GD K V W st Z b c0 (pF π) μ μ6 := by
          rw [hμ6]
          refine GD.us1 (μ := μ5) ⟨S5, fun j g1 g2 g3 g4 g5 => ?_, TR_fr G4.2.2.1 E1 (by decide) (by decide) (by decide) (by decide), t11, ?_, fun y hy => ⟨(hw.2.2.2.2 y hy).1, by have := (hw.2.2.2.2 y hy).2; omega⟩, o2, h13⟩ (by decide) s6
          · by_cases q : j = 12
            · rw [q, t12, h12]
            · exact e5 j g1 q g4 g5
          · revert hL
            cases pF π with
            | none => intro hL; exact (e5 15 (by decide) (by decide) (by decide) (by decide)).trans hL
            | some x => intro hL; exact ⟨(e5 15 (by decide) (by decide) (by decide) (by decide)).trans hL.1, (e5 16 (by decide) (by decide) (by decide) (by decide)).trans hL.2⟩
        simp only [x183_0, x183_1, x183_4, x183_5, x183_8, x183_9, x183_10, x183_11, x183_36, x183_37, x183_40, x183_41, x183_44, x183_45, x183_48, x183_49, x183_50, x183_52, x183_55, x183_56, x183_57, x183_60, x183_61, x183_64, x183_65, x183_66, x183_68, x183_71, x183_72, x183_73, x183_76, x183_77, x183_80, x183_81, x183_82, x183_83, x183_86, x183_87, x183_88, x183_89, x183_92, x183_95, x183_96, x183_99, x183_100, x183_103, x183_104, x183_106, x183_109, x183_110, x183_111, x183_114, x183_115, x183_118, x183_121, x183_122, x183_125, x183_128, x183_129, x183_131, x183_134, x183_135, x183_137, x183_140, x183_141, x183_144, x183_145, x183_148, x183_150, x183_151, x183_154, x183_155, x183_156, x183_157, x183_159, x183_160, x183_161, x183_162, x183_164, x183_167, x183_168, x183_169, x183_170, x183_173, x183_176, x183_177, x183_179, x183_182, x183_183, x183_185, x183_188, x183_189, x183_190, x183_192, x183_193, x183_196, x183_199, x183_200, x183_202, x183_205, x183_206, x183_208, x183_211, x183_212, x183_213, x183_216, x183_217, x183_218, x183_219, x183_221, x183_222, x183_223, x183_224, x183_227, x183_228, x183_230, x183_233, x183_234, x183_237, x183_238, x183_239, x183_240, x183_241, x183_244, x183_245, x183_246, x183_249, x183_250, x183_251, x183_254, x183_255, x183_258, x183_259, x183_260, x183_263, x183_264, x183_265, x183_266, x183_269, x183_272, x183_273, x183_274, x183_277, ↓reduceIte, Bool.false_eq_true, Nat.reduceAdd, Nat.reduceLT, Nat.reduceLeDiff, Nat.reduceSub, Nat.reduceEqDiff, Int.reduceToNat, Int.reduceEq, Int.reduceLT, Int.reduceLE, Int.reduceAdd, Int.reduceSub, zg, zI, zJ, zR, zst, zkl, zn, zcat, zok, zraw, List.length_cons, List.length_nil, Option.toList, List.nil_append, List.cons_append, true_and, and_true, if_true, if_false, ne_eq, not_true, not_false_eq_true, and_self, true_or, or_true, false_or, or_false, false_and, and_false, b_138 hm, r_138_31 hm, x_156 hm i1 i2, ua_eq, E4, Int.toNat_natCast, ← hμ6, hd0]
        refine gMu (d := d - 1) (k := 4) hm (by omega) G6 (by decide) (by decide) rfl ?_
        rw [expG_u] at hQ
        generalize (expG K 4 c0 () : pR Unit) = w at hQ ⊢
        cases w with
        | inl e =>
          simp only at hQ
          intro μ8 hF
          simp only [x183_0, x183_1, x183_4, x183_5, x183_8, x183_9, x183_10, x183_11, x183_36, x183_37, x183_40, x183_41, x183_44, x183_45, x183_48, x183_49, x183_50, x183_52, x183_55, x183_56, x183_57, x183_60, x183_61, x183_64, x183_65, x183_66, x183_68, x183_71, x183_72, x183_73, x183_76, x183_77, x183_80, x183_81, x183_82, x183_83, x183_86, x183_87, x183_88, x183_89, x183_92, x183_95, x183_96, x183_99, x183_100, x183_103, x183_104, x183_106, x183_109, x183_110, x183_111, x183_114, x183_115, x183_118, x183_121, x183_122, x183_125, x183_128, x183_129, x183_131, x183_134, x183_135, x183_137, x183_140, x183_141, x183_144, x183_145, x183_148, x183_150, x183_151, x183_154, x183_155, x183_156, x183_157, x183_159, x183_160, x183_161, x183_162, x183_164, x183_167, x183_168, x183_169, x183_170, x183_173, x183_176, x183_177, x183_179, x183_182, x183_183, x183_185, x183_188, x183_189, x183_190, x183_192, x183_193, x183_196, x183_199, x183_200, x183_202, x183_205, x183_206, x183_208, x183_211, x183_212, x183_213, x183_216, x183_217, x183_218, x183_219, x183_221, x183_222, x183_223, x183_224, x183_227, x183_228, x183_230, x183_233, x183_234, x183_237, x183_238, x183_239, x183_240, x183_241, x183_244, x183_245, x183_246, x183_249, x183_250, x183_251, x183_254, x183_255, x183_258, x183_259, x183_260, x183_263, x183_264, x183_265, x183_266, x183_269, x183_272, x183_273, x183_274, x183_277, ↓reduceIte, Bool.false_eq_true, Nat.reduceAdd, Nat.reduceLT, Nat.reduceLeDiff, Nat.reduceSub, Nat.reduceEqDiff, Int.reduceToNat, Int.reduceEq, Int.reduceLT, Int.reduceLE, Int.reduceAdd, Int.reduceSub, zg, zI, zJ, zR, zst, zkl, zn, zcat, zok, zraw, List.length_cons, List.length_nil, Option.toList, List.nil_append, List.cons_append, true_and, and_true, if_true, if_false, ne_eq, not_true, not_false_eq_true, and_self, true_or, or_true, false_or, or_false, false_and, and_false]
          exact hQ μ8 hF
        | inr y =>
          obtain ⟨g0, g1⟩ := y
          simp only at hQ ⊢
          intro hg μ8 G8 f8 j8
          simp only [x183_0, x183_1, x183_4, x183_5, x183_8, x183_9, x183_10, x183_11, x183_36, x183_37, x183_40, x183_41, x183_44, x183_45, x183_48, x183_49, x183_50, x183_52, x183_55, x183_56, x183_57, x183_60, x183_61, x183_64, x183_65, x183_66, x183_68, x183_71, x183_72, x183_73, x183_76, x183_77, x183_80, x183_81, x183_82, x183_83, x183_86, x183_87, x183_88, x183_89, x183_92, x183_95, x183_96, x183_99, x183_100, x183_103, x183_104, x183_106, x183_109, x183_110, x183_111, x183_114, x183_115, x183_118, x183_121, x183_122, x183_125, x183_128, x183_129, x183_131, x183_134, x183_135, x183_137, x183_140, x183_141, x183_144, x183_145, x183_148, x183_150, x183_151, x183_154, x183_155, x183_156, x183_157, x183_159, x183_160, x183_161, x183_162, x183_164, x183_167, x183_168, x183_169, x183_170, x183_173, x183_176, x183_177, x183_179, x183_182, x183_183, x183_185, x183_188, x183_189, x183_190, x183_192, x183_193, x183_196, x183_199, x183_200, x183_202, x183_205, x183_206, x183_208, x183_211, x183_212, x183_213, x183_216, x183_217, x183_218, x183_219, x183_221, x183_222, x183_223, x183_224, x183_227, x183_228, x183_230, x183_233, x183_234, x183_237, x183_238, x183_239, x183_240, x183_241, x183_244, x183_245, x183_246, x183_249, x183_250, x183_251, x183_254, x183_255, x183_258, x183_259, x183_260, x183_263, x183_264, x183_265, x183_266, x183_269, x183_272, x183_273, x183_274, x183_277, ↓reduceIte, Bool.false_eq_true, Nat.reduceAdd, Nat.reduceLT, Nat.reduceLeDiff, Nat.reduceSub, Nat.reduceEqDiff, Int.reduceToNat, Int.reduceEq, Int.reduceLT, Int.reduceLE, Int.reduceAdd, Int.reduceSub, zg, zI, zJ, zR, zst, zkl, zn, zcat, zok, zraw, List.length_cons, List.length_nil, Option.toList, List.nil_append, List.cons_append, true_and, and_true, if_true, if_false, ne_eq, not_true, not_false_eq_true, and_self, true_or, or_true, false_or, or_false, false_and, and_false]
          have hgz := G8.2.2.2.2.2.2.1
          rw [← hk] at hQ
          have e8 : ∀ c, c ∉ [138, 154, 155, 156, 167, 168, 169] → μ8 c = μ c := fun c hc => by
            simp at hc
            rw [f8 c (by simp; omega), f6 c (by simp; omega), E1 c (by simp; omega), f4 c (by simp; omega), f3 c (by simp; omega), f2 c (by simp; omega), f1 c (by simp; omega)]
          have e154 : μ8 154 = zup (μ 154) r 1 := by rw [f8 154 (by decide), f6 154 (by decide), E1 154 (by decide), f4 154 (by decide), hμ3, us_same, f2 154 (by decide), f1 154 (by decide)]
          have e155 : μ8 155 = zup (μ 155) r (cB : Nat) := by rw [f8 155 (by decide), f6 155 (by decide), E1 155 (by decide), hμ4, us_same, f3 155 (by decide), f2 155 (by decide), f1 155 (by decide)]
          have e156 : μ8 156 = zup (μ 156) r ((cB + c1.length : Nat) : Int) := by rw [f8 156 (by decide), hμ6, us_same, E1 156 (by decide), f4 156 (by decide), f3 156 (by decide), f2 156 (by decide), f1 156 (by decide)]
          have e168 : ∀ c, 167 ≤ c → c ≤ 168 → μ8 c = μ5 c := fun c h1 h2 => by rw [f8 c (by simp; omega), f6 c (by simp; omega)]
          refine hQ μ8 (cB + c1.length) lB G8.1 G8.jf (PT_law h hb1 (k := k) (by omega) (by omega) (by omega) (fun c hc => e8 c (by simp; omega)) ?_ ?_ ?_ ?_ ⟨rfl, by omega⟩ ?_ ?_ ?_ ?_ G8.2.2.2.1 ?_)
          · intro a j h1 h2 hj
            obtain q | q | q : a = 154 ∨ a = 155 ∨ a = 156 := by omega
            · rw [q, e154, zup_ne (by omega)]
            · rw [q, e155, zup_ne (by omega)]
            · rw [q, e156, zup_ne (by omega)]
          · rw [e154, zup_same erk.symm]
          · rw [e155, zup_same erk.symm]
          · rw [e156, zup_same erk.symm]
          · intro i hi
            have := E6 i (Or.inl hi)
            rw [e168 167 (by decide) (by decide), e168 168 (by decide) (by decide), this.1, this.2, f4 167 (by decide), f3 167 (by decide), f2 167 (by decide), f1 167 (by decide), f4 168 (by decide), f3 168 (by decide), f2 168 (by decide), f1 168 (by decide)]
            exact ⟨rfl, rfl⟩
          · intro i hi
            rw [e168 167 (by decide) (by decide), e168 168 (by decide) (by decide)]
            exact E7 i hi
          · intro j h1 h2 h3 h4
            rw [j8 j h1, m6]; exact e5 j h1 h2 h3 h4
          · rw [j8 43 (by decide), m6]; exact E4
          · rw [j8 12 (by decide), m6]; exact t12
end LW
