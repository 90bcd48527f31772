/-! THE REFERENCE reads: tellRule -/
section RV
variable {θ : zS} {Q : Option zV → zS → zM → Prop} {μ : zM} {K : Nat → Nat} {V W st : Nat → Int} {Z b : Nat} {π : zP} {p cB lB : Nat}
theorem mTellRule {d k : Nat} {x2 x3 x4 : zV} (hm : Tm θ) (hd : 6 ≤ d) (hT : TR K V W st Z μ) (hp : p ≤ Z) (hb1 : b ≤ 1) (hk : k < 3) (hkk : K p = 23 + k) (hw : wfP K p π) (h : PTm W st b π p cB lB μ)
    (hQ : match ruleG K V p π with
      | .inl e => ∀ μ', FT b st e μ μ' → Q none θ μ'
      | .inr x => ∀ μ' cB' lB', SF b μ μ' → JF μ μ' → PTm W st b x.2 x.1 cB' lB' μ' → Q none θ μ') : Ex d 186 0 [vr 138, vi (k : Nat), x2, x3, x4] [] θ μ Q := by
  have hd0 : 0 < d := by omega
  have hz := hT.1.1
  have hn := (hw.2.2.2.1 k).1
  obtain ⟨n, hN⟩ : ∃ n, (pU π k).length = n := ⟨_, rfl⟩
  obtain ⟨⟨hM, hB⟩, ⟨h43, h36⟩, hbd, hnm, hL, h19, h11, h12, h13⟩ := id h
  have e151 : μ 151 (3 * b + k) = (n : Nat) := by rw [← hN]; exact ((TM_iff.mp hM).2.2.2 k hk).1
  have a1 : 3 * b + k < 2147483648 := by omega
  have a2 : 18 * b + 6 * k < 2147483648 := by omega
  have a3 : 18 * b + 6 * k + n < 2147483648 := by omega
  have a4 : b ≤ 1000 := by omega
  have a5 : k ≤ 1000 := by omega
  have a6 : n < 2147483647 := by omega
  have i1 : (0 : Int) ≤ ((3 * b + k : Nat) : Int) := by omega
  have i2 : ((3 * b + k : Nat) : Int) < 6 := by omega
  have z0 : (0 : Int) ≤ 0 := by omega
  unfold ruleG at hQ
  rw [show K p - 23 = k by omega] at hQ
  by_cases h6 : 6 ≤ (pU π k).length
  · rw [if_pos h6] at hQ
    have c6 : ((n : Nat) : Int) = 6 := by omega
    simp only [x186_0, x186_1, x186_4, x186_5, x186_6, x186_9, x186_10, x186_11, x186_12, x186_13, x186_15, x186_18, x186_19, x186_20, x186_24, x186_27, x186_30, x186_31, x186_33, x186_34, x186_37, x186_38, x186_40, x186_41, x186_42, x186_43, x186_44, x186_47, x186_48, x186_49, x186_52, x186_53, x186_54, x186_55, x186_56, x186_57, x186_58, x186_59, x186_62, x186_63, x186_66, x186_67, x186_68, x186_71, x186_72, x186_73, x186_75, x186_78, x186_79, x186_80, x186_81, x186_84, x186_87, x186_88, x186_91, x186_92, x186_96, x186_99, x186_100, x186_103, x186_106, x186_107, x186_108, x186_111, x186_112, x186_114, x186_117, x186_118, x186_119, x186_122, x186_123, x186_125, x186_128, x186_131, x186_132, x186_135, x186_136, x186_138, x186_140, x186_143, x186_144, x186_147, x186_150, x186_151, x186_154, x186_155, x186_156, x186_159, x186_160, x186_161, x186_162, x186_165, x186_166, x186_169, x186_172, x186_173, x186_176, x186_177, x186_178, x186_181, x186_182, x186_183, x186_184, x186_185, x186_186, x186_187, x186_188, x186_189, ↓reduceIte, Bool.false_eq_true, Nat.reduceAdd, Nat.reduceLT, Nat.reduceLeDiff, Nat.reduceSub, Nat.reduceEqDiff, Int.reduceToNat, Int.reduceEq, Int.reduceLT, Int.reduceLE, Int.reduceAdd, Int.reduceSub, zg, zI, zJ, zR, zst, zkl, zn, zcat, zok, zraw, List.length_cons, List.length_nil, Option.toList, List.nil_append, List.cons_append, true_and, and_true, if_true, if_false, ne_eq, not_true, not_false_eq_true, and_self, true_or, or_true, false_or, or_false, false_and, and_false, b_138 hm, r_138_26 hm, x_151 hm i1 i2, h19, wm3 a4, w32_add a1, Int.toNat_natCast, e151, c6, hd0]
    refine mFail (d := d - 1) hm hT hp h11 h13 (fun μ1 f j g1 g2 => ?_)
    have n13 : ¬ μ1 138 13 ≤ 0 := by omega
    simp only [x186_0, x186_1, x186_4, x186_5, x186_6, x186_9, x186_10, x186_11, x186_12, x186_13, x186_15, x186_18, x186_19, x186_20, x186_23, x186_24, x186_27, x186_30, x186_31, x186_33, x186_34, x186_37, x186_38, x186_40, x186_41, x186_42, x186_43, x186_44, x186_47, x186_48, x186_49, x186_52, x186_53, x186_54, x186_55, x186_56, x186_57, x186_58, x186_59, x186_62, x186_63, x186_66, x186_67, x186_68, x186_71, x186_72, x186_73, x186_75, x186_78, x186_79, x186_80, x186_81, x186_84, x186_87, x186_88, x186_91, x186_92, x186_96, x186_99, x186_100, x186_103, x186_106, x186_107, x186_108, x186_111, x186_112, x186_114, x186_117, x186_118, x186_119, x186_122, x186_123, x186_125, x186_128, x186_131, x186_132, x186_135, x186_136, x186_138, x186_140, x186_143, x186_144, x186_147, x186_150, x186_151, x186_154, x186_155, x186_156, x186_159, x186_160, x186_161, x186_162, x186_165, x186_166, x186_169, x186_172, x186_173, x186_176, x186_177, x186_178, x186_181, x186_182, x186_183, x186_184, x186_185, x186_186, x186_187, x186_188, x186_189, ↓reduceIte, Bool.false_eq_true, Nat.reduceAdd, Nat.reduceLT, Nat.reduceLeDiff, Nat.reduceSub, Nat.reduceEqDiff, Int.reduceToNat, Int.reduceEq, Int.reduceLT, Int.reduceLE, Int.reduceAdd, Int.reduceSub, zg, zI, zJ, zR, zst, zkl, zn, zcat, zok, zraw, List.length_cons, List.length_nil, Option.toList, List.nil_append, List.cons_append, true_and, and_true, if_true, if_false, ne_eq, not_true, not_false_eq_true, and_self, true_or, or_true, false_or, or_false, false_and, and_false, b_138 hm, n13]
    exact hQ μ1 (FT_of (q := p) SF.refl JF.refl (by omega) h11 (e := (2, p)) (by simp) f j g1 g2)
  · rw [if_neg h6] at hQ
    have c6 : ¬ ((n : Nat) : Int) = 6 := by omega
    have hr : 18 * b + 6 * k + n < 36 := by omega
    obtain ⟨r, er⟩ : ∃ r, r = 18 * b + 6 * k + n := ⟨_, rfl⟩
    have i3 : (0 : Int) ≤ ((r : Nat) : Int) := by omega
    have i4 : ((r : Nat) : Int) < 36 := by omega
    have hrb : r / 18 = b := by omega
    have T150 : ∀ {e : Nat × Nat} {μ1 : zM} {y3 y4 : zV}, FT b st e μ μ1 → (∀ μ', FT b st e μ μ' → Q none θ μ') → Ex d 186 150 [vr 138, vi (k : Nat), vi (r : Nat), y3, y4] [] θ μ1 Q := by
      intro e μ1 y3 y4 hF hq
      have hF2 := hF.us1 (a := 153) (k := r) (x := μ1 138 36) (by decide) hrb
      have n0 : 0 < us μ1 153 (zup (μ1 153) r (μ1 138 36)) 138 13 := by rw [hF2.2.2.2.1]; have := hF2.2.2.1; omega
      have n13 : ¬ us μ1 153 (zup (μ1 153) r (μ1 138 36)) 138 13 = 0 := by omega
      simp only [x186_0, x186_1, x186_4, x186_5, x186_6, x186_9, x186_10, x186_11, x186_12, x186_13, x186_15, x186_18, x186_19, x186_20, x186_23, x186_24, x186_27, x186_30, x186_31, x186_33, x186_34, x186_37, x186_38, x186_40, x186_41, x186_42, x186_43, x186_44, x186_47, x186_48, x186_49, x186_52, x186_53, x186_54, x186_55, x186_56, x186_57, x186_58, x186_59, x186_62, x186_63, x186_66, x186_67, x186_68, x186_71, x186_72, x186_73, x186_75, x186_78, x186_79, x186_80, x186_81, x186_84, x186_87, x186_88, x186_91, x186_92, x186_96, x186_99, x186_100, x186_103, x186_106, x186_107, x186_108, x186_111, x186_112, x186_114, x186_117, x186_118, x186_119, x186_122, x186_123, x186_125, x186_128, x186_131, x186_132, x186_135, x186_136, x186_138, x186_140, x186_143, x186_144, x186_147, x186_150, x186_151, x186_154, x186_155, x186_156, x186_159, x186_160, x186_161, x186_162, x186_165, x186_166, x186_169, x186_172, x186_173, x186_176, x186_177, x186_178, x186_181, x186_182, x186_183, x186_184, x186_185, x186_186, x186_187, x186_188, x186_189, ↓reduceIte, Bool.false_eq_true, Nat.reduceAdd, Nat.reduceLT, Nat.reduceLeDiff, Nat.reduceSub, Nat.reduceEqDiff, Int.reduceToNat, Int.reduceEq, Int.reduceLT, Int.reduceLE, Int.reduceAdd, Int.reduceSub, zg, zI, zJ, zR, zst, zkl, zn, zcat, zok, zraw, List.length_cons, List.length_nil, Option.toList, List.nil_append, List.cons_append, true_and, and_true, if_true, if_false, ne_eq, not_true, not_false_eq_true, and_self, true_or, or_true, false_or, or_false, false_and, and_false, b_138 hm, r_138_28 hm, x_153 hm i3 i4, ua_eq, Int.toNat_natCast, hd0, eMustF hm (show 0 < d - 1 by omega) n0, n13]
      exact hq _ hF2
    have T78 : ∀ {e : Nat × Nat} {μ1 : zM} {y3 y4 : zV}, FT b st e μ μ1 → (∀ μ', FT b st e μ μ' → Q none θ μ') → Ex d 186 78 [vr 138, vi (k : Nat), vi (r : Nat), y3, y4] [] θ μ1 Q := by
      intro e μ1 y3 y4 hF hq
      have n0 : ¬ μ1 138 13 = 0 := by rw [hF.2.2.2.1]; have := hF.2.2.1; omega
      have := T150 (y3 := vi 1) (y4 := vi 0) hF hq
      simp only [x186_0, x186_1, x186_4, x186_5, x186_6, x186_9, x186_10, x186_11, x186_12, x186_13, x186_15, x186_18, x186_19, x186_20, x186_23, x186_24, x186_27, x186_30, x186_31, x186_33, x186_34, x186_37, x186_38, x186_40, x186_41, x186_42, x186_43, x186_44, x186_47, x186_48, x186_49, x186_52, x186_53, x186_54, x186_55, x186_56, x186_57, x186_58, x186_59, x186_62, x186_63, x186_66, x186_67, x186_68, x186_71, x186_72, x186_73, x186_75, x186_78, x186_79, x186_80, x186_81, x186_84, x186_87, x186_88, x186_91, x186_92, x186_96, x186_99, x186_100, x186_103, x186_106, x186_107, x186_108, x186_111, x186_112, x186_114, x186_117, x186_118, x186_119, x186_122, x186_123, x186_125, x186_128, x186_131, x186_132, x186_135, x186_136, x186_138, x186_140, x186_143, x186_144, x186_147, x186_150, x186_151, x186_154, x186_155, x186_156, x186_159, x186_160, x186_161, x186_162, x186_165, x186_166, x186_169, x186_172, x186_173, x186_176, x186_177, x186_178, x186_181, x186_182, x186_183, x186_184, x186_185, x186_186, x186_187, x186_188, x186_189, ↓reduceIte, Bool.false_eq_true, Nat.reduceAdd, Nat.reduceLT, Nat.reduceLeDiff, Nat.reduceSub, Nat.reduceEqDiff, Int.reduceToNat, Int.reduceEq, Int.reduceLT, Int.reduceLE, Int.reduceAdd, Int.reduceSub, zg, zI, zJ, zR, zst, zkl, zn, zcat, zok, zraw, List.length_cons, List.length_nil, Option.toList, List.nil_append, List.cons_append, true_and, and_true, if_true, if_false, ne_eq, not_true, not_false_eq_true, and_self, true_or, or_true, false_or, or_false, false_and, and_false, b_138 hm, n0]
      rw [x186_94]
      simp only [x186_0, x186_1, x186_4, x186_5, x186_6, x186_9, x186_10, x186_11, x186_12, x186_13, x186_15, x186_18, x186_19, x186_20, x186_23, x186_24, x186_27, x186_30, x186_31, x186_33, x186_34, x186_37, x186_38, x186_40, x186_41, x186_42, x186_43, x186_44, x186_47, x186_48, x186_49, x186_52, x186_53, x186_54, x186_55, x186_56, x186_57, x186_58, x186_59, x186_62, x186_63, x186_66, x186_67, x186_68, x186_71, x186_72, x186_73, x186_75, x186_78, x186_79, x186_80, x186_81, x186_84, x186_87, x186_88, x186_91, x186_92, x186_96, x186_99, x186_100, x186_103, x186_106, x186_107, x186_108, x186_111, x186_112, x186_114, x186_117, x186_118, x186_119, x186_122, x186_123, x186_125, x186_128, x186_131, x186_132, x186_135, x186_136, x186_138, x186_140, x186_143, x186_144, x186_147, x186_151, x186_154, x186_155, x186_156, x186_159, x186_160, x186_161, x186_162, x186_165, x186_166, x186_169, x186_172, x186_173, x186_176, x186_177, x186_178, x186_181, x186_182, x186_183, x186_184, x186_185, x186_186, x186_187, x186_188, x186_189, ↓reduceIte, Bool.false_eq_true, Nat.reduceAdd, Nat.reduceLT, Nat.reduceLeDiff, Nat.reduceSub, Nat.reduceEqDiff, Int.reduceToNat, Int.reduceEq, Int.reduceLT, Int.reduceLE, Int.reduceAdd, Int.reduceSub, zg, zI, zJ, zR, zst, zkl, zn, zcat, zok, zraw, List.length_cons, List.length_nil, Option.toList, List.nil_append, List.cons_append, true_and, and_true, if_true, if_false, ne_eq, not_true, not_false_eq_true, and_self, true_or, or_true, false_or, or_false, false_and, and_false, b_138 hm]
      exact this
    simp only [x186_0, x186_1, x186_4, x186_5, x186_6, x186_9, x186_10, x186_11, x186_12, x186_13, x186_15, x186_18, x186_19, x186_20, x186_23, x186_24, x186_27, x186_30, x186_31, x186_33, x186_34, x186_37, x186_38, x186_40, x186_41, x186_42, x186_43, x186_44, x186_47, x186_48, x186_49, x186_52, x186_53, x186_54, x186_55, x186_56, x186_57, x186_58, x186_59, x186_63, x186_66, x186_67, x186_68, x186_71, x186_72, x186_73, x186_75, x186_78, x186_79, x186_80, x186_81, x186_84, x186_87, x186_88, x186_91, x186_92, x186_96, x186_99, x186_100, x186_103, x186_106, x186_107, x186_108, x186_111, x186_112, x186_114, x186_117, x186_118, x186_119, x186_122, x186_123, x186_125, x186_128, x186_131, x186_132, x186_135, x186_136, x186_138, x186_140, x186_143, x186_144, x186_147, x186_150, x186_151, x186_154, x186_155, x186_156, x186_159, x186_160, x186_161, x186_162, x186_165, x186_166, x186_169, x186_172, x186_173, x186_176, x186_177, x186_178, x186_181, x186_182, x186_183, x186_184, x186_185, x186_186, x186_187, x186_188, x186_189, ↓reduceIte, Bool.false_eq_true, Nat.reduceAdd, Nat.reduceLT, Nat.reduceLeDiff, Nat.reduceSub, Nat.reduceEqDiff, Int.reduceToNat, Int.reduceEq, Int.reduceLT, Int.reduceLE, Int.reduceAdd, Int.reduceSub, zg, zI, zJ, zR, zst, zkl, zn, zcat, zok, zraw, List.length_cons, List.length_nil, Option.toList, List.nil_append, List.cons_append, true_and, and_true, if_true, if_false, ne_eq, not_true, not_false_eq_true, and_self, true_or, or_true, false_or, or_false, false_and, and_false, b_138 hm, r_138_26 hm, x_151 hm i1 i2, h13, h19, z0, wm3 a4, wm18 a4, wm6 a5, w32_add a1, w32_add a2, w32_add a3, Int.toNat_natCast, e151, c6, hd0, ← er]
    refine mGoes (d := d - 1) hm (by omega) hT hp h11 h13 (fun h4 => ?_) (fun h4 μ1 f j g1 g2 => ?_)
    · rw [nx_lt h4] at hQ
      simp only [bnd] at hQ
      have hpz := hT.1.2 p h4 hp (by omega)
      obtain ⟨μ2, hμ2⟩ : ∃ μ2, μ2 = us (us μ 138 (zup (μ 138) 11 ((p + 1 : Nat) : Int))) 152 (zup (μ 152) r (lB : Nat)) := ⟨_, rfl⟩
      have f2 : Fr [138, 152] μ μ2 := by rw [hμ2]; exact Fr.us (by simp) (Fr.us (by simp) Fr.refl)
      have j2 : ∀ j, j ≠ 11 → μ2 138 j = μ 138 j := fun j hj => by rw [hμ2, us_ne (by decide), us_same, zup_ne hj]
      have q11 : μ2 138 11 = ((p + 1 : Nat) : Int) := by rw [hμ2, us_ne (by decide), us_same, zup_same rfl]
      have e152 : μ2 152 = zup (μ 152) r (lB : Nat) := by rw [hμ2, us_same]
      have s2 : SF b μ μ2 := by rw [hμ2]; exact (SF.refl.fr (μ' := us μ 138 (zup (μ 138) 11 ((p + 1 : Nat) : Int))) (Fr.us (a := 138) (A := [138]) (by simp) Fr.refl) (by simp)).one (a := 152) (by decide) hrb
      have jf2 : JF μ μ2 := fun j h1 _ _ _ _ _ _ _ _ _ => j2 j h1
      simp only [x186_0, x186_1, x186_4, x186_5, x186_6, x186_9, x186_10, x186_11, x186_12, x186_13, x186_15, x186_18, x186_19, x186_20, x186_23, x186_24, x186_27, x186_30, x186_31, x186_33, x186_34, x186_37, x186_38, x186_40, x186_41, x186_42, x186_43, x186_44, x186_47, x186_48, x186_49, x186_52, x186_53, x186_54, x186_55, x186_56, x186_57, x186_58, x186_59, x186_62, x186_63, x186_66, x186_67, x186_68, x186_71, x186_72, x186_73, x186_75, x186_79, x186_80, x186_81, x186_84, x186_87, x186_88, x186_91, x186_92, x186_96, x186_99, x186_100, x186_103, x186_106, x186_107, x186_108, x186_111, x186_112, x186_114, x186_117, x186_118, x186_119, x186_122, x186_123, x186_125, x186_128, x186_131, x186_132, x186_135, x186_136, x186_138, x186_140, x186_143, x186_144, x186_147, x186_150, x186_151, x186_154, x186_155, x186_156, x186_159, x186_160, x186_161, x186_162, x186_165, x186_166, x186_169, x186_172, x186_173, x186_176, x186_177, x186_178, x186_181, x186_182, x186_183, x186_184, x186_185, x186_186, x186_187, x186_188, x186_189, ↓reduceIte, Bool.false_eq_true, Nat.reduceAdd, Nat.reduceLT, Nat.reduceLeDiff, Nat.reduceSub, Nat.reduceEqDiff, Int.reduceToNat, Int.reduceEq, Int.reduceLT, Int.reduceLE, Int.reduceAdd, Int.reduceSub, zg, zI, zJ, zR, zst, zkl, zn, zcat, zok, zraw, List.length_cons, List.length_nil, Option.toList, List.nil_append, List.cons_append, true_and, and_true, if_true, if_false, ne_eq, not_true, not_false_eq_true, and_self, true_or, or_true, false_or, or_false, false_and, and_false, b_138 hm, r_138_27 hm, x_152 hm i3 i4, ua_eq, us_same, zup_ne (show (36 : Nat) ≠ 11 by decide), h36, Int.toNat_natCast, hd0, us_ne (show (152 : Nat) ≠ 138 by decide), ← hμ2]
      have hT2 := TR_fr hT f2 (by decide) (by decide) (by decide) (by decide)
      refine mMust (d := d - 1) (k := 32) hm (by omega) hT2 hpz q11 (by rw [j2 13 (by decide)]; exact h13) (by decide) rfl ?_
      have hO := okG_exp (x := ()) (k := 32) (P := fun _ _ => True) hT.1 hpz (by decide) (fun _ => trivial)
      generalize expG K 32 (p + 1) () = w at hQ hO ⊢
      cases w with
      | inl e =>
        intro μ3 f3 j3 g13 g0 g14
        exact T78 (FT_of s2 jf2 (by omega) q11 g0 f3 j3 g13 g14) hQ
      | inr y =>
        obtain ⟨y0, y1⟩ := y
        obtain ⟨o1, o2, _⟩ := hO
        simp only [bnd] at hQ o1 o2 ⊢
        obtain ⟨μ3, hμ3⟩ : ∃ μ3, μ3 = us μ2 138 (zup (μ2 138) 11 (y0 : Nat)) := ⟨_, rfl⟩
        have f3 : Fr [138] μ2 μ3 := by rw [hμ3]; exact Fr.us (by simp) Fr.refl
        have j3 : ∀ j, j ≠ 11 → μ3 138 j = μ 138 j := fun j hj => by rw [hμ3, us_same, zup_ne hj]; exact j2 j hj
        have r11 : μ3 138 11 = (y0 : Nat) := by rw [hμ3, us_same, zup_same rfl]
        have s3 : SF b μ μ3 := s2.fr f3 (by simp)
        have jf3 : JF μ μ3 := fun j h1 _ _ _ _ _ _ _ _ _ => j3 j h1
        have r13 : μ3 138 13 = 0 := by rw [j3 13 (by decide)]; exact h13
        rw [← hμ3]
        simp only [x186_0, x186_1, x186_4, x186_5, x186_6, x186_9, x186_10, x186_11, x186_12, x186_13, x186_15, x186_18, x186_19, x186_20, x186_23, x186_24, x186_27, x186_30, x186_31, x186_33, x186_34, x186_37, x186_38, x186_40, x186_41, x186_42, x186_43, x186_44, x186_47, x186_48, x186_49, x186_52, x186_53, x186_54, x186_55, x186_56, x186_57, x186_58, x186_59, x186_62, x186_63, x186_66, x186_67, x186_68, x186_71, x186_72, x186_73, x186_75, x186_78, x186_79, x186_80, x186_81, x186_84, x186_87, x186_88, x186_91, x186_92, x186_96, x186_99, x186_100, x186_103, x186_106, x186_107, x186_108, x186_111, x186_112, x186_114, x186_117, x186_118, x186_119, x186_122, x186_123, x186_125, x186_128, x186_131, x186_132, x186_135, x186_136, x186_138, x186_140, x186_143, x186_144, x186_147, x186_150, x186_151, x186_154, x186_155, x186_156, x186_159, x186_160, x186_161, x186_162, x186_165, x186_166, x186_169, x186_172, x186_173, x186_176, x186_177, x186_178, x186_181, x186_182, x186_183, x186_184, x186_185, x186_186, x186_187, x186_188, x186_189, ↓reduceIte, Bool.false_eq_true, Nat.reduceAdd, Nat.reduceLT, Nat.reduceLeDiff, Nat.reduceSub, Nat.reduceEqDiff, Int.reduceToNat, Int.reduceEq, Int.reduceLT, Int.reduceLE, Int.reduceAdd, Int.reduceSub, zg, zI, zJ, zR, zst, zkl, zn, zcat, zok, zraw, List.length_cons, List.length_nil, Option.toList, List.nil_append, List.cons_append, true_and, and_true, if_true, if_false, ne_eq, not_true, not_false_eq_true, and_self, true_or, or_true, false_or, or_false, false_and, and_false, b_138 hm, r13]
        have hT3 := TR_fr hT2 f3 (by decide) (by decide) (by decide) (by decide)
        have hS0 : LSm lB cB b [] y0 μ3 μ3 := ⟨Fr.refl, fun _ _ _ _ _ _ => rfl, by rw [j3 36 (by decide)]; simpa using h36, ⟨cB, by rw [j3 43 (by decide)]; exact h43, ⟨Nat.le_refl _, by omega⟩, fun i hi => absurd hi (Nat.not_lt_zero _)⟩, fun _ _ _ _ _ => rfl, fun _ _ => ⟨rfl, rfl⟩, by simp; omega⟩
        refine mConds (o := true) hm (by omega) hT3 hb1 (by rw [j3 19 (by decide)]; exact h19) r13 hbd.1.1 hbd.2.1 (401 - y0) y0 [] μ3 o2 (Nat.le_refl _) hS0 r11 (by rw [j3 12 (by decide)]; exact h12) ?_
        have hO2 := okG_cd hT.1 hT.2.1 (401 - y0) y0 true [] o2 (Nat.le_refl _) (fun x hx => by cases hx) (fun hh => absurd rfl hh) (fun _ => rfl)
        generalize cdG K V (401 - y0) y0 true [] = w2 at hQ hO2 ⊢
        cases w2 with
        | inl e =>
          intro μ4 y3 y4 hF
          exact T150 (hF.after s3 jf3) hQ
        | inr y =>
          obtain ⟨q0, ls⟩ := y
          obtain ⟨u1, u2, u3⟩ := hO2
          simp only [bnd] at hQ u1 u2 u3 ⊢
          intro μ4 y3 y4 hS t11 t12
          obtain ⟨v1, v2, v3, ⟨a, v43, va, vl⟩, v5, v6, v7⟩ := id hS
          obtain ⟨μ5, hμ5⟩ : ∃ μ5, μ5 = us μ4 153 (zup (μ4 153) r ((lB + ls.length : Nat) : Int)) := ⟨_, rfl⟩
          have f5 : Fr [153] μ4 μ5 := by rw [hμ5]; exact Fr.us (by simp) Fr.refl
          have e5 : μ5 138 = μ4 138 := f5 138 (by decide)
          have s5 : SF b μ μ5 := by rw [hμ5]; exact (s3.trans (LS_SF hS hbd.2.1 (by omega))).one (a := 153) (by decide) hrb
          have jf5 : JF μ μ5 := (jf3.trans (LS_JF hS)).trans (fun j _ _ _ _ _ _ _ _ _ _ => by rw [e5])
          have k13 : μ5 138 13 = 0 := by rw [e5, v2 13 (by decide) (by decide) (by decide) (by decide) (by decide)]; exact r13
          simp only [x186_0, x186_1, x186_4, x186_5, x186_6, x186_9, x186_10, x186_11, x186_12, x186_13, x186_15, x186_18, x186_19, x186_20, x186_23, x186_24, x186_27, x186_30, x186_31, x186_33, x186_34, x186_37, x186_38, x186_40, x186_41, x186_42, x186_43, x186_44, x186_47, x186_48, x186_49, x186_52, x186_53, x186_54, x186_55, x186_56, x186_57, x186_58, x186_59, x186_62, x186_63, x186_66, x186_67, x186_68, x186_71, x186_72, x186_73, x186_75, x186_78, x186_79, x186_80, x186_81, x186_84, x186_87, x186_88, x186_91, x186_92, x186_96, x186_99, x186_100, x186_103, x186_106, x186_107, x186_108, x186_111, x186_112, x186_114, x186_117, x186_118, x186_119, x186_122, x186_123, x186_125, x186_128, x186_131, x186_132, x186_135, x186_136, x186_138, x186_140, x186_143, x186_144, x186_147, x186_150, x186_151, x186_154, x186_155, x186_156, x186_159, x186_160, x186_161, x186_162, x186_166, x186_169, x186_172, x186_173, x186_176, x186_177, x186_178, x186_181, x186_182, x186_183, x186_184, x186_185, x186_186, x186_187, x186_188, x186_189, ↓reduceIte, Bool.false_eq_true, Nat.reduceAdd, Nat.reduceLT, Nat.reduceLeDiff, Nat.reduceSub, Nat.reduceEqDiff, Int.reduceToNat, Int.reduceEq, Int.reduceLT, Int.reduceLE, Int.reduceAdd, Int.reduceSub, zg, zI, zJ, zR, zst, zkl, zn, zcat, zok, zraw, List.length_cons, List.length_nil, Option.toList, List.nil_append, List.cons_append, true_and, and_true, if_true, if_false, ne_eq, not_true, not_false_eq_true, and_self, true_or, or_true, false_or, or_false, false_and, and_false, b_138 hm, r_138_28 hm, x_153 hm i3 i4, ua_eq, v3, Int.toNat_natCast, hd0, ← hμ5]
          have hT5 := TR_fr (TR_fr hT3 v1 (by decide) (by decide) (by decide) (by decide)) f5 (by decide) (by decide) (by decide) (by decide)
          refine mMust (d := d - 1) (k := 4) hm (by omega) hT5 u2 (by rw [e5]; exact t11) k13 (by decide) rfl ?_
          have hO3 := okG_exp (x := ()) (k := 4) (P := fun _ _ => True) hT.1 u2 (by decide) (fun _ => trivial)
          have hx : ∀ x : zP, (expG K 4 q0 x : pR zP) = match (expG K 4 q0 () : pR Unit) with
              | .inl e => .inl e
              | .inr y => .inr (y.1, x) := fun x => by
            unfold expG nx
            by_cases c1 : K q0 = 4
            · rw [if_pos c1, if_pos c1]
              by_cases c2 : q0 < 400
              · rw [if_pos c2, if_pos c2]
              · rw [if_neg c2, if_neg c2]
            · rw [if_neg c1, if_neg c1]
          rw [hx] at hQ
          generalize (expG K 4 q0 () : pR Unit) = w3 at hQ hO3 ⊢
          cases w3 with
          | inl e =>
            intro μ6 f6 j6 g13 g0 g14
            have hF : FT b st e μ μ6 := FT_of s5 jf5 (show q0 ≤ 400 by omega) (by rw [e5]; exact t11) g0 f6 j6 g13 g14
            have n13 : ¬ μ6 138 13 = 0 := by rw [g13]; omega
            simp only [x186_0, x186_1, x186_4, x186_5, x186_6, x186_9, x186_10, x186_11, x186_12, x186_13, x186_15, x186_18, x186_19, x186_20, x186_23, x186_24, x186_27, x186_30, x186_31, x186_33, x186_34, x186_37, x186_38, x186_40, x186_41, x186_42, x186_43, x186_44, x186_47, x186_48, x186_49, x186_52, x186_53, x186_54, x186_55, x186_56, x186_57, x186_58, x186_59, x186_62, x186_63, x186_66, x186_67, x186_68, x186_71, x186_72, x186_73, x186_75, x186_78, x186_79, x186_80, x186_81, x186_84, x186_87, x186_88, x186_91, x186_92, x186_96, x186_99, x186_100, x186_103, x186_106, x186_107, x186_108, x186_111, x186_112, x186_114, x186_117, x186_118, x186_119, x186_122, x186_123, x186_125, x186_128, x186_131, x186_132, x186_135, x186_136, x186_138, x186_140, x186_143, x186_144, x186_147, x186_150, x186_151, x186_154, x186_155, x186_156, x186_159, x186_160, x186_161, x186_162, x186_165, x186_166, x186_169, x186_172, x186_173, x186_176, x186_177, x186_178, x186_181, x186_182, x186_183, x186_184, x186_185, x186_186, x186_187, x186_188, x186_189, ↓reduceIte, Bool.false_eq_true, Nat.reduceAdd, Nat.reduceLT, Nat.reduceLeDiff, Nat.reduceSub, Nat.reduceEqDiff, Int.reduceToNat, Int.reduceEq, Int.reduceLT, Int.reduceLE, Int.reduceAdd, Int.reduceSub, zg, zI, zJ, zR, zst, zkl, zn, zcat, zok, zraw, List.length_cons, List.length_nil, Option.toList, List.nil_append, List.cons_append, true_and, and_true, if_true, if_false, ne_eq, not_true, not_false_eq_true, and_self, true_or, or_true, false_or, or_false, false_and, and_false, b_138 hm, n13]
            exact hQ μ6 hF
          | inr y =>
            obtain ⟨y0', y1'⟩ := y
            obtain ⟨o1', o2', _⟩ := hO3
            simp only at hQ o1' o2' ⊢
            have e6 : ∀ j, us μ5 138 (zup (μ5 138) 11 (y0' : Nat)) 151 j = μ 151 j := fun j => by rw [us_ne (by decide), f5 151 (by decide), v1 151 (by decide), f3 151 (by decide), f2 151 (by decide)]
            have k13' : us μ5 138 (zup (μ5 138) 11 (y0' : Nat)) 138 13 = 0 := by rw [us_same, zup_ne (by decide)]; exact k13
            have k19' : us μ5 138 (zup (μ5 138) 11 (y0' : Nat)) 138 19 = (b : Nat) := by rw [us_same, zup_ne (by decide), e5, v2 19 (by decide) (by decide) (by decide) (by decide) (by decide), j3 19 (by decide)]; exact h19
            obtain ⟨μ6, hμ6⟩ : ∃ μ6, μ6 = us μ5 138 (zup (μ5 138) 11 (y0' : Nat)) := ⟨_, rfl⟩
            rw [← hμ6] at e6 k13' k19' ⊢
            obtain ⟨μ7, hμ7⟩ : ∃ μ7, μ7 = us μ6 151 (zup (μ6 151) (3 * b + k) ((n + 1 : Nat) : Int)) := ⟨_, rfl⟩
            simp only [x186_0, x186_1, x186_4, x186_5, x186_6, x186_9, x186_10, x186_11, x186_12, x186_13, x186_15, x186_18, x186_19, x186_20, x186_23, x186_24, x186_27, x186_30, x186_31, x186_33, x186_34, x186_37, x186_38, x186_40, x186_41, x186_42, x186_43, x186_44, x186_47, x186_48, x186_49, x186_52, x186_53, x186_54, x186_55, x186_56, x186_57, x186_58, x186_59, x186_62, x186_63, x186_66, x186_67, x186_68, x186_71, x186_72, x186_73, x186_75, x186_78, x186_79, x186_80, x186_81, x186_84, x186_87, x186_88, x186_91, x186_92, x186_96, x186_99, x186_100, x186_103, x186_106, x186_107, x186_108, x186_111, x186_112, x186_114, x186_117, x186_118, x186_119, x186_122, x186_123, x186_125, x186_128, x186_131, x186_132, x186_135, x186_136, x186_138, x186_140, x186_143, x186_144, x186_147, x186_150, x186_151, x186_154, x186_155, x186_156, x186_159, x186_160, x186_161, x186_162, x186_165, x186_166, x186_169, x186_172, x186_173, x186_176, x186_177, x186_178, x186_181, x186_182, x186_183, x186_184, x186_185, x186_186, x186_187, x186_188, x186_189, ↓reduceIte, Bool.false_eq_true, Nat.reduceAdd, Nat.reduceLT, Nat.reduceLeDiff, Nat.reduceSub, Nat.reduceEqDiff, Int.reduceToNat, Int.reduceEq, Int.reduceLT, Int.reduceLE, Int.reduceAdd, Int.reduceSub, zg, zI, zJ, zR, zst, zkl, zn, zcat, zok, zraw, List.length_cons, List.length_nil, Option.toList, List.nil_append, List.cons_append, true_and, and_true, if_true, if_false, ne_eq, not_true, not_false_eq_true, and_self, true_or, or_true, false_or, or_false, false_and, and_false, b_138 hm, r_138_26 hm, x_151 hm i1 i2, k13', k19', wm3 a4, w32_add a1, Int.toNat_natCast, e6, e151, w32_s a6, ua_eq, ← hμ7]
            have f6 : Fr [138] μ5 μ6 := by rw [hμ6]; exact Fr.us (by simp) Fr.refl
            have f7 : Fr [151] μ6 μ7 := by rw [hμ7]; exact Fr.us (by simp) Fr.refl
            have j6 : ∀ j, j ≠ 11 → μ6 138 j = μ5 138 j := fun j hj => by rw [hμ6, us_same, zup_ne hj]
            have e7 : μ7 138 = μ6 138 := f7 138 (by decide)
            refine hQ μ7 a (lB + ls.length) ?_ ?_ (PT_rule (q := y0') h hb1 hk hN (by omega) (by omega) (fun k' => (hw.2.2.2.1 k').1) ?_ ?_ ?_ ?_ ?_ ?_ ?_ ?_ ?_ ⟨va.1, by omega⟩ (by omega) (by omega) ?_ ?_ ?_ ?_ ?_)
            · rw [hμ7]; exact (s5.fr f6 (by simp)).one (a := 151) (by decide) (by show (3 * b + k) / 3 = b; omega)
            · exact jf5.trans (fun j h1 _ _ _ _ _ _ _ _ _ => by rw [e7, j6 j h1])
            · intro c hc
              rw [f7 c (by simp; omega), f6 c (by simp; omega), f5 c (by simp; omega), v1 c (by simp; omega), f3 c (by simp; omega), f2 c (by simp; omega)]
            · intro j hj; rw [hμ7, us_same, zup_ne hj, e6 j]
            · rw [hμ7, us_same, zup_same rfl]
            · intro j hj
              rw [f7 152 (by decide), f6 152 (by decide), f5 152 (by decide), v1 152 (by decide), f3 152 (by decide), e152, zup_ne (by omega)]
              refine ⟨rfl, ?_⟩
              rw [f7 153 (by decide), f6 153 (by decide), hμ5, us_same, zup_ne (by omega), v1 153 (by decide), f3 153 (by decide), f2 153 (by decide)]
            · rw [f7 152 (by decide), f6 152 (by decide), f5 152 (by decide), v1 152 (by decide), f3 152 (by decide), e152, zup_same er.symm]
            · rw [f7 153 (by decide), f6 153 (by decide), hμ5, us_same, zup_same er.symm]
            · intro c j c1 c2 hj
              rw [f7 c (by simp; omega), f6 c (by simp; omega), f5 c (by simp; omega), v5 c j c1 c2 hj, f3 c (by simp; omega), f2 c (by simp; omega)]
            · intro i hi
              have := vl i hi
              have e4 : ∀ c, 161 ≤ c → μ7 c = μ4 c := fun c c1 => by rw [f7 c (by simp; omega), f6 c (by simp; omega), f5 c (by simp; omega)]
              refine ⟨lAt_ag (lo := cB) (hi := a) this.1 this.2.1 this.2.2 (fun c c1 _ => by rw [e4 c c1]) (fun _ _ _ => by rw [e4 167 (by decide), e4 168 (by decide)]; exact ⟨rfl, rfl⟩), ?_, ?_⟩
              · rw [e4 164 (by decide)]; exact this.2.1
              · rw [e4 166 (by decide)]; exact this.2.2
            · intro i hi
              have := v6 i (Or.inl hi)
              rw [f7 167 (by decide), f6 167 (by decide), f5 167 (by decide), f7 168 (by decide), f6 168 (by decide), f5 168 (by decide), this.1, this.2, f3 167 (by decide), f3 168 (by decide), f2 167 (by decide), f2 168 (by decide)]
              exact ⟨rfl, rfl⟩
            · intro j h1 h2 h3 h4 h5
              rw [e7, j6 j h1, e5, v2 j h1 h2 h3 h4 h5, j3 j h1]
            · rw [e7, j6 36 (by decide), e5]; exact v3
            · rw [e7, j6 43 (by decide), e5]; exact v43
            · rw [e7, hμ6, us_same, zup_same rfl]
            · rw [e7, j6 12 (by decide), e5]; exact t12
    · rw [nx_ge h4] at hQ
      simp only [bnd] at hQ
      have hF0 : FT b st (2, p) μ μ1 := FT_of (q := p) SF.refl JF.refl (by omega) h11 (e := (2, p)) (by simp) f j g1 g2
      have hF2 := hF0.us1 (a := 152) (k := r) (x := μ1 138 36) (by decide) hrb
      have n0 : 0 < us μ1 152 (zup (μ1 152) r (μ1 138 36)) 138 13 := by rw [hF2.2.2.2.1]; simp
      have := T78 (y3 := x3) (y4 := x4) hF2 hQ
      simp only [x186_0, x186_1, x186_4, x186_5, x186_6, x186_9, x186_10, x186_11, x186_12, x186_13, x186_15, x186_18, x186_19, x186_20, x186_23, x186_24, x186_27, x186_30, x186_31, x186_33, x186_34, x186_37, x186_38, x186_40, x186_41, x186_42, x186_43, x186_44, x186_47, x186_48, x186_49, x186_52, x186_53, x186_54, x186_55, x186_56, x186_57, x186_58, x186_59, x186_62, x186_63, x186_66, x186_67, x186_68, x186_71, x186_72, x186_73, x186_75, x186_79, x186_80, x186_81, x186_84, x186_87, x186_88, x186_91, x186_92, x186_96, x186_99, x186_100, x186_103, x186_106, x186_107, x186_108, x186_111, x186_112, x186_114, x186_117, x186_118, x186_119, x186_122, x186_123, x186_125, x186_128, x186_131, x186_132, x186_135, x186_136, x186_138, x186_140, x186_143, x186_144, x186_147, x186_150, x186_151, x186_154, x186_155, x186_156, x186_159, x186_160, x186_161, x186_162, x186_165, x186_166, x186_169, x186_172, x186_173, x186_176, x186_177, x186_178, x186_181, x186_182, x186_183, x186_184, x186_185, x186_186, x186_187, x186_188, x186_189, ↓reduceIte, Bool.false_eq_true, Nat.reduceAdd, Nat.reduceLT, Nat.reduceLeDiff, Nat.reduceSub, Nat.reduceEqDiff, Int.reduceToNat, Int.reduceEq, Int.reduceLT, Int.reduceLE, Int.reduceAdd, Int.reduceSub, zg, zI, zJ, zR, zst, zkl, zn, zcat, zok, zraw, List.length_cons, List.length_nil, Option.toList, List.nil_append, List.cons_append, true_and, and_true, if_true, if_false, ne_eq, not_true, not_false_eq_true, and_self, true_or, or_true, false_or, or_false, false_and, and_false, b_138 hm, r_138_27 hm, x_152 hm i3 i4, ua_eq, Int.toNat_natCast, hd0, eMustF hm (show 0 < d - 1 by omega) n0]
      exact this
end RV
