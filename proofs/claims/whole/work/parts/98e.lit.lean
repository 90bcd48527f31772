/-! THE REFERENCE reads: a LIT behind its nots -/
section LK
variable {θ : zS} {Q : Option zV → zS → zM → Prop} {μ μ0 : zM} {K : Nat → Nat} {V W st : Nat → Int} {Z a : Nat}
theorem QE_app {c1 c2 : zC} {μ1 μ2 : zM} (h : QE a [] c1 μ0 μ1) (g : QE (a + c1.length) [] c2 μ1 μ2) : QE a [] (c1 ++ c2) μ0 μ2 := by
  obtain ⟨hf, h47, hw, h43, hj, ha, hc⟩ := h
  obtain ⟨gf, g47, gw, g43, gj, ga, gc⟩ := g
  refine ⟨hf.trans gf, g47, gw, ?_, fun j j1 j2 j3 j4 => by rw [gj j j1 j2 j3 j4, hj j j1 j2 j3 j4], fun i hi => ?_, fun i hi => ?_⟩
  · rw [g43]; simp; omega
  · have := ga i (by omega); rw [this.1, this.2]; exact ha i hi
  · by_cases q : i < c1.length
    · have := ga (a + i) (by omega); rw [this.1, this.2, List.getElem_append_left q]; exact hc i q
    · have hi' : i - c1.length < c2.length := by simp at hi; omega
      have := gc (i - c1.length) hi'
      rw [show a + c1.length + (i - c1.length) = a + i by omega] at this
      rw [List.getElem_append_right (by omega)]; exact this
theorem FQ_QE {w : List Nat} {c : zC} {e : Nat × Nat} {μ' : zM} (h : QE a w c μ0 μ) (g : FQ st e μ μ') : FQ st e μ0 μ' :=
  ⟨h.1.trans g.1, g.2.1, g.2.2.1, g.2.2.2.1, fun j j1 j2 j3 j4 j5 j6 => by rw [g.2.2.2.2.1 j j1 j2 j3 j4 j5 j6]; exact h.2.2.2.2.1 j j1 j2 j5 j6, g.2.2.2.2.2⟩
theorem mLit {d p : Nat} {o : Int} {b : Bool} {x3 x4 x5 : zV} (hm : Tm θ) (hd : 4 ≤ d) (hT : TR K V W st Z μ) (hp : p ≤ Z) (ha : a ≤ p) (h11 : μ 138 11 = (p : Nat)) (h12 : μ 138 12 = 0) (h13 : μ 138 13 = 0) (h43 : μ 138 43 = (a : Nat))
    (hQ : match ltE K V p b with
      | .inl e => ∀ μ', FQ st e μ μ' → Q none θ μ'
      | .inr x => ∀ μ', QE a [] (x.2.2.2.1 ++ x.2.2.2.2) μ μ' → μ' 138 11 = (x.1 : Nat) → μ' 138 12 = 0 → Ex d 187 107 [vr 138, vi o, vi (b2 b), vi (a : Nat), vi (x.2.2.1 : Nat), vi ((a + x.2.2.2.1.length : Nat) : Int)] [] θ μ' Q) : Ex d 187 28 [vr 138, vi o, vi (b2 b), x3, x4, x5] [] θ μ Q := by
  have hd0 : 0 < d := by omega
  have hz := hT.1.1
  have hO := okG_E hT.1 hT.2.1 hp
  have tail : ∀ {e : Nat × Nat} {μ1 : zM} {y : Int} {z5 : zV}, FQ st e μ μ1 → (∀ μ', FQ st e μ μ' → Q none θ μ') → Ex d 187 85 [vr 138, vi o, vi (b2 b), vi (a : Nat), vi y, z5] [] θ μ1 Q := by
    intro e μ1 y z5 hF hq
    have n13 : 0 < μ1 138 13 := by rw [hF.2.2.1]; have := hF.2.1; omega
    have hF' := hF
    obtain ⟨_, _, _, _, _, q, q4, q11⟩ := hF'
    simp only [x187_0, x187_1, x187_3, x187_5, x187_8, x187_11, x187_12, x187_15, x187_16, x187_19, x187_20, x187_21, x187_22, x187_25, x187_28, x187_29, x187_32, x187_33, x187_34, x187_37, x187_38, x187_41, x187_44, x187_45, x187_48, x187_49, x187_52, x187_53, x187_56, x187_57, x187_59, x187_60, x187_62, x187_63, x187_66, x187_69, x187_71, x187_74, x187_76, x187_77, x187_80, x187_81, x187_82, x187_85, x187_86, x187_90, x187_93, x187_95, x187_96, x187_99, x187_100, x187_103, x187_106, x187_107, x187_108, x187_111, x187_112, x187_115, x187_117, x187_118, x187_119, x187_122, x187_123, x187_126, x187_127, x187_128, x187_129, x187_132, x187_133, x187_136, x187_137, x187_138, x187_139, x187_142, x187_143, x187_146, x187_147, x187_148, x187_149, x187_152, x187_153, x187_156, x187_158, x187_159, x187_160, x187_163, x187_164, x187_167, x187_168, x187_171, x187_172, x187_173, x187_174, x187_177, x187_178, x187_179, x187_182, ↓reduceIte, Bool.false_eq_true, Nat.reduceAdd, Nat.reduceLT, Nat.reduceLeDiff, Nat.reduceSub, Nat.reduceEqDiff, Int.reduceToNat, Int.reduceEq, Int.reduceLT, Int.reduceLE, Int.reduceAdd, Int.reduceSub, zg, zI, zJ, zR, zst, zkl, zn, zcat, zok, zraw, List.length_cons, List.length_nil, Option.toList, List.nil_append, List.cons_append, true_and, and_true, if_true, if_false, ne_eq, not_true, not_false_eq_true, and_self, true_or, or_true, false_or, or_false, false_and, and_false, b_138 hm, hd0]
    refine mGoesF (d := d - 1) hm (by omega) q4 q11 n13 (fun μ2 r hr f j k11 => ?_)
    have n2 : 0 < μ2 138 13 := by rw [j 13 (by decide)]; exact n13
    simp only [x187_0, x187_1, x187_3, x187_5, x187_8, x187_11, x187_12, x187_15, x187_16, x187_19, x187_20, x187_21, x187_22, x187_25, x187_28, x187_29, x187_32, x187_33, x187_34, x187_37, x187_38, x187_41, x187_44, x187_45, x187_48, x187_49, x187_52, x187_53, x187_56, x187_57, x187_59, x187_60, x187_62, x187_63, x187_66, x187_69, x187_71, x187_74, x187_76, x187_77, x187_80, x187_81, x187_82, x187_85, x187_86, x187_89, x187_90, x187_93, x187_95, x187_96, x187_100, x187_103, x187_106, x187_107, x187_108, x187_111, x187_112, x187_115, x187_117, x187_118, x187_119, x187_122, x187_123, x187_126, x187_127, x187_128, x187_129, x187_132, x187_133, x187_136, x187_137, x187_138, x187_139, x187_142, x187_143, x187_146, x187_147, x187_148, x187_149, x187_152, x187_153, x187_156, x187_158, x187_159, x187_160, x187_163, x187_164, x187_167, x187_168, x187_171, x187_172, x187_173, x187_174, x187_177, x187_178, x187_179, x187_182, ↓reduceIte, Bool.false_eq_true, Nat.reduceAdd, Nat.reduceLT, Nat.reduceLeDiff, Nat.reduceSub, Nat.reduceEqDiff, Int.reduceToNat, Int.reduceEq, Int.reduceLT, Int.reduceLE, Int.reduceAdd, Int.reduceSub, zg, zI, zJ, zR, zst, zkl, zn, zcat, zok, zraw, List.length_cons, List.length_nil, Option.toList, List.nil_append, List.cons_append, true_and, and_true, if_true, if_false, ne_eq, not_true, not_false_eq_true, and_self, true_or, or_true, false_or, or_false, false_and, and_false, b_138 hm, hd0]
    refine mExprF (d := d - 1) hm n2 ?_
    have n3 : ¬ us μ2 138 (zup (μ2 138) 47 0) 138 13 ≤ 0 := by rw [us_same, zup_ne (by decide)]; omega
    simp only [x187_0, x187_1, x187_3, x187_5, x187_8, x187_11, x187_12, x187_15, x187_16, x187_19, x187_20, x187_21, x187_22, x187_25, x187_28, x187_29, x187_32, x187_33, x187_34, x187_37, x187_38, x187_41, x187_44, x187_45, x187_48, x187_49, x187_52, x187_53, x187_56, x187_57, x187_59, x187_60, x187_62, x187_63, x187_66, x187_69, x187_71, x187_74, x187_76, x187_77, x187_80, x187_81, x187_82, x187_85, x187_86, x187_89, x187_90, x187_93, x187_95, x187_96, x187_99, x187_100, x187_103, x187_106, x187_107, x187_108, x187_111, x187_112, x187_115, x187_117, x187_118, x187_119, x187_122, x187_123, x187_126, x187_127, x187_128, x187_129, x187_132, x187_133, x187_136, x187_137, x187_138, x187_139, x187_142, x187_143, x187_146, x187_147, x187_148, x187_149, x187_152, x187_153, x187_156, x187_158, x187_159, x187_160, x187_163, x187_164, x187_167, x187_168, x187_171, x187_172, x187_173, x187_174, x187_177, x187_178, x187_179, x187_182, ↓reduceIte, Bool.false_eq_true, Nat.reduceAdd, Nat.reduceLT, Nat.reduceLeDiff, Nat.reduceSub, Nat.reduceEqDiff, Int.reduceToNat, Int.reduceEq, Int.reduceLT, Int.reduceLE, Int.reduceAdd, Int.reduceSub, zg, zI, zJ, zR, zst, zkl, zn, zcat, zok, zraw, List.length_cons, List.length_nil, Option.toList, List.nil_append, List.cons_append, true_and, and_true, if_true, if_false, ne_eq, not_true, not_false_eq_true, and_self, true_or, or_true, false_or, or_false, false_and, and_false, b_138 hm, n3]
    refine hq _ (FQ_fr hF ((f.mono (by simp)).trans (Fr.us (by simp) Fr.refl)) (fun i i1 _ _ i4 => ?_) ⟨r, hr, ?_⟩)
    · rw [us_same, zup_ne i4, j i i1]
    · rw [us_same, zup_ne (by decide)]; exact k11
  unfold ltE at hQ
  simp only [x187_0, x187_1, x187_3, x187_5, x187_8, x187_11, x187_12, x187_15, x187_16, x187_19, x187_20, x187_21, x187_22, x187_25, x187_28, x187_29, x187_32, x187_33, x187_34, x187_38, x187_41, x187_44, x187_45, x187_48, x187_49, x187_52, x187_53, x187_56, x187_57, x187_59, x187_60, x187_62, x187_63, x187_66, x187_69, x187_71, x187_74, x187_76, x187_77, x187_80, x187_81, x187_82, x187_85, x187_86, x187_89, x187_90, x187_93, x187_95, x187_96, x187_99, x187_100, x187_103, x187_106, x187_107, x187_108, x187_111, x187_112, x187_115, x187_117, x187_118, x187_119, x187_122, x187_123, x187_126, x187_127, x187_128, x187_129, x187_132, x187_133, x187_136, x187_137, x187_138, x187_139, x187_142, x187_143, x187_146, x187_147, x187_148, x187_149, x187_152, x187_153, x187_156, x187_158, x187_159, x187_160, x187_163, x187_164, x187_167, x187_168, x187_171, x187_172, x187_173, x187_174, x187_177, x187_178, x187_179, x187_182, ↓reduceIte, Bool.false_eq_true, Nat.reduceAdd, Nat.reduceLT, Nat.reduceLeDiff, Nat.reduceSub, Nat.reduceEqDiff, Int.reduceToNat, Int.reduceEq, Int.reduceLT, Int.reduceLE, Int.reduceAdd, Int.reduceSub, zg, zI, zJ, zR, zst, zkl, zn, zcat, zok, zraw, List.length_cons, List.length_nil, Option.toList, List.nil_append, List.cons_append, true_and, and_true, if_true, if_false, ne_eq, not_true, not_false_eq_true, and_self, true_or, or_true, false_or, or_false, false_and, and_false, b_138 hm, hd0, h43]
  refine mExpr (d := d - 1) hm (by omega) hT hp ha h11 h12 h13 h43 ?_
  generalize rdE K V p = r at hQ hO ⊢
  cases r with
  | inl e =>
    intro μ1 hF
    have n13 : ¬ μ1 138 13 ≤ 0 := by rw [hF.2.2.1]; have := hF.2.1; omega
    have n0 : ¬ μ1 138 13 = 0 := by omega
    simp only [x187_0, x187_1, x187_3, x187_5, x187_8, x187_11, x187_12, x187_15, x187_16, x187_19, x187_20, x187_21, x187_22, x187_25, x187_28, x187_29, x187_32, x187_33, x187_34, x187_37, x187_38, x187_41, x187_44, x187_45, x187_48, x187_49, x187_52, x187_53, x187_56, x187_57, x187_59, x187_60, x187_62, x187_63, x187_66, x187_69, x187_71, x187_74, x187_76, x187_77, x187_80, x187_81, x187_82, x187_86, x187_89, x187_90, x187_93, x187_95, x187_96, x187_99, x187_100, x187_103, x187_106, x187_107, x187_108, x187_111, x187_112, x187_115, x187_117, x187_118, x187_119, x187_122, x187_123, x187_126, x187_127, x187_128, x187_129, x187_132, x187_133, x187_136, x187_137, x187_138, x187_139, x187_142, x187_143, x187_146, x187_147, x187_148, x187_149, x187_152, x187_153, x187_156, x187_158, x187_159, x187_160, x187_163, x187_164, x187_167, x187_168, x187_171, x187_172, x187_173, x187_174, x187_177, x187_178, x187_179, x187_182, ↓reduceIte, Bool.false_eq_true, Nat.reduceAdd, Nat.reduceLT, Nat.reduceLeDiff, Nat.reduceSub, Nat.reduceEqDiff, Int.reduceToNat, Int.reduceEq, Int.reduceLT, Int.reduceLE, Int.reduceAdd, Int.reduceSub, zg, zI, zJ, zR, zst, zkl, zn, zcat, zok, zraw, List.length_cons, List.length_nil, Option.toList, List.nil_append, List.cons_append, true_and, and_true, if_true, if_false, ne_eq, not_true, not_false_eq_true, and_self, true_or, or_true, false_or, or_false, false_and, and_false, b_138 hm, n13, n0]
    exact tail hF hQ
  | inr x =>
    intro μ1 hE k11 k12
    obtain ⟨o1, o2, o3, o4⟩ := hO
    have T1 := TR_QE hT hE
    have k13 : μ1 138 13 = 0 := by rw [hE.2.2.2.2.1 13 (by decide) (by decide) (by decide) (by decide)]; exact h13
    have z0 : (0 : Int) ≤ 0 := by omega
    have i1 : (0 : Int) ≤ (x.1 : Int) := by omega
    have i2 : (x.1 : Int) < 403 := by omega
    have e141 := (T1.2.2.2 x.1 o2).1
    have hk := T1.2.2.1 x.1 o2
    have fk : ∀ k : Fin 49, (10 ≤ k.val ∧ k.val ≤ 13 → rkO k.val = ((k.val - 10 : Nat) : Int) + 11) ∧ (¬ (10 ≤ k.val ∧ k.val ≤ 13) → rkO k.val < 11 ∨ 14 < rkO k.val) ∧ 0 ≤ rkO k.val ∧ rkO k.val ≤ 60 := by decide +kernel
    have fk := fk ⟨K x.1, by omega⟩
    simp only at fk hQ
    by_cases c : 10 ≤ K x.1 ∧ K x.1 ≤ 13
    · sorry
    · simp only [bnd, if_neg c] at hQ
      have w1 : w32 (rkO (K x.1) - 11) = rkO (K x.1) - 11 := w32_i (by omega) (by omega)
      have bad : ∀ y : Int, Ex d 187 80 [vr 138, vi o, vi (b2 b), vi (a : Nat), vi y, x5] [] θ μ1 Q := fun y => by
        simp only [x187_0, x187_1, x187_3, x187_5, x187_8, x187_11, x187_12, x187_15, x187_16, x187_19, x187_20, x187_21, x187_22, x187_25, x187_28, x187_29, x187_32, x187_33, x187_34, x187_37, x187_38, x187_41, x187_44, x187_45, x187_48, x187_49, x187_52, x187_53, x187_56, x187_57, x187_59, x187_60, x187_62, x187_63, x187_66, x187_69, x187_71, x187_74, x187_76, x187_77, x187_80, x187_81, x187_82, x187_86, x187_89, x187_90, x187_93, x187_95, x187_96, x187_99, x187_100, x187_103, x187_106, x187_107, x187_108, x187_111, x187_112, x187_115, x187_117, x187_118, x187_119, x187_122, x187_123, x187_126, x187_127, x187_128, x187_129, x187_132, x187_133, x187_136, x187_137, x187_138, x187_139, x187_142, x187_143, x187_146, x187_147, x187_148, x187_149, x187_152, x187_153, x187_156, x187_158, x187_159, x187_160, x187_163, x187_164, x187_167, x187_168, x187_171, x187_172, x187_173, x187_174, x187_177, x187_178, x187_179, x187_182, ↓reduceIte, Bool.false_eq_true, Nat.reduceAdd, Nat.reduceLT, Nat.reduceLeDiff, Nat.reduceSub, Nat.reduceEqDiff, Int.reduceToNat, Int.reduceEq, Int.reduceLT, Int.reduceLE, Int.reduceAdd, Int.reduceSub, zg, zI, zJ, zR, zst, zkl, zn, zcat, zok, zraw, List.length_cons, List.length_nil, Option.toList, List.nil_append, List.cons_append, true_and, and_true, if_true, if_false, ne_eq, not_true, not_false_eq_true, and_self, true_or, or_true, false_or, or_false, false_and, and_false, b_138 hm, hd0]
        refine mFail (d := d - 1) hm T1 o2 k11 k13 (fun μ2 f j g1 g2 => ?_)
        exact tail (FQ_of (e := (1, x.1)) hE (by simp) (by omega) k11 f j g1 g2) hQ
      have bd := bad (rkO (K x.1) - 11)
      rcases fk.2.1 c with h | h
      · have c1 : rkO (K x.1) - 11 < 0 := by omega
        simp only [x187_0, x187_1, x187_3, x187_5, x187_8, x187_11, x187_12, x187_15, x187_16, x187_19, x187_20, x187_21, x187_22, x187_25, x187_28, x187_29, x187_32, x187_33, x187_34, x187_37, x187_38, x187_41, x187_44, x187_45, x187_48, x187_49, x187_52, x187_53, x187_56, x187_57, x187_59, x187_60, x187_62, x187_63, x187_66, x187_69, x187_71, x187_74, x187_76, x187_77, x187_81, x187_82, x187_85, x187_86, x187_89, x187_90, x187_93, x187_95, x187_96, x187_99, x187_100, x187_103, x187_106, x187_107, x187_108, x187_111, x187_112, x187_115, x187_117, x187_118, x187_119, x187_122, x187_123, x187_126, x187_127, x187_128, x187_129, x187_132, x187_133, x187_136, x187_137, x187_138, x187_139, x187_142, x187_143, x187_146, x187_147, x187_148, x187_149, x187_152, x187_153, x187_156, x187_158, x187_159, x187_160, x187_163, x187_164, x187_167, x187_168, x187_171, x187_172, x187_173, x187_174, x187_177, x187_178, x187_179, x187_182, ↓reduceIte, Bool.false_eq_true, Nat.reduceAdd, Nat.reduceLT, Nat.reduceLeDiff, Nat.reduceSub, Nat.reduceEqDiff, Int.reduceToNat, Int.reduceEq, Int.reduceLT, Int.reduceLE, Int.reduceAdd, Int.reduceSub, zg, zI, zJ, zR, zst, zkl, zn, zcat, zok, zraw, List.length_cons, List.length_nil, Option.toList, List.nil_append, List.cons_append, true_and, and_true, if_true, if_false, ne_eq, not_true, not_false_eq_true, and_self, true_or, or_true, false_or, or_false, false_and, and_false, b_138 hm, r_138_5 hm, x_141 hm i1 i2, k11, k13, z0, e141, Int.toNat_natCast, w1, c1]
        exact bd
      · have c1 : ¬ rkO (K x.1) - 11 < 0 := by omega
        have c2 : ¬ rkO (K x.1) - 11 ≤ 3 := by omega
        simp only [x187_0, x187_1, x187_3, x187_5, x187_8, x187_11, x187_12, x187_15, x187_16, x187_19, x187_20, x187_21, x187_22, x187_25, x187_28, x187_29, x187_32, x187_33, x187_34, x187_37, x187_38, x187_41, x187_44, x187_45, x187_48, x187_49, x187_52, x187_53, x187_56, x187_57, x187_59, x187_60, x187_62, x187_63, x187_66, x187_69, x187_71, x187_74, x187_76, x187_77, x187_81, x187_82, x187_85, x187_86, x187_89, x187_90, x187_93, x187_95, x187_96, x187_99, x187_100, x187_103, x187_106, x187_107, x187_108, x187_111, x187_112, x187_115, x187_117, x187_118, x187_119, x187_122, x187_123, x187_126, x187_127, x187_128, x187_129, x187_132, x187_133, x187_136, x187_137, x187_138, x187_139, x187_142, x187_143, x187_146, x187_147, x187_148, x187_149, x187_152, x187_153, x187_156, x187_158, x187_159, x187_160, x187_163, x187_164, x187_167, x187_168, x187_171, x187_172, x187_173, x187_174, x187_177, x187_178, x187_179, x187_182, ↓reduceIte, Bool.false_eq_true, Nat.reduceAdd, Nat.reduceLT, Nat.reduceLeDiff, Nat.reduceSub, Nat.reduceEqDiff, Int.reduceToNat, Int.reduceEq, Int.reduceLT, Int.reduceLE, Int.reduceAdd, Int.reduceSub, zg, zI, zJ, zR, zst, zkl, zn, zcat, zok, zraw, List.length_cons, List.length_nil, Option.toList, List.nil_append, List.cons_append, true_and, and_true, if_true, if_false, ne_eq, not_true, not_false_eq_true, and_self, true_or, or_true, false_or, or_false, false_and, and_false, b_138 hm, r_138_5 hm, x_141 hm i1 i2, k11, k13, z0, e141, Int.toNat_natCast, w1, c1, c2]
        exact bd
end LK
