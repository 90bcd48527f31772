/-! THE CLASS READS: other TELLS with one INT, laws, RULES -/
theorem w32_n3 {k : Nat} (h : 17 ≤ k) (h2 : k ≤ 22) : w32 (w32 (3 + ((k : Nat) : Int)) - 17) = ((k - 14 : Nat) : Int) := by
  rw [w32_i (x := 3 + ((k : Nat) : Int)) (by omega) (by omega), w32_i (by omega) (by omega)]; omega
theorem w32_k {k a : Nat} (h : a ≤ k) (h2 : k ≤ 1000) : w32 (((k : Nat) : Int) - (a : Nat)) = ((k - a : Nat) : Int) := by rw [w32_i (by omega) (by omega)]; omega
theorem wfc_ne {c : zC} (h : wfc 16 1 0 c) : 1 ≤ c.length := by
  cases c with
  | nil => exact absurd (show (0 : Nat) = 1 from h) (by decide)
  | cons x r => simp
section RL
variable {θ : zS} {Q : Option zV → zS → zM → Prop} {μ μ0 : zM} {K : Nat → Nat} {V W st : Nat → Int} {Z U : Nat} {π : zP}
theorem cNumbT {d p : Nat} (hr : RdC θ U) (hd : 4 ≤ d) (hp : p ≤ Z) (kk : 17 ≤ K p ∧ K p ≤ 22) (hT : TK K V W st Z μ) (h : PT W st U p π μ0 μ)
    (hQ : cRQ (RA U) st μ0 θ Q 0 (numbG K V p π) (fun q π' μ' => PT W st U q π' μ0 μ')) : Ex d 43 84 [vr 60, vi (K p : Nat)] [] θ μ Q := by
  have hr' := hr
  obtain ⟨hc, hU, hu, h60⟩ := hr'
  have hd0 : 0 < d := by omega
  have hA1 : ∀ a ∈ [60, U + 1], a ∈ RA U := by unfold RA; simp
  unfold numbG at hQ
  simp only [x43_0, x43_1, x43_4, x43_7, x43_8, x43_11, x43_12, x43_13, x43_14, x43_16, x43_19, x43_20, x43_23, x43_26, x43_27, x43_28, x43_29, x43_31, x43_34, x43_37, x43_38, x43_39, x43_40, x43_42, x43_45, x43_48, x43_49, x43_50, x43_51, x43_52, x43_55, x43_58, x43_59, x43_60, x43_63, x43_66, x43_67, x43_70, x43_71, x43_72, x43_73, x43_75, x43_78, x43_79, x43_81, x43_84, x43_85, x43_88, x43_91, x43_92, x43_93, x43_94, x43_95, x43_97, x43_98, x43_99, x43_101, x43_104, x43_107, x43_108, x43_109, x43_112, x43_115, x43_116, x43_119, x43_120, x43_121, x43_122, x43_124, x43_127, x43_128, x43_130, x43_133, x43_134, x43_135, x43_137, x43_138, x43_141, x43_142, x43_143, x43_145, x43_148, x43_149, x43_151, x43_154, x43_155, x43_156, x43_158, x43_159, x43_162, x43_163, x43_164, x43_166, x43_169, x43_170, x43_173, x43_176, x43_177, x43_178, x43_181, ↓reduceIte, Bool.false_eq_true, Nat.reduceAdd, Nat.reduceLT, Nat.reduceLeDiff, Nat.reduceSub, Nat.reduceEqDiff, Int.reduceToNat, Int.reduceEq, Int.reduceLT, Int.reduceLE, Int.reduceAdd, Int.reduceSub, zg, zI, zJ, zR, zst, zkl, zn, zcat, zok, zraw, List.length_cons, List.length_nil, Option.toList, List.nil_append, List.cons_append, true_and, and_true, if_true, if_false, ne_eq, not_true, not_false_eq_true, and_self, true_or, or_true, false_or, or_false, false_and, and_false, b_60 hc, hd0]
  refine cPass (d := d - 1) hr hT hp h.2.1 (fun h4 => ?_) (fun h4 μ2 f2 g4 g0 => ?_)
  · rw [nx_lt h4] at hQ
    simp only [bnd] at hQ
    have hp1 := hT.1.2 p h4 hp (by omega)
    have H1 := PT_at hr h (q := p + 1) (by omega)
    have T1 := TK_60 hT (Fr.us (a := 60) (f := zup (μ 60) 3 ((p + 1 : Nat) : Int)) (by simp) Fr.refl)
    simp only [x43_0, x43_1, x43_4, x43_7, x43_8, x43_11, x43_12, x43_13, x43_14, x43_16, x43_19, x43_20, x43_23, x43_26, x43_27, x43_28, x43_29, x43_31, x43_34, x43_37, x43_38, x43_39, x43_40, x43_42, x43_45, x43_48, x43_49, x43_50, x43_51, x43_52, x43_55, x43_58, x43_59, x43_60, x43_63, x43_66, x43_67, x43_70, x43_71, x43_72, x43_73, x43_75, x43_78, x43_79, x43_81, x43_84, x43_85, x43_88, x43_91, x43_92, x43_93, x43_94, x43_95, x43_97, x43_98, x43_99, x43_101, x43_104, x43_107, x43_108, x43_109, x43_112, x43_115, x43_116, x43_119, x43_120, x43_121, x43_122, x43_124, x43_127, x43_128, x43_130, x43_133, x43_134, x43_135, x43_137, x43_138, x43_141, x43_142, x43_143, x43_145, x43_148, x43_149, x43_151, x43_154, x43_155, x43_156, x43_158, x43_159, x43_162, x43_163, x43_164, x43_166, x43_169, x43_170, x43_173, x43_176, x43_177, x43_178, x43_181, ↓reduceIte, Bool.false_eq_true, Nat.reduceAdd, Nat.reduceLT, Nat.reduceLeDiff, Nat.reduceSub, Nat.reduceEqDiff, Int.reduceToNat, Int.reduceEq, Int.reduceLT, Int.reduceLE, Int.reduceAdd, Int.reduceSub, zg, zI, zJ, zR, zst, zkl, zn, zcat, zok, zraw, List.length_cons, List.length_nil, Option.toList, List.nil_append, List.cons_append, true_and, and_true, if_true, if_false, ne_eq, not_true, not_false_eq_true, and_self, true_or, or_true, false_or, or_false, false_and, and_false, b_60 hc, hd0, w32_n3 kk.1 kk.2]
    have N1 := okG_num (lo := 0) (hi := 99) (F := pF π) (V := V) hT.1 hp1
    refine cNumber (d := d - 1) (w := K p - 14) (F := pF π) hr (by omega) T1 hp1 H1.2.1 H1.2.2.2.1 (by omega) ?_
    generalize numG K V 0 99 (p + 1) (pF π) = r at hQ N1 ⊢
    cases r with
    | inl e =>
      intro μ2 f2 g4 g0
      simp only [x43_0, x43_1, x43_4, x43_7, x43_8, x43_11, x43_12, x43_13, x43_14, x43_16, x43_19, x43_20, x43_23, x43_26, x43_27, x43_28, x43_29, x43_31, x43_34, x43_37, x43_38, x43_39, x43_40, x43_42, x43_45, x43_48, x43_49, x43_50, x43_51, x43_52, x43_55, x43_58, x43_59, x43_60, x43_63, x43_66, x43_67, x43_70, x43_71, x43_72, x43_73, x43_75, x43_78, x43_79, x43_81, x43_84, x43_85, x43_88, x43_91, x43_92, x43_93, x43_94, x43_95, x43_97, x43_98, x43_99, x43_101, x43_104, x43_107, x43_108, x43_109, x43_112, x43_115, x43_116, x43_119, x43_120, x43_121, x43_122, x43_124, x43_127, x43_128, x43_130, x43_133, x43_134, x43_135, x43_137, x43_138, x43_141, x43_142, x43_143, x43_145, x43_148, x43_149, x43_151, x43_154, x43_155, x43_156, x43_158, x43_159, x43_162, x43_163, x43_164, x43_166, x43_169, x43_170, x43_173, x43_176, x43_177, x43_178, x43_181, ↓reduceIte, Bool.false_eq_true, Nat.reduceAdd, Nat.reduceLT, Nat.reduceLeDiff, Nat.reduceSub, Nat.reduceEqDiff, Int.reduceToNat, Int.reduceEq, Int.reduceLT, Int.reduceLE, Int.reduceAdd, Int.reduceSub, zg, zI, zJ, zR, zst, zkl, zn, zcat, zok, zraw, List.length_cons, List.length_nil, Option.toList, List.nil_append, List.cons_append, true_and, and_true, if_true, if_false, ne_eq, not_true, not_false_eq_true, and_self, true_or, or_true, false_or, or_false, false_and, and_false]
      exact hQ μ2 (H1.1.trans (f2.mono hA1)) g4 g0
    | inr a =>
      intro μ2 f2 g3 g4 gF gN
      have H2 := PT_N hr H1 (q := a.1) (by have := N1.1; omega) f2 g3 g4 gF gN
      have T2 := TK_T hr T1 (f2.mono hA1)
      simp only [bnd] at hQ
      simp only [x43_0, x43_1, x43_4, x43_7, x43_8, x43_11, x43_12, x43_13, x43_14, x43_16, x43_19, x43_20, x43_23, x43_26, x43_27, x43_28, x43_29, x43_31, x43_34, x43_37, x43_38, x43_39, x43_40, x43_42, x43_45, x43_48, x43_49, x43_50, x43_51, x43_52, x43_55, x43_58, x43_59, x43_60, x43_63, x43_66, x43_67, x43_70, x43_71, x43_72, x43_73, x43_75, x43_78, x43_79, x43_81, x43_84, x43_85, x43_88, x43_91, x43_92, x43_93, x43_94, x43_95, x43_97, x43_98, x43_99, x43_101, x43_104, x43_107, x43_108, x43_109, x43_112, x43_115, x43_116, x43_119, x43_120, x43_121, x43_122, x43_124, x43_127, x43_128, x43_130, x43_133, x43_134, x43_135, x43_137, x43_138, x43_141, x43_142, x43_143, x43_145, x43_148, x43_149, x43_151, x43_154, x43_155, x43_156, x43_158, x43_159, x43_162, x43_163, x43_164, x43_166, x43_169, x43_170, x43_173, x43_176, x43_177, x43_178, x43_181, ↓reduceIte, Bool.false_eq_true, Nat.reduceAdd, Nat.reduceLT, Nat.reduceLeDiff, Nat.reduceSub, Nat.reduceEqDiff, Int.reduceToNat, Int.reduceEq, Int.reduceLT, Int.reduceLE, Int.reduceAdd, Int.reduceSub, zg, zI, zJ, zR, zst, zkl, zn, zcat, zok, zraw, List.length_cons, List.length_nil, Option.toList, List.nil_append, List.cons_append, true_and, and_true, if_true, if_false, ne_eq, not_true, not_false_eq_true, and_self, true_or, or_true, false_or, or_false, false_and, and_false, b_60 hc, hd0]
      refine cSemi (d := d - 1) (A := []) hr (by omega) N1.2.1 T2 H2 ?_
      generalize expG K 4 a.1 (upN π (K p - 14) a.2) = r at hQ ⊢
      cases r with
      | inl e =>
        intro μ5 f5 g4 g0
        simp only [x43_0, x43_1, x43_4, x43_7, x43_8, x43_11, x43_12, x43_13, x43_14, x43_16, x43_19, x43_20, x43_23, x43_26, x43_27, x43_28, x43_29, x43_31, x43_34, x43_37, x43_38, x43_39, x43_40, x43_42, x43_45, x43_48, x43_49, x43_50, x43_51, x43_52, x43_55, x43_58, x43_59, x43_60, x43_63, x43_66, x43_67, x43_70, x43_71, x43_72, x43_73, x43_75, x43_78, x43_79, x43_81, x43_84, x43_85, x43_88, x43_91, x43_92, x43_93, x43_94, x43_95, x43_97, x43_98, x43_99, x43_101, x43_104, x43_107, x43_108, x43_109, x43_112, x43_115, x43_116, x43_119, x43_120, x43_121, x43_122, x43_124, x43_127, x43_128, x43_130, x43_133, x43_134, x43_135, x43_137, x43_138, x43_141, x43_142, x43_143, x43_145, x43_148, x43_149, x43_151, x43_154, x43_155, x43_156, x43_158, x43_159, x43_162, x43_163, x43_164, x43_166, x43_169, x43_170, x43_173, x43_176, x43_177, x43_178, x43_181, ↓reduceIte, Bool.false_eq_true, Nat.reduceAdd, Nat.reduceLT, Nat.reduceLeDiff, Nat.reduceSub, Nat.reduceEqDiff, Int.reduceToNat, Int.reduceEq, Int.reduceLT, Int.reduceLE, Int.reduceAdd, Int.reduceSub, zg, zI, zJ, zR, zst, zkl, zn, zcat, zok, zraw, List.length_cons, List.length_nil, Option.toList, List.nil_append, List.cons_append, true_and, and_true, if_true, if_false, ne_eq, not_true, not_false_eq_true, and_self, true_or, or_true, false_or, or_false, false_and, and_false]
        exact hQ μ5 f5 g4 g0
      | inr x =>
        intro μ5 H5
        simp only [x43_0, x43_1, x43_4, x43_7, x43_8, x43_11, x43_12, x43_13, x43_14, x43_16, x43_19, x43_20, x43_23, x43_26, x43_27, x43_28, x43_29, x43_31, x43_34, x43_37, x43_38, x43_39, x43_40, x43_42, x43_45, x43_48, x43_49, x43_50, x43_51, x43_52, x43_55, x43_58, x43_59, x43_60, x43_63, x43_66, x43_67, x43_70, x43_71, x43_72, x43_73, x43_75, x43_78, x43_79, x43_81, x43_84, x43_85, x43_88, x43_91, x43_92, x43_93, x43_94, x43_95, x43_97, x43_98, x43_99, x43_101, x43_104, x43_107, x43_108, x43_109, x43_112, x43_115, x43_116, x43_119, x43_120, x43_121, x43_122, x43_124, x43_127, x43_128, x43_130, x43_133, x43_134, x43_135, x43_137, x43_138, x43_141, x43_142, x43_143, x43_145, x43_148, x43_149, x43_151, x43_154, x43_155, x43_156, x43_158, x43_159, x43_162, x43_163, x43_164, x43_166, x43_169, x43_170, x43_173, x43_176, x43_177, x43_178, x43_181, ↓reduceIte, Bool.false_eq_true, Nat.reduceAdd, Nat.reduceLT, Nat.reduceLeDiff, Nat.reduceSub, Nat.reduceEqDiff, Int.reduceToNat, Int.reduceEq, Int.reduceLT, Int.reduceLE, Int.reduceAdd, Int.reduceSub, zg, zI, zJ, zR, zst, zkl, zn, zcat, zok, zraw, List.length_cons, List.length_nil, Option.toList, List.nil_append, List.cons_append, true_and, and_true, if_true, if_false, ne_eq, not_true, not_false_eq_true, and_self, true_or, or_true, false_or, or_false, false_and, and_false]
        exact hQ μ5 H5
  · rw [nx_ge h4] at hQ
    simp only [x43_0, x43_1, x43_4, x43_7, x43_8, x43_11, x43_12, x43_13, x43_14, x43_16, x43_19, x43_20, x43_23, x43_26, x43_27, x43_28, x43_29, x43_31, x43_34, x43_37, x43_38, x43_39, x43_40, x43_42, x43_45, x43_48, x43_49, x43_50, x43_51, x43_52, x43_55, x43_58, x43_59, x43_60, x43_63, x43_66, x43_67, x43_70, x43_71, x43_72, x43_73, x43_75, x43_78, x43_79, x43_81, x43_84, x43_85, x43_88, x43_91, x43_92, x43_93, x43_94, x43_95, x43_97, x43_98, x43_99, x43_101, x43_104, x43_107, x43_108, x43_109, x43_112, x43_115, x43_116, x43_119, x43_120, x43_121, x43_122, x43_124, x43_127, x43_128, x43_130, x43_133, x43_134, x43_135, x43_137, x43_138, x43_141, x43_142, x43_143, x43_145, x43_148, x43_149, x43_151, x43_154, x43_155, x43_156, x43_158, x43_159, x43_162, x43_163, x43_164, x43_166, x43_169, x43_170, x43_173, x43_176, x43_177, x43_178, x43_181, ↓reduceIte, Bool.false_eq_true, Nat.reduceAdd, Nat.reduceLT, Nat.reduceLeDiff, Nat.reduceSub, Nat.reduceEqDiff, Int.reduceToNat, Int.reduceEq, Int.reduceLT, Int.reduceLE, Int.reduceAdd, Int.reduceSub, zg, zI, zJ, zR, zst, zkl, zn, zcat, zok, zraw, List.length_cons, List.length_nil, Option.toList, List.nil_append, List.cons_append, true_and, and_true, if_true, if_false, ne_eq, not_true, not_false_eq_true, and_self, true_or, or_true, false_or, or_false, false_and, and_false]
    exact hQ μ2 (h.1.trans (f2.mono (by unfold RA; simp))) g4 g0
/-- code that came behind lies there -/
theorem cAt_PE {p a : Nat} {e : List (Int × Int)} (hE : PE U p a e μ0 μ) (hl : a + e.length ≤ 400) : cAt (μ (U + 5)) (a : Int) ((a + e.length : Nat) : Int) e := by
  refine ⟨by omega, by omega, by omega, fun i hi => ?_⟩
  rw [Int.toNat_natCast]; exact hE.2.2.2.2.2.2 i hi
theorem PM_L {q cs w : Nat} {c : zC} {μ1 μ' : zM} (hr : RdC θ U) (h : PM W U cs π μ) (hE : PE U q cs (enC c) μ μ1) (hc : 1 ≤ c.length) (hl : cs + c.length ≤ 400)
    (hf : ∀ a, a ≠ U + 6 → a ≠ U + 7 → μ' a = μ1 a) (h6 : μ' (U + 6) = zup (μ1 (U + 6)) w (cs : Nat)) (h7 : μ' (U + 7) = zup (μ1 (U + 7)) w ((cs + c.length : Nat) : Int)) : PM W U (cs + c.length) (upL π w c) μ' := by
  have h1 := PM_E hr h hE
  rw [enC_len] at h1
  have hat := cAt_PE hE (by rw [enC_len]; exact hl)
  rw [enC_len] at hat
  obtain ⟨g1, g2, g3, g4, g5⟩ := h1
  have e : ∀ k, k ≠ 6 → k ≠ 7 → μ' (U + k) = μ1 (U + k) := fun k k6 k7 => hf _ (by omega) (by omega)
  have e0 : μ' U = μ1 U := hf _ (by omega) (by omega)
  refine ⟨?_, ?_, ?_, ?_, ?_⟩
  · rw [e 1 (by omega) (by omega)]; exact g1
  · rw [e0, e 2 (by omega) (by omega), e 3 (by omega) (by omega), e 4 (by omega) (by omega)]; exact g2
  · intro k hk
    rw [h6, h7, e 5 (by omega) (by omega)]
    unfold pL upL zup
    simp only
    by_cases kw : k = w
    · simp only [if_pos kw]
      exact ⟨by omega, hat, Int.le_refl _⟩
    · simp only [if_neg kw]
      exact g3 k hk
  · rw [e 5 (by omega) (by omega), e 8 (by omega) (by omega), e 9 (by omega) (by omega), e 10 (by omega) (by omega)]; exact g4
  · rw [e0]; exact g5
theorem cLawT {d p w : Nat} {x2 : zV} (hr : RdC θ U) (hd : 24 ≤ d) (hp : p ≤ Z) (kk : 26 ≤ K p ∧ K p ≤ 29) (hw : w = K p - 26) (hT : TK K V W st Z μ) (h : PT W st U p π μ0 μ)
    (hQ : cRQ (RA U) st μ0 θ Q 0 (lawG K V p π) (fun q π' μ' => PT W st U q π' μ0 μ')) : Ex d 47 0 [vr 60, vi (w : Nat), x2] [] θ μ Q := by
  have hr' := hr
  obtain ⟨hc, hU, hu, h60⟩ := hr'
  have hd0 : 0 < d := by omega
  have w1 : (0 : Int) ≤ (w : Int) := by omega
  have w2 : (w : Int) < 4 := by omega
  have hEA : ∀ a ∈ [60, U, U + 5], a ∈ RA U := by unfold RA; simp
  have h6A : ∀ a ∈ [60], a ∈ RA U := by unfold RA; simp
  have hz := hT.1.1
  unfold lawG at hQ
  obtain ⟨hf, h3, h4', hF, cs, hcs, hM⟩ := h
  have e16 : μ U 16 = (cs : Int) := hM.2.2.2.2
  simp only [x47_0, x47_1, x47_4, x47_7, x47_8, x47_9, x47_12, x47_15, x47_16, x47_17, x47_20, x47_23, x47_24, x47_25, x47_28, x47_31, x47_32, x47_33, x47_34, x47_37, x47_40, x47_41, x47_42, x47_43, x47_44, x47_47, x47_50, x47_51, x47_52, x47_55, x47_58, x47_59, x47_60, x47_61, x47_64, ↓reduceIte, Bool.false_eq_true, Nat.reduceAdd, Nat.reduceLT, Nat.reduceLeDiff, Nat.reduceSub, Nat.reduceEqDiff, Int.reduceToNat, Int.reduceEq, Int.reduceLT, Int.reduceLE, Int.reduceAdd, Int.reduceSub, zg, zI, zJ, zR, zst, zkl, zn, zcat, zok, zraw, List.length_cons, List.length_nil, Option.toList, List.nil_append, List.cons_append, true_and, and_true, if_true, if_false, ne_eq, not_true, not_false_eq_true, and_self, true_or, or_true, false_or, or_false, false_and, and_false, b_2 hc, b_3 hc, b_9 hc, b_12 hc, b_26 hc, b_40 hc, b_46 hc, b_47 hc, b_60 hc, b_62 hc, b_63 hc, b_76 hc, b_77 hc, b_90 hc, b_91 hc, b_104 hc, b_107 hc, b_114 hc, b_115 hc, b_122 hc, b_123 hc, b_131 hc, b_60 hc, r_60_1 hc, h60, tb hU, e16, hd0]
  refine cPass (d := d - 1) hr hT hp h3 (fun h4 => ?_) (fun h4 μ2 f2 g4 g0 => ?_)
  · rw [nx_lt h4] at hQ
    simp only [bnd] at hQ
    have hp1 := hT.1.2 p h4 hp (by omega)
    have H1 : PT W st U (p + 1) π μ0 (us μ 60 (zup (μ 60) 3 ((p + 1 : Nat) : Int))) := PT_at hr ⟨hf, h3, h4', hF, cs, hcs, hM⟩ (by omega)
    have T1 := TK_60 hT (Fr.us (a := 60) (f := zup (μ 60) 3 ((p + 1 : Nat) : Int)) (by simp) Fr.refl)
    simp only [x47_0, x47_1, x47_4, x47_7, x47_8, x47_9, x47_12, x47_15, x47_16, x47_17, x47_20, x47_23, x47_24, x47_25, x47_28, x47_31, x47_32, x47_33, x47_34, x47_37, x47_40, x47_41, x47_42, x47_43, x47_44, x47_47, x47_50, x47_51, x47_52, x47_55, x47_58, x47_59, x47_60, x47_61, x47_64, ↓reduceIte, Bool.false_eq_true, Nat.reduceAdd, Nat.reduceLT, Nat.reduceLeDiff, Nat.reduceSub, Nat.reduceEqDiff, Int.reduceToNat, Int.reduceEq, Int.reduceLT, Int.reduceLE, Int.reduceAdd, Int.reduceSub, zg, zI, zJ, zR, zst, zkl, zn, zcat, zok, zraw, List.length_cons, List.length_nil, Option.toList, List.nil_append, List.cons_append, true_and, and_true, if_true, if_false, ne_eq, not_true, not_false_eq_true, and_self, true_or, or_true, false_or, or_false, false_and, and_false, b_60 hc, hd0]
    refine cExpect (d := d - 1) (k := 5) (A := RA U) hr (by omega) T1 hp1 H1.2.1 H1.1 (by unfold RA; simp) ?_
    unfold expG at hQ ⊢
    by_cases k5 : K (p + 1) = 5
    · rw [if_pos k5] at hQ ⊢
      by_cases h5 : p + 1 < 400
      · rw [nx_lt h5] at hQ ⊢
        have hp2 := hT.1.2 (p + 1) h5 hp1 (by omega)
        intro μ2 e2
        have H2 : PT W st U (p + 1 + 1) π μ0 μ2 := by rw [e2]; exact PT_at hr H1 (by omega)
        have T2 : TK K V W st Z μ2 := by rw [e2]; exact TK_60 T1 (Fr.us (by simp) Fr.refl)
        have M2 : PM W U cs π μ2 := by rw [e2]; exact PM_60 hr (PM_60 hr hM (Fr.us (by simp) Fr.refl)) (Fr.us (by simp) Fr.refl)
        clear e2
        simp only [bnd] at hQ
        simp only [x47_0, x47_1, x47_4, x47_7, x47_8, x47_9, x47_12, x47_15, x47_16, x47_17, x47_20, x47_23, x47_24, x47_25, x47_28, x47_31, x47_32, x47_33, x47_34, x47_37, x47_40, x47_41, x47_42, x47_43, x47_44, x47_47, x47_50, x47_51, x47_52, x47_55, x47_58, x47_59, x47_60, x47_61, x47_64, ↓reduceIte, Bool.false_eq_true, Nat.reduceAdd, Nat.reduceLT, Nat.reduceLeDiff, Nat.reduceSub, Nat.reduceEqDiff, Int.reduceToNat, Int.reduceEq, Int.reduceLT, Int.reduceLE, Int.reduceAdd, Int.reduceSub, zg, zI, zJ, zR, zst, zkl, zn, zcat, zok, zraw, List.length_cons, List.length_nil, Option.toList, List.nil_append, List.cons_append, true_and, and_true, if_true, if_false, ne_eq, not_true, not_false_eq_true, and_self, true_or, or_true, false_or, or_false, false_and, and_false, b_60 hc, hd0]
        have hE := okG_E hT.1 hT.2.1 hp2
        refine cSum (d := d - 1) (μ0 := μ2) (a := cs) hr hp2 (by omega) (by omega) (PE_refl H2.2.1 M2.2.2.2.2) T2 ?_
        generalize rdE K V (p + 1 + 1) = r at hQ hE ⊢
        cases r with
        | inl e =>
          intro μ3 f3 g4 g0
          simp only [x47_0, x47_1, x47_4, x47_7, x47_8, x47_9, x47_12, x47_15, x47_16, x47_17, x47_20, x47_23, x47_24, x47_25, x47_28, x47_31, x47_32, x47_33, x47_34, x47_37, x47_40, x47_41, x47_42, x47_43, x47_44, x47_47, x47_50, x47_51, x47_52, x47_55, x47_58, x47_59, x47_60, x47_61, x47_64, ↓reduceIte, Bool.false_eq_true, Nat.reduceAdd, Nat.reduceLT, Nat.reduceLeDiff, Nat.reduceSub, Nat.reduceEqDiff, Int.reduceToNat, Int.reduceEq, Int.reduceLT, Int.reduceLE, Int.reduceAdd, Int.reduceSub, zg, zI, zJ, zR, zst, zkl, zn, zcat, zok, zraw, List.length_cons, List.length_nil, Option.toList, List.nil_append, List.cons_append, true_and, and_true, if_true, if_false, ne_eq, not_true, not_false_eq_true, and_self, true_or, or_true, false_or, or_false, false_and, and_false]
          exact hQ μ3 (H2.1.trans (f3.mono hEA)) g4 g0
        | inr x =>
          obtain ⟨hx1, hx2, hx3, hx4⟩ := hE
          intro μ3 E3
          have hl : cs + x.2.length ≤ 400 := by omega
          have M3 := PM_L (w := w) (μ' := us (us μ3 (U + 6) (zup (μ3 (U + 6)) w (cs : Nat))) (U + 7) (zup (us μ3 (U + 6) (zup (μ3 (U + 6)) w (cs : Nat)) (U + 7)) w ((cs + x.2.length : Nat) : Int))) hr M2 E3 (wfc_ne hx4) hl (fun b b6 b7 => by rw [us_ne b7, us_ne b6]) (by rw [us_ne (by omega), us_same]) (by rw [us_same, us_ne (show U + 7 ≠ U + 6 by omega)])
          have e163 : μ3 U 16 = ((cs + x.2.length : Nat) : Int) := by rw [E3.2.2.2.1, enC_len]
          have T3 := TK_E hr T2 E3.1
          have n1 : U ≠ U + 6 := by omega
          simp only [bnd] at hQ
          simp only [x47_0, x47_1, x47_4, x47_7, x47_8, x47_9, x47_12, x47_15, x47_16, x47_17, x47_20, x47_23, x47_24, x47_25, x47_28, x47_31, x47_32, x47_33, x47_34, x47_37, x47_40, x47_41, x47_42, x47_43, x47_44, x47_47, x47_50, x47_51, x47_52, x47_55, x47_58, x47_59, x47_60, x47_61, x47_64, ↓reduceIte, Bool.false_eq_true, Nat.reduceAdd, Nat.reduceLT, Nat.reduceLeDiff, Nat.reduceSub, Nat.reduceEqDiff, Int.reduceToNat, Int.reduceEq, Int.reduceLT, Int.reduceLE, Int.reduceAdd, Int.reduceSub, zg, zI, zJ, zR, zst, zkl, zn, zcat, zok, zraw, List.length_cons, List.length_nil, Option.toList, List.nil_append, List.cons_append, true_and, and_true, if_true, if_false, ne_eq, not_true, not_false_eq_true, and_self, true_or, or_true, false_or, or_false, false_and, and_false, b_2 hc, b_3 hc, b_9 hc, b_12 hc, b_26 hc, b_40 hc, b_46 hc, b_47 hc, b_60 hc, b_62 hc, b_63 hc, b_76 hc, b_77 hc, b_90 hc, b_91 hc, b_104 hc, b_107 hc, b_114 hc, b_115 hc, b_122 hc, b_123 hc, b_131 hc, b_60 hc, r_60_1 hc, h60, tb hU, tr_5 hU, tr_6 hU, tx_6 hU w1 w2, tx_7 hU w1 w2, Nat.le_add_right_of_le (Tq2 hU), ua_eq, us_ne n1, e163, Int.toNat_natCast, hd0]
          have H4 : PT W st U x.1 (upL π w x.2) μ0 (us (us μ3 (U + 6) (zup (μ3 (U + 6)) w (cs : Nat))) (U + 7) (zup (us μ3 (U + 6) (zup (μ3 (U + 6)) w (cs : Nat)) (U + 7)) w ((cs + x.2.length : Nat) : Int))) := by
            refine ⟨Fr.us (by unfold RA; simp) (Fr.us (by unfold RA; simp) (H2.1.trans (E3.1.mono hEA))), ?_, ?_, ?_, cs + x.2.length, by omega, M3⟩
            · rw [us_ne (by omega), us_ne (by omega)]; exact E3.2.1
            · rw [us_ne (by omega), us_ne (by omega), E3.2.2.1 4 (by decide)]; exact H2.2.2.1
            · exact LF_fr H2.2.2.2.1 (by rw [us_ne (by omega), us_ne (by omega), E3.2.2.1 5 (by decide)]) (by rw [us_ne (by omega), us_ne (by omega), E3.2.2.1 6 (by decide)])
          have T4 := TK_T (μ' := (us (us μ3 (U + 6) (zup (μ3 (U + 6)) w (cs : Nat))) (U + 7) (zup (us μ3 (U + 6) (zup (μ3 (U + 6)) w (cs : Nat)) (U + 7)) w ((cs + x.2.length : Nat) : Int)))) hr T3 (Fr.us (by unfold RA; simp) (Fr.us (by unfold RA; simp) Fr.refl))
          rw [← hw] at hQ
          change cRQ (RA U) st μ0 θ Q 0 (expG K 4 x.1 (upL π w x.2)) _ at hQ
          refine cSemi (d := d - 1) (A := []) hr (by omega) hx2 T4 H4 ?_
          generalize expG K 4 x.1 (upL π w x.2) = r at hQ ⊢
          cases r with
          | inl e =>
            intro μ5 f5 g4 g0
            simp only [x47_0, x47_1, x47_4, x47_7, x47_8, x47_9, x47_12, x47_15, x47_16, x47_17, x47_20, x47_23, x47_24, x47_25, x47_28, x47_31, x47_32, x47_33, x47_34, x47_37, x47_40, x47_41, x47_42, x47_43, x47_44, x47_47, x47_50, x47_51, x47_52, x47_55, x47_58, x47_59, x47_60, x47_61, x47_64, ↓reduceIte, Bool.false_eq_true, Nat.reduceAdd, Nat.reduceLT, Nat.reduceLeDiff, Nat.reduceSub, Nat.reduceEqDiff, Int.reduceToNat, Int.reduceEq, Int.reduceLT, Int.reduceLE, Int.reduceAdd, Int.reduceSub, zg, zI, zJ, zR, zst, zkl, zn, zcat, zok, zraw, List.length_cons, List.length_nil, Option.toList, List.nil_append, List.cons_append, true_and, and_true, if_true, if_false, ne_eq, not_true, not_false_eq_true, and_self, true_or, or_true, false_or, or_false, false_and, and_false]
            exact hQ μ5 f5 g4 g0
          | inr y =>
            intro μ5 H5
            simp only [x47_0, x47_1, x47_4, x47_7, x47_8, x47_9, x47_12, x47_15, x47_16, x47_17, x47_20, x47_23, x47_24, x47_25, x47_28, x47_31, x47_32, x47_33, x47_34, x47_37, x47_40, x47_41, x47_42, x47_43, x47_44, x47_47, x47_50, x47_51, x47_52, x47_55, x47_58, x47_59, x47_60, x47_61, x47_64, ↓reduceIte, Bool.false_eq_true, Nat.reduceAdd, Nat.reduceLT, Nat.reduceLeDiff, Nat.reduceSub, Nat.reduceEqDiff, Int.reduceToNat, Int.reduceEq, Int.reduceLT, Int.reduceLE, Int.reduceAdd, Int.reduceSub, zg, zI, zJ, zR, zst, zkl, zn, zcat, zok, zraw, List.length_cons, List.length_nil, Option.toList, List.nil_append, List.cons_append, true_and, and_true, if_true, if_false, ne_eq, not_true, not_false_eq_true, and_self, true_or, or_true, false_or, or_false, false_and, and_false]
            exact hQ μ5 H5
      · rw [nx_ge h5] at hQ ⊢
        intro μ2 f2 g4 g0
        simp only [x47_0, x47_1, x47_4, x47_7, x47_8, x47_9, x47_12, x47_15, x47_16, x47_17, x47_20, x47_23, x47_24, x47_25, x47_28, x47_31, x47_32, x47_33, x47_34, x47_37, x47_40, x47_41, x47_42, x47_43, x47_44, x47_47, x47_50, x47_51, x47_52, x47_55, x47_58, x47_59, x47_60, x47_61, x47_64, ↓reduceIte, Bool.false_eq_true, Nat.reduceAdd, Nat.reduceLT, Nat.reduceLeDiff, Nat.reduceSub, Nat.reduceEqDiff, Int.reduceToNat, Int.reduceEq, Int.reduceLT, Int.reduceLE, Int.reduceAdd, Int.reduceSub, zg, zI, zJ, zR, zst, zkl, zn, zcat, zok, zraw, List.length_cons, List.length_nil, Option.toList, List.nil_append, List.cons_append, true_and, and_true, if_true, if_false, ne_eq, not_true, not_false_eq_true, and_self, true_or, or_true, false_or, or_false, false_and, and_false]
        exact hQ μ2 f2 g4 g0
    · rw [if_neg k5] at hQ ⊢
      intro μ2 f2 g4 g0
      simp only [x47_0, x47_1, x47_4, x47_7, x47_8, x47_9, x47_12, x47_15, x47_16, x47_17, x47_20, x47_23, x47_24, x47_25, x47_28, x47_31, x47_32, x47_33, x47_34, x47_37, x47_40, x47_41, x47_42, x47_43, x47_44, x47_47, x47_50, x47_51, x47_52, x47_55, x47_58, x47_59, x47_60, x47_61, x47_64, ↓reduceIte, Bool.false_eq_true, Nat.reduceAdd, Nat.reduceLT, Nat.reduceLeDiff, Nat.reduceSub, Nat.reduceEqDiff, Int.reduceToNat, Int.reduceEq, Int.reduceLT, Int.reduceLE, Int.reduceAdd, Int.reduceSub, zg, zI, zJ, zR, zst, zkl, zn, zcat, zok, zraw, List.length_cons, List.length_nil, Option.toList, List.nil_append, List.cons_append, true_and, and_true, if_true, if_false, ne_eq, not_true, not_false_eq_true, and_self, true_or, or_true, false_or, or_false, false_and, and_false]
      exact hQ μ2 f2 g4 g0
  · rw [nx_ge h4] at hQ
    simp only [x47_0, x47_1, x47_4, x47_7, x47_8, x47_9, x47_12, x47_15, x47_16, x47_17, x47_20, x47_23, x47_24, x47_25, x47_28, x47_31, x47_32, x47_33, x47_34, x47_37, x47_40, x47_41, x47_42, x47_43, x47_44, x47_47, x47_50, x47_51, x47_52, x47_55, x47_58, x47_59, x47_60, x47_61, x47_64, ↓reduceIte, Bool.false_eq_true, Nat.reduceAdd, Nat.reduceLT, Nat.reduceLeDiff, Nat.reduceSub, Nat.reduceEqDiff, Int.reduceToNat, Int.reduceEq, Int.reduceLT, Int.reduceLE, Int.reduceAdd, Int.reduceSub, zg, zI, zJ, zR, zst, zkl, zn, zcat, zok, zraw, List.length_cons, List.length_nil, Option.toList, List.nil_append, List.cons_append, true_and, and_true, if_true, if_false, ne_eq, not_true, not_false_eq_true, and_self, true_or, or_true, false_or, or_false, false_and, and_false]
    exact hQ μ2 (hf.trans (f2.mono h6A)) g4 g0
theorem PM_U {q cs w : Nat} {ls : List zL} {μ1 μ' : zM} (hr : RdC θ U) (h : PM W U cs π μ) (hE : PE U q cs (enR ls false false) μ μ1) (hn : (pU π w).length < 6) (hl : cs + (enR ls false false).length ≤ 400)
    (hf : ∀ a, a ≠ U + 8 → a ≠ U + 9 → a ≠ U + 10 → μ' a = μ1 a) (h8 : μ' (U + 8) = zup (μ1 (U + 8)) (6 * w + (pU π w).length) (cs : Nat)) (h9 : μ' (U + 9) = zup (μ1 (U + 9)) (6 * w + (pU π w).length) ((cs + (enR ls false false).length : Nat) : Int))
    (h10 : μ' (U + 10) = zup (μ1 (U + 10)) w (((pU π w).length + 1 : Nat) : Int)) (hlen : ∀ k, (pU π k).length ≤ 6) : PM W U (cs + (enR ls false false).length) (upU π w ls) μ' := by
  have h1 := PM_E hr h hE
  have hat := cAt_PE hE hl
  obtain ⟨g1, g2, g3, g4, g5⟩ := h1
  have e : ∀ k, k ≠ 8 → k ≠ 9 → k ≠ 10 → μ' (U + k) = μ1 (U + k) := fun k k6 k7 k8 => hf _ (by omega) (by omega) (by omega)
  have e0 : μ' U = μ1 U := hf _ (by omega) (by omega) (by omega)
  refine ⟨?_, ?_, ?_, ?_, ?_⟩
  · rw [e 1 (by omega) (by omega) (by omega)]; exact g1
  · rw [e0, e 2 (by omega) (by omega) (by omega), e 3 (by omega) (by omega) (by omega), e 4 (by omega) (by omega) (by omega)]; exact g2
  · rw [e 5 (by omega) (by omega) (by omega), e 6 (by omega) (by omega) (by omega), e 7 (by omega) (by omega) (by omega)]; exact g3
  · intro k hk
    rw [h8, h9, h10, e 5 (by omega) (by omega) (by omega)]
    have hk6 := hlen k
    by_cases kw : k = w
    · subst kw
      have eU : pU (upU π k ls) k = pU π k ++ [ls] := zup_same rfl
      rw [eU]
      refine ⟨by rw [zup_same rfl]; simp, fun i hi => ?_⟩
      by_cases hil : i < (pU π k).length
      · rw [zup_ne (by omega), zup_ne (by omega), List.getElem_append_left hil]
        exact (g4 k hk).2 i hil
      · have : i = (pU π k).length := by simp at hi; omega
        subst this
        rw [zup_same rfl, zup_same rfl, List.getElem_append_right (Nat.le_refl _)]
        simp
        exact hat
    · have eU : pU (upU π w ls) k = pU π k := zup_ne kw
      rw [eU]
      refine ⟨by rw [zup_ne kw]; exact (g4 k hk).1, fun i hi => ?_⟩
      rw [zup_ne (by omega), zup_ne (by omega)]
      exact (g4 k hk).2 i hi
  · rw [e0]; exact g5
theorem w32_r {w m : Nat} (h : w < 3) (h2 : m < 6) : w32 (w32 ((w : Int) * 6) + (m : Int)) = ((6 * w + m : Nat) : Int) := by
  rw [w32_i (x := (w : Int) * 6) (by omega) (by omega), w32_i (by omega) (by omega)]; omega
theorem cRuleT {d p w : Nat} {x2 x3 : zV} (hr : RdC θ U) (hd : 26 ≤ d) (hp : p ≤ Z) (kk : 23 ≤ K p ∧ K p ≤ 25) (hw : w = K p - 23) (hT : TK K V W st Z μ) (h : PT W st U p π μ0 μ) (hlen : ∀ k, (pU π k).length ≤ 6)
    (hQ : cRQ (RA U) st μ0 θ Q 0 (ruleG K V p π) (fun q π' μ' => PT W st U q π' μ0 μ')) : Ex d 46 0 [vr 60, vi (w : Nat), x2, x3] [] θ μ Q := by
  have hr' := hr
  obtain ⟨hc, hU, hu, h60⟩ := hr'
  have hd0 : 0 < d := by omega
  have w1 : (0 : Int) ≤ (w : Int) := by omega
  have w2 : (w : Int) < 3 := by omega
  have hEA : ∀ a ∈ [60, U, U + 5], a ∈ RA U := by unfold RA; simp
  have h6A : ∀ a ∈ [60], a ∈ RA U := by unfold RA; simp
  have hz := hT.1.1
  unfold ruleG at hQ
  obtain ⟨hf, h3, h4', hF, cs, hcs, hM⟩ := h
  have e16 : μ U 16 = (cs : Int) := hM.2.2.2.2
  have e10 : μ (U + 10) w = ((pU π w).length : Nat) := (hM.2.2.2.1 w (by omega)).1
  rw [← hw] at hQ
  by_cases h6 : 6 ≤ (pU π w).length
  · rw [if_pos h6] at hQ
    have h6' : ¬ (((pU π w).length : Nat) : Int) < 6 := by omega
    simp only [x46_0, x46_1, x46_4, x46_7, x46_8, x46_9, x46_10, x46_11, x46_13, x46_16, x46_17, x46_18, x46_21, x46_22, x46_23, x46_26, x46_29, x46_30, x46_31, x46_34, x46_37, x46_38, x46_40, x46_43, x46_46, x46_47, x46_50, x46_53, x46_54, x46_55, x46_56, x46_59, x46_62, x46_63, x46_65, x46_66, x46_67, x46_68, x46_69, x46_70, x46_71, x46_74, x46_77, x46_78, x46_80, x46_81, x46_82, x46_83, x46_84, x46_87, x46_90, x46_91, x46_92, x46_95, x46_98, x46_99, x46_100, x46_101, x46_102, x46_103, x46_104, x46_105, x46_106, x46_109, ↓reduceIte, Bool.false_eq_true, Nat.reduceAdd, Nat.reduceLT, Nat.reduceLeDiff, Nat.reduceSub, Nat.reduceEqDiff, Int.reduceToNat, Int.reduceEq, Int.reduceLT, Int.reduceLE, Int.reduceAdd, Int.reduceSub, zg, zI, zJ, zR, zst, zkl, zn, zcat, zok, zraw, List.length_cons, List.length_nil, Option.toList, List.nil_append, List.cons_append, true_and, and_true, if_true, if_false, ne_eq, not_true, not_false_eq_true, and_self, true_or, or_true, false_or, or_false, false_and, and_false, b_2 hc, b_3 hc, b_9 hc, b_12 hc, b_26 hc, b_40 hc, b_46 hc, b_47 hc, b_60 hc, b_62 hc, b_63 hc, b_76 hc, b_77 hc, b_90 hc, b_91 hc, b_104 hc, b_107 hc, b_114 hc, b_115 hc, b_122 hc, b_123 hc, b_131 hc, b_60 hc, r_60_1 hc, h60, tb hU, tr_9 hU, tx_10 hU w1 w2, e10, h6', Int.toNat_natCast, hd0]
    refine cRefuse (d := d - 1) hr hT hp h3 (fun μ3 f3 g4 g0 => ?_)
    simp only [x46_0, x46_1, x46_4, x46_7, x46_8, x46_9, x46_10, x46_11, x46_13, x46_16, x46_17, x46_18, x46_21, x46_22, x46_23, x46_26, x46_29, x46_30, x46_31, x46_34, x46_37, x46_38, x46_40, x46_43, x46_46, x46_47, x46_50, x46_53, x46_54, x46_55, x46_56, x46_59, x46_62, x46_63, x46_65, x46_66, x46_67, x46_68, x46_69, x46_70, x46_71, x46_74, x46_77, x46_78, x46_80, x46_81, x46_82, x46_83, x46_84, x46_87, x46_90, x46_91, x46_92, x46_95, x46_98, x46_99, x46_100, x46_101, x46_102, x46_103, x46_104, x46_105, x46_106, x46_109, ↓reduceIte, Bool.false_eq_true, Nat.reduceAdd, Nat.reduceLT, Nat.reduceLeDiff, Nat.reduceSub, Nat.reduceEqDiff, Int.reduceToNat, Int.reduceEq, Int.reduceLT, Int.reduceLE, Int.reduceAdd, Int.reduceSub, zg, zI, zJ, zR, zst, zkl, zn, zcat, zok, zraw, List.length_cons, List.length_nil, Option.toList, List.nil_append, List.cons_append, true_and, and_true, if_true, if_false, ne_eq, not_true, not_false_eq_true, and_self, true_or, or_true, false_or, or_false, false_and, and_false]
    exact hQ μ3 (hf.trans (f3.mono h6A)) g4 g0
  · rw [if_neg h6] at hQ
    have h6' : (((pU π w).length : Nat) : Int) < 6 := by omega
    simp only [x46_0, x46_1, x46_4, x46_7, x46_8, x46_9, x46_10, x46_11, x46_13, x46_16, x46_17, x46_18, x46_21, x46_22, x46_23, x46_26, x46_29, x46_30, x46_31, x46_34, x46_37, x46_38, x46_40, x46_43, x46_46, x46_47, x46_50, x46_53, x46_54, x46_55, x46_56, x46_59, x46_62, x46_63, x46_65, x46_66, x46_67, x46_68, x46_69, x46_70, x46_71, x46_74, x46_77, x46_78, x46_80, x46_81, x46_82, x46_83, x46_84, x46_87, x46_90, x46_91, x46_92, x46_95, x46_98, x46_99, x46_100, x46_101, x46_102, x46_103, x46_104, x46_105, x46_106, x46_109, ↓reduceIte, Bool.false_eq_true, Nat.reduceAdd, Nat.reduceLT, Nat.reduceLeDiff, Nat.reduceSub, Nat.reduceEqDiff, Int.reduceToNat, Int.reduceEq, Int.reduceLT, Int.reduceLE, Int.reduceAdd, Int.reduceSub, zg, zI, zJ, zR, zst, zkl, zn, zcat, zok, zraw, List.length_cons, List.length_nil, Option.toList, List.nil_append, List.cons_append, true_and, and_true, if_true, if_false, ne_eq, not_true, not_false_eq_true, and_self, true_or, or_true, false_or, or_false, false_and, and_false, b_2 hc, b_3 hc, b_9 hc, b_12 hc, b_26 hc, b_40 hc, b_46 hc, b_47 hc, b_60 hc, b_62 hc, b_63 hc, b_76 hc, b_77 hc, b_90 hc, b_91 hc, b_104 hc, b_107 hc, b_114 hc, b_115 hc, b_122 hc, b_123 hc, b_131 hc, b_60 hc, r_60_1 hc, h60, tb hU, tr_9 hU, tx_10 hU w1 w2, e10, e16, h6', Int.toNat_natCast, hd0]
    refine cPass (d := d - 1) hr hT hp h3 (fun h4 => ?_) (fun h4 μ2 f2 g4 g0 => ?_)
    · rw [nx_lt h4] at hQ
      simp only [bnd] at hQ
      have hp1 := hT.1.2 p h4 hp (by omega)
      have H1 : PT W st U (p + 1) π μ0 (us μ 60 (zup (μ 60) 3 ((p + 1 : Nat) : Int))) := PT_at hr ⟨hf, h3, h4', hF, cs, hcs, hM⟩ (by omega)
      have T1 := TK_60 hT (Fr.us (a := 60) (f := zup (μ 60) 3 ((p + 1 : Nat) : Int)) (by simp) Fr.refl)
      simp only [x46_0, x46_1, x46_4, x46_7, x46_8, x46_9, x46_10, x46_11, x46_13, x46_16, x46_17, x46_18, x46_21, x46_22, x46_23, x46_26, x46_29, x46_30, x46_31, x46_34, x46_37, x46_38, x46_40, x46_43, x46_46, x46_47, x46_50, x46_53, x46_54, x46_55, x46_56, x46_59, x46_62, x46_63, x46_65, x46_66, x46_67, x46_68, x46_69, x46_70, x46_71, x46_74, x46_77, x46_78, x46_80, x46_81, x46_82, x46_83, x46_84, x46_87, x46_90, x46_91, x46_92, x46_95, x46_98, x46_99, x46_100, x46_101, x46_102, x46_103, x46_104, x46_105, x46_106, x46_109, ↓reduceIte, Bool.false_eq_true, Nat.reduceAdd, Nat.reduceLT, Nat.reduceLeDiff, Nat.reduceSub, Nat.reduceEqDiff, Int.reduceToNat, Int.reduceEq, Int.reduceLT, Int.reduceLE, Int.reduceAdd, Int.reduceSub, zg, zI, zJ, zR, zst, zkl, zn, zcat, zok, zraw, List.length_cons, List.length_nil, Option.toList, List.nil_append, List.cons_append, true_and, and_true, if_true, if_false, ne_eq, not_true, not_false_eq_true, and_self, true_or, or_true, false_or, or_false, false_and, and_false, b_60 hc, hd0]
      refine cExpect (d := d - 1) (k := 32) (A := RA U) hr (by omega) T1 hp1 H1.2.1 H1.1 (by unfold RA; simp) ?_
      unfold expG at hQ ⊢
      by_cases k5 : K (p + 1) = 32
      · rw [if_pos k5] at hQ ⊢
        by_cases h5 : p + 1 < 400
        · rw [nx_lt h5] at hQ ⊢
          have hp2 := hT.1.2 (p + 1) h5 hp1 (by omega)
          intro μ2 e2
          have H2 : PT W st U (p + 1 + 1) π μ0 μ2 := by rw [e2]; exact PT_at hr H1 (by omega)
          have T2 : TK K V W st Z μ2 := by rw [e2]; exact TK_60 T1 (Fr.us (by simp) Fr.refl)
          have M2 : PM W U cs π μ2 := by rw [e2]; exact PM_60 hr (PM_60 hr hM (Fr.us (by simp) Fr.refl)) (Fr.us (by simp) Fr.refl)
          clear e2
          simp only [bnd] at hQ
          simp only [x46_0, x46_1, x46_4, x46_7, x46_8, x46_9, x46_10, x46_11, x46_13, x46_16, x46_17, x46_18, x46_21, x46_22, x46_23, x46_26, x46_29, x46_30, x46_31, x46_34, x46_37, x46_38, x46_40, x46_43, x46_46, x46_47, x46_50, x46_53, x46_54, x46_55, x46_56, x46_59, x46_62, x46_63, x46_65, x46_66, x46_67, x46_68, x46_69, x46_70, x46_71, x46_74, x46_77, x46_78, x46_80, x46_81, x46_82, x46_83, x46_84, x46_87, x46_90, x46_91, x46_92, x46_95, x46_98, x46_99, x46_100, x46_101, x46_102, x46_103, x46_104, x46_105, x46_106, x46_109, x50_0, x50_1, x50_2, x50_3, x50_4, x50_5, x50_7, x50_10, x50_13, x50_14, x50_17, x50_20, x50_21, x50_22, x50_23, x50_26, x50_27, x50_30, x50_32, x50_33, x50_36, x50_37, x50_40, x50_43, x50_44, x50_47, x50_48, x50_50, x50_53, x50_54, x50_57, x50_58, x50_59, x50_60, x50_63, x50_64, x50_67, x50_68, x50_71, x50_73, x50_74, x50_77, x50_78, x50_81, x50_84, x50_85, x50_88, x50_89, x50_91, x50_94, x50_95, x50_98, x50_99, x50_100, x50_101, x50_104, x50_105, x50_106, x50_107, x50_110, x50_113, x50_114, x50_115, x50_118, x50_121, x50_122, ↓reduceIte, Bool.false_eq_true, Nat.reduceAdd, Nat.reduceLT, Nat.reduceLeDiff, Nat.reduceSub, Nat.reduceEqDiff, Int.reduceToNat, Int.reduceEq, Int.reduceLT, Int.reduceLE, Int.reduceAdd, Int.reduceSub, zg, zI, zJ, zR, zst, zkl, zn, zcat, zok, zraw, List.length_cons, List.length_nil, Option.toList, List.nil_append, List.cons_append, true_and, and_true, if_true, if_false, ne_eq, not_true, not_false_eq_true, and_self, true_or, or_true, false_or, or_false, false_and, and_false, b_60 hc, hd0]
          have hE := okG_cd hT.1 hT.2.1 (401 - (p + 1 + 1)) (p + 1 + 1) true [] hp2 (Nat.le_refl _) (fun x hx => by cases hx) (fun hh => absurd rfl hh) (fun _ => rfl)
          refine cCond (d := d - 1) (μ0 := μ2) (a := cs) hr (by omega) (401 - (p + 1 + 1)) (p + 1 + 1) true [] [] false false 0 μ2 hp2 (Nat.le_refl _) (by omega) (by simp; omega) (fun x r hx => by simp) (PE_refl H2.2.1 M2.2.2.2.2) T2 ?_
          generalize cdG K V (401 - (p + 1 + 1)) (p + 1 + 1) true [] = r at hQ hE ⊢
          cases r with
          | inl e =>
            intro μ3 f3 g4 g0
            simp only [x46_0, x46_1, x46_4, x46_7, x46_8, x46_9, x46_10, x46_11, x46_13, x46_16, x46_17, x46_18, x46_21, x46_22, x46_23, x46_26, x46_29, x46_30, x46_31, x46_34, x46_37, x46_38, x46_40, x46_43, x46_46, x46_47, x46_50, x46_53, x46_54, x46_55, x46_56, x46_59, x46_62, x46_63, x46_65, x46_66, x46_67, x46_68, x46_69, x46_70, x46_71, x46_74, x46_77, x46_78, x46_80, x46_81, x46_82, x46_83, x46_84, x46_87, x46_90, x46_91, x46_92, x46_95, x46_98, x46_99, x46_100, x46_101, x46_102, x46_103, x46_104, x46_105, x46_106, x46_109, ↓reduceIte, Bool.false_eq_true, Nat.reduceAdd, Nat.reduceLT, Nat.reduceLeDiff, Nat.reduceSub, Nat.reduceEqDiff, Int.reduceToNat, Int.reduceEq, Int.reduceLT, Int.reduceLE, Int.reduceAdd, Int.reduceSub, zg, zI, zJ, zR, zst, zkl, zn, zcat, zok, zraw, List.length_cons, List.length_nil, Option.toList, List.nil_append, List.cons_append, true_and, and_true, if_true, if_false, ne_eq, not_true, not_false_eq_true, and_self, true_or, or_true, false_or, or_false, false_and, and_false]
            exact hQ μ3 (H2.1.trans (f3.mono hEA)) g4 g0
          | inr x =>
            obtain ⟨hx1, hx2, hx3⟩ := hE
            rintro μ3 ⟨E3, hl3⟩
            have hl : cs + (enR x.2 false false).length ≤ 400 := by omega
            have e163 : μ3 U 16 = ((cs + (enR x.2 false false).length : Nat) : Int) := E3.2.2.2.1
            have e103 : μ3 (U + 10) w = ((pU π w).length : Nat) := by rw [E3.1 (U + 10) (by simp; omega)]; exact (M2.2.2.2.1 w (by omega)).1
            have T3 := TK_E hr T2 E3.1
            have n1 : U ≠ U + 8 := by omega
            have n2 : U + 10 ≠ U + 9 := by omega
            have n3 : U + 10 ≠ U + 8 := by omega
            have n4 : U + 9 ≠ U + 8 := by omega
            have j1 : (0 : Int) ≤ ((6 * w + (pU π w).length : Nat) : Int) := by omega
            have j2 : ((6 * w + (pU π w).length : Nat) : Int) < 18 := by omega
            have hw3 : w < 3 := by omega
            have hm6 : (pU π w).length < 6 := by omega
            have hm7 : (pU π w).length < 2147483647 := by omega
            simp only [bnd] at hQ
            obtain ⟨μ4, hμ4⟩ : ∃ μ4, μ4 = us (us (us μ3 (U + 8) (zup (μ3 (U + 8)) (6 * w + (pU π w).length) (cs : Nat))) (U + 9) (zup (μ3 (U + 9)) (6 * w + (pU π w).length) ((cs + (enR x.2 false false).length : Nat) : Int))) (U + 10) (zup (μ3 (U + 10)) w (((pU π w).length + 1 : Nat) : Int)) := ⟨_, rfl⟩
            have M4 : PM W U (cs + (enR x.2 false false).length) (upU π w x.2) μ4 := by
              refine PM_U (w := w) hr M2 E3 hm6 hl ?_ ?_ ?_ ?_ hlen
              · intro b b8 b9 b10; rw [hμ4, us_ne b10, us_ne b9, us_ne b8]
              · rw [hμ4, us_ne (by omega), us_ne (by omega), us_same]
              · rw [hμ4, us_ne (by omega), us_same]
              · rw [hμ4, us_same]
            have H4 : PT W st U x.1 (upU π w x.2) μ0 μ4 := by
              refine ⟨?_, ?_, ?_, ?_, cs + (enR x.2 false false).length, hl3, M4⟩
              · rw [hμ4]; exact Fr.us (by unfold RA; simp) (Fr.us (by unfold RA; simp) (Fr.us (by unfold RA; simp) (H2.1.trans (E3.1.mono hEA))))
              · rw [hμ4, us_ne (by omega), us_ne (by omega), us_ne (by omega)]; exact E3.2.1
              · rw [hμ4, us_ne (by omega), us_ne (by omega), us_ne (by omega), E3.2.2.1 4 (by decide)]; exact H2.2.2.1
              · exact LF_fr H2.2.2.2.1 (by rw [hμ4, us_ne (by omega), us_ne (by omega), us_ne (by omega), E3.2.2.1 5 (by decide)]) (by rw [hμ4, us_ne (by omega), us_ne (by omega), us_ne (by omega), E3.2.2.1 6 (by decide)])
            have T4 : TK K V W st Z μ4 := by rw [hμ4]; exact TK_T hr T3 (Fr.us (by unfold RA; simp) (Fr.us (by unfold RA; simp) (Fr.us (by unfold RA; simp) Fr.refl)))
            simp only [x46_0, x46_1, x46_4, x46_7, x46_8, x46_9, x46_10, x46_11, x46_13, x46_16, x46_17, x46_18, x46_21, x46_22, x46_23, x46_26, x46_29, x46_30, x46_31, x46_34, x46_37, x46_38, x46_40, x46_43, x46_46, x46_47, x46_50, x46_53, x46_54, x46_55, x46_56, x46_59, x46_62, x46_63, x46_65, x46_66, x46_67, x46_68, x46_69, x46_70, x46_71, x46_74, x46_77, x46_78, x46_80, x46_81, x46_82, x46_83, x46_84, x46_87, x46_90, x46_91, x46_92, x46_95, x46_98, x46_99, x46_100, x46_101, x46_102, x46_103, x46_104, x46_105, x46_106, x46_109, ↓reduceIte, Bool.false_eq_true, Nat.reduceAdd, Nat.reduceLT, Nat.reduceLeDiff, Nat.reduceSub, Nat.reduceEqDiff, Int.reduceToNat, Int.reduceEq, Int.reduceLT, Int.reduceLE, Int.reduceAdd, Int.reduceSub, zg, zI, zJ, zR, zst, zkl, zn, zcat, zok, zraw, List.length_cons, List.length_nil, Option.toList, List.nil_append, List.cons_append, true_and, and_true, if_true, if_false, ne_eq, not_true, not_false_eq_true, and_self, true_or, or_true, false_or, or_false, false_and, and_false, b_2 hc, b_3 hc, b_9 hc, b_12 hc, b_26 hc, b_40 hc, b_46 hc, b_47 hc, b_60 hc, b_62 hc, b_63 hc, b_76 hc, b_77 hc, b_90 hc, b_91 hc, b_104 hc, b_107 hc, b_114 hc, b_115 hc, b_122 hc, b_123 hc, b_131 hc, b_60 hc, r_60_1 hc, h60, tb hU, tr_7 hU, tr_8 hU, tr_9 hU, tx_8 hU j1 j2, tx_9 hU j1 j2, tx_10 hU w1 w2, Nat.le_add_right_of_le (Tq2 hU), ua_eq, us_ne n1, us_ne n2, us_ne n3, us_ne n4, e163, e103, Int.toNat_natCast, w32_r hw3 hm6, w32_s hm7, hd0]
            rw [← hμ4]
            change cRQ (RA U) st μ0 θ Q 0 (expG K 4 x.1 (upU π w x.2)) _ at hQ
            refine cSemi (d := d - 1) (A := []) hr (by omega) hx2 T4 H4 ?_
            generalize expG K 4 x.1 (upU π w x.2) = r at hQ ⊢
            cases r with
            | inl e =>
              intro μ5 f5 g4 g0
              simp only [x46_0, x46_1, x46_4, x46_7, x46_8, x46_9, x46_10, x46_11, x46_13, x46_16, x46_17, x46_18, x46_21, x46_22, x46_23, x46_26, x46_29, x46_30, x46_31, x46_34, x46_37, x46_38, x46_40, x46_43, x46_46, x46_47, x46_50, x46_53, x46_54, x46_55, x46_56, x46_59, x46_62, x46_63, x46_65, x46_66, x46_67, x46_68, x46_69, x46_70, x46_71, x46_74, x46_77, x46_78, x46_80, x46_81, x46_82, x46_83, x46_84, x46_87, x46_90, x46_91, x46_92, x46_95, x46_98, x46_99, x46_100, x46_101, x46_102, x46_103, x46_104, x46_105, x46_106, x46_109, ↓reduceIte, Bool.false_eq_true, Nat.reduceAdd, Nat.reduceLT, Nat.reduceLeDiff, Nat.reduceSub, Nat.reduceEqDiff, Int.reduceToNat, Int.reduceEq, Int.reduceLT, Int.reduceLE, Int.reduceAdd, Int.reduceSub, zg, zI, zJ, zR, zst, zkl, zn, zcat, zok, zraw, List.length_cons, List.length_nil, Option.toList, List.nil_append, List.cons_append, true_and, and_true, if_true, if_false, ne_eq, not_true, not_false_eq_true, and_self, true_or, or_true, false_or, or_false, false_and, and_false]
              exact hQ μ5 f5 g4 g0
            | inr y =>
              intro μ5 H5
              simp only [x46_0, x46_1, x46_4, x46_7, x46_8, x46_9, x46_10, x46_11, x46_13, x46_16, x46_17, x46_18, x46_21, x46_22, x46_23, x46_26, x46_29, x46_30, x46_31, x46_34, x46_37, x46_38, x46_40, x46_43, x46_46, x46_47, x46_50, x46_53, x46_54, x46_55, x46_56, x46_59, x46_62, x46_63, x46_65, x46_66, x46_67, x46_68, x46_69, x46_70, x46_71, x46_74, x46_77, x46_78, x46_80, x46_81, x46_82, x46_83, x46_84, x46_87, x46_90, x46_91, x46_92, x46_95, x46_98, x46_99, x46_100, x46_101, x46_102, x46_103, x46_104, x46_105, x46_106, x46_109, ↓reduceIte, Bool.false_eq_true, Nat.reduceAdd, Nat.reduceLT, Nat.reduceLeDiff, Nat.reduceSub, Nat.reduceEqDiff, Int.reduceToNat, Int.reduceEq, Int.reduceLT, Int.reduceLE, Int.reduceAdd, Int.reduceSub, zg, zI, zJ, zR, zst, zkl, zn, zcat, zok, zraw, List.length_cons, List.length_nil, Option.toList, List.nil_append, List.cons_append, true_and, and_true, if_true, if_false, ne_eq, not_true, not_false_eq_true, and_self, true_or, or_true, false_or, or_false, false_and, and_false]
              exact hQ μ5 H5
        · rw [nx_ge h5] at hQ ⊢
          intro μ2 f2 g4 g0
          simp only [x46_0, x46_1, x46_4, x46_7, x46_8, x46_9, x46_10, x46_11, x46_13, x46_16, x46_17, x46_18, x46_21, x46_22, x46_23, x46_26, x46_29, x46_30, x46_31, x46_34, x46_37, x46_38, x46_40, x46_43, x46_46, x46_47, x46_50, x46_53, x46_54, x46_55, x46_56, x46_59, x46_62, x46_63, x46_65, x46_66, x46_67, x46_68, x46_69, x46_70, x46_71, x46_74, x46_77, x46_78, x46_80, x46_81, x46_82, x46_83, x46_84, x46_87, x46_90, x46_91, x46_92, x46_95, x46_98, x46_99, x46_100, x46_101, x46_102, x46_103, x46_104, x46_105, x46_106, x46_109, ↓reduceIte, Bool.false_eq_true, Nat.reduceAdd, Nat.reduceLT, Nat.reduceLeDiff, Nat.reduceSub, Nat.reduceEqDiff, Int.reduceToNat, Int.reduceEq, Int.reduceLT, Int.reduceLE, Int.reduceAdd, Int.reduceSub, zg, zI, zJ, zR, zst, zkl, zn, zcat, zok, zraw, List.length_cons, List.length_nil, Option.toList, List.nil_append, List.cons_append, true_and, and_true, if_true, if_false, ne_eq, not_true, not_false_eq_true, and_self, true_or, or_true, false_or, or_false, false_and, and_false]
          exact hQ μ2 f2 g4 g0
      · rw [if_neg k5] at hQ ⊢
        intro μ2 f2 g4 g0
        simp only [x46_0, x46_1, x46_4, x46_7, x46_8, x46_9, x46_10, x46_11, x46_13, x46_16, x46_17, x46_18, x46_21, x46_22, x46_23, x46_26, x46_29, x46_30, x46_31, x46_34, x46_37, x46_38, x46_40, x46_43, x46_46, x46_47, x46_50, x46_53, x46_54, x46_55, x46_56, x46_59, x46_62, x46_63, x46_65, x46_66, x46_67, x46_68, x46_69, x46_70, x46_71, x46_74, x46_77, x46_78, x46_80, x46_81, x46_82, x46_83, x46_84, x46_87, x46_90, x46_91, x46_92, x46_95, x46_98, x46_99, x46_100, x46_101, x46_102, x46_103, x46_104, x46_105, x46_106, x46_109, ↓reduceIte, Bool.false_eq_true, Nat.reduceAdd, Nat.reduceLT, Nat.reduceLeDiff, Nat.reduceSub, Nat.reduceEqDiff, Int.reduceToNat, Int.reduceEq, Int.reduceLT, Int.reduceLE, Int.reduceAdd, Int.reduceSub, zg, zI, zJ, zR, zst, zkl, zn, zcat, zok, zraw, List.length_cons, List.length_nil, Option.toList, List.nil_append, List.cons_append, true_and, and_true, if_true, if_false, ne_eq, not_true, not_false_eq_true, and_self, true_or, or_true, false_or, or_false, false_and, and_false]
        exact hQ μ2 f2 g4 g0
    · rw [nx_ge h4] at hQ
      simp only [x46_0, x46_1, x46_4, x46_7, x46_8, x46_9, x46_10, x46_11, x46_13, x46_16, x46_17, x46_18, x46_21, x46_22, x46_23, x46_26, x46_29, x46_30, x46_31, x46_34, x46_37, x46_38, x46_40, x46_43, x46_46, x46_47, x46_50, x46_53, x46_54, x46_55, x46_56, x46_59, x46_62, x46_63, x46_65, x46_66, x46_67, x46_68, x46_69, x46_70, x46_71, x46_74, x46_77, x46_78, x46_80, x46_81, x46_82, x46_83, x46_84, x46_87, x46_90, x46_91, x46_92, x46_95, x46_98, x46_99, x46_100, x46_101, x46_102, x46_103, x46_104, x46_105, x46_106, x46_109, ↓reduceIte, Bool.false_eq_true, Nat.reduceAdd, Nat.reduceLT, Nat.reduceLeDiff, Nat.reduceSub, Nat.reduceEqDiff, Int.reduceToNat, Int.reduceEq, Int.reduceLT, Int.reduceLE, Int.reduceAdd, Int.reduceSub, zg, zI, zJ, zR, zst, zkl, zn, zcat, zok, zraw, List.length_cons, List.length_nil, Option.toList, List.nil_append, List.cons_append, true_and, and_true, if_true, if_false, ne_eq, not_true, not_false_eq_true, and_self, true_or, or_true, false_or, or_false, false_and, and_false]
      exact hQ μ2 (hf.trans (f2.mono h6A)) g4 g0
end RL
