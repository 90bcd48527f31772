/-! THE REFERENCE: how it holds a text; termOf -/
def mAt (μ : zM) (a b : Int) (c : zC) : Prop := 0 ≤ a ∧ b = a + c.length ∧ b ≤ 840 ∧ ∀ i (h : i < c.length), μ 167 (a.toNat + i) = ((c[i]).1 : Nat) ∧ ((c[i]).1 ≤ 1 → μ 168 (a.toNat + i) = (c[i]).2)
def lAt (μ : zM) (q : Nat) (l : zL) : Prop := μ 163 q = b2 l.1 ∧ μ 162 q = b2 l.2.1 ∧ μ 161 q = (l.2.2.1 : Nat) ∧ mAt μ (μ 164 q) (μ 165 q) l.2.2.2.1 ∧ mAt μ (μ 165 q) (μ 166 q) l.2.2.2.2
def TM (τ : zT) (s : Nat) (μ : zM) : Prop := (μ 147 s = tN τ 0 ∧ μ 148 s = tN τ 1 ∧ μ 149 s = tN τ 2 ∧ ∀ k, k < 6 → μ 150 (6 * s + k) = tN τ (k + 3))
  ∧ (μ 157 s = (tD τ : Nat) ∧ ∀ k, k < tD τ → μ 158 (6 * s + k) = tS τ k ∧ μ 159 (6 * s + k) = tZ τ k ∧ μ 160 (6 * s + k) = tO τ k)
  ∧ (∀ k, k < 4 → match tL τ k with
    | none => μ 154 (4 * s + k) = 0
    | some c => μ 154 (4 * s + k) = 1 ∧ mAt μ (μ 155 (4 * s + k)) (μ 156 (4 * s + k)) c)
  ∧ ∀ k, k < 3 → μ 151 (3 * s + k) = ((tR τ k).length : Nat) ∧ ∀ i (h : i < (tR τ k).length), (0 ≤ μ 152 (18 * s + 6 * k + i) ∧ μ 153 (18 * s + 6 * k + i) = μ 152 (18 * s + 6 * k + i) + ((tR τ k)[i]).length ∧ μ 153 (18 * s + 6 * k + i) ≤ 300)
    ∧ ∀ j (hj : j < ((tR τ k)[i]).length), lAt μ ((μ 152 (18 * s + 6 * k + i)).toNat + j) ((tR τ k)[i])[j]
section MT
variable {θ : zS} {Q : Option zV → zS → zM → Prop} {μ : zM} {v : Nat → Int}
theorem rpn_one {v : Nat → Int} {B : Nat} : ∀ (c : zC) (n : Nat) (s s' : List Int), wfc B 1 n c → s.length = n → rpn v c s = some s' → ∃ x, s' = [x] := by
  intro c
  induction c with
  | nil =>
    intro n s s' hw hs hr
    have : n = 1 := hw
    simp only [rpn, Option.some.injEq] at hr
    subst hr
    match s, hs with
    | [x], _ => exact ⟨x, rfl⟩
    | [], hs => simp at hs; omega
    | _ :: _ :: _, hs => simp at hs; omega
  | cons p c ih =>
    intro n s s' hw hs hr
    unfold wfc at hw
    unfold rpn rstep at hr
    by_cases k0 : p.1 = 0
    · simp only [k0, if_true] at hw hr
      exact ih (n + 1) _ s' hw.2.2 (by simp [hs]) hr
    · by_cases k1 : p.1 = 1
      · have e : ¬ ((1 : Nat) = 0) := by omega
        simp only [k1, e, if_true, if_false] at hw hr
        exact ih (n + 1) _ s' hw.2.2 (by simp [hs]) hr
      · simp only [k0, k1, if_false] at hw hr
        match s, hs with
        | [], hs => simp at hr
        | [_], hs => simp at hr
        | f :: e :: s, hs =>
          simp only at hr
          by_cases hz : p.1 = 5 ∧ f = 0
          · simp [hz] at hr
          · simp only [hz, if_false] at hr
            exact ih (n - 1) _ s' hw.2.2 (by simp at hs ⊢; omega) hr
theorem rpn_cons (v : Nat → Int) (c : Nat × Int) (r : zC) (s : List Int) : rpn v (c :: r) s = match rstep v c s with
    | some s' => rpn v r s'
    | none => none := rfl
theorem mTerm {d : Nat} {a b : Int} {c : zC} {x3 x4 x5 x6 x7 : zV} (hm : Tm θ) (hat : mAt μ a b c) (hw : wfc 16 1 0 c) (hv : ∀ k, k < 13 → μ 170 k = v k)
    (hQ : ∀ μ' x, Fr [138, 171] μ μ' → (∀ j, j ≠ 50 → μ' 138 j = μ 138 j) → (ev v c = none ∧ x = 0 ∧ μ' 138 50 = 1 ∨ ev v c = some x ∧ μ' 138 50 = 0) → Q (some (vi x)) θ μ') :
    Ex d 192 0 [vr 138, vi a, vi b, x3, x4, x5, x6, x7] [] θ μ Q := by
  obtain ⟨ha0, hb0, hb4, hcd⟩ := hat
  have key : ∀ t L μ1, t ≤ c.length → (∃ s x5 x6 x7, L = [vr 138, vi a, vi b, vi ((s.length : Nat) : Int), vi (a + (t : Nat)), x5, x6, x7] ∧ rpn v (c.drop t) s = rpn v c [] ∧ wfc 16 1 s.length (c.drop t) ∧ StR s (μ1 171) ∧ Fr [138, 171] μ μ1 ∧ (∀ j, j ≠ 50 → μ1 138 j = μ 138 j) ∧ μ1 138 50 = 0 ∧ s.length ≤ 16) →
      Ex d 192 10 L [] θ μ1 Q := by
    refine Ex_loop (I := fun t L μ1 => ∃ s x5 x6 x7, L = [vr 138, vi a, vi b, vi ((s.length : Nat) : Int), vi (a + (t : Nat)), x5, x6, x7] ∧ rpn v (c.drop t) s = rpn v c [] ∧ wfc 16 1 s.length (c.drop t) ∧ StR s (μ1 171) ∧ Fr [138, 171] μ μ1 ∧ (∀ j, j ≠ 50 → μ1 138 j = μ 138 j) ∧ μ1 138 50 = 0 ∧ s.length ≤ 16) c.length ?_ ?_
    · rintro t L μ1 ht ⟨s, x5, x6, x7, rfl, hrun, hwf, hst, hfr, hf38, hf50, hsl⟩ hk
      rw [List.drop_eq_getElem_cons ht] at hrun hwf
      have hcode := hcd t ht
      generalize c[t] = p at hrun hwf hcode
      obtain ⟨p, y⟩ := p
      simp only at hcode
      have e1 : (a + ((t : Nat) : Int)).toNat = a.toNat + t := by omega
      have hcd1 : μ1 167 (a + ((t : Nat) : Int)).toNat = (p : Int) := by rw [hfr 167 (by decide), e1, hcode.1]
      have i2 : ¬ b ≤ a + ((t : Nat) : Int) := by omega
      have i3 : w32 (a + ((t : Nat) : Int) + 1) = a + ((t + 1 : Nat) : Int) := by unfold w32; omega
      rw [x192_10]
      rw [rpn_cons] at hrun
      unfold rstep at hrun
      unfold wfc at hwf
      by_cases c0 : p ≤ 1
      · have hcd2 : μ1 168 (a + ((t : Nat) : Int)).toNat = y := by rw [hfr 168 (by decide), e1, hcode.2 c0]
        have kk : ∀ X5 X6 X7 (val : Int), val = (if p = 0 then y else v y.toNat) → s.length + 1 ≤ 16 → rpn v (c.drop (t + 1)) (val :: s) = rpn v c [] → wfc 16 1 (s.length + 1) (c.drop (t + 1)) → Ex d 192 10 [vr 138, vi a, vi b, vi ((s.length + 1 : Nat) : Int), vi (a + ((t + 1 : Nat) : Int)), X5, X6, X7] [] θ (us μ1 171 (zup (μ1 171) s.length val)) Q := by
          intro X5 X6 X7 val hval h16 hr hw
          apply hk
          refine ⟨val :: s, X5, X6, X7, rfl, hr, hw, ?_, Fr.us (by decide) hfr, ?_, ?_, h16⟩
          · rw [us_same]; exact ⟨zup_same rfl, StR_upd hst (Nat.le_refl _)⟩
          · intro j hj; rw [us_ne (by decide)]; exact hf38 j hj
          · rw [us_ne (by decide)]; exact hf50
        have q2 : ¬ (2 : Int) ≤ (p : Int) := by omega
        have : p = 0 ∨ p = 1 := by omega
        rcases this with rfl | rfl
        · simp only [if_true] at hrun hwf
          simp (disch := omega) only [x192_0, x192_1, x192_2, x192_3, x192_4, x192_7, x192_8, x192_12, x192_13, x192_16, x192_17, x192_20, x192_22, x192_23, x192_25, x192_27, x192_28, x192_31, x192_32, x192_35, x192_36, x192_38, x192_41, x192_42, x192_45, x192_47, x192_48, x192_51, x192_52, x192_55, x192_56, x192_59, x192_61, x192_62, x192_63, x192_64, x192_67, x192_70, x192_73, x192_74, x192_77, x192_78, x192_79, x192_80, x192_81, x192_83, x192_84, x192_87, x192_88, x192_89, x192_91, x192_93, x192_94, x192_97, x192_99, x192_102, x192_103, x192_104, x192_107, x192_108, x192_109, x192_110, x192_113, x192_114, x192_115, x192_116, x192_118, x192_119, x192_122, x192_124, x192_126, x192_127, x192_130, x192_132, x192_133, x192_136, x192_138, x192_140, x192_141, x192_144, x192_146, x192_147, x192_150, x192_152, x192_154, x192_155, x192_158, x192_160, x192_162, x192_163, x192_164, x192_167, x192_170, x192_171, x192_174, x192_175, x192_176, ↓reduceIte, Bool.false_eq_true, Nat.reduceAdd, Nat.reduceLT, Nat.reduceLeDiff, Nat.reduceSub, Nat.reduceEqDiff, Int.reduceToNat, Int.reduceEq, Int.reduceLT, Int.reduceLE, Int.reduceAdd, Int.reduceSub, zg, zI, zJ, zR, zst, zkl, zn, zcat, zok, zraw, List.length_cons, List.length_nil, Option.toList, List.nil_append, List.cons_append, true_and, and_true, if_true, if_false, ne_eq, not_true, not_false_eq_true, and_self, true_or, or_true, false_or, or_false, false_and, and_false, b_138 hm, r_138_44 hm, x_167 hm, r_138_45 hm, x_168 hm, r_138_48 hm, x_170 hm, r_138_49 hm, x_171 hm, ua_eq, i2, hcd1, hcd2, q2, Int.toNat_natCast, w32_s, i3]
          exact kk _ _ _ y (by simp) hwf.1 hrun hwf.2.2
        · have e : ¬ ((1 : Nat) = 0) := by omega
          simp only [e, if_true, if_false] at hrun hwf
          have hv1 : μ1 170 y.toNat = v y.toNat := by rw [hfr 170 (by decide), hv _ (by omega)]
          simp (disch := omega) only [x192_0, x192_1, x192_2, x192_3, x192_4, x192_7, x192_8, x192_12, x192_13, x192_16, x192_17, x192_20, x192_22, x192_23, x192_25, x192_27, x192_28, x192_31, x192_32, x192_35, x192_36, x192_38, x192_41, x192_42, x192_45, x192_47, x192_48, x192_51, x192_52, x192_55, x192_56, x192_59, x192_61, x192_62, x192_63, x192_64, x192_67, x192_70, x192_73, x192_74, x192_77, x192_78, x192_79, x192_80, x192_81, x192_83, x192_84, x192_87, x192_88, x192_89, x192_91, x192_93, x192_94, x192_97, x192_99, x192_102, x192_103, x192_104, x192_107, x192_108, x192_109, x192_110, x192_113, x192_114, x192_115, x192_116, x192_118, x192_119, x192_122, x192_124, x192_126, x192_127, x192_130, x192_132, x192_133, x192_136, x192_138, x192_140, x192_141, x192_144, x192_146, x192_147, x192_150, x192_152, x192_154, x192_155, x192_158, x192_160, x192_162, x192_163, x192_164, x192_167, x192_170, x192_171, x192_174, x192_175, x192_176, ↓reduceIte, Bool.false_eq_true, Nat.reduceAdd, Nat.reduceLT, Nat.reduceLeDiff, Nat.reduceSub, Nat.reduceEqDiff, Int.reduceToNat, Int.reduceEq, Int.reduceLT, Int.reduceLE, Int.reduceAdd, Int.reduceSub, zg, zI, zJ, zR, zst, zkl, zn, zcat, zok, zraw, List.length_cons, List.length_nil, Option.toList, List.nil_append, List.cons_append, true_and, and_true, if_true, if_false, ne_eq, not_true, not_false_eq_true, and_self, true_or, or_true, false_or, or_false, false_and, and_false, b_138 hm, r_138_44 hm, x_167 hm, r_138_45 hm, x_168 hm, r_138_48 hm, x_170 hm, r_138_49 hm, x_171 hm, ua_eq, i2, hcd1, hcd2, hv1, q2, Int.toNat_natCast, w32_s, i3]
          exact kk _ _ _ (v y.toNat) (by simp) hwf.1 hrun hwf.2.2
      · have c0a : ¬ p = 0 := by omega
        have c0b : ¬ p = 1 := by omega
        simp only [c0a, c0b, if_false] at hrun hwf
        obtain ⟨hp5, hn2, hwf⟩ := hwf
        match s, hst, hsl, hrun, hn2, hwf with
        | [], _, _, _, hn2, _ => simp at hn2
        | [_], _, _, _, hn2, _ => simp at hn2
        | f :: e :: s, hst, hsl, hrun, hn2, hwf =>
          have j2 : μ1 171 (s.length + 1) = f := hst.1
          have j3 : μ1 171 s.length = e := hst.2.1
          have j4 : s.length + 2 ≤ 16 := by simpa using hsl
          have q2 : (2 : Int) ≤ (p : Int) := by omega
          by_cases hz : p = 5 ∧ f = 0
          · obtain ⟨rfl, rfl⟩ := hz
            have hcd1 : μ1 167 (a + ((t : Nat) : Int)).toNat = 5 := hcd1
            simp (disch := omega) only [x192_0, x192_1, x192_2, x192_3, x192_4, x192_7, x192_8, x192_12, x192_13, x192_16, x192_17, x192_20, x192_22, x192_23, x192_25, x192_27, x192_28, x192_31, x192_32, x192_35, x192_36, x192_38, x192_41, x192_42, x192_45, x192_47, x192_48, x192_51, x192_52, x192_55, x192_56, x192_59, x192_61, x192_62, x192_63, x192_64, x192_67, x192_70, x192_73, x192_74, x192_77, x192_78, x192_79, x192_80, x192_81, x192_83, x192_84, x192_87, x192_88, x192_89, x192_91, x192_93, x192_94, x192_97, x192_99, x192_102, x192_103, x192_104, x192_107, x192_108, x192_109, x192_110, x192_113, x192_114, x192_115, x192_116, x192_118, x192_119, x192_122, x192_124, x192_126, x192_127, x192_130, x192_132, x192_133, x192_136, x192_138, x192_140, x192_141, x192_144, x192_146, x192_147, x192_150, x192_152, x192_154, x192_155, x192_158, x192_160, x192_162, x192_163, x192_164, x192_167, x192_170, x192_171, x192_174, x192_175, x192_176, ↓reduceIte, Bool.false_eq_true, Nat.reduceAdd, Nat.reduceLT, Nat.reduceLeDiff, Nat.reduceSub, Nat.reduceEqDiff, Int.reduceToNat, Int.reduceEq, Int.reduceLT, Int.reduceLE, Int.reduceAdd, Int.reduceSub, zg, zI, zJ, zR, zst, zkl, zn, zcat, zok, zraw, List.length_cons, List.length_nil, Option.toList, List.nil_append, List.cons_append, true_and, and_true, if_true, if_false, ne_eq, not_true, not_false_eq_true, and_self, true_or, or_true, false_or, or_false, false_and, and_false, b_138 hm, r_138_44 hm, x_167 hm, r_138_45 hm, x_168 hm, r_138_48 hm, x_170 hm, r_138_49 hm, x_171 hm, ua_eq, i2, hcd1, q2, j2, j3, Int.toNat_natCast, w32_m1, Nat.add_sub_cancel, w32_s1]
            have hn : rpn v c [] = none := by simpa using hrun.symm
            refine hQ _ 0 (Fr.us (by decide) hfr) (fun j hj => by rw [us_same, zup_ne hj]; exact hf38 j hj) (Or.inl ⟨by unfold ev; rw [hn], rfl, by rw [us_same, zup_same rfl]⟩)
          · simp only [hz, if_false] at hrun
            have hval : ∀ X5 X6 X7, Ex d 192 10 [vr 138, vi a, vi b, vi ((s.length + 1 : Nat) : Int), vi (a + ((t + 1 : Nat) : Int)), X5, X6, X7] [] θ (us μ1 171 (zup (μ1 171) s.length (rop p e f))) Q := by
              intro X5 X6 X7
              apply hk
              refine ⟨rop p e f :: s, X5, X6, X7, rfl, hrun, by simpa using hwf, ?_, Fr.us (by decide) hfr, ?_, ?_, by simp only [List.length_cons]; omega⟩
              · rw [us_same]; exact ⟨zup_same rfl, StR_upd hst.2.2 (Nat.le_refl _)⟩
              · intro j hj; rw [us_ne (by decide)]; exact hf38 j hj
              · rw [us_ne (by decide)]; exact hf50
            have : p = 2 ∨ p = 3 ∨ p = 4 ∨ p = 5 := by omega
            rcases this with rfl | rfl | rfl | rfl
            · have hcd1 : μ1 167 (a + ((t : Nat) : Int)).toNat = 2 := hcd1
              have hr : rop 2 e f = w32 (e + f) := by simp [rop]
              rw [hr] at hval
              simp (disch := omega) only [x192_0, x192_1, x192_2, x192_3, x192_4, x192_7, x192_8, x192_12, x192_13, x192_16, x192_17, x192_20, x192_22, x192_23, x192_25, x192_27, x192_28, x192_31, x192_32, x192_35, x192_36, x192_38, x192_41, x192_42, x192_45, x192_47, x192_48, x192_51, x192_52, x192_55, x192_56, x192_59, x192_61, x192_62, x192_63, x192_64, x192_67, x192_70, x192_73, x192_74, x192_77, x192_78, x192_79, x192_80, x192_81, x192_83, x192_84, x192_87, x192_88, x192_89, x192_91, x192_93, x192_94, x192_97, x192_99, x192_102, x192_103, x192_104, x192_107, x192_108, x192_109, x192_110, x192_113, x192_114, x192_115, x192_116, x192_118, x192_119, x192_122, x192_124, x192_126, x192_127, x192_130, x192_132, x192_133, x192_136, x192_138, x192_140, x192_141, x192_144, x192_146, x192_147, x192_150, x192_152, x192_154, x192_155, x192_158, x192_160, x192_162, x192_163, x192_164, x192_167, x192_170, x192_171, x192_174, x192_175, x192_176, ↓reduceIte, Bool.false_eq_true, Nat.reduceAdd, Nat.reduceLT, Nat.reduceLeDiff, Nat.reduceSub, Nat.reduceEqDiff, Int.reduceToNat, Int.reduceEq, Int.reduceLT, Int.reduceLE, Int.reduceAdd, Int.reduceSub, zg, zI, zJ, zR, zst, zkl, zn, zcat, zok, zraw, List.length_cons, List.length_nil, Option.toList, List.nil_append, List.cons_append, true_and, and_true, if_true, if_false, ne_eq, not_true, not_false_eq_true, and_self, true_or, or_true, false_or, or_false, false_and, and_false, b_138 hm, r_138_44 hm, x_167 hm, r_138_45 hm, x_168 hm, r_138_48 hm, x_170 hm, r_138_49 hm, x_171 hm, ua_eq, i2, hcd1, q2, j2, j3, Int.toNat_natCast, w32_m1, Nat.add_sub_cancel, w32_s1, i3]
              exact hval _ _ _
            · have hcd1 : μ1 167 (a + ((t : Nat) : Int)).toNat = 3 := hcd1
              have hr : rop 3 e f = w32 (e - f) := by simp [rop]
              rw [hr] at hval
              simp (disch := omega) only [x192_0, x192_1, x192_2, x192_3, x192_4, x192_7, x192_8, x192_12, x192_13, x192_16, x192_17, x192_20, x192_22, x192_23, x192_25, x192_27, x192_28, x192_31, x192_32, x192_35, x192_36, x192_38, x192_41, x192_42, x192_45, x192_47, x192_48, x192_51, x192_52, x192_55, x192_56, x192_59, x192_61, x192_62, x192_63, x192_64, x192_67, x192_70, x192_73, x192_74, x192_77, x192_78, x192_79, x192_80, x192_81, x192_83, x192_84, x192_87, x192_88, x192_89, x192_91, x192_93, x192_94, x192_97, x192_99, x192_102, x192_103, x192_104, x192_107, x192_108, x192_109, x192_110, x192_113, x192_114, x192_115, x192_116, x192_118, x192_119, x192_122, x192_124, x192_126, x192_127, x192_130, x192_132, x192_133, x192_136, x192_138, x192_140, x192_141, x192_144, x192_146, x192_147, x192_150, x192_152, x192_154, x192_155, x192_158, x192_160, x192_162, x192_163, x192_164, x192_167, x192_170, x192_171, x192_174, x192_175, x192_176, ↓reduceIte, Bool.false_eq_true, Nat.reduceAdd, Nat.reduceLT, Nat.reduceLeDiff, Nat.reduceSub, Nat.reduceEqDiff, Int.reduceToNat, Int.reduceEq, Int.reduceLT, Int.reduceLE, Int.reduceAdd, Int.reduceSub, zg, zI, zJ, zR, zst, zkl, zn, zcat, zok, zraw, List.length_cons, List.length_nil, Option.toList, List.nil_append, List.cons_append, true_and, and_true, if_true, if_false, ne_eq, not_true, not_false_eq_true, and_self, true_or, or_true, false_or, or_false, false_and, and_false, b_138 hm, r_138_44 hm, x_167 hm, r_138_45 hm, x_168 hm, r_138_48 hm, x_170 hm, r_138_49 hm, x_171 hm, ua_eq, i2, hcd1, q2, j2, j3, Int.toNat_natCast, w32_m1, Nat.add_sub_cancel, w32_s1, i3]
              exact hval _ _ _
            · have hcd1 : μ1 167 (a + ((t : Nat) : Int)).toNat = 4 := hcd1
              have hr : rop 4 e f = w32 (e * f) := by simp [rop]
              rw [hr] at hval
              simp (disch := omega) only [x192_0, x192_1, x192_2, x192_3, x192_4, x192_7, x192_8, x192_12, x192_13, x192_16, x192_17, x192_20, x192_22, x192_23, x192_25, x192_27, x192_28, x192_31, x192_32, x192_35, x192_36, x192_38, x192_41, x192_42, x192_45, x192_47, x192_48, x192_51, x192_52, x192_55, x192_56, x192_59, x192_61, x192_62, x192_63, x192_64, x192_67, x192_70, x192_73, x192_74, x192_77, x192_78, x192_79, x192_80, x192_81, x192_83, x192_84, x192_87, x192_88, x192_89, x192_91, x192_93, x192_94, x192_97, x192_99, x192_102, x192_103, x192_104, x192_107, x192_108, x192_109, x192_110, x192_113, x192_114, x192_115, x192_116, x192_118, x192_119, x192_122, x192_124, x192_126, x192_127, x192_130, x192_132, x192_133, x192_136, x192_138, x192_140, x192_141, x192_144, x192_146, x192_147, x192_150, x192_152, x192_154, x192_155, x192_158, x192_160, x192_162, x192_163, x192_164, x192_167, x192_170, x192_171, x192_174, x192_175, x192_176, ↓reduceIte, Bool.false_eq_true, Nat.reduceAdd, Nat.reduceLT, Nat.reduceLeDiff, Nat.reduceSub, Nat.reduceEqDiff, Int.reduceToNat, Int.reduceEq, Int.reduceLT, Int.reduceLE, Int.reduceAdd, Int.reduceSub, zg, zI, zJ, zR, zst, zkl, zn, zcat, zok, zraw, List.length_cons, List.length_nil, Option.toList, List.nil_append, List.cons_append, true_and, and_true, if_true, if_false, ne_eq, not_true, not_false_eq_true, and_self, true_or, or_true, false_or, or_false, false_and, and_false, b_138 hm, r_138_44 hm, x_167 hm, r_138_45 hm, x_168 hm, r_138_48 hm, x_170 hm, r_138_49 hm, x_171 hm, ua_eq, i2, hcd1, q2, j2, j3, Int.toNat_natCast, w32_m1, Nat.add_sub_cancel, w32_s1, i3]
              exact hval _ _ _
            · have hcd1 : μ1 167 (a + ((t : Nat) : Int)).toNat = 5 := hcd1
              have hr : rop 5 e f = w32 (e.tdiv f) := by simp [rop]
              rw [hr] at hval
              have hf0 : ¬ f = 0 := fun q => hz ⟨rfl, q⟩
              simp (disch := omega) only [x192_0, x192_1, x192_2, x192_3, x192_4, x192_7, x192_8, x192_12, x192_13, x192_16, x192_17, x192_20, x192_22, x192_23, x192_25, x192_27, x192_28, x192_31, x192_32, x192_35, x192_36, x192_38, x192_41, x192_42, x192_45, x192_47, x192_48, x192_51, x192_52, x192_55, x192_56, x192_59, x192_61, x192_62, x192_63, x192_64, x192_67, x192_70, x192_73, x192_74, x192_77, x192_78, x192_79, x192_80, x192_81, x192_83, x192_84, x192_87, x192_88, x192_89, x192_91, x192_93, x192_94, x192_97, x192_99, x192_102, x192_103, x192_104, x192_107, x192_108, x192_109, x192_110, x192_113, x192_114, x192_115, x192_116, x192_118, x192_119, x192_122, x192_124, x192_126, x192_127, x192_130, x192_132, x192_133, x192_136, x192_138, x192_140, x192_141, x192_144, x192_146, x192_147, x192_150, x192_152, x192_154, x192_155, x192_158, x192_160, x192_162, x192_163, x192_164, x192_167, x192_170, x192_171, x192_174, x192_175, x192_176, ↓reduceIte, Bool.false_eq_true, Nat.reduceAdd, Nat.reduceLT, Nat.reduceLeDiff, Nat.reduceSub, Nat.reduceEqDiff, Int.reduceToNat, Int.reduceEq, Int.reduceLT, Int.reduceLE, Int.reduceAdd, Int.reduceSub, zg, zI, zJ, zR, zst, zkl, zn, zcat, zok, zraw, List.length_cons, List.length_nil, Option.toList, List.nil_append, List.cons_append, true_and, and_true, if_true, if_false, ne_eq, not_true, not_false_eq_true, and_self, true_or, or_true, false_or, or_false, false_and, and_false, b_138 hm, r_138_44 hm, x_167 hm, r_138_45 hm, x_168 hm, r_138_48 hm, x_170 hm, r_138_49 hm, x_171 hm, ua_eq, i2, hcd1, q2, j2, j3, Int.toNat_natCast, w32_m1, Nat.add_sub_cancel, w32_s1, i3, hf0]
              exact hval _ _ _
    · rintro L μ1 ⟨s, x5, x6, x7, rfl, hrun, hwf, hst, hfr, hf38, hf50, hsl⟩
      rw [List.drop_length] at hrun hwf
      have hs1 : s.length = 1 := hwf
      match s, hs1, hst, hrun with
      | [x], _, hst, hrun =>
        have i2 : b ≤ a + ((c.length : Nat) : Int) := by omega
        have j2 : μ1 171 0 = x := hst.1
        rw [x192_10]
        simp (disch := omega) only [x192_0, x192_1, x192_2, x192_3, x192_4, x192_7, x192_8, x192_12, x192_13, x192_16, x192_17, x192_20, x192_22, x192_23, x192_25, x192_27, x192_28, x192_31, x192_32, x192_35, x192_36, x192_38, x192_41, x192_42, x192_45, x192_47, x192_48, x192_51, x192_52, x192_55, x192_56, x192_59, x192_61, x192_62, x192_63, x192_64, x192_67, x192_70, x192_73, x192_74, x192_77, x192_78, x192_79, x192_80, x192_81, x192_83, x192_84, x192_87, x192_88, x192_89, x192_91, x192_93, x192_94, x192_97, x192_99, x192_102, x192_103, x192_104, x192_107, x192_108, x192_109, x192_110, x192_113, x192_114, x192_115, x192_116, x192_118, x192_119, x192_122, x192_124, x192_126, x192_127, x192_130, x192_132, x192_133, x192_136, x192_138, x192_140, x192_141, x192_144, x192_146, x192_147, x192_150, x192_152, x192_154, x192_155, x192_158, x192_160, x192_162, x192_163, x192_164, x192_167, x192_170, x192_171, x192_174, x192_175, x192_176, ↓reduceIte, Bool.false_eq_true, Nat.reduceAdd, Nat.reduceLT, Nat.reduceLeDiff, Nat.reduceSub, Nat.reduceEqDiff, Int.reduceToNat, Int.reduceEq, Int.reduceLT, Int.reduceLE, Int.reduceAdd, Int.reduceSub, zg, zI, zJ, zR, zst, zkl, zn, zcat, zok, zraw, List.length_cons, List.length_nil, Option.toList, List.nil_append, List.cons_append, true_and, and_true, if_true, if_false, ne_eq, not_true, not_false_eq_true, and_self, true_or, or_true, false_or, or_false, false_and, and_false, b_138 hm, r_138_44 hm, x_167 hm, r_138_45 hm, x_168 hm, r_138_48 hm, x_170 hm, r_138_49 hm, x_171 hm, i2, j2, Int.toNat_zero]
        refine hQ μ1 x hfr hf38 (Or.inr ⟨?_, hf50⟩)
        unfold ev; rw [← hrun]; rfl
  have e0 := key 0 [vr 138, vi a, vi b, vi 0, vi a, x5, x6, x7] (ua μ 138 50 0) (by omega) ⟨[], x5, x6, x7, by simp, rfl, hw, trivial, Fr.ua (by decide) Fr.refl, fun j hj => by rw [ua_eq, us_same, zup_ne hj], by rw [ua_eq, us_same, zup_same rfl], by simp⟩
  simp (disch := omega) only [x192_0, x192_1, x192_2, x192_3, x192_4, x192_7, x192_8, x192_12, x192_13, x192_16, x192_17, x192_20, x192_22, x192_23, x192_25, x192_27, x192_28, x192_31, x192_32, x192_35, x192_36, x192_38, x192_41, x192_42, x192_45, x192_47, x192_48, x192_51, x192_52, x192_55, x192_56, x192_59, x192_61, x192_62, x192_63, x192_64, x192_67, x192_70, x192_73, x192_74, x192_77, x192_78, x192_79, x192_80, x192_81, x192_83, x192_84, x192_87, x192_88, x192_89, x192_91, x192_93, x192_94, x192_97, x192_99, x192_102, x192_103, x192_104, x192_107, x192_108, x192_109, x192_110, x192_113, x192_114, x192_115, x192_116, x192_118, x192_119, x192_122, x192_124, x192_126, x192_127, x192_130, x192_132, x192_133, x192_136, x192_138, x192_140, x192_141, x192_144, x192_146, x192_147, x192_150, x192_152, x192_154, x192_155, x192_158, x192_160, x192_162, x192_163, x192_164, x192_167, x192_170, x192_171, x192_174, x192_175, x192_176, ↓reduceIte, Bool.false_eq_true, Nat.reduceAdd, Nat.reduceLT, Nat.reduceLeDiff, Nat.reduceSub, Nat.reduceEqDiff, Int.reduceToNat, Int.reduceEq, Int.reduceLT, Int.reduceLE, Int.reduceAdd, Int.reduceSub, zg, zI, zJ, zR, zst, zkl, zn, zcat, zok, zraw, List.length_cons, List.length_nil, Option.toList, List.nil_append, List.cons_append, true_and, and_true, if_true, if_false, ne_eq, not_true, not_false_eq_true, and_self, true_or, or_true, false_or, or_false, false_and, and_false, b_138 hm, r_138_44 hm, x_167 hm, r_138_45 hm, x_168 hm, r_138_48 hm, x_170 hm, r_138_49 hm, x_171 hm]
  exact e0
end MT
