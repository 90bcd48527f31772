/-! THE REFERENCE reads: all begins anew -/
section BE
variable {θ : zS} {Q : Option zV → zS → zM → Prop} {μ : zM} {τ : zT} {s : Nat}
theorem wa4 {a : Nat} (h : a ≤ 1000) : w32 ((a : Int) + 4) = ((a + 4 : Nat) : Int) := by unfold w32; omega
theorem wa5 {a : Nat} (h : a ≤ 1000) : w32 ((a : Int) + 5) = ((a + 5 : Nat) : Int) := by unfold w32; omega
theorem mBegins {d : Nat} {x1 : zV} (h : MX θ τ s μ) (hd : 5 ≤ d) (hQ : ∀ μ', Fr [138, 170, 171, 172, 173, 174, 175, 176, 177, 178, 198] μ μ' → (∀ j, j ≠ 50 → j ≠ 57 → j ≠ 59 → j ≠ 62 → μ' 138 j = μ 138 j) → MSn τ (beG τ) μ' → (∀ k, k < 3 → μ' 198 k = 0) → Q none θ μ') : Ex d 203 0 [vr 138, x1] [] θ μ Q := by
  have hm := h.1
  have hw := h.2.1
  have hn := tn_b hw
  have hd0 : 0 < d := by omega
  have h18 := h.2.2.2.1
  have hs := h.2.2.2.2
  obtain ⟨hA, hD, _, _⟩ := TM_iff.mp h.2.2.1
  have b4 : s ≤ 1000 := by omega
  have b6 : 6 * s ≤ 1000 := by omega
  have z0 : (0 : Int) = 0 ∨ (0 : Int) = 1 := Or.inl rfl
  have D6 := hw.2.2.2.2.1
  have p1 : (0 : Int) ≤ (s : Int) := by omega
  have p2 : (s : Int) < 2 := by omega
  have t1 : (0 : Int) ≤ ((6 * s + 4 : Nat) : Int) := by omega
  have t2 : ((6 * s + 4 : Nat) : Int) < 12 := by omega
  have t3 : (0 : Int) ≤ ((6 * s + 5 : Nat) : Int) := by omega
  have t4 : ((6 * s + 5 : Nat) : Int) < 12 := by omega
  -- the end: yard, slots
  have L138 : ∀ t L μ1, t ≤ 480 → (∃ μa, Fr [178] μa μ1 ∧ L = [vr 138, vi (t : Nat)] ∧ (∀ q, q < t → μ1 178 q = 0) ∧ Fr [138, 170, 171, 172, 173, 174, 175, 176, 177] μ μa ∧ (∀ j, j ≠ 50 → j ≠ 57 → μa 138 j = μ 138 j) ∧ MR τ (beF τ) μa) → Ex d 203 138 L [] θ μ1 Q := by
    refine Ex_loop (I := fun t L μ1 => ∃ μa, Fr [178] μa μ1 ∧ L = [vr 138, vi (t : Nat)] ∧ (∀ q, q < t → μ1 178 q = 0) ∧ Fr [138, 170, 171, 172, 173, 174, 175, 176, 177] μ μa ∧ (∀ j, j ≠ 50 → j ≠ 57 → μa 138 j = μ 138 j) ∧ MR τ (beF τ) μa) 480 ?_ ?_
    · rintro t L μ1 ht ⟨μa, f, rfl, hz, fa, ja, hR⟩ hc
      have c1 : ¬ (480 : Int) ≤ (t : Int) := by omega
      have i1 : (0 : Int) ≤ (t : Int) := by omega
      have i2 : (t : Int) < 480 := by omega
      have w1 : t < 2147483647 := by omega
      rw [x203_138]
      simp only [x203_0, x203_1, x203_3, x203_4, x203_7, x203_10, x203_11, x203_12, x203_15, x203_16, x203_19, x203_20, x203_21, x203_22, x203_23, x203_26, x203_27, x203_28, x203_29, x203_32, x203_33, x203_34, x203_37, x203_38, x203_39, x203_40, x203_43, x203_44, x203_45, x203_48, x203_49, x203_50, x203_53, x203_55, x203_56, x203_59, x203_60, x203_61, x203_62, x203_63, x203_64, x203_65, x203_68, x203_69, x203_70, x203_73, x203_75, x203_76, x203_79, x203_80, x203_81, x203_82, x203_83, x203_84, x203_87, x203_90, x203_91, x203_93, x203_94, x203_97, x203_98, x203_101, x203_102, x203_105, x203_106, x203_109, x203_110, x203_111, x203_114, x203_116, x203_117, x203_120, x203_121, x203_122, x203_123, x203_124, x203_125, x203_128, x203_131, x203_132, x203_133, x203_136, x203_137, x203_139, x203_142, x203_145, x203_146, x203_149, x203_150, x203_151, x203_152, x203_155, x203_158, x203_159, x203_160, x203_163, x203_164, x203_165, x203_168, x203_169, x203_171, x203_172, x203_175, x203_176, x203_179, x203_180, x203_181, x203_182, x203_185, x203_188, ↓reduceIte, Bool.false_eq_true, Nat.reduceAdd, Nat.reduceLT, Nat.reduceLeDiff, Nat.reduceSub, Nat.reduceEqDiff, Int.reduceToNat, Int.reduceEq, Int.reduceLT, Int.reduceLE, Int.reduceAdd, Int.reduceSub, zg, zI, zJ, zR, zst, zkl, zn, zcat, zok, zraw, List.length_cons, List.length_nil, Option.toList, List.nil_append, List.cons_append, true_and, and_true, if_true, if_false, ne_eq, not_true, not_false_eq_true, and_self, true_or, or_true, false_or, or_false, false_and, and_false, b_138 hm, c1, r_138_58 hm, x_178 hm i1 i2, ua_eq, Int.toNat_natCast, w32_s w1]
      refine hc _ _ ⟨μa, f.trans (Fr.us (by simp) Fr.refl), rfl, fun q hq => ?_, fa, ja, hR⟩
      rw [us_same]
      by_cases e : q = t
      · rw [zup_same e]
      · rw [zup_ne e]; exact hz q (by omega)
    · rintro L μ1 ⟨μa, f, rfl, hz, fa, ja, hR⟩
      rw [x203_138]
      simp (disch := omega) only [x203_0, x203_1, x203_3, x203_4, x203_7, x203_10, x203_11, x203_12, x203_15, x203_16, x203_19, x203_20, x203_21, x203_22, x203_23, x203_26, x203_27, x203_28, x203_29, x203_32, x203_33, x203_34, x203_37, x203_38, x203_39, x203_40, x203_43, x203_44, x203_45, x203_48, x203_49, x203_50, x203_53, x203_55, x203_56, x203_59, x203_60, x203_61, x203_62, x203_63, x203_64, x203_65, x203_68, x203_69, x203_70, x203_73, x203_75, x203_76, x203_79, x203_80, x203_81, x203_82, x203_83, x203_84, x203_87, x203_90, x203_91, x203_93, x203_94, x203_97, x203_98, x203_101, x203_102, x203_105, x203_106, x203_109, x203_110, x203_111, x203_114, x203_116, x203_117, x203_120, x203_121, x203_122, x203_123, x203_124, x203_125, x203_128, x203_131, x203_132, x203_133, x203_136, x203_137, x203_139, x203_142, x203_145, x203_146, x203_149, x203_150, x203_151, x203_152, x203_155, x203_158, x203_159, x203_160, x203_163, x203_164, x203_165, x203_168, x203_169, x203_170, x203_171, x203_172, x203_175, x203_176, x203_179, x203_180, x203_181, x203_182, x203_185, x203_188, ↓reduceIte, Bool.false_eq_true, Nat.reduceAdd, Nat.reduceLT, Nat.reduceLeDiff, Nat.reduceSub, Nat.reduceEqDiff, Int.reduceToNat, Int.reduceEq, Int.reduceLT, Int.reduceLE, Int.reduceAdd, Int.reduceSub, zg, zI, zJ, zR, zst, zkl, zn, zcat, zok, zraw, List.length_cons, List.length_nil, Option.toList, List.nil_append, List.cons_append, true_and, and_true, if_true, if_false, ne_eq, not_true, not_false_eq_true, and_self, true_or, or_true, false_or, or_false, false_and, and_false, b_138 hm, r_138_84 hm, x_198 hm, n_198 hm, show ((480 : Nat) : Int) = 480 from rfl, Int.le_refl, ua_eq, us_same, us_us, us_ne, ne_eq, show w32 1 = 1 by decide, show w32 2 = 2 by decide, show w32 3 = 3 by decide, z0]
      obtain ⟨⟨r1, r2, r3, r4⟩, r5⟩ := hR
      refine hQ _ ?_ (fun j j1 j2 j3 j4 => ?_) ⟨⟨⟨r1, ?_, ?_, ?_⟩, ?_⟩, fun k hk => ?_, ⟨?_, fun k hk => absurd hk (Nat.not_lt_zero _)⟩, ?_, fun k hk => absurd hk (Nat.not_lt_zero _)⟩ (fun k hk => ?_)
      · exact ((fa.mono (by simp)).trans (f.mono (by simp))).trans (Fr.us (by simp) (Fr.us (by simp) Fr.refl))
      · rw [us_ne (by decide), us_same, zup_ne j4, zup_ne j3, f 138 (by decide)]; exact ja j j1 j2
      · intro t ht; rw [us_ne (by decide), us_ne (by decide), us_ne (by decide), us_ne (by decide), us_ne (by decide), us_ne (by decide), us_ne (by decide), us_ne (by decide), f 173 (by decide), f 174 (by decide), f 175 (by decide), f 176 (by decide)]; exact r2 t ht
      · intro k hk; rw [us_ne (by decide), us_ne (by decide), f 177 (by decide)]; exact r3 k hk
      · rw [us_ne (by decide), us_same, zup_ne (by decide), zup_ne (by decide), f 138 (by decide)]; exact r4
      · intro t ht; rw [us_ne (by decide), us_ne (by decide), f 172 (by decide)]; exact r5 t ht
      · rw [us_ne (by decide), us_ne (by decide)]; exact hz k hk
      · rw [us_ne (by decide), us_same, zup_ne (by decide), zup_same rfl]; rfl
      · rw [us_ne (by decide), us_same, zup_same rfl]; rfl
      · rw [us_same]
        obtain q | q | q : k = 0 ∨ k = 1 ∨ k = 2 := by omega
        all_goals subst q; simp [zup]
  -- which DOORS are open
  have L92 : ∀ t L μ1, t ≤ tD τ → (∃ μa, Fr [177] μa μ1 ∧ L = [vr 138, vi (t : Nat)] ∧ (∀ q, q < t → μ1 177 q = tO τ q) ∧ Fr [138, 170, 171, 172, 173, 174, 175, 176] μ μa ∧ (∀ j, j ≠ 50 → μa 138 j = μ 138 j) ∧ ∀ t, t < tn τ → μa 172 t = 0 ∧ μa 173 t = (beF τ).1 1 t ∧ μa 174 t = (beF τ).1 2 t ∧ μa 175 t = (beF τ).1 3 t ∧ μa 176 t = (beF τ).1 4 t) → Ex d 203 92 L [] θ μ1 Q := by
    refine Ex_loop (I := fun t L μ1 => ∃ μa, Fr [177] μa μ1 ∧ L = [vr 138, vi (t : Nat)] ∧ (∀ q, q < t → μ1 177 q = tO τ q) ∧ Fr [138, 170, 171, 172, 173, 174, 175, 176] μ μa ∧ (∀ j, j ≠ 50 → μa 138 j = μ 138 j) ∧ ∀ t, t < tn τ → μa 172 t = 0 ∧ μa 173 t = (beF τ).1 1 t ∧ μa 174 t = (beF τ).1 2 t ∧ μa 175 t = (beF τ).1 3 t ∧ μa 176 t = (beF τ).1 4 t) (tD τ) ?_ ?_
    · rintro t L μ1 ht ⟨μa, f, rfl, hz, fa, ja, hR⟩ hc
      have c1 : ¬ ((tD τ : Nat) : Int) ≤ (t : Int) := by omega
      have i1 : (0 : Int) ≤ (t : Int) := by omega
      have i2 : (t : Int) < 6 := by omega
      have i3 : (0 : Int) ≤ ((6 * s + t : Nat) : Int) := by omega
      have i4 : ((6 * s + t : Nat) : Int) < 12 := by omega
      have w1 : t < 2147483647 := by omega
      have w2 : 6 * s + t < 2147483648 := by omega
      have e18 : μ1 138 18 = (s : Nat) := by rw [f 138 (by decide), ja 18 (by decide)]; exact h18
      have e157 : μ1 157 s = (tD τ : Nat) := by rw [f 157 (by decide), fa 157 (by decide)]; exact hD.1
      have e160 : μ1 160 (6 * s + t) = tO τ t := by rw [f 160 (by decide), fa 160 (by decide)]; exact (hD.2 t ht).2.2
      have z1 := (hw.2.2.2.2.2.1 t ht).2.2
      rw [x203_92]
      simp only [x203_0, x203_1, x203_3, x203_4, x203_7, x203_10, x203_11, x203_12, x203_15, x203_16, x203_19, x203_20, x203_21, x203_22, x203_23, x203_26, x203_27, x203_28, x203_29, x203_32, x203_33, x203_34, x203_37, x203_38, x203_39, x203_40, x203_43, x203_44, x203_45, x203_48, x203_49, x203_50, x203_53, x203_55, x203_56, x203_59, x203_60, x203_61, x203_62, x203_63, x203_64, x203_65, x203_68, x203_69, x203_70, x203_73, x203_75, x203_76, x203_79, x203_80, x203_81, x203_82, x203_83, x203_84, x203_87, x203_90, x203_91, x203_93, x203_94, x203_97, x203_98, x203_101, x203_102, x203_105, x203_106, x203_109, x203_110, x203_111, x203_114, x203_116, x203_117, x203_120, x203_121, x203_122, x203_123, x203_124, x203_125, x203_128, x203_131, x203_132, x203_133, x203_136, x203_137, x203_139, x203_142, x203_145, x203_146, x203_149, x203_150, x203_151, x203_152, x203_155, x203_158, x203_159, x203_160, x203_163, x203_164, x203_165, x203_168, x203_169, x203_171, x203_172, x203_175, x203_176, x203_179, x203_180, x203_181, x203_182, x203_185, x203_188, ↓reduceIte, Bool.false_eq_true, Nat.reduceAdd, Nat.reduceLT, Nat.reduceLeDiff, Nat.reduceSub, Nat.reduceEqDiff, Int.reduceToNat, Int.reduceEq, Int.reduceLT, Int.reduceLE, Int.reduceAdd, Int.reduceSub, zg, zI, zJ, zR, zst, zkl, zn, zcat, zok, zraw, List.length_cons, List.length_nil, Option.toList, List.nil_append, List.cons_append, true_and, and_true, if_true, if_false, ne_eq, not_true, not_false_eq_true, and_self, true_or, or_true, false_or, or_false, false_and, and_false, b_138 hm, r_138_32 hm, x_157 hm p1 p2, e18, e157, c1, r_138_56 hm, r_138_35 hm, x_160 hm i3 i4, n_160 hm, x_177 hm i1 i2, n_177 hm, wm6 b4, w32_add w2, e160, ua_eq, Int.toNat_natCast, w32_s w1, z1]
      refine hc _ _ ⟨μa, f.trans (Fr.us (by simp) Fr.refl), rfl, fun q hq => ?_, fa, ja, hR⟩
      rw [us_same]
      by_cases e : q = t
      · rw [zup_same e, e]
      · rw [zup_ne e]; exact hz q (by omega)
    · rintro L μ1 ⟨μa, f, rfl, hz, fa, ja, hR⟩
      have e18 : μ1 138 18 = (s : Nat) := by rw [f 138 (by decide), ja 18 (by decide)]; exact h18
      have e157 : μ1 157 s = (tD τ : Nat) := by rw [f 157 (by decide), fa 157 (by decide)]; exact hD.1
      rw [x203_92]
      simp only [x203_0, x203_1, x203_3, x203_4, x203_7, x203_10, x203_11, x203_12, x203_15, x203_16, x203_19, x203_20, x203_21, x203_22, x203_23, x203_26, x203_27, x203_28, x203_29, x203_32, x203_33, x203_34, x203_37, x203_38, x203_39, x203_40, x203_43, x203_44, x203_45, x203_48, x203_49, x203_50, x203_53, x203_55, x203_56, x203_59, x203_60, x203_61, x203_62, x203_63, x203_64, x203_65, x203_68, x203_69, x203_70, x203_73, x203_75, x203_76, x203_79, x203_80, x203_81, x203_82, x203_83, x203_84, x203_87, x203_90, x203_91, x203_93, x203_94, x203_97, x203_98, x203_101, x203_102, x203_105, x203_106, x203_109, x203_110, x203_111, x203_114, x203_116, x203_117, x203_120, x203_121, x203_122, x203_123, x203_124, x203_125, x203_128, x203_131, x203_132, x203_133, x203_136, x203_137, x203_139, x203_142, x203_145, x203_146, x203_149, x203_150, x203_151, x203_152, x203_155, x203_158, x203_159, x203_160, x203_163, x203_164, x203_165, x203_168, x203_169, x203_171, x203_172, x203_175, x203_176, x203_179, x203_180, x203_181, x203_182, x203_185, x203_188, ↓reduceIte, Bool.false_eq_true, Nat.reduceAdd, Nat.reduceLT, Nat.reduceLeDiff, Nat.reduceSub, Nat.reduceEqDiff, Int.reduceToNat, Int.reduceEq, Int.reduceLT, Int.reduceLE, Int.reduceAdd, Int.reduceSub, zg, zI, zJ, zR, zst, zkl, zn, zcat, zok, zraw, List.length_cons, List.length_nil, Option.toList, List.nil_append, List.cons_append, true_and, and_true, if_true, if_false, ne_eq, not_true, not_false_eq_true, and_self, true_or, or_true, false_or, or_false, false_and, and_false, b_138 hm, r_138_32 hm, x_157 hm p1 p2, e18, e157, Int.toNat_natCast, Int.le_refl, ua_eq, z0]
      refine L138 0 _ _ (Nat.zero_le _) ⟨_, Fr.refl, rfl, fun q hq => absurd hq (Nat.not_lt_zero _), ?_, fun j j1 j2 => ?_, ⟨⟨beF_w hw, fun t ht => ?_, fun k hk => ?_, ?_⟩, fun t ht => ?_⟩⟩
      · exact ((fa.mono (by simp)).trans (f.mono (by simp))).trans (Fr.us (by simp) Fr.refl)
      · rw [us_same, zup_ne j2, f 138 (by decide)]; exact ja j j1
      · rw [us_ne (by decide), us_ne (by decide), us_ne (by decide), us_ne (by decide), f 173 (by decide), f 174 (by decide), f 175 (by decide), f 176 (by decide)]; exact (hR t ht).2
      · rw [us_ne (by decide)]; exact hz k hk
      · rw [us_same, zup_same rfl]; rfl
      · rw [us_ne (by decide), f 172 (by decide), (hR t ht).1]; rfl
  -- the TILES
  have L2 : ∀ t L μ1, t ≤ tn τ → (L = [vr 138, vi (t : Nat)] ∧ Fr [138, 170, 171, 172, 173, 174, 175, 176] μ μ1 ∧ (∀ j, j ≠ 50 → μ1 138 j = μ 138 j) ∧ ∀ q, q < t → μ1 172 q = 0 ∧ μ1 173 q = (beF τ).1 1 q ∧ μ1 174 q = (beF τ).1 2 q ∧ μ1 175 q = (beF τ).1 3 q ∧ μ1 176 q = (beF τ).1 4 q) → Ex d 203 2 L [] θ μ1 Q := by
    refine Ex_loop (I := fun t L μ1 => L = [vr 138, vi (t : Nat)] ∧ Fr [138, 170, 171, 172, 173, 174, 175, 176] μ μ1 ∧ (∀ j, j ≠ 50 → μ1 138 j = μ 138 j) ∧ ∀ q, q < t → μ1 172 q = 0 ∧ μ1 173 q = (beF τ).1 1 q ∧ μ1 174 q = (beF τ).1 2 q ∧ μ1 175 q = (beF τ).1 3 q ∧ μ1 176 q = (beF τ).1 4 q) (tn τ) ?_ ?_
    · rintro t L μ1 ht ⟨rfl, f, j, hR⟩ hc
      have c1 : ¬ ((tn τ : Nat) : Int) ≤ (t : Int) := by omega
      have i1 : (0 : Int) ≤ (t : Int) := by omega
      have i2 : (t : Int) < 36 := by omega
      have w1 : t < 2147483647 := by omega
      have X1 : MX θ τ s μ1 := MX_fr h f (by decide) (j 18 (by decide))
      rw [x203_2]
      simp only [x203_0, x203_1, x203_3, x203_4, x203_7, x203_10, x203_11, x203_12, x203_15, x203_16, x203_19, x203_20, x203_21, x203_22, x203_23, x203_26, x203_27, x203_28, x203_29, x203_32, x203_33, x203_34, x203_37, x203_38, x203_39, x203_40, x203_43, x203_44, x203_45, x203_48, x203_49, x203_50, x203_53, x203_55, x203_56, x203_59, x203_60, x203_61, x203_62, x203_63, x203_64, x203_65, x203_68, x203_69, x203_70, x203_73, x203_75, x203_76, x203_79, x203_80, x203_81, x203_82, x203_83, x203_84, x203_87, x203_90, x203_91, x203_93, x203_94, x203_97, x203_98, x203_101, x203_102, x203_105, x203_106, x203_109, x203_110, x203_111, x203_114, x203_116, x203_117, x203_120, x203_121, x203_122, x203_123, x203_124, x203_125, x203_128, x203_131, x203_132, x203_133, x203_136, x203_137, x203_139, x203_142, x203_145, x203_146, x203_149, x203_150, x203_151, x203_152, x203_155, x203_158, x203_159, x203_160, x203_163, x203_164, x203_165, x203_168, x203_169, x203_171, x203_172, x203_175, x203_176, x203_179, x203_180, x203_181, x203_182, x203_185, x203_188, ↓reduceIte, Bool.false_eq_true, Nat.reduceAdd, Nat.reduceLT, Nat.reduceLeDiff, Nat.reduceSub, Nat.reduceEqDiff, Int.reduceToNat, Int.reduceEq, Int.reduceLT, Int.reduceLE, Int.reduceAdd, Int.reduceSub, zg, zI, zJ, zR, zst, zkl, zn, zcat, zok, zraw, List.length_cons, List.length_nil, Option.toList, List.nil_append, List.cons_append, true_and, and_true, if_true, if_false, ne_eq, not_true, not_false_eq_true, and_self, true_or, or_true, false_or, or_false, false_and, and_false, b_138 hm, hd0, mTiles _ X1, c1]
      refine mSees (d := d - 1) (by omega) X1 ht (fun μ2 f2 hv => ?_)
      obtain ⟨μ3, hμ3⟩ : ∃ μ3, μ3 = us μ2 172 (zup (μ2 172) t 0) := ⟨_, rfl⟩
      have f3 : Fr [172] μ2 μ3 := by rw [hμ3]; exact Fr.us (by simp) Fr.refl
      have m3 : μ3 138 = μ1 138 := by rw [f3 138 (by decide), f2 138 (by decide)]
      have F3 : Fr [170, 172] μ1 μ3 := (f2.mono (by simp)).trans (f3.mono (by simp))
      have X3 : MX θ τ s μ3 := MX_fr X1 F3 (by decide) (by rw [m3])
      have v3 : ∀ j, j < 13 → μ3 170 j = v0 τ t j := fun j hj => by rw [f3 170 (by decide)]; exact hv j hj
      simp only [x203_0, x203_1, x203_3, x203_4, x203_7, x203_10, x203_11, x203_12, x203_15, x203_16, x203_19, x203_20, x203_21, x203_22, x203_23, x203_26, x203_27, x203_28, x203_29, x203_32, x203_33, x203_34, x203_37, x203_38, x203_39, x203_40, x203_43, x203_44, x203_45, x203_48, x203_49, x203_50, x203_53, x203_55, x203_56, x203_59, x203_60, x203_61, x203_62, x203_63, x203_64, x203_65, x203_68, x203_69, x203_70, x203_73, x203_75, x203_76, x203_79, x203_80, x203_81, x203_82, x203_83, x203_84, x203_87, x203_90, x203_91, x203_93, x203_94, x203_97, x203_98, x203_101, x203_102, x203_105, x203_106, x203_109, x203_110, x203_111, x203_114, x203_116, x203_117, x203_120, x203_121, x203_122, x203_123, x203_124, x203_125, x203_128, x203_131, x203_132, x203_133, x203_136, x203_137, x203_139, x203_142, x203_145, x203_146, x203_149, x203_150, x203_151, x203_152, x203_155, x203_158, x203_159, x203_160, x203_163, x203_164, x203_165, x203_168, x203_169, x203_171, x203_172, x203_175, x203_176, x203_179, x203_180, x203_181, x203_182, x203_185, x203_188, ↓reduceIte, Bool.false_eq_true, Nat.reduceAdd, Nat.reduceLT, Nat.reduceLeDiff, Nat.reduceSub, Nat.reduceEqDiff, Int.reduceToNat, Int.reduceEq, Int.reduceLT, Int.reduceLE, Int.reduceAdd, Int.reduceSub, zg, zI, zJ, zR, zst, zkl, zn, zcat, zok, zraw, List.length_cons, List.length_nil, Option.toList, List.nil_append, List.cons_append, true_and, and_true, if_true, if_false, ne_eq, not_true, not_false_eq_true, and_self, true_or, or_true, false_or, or_false, false_and, and_false, b_138 hm, hd0, r_138_51 hm, x_172 hm i1 i2, n_172 hm, ua_eq, Int.toNat_natCast, ← hμ3, z0, r_138_52 hm]
      refine mSome (d := d - 1) (k := 0) (v := v0 τ t) X3 (by omega) rfl (by decide) v3 (fun μ4 f4 j4 => ?_)
      obtain ⟨μ5, hμ5⟩ : ∃ μ5, μ5 = us μ4 173 (zup (μ4 173) t (b2 (holds τ 0 (v0 τ t)))) := ⟨_, rfl⟩
      have f5 : Fr [173] μ4 μ5 := by rw [hμ5]; exact Fr.us (by simp) Fr.refl
      have m5 : ∀ j, j ≠ 50 → μ5 138 j = μ1 138 j := fun j hj => by rw [f5 138 (by decide), j4 j hj, m3]
      have F5 : Fr [138, 170, 171, 172, 173] μ1 μ5 := ((F3.mono (by simp)).trans (f4.mono (by simp))).trans (f5.mono (by simp))
      have X5 : MX θ τ s μ5 := MX_fr X1 F5 (by decide) (m5 18 (by decide))
      have v5 : ∀ j, j < 13 → μ5 170 j = v0 τ t j := fun j hj => by rw [f5 170 (by decide), f4 170 (by decide)]; exact v3 j hj
      simp only [x203_0, x203_1, x203_3, x203_4, x203_7, x203_10, x203_11, x203_12, x203_15, x203_16, x203_19, x203_20, x203_21, x203_22, x203_23, x203_26, x203_27, x203_28, x203_29, x203_32, x203_33, x203_34, x203_37, x203_38, x203_39, x203_40, x203_43, x203_44, x203_45, x203_48, x203_49, x203_50, x203_53, x203_55, x203_56, x203_59, x203_60, x203_61, x203_62, x203_63, x203_64, x203_65, x203_68, x203_69, x203_70, x203_73, x203_75, x203_76, x203_79, x203_80, x203_81, x203_82, x203_83, x203_84, x203_87, x203_90, x203_91, x203_93, x203_94, x203_97, x203_98, x203_101, x203_102, x203_105, x203_106, x203_109, x203_110, x203_111, x203_114, x203_116, x203_117, x203_120, x203_121, x203_122, x203_123, x203_124, x203_125, x203_128, x203_131, x203_132, x203_133, x203_136, x203_137, x203_139, x203_142, x203_145, x203_146, x203_149, x203_150, x203_151, x203_152, x203_155, x203_158, x203_159, x203_160, x203_163, x203_164, x203_165, x203_168, x203_169, x203_171, x203_172, x203_175, x203_176, x203_179, x203_180, x203_181, x203_182, x203_185, x203_188, ↓reduceIte, Bool.false_eq_true, Nat.reduceAdd, Nat.reduceLT, Nat.reduceLeDiff, Nat.reduceSub, Nat.reduceEqDiff, Int.reduceToNat, Int.reduceEq, Int.reduceLT, Int.reduceLE, Int.reduceAdd, Int.reduceSub, zg, zI, zJ, zR, zst, zkl, zn, zcat, zok, zraw, List.length_cons, List.length_nil, Option.toList, List.nil_append, List.cons_append, true_and, and_true, if_true, if_false, ne_eq, not_true, not_false_eq_true, and_self, true_or, or_true, false_or, or_false, false_and, and_false, b_138 hm, hd0, x_173 hm i1 i2, n_173 hm, ua_eq, Int.toNat_natCast, ← hμ5, b2_01, r_138_53 hm]
      refine mSome (d := d - 1) (k := 1) (v := v0 τ t) X5 (by omega) rfl (by decide) v5 (fun μ6 f6 j6 => ?_)
      obtain ⟨μ7, hμ7⟩ : ∃ μ7, μ7 = us μ6 174 (zup (μ6 174) t (b2 (holds τ 1 (v0 τ t)))) := ⟨_, rfl⟩
      have f7 : Fr [174] μ6 μ7 := by rw [hμ7]; exact Fr.us (by simp) Fr.refl
      have m7 : ∀ j, j ≠ 50 → μ7 138 j = μ1 138 j := fun j hj => by rw [f7 138 (by decide), j6 j hj, m5 j hj]
      have F7 : Fr [138, 170, 171, 172, 173, 174] μ1 μ7 := ((F5.mono (by simp)).trans (f6.mono (by simp))).trans (f7.mono (by simp))
      have e18 : μ7 138 18 = (s : Nat) := by rw [m7 18 (by decide), j 18 (by decide)]; exact h18
      have e150 : ∀ {μ8 : zM}, μ8 150 = μ7 150 → μ8 150 (6 * s + 4) = tN τ 7 ∧ μ8 150 (6 * s + 5) = tN τ 8 := fun {μ8} e => by
        rw [e, F7 150 (by decide), f 150 (by decide)]; exact ⟨hA.2.2.2 4 (by decide), hA.2.2.2 5 (by decide)⟩
      obtain ⟨μ8, hμ8⟩ : ∃ μ8, μ8 = us μ7 175 (zup (μ7 175) t (tN τ 7)) := ⟨_, rfl⟩
      have f8 : Fr [175] μ7 μ8 := by rw [hμ8]; exact Fr.us (by simp) Fr.refl
      have e18' : μ8 138 18 = (s : Nat) := by rw [f8 138 (by decide)]; exact e18
      obtain ⟨μ9, hμ9⟩ : ∃ μ9, μ9 = us μ8 176 (zup (μ8 176) t (tN τ 8)) := ⟨_, rfl⟩
      have f9 : Fr [176] μ8 μ9 := by rw [hμ9]; exact Fr.us (by simp) Fr.refl
      simp only [x203_0, x203_1, x203_3, x203_4, x203_7, x203_10, x203_11, x203_12, x203_15, x203_16, x203_19, x203_20, x203_21, x203_22, x203_23, x203_26, x203_27, x203_28, x203_29, x203_32, x203_33, x203_34, x203_37, x203_38, x203_39, x203_40, x203_43, x203_44, x203_45, x203_48, x203_49, x203_50, x203_53, x203_55, x203_56, x203_59, x203_60, x203_61, x203_62, x203_63, x203_64, x203_65, x203_68, x203_69, x203_70, x203_73, x203_75, x203_76, x203_79, x203_80, x203_81, x203_82, x203_83, x203_84, x203_87, x203_90, x203_91, x203_93, x203_94, x203_97, x203_98, x203_101, x203_102, x203_105, x203_106, x203_109, x203_110, x203_111, x203_114, x203_116, x203_117, x203_120, x203_121, x203_122, x203_123, x203_124, x203_125, x203_128, x203_131, x203_132, x203_133, x203_136, x203_137, x203_139, x203_142, x203_145, x203_146, x203_149, x203_150, x203_151, x203_152, x203_155, x203_158, x203_159, x203_160, x203_163, x203_164, x203_165, x203_168, x203_169, x203_171, x203_172, x203_175, x203_176, x203_179, x203_180, x203_181, x203_182, x203_185, x203_188, ↓reduceIte, Bool.false_eq_true, Nat.reduceAdd, Nat.reduceLT, Nat.reduceLeDiff, Nat.reduceSub, Nat.reduceEqDiff, Int.reduceToNat, Int.reduceEq, Int.reduceLT, Int.reduceLE, Int.reduceAdd, Int.reduceSub, zg, zI, zJ, zR, zst, zkl, zn, zcat, zok, zraw, List.length_cons, List.length_nil, Option.toList, List.nil_append, List.cons_append, true_and, and_true, if_true, if_false, ne_eq, not_true, not_false_eq_true, and_self, true_or, or_true, false_or, or_false, false_and, and_false, b_138 hm, x_174 hm i1 i2, n_174 hm, ua_eq, Int.toNat_natCast, ← hμ7, b2_01, r_138_54 hm, r_138_25 hm, e18, wm6 b4, wa4 b6, x_150 hm t1 t2, (e150 rfl).1, x_175 hm i1 i2, ← hμ8, r_138_55 hm, e18', wa5 b6, x_150 hm t3 t4, (e150 (f8 150 (by decide))).2, x_176 hm i1 i2, ← hμ9, w32_s w1]
      refine hc _ _ ⟨rfl, ?_, fun i hi => ?_, fun q hq => ?_⟩
      · exact ((f.trans (F7.mono (by simp))).trans (f8.mono (by simp))).trans (f9.mono (by simp))
      · rw [f9 138 (by decide), f8 138 (by decide), m7 i hi]; exact j i hi
      · by_cases e : q = t
        · subst e
          refine ⟨?_, ?_, ?_, ?_, ?_⟩
          · rw [f9 172 (by decide), f8 172 (by decide), f7 172 (by decide), f6 172 (by decide), f5 172 (by decide), f4 172 (by decide), hμ3, us_same, zup_same rfl]
          · rw [f9 173 (by decide), f8 173 (by decide), f7 173 (by decide), f6 173 (by decide), hμ5, us_same, zup_same rfl]; rfl
          · rw [f9 174 (by decide), f8 174 (by decide), hμ7, us_same, zup_same rfl]; rfl
          · rw [f9 175 (by decide), hμ8, us_same, zup_same rfl]; rfl
          · rw [hμ9, us_same, zup_same rfl]; rfl
        · have := hR q (by omega)
          refine ⟨?_, ?_, ?_, ?_, ?_⟩
          · rw [f9 172 (by decide), f8 172 (by decide), f7 172 (by decide), f6 172 (by decide), f5 172 (by decide), f4 172 (by decide), hμ3, us_same, zup_ne e, f2 172 (by decide)]; exact this.1
          · rw [f9 173 (by decide), f8 173 (by decide), f7 173 (by decide), f6 173 (by decide), hμ5, us_same, zup_ne e, f4 173 (by decide), f3 173 (by decide), f2 173 (by decide)]; exact this.2.1
          · rw [f9 174 (by decide), f8 174 (by decide), hμ7, us_same, zup_ne e, f6 174 (by decide), f5 174 (by decide), f4 174 (by decide), f3 174 (by decide), f2 174 (by decide)]; exact this.2.2.1
          · rw [f9 175 (by decide), hμ8, us_same, zup_ne e, F7 175 (by decide)]; exact this.2.2.2.1
          · rw [hμ9, us_same, zup_ne e, f8 176 (by decide), F7 176 (by decide)]; exact this.2.2.2.2
    · rintro L μ1 ⟨rfl, f, j, hR⟩
      have X1 : MX θ τ s μ1 := MX_fr h f (by decide) (j 18 (by decide))
      rw [x203_2]
      simp only [x203_0, x203_1, x203_3, x203_4, x203_7, x203_10, x203_11, x203_12, x203_15, x203_16, x203_19, x203_20, x203_21, x203_22, x203_23, x203_26, x203_27, x203_28, x203_29, x203_32, x203_33, x203_34, x203_37, x203_38, x203_39, x203_40, x203_43, x203_44, x203_45, x203_48, x203_49, x203_50, x203_53, x203_55, x203_56, x203_59, x203_60, x203_61, x203_62, x203_63, x203_64, x203_65, x203_68, x203_69, x203_70, x203_73, x203_75, x203_76, x203_79, x203_80, x203_81, x203_82, x203_83, x203_84, x203_87, x203_90, x203_91, x203_93, x203_94, x203_97, x203_98, x203_101, x203_102, x203_105, x203_106, x203_109, x203_110, x203_111, x203_114, x203_116, x203_117, x203_120, x203_121, x203_122, x203_123, x203_124, x203_125, x203_128, x203_131, x203_132, x203_133, x203_136, x203_137, x203_139, x203_142, x203_145, x203_146, x203_149, x203_150, x203_151, x203_152, x203_155, x203_158, x203_159, x203_160, x203_163, x203_164, x203_165, x203_168, x203_169, x203_171, x203_172, x203_175, x203_176, x203_179, x203_180, x203_181, x203_182, x203_185, x203_188, ↓reduceIte, Bool.false_eq_true, Nat.reduceAdd, Nat.reduceLT, Nat.reduceLeDiff, Nat.reduceSub, Nat.reduceEqDiff, Int.reduceToNat, Int.reduceEq, Int.reduceLT, Int.reduceLE, Int.reduceAdd, Int.reduceSub, zg, zI, zJ, zR, zst, zkl, zn, zcat, zok, zraw, List.length_cons, List.length_nil, Option.toList, List.nil_append, List.cons_append, true_and, and_true, if_true, if_false, ne_eq, not_true, not_false_eq_true, and_self, true_or, or_true, false_or, or_false, false_and, and_false, b_138 hm, hd0, mTiles _ X1, Int.le_refl]
      exact L92 0 _ _ (Nat.zero_le _) ⟨μ1, Fr.refl, rfl, fun q hq => absurd hq (Nat.not_lt_zero _), f, j, hR⟩
  simp only [x203_0, x203_1, x203_3, x203_4, x203_7, x203_10, x203_11, x203_12, x203_15, x203_16, x203_19, x203_20, x203_21, x203_22, x203_23, x203_26, x203_27, x203_28, x203_29, x203_32, x203_33, x203_34, x203_37, x203_38, x203_39, x203_40, x203_43, x203_44, x203_45, x203_48, x203_49, x203_50, x203_53, x203_55, x203_56, x203_59, x203_60, x203_61, x203_62, x203_63, x203_64, x203_65, x203_68, x203_69, x203_70, x203_73, x203_75, x203_76, x203_79, x203_80, x203_81, x203_82, x203_83, x203_84, x203_87, x203_90, x203_91, x203_93, x203_94, x203_97, x203_98, x203_101, x203_102, x203_105, x203_106, x203_109, x203_110, x203_111, x203_114, x203_116, x203_117, x203_120, x203_121, x203_122, x203_123, x203_124, x203_125, x203_128, x203_131, x203_132, x203_133, x203_136, x203_137, x203_139, x203_142, x203_145, x203_146, x203_149, x203_150, x203_151, x203_152, x203_155, x203_158, x203_159, x203_160, x203_163, x203_164, x203_165, x203_168, x203_169, x203_171, x203_172, x203_175, x203_176, x203_179, x203_180, x203_181, x203_182, x203_185, x203_188, ↓reduceIte, Bool.false_eq_true, Nat.reduceAdd, Nat.reduceLT, Nat.reduceLeDiff, Nat.reduceSub, Nat.reduceEqDiff, Int.reduceToNat, Int.reduceEq, Int.reduceLT, Int.reduceLE, Int.reduceAdd, Int.reduceSub, zg, zI, zJ, zR, zst, zkl, zn, zcat, zok, zraw, List.length_cons, List.length_nil, Option.toList, List.nil_append, List.cons_append, true_and, and_true, if_true, if_false, ne_eq, not_true, not_false_eq_true, and_self, true_or, or_true, false_or, or_false, false_and, and_false]
  exact L2 0 _ _ (Nat.zero_le _) ⟨rfl, Fr.refl, fun _ _ => rfl, fun q hq => absurd hq (Nat.not_lt_zero _)⟩
end BE
