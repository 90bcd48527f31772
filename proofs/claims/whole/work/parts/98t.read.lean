/-! THE REFERENCE reads: read -/
/-- what reading leaves -/
def RD (b : Nat) (μ μ' : zM) : Prop := (∀ a, ¬ (a = 138 ∨ (140 ≤ a ∧ a ≤ 144) ∨ (146 ≤ a ∧ a ≤ 169)) → μ' a = μ a) ∧ ∀ a j, 147 ≤ a → a ≤ 168 → j / sdN a ≠ b → μ' a j = μ a j
section RE
variable {θ : zS} {Q : Option zV → zS → zM → Prop} {μ : zM} {σ : zSt} {s : Nat}
theorem w8_i {x : Int} (h1 : -128 ≤ x) (h2 : x ≤ 127) : w8 x = x := by unfold w8; omega
theorem w1s {s : Nat} (h : s ≤ 1) : w32 (1 - (s : Int)) = ((1 - s : Nat) : Int) := by unfold w32; omega
theorem RD.sf {b : Nat} {μ1 μ2 : zM} (h : RD b μ μ1) (f : SF b μ1 μ2) : RD b μ μ2 := ⟨fun a ha => by rw [f.1 a (by omega)]; exact h.1 a ha, fun a j h1 h2 h3 => by rw [f.2 a j h1 h2 h3]; exact h.2 a j h1 h2 h3⟩
theorem RD.fr {b : Nat} {A : List Nat} {μ1 μ2 : zM} (h : RD b μ μ1) (f : Fr A μ1 μ2) (hA : ∀ a ∈ A, a = 138 ∨ (140 ≤ a ∧ a ≤ 144)) : RD b μ μ2 := ⟨fun a ha => by rw [f a (fun hh => by have := hA a hh; omega)]; exact h.1 a ha, fun a j h1 h2 h3 => by rw [f a (fun hh => by have := hA a hh; omega)]; exact h.2 a j h1 h2 h3⟩
/-- a text with a fault: all stays but the tape and the place -/
theorem MS_fail {μ' : zM} {b : Nat} {v : Int} (h : MS θ σ s μ) (f : RD b μ μ') (hb : s ≠ b) (j : ∀ j, j = 18 ∨ j = 57 ∨ j = 59 ∨ j = 62 ∨ j = 78 → μ' 138 j = μ 138 j) (h2 : μ' 138 2 = 0) (h17 : μ' 138 17 = v) (hw : wfS (sT σ, sG σ, sL σ, sV σ, (0, sB σ), v, sM σ)) :
    MS θ (sT σ, sG σ, sL σ, sV σ, (0, sB σ), v, sM σ) s μ' := by
  obtain ⟨⟨hm, hwT, hT, h18, hs⟩, hws, ⟨hR, hy, hcar, hu⟩, hl, hv, htp, hp, hK, hS⟩ := h
  have e : ∀ a, ¬ (a = 138 ∨ (140 ≤ a ∧ a ≤ 144) ∨ (146 ≤ a ∧ a ≤ 169)) → μ' a = μ a := f.1
  obtain ⟨t1, t2⟩ := TM_SF hT hS ⟨hwT.2.2.2.2.1, fun k hk => (hwT.2.2.2.2.2.2.2 k hk).1⟩ f.2 hb
  obtain ⟨⟨r1, r2, r3, r4⟩, r5⟩ := hR
  refine ⟨⟨hm, hwT, t1, by rw [j 18 (by omega)]; exact h18, hs⟩, hw, ⟨⟨⟨r1, ?_, ?_, ?_⟩, ?_⟩, ?_, ?_, ?_⟩, ?_, ?_, ⟨h2, fun k hk => absurd hk (Nat.not_lt_zero _)⟩, h17, ?_, t2⟩
  · rw [e 173 (by omega), e 174 (by omega), e 175 (by omega), e 176 (by omega)]; exact r2
  · rw [e 177 (by omega)]; exact r3
  · rw [j 57 (by omega)]; exact r4
  · rw [e 172 (by omega)]; exact r5
  · rw [e 178 (by omega)]; exact hy
  · rw [j 59 (by omega), e 179 (by omega), e 180 (by omega)]; exact hcar
  · unfold MU; rw [j 62 (by omega), e 181 (by omega), e 182 (by omega), e 183 (by omega)]; exact hu
  · intro i hi
    have := hl i hi
    show match sL σ i with
      | none => μ' 198 i = 0
      | some γ => μ' 198 i = 1 ∧ MHn (sT σ) γ i μ'
    cases hs : sL σ i with
    | none => rw [hs] at this; simp only at this ⊢; rw [e 198 (by omega)]; exact this
    | some γ =>
      rw [hs] at this
      simp only at this ⊢
      unfold MHn
      rw [e 198 (by omega), e 199 (by omega), e 200 (by omega), e 201 (by omega), e 202 (by omega), e 203 (by omega), e 204 (by omega), e 205 (by omega), e 206 (by omega), e 207 (by omega), e 208 (by omega), e 209 (by omega), e 210 (by omega), e 211 (by omega), e 212 (by omega), e 213 (by omega)]
      exact this
  · unfold MV2; rw [j 78 (by omega), e 193 (by omega), e 194 (by omega), e 195 (by omega), e 196 (by omega), e 197 (by omega)]; exact hv
  · unfold MKd; rw [e 145 (by omega)]; exact hK
theorem rRead {d : Nat} {x1 : zV} (h : MS θ σ s μ) (hd : 10 ≤ d) (hQ : ∀ s' μ', ML2 μ μ' → MS θ (rdS σ) s' μ' → Q (some (vi (rdV σ))) θ μ') : Ex d 181 0 [vr 138, x1] [] θ μ Q := by
  have hm := h.1.1
  have hd0 : 0 < d := by omega
  have hs := h.1.2.2.2.2
  have h18 := h.1.2.2.2.1
  have hws := h.2.1
  obtain ⟨hn20, hbb⟩ := hws.2.2.2.2.1
  obtain ⟨h2, hB⟩ := h.2.2.2.2.2.1
  have hKd := h.2.2.2.2.2.2.2.1
  obtain ⟨n, hn⟩ : ∃ n, n = sN σ := ⟨_, rfl⟩
  rw [← hn] at hn20 hbb h2 hB
  obtain ⟨b, hb⟩ : ∃ b, b = 1 - s := ⟨_, rfl⟩
  have hb1 : b ≤ 1 := by omega
  have hsb : s ≠ b := by omega
  have b4 : b ≤ 1000 := by omega
  obtain ⟨zz, zk, ze⟩ := zz_ok (b := sB σ) (n := n)
  -- what reading answers
  have hps := wf_ps (W := vwO 27 (sB σ) n) zz vi_9 401 0 π0 (Nat.zero_le _) (by omega) wf_0
  have hrd : rdO2 (sB σ) (sN σ) = match psG (knO2 (sB σ) n) (viO (sB σ) n) (vwO 27 (sB σ) n) 401 0 π0 with
      | .inl e => .inl (e.1, stN (sB σ) n e.2)
      | .inr x => match pF x.2 with
        | some y => .inl (y.1, stN (sB σ) n y.2)
        | none => .inr x.2 := by
    rw [ps_W (W' := vwO 32 (sB σ) n) (Z := zzO (sB σ) n) (fun i j hi hj => nm_eq hi hj) zz vi_9 401 0 π0 (Nat.zero_le _) wf_0, ← hn]
    unfold rdO2
    generalize psG (knO2 (sB σ) n) (viO (sB σ) n) (vwO 32 (sB σ) n) 401 0 π0 = r
    cases r with
    | inl e => rfl
    | inr x => rfl
  have hQ' := hQ
  unfold rdS rdV at hQ'
  have hSw := rdS_w (σ := σ) hws
  unfold rdS at hSw
  rw [hrd] at hQ' hSw
  -- the start
  obtain ⟨μa, hμa⟩ : ∃ μa, μa = us μ 138 (zup (μ 138) 4 (n : Nat)) := ⟨_, rfl⟩
  have fa : Fr [138] μ μa := by rw [hμa]; exact Fr.us (by simp) Fr.refl
  have ja : ∀ j, j ≠ 4 → μa 138 j = μ 138 j := fun j hj => by rw [hμa, us_same, zup_ne hj]
  have a4 : μa 138 4 = (n : Nat) := by rw [hμa, us_same, zup_same rfl]
  have L10 : ∀ t L μ1, t ≤ n → (L = [vr 138, vi (t : Nat)] ∧ Fr [140] μa μ1 ∧ ∀ q, q < t → μ1 140 q = sB σ q) → Ex d 181 10 L [] θ μ1 Q := by
    refine Ex_loop (I := fun t L μ1 => L = [vr 138, vi (t : Nat)] ∧ Fr [140] μa μ1 ∧ ∀ q, q < t → μ1 140 q = sB σ q) n ?_ ?_
    · rintro t L μ1 ht ⟨rfl, f, hz⟩ hc
      have c1 : ¬ ((n : Nat) : Int) ≤ (t : Int) := by omega
      have i1 : (0 : Int) ≤ (t : Int) := by omega
      have i2 : (t : Int) < 2000 := by omega
      have w1 : t < 2147483647 := by omega
      have e4 : μ1 138 4 = (n : Nat) := by rw [f 138 (by decide)]; exact a4
      have e139 : μ1 139 t = sB σ t := by rw [f 139 (by decide), fa 139 (by decide)]; exact hB t ht
      have hbt := hbb t ht
      rw [x181_10]
      simp only [x181_0, x181_1, x181_2, x181_5, x181_8, x181_9, x181_11, x181_12, x181_15, x181_18, x181_19, x181_22, x181_23, x181_24, x181_27, x181_28, x181_29, x181_30, x181_33, x181_36, x181_37, x181_38, x181_41, x181_42, x181_45, x181_46, x181_47, x181_50, x181_51, x181_52, x181_55, x181_56, x181_57, x181_60, x181_61, x181_62, x181_65, x181_66, x181_67, x181_68, x181_71, x181_72, x181_75, x181_76, x181_77, x181_80, x181_81, x181_82, x181_85, x181_88, x181_89, x181_92, x181_93, x181_96, x181_97, x181_100, x181_101, x181_104, x181_105, x181_108, x181_109, x181_113, x181_116, x181_119, x181_120, x181_121, x181_124, x181_127, x181_128, x181_131, x181_134, x181_135, x181_136, x181_139, x181_142, x181_143, x181_146, x181_149, x181_150, x181_153, x181_156, x181_157, x181_160, x181_163, x181_164, x181_167, x181_168, x181_171, x181_174, x181_175, x181_178, x181_179, x181_180, x181_183, x181_186, x181_187, x181_190, x181_191, x181_192, x181_193, x181_196, x181_199, x181_200, x181_203, x181_204, ↓reduceIte, Bool.false_eq_true, Nat.reduceAdd, Nat.reduceLT, Nat.reduceLeDiff, Nat.reduceSub, Nat.reduceEqDiff, Int.reduceToNat, Int.reduceEq, Int.reduceLT, Int.reduceLE, Int.reduceAdd, Int.reduceSub, zg, zI, zJ, zR, zst, zkl, zn, zcat, zok, zraw, List.length_cons, List.length_nil, Option.toList, List.nil_append, List.cons_append, true_and, and_true, if_true, if_false, ne_eq, not_true, not_false_eq_true, and_self, true_or, or_true, false_or, or_false, false_and, and_false, b_138 hm, e4, c1, r_138_3 hm, r_138_1 hm, x_139 hm i1 i2, n_139 hm, x_140 hm i1 i2, e139, ua_eq, Int.toNat_natCast, w8_i hbt.1 hbt.2, w32_s w1]
      refine hc _ _ ⟨rfl, f.trans (Fr.us (by simp) Fr.refl), fun q hq => ?_⟩
      rw [us_same]
      by_cases e : q = t
      · rw [zup_same e, e]
      · rw [zup_ne e]; exact hz q (by omega)
    · rintro L μ1 ⟨rfl, f, hz⟩
      have e4 : μ1 138 4 = (n : Nat) := by rw [f 138 (by decide)]; exact a4
      obtain ⟨μ2, hμ2⟩ : ∃ μ2, μ2 = us μ1 138 (zup (μ1 138) 2 0) := ⟨_, rfl⟩
      have f2 : Fr [138] μ1 μ2 := by rw [hμ2]; exact Fr.us (by simp) Fr.refl
      have j2 : ∀ j, j ≠ 2 → μ2 138 j = μ1 138 j := fun j hj => by rw [hμ2, us_same, zup_ne hj]
      rw [x181_10]
      simp only [x181_0, x181_1, x181_2, x181_5, x181_8, x181_9, x181_11, x181_12, x181_15, x181_18, x181_19, x181_22, x181_23, x181_24, x181_27, x181_28, x181_29, x181_30, x181_33, x181_36, x181_37, x181_38, x181_41, x181_42, x181_45, x181_46, x181_47, x181_50, x181_51, x181_52, x181_55, x181_56, x181_57, x181_60, x181_61, x181_62, x181_65, x181_66, x181_67, x181_68, x181_71, x181_72, x181_75, x181_76, x181_77, x181_80, x181_81, x181_82, x181_85, x181_88, x181_89, x181_92, x181_93, x181_96, x181_97, x181_100, x181_101, x181_104, x181_105, x181_108, x181_109, x181_113, x181_116, x181_119, x181_120, x181_121, x181_124, x181_127, x181_128, x181_131, x181_134, x181_135, x181_136, x181_139, x181_142, x181_143, x181_146, x181_149, x181_150, x181_153, x181_156, x181_157, x181_160, x181_163, x181_164, x181_167, x181_168, x181_171, x181_174, x181_175, x181_178, x181_179, x181_180, x181_183, x181_186, x181_187, x181_190, x181_191, x181_192, x181_193, x181_196, x181_199, x181_200, x181_203, x181_204, ↓reduceIte, Bool.false_eq_true, Nat.reduceAdd, Nat.reduceLT, Nat.reduceLeDiff, Nat.reduceSub, Nat.reduceEqDiff, Int.reduceToNat, Int.reduceEq, Int.reduceLT, Int.reduceLE, Int.reduceAdd, Int.reduceSub, zg, zI, zJ, zR, zst, zkl, zn, zcat, zok, zraw, List.length_cons, List.length_nil, Option.toList, List.nil_append, List.cons_append, true_and, and_true, if_true, if_false, ne_eq, not_true, not_false_eq_true, and_self, true_or, or_true, false_or, or_false, false_and, and_false, b_138 hm, e4, Int.le_refl, ua_eq, ← hμ2, hd0]
      refine mCut (d := d - 1) (b := sB σ) (n := n) hm (by omega) (fun k hk => by rw [f2 145 (by decide), f 145 (by decide), fa 145 (by decide)]; exact hKd k hk) ⟨by rw [j2 4 (by decide)]; exact e4, fun k hk => by rw [f2 140 (by decide)]; exact hz k hk, hn20, hbb⟩ (fun μ3 f3 j3 tk => ?_)
      have j30 : ∀ j, j ≠ 2 → j ≠ 4 → j ≠ 10 → μ3 138 j = μ 138 j := fun j h1 h2 h3 => by rw [j3 j h3, j2 j h1, f 138 (by decide), ja j h2]
      have e18 : μ3 138 18 = (s : Nat) := by rw [j30 18 (by decide) (by decide) (by decide)]; exact h18
      obtain ⟨μ4, hμ4⟩ : ∃ μ4, μ4 = us μ3 138 (zup (zup (zup (zup (zup (zup (μ3 138) 11 0) 12 0) 13 0) 15 0) 19 (b : Nat)) 20 0) := ⟨_, rfl⟩
      have f4 : Fr [138] μ3 μ4 := by rw [hμ4]; exact Fr.us (by simp) Fr.refl
      have e19 : μ4 138 19 = (b : Nat) := by rw [hμ4, us_same, zup_ne (by decide), zup_same rfl]
      simp only [x181_0, x181_1, x181_2, x181_5, x181_8, x181_9, x181_11, x181_12, x181_15, x181_18, x181_19, x181_22, x181_23, x181_24, x181_27, x181_28, x181_29, x181_30, x181_33, x181_36, x181_37, x181_38, x181_41, x181_42, x181_45, x181_46, x181_47, x181_50, x181_51, x181_52, x181_55, x181_56, x181_57, x181_60, x181_61, x181_62, x181_65, x181_66, x181_67, x181_68, x181_71, x181_72, x181_75, x181_76, x181_77, x181_80, x181_81, x181_82, x181_85, x181_88, x181_89, x181_92, x181_93, x181_96, x181_97, x181_100, x181_101, x181_104, x181_105, x181_108, x181_109, x181_113, x181_116, x181_119, x181_120, x181_121, x181_124, x181_127, x181_128, x181_131, x181_134, x181_135, x181_136, x181_139, x181_142, x181_143, x181_146, x181_149, x181_150, x181_153, x181_156, x181_157, x181_160, x181_163, x181_164, x181_167, x181_168, x181_171, x181_174, x181_175, x181_178, x181_179, x181_180, x181_183, x181_186, x181_187, x181_190, x181_191, x181_192, x181_193, x181_196, x181_199, x181_200, x181_203, x181_204, ↓reduceIte, Bool.false_eq_true, Nat.reduceAdd, Nat.reduceLT, Nat.reduceLeDiff, Nat.reduceSub, Nat.reduceEqDiff, Int.reduceToNat, Int.reduceEq, Int.reduceLT, Int.reduceLE, Int.reduceAdd, Int.reduceSub, zg, zI, zJ, zR, zst, zkl, zn, zcat, zok, zraw, List.length_cons, List.length_nil, Option.toList, List.nil_append, List.cons_append, true_and, and_true, if_true, if_false, ne_eq, not_true, not_false_eq_true, and_self, true_or, or_true, false_or, or_false, false_and, and_false, b_138 hm, ua_eq, us_same, us_us, zup_ne (show (18 : Nat) ≠ 15 by decide), zup_ne (show (18 : Nat) ≠ 13 by decide), zup_ne (show (18 : Nat) ≠ 12 by decide), zup_ne (show (18 : Nat) ≠ 11 by decide), e18, w1s hs, ← hb, ← hμ4, e19, hd0]
      refine mClears (d := d - 1) hm hb1 (fun μ5 s5 m5 M5 => ?_)
      have e19' : μ5 138 19 = (b : Nat) := by rw [m5]; exact e19
      obtain ⟨μ6, hμ6⟩ : ∃ μ6, μ6 = us μ5 138 (zup (zup (μ5 138) 36 ((150 * b : Nat) : Int)) 43 ((420 * b : Nat) : Int)) := ⟨_, rfl⟩
      have f6 : Fr [138] μ5 μ6 := by rw [hμ6]; exact Fr.us (by simp) Fr.refl
      simp only [x181_0, x181_1, x181_2, x181_5, x181_8, x181_9, x181_11, x181_12, x181_15, x181_18, x181_19, x181_22, x181_23, x181_24, x181_27, x181_28, x181_29, x181_30, x181_33, x181_36, x181_37, x181_38, x181_41, x181_42, x181_45, x181_46, x181_47, x181_50, x181_51, x181_52, x181_55, x181_56, x181_57, x181_60, x181_61, x181_62, x181_65, x181_66, x181_67, x181_68, x181_71, x181_72, x181_75, x181_76, x181_77, x181_80, x181_81, x181_82, x181_85, x181_88, x181_89, x181_92, x181_93, x181_96, x181_97, x181_100, x181_101, x181_104, x181_105, x181_108, x181_109, x181_113, x181_116, x181_119, x181_120, x181_121, x181_124, x181_127, x181_128, x181_131, x181_134, x181_135, x181_136, x181_139, x181_142, x181_143, x181_146, x181_149, x181_150, x181_153, x181_156, x181_157, x181_160, x181_163, x181_164, x181_167, x181_168, x181_171, x181_174, x181_175, x181_178, x181_179, x181_180, x181_183, x181_186, x181_187, x181_190, x181_191, x181_192, x181_193, x181_196, x181_199, x181_200, x181_203, x181_204, ↓reduceIte, Bool.false_eq_true, Nat.reduceAdd, Nat.reduceLT, Nat.reduceLeDiff, Nat.reduceSub, Nat.reduceEqDiff, Int.reduceToNat, Int.reduceEq, Int.reduceLT, Int.reduceLE, Int.reduceAdd, Int.reduceSub, zg, zI, zJ, zR, zst, zkl, zn, zcat, zok, zraw, List.length_cons, List.length_nil, Option.toList, List.nil_append, List.cons_append, true_and, and_true, if_true, if_false, ne_eq, not_true, not_false_eq_true, and_self, true_or, or_true, false_or, or_false, false_and, and_false, b_138 hm, ua_eq, us_same, us_us, zup_ne (show (19 : Nat) ≠ 36 by decide), e19', wm150 b4, wm420 b4, ← hμ6]
      have q6 : ∀ j, j ≠ 36 → j ≠ 43 → μ6 138 j = μ4 138 j := fun j h1 h2 => by rw [hμ6, us_same, zup_ne h2, zup_ne h1, m5]
      have q4 : ∀ j, j ≠ 11 → j ≠ 12 → j ≠ 13 → j ≠ 15 → j ≠ 19 → j ≠ 20 → μ4 138 j = μ3 138 j := fun j h1 h2 h3 h4 h5 h6 => by rw [hμ4, us_same, zup_ne h6, zup_ne h5, zup_ne h4, zup_ne h3, zup_ne h2, zup_ne h1]
      have g6 : ∀ j, j = 17 ∨ j = 18 ∨ j = 57 ∨ j = 59 ∨ j = 62 ∨ j = 78 → μ6 138 j = μ 138 j := fun j hj => by rw [q6 j (by omega) (by omega), q4 j (by omega) (by omega) (by omega) (by omega) (by omega) (by omega), j30 j (by omega) (by omega) (by omega)]
      have g2 : μ6 138 2 = 0 := by rw [q6 2 (by decide) (by decide), q4 2 (by decide) (by decide) (by decide) (by decide) (by decide) (by decide), j3 2 (by decide), hμ2, us_same, zup_same rfl]
      have R6 : RD b μ μ6 := by
        have r0 : RD b μ μ := ⟨fun _ _ => rfl, fun _ _ _ _ _ => rfl⟩
        exact ((((((r0.fr fa (by simp)).fr f (by simp)).fr f2 (by simp)).fr f3 (by simp)).fr f4 (by simp)).sf s5).fr f6 (by simp)
      have M6 : TM (τP π0) b μ6 := TM_fr (fun a a1 a2 => f6 a (by simp; omega)) M5
      have T6 : TR (knO2 (sB σ) n) (viO (sB σ) n) (vwO 27 (sB σ) n) (fun j => ((stN (sB σ) n j : Nat) : Int)) (zzO (sB σ) n) μ6 := by
        refine ⟨zz, vi_9, fun j hj => (tk_b (st_b j).2).2.2.1, fun j hj => ?_⟩
        rw [f6 141 (by decide), f6 142 (by decide), f6 143 (by decide), f6 144 (by decide), s5.1 141 (by decide), s5.1 142 (by decide), s5.1 143 (by decide), s5.1 144 (by decide), f4 141 (by decide), f4 142 (by decide), f4 143 (by decide), f4 144 (by decide)]
        exact tk j hj
      have P6 : PTm (vwO 27 (sB σ) n) (fun j => ((stN (sB σ) n j : Nat) : Int)) b π0 0 (420 * b) (150 * b) μ6 := by
        refine PTm_0 hb1 M6 ?_ ?_ ?_ ?_ ?_ ?_ ?_ ?_
        · rw [hμ6, us_same, zup_same rfl]
        · rw [hμ6, us_same, zup_ne (by decide), zup_same rfl]
        · rw [q6 20 (by decide) (by decide), hμ4, us_same, zup_same rfl]
        · rw [q6 15 (by decide) (by decide), hμ4, us_same, zup_ne (by decide), zup_ne (by decide), zup_same rfl]
        · rw [q6 19 (by decide) (by decide)]; exact e19
        · rw [q6 11 (by decide) (by decide), hμ4, us_same, zup_ne (by decide), zup_ne (by decide), zup_ne (by decide), zup_ne (by decide), zup_ne (by decide), zup_same rfl]
        · rw [q6 12 (by decide) (by decide), hμ4, us_same, zup_ne (by decide), zup_ne (by decide), zup_ne (by decide), zup_ne (by decide), zup_same rfl]
        · rw [q6 13 (by decide) (by decide), hμ4, us_same, zup_ne (by decide), zup_ne (by decide), zup_ne (by decide), zup_same rfl]
      have hst : ∀ i j, i < j → j ≤ zzO (sB σ) n → (fun j => ((stN (sB σ) n j : Nat) : Int)) i < (fun j => ((stN (sB σ) n j : Nat) : Int)) j := fun i j hij hj => by
        have := st_up zk (j - i - 1) i (by omega)
        rw [show i + (j - i - 1) + 1 = j by omega] at this
        show ((stN (sB σ) n i : Nat) : Int) < ((stN (sB σ) n j : Nat) : Int)
        omega
      -- a fault, from a state that reading left
      have bad : ∀ {μ7 : zM} {v : Int} (w : Int), RD b μ μ7 → (∀ j, j = 18 ∨ j = 57 ∨ j = 59 ∨ j = 62 ∨ j = 78 → μ7 138 j = μ 138 j) → μ7 138 2 = 0 → wfS (sT σ, sG σ, sL σ, sV σ, (0, sB σ), v, sM σ) → (∀ s' μ', ML2 μ μ' → MS θ (sT σ, sG σ, sL σ, sV σ, (0, sB σ), v, sM σ) s' μ' → Q (some (vi w)) θ μ') → Q (some (vi w)) θ (us μ7 138 (zup (μ7 138) 17 v)) := by
        intro μ7 v w R7 j7 e72 hw hq
        have f7 : Fr [138] μ7 (us μ7 138 (zup (μ7 138) 17 v)) := Fr.us (by simp) Fr.refl
        have R8 := R7.fr f7 (by simp)
        exact hq s _ (fun a ha => R8.1 a (by omega)) (MS_fail h R8 hsb (fun j hj => by rw [us_same, zup_ne (by omega)]; exact j7 j hj) (by rw [us_same, zup_ne (by decide)]; exact e72) (by rw [us_same, zup_same rfl]) hw)
      have z0 : (0 : Int) ≤ 0 := by omega
      refine mTells (b := b) hm (by omega) T6 hst hb1 401 0 π0 (420 * b) (150 * b) μ6 (Nat.zero_le _) (by omega) wf_0 SF.refl JF.refl P6 ?_
      generalize psG (knO2 (sB σ) n) (viO (sB σ) n) (vwO 27 (sB σ) n) 401 0 π0 = r at hQ' hSw hps ⊢
      cases r with
      | inl e =>
        intro μ7 hF
        simp only at hQ' hSw
        obtain ⟨F1, F2, F3, F4, F5, _⟩ := hF
        have n13 : ¬ μ7 138 13 ≤ 0 := by omega
        have k7 : ∀ j, j = 2 ∨ j = 18 ∨ j = 57 ∨ j = 59 ∨ j = 62 ∨ j = 78 → μ7 138 j = μ6 138 j := fun j hj => F2 j (by omega) (by omega) (by omega) (by omega) (by omega) (by omega) (by omega) (by omega) (by omega) (by omega)
        have n13' : ¬ ((e.1 : Nat) : Int) ≤ 0 := by omega
        have := bad (v := ((stN (sB σ) n e.2 : Nat) : Int)) (e.1 : Nat) (R6.sf F1) (fun j hj => by rw [k7 j (by omega)]; exact g6 j (by omega)) (by rw [k7 2 (by omega)]; exact g2) (hSw (fun π hπ => by cases hπ)) hQ'
        simp only [x181_0, x181_1, x181_2, x181_5, x181_8, x181_9, x181_11, x181_12, x181_15, x181_18, x181_19, x181_22, x181_23, x181_24, x181_27, x181_28, x181_29, x181_30, x181_33, x181_36, x181_37, x181_38, x181_41, x181_42, x181_45, x181_46, x181_47, x181_50, x181_51, x181_52, x181_55, x181_56, x181_57, x181_60, x181_61, x181_62, x181_65, x181_66, x181_67, x181_68, x181_71, x181_72, x181_75, x181_76, x181_77, x181_80, x181_81, x181_82, x181_85, x181_88, x181_89, x181_92, x181_93, x181_96, x181_97, x181_100, x181_101, x181_104, x181_105, x181_108, x181_109, x181_113, x181_116, x181_119, x181_120, x181_121, x181_124, x181_127, x181_128, x181_131, x181_134, x181_135, x181_136, x181_139, x181_142, x181_143, x181_146, x181_149, x181_150, x181_153, x181_156, x181_157, x181_160, x181_163, x181_164, x181_167, x181_168, x181_171, x181_174, x181_175, x181_178, x181_179, x181_180, x181_183, x181_186, x181_187, x181_190, x181_191, x181_192, x181_193, x181_196, x181_199, x181_200, x181_203, x181_204, ↓reduceIte, Bool.false_eq_true, Nat.reduceAdd, Nat.reduceLT, Nat.reduceLeDiff, Nat.reduceSub, Nat.reduceEqDiff, Int.reduceToNat, Int.reduceEq, Int.reduceLT, Int.reduceLE, Int.reduceAdd, Int.reduceSub, zg, zI, zJ, zR, zst, zkl, zn, zcat, zok, zraw, List.length_cons, List.length_nil, Option.toList, List.nil_append, List.cons_append, true_and, and_true, if_true, if_false, ne_eq, not_true, not_false_eq_true, and_self, true_or, or_true, false_or, or_false, false_and, and_false, b_138 hm, F4, F5, ua_eq, us_same, zup_ne (show (13 : Nat) ≠ 17 by decide), n13']
        exact this
      | inr x =>
        obtain ⟨o1, o2, o3⟩ := hps
        intro μ7 cB lB S7 J7 P7
        obtain ⟨⟨M7, B7⟩, _, _, _, L7, p19, p11, p12, p13⟩ := P7
        have k7 : ∀ j, j = 2 ∨ j = 17 ∨ j = 18 ∨ j = 57 ∨ j = 59 ∨ j = 62 ∨ j = 78 → μ7 138 j = μ6 138 j := fun j hj => J7 j (by omega) (by omega) (by omega) (by omega) (by omega) (by omega) (by omega) (by omega) (by omega) (by omega)
        cases hF : pF x.2 with
        | some y =>
          rw [hF] at L7
          simp only [hF] at hQ' hSw
          obtain ⟨L15, L16⟩ := L7
          have hy := (o3.2.2.2.2 y hF).1
          have n15 : ¬ ((y.1 : Nat) : Int) ≤ 0 := by omega
          have := bad (v := ((stN (sB σ) n y.2 : Nat) : Int)) (y.1 : Nat) (R6.sf S7) (fun j hj => by rw [k7 j (by omega)]; exact g6 j (by omega)) (by rw [k7 2 (by omega)]; exact g2) (hSw (fun π hπ => by cases hπ)) hQ'
          simp only [x181_0, x181_1, x181_2, x181_5, x181_8, x181_9, x181_11, x181_12, x181_15, x181_18, x181_19, x181_22, x181_23, x181_24, x181_27, x181_28, x181_29, x181_30, x181_33, x181_36, x181_37, x181_38, x181_41, x181_42, x181_45, x181_46, x181_47, x181_50, x181_51, x181_52, x181_55, x181_56, x181_57, x181_60, x181_61, x181_62, x181_65, x181_66, x181_67, x181_68, x181_71, x181_72, x181_75, x181_76, x181_77, x181_80, x181_81, x181_82, x181_85, x181_88, x181_89, x181_92, x181_93, x181_96, x181_97, x181_100, x181_101, x181_104, x181_105, x181_108, x181_109, x181_113, x181_116, x181_119, x181_120, x181_121, x181_124, x181_127, x181_128, x181_131, x181_134, x181_135, x181_136, x181_139, x181_142, x181_143, x181_146, x181_149, x181_150, x181_153, x181_156, x181_157, x181_160, x181_163, x181_164, x181_167, x181_168, x181_171, x181_174, x181_175, x181_178, x181_179, x181_180, x181_183, x181_186, x181_187, x181_190, x181_191, x181_192, x181_193, x181_196, x181_199, x181_200, x181_203, x181_204, ↓reduceIte, Bool.false_eq_true, Nat.reduceAdd, Nat.reduceLT, Nat.reduceLeDiff, Nat.reduceSub, Nat.reduceEqDiff, Int.reduceToNat, Int.reduceEq, Int.reduceLT, Int.reduceLE, Int.reduceAdd, Int.reduceSub, zg, zI, zJ, zR, zst, zkl, zn, zcat, zok, zraw, List.length_cons, List.length_nil, Option.toList, List.nil_append, List.cons_append, true_and, and_true, if_true, if_false, ne_eq, not_true, not_false_eq_true, and_self, true_or, or_true, false_or, or_false, false_and, and_false, b_138 hm, p13, z0, L15, L16, n15, ua_eq, us_same, zup_ne (show (13 : Nat) ≠ 17 by decide), zup_ne (show (15 : Nat) ≠ 17 by decide)]
          exact this
        | none =>
          rw [hF] at L7
          simp only [hF] at hQ' hSw
          have L15 : μ7 138 15 = 0 := L7
          have hwT := wfT_P o3 hF
          obtain ⟨μ8, hμ8⟩ : ∃ μ8, μ8 = us μ7 138 (zup (zup (μ7 138) 17 (-1)) 18 (b : Nat)) := ⟨_, rfl⟩
          have f8 : Fr [138] μ7 μ8 := by rw [hμ8]; exact Fr.us (by simp) Fr.refl
          have X8 : MX θ (τP x.2) b μ8 := ⟨hm, hwT, TM_fr (fun a a1 a2 => f8 a (by simp; omega)) M7, by rw [hμ8, us_same, zup_same rfl], hb1⟩
          simp only [x181_0, x181_1, x181_2, x181_5, x181_8, x181_9, x181_11, x181_12, x181_15, x181_18, x181_19, x181_22, x181_23, x181_24, x181_27, x181_28, x181_29, x181_30, x181_33, x181_36, x181_37, x181_38, x181_41, x181_42, x181_45, x181_46, x181_47, x181_50, x181_51, x181_52, x181_55, x181_56, x181_57, x181_60, x181_61, x181_62, x181_65, x181_66, x181_67, x181_68, x181_71, x181_72, x181_75, x181_76, x181_77, x181_80, x181_81, x181_82, x181_85, x181_88, x181_89, x181_92, x181_93, x181_96, x181_97, x181_100, x181_101, x181_104, x181_105, x181_108, x181_109, x181_113, x181_116, x181_119, x181_120, x181_121, x181_124, x181_127, x181_128, x181_131, x181_134, x181_135, x181_136, x181_139, x181_142, x181_143, x181_146, x181_149, x181_150, x181_153, x181_156, x181_157, x181_160, x181_163, x181_164, x181_167, x181_168, x181_171, x181_174, x181_175, x181_178, x181_179, x181_180, x181_183, x181_186, x181_187, x181_190, x181_191, x181_192, x181_193, x181_196, x181_199, x181_200, x181_203, x181_204, ↓reduceIte, Bool.false_eq_true, Nat.reduceAdd, Nat.reduceLT, Nat.reduceLeDiff, Nat.reduceSub, Nat.reduceEqDiff, Int.reduceToNat, Int.reduceEq, Int.reduceLT, Int.reduceLE, Int.reduceAdd, Int.reduceSub, zg, zI, zJ, zR, zst, zkl, zn, zcat, zok, zraw, List.length_cons, List.length_nil, Option.toList, List.nil_append, List.cons_append, true_and, and_true, if_true, if_false, ne_eq, not_true, not_false_eq_true, and_self, true_or, or_true, false_or, or_false, false_and, and_false, b_138 hm, p13, z0, L15, ua_eq, us_same, us_us, zup_ne (show (13 : Nat) ≠ 17 by decide), zup_ne (show (15 : Nat) ≠ 17 by decide), zup_ne (show (19 : Nat) ≠ 17 by decide), p19, ← hμ8, hd0]
          refine mBegins (d := d - 1) X8 (by omega) (fun μ9 f9 j9 N9 h9 => ?_)
          simp only [x181_0, x181_1, x181_2, x181_5, x181_8, x181_9, x181_11, x181_12, x181_15, x181_18, x181_19, x181_22, x181_23, x181_24, x181_27, x181_28, x181_29, x181_30, x181_33, x181_36, x181_37, x181_38, x181_41, x181_42, x181_45, x181_46, x181_47, x181_50, x181_51, x181_52, x181_55, x181_56, x181_57, x181_60, x181_61, x181_62, x181_65, x181_66, x181_67, x181_68, x181_71, x181_72, x181_75, x181_76, x181_77, x181_80, x181_81, x181_82, x181_85, x181_88, x181_89, x181_92, x181_93, x181_96, x181_97, x181_100, x181_101, x181_104, x181_105, x181_108, x181_109, x181_113, x181_116, x181_119, x181_120, x181_121, x181_124, x181_127, x181_128, x181_131, x181_134, x181_135, x181_136, x181_139, x181_142, x181_143, x181_146, x181_149, x181_150, x181_153, x181_156, x181_157, x181_160, x181_163, x181_164, x181_167, x181_168, x181_171, x181_174, x181_175, x181_178, x181_179, x181_180, x181_183, x181_186, x181_187, x181_190, x181_191, x181_192, x181_193, x181_196, x181_199, x181_200, x181_203, x181_204, ↓reduceIte, Bool.false_eq_true, Nat.reduceAdd, Nat.reduceLT, Nat.reduceLeDiff, Nat.reduceSub, Nat.reduceEqDiff, Int.reduceToNat, Int.reduceEq, Int.reduceLT, Int.reduceLE, Int.reduceAdd, Int.reduceSub, zg, zI, zJ, zR, zst, zkl, zn, zcat, zok, zraw, List.length_cons, List.length_nil, Option.toList, List.nil_append, List.cons_append, true_and, and_true, if_true, if_false, ne_eq, not_true, not_false_eq_true, and_self, true_or, or_true, false_or, or_false, false_and, and_false]
          have R8 := (R6.sf S7).fr f8 (by simp)
          have j8 : ∀ j, j ≠ 17 → j ≠ 18 → μ8 138 j = μ7 138 j := fun j h1 h2 => by rw [hμ8, us_same, zup_ne h2, zup_ne h1]
          have e9 : ∀ a, ¬ (a = 138 ∨ (140 ≤ a ∧ a ≤ 144) ∨ (146 ≤ a ∧ a ≤ 178) ∨ a = 198) → μ9 a = μ a := fun a ha => by rw [f9 a (by simp; omega)]; exact R8.1 a (by omega)
          refine hQ' b μ9 (fun a ha => e9 a (by omega)) ⟨MX_fr X8 f9 (by decide) (j9 18 (by decide) (by decide) (by decide) (by decide)), hSw (fun π hπ => by injection hπ with hπ; rw [← hπ]; exact hwT), N9, fun i hi => h9 i hi, ?_, ⟨?_, fun k hk => absurd hk (Nat.not_lt_zero _)⟩, ?_, ?_, cB, lB, ?_⟩
          · have hv := h.2.2.2.2.1
            show MV2 (sV σ) μ9
            unfold MV2; rw [j9 78 (by decide) (by decide) (by decide) (by decide), j8 78 (by decide) (by decide), k7 78 (by omega), g6 78 (by omega), e9 193 (by omega), e9 194 (by omega), e9 195 (by omega), e9 196 (by omega), e9 197 (by omega)]; exact hv
          · show μ9 138 2 = 0
            rw [j9 2 (by decide) (by decide) (by decide) (by decide), j8 2 (by decide) (by decide), k7 2 (by omega)]; exact g2
          · show μ9 138 17 = -1
            rw [j9 17 (by decide) (by decide) (by decide) (by decide), hμ8, us_same, zup_ne (by decide), zup_same rfl]
          · unfold MKd; rw [e9 145 (by omega)]; exact hKd
          · show TQb (τP x.2) b cB lB μ9
            unfold TQb; rw [f9 152 (by decide), f9 153 (by decide), f9 155 (by decide), f9 156 (by decide), f9 164 (by decide), f9 166 (by decide), f8 152 (by decide), f8 153 (by decide), f8 155 (by decide), f8 156 (by decide), f8 164 (by decide), f8 166 (by decide)]; exact B7
  simp only [x181_0, x181_1, x181_2, x181_5, x181_8, x181_9, x181_11, x181_12, x181_15, x181_18, x181_19, x181_22, x181_23, x181_24, x181_27, x181_28, x181_29, x181_30, x181_33, x181_36, x181_37, x181_38, x181_41, x181_42, x181_45, x181_46, x181_47, x181_50, x181_51, x181_52, x181_55, x181_56, x181_57, x181_60, x181_61, x181_62, x181_65, x181_66, x181_67, x181_68, x181_71, x181_72, x181_75, x181_76, x181_77, x181_80, x181_81, x181_82, x181_85, x181_88, x181_89, x181_92, x181_93, x181_96, x181_97, x181_100, x181_101, x181_104, x181_105, x181_108, x181_109, x181_113, x181_116, x181_119, x181_120, x181_121, x181_124, x181_127, x181_128, x181_131, x181_134, x181_135, x181_136, x181_139, x181_142, x181_143, x181_146, x181_149, x181_150, x181_153, x181_156, x181_157, x181_160, x181_163, x181_164, x181_167, x181_168, x181_171, x181_174, x181_175, x181_178, x181_179, x181_180, x181_183, x181_186, x181_187, x181_190, x181_191, x181_192, x181_193, x181_196, x181_199, x181_200, x181_203, x181_204, ↓reduceIte, Bool.false_eq_true, Nat.reduceAdd, Nat.reduceLT, Nat.reduceLeDiff, Nat.reduceSub, Nat.reduceEqDiff, Int.reduceToNat, Int.reduceEq, Int.reduceLT, Int.reduceLE, Int.reduceAdd, Int.reduceSub, zg, zI, zJ, zR, zst, zkl, zn, zcat, zok, zraw, List.length_cons, List.length_nil, Option.toList, List.nil_append, List.cons_append, true_and, and_true, if_true, if_false, ne_eq, not_true, not_false_eq_true, and_self, true_or, or_true, false_or, or_false, false_and, and_false, b_138 hm, h2, ua_eq, ← hμa]
  exact L10 0 _ _ (Nat.zero_le _) ⟨rfl, Fr.refl, fun q hq => absurd hq (Nat.not_lt_zero _)⟩
end RE
