/-! THE GALE: liftOf, landingCell, meet, run -/
theorem tdiv10 (D : Int) : D / 10 ≤ D.tdiv 10 ∧ D.tdiv 10 ≤ D / 10 + 1 := by
  rcases Int.le_total 0 D with h | h
  · rw [Int.tdiv_eq_ediv_of_nonneg h]; omega
  · have e : D.tdiv 10 = -((-D) / 10) := by
      rw [← Int.tdiv_eq_ediv_of_nonneg (show 0 ≤ -D by omega), Int.neg_tdiv]; omega
    rw [e]; omega
theorem GB_fr {τ : zT} {lost : Nat → Int} {μ μ' : zM} (h44 : μ' 44 = μ 44) (h45 : μ' 45 = μ 45) (h12 : μ' 40 12 = μ 40 12) (h : GB τ lost μ) : GB τ lost μ' := by
  unfold GB; rw [h44, h45, h12]; exact h
theorem VG_fr {τ : zT} {od lost : Nat → Int} {g w : Int} {μ μ' : zM} (h10 : μ' 10 = μ 10) (h : VG τ od lost g w μ) : VG τ od lost g w μ' := by
  unfold VG; rw [h10]; exact h
theorem VA_fr {τ : zT} {ρ : zF} {lost : Nat → Int} {t : Nat} {g w : Int} {μ μ' : zM} (h10 : μ' 10 = μ 10) (h : VA τ ρ lost t g w μ) : VA τ ρ lost t g w μ' := by
  unfold VA; rw [h10]; exact h
/-- the VARS as liftOf leaves them -/
def VL (τ : zT) (ρ : zF) (lost : Nat → Int) (t : Nat) (g w : Int) (μ : zM) : Prop := VA τ ρ lost t g w μ ∨ ∀ k, k < 4 → tL τ k = none
theorem VL_of {τ : zT} {ρ : zF} {lost : Nat → Int} {t : Nat} {g w : Int} {μ : zM} (h : VL τ ρ lost t g w μ) {k : Nat} (hk : k < 4) : (∀ j, j < 13 → μ 10 j = va τ ρ lost t g w j) ∨ tL τ k = none := by
  rcases h with h | h
  · exact Or.inl h
  · exact Or.inr (h k hk)
theorem VL_fr {τ : zT} {ρ : zF} {lost : Nat → Int} {t : Nat} {g w : Int} {μ μ' : zM} (h10 : μ' 10 = μ 10) (h : VL τ ρ lost t g w μ) : VL τ ρ lost t g w μ' := by
  rcases h with h | h
  · exact Or.inl (VA_fr h10 h)
  · exact Or.inr h
section LR
variable {θ : zS} {T U : Nat} {τ : zT} {Q : Option zV → zS → zM → Prop} {μ : zM} {ρ : zF} {lost : Nat → Int} {g w : Int}
theorem cLift51 {d t r : Nat} {x7 x8 : zV} (h : CX θ T U τ μ) (hF : CF τ ρ r μ) (hd : 2 ≤ d) (ht : t < tn τ) (hg : 0 ≤ g ∧ g ≤ 99) (hB : GB τ lost μ) (hV : VG τ ρ.2.1 lost g w μ) (hL : VL τ ρ lost t g w μ) (hz : lz lost)
    (hQ : ∀ μ', Fr [11, 40] μ μ' → (∀ j, j ≠ 5 → j ≠ 6 → j ≠ 7 → μ' 40 j = μ 40 j) → μ' 40 5 = suO τ ρ lost t g w → μ' 40 6 = prO τ ρ lost t g w → μ' 40 7 = hoO τ ρ lost t g w → Q (some (vi (liO τ ρ lost t g w))) θ μ') :
    Ex d 15 51 [vr 40, vr r, vi (t : Nat), vr 10, vr (T + 5), vr (T + 6), vr (T + 7), x7, x8] [] θ μ Q := by
  have hX := h
  have hFF := hF
  obtain ⟨⟨hc, hT, hU, hTU, h2T, h2U, hgT⟩, hw, hC, hCc⟩ := h
  obtain ⟨hrf, hwF, hR1, hR2, hR3, hR4⟩ := hF
  have hr := rfs_q hc hrf
  unfold rfs at hrf
  have hn := tn_b hw
  have hd0 : 0 < d := by omega
  have hed : μ (T + 13) t = edO τ t := (hC.2.2.2.2 t ht).2.2
  have hedb := ed_b (τ := τ) (t := t)
  have hlb := hl_b hw hz
  have hdb := dr_b (od := ρ.2.1) (w := w) hw hwF.2.1
  obtain ⟨v5, v6, v7, v8, v9⟩ := hV
  have hge0 : 0 ≤ g * edO τ t := Int.mul_nonneg hg.1 hedb.1
  have hge : g * edO τ t ≤ 99 * 2 := Int.mul_le_mul hg.2 hedb.2 hedb.1 (by omega)
  have hgd : (g * edO τ t).tdiv 2 = g * edO τ t / 2 := Int.tdiv_eq_ediv_of_nonneg hge0
  have a1 : w32 (g * edO τ t) = g * edO τ t := w32_i (by omega) (by omega)
  have a2 : w32 ((g * edO τ t).tdiv 2) = (g * edO τ t).tdiv 2 := by rw [hgd]; exact w32_i (by omega) (by omega)
  have a3 : w32 (g + (g * edO τ t).tdiv 2) = g + (g * edO τ t).tdiv 2 := by rw [hgd]; exact w32_i (by omega) (by omega)
  have hdf : -90 ≤ inO τ ρ.2.1 lost w - ouO τ ρ.2.1 lost w ∧ inO τ ρ.2.1 lost w - ouO τ ρ.2.1 lost w ≤ 90 := by
    unfold inO ouO
    by_cases hf : tN τ 2 = w
    · rw [if_pos hf, if_pos hf]; omega
    · rw [if_neg hf, if_neg hf]; omega
  have b1 : w32 (inO τ ρ.2.1 lost w - ouO τ ρ.2.1 lost w) = inO τ ρ.2.1 lost w - ouO τ ρ.2.1 lost w := w32_i (by omega) (by omega)
  have b2l : -9900 ≤ g * (inO τ ρ.2.1 lost w - ouO τ ρ.2.1 lost w) ∧ g * (inO τ ρ.2.1 lost w - ouO τ ρ.2.1 lost w) ≤ 9900 := by
    generalize inO τ ρ.2.1 lost w - ouO τ ρ.2.1 lost w = D at hdf
    have e1 : g * D ≤ g * 90 := Int.mul_le_mul_of_nonneg_left hdf.2 hg.1
    have e2 : g * (-90) ≤ g * D := Int.mul_le_mul_of_nonneg_left hdf.1 hg.1
    omega
  have b2 : w32 (g * (inO τ ρ.2.1 lost w - ouO τ ρ.2.1 lost w)) = g * (inO τ ρ.2.1 lost w - ouO τ ρ.2.1 lost w) := w32_i (by omega) (by omega)
  have b3 : w32 ((g * (inO τ ρ.2.1 lost w - ouO τ ρ.2.1 lost w)).tdiv 10) = (g * (inO τ ρ.2.1 lost w - ouO τ ρ.2.1 lost w)).tdiv 10 := by
    generalize g * (inO τ ρ.2.1 lost w - ouO τ ρ.2.1 lost w) = D at b2l
    have := tdiv10 D
    apply w32_i <;> omega
  have step : ∀ {a b u : Int} {kk : Nat} {x5 x6 x7 x8 x9 x10 : zV} {Q' : Option zV → zS → zM → Prop} {μ1 : zM}, kk < 4 → CX θ T U τ μ1 → μ1 10 = μ 10 → a = μ1 (T + 6) kk → b = μ1 (T + 7) kk → (∀ μ', Fr [11] μ1 μ' → Q' (some (vi (says τ kk (va τ ρ lost t g w) u))) θ μ') → Ex (d - 1) 22 0 [vr 9, vr (T + 5), vi a, vi b, vi u, x5, x6, x7, x8, x9, x10] [] θ μ1 Q' := by
    intro a b u kk x5 x6 x7 x8 x9 x10 Q' μ1 hkk hX1 h10 ha hb hq
    exact cLaw hX1 (by omega) hkk ha hb (VL_of (VL_fr h10 hL) hkk) hq
  simp (disch := omega) only [x15_0, x15_1, x15_4, x15_7, x15_8, x15_9, x15_12, x15_15, x15_17, x15_18, x15_21, x15_24, x15_26, x15_27, x15_30, x15_33, x15_35, x15_36, x15_39, x15_42, x15_45, x15_46, x15_47, x15_48, x15_51, x15_52, x15_54, x15_55, x15_57, x15_58, x15_59, x15_62, x15_64, x15_66, x15_67, x15_68, x15_70, x15_71, x15_72, x15_74, x15_76, x15_77, x15_80, x15_83, x15_84, x15_85, x15_86, x15_87, x15_88, x15_89, x15_92, x15_95, x15_97, x15_98, x15_100, x15_101, x15_102, x15_104, x15_105, x15_106, x15_107, x15_109, x15_110, x15_112, x15_113, x15_114, x15_117, x15_120, x15_121, x15_124, x15_125, x15_128, x15_130, x15_132, x15_133, x15_134, x15_136, x15_137, x15_138, x15_140, x15_143, x15_146, x15_147, x15_148, x15_151, x15_153, x15_155, x15_156, x15_157, x15_159, x15_160, x15_161, x15_162, x15_165, x15_166, x15_167, x15_168, x15_171, x15_172, x15_175, x15_176, x15_179, x15_180, x15_183, x15_184, x15_185, x15_188, x15_189, ↓reduceIte, Bool.false_eq_true, Nat.reduceAdd, Nat.reduceLT, Nat.reduceLeDiff, Nat.reduceSub, Nat.reduceEqDiff, Int.reduceToNat, Int.reduceEq, Int.reduceLT, Int.reduceLE, Int.reduceAdd, Int.reduceSub, zg, zI, zJ, zR, zst, zkl, zn, zcat, zok, zraw, List.length_cons, List.length_nil, Option.toList, List.nil_append, List.cons_append, true_and, and_true, if_true, if_false, ne_eq, not_true, not_false_eq_true, and_self, true_or, or_true, false_or, or_false, false_and, and_false, b_40 hc, r_40_0 hc, x_41 hc, r_40_1 hc, x_42 hc, r_40_2 hc, x_43 hc, r_40_9 hc, r_40_10 hc, x_44 hc, r_40_11 hc, x_45 hc, b_9 hc, r_9_0 hc, x_10 hc, r_9_1 hc, x_11 hc, tb hT, Tq1 hT, Tq2 hT, tr_0 hT, tr_1 hT, tr_2 hT, tr_3 hT, tr_4 hT, tr_5 hT, tr_6 hT, tr_7 hT, tr_8 hT, tr_9 hT, tr_10 hT, tr_11 hT, tr_12 hT, tx_1 hT, tx_2 hT, tx_3 hT, tx_4 hT, tx_5 hT, tx_6 hT, tx_7 hT, tx_8 hT, tx_9 hT, tx_10 hT, tx_11 hT, tx_12 hT, tx_13 hT, rb hr, Rq1 hr, Rq2 hr, rr_0 hr, rx_1 hr, rn_1 hr, rm_0 hr, rm_1 hr, rm_2 hr, rm_3 hr, rm_4 hr, rx_2 hr, rx_3 hr, rx_4 hr, rx_5 hr, rx_6 hr, hgT, hd0, ua_eq, us_same, us_ne, us_us, zup_same, zup_ne, hed, v5, v6, v7, v8, v9, a1, a2, a3, b1, b2, b3, Int.toNat_natCast, Int.toNat_zero, Int.toNat_one]
  refine step (kk := 0) (by decide) hX rfl rfl rfl ?_
  intro μ1 hf1
  have t1 : ∀ k, k ≤ 13 → μ1 (T + k) = μ (T + k) := fun k hk => hf1 _ (by simp; omega)
  have k10 : μ1 10 = μ 10 := hf1 10 (by decide)
  have kr : μ1 r = μ r := hf1 r (by simp; omega)
  have k40 : μ1 40 = μ 40 := hf1 40 (by decide)
  have s1 : says τ 0 (va τ ρ lost t g w) (g + (g * edO τ t).tdiv 2) = suO τ ρ lost t g w := rfl
  have X2 : CX θ T U τ (us μ1 40 (zup (μ1 40) 5 (suO τ ρ lost t g w))) := CX_fr (A := [11, 40]) hX (Fr.us (by decide) (hf1.mono (by decide))) (by decide)
  rw [← k10] at v5 v6 v7 v8 v9
  have kF : μ1 r 3 = ρ.2.2 := by rw [kr, hR4]
  -- the rest, from where SUCK and PRESS stand
  have rest : ∀ {x8 : zV} {μ2 : zM}, Fr [11, 40] μ μ2 → (∀ j, j ≠ 5 → j ≠ 6 → j ≠ 7 → μ2 40 j = μ 40 j) → μ2 40 5 = suO τ ρ lost t g w → μ2 40 6 = prO τ ρ lost t g w →
      Ex d 15 146 [vr 40, vr r, vi (t : Nat), vr 10, vr (T + 5), vr (T + 6), vr (T + 7), vi g, x8] [] θ μ2 Q := by
    intro x8 μ2 hf2 hj2 h5 h6
    have X3 : CX θ T U τ μ2 := CX_fr hX hf2 (by decide)
    have F3 : CF τ ρ r μ2 := CF_fr hFF hf2 (by decide)
    simp (disch := omega) only [x15_0, x15_1, x15_4, x15_7, x15_8, x15_9, x15_12, x15_15, x15_17, x15_18, x15_21, x15_24, x15_26, x15_27, x15_30, x15_33, x15_35, x15_36, x15_39, x15_42, x15_45, x15_46, x15_47, x15_48, x15_51, x15_52, x15_54, x15_55, x15_57, x15_58, x15_59, x15_62, x15_64, x15_66, x15_67, x15_68, x15_70, x15_71, x15_72, x15_74, x15_76, x15_77, x15_80, x15_83, x15_84, x15_85, x15_86, x15_87, x15_88, x15_89, x15_92, x15_95, x15_97, x15_98, x15_100, x15_101, x15_102, x15_104, x15_105, x15_106, x15_107, x15_109, x15_110, x15_112, x15_113, x15_114, x15_117, x15_120, x15_121, x15_124, x15_125, x15_128, x15_130, x15_132, x15_133, x15_134, x15_136, x15_137, x15_138, x15_140, x15_143, x15_146, x15_147, x15_148, x15_151, x15_153, x15_155, x15_156, x15_157, x15_159, x15_160, x15_161, x15_162, x15_165, x15_166, x15_167, x15_168, x15_171, x15_172, x15_175, x15_176, x15_179, x15_180, x15_183, x15_184, x15_185, x15_188, x15_189, ↓reduceIte, Bool.false_eq_true, Nat.reduceAdd, Nat.reduceLT, Nat.reduceLeDiff, Nat.reduceSub, Nat.reduceEqDiff, Int.reduceToNat, Int.reduceEq, Int.reduceLT, Int.reduceLE, Int.reduceAdd, Int.reduceSub, zg, zI, zJ, zR, zst, zkl, zn, zcat, zok, zraw, List.length_cons, List.length_nil, Option.toList, List.nil_append, List.cons_append, true_and, and_true, if_true, if_false, ne_eq, not_true, not_false_eq_true, and_self, true_or, or_true, false_or, or_false, false_and, and_false, b_40 hc, r_40_0 hc, x_41 hc, r_40_1 hc, x_42 hc, r_40_2 hc, x_43 hc, r_40_9 hc, r_40_10 hc, x_44 hc, r_40_11 hc, x_45 hc, b_9 hc, r_9_0 hc, x_10 hc, r_9_1 hc, x_11 hc, tb hT, Tq1 hT, Tq2 hT, tr_0 hT, tr_1 hT, tr_2 hT, tr_3 hT, tr_4 hT, tr_5 hT, tr_6 hT, tr_7 hT, tr_8 hT, tr_9 hT, tr_10 hT, tr_11 hT, tr_12 hT, tx_1 hT, tx_2 hT, tx_3 hT, tx_4 hT, tx_5 hT, tx_6 hT, tx_7 hT, tx_8 hT, tx_9 hT, tx_10 hT, tx_11 hT, tx_12 hT, tx_13 hT, rb hr, Rq1 hr, Rq2 hr, rr_0 hr, rx_1 hr, rn_1 hr, rm_0 hr, rm_1 hr, rm_2 hr, rm_3 hr, rm_4 hr, rx_2 hr, rx_3 hr, rx_4 hr, rx_5 hr, rx_6 hr, hgT, hd0, Int.toNat_natCast, Int.reduceToNat]
    refine step (kk := 2) (by decide) X3 (hf2 10 (by decide)) rfl rfl ?_
    intro μ3 hf3
    have hf23 : Fr [11, 40] μ μ3 := hf2.trans (hf3.mono (by decide))
    have X4 : CX θ T U τ μ3 := CX_fr hX hf23 (by decide)
    have F4 : CF τ ρ r μ3 := CF_fr hFF hf23 (by decide)
    have k40 : μ3 40 = μ2 40 := hf3 40 (by decide)
    have B4 : GB τ lost μ3 := GB_fr (hf23 44 (by decide)) (hf23 45 (by decide)) (by rw [k40, hj2 12 (by decide) (by decide) (by decide)]) hB
    simp (disch := omega) only [x15_0, x15_1, x15_4, x15_7, x15_8, x15_9, x15_12, x15_15, x15_17, x15_18, x15_21, x15_24, x15_26, x15_27, x15_30, x15_33, x15_35, x15_36, x15_39, x15_42, x15_45, x15_46, x15_47, x15_48, x15_51, x15_52, x15_54, x15_55, x15_57, x15_58, x15_59, x15_62, x15_64, x15_66, x15_67, x15_68, x15_70, x15_71, x15_72, x15_74, x15_76, x15_77, x15_80, x15_83, x15_84, x15_85, x15_86, x15_87, x15_88, x15_89, x15_92, x15_95, x15_97, x15_98, x15_100, x15_101, x15_102, x15_104, x15_105, x15_106, x15_107, x15_109, x15_110, x15_112, x15_113, x15_114, x15_117, x15_120, x15_121, x15_124, x15_125, x15_128, x15_130, x15_132, x15_133, x15_134, x15_136, x15_137, x15_138, x15_140, x15_143, x15_146, x15_147, x15_148, x15_151, x15_153, x15_155, x15_156, x15_157, x15_159, x15_160, x15_161, x15_162, x15_165, x15_166, x15_167, x15_168, x15_171, x15_172, x15_175, x15_176, x15_179, x15_180, x15_183, x15_184, x15_185, x15_188, x15_189, ↓reduceIte, Bool.false_eq_true, Nat.reduceAdd, Nat.reduceLT, Nat.reduceLeDiff, Nat.reduceSub, Nat.reduceEqDiff, Int.reduceToNat, Int.reduceEq, Int.reduceLT, Int.reduceLE, Int.reduceAdd, Int.reduceSub, zg, zI, zJ, zR, zst, zkl, zn, zcat, zok, zraw, List.length_cons, List.length_nil, Option.toList, List.nil_append, List.cons_append, true_and, and_true, if_true, if_false, ne_eq, not_true, not_false_eq_true, and_self, true_or, or_true, false_or, or_false, false_and, and_false, b_40 hc, r_40_0 hc, x_41 hc, r_40_1 hc, x_42 hc, r_40_2 hc, x_43 hc, r_40_9 hc, r_40_10 hc, x_44 hc, r_40_11 hc, x_45 hc, b_9 hc, r_9_0 hc, x_10 hc, r_9_1 hc, x_11 hc, tb hT, Tq1 hT, Tq2 hT, tr_0 hT, tr_1 hT, tr_2 hT, tr_3 hT, tr_4 hT, tr_5 hT, tr_6 hT, tr_7 hT, tr_8 hT, tr_9 hT, tr_10 hT, tr_11 hT, tr_12 hT, tx_1 hT, tx_2 hT, tx_3 hT, tx_4 hT, tx_5 hT, tx_6 hT, tx_7 hT, tx_8 hT, tx_9 hT, tx_10 hT, tx_11 hT, tx_12 hT, tx_13 hT, rb hr, Rq1 hr, Rq2 hr, rr_0 hr, rx_1 hr, rn_1 hr, rm_0 hr, rm_1 hr, rm_2 hr, rm_3 hr, rm_4 hr, rx_2 hr, rx_3 hr, rx_4 hr, rx_5 hr, rx_6 hr, hgT, hd0, Int.toNat_natCast, Int.reduceToNat]
    refine cHold X4 F4 rfl ht B4 hz ?_
    simp (disch := omega) only [x15_0, x15_1, x15_4, x15_7, x15_8, x15_9, x15_12, x15_15, x15_17, x15_18, x15_21, x15_24, x15_26, x15_27, x15_30, x15_33, x15_35, x15_36, x15_39, x15_42, x15_45, x15_46, x15_47, x15_48, x15_51, x15_52, x15_54, x15_55, x15_57, x15_58, x15_59, x15_62, x15_64, x15_66, x15_67, x15_68, x15_70, x15_71, x15_72, x15_74, x15_76, x15_77, x15_80, x15_83, x15_84, x15_85, x15_86, x15_87, x15_88, x15_89, x15_92, x15_95, x15_97, x15_98, x15_100, x15_101, x15_102, x15_104, x15_105, x15_106, x15_107, x15_109, x15_110, x15_112, x15_113, x15_114, x15_117, x15_120, x15_121, x15_124, x15_125, x15_128, x15_130, x15_132, x15_133, x15_134, x15_136, x15_137, x15_138, x15_140, x15_143, x15_146, x15_147, x15_148, x15_151, x15_153, x15_155, x15_156, x15_157, x15_159, x15_160, x15_161, x15_162, x15_165, x15_166, x15_167, x15_168, x15_171, x15_172, x15_175, x15_176, x15_179, x15_180, x15_183, x15_184, x15_185, x15_188, x15_189, ↓reduceIte, Bool.false_eq_true, Nat.reduceAdd, Nat.reduceLT, Nat.reduceLeDiff, Nat.reduceSub, Nat.reduceEqDiff, Int.reduceToNat, Int.reduceEq, Int.reduceLT, Int.reduceLE, Int.reduceAdd, Int.reduceSub, zg, zI, zJ, zR, zst, zkl, zn, zcat, zok, zraw, List.length_cons, List.length_nil, Option.toList, List.nil_append, List.cons_append, true_and, and_true, if_true, if_false, ne_eq, not_true, not_false_eq_true, and_self, true_or, or_true, false_or, or_false, false_and, and_false, b_40 hc, r_40_0 hc, x_41 hc, r_40_1 hc, x_42 hc, r_40_2 hc, x_43 hc, r_40_9 hc, r_40_10 hc, x_44 hc, r_40_11 hc, x_45 hc, b_9 hc, r_9_0 hc, x_10 hc, r_9_1 hc, x_11 hc, tb hT, Tq1 hT, Tq2 hT, tr_0 hT, tr_1 hT, tr_2 hT, tr_3 hT, tr_4 hT, tr_5 hT, tr_6 hT, tr_7 hT, tr_8 hT, tr_9 hT, tr_10 hT, tr_11 hT, tr_12 hT, tx_1 hT, tx_2 hT, tx_3 hT, tx_4 hT, tx_5 hT, tx_6 hT, tx_7 hT, tx_8 hT, tx_9 hT, tx_10 hT, tx_11 hT, tx_12 hT, tx_13 hT, rb hr, Rq1 hr, Rq2 hr, rr_0 hr, rx_1 hr, rn_1 hr, rm_0 hr, rm_1 hr, rm_2 hr, rm_3 hr, rm_4 hr, rx_2 hr, rx_3 hr, rx_4 hr, rx_5 hr, rx_6 hr, hgT, hd0, Int.toNat_natCast, Int.reduceToNat, ua_eq, us_same, zup_same, zup_ne, k40, h5, h6]
    refine hQ _ (Fr.us (by decide) hf23) ?_ ?_ ?_ ?_
    · intro j h5 h6 h7
      rw [us_same, zup_ne h7, hj2 j h5 h6 h7]
    · rw [us_same, zup_ne (by decide), h5]
    · rw [us_same, zup_ne (by decide), h6]
    · rw [us_same, zup_same rfl]; rfl
  rw [s1]
  by_cases hfl : ρ.2.2 = 0
  · simp (disch := omega) only [x15_0, x15_1, x15_4, x15_7, x15_8, x15_9, x15_12, x15_15, x15_17, x15_18, x15_21, x15_24, x15_26, x15_27, x15_30, x15_33, x15_35, x15_36, x15_39, x15_42, x15_45, x15_46, x15_47, x15_48, x15_51, x15_52, x15_54, x15_55, x15_57, x15_58, x15_59, x15_62, x15_64, x15_66, x15_67, x15_68, x15_70, x15_71, x15_72, x15_74, x15_76, x15_77, x15_80, x15_83, x15_84, x15_85, x15_86, x15_87, x15_88, x15_89, x15_92, x15_95, x15_97, x15_98, x15_100, x15_101, x15_102, x15_104, x15_105, x15_106, x15_107, x15_109, x15_110, x15_112, x15_113, x15_114, x15_117, x15_120, x15_121, x15_124, x15_125, x15_128, x15_130, x15_132, x15_133, x15_134, x15_136, x15_137, x15_138, x15_140, x15_143, x15_147, x15_148, x15_151, x15_153, x15_155, x15_156, x15_157, x15_159, x15_160, x15_161, x15_162, x15_165, x15_166, x15_167, x15_168, x15_171, x15_172, x15_175, x15_176, x15_179, x15_180, x15_183, x15_184, x15_185, x15_188, x15_189, ↓reduceIte, Bool.false_eq_true, Nat.reduceAdd, Nat.reduceLT, Nat.reduceLeDiff, Nat.reduceSub, Nat.reduceEqDiff, Int.reduceToNat, Int.reduceEq, Int.reduceLT, Int.reduceLE, Int.reduceAdd, Int.reduceSub, zg, zI, zJ, zR, zst, zkl, zn, zcat, zok, zraw, List.length_cons, List.length_nil, Option.toList, List.nil_append, List.cons_append, true_and, and_true, if_true, if_false, ne_eq, not_true, not_false_eq_true, and_self, true_or, or_true, false_or, or_false, false_and, and_false, b_40 hc, r_40_0 hc, x_41 hc, r_40_1 hc, x_42 hc, r_40_2 hc, x_43 hc, r_40_9 hc, r_40_10 hc, x_44 hc, r_40_11 hc, x_45 hc, b_9 hc, r_9_0 hc, x_10 hc, r_9_1 hc, x_11 hc, tb hT, Tq1 hT, Tq2 hT, tr_0 hT, tr_1 hT, tr_2 hT, tr_3 hT, tr_4 hT, tr_5 hT, tr_6 hT, tr_7 hT, tr_8 hT, tr_9 hT, tr_10 hT, tr_11 hT, tr_12 hT, tx_1 hT, tx_2 hT, tx_3 hT, tx_4 hT, tx_5 hT, tx_6 hT, tx_7 hT, tx_8 hT, tx_9 hT, tx_10 hT, tx_11 hT, tx_12 hT, tx_13 hT, rb hr, Rq1 hr, Rq2 hr, rr_0 hr, rx_1 hr, rn_1 hr, rm_0 hr, rm_1 hr, rm_2 hr, rm_3 hr, rm_4 hr, rx_2 hr, rx_3 hr, rx_4 hr, rx_5 hr, rx_6 hr, hgT, hd0, ua_eq, us_same, us_ne, us_us, zup_same, zup_ne, v5, v6, v7, v8, v9, b1, b2, b3, kF, hfl, Int.toNat_natCast, Int.toNat_zero, Int.toNat_one]
    refine step (kk := 1) (by decide) X2 (by rw [us_ne (by decide), k10]) (by rw [us_ne (by omega)]) (by rw [us_ne (by omega)]) ?_
    intro μ2 hf2
    have k402 := hf2 40 (by decide)
    rw [us_same] at k402
    simp (disch := omega) only [x15_0, x15_1, x15_4, x15_7, x15_8, x15_9, x15_12, x15_15, x15_17, x15_18, x15_21, x15_24, x15_26, x15_27, x15_30, x15_33, x15_35, x15_36, x15_39, x15_42, x15_45, x15_46, x15_47, x15_48, x15_51, x15_52, x15_54, x15_55, x15_57, x15_58, x15_59, x15_62, x15_64, x15_66, x15_67, x15_68, x15_70, x15_71, x15_72, x15_74, x15_76, x15_77, x15_80, x15_83, x15_84, x15_85, x15_86, x15_87, x15_88, x15_89, x15_92, x15_95, x15_97, x15_98, x15_100, x15_101, x15_102, x15_104, x15_105, x15_106, x15_107, x15_109, x15_110, x15_112, x15_113, x15_114, x15_117, x15_120, x15_121, x15_124, x15_125, x15_128, x15_130, x15_132, x15_133, x15_134, x15_136, x15_137, x15_138, x15_140, x15_143, x15_147, x15_148, x15_151, x15_153, x15_155, x15_156, x15_157, x15_159, x15_160, x15_161, x15_162, x15_165, x15_166, x15_167, x15_168, x15_171, x15_172, x15_175, x15_176, x15_179, x15_180, x15_183, x15_184, x15_185, x15_188, x15_189, ↓reduceIte, Bool.false_eq_true, Nat.reduceAdd, Nat.reduceLT, Nat.reduceLeDiff, Nat.reduceSub, Nat.reduceEqDiff, Int.reduceToNat, Int.reduceEq, Int.reduceLT, Int.reduceLE, Int.reduceAdd, Int.reduceSub, zg, zI, zJ, zR, zst, zkl, zn, zcat, zok, zraw, List.length_cons, List.length_nil, Option.toList, List.nil_append, List.cons_append, true_and, and_true, if_true, if_false, ne_eq, not_true, not_false_eq_true, and_self, true_or, or_true, false_or, or_false, false_and, and_false, b_40 hc, r_40_0 hc, x_41 hc, r_40_1 hc, x_42 hc, r_40_2 hc, x_43 hc, r_40_9 hc, r_40_10 hc, x_44 hc, r_40_11 hc, x_45 hc, b_9 hc, r_9_0 hc, x_10 hc, r_9_1 hc, x_11 hc, tb hT, Tq1 hT, Tq2 hT, tr_0 hT, tr_1 hT, tr_2 hT, tr_3 hT, tr_4 hT, tr_5 hT, tr_6 hT, tr_7 hT, tr_8 hT, tr_9 hT, tr_10 hT, tr_11 hT, tr_12 hT, tx_1 hT, tx_2 hT, tx_3 hT, tx_4 hT, tx_5 hT, tx_6 hT, tx_7 hT, tx_8 hT, tx_9 hT, tx_10 hT, tx_11 hT, tx_12 hT, tx_13 hT, rb hr, Rq1 hr, Rq2 hr, rr_0 hr, rx_1 hr, rn_1 hr, rm_0 hr, rm_1 hr, rm_2 hr, rm_3 hr, rm_4 hr, rx_2 hr, rx_3 hr, rx_4 hr, rx_5 hr, rx_6 hr, hgT, hd0, ua_eq, us_same, us_ne, us_us, zup_same, zup_ne, Int.toNat_natCast, Int.toNat_zero, Int.toNat_one, k402]
    refine rest (Fr.us (by decide) ((Fr.us (by decide) (hf1.mono (by decide))).trans (hf2.mono (by decide)))) ?_ ?_ ?_
    · intro j h5 h6 h7
      rw [us_same, zup_ne h6, zup_ne h5, k40]
    · rw [us_same, zup_ne (by decide), zup_same rfl]
    · rw [us_same, zup_same rfl]; unfold prO; rw [if_pos hfl]
  · simp (disch := omega) only [x15_0, x15_1, x15_4, x15_7, x15_8, x15_9, x15_12, x15_15, x15_17, x15_18, x15_21, x15_24, x15_26, x15_27, x15_30, x15_33, x15_35, x15_36, x15_39, x15_42, x15_45, x15_46, x15_47, x15_48, x15_51, x15_52, x15_54, x15_55, x15_57, x15_58, x15_59, x15_62, x15_64, x15_66, x15_67, x15_68, x15_70, x15_71, x15_72, x15_74, x15_76, x15_77, x15_80, x15_83, x15_84, x15_85, x15_86, x15_87, x15_88, x15_89, x15_92, x15_95, x15_97, x15_98, x15_100, x15_101, x15_102, x15_104, x15_105, x15_106, x15_107, x15_109, x15_110, x15_112, x15_113, x15_114, x15_117, x15_120, x15_121, x15_124, x15_125, x15_128, x15_130, x15_132, x15_133, x15_134, x15_136, x15_137, x15_138, x15_140, x15_143, x15_147, x15_148, x15_151, x15_153, x15_155, x15_156, x15_157, x15_159, x15_160, x15_161, x15_162, x15_165, x15_166, x15_167, x15_168, x15_171, x15_172, x15_175, x15_176, x15_179, x15_180, x15_183, x15_184, x15_185, x15_188, x15_189, ↓reduceIte, Bool.false_eq_true, Nat.reduceAdd, Nat.reduceLT, Nat.reduceLeDiff, Nat.reduceSub, Nat.reduceEqDiff, Int.reduceToNat, Int.reduceEq, Int.reduceLT, Int.reduceLE, Int.reduceAdd, Int.reduceSub, zg, zI, zJ, zR, zst, zkl, zn, zcat, zok, zraw, List.length_cons, List.length_nil, Option.toList, List.nil_append, List.cons_append, true_and, and_true, if_true, if_false, ne_eq, not_true, not_false_eq_true, and_self, true_or, or_true, false_or, or_false, false_and, and_false, b_40 hc, r_40_0 hc, x_41 hc, r_40_1 hc, x_42 hc, r_40_2 hc, x_43 hc, r_40_9 hc, r_40_10 hc, x_44 hc, r_40_11 hc, x_45 hc, b_9 hc, r_9_0 hc, x_10 hc, r_9_1 hc, x_11 hc, tb hT, Tq1 hT, Tq2 hT, tr_0 hT, tr_1 hT, tr_2 hT, tr_3 hT, tr_4 hT, tr_5 hT, tr_6 hT, tr_7 hT, tr_8 hT, tr_9 hT, tr_10 hT, tr_11 hT, tr_12 hT, tx_1 hT, tx_2 hT, tx_3 hT, tx_4 hT, tx_5 hT, tx_6 hT, tx_7 hT, tx_8 hT, tx_9 hT, tx_10 hT, tx_11 hT, tx_12 hT, tx_13 hT, rb hr, Rq1 hr, Rq2 hr, rr_0 hr, rx_1 hr, rn_1 hr, rm_0 hr, rm_1 hr, rm_2 hr, rm_3 hr, rm_4 hr, rx_2 hr, rx_3 hr, rx_4 hr, rx_5 hr, rx_6 hr, hgT, hd0, ua_eq, us_same, us_ne, us_us, zup_same, zup_ne, v5, v6, v7, v8, v9, b1, b2, b3, kF, hfl, Int.toNat_natCast, Int.toNat_zero, Int.toNat_one]
    refine rest (Fr.us (by decide) (hf1.mono (by decide))) ?_ ?_ ?_
    · intro j h5 h6 h7
      rw [us_same, zup_ne h6, zup_ne h5, k40]
    · rw [us_same, zup_ne (by decide), zup_same rfl]
    · rw [us_same, zup_same rfl]; unfold prO; rw [if_neg hfl]
end LR
