/-! THE GALE: lift, landing, carryOff, meet -/
section LS
variable {θ : zS} {T U : Nat} {τ : zT} {Q : Option zV → zS → zM → Prop} {μ : zM} {ρ : zF} {lost : Nat → Int} {g w : Int}
theorem GS_of {od : Nat → Int} {μ' : zM} (h44 : μ' 44 = μ 44) (h45 : μ' 45 = μ 45) (h40 : ∀ j, j ≠ 5 → j ≠ 6 → j ≠ 7 → μ' 40 j = μ 40 j) (hV : VG τ od lost g w μ') (h : GS τ od lost g w μ) : GS τ od lost g w μ' := by
  refine ⟨GB_fr h44 h45 (h40 12 (by decide) (by decide) (by decide)) h.1, ?_, hV⟩
  rw [h40 13 (by decide) (by decide) (by decide), h40 14 (by decide) (by decide) (by decide)]
  exact h.2.1
theorem cLift {d t r : Nat} {x : Int} {x3 x4 x5 x6 x7 x8 : zV} (h : CX θ T U τ μ) (hF : CF τ ρ r μ) (hd : 2 ≤ d) (hx : x = (t : Int)) (ht : t < tn τ) (hg : 0 ≤ g ∧ g ≤ 99) (hS : GS τ ρ.2.1 lost g w μ) (hz : lz lost)
    (hQ : ∀ μ', Fr [10, 11, 40] μ μ' → (∀ j, j ≠ 5 → j ≠ 6 → j ≠ 7 → μ' 40 j = μ 40 j) → GS τ ρ.2.1 lost g w μ' → VL τ ρ lost t g w μ' → μ' 40 5 = suO τ ρ lost t g w → μ' 40 6 = prO τ ρ lost t g w → μ' 40 7 = hoO τ ρ lost t g w → Q (some (vi (liO τ ρ lost t g w))) θ μ') :
    Ex d 15 0 [vr 40, vr r, vi x, x3, x4, x5, x6, x7, x8] [] θ μ Q := by
  subst hx
  have hX := h
  obtain ⟨⟨hc, hT, hU, hTU, h2T, h2U, hgT⟩, hw, hC, hCc⟩ := h
  have hr := rfs_q hc hF.1
  have hd0 : 0 < d := by omega
  by_cases hcs : μ T 16 ≤ 0
  · simp (disch := omega) only [x15_0, x15_1, x15_4, x15_7, x15_8, x15_9, x15_12, x15_15, x15_17, x15_18, x15_21, x15_24, x15_26, x15_27, x15_30, x15_33, x15_35, x15_36, x15_39, x15_42, x15_45, x15_46, x15_47, x15_48, x15_52, x15_54, x15_55, x15_57, x15_58, x15_59, x15_62, x15_64, x15_66, x15_67, x15_68, x15_70, x15_71, x15_72, x15_74, x15_76, x15_77, x15_80, x15_83, x15_84, x15_85, x15_86, x15_87, x15_88, x15_89, x15_92, x15_95, x15_97, x15_98, x15_100, x15_101, x15_102, x15_104, x15_105, x15_106, x15_107, x15_109, x15_110, x15_112, x15_113, x15_114, x15_117, x15_120, x15_121, x15_124, x15_125, x15_128, x15_130, x15_132, x15_133, x15_134, x15_136, x15_137, x15_138, x15_140, x15_143, x15_146, x15_147, x15_148, x15_151, x15_153, x15_155, x15_156, x15_157, x15_159, x15_160, x15_161, x15_162, x15_165, x15_166, x15_167, x15_168, x15_171, x15_172, x15_175, x15_176, x15_179, x15_180, x15_183, x15_184, x15_185, x15_188, x15_189, ↓reduceIte, Bool.false_eq_true, Nat.reduceAdd, Nat.reduceLT, Nat.reduceLeDiff, Nat.reduceSub, Nat.reduceEqDiff, Int.reduceToNat, Int.reduceEq, Int.reduceLT, Int.reduceLE, Int.reduceAdd, Int.reduceSub, zg, zI, zJ, zR, zst, zkl, zn, zcat, zok, zraw, List.length_cons, List.length_nil, Option.toList, List.nil_append, List.cons_append, true_and, and_true, if_true, if_false, ne_eq, not_true, not_false_eq_true, and_self, true_or, or_true, false_or, or_false, false_and, and_false, b_40 hc, r_40_0 hc, x_41 hc, r_40_1 hc, x_42 hc, r_40_2 hc, x_43 hc, r_40_9 hc, r_40_10 hc, x_44 hc, r_40_11 hc, x_45 hc, b_9 hc, r_9_0 hc, x_10 hc, r_9_1 hc, x_11 hc, tb hT, Tq1 hT, Tq2 hT, tr_0 hT, tr_1 hT, tr_2 hT, tr_3 hT, tr_4 hT, tr_5 hT, tr_6 hT, tr_7 hT, tr_8 hT, tr_9 hT, tr_10 hT, tr_11 hT, tr_12 hT, tx_1 hT, tx_2 hT, tx_3 hT, tx_4 hT, tx_5 hT, tx_6 hT, tx_7 hT, tx_8 hT, tx_9 hT, tx_10 hT, tx_11 hT, tx_12 hT, tx_13 hT, rb hr, Rq1 hr, Rq2 hr, rr_0 hr, rx_1 hr, rn_1 hr, rm_0 hr, rm_1 hr, rm_2 hr, rm_3 hr, rm_4 hr, rx_2 hr, rx_3 hr, rx_4 hr, rx_5 hr, rx_6 hr, hgT, hcs]
    refine cLift51 hX hF hd ht hg hS.1 hS.2.2 (Or.inr (hCc.1 hcs)) hz ?_
    intro μ' hf hj h5 h6 h7
    exact hQ μ' (hf.mono (by decide)) hj (GS_of (hf 44 (by decide)) (hf 45 (by decide)) hj (VG_fr (hf 10 (by decide)) hS.2.2) hS) (Or.inr (hCc.1 hcs)) h5 h6 h7
  · simp (disch := omega) only [x15_0, x15_1, x15_4, x15_7, x15_8, x15_9, x15_12, x15_15, x15_17, x15_18, x15_21, x15_24, x15_26, x15_27, x15_30, x15_33, x15_35, x15_36, x15_39, x15_42, x15_45, x15_46, x15_47, x15_48, x15_52, x15_54, x15_55, x15_57, x15_58, x15_59, x15_62, x15_64, x15_66, x15_67, x15_68, x15_70, x15_71, x15_72, x15_74, x15_76, x15_77, x15_80, x15_83, x15_84, x15_85, x15_86, x15_87, x15_88, x15_89, x15_92, x15_95, x15_97, x15_98, x15_100, x15_101, x15_102, x15_104, x15_105, x15_106, x15_107, x15_109, x15_110, x15_112, x15_113, x15_114, x15_117, x15_120, x15_121, x15_124, x15_125, x15_128, x15_130, x15_132, x15_133, x15_134, x15_136, x15_137, x15_138, x15_140, x15_143, x15_146, x15_147, x15_148, x15_151, x15_153, x15_155, x15_156, x15_157, x15_159, x15_160, x15_161, x15_162, x15_165, x15_166, x15_167, x15_168, x15_171, x15_172, x15_175, x15_176, x15_179, x15_180, x15_183, x15_184, x15_185, x15_188, x15_189, ↓reduceIte, Bool.false_eq_true, Nat.reduceAdd, Nat.reduceLT, Nat.reduceLeDiff, Nat.reduceSub, Nat.reduceEqDiff, Int.reduceToNat, Int.reduceEq, Int.reduceLT, Int.reduceLE, Int.reduceAdd, Int.reduceSub, zg, zI, zJ, zR, zst, zkl, zn, zcat, zok, zraw, List.length_cons, List.length_nil, Option.toList, List.nil_append, List.cons_append, true_and, and_true, if_true, if_false, ne_eq, not_true, not_false_eq_true, and_self, true_or, or_true, false_or, or_false, false_and, and_false, b_40 hc, r_40_0 hc, x_41 hc, r_40_1 hc, x_42 hc, r_40_2 hc, x_43 hc, r_40_9 hc, r_40_10 hc, x_44 hc, r_40_11 hc, x_45 hc, b_9 hc, r_9_0 hc, x_10 hc, r_9_1 hc, x_11 hc, tb hT, Tq1 hT, Tq2 hT, tr_0 hT, tr_1 hT, tr_2 hT, tr_3 hT, tr_4 hT, tr_5 hT, tr_6 hT, tr_7 hT, tr_8 hT, tr_9 hT, tr_10 hT, tr_11 hT, tr_12 hT, tx_1 hT, tx_2 hT, tx_3 hT, tx_4 hT, tx_5 hT, tx_6 hT, tx_7 hT, tx_8 hT, tx_9 hT, tx_10 hT, tx_11 hT, tx_12 hT, tx_13 hT, rb hr, Rq1 hr, Rq2 hr, rr_0 hr, rx_1 hr, rn_1 hr, rm_0 hr, rm_1 hr, rm_2 hr, rm_3 hr, rm_4 hr, rx_2 hr, rx_3 hr, rx_4 hr, rx_5 hr, rx_6 hr, hgT, hcs, hd0]
    refine cLook hX hF rfl ht hS.1 hS.2.2 ?_
    intro μ1 hf1 hA hV
    simp (disch := omega) only [x15_0, x15_1, x15_4, x15_7, x15_8, x15_9, x15_12, x15_15, x15_17, x15_18, x15_21, x15_24, x15_26, x15_27, x15_30, x15_33, x15_35, x15_36, x15_39, x15_42, x15_45, x15_46, x15_47, x15_48, x15_52, x15_54, x15_55, x15_57, x15_58, x15_59, x15_62, x15_64, x15_66, x15_67, x15_68, x15_70, x15_71, x15_72, x15_74, x15_76, x15_77, x15_80, x15_83, x15_84, x15_85, x15_86, x15_87, x15_88, x15_89, x15_92, x15_95, x15_97, x15_98, x15_100, x15_101, x15_102, x15_104, x15_105, x15_106, x15_107, x15_109, x15_110, x15_112, x15_113, x15_114, x15_117, x15_120, x15_121, x15_124, x15_125, x15_128, x15_130, x15_132, x15_133, x15_134, x15_136, x15_137, x15_138, x15_140, x15_143, x15_146, x15_147, x15_148, x15_151, x15_153, x15_155, x15_156, x15_157, x15_159, x15_160, x15_161, x15_162, x15_165, x15_166, x15_167, x15_168, x15_171, x15_172, x15_175, x15_176, x15_179, x15_180, x15_183, x15_184, x15_185, x15_188, x15_189, ↓reduceIte, Bool.false_eq_true, Nat.reduceAdd, Nat.reduceLT, Nat.reduceLeDiff, Nat.reduceSub, Nat.reduceEqDiff, Int.reduceToNat, Int.reduceEq, Int.reduceLT, Int.reduceLE, Int.reduceAdd, Int.reduceSub, zg, zI, zJ, zR, zst, zkl, zn, zcat, zok, zraw, List.length_cons, List.length_nil, Option.toList, List.nil_append, List.cons_append, true_and, and_true, if_true, if_false, ne_eq, not_true, not_false_eq_true, and_self, true_or, or_true, false_or, or_false, false_and, and_false]
    refine cLift51 (CX_fr hX hf1 (by decide)) (CF_fr hF hf1 (by decide)) hd ht hg (GB_fr (hf1 44 (by decide)) (hf1 45 (by decide)) (by rw [hf1 40 (by decide)]) hS.1) hV (Or.inl hA) hz ?_
    intro μ' hf hj h5 h6 h7
    have h40 : ∀ j, j ≠ 5 → j ≠ 6 → j ≠ 7 → μ' 40 j = μ 40 j := fun j a b c => by rw [hj j a b c, hf1 40 (by decide)]
    have h10 := hf 10 (by decide)
    exact hQ μ' ((hf1.mono (by decide)).trans (hf.mono (by decide))) h40 (GS_of (by rw [hf 44 (by decide), hf1 44 (by decide)]) (by rw [hf 45 (by decide), hf1 45 (by decide)]) h40 (VG_fr h10 hV) hS) (Or.inl (VA_fr h10 hA)) h5 h6 h7
theorem zxor2 {w : Int} (h0 : 0 ≤ w) (h3 : w ≤ 3) : zxor w 2 = (w + 2) % 4 := by
  have : w = 0 ∨ w = 1 ∨ w = 2 ∨ w = 3 := by omega
  rcases this with rfl | rfl | rfl | rfl <;> decide +kernel
theorem zand1 {w : Int} (h0 : 0 ≤ w) (h3 : w ≤ 3) : zand w 1 = w % 2 := by
  have : w = 0 ∨ w = 1 ∨ w = 2 ∨ w = 3 := by omega
  rcases this with rfl | rfl | rfl | rfl <;> decide +kernel
theorem cLand {d t : Nat} {x : Int} {x4 x5 x6 x7 : zV} (h : CX θ T U τ μ) (hd : 2 ≤ d) (hx : x = (t : Int)) (ht : t < tn τ) (hg : 0 ≤ g ∧ g ≤ 99) (hwy : 0 ≤ w ∧ w ≤ 3) (hL : VL τ ρ lost t g w μ)
    (hQ : ∀ μ', Fr [11] μ μ' → Q (some (vi (ceO τ ρ lost t g w))) θ μ') :
    Ex d 18 0 [vr 40, vi x, vi g, vi w, x4, x5, x6, x7] [] θ μ Q := by
  subst hx
  have hX := h
  obtain ⟨⟨hc, hT, hU, hTU, h2T, h2U, hgT⟩, hw, hC, hCc⟩ := h
  have hd0 : 0 < d := by omega
  have hn := tn_b hw
  have n2 := tc_b hw
  have n1 := tr_b hw
  have n3 := rw_b hw ht
  have e := hC.2.2.2.2 t ht
  have hgt : g.tdiv 10 = g / 10 := Int.tdiv_eq_ediv_of_nonneg hg.1
  have a1 : w32 (g.tdiv 10) = g.tdiv 10 := by rw [hgt]; exact w32_i (by omega) (by omega)
  simp (disch := omega) only [x18_0, x18_1, x18_4, x18_5, x18_8, x18_11, x18_12, x18_15, x18_18, x18_19, x18_20, x18_21, x18_24, x18_27, x18_28, x18_29, x18_30, x18_32, x18_33, x18_36, x18_38, x18_39, x18_41, x18_43, x18_46, x18_49, x18_51, x18_52, x18_53, x18_54, x18_56, x18_58, x18_59, x18_60, x18_63, x18_64, x18_67, x18_70, x18_71, x18_72, x18_75, x18_76, x18_79, x18_82, x18_83, x18_84, x18_86, x18_89, x18_91, x18_92, x18_94, x18_96, x18_97, x18_98, x18_100, x18_101, ↓reduceIte, Bool.false_eq_true, Nat.reduceAdd, Nat.reduceLT, Nat.reduceLeDiff, Nat.reduceSub, Nat.reduceEqDiff, Int.reduceToNat, Int.reduceEq, Int.reduceLT, Int.reduceLE, Int.reduceAdd, Int.reduceSub, zg, zI, zJ, zR, zst, zkl, zn, zcat, zok, zraw, List.length_cons, List.length_nil, Option.toList, List.nil_append, List.cons_append, true_and, and_true, if_true, if_false, ne_eq, not_true, not_false_eq_true, and_self, true_or, or_true, false_or, or_false, false_and, and_false, b_40 hc, r_40_0 hc, x_41 hc, r_40_1 hc, x_42 hc, r_40_2 hc, x_43 hc, r_40_9 hc, r_40_10 hc, x_44 hc, r_40_11 hc, x_45 hc, b_9 hc, r_9_0 hc, x_10 hc, r_9_1 hc, x_11 hc, tb hT, Tq1 hT, Tq2 hT, tr_0 hT, tr_1 hT, tr_2 hT, tr_3 hT, tr_4 hT, tr_5 hT, tr_6 hT, tr_7 hT, tr_8 hT, tr_9 hT, tr_10 hT, tr_11 hT, tr_12 hT, tx_1 hT, tx_2 hT, tx_3 hT, tx_4 hT, tx_5 hT, tx_6 hT, tx_7 hT, tx_8 hT, tx_9 hT, tx_10 hT, tx_11 hT, tx_12 hT, tx_13 hT, hgT, hd0, a1, Int.reduceToNat]
  refine cLaw hX (by omega) (k := 3) (by decide) rfl rfl (VL_of hL (by decide)) ?_
  intro μ1 hf1
  have e1 : μ1 (T + 11) t = (rwO τ t : Nat) := by rw [hf1 _ (by simp <;> omega), e.1]
  have e2 : μ1 (T + 12) t = (clO τ t : Nat) := by rw [hf1 _ (by simp <;> omega), e.2.1]
  have hx1 := zxor2 hwy.1 hwy.2
  have hx2 : zand ((w + 2) % 4) 1 = (w + 2) % 2 := by have := zand1 (w := (w + 2) % 4) (by omega) (by omega); omega
  have hq := hQ μ1 hf1
  generalize hz : says τ 3 (va τ ρ lost t g w) (g.tdiv 10) = z
  have hheld : (if (0 : Int) < (if z < 19 then z else 19) then (if z < 19 then z else 19) else 0) = heldO z 19 := by unfold heldO; omega
  have hmm : (if (0 : Int) < (if z < 19 then z else 19) then (if z < 19 then z else 19) else 0) = heldO z 19 := hheld
  have hhb : 0 ≤ heldO z 19 ∧ heldO z 19 ≤ 19 := by unfold heldO; omega
  unfold ceO at hq
  rw [hz] at hq
  by_cases hs : (w + 2) % 2 = 0
  · rw [if_pos hs] at hq
    simp (disch := omega) only [x18_0, x18_1, x18_4, x18_5, x18_8, x18_11, x18_12, x18_15, x18_18, x18_19, x18_20, x18_21, x18_24, x18_27, x18_28, x18_29, x18_30, x18_32, x18_33, x18_36, x18_38, x18_39, x18_41, x18_43, x18_46, x18_49, x18_51, x18_52, x18_53, x18_54, x18_56, x18_58, x18_59, x18_60, x18_63, x18_64, x18_67, x18_70, x18_71, x18_72, x18_75, x18_76, x18_79, x18_82, x18_83, x18_84, x18_86, x18_89, x18_91, x18_92, x18_94, x18_96, x18_97, x18_98, x18_100, x18_101, ↓reduceIte, Bool.false_eq_true, Nat.reduceAdd, Nat.reduceLT, Nat.reduceLeDiff, Nat.reduceSub, Nat.reduceEqDiff, Int.reduceToNat, Int.reduceEq, Int.reduceLT, Int.reduceLE, Int.reduceAdd, Int.reduceSub, zg, zI, zJ, zR, zst, zkl, zn, zcat, zok, zraw, List.length_cons, List.length_nil, Option.toList, List.nil_append, List.cons_append, true_and, and_true, if_true, if_false, ne_eq, not_true, not_false_eq_true, and_self, true_or, or_true, false_or, or_false, false_and, and_false, b_40 hc, r_40_0 hc, x_41 hc, r_40_1 hc, x_42 hc, r_40_2 hc, x_43 hc, r_40_9 hc, r_40_10 hc, x_44 hc, r_40_11 hc, x_45 hc, b_9 hc, r_9_0 hc, x_10 hc, r_9_1 hc, x_11 hc, tb hT, Tq1 hT, Tq2 hT, tr_0 hT, tr_1 hT, tr_2 hT, tr_3 hT, tr_4 hT, tr_5 hT, tr_6 hT, tr_7 hT, tr_8 hT, tr_9 hT, tr_10 hT, tr_11 hT, tr_12 hT, tx_1 hT, tx_2 hT, tx_3 hT, tx_4 hT, tx_5 hT, tx_6 hT, tx_7 hT, tx_8 hT, tx_9 hT, tx_10 hT, tx_11 hT, tx_12 hT, tx_13 hT, hgT, hd0, hx1, hx2, hs, eMin, eMax, e1, e2, Int.toNat_natCast, hmm]
    refine Qc hq ?_
    unfold w32; omega
  · rw [if_neg hs] at hq
    simp (disch := omega) only [x18_0, x18_1, x18_4, x18_5, x18_8, x18_11, x18_12, x18_15, x18_18, x18_19, x18_20, x18_21, x18_24, x18_27, x18_28, x18_29, x18_30, x18_32, x18_33, x18_36, x18_38, x18_39, x18_41, x18_43, x18_46, x18_49, x18_51, x18_52, x18_53, x18_54, x18_56, x18_58, x18_59, x18_60, x18_63, x18_64, x18_67, x18_70, x18_71, x18_72, x18_75, x18_76, x18_79, x18_82, x18_83, x18_84, x18_86, x18_89, x18_91, x18_92, x18_94, x18_96, x18_97, x18_98, x18_100, x18_101, ↓reduceIte, Bool.false_eq_true, Nat.reduceAdd, Nat.reduceLT, Nat.reduceLeDiff, Nat.reduceSub, Nat.reduceEqDiff, Int.reduceToNat, Int.reduceEq, Int.reduceLT, Int.reduceLE, Int.reduceAdd, Int.reduceSub, zg, zI, zJ, zR, zst, zkl, zn, zcat, zok, zraw, List.length_cons, List.length_nil, Option.toList, List.nil_append, List.cons_append, true_and, and_true, if_true, if_false, ne_eq, not_true, not_false_eq_true, and_self, true_or, or_true, false_or, or_false, false_and, and_false, b_40 hc, r_40_0 hc, x_41 hc, r_40_1 hc, x_42 hc, r_40_2 hc, x_43 hc, r_40_9 hc, r_40_10 hc, x_44 hc, r_40_11 hc, x_45 hc, b_9 hc, r_9_0 hc, x_10 hc, r_9_1 hc, x_11 hc, tb hT, Tq1 hT, Tq2 hT, tr_0 hT, tr_1 hT, tr_2 hT, tr_3 hT, tr_4 hT, tr_5 hT, tr_6 hT, tr_7 hT, tr_8 hT, tr_9 hT, tr_10 hT, tr_11 hT, tr_12 hT, tx_1 hT, tx_2 hT, tx_3 hT, tx_4 hT, tx_5 hT, tx_6 hT, tx_7 hT, tx_8 hT, tx_9 hT, tx_10 hT, tx_11 hT, tx_12 hT, tx_13 hT, hgT, hd0, hx1, hx2, hs, eMin, eMax, e1, e2, Int.toNat_natCast, hmm]
    refine Qc hq ?_
    unfold w32; omega
theorem GS_hole {od : Nat → Int} (h : GS τ od lost g w μ) : GB τ lost μ := h.1
/-- what is lost when those of a list go -/
def lsL (lost : Nat → Int) : List Nat → (Nat → Int)
  | [] => lost
  | k :: r => lsL (zup lost k 1) r
theorem lsL_z : ∀ (l : List Nat) (lost : Nat → Int), lz lost → lz (lsL lost l) := by
  intro l
  induction l with
  | nil => intro lost h; exact h
  | cons k r ih => intro lost h; exact ih _ (lz_upd h)
theorem lsL_ap : ∀ (l : List Nat) (lost : Nat → Int) (t : Nat), lsL lost l t = if t ∈ l then 1 else lost t := by
  intro l
  induction l with
  | nil => intro lost t; simp [lsL]
  | cons k r ih =>
    intro lost t
    show lsL (zup lost k 1) r t = _
    rw [ih, zup_ap]
    by_cases h1 : t ∈ r
    · simp [h1]
    · by_cases h2 : t = k <;> simp [h1, h2]
/-- holes of a list of TILES, each there ahead -/
theorem cCarry {d a b : Nat} {x : Int} {x2 : zV} {od : Nat → Int} {ks : List Nat} (h : CX θ T U τ μ) (hd : 2 ≤ d) (hx : x = (a : Int)) (h3 : μ 40 3 = (b : Int)) (hb : b ≤ 36) (hab : a + ks.length = b)
    (hks : ∀ i (hi : i < ks.length), μ 41 (a + i) = (ks[i] : Nat)) (hnd : ks.Nodup) (hin : ∀ k ∈ ks, k < tn τ ∧ lost k = 0) (hS : GS τ od lost g w μ) (ho : odz τ od) (hz : lz lost)
    (hQ : ∀ μ', Fr [10, 40, 44, 45] μ μ' → (∀ j, j ≠ 12 → μ' 40 j = μ 40 j) → GS τ od (lsL lost ks) g w μ' → Q none θ μ') :
    Ex d 13 0 [vr 40, vi x, x2] [] θ μ Q := by
  subst hx
  have hX := h
  obtain ⟨hth, hw, hC, hCc⟩ := h
  have hth' := hth
  obtain ⟨hc, hT, hU, hTU, h2T, h2U, hgT⟩ := hth
  have hd0 : 0 < d := by omega
  have key : ∀ t L μ1, t ≤ ks.length → (L = [vr 40, vi (a : Nat), vi ((a + t : Nat) : Int)] ∧ Fr [40, 44, 45] μ μ1 ∧ (∀ j, j ≠ 12 → μ1 40 j = μ 40 j) ∧ GB τ (lsL lost (ks.take t)) μ1) → Ex d 13 2 L [] θ μ1 Q := by
    refine Ex_loop (I := fun t L μ1 => L = [vr 40, vi (a : Nat), vi ((a + t : Nat) : Int)] ∧ Fr [40, 44, 45] μ μ1 ∧ (∀ j, j ≠ 12 → μ1 40 j = μ 40 j) ∧ GB τ (lsL lost (ks.take t)) μ1) ks.length ?_ ?_
    · rintro t L μ1 ht ⟨rfl, hf, hj, hB⟩ hk
      have e3 : μ1 40 3 = (b : Int) := by rw [hj 3 (by decide), h3]
      have e41 : μ1 41 (a + t) = (ks[t] : Nat) := by rw [hf 41 (by decide), hks t ht]
      have i1 : ¬ ((b : Int) ≤ ((a + t : Nat) : Int)) := by omega
      rw [x13_2]
      simp (disch := omega) only [x13_0, x13_1, x13_3, x13_4, x13_7, x13_10, x13_11, x13_12, x13_15, x13_16, x13_17, x13_20, x13_23, x13_26, x13_27, x13_30, ↓reduceIte, Bool.false_eq_true, Nat.reduceAdd, Nat.reduceLT, Nat.reduceLeDiff, Nat.reduceSub, Nat.reduceEqDiff, Int.reduceToNat, Int.reduceEq, Int.reduceLT, Int.reduceLE, Int.reduceAdd, Int.reduceSub, zg, zI, zJ, zR, zst, zkl, zn, zcat, zok, zraw, List.length_cons, List.length_nil, Option.toList, List.nil_append, List.cons_append, true_and, and_true, if_true, if_false, ne_eq, not_true, not_false_eq_true, and_self, true_or, or_true, false_or, or_false, false_and, and_false, b_40 hc, r_40_0 hc, x_41 hc, r_40_1 hc, x_42 hc, r_40_2 hc, x_43 hc, r_40_9 hc, r_40_10 hc, x_44 hc, r_40_11 hc, x_45 hc, hd0, e3, i1, e41, Int.toNat_natCast]
      have hm := hin _ (List.getElem_mem ht)
      refine cLeave hth' hw (CX_fr hX hf (by decide)).2.2.1 rfl hm.1 (lsL_z _ _ hz) ?_ hB ?_
      · rw [lsL_ap, if_neg, hm.2]
        intro hmem
        have hnd2 := hnd
        rw [← List.take_append_drop t ks, List.nodup_append] at hnd2
        exact hnd2.2.2 _ hmem _ (by rw [List.drop_eq_getElem_cons ht]; exact List.mem_cons_self) rfl
      · intro μ2 hf2 hj2 hB2
        simp (disch := omega) only [x13_0, x13_1, x13_3, x13_4, x13_7, x13_10, x13_11, x13_12, x13_15, x13_16, x13_17, x13_20, x13_23, x13_26, x13_27, x13_30, ↓reduceIte, Bool.false_eq_true, Nat.reduceAdd, Nat.reduceLT, Nat.reduceLeDiff, Nat.reduceSub, Nat.reduceEqDiff, Int.reduceToNat, Int.reduceEq, Int.reduceLT, Int.reduceLE, Int.reduceAdd, Int.reduceSub, zg, zI, zJ, zR, zst, zkl, zn, zcat, zok, zraw, List.length_cons, List.length_nil, Option.toList, List.nil_append, List.cons_append, true_and, and_true, if_true, if_false, ne_eq, not_true, not_false_eq_true, and_self, true_or, or_true, false_or, or_false, false_and, and_false, w32_s]
        apply hk
        refine ⟨rfl, hf.trans hf2, fun j hj' => by rw [hj2 j hj', hj j hj'], ?_⟩
        have e : lsL lost (ks.take (t + 1)) = zup (lsL lost (ks.take t)) ks[t] 1 := by
          funext q
          have m : (q ∈ ks.take (t + 1)) ↔ (q ∈ ks.take t ∨ q = ks[t]) := by rw [List.take_succ_eq_append_getElem ht, List.mem_append, List.mem_singleton]
          rw [lsL_ap, zup_ap, lsL_ap]
          by_cases h1 : q = ks[t]
          · rw [if_pos (m.mpr (Or.inr h1)), if_pos h1]
          · rw [if_neg h1]
            by_cases h2 : q ∈ ks.take t
            · rw [if_pos (m.mpr (Or.inl h2)), if_pos h2]
            · rw [if_neg (fun hh => (m.mp hh).elim h2 h1), if_neg h2]
        rw [e]; exact hB2
    · rintro L μ1 ⟨rfl, hf, hj, hB⟩
      rw [List.take_length] at hB
      have e3 : μ1 40 3 = (b : Int) := by rw [hj 3 (by decide), h3]
      have i1 : ((b : Int) ≤ ((a + ks.length : Nat) : Int)) := by omega
      rw [x13_2]
      simp (disch := omega) only [x13_0, x13_1, x13_3, x13_4, x13_7, x13_10, x13_11, x13_12, x13_15, x13_16, x13_17, x13_20, x13_23, x13_26, x13_27, x13_30, ↓reduceIte, Bool.false_eq_true, Nat.reduceAdd, Nat.reduceLT, Nat.reduceLeDiff, Nat.reduceSub, Nat.reduceEqDiff, Int.reduceToNat, Int.reduceEq, Int.reduceLT, Int.reduceLE, Int.reduceAdd, Int.reduceSub, zg, zI, zJ, zR, zst, zkl, zn, zcat, zok, zraw, List.length_cons, List.length_nil, Option.toList, List.nil_append, List.cons_append, true_and, and_true, if_true, if_false, ne_eq, not_true, not_false_eq_true, and_self, true_or, or_true, false_or, or_false, false_and, and_false, b_40 hc, r_40_0 hc, x_41 hc, r_40_1 hc, x_42 hc, r_40_2 hc, x_43 hc, r_40_9 hc, r_40_10 hc, x_44 hc, r_40_11 hc, x_45 hc, hd0, e3, i1]
      have k10 := hf 10 (by decide)
      refine cDraught hth' hw (CX_fr hX hf (by decide)).2.2.1 (lsL_z _ _ hz) ho hB.2.2 (by rw [hj 13 (by decide)]; exact hS.2.1.1) (by rw [hj 14 (by decide)]; exact hS.2.1.2) (by rw [k10]; exact hS.2.2.2.2.2.2) ?_
      intro μ2 hf2 hj2 v5 v6 v7
      simp (disch := omega) only [x13_0, x13_1, x13_3, x13_4, x13_7, x13_10, x13_11, x13_12, x13_15, x13_16, x13_17, x13_20, x13_23, x13_26, x13_27, x13_30, ↓reduceIte, Bool.false_eq_true, Nat.reduceAdd, Nat.reduceLT, Nat.reduceLeDiff, Nat.reduceSub, Nat.reduceEqDiff, Int.reduceToNat, Int.reduceEq, Int.reduceLT, Int.reduceLE, Int.reduceAdd, Int.reduceSub, zg, zI, zJ, zR, zst, zkl, zn, zcat, zok, zraw, List.length_cons, List.length_nil, Option.toList, List.nil_append, List.cons_append, true_and, and_true, if_true, if_false, ne_eq, not_true, not_false_eq_true, and_self, true_or, or_true, false_or, or_false, false_and, and_false]
      have k40 := hf2 40 (by decide)
      refine hQ μ2 ((hf.mono (by decide)).trans (hf2.mono (by decide))) (fun j hj' => by rw [k40, hj j hj']) ⟨GB_fr (hf2 44 (by decide)) (hf2 45 (by decide)) (by rw [k40]) hB, ?_, v5, v6, v7, ?_, ?_⟩
      · rw [k40, hj 13 (by decide), hj 14 (by decide)]; exact hS.2.1
      · rw [hj2 8 (by decide) (by decide) (by decide), k10]; exact hS.2.2.2.2.2.1
      · rw [hj2 9 (by decide) (by decide) (by decide), k10]; exact hS.2.2.2.2.2.2
  simp (disch := omega) only [x13_0, x13_1, x13_3, x13_4, x13_7, x13_10, x13_11, x13_12, x13_15, x13_16, x13_17, x13_20, x13_23, x13_26, x13_27, x13_30, ↓reduceIte, Bool.false_eq_true, Nat.reduceAdd, Nat.reduceLT, Nat.reduceLeDiff, Nat.reduceSub, Nat.reduceEqDiff, Int.reduceToNat, Int.reduceEq, Int.reduceLT, Int.reduceLE, Int.reduceAdd, Int.reduceSub, zg, zI, zJ, zR, zst, zkl, zn, zcat, zok, zraw, List.length_cons, List.length_nil, Option.toList, List.nil_append, List.cons_append, true_and, and_true, if_true, if_false, ne_eq, not_true, not_false_eq_true, and_self, true_or, or_true, false_or, or_false, false_and, and_false]
  exact key 0 _ μ (by omega) ⟨rfl, Fr.refl, fun _ _ => rfl, hS.1⟩
end LS
