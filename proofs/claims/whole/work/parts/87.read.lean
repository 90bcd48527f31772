/-! read, of the class -/
theorem Tc_gt {θ : zS} {x : Option Nat} {a j : Nat} (h : Tc θ) (ha : (a = 40 ∧ j = 8) ∨ (a = 2 ∧ j = 10) ∨ (a = 2 ∧ j = 11)) : Tc (θ.1, ur θ.2 a j x) := by
  refine ⟨h.1, fun p hp => ?_⟩
  have key : ∀ p ∈ RLc, ¬ (p.1 = 40 ∧ p.2.1 = 8) ∧ ¬ (p.1 = 2 ∧ p.2.1 = 10) ∧ ¬ (p.1 = 2 ∧ p.2.1 = 11) := by decide +kernel
  have hk := key p hp
  show ur θ.2 a j x p.1 p.2.1 = _
  unfold ur
  rw [if_neg (by omega)]; exact h.2 p hp
theorem Tq_gt {θ : zS} {x : Option Nat} {a j U : Nat} (h : Tq θ U) (hU : U = 12 ∨ U = 26) (ha : a = 40 ∨ a = 2) : Tq (θ.1, ur θ.2 a j x) U := by
  refine ⟨h.1, h.2.1, h.2.2.1, fun k hk => ?_⟩
  show ur θ.2 a j x U k = _
  unfold ur
  rw [if_neg (by omega)]; exact h.2.2.2 k hk
theorem ur_same {f : Nat → Nat → Option Nat} {a j : Nat} {x : Option Nat} : ur f a j x a j = x := by unfold ur; rw [if_pos ⟨rfl, rfl⟩]
theorem ur_ne {f : Nat → Nat → Option Nat} {a j b k : Nat} {x : Option Nat} (h : ¬ (b = a ∧ k = j)) : ur f a j x b k = f b k := by unfold ur; rw [if_neg h]
section RDD
variable {θ : zS} {T U : Nat} {τ : zT} {Q : Option zV → zS → zM → Prop} {μ : zM}
theorem cLayNew {d : Nat} {x1 : zV} (hc : Tc θ) (hT : Tq θ T) (hU : Tq θ U) (hTU : T = 12 ∧ U = 26 ∨ T = 26 ∧ U = 12) (h2T : θ.2 2 10 = some T) (h2U : θ.2 2 11 = some U) (hd : 5 ≤ d) (hw : wfT τ) (hC : TCn τ T μ) (hCc : TCc τ T μ) (hbb : 0 ≤ μ T 15 ∧ μ T 15 < 64) (hb : ∀ k, k < tD τ → zand (zshr (μ T 15) k) 1 = tO τ k)
    (hQ : ∀ μ', Fr [10, 11, 46, 47, 49, 50, 51, 52, 53, 54, 62, 76, 90, 104, 122] μ μ' → Th (θ.1, ur θ.2 40 8 (some T)) T U → CSn τ (beG τ) 46 μ' → (μ' 62 9 = 0 ∧ μ' 76 9 = 0 ∧ μ' 90 9 = 0) → μ' 104 9 = -1 → μ' 104 10 = -1 → μ' 122 4 = 0 → Q none (θ.1, ur θ.2 40 8 (some T)) μ') : Ex d 159 0 [vr 2, x1] [] θ μ Q := by
  have hd0 : 0 < d := by omega
  have hd1 : 0 < d - 1 := by omega
  have hT' : T = 12 ∨ T = 26 := by omega
  have hU' : U = 12 ∨ U = 26 := by omega
  have hc0 := hc
  obtain ⟨θ', hθ⟩ : ∃ θ', θ' = (θ.1, ur θ.2 40 8 (some T)) := ⟨_, rfl⟩
  have hth : Th θ' T U := by
    rw [hθ]
    refine ⟨Tc_gt hc (Or.inl ⟨rfl, rfl⟩), Tq_gt hT hT' (Or.inl rfl), Tq_gt hU hU' (Or.inl rfl), hTU, ?_, ?_, ?_⟩
    · show ur θ.2 40 8 (some T) 2 10 = some T; rw [ur_ne (by decide)]; exact h2T
    · show ur θ.2 40 8 (some T) 2 11 = some U; rw [ur_ne (by decide)]; exact h2U
    · show ur θ.2 40 8 (some T) 40 8 = some T; exact ur_same
  rw [← hθ] at hQ
  have hX : CX θ' T U τ μ := ⟨hth, hw, hC, hCc⟩
  have hc := hth.1
  have h2T' := hth.2.2.2.2.1
  simp only [x159_0, x159_1, x159_4, x159_5, x159_8, x159_11, x159_12, x159_15, x159_16, x159_19, x159_20, x159_23, x159_26, x159_27, x159_29, x159_30, x159_33, x159_34, x159_37, x159_38, x159_39, x159_40, x159_43, x159_46, x159_49, x159_50, x159_53, ↓reduceIte, Bool.false_eq_true, Nat.reduceAdd, Nat.reduceLT, Nat.reduceLeDiff, Nat.reduceSub, Nat.reduceEqDiff, Int.reduceToNat, Int.reduceEq, Int.reduceLT, Int.reduceLE, Int.reduceAdd, Int.reduceSub, zg, zI, zJ, zR, zst, zkl, zn, zcat, zok, zraw, List.length_cons, List.length_nil, Option.toList, List.nil_append, List.cons_append, true_and, and_true, if_true, if_false, ne_eq, not_true, not_false_eq_true, and_self, true_or, or_true, false_or, or_false, false_and, and_false, b_2 hc0, r_2_3 hc0, h2T, b_40 hc0, ← hθ, b_2 hc, r_2_2 hc, r_2_4 hc, h2T', b_46 hc, hd0]
  simp only [x68_0, x68_1, x68_4, x68_5, x68_6, x68_9, x68_10, x68_13, x68_14, x68_17, x68_18, x68_19, x68_22, x68_23, x68_24, x68_27, ↓reduceIte, Bool.false_eq_true, Nat.reduceAdd, Nat.reduceLT, Nat.reduceLeDiff, Nat.reduceSub, Nat.reduceEqDiff, Int.reduceToNat, Int.reduceEq, Int.reduceLT, Int.reduceLE, Int.reduceAdd, Int.reduceSub, zg, zI, zJ, zR, zst, zkl, zn, zcat, zok, zraw, List.length_cons, List.length_nil, Option.toList, List.nil_append, List.cons_append, true_and, and_true, if_true, if_false, ne_eq, not_true, not_false_eq_true, and_self, true_or, or_true, false_or, or_false, false_and, and_false, b_2 hc, b_3 hc, b_9 hc, b_12 hc, b_26 hc, b_40 hc, b_46 hc, b_47 hc, b_60 hc, b_62 hc, b_63 hc, b_76 hc, b_77 hc, b_90 hc, b_91 hc, b_104 hc, b_107 hc, b_114 hc, b_115 hc, b_122 hc, b_123 hc, b_131 hc, b_46 hc, r_46_0 hc, r_46_1 hc, x_54 hc, r_46_2 hc, x_55 hc, r_46_3 hc, x_56 hc, r_46_4 hc, x_57 hc, r_46_5 hc, x_58 hc, r_46_6 hc, x_59 hc, hd1]
  refine cLayAsTold (d := d - 1 - 1) hX (by omega) hb (fun μ1 f1 R1 b1 => ?_)
  simp only [x68_0, x68_1, x68_4, x68_5, x68_6, x68_9, x68_10, x68_13, x68_14, x68_17, x68_18, x68_19, x68_22, x68_23, x68_24, x68_27, ↓reduceIte, Bool.false_eq_true, Nat.reduceAdd, Nat.reduceLT, Nat.reduceLeDiff, Nat.reduceSub, Nat.reduceEqDiff, Int.reduceToNat, Int.reduceEq, Int.reduceLT, Int.reduceLE, Int.reduceAdd, Int.reduceSub, zg, zI, zJ, zR, zst, zkl, zn, zcat, zok, zraw, List.length_cons, List.length_nil, Option.toList, List.nil_append, List.cons_append, true_and, and_true, if_true, if_false, ne_eq, not_true, not_false_eq_true, and_self, true_or, or_true, false_or, or_false, false_and, and_false, b_2 hc, b_3 hc, b_9 hc, b_12 hc, b_26 hc, b_40 hc, b_46 hc, b_47 hc, b_60 hc, b_62 hc, b_63 hc, b_76 hc, b_77 hc, b_90 hc, b_91 hc, b_104 hc, b_107 hc, b_114 hc, b_115 hc, b_122 hc, b_123 hc, b_131 hc, b_46 hc, r_46_0 hc, r_46_1 hc, x_54 hc, r_46_2 hc, x_55 hc, r_46_3 hc, x_56 hc, r_46_4 hc, x_57 hc, r_46_5 hc, x_58 hc, r_46_6 hc, x_59 hc, hd1]
  refine eFill (d := d - 1 - 1) (n := 480) (by decide) (s_54 hc) (by decide) ?_
  simp only [x68_0, x68_1, x68_4, x68_5, x68_6, x68_9, x68_10, x68_13, x68_14, x68_17, x68_18, x68_19, x68_22, x68_23, x68_24, x68_27, ↓reduceIte, Bool.false_eq_true, Nat.reduceAdd, Nat.reduceLT, Nat.reduceLeDiff, Nat.reduceSub, Nat.reduceEqDiff, Int.reduceToNat, Int.reduceEq, Int.reduceLT, Int.reduceLE, Int.reduceAdd, Int.reduceSub, zg, zI, zJ, zR, zst, zkl, zn, zcat, zok, zraw, List.length_cons, List.length_nil, Option.toList, List.nil_append, List.cons_append, true_and, and_true, if_true, if_false, ne_eq, not_true, not_false_eq_true, and_self, true_or, or_true, false_or, or_false, false_and, and_false, b_2 hc, b_3 hc, b_9 hc, b_12 hc, b_26 hc, b_40 hc, b_46 hc, b_47 hc, b_60 hc, b_62 hc, b_63 hc, b_76 hc, b_77 hc, b_90 hc, b_91 hc, b_104 hc, b_107 hc, b_114 hc, b_115 hc, b_122 hc, b_123 hc, b_131 hc, b_46 hc, r_46_0 hc, r_46_1 hc, x_54 hc, r_46_2 hc, x_55 hc, r_46_3 hc, x_56 hc, r_46_4 hc, x_57 hc, r_46_5 hc, x_58 hc, r_46_6 hc, x_59 hc, ua_eq, us_same, us_us]
  obtain ⟨μ2, hμ2⟩ : ∃ μ2, μ2 = us (us μ1 54 (fun j => if j < 480 then 0 else μ1 54 j)) 46 (zup (zup (us μ1 54 (fun j => if j < 480 then 0 else μ1 54 j) 46) 7 0) 8 0) := ⟨_, rfl⟩
  have f2 : Fr [46, 54] μ1 μ2 := by rw [hμ2]; exact Fr.us (by simp) (Fr.us (by simp) Fr.refl)
  have e254 : ∀ k, k < 480 → μ2 54 k = 0 := fun k hk => by rw [hμ2, us_ne (by decide), us_same, if_pos hk]
  have e467 : μ2 46 7 = 0 ∧ μ2 46 8 = 0 := by rw [hμ2, us_same]; simp [zup]
  simp only [x159_0, x159_1, x159_4, x159_5, x159_8, x159_11, x159_12, x159_15, x159_16, x159_19, x159_20, x159_23, x159_26, x159_27, x159_29, x159_30, x159_33, x159_34, x159_37, x159_38, x159_39, x159_40, x159_43, x159_46, x159_49, x159_50, x159_53, ↓reduceIte, Bool.false_eq_true, Nat.reduceAdd, Nat.reduceLT, Nat.reduceLeDiff, Nat.reduceSub, Nat.reduceEqDiff, Int.reduceToNat, Int.reduceEq, Int.reduceLT, Int.reduceLE, Int.reduceAdd, Int.reduceSub, zg, zI, zJ, zR, zst, zkl, zn, zcat, zok, zraw, List.length_cons, List.length_nil, Option.toList, List.nil_append, List.cons_append, true_and, and_true, if_true, if_false, ne_eq, not_true, not_false_eq_true, and_self, true_or, or_true, false_or, or_false, false_and, and_false, b_2 hc, b_3 hc, b_9 hc, b_12 hc, b_26 hc, b_40 hc, b_46 hc, b_47 hc, b_60 hc, b_62 hc, b_63 hc, b_76 hc, b_77 hc, b_90 hc, b_91 hc, b_104 hc, b_107 hc, b_114 hc, b_115 hc, b_122 hc, b_123 hc, b_131 hc, hd0, ← hμ2]
  clear hμ2
  rw [x159_28]
  simp only [x159_0, x159_1, x159_4, x159_5, x159_8, x159_11, x159_12, x159_15, x159_16, x159_19, x159_20, x159_23, x159_26, x159_27, x159_29, x159_30, x159_33, x159_34, x159_37, x159_38, x159_39, x159_40, x159_43, x159_46, x159_49, x159_50, x159_53, ↓reduceIte, Bool.false_eq_true, Nat.reduceAdd, Nat.reduceLT, Nat.reduceLeDiff, Nat.reduceSub, Nat.reduceEqDiff, Int.reduceToNat, Int.reduceEq, Int.reduceLT, Int.reduceLE, Int.reduceAdd, Int.reduceSub, zg, zI, zJ, zR, zst, zkl, zn, zcat, zok, zraw, List.length_cons, List.length_nil, Option.toList, List.nil_append, List.cons_append, true_and, and_true, if_true, if_false, ne_eq, not_true, not_false_eq_true, and_self, true_or, or_true, false_or, or_false, false_and, and_false, b_2 hc, b_3 hc, b_9 hc, b_12 hc, b_26 hc, b_40 hc, b_46 hc, b_47 hc, b_60 hc, b_62 hc, b_63 hc, b_76 hc, b_77 hc, b_90 hc, b_91 hc, b_104 hc, b_107 hc, b_114 hc, b_115 hc, b_122 hc, b_123 hc, b_131 hc, b_2 hc, r_2_0 hc, r_2_1 hc, r_2_2 hc, r_2_3 hc, r_2_4 hc, r_2_5 hc, x_61 hc, n_61 hc, r_2_6 hc, r_2_7 hc, r_2_8 hc, r_2_9 hc, x_61 hc, n_61 hc, r_61_0 hc, r_61_1 hc, r_61_2 hc, x_61 hc (show (0 : Int) ≤ 0 by decide) (show (0 : Int) < 3 by decide), ua_eq, Int.toNat_zero, show w32 1 = 1 from by decide]
  rw [x159_28]
  simp only [x159_0, x159_1, x159_4, x159_5, x159_8, x159_11, x159_12, x159_15, x159_16, x159_19, x159_20, x159_23, x159_26, x159_27, x159_29, x159_30, x159_33, x159_34, x159_37, x159_38, x159_39, x159_40, x159_43, x159_46, x159_49, x159_50, x159_53, ↓reduceIte, Bool.false_eq_true, Nat.reduceAdd, Nat.reduceLT, Nat.reduceLeDiff, Nat.reduceSub, Nat.reduceEqDiff, Int.reduceToNat, Int.reduceEq, Int.reduceLT, Int.reduceLE, Int.reduceAdd, Int.reduceSub, zg, zI, zJ, zR, zst, zkl, zn, zcat, zok, zraw, List.length_cons, List.length_nil, Option.toList, List.nil_append, List.cons_append, true_and, and_true, if_true, if_false, ne_eq, not_true, not_false_eq_true, and_self, true_or, or_true, false_or, or_false, false_and, and_false, b_2 hc, b_3 hc, b_9 hc, b_12 hc, b_26 hc, b_40 hc, b_46 hc, b_47 hc, b_60 hc, b_62 hc, b_63 hc, b_76 hc, b_77 hc, b_90 hc, b_91 hc, b_104 hc, b_107 hc, b_114 hc, b_115 hc, b_122 hc, b_123 hc, b_131 hc, b_2 hc, r_2_0 hc, r_2_1 hc, r_2_2 hc, r_2_3 hc, r_2_4 hc, r_2_5 hc, x_61 hc, n_61 hc, r_2_6 hc, r_2_7 hc, r_2_8 hc, r_2_9 hc, x_61 hc, n_61 hc, r_61_0 hc, r_61_1 hc, r_61_2 hc, x_61 hc (show (0 : Int) ≤ 1 by decide) (show (1 : Int) < 3 by decide), ua_eq, Int.toNat_one, show w32 2 = 2 from by decide]
  rw [x159_28]
  simp only [x159_0, x159_1, x159_4, x159_5, x159_8, x159_11, x159_12, x159_15, x159_16, x159_19, x159_20, x159_23, x159_26, x159_27, x159_29, x159_30, x159_33, x159_34, x159_37, x159_38, x159_39, x159_40, x159_43, x159_46, x159_49, x159_50, x159_53, ↓reduceIte, Bool.false_eq_true, Nat.reduceAdd, Nat.reduceLT, Nat.reduceLeDiff, Nat.reduceSub, Nat.reduceEqDiff, Int.reduceToNat, Int.reduceEq, Int.reduceLT, Int.reduceLE, Int.reduceAdd, Int.reduceSub, zg, zI, zJ, zR, zst, zkl, zn, zcat, zok, zraw, List.length_cons, List.length_nil, Option.toList, List.nil_append, List.cons_append, true_and, and_true, if_true, if_false, ne_eq, not_true, not_false_eq_true, and_self, true_or, or_true, false_or, or_false, false_and, and_false, b_2 hc, b_3 hc, b_9 hc, b_12 hc, b_26 hc, b_40 hc, b_46 hc, b_47 hc, b_60 hc, b_62 hc, b_63 hc, b_76 hc, b_77 hc, b_90 hc, b_91 hc, b_104 hc, b_107 hc, b_114 hc, b_115 hc, b_122 hc, b_123 hc, b_131 hc, b_2 hc, r_2_0 hc, r_2_1 hc, r_2_2 hc, r_2_3 hc, r_2_4 hc, r_2_5 hc, x_61 hc, n_61 hc, r_2_6 hc, r_2_7 hc, r_2_8 hc, r_2_9 hc, x_61 hc, n_61 hc, r_61_0 hc, r_61_1 hc, r_61_2 hc, x_61 hc (show (0 : Int) ≤ 2 by decide) (show (2 : Int) < 3 by decide), ua_eq, Int.reduceToNat, show w32 3 = 3 from by decide]
  rw [x159_28]
  simp only [x159_0, x159_1, x159_4, x159_5, x159_8, x159_11, x159_12, x159_15, x159_16, x159_19, x159_20, x159_23, x159_26, x159_27, x159_29, x159_30, x159_33, x159_34, x159_37, x159_38, x159_39, x159_40, x159_43, x159_46, x159_49, x159_50, x159_53, ↓reduceIte, Bool.false_eq_true, Nat.reduceAdd, Nat.reduceLT, Nat.reduceLeDiff, Nat.reduceSub, Nat.reduceEqDiff, Int.reduceToNat, Int.reduceEq, Int.reduceLT, Int.reduceLE, Int.reduceAdd, Int.reduceSub, zg, zI, zJ, zR, zst, zkl, zn, zcat, zok, zraw, List.length_cons, List.length_nil, Option.toList, List.nil_append, List.cons_append, true_and, and_true, if_true, if_false, ne_eq, not_true, not_false_eq_true, and_self, true_or, or_true, false_or, or_false, false_and, and_false, b_2 hc, b_3 hc, b_9 hc, b_12 hc, b_26 hc, b_40 hc, b_46 hc, b_47 hc, b_60 hc, b_62 hc, b_63 hc, b_76 hc, b_77 hc, b_90 hc, b_91 hc, b_104 hc, b_107 hc, b_114 hc, b_115 hc, b_122 hc, b_123 hc, b_131 hc, Int.le_refl, hd0]
  obtain ⟨μ3, hμ3⟩ : ∃ μ3, μ3 = us (us (us μ2 62 (zup (μ2 62) 9 0)) 76 (zup (μ2 76) 9 0)) 90 (zup (μ2 90) 9 0) := ⟨_, rfl⟩
  have f3 : Fr [62, 76, 90] μ2 μ3 := by rw [hμ3]; exact Fr.us (by simp) (Fr.us (by simp) (Fr.us (by simp) Fr.refl))
  have h62 : μ3 62 9 = 0 := by rw [hμ3, us_ne (by decide), us_ne (by decide), us_same, zup_same rfl]
  have h76 : μ3 76 9 = 0 := by rw [hμ3, us_ne (by decide), us_same, zup_same rfl]
  have h90 : μ3 90 9 = 0 := by rw [hμ3, us_same, zup_same rfl]
  simp only [us_ne (show (76 : Nat) ≠ 62 by decide), us_ne (show (90 : Nat) ≠ 76 by decide), us_ne (show (90 : Nat) ≠ 62 by decide), ← hμ3]
  clear hμ3
  refine cForgetPlans (d := d - 1) hc (by omega) (fun μ4 f4 p9 p10 p4 => ?_)
  simp only [x159_0, x159_1, x159_4, x159_5, x159_8, x159_11, x159_12, x159_15, x159_16, x159_19, x159_20, x159_23, x159_26, x159_27, x159_29, x159_30, x159_33, x159_34, x159_37, x159_38, x159_39, x159_40, x159_43, x159_46, x159_49, x159_50, x159_53, ↓reduceIte, Bool.false_eq_true, Nat.reduceAdd, Nat.reduceLT, Nat.reduceLeDiff, Nat.reduceSub, Nat.reduceEqDiff, Int.reduceToNat, Int.reduceEq, Int.reduceLT, Int.reduceLE, Int.reduceAdd, Int.reduceSub, zg, zI, zJ, zR, zst, zkl, zn, zcat, zok, zraw, List.length_cons, List.length_nil, Option.toList, List.nil_append, List.cons_append, true_and, and_true, if_true, if_false, ne_eq, not_true, not_false_eq_true, and_self, true_or, or_true, false_or, or_false, false_and, and_false]
  have e : ∀ a, a ∈ [47, 49, 50, 51, 52, 53] → μ4 a = μ1 a := fun a ha => by
    have h1 : a ∉ [104, 122] := by simp at ha ⊢; omega
    have h2 : a ∉ [62, 76, 90] := by simp at ha ⊢; omega
    have h3 : a ∉ [46, 54] := by simp at ha ⊢; omega
    rw [f4 a h1, f3 a h2, f2 a h3]
  have e46 : μ4 46 = μ2 46 := by rw [f4 46 (by decide), f3 46 (by decide)]
  have e54 : μ4 54 = μ2 54 := by rw [f4 54 (by decide), f3 54 (by decide)]
  refine hQ μ4 (((f1.mono (by simp)).trans (f2.mono (by simp))).trans ((f3.mono (by simp)).trans (f4.mono (by simp)))) hth ⟨⟨rf47, beF_w hw, ?_⟩, ?_, ?_, ?_, ?_⟩ ⟨?_, ?_, ?_⟩ p9 p10 p4
  · obtain ⟨r1, r2, r3, r4⟩ := R1
    refine ⟨by rw [e 47 (by simp)]; exact r1, fun m q hm hq => ?_, by rw [e 47 (by simp)]; exact r3, by rw [e 47 (by simp)]; exact r4⟩
    rw [e (47 + (m + 2)) (by simp; omega)]; exact r2 m q hm hq
  · show 0 ≤ μ4 47 2 ∧ μ4 47 2 < 64
    rw [e 47 (by simp), b1]; exact hbb
  · intro k hk
    show μ4 54 k = 0
    rw [e54]; exact e254 k hk
  · refine ⟨?_, fun k hk => by cases hk⟩
    show μ4 46 7 = 0
    rw [e46]; exact e467.1
  · refine ⟨?_, fun k hk => by cases hk⟩
    show μ4 46 8 = 0
    rw [e46]; exact e467.2
  · rw [f4 62 (by decide)]; exact h62
  · rw [f4 76 (by decide)]; exact h76
  · rw [f4 90 (by decide)]; exact h90
end RDD
