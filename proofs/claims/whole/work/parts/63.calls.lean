/-! CALLS that ask, both sides (printed by calls.py) -/
section CB
variable {θ : zS} {T U : Nat} {σ : zSt} {Q : Option zV → zS → zM → Prop} {μ : zM} {s : Nat}
theorem mIsDoor {d : Nat} {τ : zT} (h : MX θ τ s μ) (hd : 1 ≤ d) (x : Int) : Ex d 205 0 [vr 138, vi x] [] θ μ Q = Q (some (vi (if 0 ≤ x ∧ x < (tD τ : Int) then 1 else 0))) θ μ := by
  have hm := h.1
  have hd0 : 0 < d := by omega
  have h157 := h.2.2.1.2.1.1
  have h18 := h.2.2.2.1
  have hs := h.2.2.2.2
  have hd6 := h.2.1.2.2.2.2.1
  have a1 : w32 ((tD τ : Int) - 1) = (tD τ : Int) - 1 := w32_i (by omega) (by omega)
  have e : (0 ≤ x ∧ x ≤ (tD τ : Int) - 1) = (0 ≤ x ∧ x < (tD τ : Int)) := propext (by omega)
  simp (disch := omega) only [x205_0, x205_1, x205_2, x205_3, x205_6, x205_7, x205_10, x205_11, x205_12, x205_13, x205_16, ↓reduceIte, Bool.false_eq_true, Nat.reduceAdd, Nat.reduceLT, Nat.reduceLeDiff, Nat.reduceSub, Nat.reduceEqDiff, Int.reduceToNat, Int.reduceEq, Int.reduceLT, Int.reduceLE, Int.reduceAdd, Int.reduceSub, zg, zI, zJ, zR, zst, zkl, zn, zcat, zok, zraw, List.length_cons, List.length_nil, Option.toList, List.nil_append, List.cons_append, true_and, and_true, if_true, if_false, ne_eq, not_true, not_false_eq_true, and_self, true_or, or_true, false_or, or_false, false_and, and_false, b_138 hm, r_138_32 hm, x_157 hm, hd0, h18, h157, Int.toNat_natCast, a1, mIn, e]
  by_cases h2 : 0 ≤ x ∧ x < (tD τ : Int)
  · simp [h2]
  · simp [h2]
theorem rn_fo0 {τ : zT} {ρ : zF} {g w : Int} (h : faO τ ρ g w = 0) (t : Nat) : rnO τ ρ g w (gnO τ ρ) 36 t = none := by
  unfold faO foO at h
  have hl : alO τ ρ g w (gnO τ ρ) = [] := List.length_eq_zero_iff.mp (by omega)
  cases hr : rnO τ ρ g w (gnO τ ρ) 36 t with
  | none => rfl
  | some q =>
    have : t ∈ alO τ ρ g w (gnO τ ρ) := or_mem.mpr (by rw [hr]; rfl)
    rw [hl] at this; cases this
def vRound (σ : zSt) (t g w : Int) : Int := if (0 ≤ t ∧ t < (tn (sT σ) : Int)) ∧ (0 ≤ g ∧ g ≤ 99) ∧ (0 ≤ w ∧ w ≤ 3) then (rnV (rnO (sT σ) (gR (sG σ)) g w (gnO (sT σ) (gR (sG σ))) 36 t.toNat)) else -1
theorem kRound {d : Nat} {t g w : Int} (h : CS θ T U σ μ) (hd : 7 ≤ d) (hQ : ∀ μ', CL μ μ' → CS θ T U σ μ' → Q (some (vi (vRound σ t g w))) θ μ') : Ex d 118 0 [vr 2, vi t, vi g, vi w] [] θ μ Q := by
  have hc := h.1.1.1
  have hT := h.1.1.2.1
  have hd0 : 0 < d := by omega
  have hd1 : 0 < d - 1 := by omega
  have hn := tn_b h.1.2.1
  have hno : ¬ ((0 ≤ t ∧ t < (tn (sT σ) : Int)) ∧ (0 ≤ g ∧ g ≤ 99) ∧ (0 ≤ w ∧ w ≤ 3)) → Q (some (vi (-1))) θ μ := fun hn => by
    have := hQ μ (fun _ _ => rfl) h
    unfold vRound at this
    rwa [if_neg hn] at this
  have hyes : ((0 ≤ t ∧ t < (tn (sT σ) : Int)) ∧ (0 ≤ g ∧ g ≤ 99) ∧ (0 ≤ w ∧ w ≤ 3)) → ∀ {μ'}, CL μ μ' → CS θ T U σ μ' → Q (some (vi (rnV (rnO (sT σ) (gR (sG σ)) g w (gnO (sT σ) (gR (sG σ))) 36 t.toNat)))) θ μ' := fun hp μ' a b => by
    have := hQ μ' a b
    unfold vRound at this
    rwa [if_pos hp] at this
  by_cases q0 : 0 ≤ t ∧ t < (tn (sT σ) : Int)
  · by_cases q1 : 0 ≤ g ∧ g ≤ 99
    · by_cases q2 : 0 ≤ w ∧ w ≤ 3
      · simp (disch := omega) only [x118_0, x118_1, x118_2, x118_5, x118_8, x118_9, x118_12, x118_15, x118_16, x118_19, x118_22, x118_23, x118_24, x118_25, x118_28, x118_29, x118_32, x118_35, x118_36, x118_37, x118_38, x118_41, x118_42, x118_45, x118_48, x118_49, x118_50, ↓reduceIte, Bool.false_eq_true, Nat.reduceAdd, Nat.reduceLT, Nat.reduceLeDiff, Nat.reduceSub, Nat.reduceEqDiff, Int.reduceToNat, Int.reduceEq, Int.reduceLT, Int.reduceLE, Int.reduceAdd, Int.reduceSub, zg, zI, zJ, zR, zst, zkl, zn, zcat, zok, zraw, List.length_cons, List.length_nil, Option.toList, List.nil_append, List.cons_append, true_and, and_true, if_true, if_false, ne_eq, not_true, not_false_eq_true, and_self, true_or, or_true, false_or, or_false, false_and, and_false, b_2 hc, b_3 hc, b_9 hc, b_12 hc, b_26 hc, b_40 hc, b_46 hc, b_47 hc, b_60 hc, b_62 hc, b_63 hc, b_76 hc, b_77 hc, b_90 hc, b_91 hc, b_104 hc, b_107 hc, b_114 hc, b_115 hc, b_122 hc, b_123 hc, b_131 hc, b_2 hc, r_2_0 hc, r_2_1 hc, r_2_2 hc, r_2_3 hc, r_2_4 hc, r_2_5 hc, x_61 hc, n_61 hc, r_2_6 hc, r_2_7 hc, r_2_8 hc, r_2_9 hc, b_46 hc, r_46_0 hc, r_46_1 hc, x_54 hc, r_46_2 hc, x_55 hc, r_46_3 hc, x_56 hc, r_46_4 hc, x_57 hc, r_46_5 hc, x_58 hc, r_46_6 hc, x_59 hc, b_40 hc, r_40_0 hc, x_41 hc, r_40_1 hc, x_42 hc, r_40_2 hc, x_43 hc, r_40_9 hc, r_40_10 hc, x_44 hc, r_40_11 hc, x_45 hc, b_9 hc, r_9_0 hc, x_10 hc, r_9_1 hc, x_11 hc, b_104 hc, r_104_0 hc, x_105 hc, r_104_1 hc, x_106 hc, r_104_6 hc, r_104_7 hc, r_104_8 hc, b_114 hc, r_114_0 hc, r_114_1 hc, r_114_2 hc, hd0, hd1, cIsTile _ h.1, cIsGust, cIsWay, q0, q1, q2]
        obtain ⟨N, rfl⟩ : ∃ N : Nat, t = (N : Int) := ⟨t.toNat, by omega⟩
        refine cRun (d := d - 1) (ρ := gR (sG σ)) h.1 h.2.2.1.1 (by omega) q1 q2 (Or.inl rfl) ?_
        intro μ1 hf hR
        have e := hR.2.2.2.1 N (by omega)
        simp (disch := omega) only [x118_0, x118_1, x118_2, x118_5, x118_8, x118_9, x118_12, x118_15, x118_16, x118_19, x118_22, x118_23, x118_24, x118_25, x118_28, x118_29, x118_32, x118_35, x118_36, x118_37, x118_38, x118_41, x118_42, x118_45, x118_48, x118_49, x118_50, ↓reduceIte, Bool.false_eq_true, Nat.reduceAdd, Nat.reduceLT, Nat.reduceLeDiff, Nat.reduceSub, Nat.reduceEqDiff, Int.reduceToNat, Int.reduceEq, Int.reduceLT, Int.reduceLE, Int.reduceAdd, Int.reduceSub, zg, zI, zJ, zR, zst, zkl, zn, zcat, zok, zraw, List.length_cons, List.length_nil, Option.toList, List.nil_append, List.cons_append, true_and, and_true, if_true, if_false, ne_eq, not_true, not_false_eq_true, and_self, true_or, or_true, false_or, or_false, false_and, and_false, b_2 hc, b_3 hc, b_9 hc, b_12 hc, b_26 hc, b_40 hc, b_46 hc, b_47 hc, b_60 hc, b_62 hc, b_63 hc, b_76 hc, b_77 hc, b_90 hc, b_91 hc, b_104 hc, b_107 hc, b_114 hc, b_115 hc, b_122 hc, b_123 hc, b_131 hc, b_2 hc, r_2_0 hc, r_2_1 hc, r_2_2 hc, r_2_3 hc, r_2_4 hc, r_2_5 hc, x_61 hc, n_61 hc, r_2_6 hc, r_2_7 hc, r_2_8 hc, r_2_9 hc, b_40 hc, r_40_0 hc, x_41 hc, r_40_1 hc, x_42 hc, r_40_2 hc, x_43 hc, r_40_9 hc, r_40_10 hc, x_44 hc, r_40_11 hc, x_45 hc, e, Int.toNat_natCast]
        have := hyes ⟨q0, q1, q2⟩ (CL_fr hf (by decide)) (CS_fr h hf (by decide))
        rwa [Int.toNat_natCast] at this
      · simp (disch := omega) only [x118_0, x118_1, x118_2, x118_5, x118_8, x118_9, x118_12, x118_15, x118_16, x118_19, x118_22, x118_23, x118_24, x118_25, x118_28, x118_29, x118_32, x118_35, x118_36, x118_37, x118_38, x118_41, x118_42, x118_45, x118_48, x118_49, x118_50, ↓reduceIte, Bool.false_eq_true, Nat.reduceAdd, Nat.reduceLT, Nat.reduceLeDiff, Nat.reduceSub, Nat.reduceEqDiff, Int.reduceToNat, Int.reduceEq, Int.reduceLT, Int.reduceLE, Int.reduceAdd, Int.reduceSub, zg, zI, zJ, zR, zst, zkl, zn, zcat, zok, zraw, List.length_cons, List.length_nil, Option.toList, List.nil_append, List.cons_append, true_and, and_true, if_true, if_false, ne_eq, not_true, not_false_eq_true, and_self, true_or, or_true, false_or, or_false, false_and, and_false, b_2 hc, b_3 hc, b_9 hc, b_12 hc, b_26 hc, b_40 hc, b_46 hc, b_47 hc, b_60 hc, b_62 hc, b_63 hc, b_76 hc, b_77 hc, b_90 hc, b_91 hc, b_104 hc, b_107 hc, b_114 hc, b_115 hc, b_122 hc, b_123 hc, b_131 hc, b_2 hc, r_2_0 hc, r_2_1 hc, r_2_2 hc, r_2_3 hc, r_2_4 hc, r_2_5 hc, x_61 hc, n_61 hc, r_2_6 hc, r_2_7 hc, r_2_8 hc, r_2_9 hc, b_46 hc, r_46_0 hc, r_46_1 hc, x_54 hc, r_46_2 hc, x_55 hc, r_46_3 hc, x_56 hc, r_46_4 hc, x_57 hc, r_46_5 hc, x_58 hc, r_46_6 hc, x_59 hc, b_40 hc, r_40_0 hc, x_41 hc, r_40_1 hc, x_42 hc, r_40_2 hc, x_43 hc, r_40_9 hc, r_40_10 hc, x_44 hc, r_40_11 hc, x_45 hc, b_9 hc, r_9_0 hc, x_10 hc, r_9_1 hc, x_11 hc, b_104 hc, r_104_0 hc, x_105 hc, r_104_1 hc, x_106 hc, r_104_6 hc, r_104_7 hc, r_104_8 hc, b_114 hc, r_114_0 hc, r_114_1 hc, r_114_2 hc, hd0, hd1, cIsTile _ h.1, cIsGust, cIsWay, q0, q1, q2]
        exact hno (by omega)
    · simp (disch := omega) only [x118_0, x118_1, x118_2, x118_5, x118_8, x118_9, x118_12, x118_15, x118_16, x118_19, x118_22, x118_23, x118_24, x118_25, x118_28, x118_29, x118_32, x118_35, x118_36, x118_37, x118_38, x118_41, x118_42, x118_45, x118_48, x118_49, x118_50, ↓reduceIte, Bool.false_eq_true, Nat.reduceAdd, Nat.reduceLT, Nat.reduceLeDiff, Nat.reduceSub, Nat.reduceEqDiff, Int.reduceToNat, Int.reduceEq, Int.reduceLT, Int.reduceLE, Int.reduceAdd, Int.reduceSub, zg, zI, zJ, zR, zst, zkl, zn, zcat, zok, zraw, List.length_cons, List.length_nil, Option.toList, List.nil_append, List.cons_append, true_and, and_true, if_true, if_false, ne_eq, not_true, not_false_eq_true, and_self, true_or, or_true, false_or, or_false, false_and, and_false, b_2 hc, b_3 hc, b_9 hc, b_12 hc, b_26 hc, b_40 hc, b_46 hc, b_47 hc, b_60 hc, b_62 hc, b_63 hc, b_76 hc, b_77 hc, b_90 hc, b_91 hc, b_104 hc, b_107 hc, b_114 hc, b_115 hc, b_122 hc, b_123 hc, b_131 hc, b_2 hc, r_2_0 hc, r_2_1 hc, r_2_2 hc, r_2_3 hc, r_2_4 hc, r_2_5 hc, x_61 hc, n_61 hc, r_2_6 hc, r_2_7 hc, r_2_8 hc, r_2_9 hc, b_46 hc, r_46_0 hc, r_46_1 hc, x_54 hc, r_46_2 hc, x_55 hc, r_46_3 hc, x_56 hc, r_46_4 hc, x_57 hc, r_46_5 hc, x_58 hc, r_46_6 hc, x_59 hc, b_40 hc, r_40_0 hc, x_41 hc, r_40_1 hc, x_42 hc, r_40_2 hc, x_43 hc, r_40_9 hc, r_40_10 hc, x_44 hc, r_40_11 hc, x_45 hc, b_9 hc, r_9_0 hc, x_10 hc, r_9_1 hc, x_11 hc, b_104 hc, r_104_0 hc, x_105 hc, r_104_1 hc, x_106 hc, r_104_6 hc, r_104_7 hc, r_104_8 hc, b_114 hc, r_114_0 hc, r_114_1 hc, r_114_2 hc, hd0, hd1, cIsTile _ h.1, cIsGust, cIsWay, q0, q1]
      exact hno (by omega)
  · simp (disch := omega) only [x118_0, x118_1, x118_2, x118_5, x118_8, x118_9, x118_12, x118_15, x118_16, x118_19, x118_22, x118_23, x118_24, x118_25, x118_28, x118_29, x118_32, x118_35, x118_36, x118_37, x118_38, x118_41, x118_42, x118_45, x118_48, x118_49, x118_50, ↓reduceIte, Bool.false_eq_true, Nat.reduceAdd, Nat.reduceLT, Nat.reduceLeDiff, Nat.reduceSub, Nat.reduceEqDiff, Int.reduceToNat, Int.reduceEq, Int.reduceLT, Int.reduceLE, Int.reduceAdd, Int.reduceSub, zg, zI, zJ, zR, zst, zkl, zn, zcat, zok, zraw, List.length_cons, List.length_nil, Option.toList, List.nil_append, List.cons_append, true_and, and_true, if_true, if_false, ne_eq, not_true, not_false_eq_true, and_self, true_or, or_true, false_or, or_false, false_and, and_false, b_2 hc, b_3 hc, b_9 hc, b_12 hc, b_26 hc, b_40 hc, b_46 hc, b_47 hc, b_60 hc, b_62 hc, b_63 hc, b_76 hc, b_77 hc, b_90 hc, b_91 hc, b_104 hc, b_107 hc, b_114 hc, b_115 hc, b_122 hc, b_123 hc, b_131 hc, b_2 hc, r_2_0 hc, r_2_1 hc, r_2_2 hc, r_2_3 hc, r_2_4 hc, r_2_5 hc, x_61 hc, n_61 hc, r_2_6 hc, r_2_7 hc, r_2_8 hc, r_2_9 hc, b_46 hc, r_46_0 hc, r_46_1 hc, x_54 hc, r_46_2 hc, x_55 hc, r_46_3 hc, x_56 hc, r_46_4 hc, x_57 hc, r_46_5 hc, x_58 hc, r_46_6 hc, x_59 hc, b_40 hc, r_40_0 hc, x_41 hc, r_40_1 hc, x_42 hc, r_40_2 hc, x_43 hc, r_40_9 hc, r_40_10 hc, x_44 hc, r_40_11 hc, x_45 hc, b_9 hc, r_9_0 hc, x_10 hc, r_9_1 hc, x_11 hc, b_104 hc, r_104_0 hc, x_105 hc, r_104_1 hc, x_106 hc, r_104_6 hc, r_104_7 hc, r_104_8 hc, b_114 hc, r_114_0 hc, r_114_1 hc, r_114_2 hc, hd0, hd1, cIsTile _ h.1, cIsGust, cIsWay, q0]
    exact hno (by omega)
theorem rRound {d : Nat} {t g w : Int} {x90 : zV} (h : MS θ σ s μ) (hd : 11 ≤ d) (hQ : ∀ μ', ML2 μ μ' → MS θ σ s μ' → Q (some (vi (vRound σ t g w))) θ μ') : Ex d 234 0 [vr 138, vi t, vi g, vi w, x90] [] θ μ Q := by
  have hm := h.1.1
  have hd0 : 0 < d := by omega
  have hd1 : 0 < d - 1 := by omega
  have hn := tn_b h.1.2.1
  have hno : ¬ ((0 ≤ t ∧ t < (tn (sT σ) : Int)) ∧ (0 ≤ g ∧ g ≤ 99) ∧ (0 ≤ w ∧ w ≤ 3)) → Q (some (vi (-1))) θ μ := fun hn => by
    have := hQ μ (fun _ _ => rfl) h
    unfold vRound at this
    rwa [if_neg hn] at this
  have hyes : ((0 ≤ t ∧ t < (tn (sT σ) : Int)) ∧ (0 ≤ g ∧ g ≤ 99) ∧ (0 ≤ w ∧ w ≤ 3)) → ∀ {μ'}, ML2 μ μ' → MS θ σ s μ' → Q (some (vi (rnV (rnO (sT σ) (gR (sG σ)) g w (gnO (sT σ) (gR (sG σ))) 36 t.toNat)))) θ μ' := fun hp μ' a b => by
    have := hQ μ' a b
    unfold vRound at this
    rwa [if_pos hp] at this
  by_cases q0 : 0 ≤ t ∧ t < (tn (sT σ) : Int)
  · by_cases q1 : (0 ≤ g ∧ g ≤ 99) ∧ (0 ≤ w ∧ w ≤ 3)
    · simp (disch := omega) only [x234_0, x234_1, x234_2, x234_5, x234_8, x234_9, x234_10, x234_13, x234_16, x234_17, x234_18, x234_19, x234_20, x234_21, x234_24, x234_26, x234_28, x234_31, x234_32, x234_35, x234_36, x234_37, x234_38, x234_41, x234_43, x234_46, x234_47, x234_50, x234_51, x234_52, ↓reduceIte, Bool.false_eq_true, Nat.reduceAdd, Nat.reduceLT, Nat.reduceLeDiff, Nat.reduceSub, Nat.reduceEqDiff, Int.reduceToNat, Int.reduceEq, Int.reduceLT, Int.reduceLE, Int.reduceAdd, Int.reduceSub, zg, zI, zJ, zR, zst, zkl, zn, zcat, zok, zraw, List.length_cons, List.length_nil, Option.toList, List.nil_append, List.cons_append, true_and, and_true, if_true, if_false, ne_eq, not_true, not_false_eq_true, and_self, true_or, or_true, false_or, or_false, false_and, and_false, b_138 hm, hd0, hd1, mIsTile (d := d - 1) h.1 (by omega), mIsGust, q0, q1]
      obtain ⟨N, rfl⟩ : ∃ N : Nat, t = (N : Int) := ⟨t.toNat, by omega⟩
      refine mFall (d := d - 1) (by omega) h.1 h.2.2.1.1 q1.1 q1.2 rfl rfl ?_
      intro μ1 hf hj hF
      have hq := hyes ⟨q0, q1.1, q1.2⟩ (MLe_fr hf (by decide)) (MS_fr h hf (by decide) hj.nine)
      rw [Int.toNat_natCast] at hq
      have e := hF.2.1 N (by omega)
      by_cases h0 : faO (sT σ) (gR (sG σ)) g w = 0
      · rw [rn_fo0 h0] at hq
        simp (disch := omega) only [x234_0, x234_1, x234_2, x234_5, x234_8, x234_9, x234_10, x234_13, x234_16, x234_17, x234_18, x234_19, x234_20, x234_21, x234_24, x234_26, x234_28, x234_31, x234_32, x234_35, x234_36, x234_37, x234_38, x234_41, x234_43, x234_46, x234_47, x234_50, x234_51, x234_52, ↓reduceIte, Bool.false_eq_true, Nat.reduceAdd, Nat.reduceLT, Nat.reduceLeDiff, Nat.reduceSub, Nat.reduceEqDiff, Int.reduceToNat, Int.reduceEq, Int.reduceLT, Int.reduceLE, Int.reduceAdd, Int.reduceSub, zg, zI, zJ, zR, zst, zkl, zn, zcat, zok, zraw, List.length_cons, List.length_nil, Option.toList, List.nil_append, List.cons_append, true_and, and_true, if_true, if_false, ne_eq, not_true, not_false_eq_true, and_self, true_or, or_true, false_or, or_false, false_and, and_false, b_138 hm, h0]
        exact hq
      · cases hr : rnO (sT σ) (gR (sG σ)) g w (gnO (sT σ) (gR (sG σ))) 36 N with
        | none =>
          rw [hr] at hq e
          have e' : μ1 185 N = -1 := e
          simp (disch := omega) only [x234_0, x234_1, x234_2, x234_5, x234_8, x234_9, x234_10, x234_13, x234_16, x234_17, x234_18, x234_19, x234_20, x234_21, x234_24, x234_26, x234_28, x234_31, x234_32, x234_35, x234_36, x234_37, x234_38, x234_41, x234_43, x234_46, x234_47, x234_50, x234_51, x234_52, ↓reduceIte, Bool.false_eq_true, Nat.reduceAdd, Nat.reduceLT, Nat.reduceLeDiff, Nat.reduceSub, Nat.reduceEqDiff, Int.reduceToNat, Int.reduceEq, Int.reduceLT, Int.reduceLE, Int.reduceAdd, Int.reduceSub, zg, zI, zJ, zR, zst, zkl, zn, zcat, zok, zraw, List.length_cons, List.length_nil, Option.toList, List.nil_append, List.cons_append, true_and, and_true, if_true, if_false, ne_eq, not_true, not_false_eq_true, and_self, true_or, or_true, false_or, or_false, false_and, and_false, b_138 hm, r_138_67 hm, x_185 hm, h0, e', Int.toNat_natCast]
          exact hq
        | some p =>
          rw [hr] at hq e
          have e' : μ1 185 N = (p : Int) := e
          have hne : ¬ ((p : Int) = -1) := by omega
          simp (disch := omega) only [x234_0, x234_1, x234_2, x234_5, x234_8, x234_9, x234_10, x234_13, x234_16, x234_17, x234_18, x234_19, x234_20, x234_21, x234_24, x234_26, x234_28, x234_31, x234_32, x234_35, x234_36, x234_37, x234_38, x234_41, x234_43, x234_46, x234_47, x234_50, x234_51, x234_52, ↓reduceIte, Bool.false_eq_true, Nat.reduceAdd, Nat.reduceLT, Nat.reduceLeDiff, Nat.reduceSub, Nat.reduceEqDiff, Int.reduceToNat, Int.reduceEq, Int.reduceLT, Int.reduceLE, Int.reduceAdd, Int.reduceSub, zg, zI, zJ, zR, zst, zkl, zn, zcat, zok, zraw, List.length_cons, List.length_nil, Option.toList, List.nil_append, List.cons_append, true_and, and_true, if_true, if_false, ne_eq, not_true, not_false_eq_true, and_self, true_or, or_true, false_or, or_false, false_and, and_false, b_138 hm, r_138_67 hm, x_185 hm, h0, e', hne, Int.toNat_natCast]
          exact hq
    · simp (disch := omega) only [x234_0, x234_1, x234_2, x234_5, x234_8, x234_9, x234_10, x234_13, x234_16, x234_17, x234_18, x234_19, x234_20, x234_21, x234_24, x234_26, x234_28, x234_31, x234_32, x234_35, x234_36, x234_37, x234_38, x234_41, x234_43, x234_46, x234_47, x234_50, x234_51, x234_52, ↓reduceIte, Bool.false_eq_true, Nat.reduceAdd, Nat.reduceLT, Nat.reduceLeDiff, Nat.reduceSub, Nat.reduceEqDiff, Int.reduceToNat, Int.reduceEq, Int.reduceLT, Int.reduceLE, Int.reduceAdd, Int.reduceSub, zg, zI, zJ, zR, zst, zkl, zn, zcat, zok, zraw, List.length_cons, List.length_nil, Option.toList, List.nil_append, List.cons_append, true_and, and_true, if_true, if_false, ne_eq, not_true, not_false_eq_true, and_self, true_or, or_true, false_or, or_false, false_and, and_false, b_138 hm, hd0, hd1, mIsTile (d := d - 1) h.1 (by omega), mIsGust, q0, q1]
      exact hno (by omega)
  · simp (disch := omega) only [x234_0, x234_1, x234_2, x234_5, x234_8, x234_9, x234_10, x234_13, x234_16, x234_17, x234_18, x234_19, x234_20, x234_21, x234_24, x234_26, x234_28, x234_31, x234_32, x234_35, x234_36, x234_37, x234_38, x234_41, x234_43, x234_46, x234_47, x234_50, x234_51, x234_52, ↓reduceIte, Bool.false_eq_true, Nat.reduceAdd, Nat.reduceLT, Nat.reduceLeDiff, Nat.reduceSub, Nat.reduceEqDiff, Int.reduceToNat, Int.reduceEq, Int.reduceLT, Int.reduceLE, Int.reduceAdd, Int.reduceSub, zg, zI, zJ, zR, zst, zkl, zn, zcat, zok, zraw, List.length_cons, List.length_nil, Option.toList, List.nil_append, List.cons_append, true_and, and_true, if_true, if_false, ne_eq, not_true, not_false_eq_true, and_self, true_or, or_true, false_or, or_false, false_and, and_false, b_138 hm, hd0, hd1, mIsTile (d := d - 1) h.1 (by omega), mIsGust, q0]
    exact hno (by omega)
def vLands (σ : zSt) (t g w : Int) : Int := if (0 ≤ t ∧ t < (tn (sT σ) : Int)) ∧ (0 ≤ g ∧ g ≤ 99) ∧ (0 ≤ w ∧ w ≤ 3) then ((match rnO (sT σ) (gR (sG σ)) g w (gnO (sT σ) (gR (sG σ))) 36 t.toNat with | some q => ceO (sT σ) (gR (sG σ)) (loO (sT σ) (gR (sG σ)) g w (gnO (sT σ) (gR (sG σ))) q) t.toNat g w | none => -2)) else -1
theorem kLands {d : Nat} {t g w : Int} (h : CS θ T U σ μ) (hd : 7 ≤ d) (hQ : ∀ μ', CL μ μ' → CS θ T U σ μ' → Q (some (vi (vLands σ t g w))) θ μ') : Ex d 119 0 [vr 2, vi t, vi g, vi w] [] θ μ Q := by
  have hc := h.1.1.1
  have hT := h.1.1.2.1
  have hd0 : 0 < d := by omega
  have hd1 : 0 < d - 1 := by omega
  have hn := tn_b h.1.2.1
  have hno : ¬ ((0 ≤ t ∧ t < (tn (sT σ) : Int)) ∧ (0 ≤ g ∧ g ≤ 99) ∧ (0 ≤ w ∧ w ≤ 3)) → Q (some (vi (-1))) θ μ := fun hn => by
    have := hQ μ (fun _ _ => rfl) h
    unfold vLands at this
    rwa [if_neg hn] at this
  have hyes : ((0 ≤ t ∧ t < (tn (sT σ) : Int)) ∧ (0 ≤ g ∧ g ≤ 99) ∧ (0 ≤ w ∧ w ≤ 3)) → ∀ {μ'}, CL μ μ' → CS θ T U σ μ' → Q (some (vi ((match rnO (sT σ) (gR (sG σ)) g w (gnO (sT σ) (gR (sG σ))) 36 t.toNat with | some q => ceO (sT σ) (gR (sG σ)) (loO (sT σ) (gR (sG σ)) g w (gnO (sT σ) (gR (sG σ))) q) t.toNat g w | none => -2)))) θ μ' := fun hp μ' a b => by
    have := hQ μ' a b
    unfold vLands at this
    rwa [if_pos hp] at this
  by_cases q0 : 0 ≤ t ∧ t < (tn (sT σ) : Int)
  · by_cases q1 : 0 ≤ g ∧ g ≤ 99
    · by_cases q2 : 0 ≤ w ∧ w ≤ 3
      · simp (disch := omega) only [x119_0, x119_1, x119_2, x119_5, x119_8, x119_9, x119_12, x119_15, x119_16, x119_19, x119_22, x119_23, x119_24, x119_25, x119_28, x119_29, x119_32, x119_35, x119_36, x119_37, x119_38, x119_41, x119_42, x119_45, x119_48, x119_49, x119_50, x119_52, x119_55, x119_57, x119_60, x119_61, x119_64, x119_67, x119_68, x119_69, ↓reduceIte, Bool.false_eq_true, Nat.reduceAdd, Nat.reduceLT, Nat.reduceLeDiff, Nat.reduceSub, Nat.reduceEqDiff, Int.reduceToNat, Int.reduceEq, Int.reduceLT, Int.reduceLE, Int.reduceAdd, Int.reduceSub, zg, zI, zJ, zR, zst, zkl, zn, zcat, zok, zraw, List.length_cons, List.length_nil, Option.toList, List.nil_append, List.cons_append, true_and, and_true, if_true, if_false, ne_eq, not_true, not_false_eq_true, and_self, true_or, or_true, false_or, or_false, false_and, and_false, b_2 hc, b_3 hc, b_9 hc, b_12 hc, b_26 hc, b_40 hc, b_46 hc, b_47 hc, b_60 hc, b_62 hc, b_63 hc, b_76 hc, b_77 hc, b_90 hc, b_91 hc, b_104 hc, b_107 hc, b_114 hc, b_115 hc, b_122 hc, b_123 hc, b_131 hc, b_2 hc, r_2_0 hc, r_2_1 hc, r_2_2 hc, r_2_3 hc, r_2_4 hc, r_2_5 hc, x_61 hc, n_61 hc, r_2_6 hc, r_2_7 hc, r_2_8 hc, r_2_9 hc, b_46 hc, r_46_0 hc, r_46_1 hc, x_54 hc, r_46_2 hc, x_55 hc, r_46_3 hc, x_56 hc, r_46_4 hc, x_57 hc, r_46_5 hc, x_58 hc, r_46_6 hc, x_59 hc, b_40 hc, r_40_0 hc, x_41 hc, r_40_1 hc, x_42 hc, r_40_2 hc, x_43 hc, r_40_9 hc, r_40_10 hc, x_44 hc, r_40_11 hc, x_45 hc, b_9 hc, r_9_0 hc, x_10 hc, r_9_1 hc, x_11 hc, b_104 hc, r_104_0 hc, x_105 hc, r_104_1 hc, x_106 hc, r_104_6 hc, r_104_7 hc, r_104_8 hc, b_114 hc, r_114_0 hc, r_114_1 hc, r_114_2 hc, hd0, hd1, cIsTile _ h.1, cIsGust, cIsWay, q0, q1, q2]
        obtain ⟨N, rfl⟩ : ∃ N : Nat, t = (N : Int) := ⟨t.toNat, by omega⟩
        refine cRun (d := d - 1) (ρ := gR (sG σ)) h.1 h.2.2.1.1 (by omega) q1 q2 (Or.inr rfl) ?_
        intro μ1 hf hR
        have e := hR.2.2.2.1 N (by omega)
        have e2 := hR.2.2.2.2 rfl N (by omega)
        have hq := hyes ⟨q0, q1, q2⟩ (CL_fr hf (by decide)) (CS_fr h hf (by decide))
        rw [Int.toNat_natCast] at hq
        cases hr : rnO (sT σ) (gR (sG σ)) g w (gnO (sT σ) (gR (sG σ))) 36 N with
        | none =>
          rw [hr] at hq e
          have e' : μ1 42 N = -2 := e
          simp (disch := omega) only [x119_0, x119_1, x119_2, x119_5, x119_8, x119_9, x119_12, x119_15, x119_16, x119_19, x119_22, x119_23, x119_24, x119_25, x119_28, x119_29, x119_32, x119_35, x119_36, x119_37, x119_38, x119_41, x119_42, x119_45, x119_48, x119_49, x119_50, x119_52, x119_55, x119_57, x119_60, x119_61, x119_64, x119_67, x119_68, x119_69, ↓reduceIte, Bool.false_eq_true, Nat.reduceAdd, Nat.reduceLT, Nat.reduceLeDiff, Nat.reduceSub, Nat.reduceEqDiff, Int.reduceToNat, Int.reduceEq, Int.reduceLT, Int.reduceLE, Int.reduceAdd, Int.reduceSub, zg, zI, zJ, zR, zst, zkl, zn, zcat, zok, zraw, List.length_cons, List.length_nil, Option.toList, List.nil_append, List.cons_append, true_and, and_true, if_true, if_false, ne_eq, not_true, not_false_eq_true, and_self, true_or, or_true, false_or, or_false, false_and, and_false, b_2 hc, b_3 hc, b_9 hc, b_12 hc, b_26 hc, b_40 hc, b_46 hc, b_47 hc, b_60 hc, b_62 hc, b_63 hc, b_76 hc, b_77 hc, b_90 hc, b_91 hc, b_104 hc, b_107 hc, b_114 hc, b_115 hc, b_122 hc, b_123 hc, b_131 hc, b_2 hc, r_2_0 hc, r_2_1 hc, r_2_2 hc, r_2_3 hc, r_2_4 hc, r_2_5 hc, x_61 hc, n_61 hc, r_2_6 hc, r_2_7 hc, r_2_8 hc, r_2_9 hc, b_40 hc, r_40_0 hc, x_41 hc, r_40_1 hc, x_42 hc, r_40_2 hc, x_43 hc, r_40_9 hc, r_40_10 hc, x_44 hc, r_40_11 hc, x_45 hc, e', Int.toNat_natCast]
          exact hq
        | some p =>
          rw [hr] at hq e
          have e' : μ1 42 N = (p : Int) := e
          have hne : ¬ ((p : Int) = -2) := by omega
          have e3 := e2 p hr
          simp (disch := omega) only [x119_0, x119_1, x119_2, x119_5, x119_8, x119_9, x119_12, x119_15, x119_16, x119_19, x119_22, x119_23, x119_24, x119_25, x119_28, x119_29, x119_32, x119_35, x119_36, x119_37, x119_38, x119_41, x119_42, x119_45, x119_48, x119_49, x119_50, x119_52, x119_55, x119_57, x119_60, x119_61, x119_64, x119_67, x119_68, x119_69, ↓reduceIte, Bool.false_eq_true, Nat.reduceAdd, Nat.reduceLT, Nat.reduceLeDiff, Nat.reduceSub, Nat.reduceEqDiff, Int.reduceToNat, Int.reduceEq, Int.reduceLT, Int.reduceLE, Int.reduceAdd, Int.reduceSub, zg, zI, zJ, zR, zst, zkl, zn, zcat, zok, zraw, List.length_cons, List.length_nil, Option.toList, List.nil_append, List.cons_append, true_and, and_true, if_true, if_false, ne_eq, not_true, not_false_eq_true, and_self, true_or, or_true, false_or, or_false, false_and, and_false, b_2 hc, b_3 hc, b_9 hc, b_12 hc, b_26 hc, b_40 hc, b_46 hc, b_47 hc, b_60 hc, b_62 hc, b_63 hc, b_76 hc, b_77 hc, b_90 hc, b_91 hc, b_104 hc, b_107 hc, b_114 hc, b_115 hc, b_122 hc, b_123 hc, b_131 hc, b_2 hc, r_2_0 hc, r_2_1 hc, r_2_2 hc, r_2_3 hc, r_2_4 hc, r_2_5 hc, x_61 hc, n_61 hc, r_2_6 hc, r_2_7 hc, r_2_8 hc, r_2_9 hc, b_40 hc, r_40_0 hc, x_41 hc, r_40_1 hc, x_42 hc, r_40_2 hc, x_43 hc, r_40_9 hc, r_40_10 hc, x_44 hc, r_40_11 hc, x_45 hc, e', hne, e3, Int.toNat_natCast]
          exact hq
      · simp (disch := omega) only [x119_0, x119_1, x119_2, x119_5, x119_8, x119_9, x119_12, x119_15, x119_16, x119_19, x119_22, x119_23, x119_24, x119_25, x119_28, x119_29, x119_32, x119_35, x119_36, x119_37, x119_38, x119_41, x119_42, x119_45, x119_48, x119_49, x119_50, x119_52, x119_55, x119_57, x119_60, x119_61, x119_64, x119_67, x119_68, x119_69, ↓reduceIte, Bool.false_eq_true, Nat.reduceAdd, Nat.reduceLT, Nat.reduceLeDiff, Nat.reduceSub, Nat.reduceEqDiff, Int.reduceToNat, Int.reduceEq, Int.reduceLT, Int.reduceLE, Int.reduceAdd, Int.reduceSub, zg, zI, zJ, zR, zst, zkl, zn, zcat, zok, zraw, List.length_cons, List.length_nil, Option.toList, List.nil_append, List.cons_append, true_and, and_true, if_true, if_false, ne_eq, not_true, not_false_eq_true, and_self, true_or, or_true, false_or, or_false, false_and, and_false, b_2 hc, b_3 hc, b_9 hc, b_12 hc, b_26 hc, b_40 hc, b_46 hc, b_47 hc, b_60 hc, b_62 hc, b_63 hc, b_76 hc, b_77 hc, b_90 hc, b_91 hc, b_104 hc, b_107 hc, b_114 hc, b_115 hc, b_122 hc, b_123 hc, b_131 hc, b_2 hc, r_2_0 hc, r_2_1 hc, r_2_2 hc, r_2_3 hc, r_2_4 hc, r_2_5 hc, x_61 hc, n_61 hc, r_2_6 hc, r_2_7 hc, r_2_8 hc, r_2_9 hc, b_46 hc, r_46_0 hc, r_46_1 hc, x_54 hc, r_46_2 hc, x_55 hc, r_46_3 hc, x_56 hc, r_46_4 hc, x_57 hc, r_46_5 hc, x_58 hc, r_46_6 hc, x_59 hc, b_40 hc, r_40_0 hc, x_41 hc, r_40_1 hc, x_42 hc, r_40_2 hc, x_43 hc, r_40_9 hc, r_40_10 hc, x_44 hc, r_40_11 hc, x_45 hc, b_9 hc, r_9_0 hc, x_10 hc, r_9_1 hc, x_11 hc, b_104 hc, r_104_0 hc, x_105 hc, r_104_1 hc, x_106 hc, r_104_6 hc, r_104_7 hc, r_104_8 hc, b_114 hc, r_114_0 hc, r_114_1 hc, r_114_2 hc, hd0, hd1, cIsTile _ h.1, cIsGust, cIsWay, q0, q1, q2]
        exact hno (by omega)
    · simp (disch := omega) only [x119_0, x119_1, x119_2, x119_5, x119_8, x119_9, x119_12, x119_15, x119_16, x119_19, x119_22, x119_23, x119_24, x119_25, x119_28, x119_29, x119_32, x119_35, x119_36, x119_37, x119_38, x119_41, x119_42, x119_45, x119_48, x119_49, x119_50, x119_52, x119_55, x119_57, x119_60, x119_61, x119_64, x119_67, x119_68, x119_69, ↓reduceIte, Bool.false_eq_true, Nat.reduceAdd, Nat.reduceLT, Nat.reduceLeDiff, Nat.reduceSub, Nat.reduceEqDiff, Int.reduceToNat, Int.reduceEq, Int.reduceLT, Int.reduceLE, Int.reduceAdd, Int.reduceSub, zg, zI, zJ, zR, zst, zkl, zn, zcat, zok, zraw, List.length_cons, List.length_nil, Option.toList, List.nil_append, List.cons_append, true_and, and_true, if_true, if_false, ne_eq, not_true, not_false_eq_true, and_self, true_or, or_true, false_or, or_false, false_and, and_false, b_2 hc, b_3 hc, b_9 hc, b_12 hc, b_26 hc, b_40 hc, b_46 hc, b_47 hc, b_60 hc, b_62 hc, b_63 hc, b_76 hc, b_77 hc, b_90 hc, b_91 hc, b_104 hc, b_107 hc, b_114 hc, b_115 hc, b_122 hc, b_123 hc, b_131 hc, b_2 hc, r_2_0 hc, r_2_1 hc, r_2_2 hc, r_2_3 hc, r_2_4 hc, r_2_5 hc, x_61 hc, n_61 hc, r_2_6 hc, r_2_7 hc, r_2_8 hc, r_2_9 hc, b_46 hc, r_46_0 hc, r_46_1 hc, x_54 hc, r_46_2 hc, x_55 hc, r_46_3 hc, x_56 hc, r_46_4 hc, x_57 hc, r_46_5 hc, x_58 hc, r_46_6 hc, x_59 hc, b_40 hc, r_40_0 hc, x_41 hc, r_40_1 hc, x_42 hc, r_40_2 hc, x_43 hc, r_40_9 hc, r_40_10 hc, x_44 hc, r_40_11 hc, x_45 hc, b_9 hc, r_9_0 hc, x_10 hc, r_9_1 hc, x_11 hc, b_104 hc, r_104_0 hc, x_105 hc, r_104_1 hc, x_106 hc, r_104_6 hc, r_104_7 hc, r_104_8 hc, b_114 hc, r_114_0 hc, r_114_1 hc, r_114_2 hc, hd0, hd1, cIsTile _ h.1, cIsGust, cIsWay, q0, q1]
      exact hno (by omega)
  · simp (disch := omega) only [x119_0, x119_1, x119_2, x119_5, x119_8, x119_9, x119_12, x119_15, x119_16, x119_19, x119_22, x119_23, x119_24, x119_25, x119_28, x119_29, x119_32, x119_35, x119_36, x119_37, x119_38, x119_41, x119_42, x119_45, x119_48, x119_49, x119_50, x119_52, x119_55, x119_57, x119_60, x119_61, x119_64, x119_67, x119_68, x119_69, ↓reduceIte, Bool.false_eq_true, Nat.reduceAdd, Nat.reduceLT, Nat.reduceLeDiff, Nat.reduceSub, Nat.reduceEqDiff, Int.reduceToNat, Int.reduceEq, Int.reduceLT, Int.reduceLE, Int.reduceAdd, Int.reduceSub, zg, zI, zJ, zR, zst, zkl, zn, zcat, zok, zraw, List.length_cons, List.length_nil, Option.toList, List.nil_append, List.cons_append, true_and, and_true, if_true, if_false, ne_eq, not_true, not_false_eq_true, and_self, true_or, or_true, false_or, or_false, false_and, and_false, b_2 hc, b_3 hc, b_9 hc, b_12 hc, b_26 hc, b_40 hc, b_46 hc, b_47 hc, b_60 hc, b_62 hc, b_63 hc, b_76 hc, b_77 hc, b_90 hc, b_91 hc, b_104 hc, b_107 hc, b_114 hc, b_115 hc, b_122 hc, b_123 hc, b_131 hc, b_2 hc, r_2_0 hc, r_2_1 hc, r_2_2 hc, r_2_3 hc, r_2_4 hc, r_2_5 hc, x_61 hc, n_61 hc, r_2_6 hc, r_2_7 hc, r_2_8 hc, r_2_9 hc, b_46 hc, r_46_0 hc, r_46_1 hc, x_54 hc, r_46_2 hc, x_55 hc, r_46_3 hc, x_56 hc, r_46_4 hc, x_57 hc, r_46_5 hc, x_58 hc, r_46_6 hc, x_59 hc, b_40 hc, r_40_0 hc, x_41 hc, r_40_1 hc, x_42 hc, r_40_2 hc, x_43 hc, r_40_9 hc, r_40_10 hc, x_44 hc, r_40_11 hc, x_45 hc, b_9 hc, r_9_0 hc, x_10 hc, r_9_1 hc, x_11 hc, b_104 hc, r_104_0 hc, x_105 hc, r_104_1 hc, x_106 hc, r_104_6 hc, r_104_7 hc, r_104_8 hc, b_114 hc, r_114_0 hc, r_114_1 hc, r_114_2 hc, hd0, hd1, cIsTile _ h.1, cIsGust, cIsWay, q0]
    exact hno (by omega)
theorem rLands {d : Nat} {t g w : Int} {x90 : zV} (h : MS θ σ s μ) (hd : 11 ≤ d) (hQ : ∀ μ', ML2 μ μ' → MS θ σ s μ' → Q (some (vi (vLands σ t g w))) θ μ') : Ex d 235 0 [vr 138, vi t, vi g, vi w, x90] [] θ μ Q := by
  have hm := h.1.1
  have hd0 : 0 < d := by omega
  have hd1 : 0 < d - 1 := by omega
  have hn := tn_b h.1.2.1
  have hno : ¬ ((0 ≤ t ∧ t < (tn (sT σ) : Int)) ∧ (0 ≤ g ∧ g ≤ 99) ∧ (0 ≤ w ∧ w ≤ 3)) → Q (some (vi (-1))) θ μ := fun hn => by
    have := hQ μ (fun _ _ => rfl) h
    unfold vLands at this
    rwa [if_neg hn] at this
  have hyes : ((0 ≤ t ∧ t < (tn (sT σ) : Int)) ∧ (0 ≤ g ∧ g ≤ 99) ∧ (0 ≤ w ∧ w ≤ 3)) → ∀ {μ'}, ML2 μ μ' → MS θ σ s μ' → Q (some (vi ((match rnO (sT σ) (gR (sG σ)) g w (gnO (sT σ) (gR (sG σ))) 36 t.toNat with | some q => ceO (sT σ) (gR (sG σ)) (loO (sT σ) (gR (sG σ)) g w (gnO (sT σ) (gR (sG σ))) q) t.toNat g w | none => -2)))) θ μ' := fun hp μ' a b => by
    have := hQ μ' a b
    unfold vLands at this
    rwa [if_pos hp] at this
  by_cases q0 : 0 ≤ t ∧ t < (tn (sT σ) : Int)
  · by_cases q1 : (0 ≤ g ∧ g ≤ 99) ∧ (0 ≤ w ∧ w ≤ 3)
    · simp (disch := omega) only [x235_0, x235_1, x235_2, x235_5, x235_8, x235_9, x235_10, x235_13, x235_16, x235_17, x235_18, x235_19, x235_20, x235_21, x235_24, x235_26, x235_28, x235_31, x235_32, x235_35, x235_36, x235_37, x235_38, x235_41, x235_43, x235_46, x235_47, x235_50, x235_51, x235_52, ↓reduceIte, Bool.false_eq_true, Nat.reduceAdd, Nat.reduceLT, Nat.reduceLeDiff, Nat.reduceSub, Nat.reduceEqDiff, Int.reduceToNat, Int.reduceEq, Int.reduceLT, Int.reduceLE, Int.reduceAdd, Int.reduceSub, zg, zI, zJ, zR, zst, zkl, zn, zcat, zok, zraw, List.length_cons, List.length_nil, Option.toList, List.nil_append, List.cons_append, true_and, and_true, if_true, if_false, ne_eq, not_true, not_false_eq_true, and_self, true_or, or_true, false_or, or_false, false_and, and_false, b_138 hm, hd0, hd1, mIsTile (d := d - 1) h.1 (by omega), mIsGust, q0, q1]
      obtain ⟨N, rfl⟩ : ∃ N : Nat, t = (N : Int) := ⟨t.toNat, by omega⟩
      refine mFall (d := d - 1) (by omega) h.1 h.2.2.1.1 q1.1 q1.2 rfl rfl ?_
      intro μ1 hf hj hF
      have hq := hyes ⟨q0, q1.1, q1.2⟩ (MLe_fr hf (by decide)) (MS_fr h hf (by decide) hj.nine)
      rw [Int.toNat_natCast] at hq
      have e := hF.2.1 N (by omega)
      have e2 := hF.2.2.1 N (by omega)
      by_cases h0 : faO (sT σ) (gR (sG σ)) g w = 0
      · rw [rn_fo0 h0] at hq
        simp (disch := omega) only [x235_0, x235_1, x235_2, x235_5, x235_8, x235_9, x235_10, x235_13, x235_16, x235_17, x235_18, x235_19, x235_20, x235_21, x235_24, x235_26, x235_28, x235_31, x235_32, x235_35, x235_36, x235_37, x235_38, x235_41, x235_43, x235_46, x235_47, x235_50, x235_51, x235_52, ↓reduceIte, Bool.false_eq_true, Nat.reduceAdd, Nat.reduceLT, Nat.reduceLeDiff, Nat.reduceSub, Nat.reduceEqDiff, Int.reduceToNat, Int.reduceEq, Int.reduceLT, Int.reduceLE, Int.reduceAdd, Int.reduceSub, zg, zI, zJ, zR, zst, zkl, zn, zcat, zok, zraw, List.length_cons, List.length_nil, Option.toList, List.nil_append, List.cons_append, true_and, and_true, if_true, if_false, ne_eq, not_true, not_false_eq_true, and_self, true_or, or_true, false_or, or_false, false_and, and_false, b_138 hm, h0]
        exact hq
      · cases hr : rnO (sT σ) (gR (sG σ)) g w (gnO (sT σ) (gR (sG σ))) 36 N with
        | none =>
          rw [hr] at hq e
          have e' : μ1 185 N = -1 := e
          simp (disch := omega) only [x235_0, x235_1, x235_2, x235_5, x235_8, x235_9, x235_10, x235_13, x235_16, x235_17, x235_18, x235_19, x235_20, x235_21, x235_24, x235_26, x235_28, x235_31, x235_32, x235_35, x235_36, x235_37, x235_38, x235_41, x235_43, x235_46, x235_47, x235_50, x235_51, x235_52, ↓reduceIte, Bool.false_eq_true, Nat.reduceAdd, Nat.reduceLT, Nat.reduceLeDiff, Nat.reduceSub, Nat.reduceEqDiff, Int.reduceToNat, Int.reduceEq, Int.reduceLT, Int.reduceLE, Int.reduceAdd, Int.reduceSub, zg, zI, zJ, zR, zst, zkl, zn, zcat, zok, zraw, List.length_cons, List.length_nil, Option.toList, List.nil_append, List.cons_append, true_and, and_true, if_true, if_false, ne_eq, not_true, not_false_eq_true, and_self, true_or, or_true, false_or, or_false, false_and, and_false, b_138 hm, r_138_67 hm, x_185 hm, h0, e', Int.toNat_natCast]
          exact hq
        | some p =>
          rw [hr] at hq e
          have e' : μ1 185 N = (p : Int) := e
          have hne : ¬ ((p : Int) = -1) := by omega
          have e3 := e2 p hr
          simp (disch := omega) only [x235_0, x235_1, x235_2, x235_5, x235_8, x235_9, x235_10, x235_13, x235_16, x235_17, x235_18, x235_19, x235_20, x235_21, x235_24, x235_26, x235_28, x235_31, x235_32, x235_35, x235_36, x235_37, x235_38, x235_41, x235_43, x235_46, x235_47, x235_50, x235_51, x235_52, ↓reduceIte, Bool.false_eq_true, Nat.reduceAdd, Nat.reduceLT, Nat.reduceLeDiff, Nat.reduceSub, Nat.reduceEqDiff, Int.reduceToNat, Int.reduceEq, Int.reduceLT, Int.reduceLE, Int.reduceAdd, Int.reduceSub, zg, zI, zJ, zR, zst, zkl, zn, zcat, zok, zraw, List.length_cons, List.length_nil, Option.toList, List.nil_append, List.cons_append, true_and, and_true, if_true, if_false, ne_eq, not_true, not_false_eq_true, and_self, true_or, or_true, false_or, or_false, false_and, and_false, b_138 hm, r_138_67 hm, x_185 hm, r_138_68 hm, x_186 hm, h0, e', hne, e3, Int.toNat_natCast]
          exact hq
    · simp (disch := omega) only [x235_0, x235_1, x235_2, x235_5, x235_8, x235_9, x235_10, x235_13, x235_16, x235_17, x235_18, x235_19, x235_20, x235_21, x235_24, x235_26, x235_28, x235_31, x235_32, x235_35, x235_36, x235_37, x235_38, x235_41, x235_43, x235_46, x235_47, x235_50, x235_51, x235_52, ↓reduceIte, Bool.false_eq_true, Nat.reduceAdd, Nat.reduceLT, Nat.reduceLeDiff, Nat.reduceSub, Nat.reduceEqDiff, Int.reduceToNat, Int.reduceEq, Int.reduceLT, Int.reduceLE, Int.reduceAdd, Int.reduceSub, zg, zI, zJ, zR, zst, zkl, zn, zcat, zok, zraw, List.length_cons, List.length_nil, Option.toList, List.nil_append, List.cons_append, true_and, and_true, if_true, if_false, ne_eq, not_true, not_false_eq_true, and_self, true_or, or_true, false_or, or_false, false_and, and_false, b_138 hm, hd0, hd1, mIsTile (d := d - 1) h.1 (by omega), mIsGust, q0, q1]
      exact hno (by omega)
  · simp (disch := omega) only [x235_0, x235_1, x235_2, x235_5, x235_8, x235_9, x235_10, x235_13, x235_16, x235_17, x235_18, x235_19, x235_20, x235_21, x235_24, x235_26, x235_28, x235_31, x235_32, x235_35, x235_36, x235_37, x235_38, x235_41, x235_43, x235_46, x235_47, x235_50, x235_51, x235_52, ↓reduceIte, Bool.false_eq_true, Nat.reduceAdd, Nat.reduceLT, Nat.reduceLeDiff, Nat.reduceSub, Nat.reduceEqDiff, Int.reduceToNat, Int.reduceEq, Int.reduceLT, Int.reduceLE, Int.reduceAdd, Int.reduceSub, zg, zI, zJ, zR, zst, zkl, zn, zcat, zok, zraw, List.length_cons, List.length_nil, Option.toList, List.nil_append, List.cons_append, true_and, and_true, if_true, if_false, ne_eq, not_true, not_false_eq_true, and_self, true_or, or_true, false_or, or_false, false_and, and_false, b_138 hm, hd0, hd1, mIsTile (d := d - 1) h.1 (by omega), mIsGust, q0]
    exact hno (by omega)
def vDoors (σ : zSt) (g w : Int) : Int := if (0 ≤ g ∧ g ≤ 99) ∧ (0 ≤ w ∧ w ≤ 3) then (((bdO (sT σ) (gR (sG σ)) g w (2 ^ tD (sT σ))).1 : Nat)) else -1
theorem kDoors {d : Nat} {g w : Int} (h : CS θ T U σ μ) (hd : 7 ≤ d) (hQ : ∀ μ', CL μ μ' → CS θ T U σ μ' → Q (some (vi (vDoors σ g w))) θ μ') : Ex d 129 0 [vr 2, vi g, vi w] [] θ μ Q := by
  have hc := h.1.1.1
  have hT := h.1.1.2.1
  have hd0 : 0 < d := by omega
  have hd1 : 0 < d - 1 := by omega
  have hn := tn_b h.1.2.1
  have hno : ¬ ((0 ≤ g ∧ g ≤ 99) ∧ (0 ≤ w ∧ w ≤ 3)) → Q (some (vi (-1))) θ μ := fun hn => by
    have := hQ μ (fun _ _ => rfl) h
    unfold vDoors at this
    rwa [if_neg hn] at this
  have hyes : ((0 ≤ g ∧ g ≤ 99) ∧ (0 ≤ w ∧ w ≤ 3)) → ∀ {μ'}, CL μ μ' → CS θ T U σ μ' → Q (some (vi (((bdO (sT σ) (gR (sG σ)) g w (2 ^ tD (sT σ))).1 : Nat)))) θ μ' := fun hp μ' a b => by
    have := hQ μ' a b
    unfold vDoors at this
    rwa [if_pos hp] at this
  by_cases q0 : 0 ≤ g ∧ g ≤ 99
  · by_cases q1 : 0 ≤ w ∧ w ≤ 3
    · simp (disch := omega) only [x129_0, x129_1, x129_4, x129_7, x129_8, x129_11, x129_14, x129_15, x129_18, x129_19, x129_20, x129_21, x129_24, x129_27, x129_30, x129_33, x129_34, ↓reduceIte, Bool.false_eq_true, Nat.reduceAdd, Nat.reduceLT, Nat.reduceLeDiff, Nat.reduceSub, Nat.reduceEqDiff, Int.reduceToNat, Int.reduceEq, Int.reduceLT, Int.reduceLE, Int.reduceAdd, Int.reduceSub, zg, zI, zJ, zR, zst, zkl, zn, zcat, zok, zraw, List.length_cons, List.length_nil, Option.toList, List.nil_append, List.cons_append, true_and, and_true, if_true, if_false, ne_eq, not_true, not_false_eq_true, and_self, true_or, or_true, false_or, or_false, false_and, and_false, b_2 hc, b_3 hc, b_9 hc, b_12 hc, b_26 hc, b_40 hc, b_46 hc, b_47 hc, b_60 hc, b_62 hc, b_63 hc, b_76 hc, b_77 hc, b_90 hc, b_91 hc, b_104 hc, b_107 hc, b_114 hc, b_115 hc, b_122 hc, b_123 hc, b_131 hc, b_2 hc, r_2_0 hc, r_2_1 hc, r_2_2 hc, r_2_3 hc, r_2_4 hc, r_2_5 hc, x_61 hc, n_61 hc, r_2_6 hc, r_2_7 hc, r_2_8 hc, r_2_9 hc, b_46 hc, r_46_0 hc, r_46_1 hc, x_54 hc, r_46_2 hc, x_55 hc, r_46_3 hc, x_56 hc, r_46_4 hc, x_57 hc, r_46_5 hc, x_58 hc, r_46_6 hc, x_59 hc, b_40 hc, r_40_0 hc, x_41 hc, r_40_1 hc, x_42 hc, r_40_2 hc, x_43 hc, r_40_9 hc, r_40_10 hc, x_44 hc, r_40_11 hc, x_45 hc, b_9 hc, r_9_0 hc, x_10 hc, r_9_1 hc, x_11 hc, b_104 hc, r_104_0 hc, x_105 hc, r_104_1 hc, x_106 hc, r_104_6 hc, r_104_7 hc, r_104_8 hc, b_114 hc, r_114_0 hc, r_114_1 hc, r_114_2 hc, hd0, hd1, cIsGust, cIsWay, h.1.1.2.2.2.2.1, tb hT, Tq1 hT, Tq2 hT, tr_0 hT, tr_1 hT, tr_2 hT, tr_3 hT, tr_4 hT, tr_5 hT, tr_6 hT, tr_7 hT, tr_8 hT, tr_9 hT, tr_10 hT, tr_11 hT, tr_12 hT, tx_1 hT, tx_2 hT, tx_3 hT, tx_4 hT, tx_5 hT, tx_6 hT, tx_7 hT, tx_8 hT, tx_9 hT, tx_10 hT, tx_11 hT, tx_12 hT, tx_13 hT, q0, q1]
      refine cBest (d := d - 1) (ρ := gR (sG σ)) h.1 h.2.2.1.1 (by omega) q0 q1 h.1.2.2.1.2.2.1 ?_
      intro μ1 hf
      simp (disch := omega) only [x129_0, x129_1, x129_4, x129_7, x129_8, x129_11, x129_14, x129_15, x129_18, x129_19, x129_20, x129_21, x129_24, x129_27, x129_30, x129_33, x129_34, ↓reduceIte, Bool.false_eq_true, Nat.reduceAdd, Nat.reduceLT, Nat.reduceLeDiff, Nat.reduceSub, Nat.reduceEqDiff, Int.reduceToNat, Int.reduceEq, Int.reduceLT, Int.reduceLE, Int.reduceAdd, Int.reduceSub, zg, zI, zJ, zR, zst, zkl, zn, zcat, zok, zraw, List.length_cons, List.length_nil, Option.toList, List.nil_append, List.cons_append, true_and, and_true, if_true, if_false, ne_eq, not_true, not_false_eq_true, and_self, true_or, or_true, false_or, or_false, false_and, and_false, b_2 hc, b_3 hc, b_9 hc, b_12 hc, b_26 hc, b_40 hc, b_46 hc, b_47 hc, b_60 hc, b_62 hc, b_63 hc, b_76 hc, b_77 hc, b_90 hc, b_91 hc, b_104 hc, b_107 hc, b_114 hc, b_115 hc, b_122 hc, b_123 hc, b_131 hc]
      exact hyes ⟨q0, q1⟩ (CL_fr hf (by decide)) (CS_fr h hf (by decide))
    · simp (disch := omega) only [x129_0, x129_1, x129_4, x129_7, x129_8, x129_11, x129_14, x129_15, x129_18, x129_19, x129_20, x129_21, x129_24, x129_27, x129_30, x129_33, x129_34, ↓reduceIte, Bool.false_eq_true, Nat.reduceAdd, Nat.reduceLT, Nat.reduceLeDiff, Nat.reduceSub, Nat.reduceEqDiff, Int.reduceToNat, Int.reduceEq, Int.reduceLT, Int.reduceLE, Int.reduceAdd, Int.reduceSub, zg, zI, zJ, zR, zst, zkl, zn, zcat, zok, zraw, List.length_cons, List.length_nil, Option.toList, List.nil_append, List.cons_append, true_and, and_true, if_true, if_false, ne_eq, not_true, not_false_eq_true, and_self, true_or, or_true, false_or, or_false, false_and, and_false, b_2 hc, b_3 hc, b_9 hc, b_12 hc, b_26 hc, b_40 hc, b_46 hc, b_47 hc, b_60 hc, b_62 hc, b_63 hc, b_76 hc, b_77 hc, b_90 hc, b_91 hc, b_104 hc, b_107 hc, b_114 hc, b_115 hc, b_122 hc, b_123 hc, b_131 hc, b_2 hc, r_2_0 hc, r_2_1 hc, r_2_2 hc, r_2_3 hc, r_2_4 hc, r_2_5 hc, x_61 hc, n_61 hc, r_2_6 hc, r_2_7 hc, r_2_8 hc, r_2_9 hc, b_46 hc, r_46_0 hc, r_46_1 hc, x_54 hc, r_46_2 hc, x_55 hc, r_46_3 hc, x_56 hc, r_46_4 hc, x_57 hc, r_46_5 hc, x_58 hc, r_46_6 hc, x_59 hc, b_40 hc, r_40_0 hc, x_41 hc, r_40_1 hc, x_42 hc, r_40_2 hc, x_43 hc, r_40_9 hc, r_40_10 hc, x_44 hc, r_40_11 hc, x_45 hc, b_9 hc, r_9_0 hc, x_10 hc, r_9_1 hc, x_11 hc, b_104 hc, r_104_0 hc, x_105 hc, r_104_1 hc, x_106 hc, r_104_6 hc, r_104_7 hc, r_104_8 hc, b_114 hc, r_114_0 hc, r_114_1 hc, r_114_2 hc, hd0, hd1, cIsGust, cIsWay, h.1.1.2.2.2.2.1, tb hT, Tq1 hT, Tq2 hT, tr_0 hT, tr_1 hT, tr_2 hT, tr_3 hT, tr_4 hT, tr_5 hT, tr_6 hT, tr_7 hT, tr_8 hT, tr_9 hT, tr_10 hT, tr_11 hT, tr_12 hT, tx_1 hT, tx_2 hT, tx_3 hT, tx_4 hT, tx_5 hT, tx_6 hT, tx_7 hT, tx_8 hT, tx_9 hT, tx_10 hT, tx_11 hT, tx_12 hT, tx_13 hT, q0, q1]
      exact hno (by omega)
  · simp (disch := omega) only [x129_0, x129_1, x129_4, x129_7, x129_8, x129_11, x129_14, x129_15, x129_18, x129_19, x129_20, x129_21, x129_24, x129_27, x129_30, x129_33, x129_34, ↓reduceIte, Bool.false_eq_true, Nat.reduceAdd, Nat.reduceLT, Nat.reduceLeDiff, Nat.reduceSub, Nat.reduceEqDiff, Int.reduceToNat, Int.reduceEq, Int.reduceLT, Int.reduceLE, Int.reduceAdd, Int.reduceSub, zg, zI, zJ, zR, zst, zkl, zn, zcat, zok, zraw, List.length_cons, List.length_nil, Option.toList, List.nil_append, List.cons_append, true_and, and_true, if_true, if_false, ne_eq, not_true, not_false_eq_true, and_self, true_or, or_true, false_or, or_false, false_and, and_false, b_2 hc, b_3 hc, b_9 hc, b_12 hc, b_26 hc, b_40 hc, b_46 hc, b_47 hc, b_60 hc, b_62 hc, b_63 hc, b_76 hc, b_77 hc, b_90 hc, b_91 hc, b_104 hc, b_107 hc, b_114 hc, b_115 hc, b_122 hc, b_123 hc, b_131 hc, b_2 hc, r_2_0 hc, r_2_1 hc, r_2_2 hc, r_2_3 hc, r_2_4 hc, r_2_5 hc, x_61 hc, n_61 hc, r_2_6 hc, r_2_7 hc, r_2_8 hc, r_2_9 hc, b_46 hc, r_46_0 hc, r_46_1 hc, x_54 hc, r_46_2 hc, x_55 hc, r_46_3 hc, x_56 hc, r_46_4 hc, x_57 hc, r_46_5 hc, x_58 hc, r_46_6 hc, x_59 hc, b_40 hc, r_40_0 hc, x_41 hc, r_40_1 hc, x_42 hc, r_40_2 hc, x_43 hc, r_40_9 hc, r_40_10 hc, x_44 hc, r_40_11 hc, x_45 hc, b_9 hc, r_9_0 hc, x_10 hc, r_9_1 hc, x_11 hc, b_104 hc, r_104_0 hc, x_105 hc, r_104_1 hc, x_106 hc, r_104_6 hc, r_104_7 hc, r_104_8 hc, b_114 hc, r_114_0 hc, r_114_1 hc, r_114_2 hc, hd0, hd1, cIsGust, cIsWay, h.1.1.2.2.2.2.1, tb hT, Tq1 hT, Tq2 hT, tr_0 hT, tr_1 hT, tr_2 hT, tr_3 hT, tr_4 hT, tr_5 hT, tr_6 hT, tr_7 hT, tr_8 hT, tr_9 hT, tr_10 hT, tr_11 hT, tr_12 hT, tx_1 hT, tx_2 hT, tx_3 hT, tx_4 hT, tx_5 hT, tx_6 hT, tx_7 hT, tx_8 hT, tx_9 hT, tx_10 hT, tx_11 hT, tx_12 hT, tx_13 hT, q0]
    exact hno (by omega)
theorem rDoors {d : Nat} {g w : Int} {x3 x4 x5 x6 x7 : zV} (h : MS θ σ s μ) (hd : 11 ≤ d) (hQ : ∀ μ', ML2 μ μ' → MS θ σ s μ' → Q (some (vi (vDoors σ g w))) θ μ') : Ex d 252 0 [vr 138, vi g, vi w, x3, x4, x5, x6, x7] [] θ μ Q := by
  have hm := h.1.1
  have hd0 : 0 < d := by omega
  by_cases q : (0 ≤ g ∧ g ≤ 99) ∧ (0 ≤ w ∧ w ≤ 3)
  · refine mDoors (by omega) h.1 h.2.2.1.1 q.1 q.2 ?_
    intro μ1 hf hj hR _
    have := hQ μ1 (MLe_fr hf (by decide)) (MS_fr2 h hf (by decide) hj.nine hR)
    unfold vDoors at this
    rwa [if_pos q] at this
  · have := hQ μ (fun _ _ => rfl) h
    unfold vDoors at this
    rw [if_neg q] at this
    simp (disch := omega) only [x252_0, x252_1, x252_2, x252_5, x252_8, x252_9, x252_10, x252_11, x252_14, x252_15, x252_16, x252_18, x252_20, x252_22, x252_23, x252_27, x252_28, x252_29, x252_32, x252_33, x252_36, x252_37, x252_38, x252_41, x252_42, x252_44, x252_47, x252_48, x252_49, x252_50, x252_53, x252_55, x252_57, x252_59, x252_62, x252_64, x252_66, x252_69, x252_71, x252_74, x252_76, x252_79, x252_82, x252_85, x252_87, x252_89, x252_91, x252_93, x252_96, x252_99, x252_100, x252_101, x252_104, x252_106, ↓reduceIte, Bool.false_eq_true, Nat.reduceAdd, Nat.reduceLT, Nat.reduceLeDiff, Nat.reduceSub, Nat.reduceEqDiff, Int.reduceToNat, Int.reduceEq, Int.reduceLT, Int.reduceLE, Int.reduceAdd, Int.reduceSub, zg, zI, zJ, zR, zst, zkl, zn, zcat, zok, zraw, List.length_cons, List.length_nil, Option.toList, List.nil_append, List.cons_append, true_and, and_true, if_true, if_false, ne_eq, not_true, not_false_eq_true, and_self, true_or, or_true, false_or, or_false, false_and, and_false, b_138 hm, hd0, mIsGust, q]
    exact this
def vHelps (σ : zSt) (k g w : Int) : Int := if (0 ≤ k ∧ k < (tD (sT σ) : Int)) ∧ (0 ≤ g ∧ g ≤ 99) ∧ (0 ≤ w ∧ w ≤ 3) then (faO (sT σ) (gR (sG σ)) g w - faO (sT σ) (heF (gR (sG σ)) k.toNat) g w) else -100
theorem kHelps {d : Nat} {k g w : Int} (h : CS θ T U σ μ) (hd : 7 ≤ d) (hQ : ∀ μ', CL μ μ' → CS θ T U σ μ' → Q (some (vi (vHelps σ k g w))) θ μ') : Ex d 130 0 [vr 2, vi k, vi g, vi w] [] θ μ Q := by
  have hc := h.1.1.1
  have hT := h.1.1.2.1
  have hd0 : 0 < d := by omega
  have hd1 : 0 < d - 1 := by omega
  have hn := tn_b h.1.2.1
  have hno : ¬ ((0 ≤ k ∧ k < (tD (sT σ) : Int)) ∧ (0 ≤ g ∧ g ≤ 99) ∧ (0 ≤ w ∧ w ≤ 3)) → Q (some (vi (-100))) θ μ := fun hn => by
    have := hQ μ (fun _ _ => rfl) h
    unfold vHelps at this
    rwa [if_neg hn] at this
  have hyes : ((0 ≤ k ∧ k < (tD (sT σ) : Int)) ∧ (0 ≤ g ∧ g ≤ 99) ∧ (0 ≤ w ∧ w ≤ 3)) → ∀ {μ'}, CL μ μ' → CS θ T U σ μ' → Q (some (vi (faO (sT σ) (gR (sG σ)) g w - faO (sT σ) (heF (gR (sG σ)) k.toNat) g w))) θ μ' := fun hp μ' a b => by
    have := hQ μ' a b
    unfold vHelps at this
    rwa [if_pos hp] at this
  by_cases q0 : 0 ≤ k ∧ k < (tD (sT σ) : Int)
  · by_cases q1 : 0 ≤ g ∧ g ≤ 99
    · by_cases q2 : 0 ≤ w ∧ w ≤ 3
      · simp (disch := omega) only [x130_0, x130_1, x130_2, x130_5, x130_8, x130_9, x130_12, x130_15, x130_16, x130_19, x130_22, x130_24, x130_25, x130_26, x130_29, x130_30, x130_31, x130_32, x130_35, ↓reduceIte, Bool.false_eq_true, Nat.reduceAdd, Nat.reduceLT, Nat.reduceLeDiff, Nat.reduceSub, Nat.reduceEqDiff, Int.reduceToNat, Int.reduceEq, Int.reduceLT, Int.reduceLE, Int.reduceAdd, Int.reduceSub, zg, zI, zJ, zR, zst, zkl, zn, zcat, zok, zraw, List.length_cons, List.length_nil, Option.toList, List.nil_append, List.cons_append, true_and, and_true, if_true, if_false, ne_eq, not_true, not_false_eq_true, and_self, true_or, or_true, false_or, or_false, false_and, and_false, b_2 hc, b_3 hc, b_9 hc, b_12 hc, b_26 hc, b_40 hc, b_46 hc, b_47 hc, b_60 hc, b_62 hc, b_63 hc, b_76 hc, b_77 hc, b_90 hc, b_91 hc, b_104 hc, b_107 hc, b_114 hc, b_115 hc, b_122 hc, b_123 hc, b_131 hc, b_2 hc, r_2_0 hc, r_2_1 hc, r_2_2 hc, r_2_3 hc, r_2_4 hc, r_2_5 hc, x_61 hc, n_61 hc, r_2_6 hc, r_2_7 hc, r_2_8 hc, r_2_9 hc, b_46 hc, r_46_0 hc, r_46_1 hc, x_54 hc, r_46_2 hc, x_55 hc, r_46_3 hc, x_56 hc, r_46_4 hc, x_57 hc, r_46_5 hc, x_58 hc, r_46_6 hc, x_59 hc, b_40 hc, r_40_0 hc, x_41 hc, r_40_1 hc, x_42 hc, r_40_2 hc, x_43 hc, r_40_9 hc, r_40_10 hc, x_44 hc, r_40_11 hc, x_45 hc, b_9 hc, r_9_0 hc, x_10 hc, r_9_1 hc, x_11 hc, b_104 hc, r_104_0 hc, x_105 hc, r_104_1 hc, x_106 hc, r_104_6 hc, r_104_7 hc, r_104_8 hc, b_114 hc, r_114_0 hc, r_114_1 hc, r_114_2 hc, hd0, hd1, cIsDoor _ h.1, cIsGust, cIsWay, q0, q1, q2]
        obtain ⟨N, rfl⟩ : ∃ N : Nat, k = (N : Int) := ⟨k.toNat, by omega⟩
        refine cHelp (d := d - 1) (ρ := gR (sG σ)) h.1 h.2.2.1.1 h.2.2.1.2.1 (by omega) rfl (by omega) q1 q2 ?_
        intro μ1 hf
        simp (disch := omega) only [x130_0, x130_1, x130_2, x130_5, x130_8, x130_9, x130_12, x130_15, x130_16, x130_19, x130_22, x130_24, x130_25, x130_26, x130_29, x130_30, x130_31, x130_32, x130_35, ↓reduceIte, Bool.false_eq_true, Nat.reduceAdd, Nat.reduceLT, Nat.reduceLeDiff, Nat.reduceSub, Nat.reduceEqDiff, Int.reduceToNat, Int.reduceEq, Int.reduceLT, Int.reduceLE, Int.reduceAdd, Int.reduceSub, zg, zI, zJ, zR, zst, zkl, zn, zcat, zok, zraw, List.length_cons, List.length_nil, Option.toList, List.nil_append, List.cons_append, true_and, and_true, if_true, if_false, ne_eq, not_true, not_false_eq_true, and_self, true_or, or_true, false_or, or_false, false_and, and_false, b_2 hc, b_3 hc, b_9 hc, b_12 hc, b_26 hc, b_40 hc, b_46 hc, b_47 hc, b_60 hc, b_62 hc, b_63 hc, b_76 hc, b_77 hc, b_90 hc, b_91 hc, b_104 hc, b_107 hc, b_114 hc, b_115 hc, b_122 hc, b_123 hc, b_131 hc]
        have := hyes ⟨q0, q1, q2⟩ (CL_fr hf (by decide)) (CS_fr h hf (by decide))
        rwa [Int.toNat_natCast] at this
      · simp (disch := omega) only [x130_0, x130_1, x130_2, x130_5, x130_8, x130_9, x130_12, x130_15, x130_16, x130_19, x130_22, x130_24, x130_25, x130_26, x130_29, x130_30, x130_31, x130_32, x130_35, ↓reduceIte, Bool.false_eq_true, Nat.reduceAdd, Nat.reduceLT, Nat.reduceLeDiff, Nat.reduceSub, Nat.reduceEqDiff, Int.reduceToNat, Int.reduceEq, Int.reduceLT, Int.reduceLE, Int.reduceAdd, Int.reduceSub, zg, zI, zJ, zR, zst, zkl, zn, zcat, zok, zraw, List.length_cons, List.length_nil, Option.toList, List.nil_append, List.cons_append, true_and, and_true, if_true, if_false, ne_eq, not_true, not_false_eq_true, and_self, true_or, or_true, false_or, or_false, false_and, and_false, b_2 hc, b_3 hc, b_9 hc, b_12 hc, b_26 hc, b_40 hc, b_46 hc, b_47 hc, b_60 hc, b_62 hc, b_63 hc, b_76 hc, b_77 hc, b_90 hc, b_91 hc, b_104 hc, b_107 hc, b_114 hc, b_115 hc, b_122 hc, b_123 hc, b_131 hc, b_2 hc, r_2_0 hc, r_2_1 hc, r_2_2 hc, r_2_3 hc, r_2_4 hc, r_2_5 hc, x_61 hc, n_61 hc, r_2_6 hc, r_2_7 hc, r_2_8 hc, r_2_9 hc, b_46 hc, r_46_0 hc, r_46_1 hc, x_54 hc, r_46_2 hc, x_55 hc, r_46_3 hc, x_56 hc, r_46_4 hc, x_57 hc, r_46_5 hc, x_58 hc, r_46_6 hc, x_59 hc, b_40 hc, r_40_0 hc, x_41 hc, r_40_1 hc, x_42 hc, r_40_2 hc, x_43 hc, r_40_9 hc, r_40_10 hc, x_44 hc, r_40_11 hc, x_45 hc, b_9 hc, r_9_0 hc, x_10 hc, r_9_1 hc, x_11 hc, b_104 hc, r_104_0 hc, x_105 hc, r_104_1 hc, x_106 hc, r_104_6 hc, r_104_7 hc, r_104_8 hc, b_114 hc, r_114_0 hc, r_114_1 hc, r_114_2 hc, hd0, hd1, cIsDoor _ h.1, cIsGust, cIsWay, q0, q1, q2]
        exact hno (by omega)
    · simp (disch := omega) only [x130_0, x130_1, x130_2, x130_5, x130_8, x130_9, x130_12, x130_15, x130_16, x130_19, x130_22, x130_24, x130_25, x130_26, x130_29, x130_30, x130_31, x130_32, x130_35, ↓reduceIte, Bool.false_eq_true, Nat.reduceAdd, Nat.reduceLT, Nat.reduceLeDiff, Nat.reduceSub, Nat.reduceEqDiff, Int.reduceToNat, Int.reduceEq, Int.reduceLT, Int.reduceLE, Int.reduceAdd, Int.reduceSub, zg, zI, zJ, zR, zst, zkl, zn, zcat, zok, zraw, List.length_cons, List.length_nil, Option.toList, List.nil_append, List.cons_append, true_and, and_true, if_true, if_false, ne_eq, not_true, not_false_eq_true, and_self, true_or, or_true, false_or, or_false, false_and, and_false, b_2 hc, b_3 hc, b_9 hc, b_12 hc, b_26 hc, b_40 hc, b_46 hc, b_47 hc, b_60 hc, b_62 hc, b_63 hc, b_76 hc, b_77 hc, b_90 hc, b_91 hc, b_104 hc, b_107 hc, b_114 hc, b_115 hc, b_122 hc, b_123 hc, b_131 hc, b_2 hc, r_2_0 hc, r_2_1 hc, r_2_2 hc, r_2_3 hc, r_2_4 hc, r_2_5 hc, x_61 hc, n_61 hc, r_2_6 hc, r_2_7 hc, r_2_8 hc, r_2_9 hc, b_46 hc, r_46_0 hc, r_46_1 hc, x_54 hc, r_46_2 hc, x_55 hc, r_46_3 hc, x_56 hc, r_46_4 hc, x_57 hc, r_46_5 hc, x_58 hc, r_46_6 hc, x_59 hc, b_40 hc, r_40_0 hc, x_41 hc, r_40_1 hc, x_42 hc, r_40_2 hc, x_43 hc, r_40_9 hc, r_40_10 hc, x_44 hc, r_40_11 hc, x_45 hc, b_9 hc, r_9_0 hc, x_10 hc, r_9_1 hc, x_11 hc, b_104 hc, r_104_0 hc, x_105 hc, r_104_1 hc, x_106 hc, r_104_6 hc, r_104_7 hc, r_104_8 hc, b_114 hc, r_114_0 hc, r_114_1 hc, r_114_2 hc, hd0, hd1, cIsDoor _ h.1, cIsGust, cIsWay, q0, q1]
      exact hno (by omega)
  · simp (disch := omega) only [x130_0, x130_1, x130_2, x130_5, x130_8, x130_9, x130_12, x130_15, x130_16, x130_19, x130_22, x130_24, x130_25, x130_26, x130_29, x130_30, x130_31, x130_32, x130_35, ↓reduceIte, Bool.false_eq_true, Nat.reduceAdd, Nat.reduceLT, Nat.reduceLeDiff, Nat.reduceSub, Nat.reduceEqDiff, Int.reduceToNat, Int.reduceEq, Int.reduceLT, Int.reduceLE, Int.reduceAdd, Int.reduceSub, zg, zI, zJ, zR, zst, zkl, zn, zcat, zok, zraw, List.length_cons, List.length_nil, Option.toList, List.nil_append, List.cons_append, true_and, and_true, if_true, if_false, ne_eq, not_true, not_false_eq_true, and_self, true_or, or_true, false_or, or_false, false_and, and_false, b_2 hc, b_3 hc, b_9 hc, b_12 hc, b_26 hc, b_40 hc, b_46 hc, b_47 hc, b_60 hc, b_62 hc, b_63 hc, b_76 hc, b_77 hc, b_90 hc, b_91 hc, b_104 hc, b_107 hc, b_114 hc, b_115 hc, b_122 hc, b_123 hc, b_131 hc, b_2 hc, r_2_0 hc, r_2_1 hc, r_2_2 hc, r_2_3 hc, r_2_4 hc, r_2_5 hc, x_61 hc, n_61 hc, r_2_6 hc, r_2_7 hc, r_2_8 hc, r_2_9 hc, b_46 hc, r_46_0 hc, r_46_1 hc, x_54 hc, r_46_2 hc, x_55 hc, r_46_3 hc, x_56 hc, r_46_4 hc, x_57 hc, r_46_5 hc, x_58 hc, r_46_6 hc, x_59 hc, b_40 hc, r_40_0 hc, x_41 hc, r_40_1 hc, x_42 hc, r_40_2 hc, x_43 hc, r_40_9 hc, r_40_10 hc, x_44 hc, r_40_11 hc, x_45 hc, b_9 hc, r_9_0 hc, x_10 hc, r_9_1 hc, x_11 hc, b_104 hc, r_104_0 hc, x_105 hc, r_104_1 hc, x_106 hc, r_104_6 hc, r_104_7 hc, r_104_8 hc, b_114 hc, r_114_0 hc, r_114_1 hc, r_114_2 hc, hd0, hd1, cIsDoor _ h.1, cIsGust, cIsWay, q0]
    exact hno (by omega)
theorem rHelps {d : Nat} {k g w : Int} (h : MS θ σ s μ) (hd : 11 ≤ d) (hQ : ∀ μ', ML2 μ μ' → MS θ σ s μ' → Q (some (vi (vHelps σ k g w))) θ μ') : Ex d 254 0 [vr 138, vi k, vi g, vi w] [] θ μ Q := by
  have hm := h.1.1
  have hd0 : 0 < d := by omega
  have hd1 : 0 < d - 1 := by omega
  have hn := tn_b h.1.2.1
  have hno : ¬ ((0 ≤ k ∧ k < (tD (sT σ) : Int)) ∧ (0 ≤ g ∧ g ≤ 99) ∧ (0 ≤ w ∧ w ≤ 3)) → Q (some (vi (-100))) θ μ := fun hn => by
    have := hQ μ (fun _ _ => rfl) h
    unfold vHelps at this
    rwa [if_neg hn] at this
  have hyes : ((0 ≤ k ∧ k < (tD (sT σ) : Int)) ∧ (0 ≤ g ∧ g ≤ 99) ∧ (0 ≤ w ∧ w ≤ 3)) → ∀ {μ'}, ML2 μ μ' → MS θ σ s μ' → Q (some (vi (faO (sT σ) (gR (sG σ)) g w - faO (sT σ) (heF (gR (sG σ)) k.toNat) g w))) θ μ' := fun hp μ' a b => by
    have := hQ μ' a b
    unfold vHelps at this
    rwa [if_pos hp] at this
  by_cases q0 : 0 ≤ k ∧ k < (tD (sT σ) : Int)
  · by_cases q1 : (0 ≤ g ∧ g ≤ 99) ∧ (0 ≤ w ∧ w ≤ 3)
    · simp (disch := omega) only [x254_0, x254_1, x254_2, x254_5, x254_8, x254_9, x254_10, x254_13, x254_16, x254_17, x254_18, x254_19, x254_20, x254_23, x254_26, x254_28, ↓reduceIte, Bool.false_eq_true, Nat.reduceAdd, Nat.reduceLT, Nat.reduceLeDiff, Nat.reduceSub, Nat.reduceEqDiff, Int.reduceToNat, Int.reduceEq, Int.reduceLT, Int.reduceLE, Int.reduceAdd, Int.reduceSub, zg, zI, zJ, zR, zst, zkl, zn, zcat, zok, zraw, List.length_cons, List.length_nil, Option.toList, List.nil_append, List.cons_append, true_and, and_true, if_true, if_false, ne_eq, not_true, not_false_eq_true, and_self, true_or, or_true, false_or, or_false, false_and, and_false, b_138 hm, hd0, hd1, mIsDoor (d := d - 1) h.1 (by omega), mIsGust, q0, q1]
      obtain ⟨N, rfl⟩ : ∃ N : Nat, k = (N : Int) := ⟨k.toNat, by omega⟩
      refine mHelps (d := d - 1) (by omega) h.1 h.2.2.1.1 rfl (by omega) q1.1 q1.2 ?_
      intro μ1 hf hj h177
      simp (disch := omega) only [x254_0, x254_1, x254_2, x254_5, x254_8, x254_9, x254_10, x254_13, x254_16, x254_17, x254_18, x254_19, x254_20, x254_23, x254_26, x254_28, ↓reduceIte, Bool.false_eq_true, Nat.reduceAdd, Nat.reduceLT, Nat.reduceLeDiff, Nat.reduceSub, Nat.reduceEqDiff, Int.reduceToNat, Int.reduceEq, Int.reduceLT, Int.reduceLE, Int.reduceAdd, Int.reduceSub, zg, zI, zJ, zR, zst, zkl, zn, zcat, zok, zraw, List.length_cons, List.length_nil, Option.toList, List.nil_append, List.cons_append, true_and, and_true, if_true, if_false, ne_eq, not_true, not_false_eq_true, and_self, true_or, or_true, false_or, or_false, false_and, and_false, b_138 hm]
      have := hyes ⟨q0, q1.1, q1.2⟩ (MLe_fr hf (by decide)) (MS_fr2 h hf (by decide) hj.nine ?_)
      · rwa [Int.toNat_natCast] at this
      · obtain ⟨⟨r1, r2, r3, r4⟩, r5⟩ := h.2.2.1.1
        refine ⟨⟨r1, ?_, ?_, ?_⟩, ?_⟩
        · rw [hf 173 (by decide), hf 174 (by decide), hf 175 (by decide), hf 176 (by decide)]; exact r2
        · intro k hk; rw [h177 k]; exact r3 k hk
        · rw [hj 57 (by decide) (by decide)]; exact r4
        · rw [hf 172 (by decide)]; exact r5
    · simp (disch := omega) only [x254_0, x254_1, x254_2, x254_5, x254_8, x254_9, x254_10, x254_13, x254_16, x254_17, x254_18, x254_19, x254_20, x254_23, x254_26, x254_28, ↓reduceIte, Bool.false_eq_true, Nat.reduceAdd, Nat.reduceLT, Nat.reduceLeDiff, Nat.reduceSub, Nat.reduceEqDiff, Int.reduceToNat, Int.reduceEq, Int.reduceLT, Int.reduceLE, Int.reduceAdd, Int.reduceSub, zg, zI, zJ, zR, zst, zkl, zn, zcat, zok, zraw, List.length_cons, List.length_nil, Option.toList, List.nil_append, List.cons_append, true_and, and_true, if_true, if_false, ne_eq, not_true, not_false_eq_true, and_self, true_or, or_true, false_or, or_false, false_and, and_false, b_138 hm, hd0, hd1, mIsDoor (d := d - 1) h.1 (by omega), mIsGust, q0, q1]
      exact hno (by omega)
  · simp (disch := omega) only [x254_0, x254_1, x254_2, x254_5, x254_8, x254_9, x254_10, x254_13, x254_16, x254_17, x254_18, x254_19, x254_20, x254_23, x254_26, x254_28, ↓reduceIte, Bool.false_eq_true, Nat.reduceAdd, Nat.reduceLT, Nat.reduceLeDiff, Nat.reduceSub, Nat.reduceEqDiff, Int.reduceToNat, Int.reduceEq, Int.reduceLT, Int.reduceLE, Int.reduceAdd, Int.reduceSub, zg, zI, zJ, zR, zst, zkl, zn, zcat, zok, zraw, List.length_cons, List.length_nil, Option.toList, List.nil_append, List.cons_append, true_and, and_true, if_true, if_false, ne_eq, not_true, not_false_eq_true, and_self, true_or, or_true, false_or, or_false, false_and, and_false, b_138 hm, hd0, hd1, mIsDoor (d := d - 1) h.1 (by omega), mIsGust, q0]
    exact hno (by omega)
def vNeglect (σ : zSt) (g w : Int) : Int := if (0 ≤ g ∧ g ≤ 99) ∧ (0 ≤ w ∧ w ≤ 3) then (faO (sT σ) (gR (sG σ)) g w - faO (sT σ) (neF (gR (sG σ))) g w) else -100
theorem kNeglect {d : Nat} {g w : Int} (h : CS θ T U σ μ) (hd : 7 ≤ d) (hQ : ∀ μ', CL μ μ' → CS θ T U σ μ' → Q (some (vi (vNeglect σ g w))) θ μ') : Ex d 137 0 [vr 2, vi g, vi w] [] θ μ Q := by
  have hc := h.1.1.1
  have hT := h.1.1.2.1
  have hd0 : 0 < d := by omega
  have hd1 : 0 < d - 1 := by omega
  have hn := tn_b h.1.2.1
  have hno : ¬ ((0 ≤ g ∧ g ≤ 99) ∧ (0 ≤ w ∧ w ≤ 3)) → Q (some (vi (-100))) θ μ := fun hn => by
    have := hQ μ (fun _ _ => rfl) h
    unfold vNeglect at this
    rwa [if_neg hn] at this
  have hyes : ((0 ≤ g ∧ g ≤ 99) ∧ (0 ≤ w ∧ w ≤ 3)) → ∀ {μ'}, CL μ μ' → CS θ T U σ μ' → Q (some (vi (faO (sT σ) (gR (sG σ)) g w - faO (sT σ) (neF (gR (sG σ))) g w))) θ μ' := fun hp μ' a b => by
    have := hQ μ' a b
    unfold vNeglect at this
    rwa [if_pos hp] at this
  by_cases q0 : 0 ≤ g ∧ g ≤ 99
  · by_cases q1 : 0 ≤ w ∧ w ≤ 3
    · simp (disch := omega) only [x137_0, x137_1, x137_4, x137_7, x137_8, x137_11, x137_14, x137_15, x137_18, x137_19, x137_20, x137_23, x137_26, x137_28, ↓reduceIte, Bool.false_eq_true, Nat.reduceAdd, Nat.reduceLT, Nat.reduceLeDiff, Nat.reduceSub, Nat.reduceEqDiff, Int.reduceToNat, Int.reduceEq, Int.reduceLT, Int.reduceLE, Int.reduceAdd, Int.reduceSub, zg, zI, zJ, zR, zst, zkl, zn, zcat, zok, zraw, List.length_cons, List.length_nil, Option.toList, List.nil_append, List.cons_append, true_and, and_true, if_true, if_false, ne_eq, not_true, not_false_eq_true, and_self, true_or, or_true, false_or, or_false, false_and, and_false, b_2 hc, b_3 hc, b_9 hc, b_12 hc, b_26 hc, b_40 hc, b_46 hc, b_47 hc, b_60 hc, b_62 hc, b_63 hc, b_76 hc, b_77 hc, b_90 hc, b_91 hc, b_104 hc, b_107 hc, b_114 hc, b_115 hc, b_122 hc, b_123 hc, b_131 hc, b_2 hc, r_2_0 hc, r_2_1 hc, r_2_2 hc, r_2_3 hc, r_2_4 hc, r_2_5 hc, x_61 hc, n_61 hc, r_2_6 hc, r_2_7 hc, r_2_8 hc, r_2_9 hc, b_46 hc, r_46_0 hc, r_46_1 hc, x_54 hc, r_46_2 hc, x_55 hc, r_46_3 hc, x_56 hc, r_46_4 hc, x_57 hc, r_46_5 hc, x_58 hc, r_46_6 hc, x_59 hc, b_40 hc, r_40_0 hc, x_41 hc, r_40_1 hc, x_42 hc, r_40_2 hc, x_43 hc, r_40_9 hc, r_40_10 hc, x_44 hc, r_40_11 hc, x_45 hc, b_9 hc, r_9_0 hc, x_10 hc, r_9_1 hc, x_11 hc, b_104 hc, r_104_0 hc, x_105 hc, r_104_1 hc, x_106 hc, r_104_6 hc, r_104_7 hc, r_104_8 hc, b_114 hc, r_114_0 hc, r_114_1 hc, r_114_2 hc, hd0, hd1, cIsGust, cIsWay, q0, q1]
      refine cNeglect (d := d - 1) (ρ := gR (sG σ)) h.1 h.2.2.1.1 (by omega) q0 q1 ?_
      intro μ1 hf
      simp (disch := omega) only [x137_0, x137_1, x137_4, x137_7, x137_8, x137_11, x137_14, x137_15, x137_18, x137_19, x137_20, x137_23, x137_26, x137_28, ↓reduceIte, Bool.false_eq_true, Nat.reduceAdd, Nat.reduceLT, Nat.reduceLeDiff, Nat.reduceSub, Nat.reduceEqDiff, Int.reduceToNat, Int.reduceEq, Int.reduceLT, Int.reduceLE, Int.reduceAdd, Int.reduceSub, zg, zI, zJ, zR, zst, zkl, zn, zcat, zok, zraw, List.length_cons, List.length_nil, Option.toList, List.nil_append, List.cons_append, true_and, and_true, if_true, if_false, ne_eq, not_true, not_false_eq_true, and_self, true_or, or_true, false_or, or_false, false_and, and_false, b_2 hc, b_3 hc, b_9 hc, b_12 hc, b_26 hc, b_40 hc, b_46 hc, b_47 hc, b_60 hc, b_62 hc, b_63 hc, b_76 hc, b_77 hc, b_90 hc, b_91 hc, b_104 hc, b_107 hc, b_114 hc, b_115 hc, b_122 hc, b_123 hc, b_131 hc]
      exact hyes ⟨q0, q1⟩ (CL_fr hf (by decide)) (CS_fr h hf (by decide))
    · simp (disch := omega) only [x137_0, x137_1, x137_4, x137_7, x137_8, x137_11, x137_14, x137_15, x137_18, x137_19, x137_20, x137_23, x137_26, x137_28, ↓reduceIte, Bool.false_eq_true, Nat.reduceAdd, Nat.reduceLT, Nat.reduceLeDiff, Nat.reduceSub, Nat.reduceEqDiff, Int.reduceToNat, Int.reduceEq, Int.reduceLT, Int.reduceLE, Int.reduceAdd, Int.reduceSub, zg, zI, zJ, zR, zst, zkl, zn, zcat, zok, zraw, List.length_cons, List.length_nil, Option.toList, List.nil_append, List.cons_append, true_and, and_true, if_true, if_false, ne_eq, not_true, not_false_eq_true, and_self, true_or, or_true, false_or, or_false, false_and, and_false, b_2 hc, b_3 hc, b_9 hc, b_12 hc, b_26 hc, b_40 hc, b_46 hc, b_47 hc, b_60 hc, b_62 hc, b_63 hc, b_76 hc, b_77 hc, b_90 hc, b_91 hc, b_104 hc, b_107 hc, b_114 hc, b_115 hc, b_122 hc, b_123 hc, b_131 hc, b_2 hc, r_2_0 hc, r_2_1 hc, r_2_2 hc, r_2_3 hc, r_2_4 hc, r_2_5 hc, x_61 hc, n_61 hc, r_2_6 hc, r_2_7 hc, r_2_8 hc, r_2_9 hc, b_46 hc, r_46_0 hc, r_46_1 hc, x_54 hc, r_46_2 hc, x_55 hc, r_46_3 hc, x_56 hc, r_46_4 hc, x_57 hc, r_46_5 hc, x_58 hc, r_46_6 hc, x_59 hc, b_40 hc, r_40_0 hc, x_41 hc, r_40_1 hc, x_42 hc, r_40_2 hc, x_43 hc, r_40_9 hc, r_40_10 hc, x_44 hc, r_40_11 hc, x_45 hc, b_9 hc, r_9_0 hc, x_10 hc, r_9_1 hc, x_11 hc, b_104 hc, r_104_0 hc, x_105 hc, r_104_1 hc, x_106 hc, r_104_6 hc, r_104_7 hc, r_104_8 hc, b_114 hc, r_114_0 hc, r_114_1 hc, r_114_2 hc, hd0, hd1, cIsGust, cIsWay, q0, q1]
      exact hno (by omega)
  · simp (disch := omega) only [x137_0, x137_1, x137_4, x137_7, x137_8, x137_11, x137_14, x137_15, x137_18, x137_19, x137_20, x137_23, x137_26, x137_28, ↓reduceIte, Bool.false_eq_true, Nat.reduceAdd, Nat.reduceLT, Nat.reduceLeDiff, Nat.reduceSub, Nat.reduceEqDiff, Int.reduceToNat, Int.reduceEq, Int.reduceLT, Int.reduceLE, Int.reduceAdd, Int.reduceSub, zg, zI, zJ, zR, zst, zkl, zn, zcat, zok, zraw, List.length_cons, List.length_nil, Option.toList, List.nil_append, List.cons_append, true_and, and_true, if_true, if_false, ne_eq, not_true, not_false_eq_true, and_self, true_or, or_true, false_or, or_false, false_and, and_false, b_2 hc, b_3 hc, b_9 hc, b_12 hc, b_26 hc, b_40 hc, b_46 hc, b_47 hc, b_60 hc, b_62 hc, b_63 hc, b_76 hc, b_77 hc, b_90 hc, b_91 hc, b_104 hc, b_107 hc, b_114 hc, b_115 hc, b_122 hc, b_123 hc, b_131 hc, b_2 hc, r_2_0 hc, r_2_1 hc, r_2_2 hc, r_2_3 hc, r_2_4 hc, r_2_5 hc, x_61 hc, n_61 hc, r_2_6 hc, r_2_7 hc, r_2_8 hc, r_2_9 hc, b_46 hc, r_46_0 hc, r_46_1 hc, x_54 hc, r_46_2 hc, x_55 hc, r_46_3 hc, x_56 hc, r_46_4 hc, x_57 hc, r_46_5 hc, x_58 hc, r_46_6 hc, x_59 hc, b_40 hc, r_40_0 hc, x_41 hc, r_40_1 hc, x_42 hc, r_40_2 hc, x_43 hc, r_40_9 hc, r_40_10 hc, x_44 hc, r_40_11 hc, x_45 hc, b_9 hc, r_9_0 hc, x_10 hc, r_9_1 hc, x_11 hc, b_104 hc, r_104_0 hc, x_105 hc, r_104_1 hc, x_106 hc, r_104_6 hc, r_104_7 hc, r_104_8 hc, b_114 hc, r_114_0 hc, r_114_1 hc, r_114_2 hc, hd0, hd1, cIsGust, cIsWay, q0]
    exact hno (by omega)
theorem rNeglect {d : Nat} {g w : Int} {x3 x4 : zV} (h : MS θ σ s μ) (hd : 11 ≤ d) (hQ : ∀ μ', ML2 μ μ' → MS θ σ s μ' → Q (some (vi (vNeglect σ g w))) θ μ') : Ex d 269 0 [vr 138, vi g, vi w, x3, x4] [] θ μ Q := by
  have hm := h.1.1
  have hd0 : 0 < d := by omega
  by_cases q : (0 ≤ g ∧ g ≤ 99) ∧ (0 ≤ w ∧ w ≤ 3)
  · refine mNeglect (by omega) h.1 h.2.2.1.1 q.1 q.2 ?_
    intro μ1 hf hj hR
    have := hQ μ1 (MLe_fr hf (by decide)) (MS_fr2 h hf (by decide) hj.nine hR)
    unfold vNeglect at this
    rwa [if_pos q] at this
  · have := hQ μ (fun _ _ => rfl) h
    unfold vNeglect at this
    rw [if_neg q] at this
    simp (disch := omega) only [x269_0, x269_1, x269_2, x269_5, x269_8, x269_10, x269_11, x269_12, x269_13, x269_14, x269_17, x269_18, x269_19, x269_23, x269_24, x269_27, x269_30, x269_31, x269_34, x269_36, x269_37, x269_40, x269_42, x269_43, x269_44, x269_45, x269_48, x269_50, x269_51, x269_54, x269_56, x269_57, x269_58, x269_59, x269_62, x269_64, x269_65, x269_66, x269_67, x269_70, x269_72, x269_73, x269_74, x269_75, x269_78, x269_80, x269_81, x269_82, x269_85, x269_88, x269_89, x269_90, x269_91, x269_92, x269_95, x269_96, x269_97, x269_98, x269_102, x269_103, x269_106, x269_109, x269_110, x269_113, x269_115, x269_116, x269_119, x269_121, x269_122, x269_123, x269_124, x269_127, x269_129, x269_130, x269_133, x269_135, x269_136, x269_137, x269_140, x269_143, x269_144, ↓reduceIte, Bool.false_eq_true, Nat.reduceAdd, Nat.reduceLT, Nat.reduceLeDiff, Nat.reduceSub, Nat.reduceEqDiff, Int.reduceToNat, Int.reduceEq, Int.reduceLT, Int.reduceLE, Int.reduceAdd, Int.reduceSub, zg, zI, zJ, zR, zst, zkl, zn, zcat, zok, zraw, List.length_cons, List.length_nil, Option.toList, List.nil_append, List.cons_append, true_and, and_true, if_true, if_false, ne_eq, not_true, not_false_eq_true, and_self, true_or, or_true, false_or, or_false, false_and, and_false, b_138 hm, hd0, mIsGust, q]
    exact this
def vYears (σ : zSt) (e k : Int) : Int := if 0 ≤ k ∧ k ≤ 60 then (hlO (sT σ) (ylO (sT σ) (gR (sG σ)) e k.toNat)) else -1
theorem kYears {d : Nat} {e k : Int} (h : CS θ T U σ μ) (hd : 8 ≤ d) (hQ : ∀ μ', CL μ μ' → CS θ T U σ μ' → Q (some (vi (vYears σ e k))) θ μ') : Ex d 139 0 [vr 2, vi e, vi k] [] θ μ Q := by
  have hc := h.1.1.1
  have hT := h.1.1.2.1
  have hd0 : 0 < d := by omega
  have hd1 : 0 < d - 1 := by omega
  have hn := tn_b h.1.2.1
  have hno : ¬ (0 ≤ k ∧ k ≤ 60) → Q (some (vi (-1))) θ μ := fun hn => by
    have := hQ μ (fun _ _ => rfl) h
    unfold vYears at this
    rwa [if_neg hn] at this
  have hyes : (0 ≤ k ∧ k ≤ 60) → ∀ {μ'}, CL μ μ' → CS θ T U σ μ' → Q (some (vi (hlO (sT σ) (ylO (sT σ) (gR (sG σ)) e k.toNat)))) θ μ' := fun hp μ' a b => by
    have := hQ μ' a b
    unfold vYears at this
    rwa [if_pos hp] at this
  by_cases q0 : 0 ≤ k ∧ k ≤ 60
  · obtain ⟨N, rfl⟩ : ∃ N : Nat, k = (N : Int) := ⟨k.toNat, by omega⟩
    have p1 : ¬ ((N : Int) < 0) := by omega
    have p2 : (N : Int) ≤ 60 := q0.2
    simp (disch := omega) only [x139_0, x139_1, x139_4, x139_5, x139_7, x139_10, x139_11, x139_14, x139_15, x139_18, x139_19, x139_20, x139_23, ↓reduceIte, Bool.false_eq_true, Nat.reduceAdd, Nat.reduceLT, Nat.reduceLeDiff, Nat.reduceSub, Nat.reduceEqDiff, Int.reduceToNat, Int.reduceEq, Int.reduceLT, Int.reduceLE, Int.reduceAdd, Int.reduceSub, zg, zI, zJ, zR, zst, zkl, zn, zcat, zok, zraw, List.length_cons, List.length_nil, Option.toList, List.nil_append, List.cons_append, true_and, and_true, if_true, if_false, ne_eq, not_true, not_false_eq_true, and_self, true_or, or_true, false_or, or_false, false_and, and_false, b_2 hc, b_3 hc, b_9 hc, b_12 hc, b_26 hc, b_40 hc, b_46 hc, b_47 hc, b_60 hc, b_62 hc, b_63 hc, b_76 hc, b_77 hc, b_90 hc, b_91 hc, b_104 hc, b_107 hc, b_114 hc, b_115 hc, b_122 hc, b_123 hc, b_131 hc, b_2 hc, r_2_0 hc, r_2_1 hc, r_2_2 hc, r_2_3 hc, r_2_4 hc, r_2_5 hc, x_61 hc, n_61 hc, r_2_6 hc, r_2_7 hc, r_2_8 hc, r_2_9 hc, hd0, p1, p2]
    refine cGoneBehind (d := d - 1) (ρ := gR (sG σ)) h.1 h.2.2.1.1 (by omega) rfl (by omega) ?_
    intro μ1 hf
    simp (disch := omega) only [x139_0, x139_1, x139_4, x139_5, x139_7, x139_10, x139_11, x139_14, x139_15, x139_18, x139_19, x139_20, x139_23, ↓reduceIte, Bool.false_eq_true, Nat.reduceAdd, Nat.reduceLT, Nat.reduceLeDiff, Nat.reduceSub, Nat.reduceEqDiff, Int.reduceToNat, Int.reduceEq, Int.reduceLT, Int.reduceLE, Int.reduceAdd, Int.reduceSub, zg, zI, zJ, zR, zst, zkl, zn, zcat, zok, zraw, List.length_cons, List.length_nil, Option.toList, List.nil_append, List.cons_append, true_and, and_true, if_true, if_false, ne_eq, not_true, not_false_eq_true, and_self, true_or, or_true, false_or, or_false, false_and, and_false, b_2 hc, b_3 hc, b_9 hc, b_12 hc, b_26 hc, b_40 hc, b_46 hc, b_47 hc, b_60 hc, b_62 hc, b_63 hc, b_76 hc, b_77 hc, b_90 hc, b_91 hc, b_104 hc, b_107 hc, b_114 hc, b_115 hc, b_122 hc, b_123 hc, b_131 hc]
    have := hyes q0 (CL_fr hf (by decide)) (CS_fr h hf (by decide))
    rwa [Int.toNat_natCast] at this
  · by_cases p1 : k < 0
    · simp (disch := omega) only [x139_0, x139_1, x139_4, x139_5, x139_7, x139_10, x139_11, x139_14, x139_15, x139_18, x139_19, x139_20, x139_23, ↓reduceIte, Bool.false_eq_true, Nat.reduceAdd, Nat.reduceLT, Nat.reduceLeDiff, Nat.reduceSub, Nat.reduceEqDiff, Int.reduceToNat, Int.reduceEq, Int.reduceLT, Int.reduceLE, Int.reduceAdd, Int.reduceSub, zg, zI, zJ, zR, zst, zkl, zn, zcat, zok, zraw, List.length_cons, List.length_nil, Option.toList, List.nil_append, List.cons_append, true_and, and_true, if_true, if_false, ne_eq, not_true, not_false_eq_true, and_self, true_or, or_true, false_or, or_false, false_and, and_false, b_2 hc, b_3 hc, b_9 hc, b_12 hc, b_26 hc, b_40 hc, b_46 hc, b_47 hc, b_60 hc, b_62 hc, b_63 hc, b_76 hc, b_77 hc, b_90 hc, b_91 hc, b_104 hc, b_107 hc, b_114 hc, b_115 hc, b_122 hc, b_123 hc, b_131 hc, b_2 hc, r_2_0 hc, r_2_1 hc, r_2_2 hc, r_2_3 hc, r_2_4 hc, r_2_5 hc, x_61 hc, n_61 hc, r_2_6 hc, r_2_7 hc, r_2_8 hc, r_2_9 hc, hd0, p1]
      exact hno q0
    · have p2 : ¬ k ≤ 60 := by omega
      simp (disch := omega) only [x139_0, x139_1, x139_4, x139_5, x139_7, x139_10, x139_11, x139_14, x139_15, x139_18, x139_19, x139_20, x139_23, ↓reduceIte, Bool.false_eq_true, Nat.reduceAdd, Nat.reduceLT, Nat.reduceLeDiff, Nat.reduceSub, Nat.reduceEqDiff, Int.reduceToNat, Int.reduceEq, Int.reduceLT, Int.reduceLE, Int.reduceAdd, Int.reduceSub, zg, zI, zJ, zR, zst, zkl, zn, zcat, zok, zraw, List.length_cons, List.length_nil, Option.toList, List.nil_append, List.cons_append, true_and, and_true, if_true, if_false, ne_eq, not_true, not_false_eq_true, and_self, true_or, or_true, false_or, or_false, false_and, and_false, b_2 hc, b_3 hc, b_9 hc, b_12 hc, b_26 hc, b_40 hc, b_46 hc, b_47 hc, b_60 hc, b_62 hc, b_63 hc, b_76 hc, b_77 hc, b_90 hc, b_91 hc, b_104 hc, b_107 hc, b_114 hc, b_115 hc, b_122 hc, b_123 hc, b_131 hc, b_2 hc, r_2_0 hc, r_2_1 hc, r_2_2 hc, r_2_3 hc, r_2_4 hc, r_2_5 hc, x_61 hc, n_61 hc, r_2_6 hc, r_2_7 hc, r_2_8 hc, r_2_9 hc, hd0, p1, p2]
      exact hno q0
theorem rYears {d : Nat} {e k : Int} (h : MS θ σ s μ) (hd : 12 ≤ d) (hQ : ∀ μ', ML2 μ μ' → MS θ σ s μ' → Q (some (vi (vYears σ e k))) θ μ') : Ex d 274 0 [vr 138, vi e, vi k] [] θ μ Q := by
  have hm := h.1.1
  have hd0 : 0 < d := by omega
  have hd1 : 0 < d - 1 := by omega
  have hn := tn_b h.1.2.1
  have hno : ¬ (0 ≤ k ∧ k ≤ 60) → Q (some (vi (-1))) θ μ := fun hn => by
    have := hQ μ (fun _ _ => rfl) h
    unfold vYears at this
    rwa [if_neg hn] at this
  have hyes : (0 ≤ k ∧ k ≤ 60) → ∀ {μ'}, ML2 μ μ' → MS θ σ s μ' → Q (some (vi (hlO (sT σ) (ylO (sT σ) (gR (sG σ)) e k.toNat)))) θ μ' := fun hp μ' a b => by
    have := hQ μ' a b
    unfold vYears at this
    rwa [if_pos hp] at this
  by_cases q0 : 0 ≤ k ∧ k ≤ 60
  · simp (disch := omega) only [x274_0, x274_1, x274_2, x274_4, x274_7, x274_10, x274_11, x274_12, x274_13, x274_16, x274_19, x274_20, ↓reduceIte, Bool.false_eq_true, Nat.reduceAdd, Nat.reduceLT, Nat.reduceLeDiff, Nat.reduceSub, Nat.reduceEqDiff, Int.reduceToNat, Int.reduceEq, Int.reduceLT, Int.reduceLE, Int.reduceAdd, Int.reduceSub, zg, zI, zJ, zR, zst, zkl, zn, zcat, zok, zraw, List.length_cons, List.length_nil, Option.toList, List.nil_append, List.cons_append, true_and, and_true, if_true, if_false, ne_eq, not_true, not_false_eq_true, and_self, true_or, or_true, false_or, or_false, false_and, and_false, b_138 hm, hd0, hd1, mIn, q0]
    obtain ⟨N, rfl⟩ : ∃ N : Nat, k = (N : Int) := ⟨k.toNat, by omega⟩
    refine mYears (d := d - 1) (by omega) h.1 h.2.2.1.1 rfl (by omega) ?_
    intro μ1 hf hj hR _
    simp (disch := omega) only [x274_0, x274_1, x274_2, x274_4, x274_7, x274_10, x274_11, x274_12, x274_13, x274_16, x274_19, x274_20, ↓reduceIte, Bool.false_eq_true, Nat.reduceAdd, Nat.reduceLT, Nat.reduceLeDiff, Nat.reduceSub, Nat.reduceEqDiff, Int.reduceToNat, Int.reduceEq, Int.reduceLT, Int.reduceLE, Int.reduceAdd, Int.reduceSub, zg, zI, zJ, zR, zst, zkl, zn, zcat, zok, zraw, List.length_cons, List.length_nil, Option.toList, List.nil_append, List.cons_append, true_and, and_true, if_true, if_false, ne_eq, not_true, not_false_eq_true, and_self, true_or, or_true, false_or, or_false, false_and, and_false, b_138 hm]
    have := hyes q0 (MLe_fr hf (by decide)) (MS_fr2 h hf (by decide) hj.nine hR)
    rwa [Int.toNat_natCast] at this
  · simp (disch := omega) only [x274_0, x274_1, x274_2, x274_4, x274_7, x274_10, x274_11, x274_12, x274_13, x274_16, x274_19, x274_20, ↓reduceIte, Bool.false_eq_true, Nat.reduceAdd, Nat.reduceLT, Nat.reduceLeDiff, Nat.reduceSub, Nat.reduceEqDiff, Int.reduceToNat, Int.reduceEq, Int.reduceLT, Int.reduceLE, Int.reduceAdd, Int.reduceSub, zg, zI, zJ, zR, zst, zkl, zn, zcat, zok, zraw, List.length_cons, List.length_nil, Option.toList, List.nil_append, List.cons_append, true_and, and_true, if_true, if_false, ne_eq, not_true, not_false_eq_true, and_self, true_or, or_true, false_or, or_false, false_and, and_false, b_138 hm, hd0, hd1, mIn, q0]
    exact hno (by omega)
end CB
