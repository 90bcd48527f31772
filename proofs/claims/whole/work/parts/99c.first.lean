/-! CALLS: first, fallen -/
section FI
variable {θ : zS} {T U : Nat} {σ : zSt} {Q : Option zV → zS → zM → Prop} {μ : zM} {s : Nat} {τ : zT} {ρ : zF} {g w : Int}
theorem fs_2 : (fsO τ ρ g w = -2 ∧ faO τ ρ g w = 0) ∨ (¬ fsO τ ρ g w = -2 ∧ 0 < faO τ ρ g w) := by
  unfold fsO faO foO
  cases alO τ ρ g w (gnO τ ρ) with
  | nil => exact Or.inl ⟨rfl, rfl⟩
  | cons t r => exact Or.inr ⟨by simp only; omega, by simp⟩
def FO : List Nat := [10, 11, 40, 42, 44, 45]
theorem cFirstOf {d : Nat} {x4 : zV} (h : CX θ T U τ μ) (hF : CF τ ρ 47 μ) (hd : 4 ≤ d) (hg : 0 ≤ g ∧ g ≤ 99) (hQ : ∀ μ', Fr FO μ μ' → Q (some (vi (fsO τ ρ g w))) θ μ') : Ex d 10 0 [vr 40, vr 47, vi g, vi w, x4] [] θ μ Q := by
  have hX := h
  obtain ⟨⟨hc, hT, hU, hTU, h2T, h2U, hgT⟩, hw, hC, hCc⟩ := h
  have hd0 : 0 < d := by omega
  have hn := tn_b hw
  have hz0 := gn_z τ ρ
  simp only [x10_0, x10_1, x10_2, x10_3, x10_4, x10_7, x10_8, x10_12, x10_13, x10_16, x10_19, x10_22, x10_23, x10_26, x10_28, x10_29, x10_32, x10_33, x10_34, x10_36, x10_39, x10_42, x10_44, x10_45, x10_48, x10_51, x10_53, ↓reduceIte, Bool.false_eq_true, Nat.reduceAdd, Nat.reduceLT, Nat.reduceLeDiff, Nat.reduceSub, Nat.reduceEqDiff, Int.reduceToNat, Int.reduceEq, Int.reduceLT, Int.reduceLE, Int.reduceAdd, Int.reduceSub, zg, zI, zJ, zR, zst, zkl, zn, zcat, zok, zraw, List.length_cons, List.length_nil, Option.toList, List.nil_append, List.cons_append, true_and, and_true, if_true, if_false, ne_eq, not_true, not_false_eq_true, and_self, true_or, or_true, false_or, or_false, false_and, and_false, b_2 hc, b_3 hc, b_9 hc, b_12 hc, b_26 hc, b_40 hc, b_46 hc, b_47 hc, b_60 hc, b_62 hc, b_63 hc, b_76 hc, b_77 hc, b_90 hc, b_91 hc, b_104 hc, b_107 hc, b_114 hc, b_115 hc, b_122 hc, b_123 hc, b_131 hc, hd0]
  refine cMeet (d := d - 1) hX hF (by omega) (fun μ1 f1 _ _ _ hS1 => ?_)
  have key : ∀ t L μ2, t ≤ tn τ → (L = [vr 40, vr 47, vi g, vi w, vi (t : Nat)] ∧ Fr FO μ μ2 ∧ GS τ ρ.2.1 (gnO τ ρ) g w μ2 ∧ ∀ q, q < t → giO τ ρ g w (gnO τ ρ) 0 q = false) → Ex d 10 10 L [] θ μ2 Q := by
    refine Ex_loop (I := fun t L μ2 => L = [vr 40, vr 47, vi g, vi w, vi (t : Nat)] ∧ Fr FO μ μ2 ∧ GS τ ρ.2.1 (gnO τ ρ) g w μ2 ∧ ∀ q, q < t → giO τ ρ g w (gnO τ ρ) 0 q = false) (tn τ) ?_ ?_
    · rintro t L μ2 ht ⟨rfl, hf, hS, hq⟩ hk
      have X1 : CX θ T U τ μ2 := CX_fr hX hf (by decide)
      have F1 : CF τ ρ 47 μ2 := CF_fr hF hf (by decide)
      have eT : μ2 T 13 = (tn τ : Nat) := X1.2.2.1.2.1
      have i1 : ¬ ((tn τ : Int) ≤ (t : Int)) := by omega
      have e44 : μ2 44 t = gnO τ ρ t := hS.1.1 t ht
      rw [x10_10]
      by_cases hlt : gnO τ ρ t = 0
      · simp (disch := omega) only [x10_0, x10_1, x10_2, x10_3, x10_4, x10_7, x10_8, x10_12, x10_13, x10_16, x10_19, x10_22, x10_23, x10_26, x10_28, x10_29, x10_32, x10_33, x10_34, x10_36, x10_39, x10_42, x10_44, x10_45, x10_48, x10_51, x10_53, ↓reduceIte, Bool.false_eq_true, Nat.reduceAdd, Nat.reduceLT, Nat.reduceLeDiff, Nat.reduceSub, Nat.reduceEqDiff, Int.reduceToNat, Int.reduceEq, Int.reduceLT, Int.reduceLE, Int.reduceAdd, Int.reduceSub, zg, zI, zJ, zR, zst, zkl, zn, zcat, zok, zraw, List.length_cons, List.length_nil, Option.toList, List.nil_append, List.cons_append, true_and, and_true, if_true, if_false, ne_eq, not_true, not_false_eq_true, and_self, true_or, or_true, false_or, or_false, false_and, and_false, b_40 hc, r_40_0 hc, x_41 hc, r_40_1 hc, x_42 hc, r_40_2 hc, x_43 hc, r_40_9 hc, r_40_10 hc, x_44 hc, r_40_11 hc, x_45 hc, tb hT, Tq1 hT, Tq2 hT, tr_0 hT, tr_1 hT, tr_2 hT, tr_3 hT, tr_4 hT, tr_5 hT, tr_6 hT, tr_7 hT, tr_8 hT, tr_9 hT, tr_10 hT, tr_11 hT, tr_12 hT, tx_1 hT, tx_2 hT, tx_3 hT, tx_4 hT, tx_5 hT, tx_6 hT, tx_7 hT, tx_8 hT, tx_9 hT, tx_10 hT, tx_11 hT, tx_12 hT, tx_13 hT, hgT, eT, i1, e44, hlt, hd0, Int.toNat_natCast]
        refine cLift (d := d - 1) X1 F1 (by omega) rfl ht hg hS hz0 ?_
        intro μ3 hf2 hj2 hS2 hL2 _ _ _
        have hf12 : Fr FO μ μ3 := hf.trans (hf2.mono (by decide))
        by_cases hgo : liO τ ρ (gnO τ ρ) t g w ≤ 0
        · have hp : giO τ ρ g w (gnO τ ρ) 0 t = false := by
            rw [Bool.eq_false_iff]; intro hh; have := (gi_iff.mp hh).2.2
            have e : loO τ ρ g w (gnO τ ρ) 0 = gnO τ ρ := rfl
            rw [e] at this; omega
          simp (disch := omega) only [x10_0, x10_1, x10_2, x10_3, x10_4, x10_7, x10_8, x10_12, x10_13, x10_16, x10_19, x10_22, x10_23, x10_26, x10_28, x10_29, x10_32, x10_33, x10_34, x10_36, x10_39, x10_42, x10_44, x10_45, x10_48, x10_51, x10_53, ↓reduceIte, Bool.false_eq_true, Nat.reduceAdd, Nat.reduceLT, Nat.reduceLeDiff, Nat.reduceSub, Nat.reduceEqDiff, Int.reduceToNat, Int.reduceEq, Int.reduceLT, Int.reduceLE, Int.reduceAdd, Int.reduceSub, zg, zI, zJ, zR, zst, zkl, zn, zcat, zok, zraw, List.length_cons, List.length_nil, Option.toList, List.nil_append, List.cons_append, true_and, and_true, if_true, if_false, ne_eq, not_true, not_false_eq_true, and_self, true_or, or_true, false_or, or_false, false_and, and_false, hgo, w32_s]
          exact hk _ _ ⟨rfl, hf12, hS2, all_s hq hp⟩
        · have hp : giO τ ρ g w (gnO τ ρ) 0 t = true := gi_iff.mpr ⟨ht, hlt, Int.not_le.mp hgo⟩
          have e := (fs_head ht hq hp).1
          simp (disch := omega) only [x10_0, x10_1, x10_2, x10_3, x10_4, x10_7, x10_8, x10_12, x10_13, x10_16, x10_19, x10_22, x10_23, x10_26, x10_28, x10_29, x10_32, x10_33, x10_34, x10_36, x10_39, x10_42, x10_44, x10_45, x10_48, x10_51, x10_53, ↓reduceIte, Bool.false_eq_true, Nat.reduceAdd, Nat.reduceLT, Nat.reduceLeDiff, Nat.reduceSub, Nat.reduceEqDiff, Int.reduceToNat, Int.reduceEq, Int.reduceLT, Int.reduceLE, Int.reduceAdd, Int.reduceSub, zg, zI, zJ, zR, zst, zkl, zn, zcat, zok, zraw, List.length_cons, List.length_nil, Option.toList, List.nil_append, List.cons_append, true_and, and_true, if_true, if_false, ne_eq, not_true, not_false_eq_true, and_self, true_or, or_true, false_or, or_false, false_and, and_false, hgo]
          have := hQ μ3 hf12
          rwa [e] at this
      · have hp : giO τ ρ g w (gnO τ ρ) 0 t = false := by
          rw [Bool.eq_false_iff]; intro hh; exact hlt (gi_iff.mp hh).2.1
        simp (disch := omega) only [x10_0, x10_1, x10_2, x10_3, x10_4, x10_7, x10_8, x10_12, x10_13, x10_16, x10_19, x10_22, x10_23, x10_26, x10_28, x10_29, x10_32, x10_33, x10_34, x10_36, x10_39, x10_42, x10_44, x10_45, x10_48, x10_51, x10_53, ↓reduceIte, Bool.false_eq_true, Nat.reduceAdd, Nat.reduceLT, Nat.reduceLeDiff, Nat.reduceSub, Nat.reduceEqDiff, Int.reduceToNat, Int.reduceEq, Int.reduceLT, Int.reduceLE, Int.reduceAdd, Int.reduceSub, zg, zI, zJ, zR, zst, zkl, zn, zcat, zok, zraw, List.length_cons, List.length_nil, Option.toList, List.nil_append, List.cons_append, true_and, and_true, if_true, if_false, ne_eq, not_true, not_false_eq_true, and_self, true_or, or_true, false_or, or_false, false_and, and_false, b_40 hc, r_40_0 hc, x_41 hc, r_40_1 hc, x_42 hc, r_40_2 hc, x_43 hc, r_40_9 hc, r_40_10 hc, x_44 hc, r_40_11 hc, x_45 hc, tb hT, Tq1 hT, Tq2 hT, tr_0 hT, tr_1 hT, tr_2 hT, tr_3 hT, tr_4 hT, tr_5 hT, tr_6 hT, tr_7 hT, tr_8 hT, tr_9 hT, tr_10 hT, tr_11 hT, tr_12 hT, tx_1 hT, tx_2 hT, tx_3 hT, tx_4 hT, tx_5 hT, tx_6 hT, tx_7 hT, tx_8 hT, tx_9 hT, tx_10 hT, tx_11 hT, tx_12 hT, tx_13 hT, hgT, eT, i1, e44, hlt, Int.toNat_natCast, w32_s]
        exact hk _ _ ⟨rfl, hf, hS, all_s hq hp⟩
    · rintro L μ2 ⟨rfl, hf, hS, hq⟩
      have X1 : CX θ T U τ μ2 := CX_fr hX hf (by decide)
      have eT : μ2 T 13 = (tn τ : Nat) := X1.2.2.1.2.1
      rw [x10_10]
      simp (disch := omega) only [x10_0, x10_1, x10_2, x10_3, x10_4, x10_7, x10_8, x10_12, x10_13, x10_16, x10_19, x10_22, x10_23, x10_26, x10_28, x10_29, x10_32, x10_33, x10_34, x10_36, x10_39, x10_42, x10_44, x10_45, x10_48, x10_51, x10_53, ↓reduceIte, Bool.false_eq_true, Nat.reduceAdd, Nat.reduceLT, Nat.reduceLeDiff, Nat.reduceSub, Nat.reduceEqDiff, Int.reduceToNat, Int.reduceEq, Int.reduceLT, Int.reduceLE, Int.reduceAdd, Int.reduceSub, zg, zI, zJ, zR, zst, zkl, zn, zcat, zok, zraw, List.length_cons, List.length_nil, Option.toList, List.nil_append, List.cons_append, true_and, and_true, if_true, if_false, ne_eq, not_true, not_false_eq_true, and_self, true_or, or_true, false_or, or_false, false_and, and_false, b_40 hc, r_40_0 hc, x_41 hc, r_40_1 hc, x_42 hc, r_40_2 hc, x_43 hc, r_40_9 hc, r_40_10 hc, x_44 hc, r_40_11 hc, x_45 hc, tb hT, Tq1 hT, Tq2 hT, tr_0 hT, tr_1 hT, tr_2 hT, tr_3 hT, tr_4 hT, tr_5 hT, tr_6 hT, tr_7 hT, tr_8 hT, tr_9 hT, tr_10 hT, tr_11 hT, tr_12 hT, tx_1 hT, tx_2 hT, tx_3 hT, tx_4 hT, tx_5 hT, tx_6 hT, tx_7 hT, tx_8 hT, tx_9 hT, tx_10 hT, tx_11 hT, tx_12 hT, tx_13 hT, hgT, eT, Int.le_refl]
      have := hQ μ2 hf
      rwa [(fs_nil hq).1] at this
  simp only [x10_0, x10_1, x10_2, x10_3, x10_4, x10_7, x10_8, x10_12, x10_13, x10_16, x10_19, x10_22, x10_23, x10_26, x10_28, x10_29, x10_32, x10_33, x10_34, x10_36, x10_39, x10_42, x10_44, x10_45, x10_48, x10_51, x10_53, ↓reduceIte, Bool.false_eq_true, Nat.reduceAdd, Nat.reduceLT, Nat.reduceLeDiff, Nat.reduceSub, Nat.reduceEqDiff, Int.reduceToNat, Int.reduceEq, Int.reduceLT, Int.reduceLE, Int.reduceAdd, Int.reduceSub, zg, zI, zJ, zR, zst, zkl, zn, zcat, zok, zraw, List.length_cons, List.length_nil, Option.toList, List.nil_append, List.cons_append, true_and, and_true, if_true, if_false, ne_eq, not_true, not_false_eq_true, and_self, true_or, or_true, false_or, or_false, false_and, and_false, b_2 hc, b_3 hc, b_9 hc, b_12 hc, b_26 hc, b_40 hc, b_46 hc, b_47 hc, b_60 hc, b_62 hc, b_63 hc, b_76 hc, b_77 hc, b_90 hc, b_91 hc, b_104 hc, b_107 hc, b_114 hc, b_115 hc, b_122 hc, b_123 hc, b_131 hc]
  exact key 0 _ _ (Nat.zero_le _) ⟨rfl, f1.mono (by decide), hS1, fun q hq => absurd hq (Nat.not_lt_zero _)⟩
/-- first -/
def fiO (τ : zT) (ρ : zF) (w b : Int) : Int := match (List.range 100).find? (fun g => decide (0 < faO τ ρ ((g : Nat) : Int) w)) with
  | some g => if b = 0 then fsO τ ρ ((g : Nat) : Int) w else ((g : Nat) : Int)
  | none => -2
theorem fi_at {b : Int} {i : Nat} (hi : i < 100) (hj : ∀ j, j < i → (decide (0 < faO τ ρ ((j : Nat) : Int) w)) = false) (hP : 0 < faO τ ρ ((i : Nat) : Int) w) : fiO τ ρ w b = if b = 0 then fsO τ ρ ((i : Nat) : Int) w else ((i : Nat) : Int) := by
  unfold fiO
  rw [find_at (p := fun g => decide (0 < faO τ ρ ((g : Nat) : Int) w)) hi hj (decide_eq_true hP)]
theorem fi_no {b : Int} (hj : ∀ j, j < 100 → (decide (0 < faO τ ρ ((j : Nat) : Int) w)) = false) : fiO τ ρ w b = -2 := by
  unfold fiO
  rw [find_no (p := fun g => decide (0 < faO τ ρ ((g : Nat) : Int) w)) hj]
theorem fi_f (h : faO τ ρ g w = 0) : decide (0 < faO τ ρ g w) = false := by rw [h]; rfl
def vFirst (σ : zSt) (w b : Int) : Int := if 0 ≤ w ∧ w ≤ 3 then fiO (sT σ) (gR (sG σ)) w b else -1
theorem kFirst {D : Nat} {w b : Int} {x3 x4 : zV} (h : CS θ T U σ μ) (hd : 7 ≤ D) (hb : b = 0 ∨ b = 1) (hQ : ∀ μ', CL μ μ' → CS θ T U σ μ' → Q (some (vi (vFirst σ w b))) θ μ') : Ex D 115 0 [vr 2, vi w, vi b, x3, x4] [] θ μ Q := by
  have hc := h.1.1.1
  have hd0 : 0 < D := by omega
  unfold vFirst at hQ
  by_cases q0 : 0 ≤ w ∧ w ≤ 3
  · rw [if_pos q0] at hQ
    have key : ∀ i L μ1, i ≤ 100 → (∃ x4 : zV, L = [vr 2, vi w, vi b, vi (i : Nat), x4] ∧ Fr FO μ μ1 ∧ ∀ j, j < i → (decide (0 < faO (sT σ) (gR (sG σ)) ((j : Nat) : Int) w)) = false) → Ex D 115 11 L [] θ μ1 Q := by
      refine Ex_loop (I := fun i L μ1 => ∃ x4 : zV, L = [vr 2, vi w, vi b, vi (i : Nat), x4] ∧ Fr FO μ μ1 ∧ ∀ j, j < i → (decide (0 < faO (sT σ) (gR (sG σ)) ((j : Nat) : Int) w)) = false) 100 ?_ ?_
      · rintro i L μ1 hi ⟨x4, rfl, hf, hj⟩ hk
        have h1 := CS_fr h hf (by decide)
        have i1 : ¬ (100 : Int) ≤ (i : Int) := by omega
        have w1 : i < 2147483647 := by omega
        rw [x115_11]
        simp only [x115_0, x115_1, x115_4, x115_7, x115_8, x115_9, x115_10, x115_12, x115_14, x115_17, x115_18, x115_21, x115_22, x115_25, x115_28, x115_29, x115_30, x115_33, x115_35, x115_37, x115_39, x115_42, x115_43, x115_46, x115_47, x115_50, x115_52, x115_53, x115_56, x115_59, x115_61, ↓reduceIte, Bool.false_eq_true, Nat.reduceAdd, Nat.reduceLT, Nat.reduceLeDiff, Nat.reduceSub, Nat.reduceEqDiff, Int.reduceToNat, Int.reduceEq, Int.reduceLT, Int.reduceLE, Int.reduceAdd, Int.reduceSub, zg, zI, zJ, zR, zst, zkl, zn, zcat, zok, zraw, List.length_cons, List.length_nil, Option.toList, List.nil_append, List.cons_append, true_and, and_true, if_true, if_false, ne_eq, not_true, not_false_eq_true, and_self, true_or, or_true, false_or, or_false, false_and, and_false, b_2 hc, b_3 hc, b_9 hc, b_12 hc, b_26 hc, b_40 hc, b_46 hc, b_47 hc, b_60 hc, b_62 hc, b_63 hc, b_76 hc, b_77 hc, b_90 hc, b_91 hc, b_104 hc, b_107 hc, b_114 hc, b_115 hc, b_122 hc, b_123 hc, b_131 hc, b_2 hc, r_2_0 hc, r_2_1 hc, r_2_2 hc, r_2_3 hc, r_2_4 hc, r_2_5 hc, x_61 hc, n_61 hc, r_2_6 hc, r_2_7 hc, r_2_8 hc, r_2_9 hc, b_46 hc, r_46_0 hc, r_46_1 hc, x_54 hc, r_46_2 hc, x_55 hc, r_46_3 hc, x_56 hc, r_46_4 hc, x_57 hc, r_46_5 hc, x_58 hc, r_46_6 hc, x_59 hc, hd0, i1]
        refine cFirstOf (d := D - 1) h1.1 h1.2.2.1.1 (by omega) (by omega) (fun μ2 hf2 => ?_)
        have hq := hQ μ2 (CL_fr (hf.trans hf2) (by decide)) (CS_fr h (hf.trans hf2) (by decide))
        rcases fs_2 (τ := sT σ) (ρ := gR (sG σ)) (g := ((i : Nat) : Int)) (w := w) with ⟨e1, e2⟩ | ⟨e1, e2⟩
        · simp only [x115_0, x115_1, x115_4, x115_7, x115_8, x115_9, x115_10, x115_12, x115_14, x115_17, x115_18, x115_21, x115_22, x115_25, x115_28, x115_29, x115_30, x115_33, x115_35, x115_37, x115_39, x115_42, x115_43, x115_46, x115_47, x115_50, x115_52, x115_53, x115_56, x115_59, x115_61, ↓reduceIte, Bool.false_eq_true, Nat.reduceAdd, Nat.reduceLT, Nat.reduceLeDiff, Nat.reduceSub, Nat.reduceEqDiff, Int.reduceToNat, Int.reduceEq, Int.reduceLT, Int.reduceLE, Int.reduceAdd, Int.reduceSub, zg, zI, zJ, zR, zst, zkl, zn, zcat, zok, zraw, List.length_cons, List.length_nil, Option.toList, List.nil_append, List.cons_append, true_and, and_true, if_true, if_false, ne_eq, not_true, not_false_eq_true, and_self, true_or, or_true, false_or, or_false, false_and, and_false, b_2 hc, b_3 hc, b_9 hc, b_12 hc, b_26 hc, b_40 hc, b_46 hc, b_47 hc, b_60 hc, b_62 hc, b_63 hc, b_76 hc, b_77 hc, b_90 hc, b_91 hc, b_104 hc, b_107 hc, b_114 hc, b_115 hc, b_122 hc, b_123 hc, b_131 hc, e1, zkl, w32_s w1]
          exact hk _ _ ⟨_, rfl, hf.trans hf2, all_s hj (fi_f e2)⟩
        · rw [fi_at hi hj e2] at hq
          rcases hb with rfl | rfl
          · rw [if_pos rfl] at hq
            simp only [x115_0, x115_1, x115_4, x115_7, x115_8, x115_9, x115_10, x115_12, x115_14, x115_17, x115_18, x115_21, x115_22, x115_25, x115_28, x115_29, x115_30, x115_33, x115_35, x115_37, x115_39, x115_42, x115_43, x115_46, x115_47, x115_50, x115_52, x115_53, x115_56, x115_59, x115_61, ↓reduceIte, Bool.false_eq_true, Nat.reduceAdd, Nat.reduceLT, Nat.reduceLeDiff, Nat.reduceSub, Nat.reduceEqDiff, Int.reduceToNat, Int.reduceEq, Int.reduceLT, Int.reduceLE, Int.reduceAdd, Int.reduceSub, zg, zI, zJ, zR, zst, zkl, zn, zcat, zok, zraw, List.length_cons, List.length_nil, Option.toList, List.nil_append, List.cons_append, true_and, and_true, if_true, if_false, ne_eq, not_true, not_false_eq_true, and_self, true_or, or_true, false_or, or_false, false_and, and_false, b_2 hc, b_3 hc, b_9 hc, b_12 hc, b_26 hc, b_40 hc, b_46 hc, b_47 hc, b_60 hc, b_62 hc, b_63 hc, b_76 hc, b_77 hc, b_90 hc, b_91 hc, b_104 hc, b_107 hc, b_114 hc, b_115 hc, b_122 hc, b_123 hc, b_131 hc, e1, zkl]
            exact hq
          · rw [if_neg (by decide)] at hq
            simp only [x115_0, x115_1, x115_4, x115_7, x115_8, x115_9, x115_10, x115_12, x115_14, x115_17, x115_18, x115_21, x115_22, x115_25, x115_28, x115_29, x115_30, x115_33, x115_35, x115_37, x115_39, x115_42, x115_43, x115_46, x115_47, x115_50, x115_52, x115_53, x115_56, x115_59, x115_61, ↓reduceIte, Bool.false_eq_true, Nat.reduceAdd, Nat.reduceLT, Nat.reduceLeDiff, Nat.reduceSub, Nat.reduceEqDiff, Int.reduceToNat, Int.reduceEq, Int.reduceLT, Int.reduceLE, Int.reduceAdd, Int.reduceSub, zg, zI, zJ, zR, zst, zkl, zn, zcat, zok, zraw, List.length_cons, List.length_nil, Option.toList, List.nil_append, List.cons_append, true_and, and_true, if_true, if_false, ne_eq, not_true, not_false_eq_true, and_self, true_or, or_true, false_or, or_false, false_and, and_false, b_2 hc, b_3 hc, b_9 hc, b_12 hc, b_26 hc, b_40 hc, b_46 hc, b_47 hc, b_60 hc, b_62 hc, b_63 hc, b_76 hc, b_77 hc, b_90 hc, b_91 hc, b_104 hc, b_107 hc, b_114 hc, b_115 hc, b_122 hc, b_123 hc, b_131 hc, e1, zkl]
            exact hq
      · rintro L μ1 ⟨x4, rfl, hf, hj⟩
        have hq := hQ μ1 (CL_fr hf (by decide)) (CS_fr h hf (by decide))
        rw [fi_no hj] at hq
        rw [x115_11]
        simp only [x115_0, x115_1, x115_4, x115_7, x115_8, x115_9, x115_10, x115_12, x115_14, x115_17, x115_18, x115_21, x115_22, x115_25, x115_28, x115_29, x115_30, x115_33, x115_35, x115_37, x115_39, x115_42, x115_43, x115_46, x115_47, x115_50, x115_52, x115_53, x115_56, x115_59, x115_61, ↓reduceIte, Bool.false_eq_true, Nat.reduceAdd, Nat.reduceLT, Nat.reduceLeDiff, Nat.reduceSub, Nat.reduceEqDiff, Int.reduceToNat, Int.reduceEq, Int.reduceLT, Int.reduceLE, Int.reduceAdd, Int.reduceSub, zg, zI, zJ, zR, zst, zkl, zn, zcat, zok, zraw, List.length_cons, List.length_nil, Option.toList, List.nil_append, List.cons_append, true_and, and_true, if_true, if_false, ne_eq, not_true, not_false_eq_true, and_self, true_or, or_true, false_or, or_false, false_and, and_false, b_2 hc, b_3 hc, b_9 hc, b_12 hc, b_26 hc, b_40 hc, b_46 hc, b_47 hc, b_60 hc, b_62 hc, b_63 hc, b_76 hc, b_77 hc, b_90 hc, b_91 hc, b_104 hc, b_107 hc, b_114 hc, b_115 hc, b_122 hc, b_123 hc, b_131 hc, show ((100 : Nat) : Int) = 100 from rfl, Int.le_refl]
        exact hq
    simp only [x115_0, x115_1, x115_4, x115_7, x115_8, x115_9, x115_10, x115_12, x115_14, x115_17, x115_18, x115_21, x115_22, x115_25, x115_28, x115_29, x115_30, x115_33, x115_35, x115_37, x115_39, x115_42, x115_43, x115_46, x115_47, x115_50, x115_52, x115_53, x115_56, x115_59, x115_61, ↓reduceIte, Bool.false_eq_true, Nat.reduceAdd, Nat.reduceLT, Nat.reduceLeDiff, Nat.reduceSub, Nat.reduceEqDiff, Int.reduceToNat, Int.reduceEq, Int.reduceLT, Int.reduceLE, Int.reduceAdd, Int.reduceSub, zg, zI, zJ, zR, zst, zkl, zn, zcat, zok, zraw, List.length_cons, List.length_nil, Option.toList, List.nil_append, List.cons_append, true_and, and_true, if_true, if_false, ne_eq, not_true, not_false_eq_true, and_self, true_or, or_true, false_or, or_false, false_and, and_false, b_2 hc, b_3 hc, b_9 hc, b_12 hc, b_26 hc, b_40 hc, b_46 hc, b_47 hc, b_60 hc, b_62 hc, b_63 hc, b_76 hc, b_77 hc, b_90 hc, b_91 hc, b_104 hc, b_107 hc, b_114 hc, b_115 hc, b_122 hc, b_123 hc, b_131 hc, hd0, cIsWay, if_pos q0]
    exact key 0 _ _ (by omega) ⟨x4, rfl, Fr.refl, fun j hj => absurd hj (Nat.not_lt_zero _)⟩
  · rw [if_neg q0] at hQ
    simp only [x115_0, x115_1, x115_4, x115_7, x115_8, x115_9, x115_10, x115_12, x115_14, x115_17, x115_18, x115_21, x115_22, x115_25, x115_28, x115_29, x115_30, x115_33, x115_35, x115_37, x115_39, x115_42, x115_43, x115_46, x115_47, x115_50, x115_52, x115_53, x115_56, x115_59, x115_61, ↓reduceIte, Bool.false_eq_true, Nat.reduceAdd, Nat.reduceLT, Nat.reduceLeDiff, Nat.reduceSub, Nat.reduceEqDiff, Int.reduceToNat, Int.reduceEq, Int.reduceLT, Int.reduceLE, Int.reduceAdd, Int.reduceSub, zg, zI, zJ, zR, zst, zkl, zn, zcat, zok, zraw, List.length_cons, List.length_nil, Option.toList, List.nil_append, List.cons_append, true_and, and_true, if_true, if_false, ne_eq, not_true, not_false_eq_true, and_self, true_or, or_true, false_or, or_false, false_and, and_false, b_2 hc, b_3 hc, b_9 hc, b_12 hc, b_26 hc, b_40 hc, b_46 hc, b_47 hc, b_60 hc, b_62 hc, b_63 hc, b_76 hc, b_77 hc, b_90 hc, b_91 hc, b_104 hc, b_107 hc, b_114 hc, b_115 hc, b_122 hc, b_123 hc, b_131 hc, hd0, cIsWay, if_neg q0]
    exact hQ μ (fun _ _ => rfl) h
theorem rnM_0 {o : Option Nat} : rnM o = 0 ↔ o = some 0 := by
  cases o with
  | none => simp [rnM]
  | some q => simp [rnM]
theorem rnM_r {o : Option Nat} {r : Nat} : rnM o = (r : Int) ↔ o = some r := by
  cases o with
  | none =>
    constructor
    · intro hh; have hh' : (-1 : Int) = (r : Int) := hh; omega
    · intro hh; cases hh
  | some q =>
    show (q : Int) = (r : Int) ↔ some q = some r
    rw [Option.some.injEq]; omega
theorem rFirst {D : Nat} {w b : Int} {x3 x4 : zV} (h : MS θ σ s μ) (hd : 11 ≤ D) (hb : b = 0 ∨ b = 1) (hQ : ∀ μ', ML2 μ μ' → MS θ σ s μ' → Q (some (vi (vFirst σ w b))) θ μ') : Ex D 230 0 [vr 138, vi w, vi b, x3, x4] [] θ μ Q := by
  have hm := h.1.1
  have hd0 : 0 < D := by omega
  have hn := tn_b h.1.2.1
  unfold vFirst at hQ
  by_cases q0 : 0 ≤ w ∧ w ≤ 3
  · rw [if_pos q0] at hQ
    have key : ∀ i L μ1, i ≤ 100 → (∃ x4 : zV, L = [vr 138, vi w, vi b, vi (i : Nat), x4] ∧ Fr GF μ μ1 ∧ J5 μ μ1 ∧ ∀ j, j < i → (decide (0 < faO (sT σ) (gR (sG σ)) ((j : Nat) : Int) w)) = false) → Ex D 230 13 L [] θ μ1 Q := by
      refine Ex_loop (I := fun i L μ1 => ∃ x4 : zV, L = [vr 138, vi w, vi b, vi (i : Nat), x4] ∧ Fr GF μ μ1 ∧ J5 μ μ1 ∧ ∀ j, j < i → (decide (0 < faO (sT σ) (gR (sG σ)) ((j : Nat) : Int) w)) = false) 100 ?_ ?_
      · rintro i L μ1 hi ⟨x4, rfl, hf, hJ, hj⟩ hk
        have h1 := MS_fr h hf (by decide) hJ.nine
        have i1 : ¬ (100 : Int) ≤ (i : Int) := by omega
        have w1 : i < 2147483647 := by omega
        rw [x230_13]
        simp only [x230_0, x230_1, x230_2, x230_3, x230_6, x230_9, x230_10, x230_11, x230_12, x230_14, x230_16, x230_19, x230_20, x230_21, x230_22, x230_25, x230_28, x230_31, x230_32, x230_35, x230_36, x230_37, x230_38, x230_42, x230_43, x230_46, x230_49, x230_50, x230_53, x230_55, x230_56, x230_59, x230_61, x230_62, x230_65, x230_68, x230_71, x230_74, x230_76, ↓reduceIte, Bool.false_eq_true, Nat.reduceAdd, Nat.reduceLT, Nat.reduceLeDiff, Nat.reduceSub, Nat.reduceEqDiff, Int.reduceToNat, Int.reduceEq, Int.reduceLT, Int.reduceLE, Int.reduceAdd, Int.reduceSub, zg, zI, zJ, zR, zst, zkl, zn, zcat, zok, zraw, List.length_cons, List.length_nil, Option.toList, List.nil_append, List.cons_append, true_and, and_true, if_true, if_false, ne_eq, not_true, not_false_eq_true, and_self, true_or, or_true, false_or, or_false, false_and, and_false, b_138 hm, hd0, i1]
        refine mFall (d := D - 1) (by omega) h1.1 h1.2.2.1.1 (by omega) q0 rfl rfl (fun μ2 hf2 hJ2 hF => ?_)
        have hf12 := hf.trans hf2
        have hJ12 : J5 μ μ2 := fun j a c => (hJ2 j a c).trans (hJ j a c)
        have h2 := MS_fr h hf12 (by decide) hJ12.nine
        have hq := hQ μ2 (MLe_fr hf12 (by decide)) h2
        rcases fs_2 (τ := sT σ) (ρ := gR (sG σ)) (g := ((i : Nat) : Int)) (w := w) with ⟨e1, e2⟩ | ⟨e1, e2⟩
        · simp only [x230_0, x230_1, x230_2, x230_3, x230_6, x230_9, x230_10, x230_11, x230_12, x230_14, x230_16, x230_19, x230_20, x230_21, x230_22, x230_25, x230_28, x230_31, x230_32, x230_35, x230_36, x230_37, x230_38, x230_42, x230_43, x230_46, x230_49, x230_50, x230_53, x230_55, x230_56, x230_59, x230_61, x230_62, x230_65, x230_68, x230_71, x230_74, x230_76, ↓reduceIte, Bool.false_eq_true, Nat.reduceAdd, Nat.reduceLT, Nat.reduceLeDiff, Nat.reduceSub, Nat.reduceEqDiff, Int.reduceToNat, Int.reduceEq, Int.reduceLT, Int.reduceLE, Int.reduceAdd, Int.reduceSub, zg, zI, zJ, zR, zst, zkl, zn, zcat, zok, zraw, List.length_cons, List.length_nil, Option.toList, List.nil_append, List.cons_append, true_and, and_true, if_true, if_false, ne_eq, not_true, not_false_eq_true, and_self, true_or, or_true, false_or, or_false, false_and, and_false, e2, w32_s w1]
          exact hk _ _ ⟨_, rfl, hf12, hJ12, all_s hj (fi_f e2)⟩
        · rw [fi_at hi hj e2] at hq
          have e3 : ¬ faO (sT σ) (gR (sG σ)) ((i : Nat) : Int) w = 0 := fun hh => by rw [hh] at e2; exact absurd e2 (by decide)
          rcases hb with rfl | rfl
          · rw [if_pos rfl] at hq
            -- the first TILE of the first round
            have inner : ∀ t L μ3, t ≤ tn (sT σ) → (L = [vr 138, vi w, vi 0, vi (i : Nat), vi (t : Nat)] ∧ μ3 = μ2 ∧ ∀ q, q < t → giO (sT σ) (gR (sG σ)) (i : Nat) w (gnO (sT σ) (gR (sG σ))) 0 q = false) → Ex D 230 40 L [] θ μ3 Q := by
              refine Ex_loop (I := fun t L μ3 => L = [vr 138, vi w, vi 0, vi (i : Nat), vi (t : Nat)] ∧ μ3 = μ2 ∧ ∀ q, q < t → giO (sT σ) (gR (sG σ)) (i : Nat) w (gnO (sT σ) (gR (sG σ))) 0 q = false) (tn (sT σ)) ?_ ?_
              · rintro t L μ3 ht ⟨rfl, rfl, hq0⟩ hk2
                have c1 : ¬ ((tn (sT σ) : Int) ≤ (t : Int)) := by omega
                have t1 : (0 : Int) ≤ (t : Int) := by omega
                have t2 : (t : Int) < 36 := by omega
                have w2 : t < 2147483647 := by omega
                have e185 : μ3 185 t = rnM (rnO (sT σ) (gR (sG σ)) (i : Nat) w (gnO (sT σ) (gR (sG σ))) 36 t) := hF.2.1 t ht
                rw [x230_40]
                by_cases hp : giO (sT σ) (gR (sG σ)) (i : Nat) w (gnO (sT σ) (gR (sG σ))) 0 t = true
                · have e0 : μ3 185 t = 0 := by rw [e185, rnM_0]; exact (rn_some (by decide) ht (gn_z _ _)).mpr hp
                  have ef := (fs_head ht hq0 hp).1
                  rw [ef] at hq
                  simp only [x230_0, x230_1, x230_2, x230_3, x230_6, x230_9, x230_10, x230_11, x230_12, x230_14, x230_16, x230_19, x230_20, x230_21, x230_22, x230_25, x230_28, x230_31, x230_32, x230_35, x230_36, x230_37, x230_38, x230_42, x230_43, x230_46, x230_49, x230_50, x230_53, x230_55, x230_56, x230_59, x230_61, x230_62, x230_65, x230_68, x230_71, x230_74, x230_76, ↓reduceIte, Bool.false_eq_true, Nat.reduceAdd, Nat.reduceLT, Nat.reduceLeDiff, Nat.reduceSub, Nat.reduceEqDiff, Int.reduceToNat, Int.reduceEq, Int.reduceLT, Int.reduceLE, Int.reduceAdd, Int.reduceSub, zg, zI, zJ, zR, zst, zkl, zn, zcat, zok, zraw, List.length_cons, List.length_nil, Option.toList, List.nil_append, List.cons_append, true_and, and_true, if_true, if_false, ne_eq, not_true, not_false_eq_true, and_self, true_or, or_true, false_or, or_false, false_and, and_false, b_138 hm, hd0, mTiles _ h2.1, c1, r_138_67 hm, x_185 hm t1 t2, Int.toNat_natCast, e0]
                  exact hq
                · have e0 : ¬ μ3 185 t = 0 := by rw [e185, rnM_0]; exact fun hh => hp ((rn_some (by decide) ht (gn_z _ _)).mp hh)
                  simp only [x230_0, x230_1, x230_2, x230_3, x230_6, x230_9, x230_10, x230_11, x230_12, x230_14, x230_16, x230_19, x230_20, x230_21, x230_22, x230_25, x230_28, x230_31, x230_32, x230_35, x230_36, x230_37, x230_38, x230_42, x230_43, x230_46, x230_49, x230_50, x230_53, x230_55, x230_56, x230_59, x230_61, x230_62, x230_65, x230_68, x230_71, x230_74, x230_76, ↓reduceIte, Bool.false_eq_true, Nat.reduceAdd, Nat.reduceLT, Nat.reduceLeDiff, Nat.reduceSub, Nat.reduceEqDiff, Int.reduceToNat, Int.reduceEq, Int.reduceLT, Int.reduceLE, Int.reduceAdd, Int.reduceSub, zg, zI, zJ, zR, zst, zkl, zn, zcat, zok, zraw, List.length_cons, List.length_nil, Option.toList, List.nil_append, List.cons_append, true_and, and_true, if_true, if_false, ne_eq, not_true, not_false_eq_true, and_self, true_or, or_true, false_or, or_false, false_and, and_false, b_138 hm, hd0, mTiles _ h2.1, c1, r_138_67 hm, x_185 hm t1 t2, Int.toNat_natCast, e0, w32_s w2]
                  exact hk2 _ _ ⟨rfl, rfl, all_s hq0 (by rw [Bool.eq_false_iff]; exact hp)⟩
              · rintro L μ3 ⟨rfl, rfl, hq0⟩
                exact absurd (fs_nil hq0).2 e3
            simp only [x230_0, x230_1, x230_2, x230_3, x230_6, x230_9, x230_10, x230_11, x230_12, x230_14, x230_16, x230_19, x230_20, x230_21, x230_22, x230_25, x230_28, x230_31, x230_32, x230_35, x230_36, x230_37, x230_38, x230_42, x230_43, x230_46, x230_49, x230_50, x230_53, x230_55, x230_56, x230_59, x230_61, x230_62, x230_65, x230_68, x230_71, x230_74, x230_76, ↓reduceIte, Bool.false_eq_true, Nat.reduceAdd, Nat.reduceLT, Nat.reduceLeDiff, Nat.reduceSub, Nat.reduceEqDiff, Int.reduceToNat, Int.reduceEq, Int.reduceLT, Int.reduceLE, Int.reduceAdd, Int.reduceSub, zg, zI, zJ, zR, zst, zkl, zn, zcat, zok, zraw, List.length_cons, List.length_nil, Option.toList, List.nil_append, List.cons_append, true_and, and_true, if_true, if_false, ne_eq, not_true, not_false_eq_true, and_self, true_or, or_true, false_or, or_false, false_and, and_false, e3]
            exact inner 0 _ _ (Nat.zero_le _) ⟨rfl, rfl, fun q hq => absurd hq (Nat.not_lt_zero _)⟩
          · rw [if_neg (by decide)] at hq
            simp only [x230_0, x230_1, x230_2, x230_3, x230_6, x230_9, x230_10, x230_11, x230_12, x230_14, x230_16, x230_19, x230_20, x230_21, x230_22, x230_25, x230_28, x230_31, x230_32, x230_35, x230_36, x230_37, x230_38, x230_42, x230_43, x230_46, x230_49, x230_50, x230_53, x230_55, x230_56, x230_59, x230_61, x230_62, x230_65, x230_68, x230_71, x230_74, x230_76, ↓reduceIte, Bool.false_eq_true, Nat.reduceAdd, Nat.reduceLT, Nat.reduceLeDiff, Nat.reduceSub, Nat.reduceEqDiff, Int.reduceToNat, Int.reduceEq, Int.reduceLT, Int.reduceLE, Int.reduceAdd, Int.reduceSub, zg, zI, zJ, zR, zst, zkl, zn, zcat, zok, zraw, List.length_cons, List.length_nil, Option.toList, List.nil_append, List.cons_append, true_and, and_true, if_true, if_false, ne_eq, not_true, not_false_eq_true, and_self, true_or, or_true, false_or, or_false, false_and, and_false, e3]
            exact hq
      · rintro L μ1 ⟨x4, rfl, hf, hJ, hj⟩
        have hq := hQ μ1 (MLe_fr hf (by decide)) (MS_fr h hf (by decide) hJ.nine)
        rw [fi_no hj] at hq
        rw [x230_13]
        simp only [x230_0, x230_1, x230_2, x230_3, x230_6, x230_9, x230_10, x230_11, x230_12, x230_14, x230_16, x230_19, x230_20, x230_21, x230_22, x230_25, x230_28, x230_31, x230_32, x230_35, x230_36, x230_37, x230_38, x230_42, x230_43, x230_46, x230_49, x230_50, x230_53, x230_55, x230_56, x230_59, x230_61, x230_62, x230_65, x230_68, x230_71, x230_74, x230_76, ↓reduceIte, Bool.false_eq_true, Nat.reduceAdd, Nat.reduceLT, Nat.reduceLeDiff, Nat.reduceSub, Nat.reduceEqDiff, Int.reduceToNat, Int.reduceEq, Int.reduceLT, Int.reduceLE, Int.reduceAdd, Int.reduceSub, zg, zI, zJ, zR, zst, zkl, zn, zcat, zok, zraw, List.length_cons, List.length_nil, Option.toList, List.nil_append, List.cons_append, true_and, and_true, if_true, if_false, ne_eq, not_true, not_false_eq_true, and_self, true_or, or_true, false_or, or_false, false_and, and_false, show ((100 : Nat) : Int) = 100 from rfl, Int.le_refl]
        exact hq
    simp only [x230_0, x230_1, x230_2, x230_3, x230_6, x230_9, x230_10, x230_11, x230_12, x230_14, x230_16, x230_19, x230_20, x230_21, x230_22, x230_25, x230_28, x230_31, x230_32, x230_35, x230_36, x230_37, x230_38, x230_42, x230_43, x230_46, x230_49, x230_50, x230_53, x230_55, x230_56, x230_59, x230_61, x230_62, x230_65, x230_68, x230_71, x230_74, x230_76, ↓reduceIte, Bool.false_eq_true, Nat.reduceAdd, Nat.reduceLT, Nat.reduceLeDiff, Nat.reduceSub, Nat.reduceEqDiff, Int.reduceToNat, Int.reduceEq, Int.reduceLT, Int.reduceLE, Int.reduceAdd, Int.reduceSub, zg, zI, zJ, zR, zst, zkl, zn, zcat, zok, zraw, List.length_cons, List.length_nil, Option.toList, List.nil_append, List.cons_append, true_and, and_true, if_true, if_false, ne_eq, not_true, not_false_eq_true, and_self, true_or, or_true, false_or, or_false, false_and, and_false, hd0, mIn, if_pos q0]
    exact key 0 _ _ (by omega) ⟨x4, rfl, Fr.refl, fun _ _ _ => rfl, fun j hj => absurd hj (Nat.not_lt_zero _)⟩
  · rw [if_neg q0] at hQ
    simp only [x230_0, x230_1, x230_2, x230_3, x230_6, x230_9, x230_10, x230_11, x230_12, x230_14, x230_16, x230_19, x230_20, x230_21, x230_22, x230_25, x230_28, x230_31, x230_32, x230_35, x230_36, x230_37, x230_38, x230_42, x230_43, x230_46, x230_49, x230_50, x230_53, x230_55, x230_56, x230_59, x230_61, x230_62, x230_65, x230_68, x230_71, x230_74, x230_76, ↓reduceIte, Bool.false_eq_true, Nat.reduceAdd, Nat.reduceLT, Nat.reduceLeDiff, Nat.reduceSub, Nat.reduceEqDiff, Int.reduceToNat, Int.reduceEq, Int.reduceLT, Int.reduceLE, Int.reduceAdd, Int.reduceSub, zg, zI, zJ, zR, zst, zkl, zn, zcat, zok, zraw, List.length_cons, List.length_nil, Option.toList, List.nil_append, List.cons_append, true_and, and_true, if_true, if_false, ne_eq, not_true, not_false_eq_true, and_self, true_or, or_true, false_or, or_false, false_and, and_false, hd0, mIn, if_neg q0]
    exact hQ μ (fun _ _ => rfl) h
/-- fallen -/
def vFallen (σ : zSt) (g w i : Int) : Int := if (0 ≤ g ∧ g ≤ 99) ∧ (0 ≤ w ∧ w ≤ 3) then (if 0 ≤ i ∧ i < faO (sT σ) (gR (sG σ)) g w then (((alO (sT σ) (gR (sG σ)) g w (gnO (sT σ) (gR (sG σ)))).getD i.toNat 0 : Nat) : Int) else -1) else -1
theorem kFallen {D : Nat} {g w i : Int} (h : CS θ T U σ μ) (hd : 7 ≤ D) (hQ : ∀ μ', CL μ μ' → CS θ T U σ μ' → Q (some (vi (vFallen σ g w i))) θ μ') : Ex D 117 0 [vr 2, vi g, vi w, vi i] [] θ μ Q := by
  have hc := h.1.1.1
  have hd0 : 0 < D := by omega
  have hn := tn_b h.1.2.1
  unfold vFallen at hQ
  by_cases q0 : 0 ≤ g ∧ g ≤ 99
  · by_cases q1 : 0 ≤ w ∧ w ≤ 3
    · rw [if_pos ⟨q0, q1⟩] at hQ
      simp only [x117_0, x117_1, x117_4, x117_7, x117_8, x117_11, x117_14, x117_15, x117_16, x117_17, x117_20, x117_21, x117_24, x117_27, x117_28, x117_29, x117_30, x117_33, x117_34, x117_37, x117_38, x117_39, x117_42, x117_45, x117_48, x117_49, x117_52, x117_53, x117_56, x117_59, x117_60, x117_61, ↓reduceIte, Bool.false_eq_true, Nat.reduceAdd, Nat.reduceLT, Nat.reduceLeDiff, Nat.reduceSub, Nat.reduceEqDiff, Int.reduceToNat, Int.reduceEq, Int.reduceLT, Int.reduceLE, Int.reduceAdd, Int.reduceSub, zg, zI, zJ, zR, zst, zkl, zn, zcat, zok, zraw, List.length_cons, List.length_nil, Option.toList, List.nil_append, List.cons_append, true_and, and_true, if_true, if_false, ne_eq, not_true, not_false_eq_true, and_self, true_or, or_true, false_or, or_false, false_and, and_false, b_2 hc, b_3 hc, b_9 hc, b_12 hc, b_26 hc, b_40 hc, b_46 hc, b_47 hc, b_60 hc, b_62 hc, b_63 hc, b_76 hc, b_77 hc, b_90 hc, b_91 hc, b_104 hc, b_107 hc, b_114 hc, b_115 hc, b_122 hc, b_123 hc, b_131 hc, b_2 hc, r_2_0 hc, r_2_1 hc, r_2_2 hc, r_2_3 hc, r_2_4 hc, r_2_5 hc, x_61 hc, n_61 hc, r_2_6 hc, r_2_7 hc, r_2_8 hc, r_2_9 hc, b_46 hc, r_46_0 hc, r_46_1 hc, x_54 hc, r_46_2 hc, x_55 hc, r_46_3 hc, x_56 hc, r_46_4 hc, x_57 hc, r_46_5 hc, x_58 hc, r_46_6 hc, x_59 hc, hd0, cIsGust, cIsWay, if_pos q0, if_pos q1]
      refine cRun (d := D - 1) (ρ := gR (sG σ)) h.1 h.2.2.1.1 (by omega) q0 q1 (Or.inl rfl) (fun μ1 hf hR => ?_)
      have hq := hQ μ1 (CL_fr hf (by decide)) (CS_fr h hf (by decide))
      have e3 : μ1 40 3 = faO (sT σ) (gR (sG σ)) g w := hR.1
      have efo : faO (sT σ) (gR (sG σ)) g w = ((foO (sT σ) (gR (sG σ)) g w (gnO (sT σ) (gR (sG σ))) : Nat) : Int) := rfl
      have h36 := fo_b (τ := sT σ) (ρ := gR (sG σ)) (g := g) (w := w) (l0 := gnO (sT σ) (gR (sG σ))) hn.2 (gn_z _ _)
      by_cases c0 : i < 0
      · rw [if_neg (by intro hh; omega)] at hq
        simp only [x117_0, x117_1, x117_4, x117_7, x117_8, x117_11, x117_14, x117_15, x117_16, x117_17, x117_20, x117_21, x117_24, x117_27, x117_28, x117_29, x117_30, x117_33, x117_34, x117_37, x117_38, x117_39, x117_42, x117_45, x117_48, x117_49, x117_52, x117_53, x117_56, x117_59, x117_60, x117_61, ↓reduceIte, Bool.false_eq_true, Nat.reduceAdd, Nat.reduceLT, Nat.reduceLeDiff, Nat.reduceSub, Nat.reduceEqDiff, Int.reduceToNat, Int.reduceEq, Int.reduceLT, Int.reduceLE, Int.reduceAdd, Int.reduceSub, zg, zI, zJ, zR, zst, zkl, zn, zcat, zok, zraw, List.length_cons, List.length_nil, Option.toList, List.nil_append, List.cons_append, true_and, and_true, if_true, if_false, ne_eq, not_true, not_false_eq_true, and_self, true_or, or_true, false_or, or_false, false_and, and_false, b_2 hc, b_3 hc, b_9 hc, b_12 hc, b_26 hc, b_40 hc, b_46 hc, b_47 hc, b_60 hc, b_62 hc, b_63 hc, b_76 hc, b_77 hc, b_90 hc, b_91 hc, b_104 hc, b_107 hc, b_114 hc, b_115 hc, b_122 hc, b_123 hc, b_131 hc, b_2 hc, r_2_0 hc, r_2_1 hc, r_2_2 hc, r_2_3 hc, r_2_4 hc, r_2_5 hc, x_61 hc, n_61 hc, r_2_6 hc, r_2_7 hc, r_2_8 hc, r_2_9 hc, b_40 hc, r_40_0 hc, x_41 hc, r_40_1 hc, x_42 hc, r_40_2 hc, x_43 hc, r_40_9 hc, r_40_10 hc, x_44 hc, r_40_11 hc, x_45 hc, c0]
        exact hq
      · by_cases c1 : i < faO (sT σ) (gR (sG σ)) g w
        · rw [if_pos ⟨by omega, c1⟩] at hq
          obtain ⟨N, rfl⟩ : ∃ N : Nat, i = (N : Int) := ⟨i.toNat, by omega⟩
          have hN : N < (alO (sT σ) (gR (sG σ)) g w (gnO (sT σ) (gR (sG σ)))).length := by
            rw [efo] at c1; exact Int.ofNat_lt.mp c1
          have hN36 : N < 36 := by unfold foO at h36; omega
          have i1 : (0 : Int) ≤ (N : Int) := by omega
          have i2 : (N : Int) < 36 := by omega
          have e41 := hR.2.2.1 N hN
          rw [Int.toNat_natCast, List.getD_eq_getElem?_getD, List.getElem?_eq_getElem hN, Option.getD_some] at hq
          simp only [x117_0, x117_1, x117_4, x117_7, x117_8, x117_11, x117_14, x117_15, x117_16, x117_17, x117_20, x117_21, x117_24, x117_27, x117_28, x117_29, x117_30, x117_33, x117_34, x117_37, x117_38, x117_39, x117_42, x117_45, x117_48, x117_49, x117_52, x117_53, x117_56, x117_59, x117_60, x117_61, ↓reduceIte, Bool.false_eq_true, Nat.reduceAdd, Nat.reduceLT, Nat.reduceLeDiff, Nat.reduceSub, Nat.reduceEqDiff, Int.reduceToNat, Int.reduceEq, Int.reduceLT, Int.reduceLE, Int.reduceAdd, Int.reduceSub, zg, zI, zJ, zR, zst, zkl, zn, zcat, zok, zraw, List.length_cons, List.length_nil, Option.toList, List.nil_append, List.cons_append, true_and, and_true, if_true, if_false, ne_eq, not_true, not_false_eq_true, and_self, true_or, or_true, false_or, or_false, false_and, and_false, b_2 hc, r_2_3 hc, b_40 hc, r_40_0 hc, x_41 hc i1 i2, c0, e3, c1, Int.toNat_natCast, e41]
          exact hq
        · rw [if_neg (fun hh => c1 hh.2)] at hq
          simp only [x117_0, x117_1, x117_4, x117_7, x117_8, x117_11, x117_14, x117_15, x117_16, x117_17, x117_20, x117_21, x117_24, x117_27, x117_28, x117_29, x117_30, x117_33, x117_34, x117_37, x117_38, x117_39, x117_42, x117_45, x117_48, x117_49, x117_52, x117_53, x117_56, x117_59, x117_60, x117_61, ↓reduceIte, Bool.false_eq_true, Nat.reduceAdd, Nat.reduceLT, Nat.reduceLeDiff, Nat.reduceSub, Nat.reduceEqDiff, Int.reduceToNat, Int.reduceEq, Int.reduceLT, Int.reduceLE, Int.reduceAdd, Int.reduceSub, zg, zI, zJ, zR, zst, zkl, zn, zcat, zok, zraw, List.length_cons, List.length_nil, Option.toList, List.nil_append, List.cons_append, true_and, and_true, if_true, if_false, ne_eq, not_true, not_false_eq_true, and_self, true_or, or_true, false_or, or_false, false_and, and_false, b_2 hc, r_2_3 hc, b_40 hc, c0, e3, c1]
          exact hq
    · rw [if_neg (fun hh => q1 hh.2)] at hQ
      simp only [x117_0, x117_1, x117_4, x117_7, x117_8, x117_11, x117_14, x117_15, x117_16, x117_17, x117_20, x117_21, x117_24, x117_27, x117_28, x117_29, x117_30, x117_33, x117_34, x117_37, x117_38, x117_39, x117_42, x117_45, x117_48, x117_49, x117_52, x117_53, x117_56, x117_59, x117_60, x117_61, ↓reduceIte, Bool.false_eq_true, Nat.reduceAdd, Nat.reduceLT, Nat.reduceLeDiff, Nat.reduceSub, Nat.reduceEqDiff, Int.reduceToNat, Int.reduceEq, Int.reduceLT, Int.reduceLE, Int.reduceAdd, Int.reduceSub, zg, zI, zJ, zR, zst, zkl, zn, zcat, zok, zraw, List.length_cons, List.length_nil, Option.toList, List.nil_append, List.cons_append, true_and, and_true, if_true, if_false, ne_eq, not_true, not_false_eq_true, and_self, true_or, or_true, false_or, or_false, false_and, and_false, hd0, cIsGust, cIsWay, if_pos q0, if_neg q1]
      exact hQ μ (fun _ _ => rfl) h
  · rw [if_neg (fun hh => q0 hh.1)] at hQ
    simp only [x117_0, x117_1, x117_4, x117_7, x117_8, x117_11, x117_14, x117_15, x117_16, x117_17, x117_20, x117_21, x117_24, x117_27, x117_28, x117_29, x117_30, x117_33, x117_34, x117_37, x117_38, x117_39, x117_42, x117_45, x117_48, x117_49, x117_52, x117_53, x117_56, x117_59, x117_60, x117_61, ↓reduceIte, Bool.false_eq_true, Nat.reduceAdd, Nat.reduceLT, Nat.reduceLeDiff, Nat.reduceSub, Nat.reduceEqDiff, Int.reduceToNat, Int.reduceEq, Int.reduceLT, Int.reduceLE, Int.reduceAdd, Int.reduceSub, zg, zI, zJ, zR, zst, zkl, zn, zcat, zok, zraw, List.length_cons, List.length_nil, Option.toList, List.nil_append, List.cons_append, true_and, and_true, if_true, if_false, ne_eq, not_true, not_false_eq_true, and_self, true_or, or_true, false_or, or_false, false_and, and_false, hd0, cIsGust, if_neg q0]
    exact hQ μ (fun _ _ => rfl) h
/-- the one that stands at i in ORDER -/
theorem mInOrder {d i : Nat} {x2 x3 x4 : zV} {l0 : Nat → Int} (hd : 1 ≤ d) (h : MX θ τ s μ) (hF : FU τ ρ g w l0 μ) (hz : ∀ t, l0 t = 0 ∨ l0 t = 1) (hi : i < (alO τ ρ g w l0).length) (hQ : Q (some (vi (((alO τ ρ g w l0).getD i 0 : Nat) : Int))) θ μ) : Ex d 232 0 [vr 138, vi (i : Nat), x2, x3, x4] [] θ μ Q := by
  have hm := h.1
  have hd0 : 0 < d := by omega
  have hn := tn_b h.2.1
  obtain ⟨R, hR1, hR2⟩ := en_ex (τ := τ) (ρ := ρ) (g := g) (w := w) (l0 := l0) hz
  have hR36 : R ≤ 36 := by omega
  have e69 : μ 138 69 = (R : Nat) := by rw [hF.1, RO_en hR2 hR36]
  obtain ⟨n, hn1⟩ : ∃ n, ∀ _ : Unit, (alO τ ρ g w l0).length = n := ⟨_, fun _ => rfl⟩
  have hi' : i < n := by rw [← hn1 ()]; exact hi
  have hn36 := fo_b (τ := τ) (ρ := ρ) (g := g) (w := w) (l0 := l0) hn.2 hz
  unfold foO at hn36
  rw [hn1 ()] at hn36
  clear hi
  have inner : ∀ (r : Nat), r < R → (∀ (z : Nat) (y4 : zV), z + (orO τ ρ g w l0 (r + 1)).length = i → Ex d 232 54 [vr 138, vi (i : Nat), vi (z : Nat), vi (r : Nat), y4] [] θ μ Q) → ∀ t L μ1, t ≤ tn τ → (∃ z : Nat, L = [vr 138, vi (i : Nat), vi (z : Nat), vi (r : Nat), vi (t : Nat)] ∧ μ1 = μ ∧ z + (prO2 τ ρ g w l0 r t).length = i) → Ex d 232 15 L [] θ μ1 Q := by
    intro r hr hend
    refine Ex_loop (I := fun t L μ1 => ∃ z : Nat, L = [vr 138, vi (i : Nat), vi (z : Nat), vi (r : Nat), vi (t : Nat)] ∧ μ1 = μ ∧ z + (prO2 τ ρ g w l0 r t).length = i) (tn τ) ?_ ?_
    · rintro t L μ1 ht ⟨z, rfl, rfl, hz2⟩ hk
      have c1 : ¬ ((tn τ : Int) ≤ (t : Int)) := by omega
      have t1 : (0 : Int) ≤ (t : Int) := by omega
      have t2 : (t : Int) < 36 := by omega
      have w2 : t < 2147483647 := by omega
      have e185 : μ1 185 t = rnM (rnO τ ρ g w l0 36 t) := hF.2.1 t ht
      have es := pr_s (τ := τ) (ρ := ρ) (g := g) (w := w) (l0 := l0) r t
      rw [x232_15]
      by_cases hp : giO τ ρ g w l0 r t = true
      · rw [if_pos hp] at es
        have e0 : μ1 185 t = (r : Int) := by rw [e185, rnM_r]; exact (rn_some (by omega) ht hz).mpr hp
        by_cases hz0 : z = 0
        · subst hz0
          obtain ⟨rest, hrest⟩ := pr_pre (τ := τ) (ρ := ρ) (g := g) (w := w) (l0 := l0) (r := r) (k := t + 1) (by omega) (by omega)
          rw [es] at hrest
          have ei : (alO τ ρ g w l0).getD i 0 = t := by
            have e1 : (prO2 τ ρ g w l0 r t).length = i := by omega
            have : (alO τ ρ g w l0)[i]? = some t := by
              rw [hrest, List.append_assoc, List.getElem?_append_right (by omega), e1, Nat.sub_self]
              rfl
            rw [List.getD_eq_getElem?_getD, this]; rfl
          rw [ei] at hQ
          simp only [x232_0, x232_1, x232_2, x232_3, x232_5, x232_6, x232_9, x232_12, x232_13, x232_17, x232_18, x232_21, x232_24, x232_25, x232_28, x232_30, x232_31, x232_32, x232_35, x232_38, x232_39, x232_42, x232_44, x232_45, x232_48, x232_51, x232_54, x232_57, x232_60, x232_61, ↓reduceIte, Bool.false_eq_true, Nat.reduceAdd, Nat.reduceLT, Nat.reduceLeDiff, Nat.reduceSub, Nat.reduceEqDiff, Int.reduceToNat, Int.reduceEq, Int.reduceLT, Int.reduceLE, Int.reduceAdd, Int.reduceSub, zg, zI, zJ, zR, zst, zkl, zn, zcat, zok, zraw, List.length_cons, List.length_nil, Option.toList, List.nil_append, List.cons_append, true_and, and_true, if_true, if_false, ne_eq, not_true, not_false_eq_true, and_self, true_or, or_true, false_or, or_false, false_and, and_false, b_138 hm, hd0, mTiles _ h, c1, r_138_67 hm, x_185 hm t1 t2, Int.toNat_natCast, e0, Int.natCast_zero]
          exact hQ
        · have c2 : ¬ ((z : Nat) : Int) = 0 := by omega
          have l1 : -2147483648 ≤ ((z - 1 : Nat) : Int) := by omega
          have l2 : ((z - 1 : Nat) : Int) ≤ 2147483647 := by omega
          have ez : ((z : Nat) : Int) + -1 = ((z - 1 : Nat) : Int) := by omega
          simp only [x232_0, x232_1, x232_2, x232_3, x232_5, x232_6, x232_9, x232_12, x232_13, x232_17, x232_18, x232_21, x232_24, x232_25, x232_28, x232_30, x232_31, x232_32, x232_35, x232_38, x232_39, x232_42, x232_44, x232_45, x232_48, x232_51, x232_54, x232_57, x232_60, x232_61, ↓reduceIte, Bool.false_eq_true, Nat.reduceAdd, Nat.reduceLT, Nat.reduceLeDiff, Nat.reduceSub, Nat.reduceEqDiff, Int.reduceToNat, Int.reduceEq, Int.reduceLT, Int.reduceLE, Int.reduceAdd, Int.reduceSub, zg, zI, zJ, zR, zst, zkl, zn, zcat, zok, zraw, List.length_cons, List.length_nil, Option.toList, List.nil_append, List.cons_append, true_and, and_true, if_true, if_false, ne_eq, not_true, not_false_eq_true, and_self, true_or, or_true, false_or, or_false, false_and, and_false, b_138 hm, hd0, mTiles _ h, c1, r_138_67 hm, x_185 hm t1 t2, Int.toNat_natCast, e0, c2, w32_i l1 l2, ez, w32_s w2]
          exact hk _ _ ⟨z - 1, rfl, rfl, by rw [es]; simp; omega⟩
      · rw [if_neg hp, List.append_nil] at es
        have e0 : ¬ μ1 185 t = (r : Int) := by rw [e185, rnM_r]; exact fun hh => hp ((rn_some (by omega) ht hz).mp hh)
        simp only [x232_0, x232_1, x232_2, x232_3, x232_5, x232_6, x232_9, x232_12, x232_13, x232_17, x232_18, x232_21, x232_24, x232_25, x232_28, x232_30, x232_31, x232_32, x232_35, x232_38, x232_39, x232_42, x232_44, x232_45, x232_48, x232_51, x232_54, x232_57, x232_60, x232_61, ↓reduceIte, Bool.false_eq_true, Nat.reduceAdd, Nat.reduceLT, Nat.reduceLeDiff, Nat.reduceSub, Nat.reduceEqDiff, Int.reduceToNat, Int.reduceEq, Int.reduceLT, Int.reduceLE, Int.reduceAdd, Int.reduceSub, zg, zI, zJ, zR, zst, zkl, zn, zcat, zok, zraw, List.length_cons, List.length_nil, Option.toList, List.nil_append, List.cons_append, true_and, and_true, if_true, if_false, ne_eq, not_true, not_false_eq_true, and_self, true_or, or_true, false_or, or_false, false_and, and_false, b_138 hm, hd0, mTiles _ h, c1, r_138_67 hm, x_185 hm t1 t2, Int.toNat_natCast, e0, w32_s w2]
        exact hk _ _ ⟨z, rfl, rfl, by rw [es]; exact hz2⟩
    · rintro L μ1 ⟨z, rfl, rfl, hz2⟩
      rw [pr_n] at hz2
      have := hend z (vi (tn τ : Nat)) hz2
      rw [x232_15]
      simp only [x232_0, x232_1, x232_2, x232_3, x232_5, x232_6, x232_9, x232_12, x232_13, x232_17, x232_18, x232_21, x232_24, x232_25, x232_28, x232_30, x232_31, x232_32, x232_35, x232_38, x232_39, x232_42, x232_44, x232_45, x232_48, x232_51, x232_57, x232_60, x232_61, ↓reduceIte, Bool.false_eq_true, Nat.reduceAdd, Nat.reduceLT, Nat.reduceLeDiff, Nat.reduceSub, Nat.reduceEqDiff, Int.reduceToNat, Int.reduceEq, Int.reduceLT, Int.reduceLE, Int.reduceAdd, Int.reduceSub, zg, zI, zJ, zR, zst, zkl, zn, zcat, zok, zraw, List.length_cons, List.length_nil, Option.toList, List.nil_append, List.cons_append, true_and, and_true, if_true, if_false, ne_eq, not_true, not_false_eq_true, and_self, true_or, or_true, false_or, or_false, false_and, and_false, b_138 hm, hd0, mTiles _ h, Int.le_refl]
      exact this
  have key : ∀ r L μ1, r ≤ R → (∃ (z : Nat) (y4 : zV), L = [vr 138, vi (i : Nat), vi (z : Nat), vi (r : Nat), y4] ∧ μ1 = μ ∧ z + (orO τ ρ g w l0 r).length = i) → Ex d 232 4 L [] θ μ1 Q := by
    refine Ex_loop (I := fun r L μ1 => ∃ (z : Nat) (y4 : zV), L = [vr 138, vi (i : Nat), vi (z : Nat), vi (r : Nat), y4] ∧ μ1 = μ ∧ z + (orO τ ρ g w l0 r).length = i) R ?_ ?_
    · rintro r L μ1 hr ⟨z, y4, rfl, rfl, hz2⟩ hk
      have c1 : ¬ ((R : Nat) : Int) ≤ (r : Int) := by omega
      have w1 : r < 2147483647 := by omega
      have := inner r hr (fun z y4 hz3 => by
        simp only [x232_0, x232_1, x232_2, x232_3, x232_5, x232_6, x232_9, x232_12, x232_13, x232_17, x232_18, x232_21, x232_24, x232_25, x232_28, x232_30, x232_31, x232_32, x232_35, x232_38, x232_39, x232_42, x232_44, x232_45, x232_48, x232_51, x232_54, x232_57, x232_60, x232_61, ↓reduceIte, Bool.false_eq_true, Nat.reduceAdd, Nat.reduceLT, Nat.reduceLeDiff, Nat.reduceSub, Nat.reduceEqDiff, Int.reduceToNat, Int.reduceEq, Int.reduceLT, Int.reduceLE, Int.reduceAdd, Int.reduceSub, zg, zI, zJ, zR, zst, zkl, zn, zcat, zok, zraw, List.length_cons, List.length_nil, Option.toList, List.nil_append, List.cons_append, true_and, and_true, if_true, if_false, ne_eq, not_true, not_false_eq_true, and_self, true_or, or_true, false_or, or_false, false_and, and_false, zkl, w32_s w1]
        exact hk _ _ ⟨z, _, rfl, rfl, hz3⟩) 0 _ _ (Nat.zero_le _) ⟨z, rfl, rfl, by rw [pr_0]; exact hz2⟩
      rw [x232_4]
      simp only [x232_0, x232_1, x232_2, x232_3, x232_5, x232_6, x232_9, x232_12, x232_13, x232_17, x232_18, x232_21, x232_24, x232_25, x232_28, x232_30, x232_31, x232_32, x232_35, x232_38, x232_39, x232_42, x232_44, x232_45, x232_48, x232_51, x232_54, x232_57, x232_60, x232_61, ↓reduceIte, Bool.false_eq_true, Nat.reduceAdd, Nat.reduceLT, Nat.reduceLeDiff, Nat.reduceSub, Nat.reduceEqDiff, Int.reduceToNat, Int.reduceEq, Int.reduceLT, Int.reduceLE, Int.reduceAdd, Int.reduceSub, zg, zI, zJ, zR, zst, zkl, zn, zcat, zok, zraw, List.length_cons, List.length_nil, Option.toList, List.nil_append, List.cons_append, true_and, and_true, if_true, if_false, ne_eq, not_true, not_false_eq_true, and_self, true_or, or_true, false_or, or_false, false_and, and_false, b_138 hm, e69, c1, zkl]
      exact this
    · rintro L μ1 ⟨z, y4, rfl, rfl, hz2⟩
      have : alO τ ρ g w l0 = orO τ ρ g w l0 R := or_36 hR2 hR36
      have e := hn1 ()
      rw [this] at e
      omega
  have := key 0 _ _ (Nat.zero_le _) ⟨i, x4, rfl, rfl, rfl⟩
  simp only [x232_0, x232_1, x232_2, x232_3, x232_5, x232_6, x232_9, x232_12, x232_13, x232_17, x232_18, x232_21, x232_24, x232_25, x232_28, x232_30, x232_31, x232_32, x232_35, x232_38, x232_39, x232_42, x232_44, x232_45, x232_48, x232_51, x232_54, x232_57, x232_60, x232_61, ↓reduceIte, Bool.false_eq_true, Nat.reduceAdd, Nat.reduceLT, Nat.reduceLeDiff, Nat.reduceSub, Nat.reduceEqDiff, Int.reduceToNat, Int.reduceEq, Int.reduceLT, Int.reduceLE, Int.reduceAdd, Int.reduceSub, zg, zI, zJ, zR, zst, zkl, zn, zcat, zok, zraw, List.length_cons, List.length_nil, Option.toList, List.nil_append, List.cons_append, true_and, and_true, if_true, if_false, ne_eq, not_true, not_false_eq_true, and_self, true_or, or_true, false_or, or_false, false_and, and_false, zkl]
  exact this
theorem rFallen {D : Nat} {g w i : Int} {x4 : zV} (h : MS θ σ s μ) (hd : 11 ≤ D) (hQ : ∀ μ', ML2 μ μ' → MS θ σ s μ' → Q (some (vi (vFallen σ g w i))) θ μ') : Ex D 233 0 [vr 138, vi g, vi w, vi i, x4] [] θ μ Q := by
  have hm := h.1.1
  have hd0 : 0 < D := by omega
  have hd1 : 0 < D - 1 := by omega
  have hn := tn_b h.1.2.1
  unfold vFallen at hQ
  by_cases q0 : (0 ≤ g ∧ g ≤ 99) ∧ (0 ≤ w ∧ w ≤ 3)
  · rw [if_pos q0] at hQ
    simp only [x233_0, x233_1, x233_2, x233_5, x233_8, x233_9, x233_10, x233_11, x233_12, x233_13, x233_16, x233_18, x233_19, x233_20, x233_22, x233_23, x233_24, x233_27, x233_30, x233_31, x233_32, x233_35, x233_38, x233_39, ↓reduceIte, Bool.false_eq_true, Nat.reduceAdd, Nat.reduceLT, Nat.reduceLeDiff, Nat.reduceSub, Nat.reduceEqDiff, Int.reduceToNat, Int.reduceEq, Int.reduceLT, Int.reduceLE, Int.reduceAdd, Int.reduceSub, zg, zI, zJ, zR, zst, zkl, zn, zcat, zok, zraw, List.length_cons, List.length_nil, Option.toList, List.nil_append, List.cons_append, true_and, and_true, if_true, if_false, ne_eq, not_true, not_false_eq_true, and_self, true_or, or_true, false_or, or_false, false_and, and_false, b_138 hm, hd0, mIsGust _ hd1, if_pos q0]
    refine mFall (d := D - 1) (by omega) h.1 h.2.2.1.1 q0.1 q0.2 rfl rfl (fun μ1 f1 j1 hF => ?_)
    have h1 := MS_fr h f1 (by decide) j1.nine
    have hq := hQ μ1 (MLe_fr f1 (by decide)) h1
    obtain ⟨n, hn0⟩ : ∃ n, n = foO (sT σ) (gR (sG σ)) g w (gnO (sT σ) (gR (sG σ))) := ⟨_, rfl⟩
    have efo : faO (sT σ) (gR (sG σ)) g w = ((n : Nat) : Int) := by rw [hn0]; rfl
    have h36 := fo_b (τ := sT σ) (ρ := gR (sG σ)) (g := g) (w := w) (l0 := gnO (sT σ) (gR (sG σ))) hn.2 (gn_z _ _)
    rw [← hn0] at h36
    rw [efo] at hq ⊢
    have l1 : -2147483648 ≤ ((n : Nat) : Int) - 1 := by omega
    have l2 : ((n : Nat) : Int) - 1 ≤ 2147483647 := by omega
    by_cases c0 : 0 ≤ i ∧ i ≤ ((n : Nat) : Int) - 1
    · rw [if_pos (by omega)] at hq
      obtain ⟨N, rfl⟩ : ∃ N : Nat, i = (N : Int) := ⟨i.toNat, by omega⟩
      have hN : N < (alO (sT σ) (gR (sG σ)) g w (gnO (sT σ) (gR (sG σ)))).length := by
        have : (alO (sT σ) (gR (sG σ)) g w (gnO (sT σ) (gR (sG σ)))).length = n := hn0.symm
        omega
      rw [Int.toNat_natCast] at hq
      simp only [x233_0, x233_1, x233_2, x233_5, x233_8, x233_9, x233_10, x233_11, x233_12, x233_13, x233_16, x233_18, x233_19, x233_20, x233_22, x233_23, x233_24, x233_27, x233_30, x233_31, x233_32, x233_35, x233_38, x233_39, ↓reduceIte, Bool.false_eq_true, Nat.reduceAdd, Nat.reduceLT, Nat.reduceLeDiff, Nat.reduceSub, Nat.reduceEqDiff, Int.reduceToNat, Int.reduceEq, Int.reduceLT, Int.reduceLE, Int.reduceAdd, Int.reduceSub, zg, zI, zJ, zR, zst, zkl, zn, zcat, zok, zraw, List.length_cons, List.length_nil, Option.toList, List.nil_append, List.cons_append, true_and, and_true, if_true, if_false, ne_eq, not_true, not_false_eq_true, and_self, true_or, or_true, false_or, or_false, false_and, and_false, b_138 hm, hd0, w32_i l1 l2, mIn, if_pos c0]
      refine mInOrder (d := D - 1) (by omega) h1.1 hF (gn_z _ _) hN ?_
      simp only [x233_0, x233_1, x233_2, x233_5, x233_8, x233_9, x233_10, x233_11, x233_12, x233_13, x233_16, x233_18, x233_19, x233_20, x233_22, x233_23, x233_24, x233_27, x233_30, x233_31, x233_32, x233_35, x233_38, x233_39, ↓reduceIte, Bool.false_eq_true, Nat.reduceAdd, Nat.reduceLT, Nat.reduceLeDiff, Nat.reduceSub, Nat.reduceEqDiff, Int.reduceToNat, Int.reduceEq, Int.reduceLT, Int.reduceLE, Int.reduceAdd, Int.reduceSub, zg, zI, zJ, zR, zst, zkl, zn, zcat, zok, zraw, List.length_cons, List.length_nil, Option.toList, List.nil_append, List.cons_append, true_and, and_true, if_true, if_false, ne_eq, not_true, not_false_eq_true, and_self, true_or, or_true, false_or, or_false, false_and, and_false]
      exact hq
    · rw [if_neg (by omega)] at hq
      simp only [x233_0, x233_1, x233_2, x233_5, x233_8, x233_9, x233_10, x233_11, x233_12, x233_13, x233_16, x233_18, x233_19, x233_20, x233_22, x233_23, x233_24, x233_27, x233_30, x233_31, x233_32, x233_35, x233_38, x233_39, ↓reduceIte, Bool.false_eq_true, Nat.reduceAdd, Nat.reduceLT, Nat.reduceLeDiff, Nat.reduceSub, Nat.reduceEqDiff, Int.reduceToNat, Int.reduceEq, Int.reduceLT, Int.reduceLE, Int.reduceAdd, Int.reduceSub, zg, zI, zJ, zR, zst, zkl, zn, zcat, zok, zraw, List.length_cons, List.length_nil, Option.toList, List.nil_append, List.cons_append, true_and, and_true, if_true, if_false, ne_eq, not_true, not_false_eq_true, and_self, true_or, or_true, false_or, or_false, false_and, and_false, b_138 hm, hd0, w32_i l1 l2, mIn, if_neg c0]
      exact hq
  · rw [if_neg q0] at hQ
    simp only [x233_0, x233_1, x233_2, x233_5, x233_8, x233_9, x233_10, x233_11, x233_12, x233_13, x233_16, x233_18, x233_19, x233_20, x233_22, x233_23, x233_24, x233_27, x233_30, x233_31, x233_32, x233_35, x233_38, x233_39, ↓reduceIte, Bool.false_eq_true, Nat.reduceAdd, Nat.reduceLT, Nat.reduceLeDiff, Nat.reduceSub, Nat.reduceEqDiff, Int.reduceToNat, Int.reduceEq, Int.reduceLT, Int.reduceLE, Int.reduceAdd, Int.reduceSub, zg, zI, zJ, zR, zst, zkl, zn, zcat, zok, zraw, List.length_cons, List.length_nil, Option.toList, List.nil_append, List.cons_append, true_and, and_true, if_true, if_false, ne_eq, not_true, not_false_eq_true, and_self, true_or, or_true, false_or, or_false, false_and, and_false, b_138 hm, hd0, mIsGust _ hd1, if_neg q0]
    exact hQ μ (fun _ _ => rfl) h
end FI
