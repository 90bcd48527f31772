/-! CALLS that change the roof (64e.felt) -/
section CR
variable {θ : zS} {T U : Nat} {σ : zSt} {Q : Option zV → zS → zM → Prop} {μ : zM} {s : Nat}
/-- felt -/
def feS (σ : zSt) (b : Int) : zSt := stR σ ((gR (sG σ)).1, (gR (sG σ)).2.1, b)
theorem kFelt {d : Nat} {b : Int} {x2 : zV} (h : CS θ T U σ μ) (hd : 7 ≤ d) (hb : b = 0 ∨ b = 1) (hQ : ∀ μ', CL μ μ' → CS θ T U (feS σ b) μ' → Q (some (vi (gR (sG σ)).2.2)) θ μ') : Ex d 110 0 [vr 2, vi b, x2] [] θ μ Q := by
  have hc := h.1.1.1
  have hd0 : 0 < d := by omega
  have hF := h.2.2.1.1
  obtain ⟨_, hw, r1, r2, r3, r4⟩ := hF
  have e47 : μ 47 3 = (gR (sG σ)).2.2 := r4
  simp (disch := omega) only [x110_0, x110_1, x110_4, x110_7, x110_10, x110_11, x110_12, x110_15, x110_18, x110_19, x110_22, x110_23, x110_26, x110_27, ↓reduceIte, Bool.false_eq_true, Nat.reduceAdd, Nat.reduceLT, Nat.reduceLeDiff, Nat.reduceSub, Nat.reduceEqDiff, Int.reduceToNat, Int.reduceEq, Int.reduceLT, Int.reduceLE, Int.reduceAdd, Int.reduceSub, zg, zI, zJ, zR, zst, zkl, zn, zcat, zok, zraw, List.length_cons, List.length_nil, Option.toList, List.nil_append, List.cons_append, true_and, and_true, if_true, if_false, ne_eq, not_true, not_false_eq_true, and_self, true_or, or_true, false_or, or_false, false_and, and_false, b_2 hc, b_3 hc, b_9 hc, b_12 hc, b_26 hc, b_40 hc, b_46 hc, b_47 hc, b_60 hc, b_62 hc, b_63 hc, b_76 hc, b_77 hc, b_90 hc, b_91 hc, b_104 hc, b_107 hc, b_114 hc, b_115 hc, b_122 hc, b_123 hc, b_131 hc, b_2 hc, r_2_0 hc, r_2_1 hc, r_2_2 hc, r_2_3 hc, r_2_4 hc, r_2_5 hc, x_61 hc, n_61 hc, r_2_6 hc, r_2_7 hc, r_2_8 hc, r_2_9 hc, b_46 hc, r_46_0 hc, r_46_1 hc, x_54 hc, r_46_2 hc, x_55 hc, r_46_3 hc, x_56 hc, r_46_4 hc, x_57 hc, r_46_5 hc, x_58 hc, r_46_6 hc, x_59 hc, b_47 hc, r_47_0 hc, x_48 hc, n_48 hc, x_48 hc, n_48 hc, r_48_0 hc, x_49 hc, r_48_1 hc, x_50 hc, r_48_2 hc, x_51 hc, r_48_3 hc, x_52 hc, r_48_4 hc, x_53 hc, hd0, e47, ua_eq]
  refine ⟨hb, ?_⟩
  refine cForgetPlans (d := d - 1) hc (by omega) ?_
  intro μ1 hf p9 p10 p4
  simp (disch := omega) only [x110_0, x110_1, x110_4, x110_7, x110_10, x110_11, x110_12, x110_15, x110_18, x110_19, x110_22, x110_23, x110_26, x110_27, ↓reduceIte, Bool.false_eq_true, Nat.reduceAdd, Nat.reduceLT, Nat.reduceLeDiff, Nat.reduceSub, Nat.reduceEqDiff, Int.reduceToNat, Int.reduceEq, Int.reduceLT, Int.reduceLE, Int.reduceAdd, Int.reduceSub, zg, zI, zJ, zR, zst, zkl, zn, zcat, zok, zraw, List.length_cons, List.length_nil, Option.toList, List.nil_append, List.cons_append, true_and, and_true, if_true, if_false, ne_eq, not_true, not_false_eq_true, and_self, true_or, or_true, false_or, or_false, false_and, and_false, b_2 hc, b_3 hc, b_9 hc, b_12 hc, b_26 hc, b_40 hc, b_46 hc, b_47 hc, b_60 hc, b_62 hc, b_63 hc, b_76 hc, b_77 hc, b_90 hc, b_91 hc, b_104 hc, b_107 hc, b_114 hc, b_115 hc, b_122 hc, b_123 hc, b_131 hc]
  have g47 : μ1 47 = zup (μ 47) 3 b := by rw [hf 47 (by decide)]; exact us_same
  refine ⟨hw.2.2, hQ μ1 (fun a ha => by rw [hf a (by simp; omega), us_ne (by omega)]) (CS_roof h (fun a ha => by rw [hf a (fun hh => ha (by simp at hh ⊢; omega)), us_ne (fun hh => ha (by simp [hh]))]) ⟨hw.1, hw.2.1, hb⟩ ⟨?_, ?_, ?_, ?_⟩ ?_ p9 p10 p4)⟩
  · rw [g47, zup_ne (by omega)]; exact r1
  · intro a q ha hq
    rw [hf (47 + (a + 2)) (by simp; omega), us_ne (by omega)]; exact r2 a q ha hq
  · rw [g47, zup_ne (by omega)]; exact r3
  · rw [g47, zup_same rfl]
  · rw [g47, zup_ne (by omega)]; exact h.2.2.1.2.1
theorem rFelt {d : Nat} {b : Int} {x2 : zV} (h : MS θ σ s μ) (hd : 11 ≤ d) (hb : b = 0 ∨ b = 1) (hQ : ∀ μ', ML2 μ μ' → MS θ (feS σ b) s μ' → Q (some (vi (gR (sG σ)).2.2)) θ μ') : Ex d 211 0 [vr 138, vi b, x2] [] θ μ Q := by
  have hm := h.1.1
  obtain ⟨⟨hw, ha, hbb, hc⟩, hd'⟩ := h.2.2.1.1
  have e57 : μ 138 57 = (gR (sG σ)).2.2 := hc
  have hq := hQ (us μ 138 (zup (μ 138) 57 b)) (fun a ha => us_ne (by omega)) (MS_roof h (Fr.us (by simp) Fr.refl) (fun j hj => by rw [us_same, zup_ne hj]) ⟨⟨⟨hw.1, hw.2.1, hb⟩, fun t ht => by rw [us_ne (by omega), us_ne (by omega), us_ne (by omega), us_ne (by omega)]; exact ha t ht, by rw [us_ne (by omega)]; exact hbb, by rw [us_same, zup_same rfl]⟩, by rw [us_ne (by omega)]; exact hd'⟩)
  rcases hb with rfl | rfl
  all_goals
    simp (disch := omega) only [x211_0, x211_1, x211_4, x211_5, x211_6, x211_7, x211_10, x211_11, ↓reduceIte, Bool.false_eq_true, Nat.reduceAdd, Nat.reduceLT, Nat.reduceLeDiff, Nat.reduceSub, Nat.reduceEqDiff, Int.reduceToNat, Int.reduceEq, Int.reduceLT, Int.reduceLE, Int.reduceAdd, Int.reduceSub, zg, zI, zJ, zR, zst, zkl, zn, zcat, zok, zraw, List.length_cons, List.length_nil, Option.toList, List.nil_append, List.cons_append, true_and, and_true, if_true, if_false, ne_eq, not_true, not_false_eq_true, and_self, true_or, or_true, false_or, or_false, false_and, and_false, b_138 hm, e57, ua_eq]
    exact ⟨hw.2.2, hq⟩
/-- door -/
def vDoor (σ : zSt) (k n : Int) : Int := if (0 ≤ k ∧ k < (tD (sT σ) : Int)) ∧ 0 ≤ n ∧ n ≤ 2 then (if n = 0 then tS (sT σ) k.toNat else if n = 1 then tZ (sT σ) k.toNat else (gR (sG σ)).2.1 k.toNat) else -1
theorem kDoor {d : Nat} {k n : Int} (h : CS θ T U σ μ) (hd : 7 ≤ d) (hQ : Q (some (vi (vDoor σ k n))) θ μ) : Ex d 111 0 [vr 2, vi k, vi n] [] θ μ Q := by
  have hc := h.1.1.1
  have hT := h.1.1.2.1
  have h2T := h.1.1.2.2.2.2.1
  have hd0 : 0 < d := by omega
  have hD : tD (sT σ) ≤ 6 := h.1.2.1.2.2.2.2.1
  unfold vDoor at hQ
  by_cases q0 : 0 ≤ k ∧ k < (tD (sT σ) : Int)
  · obtain ⟨N, rfl⟩ : ∃ N : Nat, k = (N : Int) := ⟨k.toNat, by omega⟩
    have hN : N < tD (sT σ) := by omega
    by_cases q1 : 0 ≤ n ∧ n ≤ 2
    · rw [if_pos ⟨q0, q1⟩, Int.toNat_natCast] at hQ
      have e0 := (h.1.2.2.1.2.2.2.1 N hN).1
      have e1 := (h.1.2.2.1.2.2.2.1 N hN).2
      have e2 := h.2.2.1.1.2.2.2.2.1 N hN
      obtain hk | hk | hk : n = 0 ∨ n = 1 ∨ n = 2 := by omega
      all_goals
        subst hk
        simp (disch := omega) only [x111_0, x111_1, x111_2, x111_5, x111_8, x111_9, x111_10, x111_11, x111_36, x111_37, x111_40, x111_43, x111_44, x111_45, x111_46, x111_47, x111_50, x111_53, x111_54, x111_55, x111_56, x111_57, x111_60, x111_63, x111_66, x111_67, x111_68, x111_69, x111_70, x111_71, x111_72, ↓reduceIte, Bool.false_eq_true, Nat.reduceAdd, Nat.reduceLT, Nat.reduceLeDiff, Nat.reduceSub, Nat.reduceEqDiff, Int.reduceToNat, Int.reduceEq, Int.reduceLT, Int.reduceLE, Int.reduceAdd, Int.reduceSub, zg, zI, zJ, zR, zst, zkl, zn, zcat, zok, zraw, List.length_cons, List.length_nil, Option.toList, List.nil_append, List.cons_append, true_and, and_true, if_true, if_false, ne_eq, not_true, not_false_eq_true, and_self, true_or, or_true, false_or, or_false, false_and, and_false, b_2 hc, b_3 hc, b_9 hc, b_12 hc, b_26 hc, b_40 hc, b_46 hc, b_47 hc, b_60 hc, b_62 hc, b_63 hc, b_76 hc, b_77 hc, b_90 hc, b_91 hc, b_104 hc, b_107 hc, b_114 hc, b_115 hc, b_122 hc, b_123 hc, b_131 hc, b_2 hc, r_2_0 hc, r_2_1 hc, r_2_2 hc, r_2_3 hc, r_2_4 hc, r_2_5 hc, x_61 hc, n_61 hc, r_2_6 hc, r_2_7 hc, r_2_8 hc, r_2_9 hc, b_46 hc, r_46_0 hc, r_46_1 hc, x_54 hc, r_46_2 hc, x_55 hc, r_46_3 hc, x_56 hc, r_46_4 hc, x_57 hc, r_46_5 hc, x_58 hc, r_46_6 hc, x_59 hc, tb hT, Tq1 hT, Tq2 hT, tr_0 hT, tr_1 hT, tr_2 hT, tr_3 hT, tr_4 hT, tr_5 hT, tr_6 hT, tr_7 hT, tr_8 hT, tr_9 hT, tr_10 hT, tr_11 hT, tr_12 hT, tx_1 hT, tx_2 hT, tx_3 hT, tx_4 hT, tx_5 hT, tx_6 hT, tx_7 hT, tx_8 hT, tx_9 hT, tx_10 hT, tx_11 hT, tx_12 hT, tx_13 hT, b_47 hc, r_47_0 hc, x_48 hc, n_48 hc, x_48 hc, n_48 hc, r_48_0 hc, x_49 hc, r_48_1 hc, x_50 hc, r_48_2 hc, x_51 hc, r_48_3 hc, x_52 hc, r_48_4 hc, x_53 hc, cIsDoor _ h.1, hd0, q0, h2T, Int.toNat_natCast, e0, e1, e2] at hQ ⊢
        exact hQ
    · rw [if_neg (by omega)] at hQ
      have k0 : ¬ n = 0 := by omega
      have k1 : ¬ n = 1 := by omega
      have k2 : ¬ n = 2 := by omega
      simp (disch := omega) only [x111_0, x111_1, x111_2, x111_5, x111_8, x111_9, x111_10, x111_11, x111_36, x111_37, x111_40, x111_43, x111_44, x111_45, x111_46, x111_47, x111_50, x111_53, x111_54, x111_55, x111_56, x111_57, x111_60, x111_63, x111_66, x111_67, x111_68, x111_69, x111_70, x111_71, x111_72, ↓reduceIte, Bool.false_eq_true, Nat.reduceAdd, Nat.reduceLT, Nat.reduceLeDiff, Nat.reduceSub, Nat.reduceEqDiff, Int.reduceToNat, Int.reduceEq, Int.reduceLT, Int.reduceLE, Int.reduceAdd, Int.reduceSub, zg, zI, zJ, zR, zst, zkl, zn, zcat, zok, zraw, List.length_cons, List.length_nil, Option.toList, List.nil_append, List.cons_append, true_and, and_true, if_true, if_false, ne_eq, not_true, not_false_eq_true, and_self, true_or, or_true, false_or, or_false, false_and, and_false, b_2 hc, b_3 hc, b_9 hc, b_12 hc, b_26 hc, b_40 hc, b_46 hc, b_47 hc, b_60 hc, b_62 hc, b_63 hc, b_76 hc, b_77 hc, b_90 hc, b_91 hc, b_104 hc, b_107 hc, b_114 hc, b_115 hc, b_122 hc, b_123 hc, b_131 hc, b_2 hc, r_2_0 hc, r_2_1 hc, r_2_2 hc, r_2_3 hc, r_2_4 hc, r_2_5 hc, x_61 hc, n_61 hc, r_2_6 hc, r_2_7 hc, r_2_8 hc, r_2_9 hc, b_46 hc, r_46_0 hc, r_46_1 hc, x_54 hc, r_46_2 hc, x_55 hc, r_46_3 hc, x_56 hc, r_46_4 hc, x_57 hc, r_46_5 hc, x_58 hc, r_46_6 hc, x_59 hc, tb hT, Tq1 hT, Tq2 hT, tr_0 hT, tr_1 hT, tr_2 hT, tr_3 hT, tr_4 hT, tr_5 hT, tr_6 hT, tr_7 hT, tr_8 hT, tr_9 hT, tr_10 hT, tr_11 hT, tr_12 hT, tx_1 hT, tx_2 hT, tx_3 hT, tx_4 hT, tx_5 hT, tx_6 hT, tx_7 hT, tx_8 hT, tx_9 hT, tx_10 hT, tx_11 hT, tx_12 hT, tx_13 hT, b_47 hc, r_47_0 hc, x_48 hc, n_48 hc, x_48 hc, n_48 hc, r_48_0 hc, x_49 hc, r_48_1 hc, x_50 hc, r_48_2 hc, x_51 hc, r_48_3 hc, x_52 hc, r_48_4 hc, x_53 hc, cIsDoor _ h.1, hd0, q0, k0, k1, k2]
      exact hQ
  · rw [if_neg (by omega)] at hQ
    simp (disch := omega) only [x111_0, x111_1, x111_2, x111_5, x111_8, x111_9, x111_10, x111_11, x111_36, x111_37, x111_40, x111_43, x111_44, x111_45, x111_46, x111_47, x111_50, x111_53, x111_54, x111_55, x111_56, x111_57, x111_60, x111_63, x111_66, x111_67, x111_68, x111_69, x111_70, x111_71, x111_72, ↓reduceIte, Bool.false_eq_true, Nat.reduceAdd, Nat.reduceLT, Nat.reduceLeDiff, Nat.reduceSub, Nat.reduceEqDiff, Int.reduceToNat, Int.reduceEq, Int.reduceLT, Int.reduceLE, Int.reduceAdd, Int.reduceSub, zg, zI, zJ, zR, zst, zkl, zn, zcat, zok, zraw, List.length_cons, List.length_nil, Option.toList, List.nil_append, List.cons_append, true_and, and_true, if_true, if_false, ne_eq, not_true, not_false_eq_true, and_self, true_or, or_true, false_or, or_false, false_and, and_false, b_2 hc, b_3 hc, b_9 hc, b_12 hc, b_26 hc, b_40 hc, b_46 hc, b_47 hc, b_60 hc, b_62 hc, b_63 hc, b_76 hc, b_77 hc, b_90 hc, b_91 hc, b_104 hc, b_107 hc, b_114 hc, b_115 hc, b_122 hc, b_123 hc, b_131 hc, b_2 hc, r_2_0 hc, r_2_1 hc, r_2_2 hc, r_2_3 hc, r_2_4 hc, r_2_5 hc, x_61 hc, n_61 hc, r_2_6 hc, r_2_7 hc, r_2_8 hc, r_2_9 hc, b_46 hc, r_46_0 hc, r_46_1 hc, x_54 hc, r_46_2 hc, x_55 hc, r_46_3 hc, x_56 hc, r_46_4 hc, x_57 hc, r_46_5 hc, x_58 hc, r_46_6 hc, x_59 hc, tb hT, Tq1 hT, Tq2 hT, tr_0 hT, tr_1 hT, tr_2 hT, tr_3 hT, tr_4 hT, tr_5 hT, tr_6 hT, tr_7 hT, tr_8 hT, tr_9 hT, tr_10 hT, tr_11 hT, tr_12 hT, tx_1 hT, tx_2 hT, tx_3 hT, tx_4 hT, tx_5 hT, tx_6 hT, tx_7 hT, tx_8 hT, tx_9 hT, tx_10 hT, tx_11 hT, tx_12 hT, tx_13 hT, b_47 hc, r_47_0 hc, x_48 hc, n_48 hc, x_48 hc, n_48 hc, r_48_0 hc, x_49 hc, r_48_1 hc, x_50 hc, r_48_2 hc, x_51 hc, r_48_3 hc, x_52 hc, r_48_4 hc, x_53 hc, cIsDoor _ h.1, hd0, q0]
    exact hQ
theorem dr_ix {s N D : Nat} (hs : s ≤ 1) (hN : N < D) (hD : D ≤ 6) : (0 ≤ ((6 * s + N : Nat) : Int) ∧ ((6 * s + N : Nat) : Int) < 12) ∧ (0 ≤ (N : Int) ∧ (N : Int) < 6) ∧ w32 (6 * (s : Int)) = ((6 * s : Nat) : Int) ∧ w32 (((6 * s : Nat) : Int) + (N : Int)) = ((6 * s + N : Nat) : Int) := by
  refine ⟨by omega, by omega, ?_, ?_⟩
  · rw [w32_i (by omega) (by omega)]; omega
  · rw [w32_i (by omega) (by omega)]; omega
theorem rDoor {d : Nat} {k n : Int} (h : MS θ σ s μ) (hd : 11 ≤ d) (hQ : Q (some (vi (vDoor σ k n))) θ μ) : Ex d 212 0 [vr 138, vi k, vi n] [] θ μ Q := by
  have hm := h.1.1
  have hd0 : 0 < d := by omega
  unfold vDoor at hQ
  by_cases q0 : 0 ≤ k ∧ k < (tD (sT σ) : Int)
  · obtain ⟨N, rfl⟩ : ∃ N : Nat, k = (N : Int) := ⟨k.toNat, by omega⟩
    have hN : N < tD (sT σ) := by omega
    by_cases q1 : 0 ≤ n ∧ n ≤ 2
    · rw [if_pos ⟨q0, q1⟩, Int.toNat_natCast] at hQ
      obtain hk | hk | hk : n = 0 ∨ n = 1 ∨ n = 2 := by omega
      · subst hk
        obtain ⟨⟨i1, i2⟩, ⟨i3, i4⟩, a1, a2⟩ := dr_ix h.1.2.2.2.2 hN h.1.2.1.2.2.2.2.1
        have e0 := (h.1.2.2.1.2.1.2 N hN).1
        have h18 := h.1.2.2.2.1
        simp only [x212_0, x212_1, x212_2, x212_5, x212_8, x212_9, x212_10, x212_11, x212_36, x212_37, x212_40, x212_42, x212_43, x212_46, x212_47, x212_48, x212_49, x212_50, x212_51, x212_52, x212_55, x212_57, x212_58, x212_61, x212_62, x212_63, x212_64, x212_65, x212_66, x212_67, x212_70, x212_71, x212_72, x212_75, x212_76, x212_79, x212_80, x212_81, x212_82, ↓reduceIte, Bool.false_eq_true, Nat.reduceAdd, Nat.reduceLT, Nat.reduceLeDiff, Nat.reduceSub, Nat.reduceEqDiff, Int.reduceToNat, Int.reduceEq, Int.reduceLT, Int.reduceLE, Int.reduceAdd, Int.reduceSub, zg, zI, zJ, zR, zst, zkl, zn, zcat, zok, zraw, List.length_cons, List.length_nil, Option.toList, List.nil_append, List.cons_append, true_and, and_true, if_true, if_false, ne_eq, not_true, not_false_eq_true, and_self, true_or, or_true, false_or, or_false, false_and, and_false, b_138 hm, r_138_33 hm, mIsDoor (d := d - 1) h.1 (Nat.le_sub_one_of_lt (Nat.lt_of_lt_of_le (by decide) hd)), hd0, q0, h18, a1, a2, Int.toNat_natCast, e0, x_158 hm i1 i2] at hQ ⊢
        exact hQ
      · subst hk
        obtain ⟨⟨i1, i2⟩, ⟨i3, i4⟩, a1, a2⟩ := dr_ix h.1.2.2.2.2 hN h.1.2.1.2.2.2.2.1
        have e0 := (h.1.2.2.1.2.1.2 N hN).2.1
        have h18 := h.1.2.2.2.1
        simp only [x212_0, x212_1, x212_2, x212_5, x212_8, x212_9, x212_10, x212_11, x212_36, x212_37, x212_40, x212_42, x212_43, x212_46, x212_47, x212_48, x212_49, x212_50, x212_51, x212_52, x212_55, x212_57, x212_58, x212_61, x212_62, x212_63, x212_64, x212_65, x212_66, x212_67, x212_70, x212_71, x212_72, x212_75, x212_76, x212_79, x212_80, x212_81, x212_82, ↓reduceIte, Bool.false_eq_true, Nat.reduceAdd, Nat.reduceLT, Nat.reduceLeDiff, Nat.reduceSub, Nat.reduceEqDiff, Int.reduceToNat, Int.reduceEq, Int.reduceLT, Int.reduceLE, Int.reduceAdd, Int.reduceSub, zg, zI, zJ, zR, zst, zkl, zn, zcat, zok, zraw, List.length_cons, List.length_nil, Option.toList, List.nil_append, List.cons_append, true_and, and_true, if_true, if_false, ne_eq, not_true, not_false_eq_true, and_self, true_or, or_true, false_or, or_false, false_and, and_false, b_138 hm, r_138_34 hm, mIsDoor (d := d - 1) h.1 (Nat.le_sub_one_of_lt (Nat.lt_of_lt_of_le (by decide) hd)), hd0, q0, h18, a1, a2, Int.toNat_natCast, e0, x_159 hm i1 i2] at hQ ⊢
        exact hQ
      · subst hk
        obtain ⟨⟨i1, i2⟩, ⟨i3, i4⟩, a1, a2⟩ := dr_ix h.1.2.2.2.2 hN h.1.2.1.2.2.2.2.1
        have e0 := h.2.2.1.1.1.2.2.1 N hN
        have hw := h.2.1.2.1.1.2.1 N hN
        rcases hw with z | z <;> simp only [x212_0, x212_1, x212_2, x212_5, x212_8, x212_9, x212_10, x212_11, x212_36, x212_37, x212_40, x212_42, x212_43, x212_46, x212_47, x212_48, x212_49, x212_50, x212_51, x212_52, x212_55, x212_57, x212_58, x212_61, x212_62, x212_63, x212_64, x212_65, x212_66, x212_67, x212_70, x212_71, x212_72, x212_75, x212_76, x212_79, x212_80, x212_81, x212_82, ↓reduceIte, Bool.false_eq_true, Nat.reduceAdd, Nat.reduceLT, Nat.reduceLeDiff, Nat.reduceSub, Nat.reduceEqDiff, Int.reduceToNat, Int.reduceEq, Int.reduceLT, Int.reduceLE, Int.reduceAdd, Int.reduceSub, zg, zI, zJ, zR, zst, zkl, zn, zcat, zok, zraw, List.length_cons, List.length_nil, Option.toList, List.nil_append, List.cons_append, true_and, and_true, if_true, if_false, ne_eq, not_true, not_false_eq_true, and_self, true_or, or_true, false_or, or_false, false_and, and_false, b_138 hm, r_138_56 hm, n_177 hm, mIsDoor (d := d - 1) h.1 (Nat.le_sub_one_of_lt (Nat.lt_of_lt_of_le (by decide) hd)), hd0, q0, Int.toNat_natCast, e0, z, x_177 hm i3 i4] at hQ ⊢ <;> exact hQ
    · rw [if_neg (fun hh => q1 hh.2)] at hQ
      have k0 : ¬ n = 0 := by omega
      have k1 : ¬ n = 1 := by omega
      have k2 : ¬ n = 2 := by omega
      simp (disch := omega) only [x212_0, x212_1, x212_2, x212_5, x212_8, x212_9, x212_10, x212_11, x212_36, x212_37, x212_40, x212_42, x212_43, x212_46, x212_47, x212_48, x212_49, x212_50, x212_51, x212_52, x212_55, x212_57, x212_58, x212_61, x212_62, x212_63, x212_64, x212_65, x212_66, x212_67, x212_70, x212_71, x212_72, x212_75, x212_76, x212_79, x212_80, x212_81, x212_82, ↓reduceIte, Bool.false_eq_true, Nat.reduceAdd, Nat.reduceLT, Nat.reduceLeDiff, Nat.reduceSub, Nat.reduceEqDiff, Int.reduceToNat, Int.reduceEq, Int.reduceLT, Int.reduceLE, Int.reduceAdd, Int.reduceSub, zg, zI, zJ, zR, zst, zkl, zn, zcat, zok, zraw, List.length_cons, List.length_nil, Option.toList, List.nil_append, List.cons_append, true_and, and_true, if_true, if_false, ne_eq, not_true, not_false_eq_true, and_self, true_or, or_true, false_or, or_false, false_and, and_false, b_138 hm, mIsDoor h.1, hd0, q0, k0, k1, k2]
      exact hQ
  · rw [if_neg (fun hh => q0 hh.1)] at hQ
    simp (disch := omega) only [x212_0, x212_1, x212_2, x212_5, x212_8, x212_9, x212_10, x212_11, x212_36, x212_37, x212_40, x212_42, x212_43, x212_46, x212_47, x212_48, x212_49, x212_50, x212_51, x212_52, x212_55, x212_57, x212_58, x212_61, x212_62, x212_63, x212_64, x212_65, x212_66, x212_67, x212_70, x212_71, x212_72, x212_75, x212_76, x212_79, x212_80, x212_81, x212_82, ↓reduceIte, Bool.false_eq_true, Nat.reduceAdd, Nat.reduceLT, Nat.reduceLeDiff, Nat.reduceSub, Nat.reduceEqDiff, Int.reduceToNat, Int.reduceEq, Int.reduceLT, Int.reduceLE, Int.reduceAdd, Int.reduceSub, zg, zI, zJ, zR, zst, zkl, zn, zcat, zok, zraw, List.length_cons, List.length_nil, Option.toList, List.nil_append, List.cons_append, true_and, and_true, if_true, if_false, ne_eq, not_true, not_false_eq_true, and_self, true_or, or_true, false_or, or_false, false_and, and_false, b_138 hm, mIsDoor h.1, hd0, q0]
    exact hQ
end CR
