/-! CALLS that change the roof; small askings -/
def stR (σ : zSt) (ρ : zF) : zSt := (σ.1, (ρ, σ.2.1.2), σ.2.2)
section CR
variable {θ : zS} {T U : Nat} {σ : zSt} {Q : Option zV → zS → zM → Prop} {μ : zM} {s : Nat}
theorem wfS_roof {ρ : zF} (h : wfS σ) (hr : wfF (sT σ) ρ) : wfS (stR σ ρ) := by
  obtain ⟨hw, ⟨_, hy, hcar, hu⟩, hl, hv, ht, hm⟩ := h
  exact ⟨hw, ⟨hr, hy, hcar, hu⟩, hl, hv, ht, hm⟩
theorem CS_roof {μ' : zM} {ρ : zF} (h : CS θ T U σ μ) (hf : Fr [47, 49, 50, 51, 52, 53, 104, 122] μ μ') (hr : wfF (sT σ) ρ) (hR : RC (sT σ) ρ 47 μ') (hb : 0 ≤ μ' 47 2 ∧ μ' 47 2 < 64)
    (h9 : μ' 104 9 = -1) (h10 : μ' 104 10 = -1) (h4 : μ' 122 4 = 0) : CS θ T U (stR σ ρ) μ' := by
  obtain ⟨hX, hw, ⟨⟨r1, r2, r3⟩, hb0, hy, hcar, hu⟩, hk, ht, hl, hv, htp, hp⟩ := h
  have e : ∀ a, a ∉ [47, 49, 50, 51, 52, 53, 104, 122] → μ' a = μ a := fun a ha => hf a ha
  refine ⟨CX_fr hX hf (by decide), wfS_roof hw hr, ⟨⟨r1, hr, hR⟩, hb, ?_, ?_, ?_⟩, ?_, ?_, ?_, ?_, ?_, ?_⟩
  · rw [e (46 + 8) (by decide)]; exact hy
  · rw [e 46 (by decide), e (46 + 9) (by decide), e (46 + 10) (by decide)]; exact hcar
  · unfold CU; rw [e 46 (by decide), e (46 + 11) (by decide), e (46 + 12) (by decide), e (46 + 13) (by decide)]; exact hu
  · exact ⟨fun n _ hn => by omega, fun n _ hn => by omega⟩
  · refine ⟨Or.inl h4, ?_⟩
    rw [e 130 (by decide)]; exact ht.2
  · exact CSl_fr (σ := σ) hl (fun a h1 h2 => e a (by simp; omega))
  · unfold CV; rw [e 131 (by decide), e 132 (by decide), e 133 (by decide), e 134 (by decide), e 135 (by decide), e 136 (by decide)]; exact hv
  · rw [e 3 (by decide), e 7 (by decide)]; exact htp
  · rw [e 2 (by decide)]; exact hp
theorem MS_roof {μ' : zM} {ρ : zF} (h : MS θ σ s μ) (hf : Fr [138, 172, 173, 174, 175, 176, 177] μ μ') (hj : ∀ j, j ≠ 57 → μ' 138 j = μ 138 j) (hR : MR (sT σ) ρ μ') : MS θ (stR σ ρ) s μ' := by
  obtain ⟨hX, hw, ⟨_, hy, hcar, hu⟩, hl, hv, htp, hp⟩ := h
  have e : ∀ a, a ∉ [138, 172, 173, 174, 175, 176, 177] → μ' a = μ a := fun a ha => hf a ha
  refine ⟨MX_fr hX hf (by decide) (hj 18 (by omega)), wfS_roof hw hR.1.1, ⟨hR, ?_, ?_, ?_⟩, ?_, ?_, ?_, ?_⟩
  · rw [e 178 (by decide)]; exact hy
  · rw [hj 59 (by omega), e 179 (by decide), e 180 (by decide)]; exact hcar
  · unfold MU; rw [hj 62 (by omega), e 181 (by decide), e 182 (by decide), e 183 (by decide)]; exact hu
  · intro i hi
    have := hl i hi
    show match sL σ i with
      | none => μ' 198 i = 0
      | some γ => μ' 198 i = 1 ∧ MHn (sT σ) γ i μ'
    cases hs : sL σ i with
    | none => rw [hs] at this; simp only at this ⊢; rw [e 198 (by decide)]; exact this
    | some γ =>
      rw [hs] at this
      simp only at this ⊢
      unfold MHn
      rw [e 198 (by decide), e 199 (by decide), e 200 (by decide), e 201 (by decide), e 202 (by decide), e 203 (by decide), e 204 (by decide), e 205 (by decide), e 206 (by decide), e 207 (by decide), e 208 (by decide), e 209 (by decide), e 210 (by decide), e 211 (by decide), e 212 (by decide), e 213 (by decide)]
      exact this
  · unfold MV2; rw [hj 78 (by omega), e 193 (by decide), e 194 (by decide), e 195 (by decide), e 196 (by decide), e 197 (by decide)]; exact hv
  · rw [hj 2 (by omega), e 139 (by decide)]; exact htp
  · rw [hj 17 (by omega)]; exact hp
/-- tile -/
def vTile (σ : zSt) (t k : Int) : Int := if (0 ≤ t ∧ t < (tn (sT σ) : Int)) ∧ 0 ≤ k ∧ k ≤ 5 then (if k = 5 then edO (sT σ) t.toNat else (gR (sG σ)).1 k.toNat t.toNat) else -1
theorem kTile {d : Nat} {t k : Int} (h : CS θ T U σ μ) (hd : 7 ≤ d) (hQ : Q (some (vi (vTile σ t k))) θ μ) : Ex d 106 0 [vr 2, vi t, vi k] [] θ μ Q := by
  have hc := h.1.1.1
  have hT := h.1.1.2.1
  have h2T := h.1.1.2.2.2.2.1
  have hd0 : 0 < d := by omega
  have hn := tn_b h.1.2.1
  unfold vTile at hQ
  by_cases q0 : 0 ≤ t ∧ t < (tn (sT σ) : Int)
  · by_cases q1 : k < 0
    · rw [if_neg (by omega)] at hQ
      simp (disch := omega) only [x106_0, x106_1, x106_2, x106_5, x106_8, x106_9, x106_12, x106_13, x106_14, x106_17, x106_18, x106_19, x106_20, x106_21, x106_24, x106_25, x106_28, x106_31, x106_32, x106_33, x106_36, x106_37, x106_40, x106_43, x106_46, x106_47, x106_48, x106_49, x106_50, ↓reduceIte, Bool.false_eq_true, Nat.reduceAdd, Nat.reduceLT, Nat.reduceLeDiff, Nat.reduceSub, Nat.reduceEqDiff, Int.reduceToNat, Int.reduceEq, Int.reduceLT, Int.reduceLE, Int.reduceAdd, Int.reduceSub, zg, zI, zJ, zR, zst, zkl, zn, zcat, zok, zraw, List.length_cons, List.length_nil, Option.toList, List.nil_append, List.cons_append, true_and, and_true, if_true, if_false, ne_eq, not_true, not_false_eq_true, and_self, true_or, or_true, false_or, or_false, false_and, and_false, b_2 hc, b_3 hc, b_9 hc, b_12 hc, b_26 hc, b_40 hc, b_46 hc, b_47 hc, b_60 hc, b_62 hc, b_63 hc, b_76 hc, b_77 hc, b_90 hc, b_91 hc, b_104 hc, b_107 hc, b_114 hc, b_115 hc, b_122 hc, b_123 hc, b_131 hc, b_2 hc, r_2_0 hc, r_2_1 hc, r_2_2 hc, r_2_3 hc, r_2_4 hc, r_2_5 hc, x_61 hc, n_61 hc, r_2_6 hc, r_2_7 hc, r_2_8 hc, r_2_9 hc, b_46 hc, r_46_0 hc, r_46_1 hc, x_54 hc, r_46_2 hc, x_55 hc, r_46_3 hc, x_56 hc, r_46_4 hc, x_57 hc, r_46_5 hc, x_58 hc, r_46_6 hc, x_59 hc, tb hT, Tq1 hT, Tq2 hT, tr_0 hT, tr_1 hT, tr_2 hT, tr_3 hT, tr_4 hT, tr_5 hT, tr_6 hT, tr_7 hT, tr_8 hT, tr_9 hT, tr_10 hT, tr_11 hT, tr_12 hT, tx_1 hT, tx_2 hT, tx_3 hT, tx_4 hT, tx_5 hT, tx_6 hT, tx_7 hT, tx_8 hT, tx_9 hT, tx_10 hT, tx_11 hT, tx_12 hT, tx_13 hT, b_47 hc, r_47_0 hc, x_48 hc, n_48 hc, x_48 hc, n_48 hc, r_48_0 hc, x_49 hc, r_48_1 hc, x_50 hc, r_48_2 hc, x_51 hc, r_48_3 hc, x_52 hc, r_48_4 hc, x_53 hc, cIsTile _ h.1, hd0, q0, q1]
      exact hQ
    · by_cases q2 : k ≤ 5
      · obtain ⟨N, rfl⟩ : ∃ N : Nat, t = (N : Int) := ⟨t.toNat, by omega⟩
        have hN : N < tn (sT σ) := by omega
        rw [if_pos ⟨q0, by omega, q2⟩, Int.toNat_natCast] at hQ
        have e5 : μ (T + 13) N = edO (sT σ) N := (h.1.2.2.1.2.2.2.2 N hN).2.2
        have hR := h.2.2.1.1.2.2.2.1
        have e0 : μ 49 N = (gR (sG σ)).1 0 N := hR 0 N (by omega) hN
        have e1 : μ 50 N = (gR (sG σ)).1 1 N := hR 1 N (by omega) hN
        have e2 : μ 51 N = (gR (sG σ)).1 2 N := hR 2 N (by omega) hN
        have e3 : μ 52 N = (gR (sG σ)).1 3 N := hR 3 N (by omega) hN
        have e4 : μ 53 N = (gR (sG σ)).1 4 N := hR 4 N (by omega) hN
        obtain hk | hk | hk | hk | hk | hk : k = 0 ∨ k = 1 ∨ k = 2 ∨ k = 3 ∨ k = 4 ∨ k = 5 := by omega
        all_goals
          subst hk
          simp (disch := omega) only [x106_0, x106_1, x106_2, x106_5, x106_8, x106_9, x106_12, x106_13, x106_14, x106_17, x106_18, x106_19, x106_20, x106_21, x106_24, x106_25, x106_28, x106_31, x106_32, x106_33, x106_36, x106_37, x106_40, x106_43, x106_46, x106_47, x106_48, x106_49, x106_50, ↓reduceIte, Bool.false_eq_true, Nat.reduceAdd, Nat.reduceLT, Nat.reduceLeDiff, Nat.reduceSub, Nat.reduceEqDiff, Int.reduceToNat, Int.reduceEq, Int.reduceLT, Int.reduceLE, Int.reduceAdd, Int.reduceSub, zg, zI, zJ, zR, zst, zkl, zn, zcat, zok, zraw, List.length_cons, List.length_nil, Option.toList, List.nil_append, List.cons_append, true_and, and_true, if_true, if_false, ne_eq, not_true, not_false_eq_true, and_self, true_or, or_true, false_or, or_false, false_and, and_false, b_2 hc, b_3 hc, b_9 hc, b_12 hc, b_26 hc, b_40 hc, b_46 hc, b_47 hc, b_60 hc, b_62 hc, b_63 hc, b_76 hc, b_77 hc, b_90 hc, b_91 hc, b_104 hc, b_107 hc, b_114 hc, b_115 hc, b_122 hc, b_123 hc, b_131 hc, b_2 hc, r_2_0 hc, r_2_1 hc, r_2_2 hc, r_2_3 hc, r_2_4 hc, r_2_5 hc, x_61 hc, n_61 hc, r_2_6 hc, r_2_7 hc, r_2_8 hc, r_2_9 hc, b_46 hc, r_46_0 hc, r_46_1 hc, x_54 hc, r_46_2 hc, x_55 hc, r_46_3 hc, x_56 hc, r_46_4 hc, x_57 hc, r_46_5 hc, x_58 hc, r_46_6 hc, x_59 hc, tb hT, Tq1 hT, Tq2 hT, tr_0 hT, tr_1 hT, tr_2 hT, tr_3 hT, tr_4 hT, tr_5 hT, tr_6 hT, tr_7 hT, tr_8 hT, tr_9 hT, tr_10 hT, tr_11 hT, tr_12 hT, tx_1 hT, tx_2 hT, tx_3 hT, tx_4 hT, tx_5 hT, tx_6 hT, tx_7 hT, tx_8 hT, tx_9 hT, tx_10 hT, tx_11 hT, tx_12 hT, tx_13 hT, b_47 hc, r_47_0 hc, x_48 hc, n_48 hc, x_48 hc, n_48 hc, r_48_0 hc, x_49 hc, r_48_1 hc, x_50 hc, r_48_2 hc, x_51 hc, r_48_3 hc, x_52 hc, r_48_4 hc, x_53 hc, cIsTile _ h.1, hd0, q0, h2T, Int.toNat_natCast, e0, e1, e2, e3, e4, e5] at hQ ⊢
          exact hQ
      · rw [if_neg (by omega)] at hQ
        simp (disch := omega) only [x106_0, x106_1, x106_2, x106_5, x106_8, x106_9, x106_12, x106_13, x106_14, x106_17, x106_18, x106_19, x106_20, x106_21, x106_24, x106_25, x106_28, x106_31, x106_32, x106_33, x106_36, x106_37, x106_40, x106_43, x106_46, x106_47, x106_48, x106_49, x106_50, ↓reduceIte, Bool.false_eq_true, Nat.reduceAdd, Nat.reduceLT, Nat.reduceLeDiff, Nat.reduceSub, Nat.reduceEqDiff, Int.reduceToNat, Int.reduceEq, Int.reduceLT, Int.reduceLE, Int.reduceAdd, Int.reduceSub, zg, zI, zJ, zR, zst, zkl, zn, zcat, zok, zraw, List.length_cons, List.length_nil, Option.toList, List.nil_append, List.cons_append, true_and, and_true, if_true, if_false, ne_eq, not_true, not_false_eq_true, and_self, true_or, or_true, false_or, or_false, false_and, and_false, b_2 hc, b_3 hc, b_9 hc, b_12 hc, b_26 hc, b_40 hc, b_46 hc, b_47 hc, b_60 hc, b_62 hc, b_63 hc, b_76 hc, b_77 hc, b_90 hc, b_91 hc, b_104 hc, b_107 hc, b_114 hc, b_115 hc, b_122 hc, b_123 hc, b_131 hc, b_2 hc, r_2_0 hc, r_2_1 hc, r_2_2 hc, r_2_3 hc, r_2_4 hc, r_2_5 hc, x_61 hc, n_61 hc, r_2_6 hc, r_2_7 hc, r_2_8 hc, r_2_9 hc, b_46 hc, r_46_0 hc, r_46_1 hc, x_54 hc, r_46_2 hc, x_55 hc, r_46_3 hc, x_56 hc, r_46_4 hc, x_57 hc, r_46_5 hc, x_58 hc, r_46_6 hc, x_59 hc, tb hT, Tq1 hT, Tq2 hT, tr_0 hT, tr_1 hT, tr_2 hT, tr_3 hT, tr_4 hT, tr_5 hT, tr_6 hT, tr_7 hT, tr_8 hT, tr_9 hT, tr_10 hT, tr_11 hT, tr_12 hT, tx_1 hT, tx_2 hT, tx_3 hT, tx_4 hT, tx_5 hT, tx_6 hT, tx_7 hT, tx_8 hT, tx_9 hT, tx_10 hT, tx_11 hT, tx_12 hT, tx_13 hT, b_47 hc, r_47_0 hc, x_48 hc, n_48 hc, x_48 hc, n_48 hc, r_48_0 hc, x_49 hc, r_48_1 hc, x_50 hc, r_48_2 hc, x_51 hc, r_48_3 hc, x_52 hc, r_48_4 hc, x_53 hc, cIsTile _ h.1, hd0, q0, q1, q2]
        exact hQ
  · rw [if_neg (by omega)] at hQ
    simp (disch := omega) only [x106_0, x106_1, x106_2, x106_5, x106_8, x106_9, x106_12, x106_13, x106_14, x106_17, x106_18, x106_19, x106_20, x106_21, x106_24, x106_25, x106_28, x106_31, x106_32, x106_33, x106_36, x106_37, x106_40, x106_43, x106_46, x106_47, x106_48, x106_49, x106_50, ↓reduceIte, Bool.false_eq_true, Nat.reduceAdd, Nat.reduceLT, Nat.reduceLeDiff, Nat.reduceSub, Nat.reduceEqDiff, Int.reduceToNat, Int.reduceEq, Int.reduceLT, Int.reduceLE, Int.reduceAdd, Int.reduceSub, zg, zI, zJ, zR, zst, zkl, zn, zcat, zok, zraw, List.length_cons, List.length_nil, Option.toList, List.nil_append, List.cons_append, true_and, and_true, if_true, if_false, ne_eq, not_true, not_false_eq_true, and_self, true_or, or_true, false_or, or_false, false_and, and_false, b_2 hc, b_3 hc, b_9 hc, b_12 hc, b_26 hc, b_40 hc, b_46 hc, b_47 hc, b_60 hc, b_62 hc, b_63 hc, b_76 hc, b_77 hc, b_90 hc, b_91 hc, b_104 hc, b_107 hc, b_114 hc, b_115 hc, b_122 hc, b_123 hc, b_131 hc, b_2 hc, r_2_0 hc, r_2_1 hc, r_2_2 hc, r_2_3 hc, r_2_4 hc, r_2_5 hc, x_61 hc, n_61 hc, r_2_6 hc, r_2_7 hc, r_2_8 hc, r_2_9 hc, b_46 hc, r_46_0 hc, r_46_1 hc, x_54 hc, r_46_2 hc, x_55 hc, r_46_3 hc, x_56 hc, r_46_4 hc, x_57 hc, r_46_5 hc, x_58 hc, r_46_6 hc, x_59 hc, tb hT, Tq1 hT, Tq2 hT, tr_0 hT, tr_1 hT, tr_2 hT, tr_3 hT, tr_4 hT, tr_5 hT, tr_6 hT, tr_7 hT, tr_8 hT, tr_9 hT, tr_10 hT, tr_11 hT, tr_12 hT, tx_1 hT, tx_2 hT, tx_3 hT, tx_4 hT, tx_5 hT, tx_6 hT, tx_7 hT, tx_8 hT, tx_9 hT, tx_10 hT, tx_11 hT, tx_12 hT, tx_13 hT, b_47 hc, r_47_0 hc, x_48 hc, n_48 hc, x_48 hc, n_48 hc, r_48_0 hc, x_49 hc, r_48_1 hc, x_50 hc, r_48_2 hc, x_51 hc, r_48_3 hc, x_52 hc, r_48_4 hc, x_53 hc, cIsTile _ h.1, hd0, q0]
    exact hQ
theorem rTile {d : Nat} {t k : Int} (h : MS θ σ s μ) (hd : 11 ≤ d) (hQ : Q (some (vi (vTile σ t k))) θ μ) : Ex d 207 0 [vr 138, vi t, vi k] [] θ μ Q := by
  have hm := h.1.1
  have hd0 : 0 < d := by omega
  have hn := tn_b h.1.2.1
  unfold vTile at hQ
  by_cases q0 : 0 ≤ t ∧ t < (tn (sT σ) : Int)
  · obtain ⟨N, rfl⟩ : ∃ N : Nat, t = (N : Int) := ⟨t.toNat, by omega⟩
    have hN : N < tn (sT σ) := by omega
    by_cases q1 : 0 ≤ k ∧ k ≤ 5
    · rw [if_pos ⟨q0, q1⟩, Int.toNat_natCast] at hQ
      have hR := h.2.2.1.1
      have hw := h.2.1.2.1.1.1 N hN
      have e0 := hR.2 N hN
      have e1 := (hR.1.2.1 N hN).1
      have e2 := (hR.1.2.1 N hN).2.1
      have e3 := (hR.1.2.1 N hN).2.2.1
      have e4 := (hR.1.2.1 N hN).2.2.2
      obtain hk | hk | hk | hk | hk | hk : k = 0 ∨ k = 1 ∨ k = 2 ∨ k = 3 ∨ k = 4 ∨ k = 5 := by omega
      · subst hk
        rcases hw.1 with z | z <;> simp (disch := omega) only [x207_0, x207_1, x207_2, x207_5, x207_8, x207_9, x207_10, x207_11, x207_48, x207_49, x207_52, x207_53, x207_54, x207_57, x207_58, x207_61, x207_62, x207_63, x207_64, x207_67, x207_68, x207_69, x207_72, x207_73, x207_76, x207_77, x207_78, x207_79, x207_82, x207_83, x207_84, x207_87, x207_88, x207_91, x207_92, x207_93, x207_94, x207_97, x207_98, x207_99, x207_100, x207_101, x207_104, x207_105, x207_106, x207_107, x207_108, x207_109, x207_112, x207_113, x207_114, ↓reduceIte, Bool.false_eq_true, Nat.reduceAdd, Nat.reduceLT, Nat.reduceLeDiff, Nat.reduceSub, Nat.reduceEqDiff, Int.reduceToNat, Int.reduceEq, Int.reduceLT, Int.reduceLE, Int.reduceAdd, Int.reduceSub, zg, zI, zJ, zR, zst, zkl, zn, zcat, zok, zraw, List.length_cons, List.length_nil, Option.toList, List.nil_append, List.cons_append, true_and, and_true, if_true, if_false, ne_eq, not_true, not_false_eq_true, and_self, true_or, or_true, false_or, or_false, false_and, and_false, b_138 hm, r_138_51 hm, x_172 hm, n_172 hm, r_138_52 hm, x_173 hm, n_173 hm, r_138_53 hm, x_174 hm, n_174 hm, r_138_54 hm, x_175 hm, r_138_55 hm, x_176 hm, b_138 hm, mIsTile (d := d - 1) h.1 (by omega), hd0, q0, Int.toNat_natCast, e0, z] at hQ ⊢ <;> exact hQ
      · subst hk
        rcases hw.2.1 with z | z <;> simp (disch := omega) only [x207_0, x207_1, x207_2, x207_5, x207_8, x207_9, x207_10, x207_11, x207_48, x207_49, x207_52, x207_53, x207_54, x207_57, x207_58, x207_61, x207_62, x207_63, x207_64, x207_67, x207_68, x207_69, x207_72, x207_73, x207_76, x207_77, x207_78, x207_79, x207_82, x207_83, x207_84, x207_87, x207_88, x207_91, x207_92, x207_93, x207_94, x207_97, x207_98, x207_99, x207_100, x207_101, x207_104, x207_105, x207_106, x207_107, x207_108, x207_109, x207_112, x207_113, x207_114, ↓reduceIte, Bool.false_eq_true, Nat.reduceAdd, Nat.reduceLT, Nat.reduceLeDiff, Nat.reduceSub, Nat.reduceEqDiff, Int.reduceToNat, Int.reduceEq, Int.reduceLT, Int.reduceLE, Int.reduceAdd, Int.reduceSub, zg, zI, zJ, zR, zst, zkl, zn, zcat, zok, zraw, List.length_cons, List.length_nil, Option.toList, List.nil_append, List.cons_append, true_and, and_true, if_true, if_false, ne_eq, not_true, not_false_eq_true, and_self, true_or, or_true, false_or, or_false, false_and, and_false, b_138 hm, r_138_51 hm, x_172 hm, n_172 hm, r_138_52 hm, x_173 hm, n_173 hm, r_138_53 hm, x_174 hm, n_174 hm, r_138_54 hm, x_175 hm, r_138_55 hm, x_176 hm, b_138 hm, mIsTile (d := d - 1) h.1 (by omega), hd0, q0, Int.toNat_natCast, e1, z] at hQ ⊢ <;> exact hQ
      · subst hk
        rcases hw.2.2.1 with z | z <;> simp (disch := omega) only [x207_0, x207_1, x207_2, x207_5, x207_8, x207_9, x207_10, x207_11, x207_48, x207_49, x207_52, x207_53, x207_54, x207_57, x207_58, x207_61, x207_62, x207_63, x207_64, x207_67, x207_68, x207_69, x207_72, x207_73, x207_76, x207_77, x207_78, x207_79, x207_82, x207_83, x207_84, x207_87, x207_88, x207_91, x207_92, x207_93, x207_94, x207_97, x207_98, x207_99, x207_100, x207_101, x207_104, x207_105, x207_106, x207_107, x207_108, x207_109, x207_112, x207_113, x207_114, ↓reduceIte, Bool.false_eq_true, Nat.reduceAdd, Nat.reduceLT, Nat.reduceLeDiff, Nat.reduceSub, Nat.reduceEqDiff, Int.reduceToNat, Int.reduceEq, Int.reduceLT, Int.reduceLE, Int.reduceAdd, Int.reduceSub, zg, zI, zJ, zR, zst, zkl, zn, zcat, zok, zraw, List.length_cons, List.length_nil, Option.toList, List.nil_append, List.cons_append, true_and, and_true, if_true, if_false, ne_eq, not_true, not_false_eq_true, and_self, true_or, or_true, false_or, or_false, false_and, and_false, b_138 hm, r_138_51 hm, x_172 hm, n_172 hm, r_138_52 hm, x_173 hm, n_173 hm, r_138_53 hm, x_174 hm, n_174 hm, r_138_54 hm, x_175 hm, r_138_55 hm, x_176 hm, b_138 hm, mIsTile (d := d - 1) h.1 (by omega), hd0, q0, Int.toNat_natCast, e2, z] at hQ ⊢ <;> exact hQ
      · subst hk
        simp (disch := omega) only [x207_0, x207_1, x207_2, x207_5, x207_8, x207_9, x207_10, x207_11, x207_48, x207_49, x207_52, x207_53, x207_54, x207_57, x207_58, x207_61, x207_62, x207_63, x207_64, x207_67, x207_68, x207_69, x207_72, x207_73, x207_76, x207_77, x207_78, x207_79, x207_82, x207_83, x207_84, x207_87, x207_88, x207_91, x207_92, x207_93, x207_94, x207_97, x207_98, x207_99, x207_100, x207_101, x207_104, x207_105, x207_106, x207_107, x207_108, x207_109, x207_112, x207_113, x207_114, ↓reduceIte, Bool.false_eq_true, Nat.reduceAdd, Nat.reduceLT, Nat.reduceLeDiff, Nat.reduceSub, Nat.reduceEqDiff, Int.reduceToNat, Int.reduceEq, Int.reduceLT, Int.reduceLE, Int.reduceAdd, Int.reduceSub, zg, zI, zJ, zR, zst, zkl, zn, zcat, zok, zraw, List.length_cons, List.length_nil, Option.toList, List.nil_append, List.cons_append, true_and, and_true, if_true, if_false, ne_eq, not_true, not_false_eq_true, and_self, true_or, or_true, false_or, or_false, false_and, and_false, b_138 hm, r_138_51 hm, x_172 hm, n_172 hm, r_138_52 hm, x_173 hm, n_173 hm, r_138_53 hm, x_174 hm, n_174 hm, r_138_54 hm, x_175 hm, r_138_55 hm, x_176 hm, b_138 hm, mIsTile (d := d - 1) h.1 (by omega), hd0, q0, Int.toNat_natCast, e3] at hQ ⊢
        exact hQ
      · subst hk
        simp (disch := omega) only [x207_0, x207_1, x207_2, x207_5, x207_8, x207_9, x207_10, x207_11, x207_48, x207_49, x207_52, x207_53, x207_54, x207_57, x207_58, x207_61, x207_62, x207_63, x207_64, x207_67, x207_68, x207_69, x207_72, x207_73, x207_76, x207_77, x207_78, x207_79, x207_82, x207_83, x207_84, x207_87, x207_88, x207_91, x207_92, x207_93, x207_94, x207_97, x207_98, x207_99, x207_100, x207_101, x207_104, x207_105, x207_106, x207_107, x207_108, x207_109, x207_112, x207_113, x207_114, ↓reduceIte, Bool.false_eq_true, Nat.reduceAdd, Nat.reduceLT, Nat.reduceLeDiff, Nat.reduceSub, Nat.reduceEqDiff, Int.reduceToNat, Int.reduceEq, Int.reduceLT, Int.reduceLE, Int.reduceAdd, Int.reduceSub, zg, zI, zJ, zR, zst, zkl, zn, zcat, zok, zraw, List.length_cons, List.length_nil, Option.toList, List.nil_append, List.cons_append, true_and, and_true, if_true, if_false, ne_eq, not_true, not_false_eq_true, and_self, true_or, or_true, false_or, or_false, false_and, and_false, b_138 hm, r_138_51 hm, x_172 hm, n_172 hm, r_138_52 hm, x_173 hm, n_173 hm, r_138_53 hm, x_174 hm, n_174 hm, r_138_54 hm, x_175 hm, r_138_55 hm, x_176 hm, b_138 hm, mIsTile (d := d - 1) h.1 (by omega), hd0, q0, Int.toNat_natCast, e4] at hQ ⊢
        exact hQ
      · subst hk
        simp (disch := omega) only [x207_0, x207_1, x207_2, x207_5, x207_8, x207_9, x207_10, x207_11, x207_48, x207_49, x207_52, x207_53, x207_54, x207_57, x207_58, x207_61, x207_62, x207_63, x207_64, x207_67, x207_68, x207_69, x207_72, x207_73, x207_76, x207_77, x207_78, x207_79, x207_82, x207_83, x207_84, x207_87, x207_88, x207_91, x207_92, x207_93, x207_94, x207_97, x207_98, x207_99, x207_100, x207_101, x207_104, x207_105, x207_106, x207_107, x207_108, x207_109, x207_112, x207_113, x207_114, ↓reduceIte, Bool.false_eq_true, Nat.reduceAdd, Nat.reduceLT, Nat.reduceLeDiff, Nat.reduceSub, Nat.reduceEqDiff, Int.reduceToNat, Int.reduceEq, Int.reduceLT, Int.reduceLE, Int.reduceAdd, Int.reduceSub, zg, zI, zJ, zR, zst, zkl, zn, zcat, zok, zraw, List.length_cons, List.length_nil, Option.toList, List.nil_append, List.cons_append, true_and, and_true, if_true, if_false, ne_eq, not_true, not_false_eq_true, and_self, true_or, or_true, false_or, or_false, false_and, and_false, b_138 hm, mIsTile (d := d - 1) h.1 (by omega), hd0, q0]
        refine mEdge (d := d - 1) (by omega) h.1 hN ?_
        simp (disch := omega) only [x207_0, x207_1, x207_2, x207_5, x207_8, x207_9, x207_10, x207_11, x207_48, x207_49, x207_52, x207_53, x207_54, x207_57, x207_58, x207_61, x207_62, x207_63, x207_64, x207_67, x207_68, x207_69, x207_72, x207_73, x207_76, x207_77, x207_78, x207_79, x207_82, x207_83, x207_84, x207_87, x207_88, x207_91, x207_92, x207_93, x207_94, x207_97, x207_98, x207_99, x207_100, x207_101, x207_104, x207_105, x207_106, x207_107, x207_108, x207_109, x207_112, x207_113, x207_114, ↓reduceIte, Bool.false_eq_true, Nat.reduceAdd, Nat.reduceLT, Nat.reduceLeDiff, Nat.reduceSub, Nat.reduceEqDiff, Int.reduceToNat, Int.reduceEq, Int.reduceLT, Int.reduceLE, Int.reduceAdd, Int.reduceSub, zg, zI, zJ, zR, zst, zkl, zn, zcat, zok, zraw, List.length_cons, List.length_nil, Option.toList, List.nil_append, List.cons_append, true_and, and_true, if_true, if_false, ne_eq, not_true, not_false_eq_true, and_self, true_or, or_true, false_or, or_false, false_and, and_false]
        exact hQ
    · rw [if_neg (by omega)] at hQ
      have k0 : ¬ k = 0 := by omega
      have k1 : ¬ k = 1 := by omega
      have k2 : ¬ k = 2 := by omega
      have k3 : ¬ k = 3 := by omega
      have k4 : ¬ k = 4 := by omega
      have k5 : ¬ k = 5 := by omega
      simp (disch := omega) only [x207_0, x207_1, x207_2, x207_5, x207_8, x207_9, x207_10, x207_11, x207_48, x207_49, x207_52, x207_53, x207_54, x207_57, x207_58, x207_61, x207_62, x207_63, x207_64, x207_67, x207_68, x207_69, x207_72, x207_73, x207_76, x207_77, x207_78, x207_79, x207_82, x207_83, x207_84, x207_87, x207_88, x207_91, x207_92, x207_93, x207_94, x207_97, x207_98, x207_99, x207_100, x207_101, x207_104, x207_105, x207_106, x207_107, x207_108, x207_109, x207_112, x207_113, x207_114, ↓reduceIte, Bool.false_eq_true, Nat.reduceAdd, Nat.reduceLT, Nat.reduceLeDiff, Nat.reduceSub, Nat.reduceEqDiff, Int.reduceToNat, Int.reduceEq, Int.reduceLT, Int.reduceLE, Int.reduceAdd, Int.reduceSub, zg, zI, zJ, zR, zst, zkl, zn, zcat, zok, zraw, List.length_cons, List.length_nil, Option.toList, List.nil_append, List.cons_append, true_and, and_true, if_true, if_false, ne_eq, not_true, not_false_eq_true, and_self, true_or, or_true, false_or, or_false, false_and, and_false, b_138 hm, mIsTile (d := d - 1) h.1 (by omega), hd0, q0, k0, k1, k2, k3, k4, k5]
      exact hQ
  · rw [if_neg (by omega)] at hQ
    simp (disch := omega) only [x207_0, x207_1, x207_2, x207_5, x207_8, x207_9, x207_10, x207_11, x207_48, x207_49, x207_52, x207_53, x207_54, x207_57, x207_58, x207_61, x207_62, x207_63, x207_64, x207_67, x207_68, x207_69, x207_72, x207_73, x207_76, x207_77, x207_78, x207_79, x207_82, x207_83, x207_84, x207_87, x207_88, x207_91, x207_92, x207_93, x207_94, x207_97, x207_98, x207_99, x207_100, x207_101, x207_104, x207_105, x207_106, x207_107, x207_108, x207_109, x207_112, x207_113, x207_114, ↓reduceIte, Bool.false_eq_true, Nat.reduceAdd, Nat.reduceLT, Nat.reduceLeDiff, Nat.reduceSub, Nat.reduceEqDiff, Int.reduceToNat, Int.reduceEq, Int.reduceLT, Int.reduceLE, Int.reduceAdd, Int.reduceSub, zg, zI, zJ, zR, zst, zkl, zn, zcat, zok, zraw, List.length_cons, List.length_nil, Option.toList, List.nil_append, List.cons_append, true_and, and_true, if_true, if_false, ne_eq, not_true, not_false_eq_true, and_self, true_or, or_true, false_or, or_false, false_and, and_false, b_138 hm, mIsTile (d := d - 1) h.1 (by omega), hd0, q0]
    exact hQ
/-- set -/
def mkF (ρ : zF) (m t : Nat) (v : Int) : zF := (fun a q => if a = m ∧ q = t then v else ρ.1 a q, ρ.2)
theorem mkF_w {τ : zT} {ρ : zF} {m t : Nat} {v : Int} (h : wfF τ ρ) (h0 : m < 3 → v = 0 ∨ v = 1) (h1 : 0 ≤ v ∧ v ≤ 99) : wfF τ (mkF ρ m t v) := by
  obtain ⟨a, b⟩ := h
  refine ⟨fun q hq => ?_, b⟩
  have := a q hq
  unfold mkF
  simp only
  by_cases e : q = t
  · refine ⟨?_, ?_, ?_, ?_⟩
    · by_cases x : 0 = m
      · simp [x, e]; exact h0 (by omega)
      · simp [x]; exact this.1
    · by_cases x : 1 = m
      · simp [x, e]; exact h0 (by omega)
      · simp [x]; exact this.2.1
    · by_cases x : 2 = m
      · simp [x, e]; exact h0 (by omega)
      · simp [x]; exact this.2.2.1
    · have := this.2.2.2
      by_cases x : 3 = m
      · have y : ¬ (4 = m) := by omega
        simp [x, y, e]; exact ⟨h1, by rw [← e]; exact this.2⟩
      · by_cases y : 4 = m
        · simp [x, y, e]; exact ⟨by rw [← e]; exact this.1, h1⟩
        · simp [x, y]; exact this
  · simp [e]; exact this
theorem cForgetPlans {d : Nat} (hc : Tc θ) (hd : 1 ≤ d) (hQ : ∀ μ', Fr [104, 122] μ μ' → μ' 104 9 = -1 → μ' 104 10 = -1 → μ' 122 4 = 0 → Q none θ μ') : Ex d 160 0 [vr 2] [] θ μ Q := by
  have hd0 : 0 < d := by omega
  simp (disch := omega) only [x160_0, x160_1, x160_4, x160_7, x160_8, x160_11, x160_12, x160_15, x27_0, x27_1, x27_2, x27_5, x27_6, x27_7, x27_10, ↓reduceIte, Bool.false_eq_true, Nat.reduceAdd, Nat.reduceLT, Nat.reduceLeDiff, Nat.reduceSub, Nat.reduceEqDiff, Int.reduceToNat, Int.reduceEq, Int.reduceLT, Int.reduceLE, Int.reduceAdd, Int.reduceSub, zg, zI, zJ, zR, zst, zkl, zn, zcat, zok, zraw, List.length_cons, List.length_nil, Option.toList, List.nil_append, List.cons_append, true_and, and_true, if_true, if_false, ne_eq, not_true, not_false_eq_true, and_self, true_or, or_true, false_or, or_false, false_and, and_false, b_2 hc, b_3 hc, b_9 hc, b_12 hc, b_26 hc, b_40 hc, b_46 hc, b_47 hc, b_60 hc, b_62 hc, b_63 hc, b_76 hc, b_77 hc, b_90 hc, b_91 hc, b_104 hc, b_107 hc, b_114 hc, b_115 hc, b_122 hc, b_123 hc, b_131 hc, b_2 hc, r_2_0 hc, r_2_1 hc, r_2_2 hc, r_2_3 hc, r_2_4 hc, r_2_5 hc, x_61 hc, n_61 hc, r_2_6 hc, r_2_7 hc, r_2_8 hc, r_2_9 hc, b_104 hc, r_104_0 hc, x_105 hc, r_104_1 hc, x_106 hc, r_104_6 hc, r_104_7 hc, r_104_8 hc, b_122 hc, r_122_5 hc, r_122_6 hc, r_122_7 hc, r_122_8 hc, x_130 hc, hd0, ua_eq]
  refine hQ _ (Fr.us (by simp) (Fr.us (by simp) (Fr.us (by simp) Fr.refl))) ?_ ?_ ?_
  · rw [us_ne (by omega), us_same, zup_ne (by omega), us_same, zup_same rfl]
  · rw [us_ne (by omega), us_same, zup_same rfl]
  · rw [us_same, zup_same rfl]
theorem CS_mark {μ' : zM} {m N : Nat} {v : Int} (h : CS θ T U σ μ) (hm : m < 5) (hN : N < tn (sT σ)) (h0 : m < 3 → v = 0 ∨ v = 1) (h1 : 0 ≤ v ∧ v ≤ 99) (hf : Fr [49 + m, 104, 122] μ μ') (hv : μ' (49 + m) = zup (μ (49 + m)) N v)
    (h9 : μ' 104 9 = -1) (h10 : μ' 104 10 = -1) (h4 : μ' 122 4 = 0) : CS θ T U (stR σ (mkF (gR (sG σ)) m N v)) μ' := by
  have hF := h.2.2.1.1
  obtain ⟨_, hw, r1, r2, r3, r4⟩ := hF
  have e47 : μ' 47 = μ 47 := hf 47 (by simp; omega)
  refine CS_roof h (fun a ha => hf a (fun hh => ha (by simp at hh ⊢; omega))) (mkF_w hw h0 h1) ⟨by rw [e47]; exact r1, ?_, by rw [e47]; exact r3, by rw [e47]; exact r4⟩ (by rw [e47]; exact h.2.2.1.2.1) h9 h10 h4
  intro a q ha hq
  have := r2 a q ha hq
  unfold mkF
  simp only
  by_cases e : a = m
  · subst e
    have e' : 47 + (a + 2) = 49 + a := by omega
    rw [e'] at this ⊢
    rw [hv, zup_ap, this]
    simp
  · rw [hf (47 + (a + 2)) (by simp; omega), this]; simp [e]
abbrev okSet (σ : zSt) (t k v : Int) : Prop := (0 ≤ t ∧ t < (tn (sT σ) : Int)) ∧ (1 ≤ k ∧ k ≤ 4) ∧ 0 ≤ v ∧ v ≤ if k ≤ 2 then 1 else 99
def sSet (σ : zSt) (t k v : Int) : zSt := if okSet σ t k v then stR σ (mkF (gR (sG σ)) k.toNat t.toNat v) else σ
def vSet (σ : zSt) (t k v : Int) : Int := if okSet σ t k v then 1 else 0
theorem kSet {d : Nat} {t k v : Int} {x4 : zV} (h : CS θ T U σ μ) (hd : 7 ≤ d) (hQ : ∀ μ', CL μ μ' → CS θ T U (sSet σ t k v) μ' → Q (some (vi (vSet σ t k v))) θ μ') : Ex d 107 0 [vr 2, vi t, vi k, vi v, x4] [] θ μ Q := by
  have hc := h.1.1.1
  have hd0 : 0 < d := by omega
  have hn := tn_b h.1.2.1
  have hno : ¬ okSet σ t k v → Q (some (vi 0)) θ μ := fun hn => by
    have := hQ μ (fun _ _ => rfl) (by unfold sSet; rw [if_neg hn]; exact h)
    unfold vSet at this
    rwa [if_neg hn] at this
  by_cases q0 : 0 ≤ t ∧ t < (tn (sT σ) : Int)
  · by_cases q1 : k < 1
    · simp (disch := omega) only [x107_0, x107_1, x107_2, x107_5, x107_8, x107_9, x107_10, x107_13, x107_14, x107_15, x107_18, x107_19, x107_20, x107_21, x107_22, x107_25, x107_26, x107_29, x107_31, x107_33, x107_34, x107_37, x107_38, x107_40, x107_43, x107_44, x107_45, x107_46, x107_49, x107_52, x107_55, x107_56, x107_57, x107_58, x107_59, x107_60, x107_61, x107_64, x107_65, ↓reduceIte, Bool.false_eq_true, Nat.reduceAdd, Nat.reduceLT, Nat.reduceLeDiff, Nat.reduceSub, Nat.reduceEqDiff, Int.reduceToNat, Int.reduceEq, Int.reduceLT, Int.reduceLE, Int.reduceAdd, Int.reduceSub, zg, zI, zJ, zR, zst, zkl, zn, zcat, zok, zraw, List.length_cons, List.length_nil, Option.toList, List.nil_append, List.cons_append, true_and, and_true, if_true, if_false, ne_eq, not_true, not_false_eq_true, and_self, true_or, or_true, false_or, or_false, false_and, and_false, b_2 hc, b_3 hc, b_9 hc, b_12 hc, b_26 hc, b_40 hc, b_46 hc, b_47 hc, b_60 hc, b_62 hc, b_63 hc, b_76 hc, b_77 hc, b_90 hc, b_91 hc, b_104 hc, b_107 hc, b_114 hc, b_115 hc, b_122 hc, b_123 hc, b_131 hc, b_2 hc, r_2_0 hc, r_2_1 hc, r_2_2 hc, r_2_3 hc, r_2_4 hc, r_2_5 hc, x_61 hc, n_61 hc, r_2_6 hc, r_2_7 hc, r_2_8 hc, r_2_9 hc, b_46 hc, r_46_0 hc, r_46_1 hc, x_54 hc, r_46_2 hc, x_55 hc, r_46_3 hc, x_56 hc, r_46_4 hc, x_57 hc, r_46_5 hc, x_58 hc, r_46_6 hc, x_59 hc, b_47 hc, r_47_0 hc, x_48 hc, n_48 hc, x_48 hc, n_48 hc, r_48_0 hc, x_49 hc, r_48_1 hc, x_50 hc, r_48_2 hc, x_51 hc, r_48_3 hc, x_52 hc, r_48_4 hc, x_53 hc, cIsTile _ h.1, hd0, q0, q1]
      exact hno (by unfold okSet; omega)
    · by_cases q2 : k ≤ 4
      · obtain ⟨N, rfl⟩ : ∃ N : Nat, t = (N : Int) := ⟨t.toNat, by omega⟩
        have hN : N < tn (sT σ) := by omega
        by_cases q3 : v < 0
        · by_cases q4 : 2 < k
          · simp (disch := omega) only [x107_0, x107_1, x107_2, x107_5, x107_8, x107_9, x107_10, x107_13, x107_14, x107_15, x107_18, x107_19, x107_20, x107_21, x107_22, x107_25, x107_26, x107_29, x107_31, x107_33, x107_34, x107_37, x107_38, x107_40, x107_43, x107_44, x107_45, x107_46, x107_49, x107_52, x107_55, x107_56, x107_57, x107_58, x107_59, x107_60, x107_61, x107_64, x107_65, ↓reduceIte, Bool.false_eq_true, Nat.reduceAdd, Nat.reduceLT, Nat.reduceLeDiff, Nat.reduceSub, Nat.reduceEqDiff, Int.reduceToNat, Int.reduceEq, Int.reduceLT, Int.reduceLE, Int.reduceAdd, Int.reduceSub, zg, zI, zJ, zR, zst, zkl, zn, zcat, zok, zraw, List.length_cons, List.length_nil, Option.toList, List.nil_append, List.cons_append, true_and, and_true, if_true, if_false, ne_eq, not_true, not_false_eq_true, and_self, true_or, or_true, false_or, or_false, false_and, and_false, b_2 hc, b_3 hc, b_9 hc, b_12 hc, b_26 hc, b_40 hc, b_46 hc, b_47 hc, b_60 hc, b_62 hc, b_63 hc, b_76 hc, b_77 hc, b_90 hc, b_91 hc, b_104 hc, b_107 hc, b_114 hc, b_115 hc, b_122 hc, b_123 hc, b_131 hc, b_2 hc, r_2_0 hc, r_2_1 hc, r_2_2 hc, r_2_3 hc, r_2_4 hc, r_2_5 hc, x_61 hc, n_61 hc, r_2_6 hc, r_2_7 hc, r_2_8 hc, r_2_9 hc, b_46 hc, r_46_0 hc, r_46_1 hc, x_54 hc, r_46_2 hc, x_55 hc, r_46_3 hc, x_56 hc, r_46_4 hc, x_57 hc, r_46_5 hc, x_58 hc, r_46_6 hc, x_59 hc, b_47 hc, r_47_0 hc, x_48 hc, n_48 hc, x_48 hc, n_48 hc, r_48_0 hc, x_49 hc, r_48_1 hc, x_50 hc, r_48_2 hc, x_51 hc, r_48_3 hc, x_52 hc, r_48_4 hc, x_53 hc, cIsTile _ h.1, hd0, q0, q1, q2, q3, q4]
            exact hno (by unfold okSet; omega)
          · simp (disch := omega) only [x107_0, x107_1, x107_2, x107_5, x107_8, x107_9, x107_10, x107_13, x107_14, x107_15, x107_18, x107_19, x107_20, x107_21, x107_22, x107_25, x107_26, x107_29, x107_31, x107_33, x107_34, x107_37, x107_38, x107_40, x107_43, x107_44, x107_45, x107_46, x107_49, x107_52, x107_55, x107_56, x107_57, x107_58, x107_59, x107_60, x107_61, x107_64, x107_65, ↓reduceIte, Bool.false_eq_true, Nat.reduceAdd, Nat.reduceLT, Nat.reduceLeDiff, Nat.reduceSub, Nat.reduceEqDiff, Int.reduceToNat, Int.reduceEq, Int.reduceLT, Int.reduceLE, Int.reduceAdd, Int.reduceSub, zg, zI, zJ, zR, zst, zkl, zn, zcat, zok, zraw, List.length_cons, List.length_nil, Option.toList, List.nil_append, List.cons_append, true_and, and_true, if_true, if_false, ne_eq, not_true, not_false_eq_true, and_self, true_or, or_true, false_or, or_false, false_and, and_false, b_2 hc, b_3 hc, b_9 hc, b_12 hc, b_26 hc, b_40 hc, b_46 hc, b_47 hc, b_60 hc, b_62 hc, b_63 hc, b_76 hc, b_77 hc, b_90 hc, b_91 hc, b_104 hc, b_107 hc, b_114 hc, b_115 hc, b_122 hc, b_123 hc, b_131 hc, b_2 hc, r_2_0 hc, r_2_1 hc, r_2_2 hc, r_2_3 hc, r_2_4 hc, r_2_5 hc, x_61 hc, n_61 hc, r_2_6 hc, r_2_7 hc, r_2_8 hc, r_2_9 hc, b_46 hc, r_46_0 hc, r_46_1 hc, x_54 hc, r_46_2 hc, x_55 hc, r_46_3 hc, x_56 hc, r_46_4 hc, x_57 hc, r_46_5 hc, x_58 hc, r_46_6 hc, x_59 hc, b_47 hc, r_47_0 hc, x_48 hc, n_48 hc, x_48 hc, n_48 hc, r_48_0 hc, x_49 hc, r_48_1 hc, x_50 hc, r_48_2 hc, x_51 hc, r_48_3 hc, x_52 hc, r_48_4 hc, x_53 hc, cIsTile _ h.1, hd0, q0, q1, q2, q3, q4]
            exact hno (by unfold okSet; omega)
        · have hok : ∀ {μ'} (m : Nat), k = (m : Int) → okSet σ N k v → CL μ μ' → CS θ T U (stR σ (mkF (gR (sG σ)) m N v)) μ' → Q (some (vi 1)) θ μ' := fun m hm ok h1 h2 => by
            have := hQ _ h1 (by unfold sSet; rw [if_pos ok, hm]; exact h2)
            unfold vSet at this
            rwa [if_pos ok] at this
          obtain hk | hk | hk | hk : k = 1 ∨ k = 2 ∨ k = 3 ∨ k = 4 := by omega
          · by_cases q5 : v ≤ 1
            · have ok : okSet σ N k v := ⟨q0, by omega, by omega, by rw [hk]; simp; omega⟩
              have hok' := fun {μ'} => hok (μ' := μ') 1 hk ok
              subst hk
              simp (disch := omega) only [x107_0, x107_1, x107_2, x107_5, x107_8, x107_9, x107_10, x107_13, x107_14, x107_15, x107_18, x107_19, x107_20, x107_21, x107_22, x107_25, x107_26, x107_29, x107_31, x107_33, x107_34, x107_37, x107_38, x107_40, x107_43, x107_44, x107_45, x107_46, x107_49, x107_52, x107_55, x107_56, x107_57, x107_58, x107_59, x107_60, x107_61, x107_64, x107_65, ↓reduceIte, Bool.false_eq_true, Nat.reduceAdd, Nat.reduceLT, Nat.reduceLeDiff, Nat.reduceSub, Nat.reduceEqDiff, Int.reduceToNat, Int.reduceEq, Int.reduceLT, Int.reduceLE, Int.reduceAdd, Int.reduceSub, zg, zI, zJ, zR, zst, zkl, zn, zcat, zok, zraw, List.length_cons, List.length_nil, Option.toList, List.nil_append, List.cons_append, true_and, and_true, if_true, if_false, ne_eq, not_true, not_false_eq_true, and_self, true_or, or_true, false_or, or_false, false_and, and_false, b_2 hc, b_3 hc, b_9 hc, b_12 hc, b_26 hc, b_40 hc, b_46 hc, b_47 hc, b_60 hc, b_62 hc, b_63 hc, b_76 hc, b_77 hc, b_90 hc, b_91 hc, b_104 hc, b_107 hc, b_114 hc, b_115 hc, b_122 hc, b_123 hc, b_131 hc, b_2 hc, r_2_0 hc, r_2_1 hc, r_2_2 hc, r_2_3 hc, r_2_4 hc, r_2_5 hc, x_61 hc, n_61 hc, r_2_6 hc, r_2_7 hc, r_2_8 hc, r_2_9 hc, b_46 hc, r_46_0 hc, r_46_1 hc, x_54 hc, r_46_2 hc, x_55 hc, r_46_3 hc, x_56 hc, r_46_4 hc, x_57 hc, r_46_5 hc, x_58 hc, r_46_6 hc, x_59 hc, b_47 hc, r_47_0 hc, x_48 hc, n_48 hc, x_48 hc, n_48 hc, r_48_0 hc, x_49 hc, r_48_1 hc, x_50 hc, r_48_2 hc, x_51 hc, r_48_3 hc, x_52 hc, r_48_4 hc, x_53 hc, cIsTile _ h.1, hd0, q0, q3, Int.toNat_natCast, ua_eq]
              rw [if_pos (by omega)]
              refine cForgetPlans (d := d - 1) hc (by omega) ?_
              intro μ1 hf p9 p10 p4
              simp (disch := omega) only [x107_0, x107_1, x107_2, x107_5, x107_8, x107_9, x107_10, x107_13, x107_14, x107_15, x107_18, x107_19, x107_20, x107_21, x107_22, x107_25, x107_26, x107_29, x107_31, x107_33, x107_34, x107_37, x107_38, x107_40, x107_43, x107_44, x107_45, x107_46, x107_49, x107_52, x107_55, x107_56, x107_57, x107_58, x107_59, x107_60, x107_61, x107_64, x107_65, ↓reduceIte, Bool.false_eq_true, Nat.reduceAdd, Nat.reduceLT, Nat.reduceLeDiff, Nat.reduceSub, Nat.reduceEqDiff, Int.reduceToNat, Int.reduceEq, Int.reduceLT, Int.reduceLE, Int.reduceAdd, Int.reduceSub, zg, zI, zJ, zR, zst, zkl, zn, zcat, zok, zraw, List.length_cons, List.length_nil, Option.toList, List.nil_append, List.cons_append, true_and, and_true, if_true, if_false, ne_eq, not_true, not_false_eq_true, and_self, true_or, or_true, false_or, or_false, false_and, and_false, b_2 hc, b_3 hc, b_9 hc, b_12 hc, b_26 hc, b_40 hc, b_46 hc, b_47 hc, b_60 hc, b_62 hc, b_63 hc, b_76 hc, b_77 hc, b_90 hc, b_91 hc, b_104 hc, b_107 hc, b_114 hc, b_115 hc, b_122 hc, b_123 hc, b_131 hc]
              refine hok' ?_ ?_
              · intro a ha
                rw [hf a (by simp; omega), us_ne (by omega)]
              · refine CS_mark h (by decide) hN (fun _ => by omega) (by omega) (fun a ha => ?_) ?_ p9 p10 p4
                · simp at ha
                  rw [hf a (by simp; omega), us_ne (by omega)]
                · rw [hf _ (by decide)]; exact us_same
            · have nok : ¬ okSet σ N k v := fun hh => q5 (by have := hh.2.2.2; rw [hk] at this; simpa using this)
              have hno' := hno nok
              subst hk
              simp (disch := omega) only [x107_0, x107_1, x107_2, x107_5, x107_8, x107_9, x107_10, x107_13, x107_14, x107_15, x107_18, x107_19, x107_20, x107_21, x107_22, x107_25, x107_26, x107_29, x107_31, x107_33, x107_34, x107_37, x107_38, x107_40, x107_43, x107_44, x107_45, x107_46, x107_49, x107_52, x107_55, x107_56, x107_57, x107_58, x107_59, x107_60, x107_61, x107_64, x107_65, ↓reduceIte, Bool.false_eq_true, Nat.reduceAdd, Nat.reduceLT, Nat.reduceLeDiff, Nat.reduceSub, Nat.reduceEqDiff, Int.reduceToNat, Int.reduceEq, Int.reduceLT, Int.reduceLE, Int.reduceAdd, Int.reduceSub, zg, zI, zJ, zR, zst, zkl, zn, zcat, zok, zraw, List.length_cons, List.length_nil, Option.toList, List.nil_append, List.cons_append, true_and, and_true, if_true, if_false, ne_eq, not_true, not_false_eq_true, and_self, true_or, or_true, false_or, or_false, false_and, and_false, b_2 hc, b_3 hc, b_9 hc, b_12 hc, b_26 hc, b_40 hc, b_46 hc, b_47 hc, b_60 hc, b_62 hc, b_63 hc, b_76 hc, b_77 hc, b_90 hc, b_91 hc, b_104 hc, b_107 hc, b_114 hc, b_115 hc, b_122 hc, b_123 hc, b_131 hc, b_2 hc, r_2_0 hc, r_2_1 hc, r_2_2 hc, r_2_3 hc, r_2_4 hc, r_2_5 hc, x_61 hc, n_61 hc, r_2_6 hc, r_2_7 hc, r_2_8 hc, r_2_9 hc, b_46 hc, r_46_0 hc, r_46_1 hc, x_54 hc, r_46_2 hc, x_55 hc, r_46_3 hc, x_56 hc, r_46_4 hc, x_57 hc, r_46_5 hc, x_58 hc, r_46_6 hc, x_59 hc, b_47 hc, r_47_0 hc, x_48 hc, n_48 hc, x_48 hc, n_48 hc, r_48_0 hc, x_49 hc, r_48_1 hc, x_50 hc, r_48_2 hc, x_51 hc, r_48_3 hc, x_52 hc, r_48_4 hc, x_53 hc, cIsTile _ h.1, hd0, q0, q3, q5]
              try rw [if_neg (by omega)]
              exact hno'
          · by_cases q5 : v ≤ 1
            · have ok : okSet σ N k v := ⟨q0, by omega, by omega, by rw [hk]; simp; omega⟩
              have hok' := fun {μ'} => hok (μ' := μ') 2 hk ok
              subst hk
              simp (disch := omega) only [x107_0, x107_1, x107_2, x107_5, x107_8, x107_9, x107_10, x107_13, x107_14, x107_15, x107_18, x107_19, x107_20, x107_21, x107_22, x107_25, x107_26, x107_29, x107_31, x107_33, x107_34, x107_37, x107_38, x107_40, x107_43, x107_44, x107_45, x107_46, x107_49, x107_52, x107_55, x107_56, x107_57, x107_58, x107_59, x107_60, x107_61, x107_64, x107_65, ↓reduceIte, Bool.false_eq_true, Nat.reduceAdd, Nat.reduceLT, Nat.reduceLeDiff, Nat.reduceSub, Nat.reduceEqDiff, Int.reduceToNat, Int.reduceEq, Int.reduceLT, Int.reduceLE, Int.reduceAdd, Int.reduceSub, zg, zI, zJ, zR, zst, zkl, zn, zcat, zok, zraw, List.length_cons, List.length_nil, Option.toList, List.nil_append, List.cons_append, true_and, and_true, if_true, if_false, ne_eq, not_true, not_false_eq_true, and_self, true_or, or_true, false_or, or_false, false_and, and_false, b_2 hc, b_3 hc, b_9 hc, b_12 hc, b_26 hc, b_40 hc, b_46 hc, b_47 hc, b_60 hc, b_62 hc, b_63 hc, b_76 hc, b_77 hc, b_90 hc, b_91 hc, b_104 hc, b_107 hc, b_114 hc, b_115 hc, b_122 hc, b_123 hc, b_131 hc, b_2 hc, r_2_0 hc, r_2_1 hc, r_2_2 hc, r_2_3 hc, r_2_4 hc, r_2_5 hc, x_61 hc, n_61 hc, r_2_6 hc, r_2_7 hc, r_2_8 hc, r_2_9 hc, b_46 hc, r_46_0 hc, r_46_1 hc, x_54 hc, r_46_2 hc, x_55 hc, r_46_3 hc, x_56 hc, r_46_4 hc, x_57 hc, r_46_5 hc, x_58 hc, r_46_6 hc, x_59 hc, b_47 hc, r_47_0 hc, x_48 hc, n_48 hc, x_48 hc, n_48 hc, r_48_0 hc, x_49 hc, r_48_1 hc, x_50 hc, r_48_2 hc, x_51 hc, r_48_3 hc, x_52 hc, r_48_4 hc, x_53 hc, cIsTile _ h.1, hd0, q0, q3, Int.toNat_natCast, ua_eq]
              rw [if_pos (by omega)]
              refine cForgetPlans (d := d - 1) hc (by omega) ?_
              intro μ1 hf p9 p10 p4
              simp (disch := omega) only [x107_0, x107_1, x107_2, x107_5, x107_8, x107_9, x107_10, x107_13, x107_14, x107_15, x107_18, x107_19, x107_20, x107_21, x107_22, x107_25, x107_26, x107_29, x107_31, x107_33, x107_34, x107_37, x107_38, x107_40, x107_43, x107_44, x107_45, x107_46, x107_49, x107_52, x107_55, x107_56, x107_57, x107_58, x107_59, x107_60, x107_61, x107_64, x107_65, ↓reduceIte, Bool.false_eq_true, Nat.reduceAdd, Nat.reduceLT, Nat.reduceLeDiff, Nat.reduceSub, Nat.reduceEqDiff, Int.reduceToNat, Int.reduceEq, Int.reduceLT, Int.reduceLE, Int.reduceAdd, Int.reduceSub, zg, zI, zJ, zR, zst, zkl, zn, zcat, zok, zraw, List.length_cons, List.length_nil, Option.toList, List.nil_append, List.cons_append, true_and, and_true, if_true, if_false, ne_eq, not_true, not_false_eq_true, and_self, true_or, or_true, false_or, or_false, false_and, and_false, b_2 hc, b_3 hc, b_9 hc, b_12 hc, b_26 hc, b_40 hc, b_46 hc, b_47 hc, b_60 hc, b_62 hc, b_63 hc, b_76 hc, b_77 hc, b_90 hc, b_91 hc, b_104 hc, b_107 hc, b_114 hc, b_115 hc, b_122 hc, b_123 hc, b_131 hc]
              refine hok' ?_ ?_
              · intro a ha
                rw [hf a (by simp; omega), us_ne (by omega)]
              · refine CS_mark h (by decide) hN (fun _ => by omega) (by omega) (fun a ha => ?_) ?_ p9 p10 p4
                · simp at ha
                  rw [hf a (by simp; omega), us_ne (by omega)]
                · rw [hf _ (by decide)]; exact us_same
            · have nok : ¬ okSet σ N k v := fun hh => q5 (by have := hh.2.2.2; rw [hk] at this; simpa using this)
              have hno' := hno nok
              subst hk
              simp (disch := omega) only [x107_0, x107_1, x107_2, x107_5, x107_8, x107_9, x107_10, x107_13, x107_14, x107_15, x107_18, x107_19, x107_20, x107_21, x107_22, x107_25, x107_26, x107_29, x107_31, x107_33, x107_34, x107_37, x107_38, x107_40, x107_43, x107_44, x107_45, x107_46, x107_49, x107_52, x107_55, x107_56, x107_57, x107_58, x107_59, x107_60, x107_61, x107_64, x107_65, ↓reduceIte, Bool.false_eq_true, Nat.reduceAdd, Nat.reduceLT, Nat.reduceLeDiff, Nat.reduceSub, Nat.reduceEqDiff, Int.reduceToNat, Int.reduceEq, Int.reduceLT, Int.reduceLE, Int.reduceAdd, Int.reduceSub, zg, zI, zJ, zR, zst, zkl, zn, zcat, zok, zraw, List.length_cons, List.length_nil, Option.toList, List.nil_append, List.cons_append, true_and, and_true, if_true, if_false, ne_eq, not_true, not_false_eq_true, and_self, true_or, or_true, false_or, or_false, false_and, and_false, b_2 hc, b_3 hc, b_9 hc, b_12 hc, b_26 hc, b_40 hc, b_46 hc, b_47 hc, b_60 hc, b_62 hc, b_63 hc, b_76 hc, b_77 hc, b_90 hc, b_91 hc, b_104 hc, b_107 hc, b_114 hc, b_115 hc, b_122 hc, b_123 hc, b_131 hc, b_2 hc, r_2_0 hc, r_2_1 hc, r_2_2 hc, r_2_3 hc, r_2_4 hc, r_2_5 hc, x_61 hc, n_61 hc, r_2_6 hc, r_2_7 hc, r_2_8 hc, r_2_9 hc, b_46 hc, r_46_0 hc, r_46_1 hc, x_54 hc, r_46_2 hc, x_55 hc, r_46_3 hc, x_56 hc, r_46_4 hc, x_57 hc, r_46_5 hc, x_58 hc, r_46_6 hc, x_59 hc, b_47 hc, r_47_0 hc, x_48 hc, n_48 hc, x_48 hc, n_48 hc, r_48_0 hc, x_49 hc, r_48_1 hc, x_50 hc, r_48_2 hc, x_51 hc, r_48_3 hc, x_52 hc, r_48_4 hc, x_53 hc, cIsTile _ h.1, hd0, q0, q3, q5]
              try rw [if_neg (by omega)]
              exact hno'
          · by_cases q5 : v ≤ 99
            · have ok : okSet σ N k v := ⟨q0, by omega, by omega, by rw [hk]; simp; omega⟩
              have hok' := fun {μ'} => hok (μ' := μ') 3 hk ok
              subst hk
              simp (disch := omega) only [x107_0, x107_1, x107_2, x107_5, x107_8, x107_9, x107_10, x107_13, x107_14, x107_15, x107_18, x107_19, x107_20, x107_21, x107_22, x107_25, x107_26, x107_29, x107_31, x107_33, x107_34, x107_37, x107_38, x107_40, x107_43, x107_44, x107_45, x107_46, x107_49, x107_52, x107_55, x107_56, x107_57, x107_58, x107_59, x107_60, x107_61, x107_64, x107_65, ↓reduceIte, Bool.false_eq_true, Nat.reduceAdd, Nat.reduceLT, Nat.reduceLeDiff, Nat.reduceSub, Nat.reduceEqDiff, Int.reduceToNat, Int.reduceEq, Int.reduceLT, Int.reduceLE, Int.reduceAdd, Int.reduceSub, zg, zI, zJ, zR, zst, zkl, zn, zcat, zok, zraw, List.length_cons, List.length_nil, Option.toList, List.nil_append, List.cons_append, true_and, and_true, if_true, if_false, ne_eq, not_true, not_false_eq_true, and_self, true_or, or_true, false_or, or_false, false_and, and_false, b_2 hc, b_3 hc, b_9 hc, b_12 hc, b_26 hc, b_40 hc, b_46 hc, b_47 hc, b_60 hc, b_62 hc, b_63 hc, b_76 hc, b_77 hc, b_90 hc, b_91 hc, b_104 hc, b_107 hc, b_114 hc, b_115 hc, b_122 hc, b_123 hc, b_131 hc, b_2 hc, r_2_0 hc, r_2_1 hc, r_2_2 hc, r_2_3 hc, r_2_4 hc, r_2_5 hc, x_61 hc, n_61 hc, r_2_6 hc, r_2_7 hc, r_2_8 hc, r_2_9 hc, b_46 hc, r_46_0 hc, r_46_1 hc, x_54 hc, r_46_2 hc, x_55 hc, r_46_3 hc, x_56 hc, r_46_4 hc, x_57 hc, r_46_5 hc, x_58 hc, r_46_6 hc, x_59 hc, b_47 hc, r_47_0 hc, x_48 hc, n_48 hc, x_48 hc, n_48 hc, r_48_0 hc, x_49 hc, r_48_1 hc, x_50 hc, r_48_2 hc, x_51 hc, r_48_3 hc, x_52 hc, r_48_4 hc, x_53 hc, cIsTile _ h.1, hd0, q0, q3, Int.toNat_natCast, ua_eq]
              rw [if_pos (by omega)]
              refine cForgetPlans (d := d - 1) hc (by omega) ?_
              intro μ1 hf p9 p10 p4
              simp (disch := omega) only [x107_0, x107_1, x107_2, x107_5, x107_8, x107_9, x107_10, x107_13, x107_14, x107_15, x107_18, x107_19, x107_20, x107_21, x107_22, x107_25, x107_26, x107_29, x107_31, x107_33, x107_34, x107_37, x107_38, x107_40, x107_43, x107_44, x107_45, x107_46, x107_49, x107_52, x107_55, x107_56, x107_57, x107_58, x107_59, x107_60, x107_61, x107_64, x107_65, ↓reduceIte, Bool.false_eq_true, Nat.reduceAdd, Nat.reduceLT, Nat.reduceLeDiff, Nat.reduceSub, Nat.reduceEqDiff, Int.reduceToNat, Int.reduceEq, Int.reduceLT, Int.reduceLE, Int.reduceAdd, Int.reduceSub, zg, zI, zJ, zR, zst, zkl, zn, zcat, zok, zraw, List.length_cons, List.length_nil, Option.toList, List.nil_append, List.cons_append, true_and, and_true, if_true, if_false, ne_eq, not_true, not_false_eq_true, and_self, true_or, or_true, false_or, or_false, false_and, and_false, b_2 hc, b_3 hc, b_9 hc, b_12 hc, b_26 hc, b_40 hc, b_46 hc, b_47 hc, b_60 hc, b_62 hc, b_63 hc, b_76 hc, b_77 hc, b_90 hc, b_91 hc, b_104 hc, b_107 hc, b_114 hc, b_115 hc, b_122 hc, b_123 hc, b_131 hc]
              refine hok' ?_ ?_
              · intro a ha
                rw [hf a (by simp; omega), us_ne (by omega)]
              · refine CS_mark h (by decide) hN (fun _ => by omega) (by omega) (fun a ha => ?_) ?_ p9 p10 p4
                · simp at ha
                  rw [hf a (by simp; omega), us_ne (by omega)]
                · rw [hf _ (by decide)]; exact us_same
            · have nok : ¬ okSet σ N k v := fun hh => q5 (by have := hh.2.2.2; rw [hk] at this; simpa using this)
              have hno' := hno nok
              subst hk
              simp (disch := omega) only [x107_0, x107_1, x107_2, x107_5, x107_8, x107_9, x107_10, x107_13, x107_14, x107_15, x107_18, x107_19, x107_20, x107_21, x107_22, x107_25, x107_26, x107_29, x107_31, x107_33, x107_34, x107_37, x107_38, x107_40, x107_43, x107_44, x107_45, x107_46, x107_49, x107_52, x107_55, x107_56, x107_57, x107_58, x107_59, x107_60, x107_61, x107_64, x107_65, ↓reduceIte, Bool.false_eq_true, Nat.reduceAdd, Nat.reduceLT, Nat.reduceLeDiff, Nat.reduceSub, Nat.reduceEqDiff, Int.reduceToNat, Int.reduceEq, Int.reduceLT, Int.reduceLE, Int.reduceAdd, Int.reduceSub, zg, zI, zJ, zR, zst, zkl, zn, zcat, zok, zraw, List.length_cons, List.length_nil, Option.toList, List.nil_append, List.cons_append, true_and, and_true, if_true, if_false, ne_eq, not_true, not_false_eq_true, and_self, true_or, or_true, false_or, or_false, false_and, and_false, b_2 hc, b_3 hc, b_9 hc, b_12 hc, b_26 hc, b_40 hc, b_46 hc, b_47 hc, b_60 hc, b_62 hc, b_63 hc, b_76 hc, b_77 hc, b_90 hc, b_91 hc, b_104 hc, b_107 hc, b_114 hc, b_115 hc, b_122 hc, b_123 hc, b_131 hc, b_2 hc, r_2_0 hc, r_2_1 hc, r_2_2 hc, r_2_3 hc, r_2_4 hc, r_2_5 hc, x_61 hc, n_61 hc, r_2_6 hc, r_2_7 hc, r_2_8 hc, r_2_9 hc, b_46 hc, r_46_0 hc, r_46_1 hc, x_54 hc, r_46_2 hc, x_55 hc, r_46_3 hc, x_56 hc, r_46_4 hc, x_57 hc, r_46_5 hc, x_58 hc, r_46_6 hc, x_59 hc, b_47 hc, r_47_0 hc, x_48 hc, n_48 hc, x_48 hc, n_48 hc, r_48_0 hc, x_49 hc, r_48_1 hc, x_50 hc, r_48_2 hc, x_51 hc, r_48_3 hc, x_52 hc, r_48_4 hc, x_53 hc, cIsTile _ h.1, hd0, q0, q3, q5]
              try rw [if_neg (by omega)]
              exact hno'
          · by_cases q5 : v ≤ 99
            · have ok : okSet σ N k v := ⟨q0, by omega, by omega, by rw [hk]; simp; omega⟩
              have hok' := fun {μ'} => hok (μ' := μ') 4 hk ok
              subst hk
              simp (disch := omega) only [x107_0, x107_1, x107_2, x107_5, x107_8, x107_9, x107_10, x107_13, x107_14, x107_15, x107_18, x107_19, x107_20, x107_21, x107_22, x107_25, x107_26, x107_29, x107_31, x107_33, x107_34, x107_37, x107_38, x107_40, x107_43, x107_44, x107_45, x107_46, x107_49, x107_52, x107_55, x107_56, x107_57, x107_58, x107_59, x107_60, x107_61, x107_64, x107_65, ↓reduceIte, Bool.false_eq_true, Nat.reduceAdd, Nat.reduceLT, Nat.reduceLeDiff, Nat.reduceSub, Nat.reduceEqDiff, Int.reduceToNat, Int.reduceEq, Int.reduceLT, Int.reduceLE, Int.reduceAdd, Int.reduceSub, zg, zI, zJ, zR, zst, zkl, zn, zcat, zok, zraw, List.length_cons, List.length_nil, Option.toList, List.nil_append, List.cons_append, true_and, and_true, if_true, if_false, ne_eq, not_true, not_false_eq_true, and_self, true_or, or_true, false_or, or_false, false_and, and_false, b_2 hc, b_3 hc, b_9 hc, b_12 hc, b_26 hc, b_40 hc, b_46 hc, b_47 hc, b_60 hc, b_62 hc, b_63 hc, b_76 hc, b_77 hc, b_90 hc, b_91 hc, b_104 hc, b_107 hc, b_114 hc, b_115 hc, b_122 hc, b_123 hc, b_131 hc, b_2 hc, r_2_0 hc, r_2_1 hc, r_2_2 hc, r_2_3 hc, r_2_4 hc, r_2_5 hc, x_61 hc, n_61 hc, r_2_6 hc, r_2_7 hc, r_2_8 hc, r_2_9 hc, b_46 hc, r_46_0 hc, r_46_1 hc, x_54 hc, r_46_2 hc, x_55 hc, r_46_3 hc, x_56 hc, r_46_4 hc, x_57 hc, r_46_5 hc, x_58 hc, r_46_6 hc, x_59 hc, b_47 hc, r_47_0 hc, x_48 hc, n_48 hc, x_48 hc, n_48 hc, r_48_0 hc, x_49 hc, r_48_1 hc, x_50 hc, r_48_2 hc, x_51 hc, r_48_3 hc, x_52 hc, r_48_4 hc, x_53 hc, cIsTile _ h.1, hd0, q0, q3, Int.toNat_natCast, ua_eq]
              rw [if_pos (by omega)]
              refine cForgetPlans (d := d - 1) hc (by omega) ?_
              intro μ1 hf p9 p10 p4
              simp (disch := omega) only [x107_0, x107_1, x107_2, x107_5, x107_8, x107_9, x107_10, x107_13, x107_14, x107_15, x107_18, x107_19, x107_20, x107_21, x107_22, x107_25, x107_26, x107_29, x107_31, x107_33, x107_34, x107_37, x107_38, x107_40, x107_43, x107_44, x107_45, x107_46, x107_49, x107_52, x107_55, x107_56, x107_57, x107_58, x107_59, x107_60, x107_61, x107_64, x107_65, ↓reduceIte, Bool.false_eq_true, Nat.reduceAdd, Nat.reduceLT, Nat.reduceLeDiff, Nat.reduceSub, Nat.reduceEqDiff, Int.reduceToNat, Int.reduceEq, Int.reduceLT, Int.reduceLE, Int.reduceAdd, Int.reduceSub, zg, zI, zJ, zR, zst, zkl, zn, zcat, zok, zraw, List.length_cons, List.length_nil, Option.toList, List.nil_append, List.cons_append, true_and, and_true, if_true, if_false, ne_eq, not_true, not_false_eq_true, and_self, true_or, or_true, false_or, or_false, false_and, and_false, b_2 hc, b_3 hc, b_9 hc, b_12 hc, b_26 hc, b_40 hc, b_46 hc, b_47 hc, b_60 hc, b_62 hc, b_63 hc, b_76 hc, b_77 hc, b_90 hc, b_91 hc, b_104 hc, b_107 hc, b_114 hc, b_115 hc, b_122 hc, b_123 hc, b_131 hc]
              refine hok' ?_ ?_
              · intro a ha
                rw [hf a (by simp; omega), us_ne (by omega)]
              · refine CS_mark h (by decide) hN (fun _ => by omega) (by omega) (fun a ha => ?_) ?_ p9 p10 p4
                · simp at ha
                  rw [hf a (by simp; omega), us_ne (by omega)]
                · rw [hf _ (by decide)]; exact us_same
            · have nok : ¬ okSet σ N k v := fun hh => q5 (by have := hh.2.2.2; rw [hk] at this; simpa using this)
              have hno' := hno nok
              subst hk
              simp (disch := omega) only [x107_0, x107_1, x107_2, x107_5, x107_8, x107_9, x107_10, x107_13, x107_14, x107_15, x107_18, x107_19, x107_20, x107_21, x107_22, x107_25, x107_26, x107_29, x107_31, x107_33, x107_34, x107_37, x107_38, x107_40, x107_43, x107_44, x107_45, x107_46, x107_49, x107_52, x107_55, x107_56, x107_57, x107_58, x107_59, x107_60, x107_61, x107_64, x107_65, ↓reduceIte, Bool.false_eq_true, Nat.reduceAdd, Nat.reduceLT, Nat.reduceLeDiff, Nat.reduceSub, Nat.reduceEqDiff, Int.reduceToNat, Int.reduceEq, Int.reduceLT, Int.reduceLE, Int.reduceAdd, Int.reduceSub, zg, zI, zJ, zR, zst, zkl, zn, zcat, zok, zraw, List.length_cons, List.length_nil, Option.toList, List.nil_append, List.cons_append, true_and, and_true, if_true, if_false, ne_eq, not_true, not_false_eq_true, and_self, true_or, or_true, false_or, or_false, false_and, and_false, b_2 hc, b_3 hc, b_9 hc, b_12 hc, b_26 hc, b_40 hc, b_46 hc, b_47 hc, b_60 hc, b_62 hc, b_63 hc, b_76 hc, b_77 hc, b_90 hc, b_91 hc, b_104 hc, b_107 hc, b_114 hc, b_115 hc, b_122 hc, b_123 hc, b_131 hc, b_2 hc, r_2_0 hc, r_2_1 hc, r_2_2 hc, r_2_3 hc, r_2_4 hc, r_2_5 hc, x_61 hc, n_61 hc, r_2_6 hc, r_2_7 hc, r_2_8 hc, r_2_9 hc, b_46 hc, r_46_0 hc, r_46_1 hc, x_54 hc, r_46_2 hc, x_55 hc, r_46_3 hc, x_56 hc, r_46_4 hc, x_57 hc, r_46_5 hc, x_58 hc, r_46_6 hc, x_59 hc, b_47 hc, r_47_0 hc, x_48 hc, n_48 hc, x_48 hc, n_48 hc, r_48_0 hc, x_49 hc, r_48_1 hc, x_50 hc, r_48_2 hc, x_51 hc, r_48_3 hc, x_52 hc, r_48_4 hc, x_53 hc, cIsTile _ h.1, hd0, q0, q3, q5]
              try rw [if_neg (by omega)]
              exact hno'
      · simp (disch := omega) only [x107_0, x107_1, x107_2, x107_5, x107_8, x107_9, x107_10, x107_13, x107_14, x107_15, x107_18, x107_19, x107_20, x107_21, x107_22, x107_25, x107_26, x107_29, x107_31, x107_33, x107_34, x107_37, x107_38, x107_40, x107_43, x107_44, x107_45, x107_46, x107_49, x107_52, x107_55, x107_56, x107_57, x107_58, x107_59, x107_60, x107_61, x107_64, x107_65, ↓reduceIte, Bool.false_eq_true, Nat.reduceAdd, Nat.reduceLT, Nat.reduceLeDiff, Nat.reduceSub, Nat.reduceEqDiff, Int.reduceToNat, Int.reduceEq, Int.reduceLT, Int.reduceLE, Int.reduceAdd, Int.reduceSub, zg, zI, zJ, zR, zst, zkl, zn, zcat, zok, zraw, List.length_cons, List.length_nil, Option.toList, List.nil_append, List.cons_append, true_and, and_true, if_true, if_false, ne_eq, not_true, not_false_eq_true, and_self, true_or, or_true, false_or, or_false, false_and, and_false, b_2 hc, b_3 hc, b_9 hc, b_12 hc, b_26 hc, b_40 hc, b_46 hc, b_47 hc, b_60 hc, b_62 hc, b_63 hc, b_76 hc, b_77 hc, b_90 hc, b_91 hc, b_104 hc, b_107 hc, b_114 hc, b_115 hc, b_122 hc, b_123 hc, b_131 hc, b_2 hc, r_2_0 hc, r_2_1 hc, r_2_2 hc, r_2_3 hc, r_2_4 hc, r_2_5 hc, x_61 hc, n_61 hc, r_2_6 hc, r_2_7 hc, r_2_8 hc, r_2_9 hc, b_46 hc, r_46_0 hc, r_46_1 hc, x_54 hc, r_46_2 hc, x_55 hc, r_46_3 hc, x_56 hc, r_46_4 hc, x_57 hc, r_46_5 hc, x_58 hc, r_46_6 hc, x_59 hc, b_47 hc, r_47_0 hc, x_48 hc, n_48 hc, x_48 hc, n_48 hc, r_48_0 hc, x_49 hc, r_48_1 hc, x_50 hc, r_48_2 hc, x_51 hc, r_48_3 hc, x_52 hc, r_48_4 hc, x_53 hc, cIsTile _ h.1, hd0, q0, q1, q2]
        exact hno (by unfold okSet; omega)
  · simp (disch := omega) only [x107_0, x107_1, x107_2, x107_5, x107_8, x107_9, x107_10, x107_13, x107_14, x107_15, x107_18, x107_19, x107_20, x107_21, x107_22, x107_25, x107_26, x107_29, x107_31, x107_33, x107_34, x107_37, x107_38, x107_40, x107_43, x107_44, x107_45, x107_46, x107_49, x107_52, x107_55, x107_56, x107_57, x107_58, x107_59, x107_60, x107_61, x107_64, x107_65, ↓reduceIte, Bool.false_eq_true, Nat.reduceAdd, Nat.reduceLT, Nat.reduceLeDiff, Nat.reduceSub, Nat.reduceEqDiff, Int.reduceToNat, Int.reduceEq, Int.reduceLT, Int.reduceLE, Int.reduceAdd, Int.reduceSub, zg, zI, zJ, zR, zst, zkl, zn, zcat, zok, zraw, List.length_cons, List.length_nil, Option.toList, List.nil_append, List.cons_append, true_and, and_true, if_true, if_false, ne_eq, not_true, not_false_eq_true, and_self, true_or, or_true, false_or, or_false, false_and, and_false, b_2 hc, b_3 hc, b_9 hc, b_12 hc, b_26 hc, b_40 hc, b_46 hc, b_47 hc, b_60 hc, b_62 hc, b_63 hc, b_76 hc, b_77 hc, b_90 hc, b_91 hc, b_104 hc, b_107 hc, b_114 hc, b_115 hc, b_122 hc, b_123 hc, b_131 hc, b_2 hc, r_2_0 hc, r_2_1 hc, r_2_2 hc, r_2_3 hc, r_2_4 hc, r_2_5 hc, x_61 hc, n_61 hc, r_2_6 hc, r_2_7 hc, r_2_8 hc, r_2_9 hc, b_46 hc, r_46_0 hc, r_46_1 hc, x_54 hc, r_46_2 hc, x_55 hc, r_46_3 hc, x_56 hc, r_46_4 hc, x_57 hc, r_46_5 hc, x_58 hc, r_46_6 hc, x_59 hc, b_47 hc, r_47_0 hc, x_48 hc, n_48 hc, x_48 hc, n_48 hc, r_48_0 hc, x_49 hc, r_48_1 hc, x_50 hc, r_48_2 hc, x_51 hc, r_48_3 hc, x_52 hc, r_48_4 hc, x_53 hc, cIsTile _ h.1, hd0, q0]
    exact hno (by unfold okSet; omega)
theorem MS_mark {m N : Nat} {v : Int} (h : MS θ σ s μ) (hm : 1 ≤ m ∧ m ≤ 4) (hN : N < tn (sT σ)) (h0 : m < 3 → v = 0 ∨ v = 1) (h1 : 0 ≤ v ∧ v ≤ 99) : MS θ (stR σ (mkF (gR (sG σ)) m N v)) s (us μ (172 + m) (zup (μ (172 + m)) N v)) := by
  obtain ⟨⟨hw, ha, hb, hc⟩, hd⟩ := h.2.2.1.1
  refine MS_roof h (Fr.us (by simp; omega) Fr.refl) (fun j _ => by rw [us_ne (by omega)]) ⟨⟨mkF_w hw h0 h1, ?_, ?_, ?_⟩, ?_⟩
  · intro t ht
    have := ha t ht
    have key : ∀ a, 1 ≤ a → a ≤ 4 → μ (172 + a) t = (gR (sG σ)).1 a t → us μ (172 + m) (zup (μ (172 + m)) N v) (172 + a) t = (mkF (gR (sG σ)) m N v).1 a t := fun a _ _ e => by
      unfold mkF
      simp only
      by_cases q : a = m
      · subst q; rw [us_same, zup_ap, e]; simp
      · rw [us_ne (by omega), e]; simp [q]
    exact ⟨key 1 (by omega) (by omega) this.1, key 2 (by omega) (by omega) this.2.1, key 3 (by omega) (by omega) this.2.2.1, key 4 (by omega) (by omega) this.2.2.2⟩
  · rw [us_ne (by omega)]; exact hb
  · rw [us_ne (by omega)]; exact hc
  · rw [us_ne (by omega)]
    intro t ht
    have q : ¬ (0 = m) := by omega
    unfold mkF
    simp [q]
    exact hd t ht
theorem rSet {d : Nat} {t k v : Int} (h : MS θ σ s μ) (hd : 11 ≤ d) (hQ : ∀ μ', ML2 μ μ' → MS θ (sSet σ t k v) s μ' → Q (some (vi (vSet σ t k v))) θ μ') : Ex d 208 0 [vr 138, vi t, vi k, vi v] [] θ μ Q := by
  have hm := h.1.1
  have hd0 : 0 < d := by omega
  have hn := tn_b h.1.2.1
  have hno : ¬ okSet σ t k v → Q (some (vi 0)) θ μ := fun hn => by
    have := hQ μ (fun _ _ => rfl) (by unfold sSet; rw [if_neg hn]; exact h)
    unfold vSet at this
    rwa [if_neg hn] at this
  by_cases q0 : 0 ≤ t ∧ t < (tn (sT σ) : Int)
  · by_cases q1 : 1 ≤ k ∧ k ≤ 4
    · obtain ⟨N, rfl⟩ : ∃ N : Nat, t = (N : Int) := ⟨t.toNat, by omega⟩
      have hN : N < tn (sT σ) := by omega
      have hok : ∀ (m : Nat), k = (m : Int) → okSet σ N k v → MS θ (stR σ (mkF (gR (sG σ)) m N v)) s (us μ (172 + m) (zup (μ (172 + m)) N v)) → Q (some (vi 1)) θ (us μ (172 + m) (zup (μ (172 + m)) N v)) := fun m hm ok h2 => by
        have := hQ (us μ (172 + m) (zup (μ (172 + m)) N v)) (fun a ha => us_ne (by omega)) (by unfold sSet; rw [if_pos ok, hm]; exact h2)
        unfold vSet at this
        rwa [if_pos ok] at this
      obtain hk | hk | hk | hk : k = 1 ∨ k = 2 ∨ k = 3 ∨ k = 4 := by omega
      · by_cases q5 : 0 ≤ v ∧ v ≤ 1
        · have ok : okSet σ N k v := ⟨q0, q1, q5.1, by rw [hk]; simp; omega⟩
          have hq := hok 1 hk ok (MS_mark h (by decide) hN (fun _ => by omega) (by omega))
          subst hk
          obtain z | z : v = 0 ∨ v = 1 := by omega
          all_goals
            subst z
            simp (disch := omega) only [x208_0, x208_1, x208_2, x208_5, x208_8, x208_9, x208_10, x208_11, x208_14, x208_17, x208_18, x208_19, x208_20, x208_21, x208_24, x208_25, x208_28, x208_30, x208_33, x208_36, x208_37, x208_38, x208_39, x208_40, x208_43, x208_44, x208_47, x208_48, x208_49, x208_50, x208_53, x208_54, x208_57, x208_58, x208_59, x208_62, x208_63, x208_64, x208_67, x208_68, x208_71, x208_72, x208_73, x208_74, x208_77, x208_78, x208_81, x208_82, x208_83, x208_86, x208_87, x208_88, x208_91, x208_92, x208_95, x208_96, x208_97, x208_98, x208_101, x208_102, x208_105, x208_106, x208_107, x208_108, x208_109, ↓reduceIte, Bool.false_eq_true, Nat.reduceAdd, Nat.reduceLT, Nat.reduceLeDiff, Nat.reduceSub, Nat.reduceEqDiff, Int.reduceToNat, Int.reduceEq, Int.reduceLT, Int.reduceLE, Int.reduceAdd, Int.reduceSub, zg, zI, zJ, zR, zst, zkl, zn, zcat, zok, zraw, List.length_cons, List.length_nil, Option.toList, List.nil_append, List.cons_append, true_and, and_true, if_true, if_false, ne_eq, not_true, not_false_eq_true, and_self, true_or, or_true, false_or, or_false, false_and, and_false, b_138 hm, r_138_51 hm, x_172 hm, n_172 hm, r_138_52 hm, x_173 hm, n_173 hm, r_138_53 hm, x_174 hm, n_174 hm, r_138_54 hm, x_175 hm, r_138_55 hm, x_176 hm, b_138 hm, mIsTile (d := d - 1) h.1 (by omega), mIn, hd0, q0, q1, Int.toNat_natCast, ua_eq]
            exact hq
        · have nok : ¬ okSet σ N k v := fun hh => q5 ⟨hh.2.2.1, by have := hh.2.2.2; rw [hk] at this; simpa using this⟩
          have hno' := hno nok
          subst hk
          simp (disch := omega) only [x208_0, x208_1, x208_2, x208_5, x208_8, x208_9, x208_10, x208_11, x208_14, x208_17, x208_18, x208_19, x208_20, x208_21, x208_24, x208_25, x208_28, x208_30, x208_33, x208_36, x208_37, x208_38, x208_39, x208_40, x208_43, x208_44, x208_47, x208_48, x208_49, x208_50, x208_53, x208_54, x208_57, x208_58, x208_59, x208_62, x208_63, x208_64, x208_67, x208_68, x208_71, x208_72, x208_73, x208_74, x208_77, x208_78, x208_81, x208_82, x208_83, x208_86, x208_87, x208_88, x208_91, x208_92, x208_95, x208_96, x208_97, x208_98, x208_101, x208_102, x208_105, x208_106, x208_107, x208_108, x208_109, ↓reduceIte, Bool.false_eq_true, Nat.reduceAdd, Nat.reduceLT, Nat.reduceLeDiff, Nat.reduceSub, Nat.reduceEqDiff, Int.reduceToNat, Int.reduceEq, Int.reduceLT, Int.reduceLE, Int.reduceAdd, Int.reduceSub, zg, zI, zJ, zR, zst, zkl, zn, zcat, zok, zraw, List.length_cons, List.length_nil, Option.toList, List.nil_append, List.cons_append, true_and, and_true, if_true, if_false, ne_eq, not_true, not_false_eq_true, and_self, true_or, or_true, false_or, or_false, false_and, and_false, b_138 hm, r_138_51 hm, x_172 hm, n_172 hm, r_138_52 hm, x_173 hm, n_173 hm, r_138_53 hm, x_174 hm, n_174 hm, r_138_54 hm, x_175 hm, r_138_55 hm, x_176 hm, b_138 hm, mIsTile (d := d - 1) h.1 (by omega), mIn, hd0, q0, q1, q5]
          exact hno'
      · by_cases q5 : 0 ≤ v ∧ v ≤ 1
        · have ok : okSet σ N k v := ⟨q0, q1, q5.1, by rw [hk]; simp; omega⟩
          have hq := hok 2 hk ok (MS_mark h (by decide) hN (fun _ => by omega) (by omega))
          subst hk
          obtain z | z : v = 0 ∨ v = 1 := by omega
          all_goals
            subst z
            simp (disch := omega) only [x208_0, x208_1, x208_2, x208_5, x208_8, x208_9, x208_10, x208_11, x208_14, x208_17, x208_18, x208_19, x208_20, x208_21, x208_24, x208_25, x208_28, x208_30, x208_33, x208_36, x208_37, x208_38, x208_39, x208_40, x208_43, x208_44, x208_47, x208_48, x208_49, x208_50, x208_53, x208_54, x208_57, x208_58, x208_59, x208_62, x208_63, x208_64, x208_67, x208_68, x208_71, x208_72, x208_73, x208_74, x208_77, x208_78, x208_81, x208_82, x208_83, x208_86, x208_87, x208_88, x208_91, x208_92, x208_95, x208_96, x208_97, x208_98, x208_101, x208_102, x208_105, x208_106, x208_107, x208_108, x208_109, ↓reduceIte, Bool.false_eq_true, Nat.reduceAdd, Nat.reduceLT, Nat.reduceLeDiff, Nat.reduceSub, Nat.reduceEqDiff, Int.reduceToNat, Int.reduceEq, Int.reduceLT, Int.reduceLE, Int.reduceAdd, Int.reduceSub, zg, zI, zJ, zR, zst, zkl, zn, zcat, zok, zraw, List.length_cons, List.length_nil, Option.toList, List.nil_append, List.cons_append, true_and, and_true, if_true, if_false, ne_eq, not_true, not_false_eq_true, and_self, true_or, or_true, false_or, or_false, false_and, and_false, b_138 hm, r_138_51 hm, x_172 hm, n_172 hm, r_138_52 hm, x_173 hm, n_173 hm, r_138_53 hm, x_174 hm, n_174 hm, r_138_54 hm, x_175 hm, r_138_55 hm, x_176 hm, b_138 hm, mIsTile (d := d - 1) h.1 (by omega), mIn, hd0, q0, q1, Int.toNat_natCast, ua_eq]
            exact hq
        · have nok : ¬ okSet σ N k v := fun hh => q5 ⟨hh.2.2.1, by have := hh.2.2.2; rw [hk] at this; simpa using this⟩
          have hno' := hno nok
          subst hk
          simp (disch := omega) only [x208_0, x208_1, x208_2, x208_5, x208_8, x208_9, x208_10, x208_11, x208_14, x208_17, x208_18, x208_19, x208_20, x208_21, x208_24, x208_25, x208_28, x208_30, x208_33, x208_36, x208_37, x208_38, x208_39, x208_40, x208_43, x208_44, x208_47, x208_48, x208_49, x208_50, x208_53, x208_54, x208_57, x208_58, x208_59, x208_62, x208_63, x208_64, x208_67, x208_68, x208_71, x208_72, x208_73, x208_74, x208_77, x208_78, x208_81, x208_82, x208_83, x208_86, x208_87, x208_88, x208_91, x208_92, x208_95, x208_96, x208_97, x208_98, x208_101, x208_102, x208_105, x208_106, x208_107, x208_108, x208_109, ↓reduceIte, Bool.false_eq_true, Nat.reduceAdd, Nat.reduceLT, Nat.reduceLeDiff, Nat.reduceSub, Nat.reduceEqDiff, Int.reduceToNat, Int.reduceEq, Int.reduceLT, Int.reduceLE, Int.reduceAdd, Int.reduceSub, zg, zI, zJ, zR, zst, zkl, zn, zcat, zok, zraw, List.length_cons, List.length_nil, Option.toList, List.nil_append, List.cons_append, true_and, and_true, if_true, if_false, ne_eq, not_true, not_false_eq_true, and_self, true_or, or_true, false_or, or_false, false_and, and_false, b_138 hm, r_138_51 hm, x_172 hm, n_172 hm, r_138_52 hm, x_173 hm, n_173 hm, r_138_53 hm, x_174 hm, n_174 hm, r_138_54 hm, x_175 hm, r_138_55 hm, x_176 hm, b_138 hm, mIsTile (d := d - 1) h.1 (by omega), mIn, hd0, q0, q1, q5]
          exact hno'
      · by_cases q5 : 0 ≤ v ∧ v ≤ 99
        · have ok : okSet σ N k v := ⟨q0, q1, q5.1, by rw [hk]; simp; omega⟩
          have hq := hok 3 hk ok (MS_mark h (by decide) hN (fun _ => by omega) (by omega))
          subst hk
          simp (disch := omega) only [x208_0, x208_1, x208_2, x208_5, x208_8, x208_9, x208_10, x208_11, x208_14, x208_17, x208_18, x208_19, x208_20, x208_21, x208_24, x208_25, x208_28, x208_30, x208_33, x208_36, x208_37, x208_38, x208_39, x208_40, x208_43, x208_44, x208_47, x208_48, x208_49, x208_50, x208_53, x208_54, x208_57, x208_58, x208_59, x208_62, x208_63, x208_64, x208_67, x208_68, x208_71, x208_72, x208_73, x208_74, x208_77, x208_78, x208_81, x208_82, x208_83, x208_86, x208_87, x208_88, x208_91, x208_92, x208_95, x208_96, x208_97, x208_98, x208_101, x208_102, x208_105, x208_106, x208_107, x208_108, x208_109, ↓reduceIte, Bool.false_eq_true, Nat.reduceAdd, Nat.reduceLT, Nat.reduceLeDiff, Nat.reduceSub, Nat.reduceEqDiff, Int.reduceToNat, Int.reduceEq, Int.reduceLT, Int.reduceLE, Int.reduceAdd, Int.reduceSub, zg, zI, zJ, zR, zst, zkl, zn, zcat, zok, zraw, List.length_cons, List.length_nil, Option.toList, List.nil_append, List.cons_append, true_and, and_true, if_true, if_false, ne_eq, not_true, not_false_eq_true, and_self, true_or, or_true, false_or, or_false, false_and, and_false, b_138 hm, r_138_51 hm, x_172 hm, n_172 hm, r_138_52 hm, x_173 hm, n_173 hm, r_138_53 hm, x_174 hm, n_174 hm, r_138_54 hm, x_175 hm, r_138_55 hm, x_176 hm, b_138 hm, mIsTile (d := d - 1) h.1 (by omega), mIn, hd0, q0, q1, q5, Int.toNat_natCast, ua_eq]
          exact hq
        · have nok : ¬ okSet σ N k v := fun hh => q5 ⟨hh.2.2.1, by have := hh.2.2.2; rw [hk] at this; simpa using this⟩
          have hno' := hno nok
          subst hk
          simp (disch := omega) only [x208_0, x208_1, x208_2, x208_5, x208_8, x208_9, x208_10, x208_11, x208_14, x208_17, x208_18, x208_19, x208_20, x208_21, x208_24, x208_25, x208_28, x208_30, x208_33, x208_36, x208_37, x208_38, x208_39, x208_40, x208_43, x208_44, x208_47, x208_48, x208_49, x208_50, x208_53, x208_54, x208_57, x208_58, x208_59, x208_62, x208_63, x208_64, x208_67, x208_68, x208_71, x208_72, x208_73, x208_74, x208_77, x208_78, x208_81, x208_82, x208_83, x208_86, x208_87, x208_88, x208_91, x208_92, x208_95, x208_96, x208_97, x208_98, x208_101, x208_102, x208_105, x208_106, x208_107, x208_108, x208_109, ↓reduceIte, Bool.false_eq_true, Nat.reduceAdd, Nat.reduceLT, Nat.reduceLeDiff, Nat.reduceSub, Nat.reduceEqDiff, Int.reduceToNat, Int.reduceEq, Int.reduceLT, Int.reduceLE, Int.reduceAdd, Int.reduceSub, zg, zI, zJ, zR, zst, zkl, zn, zcat, zok, zraw, List.length_cons, List.length_nil, Option.toList, List.nil_append, List.cons_append, true_and, and_true, if_true, if_false, ne_eq, not_true, not_false_eq_true, and_self, true_or, or_true, false_or, or_false, false_and, and_false, b_138 hm, r_138_51 hm, x_172 hm, n_172 hm, r_138_52 hm, x_173 hm, n_173 hm, r_138_53 hm, x_174 hm, n_174 hm, r_138_54 hm, x_175 hm, r_138_55 hm, x_176 hm, b_138 hm, mIsTile (d := d - 1) h.1 (by omega), mIn, hd0, q0, q1, q5]
          exact hno'
      · by_cases q5 : 0 ≤ v ∧ v ≤ 99
        · have ok : okSet σ N k v := ⟨q0, q1, q5.1, by rw [hk]; simp; omega⟩
          have hq := hok 4 hk ok (MS_mark h (by decide) hN (fun _ => by omega) (by omega))
          subst hk
          simp (disch := omega) only [x208_0, x208_1, x208_2, x208_5, x208_8, x208_9, x208_10, x208_11, x208_14, x208_17, x208_18, x208_19, x208_20, x208_21, x208_24, x208_25, x208_28, x208_30, x208_33, x208_36, x208_37, x208_38, x208_39, x208_40, x208_43, x208_44, x208_47, x208_48, x208_49, x208_50, x208_53, x208_54, x208_57, x208_58, x208_59, x208_62, x208_63, x208_64, x208_67, x208_68, x208_71, x208_72, x208_73, x208_74, x208_77, x208_78, x208_81, x208_82, x208_83, x208_86, x208_87, x208_88, x208_91, x208_92, x208_95, x208_96, x208_97, x208_98, x208_101, x208_102, x208_105, x208_106, x208_107, x208_108, x208_109, ↓reduceIte, Bool.false_eq_true, Nat.reduceAdd, Nat.reduceLT, Nat.reduceLeDiff, Nat.reduceSub, Nat.reduceEqDiff, Int.reduceToNat, Int.reduceEq, Int.reduceLT, Int.reduceLE, Int.reduceAdd, Int.reduceSub, zg, zI, zJ, zR, zst, zkl, zn, zcat, zok, zraw, List.length_cons, List.length_nil, Option.toList, List.nil_append, List.cons_append, true_and, and_true, if_true, if_false, ne_eq, not_true, not_false_eq_true, and_self, true_or, or_true, false_or, or_false, false_and, and_false, b_138 hm, r_138_51 hm, x_172 hm, n_172 hm, r_138_52 hm, x_173 hm, n_173 hm, r_138_53 hm, x_174 hm, n_174 hm, r_138_54 hm, x_175 hm, r_138_55 hm, x_176 hm, b_138 hm, mIsTile (d := d - 1) h.1 (by omega), mIn, hd0, q0, q1, q5, Int.toNat_natCast, ua_eq]
          exact hq
        · have nok : ¬ okSet σ N k v := fun hh => q5 ⟨hh.2.2.1, by have := hh.2.2.2; rw [hk] at this; simpa using this⟩
          have hno' := hno nok
          subst hk
          simp (disch := omega) only [x208_0, x208_1, x208_2, x208_5, x208_8, x208_9, x208_10, x208_11, x208_14, x208_17, x208_18, x208_19, x208_20, x208_21, x208_24, x208_25, x208_28, x208_30, x208_33, x208_36, x208_37, x208_38, x208_39, x208_40, x208_43, x208_44, x208_47, x208_48, x208_49, x208_50, x208_53, x208_54, x208_57, x208_58, x208_59, x208_62, x208_63, x208_64, x208_67, x208_68, x208_71, x208_72, x208_73, x208_74, x208_77, x208_78, x208_81, x208_82, x208_83, x208_86, x208_87, x208_88, x208_91, x208_92, x208_95, x208_96, x208_97, x208_98, x208_101, x208_102, x208_105, x208_106, x208_107, x208_108, x208_109, ↓reduceIte, Bool.false_eq_true, Nat.reduceAdd, Nat.reduceLT, Nat.reduceLeDiff, Nat.reduceSub, Nat.reduceEqDiff, Int.reduceToNat, Int.reduceEq, Int.reduceLT, Int.reduceLE, Int.reduceAdd, Int.reduceSub, zg, zI, zJ, zR, zst, zkl, zn, zcat, zok, zraw, List.length_cons, List.length_nil, Option.toList, List.nil_append, List.cons_append, true_and, and_true, if_true, if_false, ne_eq, not_true, not_false_eq_true, and_self, true_or, or_true, false_or, or_false, false_and, and_false, b_138 hm, r_138_51 hm, x_172 hm, n_172 hm, r_138_52 hm, x_173 hm, n_173 hm, r_138_53 hm, x_174 hm, n_174 hm, r_138_54 hm, x_175 hm, r_138_55 hm, x_176 hm, b_138 hm, mIsTile (d := d - 1) h.1 (by omega), mIn, hd0, q0, q1, q5]
          exact hno'
    · simp (disch := omega) only [x208_0, x208_1, x208_2, x208_5, x208_8, x208_9, x208_10, x208_11, x208_14, x208_17, x208_18, x208_19, x208_20, x208_21, x208_24, x208_25, x208_28, x208_30, x208_33, x208_36, x208_37, x208_38, x208_39, x208_40, x208_43, x208_44, x208_47, x208_48, x208_49, x208_50, x208_53, x208_54, x208_57, x208_58, x208_59, x208_62, x208_63, x208_64, x208_67, x208_68, x208_71, x208_72, x208_73, x208_74, x208_77, x208_78, x208_81, x208_82, x208_83, x208_86, x208_87, x208_88, x208_91, x208_92, x208_95, x208_96, x208_97, x208_98, x208_101, x208_102, x208_105, x208_106, x208_107, x208_108, x208_109, ↓reduceIte, Bool.false_eq_true, Nat.reduceAdd, Nat.reduceLT, Nat.reduceLeDiff, Nat.reduceSub, Nat.reduceEqDiff, Int.reduceToNat, Int.reduceEq, Int.reduceLT, Int.reduceLE, Int.reduceAdd, Int.reduceSub, zg, zI, zJ, zR, zst, zkl, zn, zcat, zok, zraw, List.length_cons, List.length_nil, Option.toList, List.nil_append, List.cons_append, true_and, and_true, if_true, if_false, ne_eq, not_true, not_false_eq_true, and_self, true_or, or_true, false_or, or_false, false_and, and_false, b_138 hm, mIsTile (d := d - 1) h.1 (by omega), mIn, hd0, q0, q1]
      exact hno (by unfold okSet; omega)
  · simp (disch := omega) only [x208_0, x208_1, x208_2, x208_5, x208_8, x208_9, x208_10, x208_11, x208_14, x208_17, x208_18, x208_19, x208_20, x208_21, x208_24, x208_25, x208_28, x208_30, x208_33, x208_36, x208_37, x208_38, x208_39, x208_40, x208_43, x208_44, x208_47, x208_48, x208_49, x208_50, x208_53, x208_54, x208_57, x208_58, x208_59, x208_62, x208_63, x208_64, x208_67, x208_68, x208_71, x208_72, x208_73, x208_74, x208_77, x208_78, x208_81, x208_82, x208_83, x208_86, x208_87, x208_88, x208_91, x208_92, x208_95, x208_96, x208_97, x208_98, x208_101, x208_102, x208_105, x208_106, x208_107, x208_108, x208_109, ↓reduceIte, Bool.false_eq_true, Nat.reduceAdd, Nat.reduceLT, Nat.reduceLeDiff, Nat.reduceSub, Nat.reduceEqDiff, Int.reduceToNat, Int.reduceEq, Int.reduceLT, Int.reduceLE, Int.reduceAdd, Int.reduceSub, zg, zI, zJ, zR, zst, zkl, zn, zcat, zok, zraw, List.length_cons, List.length_nil, Option.toList, List.nil_append, List.cons_append, true_and, and_true, if_true, if_false, ne_eq, not_true, not_false_eq_true, and_self, true_or, or_true, false_or, or_false, false_and, and_false, b_138 hm, mIsTile (d := d - 1) h.1 (by omega), mIn, hd0, q0]
    exact hno (by unfold okSet; omega)
/-- there -/
abbrev okThere (σ : zSt) (t b : Int) : Prop := (0 ≤ t ∧ t < (tn (sT σ) : Int)) ∧ (gR (sG σ)).1 0 t.toNat ≠ b
def sThere (σ : zSt) (t b : Int) : zSt := if okThere σ t b then stR σ (mkF (gR (sG σ)) 0 t.toNat b) else σ
def vThere (σ : zSt) (t b : Int) : Int := if okThere σ t b then 1 else 0
theorem kThere {d : Nat} {t b : Int} {x3 : zV} (h : CS θ T U σ μ) (hd : 7 ≤ d) (hb : b = 0 ∨ b = 1) (hQ : ∀ μ', CL μ μ' → CS θ T U (sThere σ t b) μ' → Q (some (vi (vThere σ t b))) θ μ') : Ex d 108 0 [vr 2, vi t, vi b, x3] [] θ μ Q := by
  have hc := h.1.1.1
  have hd0 : 0 < d := by omega
  have hn := tn_b h.1.2.1
  have hno : ¬ okThere σ t b → Q (some (vi 0)) θ μ := fun hn => by
    have := hQ μ (fun _ _ => rfl) (by unfold sThere; rw [if_neg hn]; exact h)
    unfold vThere at this
    rwa [if_neg hn] at this
  by_cases q0 : 0 ≤ t ∧ t < (tn (sT σ) : Int)
  · obtain ⟨N, rfl⟩ : ∃ N : Nat, t = (N : Int) := ⟨t.toNat, by omega⟩
    have hN : N < tn (sT σ) := by omega
    have e0 : μ 49 N = (gR (sG σ)).1 0 N := h.2.2.1.1.2.2.2.1 0 N (by omega) hN
    by_cases q1 : (gR (sG σ)).1 0 N = b
    · have hno' := hno (fun hh => hh.2 (by rw [Int.toNat_natCast]; exact q1))
      rcases hb with rfl | rfl <;> simp (disch := omega) only [x108_0, x108_1, x108_2, x108_5, x108_8, x108_9, x108_10, x108_11, x108_14, x108_15, x108_18, x108_19, x108_20, x108_21, x108_24, x108_27, x108_30, x108_31, x108_32, x108_33, x108_34, x108_35, x108_38, x108_39, x108_40, x108_41, x108_44, x108_47, x108_50, x108_51, x108_52, x108_53, x108_54, x108_55, x108_56, x108_59, x108_60, ↓reduceIte, Bool.false_eq_true, Nat.reduceAdd, Nat.reduceLT, Nat.reduceLeDiff, Nat.reduceSub, Nat.reduceEqDiff, Int.reduceToNat, Int.reduceEq, Int.reduceLT, Int.reduceLE, Int.reduceAdd, Int.reduceSub, zg, zI, zJ, zR, zst, zkl, zn, zcat, zok, zraw, List.length_cons, List.length_nil, Option.toList, List.nil_append, List.cons_append, true_and, and_true, if_true, if_false, ne_eq, not_true, not_false_eq_true, and_self, true_or, or_true, false_or, or_false, false_and, and_false, b_2 hc, b_3 hc, b_9 hc, b_12 hc, b_26 hc, b_40 hc, b_46 hc, b_47 hc, b_60 hc, b_62 hc, b_63 hc, b_76 hc, b_77 hc, b_90 hc, b_91 hc, b_104 hc, b_107 hc, b_114 hc, b_115 hc, b_122 hc, b_123 hc, b_131 hc, b_2 hc, r_2_0 hc, r_2_1 hc, r_2_2 hc, r_2_3 hc, r_2_4 hc, r_2_5 hc, x_61 hc, n_61 hc, r_2_6 hc, r_2_7 hc, r_2_8 hc, r_2_9 hc, b_46 hc, r_46_0 hc, r_46_1 hc, x_54 hc, r_46_2 hc, x_55 hc, r_46_3 hc, x_56 hc, r_46_4 hc, x_57 hc, r_46_5 hc, x_58 hc, r_46_6 hc, x_59 hc, b_47 hc, r_47_0 hc, x_48 hc, n_48 hc, x_48 hc, n_48 hc, r_48_0 hc, x_49 hc, r_48_1 hc, x_50 hc, r_48_2 hc, x_51 hc, r_48_3 hc, x_52 hc, r_48_4 hc, x_53 hc, cIsTile _ h.1, hd0, q0, Int.toNat_natCast, e0, q1] <;> exact hno'
    · have ok : okThere σ N b := ⟨q0, by rw [Int.toNat_natCast]; exact q1⟩
      have hok : ∀ {μ'}, CL μ μ' → CS θ T U (stR σ (mkF (gR (sG σ)) 0 N b)) μ' → Q (some (vi 1)) θ μ' := fun h1 h2 => by
        have := hQ _ h1 (by unfold sThere; rw [if_pos ok, Int.toNat_natCast]; exact h2)
        unfold vThere at this
        rwa [if_pos ok] at this
      rcases hb with rfl | rfl
      all_goals
        simp (disch := omega) only [x108_0, x108_1, x108_2, x108_5, x108_8, x108_9, x108_10, x108_11, x108_14, x108_15, x108_18, x108_19, x108_20, x108_21, x108_24, x108_27, x108_30, x108_31, x108_32, x108_33, x108_34, x108_35, x108_38, x108_39, x108_40, x108_41, x108_44, x108_47, x108_50, x108_51, x108_52, x108_53, x108_54, x108_55, x108_56, x108_59, x108_60, ↓reduceIte, Bool.false_eq_true, Nat.reduceAdd, Nat.reduceLT, Nat.reduceLeDiff, Nat.reduceSub, Nat.reduceEqDiff, Int.reduceToNat, Int.reduceEq, Int.reduceLT, Int.reduceLE, Int.reduceAdd, Int.reduceSub, zg, zI, zJ, zR, zst, zkl, zn, zcat, zok, zraw, List.length_cons, List.length_nil, Option.toList, List.nil_append, List.cons_append, true_and, and_true, if_true, if_false, ne_eq, not_true, not_false_eq_true, and_self, true_or, or_true, false_or, or_false, false_and, and_false, b_2 hc, b_3 hc, b_9 hc, b_12 hc, b_26 hc, b_40 hc, b_46 hc, b_47 hc, b_60 hc, b_62 hc, b_63 hc, b_76 hc, b_77 hc, b_90 hc, b_91 hc, b_104 hc, b_107 hc, b_114 hc, b_115 hc, b_122 hc, b_123 hc, b_131 hc, b_2 hc, r_2_0 hc, r_2_1 hc, r_2_2 hc, r_2_3 hc, r_2_4 hc, r_2_5 hc, x_61 hc, n_61 hc, r_2_6 hc, r_2_7 hc, r_2_8 hc, r_2_9 hc, b_46 hc, r_46_0 hc, r_46_1 hc, x_54 hc, r_46_2 hc, x_55 hc, r_46_3 hc, x_56 hc, r_46_4 hc, x_57 hc, r_46_5 hc, x_58 hc, r_46_6 hc, x_59 hc, b_47 hc, r_47_0 hc, x_48 hc, n_48 hc, x_48 hc, n_48 hc, r_48_0 hc, x_49 hc, r_48_1 hc, x_50 hc, r_48_2 hc, x_51 hc, r_48_3 hc, x_52 hc, r_48_4 hc, x_53 hc, cIsTile _ h.1, hd0, q0, Int.toNat_natCast, e0, q1, ua_eq]
        refine cForgetPlans (d := d - 1) hc (by omega) ?_
        intro μ1 hf p9 p10 p4
        simp (disch := omega) only [x108_0, x108_1, x108_2, x108_5, x108_8, x108_9, x108_10, x108_11, x108_14, x108_15, x108_18, x108_19, x108_20, x108_21, x108_24, x108_27, x108_30, x108_31, x108_32, x108_33, x108_34, x108_35, x108_38, x108_39, x108_40, x108_41, x108_44, x108_47, x108_50, x108_51, x108_52, x108_53, x108_54, x108_55, x108_56, x108_59, x108_60, ↓reduceIte, Bool.false_eq_true, Nat.reduceAdd, Nat.reduceLT, Nat.reduceLeDiff, Nat.reduceSub, Nat.reduceEqDiff, Int.reduceToNat, Int.reduceEq, Int.reduceLT, Int.reduceLE, Int.reduceAdd, Int.reduceSub, zg, zI, zJ, zR, zst, zkl, zn, zcat, zok, zraw, List.length_cons, List.length_nil, Option.toList, List.nil_append, List.cons_append, true_and, and_true, if_true, if_false, ne_eq, not_true, not_false_eq_true, and_self, true_or, or_true, false_or, or_false, false_and, and_false, b_2 hc, b_3 hc, b_9 hc, b_12 hc, b_26 hc, b_40 hc, b_46 hc, b_47 hc, b_60 hc, b_62 hc, b_63 hc, b_76 hc, b_77 hc, b_90 hc, b_91 hc, b_104 hc, b_107 hc, b_114 hc, b_115 hc, b_122 hc, b_123 hc, b_131 hc]
        refine hok ?_ ?_
        · intro a ha
          rw [hf a (by simp; omega), us_ne (by omega)]
        · refine CS_mark h (by decide) hN (fun _ => by omega) (by omega) (fun a ha => ?_) ?_ p9 p10 p4
          · simp at ha
            rw [hf a (by simp; omega), us_ne (by omega)]
          · rw [hf _ (by decide)]; exact us_same
  · simp (disch := omega) only [x108_0, x108_1, x108_2, x108_5, x108_8, x108_9, x108_10, x108_11, x108_14, x108_15, x108_18, x108_19, x108_20, x108_21, x108_24, x108_27, x108_30, x108_31, x108_32, x108_33, x108_34, x108_35, x108_38, x108_39, x108_40, x108_41, x108_44, x108_47, x108_50, x108_51, x108_52, x108_53, x108_54, x108_55, x108_56, x108_59, x108_60, ↓reduceIte, Bool.false_eq_true, Nat.reduceAdd, Nat.reduceLT, Nat.reduceLeDiff, Nat.reduceSub, Nat.reduceEqDiff, Int.reduceToNat, Int.reduceEq, Int.reduceLT, Int.reduceLE, Int.reduceAdd, Int.reduceSub, zg, zI, zJ, zR, zst, zkl, zn, zcat, zok, zraw, List.length_cons, List.length_nil, Option.toList, List.nil_append, List.cons_append, true_and, and_true, if_true, if_false, ne_eq, not_true, not_false_eq_true, and_self, true_or, or_true, false_or, or_false, false_and, and_false, b_2 hc, b_3 hc, b_9 hc, b_12 hc, b_26 hc, b_40 hc, b_46 hc, b_47 hc, b_60 hc, b_62 hc, b_63 hc, b_76 hc, b_77 hc, b_90 hc, b_91 hc, b_104 hc, b_107 hc, b_114 hc, b_115 hc, b_122 hc, b_123 hc, b_131 hc, b_2 hc, r_2_0 hc, r_2_1 hc, r_2_2 hc, r_2_3 hc, r_2_4 hc, r_2_5 hc, x_61 hc, n_61 hc, r_2_6 hc, r_2_7 hc, r_2_8 hc, r_2_9 hc, b_46 hc, r_46_0 hc, r_46_1 hc, x_54 hc, r_46_2 hc, x_55 hc, r_46_3 hc, x_56 hc, r_46_4 hc, x_57 hc, r_46_5 hc, x_58 hc, r_46_6 hc, x_59 hc, b_47 hc, r_47_0 hc, x_48 hc, n_48 hc, x_48 hc, n_48 hc, r_48_0 hc, x_49 hc, r_48_1 hc, x_50 hc, r_48_2 hc, x_51 hc, r_48_3 hc, x_52 hc, r_48_4 hc, x_53 hc, cIsTile _ h.1, hd0, q0]
    exact hno (fun hh => q0 hh.1)
theorem MS_there {N : Nat} {b : Int} (h : MS θ σ s μ) (hN : N < tn (sT σ)) (hb : b = 0 ∨ b = 1) : MS θ (stR σ (mkF (gR (sG σ)) 0 N b)) s (us μ 172 (zup (μ 172) N (1 - b))) := by
  obtain ⟨⟨hw, ha, hbb, hc⟩, hd⟩ := h.2.2.1.1
  refine MS_roof h (Fr.us (by simp) Fr.refl) (fun j _ => by rw [us_ne (by omega)]) ⟨⟨mkF_w hw (fun _ => hb) (by omega), ?_, ?_, ?_⟩, ?_⟩
  · intro t ht
    have := ha t ht
    rw [us_ne (by omega), us_ne (by omega), us_ne (by omega), us_ne (by omega)]
    unfold mkF
    simpa using this
  · rw [us_ne (by omega)]; exact hbb
  · rw [us_ne (by omega)]; exact hc
  · intro t ht
    rw [us_same, zup_ap]
    unfold mkF
    by_cases q : t = N
    · simp [q]
    · simp [q]; exact hd t ht
theorem rThere {d : Nat} {t b : Int} (h : MS θ σ s μ) (hd : 11 ≤ d) (hb : b = 0 ∨ b = 1) (hQ : ∀ μ', ML2 μ μ' → MS θ (sThere σ t b) s μ' → Q (some (vi (vThere σ t b))) θ μ') : Ex d 209 0 [vr 138, vi t, vi b] [] θ μ Q := by
  have hm := h.1.1
  have hd0 : 0 < d := by omega
  have hn := tn_b h.1.2.1
  have hno : ¬ okThere σ t b → Q (some (vi 0)) θ μ := fun hn => by
    have := hQ μ (fun _ _ => rfl) (by unfold sThere; rw [if_neg hn]; exact h)
    unfold vThere at this
    rwa [if_neg hn] at this
  by_cases q0 : 0 ≤ t ∧ t < (tn (sT σ) : Int)
  · obtain ⟨N, rfl⟩ : ∃ N : Nat, t = (N : Int) := ⟨t.toNat, by omega⟩
    have hN : N < tn (sT σ) := by omega
    have e0 := h.2.2.1.1.2 N hN
    have hw := (h.2.1.2.1.1.1 N hN).1
    by_cases q1 : (gR (sG σ)).1 0 N = b
    · have hno' := hno (fun hh => hh.2 (by rw [Int.toNat_natCast]; exact q1))
      have q2 : ¬ ((1 : Int) - (gR (sG σ)).1 0 N = b) := by omega
      simp (disch := omega) only [x209_0, x209_1, x209_2, x209_5, x209_8, x209_9, x209_12, x209_13, x209_14, x209_15, x209_18, x209_19, x209_20, x209_21, x209_24, x209_25, x209_26, x209_29, x209_30, x209_33, x209_34, x209_35, x209_36, ↓reduceIte, Bool.false_eq_true, Nat.reduceAdd, Nat.reduceLT, Nat.reduceLeDiff, Nat.reduceSub, Nat.reduceEqDiff, Int.reduceToNat, Int.reduceEq, Int.reduceLT, Int.reduceLE, Int.reduceAdd, Int.reduceSub, zg, zI, zJ, zR, zst, zkl, zn, zcat, zok, zraw, List.length_cons, List.length_nil, Option.toList, List.nil_append, List.cons_append, true_and, and_true, if_true, if_false, ne_eq, not_true, not_false_eq_true, and_self, true_or, or_true, false_or, or_false, false_and, and_false, b_138 hm, r_138_51 hm, x_172 hm, n_172 hm, b_138 hm, mIsTile (d := d - 1) h.1 (by omega), hd0, q0, Int.toNat_natCast, e0, q2]
      exact hno'
    · have ok : okThere σ N b := ⟨q0, by rw [Int.toNat_natCast]; exact q1⟩
      have q2 : (1 : Int) - (gR (sG σ)).1 0 N = b := by omega
      have hok := hQ (us μ 172 (zup (μ 172) N (1 - b))) (fun a ha => us_ne (by omega)) (by unfold sThere; rw [if_pos ok, Int.toNat_natCast]; exact MS_there h hN hb)
      unfold vThere at hok
      rw [if_pos ok] at hok
      rcases hb with rfl | rfl
      all_goals
        simp (disch := omega) only [x209_0, x209_1, x209_2, x209_5, x209_8, x209_9, x209_12, x209_13, x209_14, x209_15, x209_18, x209_19, x209_20, x209_21, x209_24, x209_25, x209_26, x209_29, x209_30, x209_33, x209_34, x209_35, x209_36, ↓reduceIte, Bool.false_eq_true, Nat.reduceAdd, Nat.reduceLT, Nat.reduceLeDiff, Nat.reduceSub, Nat.reduceEqDiff, Int.reduceToNat, Int.reduceEq, Int.reduceLT, Int.reduceLE, Int.reduceAdd, Int.reduceSub, zg, zI, zJ, zR, zst, zkl, zn, zcat, zok, zraw, List.length_cons, List.length_nil, Option.toList, List.nil_append, List.cons_append, true_and, and_true, if_true, if_false, ne_eq, not_true, not_false_eq_true, and_self, true_or, or_true, false_or, or_false, false_and, and_false, b_138 hm, r_138_51 hm, x_172 hm, n_172 hm, b_138 hm, mIsTile (d := d - 1) h.1 (by omega), hd0, q0, Int.toNat_natCast, e0, q2, ua_eq]
        exact hok
  · simp (disch := omega) only [x209_0, x209_1, x209_2, x209_5, x209_8, x209_9, x209_12, x209_13, x209_14, x209_15, x209_18, x209_19, x209_20, x209_21, x209_24, x209_25, x209_26, x209_29, x209_30, x209_33, x209_34, x209_35, x209_36, ↓reduceIte, Bool.false_eq_true, Nat.reduceAdd, Nat.reduceLT, Nat.reduceLeDiff, Nat.reduceSub, Nat.reduceEqDiff, Int.reduceToNat, Int.reduceEq, Int.reduceLT, Int.reduceLE, Int.reduceAdd, Int.reduceSub, zg, zI, zJ, zR, zst, zkl, zn, zcat, zok, zraw, List.length_cons, List.length_nil, Option.toList, List.nil_append, List.cons_append, true_and, and_true, if_true, if_false, ne_eq, not_true, not_false_eq_true, and_self, true_or, or_true, false_or, or_false, false_and, and_false, b_138 hm, mIsTile (d := d - 1) h.1 (by omega), hd0, q0]
    exact hno (fun hh => q0 hh.1)
/-- felt -/
def feS (σ : zSt) (b : Int) : zSt := stR σ ((gR (sG σ)).1, (gR (sG σ)).2.1, b)
theorem kFelt {d : Nat} {b : Int} {x2 : zV} (h : CS θ T U σ μ) (hd : 7 ≤ d) (hb : b = 0 ∨ b = 1) (hQ : ∀ μ', CL μ μ' → CS θ T U (feS σ b) μ' → Q (some (vi (gR (sG σ)).2.2)) θ μ') : Ex d 110 0 [vr 2, vi b, x2] [] θ μ Q := by
  have hc := h.1.1.1
  have hd0 : 0 < d := by omega
  have hF := h.2.2.1.1
  obtain ⟨_, hw, r1, r2, r3, r4⟩ := hF
  have e47 : μ 47 3 = (gR (sG σ)).2.2 := r4
  simp (disch := omega) only [x110_0, x110_1, x110_4, x110_7, x110_10, x110_11, x110_12, x110_15, x110_18, x110_19, x110_22, x110_23, x110_26, x110_27, ↓reduceIte, Bool.false_eq_true, Nat.reduceAdd, Nat.reduceLT, Nat.reduceLeDiff, Nat.reduceSub, Nat.reduceEqDiff, Int.reduceToNat, Int.reduceEq, Int.reduceLT, Int.reduceLE, Int.reduceAdd, Int.reduceSub, zg, zI, zJ, zR, zst, zkl, zn, zcat, zok, zraw, List.length_cons, List.length_nil, Option.toList, List.nil_append, List.cons_append, true_and, and_true, if_true, if_false, ne_eq, not_true, not_false_eq_true, and_self, true_or, or_true, false_or, or_false, false_and, and_false, b_2 hc, b_3 hc, b_9 hc, b_12 hc, b_26 hc, b_40 hc, b_46 hc, b_47 hc, b_60 hc, b_62 hc, b_63 hc, b_76 hc, b_77 hc, b_90 hc, b_91 hc, b_104 hc, b_107 hc, b_114 hc, b_115 hc, b_122 hc, b_123 hc, b_131 hc, b_2 hc, r_2_0 hc, r_2_1 hc, r_2_2 hc, r_2_3 hc, r_2_4 hc, r_2_5 hc, x_61 hc, n_61 hc, r_2_6 hc, r_2_7 hc, r_2_8 hc, r_2_9 hc, b_46 hc, r_46_0 hc, r_46_1 hc, x_54 hc, r_46_2 hc, x_55 hc, r_46_3 hc, x_56 hc, r_46_4 hc, x_57 hc, r_46_5 hc, x_58 hc, r_46_6 hc, x_59 hc, b_47 hc, r_47_0 hc, x_48 hc, n_48 hc, x_48 hc, n_48 hc, r_48_0 hc, x_49 hc, r_48_1 hc, x_50 hc, r_48_2 hc, x_51 hc, r_48_3 hc, x_52 hc, r_48_4 hc, x_53 hc, hd0, e47, ua_eq]
  refine ⟨hb, ?_⟩
  refine cForgetPlans (d := d - 1) hc (by omega) ?_
  intro μ1 hf p9 p10 p4
  simp (disch := omega) only [x110_0, x110_1, x110_4, x110_7, x110_10, x110_11, x110_12, x110_15, x110_18, x110_19, x110_22, x110_23, x110_26, x110_27, ↓reduceIte, Bool.false_eq_true, Nat.reduceAdd, Nat.reduceLT, Nat.reduceLeDiff, Nat.reduceSub, Nat.reduceEqDiff, Int.reduceToNat, Int.reduceEq, Int.reduceLT, Int.reduceLE, Int.reduceAdd, Int.reduceSub, zg, zI, zJ, zR, zst, zkl, zn, zcat, zok, zraw, List.length_cons, List.length_nil, Option.toList, List.nil_append, List.cons_append, true_and, and_true, if_true, if_false, ne_eq, not_true, not_false_eq_true, and_self, true_or, or_true, false_or, or_false, false_and, and_false, b_2 hc, b_3 hc, b_9 hc, b_12 hc, b_26 hc, b_40 hc, b_46 hc, b_47 hc, b_60 hc, b_62 hc, b_63 hc, b_76 hc, b_77 hc, b_90 hc, b_91 hc, b_104 hc, b_107 hc, b_114 hc, b_115 hc, b_122 hc, b_123 hc, b_131 hc]
  have g47 : μ1 47 = zup (μ 47) 3 b := by rw [hf 47 (by decide)]; exact us_same
  refine hQ μ1 (fun a ha => by rw [hf a (by simp; omega), us_ne (by omega)]) (CS_roof h (fun a ha => by rw [hf a (fun hh => ha (by simp at hh ⊢; omega)), us_ne (fun hh => ha (by simp [hh]))]) ⟨hw.1, hw.2.1, hb⟩ ⟨?_, ?_, ?_, ?_⟩ ?_ p9 p10 p4)
  · rw [g47, zup_ne (by omega)]; exact r1
  · intro a q ha hq
    rw [hf (47 + (a + 2)) (by simp; omega), us_ne (by omega)]; exact r2 a q ha hq
  · rw [g47, zup_ne (by omega)]; exact r3
  · rw [g47, zup_same rfl]
  · rw [g47, zup_ne (by omega)]; exact h.2.2.1.2.1
theorem rFelt {d : Nat} {b : Int} {x2 : zV} (h : MS θ σ s μ) (hd : 11 ≤ d) (hb : b = 0 ∨ b = 1) (hQ : ∀ μ', ML2 μ μ' → MS θ (feS σ b) s μ' → Q (some (vi (gR (sG σ)).2.2)) θ μ') : Ex d 211 0 [vr 138, vi b, x2] [] θ μ Q := by
  have hm := h.1.1
  obtain ⟨⟨hw, ha, hbb, hc⟩, hd'⟩ := h.2.2.1.1
  have e57 : μ 138 57 = (gR (sG σ)).2.2 := hc
  have hq := hQ (us μ 138 (zup (μ 138) 57 b)) (fun a ha => us_ne (by omega)) (MS_roof h (Fr.us (by simp) Fr.refl) (fun j hj => by rw [us_same, zup_ne hj]) ⟨⟨⟨hw.1, hw.2.1, hb⟩, fun t ht => by rw [us_ne (by omega), us_ne (by omega), us_ne (by omega), us_ne (by omega)]; exact ha t ht, by rw [us_ne (by omega)]; exact hbb, by rw [us_same, zup_same rfl]⟩, by rw [us_ne (by omega)]; exact hd'⟩)
  rcases hb with rfl | rfl
  all_goals
    simp (disch := omega) only [x211_0, x211_1, x211_4, x211_5, x211_6, x211_7, x211_10, x211_11, ↓reduceIte, Bool.false_eq_true, Nat.reduceAdd, Nat.reduceLT, Nat.reduceLeDiff, Nat.reduceSub, Nat.reduceEqDiff, Int.reduceToNat, Int.reduceEq, Int.reduceLT, Int.reduceLE, Int.reduceAdd, Int.reduceSub, zg, zI, zJ, zR, zst, zkl, zn, zcat, zok, zraw, List.length_cons, List.length_nil, Option.toList, List.nil_append, List.cons_append, true_and, and_true, if_true, if_false, ne_eq, not_true, not_false_eq_true, and_self, true_or, or_true, false_or, or_false, false_and, and_false, b_138 hm, e57, ua_eq]
    exact ⟨hw.2.2, hq⟩
/-- door -/
def vDoor (σ : zSt) (k n : Int) : Int := if (0 ≤ k ∧ k < (tD (sT σ) : Int)) ∧ 0 ≤ n ∧ n ≤ 2 then (if n = 0 then tS (sT σ) k.toNat else if n = 1 then tZ (sT σ) k.toNat else (gR (sG σ)).2.1 k.toNat) else -1
theorem kDoor {d : Nat} {k n : Int} (h : CS θ T U σ μ) (hd : 7 ≤ d) (hQ : Q (some (vi (vDoor σ k n))) θ μ) : Ex d 111 0 [vr 2, vi k, vi n] [] θ μ Q := by
  have hc := h.1.1.1
  have hT := h.1.1.2.1
  have h2T := h.1.1.2.2.2.2.1
  have hd0 : 0 < d := by omega
  have hD : tD (sT σ) ≤ 6 := h.1.2.1.2.2.2.2.1
  unfold vDoor at hQ
  by_cases q0 : 0 ≤ k ∧ k < (tD (sT σ) : Int)
  · obtain ⟨N, rfl⟩ : ∃ N : Nat, k = (N : Int) := ⟨k.toNat, by omega⟩
    have hN : N < tD (sT σ) := by omega
    by_cases q1 : 0 ≤ n ∧ n ≤ 2
    · rw [if_pos ⟨q0, q1⟩, Int.toNat_natCast] at hQ
      have e0 := (h.1.2.2.1.2.2.2.1 N hN).1
      have e1 := (h.1.2.2.1.2.2.2.1 N hN).2
      have e2 := h.2.2.1.1.2.2.2.2.1 N hN
      obtain hk | hk | hk : n = 0 ∨ n = 1 ∨ n = 2 := by omega
      all_goals
        subst hk
        simp (disch := omega) only [x111_0, x111_1, x111_2, x111_5, x111_8, x111_9, x111_10, x111_11, x111_36, x111_37, x111_40, x111_43, x111_44, x111_45, x111_46, x111_47, x111_50, x111_53, x111_54, x111_55, x111_56, x111_57, x111_60, x111_63, x111_66, x111_67, x111_68, x111_69, x111_70, x111_71, x111_72, ↓reduceIte, Bool.false_eq_true, Nat.reduceAdd, Nat.reduceLT, Nat.reduceLeDiff, Nat.reduceSub, Nat.reduceEqDiff, Int.reduceToNat, Int.reduceEq, Int.reduceLT, Int.reduceLE, Int.reduceAdd, Int.reduceSub, zg, zI, zJ, zR, zst, zkl, zn, zcat, zok, zraw, List.length_cons, List.length_nil, Option.toList, List.nil_append, List.cons_append, true_and, and_true, if_true, if_false, ne_eq, not_true, not_false_eq_true, and_self, true_or, or_true, false_or, or_false, false_and, and_false, b_2 hc, b_3 hc, b_9 hc, b_12 hc, b_26 hc, b_40 hc, b_46 hc, b_47 hc, b_60 hc, b_62 hc, b_63 hc, b_76 hc, b_77 hc, b_90 hc, b_91 hc, b_104 hc, b_107 hc, b_114 hc, b_115 hc, b_122 hc, b_123 hc, b_131 hc, b_2 hc, r_2_0 hc, r_2_1 hc, r_2_2 hc, r_2_3 hc, r_2_4 hc, r_2_5 hc, x_61 hc, n_61 hc, r_2_6 hc, r_2_7 hc, r_2_8 hc, r_2_9 hc, b_46 hc, r_46_0 hc, r_46_1 hc, x_54 hc, r_46_2 hc, x_55 hc, r_46_3 hc, x_56 hc, r_46_4 hc, x_57 hc, r_46_5 hc, x_58 hc, r_46_6 hc, x_59 hc, tb hT, Tq1 hT, Tq2 hT, tr_0 hT, tr_1 hT, tr_2 hT, tr_3 hT, tr_4 hT, tr_5 hT, tr_6 hT, tr_7 hT, tr_8 hT, tr_9 hT, tr_10 hT, tr_11 hT, tr_12 hT, tx_1 hT, tx_2 hT, tx_3 hT, tx_4 hT, tx_5 hT, tx_6 hT, tx_7 hT, tx_8 hT, tx_9 hT, tx_10 hT, tx_11 hT, tx_12 hT, tx_13 hT, b_47 hc, r_47_0 hc, x_48 hc, n_48 hc, x_48 hc, n_48 hc, r_48_0 hc, x_49 hc, r_48_1 hc, x_50 hc, r_48_2 hc, x_51 hc, r_48_3 hc, x_52 hc, r_48_4 hc, x_53 hc, cIsDoor _ h.1, hd0, q0, h2T, Int.toNat_natCast, e0, e1, e2] at hQ ⊢
        exact hQ
    · rw [if_neg (by omega)] at hQ
      have k0 : ¬ n = 0 := by omega
      have k1 : ¬ n = 1 := by omega
      have k2 : ¬ n = 2 := by omega
      simp (disch := omega) only [x111_0, x111_1, x111_2, x111_5, x111_8, x111_9, x111_10, x111_11, x111_36, x111_37, x111_40, x111_43, x111_44, x111_45, x111_46, x111_47, x111_50, x111_53, x111_54, x111_55, x111_56, x111_57, x111_60, x111_63, x111_66, x111_67, x111_68, x111_69, x111_70, x111_71, x111_72, ↓reduceIte, Bool.false_eq_true, Nat.reduceAdd, Nat.reduceLT, Nat.reduceLeDiff, Nat.reduceSub, Nat.reduceEqDiff, Int.reduceToNat, Int.reduceEq, Int.reduceLT, Int.reduceLE, Int.reduceAdd, Int.reduceSub, zg, zI, zJ, zR, zst, zkl, zn, zcat, zok, zraw, List.length_cons, List.length_nil, Option.toList, List.nil_append, List.cons_append, true_and, and_true, if_true, if_false, ne_eq, not_true, not_false_eq_true, and_self, true_or, or_true, false_or, or_false, false_and, and_false, b_2 hc, b_3 hc, b_9 hc, b_12 hc, b_26 hc, b_40 hc, b_46 hc, b_47 hc, b_60 hc, b_62 hc, b_63 hc, b_76 hc, b_77 hc, b_90 hc, b_91 hc, b_104 hc, b_107 hc, b_114 hc, b_115 hc, b_122 hc, b_123 hc, b_131 hc, b_2 hc, r_2_0 hc, r_2_1 hc, r_2_2 hc, r_2_3 hc, r_2_4 hc, r_2_5 hc, x_61 hc, n_61 hc, r_2_6 hc, r_2_7 hc, r_2_8 hc, r_2_9 hc, b_46 hc, r_46_0 hc, r_46_1 hc, x_54 hc, r_46_2 hc, x_55 hc, r_46_3 hc, x_56 hc, r_46_4 hc, x_57 hc, r_46_5 hc, x_58 hc, r_46_6 hc, x_59 hc, tb hT, Tq1 hT, Tq2 hT, tr_0 hT, tr_1 hT, tr_2 hT, tr_3 hT, tr_4 hT, tr_5 hT, tr_6 hT, tr_7 hT, tr_8 hT, tr_9 hT, tr_10 hT, tr_11 hT, tr_12 hT, tx_1 hT, tx_2 hT, tx_3 hT, tx_4 hT, tx_5 hT, tx_6 hT, tx_7 hT, tx_8 hT, tx_9 hT, tx_10 hT, tx_11 hT, tx_12 hT, tx_13 hT, b_47 hc, r_47_0 hc, x_48 hc, n_48 hc, x_48 hc, n_48 hc, r_48_0 hc, x_49 hc, r_48_1 hc, x_50 hc, r_48_2 hc, x_51 hc, r_48_3 hc, x_52 hc, r_48_4 hc, x_53 hc, cIsDoor _ h.1, hd0, q0, k0, k1, k2]
      exact hQ
  · rw [if_neg (by omega)] at hQ
    simp (disch := omega) only [x111_0, x111_1, x111_2, x111_5, x111_8, x111_9, x111_10, x111_11, x111_36, x111_37, x111_40, x111_43, x111_44, x111_45, x111_46, x111_47, x111_50, x111_53, x111_54, x111_55, x111_56, x111_57, x111_60, x111_63, x111_66, x111_67, x111_68, x111_69, x111_70, x111_71, x111_72, ↓reduceIte, Bool.false_eq_true, Nat.reduceAdd, Nat.reduceLT, Nat.reduceLeDiff, Nat.reduceSub, Nat.reduceEqDiff, Int.reduceToNat, Int.reduceEq, Int.reduceLT, Int.reduceLE, Int.reduceAdd, Int.reduceSub, zg, zI, zJ, zR, zst, zkl, zn, zcat, zok, zraw, List.length_cons, List.length_nil, Option.toList, List.nil_append, List.cons_append, true_and, and_true, if_true, if_false, ne_eq, not_true, not_false_eq_true, and_self, true_or, or_true, false_or, or_false, false_and, and_false, b_2 hc, b_3 hc, b_9 hc, b_12 hc, b_26 hc, b_40 hc, b_46 hc, b_47 hc, b_60 hc, b_62 hc, b_63 hc, b_76 hc, b_77 hc, b_90 hc, b_91 hc, b_104 hc, b_107 hc, b_114 hc, b_115 hc, b_122 hc, b_123 hc, b_131 hc, b_2 hc, r_2_0 hc, r_2_1 hc, r_2_2 hc, r_2_3 hc, r_2_4 hc, r_2_5 hc, x_61 hc, n_61 hc, r_2_6 hc, r_2_7 hc, r_2_8 hc, r_2_9 hc, b_46 hc, r_46_0 hc, r_46_1 hc, x_54 hc, r_46_2 hc, x_55 hc, r_46_3 hc, x_56 hc, r_46_4 hc, x_57 hc, r_46_5 hc, x_58 hc, r_46_6 hc, x_59 hc, tb hT, Tq1 hT, Tq2 hT, tr_0 hT, tr_1 hT, tr_2 hT, tr_3 hT, tr_4 hT, tr_5 hT, tr_6 hT, tr_7 hT, tr_8 hT, tr_9 hT, tr_10 hT, tr_11 hT, tr_12 hT, tx_1 hT, tx_2 hT, tx_3 hT, tx_4 hT, tx_5 hT, tx_6 hT, tx_7 hT, tx_8 hT, tx_9 hT, tx_10 hT, tx_11 hT, tx_12 hT, tx_13 hT, b_47 hc, r_47_0 hc, x_48 hc, n_48 hc, x_48 hc, n_48 hc, r_48_0 hc, x_49 hc, r_48_1 hc, x_50 hc, r_48_2 hc, x_51 hc, r_48_3 hc, x_52 hc, r_48_4 hc, x_53 hc, cIsDoor _ h.1, hd0, q0]
    exact hQ
theorem rDoor {d : Nat} {k n : Int} (h : MS θ σ s μ) (hd : 11 ≤ d) (hQ : Q (some (vi (vDoor σ k n))) θ μ) : Ex d 212 0 [vr 138, vi k, vi n] [] θ μ Q := by
  have hm := h.1.1
  have hd0 : 0 < d := by omega
  have hD : tD (sT σ) ≤ 6 := h.1.2.1.2.2.2.2.1
  have h18 := h.1.2.2.2.1
  have hs := h.1.2.2.2.2
  unfold vDoor at hQ
  by_cases q0 : 0 ≤ k ∧ k < (tD (sT σ) : Int)
  · obtain ⟨N, rfl⟩ : ∃ N : Nat, k = (N : Int) := ⟨k.toNat, by omega⟩
    have hN : N < tD (sT σ) := by omega
    by_cases q1 : 0 ≤ n ∧ n ≤ 2
    · rw [if_pos ⟨q0, q1⟩, Int.toNat_natCast] at hQ
      have e0 := (h.1.2.2.1.2.1.2 N hN).1
      have e1 := (h.1.2.2.1.2.1.2 N hN).2.1
      have e2 := h.2.2.1.1.1.2.2.1 N hN
      have a1 : w32 (6 * (s : Int)) = ((6 * s : Nat) : Int) := by rw [w32_i (by omega) (by omega)]; omega
      have a2 : w32 (((6 * s : Nat) : Int) + (N : Int)) = ((6 * s + N : Nat) : Int) := by rw [w32_i (by omega) (by omega)]; omega
      have hw := h.2.1.2.1.1.2.1 N hN
      obtain hk | hk | hk : n = 0 ∨ n = 1 ∨ n = 2 := by omega
      · subst hk
        simp (disch := omega) only [x212_0, x212_1, x212_2, x212_5, x212_8, x212_9, x212_10, x212_11, x212_36, x212_37, x212_40, x212_42, x212_43, x212_46, x212_47, x212_48, x212_49, x212_50, x212_51, x212_52, x212_55, x212_57, x212_58, x212_61, x212_62, x212_63, x212_64, x212_65, x212_66, x212_67, x212_70, x212_71, x212_72, x212_75, x212_76, x212_79, x212_80, x212_81, x212_82, ↓reduceIte, Bool.false_eq_true, Nat.reduceAdd, Nat.reduceLT, Nat.reduceLeDiff, Nat.reduceSub, Nat.reduceEqDiff, Int.reduceToNat, Int.reduceEq, Int.reduceLT, Int.reduceLE, Int.reduceAdd, Int.reduceSub, zg, zI, zJ, zR, zst, zkl, zn, zcat, zok, zraw, List.length_cons, List.length_nil, Option.toList, List.nil_append, List.cons_append, true_and, and_true, if_true, if_false, ne_eq, not_true, not_false_eq_true, and_self, true_or, or_true, false_or, or_false, false_and, and_false, b_138 hm, r_138_33 hm, x_158 hm, r_138_34 hm, x_159 hm, r_138_56 hm, x_177 hm, n_177 hm, b_138 hm, mIsDoor h.1, hd0, q0, h18, a1, a2, Int.toNat_natCast, e0] at hQ ⊢
        exact hQ
      · subst hk
        simp (disch := omega) only [x212_0, x212_1, x212_2, x212_5, x212_8, x212_9, x212_10, x212_11, x212_36, x212_37, x212_40, x212_42, x212_43, x212_46, x212_47, x212_48, x212_49, x212_50, x212_51, x212_52, x212_55, x212_57, x212_58, x212_61, x212_62, x212_63, x212_64, x212_65, x212_66, x212_67, x212_70, x212_71, x212_72, x212_75, x212_76, x212_79, x212_80, x212_81, x212_82, ↓reduceIte, Bool.false_eq_true, Nat.reduceAdd, Nat.reduceLT, Nat.reduceLeDiff, Nat.reduceSub, Nat.reduceEqDiff, Int.reduceToNat, Int.reduceEq, Int.reduceLT, Int.reduceLE, Int.reduceAdd, Int.reduceSub, zg, zI, zJ, zR, zst, zkl, zn, zcat, zok, zraw, List.length_cons, List.length_nil, Option.toList, List.nil_append, List.cons_append, true_and, and_true, if_true, if_false, ne_eq, not_true, not_false_eq_true, and_self, true_or, or_true, false_or, or_false, false_and, and_false, b_138 hm, r_138_33 hm, x_158 hm, r_138_34 hm, x_159 hm, r_138_56 hm, x_177 hm, n_177 hm, b_138 hm, mIsDoor h.1, hd0, q0, h18, a1, a2, Int.toNat_natCast, e1] at hQ ⊢
        exact hQ
      · subst hk
        rcases hw with z | z <;> simp (disch := omega) only [x212_0, x212_1, x212_2, x212_5, x212_8, x212_9, x212_10, x212_11, x212_36, x212_37, x212_40, x212_42, x212_43, x212_46, x212_47, x212_48, x212_49, x212_50, x212_51, x212_52, x212_55, x212_57, x212_58, x212_61, x212_62, x212_63, x212_64, x212_65, x212_66, x212_67, x212_70, x212_71, x212_72, x212_75, x212_76, x212_79, x212_80, x212_81, x212_82, ↓reduceIte, Bool.false_eq_true, Nat.reduceAdd, Nat.reduceLT, Nat.reduceLeDiff, Nat.reduceSub, Nat.reduceEqDiff, Int.reduceToNat, Int.reduceEq, Int.reduceLT, Int.reduceLE, Int.reduceAdd, Int.reduceSub, zg, zI, zJ, zR, zst, zkl, zn, zcat, zok, zraw, List.length_cons, List.length_nil, Option.toList, List.nil_append, List.cons_append, true_and, and_true, if_true, if_false, ne_eq, not_true, not_false_eq_true, and_self, true_or, or_true, false_or, or_false, false_and, and_false, b_138 hm, r_138_33 hm, x_158 hm, r_138_34 hm, x_159 hm, r_138_56 hm, x_177 hm, n_177 hm, b_138 hm, mIsDoor h.1, hd0, q0, Int.toNat_natCast, e2, z] at hQ ⊢ <;> exact hQ
    · rw [if_neg (by omega)] at hQ
      have k0 : ¬ n = 0 := by omega
      have k1 : ¬ n = 1 := by omega
      have k2 : ¬ n = 2 := by omega
      simp (disch := omega) only [x212_0, x212_1, x212_2, x212_5, x212_8, x212_9, x212_10, x212_11, x212_36, x212_37, x212_40, x212_42, x212_43, x212_46, x212_47, x212_48, x212_49, x212_50, x212_51, x212_52, x212_55, x212_57, x212_58, x212_61, x212_62, x212_63, x212_64, x212_65, x212_66, x212_67, x212_70, x212_71, x212_72, x212_75, x212_76, x212_79, x212_80, x212_81, x212_82, ↓reduceIte, Bool.false_eq_true, Nat.reduceAdd, Nat.reduceLT, Nat.reduceLeDiff, Nat.reduceSub, Nat.reduceEqDiff, Int.reduceToNat, Int.reduceEq, Int.reduceLT, Int.reduceLE, Int.reduceAdd, Int.reduceSub, zg, zI, zJ, zR, zst, zkl, zn, zcat, zok, zraw, List.length_cons, List.length_nil, Option.toList, List.nil_append, List.cons_append, true_and, and_true, if_true, if_false, ne_eq, not_true, not_false_eq_true, and_self, true_or, or_true, false_or, or_false, false_and, and_false, b_138 hm, mIsDoor h.1, hd0, q0, k0, k1, k2]
      exact hQ
  · rw [if_neg (by omega)] at hQ
    simp (disch := omega) only [x212_0, x212_1, x212_2, x212_5, x212_8, x212_9, x212_10, x212_11, x212_36, x212_37, x212_40, x212_42, x212_43, x212_46, x212_47, x212_48, x212_49, x212_50, x212_51, x212_52, x212_55, x212_57, x212_58, x212_61, x212_62, x212_63, x212_64, x212_65, x212_66, x212_67, x212_70, x212_71, x212_72, x212_75, x212_76, x212_79, x212_80, x212_81, x212_82, ↓reduceIte, Bool.false_eq_true, Nat.reduceAdd, Nat.reduceLT, Nat.reduceLeDiff, Nat.reduceSub, Nat.reduceEqDiff, Int.reduceToNat, Int.reduceEq, Int.reduceLT, Int.reduceLE, Int.reduceAdd, Int.reduceSub, zg, zI, zJ, zR, zst, zkl, zn, zcat, zok, zraw, List.length_cons, List.length_nil, Option.toList, List.nil_append, List.cons_append, true_and, and_true, if_true, if_false, ne_eq, not_true, not_false_eq_true, and_self, true_or, or_true, false_or, or_false, false_and, and_false, b_138 hm, mIsDoor h.1, hd0, q0]
    exact hQ
end CR
