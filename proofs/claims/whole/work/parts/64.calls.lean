/-! CALLS that change the roof; small askings -/
def stR (σ : zSt) (ρ : zF) : zSt := (σ.1, (ρ, σ.2.1.2), σ.2.2)
section CR
variable {θ : zS} {T U : Nat} {σ : zSt} {Q : Option zV → zS → zM → Prop} {μ : zM} {s : Nat}
theorem wfS_roof {ρ : zF} (h : wfS σ) (hr : wfF (sT σ) ρ) : wfS (stR σ ρ) := by
  obtain ⟨hw, ⟨_, hy, hcar, hu⟩, hl, hv, ht, hm⟩ := h
  exact ⟨hw, ⟨hr, hy, hcar, hu⟩, hl, hv, ht, hm⟩
theorem CS_roof {μ' : zM} {ρ : zF} (h : CS θ T U σ μ) (hf : Fr [47, 49, 50, 51, 52, 53, 104, 122] μ μ') (hr : wfF (sT σ) ρ) (hR : RC (sT σ) ρ 47 μ') (hb : 0 ≤ μ' 47 2 ∧ μ' 47 2 < 64)
    (h9 : μ' 104 9 = -1) (h10 : μ' 104 10 = -1) (h4 : μ' 122 4 = 0) : CS θ T U (stR σ ρ) μ' := by
  obtain ⟨hX, hw, ⟨⟨r1, r2, r3⟩, hb0, hy, hcar, hu⟩, hk, ht, hl, hv, htp, hp⟩ := h
  have e : ∀ a, a ∉ [47, 49, 50, 51, 52, 53, 104, 122] → μ' a = μ a := fun a ha => hf a ha
  refine ⟨CX_fr hX hf (by decide), wfS_roof hw hr, ⟨⟨r1, hr, hR⟩, hb, ?_, ?_, ?_⟩, ?_, ?_, ?_, ?_, ?_, ?_⟩
  · rw [e (46 + 8) (by decide)]; exact hy
  · rw [e 46 (by decide), e (46 + 9) (by decide), e (46 + 10) (by decide)]; exact hcar
  · unfold CU; rw [e 46 (by decide), e (46 + 11) (by decide), e (46 + 12) (by decide), e (46 + 13) (by decide)]; exact hu
  · exact ⟨fun n _ hn => by omega, fun n _ hn => by omega⟩
  · refine ⟨Or.inl h4, ?_⟩
    rw [e 130 (by decide)]; exact ht.2
  · exact CSl_fr (σ := σ) hl (fun a h1 h2 => e a (by simp; omega))
  · unfold CV; rw [e 131 (by decide), e 132 (by decide), e 133 (by decide), e 134 (by decide), e 135 (by decide), e 136 (by decide)]; exact hv
  · rw [e 3 (by decide), e 7 (by decide)]; exact htp
  · rw [e 2 (by decide)]; unfold CWd; rw [e 8 (by decide)]; exact hp
theorem MS_roof {μ' : zM} {ρ : zF} (h : MS θ σ s μ) (hf : Fr [138, 172, 173, 174, 175, 176, 177] μ μ') (hj : ∀ j, j ≠ 57 → μ' 138 j = μ 138 j) (hR : MR (sT σ) ρ μ') : MS θ (stR σ ρ) s μ' := by
  obtain ⟨hX, hw, ⟨_, hy, hcar, hu⟩, hl, hv, htp, hp⟩ := h
  have e : ∀ a, a ∉ [138, 172, 173, 174, 175, 176, 177] → μ' a = μ a := fun a ha => hf a ha
  refine ⟨MX_fr hX hf (by decide) (hj 18 (by omega)), wfS_roof hw hR.1.1, ⟨hR, ?_, ?_, ?_⟩, ?_, ?_, ?_, ?_⟩
  · rw [e 178 (by decide)]; exact hy
  · rw [hj 59 (by omega), e 179 (by decide), e 180 (by decide)]; exact hcar
  · unfold MU; rw [hj 62 (by omega), e 181 (by decide), e 182 (by decide), e 183 (by decide)]; exact hu
  · intro i hi
    have := hl i hi
    show match sL σ i with
      | none => μ' 198 i = 0
      | some γ => μ' 198 i = 1 ∧ MHn (sT σ) γ i μ'
    cases hs : sL σ i with
    | none => rw [hs] at this; simp only at this ⊢; rw [e 198 (by decide)]; exact this
    | some γ =>
      rw [hs] at this
      simp only at this ⊢
      unfold MHn
      rw [e 198 (by decide), e 199 (by decide), e 200 (by decide), e 201 (by decide), e 202 (by decide), e 203 (by decide), e 204 (by decide), e 205 (by decide), e 206 (by decide), e 207 (by decide), e 208 (by decide), e 209 (by decide), e 210 (by decide), e 211 (by decide), e 212 (by decide), e 213 (by decide)]
      exact this
  · unfold MV2; rw [hj 78 (by omega), e 193 (by decide), e 194 (by decide), e 195 (by decide), e 196 (by decide), e 197 (by decide)]; exact hv
  · rw [hj 2 (by omega), e 139 (by decide)]; exact htp
  · rw [hj 17 (by omega)]; unfold MKd; rw [e 145 (by decide)]
    refine ⟨hp.1, hp.2.1, ?_⟩
    show TS (sT σ) s μ'
    unfold TS TQb; rw [e 152 (by decide), e 153 (by decide), e 155 (by decide), e 156 (by decide), e 164 (by decide), e 166 (by decide)]; exact hp.2.2
/-- tile -/
def vTile (σ : zSt) (t k : Int) : Int := if (0 ≤ t ∧ t < (tn (sT σ) : Int)) ∧ 0 ≤ k ∧ k ≤ 5 then (if k = 5 then edO (sT σ) t.toNat else (gR (sG σ)).1 k.toNat t.toNat) else -1
theorem kTile {d : Nat} {t k : Int} (h : CS θ T U σ μ) (hd : 7 ≤ d) (hQ : Q (some (vi (vTile σ t k))) θ μ) : Ex d 106 0 [vr 2, vi t, vi k] [] θ μ Q := by
  have hc := h.1.1.1
  have hT := h.1.1.2.1
  have h2T := h.1.1.2.2.2.2.1
  have hd0 : 0 < d := by omega
  have hn := tn_b h.1.2.1
  unfold vTile at hQ
  by_cases q0 : 0 ≤ t ∧ t < (tn (sT σ) : Int)
  · by_cases q1 : k < 0
    · rw [if_neg (by omega)] at hQ
      simp (disch := omega) only [x106_0, x106_1, x106_2, x106_5, x106_8, x106_9, x106_12, x106_13, x106_14, x106_17, x106_18, x106_19, x106_20, x106_21, x106_24, x106_25, x106_28, x106_31, x106_32, x106_33, x106_36, x106_37, x106_40, x106_43, x106_46, x106_47, x106_48, x106_49, x106_50, ↓reduceIte, Bool.false_eq_true, Nat.reduceAdd, Nat.reduceLT, Nat.reduceLeDiff, Nat.reduceSub, Nat.reduceEqDiff, Int.reduceToNat, Int.reduceEq, Int.reduceLT, Int.reduceLE, Int.reduceAdd, Int.reduceSub, zg, zI, zJ, zR, zst, zkl, zn, zcat, zok, zraw, List.length_cons, List.length_nil, Option.toList, List.nil_append, List.cons_append, true_and, and_true, if_true, if_false, ne_eq, not_true, not_false_eq_true, and_self, true_or, or_true, false_or, or_false, false_and, and_false, b_2 hc, b_3 hc, b_9 hc, b_12 hc, b_26 hc, b_40 hc, b_46 hc, b_47 hc, b_60 hc, b_62 hc, b_63 hc, b_76 hc, b_77 hc, b_90 hc, b_91 hc, b_104 hc, b_107 hc, b_114 hc, b_115 hc, b_122 hc, b_123 hc, b_131 hc, b_2 hc, r_2_0 hc, r_2_1 hc, r_2_2 hc, r_2_3 hc, r_2_4 hc, r_2_5 hc, x_61 hc, n_61 hc, r_2_6 hc, r_2_7 hc, r_2_8 hc, r_2_9 hc, b_46 hc, r_46_0 hc, r_46_1 hc, x_54 hc, r_46_2 hc, x_55 hc, r_46_3 hc, x_56 hc, r_46_4 hc, x_57 hc, r_46_5 hc, x_58 hc, r_46_6 hc, x_59 hc, tb hT, Tq1 hT, Tq2 hT, tr_0 hT, tr_1 hT, tr_2 hT, tr_3 hT, tr_4 hT, tr_5 hT, tr_6 hT, tr_7 hT, tr_8 hT, tr_9 hT, tr_10 hT, tr_11 hT, tr_12 hT, tx_1 hT, tx_2 hT, tx_3 hT, tx_4 hT, tx_5 hT, tx_6 hT, tx_7 hT, tx_8 hT, tx_9 hT, tx_10 hT, tx_11 hT, tx_12 hT, tx_13 hT, b_47 hc, r_47_0 hc, x_48 hc, n_48 hc, x_48 hc, n_48 hc, r_48_0 hc, x_49 hc, r_48_1 hc, x_50 hc, r_48_2 hc, x_51 hc, r_48_3 hc, x_52 hc, r_48_4 hc, x_53 hc, cIsTile _ h.1, hd0, q0, q1]
      exact hQ
    · by_cases q2 : k ≤ 5
      · obtain ⟨N, rfl⟩ : ∃ N : Nat, t = (N : Int) := ⟨t.toNat, by omega⟩
        have hN : N < tn (sT σ) := by omega
        rw [if_pos ⟨q0, by omega, q2⟩, Int.toNat_natCast] at hQ
        have e5 : μ (T + 13) N = edO (sT σ) N := (h.1.2.2.1.2.2.2.2 N hN).2.2
        have hR := h.2.2.1.1.2.2.2.1
        have e0 : μ 49 N = (gR (sG σ)).1 0 N := hR 0 N (by omega) hN
        have e1 : μ 50 N = (gR (sG σ)).1 1 N := hR 1 N (by omega) hN
        have e2 : μ 51 N = (gR (sG σ)).1 2 N := hR 2 N (by omega) hN
        have e3 : μ 52 N = (gR (sG σ)).1 3 N := hR 3 N (by omega) hN
        have e4 : μ 53 N = (gR (sG σ)).1 4 N := hR 4 N (by omega) hN
        obtain hk | hk | hk | hk | hk | hk : k = 0 ∨ k = 1 ∨ k = 2 ∨ k = 3 ∨ k = 4 ∨ k = 5 := by omega
        all_goals
          subst hk
          simp (disch := omega) only [x106_0, x106_1, x106_2, x106_5, x106_8, x106_9, x106_12, x106_13, x106_14, x106_17, x106_18, x106_19, x106_20, x106_21, x106_24, x106_25, x106_28, x106_31, x106_32, x106_33, x106_36, x106_37, x106_40, x106_43, x106_46, x106_47, x106_48, x106_49, x106_50, ↓reduceIte, Bool.false_eq_true, Nat.reduceAdd, Nat.reduceLT, Nat.reduceLeDiff, Nat.reduceSub, Nat.reduceEqDiff, Int.reduceToNat, Int.reduceEq, Int.reduceLT, Int.reduceLE, Int.reduceAdd, Int.reduceSub, zg, zI, zJ, zR, zst, zkl, zn, zcat, zok, zraw, List.length_cons, List.length_nil, Option.toList, List.nil_append, List.cons_append, true_and, and_true, if_true, if_false, ne_eq, not_true, not_false_eq_true, and_self, true_or, or_true, false_or, or_false, false_and, and_false, b_2 hc, b_3 hc, b_9 hc, b_12 hc, b_26 hc, b_40 hc, b_46 hc, b_47 hc, b_60 hc, b_62 hc, b_63 hc, b_76 hc, b_77 hc, b_90 hc, b_91 hc, b_104 hc, b_107 hc, b_114 hc, b_115 hc, b_122 hc, b_123 hc, b_131 hc, b_2 hc, r_2_0 hc, r_2_1 hc, r_2_2 hc, r_2_3 hc, r_2_4 hc, r_2_5 hc, x_61 hc, n_61 hc, r_2_6 hc, r_2_7 hc, r_2_8 hc, r_2_9 hc, b_46 hc, r_46_0 hc, r_46_1 hc, x_54 hc, r_46_2 hc, x_55 hc, r_46_3 hc, x_56 hc, r_46_4 hc, x_57 hc, r_46_5 hc, x_58 hc, r_46_6 hc, x_59 hc, tb hT, Tq1 hT, Tq2 hT, tr_0 hT, tr_1 hT, tr_2 hT, tr_3 hT, tr_4 hT, tr_5 hT, tr_6 hT, tr_7 hT, tr_8 hT, tr_9 hT, tr_10 hT, tr_11 hT, tr_12 hT, tx_1 hT, tx_2 hT, tx_3 hT, tx_4 hT, tx_5 hT, tx_6 hT, tx_7 hT, tx_8 hT, tx_9 hT, tx_10 hT, tx_11 hT, tx_12 hT, tx_13 hT, b_47 hc, r_47_0 hc, x_48 hc, n_48 hc, x_48 hc, n_48 hc, r_48_0 hc, x_49 hc, r_48_1 hc, x_50 hc, r_48_2 hc, x_51 hc, r_48_3 hc, x_52 hc, r_48_4 hc, x_53 hc, cIsTile _ h.1, hd0, q0, h2T, Int.toNat_natCast, e0, e1, e2, e3, e4, e5] at hQ ⊢
          exact hQ
      · rw [if_neg (by omega)] at hQ
        simp (disch := omega) only [x106_0, x106_1, x106_2, x106_5, x106_8, x106_9, x106_12, x106_13, x106_14, x106_17, x106_18, x106_19, x106_20, x106_21, x106_24, x106_25, x106_28, x106_31, x106_32, x106_33, x106_36, x106_37, x106_40, x106_43, x106_46, x106_47, x106_48, x106_49, x106_50, ↓reduceIte, Bool.false_eq_true, Nat.reduceAdd, Nat.reduceLT, Nat.reduceLeDiff, Nat.reduceSub, Nat.reduceEqDiff, Int.reduceToNat, Int.reduceEq, Int.reduceLT, Int.reduceLE, Int.reduceAdd, Int.reduceSub, zg, zI, zJ, zR, zst, zkl, zn, zcat, zok, zraw, List.length_cons, List.length_nil, Option.toList, List.nil_append, List.cons_append, true_and, and_true, if_true, if_false, ne_eq, not_true, not_false_eq_true, and_self, true_or, or_true, false_or, or_false, false_and, and_false, b_2 hc, b_3 hc, b_9 hc, b_12 hc, b_26 hc, b_40 hc, b_46 hc, b_47 hc, b_60 hc, b_62 hc, b_63 hc, b_76 hc, b_77 hc, b_90 hc, b_91 hc, b_104 hc, b_107 hc, b_114 hc, b_115 hc, b_122 hc, b_123 hc, b_131 hc, b_2 hc, r_2_0 hc, r_2_1 hc, r_2_2 hc, r_2_3 hc, r_2_4 hc, r_2_5 hc, x_61 hc, n_61 hc, r_2_6 hc, r_2_7 hc, r_2_8 hc, r_2_9 hc, b_46 hc, r_46_0 hc, r_46_1 hc, x_54 hc, r_46_2 hc, x_55 hc, r_46_3 hc, x_56 hc, r_46_4 hc, x_57 hc, r_46_5 hc, x_58 hc, r_46_6 hc, x_59 hc, tb hT, Tq1 hT, Tq2 hT, tr_0 hT, tr_1 hT, tr_2 hT, tr_3 hT, tr_4 hT, tr_5 hT, tr_6 hT, tr_7 hT, tr_8 hT, tr_9 hT, tr_10 hT, tr_11 hT, tr_12 hT, tx_1 hT, tx_2 hT, tx_3 hT, tx_4 hT, tx_5 hT, tx_6 hT, tx_7 hT, tx_8 hT, tx_9 hT, tx_10 hT, tx_11 hT, tx_12 hT, tx_13 hT, b_47 hc, r_47_0 hc, x_48 hc, n_48 hc, x_48 hc, n_48 hc, r_48_0 hc, x_49 hc, r_48_1 hc, x_50 hc, r_48_2 hc, x_51 hc, r_48_3 hc, x_52 hc, r_48_4 hc, x_53 hc, cIsTile _ h.1, hd0, q0, q1, q2]
        exact hQ
  · rw [if_neg (by omega)] at hQ
    simp (disch := omega) only [x106_0, x106_1, x106_2, x106_5, x106_8, x106_9, x106_12, x106_13, x106_14, x106_17, x106_18, x106_19, x106_20, x106_21, x106_24, x106_25, x106_28, x106_31, x106_32, x106_33, x106_36, x106_37, x106_40, x106_43, x106_46, x106_47, x106_48, x106_49, x106_50, ↓reduceIte, Bool.false_eq_true, Nat.reduceAdd, Nat.reduceLT, Nat.reduceLeDiff, Nat.reduceSub, Nat.reduceEqDiff, Int.reduceToNat, Int.reduceEq, Int.reduceLT, Int.reduceLE, Int.reduceAdd, Int.reduceSub, zg, zI, zJ, zR, zst, zkl, zn, zcat, zok, zraw, List.length_cons, List.length_nil, Option.toList, List.nil_append, List.cons_append, true_and, and_true, if_true, if_false, ne_eq, not_true, not_false_eq_true, and_self, true_or, or_true, false_or, or_false, false_and, and_false, b_2 hc, b_3 hc, b_9 hc, b_12 hc, b_26 hc, b_40 hc, b_46 hc, b_47 hc, b_60 hc, b_62 hc, b_63 hc, b_76 hc, b_77 hc, b_90 hc, b_91 hc, b_104 hc, b_107 hc, b_114 hc, b_115 hc, b_122 hc, b_123 hc, b_131 hc, b_2 hc, r_2_0 hc, r_2_1 hc, r_2_2 hc, r_2_3 hc, r_2_4 hc, r_2_5 hc, x_61 hc, n_61 hc, r_2_6 hc, r_2_7 hc, r_2_8 hc, r_2_9 hc, b_46 hc, r_46_0 hc, r_46_1 hc, x_54 hc, r_46_2 hc, x_55 hc, r_46_3 hc, x_56 hc, r_46_4 hc, x_57 hc, r_46_5 hc, x_58 hc, r_46_6 hc, x_59 hc, tb hT, Tq1 hT, Tq2 hT, tr_0 hT, tr_1 hT, tr_2 hT, tr_3 hT, tr_4 hT, tr_5 hT, tr_6 hT, tr_7 hT, tr_8 hT, tr_9 hT, tr_10 hT, tr_11 hT, tr_12 hT, tx_1 hT, tx_2 hT, tx_3 hT, tx_4 hT, tx_5 hT, tx_6 hT, tx_7 hT, tx_8 hT, tx_9 hT, tx_10 hT, tx_11 hT, tx_12 hT, tx_13 hT, b_47 hc, r_47_0 hc, x_48 hc, n_48 hc, x_48 hc, n_48 hc, r_48_0 hc, x_49 hc, r_48_1 hc, x_50 hc, r_48_2 hc, x_51 hc, r_48_3 hc, x_52 hc, r_48_4 hc, x_53 hc, cIsTile _ h.1, hd0, q0]
    exact hQ
theorem rTile {d : Nat} {t k : Int} (h : MS θ σ s μ) (hd : 11 ≤ d) (hQ : Q (some (vi (vTile σ t k))) θ μ) : Ex d 207 0 [vr 138, vi t, vi k] [] θ μ Q := by
  have hm := h.1.1
  have hd0 : 0 < d := by omega
  have hn := tn_b h.1.2.1
  unfold vTile at hQ
  by_cases q0 : 0 ≤ t ∧ t < (tn (sT σ) : Int)
  · obtain ⟨N, rfl⟩ : ∃ N : Nat, t = (N : Int) := ⟨t.toNat, by omega⟩
    have hN : N < tn (sT σ) := by omega
    by_cases q1 : 0 ≤ k ∧ k ≤ 5
    · rw [if_pos ⟨q0, q1⟩, Int.toNat_natCast] at hQ
      have hR := h.2.2.1.1
      have hw := h.2.1.2.1.1.1 N hN
      have e0 := hR.2 N hN
      have e1 := (hR.1.2.1 N hN).1
      have e2 := (hR.1.2.1 N hN).2.1
      have e3 := (hR.1.2.1 N hN).2.2.1
      have e4 := (hR.1.2.1 N hN).2.2.2
      obtain hk | hk | hk | hk | hk | hk : k = 0 ∨ k = 1 ∨ k = 2 ∨ k = 3 ∨ k = 4 ∨ k = 5 := by omega
      · subst hk
        rcases hw.1 with z | z <;> simp (disch := omega) only [x207_0, x207_1, x207_2, x207_5, x207_8, x207_9, x207_10, x207_11, x207_48, x207_49, x207_52, x207_53, x207_54, x207_57, x207_58, x207_61, x207_62, x207_63, x207_64, x207_67, x207_68, x207_69, x207_72, x207_73, x207_76, x207_77, x207_78, x207_79, x207_82, x207_83, x207_84, x207_87, x207_88, x207_91, x207_92, x207_93, x207_94, x207_97, x207_98, x207_99, x207_100, x207_101, x207_104, x207_105, x207_106, x207_107, x207_108, x207_109, x207_112, x207_113, x207_114, ↓reduceIte, Bool.false_eq_true, Nat.reduceAdd, Nat.reduceLT, Nat.reduceLeDiff, Nat.reduceSub, Nat.reduceEqDiff, Int.reduceToNat, Int.reduceEq, Int.reduceLT, Int.reduceLE, Int.reduceAdd, Int.reduceSub, zg, zI, zJ, zR, zst, zkl, zn, zcat, zok, zraw, List.length_cons, List.length_nil, Option.toList, List.nil_append, List.cons_append, true_and, and_true, if_true, if_false, ne_eq, not_true, not_false_eq_true, and_self, true_or, or_true, false_or, or_false, false_and, and_false, b_138 hm, r_138_51 hm, x_172 hm, n_172 hm, r_138_52 hm, x_173 hm, n_173 hm, r_138_53 hm, x_174 hm, n_174 hm, r_138_54 hm, x_175 hm, r_138_55 hm, x_176 hm, b_138 hm, mIsTile (d := d - 1) h.1 (by omega), hd0, q0, Int.toNat_natCast, e0, z] at hQ ⊢ <;> exact hQ
      · subst hk
        rcases hw.2.1 with z | z <;> simp (disch := omega) only [x207_0, x207_1, x207_2, x207_5, x207_8, x207_9, x207_10, x207_11, x207_48, x207_49, x207_52, x207_53, x207_54, x207_57, x207_58, x207_61, x207_62, x207_63, x207_64, x207_67, x207_68, x207_69, x207_72, x207_73, x207_76, x207_77, x207_78, x207_79, x207_82, x207_83, x207_84, x207_87, x207_88, x207_91, x207_92, x207_93, x207_94, x207_97, x207_98, x207_99, x207_100, x207_101, x207_104, x207_105, x207_106, x207_107, x207_108, x207_109, x207_112, x207_113, x207_114, ↓reduceIte, Bool.false_eq_true, Nat.reduceAdd, Nat.reduceLT, Nat.reduceLeDiff, Nat.reduceSub, Nat.reduceEqDiff, Int.reduceToNat, Int.reduceEq, Int.reduceLT, Int.reduceLE, Int.reduceAdd, Int.reduceSub, zg, zI, zJ, zR, zst, zkl, zn, zcat, zok, zraw, List.length_cons, List.length_nil, Option.toList, List.nil_append, List.cons_append, true_and, and_true, if_true, if_false, ne_eq, not_true, not_false_eq_true, and_self, true_or, or_true, false_or, or_false, false_and, and_false, b_138 hm, r_138_51 hm, x_172 hm, n_172 hm, r_138_52 hm, x_173 hm, n_173 hm, r_138_53 hm, x_174 hm, n_174 hm, r_138_54 hm, x_175 hm, r_138_55 hm, x_176 hm, b_138 hm, mIsTile (d := d - 1) h.1 (by omega), hd0, q0, Int.toNat_natCast, e1, z] at hQ ⊢ <;> exact hQ
      · subst hk
        rcases hw.2.2.1 with z | z <;> simp (disch := omega) only [x207_0, x207_1, x207_2, x207_5, x207_8, x207_9, x207_10, x207_11, x207_48, x207_49, x207_52, x207_53, x207_54, x207_57, x207_58, x207_61, x207_62, x207_63, x207_64, x207_67, x207_68, x207_69, x207_72, x207_73, x207_76, x207_77, x207_78, x207_79, x207_82, x207_83, x207_84, x207_87, x207_88, x207_91, x207_92, x207_93, x207_94, x207_97, x207_98, x207_99, x207_100, x207_101, x207_104, x207_105, x207_106, x207_107, x207_108, x207_109, x207_112, x207_113, x207_114, ↓reduceIte, Bool.false_eq_true, Nat.reduceAdd, Nat.reduceLT, Nat.reduceLeDiff, Nat.reduceSub, Nat.reduceEqDiff, Int.reduceToNat, Int.reduceEq, Int.reduceLT, Int.reduceLE, Int.reduceAdd, Int.reduceSub, zg, zI, zJ, zR, zst, zkl, zn, zcat, zok, zraw, List.length_cons, List.length_nil, Option.toList, List.nil_append, List.cons_append, true_and, and_true, if_true, if_false, ne_eq, not_true, not_false_eq_true, and_self, true_or, or_true, false_or, or_false, false_and, and_false, b_138 hm, r_138_51 hm, x_172 hm, n_172 hm, r_138_52 hm, x_173 hm, n_173 hm, r_138_53 hm, x_174 hm, n_174 hm, r_138_54 hm, x_175 hm, r_138_55 hm, x_176 hm, b_138 hm, mIsTile (d := d - 1) h.1 (by omega), hd0, q0, Int.toNat_natCast, e2, z] at hQ ⊢ <;> exact hQ
      · subst hk
        simp (disch := omega) only [x207_0, x207_1, x207_2, x207_5, x207_8, x207_9, x207_10, x207_11, x207_48, x207_49, x207_52, x207_53, x207_54, x207_57, x207_58, x207_61, x207_62, x207_63, x207_64, x207_67, x207_68, x207_69, x207_72, x207_73, x207_76, x207_77, x207_78, x207_79, x207_82, x207_83, x207_84, x207_87, x207_88, x207_91, x207_92, x207_93, x207_94, x207_97, x207_98, x207_99, x207_100, x207_101, x207_104, x207_105, x207_106, x207_107, x207_108, x207_109, x207_112, x207_113, x207_114, ↓reduceIte, Bool.false_eq_true, Nat.reduceAdd, Nat.reduceLT, Nat.reduceLeDiff, Nat.reduceSub, Nat.reduceEqDiff, Int.reduceToNat, Int.reduceEq, Int.reduceLT, Int.reduceLE, Int.reduceAdd, Int.reduceSub, zg, zI, zJ, zR, zst, zkl, zn, zcat, zok, zraw, List.length_cons, List.length_nil, Option.toList, List.nil_append, List.cons_append, true_and, and_true, if_true, if_false, ne_eq, not_true, not_false_eq_true, and_self, true_or, or_true, false_or, or_false, false_and, and_false, b_138 hm, r_138_51 hm, x_172 hm, n_172 hm, r_138_52 hm, x_173 hm, n_173 hm, r_138_53 hm, x_174 hm, n_174 hm, r_138_54 hm, x_175 hm, r_138_55 hm, x_176 hm, b_138 hm, mIsTile (d := d - 1) h.1 (by omega), hd0, q0, Int.toNat_natCast, e3] at hQ ⊢
        exact hQ
      · subst hk
        simp (disch := omega) only [x207_0, x207_1, x207_2, x207_5, x207_8, x207_9, x207_10, x207_11, x207_48, x207_49, x207_52, x207_53, x207_54, x207_57, x207_58, x207_61, x207_62, x207_63, x207_64, x207_67, x207_68, x207_69, x207_72, x207_73, x207_76, x207_77, x207_78, x207_79, x207_82, x207_83, x207_84, x207_87, x207_88, x207_91, x207_92, x207_93, x207_94, x207_97, x207_98, x207_99, x207_100, x207_101, x207_104, x207_105, x207_106, x207_107, x207_108, x207_109, x207_112, x207_113, x207_114, ↓reduceIte, Bool.false_eq_true, Nat.reduceAdd, Nat.reduceLT, Nat.reduceLeDiff, Nat.reduceSub, Nat.reduceEqDiff, Int.reduceToNat, Int.reduceEq, Int.reduceLT, Int.reduceLE, Int.reduceAdd, Int.reduceSub, zg, zI, zJ, zR, zst, zkl, zn, zcat, zok, zraw, List.length_cons, List.length_nil, Option.toList, List.nil_append, List.cons_append, true_and, and_true, if_true, if_false, ne_eq, not_true, not_false_eq_true, and_self, true_or, or_true, false_or, or_false, false_and, and_false, b_138 hm, r_138_51 hm, x_172 hm, n_172 hm, r_138_52 hm, x_173 hm, n_173 hm, r_138_53 hm, x_174 hm, n_174 hm, r_138_54 hm, x_175 hm, r_138_55 hm, x_176 hm, b_138 hm, mIsTile (d := d - 1) h.1 (by omega), hd0, q0, Int.toNat_natCast, e4] at hQ ⊢
        exact hQ
      · subst hk
        simp (disch := omega) only [x207_0, x207_1, x207_2, x207_5, x207_8, x207_9, x207_10, x207_11, x207_48, x207_49, x207_52, x207_53, x207_54, x207_57, x207_58, x207_61, x207_62, x207_63, x207_64, x207_67, x207_68, x207_69, x207_72, x207_73, x207_76, x207_77, x207_78, x207_79, x207_82, x207_83, x207_84, x207_87, x207_88, x207_91, x207_92, x207_93, x207_94, x207_97, x207_98, x207_99, x207_100, x207_101, x207_104, x207_105, x207_106, x207_107, x207_108, x207_109, x207_112, x207_113, x207_114, ↓reduceIte, Bool.false_eq_true, Nat.reduceAdd, Nat.reduceLT, Nat.reduceLeDiff, Nat.reduceSub, Nat.reduceEqDiff, Int.reduceToNat, Int.reduceEq, Int.reduceLT, Int.reduceLE, Int.reduceAdd, Int.reduceSub, zg, zI, zJ, zR, zst, zkl, zn, zcat, zok, zraw, List.length_cons, List.length_nil, Option.toList, List.nil_append, List.cons_append, true_and, and_true, if_true, if_false, ne_eq, not_true, not_false_eq_true, and_self, true_or, or_true, false_or, or_false, false_and, and_false, b_138 hm, mIsTile (d := d - 1) h.1 (by omega), hd0, q0]
        refine mEdge (d := d - 1) (by omega) h.1 hN ?_
        simp (disch := omega) only [x207_0, x207_1, x207_2, x207_5, x207_8, x207_9, x207_10, x207_11, x207_48, x207_49, x207_52, x207_53, x207_54, x207_57, x207_58, x207_61, x207_62, x207_63, x207_64, x207_67, x207_68, x207_69, x207_72, x207_73, x207_76, x207_77, x207_78, x207_79, x207_82, x207_83, x207_84, x207_87, x207_88, x207_91, x207_92, x207_93, x207_94, x207_97, x207_98, x207_99, x207_100, x207_101, x207_104, x207_105, x207_106, x207_107, x207_108, x207_109, x207_112, x207_113, x207_114, ↓reduceIte, Bool.false_eq_true, Nat.reduceAdd, Nat.reduceLT, Nat.reduceLeDiff, Nat.reduceSub, Nat.reduceEqDiff, Int.reduceToNat, Int.reduceEq, Int.reduceLT, Int.reduceLE, Int.reduceAdd, Int.reduceSub, zg, zI, zJ, zR, zst, zkl, zn, zcat, zok, zraw, List.length_cons, List.length_nil, Option.toList, List.nil_append, List.cons_append, true_and, and_true, if_true, if_false, ne_eq, not_true, not_false_eq_true, and_self, true_or, or_true, false_or, or_false, false_and, and_false]
        exact hQ
    · rw [if_neg (by omega)] at hQ
      have k0 : ¬ k = 0 := by omega
      have k1 : ¬ k = 1 := by omega
      have k2 : ¬ k = 2 := by omega
      have k3 : ¬ k = 3 := by omega
      have k4 : ¬ k = 4 := by omega
      have k5 : ¬ k = 5 := by omega
      simp (disch := omega) only [x207_0, x207_1, x207_2, x207_5, x207_8, x207_9, x207_10, x207_11, x207_48, x207_49, x207_52, x207_53, x207_54, x207_57, x207_58, x207_61, x207_62, x207_63, x207_64, x207_67, x207_68, x207_69, x207_72, x207_73, x207_76, x207_77, x207_78, x207_79, x207_82, x207_83, x207_84, x207_87, x207_88, x207_91, x207_92, x207_93, x207_94, x207_97, x207_98, x207_99, x207_100, x207_101, x207_104, x207_105, x207_106, x207_107, x207_108, x207_109, x207_112, x207_113, x207_114, ↓reduceIte, Bool.false_eq_true, Nat.reduceAdd, Nat.reduceLT, Nat.reduceLeDiff, Nat.reduceSub, Nat.reduceEqDiff, Int.reduceToNat, Int.reduceEq, Int.reduceLT, Int.reduceLE, Int.reduceAdd, Int.reduceSub, zg, zI, zJ, zR, zst, zkl, zn, zcat, zok, zraw, List.length_cons, List.length_nil, Option.toList, List.nil_append, List.cons_append, true_and, and_true, if_true, if_false, ne_eq, not_true, not_false_eq_true, and_self, true_or, or_true, false_or, or_false, false_and, and_false, b_138 hm, mIsTile (d := d - 1) h.1 (by omega), hd0, q0, k0, k1, k2, k3, k4, k5]
      exact hQ
  · rw [if_neg (by omega)] at hQ
    simp (disch := omega) only [x207_0, x207_1, x207_2, x207_5, x207_8, x207_9, x207_10, x207_11, x207_48, x207_49, x207_52, x207_53, x207_54, x207_57, x207_58, x207_61, x207_62, x207_63, x207_64, x207_67, x207_68, x207_69, x207_72, x207_73, x207_76, x207_77, x207_78, x207_79, x207_82, x207_83, x207_84, x207_87, x207_88, x207_91, x207_92, x207_93, x207_94, x207_97, x207_98, x207_99, x207_100, x207_101, x207_104, x207_105, x207_106, x207_107, x207_108, x207_109, x207_112, x207_113, x207_114, ↓reduceIte, Bool.false_eq_true, Nat.reduceAdd, Nat.reduceLT, Nat.reduceLeDiff, Nat.reduceSub, Nat.reduceEqDiff, Int.reduceToNat, Int.reduceEq, Int.reduceLT, Int.reduceLE, Int.reduceAdd, Int.reduceSub, zg, zI, zJ, zR, zst, zkl, zn, zcat, zok, zraw, List.length_cons, List.length_nil, Option.toList, List.nil_append, List.cons_append, true_and, and_true, if_true, if_false, ne_eq, not_true, not_false_eq_true, and_self, true_or, or_true, false_or, or_false, false_and, and_false, b_138 hm, mIsTile (d := d - 1) h.1 (by omega), hd0, q0]
    exact hQ
/-- set -/
def mkF (ρ : zF) (m t : Nat) (v : Int) : zF := (fun a q => if a = m ∧ q = t then v else ρ.1 a q, ρ.2)
theorem mkF_w {τ : zT} {ρ : zF} {m t : Nat} {v : Int} (h : wfF τ ρ) (h0 : m < 3 → v = 0 ∨ v = 1) (h1 : 0 ≤ v ∧ v ≤ 99) : wfF τ (mkF ρ m t v) := by
  obtain ⟨a, b⟩ := h
  refine ⟨fun q hq => ?_, b⟩
  have := a q hq
  unfold mkF
  simp only
  by_cases e : q = t
  · refine ⟨?_, ?_, ?_, ?_⟩
    · by_cases x : 0 = m
      · simp [x, e]; exact h0 (by omega)
      · simp [x]; exact this.1
    · by_cases x : 1 = m
      · simp [x, e]; exact h0 (by omega)
      · simp [x]; exact this.2.1
    · by_cases x : 2 = m
      · simp [x, e]; exact h0 (by omega)
      · simp [x]; exact this.2.2.1
    · have := this.2.2.2
      by_cases x : 3 = m
      · have y : ¬ (4 = m) := by omega
        simp [x, y, e]; exact ⟨h1, by rw [← e]; exact this.2⟩
      · by_cases y : 4 = m
        · simp [x, y, e]; exact ⟨by rw [← e]; exact this.1, h1⟩
        · simp [x, y]; exact this
  · simp [e]; exact this
theorem cForgetPlans {d : Nat} (hc : Tc θ) (hd : 1 ≤ d) (hQ : ∀ μ', Fr [104, 122] μ μ' → μ' 104 9 = -1 → μ' 104 10 = -1 → μ' 122 4 = 0 → Q none θ μ') : Ex d 160 0 [vr 2] [] θ μ Q := by
  have hd0 : 0 < d := by omega
  simp (disch := omega) only [x160_0, x160_1, x160_4, x160_7, x160_8, x160_11, x160_12, x160_15, x27_0, x27_1, x27_2, x27_5, x27_6, x27_7, x27_10, ↓reduceIte, Bool.false_eq_true, Nat.reduceAdd, Nat.reduceLT, Nat.reduceLeDiff, Nat.reduceSub, Nat.reduceEqDiff, Int.reduceToNat, Int.reduceEq, Int.reduceLT, Int.reduceLE, Int.reduceAdd, Int.reduceSub, zg, zI, zJ, zR, zst, zkl, zn, zcat, zok, zraw, List.length_cons, List.length_nil, Option.toList, List.nil_append, List.cons_append, true_and, and_true, if_true, if_false, ne_eq, not_true, not_false_eq_true, and_self, true_or, or_true, false_or, or_false, false_and, and_false, b_2 hc, b_3 hc, b_9 hc, b_12 hc, b_26 hc, b_40 hc, b_46 hc, b_47 hc, b_60 hc, b_62 hc, b_63 hc, b_76 hc, b_77 hc, b_90 hc, b_91 hc, b_104 hc, b_107 hc, b_114 hc, b_115 hc, b_122 hc, b_123 hc, b_131 hc, b_2 hc, r_2_0 hc, r_2_1 hc, r_2_2 hc, r_2_3 hc, r_2_4 hc, r_2_5 hc, x_61 hc, n_61 hc, r_2_6 hc, r_2_7 hc, r_2_8 hc, r_2_9 hc, b_104 hc, r_104_0 hc, x_105 hc, r_104_1 hc, x_106 hc, r_104_6 hc, r_104_7 hc, r_104_8 hc, b_122 hc, r_122_5 hc, r_122_6 hc, r_122_7 hc, r_122_8 hc, x_130 hc, hd0, ua_eq]
  refine hQ _ (Fr.us (by simp) (Fr.us (by simp) (Fr.us (by simp) Fr.refl))) ?_ ?_ ?_
  · rw [us_ne (by omega), us_same, zup_ne (by omega), us_same, zup_same rfl]
  · rw [us_ne (by omega), us_same, zup_same rfl]
  · rw [us_same, zup_same rfl]
theorem CS_mark {μ' : zM} {m N : Nat} {v : Int} (h : CS θ T U σ μ) (hm : m < 5) (hN : N < tn (sT σ)) (h0 : m < 3 → v = 0 ∨ v = 1) (h1 : 0 ≤ v ∧ v ≤ 99) (hf : Fr [49 + m, 104, 122] μ μ') (hv : μ' (49 + m) = zup (μ (49 + m)) N v)
    (h9 : μ' 104 9 = -1) (h10 : μ' 104 10 = -1) (h4 : μ' 122 4 = 0) : CS θ T U (stR σ (mkF (gR (sG σ)) m N v)) μ' := by
  have hF := h.2.2.1.1
  obtain ⟨_, hw, r1, r2, r3, r4⟩ := hF
  have e47 : μ' 47 = μ 47 := hf 47 (by simp; omega)
  refine CS_roof h (fun a ha => hf a (fun hh => ha (by simp at hh ⊢; omega))) (mkF_w hw h0 h1) ⟨by rw [e47]; exact r1, ?_, by rw [e47]; exact r3, by rw [e47]; exact r4⟩ (by rw [e47]; exact h.2.2.1.2.1) h9 h10 h4
  intro a q ha hq
  have := r2 a q ha hq
  unfold mkF
  simp only
  by_cases e : a = m
  · subst e
    have e' : 47 + (a + 2) = 49 + a := by omega
    rw [e'] at this ⊢
    rw [hv, zup_ap, this]
    simp
  · rw [hf (47 + (a + 2)) (by simp; omega), this]; simp [e]
end CR
