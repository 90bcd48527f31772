/-! THE GALE: meet and run -/
def GA : List Nat := [10, 11, 40, 41, 42, 43, 44, 45]
section LM
variable {θ : zS} {T U : Nat} {τ : zT} {Q : Option zV → zS → zM → Prop} {μ : zM} {ρ : zF} {lost : Nat → Int} {g w : Int}
/-- holes of the first k TILES -/
def gnK (τ : zT) (ρ : zF) (k : Nat) : Nat → Int := fun t => if t < k ∧ gnO τ ρ t = 1 then 1 else 0
theorem gnK_z (τ : zT) (ρ : zF) (k : Nat) : lz (gnK τ ρ k) := by
  intro t; unfold gnK
  by_cases h : t < k ∧ gnO τ ρ t = 1
  · rw [if_pos h]; exact Or.inr rfl
  · rw [if_neg h]; exact Or.inl rfl
theorem gnK_n : gnK τ ρ (tn τ) = gnO τ ρ := by
  funext t
  unfold gnK gnO
  by_cases h : t < tn τ ∧ ρ.1 0 t = 0
  · simp [h]
  · simp [h]
theorem sm_lt {n k : Nat} (f : Nat → Int) : sm (fun t => if t < k then f t else 0) n = sm f (min n k) := by
  induction n with
  | zero => simp [sm]
  | succ n ih =>
    simp only [sm]; rw [ih]
    by_cases h : n < k
    · rw [if_pos h, show min (n + 1) k = n + 1 by omega, show min n k = n by omega]; rfl
    · rw [if_neg h, show min (n + 1) k = min n k by omega]; omega
theorem bar_zero (hz : ∀ t, lost t = 0) (t : Nat) : barO τ lost t = 0 := by unfold barO; simp [hz]
theorem hl_zero (hz : ∀ t, lost t = 0) : hlO τ lost = 0 := by
  unfold hlO
  rw [sm_congr (g := fun _ => 0) (fun i _ => hz i), sm_zero]
theorem cMeet {d r : Nat} {x4 x5 : zV} (h : CX θ T U τ μ) (hF : CF τ ρ r μ) (hd : 2 ≤ d)
    (hQ : ∀ μ', Fr [10, 40, 42, 44, 45] μ μ' → μ' 40 3 = 0 → μ' 40 4 = 0 → (∀ t, t < 36 → μ' 42 t = -2) → GS τ ρ.2.1 (gnO τ ρ) g w μ' → Q none θ μ') :
    Ex d 11 0 [vr 40, vr r, vi g, vi w, x4, x5] [] θ μ Q := by
  have hX := h
  have hFF := hF
  obtain ⟨hth, hw, hC, hCc⟩ := h
  have hth' := hth
  obtain ⟨hc, hT, hU, hTU, h2T, h2U, hgT⟩ := hth
  obtain ⟨hrf, hwF, hR1, hR2, hR3, hR4⟩ := hF
  have hr := rfs_q hc hrf
  unfold rfs at hrf
  have hn := tn_b hw
  have hd0 : 0 < d := by omega
  have hdl := hw.2.2.2.2.1
  have hdw := hw.2.2.2.2.2.1
  -- the doors
  have key2 : ∀ t L μ1, t ≤ tD τ → (∃ y, L = [vr 40, vr r, vi g, vi w, vi (t : Nat), y] ∧ Fr [40, 42, 44, 45] μ μ1 ∧ μ1 40 3 = 0 ∧ μ1 40 4 = 0 ∧ (∀ t, t < 36 → μ1 42 t = -2) ∧ GB τ (gnO τ ρ) μ1 ∧ μ1 40 13 = sm (fun k => if tS τ k = w then tZ τ k * ρ.2.1 k else 0) t ∧ μ1 40 14 = sm (fun k => if tS τ k = w then 0 else tZ τ k * ρ.2.1 k) t) → Ex d 11 92 L [] θ μ1 Q := by
    refine Ex_loop (I := fun t L μ1 => ∃ y, L = [vr 40, vr r, vi g, vi w, vi (t : Nat), y] ∧ Fr [40, 42, 44, 45] μ μ1 ∧ μ1 40 3 = 0 ∧ μ1 40 4 = 0 ∧ (∀ t, t < 36 → μ1 42 t = -2) ∧ GB τ (gnO τ ρ) μ1 ∧ μ1 40 13 = sm (fun k => if tS τ k = w then tZ τ k * ρ.2.1 k else 0) t ∧ μ1 40 14 = sm (fun k => if tS τ k = w then 0 else tZ τ k * ρ.2.1 k) t) (tD τ) ?_ ?_
    · rintro t L μ1 ht ⟨y, rfl, hf, h3, h4, h42, hB, h13, h14⟩ hk
      have eT : μ1 T 14 = (tD τ : Nat) := by rw [hf T (by simp <;> omega)]; exact hC.2.2.1
      have eS : μ1 (T + 2) t = tS τ t := by rw [hf _ (by simp <;> omega)]; exact (hC.2.2.2.1 t ht).1
      have eZ : μ1 (T + 3) t = tZ τ t := by rw [hf _ (by simp <;> omega)]; exact (hC.2.2.2.1 t ht).2
      have eO : zand (zshr (μ1 r 2) t) 1 = ρ.2.1 t := by rw [hf r (by simp <;> omega)]; exact hR3 t ht
      have i1 : ¬ ((tD τ : Int) ≤ (t : Int)) := by omega
      have hw1 := dr_t (hwF.2.1 t ht) (hdw t ht).2.1
      have a1 : w32 (tZ τ t * ρ.2.1 t) = tZ τ t * ρ.2.1 t := w32_i (by omega) (by omega)
      have hb1 := sm_le (f := fun k => if tS τ k = w then tZ τ k * ρ.2.1 k else 0) (n := t) (b := 9) (fun i hi => by
        have := dr_t (hwF.2.1 i (by omega)) (hdw i (by omega)).2.1
        show (if tS τ i = w then tZ τ i * ρ.2.1 i else 0) ≤ 9
        by_cases hc : tS τ i = w
        · rw [if_pos hc]; omega
        · rw [if_neg hc]; omega)
      have hb2 := sm_le (f := fun k => if tS τ k = w then 0 else tZ τ k * ρ.2.1 k) (n := t) (b := 9) (fun i hi => by
        have := dr_t (hwF.2.1 i (by omega)) (hdw i (by omega)).2.1
        show (if tS τ i = w then 0 else tZ τ i * ρ.2.1 i) ≤ 9
        by_cases hc : tS τ i = w
        · rw [if_pos hc]; omega
        · rw [if_neg hc]; omega)
      have hb3 := sm_nn (f := fun k => if tS τ k = w then tZ τ k * ρ.2.1 k else 0) (n := t) (fun i hi => by
        have := dr_t (hwF.2.1 i (by omega)) (hdw i (by omega)).2.1
        show 0 ≤ (if tS τ i = w then tZ τ i * ρ.2.1 i else 0)
        by_cases hc : tS τ i = w
        · rw [if_pos hc]; omega
        · rw [if_neg hc]; omega)
      have hb4 := sm_nn (f := fun k => if tS τ k = w then 0 else tZ τ k * ρ.2.1 k) (n := t) (fun i hi => by
        have := dr_t (hwF.2.1 i (by omega)) (hdw i (by omega)).2.1
        show 0 ≤ (if tS τ i = w then 0 else tZ τ i * ρ.2.1 i)
        by_cases hc : tS τ i = w
        · rw [if_pos hc]; omega
        · rw [if_neg hc]; omega)
      rw [x11_92]
      have fin : ∀ (q : Nat) (y : Int), (q = 13 ∨ q = 14) → μ1 40 q + (tZ τ t * ρ.2.1 t) = y → (q = 13 ↔ tS τ t = w) → Ex d 11 92 [vr 40, vr r, vi g, vi w, vi ((t + 1 : Nat) : Int), vi (tZ τ t * ρ.2.1 t)] [] θ (us μ1 40 (zup (μ1 40) q y)) Q := by
        intro q y hq hy hqw
        apply hk
        refine ⟨_, rfl, Fr.us (by decide) hf, ?_, ?_, ?_, ?_, ?_, ?_⟩
        · rw [us_same, zup_ne (by omega), h3]
        · rw [us_same, zup_ne (by omega), h4]
        · intro t' ht'; rw [us_ne (by decide)]; exact h42 t' ht'
        · exact GB_fr (us_ne (by decide)) (us_ne (by decide)) (by rw [us_same, zup_ne (by omega)]) hB
        · rw [us_same]
          simp only [sm]
          by_cases hs : tS τ t = w
          · have := hqw.mpr hs
            subst this
            rw [if_pos hs, zup_same rfl, ← hy, h13]
          · have : q = 14 := by rcases hq with h | h; exact absurd (hqw.mp h) hs; exact h
            subst this
            rw [if_neg hs, zup_ne (by decide), h13]; omega
        · rw [us_same]
          simp only [sm]
          by_cases hs : tS τ t = w
          · have := hqw.mpr hs
            subst this
            rw [if_pos hs, zup_ne (by decide), h14]; omega
          · have : q = 14 := by rcases hq with h | h; exact absurd (hqw.mp h) hs; exact h
            subst this
            rw [if_neg hs, zup_same rfl, ← hy, h14]
      by_cases hs : tS τ t = w
      · have a2 : w32 (μ1 40 13 + tZ τ t * ρ.2.1 t) = μ1 40 13 + tZ τ t * ρ.2.1 t := w32_i (by omega) (by omega)
        simp (disch := omega) only [x11_0, x11_1, x11_2, x11_5, x11_6, x11_7, x11_10, x11_11, x11_12, x11_15, x11_16, x11_19, x11_20, x11_23, x11_24, x11_27, x11_28, x11_31, x11_32, x11_35, x11_37, x11_40, x11_41, x11_45, x11_46, x11_49, x11_52, x11_55, x11_56, x11_59, x11_60, x11_61, x11_63, x11_64, x11_67, x11_68, x11_70, x11_73, x11_76, x11_79, x11_80, x11_81, x11_84, x11_85, x11_86, x11_89, x11_90, x11_94, x11_95, x11_98, x11_101, x11_104, x11_105, x11_108, x11_111, x11_113, x11_114, x11_115, x11_118, x11_120, x11_121, x11_122, x11_123, x11_124, x11_126, x11_127, x11_130, x11_133, x11_135, x11_136, x11_137, x11_140, x11_141, x11_142, x11_145, x11_147, x11_148, x11_151, x11_154, x11_155, x11_156, x11_159, x11_161, x11_162, x11_165, x11_168, x11_171, x11_172, x11_175, x11_178, x11_180, x11_181, x11_182, x11_183, x11_186, x11_189, x11_191, x11_192, x11_193, x11_194, x11_197, ↓reduceIte, Bool.false_eq_true, Nat.reduceAdd, Nat.reduceLT, Nat.reduceLeDiff, Nat.reduceSub, Nat.reduceEqDiff, Int.reduceToNat, Int.reduceEq, Int.reduceLT, Int.reduceLE, Int.reduceAdd, Int.reduceSub, zg, zI, zJ, zR, zst, zkl, zn, zcat, zok, zraw, List.length_cons, List.length_nil, Option.toList, List.nil_append, List.cons_append, true_and, and_true, if_true, if_false, ne_eq, not_true, not_false_eq_true, and_self, true_or, or_true, false_or, or_false, false_and, and_false, b_40 hc, r_40_0 hc, x_41 hc, r_40_1 hc, x_42 hc, r_40_2 hc, x_43 hc, r_40_9 hc, r_40_10 hc, x_44 hc, r_40_11 hc, x_45 hc, tb hT, Tq1 hT, Tq2 hT, tr_0 hT, tr_1 hT, tr_2 hT, tr_3 hT, tr_4 hT, tr_5 hT, tr_6 hT, tr_7 hT, tr_8 hT, tr_9 hT, tr_10 hT, tr_11 hT, tr_12 hT, tx_1 hT, tx_2 hT, tx_3 hT, tx_4 hT, tx_5 hT, tx_6 hT, tx_7 hT, tx_8 hT, tx_9 hT, tx_10 hT, tx_11 hT, tx_12 hT, tx_13 hT, rb hr, Rq1 hr, Rq2 hr, rr_0 hr, rx_1 hr, rn_1 hr, rm_0 hr, rm_1 hr, rm_2 hr, rm_3 hr, rm_4 hr, rx_2 hr, rx_3 hr, rx_4 hr, rx_5 hr, rx_6 hr, hgT, eT, eS, eZ, eO, i1, a1, a2, hs, ua_eq, Int.toNat_natCast, w32_s]
        exact fin 13 _ (Or.inl rfl) rfl (by simp [hs])
      · have a2 : w32 (μ1 40 14 + tZ τ t * ρ.2.1 t) = μ1 40 14 + tZ τ t * ρ.2.1 t := w32_i (by omega) (by omega)
        simp (disch := omega) only [x11_0, x11_1, x11_2, x11_5, x11_6, x11_7, x11_10, x11_11, x11_12, x11_15, x11_16, x11_19, x11_20, x11_23, x11_24, x11_27, x11_28, x11_31, x11_32, x11_35, x11_37, x11_40, x11_41, x11_45, x11_46, x11_49, x11_52, x11_55, x11_56, x11_59, x11_60, x11_61, x11_63, x11_64, x11_67, x11_68, x11_70, x11_73, x11_76, x11_79, x11_80, x11_81, x11_84, x11_85, x11_86, x11_89, x11_90, x11_94, x11_95, x11_98, x11_101, x11_104, x11_105, x11_108, x11_111, x11_113, x11_114, x11_115, x11_118, x11_120, x11_121, x11_122, x11_123, x11_124, x11_126, x11_127, x11_130, x11_133, x11_135, x11_136, x11_137, x11_140, x11_141, x11_142, x11_145, x11_147, x11_148, x11_151, x11_154, x11_155, x11_156, x11_159, x11_161, x11_162, x11_165, x11_168, x11_171, x11_172, x11_175, x11_178, x11_180, x11_181, x11_182, x11_183, x11_186, x11_189, x11_191, x11_192, x11_193, x11_194, x11_197, ↓reduceIte, Bool.false_eq_true, Nat.reduceAdd, Nat.reduceLT, Nat.reduceLeDiff, Nat.reduceSub, Nat.reduceEqDiff, Int.reduceToNat, Int.reduceEq, Int.reduceLT, Int.reduceLE, Int.reduceAdd, Int.reduceSub, zg, zI, zJ, zR, zst, zkl, zn, zcat, zok, zraw, List.length_cons, List.length_nil, Option.toList, List.nil_append, List.cons_append, true_and, and_true, if_true, if_false, ne_eq, not_true, not_false_eq_true, and_self, true_or, or_true, false_or, or_false, false_and, and_false, b_40 hc, r_40_0 hc, x_41 hc, r_40_1 hc, x_42 hc, r_40_2 hc, x_43 hc, r_40_9 hc, r_40_10 hc, x_44 hc, r_40_11 hc, x_45 hc, tb hT, Tq1 hT, Tq2 hT, tr_0 hT, tr_1 hT, tr_2 hT, tr_3 hT, tr_4 hT, tr_5 hT, tr_6 hT, tr_7 hT, tr_8 hT, tr_9 hT, tr_10 hT, tr_11 hT, tr_12 hT, tx_1 hT, tx_2 hT, tx_3 hT, tx_4 hT, tx_5 hT, tx_6 hT, tx_7 hT, tx_8 hT, tx_9 hT, tx_10 hT, tx_11 hT, tx_12 hT, tx_13 hT, rb hr, Rq1 hr, Rq2 hr, rr_0 hr, rx_1 hr, rn_1 hr, rm_0 hr, rm_1 hr, rm_2 hr, rm_3 hr, rm_4 hr, rx_2 hr, rx_3 hr, rx_4 hr, rx_5 hr, rx_6 hr, hgT, eT, eS, eZ, eO, i1, a1, a2, hs, ua_eq, Int.toNat_natCast, w32_s]
        exact fin 14 _ (Or.inr rfl) rfl (by simp [hs])
    · rintro L μ1 ⟨y, rfl, hf, h3, h4, h42, hB, h13, h14⟩
      have eT : μ1 T 14 = (tD τ : Nat) := by rw [hf T (by simp <;> omega)]; exact hC.2.2.1
      rw [x11_92]
      simp (disch := omega) only [x11_0, x11_1, x11_2, x11_5, x11_6, x11_7, x11_10, x11_11, x11_12, x11_15, x11_16, x11_19, x11_20, x11_23, x11_24, x11_27, x11_28, x11_31, x11_32, x11_35, x11_37, x11_40, x11_41, x11_45, x11_46, x11_49, x11_52, x11_55, x11_56, x11_59, x11_60, x11_61, x11_63, x11_64, x11_67, x11_68, x11_70, x11_73, x11_76, x11_79, x11_80, x11_81, x11_84, x11_85, x11_86, x11_89, x11_90, x11_94, x11_95, x11_98, x11_101, x11_104, x11_105, x11_108, x11_111, x11_113, x11_114, x11_115, x11_118, x11_120, x11_121, x11_122, x11_123, x11_124, x11_126, x11_127, x11_130, x11_133, x11_135, x11_136, x11_137, x11_140, x11_141, x11_142, x11_145, x11_147, x11_148, x11_151, x11_154, x11_155, x11_156, x11_159, x11_161, x11_162, x11_165, x11_168, x11_171, x11_172, x11_175, x11_178, x11_180, x11_181, x11_182, x11_183, x11_186, x11_189, x11_191, x11_192, x11_193, x11_194, x11_197, ↓reduceIte, Bool.false_eq_true, Nat.reduceAdd, Nat.reduceLT, Nat.reduceLeDiff, Nat.reduceSub, Nat.reduceEqDiff, Int.reduceToNat, Int.reduceEq, Int.reduceLT, Int.reduceLE, Int.reduceAdd, Int.reduceSub, zg, zI, zJ, zR, zst, zkl, zn, zcat, zok, zraw, List.length_cons, List.length_nil, Option.toList, List.nil_append, List.cons_append, true_and, and_true, if_true, if_false, ne_eq, not_true, not_false_eq_true, and_self, true_or, or_true, false_or, or_false, false_and, and_false, b_40 hc, r_40_0 hc, x_41 hc, r_40_1 hc, x_42 hc, r_40_2 hc, x_43 hc, r_40_9 hc, r_40_10 hc, x_44 hc, r_40_11 hc, x_45 hc, b_9 hc, r_9_0 hc, x_10 hc, r_9_1 hc, x_11 hc, tb hT, Tq1 hT, Tq2 hT, tr_0 hT, tr_1 hT, tr_2 hT, tr_3 hT, tr_4 hT, tr_5 hT, tr_6 hT, tr_7 hT, tr_8 hT, tr_9 hT, tr_10 hT, tr_11 hT, tr_12 hT, tx_1 hT, tx_2 hT, tx_3 hT, tx_4 hT, tx_5 hT, tx_6 hT, tx_7 hT, tx_8 hT, tx_9 hT, tx_10 hT, tx_11 hT, tx_12 hT, tx_13 hT, rb hr, Rq1 hr, Rq2 hr, rr_0 hr, rx_1 hr, rn_1 hr, rm_0 hr, rm_1 hr, rm_2 hr, rm_3 hr, rm_4 hr, rx_2 hr, rx_3 hr, rx_4 hr, rx_5 hr, rx_6 hr, hgT, eT, hd0, Int.le_refl, ua_eq, us_same, us_us, Int.reduceToNat]
      have hfX : Fr [10, 40, 42, 44, 45] μ (us μ1 10 (zup (zup (μ1 10) 8 g) 9 w)) := Fr.us (by decide) (hf.mono (by decide))
      refine cDraught (w := w) hth' hw (CX_fr hX hfX (by decide)).2.2.1 (gn_z τ ρ) hwF.2.1 ?_ ?_ ?_ ?_ ?_
      · rw [us_ne (by decide)]; exact hB.2.2
      · rw [us_ne (by decide)]; exact h13
      · rw [us_ne (by decide)]; exact h14
      · rw [us_same, zup_same rfl]
      · intro μ2 hf2 hj2 v5 v6 v7
        simp (disch := omega) only [x11_0, x11_1, x11_2, x11_5, x11_6, x11_7, x11_10, x11_11, x11_12, x11_15, x11_16, x11_19, x11_20, x11_23, x11_24, x11_27, x11_28, x11_31, x11_32, x11_35, x11_37, x11_40, x11_41, x11_45, x11_46, x11_49, x11_52, x11_55, x11_56, x11_59, x11_60, x11_61, x11_63, x11_64, x11_67, x11_68, x11_70, x11_73, x11_76, x11_79, x11_80, x11_81, x11_84, x11_85, x11_86, x11_89, x11_90, x11_94, x11_95, x11_98, x11_101, x11_104, x11_105, x11_108, x11_111, x11_113, x11_114, x11_115, x11_118, x11_120, x11_121, x11_122, x11_123, x11_124, x11_126, x11_127, x11_130, x11_133, x11_135, x11_136, x11_137, x11_140, x11_141, x11_142, x11_145, x11_147, x11_148, x11_151, x11_154, x11_155, x11_156, x11_159, x11_161, x11_162, x11_165, x11_168, x11_171, x11_172, x11_175, x11_178, x11_180, x11_181, x11_182, x11_183, x11_186, x11_189, x11_191, x11_192, x11_193, x11_194, x11_197, ↓reduceIte, Bool.false_eq_true, Nat.reduceAdd, Nat.reduceLT, Nat.reduceLeDiff, Nat.reduceSub, Nat.reduceEqDiff, Int.reduceToNat, Int.reduceEq, Int.reduceLT, Int.reduceLE, Int.reduceAdd, Int.reduceSub, zg, zI, zJ, zR, zst, zkl, zn, zcat, zok, zraw, List.length_cons, List.length_nil, Option.toList, List.nil_append, List.cons_append, true_and, and_true, if_true, if_false, ne_eq, not_true, not_false_eq_true, and_self, true_or, or_true, false_or, or_false, false_and, and_false]
        have k40 := hf2 40 (by decide)
        rw [us_ne (by decide)] at k40
        refine hQ μ2 (hfX.trans (hf2.mono (by decide))) (by rw [k40, h3]) (by rw [k40, h4]) ?_ ⟨?_, ⟨by rw [k40]; exact h13, by rw [k40]; exact h14⟩, v5, v6, v7, ?_, ?_⟩
        · intro t ht; rw [hf2 42 (by decide), us_ne (by decide)]; exact h42 t ht
        · exact GB_fr (by rw [hf2 44 (by decide), us_ne (by decide)]) (by rw [hf2 45 (by decide), us_ne (by decide)]) (by rw [k40]) hB
        · rw [hj2 8 (by decide) (by decide) (by decide), us_same, zup_ne (by decide), zup_same rfl]
        · rw [hj2 9 (by decide) (by decide) (by decide), us_same, zup_same rfl]
  -- the holes
  have key1 : ∀ t L μ1, t ≤ tn τ → (∃ y, L = [vr 40, vr r, vi g, vi w, vi (t : Nat), y] ∧ Fr [40, 42, 44, 45] μ μ1 ∧ μ1 40 3 = 0 ∧ μ1 40 4 = 0 ∧ (∀ t, t < 36 → μ1 42 t = -2) ∧ GB τ (gnK τ ρ t) μ1) → Ex d 11 43 L [] θ μ1 Q := by
    refine Ex_loop (I := fun t L μ1 => ∃ y, L = [vr 40, vr r, vi g, vi w, vi (t : Nat), y] ∧ Fr [40, 42, 44, 45] μ μ1 ∧ μ1 40 3 = 0 ∧ μ1 40 4 = 0 ∧ (∀ t, t < 36 → μ1 42 t = -2) ∧ GB τ (gnK τ ρ t) μ1) (tn τ) ?_ ?_
    · rintro t L μ1 ht ⟨y, rfl, hf, h3, h4, h42, hB⟩ hk
      have eT : μ1 T 13 = (tn τ : Nat) := by rw [hf T (by simp <;> omega)]; exact hC.2.1
      have e0 : μ1 (r + 2) t = ρ.1 0 t := by rw [hf _ (by simp <;> omega)]; exact hR2 0 t (by decide) ht
      have i1 : ¬ ((tn τ : Int) ≤ (t : Int)) := by omega
      rw [x11_43]
      by_cases hg0 : ρ.1 0 t = 0
      · simp (disch := omega) only [x11_0, x11_1, x11_2, x11_5, x11_6, x11_7, x11_10, x11_11, x11_12, x11_15, x11_16, x11_19, x11_20, x11_23, x11_24, x11_27, x11_28, x11_31, x11_32, x11_35, x11_37, x11_40, x11_41, x11_45, x11_46, x11_49, x11_52, x11_55, x11_56, x11_59, x11_60, x11_61, x11_63, x11_64, x11_67, x11_68, x11_70, x11_73, x11_76, x11_79, x11_80, x11_81, x11_84, x11_85, x11_86, x11_89, x11_90, x11_94, x11_95, x11_98, x11_101, x11_104, x11_105, x11_108, x11_111, x11_113, x11_114, x11_115, x11_118, x11_120, x11_121, x11_122, x11_123, x11_124, x11_126, x11_127, x11_130, x11_133, x11_135, x11_136, x11_137, x11_140, x11_141, x11_142, x11_145, x11_147, x11_148, x11_151, x11_154, x11_155, x11_156, x11_159, x11_161, x11_162, x11_165, x11_168, x11_171, x11_172, x11_175, x11_178, x11_180, x11_181, x11_182, x11_183, x11_186, x11_189, x11_191, x11_192, x11_193, x11_194, x11_197, ↓reduceIte, Bool.false_eq_true, Nat.reduceAdd, Nat.reduceLT, Nat.reduceLeDiff, Nat.reduceSub, Nat.reduceEqDiff, Int.reduceToNat, Int.reduceEq, Int.reduceLT, Int.reduceLE, Int.reduceAdd, Int.reduceSub, zg, zI, zJ, zR, zst, zkl, zn, zcat, zok, zraw, List.length_cons, List.length_nil, Option.toList, List.nil_append, List.cons_append, true_and, and_true, if_true, if_false, ne_eq, not_true, not_false_eq_true, and_self, true_or, or_true, false_or, or_false, false_and, and_false, b_40 hc, r_40_0 hc, x_41 hc, r_40_1 hc, x_42 hc, r_40_2 hc, x_43 hc, r_40_9 hc, r_40_10 hc, x_44 hc, r_40_11 hc, x_45 hc, tb hT, Tq1 hT, Tq2 hT, tr_0 hT, tr_1 hT, tr_2 hT, tr_3 hT, tr_4 hT, tr_5 hT, tr_6 hT, tr_7 hT, tr_8 hT, tr_9 hT, tr_10 hT, tr_11 hT, tr_12 hT, tx_1 hT, tx_2 hT, tx_3 hT, tx_4 hT, tx_5 hT, tx_6 hT, tx_7 hT, tx_8 hT, tx_9 hT, tx_10 hT, tx_11 hT, tx_12 hT, tx_13 hT, rb hr, Rq1 hr, Rq2 hr, rr_0 hr, rx_1 hr, rn_1 hr, rm_0 hr, rm_1 hr, rm_2 hr, rm_3 hr, rm_4 hr, rx_2 hr, rx_3 hr, rx_4 hr, rx_5 hr, rx_6 hr, hgT, eT, e0, i1, hg0, hd0, Int.toNat_natCast]
        have hk1 : gnK τ ρ (t + 1) = zup (gnK τ ρ t) t 1 := by
          funext q
          unfold gnK zup
          have hgq : gnO τ ρ t = 1 := by unfold gnO; rw [if_pos ⟨ht, hg0⟩]
          by_cases hq : q = t
          · subst hq; simp [hgq]
          · by_cases hq2 : q < t
            · have : q < t + 1 := by omega
              simp [hq, hq2, this]
            · have : ¬ q < t + 1 := by omega
              simp [hq, hq2, this]
        refine cLeave hth' hw (CX_fr hX hf (by decide)).2.2.1 rfl ht (gnK_z _ _ _) (by unfold gnK; simp) hB ?_
        intro μ2 hf2 hj2 hB2
        simp (disch := omega) only [x11_0, x11_1, x11_2, x11_5, x11_6, x11_7, x11_10, x11_11, x11_12, x11_15, x11_16, x11_19, x11_20, x11_23, x11_24, x11_27, x11_28, x11_31, x11_32, x11_35, x11_37, x11_40, x11_41, x11_45, x11_46, x11_49, x11_52, x11_55, x11_56, x11_59, x11_60, x11_61, x11_63, x11_64, x11_67, x11_68, x11_70, x11_73, x11_76, x11_79, x11_80, x11_81, x11_84, x11_85, x11_86, x11_89, x11_90, x11_94, x11_95, x11_98, x11_101, x11_104, x11_105, x11_108, x11_111, x11_113, x11_114, x11_115, x11_118, x11_120, x11_121, x11_122, x11_123, x11_124, x11_126, x11_127, x11_130, x11_133, x11_135, x11_136, x11_137, x11_140, x11_141, x11_142, x11_145, x11_147, x11_148, x11_151, x11_154, x11_155, x11_156, x11_159, x11_161, x11_162, x11_165, x11_168, x11_171, x11_172, x11_175, x11_178, x11_180, x11_181, x11_182, x11_183, x11_186, x11_189, x11_191, x11_192, x11_193, x11_194, x11_197, ↓reduceIte, Bool.false_eq_true, Nat.reduceAdd, Nat.reduceLT, Nat.reduceLeDiff, Nat.reduceSub, Nat.reduceEqDiff, Int.reduceToNat, Int.reduceEq, Int.reduceLT, Int.reduceLE, Int.reduceAdd, Int.reduceSub, zg, zI, zJ, zR, zst, zkl, zn, zcat, zok, zraw, List.length_cons, List.length_nil, Option.toList, List.nil_append, List.cons_append, true_and, and_true, if_true, if_false, ne_eq, not_true, not_false_eq_true, and_self, true_or, or_true, false_or, or_false, false_and, and_false, w32_s]
        apply hk
        refine ⟨_, rfl, hf.trans (hf2.mono (by decide)), by rw [hj2 3 (by decide), h3], by rw [hj2 4 (by decide), h4], ?_, by rw [hk1]; exact hB2⟩
        intro t' ht'; rw [hf2 42 (by decide)]; exact h42 t' ht'
      · simp (disch := omega) only [x11_0, x11_1, x11_2, x11_5, x11_6, x11_7, x11_10, x11_11, x11_12, x11_15, x11_16, x11_19, x11_20, x11_23, x11_24, x11_27, x11_28, x11_31, x11_32, x11_35, x11_37, x11_40, x11_41, x11_45, x11_46, x11_49, x11_52, x11_55, x11_56, x11_59, x11_60, x11_61, x11_63, x11_64, x11_67, x11_68, x11_70, x11_73, x11_76, x11_79, x11_80, x11_81, x11_84, x11_85, x11_86, x11_89, x11_90, x11_94, x11_95, x11_98, x11_101, x11_104, x11_105, x11_108, x11_111, x11_113, x11_114, x11_115, x11_118, x11_120, x11_121, x11_122, x11_123, x11_124, x11_126, x11_127, x11_130, x11_133, x11_135, x11_136, x11_137, x11_140, x11_141, x11_142, x11_145, x11_147, x11_148, x11_151, x11_154, x11_155, x11_156, x11_159, x11_161, x11_162, x11_165, x11_168, x11_171, x11_172, x11_175, x11_178, x11_180, x11_181, x11_182, x11_183, x11_186, x11_189, x11_191, x11_192, x11_193, x11_194, x11_197, ↓reduceIte, Bool.false_eq_true, Nat.reduceAdd, Nat.reduceLT, Nat.reduceLeDiff, Nat.reduceSub, Nat.reduceEqDiff, Int.reduceToNat, Int.reduceEq, Int.reduceLT, Int.reduceLE, Int.reduceAdd, Int.reduceSub, zg, zI, zJ, zR, zst, zkl, zn, zcat, zok, zraw, List.length_cons, List.length_nil, Option.toList, List.nil_append, List.cons_append, true_and, and_true, if_true, if_false, ne_eq, not_true, not_false_eq_true, and_self, true_or, or_true, false_or, or_false, false_and, and_false, b_40 hc, r_40_0 hc, x_41 hc, r_40_1 hc, x_42 hc, r_40_2 hc, x_43 hc, r_40_9 hc, r_40_10 hc, x_44 hc, r_40_11 hc, x_45 hc, tb hT, Tq1 hT, Tq2 hT, tr_0 hT, tr_1 hT, tr_2 hT, tr_3 hT, tr_4 hT, tr_5 hT, tr_6 hT, tr_7 hT, tr_8 hT, tr_9 hT, tr_10 hT, tr_11 hT, tr_12 hT, tx_1 hT, tx_2 hT, tx_3 hT, tx_4 hT, tx_5 hT, tx_6 hT, tx_7 hT, tx_8 hT, tx_9 hT, tx_10 hT, tx_11 hT, tx_12 hT, tx_13 hT, rb hr, Rq1 hr, Rq2 hr, rr_0 hr, rx_1 hr, rn_1 hr, rm_0 hr, rm_1 hr, rm_2 hr, rm_3 hr, rm_4 hr, rx_2 hr, rx_3 hr, rx_4 hr, rx_5 hr, rx_6 hr, hgT, eT, e0, i1, hg0, hd0, Int.toNat_natCast, w32_s]
        apply hk
        have hk1 : gnK τ ρ (t + 1) = gnK τ ρ t := by
          funext q
          unfold gnK
          have hgq : ¬ gnO τ ρ t = 1 := by unfold gnO; rw [if_neg (fun h => hg0 h.2)]; decide
          by_cases hq : q = t
          · subst hq; simp [hgq]
          · by_cases hq2 : q < t
            · have : q < t + 1 := by omega
              simp [hq2, this]
            · have : ¬ q < t + 1 := by omega
              simp [hq2, this]
        exact ⟨_, rfl, hf, h3, h4, h42, by rw [hk1]; exact hB⟩
    · rintro L μ1 ⟨y, rfl, hf, h3, h4, h42, hB⟩
      have eT : μ1 T 13 = (tn τ : Nat) := by rw [hf T (by simp <;> omega)]; exact hC.2.1
      rw [gnK_n] at hB
      rw [x11_43]
      simp (disch := omega) only [x11_0, x11_1, x11_2, x11_5, x11_6, x11_7, x11_10, x11_11, x11_12, x11_15, x11_16, x11_19, x11_20, x11_23, x11_24, x11_27, x11_28, x11_31, x11_32, x11_35, x11_37, x11_40, x11_41, x11_45, x11_46, x11_49, x11_52, x11_55, x11_56, x11_59, x11_60, x11_61, x11_63, x11_64, x11_67, x11_68, x11_70, x11_73, x11_76, x11_79, x11_80, x11_81, x11_84, x11_85, x11_86, x11_89, x11_90, x11_94, x11_95, x11_98, x11_101, x11_104, x11_105, x11_108, x11_111, x11_113, x11_114, x11_115, x11_118, x11_120, x11_121, x11_122, x11_123, x11_124, x11_126, x11_127, x11_130, x11_133, x11_135, x11_136, x11_137, x11_140, x11_141, x11_142, x11_145, x11_147, x11_148, x11_151, x11_154, x11_155, x11_156, x11_159, x11_161, x11_162, x11_165, x11_168, x11_171, x11_172, x11_175, x11_178, x11_180, x11_181, x11_182, x11_183, x11_186, x11_189, x11_191, x11_192, x11_193, x11_194, x11_197, ↓reduceIte, Bool.false_eq_true, Nat.reduceAdd, Nat.reduceLT, Nat.reduceLeDiff, Nat.reduceSub, Nat.reduceEqDiff, Int.reduceToNat, Int.reduceEq, Int.reduceLT, Int.reduceLE, Int.reduceAdd, Int.reduceSub, zg, zI, zJ, zR, zst, zkl, zn, zcat, zok, zraw, List.length_cons, List.length_nil, Option.toList, List.nil_append, List.cons_append, true_and, and_true, if_true, if_false, ne_eq, not_true, not_false_eq_true, and_self, true_or, or_true, false_or, or_false, false_and, and_false, b_40 hc, r_40_0 hc, x_41 hc, r_40_1 hc, x_42 hc, r_40_2 hc, x_43 hc, r_40_9 hc, r_40_10 hc, x_44 hc, r_40_11 hc, x_45 hc, tb hT, Tq1 hT, Tq2 hT, tr_0 hT, tr_1 hT, tr_2 hT, tr_3 hT, tr_4 hT, tr_5 hT, tr_6 hT, tr_7 hT, tr_8 hT, tr_9 hT, tr_10 hT, tr_11 hT, tr_12 hT, tx_1 hT, tx_2 hT, tx_3 hT, tx_4 hT, tx_5 hT, tx_6 hT, tx_7 hT, tx_8 hT, tx_9 hT, tx_10 hT, tx_11 hT, tx_12 hT, tx_13 hT, rb hr, Rq1 hr, Rq2 hr, rr_0 hr, rx_1 hr, rn_1 hr, rm_0 hr, rm_1 hr, rm_2 hr, rm_3 hr, rm_4 hr, rx_2 hr, rx_3 hr, rx_4 hr, rx_5 hr, rx_6 hr, hgT, eT, Int.le_refl, ua_eq, us_same, us_us]
      refine key2 0 _ _ (by omega) ⟨y, rfl, Fr.us (by decide) hf, ?_, ?_, ?_, ?_, ?_, ?_⟩
      · rw [us_same, zup_ne (by decide), zup_ne (by decide), h3]
      · rw [us_same, zup_ne (by decide), zup_ne (by decide), h4]
      · intro t' ht'; rw [us_ne (by decide)]; exact h42 t' ht'
      · exact GB_fr (us_ne (by decide)) (us_ne (by decide)) (by rw [us_same, zup_ne (by decide), zup_ne (by decide)]) hB
      · rw [us_same, zup_ne (by decide), zup_same rfl]; rfl
      · rw [us_same, zup_same rfl]; rfl
  simp (disch := omega) only [x11_0, x11_1, x11_2, x11_5, x11_6, x11_7, x11_10, x11_11, x11_12, x11_15, x11_16, x11_19, x11_20, x11_23, x11_24, x11_27, x11_28, x11_31, x11_32, x11_35, x11_37, x11_40, x11_41, x11_45, x11_46, x11_49, x11_52, x11_55, x11_56, x11_59, x11_60, x11_61, x11_63, x11_64, x11_67, x11_68, x11_70, x11_73, x11_76, x11_79, x11_80, x11_81, x11_84, x11_85, x11_86, x11_89, x11_90, x11_94, x11_95, x11_98, x11_101, x11_104, x11_105, x11_108, x11_111, x11_113, x11_114, x11_115, x11_118, x11_120, x11_121, x11_122, x11_123, x11_124, x11_126, x11_127, x11_130, x11_133, x11_135, x11_136, x11_137, x11_140, x11_141, x11_142, x11_145, x11_147, x11_148, x11_151, x11_154, x11_155, x11_156, x11_159, x11_161, x11_162, x11_165, x11_168, x11_171, x11_172, x11_175, x11_178, x11_180, x11_181, x11_182, x11_183, x11_186, x11_189, x11_191, x11_192, x11_193, x11_194, x11_197, ↓reduceIte, Bool.false_eq_true, Nat.reduceAdd, Nat.reduceLT, Nat.reduceLeDiff, Nat.reduceSub, Nat.reduceEqDiff, Int.reduceToNat, Int.reduceEq, Int.reduceLT, Int.reduceLE, Int.reduceAdd, Int.reduceSub, zg, zI, zJ, zR, zst, zkl, zn, zcat, zok, zraw, List.length_cons, List.length_nil, Option.toList, List.nil_append, List.cons_append, true_and, and_true, if_true, if_false, ne_eq, not_true, not_false_eq_true, and_self, true_or, or_true, false_or, or_false, false_and, and_false, b_40 hc, r_40_0 hc, x_41 hc, r_40_1 hc, x_42 hc, r_40_2 hc, x_43 hc, r_40_9 hc, r_40_10 hc, x_44 hc, r_40_11 hc, x_45 hc, hd0, ua_eq, us_same, us_us]
  refine eFill (by decide) (s_44 hc) (by decide) ?_
  simp (disch := omega) only [x11_0, x11_1, x11_2, x11_5, x11_6, x11_7, x11_10, x11_11, x11_12, x11_15, x11_16, x11_19, x11_20, x11_23, x11_24, x11_27, x11_28, x11_31, x11_32, x11_35, x11_37, x11_40, x11_41, x11_45, x11_46, x11_49, x11_52, x11_55, x11_56, x11_59, x11_60, x11_61, x11_63, x11_64, x11_67, x11_68, x11_70, x11_73, x11_76, x11_79, x11_80, x11_81, x11_84, x11_85, x11_86, x11_89, x11_90, x11_94, x11_95, x11_98, x11_101, x11_104, x11_105, x11_108, x11_111, x11_113, x11_114, x11_115, x11_118, x11_120, x11_121, x11_122, x11_123, x11_124, x11_126, x11_127, x11_130, x11_133, x11_135, x11_136, x11_137, x11_140, x11_141, x11_142, x11_145, x11_147, x11_148, x11_151, x11_154, x11_155, x11_156, x11_159, x11_161, x11_162, x11_165, x11_168, x11_171, x11_172, x11_175, x11_178, x11_180, x11_181, x11_182, x11_183, x11_186, x11_189, x11_191, x11_192, x11_193, x11_194, x11_197, ↓reduceIte, Bool.false_eq_true, Nat.reduceAdd, Nat.reduceLT, Nat.reduceLeDiff, Nat.reduceSub, Nat.reduceEqDiff, Int.reduceToNat, Int.reduceEq, Int.reduceLT, Int.reduceLE, Int.reduceAdd, Int.reduceSub, zg, zI, zJ, zR, zst, zkl, zn, zcat, zok, zraw, List.length_cons, List.length_nil, Option.toList, List.nil_append, List.cons_append, true_and, and_true, if_true, if_false, ne_eq, not_true, not_false_eq_true, and_self, true_or, or_true, false_or, or_false, false_and, and_false, b_40 hc, r_40_0 hc, x_41 hc, r_40_1 hc, x_42 hc, r_40_2 hc, x_43 hc, r_40_9 hc, r_40_10 hc, x_44 hc, r_40_11 hc, x_45 hc, hd0]
  refine eFill (by decide) (s_45 hc) (by decide) ?_
  simp (disch := omega) only [x11_0, x11_1, x11_2, x11_5, x11_6, x11_7, x11_10, x11_11, x11_12, x11_15, x11_16, x11_19, x11_20, x11_23, x11_24, x11_27, x11_28, x11_31, x11_32, x11_35, x11_37, x11_40, x11_41, x11_45, x11_46, x11_49, x11_52, x11_55, x11_56, x11_59, x11_60, x11_61, x11_63, x11_64, x11_67, x11_68, x11_70, x11_73, x11_76, x11_79, x11_80, x11_81, x11_84, x11_85, x11_86, x11_89, x11_90, x11_94, x11_95, x11_98, x11_101, x11_104, x11_105, x11_108, x11_111, x11_113, x11_114, x11_115, x11_118, x11_120, x11_121, x11_122, x11_123, x11_124, x11_126, x11_127, x11_130, x11_133, x11_135, x11_136, x11_137, x11_140, x11_141, x11_142, x11_145, x11_147, x11_148, x11_151, x11_154, x11_155, x11_156, x11_159, x11_161, x11_162, x11_165, x11_168, x11_171, x11_172, x11_175, x11_178, x11_180, x11_181, x11_182, x11_183, x11_186, x11_189, x11_191, x11_192, x11_193, x11_194, x11_197, ↓reduceIte, Bool.false_eq_true, Nat.reduceAdd, Nat.reduceLT, Nat.reduceLeDiff, Nat.reduceSub, Nat.reduceEqDiff, Int.reduceToNat, Int.reduceEq, Int.reduceLT, Int.reduceLE, Int.reduceAdd, Int.reduceSub, zg, zI, zJ, zR, zst, zkl, zn, zcat, zok, zraw, List.length_cons, List.length_nil, Option.toList, List.nil_append, List.cons_append, true_and, and_true, if_true, if_false, ne_eq, not_true, not_false_eq_true, and_self, true_or, or_true, false_or, or_false, false_and, and_false, b_40 hc, r_40_0 hc, x_41 hc, r_40_1 hc, x_42 hc, r_40_2 hc, x_43 hc, r_40_9 hc, r_40_10 hc, x_44 hc, r_40_11 hc, x_45 hc, hd0]
  refine eFill (by decide) (s_42 hc) (by decide) ?_
  simp (disch := omega) only [x11_0, x11_1, x11_2, x11_5, x11_6, x11_7, x11_10, x11_11, x11_12, x11_15, x11_16, x11_19, x11_20, x11_23, x11_24, x11_27, x11_28, x11_31, x11_32, x11_35, x11_37, x11_40, x11_41, x11_45, x11_46, x11_49, x11_52, x11_55, x11_56, x11_59, x11_60, x11_61, x11_63, x11_64, x11_67, x11_68, x11_70, x11_73, x11_76, x11_79, x11_80, x11_81, x11_84, x11_85, x11_86, x11_89, x11_90, x11_94, x11_95, x11_98, x11_101, x11_104, x11_105, x11_108, x11_111, x11_113, x11_114, x11_115, x11_118, x11_120, x11_121, x11_122, x11_123, x11_124, x11_126, x11_127, x11_130, x11_133, x11_135, x11_136, x11_137, x11_140, x11_141, x11_142, x11_145, x11_147, x11_148, x11_151, x11_154, x11_155, x11_156, x11_159, x11_161, x11_162, x11_165, x11_168, x11_171, x11_172, x11_175, x11_178, x11_180, x11_181, x11_182, x11_183, x11_186, x11_189, x11_191, x11_192, x11_193, x11_194, x11_197, ↓reduceIte, Bool.false_eq_true, Nat.reduceAdd, Nat.reduceLT, Nat.reduceLeDiff, Nat.reduceSub, Nat.reduceEqDiff, Int.reduceToNat, Int.reduceEq, Int.reduceLT, Int.reduceLE, Int.reduceAdd, Int.reduceSub, zg, zI, zJ, zR, zst, zkl, zn, zcat, zok, zraw, List.length_cons, List.length_nil, Option.toList, List.nil_append, List.cons_append, true_and, and_true, if_true, if_false, ne_eq, not_true, not_false_eq_true, and_self, true_or, or_true, false_or, or_false, false_and, and_false, b_40 hc, r_40_0 hc, x_41 hc, r_40_1 hc, x_42 hc, r_40_2 hc, x_43 hc, r_40_9 hc, r_40_10 hc, x_44 hc, r_40_11 hc, x_45 hc, hd0]
  refine key1 0 _ _ (by omega) ⟨x5, rfl, Fr.us (by decide) (Fr.us (by decide) (Fr.us (by decide) (Fr.us (by decide) Fr.refl))), ?_, ?_, ?_, ?_, ?_, ?_⟩
  · simp [us, zup]
  · simp [us, zup]
  · intro t ht; simp [us, ht]
  · intro t ht; simp only [us]; simp [gnK]; omega
  · intro t ht; rw [bar_zero (fun t => by simp [gnK])]; simp only [us]; simp; omega
  · rw [hl_zero (fun t => by simp [gnK])]; simp [us, zup]
end LM
