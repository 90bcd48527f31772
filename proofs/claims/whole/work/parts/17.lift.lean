/-! THE GALE: draught, hold, lift, landing -/
def VG (τ : zT) (od : Nat → Int) (lost : Nat → Int) (g w : Int) (μ : zM) : Prop := μ 10 5 = hlO τ lost ∧ μ 10 6 = inO τ od lost w ∧ μ 10 7 = ouO τ od lost w ∧ μ 10 8 = g ∧ μ 10 9 = w
def GS (τ : zT) (od : Nat → Int) (lost : Nat → Int) (g w : Int) (μ : zM) : Prop := GB τ lost μ ∧ (μ 40 13 = drI τ od w ∧ μ 40 14 = drO τ od w) ∧ VG τ od lost g w μ
def TCc (τ : zT) (T : Nat) (μ : zM) : Prop := (μ T 16 ≤ 0 → ∀ k, k < 4 → tL τ k = none)
  ∧ (∀ k, k < 4 → match tL τ k with
    | none => μ (T + 7) k ≤ μ (T + 6) k
    | some c => μ (T + 6) k < μ (T + 7) k ∧ cAt (μ (T + 5)) (μ (T + 6) k) (μ (T + 7) k) (enC c))
  ∧ ∀ k, k < 3 → μ (T + 10) k = ((tR τ k).length : Nat) ∧ ∀ i (h : i < (tR τ k).length), cAt (μ (T + 5)) (μ (T + 8) (6 * k + i)) (μ (T + 9) (6 * k + i)) (enR ((tR τ k)[i]) false false)
def odz (τ : zT) (od : Nat → Int) : Prop := ∀ k, k < tD τ → od k = 0 ∨ od k = 1
section DR
variable {θ : zS} {T U : Nat} {τ : zT} {Q : Option zV → zS → zM → Prop} {μ : zM} {od lost : Nat → Int} {g w : Int}
theorem dr_t {x o : Int} (h : o = 0 ∨ o = 1) (hz : 1 ≤ x ∧ x ≤ 9) : 0 ≤ x * o ∧ x * o ≤ 9 := by rcases h with rfl | rfl <;> omega
theorem dr_b (hw : wfT τ) (ho : odz τ od) : (0 ≤ drI τ od w ∧ drI τ od w ≤ 54) ∧ (0 ≤ drO τ od w ∧ drO τ od w ≤ 54) := by
  have h5 := hw.2.2.2.2.1
  have h6 := hw.2.2.2.2.2.1
  have a1 : ∀ i, i < tD τ → 0 ≤ (if tS τ i = w then tZ τ i * od i else 0) ∧ (if tS τ i = w then tZ τ i * od i else 0) ≤ 9 := by
    intro i hi
    have := dr_t (ho i hi) (h6 i hi).2.1
    by_cases hc : tS τ i = w
    · rw [if_pos hc]; exact this
    · rw [if_neg hc]; omega
  have a2 : ∀ i, i < tD τ → 0 ≤ (if tS τ i = w then 0 else tZ τ i * od i) ∧ (if tS τ i = w then 0 else tZ τ i * od i) ≤ 9 := by
    intro i hi
    have := dr_t (ho i hi) (h6 i hi).2.1
    by_cases hc : tS τ i = w
    · rw [if_pos hc]; omega
    · rw [if_neg hc]; exact this
  have b1 := sm_le (f := fun k => if tS τ k = w then tZ τ k * od k else 0) (n := tD τ) (b := 9) (fun i hi => (a1 i hi).2)
  have b2 := sm_le (f := fun k => if tS τ k = w then 0 else tZ τ k * od k) (n := tD τ) (b := 9) (fun i hi => (a2 i hi).2)
  have b3 := sm_nn (f := fun k => if tS τ k = w then tZ τ k * od k else 0) (n := tD τ) (fun i hi => (a1 i hi).1)
  have b4 := sm_nn (f := fun k => if tS τ k = w then 0 else tZ τ k * od k) (n := tD τ) (fun i hi => (a2 i hi).1)
  unfold drI drO
  omega
theorem cDraught {d : Nat} {x1 x2 : zV} (h : Th θ T U) (hw : wfT τ) (hC : TCn τ T μ) (hz : lz lost) (ho : odz τ od) (hG : μ 40 12 = hlO τ lost) (hI : μ 40 13 = drI τ od w) (hO : μ 40 14 = drO τ od w) (h9 : μ 10 9 = w)
    (hQ : ∀ μ', Fr [10] μ μ' → (∀ j, j ≠ 5 → j ≠ 6 → j ≠ 7 → μ' 10 j = μ 10 j) → μ' 10 5 = hlO τ lost → μ' 10 6 = inO τ od lost w → μ' 10 7 = ouO τ od lost w → Q none θ μ') : Ex d 12 0 [vr 40, x1, x2] [] θ μ Q := by
  obtain ⟨hc, hT, hU, hTU, h2T, h2U, hgT⟩ := h
  have hb := hl_b hw hz
  have hn := tn_b hw
  have hd := dr_b (w := w) hw ho
  have e2 : μ (T + 1) 2 = tN τ 2 := hC.1 2 (by decide)
  have w1 : w32 (drI τ od w + hlO τ lost) = drI τ od w + hlO τ lost := w32_i (by omega) (by omega)
  have w2 : w32 (drO τ od w + hlO τ lost) = drO τ od w + hlO τ lost := w32_i (by omega) (by omega)
  by_cases hf : tN τ 2 = w
  · simp (disch := omega) only [x12_0, x12_1, x12_4, x12_7, x12_8, x12_9, x12_12, x12_15, x12_16, x12_17, x12_18, x12_20, x12_21, x12_24, x12_25, x12_28, x12_29, x12_30, x12_31, x12_32, x12_33, x12_36, x12_37, x12_38, x12_40, x12_41, x12_44, x12_45, x12_48, x12_49, x12_52, x12_53, x12_56, x12_57, x12_60, x12_61, x12_62, x12_64, x12_65, x12_68, x12_69, x12_72, x12_75, x12_76, x12_79, x12_80, x12_83, x12_84, x12_85, ↓reduceIte, Bool.false_eq_true, Nat.reduceAdd, Nat.reduceLT, Nat.reduceLeDiff, Nat.reduceSub, Nat.reduceEqDiff, Int.reduceToNat, Int.reduceEq, Int.reduceLT, Int.reduceLE, Int.reduceAdd, Int.reduceSub, zg, zI, zJ, zR, zst, zkl, zn, zcat, zok, zraw, List.length_cons, List.length_nil, Option.toList, List.nil_append, List.cons_append, true_and, and_true, if_true, if_false, ne_eq, not_true, not_false_eq_true, and_self, true_or, or_true, false_or, or_false, false_and, and_false, b_40 hc, r_40_0 hc, x_41 hc, r_40_1 hc, x_42 hc, r_40_2 hc, x_43 hc, r_40_9 hc, r_40_10 hc, x_44 hc, r_40_11 hc, x_45 hc, b_9 hc, r_9_0 hc, x_10 hc, r_9_1 hc, x_11 hc, tb hT, Tq1 hT, Tq2 hT, tr_0 hT, tr_1 hT, tr_2 hT, tr_3 hT, tr_4 hT, tr_5 hT, tr_6 hT, tr_7 hT, tr_8 hT, tr_9 hT, tr_10 hT, tr_11 hT, tr_12 hT, tx_1 hT, tx_2 hT, tx_3 hT, tx_4 hT, tx_5 hT, tx_6 hT, tx_7 hT, tx_8 hT, tx_9 hT, tx_10 hT, tx_11 hT, tx_12 hT, tx_13 hT, hgT, ua_eq, us_same, us_ne, us_us, zup_ne, e2, h9, hG, hI, hO, hf, w1, w2, Int.toNat_natCast, Int.reduceToNat]
    refine hQ _ (Fr.us (by decide) Fr.refl) (fun j h5 h6 h7 => ?_) ?_ ?_ ?_
    · simp (disch := omega) only [us_same, zup_ne]
    · simp (disch := omega) only [us_same, zup_ne, zup_same]
    · simp (disch := omega) only [us_same, zup_ne, zup_same, inO, hf, if_true, if_false]
    · simp (disch := omega) only [us_same, zup_ne, zup_same, ouO, hf, if_true, if_false]; omega
  · simp (disch := omega) only [x12_0, x12_1, x12_4, x12_7, x12_8, x12_9, x12_12, x12_15, x12_16, x12_17, x12_18, x12_20, x12_21, x12_24, x12_25, x12_28, x12_29, x12_30, x12_31, x12_32, x12_33, x12_36, x12_37, x12_38, x12_40, x12_41, x12_44, x12_45, x12_48, x12_49, x12_52, x12_53, x12_56, x12_57, x12_60, x12_61, x12_62, x12_64, x12_65, x12_68, x12_69, x12_72, x12_75, x12_76, x12_79, x12_80, x12_83, x12_84, x12_85, ↓reduceIte, Bool.false_eq_true, Nat.reduceAdd, Nat.reduceLT, Nat.reduceLeDiff, Nat.reduceSub, Nat.reduceEqDiff, Int.reduceToNat, Int.reduceEq, Int.reduceLT, Int.reduceLE, Int.reduceAdd, Int.reduceSub, zg, zI, zJ, zR, zst, zkl, zn, zcat, zok, zraw, List.length_cons, List.length_nil, Option.toList, List.nil_append, List.cons_append, true_and, and_true, if_true, if_false, ne_eq, not_true, not_false_eq_true, and_self, true_or, or_true, false_or, or_false, false_and, and_false, b_40 hc, r_40_0 hc, x_41 hc, r_40_1 hc, x_42 hc, r_40_2 hc, x_43 hc, r_40_9 hc, r_40_10 hc, x_44 hc, r_40_11 hc, x_45 hc, b_9 hc, r_9_0 hc, x_10 hc, r_9_1 hc, x_11 hc, tb hT, Tq1 hT, Tq2 hT, tr_0 hT, tr_1 hT, tr_2 hT, tr_3 hT, tr_4 hT, tr_5 hT, tr_6 hT, tr_7 hT, tr_8 hT, tr_9 hT, tr_10 hT, tr_11 hT, tr_12 hT, tx_1 hT, tx_2 hT, tx_3 hT, tx_4 hT, tx_5 hT, tx_6 hT, tx_7 hT, tx_8 hT, tx_9 hT, tx_10 hT, tx_11 hT, tx_12 hT, tx_13 hT, hgT, ua_eq, us_same, us_ne, us_us, zup_ne, e2, h9, hG, hI, hO, hf, w1, w2, Int.toNat_natCast, Int.reduceToNat]
    refine hQ _ (Fr.us (by decide) Fr.refl) (fun j h5 h6 h7 => ?_) ?_ ?_ ?_
    · simp (disch := omega) only [us_same, zup_ne]
    · simp (disch := omega) only [us_same, zup_ne, zup_same]
    · simp (disch := omega) only [us_same, zup_ne, zup_same, inO, hf, if_true, if_false]; omega
    · simp (disch := omega) only [us_same, zup_ne, zup_same, ouO, hf, if_true, if_false]
end DR
