/-! THE CLASS'S ROOFS: copies, holes, what is lost, nails -/
section CR
variable {θ : zS} {T U : Nat} {τ : zT} {Q : Option zV → zS → zM → Prop} {μ : zM} {ρ : zF}
theorem cCopy {d r q : Nat} {x2 : zV} (hc : Tc θ) (hr : rfs r) (hq : rfs q) (hne : r ≠ q) (hR : RC τ ρ q μ) (hn : tn τ ≤ 36)
    (hb : μ q 3 = 0 ∨ μ q 3 = 1)
    (hQ : ∀ μ', Fr [r, r + 2, r + 3, r + 4, r + 5, r + 6] μ μ' → RC τ ρ r μ' → μ' r 2 = μ q 2 → (∀ j, j ≠ 1 → j ≠ 2 → j ≠ 3 → μ' r j = μ r j) → Q none θ μ') : Ex d 61 0 [vr r, vr q, x2] [] θ μ Q := by
  have hrr := hr
  have hqq := hq
  have hr := rfs_q hc hrr
  have hq := rfs_q hc hqq
  unfold rfs at hrr hqq
  obtain ⟨h1, h2, h3, h4⟩ := hR
  have key : ∀ t L μ1, t ≤ 5 → (L = [vr r, vr q, vi (t : Nat)] ∧ Fr [r, r + 2, r + 3, r + 4, r + 5, r + 6] μ μ1 ∧ (μ1 r 1 = μ q 1 ∧ μ1 r 2 = μ q 2 ∧ μ1 r 3 = μ q 3 ∧ ∀ j, j ≠ 1 → j ≠ 2 → j ≠ 3 → μ1 r j = μ r j) ∧ ∀ m i, m < t → i < 36 → μ1 (r + (m + 2)) i = μ (q + (m + 2)) i) → Ex d 61 26 L [] θ μ1 Q := by
    refine Ex_loop (I := fun t L μ1 => L = [vr r, vr q, vi (t : Nat)] ∧ Fr [r, r + 2, r + 3, r + 4, r + 5, r + 6] μ μ1 ∧ (μ1 r 1 = μ q 1 ∧ μ1 r 2 = μ q 2 ∧ μ1 r 3 = μ q 3 ∧ ∀ j, j ≠ 1 → j ≠ 2 → j ≠ 3 → μ1 r j = μ r j) ∧ ∀ m i, m < t → i < 36 → μ1 (r + (m + 2)) i = μ (q + (m + 2)) i) 5 ?_ ?_
    · rintro t L μ1 ht ⟨rfl, hf, hm, ha⟩ hk
      have i1 : ¬ ((5 : Int) ≤ (t : Int)) := by omega
      have z0 : (0 : Int) ≤ 0 + 36 - 1 := by decide
      have z1 : (0 : Int) + 36 - 1 < 36 := by decide
      rw [x61_26]
      simp (disch := omega) only [x61_0, x61_1, x61_2, x61_5, x61_8, x61_9, x61_10, x61_13, x61_16, x61_17, x61_18, x61_21, x61_24, x61_25, x61_27, x61_28, x61_31, x61_32, x61_35, x61_36, x61_37, x61_38, x61_39, x61_42, x61_43, x61_44, x61_45, x61_47, x61_50, x61_53, x61_56, ↓reduceIte, Bool.false_eq_true, Nat.reduceAdd, Nat.reduceLT, Nat.reduceLeDiff, Nat.reduceSub, Nat.reduceEqDiff, Int.reduceToNat, Int.reduceEq, Int.reduceLT, Int.reduceLE, Int.reduceAdd, Int.reduceSub, zg, zI, zJ, zR, zst, zkl, zn, zcat, zok, zraw, List.length_cons, List.length_nil, Option.toList, List.nil_append, List.cons_append, true_and, and_true, if_true, if_false, ne_eq, not_true, not_false_eq_true, and_self, true_or, or_true, false_or, or_false, false_and, and_false, rb hr, Rq1 hr, Rq2 hr, rr_0 hr, rx_1 hr, rn_1 hr, rm_0 hr, rm_1 hr, rm_2 hr, rm_3 hr, rm_4 hr, rx_2 hr, rx_3 hr, rx_4 hr, rx_5 hr, rx_6 hr, rb hq, Rq1 hq, Rq2 hq, rr_0 hq, rx_1 hq, rn_1 hq, rm_k hr, rm_k hq, rx_k hr, rx_k hq, i1, Int.toNat_natCast, w32_s]
      have e36 : (36 : Int).toNat = 36 := rfl
      refine ⟨⟨by omega, by omega⟩, ?_⟩
      apply hk
      rw [zcopy_us]
      refine ⟨rfl, Fr.us (by simp; omega) hf, ?_, ?_⟩
      · rw [us_ne (by omega)]; exact hm
      · intro m i hm2 hi
        by_cases h1 : m = t
        · subst h1
          rw [us_same, if_pos hi, hf (q + (m + 2)) (by simp; omega)]
        · rw [us_ne (by omega)]; exact ha m i (by omega) hi
    · rintro L μ1 ⟨rfl, hf, hm, ha⟩
      have i5 : (5 : Int) ≤ ((5 : Nat) : Int) := by decide
      rw [x61_26]
      simp (disch := omega) only [x61_0, x61_1, x61_2, x61_5, x61_8, x61_9, x61_10, x61_13, x61_16, x61_17, x61_18, x61_21, x61_24, x61_25, x61_27, x61_28, x61_31, x61_32, x61_35, x61_36, x61_37, x61_38, x61_39, x61_42, x61_43, x61_44, x61_45, x61_47, x61_50, x61_53, x61_56, ↓reduceIte, Bool.false_eq_true, Nat.reduceAdd, Nat.reduceLT, Nat.reduceLeDiff, Nat.reduceSub, Nat.reduceEqDiff, Int.reduceToNat, Int.reduceEq, Int.reduceLT, Int.reduceLE, Int.reduceAdd, Int.reduceSub, zg, zI, zJ, zR, zst, zkl, zn, zcat, zok, zraw, List.length_cons, List.length_nil, Option.toList, List.nil_append, List.cons_append, true_and, and_true, if_true, if_false, ne_eq, not_true, not_false_eq_true, and_self, true_or, or_true, false_or, or_false, false_and, and_false, i5]
      refine hQ μ1 hf ⟨by rw [hm.1, h1], ?_, ?_, by rw [hm.2.2.1, h4]⟩ hm.2.1 hm.2.2.2
      · intro m t hm2 ht; rw [ha m t hm2 (by omega)]; exact h2 m t hm2 ht
      · intro k hk; rw [hm.2.1]; exact h3 k hk
  simp (disch := omega) only [x61_0, x61_1, x61_2, x61_5, x61_8, x61_9, x61_10, x61_13, x61_16, x61_17, x61_18, x61_21, x61_24, x61_25, x61_27, x61_28, x61_31, x61_32, x61_35, x61_36, x61_37, x61_38, x61_39, x61_42, x61_43, x61_44, x61_45, x61_47, x61_50, x61_53, x61_56, ↓reduceIte, Bool.false_eq_true, Nat.reduceAdd, Nat.reduceLT, Nat.reduceLeDiff, Nat.reduceSub, Nat.reduceEqDiff, Int.reduceToNat, Int.reduceEq, Int.reduceLT, Int.reduceLE, Int.reduceAdd, Int.reduceSub, zg, zI, zJ, zR, zst, zkl, zn, zcat, zok, zraw, List.length_cons, List.length_nil, Option.toList, List.nil_append, List.cons_append, true_and, and_true, if_true, if_false, ne_eq, not_true, not_false_eq_true, and_self, true_or, or_true, false_or, or_false, false_and, and_false, rb hr, Rq1 hr, Rq2 hr, rr_0 hr, rx_1 hr, rn_1 hr, rm_0 hr, rm_1 hr, rm_2 hr, rm_3 hr, rm_4 hr, rx_2 hr, rx_3 hr, rx_4 hr, rx_5 hr, rx_6 hr, rb hq, Rq1 hq, Rq2 hq, ua_eq, us_same, us_us, us_ne, hb]
  refine key 0 _ _ (by omega) ⟨rfl, Fr.us (by simp) Fr.refl, ?_, fun m i hm => absurd hm (by omega)⟩
  simp only [us_same, zup_ap]
  simp
  intro j a b c
  simp [a, b, c]
theorem cGone {d r : Nat} {x1 x2 : zV} (hc : Tc θ) (hw : wfT τ) (hF : CF τ ρ r μ)
    (hQ : Q (some (vi (hlO τ (gnO τ ρ)))) θ μ) : Ex d 62 0 [vr r, x1, x2] [] θ μ Q := by
  have hn := tn_b hw
  obtain ⟨hrf, hwF, h1, h2, h3, h4⟩ := hF
  have hr := rfs_q hc hrf
  unfold rfs at hrf
  have hz := gn_z τ ρ
  have key : ∀ t L μ1, t ≤ tn τ → (L = [vr r, vi (sm (gnO τ ρ) t), vi (t : Nat)] ∧ μ1 = μ) → Ex d 62 4 L [] θ μ1 Q := by
    refine Ex_loop (I := fun t L μ1 => L = [vr r, vi (sm (gnO τ ρ) t), vi (t : Nat)] ∧ μ1 = μ) (tn τ) ?_ ?_
    · rintro t L μ1 ht ⟨rfl, rfl⟩ hk
      have i1 : ¬ ((tn τ : Int) ≤ (t : Int)) := by omega
      have e := h2 0 t (by decide) ht
      simp only [Nat.zero_add] at e
      have b1 := sm_nn (f := gnO τ ρ) (n := t) (fun i _ => by have := hz i; omega)
      have b2 := sm_le (f := gnO τ ρ) (n := t) (b := 1) (fun i _ => by have := hz i; omega)
      have hg : gnO τ ρ t = 1 - ρ.1 0 t := by
        unfold gnO
        have := (hwF.1 t ht).1
        by_cases h0 : ρ.1 0 t = 0
        · rw [if_pos ⟨ht, h0⟩]; omega
        · rw [if_neg (fun q => h0 q.2)]; omega
      have hgt := hz t
      have a1 : w32 (1 - ρ.1 0 t) = 1 - ρ.1 0 t := w32_i (by omega) (by omega)
      have a2 : w32 (sm (gnO τ ρ) t + (1 - ρ.1 0 t)) = sm (gnO τ ρ) t + (1 - ρ.1 0 t) := w32_i (by omega) (by omega)
      rw [x62_4]
      simp (disch := omega) only [x62_0, x62_1, x62_2, x62_3, x62_5, x62_6, x62_9, x62_12, x62_13, x62_14, x62_15, x62_18, x62_19, x62_20, x62_21, x62_22, x62_23, x62_24, x62_25, x62_28, x62_31, x62_32, ↓reduceIte, Bool.false_eq_true, Nat.reduceAdd, Nat.reduceLT, Nat.reduceLeDiff, Nat.reduceSub, Nat.reduceEqDiff, Int.reduceToNat, Int.reduceEq, Int.reduceLT, Int.reduceLE, Int.reduceAdd, Int.reduceSub, zg, zI, zJ, zR, zst, zkl, zn, zcat, zok, zraw, List.length_cons, List.length_nil, Option.toList, List.nil_append, List.cons_append, true_and, and_true, if_true, if_false, ne_eq, not_true, not_false_eq_true, and_self, true_or, or_true, false_or, or_false, false_and, and_false, rb hr, Rq1 hr, Rq2 hr, rr_0 hr, rx_1 hr, rn_1 hr, rm_0 hr, rm_1 hr, rm_2 hr, rm_3 hr, rm_4 hr, rx_2 hr, rx_3 hr, rx_4 hr, rx_5 hr, rx_6 hr, h1, i1, e, Int.toNat_natCast, w32_s, a1, a2]
      refine hk _ _ ⟨?_, rfl⟩
      simp only [sm, hg]
    · rintro L μ1 ⟨rfl, rfl⟩
      rw [x62_4]
      simp (disch := omega) only [x62_0, x62_1, x62_2, x62_3, x62_5, x62_6, x62_9, x62_12, x62_13, x62_14, x62_15, x62_18, x62_19, x62_20, x62_21, x62_22, x62_23, x62_24, x62_25, x62_28, x62_31, x62_32, ↓reduceIte, Bool.false_eq_true, Nat.reduceAdd, Nat.reduceLT, Nat.reduceLeDiff, Nat.reduceSub, Nat.reduceEqDiff, Int.reduceToNat, Int.reduceEq, Int.reduceLT, Int.reduceLE, Int.reduceAdd, Int.reduceSub, zg, zI, zJ, zR, zst, zkl, zn, zcat, zok, zraw, List.length_cons, List.length_nil, Option.toList, List.nil_append, List.cons_append, true_and, and_true, if_true, if_false, ne_eq, not_true, not_false_eq_true, and_self, true_or, or_true, false_or, or_false, false_and, and_false, rb hr, Rq1 hr, Rq2 hr, rr_0 hr, rx_1 hr, rn_1 hr, rm_0 hr, rm_1 hr, rm_2 hr, rm_3 hr, rm_4 hr, rx_2 hr, rx_3 hr, rx_4 hr, rx_5 hr, rx_6 hr, h1, Int.le_refl]
      exact hQ
  simp (disch := omega) only [x62_0, x62_1, x62_2, x62_3, x62_5, x62_6, x62_9, x62_12, x62_13, x62_14, x62_15, x62_18, x62_19, x62_20, x62_21, x62_22, x62_23, x62_24, x62_25, x62_28, x62_31, x62_32, ↓reduceIte, Bool.false_eq_true, Nat.reduceAdd, Nat.reduceLT, Nat.reduceLeDiff, Nat.reduceSub, Nat.reduceEqDiff, Int.reduceToNat, Int.reduceEq, Int.reduceLT, Int.reduceLE, Int.reduceAdd, Int.reduceSub, zg, zI, zJ, zR, zst, zkl, zn, zcat, zok, zraw, List.length_cons, List.length_nil, Option.toList, List.nil_append, List.cons_append, true_and, and_true, if_true, if_false, ne_eq, not_true, not_false_eq_true, and_self, true_or, or_true, false_or, or_false, false_and, and_false]
  exact key 0 _ _ (by omega) ⟨rfl, rfl⟩
/-- a roof without the TILES of a list -/
def loF (ρ : zF) (l : List Nat) : zF := (fun m t => if m = 0 ∧ t ∈ l then 0 else ρ.1 m t, ρ.2)
theorem loF_w {l : List Nat} (h : wfF τ ρ) : wfF τ (loF ρ l) := by
  refine ⟨fun t ht => ?_, h.2.1, h.2.2⟩
  have := h.1 t ht
  unfold loF
  refine ⟨?_, ?_, ?_, ?_, ?_⟩
  · by_cases hl : t ∈ l
    · simp [hl]
    · simp [hl]; exact this.1
  · simp; exact this.2.1
  · simp; exact this.2.2.1
  · simp; exact this.2.2.2.1
  · simp; exact this.2.2.2.2
theorem cLose {d r : Nat} {x2 : zV} {ks : List Nat} (hc : Tc θ) (hw : wfT τ) (hF : CF τ ρ r μ) (h3 : μ 40 3 = (ks.length : Nat)) (hks : ∀ i (h : i < ks.length), μ 41 i = (ks[i] : Nat)) (hin : ∀ k ∈ ks, k < tn τ) (hl : ks.length ≤ 36)
    (hQ : ∀ μ', Fr [r + 2] μ μ' → CF τ (loF ρ ks) r μ' → Q none θ μ') : Ex d 63 0 [vr r, vr 40, x2] [] θ μ Q := by
  have hFF := hF
  have hn := tn_b hw
  obtain ⟨hrf, hwF, h1, h2, h33, h4⟩ := hF
  have hrr := hrf
  have hr := rfs_q hc hrf
  unfold rfs at hrf
  have key : ∀ t L μ1, t ≤ ks.length → (L = [vr r, vr 40, vi (t : Nat)] ∧ Fr [r + 2] μ μ1 ∧ ∀ i, i < tn τ → μ1 (r + 2) i = if i ∈ ks.take t then 0 else ρ.1 0 i) → Ex d 63 2 L [] θ μ1 Q := by
    refine Ex_loop (I := fun t L μ1 => L = [vr r, vr 40, vi (t : Nat)] ∧ Fr [r + 2] μ μ1 ∧ ∀ i, i < tn τ → μ1 (r + 2) i = if i ∈ ks.take t then 0 else ρ.1 0 i) ks.length ?_ ?_
    · rintro t L μ1 ht ⟨rfl, hf, ha⟩ hk
      have e3 : μ1 40 3 = (ks.length : Nat) := by rw [hf 40 (by simp <;> omega), h3]
      have e41 : μ1 41 t = (ks[t] : Nat) := by rw [hf 41 (by simp <;> omega), hks t ht]
      have i1 : ¬ ((ks.length : Int) ≤ (t : Int)) := by omega
      have hkt := hin _ (List.getElem_mem ht)
      rw [x63_2]
      simp (disch := omega) only [x63_0, x63_1, x63_3, x63_4, x63_7, x63_10, x63_11, x63_14, x63_15, x63_16, x63_17, x63_20, x63_21, x63_22, x63_23, x63_24, x63_27, x63_30, ↓reduceIte, Bool.false_eq_true, Nat.reduceAdd, Nat.reduceLT, Nat.reduceLeDiff, Nat.reduceSub, Nat.reduceEqDiff, Int.reduceToNat, Int.reduceEq, Int.reduceLT, Int.reduceLE, Int.reduceAdd, Int.reduceSub, zg, zI, zJ, zR, zst, zkl, zn, zcat, zok, zraw, List.length_cons, List.length_nil, Option.toList, List.nil_append, List.cons_append, true_and, and_true, if_true, if_false, ne_eq, not_true, not_false_eq_true, and_self, true_or, or_true, false_or, or_false, false_and, and_false, rb hr, Rq1 hr, Rq2 hr, rr_0 hr, rx_1 hr, rn_1 hr, rm_0 hr, rm_1 hr, rm_2 hr, rm_3 hr, rm_4 hr, rx_2 hr, rx_3 hr, rx_4 hr, rx_5 hr, rx_6 hr, b_40 hc, r_40_0 hc, x_41 hc, r_40_1 hc, x_42 hc, r_40_2 hc, x_43 hc, r_40_9 hc, r_40_10 hc, x_44 hc, r_40_11 hc, x_45 hc, e3, i1, e41, Int.toNat_natCast, w32_s, ua_eq]
      apply hk
      refine ⟨rfl, Fr.us (by simp) hf, ?_⟩
      intro i hi
      have m : (i ∈ ks.take (t + 1)) ↔ (i ∈ ks.take t ∨ i = ks[t]) := by rw [List.take_succ_eq_append_getElem ht, List.mem_append, List.mem_singleton]
      rw [us_same, zup_ap]
      by_cases h1 : i = ks[t]
      · rw [if_pos h1, if_pos (m.mpr (Or.inr h1))]
      · rw [if_neg h1, ha i hi]
        by_cases h2 : i ∈ ks.take t
        · rw [if_pos h2, if_pos (m.mpr (Or.inl h2))]
        · rw [if_neg h2, if_neg (fun hh => (m.mp hh).elim h2 h1)]
    · rintro L μ1 ⟨rfl, hf, ha⟩
      have e3 : μ1 40 3 = (ks.length : Nat) := by rw [hf 40 (by simp <;> omega), h3]
      rw [x63_2]
      simp (disch := omega) only [x63_0, x63_1, x63_3, x63_4, x63_7, x63_10, x63_11, x63_14, x63_15, x63_16, x63_17, x63_20, x63_21, x63_22, x63_23, x63_24, x63_27, x63_30, ↓reduceIte, Bool.false_eq_true, Nat.reduceAdd, Nat.reduceLT, Nat.reduceLeDiff, Nat.reduceSub, Nat.reduceEqDiff, Int.reduceToNat, Int.reduceEq, Int.reduceLT, Int.reduceLE, Int.reduceAdd, Int.reduceSub, zg, zI, zJ, zR, zst, zkl, zn, zcat, zok, zraw, List.length_cons, List.length_nil, Option.toList, List.nil_append, List.cons_append, true_and, and_true, if_true, if_false, ne_eq, not_true, not_false_eq_true, and_self, true_or, or_true, false_or, or_false, false_and, and_false, rb hr, Rq1 hr, Rq2 hr, rr_0 hr, rx_1 hr, rn_1 hr, rm_0 hr, rm_1 hr, rm_2 hr, rm_3 hr, rm_4 hr, rx_2 hr, rx_3 hr, rx_4 hr, rx_5 hr, rx_6 hr, b_40 hc, r_40_0 hc, x_41 hc, r_40_1 hc, x_42 hc, r_40_2 hc, x_43 hc, r_40_9 hc, r_40_10 hc, x_44 hc, r_40_11 hc, x_45 hc, e3, Int.le_refl]
      rw [List.take_length] at ha
      have er : μ1 r = μ r := hf r (by simp)
      refine hQ μ1 hf ⟨hrr, loF_w hwF, by rw [er]; exact h1, ?_, by rw [er]; exact h33, by rw [er]; exact h4⟩
      intro m t hm ht
      unfold loF
      by_cases hm0 : m = 0
      · subst hm0
        rw [Nat.zero_add, ha t ht]
        by_cases hl : t ∈ ks <;> simp [hl]
      · rw [hf (r + (m + 2)) (by simp; omega), h2 m t hm ht]
        simp [hm0]
  simp (disch := omega) only [x63_0, x63_1, x63_3, x63_4, x63_7, x63_10, x63_11, x63_14, x63_15, x63_16, x63_17, x63_20, x63_21, x63_22, x63_23, x63_24, x63_27, x63_30, ↓reduceIte, Bool.false_eq_true, Nat.reduceAdd, Nat.reduceLT, Nat.reduceLeDiff, Nat.reduceSub, Nat.reduceEqDiff, Int.reduceToNat, Int.reduceEq, Int.reduceLT, Int.reduceLE, Int.reduceAdd, Int.reduceSub, zg, zI, zJ, zR, zst, zkl, zn, zcat, zok, zraw, List.length_cons, List.length_nil, Option.toList, List.nil_append, List.cons_append, true_and, and_true, if_true, if_false, ne_eq, not_true, not_false_eq_true, and_self, true_or, or_true, false_or, or_false, false_and, and_false]
  exact key 0 _ μ (by omega) ⟨rfl, Fr.refl, fun i hi => by simp; exact h2 0 i (by decide) hi⟩
def canO (ρ : zF) (t : Nat) : Bool := decide (ρ.1 0 t = 1 ∧ ρ.1 1 t = 0)
/-- a roof with a TILE nailed anew -/
def naF (ρ : zF) (t : Nat) : zF := (fun m q => if q = t ∧ m = 1 then 1 else if q = t ∧ m = 3 then 0 else ρ.1 m q, ρ.2)
theorem naF_w {t : Nat} (h : wfF τ ρ) : wfF τ (naF ρ t) := by
  refine ⟨fun q hq => ?_, h.2.1, h.2.2⟩
  have := h.1 q hq
  unfold naF
  by_cases hqt : q = t
  · simp [hqt]; rw [hqt] at this; exact ⟨this.1, this.2.2.1, this.2.2.2.2⟩
  · simp [hqt]; exact this
theorem cCan {d r t : Nat} {x : Int} (hc : Tc θ) (hw : wfT τ) (hF : CF τ ρ r μ) (hx : x = (t : Int)) (ht : t < tn τ) : Ex d 64 0 [vr r, vi x] [] θ μ Q = Q (some (vi (b2 (canO ρ t)))) θ μ := by
  subst hx
  have hn := tn_b hw
  obtain ⟨hrf, hwF, h1, h2, h33, h4⟩ := hF
  have hr := rfs_q hc hrf
  unfold rfs at hrf
  have e0 := h2 0 t (by decide) ht
  have e1 := h2 1 t (by decide) ht
  simp only [Nat.zero_add, Nat.reduceAdd] at e0 e1
  unfold canO b2
  by_cases a0 : ρ.1 0 t = 1 <;> by_cases a1 : ρ.1 1 t = 0
  all_goals
    simp (disch := omega) only [x64_0, x64_1, x64_4, x64_5, x64_6, x64_7, x64_8, x64_9, x64_12, x64_13, x64_16, x64_17, x64_18, x64_19, x64_20, x64_23, x64_24, x64_27, x64_28, ↓reduceIte, Bool.false_eq_true, Nat.reduceAdd, Nat.reduceLT, Nat.reduceLeDiff, Nat.reduceSub, Nat.reduceEqDiff, Int.reduceToNat, Int.reduceEq, Int.reduceLT, Int.reduceLE, Int.reduceAdd, Int.reduceSub, zg, zI, zJ, zR, zst, zkl, zn, zcat, zok, zraw, List.length_cons, List.length_nil, Option.toList, List.nil_append, List.cons_append, true_and, and_true, if_true, if_false, ne_eq, not_true, not_false_eq_true, and_self, true_or, or_true, false_or, or_false, false_and, and_false, rb hr, Rq1 hr, Rq2 hr, rr_0 hr, rx_1 hr, rn_1 hr, rm_0 hr, rm_1 hr, rm_2 hr, rm_3 hr, rm_4 hr, rx_2 hr, rx_3 hr, rx_4 hr, rx_5 hr, rx_6 hr, e0, e1, a0, a1, Int.toNat_natCast]
    simp
theorem cNail {d r t : Nat} {x : Int} (hc : Tc θ) (hw : wfT τ) (hF : CF τ ρ r μ) (hx : x = (t : Int)) (ht : t < tn τ) (hQ : ∀ μ', Fr [r + 3, r + 5] μ μ' → CF τ (naF ρ t) r μ' → Q none θ μ') : Ex d 65 0 [vr r, vi x] [] θ μ Q := by
  subst hx
  have hn := tn_b hw
  obtain ⟨hrf, hwF, h1, h2, h33, h4⟩ := hF
  have hrr := hrf
  have hr := rfs_q hc hrf
  unfold rfs at hrf
  simp (disch := omega) only [x65_0, x65_1, x65_4, x65_5, x65_6, x65_7, x65_8, x65_9, x65_10, x65_13, x65_14, x65_15, x65_16, x65_17, x65_18, ↓reduceIte, Bool.false_eq_true, Nat.reduceAdd, Nat.reduceLT, Nat.reduceLeDiff, Nat.reduceSub, Nat.reduceEqDiff, Int.reduceToNat, Int.reduceEq, Int.reduceLT, Int.reduceLE, Int.reduceAdd, Int.reduceSub, zg, zI, zJ, zR, zst, zkl, zn, zcat, zok, zraw, List.length_cons, List.length_nil, Option.toList, List.nil_append, List.cons_append, true_and, and_true, if_true, if_false, ne_eq, not_true, not_false_eq_true, and_self, true_or, or_true, false_or, or_false, false_and, and_false, rb hr, Rq1 hr, Rq2 hr, rr_0 hr, rx_1 hr, rn_1 hr, rm_0 hr, rm_1 hr, rm_2 hr, rm_3 hr, rm_4 hr, rx_2 hr, rx_3 hr, rx_4 hr, rx_5 hr, rx_6 hr, Int.toNat_natCast, ua_eq]
  have hf : Fr [r + 3, r + 5] μ (us (us μ (r + 3) (zup (μ (r + 3)) t 1)) (r + 5) (zup (us μ (r + 3) (zup (μ (r + 3)) t 1) (r + 5)) t 0)) := Fr.us (by simp) (Fr.us (by simp) Fr.refl)
  have er := hf r (by simp)
  refine hQ _ hf ⟨hrr, naF_w hwF, by rw [er]; exact h1, ?_, by rw [er]; exact h33, by rw [er]; exact h4⟩
  intro m q hm hq
  have e := h2 m q hm hq
  unfold naF
  by_cases m1 : m = 1
  · subst m1
    rw [us_ne (by omega), us_same, zup_ap]
    by_cases hqt : q = t <;> simp [hqt]
    exact e
  · by_cases m3 : m = 3
    · subst m3
      rw [us_same, us_ne (by omega), zup_ap]
      by_cases hqt : q = t <;> simp [hqt]
      exact e
    · rw [us_ne (by omega), us_ne (by omega), e]; simp [m1, m3]
theorem cUnnail {d r t : Nat} {x y : Int} (hc : Tc θ) (hw : wfT τ) (hF : CF τ (naF ρ t) r μ) (hwF : wfF τ ρ) (hx : x = (t : Int)) (ht : t < tn τ) (hy : y = ρ.1 3 t) (h0 : ρ.1 1 t = 0) (hQ : ∀ μ', Fr [r + 3, r + 5] μ μ' → CF τ ρ r μ' → Q none θ μ') : Ex d 66 0 [vr r, vi x, vi y] [] θ μ Q := by
  subst hx
  subst hy
  have hn := tn_b hw
  obtain ⟨hrf, _, h1, h2, h33, h4⟩ := hF
  have hrr := hrf
  have hr := rfs_q hc hrf
  unfold rfs at hrf
  simp (disch := omega) only [x66_0, x66_1, x66_4, x66_5, x66_6, x66_7, x66_8, x66_9, x66_10, x66_13, x66_14, x66_15, x66_16, x66_17, x66_18, ↓reduceIte, Bool.false_eq_true, Nat.reduceAdd, Nat.reduceLT, Nat.reduceLeDiff, Nat.reduceSub, Nat.reduceEqDiff, Int.reduceToNat, Int.reduceEq, Int.reduceLT, Int.reduceLE, Int.reduceAdd, Int.reduceSub, zg, zI, zJ, zR, zst, zkl, zn, zcat, zok, zraw, List.length_cons, List.length_nil, Option.toList, List.nil_append, List.cons_append, true_and, and_true, if_true, if_false, ne_eq, not_true, not_false_eq_true, and_self, true_or, or_true, false_or, or_false, false_and, and_false, rb hr, Rq1 hr, Rq2 hr, rr_0 hr, rx_1 hr, rn_1 hr, rm_0 hr, rm_1 hr, rm_2 hr, rm_3 hr, rm_4 hr, rx_2 hr, rx_3 hr, rx_4 hr, rx_5 hr, rx_6 hr, Int.toNat_natCast, ua_eq]
  have hf : Fr [r + 3, r + 5] μ (us (us μ (r + 3) (zup (μ (r + 3)) t 0)) (r + 5) (zup (us μ (r + 3) (zup (μ (r + 3)) t 0) (r + 5)) t (ρ.1 3 t))) := Fr.us (by simp) (Fr.us (by simp) Fr.refl)
  have er := hf r (by simp)
  refine hQ _ hf ⟨hrr, hwF, by rw [er]; exact h1, ?_, by rw [er]; exact h33, by rw [er]; exact h4⟩
  intro m q hm hq
  have e := h2 m q hm hq
  unfold naF at e
  by_cases m1 : m = 1
  · subst m1
    rw [us_ne (by omega), us_same, zup_ap]
    by_cases hqt : q = t
    · rw [if_pos hqt, hqt, h0]
    · rw [if_neg hqt]; simp [hqt] at e; exact e
  · by_cases m3 : m = 3
    · subst m3
      rw [us_same, us_ne (by omega), zup_ap]
      by_cases hqt : q = t
      · rw [if_pos hqt, hqt]
      · rw [if_neg hqt]; simp [hqt] at e; exact e
    · rw [us_ne (by omega), us_ne (by omega), e]; simp [m1, m3]
end CR
