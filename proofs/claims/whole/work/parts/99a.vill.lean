/-! CALLS: warned, village, villageWays, line -/
section VC
variable {θ : zS} {T U : Nat} {σ : zSt} {Q : Option zV → zS → zM → Prop} {μ : zM} {s : Nat}
/-- warned -/
def vWarned (σ : zSt) (a w n : Int) : Int := if okHs a w n then b2 (holds (sT σ) 2 (wnV a w n)) else -1
theorem kWarned {D : Nat} {a w n : Int} (h : CS θ T U σ μ) (hd : 7 ≤ D) (hQ : ∀ μ', CL μ μ' → CS θ T U σ μ' → Q (some (vi (vWarned σ a w n))) θ μ') : Ex D 145 0 [vr 2, vi a, vi w, vi n] [] θ μ Q := by
  have hc := h.1.1.1
  have h2T := h.1.1.2.2.2.2.1
  have hd0 : 0 < D := by omega
  have hd1 : 0 < D - 1 := by omega
  unfold vWarned at hQ
  by_cases q0 : okHs a w n
  · rw [if_pos q0] at hQ
    simp only [x145_0, x145_1, x145_2, x145_3, x145_6, x145_9, x145_10, x145_13, x145_14, x145_17, x145_18, x145_19, x145_20, x145_23, x145_26, x145_27, ↓reduceIte, Bool.false_eq_true, Nat.reduceAdd, Nat.reduceLT, Nat.reduceLeDiff, Nat.reduceSub, Nat.reduceEqDiff, Int.reduceToNat, Int.reduceEq, Int.reduceLT, Int.reduceLE, Int.reduceAdd, Int.reduceSub, zg, zI, zJ, zR, zst, zkl, zn, zcat, zok, zraw, List.length_cons, List.length_nil, Option.toList, List.nil_append, List.cons_append, true_and, and_true, if_true, if_false, ne_eq, not_true, not_false_eq_true, and_self, true_or, or_true, false_or, or_false, false_and, and_false, b_2 hc, r_2_2 hc, b_9 hc, h2T, hd0, eHouse hd1, if_pos q0]
    refine cWarns (d := D - 1) h.1 (by omega) (fun μ1 f => ?_)
    simp only [x145_0, x145_1, x145_2, x145_3, x145_6, x145_9, x145_10, x145_13, x145_14, x145_17, x145_18, x145_19, x145_20, x145_23, x145_26, x145_27, ↓reduceIte, Bool.false_eq_true, Nat.reduceAdd, Nat.reduceLT, Nat.reduceLeDiff, Nat.reduceSub, Nat.reduceEqDiff, Int.reduceToNat, Int.reduceEq, Int.reduceLT, Int.reduceLE, Int.reduceAdd, Int.reduceSub, zg, zI, zJ, zR, zst, zkl, zn, zcat, zok, zraw, List.length_cons, List.length_nil, Option.toList, List.nil_append, List.cons_append, true_and, and_true, if_true, if_false, ne_eq, not_true, not_false_eq_true, and_self, true_or, or_true, false_or, or_false, false_and, and_false]
    exact hQ μ1 (CL_fr f (by decide)) (CS_fr h f (by decide))
  · rw [if_neg q0] at hQ
    simp only [x145_0, x145_1, x145_2, x145_3, x145_6, x145_9, x145_10, x145_13, x145_14, x145_17, x145_18, x145_19, x145_20, x145_23, x145_26, x145_27, ↓reduceIte, Bool.false_eq_true, Nat.reduceAdd, Nat.reduceLT, Nat.reduceLeDiff, Nat.reduceSub, Nat.reduceEqDiff, Int.reduceToNat, Int.reduceEq, Int.reduceLT, Int.reduceLE, Int.reduceAdd, Int.reduceSub, zg, zI, zJ, zR, zst, zkl, zn, zcat, zok, zraw, List.length_cons, List.length_nil, Option.toList, List.nil_append, List.cons_append, true_and, and_true, if_true, if_false, ne_eq, not_true, not_false_eq_true, and_self, true_or, or_true, false_or, or_false, false_and, and_false, hd0, eHouse hd1, if_neg q0]
    exact hQ μ (fun _ _ => rfl) h
theorem rWarned {D : Nat} {a w n : Int} (h : MS θ σ s μ) (hd : 11 ≤ D) (hQ : ∀ μ', ML2 μ μ' → MS θ σ s μ' → Q (some (vi (vWarned σ a w n))) θ μ') : Ex D 281 0 [vr 138, vi a, vi w, vi n] [] θ μ Q := by
  have hm := h.1.1
  have hd0 : 0 < D := by omega
  unfold vWarned at hQ
  have hno : ¬ okHs a w n → Q (some (vi (-1))) θ μ := fun hn => by
    rw [if_neg hn] at hQ
    exact hQ μ (fun _ _ => rfl) h
  by_cases qa : 0 ≤ a ∧ a ≤ 99
  · by_cases qw : 0 ≤ w ∧ w ≤ 3
    · by_cases qn : 0 ≤ n ∧ n ≤ 9
      · rw [if_pos ⟨qa, qw, qn⟩] at hQ
        simp only [x281_0, x281_1, x281_2, x281_4, x281_7, x281_10, x281_11, x281_12, x281_13, x281_16, x281_19, x281_20, x281_21, x281_23, x281_26, x281_29, x281_30, x281_31, x281_32, x281_33, x281_34, x281_35, x281_38, x281_41, x281_42, x281_45, x281_46, ↓reduceIte, Bool.false_eq_true, Nat.reduceAdd, Nat.reduceLT, Nat.reduceLeDiff, Nat.reduceSub, Nat.reduceEqDiff, Int.reduceToNat, Int.reduceEq, Int.reduceLT, Int.reduceLE, Int.reduceAdd, Int.reduceSub, zg, zI, zJ, zR, zst, zkl, zn, zcat, zok, zraw, List.length_cons, List.length_nil, Option.toList, List.nil_append, List.cons_append, true_and, and_true, if_true, if_false, ne_eq, not_true, not_false_eq_true, and_self, true_or, or_true, false_or, or_false, false_and, and_false, b_138 hm, hd0, mIn, if_pos qa, if_pos qw, if_pos qn]
        refine mWarned (d := D - 1) h.1 (by omega) (fun μ1 f j => ?_)
        have hq := hQ μ1 (MLe_fr f (by decide)) (MS_fr h f (by decide) (fun i hi => j i (by omega)))
        cases hh : holds (sT σ) 2 (wnV a w n) with
        | true =>
          rw [hh] at hq
          simp only [x281_0, x281_1, x281_2, x281_4, x281_7, x281_10, x281_11, x281_12, x281_13, x281_16, x281_19, x281_20, x281_21, x281_23, x281_26, x281_29, x281_30, x281_31, x281_32, x281_33, x281_34, x281_35, x281_38, x281_41, x281_42, x281_45, x281_46, ↓reduceIte, Bool.false_eq_true, Nat.reduceAdd, Nat.reduceLT, Nat.reduceLeDiff, Nat.reduceSub, Nat.reduceEqDiff, Int.reduceToNat, Int.reduceEq, Int.reduceLT, Int.reduceLE, Int.reduceAdd, Int.reduceSub, zg, zI, zJ, zR, zst, zkl, zn, zcat, zok, zraw, List.length_cons, List.length_nil, Option.toList, List.nil_append, List.cons_append, true_and, and_true, if_true, if_false, ne_eq, not_true, not_false_eq_true, and_self, true_or, or_true, false_or, or_false, false_and, and_false, b2] at hq ⊢
          exact hq
        | false =>
          rw [hh] at hq
          simp only [x281_0, x281_1, x281_2, x281_4, x281_7, x281_10, x281_11, x281_12, x281_13, x281_16, x281_19, x281_20, x281_21, x281_23, x281_26, x281_29, x281_30, x281_31, x281_32, x281_33, x281_34, x281_35, x281_38, x281_41, x281_42, x281_45, x281_46, ↓reduceIte, Bool.false_eq_true, Nat.reduceAdd, Nat.reduceLT, Nat.reduceLeDiff, Nat.reduceSub, Nat.reduceEqDiff, Int.reduceToNat, Int.reduceEq, Int.reduceLT, Int.reduceLE, Int.reduceAdd, Int.reduceSub, zg, zI, zJ, zR, zst, zkl, zn, zcat, zok, zraw, List.length_cons, List.length_nil, Option.toList, List.nil_append, List.cons_append, true_and, and_true, if_true, if_false, ne_eq, not_true, not_false_eq_true, and_self, true_or, or_true, false_or, or_false, false_and, and_false, b2] at hq ⊢
          exact hq
      · have := hno (fun hh => qn hh.2.2)
        simp only [x281_0, x281_1, x281_2, x281_4, x281_7, x281_10, x281_11, x281_12, x281_13, x281_16, x281_19, x281_20, x281_21, x281_23, x281_26, x281_29, x281_30, x281_31, x281_32, x281_33, x281_34, x281_35, x281_38, x281_41, x281_42, x281_45, x281_46, ↓reduceIte, Bool.false_eq_true, Nat.reduceAdd, Nat.reduceLT, Nat.reduceLeDiff, Nat.reduceSub, Nat.reduceEqDiff, Int.reduceToNat, Int.reduceEq, Int.reduceLT, Int.reduceLE, Int.reduceAdd, Int.reduceSub, zg, zI, zJ, zR, zst, zkl, zn, zcat, zok, zraw, List.length_cons, List.length_nil, Option.toList, List.nil_append, List.cons_append, true_and, and_true, if_true, if_false, ne_eq, not_true, not_false_eq_true, and_self, true_or, or_true, false_or, or_false, false_and, and_false, hd0, mIn, if_pos qa, if_pos qw, if_neg qn]
        exact this
    · have := hno (fun hh => qw hh.2.1)
      simp only [x281_0, x281_1, x281_2, x281_4, x281_7, x281_10, x281_11, x281_12, x281_13, x281_16, x281_19, x281_20, x281_21, x281_23, x281_26, x281_29, x281_30, x281_31, x281_32, x281_33, x281_34, x281_35, x281_38, x281_41, x281_42, x281_45, x281_46, ↓reduceIte, Bool.false_eq_true, Nat.reduceAdd, Nat.reduceLT, Nat.reduceLeDiff, Nat.reduceSub, Nat.reduceEqDiff, Int.reduceToNat, Int.reduceEq, Int.reduceLT, Int.reduceLE, Int.reduceAdd, Int.reduceSub, zg, zI, zJ, zR, zst, zkl, zn, zcat, zok, zraw, List.length_cons, List.length_nil, Option.toList, List.nil_append, List.cons_append, true_and, and_true, if_true, if_false, ne_eq, not_true, not_false_eq_true, and_self, true_or, or_true, false_or, or_false, false_and, and_false, hd0, mIn, if_pos qa, if_neg qw]
      exact this
  · have := hno (fun hh => qa hh.1)
    simp only [x281_0, x281_1, x281_2, x281_4, x281_7, x281_10, x281_11, x281_12, x281_13, x281_16, x281_19, x281_20, x281_21, x281_23, x281_26, x281_29, x281_30, x281_31, x281_32, x281_33, x281_34, x281_35, x281_38, x281_41, x281_42, x281_45, x281_46, ↓reduceIte, Bool.false_eq_true, Nat.reduceAdd, Nat.reduceLT, Nat.reduceLeDiff, Nat.reduceSub, Nat.reduceEqDiff, Int.reduceToNat, Int.reduceEq, Int.reduceLT, Int.reduceLE, Int.reduceAdd, Int.reduceSub, zg, zI, zJ, zR, zst, zkl, zn, zcat, zok, zraw, List.length_cons, List.length_nil, Option.toList, List.nil_append, List.cons_append, true_and, and_true, if_true, if_false, ne_eq, not_true, not_false_eq_true, and_self, true_or, or_true, false_or, or_false, false_and, and_false, hd0, mIn, if_neg qa]
    exact this
/-- what is KNOWN -/
abbrev okKn (σ : zSt) (n c : Int) : Prop := (0 ≤ n ∧ n ≤ ((sV σ).1 : Int)) ∧ (0 ≤ c ∧ c ≤ 99)
theorem eKnow (d : Nat) (h : CS θ T U σ μ) (n c : Int) : Ex d 157 0 [vr 2, vi n, vi c] [] θ μ Q = Q (some (vi (if okKn σ n c then 1 else 0))) θ μ := by
  have hc := h.1.1.1
  have e0 := h.2.2.2.2.2.2.1.1
  by_cases n0 : n < 0
  · rw [if_neg (by unfold okKn; omega)]
    simp only [x157_0, x157_1, x157_4, x157_5, x157_6, x157_9, x157_12, x157_15, x157_16, x157_19, x157_20, x157_22, x157_25, x157_26, x157_29, x157_30, ↓reduceIte, Bool.false_eq_true, Nat.reduceAdd, Nat.reduceLT, Nat.reduceLeDiff, Nat.reduceSub, Nat.reduceEqDiff, Int.reduceToNat, Int.reduceEq, Int.reduceLT, Int.reduceLE, Int.reduceAdd, Int.reduceSub, zg, zI, zJ, zR, zst, zkl, zn, zcat, zok, zraw, List.length_cons, List.length_nil, Option.toList, List.nil_append, List.cons_append, true_and, and_true, if_true, if_false, ne_eq, not_true, not_false_eq_true, and_self, true_or, or_true, false_or, or_false, false_and, and_false, n0]
  · by_cases n1 : (((sV σ).1 : Nat) : Int) < n
    · rw [if_neg (by unfold okKn; omega)]
      simp only [x157_0, x157_1, x157_4, x157_5, x157_6, x157_9, x157_12, x157_15, x157_16, x157_19, x157_20, x157_22, x157_25, x157_26, x157_29, x157_30, ↓reduceIte, Bool.false_eq_true, Nat.reduceAdd, Nat.reduceLT, Nat.reduceLeDiff, Nat.reduceSub, Nat.reduceEqDiff, Int.reduceToNat, Int.reduceEq, Int.reduceLT, Int.reduceLE, Int.reduceAdd, Int.reduceSub, zg, zI, zJ, zR, zst, zkl, zn, zcat, zok, zraw, List.length_cons, List.length_nil, Option.toList, List.nil_append, List.cons_append, true_and, and_true, if_true, if_false, ne_eq, not_true, not_false_eq_true, and_self, true_or, or_true, false_or, or_false, false_and, and_false, b_2 hc, r_2_9 hc, b_131 hc, e0, n0, n1]
    · by_cases c0 : c < 0
      · rw [if_neg (by unfold okKn; omega)]
        simp only [x157_0, x157_1, x157_4, x157_5, x157_6, x157_9, x157_12, x157_15, x157_16, x157_19, x157_20, x157_22, x157_25, x157_26, x157_29, x157_30, ↓reduceIte, Bool.false_eq_true, Nat.reduceAdd, Nat.reduceLT, Nat.reduceLeDiff, Nat.reduceSub, Nat.reduceEqDiff, Int.reduceToNat, Int.reduceEq, Int.reduceLT, Int.reduceLE, Int.reduceAdd, Int.reduceSub, zg, zI, zJ, zR, zst, zkl, zn, zcat, zok, zraw, List.length_cons, List.length_nil, Option.toList, List.nil_append, List.cons_append, true_and, and_true, if_true, if_false, ne_eq, not_true, not_false_eq_true, and_self, true_or, or_true, false_or, or_false, false_and, and_false, b_2 hc, r_2_9 hc, b_131 hc, e0, n0, n1, c0]
      · by_cases c1 : 99 < c
        · rw [if_neg (by unfold okKn; omega)]
          simp only [x157_0, x157_1, x157_4, x157_5, x157_6, x157_9, x157_12, x157_15, x157_16, x157_19, x157_20, x157_22, x157_25, x157_26, x157_29, x157_30, ↓reduceIte, Bool.false_eq_true, Nat.reduceAdd, Nat.reduceLT, Nat.reduceLeDiff, Nat.reduceSub, Nat.reduceEqDiff, Int.reduceToNat, Int.reduceEq, Int.reduceLT, Int.reduceLE, Int.reduceAdd, Int.reduceSub, zg, zI, zJ, zR, zst, zkl, zn, zcat, zok, zraw, List.length_cons, List.length_nil, Option.toList, List.nil_append, List.cons_append, true_and, and_true, if_true, if_false, ne_eq, not_true, not_false_eq_true, and_self, true_or, or_true, false_or, or_false, false_and, and_false, b_2 hc, r_2_9 hc, b_131 hc, e0, n0, n1, c0, c1]
        · rw [if_pos (by unfold okKn; omega)]
          simp only [x157_0, x157_1, x157_4, x157_5, x157_6, x157_9, x157_12, x157_15, x157_16, x157_19, x157_20, x157_22, x157_25, x157_26, x157_29, x157_30, ↓reduceIte, Bool.false_eq_true, Nat.reduceAdd, Nat.reduceLT, Nat.reduceLeDiff, Nat.reduceSub, Nat.reduceEqDiff, Int.reduceToNat, Int.reduceEq, Int.reduceLT, Int.reduceLE, Int.reduceAdd, Int.reduceSub, zg, zI, zJ, zR, zst, zkl, zn, zcat, zok, zraw, List.length_cons, List.length_nil, Option.toList, List.nil_append, List.cons_append, true_and, and_true, if_true, if_false, ne_eq, not_true, not_false_eq_true, and_self, true_or, or_true, false_or, or_false, false_and, and_false, b_2 hc, r_2_9 hc, b_131 hc, e0, n0, n1, c0, c1]
theorem eVill {d : Nat} (hd : 0 < d) (h : MS θ σ s μ) (n c : Int) : Ex d 283 0 [vr 138, vi n, vi c] [] θ μ Q = Q (some (vi (if okKn σ n c then 1 else 0))) θ μ := by
  have hm := h.1.1
  have e0 := h.2.2.2.2.1.1
  by_cases q0 : 0 ≤ n ∧ n ≤ (((sV σ).1 : Nat) : Int)
  · by_cases q1 : 0 ≤ c ∧ c ≤ 99
    · rw [if_pos ⟨q0, q1⟩]
      simp only [x283_0, x283_1, x283_2, x283_3, x283_6, x283_9, x283_12, x283_13, x283_14, x283_16, x283_19, x283_22, x283_23, x283_26, x283_27, ↓reduceIte, Bool.false_eq_true, Nat.reduceAdd, Nat.reduceLT, Nat.reduceLeDiff, Nat.reduceSub, Nat.reduceEqDiff, Int.reduceToNat, Int.reduceEq, Int.reduceLT, Int.reduceLE, Int.reduceAdd, Int.reduceSub, zg, zI, zJ, zR, zst, zkl, zn, zcat, zok, zraw, List.length_cons, List.length_nil, Option.toList, List.nil_append, List.cons_append, true_and, and_true, if_true, if_false, ne_eq, not_true, not_false_eq_true, and_self, true_or, or_true, false_or, or_false, false_and, and_false, b_138 hm, e0, hd, mIn, if_pos q0, if_pos q1]
    · rw [if_neg (fun hh => q1 hh.2)]
      simp only [x283_0, x283_1, x283_2, x283_3, x283_6, x283_9, x283_12, x283_13, x283_14, x283_16, x283_19, x283_22, x283_23, x283_26, x283_27, ↓reduceIte, Bool.false_eq_true, Nat.reduceAdd, Nat.reduceLT, Nat.reduceLeDiff, Nat.reduceSub, Nat.reduceEqDiff, Int.reduceToNat, Int.reduceEq, Int.reduceLT, Int.reduceLE, Int.reduceAdd, Int.reduceSub, zg, zI, zJ, zR, zst, zkl, zn, zcat, zok, zraw, List.length_cons, List.length_nil, Option.toList, List.nil_append, List.cons_append, true_and, and_true, if_true, if_false, ne_eq, not_true, not_false_eq_true, and_self, true_or, or_true, false_or, or_false, false_and, and_false, b_138 hm, e0, hd, mIn, if_pos q0, if_neg q1]
  · rw [if_neg (fun hh => q0 hh.1)]
    simp only [x283_0, x283_1, x283_2, x283_3, x283_6, x283_9, x283_12, x283_13, x283_14, x283_16, x283_19, x283_22, x283_23, x283_26, x283_27, ↓reduceIte, Bool.false_eq_true, Nat.reduceAdd, Nat.reduceLT, Nat.reduceLeDiff, Nat.reduceSub, Nat.reduceEqDiff, Int.reduceToNat, Int.reduceEq, Int.reduceLT, Int.reduceLE, Int.reduceAdd, Int.reduceSub, zg, zI, zJ, zR, zst, zkl, zn, zcat, zok, zraw, List.length_cons, List.length_nil, Option.toList, List.nil_append, List.cons_append, true_and, and_true, if_true, if_false, ne_eq, not_true, not_false_eq_true, and_self, true_or, or_true, false_or, or_false, false_and, and_false, b_138 hm, e0, hd, mIn, if_neg q0]
/-- village -/
def vVill (σ : zSt) (n c k : Int) : Int := if okKn σ n c ∧ 0 ≤ k ∧ k ≤ 3 then vlO (sT σ) (sV σ) n.toNat c k.toNat else -1
theorem CV_tally {V : zV2} {μ' : zM} (h : CV V μ) (f : Fr [10, 11, 131, 137] μ μ') (e : μ' 131 0 = μ 131 0) : CV V μ' := CV_fr h f (by decide) e
theorem CS_tally {μ' : zM} (h : CS θ T U σ μ) (f : Fr [10, 11, 131, 137] μ μ') (e0 : μ' 131 0 = μ 131 0) : CS θ T U σ μ' := by
  obtain ⟨hX, hw, hn, hk, ht, hl, hv, htp, hp⟩ := h
  have e : ∀ a, a ∉ [10, 11, 131, 137] → μ' a = μ a := fun a ha => f a ha
  refine ⟨CX_fr hX f (by decide), hw, CSn_fr (s := 46) (Or.inl rfl) hn (fun a h1 h2 => e a (by simp; omega)), ?_, ?_, CSl_fr (σ := σ) hl (fun a h1 h2 => e a (by simp; omega)), CV_tally hv f e0, ?_, ?_⟩
  · unfold CK CP CQ; rw [e 104 (by decide), e 105 (by decide), e 106 (by decide)]; exact hk
  · unfold CT; rw [e 122 (by decide), e 130 (by decide)]; exact ht
  · rw [e 3 (by decide), e 7 (by decide)]; exact htp
  · rw [e 2 (by decide)]; unfold CWd; rw [e 8 (by decide)]; exact hp
theorem kVillage {D : Nat} {n c k : Int} (h : CS θ T U σ μ) (hd : 7 ≤ D) (hQ : ∀ μ', CL μ μ' → CS θ T U σ μ' → Q (some (vi (vVill σ n c k))) θ μ') : Ex D 146 0 [vr 2, vi n, vi c, vi k] [] θ μ Q := by
  have hc := h.1.1.1
  have h2T := h.1.1.2.2.2.2.1
  have hd0 : 0 < D := by omega
  unfold vVill at hQ
  by_cases q0 : okKn σ n c
  · obtain ⟨N, rfl⟩ : ∃ N : Nat, n = (N : Int) := ⟨n.toNat, by have := q0.1; omega⟩
    have hN := q0.1.2
    simp only [x146_0, x146_1, x146_2, x146_3, x146_6, x146_9, x146_10, x146_11, x146_12, x146_15, x146_16, x146_17, x146_18, x146_21, x146_22, x146_25, x146_28, x146_29, x146_60, x146_61, x146_64, x146_67, x146_68, x146_69, x146_72, x146_75, x146_76, x146_77, x146_80, x146_83, x146_84, x146_85, x146_88, x146_91, x146_92, x146_93, ↓reduceIte, Bool.false_eq_true, Nat.reduceAdd, Nat.reduceLT, Nat.reduceLeDiff, Nat.reduceSub, Nat.reduceEqDiff, Int.reduceToNat, Int.reduceEq, Int.reduceLT, Int.reduceLE, Int.reduceAdd, Int.reduceSub, zg, zI, zJ, zR, zst, zkl, zn, zcat, zok, zraw, List.length_cons, List.length_nil, Option.toList, List.nil_append, List.cons_append, true_and, and_true, if_true, if_false, ne_eq, not_true, not_false_eq_true, and_self, true_or, or_true, false_or, or_false, false_and, and_false, b_2 hc, r_2_9 hc, b_131 hc, r_2_2 hc, h2T, hd0, eKnow _ h, if_pos q0]
    refine cTally (d := D - 1) (n := N) h.1 h.2.1.2.2.2.1 h.2.2.2.2.2.2.1 (by omega) rfl (by omega) (fun μ1 f g0 g1 g2 g3 g4 => ?_)
    have hq := hQ μ1 (CL_fr f (by decide)) (CS_tally h f g0)
    rw [Int.toNat_natCast] at hq
    by_cases q1 : 0 ≤ k ∧ k ≤ 3
    · rw [if_pos ⟨q0, q1⟩] at hq
      obtain e | e | e | e : k = 0 ∨ k = 1 ∨ k = 2 ∨ k = 3 := by omega
      · subst e
        simp only [x146_0, x146_1, x146_2, x146_3, x146_6, x146_9, x146_10, x146_11, x146_12, x146_15, x146_16, x146_17, x146_18, x146_21, x146_22, x146_25, x146_28, x146_29, x146_60, x146_61, x146_64, x146_67, x146_68, x146_69, x146_72, x146_75, x146_76, x146_77, x146_80, x146_83, x146_84, x146_85, x146_88, x146_91, x146_92, x146_93, ↓reduceIte, Bool.false_eq_true, Nat.reduceAdd, Nat.reduceLT, Nat.reduceLeDiff, Nat.reduceSub, Nat.reduceEqDiff, Int.reduceToNat, Int.reduceEq, Int.reduceLT, Int.reduceLE, Int.reduceAdd, Int.reduceSub, zg, zI, zJ, zR, zst, zkl, zn, zcat, zok, zraw, List.length_cons, List.length_nil, Option.toList, List.nil_append, List.cons_append, true_and, and_true, if_true, if_false, ne_eq, not_true, not_false_eq_true, and_self, true_or, or_true, false_or, or_false, false_and, and_false, b_2 hc, r_2_9 hc, b_131 hc, g1]
        exact hq
      · subst e
        simp only [x146_0, x146_1, x146_2, x146_3, x146_6, x146_9, x146_10, x146_11, x146_12, x146_15, x146_16, x146_17, x146_18, x146_21, x146_22, x146_25, x146_28, x146_29, x146_60, x146_61, x146_64, x146_67, x146_68, x146_69, x146_72, x146_75, x146_76, x146_77, x146_80, x146_83, x146_84, x146_85, x146_88, x146_91, x146_92, x146_93, ↓reduceIte, Bool.false_eq_true, Nat.reduceAdd, Nat.reduceLT, Nat.reduceLeDiff, Nat.reduceSub, Nat.reduceEqDiff, Int.reduceToNat, Int.reduceEq, Int.reduceLT, Int.reduceLE, Int.reduceAdd, Int.reduceSub, zg, zI, zJ, zR, zst, zkl, zn, zcat, zok, zraw, List.length_cons, List.length_nil, Option.toList, List.nil_append, List.cons_append, true_and, and_true, if_true, if_false, ne_eq, not_true, not_false_eq_true, and_self, true_or, or_true, false_or, or_false, false_and, and_false, b_2 hc, r_2_9 hc, b_131 hc, g2]
        exact hq
      · subst e
        simp only [x146_0, x146_1, x146_2, x146_3, x146_6, x146_9, x146_10, x146_11, x146_12, x146_15, x146_16, x146_17, x146_18, x146_21, x146_22, x146_25, x146_28, x146_29, x146_60, x146_61, x146_64, x146_67, x146_68, x146_69, x146_72, x146_75, x146_76, x146_77, x146_80, x146_83, x146_84, x146_85, x146_88, x146_91, x146_92, x146_93, ↓reduceIte, Bool.false_eq_true, Nat.reduceAdd, Nat.reduceLT, Nat.reduceLeDiff, Nat.reduceSub, Nat.reduceEqDiff, Int.reduceToNat, Int.reduceEq, Int.reduceLT, Int.reduceLE, Int.reduceAdd, Int.reduceSub, zg, zI, zJ, zR, zst, zkl, zn, zcat, zok, zraw, List.length_cons, List.length_nil, Option.toList, List.nil_append, List.cons_append, true_and, and_true, if_true, if_false, ne_eq, not_true, not_false_eq_true, and_self, true_or, or_true, false_or, or_false, false_and, and_false, b_2 hc, r_2_9 hc, b_131 hc, g3]
        exact hq
      · subst e
        simp only [x146_0, x146_1, x146_2, x146_3, x146_6, x146_9, x146_10, x146_11, x146_12, x146_15, x146_16, x146_17, x146_18, x146_21, x146_22, x146_25, x146_28, x146_29, x146_60, x146_61, x146_64, x146_67, x146_68, x146_69, x146_72, x146_75, x146_76, x146_77, x146_80, x146_83, x146_84, x146_85, x146_88, x146_91, x146_92, x146_93, ↓reduceIte, Bool.false_eq_true, Nat.reduceAdd, Nat.reduceLT, Nat.reduceLeDiff, Nat.reduceSub, Nat.reduceEqDiff, Int.reduceToNat, Int.reduceEq, Int.reduceLT, Int.reduceLE, Int.reduceAdd, Int.reduceSub, zg, zI, zJ, zR, zst, zkl, zn, zcat, zok, zraw, List.length_cons, List.length_nil, Option.toList, List.nil_append, List.cons_append, true_and, and_true, if_true, if_false, ne_eq, not_true, not_false_eq_true, and_self, true_or, or_true, false_or, or_false, false_and, and_false, b_2 hc, r_2_9 hc, b_131 hc, g4]
        exact hq
    · rw [if_neg (fun hh => q1 hh.2)] at hq
      have k0 : ¬ k = 0 := by omega
      have k1 : ¬ k = 1 := by omega
      have k2 : ¬ k = 2 := by omega
      have k3 : ¬ k = 3 := by omega
      by_cases q2 : k < 0 ∨ 3 < k
      · simp only [x146_0, x146_1, x146_2, x146_3, x146_6, x146_9, x146_10, x146_11, x146_12, x146_15, x146_16, x146_17, x146_18, x146_21, x146_22, x146_25, x146_28, x146_29, x146_60, x146_61, x146_64, x146_67, x146_68, x146_69, x146_72, x146_75, x146_76, x146_77, x146_80, x146_83, x146_84, x146_85, x146_88, x146_91, x146_92, x146_93, ↓reduceIte, Bool.false_eq_true, Nat.reduceAdd, Nat.reduceLT, Nat.reduceLeDiff, Nat.reduceSub, Nat.reduceEqDiff, Int.reduceToNat, Int.reduceEq, Int.reduceLT, Int.reduceLE, Int.reduceAdd, Int.reduceSub, zg, zI, zJ, zR, zst, zkl, zn, zcat, zok, zraw, List.length_cons, List.length_nil, Option.toList, List.nil_append, List.cons_append, true_and, and_true, if_true, if_false, ne_eq, not_true, not_false_eq_true, and_self, true_or, or_true, false_or, or_false, false_and, and_false, q2, k0, k1, k2, k3]
        exact hq
      · omega
  · rw [if_neg (fun hh => q0 hh.1)] at hQ
    simp only [x146_0, x146_1, x146_2, x146_3, x146_6, x146_9, x146_10, x146_11, x146_12, x146_15, x146_16, x146_17, x146_18, x146_21, x146_22, x146_25, x146_28, x146_29, x146_60, x146_61, x146_64, x146_67, x146_68, x146_69, x146_72, x146_75, x146_76, x146_77, x146_80, x146_83, x146_84, x146_85, x146_88, x146_91, x146_92, x146_93, ↓reduceIte, Bool.false_eq_true, Nat.reduceAdd, Nat.reduceLT, Nat.reduceLeDiff, Nat.reduceSub, Nat.reduceEqDiff, Int.reduceToNat, Int.reduceEq, Int.reduceLT, Int.reduceLE, Int.reduceAdd, Int.reduceSub, zg, zI, zJ, zR, zst, zkl, zn, zcat, zok, zraw, List.length_cons, List.length_nil, Option.toList, List.nil_append, List.cons_append, true_and, and_true, if_true, if_false, ne_eq, not_true, not_false_eq_true, and_self, true_or, or_true, false_or, or_false, false_and, and_false, b_2 hc, hd0, eKnow _ h, if_neg q0]
    exact hQ μ (fun _ _ => rfl) h
theorem rVillage {D : Nat} {n c k : Int} (h : MS θ σ s μ) (hd : 11 ≤ D) (hQ : ∀ μ', ML2 μ μ' → MS θ σ s μ' → Q (some (vi (vVill σ n c k))) θ μ') : Ex D 285 0 [vr 138, vi n, vi c, vi k] [] θ μ Q := by
  have hm := h.1.1
  have hd0 : 0 < D := by omega
  have hd1 : 0 < D - 1 := by omega
  unfold vVill at hQ
  by_cases q0 : okKn σ n c
  · by_cases q1 : 0 ≤ k ∧ k ≤ 3
    · rw [if_pos ⟨q0, q1⟩] at hQ
      obtain ⟨N, rfl⟩ : ∃ N : Nat, n = (N : Int) := ⟨n.toNat, by have := q0.1; omega⟩
      obtain ⟨K, rfl⟩ : ∃ K : Nat, k = (K : Int) := ⟨k.toNat, by omega⟩
      have hN := q0.1.2
      rw [Int.toNat_natCast, Int.toNat_natCast] at hQ
      simp only [x285_0, x285_1, x285_2, x285_3, x285_6, x285_9, x285_10, x285_11, x285_12, x285_15, x285_18, x285_19, x285_20, x285_21, x285_22, x285_25, x285_28, x285_29, ↓reduceIte, Bool.false_eq_true, Nat.reduceAdd, Nat.reduceLT, Nat.reduceLeDiff, Nat.reduceSub, Nat.reduceEqDiff, Int.reduceToNat, Int.reduceEq, Int.reduceLT, Int.reduceLE, Int.reduceAdd, Int.reduceSub, zg, zI, zJ, zR, zst, zkl, zn, zcat, zok, zraw, List.length_cons, List.length_nil, Option.toList, List.nil_append, List.cons_append, true_and, and_true, if_true, if_false, ne_eq, not_true, not_false_eq_true, and_self, true_or, or_true, false_or, or_false, false_and, and_false, b_138 hm, hd0, eVill hd1 h, if_pos q0, mIn, if_pos q1]
      refine mVillageOf (d := D - 1) (n := N) (what := K) h.1 h.2.1.2.2.2.1 h.2.2.2.2.1 (by omega) rfl (by omega) rfl (by omega) (fun μ1 f j => ?_)
      simp only [x285_0, x285_1, x285_2, x285_3, x285_6, x285_9, x285_10, x285_11, x285_12, x285_15, x285_18, x285_19, x285_20, x285_21, x285_22, x285_25, x285_28, x285_29, ↓reduceIte, Bool.false_eq_true, Nat.reduceAdd, Nat.reduceLT, Nat.reduceLeDiff, Nat.reduceSub, Nat.reduceEqDiff, Int.reduceToNat, Int.reduceEq, Int.reduceLT, Int.reduceLE, Int.reduceAdd, Int.reduceSub, zg, zI, zJ, zR, zst, zkl, zn, zcat, zok, zraw, List.length_cons, List.length_nil, Option.toList, List.nil_append, List.cons_append, true_and, and_true, if_true, if_false, ne_eq, not_true, not_false_eq_true, and_self, true_or, or_true, false_or, or_false, false_and, and_false]
      exact hQ μ1 (MLe_fr f (by decide)) (MS_fr h f (by decide) (fun i hi => j i (by omega)))
    · rw [if_neg (fun hh => q1 hh.2)] at hQ
      simp only [x285_0, x285_1, x285_2, x285_3, x285_6, x285_9, x285_10, x285_11, x285_12, x285_15, x285_18, x285_19, x285_20, x285_21, x285_22, x285_25, x285_28, x285_29, ↓reduceIte, Bool.false_eq_true, Nat.reduceAdd, Nat.reduceLT, Nat.reduceLeDiff, Nat.reduceSub, Nat.reduceEqDiff, Int.reduceToNat, Int.reduceEq, Int.reduceLT, Int.reduceLE, Int.reduceAdd, Int.reduceSub, zg, zI, zJ, zR, zst, zkl, zn, zcat, zok, zraw, List.length_cons, List.length_nil, Option.toList, List.nil_append, List.cons_append, true_and, and_true, if_true, if_false, ne_eq, not_true, not_false_eq_true, and_self, true_or, or_true, false_or, or_false, false_and, and_false, b_138 hm, hd0, eVill hd1 h, if_pos q0, mIn, if_neg q1]
      exact hQ μ (fun _ _ => rfl) h
  · rw [if_neg (fun hh => q0 hh.1)] at hQ
    simp only [x285_0, x285_1, x285_2, x285_3, x285_6, x285_9, x285_10, x285_11, x285_12, x285_15, x285_18, x285_19, x285_20, x285_21, x285_22, x285_25, x285_28, x285_29, ↓reduceIte, Bool.false_eq_true, Nat.reduceAdd, Nat.reduceLT, Nat.reduceLeDiff, Nat.reduceSub, Nat.reduceEqDiff, Int.reduceToNat, Int.reduceEq, Int.reduceLT, Int.reduceLE, Int.reduceAdd, Int.reduceSub, zg, zI, zJ, zR, zst, zkl, zn, zcat, zok, zraw, List.length_cons, List.length_nil, Option.toList, List.nil_append, List.cons_append, true_and, and_true, if_true, if_false, ne_eq, not_true, not_false_eq_true, and_self, true_or, or_true, false_or, or_false, false_and, and_false, b_138 hm, hd0, eVill hd1 h, if_neg q0]
    exact hQ μ (fun _ _ => rfl) h
theorem sm_mn {f g : Nat → Int} {n : Nat} (h : ∀ i, i < n → f i ≤ g i) : sm f n ≤ sm g n := by
  induction n with
  | zero => exact Int.le_refl _
  | succ n ih => have h1 := ih (fun i hi => h i (by omega)); have h2 := h n (by omega); simp only [sm]; omega
/-- how many there are, and of what -/
theorem vl_4 {τ : zT} {V : zV2} {n : Nat} {c : Int} : vlO τ V n c 1 ≤ vlO τ V n c 0 ∧ vlO τ V n c 2 ≤ vlO τ V n c 0 ∧ vlO τ V n c 3 ≤ vlO τ V n c 2 := by
  unfold vlO
  refine ⟨sm_mn (fun i _ => ?_), sm_mn (fun i _ => ?_), sm_mn (fun i _ => ?_)⟩
  all_goals
    have h1 := wa_z (τ := τ) (V := V) (i := i)
    have h2 := hu_z (V := V) (c := c) (i := i)
    unfold vlF vtO
    by_cases hk : knO V n i = true
    · rw [if_pos hk, if_pos hk]; simp <;> omega
    · rw [if_neg hk, if_neg hk]; exact Int.le_refl _
/-- villageWays -/
def vWays (σ : zSt) (n c b : Int) : Int := if okKn σ n c then (if b = 0 then pkO (vlO (sT σ) (sV σ) n.toNat c 0) (vlO (sT σ) (sV σ) n.toNat c 1) else wyO (vlO (sT σ) (sV σ) n.toNat c 2) (vlO (sT σ) (sV σ) n.toNat c 0 - vlO (sT σ) (sV σ) n.toNat c 2) (vlO (sT σ) (sV σ) n.toNat c 1) (vlO (sT σ) (sV σ) n.toNat c 3) (vlO (sT σ) (sV σ) n.toNat c 2 - vlO (sT σ) (sV σ) n.toNat c 3 + 1).toNat) else -1
theorem kWays {D : Nat} {n c b : Int} (h : CS θ T U σ μ) (hd : 7 ≤ D) (hb : b = 0 ∨ b = 1) (hQ : ∀ μ', CL μ μ' → CS θ T U σ μ' → Q (some (vl (vWays σ n c b))) θ μ') : Ex D 147 0 [vr 2, vi n, vi c, vi b] [] θ μ Q := by
  have hc := h.1.1.1
  have h2T := h.1.1.2.2.2.2.1
  have hd0 : 0 < D := by omega
  unfold vWays at hQ
  by_cases q0 : okKn σ n c
  · rw [if_pos q0] at hQ
    obtain ⟨N, rfl⟩ : ∃ N : Nat, n = (N : Int) := ⟨n.toNat, by have := q0.1; omega⟩
    have hN := q0.1.2
    have h60 := h.2.1.2.2.2.1.1
    rw [Int.toNat_natCast] at hQ
    simp only [x147_0, x147_1, x147_2, x147_3, x147_6, x147_9, x147_12, x147_13, x147_14, x147_17, x147_18, x147_19, x147_20, x147_23, x147_24, x147_27, x147_30, x147_31, x147_34, x147_35, x147_38, x147_41, x147_44, x147_45, x147_48, x147_51, x147_52, x147_55, x147_58, x147_61, ↓reduceIte, Bool.false_eq_true, Nat.reduceAdd, Nat.reduceLT, Nat.reduceLeDiff, Nat.reduceSub, Nat.reduceEqDiff, Int.reduceToNat, Int.reduceEq, Int.reduceLT, Int.reduceLE, Int.reduceAdd, Int.reduceSub, zg, zI, zJ, zR, zst, zkl, zn, zcat, zok, zraw, List.length_cons, List.length_nil, Option.toList, List.nil_append, List.cons_append, true_and, and_true, if_true, if_false, ne_eq, not_true, not_false_eq_true, and_self, true_or, or_true, false_or, or_false, false_and, and_false, b_2 hc, r_2_9 hc, b_131 hc, r_2_2 hc, h2T, hd0, eKnow _ h, if_pos q0]
    refine cTally (d := D - 1) (n := N) h.1 h.2.1.2.2.2.1 h.2.2.2.2.2.2.1 (by omega) rfl (by omega) (fun μ1 f g0 g1 g2 g3 g4 => ?_)
    have hq := hQ μ1 (CL_fr f (by decide)) (CS_tally h f g0)
    obtain ⟨o1, o2, o3⟩ := vl_4 (τ := sT σ) (V := sV σ) (n := N) (c := c)
    have p0 : 0 ≤ vlO (sT σ) (sV σ) N c 0 ∧ vlO (sT σ) (sV σ) N c 0 ≤ N := vl_b
    have p1 : 0 ≤ vlO (sT σ) (sV σ) N c 1 ∧ vlO (sT σ) (sV σ) N c 1 ≤ N := vl_b
    have p2 : 0 ≤ vlO (sT σ) (sV σ) N c 2 ∧ vlO (sT σ) (sV σ) N c 2 ≤ N := vl_b
    have p3 : 0 ≤ vlO (sT σ) (sV σ) N c 3 ∧ vlO (sT σ) (sV σ) N c 3 ≤ N := vl_b
    generalize vlO (sT σ) (sV σ) N c 0 = m0 at *
    generalize vlO (sT σ) (sV σ) N c 1 = m1 at *
    generalize vlO (sT σ) (sV σ) N c 2 = m2 at *
    generalize vlO (sT σ) (sV σ) N c 3 = m3 at *
    rcases hb with rfl | rfl
    · rw [if_pos rfl] at hq
      simp only [x147_0, x147_1, x147_2, x147_3, x147_6, x147_9, x147_12, x147_13, x147_14, x147_17, x147_18, x147_19, x147_20, x147_23, x147_24, x147_27, x147_30, x147_31, x147_34, x147_35, x147_38, x147_41, x147_44, x147_45, x147_48, x147_51, x147_52, x147_55, x147_58, x147_61, ↓reduceIte, Bool.false_eq_true, Nat.reduceAdd, Nat.reduceLT, Nat.reduceLeDiff, Nat.reduceSub, Nat.reduceEqDiff, Int.reduceToNat, Int.reduceEq, Int.reduceLT, Int.reduceLE, Int.reduceAdd, Int.reduceSub, zg, zI, zJ, zR, zst, zkl, zn, zcat, zok, zraw, List.length_cons, List.length_nil, Option.toList, List.nil_append, List.cons_append, true_and, and_true, if_true, if_false, ne_eq, not_true, not_false_eq_true, and_self, true_or, or_true, false_or, or_false, false_and, and_false, b_2 hc, r_2_9 hc, b_131 hc, g1, g2, hd0]
      refine cChooseP (d := D - 1) (by omega) (by omega) ?_
      simp only [x147_0, x147_1, x147_2, x147_3, x147_6, x147_9, x147_12, x147_13, x147_14, x147_17, x147_18, x147_19, x147_20, x147_23, x147_24, x147_27, x147_30, x147_31, x147_34, x147_35, x147_38, x147_41, x147_44, x147_45, x147_48, x147_51, x147_52, x147_55, x147_58, x147_61, ↓reduceIte, Bool.false_eq_true, Nat.reduceAdd, Nat.reduceLT, Nat.reduceLeDiff, Nat.reduceSub, Nat.reduceEqDiff, Int.reduceToNat, Int.reduceEq, Int.reduceLT, Int.reduceLE, Int.reduceAdd, Int.reduceSub, zg, zI, zJ, zR, zst, zkl, zn, zcat, zok, zraw, List.length_cons, List.length_nil, Option.toList, List.nil_append, List.cons_append, true_and, and_true, if_true, if_false, ne_eq, not_true, not_false_eq_true, and_self, true_or, or_true, false_or, or_false, false_and, and_false]
      exact hq
    · rw [if_neg (by decide)] at hq
      simp only [x147_0, x147_1, x147_2, x147_3, x147_6, x147_9, x147_12, x147_13, x147_14, x147_17, x147_18, x147_19, x147_20, x147_23, x147_24, x147_27, x147_30, x147_31, x147_34, x147_35, x147_38, x147_41, x147_44, x147_45, x147_48, x147_51, x147_52, x147_55, x147_58, x147_61, ↓reduceIte, Bool.false_eq_true, Nat.reduceAdd, Nat.reduceLT, Nat.reduceLeDiff, Nat.reduceSub, Nat.reduceEqDiff, Int.reduceToNat, Int.reduceEq, Int.reduceLT, Int.reduceLE, Int.reduceAdd, Int.reduceSub, zg, zI, zJ, zR, zst, zkl, zn, zcat, zok, zraw, List.length_cons, List.length_nil, Option.toList, List.nil_append, List.cons_append, true_and, and_true, if_true, if_false, ne_eq, not_true, not_false_eq_true, and_self, true_or, or_true, false_or, or_false, false_and, and_false, b_2 hc, r_2_9 hc, b_131 hc, hd0]
      refine cWays (d := D - 1) hc (by omega) (m := m0) (u := m1) (t := m2) (a := m3) (by omega) (by omega) (by omega) (by omega) g1 g2 g3 g4 ?_
      simp only [x147_0, x147_1, x147_2, x147_3, x147_6, x147_9, x147_12, x147_13, x147_14, x147_17, x147_18, x147_19, x147_20, x147_23, x147_24, x147_27, x147_30, x147_31, x147_34, x147_35, x147_38, x147_41, x147_44, x147_45, x147_48, x147_51, x147_52, x147_55, x147_58, x147_61, ↓reduceIte, Bool.false_eq_true, Nat.reduceAdd, Nat.reduceLT, Nat.reduceLeDiff, Nat.reduceSub, Nat.reduceEqDiff, Int.reduceToNat, Int.reduceEq, Int.reduceLT, Int.reduceLE, Int.reduceAdd, Int.reduceSub, zg, zI, zJ, zR, zst, zkl, zn, zcat, zok, zraw, List.length_cons, List.length_nil, Option.toList, List.nil_append, List.cons_append, true_and, and_true, if_true, if_false, ne_eq, not_true, not_false_eq_true, and_self, true_or, or_true, false_or, or_false, false_and, and_false]
      exact hq
  · rw [if_neg q0] at hQ
    simp only [x147_0, x147_1, x147_2, x147_3, x147_6, x147_9, x147_12, x147_13, x147_14, x147_17, x147_18, x147_19, x147_20, x147_23, x147_24, x147_27, x147_30, x147_31, x147_34, x147_35, x147_38, x147_41, x147_44, x147_45, x147_48, x147_51, x147_52, x147_55, x147_58, x147_61, ↓reduceIte, Bool.false_eq_true, Nat.reduceAdd, Nat.reduceLT, Nat.reduceLeDiff, Nat.reduceSub, Nat.reduceEqDiff, Int.reduceToNat, Int.reduceEq, Int.reduceLT, Int.reduceLE, Int.reduceAdd, Int.reduceSub, zg, zI, zJ, zR, zst, zkl, zn, zcat, zok, zraw, List.length_cons, List.length_nil, Option.toList, List.nil_append, List.cons_append, true_and, and_true, if_true, if_false, ne_eq, not_true, not_false_eq_true, and_self, true_or, or_true, false_or, or_false, false_and, and_false, b_2 hc, hd0, eKnow _ h, if_neg q0]
    exact hQ μ (fun _ _ => rfl) h
theorem rWays {D : Nat} {n c b : Int} {x4 x5 x6 x7 x8 x9 : zV} (h : MS θ σ s μ) (hd : 11 ≤ D) (hb : b = 0 ∨ b = 1) (hQ : ∀ μ', ML2 μ μ' → MS θ σ s μ' → Q (some (vl (vWays σ n c b))) θ μ') : Ex D 287 0 [vr 138, vi n, vi c, vi b, x4, x5, x6, x7, x8, x9] [] θ μ Q := by
  have hm := h.1.1
  have hd0 : 0 < D := by omega
  have hd1 : 0 < D - 1 := by omega
  unfold vWays at hQ
  by_cases q0 : okKn σ n c
  · rw [if_pos q0] at hQ
    obtain ⟨N, rfl⟩ : ∃ N : Nat, n = (N : Int) := ⟨n.toNat, by have := q0.1; omega⟩
    have hN := q0.1.2
    have hV := h.2.1.2.2.2.1
    have h60 := hV.1
    rw [Int.toNat_natCast] at hQ
    obtain ⟨o1, o2, o3⟩ := vl_4 (τ := sT σ) (V := sV σ) (n := N) (c := c)
    have p0 : 0 ≤ vlO (sT σ) (sV σ) N c 0 ∧ vlO (sT σ) (sV σ) N c 0 ≤ N := vl_b
    have p1 : 0 ≤ vlO (sT σ) (sV σ) N c 1 ∧ vlO (sT σ) (sV σ) N c 1 ≤ N := vl_b
    have p2 : 0 ≤ vlO (sT σ) (sV σ) N c 2 ∧ vlO (sT σ) (sV σ) N c 2 ≤ N := vl_b
    have p3 : 0 ≤ vlO (sT σ) (sV σ) N c 3 ∧ vlO (sT σ) (sV σ) N c 3 ≤ N := vl_b
    obtain ⟨m0, e0⟩ : ∃ m0, m0 = vlO (sT σ) (sV σ) N c 0 := ⟨_, rfl⟩
    obtain ⟨m1, e1⟩ : ∃ m1, m1 = vlO (sT σ) (sV σ) N c 1 := ⟨_, rfl⟩
    obtain ⟨m2, e2⟩ : ∃ m2, m2 = vlO (sT σ) (sV σ) N c 2 := ⟨_, rfl⟩
    obtain ⟨m3, e3⟩ : ∃ m3, m3 = vlO (sT σ) (sV σ) N c 3 := ⟨_, rfl⟩
    rw [← e0, ← e1, ← e2, ← e3] at hQ
    rw [← e0] at o1 o2 p0
    rw [← e1] at o1 p1
    rw [← e2] at o2 o3 p2
    rw [← e3] at o3 p3
    simp only [x287_0, x287_1, x287_2, x287_3, x287_6, x287_9, x287_12, x287_13, x287_14, x287_15, x287_16, x287_17, x287_20, x287_22, x287_23, x287_24, x287_25, x287_26, x287_29, x287_31, x287_32, x287_33, x287_34, x287_35, x287_38, x287_40, x287_41, x287_44, x287_46, x287_48, x287_51, x287_52, x287_53, x287_55, x287_56, x287_57, x287_58, x287_59, x287_62, x287_66, x287_68, x287_71, x287_73, x287_75, x287_77, x287_80, x287_82, x287_84, x287_85, x287_87, x287_89, x287_90, x287_93, x287_94, x287_95, x287_97, x287_100, x287_103, x287_105, ↓reduceIte, Bool.false_eq_true, Nat.reduceAdd, Nat.reduceLT, Nat.reduceLeDiff, Nat.reduceSub, Nat.reduceEqDiff, Int.reduceToNat, Int.reduceEq, Int.reduceLT, Int.reduceLE, Int.reduceAdd, Int.reduceSub, zg, zI, zJ, zR, zst, zkl, zn, zcat, zok, zraw, List.length_cons, List.length_nil, Option.toList, List.nil_append, List.cons_append, true_and, and_true, if_true, if_false, ne_eq, not_true, not_false_eq_true, and_self, true_or, or_true, false_or, or_false, false_and, and_false, b_138 hm, hd0, eVill hd1 h, if_pos q0]
    refine mVillageOf (d := D - 1) (n := N) (what := 0) h.1 hV h.2.2.2.2.1 (by omega) rfl (by omega) rfl (by omega) (fun μ1 f1 j1 => ?_)
    have H1 : MS θ σ s μ1 := MS_fr h f1 (by decide) (fun i hi => j1 i (by omega))
    rw [← e0]
    simp only [x287_0, x287_1, x287_2, x287_3, x287_6, x287_9, x287_12, x287_13, x287_14, x287_15, x287_16, x287_17, x287_20, x287_22, x287_23, x287_24, x287_25, x287_26, x287_29, x287_31, x287_32, x287_33, x287_34, x287_35, x287_38, x287_40, x287_41, x287_44, x287_46, x287_48, x287_51, x287_52, x287_53, x287_55, x287_56, x287_57, x287_58, x287_59, x287_62, x287_66, x287_68, x287_71, x287_73, x287_75, x287_77, x287_80, x287_82, x287_84, x287_85, x287_87, x287_89, x287_90, x287_93, x287_94, x287_95, x287_97, x287_100, x287_103, x287_105, ↓reduceIte, Bool.false_eq_true, Nat.reduceAdd, Nat.reduceLT, Nat.reduceLeDiff, Nat.reduceSub, Nat.reduceEqDiff, Int.reduceToNat, Int.reduceEq, Int.reduceLT, Int.reduceLE, Int.reduceAdd, Int.reduceSub, zg, zI, zJ, zR, zst, zkl, zn, zcat, zok, zraw, List.length_cons, List.length_nil, Option.toList, List.nil_append, List.cons_append, true_and, and_true, if_true, if_false, ne_eq, not_true, not_false_eq_true, and_self, true_or, or_true, false_or, or_false, false_and, and_false, b_138 hm, hd0, zkl]
    refine mVillageOf (d := D - 1) (n := N) (what := 1) H1.1 hV H1.2.2.2.2.1 (by omega) rfl (by omega) rfl (by omega) (fun μ2 f2 j2 => ?_)
    have H2 : MS θ σ s μ2 := MS_fr H1 f2 (by decide) (fun i hi => j2 i (by omega))
    rw [← e1]
    simp only [x287_0, x287_1, x287_2, x287_3, x287_6, x287_9, x287_12, x287_13, x287_14, x287_15, x287_16, x287_17, x287_20, x287_22, x287_23, x287_24, x287_25, x287_26, x287_29, x287_31, x287_32, x287_33, x287_34, x287_35, x287_38, x287_40, x287_41, x287_44, x287_46, x287_48, x287_51, x287_52, x287_53, x287_55, x287_56, x287_57, x287_58, x287_59, x287_62, x287_66, x287_68, x287_71, x287_73, x287_75, x287_77, x287_80, x287_82, x287_84, x287_85, x287_87, x287_89, x287_90, x287_93, x287_94, x287_95, x287_97, x287_100, x287_103, x287_105, ↓reduceIte, Bool.false_eq_true, Nat.reduceAdd, Nat.reduceLT, Nat.reduceLeDiff, Nat.reduceSub, Nat.reduceEqDiff, Int.reduceToNat, Int.reduceEq, Int.reduceLT, Int.reduceLE, Int.reduceAdd, Int.reduceSub, zg, zI, zJ, zR, zst, zkl, zn, zcat, zok, zraw, List.length_cons, List.length_nil, Option.toList, List.nil_append, List.cons_append, true_and, and_true, if_true, if_false, ne_eq, not_true, not_false_eq_true, and_self, true_or, or_true, false_or, or_false, false_and, and_false, b_138 hm, hd0, zkl]
    refine mVillageOf (d := D - 1) (n := N) (what := 2) H2.1 hV H2.2.2.2.2.1 (by omega) rfl (by omega) rfl (by omega) (fun μ3 f3 j3 => ?_)
    have H3 : MS θ σ s μ3 := MS_fr H2 f3 (by decide) (fun i hi => j3 i (by omega))
    rw [← e2]
    have L3 : ML2 μ μ3 := MLe_fr ((f1.trans f2).trans f3) (by decide)
    rcases hb with rfl | rfl
    · have hq := hQ μ3 L3 H3
      rw [if_pos rfl] at hq
      simp only [x287_0, x287_1, x287_2, x287_3, x287_6, x287_9, x287_12, x287_13, x287_14, x287_15, x287_16, x287_17, x287_20, x287_22, x287_23, x287_24, x287_25, x287_26, x287_29, x287_31, x287_32, x287_33, x287_34, x287_35, x287_38, x287_40, x287_41, x287_44, x287_46, x287_48, x287_51, x287_52, x287_53, x287_55, x287_56, x287_57, x287_58, x287_59, x287_62, x287_66, x287_68, x287_71, x287_73, x287_75, x287_77, x287_80, x287_82, x287_84, x287_85, x287_87, x287_89, x287_90, x287_93, x287_94, x287_95, x287_97, x287_100, x287_103, x287_105, ↓reduceIte, Bool.false_eq_true, Nat.reduceAdd, Nat.reduceLT, Nat.reduceLeDiff, Nat.reduceSub, Nat.reduceEqDiff, Int.reduceToNat, Int.reduceEq, Int.reduceLT, Int.reduceLE, Int.reduceAdd, Int.reduceSub, zg, zI, zJ, zR, zst, zkl, zn, zcat, zok, zraw, List.length_cons, List.length_nil, Option.toList, List.nil_append, List.cons_append, true_and, and_true, if_true, if_false, ne_eq, not_true, not_false_eq_true, and_self, true_or, or_true, false_or, or_false, false_and, and_false, b_138 hm, hd0, zkl]
      refine mPicks (d := D - 1) (by omega) (by omega) ?_
      simp only [x287_0, x287_1, x287_2, x287_3, x287_6, x287_9, x287_12, x287_13, x287_14, x287_15, x287_16, x287_17, x287_20, x287_22, x287_23, x287_24, x287_25, x287_26, x287_29, x287_31, x287_32, x287_33, x287_34, x287_35, x287_38, x287_40, x287_41, x287_44, x287_46, x287_48, x287_51, x287_52, x287_53, x287_55, x287_56, x287_57, x287_58, x287_59, x287_62, x287_66, x287_68, x287_71, x287_73, x287_75, x287_77, x287_80, x287_82, x287_84, x287_85, x287_87, x287_89, x287_90, x287_93, x287_94, x287_95, x287_97, x287_100, x287_103, x287_105, ↓reduceIte, Bool.false_eq_true, Nat.reduceAdd, Nat.reduceLT, Nat.reduceLeDiff, Nat.reduceSub, Nat.reduceEqDiff, Int.reduceToNat, Int.reduceEq, Int.reduceLT, Int.reduceLE, Int.reduceAdd, Int.reduceSub, zg, zI, zJ, zR, zst, zkl, zn, zcat, zok, zraw, List.length_cons, List.length_nil, Option.toList, List.nil_append, List.cons_append, true_and, and_true, if_true, if_false, ne_eq, not_true, not_false_eq_true, and_self, true_or, or_true, false_or, or_false, false_and, and_false]
      exact hq
    · simp only [x287_0, x287_1, x287_2, x287_3, x287_6, x287_9, x287_12, x287_13, x287_14, x287_15, x287_16, x287_17, x287_20, x287_22, x287_23, x287_24, x287_25, x287_26, x287_29, x287_31, x287_32, x287_33, x287_34, x287_35, x287_38, x287_40, x287_41, x287_44, x287_46, x287_48, x287_51, x287_52, x287_53, x287_55, x287_56, x287_57, x287_58, x287_59, x287_62, x287_66, x287_68, x287_71, x287_73, x287_75, x287_77, x287_80, x287_82, x287_84, x287_85, x287_87, x287_89, x287_90, x287_93, x287_94, x287_95, x287_97, x287_100, x287_103, x287_105, ↓reduceIte, Bool.false_eq_true, Nat.reduceAdd, Nat.reduceLT, Nat.reduceLeDiff, Nat.reduceSub, Nat.reduceEqDiff, Int.reduceToNat, Int.reduceEq, Int.reduceLT, Int.reduceLE, Int.reduceAdd, Int.reduceSub, zg, zI, zJ, zR, zst, zkl, zn, zcat, zok, zraw, List.length_cons, List.length_nil, Option.toList, List.nil_append, List.cons_append, true_and, and_true, if_true, if_false, ne_eq, not_true, not_false_eq_true, and_self, true_or, or_true, false_or, or_false, false_and, and_false, b_138 hm, hd0, zkl]
      refine mVillageOf (d := D - 1) (n := N) (what := 3) H3.1 hV H3.2.2.2.2.1 (by omega) rfl (by omega) rfl (by omega) (fun μ4 f4 j4 => ?_)
      have H4 : MS θ σ s μ4 := MS_fr H3 f4 (by decide) (fun i hi => j4 i (by omega))
      have hq := hQ μ4 (MLe_fr (((f1.trans f2).trans f3).trans f4) (by decide)) H4
      rw [if_neg (by decide)] at hq
      rw [← e3]
      obtain ⟨K, hK⟩ : ∃ K : Nat, (m2 - m3 + 1).toNat = K := ⟨_, rfl⟩
      rw [hK] at hq
      have key : ∀ t L μ5, t ≤ K → (L = [vr 138, vi (N : Nat), vi c, vi 1, vi m0, vi m1, vi m2, vl (wyO m2 (m0 - m2) m1 m3 t), vU, vi (m3 + (t : Nat))] ∧ μ5 = μ4) → Ex D 287 64 L [] θ μ5 Q := by
        refine Ex_loop (I := fun t L μ5 => L = [vr 138, vi (N : Nat), vi c, vi 1, vi m0, vi m1, vi m2, vl (wyO m2 (m0 - m2) m1 m3 t), vU, vi (m3 + (t : Nat))] ∧ μ5 = μ4) K ?_ ?_
        · rintro t L μ5 ht ⟨rfl, rfl⟩ hk
          have c1 : ¬ m2 < m3 + (t : Nat) := by omega
          have l1 : -2147483648 ≤ m0 - m2 := by omega
          have l2 : m0 - m2 ≤ 2147483647 := by omega
          have l3 : -2147483648 ≤ m1 - (m3 + (t : Nat)) := by omega
          have l4 : m1 - (m3 + (t : Nat)) ≤ 2147483647 := by omega
          have l5 : -2147483648 ≤ m3 + (t : Nat) + 1 := by omega
          have l6 : m3 + (t : Nat) + 1 ≤ 2147483647 := by omega
          rw [x287_64]
          simp only [x287_0, x287_1, x287_2, x287_3, x287_6, x287_9, x287_12, x287_13, x287_14, x287_15, x287_16, x287_17, x287_20, x287_22, x287_23, x287_24, x287_25, x287_26, x287_29, x287_31, x287_32, x287_33, x287_34, x287_35, x287_38, x287_40, x287_41, x287_44, x287_46, x287_48, x287_51, x287_52, x287_53, x287_55, x287_56, x287_57, x287_58, x287_59, x287_62, x287_66, x287_68, x287_71, x287_73, x287_75, x287_77, x287_80, x287_82, x287_84, x287_85, x287_87, x287_89, x287_90, x287_93, x287_94, x287_95, x287_97, x287_100, x287_103, x287_105, ↓reduceIte, Bool.false_eq_true, Nat.reduceAdd, Nat.reduceLT, Nat.reduceLeDiff, Nat.reduceSub, Nat.reduceEqDiff, Int.reduceToNat, Int.reduceEq, Int.reduceLT, Int.reduceLE, Int.reduceAdd, Int.reduceSub, zg, zI, zJ, zR, zst, zkl, zn, zcat, zok, zraw, List.length_cons, List.length_nil, Option.toList, List.nil_append, List.cons_append, true_and, and_true, if_true, if_false, ne_eq, not_true, not_false_eq_true, and_self, true_or, or_true, false_or, or_false, false_and, and_false, c1, hd0]
          refine mPicks (d := D - 1) (by omega) (by omega) ?_
          simp only [x287_0, x287_1, x287_2, x287_3, x287_6, x287_9, x287_12, x287_13, x287_14, x287_15, x287_16, x287_17, x287_20, x287_22, x287_23, x287_24, x287_25, x287_26, x287_29, x287_31, x287_32, x287_33, x287_34, x287_35, x287_38, x287_40, x287_41, x287_44, x287_46, x287_48, x287_51, x287_52, x287_53, x287_55, x287_56, x287_57, x287_58, x287_59, x287_62, x287_66, x287_68, x287_71, x287_73, x287_75, x287_77, x287_80, x287_82, x287_84, x287_85, x287_87, x287_89, x287_90, x287_93, x287_94, x287_95, x287_97, x287_100, x287_103, x287_105, ↓reduceIte, Bool.false_eq_true, Nat.reduceAdd, Nat.reduceLT, Nat.reduceLeDiff, Nat.reduceSub, Nat.reduceEqDiff, Int.reduceToNat, Int.reduceEq, Int.reduceLT, Int.reduceLE, Int.reduceAdd, Int.reduceSub, zg, zI, zJ, zR, zst, zkl, zn, zcat, zok, zraw, List.length_cons, List.length_nil, Option.toList, List.nil_append, List.cons_append, true_and, and_true, if_true, if_false, ne_eq, not_true, not_false_eq_true, and_self, true_or, or_true, false_or, or_false, false_and, and_false, hd0, w32_i l1 l2, w32_i l3 l4]
          refine mPicks (d := D - 1) (by omega) (by omega) ?_
          simp only [x287_0, x287_1, x287_2, x287_3, x287_6, x287_9, x287_12, x287_13, x287_14, x287_15, x287_16, x287_17, x287_20, x287_22, x287_23, x287_24, x287_25, x287_26, x287_29, x287_31, x287_32, x287_33, x287_34, x287_35, x287_38, x287_40, x287_41, x287_44, x287_46, x287_48, x287_51, x287_52, x287_53, x287_55, x287_56, x287_57, x287_58, x287_59, x287_62, x287_66, x287_68, x287_71, x287_73, x287_75, x287_77, x287_80, x287_82, x287_84, x287_85, x287_87, x287_89, x287_90, x287_93, x287_94, x287_95, x287_97, x287_100, x287_103, x287_105, ↓reduceIte, Bool.false_eq_true, Nat.reduceAdd, Nat.reduceLT, Nat.reduceLeDiff, Nat.reduceSub, Nat.reduceEqDiff, Int.reduceToNat, Int.reduceEq, Int.reduceLT, Int.reduceLE, Int.reduceAdd, Int.reduceSub, zg, zI, zJ, zR, zst, zkl, zn, zcat, zok, zraw, List.length_cons, List.length_nil, Option.toList, List.nil_append, List.cons_append, true_and, and_true, if_true, if_false, ne_eq, not_true, not_false_eq_true, and_self, true_or, or_true, false_or, or_false, false_and, and_false, zkl, w32_i l5 l6]
          refine hk _ _ ⟨?_, rfl⟩
          have : m3 + (t : Nat) + 1 = m3 + ((t + 1 : Nat) : Int) := by omega
          rw [this]
          rfl
        · rintro L μ5 ⟨rfl, rfl⟩
          have c1 : m2 < m3 + (K : Nat) := by omega
          rw [x287_64]
          simp only [x287_0, x287_1, x287_2, x287_3, x287_6, x287_9, x287_12, x287_13, x287_14, x287_15, x287_16, x287_17, x287_20, x287_22, x287_23, x287_24, x287_25, x287_26, x287_29, x287_31, x287_32, x287_33, x287_34, x287_35, x287_38, x287_40, x287_41, x287_44, x287_46, x287_48, x287_51, x287_52, x287_53, x287_55, x287_56, x287_57, x287_58, x287_59, x287_62, x287_66, x287_68, x287_71, x287_73, x287_75, x287_77, x287_80, x287_82, x287_84, x287_85, x287_87, x287_89, x287_90, x287_93, x287_94, x287_95, x287_97, x287_100, x287_103, x287_105, ↓reduceIte, Bool.false_eq_true, Nat.reduceAdd, Nat.reduceLT, Nat.reduceLeDiff, Nat.reduceSub, Nat.reduceEqDiff, Int.reduceToNat, Int.reduceEq, Int.reduceLT, Int.reduceLE, Int.reduceAdd, Int.reduceSub, zg, zI, zJ, zR, zst, zkl, zn, zcat, zok, zraw, List.length_cons, List.length_nil, Option.toList, List.nil_append, List.cons_append, true_and, and_true, if_true, if_false, ne_eq, not_true, not_false_eq_true, and_self, true_or, or_true, false_or, or_false, false_and, and_false, c1]
          exact hq
      have := key 0 _ _ (by omega) ⟨rfl, rfl⟩
      simp only [Int.natCast_zero, Int.add_zero, wyO] at this
      simp only [x287_0, x287_1, x287_2, x287_3, x287_6, x287_9, x287_12, x287_13, x287_14, x287_15, x287_16, x287_17, x287_20, x287_22, x287_23, x287_24, x287_25, x287_26, x287_29, x287_31, x287_32, x287_33, x287_34, x287_35, x287_38, x287_40, x287_41, x287_44, x287_46, x287_48, x287_51, x287_52, x287_53, x287_55, x287_56, x287_57, x287_58, x287_59, x287_62, x287_66, x287_68, x287_71, x287_73, x287_75, x287_77, x287_80, x287_82, x287_84, x287_85, x287_87, x287_89, x287_90, x287_93, x287_94, x287_95, x287_97, x287_100, x287_103, x287_105, ↓reduceIte, Bool.false_eq_true, Nat.reduceAdd, Nat.reduceLT, Nat.reduceLeDiff, Nat.reduceSub, Nat.reduceEqDiff, Int.reduceToNat, Int.reduceEq, Int.reduceLT, Int.reduceLE, Int.reduceAdd, Int.reduceSub, zg, zI, zJ, zR, zst, zkl, zn, zcat, zok, zraw, List.length_cons, List.length_nil, Option.toList, List.nil_append, List.cons_append, true_and, and_true, if_true, if_false, ne_eq, not_true, not_false_eq_true, and_self, true_or, or_true, false_or, or_false, false_and, and_false, zkl]
      exact this
  · rw [if_neg q0] at hQ
    simp only [x287_0, x287_1, x287_2, x287_3, x287_6, x287_9, x287_12, x287_13, x287_14, x287_15, x287_16, x287_17, x287_20, x287_22, x287_23, x287_24, x287_25, x287_26, x287_29, x287_31, x287_32, x287_33, x287_34, x287_35, x287_38, x287_40, x287_41, x287_44, x287_46, x287_48, x287_51, x287_52, x287_53, x287_55, x287_56, x287_57, x287_58, x287_59, x287_62, x287_66, x287_68, x287_71, x287_73, x287_75, x287_77, x287_80, x287_82, x287_84, x287_85, x287_87, x287_89, x287_90, x287_93, x287_94, x287_95, x287_97, x287_100, x287_103, x287_105, ↓reduceIte, Bool.false_eq_true, Nat.reduceAdd, Nat.reduceLT, Nat.reduceLeDiff, Nat.reduceSub, Nat.reduceEqDiff, Int.reduceToNat, Int.reduceEq, Int.reduceLT, Int.reduceLE, Int.reduceAdd, Int.reduceSub, zg, zI, zJ, zR, zst, zkl, zn, zcat, zok, zraw, List.length_cons, List.length_nil, Option.toList, List.nil_append, List.cons_append, true_and, and_true, if_true, if_false, ne_eq, not_true, not_false_eq_true, and_self, true_or, or_true, false_or, or_false, false_and, and_false, b_138 hm, hd0, eVill hd1 h, if_neg q0]
    exact hQ μ (fun _ _ => rfl) h
/-- line -/
def vLine (σ : zSt) (n c b : Int) : Int := if okKn σ n c then (if b = 0 then (dlO (sV σ) n.toNat c 101).1 else (dlO (sV σ) n.toNat c 101).2) else -1
theorem kLine {D : Nat} {n c b : Int} (h : CS θ T U σ μ) (hd : 7 ≤ D) (hb : b = 0 ∨ b = 1) (hQ : ∀ μ', CL μ μ' → CS θ T U σ μ' → Q (some (vi (vLine σ n c b))) θ μ') : Ex D 148 0 [vr 2, vi n, vi c, vi b] [] θ μ Q := by
  have hc := h.1.1.1
  have hd0 : 0 < D := by omega
  unfold vLine at hQ
  by_cases q0 : okKn σ n c
  · rw [if_pos q0] at hQ
    obtain ⟨N, rfl⟩ : ∃ N : Nat, n = (N : Int) := ⟨n.toNat, by have := q0.1; omega⟩
    have hN := q0.1.2
    rw [Int.toNat_natCast] at hQ
    simp only [x148_0, x148_1, x148_2, x148_3, x148_6, x148_9, x148_10, x148_11, x148_12, x148_15, x148_16, x148_17, x148_20, x148_21, x148_24, x148_25, x148_28, x148_31, x148_34, x148_35, x148_38, x148_41, ↓reduceIte, Bool.false_eq_true, Nat.reduceAdd, Nat.reduceLT, Nat.reduceLeDiff, Nat.reduceSub, Nat.reduceEqDiff, Int.reduceToNat, Int.reduceEq, Int.reduceLT, Int.reduceLE, Int.reduceAdd, Int.reduceSub, zg, zI, zJ, zR, zst, zkl, zn, zcat, zok, zraw, List.length_cons, List.length_nil, Option.toList, List.nil_append, List.cons_append, true_and, and_true, if_true, if_false, ne_eq, not_true, not_false_eq_true, and_self, true_or, or_true, false_or, or_false, false_and, and_false, b_2 hc, r_2_9 hc, b_131 hc, hd0, eKnow _ h, if_pos q0]
    refine cLine (d := D - 1) (n := N) hc h.2.1.2.2.2.1 h.2.2.2.2.2.2.1 (by omega) rfl (by omega) (fun μ1 f g0 g5 g6 => ?_)
    have hq := hQ μ1 (CL_fr f (by decide)) (CS_tally h (f.mono (by simp)) g0)
    rcases hb with rfl | rfl
    · rw [if_pos rfl] at hq
      simp only [x148_0, x148_1, x148_2, x148_3, x148_6, x148_9, x148_10, x148_11, x148_12, x148_15, x148_16, x148_17, x148_20, x148_21, x148_24, x148_25, x148_28, x148_31, x148_34, x148_35, x148_38, x148_41, ↓reduceIte, Bool.false_eq_true, Nat.reduceAdd, Nat.reduceLT, Nat.reduceLeDiff, Nat.reduceSub, Nat.reduceEqDiff, Int.reduceToNat, Int.reduceEq, Int.reduceLT, Int.reduceLE, Int.reduceAdd, Int.reduceSub, zg, zI, zJ, zR, zst, zkl, zn, zcat, zok, zraw, List.length_cons, List.length_nil, Option.toList, List.nil_append, List.cons_append, true_and, and_true, if_true, if_false, ne_eq, not_true, not_false_eq_true, and_self, true_or, or_true, false_or, or_false, false_and, and_false, b_2 hc, r_2_9 hc, b_131 hc, g5]
      exact hq
    · rw [if_neg (by decide)] at hq
      simp only [x148_0, x148_1, x148_2, x148_3, x148_6, x148_9, x148_10, x148_11, x148_12, x148_15, x148_16, x148_17, x148_20, x148_21, x148_24, x148_25, x148_28, x148_31, x148_34, x148_35, x148_38, x148_41, ↓reduceIte, Bool.false_eq_true, Nat.reduceAdd, Nat.reduceLT, Nat.reduceLeDiff, Nat.reduceSub, Nat.reduceEqDiff, Int.reduceToNat, Int.reduceEq, Int.reduceLT, Int.reduceLE, Int.reduceAdd, Int.reduceSub, zg, zI, zJ, zR, zst, zkl, zn, zcat, zok, zraw, List.length_cons, List.length_nil, Option.toList, List.nil_append, List.cons_append, true_and, and_true, if_true, if_false, ne_eq, not_true, not_false_eq_true, and_self, true_or, or_true, false_or, or_false, false_and, and_false, b_2 hc, r_2_9 hc, b_131 hc, g6]
      exact hq
  · rw [if_neg q0] at hQ
    simp only [x148_0, x148_1, x148_2, x148_3, x148_6, x148_9, x148_10, x148_11, x148_12, x148_15, x148_16, x148_17, x148_20, x148_21, x148_24, x148_25, x148_28, x148_31, x148_34, x148_35, x148_38, x148_41, ↓reduceIte, Bool.false_eq_true, Nat.reduceAdd, Nat.reduceLT, Nat.reduceLeDiff, Nat.reduceSub, Nat.reduceEqDiff, Int.reduceToNat, Int.reduceEq, Int.reduceLT, Int.reduceLE, Int.reduceAdd, Int.reduceSub, zg, zI, zJ, zR, zst, zkl, zn, zcat, zok, zraw, List.length_cons, List.length_nil, Option.toList, List.nil_append, List.cons_append, true_and, and_true, if_true, if_false, ne_eq, not_true, not_false_eq_true, and_self, true_or, or_true, false_or, or_false, false_and, and_false, b_2 hc, hd0, eKnow _ h, if_neg q0]
    exact hQ μ (fun _ _ => rfl) h
theorem rLine {D : Nat} {n c b : Int} {x4 x5 x6 x7 x8 : zV} (h : MS θ σ s μ) (hd : 11 ≤ D) (hb : b = 0 ∨ b = 1) (hQ : ∀ μ', ML2 μ μ' → MS θ σ s μ' → Q (some (vi (vLine σ n c b))) θ μ') : Ex D 288 0 [vr 138, vi n, vi c, vi b, x4, x5, x6, x7, x8] [] θ μ Q := by
  have hm := h.1.1
  have hd0 : 0 < D := by omega
  have hd1 : 0 < D - 1 := by omega
  unfold vLine at hQ
  by_cases q0 : okKn σ n c
  · rw [if_pos q0] at hQ
    obtain ⟨N, rfl⟩ : ∃ N : Nat, n = (N : Int) := ⟨n.toNat, by have := q0.1; omega⟩
    have hN := q0.1.2
    have hV := h.2.1.2.2.2.1
    have hC := h.2.2.2.2.1
    have h60 := hV.1
    rw [Int.toNat_natCast] at hQ
    have hq := hQ μ (fun _ _ => rfl) h
    -- of one LINE
    have inner : ∀ (x : Nat), x ≤ 100 → (∀ y8, Ex D 288 94 [vr 138, vi (N : Nat), vi c, vi b, vi (dlO (sV σ) N c x).1, vi (dlO (sV σ) N c x).2, vi (x : Nat), vi (rbO (sV σ) N c (x : Nat)), y8] [] θ μ Q) → ∀ t L μ1, t ≤ N → (L = [vr 138, vi (N : Nat), vi c, vi b, vi (dlO (sV σ) N c x).1, vi (dlO (sV σ) N c x).2, vi (x : Nat), vi (sm (rbF (sV σ) N c (x : Nat)) t), vi (t : Nat)] ∧ μ1 = μ) → Ex D 288 33 L [] θ μ1 Q := by
      intro x hx hend
      refine Ex_loop (I := fun t L μ1 => L = [vr 138, vi (N : Nat), vi c, vi b, vi (dlO (sV σ) N c x).1, vi (dlO (sV σ) N c x).2, vi (x : Nat), vi (sm (rbF (sV σ) N c (x : Nat)) t), vi (t : Nat)] ∧ μ1 = μ) N ?_ ?_
      · rintro t L μ1 ht ⟨rfl, rfl⟩ hk
        have c1 : ¬ ((N : Nat) : Int) ≤ (t : Int) := by omega
        have i1 : (0 : Int) ≤ (t : Int) := by omega
        have i2 : (t : Int) < 60 := by omega
        have w1 : t < 2147483647 := by omega
        have rb := rb_b (V := sV σ) (n := N) (m := t) (c := c) (x := (x : Nat))
        have l1 : -2147483648 ≤ sm (rbF (sV σ) N c (x : Nat)) t + 1 := by omega
        have l2 : sm (rbF (sV σ) N c (x : Nat)) t + 1 ≤ 2147483647 := by omega
        have es : sm (rbF (sV σ) N c (x : Nat)) (t + 1) = sm (rbF (sV σ) N c (x : Nat)) t + rbF (sV σ) N c (x : Nat) t := rfl
        rw [x288_33]
        simp only [x288_0, x288_1, x288_2, x288_3, x288_6, x288_9, x288_10, x288_11, x288_12, x288_14, x288_15, x288_17, x288_18, x288_22, x288_24, x288_27, x288_28, x288_30, x288_31, x288_35, x288_36, x288_39, x288_40, x288_42, x288_43, x288_46, x288_49, x288_50, x288_53, x288_55, x288_56, x288_58, x288_61, x288_62, x288_65, x288_66, x288_67, x288_70, x288_72, x288_73, x288_74, x288_77, x288_78, x288_81, x288_82, x288_85, x288_88, x288_91, x288_94, x288_96, x288_98, x288_101, x288_104, x288_106, x288_108, x288_110, x288_112, x288_115, x288_118, x288_119, x288_122, x288_124, x288_127, x288_129, ↓reduceIte, Bool.false_eq_true, Nat.reduceAdd, Nat.reduceLT, Nat.reduceLeDiff, Nat.reduceSub, Nat.reduceEqDiff, Int.reduceToNat, Int.reduceEq, Int.reduceLT, Int.reduceLE, Int.reduceAdd, Int.reduceSub, zg, zI, zJ, zR, zst, zkl, zn, zcat, zok, zraw, List.length_cons, List.length_nil, Option.toList, List.nil_append, List.cons_append, true_and, and_true, if_true, if_false, ne_eq, not_true, not_false_eq_true, and_self, true_or, or_true, false_or, or_false, false_and, and_false, c1, b_138 hm, hd0]
        refine mCounts (d := D - 1) (n := N) (i := t) hm hV hC rfl rfl (by omega) ht ?_
        cases hk2 : knO (sV σ) N t with
        | false =>
          have e0 : rbF (sV σ) N c (x : Nat) t = 0 := by unfold rbF; rw [hk2, if_neg (fun hh => by cases hh.1)]
          simp only [x288_0, x288_1, x288_2, x288_3, x288_6, x288_9, x288_10, x288_11, x288_12, x288_14, x288_15, x288_17, x288_18, x288_22, x288_24, x288_27, x288_28, x288_30, x288_31, x288_35, x288_36, x288_39, x288_40, x288_42, x288_43, x288_46, x288_49, x288_50, x288_53, x288_55, x288_56, x288_58, x288_61, x288_62, x288_65, x288_66, x288_67, x288_70, x288_72, x288_73, x288_74, x288_77, x288_78, x288_81, x288_82, x288_85, x288_88, x288_91, x288_94, x288_96, x288_98, x288_101, x288_104, x288_106, x288_108, x288_110, x288_112, x288_115, x288_118, x288_119, x288_122, x288_124, x288_127, x288_129, ↓reduceIte, Bool.false_eq_true, Nat.reduceAdd, Nat.reduceLT, Nat.reduceLeDiff, Nat.reduceSub, Nat.reduceEqDiff, Int.reduceToNat, Int.reduceEq, Int.reduceLT, Int.reduceLE, Int.reduceAdd, Int.reduceSub, zg, zI, zJ, zR, zst, zkl, zn, zcat, zok, zraw, List.length_cons, List.length_nil, Option.toList, List.nil_append, List.cons_append, true_and, and_true, if_true, if_false, ne_eq, not_true, not_false_eq_true, and_self, true_or, or_true, false_or, or_false, false_and, and_false, b2, w32_s w1]
          refine hk _ _ ⟨?_, rfl⟩
          rw [es, e0, Int.add_zero]
        | true =>
          have hv1 := (kn_iff.mp hk2).1
          obtain ⟨ea, _, _, el⟩ := (hC.2 t (by omega)).2 hv1
          have e0 : rbF (sV σ) N c (x : Nat) t = if ((x : Nat) : Int) ≤ (sV σ).2.1 t ↔ c ≤ (sV σ).2.2.2.2.1 t then 1 else 0 := by
            unfold rbF; rw [hk2]; simp
          by_cases p1 : ((x : Nat) : Int) ≤ (sV σ).2.1 t
          · have p1' : ¬ (sV σ).2.1 t < ((x : Nat) : Int) := by omega
            by_cases p2 : c ≤ (sV σ).2.2.2.2.1 t
            · have p2' : ¬ (sV σ).2.2.2.2.1 t < c := by omega
              rw [if_pos ⟨fun _ => p2, fun _ => p1⟩] at e0
              rw [e0] at es
              simp only [x288_0, x288_1, x288_2, x288_3, x288_6, x288_9, x288_10, x288_11, x288_12, x288_14, x288_15, x288_17, x288_18, x288_22, x288_24, x288_27, x288_28, x288_30, x288_31, x288_35, x288_36, x288_39, x288_40, x288_42, x288_43, x288_46, x288_49, x288_50, x288_53, x288_55, x288_56, x288_58, x288_61, x288_62, x288_65, x288_66, x288_67, x288_70, x288_72, x288_73, x288_74, x288_77, x288_78, x288_81, x288_82, x288_85, x288_88, x288_91, x288_94, x288_96, x288_98, x288_101, x288_104, x288_106, x288_108, x288_110, x288_112, x288_115, x288_118, x288_119, x288_122, x288_124, x288_127, x288_129, ↓reduceIte, Bool.false_eq_true, Nat.reduceAdd, Nat.reduceLT, Nat.reduceLeDiff, Nat.reduceSub, Nat.reduceEqDiff, Int.reduceToNat, Int.reduceEq, Int.reduceLT, Int.reduceLE, Int.reduceAdd, Int.reduceSub, zg, zI, zJ, zR, zst, zkl, zn, zcat, zok, zraw, List.length_cons, List.length_nil, Option.toList, List.nil_append, List.cons_append, true_and, and_true, if_true, if_false, ne_eq, not_true, not_false_eq_true, and_self, true_or, or_true, false_or, or_false, false_and, and_false, b_138 hm, b2, r_138_80 hm, r_138_83 hm, x_194 hm i1 i2, x_197 hm i1 i2, Int.toNat_natCast, ea, el, p1', p2', w32_i l1 l2, w32_s w1]
              exact hk _ _ ⟨by rw [es], rfl⟩
            · have p2' : (sV σ).2.2.2.2.1 t < c := by omega
              rw [if_neg (fun hh => p2 (hh.mp p1))] at e0
              rw [e0, Int.add_zero] at es
              simp only [x288_0, x288_1, x288_2, x288_3, x288_6, x288_9, x288_10, x288_11, x288_12, x288_14, x288_15, x288_17, x288_18, x288_22, x288_24, x288_27, x288_28, x288_30, x288_31, x288_35, x288_36, x288_39, x288_40, x288_42, x288_43, x288_46, x288_49, x288_50, x288_53, x288_55, x288_56, x288_58, x288_61, x288_62, x288_65, x288_66, x288_67, x288_70, x288_72, x288_73, x288_74, x288_77, x288_78, x288_81, x288_82, x288_85, x288_88, x288_91, x288_94, x288_96, x288_98, x288_101, x288_104, x288_106, x288_108, x288_110, x288_112, x288_115, x288_118, x288_119, x288_122, x288_124, x288_127, x288_129, ↓reduceIte, Bool.false_eq_true, Nat.reduceAdd, Nat.reduceLT, Nat.reduceLeDiff, Nat.reduceSub, Nat.reduceEqDiff, Int.reduceToNat, Int.reduceEq, Int.reduceLT, Int.reduceLE, Int.reduceAdd, Int.reduceSub, zg, zI, zJ, zR, zst, zkl, zn, zcat, zok, zraw, List.length_cons, List.length_nil, Option.toList, List.nil_append, List.cons_append, true_and, and_true, if_true, if_false, ne_eq, not_true, not_false_eq_true, and_self, true_or, or_true, false_or, or_false, false_and, and_false, b_138 hm, b2, r_138_80 hm, r_138_83 hm, x_194 hm i1 i2, x_197 hm i1 i2, Int.toNat_natCast, ea, el, p1', p2', w32_s w1]
              exact hk _ _ ⟨by rw [es], rfl⟩
          · have p1' : (sV σ).2.1 t < ((x : Nat) : Int) := by omega
            by_cases p2 : c ≤ (sV σ).2.2.2.2.1 t
            · have p2' : ¬ (sV σ).2.2.2.2.1 t < c := by omega
              rw [if_neg (fun hh => p1 (hh.mpr p2))] at e0
              rw [e0, Int.add_zero] at es
              simp only [x288_0, x288_1, x288_2, x288_3, x288_6, x288_9, x288_10, x288_11, x288_12, x288_14, x288_15, x288_17, x288_18, x288_22, x288_24, x288_27, x288_28, x288_30, x288_31, x288_35, x288_36, x288_39, x288_40, x288_42, x288_43, x288_46, x288_49, x288_50, x288_53, x288_55, x288_56, x288_58, x288_61, x288_62, x288_65, x288_66, x288_67, x288_70, x288_72, x288_73, x288_74, x288_77, x288_78, x288_81, x288_82, x288_85, x288_88, x288_91, x288_94, x288_96, x288_98, x288_101, x288_104, x288_106, x288_108, x288_110, x288_112, x288_115, x288_118, x288_119, x288_122, x288_124, x288_127, x288_129, ↓reduceIte, Bool.false_eq_true, Nat.reduceAdd, Nat.reduceLT, Nat.reduceLeDiff, Nat.reduceSub, Nat.reduceEqDiff, Int.reduceToNat, Int.reduceEq, Int.reduceLT, Int.reduceLE, Int.reduceAdd, Int.reduceSub, zg, zI, zJ, zR, zst, zkl, zn, zcat, zok, zraw, List.length_cons, List.length_nil, Option.toList, List.nil_append, List.cons_append, true_and, and_true, if_true, if_false, ne_eq, not_true, not_false_eq_true, and_self, true_or, or_true, false_or, or_false, false_and, and_false, b_138 hm, b2, r_138_80 hm, r_138_83 hm, x_194 hm i1 i2, x_197 hm i1 i2, Int.toNat_natCast, ea, el, p1', p2', w32_s w1]
              exact hk _ _ ⟨by rw [es], rfl⟩
            · have p2' : (sV σ).2.2.2.2.1 t < c := by omega
              rw [if_pos ⟨fun hh => absurd hh p1, fun hh => absurd hh p2⟩] at e0
              rw [e0] at es
              simp only [x288_0, x288_1, x288_2, x288_3, x288_6, x288_9, x288_10, x288_11, x288_12, x288_14, x288_15, x288_17, x288_18, x288_22, x288_24, x288_27, x288_28, x288_30, x288_31, x288_35, x288_36, x288_39, x288_40, x288_42, x288_43, x288_46, x288_49, x288_50, x288_53, x288_55, x288_56, x288_58, x288_61, x288_62, x288_65, x288_66, x288_67, x288_70, x288_72, x288_73, x288_74, x288_77, x288_78, x288_81, x288_82, x288_85, x288_88, x288_91, x288_94, x288_96, x288_98, x288_101, x288_104, x288_106, x288_108, x288_110, x288_112, x288_115, x288_118, x288_119, x288_122, x288_124, x288_127, x288_129, ↓reduceIte, Bool.false_eq_true, Nat.reduceAdd, Nat.reduceLT, Nat.reduceLeDiff, Nat.reduceSub, Nat.reduceEqDiff, Int.reduceToNat, Int.reduceEq, Int.reduceLT, Int.reduceLE, Int.reduceAdd, Int.reduceSub, zg, zI, zJ, zR, zst, zkl, zn, zcat, zok, zraw, List.length_cons, List.length_nil, Option.toList, List.nil_append, List.cons_append, true_and, and_true, if_true, if_false, ne_eq, not_true, not_false_eq_true, and_self, true_or, or_true, false_or, or_false, false_and, and_false, b_138 hm, b2, r_138_80 hm, r_138_83 hm, x_194 hm i1 i2, x_197 hm i1 i2, Int.toNat_natCast, ea, el, p1', p2', w32_i l1 l2, w32_s w1]
              exact hk _ _ ⟨by rw [es], rfl⟩
      · rintro L μ1 ⟨rfl, rfl⟩
        have := hend (vi (N : Nat))
        rw [x288_33]
        simp only [x288_0, x288_1, x288_2, x288_3, x288_6, x288_9, x288_10, x288_11, x288_12, x288_14, x288_15, x288_17, x288_18, x288_22, x288_24, x288_27, x288_28, x288_30, x288_31, x288_35, x288_36, x288_39, x288_40, x288_42, x288_43, x288_46, x288_49, x288_50, x288_53, x288_55, x288_56, x288_58, x288_61, x288_62, x288_65, x288_66, x288_67, x288_70, x288_72, x288_73, x288_74, x288_77, x288_78, x288_81, x288_82, x288_85, x288_88, x288_91, x288_96, x288_98, x288_101, x288_104, x288_106, x288_108, x288_110, x288_112, x288_115, x288_118, x288_119, x288_122, x288_124, x288_127, x288_129, ↓reduceIte, Bool.false_eq_true, Nat.reduceAdd, Nat.reduceLT, Nat.reduceLeDiff, Nat.reduceSub, Nat.reduceEqDiff, Int.reduceToNat, Int.reduceEq, Int.reduceLT, Int.reduceLE, Int.reduceAdd, Int.reduceSub, zg, zI, zJ, zR, zst, zkl, zn, zcat, zok, zraw, List.length_cons, List.length_nil, Option.toList, List.nil_append, List.cons_append, true_and, and_true, if_true, if_false, ne_eq, not_true, not_false_eq_true, and_self, true_or, or_true, false_or, or_false, false_and, and_false, Int.le_refl]
        exact this
    have key : ∀ t L μ1, t ≤ 101 → (∃ y7 y8 : zV, L = [vr 138, vi (N : Nat), vi c, vi b, vi (dlO (sV σ) N c t).1, vi (dlO (sV σ) N c t).2, vi (t : Nat), y7, y8] ∧ μ1 = μ) → Ex D 288 20 L [] θ μ1 Q := by
      refine Ex_loop (I := fun t L μ1 => ∃ y7 y8 : zV, L = [vr 138, vi (N : Nat), vi c, vi b, vi (dlO (sV σ) N c t).1, vi (dlO (sV σ) N c t).2, vi (t : Nat), y7, y8] ∧ μ1 = μ) 101 ?_ ?_
      · rintro t L μ1 ht ⟨y7, y8, rfl, rfl⟩ hk
        have c1 : ¬ (100 : Int) < (t : Int) := by omega
        have w1 : t < 2147483647 := by omega
        have hdl : dlO (sV σ) N c (t + 1) = if (dlO (sV σ) N c t).2 < rbO (sV σ) N c (t : Nat) then (((t : Nat) : Int), rbO (sV σ) N c (t : Nat)) else dlO (sV σ) N c t := rfl
        have e94 : ∀ y8, Ex D 288 94 [vr 138, vi (N : Nat), vi c, vi b, vi (dlO (sV σ) N c t).1, vi (dlO (sV σ) N c t).2, vi (t : Nat), vi (rbO (sV σ) N c (t : Nat)), y8] [] θ μ1 Q := by
          intro y8
          by_cases p : (dlO (sV σ) N c t).2 < rbO (sV σ) N c (t : Nat)
          · have p' : ¬ rbO (sV σ) N c (t : Nat) ≤ (dlO (sV σ) N c t).2 := by omega
            rw [if_pos p] at hdl
            simp only [x288_0, x288_1, x288_2, x288_3, x288_6, x288_9, x288_10, x288_11, x288_12, x288_14, x288_15, x288_17, x288_18, x288_22, x288_24, x288_27, x288_28, x288_30, x288_31, x288_35, x288_36, x288_39, x288_40, x288_42, x288_43, x288_46, x288_49, x288_50, x288_53, x288_55, x288_56, x288_58, x288_61, x288_62, x288_65, x288_66, x288_67, x288_70, x288_72, x288_73, x288_74, x288_77, x288_78, x288_81, x288_82, x288_85, x288_88, x288_91, x288_94, x288_96, x288_98, x288_101, x288_104, x288_106, x288_108, x288_110, x288_112, x288_115, x288_118, x288_119, x288_122, x288_124, x288_127, x288_129, ↓reduceIte, Bool.false_eq_true, Nat.reduceAdd, Nat.reduceLT, Nat.reduceLeDiff, Nat.reduceSub, Nat.reduceEqDiff, Int.reduceToNat, Int.reduceEq, Int.reduceLT, Int.reduceLE, Int.reduceAdd, Int.reduceSub, zg, zI, zJ, zR, zst, zkl, zn, zcat, zok, zraw, List.length_cons, List.length_nil, Option.toList, List.nil_append, List.cons_append, true_and, and_true, if_true, if_false, ne_eq, not_true, not_false_eq_true, and_self, true_or, or_true, false_or, or_false, false_and, and_false, p, zkl, w32_s w1]
            exact hk _ _ ⟨_, _, by rw [hdl], rfl⟩
          · have p' : rbO (sV σ) N c (t : Nat) ≤ (dlO (sV σ) N c t).2 := by omega
            rw [if_neg p] at hdl
            simp only [x288_0, x288_1, x288_2, x288_3, x288_6, x288_9, x288_10, x288_11, x288_12, x288_14, x288_15, x288_17, x288_18, x288_22, x288_24, x288_27, x288_28, x288_30, x288_31, x288_35, x288_36, x288_39, x288_40, x288_42, x288_43, x288_46, x288_49, x288_50, x288_53, x288_55, x288_56, x288_58, x288_61, x288_62, x288_65, x288_66, x288_67, x288_70, x288_72, x288_73, x288_74, x288_77, x288_78, x288_81, x288_82, x288_85, x288_88, x288_91, x288_94, x288_96, x288_98, x288_101, x288_104, x288_106, x288_108, x288_110, x288_112, x288_115, x288_118, x288_119, x288_122, x288_124, x288_127, x288_129, ↓reduceIte, Bool.false_eq_true, Nat.reduceAdd, Nat.reduceLT, Nat.reduceLeDiff, Nat.reduceSub, Nat.reduceEqDiff, Int.reduceToNat, Int.reduceEq, Int.reduceLT, Int.reduceLE, Int.reduceAdd, Int.reduceSub, zg, zI, zJ, zR, zst, zkl, zn, zcat, zok, zraw, List.length_cons, List.length_nil, Option.toList, List.nil_append, List.cons_append, true_and, and_true, if_true, if_false, ne_eq, not_true, not_false_eq_true, and_self, true_or, or_true, false_or, or_false, false_and, and_false, p, zkl, w32_s w1]
            exact hk _ _ ⟨_, _, by rw [hdl], rfl⟩
        have := inner t (by omega) e94 0 _ _ (Nat.zero_le _) ⟨rfl, rfl⟩
        rw [x288_20]
        simp only [x288_0, x288_1, x288_2, x288_3, x288_6, x288_9, x288_10, x288_11, x288_12, x288_14, x288_15, x288_17, x288_18, x288_22, x288_24, x288_27, x288_28, x288_30, x288_31, x288_35, x288_36, x288_39, x288_40, x288_42, x288_43, x288_46, x288_49, x288_50, x288_53, x288_55, x288_56, x288_58, x288_61, x288_62, x288_65, x288_66, x288_67, x288_70, x288_72, x288_73, x288_74, x288_77, x288_78, x288_81, x288_82, x288_85, x288_88, x288_91, x288_94, x288_96, x288_98, x288_101, x288_104, x288_106, x288_108, x288_110, x288_112, x288_115, x288_118, x288_119, x288_122, x288_124, x288_127, x288_129, ↓reduceIte, Bool.false_eq_true, Nat.reduceAdd, Nat.reduceLT, Nat.reduceLeDiff, Nat.reduceSub, Nat.reduceEqDiff, Int.reduceToNat, Int.reduceEq, Int.reduceLT, Int.reduceLE, Int.reduceAdd, Int.reduceSub, zg, zI, zJ, zR, zst, zkl, zn, zcat, zok, zraw, List.length_cons, List.length_nil, Option.toList, List.nil_append, List.cons_append, true_and, and_true, if_true, if_false, ne_eq, not_true, not_false_eq_true, and_self, true_or, or_true, false_or, or_false, false_and, and_false, c1, zkl]
        exact this
      · rintro L μ1 ⟨y7, y8, rfl, rfl⟩
        rw [x288_20]
        rcases hb with rfl | rfl
        · rw [if_pos rfl] at hq
          simp only [x288_0, x288_1, x288_2, x288_3, x288_6, x288_9, x288_10, x288_11, x288_12, x288_14, x288_15, x288_17, x288_18, x288_22, x288_24, x288_27, x288_28, x288_30, x288_31, x288_35, x288_36, x288_39, x288_40, x288_42, x288_43, x288_46, x288_49, x288_50, x288_53, x288_55, x288_56, x288_58, x288_61, x288_62, x288_65, x288_66, x288_67, x288_70, x288_72, x288_73, x288_74, x288_77, x288_78, x288_81, x288_82, x288_85, x288_88, x288_91, x288_94, x288_96, x288_98, x288_101, x288_104, x288_106, x288_108, x288_110, x288_112, x288_115, x288_118, x288_119, x288_122, x288_124, x288_127, x288_129, ↓reduceIte, Bool.false_eq_true, Nat.reduceAdd, Nat.reduceLT, Nat.reduceLeDiff, Nat.reduceSub, Nat.reduceEqDiff, Int.reduceToNat, Int.reduceEq, Int.reduceLT, Int.reduceLE, Int.reduceAdd, Int.reduceSub, zg, zI, zJ, zR, zst, zkl, zn, zcat, zok, zraw, List.length_cons, List.length_nil, Option.toList, List.nil_append, List.cons_append, true_and, and_true, if_true, if_false, ne_eq, not_true, not_false_eq_true, and_self, true_or, or_true, false_or, or_false, false_and, and_false, show (100 : Int) < ((101 : Nat) : Int) by decide]
          exact hq
        · rw [if_neg (by decide)] at hq
          simp only [x288_0, x288_1, x288_2, x288_3, x288_6, x288_9, x288_10, x288_11, x288_12, x288_14, x288_15, x288_17, x288_18, x288_22, x288_24, x288_27, x288_28, x288_30, x288_31, x288_35, x288_36, x288_39, x288_40, x288_42, x288_43, x288_46, x288_49, x288_50, x288_53, x288_55, x288_56, x288_58, x288_61, x288_62, x288_65, x288_66, x288_67, x288_70, x288_72, x288_73, x288_74, x288_77, x288_78, x288_81, x288_82, x288_85, x288_88, x288_91, x288_94, x288_96, x288_98, x288_101, x288_104, x288_106, x288_108, x288_110, x288_112, x288_115, x288_118, x288_119, x288_122, x288_124, x288_127, x288_129, ↓reduceIte, Bool.false_eq_true, Nat.reduceAdd, Nat.reduceLT, Nat.reduceLeDiff, Nat.reduceSub, Nat.reduceEqDiff, Int.reduceToNat, Int.reduceEq, Int.reduceLT, Int.reduceLE, Int.reduceAdd, Int.reduceSub, zg, zI, zJ, zR, zst, zkl, zn, zcat, zok, zraw, List.length_cons, List.length_nil, Option.toList, List.nil_append, List.cons_append, true_and, and_true, if_true, if_false, ne_eq, not_true, not_false_eq_true, and_self, true_or, or_true, false_or, or_false, false_and, and_false, show (100 : Int) < ((101 : Nat) : Int) by decide]
          exact hq
    have := fun y7 y8 => key 0 _ _ (by omega) ⟨y7, y8, rfl, rfl⟩
    simp only [x288_0, x288_1, x288_2, x288_3, x288_6, x288_9, x288_10, x288_11, x288_12, x288_14, x288_15, x288_17, x288_18, x288_22, x288_24, x288_27, x288_28, x288_30, x288_31, x288_35, x288_36, x288_39, x288_40, x288_42, x288_43, x288_46, x288_49, x288_50, x288_53, x288_55, x288_56, x288_58, x288_61, x288_62, x288_65, x288_66, x288_67, x288_70, x288_72, x288_73, x288_74, x288_77, x288_78, x288_81, x288_82, x288_85, x288_88, x288_91, x288_94, x288_96, x288_98, x288_101, x288_104, x288_106, x288_108, x288_110, x288_112, x288_115, x288_118, x288_119, x288_122, x288_124, x288_127, x288_129, ↓reduceIte, Bool.false_eq_true, Nat.reduceAdd, Nat.reduceLT, Nat.reduceLeDiff, Nat.reduceSub, Nat.reduceEqDiff, Int.reduceToNat, Int.reduceEq, Int.reduceLT, Int.reduceLE, Int.reduceAdd, Int.reduceSub, zg, zI, zJ, zR, zst, zkl, zn, zcat, zok, zraw, List.length_cons, List.length_nil, Option.toList, List.nil_append, List.cons_append, true_and, and_true, if_true, if_false, ne_eq, not_true, not_false_eq_true, and_self, true_or, or_true, false_or, or_false, false_and, and_false, b_138 hm, hd0, eVill hd1 h, if_pos q0, zkl]
    exact this _ _
  · rw [if_neg q0] at hQ
    simp only [x288_0, x288_1, x288_2, x288_3, x288_6, x288_9, x288_10, x288_11, x288_12, x288_14, x288_15, x288_17, x288_18, x288_22, x288_24, x288_27, x288_28, x288_30, x288_31, x288_35, x288_36, x288_39, x288_40, x288_42, x288_43, x288_46, x288_49, x288_50, x288_53, x288_55, x288_56, x288_58, x288_61, x288_62, x288_65, x288_66, x288_67, x288_70, x288_72, x288_73, x288_74, x288_77, x288_78, x288_81, x288_82, x288_85, x288_88, x288_91, x288_94, x288_96, x288_98, x288_101, x288_104, x288_106, x288_108, x288_110, x288_112, x288_115, x288_118, x288_119, x288_122, x288_124, x288_127, x288_129, ↓reduceIte, Bool.false_eq_true, Nat.reduceAdd, Nat.reduceLT, Nat.reduceLeDiff, Nat.reduceSub, Nat.reduceEqDiff, Int.reduceToNat, Int.reduceEq, Int.reduceLT, Int.reduceLE, Int.reduceAdd, Int.reduceSub, zg, zI, zJ, zR, zst, zkl, zn, zcat, zok, zraw, List.length_cons, List.length_nil, Option.toList, List.nil_append, List.cons_append, true_and, and_true, if_true, if_false, ne_eq, not_true, not_false_eq_true, and_self, true_or, or_true, false_or, or_false, false_and, and_false, b_138 hm, hd0, eVill hd1 h, if_neg q0]
    exact hQ μ (fun _ _ => rfl) h
end VC
