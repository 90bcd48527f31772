/-! FACTS: ways, THE LINE (class) -/
def pkL (m : Int) : Nat → Int
  | 0 => 1
  | i + 1 => w64 ((w64 (pkL m i * (m + ((i + 1 : Nat) : Int)))).tdiv ((i + 1 : Nat) : Int))
def pkO (n k : Int) : Int := if k < 0 ∨ n < k then 0 else pkL (n - k) k.toNat
def wyO (t r u a : Int) : Nat → Int
  | 0 => 0
  | j + 1 => w64 (wyO t r u a j + w64 (pkO t (a + (j : Nat)) * pkO r (u - (a + (j : Nat)))))
def rbF (V : zV2) (n : Nat) (c x : Int) : Nat → Int := fun i => if knO V n i = true ∧ ((x ≤ V.2.1 i) ↔ (c ≤ V.2.2.2.2.1 i)) then 1 else 0
def rbO (V : zV2) (n : Nat) (c x : Int) : Int := sm (rbF V n c x) n
def dlO (V : zV2) (n : Nat) (c : Int) : Nat → Int × Int
  | 0 => (0, -1)
  | x + 1 => if (dlO V n c x).2 < rbO V n c (x : Nat) then ((x : Nat), rbO V n c (x : Nat)) else dlO V n c x
theorem rb_b {V : zV2} {n m : Nat} {c x : Int} : 0 ≤ sm (rbF V n c x) m ∧ sm (rbF V n c x) m ≤ m := by
  have ht : ∀ i, 0 ≤ rbF V n c x i ∧ rbF V n c x i ≤ 1 := fun i => by unfold rbF; by_cases h : knO V n i = true ∧ ((x ≤ V.2.1 i) ↔ (c ≤ V.2.2.2.2.1 i)); · rw [if_pos h]; omega
                                                                      · rw [if_neg h]; omega
  refine ⟨sm_nn (fun i _ => (ht i).1), ?_⟩
  have := sm_le (f := rbF V n c x) (n := m) (b := 1) (fun i _ => (ht i).2)
  omega
theorem w64_w (x : Int) : w64 (w64 x) = w64 x := by unfold w64; omega
theorem w64_0 : w64 0 = 0 := by decide
theorem wy_w {t r u a : Int} : ∀ j, w64 (wyO t r u a j) = wyO t r u a j := by
  intro j
  cases j with
  | zero => exact w64_0
  | succ j => exact w64_w _
theorem pk_0 {n k : Int} (h : k < 0 ∨ n < k) : pkO n k = 0 := if_pos h
theorem wy_stay {t r u a : Int} {j : Nat} (h : u < a + (j : Nat)) : ∀ k, wyO t r u a (j + k) = wyO t r u a j := by
  intro k
  induction k with
  | zero => rfl
  | succ k ih =>
    rw [← Nat.add_assoc, wyO, ih, pk_0 (n := r) (k := u - (a + ((j + k : Nat) : Int))) (Or.inl (by omega)), Int.mul_zero, w64_0, Int.add_zero, wy_w]
section VJ
variable {θ : zS} {T U : Nat} {τ : zT} {Q : Option zV → zS → zM → Prop} {μ : zM} {V : zV2}
theorem cChooseP {d : Nat} {n k : Int} {x2 x3 x4 : zV} (hn : 0 ≤ n ∧ n ≤ 60) (hk : -100 ≤ k ∧ k ≤ 100) (hQ : Q (some (vl (pkO n k))) θ μ) : Ex d 98 0 [vi n, vi k, x2, x3, x4] [] θ μ Q := by
  unfold pkO at hQ
  by_cases h1 : k < 0
  · rw [if_pos (Or.inl h1)] at hQ
    simp (disch := omega) only [x98_0, x98_1, x98_4, x98_5, x98_6, x98_9, x98_10, x98_11, x98_12, x98_13, x98_14, x98_18, x98_19, x98_22, x98_23, x98_24, x98_25, x98_26, x98_28, x98_29, x98_30, x98_31, x98_33, x98_34, x98_35, x98_36, x98_39, x98_42, x98_43, ↓reduceIte, Bool.false_eq_true, Nat.reduceAdd, Nat.reduceLT, Nat.reduceLeDiff, Nat.reduceSub, Nat.reduceEqDiff, Int.reduceToNat, Int.reduceEq, Int.reduceLT, Int.reduceLE, Int.reduceAdd, Int.reduceSub, zg, zI, zJ, zR, zst, zkl, zn, zcat, zok, zraw, List.length_cons, List.length_nil, Option.toList, List.nil_append, List.cons_append, true_and, and_true, if_true, if_false, ne_eq, not_true, not_false_eq_true, and_self, true_or, or_true, false_or, or_false, false_and, and_false, h1]
    exact hQ
  · by_cases h2 : n < k
    · rw [if_pos (Or.inr h2)] at hQ
      have h3 : ¬ k ≤ n := by omega
      simp (disch := omega) only [x98_0, x98_1, x98_4, x98_5, x98_6, x98_9, x98_10, x98_11, x98_12, x98_13, x98_14, x98_18, x98_19, x98_22, x98_23, x98_24, x98_25, x98_26, x98_28, x98_29, x98_30, x98_31, x98_33, x98_34, x98_35, x98_36, x98_39, x98_42, x98_43, ↓reduceIte, Bool.false_eq_true, Nat.reduceAdd, Nat.reduceLT, Nat.reduceLeDiff, Nat.reduceSub, Nat.reduceEqDiff, Int.reduceToNat, Int.reduceEq, Int.reduceLT, Int.reduceLE, Int.reduceAdd, Int.reduceSub, zg, zI, zJ, zR, zst, zkl, zn, zcat, zok, zraw, List.length_cons, List.length_nil, Option.toList, List.nil_append, List.cons_append, true_and, and_true, if_true, if_false, ne_eq, not_true, not_false_eq_true, and_self, true_or, or_true, false_or, or_false, false_and, and_false, h1, h3]
      exact hQ
    · rw [if_neg (by omega)] at hQ
      have h3 : k ≤ n := by omega
      obtain ⟨K, hK⟩ : ∃ K : Nat, k = (K : Int) := ⟨k.toNat, by omega⟩
      subst hK
      rw [Int.toNat_natCast] at hQ
      have key : ∀ t L μ1, t ≤ K → (∃ y3, L = [vi n, vi (K : Nat), vl (pkL (n - K) t), y3, vi ((t + 1 : Nat) : Int)] ∧ μ1 = μ) → Ex d 98 16 L [] θ μ1 Q := by
        refine Ex_loop (I := fun t L μ1 => ∃ y3, L = [vi n, vi (K : Nat), vl (pkL (n - K) t), y3, vi ((t + 1 : Nat) : Int)] ∧ μ1 = μ) K ?_ ?_
        · rintro t L μ1 ht ⟨y3, rfl, rfl⟩ hkk
          have i1 : ¬ ((K : Int) < ((t + 1 : Nat) : Int)) := by omega
          have a1 : w32 (n - (K : Int)) = n - (K : Int) := w32_i (by omega) (by omega)
          have a2 : w32 (n - (K : Int) + ((t + 1 : Nat) : Int)) = n - (K : Int) + ((t + 1 : Nat) : Int) := w32_i (by omega) (by omega)
          have a3 : ¬ (((t + 1 : Nat) : Int) = 0) := by omega
          rw [x98_16]
          simp (disch := omega) only [x98_0, x98_1, x98_4, x98_5, x98_6, x98_9, x98_10, x98_11, x98_12, x98_13, x98_14, x98_18, x98_19, x98_22, x98_23, x98_24, x98_25, x98_26, x98_28, x98_29, x98_30, x98_31, x98_33, x98_34, x98_35, x98_36, x98_39, x98_42, x98_43, ↓reduceIte, Bool.false_eq_true, Nat.reduceAdd, Nat.reduceLT, Nat.reduceLeDiff, Nat.reduceSub, Nat.reduceEqDiff, Int.reduceToNat, Int.reduceEq, Int.reduceLT, Int.reduceLE, Int.reduceAdd, Int.reduceSub, zg, zI, zJ, zR, zst, zkl, zn, zcat, zok, zraw, List.length_cons, List.length_nil, Option.toList, List.nil_append, List.cons_append, true_and, and_true, if_true, if_false, ne_eq, not_true, not_false_eq_true, and_self, true_or, or_true, false_or, or_false, false_and, and_false, i1, a1, a2, a3, w32_s]
          exact hkk _ _ ⟨_, rfl, rfl⟩
        · rintro L μ1 ⟨y3, rfl, rfl⟩
          have i1 : ((K : Int) < ((K + 1 : Nat) : Int)) := by omega
          rw [x98_16]
          simp (disch := omega) only [x98_0, x98_1, x98_4, x98_5, x98_6, x98_9, x98_10, x98_11, x98_12, x98_13, x98_14, x98_18, x98_19, x98_22, x98_23, x98_24, x98_25, x98_26, x98_28, x98_29, x98_30, x98_31, x98_33, x98_34, x98_35, x98_36, x98_39, x98_42, x98_43, ↓reduceIte, Bool.false_eq_true, Nat.reduceAdd, Nat.reduceLT, Nat.reduceLeDiff, Nat.reduceSub, Nat.reduceEqDiff, Int.reduceToNat, Int.reduceEq, Int.reduceLT, Int.reduceLE, Int.reduceAdd, Int.reduceSub, zg, zI, zJ, zR, zst, zkl, zn, zcat, zok, zraw, List.length_cons, List.length_nil, Option.toList, List.nil_append, List.cons_append, true_and, and_true, if_true, if_false, ne_eq, not_true, not_false_eq_true, and_self, true_or, or_true, false_or, or_false, false_and, and_false, i1]
          exact hQ
      simp (disch := omega) only [x98_0, x98_1, x98_4, x98_5, x98_6, x98_9, x98_10, x98_11, x98_12, x98_13, x98_14, x98_18, x98_19, x98_22, x98_23, x98_24, x98_25, x98_26, x98_28, x98_29, x98_30, x98_31, x98_33, x98_34, x98_35, x98_36, x98_39, x98_42, x98_43, ↓reduceIte, Bool.false_eq_true, Nat.reduceAdd, Nat.reduceLT, Nat.reduceLeDiff, Nat.reduceSub, Nat.reduceEqDiff, Int.reduceToNat, Int.reduceEq, Int.reduceLT, Int.reduceLE, Int.reduceAdd, Int.reduceSub, zg, zI, zJ, zR, zst, zkl, zn, zcat, zok, zraw, List.length_cons, List.length_nil, Option.toList, List.nil_append, List.cons_append, true_and, and_true, if_true, if_false, ne_eq, not_true, not_false_eq_true, and_self, true_or, or_true, false_or, or_false, false_and, and_false, h1, h3]
      exact key 0 _ μ (by omega) ⟨_, rfl, rfl⟩
theorem cWays {d : Nat} {x1 x2 x3 : zV} {m u t a : Int} (hc : Tc θ) (hd : 1 ≤ d) (hm : 0 ≤ m ∧ m ≤ 60) (hu : 0 ≤ u ∧ u ≤ m) (ht : 0 ≤ t ∧ t ≤ m) (ha : 0 ≤ a ∧ a ≤ t) (e1 : μ 131 1 = m) (e2 : μ 131 2 = u) (e3 : μ 131 3 = t) (e4 : μ 131 4 = a)
    (hQ : Q (some (vl (wyO t (m - t) u a (t - a + 1).toNat))) θ μ) : Ex d 97 0 [vr 131, x1, x2, x3] [] θ μ Q := by
  have hd0 : 0 < d := by omega
  obtain ⟨N, hN⟩ : ∃ N : Nat, (t - a + 1).toNat = N := ⟨_, rfl⟩
  rw [hN] at hQ
  have key : ∀ j L μ1, j ≤ N → (∃ y2, L = [vr 131, vl (wyO t (m - t) u a j), y2, vi (a + (j : Nat))] ∧ μ1 = μ) → Ex d 97 7 L [] θ μ1 Q := by
    refine Ex_loop (I := fun j L μ1 => ∃ y2, L = [vr 131, vl (wyO t (m - t) u a j), y2, vi (a + (j : Nat))] ∧ μ1 = μ) N ?_ ?_
    · rintro j L μ1 hj ⟨y2, rfl, rfl⟩ hk
      have i1 : ¬ (t < a + (j : Int)) := by omega
      rw [x97_7]
      by_cases h2 : u < a + (j : Int)
      · simp (disch := omega) only [x97_0, x97_1, x97_2, x97_3, x97_6, x97_8, x97_9, x97_12, x97_15, x97_16, x97_17, x97_20, x97_23, x97_24, x97_25, x97_28, x97_29, x97_32, x97_33, x97_36, x97_37, x97_40, x97_41, x97_42, x97_45, x97_46, x97_47, x97_50, x97_51, x97_52, x97_53, x97_56, x97_59, x97_60, ↓reduceIte, Bool.false_eq_true, Nat.reduceAdd, Nat.reduceLT, Nat.reduceLeDiff, Nat.reduceSub, Nat.reduceEqDiff, Int.reduceToNat, Int.reduceEq, Int.reduceLT, Int.reduceLE, Int.reduceAdd, Int.reduceSub, zg, zI, zJ, zR, zst, zkl, zn, zcat, zok, zraw, List.length_cons, List.length_nil, Option.toList, List.nil_append, List.cons_append, true_and, and_true, if_true, if_false, ne_eq, not_true, not_false_eq_true, and_self, true_or, or_true, false_or, or_false, false_and, and_false, b_2 hc, b_3 hc, b_9 hc, b_12 hc, b_26 hc, b_40 hc, b_46 hc, b_47 hc, b_60 hc, b_62 hc, b_63 hc, b_76 hc, b_77 hc, b_90 hc, b_91 hc, b_104 hc, b_107 hc, b_114 hc, b_115 hc, b_122 hc, b_123 hc, b_131 hc, e2, e3, i1, h2]
        have := wy_stay (t := t) (r := m - t) h2 (N - j)
        rw [show j + (N - j) = N by omega] at this
        rw [this] at hQ
        exact hQ
      · have a1 : w32 (m - t) = m - t := w32_i (by omega) (by omega)
        have a2 : w32 (u - (a + (j : Int))) = u - (a + (j : Int)) := w32_i (by omega) (by omega)
        have a3 : w32 (a + (j : Int) + 1) = a + ((j + 1 : Nat) : Int) := by unfold w32; omega
        simp (disch := omega) only [x97_0, x97_1, x97_2, x97_3, x97_6, x97_8, x97_9, x97_12, x97_15, x97_16, x97_17, x97_20, x97_23, x97_24, x97_25, x97_28, x97_29, x97_32, x97_33, x97_36, x97_37, x97_40, x97_41, x97_42, x97_45, x97_46, x97_47, x97_50, x97_51, x97_52, x97_53, x97_56, x97_59, x97_60, ↓reduceIte, Bool.false_eq_true, Nat.reduceAdd, Nat.reduceLT, Nat.reduceLeDiff, Nat.reduceSub, Nat.reduceEqDiff, Int.reduceToNat, Int.reduceEq, Int.reduceLT, Int.reduceLE, Int.reduceAdd, Int.reduceSub, zg, zI, zJ, zR, zst, zkl, zn, zcat, zok, zraw, List.length_cons, List.length_nil, Option.toList, List.nil_append, List.cons_append, true_and, and_true, if_true, if_false, ne_eq, not_true, not_false_eq_true, and_self, true_or, or_true, false_or, or_false, false_and, and_false, b_2 hc, b_3 hc, b_9 hc, b_12 hc, b_26 hc, b_40 hc, b_46 hc, b_47 hc, b_60 hc, b_62 hc, b_63 hc, b_76 hc, b_77 hc, b_90 hc, b_91 hc, b_104 hc, b_107 hc, b_114 hc, b_115 hc, b_122 hc, b_123 hc, b_131 hc, e1, e2, e3, i1, h2, hd0]
        refine cChooseP (by omega) (by omega) ?_
        simp (disch := omega) only [x97_0, x97_1, x97_2, x97_3, x97_6, x97_8, x97_9, x97_12, x97_15, x97_16, x97_17, x97_20, x97_23, x97_24, x97_25, x97_28, x97_29, x97_32, x97_33, x97_36, x97_37, x97_40, x97_41, x97_42, x97_45, x97_46, x97_47, x97_50, x97_51, x97_52, x97_53, x97_56, x97_59, x97_60, ↓reduceIte, Bool.false_eq_true, Nat.reduceAdd, Nat.reduceLT, Nat.reduceLeDiff, Nat.reduceSub, Nat.reduceEqDiff, Int.reduceToNat, Int.reduceEq, Int.reduceLT, Int.reduceLE, Int.reduceAdd, Int.reduceSub, zg, zI, zJ, zR, zst, zkl, zn, zcat, zok, zraw, List.length_cons, List.length_nil, Option.toList, List.nil_append, List.cons_append, true_and, and_true, if_true, if_false, ne_eq, not_true, not_false_eq_true, and_self, true_or, or_true, false_or, or_false, false_and, and_false, b_2 hc, b_3 hc, b_9 hc, b_12 hc, b_26 hc, b_40 hc, b_46 hc, b_47 hc, b_60 hc, b_62 hc, b_63 hc, b_76 hc, b_77 hc, b_90 hc, b_91 hc, b_104 hc, b_107 hc, b_114 hc, b_115 hc, b_122 hc, b_123 hc, b_131 hc, e1, e2, e3, hd0, a1, a2]
        refine cChooseP (by omega) (by omega) ?_
        simp (disch := omega) only [x97_0, x97_1, x97_2, x97_3, x97_6, x97_8, x97_9, x97_12, x97_15, x97_16, x97_17, x97_20, x97_23, x97_24, x97_25, x97_28, x97_29, x97_32, x97_33, x97_36, x97_37, x97_40, x97_41, x97_42, x97_45, x97_46, x97_47, x97_50, x97_51, x97_52, x97_53, x97_56, x97_59, x97_60, ↓reduceIte, Bool.false_eq_true, Nat.reduceAdd, Nat.reduceLT, Nat.reduceLeDiff, Nat.reduceSub, Nat.reduceEqDiff, Int.reduceToNat, Int.reduceEq, Int.reduceLT, Int.reduceLE, Int.reduceAdd, Int.reduceSub, zg, zI, zJ, zR, zst, zkl, zn, zcat, zok, zraw, List.length_cons, List.length_nil, Option.toList, List.nil_append, List.cons_append, true_and, and_true, if_true, if_false, ne_eq, not_true, not_false_eq_true, and_self, true_or, or_true, false_or, or_false, false_and, and_false, b_2 hc, b_3 hc, b_9 hc, b_12 hc, b_26 hc, b_40 hc, b_46 hc, b_47 hc, b_60 hc, b_62 hc, b_63 hc, b_76 hc, b_77 hc, b_90 hc, b_91 hc, b_104 hc, b_107 hc, b_114 hc, b_115 hc, b_122 hc, b_123 hc, b_131 hc, a3]
        exact hk _ _ ⟨_, rfl, rfl⟩
    · rintro L μ1 ⟨y2, rfl, rfl⟩
      have i1 : (t < a + (N : Int)) := by omega
      rw [x97_7]
      simp (disch := omega) only [x97_0, x97_1, x97_2, x97_3, x97_6, x97_8, x97_9, x97_12, x97_15, x97_16, x97_17, x97_20, x97_23, x97_24, x97_25, x97_28, x97_29, x97_32, x97_33, x97_36, x97_37, x97_40, x97_41, x97_42, x97_45, x97_46, x97_47, x97_50, x97_51, x97_52, x97_53, x97_56, x97_59, x97_60, ↓reduceIte, Bool.false_eq_true, Nat.reduceAdd, Nat.reduceLT, Nat.reduceLeDiff, Nat.reduceSub, Nat.reduceEqDiff, Int.reduceToNat, Int.reduceEq, Int.reduceLT, Int.reduceLE, Int.reduceAdd, Int.reduceSub, zg, zI, zJ, zR, zst, zkl, zn, zcat, zok, zraw, List.length_cons, List.length_nil, Option.toList, List.nil_append, List.cons_append, true_and, and_true, if_true, if_false, ne_eq, not_true, not_false_eq_true, and_self, true_or, or_true, false_or, or_false, false_and, and_false, b_2 hc, b_3 hc, b_9 hc, b_12 hc, b_26 hc, b_40 hc, b_46 hc, b_47 hc, b_60 hc, b_62 hc, b_63 hc, b_76 hc, b_77 hc, b_90 hc, b_91 hc, b_104 hc, b_107 hc, b_114 hc, b_115 hc, b_122 hc, b_123 hc, b_131 hc, e3, i1]
      exact hQ
  simp (disch := omega) only [x97_0, x97_1, x97_2, x97_3, x97_6, x97_8, x97_9, x97_12, x97_15, x97_16, x97_17, x97_20, x97_23, x97_24, x97_25, x97_28, x97_29, x97_32, x97_33, x97_36, x97_37, x97_40, x97_41, x97_42, x97_45, x97_46, x97_47, x97_50, x97_51, x97_52, x97_53, x97_56, x97_59, x97_60, ↓reduceIte, Bool.false_eq_true, Nat.reduceAdd, Nat.reduceLT, Nat.reduceLeDiff, Nat.reduceSub, Nat.reduceEqDiff, Int.reduceToNat, Int.reduceEq, Int.reduceLT, Int.reduceLE, Int.reduceAdd, Int.reduceSub, zg, zI, zJ, zR, zst, zkl, zn, zcat, zok, zraw, List.length_cons, List.length_nil, Option.toList, List.nil_append, List.cons_append, true_and, and_true, if_true, if_false, ne_eq, not_true, not_false_eq_true, and_self, true_or, or_true, false_or, or_false, false_and, and_false, b_2 hc, b_3 hc, b_9 hc, b_12 hc, b_26 hc, b_40 hc, b_46 hc, b_47 hc, b_60 hc, b_62 hc, b_63 hc, b_76 hc, b_77 hc, b_90 hc, b_91 hc, b_104 hc, b_107 hc, b_114 hc, b_115 hc, b_122 hc, b_123 hc, b_131 hc, e4]
  exact key 0 _ μ (by omega) ⟨vU, by simp [wyO], rfl⟩
theorem cRight {d n : Nat} {x xn c : Int} {x4 x5 : zV} (hc : Tc θ) (hV : wfV V) (hC : CV V μ) (hx : xn = (n : Int)) (hn : n ≤ V.1) (hkn : ∀ i, i < n → μ 137 i = b2 (knO V n i)) (hQ : Q (some (vi (rbO V n c x))) θ μ) : Ex d 100 0 [vr 131, vi x, vi xn, vi c, x4, x5] [] θ μ Q := by
  subst hx
  have h60 := hV.1
  have key : ∀ t L μ1, t ≤ n → (L = [vr 131, vi x, vi (n : Nat), vi c, vi (sm (rbF V n c x) t), vi (t : Nat)] ∧ μ1 = μ) → Ex d 100 6 L [] θ μ1 Q := by
    refine Ex_loop (I := fun t L μ1 => L = [vr 131, vi x, vi (n : Nat), vi c, vi (sm (rbF V n c x) t), vi (t : Nat)] ∧ μ1 = μ) n ?_ ?_
    · rintro t L μ1 ht ⟨rfl, rfl⟩ hk
      have i1 : ¬ ((n : Int) ≤ (t : Int)) := by omega
      have ek := hkn t ht
      have hb := rb_b (V := V) (n := n) (c := c) (x := x) (m := t)
      have a1 : w32 (sm (rbF V n c x) t + 1) = sm (rbF V n c x) t + 1 := w32_i (by omega) (by omega)
      have hst : sm (rbF V n c x) (t + 1) = sm (rbF V n c x) t + rbF V n c x t := rfl
      rw [x100_6]
      by_cases hkt : knO V n t = true
      · have ek1 : μ1 137 t = 1 := by rw [ek, hkt]; rfl
        obtain ⟨ev, eh⟩ := hC.2 t (by omega)
        obtain ⟨g1, g2, g3, g4⟩ := eh (kn_iff.mp hkt).1
        by_cases p : x ≤ V.2.1 t
        · have p' : ¬ V.2.1 t < x := by omega
          by_cases q : c ≤ V.2.2.2.2.1 t
          · have q' : ¬ V.2.2.2.2.1 t < c := by omega
            have hr : rbF V n c x t = 1 := if_pos ⟨hkt, ⟨fun _ => q, fun _ => p⟩⟩
            simp (disch := omega) only [x100_0, x100_1, x100_3, x100_4, x100_8, x100_9, x100_12, x100_13, x100_16, x100_18, x100_19, x100_20, x100_23, x100_24, x100_27, x100_29, x100_30, x100_31, x100_34, x100_35, x100_38, x100_39, x100_40, x100_43, x100_45, x100_46, x100_47, x100_50, x100_51, x100_54, x100_55, x100_58, x100_61, x100_64, x100_67, x100_69, ↓reduceIte, Bool.false_eq_true, Nat.reduceAdd, Nat.reduceLT, Nat.reduceLeDiff, Nat.reduceSub, Nat.reduceEqDiff, Int.reduceToNat, Int.reduceEq, Int.reduceLT, Int.reduceLE, Int.reduceAdd, Int.reduceSub, zg, zI, zJ, zR, zst, zkl, zn, zcat, zok, zraw, List.length_cons, List.length_nil, Option.toList, List.nil_append, List.cons_append, true_and, and_true, if_true, if_false, ne_eq, not_true, not_false_eq_true, and_self, true_or, or_true, false_or, or_false, false_and, and_false, b_2 hc, b_3 hc, b_9 hc, b_12 hc, b_26 hc, b_40 hc, b_46 hc, b_47 hc, b_60 hc, b_62 hc, b_63 hc, b_76 hc, b_77 hc, b_90 hc, b_91 hc, b_104 hc, b_107 hc, b_114 hc, b_115 hc, b_122 hc, b_123 hc, b_131 hc, b_131 hc, r_131_7 hc, x_132 hc, r_131_8 hc, x_133 hc, r_131_9 hc, x_134 hc, r_131_10 hc, x_135 hc, r_131_11 hc, x_136 hc, r_131_12 hc, x_137 hc, i1, ek1, g1, g4, p', q', a1, Int.toNat_natCast, w32_s]
            exact hk _ _ ⟨by rw [hst, hr], rfl⟩
          · have q' : V.2.2.2.2.1 t < c := by omega
            have hr : rbF V n c x t = 0 := if_neg (fun hh => q (hh.2.mp p))
            simp (disch := omega) only [x100_0, x100_1, x100_3, x100_4, x100_8, x100_9, x100_12, x100_13, x100_16, x100_18, x100_19, x100_20, x100_23, x100_24, x100_27, x100_29, x100_30, x100_31, x100_34, x100_35, x100_38, x100_39, x100_40, x100_43, x100_45, x100_46, x100_47, x100_50, x100_51, x100_54, x100_55, x100_58, x100_61, x100_64, x100_67, x100_69, ↓reduceIte, Bool.false_eq_true, Nat.reduceAdd, Nat.reduceLT, Nat.reduceLeDiff, Nat.reduceSub, Nat.reduceEqDiff, Int.reduceToNat, Int.reduceEq, Int.reduceLT, Int.reduceLE, Int.reduceAdd, Int.reduceSub, zg, zI, zJ, zR, zst, zkl, zn, zcat, zok, zraw, List.length_cons, List.length_nil, Option.toList, List.nil_append, List.cons_append, true_and, and_true, if_true, if_false, ne_eq, not_true, not_false_eq_true, and_self, true_or, or_true, false_or, or_false, false_and, and_false, b_2 hc, b_3 hc, b_9 hc, b_12 hc, b_26 hc, b_40 hc, b_46 hc, b_47 hc, b_60 hc, b_62 hc, b_63 hc, b_76 hc, b_77 hc, b_90 hc, b_91 hc, b_104 hc, b_107 hc, b_114 hc, b_115 hc, b_122 hc, b_123 hc, b_131 hc, b_131 hc, r_131_7 hc, x_132 hc, r_131_8 hc, x_133 hc, r_131_9 hc, x_134 hc, r_131_10 hc, x_135 hc, r_131_11 hc, x_136 hc, r_131_12 hc, x_137 hc, i1, ek1, g1, g4, p', q', Int.toNat_natCast, w32_s]
            exact hk _ _ ⟨by rw [hst, hr, Int.add_zero], rfl⟩
        · have p' : V.2.1 t < x := by omega
          by_cases q : c ≤ V.2.2.2.2.1 t
          · have q' : ¬ V.2.2.2.2.1 t < c := by omega
            have hr : rbF V n c x t = 0 := if_neg (fun hh => p (hh.2.mpr q))
            simp (disch := omega) only [x100_0, x100_1, x100_3, x100_4, x100_8, x100_9, x100_12, x100_13, x100_16, x100_18, x100_19, x100_20, x100_23, x100_24, x100_27, x100_29, x100_30, x100_31, x100_34, x100_35, x100_38, x100_39, x100_40, x100_43, x100_45, x100_46, x100_47, x100_50, x100_51, x100_54, x100_55, x100_58, x100_61, x100_64, x100_67, x100_69, ↓reduceIte, Bool.false_eq_true, Nat.reduceAdd, Nat.reduceLT, Nat.reduceLeDiff, Nat.reduceSub, Nat.reduceEqDiff, Int.reduceToNat, Int.reduceEq, Int.reduceLT, Int.reduceLE, Int.reduceAdd, Int.reduceSub, zg, zI, zJ, zR, zst, zkl, zn, zcat, zok, zraw, List.length_cons, List.length_nil, Option.toList, List.nil_append, List.cons_append, true_and, and_true, if_true, if_false, ne_eq, not_true, not_false_eq_true, and_self, true_or, or_true, false_or, or_false, false_and, and_false, b_2 hc, b_3 hc, b_9 hc, b_12 hc, b_26 hc, b_40 hc, b_46 hc, b_47 hc, b_60 hc, b_62 hc, b_63 hc, b_76 hc, b_77 hc, b_90 hc, b_91 hc, b_104 hc, b_107 hc, b_114 hc, b_115 hc, b_122 hc, b_123 hc, b_131 hc, b_131 hc, r_131_7 hc, x_132 hc, r_131_8 hc, x_133 hc, r_131_9 hc, x_134 hc, r_131_10 hc, x_135 hc, r_131_11 hc, x_136 hc, r_131_12 hc, x_137 hc, i1, ek1, g1, g4, p', q', Int.toNat_natCast, w32_s]
            exact hk _ _ ⟨by rw [hst, hr, Int.add_zero], rfl⟩
          · have q' : V.2.2.2.2.1 t < c := by omega
            have hr : rbF V n c x t = 1 := if_pos ⟨hkt, ⟨fun hh => absurd hh p, fun hh => absurd hh q⟩⟩
            simp (disch := omega) only [x100_0, x100_1, x100_3, x100_4, x100_8, x100_9, x100_12, x100_13, x100_16, x100_18, x100_19, x100_20, x100_23, x100_24, x100_27, x100_29, x100_30, x100_31, x100_34, x100_35, x100_38, x100_39, x100_40, x100_43, x100_45, x100_46, x100_47, x100_50, x100_51, x100_54, x100_55, x100_58, x100_61, x100_64, x100_67, x100_69, ↓reduceIte, Bool.false_eq_true, Nat.reduceAdd, Nat.reduceLT, Nat.reduceLeDiff, Nat.reduceSub, Nat.reduceEqDiff, Int.reduceToNat, Int.reduceEq, Int.reduceLT, Int.reduceLE, Int.reduceAdd, Int.reduceSub, zg, zI, zJ, zR, zst, zkl, zn, zcat, zok, zraw, List.length_cons, List.length_nil, Option.toList, List.nil_append, List.cons_append, true_and, and_true, if_true, if_false, ne_eq, not_true, not_false_eq_true, and_self, true_or, or_true, false_or, or_false, false_and, and_false, b_2 hc, b_3 hc, b_9 hc, b_12 hc, b_26 hc, b_40 hc, b_46 hc, b_47 hc, b_60 hc, b_62 hc, b_63 hc, b_76 hc, b_77 hc, b_90 hc, b_91 hc, b_104 hc, b_107 hc, b_114 hc, b_115 hc, b_122 hc, b_123 hc, b_131 hc, b_131 hc, r_131_7 hc, x_132 hc, r_131_8 hc, x_133 hc, r_131_9 hc, x_134 hc, r_131_10 hc, x_135 hc, r_131_11 hc, x_136 hc, r_131_12 hc, x_137 hc, i1, ek1, g1, g4, p', q', a1, Int.toNat_natCast, w32_s]
            exact hk _ _ ⟨by rw [hst, hr], rfl⟩
      · have ek0 : μ1 137 t = 0 := by
          rw [ek]
          cases hk0 : knO V n t with
          | true => exact absurd hk0 hkt
          | false => rfl
        have hr : rbF V n c x t = 0 := if_neg (fun hh => hkt hh.1)
        simp (disch := omega) only [x100_0, x100_1, x100_3, x100_4, x100_8, x100_9, x100_12, x100_13, x100_16, x100_18, x100_19, x100_20, x100_23, x100_24, x100_27, x100_29, x100_30, x100_31, x100_34, x100_35, x100_38, x100_39, x100_40, x100_43, x100_45, x100_46, x100_47, x100_50, x100_51, x100_54, x100_55, x100_58, x100_61, x100_64, x100_67, x100_69, ↓reduceIte, Bool.false_eq_true, Nat.reduceAdd, Nat.reduceLT, Nat.reduceLeDiff, Nat.reduceSub, Nat.reduceEqDiff, Int.reduceToNat, Int.reduceEq, Int.reduceLT, Int.reduceLE, Int.reduceAdd, Int.reduceSub, zg, zI, zJ, zR, zst, zkl, zn, zcat, zok, zraw, List.length_cons, List.length_nil, Option.toList, List.nil_append, List.cons_append, true_and, and_true, if_true, if_false, ne_eq, not_true, not_false_eq_true, and_self, true_or, or_true, false_or, or_false, false_and, and_false, b_2 hc, b_3 hc, b_9 hc, b_12 hc, b_26 hc, b_40 hc, b_46 hc, b_47 hc, b_60 hc, b_62 hc, b_63 hc, b_76 hc, b_77 hc, b_90 hc, b_91 hc, b_104 hc, b_107 hc, b_114 hc, b_115 hc, b_122 hc, b_123 hc, b_131 hc, b_131 hc, r_131_7 hc, x_132 hc, r_131_8 hc, x_133 hc, r_131_9 hc, x_134 hc, r_131_10 hc, x_135 hc, r_131_11 hc, x_136 hc, r_131_12 hc, x_137 hc, i1, ek0, Int.toNat_natCast, w32_s]
        exact hk _ _ ⟨by rw [hst, hr, Int.add_zero], rfl⟩
    · rintro L μ1 ⟨rfl, rfl⟩
      rw [x100_6]
      simp (disch := omega) only [x100_0, x100_1, x100_3, x100_4, x100_8, x100_9, x100_12, x100_13, x100_16, x100_18, x100_19, x100_20, x100_23, x100_24, x100_27, x100_29, x100_30, x100_31, x100_34, x100_35, x100_38, x100_39, x100_40, x100_43, x100_45, x100_46, x100_47, x100_50, x100_51, x100_54, x100_55, x100_58, x100_61, x100_64, x100_67, x100_69, ↓reduceIte, Bool.false_eq_true, Nat.reduceAdd, Nat.reduceLT, Nat.reduceLeDiff, Nat.reduceSub, Nat.reduceEqDiff, Int.reduceToNat, Int.reduceEq, Int.reduceLT, Int.reduceLE, Int.reduceAdd, Int.reduceSub, zg, zI, zJ, zR, zst, zkl, zn, zcat, zok, zraw, List.length_cons, List.length_nil, Option.toList, List.nil_append, List.cons_append, true_and, and_true, if_true, if_false, ne_eq, not_true, not_false_eq_true, and_self, true_or, or_true, false_or, or_false, false_and, and_false, b_2 hc, b_3 hc, b_9 hc, b_12 hc, b_26 hc, b_40 hc, b_46 hc, b_47 hc, b_60 hc, b_62 hc, b_63 hc, b_76 hc, b_77 hc, b_90 hc, b_91 hc, b_104 hc, b_107 hc, b_114 hc, b_115 hc, b_122 hc, b_123 hc, b_131 hc, Int.le_refl]
      exact hQ
  simp (disch := omega) only [x100_0, x100_1, x100_3, x100_4, x100_8, x100_9, x100_12, x100_13, x100_16, x100_18, x100_19, x100_20, x100_23, x100_24, x100_27, x100_29, x100_30, x100_31, x100_34, x100_35, x100_38, x100_39, x100_40, x100_43, x100_45, x100_46, x100_47, x100_50, x100_51, x100_54, x100_55, x100_58, x100_61, x100_64, x100_67, x100_69, ↓reduceIte, Bool.false_eq_true, Nat.reduceAdd, Nat.reduceLT, Nat.reduceLeDiff, Nat.reduceSub, Nat.reduceEqDiff, Int.reduceToNat, Int.reduceEq, Int.reduceLT, Int.reduceLE, Int.reduceAdd, Int.reduceSub, zg, zI, zJ, zR, zst, zkl, zn, zcat, zok, zraw, List.length_cons, List.length_nil, Option.toList, List.nil_append, List.cons_append, true_and, and_true, if_true, if_false, ne_eq, not_true, not_false_eq_true, and_self, true_or, or_true, false_or, or_false, false_and, and_false, b_2 hc, b_3 hc, b_9 hc, b_12 hc, b_26 hc, b_40 hc, b_46 hc, b_47 hc, b_60 hc, b_62 hc, b_63 hc, b_76 hc, b_77 hc, b_90 hc, b_91 hc, b_104 hc, b_107 hc, b_114 hc, b_115 hc, b_122 hc, b_123 hc, b_131 hc]
  exact key 0 _ μ (by omega) ⟨rfl, rfl⟩
theorem cLine {d n : Nat} {xn c : Int} {x3 x4 : zV} (hc : Tc θ) (hV : wfV V) (hC : CV V μ) (hd : 3 ≤ d) (hx : xn = (n : Int)) (hn : n ≤ V.1)
    (hQ : ∀ μ', Fr [131, 137] μ μ' → μ' 131 0 = μ 131 0 → μ' 131 5 = (dlO V n c 101).1 → μ' 131 6 = (dlO V n c 101).2 → Q none θ μ') : Ex d 99 0 [vr 131, vi xn, vi c, x3, x4] [] θ μ Q := by
  subst hx
  have hd0 : 0 < d := by omega
  have key : ∀ t L μ1, t ≤ 101 → (∃ x4, L = [vr 131, vi (n : Nat), vi c, vi (t : Nat), x4] ∧ Fr [131, 137] μ μ1 ∧ μ1 131 0 = μ 131 0 ∧ (∀ i, i < n → μ1 137 i = b2 (knO V n i)) ∧ (μ1 131 5 = (dlO V n c t).1 ∨ t = 0) ∧ μ1 131 6 = (dlO V n c t).2) → Ex d 99 12 L [] θ μ1 Q := by
    refine Ex_loop (I := fun t L μ1 => ∃ x4, L = [vr 131, vi (n : Nat), vi c, vi (t : Nat), x4] ∧ Fr [131, 137] μ μ1 ∧ μ1 131 0 = μ 131 0 ∧ (∀ i, i < n → μ1 137 i = b2 (knO V n i)) ∧ (μ1 131 5 = (dlO V n c t).1 ∨ t = 0) ∧ μ1 131 6 = (dlO V n c t).2) 101 ?_ ?_
    · rintro t L μ1 ht ⟨x4, rfl, hf, h0, hkn, e5, e6⟩ hk
      have i1 : ¬ ((100 : Int) < (t : Int)) := by omega
      have C1 : CV V μ1 := CV_fr hC hf (by decide) h0
      have hst : dlO V n c (t + 1) = if (dlO V n c t).2 < rbO V n c (t : Nat) then (((t : Nat) : Int), rbO V n c (t : Nat)) else dlO V n c t := rfl
      rw [x99_12]
      simp (disch := omega) only [x99_0, x99_1, x99_2, x99_5, x99_6, x99_7, x99_10, x99_11, x99_13, x99_15, x99_18, x99_19, x99_20, x99_21, x99_22, x99_25, x99_27, x99_29, x99_30, x99_33, x99_36, x99_37, x99_39, x99_42, x99_43, x99_44, x99_47, x99_50, x99_53, ↓reduceIte, Bool.false_eq_true, Nat.reduceAdd, Nat.reduceLT, Nat.reduceLeDiff, Nat.reduceSub, Nat.reduceEqDiff, Int.reduceToNat, Int.reduceEq, Int.reduceLT, Int.reduceLE, Int.reduceAdd, Int.reduceSub, zg, zI, zJ, zR, zst, zkl, zn, zcat, zok, zraw, List.length_cons, List.length_nil, Option.toList, List.nil_append, List.cons_append, true_and, and_true, if_true, if_false, ne_eq, not_true, not_false_eq_true, and_self, true_or, or_true, false_or, or_false, false_and, and_false, b_2 hc, b_3 hc, b_9 hc, b_12 hc, b_26 hc, b_40 hc, b_46 hc, b_47 hc, b_60 hc, b_62 hc, b_63 hc, b_76 hc, b_77 hc, b_90 hc, b_91 hc, b_104 hc, b_107 hc, b_114 hc, b_115 hc, b_122 hc, b_123 hc, b_131 hc, i1, hd0]
      refine cRight (d := d - 1) hc hV C1 rfl hn hkn ?_
      by_cases hlt : (dlO V n c t).2 < rbO V n c (t : Nat)
      · have hle : ¬ rbO V n c (t : Nat) ≤ (dlO V n c t).2 := by omega
        rw [if_pos hlt] at hst
        simp (disch := omega) only [x99_0, x99_1, x99_2, x99_5, x99_6, x99_7, x99_10, x99_11, x99_13, x99_15, x99_18, x99_19, x99_20, x99_21, x99_22, x99_25, x99_27, x99_29, x99_30, x99_33, x99_36, x99_37, x99_39, x99_42, x99_43, x99_44, x99_47, x99_50, x99_53, ↓reduceIte, Bool.false_eq_true, Nat.reduceAdd, Nat.reduceLT, Nat.reduceLeDiff, Nat.reduceSub, Nat.reduceEqDiff, Int.reduceToNat, Int.reduceEq, Int.reduceLT, Int.reduceLE, Int.reduceAdd, Int.reduceSub, zg, zI, zJ, zR, zst, zkl, zn, zcat, zok, zraw, List.length_cons, List.length_nil, Option.toList, List.nil_append, List.cons_append, true_and, and_true, if_true, if_false, ne_eq, not_true, not_false_eq_true, and_self, true_or, or_true, false_or, or_false, false_and, and_false, b_2 hc, b_3 hc, b_9 hc, b_12 hc, b_26 hc, b_40 hc, b_46 hc, b_47 hc, b_60 hc, b_62 hc, b_63 hc, b_76 hc, b_77 hc, b_90 hc, b_91 hc, b_104 hc, b_107 hc, b_114 hc, b_115 hc, b_122 hc, b_123 hc, b_131 hc, e6, hle, ua_eq, us_same, us_us, w32_s]
        apply hk
        refine ⟨_, rfl, Fr.us (by decide) hf, ?_, ?_, Or.inl ?_, ?_⟩
        · rw [us_same, zup_ne (by decide), zup_ne (by decide), h0]
        · intro i hi; rw [us_ne (by decide)]; exact hkn i hi
        · rw [us_same, zup_same rfl, hst]
        · rw [us_same, zup_ne (by decide), zup_same rfl, hst]
      · have hle : rbO V n c (t : Nat) ≤ (dlO V n c t).2 := by omega
        rw [if_neg hlt] at hst
        have ht0 : t ≠ 0 := by
          intro h0'
          subst h0'
          have := (rb_b (V := V) (n := n) (c := c) (x := ((0 : Nat) : Int)) (m := n)).1
          have e2 : (dlO V n c 0).2 = -1 := rfl
          unfold rbO at hlt
          omega
        simp (disch := omega) only [x99_0, x99_1, x99_2, x99_5, x99_6, x99_7, x99_10, x99_11, x99_13, x99_15, x99_18, x99_19, x99_20, x99_21, x99_22, x99_25, x99_27, x99_29, x99_30, x99_33, x99_36, x99_37, x99_39, x99_42, x99_43, x99_44, x99_47, x99_50, x99_53, ↓reduceIte, Bool.false_eq_true, Nat.reduceAdd, Nat.reduceLT, Nat.reduceLeDiff, Nat.reduceSub, Nat.reduceEqDiff, Int.reduceToNat, Int.reduceEq, Int.reduceLT, Int.reduceLE, Int.reduceAdd, Int.reduceSub, zg, zI, zJ, zR, zst, zkl, zn, zcat, zok, zraw, List.length_cons, List.length_nil, Option.toList, List.nil_append, List.cons_append, true_and, and_true, if_true, if_false, ne_eq, not_true, not_false_eq_true, and_self, true_or, or_true, false_or, or_false, false_and, and_false, b_2 hc, b_3 hc, b_9 hc, b_12 hc, b_26 hc, b_40 hc, b_46 hc, b_47 hc, b_60 hc, b_62 hc, b_63 hc, b_76 hc, b_77 hc, b_90 hc, b_91 hc, b_104 hc, b_107 hc, b_114 hc, b_115 hc, b_122 hc, b_123 hc, b_131 hc, e6, hle, w32_s]
        apply hk
        refine ⟨_, rfl, hf, h0, hkn, Or.inl ?_, by rw [hst]; exact e6⟩
        rw [hst]
        rcases e5 with e5 | e5
        · exact e5
        · exact absurd e5 ht0
    · rintro L μ1 ⟨x4, rfl, hf, h0, hkn, e5, e6⟩
      have i1 : ((100 : Int) < ((101 : Nat) : Int)) := by decide
      rw [x99_12]
      simp (disch := omega) only [x99_0, x99_1, x99_2, x99_5, x99_6, x99_7, x99_10, x99_11, x99_13, x99_15, x99_18, x99_19, x99_20, x99_21, x99_22, x99_25, x99_27, x99_29, x99_30, x99_33, x99_36, x99_37, x99_39, x99_42, x99_43, x99_44, x99_47, x99_50, x99_53, ↓reduceIte, Bool.false_eq_true, Nat.reduceAdd, Nat.reduceLT, Nat.reduceLeDiff, Nat.reduceSub, Nat.reduceEqDiff, Int.reduceToNat, Int.reduceEq, Int.reduceLT, Int.reduceLE, Int.reduceAdd, Int.reduceSub, zg, zI, zJ, zR, zst, zkl, zn, zcat, zok, zraw, List.length_cons, List.length_nil, Option.toList, List.nil_append, List.cons_append, true_and, and_true, if_true, if_false, ne_eq, not_true, not_false_eq_true, and_self, true_or, or_true, false_or, or_false, false_and, and_false, b_2 hc, b_3 hc, b_9 hc, b_12 hc, b_26 hc, b_40 hc, b_46 hc, b_47 hc, b_60 hc, b_62 hc, b_63 hc, b_76 hc, b_77 hc, b_90 hc, b_91 hc, b_104 hc, b_107 hc, b_114 hc, b_115 hc, b_122 hc, b_123 hc, b_131 hc, i1]
      refine hQ μ1 hf h0 ?_ e6
      rcases e5 with e5 | e5
      · exact e5
      · omega
  simp (disch := omega) only [x99_0, x99_1, x99_2, x99_5, x99_6, x99_7, x99_10, x99_11, x99_13, x99_15, x99_18, x99_19, x99_20, x99_21, x99_22, x99_25, x99_27, x99_29, x99_30, x99_33, x99_36, x99_37, x99_39, x99_42, x99_43, x99_44, x99_47, x99_50, x99_53, ↓reduceIte, Bool.false_eq_true, Nat.reduceAdd, Nat.reduceLT, Nat.reduceLeDiff, Nat.reduceSub, Nat.reduceEqDiff, Int.reduceToNat, Int.reduceEq, Int.reduceLT, Int.reduceLE, Int.reduceAdd, Int.reduceSub, zg, zI, zJ, zR, zst, zkl, zn, zcat, zok, zraw, List.length_cons, List.length_nil, Option.toList, List.nil_append, List.cons_append, true_and, and_true, if_true, if_false, ne_eq, not_true, not_false_eq_true, and_self, true_or, or_true, false_or, or_false, false_and, and_false, b_2 hc, b_3 hc, b_9 hc, b_12 hc, b_26 hc, b_40 hc, b_46 hc, b_47 hc, b_60 hc, b_62 hc, b_63 hc, b_76 hc, b_77 hc, b_90 hc, b_91 hc, b_104 hc, b_107 hc, b_114 hc, b_115 hc, b_122 hc, b_123 hc, b_131 hc, hd0]
  refine cKnow (d := d - 1) hc hV hC rfl hn ?_
  intro μ1 hf1 hkn
  simp (disch := omega) only [x99_0, x99_1, x99_2, x99_5, x99_6, x99_7, x99_10, x99_11, x99_13, x99_15, x99_18, x99_19, x99_20, x99_21, x99_22, x99_25, x99_27, x99_29, x99_30, x99_33, x99_36, x99_37, x99_39, x99_42, x99_43, x99_44, x99_47, x99_50, x99_53, ↓reduceIte, Bool.false_eq_true, Nat.reduceAdd, Nat.reduceLT, Nat.reduceLeDiff, Nat.reduceSub, Nat.reduceEqDiff, Int.reduceToNat, Int.reduceEq, Int.reduceLT, Int.reduceLE, Int.reduceAdd, Int.reduceSub, zg, zI, zJ, zR, zst, zkl, zn, zcat, zok, zraw, List.length_cons, List.length_nil, Option.toList, List.nil_append, List.cons_append, true_and, and_true, if_true, if_false, ne_eq, not_true, not_false_eq_true, and_self, true_or, or_true, false_or, or_false, false_and, and_false, b_2 hc, b_3 hc, b_9 hc, b_12 hc, b_26 hc, b_40 hc, b_46 hc, b_47 hc, b_60 hc, b_62 hc, b_63 hc, b_76 hc, b_77 hc, b_90 hc, b_91 hc, b_104 hc, b_107 hc, b_114 hc, b_115 hc, b_122 hc, b_123 hc, b_131 hc, ua_eq]
  refine key 0 _ _ (by omega) ⟨_, rfl, Fr.us (by decide) (hf1.mono (by decide)), ?_, ?_, Or.inr rfl, ?_⟩
  · rw [us_same, zup_ne (by decide), hf1 131 (by decide)]
  · intro i hi; rw [us_ne (by decide)]; exact hkn i hi
  · rw [us_same, zup_same rfl]; rfl
end VJ
