/-! THE CLASS cuts a tape into TOKENS -/
def TB (b : Nat → Int) (n : Nat) (μ : zM) : Prop := μ 3 3 = (n : Int) ∧ (∀ k, k < n → μ 7 k = b k) ∧ n ≤ 2000 ∧ ∀ k, k < n → -128 ≤ b k ∧ b k ≤ 127
theorem nm_b {f : Nat → Int} : ∀ m, (∀ i, i < m → 1 ≤ f i ∧ f i ≤ 26) → 0 ≤ nmI 32 f m ∧ nmI 32 f m + 1 ≤ ((32 ^ m : Nat) : Int) := by
  intro m
  induction m with
  | zero => intro _; simp [nmI]
  | succ m ih =>
    intro h
    have h1 := ih (fun i hi => h i (by omega))
    have h2 := h m (by omega)
    unfold nmI
    rw [Nat.pow_succ]
    omega
theorem nm_8 {f : Nat → Int} {m : Nat} (hm : m ≤ 8) (h : ∀ i, i < m → 1 ≤ f i ∧ f i ≤ 26) : 0 ≤ nmI 32 f m ∧ nmI 32 f m < 1099511627776 := by
  have h1 := nm_b m h
  have h2 : 32 ^ m ≤ 32 ^ 8 := Nat.pow_le_pow_right (by decide) hm
  have h3 : (32 ^ 8 : Nat) = 1099511627776 := by decide
  omega
theorem nd_b {f : Nat → Int} : ∀ m, (∀ i, i < m → 0 ≤ f i ∧ f i ≤ 9) → 0 ≤ nmI 10 f m ∧ nmI 10 f m + 1 ≤ ((10 ^ m : Nat) : Int) := by
  intro m
  induction m with
  | zero => intro _; simp [nmI]
  | succ m ih =>
    intro h
    have h1 := ih (fun i hi => h i (by omega))
    have h2 := h m (by omega)
    unfold nmI
    rw [Nat.pow_succ]
    omega
theorem nd_4 {f : Nat → Int} {m : Nat} (hm : m ≤ 4) (h : ∀ i, i < m → 0 ≤ f i ∧ f i ≤ 9) : 0 ≤ nmI 10 f m ∧ nmI 10 f m ≤ 9999 := by
  have h1 := nd_b m h
  have h2 : 10 ^ m ≤ 10 ^ 4 := Nat.pow_le_pow_right (by decide) hm
  have h3 : (10 ^ 4 : Nat) = 10000 := by decide
  omega
theorem w64_i {x : Int} (h1 : -9223372036854775808 ≤ x) (h2 : x ≤ 9223372036854775807) : w64 x = x := by unfold w64; omega
theorem wlet {v c : Int} (h0 : 0 ≤ v) (h1 : v < 1099511627776) (h2 : 97 ≤ c) (h3 : c ≤ 122) : w64 (w64 (w64 (w64 (v * 32) + c) - 97) + 1) = v * 32 + (c - 96) := by
  rw [w64_i (x := v * 32) (by omega) (by omega), w64_i (x := v * 32 + c) (by omega) (by omega), w64_i (x := v * 32 + c - 97) (by omega) (by omega), w64_i (by omega) (by omega)]; omega
theorem wdig {v c : Int} (h0 : 0 ≤ v) (h1 : v < 1099511627776) (h2 : 48 ≤ c) (h3 : c ≤ 57) : w64 (w64 (w64 (v * 10) + c) - 48) = v * 10 + (c - 48) := by
  rw [w64_i (x := v * 10) (by omega) (by omega), w64_i (x := v * 10 + c) (by omega) (by omega), w64_i (by omega) (by omega)]; omega
theorem eBlank (d : Nat) (c : Int) (θ : zS) (μ : zM) (Q : Option zV → zS → zM → Prop) : Ex d 82 0 [vi c] [] θ μ Q = Q (some (vi (b2 (isBb c)))) θ μ := by
  unfold isBb b2
  by_cases h1 : c = 9
  · subst h1; simp only [x82_0, x82_1, x82_3, x82_6, x82_7, x82_9, x82_12, x82_13, x82_15, x82_18, x82_19, x82_21, x82_24, x82_25, x82_28, x82_29, ↓reduceIte, Bool.false_eq_true, Nat.reduceAdd, Nat.reduceLT, Nat.reduceLeDiff, Nat.reduceSub, Nat.reduceEqDiff, Int.reduceToNat, Int.reduceEq, Int.reduceLT, Int.reduceLE, Int.reduceAdd, Int.reduceSub, zg, zI, zJ, zR, zst, zkl, zn, zcat, zok, zraw, List.length_cons, List.length_nil, Option.toList, List.nil_append, List.cons_append, true_and, and_true, if_true, if_false, ne_eq, not_true, not_false_eq_true, and_self, true_or, or_true, false_or, or_false, false_and, and_false]; rfl
  · by_cases h2 : c = 10
    · subst h2; simp only [x82_0, x82_1, x82_3, x82_6, x82_7, x82_9, x82_12, x82_13, x82_15, x82_18, x82_19, x82_21, x82_24, x82_25, x82_28, x82_29, ↓reduceIte, Bool.false_eq_true, Nat.reduceAdd, Nat.reduceLT, Nat.reduceLeDiff, Nat.reduceSub, Nat.reduceEqDiff, Int.reduceToNat, Int.reduceEq, Int.reduceLT, Int.reduceLE, Int.reduceAdd, Int.reduceSub, zg, zI, zJ, zR, zst, zkl, zn, zcat, zok, zraw, List.length_cons, List.length_nil, Option.toList, List.nil_append, List.cons_append, true_and, and_true, if_true, if_false, ne_eq, not_true, not_false_eq_true, and_self, true_or, or_true, false_or, or_false, false_and, and_false]; rfl
    · by_cases h3 : c = 13
      · subst h3; simp only [x82_0, x82_1, x82_3, x82_6, x82_7, x82_9, x82_12, x82_13, x82_15, x82_18, x82_19, x82_21, x82_24, x82_25, x82_28, x82_29, ↓reduceIte, Bool.false_eq_true, Nat.reduceAdd, Nat.reduceLT, Nat.reduceLeDiff, Nat.reduceSub, Nat.reduceEqDiff, Int.reduceToNat, Int.reduceEq, Int.reduceLT, Int.reduceLE, Int.reduceAdd, Int.reduceSub, zg, zI, zJ, zR, zst, zkl, zn, zcat, zok, zraw, List.length_cons, List.length_nil, Option.toList, List.nil_append, List.cons_append, true_and, and_true, if_true, if_false, ne_eq, not_true, not_false_eq_true, and_self, true_or, or_true, false_or, or_false, false_and, and_false]; rfl
      · by_cases h4 : c = 32
        · subst h4; simp only [x82_0, x82_1, x82_3, x82_6, x82_7, x82_9, x82_12, x82_13, x82_15, x82_18, x82_19, x82_21, x82_24, x82_25, x82_28, x82_29, ↓reduceIte, Bool.false_eq_true, Nat.reduceAdd, Nat.reduceLT, Nat.reduceLeDiff, Nat.reduceSub, Nat.reduceEqDiff, Int.reduceToNat, Int.reduceEq, Int.reduceLT, Int.reduceLE, Int.reduceAdd, Int.reduceSub, zg, zI, zJ, zR, zst, zkl, zn, zcat, zok, zraw, List.length_cons, List.length_nil, Option.toList, List.nil_append, List.cons_append, true_and, and_true, if_true, if_false, ne_eq, not_true, not_false_eq_true, and_self, true_or, or_true, false_or, or_false, false_and, and_false]; rfl
        · simp only [x82_0, x82_1, x82_3, x82_6, x82_7, x82_9, x82_12, x82_13, x82_15, x82_18, x82_19, x82_21, x82_24, x82_25, x82_28, x82_29, ↓reduceIte, Bool.false_eq_true, Nat.reduceAdd, Nat.reduceLT, Nat.reduceLeDiff, Nat.reduceSub, Nat.reduceEqDiff, Int.reduceToNat, Int.reduceEq, Int.reduceLT, Int.reduceLE, Int.reduceAdd, Int.reduceSub, zg, zI, zJ, zR, zst, zkl, zn, zcat, zok, zraw, List.length_cons, List.length_nil, Option.toList, List.nil_append, List.cons_append, true_and, and_true, if_true, if_false, ne_eq, not_true, not_false_eq_true, and_self, true_or, or_true, false_or, or_false, false_and, and_false, h1, h2, h3, h4, decide_false]
theorem eLetter (d : Nat) (c : Int) (θ : zS) (μ : zM) (Q : Option zV → zS → zM → Prop) : Ex d 83 0 [vi c] [] θ μ Q = Q (some (vi (b2 (isLl c)))) θ μ := by
  unfold isLl b2
  by_cases h1 : c < 97
  · have h : ¬ (97 ≤ c ∧ c ≤ 122) := by omega
    simp only [x83_0, x83_1, x83_3, x83_6, x83_7, x83_9, x83_12, x83_13, x83_16, x83_17, ↓reduceIte, Bool.false_eq_true, Nat.reduceAdd, Nat.reduceLT, Nat.reduceLeDiff, Nat.reduceSub, Nat.reduceEqDiff, Int.reduceToNat, Int.reduceEq, Int.reduceLT, Int.reduceLE, Int.reduceAdd, Int.reduceSub, zg, zI, zJ, zR, zst, zkl, zn, zcat, zok, zraw, List.length_cons, List.length_nil, Option.toList, List.nil_append, List.cons_append, true_and, and_true, if_true, if_false, ne_eq, not_true, not_false_eq_true, and_self, true_or, or_true, false_or, or_false, false_and, and_false, h1, h, decide_false]
  · by_cases h2 : 122 < c
    · have h : ¬ (97 ≤ c ∧ c ≤ 122) := by omega
      simp only [x83_0, x83_1, x83_3, x83_6, x83_7, x83_9, x83_12, x83_13, x83_16, x83_17, ↓reduceIte, Bool.false_eq_true, Nat.reduceAdd, Nat.reduceLT, Nat.reduceLeDiff, Nat.reduceSub, Nat.reduceEqDiff, Int.reduceToNat, Int.reduceEq, Int.reduceLT, Int.reduceLE, Int.reduceAdd, Int.reduceSub, zg, zI, zJ, zR, zst, zkl, zn, zcat, zok, zraw, List.length_cons, List.length_nil, Option.toList, List.nil_append, List.cons_append, true_and, and_true, if_true, if_false, ne_eq, not_true, not_false_eq_true, and_self, true_or, or_true, false_or, or_false, false_and, and_false, h1, h2, h, decide_false]
    · have h : (97 ≤ c ∧ c ≤ 122) := by omega
      simp only [x83_0, x83_1, x83_3, x83_6, x83_7, x83_9, x83_12, x83_13, x83_16, x83_17, ↓reduceIte, Bool.false_eq_true, Nat.reduceAdd, Nat.reduceLT, Nat.reduceLeDiff, Nat.reduceSub, Nat.reduceEqDiff, Int.reduceToNat, Int.reduceEq, Int.reduceLT, Int.reduceLE, Int.reduceAdd, Int.reduceSub, zg, zI, zJ, zR, zst, zkl, zn, zcat, zok, zraw, List.length_cons, List.length_nil, Option.toList, List.nil_append, List.cons_append, true_and, and_true, if_true, if_false, ne_eq, not_true, not_false_eq_true, and_self, true_or, or_true, false_or, or_false, false_and, and_false, h1, h2, h, decide_true]
theorem eDigit (d : Nat) (c : Int) (θ : zS) (μ : zM) (Q : Option zV → zS → zM → Prop) : Ex d 84 0 [vi c] [] θ μ Q = Q (some (vi (b2 (isDd c)))) θ μ := by
  unfold isDd b2
  by_cases h1 : c < 48
  · have h : ¬ (48 ≤ c ∧ c ≤ 57) := by omega
    simp only [x84_0, x84_1, x84_3, x84_6, x84_7, x84_9, x84_12, x84_13, x84_16, x84_17, ↓reduceIte, Bool.false_eq_true, Nat.reduceAdd, Nat.reduceLT, Nat.reduceLeDiff, Nat.reduceSub, Nat.reduceEqDiff, Int.reduceToNat, Int.reduceEq, Int.reduceLT, Int.reduceLE, Int.reduceAdd, Int.reduceSub, zg, zI, zJ, zR, zst, zkl, zn, zcat, zok, zraw, List.length_cons, List.length_nil, Option.toList, List.nil_append, List.cons_append, true_and, and_true, if_true, if_false, ne_eq, not_true, not_false_eq_true, and_self, true_or, or_true, false_or, or_false, false_and, and_false, h1, h, decide_false]
  · by_cases h2 : 57 < c
    · have h : ¬ (48 ≤ c ∧ c ≤ 57) := by omega
      simp only [x84_0, x84_1, x84_3, x84_6, x84_7, x84_9, x84_12, x84_13, x84_16, x84_17, ↓reduceIte, Bool.false_eq_true, Nat.reduceAdd, Nat.reduceLT, Nat.reduceLeDiff, Nat.reduceSub, Nat.reduceEqDiff, Int.reduceToNat, Int.reduceEq, Int.reduceLT, Int.reduceLE, Int.reduceAdd, Int.reduceSub, zg, zI, zJ, zR, zst, zkl, zn, zcat, zok, zraw, List.length_cons, List.length_nil, Option.toList, List.nil_append, List.cons_append, true_and, and_true, if_true, if_false, ne_eq, not_true, not_false_eq_true, and_self, true_or, or_true, false_or, or_false, false_and, and_false, h1, h2, h, decide_false]
    · have h : (48 ≤ c ∧ c ≤ 57) := by omega
      simp only [x84_0, x84_1, x84_3, x84_6, x84_7, x84_9, x84_12, x84_13, x84_16, x84_17, ↓reduceIte, Bool.false_eq_true, Nat.reduceAdd, Nat.reduceLT, Nat.reduceLeDiff, Nat.reduceSub, Nat.reduceEqDiff, Int.reduceToNat, Int.reduceEq, Int.reduceLT, Int.reduceLE, Int.reduceAdd, Int.reduceSub, zg, zI, zJ, zR, zst, zkl, zn, zcat, zok, zraw, List.length_cons, List.length_nil, Option.toList, List.nil_append, List.cons_append, true_and, and_true, if_true, if_false, ne_eq, not_true, not_false_eq_true, and_self, true_or, or_true, false_or, or_false, false_and, and_false, h1, h2, h, decide_true]
section SC
variable {θ : zS} {Q : Option zV → zS → zM → Prop} {μ : zM} {b : Nat → Int} {n : Nat}
theorem cSkip {d : Nat} (hc : Tc θ) (hd : 1 ≤ d) : ∀ k i μ, n - i = k → i ≤ n → TB b n μ → μ 3 6 = (i : Nat) → (∀ μ', Fr [3] μ μ' → (∀ j, j ≠ 6 → μ' 3 j = μ 3 j) → μ' 3 6 = (enE isBb b n i : Nat) → Q none θ μ') → Ex d 75 0 [vr 3] [] θ μ Q := by
  have hd0 : 0 < d := by omega
  intro k
  induction k with
  | zero =>
    intro i μ hk hi hB h6 hQ
    have c1 : (n : Int) ≤ (i : Int) := by omega
    rw [x75_0]
    simp only [x75_1, x75_4, x75_5, x75_8, x75_11, x75_12, x75_15, x75_16, x75_19, x75_20, x75_23, x75_26, x75_27, x75_28, x75_31, x75_32, x75_33, x75_36, x75_39, ↓reduceIte, Bool.false_eq_true, Nat.reduceAdd, Nat.reduceLT, Nat.reduceLeDiff, Nat.reduceSub, Nat.reduceEqDiff, Int.reduceToNat, Int.reduceEq, Int.reduceLT, Int.reduceLE, Int.reduceAdd, Int.reduceSub, zg, zI, zJ, zR, zst, zkl, zn, zcat, zok, zraw, List.length_cons, List.length_nil, Option.toList, List.nil_append, List.cons_append, true_and, and_true, if_true, if_false, ne_eq, not_true, not_false_eq_true, and_self, true_or, or_true, false_or, or_false, false_and, and_false, b_2 hc, b_3 hc, b_9 hc, b_12 hc, b_26 hc, b_40 hc, b_46 hc, b_47 hc, b_60 hc, b_62 hc, b_63 hc, b_76 hc, b_77 hc, b_90 hc, b_91 hc, b_104 hc, b_107 hc, b_114 hc, b_115 hc, b_122 hc, b_123 hc, b_131 hc, b_3 hc, r_3_0 hc, x_4 hc, r_3_1 hc, x_5 hc, r_3_2 hc, x_6 hc, r_3_4 hc, x_7 hc, n_7 hc, r_3_5 hc, x_8 hc, h6, hB.1, c1]
    refine hQ μ Fr.refl (fun _ _ => rfl) ?_
    rw [en_n (fun h => by omega)]; exact h6
  | succ k ih =>
    intro i μ hk hi hB h6 hQ
    have c1 : ¬ (n : Int) ≤ (i : Int) := by omega
    have hn := hB.2.2.1
    have i1 : (0 : Int) ≤ (i : Int) := by omega
    have i2 : (i : Int) < 2000 := by omega
    have e7 := hB.2.1 i (by omega)
    have w1 : i < 2147483647 := by omega
    rw [x75_0]
    cases hp : isBb (b i) with
    | false =>
      simp only [x75_1, x75_4, x75_5, x75_8, x75_11, x75_12, x75_15, x75_16, x75_19, x75_20, x75_23, x75_26, x75_27, x75_28, x75_31, x75_32, x75_33, x75_36, x75_39, ↓reduceIte, Bool.false_eq_true, Nat.reduceAdd, Nat.reduceLT, Nat.reduceLeDiff, Nat.reduceSub, Nat.reduceEqDiff, Int.reduceToNat, Int.reduceEq, Int.reduceLT, Int.reduceLE, Int.reduceAdd, Int.reduceSub, zg, zI, zJ, zR, zst, zkl, zn, zcat, zok, zraw, List.length_cons, List.length_nil, Option.toList, List.nil_append, List.cons_append, true_and, and_true, if_true, if_false, ne_eq, not_true, not_false_eq_true, and_self, true_or, or_true, false_or, or_false, false_and, and_false, b_2 hc, b_3 hc, b_9 hc, b_12 hc, b_26 hc, b_40 hc, b_46 hc, b_47 hc, b_60 hc, b_62 hc, b_63 hc, b_76 hc, b_77 hc, b_90 hc, b_91 hc, b_104 hc, b_107 hc, b_114 hc, b_115 hc, b_122 hc, b_123 hc, b_131 hc, b_3 hc, r_3_0 hc, x_4 hc, r_3_1 hc, x_5 hc, r_3_2 hc, x_6 hc, r_3_4 hc, x_7 hc, n_7 hc, r_3_5 hc, x_8 hc, x_7 hc i1 i2, h6, hB.1, c1, e7, Int.toNat_natCast, eBlank, hp, b2, hd0]
      refine hQ μ Fr.refl (fun _ _ => rfl) ?_
      rw [en_n (fun _ => hp)]; exact h6
    | true =>
      simp only [x75_1, x75_4, x75_5, x75_8, x75_11, x75_12, x75_15, x75_16, x75_19, x75_20, x75_23, x75_26, x75_27, x75_28, x75_31, x75_32, x75_33, x75_36, x75_39, ↓reduceIte, Bool.false_eq_true, Nat.reduceAdd, Nat.reduceLT, Nat.reduceLeDiff, Nat.reduceSub, Nat.reduceEqDiff, Int.reduceToNat, Int.reduceEq, Int.reduceLT, Int.reduceLE, Int.reduceAdd, Int.reduceSub, zg, zI, zJ, zR, zst, zkl, zn, zcat, zok, zraw, List.length_cons, List.length_nil, Option.toList, List.nil_append, List.cons_append, true_and, and_true, if_true, if_false, ne_eq, not_true, not_false_eq_true, and_self, true_or, or_true, false_or, or_false, false_and, and_false, b_2 hc, b_3 hc, b_9 hc, b_12 hc, b_26 hc, b_40 hc, b_46 hc, b_47 hc, b_60 hc, b_62 hc, b_63 hc, b_76 hc, b_77 hc, b_90 hc, b_91 hc, b_104 hc, b_107 hc, b_114 hc, b_115 hc, b_122 hc, b_123 hc, b_131 hc, b_3 hc, r_3_0 hc, x_4 hc, r_3_1 hc, x_5 hc, r_3_2 hc, x_6 hc, r_3_4 hc, x_7 hc, n_7 hc, r_3_5 hc, x_8 hc, x_7 hc i1 i2, h6, hB.1, c1, e7, Int.toNat_natCast, eBlank, hp, b2, hd0, w32_s w1, ua_eq]
      refine ih (i + 1) _ (by omega) (by omega) ⟨by rw [us_same, zup_ne (by decide)]; exact hB.1, by rw [us_ne (by decide)]; exact hB.2.1, hB.2.2⟩ (by rw [us_same, zup_same rfl]) (fun μ' f1 f2 f3 => ?_)
      refine hQ μ' ((Fr.us (by simp) Fr.refl).trans f1) (fun j hj => by rw [f2 j hj, us_same, zup_ne hj]) ?_
      rw [f3, en_y (by omega) hp]
/-- the letters of a word -/
theorem cWord {d s : Nat} {x1 x2 : zV} (hc : Tc θ) (hd : 1 ≤ d) (hW : CWd μ) (hB : TB b n μ) (hs : s < n) (h6 : μ 3 6 = (s : Nat)) (h7 : μ 3 7 = 0)
    (hQ : ∀ μ', Fr [3] μ μ' → (∀ j, j ≠ 6 → j ≠ 7 → μ' 3 j = μ 3 j) → μ' 3 6 = (enE isLl b n s : Nat) → (enE isLl b n s - s ≤ 8 → μ' 3 7 = nmI 32 (lfO b s) (enE isLl b n s - s)) → Q (some (vi ((if 8 < enE isLl b n s - s then 1 else kwO (nmI 32 (lfO b s) (enE isLl b n s - s)) : Nat) : Int))) θ μ') : Ex d 77 0 [vr 3, x1, x2] [] θ μ Q := by
  have hd0 : 0 < d := by omega
  have hb := en_b (p := isLl) (b := b) (n := n) (n - s) s rfl (by omega)
  have hn := hB.2.2.1
  have hL : ∀ i, s + i < enE isLl b n s → 97 ≤ b (s + i) ∧ b (s + i) ≤ 122 := fun i hi => of_decide_eq_true (hb.2.2.1 (s + i) (by omega) hi)
  have words : ∀ i L μ1, i ≤ 33 → (L = [vr 3, vi ((enE isLl b n s - s : Nat) : Int), vi (i : Nat)] ∧ enE isLl b n s - s ≤ 8 ∧ Fr [3] μ μ1 ∧ (∀ j, j ≠ 6 → j ≠ 7 → μ1 3 j = μ 3 j) ∧ μ1 3 6 = (enE isLl b n s : Nat) ∧ μ1 3 7 = nmI 32 (lfO b s) (enE isLl b n s - s) ∧ ∀ j, j < i → decide (wv j = nmI 32 (lfO b s) (enE isLl b n s - s)) = false) → Ex d 77 74 L [] θ μ1 Q := by
    refine Ex_loop (I := fun i L μ1 => L = [vr 3, vi ((enE isLl b n s - s : Nat) : Int), vi (i : Nat)] ∧ enE isLl b n s - s ≤ 8 ∧ Fr [3] μ μ1 ∧ (∀ j, j ≠ 6 → j ≠ 7 → μ1 3 j = μ 3 j) ∧ μ1 3 6 = (enE isLl b n s : Nat) ∧ μ1 3 7 = nmI 32 (lfO b s) (enE isLl b n s - s) ∧ ∀ j, j < i → decide (wv j = nmI 32 (lfO b s) (enE isLl b n s - s)) = false) 33 ?_ ?_
    · rintro i L μ1 hi ⟨rfl, h8, hf, hj, g6, g7, hno⟩ hk
      have c1 : ¬ (33 : Int) ≤ (i : Int) := by omega
      have i1 : (0 : Int) ≤ (i : Int) := by omega
      have i2 : (i : Int) < 33 := by omega
      have w1 : i < 2147483647 := by omega
      have w2 : 16 + i < 2147483648 := by omega
      have e8 : μ1 8 i = wv i := by rw [hf 8 (by decide)]; exact hW i hi
      rw [x77_74]
      by_cases he : wv i = nmI 32 (lfO b s) (enE isLl b n s - s)
      · have ek : kwO (nmI 32 (lfO b s) (enE isLl b n s - s)) = 16 + i := by
          unfold kwO; rw [find_at hi hno (decide_eq_true he)]
        have ew : w32 (16 + (i : Int)) = ((16 + i : Nat) : Int) := by rw [w32_i (by omega) (by omega)]; omega
        simp only [x77_0, x77_1, x77_3, x77_6, x77_7, x77_10, x77_13, x77_14, x77_17, x77_18, x77_21, x77_22, x77_25, x77_28, x77_29, x77_30, x77_33, x77_34, x77_37, x77_38, x77_41, x77_42, x77_45, x77_48, x77_51, x77_52, x77_53, x77_56, x77_57, x77_58, x77_61, x77_64, x77_65, x77_67, x77_70, x77_71, x77_72, x77_73, x77_75, x77_77, x77_80, x77_81, x77_84, x77_85, x77_86, x77_87, x77_90, x77_91, x77_94, x77_96, x77_97, x77_98, x77_99, x77_102, x77_105, x77_106, ↓reduceIte, Bool.false_eq_true, Nat.reduceAdd, Nat.reduceLT, Nat.reduceLeDiff, Nat.reduceSub, Nat.reduceEqDiff, Int.reduceToNat, Int.reduceEq, Int.reduceLT, Int.reduceLE, Int.reduceAdd, Int.reduceSub, zg, zI, zJ, zR, zst, zkl, zn, zcat, zok, zraw, List.length_cons, List.length_nil, Option.toList, List.nil_append, List.cons_append, true_and, and_true, if_true, if_false, ne_eq, not_true, not_false_eq_true, and_self, true_or, or_true, false_or, or_false, false_and, and_false, b_2 hc, b_3 hc, b_9 hc, b_12 hc, b_26 hc, b_40 hc, b_46 hc, b_47 hc, b_60 hc, b_62 hc, b_63 hc, b_76 hc, b_77 hc, b_90 hc, b_91 hc, b_104 hc, b_107 hc, b_114 hc, b_115 hc, b_122 hc, b_123 hc, b_131 hc, b_3 hc, r_3_0 hc, x_4 hc, r_3_1 hc, x_5 hc, r_3_2 hc, x_6 hc, r_3_4 hc, x_7 hc, n_7 hc, r_3_5 hc, x_8 hc, x_8 hc i1 i2, c1, e8, g7, Int.toNat_natCast, zlc_e he, ew]
        clear ew
        have := hQ μ1 hf hj g6 (fun _ => g7)
        rw [if_neg (by omega), ek] at this
        exact this
      · simp only [x77_0, x77_1, x77_3, x77_6, x77_7, x77_10, x77_13, x77_14, x77_17, x77_18, x77_21, x77_22, x77_25, x77_28, x77_29, x77_30, x77_33, x77_34, x77_37, x77_38, x77_41, x77_42, x77_45, x77_48, x77_51, x77_52, x77_53, x77_56, x77_57, x77_58, x77_61, x77_64, x77_65, x77_67, x77_70, x77_71, x77_72, x77_73, x77_75, x77_77, x77_80, x77_81, x77_84, x77_85, x77_86, x77_87, x77_90, x77_91, x77_94, x77_96, x77_97, x77_98, x77_99, x77_102, x77_105, x77_106, ↓reduceIte, Bool.false_eq_true, Nat.reduceAdd, Nat.reduceLT, Nat.reduceLeDiff, Nat.reduceSub, Nat.reduceEqDiff, Int.reduceToNat, Int.reduceEq, Int.reduceLT, Int.reduceLE, Int.reduceAdd, Int.reduceSub, zg, zI, zJ, zR, zst, zkl, zn, zcat, zok, zraw, List.length_cons, List.length_nil, Option.toList, List.nil_append, List.cons_append, true_and, and_true, if_true, if_false, ne_eq, not_true, not_false_eq_true, and_self, true_or, or_true, false_or, or_false, false_and, and_false, b_2 hc, b_3 hc, b_9 hc, b_12 hc, b_26 hc, b_40 hc, b_46 hc, b_47 hc, b_60 hc, b_62 hc, b_63 hc, b_76 hc, b_77 hc, b_90 hc, b_91 hc, b_104 hc, b_107 hc, b_114 hc, b_115 hc, b_122 hc, b_123 hc, b_131 hc, b_3 hc, r_3_0 hc, x_4 hc, r_3_1 hc, x_5 hc, r_3_2 hc, x_6 hc, r_3_4 hc, x_7 hc, n_7 hc, r_3_5 hc, x_8 hc, x_8 hc i1 i2, c1, e8, g7, Int.toNat_natCast, zlc_n he, w32_s w1]
        exact hk _ _ ⟨rfl, h8, hf, hj, g6, g7, all_s hno (decide_eq_false he)⟩
    · rintro L μ1 ⟨rfl, h8, hf, hj, g6, g7, hno⟩
      rw [x77_74]
      simp only [x77_0, x77_1, x77_3, x77_6, x77_7, x77_10, x77_13, x77_14, x77_17, x77_18, x77_21, x77_22, x77_25, x77_28, x77_29, x77_30, x77_33, x77_34, x77_37, x77_38, x77_41, x77_42, x77_45, x77_48, x77_51, x77_52, x77_53, x77_56, x77_57, x77_58, x77_61, x77_64, x77_65, x77_67, x77_70, x77_71, x77_72, x77_73, x77_75, x77_77, x77_80, x77_81, x77_84, x77_85, x77_86, x77_87, x77_90, x77_91, x77_94, x77_96, x77_97, x77_98, x77_99, x77_102, x77_105, x77_106, ↓reduceIte, Bool.false_eq_true, Nat.reduceAdd, Nat.reduceLT, Nat.reduceLeDiff, Nat.reduceSub, Nat.reduceEqDiff, Int.reduceToNat, Int.reduceEq, Int.reduceLT, Int.reduceLE, Int.reduceAdd, Int.reduceSub, zg, zI, zJ, zR, zst, zkl, zn, zcat, zok, zraw, List.length_cons, List.length_nil, Option.toList, List.nil_append, List.cons_append, true_and, and_true, if_true, if_false, ne_eq, not_true, not_false_eq_true, and_self, true_or, or_true, false_or, or_false, false_and, and_false, b_2 hc, b_3 hc, b_9 hc, b_12 hc, b_26 hc, b_40 hc, b_46 hc, b_47 hc, b_60 hc, b_62 hc, b_63 hc, b_76 hc, b_77 hc, b_90 hc, b_91 hc, b_104 hc, b_107 hc, b_114 hc, b_115 hc, b_122 hc, b_123 hc, b_131 hc, Int.le_refl]
      have ek : kwO (nmI 32 (lfO b s) (enE isLl b n s - s)) = 3 := by
        unfold kwO; rw [find_no hno]
      have := hQ μ1 hf hj g6 (fun _ => g7)
      rw [if_neg (by omega), ek] at this
      exact this
  have key : ∀ m L μ1, m ≤ enE isLl b n s - s → (L = [vr 3, vi (m : Nat), x2] ∧ Fr [3] μ μ1 ∧ (∀ j, j ≠ 6 → j ≠ 7 → μ1 3 j = μ 3 j) ∧ μ1 3 6 = ((s + m : Nat) : Int) ∧ (m ≤ 8 → μ1 3 7 = nmI 32 (lfO b s) m)) → Ex d 77 2 L [] θ μ1 Q := by
    refine Ex_loop (I := fun m L μ1 => L = [vr 3, vi (m : Nat), x2] ∧ Fr [3] μ μ1 ∧ (∀ j, j ≠ 6 → j ≠ 7 → μ1 3 j = μ 3 j) ∧ μ1 3 6 = ((s + m : Nat) : Int) ∧ (m ≤ 8 → μ1 3 7 = nmI 32 (lfO b s) m)) (enE isLl b n s - s) ?_ ?_
    · rintro m L μ1 hm ⟨rfl, hf, hj, g6, g7⟩ hk
      have c1 : ¬ (n : Int) ≤ ((s + m : Nat) : Int) := by omega
      have i1 : (0 : Int) ≤ ((s + m : Nat) : Int) := by omega
      have i2 : ((s + m : Nat) : Int) < 2000 := by omega
      have w1 : m < 2147483647 := by omega
      have w2 : s + m < 2147483647 := by omega
      have e7 : μ1 7 (s + m) = b (s + m) := by rw [hf 7 (by decide)]; exact hB.2.1 (s + m) (by omega)
      have e33 : μ1 3 3 = (n : Int) := by rw [hj 3 (by decide) (by decide)]; exact hB.1
      have hp : isLl (b (s + m)) = true := hb.2.2.1 (s + m) (by omega) (by omega)
      have hcl := hL m (by omega)
      rw [x77_2]
      simp only [x77_0, x77_1, x77_3, x77_6, x77_7, x77_10, x77_13, x77_14, x77_17, x77_18, x77_21, x77_22, x77_25, x77_28, x77_29, x77_30, x77_33, x77_34, x77_37, x77_38, x77_41, x77_42, x77_45, x77_48, x77_51, x77_52, x77_53, x77_56, x77_57, x77_58, x77_61, x77_64, x77_65, x77_67, x77_70, x77_71, x77_72, x77_73, x77_75, x77_77, x77_80, x77_81, x77_84, x77_85, x77_86, x77_87, x77_90, x77_91, x77_94, x77_96, x77_97, x77_98, x77_99, x77_102, x77_105, x77_106, x81_0, x81_1, x81_4, x81_5, x81_6, x81_7, x81_8, x81_11, x81_12, x81_13, x81_14, ↓reduceIte, Bool.false_eq_true, Nat.reduceAdd, Nat.reduceLT, Nat.reduceLeDiff, Nat.reduceSub, Nat.reduceEqDiff, Int.reduceToNat, Int.reduceEq, Int.reduceLT, Int.reduceLE, Int.reduceAdd, Int.reduceSub, zg, zI, zJ, zR, zst, zkl, zn, zcat, zok, zraw, List.length_cons, List.length_nil, Option.toList, List.nil_append, List.cons_append, true_and, and_true, if_true, if_false, ne_eq, not_true, not_false_eq_true, and_self, true_or, or_true, false_or, or_false, false_and, and_false, b_2 hc, b_3 hc, b_9 hc, b_12 hc, b_26 hc, b_40 hc, b_46 hc, b_47 hc, b_60 hc, b_62 hc, b_63 hc, b_76 hc, b_77 hc, b_90 hc, b_91 hc, b_104 hc, b_107 hc, b_114 hc, b_115 hc, b_122 hc, b_123 hc, b_131 hc, b_3 hc, r_3_0 hc, x_4 hc, r_3_1 hc, x_5 hc, r_3_2 hc, x_6 hc, r_3_4 hc, x_7 hc, n_7 hc, r_3_5 hc, x_8 hc, x_7 hc i1 i2, g6, e33, c1, e7, Int.toNat_natCast, eLetter, hp, b2, hd0, w32_s w1, w32_s w2, ua_eq, us_same, us_us, zup_ne (show (6 : Nat) ≠ 7 by decide)]
      refine hk _ _ ⟨rfl, Fr.us (by simp) hf, fun j j6 j7 => by rw [us_same, zup_ne j6, zup_ne j7]; exact hj j j6 j7, by rw [us_same, zup_same rfl]; rfl, fun h8 => ?_⟩
      rw [us_same, zup_ne (by decide), zup_same rfl, g7 (by omega)]
      have hv := nm_8 (f := lfO b s) (m := m) (by omega) (fun i hi => by have := hL i (by omega); unfold lfO; omega)
      rw [wlet hv.1 hv.2 hcl.1 hcl.2]
      rfl
    · rintro L μ1 ⟨rfl, hf, hj, g6, g7⟩
      have ee : s + (enE isLl b n s - s) = enE isLl b n s := by omega
      rw [ee] at g6
      have e33 : μ1 3 3 = (n : Int) := by rw [hj 3 (by decide) (by decide)]; exact hB.1
      have fin : Ex d 77 64 [vr 3, vi ((enE isLl b n s - s : Nat) : Int), x2] [] θ μ1 Q := by
        by_cases h8 : enE isLl b n s - s ≤ 8
        · have h8' : ((enE isLl b n s - s : Nat) : Int) ≤ 8 := by omega
          simp only [x77_0, x77_1, x77_3, x77_6, x77_7, x77_10, x77_13, x77_14, x77_17, x77_18, x77_21, x77_22, x77_25, x77_28, x77_29, x77_30, x77_33, x77_34, x77_37, x77_38, x77_41, x77_42, x77_45, x77_48, x77_51, x77_52, x77_53, x77_56, x77_57, x77_58, x77_61, x77_64, x77_65, x77_67, x77_70, x77_71, x77_72, x77_73, x77_75, x77_77, x77_80, x77_81, x77_84, x77_85, x77_86, x77_87, x77_90, x77_91, x77_94, x77_96, x77_97, x77_98, x77_99, x77_102, x77_105, x77_106, ↓reduceIte, Bool.false_eq_true, Nat.reduceAdd, Nat.reduceLT, Nat.reduceLeDiff, Nat.reduceSub, Nat.reduceEqDiff, Int.reduceToNat, Int.reduceEq, Int.reduceLT, Int.reduceLE, Int.reduceAdd, Int.reduceSub, zg, zI, zJ, zR, zst, zkl, zn, zcat, zok, zraw, List.length_cons, List.length_nil, Option.toList, List.nil_append, List.cons_append, true_and, and_true, if_true, if_false, ne_eq, not_true, not_false_eq_true, and_self, true_or, or_true, false_or, or_false, false_and, and_false, h8']
          exact words 0 _ _ (by omega) ⟨rfl, h8, hf, hj, g6, g7 h8, fun j hj => by omega⟩
        · have h8' : ¬ ((enE isLl b n s - s : Nat) : Int) ≤ 8 := by omega
          simp only [x77_0, x77_1, x77_3, x77_6, x77_7, x77_10, x77_13, x77_14, x77_17, x77_18, x77_21, x77_22, x77_25, x77_28, x77_29, x77_30, x77_33, x77_34, x77_37, x77_38, x77_41, x77_42, x77_45, x77_48, x77_51, x77_52, x77_53, x77_56, x77_57, x77_58, x77_61, x77_64, x77_65, x77_67, x77_70, x77_71, x77_72, x77_73, x77_75, x77_77, x77_80, x77_81, x77_84, x77_85, x77_86, x77_87, x77_90, x77_91, x77_94, x77_96, x77_97, x77_98, x77_99, x77_102, x77_105, x77_106, ↓reduceIte, Bool.false_eq_true, Nat.reduceAdd, Nat.reduceLT, Nat.reduceLeDiff, Nat.reduceSub, Nat.reduceEqDiff, Int.reduceToNat, Int.reduceEq, Int.reduceLT, Int.reduceLE, Int.reduceAdd, Int.reduceSub, zg, zI, zJ, zR, zst, zkl, zn, zcat, zok, zraw, List.length_cons, List.length_nil, Option.toList, List.nil_append, List.cons_append, true_and, and_true, if_true, if_false, ne_eq, not_true, not_false_eq_true, and_self, true_or, or_true, false_or, or_false, false_and, and_false, h8']
          have := hQ μ1 hf hj g6 (fun hh => by omega)
          rw [if_pos (by omega)] at this
          exact this
      rw [x77_2]
      by_cases hlt : enE isLl b n s < n
      · have c1 : ¬ (n : Int) ≤ ((enE isLl b n s : Nat) : Int) := by omega
        have i1 : (0 : Int) ≤ ((enE isLl b n s : Nat) : Int) := by omega
        have i2 : ((enE isLl b n s : Nat) : Int) < 2000 := by omega
        have e7 : μ1 7 (enE isLl b n s) = b (enE isLl b n s) := by rw [hf 7 (by decide)]; exact hB.2.1 _ hlt
        have hp : isLl (b (enE isLl b n s)) = false := hb.2.2.2 hlt
        simp only [x77_0, x77_1, x77_3, x77_6, x77_7, x77_10, x77_13, x77_14, x77_17, x77_18, x77_21, x77_22, x77_25, x77_28, x77_29, x77_30, x77_33, x77_34, x77_37, x77_38, x77_41, x77_42, x77_45, x77_48, x77_51, x77_52, x77_53, x77_56, x77_57, x77_58, x77_61, x77_65, x77_67, x77_70, x77_71, x77_72, x77_73, x77_75, x77_77, x77_80, x77_81, x77_84, x77_85, x77_86, x77_87, x77_90, x77_91, x77_94, x77_96, x77_97, x77_98, x77_99, x77_102, x77_105, x77_106, ↓reduceIte, Bool.false_eq_true, Nat.reduceAdd, Nat.reduceLT, Nat.reduceLeDiff, Nat.reduceSub, Nat.reduceEqDiff, Int.reduceToNat, Int.reduceEq, Int.reduceLT, Int.reduceLE, Int.reduceAdd, Int.reduceSub, zg, zI, zJ, zR, zst, zkl, zn, zcat, zok, zraw, List.length_cons, List.length_nil, Option.toList, List.nil_append, List.cons_append, true_and, and_true, if_true, if_false, ne_eq, not_true, not_false_eq_true, and_self, true_or, or_true, false_or, or_false, false_and, and_false, b_2 hc, b_3 hc, b_9 hc, b_12 hc, b_26 hc, b_40 hc, b_46 hc, b_47 hc, b_60 hc, b_62 hc, b_63 hc, b_76 hc, b_77 hc, b_90 hc, b_91 hc, b_104 hc, b_107 hc, b_114 hc, b_115 hc, b_122 hc, b_123 hc, b_131 hc, b_3 hc, r_3_0 hc, x_4 hc, r_3_1 hc, x_5 hc, r_3_2 hc, x_6 hc, r_3_4 hc, x_7 hc, n_7 hc, r_3_5 hc, x_8 hc, x_7 hc i1 i2, g6, e33, c1, e7, Int.toNat_natCast, eLetter, hp, b2, hd0]
        exact fin
      · have c1 : (n : Int) ≤ ((enE isLl b n s : Nat) : Int) := by omega
        simp only [x77_0, x77_1, x77_3, x77_6, x77_7, x77_10, x77_13, x77_14, x77_17, x77_18, x77_21, x77_22, x77_25, x77_28, x77_29, x77_30, x77_33, x77_34, x77_37, x77_38, x77_41, x77_42, x77_45, x77_48, x77_51, x77_52, x77_53, x77_56, x77_57, x77_58, x77_61, x77_65, x77_67, x77_70, x77_71, x77_72, x77_73, x77_75, x77_77, x77_80, x77_81, x77_84, x77_85, x77_86, x77_87, x77_90, x77_91, x77_94, x77_96, x77_97, x77_98, x77_99, x77_102, x77_105, x77_106, ↓reduceIte, Bool.false_eq_true, Nat.reduceAdd, Nat.reduceLT, Nat.reduceLeDiff, Nat.reduceSub, Nat.reduceEqDiff, Int.reduceToNat, Int.reduceEq, Int.reduceLT, Int.reduceLE, Int.reduceAdd, Int.reduceSub, zg, zI, zJ, zR, zst, zkl, zn, zcat, zok, zraw, List.length_cons, List.length_nil, Option.toList, List.nil_append, List.cons_append, true_and, and_true, if_true, if_false, ne_eq, not_true, not_false_eq_true, and_self, true_or, or_true, false_or, or_false, false_and, and_false, b_2 hc, b_3 hc, b_9 hc, b_12 hc, b_26 hc, b_40 hc, b_46 hc, b_47 hc, b_60 hc, b_62 hc, b_63 hc, b_76 hc, b_77 hc, b_90 hc, b_91 hc, b_104 hc, b_107 hc, b_114 hc, b_115 hc, b_122 hc, b_123 hc, b_131 hc, b_3 hc, r_3_0 hc, x_4 hc, r_3_1 hc, x_5 hc, r_3_2 hc, x_6 hc, r_3_4 hc, x_7 hc, n_7 hc, r_3_5 hc, x_8 hc, g6, e33, c1]
        exact fin
  simp only [x77_0, x77_1, x77_3, x77_6, x77_7, x77_10, x77_13, x77_14, x77_17, x77_18, x77_21, x77_22, x77_25, x77_28, x77_29, x77_30, x77_33, x77_34, x77_37, x77_38, x77_41, x77_42, x77_45, x77_48, x77_51, x77_52, x77_53, x77_56, x77_57, x77_58, x77_61, x77_64, x77_65, x77_67, x77_70, x77_71, x77_72, x77_73, x77_75, x77_77, x77_80, x77_81, x77_84, x77_85, x77_86, x77_87, x77_90, x77_91, x77_94, x77_96, x77_97, x77_98, x77_99, x77_102, x77_105, x77_106, ↓reduceIte, Bool.false_eq_true, Nat.reduceAdd, Nat.reduceLT, Nat.reduceLeDiff, Nat.reduceSub, Nat.reduceEqDiff, Int.reduceToNat, Int.reduceEq, Int.reduceLT, Int.reduceLE, Int.reduceAdd, Int.reduceSub, zg, zI, zJ, zR, zst, zkl, zn, zcat, zok, zraw, List.length_cons, List.length_nil, Option.toList, List.nil_append, List.cons_append, true_and, and_true, if_true, if_false, ne_eq, not_true, not_false_eq_true, and_self, true_or, or_true, false_or, or_false, false_and, and_false]
  exact key 0 _ _ (by omega) ⟨rfl, Fr.refl, fun _ _ _ => rfl, by rw [Nat.add_zero]; exact h6, fun _ => by rw [h7]; rfl⟩
end SC
