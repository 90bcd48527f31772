/-! CALLS: worst -/
/-- the first of the greatest -/
def bsO (f : Nat → Int) : Nat → Nat
  | 0 => 0
  | k + 1 => if f (bsO f k) < f (k + 1) then k + 1 else bsO f k
theorem bs_p (f : Nat → Int) : ∀ k, bsO f k ≤ k ∧ (∀ j, j ≤ k → f j ≤ f (bsO f k)) ∧ ∀ j, j < bsO f k → f j < f (bsO f k) := by
  intro k
  induction k with
  | zero => exact ⟨Nat.le_refl _, fun j hj => by have : j = 0 := by omega
                                                 rw [this]; exact Int.le_refl _, fun j hj => absurd hj (Nat.not_lt_zero _)⟩
  | succ k ih =>
    obtain ⟨h1, h2, h3⟩ := ih
    have e : bsO f (k + 1) = if f (bsO f k) < f (k + 1) then k + 1 else bsO f k := rfl
    by_cases hc : f (bsO f k) < f (k + 1)
    · rw [if_pos hc] at e
      rw [e]
      refine ⟨Nat.le_refl _, fun j hj => ?_, fun j hj => ?_⟩
      · by_cases ej : j = k + 1
        · rw [ej]; exact Int.le_refl _
        · have := h2 j (by omega); omega
      · have := h2 j (by omega); omega
    · rw [if_neg hc] at e
      rw [e]
      refine ⟨by omega, fun j hj => ?_, h3⟩
      by_cases ej : j = k + 1
      · rw [ej]; omega
      · exact h2 j (by omega)
/-- as the class finds it -/
def fuO (c : Nat → Int) (cnt : Int → Int) : Nat → Int × Int
  | 0 => (-2, 0)
  | i + 1 => if (fuO c cnt i).2 < cnt (c i) ∨ cnt (c i) = (fuO c cnt i).2 ∧ c i < (fuO c cnt i).1 then (c i, cnt (c i)) else fuO c cnt i
theorem fu_p (c : Nat → Int) (cnt : Int → Int) : ∀ n, (∀ i, i < n → 1 ≤ cnt (c i)) → (0 < n → ∃ j, j < n ∧ (fuO c cnt n).1 = c j ∧ (fuO c cnt n).2 = cnt (c j)) ∧ ∀ j, j < n → cnt (c j) < (fuO c cnt n).2 ∨ cnt (c j) = (fuO c cnt n).2 ∧ (fuO c cnt n).1 ≤ c j := by
  intro n
  induction n with
  | zero => intro _; exact ⟨fun h => absurd h (Nat.lt_irrefl _), fun j hj => absurd hj (Nat.not_lt_zero _)⟩
  | succ n ih =>
    intro hp
    obtain ⟨a1, a2⟩ := ih (fun i hi => hp i (by omega))
    have e : fuO c cnt (n + 1) = if (fuO c cnt n).2 < cnt (c n) ∨ cnt (c n) = (fuO c cnt n).2 ∧ c n < (fuO c cnt n).1 then (c n, cnt (c n)) else fuO c cnt n := rfl
    have hn1 := hp n (by omega)
    by_cases hc : (fuO c cnt n).2 < cnt (c n) ∨ cnt (c n) = (fuO c cnt n).2 ∧ c n < (fuO c cnt n).1
    · rw [if_pos hc] at e
      rw [e]
      refine ⟨fun _ => ⟨n, by omega, rfl, rfl⟩, fun j hj => ?_⟩
      simp only
      by_cases ej : j = n
      · rw [ej]; exact Or.inr ⟨rfl, Int.le_refl _⟩
      · have := a2 j (by omega); omega
    · rw [if_neg hc] at e
      rw [e]
      have hn0 : 0 < n := by
        cases n with
        | zero =>
          exfalso; apply hc; left
          show (0 : Int) < _
          omega
        | succ n => omega
      obtain ⟨j0, k1, k2, k3⟩ := a1 hn0
      refine ⟨fun _ => ⟨j0, by omega, k2, k3⟩, fun j hj => ?_⟩
      by_cases ej : j = n
      · subst ej; omega
      · exact a2 j (by omega)
section WO
variable {θ : zS} {T U : Nat} {σ : zSt} {Q : Option zV → zS → zM → Prop} {μ : zM} {s : Nat} {τ : zT} {ρ : zF} {g w : Int}
theorem hi_ly {n : Nat} {c : Nat → Int} {x : Int} (hc : ∀ i, i < n → clI (c i)) (hx : clI x) : hiC n c x = lyC n c (ixO x) := by
  unfold hiC lyC
  refine sm_congr (fun i hi => ?_)
  by_cases h : c i = x
  · rw [if_pos h, if_pos (by rw [h])]
  · rw [if_neg h, if_neg (fun hh => h (ix_inj (hc i hi) hx hh))]
theorem hi_1 {n i : Nat} {c : Nat → Int} (hi : i < n) : 1 ≤ hiC n c (c i) := by
  have key : ∀ m, i < m → 1 ≤ sm (fun j => if c j = c i then 1 else 0) m := by
    intro m
    induction m with
    | zero => intro h; omega
    | succ m ih =>
      intro h
      simp only [sm]
      have hb := hi_b (m := m) (c := c) (x := c i)
      by_cases e : m = i
      · subst e; rw [if_pos rfl]; omega
      · have := ih (by omega)
        by_cases h2 : c m = c i
        · rw [if_pos h2]; omega
        · rw [if_neg h2]; omega
  exact key n hi
/-- both find the same -/
theorem fu_bs {n : Nat} {c : Nat → Int} (hn : 0 < n) (hc : ∀ i, i < n → clI (c i)) : (fuO c (hiC n c) n).1 = cbO (bsO (lyC n c) 479) := by
  obtain ⟨p1, p2⟩ := fu_p c (hiC n c) n (fun i hi => hi_1 hi)
  obtain ⟨j0, k1, k2, k3⟩ := p1 hn
  obtain ⟨b1, b2, b3⟩ := bs_p (lyC n c) 479
  obtain ⟨b, hb⟩ : ∃ b, b = bsO (lyC n c) 479 := ⟨_, rfl⟩
  rw [← hb] at b1 b2 b3 ⊢
  obtain ⟨cbk, cbi⟩ := cb_ok (b := b) (by omega)
  -- something lies at b
  have h0 : 1 ≤ lyC n c b := by
    have h1 := hi_1 (c := c) hn
    rw [hi_ly hc (hc 0 hn)] at h1
    have := b2 (ixO (c 0)) (by have := (ix_b (hc 0 hn)).1; omega)
    omega
  have hex : ∃ j, j < n ∧ ixO (c j) = b := by
    by_cases hh : ∃ j, j < n ∧ ixO (c j) = b
    · exact hh
    · exfalso
      have : lyC n c b = 0 := by
        unfold lyC
        rw [sm_congr (g := fun _ => 0) (fun i hi => if_neg (fun e => hh ⟨i, hi, e⟩)), sm_zero]
      omega
  obtain ⟨j, hj, ej⟩ := hex
  have ecj : c j = cbO b := by rw [← ej]; exact (cb_ix (hc j hj)).symm
  have m1 : hiC n c (c j) = lyC n c b := by rw [hi_ly hc (hc j hj), ej]
  have m0 : hiC n c (c j0) = lyC n c (ixO (c j0)) := hi_ly hc (hc j0 k1)
  have l0 := b2 (ixO (c j0)) (by have := (ix_b (hc j0 k1)).1; omega)
  have q := p2 j hj
  rw [k3, k2, m0, m1] at q
  rw [k2, ← ecj]
  have e1 : lyC n c b = lyC n c (ixO (c j0)) := by omega
  have e2 : c j0 ≤ c j := by omega
  have e3 : b ≤ ixO (c j0) := by
    by_cases hlt : ixO (c j0) < b
    · have := b3 _ hlt; omega
    · omega
  have e4 : c j ≤ c j0 := ix_le (hc j hj) (hc j0 k1) (by rw [ej]; exact e3)
  omega
theorem cLanded {d n : Nat} {c : Nat → Int} {x : Int} {x2 x3 : zV} (hc : Tc θ) (hL : LD n c μ) (hQ : Q (some (vi (hiC n c x))) θ μ) : Ex d 20 0 [vr 40, vi x, x2, x3] [] θ μ Q := by
  obtain ⟨h36, h3, hi⟩ := hL
  have key : ∀ t L μ1, t ≤ n → (L = [vr 40, vi x, vi (sm (fun i => if c i = x then 1 else 0) t), vi (t : Nat)] ∧ μ1 = μ) → Ex d 20 4 L [] θ μ1 Q := by
    refine Ex_loop (I := fun t L μ1 => L = [vr 40, vi x, vi (sm (fun i => if c i = x then 1 else 0) t), vi (t : Nat)] ∧ μ1 = μ) n ?_ ?_
    · rintro t L μ1 ht ⟨rfl, rfl⟩ hk
      have c1 : ¬ ((n : Nat) : Int) ≤ (t : Int) := by omega
      have i1 : (0 : Int) ≤ (t : Int) := by omega
      have i2 : (t : Int) < 36 := by omega
      have w1 : t < 2147483647 := by omega
      obtain ⟨q, q36, e41, e43, ecl⟩ := hi t ht
      have j1 : (0 : Int) ≤ (q : Int) := by omega
      have j2 : (q : Int) < 36 := by omega
      have hb := hi_b (m := t) (c := c) (x := x)
      have es : sm (fun i => if c i = x then 1 else 0) (t + 1) = sm (fun i => if c i = x then 1 else 0) t + (if c t = x then 1 else 0) := rfl
      rw [x20_4]
      by_cases e : c t = x
      · rw [if_pos e] at es
        have l1 : -2147483648 ≤ sm (fun i => if c i = x then 1 else 0) t + 1 := by omega
        have l2 : sm (fun i => if c i = x then 1 else 0) t + 1 ≤ 2147483647 := by omega
        generalize sm (fun i => if c i = x then 1 else 0) t = S at *
        simp only [x20_0, x20_1, x20_2, x20_3, x20_5, x20_6, x20_9, x20_12, x20_13, x20_16, x20_17, x20_20, x20_21, x20_22, x20_23, x20_24, x20_27, x20_30, x20_33, x20_36, x20_37, ↓reduceIte, Bool.false_eq_true, Nat.reduceAdd, Nat.reduceLT, Nat.reduceLeDiff, Nat.reduceSub, Nat.reduceEqDiff, Int.reduceToNat, Int.reduceEq, Int.reduceLT, Int.reduceLE, Int.reduceAdd, Int.reduceSub, zg, zI, zJ, zR, zst, zkl, zn, zcat, zok, zraw, List.length_cons, List.length_nil, Option.toList, List.nil_append, List.cons_append, true_and, and_true, if_true, if_false, ne_eq, not_true, not_false_eq_true, and_self, true_or, or_true, false_or, or_false, false_and, and_false, b_40 hc, r_40_2 hc, r_40_0 hc, x_41 hc i1 i2, x_43 hc j1 j2, h3, c1, Int.toNat_natCast, e41, e43, e, w32_i l1 l2, w32_s w1]
        exact hk _ _ ⟨by rw [es], rfl⟩
      · rw [if_neg e, Int.add_zero] at es
        generalize sm (fun i => if c i = x then 1 else 0) t = S at *
        simp only [x20_0, x20_1, x20_2, x20_3, x20_5, x20_6, x20_9, x20_12, x20_13, x20_16, x20_17, x20_20, x20_21, x20_22, x20_23, x20_24, x20_27, x20_30, x20_33, x20_36, x20_37, ↓reduceIte, Bool.false_eq_true, Nat.reduceAdd, Nat.reduceLT, Nat.reduceLeDiff, Nat.reduceSub, Nat.reduceEqDiff, Int.reduceToNat, Int.reduceEq, Int.reduceLT, Int.reduceLE, Int.reduceAdd, Int.reduceSub, zg, zI, zJ, zR, zst, zkl, zn, zcat, zok, zraw, List.length_cons, List.length_nil, Option.toList, List.nil_append, List.cons_append, true_and, and_true, if_true, if_false, ne_eq, not_true, not_false_eq_true, and_self, true_or, or_true, false_or, or_false, false_and, and_false, b_40 hc, r_40_2 hc, r_40_0 hc, x_41 hc i1 i2, x_43 hc j1 j2, h3, c1, Int.toNat_natCast, e41, e43, e, w32_s w1]
        exact hk _ _ ⟨by rw [es], rfl⟩
    · rintro L μ1 ⟨rfl, rfl⟩
      rw [x20_4]
      simp only [x20_0, x20_1, x20_2, x20_3, x20_5, x20_6, x20_9, x20_12, x20_13, x20_16, x20_17, x20_20, x20_21, x20_22, x20_23, x20_24, x20_27, x20_30, x20_33, x20_36, x20_37, ↓reduceIte, Bool.false_eq_true, Nat.reduceAdd, Nat.reduceLT, Nat.reduceLeDiff, Nat.reduceSub, Nat.reduceEqDiff, Int.reduceToNat, Int.reduceEq, Int.reduceLT, Int.reduceLE, Int.reduceAdd, Int.reduceSub, zg, zI, zJ, zR, zst, zkl, zn, zcat, zok, zraw, List.length_cons, List.length_nil, Option.toList, List.nil_append, List.cons_append, true_and, and_true, if_true, if_false, ne_eq, not_true, not_false_eq_true, and_self, true_or, or_true, false_or, or_false, false_and, and_false, b_40 hc, h3, Int.le_refl]
      exact hQ
  simp only [x20_0, x20_1, x20_2, x20_3, x20_5, x20_6, x20_9, x20_12, x20_13, x20_16, x20_17, x20_20, x20_21, x20_22, x20_23, x20_24, x20_27, x20_30, x20_33, x20_36, x20_37, ↓reduceIte, Bool.false_eq_true, Nat.reduceAdd, Nat.reduceLT, Nat.reduceLeDiff, Nat.reduceSub, Nat.reduceEqDiff, Int.reduceToNat, Int.reduceEq, Int.reduceLT, Int.reduceLE, Int.reduceAdd, Int.reduceSub, zg, zI, zJ, zR, zst, zkl, zn, zcat, zok, zraw, List.length_cons, List.length_nil, Option.toList, List.nil_append, List.cons_append, true_and, and_true, if_true, if_false, ne_eq, not_true, not_false_eq_true, and_self, true_or, or_true, false_or, or_false, false_and, and_false]
  exact key 0 _ _ (Nat.zero_le _) ⟨rfl, rfl⟩
theorem cFullest {d n : Nat} {c : Nat → Int} {x1 x2 x3 x4 x5 : zV} (hc : Tc θ) (hd : 1 ≤ d) (hL : LD n c μ) (hQ : Q (some (vi (fuO c (hiC n c) n).1)) θ μ) : Ex d 19 0 [vr 40, x1, x2, x3, x4, x5] [] θ μ Q := by
  have hL0 := hL
  have hd0 : 0 < d := by omega
  obtain ⟨h36, h3, hi⟩ := hL
  have key : ∀ t L μ1, t ≤ n → (∃ y4 y5 : zV, L = [vr 40, vi (fuO c (hiC n c) t).1, vi (fuO c (hiC n c) t).2, vi (t : Nat), y4, y5] ∧ μ1 = μ) → Ex d 19 7 L [] θ μ1 Q := by
    refine Ex_loop (I := fun t L μ1 => ∃ y4 y5 : zV, L = [vr 40, vi (fuO c (hiC n c) t).1, vi (fuO c (hiC n c) t).2, vi (t : Nat), y4, y5] ∧ μ1 = μ) n ?_ ?_
    · rintro t L μ1 ht ⟨y4, y5, rfl, rfl⟩ hk
      have c1 : ¬ ((n : Nat) : Int) ≤ (t : Int) := by omega
      have i1 : (0 : Int) ≤ (t : Int) := by omega
      have i2 : (t : Int) < 36 := by omega
      have w1 : t < 2147483647 := by omega
      obtain ⟨q, q36, e41, e43, ecl⟩ := hi t ht
      have j1 : (0 : Int) ≤ (q : Int) := by omega
      have j2 : (q : Int) < 36 := by omega
      have es : fuO c (hiC n c) (t + 1) = if (fuO c (hiC n c) t).2 < hiC n c (c t) ∨ hiC n c (c t) = (fuO c (hiC n c) t).2 ∧ c t < (fuO c (hiC n c) t).1 then (c t, hiC n c (c t)) else fuO c (hiC n c) t := rfl
      rw [x19_7]
      simp only [x19_0, x19_2, x19_3, x19_4, x19_5, x19_6, x19_8, x19_9, x19_12, x19_15, x19_16, x19_19, x19_20, x19_23, x19_24, x19_25, x19_26, x19_28, x19_29, x19_31, x19_34, x19_36, x19_38, x19_39, x19_42, x19_44, x19_45, x19_48, x19_50, x19_51, x19_54, x19_56, x19_57, x19_59, x19_60, x19_63, x19_66, x19_67, ↓reduceIte, Bool.false_eq_true, Nat.reduceAdd, Nat.reduceLT, Nat.reduceLeDiff, Nat.reduceSub, Nat.reduceEqDiff, Int.reduceToNat, Int.reduceEq, Int.reduceLT, Int.reduceLE, Int.reduceAdd, Int.reduceSub, zg, zI, zJ, zR, zst, zkl, zn, zcat, zok, zraw, List.length_cons, List.length_nil, Option.toList, List.nil_append, List.cons_append, true_and, and_true, if_true, if_false, ne_eq, not_true, not_false_eq_true, and_self, true_or, or_true, false_or, or_false, false_and, and_false, b_40 hc, r_40_2 hc, r_40_0 hc, x_41 hc i1 i2, x_43 hc j1 j2, h3, c1, Int.toNat_natCast, e41, e43, hd0, zkl]
      refine cLanded (d := d - 1) hc hL0 ?_
      by_cases p : (fuO c (hiC n c) t).2 < hiC n c (c t)
      · rw [if_pos (Or.inl p)] at es
        simp only [x19_0, x19_2, x19_3, x19_4, x19_5, x19_6, x19_8, x19_9, x19_12, x19_15, x19_16, x19_19, x19_20, x19_23, x19_24, x19_25, x19_26, x19_28, x19_29, x19_31, x19_34, x19_36, x19_38, x19_39, x19_42, x19_44, x19_45, x19_48, x19_50, x19_51, x19_54, x19_56, x19_57, x19_59, x19_60, x19_63, x19_66, x19_67, ↓reduceIte, Bool.false_eq_true, Nat.reduceAdd, Nat.reduceLT, Nat.reduceLeDiff, Nat.reduceSub, Nat.reduceEqDiff, Int.reduceToNat, Int.reduceEq, Int.reduceLT, Int.reduceLE, Int.reduceAdd, Int.reduceSub, zg, zI, zJ, zR, zst, zkl, zn, zcat, zok, zraw, List.length_cons, List.length_nil, Option.toList, List.nil_append, List.cons_append, true_and, and_true, if_true, if_false, ne_eq, not_true, not_false_eq_true, and_self, true_or, or_true, false_or, or_false, false_and, and_false, p, zkl, w32_s w1]
        exact hk _ _ ⟨_, _, by rw [es], rfl⟩
      · by_cases p2 : hiC n c (c t) = (fuO c (hiC n c) t).2
        · have p3 : ¬ (fuO c (hiC n c) t).2 < (fuO c (hiC n c) t).2 := Int.lt_irrefl _
          by_cases p4 : c t < (fuO c (hiC n c) t).1
          · rw [if_pos (Or.inr ⟨p2, p4⟩)] at es
            have p5 : ¬ (fuO c (hiC n c) t).1 ≤ c t := by omega
            simp only [x19_0, x19_2, x19_3, x19_4, x19_5, x19_6, x19_8, x19_9, x19_12, x19_15, x19_16, x19_19, x19_20, x19_23, x19_24, x19_25, x19_26, x19_28, x19_29, x19_31, x19_34, x19_36, x19_38, x19_39, x19_42, x19_44, x19_45, x19_48, x19_50, x19_51, x19_54, x19_56, x19_57, x19_59, x19_60, x19_63, x19_66, x19_67, ↓reduceIte, Bool.false_eq_true, Nat.reduceAdd, Nat.reduceLT, Nat.reduceLeDiff, Nat.reduceSub, Nat.reduceEqDiff, Int.reduceToNat, Int.reduceEq, Int.reduceLT, Int.reduceLE, Int.reduceAdd, Int.reduceSub, zg, zI, zJ, zR, zst, zkl, zn, zcat, zok, zraw, List.length_cons, List.length_nil, Option.toList, List.nil_append, List.cons_append, true_and, and_true, if_true, if_false, ne_eq, not_true, not_false_eq_true, and_self, true_or, or_true, false_or, or_false, false_and, and_false, p2, p3, p5, zkl, w32_s w1]
            exact hk _ _ ⟨_, _, by rw [es, p2], rfl⟩
          · rw [if_neg (fun hh => hh.elim p (fun h2 => p4 h2.2))] at es
            have p5 : (fuO c (hiC n c) t).1 ≤ c t := by omega
            simp only [x19_0, x19_2, x19_3, x19_4, x19_5, x19_6, x19_8, x19_9, x19_12, x19_15, x19_16, x19_19, x19_20, x19_23, x19_24, x19_25, x19_26, x19_28, x19_29, x19_31, x19_34, x19_36, x19_38, x19_39, x19_42, x19_44, x19_45, x19_48, x19_50, x19_51, x19_54, x19_56, x19_57, x19_59, x19_60, x19_63, x19_66, x19_67, ↓reduceIte, Bool.false_eq_true, Nat.reduceAdd, Nat.reduceLT, Nat.reduceLeDiff, Nat.reduceSub, Nat.reduceEqDiff, Int.reduceToNat, Int.reduceEq, Int.reduceLT, Int.reduceLE, Int.reduceAdd, Int.reduceSub, zg, zI, zJ, zR, zst, zkl, zn, zcat, zok, zraw, List.length_cons, List.length_nil, Option.toList, List.nil_append, List.cons_append, true_and, and_true, if_true, if_false, ne_eq, not_true, not_false_eq_true, and_self, true_or, or_true, false_or, or_false, false_and, and_false, p2, p3, p5, zkl, w32_s w1]
            exact hk _ _ ⟨_, _, by rw [es], rfl⟩
        · rw [if_neg (fun hh => hh.elim p (fun h2 => p2 h2.1))] at es
          simp only [x19_0, x19_2, x19_3, x19_4, x19_5, x19_6, x19_8, x19_9, x19_12, x19_15, x19_16, x19_19, x19_20, x19_23, x19_24, x19_25, x19_26, x19_28, x19_29, x19_31, x19_34, x19_36, x19_38, x19_39, x19_42, x19_44, x19_45, x19_48, x19_50, x19_51, x19_54, x19_56, x19_57, x19_59, x19_60, x19_63, x19_66, x19_67, ↓reduceIte, Bool.false_eq_true, Nat.reduceAdd, Nat.reduceLT, Nat.reduceLeDiff, Nat.reduceSub, Nat.reduceEqDiff, Int.reduceToNat, Int.reduceEq, Int.reduceLT, Int.reduceLE, Int.reduceAdd, Int.reduceSub, zg, zI, zJ, zR, zst, zkl, zn, zcat, zok, zraw, List.length_cons, List.length_nil, Option.toList, List.nil_append, List.cons_append, true_and, and_true, if_true, if_false, ne_eq, not_true, not_false_eq_true, and_self, true_or, or_true, false_or, or_false, false_and, and_false, p, p2, zkl, w32_s w1]
          exact hk _ _ ⟨_, _, by rw [es], rfl⟩
    · rintro L μ1 ⟨y4, y5, rfl, rfl⟩
      rw [x19_7]
      simp only [x19_0, x19_2, x19_3, x19_4, x19_5, x19_6, x19_8, x19_9, x19_12, x19_15, x19_16, x19_19, x19_20, x19_23, x19_24, x19_25, x19_26, x19_28, x19_29, x19_31, x19_34, x19_36, x19_38, x19_39, x19_42, x19_44, x19_45, x19_48, x19_50, x19_51, x19_54, x19_56, x19_57, x19_59, x19_60, x19_63, x19_66, x19_67, ↓reduceIte, Bool.false_eq_true, Nat.reduceAdd, Nat.reduceLT, Nat.reduceLeDiff, Nat.reduceSub, Nat.reduceEqDiff, Int.reduceToNat, Int.reduceEq, Int.reduceLT, Int.reduceLE, Int.reduceAdd, Int.reduceSub, zg, zI, zJ, zR, zst, zkl, zn, zcat, zok, zraw, List.length_cons, List.length_nil, Option.toList, List.nil_append, List.cons_append, true_and, and_true, if_true, if_false, ne_eq, not_true, not_false_eq_true, and_self, true_or, or_true, false_or, or_false, false_and, and_false, b_40 hc, h3, Int.le_refl]
      exact hQ
  simp only [x19_0, x19_2, x19_3, x19_4, x19_5, x19_6, x19_8, x19_9, x19_12, x19_15, x19_16, x19_19, x19_20, x19_23, x19_24, x19_25, x19_26, x19_28, x19_29, x19_31, x19_34, x19_36, x19_38, x19_39, x19_42, x19_44, x19_45, x19_48, x19_50, x19_51, x19_54, x19_56, x19_57, x19_59, x19_60, x19_63, x19_66, x19_67, ↓reduceIte, Bool.false_eq_true, Nat.reduceAdd, Nat.reduceLT, Nat.reduceLeDiff, Nat.reduceSub, Nat.reduceEqDiff, Int.reduceToNat, Int.reduceEq, Int.reduceLT, Int.reduceLE, Int.reduceAdd, Int.reduceSub, zg, zI, zJ, zR, zst, zkl, zn, zcat, zok, zraw, List.length_cons, List.length_nil, Option.toList, List.nil_append, List.cons_append, true_and, and_true, if_true, if_false, ne_eq, not_true, not_false_eq_true, and_self, true_or, or_true, false_or, or_false, false_and, and_false]
  exact key 0 _ _ (Nat.zero_le _) ⟨x4, x5, rfl, rfl⟩
/-- worst -/
def woO (τ : zT) (ρ : zF) (g w : Int) : Int := if foO τ ρ g w (gnO τ ρ) = 0 then -2 else cbO (bsO (lyO τ ρ g w) 479)
def vWorst (σ : zSt) (g w : Int) : Int := if (0 ≤ g ∧ g ≤ 99) ∧ (0 ≤ w ∧ w ≤ 3) then woO (sT σ) (gR (sG σ)) g w else -1
theorem kWorst {D : Nat} {g w : Int} (h : CS θ T U σ μ) (hd : 7 ≤ D) (hQ : ∀ μ', CL μ μ' → CS θ T U σ μ' → Q (some (vi (vWorst σ g w))) θ μ') : Ex D 125 0 [vr 2, vi g, vi w] [] θ μ Q := by
  have hc := h.1.1.1
  have hd0 : 0 < D := by omega
  unfold vWorst at hQ
  by_cases q0 : 0 ≤ g ∧ g ≤ 99
  · by_cases q1 : 0 ≤ w ∧ w ≤ 3
    · rw [if_pos ⟨q0, q1⟩] at hQ
      simp only [x125_0, x125_1, x125_4, x125_7, x125_8, x125_11, x125_14, x125_15, x125_16, x125_17, x125_20, x125_21, x125_24, x125_27, x125_28, x125_29, x125_30, x125_33, x125_34, x125_37, x125_40, ↓reduceIte, Bool.false_eq_true, Nat.reduceAdd, Nat.reduceLT, Nat.reduceLeDiff, Nat.reduceSub, Nat.reduceEqDiff, Int.reduceToNat, Int.reduceEq, Int.reduceLT, Int.reduceLE, Int.reduceAdd, Int.reduceSub, zg, zI, zJ, zR, zst, zkl, zn, zcat, zok, zraw, List.length_cons, List.length_nil, Option.toList, List.nil_append, List.cons_append, true_and, and_true, if_true, if_false, ne_eq, not_true, not_false_eq_true, and_self, true_or, or_true, false_or, or_false, false_and, and_false, b_2 hc, b_3 hc, b_9 hc, b_12 hc, b_26 hc, b_40 hc, b_46 hc, b_47 hc, b_60 hc, b_62 hc, b_63 hc, b_76 hc, b_77 hc, b_90 hc, b_91 hc, b_104 hc, b_107 hc, b_114 hc, b_115 hc, b_122 hc, b_123 hc, b_131 hc, b_2 hc, r_2_0 hc, r_2_1 hc, r_2_2 hc, r_2_3 hc, r_2_4 hc, r_2_5 hc, x_61 hc, n_61 hc, r_2_6 hc, r_2_7 hc, r_2_8 hc, r_2_9 hc, b_46 hc, r_46_0 hc, r_46_1 hc, x_54 hc, r_46_2 hc, x_55 hc, r_46_3 hc, x_56 hc, r_46_4 hc, x_57 hc, r_46_5 hc, x_58 hc, r_46_6 hc, x_59 hc, hd0, cIsGust, cIsWay, if_pos q0, if_pos q1]
      refine cRun (d := D - 1) (ρ := gR (sG σ)) h.1 h.2.2.1.1 (by omega) q0 q1 (Or.inr rfl) (fun μ1 hf hR => ?_)
      have hq := hQ μ1 (CL_fr hf (by decide)) (CS_fr h hf (by decide))
      have hLD := LD_of h.1.2.1 q1 hR
      simp only [x125_0, x125_1, x125_4, x125_7, x125_8, x125_11, x125_14, x125_15, x125_16, x125_17, x125_20, x125_21, x125_24, x125_27, x125_28, x125_29, x125_30, x125_33, x125_34, x125_37, x125_40, ↓reduceIte, Bool.false_eq_true, Nat.reduceAdd, Nat.reduceLT, Nat.reduceLeDiff, Nat.reduceSub, Nat.reduceEqDiff, Int.reduceToNat, Int.reduceEq, Int.reduceLT, Int.reduceLE, Int.reduceAdd, Int.reduceSub, zg, zI, zJ, zR, zst, zkl, zn, zcat, zok, zraw, List.length_cons, List.length_nil, Option.toList, List.nil_append, List.cons_append, true_and, and_true, if_true, if_false, ne_eq, not_true, not_false_eq_true, and_self, true_or, or_true, false_or, or_false, false_and, and_false, b_2 hc, r_2_3 hc, b_40 hc, hd0]
      refine cFullest (d := D - 1) hc (by omega) hLD ?_
      simp only [x125_0, x125_1, x125_4, x125_7, x125_8, x125_11, x125_14, x125_15, x125_16, x125_17, x125_20, x125_21, x125_24, x125_27, x125_28, x125_29, x125_30, x125_33, x125_34, x125_37, x125_40, ↓reduceIte, Bool.false_eq_true, Nat.reduceAdd, Nat.reduceLT, Nat.reduceLeDiff, Nat.reduceSub, Nat.reduceEqDiff, Int.reduceToNat, Int.reduceEq, Int.reduceLT, Int.reduceLE, Int.reduceAdd, Int.reduceSub, zg, zI, zJ, zR, zst, zkl, zn, zcat, zok, zraw, List.length_cons, List.length_nil, Option.toList, List.nil_append, List.cons_append, true_and, and_true, if_true, if_false, ne_eq, not_true, not_false_eq_true, and_self, true_or, or_true, false_or, or_false, false_and, and_false]
      unfold woO at hq
      have hly : lyO (sT σ) (gR (sG σ)) g w = lyC (foO (sT σ) (gR (sG σ)) g w (gnO (sT σ) (gR (sG σ)))) (cAt2 (sT σ) (gR (sG σ)) g w) := funext ly_eq
      rw [hly] at hq
      generalize foO (sT σ) (gR (sG σ)) g w (gnO (sT σ) (gR (sG σ))) = n at hq hLD ⊢
      generalize cAt2 (sT σ) (gR (sG σ)) g w = c at hq hLD ⊢
      by_cases hn : n = 0
      · subst hn
        rw [if_pos rfl] at hq
        exact hq
      · rw [if_neg hn] at hq
        rw [fu_bs (by omega) (fun i hi => by obtain ⟨_, _, _, _, hcl⟩ := hLD.2.2 i hi; exact hcl)]
        exact hq
    · rw [if_neg (fun hh => q1 hh.2)] at hQ
      simp only [x125_0, x125_1, x125_4, x125_7, x125_8, x125_11, x125_14, x125_15, x125_16, x125_17, x125_20, x125_21, x125_24, x125_27, x125_28, x125_29, x125_30, x125_33, x125_34, x125_37, x125_40, ↓reduceIte, Bool.false_eq_true, Nat.reduceAdd, Nat.reduceLT, Nat.reduceLeDiff, Nat.reduceSub, Nat.reduceEqDiff, Int.reduceToNat, Int.reduceEq, Int.reduceLT, Int.reduceLE, Int.reduceAdd, Int.reduceSub, zg, zI, zJ, zR, zst, zkl, zn, zcat, zok, zraw, List.length_cons, List.length_nil, Option.toList, List.nil_append, List.cons_append, true_and, and_true, if_true, if_false, ne_eq, not_true, not_false_eq_true, and_self, true_or, or_true, false_or, or_false, false_and, and_false, hd0, cIsGust, cIsWay, if_pos q0, if_neg q1]
      exact hQ μ (fun _ _ => rfl) h
  · rw [if_neg (fun hh => q0 hh.1)] at hQ
    simp only [x125_0, x125_1, x125_4, x125_7, x125_8, x125_11, x125_14, x125_15, x125_16, x125_17, x125_20, x125_21, x125_24, x125_27, x125_28, x125_29, x125_30, x125_33, x125_34, x125_37, x125_40, ↓reduceIte, Bool.false_eq_true, Nat.reduceAdd, Nat.reduceLT, Nat.reduceLeDiff, Nat.reduceSub, Nat.reduceEqDiff, Int.reduceToNat, Int.reduceEq, Int.reduceLT, Int.reduceLE, Int.reduceAdd, Int.reduceSub, zg, zI, zJ, zR, zst, zkl, zn, zcat, zok, zraw, List.length_cons, List.length_nil, Option.toList, List.nil_append, List.cons_append, true_and, and_true, if_true, if_false, ne_eq, not_true, not_false_eq_true, and_self, true_or, or_true, false_or, or_false, false_and, and_false, hd0, cIsGust, if_neg q0]
    exact hQ μ (fun _ _ => rfl) h
theorem mLies {d : Nat} {x1 : zV} (h : MX θ τ s μ) (hd : 2 ≤ d) (h0 : 0 ≤ w ∧ w ≤ 3) (hF : FU τ ρ g w (gnO τ ρ) μ) (hQ : ∀ μ', Fr [187] μ μ' → (∀ k, k < 480 → μ' 187 k = lyO τ ρ g w k) → Q none θ μ') : Ex d 243 0 [vr 138, x1] [] θ μ Q := by
  have hm := h.1
  have hw := h.2.1
  have hn := tn_b hw
  have hd0 : 0 < d := by omega
  have fin : ∀ t L μ1, t ≤ tn τ → (L = [vr 138, vi (t : Nat)] ∧ Fr [187] μ μ1 ∧ ∀ k, k < 480 → μ1 187 k = sm (fun t => if (rnO τ ρ g w (gnO τ ρ) 36 t).isSome = true ∧ ixO (lnO τ ρ g w t) = k then 1 else 0) t) → Ex d 243 24 L [] θ μ1 Q := by
    refine Ex_loop (I := fun t L μ1 => L = [vr 138, vi (t : Nat)] ∧ Fr [187] μ μ1 ∧ ∀ k, k < 480 → μ1 187 k = sm (fun t => if (rnO τ ρ g w (gnO τ ρ) 36 t).isSome = true ∧ ixO (lnO τ ρ g w t) = k then 1 else 0) t) (tn τ) ?_ ?_
    · rintro t L μ1 ht ⟨rfl, f, hk0⟩ hk
      have X1 : MX θ τ s μ1 := MX_fr h f (by decide) (by rw [f 138 (by decide)])
      have c1 : ¬ ((tn τ : Int) ≤ (t : Int)) := by omega
      have i1 : (0 : Int) ≤ (t : Int) := by omega
      have i2 : (t : Int) < 36 := by omega
      have w1 : t < 2147483647 := by omega
      have e185 : μ1 185 t = rnM (rnO τ ρ g w (gnO τ ρ) 36 t) := by rw [f 185 (by decide)]; exact hF.2.1 t ht
      rw [x243_24]
      cases hq : rnO τ ρ g w (gnO τ ρ) 36 t with
      | none =>
        rw [hq] at e185
        have e185' : μ1 185 t = -1 := e185
        simp only [x243_0, x243_1, x243_3, x243_6, x243_9, x243_10, x243_13, x243_14, x243_15, x243_16, x243_19, x243_22, x243_23, x243_25, x243_26, x243_29, x243_32, x243_33, x243_36, x243_37, x243_38, x243_39, x243_42, x243_43, x243_46, x243_47, x243_50, x243_51, x243_52, x243_55, x243_56, x243_57, x243_58, x243_59, x243_60, x243_63, x243_66, ↓reduceIte, Bool.false_eq_true, Nat.reduceAdd, Nat.reduceLT, Nat.reduceLeDiff, Nat.reduceSub, Nat.reduceEqDiff, Int.reduceToNat, Int.reduceEq, Int.reduceLT, Int.reduceLE, Int.reduceAdd, Int.reduceSub, zg, zI, zJ, zR, zst, zkl, zn, zcat, zok, zraw, List.length_cons, List.length_nil, Option.toList, List.nil_append, List.cons_append, true_and, and_true, if_true, if_false, ne_eq, not_true, not_false_eq_true, and_self, true_or, or_true, false_or, or_false, false_and, and_false, b_138 hm, hd0, mTiles _ X1, c1, r_138_67 hm, x_185 hm i1 i2, Int.toNat_natCast, e185', w32_s w1]
        refine hk _ _ ⟨rfl, f, fun k hk480 => ?_⟩
        simp only [sm]
        rw [hk0 k hk480, if_neg (fun hh => by rw [hq] at hh; cases hh.1), Int.add_zero]
      | some q =>
        rw [hq] at e185
        have e185' : ¬ μ1 185 t = -1 := by rw [e185]; simp [rnM]
        have ec : lnO τ ρ g w t = ceO τ ρ (loO τ ρ g w (gnO τ ρ) q) t g w := by unfold lnO; rw [hq]
        have e186 : μ1 186 t = lnO τ ρ g w t := by rw [f 186 (by decide), ec]; exact hF.2.2.1 t ht q hq
        have hcl : clI (lnO τ ρ g w t) := by rw [ec]; exact ce_ok hw ht h0
        have hb := (ix_b hcl).1
        have j1 : (0 : Int) ≤ ((ixO (lnO τ ρ g w t) : Nat) : Int) := by omega
        have j2 : ((ixO (lnO τ ρ g w t) : Nat) : Int) < 480 := by omega
        have eo := hk0 _ hb
        have hsb : 0 ≤ sm (fun q => if (rnO τ ρ g w (gnO τ ρ) 36 q).isSome = true ∧ ixO (lnO τ ρ g w q) = ixO (lnO τ ρ g w t) then (1 : Int) else 0) t ∧ sm (fun q => if (rnO τ ρ g w (gnO τ ρ) 36 q).isSome = true ∧ ixO (lnO τ ρ g w q) = ixO (lnO τ ρ g w t) then (1 : Int) else 0) t ≤ t := by
          refine ⟨sm_nn (fun i _ => ?_), ?_⟩
          · by_cases hh : (rnO τ ρ g w (gnO τ ρ) 36 i).isSome = true ∧ ixO (lnO τ ρ g w i) = ixO (lnO τ ρ g w t)
            · rw [if_pos hh]; decide
            · rw [if_neg hh]; decide
          · have := sm_le (f := fun q => if (rnO τ ρ g w (gnO τ ρ) 36 q).isSome = true ∧ ixO (lnO τ ρ g w q) = ixO (lnO τ ρ g w t) then (1 : Int) else 0) (n := t) (b := 1) (fun i _ => by
              by_cases hh : (rnO τ ρ g w (gnO τ ρ) 36 i).isSome = true ∧ ixO (lnO τ ρ g w i) = ixO (lnO τ ρ g w t)
              · simp only [if_pos hh]; decide
              · simp only [if_neg hh]; decide)
            omega
        rw [← eo] at hsb
        have l1 : -2147483648 ≤ μ1 187 (ixO (lnO τ ρ g w t)) + 1 := by omega
        have l2 : μ1 187 (ixO (lnO τ ρ g w t)) + 1 ≤ 2147483647 := by omega
        simp only [x243_0, x243_1, x243_3, x243_6, x243_9, x243_10, x243_13, x243_14, x243_15, x243_16, x243_19, x243_22, x243_23, x243_25, x243_26, x243_29, x243_32, x243_33, x243_36, x243_37, x243_38, x243_39, x243_42, x243_43, x243_46, x243_47, x243_50, x243_51, x243_52, x243_55, x243_56, x243_57, x243_58, x243_59, x243_60, x243_63, x243_66, ↓reduceIte, Bool.false_eq_true, Nat.reduceAdd, Nat.reduceLT, Nat.reduceLeDiff, Nat.reduceSub, Nat.reduceEqDiff, Int.reduceToNat, Int.reduceEq, Int.reduceLT, Int.reduceLE, Int.reduceAdd, Int.reduceSub, zg, zI, zJ, zR, zst, zkl, zn, zcat, zok, zraw, List.length_cons, List.length_nil, Option.toList, List.nil_append, List.cons_append, true_and, and_true, if_true, if_false, ne_eq, not_true, not_false_eq_true, and_self, true_or, or_true, false_or, or_false, false_and, and_false, b_138 hm, hd0, mTiles _ X1, c1, r_138_67 hm, r_138_68 hm, r_138_70 hm, x_185 hm i1 i2, x_186 hm i1 i2, Int.toNat_natCast, e185', e186, mYardOf _ hcl, x_187 hm j1 j2, w32_i l1 l2, w32_s w1, ua_eq]
        refine hk _ _ ⟨rfl, f.trans (Fr.us (by simp) Fr.refl), fun k hk480 => ?_⟩
        simp only [sm]
        rw [us_same]
        by_cases ek : k = ixO (lnO τ ρ g w t)
        · rw [zup_same ek, if_pos ⟨by rw [hq]; rfl, ek.symm⟩, hk0 _ hb, ek]
        · rw [zup_ne ek, if_neg (fun hh => ek hh.2.symm), hk0 k hk480, Int.add_zero]
    · rintro L μ1 ⟨rfl, f, hk0⟩
      have X1 : MX θ τ s μ1 := MX_fr h f (by decide) (by rw [f 138 (by decide)])
      rw [x243_24]
      simp only [x243_0, x243_1, x243_3, x243_6, x243_9, x243_10, x243_13, x243_14, x243_15, x243_16, x243_19, x243_22, x243_23, x243_25, x243_26, x243_29, x243_32, x243_33, x243_36, x243_37, x243_38, x243_39, x243_42, x243_43, x243_46, x243_47, x243_50, x243_51, x243_52, x243_55, x243_56, x243_57, x243_58, x243_59, x243_60, x243_63, x243_66, ↓reduceIte, Bool.false_eq_true, Nat.reduceAdd, Nat.reduceLT, Nat.reduceLeDiff, Nat.reduceSub, Nat.reduceEqDiff, Int.reduceToNat, Int.reduceEq, Int.reduceLT, Int.reduceLE, Int.reduceAdd, Int.reduceSub, zg, zI, zJ, zR, zst, zkl, zn, zcat, zok, zraw, List.length_cons, List.length_nil, Option.toList, List.nil_append, List.cons_append, true_and, and_true, if_true, if_false, ne_eq, not_true, not_false_eq_true, and_self, true_or, or_true, false_or, or_false, false_and, and_false, b_138 hm, hd0, mTiles _ X1, Int.le_refl]
      exact hQ μ1 f hk0
  have zero : ∀ t L μ1, t ≤ 480 → (L = [vr 138, vi (t : Nat)] ∧ Fr [187] μ μ1 ∧ ∀ k, k < t → μ1 187 k = 0) → Ex d 243 2 L [] θ μ1 Q := by
    refine Ex_loop (I := fun t L μ1 => L = [vr 138, vi (t : Nat)] ∧ Fr [187] μ μ1 ∧ ∀ k, k < t → μ1 187 k = 0) 480 ?_ ?_
    · rintro t L μ1 ht ⟨rfl, f, hk0⟩ hk
      have c1 : ¬ (480 : Int) ≤ (t : Int) := by omega
      have i1 : (0 : Int) ≤ (t : Int) := by omega
      have i2 : (t : Int) < 480 := by omega
      have w1 : t < 2147483647 := by omega
      rw [x243_2]
      simp only [x243_0, x243_1, x243_3, x243_6, x243_9, x243_10, x243_13, x243_14, x243_15, x243_16, x243_19, x243_22, x243_23, x243_25, x243_26, x243_29, x243_32, x243_33, x243_36, x243_37, x243_38, x243_39, x243_42, x243_43, x243_46, x243_47, x243_50, x243_51, x243_52, x243_55, x243_56, x243_57, x243_58, x243_59, x243_60, x243_63, x243_66, ↓reduceIte, Bool.false_eq_true, Nat.reduceAdd, Nat.reduceLT, Nat.reduceLeDiff, Nat.reduceSub, Nat.reduceEqDiff, Int.reduceToNat, Int.reduceEq, Int.reduceLT, Int.reduceLE, Int.reduceAdd, Int.reduceSub, zg, zI, zJ, zR, zst, zkl, zn, zcat, zok, zraw, List.length_cons, List.length_nil, Option.toList, List.nil_append, List.cons_append, true_and, and_true, if_true, if_false, ne_eq, not_true, not_false_eq_true, and_self, true_or, or_true, false_or, or_false, false_and, and_false, b_138 hm, r_138_70 hm, x_187 hm i1 i2, c1, Int.toNat_natCast, ua_eq, w32_s w1]
      refine hk _ _ ⟨rfl, f.trans (Fr.us (by simp) Fr.refl), fun k hk2 => ?_⟩
      rw [us_same]
      by_cases e : k = t
      · rw [zup_same e]
      · rw [zup_ne e]; exact hk0 k (by omega)
    · rintro L μ1 ⟨rfl, f, hk0⟩
      rw [x243_2]
      simp only [x243_0, x243_1, x243_3, x243_6, x243_9, x243_10, x243_13, x243_14, x243_15, x243_16, x243_19, x243_22, x243_23, x243_25, x243_26, x243_29, x243_32, x243_33, x243_36, x243_37, x243_38, x243_39, x243_42, x243_43, x243_46, x243_47, x243_50, x243_51, x243_52, x243_55, x243_56, x243_57, x243_58, x243_59, x243_60, x243_63, x243_66, ↓reduceIte, Bool.false_eq_true, Nat.reduceAdd, Nat.reduceLT, Nat.reduceLeDiff, Nat.reduceSub, Nat.reduceEqDiff, Int.reduceToNat, Int.reduceEq, Int.reduceLT, Int.reduceLE, Int.reduceAdd, Int.reduceSub, zg, zI, zJ, zR, zst, zkl, zn, zcat, zok, zraw, List.length_cons, List.length_nil, Option.toList, List.nil_append, List.cons_append, true_and, and_true, if_true, if_false, ne_eq, not_true, not_false_eq_true, and_self, true_or, or_true, false_or, or_false, false_and, and_false, show ((480 : Nat) : Int) = 480 from rfl, Int.le_refl]
      exact fin 0 _ _ (Nat.zero_le _) ⟨rfl, f, fun k hk => hk0 k hk⟩
  simp only [x243_0, x243_1, x243_3, x243_6, x243_9, x243_10, x243_13, x243_14, x243_15, x243_16, x243_19, x243_22, x243_23, x243_25, x243_26, x243_29, x243_32, x243_33, x243_36, x243_37, x243_38, x243_39, x243_42, x243_43, x243_46, x243_47, x243_50, x243_51, x243_52, x243_55, x243_56, x243_57, x243_58, x243_59, x243_60, x243_63, x243_66, ↓reduceIte, Bool.false_eq_true, Nat.reduceAdd, Nat.reduceLT, Nat.reduceLeDiff, Nat.reduceSub, Nat.reduceEqDiff, Int.reduceToNat, Int.reduceEq, Int.reduceLT, Int.reduceLE, Int.reduceAdd, Int.reduceSub, zg, zI, zJ, zR, zst, zkl, zn, zcat, zok, zraw, List.length_cons, List.length_nil, Option.toList, List.nil_append, List.cons_append, true_and, and_true, if_true, if_false, ne_eq, not_true, not_false_eq_true, and_self, true_or, or_true, false_or, or_false, false_and, and_false]
  exact zero 0 _ _ (Nat.zero_le _) ⟨rfl, Fr.refl, fun k hk => absurd hk (Nat.not_lt_zero _)⟩
theorem rWorst {D : Nat} {g w : Int} {x3 x4 : zV} (h : MS θ σ s μ) (hd : 11 ≤ D) (hQ : ∀ μ', ML2 μ μ' → MS θ σ s μ' → Q (some (vi (vWorst σ g w))) θ μ') : Ex D 244 0 [vr 138, vi g, vi w, x3, x4] [] θ μ Q := by
  have hm := h.1.1
  have hd0 : 0 < D := by omega
  have hd1 : 0 < D - 1 := by omega
  unfold vWorst at hQ
  by_cases q0 : (0 ≤ g ∧ g ≤ 99) ∧ (0 ≤ w ∧ w ≤ 3)
  · rw [if_pos q0] at hQ
    unfold woO at hQ
    simp only [x244_0, x244_1, x244_2, x244_5, x244_8, x244_9, x244_10, x244_11, x244_12, x244_13, x244_16, x244_19, x244_21, x244_22, x244_23, x244_26, x244_27, x244_28, x244_29, x244_33, x244_36, x244_39, x244_40, x244_43, x244_45, x244_46, x244_47, x244_50, x244_51, x244_52, x244_55, x244_57, x244_58, x244_61, x244_64, x244_67, x244_68, x244_70, x244_71, x244_72, x244_74, x244_75, x244_77, x244_78, x244_80, x244_81, x244_82, x244_83, x244_84, x244_86, x244_87, x244_88, ↓reduceIte, Bool.false_eq_true, Nat.reduceAdd, Nat.reduceLT, Nat.reduceLeDiff, Nat.reduceSub, Nat.reduceEqDiff, Int.reduceToNat, Int.reduceEq, Int.reduceLT, Int.reduceLE, Int.reduceAdd, Int.reduceSub, zg, zI, zJ, zR, zst, zkl, zn, zcat, zok, zraw, List.length_cons, List.length_nil, Option.toList, List.nil_append, List.cons_append, true_and, and_true, if_true, if_false, ne_eq, not_true, not_false_eq_true, and_self, true_or, or_true, false_or, or_false, false_and, and_false, b_138 hm, hd0, mIsGust _ hd1, if_pos q0]
    refine mFall (d := D - 1) (by omega) h.1 h.2.2.1.1 q0.1 q0.2 rfl rfl (fun μ1 f1 j1 hF => ?_)
    have h1 := MS_fr h f1 (by decide) j1.nine
    have efo : faO (sT σ) (gR (sG σ)) g w = ((foO (sT σ) (gR (sG σ)) g w (gnO (sT σ) (gR (sG σ))) : Nat) : Int) := rfl
    rw [efo]
    by_cases hn : foO (sT σ) (gR (sG σ)) g w (gnO (sT σ) (gR (sG σ))) = 0
    · rw [if_pos hn] at hQ
      have hq := hQ μ1 (MLe_fr f1 (by decide)) h1
      simp only [x244_0, x244_1, x244_2, x244_5, x244_8, x244_9, x244_10, x244_11, x244_12, x244_13, x244_16, x244_19, x244_21, x244_22, x244_23, x244_26, x244_27, x244_28, x244_29, x244_33, x244_36, x244_39, x244_40, x244_43, x244_45, x244_46, x244_47, x244_50, x244_51, x244_52, x244_55, x244_57, x244_58, x244_61, x244_64, x244_67, x244_68, x244_70, x244_71, x244_72, x244_74, x244_75, x244_77, x244_78, x244_80, x244_81, x244_82, x244_83, x244_84, x244_86, x244_87, x244_88, ↓reduceIte, Bool.false_eq_true, Nat.reduceAdd, Nat.reduceLT, Nat.reduceLeDiff, Nat.reduceSub, Nat.reduceEqDiff, Int.reduceToNat, Int.reduceEq, Int.reduceLT, Int.reduceLE, Int.reduceAdd, Int.reduceSub, zg, zI, zJ, zR, zst, zkl, zn, zcat, zok, zraw, List.length_cons, List.length_nil, Option.toList, List.nil_append, List.cons_append, true_and, and_true, if_true, if_false, ne_eq, not_true, not_false_eq_true, and_self, true_or, or_true, false_or, or_false, false_and, and_false, hn, Int.natCast_zero]
      exact hq
    · rw [if_neg hn] at hQ
      have c0 : ¬ ((foO (sT σ) (gR (sG σ)) g w (gnO (sT σ) (gR (sG σ))) : Nat) : Int) = 0 := fun hh => hn (Int.ofNat_eq_zero.mp hh)
      simp only [x244_0, x244_1, x244_2, x244_5, x244_8, x244_9, x244_10, x244_11, x244_12, x244_13, x244_16, x244_19, x244_21, x244_22, x244_23, x244_26, x244_27, x244_28, x244_29, x244_33, x244_36, x244_39, x244_40, x244_43, x244_45, x244_46, x244_47, x244_50, x244_51, x244_52, x244_55, x244_57, x244_58, x244_61, x244_64, x244_67, x244_68, x244_70, x244_71, x244_72, x244_74, x244_75, x244_77, x244_78, x244_80, x244_81, x244_82, x244_83, x244_84, x244_86, x244_87, x244_88, ↓reduceIte, Bool.false_eq_true, Nat.reduceAdd, Nat.reduceLT, Nat.reduceLeDiff, Nat.reduceSub, Nat.reduceEqDiff, Int.reduceToNat, Int.reduceEq, Int.reduceLT, Int.reduceLE, Int.reduceAdd, Int.reduceSub, zg, zI, zJ, zR, zst, zkl, zn, zcat, zok, zraw, List.length_cons, List.length_nil, Option.toList, List.nil_append, List.cons_append, true_and, and_true, if_true, if_false, ne_eq, not_true, not_false_eq_true, and_self, true_or, or_true, false_or, or_false, false_and, and_false, b_138 hm, hd0, c0]
      refine mLies (d := D - 1) h1.1 (by omega) q0.2 hF (fun μ2 f2 hly => ?_)
      have hq := hQ μ2 (MLe_fr ((f1.mono (by decide) : Fr (GF ++ [187]) μ μ1).trans (f2.mono (by decide))) (by decide)) (MS_fr h1 f2 (by decide) (fun j _ => by rw [f2 138 (by decide)]))
      obtain ⟨f, hf⟩ : ∃ f, f = lyO (sT σ) (gR (sG σ)) g w := ⟨_, rfl⟩
      rw [← hf] at hq hly
      have key : ∀ t L μ3, t ≤ 479 → (L = [vr 138, vi g, vi w, vi (bsO f t : Nat), vi ((t + 1 : Nat) : Int)] ∧ μ3 = μ2) → Ex D 244 31 L [] θ μ3 Q := by
        refine Ex_loop (I := fun t L μ3 => L = [vr 138, vi g, vi w, vi (bsO f t : Nat), vi ((t + 1 : Nat) : Int)] ∧ μ3 = μ2) 479 ?_ ?_
        · rintro t L μ3 ht ⟨rfl, rfl⟩ hk
          have c1 : ¬ (480 : Int) ≤ ((t + 1 : Nat) : Int) := by omega
          have i1 : (0 : Int) ≤ ((t + 1 : Nat) : Int) := by omega
          have i2 : ((t + 1 : Nat) : Int) < 480 := by omega
          have w1 : t + 1 < 2147483647 := by omega
          have hb := (bs_p f t).1
          have j1 : (0 : Int) ≤ ((bsO f t : Nat) : Int) := by omega
          have j2 : ((bsO f t : Nat) : Int) < 480 := by omega
          have e1 := hly (t + 1) (by omega)
          have e2 := hly (bsO f t) (by omega)
          have es : bsO f (t + 1) = if f (bsO f t) < f (t + 1) then t + 1 else bsO f t := rfl
          rw [x244_31]
          by_cases p : f (bsO f t) < f (t + 1)
          · rw [if_pos p] at es
            have p' : ¬ f (t + 1) ≤ f (bsO f t) := by omega
            simp only [x244_0, x244_1, x244_2, x244_5, x244_8, x244_9, x244_10, x244_11, x244_12, x244_13, x244_16, x244_19, x244_21, x244_22, x244_23, x244_26, x244_27, x244_28, x244_29, x244_33, x244_36, x244_39, x244_40, x244_43, x244_45, x244_46, x244_47, x244_50, x244_51, x244_52, x244_55, x244_57, x244_58, x244_61, x244_64, x244_67, x244_68, x244_70, x244_71, x244_72, x244_74, x244_75, x244_77, x244_78, x244_80, x244_81, x244_82, x244_83, x244_84, x244_86, x244_87, x244_88, ↓reduceIte, Bool.false_eq_true, Nat.reduceAdd, Nat.reduceLT, Nat.reduceLeDiff, Nat.reduceSub, Nat.reduceEqDiff, Int.reduceToNat, Int.reduceEq, Int.reduceLT, Int.reduceLE, Int.reduceAdd, Int.reduceSub, zg, zI, zJ, zR, zst, zkl, zn, zcat, zok, zraw, List.length_cons, List.length_nil, Option.toList, List.nil_append, List.cons_append, true_and, and_true, if_true, if_false, ne_eq, not_true, not_false_eq_true, and_self, true_or, or_true, false_or, or_false, false_and, and_false, b_138 hm, r_138_70 hm, c1, x_187 hm i1 i2, x_187 hm j1 j2, Int.toNat_natCast, e1, e2, p', w32_s w1, zkl]
            exact hk _ _ ⟨by rw [es], rfl⟩
          · rw [if_neg p] at es
            have p' : f (t + 1) ≤ f (bsO f t) := by omega
            simp only [x244_0, x244_1, x244_2, x244_5, x244_8, x244_9, x244_10, x244_11, x244_12, x244_13, x244_16, x244_19, x244_21, x244_22, x244_23, x244_26, x244_27, x244_28, x244_29, x244_33, x244_36, x244_39, x244_40, x244_43, x244_45, x244_46, x244_47, x244_50, x244_51, x244_52, x244_55, x244_57, x244_58, x244_61, x244_64, x244_67, x244_68, x244_70, x244_71, x244_72, x244_74, x244_75, x244_77, x244_78, x244_80, x244_81, x244_82, x244_83, x244_84, x244_86, x244_87, x244_88, ↓reduceIte, Bool.false_eq_true, Nat.reduceAdd, Nat.reduceLT, Nat.reduceLeDiff, Nat.reduceSub, Nat.reduceEqDiff, Int.reduceToNat, Int.reduceEq, Int.reduceLT, Int.reduceLE, Int.reduceAdd, Int.reduceSub, zg, zI, zJ, zR, zst, zkl, zn, zcat, zok, zraw, List.length_cons, List.length_nil, Option.toList, List.nil_append, List.cons_append, true_and, and_true, if_true, if_false, ne_eq, not_true, not_false_eq_true, and_self, true_or, or_true, false_or, or_false, false_and, and_false, b_138 hm, r_138_70 hm, c1, x_187 hm i1 i2, x_187 hm j1 j2, Int.toNat_natCast, e1, e2, p', w32_s w1, zkl]
            exact hk _ _ ⟨by rw [es], rfl⟩
        · rintro L μ3 ⟨rfl, rfl⟩
          have hb := (bs_p f 479).1
          generalize bsO f 479 = b at hb hq ⊢
          have t1 : ((b : Nat) : Int).tdiv 120 = ((b / 120 : Nat) : Int) := by rw [Int.tdiv_eq_ediv_of_nonneg (by omega)]; omega
          have t2 : ((b : Nat) : Int).tdiv 20 = ((b / 20 : Nat) : Int) := by rw [Int.tdiv_eq_ediv_of_nonneg (by omega)]; omega
          have t3 : ((b / 20 : Nat) : Int).tmod 6 = ((b / 20 % 6 : Nat) : Int) := by rw [Int.tmod_eq_emod_of_nonneg (by omega)]; omega
          have t4 : ((b : Nat) : Int).tmod 20 = ((b % 20 : Nat) : Int) := by rw [Int.tmod_eq_emod_of_nonneg (by omega)]; omega
          have a1 : -2147483648 ≤ ((b / 120 : Nat) : Int) := by omega
          have a2 : ((b / 120 : Nat) : Int) ≤ 2147483647 := by omega
          have a3 : -2147483648 ≤ ((b / 20 : Nat) : Int) := by omega
          have a4 : ((b / 20 : Nat) : Int) ≤ 2147483647 := by omega
          have a5 : -2147483648 ≤ 1000 * ((b / 120 : Nat) : Int) := by omega
          have a6 : 1000 * ((b / 120 : Nat) : Int) ≤ 2147483647 := by omega
          have a7 : -2147483648 ≤ 100 * ((b / 20 % 6 : Nat) : Int) := by omega
          have a8 : 100 * ((b / 20 % 6 : Nat) : Int) ≤ 2147483647 := by omega
          have a9 : -2147483648 ≤ 1000 * ((b / 120 : Nat) : Int) + 100 * ((b / 20 % 6 : Nat) : Int) := by omega
          have aA : 1000 * ((b / 120 : Nat) : Int) + 100 * ((b / 20 % 6 : Nat) : Int) ≤ 2147483647 := by omega
          have aB : -2147483648 ≤ 1000 * ((b / 120 : Nat) : Int) + 100 * ((b / 20 % 6 : Nat) : Int) + ((b % 20 : Nat) : Int) := by omega
          have aC : 1000 * ((b / 120 : Nat) : Int) + 100 * ((b / 20 % 6 : Nat) : Int) + ((b % 20 : Nat) : Int) ≤ 2147483647 := by omega
          rw [x244_31]
          simp only [x244_0, x244_1, x244_2, x244_5, x244_8, x244_9, x244_10, x244_11, x244_12, x244_13, x244_16, x244_19, x244_21, x244_22, x244_23, x244_26, x244_27, x244_28, x244_29, x244_33, x244_36, x244_39, x244_40, x244_43, x244_45, x244_46, x244_47, x244_50, x244_51, x244_52, x244_55, x244_57, x244_58, x244_61, x244_64, x244_67, x244_68, x244_70, x244_71, x244_72, x244_74, x244_75, x244_77, x244_78, x244_80, x244_81, x244_82, x244_83, x244_84, x244_86, x244_87, x244_88, ↓reduceIte, Bool.false_eq_true, Nat.reduceAdd, Nat.reduceLT, Nat.reduceLeDiff, Nat.reduceSub, Nat.reduceEqDiff, Int.reduceToNat, Int.reduceEq, Int.reduceLT, Int.reduceLE, Int.reduceAdd, Int.reduceSub, zg, zI, zJ, zR, zst, zkl, zn, zcat, zok, zraw, List.length_cons, List.length_nil, Option.toList, List.nil_append, List.cons_append, true_and, and_true, if_true, if_false, ne_eq, not_true, not_false_eq_true, and_self, true_or, or_true, false_or, or_false, false_and, and_false, show (480 : Int) ≤ ((479 + 1 : Nat) : Int) by decide, t1, t2, t3, t4, w32_i a1 a2, w32_i a3 a4, w32_i a5 a6, w32_i a7 a8, w32_i a9 aA, w32_i aB aC]
          exact hq
      have := key 0 _ _ (Nat.zero_le _) ⟨rfl, rfl⟩
      simp only [x244_0, x244_1, x244_2, x244_5, x244_8, x244_9, x244_10, x244_11, x244_12, x244_13, x244_16, x244_19, x244_21, x244_22, x244_23, x244_26, x244_27, x244_28, x244_29, x244_33, x244_36, x244_39, x244_40, x244_43, x244_45, x244_46, x244_47, x244_50, x244_51, x244_52, x244_55, x244_57, x244_58, x244_61, x244_64, x244_67, x244_68, x244_70, x244_71, x244_72, x244_74, x244_75, x244_77, x244_78, x244_80, x244_81, x244_82, x244_83, x244_84, x244_86, x244_87, x244_88, ↓reduceIte, Bool.false_eq_true, Nat.reduceAdd, Nat.reduceLT, Nat.reduceLeDiff, Nat.reduceSub, Nat.reduceEqDiff, Int.reduceToNat, Int.reduceEq, Int.reduceLT, Int.reduceLE, Int.reduceAdd, Int.reduceSub, zg, zI, zJ, zR, zst, zkl, zn, zcat, zok, zraw, List.length_cons, List.length_nil, Option.toList, List.nil_append, List.cons_append, true_and, and_true, if_true, if_false, ne_eq, not_true, not_false_eq_true, and_self, true_or, or_true, false_or, or_false, false_and, and_false, zkl]
      exact this
  · rw [if_neg q0] at hQ
    simp only [x244_0, x244_1, x244_2, x244_5, x244_8, x244_9, x244_10, x244_11, x244_12, x244_13, x244_16, x244_19, x244_21, x244_22, x244_23, x244_26, x244_27, x244_28, x244_29, x244_33, x244_36, x244_39, x244_40, x244_43, x244_45, x244_46, x244_47, x244_50, x244_51, x244_52, x244_55, x244_57, x244_58, x244_61, x244_64, x244_67, x244_68, x244_70, x244_71, x244_72, x244_74, x244_75, x244_77, x244_78, x244_80, x244_81, x244_82, x244_83, x244_84, x244_86, x244_87, x244_88, ↓reduceIte, Bool.false_eq_true, Nat.reduceAdd, Nat.reduceLT, Nat.reduceLeDiff, Nat.reduceSub, Nat.reduceEqDiff, Int.reduceToNat, Int.reduceEq, Int.reduceLT, Int.reduceLE, Int.reduceAdd, Int.reduceSub, zg, zI, zJ, zR, zst, zkl, zn, zcat, zok, zraw, List.length_cons, List.length_nil, Option.toList, List.nil_append, List.cons_append, true_and, and_true, if_true, if_false, ne_eq, not_true, not_false_eq_true, and_self, true_or, or_true, false_or, or_false, false_and, and_false, b_138 hm, hd0, mIsGust _ hd1, if_neg q0]
    exact hQ μ (fun _ _ => rfl) h
end WO
