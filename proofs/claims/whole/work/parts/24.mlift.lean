/-! THE REFERENCE: places, holes, doors, VARS -/
def MX (θ : zS) (τ : zT) (s : Nat) (μ : zM) : Prop := Tm θ ∧ wfT τ ∧ TM τ s μ ∧ μ 138 18 = (s : Int) ∧ s ≤ 1
/-- the reference's roof, without what is GONE; what is lost for now -/
def ML (τ : zT) (ρ : zF) (μ : zM) : Prop := wfF τ ρ ∧ (∀ t, t < tn τ → μ 173 t = ρ.1 1 t ∧ μ 174 t = ρ.1 2 t ∧ μ 175 t = ρ.1 3 t ∧ μ 176 t = ρ.1 4 t) ∧ (∀ k, k < tD τ → μ 177 k = ρ.2.1 k) ∧ μ 138 57 = ρ.2.2
def MO (τ : zT) (lost : Nat → Int) (μ : zM) : Prop := lz lost ∧ ∀ t, t < tn τ → μ 184 t = lost t
theorem TM_fr {τ : zT} {s : Nat} {μ μ' : zM} (h : ∀ a, 147 ≤ a → a ≤ 168 → μ' a = μ a) (hC : TM τ s μ) : TM τ s μ' := by
  have h147 := h 147 (by decide) (by decide); have h148 := h 148 (by decide) (by decide); have h149 := h 149 (by decide) (by decide); have h150 := h 150 (by decide) (by decide); have h151 := h 151 (by decide) (by decide)
  have h152 := h 152 (by decide) (by decide); have h153 := h 153 (by decide) (by decide); have h154 := h 154 (by decide) (by decide); have h155 := h 155 (by decide) (by decide); have h156 := h 156 (by decide) (by decide)
  have h157 := h 157 (by decide) (by decide); have h158 := h 158 (by decide) (by decide); have h159 := h 159 (by decide) (by decide); have h160 := h 160 (by decide) (by decide); have h161 := h 161 (by decide) (by decide)
  have h162 := h 162 (by decide) (by decide); have h163 := h 163 (by decide) (by decide); have h164 := h 164 (by decide) (by decide); have h165 := h 165 (by decide) (by decide); have h166 := h 166 (by decide) (by decide)
  have h167 := h 167 (by decide) (by decide); have h168 := h 168 (by decide) (by decide)
  unfold TM lAt mAt
  rw [h147, h148, h149, h150, h151, h152, h153, h154, h155, h156, h157, h158, h159, h160, h161, h162, h163, h164, h165, h166, h167, h168]
  exact hC
theorem MX_fr {θ : zS} {τ : zT} {s : Nat} {μ μ' : zM} {A : List Nat} (h : MX θ τ s μ) (hf : Fr A μ μ') (hA : ∀ a ∈ A, ¬ (147 ≤ a ∧ a ≤ 168)) (h18 : μ' 138 18 = μ 138 18) : MX θ τ s μ' := by
  refine ⟨h.1, h.2.1, TM_fr (fun a h1 h2 => hf a (fun hm => hA a hm ⟨h1, h2⟩)) h.2.2.1, by rw [h18]; exact h.2.2.2.1, h.2.2.2.2⟩
theorem ML_fr {τ : zT} {ρ : zF} {μ μ' : zM} {A : List Nat} (h : ML τ ρ μ) (hf : Fr A μ μ') (hA : ∀ a ∈ A, ¬ (173 ≤ a ∧ a ≤ 177)) (h57 : μ' 138 57 = μ 138 57) : ML τ ρ μ' := by
  have e : ∀ a, 173 ≤ a → a ≤ 177 → μ' a = μ a := fun a h1 h2 => hf a (fun hm => hA a hm ⟨h1, h2⟩)
  unfold ML
  rw [e 173 (by decide) (by decide), e 174 (by decide) (by decide), e 175 (by decide) (by decide), e 176 (by decide) (by decide), e 177 (by decide) (by decide), h57]
  exact h
section MI
variable {θ : zS} {τ : zT} {s : Nat} {Q : Option zV → zS → zM → Prop} {μ : zM} {ρ : zF} {lost : Nat → Int} {g w : Int}
theorem mIn (d : Nat) (v a b : Int) (θ : zS) (μ : zM) (Q : Option zV → zS → zM → Prop) : Ex d 195 0 [vi v, vi a, vi b] [] θ μ Q = Q (some (vi (if a ≤ v ∧ v ≤ b then 1 else 0))) θ μ := by
  simp only [x195_0, x195_1, x195_2, x195_5, x195_6, x195_7, x195_10, x195_11, x195_14, x195_15, ↓reduceIte, Bool.false_eq_true, Nat.reduceAdd, Nat.reduceLT, Nat.reduceLeDiff, Nat.reduceSub, Nat.reduceEqDiff, Int.reduceToNat, Int.reduceEq, Int.reduceLT, Int.reduceLE, Int.reduceAdd, Int.reduceSub, zg, zI, zJ, zR, zst, zkl, zn, zcat, zok, zraw, List.length_cons, List.length_nil, Option.toList, List.nil_append, List.cons_append, true_and, and_true, if_true, if_false, ne_eq, not_true, not_false_eq_true, and_self, true_or, or_true, false_or, or_false, false_and, and_false]
  by_cases h1 : v < a
  · simp [h1, Int.not_le.mpr h1]
  · by_cases h2 : b < v
    · simp [h1, h2, Int.not_le.mpr h2]
    · simp [h1, h2, Int.not_lt.mp h1, Int.not_lt.mp h2]
theorem mHeld (d : Nat) (x b : Int) (θ : zS) (μ : zM) (Q : Option zV → zS → zM → Prop) : Ex d 196 0 [vi x, vi b] [] θ μ Q = Q (some (vi (heldO x b))) θ μ := by
  unfold heldO
  by_cases h1 : x < 0
  · have : ¬ 0 ≤ x := by omega
    simp only [x196_0, x196_1, x196_4, x196_5, x196_8, x196_9, x196_10, x196_13, x196_14, x196_17, x196_18, ↓reduceIte, Bool.false_eq_true, Nat.reduceAdd, Nat.reduceLT, Nat.reduceLeDiff, Nat.reduceSub, Nat.reduceEqDiff, Int.reduceToNat, Int.reduceEq, Int.reduceLT, Int.reduceLE, Int.reduceAdd, Int.reduceSub, zg, zI, zJ, zR, zst, zkl, zn, zcat, zok, zraw, List.length_cons, List.length_nil, Option.toList, List.nil_append, List.cons_append, true_and, and_true, if_true, if_false, ne_eq, not_true, not_false_eq_true, and_self, true_or, or_true, false_or, or_false, false_and, and_false, h1, this]
  · have : 0 ≤ x := by omega
    by_cases h2 : b < x
    · have h3 : ¬ x ≤ b := by omega
      simp only [x196_0, x196_1, x196_4, x196_5, x196_8, x196_9, x196_10, x196_13, x196_14, x196_17, x196_18, ↓reduceIte, Bool.false_eq_true, Nat.reduceAdd, Nat.reduceLT, Nat.reduceLeDiff, Nat.reduceSub, Nat.reduceEqDiff, Int.reduceToNat, Int.reduceEq, Int.reduceLT, Int.reduceLE, Int.reduceAdd, Int.reduceSub, zg, zI, zJ, zR, zst, zkl, zn, zcat, zok, zraw, List.length_cons, List.length_nil, Option.toList, List.nil_append, List.cons_append, true_and, and_true, if_true, if_false, ne_eq, not_true, not_false_eq_true, and_self, true_or, or_true, false_or, or_false, false_and, and_false, h1, this, h2, h3]
    · have h3 : x ≤ b := by omega
      simp only [x196_0, x196_1, x196_4, x196_5, x196_8, x196_9, x196_10, x196_13, x196_14, x196_17, x196_18, ↓reduceIte, Bool.false_eq_true, Nat.reduceAdd, Nat.reduceLT, Nat.reduceLeDiff, Nat.reduceSub, Nat.reduceEqDiff, Int.reduceToNat, Int.reduceEq, Int.reduceLT, Int.reduceLE, Int.reduceAdd, Int.reduceSub, zg, zI, zJ, zR, zst, zkl, zn, zcat, zok, zraw, List.length_cons, List.length_nil, Option.toList, List.nil_append, List.cons_append, true_and, and_true, if_true, if_false, ne_eq, not_true, not_false_eq_true, and_self, true_or, or_true, false_or, or_false, false_and, and_false, h1, this, h2, h3]
theorem MX_rc (h : MX θ τ s μ) : μ 147 s = (tr τ : Int) ∧ μ 148 s = (tc τ : Int) ∧ μ 149 s = tN τ 2 := by
  have h1 := tr_b h.2.1; have h2 := tc_b h.2.1
  exact ⟨by rw [← h1.2.2]; exact h.2.2.1.1.1, by rw [← h2.2.2]; exact h.2.2.1.1.2.1, h.2.2.1.1.2.2.1⟩
theorem mTiles (d : Nat) (h : MX θ τ s μ) : Ex d 197 0 [vr 138] [] θ μ Q = Q (some (vi (tn τ : Nat))) θ μ := by
  have hrc := MX_rc h
  have hn := tn_b h.2.1
  obtain ⟨hm, hw, hT, h18, hs⟩ := h
  have : tr τ * tc τ < 2147483648 := by have : tn τ = tr τ * tc τ := rfl; omega
  simp (disch := omega) only [x197_0, x197_1, x197_4, x197_5, x197_8, x197_9, x197_10, x197_13, x197_14, x197_17, x197_18, x197_19, ↓reduceIte, Bool.false_eq_true, Nat.reduceAdd, Nat.reduceLT, Nat.reduceLeDiff, Nat.reduceSub, Nat.reduceEqDiff, Int.reduceToNat, Int.reduceEq, Int.reduceLT, Int.reduceLE, Int.reduceAdd, Int.reduceSub, zg, zI, zJ, zR, zst, zkl, zn, zcat, zok, zraw, List.length_cons, List.length_nil, Option.toList, List.nil_append, List.cons_append, true_and, and_true, if_true, if_false, ne_eq, not_true, not_false_eq_true, and_self, true_or, or_true, false_or, or_false, false_and, and_false, b_138 hm, r_138_22 hm, x_147 hm, r_138_23 hm, x_148 hm, h18, hrc.1, hrc.2.1, Int.toNat_natCast, w32_mul]
  rfl
theorem mRow (d : Nat) (h : MX θ τ s μ) {t : Nat} (ht : t < tn τ) : Ex d 198 0 [vr 138, vi (t : Nat)] [] θ μ Q = Q (some (vi (rwO τ t : Nat))) θ μ := by
  have hrc := MX_rc h
  have hn := tn_b h.2.1
  have n2 := tc_b h.2.1
  obtain ⟨hm, hw, hT, h18, hs⟩ := h
  have e : w32 ((t : Int).tdiv (tc τ : Int)) = (rwO τ t : Nat) := by
    rw [Int.tdiv_eq_ediv_of_nonneg (by omega)]
    have : (t : Int) / (tc τ : Int) = ((t / tc τ : Nat) : Int) := by omega
    rw [this]
    have hq := Nat.div_le_self t (tc τ)
    unfold rwO
    generalize t / tc τ = q at hq ⊢
    exact w32_i (by omega) (by omega)
  have hne : ¬ ((tc τ : Int) = 0) := by omega
  simp (disch := omega) only [x198_0, x198_1, x198_2, x198_5, x198_6, x198_9, x198_10, x198_11, ↓reduceIte, Bool.false_eq_true, Nat.reduceAdd, Nat.reduceLT, Nat.reduceLeDiff, Nat.reduceSub, Nat.reduceEqDiff, Int.reduceToNat, Int.reduceEq, Int.reduceLT, Int.reduceLE, Int.reduceAdd, Int.reduceSub, zg, zI, zJ, zR, zst, zkl, zn, zcat, zok, zraw, List.length_cons, List.length_nil, Option.toList, List.nil_append, List.cons_append, true_and, and_true, if_true, if_false, ne_eq, not_true, not_false_eq_true, and_self, true_or, or_true, false_or, or_false, false_and, and_false, b_138 hm, r_138_22 hm, x_147 hm, r_138_23 hm, x_148 hm, h18, hrc.2.1, Int.toNat_natCast, e, hne]
theorem mCol (d : Nat) (h : MX θ τ s μ) {t : Nat} (ht : t < tn τ) : Ex d 199 0 [vr 138, vi (t : Nat)] [] θ μ Q = Q (some (vi (clO τ t : Nat))) θ μ := by
  have hrc := MX_rc h
  have n2 := tc_b h.2.1
  obtain ⟨hm, hw, hT, h18, hs⟩ := h
  have e : (t : Int).tmod (tc τ : Int) = (clO τ t : Nat) := by
    rw [Int.tmod_eq_emod_of_nonneg (by omega)]
    have : (t : Int) % (tc τ : Int) = ((t % tc τ : Nat) : Int) := by omega
    rw [this]; rfl
  have hne : ¬ ((tc τ : Int) = 0) := by omega
  simp (disch := omega) only [x199_0, x199_1, x199_2, x199_5, x199_6, x199_9, x199_10, x199_11, ↓reduceIte, Bool.false_eq_true, Nat.reduceAdd, Nat.reduceLT, Nat.reduceLeDiff, Nat.reduceSub, Nat.reduceEqDiff, Int.reduceToNat, Int.reduceEq, Int.reduceLT, Int.reduceLE, Int.reduceAdd, Int.reduceSub, zg, zI, zJ, zR, zst, zkl, zn, zcat, zok, zraw, List.length_cons, List.length_nil, Option.toList, List.nil_append, List.cons_append, true_and, and_true, if_true, if_false, ne_eq, not_true, not_false_eq_true, and_self, true_or, or_true, false_or, or_false, false_and, and_false, b_138 hm, r_138_22 hm, x_147 hm, r_138_23 hm, x_148 hm, h18, hrc.2.1, Int.toNat_natCast, e, hne]
theorem mEdge {d : Nat} {x2 x3 : zV} (hd : 1 ≤ d) (h : MX θ τ s μ) {t : Nat} (ht : t < tn τ) (hQ : Q (some (vi (edO τ t))) θ μ) : Ex d 200 0 [vr 138, vi (t : Nat), x2, x3] [] θ μ Q := by
  have hX := h
  have hrc := MX_rc h
  have n1 := tr_b h.2.1
  have n2 := tc_b h.2.1
  have n3 := rw_b h.2.1 ht
  obtain ⟨hm, hw, hT, h18, hs⟩ := h
  have hd0 : 0 < d := by omega
  have r1 : w32 ((tr τ : Int) - 1) = ((tr τ - 1 : Nat) : Int) := w32_s1 (by omega) (by omega)
  have r2 : w32 ((tc τ : Int) - 1) = ((tc τ - 1 : Nat) : Int) := w32_s1 (by omega) (by omega)
  unfold edO at hQ
  by_cases a1 : rwO τ t = 0 <;> by_cases a2 : rwO τ t + 1 = tr τ <;> by_cases a3 : clO τ t = 0 <;> by_cases a4 : clO τ t + 1 = tc τ
  all_goals
    have q1 : ((rwO τ t : Int) = 0) = (rwO τ t = 0) := propext (by omega)
    have q2 : ((rwO τ t : Int) = ((tr τ - 1 : Nat) : Int)) = (rwO τ t + 1 = tr τ) := propext (by omega)
    have q3 : ((clO τ t : Int) = 0) = (clO τ t = 0) := propext (by omega)
    have q4 : ((clO τ t : Int) = ((tc τ - 1 : Nat) : Int)) = (clO τ t + 1 = tc τ) := propext (by omega)
    simp (disch := omega) only [x200_0, x200_1, x200_2, x200_5, x200_8, x200_9, x200_10, x200_13, x200_14, x200_17, x200_18, x200_21, x200_22, x200_23, x200_24, x200_27, x200_28, x200_31, x200_32, x200_33, x200_34, x200_35, x200_38, x200_41, x200_42, x200_43, x200_46, x200_47, x200_50, x200_51, x200_54, x200_55, x200_56, x200_57, x200_60, x200_61, x200_64, x200_65, x200_66, x200_67, x200_70, x200_71, x200_74, x200_75, x200_78, x200_79, x200_82, x200_83, x200_86, x200_87, x200_90, x200_91, ↓reduceIte, Bool.false_eq_true, Nat.reduceAdd, Nat.reduceLT, Nat.reduceLeDiff, Nat.reduceSub, Nat.reduceEqDiff, Int.reduceToNat, Int.reduceEq, Int.reduceLT, Int.reduceLE, Int.reduceAdd, Int.reduceSub, zg, zI, zJ, zR, zst, zkl, zn, zcat, zok, zraw, List.length_cons, List.length_nil, Option.toList, List.nil_append, List.cons_append, true_and, and_true, if_true, if_false, ne_eq, not_true, not_false_eq_true, and_self, true_or, or_true, false_or, or_false, false_and, and_false, b_138 hm, r_138_22 hm, x_147 hm, r_138_23 hm, x_148 hm, hd0, h18, hrc.1, hrc.2.1, Int.toNat_natCast, mRow _ hX ht, mCol _ hX ht, r1, r2, q1, q2, q3, q4, a1, a2, a3, a4]
    simpa [a1, a2, a3, a4] using hQ
theorem mHoles {d : Nat} {x1 x2 : zV} (hd : 1 ≤ d) (h : MX θ τ s μ) (hO : MO τ lost μ) (hQ : Q (some (vi (hlO τ lost))) θ μ) : Ex d 214 0 [vr 138, x1, x2] [] θ μ Q := by
  have hX := h
  have hn := tn_b h.2.1
  obtain ⟨hm, hw, hT, h18, hs⟩ := h
  have hd0 : 0 < d := by omega
  have key : ∀ t L μ1, t ≤ tn τ → (L = [vr 138, vi (sm lost t), vi (t : Nat)] ∧ μ1 = μ) → Ex d 214 4 L [] θ μ1 Q := by
    refine Ex_loop (I := fun t L μ1 => L = [vr 138, vi (sm lost t), vi (t : Nat)] ∧ μ1 = μ) (tn τ) ?_ ?_
    · rintro t L μ1 ht ⟨rfl, rfl⟩ hk
      have i1 : ¬ ((tn τ : Int) ≤ (t : Int)) := by omega
      have e := hO.2 t ht
      have b1 := sm_nn (f := lost) (n := t) (fun i _ => by have := hO.1 i; omega)
      have b2 := sm_le (f := lost) (n := t) (b := 1) (fun i _ => by have := hO.1 i; omega)
      have a1 : w32 (sm lost t + 1) = sm lost t + 1 := w32_i (by omega) (by omega)
      rw [x214_4]
      rcases hO.1 t with hz | hz
      · simp (disch := omega) only [x214_0, x214_1, x214_2, x214_3, x214_5, x214_6, x214_9, x214_12, x214_13, x214_16, x214_17, x214_18, x214_21, x214_24, x214_27, x214_30, x214_31, ↓reduceIte, Bool.false_eq_true, Nat.reduceAdd, Nat.reduceLT, Nat.reduceLeDiff, Nat.reduceSub, Nat.reduceEqDiff, Int.reduceToNat, Int.reduceEq, Int.reduceLT, Int.reduceLE, Int.reduceAdd, Int.reduceSub, zg, zI, zJ, zR, zst, zkl, zn, zcat, zok, zraw, List.length_cons, List.length_nil, Option.toList, List.nil_append, List.cons_append, true_and, and_true, if_true, if_false, ne_eq, not_true, not_false_eq_true, and_self, true_or, or_true, false_or, or_false, false_and, and_false, b_138 hm, r_138_66 hm, x_184 hm, n_184 hm, hd0, mTiles _ hX, i1, e, hz, Int.toNat_natCast, w32_s]
        refine hk _ _ ⟨?_, rfl⟩
        simp only [sm, hz, Int.add_zero]
      · simp (disch := omega) only [x214_0, x214_1, x214_2, x214_3, x214_5, x214_6, x214_9, x214_12, x214_13, x214_16, x214_17, x214_18, x214_21, x214_24, x214_27, x214_30, x214_31, ↓reduceIte, Bool.false_eq_true, Nat.reduceAdd, Nat.reduceLT, Nat.reduceLeDiff, Nat.reduceSub, Nat.reduceEqDiff, Int.reduceToNat, Int.reduceEq, Int.reduceLT, Int.reduceLE, Int.reduceAdd, Int.reduceSub, zg, zI, zJ, zR, zst, zkl, zn, zcat, zok, zraw, List.length_cons, List.length_nil, Option.toList, List.nil_append, List.cons_append, true_and, and_true, if_true, if_false, ne_eq, not_true, not_false_eq_true, and_self, true_or, or_true, false_or, or_false, false_and, and_false, b_138 hm, r_138_66 hm, x_184 hm, n_184 hm, hd0, mTiles _ hX, i1, e, hz, Int.toNat_natCast, w32_s, a1]
        refine hk _ _ ⟨?_, rfl⟩
        simp only [sm, hz]
    · rintro L μ1 ⟨rfl, rfl⟩
      rw [x214_4]
      simp (disch := omega) only [x214_0, x214_1, x214_2, x214_3, x214_5, x214_6, x214_9, x214_12, x214_13, x214_16, x214_17, x214_18, x214_21, x214_24, x214_27, x214_30, x214_31, ↓reduceIte, Bool.false_eq_true, Nat.reduceAdd, Nat.reduceLT, Nat.reduceLeDiff, Nat.reduceSub, Nat.reduceEqDiff, Int.reduceToNat, Int.reduceEq, Int.reduceLT, Int.reduceLE, Int.reduceAdd, Int.reduceSub, zg, zI, zJ, zR, zst, zkl, zn, zcat, zok, zraw, List.length_cons, List.length_nil, Option.toList, List.nil_append, List.cons_append, true_and, and_true, if_true, if_false, ne_eq, not_true, not_false_eq_true, and_self, true_or, or_true, false_or, or_false, false_and, and_false, hd0, b_138 hm, mTiles _ hX, Int.le_refl]
      exact hQ
  simp (disch := omega) only [x214_0, x214_1, x214_2, x214_3, x214_5, x214_6, x214_9, x214_12, x214_13, x214_16, x214_17, x214_18, x214_21, x214_24, x214_27, x214_30, x214_31, ↓reduceIte, Bool.false_eq_true, Nat.reduceAdd, Nat.reduceLT, Nat.reduceLeDiff, Nat.reduceSub, Nat.reduceEqDiff, Int.reduceToNat, Int.reduceEq, Int.reduceLT, Int.reduceLE, Int.reduceAdd, Int.reduceSub, zg, zI, zJ, zR, zst, zkl, zn, zcat, zok, zraw, List.length_cons, List.length_nil, Option.toList, List.nil_append, List.cons_append, true_and, and_true, if_true, if_false, ne_eq, not_true, not_false_eq_true, and_self, true_or, or_true, false_or, or_false, false_and, and_false]
  exact key 0 _ _ (by omega) ⟨rfl, rfl⟩
theorem mAsItIs {d : Nat} {x1 : zV} (hd : 1 ≤ d) (h : MX θ τ s μ) (hz : ∀ t, t < tn τ → μ 172 t = 0 ∨ μ 172 t = 1) (hQ : ∀ μ', Fr [184] μ μ' → (∀ t, t < tn τ → μ' 184 t = μ 172 t) → Q none θ μ') : Ex d 213 0 [vr 138, x1] [] θ μ Q := by
  have hX := h
  have hn := tn_b h.2.1
  obtain ⟨hm, hw, hT, h18, hs⟩ := h
  have hd0 : 0 < d := by omega
  have key : ∀ t L μ1, t ≤ tn τ → (L = [vr 138, vi (t : Nat)] ∧ Fr [184] μ μ1 ∧ ∀ t', t' < t → μ1 184 t' = μ 172 t') → Ex d 213 2 L [] θ μ1 Q := by
    refine Ex_loop (I := fun t L μ1 => L = [vr 138, vi (t : Nat)] ∧ Fr [184] μ μ1 ∧ ∀ t', t' < t → μ1 184 t' = μ 172 t') (tn τ) ?_ ?_
    · rintro t L μ1 ht ⟨rfl, hf, ha⟩ hk
      have X1 : MX θ τ s μ1 := MX_fr hX hf (by decide) (by rw [hf 138 (by decide)])
      have i1 : ¬ ((tn τ : Int) ≤ (t : Int)) := by omega
      have e : μ1 172 = μ 172 := hf 172 (by decide)
      have hz1 := hz t ht
      rw [x213_2]
      simp (disch := omega) only [x213_0, x213_1, x213_3, x213_4, x213_7, x213_10, x213_11, x213_14, x213_15, x213_16, x213_19, x213_20, x213_21, x213_22, x213_25, x213_28, ↓reduceIte, Bool.false_eq_true, Nat.reduceAdd, Nat.reduceLT, Nat.reduceLeDiff, Nat.reduceSub, Nat.reduceEqDiff, Int.reduceToNat, Int.reduceEq, Int.reduceLT, Int.reduceLE, Int.reduceAdd, Int.reduceSub, zg, zI, zJ, zR, zst, zkl, zn, zcat, zok, zraw, List.length_cons, List.length_nil, Option.toList, List.nil_append, List.cons_append, true_and, and_true, if_true, if_false, ne_eq, not_true, not_false_eq_true, and_self, true_or, or_true, false_or, or_false, false_and, and_false, b_138 hm, r_138_66 hm, x_184 hm, n_184 hm, r_138_51 hm, x_172 hm, n_172 hm, hd0, mTiles _ X1, i1, e, hz1, Int.toNat_natCast, w32_s, ua_eq]
      apply hk
      refine ⟨rfl, Fr.us (by decide) hf, ?_⟩
      intro t' ht'
      rw [us_same, zup_ap]
      by_cases h1 : t' = t
      · rw [if_pos h1, h1]
      · rw [if_neg h1]; exact ha t' (by omega)
    · rintro L μ1 ⟨rfl, hf, ha⟩
      have X1 : MX θ τ s μ1 := MX_fr hX hf (by decide) (by rw [hf 138 (by decide)])
      rw [x213_2]
      simp (disch := omega) only [x213_0, x213_1, x213_3, x213_4, x213_7, x213_10, x213_11, x213_14, x213_15, x213_16, x213_19, x213_20, x213_21, x213_22, x213_25, x213_28, ↓reduceIte, Bool.false_eq_true, Nat.reduceAdd, Nat.reduceLT, Nat.reduceLeDiff, Nat.reduceSub, Nat.reduceEqDiff, Int.reduceToNat, Int.reduceEq, Int.reduceLT, Int.reduceLE, Int.reduceAdd, Int.reduceSub, zg, zI, zJ, zR, zst, zkl, zn, zcat, zok, zraw, List.length_cons, List.length_nil, Option.toList, List.nil_append, List.cons_append, true_and, and_true, if_true, if_false, ne_eq, not_true, not_false_eq_true, and_self, true_or, or_true, false_or, or_false, false_and, and_false, hd0, b_138 hm, mTiles _ X1, Int.le_refl]
      exact hQ μ1 hf ha
  simp (disch := omega) only [x213_0, x213_1, x213_3, x213_4, x213_7, x213_10, x213_11, x213_14, x213_15, x213_16, x213_19, x213_20, x213_21, x213_22, x213_25, x213_28, ↓reduceIte, Bool.false_eq_true, Nat.reduceAdd, Nat.reduceLT, Nat.reduceLeDiff, Nat.reduceSub, Nat.reduceEqDiff, Int.reduceToNat, Int.reduceEq, Int.reduceLT, Int.reduceLE, Int.reduceAdd, Int.reduceSub, zg, zI, zJ, zR, zst, zkl, zn, zcat, zok, zraw, List.length_cons, List.length_nil, Option.toList, List.nil_append, List.cons_append, true_and, and_true, if_true, if_false, ne_eq, not_true, not_false_eq_true, and_self, true_or, or_true, false_or, or_false, false_and, and_false]
  exact key 0 _ _ (by omega) ⟨rfl, Fr.refl, fun t' ht' => absurd ht' (by omega)⟩
theorem mInlet {d : Nat} {o : Int} {x3 x4 : zV} (hd : 2 ≤ d) (h : MX θ τ s μ) (hL : ML τ ρ μ) (hO : MO τ lost μ) (ho : o = 0 ∨ o = 1)
    (hQ : Q (some (vi (if o = 0 then inO τ ρ.2.1 lost w else ouO τ ρ.2.1 lost w))) θ μ) : Ex d 215 0 [vr 138, vi w, vi o, x3, x4] [] θ μ Q := by
  have hX := h
  have hrc := MX_rc h
  have hhl := hl_b h.2.1 hO.1
  have hdr := dr_b (od := ρ.2.1) (w := w) h.2.1 hL.1.2.1
  have hn := tn_b h.2.1
  obtain ⟨hm, hw, hT, h18, hs⟩ := h
  have hd0 : 0 < d := by omega
  have hdl := hw.2.2.2.2.1
  have hdw := hw.2.2.2.2.2.1
  obtain ⟨h157, hdd⟩ := hT.2.1
  have term : ∀ k, k < tD τ → 0 ≤ tZ τ k * ρ.2.1 k ∧ tZ τ k * ρ.2.1 k ≤ 9 := fun k hk => dr_t (hL.1.2.1 k hk) (hdw k hk).2.1
  generalize hF : (fun k => if o = 0 then (if tS τ k = w then tZ τ k * ρ.2.1 k else 0) else (if tS τ k = w then 0 else tZ τ k * ρ.2.1 k)) = F
  have hFb : ∀ k, k < tD τ → 0 ≤ F k ∧ F k ≤ 9 := by
    intro k hk
    have := term k hk
    rw [← hF]
    show 0 ≤ (if o = 0 then (if tS τ k = w then tZ τ k * ρ.2.1 k else 0) else (if tS τ k = w then 0 else tZ τ k * ρ.2.1 k)) ∧ (if o = 0 then (if tS τ k = w then tZ τ k * ρ.2.1 k else 0) else (if tS τ k = w then 0 else tZ τ k * ρ.2.1 k)) ≤ 9
    rcases ho with rfl | rfl
    · rw [if_pos rfl]
      by_cases hc : tS τ k = w
      · rw [if_pos hc]; exact this
      · rw [if_neg hc]; omega
    · rw [if_neg (by decide)]
      by_cases hc : tS τ k = w
      · rw [if_pos hc]; omega
      · rw [if_neg hc]; exact this
  obtain ⟨H, hH⟩ : ∃ H, H = (if (tN τ 2 = w) = (o = 0) then hlO τ lost else 0) := ⟨_, rfl⟩
  have hHb : 0 ≤ H ∧ H ≤ 36 := by
    rw [hH]
    by_cases hc : (tN τ 2 = w) = (o = 0)
    · rw [if_pos hc]; omega
    · rw [if_neg hc]; omega
  have key : ∀ t L μ1, t ≤ tD τ → (L = [vr 138, vi w, vi o, vi (H + sm F t), vi (t : Nat)] ∧ μ1 = μ) → Ex d 215 42 L [] θ μ1 Q := by
    refine Ex_loop (I := fun t L μ1 => L = [vr 138, vi w, vi o, vi (H + sm F t), vi (t : Nat)] ∧ μ1 = μ) (tD τ) ?_ ?_
    · rintro t L μ1 ht ⟨rfl, rfl⟩ hk
      have i1 : ¬ ((tD τ : Int) ≤ (t : Int)) := by omega
      have e7 := hL.2.2.1 t ht
      obtain ⟨e8, e9, _⟩ := hdd t ht
      have b1 := sm_nn (f := F) (n := t) (fun i hi => (hFb i (by omega)).1)
      have b2 := sm_le (f := F) (n := t) (b := 9) (fun i hi => (hFb i (by omega)).2)
      have hFt : F t = (if o = 0 then (if tS τ t = w then tZ τ t * ρ.2.1 t else 0) else (if tS τ t = w then 0 else tZ τ t * ρ.2.1 t)) := by rw [← hF]
      have hzt := hdw t ht
      have a1 : w32 (H + sm F t + tZ τ t) = H + sm F t + tZ τ t := w32_i (by omega) (by omega)
      have i6 : w32 (6 * (s : Int)) = ((6 * s : Nat) : Int) := by unfold w32; omega
      rw [x215_42]
      rcases hL.1.2.1 t ht with hz | hz
      · simp (disch := omega) only [x215_0, x215_1, x215_4, x215_5, x215_8, x215_9, x215_10, x215_13, x215_14, x215_17, x215_18, x215_19, x215_22, x215_23, x215_26, x215_27, x215_30, x215_31, x215_34, x215_37, x215_38, x215_39, x215_40, x215_44, x215_45, x215_48, x215_49, x215_52, x215_53, x215_56, x215_57, x215_60, x215_62, x215_63, x215_66, x215_67, x215_70, x215_72, x215_73, x215_76, x215_77, x215_79, x215_80, x215_81, x215_82, x215_85, x215_86, x215_89, x215_90, x215_91, x215_94, x215_95, x215_98, x215_99, x215_102, x215_103, x215_104, x215_107, x215_109, x215_110, x215_113, x215_114, x215_116, x215_117, x215_118, x215_119, x215_120, x215_123, x215_126, x215_127, ↓reduceIte, Bool.false_eq_true, Nat.reduceAdd, Nat.reduceLT, Nat.reduceLeDiff, Nat.reduceSub, Nat.reduceEqDiff, Int.reduceToNat, Int.reduceEq, Int.reduceLT, Int.reduceLE, Int.reduceAdd, Int.reduceSub, zg, zI, zJ, zR, zst, zkl, zn, zcat, zok, zraw, List.length_cons, List.length_nil, Option.toList, List.nil_append, List.cons_append, true_and, and_true, if_true, if_false, ne_eq, not_true, not_false_eq_true, and_self, true_or, or_true, false_or, or_false, false_and, and_false, b_138 hm, r_138_32 hm, x_157 hm, r_138_56 hm, x_177 hm, n_177 hm, r_138_33 hm, x_158 hm, r_138_34 hm, x_159 hm, h18, h157, i1, e7, hz, Int.toNat_natCast, w32_s]
        refine hk _ _ ⟨?_, rfl⟩
        have : F t = 0 := by rw [hFt, hz, Int.mul_zero]; simp
        simp only [sm, this, Int.add_zero]
      · rcases ho with rfl | rfl <;> by_cases hc : tS τ t = w
        all_goals
          simp (disch := omega) only [x215_0, x215_1, x215_4, x215_5, x215_8, x215_9, x215_10, x215_13, x215_14, x215_17, x215_18, x215_19, x215_22, x215_23, x215_26, x215_27, x215_30, x215_31, x215_34, x215_37, x215_38, x215_39, x215_40, x215_44, x215_45, x215_48, x215_49, x215_52, x215_53, x215_56, x215_57, x215_60, x215_62, x215_63, x215_66, x215_67, x215_70, x215_72, x215_73, x215_76, x215_77, x215_79, x215_80, x215_81, x215_82, x215_85, x215_86, x215_89, x215_90, x215_91, x215_94, x215_95, x215_98, x215_99, x215_102, x215_103, x215_104, x215_107, x215_109, x215_110, x215_113, x215_114, x215_116, x215_117, x215_118, x215_119, x215_120, x215_123, x215_126, x215_127, ↓reduceIte, Bool.false_eq_true, Nat.reduceAdd, Nat.reduceLT, Nat.reduceLeDiff, Nat.reduceSub, Nat.reduceEqDiff, Int.reduceToNat, Int.reduceEq, Int.reduceLT, Int.reduceLE, Int.reduceAdd, Int.reduceSub, zg, zI, zJ, zR, zst, zkl, zn, zcat, zok, zraw, List.length_cons, List.length_nil, Option.toList, List.nil_append, List.cons_append, true_and, and_true, if_true, if_false, ne_eq, not_true, not_false_eq_true, and_self, true_or, or_true, false_or, or_false, false_and, and_false, b_138 hm, r_138_32 hm, x_157 hm, r_138_56 hm, x_177 hm, n_177 hm, r_138_33 hm, x_158 hm, r_138_34 hm, x_159 hm, h18, h157, i1, i6, e7, e8, e9, hz, hc, Int.toNat_natCast, w32_s, w32_add, a1]
          refine hk _ _ ⟨?_, rfl⟩
          simp only [hc, hz, Int.mul_one, if_true, if_false] at hFt
          try simp at hFt
          simp only [sm, hFt, Int.add_zero, Int.add_assoc]
    · rintro L μ1 ⟨rfl, rfl⟩
      rw [x215_42]
      simp (disch := omega) only [x215_0, x215_1, x215_4, x215_5, x215_8, x215_9, x215_10, x215_13, x215_14, x215_17, x215_18, x215_19, x215_22, x215_23, x215_26, x215_27, x215_30, x215_31, x215_34, x215_37, x215_38, x215_39, x215_40, x215_44, x215_45, x215_48, x215_49, x215_52, x215_53, x215_56, x215_57, x215_60, x215_62, x215_63, x215_66, x215_67, x215_70, x215_72, x215_73, x215_76, x215_77, x215_79, x215_80, x215_81, x215_82, x215_85, x215_86, x215_89, x215_90, x215_91, x215_94, x215_95, x215_98, x215_99, x215_102, x215_103, x215_104, x215_107, x215_109, x215_110, x215_113, x215_114, x215_116, x215_117, x215_118, x215_119, x215_120, x215_123, x215_126, x215_127, ↓reduceIte, Bool.false_eq_true, Nat.reduceAdd, Nat.reduceLT, Nat.reduceLeDiff, Nat.reduceSub, Nat.reduceEqDiff, Int.reduceToNat, Int.reduceEq, Int.reduceLT, Int.reduceLE, Int.reduceAdd, Int.reduceSub, zg, zI, zJ, zR, zst, zkl, zn, zcat, zok, zraw, List.length_cons, List.length_nil, Option.toList, List.nil_append, List.cons_append, true_and, and_true, if_true, if_false, ne_eq, not_true, not_false_eq_true, and_self, true_or, or_true, false_or, or_false, false_and, and_false, b_138 hm, r_138_32 hm, x_157 hm, h18, h157, Int.toNat_natCast, Int.le_refl]
      refine Qc hQ ?_
      rcases ho with rfl | rfl
      · rw [if_pos rfl]
        unfold inO drI
        have : F = fun k => if tS τ k = w then tZ τ k * ρ.2.1 k else 0 := by rw [← hF]; simp
        rw [this, hH]
        by_cases hc : tN τ 2 = w <;> simp [hc] <;> omega
      · rw [if_neg (by decide)]
        unfold ouO drO
        have : F = fun k => if tS τ k = w then 0 else tZ τ k * ρ.2.1 k := by rw [← hF]; simp
        rw [this, hH]
        by_cases hc : tN τ 2 = w <;> simp [hc] <;> omega
  have fin : ∀ H', H' = H → Ex d 215 42 [vr 138, vi w, vi o, vi H', vi 0] [] θ μ Q := by
    intro H' hh
    have := key 0 [vr 138, vi w, vi o, vi H', vi 0] μ (by omega) ⟨by rw [hh]; simp [sm], rfl⟩
    exact this
  rcases ho with rfl | rfl <;> by_cases hc : tN τ 2 = w
  · simp (disch := omega) only [x215_0, x215_1, x215_4, x215_5, x215_8, x215_9, x215_10, x215_13, x215_14, x215_17, x215_18, x215_19, x215_22, x215_23, x215_26, x215_27, x215_30, x215_31, x215_34, x215_37, x215_38, x215_39, x215_40, x215_44, x215_45, x215_48, x215_49, x215_52, x215_53, x215_56, x215_57, x215_60, x215_62, x215_63, x215_66, x215_67, x215_70, x215_72, x215_73, x215_76, x215_77, x215_79, x215_80, x215_81, x215_82, x215_85, x215_86, x215_89, x215_90, x215_91, x215_94, x215_95, x215_98, x215_99, x215_102, x215_103, x215_104, x215_107, x215_109, x215_110, x215_113, x215_114, x215_116, x215_117, x215_118, x215_119, x215_120, x215_123, x215_126, x215_127, ↓reduceIte, Bool.false_eq_true, Nat.reduceAdd, Nat.reduceLT, Nat.reduceLeDiff, Nat.reduceSub, Nat.reduceEqDiff, Int.reduceToNat, Int.reduceEq, Int.reduceLT, Int.reduceLE, Int.reduceAdd, Int.reduceSub, zg, zI, zJ, zR, zst, zkl, zn, zcat, zok, zraw, List.length_cons, List.length_nil, Option.toList, List.nil_append, List.cons_append, true_and, and_true, if_true, if_false, ne_eq, not_true, not_false_eq_true, and_self, true_or, or_true, false_or, or_false, false_and, and_false, b_138 hm, r_138_24 hm, x_149 hm, h18, hrc.2.2, hc, hd0, Int.toNat_natCast]
    refine mHoles (by omega) hX hO ?_
    simp (disch := omega) only [x215_0, x215_1, x215_4, x215_5, x215_8, x215_9, x215_10, x215_13, x215_14, x215_17, x215_18, x215_19, x215_22, x215_23, x215_26, x215_27, x215_30, x215_31, x215_34, x215_37, x215_38, x215_39, x215_40, x215_44, x215_45, x215_48, x215_49, x215_52, x215_53, x215_56, x215_57, x215_60, x215_62, x215_63, x215_66, x215_67, x215_70, x215_72, x215_73, x215_76, x215_77, x215_79, x215_80, x215_81, x215_82, x215_85, x215_86, x215_89, x215_90, x215_91, x215_94, x215_95, x215_98, x215_99, x215_102, x215_103, x215_104, x215_107, x215_109, x215_110, x215_113, x215_114, x215_116, x215_117, x215_118, x215_119, x215_120, x215_123, x215_126, x215_127, ↓reduceIte, Bool.false_eq_true, Nat.reduceAdd, Nat.reduceLT, Nat.reduceLeDiff, Nat.reduceSub, Nat.reduceEqDiff, Int.reduceToNat, Int.reduceEq, Int.reduceLT, Int.reduceLE, Int.reduceAdd, Int.reduceSub, zg, zI, zJ, zR, zst, zkl, zn, zcat, zok, zraw, List.length_cons, List.length_nil, Option.toList, List.nil_append, List.cons_append, true_and, and_true, if_true, if_false, ne_eq, not_true, not_false_eq_true, and_self, true_or, or_true, false_or, or_false, false_and, and_false]
    exact fin _ (by rw [hH]; simp [hc])
  · simp (disch := omega) only [x215_0, x215_1, x215_4, x215_5, x215_8, x215_9, x215_10, x215_13, x215_14, x215_17, x215_18, x215_19, x215_22, x215_23, x215_26, x215_27, x215_30, x215_31, x215_34, x215_37, x215_38, x215_39, x215_40, x215_44, x215_45, x215_48, x215_49, x215_52, x215_53, x215_56, x215_57, x215_60, x215_62, x215_63, x215_66, x215_67, x215_70, x215_72, x215_73, x215_76, x215_77, x215_79, x215_80, x215_81, x215_82, x215_85, x215_86, x215_89, x215_90, x215_91, x215_94, x215_95, x215_98, x215_99, x215_102, x215_103, x215_104, x215_107, x215_109, x215_110, x215_113, x215_114, x215_116, x215_117, x215_118, x215_119, x215_120, x215_123, x215_126, x215_127, ↓reduceIte, Bool.false_eq_true, Nat.reduceAdd, Nat.reduceLT, Nat.reduceLeDiff, Nat.reduceSub, Nat.reduceEqDiff, Int.reduceToNat, Int.reduceEq, Int.reduceLT, Int.reduceLE, Int.reduceAdd, Int.reduceSub, zg, zI, zJ, zR, zst, zkl, zn, zcat, zok, zraw, List.length_cons, List.length_nil, Option.toList, List.nil_append, List.cons_append, true_and, and_true, if_true, if_false, ne_eq, not_true, not_false_eq_true, and_self, true_or, or_true, false_or, or_false, false_and, and_false, b_138 hm, r_138_24 hm, x_149 hm, h18, hrc.2.2, hc, hd0, Int.toNat_natCast]
    exact fin _ (by rw [hH]; simp [hc])
  · simp (disch := omega) only [x215_0, x215_1, x215_4, x215_5, x215_8, x215_9, x215_10, x215_13, x215_14, x215_17, x215_18, x215_19, x215_22, x215_23, x215_26, x215_27, x215_30, x215_31, x215_34, x215_37, x215_38, x215_39, x215_40, x215_44, x215_45, x215_48, x215_49, x215_52, x215_53, x215_56, x215_57, x215_60, x215_62, x215_63, x215_66, x215_67, x215_70, x215_72, x215_73, x215_76, x215_77, x215_79, x215_80, x215_81, x215_82, x215_85, x215_86, x215_89, x215_90, x215_91, x215_94, x215_95, x215_98, x215_99, x215_102, x215_103, x215_104, x215_107, x215_109, x215_110, x215_113, x215_114, x215_116, x215_117, x215_118, x215_119, x215_120, x215_123, x215_126, x215_127, ↓reduceIte, Bool.false_eq_true, Nat.reduceAdd, Nat.reduceLT, Nat.reduceLeDiff, Nat.reduceSub, Nat.reduceEqDiff, Int.reduceToNat, Int.reduceEq, Int.reduceLT, Int.reduceLE, Int.reduceAdd, Int.reduceSub, zg, zI, zJ, zR, zst, zkl, zn, zcat, zok, zraw, List.length_cons, List.length_nil, Option.toList, List.nil_append, List.cons_append, true_and, and_true, if_true, if_false, ne_eq, not_true, not_false_eq_true, and_self, true_or, or_true, false_or, or_false, false_and, and_false, b_138 hm, r_138_24 hm, x_149 hm, h18, hrc.2.2, hc, hd0, Int.toNat_natCast]
    exact fin _ (by rw [hH]; simp [hc])
  · simp (disch := omega) only [x215_0, x215_1, x215_4, x215_5, x215_8, x215_9, x215_10, x215_13, x215_14, x215_17, x215_18, x215_19, x215_22, x215_23, x215_26, x215_27, x215_30, x215_31, x215_34, x215_37, x215_38, x215_39, x215_40, x215_44, x215_45, x215_48, x215_49, x215_52, x215_53, x215_56, x215_57, x215_60, x215_62, x215_63, x215_66, x215_67, x215_70, x215_72, x215_73, x215_76, x215_77, x215_79, x215_80, x215_81, x215_82, x215_85, x215_86, x215_89, x215_90, x215_91, x215_94, x215_95, x215_98, x215_99, x215_102, x215_103, x215_104, x215_107, x215_109, x215_110, x215_113, x215_114, x215_116, x215_117, x215_118, x215_119, x215_120, x215_123, x215_126, x215_127, ↓reduceIte, Bool.false_eq_true, Nat.reduceAdd, Nat.reduceLT, Nat.reduceLeDiff, Nat.reduceSub, Nat.reduceEqDiff, Int.reduceToNat, Int.reduceEq, Int.reduceLT, Int.reduceLE, Int.reduceAdd, Int.reduceSub, zg, zI, zJ, zR, zst, zkl, zn, zcat, zok, zraw, List.length_cons, List.length_nil, Option.toList, List.nil_append, List.cons_append, true_and, and_true, if_true, if_false, ne_eq, not_true, not_false_eq_true, and_self, true_or, or_true, false_or, or_false, false_and, and_false, b_138 hm, r_138_24 hm, x_149 hm, h18, hrc.2.2, hc, hd0, Int.toNat_natCast]
    refine mHoles (by omega) hX hO ?_
    simp (disch := omega) only [x215_0, x215_1, x215_4, x215_5, x215_8, x215_9, x215_10, x215_13, x215_14, x215_17, x215_18, x215_19, x215_22, x215_23, x215_26, x215_27, x215_30, x215_31, x215_34, x215_37, x215_38, x215_39, x215_40, x215_44, x215_45, x215_48, x215_49, x215_52, x215_53, x215_56, x215_57, x215_60, x215_62, x215_63, x215_66, x215_67, x215_70, x215_72, x215_73, x215_76, x215_77, x215_79, x215_80, x215_81, x215_82, x215_85, x215_86, x215_89, x215_90, x215_91, x215_94, x215_95, x215_98, x215_99, x215_102, x215_103, x215_104, x215_107, x215_109, x215_110, x215_113, x215_114, x215_116, x215_117, x215_118, x215_119, x215_120, x215_123, x215_126, x215_127, ↓reduceIte, Bool.false_eq_true, Nat.reduceAdd, Nat.reduceLT, Nat.reduceLeDiff, Nat.reduceSub, Nat.reduceEqDiff, Int.reduceToNat, Int.reduceEq, Int.reduceLT, Int.reduceLE, Int.reduceAdd, Int.reduceSub, zg, zI, zJ, zR, zst, zkl, zn, zcat, zok, zraw, List.length_cons, List.length_nil, Option.toList, List.nil_append, List.cons_append, true_and, and_true, if_true, if_false, ne_eq, not_true, not_false_eq_true, and_self, true_or, or_true, false_or, or_false, false_and, and_false]
    exact fin _ (by rw [hH]; simp [hc])
end MI
