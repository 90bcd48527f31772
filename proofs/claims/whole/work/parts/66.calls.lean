/-! CALLS that ask, both sides: nails, without, night, years (printed by calls3.py) -/
section CD
variable {θ : zS} {T U : Nat} {σ : zSt} {Q : Option zV → zS → zM → Prop} {μ : zM} {s : Nat}
/-- a call that asks, but for what the planner remembers -/
theorem CS_frK {μ' : zM} {A : List Nat} (h : CS θ T U σ μ) (hf : Fr A μ μ') (hA : ∀ a ∈ A, okA a = true ∨ a = 104 ∨ a = 105 ∨ a = 106) (hk' : CK (sT σ) (sG σ) μ') : CS θ T U σ μ' := by
  obtain ⟨hX, hw, hn, hk, ht, hl, hv, htp, hp⟩ := h
  have e : ∀ a, okA a = false → a ≠ 104 → a ≠ 105 → a ≠ 106 → μ' a = μ a := fun a ha h4 h5 h6 => hf a (fun hm => by
    rcases hA a hm with h' | h' | h' | h'
    · rw [ha] at h'; cases h'
    · exact h4 h'
    · exact h5 h'
    · exact h6 h')
  have hX' : CX θ T U (sT σ) μ' := CX_fr hX hf (fun a ha hh => by
    rcases hA a ha with h' | h' | h' | h'
    · unfold okA at h'; simp at h'; omega
    · omega
    · omega
    · omega)
  have r : ∀ a, 46 ≤ a → a ≤ 59 → μ' a = μ a := fun a h1 h2 => e a (by unfold okA; simp; omega) (by omega) (by omega) (by omega)
  have r2 : ∀ a, 62 ≤ a → a ≤ 103 → μ' a = μ a := fun a h1 h2 => e a (by unfold okA; simp; omega) (by omega) (by omega) (by omega)
  refine ⟨hX', hw, CSn_fr (Or.inl rfl) hn r, hk', ?_, CSl_fr hl r2, ?_, ?_, ?_⟩
  · unfold CT; rw [e 122 rfl (by decide) (by decide) (by decide), e 130 rfl (by decide) (by decide) (by decide)]; exact ht
  · unfold CV; rw [e 131 rfl (by decide) (by decide) (by decide), e 132 rfl (by decide) (by decide) (by decide), e 133 rfl (by decide) (by decide) (by decide), e 134 rfl (by decide) (by decide) (by decide), e 135 rfl (by decide) (by decide) (by decide), e 136 rfl (by decide) (by decide) (by decide)]; exact hv
  · rw [e 3 rfl (by decide) (by decide) (by decide), e 7 rfl (by decide) (by decide) (by decide)]; exact htp
  · rw [e 2 rfl (by decide) (by decide) (by decide)]; unfold CWd; rw [e 8 rfl (by decide) (by decide) (by decide)]; exact hp
theorem CK_nl {μ' : zM} {n : Nat} (h : CK (sT σ) (sG σ) μ) (hf : Fr KN μ μ') (hj : ∀ j, j ≠ 2 → j ≠ 3 → j ≠ 9 → μ' 104 j = μ 104 j) (h9 : μ' 104 9 = (n : Int)) (hP : CP (nlO (sT σ) (gR (sG σ)) (gU (sG σ)) n) μ') : CK (sT σ) (sG σ) μ' := by
  refine ⟨fun m hm e => ?_, fun m hm e => ?_⟩
  · rw [h9] at e
    have : n = m := by omega
    subst this; exact hP
  · rw [hj 10 (by decide) (by decide) (by decide)] at e
    have := h.2 m hm e
    unfold CQ at this ⊢
    rw [hj 5 (by decide) (by decide) (by decide), hj 4 (by decide) (by decide) (by decide), hf 106 (by decide)]
    exact this
theorem CK_st {μ' : zM} {n : Nat} (h : CK (sT σ) (sG σ) μ) (hf : Fr KS μ μ') (hj : ∀ j, j ≠ 4 → j ≠ 5 → j ≠ 10 → μ' 104 j = μ 104 j) (h9 : μ' 104 10 = (n : Int)) (hP : CQ (stO (sT σ) (gR (sG σ)) (gU (sG σ)) n).1 μ') : CK (sT σ) (sG σ) μ' := by
  refine ⟨fun m hm e => ?_, fun m hm e => ?_⟩
  · rw [hj 9 (by decide) (by decide) (by decide)] at e
    have := h.1 m hm e
    unfold CP at this ⊢
    rw [hj 2 (by decide) (by decide) (by decide), hj 3 (by decide) (by decide) (by decide), hf 105 (by decide)]
    exact this
  · rw [h9] at e
    have : n = m := by omega
    subst this; exact hP
theorem kn_ok : ∀ a ∈ KN, okA a = true ∨ a = 104 ∨ a = 105 ∨ a = 106 := by decide
theorem ks_ok : ∀ a ∈ KS, okA a = true ∨ a = 104 ∨ a = 105 ∨ a = 106 := by decide
theorem kn_b : ∀ a ∈ KN, 2 ≤ a ∧ a < 138 := by decide
theorem ks_b : ∀ a ∈ KS, 2 ≤ a ∧ a < 138 := by decide
/-- the i-th of a list, -1 behind it -/
def atO (l : List Nat) (i : Int) : Int := if 0 ≤ i ∧ i < (l.length : Int) then ((l.getD i.toNat 0 : Nat) : Int) else -1
theorem atO_in {l : List Nat} {N : Nat} (h : N < l.length) : atO l (N : Int) = ((l[N] : Nat) : Int) := by
  unfold atO
  rw [if_pos (by omega), Int.toNat_natCast, List.getD_eq_getElem?_getD, List.getElem?_eq_getElem h]; rfl
theorem atO_no {l : List Nat} {i : Int} (h : ¬ (0 ≤ i ∧ i < (l.length : Int))) : atO l i = -1 := if_neg h
theorem nl_nn {τ : zT} {ρ : zF} {Gs : zU} (hw : wfT τ) (hG : wfU Gs) (n : Nat) : 0 ≤ (nlO τ ρ Gs n).1 := by
  have h0 := (ha_nn hw ρ hG).1
  have h1 : ∀ {S : zN} {ρ' : zF} k, 0 ≤ S.1 → 0 ≤ (n1O τ ρ' Gs S k).1 := by
    intro S ρ' k hS
    induction k with
    | zero => exact hS
    | succ k ih =>
      show 0 ≤ (s1O τ ρ' Gs (n1O τ ρ' Gs S k) k).1
      unfold s1O
      by_cases q : canO ρ' k = true ∧ haO τ (naF ρ' k) Gs < (n1O τ ρ' Gs S k).1
      · rw [if_pos q]; exact (ha_nn hw _ hG).1
      · rw [if_neg q]; exact ih
  have h2 : ∀ {S : zN} {a : Nat} k, 0 ≤ S.1 → 0 ≤ (n2O τ ρ Gs a S k).1 := by
    intro S a k hS
    induction k with
    | zero => exact hS
    | succ k ih =>
      show 0 ≤ (s2O τ ρ Gs a (n2O τ ρ Gs a S k) k).1
      unfold s2O
      by_cases q : (a < k ∧ canO ρ k = true) ∧ haO τ (naF (naF ρ a) k) Gs < (n2O τ ρ Gs a S k).1
      · rw [if_pos q]; exact (ha_nn hw _ hG).1
      · rw [if_neg q]; exact ih
  have h3 : ∀ {S : zN} k, 0 ≤ S.1 → 0 ≤ (n3O τ ρ Gs S k).1 := by
    intro S k hS
    induction k with
    | zero => exact hS
    | succ k ih =>
      unfold n3O
      by_cases q : canO ρ k = true
      · rw [if_pos q]; exact h2 _ ih
      · rw [if_neg q]; exact ih
  unfold nlO
  by_cases q1 : 1 ≤ n
  · by_cases q2 : 2 ≤ n
    · simp only [q1, q2, if_true]; exact h3 _ (h1 _ h0)
    · simp only [q1, q2, if_true, if_false]; exact h1 _ h0
  · have q2 : ¬ 2 ≤ n := by omega
    simp only [q1, q2, if_false]; exact h0
theorem nl_len {τ : zT} {ρ : zF} {Gs : zU} (n : Nat) : (nlO τ ρ Gs n).2.length ≤ 2 := by
  have h1 : ∀ {S : zN} {ρ' : zF} k, S.2.length ≤ 2 → (n1O τ ρ' Gs S k).2.length ≤ 2 := by
    intro S ρ' k hS
    induction k with
    | zero => exact hS
    | succ k ih =>
      show (s1O τ ρ' Gs (n1O τ ρ' Gs S k) k).2.length ≤ 2
      unfold s1O
      by_cases q : canO ρ' k = true ∧ haO τ (naF ρ' k) Gs < (n1O τ ρ' Gs S k).1
      · rw [if_pos q]; simp
      · rw [if_neg q]; exact ih
  have h2 : ∀ {S : zN} {a : Nat} k, S.2.length ≤ 2 → (n2O τ ρ Gs a S k).2.length ≤ 2 := by
    intro S a k hS
    induction k with
    | zero => exact hS
    | succ k ih =>
      show (s2O τ ρ Gs a (n2O τ ρ Gs a S k) k).2.length ≤ 2
      unfold s2O
      by_cases q : (a < k ∧ canO ρ k = true) ∧ haO τ (naF (naF ρ a) k) Gs < (n2O τ ρ Gs a S k).1
      · rw [if_pos q]; simp
      · rw [if_neg q]; exact ih
  have h3 : ∀ {S : zN} k, S.2.length ≤ 2 → (n3O τ ρ Gs S k).2.length ≤ 2 := by
    intro S k hS
    induction k with
    | zero => exact hS
    | succ k ih =>
      unfold n3O
      by_cases q : canO ρ k = true
      · rw [if_pos q]; exact h2 _ ih
      · rw [if_neg q]; exact ih
  unfold nlO
  by_cases q1 : 1 ≤ n
  · by_cases q2 : 2 ≤ n
    · simp only [q1, q2, if_true]; exact h3 _ (h1 _ (by simp))
    · simp only [q1, q2, if_true, if_false]; exact h1 _ (by simp)
  · have q2 : ¬ 2 ≤ n := by omega
    simp only [q1, q2, if_false]; simp
theorem st_nn {τ : zT} {ρ : zF} {Gs : zU} (hw : wfT τ) (hG : wfU Gs) : ∀ n, 0 ≤ (stO τ ρ Gs n).1.1 := by
  have h1 : ∀ {S : zN} {ρ' : zF} k, 0 ≤ S.1 → 0 ≤ (n1O τ ρ' Gs S k).1 := by
    intro S ρ' k hS
    induction k with
    | zero => exact hS
    | succ k ih =>
      show 0 ≤ (s1O τ ρ' Gs (n1O τ ρ' Gs S k) k).1
      unfold s1O
      by_cases q : canO ρ' k = true ∧ haO τ (naF ρ' k) Gs < (n1O τ ρ' Gs S k).1
      · rw [if_pos q]; exact (ha_nn hw _ hG).1
      · rw [if_neg q]; exact ih
  intro n
  induction n with
  | zero => exact (ha_nn hw ρ hG).1
  | succ k ih =>
    unfold stO
    cases hh : (n1O τ (stO τ ρ Gs k).2 Gs ((stO τ ρ Gs k).1.1, []) (tn τ)).2 with
    | nil => exact ih
    | cons t l => exact h1 _ ih
def vNailing (σ : zSt) (n : Int) : Int := if 0 ≤ n ∧ n ≤ 2 then ((nlO (sT σ) (gR (sG σ)) (gU (sG σ)) n.toNat).1) else -1
theorem kNailing {d : Nat} {n : Int} (h : CS θ T U σ μ) (hd : 7 ≤ d) (hQ : ∀ μ', CL μ μ' → CS θ T U σ μ' → Q (some (vi (vNailing σ n))) θ μ') : Ex d 132 0 [vr 2, vi n] [] θ μ Q := by
  have hc := h.1.1.1
  have hT := h.1.1.2.1
  have h2T := h.1.1.2.2.2.2.1
  have hd0 : 0 < d := by omega
  have hd1 : 0 < d - 1 := by omega
  have hn := tn_b h.1.2.1
  have hno : ¬ (0 ≤ n ∧ n ≤ 2) → Q (some (vi (-1))) θ μ := fun hn => by
    have := hQ μ (fun _ _ => rfl) h
    unfold vNailing at this
    rwa [if_neg hn] at this
  have hyes : (0 ≤ n ∧ n ≤ 2) → ∀ {μ'}, CL μ μ' → CS θ T U σ μ' → Q (some (vi ((nlO (sT σ) (gR (sG σ)) (gU (sG σ)) n.toNat).1))) θ μ' := fun hp μ' a b => by
    have := hQ μ' a b
    unfold vNailing at this
    rwa [if_pos hp] at this
  by_cases q0 : n < 0
  · simp (disch := omega) only [x132_0, x132_1, x132_4, x132_5, x132_6, x132_9, x132_10, x132_11, x132_12, x132_15, x132_16, x132_19, x132_20, x132_23, x132_26, ↓reduceIte, Bool.false_eq_true, Nat.reduceAdd, Nat.reduceLT, Nat.reduceLeDiff, Nat.reduceSub, Nat.reduceEqDiff, Int.reduceToNat, Int.reduceEq, Int.reduceLT, Int.reduceLE, Int.reduceAdd, Int.reduceSub, zg, zI, zJ, zR, zst, zkl, zn, zcat, zok, zraw, List.length_cons, List.length_nil, Option.toList, List.nil_append, List.cons_append, true_and, and_true, if_true, if_false, ne_eq, not_true, not_false_eq_true, and_self, true_or, or_true, false_or, or_false, false_and, and_false, b_2 hc, b_3 hc, b_9 hc, b_12 hc, b_26 hc, b_40 hc, b_46 hc, b_47 hc, b_60 hc, b_62 hc, b_63 hc, b_76 hc, b_77 hc, b_90 hc, b_91 hc, b_104 hc, b_107 hc, b_114 hc, b_115 hc, b_122 hc, b_123 hc, b_131 hc, b_2 hc, r_2_0 hc, r_2_1 hc, r_2_2 hc, r_2_3 hc, r_2_4 hc, r_2_5 hc, x_61 hc, n_61 hc, r_2_6 hc, r_2_7 hc, r_2_8 hc, r_2_9 hc, b_46 hc, r_46_0 hc, r_46_1 hc, x_54 hc, r_46_2 hc, x_55 hc, r_46_3 hc, x_56 hc, r_46_4 hc, x_57 hc, r_46_5 hc, x_58 hc, r_46_6 hc, x_59 hc, b_40 hc, r_40_0 hc, x_41 hc, r_40_1 hc, x_42 hc, r_40_2 hc, x_43 hc, r_40_9 hc, r_40_10 hc, x_44 hc, r_40_11 hc, x_45 hc, b_9 hc, r_9_0 hc, x_10 hc, r_9_1 hc, x_11 hc, b_104 hc, r_104_0 hc, x_105 hc, r_104_1 hc, x_106 hc, r_104_6 hc, r_104_7 hc, r_104_8 hc, b_114 hc, r_114_0 hc, r_114_1 hc, r_114_2 hc, b_131 hc, r_131_7 hc, x_132 hc, r_131_8 hc, x_133 hc, r_131_9 hc, x_134 hc, r_131_10 hc, x_135 hc, r_131_11 hc, x_136 hc, r_131_12 hc, x_137 hc, hd0, hd1, q0]
    exact hno (by omega)
  · by_cases q1 : n ≤ 2
    · simp (disch := omega) only [x132_0, x132_1, x132_4, x132_5, x132_6, x132_9, x132_10, x132_11, x132_12, x132_15, x132_16, x132_19, x132_20, x132_23, x132_26, ↓reduceIte, Bool.false_eq_true, Nat.reduceAdd, Nat.reduceLT, Nat.reduceLeDiff, Nat.reduceSub, Nat.reduceEqDiff, Int.reduceToNat, Int.reduceEq, Int.reduceLT, Int.reduceLE, Int.reduceAdd, Int.reduceSub, zg, zI, zJ, zR, zst, zkl, zn, zcat, zok, zraw, List.length_cons, List.length_nil, Option.toList, List.nil_append, List.cons_append, true_and, and_true, if_true, if_false, ne_eq, not_true, not_false_eq_true, and_self, true_or, or_true, false_or, or_false, false_and, and_false, b_2 hc, b_3 hc, b_9 hc, b_12 hc, b_26 hc, b_40 hc, b_46 hc, b_47 hc, b_60 hc, b_62 hc, b_63 hc, b_76 hc, b_77 hc, b_90 hc, b_91 hc, b_104 hc, b_107 hc, b_114 hc, b_115 hc, b_122 hc, b_123 hc, b_131 hc, b_2 hc, r_2_0 hc, r_2_1 hc, r_2_2 hc, r_2_3 hc, r_2_4 hc, r_2_5 hc, x_61 hc, n_61 hc, r_2_6 hc, r_2_7 hc, r_2_8 hc, r_2_9 hc, b_46 hc, r_46_0 hc, r_46_1 hc, x_54 hc, r_46_2 hc, x_55 hc, r_46_3 hc, x_56 hc, r_46_4 hc, x_57 hc, r_46_5 hc, x_58 hc, r_46_6 hc, x_59 hc, b_40 hc, r_40_0 hc, x_41 hc, r_40_1 hc, x_42 hc, r_40_2 hc, x_43 hc, r_40_9 hc, r_40_10 hc, x_44 hc, r_40_11 hc, x_45 hc, b_9 hc, r_9_0 hc, x_10 hc, r_9_1 hc, x_11 hc, b_104 hc, r_104_0 hc, x_105 hc, r_104_1 hc, x_106 hc, r_104_6 hc, r_104_7 hc, r_104_8 hc, b_114 hc, r_114_0 hc, r_114_1 hc, r_114_2 hc, b_131 hc, r_131_7 hc, x_132 hc, r_131_8 hc, x_133 hc, r_131_9 hc, x_134 hc, r_131_10 hc, x_135 hc, r_131_11 hc, x_136 hc, r_131_12 hc, x_137 hc, hd0, hd1, q0, q1]
      obtain ⟨N, rfl⟩ : ∃ N : Nat, n = (N : Int) := ⟨n.toNat, by omega⟩
      have hy := fun {μ'} => hyes (by omega) (μ' := μ')
      rw [Int.toNat_natCast] at hy
      refine cChoose (d := d - 1) (n := N) h.1 h.2.2.1.1 h.2.1.2.1.2.2.2 h.2.2.1.2.2.2.2 (by omega) rfl (by omega) (fun e => h.2.2.2.1.1 N (by omega) e) ?_
      intro μ1 hf hj h9 hP
      have hcl := CL_fr hf kn_b
      have hcs := CS_frK h hf kn_ok (CK_nl h.2.2.2.1 hf hj h9 hP)
      have e := hP.1
      simp (disch := omega) only [x132_0, x132_1, x132_4, x132_5, x132_6, x132_9, x132_10, x132_11, x132_12, x132_15, x132_16, x132_19, x132_20, x132_23, x132_26, ↓reduceIte, Bool.false_eq_true, Nat.reduceAdd, Nat.reduceLT, Nat.reduceLeDiff, Nat.reduceSub, Nat.reduceEqDiff, Int.reduceToNat, Int.reduceEq, Int.reduceLT, Int.reduceLE, Int.reduceAdd, Int.reduceSub, zg, zI, zJ, zR, zst, zkl, zn, zcat, zok, zraw, List.length_cons, List.length_nil, Option.toList, List.nil_append, List.cons_append, true_and, and_true, if_true, if_false, ne_eq, not_true, not_false_eq_true, and_self, true_or, or_true, false_or, or_false, false_and, and_false, b_2 hc, b_3 hc, b_9 hc, b_12 hc, b_26 hc, b_40 hc, b_46 hc, b_47 hc, b_60 hc, b_62 hc, b_63 hc, b_76 hc, b_77 hc, b_90 hc, b_91 hc, b_104 hc, b_107 hc, b_114 hc, b_115 hc, b_122 hc, b_123 hc, b_131 hc, b_2 hc, r_2_0 hc, r_2_1 hc, r_2_2 hc, r_2_3 hc, r_2_4 hc, r_2_5 hc, x_61 hc, n_61 hc, r_2_6 hc, r_2_7 hc, r_2_8 hc, r_2_9 hc, b_104 hc, r_104_0 hc, x_105 hc, r_104_1 hc, x_106 hc, r_104_6 hc, r_104_7 hc, r_104_8 hc, e]
      exact hy hcl hcs
    · simp (disch := omega) only [x132_0, x132_1, x132_4, x132_5, x132_6, x132_9, x132_10, x132_11, x132_12, x132_15, x132_16, x132_19, x132_20, x132_23, x132_26, ↓reduceIte, Bool.false_eq_true, Nat.reduceAdd, Nat.reduceLT, Nat.reduceLeDiff, Nat.reduceSub, Nat.reduceEqDiff, Int.reduceToNat, Int.reduceEq, Int.reduceLT, Int.reduceLE, Int.reduceAdd, Int.reduceSub, zg, zI, zJ, zR, zst, zkl, zn, zcat, zok, zraw, List.length_cons, List.length_nil, Option.toList, List.nil_append, List.cons_append, true_and, and_true, if_true, if_false, ne_eq, not_true, not_false_eq_true, and_self, true_or, or_true, false_or, or_false, false_and, and_false, b_2 hc, b_3 hc, b_9 hc, b_12 hc, b_26 hc, b_40 hc, b_46 hc, b_47 hc, b_60 hc, b_62 hc, b_63 hc, b_76 hc, b_77 hc, b_90 hc, b_91 hc, b_104 hc, b_107 hc, b_114 hc, b_115 hc, b_122 hc, b_123 hc, b_131 hc, b_2 hc, r_2_0 hc, r_2_1 hc, r_2_2 hc, r_2_3 hc, r_2_4 hc, r_2_5 hc, x_61 hc, n_61 hc, r_2_6 hc, r_2_7 hc, r_2_8 hc, r_2_9 hc, b_46 hc, r_46_0 hc, r_46_1 hc, x_54 hc, r_46_2 hc, x_55 hc, r_46_3 hc, x_56 hc, r_46_4 hc, x_57 hc, r_46_5 hc, x_58 hc, r_46_6 hc, x_59 hc, b_40 hc, r_40_0 hc, x_41 hc, r_40_1 hc, x_42 hc, r_40_2 hc, x_43 hc, r_40_9 hc, r_40_10 hc, x_44 hc, r_40_11 hc, x_45 hc, b_9 hc, r_9_0 hc, x_10 hc, r_9_1 hc, x_11 hc, b_104 hc, r_104_0 hc, x_105 hc, r_104_1 hc, x_106 hc, r_104_6 hc, r_104_7 hc, r_104_8 hc, b_114 hc, r_114_0 hc, r_114_1 hc, r_114_2 hc, b_131 hc, r_131_7 hc, x_132 hc, r_131_8 hc, x_133 hc, r_131_9 hc, x_134 hc, r_131_10 hc, x_135 hc, r_131_11 hc, x_136 hc, r_131_12 hc, x_137 hc, hd0, hd1, q0, q1]
      exact hno (by omega)
theorem rNailing {d : Nat} {n : Int} (h : MS θ σ s μ) (hd : 11 ≤ d) (hQ : ∀ μ', ML2 μ μ' → MS θ σ s μ' → Q (some (vi (vNailing σ n))) θ μ') : Ex d 260 0 [vr 138, vi n] [] θ μ Q := by
  have hm := h.1.1
  have hd0 : 0 < d := by omega
  have hd1 : 0 < d - 1 := by omega
  have hn := tn_b h.1.2.1
  have hno : ¬ (0 ≤ n ∧ n ≤ 2) → Q (some (vi (-1))) θ μ := fun hn => by
    have := hQ μ (fun _ _ => rfl) h
    unfold vNailing at this
    rwa [if_neg hn] at this
  have hyes : (0 ≤ n ∧ n ≤ 2) → ∀ {μ'}, ML2 μ μ' → MS θ σ s μ' → Q (some (vi ((nlO (sT σ) (gR (sG σ)) (gU (sG σ)) n.toNat).1))) θ μ' := fun hp μ' a b => by
    have := hQ μ' a b
    unfold vNailing at this
    rwa [if_pos hp] at this
  by_cases q0 : 0 ≤ n ∧ n ≤ 2
  · simp (disch := omega) only [x260_0, x260_1, x260_2, x260_3, x260_6, x260_9, x260_10, x260_11, x260_14, x260_17, x260_18, ↓reduceIte, Bool.false_eq_true, Nat.reduceAdd, Nat.reduceLT, Nat.reduceLeDiff, Nat.reduceSub, Nat.reduceEqDiff, Int.reduceToNat, Int.reduceEq, Int.reduceLT, Int.reduceLE, Int.reduceAdd, Int.reduceSub, zg, zI, zJ, zR, zst, zkl, zn, zcat, zok, zraw, List.length_cons, List.length_nil, Option.toList, List.nil_append, List.cons_append, true_and, and_true, if_true, if_false, ne_eq, not_true, not_false_eq_true, and_self, true_or, or_true, false_or, or_false, false_and, and_false, b_138 hm, hd0, hd1, mIn, q0]
    obtain ⟨N, rfl⟩ : ∃ N : Nat, n = (N : Int) := ⟨n.toNat, by omega⟩
    have hy := fun {μ'} => hyes (by omega) (μ' := μ')
    rw [Int.toNat_natCast] at hy
    refine mNailing (d := d - 1) (n := N) (by omega) h.1 h.2.2.1.1 h.2.1.2.1.2.2.2 h.2.2.1.2.2.2 rfl (by omega) ?_
    intro μ1 hf hj hR hC
    simp (disch := omega) only [x260_0, x260_1, x260_2, x260_3, x260_6, x260_9, x260_10, x260_11, x260_14, x260_17, x260_18, ↓reduceIte, Bool.false_eq_true, Nat.reduceAdd, Nat.reduceLT, Nat.reduceLeDiff, Nat.reduceSub, Nat.reduceEqDiff, Int.reduceToNat, Int.reduceEq, Int.reduceLT, Int.reduceLE, Int.reduceAdd, Int.reduceSub, zg, zI, zJ, zR, zst, zkl, zn, zcat, zok, zraw, List.length_cons, List.length_nil, Option.toList, List.nil_append, List.cons_append, true_and, and_true, if_true, if_false, ne_eq, not_true, not_false_eq_true, and_self, true_or, or_true, false_or, or_false, false_and, and_false]
    exact hy (MLe_fr hf (by decide)) (MS_fr2 h hf (by decide) hj.nine hR)
  · simp (disch := omega) only [x260_0, x260_1, x260_2, x260_3, x260_6, x260_9, x260_10, x260_11, x260_14, x260_17, x260_18, ↓reduceIte, Bool.false_eq_true, Nat.reduceAdd, Nat.reduceLT, Nat.reduceLeDiff, Nat.reduceSub, Nat.reduceEqDiff, Int.reduceToNat, Int.reduceEq, Int.reduceLT, Int.reduceLE, Int.reduceAdd, Int.reduceSub, zg, zI, zJ, zR, zst, zkl, zn, zcat, zok, zraw, List.length_cons, List.length_nil, Option.toList, List.nil_append, List.cons_append, true_and, and_true, if_true, if_false, ne_eq, not_true, not_false_eq_true, and_self, true_or, or_true, false_or, or_false, false_and, and_false, b_138 hm, hd0, hd1, mIn, q0]
    exact hno (by omega)
def vNailingAt (σ : zSt) (n i : Int) : Int := if 0 ≤ n ∧ n ≤ 2 then (atO (nlO (sT σ) (gR (sG σ)) (gU (sG σ)) n.toNat).2 i) else -1
theorem kNailingAt {d : Nat} {n i : Int} (h : CS θ T U σ μ) (hd : 7 ≤ d) (hQ : ∀ μ', CL μ μ' → CS θ T U σ μ' → Q (some (vi (vNailingAt σ n i))) θ μ') : Ex d 133 0 [vr 2, vi n, vi i] [] θ μ Q := by
  have hc := h.1.1.1
  have hT := h.1.1.2.1
  have h2T := h.1.1.2.2.2.2.1
  have hd0 : 0 < d := by omega
  have hd1 : 0 < d - 1 := by omega
  have hn := tn_b h.1.2.1
  have hno : ¬ (0 ≤ n ∧ n ≤ 2) → Q (some (vi (-1))) θ μ := fun hn => by
    have := hQ μ (fun _ _ => rfl) h
    unfold vNailingAt at this
    rwa [if_neg hn] at this
  have hyes : (0 ≤ n ∧ n ≤ 2) → ∀ {μ'}, CL μ μ' → CS θ T U σ μ' → Q (some (vi (atO (nlO (sT σ) (gR (sG σ)) (gU (sG σ)) n.toNat).2 i))) θ μ' := fun hp μ' a b => by
    have := hQ μ' a b
    unfold vNailingAt at this
    rwa [if_pos hp] at this
  by_cases q0 : n < 0
  · simp (disch := omega) only [x133_0, x133_1, x133_4, x133_5, x133_6, x133_9, x133_10, x133_11, x133_12, x133_15, x133_16, x133_19, x133_20, x133_23, x133_24, x133_25, x133_28, x133_31, x133_34, x133_35, x133_38, x133_39, x133_42, x133_45, x133_46, x133_47, ↓reduceIte, Bool.false_eq_true, Nat.reduceAdd, Nat.reduceLT, Nat.reduceLeDiff, Nat.reduceSub, Nat.reduceEqDiff, Int.reduceToNat, Int.reduceEq, Int.reduceLT, Int.reduceLE, Int.reduceAdd, Int.reduceSub, zg, zI, zJ, zR, zst, zkl, zn, zcat, zok, zraw, List.length_cons, List.length_nil, Option.toList, List.nil_append, List.cons_append, true_and, and_true, if_true, if_false, ne_eq, not_true, not_false_eq_true, and_self, true_or, or_true, false_or, or_false, false_and, and_false, b_2 hc, b_3 hc, b_9 hc, b_12 hc, b_26 hc, b_40 hc, b_46 hc, b_47 hc, b_60 hc, b_62 hc, b_63 hc, b_76 hc, b_77 hc, b_90 hc, b_91 hc, b_104 hc, b_107 hc, b_114 hc, b_115 hc, b_122 hc, b_123 hc, b_131 hc, b_2 hc, r_2_0 hc, r_2_1 hc, r_2_2 hc, r_2_3 hc, r_2_4 hc, r_2_5 hc, x_61 hc, n_61 hc, r_2_6 hc, r_2_7 hc, r_2_8 hc, r_2_9 hc, b_46 hc, r_46_0 hc, r_46_1 hc, x_54 hc, r_46_2 hc, x_55 hc, r_46_3 hc, x_56 hc, r_46_4 hc, x_57 hc, r_46_5 hc, x_58 hc, r_46_6 hc, x_59 hc, b_40 hc, r_40_0 hc, x_41 hc, r_40_1 hc, x_42 hc, r_40_2 hc, x_43 hc, r_40_9 hc, r_40_10 hc, x_44 hc, r_40_11 hc, x_45 hc, b_9 hc, r_9_0 hc, x_10 hc, r_9_1 hc, x_11 hc, b_104 hc, r_104_0 hc, x_105 hc, r_104_1 hc, x_106 hc, r_104_6 hc, r_104_7 hc, r_104_8 hc, b_114 hc, r_114_0 hc, r_114_1 hc, r_114_2 hc, b_131 hc, r_131_7 hc, x_132 hc, r_131_8 hc, x_133 hc, r_131_9 hc, x_134 hc, r_131_10 hc, x_135 hc, r_131_11 hc, x_136 hc, r_131_12 hc, x_137 hc, hd0, hd1, q0]
    exact hno (by omega)
  · by_cases q1 : n ≤ 2
    · simp (disch := omega) only [x133_0, x133_1, x133_4, x133_5, x133_6, x133_9, x133_10, x133_11, x133_12, x133_15, x133_16, x133_19, x133_20, x133_23, x133_24, x133_25, x133_28, x133_31, x133_34, x133_35, x133_38, x133_39, x133_42, x133_45, x133_46, x133_47, ↓reduceIte, Bool.false_eq_true, Nat.reduceAdd, Nat.reduceLT, Nat.reduceLeDiff, Nat.reduceSub, Nat.reduceEqDiff, Int.reduceToNat, Int.reduceEq, Int.reduceLT, Int.reduceLE, Int.reduceAdd, Int.reduceSub, zg, zI, zJ, zR, zst, zkl, zn, zcat, zok, zraw, List.length_cons, List.length_nil, Option.toList, List.nil_append, List.cons_append, true_and, and_true, if_true, if_false, ne_eq, not_true, not_false_eq_true, and_self, true_or, or_true, false_or, or_false, false_and, and_false, b_2 hc, b_3 hc, b_9 hc, b_12 hc, b_26 hc, b_40 hc, b_46 hc, b_47 hc, b_60 hc, b_62 hc, b_63 hc, b_76 hc, b_77 hc, b_90 hc, b_91 hc, b_104 hc, b_107 hc, b_114 hc, b_115 hc, b_122 hc, b_123 hc, b_131 hc, b_2 hc, r_2_0 hc, r_2_1 hc, r_2_2 hc, r_2_3 hc, r_2_4 hc, r_2_5 hc, x_61 hc, n_61 hc, r_2_6 hc, r_2_7 hc, r_2_8 hc, r_2_9 hc, b_46 hc, r_46_0 hc, r_46_1 hc, x_54 hc, r_46_2 hc, x_55 hc, r_46_3 hc, x_56 hc, r_46_4 hc, x_57 hc, r_46_5 hc, x_58 hc, r_46_6 hc, x_59 hc, b_40 hc, r_40_0 hc, x_41 hc, r_40_1 hc, x_42 hc, r_40_2 hc, x_43 hc, r_40_9 hc, r_40_10 hc, x_44 hc, r_40_11 hc, x_45 hc, b_9 hc, r_9_0 hc, x_10 hc, r_9_1 hc, x_11 hc, b_104 hc, r_104_0 hc, x_105 hc, r_104_1 hc, x_106 hc, r_104_6 hc, r_104_7 hc, r_104_8 hc, b_114 hc, r_114_0 hc, r_114_1 hc, r_114_2 hc, b_131 hc, r_131_7 hc, x_132 hc, r_131_8 hc, x_133 hc, r_131_9 hc, x_134 hc, r_131_10 hc, x_135 hc, r_131_11 hc, x_136 hc, r_131_12 hc, x_137 hc, hd0, hd1, q0, q1]
      obtain ⟨N, rfl⟩ : ∃ N : Nat, n = (N : Int) := ⟨n.toNat, by omega⟩
      have hy := fun {μ'} => hyes (by omega) (μ' := μ')
      rw [Int.toNat_natCast] at hy
      refine cChoose (d := d - 1) (n := N) h.1 h.2.2.1.1 h.2.1.2.1.2.2.2 h.2.2.1.2.2.2.2 (by omega) rfl (by omega) (fun e => h.2.2.2.1.1 N (by omega) e) ?_
      intro μ1 hf hj h9 hP
      have hcl := CL_fr hf kn_b
      have hcs := CS_frK h hf kn_ok (CK_nl h.2.2.2.1 hf hj h9 hP)
      have e := hP.2.1
      have hq := hy hcl hcs
      by_cases q2 : i < 0
      · rw [atO_no (by omega)] at hq
        simp (disch := omega) only [x133_0, x133_1, x133_4, x133_5, x133_6, x133_9, x133_10, x133_11, x133_12, x133_15, x133_16, x133_19, x133_20, x133_23, x133_24, x133_25, x133_28, x133_31, x133_34, x133_35, x133_38, x133_39, x133_42, x133_45, x133_46, x133_47, ↓reduceIte, Bool.false_eq_true, Nat.reduceAdd, Nat.reduceLT, Nat.reduceLeDiff, Nat.reduceSub, Nat.reduceEqDiff, Int.reduceToNat, Int.reduceEq, Int.reduceLT, Int.reduceLE, Int.reduceAdd, Int.reduceSub, zg, zI, zJ, zR, zst, zkl, zn, zcat, zok, zraw, List.length_cons, List.length_nil, Option.toList, List.nil_append, List.cons_append, true_and, and_true, if_true, if_false, ne_eq, not_true, not_false_eq_true, and_self, true_or, or_true, false_or, or_false, false_and, and_false, b_2 hc, b_3 hc, b_9 hc, b_12 hc, b_26 hc, b_40 hc, b_46 hc, b_47 hc, b_60 hc, b_62 hc, b_63 hc, b_76 hc, b_77 hc, b_90 hc, b_91 hc, b_104 hc, b_107 hc, b_114 hc, b_115 hc, b_122 hc, b_123 hc, b_131 hc, b_2 hc, r_2_0 hc, r_2_1 hc, r_2_2 hc, r_2_3 hc, r_2_4 hc, r_2_5 hc, x_61 hc, n_61 hc, r_2_6 hc, r_2_7 hc, r_2_8 hc, r_2_9 hc, b_104 hc, r_104_0 hc, x_105 hc, r_104_1 hc, x_106 hc, r_104_6 hc, r_104_7 hc, r_104_8 hc, q2]
        exact hq
      · obtain ⟨I, rfl⟩ : ∃ I : Nat, i = (I : Int) := ⟨i.toNat, by omega⟩
        by_cases q3 : I < (nlO (sT σ) (gR (sG σ)) (gU (sG σ)) N).2.length
        · rw [atO_in q3] at hq
          have q4 : (I : Int) < ((nlO (sT σ) (gR (sG σ)) (gU (sG σ)) N).2.length : Int) := by omega
          have e2 := hP.2.2.2 I q3
          have e5 := hP.2.2.1
          simp (disch := omega) only [x133_0, x133_1, x133_4, x133_5, x133_6, x133_9, x133_10, x133_11, x133_12, x133_15, x133_16, x133_19, x133_20, x133_23, x133_24, x133_25, x133_28, x133_31, x133_34, x133_35, x133_38, x133_39, x133_42, x133_45, x133_46, x133_47, ↓reduceIte, Bool.false_eq_true, Nat.reduceAdd, Nat.reduceLT, Nat.reduceLeDiff, Nat.reduceSub, Nat.reduceEqDiff, Int.reduceToNat, Int.reduceEq, Int.reduceLT, Int.reduceLE, Int.reduceAdd, Int.reduceSub, zg, zI, zJ, zR, zst, zkl, zn, zcat, zok, zraw, List.length_cons, List.length_nil, Option.toList, List.nil_append, List.cons_append, true_and, and_true, if_true, if_false, ne_eq, not_true, not_false_eq_true, and_self, true_or, or_true, false_or, or_false, false_and, and_false, b_2 hc, b_3 hc, b_9 hc, b_12 hc, b_26 hc, b_40 hc, b_46 hc, b_47 hc, b_60 hc, b_62 hc, b_63 hc, b_76 hc, b_77 hc, b_90 hc, b_91 hc, b_104 hc, b_107 hc, b_114 hc, b_115 hc, b_122 hc, b_123 hc, b_131 hc, b_2 hc, r_2_0 hc, r_2_1 hc, r_2_2 hc, r_2_3 hc, r_2_4 hc, r_2_5 hc, x_61 hc, n_61 hc, r_2_6 hc, r_2_7 hc, r_2_8 hc, r_2_9 hc, b_104 hc, r_104_0 hc, x_105 hc, r_104_1 hc, x_106 hc, r_104_6 hc, r_104_7 hc, r_104_8 hc, q2, q4, e, e2, Int.toNat_natCast]
          exact hq
        · rw [atO_no (by omega)] at hq
          have q4 : ¬ (I : Int) < ((nlO (sT σ) (gR (sG σ)) (gU (sG σ)) N).2.length : Int) := by omega
          simp (disch := omega) only [x133_0, x133_1, x133_4, x133_5, x133_6, x133_9, x133_10, x133_11, x133_12, x133_15, x133_16, x133_19, x133_20, x133_23, x133_24, x133_25, x133_28, x133_31, x133_34, x133_35, x133_38, x133_39, x133_42, x133_45, x133_46, x133_47, ↓reduceIte, Bool.false_eq_true, Nat.reduceAdd, Nat.reduceLT, Nat.reduceLeDiff, Nat.reduceSub, Nat.reduceEqDiff, Int.reduceToNat, Int.reduceEq, Int.reduceLT, Int.reduceLE, Int.reduceAdd, Int.reduceSub, zg, zI, zJ, zR, zst, zkl, zn, zcat, zok, zraw, List.length_cons, List.length_nil, Option.toList, List.nil_append, List.cons_append, true_and, and_true, if_true, if_false, ne_eq, not_true, not_false_eq_true, and_self, true_or, or_true, false_or, or_false, false_and, and_false, b_2 hc, b_3 hc, b_9 hc, b_12 hc, b_26 hc, b_40 hc, b_46 hc, b_47 hc, b_60 hc, b_62 hc, b_63 hc, b_76 hc, b_77 hc, b_90 hc, b_91 hc, b_104 hc, b_107 hc, b_114 hc, b_115 hc, b_122 hc, b_123 hc, b_131 hc, b_2 hc, r_2_0 hc, r_2_1 hc, r_2_2 hc, r_2_3 hc, r_2_4 hc, r_2_5 hc, x_61 hc, n_61 hc, r_2_6 hc, r_2_7 hc, r_2_8 hc, r_2_9 hc, b_104 hc, r_104_0 hc, x_105 hc, r_104_1 hc, x_106 hc, r_104_6 hc, r_104_7 hc, r_104_8 hc, q2, q4, e]
          exact hq
    · simp (disch := omega) only [x133_0, x133_1, x133_4, x133_5, x133_6, x133_9, x133_10, x133_11, x133_12, x133_15, x133_16, x133_19, x133_20, x133_23, x133_24, x133_25, x133_28, x133_31, x133_34, x133_35, x133_38, x133_39, x133_42, x133_45, x133_46, x133_47, ↓reduceIte, Bool.false_eq_true, Nat.reduceAdd, Nat.reduceLT, Nat.reduceLeDiff, Nat.reduceSub, Nat.reduceEqDiff, Int.reduceToNat, Int.reduceEq, Int.reduceLT, Int.reduceLE, Int.reduceAdd, Int.reduceSub, zg, zI, zJ, zR, zst, zkl, zn, zcat, zok, zraw, List.length_cons, List.length_nil, Option.toList, List.nil_append, List.cons_append, true_and, and_true, if_true, if_false, ne_eq, not_true, not_false_eq_true, and_self, true_or, or_true, false_or, or_false, false_and, and_false, b_2 hc, b_3 hc, b_9 hc, b_12 hc, b_26 hc, b_40 hc, b_46 hc, b_47 hc, b_60 hc, b_62 hc, b_63 hc, b_76 hc, b_77 hc, b_90 hc, b_91 hc, b_104 hc, b_107 hc, b_114 hc, b_115 hc, b_122 hc, b_123 hc, b_131 hc, b_2 hc, r_2_0 hc, r_2_1 hc, r_2_2 hc, r_2_3 hc, r_2_4 hc, r_2_5 hc, x_61 hc, n_61 hc, r_2_6 hc, r_2_7 hc, r_2_8 hc, r_2_9 hc, b_46 hc, r_46_0 hc, r_46_1 hc, x_54 hc, r_46_2 hc, x_55 hc, r_46_3 hc, x_56 hc, r_46_4 hc, x_57 hc, r_46_5 hc, x_58 hc, r_46_6 hc, x_59 hc, b_40 hc, r_40_0 hc, x_41 hc, r_40_1 hc, x_42 hc, r_40_2 hc, x_43 hc, r_40_9 hc, r_40_10 hc, x_44 hc, r_40_11 hc, x_45 hc, b_9 hc, r_9_0 hc, x_10 hc, r_9_1 hc, x_11 hc, b_104 hc, r_104_0 hc, x_105 hc, r_104_1 hc, x_106 hc, r_104_6 hc, r_104_7 hc, r_104_8 hc, b_114 hc, r_114_0 hc, r_114_1 hc, r_114_2 hc, b_131 hc, r_131_7 hc, x_132 hc, r_131_8 hc, x_133 hc, r_131_9 hc, x_134 hc, r_131_10 hc, x_135 hc, r_131_11 hc, x_136 hc, r_131_12 hc, x_137 hc, hd0, hd1, q0, q1]
      exact hno (by omega)
theorem rNailingAt {d : Nat} {n i : Int} {x90 : zV} (h : MS θ σ s μ) (hd : 11 ≤ d) (hQ : ∀ μ', ML2 μ μ' → MS θ σ s μ' → Q (some (vi (vNailingAt σ n i))) θ μ') : Ex d 261 0 [vr 138, vi n, vi i, x90] [] θ μ Q := by
  have hm := h.1.1
  have hd0 : 0 < d := by omega
  have hd1 : 0 < d - 1 := by omega
  have hn := tn_b h.1.2.1
  have hno : ¬ (0 ≤ n ∧ n ≤ 2) → Q (some (vi (-1))) θ μ := fun hn => by
    have := hQ μ (fun _ _ => rfl) h
    unfold vNailingAt at this
    rwa [if_neg hn] at this
  have hyes : (0 ≤ n ∧ n ≤ 2) → ∀ {μ'}, ML2 μ μ' → MS θ σ s μ' → Q (some (vi (atO (nlO (sT σ) (gR (sG σ)) (gU (sG σ)) n.toNat).2 i))) θ μ' := fun hp μ' a b => by
    have := hQ μ' a b
    unfold vNailingAt at this
    rwa [if_pos hp] at this
  by_cases q0 : 0 ≤ n ∧ n ≤ 2
  · simp (disch := omega) only [x261_0, x261_1, x261_2, x261_3, x261_6, x261_9, x261_10, x261_11, x261_12, x261_13, x261_16, x261_17, x261_18, x261_21, x261_22, x261_23, x261_24, x261_27, x261_28, x261_29, x261_32, x261_35, x261_36, x261_39, x261_40, x261_41, x261_44, x261_45, ↓reduceIte, Bool.false_eq_true, Nat.reduceAdd, Nat.reduceLT, Nat.reduceLeDiff, Nat.reduceSub, Nat.reduceEqDiff, Int.reduceToNat, Int.reduceEq, Int.reduceLT, Int.reduceLE, Int.reduceAdd, Int.reduceSub, zg, zI, zJ, zR, zst, zkl, zn, zcat, zok, zraw, List.length_cons, List.length_nil, Option.toList, List.nil_append, List.cons_append, true_and, and_true, if_true, if_false, ne_eq, not_true, not_false_eq_true, and_self, true_or, or_true, false_or, or_false, false_and, and_false, b_138 hm, hd0, hd1, mIn, q0]
    obtain ⟨N, rfl⟩ : ∃ N : Nat, n = (N : Int) := ⟨n.toNat, by omega⟩
    have hy := fun {μ'} => hyes (by omega) (μ' := μ')
    rw [Int.toNat_natCast] at hy
    refine mNailing (d := d - 1) (n := N) (by omega) h.1 h.2.2.1.1 h.2.1.2.1.2.2.2 h.2.2.1.2.2.2 rfl (by omega) ?_
    intro μ1 hf hj hR hC
    have hq := hy (MLe_fr hf (by decide)) (MS_fr2 h hf (by decide) hj.nine hR)
    have h0 := nl_nn h.1.2.1 h.2.1.2.1.2.2.2 (ρ := gR (sG σ)) N
    have h0' : ¬ (nlO (sT σ) (gR (sG σ)) (gU (sG σ)) N).1 < 0 := by omega
    have e := hC.1
    have hlen : (nlO (sT σ) (gR (sG σ)) (gU (sG σ)) N).2.length ≤ 12 := by have := nl_len (τ := sT σ) (ρ := gR (sG σ)) (Gs := gU (sG σ)) N; omega
    have a1 : w32 (((nlO (sT σ) (gR (sG σ)) (gU (sG σ)) N).2.length : Int) - 1) = ((nlO (sT σ) (gR (sG σ)) (gU (sG σ)) N).2.length : Int) - 1 := w32_i (by omega) (by omega)
    by_cases q2 : 0 ≤ i ∧ i ≤ ((nlO (sT σ) (gR (sG σ)) (gU (sG σ)) N).2.length : Int) - 1
    · obtain ⟨I, rfl⟩ : ∃ I : Nat, i = (I : Int) := ⟨i.toNat, by omega⟩
      have q3 : I < (nlO (sT σ) (gR (sG σ)) (gU (sG σ)) N).2.length := by omega
      rw [atO_in q3] at hq
      have e2 := hC.2 I q3
      simp (disch := omega) only [x261_0, x261_1, x261_2, x261_3, x261_6, x261_9, x261_10, x261_11, x261_12, x261_13, x261_16, x261_17, x261_18, x261_21, x261_22, x261_23, x261_24, x261_27, x261_28, x261_29, x261_32, x261_35, x261_36, x261_39, x261_40, x261_41, x261_44, x261_45, ↓reduceIte, Bool.false_eq_true, Nat.reduceAdd, Nat.reduceLT, Nat.reduceLeDiff, Nat.reduceSub, Nat.reduceEqDiff, Int.reduceToNat, Int.reduceEq, Int.reduceLT, Int.reduceLE, Int.reduceAdd, Int.reduceSub, zg, zI, zJ, zR, zst, zkl, zn, zcat, zok, zraw, List.length_cons, List.length_nil, Option.toList, List.nil_append, List.cons_append, true_and, and_true, if_true, if_false, ne_eq, not_true, not_false_eq_true, and_self, true_or, or_true, false_or, or_false, false_and, and_false, b_138 hm, r_138_73 hm, x_189 hm, hd0, h0', e, a1, mIn, q2, e2, Int.toNat_natCast]
      exact hq
    · rw [atO_no (by omega)] at hq
      simp (disch := omega) only [x261_0, x261_1, x261_2, x261_3, x261_6, x261_9, x261_10, x261_11, x261_12, x261_13, x261_16, x261_17, x261_18, x261_21, x261_22, x261_23, x261_24, x261_27, x261_28, x261_29, x261_32, x261_35, x261_36, x261_39, x261_40, x261_41, x261_44, x261_45, ↓reduceIte, Bool.false_eq_true, Nat.reduceAdd, Nat.reduceLT, Nat.reduceLeDiff, Nat.reduceSub, Nat.reduceEqDiff, Int.reduceToNat, Int.reduceEq, Int.reduceLT, Int.reduceLE, Int.reduceAdd, Int.reduceSub, zg, zI, zJ, zR, zst, zkl, zn, zcat, zok, zraw, List.length_cons, List.length_nil, Option.toList, List.nil_append, List.cons_append, true_and, and_true, if_true, if_false, ne_eq, not_true, not_false_eq_true, and_self, true_or, or_true, false_or, or_false, false_and, and_false, b_138 hm, r_138_73 hm, x_189 hm, hd0, h0', e, a1, mIn, q2]
      exact hq
  · simp (disch := omega) only [x261_0, x261_1, x261_2, x261_3, x261_6, x261_9, x261_10, x261_11, x261_12, x261_13, x261_16, x261_17, x261_18, x261_21, x261_22, x261_23, x261_24, x261_27, x261_28, x261_29, x261_32, x261_35, x261_36, x261_39, x261_40, x261_41, x261_44, x261_45, ↓reduceIte, Bool.false_eq_true, Nat.reduceAdd, Nat.reduceLT, Nat.reduceLeDiff, Nat.reduceSub, Nat.reduceEqDiff, Int.reduceToNat, Int.reduceEq, Int.reduceLT, Int.reduceLE, Int.reduceAdd, Int.reduceSub, zg, zI, zJ, zR, zst, zkl, zn, zcat, zok, zraw, List.length_cons, List.length_nil, Option.toList, List.nil_append, List.cons_append, true_and, and_true, if_true, if_false, ne_eq, not_true, not_false_eq_true, and_self, true_or, or_true, false_or, or_false, false_and, and_false, b_138 hm, hd0, hd1, mIn, q0]
    exact hno (by omega)
def vOneByOne (σ : zSt) (n : Int) : Int := if 0 ≤ n ∧ n ≤ 12 then ((stO (sT σ) (gR (sG σ)) (gU (sG σ)) n.toNat).1.1) else -1
theorem kOneByOne {d : Nat} {n : Int} (h : CS θ T U σ μ) (hd : 7 ≤ d) (hQ : ∀ μ', CL μ μ' → CS θ T U σ μ' → Q (some (vi (vOneByOne σ n))) θ μ') : Ex d 134 0 [vr 2, vi n] [] θ μ Q := by
  have hc := h.1.1.1
  have hT := h.1.1.2.1
  have h2T := h.1.1.2.2.2.2.1
  have hd0 : 0 < d := by omega
  have hd1 : 0 < d - 1 := by omega
  have hn := tn_b h.1.2.1
  have hno : ¬ (0 ≤ n ∧ n ≤ 12) → Q (some (vi (-1))) θ μ := fun hn => by
    have := hQ μ (fun _ _ => rfl) h
    unfold vOneByOne at this
    rwa [if_neg hn] at this
  have hyes : (0 ≤ n ∧ n ≤ 12) → ∀ {μ'}, CL μ μ' → CS θ T U σ μ' → Q (some (vi ((stO (sT σ) (gR (sG σ)) (gU (sG σ)) n.toNat).1.1))) θ μ' := fun hp μ' a b => by
    have := hQ μ' a b
    unfold vOneByOne at this
    rwa [if_pos hp] at this
  by_cases q0 : n < 0
  · simp (disch := omega) only [x134_0, x134_1, x134_4, x134_5, x134_7, x134_10, x134_11, x134_12, x134_13, x134_16, x134_17, x134_20, x134_21, x134_24, x134_27, ↓reduceIte, Bool.false_eq_true, Nat.reduceAdd, Nat.reduceLT, Nat.reduceLeDiff, Nat.reduceSub, Nat.reduceEqDiff, Int.reduceToNat, Int.reduceEq, Int.reduceLT, Int.reduceLE, Int.reduceAdd, Int.reduceSub, zg, zI, zJ, zR, zst, zkl, zn, zcat, zok, zraw, List.length_cons, List.length_nil, Option.toList, List.nil_append, List.cons_append, true_and, and_true, if_true, if_false, ne_eq, not_true, not_false_eq_true, and_self, true_or, or_true, false_or, or_false, false_and, and_false, b_2 hc, b_3 hc, b_9 hc, b_12 hc, b_26 hc, b_40 hc, b_46 hc, b_47 hc, b_60 hc, b_62 hc, b_63 hc, b_76 hc, b_77 hc, b_90 hc, b_91 hc, b_104 hc, b_107 hc, b_114 hc, b_115 hc, b_122 hc, b_123 hc, b_131 hc, b_2 hc, r_2_0 hc, r_2_1 hc, r_2_2 hc, r_2_3 hc, r_2_4 hc, r_2_5 hc, x_61 hc, n_61 hc, r_2_6 hc, r_2_7 hc, r_2_8 hc, r_2_9 hc, b_46 hc, r_46_0 hc, r_46_1 hc, x_54 hc, r_46_2 hc, x_55 hc, r_46_3 hc, x_56 hc, r_46_4 hc, x_57 hc, r_46_5 hc, x_58 hc, r_46_6 hc, x_59 hc, b_40 hc, r_40_0 hc, x_41 hc, r_40_1 hc, x_42 hc, r_40_2 hc, x_43 hc, r_40_9 hc, r_40_10 hc, x_44 hc, r_40_11 hc, x_45 hc, b_9 hc, r_9_0 hc, x_10 hc, r_9_1 hc, x_11 hc, b_104 hc, r_104_0 hc, x_105 hc, r_104_1 hc, x_106 hc, r_104_6 hc, r_104_7 hc, r_104_8 hc, b_114 hc, r_114_0 hc, r_114_1 hc, r_114_2 hc, b_131 hc, r_131_7 hc, x_132 hc, r_131_8 hc, x_133 hc, r_131_9 hc, x_134 hc, r_131_10 hc, x_135 hc, r_131_11 hc, x_136 hc, r_131_12 hc, x_137 hc, hd0, hd1, q0]
    exact hno (by omega)
  · by_cases q1 : n ≤ 12
    · simp (disch := omega) only [x134_0, x134_1, x134_4, x134_5, x134_7, x134_10, x134_11, x134_12, x134_13, x134_16, x134_17, x134_20, x134_21, x134_24, x134_27, ↓reduceIte, Bool.false_eq_true, Nat.reduceAdd, Nat.reduceLT, Nat.reduceLeDiff, Nat.reduceSub, Nat.reduceEqDiff, Int.reduceToNat, Int.reduceEq, Int.reduceLT, Int.reduceLE, Int.reduceAdd, Int.reduceSub, zg, zI, zJ, zR, zst, zkl, zn, zcat, zok, zraw, List.length_cons, List.length_nil, Option.toList, List.nil_append, List.cons_append, true_and, and_true, if_true, if_false, ne_eq, not_true, not_false_eq_true, and_self, true_or, or_true, false_or, or_false, false_and, and_false, b_2 hc, b_3 hc, b_9 hc, b_12 hc, b_26 hc, b_40 hc, b_46 hc, b_47 hc, b_60 hc, b_62 hc, b_63 hc, b_76 hc, b_77 hc, b_90 hc, b_91 hc, b_104 hc, b_107 hc, b_114 hc, b_115 hc, b_122 hc, b_123 hc, b_131 hc, b_2 hc, r_2_0 hc, r_2_1 hc, r_2_2 hc, r_2_3 hc, r_2_4 hc, r_2_5 hc, x_61 hc, n_61 hc, r_2_6 hc, r_2_7 hc, r_2_8 hc, r_2_9 hc, b_46 hc, r_46_0 hc, r_46_1 hc, x_54 hc, r_46_2 hc, x_55 hc, r_46_3 hc, x_56 hc, r_46_4 hc, x_57 hc, r_46_5 hc, x_58 hc, r_46_6 hc, x_59 hc, b_40 hc, r_40_0 hc, x_41 hc, r_40_1 hc, x_42 hc, r_40_2 hc, x_43 hc, r_40_9 hc, r_40_10 hc, x_44 hc, r_40_11 hc, x_45 hc, b_9 hc, r_9_0 hc, x_10 hc, r_9_1 hc, x_11 hc, b_104 hc, r_104_0 hc, x_105 hc, r_104_1 hc, x_106 hc, r_104_6 hc, r_104_7 hc, r_104_8 hc, b_114 hc, r_114_0 hc, r_114_1 hc, r_114_2 hc, b_131 hc, r_131_7 hc, x_132 hc, r_131_8 hc, x_133 hc, r_131_9 hc, x_134 hc, r_131_10 hc, x_135 hc, r_131_11 hc, x_136 hc, r_131_12 hc, x_137 hc, hd0, hd1, q0, q1]
      obtain ⟨N, rfl⟩ : ∃ N : Nat, n = (N : Int) := ⟨n.toNat, by omega⟩
      have hy := fun {μ'} => hyes (by omega) (μ' := μ')
      rw [Int.toNat_natCast] at hy
      refine cSteps (d := d - 1) (n := N) h.1 h.2.2.1.1 h.2.1.2.1.2.2.2 h.2.2.1.2.2.2.2 (by omega) rfl (by omega) (fun e => h.2.2.2.1.2 N (by omega) e) ?_
      intro μ1 hf hj h9 hP
      have hcl := CL_fr hf ks_b
      have hcs := CS_frK h hf ks_ok (CK_st h.2.2.2.1 hf hj h9 hP)
      have e := hP.1
      simp (disch := omega) only [x134_0, x134_1, x134_4, x134_5, x134_7, x134_10, x134_11, x134_12, x134_13, x134_16, x134_17, x134_20, x134_21, x134_24, x134_27, ↓reduceIte, Bool.false_eq_true, Nat.reduceAdd, Nat.reduceLT, Nat.reduceLeDiff, Nat.reduceSub, Nat.reduceEqDiff, Int.reduceToNat, Int.reduceEq, Int.reduceLT, Int.reduceLE, Int.reduceAdd, Int.reduceSub, zg, zI, zJ, zR, zst, zkl, zn, zcat, zok, zraw, List.length_cons, List.length_nil, Option.toList, List.nil_append, List.cons_append, true_and, and_true, if_true, if_false, ne_eq, not_true, not_false_eq_true, and_self, true_or, or_true, false_or, or_false, false_and, and_false, b_2 hc, b_3 hc, b_9 hc, b_12 hc, b_26 hc, b_40 hc, b_46 hc, b_47 hc, b_60 hc, b_62 hc, b_63 hc, b_76 hc, b_77 hc, b_90 hc, b_91 hc, b_104 hc, b_107 hc, b_114 hc, b_115 hc, b_122 hc, b_123 hc, b_131 hc, b_2 hc, r_2_0 hc, r_2_1 hc, r_2_2 hc, r_2_3 hc, r_2_4 hc, r_2_5 hc, x_61 hc, n_61 hc, r_2_6 hc, r_2_7 hc, r_2_8 hc, r_2_9 hc, b_104 hc, r_104_0 hc, x_105 hc, r_104_1 hc, x_106 hc, r_104_6 hc, r_104_7 hc, r_104_8 hc, e]
      exact hy hcl hcs
    · simp (disch := omega) only [x134_0, x134_1, x134_4, x134_5, x134_7, x134_10, x134_11, x134_12, x134_13, x134_16, x134_17, x134_20, x134_21, x134_24, x134_27, ↓reduceIte, Bool.false_eq_true, Nat.reduceAdd, Nat.reduceLT, Nat.reduceLeDiff, Nat.reduceSub, Nat.reduceEqDiff, Int.reduceToNat, Int.reduceEq, Int.reduceLT, Int.reduceLE, Int.reduceAdd, Int.reduceSub, zg, zI, zJ, zR, zst, zkl, zn, zcat, zok, zraw, List.length_cons, List.length_nil, Option.toList, List.nil_append, List.cons_append, true_and, and_true, if_true, if_false, ne_eq, not_true, not_false_eq_true, and_self, true_or, or_true, false_or, or_false, false_and, and_false, b_2 hc, b_3 hc, b_9 hc, b_12 hc, b_26 hc, b_40 hc, b_46 hc, b_47 hc, b_60 hc, b_62 hc, b_63 hc, b_76 hc, b_77 hc, b_90 hc, b_91 hc, b_104 hc, b_107 hc, b_114 hc, b_115 hc, b_122 hc, b_123 hc, b_131 hc, b_2 hc, r_2_0 hc, r_2_1 hc, r_2_2 hc, r_2_3 hc, r_2_4 hc, r_2_5 hc, x_61 hc, n_61 hc, r_2_6 hc, r_2_7 hc, r_2_8 hc, r_2_9 hc, b_46 hc, r_46_0 hc, r_46_1 hc, x_54 hc, r_46_2 hc, x_55 hc, r_46_3 hc, x_56 hc, r_46_4 hc, x_57 hc, r_46_5 hc, x_58 hc, r_46_6 hc, x_59 hc, b_40 hc, r_40_0 hc, x_41 hc, r_40_1 hc, x_42 hc, r_40_2 hc, x_43 hc, r_40_9 hc, r_40_10 hc, x_44 hc, r_40_11 hc, x_45 hc, b_9 hc, r_9_0 hc, x_10 hc, r_9_1 hc, x_11 hc, b_104 hc, r_104_0 hc, x_105 hc, r_104_1 hc, x_106 hc, r_104_6 hc, r_104_7 hc, r_104_8 hc, b_114 hc, r_114_0 hc, r_114_1 hc, r_114_2 hc, b_131 hc, r_131_7 hc, x_132 hc, r_131_8 hc, x_133 hc, r_131_9 hc, x_134 hc, r_131_10 hc, x_135 hc, r_131_11 hc, x_136 hc, r_131_12 hc, x_137 hc, hd0, hd1, q0, q1]
      exact hno (by omega)
theorem rOneByOne {d : Nat} {n : Int} (h : MS θ σ s μ) (hd : 11 ≤ d) (hQ : ∀ μ', ML2 μ μ' → MS θ σ s μ' → Q (some (vi (vOneByOne σ n))) θ μ') : Ex d 263 0 [vr 138, vi n] [] θ μ Q := by
  have hm := h.1.1
  have hd0 : 0 < d := by omega
  have hd1 : 0 < d - 1 := by omega
  have hn := tn_b h.1.2.1
  have hno : ¬ (0 ≤ n ∧ n ≤ 12) → Q (some (vi (-1))) θ μ := fun hn => by
    have := hQ μ (fun _ _ => rfl) h
    unfold vOneByOne at this
    rwa [if_neg hn] at this
  have hyes : (0 ≤ n ∧ n ≤ 12) → ∀ {μ'}, ML2 μ μ' → MS θ σ s μ' → Q (some (vi ((stO (sT σ) (gR (sG σ)) (gU (sG σ)) n.toNat).1.1))) θ μ' := fun hp μ' a b => by
    have := hQ μ' a b
    unfold vOneByOne at this
    rwa [if_pos hp] at this
  by_cases q0 : 0 ≤ n ∧ n ≤ 12
  · simp (disch := omega) only [x263_0, x263_1, x263_2, x263_4, x263_7, x263_10, x263_11, x263_12, x263_15, x263_18, x263_19, ↓reduceIte, Bool.false_eq_true, Nat.reduceAdd, Nat.reduceLT, Nat.reduceLeDiff, Nat.reduceSub, Nat.reduceEqDiff, Int.reduceToNat, Int.reduceEq, Int.reduceLT, Int.reduceLE, Int.reduceAdd, Int.reduceSub, zg, zI, zJ, zR, zst, zkl, zn, zcat, zok, zraw, List.length_cons, List.length_nil, Option.toList, List.nil_append, List.cons_append, true_and, and_true, if_true, if_false, ne_eq, not_true, not_false_eq_true, and_self, true_or, or_true, false_or, or_false, false_and, and_false, b_138 hm, hd0, hd1, mIn, q0]
    obtain ⟨N, rfl⟩ : ∃ N : Nat, n = (N : Int) := ⟨n.toNat, by omega⟩
    have hy := fun {μ'} => hyes (by omega) (μ' := μ')
    rw [Int.toNat_natCast] at hy
    refine mOneByOne (d := d - 1) (n := N) (by omega) h.1 h.2.2.1.1 h.2.1.2.1.2.2.2 h.2.2.1.2.2.2 rfl (by omega) ?_
    intro μ1 hf hj hR hC
    simp (disch := omega) only [x263_0, x263_1, x263_2, x263_4, x263_7, x263_10, x263_11, x263_12, x263_15, x263_18, x263_19, ↓reduceIte, Bool.false_eq_true, Nat.reduceAdd, Nat.reduceLT, Nat.reduceLeDiff, Nat.reduceSub, Nat.reduceEqDiff, Int.reduceToNat, Int.reduceEq, Int.reduceLT, Int.reduceLE, Int.reduceAdd, Int.reduceSub, zg, zI, zJ, zR, zst, zkl, zn, zcat, zok, zraw, List.length_cons, List.length_nil, Option.toList, List.nil_append, List.cons_append, true_and, and_true, if_true, if_false, ne_eq, not_true, not_false_eq_true, and_self, true_or, or_true, false_or, or_false, false_and, and_false]
    exact hy (MLe_fr hf (by decide)) (MS_fr2 h hf (by decide) hj.nine hR)
  · simp (disch := omega) only [x263_0, x263_1, x263_2, x263_4, x263_7, x263_10, x263_11, x263_12, x263_15, x263_18, x263_19, ↓reduceIte, Bool.false_eq_true, Nat.reduceAdd, Nat.reduceLT, Nat.reduceLeDiff, Nat.reduceSub, Nat.reduceEqDiff, Int.reduceToNat, Int.reduceEq, Int.reduceLT, Int.reduceLE, Int.reduceAdd, Int.reduceSub, zg, zI, zJ, zR, zst, zkl, zn, zcat, zok, zraw, List.length_cons, List.length_nil, Option.toList, List.nil_append, List.cons_append, true_and, and_true, if_true, if_false, ne_eq, not_true, not_false_eq_true, and_self, true_or, or_true, false_or, or_false, false_and, and_false, b_138 hm, hd0, hd1, mIn, q0]
    exact hno (by omega)
def vOneByOneAt (σ : zSt) (n i : Int) : Int := if 0 ≤ n ∧ n ≤ 12 then (atO (stO (sT σ) (gR (sG σ)) (gU (sG σ)) n.toNat).1.2 i) else -1
theorem kOneByOneAt {d : Nat} {n i : Int} (h : CS θ T U σ μ) (hd : 7 ≤ d) (hQ : ∀ μ', CL μ μ' → CS θ T U σ μ' → Q (some (vi (vOneByOneAt σ n i))) θ μ') : Ex d 135 0 [vr 2, vi n, vi i] [] θ μ Q := by
  have hc := h.1.1.1
  have hT := h.1.1.2.1
  have h2T := h.1.1.2.2.2.2.1
  have hd0 : 0 < d := by omega
  have hd1 : 0 < d - 1 := by omega
  have hn := tn_b h.1.2.1
  have hno : ¬ (0 ≤ n ∧ n ≤ 12) → Q (some (vi (-1))) θ μ := fun hn => by
    have := hQ μ (fun _ _ => rfl) h
    unfold vOneByOneAt at this
    rwa [if_neg hn] at this
  have hyes : (0 ≤ n ∧ n ≤ 12) → ∀ {μ'}, CL μ μ' → CS θ T U σ μ' → Q (some (vi (atO (stO (sT σ) (gR (sG σ)) (gU (sG σ)) n.toNat).1.2 i))) θ μ' := fun hp μ' a b => by
    have := hQ μ' a b
    unfold vOneByOneAt at this
    rwa [if_pos hp] at this
  by_cases q0 : n < 0
  · simp (disch := omega) only [x135_0, x135_1, x135_4, x135_5, x135_7, x135_10, x135_11, x135_12, x135_13, x135_16, x135_17, x135_20, x135_21, x135_24, x135_25, x135_26, x135_29, x135_32, x135_35, x135_36, x135_39, x135_40, x135_43, x135_46, x135_47, x135_48, ↓reduceIte, Bool.false_eq_true, Nat.reduceAdd, Nat.reduceLT, Nat.reduceLeDiff, Nat.reduceSub, Nat.reduceEqDiff, Int.reduceToNat, Int.reduceEq, Int.reduceLT, Int.reduceLE, Int.reduceAdd, Int.reduceSub, zg, zI, zJ, zR, zst, zkl, zn, zcat, zok, zraw, List.length_cons, List.length_nil, Option.toList, List.nil_append, List.cons_append, true_and, and_true, if_true, if_false, ne_eq, not_true, not_false_eq_true, and_self, true_or, or_true, false_or, or_false, false_and, and_false, b_2 hc, b_3 hc, b_9 hc, b_12 hc, b_26 hc, b_40 hc, b_46 hc, b_47 hc, b_60 hc, b_62 hc, b_63 hc, b_76 hc, b_77 hc, b_90 hc, b_91 hc, b_104 hc, b_107 hc, b_114 hc, b_115 hc, b_122 hc, b_123 hc, b_131 hc, b_2 hc, r_2_0 hc, r_2_1 hc, r_2_2 hc, r_2_3 hc, r_2_4 hc, r_2_5 hc, x_61 hc, n_61 hc, r_2_6 hc, r_2_7 hc, r_2_8 hc, r_2_9 hc, b_46 hc, r_46_0 hc, r_46_1 hc, x_54 hc, r_46_2 hc, x_55 hc, r_46_3 hc, x_56 hc, r_46_4 hc, x_57 hc, r_46_5 hc, x_58 hc, r_46_6 hc, x_59 hc, b_40 hc, r_40_0 hc, x_41 hc, r_40_1 hc, x_42 hc, r_40_2 hc, x_43 hc, r_40_9 hc, r_40_10 hc, x_44 hc, r_40_11 hc, x_45 hc, b_9 hc, r_9_0 hc, x_10 hc, r_9_1 hc, x_11 hc, b_104 hc, r_104_0 hc, x_105 hc, r_104_1 hc, x_106 hc, r_104_6 hc, r_104_7 hc, r_104_8 hc, b_114 hc, r_114_0 hc, r_114_1 hc, r_114_2 hc, b_131 hc, r_131_7 hc, x_132 hc, r_131_8 hc, x_133 hc, r_131_9 hc, x_134 hc, r_131_10 hc, x_135 hc, r_131_11 hc, x_136 hc, r_131_12 hc, x_137 hc, hd0, hd1, q0]
    exact hno (by omega)
  · by_cases q1 : n ≤ 12
    · simp (disch := omega) only [x135_0, x135_1, x135_4, x135_5, x135_7, x135_10, x135_11, x135_12, x135_13, x135_16, x135_17, x135_20, x135_21, x135_24, x135_25, x135_26, x135_29, x135_32, x135_35, x135_36, x135_39, x135_40, x135_43, x135_46, x135_47, x135_48, ↓reduceIte, Bool.false_eq_true, Nat.reduceAdd, Nat.reduceLT, Nat.reduceLeDiff, Nat.reduceSub, Nat.reduceEqDiff, Int.reduceToNat, Int.reduceEq, Int.reduceLT, Int.reduceLE, Int.reduceAdd, Int.reduceSub, zg, zI, zJ, zR, zst, zkl, zn, zcat, zok, zraw, List.length_cons, List.length_nil, Option.toList, List.nil_append, List.cons_append, true_and, and_true, if_true, if_false, ne_eq, not_true, not_false_eq_true, and_self, true_or, or_true, false_or, or_false, false_and, and_false, b_2 hc, b_3 hc, b_9 hc, b_12 hc, b_26 hc, b_40 hc, b_46 hc, b_47 hc, b_60 hc, b_62 hc, b_63 hc, b_76 hc, b_77 hc, b_90 hc, b_91 hc, b_104 hc, b_107 hc, b_114 hc, b_115 hc, b_122 hc, b_123 hc, b_131 hc, b_2 hc, r_2_0 hc, r_2_1 hc, r_2_2 hc, r_2_3 hc, r_2_4 hc, r_2_5 hc, x_61 hc, n_61 hc, r_2_6 hc, r_2_7 hc, r_2_8 hc, r_2_9 hc, b_46 hc, r_46_0 hc, r_46_1 hc, x_54 hc, r_46_2 hc, x_55 hc, r_46_3 hc, x_56 hc, r_46_4 hc, x_57 hc, r_46_5 hc, x_58 hc, r_46_6 hc, x_59 hc, b_40 hc, r_40_0 hc, x_41 hc, r_40_1 hc, x_42 hc, r_40_2 hc, x_43 hc, r_40_9 hc, r_40_10 hc, x_44 hc, r_40_11 hc, x_45 hc, b_9 hc, r_9_0 hc, x_10 hc, r_9_1 hc, x_11 hc, b_104 hc, r_104_0 hc, x_105 hc, r_104_1 hc, x_106 hc, r_104_6 hc, r_104_7 hc, r_104_8 hc, b_114 hc, r_114_0 hc, r_114_1 hc, r_114_2 hc, b_131 hc, r_131_7 hc, x_132 hc, r_131_8 hc, x_133 hc, r_131_9 hc, x_134 hc, r_131_10 hc, x_135 hc, r_131_11 hc, x_136 hc, r_131_12 hc, x_137 hc, hd0, hd1, q0, q1]
      obtain ⟨N, rfl⟩ : ∃ N : Nat, n = (N : Int) := ⟨n.toNat, by omega⟩
      have hy := fun {μ'} => hyes (by omega) (μ' := μ')
      rw [Int.toNat_natCast] at hy
      refine cSteps (d := d - 1) (n := N) h.1 h.2.2.1.1 h.2.1.2.1.2.2.2 h.2.2.1.2.2.2.2 (by omega) rfl (by omega) (fun e => h.2.2.2.1.2 N (by omega) e) ?_
      intro μ1 hf hj h9 hP
      have hcl := CL_fr hf ks_b
      have hcs := CS_frK h hf ks_ok (CK_st h.2.2.2.1 hf hj h9 hP)
      have e := hP.2.1
      have hq := hy hcl hcs
      by_cases q2 : i < 0
      · rw [atO_no (by omega)] at hq
        simp (disch := omega) only [x135_0, x135_1, x135_4, x135_5, x135_7, x135_10, x135_11, x135_12, x135_13, x135_16, x135_17, x135_20, x135_21, x135_24, x135_25, x135_26, x135_29, x135_32, x135_35, x135_36, x135_39, x135_40, x135_43, x135_46, x135_47, x135_48, ↓reduceIte, Bool.false_eq_true, Nat.reduceAdd, Nat.reduceLT, Nat.reduceLeDiff, Nat.reduceSub, Nat.reduceEqDiff, Int.reduceToNat, Int.reduceEq, Int.reduceLT, Int.reduceLE, Int.reduceAdd, Int.reduceSub, zg, zI, zJ, zR, zst, zkl, zn, zcat, zok, zraw, List.length_cons, List.length_nil, Option.toList, List.nil_append, List.cons_append, true_and, and_true, if_true, if_false, ne_eq, not_true, not_false_eq_true, and_self, true_or, or_true, false_or, or_false, false_and, and_false, b_2 hc, b_3 hc, b_9 hc, b_12 hc, b_26 hc, b_40 hc, b_46 hc, b_47 hc, b_60 hc, b_62 hc, b_63 hc, b_76 hc, b_77 hc, b_90 hc, b_91 hc, b_104 hc, b_107 hc, b_114 hc, b_115 hc, b_122 hc, b_123 hc, b_131 hc, b_2 hc, r_2_0 hc, r_2_1 hc, r_2_2 hc, r_2_3 hc, r_2_4 hc, r_2_5 hc, x_61 hc, n_61 hc, r_2_6 hc, r_2_7 hc, r_2_8 hc, r_2_9 hc, b_104 hc, r_104_0 hc, x_105 hc, r_104_1 hc, x_106 hc, r_104_6 hc, r_104_7 hc, r_104_8 hc, q2]
        exact hq
      · obtain ⟨I, rfl⟩ : ∃ I : Nat, i = (I : Int) := ⟨i.toNat, by omega⟩
        by_cases q3 : I < (stO (sT σ) (gR (sG σ)) (gU (sG σ)) N).1.2.length
        · rw [atO_in q3] at hq
          have q4 : (I : Int) < ((stO (sT σ) (gR (sG σ)) (gU (sG σ)) N).1.2.length : Int) := by omega
          have e2 := hP.2.2.2 I q3
          have e5 := hP.2.2.1
          simp (disch := omega) only [x135_0, x135_1, x135_4, x135_5, x135_7, x135_10, x135_11, x135_12, x135_13, x135_16, x135_17, x135_20, x135_21, x135_24, x135_25, x135_26, x135_29, x135_32, x135_35, x135_36, x135_39, x135_40, x135_43, x135_46, x135_47, x135_48, ↓reduceIte, Bool.false_eq_true, Nat.reduceAdd, Nat.reduceLT, Nat.reduceLeDiff, Nat.reduceSub, Nat.reduceEqDiff, Int.reduceToNat, Int.reduceEq, Int.reduceLT, Int.reduceLE, Int.reduceAdd, Int.reduceSub, zg, zI, zJ, zR, zst, zkl, zn, zcat, zok, zraw, List.length_cons, List.length_nil, Option.toList, List.nil_append, List.cons_append, true_and, and_true, if_true, if_false, ne_eq, not_true, not_false_eq_true, and_self, true_or, or_true, false_or, or_false, false_and, and_false, b_2 hc, b_3 hc, b_9 hc, b_12 hc, b_26 hc, b_40 hc, b_46 hc, b_47 hc, b_60 hc, b_62 hc, b_63 hc, b_76 hc, b_77 hc, b_90 hc, b_91 hc, b_104 hc, b_107 hc, b_114 hc, b_115 hc, b_122 hc, b_123 hc, b_131 hc, b_2 hc, r_2_0 hc, r_2_1 hc, r_2_2 hc, r_2_3 hc, r_2_4 hc, r_2_5 hc, x_61 hc, n_61 hc, r_2_6 hc, r_2_7 hc, r_2_8 hc, r_2_9 hc, b_104 hc, r_104_0 hc, x_105 hc, r_104_1 hc, x_106 hc, r_104_6 hc, r_104_7 hc, r_104_8 hc, q2, q4, e, e2, Int.toNat_natCast]
          exact hq
        · rw [atO_no (by omega)] at hq
          have q4 : ¬ (I : Int) < ((stO (sT σ) (gR (sG σ)) (gU (sG σ)) N).1.2.length : Int) := by omega
          simp (disch := omega) only [x135_0, x135_1, x135_4, x135_5, x135_7, x135_10, x135_11, x135_12, x135_13, x135_16, x135_17, x135_20, x135_21, x135_24, x135_25, x135_26, x135_29, x135_32, x135_35, x135_36, x135_39, x135_40, x135_43, x135_46, x135_47, x135_48, ↓reduceIte, Bool.false_eq_true, Nat.reduceAdd, Nat.reduceLT, Nat.reduceLeDiff, Nat.reduceSub, Nat.reduceEqDiff, Int.reduceToNat, Int.reduceEq, Int.reduceLT, Int.reduceLE, Int.reduceAdd, Int.reduceSub, zg, zI, zJ, zR, zst, zkl, zn, zcat, zok, zraw, List.length_cons, List.length_nil, Option.toList, List.nil_append, List.cons_append, true_and, and_true, if_true, if_false, ne_eq, not_true, not_false_eq_true, and_self, true_or, or_true, false_or, or_false, false_and, and_false, b_2 hc, b_3 hc, b_9 hc, b_12 hc, b_26 hc, b_40 hc, b_46 hc, b_47 hc, b_60 hc, b_62 hc, b_63 hc, b_76 hc, b_77 hc, b_90 hc, b_91 hc, b_104 hc, b_107 hc, b_114 hc, b_115 hc, b_122 hc, b_123 hc, b_131 hc, b_2 hc, r_2_0 hc, r_2_1 hc, r_2_2 hc, r_2_3 hc, r_2_4 hc, r_2_5 hc, x_61 hc, n_61 hc, r_2_6 hc, r_2_7 hc, r_2_8 hc, r_2_9 hc, b_104 hc, r_104_0 hc, x_105 hc, r_104_1 hc, x_106 hc, r_104_6 hc, r_104_7 hc, r_104_8 hc, q2, q4, e]
          exact hq
    · simp (disch := omega) only [x135_0, x135_1, x135_4, x135_5, x135_7, x135_10, x135_11, x135_12, x135_13, x135_16, x135_17, x135_20, x135_21, x135_24, x135_25, x135_26, x135_29, x135_32, x135_35, x135_36, x135_39, x135_40, x135_43, x135_46, x135_47, x135_48, ↓reduceIte, Bool.false_eq_true, Nat.reduceAdd, Nat.reduceLT, Nat.reduceLeDiff, Nat.reduceSub, Nat.reduceEqDiff, Int.reduceToNat, Int.reduceEq, Int.reduceLT, Int.reduceLE, Int.reduceAdd, Int.reduceSub, zg, zI, zJ, zR, zst, zkl, zn, zcat, zok, zraw, List.length_cons, List.length_nil, Option.toList, List.nil_append, List.cons_append, true_and, and_true, if_true, if_false, ne_eq, not_true, not_false_eq_true, and_self, true_or, or_true, false_or, or_false, false_and, and_false, b_2 hc, b_3 hc, b_9 hc, b_12 hc, b_26 hc, b_40 hc, b_46 hc, b_47 hc, b_60 hc, b_62 hc, b_63 hc, b_76 hc, b_77 hc, b_90 hc, b_91 hc, b_104 hc, b_107 hc, b_114 hc, b_115 hc, b_122 hc, b_123 hc, b_131 hc, b_2 hc, r_2_0 hc, r_2_1 hc, r_2_2 hc, r_2_3 hc, r_2_4 hc, r_2_5 hc, x_61 hc, n_61 hc, r_2_6 hc, r_2_7 hc, r_2_8 hc, r_2_9 hc, b_46 hc, r_46_0 hc, r_46_1 hc, x_54 hc, r_46_2 hc, x_55 hc, r_46_3 hc, x_56 hc, r_46_4 hc, x_57 hc, r_46_5 hc, x_58 hc, r_46_6 hc, x_59 hc, b_40 hc, r_40_0 hc, x_41 hc, r_40_1 hc, x_42 hc, r_40_2 hc, x_43 hc, r_40_9 hc, r_40_10 hc, x_44 hc, r_40_11 hc, x_45 hc, b_9 hc, r_9_0 hc, x_10 hc, r_9_1 hc, x_11 hc, b_104 hc, r_104_0 hc, x_105 hc, r_104_1 hc, x_106 hc, r_104_6 hc, r_104_7 hc, r_104_8 hc, b_114 hc, r_114_0 hc, r_114_1 hc, r_114_2 hc, b_131 hc, r_131_7 hc, x_132 hc, r_131_8 hc, x_133 hc, r_131_9 hc, x_134 hc, r_131_10 hc, x_135 hc, r_131_11 hc, x_136 hc, r_131_12 hc, x_137 hc, hd0, hd1, q0, q1]
      exact hno (by omega)
theorem rOneByOneAt {d : Nat} {n i : Int} {x90 : zV} (h : MS θ σ s μ) (hd : 11 ≤ d) (hQ : ∀ μ', ML2 μ μ' → MS θ σ s μ' → Q (some (vi (vOneByOneAt σ n i))) θ μ') : Ex d 264 0 [vr 138, vi n, vi i, x90] [] θ μ Q := by
  have hm := h.1.1
  have hd0 : 0 < d := by omega
  have hd1 : 0 < d - 1 := by omega
  have hn := tn_b h.1.2.1
  have hno : ¬ (0 ≤ n ∧ n ≤ 12) → Q (some (vi (-1))) θ μ := fun hn => by
    have := hQ μ (fun _ _ => rfl) h
    unfold vOneByOneAt at this
    rwa [if_neg hn] at this
  have hyes : (0 ≤ n ∧ n ≤ 12) → ∀ {μ'}, ML2 μ μ' → MS θ σ s μ' → Q (some (vi (atO (stO (sT σ) (gR (sG σ)) (gU (sG σ)) n.toNat).1.2 i))) θ μ' := fun hp μ' a b => by
    have := hQ μ' a b
    unfold vOneByOneAt at this
    rwa [if_pos hp] at this
  by_cases q0 : 0 ≤ n ∧ n ≤ 12
  · simp (disch := omega) only [x264_0, x264_1, x264_2, x264_4, x264_7, x264_10, x264_11, x264_12, x264_13, x264_14, x264_17, x264_18, x264_19, x264_22, x264_23, x264_24, x264_25, x264_28, x264_29, x264_30, x264_33, x264_36, x264_37, x264_40, x264_41, x264_42, x264_45, x264_46, ↓reduceIte, Bool.false_eq_true, Nat.reduceAdd, Nat.reduceLT, Nat.reduceLeDiff, Nat.reduceSub, Nat.reduceEqDiff, Int.reduceToNat, Int.reduceEq, Int.reduceLT, Int.reduceLE, Int.reduceAdd, Int.reduceSub, zg, zI, zJ, zR, zst, zkl, zn, zcat, zok, zraw, List.length_cons, List.length_nil, Option.toList, List.nil_append, List.cons_append, true_and, and_true, if_true, if_false, ne_eq, not_true, not_false_eq_true, and_self, true_or, or_true, false_or, or_false, false_and, and_false, b_138 hm, hd0, hd1, mIn, q0]
    obtain ⟨N, rfl⟩ : ∃ N : Nat, n = (N : Int) := ⟨n.toNat, by omega⟩
    have hy := fun {μ'} => hyes (by omega) (μ' := μ')
    rw [Int.toNat_natCast] at hy
    refine mOneByOne (d := d - 1) (n := N) (by omega) h.1 h.2.2.1.1 h.2.1.2.1.2.2.2 h.2.2.1.2.2.2 rfl (by omega) ?_
    intro μ1 hf hj hR hC
    have hq := hy (MLe_fr hf (by decide)) (MS_fr2 h hf (by decide) hj.nine hR)
    have h0 := st_nn h.1.2.1 h.2.1.2.1.2.2.2 (ρ := gR (sG σ)) N
    have h0' : ¬ (stO (sT σ) (gR (sG σ)) (gU (sG σ)) N).1.1 < 0 := by omega
    have e := hC.1
    have hlen : (stO (sT σ) (gR (sG σ)) (gU (sG σ)) N).1.2.length ≤ 12 := by have := st_len (τ := sT σ) (ρ := gR (sG σ)) (G := gU (sG σ)) N; omega
    have a1 : w32 (((stO (sT σ) (gR (sG σ)) (gU (sG σ)) N).1.2.length : Int) - 1) = ((stO (sT σ) (gR (sG σ)) (gU (sG σ)) N).1.2.length : Int) - 1 := w32_i (by omega) (by omega)
    by_cases q2 : 0 ≤ i ∧ i ≤ ((stO (sT σ) (gR (sG σ)) (gU (sG σ)) N).1.2.length : Int) - 1
    · obtain ⟨I, rfl⟩ : ∃ I : Nat, i = (I : Int) := ⟨i.toNat, by omega⟩
      have q3 : I < (stO (sT σ) (gR (sG σ)) (gU (sG σ)) N).1.2.length := by omega
      rw [atO_in q3] at hq
      have e2 := hC.2 I q3
      simp (disch := omega) only [x264_0, x264_1, x264_2, x264_4, x264_7, x264_10, x264_11, x264_12, x264_13, x264_14, x264_17, x264_18, x264_19, x264_22, x264_23, x264_24, x264_25, x264_28, x264_29, x264_30, x264_33, x264_36, x264_37, x264_40, x264_41, x264_42, x264_45, x264_46, ↓reduceIte, Bool.false_eq_true, Nat.reduceAdd, Nat.reduceLT, Nat.reduceLeDiff, Nat.reduceSub, Nat.reduceEqDiff, Int.reduceToNat, Int.reduceEq, Int.reduceLT, Int.reduceLE, Int.reduceAdd, Int.reduceSub, zg, zI, zJ, zR, zst, zkl, zn, zcat, zok, zraw, List.length_cons, List.length_nil, Option.toList, List.nil_append, List.cons_append, true_and, and_true, if_true, if_false, ne_eq, not_true, not_false_eq_true, and_self, true_or, or_true, false_or, or_false, false_and, and_false, b_138 hm, r_138_73 hm, x_189 hm, hd0, h0', e, a1, mIn, q2, e2, Int.toNat_natCast]
      exact hq
    · rw [atO_no (by omega)] at hq
      simp (disch := omega) only [x264_0, x264_1, x264_2, x264_4, x264_7, x264_10, x264_11, x264_12, x264_13, x264_14, x264_17, x264_18, x264_19, x264_22, x264_23, x264_24, x264_25, x264_28, x264_29, x264_30, x264_33, x264_36, x264_37, x264_40, x264_41, x264_42, x264_45, x264_46, ↓reduceIte, Bool.false_eq_true, Nat.reduceAdd, Nat.reduceLT, Nat.reduceLeDiff, Nat.reduceSub, Nat.reduceEqDiff, Int.reduceToNat, Int.reduceEq, Int.reduceLT, Int.reduceLE, Int.reduceAdd, Int.reduceSub, zg, zI, zJ, zR, zst, zkl, zn, zcat, zok, zraw, List.length_cons, List.length_nil, Option.toList, List.nil_append, List.cons_append, true_and, and_true, if_true, if_false, ne_eq, not_true, not_false_eq_true, and_self, true_or, or_true, false_or, or_false, false_and, and_false, b_138 hm, r_138_73 hm, x_189 hm, hd0, h0', e, a1, mIn, q2]
      exact hq
  · simp (disch := omega) only [x264_0, x264_1, x264_2, x264_4, x264_7, x264_10, x264_11, x264_12, x264_13, x264_14, x264_17, x264_18, x264_19, x264_22, x264_23, x264_24, x264_25, x264_28, x264_29, x264_30, x264_33, x264_36, x264_37, x264_40, x264_41, x264_42, x264_45, x264_46, ↓reduceIte, Bool.false_eq_true, Nat.reduceAdd, Nat.reduceLT, Nat.reduceLeDiff, Nat.reduceSub, Nat.reduceEqDiff, Int.reduceToNat, Int.reduceEq, Int.reduceLT, Int.reduceLE, Int.reduceAdd, Int.reduceSub, zg, zI, zJ, zR, zst, zkl, zn, zcat, zok, zraw, List.length_cons, List.length_nil, Option.toList, List.nil_append, List.cons_append, true_and, and_true, if_true, if_false, ne_eq, not_true, not_false_eq_true, and_self, true_or, or_true, false_or, or_false, false_and, and_false, b_138 hm, hd0, hd1, mIn, q0]
    exact hno (by omega)
def vWithout (σ : zSt) (k : Int) : Int := if k = 0 then haO (sT σ) (thF (gR (sG σ)) (tn (sT σ))) (gU (sG σ)) else if k = 1 then haO (sT σ) (moF (gR (sG σ))) (gU (sG σ)) - haO (sT σ) (gR (sG σ)) (gU (sG σ)) else if k = 2 then haO (sT σ) (feF (gR (sG σ)) 1) (gU (sG σ)) - haO (sT σ) (feF (gR (sG σ)) 0) (gU (sG σ)) else -1000000
theorem kWithout {d : Nat} {k : Int} (h : CS θ T U σ μ) (hd : 7 ≤ d) (hQ : ∀ μ', CL μ μ' → CS θ T U σ μ' → Q (some (vi (vWithout σ k))) θ μ') : Ex d 136 0 [vr 2, vi k] [] θ μ Q := by
  have hc := h.1.1.1
  have hd0 : 0 < d := by omega
  unfold vWithout at hQ
  by_cases k0 : k = 0
  · subst k0
    simp (disch := omega) only [x136_0, x136_1, x136_28, x136_29, x136_32, x136_35, x136_36, x136_37, x136_40, x136_43, x136_44, x136_45, x136_48, x136_51, x136_52, x136_55, ↓reduceIte, Bool.false_eq_true, Nat.reduceAdd, Nat.reduceLT, Nat.reduceLeDiff, Nat.reduceSub, Nat.reduceEqDiff, Int.reduceToNat, Int.reduceEq, Int.reduceLT, Int.reduceLE, Int.reduceAdd, Int.reduceSub, zg, zI, zJ, zR, zst, zkl, zn, zcat, zok, zraw, List.length_cons, List.length_nil, Option.toList, List.nil_append, List.cons_append, true_and, and_true, if_true, if_false, ne_eq, not_true, not_false_eq_true, and_self, true_or, or_true, false_or, or_false, false_and, and_false, b_2 hc, b_3 hc, b_9 hc, b_12 hc, b_26 hc, b_40 hc, b_46 hc, b_47 hc, b_60 hc, b_62 hc, b_63 hc, b_76 hc, b_77 hc, b_90 hc, b_91 hc, b_104 hc, b_107 hc, b_114 hc, b_115 hc, b_122 hc, b_123 hc, b_131 hc, b_2 hc, r_2_0 hc, r_2_1 hc, r_2_2 hc, r_2_3 hc, r_2_4 hc, r_2_5 hc, x_61 hc, n_61 hc, r_2_6 hc, r_2_7 hc, r_2_8 hc, r_2_9 hc, hd0] at hQ ⊢
    refine cThirds (d := d - 1) h.1 h.2.2.1.1 h.2.1.2.1.2.2.2 h.2.2.1.2.2.2.2 (by omega) ?_
    intro μ1 hf
    simp (disch := omega) only [x136_0, x136_1, x136_28, x136_29, x136_32, x136_35, x136_36, x136_37, x136_40, x136_43, x136_44, x136_45, x136_48, x136_51, x136_52, x136_55, ↓reduceIte, Bool.false_eq_true, Nat.reduceAdd, Nat.reduceLT, Nat.reduceLeDiff, Nat.reduceSub, Nat.reduceEqDiff, Int.reduceToNat, Int.reduceEq, Int.reduceLT, Int.reduceLE, Int.reduceAdd, Int.reduceSub, zg, zI, zJ, zR, zst, zkl, zn, zcat, zok, zraw, List.length_cons, List.length_nil, Option.toList, List.nil_append, List.cons_append, true_and, and_true, if_true, if_false, ne_eq, not_true, not_false_eq_true, and_self, true_or, or_true, false_or, or_false, false_and, and_false, b_2 hc, b_3 hc, b_9 hc, b_12 hc, b_26 hc, b_40 hc, b_46 hc, b_47 hc, b_60 hc, b_62 hc, b_63 hc, b_76 hc, b_77 hc, b_90 hc, b_91 hc, b_104 hc, b_107 hc, b_114 hc, b_115 hc, b_122 hc, b_123 hc, b_131 hc]
    exact hQ μ1 (CL_fr hf (by decide)) (CS_fr h hf (by decide))
  · by_cases k1 : k = 1
    · subst k1
      simp (disch := omega) only [x136_0, x136_1, x136_28, x136_29, x136_32, x136_35, x136_36, x136_37, x136_40, x136_43, x136_44, x136_45, x136_48, x136_51, x136_52, x136_55, ↓reduceIte, Bool.false_eq_true, Nat.reduceAdd, Nat.reduceLT, Nat.reduceLeDiff, Nat.reduceSub, Nat.reduceEqDiff, Int.reduceToNat, Int.reduceEq, Int.reduceLT, Int.reduceLE, Int.reduceAdd, Int.reduceSub, zg, zI, zJ, zR, zst, zkl, zn, zcat, zok, zraw, List.length_cons, List.length_nil, Option.toList, List.nil_append, List.cons_append, true_and, and_true, if_true, if_false, ne_eq, not_true, not_false_eq_true, and_self, true_or, or_true, false_or, or_false, false_and, and_false, b_2 hc, b_3 hc, b_9 hc, b_12 hc, b_26 hc, b_40 hc, b_46 hc, b_47 hc, b_60 hc, b_62 hc, b_63 hc, b_76 hc, b_77 hc, b_90 hc, b_91 hc, b_104 hc, b_107 hc, b_114 hc, b_115 hc, b_122 hc, b_123 hc, b_131 hc, b_2 hc, r_2_0 hc, r_2_1 hc, r_2_2 hc, r_2_3 hc, r_2_4 hc, r_2_5 hc, x_61 hc, n_61 hc, r_2_6 hc, r_2_7 hc, r_2_8 hc, r_2_9 hc, hd0] at hQ ⊢
      refine cMossless (d := d - 1) h.1 h.2.2.1.1 h.2.1.2.1.2.2.2 h.2.2.1.2.2.2.2 (by omega) ?_
      intro μ1 hf
      simp (disch := omega) only [x136_0, x136_1, x136_28, x136_29, x136_32, x136_35, x136_36, x136_37, x136_40, x136_43, x136_44, x136_45, x136_48, x136_51, x136_52, x136_55, ↓reduceIte, Bool.false_eq_true, Nat.reduceAdd, Nat.reduceLT, Nat.reduceLeDiff, Nat.reduceSub, Nat.reduceEqDiff, Int.reduceToNat, Int.reduceEq, Int.reduceLT, Int.reduceLE, Int.reduceAdd, Int.reduceSub, zg, zI, zJ, zR, zst, zkl, zn, zcat, zok, zraw, List.length_cons, List.length_nil, Option.toList, List.nil_append, List.cons_append, true_and, and_true, if_true, if_false, ne_eq, not_true, not_false_eq_true, and_self, true_or, or_true, false_or, or_false, false_and, and_false, b_2 hc, b_3 hc, b_9 hc, b_12 hc, b_26 hc, b_40 hc, b_46 hc, b_47 hc, b_60 hc, b_62 hc, b_63 hc, b_76 hc, b_77 hc, b_90 hc, b_91 hc, b_104 hc, b_107 hc, b_114 hc, b_115 hc, b_122 hc, b_123 hc, b_131 hc]
      exact hQ μ1 (CL_fr hf (by decide)) (CS_fr h hf (by decide))
    · by_cases k2 : k = 2
      · subst k2
        simp (disch := omega) only [x136_0, x136_1, x136_28, x136_29, x136_32, x136_35, x136_36, x136_37, x136_40, x136_43, x136_44, x136_45, x136_48, x136_51, x136_52, x136_55, ↓reduceIte, Bool.false_eq_true, Nat.reduceAdd, Nat.reduceLT, Nat.reduceLeDiff, Nat.reduceSub, Nat.reduceEqDiff, Int.reduceToNat, Int.reduceEq, Int.reduceLT, Int.reduceLE, Int.reduceAdd, Int.reduceSub, zg, zI, zJ, zR, zst, zkl, zn, zcat, zok, zraw, List.length_cons, List.length_nil, Option.toList, List.nil_append, List.cons_append, true_and, and_true, if_true, if_false, ne_eq, not_true, not_false_eq_true, and_self, true_or, or_true, false_or, or_false, false_and, and_false, b_2 hc, b_3 hc, b_9 hc, b_12 hc, b_26 hc, b_40 hc, b_46 hc, b_47 hc, b_60 hc, b_62 hc, b_63 hc, b_76 hc, b_77 hc, b_90 hc, b_91 hc, b_104 hc, b_107 hc, b_114 hc, b_115 hc, b_122 hc, b_123 hc, b_131 hc, b_2 hc, r_2_0 hc, r_2_1 hc, r_2_2 hc, r_2_3 hc, r_2_4 hc, r_2_5 hc, x_61 hc, n_61 hc, r_2_6 hc, r_2_7 hc, r_2_8 hc, r_2_9 hc, hd0] at hQ ⊢
        refine cFelted (d := d - 1) h.1 h.2.2.1.1 h.2.1.2.1.2.2.2 h.2.2.1.2.2.2.2 (by omega) ?_
        intro μ1 hf
        simp (disch := omega) only [x136_0, x136_1, x136_28, x136_29, x136_32, x136_35, x136_36, x136_37, x136_40, x136_43, x136_44, x136_45, x136_48, x136_51, x136_52, x136_55, ↓reduceIte, Bool.false_eq_true, Nat.reduceAdd, Nat.reduceLT, Nat.reduceLeDiff, Nat.reduceSub, Nat.reduceEqDiff, Int.reduceToNat, Int.reduceEq, Int.reduceLT, Int.reduceLE, Int.reduceAdd, Int.reduceSub, zg, zI, zJ, zR, zst, zkl, zn, zcat, zok, zraw, List.length_cons, List.length_nil, Option.toList, List.nil_append, List.cons_append, true_and, and_true, if_true, if_false, ne_eq, not_true, not_false_eq_true, and_self, true_or, or_true, false_or, or_false, false_and, and_false, b_2 hc, b_3 hc, b_9 hc, b_12 hc, b_26 hc, b_40 hc, b_46 hc, b_47 hc, b_60 hc, b_62 hc, b_63 hc, b_76 hc, b_77 hc, b_90 hc, b_91 hc, b_104 hc, b_107 hc, b_114 hc, b_115 hc, b_122 hc, b_123 hc, b_131 hc]
        exact hQ μ1 (CL_fr hf (by decide)) (CS_fr h hf (by decide))
      · rw [if_neg k0, if_neg k1, if_neg k2] at hQ
        simp (disch := omega) only [x136_0, x136_1, x136_28, x136_29, x136_32, x136_35, x136_36, x136_37, x136_40, x136_43, x136_44, x136_45, x136_48, x136_51, x136_52, x136_55, ↓reduceIte, Bool.false_eq_true, Nat.reduceAdd, Nat.reduceLT, Nat.reduceLeDiff, Nat.reduceSub, Nat.reduceEqDiff, Int.reduceToNat, Int.reduceEq, Int.reduceLT, Int.reduceLE, Int.reduceAdd, Int.reduceSub, zg, zI, zJ, zR, zst, zkl, zn, zcat, zok, zraw, List.length_cons, List.length_nil, Option.toList, List.nil_append, List.cons_append, true_and, and_true, if_true, if_false, ne_eq, not_true, not_false_eq_true, and_self, true_or, or_true, false_or, or_false, false_and, and_false, b_2 hc, b_3 hc, b_9 hc, b_12 hc, b_26 hc, b_40 hc, b_46 hc, b_47 hc, b_60 hc, b_62 hc, b_63 hc, b_76 hc, b_77 hc, b_90 hc, b_91 hc, b_104 hc, b_107 hc, b_114 hc, b_115 hc, b_122 hc, b_123 hc, b_131 hc, b_2 hc, r_2_0 hc, r_2_1 hc, r_2_2 hc, r_2_3 hc, r_2_4 hc, r_2_5 hc, x_61 hc, n_61 hc, r_2_6 hc, r_2_7 hc, r_2_8 hc, r_2_9 hc, hd0, k0, k1, k2]
        exact hQ μ (fun _ _ => rfl) h
theorem rWithout {d : Nat} {k : Int} (h : MS θ σ s μ) (hd : 11 ≤ d) (hQ : ∀ μ', ML2 μ μ' → MS θ σ s μ' → Q (some (vi (vWithout σ k))) θ μ') : Ex d 268 0 [vr 138, vi k] [] θ μ Q := by
  have hm := h.1.1
  have hd0 : 0 < d := by omega
  unfold vWithout at hQ
  by_cases k0 : k = 0
  · subst k0
    simp (disch := omega) only [x268_0, x268_1, x268_4, x268_5, x268_8, x268_11, x268_12, x268_13, x268_16, x268_17, x268_20, x268_23, x268_24, x268_25, x268_28, x268_29, x268_32, x268_35, x268_38, ↓reduceIte, Bool.false_eq_true, Nat.reduceAdd, Nat.reduceLT, Nat.reduceLeDiff, Nat.reduceSub, Nat.reduceEqDiff, Int.reduceToNat, Int.reduceEq, Int.reduceLT, Int.reduceLE, Int.reduceAdd, Int.reduceSub, zg, zI, zJ, zR, zst, zkl, zn, zcat, zok, zraw, List.length_cons, List.length_nil, Option.toList, List.nil_append, List.cons_append, true_and, and_true, if_true, if_false, ne_eq, not_true, not_false_eq_true, and_self, true_or, or_true, false_or, or_false, false_and, and_false, b_138 hm, hd0] at hQ ⊢
    refine mThirds (d := d - 1) (by omega) h.1 h.2.2.1.1 h.2.1.2.1.2.2.2 h.2.2.1.2.2.2 ?_
    intro μ1 hf hj hR
    simp (disch := omega) only [x268_0, x268_1, x268_4, x268_5, x268_8, x268_11, x268_12, x268_13, x268_16, x268_17, x268_20, x268_23, x268_24, x268_25, x268_28, x268_29, x268_32, x268_35, x268_38, ↓reduceIte, Bool.false_eq_true, Nat.reduceAdd, Nat.reduceLT, Nat.reduceLeDiff, Nat.reduceSub, Nat.reduceEqDiff, Int.reduceToNat, Int.reduceEq, Int.reduceLT, Int.reduceLE, Int.reduceAdd, Int.reduceSub, zg, zI, zJ, zR, zst, zkl, zn, zcat, zok, zraw, List.length_cons, List.length_nil, Option.toList, List.nil_append, List.cons_append, true_and, and_true, if_true, if_false, ne_eq, not_true, not_false_eq_true, and_self, true_or, or_true, false_or, or_false, false_and, and_false]
    exact hQ μ1 (MLe_fr hf (by decide)) (MS_fr2 h hf (by decide) hj.nine hR)
  · by_cases k1 : k = 1
    · subst k1
      simp (disch := omega) only [x268_0, x268_1, x268_4, x268_5, x268_8, x268_11, x268_12, x268_13, x268_16, x268_17, x268_20, x268_23, x268_24, x268_25, x268_28, x268_29, x268_32, x268_35, x268_38, ↓reduceIte, Bool.false_eq_true, Nat.reduceAdd, Nat.reduceLT, Nat.reduceLeDiff, Nat.reduceSub, Nat.reduceEqDiff, Int.reduceToNat, Int.reduceEq, Int.reduceLT, Int.reduceLE, Int.reduceAdd, Int.reduceSub, zg, zI, zJ, zR, zst, zkl, zn, zcat, zok, zraw, List.length_cons, List.length_nil, Option.toList, List.nil_append, List.cons_append, true_and, and_true, if_true, if_false, ne_eq, not_true, not_false_eq_true, and_self, true_or, or_true, false_or, or_false, false_and, and_false, b_138 hm, hd0] at hQ ⊢
      refine mMossless (d := d - 1) (by omega) h.1 h.2.2.1.1 h.2.1.2.1.2.2.2 h.2.2.1.2.2.2 ?_
      intro μ1 hf hj hR
      simp (disch := omega) only [x268_0, x268_1, x268_4, x268_5, x268_8, x268_11, x268_12, x268_13, x268_16, x268_17, x268_20, x268_23, x268_24, x268_25, x268_28, x268_29, x268_32, x268_35, x268_38, ↓reduceIte, Bool.false_eq_true, Nat.reduceAdd, Nat.reduceLT, Nat.reduceLeDiff, Nat.reduceSub, Nat.reduceEqDiff, Int.reduceToNat, Int.reduceEq, Int.reduceLT, Int.reduceLE, Int.reduceAdd, Int.reduceSub, zg, zI, zJ, zR, zst, zkl, zn, zcat, zok, zraw, List.length_cons, List.length_nil, Option.toList, List.nil_append, List.cons_append, true_and, and_true, if_true, if_false, ne_eq, not_true, not_false_eq_true, and_self, true_or, or_true, false_or, or_false, false_and, and_false]
      exact hQ μ1 (MLe_fr hf (by decide)) (MS_fr2 h hf (by decide) hj.nine hR)
    · by_cases k2 : k = 2
      · subst k2
        simp (disch := omega) only [x268_0, x268_1, x268_4, x268_5, x268_8, x268_11, x268_12, x268_13, x268_16, x268_17, x268_20, x268_23, x268_24, x268_25, x268_28, x268_29, x268_32, x268_35, x268_38, ↓reduceIte, Bool.false_eq_true, Nat.reduceAdd, Nat.reduceLT, Nat.reduceLeDiff, Nat.reduceSub, Nat.reduceEqDiff, Int.reduceToNat, Int.reduceEq, Int.reduceLT, Int.reduceLE, Int.reduceAdd, Int.reduceSub, zg, zI, zJ, zR, zst, zkl, zn, zcat, zok, zraw, List.length_cons, List.length_nil, Option.toList, List.nil_append, List.cons_append, true_and, and_true, if_true, if_false, ne_eq, not_true, not_false_eq_true, and_self, true_or, or_true, false_or, or_false, false_and, and_false, b_138 hm, hd0] at hQ ⊢
        refine mFelted (d := d - 1) (by omega) h.1 h.2.2.1.1 h.2.1.2.1.2.2.2 h.2.2.1.2.2.2 ?_
        intro μ1 hf hj
        simp (disch := omega) only [x268_0, x268_1, x268_4, x268_5, x268_8, x268_11, x268_12, x268_13, x268_16, x268_17, x268_20, x268_23, x268_24, x268_25, x268_28, x268_29, x268_32, x268_35, x268_38, ↓reduceIte, Bool.false_eq_true, Nat.reduceAdd, Nat.reduceLT, Nat.reduceLeDiff, Nat.reduceSub, Nat.reduceEqDiff, Int.reduceToNat, Int.reduceEq, Int.reduceLT, Int.reduceLE, Int.reduceAdd, Int.reduceSub, zg, zI, zJ, zR, zst, zkl, zn, zcat, zok, zraw, List.length_cons, List.length_nil, Option.toList, List.nil_append, List.cons_append, true_and, and_true, if_true, if_false, ne_eq, not_true, not_false_eq_true, and_self, true_or, or_true, false_or, or_false, false_and, and_false]
        exact hQ μ1 (MLe_fr hf (by decide)) (MS_fr h hf (by decide) hj.nine)
      · rw [if_neg k0, if_neg k1, if_neg k2] at hQ
        simp (disch := omega) only [x268_0, x268_1, x268_4, x268_5, x268_8, x268_11, x268_12, x268_13, x268_16, x268_17, x268_20, x268_23, x268_24, x268_25, x268_28, x268_29, x268_32, x268_35, x268_38, ↓reduceIte, Bool.false_eq_true, Nat.reduceAdd, Nat.reduceLT, Nat.reduceLeDiff, Nat.reduceSub, Nat.reduceEqDiff, Int.reduceToNat, Int.reduceEq, Int.reduceLT, Int.reduceLE, Int.reduceAdd, Int.reduceSub, zg, zI, zJ, zR, zst, zkl, zn, zcat, zok, zraw, List.length_cons, List.length_nil, Option.toList, List.nil_append, List.cons_append, true_and, and_true, if_true, if_false, ne_eq, not_true, not_false_eq_true, and_self, true_or, or_true, false_or, or_false, false_and, and_false, b_138 hm, hd0, k0, k1, k2]
        exact hQ μ (fun _ _ => rfl) h
def vNight (σ : zSt) (n : Int) : Int := if 1 ≤ n ∧ n ≤ 36 then (niO (sT σ) (gR (sG σ)) (gU (sG σ)) n) else -1
theorem kNight {d : Nat} {n : Int} (h : CS θ T U σ μ) (hd : 7 ≤ d) (hQ : ∀ μ', CL μ μ' → CS θ T U σ μ' → Q (some (vi (vNight σ n))) θ μ') : Ex d 138 0 [vr 2, vi n] [] θ μ Q := by
  have hc := h.1.1.1
  have hT := h.1.1.2.1
  have h2T := h.1.1.2.2.2.2.1
  have hd0 : 0 < d := by omega
  have hd1 : 0 < d - 1 := by omega
  have hn := tn_b h.1.2.1
  have hno : ¬ (1 ≤ n ∧ n ≤ 36) → Q (some (vi (-1))) θ μ := fun hn => by
    have := hQ μ (fun _ _ => rfl) h
    unfold vNight at this
    rwa [if_neg hn] at this
  have hyes : (1 ≤ n ∧ n ≤ 36) → ∀ {μ'}, CL μ μ' → CS θ T U σ μ' → Q (some (vi (niO (sT σ) (gR (sG σ)) (gU (sG σ)) n))) θ μ' := fun hp μ' a b => by
    have := hQ μ' a b
    unfold vNight at this
    rwa [if_pos hp] at this
  by_cases q0 : n < 1
  · simp (disch := omega) only [x138_0, x138_1, x138_2, x138_5, x138_6, x138_8, x138_11, x138_12, x138_15, x138_16, x138_19, x138_20, x138_23, ↓reduceIte, Bool.false_eq_true, Nat.reduceAdd, Nat.reduceLT, Nat.reduceLeDiff, Nat.reduceSub, Nat.reduceEqDiff, Int.reduceToNat, Int.reduceEq, Int.reduceLT, Int.reduceLE, Int.reduceAdd, Int.reduceSub, zg, zI, zJ, zR, zst, zkl, zn, zcat, zok, zraw, List.length_cons, List.length_nil, Option.toList, List.nil_append, List.cons_append, true_and, and_true, if_true, if_false, ne_eq, not_true, not_false_eq_true, and_self, true_or, or_true, false_or, or_false, false_and, and_false, b_2 hc, b_3 hc, b_9 hc, b_12 hc, b_26 hc, b_40 hc, b_46 hc, b_47 hc, b_60 hc, b_62 hc, b_63 hc, b_76 hc, b_77 hc, b_90 hc, b_91 hc, b_104 hc, b_107 hc, b_114 hc, b_115 hc, b_122 hc, b_123 hc, b_131 hc, b_2 hc, r_2_0 hc, r_2_1 hc, r_2_2 hc, r_2_3 hc, r_2_4 hc, r_2_5 hc, x_61 hc, n_61 hc, r_2_6 hc, r_2_7 hc, r_2_8 hc, r_2_9 hc, b_46 hc, r_46_0 hc, r_46_1 hc, x_54 hc, r_46_2 hc, x_55 hc, r_46_3 hc, x_56 hc, r_46_4 hc, x_57 hc, r_46_5 hc, x_58 hc, r_46_6 hc, x_59 hc, b_40 hc, r_40_0 hc, x_41 hc, r_40_1 hc, x_42 hc, r_40_2 hc, x_43 hc, r_40_9 hc, r_40_10 hc, x_44 hc, r_40_11 hc, x_45 hc, b_9 hc, r_9_0 hc, x_10 hc, r_9_1 hc, x_11 hc, b_104 hc, r_104_0 hc, x_105 hc, r_104_1 hc, x_106 hc, r_104_6 hc, r_104_7 hc, r_104_8 hc, b_114 hc, r_114_0 hc, r_114_1 hc, r_114_2 hc, b_131 hc, r_131_7 hc, x_132 hc, r_131_8 hc, x_133 hc, r_131_9 hc, x_134 hc, r_131_10 hc, x_135 hc, r_131_11 hc, x_136 hc, r_131_12 hc, x_137 hc, hd0, hd1, q0]
    exact hno (by omega)
  · by_cases q1 : n ≤ 36
    · simp (disch := omega) only [x138_0, x138_1, x138_2, x138_5, x138_6, x138_8, x138_11, x138_12, x138_15, x138_16, x138_19, x138_20, x138_23, ↓reduceIte, Bool.false_eq_true, Nat.reduceAdd, Nat.reduceLT, Nat.reduceLeDiff, Nat.reduceSub, Nat.reduceEqDiff, Int.reduceToNat, Int.reduceEq, Int.reduceLT, Int.reduceLE, Int.reduceAdd, Int.reduceSub, zg, zI, zJ, zR, zst, zkl, zn, zcat, zok, zraw, List.length_cons, List.length_nil, Option.toList, List.nil_append, List.cons_append, true_and, and_true, if_true, if_false, ne_eq, not_true, not_false_eq_true, and_self, true_or, or_true, false_or, or_false, false_and, and_false, b_2 hc, b_3 hc, b_9 hc, b_12 hc, b_26 hc, b_40 hc, b_46 hc, b_47 hc, b_60 hc, b_62 hc, b_63 hc, b_76 hc, b_77 hc, b_90 hc, b_91 hc, b_104 hc, b_107 hc, b_114 hc, b_115 hc, b_122 hc, b_123 hc, b_131 hc, b_2 hc, r_2_0 hc, r_2_1 hc, r_2_2 hc, r_2_3 hc, r_2_4 hc, r_2_5 hc, x_61 hc, n_61 hc, r_2_6 hc, r_2_7 hc, r_2_8 hc, r_2_9 hc, b_46 hc, r_46_0 hc, r_46_1 hc, x_54 hc, r_46_2 hc, x_55 hc, r_46_3 hc, x_56 hc, r_46_4 hc, x_57 hc, r_46_5 hc, x_58 hc, r_46_6 hc, x_59 hc, b_40 hc, r_40_0 hc, x_41 hc, r_40_1 hc, x_42 hc, r_40_2 hc, x_43 hc, r_40_9 hc, r_40_10 hc, x_44 hc, r_40_11 hc, x_45 hc, b_9 hc, r_9_0 hc, x_10 hc, r_9_1 hc, x_11 hc, b_104 hc, r_104_0 hc, x_105 hc, r_104_1 hc, x_106 hc, r_104_6 hc, r_104_7 hc, r_104_8 hc, b_114 hc, r_114_0 hc, r_114_1 hc, r_114_2 hc, b_131 hc, r_131_7 hc, x_132 hc, r_131_8 hc, x_133 hc, r_131_9 hc, x_134 hc, r_131_10 hc, x_135 hc, r_131_11 hc, x_136 hc, r_131_12 hc, x_137 hc, hd0, hd1, q0, q1]
      refine cNight (d := d - 1) h.1 h.2.2.1.1 h.2.1.2.1.2.2.2 h.2.2.1.2.2.2.2 (by omega) ?_
      intro μ1 hf
      simp (disch := omega) only [x138_0, x138_1, x138_2, x138_5, x138_6, x138_8, x138_11, x138_12, x138_15, x138_16, x138_19, x138_20, x138_23, ↓reduceIte, Bool.false_eq_true, Nat.reduceAdd, Nat.reduceLT, Nat.reduceLeDiff, Nat.reduceSub, Nat.reduceEqDiff, Int.reduceToNat, Int.reduceEq, Int.reduceLT, Int.reduceLE, Int.reduceAdd, Int.reduceSub, zg, zI, zJ, zR, zst, zkl, zn, zcat, zok, zraw, List.length_cons, List.length_nil, Option.toList, List.nil_append, List.cons_append, true_and, and_true, if_true, if_false, ne_eq, not_true, not_false_eq_true, and_self, true_or, or_true, false_or, or_false, false_and, and_false, b_2 hc, b_3 hc, b_9 hc, b_12 hc, b_26 hc, b_40 hc, b_46 hc, b_47 hc, b_60 hc, b_62 hc, b_63 hc, b_76 hc, b_77 hc, b_90 hc, b_91 hc, b_104 hc, b_107 hc, b_114 hc, b_115 hc, b_122 hc, b_123 hc, b_131 hc]
      exact hyes (by omega) (CL_fr hf (by decide)) (CS_fr h hf (by decide))
    · simp (disch := omega) only [x138_0, x138_1, x138_2, x138_5, x138_6, x138_8, x138_11, x138_12, x138_15, x138_16, x138_19, x138_20, x138_23, ↓reduceIte, Bool.false_eq_true, Nat.reduceAdd, Nat.reduceLT, Nat.reduceLeDiff, Nat.reduceSub, Nat.reduceEqDiff, Int.reduceToNat, Int.reduceEq, Int.reduceLT, Int.reduceLE, Int.reduceAdd, Int.reduceSub, zg, zI, zJ, zR, zst, zkl, zn, zcat, zok, zraw, List.length_cons, List.length_nil, Option.toList, List.nil_append, List.cons_append, true_and, and_true, if_true, if_false, ne_eq, not_true, not_false_eq_true, and_self, true_or, or_true, false_or, or_false, false_and, and_false, b_2 hc, b_3 hc, b_9 hc, b_12 hc, b_26 hc, b_40 hc, b_46 hc, b_47 hc, b_60 hc, b_62 hc, b_63 hc, b_76 hc, b_77 hc, b_90 hc, b_91 hc, b_104 hc, b_107 hc, b_114 hc, b_115 hc, b_122 hc, b_123 hc, b_131 hc, b_2 hc, r_2_0 hc, r_2_1 hc, r_2_2 hc, r_2_3 hc, r_2_4 hc, r_2_5 hc, x_61 hc, n_61 hc, r_2_6 hc, r_2_7 hc, r_2_8 hc, r_2_9 hc, b_46 hc, r_46_0 hc, r_46_1 hc, x_54 hc, r_46_2 hc, x_55 hc, r_46_3 hc, x_56 hc, r_46_4 hc, x_57 hc, r_46_5 hc, x_58 hc, r_46_6 hc, x_59 hc, b_40 hc, r_40_0 hc, x_41 hc, r_40_1 hc, x_42 hc, r_40_2 hc, x_43 hc, r_40_9 hc, r_40_10 hc, x_44 hc, r_40_11 hc, x_45 hc, b_9 hc, r_9_0 hc, x_10 hc, r_9_1 hc, x_11 hc, b_104 hc, r_104_0 hc, x_105 hc, r_104_1 hc, x_106 hc, r_104_6 hc, r_104_7 hc, r_104_8 hc, b_114 hc, r_114_0 hc, r_114_1 hc, r_114_2 hc, b_131 hc, r_131_7 hc, x_132 hc, r_131_8 hc, x_133 hc, r_131_9 hc, x_134 hc, r_131_10 hc, x_135 hc, r_131_11 hc, x_136 hc, r_131_12 hc, x_137 hc, hd0, hd1, q0, q1]
      exact hno (by omega)
theorem rNight {d : Nat} {n : Int} {x2 x3 : zV} (h : MS θ σ s μ) (hd : 11 ≤ d) (hQ : ∀ μ', ML2 μ μ' → MS θ σ s μ' → Q (some (vi (vNight σ n))) θ μ') : Ex d 270 0 [vr 138, vi n, x2, x3] [] θ μ Q := by
  have hm := h.1.1
  have hd0 : 0 < d := by omega
  by_cases q : 1 ≤ n ∧ n ≤ 36
  · refine mNight (by omega) h.1 h.2.2.1.1 h.2.1.2.1.2.2.2 h.2.2.1.2.2.2 q ?_
    intro μ1 hf hj
    have := hQ μ1 (MLe_fr hf (by decide)) (MS_fr h hf (by decide) hj.nine)
    unfold vNight at this
    rwa [if_pos q] at this
  · have := hQ μ (fun _ _ => rfl) h
    unfold vNight at this
    rw [if_neg q] at this
    simp (disch := omega) only [x270_0, x270_1, x270_2, x270_4, x270_7, x270_10, x270_11, x270_12, x270_13, x270_16, x270_17, x270_20, x270_21, x270_22, x270_23, x270_26, x270_27, x270_28, x270_29, x270_31, x270_33, x270_36, x270_37, x270_40, x270_43, x270_44, x270_45, x270_46, x270_49, x270_50, x270_51, x270_54, x270_55, x270_56, x270_57, x270_60, x270_61, x270_62, x270_65, x270_66, x270_67, x270_70, x270_71, x270_72, x270_73, x270_74, x270_77, x270_78, x270_79, x270_80, x270_81, x270_84, x270_87, x270_89, ↓reduceIte, Bool.false_eq_true, Nat.reduceAdd, Nat.reduceLT, Nat.reduceLeDiff, Nat.reduceSub, Nat.reduceEqDiff, Int.reduceToNat, Int.reduceEq, Int.reduceLT, Int.reduceLE, Int.reduceAdd, Int.reduceSub, zg, zI, zJ, zR, zst, zkl, zn, zcat, zok, zraw, List.length_cons, List.length_nil, Option.toList, List.nil_append, List.cons_append, true_and, and_true, if_true, if_false, ne_eq, not_true, not_false_eq_true, and_self, true_or, or_true, false_or, or_false, false_and, and_false, b_138 hm, hd0, mIn, q]
    exact this
/-- lasts -/
theorem kLasts {d : Nat} {e : Int} (h : CS θ T U σ μ) (hd : 8 ≤ d) (hQ : ∀ μ', CL μ μ' → CS θ T U σ μ' → Q (some (vi (laO (sT σ) (gR (sG σ)) e))) θ μ') : Ex d 140 0 [vr 2, vi e] [] θ μ Q := by
  have hc := h.1.1.1
  have hd0 : 0 < d := by omega
  simp (disch := omega) only [x140_0, x140_1, x140_4, x140_5, x140_8, ↓reduceIte, Bool.false_eq_true, Nat.reduceAdd, Nat.reduceLT, Nat.reduceLeDiff, Nat.reduceSub, Nat.reduceEqDiff, Int.reduceToNat, Int.reduceEq, Int.reduceLT, Int.reduceLE, Int.reduceAdd, Int.reduceSub, zg, zI, zJ, zR, zst, zkl, zn, zcat, zok, zraw, List.length_cons, List.length_nil, Option.toList, List.nil_append, List.cons_append, true_and, and_true, if_true, if_false, ne_eq, not_true, not_false_eq_true, and_self, true_or, or_true, false_or, or_false, false_and, and_false, b_2 hc, b_3 hc, b_9 hc, b_12 hc, b_26 hc, b_40 hc, b_46 hc, b_47 hc, b_60 hc, b_62 hc, b_63 hc, b_76 hc, b_77 hc, b_90 hc, b_91 hc, b_104 hc, b_107 hc, b_114 hc, b_115 hc, b_122 hc, b_123 hc, b_131 hc, b_2 hc, r_2_0 hc, r_2_1 hc, r_2_2 hc, r_2_3 hc, r_2_4 hc, r_2_5 hc, x_61 hc, n_61 hc, r_2_6 hc, r_2_7 hc, r_2_8 hc, r_2_9 hc, hd0]
  refine cFirstBad (d := d - 1) h.1 h.2.2.1.1 (by omega) ?_
  intro μ1 hf
  simp (disch := omega) only [x140_0, x140_1, x140_4, x140_5, x140_8, ↓reduceIte, Bool.false_eq_true, Nat.reduceAdd, Nat.reduceLT, Nat.reduceLeDiff, Nat.reduceSub, Nat.reduceEqDiff, Int.reduceToNat, Int.reduceEq, Int.reduceLT, Int.reduceLE, Int.reduceAdd, Int.reduceSub, zg, zI, zJ, zR, zst, zkl, zn, zcat, zok, zraw, List.length_cons, List.length_nil, Option.toList, List.nil_append, List.cons_append, true_and, and_true, if_true, if_false, ne_eq, not_true, not_false_eq_true, and_self, true_or, or_true, false_or, or_false, false_and, and_false, b_2 hc, b_3 hc, b_9 hc, b_12 hc, b_26 hc, b_40 hc, b_46 hc, b_47 hc, b_60 hc, b_62 hc, b_63 hc, b_76 hc, b_77 hc, b_90 hc, b_91 hc, b_104 hc, b_107 hc, b_114 hc, b_115 hc, b_122 hc, b_123 hc, b_131 hc]
  exact hQ μ1 (CL_fr hf (by decide)) (CS_fr h hf (by decide))
theorem fy_la {τ : zT} {ρ : zF} {e : Int} : fyO τ ρ e 60 = laO τ ρ e := by
  unfold fyO laO
  generalize (List.range 60).find? (fun y => decide (0 < yfO τ ρ e y)) = r
  cases r <;> rfl
theorem rLasts {d : Nat} {e : Int} {x2 : zV} (h : MS θ σ s μ) (hd : 11 ≤ d) (hQ : ∀ μ', ML2 μ μ' → MS θ σ s μ' → Q (some (vi (laO (sT σ) (gR (sG σ)) e))) θ μ') : Ex d 275 0 [vr 138, vi e, x2] [] θ μ Q := by
  have hm := h.1.1
  have hd0 : 0 < d := by omega
  simp (disch := omega) only [x275_0, x275_1, x275_2, x275_4, x275_7, x275_8, x275_9, x275_12, x275_13, x275_16, x275_17, x275_20, ↓reduceIte, Bool.false_eq_true, Nat.reduceAdd, Nat.reduceLT, Nat.reduceLeDiff, Nat.reduceSub, Nat.reduceEqDiff, Int.reduceToNat, Int.reduceEq, Int.reduceLT, Int.reduceLE, Int.reduceAdd, Int.reduceSub, zg, zI, zJ, zR, zst, zkl, zn, zcat, zok, zraw, List.length_cons, List.length_nil, Option.toList, List.nil_append, List.cons_append, true_and, and_true, if_true, if_false, ne_eq, not_true, not_false_eq_true, and_self, true_or, or_true, false_or, or_false, false_and, and_false, b_138 hm, hd0]
  refine mYears (d := d - 1) (k := 60) (by omega) h.1 h.2.2.1.1 rfl (by omega) ?_
  intro μ1 hf hj hR e77
  have hb := (hl_le h.1.2.1 (yl_z (τ := sT σ) (ρ := gR (sG σ)) (seed := e) 60)).1
  have hq := hQ μ1 (MLe_fr hf (by decide)) (MS_fr2 h hf (by decide) hj.nine hR)
  have e77' := e77.trans fy_la
  have hb' : 0 ≤ hlO (sT σ) (ylO (sT σ) (gR (sG σ)) e 60) := hb
  simp (disch := omega) only [x275_0, x275_1, x275_2, x275_4, x275_7, x275_8, x275_9, x275_12, x275_13, x275_16, x275_17, x275_20, ↓reduceIte, Bool.false_eq_true, Nat.reduceAdd, Nat.reduceLT, Nat.reduceLeDiff, Nat.reduceSub, Nat.reduceEqDiff, Int.reduceToNat, Int.reduceEq, Int.reduceLT, Int.reduceLE, Int.reduceAdd, Int.reduceSub, zg, zI, zJ, zR, zst, zkl, zn, zcat, zok, zraw, List.length_cons, List.length_nil, Option.toList, List.nil_append, List.cons_append, true_and, and_true, if_true, if_false, ne_eq, not_true, not_false_eq_true, and_self, true_or, or_true, false_or, or_false, false_and, and_false, b_138 hm, hb', e77']
  exact hq
/-- odds -/
def odO (τ : zT) (ρ : zF) (e k l : Int) : Nat → Int
  | 0 => 0
  | i + 1 => odO τ ρ e k l i + if l ≤ hlO τ (ylO τ ρ (w32 (e + (i : Nat))) k.toNat) then 1 else 0
theorem od_b {τ : zT} {ρ : zF} {e k l : Int} : ∀ n, 0 ≤ odO τ ρ e k l n ∧ odO τ ρ e k l n ≤ n := by
  intro n
  induction n with
  | zero => simp [odO]
  | succ n ih => unfold odO; omega
theorem od_s {τ : zT} {ρ : zF} {e l : Int} {N : Nat} (i : Nat) : odO τ ρ e (N : Nat) l (i + 1) = odO τ ρ e (N : Nat) l i + if l ≤ hlO τ (ylO τ ρ (w32 (e + (i : Nat))) N) then 1 else 0 := rfl
theorem od_s0 {τ : zT} {ρ : zF} {e l : Int} {N i : Nat} (h : hlO τ (ylO τ ρ (w32 (e + (i : Nat))) N) < l) : odO τ ρ e (N : Nat) l i = odO τ ρ e (N : Nat) l (i + 1) := by rw [od_s, if_neg (Int.not_le.mpr h), Int.add_zero]
theorem od_s1 {τ : zT} {ρ : zF} {e l : Int} {N i : Nat} (h : ¬ hlO τ (ylO τ ρ (w32 (e + (i : Nat))) N) < l) : odO τ ρ e (N : Nat) l i + 1 = odO τ ρ e (N : Nat) l (i + 1) := by rw [od_s, if_pos (Int.not_lt.mp h)]
theorem w32_cn {x : Int} {n : Nat} (h : 0 ≤ x ∧ x ≤ (n : Int)) (hn : n < 2147483647) : w32 (x + 1) = x + 1 := w32_i (by omega) (by omega)
def vOdds (σ : zSt) (e m k l : Int) : Int := if ((1 ≤ m ∧ m ≤ 50) ∧ (0 ≤ k ∧ k ≤ 60)) ∧ 0 ≤ l ∧ l ≤ 36 then odO (sT σ) (gR (sG σ)) e k l m.toNat else -1
theorem kOdds {d : Nat} {e m k l : Int} {x5 x6 : zV} (h : CS θ T U σ μ) (hd : 8 ≤ d) (hQ : ∀ μ', CL μ μ' → CS θ T U σ μ' → Q (some (vi (vOdds σ e m k l))) θ μ') : Ex d 141 0 [vr 2, vi e, vi m, vi k, vi l, x5, x6] [] θ μ Q := by
  have hc := h.1.1.1
  have hd0 : 0 < d := by omega
  have hno : ¬ (((1 ≤ m ∧ m ≤ 50) ∧ (0 ≤ k ∧ k ≤ 60)) ∧ 0 ≤ l ∧ l ≤ 36) → Q (some (vi (-1))) θ μ := fun hn => by
    have := hQ μ (fun _ _ => rfl) h
    unfold vOdds at this
    rwa [if_neg hn] at this
  by_cases q0 : m < 1
  · simp (disch := omega) only [x141_0, x141_1, x141_2, x141_5, x141_6, x141_8, x141_11, x141_12, x141_15, x141_16, x141_18, x141_21, x141_22, x141_23, x141_25, x141_28, x141_30, x141_32, x141_35, x141_36, x141_37, x141_38, x141_40, x141_41, x141_45, x141_46, x141_49, x141_50, x141_53, x141_54, x141_56, x141_57, x141_58, x141_61, x141_63, x141_66, x141_69, x141_72, x141_75, x141_77, ↓reduceIte, Bool.false_eq_true, Nat.reduceAdd, Nat.reduceLT, Nat.reduceLeDiff, Nat.reduceSub, Nat.reduceEqDiff, Int.reduceToNat, Int.reduceEq, Int.reduceLT, Int.reduceLE, Int.reduceAdd, Int.reduceSub, zg, zI, zJ, zR, zst, zkl, zn, zcat, zok, zraw, List.length_cons, List.length_nil, Option.toList, List.nil_append, List.cons_append, true_and, and_true, if_true, if_false, ne_eq, not_true, not_false_eq_true, and_self, true_or, or_true, false_or, or_false, false_and, and_false, b_2 hc, b_3 hc, b_9 hc, b_12 hc, b_26 hc, b_40 hc, b_46 hc, b_47 hc, b_60 hc, b_62 hc, b_63 hc, b_76 hc, b_77 hc, b_90 hc, b_91 hc, b_104 hc, b_107 hc, b_114 hc, b_115 hc, b_122 hc, b_123 hc, b_131 hc, q0]; exact hno (by omega)
  · by_cases q1 : 50 < m
    · simp (disch := omega) only [x141_0, x141_1, x141_2, x141_5, x141_6, x141_8, x141_11, x141_12, x141_15, x141_16, x141_18, x141_21, x141_22, x141_23, x141_25, x141_28, x141_30, x141_32, x141_35, x141_36, x141_37, x141_38, x141_40, x141_41, x141_45, x141_46, x141_49, x141_50, x141_53, x141_54, x141_56, x141_57, x141_58, x141_61, x141_63, x141_66, x141_69, x141_72, x141_75, x141_77, ↓reduceIte, Bool.false_eq_true, Nat.reduceAdd, Nat.reduceLT, Nat.reduceLeDiff, Nat.reduceSub, Nat.reduceEqDiff, Int.reduceToNat, Int.reduceEq, Int.reduceLT, Int.reduceLE, Int.reduceAdd, Int.reduceSub, zg, zI, zJ, zR, zst, zkl, zn, zcat, zok, zraw, List.length_cons, List.length_nil, Option.toList, List.nil_append, List.cons_append, true_and, and_true, if_true, if_false, ne_eq, not_true, not_false_eq_true, and_self, true_or, or_true, false_or, or_false, false_and, and_false, b_2 hc, b_3 hc, b_9 hc, b_12 hc, b_26 hc, b_40 hc, b_46 hc, b_47 hc, b_60 hc, b_62 hc, b_63 hc, b_76 hc, b_77 hc, b_90 hc, b_91 hc, b_104 hc, b_107 hc, b_114 hc, b_115 hc, b_122 hc, b_123 hc, b_131 hc, q0, q1]; exact hno (by omega)
    · by_cases q2 : k < 0
      · simp (disch := omega) only [x141_0, x141_1, x141_2, x141_5, x141_6, x141_8, x141_11, x141_12, x141_15, x141_16, x141_18, x141_21, x141_22, x141_23, x141_25, x141_28, x141_30, x141_32, x141_35, x141_36, x141_37, x141_38, x141_40, x141_41, x141_45, x141_46, x141_49, x141_50, x141_53, x141_54, x141_56, x141_57, x141_58, x141_61, x141_63, x141_66, x141_69, x141_72, x141_75, x141_77, ↓reduceIte, Bool.false_eq_true, Nat.reduceAdd, Nat.reduceLT, Nat.reduceLeDiff, Nat.reduceSub, Nat.reduceEqDiff, Int.reduceToNat, Int.reduceEq, Int.reduceLT, Int.reduceLE, Int.reduceAdd, Int.reduceSub, zg, zI, zJ, zR, zst, zkl, zn, zcat, zok, zraw, List.length_cons, List.length_nil, Option.toList, List.nil_append, List.cons_append, true_and, and_true, if_true, if_false, ne_eq, not_true, not_false_eq_true, and_self, true_or, or_true, false_or, or_false, false_and, and_false, b_2 hc, b_3 hc, b_9 hc, b_12 hc, b_26 hc, b_40 hc, b_46 hc, b_47 hc, b_60 hc, b_62 hc, b_63 hc, b_76 hc, b_77 hc, b_90 hc, b_91 hc, b_104 hc, b_107 hc, b_114 hc, b_115 hc, b_122 hc, b_123 hc, b_131 hc, q0, q1, q2]; exact hno (by omega)
      · by_cases q3 : k ≤ 60
        · by_cases q4 : l < 0
          · simp (disch := omega) only [x141_0, x141_1, x141_2, x141_5, x141_6, x141_8, x141_11, x141_12, x141_15, x141_16, x141_18, x141_21, x141_22, x141_23, x141_25, x141_28, x141_30, x141_32, x141_35, x141_36, x141_37, x141_38, x141_40, x141_41, x141_45, x141_46, x141_49, x141_50, x141_53, x141_54, x141_56, x141_57, x141_58, x141_61, x141_63, x141_66, x141_69, x141_72, x141_75, x141_77, ↓reduceIte, Bool.false_eq_true, Nat.reduceAdd, Nat.reduceLT, Nat.reduceLeDiff, Nat.reduceSub, Nat.reduceEqDiff, Int.reduceToNat, Int.reduceEq, Int.reduceLT, Int.reduceLE, Int.reduceAdd, Int.reduceSub, zg, zI, zJ, zR, zst, zkl, zn, zcat, zok, zraw, List.length_cons, List.length_nil, Option.toList, List.nil_append, List.cons_append, true_and, and_true, if_true, if_false, ne_eq, not_true, not_false_eq_true, and_self, true_or, or_true, false_or, or_false, false_and, and_false, b_2 hc, b_3 hc, b_9 hc, b_12 hc, b_26 hc, b_40 hc, b_46 hc, b_47 hc, b_60 hc, b_62 hc, b_63 hc, b_76 hc, b_77 hc, b_90 hc, b_91 hc, b_104 hc, b_107 hc, b_114 hc, b_115 hc, b_122 hc, b_123 hc, b_131 hc, q0, q1, q2, q3, q4]; exact hno (by omega)
          · by_cases q5 : l ≤ 36
            · obtain ⟨M, rfl⟩ : ∃ M : Nat, m = (M : Int) := ⟨m.toNat, by omega⟩
              obtain ⟨N, rfl⟩ : ∃ N : Nat, k = (N : Int) := ⟨k.toNat, by omega⟩
              have key : ∀ i L μ1, i ≤ M → (L = [vr 2, vi e, vi (M : Nat), vi (N : Nat), vi l, vi (odO (sT σ) (gR (sG σ)) e (N : Nat) l i), vi (i : Nat)] ∧ Fr KF μ μ1) → Ex d 141 43 L [] θ μ1 Q := by
                refine Ex_loop (I := fun i L μ1 => L = [vr 2, vi e, vi (M : Nat), vi (N : Nat), vi l, vi (odO (sT σ) (gR (sG σ)) e (N : Nat) l i), vi (i : Nat)] ∧ Fr KF μ μ1) M ?_ ?_
                · rintro i L μ1 hi ⟨rfl, hf⟩ hk
                  have h1 := CS_fr h hf (by decide)
                  have i1 : ¬ (M : Int) ≤ (i : Int) := by omega
                  have ad := w32_cn (od_b (τ := sT σ) (ρ := gR (sG σ)) (e := e) (k := (N : Nat)) (l := l) i) (by omega)
                  have hw1 := w32_s (t := i) (by omega)
                  rw [x141_43]
                  simp only [x141_0, x141_1, x141_2, x141_5, x141_6, x141_8, x141_11, x141_12, x141_15, x141_16, x141_18, x141_21, x141_22, x141_23, x141_25, x141_28, x141_30, x141_32, x141_35, x141_36, x141_37, x141_38, x141_40, x141_41, x141_45, x141_46, x141_49, x141_50, x141_53, x141_54, x141_56, x141_57, x141_58, x141_61, x141_63, x141_66, x141_69, x141_72, x141_75, x141_77, ↓reduceIte, Bool.false_eq_true, Nat.reduceAdd, Nat.reduceLT, Nat.reduceLeDiff, Nat.reduceSub, Nat.reduceEqDiff, Int.reduceToNat, Int.reduceEq, Int.reduceLT, Int.reduceLE, Int.reduceAdd, Int.reduceSub, zg, zI, zJ, zR, zst, zkl, zn, zcat, zok, zraw, List.length_cons, List.length_nil, Option.toList, List.nil_append, List.cons_append, true_and, and_true, if_true, if_false, ne_eq, not_true, not_false_eq_true, and_self, true_or, or_true, false_or, or_false, false_and, and_false, b_2 hc, b_3 hc, b_9 hc, b_12 hc, b_26 hc, b_40 hc, b_46 hc, b_47 hc, b_60 hc, b_62 hc, b_63 hc, b_76 hc, b_77 hc, b_90 hc, b_91 hc, b_104 hc, b_107 hc, b_114 hc, b_115 hc, b_122 hc, b_123 hc, b_131 hc, b_2 hc, r_2_0 hc, r_2_1 hc, r_2_2 hc, r_2_3 hc, r_2_4 hc, r_2_5 hc, x_61 hc, n_61 hc, r_2_6 hc, r_2_7 hc, r_2_8 hc, r_2_9 hc, hd0, i1]
                  refine cGoneBehind (d := d - 1) (k := N) h1.1 h1.2.2.1.1 (by omega) rfl (by omega) ?_
                  intro μ2 hf2
                  by_cases hl : hlO (sT σ) (ylO (sT σ) (gR (sG σ)) (w32 (e + (i : Nat))) N) < l
                  · simp only [x141_0, x141_1, x141_2, x141_5, x141_6, x141_8, x141_11, x141_12, x141_15, x141_16, x141_18, x141_21, x141_22, x141_23, x141_25, x141_28, x141_30, x141_32, x141_35, x141_36, x141_37, x141_38, x141_40, x141_41, x141_45, x141_46, x141_49, x141_50, x141_53, x141_54, x141_56, x141_57, x141_58, x141_61, x141_63, x141_66, x141_69, x141_72, x141_75, x141_77, ↓reduceIte, Bool.false_eq_true, Nat.reduceAdd, Nat.reduceLT, Nat.reduceLeDiff, Nat.reduceSub, Nat.reduceEqDiff, Int.reduceToNat, Int.reduceEq, Int.reduceLT, Int.reduceLE, Int.reduceAdd, Int.reduceSub, zg, zI, zJ, zR, zst, zkl, zn, zcat, zok, zraw, List.length_cons, List.length_nil, Option.toList, List.nil_append, List.cons_append, true_and, and_true, if_true, if_false, ne_eq, not_true, not_false_eq_true, and_self, true_or, or_true, false_or, or_false, false_and, and_false, b_2 hc, b_3 hc, b_9 hc, b_12 hc, b_26 hc, b_40 hc, b_46 hc, b_47 hc, b_60 hc, b_62 hc, b_63 hc, b_76 hc, b_77 hc, b_90 hc, b_91 hc, b_104 hc, b_107 hc, b_114 hc, b_115 hc, b_122 hc, b_123 hc, b_131 hc, hl, hw1]
                    exact hk _ _ ⟨by rw [od_s0 hl], hf.trans hf2⟩
                  · simp only [x141_0, x141_1, x141_2, x141_5, x141_6, x141_8, x141_11, x141_12, x141_15, x141_16, x141_18, x141_21, x141_22, x141_23, x141_25, x141_28, x141_30, x141_32, x141_35, x141_36, x141_37, x141_38, x141_40, x141_41, x141_45, x141_46, x141_49, x141_50, x141_53, x141_54, x141_56, x141_57, x141_58, x141_61, x141_63, x141_66, x141_69, x141_72, x141_75, x141_77, ↓reduceIte, Bool.false_eq_true, Nat.reduceAdd, Nat.reduceLT, Nat.reduceLeDiff, Nat.reduceSub, Nat.reduceEqDiff, Int.reduceToNat, Int.reduceEq, Int.reduceLT, Int.reduceLE, Int.reduceAdd, Int.reduceSub, zg, zI, zJ, zR, zst, zkl, zn, zcat, zok, zraw, List.length_cons, List.length_nil, Option.toList, List.nil_append, List.cons_append, true_and, and_true, if_true, if_false, ne_eq, not_true, not_false_eq_true, and_self, true_or, or_true, false_or, or_false, false_and, and_false, b_2 hc, b_3 hc, b_9 hc, b_12 hc, b_26 hc, b_40 hc, b_46 hc, b_47 hc, b_60 hc, b_62 hc, b_63 hc, b_76 hc, b_77 hc, b_90 hc, b_91 hc, b_104 hc, b_107 hc, b_114 hc, b_115 hc, b_122 hc, b_123 hc, b_131 hc, hl, hw1, ad]
                    exact hk _ _ ⟨by rw [od_s1 hl], hf.trans hf2⟩
                · rintro L μ1 ⟨rfl, hf⟩
                  rw [x141_43]
                  simp (disch := omega) only [x141_0, x141_1, x141_2, x141_5, x141_6, x141_8, x141_11, x141_12, x141_15, x141_16, x141_18, x141_21, x141_22, x141_23, x141_25, x141_28, x141_30, x141_32, x141_35, x141_36, x141_37, x141_38, x141_40, x141_41, x141_45, x141_46, x141_49, x141_50, x141_53, x141_54, x141_56, x141_57, x141_58, x141_61, x141_63, x141_66, x141_69, x141_72, x141_75, x141_77, ↓reduceIte, Bool.false_eq_true, Nat.reduceAdd, Nat.reduceLT, Nat.reduceLeDiff, Nat.reduceSub, Nat.reduceEqDiff, Int.reduceToNat, Int.reduceEq, Int.reduceLT, Int.reduceLE, Int.reduceAdd, Int.reduceSub, zg, zI, zJ, zR, zst, zkl, zn, zcat, zok, zraw, List.length_cons, List.length_nil, Option.toList, List.nil_append, List.cons_append, true_and, and_true, if_true, if_false, ne_eq, not_true, not_false_eq_true, and_self, true_or, or_true, false_or, or_false, false_and, and_false, b_2 hc, b_3 hc, b_9 hc, b_12 hc, b_26 hc, b_40 hc, b_46 hc, b_47 hc, b_60 hc, b_62 hc, b_63 hc, b_76 hc, b_77 hc, b_90 hc, b_91 hc, b_104 hc, b_107 hc, b_114 hc, b_115 hc, b_122 hc, b_123 hc, b_131 hc, Int.le_refl]
                  have := hQ μ1 (CL_fr hf (by decide)) (CS_fr h hf (by decide))
                  unfold vOdds at this
                  rwa [if_pos (by omega), Int.toNat_natCast] at this
              simp (disch := omega) only [x141_0, x141_1, x141_2, x141_5, x141_6, x141_8, x141_11, x141_12, x141_15, x141_16, x141_18, x141_21, x141_22, x141_23, x141_25, x141_28, x141_30, x141_32, x141_35, x141_36, x141_37, x141_38, x141_40, x141_41, x141_45, x141_46, x141_49, x141_50, x141_53, x141_54, x141_56, x141_57, x141_58, x141_61, x141_63, x141_66, x141_69, x141_72, x141_75, x141_77, ↓reduceIte, Bool.false_eq_true, Nat.reduceAdd, Nat.reduceLT, Nat.reduceLeDiff, Nat.reduceSub, Nat.reduceEqDiff, Int.reduceToNat, Int.reduceEq, Int.reduceLT, Int.reduceLE, Int.reduceAdd, Int.reduceSub, zg, zI, zJ, zR, zst, zkl, zn, zcat, zok, zraw, List.length_cons, List.length_nil, Option.toList, List.nil_append, List.cons_append, true_and, and_true, if_true, if_false, ne_eq, not_true, not_false_eq_true, and_self, true_or, or_true, false_or, or_false, false_and, and_false, b_2 hc, b_3 hc, b_9 hc, b_12 hc, b_26 hc, b_40 hc, b_46 hc, b_47 hc, b_60 hc, b_62 hc, b_63 hc, b_76 hc, b_77 hc, b_90 hc, b_91 hc, b_104 hc, b_107 hc, b_114 hc, b_115 hc, b_122 hc, b_123 hc, b_131 hc, q0, q1, q2, q3, q4, q5]
              exact key 0 _ _ (by omega) ⟨rfl, Fr.refl⟩
            · simp (disch := omega) only [x141_0, x141_1, x141_2, x141_5, x141_6, x141_8, x141_11, x141_12, x141_15, x141_16, x141_18, x141_21, x141_22, x141_23, x141_25, x141_28, x141_30, x141_32, x141_35, x141_36, x141_37, x141_38, x141_40, x141_41, x141_45, x141_46, x141_49, x141_50, x141_53, x141_54, x141_56, x141_57, x141_58, x141_61, x141_63, x141_66, x141_69, x141_72, x141_75, x141_77, ↓reduceIte, Bool.false_eq_true, Nat.reduceAdd, Nat.reduceLT, Nat.reduceLeDiff, Nat.reduceSub, Nat.reduceEqDiff, Int.reduceToNat, Int.reduceEq, Int.reduceLT, Int.reduceLE, Int.reduceAdd, Int.reduceSub, zg, zI, zJ, zR, zst, zkl, zn, zcat, zok, zraw, List.length_cons, List.length_nil, Option.toList, List.nil_append, List.cons_append, true_and, and_true, if_true, if_false, ne_eq, not_true, not_false_eq_true, and_self, true_or, or_true, false_or, or_false, false_and, and_false, b_2 hc, b_3 hc, b_9 hc, b_12 hc, b_26 hc, b_40 hc, b_46 hc, b_47 hc, b_60 hc, b_62 hc, b_63 hc, b_76 hc, b_77 hc, b_90 hc, b_91 hc, b_104 hc, b_107 hc, b_114 hc, b_115 hc, b_122 hc, b_123 hc, b_131 hc, q0, q1, q2, q3, q4, q5]; exact hno (by omega)
        · simp (disch := omega) only [x141_0, x141_1, x141_2, x141_5, x141_6, x141_8, x141_11, x141_12, x141_15, x141_16, x141_18, x141_21, x141_22, x141_23, x141_25, x141_28, x141_30, x141_32, x141_35, x141_36, x141_37, x141_38, x141_40, x141_41, x141_45, x141_46, x141_49, x141_50, x141_53, x141_54, x141_56, x141_57, x141_58, x141_61, x141_63, x141_66, x141_69, x141_72, x141_75, x141_77, ↓reduceIte, Bool.false_eq_true, Nat.reduceAdd, Nat.reduceLT, Nat.reduceLeDiff, Nat.reduceSub, Nat.reduceEqDiff, Int.reduceToNat, Int.reduceEq, Int.reduceLT, Int.reduceLE, Int.reduceAdd, Int.reduceSub, zg, zI, zJ, zR, zst, zkl, zn, zcat, zok, zraw, List.length_cons, List.length_nil, Option.toList, List.nil_append, List.cons_append, true_and, and_true, if_true, if_false, ne_eq, not_true, not_false_eq_true, and_self, true_or, or_true, false_or, or_false, false_and, and_false, b_2 hc, b_3 hc, b_9 hc, b_12 hc, b_26 hc, b_40 hc, b_46 hc, b_47 hc, b_60 hc, b_62 hc, b_63 hc, b_76 hc, b_77 hc, b_90 hc, b_91 hc, b_104 hc, b_107 hc, b_114 hc, b_115 hc, b_122 hc, b_123 hc, b_131 hc, q0, q1, q2, q3]; exact hno (by omega)
theorem rOdds {d : Nat} {e m k l : Int} {x5 x6 : zV} (h : MS θ σ s μ) (hd : 11 ≤ d) (hQ : ∀ μ', ML2 μ μ' → MS θ σ s μ' → Q (some (vi (vOdds σ e m k l))) θ μ') : Ex d 276 0 [vr 138, vi e, vi m, vi k, vi l, x5, x6] [] θ μ Q := by
  have hm := h.1.1
  have hd0 : 0 < d := by omega
  have hno : ¬ (((1 ≤ m ∧ m ≤ 50) ∧ (0 ≤ k ∧ k ≤ 60)) ∧ 0 ≤ l ∧ l ≤ 36) → Q (some (vi (-1))) θ μ := fun hn => by
    have := hQ μ (fun _ _ => rfl) h
    unfold vOdds at this
    rwa [if_neg hn] at this
  by_cases q0 : 1 ≤ m ∧ m ≤ 50
  · by_cases q2 : 0 ≤ k ∧ k ≤ 60
    · by_cases q4 : 0 ≤ l ∧ l ≤ 36
      · obtain ⟨M, rfl⟩ : ∃ M : Nat, m = (M : Int) := ⟨m.toNat, by omega⟩
        obtain ⟨N, rfl⟩ : ∃ N : Nat, k = (N : Int) := ⟨k.toNat, by omega⟩
        have key : ∀ i L μ1, i ≤ M → (L = [vr 138, vi e, vi (M : Nat), vi (N : Nat), vi l, vi (odO (sT σ) (gR (sG σ)) e (N : Nat) l i), vi (i : Nat)] ∧ Fr GY μ μ1 ∧ J7 μ μ1 ∧ MR (sT σ) (gR (sG σ)) μ1) → Ex d 276 39 L [] θ μ1 Q := by
          refine Ex_loop (I := fun i L μ1 => L = [vr 138, vi e, vi (M : Nat), vi (N : Nat), vi l, vi (odO (sT σ) (gR (sG σ)) e (N : Nat) l i), vi (i : Nat)] ∧ Fr GY μ μ1 ∧ J7 μ μ1 ∧ MR (sT σ) (gR (sG σ)) μ1) M ?_ ?_
          · rintro i L μ1 hi ⟨rfl, hf, hj, hR⟩ hk
            have h1 := MS_fr2 h hf (by decide) hj.nine hR
            have i1 : ¬ (M : Int) ≤ (i : Int) := by omega
            have ad := w32_cn (od_b (τ := sT σ) (ρ := gR (sG σ)) (e := e) (k := (N : Nat)) (l := l) i) (by omega)
            have hw1 := w32_s (t := i) (by omega)
            rw [x276_39]
            simp only [x276_0, x276_1, x276_2, x276_4, x276_7, x276_10, x276_11, x276_12, x276_14, x276_17, x276_20, x276_22, x276_23, x276_25, x276_28, x276_31, x276_32, x276_33, x276_34, x276_36, x276_37, x276_41, x276_42, x276_45, x276_46, x276_47, x276_49, x276_50, x276_51, x276_54, x276_56, x276_59, x276_62, x276_65, x276_68, x276_70, ↓reduceIte, Bool.false_eq_true, Nat.reduceAdd, Nat.reduceLT, Nat.reduceLeDiff, Nat.reduceSub, Nat.reduceEqDiff, Int.reduceToNat, Int.reduceEq, Int.reduceLT, Int.reduceLE, Int.reduceAdd, Int.reduceSub, zg, zI, zJ, zR, zst, zkl, zn, zcat, zok, zraw, List.length_cons, List.length_nil, Option.toList, List.nil_append, List.cons_append, true_and, and_true, if_true, if_false, ne_eq, not_true, not_false_eq_true, and_self, true_or, or_true, false_or, or_false, false_and, and_false, b_138 hm, hd0, i1]
            refine mYears (d := d - 1) (k := N) (by omega) h1.1 h1.2.2.1.1 rfl (by omega) ?_
            intro μ2 hf2 hj2 hR2 _
            have hj3 : J7 μ μ2 := fun j a b c => by rw [hj2 j a b c, hj j a b c]
            by_cases hl : hlO (sT σ) (ylO (sT σ) (gR (sG σ)) (w32 (e + (i : Nat))) N) < l
            · simp only [x276_0, x276_1, x276_2, x276_4, x276_7, x276_10, x276_11, x276_12, x276_14, x276_17, x276_20, x276_22, x276_23, x276_25, x276_28, x276_31, x276_32, x276_33, x276_34, x276_36, x276_37, x276_41, x276_42, x276_45, x276_46, x276_47, x276_49, x276_50, x276_51, x276_54, x276_56, x276_59, x276_62, x276_65, x276_68, x276_70, ↓reduceIte, Bool.false_eq_true, Nat.reduceAdd, Nat.reduceLT, Nat.reduceLeDiff, Nat.reduceSub, Nat.reduceEqDiff, Int.reduceToNat, Int.reduceEq, Int.reduceLT, Int.reduceLE, Int.reduceAdd, Int.reduceSub, zg, zI, zJ, zR, zst, zkl, zn, zcat, zok, zraw, List.length_cons, List.length_nil, Option.toList, List.nil_append, List.cons_append, true_and, and_true, if_true, if_false, ne_eq, not_true, not_false_eq_true, and_self, true_or, or_true, false_or, or_false, false_and, and_false, hl, hw1]
              exact hk _ _ ⟨by rw [od_s0 hl], hf.trans hf2, hj3, hR2⟩
            · simp only [x276_0, x276_1, x276_2, x276_4, x276_7, x276_10, x276_11, x276_12, x276_14, x276_17, x276_20, x276_22, x276_23, x276_25, x276_28, x276_31, x276_32, x276_33, x276_34, x276_36, x276_37, x276_41, x276_42, x276_45, x276_46, x276_47, x276_49, x276_50, x276_51, x276_54, x276_56, x276_59, x276_62, x276_65, x276_68, x276_70, ↓reduceIte, Bool.false_eq_true, Nat.reduceAdd, Nat.reduceLT, Nat.reduceLeDiff, Nat.reduceSub, Nat.reduceEqDiff, Int.reduceToNat, Int.reduceEq, Int.reduceLT, Int.reduceLE, Int.reduceAdd, Int.reduceSub, zg, zI, zJ, zR, zst, zkl, zn, zcat, zok, zraw, List.length_cons, List.length_nil, Option.toList, List.nil_append, List.cons_append, true_and, and_true, if_true, if_false, ne_eq, not_true, not_false_eq_true, and_self, true_or, or_true, false_or, or_false, false_and, and_false, hl, hw1, ad]
              exact hk _ _ ⟨by rw [od_s1 hl], hf.trans hf2, hj3, hR2⟩
          · rintro L μ1 ⟨rfl, hf, hj, hR⟩
            rw [x276_39]
            simp (disch := omega) only [x276_0, x276_1, x276_2, x276_4, x276_7, x276_10, x276_11, x276_12, x276_14, x276_17, x276_20, x276_22, x276_23, x276_25, x276_28, x276_31, x276_32, x276_33, x276_34, x276_36, x276_37, x276_41, x276_42, x276_45, x276_46, x276_47, x276_49, x276_50, x276_51, x276_54, x276_56, x276_59, x276_62, x276_65, x276_68, x276_70, ↓reduceIte, Bool.false_eq_true, Nat.reduceAdd, Nat.reduceLT, Nat.reduceLeDiff, Nat.reduceSub, Nat.reduceEqDiff, Int.reduceToNat, Int.reduceEq, Int.reduceLT, Int.reduceLE, Int.reduceAdd, Int.reduceSub, zg, zI, zJ, zR, zst, zkl, zn, zcat, zok, zraw, List.length_cons, List.length_nil, Option.toList, List.nil_append, List.cons_append, true_and, and_true, if_true, if_false, ne_eq, not_true, not_false_eq_true, and_self, true_or, or_true, false_or, or_false, false_and, and_false, Int.le_refl]
            have := hQ μ1 (MLe_fr hf (by decide)) (MS_fr2 h hf (by decide) hj.nine hR)
            unfold vOdds at this
            rwa [if_pos ⟨⟨q0, q2⟩, q4⟩, Int.toNat_natCast] at this
        simp (disch := omega) only [x276_0, x276_1, x276_2, x276_4, x276_7, x276_10, x276_11, x276_12, x276_14, x276_17, x276_20, x276_22, x276_23, x276_25, x276_28, x276_31, x276_32, x276_33, x276_34, x276_36, x276_37, x276_41, x276_42, x276_45, x276_46, x276_47, x276_49, x276_50, x276_51, x276_54, x276_56, x276_59, x276_62, x276_65, x276_68, x276_70, ↓reduceIte, Bool.false_eq_true, Nat.reduceAdd, Nat.reduceLT, Nat.reduceLeDiff, Nat.reduceSub, Nat.reduceEqDiff, Int.reduceToNat, Int.reduceEq, Int.reduceLT, Int.reduceLE, Int.reduceAdd, Int.reduceSub, zg, zI, zJ, zR, zst, zkl, zn, zcat, zok, zraw, List.length_cons, List.length_nil, Option.toList, List.nil_append, List.cons_append, true_and, and_true, if_true, if_false, ne_eq, not_true, not_false_eq_true, and_self, true_or, or_true, false_or, or_false, false_and, and_false, mIn, hd0, q0, q2, q4]
        exact key 0 _ _ (by omega) ⟨rfl, Fr.refl, fun _ _ _ _ => rfl, h.2.2.1.1⟩
      · simp (disch := omega) only [x276_0, x276_1, x276_2, x276_4, x276_7, x276_10, x276_11, x276_12, x276_14, x276_17, x276_20, x276_22, x276_23, x276_25, x276_28, x276_31, x276_32, x276_33, x276_34, x276_36, x276_37, x276_41, x276_42, x276_45, x276_46, x276_47, x276_49, x276_50, x276_51, x276_54, x276_56, x276_59, x276_62, x276_65, x276_68, x276_70, ↓reduceIte, Bool.false_eq_true, Nat.reduceAdd, Nat.reduceLT, Nat.reduceLeDiff, Nat.reduceSub, Nat.reduceEqDiff, Int.reduceToNat, Int.reduceEq, Int.reduceLT, Int.reduceLE, Int.reduceAdd, Int.reduceSub, zg, zI, zJ, zR, zst, zkl, zn, zcat, zok, zraw, List.length_cons, List.length_nil, Option.toList, List.nil_append, List.cons_append, true_and, and_true, if_true, if_false, ne_eq, not_true, not_false_eq_true, and_self, true_or, or_true, false_or, or_false, false_and, and_false, mIn, hd0, q0, q2, q4]; exact hno (by omega)
    · simp (disch := omega) only [x276_0, x276_1, x276_2, x276_4, x276_7, x276_10, x276_11, x276_12, x276_14, x276_17, x276_20, x276_22, x276_23, x276_25, x276_28, x276_31, x276_32, x276_33, x276_34, x276_36, x276_37, x276_41, x276_42, x276_45, x276_46, x276_47, x276_49, x276_50, x276_51, x276_54, x276_56, x276_59, x276_62, x276_65, x276_68, x276_70, ↓reduceIte, Bool.false_eq_true, Nat.reduceAdd, Nat.reduceLT, Nat.reduceLeDiff, Nat.reduceSub, Nat.reduceEqDiff, Int.reduceToNat, Int.reduceEq, Int.reduceLT, Int.reduceLE, Int.reduceAdd, Int.reduceSub, zg, zI, zJ, zR, zst, zkl, zn, zcat, zok, zraw, List.length_cons, List.length_nil, Option.toList, List.nil_append, List.cons_append, true_and, and_true, if_true, if_false, ne_eq, not_true, not_false_eq_true, and_self, true_or, or_true, false_or, or_false, false_and, and_false, mIn, hd0, q0, q2]; exact hno (by omega)
  · simp (disch := omega) only [x276_0, x276_1, x276_2, x276_4, x276_7, x276_10, x276_11, x276_12, x276_14, x276_17, x276_20, x276_22, x276_23, x276_25, x276_28, x276_31, x276_32, x276_33, x276_34, x276_36, x276_37, x276_41, x276_42, x276_45, x276_46, x276_47, x276_49, x276_50, x276_51, x276_54, x276_56, x276_59, x276_62, x276_65, x276_68, x276_70, ↓reduceIte, Bool.false_eq_true, Nat.reduceAdd, Nat.reduceLT, Nat.reduceLeDiff, Nat.reduceSub, Nat.reduceEqDiff, Int.reduceToNat, Int.reduceEq, Int.reduceLT, Int.reduceLE, Int.reduceAdd, Int.reduceSub, zg, zI, zJ, zR, zst, zkl, zn, zcat, zok, zraw, List.length_cons, List.length_nil, Option.toList, List.nil_append, List.cons_append, true_and, and_true, if_true, if_false, ne_eq, not_true, not_false_eq_true, and_self, true_or, or_true, false_or, or_false, false_and, and_false, mIn, hd0, q0]; exact hno (by omega)
/-- ever -/
theorem all_s {P : Nat → Prop} {i : Nat} (h : ∀ j, j < i → P j) (hi : P i) : ∀ j, j < i + 1 → P j := fun j hj => by
  by_cases hji : j < i
  · exact h j hji
  · have : j = i := by omega
    subst this; exact hi
def evO (τ : zT) (ρ : zF) (k : Nat) (w g : Int) : Bool := decide (1 ≤ faO τ ρ g w - faO τ (heF ρ k) g w)
theorem ev_f {τ : zT} {ρ : zF} {k : Nat} {w g : Int} (h : faO τ ρ g w - faO τ (heF ρ k) g w < 1) : evO τ ρ k w g = false := decide_eq_false (Int.not_le.mpr h)
theorem ev_t {τ : zT} {ρ : zF} {k : Nat} {w g : Int} (h : ¬ faO τ ρ g w - faO τ (heF ρ k) g w < 1) : evO τ ρ k w g = true := decide_eq_true (Int.not_lt.mp h)
def vEver (σ : zSt) (k w : Int) : Int := if (0 ≤ k ∧ k < (tD (sT σ) : Int)) ∧ (0 ≤ w ∧ w ≤ 3) then fsG (evO (sT σ) (gR (sG σ)) k.toNat w) else -1
theorem kEver {d : Nat} {k w : Int} {x3 : zV} (h : CS θ T U σ μ) (hd : 7 ≤ d) (hQ : ∀ μ', CL μ μ' → CS θ T U σ μ' → Q (some (vi (vEver σ k w))) θ μ') : Ex d 131 0 [vr 2, vi k, vi w, x3] [] θ μ Q := by
  have hc := h.1.1.1
  have hd0 : 0 < d := by omega
  have hno : ¬ ((0 ≤ k ∧ k < (tD (sT σ) : Int)) ∧ (0 ≤ w ∧ w ≤ 3)) → Q (some (vi (-1))) θ μ := fun hn => by
    have := hQ μ (fun _ _ => rfl) h
    unfold vEver at this
    rwa [if_neg hn] at this
  by_cases q0 : 0 ≤ k ∧ k < (tD (sT σ) : Int)
  · by_cases q1 : 0 ≤ w ∧ w ≤ 3
    · obtain ⟨N, rfl⟩ : ∃ N : Nat, k = (N : Int) := ⟨k.toNat, by omega⟩
      have hP : ∀ μ', CL μ μ' → CS θ T U σ μ' → Q (some (vi (fsG (evO (sT σ) (gR (sG σ)) N w)))) θ μ' := fun μ' a b => by
        have := hQ μ' a b
        unfold vEver at this
        rwa [if_pos ⟨q0, q1⟩, Int.toNat_natCast] at this
      have key : ∀ i L μ1, i ≤ 100 → (L = [vr 2, vi (N : Nat), vi w, vi (i : Nat)] ∧ Fr KT μ μ1 ∧ ∀ j, j < i → evO (sT σ) (gR (sG σ)) N w (j : Nat) = false) → Ex d 131 19 L [] θ μ1 Q := by
        refine Ex_loop (I := fun i L μ1 => L = [vr 2, vi (N : Nat), vi w, vi (i : Nat)] ∧ Fr KT μ μ1 ∧ ∀ j, j < i → evO (sT σ) (gR (sG σ)) N w (j : Nat) = false) 100 ?_ ?_
        · rintro i L μ1 hi ⟨rfl, hf, hj⟩ hk
          have h1 := CS_fr h hf (by decide)
          have i1 : ¬ (100 : Int) ≤ (i : Int) := by omega
          have hw1 := w32_s (t := i) (by omega)
          rw [x131_19]
          simp only [x131_0, x131_1, x131_2, x131_5, x131_8, x131_9, x131_12, x131_15, x131_16, x131_17, x131_18, x131_20, x131_22, x131_25, x131_26, x131_29, x131_30, x131_31, x131_32, x131_35, x131_36, x131_39, x131_40, x131_41, x131_44, x131_47, x131_49, ↓reduceIte, Bool.false_eq_true, Nat.reduceAdd, Nat.reduceLT, Nat.reduceLeDiff, Nat.reduceSub, Nat.reduceEqDiff, Int.reduceToNat, Int.reduceEq, Int.reduceLT, Int.reduceLE, Int.reduceAdd, Int.reduceSub, zg, zI, zJ, zR, zst, zkl, zn, zcat, zok, zraw, List.length_cons, List.length_nil, Option.toList, List.nil_append, List.cons_append, true_and, and_true, if_true, if_false, ne_eq, not_true, not_false_eq_true, and_self, true_or, or_true, false_or, or_false, false_and, and_false, b_2 hc, b_3 hc, b_9 hc, b_12 hc, b_26 hc, b_40 hc, b_46 hc, b_47 hc, b_60 hc, b_62 hc, b_63 hc, b_76 hc, b_77 hc, b_90 hc, b_91 hc, b_104 hc, b_107 hc, b_114 hc, b_115 hc, b_122 hc, b_123 hc, b_131 hc, b_2 hc, r_2_0 hc, r_2_1 hc, r_2_2 hc, r_2_3 hc, r_2_4 hc, r_2_5 hc, x_61 hc, n_61 hc, r_2_6 hc, r_2_7 hc, r_2_8 hc, r_2_9 hc, hd0, i1]
          refine cHelp (d := d - 1) (ρ := gR (sG σ)) (k := N) h1.1 h1.2.2.1.1 h1.2.2.1.2.1 (by omega) rfl (by omega) (by omega) q1 ?_
          intro μ2 hf2
          by_cases hl : faO (sT σ) (gR (sG σ)) (i : Nat) w - faO (sT σ) (heF (gR (sG σ)) N) (i : Nat) w < 1
          · simp only [x131_0, x131_1, x131_2, x131_5, x131_8, x131_9, x131_12, x131_15, x131_16, x131_17, x131_18, x131_20, x131_22, x131_25, x131_26, x131_29, x131_30, x131_31, x131_32, x131_35, x131_36, x131_39, x131_40, x131_41, x131_44, x131_47, x131_49, ↓reduceIte, Bool.false_eq_true, Nat.reduceAdd, Nat.reduceLT, Nat.reduceLeDiff, Nat.reduceSub, Nat.reduceEqDiff, Int.reduceToNat, Int.reduceEq, Int.reduceLT, Int.reduceLE, Int.reduceAdd, Int.reduceSub, zg, zI, zJ, zR, zst, zkl, zn, zcat, zok, zraw, List.length_cons, List.length_nil, Option.toList, List.nil_append, List.cons_append, true_and, and_true, if_true, if_false, ne_eq, not_true, not_false_eq_true, and_self, true_or, or_true, false_or, or_false, false_and, and_false, b_2 hc, b_3 hc, b_9 hc, b_12 hc, b_26 hc, b_40 hc, b_46 hc, b_47 hc, b_60 hc, b_62 hc, b_63 hc, b_76 hc, b_77 hc, b_90 hc, b_91 hc, b_104 hc, b_107 hc, b_114 hc, b_115 hc, b_122 hc, b_123 hc, b_131 hc, hl, hw1]
            exact hk _ _ ⟨rfl, hf.trans hf2, all_s hj (ev_f hl)⟩
          · simp only [x131_0, x131_1, x131_2, x131_5, x131_8, x131_9, x131_12, x131_15, x131_16, x131_17, x131_18, x131_20, x131_22, x131_25, x131_26, x131_29, x131_30, x131_31, x131_32, x131_35, x131_36, x131_39, x131_40, x131_41, x131_44, x131_47, x131_49, ↓reduceIte, Bool.false_eq_true, Nat.reduceAdd, Nat.reduceLT, Nat.reduceLeDiff, Nat.reduceSub, Nat.reduceEqDiff, Int.reduceToNat, Int.reduceEq, Int.reduceLT, Int.reduceLE, Int.reduceAdd, Int.reduceSub, zg, zI, zJ, zR, zst, zkl, zn, zcat, zok, zraw, List.length_cons, List.length_nil, Option.toList, List.nil_append, List.cons_append, true_and, and_true, if_true, if_false, ne_eq, not_true, not_false_eq_true, and_self, true_or, or_true, false_or, or_false, false_and, and_false, b_2 hc, b_3 hc, b_9 hc, b_12 hc, b_26 hc, b_40 hc, b_46 hc, b_47 hc, b_60 hc, b_62 hc, b_63 hc, b_76 hc, b_77 hc, b_90 hc, b_91 hc, b_104 hc, b_107 hc, b_114 hc, b_115 hc, b_122 hc, b_123 hc, b_131 hc, hl]
            have := hP μ2 (CL_fr (hf.trans hf2) (by decide)) (CS_fr h (hf.trans hf2) (by decide))
            rwa [fsG_at (P := evO (sT σ) (gR (sG σ)) N w) hi hj (ev_t hl)] at this
        · rintro L μ1 ⟨rfl, hf, hj⟩
          rw [x131_19]
          simp (disch := omega) only [x131_0, x131_1, x131_2, x131_5, x131_8, x131_9, x131_12, x131_15, x131_16, x131_17, x131_18, x131_20, x131_22, x131_25, x131_26, x131_29, x131_30, x131_31, x131_32, x131_35, x131_36, x131_39, x131_40, x131_41, x131_44, x131_47, x131_49, ↓reduceIte, Bool.false_eq_true, Nat.reduceAdd, Nat.reduceLT, Nat.reduceLeDiff, Nat.reduceSub, Nat.reduceEqDiff, Int.reduceToNat, Int.reduceEq, Int.reduceLT, Int.reduceLE, Int.reduceAdd, Int.reduceSub, zg, zI, zJ, zR, zst, zkl, zn, zcat, zok, zraw, List.length_cons, List.length_nil, Option.toList, List.nil_append, List.cons_append, true_and, and_true, if_true, if_false, ne_eq, not_true, not_false_eq_true, and_self, true_or, or_true, false_or, or_false, false_and, and_false, b_2 hc, b_3 hc, b_9 hc, b_12 hc, b_26 hc, b_40 hc, b_46 hc, b_47 hc, b_60 hc, b_62 hc, b_63 hc, b_76 hc, b_77 hc, b_90 hc, b_91 hc, b_104 hc, b_107 hc, b_114 hc, b_115 hc, b_122 hc, b_123 hc, b_131 hc, Int.le_refl]
          have := hP μ1 (CL_fr hf (by decide)) (CS_fr h hf (by decide))
          rwa [fsG_no (P := evO (sT σ) (gR (sG σ)) N w) hj] at this
      simp (disch := omega) only [x131_0, x131_1, x131_2, x131_5, x131_8, x131_9, x131_12, x131_15, x131_16, x131_17, x131_18, x131_20, x131_22, x131_25, x131_26, x131_29, x131_30, x131_31, x131_32, x131_35, x131_36, x131_39, x131_40, x131_41, x131_44, x131_47, x131_49, ↓reduceIte, Bool.false_eq_true, Nat.reduceAdd, Nat.reduceLT, Nat.reduceLeDiff, Nat.reduceSub, Nat.reduceEqDiff, Int.reduceToNat, Int.reduceEq, Int.reduceLT, Int.reduceLE, Int.reduceAdd, Int.reduceSub, zg, zI, zJ, zR, zst, zkl, zn, zcat, zok, zraw, List.length_cons, List.length_nil, Option.toList, List.nil_append, List.cons_append, true_and, and_true, if_true, if_false, ne_eq, not_true, not_false_eq_true, and_self, true_or, or_true, false_or, or_false, false_and, and_false, b_2 hc, b_3 hc, b_9 hc, b_12 hc, b_26 hc, b_40 hc, b_46 hc, b_47 hc, b_60 hc, b_62 hc, b_63 hc, b_76 hc, b_77 hc, b_90 hc, b_91 hc, b_104 hc, b_107 hc, b_114 hc, b_115 hc, b_122 hc, b_123 hc, b_131 hc, hd0, cIsDoor _ h.1, cIsWay, q0, q1]
      exact key 0 _ _ (by omega) ⟨rfl, Fr.refl, fun j hj => by omega⟩
    · simp (disch := omega) only [x131_0, x131_1, x131_2, x131_5, x131_8, x131_9, x131_12, x131_15, x131_16, x131_17, x131_18, x131_20, x131_22, x131_25, x131_26, x131_29, x131_30, x131_31, x131_32, x131_35, x131_36, x131_39, x131_40, x131_41, x131_44, x131_47, x131_49, ↓reduceIte, Bool.false_eq_true, Nat.reduceAdd, Nat.reduceLT, Nat.reduceLeDiff, Nat.reduceSub, Nat.reduceEqDiff, Int.reduceToNat, Int.reduceEq, Int.reduceLT, Int.reduceLE, Int.reduceAdd, Int.reduceSub, zg, zI, zJ, zR, zst, zkl, zn, zcat, zok, zraw, List.length_cons, List.length_nil, Option.toList, List.nil_append, List.cons_append, true_and, and_true, if_true, if_false, ne_eq, not_true, not_false_eq_true, and_self, true_or, or_true, false_or, or_false, false_and, and_false, b_2 hc, b_3 hc, b_9 hc, b_12 hc, b_26 hc, b_40 hc, b_46 hc, b_47 hc, b_60 hc, b_62 hc, b_63 hc, b_76 hc, b_77 hc, b_90 hc, b_91 hc, b_104 hc, b_107 hc, b_114 hc, b_115 hc, b_122 hc, b_123 hc, b_131 hc, hd0, cIsDoor _ h.1, cIsWay, q0, q1]
      exact hno (by omega)
  · simp (disch := omega) only [x131_0, x131_1, x131_2, x131_5, x131_8, x131_9, x131_12, x131_15, x131_16, x131_17, x131_18, x131_20, x131_22, x131_25, x131_26, x131_29, x131_30, x131_31, x131_32, x131_35, x131_36, x131_39, x131_40, x131_41, x131_44, x131_47, x131_49, ↓reduceIte, Bool.false_eq_true, Nat.reduceAdd, Nat.reduceLT, Nat.reduceLeDiff, Nat.reduceSub, Nat.reduceEqDiff, Int.reduceToNat, Int.reduceEq, Int.reduceLT, Int.reduceLE, Int.reduceAdd, Int.reduceSub, zg, zI, zJ, zR, zst, zkl, zn, zcat, zok, zraw, List.length_cons, List.length_nil, Option.toList, List.nil_append, List.cons_append, true_and, and_true, if_true, if_false, ne_eq, not_true, not_false_eq_true, and_self, true_or, or_true, false_or, or_false, false_and, and_false, b_2 hc, b_3 hc, b_9 hc, b_12 hc, b_26 hc, b_40 hc, b_46 hc, b_47 hc, b_60 hc, b_62 hc, b_63 hc, b_76 hc, b_77 hc, b_90 hc, b_91 hc, b_104 hc, b_107 hc, b_114 hc, b_115 hc, b_122 hc, b_123 hc, b_131 hc, hd0, cIsDoor _ h.1, cIsWay, q0]
    exact hno (by omega)
theorem MR_177 {μ' : zM} {A : List Nat} (h : MR (sT σ) (gR (sG σ)) μ) (hf : Fr A μ μ') (hA : ∀ a ∈ A, ¬ (172 ≤ a ∧ a ≤ 176)) (h57 : μ' 138 57 = μ 138 57) (h177 : ∀ j, μ' 177 j = μ 177 j) : MR (sT σ) (gR (sG σ)) μ' := by
  obtain ⟨⟨r1, r2, r3, r4⟩, r5⟩ := h
  have e : ∀ a, 172 ≤ a → a ≤ 176 → μ' a = μ a := fun a h1 h2 => hf a (fun hm => hA a hm ⟨h1, h2⟩)
  refine ⟨⟨r1, ?_, fun k hk => by rw [h177 k]; exact r3 k hk, by rw [h57]; exact r4⟩, ?_⟩
  · rw [e 173 (by omega) (by omega), e 174 (by omega) (by omega), e 175 (by omega) (by omega), e 176 (by omega) (by omega)]; exact r2
  · rw [e 172 (by omega) (by omega)]; exact r5
theorem rEver {d : Nat} {k w : Int} {x3 : zV} (h : MS θ σ s μ) (hd : 11 ≤ d) (hQ : ∀ μ', ML2 μ μ' → MS θ σ s μ' → Q (some (vi (vEver σ k w))) θ μ') : Ex d 255 0 [vr 138, vi k, vi w, x3] [] θ μ Q := by
  have hm := h.1.1
  have hd0 : 0 < d := by omega
  have hno : ¬ ((0 ≤ k ∧ k < (tD (sT σ) : Int)) ∧ (0 ≤ w ∧ w ≤ 3)) → Q (some (vi (-1))) θ μ := fun hn => by
    have := hQ μ (fun _ _ => rfl) h
    unfold vEver at this
    rwa [if_neg hn] at this
  by_cases q0 : 0 ≤ k ∧ k < (tD (sT σ) : Int)
  · by_cases q1 : 0 ≤ w ∧ w ≤ 3
    · obtain ⟨N, rfl⟩ : ∃ N : Nat, k = (N : Int) := ⟨k.toNat, by omega⟩
      have hP : ∀ μ', ML2 μ μ' → MS θ σ s μ' → Q (some (vi (fsG (evO (sT σ) (gR (sG σ)) N w)))) θ μ' := fun μ' a b => by
        have := hQ μ' a b
        unfold vEver at this
        rwa [if_pos ⟨q0, q1⟩, Int.toNat_natCast] at this
      have key : ∀ i L μ1, i ≤ 100 → (L = [vr 138, vi (N : Nat), vi w, vi (i : Nat)] ∧ Fr (GF ++ [177]) μ μ1 ∧ J5 μ μ1 ∧ MR (sT σ) (gR (sG σ)) μ1 ∧ ∀ j, j < i → evO (sT σ) (gR (sG σ)) N w (j : Nat) = false) → Ex d 255 21 L [] θ μ1 Q := by
        refine Ex_loop (I := fun i L μ1 => L = [vr 138, vi (N : Nat), vi w, vi (i : Nat)] ∧ Fr (GF ++ [177]) μ μ1 ∧ J5 μ μ1 ∧ MR (sT σ) (gR (sG σ)) μ1 ∧ ∀ j, j < i → evO (sT σ) (gR (sG σ)) N w (j : Nat) = false) 100 ?_ ?_
        · rintro i L μ1 hi ⟨rfl, hf, hj5, hR, hj⟩ hk
          have h1 := MS_fr2 h hf (by decide) hj5.nine hR
          have i1 : ¬ (100 : Int) ≤ (i : Int) := by omega
          have hw1 := w32_s (t := i) (by omega)
          rw [x255_21]
          simp only [x255_0, x255_1, x255_2, x255_5, x255_8, x255_9, x255_10, x255_11, x255_14, x255_17, x255_18, x255_19, x255_20, x255_22, x255_24, x255_27, x255_28, x255_29, x255_30, x255_31, x255_34, x255_35, x255_38, x255_39, x255_40, x255_43, x255_46, x255_48, ↓reduceIte, Bool.false_eq_true, Nat.reduceAdd, Nat.reduceLT, Nat.reduceLeDiff, Nat.reduceSub, Nat.reduceEqDiff, Int.reduceToNat, Int.reduceEq, Int.reduceLT, Int.reduceLE, Int.reduceAdd, Int.reduceSub, zg, zI, zJ, zR, zst, zkl, zn, zcat, zok, zraw, List.length_cons, List.length_nil, Option.toList, List.nil_append, List.cons_append, true_and, and_true, if_true, if_false, ne_eq, not_true, not_false_eq_true, and_self, true_or, or_true, false_or, or_false, false_and, and_false, b_138 hm, hd0, i1]
          refine mHelps (d := d - 1) (k := N) (by omega) h1.1 h1.2.2.1.1 rfl (by omega) (by omega) q1 ?_
          intro μ2 hf2 hj2 h177
          have hj3 : J5 μ μ2 := fun j a b => by rw [hj2 j a b, hj5 j a b]
          have hR2 := MR_177 hR hf2 (by decide) (hj2 57 (by decide) (by decide)) h177
          by_cases hl : faO (sT σ) (gR (sG σ)) (i : Nat) w - faO (sT σ) (heF (gR (sG σ)) N) (i : Nat) w < 1
          · simp only [x255_0, x255_1, x255_2, x255_5, x255_8, x255_9, x255_10, x255_11, x255_14, x255_17, x255_18, x255_19, x255_20, x255_22, x255_24, x255_27, x255_28, x255_29, x255_30, x255_31, x255_34, x255_35, x255_38, x255_39, x255_40, x255_43, x255_46, x255_48, ↓reduceIte, Bool.false_eq_true, Nat.reduceAdd, Nat.reduceLT, Nat.reduceLeDiff, Nat.reduceSub, Nat.reduceEqDiff, Int.reduceToNat, Int.reduceEq, Int.reduceLT, Int.reduceLE, Int.reduceAdd, Int.reduceSub, zg, zI, zJ, zR, zst, zkl, zn, zcat, zok, zraw, List.length_cons, List.length_nil, Option.toList, List.nil_append, List.cons_append, true_and, and_true, if_true, if_false, ne_eq, not_true, not_false_eq_true, and_self, true_or, or_true, false_or, or_false, false_and, and_false, hl, hw1]
            exact hk _ _ ⟨rfl, hf.trans hf2, hj3, hR2, all_s hj (ev_f hl)⟩
          · simp only [x255_0, x255_1, x255_2, x255_5, x255_8, x255_9, x255_10, x255_11, x255_14, x255_17, x255_18, x255_19, x255_20, x255_22, x255_24, x255_27, x255_28, x255_29, x255_30, x255_31, x255_34, x255_35, x255_38, x255_39, x255_40, x255_43, x255_46, x255_48, ↓reduceIte, Bool.false_eq_true, Nat.reduceAdd, Nat.reduceLT, Nat.reduceLeDiff, Nat.reduceSub, Nat.reduceEqDiff, Int.reduceToNat, Int.reduceEq, Int.reduceLT, Int.reduceLE, Int.reduceAdd, Int.reduceSub, zg, zI, zJ, zR, zst, zkl, zn, zcat, zok, zraw, List.length_cons, List.length_nil, Option.toList, List.nil_append, List.cons_append, true_and, and_true, if_true, if_false, ne_eq, not_true, not_false_eq_true, and_self, true_or, or_true, false_or, or_false, false_and, and_false, hl]
            have := hP μ2 (MLe_fr (hf.trans hf2) (by decide)) (MS_fr2 h (hf.trans hf2) (by decide) hj3.nine hR2)
            rwa [fsG_at (P := evO (sT σ) (gR (sG σ)) N w) hi hj (ev_t hl)] at this
        · rintro L μ1 ⟨rfl, hf, hj5, hR, hj⟩
          rw [x255_21]
          simp (disch := omega) only [x255_0, x255_1, x255_2, x255_5, x255_8, x255_9, x255_10, x255_11, x255_14, x255_17, x255_18, x255_19, x255_20, x255_22, x255_24, x255_27, x255_28, x255_29, x255_30, x255_31, x255_34, x255_35, x255_38, x255_39, x255_40, x255_43, x255_46, x255_48, ↓reduceIte, Bool.false_eq_true, Nat.reduceAdd, Nat.reduceLT, Nat.reduceLeDiff, Nat.reduceSub, Nat.reduceEqDiff, Int.reduceToNat, Int.reduceEq, Int.reduceLT, Int.reduceLE, Int.reduceAdd, Int.reduceSub, zg, zI, zJ, zR, zst, zkl, zn, zcat, zok, zraw, List.length_cons, List.length_nil, Option.toList, List.nil_append, List.cons_append, true_and, and_true, if_true, if_false, ne_eq, not_true, not_false_eq_true, and_self, true_or, or_true, false_or, or_false, false_and, and_false, Int.le_refl]
          have := hP μ1 (MLe_fr hf (by decide)) (MS_fr2 h hf (by decide) hj5.nine hR)
          rwa [fsG_no (P := evO (sT σ) (gR (sG σ)) N w) hj] at this
      simp (disch := omega) only [x255_0, x255_1, x255_2, x255_5, x255_8, x255_9, x255_10, x255_11, x255_14, x255_17, x255_18, x255_19, x255_20, x255_22, x255_24, x255_27, x255_28, x255_29, x255_30, x255_31, x255_34, x255_35, x255_38, x255_39, x255_40, x255_43, x255_46, x255_48, ↓reduceIte, Bool.false_eq_true, Nat.reduceAdd, Nat.reduceLT, Nat.reduceLeDiff, Nat.reduceSub, Nat.reduceEqDiff, Int.reduceToNat, Int.reduceEq, Int.reduceLT, Int.reduceLE, Int.reduceAdd, Int.reduceSub, zg, zI, zJ, zR, zst, zkl, zn, zcat, zok, zraw, List.length_cons, List.length_nil, Option.toList, List.nil_append, List.cons_append, true_and, and_true, if_true, if_false, ne_eq, not_true, not_false_eq_true, and_self, true_or, or_true, false_or, or_false, false_and, and_false, b_138 hm, hd0, mIsDoor (d := d - 1) h.1 (by omega), mIn, q0, q1]
      exact key 0 _ _ (by omega) ⟨rfl, Fr.refl, fun _ _ _ => rfl, h.2.2.1.1, fun j hj => by omega⟩
    · simp (disch := omega) only [x255_0, x255_1, x255_2, x255_5, x255_8, x255_9, x255_10, x255_11, x255_14, x255_17, x255_18, x255_19, x255_20, x255_22, x255_24, x255_27, x255_28, x255_29, x255_30, x255_31, x255_34, x255_35, x255_38, x255_39, x255_40, x255_43, x255_46, x255_48, ↓reduceIte, Bool.false_eq_true, Nat.reduceAdd, Nat.reduceLT, Nat.reduceLeDiff, Nat.reduceSub, Nat.reduceEqDiff, Int.reduceToNat, Int.reduceEq, Int.reduceLT, Int.reduceLE, Int.reduceAdd, Int.reduceSub, zg, zI, zJ, zR, zst, zkl, zn, zcat, zok, zraw, List.length_cons, List.length_nil, Option.toList, List.nil_append, List.cons_append, true_and, and_true, if_true, if_false, ne_eq, not_true, not_false_eq_true, and_self, true_or, or_true, false_or, or_false, false_and, and_false, b_138 hm, hd0, mIsDoor (d := d - 1) h.1 (by omega), mIn, q0, q1]
      exact hno (by omega)
  · simp (disch := omega) only [x255_0, x255_1, x255_2, x255_5, x255_8, x255_9, x255_10, x255_11, x255_14, x255_17, x255_18, x255_19, x255_20, x255_22, x255_24, x255_27, x255_28, x255_29, x255_30, x255_31, x255_34, x255_35, x255_38, x255_39, x255_40, x255_43, x255_46, x255_48, ↓reduceIte, Bool.false_eq_true, Nat.reduceAdd, Nat.reduceLT, Nat.reduceLeDiff, Nat.reduceSub, Nat.reduceEqDiff, Int.reduceToNat, Int.reduceEq, Int.reduceLT, Int.reduceLE, Int.reduceAdd, Int.reduceSub, zg, zI, zJ, zR, zst, zkl, zn, zcat, zok, zraw, List.length_cons, List.length_nil, Option.toList, List.nil_append, List.cons_append, true_and, and_true, if_true, if_false, ne_eq, not_true, not_false_eq_true, and_self, true_or, or_true, false_or, or_false, false_and, and_false, b_138 hm, hd0, mIsDoor (d := d - 1) h.1 (by omega), mIn, q0]
    exact hno (by omega)
end CD
