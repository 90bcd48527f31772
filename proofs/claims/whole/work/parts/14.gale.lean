/-! THE GALE: holes, draught, hold -/
section GL
variable {θ : zS} {T U : Nat} {τ : zT} {Q : Option zV → zS → zM → Prop} {μ : zM}
theorem cLeave {d k : Nat} {x : Int} {v w : zV} {lost : Nat → Int} (h : Th θ T U) (hw : wfT τ) (hC : TCn τ T μ) (hx : x = (k : Int)) (hk : k < tn τ) (hz : lz lost) (h0 : lost k = 0) (hG : GB τ lost μ)
    (hQ : ∀ μ', Fr [40, 44, 45] μ μ' → (∀ j, j ≠ 12 → μ' 40 j = μ 40 j) → GB τ (zup lost k 1) μ' → Q none θ μ') : Ex d 14 0 [vr 40, vi x, v, w] [] θ μ Q := by
  subst hx
  obtain ⟨hc, hT, hU, hTU, h2T, h2U, hgT⟩ := h
  have n2 := tc_b hw
  have n3 := tn_b hw
  have e1 : μ (T + 1) 1 = (tc τ : Int) := by rw [hC.1 1 (by decide), n2.2.2]
  have e2 : μ (T + 12) k = (clO τ k : Nat) := (hC.2.2.2.2 k hk).2.1
  have e3 : μ T 13 = (tn τ : Nat) := hC.2.1
  have hb := hl_b hw hz
  have b0 : ∀ t, t < tn τ → 0 ≤ μ 45 t ∧ μ 45 t ≤ 4 := fun t ht => by rw [hG.2.1 t ht]; exact bar_b hz t
  have c1 := cl_s hw k
  have c3 := rw_b hw hk
  have hcm : clO τ k ≤ k := Nat.mod_le _ _
  have key : ∀ f : Nat → Int, (∀ t, t < tn τ → f t = μ 45 t + (if t + tc τ = k then 1 else 0) + (if t = k + tc τ then 1 else 0) + (if t + 1 = k ∧ 0 < clO τ k then 1 else 0) + (if t = k + 1 ∧ clO τ k + 1 < tc τ then 1 else 0)) →
      Q none θ (us (us (us μ 44 (zup (μ 44) k 1)) 40 (zup (μ 40) 12 (w32 (μ 40 12 + 1)))) 45 f) := by
    intro f hf
    apply hQ
    · exact Fr.us (by decide) (Fr.us (by decide) (Fr.us (by decide) Fr.refl))
    · intro j hj
      rw [us_ne (by decide), us_same, zup_ne hj]
    · refine ⟨?_, ?_, ?_⟩
      · intro t ht
        rw [us_ne (by decide), us_ne (by decide), us_same]
        by_cases hc2 : t = k
        · rw [zup_same hc2, zup_same hc2]
        · rw [zup_ne hc2, zup_ne hc2, hG.1 t ht]
      · intro t ht
        rw [us_same, hf t ht, bar_upd hw hk h0 ht, hG.2.1 t ht]
      · rw [us_ne (by decide), us_same, zup_same rfl, hG.2.2]
        unfold hlO
        rw [sm_upd, if_pos hk, h0]
        have : hlO τ lost = sm lost (tn τ) := rfl
        unfold w32; omega
  have hh : clO τ k < tc τ := c3.2.1
  have n4 : 2 * tc τ ≤ tn τ := Nat.mul_le_mul_right _ (tr_b hw).1
  have n5 : rwO τ k * tc τ + tc τ ≤ tn τ := by
    have := Nat.mul_le_mul_right (tc τ) (show rwO τ k + 1 ≤ tr τ from c3.1)
    rw [Nat.add_mul, Nat.one_mul] at this
    exact this
  have d1 := b0 (k - tc τ) (by omega)
  have d2 := b0 (k + tc τ)
  have d3 := b0 (k - 1) (by omega)
  have d4 := b0 (k + 1)
  by_cases k1 : tc τ ≤ k <;> by_cases k2 : k + tc τ < tn τ <;> by_cases k3 : 0 < clO τ k <;> by_cases k4 : clO τ k + 1 < tc τ
  all_goals
    have q1 : ((k : Int) < (tc τ : Int)) = ¬ (tc τ ≤ k) := propext (by omega)
    have q2 : ((tn τ : Int) ≤ ((k + tc τ : Nat) : Int)) = ¬ (k + tc τ < tn τ) := propext (by omega)
    have q3 : ((clO τ k : Int) ≤ 0) = ¬ (0 < clO τ k) := propext (by omega)
    have q4 : ((tc τ : Int) ≤ ((clO τ k + 1 : Nat) : Int)) = ¬ (clO τ k + 1 < tc τ) := propext (by omega)
    first
    | (exfalso; omega)
    | (simp (disch := omega) only [x14_0, x14_1, x14_4, x14_7, x14_8, x14_9, x14_10, x14_11, x14_14, x14_17, x14_18, x14_19, x14_20, x14_21, x14_24, x14_25, x14_26, x14_27, x14_28, x14_29, x14_32, x14_33, x14_34, x14_37, x14_38, x14_39, x14_42, x14_43, x14_46, x14_47, x14_48, x14_49, x14_50, x14_51, x14_52, x14_53, x14_54, x14_55, x14_56, x14_57, x14_58, x14_61, x14_64, x14_67, x14_68, x14_71, x14_72, x14_73, x14_74, x14_75, x14_76, x14_77, x14_78, x14_79, x14_80, x14_83, x14_84, x14_87, x14_88, x14_89, x14_90, x14_91, x14_92, x14_93, x14_94, x14_95, x14_96, x14_97, x14_98, x14_99, x14_102, x14_103, x14_106, x14_107, x14_108, x14_109, x14_110, x14_111, x14_112, x14_113, x14_114, ↓reduceIte, Bool.false_eq_true, Nat.reduceAdd, Nat.reduceLT, Nat.reduceLeDiff, Nat.reduceSub, Nat.reduceEqDiff, Int.reduceToNat, Int.reduceEq, Int.reduceLT, Int.reduceLE, Int.reduceAdd, Int.reduceSub, zg, zI, zJ, zR, zst, zkl, zn, zcat, zok, zraw, List.length_cons, List.length_nil, Option.toList, List.nil_append, List.cons_append, true_and, and_true, if_true, if_false, ne_eq, not_true, not_false_eq_true, and_self, true_or, or_true, false_or, or_false, false_and, and_false, b_40 hc, r_40_0 hc, x_41 hc, r_40_1 hc, x_42 hc, r_40_2 hc, x_43 hc, r_40_9 hc, r_40_10 hc, x_44 hc, r_40_11 hc, x_45 hc, tb hT, Tq1 hT, Tq2 hT, tr_0 hT, tr_1 hT, tr_2 hT, tr_3 hT, tr_4 hT, tr_5 hT, tr_6 hT, tr_7 hT, tr_8 hT, tr_9 hT, tr_10 hT, tr_11 hT, tr_12 hT, tx_1 hT, tx_2 hT, tx_3 hT, tx_4 hT, tx_5 hT, tx_6 hT, tx_7 hT, tx_8 hT, tx_9 hT, tx_10 hT, tx_11 hT, tx_12 hT, tx_13 hT, hgT, ua_eq, us_same, us_ne, us_us, e1, e2, e3, Int.toNat_natCast, Int.toNat_one, w32_add, w32_sub, w32_s1, w32_s, q1, q2, q3, q4, k1, k2, k3, k4]
       apply key
       intro t ht
       have l1 : t = k - tc τ → μ 45 t = μ 45 (k - tc τ) := fun e => e ▸ rfl
       have l2 : t = k + tc τ → μ 45 t = μ 45 (k + tc τ) := fun e => e ▸ rfl
       have l3 : t = k - 1 → μ 45 t = μ 45 (k - 1) := fun e => e ▸ rfl
       have l4 : t = k + 1 → μ 45 t = μ 45 (k + 1) := fun e => e ▸ rfl
       simp only [zup_ap, w32]
       omega)
end GL
