/-! CALLS: count -/
section CO
variable {θ : zS} {T U : Nat} {σ : zSt} {Q : Option zV → zS → zM → Prop} {μ : zM} {s : Nat}
theorem sl_r (hc : Tc θ) {i : Nat} (hi : i < 3) : θ.2 61 i = some (slN i) := by
  obtain h | h | h : i = 0 ∨ i = 1 ∨ i = 2 := by omega
  · subst h; exact r_61_0 hc
  · subst h; exact r_61_1 hc
  · subst h; exact r_61_2 hc
theorem sl_b (hc : Tc θ) {i : Nat} (hi : i < 3) : zob θ (slN i) 6 = true := by
  obtain h | h | h : i = 0 ∨ i = 1 ∨ i = 2 := by omega
  · subst h; exact b_62 hc
  · subst h; exact b_76 hc
  · subst h; exact b_90 hc
def hN (σ : zSt) (i : Nat) : Int := match sL σ i with
  | none => 0
  | some _ => 1
theorem hN_z (σ : zSt) (i : Nat) : hN σ i = 0 ∨ hN σ i = 1 := by
  unfold hN
  cases sL σ i with
  | none => exact Or.inl rfl
  | some _ => exact Or.inr rfl
theorem CSl_9 (h : CSl σ μ) {i : Nat} (hi : i < 3) : μ (slN i) 9 = hN σ i := by
  have := h i hi
  unfold hN
  cases hs : sL σ i with
  | none => rw [hs] at this; exact this
  | some γ => rw [hs] at this; exact this.1
theorem MSl_9 (h : MSl σ μ) {i : Nat} (hi : i < 3) : μ 198 i = hN σ i := by
  have := h i hi
  unfold hN
  cases hs : sL σ i with
  | none => rw [hs] at this; exact this
  | some γ => rw [hs] at this; exact this.1
theorem cHeldSlots {d : Nat} {x1 x2 : zV} (h : CS θ T U σ μ) (hQ : Q (some (vi (sm (hN σ) 3))) θ μ) : Ex d 162 0 [vr 2, x1, x2] [] θ μ Q := by
  have hc := h.1.1.1
  have hl := h.2.2.2.2.2.1
  have key : ∀ t L μ1, t ≤ 3 → (L = [vr 2, vi (sm (hN σ) t), vi (t : Nat)] ∧ μ1 = μ) → Ex d 162 4 L [] θ μ1 Q := by
    refine Ex_loop (I := fun t L μ1 => L = [vr 2, vi (sm (hN σ) t), vi (t : Nat)] ∧ μ1 = μ) 3 ?_ ?_
    · rintro t L μ1 ht ⟨rfl, rfl⟩ hk
      have c1 : ¬ (3 : Int) ≤ (t : Int) := by omega
      have i1 : (0 : Int) ≤ (t : Int) := by omega
      have i2 : (t : Int) < 3 := by omega
      have w1 : t < 2147483647 := by omega
      have e9 := CSl_9 hl ht
      have es : sm (hN σ) (t + 1) = sm (hN σ) t + hN σ t := rfl
      have b0 : 0 ≤ sm (hN σ) t := sm_nn (fun i _ => by have := hN_z σ i; omega)
      have b1 := sm_le (f := hN σ) (n := t) (b := 1) (fun i _ => by have := hN_z σ i; omega)
      have hk' := hk [vr 2, vi (sm (hN σ) (t + 1)), vi ((t + 1 : Nat) : Int)] μ1 ⟨rfl, rfl⟩
      rw [es] at hk'
      generalize sm (hN σ) t = S at b0 b1 hk' ⊢
      rw [x162_4]
      rcases hN_z σ t with e | e
      · rw [e] at e9 hk'
        rw [Int.add_zero] at hk'
        simp only [x162_0, x162_1, x162_2, x162_3, x162_5, x162_6, x162_9, x162_10, x162_13, x162_14, x162_15, x162_18, x162_21, x162_24, x162_27, x162_30, x162_31, ↓reduceIte, Bool.false_eq_true, Nat.reduceAdd, Nat.reduceLT, Nat.reduceLeDiff, Nat.reduceSub, Nat.reduceEqDiff, Int.reduceToNat, Int.reduceEq, Int.reduceLT, Int.reduceLE, Int.reduceAdd, Int.reduceSub, zg, zI, zJ, zR, zst, zkl, zn, zcat, zok, zraw, List.length_cons, List.length_nil, Option.toList, List.nil_append, List.cons_append, true_and, and_true, if_true, if_false, ne_eq, not_true, not_false_eq_true, and_self, true_or, or_true, false_or, or_false, false_and, and_false, b_2 hc, r_2_5 hc, x_61 hc i1 i2, n_61 hc, Int.toNat_natCast, sl_r hc ht, sl_b hc ht, e9, c1, w32_s w1]
        exact hk'
      · rw [e] at e9 hk'
        have l1 : -2147483648 ≤ S + 1 := by omega
        have l2 : S + 1 ≤ 2147483647 := by omega
        simp only [x162_0, x162_1, x162_2, x162_3, x162_5, x162_6, x162_9, x162_10, x162_13, x162_14, x162_15, x162_18, x162_21, x162_24, x162_27, x162_30, x162_31, ↓reduceIte, Bool.false_eq_true, Nat.reduceAdd, Nat.reduceLT, Nat.reduceLeDiff, Nat.reduceSub, Nat.reduceEqDiff, Int.reduceToNat, Int.reduceEq, Int.reduceLT, Int.reduceLE, Int.reduceAdd, Int.reduceSub, zg, zI, zJ, zR, zst, zkl, zn, zcat, zok, zraw, List.length_cons, List.length_nil, Option.toList, List.nil_append, List.cons_append, true_and, and_true, if_true, if_false, ne_eq, not_true, not_false_eq_true, and_self, true_or, or_true, false_or, or_false, false_and, and_false, b_2 hc, r_2_5 hc, x_61 hc i1 i2, n_61 hc, Int.toNat_natCast, sl_r hc ht, sl_b hc ht, e9, c1, w32_s w1, w32_i l1 l2]
        exact hk'
    · rintro L μ1 ⟨rfl, rfl⟩
      rw [x162_4]
      simp only [x162_0, x162_1, x162_2, x162_3, x162_5, x162_6, x162_9, x162_10, x162_13, x162_14, x162_15, x162_18, x162_21, x162_24, x162_27, x162_30, x162_31, ↓reduceIte, Bool.false_eq_true, Nat.reduceAdd, Nat.reduceLT, Nat.reduceLeDiff, Nat.reduceSub, Nat.reduceEqDiff, Int.reduceToNat, Int.reduceEq, Int.reduceLT, Int.reduceLE, Int.reduceAdd, Int.reduceSub, zg, zI, zJ, zR, zst, zkl, zn, zcat, zok, zraw, List.length_cons, List.length_nil, Option.toList, List.nil_append, List.cons_append, true_and, and_true, if_true, if_false, ne_eq, not_true, not_false_eq_true, and_self, true_or, or_true, false_or, or_false, false_and, and_false, show ((3 : Nat) : Int) = 3 from rfl, Int.le_refl]
      exact hQ
  simp only [x162_0, x162_1, x162_2, x162_3, x162_5, x162_6, x162_9, x162_10, x162_13, x162_14, x162_15, x162_18, x162_21, x162_24, x162_27, x162_30, x162_31, ↓reduceIte, Bool.false_eq_true, Nat.reduceAdd, Nat.reduceLT, Nat.reduceLeDiff, Nat.reduceSub, Nat.reduceEqDiff, Int.reduceToNat, Int.reduceEq, Int.reduceLT, Int.reduceLE, Int.reduceAdd, Int.reduceSub, zg, zI, zJ, zR, zst, zkl, zn, zcat, zok, zraw, List.length_cons, List.length_nil, Option.toList, List.nil_append, List.cons_append, true_and, and_true, if_true, if_false, ne_eq, not_true, not_false_eq_true, and_self, true_or, or_true, false_or, or_false, false_and, and_false]
  exact key 0 _ _ (Nat.zero_le _) ⟨rfl, rfl⟩
def vCount (σ : zSt) (k : Int) : Int := if 0 ≤ k ∧ k ≤ 2 then tN (sT σ) k.toNat else if 10 ≤ k ∧ k ≤ 12 then ((tR (sT σ) (k - 10).toNat).length : Nat) else if 13 ≤ k ∧ k ≤ 16 then tN (sT σ) (k - 10).toNat
  else if k = 3 then (tD (sT σ) : Nat) else if k = 4 then (tn (sT σ) : Nat) - hlO (sT σ) (gnO (sT σ) (gR (sG σ))) else if k = 5 then ((sV σ).1 : Nat) else if k = 6 then (gC (sG σ) : Nat) else if k = 7 then ((gU (sG σ)).1 : Nat) else if k = 8 then (sN σ : Nat) else if k = 9 then sm (hN σ) 3 else -1
theorem hlg_b {τ : zT} {ρ : zF} (hw : wfT τ) : 0 ≤ hlO τ (gnO τ ρ) ∧ hlO τ (gnO τ ρ) ≤ tn τ := by
  unfold hlO
  refine ⟨sm_nn (fun i _ => by have := gn_z τ ρ i; omega), ?_⟩
  have := sm_le (f := gnO τ ρ) (n := tn τ) (b := 1) (fun i _ => by have := gn_z τ ρ i; omega)
  omega
theorem kCount {D : Nat} {k : Int} (h : CS θ T U σ μ) (hd : 7 ≤ D) (hQ : Q (some (vi (vCount σ k))) θ μ) : Ex D 151 0 [vr 2, vi k] [] θ μ Q := by
  have hc := h.1.1.1
  have hT := h.1.1.2.1
  have h2T := h.1.1.2.2.2.2.1
  have hd0 : 0 < D := by omega
  have hwT := h.1.2.1
  have hn := tn_b hwT
  have hN := h.1.2.2.1
  have hCc := h.1.2.2.2
  unfold vCount at hQ
  by_cases k0 : k < 0
  · rw [if_neg (by omega), if_neg (by omega), if_neg (by omega), if_neg (by omega), if_neg (by omega), if_neg (by omega), if_neg (by omega), if_neg (by omega), if_neg (by omega), if_neg (by omega)] at hQ
    have n1 : k < 10 := by omega
    have n2 : k < 13 := by omega
    have n3 : ¬ k = 3 := by omega
    have n4 : ¬ k = 4 := by omega
    have n5 : ¬ k = 5 := by omega
    have n6 : ¬ k = 6 := by omega
    have n7 : ¬ k = 7 := by omega
    have n8 : ¬ k = 8 := by omega
    have n9 : ¬ k = 9 := by omega
    simp only [x151_0, x151_1, x151_4, x151_5, x151_6, x151_9, x151_10, x151_13, x151_16, x151_17, x151_18, x151_19, x151_20, x151_21, x151_22, x151_24, x151_27, x151_28, x151_30, x151_33, x151_34, x151_37, x151_40, x151_41, x151_43, x151_44, x151_45, x151_46, x151_47, x151_49, x151_52, x151_53, x151_55, x151_58, x151_59, x151_62, x151_65, x151_66, x151_67, x151_68, x151_70, x151_71, x151_72, x151_73, x151_74, x151_116, x151_117, x151_120, x151_123, x151_124, x151_125, x151_128, x151_131, x151_132, x151_135, x151_138, x151_141, x151_142, x151_143, x151_144, x151_147, x151_150, x151_151, x151_152, x151_155, x151_158, x151_159, x151_160, x151_163, x151_166, x151_167, x151_168, x151_171, x151_174, x151_175, x151_176, x151_179, x151_180, x151_181, ↓reduceIte, Bool.false_eq_true, Nat.reduceAdd, Nat.reduceLT, Nat.reduceLeDiff, Nat.reduceSub, Nat.reduceEqDiff, Int.reduceToNat, Int.reduceEq, Int.reduceLT, Int.reduceLE, Int.reduceAdd, Int.reduceSub, zg, zI, zJ, zR, zst, zkl, zn, zcat, zok, zraw, List.length_cons, List.length_nil, Option.toList, List.nil_append, List.cons_append, true_and, and_true, if_true, if_false, ne_eq, not_true, not_false_eq_true, and_self, true_or, or_true, false_or, or_false, false_and, and_false, k0, n1, n2, n3, n4, n5, n6, n7, n8, n9]
    exact hQ
  · by_cases k2 : k ≤ 2
    · rw [if_pos ⟨by omega, k2⟩] at hQ
      have i1 : (0 : Int) ≤ k := by omega
      have i2 : k < 9 := by omega
      have m2 : ¬ 2 < k := by omega
      have l1 : -2147483648 ≤ k := by omega
      have l2 : k ≤ 2147483647 := by omega
      have e := hN.1 k.toNat (by omega)
      simp only [x151_0, x151_1, x151_4, x151_5, x151_6, x151_9, x151_10, x151_13, x151_16, x151_17, x151_18, x151_19, x151_20, x151_21, x151_22, x151_24, x151_27, x151_28, x151_30, x151_33, x151_34, x151_37, x151_40, x151_41, x151_43, x151_44, x151_45, x151_46, x151_47, x151_49, x151_52, x151_53, x151_55, x151_58, x151_59, x151_62, x151_65, x151_66, x151_67, x151_68, x151_70, x151_71, x151_72, x151_73, x151_74, x151_116, x151_117, x151_120, x151_123, x151_124, x151_125, x151_128, x151_131, x151_132, x151_135, x151_138, x151_141, x151_142, x151_143, x151_144, x151_147, x151_150, x151_151, x151_152, x151_155, x151_158, x151_159, x151_160, x151_163, x151_166, x151_167, x151_168, x151_171, x151_174, x151_175, x151_176, x151_179, x151_180, x151_181, ↓reduceIte, Bool.false_eq_true, Nat.reduceAdd, Nat.reduceLT, Nat.reduceLeDiff, Nat.reduceSub, Nat.reduceEqDiff, Int.reduceToNat, Int.reduceEq, Int.reduceLT, Int.reduceLE, Int.reduceAdd, Int.reduceSub, zg, zI, zJ, zR, zst, zkl, zn, zcat, zok, zraw, List.length_cons, List.length_nil, Option.toList, List.nil_append, List.cons_append, true_and, and_true, if_true, if_false, ne_eq, not_true, not_false_eq_true, and_self, true_or, or_true, false_or, or_false, false_and, and_false, b_2 hc, h2T, tb hT, tr_0 hT, k0, m2, Int.zero_add, w32_i l1 l2, tx_1 hT i1 i2, e]
      exact hQ
    · rw [if_neg (by omega)] at hQ
      have m2 : 2 < k := by omega
      by_cases k9 : k ≤ 9
      · rw [if_neg (by omega), if_neg (by omega)] at hQ
        have n1 : k < 10 := by omega
        have n2 : k < 13 := by omega
        obtain q | q | q | q | q | q | q : k = 3 ∨ k = 4 ∨ k = 5 ∨ k = 6 ∨ k = 7 ∨ k = 8 ∨ k = 9 := by omega
        · subst q
          simp only [x151_0, x151_1, x151_4, x151_5, x151_6, x151_9, x151_10, x151_13, x151_16, x151_17, x151_18, x151_19, x151_20, x151_21, x151_22, x151_24, x151_27, x151_28, x151_30, x151_33, x151_34, x151_37, x151_40, x151_41, x151_43, x151_44, x151_45, x151_46, x151_47, x151_49, x151_52, x151_53, x151_55, x151_58, x151_59, x151_62, x151_65, x151_66, x151_67, x151_68, x151_70, x151_71, x151_72, x151_73, x151_74, x151_116, x151_117, x151_120, x151_123, x151_124, x151_125, x151_128, x151_131, x151_132, x151_135, x151_138, x151_141, x151_142, x151_143, x151_144, x151_147, x151_150, x151_151, x151_152, x151_155, x151_158, x151_159, x151_160, x151_163, x151_166, x151_167, x151_168, x151_171, x151_174, x151_175, x151_176, x151_179, x151_180, x151_181, ↓reduceIte, Bool.false_eq_true, Nat.reduceAdd, Nat.reduceLT, Nat.reduceLeDiff, Nat.reduceSub, Nat.reduceEqDiff, Int.reduceToNat, Int.reduceEq, Int.reduceLT, Int.reduceLE, Int.reduceAdd, Int.reduceSub, zg, zI, zJ, zR, zst, zkl, zn, zcat, zok, zraw, List.length_cons, List.length_nil, Option.toList, List.nil_append, List.cons_append, true_and, and_true, if_true, if_false, ne_eq, not_true, not_false_eq_true, and_self, true_or, or_true, false_or, or_false, false_and, and_false, b_2 hc, h2T, tb hT, hN.2.2.1]
          exact hQ
        · subst q
          have hb := hlg_b (ρ := gR (sG σ)) hwT
          simp only [x151_0, x151_1, x151_4, x151_5, x151_6, x151_9, x151_10, x151_13, x151_16, x151_17, x151_18, x151_19, x151_20, x151_21, x151_22, x151_24, x151_27, x151_28, x151_30, x151_33, x151_34, x151_37, x151_40, x151_41, x151_43, x151_44, x151_45, x151_46, x151_47, x151_49, x151_52, x151_53, x151_55, x151_58, x151_59, x151_62, x151_65, x151_66, x151_67, x151_68, x151_70, x151_71, x151_72, x151_73, x151_74, x151_116, x151_117, x151_120, x151_123, x151_124, x151_125, x151_128, x151_131, x151_132, x151_135, x151_138, x151_141, x151_142, x151_143, x151_144, x151_147, x151_150, x151_151, x151_152, x151_155, x151_158, x151_159, x151_160, x151_163, x151_166, x151_167, x151_168, x151_171, x151_174, x151_175, x151_176, x151_179, x151_180, x151_181, ↓reduceIte, Bool.false_eq_true, Nat.reduceAdd, Nat.reduceLT, Nat.reduceLeDiff, Nat.reduceSub, Nat.reduceEqDiff, Int.reduceToNat, Int.reduceEq, Int.reduceLT, Int.reduceLE, Int.reduceAdd, Int.reduceSub, zg, zI, zJ, zR, zst, zkl, zn, zcat, zok, zraw, List.length_cons, List.length_nil, Option.toList, List.nil_append, List.cons_append, true_and, and_true, if_true, if_false, ne_eq, not_true, not_false_eq_true, and_self, true_or, or_true, false_or, or_false, false_and, and_false, b_2 hc, h2T, tb hT, hN.2.1, r_2_4 hc, b_46 hc, r_46_0 hc, b_47 hc, hd0]
          refine cGone (d := D - 1) hc hwT h.2.2.1.1 ?_
          rw [if_neg (by decide), if_pos rfl] at hQ
          generalize hlO (sT σ) (gnO (sT σ) (gR (sG σ))) = x at hb hQ ⊢
          have l1 : -2147483648 ≤ ((tn (sT σ) : Nat) : Int) - x := by omega
          have l2 : ((tn (sT σ) : Nat) : Int) - x ≤ 2147483647 := by omega
          simp only [x151_0, x151_1, x151_4, x151_5, x151_6, x151_9, x151_10, x151_13, x151_16, x151_17, x151_18, x151_19, x151_20, x151_21, x151_22, x151_24, x151_27, x151_28, x151_30, x151_33, x151_34, x151_37, x151_40, x151_41, x151_43, x151_44, x151_45, x151_46, x151_47, x151_49, x151_52, x151_53, x151_55, x151_58, x151_59, x151_62, x151_65, x151_66, x151_67, x151_68, x151_70, x151_71, x151_72, x151_73, x151_74, x151_116, x151_117, x151_120, x151_123, x151_124, x151_125, x151_128, x151_131, x151_132, x151_135, x151_138, x151_141, x151_142, x151_143, x151_144, x151_147, x151_150, x151_151, x151_152, x151_155, x151_158, x151_159, x151_160, x151_163, x151_166, x151_167, x151_168, x151_171, x151_174, x151_175, x151_176, x151_179, x151_180, x151_181, ↓reduceIte, Bool.false_eq_true, Nat.reduceAdd, Nat.reduceLT, Nat.reduceLeDiff, Nat.reduceSub, Nat.reduceEqDiff, Int.reduceToNat, Int.reduceEq, Int.reduceLT, Int.reduceLE, Int.reduceAdd, Int.reduceSub, zg, zI, zJ, zR, zst, zkl, zn, zcat, zok, zraw, List.length_cons, List.length_nil, Option.toList, List.nil_append, List.cons_append, true_and, and_true, if_true, if_false, ne_eq, not_true, not_false_eq_true, and_self, true_or, or_true, false_or, or_false, false_and, and_false, w32_i l1 l2]
          exact hQ
        · subst q
          simp only [x151_0, x151_1, x151_4, x151_5, x151_6, x151_9, x151_10, x151_13, x151_16, x151_17, x151_18, x151_19, x151_20, x151_21, x151_22, x151_24, x151_27, x151_28, x151_30, x151_33, x151_34, x151_37, x151_40, x151_41, x151_43, x151_44, x151_45, x151_46, x151_47, x151_49, x151_52, x151_53, x151_55, x151_58, x151_59, x151_62, x151_65, x151_66, x151_67, x151_68, x151_70, x151_71, x151_72, x151_73, x151_74, x151_116, x151_117, x151_120, x151_123, x151_124, x151_125, x151_128, x151_131, x151_132, x151_135, x151_138, x151_141, x151_142, x151_143, x151_144, x151_147, x151_150, x151_151, x151_152, x151_155, x151_158, x151_159, x151_160, x151_163, x151_166, x151_167, x151_168, x151_171, x151_174, x151_175, x151_176, x151_179, x151_180, x151_181, ↓reduceIte, Bool.false_eq_true, Nat.reduceAdd, Nat.reduceLT, Nat.reduceLeDiff, Nat.reduceSub, Nat.reduceEqDiff, Int.reduceToNat, Int.reduceEq, Int.reduceLT, Int.reduceLE, Int.reduceAdd, Int.reduceSub, zg, zI, zJ, zR, zst, zkl, zn, zcat, zok, zraw, List.length_cons, List.length_nil, Option.toList, List.nil_append, List.cons_append, true_and, and_true, if_true, if_false, ne_eq, not_true, not_false_eq_true, and_self, true_or, or_true, false_or, or_false, false_and, and_false, b_2 hc, r_2_9 hc, b_131 hc, h.2.2.2.2.2.2.1.1]
          exact hQ
        · subst q
          simp only [x151_0, x151_1, x151_4, x151_5, x151_6, x151_9, x151_10, x151_13, x151_16, x151_17, x151_18, x151_19, x151_20, x151_21, x151_22, x151_24, x151_27, x151_28, x151_30, x151_33, x151_34, x151_37, x151_40, x151_41, x151_43, x151_44, x151_45, x151_46, x151_47, x151_49, x151_52, x151_53, x151_55, x151_58, x151_59, x151_62, x151_65, x151_66, x151_67, x151_68, x151_70, x151_71, x151_72, x151_73, x151_74, x151_116, x151_117, x151_120, x151_123, x151_124, x151_125, x151_128, x151_131, x151_132, x151_135, x151_138, x151_141, x151_142, x151_143, x151_144, x151_147, x151_150, x151_151, x151_152, x151_155, x151_158, x151_159, x151_160, x151_163, x151_166, x151_167, x151_168, x151_171, x151_174, x151_175, x151_176, x151_179, x151_180, x151_181, ↓reduceIte, Bool.false_eq_true, Nat.reduceAdd, Nat.reduceLT, Nat.reduceLeDiff, Nat.reduceSub, Nat.reduceEqDiff, Int.reduceToNat, Int.reduceEq, Int.reduceLT, Int.reduceLE, Int.reduceAdd, Int.reduceSub, zg, zI, zJ, zR, zst, zkl, zn, zcat, zok, zraw, List.length_cons, List.length_nil, Option.toList, List.nil_append, List.cons_append, true_and, and_true, if_true, if_false, ne_eq, not_true, not_false_eq_true, and_self, true_or, or_true, false_or, or_false, false_and, and_false, b_2 hc, r_2_4 hc, b_46 hc, h.2.2.1.2.2.2.1.1]
          exact hQ
        · subst q
          simp only [x151_0, x151_1, x151_4, x151_5, x151_6, x151_9, x151_10, x151_13, x151_16, x151_17, x151_18, x151_19, x151_20, x151_21, x151_22, x151_24, x151_27, x151_28, x151_30, x151_33, x151_34, x151_37, x151_40, x151_41, x151_43, x151_44, x151_45, x151_46, x151_47, x151_49, x151_52, x151_53, x151_55, x151_58, x151_59, x151_62, x151_65, x151_66, x151_67, x151_68, x151_70, x151_71, x151_72, x151_73, x151_74, x151_116, x151_117, x151_120, x151_123, x151_124, x151_125, x151_128, x151_131, x151_132, x151_135, x151_138, x151_141, x151_142, x151_143, x151_144, x151_147, x151_150, x151_151, x151_152, x151_155, x151_158, x151_159, x151_160, x151_163, x151_166, x151_167, x151_168, x151_171, x151_174, x151_175, x151_176, x151_179, x151_180, x151_181, ↓reduceIte, Bool.false_eq_true, Nat.reduceAdd, Nat.reduceLT, Nat.reduceLeDiff, Nat.reduceSub, Nat.reduceEqDiff, Int.reduceToNat, Int.reduceEq, Int.reduceLT, Int.reduceLE, Int.reduceAdd, Int.reduceSub, zg, zI, zJ, zR, zst, zkl, zn, zcat, zok, zraw, List.length_cons, List.length_nil, Option.toList, List.nil_append, List.cons_append, true_and, and_true, if_true, if_false, ne_eq, not_true, not_false_eq_true, and_self, true_or, or_true, false_or, or_false, false_and, and_false, b_2 hc, r_2_4 hc, b_46 hc, h.2.2.1.2.2.2.2.1]
          exact hQ
        · subst q
          simp only [x151_0, x151_1, x151_4, x151_5, x151_6, x151_9, x151_10, x151_13, x151_16, x151_17, x151_18, x151_19, x151_20, x151_21, x151_22, x151_24, x151_27, x151_28, x151_30, x151_33, x151_34, x151_37, x151_40, x151_41, x151_43, x151_44, x151_45, x151_46, x151_47, x151_49, x151_52, x151_53, x151_55, x151_58, x151_59, x151_62, x151_65, x151_66, x151_67, x151_68, x151_70, x151_71, x151_72, x151_73, x151_74, x151_116, x151_117, x151_120, x151_123, x151_124, x151_125, x151_128, x151_131, x151_132, x151_135, x151_138, x151_141, x151_142, x151_143, x151_144, x151_147, x151_150, x151_151, x151_152, x151_155, x151_158, x151_159, x151_160, x151_163, x151_166, x151_167, x151_168, x151_171, x151_174, x151_175, x151_176, x151_179, x151_180, x151_181, ↓reduceIte, Bool.false_eq_true, Nat.reduceAdd, Nat.reduceLT, Nat.reduceLeDiff, Nat.reduceSub, Nat.reduceEqDiff, Int.reduceToNat, Int.reduceEq, Int.reduceLT, Int.reduceLE, Int.reduceAdd, Int.reduceSub, zg, zI, zJ, zR, zst, zkl, zn, zcat, zok, zraw, List.length_cons, List.length_nil, Option.toList, List.nil_append, List.cons_append, true_and, and_true, if_true, if_false, ne_eq, not_true, not_false_eq_true, and_self, true_or, or_true, false_or, or_false, false_and, and_false, b_2 hc, r_2_0 hc, b_3 hc, h.2.2.2.2.2.2.2.1.1]
          exact hQ
        · subst q
          simp only [x151_0, x151_1, x151_4, x151_5, x151_6, x151_9, x151_10, x151_13, x151_16, x151_17, x151_18, x151_19, x151_20, x151_21, x151_22, x151_24, x151_27, x151_28, x151_30, x151_33, x151_34, x151_37, x151_40, x151_41, x151_43, x151_44, x151_45, x151_46, x151_47, x151_49, x151_52, x151_53, x151_55, x151_58, x151_59, x151_62, x151_65, x151_66, x151_67, x151_68, x151_70, x151_71, x151_72, x151_73, x151_74, x151_116, x151_117, x151_120, x151_123, x151_124, x151_125, x151_128, x151_131, x151_132, x151_135, x151_138, x151_141, x151_142, x151_143, x151_144, x151_147, x151_150, x151_151, x151_152, x151_155, x151_158, x151_159, x151_160, x151_163, x151_166, x151_167, x151_168, x151_171, x151_174, x151_175, x151_176, x151_179, x151_180, x151_181, ↓reduceIte, Bool.false_eq_true, Nat.reduceAdd, Nat.reduceLT, Nat.reduceLeDiff, Nat.reduceSub, Nat.reduceEqDiff, Int.reduceToNat, Int.reduceEq, Int.reduceLT, Int.reduceLE, Int.reduceAdd, Int.reduceSub, zg, zI, zJ, zR, zst, zkl, zn, zcat, zok, zraw, List.length_cons, List.length_nil, Option.toList, List.nil_append, List.cons_append, true_and, and_true, if_true, if_false, ne_eq, not_true, not_false_eq_true, and_self, true_or, or_true, false_or, or_false, false_and, and_false, b_2 hc, hd0]
          refine cHeldSlots (d := D - 1) h ?_
          simp only [x151_0, x151_1, x151_4, x151_5, x151_6, x151_9, x151_10, x151_13, x151_16, x151_17, x151_18, x151_19, x151_20, x151_21, x151_22, x151_24, x151_27, x151_28, x151_30, x151_33, x151_34, x151_37, x151_40, x151_41, x151_43, x151_44, x151_45, x151_46, x151_47, x151_49, x151_52, x151_53, x151_55, x151_58, x151_59, x151_62, x151_65, x151_66, x151_67, x151_68, x151_70, x151_71, x151_72, x151_73, x151_74, x151_116, x151_117, x151_120, x151_123, x151_124, x151_125, x151_128, x151_131, x151_132, x151_135, x151_138, x151_141, x151_142, x151_143, x151_144, x151_147, x151_150, x151_151, x151_152, x151_155, x151_158, x151_159, x151_160, x151_163, x151_166, x151_167, x151_168, x151_171, x151_174, x151_175, x151_176, x151_179, x151_180, x151_181, ↓reduceIte, Bool.false_eq_true, Nat.reduceAdd, Nat.reduceLT, Nat.reduceLeDiff, Nat.reduceSub, Nat.reduceEqDiff, Int.reduceToNat, Int.reduceEq, Int.reduceLT, Int.reduceLE, Int.reduceAdd, Int.reduceSub, zg, zI, zJ, zR, zst, zkl, zn, zcat, zok, zraw, List.length_cons, List.length_nil, Option.toList, List.nil_append, List.cons_append, true_and, and_true, if_true, if_false, ne_eq, not_true, not_false_eq_true, and_self, true_or, or_true, false_or, or_false, false_and, and_false]
          exact hQ
      · have n1 : ¬ k < 10 := by omega
        by_cases k12 : k ≤ 12
        · rw [if_pos ⟨by omega, k12⟩] at hQ
          have m12 : ¬ 12 < k := by omega
          have i1 : (0 : Int) ≤ k - 10 := by omega
          have i2 : k - 10 < 3 := by omega
          have l1 : -2147483648 ≤ k - 10 := by omega
          have l2 : k - 10 ≤ 2147483647 := by omega
          have e := (hCc.2.2 (k - 10).toNat (by omega)).1
          simp only [x151_0, x151_1, x151_4, x151_5, x151_6, x151_9, x151_10, x151_13, x151_16, x151_17, x151_18, x151_19, x151_20, x151_21, x151_22, x151_24, x151_27, x151_28, x151_30, x151_33, x151_34, x151_37, x151_40, x151_41, x151_43, x151_44, x151_45, x151_46, x151_47, x151_49, x151_52, x151_53, x151_55, x151_58, x151_59, x151_62, x151_65, x151_66, x151_67, x151_68, x151_70, x151_71, x151_72, x151_73, x151_74, x151_116, x151_117, x151_120, x151_123, x151_124, x151_125, x151_128, x151_131, x151_132, x151_135, x151_138, x151_141, x151_142, x151_143, x151_144, x151_147, x151_150, x151_151, x151_152, x151_155, x151_158, x151_159, x151_160, x151_163, x151_166, x151_167, x151_168, x151_171, x151_174, x151_175, x151_176, x151_179, x151_180, x151_181, ↓reduceIte, Bool.false_eq_true, Nat.reduceAdd, Nat.reduceLT, Nat.reduceLeDiff, Nat.reduceSub, Nat.reduceEqDiff, Int.reduceToNat, Int.reduceEq, Int.reduceLT, Int.reduceLE, Int.reduceAdd, Int.reduceSub, zg, zI, zJ, zR, zst, zkl, zn, zcat, zok, zraw, List.length_cons, List.length_nil, Option.toList, List.nil_append, List.cons_append, true_and, and_true, if_true, if_false, ne_eq, not_true, not_false_eq_true, and_self, true_or, or_true, false_or, or_false, false_and, and_false, b_2 hc, h2T, tb hT, tr_9 hT, k0, m2, n1, m12, w32_i l1 l2, tx_10 hT i1 i2, e]
          exact hQ
        · rw [if_neg (by omega)] at hQ
          have m12 : 12 < k := by omega
          have n13 : ¬ k < 13 := by omega
          by_cases k16 : k ≤ 16
          · rw [if_pos ⟨by omega, k16⟩] at hQ
            have m16 : ¬ 16 < k := by omega
            have i1 : (0 : Int) ≤ k - 10 := by omega
            have i2 : k - 10 < 9 := by omega
            have a1 : -2147483648 ≤ 3 + k := by omega
            have a2 : 3 + k ≤ 2147483647 := by omega
            have ew : 3 + k - 13 = k - 10 := by omega
            have l1 : -2147483648 ≤ k - 10 := by omega
            have l2 : k - 10 ≤ 2147483647 := by omega
            have e := hN.1 (k - 10).toNat (by omega)
            simp only [x151_0, x151_1, x151_4, x151_5, x151_6, x151_9, x151_10, x151_13, x151_16, x151_17, x151_18, x151_19, x151_20, x151_21, x151_22, x151_24, x151_27, x151_28, x151_30, x151_33, x151_34, x151_37, x151_40, x151_41, x151_43, x151_44, x151_45, x151_46, x151_47, x151_49, x151_52, x151_53, x151_55, x151_58, x151_59, x151_62, x151_65, x151_66, x151_67, x151_68, x151_70, x151_71, x151_72, x151_73, x151_74, x151_116, x151_117, x151_120, x151_123, x151_124, x151_125, x151_128, x151_131, x151_132, x151_135, x151_138, x151_141, x151_142, x151_143, x151_144, x151_147, x151_150, x151_151, x151_152, x151_155, x151_158, x151_159, x151_160, x151_163, x151_166, x151_167, x151_168, x151_171, x151_174, x151_175, x151_176, x151_179, x151_180, x151_181, ↓reduceIte, Bool.false_eq_true, Nat.reduceAdd, Nat.reduceLT, Nat.reduceLeDiff, Nat.reduceSub, Nat.reduceEqDiff, Int.reduceToNat, Int.reduceEq, Int.reduceLT, Int.reduceLE, Int.reduceAdd, Int.reduceSub, zg, zI, zJ, zR, zst, zkl, zn, zcat, zok, zraw, List.length_cons, List.length_nil, Option.toList, List.nil_append, List.cons_append, true_and, and_true, if_true, if_false, ne_eq, not_true, not_false_eq_true, and_self, true_or, or_true, false_or, or_false, false_and, and_false, b_2 hc, h2T, tb hT, tr_0 hT, k0, m2, n1, m12, n13, m16, w32_i a1 a2, ew, w32_i l1 l2, tx_1 hT i1 i2, e]
            exact hQ
          · rw [if_neg (by omega), if_neg (by omega), if_neg (by omega), if_neg (by omega), if_neg (by omega), if_neg (by omega), if_neg (by omega), if_neg (by omega)] at hQ
            have m16 : 16 < k := by omega
            have n3 : ¬ k = 3 := by omega
            have n4 : ¬ k = 4 := by omega
            have n5 : ¬ k = 5 := by omega
            have n6 : ¬ k = 6 := by omega
            have n7 : ¬ k = 7 := by omega
            have n8 : ¬ k = 8 := by omega
            have n9 : ¬ k = 9 := by omega
            simp only [x151_0, x151_1, x151_4, x151_5, x151_6, x151_9, x151_10, x151_13, x151_16, x151_17, x151_18, x151_19, x151_20, x151_21, x151_22, x151_24, x151_27, x151_28, x151_30, x151_33, x151_34, x151_37, x151_40, x151_41, x151_43, x151_44, x151_45, x151_46, x151_47, x151_49, x151_52, x151_53, x151_55, x151_58, x151_59, x151_62, x151_65, x151_66, x151_67, x151_68, x151_70, x151_71, x151_72, x151_73, x151_74, x151_116, x151_117, x151_120, x151_123, x151_124, x151_125, x151_128, x151_131, x151_132, x151_135, x151_138, x151_141, x151_142, x151_143, x151_144, x151_147, x151_150, x151_151, x151_152, x151_155, x151_158, x151_159, x151_160, x151_163, x151_166, x151_167, x151_168, x151_171, x151_174, x151_175, x151_176, x151_179, x151_180, x151_181, ↓reduceIte, Bool.false_eq_true, Nat.reduceAdd, Nat.reduceLT, Nat.reduceLeDiff, Nat.reduceSub, Nat.reduceEqDiff, Int.reduceToNat, Int.reduceEq, Int.reduceLT, Int.reduceLE, Int.reduceAdd, Int.reduceSub, zg, zI, zJ, zR, zst, zkl, zn, zcat, zok, zraw, List.length_cons, List.length_nil, Option.toList, List.nil_append, List.cons_append, true_and, and_true, if_true, if_false, ne_eq, not_true, not_false_eq_true, and_self, true_or, or_true, false_or, or_false, false_and, and_false, k0, m2, n1, m12, n13, m16, n3, n4, n5, n6, n7, n8, n9]
            exact hQ
theorem rCount {D : Nat} {k : Int} (h : MS θ σ s μ) (hd : 11 ≤ D) (hQ : ∀ μ', ML2 μ μ' → MS θ σ s μ' → Q (some (vi (vCount σ k))) θ μ') : Ex D 291 0 [vr 138, vi k] [] θ μ Q := by
  have hm := h.1.1
  have hd0 : 0 < D := by omega
  have hwT := MS_wt h
  have hn := tn_b hwT
  obtain ⟨⟨t0, t1, t2, t3⟩, ⟨t4, _⟩, _, t5⟩ := h.1.2.2.1
  have h18 := h.1.2.2.2.1
  have hs := h.1.2.2.2.2
  have hq0 := hQ μ (fun _ _ => rfl) h
  have hQ2 := hQ
  clear hQ
  have hl := h.2.2.2.1
  have p1 : (0 : Int) ≤ (s : Int) := by omega
  have p2 : (s : Int) < 2 := by omega
  unfold vCount at hq0
  by_cases k0 : 0 ≤ k ∧ k ≤ 16
  · obtain q | q | q | q | q | q | q | q | q | q | q : k = 0 ∨ k = 1 ∨ k = 2 ∨ k = 3 ∨ k = 4 ∨ k = 5 ∨ k = 6 ∨ k = 7 ∨ k = 8 ∨ k = 9 ∨ 10 ≤ k := by omega
    · subst q
      simp only [x291_0, x291_1, x291_84, x291_85, x291_88, x291_89, x291_92, x291_93, x291_94, x291_95, x291_98, x291_99, x291_102, x291_103, x291_104, x291_105, x291_108, x291_109, x291_112, x291_113, x291_114, x291_115, x291_118, x291_119, x291_122, x291_123, x291_124, x291_125, x291_128, x291_129, x291_132, x291_133, x291_136, x291_137, x291_138, x291_139, x291_142, x291_143, x291_144, x291_147, x291_148, x291_149, x291_152, x291_153, x291_154, x291_157, x291_158, x291_159, x291_162, x291_163, x291_164, x291_167, x291_168, x291_171, x291_172, x291_173, x291_176, x291_177, x291_178, x291_181, x291_182, x291_185, x291_186, x291_187, x291_188, x291_191, x291_192, x291_193, x291_196, x291_197, x291_200, x291_201, x291_202, x291_203, x291_204, x291_207, x291_208, x291_209, x291_212, x291_213, x291_214, x291_215, x291_217, x291_218, x291_219, x291_220, x291_221, x291_224, x291_226, x291_227, x291_230, x291_231, x291_232, x291_233, x291_235, x291_236, x291_237, x291_238, x291_239, ↓reduceIte, Bool.false_eq_true, Nat.reduceAdd, Nat.reduceLT, Nat.reduceLeDiff, Nat.reduceSub, Nat.reduceEqDiff, Int.reduceToNat, Int.reduceEq, Int.reduceLT, Int.reduceLE, Int.reduceAdd, Int.reduceSub, zg, zI, zJ, zR, zst, zkl, zn, zcat, zok, zraw, List.length_cons, List.length_nil, Option.toList, List.nil_append, List.cons_append, true_and, and_true, if_true, if_false, ne_eq, not_true, not_false_eq_true, and_self, true_or, or_true, false_or, or_false, false_and, and_false, b_138 hm, r_138_22 hm, h18, x_147 hm p1 p2, Int.toNat_natCast, t0]
      exact hq0
    · subst q
      simp only [x291_0, x291_1, x291_84, x291_85, x291_88, x291_89, x291_92, x291_93, x291_94, x291_95, x291_98, x291_99, x291_102, x291_103, x291_104, x291_105, x291_108, x291_109, x291_112, x291_113, x291_114, x291_115, x291_118, x291_119, x291_122, x291_123, x291_124, x291_125, x291_128, x291_129, x291_132, x291_133, x291_136, x291_137, x291_138, x291_139, x291_142, x291_143, x291_144, x291_147, x291_148, x291_149, x291_152, x291_153, x291_154, x291_157, x291_158, x291_159, x291_162, x291_163, x291_164, x291_167, x291_168, x291_171, x291_172, x291_173, x291_176, x291_177, x291_178, x291_181, x291_182, x291_185, x291_186, x291_187, x291_188, x291_191, x291_192, x291_193, x291_196, x291_197, x291_200, x291_201, x291_202, x291_203, x291_204, x291_207, x291_208, x291_209, x291_212, x291_213, x291_214, x291_215, x291_217, x291_218, x291_219, x291_220, x291_221, x291_224, x291_226, x291_227, x291_230, x291_231, x291_232, x291_233, x291_235, x291_236, x291_237, x291_238, x291_239, ↓reduceIte, Bool.false_eq_true, Nat.reduceAdd, Nat.reduceLT, Nat.reduceLeDiff, Nat.reduceSub, Nat.reduceEqDiff, Int.reduceToNat, Int.reduceEq, Int.reduceLT, Int.reduceLE, Int.reduceAdd, Int.reduceSub, zg, zI, zJ, zR, zst, zkl, zn, zcat, zok, zraw, List.length_cons, List.length_nil, Option.toList, List.nil_append, List.cons_append, true_and, and_true, if_true, if_false, ne_eq, not_true, not_false_eq_true, and_self, true_or, or_true, false_or, or_false, false_and, and_false, b_138 hm, r_138_23 hm, h18, x_148 hm p1 p2, Int.toNat_natCast, t1]
      exact hq0
    · subst q
      simp only [x291_0, x291_1, x291_84, x291_85, x291_88, x291_89, x291_92, x291_93, x291_94, x291_95, x291_98, x291_99, x291_102, x291_103, x291_104, x291_105, x291_108, x291_109, x291_112, x291_113, x291_114, x291_115, x291_118, x291_119, x291_122, x291_123, x291_124, x291_125, x291_128, x291_129, x291_132, x291_133, x291_136, x291_137, x291_138, x291_139, x291_142, x291_143, x291_144, x291_147, x291_148, x291_149, x291_152, x291_153, x291_154, x291_157, x291_158, x291_159, x291_162, x291_163, x291_164, x291_167, x291_168, x291_171, x291_172, x291_173, x291_176, x291_177, x291_178, x291_181, x291_182, x291_185, x291_186, x291_187, x291_188, x291_191, x291_192, x291_193, x291_196, x291_197, x291_200, x291_201, x291_202, x291_203, x291_204, x291_207, x291_208, x291_209, x291_212, x291_213, x291_214, x291_215, x291_217, x291_218, x291_219, x291_220, x291_221, x291_224, x291_226, x291_227, x291_230, x291_231, x291_232, x291_233, x291_235, x291_236, x291_237, x291_238, x291_239, ↓reduceIte, Bool.false_eq_true, Nat.reduceAdd, Nat.reduceLT, Nat.reduceLeDiff, Nat.reduceSub, Nat.reduceEqDiff, Int.reduceToNat, Int.reduceEq, Int.reduceLT, Int.reduceLE, Int.reduceAdd, Int.reduceSub, zg, zI, zJ, zR, zst, zkl, zn, zcat, zok, zraw, List.length_cons, List.length_nil, Option.toList, List.nil_append, List.cons_append, true_and, and_true, if_true, if_false, ne_eq, not_true, not_false_eq_true, and_self, true_or, or_true, false_or, or_false, false_and, and_false, b_138 hm, r_138_24 hm, h18, x_149 hm p1 p2, Int.toNat_natCast, t2]
      exact hq0
    · subst q
      simp only [x291_0, x291_1, x291_84, x291_85, x291_88, x291_89, x291_92, x291_93, x291_94, x291_95, x291_98, x291_99, x291_102, x291_103, x291_104, x291_105, x291_108, x291_109, x291_112, x291_113, x291_114, x291_115, x291_118, x291_119, x291_122, x291_123, x291_124, x291_125, x291_128, x291_129, x291_132, x291_133, x291_136, x291_137, x291_138, x291_139, x291_142, x291_143, x291_144, x291_147, x291_148, x291_149, x291_152, x291_153, x291_154, x291_157, x291_158, x291_159, x291_162, x291_163, x291_164, x291_167, x291_168, x291_171, x291_172, x291_173, x291_176, x291_177, x291_178, x291_181, x291_182, x291_185, x291_186, x291_187, x291_188, x291_191, x291_192, x291_193, x291_196, x291_197, x291_200, x291_201, x291_202, x291_203, x291_204, x291_207, x291_208, x291_209, x291_212, x291_213, x291_214, x291_215, x291_217, x291_218, x291_219, x291_220, x291_221, x291_224, x291_226, x291_227, x291_230, x291_231, x291_232, x291_233, x291_235, x291_236, x291_237, x291_238, x291_239, ↓reduceIte, Bool.false_eq_true, Nat.reduceAdd, Nat.reduceLT, Nat.reduceLeDiff, Nat.reduceSub, Nat.reduceEqDiff, Int.reduceToNat, Int.reduceEq, Int.reduceLT, Int.reduceLE, Int.reduceAdd, Int.reduceSub, zg, zI, zJ, zR, zst, zkl, zn, zcat, zok, zraw, List.length_cons, List.length_nil, Option.toList, List.nil_append, List.cons_append, true_and, and_true, if_true, if_false, ne_eq, not_true, not_false_eq_true, and_self, true_or, or_true, false_or, or_false, false_and, and_false, b_138 hm, r_138_32 hm, h18, x_157 hm p1 p2, Int.toNat_natCast, t4]
      exact hq0
    · subst q
      clear hq0
      have hb := hlg_b (ρ := gR (sG σ)) hwT
      have hg := h.2.2.1.1.2
      have hwF := h.2.2.1.1.1.1
      have eg : ∀ t, t < tn (sT σ) → μ 172 t = gnO (sT σ) (gR (sG σ)) t := fun t ht => by
        rw [hg t ht]
        show _ = (if t < tn (sT σ) ∧ (gR (sG σ)).1 0 t = 0 then 1 else 0)
        rcases (hwF.1 t ht).1 with e | e
        · rw [if_pos ⟨ht, e⟩, e]; rfl
        · rw [if_neg (fun hh => by rw [e] at hh; exact absurd hh.2 (by decide)), e]; rfl
      simp only [x291_0, x291_1, x291_84, x291_85, x291_88, x291_89, x291_92, x291_93, x291_94, x291_95, x291_98, x291_99, x291_102, x291_103, x291_104, x291_105, x291_108, x291_109, x291_112, x291_113, x291_114, x291_115, x291_118, x291_119, x291_122, x291_123, x291_124, x291_125, x291_128, x291_129, x291_132, x291_133, x291_136, x291_137, x291_138, x291_139, x291_142, x291_143, x291_144, x291_147, x291_148, x291_149, x291_152, x291_153, x291_154, x291_157, x291_158, x291_159, x291_162, x291_163, x291_164, x291_167, x291_168, x291_171, x291_172, x291_173, x291_176, x291_177, x291_178, x291_181, x291_182, x291_185, x291_186, x291_187, x291_188, x291_191, x291_192, x291_193, x291_196, x291_197, x291_200, x291_201, x291_202, x291_203, x291_204, x291_207, x291_208, x291_209, x291_212, x291_213, x291_214, x291_215, x291_217, x291_218, x291_219, x291_220, x291_221, x291_224, x291_226, x291_227, x291_230, x291_231, x291_232, x291_233, x291_235, x291_236, x291_237, x291_238, x291_239, ↓reduceIte, Bool.false_eq_true, Nat.reduceAdd, Nat.reduceLT, Nat.reduceLeDiff, Nat.reduceSub, Nat.reduceEqDiff, Int.reduceToNat, Int.reduceEq, Int.reduceLT, Int.reduceLE, Int.reduceAdd, Int.reduceSub, zg, zI, zJ, zR, zst, zkl, zn, zcat, zok, zraw, List.length_cons, List.length_nil, Option.toList, List.nil_append, List.cons_append, true_and, and_true, if_true, if_false, ne_eq, not_true, not_false_eq_true, and_self, true_or, or_true, false_or, or_false, false_and, and_false, b_138 hm, hd0]
      refine mAsItIs (d := D - 1) (by omega) h.1 (fun t ht => by rw [eg t ht]; exact gn_z _ _ t) (fun μ1 f h1 => ?_)
      have S1 : MS θ σ s μ1 := MS_fr h f (by decide) (fun j _ => by rw [f 138 (by decide)])
      simp only [x291_0, x291_1, x291_84, x291_85, x291_88, x291_89, x291_92, x291_93, x291_94, x291_95, x291_98, x291_99, x291_102, x291_103, x291_104, x291_105, x291_108, x291_109, x291_112, x291_113, x291_114, x291_115, x291_118, x291_119, x291_122, x291_123, x291_124, x291_125, x291_128, x291_129, x291_132, x291_133, x291_136, x291_137, x291_138, x291_139, x291_142, x291_143, x291_144, x291_147, x291_148, x291_149, x291_152, x291_153, x291_154, x291_157, x291_158, x291_159, x291_162, x291_163, x291_164, x291_167, x291_168, x291_171, x291_172, x291_173, x291_176, x291_177, x291_178, x291_181, x291_182, x291_185, x291_186, x291_187, x291_188, x291_191, x291_192, x291_193, x291_196, x291_197, x291_200, x291_201, x291_202, x291_203, x291_204, x291_207, x291_208, x291_209, x291_212, x291_213, x291_214, x291_215, x291_217, x291_218, x291_219, x291_220, x291_221, x291_224, x291_226, x291_227, x291_230, x291_231, x291_232, x291_233, x291_235, x291_236, x291_237, x291_238, x291_239, ↓reduceIte, Bool.false_eq_true, Nat.reduceAdd, Nat.reduceLT, Nat.reduceLeDiff, Nat.reduceSub, Nat.reduceEqDiff, Int.reduceToNat, Int.reduceEq, Int.reduceLT, Int.reduceLE, Int.reduceAdd, Int.reduceSub, zg, zI, zJ, zR, zst, zkl, zn, zcat, zok, zraw, List.length_cons, List.length_nil, Option.toList, List.nil_append, List.cons_append, true_and, and_true, if_true, if_false, ne_eq, not_true, not_false_eq_true, and_self, true_or, or_true, false_or, or_false, false_and, and_false, b_138 hm, hd0, mTiles _ S1.1]
      refine mHoles (d := D - 1) (lost := gnO (sT σ) (gR (sG σ))) (by omega) S1.1 ⟨gn_z _ _, fun t ht => by rw [h1 t ht, eg t ht]⟩ ?_
      have hq := hQ2 μ1 (MLe_fr f (by decide)) S1
      unfold vCount at hq
      rw [if_neg (by decide), if_neg (by decide), if_neg (by decide), if_neg (by decide), if_pos rfl] at hq
      generalize hlO (sT σ) (gnO (sT σ) (gR (sG σ))) = x at hb hq ⊢
      have l1 : -2147483648 ≤ ((tn (sT σ) : Nat) : Int) - x := by omega
      have l2 : ((tn (sT σ) : Nat) : Int) - x ≤ 2147483647 := by omega
      simp only [x291_0, x291_1, x291_84, x291_85, x291_88, x291_89, x291_92, x291_93, x291_94, x291_95, x291_98, x291_99, x291_102, x291_103, x291_104, x291_105, x291_108, x291_109, x291_112, x291_113, x291_114, x291_115, x291_118, x291_119, x291_122, x291_123, x291_124, x291_125, x291_128, x291_129, x291_132, x291_133, x291_136, x291_137, x291_138, x291_139, x291_142, x291_143, x291_144, x291_147, x291_148, x291_149, x291_152, x291_153, x291_154, x291_157, x291_158, x291_159, x291_162, x291_163, x291_164, x291_167, x291_168, x291_171, x291_172, x291_173, x291_176, x291_177, x291_178, x291_181, x291_182, x291_185, x291_186, x291_187, x291_188, x291_191, x291_192, x291_193, x291_196, x291_197, x291_200, x291_201, x291_202, x291_203, x291_204, x291_207, x291_208, x291_209, x291_212, x291_213, x291_214, x291_215, x291_217, x291_218, x291_219, x291_220, x291_221, x291_224, x291_226, x291_227, x291_230, x291_231, x291_232, x291_233, x291_235, x291_236, x291_237, x291_238, x291_239, ↓reduceIte, Bool.false_eq_true, Nat.reduceAdd, Nat.reduceLT, Nat.reduceLeDiff, Nat.reduceSub, Nat.reduceEqDiff, Int.reduceToNat, Int.reduceEq, Int.reduceLT, Int.reduceLE, Int.reduceAdd, Int.reduceSub, zg, zI, zJ, zR, zst, zkl, zn, zcat, zok, zraw, List.length_cons, List.length_nil, Option.toList, List.nil_append, List.cons_append, true_and, and_true, if_true, if_false, ne_eq, not_true, not_false_eq_true, and_self, true_or, or_true, false_or, or_false, false_and, and_false, w32_i l1 l2]
      exact hq
    · subst q
      simp only [x291_0, x291_1, x291_84, x291_85, x291_88, x291_89, x291_92, x291_93, x291_94, x291_95, x291_98, x291_99, x291_102, x291_103, x291_104, x291_105, x291_108, x291_109, x291_112, x291_113, x291_114, x291_115, x291_118, x291_119, x291_122, x291_123, x291_124, x291_125, x291_128, x291_129, x291_132, x291_133, x291_136, x291_137, x291_138, x291_139, x291_142, x291_143, x291_144, x291_147, x291_148, x291_149, x291_152, x291_153, x291_154, x291_157, x291_158, x291_159, x291_162, x291_163, x291_164, x291_167, x291_168, x291_171, x291_172, x291_173, x291_176, x291_177, x291_178, x291_181, x291_182, x291_185, x291_186, x291_187, x291_188, x291_191, x291_192, x291_193, x291_196, x291_197, x291_200, x291_201, x291_202, x291_203, x291_204, x291_207, x291_208, x291_209, x291_212, x291_213, x291_214, x291_215, x291_217, x291_218, x291_219, x291_220, x291_221, x291_224, x291_226, x291_227, x291_230, x291_231, x291_232, x291_233, x291_235, x291_236, x291_237, x291_238, x291_239, ↓reduceIte, Bool.false_eq_true, Nat.reduceAdd, Nat.reduceLT, Nat.reduceLeDiff, Nat.reduceSub, Nat.reduceEqDiff, Int.reduceToNat, Int.reduceEq, Int.reduceLT, Int.reduceLE, Int.reduceAdd, Int.reduceSub, zg, zI, zJ, zR, zst, zkl, zn, zcat, zok, zraw, List.length_cons, List.length_nil, Option.toList, List.nil_append, List.cons_append, true_and, and_true, if_true, if_false, ne_eq, not_true, not_false_eq_true, and_self, true_or, or_true, false_or, or_false, false_and, and_false, b_138 hm, h.2.2.2.2.1.1]
      exact hq0
    · subst q
      simp only [x291_0, x291_1, x291_84, x291_85, x291_88, x291_89, x291_92, x291_93, x291_94, x291_95, x291_98, x291_99, x291_102, x291_103, x291_104, x291_105, x291_108, x291_109, x291_112, x291_113, x291_114, x291_115, x291_118, x291_119, x291_122, x291_123, x291_124, x291_125, x291_128, x291_129, x291_132, x291_133, x291_136, x291_137, x291_138, x291_139, x291_142, x291_143, x291_144, x291_147, x291_148, x291_149, x291_152, x291_153, x291_154, x291_157, x291_158, x291_159, x291_162, x291_163, x291_164, x291_167, x291_168, x291_171, x291_172, x291_173, x291_176, x291_177, x291_178, x291_181, x291_182, x291_185, x291_186, x291_187, x291_188, x291_191, x291_192, x291_193, x291_196, x291_197, x291_200, x291_201, x291_202, x291_203, x291_204, x291_207, x291_208, x291_209, x291_212, x291_213, x291_214, x291_215, x291_217, x291_218, x291_219, x291_220, x291_221, x291_224, x291_226, x291_227, x291_230, x291_231, x291_232, x291_233, x291_235, x291_236, x291_237, x291_238, x291_239, ↓reduceIte, Bool.false_eq_true, Nat.reduceAdd, Nat.reduceLT, Nat.reduceLeDiff, Nat.reduceSub, Nat.reduceEqDiff, Int.reduceToNat, Int.reduceEq, Int.reduceLT, Int.reduceLE, Int.reduceAdd, Int.reduceSub, zg, zI, zJ, zR, zst, zkl, zn, zcat, zok, zraw, List.length_cons, List.length_nil, Option.toList, List.nil_append, List.cons_append, true_and, and_true, if_true, if_false, ne_eq, not_true, not_false_eq_true, and_self, true_or, or_true, false_or, or_false, false_and, and_false, b_138 hm, h.2.2.1.2.2.1.1]
      exact hq0
    · subst q
      simp only [x291_0, x291_1, x291_84, x291_85, x291_88, x291_89, x291_92, x291_93, x291_94, x291_95, x291_98, x291_99, x291_102, x291_103, x291_104, x291_105, x291_108, x291_109, x291_112, x291_113, x291_114, x291_115, x291_118, x291_119, x291_122, x291_123, x291_124, x291_125, x291_128, x291_129, x291_132, x291_133, x291_136, x291_137, x291_138, x291_139, x291_142, x291_143, x291_144, x291_147, x291_148, x291_149, x291_152, x291_153, x291_154, x291_157, x291_158, x291_159, x291_162, x291_163, x291_164, x291_167, x291_168, x291_171, x291_172, x291_173, x291_176, x291_177, x291_178, x291_181, x291_182, x291_185, x291_186, x291_187, x291_188, x291_191, x291_192, x291_193, x291_196, x291_197, x291_200, x291_201, x291_202, x291_203, x291_204, x291_207, x291_208, x291_209, x291_212, x291_213, x291_214, x291_215, x291_217, x291_218, x291_219, x291_220, x291_221, x291_224, x291_226, x291_227, x291_230, x291_231, x291_232, x291_233, x291_235, x291_236, x291_237, x291_238, x291_239, ↓reduceIte, Bool.false_eq_true, Nat.reduceAdd, Nat.reduceLT, Nat.reduceLeDiff, Nat.reduceSub, Nat.reduceEqDiff, Int.reduceToNat, Int.reduceEq, Int.reduceLT, Int.reduceLE, Int.reduceAdd, Int.reduceSub, zg, zI, zJ, zR, zst, zkl, zn, zcat, zok, zraw, List.length_cons, List.length_nil, Option.toList, List.nil_append, List.cons_append, true_and, and_true, if_true, if_false, ne_eq, not_true, not_false_eq_true, and_self, true_or, or_true, false_or, or_false, false_and, and_false, b_138 hm, h.2.2.1.2.2.2.1]
      exact hq0
    · subst q
      simp only [x291_0, x291_1, x291_84, x291_85, x291_88, x291_89, x291_92, x291_93, x291_94, x291_95, x291_98, x291_99, x291_102, x291_103, x291_104, x291_105, x291_108, x291_109, x291_112, x291_113, x291_114, x291_115, x291_118, x291_119, x291_122, x291_123, x291_124, x291_125, x291_128, x291_129, x291_132, x291_133, x291_136, x291_137, x291_138, x291_139, x291_142, x291_143, x291_144, x291_147, x291_148, x291_149, x291_152, x291_153, x291_154, x291_157, x291_158, x291_159, x291_162, x291_163, x291_164, x291_167, x291_168, x291_171, x291_172, x291_173, x291_176, x291_177, x291_178, x291_181, x291_182, x291_185, x291_186, x291_187, x291_188, x291_191, x291_192, x291_193, x291_196, x291_197, x291_200, x291_201, x291_202, x291_203, x291_204, x291_207, x291_208, x291_209, x291_212, x291_213, x291_214, x291_215, x291_217, x291_218, x291_219, x291_220, x291_221, x291_224, x291_226, x291_227, x291_230, x291_231, x291_232, x291_233, x291_235, x291_236, x291_237, x291_238, x291_239, ↓reduceIte, Bool.false_eq_true, Nat.reduceAdd, Nat.reduceLT, Nat.reduceLeDiff, Nat.reduceSub, Nat.reduceEqDiff, Int.reduceToNat, Int.reduceEq, Int.reduceLT, Int.reduceLE, Int.reduceAdd, Int.reduceSub, zg, zI, zJ, zR, zst, zkl, zn, zcat, zok, zraw, List.length_cons, List.length_nil, Option.toList, List.nil_append, List.cons_append, true_and, and_true, if_true, if_false, ne_eq, not_true, not_false_eq_true, and_self, true_or, or_true, false_or, or_false, false_and, and_false, b_138 hm, h.2.2.2.2.2.1.1]
      exact hq0
    · subst q
      rw [if_neg (by decide), if_neg (by decide), if_neg (by decide), if_neg (by decide), if_neg (by decide), if_neg (by decide), if_neg (by decide), if_neg (by decide), if_neg (by decide), if_pos rfl] at hq0
      have e0 := MSl_9 hl (show 0 < 3 by decide)
      have e1 := MSl_9 hl (show 1 < 3 by decide)
      have e2 := MSl_9 hl (show 2 < 3 by decide)
      have es : sm (hN σ) 3 = 0 + hN σ 0 + hN σ 1 + hN σ 2 := rfl
      rw [es] at hq0
      have x0 := x_198 hm (show (0 : Int) ≤ 0 by decide) (show (0 : Int) < 3 by decide)
      have x1 := x_198 hm (show (0 : Int) ≤ 1 by decide) (show (1 : Int) < 3 by decide)
      have x2 := x_198 hm (show (0 : Int) ≤ 2 by decide) (show (2 : Int) < 3 by decide)
      have wa : w32 (0 : Int) = 0 := by decide
      have wb : w32 (1 : Int) = 1 := by decide
      have wc : w32 (2 : Int) = 2 := by decide
      have wd : w32 (3 : Int) = 3 := by decide
      rcases hN_z σ 0 with g0 | g0 <;> rcases hN_z σ 1 with g1 | g1 <;> rcases hN_z σ 2 with g2 | g2 <;>
        (rw [g0] at e0; rw [g1] at e1; rw [g2] at e2; rw [g0, g1, g2] at hq0
         simp only [x291_0, x291_1, x291_84, x291_85, x291_88, x291_89, x291_92, x291_93, x291_94, x291_95, x291_98, x291_99, x291_102, x291_103, x291_104, x291_105, x291_108, x291_109, x291_112, x291_113, x291_114, x291_115, x291_118, x291_119, x291_122, x291_123, x291_124, x291_125, x291_128, x291_129, x291_132, x291_133, x291_136, x291_137, x291_138, x291_139, x291_142, x291_143, x291_144, x291_147, x291_148, x291_149, x291_152, x291_153, x291_154, x291_157, x291_158, x291_159, x291_162, x291_163, x291_164, x291_167, x291_168, x291_171, x291_172, x291_173, x291_176, x291_177, x291_178, x291_181, x291_182, x291_185, x291_186, x291_187, x291_188, x291_191, x291_192, x291_193, x291_196, x291_197, x291_200, x291_201, x291_202, x291_203, x291_204, x291_207, x291_208, x291_209, x291_212, x291_213, x291_214, x291_215, x291_217, x291_218, x291_219, x291_220, x291_221, x291_224, x291_226, x291_227, x291_230, x291_231, x291_232, x291_233, x291_235, x291_236, x291_237, x291_238, x291_239, ↓reduceIte, Bool.false_eq_true, Nat.reduceAdd, Nat.reduceLT, Nat.reduceLeDiff, Nat.reduceSub, Nat.reduceEqDiff, Int.reduceToNat, Int.reduceEq, Int.reduceLT, Int.reduceLE, Int.reduceAdd, Int.reduceSub, zg, zI, zJ, zR, zst, zkl, zn, zcat, zok, zraw, List.length_cons, List.length_nil, Option.toList, List.nil_append, List.cons_append, true_and, and_true, if_true, if_false, ne_eq, not_true, not_false_eq_true, and_self, true_or, or_true, false_or, or_false, false_and, and_false, b_138 hm, r_138_84 hm, x0, x1, x2, n_198 hm, Int.toNat_zero, Int.toNat_one, e0, e1, e2, wa, wb, wc, wd]
         exact hq0)
    · by_cases k12 : k ≤ 12
      · rw [if_neg (by omega), if_pos ⟨q, k12⟩] at hq0
        have e := (t5 (k - 10).toNat (by omega)).1
        have ei : 3 * s + (k - 10).toNat = (3 * (s : Int) + k - 10).toNat := by omega
        rw [ei] at e
        have i1 : (0 : Int) ≤ 3 * (s : Int) + k - 10 := by omega
        have i2 : 3 * (s : Int) + k - 10 < 6 := by omega
        have a1 : -2147483648 ≤ 3 * (s : Int) := by omega
        have a2 : 3 * (s : Int) ≤ 2147483647 := by omega
        have a3 : -2147483648 ≤ 3 * (s : Int) + k := by omega
        have a4 : 3 * (s : Int) + k ≤ 2147483647 := by omega
        have a5 : -2147483648 ≤ 3 * (s : Int) + k - 10 := by omega
        have a6 : 3 * (s : Int) + k - 10 ≤ 2147483647 := by omega
        have X := x_151 hm i1 i2
        obtain q | q | q : k = 10 ∨ k = 11 ∨ k = 12 := by omega
        · subst q
          simp only [x291_0, x291_1, x291_84, x291_85, x291_88, x291_89, x291_92, x291_93, x291_94, x291_95, x291_98, x291_99, x291_102, x291_103, x291_104, x291_105, x291_108, x291_109, x291_112, x291_113, x291_114, x291_115, x291_118, x291_119, x291_122, x291_123, x291_124, x291_125, x291_128, x291_129, x291_132, x291_133, x291_136, x291_137, x291_138, x291_139, x291_142, x291_143, x291_144, x291_147, x291_148, x291_149, x291_152, x291_153, x291_154, x291_157, x291_158, x291_159, x291_162, x291_163, x291_164, x291_167, x291_168, x291_171, x291_172, x291_173, x291_176, x291_177, x291_178, x291_181, x291_182, x291_185, x291_186, x291_187, x291_188, x291_191, x291_192, x291_193, x291_196, x291_197, x291_200, x291_201, x291_202, x291_203, x291_204, x291_207, x291_208, x291_209, x291_212, x291_213, x291_214, x291_215, x291_217, x291_218, x291_219, x291_220, x291_221, x291_224, x291_226, x291_227, x291_230, x291_231, x291_232, x291_233, x291_235, x291_236, x291_237, x291_238, x291_239, ↓reduceIte, Bool.false_eq_true, Nat.reduceAdd, Nat.reduceLT, Nat.reduceLeDiff, Nat.reduceSub, Nat.reduceEqDiff, Int.reduceToNat, Int.reduceEq, Int.reduceLT, Int.reduceLE, Int.reduceAdd, Int.reduceSub, zg, zI, zJ, zR, zst, zkl, zn, zcat, zok, zraw, List.length_cons, List.length_nil, Option.toList, List.nil_append, List.cons_append, true_and, and_true, if_true, if_false, ne_eq, not_true, not_false_eq_true, and_self, true_or, or_true, false_or, or_false, false_and, and_false, b_138 hm, r_138_26 hm, h18, w32_i a1 a2, w32_i a3 a4, w32_i a5 a6, X, e]
          exact hq0
        · subst q
          simp only [x291_0, x291_1, x291_84, x291_85, x291_88, x291_89, x291_92, x291_93, x291_94, x291_95, x291_98, x291_99, x291_102, x291_103, x291_104, x291_105, x291_108, x291_109, x291_112, x291_113, x291_114, x291_115, x291_118, x291_119, x291_122, x291_123, x291_124, x291_125, x291_128, x291_129, x291_132, x291_133, x291_136, x291_137, x291_138, x291_139, x291_142, x291_143, x291_144, x291_147, x291_148, x291_149, x291_152, x291_153, x291_154, x291_157, x291_158, x291_159, x291_162, x291_163, x291_164, x291_167, x291_168, x291_171, x291_172, x291_173, x291_176, x291_177, x291_178, x291_181, x291_182, x291_185, x291_186, x291_187, x291_188, x291_191, x291_192, x291_193, x291_196, x291_197, x291_200, x291_201, x291_202, x291_203, x291_204, x291_207, x291_208, x291_209, x291_212, x291_213, x291_214, x291_215, x291_217, x291_218, x291_219, x291_220, x291_221, x291_224, x291_226, x291_227, x291_230, x291_231, x291_232, x291_233, x291_235, x291_236, x291_237, x291_238, x291_239, ↓reduceIte, Bool.false_eq_true, Nat.reduceAdd, Nat.reduceLT, Nat.reduceLeDiff, Nat.reduceSub, Nat.reduceEqDiff, Int.reduceToNat, Int.reduceEq, Int.reduceLT, Int.reduceLE, Int.reduceAdd, Int.reduceSub, zg, zI, zJ, zR, zst, zkl, zn, zcat, zok, zraw, List.length_cons, List.length_nil, Option.toList, List.nil_append, List.cons_append, true_and, and_true, if_true, if_false, ne_eq, not_true, not_false_eq_true, and_self, true_or, or_true, false_or, or_false, false_and, and_false, b_138 hm, r_138_26 hm, h18, w32_i a1 a2, w32_i a3 a4, w32_i a5 a6, X, e]
          exact hq0
        · subst q
          simp only [x291_0, x291_1, x291_84, x291_85, x291_88, x291_89, x291_92, x291_93, x291_94, x291_95, x291_98, x291_99, x291_102, x291_103, x291_104, x291_105, x291_108, x291_109, x291_112, x291_113, x291_114, x291_115, x291_118, x291_119, x291_122, x291_123, x291_124, x291_125, x291_128, x291_129, x291_132, x291_133, x291_136, x291_137, x291_138, x291_139, x291_142, x291_143, x291_144, x291_147, x291_148, x291_149, x291_152, x291_153, x291_154, x291_157, x291_158, x291_159, x291_162, x291_163, x291_164, x291_167, x291_168, x291_171, x291_172, x291_173, x291_176, x291_177, x291_178, x291_181, x291_182, x291_185, x291_186, x291_187, x291_188, x291_191, x291_192, x291_193, x291_196, x291_197, x291_200, x291_201, x291_202, x291_203, x291_204, x291_207, x291_208, x291_209, x291_212, x291_213, x291_214, x291_215, x291_217, x291_218, x291_219, x291_220, x291_221, x291_224, x291_226, x291_227, x291_230, x291_231, x291_232, x291_233, x291_235, x291_236, x291_237, x291_238, x291_239, ↓reduceIte, Bool.false_eq_true, Nat.reduceAdd, Nat.reduceLT, Nat.reduceLeDiff, Nat.reduceSub, Nat.reduceEqDiff, Int.reduceToNat, Int.reduceEq, Int.reduceLT, Int.reduceLE, Int.reduceAdd, Int.reduceSub, zg, zI, zJ, zR, zst, zkl, zn, zcat, zok, zraw, List.length_cons, List.length_nil, Option.toList, List.nil_append, List.cons_append, true_and, and_true, if_true, if_false, ne_eq, not_true, not_false_eq_true, and_self, true_or, or_true, false_or, or_false, false_and, and_false, b_138 hm, r_138_26 hm, h18, w32_i a1 a2, w32_i a3 a4, w32_i a5 a6, X, e]
          exact hq0
      · rw [if_neg (by omega), if_neg (by omega), if_pos ⟨by omega, k0.2⟩] at hq0
        have e := t3 (k - 13).toNat (by omega)
        have ei : 6 * s + (k - 13).toNat = (6 * (s : Int) + k - 13).toNat := by omega
        have ej : (k - 13).toNat + 3 = (k - 10).toNat := by omega
        rw [ei, ej] at e
        have i1 : (0 : Int) ≤ 6 * (s : Int) + k - 13 := by omega
        have i2 : 6 * (s : Int) + k - 13 < 12 := by omega
        have a1 : -2147483648 ≤ 6 * (s : Int) := by omega
        have a2 : 6 * (s : Int) ≤ 2147483647 := by omega
        have a3 : -2147483648 ≤ 6 * (s : Int) + k := by omega
        have a4 : 6 * (s : Int) + k ≤ 2147483647 := by omega
        have a5 : -2147483648 ≤ 6 * (s : Int) + k - 13 := by omega
        have a6 : 6 * (s : Int) + k - 13 ≤ 2147483647 := by omega
        have X := x_150 hm i1 i2
        obtain q | q | q | q : k = 13 ∨ k = 14 ∨ k = 15 ∨ k = 16 := by omega
        · subst q
          simp only [x291_0, x291_1, x291_84, x291_85, x291_88, x291_89, x291_92, x291_93, x291_94, x291_95, x291_98, x291_99, x291_102, x291_103, x291_104, x291_105, x291_108, x291_109, x291_112, x291_113, x291_114, x291_115, x291_118, x291_119, x291_122, x291_123, x291_124, x291_125, x291_128, x291_129, x291_132, x291_133, x291_136, x291_137, x291_138, x291_139, x291_142, x291_143, x291_144, x291_147, x291_148, x291_149, x291_152, x291_153, x291_154, x291_157, x291_158, x291_159, x291_162, x291_163, x291_164, x291_167, x291_168, x291_171, x291_172, x291_173, x291_176, x291_177, x291_178, x291_181, x291_182, x291_185, x291_186, x291_187, x291_188, x291_191, x291_192, x291_193, x291_196, x291_197, x291_200, x291_201, x291_202, x291_203, x291_204, x291_207, x291_208, x291_209, x291_212, x291_213, x291_214, x291_215, x291_217, x291_218, x291_219, x291_220, x291_221, x291_224, x291_226, x291_227, x291_230, x291_231, x291_232, x291_233, x291_235, x291_236, x291_237, x291_238, x291_239, ↓reduceIte, Bool.false_eq_true, Nat.reduceAdd, Nat.reduceLT, Nat.reduceLeDiff, Nat.reduceSub, Nat.reduceEqDiff, Int.reduceToNat, Int.reduceEq, Int.reduceLT, Int.reduceLE, Int.reduceAdd, Int.reduceSub, zg, zI, zJ, zR, zst, zkl, zn, zcat, zok, zraw, List.length_cons, List.length_nil, Option.toList, List.nil_append, List.cons_append, true_and, and_true, if_true, if_false, ne_eq, not_true, not_false_eq_true, and_self, true_or, or_true, false_or, or_false, false_and, and_false, b_138 hm, r_138_25 hm, h18, w32_i a1 a2, w32_i a3 a4, w32_i a5 a6, X, e]
          exact hq0
        · subst q
          simp only [x291_0, x291_1, x291_84, x291_85, x291_88, x291_89, x291_92, x291_93, x291_94, x291_95, x291_98, x291_99, x291_102, x291_103, x291_104, x291_105, x291_108, x291_109, x291_112, x291_113, x291_114, x291_115, x291_118, x291_119, x291_122, x291_123, x291_124, x291_125, x291_128, x291_129, x291_132, x291_133, x291_136, x291_137, x291_138, x291_139, x291_142, x291_143, x291_144, x291_147, x291_148, x291_149, x291_152, x291_153, x291_154, x291_157, x291_158, x291_159, x291_162, x291_163, x291_164, x291_167, x291_168, x291_171, x291_172, x291_173, x291_176, x291_177, x291_178, x291_181, x291_182, x291_185, x291_186, x291_187, x291_188, x291_191, x291_192, x291_193, x291_196, x291_197, x291_200, x291_201, x291_202, x291_203, x291_204, x291_207, x291_208, x291_209, x291_212, x291_213, x291_214, x291_215, x291_217, x291_218, x291_219, x291_220, x291_221, x291_224, x291_226, x291_227, x291_230, x291_231, x291_232, x291_233, x291_235, x291_236, x291_237, x291_238, x291_239, ↓reduceIte, Bool.false_eq_true, Nat.reduceAdd, Nat.reduceLT, Nat.reduceLeDiff, Nat.reduceSub, Nat.reduceEqDiff, Int.reduceToNat, Int.reduceEq, Int.reduceLT, Int.reduceLE, Int.reduceAdd, Int.reduceSub, zg, zI, zJ, zR, zst, zkl, zn, zcat, zok, zraw, List.length_cons, List.length_nil, Option.toList, List.nil_append, List.cons_append, true_and, and_true, if_true, if_false, ne_eq, not_true, not_false_eq_true, and_self, true_or, or_true, false_or, or_false, false_and, and_false, b_138 hm, r_138_25 hm, h18, w32_i a1 a2, w32_i a3 a4, w32_i a5 a6, X, e]
          exact hq0
        · subst q
          simp only [x291_0, x291_1, x291_84, x291_85, x291_88, x291_89, x291_92, x291_93, x291_94, x291_95, x291_98, x291_99, x291_102, x291_103, x291_104, x291_105, x291_108, x291_109, x291_112, x291_113, x291_114, x291_115, x291_118, x291_119, x291_122, x291_123, x291_124, x291_125, x291_128, x291_129, x291_132, x291_133, x291_136, x291_137, x291_138, x291_139, x291_142, x291_143, x291_144, x291_147, x291_148, x291_149, x291_152, x291_153, x291_154, x291_157, x291_158, x291_159, x291_162, x291_163, x291_164, x291_167, x291_168, x291_171, x291_172, x291_173, x291_176, x291_177, x291_178, x291_181, x291_182, x291_185, x291_186, x291_187, x291_188, x291_191, x291_192, x291_193, x291_196, x291_197, x291_200, x291_201, x291_202, x291_203, x291_204, x291_207, x291_208, x291_209, x291_212, x291_213, x291_214, x291_215, x291_217, x291_218, x291_219, x291_220, x291_221, x291_224, x291_226, x291_227, x291_230, x291_231, x291_232, x291_233, x291_235, x291_236, x291_237, x291_238, x291_239, ↓reduceIte, Bool.false_eq_true, Nat.reduceAdd, Nat.reduceLT, Nat.reduceLeDiff, Nat.reduceSub, Nat.reduceEqDiff, Int.reduceToNat, Int.reduceEq, Int.reduceLT, Int.reduceLE, Int.reduceAdd, Int.reduceSub, zg, zI, zJ, zR, zst, zkl, zn, zcat, zok, zraw, List.length_cons, List.length_nil, Option.toList, List.nil_append, List.cons_append, true_and, and_true, if_true, if_false, ne_eq, not_true, not_false_eq_true, and_self, true_or, or_true, false_or, or_false, false_and, and_false, b_138 hm, r_138_25 hm, h18, w32_i a1 a2, w32_i a3 a4, w32_i a5 a6, X, e]
          exact hq0
        · subst q
          simp only [x291_0, x291_1, x291_84, x291_85, x291_88, x291_89, x291_92, x291_93, x291_94, x291_95, x291_98, x291_99, x291_102, x291_103, x291_104, x291_105, x291_108, x291_109, x291_112, x291_113, x291_114, x291_115, x291_118, x291_119, x291_122, x291_123, x291_124, x291_125, x291_128, x291_129, x291_132, x291_133, x291_136, x291_137, x291_138, x291_139, x291_142, x291_143, x291_144, x291_147, x291_148, x291_149, x291_152, x291_153, x291_154, x291_157, x291_158, x291_159, x291_162, x291_163, x291_164, x291_167, x291_168, x291_171, x291_172, x291_173, x291_176, x291_177, x291_178, x291_181, x291_182, x291_185, x291_186, x291_187, x291_188, x291_191, x291_192, x291_193, x291_196, x291_197, x291_200, x291_201, x291_202, x291_203, x291_204, x291_207, x291_208, x291_209, x291_212, x291_213, x291_214, x291_215, x291_217, x291_218, x291_219, x291_220, x291_221, x291_224, x291_226, x291_227, x291_230, x291_231, x291_232, x291_233, x291_235, x291_236, x291_237, x291_238, x291_239, ↓reduceIte, Bool.false_eq_true, Nat.reduceAdd, Nat.reduceLT, Nat.reduceLeDiff, Nat.reduceSub, Nat.reduceEqDiff, Int.reduceToNat, Int.reduceEq, Int.reduceLT, Int.reduceLE, Int.reduceAdd, Int.reduceSub, zg, zI, zJ, zR, zst, zkl, zn, zcat, zok, zraw, List.length_cons, List.length_nil, Option.toList, List.nil_append, List.cons_append, true_and, and_true, if_true, if_false, ne_eq, not_true, not_false_eq_true, and_self, true_or, or_true, false_or, or_false, false_and, and_false, b_138 hm, r_138_25 hm, h18, w32_i a1 a2, w32_i a3 a4, w32_i a5 a6, X, e]
          exact hq0
  · have n0 : ¬ k = 0 := by omega
    have n1 : ¬ k = 1 := by omega
    have n2 : ¬ k = 2 := by omega
    have n3 : ¬ k = 3 := by omega
    have n4 : ¬ k = 4 := by omega
    have n5 : ¬ k = 5 := by omega
    have n6 : ¬ k = 6 := by omega
    have n7 : ¬ k = 7 := by omega
    have n8 : ¬ k = 8 := by omega
    have n9 : ¬ k = 9 := by omega
    have nA : ¬ k = 10 := by omega
    have nB : ¬ k = 11 := by omega
    have nC : ¬ k = 12 := by omega
    have nD : ¬ k = 13 := by omega
    have nE : ¬ k = 14 := by omega
    have nF : ¬ k = 15 := by omega
    have nG : ¬ k = 16 := by omega
    rw [if_neg (by omega), if_neg (by omega), if_neg (by omega), if_neg n3, if_neg n4, if_neg n5, if_neg n6, if_neg n7, if_neg n8, if_neg n9] at hq0
    simp only [x291_0, x291_1, x291_84, x291_85, x291_88, x291_89, x291_92, x291_93, x291_94, x291_95, x291_98, x291_99, x291_102, x291_103, x291_104, x291_105, x291_108, x291_109, x291_112, x291_113, x291_114, x291_115, x291_118, x291_119, x291_122, x291_123, x291_124, x291_125, x291_128, x291_129, x291_132, x291_133, x291_136, x291_137, x291_138, x291_139, x291_142, x291_143, x291_144, x291_147, x291_148, x291_149, x291_152, x291_153, x291_154, x291_157, x291_158, x291_159, x291_162, x291_163, x291_164, x291_167, x291_168, x291_171, x291_172, x291_173, x291_176, x291_177, x291_178, x291_181, x291_182, x291_185, x291_186, x291_187, x291_188, x291_191, x291_192, x291_193, x291_196, x291_197, x291_200, x291_201, x291_202, x291_203, x291_204, x291_207, x291_208, x291_209, x291_212, x291_213, x291_214, x291_215, x291_217, x291_218, x291_219, x291_220, x291_221, x291_224, x291_226, x291_227, x291_230, x291_231, x291_232, x291_233, x291_235, x291_236, x291_237, x291_238, x291_239, ↓reduceIte, Bool.false_eq_true, Nat.reduceAdd, Nat.reduceLT, Nat.reduceLeDiff, Nat.reduceSub, Nat.reduceEqDiff, Int.reduceToNat, Int.reduceEq, Int.reduceLT, Int.reduceLE, Int.reduceAdd, Int.reduceSub, zg, zI, zJ, zR, zst, zkl, zn, zcat, zok, zraw, List.length_cons, List.length_nil, Option.toList, List.nil_append, List.cons_append, true_and, and_true, if_true, if_false, ne_eq, not_true, not_false_eq_true, and_self, true_or, or_true, false_or, or_false, false_and, and_false, n0, n1, n2, n3, n4, n5, n6, n7, n8, n9, nA, nB, nC, nD, nE, nF, nG]
    exact hq0
end CO
