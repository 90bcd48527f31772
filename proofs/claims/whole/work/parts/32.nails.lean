/-! NAILING -/
abbrev zN : Type := Int × List Nat
def s1O (τ : zT) (ρ : zF) (G : zU) (S : zN) (t : Nat) : zN := if canO ρ t = true ∧ haO τ (naF ρ t) G < S.1 then (haO τ (naF ρ t) G, [t]) else S
def n1O (τ : zT) (ρ : zF) (G : zU) (S : zN) : Nat → zN
  | 0 => S
  | n + 1 => s1O τ ρ G (n1O τ ρ G S n) n
def s2O (τ : zT) (ρ : zF) (G : zU) (a : Nat) (S : zN) (t : Nat) : zN := if (a < t ∧ canO ρ t = true) ∧ haO τ (naF (naF ρ a) t) G < S.1 then (haO τ (naF (naF ρ a) t) G, [a, t]) else S
def n2O (τ : zT) (ρ : zF) (G : zU) (a : Nat) (S : zN) : Nat → zN
  | 0 => S
  | n + 1 => s2O τ ρ G a (n2O τ ρ G a S n) n
def n3O (τ : zT) (ρ : zF) (G : zU) (S : zN) : Nat → zN
  | 0 => S
  | n + 1 => if canO ρ n = true then n2O τ ρ G n (n3O τ ρ G S n) (tn τ) else n3O τ ρ G S n
def nlO (τ : zT) (ρ : zF) (G : zU) (n : Nat) : zN :=
  let S1 := if 1 ≤ n then n1O τ ρ G (haO τ ρ G, []) (tn τ) else (haO τ ρ G, [])
  if 2 ≤ n then n3O τ ρ G S1 (tn τ) else S1
theorem ha_nn {τ : zT} (hw : wfT τ) (ρ : zF) {G : zU} (hG : wfU G) : 0 ≤ haO τ ρ G ∧ haO τ ρ G ≤ 1296 := by
  have := ha_b hw ρ hG (Nat.le_refl G.1)
  have h4 := hG.1
  unfold haO; omega
theorem n1_stay {τ : zT} (hw : wfT τ) {ρ : zF} {G : zU} (hG : wfU G) {S : zN} {t : Nat} (h : (n1O τ ρ G S t).1 ≤ 0) : ∀ k, n1O τ ρ G S (t + k) = n1O τ ρ G S t := by
  intro k
  induction k with
  | zero => rfl
  | succ k ih =>
    rw [← Nat.add_assoc, n1O, ih]
    unfold s1O
    rw [if_neg]
    have := ha_nn hw (naF ρ (t + k)) hG
    omega
theorem n2_stay {τ : zT} (hw : wfT τ) {ρ : zF} {G : zU} (hG : wfU G) {a : Nat} {S : zN} {t : Nat} (h : (n2O τ ρ G a S t).1 ≤ 0) : ∀ k, n2O τ ρ G a S (t + k) = n2O τ ρ G a S t := by
  intro k
  induction k with
  | zero => rfl
  | succ k ih =>
    rw [← Nat.add_assoc, n2O, ih]
    unfold s2O
    rw [if_neg]
    have := ha_nn hw (naF (naF ρ a) (t + k)) hG
    omega
theorem n3_stay {τ : zT} (hw : wfT τ) {ρ : zF} {G : zU} (hG : wfU G) {S : zN} {t : Nat} (h : (n3O τ ρ G S t).1 ≤ 0) : ∀ k, n3O τ ρ G S (t + k) = n3O τ ρ G S t := by
  intro k
  induction k with
  | zero => rfl
  | succ k ih =>
    rw [← Nat.add_assoc, n3O, ih]
    by_cases hc : canO ρ (t + k) = true
    · rw [if_pos hc]
      have := n2_stay hw hG (a := t + k) (S := n3O τ ρ G S t) (t := 0) (ρ := ρ) h (tn τ)
      rw [Nat.zero_add] at this
      exact this
    · rw [if_neg hc]
theorem n2_low {τ : zT} {ρ : zF} {G : zU} {a : Nat} {S : zN} : ∀ t, t ≤ a + 1 → n2O τ ρ G a S t = S := by
  intro t
  induction t with
  | zero => intro _; rfl
  | succ t ih =>
    intro ht
    rw [n2O, ih (by omega)]
    unfold s2O
    rw [if_neg]
    omega
/-- what the planner holds -/
def CP (S : zN) (μ : zM) : Prop := μ 104 3 = S.1 ∧ μ 104 2 = (S.2.length : Nat) ∧ S.2.length ≤ 2 ∧ ∀ i (h : i < S.2.length), μ 105 i = (S.2[i] : Nat)
def KN : List Nat := GA ++ [104, 105, 107, 109, 110, 111, 112, 113]
section NA
variable {θ : zS} {T U : Nat} {τ : zT} {Q : Option zV → zS → zM → Prop} {μ : zM} {ρ : zF} {G : zU}
theorem CP_fr {S : zN} {μ' : zM} (h2 : μ' 104 2 = μ 104 2) (h3 : μ' 104 3 = μ 104 3) (h5 : μ' 105 = μ 105) (h : CP S μ) : CP S μ' := by unfold CP; rw [h2, h3, h5]; exact h
theorem CF47_fr {A : List Nat} {μ' : zM} (h : CF τ ρ 47 μ) (hf : Fr A μ μ') (hA : ∀ a ∈ A, ¬ (47 ≤ a ∧ a ≤ 53)) : CF τ ρ 47 μ' := by
  obtain ⟨hr, hw, h1, h2, h3, h4⟩ := h
  have e : ∀ k, k ≤ 6 → μ' (47 + k) = μ (47 + k) := fun k hk => hf _ (fun hm => hA _ hm (by omega))
  have e0 := e 0 (by omega)
  simp only [Nat.add_zero] at e0
  exact ⟨hr, hw, by rw [e0]; exact h1, fun m t hm ht => by rw [e (m + 2) (by omega)]; exact h2 m t hm ht, by rw [e0]; exact h3, by rw [e0]; exact h4⟩
theorem CF107_fr {A : List Nat} {μ' : zM} (h : CF τ ρ 107 μ) (hf : Fr A μ μ') (hA : ∀ a ∈ A, ¬ (107 ≤ a ∧ a ≤ 113)) : CF τ ρ 107 μ' := by
  obtain ⟨hr, hw, h1, h2, h3, h4⟩ := h
  have e : ∀ k, k ≤ 6 → μ' (107 + k) = μ (107 + k) := fun k hk => hf _ (fun hm => hA _ hm (by omega))
  have e0 := e 0 (by omega)
  simp only [Nat.add_zero] at e0
  exact ⟨hr, hw, by rw [e0]; exact h1, fun m t hm ht => by rw [e (m + 2) (by omega)]; exact h2 m t hm ht, by rw [e0]; exact h3, by rw [e0]; exact h4⟩
theorem cTryNail {d t : Nat} {x : Int} {x2 : zV} {S : zN} (h : CX θ T U τ μ) (hF : CF τ ρ 107 μ) (hN : CF τ ρ 47 μ) (hG : wfU G) (hU : CU G 46 μ) (hP : CP S μ) (hd : 5 ≤ d) (hx : x = (t : Int)) (ht : t < tn τ)
    (hQ : ∀ μ', Fr KN μ μ' → (∀ j, j ≠ 2 → j ≠ 3 → μ' 104 j = μ 104 j) → CF τ ρ 107 μ' → CP (s1O τ ρ G S t) μ' → Q none θ μ') : Ex d 33 0 [vr 104, vi x, x2] [] θ μ Q := by
  subst hx
  have hc := h.1.1
  have hw := h.2.1
  have hn := tn_b hw
  have hd0 : 0 < d := by omega
  unfold s1O at hQ
  by_cases hcan : canO ρ t = true
  · have hb2 : b2 (canO ρ t) = 1 := by rw [hcan]; rfl
    simp (disch := omega) only [x33_0, x33_1, x33_4, x33_5, x33_8, x33_11, x33_12, x33_13, x33_16, x33_17, x33_20, x33_21, x33_22, x33_25, x33_26, x33_29, x33_32, x33_33, x33_34, x33_35, x33_38, x33_41, x33_42, x33_43, x33_46, x33_47, x33_48, x33_51, x33_52, x33_55, x33_56, x33_57, x33_58, x33_59, x33_62, x33_63, x33_64, x33_67, x33_70, x33_73, x33_74, x33_75, x33_76, x33_77, x33_80, ↓reduceIte, Bool.false_eq_true, Nat.reduceAdd, Nat.reduceLT, Nat.reduceLeDiff, Nat.reduceSub, Nat.reduceEqDiff, Int.reduceToNat, Int.reduceEq, Int.reduceLT, Int.reduceLE, Int.reduceAdd, Int.reduceSub, zg, zI, zJ, zR, zst, zkl, zn, zcat, zok, zraw, List.length_cons, List.length_nil, Option.toList, List.nil_append, List.cons_append, true_and, and_true, if_true, if_false, ne_eq, not_true, not_false_eq_true, and_self, true_or, or_true, false_or, or_false, false_and, and_false, b_2 hc, b_3 hc, b_9 hc, b_12 hc, b_26 hc, b_40 hc, b_46 hc, b_47 hc, b_60 hc, b_62 hc, b_63 hc, b_76 hc, b_77 hc, b_90 hc, b_91 hc, b_104 hc, b_107 hc, b_114 hc, b_115 hc, b_122 hc, b_123 hc, b_131 hc, b_104 hc, r_104_0 hc, x_105 hc, r_104_1 hc, x_106 hc, r_104_6 hc, r_104_7 hc, r_104_8 hc, b_107 hc, r_107_0 hc, x_108 hc, n_108 hc, hd0, cCan hc hw hF rfl ht, hb2]
    refine cNail hc hw hF rfl ht ?_
    intro μ1 hf1 hF1
    have X1 : CX θ T U τ μ1 := CX_fr h hf1 (by decide)
    have U1 : CU G 46 μ1 := CU_fr hU hf1 (by decide)
    have k104 : μ1 104 = μ 104 := hf1 104 (by decide)
    simp (disch := omega) only [x33_0, x33_1, x33_4, x33_5, x33_8, x33_11, x33_12, x33_13, x33_16, x33_17, x33_20, x33_21, x33_22, x33_25, x33_26, x33_29, x33_32, x33_33, x33_34, x33_35, x33_38, x33_41, x33_42, x33_43, x33_46, x33_47, x33_48, x33_51, x33_52, x33_55, x33_56, x33_57, x33_58, x33_59, x33_62, x33_63, x33_64, x33_67, x33_70, x33_73, x33_74, x33_75, x33_76, x33_77, x33_80, ↓reduceIte, Bool.false_eq_true, Nat.reduceAdd, Nat.reduceLT, Nat.reduceLeDiff, Nat.reduceSub, Nat.reduceEqDiff, Int.reduceToNat, Int.reduceEq, Int.reduceLT, Int.reduceLE, Int.reduceAdd, Int.reduceSub, zg, zI, zJ, zR, zst, zkl, zn, zcat, zok, zraw, List.length_cons, List.length_nil, Option.toList, List.nil_append, List.cons_append, true_and, and_true, if_true, if_false, ne_eq, not_true, not_false_eq_true, and_self, true_or, or_true, false_or, or_false, false_and, and_false, b_2 hc, b_3 hc, b_9 hc, b_12 hc, b_26 hc, b_40 hc, b_46 hc, b_47 hc, b_60 hc, b_62 hc, b_63 hc, b_76 hc, b_77 hc, b_90 hc, b_91 hc, b_104 hc, b_107 hc, b_114 hc, b_115 hc, b_122 hc, b_123 hc, b_131 hc, b_104 hc, r_104_0 hc, x_105 hc, r_104_1 hc, x_106 hc, r_104_6 hc, r_104_7 hc, r_104_8 hc, b_107 hc, r_107_0 hc, x_108 hc, n_108 hc, hd0]
    refine cHarm (d := d - 1) X1 hF1 hG U1 (by omega) ?_
    intro μ2 y hf2 hy1 hy2
    have hP2 : CP S μ2 := CP_fr (by rw [hf2 104 (by decide), k104]) (by rw [hf2 104 (by decide), k104]) (by rw [hf2 105 (by decide), hf1 105 (by decide)]) hP
    have F2 : CF τ (naF ρ t) 107 μ2 := CF107_fr hF1 hf2 (by decide)
    have hf12 : Fr KN μ μ2 := (hf1.mono (by decide)).trans (hf2.mono (by decide))
    have N2 : CF τ ρ 47 μ2 := CF47_fr hN hf12 (by decide)
    have e3 : μ1 104 3 = S.1 := by rw [k104]; exact hP.1
    rw [e3] at hy1 hy2
    have p3 := hP2.1
    have hz : ρ.1 1 t = 0 := by unfold canO at hcan; simp at hcan; exact hcan.2
    -- taking the nail out again
    have back : ∀ {μ3}, Fr KN μ2 μ3 → (∀ j, j ≠ 2 → j ≠ 3 → μ3 104 j = μ2 104 j) → CF τ (naF ρ t) 107 μ3 → CF τ ρ 47 μ3 → CP (if canO ρ t = true ∧ haO τ (naF ρ t) G < S.1 then (haO τ (naF ρ t) G, [t]) else S) μ3 → Ex d 33 58 [vr 104, vi (t : Nat), vi y] [] θ μ3 Q := by
      intro μ3 hf3 hj3 F3 N3 P3
      have e52 := N3.2.2.2.1 3 t (by decide) ht
      simp only [Nat.reduceAdd] at e52
      simp (disch := omega) only [x33_0, x33_1, x33_4, x33_5, x33_8, x33_11, x33_12, x33_13, x33_16, x33_17, x33_20, x33_21, x33_22, x33_25, x33_26, x33_29, x33_32, x33_33, x33_34, x33_35, x33_38, x33_41, x33_42, x33_43, x33_46, x33_47, x33_48, x33_51, x33_52, x33_55, x33_56, x33_57, x33_58, x33_59, x33_62, x33_63, x33_64, x33_67, x33_70, x33_73, x33_74, x33_75, x33_76, x33_77, x33_80, ↓reduceIte, Bool.false_eq_true, Nat.reduceAdd, Nat.reduceLT, Nat.reduceLeDiff, Nat.reduceSub, Nat.reduceEqDiff, Int.reduceToNat, Int.reduceEq, Int.reduceLT, Int.reduceLE, Int.reduceAdd, Int.reduceSub, zg, zI, zJ, zR, zst, zkl, zn, zcat, zok, zraw, List.length_cons, List.length_nil, Option.toList, List.nil_append, List.cons_append, true_and, and_true, if_true, if_false, ne_eq, not_true, not_false_eq_true, and_self, true_or, or_true, false_or, or_false, false_and, and_false, b_2 hc, b_3 hc, b_9 hc, b_12 hc, b_26 hc, b_40 hc, b_46 hc, b_47 hc, b_60 hc, b_62 hc, b_63 hc, b_76 hc, b_77 hc, b_90 hc, b_91 hc, b_104 hc, b_107 hc, b_114 hc, b_115 hc, b_122 hc, b_123 hc, b_131 hc, b_104 hc, r_104_0 hc, x_105 hc, r_104_1 hc, x_106 hc, r_104_6 hc, r_104_7 hc, r_104_8 hc, b_107 hc, r_107_0 hc, x_108 hc, n_108 hc, b_46 hc, r_46_0 hc, r_46_1 hc, x_54 hc, r_46_2 hc, x_55 hc, r_46_3 hc, x_56 hc, r_46_4 hc, x_57 hc, r_46_5 hc, x_58 hc, r_46_6 hc, x_59 hc, b_47 hc, r_47_0 hc, x_48 hc, n_48 hc, x_48 hc, n_48 hc, r_48_0 hc, x_49 hc, r_48_1 hc, x_50 hc, r_48_2 hc, x_51 hc, r_48_3 hc, x_52 hc, r_48_4 hc, x_53 hc, hd0, e52, Int.toNat_natCast, Int.reduceToNat]
      refine cUnnail hc hw F3 hN.2.1 rfl ht rfl hz ?_
      intro μ4 hf4 F4
      simp (disch := omega) only [x33_0, x33_1, x33_4, x33_5, x33_8, x33_11, x33_12, x33_13, x33_16, x33_17, x33_20, x33_21, x33_22, x33_25, x33_26, x33_29, x33_32, x33_33, x33_34, x33_35, x33_38, x33_41, x33_42, x33_43, x33_46, x33_47, x33_48, x33_51, x33_52, x33_55, x33_56, x33_57, x33_58, x33_59, x33_62, x33_63, x33_64, x33_67, x33_70, x33_73, x33_74, x33_75, x33_76, x33_77, x33_80, ↓reduceIte, Bool.false_eq_true, Nat.reduceAdd, Nat.reduceLT, Nat.reduceLeDiff, Nat.reduceSub, Nat.reduceEqDiff, Int.reduceToNat, Int.reduceEq, Int.reduceLT, Int.reduceLE, Int.reduceAdd, Int.reduceSub, zg, zI, zJ, zR, zst, zkl, zn, zcat, zok, zraw, List.length_cons, List.length_nil, Option.toList, List.nil_append, List.cons_append, true_and, and_true, if_true, if_false, ne_eq, not_true, not_false_eq_true, and_self, true_or, or_true, false_or, or_false, false_and, and_false, b_2 hc, b_3 hc, b_9 hc, b_12 hc, b_26 hc, b_40 hc, b_46 hc, b_47 hc, b_60 hc, b_62 hc, b_63 hc, b_76 hc, b_77 hc, b_90 hc, b_91 hc, b_104 hc, b_107 hc, b_114 hc, b_115 hc, b_122 hc, b_123 hc, b_131 hc]
      have k4 : μ4 104 = μ3 104 := hf4 104 (by decide)
      exact hQ μ4 (hf12.trans (hf3.trans (hf4.mono (by decide)))) (fun j h1 h2 => by rw [k4, hj3 j h1 h2, hf2 104 (by decide), k104]) F4 (CP_fr (by rw [k4]) (by rw [k4]) (hf4 105 (by decide)) P3)
    by_cases hlt : haO τ (naF ρ t) G < S.1
    · have hy := hy1 hlt
      have c1 : ¬ S.1 ≤ y := by omega
      simp (disch := omega) only [x33_0, x33_1, x33_4, x33_5, x33_8, x33_11, x33_12, x33_13, x33_16, x33_17, x33_20, x33_21, x33_22, x33_25, x33_26, x33_29, x33_32, x33_33, x33_34, x33_35, x33_38, x33_41, x33_42, x33_43, x33_46, x33_47, x33_48, x33_51, x33_52, x33_55, x33_56, x33_57, x33_59, x33_62, x33_63, x33_64, x33_67, x33_70, x33_73, x33_74, x33_75, x33_76, x33_77, x33_80, ↓reduceIte, Bool.false_eq_true, Nat.reduceAdd, Nat.reduceLT, Nat.reduceLeDiff, Nat.reduceSub, Nat.reduceEqDiff, Int.reduceToNat, Int.reduceEq, Int.reduceLT, Int.reduceLE, Int.reduceAdd, Int.reduceSub, zg, zI, zJ, zR, zst, zkl, zn, zcat, zok, zraw, List.length_cons, List.length_nil, Option.toList, List.nil_append, List.cons_append, true_and, and_true, if_true, if_false, ne_eq, not_true, not_false_eq_true, and_self, true_or, or_true, false_or, or_false, false_and, and_false, b_2 hc, b_3 hc, b_9 hc, b_12 hc, b_26 hc, b_40 hc, b_46 hc, b_47 hc, b_60 hc, b_62 hc, b_63 hc, b_76 hc, b_77 hc, b_90 hc, b_91 hc, b_104 hc, b_107 hc, b_114 hc, b_115 hc, b_122 hc, b_123 hc, b_131 hc, b_104 hc, r_104_0 hc, x_105 hc, r_104_1 hc, x_106 hc, r_104_6 hc, r_104_7 hc, r_104_8 hc, hd0, p3, c1, ua_eq, us_same, us_us, Int.toNat_zero]
      refine back (Fr.us (by decide) (Fr.us (by decide) Fr.refl)) ?_ ?_ ?_ ?_
      · intro j h1 h2; rw [us_ne (by decide), us_same, zup_ne h1, zup_ne h2]
      · exact CF107_fr (A := [104, 105]) F2 (Fr.us (by decide) (Fr.us (by decide) Fr.refl)) (by decide)
      · exact CF47_fr (A := [104, 105]) N2 (Fr.us (by decide) (Fr.us (by decide) Fr.refl)) (by decide)
      · rw [if_pos ⟨hcan, hlt⟩]
        refine ⟨?_, ?_, by simp, ?_⟩
        · rw [us_ne (by decide), us_same, zup_ne (by decide), zup_same rfl, hy]
        · rw [us_ne (by decide), us_same, zup_same rfl]; rfl
        · intro i hi
          have : i = 0 := by simp at hi; exact hi
          subst this
          rw [us_same, zup_same rfl]; rfl
    · have c1 : S.1 ≤ y := hy2 (by omega)
      simp (disch := omega) only [x33_0, x33_1, x33_4, x33_5, x33_8, x33_11, x33_12, x33_13, x33_16, x33_17, x33_20, x33_21, x33_22, x33_25, x33_26, x33_29, x33_32, x33_33, x33_34, x33_35, x33_38, x33_41, x33_42, x33_43, x33_46, x33_47, x33_48, x33_51, x33_52, x33_55, x33_56, x33_57, x33_59, x33_62, x33_63, x33_64, x33_67, x33_70, x33_73, x33_74, x33_75, x33_76, x33_77, x33_80, ↓reduceIte, Bool.false_eq_true, Nat.reduceAdd, Nat.reduceLT, Nat.reduceLeDiff, Nat.reduceSub, Nat.reduceEqDiff, Int.reduceToNat, Int.reduceEq, Int.reduceLT, Int.reduceLE, Int.reduceAdd, Int.reduceSub, zg, zI, zJ, zR, zst, zkl, zn, zcat, zok, zraw, List.length_cons, List.length_nil, Option.toList, List.nil_append, List.cons_append, true_and, and_true, if_true, if_false, ne_eq, not_true, not_false_eq_true, and_self, true_or, or_true, false_or, or_false, false_and, and_false, b_2 hc, b_3 hc, b_9 hc, b_12 hc, b_26 hc, b_40 hc, b_46 hc, b_47 hc, b_60 hc, b_62 hc, b_63 hc, b_76 hc, b_77 hc, b_90 hc, b_91 hc, b_104 hc, b_107 hc, b_114 hc, b_115 hc, b_122 hc, b_123 hc, b_131 hc, b_104 hc, r_104_0 hc, x_105 hc, r_104_1 hc, x_106 hc, r_104_6 hc, r_104_7 hc, r_104_8 hc, hd0, p3, c1]
      refine back Fr.refl (fun _ _ _ => rfl) F2 N2 ?_
      rw [if_neg (fun q => hlt q.2)]; exact hP2
  · have hb2 : b2 (canO ρ t) = 0 := by unfold b2; rw [if_neg hcan]
    simp (disch := omega) only [x33_0, x33_1, x33_4, x33_5, x33_8, x33_11, x33_12, x33_13, x33_16, x33_17, x33_20, x33_21, x33_22, x33_25, x33_26, x33_29, x33_32, x33_33, x33_34, x33_35, x33_38, x33_41, x33_42, x33_43, x33_46, x33_47, x33_48, x33_51, x33_52, x33_55, x33_56, x33_57, x33_58, x33_59, x33_62, x33_63, x33_64, x33_67, x33_70, x33_73, x33_74, x33_75, x33_76, x33_77, x33_80, ↓reduceIte, Bool.false_eq_true, Nat.reduceAdd, Nat.reduceLT, Nat.reduceLeDiff, Nat.reduceSub, Nat.reduceEqDiff, Int.reduceToNat, Int.reduceEq, Int.reduceLT, Int.reduceLE, Int.reduceAdd, Int.reduceSub, zg, zI, zJ, zR, zst, zkl, zn, zcat, zok, zraw, List.length_cons, List.length_nil, Option.toList, List.nil_append, List.cons_append, true_and, and_true, if_true, if_false, ne_eq, not_true, not_false_eq_true, and_self, true_or, or_true, false_or, or_false, false_and, and_false, b_2 hc, b_3 hc, b_9 hc, b_12 hc, b_26 hc, b_40 hc, b_46 hc, b_47 hc, b_60 hc, b_62 hc, b_63 hc, b_76 hc, b_77 hc, b_90 hc, b_91 hc, b_104 hc, b_107 hc, b_114 hc, b_115 hc, b_122 hc, b_123 hc, b_131 hc, b_104 hc, r_104_0 hc, x_105 hc, r_104_1 hc, x_106 hc, r_104_6 hc, r_104_7 hc, r_104_8 hc, b_107 hc, r_107_0 hc, x_108 hc, n_108 hc, hd0, cCan hc hw hF rfl ht, hb2]
    rw [if_neg (fun q => hcan q.1)] at hQ
    exact hQ μ Fr.refl (fun _ _ _ => rfl) hF hP
theorem can_na {a t : Nat} (h : a < t) : canO (naF ρ a) t = canO ρ t := by
  unfold canO naF
  have : ¬ t = a := by omega
  simp [this]
theorem na_age {a t : Nat} (h : a < t) : (naF ρ a).1 3 t = ρ.1 3 t ∧ (naF ρ a).1 1 t = ρ.1 1 t := by
  unfold naF
  have : ¬ t = a := by omega
  simp [this]
theorem cTryPairs {d a : Nat} {x : Int} {x2 x3 : zV} {S : zN} (h : CX θ T U τ μ) (hF : CF τ ρ 107 μ) (hN : CF τ ρ 47 μ) (hG : wfU G) (hU : CU G 46 μ) (hP : CP S μ) (hd : 5 ≤ d) (hx : x = (a : Int)) (ha : a < tn τ)
    (hQ : ∀ μ', Fr KN μ μ' → (∀ j, j ≠ 2 → j ≠ 3 → μ' 104 j = μ 104 j) → CF τ ρ 107 μ' → CP (if canO ρ a = true then n2O τ ρ G a S (tn τ) else S) μ' → Q none θ μ') : Ex d 34 0 [vr 104, vi x, x2, x3] [] θ μ Q := by
  subst hx
  have hc := h.1.1
  have hw := h.2.1
  have hn := tn_b hw
  have hd0 : 0 < d := by omega
  by_cases hcan : canO ρ a = true
  · rw [if_pos hcan] at hQ
    have hb2 : b2 (canO ρ a) = 1 := by rw [hcan]; rfl
    have hza : ρ.1 1 a = 0 := by unfold canO at hcan; simp at hcan; exact hcan.2
    have fin : ∀ {μ3 x2 x3}, Fr KN μ μ3 → (∀ j, j ≠ 2 → j ≠ 3 → μ3 104 j = μ 104 j) → CF τ (naF ρ a) 107 μ3 → CP (n2O τ ρ G a S (tn τ)) μ3 → Ex d 34 134 [vr 104, vi (a : Nat), x2, x3] [] θ μ3 Q := by
      intro μ3 x2 x3 hf3 hj3 F3 P3
      have N3 : CF τ ρ 47 μ3 := CF47_fr hN hf3 (by decide)
      have e52 := N3.2.2.2.1 3 a (by decide) ha
      simp only [Nat.reduceAdd] at e52
      simp (disch := omega) only [x34_0, x34_1, x34_4, x34_5, x34_8, x34_11, x34_12, x34_13, x34_16, x34_17, x34_20, x34_21, x34_22, x34_23, x34_25, x34_26, x34_29, x34_32, x34_35, x34_36, x34_39, x34_42, x34_43, x34_46, x34_47, x34_50, x34_53, x34_54, x34_57, x34_58, x34_61, x34_62, x34_63, x34_66, x34_67, x34_70, x34_73, x34_74, x34_75, x34_76, x34_79, x34_82, x34_83, x34_84, x34_87, x34_88, x34_89, x34_92, x34_93, x34_96, x34_97, x34_98, x34_99, x34_100, x34_103, x34_104, x34_105, x34_106, x34_107, x34_110, x34_111, x34_112, x34_115, x34_118, x34_121, x34_122, x34_123, x34_124, x34_125, x34_128, x34_131, x34_134, x34_135, x34_138, x34_139, x34_140, x34_143, x34_146, x34_149, x34_150, x34_151, x34_152, x34_153, x34_156, ↓reduceIte, Bool.false_eq_true, Nat.reduceAdd, Nat.reduceLT, Nat.reduceLeDiff, Nat.reduceSub, Nat.reduceEqDiff, Int.reduceToNat, Int.reduceEq, Int.reduceLT, Int.reduceLE, Int.reduceAdd, Int.reduceSub, zg, zI, zJ, zR, zst, zkl, zn, zcat, zok, zraw, List.length_cons, List.length_nil, Option.toList, List.nil_append, List.cons_append, true_and, and_true, if_true, if_false, ne_eq, not_true, not_false_eq_true, and_self, true_or, or_true, false_or, or_false, false_and, and_false, b_2 hc, b_3 hc, b_9 hc, b_12 hc, b_26 hc, b_40 hc, b_46 hc, b_47 hc, b_60 hc, b_62 hc, b_63 hc, b_76 hc, b_77 hc, b_90 hc, b_91 hc, b_104 hc, b_107 hc, b_114 hc, b_115 hc, b_122 hc, b_123 hc, b_131 hc, b_104 hc, r_104_0 hc, x_105 hc, r_104_1 hc, x_106 hc, r_104_6 hc, r_104_7 hc, r_104_8 hc, b_107 hc, r_107_0 hc, x_108 hc, n_108 hc, b_46 hc, r_46_0 hc, r_46_1 hc, x_54 hc, r_46_2 hc, x_55 hc, r_46_3 hc, x_56 hc, r_46_4 hc, x_57 hc, r_46_5 hc, x_58 hc, r_46_6 hc, x_59 hc, b_47 hc, r_47_0 hc, x_48 hc, n_48 hc, x_48 hc, n_48 hc, r_48_0 hc, x_49 hc, r_48_1 hc, x_50 hc, r_48_2 hc, x_51 hc, r_48_3 hc, x_52 hc, r_48_4 hc, x_53 hc, hd0, e52, Int.toNat_natCast, Int.reduceToNat]
      refine cUnnail hc hw F3 hN.2.1 rfl ha rfl hza ?_
      intro μ4 hf4 F4
      simp (disch := omega) only [x34_0, x34_1, x34_4, x34_5, x34_8, x34_11, x34_12, x34_13, x34_16, x34_17, x34_20, x34_21, x34_22, x34_23, x34_25, x34_26, x34_29, x34_32, x34_35, x34_36, x34_39, x34_42, x34_43, x34_46, x34_47, x34_50, x34_53, x34_54, x34_57, x34_58, x34_61, x34_62, x34_63, x34_66, x34_67, x34_70, x34_73, x34_74, x34_75, x34_76, x34_79, x34_82, x34_83, x34_84, x34_87, x34_88, x34_89, x34_92, x34_93, x34_96, x34_97, x34_98, x34_99, x34_100, x34_103, x34_104, x34_105, x34_106, x34_107, x34_110, x34_111, x34_112, x34_115, x34_118, x34_121, x34_122, x34_123, x34_124, x34_125, x34_128, x34_131, x34_134, x34_135, x34_138, x34_139, x34_140, x34_143, x34_146, x34_149, x34_150, x34_151, x34_152, x34_153, x34_156, ↓reduceIte, Bool.false_eq_true, Nat.reduceAdd, Nat.reduceLT, Nat.reduceLeDiff, Nat.reduceSub, Nat.reduceEqDiff, Int.reduceToNat, Int.reduceEq, Int.reduceLT, Int.reduceLE, Int.reduceAdd, Int.reduceSub, zg, zI, zJ, zR, zst, zkl, zn, zcat, zok, zraw, List.length_cons, List.length_nil, Option.toList, List.nil_append, List.cons_append, true_and, and_true, if_true, if_false, ne_eq, not_true, not_false_eq_true, and_self, true_or, or_true, false_or, or_false, false_and, and_false, b_2 hc, b_3 hc, b_9 hc, b_12 hc, b_26 hc, b_40 hc, b_46 hc, b_47 hc, b_60 hc, b_62 hc, b_63 hc, b_76 hc, b_77 hc, b_90 hc, b_91 hc, b_104 hc, b_107 hc, b_114 hc, b_115 hc, b_122 hc, b_123 hc, b_131 hc]
      have k4 : μ4 104 = μ3 104 := hf4 104 (by decide)
      exact hQ μ4 (hf3.trans (hf4.mono (by decide))) (fun j h1 h2 => by rw [k4, hj3 j h1 h2]) F4 (CP_fr (by rw [k4]) (by rw [k4]) (hf4 105 (by decide)) P3)
    have key : ∀ t L μ1, t ≤ tn τ → (a + 1 ≤ t ∧ ∃ x3, L = [vr 104, vi (a : Nat), vi (t : Nat), x3] ∧ Fr KN μ μ1 ∧ (∀ j, j ≠ 2 → j ≠ 3 → μ1 104 j = μ 104 j) ∧ CF τ (naF ρ a) 107 μ1 ∧ CP (n2O τ ρ G a S t) μ1) → Ex d 34 24 L [] θ μ1 Q := by
      refine Ex_loop (I := fun t L μ1 => a + 1 ≤ t ∧ ∃ x3, L = [vr 104, vi (a : Nat), vi (t : Nat), x3] ∧ Fr KN μ μ1 ∧ (∀ j, j ≠ 2 → j ≠ 3 → μ1 104 j = μ 104 j) ∧ CF τ (naF ρ a) 107 μ1 ∧ CP (n2O τ ρ G a S t) μ1) (tn τ) ?_ ?_
      · rintro t L μ1 ht ⟨hat, x3, rfl, hf, hj, F1, P1⟩ hk
        have i1 : ¬ ((tn τ : Int) ≤ (t : Int)) := by omega
        have et := F1.2.2.1
        have p3 := P1.1
        have X1 : CX θ T U τ μ1 := CX_fr h hf (by decide)
        have N1 : CF τ ρ 47 μ1 := CF47_fr hN hf (by decide)
        have U1 : CU G 46 μ1 := CU_fr hU hf (by decide)
        rw [x34_24]
        by_cases hpos : (n2O τ ρ G a S t).1 ≤ 0
        · simp (disch := omega) only [x34_0, x34_1, x34_4, x34_5, x34_8, x34_11, x34_12, x34_13, x34_16, x34_17, x34_20, x34_21, x34_22, x34_23, x34_25, x34_26, x34_29, x34_32, x34_35, x34_36, x34_39, x34_42, x34_43, x34_46, x34_47, x34_50, x34_53, x34_54, x34_57, x34_58, x34_61, x34_62, x34_63, x34_66, x34_67, x34_70, x34_73, x34_74, x34_75, x34_76, x34_79, x34_82, x34_83, x34_84, x34_87, x34_88, x34_89, x34_92, x34_93, x34_96, x34_97, x34_98, x34_99, x34_100, x34_103, x34_104, x34_105, x34_106, x34_107, x34_110, x34_111, x34_112, x34_115, x34_118, x34_121, x34_122, x34_123, x34_124, x34_125, x34_128, x34_131, x34_135, x34_138, x34_139, x34_140, x34_143, x34_146, x34_149, x34_150, x34_151, x34_152, x34_153, x34_156, ↓reduceIte, Bool.false_eq_true, Nat.reduceAdd, Nat.reduceLT, Nat.reduceLeDiff, Nat.reduceSub, Nat.reduceEqDiff, Int.reduceToNat, Int.reduceEq, Int.reduceLT, Int.reduceLE, Int.reduceAdd, Int.reduceSub, zg, zI, zJ, zR, zst, zkl, zn, zcat, zok, zraw, List.length_cons, List.length_nil, Option.toList, List.nil_append, List.cons_append, true_and, and_true, if_true, if_false, ne_eq, not_true, not_false_eq_true, and_self, true_or, or_true, false_or, or_false, false_and, and_false, b_2 hc, b_3 hc, b_9 hc, b_12 hc, b_26 hc, b_40 hc, b_46 hc, b_47 hc, b_60 hc, b_62 hc, b_63 hc, b_76 hc, b_77 hc, b_90 hc, b_91 hc, b_104 hc, b_107 hc, b_114 hc, b_115 hc, b_122 hc, b_123 hc, b_131 hc, b_104 hc, r_104_0 hc, x_105 hc, r_104_1 hc, x_106 hc, r_104_6 hc, r_104_7 hc, r_104_8 hc, b_107 hc, r_107_0 hc, x_108 hc, n_108 hc, et, i1, p3, hpos]
          refine fin hf hj F1 ?_
          have := n2_stay hw hG hpos (tn τ - t)
          rw [show t + (tn τ - t) = tn τ by omega] at this
          rw [this]; exact P1
        · by_cases hcb : canO ρ t = true
          · have hb1 : b2 (canO (naF ρ a) t) = 1 := by rw [can_na (by omega), hcb]; rfl
            have hzt : (naF ρ a).1 1 t = 0 := by rw [(na_age (by omega)).2]; unfold canO at hcb; simp at hcb; exact hcb.2
            simp (disch := omega) only [x34_0, x34_1, x34_4, x34_5, x34_8, x34_11, x34_12, x34_13, x34_16, x34_17, x34_20, x34_21, x34_22, x34_23, x34_25, x34_26, x34_29, x34_32, x34_35, x34_36, x34_39, x34_42, x34_43, x34_46, x34_47, x34_50, x34_53, x34_54, x34_57, x34_58, x34_61, x34_62, x34_63, x34_66, x34_67, x34_70, x34_73, x34_74, x34_75, x34_76, x34_79, x34_82, x34_83, x34_84, x34_87, x34_88, x34_89, x34_92, x34_93, x34_96, x34_97, x34_98, x34_99, x34_100, x34_103, x34_104, x34_105, x34_106, x34_107, x34_110, x34_111, x34_112, x34_115, x34_118, x34_121, x34_122, x34_123, x34_124, x34_125, x34_128, x34_131, x34_135, x34_138, x34_139, x34_140, x34_143, x34_146, x34_149, x34_150, x34_151, x34_152, x34_153, x34_156, ↓reduceIte, Bool.false_eq_true, Nat.reduceAdd, Nat.reduceLT, Nat.reduceLeDiff, Nat.reduceSub, Nat.reduceEqDiff, Int.reduceToNat, Int.reduceEq, Int.reduceLT, Int.reduceLE, Int.reduceAdd, Int.reduceSub, zg, zI, zJ, zR, zst, zkl, zn, zcat, zok, zraw, List.length_cons, List.length_nil, Option.toList, List.nil_append, List.cons_append, true_and, and_true, if_true, if_false, ne_eq, not_true, not_false_eq_true, and_self, true_or, or_true, false_or, or_false, false_and, and_false, b_2 hc, b_3 hc, b_9 hc, b_12 hc, b_26 hc, b_40 hc, b_46 hc, b_47 hc, b_60 hc, b_62 hc, b_63 hc, b_76 hc, b_77 hc, b_90 hc, b_91 hc, b_104 hc, b_107 hc, b_114 hc, b_115 hc, b_122 hc, b_123 hc, b_131 hc, b_104 hc, r_104_0 hc, x_105 hc, r_104_1 hc, x_106 hc, r_104_6 hc, r_104_7 hc, r_104_8 hc, b_107 hc, r_107_0 hc, x_108 hc, n_108 hc, et, i1, p3, hpos, hd0, cCan hc hw F1 rfl ht, hb1]
            refine cNail hc hw F1 rfl ht ?_
            intro μ2 hf2 F2
            have k104 : μ2 104 = μ1 104 := hf2 104 (by decide)
            simp (disch := omega) only [x34_0, x34_1, x34_4, x34_5, x34_8, x34_11, x34_12, x34_13, x34_16, x34_17, x34_20, x34_21, x34_22, x34_23, x34_25, x34_26, x34_29, x34_32, x34_35, x34_36, x34_39, x34_42, x34_43, x34_46, x34_47, x34_50, x34_53, x34_54, x34_57, x34_58, x34_61, x34_62, x34_63, x34_66, x34_67, x34_70, x34_73, x34_74, x34_75, x34_76, x34_79, x34_82, x34_83, x34_84, x34_87, x34_88, x34_89, x34_92, x34_93, x34_96, x34_97, x34_98, x34_99, x34_100, x34_103, x34_104, x34_105, x34_106, x34_107, x34_110, x34_111, x34_112, x34_115, x34_118, x34_121, x34_122, x34_123, x34_124, x34_125, x34_128, x34_131, x34_135, x34_138, x34_139, x34_140, x34_143, x34_146, x34_149, x34_150, x34_151, x34_152, x34_153, x34_156, ↓reduceIte, Bool.false_eq_true, Nat.reduceAdd, Nat.reduceLT, Nat.reduceLeDiff, Nat.reduceSub, Nat.reduceEqDiff, Int.reduceToNat, Int.reduceEq, Int.reduceLT, Int.reduceLE, Int.reduceAdd, Int.reduceSub, zg, zI, zJ, zR, zst, zkl, zn, zcat, zok, zraw, List.length_cons, List.length_nil, Option.toList, List.nil_append, List.cons_append, true_and, and_true, if_true, if_false, ne_eq, not_true, not_false_eq_true, and_self, true_or, or_true, false_or, or_false, false_and, and_false, b_2 hc, b_3 hc, b_9 hc, b_12 hc, b_26 hc, b_40 hc, b_46 hc, b_47 hc, b_60 hc, b_62 hc, b_63 hc, b_76 hc, b_77 hc, b_90 hc, b_91 hc, b_104 hc, b_107 hc, b_114 hc, b_115 hc, b_122 hc, b_123 hc, b_131 hc, b_104 hc, r_104_0 hc, x_105 hc, r_104_1 hc, x_106 hc, r_104_6 hc, r_104_7 hc, r_104_8 hc, b_107 hc, r_107_0 hc, x_108 hc, n_108 hc, hd0]
            refine cHarm (d := d - 1) (CX_fr X1 hf2 (by decide)) F2 hG (CU_fr U1 hf2 (by decide)) (by omega) ?_
            intro μ3 y hf3 hy1 hy2
            have hf13 : Fr KN μ1 μ3 := (hf2.mono (by decide)).trans (hf3.mono (by decide))
            have P3 : CP (n2O τ ρ G a S t) μ3 := CP_fr (by rw [hf3 104 (by decide), k104]) (by rw [hf3 104 (by decide), k104]) (by rw [hf3 105 (by decide), hf2 105 (by decide)]) P1
            have F3 : CF τ (naF (naF ρ a) t) 107 μ3 := CF107_fr F2 hf3 (by decide)
            have N3 : CF τ ρ 47 μ3 := CF47_fr N1 hf13 (by decide)
            have q3 : μ2 104 3 = (n2O τ ρ G a S t).1 := by rw [k104]; exact p3
            rw [q3] at hy1 hy2
            have p33 := P3.1
            have hst : n2O τ ρ G a S (t + 1) = s2O τ ρ G a (n2O τ ρ G a S t) t := rfl
            unfold s2O at hst
            have back : ∀ {μ4}, Fr KN μ3 μ4 → (∀ j, j ≠ 2 → j ≠ 3 → μ4 104 j = μ3 104 j) → CF τ (naF (naF ρ a) t) 107 μ4 → CF τ ρ 47 μ4 → CP (n2O τ ρ G a S (t + 1)) μ4 → Ex d 34 106 [vr 104, vi (a : Nat), vi (t : Nat), vi y] [] θ μ4 Q := by
              intro μ4 hf4 hj4 F4 N4 P4
              have e52 := N4.2.2.2.1 3 t (by decide) ht
              simp only [Nat.reduceAdd] at e52
              simp (disch := omega) only [x34_0, x34_1, x34_4, x34_5, x34_8, x34_11, x34_12, x34_13, x34_16, x34_17, x34_20, x34_21, x34_22, x34_23, x34_25, x34_26, x34_29, x34_32, x34_35, x34_36, x34_39, x34_42, x34_43, x34_46, x34_47, x34_50, x34_53, x34_54, x34_57, x34_58, x34_61, x34_62, x34_63, x34_66, x34_67, x34_70, x34_73, x34_74, x34_75, x34_76, x34_79, x34_82, x34_83, x34_84, x34_87, x34_88, x34_89, x34_92, x34_93, x34_96, x34_97, x34_98, x34_99, x34_100, x34_103, x34_104, x34_105, x34_106, x34_107, x34_110, x34_111, x34_112, x34_115, x34_118, x34_121, x34_122, x34_123, x34_124, x34_125, x34_128, x34_131, x34_135, x34_138, x34_139, x34_140, x34_143, x34_146, x34_149, x34_150, x34_151, x34_152, x34_153, x34_156, ↓reduceIte, Bool.false_eq_true, Nat.reduceAdd, Nat.reduceLT, Nat.reduceLeDiff, Nat.reduceSub, Nat.reduceEqDiff, Int.reduceToNat, Int.reduceEq, Int.reduceLT, Int.reduceLE, Int.reduceAdd, Int.reduceSub, zg, zI, zJ, zR, zst, zkl, zn, zcat, zok, zraw, List.length_cons, List.length_nil, Option.toList, List.nil_append, List.cons_append, true_and, and_true, if_true, if_false, ne_eq, not_true, not_false_eq_true, and_self, true_or, or_true, false_or, or_false, false_and, and_false, b_2 hc, b_3 hc, b_9 hc, b_12 hc, b_26 hc, b_40 hc, b_46 hc, b_47 hc, b_60 hc, b_62 hc, b_63 hc, b_76 hc, b_77 hc, b_90 hc, b_91 hc, b_104 hc, b_107 hc, b_114 hc, b_115 hc, b_122 hc, b_123 hc, b_131 hc, b_104 hc, r_104_0 hc, x_105 hc, r_104_1 hc, x_106 hc, r_104_6 hc, r_104_7 hc, r_104_8 hc, b_107 hc, r_107_0 hc, x_108 hc, n_108 hc, b_46 hc, r_46_0 hc, r_46_1 hc, x_54 hc, r_46_2 hc, x_55 hc, r_46_3 hc, x_56 hc, r_46_4 hc, x_57 hc, r_46_5 hc, x_58 hc, r_46_6 hc, x_59 hc, b_47 hc, r_47_0 hc, x_48 hc, n_48 hc, x_48 hc, n_48 hc, r_48_0 hc, x_49 hc, r_48_1 hc, x_50 hc, r_48_2 hc, x_51 hc, r_48_3 hc, x_52 hc, r_48_4 hc, x_53 hc, hd0, e52, Int.toNat_natCast, Int.reduceToNat]
              refine cUnnail hc hw F4 F1.2.1 rfl ht (na_age (by omega)).1.symm hzt ?_
              intro μ5 hf5 F5
              simp (disch := omega) only [x34_0, x34_1, x34_4, x34_5, x34_8, x34_11, x34_12, x34_13, x34_16, x34_17, x34_20, x34_21, x34_22, x34_23, x34_25, x34_26, x34_29, x34_32, x34_35, x34_36, x34_39, x34_42, x34_43, x34_46, x34_47, x34_50, x34_53, x34_54, x34_57, x34_58, x34_61, x34_62, x34_63, x34_66, x34_67, x34_70, x34_73, x34_74, x34_75, x34_76, x34_79, x34_82, x34_83, x34_84, x34_87, x34_88, x34_89, x34_92, x34_93, x34_96, x34_97, x34_98, x34_99, x34_100, x34_103, x34_104, x34_105, x34_106, x34_107, x34_110, x34_111, x34_112, x34_115, x34_118, x34_121, x34_122, x34_123, x34_124, x34_125, x34_128, x34_131, x34_135, x34_138, x34_139, x34_140, x34_143, x34_146, x34_149, x34_150, x34_151, x34_152, x34_153, x34_156, ↓reduceIte, Bool.false_eq_true, Nat.reduceAdd, Nat.reduceLT, Nat.reduceLeDiff, Nat.reduceSub, Nat.reduceEqDiff, Int.reduceToNat, Int.reduceEq, Int.reduceLT, Int.reduceLE, Int.reduceAdd, Int.reduceSub, zg, zI, zJ, zR, zst, zkl, zn, zcat, zok, zraw, List.length_cons, List.length_nil, Option.toList, List.nil_append, List.cons_append, true_and, and_true, if_true, if_false, ne_eq, not_true, not_false_eq_true, and_self, true_or, or_true, false_or, or_false, false_and, and_false, b_2 hc, b_3 hc, b_9 hc, b_12 hc, b_26 hc, b_40 hc, b_46 hc, b_47 hc, b_60 hc, b_62 hc, b_63 hc, b_76 hc, b_77 hc, b_90 hc, b_91 hc, b_104 hc, b_107 hc, b_114 hc, b_115 hc, b_122 hc, b_123 hc, b_131 hc, w32_s]
              have k5 : μ5 104 = μ4 104 := hf5 104 (by decide)
              apply hk
              refine ⟨by omega, _, rfl, hf.trans (hf13.trans (hf4.trans (hf5.mono (by decide)))), ?_, F5, CP_fr (by rw [k5]) (by rw [k5]) (hf5 105 (by decide)) P4⟩
              intro j h1 h2; rw [k5, hj4 j h1 h2, hf3 104 (by decide), k104, hj j h1 h2]
            by_cases hlt : haO τ (naF (naF ρ a) t) G < (n2O τ ρ G a S t).1
            · have hy := hy1 hlt
              have c1 : ¬ (n2O τ ρ G a S t).1 ≤ y := by omega
              simp (disch := omega) only [x34_0, x34_1, x34_4, x34_5, x34_8, x34_11, x34_12, x34_13, x34_16, x34_17, x34_20, x34_21, x34_22, x34_23, x34_25, x34_26, x34_29, x34_32, x34_35, x34_36, x34_39, x34_42, x34_43, x34_46, x34_47, x34_50, x34_53, x34_54, x34_57, x34_58, x34_61, x34_62, x34_63, x34_66, x34_67, x34_70, x34_73, x34_74, x34_75, x34_76, x34_79, x34_82, x34_83, x34_84, x34_87, x34_88, x34_89, x34_92, x34_93, x34_96, x34_97, x34_98, x34_99, x34_100, x34_103, x34_104, x34_105, x34_107, x34_110, x34_111, x34_112, x34_115, x34_118, x34_121, x34_122, x34_123, x34_124, x34_125, x34_128, x34_131, x34_135, x34_138, x34_139, x34_140, x34_143, x34_146, x34_149, x34_150, x34_151, x34_152, x34_153, x34_156, ↓reduceIte, Bool.false_eq_true, Nat.reduceAdd, Nat.reduceLT, Nat.reduceLeDiff, Nat.reduceSub, Nat.reduceEqDiff, Int.reduceToNat, Int.reduceEq, Int.reduceLT, Int.reduceLE, Int.reduceAdd, Int.reduceSub, zg, zI, zJ, zR, zst, zkl, zn, zcat, zok, zraw, List.length_cons, List.length_nil, Option.toList, List.nil_append, List.cons_append, true_and, and_true, if_true, if_false, ne_eq, not_true, not_false_eq_true, and_self, true_or, or_true, false_or, or_false, false_and, and_false, b_2 hc, b_3 hc, b_9 hc, b_12 hc, b_26 hc, b_40 hc, b_46 hc, b_47 hc, b_60 hc, b_62 hc, b_63 hc, b_76 hc, b_77 hc, b_90 hc, b_91 hc, b_104 hc, b_107 hc, b_114 hc, b_115 hc, b_122 hc, b_123 hc, b_131 hc, b_104 hc, r_104_0 hc, x_105 hc, r_104_1 hc, x_106 hc, r_104_6 hc, r_104_7 hc, r_104_8 hc, hd0, p33, c1, ua_eq, us_same, us_us, Int.toNat_zero, Int.toNat_one]
              refine back (Fr.us (by decide) (Fr.us (by decide) Fr.refl)) ?_ ?_ ?_ ?_
              · intro j h1 h2; rw [us_ne (by decide), us_same, zup_ne h1, zup_ne h2]
              · exact CF107_fr (A := [104, 105]) F3 (Fr.us (by decide) (Fr.us (by decide) Fr.refl)) (by decide)
              · exact CF47_fr (A := [104, 105]) N3 (Fr.us (by decide) (Fr.us (by decide) Fr.refl)) (by decide)
              · rw [hst, if_pos ⟨⟨by omega, hcb⟩, hlt⟩]
                refine ⟨?_, ?_, by simp, ?_⟩
                · rw [us_ne (by decide), us_same, zup_ne (by decide), zup_same rfl, hy]
                · rw [us_ne (by decide), us_same, zup_same rfl]; rfl
                · intro i hi
                  rw [us_same]
                  have : i = 0 ∨ i = 1 := by simp at hi; omega
                  rcases this with rfl | rfl
                  · rw [zup_ne (by decide), zup_same rfl]; rfl
                  · rw [zup_same rfl]; rfl
            · have c1 : (n2O τ ρ G a S t).1 ≤ y := hy2 (by omega)
              simp (disch := omega) only [x34_0, x34_1, x34_4, x34_5, x34_8, x34_11, x34_12, x34_13, x34_16, x34_17, x34_20, x34_21, x34_22, x34_23, x34_25, x34_26, x34_29, x34_32, x34_35, x34_36, x34_39, x34_42, x34_43, x34_46, x34_47, x34_50, x34_53, x34_54, x34_57, x34_58, x34_61, x34_62, x34_63, x34_66, x34_67, x34_70, x34_73, x34_74, x34_75, x34_76, x34_79, x34_82, x34_83, x34_84, x34_87, x34_88, x34_89, x34_92, x34_93, x34_96, x34_97, x34_98, x34_99, x34_100, x34_103, x34_104, x34_105, x34_107, x34_110, x34_111, x34_112, x34_115, x34_118, x34_121, x34_122, x34_123, x34_124, x34_125, x34_128, x34_131, x34_135, x34_138, x34_139, x34_140, x34_143, x34_146, x34_149, x34_150, x34_151, x34_152, x34_153, x34_156, ↓reduceIte, Bool.false_eq_true, Nat.reduceAdd, Nat.reduceLT, Nat.reduceLeDiff, Nat.reduceSub, Nat.reduceEqDiff, Int.reduceToNat, Int.reduceEq, Int.reduceLT, Int.reduceLE, Int.reduceAdd, Int.reduceSub, zg, zI, zJ, zR, zst, zkl, zn, zcat, zok, zraw, List.length_cons, List.length_nil, Option.toList, List.nil_append, List.cons_append, true_and, and_true, if_true, if_false, ne_eq, not_true, not_false_eq_true, and_self, true_or, or_true, false_or, or_false, false_and, and_false, b_2 hc, b_3 hc, b_9 hc, b_12 hc, b_26 hc, b_40 hc, b_46 hc, b_47 hc, b_60 hc, b_62 hc, b_63 hc, b_76 hc, b_77 hc, b_90 hc, b_91 hc, b_104 hc, b_107 hc, b_114 hc, b_115 hc, b_122 hc, b_123 hc, b_131 hc, b_104 hc, r_104_0 hc, x_105 hc, r_104_1 hc, x_106 hc, r_104_6 hc, r_104_7 hc, r_104_8 hc, hd0, p33, c1]
              refine back Fr.refl (fun _ _ _ => rfl) F3 N3 ?_
              rw [hst, if_neg (fun q => hlt q.2)]; exact P3
          · have hb1 : b2 (canO (naF ρ a) t) = 0 := by rw [can_na (by omega)]; unfold b2; rw [if_neg hcb]
            simp (disch := omega) only [x34_0, x34_1, x34_4, x34_5, x34_8, x34_11, x34_12, x34_13, x34_16, x34_17, x34_20, x34_21, x34_22, x34_23, x34_25, x34_26, x34_29, x34_32, x34_35, x34_36, x34_39, x34_42, x34_43, x34_46, x34_47, x34_50, x34_53, x34_54, x34_57, x34_58, x34_61, x34_62, x34_63, x34_66, x34_67, x34_70, x34_73, x34_74, x34_75, x34_76, x34_79, x34_82, x34_83, x34_84, x34_87, x34_88, x34_89, x34_92, x34_93, x34_96, x34_97, x34_98, x34_99, x34_100, x34_103, x34_104, x34_105, x34_106, x34_107, x34_110, x34_111, x34_112, x34_115, x34_118, x34_121, x34_122, x34_123, x34_124, x34_125, x34_128, x34_131, x34_135, x34_138, x34_139, x34_140, x34_143, x34_146, x34_149, x34_150, x34_151, x34_152, x34_153, x34_156, ↓reduceIte, Bool.false_eq_true, Nat.reduceAdd, Nat.reduceLT, Nat.reduceLeDiff, Nat.reduceSub, Nat.reduceEqDiff, Int.reduceToNat, Int.reduceEq, Int.reduceLT, Int.reduceLE, Int.reduceAdd, Int.reduceSub, zg, zI, zJ, zR, zst, zkl, zn, zcat, zok, zraw, List.length_cons, List.length_nil, Option.toList, List.nil_append, List.cons_append, true_and, and_true, if_true, if_false, ne_eq, not_true, not_false_eq_true, and_self, true_or, or_true, false_or, or_false, false_and, and_false, b_2 hc, b_3 hc, b_9 hc, b_12 hc, b_26 hc, b_40 hc, b_46 hc, b_47 hc, b_60 hc, b_62 hc, b_63 hc, b_76 hc, b_77 hc, b_90 hc, b_91 hc, b_104 hc, b_107 hc, b_114 hc, b_115 hc, b_122 hc, b_123 hc, b_131 hc, b_104 hc, r_104_0 hc, x_105 hc, r_104_1 hc, x_106 hc, r_104_6 hc, r_104_7 hc, r_104_8 hc, b_107 hc, r_107_0 hc, x_108 hc, n_108 hc, et, i1, p3, hpos, hd0, cCan hc hw F1 rfl ht, hb1, w32_s]
            apply hk
            refine ⟨by omega, _, rfl, hf, hj, F1, ?_⟩
            have hst : n2O τ ρ G a S (t + 1) = s2O τ ρ G a (n2O τ ρ G a S t) t := rfl
            unfold s2O at hst
            rw [hst, if_neg (fun q => hcb q.1.2)]; exact P1
      · rintro L μ1 ⟨hat, x3, rfl, hf, hj, F1, P1⟩
        have et := F1.2.2.1
        rw [x34_24]
        simp (disch := omega) only [x34_0, x34_1, x34_4, x34_5, x34_8, x34_11, x34_12, x34_13, x34_16, x34_17, x34_20, x34_21, x34_22, x34_23, x34_25, x34_26, x34_29, x34_32, x34_35, x34_36, x34_39, x34_42, x34_43, x34_46, x34_47, x34_50, x34_53, x34_54, x34_57, x34_58, x34_61, x34_62, x34_63, x34_66, x34_67, x34_70, x34_73, x34_74, x34_75, x34_76, x34_79, x34_82, x34_83, x34_84, x34_87, x34_88, x34_89, x34_92, x34_93, x34_96, x34_97, x34_98, x34_99, x34_100, x34_103, x34_104, x34_105, x34_106, x34_107, x34_110, x34_111, x34_112, x34_115, x34_118, x34_121, x34_122, x34_123, x34_124, x34_125, x34_128, x34_131, x34_135, x34_138, x34_139, x34_140, x34_143, x34_146, x34_149, x34_150, x34_151, x34_152, x34_153, x34_156, ↓reduceIte, Bool.false_eq_true, Nat.reduceAdd, Nat.reduceLT, Nat.reduceLeDiff, Nat.reduceSub, Nat.reduceEqDiff, Int.reduceToNat, Int.reduceEq, Int.reduceLT, Int.reduceLE, Int.reduceAdd, Int.reduceSub, zg, zI, zJ, zR, zst, zkl, zn, zcat, zok, zraw, List.length_cons, List.length_nil, Option.toList, List.nil_append, List.cons_append, true_and, and_true, if_true, if_false, ne_eq, not_true, not_false_eq_true, and_self, true_or, or_true, false_or, or_false, false_and, and_false, b_2 hc, b_3 hc, b_9 hc, b_12 hc, b_26 hc, b_40 hc, b_46 hc, b_47 hc, b_60 hc, b_62 hc, b_63 hc, b_76 hc, b_77 hc, b_90 hc, b_91 hc, b_104 hc, b_107 hc, b_114 hc, b_115 hc, b_122 hc, b_123 hc, b_131 hc, b_104 hc, r_104_0 hc, x_105 hc, r_104_1 hc, x_106 hc, r_104_6 hc, r_104_7 hc, r_104_8 hc, b_107 hc, r_107_0 hc, x_108 hc, n_108 hc, et, Int.le_refl]
        exact fin hf hj F1 P1
    simp (disch := omega) only [x34_0, x34_1, x34_4, x34_5, x34_8, x34_11, x34_12, x34_13, x34_16, x34_17, x34_20, x34_21, x34_22, x34_23, x34_25, x34_26, x34_29, x34_32, x34_35, x34_36, x34_39, x34_42, x34_43, x34_46, x34_47, x34_50, x34_53, x34_54, x34_57, x34_58, x34_61, x34_62, x34_63, x34_66, x34_67, x34_70, x34_73, x34_74, x34_75, x34_76, x34_79, x34_82, x34_83, x34_84, x34_87, x34_88, x34_89, x34_92, x34_93, x34_96, x34_97, x34_98, x34_99, x34_100, x34_103, x34_104, x34_105, x34_106, x34_107, x34_110, x34_111, x34_112, x34_115, x34_118, x34_121, x34_122, x34_123, x34_124, x34_125, x34_128, x34_131, x34_134, x34_135, x34_138, x34_139, x34_140, x34_143, x34_146, x34_149, x34_150, x34_151, x34_152, x34_153, x34_156, ↓reduceIte, Bool.false_eq_true, Nat.reduceAdd, Nat.reduceLT, Nat.reduceLeDiff, Nat.reduceSub, Nat.reduceEqDiff, Int.reduceToNat, Int.reduceEq, Int.reduceLT, Int.reduceLE, Int.reduceAdd, Int.reduceSub, zg, zI, zJ, zR, zst, zkl, zn, zcat, zok, zraw, List.length_cons, List.length_nil, Option.toList, List.nil_append, List.cons_append, true_and, and_true, if_true, if_false, ne_eq, not_true, not_false_eq_true, and_self, true_or, or_true, false_or, or_false, false_and, and_false, b_2 hc, b_3 hc, b_9 hc, b_12 hc, b_26 hc, b_40 hc, b_46 hc, b_47 hc, b_60 hc, b_62 hc, b_63 hc, b_76 hc, b_77 hc, b_90 hc, b_91 hc, b_104 hc, b_107 hc, b_114 hc, b_115 hc, b_122 hc, b_123 hc, b_131 hc, b_104 hc, r_104_0 hc, x_105 hc, r_104_1 hc, x_106 hc, r_104_6 hc, r_104_7 hc, r_104_8 hc, b_107 hc, r_107_0 hc, x_108 hc, n_108 hc, hd0, cCan hc hw hF rfl ha, hb2]
    refine cNail hc hw hF rfl ha ?_
    intro μ1 hf1 hF1
    have k104 : μ1 104 = μ 104 := hf1 104 (by decide)
    simp (disch := omega) only [x34_0, x34_1, x34_4, x34_5, x34_8, x34_11, x34_12, x34_13, x34_16, x34_17, x34_20, x34_21, x34_22, x34_23, x34_25, x34_26, x34_29, x34_32, x34_35, x34_36, x34_39, x34_42, x34_43, x34_46, x34_47, x34_50, x34_53, x34_54, x34_57, x34_58, x34_61, x34_62, x34_63, x34_66, x34_67, x34_70, x34_73, x34_74, x34_75, x34_76, x34_79, x34_82, x34_83, x34_84, x34_87, x34_88, x34_89, x34_92, x34_93, x34_96, x34_97, x34_98, x34_99, x34_100, x34_103, x34_104, x34_105, x34_106, x34_107, x34_110, x34_111, x34_112, x34_115, x34_118, x34_121, x34_122, x34_123, x34_124, x34_125, x34_128, x34_131, x34_134, x34_135, x34_138, x34_139, x34_140, x34_143, x34_146, x34_149, x34_150, x34_151, x34_152, x34_153, x34_156, ↓reduceIte, Bool.false_eq_true, Nat.reduceAdd, Nat.reduceLT, Nat.reduceLeDiff, Nat.reduceSub, Nat.reduceEqDiff, Int.reduceToNat, Int.reduceEq, Int.reduceLT, Int.reduceLE, Int.reduceAdd, Int.reduceSub, zg, zI, zJ, zR, zst, zkl, zn, zcat, zok, zraw, List.length_cons, List.length_nil, Option.toList, List.nil_append, List.cons_append, true_and, and_true, if_true, if_false, ne_eq, not_true, not_false_eq_true, and_self, true_or, or_true, false_or, or_false, false_and, and_false, b_2 hc, b_3 hc, b_9 hc, b_12 hc, b_26 hc, b_40 hc, b_46 hc, b_47 hc, b_60 hc, b_62 hc, b_63 hc, b_76 hc, b_77 hc, b_90 hc, b_91 hc, b_104 hc, b_107 hc, b_114 hc, b_115 hc, b_122 hc, b_123 hc, b_131 hc, w32_s]
    refine key (a + 1) _ μ1 (by omega) ⟨Nat.le_refl _, _, rfl, hf1.mono (by decide), fun j _ _ => by rw [k104], hF1, ?_⟩
    rw [n2_low _ (Nat.le_refl _)]
    exact CP_fr (by rw [k104]) (by rw [k104]) (hf1 105 (by decide)) hP
  · rw [if_neg hcan] at hQ
    have hb2 : b2 (canO ρ a) = 0 := by unfold b2; rw [if_neg hcan]
    simp (disch := omega) only [x34_0, x34_1, x34_4, x34_5, x34_8, x34_11, x34_12, x34_13, x34_16, x34_17, x34_20, x34_21, x34_22, x34_23, x34_25, x34_26, x34_29, x34_32, x34_35, x34_36, x34_39, x34_42, x34_43, x34_46, x34_47, x34_50, x34_53, x34_54, x34_57, x34_58, x34_61, x34_62, x34_63, x34_66, x34_67, x34_70, x34_73, x34_74, x34_75, x34_76, x34_79, x34_82, x34_83, x34_84, x34_87, x34_88, x34_89, x34_92, x34_93, x34_96, x34_97, x34_98, x34_99, x34_100, x34_103, x34_104, x34_105, x34_106, x34_107, x34_110, x34_111, x34_112, x34_115, x34_118, x34_121, x34_122, x34_123, x34_124, x34_125, x34_128, x34_131, x34_134, x34_135, x34_138, x34_139, x34_140, x34_143, x34_146, x34_149, x34_150, x34_151, x34_152, x34_153, x34_156, ↓reduceIte, Bool.false_eq_true, Nat.reduceAdd, Nat.reduceLT, Nat.reduceLeDiff, Nat.reduceSub, Nat.reduceEqDiff, Int.reduceToNat, Int.reduceEq, Int.reduceLT, Int.reduceLE, Int.reduceAdd, Int.reduceSub, zg, zI, zJ, zR, zst, zkl, zn, zcat, zok, zraw, List.length_cons, List.length_nil, Option.toList, List.nil_append, List.cons_append, true_and, and_true, if_true, if_false, ne_eq, not_true, not_false_eq_true, and_self, true_or, or_true, false_or, or_false, false_and, and_false, b_2 hc, b_3 hc, b_9 hc, b_12 hc, b_26 hc, b_40 hc, b_46 hc, b_47 hc, b_60 hc, b_62 hc, b_63 hc, b_76 hc, b_77 hc, b_90 hc, b_91 hc, b_104 hc, b_107 hc, b_114 hc, b_115 hc, b_122 hc, b_123 hc, b_131 hc, b_104 hc, r_104_0 hc, x_105 hc, r_104_1 hc, x_106 hc, r_104_6 hc, r_104_7 hc, r_104_8 hc, b_107 hc, r_107_0 hc, x_108 hc, n_108 hc, hd0, cCan hc hw hF rfl ha, hb2]
    exact hQ μ Fr.refl (fun _ _ _ => rfl) hF hP
end NA
