/-! NAILING of n; ONE BY ONE -/
section NB
variable {θ : zS} {T U : Nat} {τ : zT} {Q : Option zV → zS → zM → Prop} {μ : zM} {ρ : zF} {G : zU}
theorem w_unb {μ : zM} : haO τ ρ G ≤ 1296 → haO τ ρ G < 2147483647 := fun h => by omega
theorem cTrial {d : Nat} {x2 : zV} (h : CX θ T U τ μ) (hF : CF τ ρ 47 μ) (hQ : ∀ μ', Fr [107, 109, 110, 111, 112, 113] μ μ' → CF τ ρ 107 μ' → μ' 107 2 = μ 47 2 → Q none θ μ') : Ex d 61 0 [vr 107, vr 47, x2] [] θ μ Q := by
  have hn := tn_b h.2.1
  have hb3 : μ 47 3 = 0 ∨ μ 47 3 = 1 := by rw [hF.2.2.2.2.2]; exact hF.2.1.2.2
  refine cCopy (ρ := ρ) h.1.1 rf107 rf47 (by decide) hF.2.2 hn.2 hb3 ?_
  intro μ1 hf1 hR1 h2 _
  exact hQ μ1 hf1 ⟨rf107, hF.2.1, hR1⟩ h2
theorem cChoose {d n : Nat} {x : Int} {x2 : zV} (h : CX θ T U τ μ) (hN : CF τ ρ 47 μ) (hG : wfU G) (hU : CU G 46 μ) (hd : 6 ≤ d) (hx : x = (n : Int)) (hn2 : n ≤ 2) (hcache : μ 104 9 = (n : Int) → CP (nlO τ ρ G n) μ)
    (hQ : ∀ μ', Fr KN μ μ' → (∀ j, j ≠ 2 → j ≠ 3 → j ≠ 9 → μ' 104 j = μ 104 j) → μ' 104 9 = (n : Int) → CP (nlO τ ρ G n) μ' → Q none θ μ') : Ex d 32 0 [vr 104, vi x, x2] [] θ μ Q := by
  subst hx
  have hc := h.1.1
  have hw := h.2.1
  have hn := tn_b hw
  have hd0 : 0 < d := by omega
  by_cases hk : μ 104 9 = (n : Int)
  · simp (disch := omega) only [x32_0, x32_1, x32_4, x32_5, x32_8, x32_9, x32_10, x32_11, x32_14, x32_15, x32_16, x32_19, x32_20, x32_21, x32_22, x32_25, x32_28, x32_30, x32_33, x32_36, x32_37, x32_40, x32_41, x32_44, x32_47, x32_50, x32_51, x32_52, x32_55, x32_56, x32_58, x32_59, x32_62, x32_65, x32_68, x32_69, x32_72, x32_75, x32_76, x32_77, x32_80, x32_83, x32_86, x32_87, x32_88, x32_91, x32_92, x32_94, x32_95, x32_98, x32_101, x32_104, x32_105, x32_108, x32_111, x32_112, x32_113, x32_116, x32_119, x32_122, ↓reduceIte, Bool.false_eq_true, Nat.reduceAdd, Nat.reduceLT, Nat.reduceLeDiff, Nat.reduceSub, Nat.reduceEqDiff, Int.reduceToNat, Int.reduceEq, Int.reduceLT, Int.reduceLE, Int.reduceAdd, Int.reduceSub, zg, zI, zJ, zR, zst, zkl, zn, zcat, zok, zraw, List.length_cons, List.length_nil, Option.toList, List.nil_append, List.cons_append, true_and, and_true, if_true, if_false, ne_eq, not_true, not_false_eq_true, and_self, true_or, or_true, false_or, or_false, false_and, and_false, b_2 hc, b_3 hc, b_9 hc, b_12 hc, b_26 hc, b_40 hc, b_46 hc, b_47 hc, b_60 hc, b_62 hc, b_63 hc, b_76 hc, b_77 hc, b_90 hc, b_91 hc, b_104 hc, b_107 hc, b_114 hc, b_115 hc, b_122 hc, b_123 hc, b_131 hc, b_104 hc, r_104_0 hc, x_105 hc, r_104_1 hc, x_106 hc, r_104_6 hc, r_104_7 hc, r_104_8 hc, hk]
    exact hQ μ Fr.refl (fun _ _ _ _ => rfl) hk (hcache hk)
  · simp (disch := omega) only [x32_0, x32_1, x32_4, x32_5, x32_8, x32_9, x32_10, x32_11, x32_14, x32_15, x32_16, x32_19, x32_20, x32_21, x32_22, x32_25, x32_28, x32_30, x32_33, x32_36, x32_37, x32_40, x32_41, x32_44, x32_47, x32_50, x32_51, x32_52, x32_55, x32_56, x32_58, x32_59, x32_62, x32_65, x32_68, x32_69, x32_72, x32_75, x32_76, x32_77, x32_80, x32_83, x32_87, x32_88, x32_91, x32_92, x32_94, x32_95, x32_98, x32_101, x32_104, x32_105, x32_108, x32_111, x32_112, x32_113, x32_116, x32_119, x32_122, ↓reduceIte, Bool.false_eq_true, Nat.reduceAdd, Nat.reduceLT, Nat.reduceLeDiff, Nat.reduceSub, Nat.reduceEqDiff, Int.reduceToNat, Int.reduceEq, Int.reduceLT, Int.reduceLE, Int.reduceAdd, Int.reduceSub, zg, zI, zJ, zR, zst, zkl, zn, zcat, zok, zraw, List.length_cons, List.length_nil, Option.toList, List.nil_append, List.cons_append, true_and, and_true, if_true, if_false, ne_eq, not_true, not_false_eq_true, and_self, true_or, or_true, false_or, or_false, false_and, and_false, b_2 hc, b_3 hc, b_9 hc, b_12 hc, b_26 hc, b_40 hc, b_46 hc, b_47 hc, b_60 hc, b_62 hc, b_63 hc, b_76 hc, b_77 hc, b_90 hc, b_91 hc, b_104 hc, b_107 hc, b_114 hc, b_115 hc, b_122 hc, b_123 hc, b_131 hc, b_104 hc, r_104_0 hc, x_105 hc, r_104_1 hc, x_106 hc, r_104_6 hc, r_104_7 hc, r_104_8 hc, b_46 hc, r_46_0 hc, r_46_1 hc, x_54 hc, r_46_2 hc, x_55 hc, r_46_3 hc, x_56 hc, r_46_4 hc, x_57 hc, r_46_5 hc, x_58 hc, r_46_6 hc, x_59 hc, hk, hd0, ua_eq, us_same, us_us]
    have hfu : Fr KN μ (us μ 104 (zup (zup (μ 104) 9 (n : Nat)) 2 0)) := Fr.us (by decide) Fr.refl
    have hHb := ha_nn hw ρ hG
    refine cHarm (d := d - 1) (CX_fr h hfu (by decide)) (CF47_fr hN hfu (by decide)) hG (CU_fr hU hfu (by decide)) (by omega) ?_
    intro μ1 y hf1 hy _
    have hyv := hy (by omega)
    subst hyv
    have k1 : μ1 104 = zup (zup (μ 104) 9 (n : Nat)) 2 0 := by rw [hf1 104 (by decide), us_same]
    simp (disch := omega) only [x32_0, x32_1, x32_4, x32_5, x32_8, x32_9, x32_10, x32_11, x32_14, x32_15, x32_16, x32_19, x32_20, x32_21, x32_22, x32_25, x32_28, x32_30, x32_33, x32_36, x32_37, x32_40, x32_41, x32_44, x32_47, x32_50, x32_51, x32_52, x32_55, x32_56, x32_58, x32_59, x32_62, x32_65, x32_68, x32_69, x32_72, x32_75, x32_76, x32_77, x32_80, x32_83, x32_87, x32_88, x32_91, x32_92, x32_94, x32_95, x32_98, x32_101, x32_104, x32_105, x32_108, x32_111, x32_112, x32_113, x32_116, x32_119, x32_122, ↓reduceIte, Bool.false_eq_true, Nat.reduceAdd, Nat.reduceLT, Nat.reduceLeDiff, Nat.reduceSub, Nat.reduceEqDiff, Int.reduceToNat, Int.reduceEq, Int.reduceLT, Int.reduceLE, Int.reduceAdd, Int.reduceSub, zg, zI, zJ, zR, zst, zkl, zn, zcat, zok, zraw, List.length_cons, List.length_nil, Option.toList, List.nil_append, List.cons_append, true_and, and_true, if_true, if_false, ne_eq, not_true, not_false_eq_true, and_self, true_or, or_true, false_or, or_false, false_and, and_false, b_2 hc, b_3 hc, b_9 hc, b_12 hc, b_26 hc, b_40 hc, b_46 hc, b_47 hc, b_60 hc, b_62 hc, b_63 hc, b_76 hc, b_77 hc, b_90 hc, b_91 hc, b_104 hc, b_107 hc, b_114 hc, b_115 hc, b_122 hc, b_123 hc, b_131 hc, b_104 hc, r_104_0 hc, x_105 hc, r_104_1 hc, x_106 hc, r_104_6 hc, r_104_7 hc, r_104_8 hc, b_46 hc, r_46_0 hc, r_46_1 hc, x_54 hc, r_46_2 hc, x_55 hc, r_46_3 hc, x_56 hc, r_46_4 hc, x_57 hc, r_46_5 hc, x_58 hc, r_46_6 hc, x_59 hc, hd0, ua_eq, k1]
    have hfa : Fr KN μ (us μ1 104 (zup (zup (zup (μ 104) 9 (n : Nat)) 2 0) 3 (haO τ ρ G))) := Fr.us (by decide) (hfu.trans (hf1.mono (by decide)))
    refine cTrial (d := d - 1) (CX_fr h hfa (by decide)) (CF47_fr hN hfa (by decide)) ?_
    intro μ2 hf2 hF2 _
    have hf02 : Fr KN μ μ2 := hfa.trans (hf2.mono (by decide))
    have k2 : μ2 104 = zup (zup (zup (μ 104) 9 (n : Nat)) 2 0) 3 (haO τ ρ G) := by rw [hf2 104 (by decide), us_same]
    have P0 : CP (haO τ ρ G, []) μ2 := by
      refine ⟨?_, ?_, by simp, fun i hi => by simp at hi⟩
      · rw [k2, zup_same rfl]
      · rw [k2, zup_ne (by decide), zup_same rfl]; rfl
    have hj2 : ∀ j, j ≠ 2 → j ≠ 3 → j ≠ 9 → μ2 104 j = μ 104 j := fun j h1 h2 h3 => by rw [k2, zup_ne h2, zup_ne h1, zup_ne h3]
    have h92 : μ2 104 9 = (n : Int) := by rw [k2, zup_ne (by decide), zup_ne (by decide), zup_same rfl]
    have X : ∀ {μ3}, Fr KN μ μ3 → CX θ T U τ μ3 ∧ CF τ ρ 47 μ3 ∧ CU G 46 μ3 := fun hf => ⟨CX_fr h hf (by decide), CF47_fr hN hf (by decide), CU_fr hU hf (by decide)⟩
    -- pairs
    have loop3 : ∀ (S : zN), 2 ≤ n → nlO τ ρ G n = n3O τ ρ G S (tn τ) → ∀ t L μ3, t ≤ tn τ → (L = [vr 104, vi (n : Nat), vi (t : Nat)] ∧ Fr KN μ μ3 ∧ (∀ j, j ≠ 2 → j ≠ 3 → j ≠ 9 → μ3 104 j = μ 104 j) ∧ μ3 104 9 = (n : Int) ∧ CF τ ρ 107 μ3 ∧ CP (n3O τ ρ G S t) μ3) → Ex d 32 93 L [] θ μ3 Q := by
      intro S hn' hS
      refine Ex_loop (I := fun t L μ3 => L = [vr 104, vi (n : Nat), vi (t : Nat)] ∧ Fr KN μ μ3 ∧ (∀ j, j ≠ 2 → j ≠ 3 → j ≠ 9 → μ3 104 j = μ 104 j) ∧ μ3 104 9 = (n : Int) ∧ CF τ ρ 107 μ3 ∧ CP (n3O τ ρ G S t) μ3) (tn τ) ?_ ?_
      · rintro t L μ3 ht ⟨rfl, hf3, hj3, h93, F3, P3⟩ hk
        obtain ⟨X3, N3, U3⟩ := X hf3
        have i1 : ¬ ((tn τ : Int) ≤ (t : Int)) := by omega
        have et := F3.2.2.1
        have p3 := P3.1
        rw [x32_93]
        by_cases hpos : (n3O τ ρ G S t).1 ≤ 0
        · simp (disch := omega) only [x32_0, x32_1, x32_4, x32_5, x32_8, x32_9, x32_10, x32_11, x32_14, x32_15, x32_16, x32_19, x32_20, x32_21, x32_22, x32_25, x32_28, x32_30, x32_33, x32_36, x32_37, x32_40, x32_41, x32_44, x32_47, x32_50, x32_51, x32_52, x32_55, x32_56, x32_58, x32_59, x32_62, x32_65, x32_68, x32_69, x32_72, x32_75, x32_76, x32_77, x32_80, x32_83, x32_86, x32_87, x32_88, x32_91, x32_92, x32_94, x32_95, x32_98, x32_101, x32_104, x32_105, x32_108, x32_111, x32_112, x32_113, x32_116, x32_119, x32_122, ↓reduceIte, Bool.false_eq_true, Nat.reduceAdd, Nat.reduceLT, Nat.reduceLeDiff, Nat.reduceSub, Nat.reduceEqDiff, Int.reduceToNat, Int.reduceEq, Int.reduceLT, Int.reduceLE, Int.reduceAdd, Int.reduceSub, zg, zI, zJ, zR, zst, zkl, zn, zcat, zok, zraw, List.length_cons, List.length_nil, Option.toList, List.nil_append, List.cons_append, true_and, and_true, if_true, if_false, ne_eq, not_true, not_false_eq_true, and_self, true_or, or_true, false_or, or_false, false_and, and_false, b_2 hc, b_3 hc, b_9 hc, b_12 hc, b_26 hc, b_40 hc, b_46 hc, b_47 hc, b_60 hc, b_62 hc, b_63 hc, b_76 hc, b_77 hc, b_90 hc, b_91 hc, b_104 hc, b_107 hc, b_114 hc, b_115 hc, b_122 hc, b_123 hc, b_131 hc, b_104 hc, r_104_0 hc, x_105 hc, r_104_1 hc, x_106 hc, r_104_6 hc, r_104_7 hc, r_104_8 hc, b_107 hc, r_107_0 hc, x_108 hc, n_108 hc, et, i1, p3, hpos]
          refine hQ μ3 hf3 hj3 h93 ?_
          have := n3_stay hw hG hpos (tn τ - t)
          rw [show t + (tn τ - t) = tn τ by omega] at this
          rw [hS, this]; exact P3
        · simp (disch := omega) only [x32_0, x32_1, x32_4, x32_5, x32_8, x32_9, x32_10, x32_11, x32_14, x32_15, x32_16, x32_19, x32_20, x32_21, x32_22, x32_25, x32_28, x32_30, x32_33, x32_36, x32_37, x32_40, x32_41, x32_44, x32_47, x32_50, x32_51, x32_52, x32_55, x32_56, x32_58, x32_59, x32_62, x32_65, x32_68, x32_69, x32_72, x32_75, x32_76, x32_77, x32_80, x32_83, x32_86, x32_87, x32_88, x32_91, x32_92, x32_94, x32_95, x32_98, x32_101, x32_104, x32_105, x32_108, x32_111, x32_112, x32_113, x32_116, x32_119, x32_122, ↓reduceIte, Bool.false_eq_true, Nat.reduceAdd, Nat.reduceLT, Nat.reduceLeDiff, Nat.reduceSub, Nat.reduceEqDiff, Int.reduceToNat, Int.reduceEq, Int.reduceLT, Int.reduceLE, Int.reduceAdd, Int.reduceSub, zg, zI, zJ, zR, zst, zkl, zn, zcat, zok, zraw, List.length_cons, List.length_nil, Option.toList, List.nil_append, List.cons_append, true_and, and_true, if_true, if_false, ne_eq, not_true, not_false_eq_true, and_self, true_or, or_true, false_or, or_false, false_and, and_false, b_2 hc, b_3 hc, b_9 hc, b_12 hc, b_26 hc, b_40 hc, b_46 hc, b_47 hc, b_60 hc, b_62 hc, b_63 hc, b_76 hc, b_77 hc, b_90 hc, b_91 hc, b_104 hc, b_107 hc, b_114 hc, b_115 hc, b_122 hc, b_123 hc, b_131 hc, b_104 hc, r_104_0 hc, x_105 hc, r_104_1 hc, x_106 hc, r_104_6 hc, r_104_7 hc, r_104_8 hc, b_107 hc, r_107_0 hc, x_108 hc, n_108 hc, et, i1, p3, hpos, hd0]
          refine cTryPairs (d := d - 1) X3 F3 N3 hG U3 P3 (by omega) rfl ht ?_
          intro μ4 hf4 hj4 F4 P4
          simp (disch := omega) only [x32_0, x32_1, x32_4, x32_5, x32_8, x32_9, x32_10, x32_11, x32_14, x32_15, x32_16, x32_19, x32_20, x32_21, x32_22, x32_25, x32_28, x32_30, x32_33, x32_36, x32_37, x32_40, x32_41, x32_44, x32_47, x32_50, x32_51, x32_52, x32_55, x32_56, x32_58, x32_59, x32_62, x32_65, x32_68, x32_69, x32_72, x32_75, x32_76, x32_77, x32_80, x32_83, x32_86, x32_87, x32_88, x32_91, x32_92, x32_94, x32_95, x32_98, x32_101, x32_104, x32_105, x32_108, x32_111, x32_112, x32_113, x32_116, x32_119, x32_122, ↓reduceIte, Bool.false_eq_true, Nat.reduceAdd, Nat.reduceLT, Nat.reduceLeDiff, Nat.reduceSub, Nat.reduceEqDiff, Int.reduceToNat, Int.reduceEq, Int.reduceLT, Int.reduceLE, Int.reduceAdd, Int.reduceSub, zg, zI, zJ, zR, zst, zkl, zn, zcat, zok, zraw, List.length_cons, List.length_nil, Option.toList, List.nil_append, List.cons_append, true_and, and_true, if_true, if_false, ne_eq, not_true, not_false_eq_true, and_self, true_or, or_true, false_or, or_false, false_and, and_false, b_2 hc, b_3 hc, b_9 hc, b_12 hc, b_26 hc, b_40 hc, b_46 hc, b_47 hc, b_60 hc, b_62 hc, b_63 hc, b_76 hc, b_77 hc, b_90 hc, b_91 hc, b_104 hc, b_107 hc, b_114 hc, b_115 hc, b_122 hc, b_123 hc, b_131 hc, w32_s]
          apply hk
          exact ⟨rfl, hf3.trans hf4, fun j a b c => by rw [hj4 j a b, hj3 j a b c], by rw [hj4 9 (by decide) (by decide), h93], F4, P4⟩
      · rintro L μ3 ⟨rfl, hf3, hj3, h93, F3, P3⟩
        have et := F3.2.2.1
        rw [x32_93]
        simp (disch := omega) only [x32_0, x32_1, x32_4, x32_5, x32_8, x32_9, x32_10, x32_11, x32_14, x32_15, x32_16, x32_19, x32_20, x32_21, x32_22, x32_25, x32_28, x32_30, x32_33, x32_36, x32_37, x32_40, x32_41, x32_44, x32_47, x32_50, x32_51, x32_52, x32_55, x32_56, x32_58, x32_59, x32_62, x32_65, x32_68, x32_69, x32_72, x32_75, x32_76, x32_77, x32_80, x32_83, x32_86, x32_87, x32_88, x32_91, x32_92, x32_94, x32_95, x32_98, x32_101, x32_104, x32_105, x32_108, x32_111, x32_112, x32_113, x32_116, x32_119, x32_122, ↓reduceIte, Bool.false_eq_true, Nat.reduceAdd, Nat.reduceLT, Nat.reduceLeDiff, Nat.reduceSub, Nat.reduceEqDiff, Int.reduceToNat, Int.reduceEq, Int.reduceLT, Int.reduceLE, Int.reduceAdd, Int.reduceSub, zg, zI, zJ, zR, zst, zkl, zn, zcat, zok, zraw, List.length_cons, List.length_nil, Option.toList, List.nil_append, List.cons_append, true_and, and_true, if_true, if_false, ne_eq, not_true, not_false_eq_true, and_self, true_or, or_true, false_or, or_false, false_and, and_false, b_2 hc, b_3 hc, b_9 hc, b_12 hc, b_26 hc, b_40 hc, b_46 hc, b_47 hc, b_60 hc, b_62 hc, b_63 hc, b_76 hc, b_77 hc, b_90 hc, b_91 hc, b_104 hc, b_107 hc, b_114 hc, b_115 hc, b_122 hc, b_123 hc, b_131 hc, b_104 hc, r_104_0 hc, x_105 hc, r_104_1 hc, x_106 hc, r_104_6 hc, r_104_7 hc, r_104_8 hc, b_107 hc, r_107_0 hc, x_108 hc, n_108 hc, et, Int.le_refl]
        exact hQ μ3 hf3 hj3 h93 (by rw [hS]; exact P3)
    -- behind the single ones
    have mid : ∀ (S : zN) μ3 x2, S = (if 1 ≤ n then n1O τ ρ G (haO τ ρ G, []) (tn τ) else (haO τ ρ G, [])) → Fr KN μ μ3 → (∀ j, j ≠ 2 → j ≠ 3 → j ≠ 9 → μ3 104 j = μ 104 j) → μ3 104 9 = (n : Int) → CF τ ρ 107 μ3 → CP S μ3 → Ex d 32 86 [vr 104, vi (n : Nat), x2] [] θ μ3 Q := by
      intro S μ3 x2 hS hf3 hj3 h93 F3 P3
      have hnl : nlO τ ρ G n = if 2 ≤ n then n3O τ ρ G S (tn τ) else S := by unfold nlO; rw [← hS]
      by_cases hn' : 2 ≤ n
      · have c1 : ¬ ((n : Int) < 2) := by omega
        simp (disch := omega) only [x32_0, x32_1, x32_4, x32_5, x32_8, x32_9, x32_10, x32_11, x32_14, x32_15, x32_16, x32_19, x32_20, x32_21, x32_22, x32_25, x32_28, x32_30, x32_33, x32_36, x32_37, x32_40, x32_41, x32_44, x32_47, x32_50, x32_51, x32_52, x32_55, x32_56, x32_58, x32_59, x32_62, x32_65, x32_68, x32_69, x32_72, x32_75, x32_76, x32_77, x32_80, x32_83, x32_86, x32_87, x32_88, x32_91, x32_92, x32_94, x32_95, x32_98, x32_101, x32_104, x32_105, x32_108, x32_111, x32_112, x32_113, x32_116, x32_119, x32_122, ↓reduceIte, Bool.false_eq_true, Nat.reduceAdd, Nat.reduceLT, Nat.reduceLeDiff, Nat.reduceSub, Nat.reduceEqDiff, Int.reduceToNat, Int.reduceEq, Int.reduceLT, Int.reduceLE, Int.reduceAdd, Int.reduceSub, zg, zI, zJ, zR, zst, zkl, zn, zcat, zok, zraw, List.length_cons, List.length_nil, Option.toList, List.nil_append, List.cons_append, true_and, and_true, if_true, if_false, ne_eq, not_true, not_false_eq_true, and_self, true_or, or_true, false_or, or_false, false_and, and_false, b_2 hc, b_3 hc, b_9 hc, b_12 hc, b_26 hc, b_40 hc, b_46 hc, b_47 hc, b_60 hc, b_62 hc, b_63 hc, b_76 hc, b_77 hc, b_90 hc, b_91 hc, b_104 hc, b_107 hc, b_114 hc, b_115 hc, b_122 hc, b_123 hc, b_131 hc, c1]
        exact loop3 S hn' (by rw [hnl, if_pos hn']) 0 _ μ3 (by omega) ⟨rfl, hf3, hj3, h93, F3, P3⟩
      · have c1 : ((n : Int) < 2) := by omega
        simp (disch := omega) only [x32_0, x32_1, x32_4, x32_5, x32_8, x32_9, x32_10, x32_11, x32_14, x32_15, x32_16, x32_19, x32_20, x32_21, x32_22, x32_25, x32_28, x32_30, x32_33, x32_36, x32_37, x32_40, x32_41, x32_44, x32_47, x32_50, x32_51, x32_52, x32_55, x32_56, x32_58, x32_59, x32_62, x32_65, x32_68, x32_69, x32_72, x32_75, x32_76, x32_77, x32_80, x32_83, x32_86, x32_87, x32_88, x32_91, x32_92, x32_94, x32_95, x32_98, x32_101, x32_104, x32_105, x32_108, x32_111, x32_112, x32_113, x32_116, x32_119, x32_122, ↓reduceIte, Bool.false_eq_true, Nat.reduceAdd, Nat.reduceLT, Nat.reduceLeDiff, Nat.reduceSub, Nat.reduceEqDiff, Int.reduceToNat, Int.reduceEq, Int.reduceLT, Int.reduceLE, Int.reduceAdd, Int.reduceSub, zg, zI, zJ, zR, zst, zkl, zn, zcat, zok, zraw, List.length_cons, List.length_nil, Option.toList, List.nil_append, List.cons_append, true_and, and_true, if_true, if_false, ne_eq, not_true, not_false_eq_true, and_self, true_or, or_true, false_or, or_false, false_and, and_false, b_2 hc, b_3 hc, b_9 hc, b_12 hc, b_26 hc, b_40 hc, b_46 hc, b_47 hc, b_60 hc, b_62 hc, b_63 hc, b_76 hc, b_77 hc, b_90 hc, b_91 hc, b_104 hc, b_107 hc, b_114 hc, b_115 hc, b_122 hc, b_123 hc, b_131 hc, c1]
        exact hQ μ3 hf3 hj3 h93 (by rw [hnl, if_neg hn']; exact P3)
    by_cases hn1 : 1 ≤ n
    · have c1 : ¬ ((n : Int) < 1) := by omega
      simp (disch := omega) only [x32_0, x32_1, x32_4, x32_5, x32_8, x32_9, x32_10, x32_11, x32_14, x32_15, x32_16, x32_19, x32_20, x32_21, x32_22, x32_25, x32_28, x32_30, x32_33, x32_36, x32_37, x32_40, x32_41, x32_44, x32_47, x32_50, x32_51, x32_52, x32_55, x32_56, x32_58, x32_59, x32_62, x32_65, x32_68, x32_69, x32_72, x32_75, x32_76, x32_77, x32_80, x32_83, x32_87, x32_88, x32_91, x32_92, x32_94, x32_95, x32_98, x32_101, x32_104, x32_105, x32_108, x32_111, x32_112, x32_113, x32_116, x32_119, x32_122, ↓reduceIte, Bool.false_eq_true, Nat.reduceAdd, Nat.reduceLT, Nat.reduceLeDiff, Nat.reduceSub, Nat.reduceEqDiff, Int.reduceToNat, Int.reduceEq, Int.reduceLT, Int.reduceLE, Int.reduceAdd, Int.reduceSub, zg, zI, zJ, zR, zst, zkl, zn, zcat, zok, zraw, List.length_cons, List.length_nil, Option.toList, List.nil_append, List.cons_append, true_and, and_true, if_true, if_false, ne_eq, not_true, not_false_eq_true, and_self, true_or, or_true, false_or, or_false, false_and, and_false, b_2 hc, b_3 hc, b_9 hc, b_12 hc, b_26 hc, b_40 hc, b_46 hc, b_47 hc, b_60 hc, b_62 hc, b_63 hc, b_76 hc, b_77 hc, b_90 hc, b_91 hc, b_104 hc, b_107 hc, b_114 hc, b_115 hc, b_122 hc, b_123 hc, b_131 hc, c1]
      have loop1 : ∀ t L μ3, t ≤ tn τ → (L = [vr 104, vi (n : Nat), vi (t : Nat)] ∧ Fr KN μ μ3 ∧ (∀ j, j ≠ 2 → j ≠ 3 → j ≠ 9 → μ3 104 j = μ 104 j) ∧ μ3 104 9 = (n : Int) ∧ CF τ ρ 107 μ3 ∧ CP (n1O τ ρ G (haO τ ρ G, []) t) μ3) → Ex d 32 57 L [] θ μ3 Q := by
        refine Ex_loop (I := fun t L μ3 => L = [vr 104, vi (n : Nat), vi (t : Nat)] ∧ Fr KN μ μ3 ∧ (∀ j, j ≠ 2 → j ≠ 3 → j ≠ 9 → μ3 104 j = μ 104 j) ∧ μ3 104 9 = (n : Int) ∧ CF τ ρ 107 μ3 ∧ CP (n1O τ ρ G (haO τ ρ G, []) t) μ3) (tn τ) ?_ ?_
        · rintro t L μ3 ht ⟨rfl, hf3, hj3, h93, F3, P3⟩ hk
          obtain ⟨X3, N3, U3⟩ := X hf3
          have i1 : ¬ ((tn τ : Int) ≤ (t : Int)) := by omega
          have et := F3.2.2.1
          have p3 := P3.1
          rw [x32_57]
          by_cases hpos : (n1O τ ρ G (haO τ ρ G, []) t).1 ≤ 0
          · simp (disch := omega) only [x32_0, x32_1, x32_4, x32_5, x32_8, x32_9, x32_10, x32_11, x32_14, x32_15, x32_16, x32_19, x32_20, x32_21, x32_22, x32_25, x32_28, x32_30, x32_33, x32_36, x32_37, x32_40, x32_41, x32_44, x32_47, x32_50, x32_51, x32_52, x32_55, x32_56, x32_58, x32_59, x32_62, x32_65, x32_68, x32_69, x32_72, x32_75, x32_76, x32_77, x32_80, x32_83, x32_87, x32_88, x32_91, x32_92, x32_94, x32_95, x32_98, x32_101, x32_104, x32_105, x32_108, x32_111, x32_112, x32_113, x32_116, x32_119, x32_122, ↓reduceIte, Bool.false_eq_true, Nat.reduceAdd, Nat.reduceLT, Nat.reduceLeDiff, Nat.reduceSub, Nat.reduceEqDiff, Int.reduceToNat, Int.reduceEq, Int.reduceLT, Int.reduceLE, Int.reduceAdd, Int.reduceSub, zg, zI, zJ, zR, zst, zkl, zn, zcat, zok, zraw, List.length_cons, List.length_nil, Option.toList, List.nil_append, List.cons_append, true_and, and_true, if_true, if_false, ne_eq, not_true, not_false_eq_true, and_self, true_or, or_true, false_or, or_false, false_and, and_false, b_2 hc, b_3 hc, b_9 hc, b_12 hc, b_26 hc, b_40 hc, b_46 hc, b_47 hc, b_60 hc, b_62 hc, b_63 hc, b_76 hc, b_77 hc, b_90 hc, b_91 hc, b_104 hc, b_107 hc, b_114 hc, b_115 hc, b_122 hc, b_123 hc, b_131 hc, b_104 hc, r_104_0 hc, x_105 hc, r_104_1 hc, x_106 hc, r_104_6 hc, r_104_7 hc, r_104_8 hc, b_107 hc, r_107_0 hc, x_108 hc, n_108 hc, et, i1, p3, hpos]
            refine mid _ μ3 _ (by rw [if_pos hn1]) hf3 hj3 h93 F3 ?_
            have := n1_stay hw hG hpos (tn τ - t)
            rw [show t + (tn τ - t) = tn τ by omega] at this
            rw [this]; exact P3
          · simp (disch := omega) only [x32_0, x32_1, x32_4, x32_5, x32_8, x32_9, x32_10, x32_11, x32_14, x32_15, x32_16, x32_19, x32_20, x32_21, x32_22, x32_25, x32_28, x32_30, x32_33, x32_36, x32_37, x32_40, x32_41, x32_44, x32_47, x32_50, x32_51, x32_52, x32_55, x32_56, x32_58, x32_59, x32_62, x32_65, x32_68, x32_69, x32_72, x32_75, x32_76, x32_77, x32_80, x32_83, x32_87, x32_88, x32_91, x32_92, x32_94, x32_95, x32_98, x32_101, x32_104, x32_105, x32_108, x32_111, x32_112, x32_113, x32_116, x32_119, x32_122, ↓reduceIte, Bool.false_eq_true, Nat.reduceAdd, Nat.reduceLT, Nat.reduceLeDiff, Nat.reduceSub, Nat.reduceEqDiff, Int.reduceToNat, Int.reduceEq, Int.reduceLT, Int.reduceLE, Int.reduceAdd, Int.reduceSub, zg, zI, zJ, zR, zst, zkl, zn, zcat, zok, zraw, List.length_cons, List.length_nil, Option.toList, List.nil_append, List.cons_append, true_and, and_true, if_true, if_false, ne_eq, not_true, not_false_eq_true, and_self, true_or, or_true, false_or, or_false, false_and, and_false, b_2 hc, b_3 hc, b_9 hc, b_12 hc, b_26 hc, b_40 hc, b_46 hc, b_47 hc, b_60 hc, b_62 hc, b_63 hc, b_76 hc, b_77 hc, b_90 hc, b_91 hc, b_104 hc, b_107 hc, b_114 hc, b_115 hc, b_122 hc, b_123 hc, b_131 hc, b_104 hc, r_104_0 hc, x_105 hc, r_104_1 hc, x_106 hc, r_104_6 hc, r_104_7 hc, r_104_8 hc, b_107 hc, r_107_0 hc, x_108 hc, n_108 hc, et, i1, p3, hpos, hd0]
            refine cTryNail (d := d - 1) X3 F3 N3 hG U3 P3 (by omega) rfl ht ?_
            intro μ4 hf4 hj4 F4 P4
            simp (disch := omega) only [x32_0, x32_1, x32_4, x32_5, x32_8, x32_9, x32_10, x32_11, x32_14, x32_15, x32_16, x32_19, x32_20, x32_21, x32_22, x32_25, x32_28, x32_30, x32_33, x32_36, x32_37, x32_40, x32_41, x32_44, x32_47, x32_50, x32_51, x32_52, x32_55, x32_56, x32_58, x32_59, x32_62, x32_65, x32_68, x32_69, x32_72, x32_75, x32_76, x32_77, x32_80, x32_83, x32_87, x32_88, x32_91, x32_92, x32_94, x32_95, x32_98, x32_101, x32_104, x32_105, x32_108, x32_111, x32_112, x32_113, x32_116, x32_119, x32_122, ↓reduceIte, Bool.false_eq_true, Nat.reduceAdd, Nat.reduceLT, Nat.reduceLeDiff, Nat.reduceSub, Nat.reduceEqDiff, Int.reduceToNat, Int.reduceEq, Int.reduceLT, Int.reduceLE, Int.reduceAdd, Int.reduceSub, zg, zI, zJ, zR, zst, zkl, zn, zcat, zok, zraw, List.length_cons, List.length_nil, Option.toList, List.nil_append, List.cons_append, true_and, and_true, if_true, if_false, ne_eq, not_true, not_false_eq_true, and_self, true_or, or_true, false_or, or_false, false_and, and_false, b_2 hc, b_3 hc, b_9 hc, b_12 hc, b_26 hc, b_40 hc, b_46 hc, b_47 hc, b_60 hc, b_62 hc, b_63 hc, b_76 hc, b_77 hc, b_90 hc, b_91 hc, b_104 hc, b_107 hc, b_114 hc, b_115 hc, b_122 hc, b_123 hc, b_131 hc, w32_s]
            apply hk
            exact ⟨rfl, hf3.trans hf4, fun j a b c => by rw [hj4 j a b, hj3 j a b c], by rw [hj4 9 (by decide) (by decide), h93], F4, P4⟩
        · rintro L μ3 ⟨rfl, hf3, hj3, h93, F3, P3⟩
          have et := F3.2.2.1
          rw [x32_57]
          simp (disch := omega) only [x32_0, x32_1, x32_4, x32_5, x32_8, x32_9, x32_10, x32_11, x32_14, x32_15, x32_16, x32_19, x32_20, x32_21, x32_22, x32_25, x32_28, x32_30, x32_33, x32_36, x32_37, x32_40, x32_41, x32_44, x32_47, x32_50, x32_51, x32_52, x32_55, x32_56, x32_58, x32_59, x32_62, x32_65, x32_68, x32_69, x32_72, x32_75, x32_76, x32_77, x32_80, x32_83, x32_87, x32_88, x32_91, x32_92, x32_94, x32_95, x32_98, x32_101, x32_104, x32_105, x32_108, x32_111, x32_112, x32_113, x32_116, x32_119, x32_122, ↓reduceIte, Bool.false_eq_true, Nat.reduceAdd, Nat.reduceLT, Nat.reduceLeDiff, Nat.reduceSub, Nat.reduceEqDiff, Int.reduceToNat, Int.reduceEq, Int.reduceLT, Int.reduceLE, Int.reduceAdd, Int.reduceSub, zg, zI, zJ, zR, zst, zkl, zn, zcat, zok, zraw, List.length_cons, List.length_nil, Option.toList, List.nil_append, List.cons_append, true_and, and_true, if_true, if_false, ne_eq, not_true, not_false_eq_true, and_self, true_or, or_true, false_or, or_false, false_and, and_false, b_2 hc, b_3 hc, b_9 hc, b_12 hc, b_26 hc, b_40 hc, b_46 hc, b_47 hc, b_60 hc, b_62 hc, b_63 hc, b_76 hc, b_77 hc, b_90 hc, b_91 hc, b_104 hc, b_107 hc, b_114 hc, b_115 hc, b_122 hc, b_123 hc, b_131 hc, b_104 hc, r_104_0 hc, x_105 hc, r_104_1 hc, x_106 hc, r_104_6 hc, r_104_7 hc, r_104_8 hc, b_107 hc, r_107_0 hc, x_108 hc, n_108 hc, et, Int.le_refl]
          exact mid _ μ3 _ (by rw [if_pos hn1]) hf3 hj3 h93 F3 P3
      exact loop1 0 _ μ2 (by omega) ⟨rfl, hf02, hj2, h92, hF2, P0⟩
    · have c1 : ((n : Int) < 1) := by omega
      simp (disch := omega) only [x32_0, x32_1, x32_4, x32_5, x32_8, x32_9, x32_10, x32_11, x32_14, x32_15, x32_16, x32_19, x32_20, x32_21, x32_22, x32_25, x32_28, x32_30, x32_33, x32_36, x32_37, x32_40, x32_41, x32_44, x32_47, x32_50, x32_51, x32_52, x32_55, x32_56, x32_58, x32_59, x32_62, x32_65, x32_68, x32_69, x32_72, x32_75, x32_76, x32_77, x32_80, x32_83, x32_87, x32_88, x32_91, x32_92, x32_94, x32_95, x32_98, x32_101, x32_104, x32_105, x32_108, x32_111, x32_112, x32_113, x32_116, x32_119, x32_122, ↓reduceIte, Bool.false_eq_true, Nat.reduceAdd, Nat.reduceLT, Nat.reduceLeDiff, Nat.reduceSub, Nat.reduceEqDiff, Int.reduceToNat, Int.reduceEq, Int.reduceLT, Int.reduceLE, Int.reduceAdd, Int.reduceSub, zg, zI, zJ, zR, zst, zkl, zn, zcat, zok, zraw, List.length_cons, List.length_nil, Option.toList, List.nil_append, List.cons_append, true_and, and_true, if_true, if_false, ne_eq, not_true, not_false_eq_true, and_self, true_or, or_true, false_or, or_false, false_and, and_false, b_2 hc, b_3 hc, b_9 hc, b_12 hc, b_26 hc, b_40 hc, b_46 hc, b_47 hc, b_60 hc, b_62 hc, b_63 hc, b_76 hc, b_77 hc, b_90 hc, b_91 hc, b_104 hc, b_107 hc, b_114 hc, b_115 hc, b_122 hc, b_123 hc, b_131 hc, c1]
      exact mid _ μ2 _ (by rw [if_neg hn1]) hf02 hj2 h92 hF2 P0
/-- ONE BY ONE: what is left, those chosen, the roof -/
def stO (τ : zT) (ρ : zF) (G : zU) : Nat → zN × zF
  | 0 => ((haO τ ρ G, []), ρ)
  | k + 1 => match (n1O τ (stO τ ρ G k).2 G ((stO τ ρ G k).1.1, []) (tn τ)).2 with
    | [] => stO τ ρ G k
    | t :: _ => (((n1O τ (stO τ ρ G k).2 G ((stO τ ρ G k).1.1, []) (tn τ)).1, (stO τ ρ G k).1.2 ++ [t]), naF (stO τ ρ G k).2 t)
theorem n1_sh {S : zN} (hS : S.2 = []) : ∀ n, (n1O τ ρ G S n).2 = [] ∧ (n1O τ ρ G S n).1 = S.1 ∨ ∃ t, t < n ∧ (n1O τ ρ G S n).2 = [t] ∧ canO ρ t = true := by
  intro n
  induction n with
  | zero => exact Or.inl ⟨hS, rfl⟩
  | succ n ih =>
    rw [n1O]
    unfold s1O
    by_cases hc : canO ρ n = true ∧ haO τ (naF ρ n) G < (n1O τ ρ G S n).1
    · rw [if_pos hc]; exact Or.inr ⟨n, Nat.lt_succ_self _, rfl, hc.1⟩
    · rw [if_neg hc]
      rcases ih with h | ⟨t, h1, h2, h3⟩
      · exact Or.inl h
      · exact Or.inr ⟨t, by omega, h2, h3⟩
def bsV : List Nat → Int
  | [] => -1
  | t :: _ => (t : Int)
def KM : List Nat := GA ++ [104, 107, 109, 110, 111, 112, 113]
theorem cStep {d : Nat} {x1 x2 x3 : zV} {e : Int} {ρk : zF} (h : CX θ T U τ μ) (hF : CF τ ρk 107 μ) (hN : CF τ ρ 47 μ) (hG : wfU G) (hU : CU G 46 μ) (h5 : μ 104 5 = e) (hd : 5 ≤ d) (hage : ∀ t, t < tn τ → ρk.1 1 t = 0 → ρ.1 3 t = ρk.1 3 t)
    (hQ : ∀ μ', Fr KM μ μ' → (∀ j, j ≠ 5 → μ' 104 j = μ 104 j) → μ' 104 5 = (n1O τ ρk G (e, []) (tn τ)).1 → CF τ ρk 107 μ' → Q (some (vi (bsV (n1O τ ρk G (e, []) (tn τ)).2))) θ μ') : Ex d 36 0 [vr 104, x1, x2, x3] [] θ μ Q := by
  have hc := h.1.1
  have hw := h.2.1
  have hn := tn_b hw
  have hd0 : 0 < d := by omega
  have key : ∀ t L μ1, t ≤ tn τ → (∃ x3, L = [vr 104, vi (bsV (n1O τ ρk G (e, []) t).2), vi (t : Nat), x3] ∧ Fr KM μ μ1 ∧ (∀ j, j ≠ 5 → μ1 104 j = μ 104 j) ∧ μ1 104 5 = (n1O τ ρk G (e, []) t).1 ∧ CF τ ρk 107 μ1) → Ex d 36 4 L [] θ μ1 Q := by
    refine Ex_loop (I := fun t L μ1 => ∃ x3, L = [vr 104, vi (bsV (n1O τ ρk G (e, []) t).2), vi (t : Nat), x3] ∧ Fr KM μ μ1 ∧ (∀ j, j ≠ 5 → μ1 104 j = μ 104 j) ∧ μ1 104 5 = (n1O τ ρk G (e, []) t).1 ∧ CF τ ρk 107 μ1) (tn τ) ?_ ?_
    · rintro t L μ1 ht ⟨x3, rfl, hf, hj, p5, F1⟩ hk
      have i1 : ¬ ((tn τ : Int) ≤ (t : Int)) := by omega
      have et := F1.2.2.1
      have X1 : CX θ T U τ μ1 := CX_fr h hf (by decide)
      have N1 : CF τ ρ 47 μ1 := CF47_fr hN hf (by decide)
      have U1 : CU G 46 μ1 := CU_fr hU hf (by decide)
      have hst : n1O τ ρk G (e, []) (t + 1) = s1O τ ρk G (n1O τ ρk G (e, []) t) t := rfl
      unfold s1O at hst
      have hstay : (n1O τ ρk G (e, []) t).1 ≤ 0 → n1O τ ρk G (e, []) (tn τ) = n1O τ ρk G (e, []) t := fun hp => by
        have := n1_stay hw hG hp (tn τ - t)
        rwa [show t + (tn τ - t) = tn τ by omega] at this
      generalize n1O τ ρk G (e, []) t = S at *
      rw [x36_4]
      by_cases hpos : S.1 ≤ 0
      · simp (disch := omega) only [x36_0, x36_1, x36_2, x36_3, x36_5, x36_6, x36_9, x36_12, x36_15, x36_16, x36_19, x36_22, x36_23, x36_26, x36_27, x36_30, x36_33, x36_34, x36_37, x36_38, x36_41, x36_42, x36_43, x36_46, x36_47, x36_50, x36_53, x36_54, x36_55, x36_56, x36_59, x36_62, x36_63, x36_64, x36_67, x36_68, x36_69, x36_70, x36_73, x36_74, x36_75, x36_78, x36_81, x36_84, x36_85, x36_86, x36_87, x36_88, x36_91, x36_94, x36_97, x36_98, ↓reduceIte, Bool.false_eq_true, Nat.reduceAdd, Nat.reduceLT, Nat.reduceLeDiff, Nat.reduceSub, Nat.reduceEqDiff, Int.reduceToNat, Int.reduceEq, Int.reduceLT, Int.reduceLE, Int.reduceAdd, Int.reduceSub, zg, zI, zJ, zR, zst, zkl, zn, zcat, zok, zraw, List.length_cons, List.length_nil, Option.toList, List.nil_append, List.cons_append, true_and, and_true, if_true, if_false, ne_eq, not_true, not_false_eq_true, and_self, true_or, or_true, false_or, or_false, false_and, and_false, b_2 hc, b_3 hc, b_9 hc, b_12 hc, b_26 hc, b_40 hc, b_46 hc, b_47 hc, b_60 hc, b_62 hc, b_63 hc, b_76 hc, b_77 hc, b_90 hc, b_91 hc, b_104 hc, b_107 hc, b_114 hc, b_115 hc, b_122 hc, b_123 hc, b_131 hc, b_104 hc, r_104_0 hc, x_105 hc, r_104_1 hc, x_106 hc, r_104_6 hc, r_104_7 hc, r_104_8 hc, b_107 hc, r_107_0 hc, x_108 hc, n_108 hc, et, i1, p5, hpos]
        have he := hstay hpos
        have := hQ μ1 hf hj (by rw [he]; exact p5) F1
        rw [he] at this
        exact this
      · by_cases hcb : canO ρk t = true
        · have hb1 : b2 (canO ρk t) = 1 := by rw [hcb]; rfl
          have hzt : ρk.1 1 t = 0 := by unfold canO at hcb; simp at hcb; exact hcb.2
          simp (disch := omega) only [x36_0, x36_1, x36_2, x36_3, x36_5, x36_6, x36_9, x36_12, x36_15, x36_16, x36_19, x36_22, x36_23, x36_26, x36_27, x36_30, x36_33, x36_34, x36_37, x36_38, x36_41, x36_42, x36_43, x36_46, x36_47, x36_50, x36_53, x36_54, x36_55, x36_56, x36_59, x36_62, x36_63, x36_64, x36_67, x36_68, x36_69, x36_70, x36_73, x36_74, x36_75, x36_78, x36_81, x36_84, x36_85, x36_86, x36_87, x36_88, x36_91, x36_94, x36_97, x36_98, ↓reduceIte, Bool.false_eq_true, Nat.reduceAdd, Nat.reduceLT, Nat.reduceLeDiff, Nat.reduceSub, Nat.reduceEqDiff, Int.reduceToNat, Int.reduceEq, Int.reduceLT, Int.reduceLE, Int.reduceAdd, Int.reduceSub, zg, zI, zJ, zR, zst, zkl, zn, zcat, zok, zraw, List.length_cons, List.length_nil, Option.toList, List.nil_append, List.cons_append, true_and, and_true, if_true, if_false, ne_eq, not_true, not_false_eq_true, and_self, true_or, or_true, false_or, or_false, false_and, and_false, b_2 hc, b_3 hc, b_9 hc, b_12 hc, b_26 hc, b_40 hc, b_46 hc, b_47 hc, b_60 hc, b_62 hc, b_63 hc, b_76 hc, b_77 hc, b_90 hc, b_91 hc, b_104 hc, b_107 hc, b_114 hc, b_115 hc, b_122 hc, b_123 hc, b_131 hc, b_104 hc, r_104_0 hc, x_105 hc, r_104_1 hc, x_106 hc, r_104_6 hc, r_104_7 hc, r_104_8 hc, b_107 hc, r_107_0 hc, x_108 hc, n_108 hc, et, i1, p5, hpos, hd0, cCan hc hw F1 rfl ht, hb1]
          refine cNail hc hw F1 rfl ht ?_
          intro μ2 hf2 F2
          have k104 : μ2 104 = μ1 104 := hf2 104 (by decide)
          simp (disch := omega) only [x36_0, x36_1, x36_2, x36_3, x36_5, x36_6, x36_9, x36_12, x36_15, x36_16, x36_19, x36_22, x36_23, x36_26, x36_27, x36_30, x36_33, x36_34, x36_37, x36_38, x36_41, x36_42, x36_43, x36_46, x36_47, x36_50, x36_53, x36_54, x36_55, x36_56, x36_59, x36_62, x36_63, x36_64, x36_67, x36_68, x36_69, x36_70, x36_73, x36_74, x36_75, x36_78, x36_81, x36_84, x36_85, x36_86, x36_87, x36_88, x36_91, x36_94, x36_97, x36_98, ↓reduceIte, Bool.false_eq_true, Nat.reduceAdd, Nat.reduceLT, Nat.reduceLeDiff, Nat.reduceSub, Nat.reduceEqDiff, Int.reduceToNat, Int.reduceEq, Int.reduceLT, Int.reduceLE, Int.reduceAdd, Int.reduceSub, zg, zI, zJ, zR, zst, zkl, zn, zcat, zok, zraw, List.length_cons, List.length_nil, Option.toList, List.nil_append, List.cons_append, true_and, and_true, if_true, if_false, ne_eq, not_true, not_false_eq_true, and_self, true_or, or_true, false_or, or_false, false_and, and_false, b_2 hc, b_3 hc, b_9 hc, b_12 hc, b_26 hc, b_40 hc, b_46 hc, b_47 hc, b_60 hc, b_62 hc, b_63 hc, b_76 hc, b_77 hc, b_90 hc, b_91 hc, b_104 hc, b_107 hc, b_114 hc, b_115 hc, b_122 hc, b_123 hc, b_131 hc, b_104 hc, r_104_0 hc, x_105 hc, r_104_1 hc, x_106 hc, r_104_6 hc, r_104_7 hc, r_104_8 hc, b_107 hc, r_107_0 hc, x_108 hc, n_108 hc, hd0]
          refine cHarm (d := d - 1) (CX_fr X1 hf2 (by decide)) F2 hG (CU_fr U1 hf2 (by decide)) (by omega) ?_
          intro μ3 y hf3 hy1 hy2
          have hf13 : Fr KM μ1 μ3 := (hf2.mono (by decide)).trans (hf3.mono (by decide))
          have F3 : CF τ (naF ρk t) 107 μ3 := CF107_fr F2 hf3 (by decide)
          have N3 : CF τ ρ 47 μ3 := CF47_fr N1 hf13 (by decide)
          have k3 : μ3 104 = μ1 104 := by rw [hf3 104 (by decide), k104]
          have q5 : μ2 104 5 = S.1 := by rw [k104]; exact p5
          have p53 : μ3 104 5 = S.1 := by rw [k3]; exact p5
          rw [q5] at hy1 hy2
          have back : ∀ {μ4} (x : Int), Fr KM μ3 μ4 → (∀ j, j ≠ 5 → μ4 104 j = μ3 104 j) → CF τ (naF ρk t) 107 μ4 → CF τ ρ 47 μ4 → μ4 104 5 = (n1O τ ρk G (e, []) (t + 1)).1 → x = bsV (n1O τ ρk G (e, []) (t + 1)).2 → Ex d 36 69 [vr 104, vi x, vi (t : Nat), vi y] [] θ μ4 Q := by
            intro μ4 x hf4 hj4 F4 N4 P4 hxv
            have e52 := N4.2.2.2.1 3 t (by decide) ht
            simp only [Nat.reduceAdd] at e52
            simp (disch := omega) only [x36_0, x36_1, x36_2, x36_3, x36_5, x36_6, x36_9, x36_12, x36_15, x36_16, x36_19, x36_22, x36_23, x36_26, x36_27, x36_30, x36_33, x36_34, x36_37, x36_38, x36_41, x36_42, x36_43, x36_46, x36_47, x36_50, x36_53, x36_54, x36_55, x36_56, x36_59, x36_62, x36_63, x36_64, x36_67, x36_68, x36_69, x36_70, x36_73, x36_74, x36_75, x36_78, x36_81, x36_84, x36_85, x36_86, x36_87, x36_88, x36_91, x36_94, x36_97, x36_98, ↓reduceIte, Bool.false_eq_true, Nat.reduceAdd, Nat.reduceLT, Nat.reduceLeDiff, Nat.reduceSub, Nat.reduceEqDiff, Int.reduceToNat, Int.reduceEq, Int.reduceLT, Int.reduceLE, Int.reduceAdd, Int.reduceSub, zg, zI, zJ, zR, zst, zkl, zn, zcat, zok, zraw, List.length_cons, List.length_nil, Option.toList, List.nil_append, List.cons_append, true_and, and_true, if_true, if_false, ne_eq, not_true, not_false_eq_true, and_self, true_or, or_true, false_or, or_false, false_and, and_false, b_2 hc, b_3 hc, b_9 hc, b_12 hc, b_26 hc, b_40 hc, b_46 hc, b_47 hc, b_60 hc, b_62 hc, b_63 hc, b_76 hc, b_77 hc, b_90 hc, b_91 hc, b_104 hc, b_107 hc, b_114 hc, b_115 hc, b_122 hc, b_123 hc, b_131 hc, b_104 hc, r_104_0 hc, x_105 hc, r_104_1 hc, x_106 hc, r_104_6 hc, r_104_7 hc, r_104_8 hc, b_107 hc, r_107_0 hc, x_108 hc, n_108 hc, b_46 hc, r_46_0 hc, r_46_1 hc, x_54 hc, r_46_2 hc, x_55 hc, r_46_3 hc, x_56 hc, r_46_4 hc, x_57 hc, r_46_5 hc, x_58 hc, r_46_6 hc, x_59 hc, b_47 hc, r_47_0 hc, x_48 hc, n_48 hc, x_48 hc, n_48 hc, r_48_0 hc, x_49 hc, r_48_1 hc, x_50 hc, r_48_2 hc, x_51 hc, r_48_3 hc, x_52 hc, r_48_4 hc, x_53 hc, hd0, e52, Int.toNat_natCast, Int.reduceToNat]
            refine cUnnail hc hw F4 F1.2.1 rfl ht (hage t ht hzt) hzt ?_
            intro μ5 hf5 F5
            simp (disch := omega) only [x36_0, x36_1, x36_2, x36_3, x36_5, x36_6, x36_9, x36_12, x36_15, x36_16, x36_19, x36_22, x36_23, x36_26, x36_27, x36_30, x36_33, x36_34, x36_37, x36_38, x36_41, x36_42, x36_43, x36_46, x36_47, x36_50, x36_53, x36_54, x36_55, x36_56, x36_59, x36_62, x36_63, x36_64, x36_67, x36_68, x36_69, x36_70, x36_73, x36_74, x36_75, x36_78, x36_81, x36_84, x36_85, x36_86, x36_87, x36_88, x36_91, x36_94, x36_97, x36_98, ↓reduceIte, Bool.false_eq_true, Nat.reduceAdd, Nat.reduceLT, Nat.reduceLeDiff, Nat.reduceSub, Nat.reduceEqDiff, Int.reduceToNat, Int.reduceEq, Int.reduceLT, Int.reduceLE, Int.reduceAdd, Int.reduceSub, zg, zI, zJ, zR, zst, zkl, zn, zcat, zok, zraw, List.length_cons, List.length_nil, Option.toList, List.nil_append, List.cons_append, true_and, and_true, if_true, if_false, ne_eq, not_true, not_false_eq_true, and_self, true_or, or_true, false_or, or_false, false_and, and_false, b_2 hc, b_3 hc, b_9 hc, b_12 hc, b_26 hc, b_40 hc, b_46 hc, b_47 hc, b_60 hc, b_62 hc, b_63 hc, b_76 hc, b_77 hc, b_90 hc, b_91 hc, b_104 hc, b_107 hc, b_114 hc, b_115 hc, b_122 hc, b_123 hc, b_131 hc, w32_s]
            have k5 : μ5 104 = μ4 104 := hf5 104 (by decide)
            apply hk
            refine ⟨_, by rw [hxv], hf.trans (hf13.trans (hf4.trans (hf5.mono (by decide)))), ?_, by rw [k5]; exact P4, F5⟩
            intro j h1; rw [k5, hj4 j h1, k3, hj j h1]
          by_cases hlt : haO τ (naF ρk t) G < S.1
          · have hy := hy1 hlt
            have c1 : ¬ S.1 ≤ y := by omega
            simp (disch := omega) only [x36_0, x36_1, x36_2, x36_3, x36_5, x36_6, x36_9, x36_12, x36_15, x36_16, x36_19, x36_22, x36_23, x36_26, x36_27, x36_30, x36_33, x36_34, x36_37, x36_38, x36_41, x36_42, x36_43, x36_46, x36_47, x36_50, x36_53, x36_54, x36_55, x36_56, x36_59, x36_62, x36_63, x36_64, x36_67, x36_68, x36_70, x36_73, x36_74, x36_75, x36_78, x36_81, x36_84, x36_85, x36_86, x36_87, x36_88, x36_91, x36_94, x36_97, x36_98, ↓reduceIte, Bool.false_eq_true, Nat.reduceAdd, Nat.reduceLT, Nat.reduceLeDiff, Nat.reduceSub, Nat.reduceEqDiff, Int.reduceToNat, Int.reduceEq, Int.reduceLT, Int.reduceLE, Int.reduceAdd, Int.reduceSub, zg, zI, zJ, zR, zst, zkl, zn, zcat, zok, zraw, List.length_cons, List.length_nil, Option.toList, List.nil_append, List.cons_append, true_and, and_true, if_true, if_false, ne_eq, not_true, not_false_eq_true, and_self, true_or, or_true, false_or, or_false, false_and, and_false, b_2 hc, b_3 hc, b_9 hc, b_12 hc, b_26 hc, b_40 hc, b_46 hc, b_47 hc, b_60 hc, b_62 hc, b_63 hc, b_76 hc, b_77 hc, b_90 hc, b_91 hc, b_104 hc, b_107 hc, b_114 hc, b_115 hc, b_122 hc, b_123 hc, b_131 hc, b_104 hc, r_104_0 hc, x_105 hc, r_104_1 hc, x_106 hc, r_104_6 hc, r_104_7 hc, r_104_8 hc, hd0, p53, c1, ua_eq, us_same, us_us]
            refine back _ (Fr.us (by decide) Fr.refl) ?_ ?_ ?_ ?_ ?_
            · intro j h1; rw [us_same, zup_ne h1]
            · exact CF107_fr (A := [104]) F3 (Fr.us (by decide) Fr.refl) (by decide)
            · exact CF47_fr (A := [104]) N3 (Fr.us (by decide) Fr.refl) (by decide)
            · rw [hst, if_pos ⟨hcb, hlt⟩, us_same, zup_same rfl, hy]
            · rw [hst, if_pos ⟨hcb, hlt⟩]; rfl
          · have c1 : S.1 ≤ y := hy2 (by omega)
            simp (disch := omega) only [x36_0, x36_1, x36_2, x36_3, x36_5, x36_6, x36_9, x36_12, x36_15, x36_16, x36_19, x36_22, x36_23, x36_26, x36_27, x36_30, x36_33, x36_34, x36_37, x36_38, x36_41, x36_42, x36_43, x36_46, x36_47, x36_50, x36_53, x36_54, x36_55, x36_56, x36_59, x36_62, x36_63, x36_64, x36_67, x36_68, x36_70, x36_73, x36_74, x36_75, x36_78, x36_81, x36_84, x36_85, x36_86, x36_87, x36_88, x36_91, x36_94, x36_97, x36_98, ↓reduceIte, Bool.false_eq_true, Nat.reduceAdd, Nat.reduceLT, Nat.reduceLeDiff, Nat.reduceSub, Nat.reduceEqDiff, Int.reduceToNat, Int.reduceEq, Int.reduceLT, Int.reduceLE, Int.reduceAdd, Int.reduceSub, zg, zI, zJ, zR, zst, zkl, zn, zcat, zok, zraw, List.length_cons, List.length_nil, Option.toList, List.nil_append, List.cons_append, true_and, and_true, if_true, if_false, ne_eq, not_true, not_false_eq_true, and_self, true_or, or_true, false_or, or_false, false_and, and_false, b_2 hc, b_3 hc, b_9 hc, b_12 hc, b_26 hc, b_40 hc, b_46 hc, b_47 hc, b_60 hc, b_62 hc, b_63 hc, b_76 hc, b_77 hc, b_90 hc, b_91 hc, b_104 hc, b_107 hc, b_114 hc, b_115 hc, b_122 hc, b_123 hc, b_131 hc, b_104 hc, r_104_0 hc, x_105 hc, r_104_1 hc, x_106 hc, r_104_6 hc, r_104_7 hc, r_104_8 hc, hd0, p53, c1]
            refine back _ Fr.refl (fun _ _ => rfl) F3 N3 ?_ ?_
            · rw [hst, if_neg (fun q => hlt q.2)]; exact p53
            · rw [hst, if_neg (fun q => hlt q.2)]
        · have hb1 : b2 (canO ρk t) = 0 := by unfold b2; rw [if_neg hcb]
          simp (disch := omega) only [x36_0, x36_1, x36_2, x36_3, x36_5, x36_6, x36_9, x36_12, x36_15, x36_16, x36_19, x36_22, x36_23, x36_26, x36_27, x36_30, x36_33, x36_34, x36_37, x36_38, x36_41, x36_42, x36_43, x36_46, x36_47, x36_50, x36_53, x36_54, x36_55, x36_56, x36_59, x36_62, x36_63, x36_64, x36_67, x36_68, x36_69, x36_70, x36_73, x36_74, x36_75, x36_78, x36_81, x36_84, x36_85, x36_86, x36_87, x36_88, x36_91, x36_94, x36_97, x36_98, ↓reduceIte, Bool.false_eq_true, Nat.reduceAdd, Nat.reduceLT, Nat.reduceLeDiff, Nat.reduceSub, Nat.reduceEqDiff, Int.reduceToNat, Int.reduceEq, Int.reduceLT, Int.reduceLE, Int.reduceAdd, Int.reduceSub, zg, zI, zJ, zR, zst, zkl, zn, zcat, zok, zraw, List.length_cons, List.length_nil, Option.toList, List.nil_append, List.cons_append, true_and, and_true, if_true, if_false, ne_eq, not_true, not_false_eq_true, and_self, true_or, or_true, false_or, or_false, false_and, and_false, b_2 hc, b_3 hc, b_9 hc, b_12 hc, b_26 hc, b_40 hc, b_46 hc, b_47 hc, b_60 hc, b_62 hc, b_63 hc, b_76 hc, b_77 hc, b_90 hc, b_91 hc, b_104 hc, b_107 hc, b_114 hc, b_115 hc, b_122 hc, b_123 hc, b_131 hc, b_104 hc, r_104_0 hc, x_105 hc, r_104_1 hc, x_106 hc, r_104_6 hc, r_104_7 hc, r_104_8 hc, b_107 hc, r_107_0 hc, x_108 hc, n_108 hc, et, i1, p5, hpos, hd0, cCan hc hw F1 rfl ht, hb1, w32_s]
          apply hk
          refine ⟨x3, ?_, hf, hj, ?_, F1⟩
          · rw [hst, if_neg (fun q => hcb q.1)]
          · rw [hst, if_neg (fun q => hcb q.1)]; exact p5
    · rintro L μ1 ⟨x3, rfl, hf, hj, p5, F1⟩
      have et := F1.2.2.1
      rw [x36_4]
      simp (disch := omega) only [x36_0, x36_1, x36_2, x36_3, x36_5, x36_6, x36_9, x36_12, x36_15, x36_16, x36_19, x36_22, x36_23, x36_26, x36_27, x36_30, x36_33, x36_34, x36_37, x36_38, x36_41, x36_42, x36_43, x36_46, x36_47, x36_50, x36_53, x36_54, x36_55, x36_56, x36_59, x36_62, x36_63, x36_64, x36_67, x36_68, x36_69, x36_70, x36_73, x36_74, x36_75, x36_78, x36_81, x36_84, x36_85, x36_86, x36_87, x36_88, x36_91, x36_94, x36_97, x36_98, ↓reduceIte, Bool.false_eq_true, Nat.reduceAdd, Nat.reduceLT, Nat.reduceLeDiff, Nat.reduceSub, Nat.reduceEqDiff, Int.reduceToNat, Int.reduceEq, Int.reduceLT, Int.reduceLE, Int.reduceAdd, Int.reduceSub, zg, zI, zJ, zR, zst, zkl, zn, zcat, zok, zraw, List.length_cons, List.length_nil, Option.toList, List.nil_append, List.cons_append, true_and, and_true, if_true, if_false, ne_eq, not_true, not_false_eq_true, and_self, true_or, or_true, false_or, or_false, false_and, and_false, b_2 hc, b_3 hc, b_9 hc, b_12 hc, b_26 hc, b_40 hc, b_46 hc, b_47 hc, b_60 hc, b_62 hc, b_63 hc, b_76 hc, b_77 hc, b_90 hc, b_91 hc, b_104 hc, b_107 hc, b_114 hc, b_115 hc, b_122 hc, b_123 hc, b_131 hc, b_104 hc, r_104_0 hc, x_105 hc, r_104_1 hc, x_106 hc, r_104_6 hc, r_104_7 hc, r_104_8 hc, b_107 hc, r_107_0 hc, x_108 hc, n_108 hc, et, Int.le_refl]
      exact hQ μ1 hf hj p5 F1
  simp (disch := omega) only [x36_0, x36_1, x36_2, x36_3, x36_5, x36_6, x36_9, x36_12, x36_15, x36_16, x36_19, x36_22, x36_23, x36_26, x36_27, x36_30, x36_33, x36_34, x36_37, x36_38, x36_41, x36_42, x36_43, x36_46, x36_47, x36_50, x36_53, x36_54, x36_55, x36_56, x36_59, x36_62, x36_63, x36_64, x36_67, x36_68, x36_69, x36_70, x36_73, x36_74, x36_75, x36_78, x36_81, x36_84, x36_85, x36_86, x36_87, x36_88, x36_91, x36_94, x36_97, x36_98, ↓reduceIte, Bool.false_eq_true, Nat.reduceAdd, Nat.reduceLT, Nat.reduceLeDiff, Nat.reduceSub, Nat.reduceEqDiff, Int.reduceToNat, Int.reduceEq, Int.reduceLT, Int.reduceLE, Int.reduceAdd, Int.reduceSub, zg, zI, zJ, zR, zst, zkl, zn, zcat, zok, zraw, List.length_cons, List.length_nil, Option.toList, List.nil_append, List.cons_append, true_and, and_true, if_true, if_false, ne_eq, not_true, not_false_eq_true, and_self, true_or, or_true, false_or, or_false, false_and, and_false, b_2 hc, b_3 hc, b_9 hc, b_12 hc, b_26 hc, b_40 hc, b_46 hc, b_47 hc, b_60 hc, b_62 hc, b_63 hc, b_76 hc, b_77 hc, b_90 hc, b_91 hc, b_104 hc, b_107 hc, b_114 hc, b_115 hc, b_122 hc, b_123 hc, b_131 hc]
  exact key 0 _ μ (by omega) ⟨_, rfl, Fr.refl, fun _ _ => rfl, h5, hF⟩
/-- the planner's steps -/
def CQ (S : zN) (μ : zM) : Prop := μ 104 5 = S.1 ∧ μ 104 4 = (S.2.length : Nat) ∧ S.2.length ≤ 12 ∧ ∀ i (h : i < S.2.length), μ 106 i = (S.2[i] : Nat)
def KS : List Nat := GA ++ [104, 106, 107, 109, 110, 111, 112, 113]
theorem st_age : ∀ k t, t < tn τ → (stO τ ρ G k).2.1 1 t = 0 → ρ.1 3 t = (stO τ ρ G k).2.1 3 t := by
  intro k
  induction k with
  | zero => intro t _ _; rfl
  | succ k ih =>
    intro t ht
    rw [stO]
    cases hr : (n1O τ (stO τ ρ G k).2 G ((stO τ ρ G k).1.1, []) (tn τ)).2 with
    | nil => exact ih t ht
    | cons q r =>
      simp only
      intro hz
      unfold naF at hz ⊢
      by_cases hq : t = q
      · subst hq; simp at hz
      · simp [hq] at hz ⊢; exact ih t ht hz
theorem st_len : ∀ k, (stO τ ρ G k).1.2.length ≤ k := by
  intro k
  induction k with
  | zero => simp [stO]
  | succ k ih =>
    rw [stO]
    cases hr : (n1O τ (stO τ ρ G k).2 G ((stO τ ρ G k).1.1, []) (tn τ)).2 with
    | nil => simp only; omega
    | cons q r => simp only [List.length_append, List.length_cons, List.length_nil]; omega
theorem st_stay {k : Nat} (h : (n1O τ (stO τ ρ G k).2 G ((stO τ ρ G k).1.1, []) (tn τ)).2 = []) : ∀ j, stO τ ρ G (k + j) = stO τ ρ G k := by
  intro j
  induction j with
  | zero => rfl
  | succ j ih => rw [← Nat.add_assoc, stO, ih, h]
theorem cSteps {d n : Nat} {x : Int} {x2 x3 : zV} (h : CX θ T U τ μ) (hN : CF τ ρ 47 μ) (hG : wfU G) (hU : CU G 46 μ) (hd : 6 ≤ d) (hx : x = (n : Int)) (hn2 : n ≤ 12) (hcache : μ 104 10 = (n : Int) → CQ (stO τ ρ G n).1 μ)
    (hQ : ∀ μ', Fr KS μ μ' → (∀ j, j ≠ 4 → j ≠ 5 → j ≠ 10 → μ' 104 j = μ 104 j) → μ' 104 10 = (n : Int) → CQ (stO τ ρ G n).1 μ' → Q none θ μ') : Ex d 35 0 [vr 104, vi x, x2, x3] [] θ μ Q := by
  subst hx
  have hc := h.1.1
  have hw := h.2.1
  have hn := tn_b hw
  have hd0 : 0 < d := by omega
  by_cases hk : μ 104 10 = (n : Int)
  · simp (disch := omega) only [x35_0, x35_1, x35_4, x35_5, x35_8, x35_9, x35_10, x35_11, x35_14, x35_15, x35_16, x35_19, x35_20, x35_21, x35_22, x35_25, x35_28, x35_30, x35_33, x35_36, x35_37, x35_40, x35_41, x35_44, x35_47, x35_50, x35_51, x35_53, x35_54, x35_57, x35_58, x35_60, x35_63, x35_64, x35_67, x35_68, x35_69, x35_70, x35_73, x35_74, x35_75, x35_78, x35_79, x35_82, x35_83, x35_86, x35_87, x35_88, x35_89, x35_90, x35_91, x35_94, x35_95, x35_96, x35_99, x35_102, x35_105, ↓reduceIte, Bool.false_eq_true, Nat.reduceAdd, Nat.reduceLT, Nat.reduceLeDiff, Nat.reduceSub, Nat.reduceEqDiff, Int.reduceToNat, Int.reduceEq, Int.reduceLT, Int.reduceLE, Int.reduceAdd, Int.reduceSub, zg, zI, zJ, zR, zst, zkl, zn, zcat, zok, zraw, List.length_cons, List.length_nil, Option.toList, List.nil_append, List.cons_append, true_and, and_true, if_true, if_false, ne_eq, not_true, not_false_eq_true, and_self, true_or, or_true, false_or, or_false, false_and, and_false, b_2 hc, b_3 hc, b_9 hc, b_12 hc, b_26 hc, b_40 hc, b_46 hc, b_47 hc, b_60 hc, b_62 hc, b_63 hc, b_76 hc, b_77 hc, b_90 hc, b_91 hc, b_104 hc, b_107 hc, b_114 hc, b_115 hc, b_122 hc, b_123 hc, b_131 hc, b_104 hc, r_104_0 hc, x_105 hc, r_104_1 hc, x_106 hc, r_104_6 hc, r_104_7 hc, r_104_8 hc, hk]
    exact hQ μ Fr.refl (fun _ _ _ _ => rfl) hk (hcache hk)
  · simp (disch := omega) only [x35_0, x35_1, x35_4, x35_5, x35_8, x35_9, x35_10, x35_11, x35_14, x35_15, x35_16, x35_19, x35_20, x35_21, x35_22, x35_25, x35_28, x35_30, x35_33, x35_36, x35_37, x35_40, x35_41, x35_44, x35_47, x35_50, x35_51, x35_53, x35_54, x35_57, x35_58, x35_60, x35_63, x35_64, x35_67, x35_68, x35_69, x35_70, x35_73, x35_74, x35_75, x35_78, x35_79, x35_82, x35_83, x35_86, x35_87, x35_88, x35_89, x35_90, x35_91, x35_94, x35_95, x35_96, x35_99, x35_102, x35_105, ↓reduceIte, Bool.false_eq_true, Nat.reduceAdd, Nat.reduceLT, Nat.reduceLeDiff, Nat.reduceSub, Nat.reduceEqDiff, Int.reduceToNat, Int.reduceEq, Int.reduceLT, Int.reduceLE, Int.reduceAdd, Int.reduceSub, zg, zI, zJ, zR, zst, zkl, zn, zcat, zok, zraw, List.length_cons, List.length_nil, Option.toList, List.nil_append, List.cons_append, true_and, and_true, if_true, if_false, ne_eq, not_true, not_false_eq_true, and_self, true_or, or_true, false_or, or_false, false_and, and_false, b_2 hc, b_3 hc, b_9 hc, b_12 hc, b_26 hc, b_40 hc, b_46 hc, b_47 hc, b_60 hc, b_62 hc, b_63 hc, b_76 hc, b_77 hc, b_90 hc, b_91 hc, b_104 hc, b_107 hc, b_114 hc, b_115 hc, b_122 hc, b_123 hc, b_131 hc, b_104 hc, r_104_0 hc, x_105 hc, r_104_1 hc, x_106 hc, r_104_6 hc, r_104_7 hc, r_104_8 hc, b_46 hc, r_46_0 hc, r_46_1 hc, x_54 hc, r_46_2 hc, x_55 hc, r_46_3 hc, x_56 hc, r_46_4 hc, x_57 hc, r_46_5 hc, x_58 hc, r_46_6 hc, x_59 hc, hk, hd0, ua_eq, us_same, us_us]
    have hfu : Fr KS μ (us μ 104 (zup (zup (μ 104) 10 (n : Nat)) 4 0)) := Fr.us (by decide) Fr.refl
    have hHb := ha_nn hw ρ hG
    refine cHarm (d := d - 1) (CX_fr h hfu (by decide)) (CF47_fr hN hfu (by decide)) hG (CU_fr hU hfu (by decide)) (by omega) ?_
    intro μ1 y hf1 hy _
    have hyv := hy (by omega)
    subst hyv
    have k1 : μ1 104 = zup (zup (μ 104) 10 (n : Nat)) 4 0 := by rw [hf1 104 (by decide), us_same]
    simp (disch := omega) only [x35_0, x35_1, x35_4, x35_5, x35_8, x35_9, x35_10, x35_11, x35_14, x35_15, x35_16, x35_19, x35_20, x35_21, x35_22, x35_25, x35_28, x35_30, x35_33, x35_36, x35_37, x35_40, x35_41, x35_44, x35_47, x35_50, x35_51, x35_53, x35_54, x35_57, x35_58, x35_60, x35_63, x35_64, x35_67, x35_68, x35_69, x35_70, x35_73, x35_74, x35_75, x35_78, x35_79, x35_82, x35_83, x35_86, x35_87, x35_88, x35_89, x35_90, x35_91, x35_94, x35_95, x35_96, x35_99, x35_102, x35_105, ↓reduceIte, Bool.false_eq_true, Nat.reduceAdd, Nat.reduceLT, Nat.reduceLeDiff, Nat.reduceSub, Nat.reduceEqDiff, Int.reduceToNat, Int.reduceEq, Int.reduceLT, Int.reduceLE, Int.reduceAdd, Int.reduceSub, zg, zI, zJ, zR, zst, zkl, zn, zcat, zok, zraw, List.length_cons, List.length_nil, Option.toList, List.nil_append, List.cons_append, true_and, and_true, if_true, if_false, ne_eq, not_true, not_false_eq_true, and_self, true_or, or_true, false_or, or_false, false_and, and_false, b_2 hc, b_3 hc, b_9 hc, b_12 hc, b_26 hc, b_40 hc, b_46 hc, b_47 hc, b_60 hc, b_62 hc, b_63 hc, b_76 hc, b_77 hc, b_90 hc, b_91 hc, b_104 hc, b_107 hc, b_114 hc, b_115 hc, b_122 hc, b_123 hc, b_131 hc, b_104 hc, r_104_0 hc, x_105 hc, r_104_1 hc, x_106 hc, r_104_6 hc, r_104_7 hc, r_104_8 hc, b_46 hc, r_46_0 hc, r_46_1 hc, x_54 hc, r_46_2 hc, x_55 hc, r_46_3 hc, x_56 hc, r_46_4 hc, x_57 hc, r_46_5 hc, x_58 hc, r_46_6 hc, x_59 hc, hd0, ua_eq, k1]
    have hfa : Fr KS μ (us μ1 104 (zup (zup (zup (μ 104) 10 (n : Nat)) 4 0) 5 (haO τ ρ G))) := Fr.us (by decide) (hfu.trans (hf1.mono (by decide)))
    refine cTrial (d := d - 1) (CX_fr h hfa (by decide)) (CF47_fr hN hfa (by decide)) ?_
    intro μ2 hf2 hF2 _
    have hf02 : Fr KS μ μ2 := hfa.trans (hf2.mono (by decide))
    have k2 : μ2 104 = zup (zup (zup (μ 104) 10 (n : Nat)) 4 0) 5 (haO τ ρ G) := by rw [hf2 104 (by decide), us_same]
    have P0 : CQ (stO τ ρ G 0).1 μ2 := by
      refine ⟨?_, ?_, by simp [stO], fun i hi => by simp [stO] at hi⟩
      · rw [k2, zup_same rfl]; rfl
      · rw [k2, zup_ne (by decide), zup_same rfl]; rfl
    have hj2 : ∀ j, j ≠ 4 → j ≠ 5 → j ≠ 10 → μ2 104 j = μ 104 j := fun j h1 h2 h3 => by rw [k2, zup_ne h2, zup_ne h1, zup_ne h3]
    have h92 : μ2 104 10 = (n : Int) := by rw [k2, zup_ne (by decide), zup_ne (by decide), zup_same rfl]
    have key : ∀ t L μ3, t ≤ n → (∃ x3, L = [vr 104, vi (n : Nat), vi (t : Nat), x3] ∧ Fr KS μ μ3 ∧ (∀ j, j ≠ 4 → j ≠ 5 → j ≠ 10 → μ3 104 j = μ 104 j) ∧ μ3 104 10 = (n : Int) ∧ CF τ (stO τ ρ G t).2 107 μ3 ∧ CQ (stO τ ρ G t).1 μ3 ∧ (stO τ ρ G t).1.2.length = t) → Ex d 35 52 L [] θ μ3 Q := by
      refine Ex_loop (I := fun t L μ3 => ∃ x3, L = [vr 104, vi (n : Nat), vi (t : Nat), x3] ∧ Fr KS μ μ3 ∧ (∀ j, j ≠ 4 → j ≠ 5 → j ≠ 10 → μ3 104 j = μ 104 j) ∧ μ3 104 10 = (n : Int) ∧ CF τ (stO τ ρ G t).2 107 μ3 ∧ CQ (stO τ ρ G t).1 μ3 ∧ (stO τ ρ G t).1.2.length = t) n ?_ ?_
      · rintro t L μ3 ht ⟨x3, rfl, hf3, hj3, h93, F3, P3, hlen⟩ hk
        have i1 : ¬ ((n : Int) ≤ (t : Int)) := by omega
        have i2 : ¬ ((12 : Int) ≤ (t : Int)) := by omega
        have X3 : CX θ T U τ μ3 := CX_fr h hf3 (by decide)
        have N3 : CF τ ρ 47 μ3 := CF47_fr hN hf3 (by decide)
        have U3 : CU G 46 μ3 := CU_fr hU hf3 (by decide)
        rw [x35_52]
        simp (disch := omega) only [x35_0, x35_1, x35_4, x35_5, x35_8, x35_9, x35_10, x35_11, x35_14, x35_15, x35_16, x35_19, x35_20, x35_21, x35_22, x35_25, x35_28, x35_30, x35_33, x35_36, x35_37, x35_40, x35_41, x35_44, x35_47, x35_50, x35_51, x35_53, x35_54, x35_57, x35_58, x35_60, x35_63, x35_64, x35_67, x35_68, x35_69, x35_70, x35_73, x35_74, x35_75, x35_78, x35_79, x35_82, x35_83, x35_86, x35_87, x35_88, x35_89, x35_90, x35_91, x35_94, x35_95, x35_96, x35_99, x35_102, x35_105, ↓reduceIte, Bool.false_eq_true, Nat.reduceAdd, Nat.reduceLT, Nat.reduceLeDiff, Nat.reduceSub, Nat.reduceEqDiff, Int.reduceToNat, Int.reduceEq, Int.reduceLT, Int.reduceLE, Int.reduceAdd, Int.reduceSub, zg, zI, zJ, zR, zst, zkl, zn, zcat, zok, zraw, List.length_cons, List.length_nil, Option.toList, List.nil_append, List.cons_append, true_and, and_true, if_true, if_false, ne_eq, not_true, not_false_eq_true, and_self, true_or, or_true, false_or, or_false, false_and, and_false, b_2 hc, b_3 hc, b_9 hc, b_12 hc, b_26 hc, b_40 hc, b_46 hc, b_47 hc, b_60 hc, b_62 hc, b_63 hc, b_76 hc, b_77 hc, b_90 hc, b_91 hc, b_104 hc, b_107 hc, b_114 hc, b_115 hc, b_122 hc, b_123 hc, b_131 hc, b_104 hc, r_104_0 hc, x_105 hc, r_104_1 hc, x_106 hc, r_104_6 hc, r_104_7 hc, r_104_8 hc, b_107 hc, r_107_0 hc, x_108 hc, n_108 hc, i1, i2, hd0]
        refine cStep (d := d - 1) (ρk := (stO τ ρ G t).2) X3 F3 N3 hG U3 P3.1 (by omega) (st_age t) ?_
        intro μ4 hf4 hj4 p5 F4
        have hst : stO τ ρ G (t + 1) = match (n1O τ (stO τ ρ G t).2 G ((stO τ ρ G t).1.1, []) (tn τ)).2 with
          | [] => stO τ ρ G t
          | q :: _ => (((n1O τ (stO τ ρ G t).2 G ((stO τ ρ G t).1.1, []) (tn τ)).1, (stO τ ρ G t).1.2 ++ [q]), naF (stO τ ρ G t).2 q) := rfl
        have hf04 : Fr KS μ μ4 := hf3.trans (hf4.mono (by decide))
        rcases n1_sh (τ := τ) (ρ := (stO τ ρ G t).2) (G := G) (S := ((stO τ ρ G t).1.1, [])) rfl (tn τ) with ⟨hnil, hval⟩ | ⟨q, hq, hsome, hcan⟩
        · have hb : bsV (n1O τ (stO τ ρ G t).2 G ((stO τ ρ G t).1.1, []) (tn τ)).2 = -1 := by rw [hnil]; rfl
          rw [hb]
          simp (disch := omega) only [x35_0, x35_1, x35_4, x35_5, x35_8, x35_9, x35_10, x35_11, x35_14, x35_15, x35_16, x35_19, x35_20, x35_21, x35_22, x35_25, x35_28, x35_30, x35_33, x35_36, x35_37, x35_40, x35_41, x35_44, x35_47, x35_50, x35_51, x35_53, x35_54, x35_57, x35_58, x35_60, x35_63, x35_64, x35_67, x35_68, x35_69, x35_70, x35_73, x35_74, x35_75, x35_78, x35_79, x35_82, x35_83, x35_86, x35_87, x35_88, x35_89, x35_90, x35_91, x35_94, x35_95, x35_96, x35_99, x35_102, x35_105, ↓reduceIte, Bool.false_eq_true, Nat.reduceAdd, Nat.reduceLT, Nat.reduceLeDiff, Nat.reduceSub, Nat.reduceEqDiff, Int.reduceToNat, Int.reduceEq, Int.reduceLT, Int.reduceLE, Int.reduceAdd, Int.reduceSub, zg, zI, zJ, zR, zst, zkl, zn, zcat, zok, zraw, List.length_cons, List.length_nil, Option.toList, List.nil_append, List.cons_append, true_and, and_true, if_true, if_false, ne_eq, not_true, not_false_eq_true, and_self, true_or, or_true, false_or, or_false, false_and, and_false, b_2 hc, b_3 hc, b_9 hc, b_12 hc, b_26 hc, b_40 hc, b_46 hc, b_47 hc, b_60 hc, b_62 hc, b_63 hc, b_76 hc, b_77 hc, b_90 hc, b_91 hc, b_104 hc, b_107 hc, b_114 hc, b_115 hc, b_122 hc, b_123 hc, b_131 hc, b_104 hc, r_104_0 hc, x_105 hc, r_104_1 hc, x_106 hc, r_104_6 hc, r_104_7 hc, r_104_8 hc]
          have hs := st_stay hnil (n - t)
          rw [show t + (n - t) = n by omega] at hs
          refine hQ μ4 hf04 (fun j a b c => by rw [hj4 j b, hj3 j a b c]) (by rw [hj4 10 (by decide), h93]) ?_
          rw [hs]
          refine ⟨by rw [p5, hval], by rw [hj4 4 (by decide)]; exact P3.2.1, P3.2.2.1, ?_⟩
          rw [hf4 106 (by decide)]; exact P3.2.2.2
        · have hb : bsV (n1O τ (stO τ ρ G t).2 G ((stO τ ρ G t).1.1, []) (tn τ)).2 = (q : Int) := by rw [hsome]; rfl
          have hne : ¬ ((q : Int) = -1) := by omega
          rw [hb]
          rw [hsome] at hst
          simp (disch := omega) only [x35_0, x35_1, x35_4, x35_5, x35_8, x35_9, x35_10, x35_11, x35_14, x35_15, x35_16, x35_19, x35_20, x35_21, x35_22, x35_25, x35_28, x35_30, x35_33, x35_36, x35_37, x35_40, x35_41, x35_44, x35_47, x35_50, x35_51, x35_53, x35_54, x35_57, x35_58, x35_60, x35_63, x35_64, x35_67, x35_68, x35_69, x35_70, x35_73, x35_74, x35_75, x35_78, x35_79, x35_82, x35_83, x35_86, x35_87, x35_88, x35_89, x35_90, x35_91, x35_94, x35_95, x35_96, x35_99, x35_102, x35_105, ↓reduceIte, Bool.false_eq_true, Nat.reduceAdd, Nat.reduceLT, Nat.reduceLeDiff, Nat.reduceSub, Nat.reduceEqDiff, Int.reduceToNat, Int.reduceEq, Int.reduceLT, Int.reduceLE, Int.reduceAdd, Int.reduceSub, zg, zI, zJ, zR, zst, zkl, zn, zcat, zok, zraw, List.length_cons, List.length_nil, Option.toList, List.nil_append, List.cons_append, true_and, and_true, if_true, if_false, ne_eq, not_true, not_false_eq_true, and_self, true_or, or_true, false_or, or_false, false_and, and_false, b_2 hc, b_3 hc, b_9 hc, b_12 hc, b_26 hc, b_40 hc, b_46 hc, b_47 hc, b_60 hc, b_62 hc, b_63 hc, b_76 hc, b_77 hc, b_90 hc, b_91 hc, b_104 hc, b_107 hc, b_114 hc, b_115 hc, b_122 hc, b_123 hc, b_131 hc, b_104 hc, r_104_0 hc, x_105 hc, r_104_1 hc, x_106 hc, r_104_6 hc, r_104_7 hc, r_104_8 hc, hne, hd0]
          refine cNail hc hw F4 rfl hq ?_
          intro μ5 hf5 F5
          have k5 : μ5 104 = μ4 104 := hf5 104 (by decide)
          have e4 : μ5 104 4 = (t : Int) := by rw [k5, hj4 4 (by decide), P3.2.1, hlen]
          simp (disch := omega) only [x35_0, x35_1, x35_4, x35_5, x35_8, x35_9, x35_10, x35_11, x35_14, x35_15, x35_16, x35_19, x35_20, x35_21, x35_22, x35_25, x35_28, x35_30, x35_33, x35_36, x35_37, x35_40, x35_41, x35_44, x35_47, x35_50, x35_51, x35_53, x35_54, x35_57, x35_58, x35_60, x35_63, x35_64, x35_67, x35_68, x35_69, x35_70, x35_73, x35_74, x35_75, x35_78, x35_79, x35_82, x35_83, x35_86, x35_87, x35_88, x35_89, x35_90, x35_91, x35_94, x35_95, x35_96, x35_99, x35_102, x35_105, ↓reduceIte, Bool.false_eq_true, Nat.reduceAdd, Nat.reduceLT, Nat.reduceLeDiff, Nat.reduceSub, Nat.reduceEqDiff, Int.reduceToNat, Int.reduceEq, Int.reduceLT, Int.reduceLE, Int.reduceAdd, Int.reduceSub, zg, zI, zJ, zR, zst, zkl, zn, zcat, zok, zraw, List.length_cons, List.length_nil, Option.toList, List.nil_append, List.cons_append, true_and, and_true, if_true, if_false, ne_eq, not_true, not_false_eq_true, and_self, true_or, or_true, false_or, or_false, false_and, and_false, b_2 hc, b_3 hc, b_9 hc, b_12 hc, b_26 hc, b_40 hc, b_46 hc, b_47 hc, b_60 hc, b_62 hc, b_63 hc, b_76 hc, b_77 hc, b_90 hc, b_91 hc, b_104 hc, b_107 hc, b_114 hc, b_115 hc, b_122 hc, b_123 hc, b_131 hc, b_104 hc, r_104_0 hc, x_105 hc, r_104_1 hc, x_106 hc, r_104_6 hc, r_104_7 hc, r_104_8 hc, ua_eq, us_ne, Int.toNat_natCast, e4, w32_s]
          apply hk
          refine ⟨_, rfl, Fr.us (by decide) (Fr.us (by decide) (hf04.trans (hf5.mono (by decide)))), ?_, ?_, ?_, ?_, ?_⟩
          · intro j a b c; rw [us_same, zup_ne a, k5, hj4 j b, hj3 j a b c]
          · rw [us_same, zup_ne (by decide), k5, hj4 10 (by decide), h93]
          · rw [hst]; exact CF107_fr (A := [104, 106]) F5 (Fr.us (by decide) (Fr.us (by decide) Fr.refl)) (by decide)
          · rw [hst]
            refine ⟨?_, ?_, ?_, ?_⟩
            · rw [us_same, zup_ne (by decide), k5, p5]
            · rw [us_same, zup_same rfl]; simp only [List.length_append, List.length_cons, List.length_nil, hlen] <;> omega
            · simp only [List.length_append, List.length_cons, List.length_nil, hlen] <;> omega
            · intro i hi
              simp only [List.length_append, List.length_cons, List.length_nil, hlen] at hi
              rw [us_ne (by decide), us_same, zup_ap]
              by_cases hi2 : i = t
              · rw [if_pos hi2]
                simp only [List.getElem_append, hlen, hi2, Nat.lt_irrefl]
                simp
              · rw [if_neg hi2, hf5 106 (by decide), hf4 106 (by decide), P3.2.2.2 i (by rw [hlen]; omega)]
                simp only [List.getElem_append]
                rw [dif_pos (by rw [hlen]; omega)]
          · rw [hst]; simp only [List.length_append, List.length_cons, List.length_nil, hlen]
      · rintro L μ3 ⟨x3, rfl, hf3, hj3, h93, F3, P3, hlen⟩
        rw [x35_52]
        simp (disch := omega) only [x35_0, x35_1, x35_4, x35_5, x35_8, x35_9, x35_10, x35_11, x35_14, x35_15, x35_16, x35_19, x35_20, x35_21, x35_22, x35_25, x35_28, x35_30, x35_33, x35_36, x35_37, x35_40, x35_41, x35_44, x35_47, x35_50, x35_51, x35_53, x35_54, x35_57, x35_58, x35_60, x35_63, x35_64, x35_67, x35_68, x35_69, x35_70, x35_73, x35_74, x35_75, x35_78, x35_79, x35_82, x35_83, x35_86, x35_87, x35_88, x35_89, x35_90, x35_91, x35_94, x35_95, x35_96, x35_99, x35_102, x35_105, ↓reduceIte, Bool.false_eq_true, Nat.reduceAdd, Nat.reduceLT, Nat.reduceLeDiff, Nat.reduceSub, Nat.reduceEqDiff, Int.reduceToNat, Int.reduceEq, Int.reduceLT, Int.reduceLE, Int.reduceAdd, Int.reduceSub, zg, zI, zJ, zR, zst, zkl, zn, zcat, zok, zraw, List.length_cons, List.length_nil, Option.toList, List.nil_append, List.cons_append, true_and, and_true, if_true, if_false, ne_eq, not_true, not_false_eq_true, and_self, true_or, or_true, false_or, or_false, false_and, and_false, b_2 hc, b_3 hc, b_9 hc, b_12 hc, b_26 hc, b_40 hc, b_46 hc, b_47 hc, b_60 hc, b_62 hc, b_63 hc, b_76 hc, b_77 hc, b_90 hc, b_91 hc, b_104 hc, b_107 hc, b_114 hc, b_115 hc, b_122 hc, b_123 hc, b_131 hc, Int.le_refl]
        exact hQ μ3 hf3 hj3 h93 P3
    simp (disch := omega) only [x35_0, x35_1, x35_4, x35_5, x35_8, x35_9, x35_10, x35_11, x35_14, x35_15, x35_16, x35_19, x35_20, x35_21, x35_22, x35_25, x35_28, x35_30, x35_33, x35_36, x35_37, x35_40, x35_41, x35_44, x35_47, x35_50, x35_51, x35_53, x35_54, x35_57, x35_58, x35_60, x35_63, x35_64, x35_67, x35_68, x35_69, x35_70, x35_73, x35_74, x35_75, x35_78, x35_79, x35_82, x35_83, x35_86, x35_87, x35_88, x35_89, x35_90, x35_91, x35_94, x35_95, x35_96, x35_99, x35_102, x35_105, ↓reduceIte, Bool.false_eq_true, Nat.reduceAdd, Nat.reduceLT, Nat.reduceLeDiff, Nat.reduceSub, Nat.reduceEqDiff, Int.reduceToNat, Int.reduceEq, Int.reduceLT, Int.reduceLE, Int.reduceAdd, Int.reduceSub, zg, zI, zJ, zR, zst, zkl, zn, zcat, zok, zraw, List.length_cons, List.length_nil, Option.toList, List.nil_append, List.cons_append, true_and, and_true, if_true, if_false, ne_eq, not_true, not_false_eq_true, and_self, true_or, or_true, false_or, or_false, false_and, and_false, b_2 hc, b_3 hc, b_9 hc, b_12 hc, b_26 hc, b_40 hc, b_46 hc, b_47 hc, b_60 hc, b_62 hc, b_63 hc, b_76 hc, b_77 hc, b_90 hc, b_91 hc, b_104 hc, b_107 hc, b_114 hc, b_115 hc, b_122 hc, b_123 hc, b_131 hc]
    exact key 0 _ μ2 (by omega) ⟨_, rfl, hf02, hj2, h92, hF2, P0, rfl⟩
end NB
