/-! THE REFERENCE: THE DOORS, THIRDS, MOSSLESS, NEGLECT -/
section MS
variable {θ : zS} {τ : zT} {s : Nat} {Q : Option zV → zS → zM → Prop} {μ : zM} {ρ : zF} {G : zU} {g w : Int}
theorem or_bits : ∀ t : Fin 6, ∀ w : Fin 64, w.val < 2 ^ t.val → zor (w.val : Int) (zshl 1 (t.val : Int)) = ((w.val + 2 ^ t.val : Nat) : Int) := by decide +kernel
theorem ad_bits : ∀ t : Fin 6, ∀ w : Fin 64, ∀ k : Fin 6, w.val < 2 ^ t.val → k.val ≤ t.val → zand (zshr ((w.val + 2 ^ t.val : Nat) : Int) (k.val : Int)) 1 = if k.val = t.val then 1 else zand (zshr (w.val : Int) (k.val : Int)) 1 := by decide +kernel
theorem no_bits : ∀ t : Fin 6, ∀ w : Fin 64, w.val < 2 ^ t.val → zand (zshr (w.val : Int) (t.val : Int)) 1 = 0 := by decide +kernel
theorem mOpenDoors {d : Nat} {x1 x2 : zV} (h : MX θ τ s μ) (hR : MR τ ρ μ) (hQ : ∀ v : Nat, v < 64 → (∀ k, k < tD τ → zand (zshr (v : Nat) k) 1 = ρ.2.1 k) → Q (some (vi (v : Nat))) θ μ) : Ex d 249 0 [vr 138, x1, x2] [] θ μ Q := by
  have hm := h.1
  have hw := h.2.1
  have hd6 := hw.2.2.2.2.1
  have h18 := h.2.2.2.1
  have hs := h.2.2.2.2
  have h157 := h.2.2.1.2.1.1
  have key : ∀ t L μ1, t ≤ tD τ → (∃ v : Nat, L = [vr 138, vi (v : Nat), vi (t : Nat)] ∧ μ1 = μ ∧ v < 2 ^ t ∧ ∀ k, k < t → zand (zshr (v : Nat) k) 1 = ρ.2.1 k) → Ex d 249 4 L [] θ μ1 Q := by
    refine Ex_loop (I := fun t L μ1 => ∃ v : Nat, L = [vr 138, vi (v : Nat), vi (t : Nat)] ∧ μ1 = μ ∧ v < 2 ^ t ∧ ∀ k, k < t → zand (zshr (v : Nat) k) 1 = ρ.2.1 k) (tD τ) ?_ ?_
    · rintro t L μ1 ht ⟨v, rfl, rfl, hv, ha⟩ hk
      have i1 : ¬ ((tD τ : Int) ≤ (t : Int)) := by omega
      have e := hR.1.2.2.1 t ht
      have hp : 2 ^ t ≤ 2 ^ 5 := Nat.pow_le_pow_right (by decide) (by omega)
      have v64 : v < 64 := by omega
      have hp2 : 2 ^ (t + 1) = 2 ^ t + 2 ^ t := by rw [Nat.pow_succ]; omega
      rw [x249_4]
      rcases hR.1.1.2.1 t ht with hz | hz
      · rw [hz] at e
        simp (disch := omega) only [x249_0, x249_1, x249_2, x249_3, x249_5, x249_6, x249_9, x249_10, x249_13, x249_14, x249_17, x249_18, x249_21, x249_22, x249_23, x249_26, x249_27, x249_28, x249_29, x249_30, x249_31, x249_32, x249_35, x249_38, x249_39, ↓reduceIte, Bool.false_eq_true, Nat.reduceAdd, Nat.reduceLT, Nat.reduceLeDiff, Nat.reduceSub, Nat.reduceEqDiff, Int.reduceToNat, Int.reduceEq, Int.reduceLT, Int.reduceLE, Int.reduceAdd, Int.reduceSub, zg, zI, zJ, zR, zst, zkl, zn, zcat, zok, zraw, List.length_cons, List.length_nil, Option.toList, List.nil_append, List.cons_append, true_and, and_true, if_true, if_false, ne_eq, not_true, not_false_eq_true, and_self, true_or, or_true, false_or, or_false, false_and, and_false, b_138 hm, r_138_32 hm, x_157 hm, r_138_56 hm, x_177 hm, n_177 hm, h18, h157, i1, e, Int.toNat_natCast, w32_s]
        apply hk
        refine ⟨v, rfl, rfl, by omega, ?_⟩
        intro k hk'
        by_cases h1 : k = t
        · subst h1
          rw [hz]; exact no_bits ⟨k, by omega⟩ ⟨v, v64⟩ hv
        · exact ha k (by omega)
      · rw [hz] at e
        have ho := or_bits ⟨t, by omega⟩ ⟨v, v64⟩ hv
        simp only at ho
        simp (disch := omega) only [x249_0, x249_1, x249_2, x249_3, x249_5, x249_6, x249_9, x249_10, x249_13, x249_14, x249_17, x249_18, x249_21, x249_22, x249_23, x249_26, x249_27, x249_28, x249_29, x249_30, x249_31, x249_32, x249_35, x249_38, x249_39, ↓reduceIte, Bool.false_eq_true, Nat.reduceAdd, Nat.reduceLT, Nat.reduceLeDiff, Nat.reduceSub, Nat.reduceEqDiff, Int.reduceToNat, Int.reduceEq, Int.reduceLT, Int.reduceLE, Int.reduceAdd, Int.reduceSub, zg, zI, zJ, zR, zst, zkl, zn, zcat, zok, zraw, List.length_cons, List.length_nil, Option.toList, List.nil_append, List.cons_append, true_and, and_true, if_true, if_false, ne_eq, not_true, not_false_eq_true, and_self, true_or, or_true, false_or, or_false, false_and, and_false, b_138 hm, r_138_32 hm, x_157 hm, r_138_56 hm, x_177 hm, n_177 hm, h18, h157, i1, e, Int.toNat_natCast, w32_s, ho]
        apply hk
        refine ⟨v + 2 ^ t, rfl, rfl, by omega, ?_⟩
        intro k hk'
        have := ad_bits ⟨t, by omega⟩ ⟨v, v64⟩ ⟨k, by omega⟩ hv (by simp; omega)
        simp only at this
        rw [this]
        by_cases h1 : k = t
        · rw [if_pos h1, h1, hz]
        · rw [if_neg h1]; exact ha k (by omega)
    · rintro L μ1 ⟨v, rfl, rfl, hv, ha⟩
      have hp : 2 ^ tD τ ≤ 2 ^ 6 := Nat.pow_le_pow_right (by decide) hd6
      rw [x249_4]
      simp (disch := omega) only [x249_0, x249_1, x249_2, x249_3, x249_5, x249_6, x249_9, x249_10, x249_13, x249_14, x249_17, x249_18, x249_21, x249_22, x249_23, x249_26, x249_27, x249_28, x249_29, x249_30, x249_31, x249_32, x249_35, x249_38, x249_39, ↓reduceIte, Bool.false_eq_true, Nat.reduceAdd, Nat.reduceLT, Nat.reduceLeDiff, Nat.reduceSub, Nat.reduceEqDiff, Int.reduceToNat, Int.reduceEq, Int.reduceLT, Int.reduceLE, Int.reduceAdd, Int.reduceSub, zg, zI, zJ, zR, zst, zkl, zn, zcat, zok, zraw, List.length_cons, List.length_nil, Option.toList, List.nil_append, List.cons_append, true_and, and_true, if_true, if_false, ne_eq, not_true, not_false_eq_true, and_self, true_or, or_true, false_or, or_false, false_and, and_false, b_138 hm, r_138_32 hm, x_157 hm, h18, h157, Int.toNat_natCast, Int.le_refl]
      exact hQ v (by omega) ha
  simp (disch := omega) only [x249_0, x249_1, x249_2, x249_3, x249_5, x249_6, x249_9, x249_10, x249_13, x249_14, x249_17, x249_18, x249_21, x249_22, x249_23, x249_26, x249_27, x249_28, x249_29, x249_30, x249_31, x249_32, x249_35, x249_38, x249_39, ↓reduceIte, Bool.false_eq_true, Nat.reduceAdd, Nat.reduceLT, Nat.reduceLeDiff, Nat.reduceSub, Nat.reduceEqDiff, Int.reduceToNat, Int.reduceEq, Int.reduceLT, Int.reduceLE, Int.reduceAdd, Int.reduceSub, zg, zI, zJ, zR, zst, zkl, zn, zcat, zok, zraw, List.length_cons, List.length_nil, Option.toList, List.nil_append, List.cons_append, true_and, and_true, if_true, if_false, ne_eq, not_true, not_false_eq_true, and_self, true_or, or_true, false_or, or_false, false_and, and_false]
  exact key 0 _ μ (by omega) ⟨0, rfl, rfl, by decide, fun k hk => absurd hk (by omega)⟩
theorem mDoors {d : Nat} {x3 x4 x5 x6 x7 : zV} (hd : 8 ≤ d) (h : MX θ τ s μ) (hR : MR τ ρ μ) (hg : 0 ≤ g ∧ g ≤ 99) (hwy : 0 ≤ w ∧ w ≤ 3)
    (hQ : ∀ μ', Fr (GF ++ [177]) μ μ' → J5 μ μ' → MR τ ρ μ' → (∀ j, tD τ ≤ j → μ' 177 j = μ 177 j) → Q (some (vi ((bdO τ ρ g w (2 ^ tD τ)).1 : Nat))) θ μ') : Ex d 252 0 [vr 138, vi g, vi w, x3, x4, x5, x6, x7] [] θ μ Q := by
  have hm := h.1
  have hw := h.2.1
  have hd0 : 0 < d := by omega
  have hd6 := hw.2.2.2.2.1
  have h18 := h.2.2.2.1
  have hs := h.2.2.2.2
  have h157 := h.2.2.1.2.1.1
  have hp : 2 ^ tD τ ≤ 64 := Nat.pow_le_pow_right (by decide) hd6
  have hp1 : 1 ≤ 2 ^ tD τ := Nat.one_le_two_pow
  have hsh := zshl1 hd6
  have hg1 : (if (0 ≤ g ∧ g ≤ 99) ∧ (0 ≤ w ∧ w ≤ 3) then (1 : Int) else 0) = 1 := if_pos ⟨hg, hwy⟩
  generalize 2 ^ tD τ = N at *
  simp (disch := omega) only [x252_0, x252_1, x252_2, x252_5, x252_8, x252_9, x252_10, x252_11, x252_14, x252_15, x252_16, x252_18, x252_20, x252_22, x252_23, x252_27, x252_28, x252_29, x252_32, x252_33, x252_36, x252_37, x252_38, x252_41, x252_42, x252_44, x252_47, x252_48, x252_49, x252_50, x252_53, x252_55, x252_57, x252_59, x252_62, x252_64, x252_66, x252_69, x252_71, x252_74, x252_76, x252_79, x252_82, x252_85, x252_87, x252_89, x252_91, x252_93, x252_96, x252_99, x252_100, x252_101, x252_104, x252_106, ↓reduceIte, Bool.false_eq_true, Nat.reduceAdd, Nat.reduceLT, Nat.reduceLeDiff, Nat.reduceSub, Nat.reduceEqDiff, Int.reduceToNat, Int.reduceEq, Int.reduceLT, Int.reduceLE, Int.reduceAdd, Int.reduceSub, zg, zI, zJ, zR, zst, zkl, zn, zcat, zok, zraw, List.length_cons, List.length_nil, Option.toList, List.nil_append, List.cons_append, true_and, and_true, if_true, if_false, ne_eq, not_true, not_false_eq_true, and_self, true_or, or_true, false_or, or_false, false_and, and_false, b_138 hm, hd0, mIsGust, hg1]
  refine mOpenDoors h hR ?_
  intro v hv hvb
  simp (disch := omega) only [x252_0, x252_1, x252_2, x252_5, x252_8, x252_9, x252_10, x252_11, x252_14, x252_15, x252_16, x252_18, x252_20, x252_22, x252_23, x252_27, x252_28, x252_29, x252_32, x252_33, x252_36, x252_37, x252_38, x252_41, x252_42, x252_44, x252_47, x252_48, x252_49, x252_50, x252_53, x252_55, x252_57, x252_59, x252_62, x252_64, x252_66, x252_69, x252_71, x252_74, x252_76, x252_79, x252_82, x252_85, x252_87, x252_89, x252_91, x252_93, x252_96, x252_99, x252_100, x252_101, x252_104, x252_106, ↓reduceIte, Bool.false_eq_true, Nat.reduceAdd, Nat.reduceLT, Nat.reduceLeDiff, Nat.reduceSub, Nat.reduceEqDiff, Int.reduceToNat, Int.reduceEq, Int.reduceLT, Int.reduceLE, Int.reduceAdd, Int.reduceSub, zg, zI, zJ, zR, zst, zkl, zn, zcat, zok, zraw, List.length_cons, List.length_nil, Option.toList, List.nil_append, List.cons_append, true_and, and_true, if_true, if_false, ne_eq, not_true, not_false_eq_true, and_self, true_or, or_true, false_or, or_false, false_and, and_false]
  have key : ∀ t L μ1, t ≤ N → (∃ x7, L = [vr 138, vi g, vi w, vi (v : Nat), vi ((bdO τ ρ g w t).1 : Nat), vi (bdO τ ρ g w t).2, vi (t : Nat), x7] ∧ Fr (GF ++ [177]) μ μ1 ∧ J5 μ μ1 ∧ (∃ b, MR τ (doF ρ b) μ1) ∧ ∀ j, tD τ ≤ j → μ1 177 j = μ 177 j) → Ex d 252 25 L [] θ μ1 Q := by
    refine Ex_loop (I := fun t L μ1 => ∃ x7, L = [vr 138, vi g, vi w, vi (v : Nat), vi ((bdO τ ρ g w t).1 : Nat), vi (bdO τ ρ g w t).2, vi (t : Nat), x7] ∧ Fr (GF ++ [177]) μ μ1 ∧ J5 μ μ1 ∧ (∃ b, MR τ (doF ρ b) μ1) ∧ ∀ j, tD τ ≤ j → μ1 177 j = μ 177 j) N ?_ ?_
    · rintro t L μ1 ht ⟨x7, rfl, hf, hj, ⟨b, R1⟩, hr⟩ hk
      have X1 : MX θ τ s μ1 := MX_fr h hf (by decide) (hj 18 (by decide) (by decide))
      have e18 : μ1 138 18 = (s : Int) := X1.2.2.2.1
      have e157 : μ1 157 s = (tD τ : Nat) := by rw [hf 157 (by decide), h157]
      have i1 : ¬ ((N : Int) ≤ (t : Int)) := by omega
      rw [x252_25]
      simp (disch := omega) only [x252_0, x252_1, x252_2, x252_5, x252_8, x252_9, x252_10, x252_11, x252_14, x252_15, x252_16, x252_18, x252_20, x252_22, x252_23, x252_27, x252_28, x252_29, x252_32, x252_33, x252_36, x252_37, x252_38, x252_41, x252_42, x252_44, x252_47, x252_48, x252_49, x252_50, x252_53, x252_55, x252_57, x252_59, x252_62, x252_64, x252_66, x252_69, x252_71, x252_74, x252_76, x252_79, x252_82, x252_85, x252_87, x252_89, x252_91, x252_93, x252_96, x252_99, x252_100, x252_101, x252_104, x252_106, ↓reduceIte, Bool.false_eq_true, Nat.reduceAdd, Nat.reduceLT, Nat.reduceLeDiff, Nat.reduceSub, Nat.reduceEqDiff, Int.reduceToNat, Int.reduceEq, Int.reduceLT, Int.reduceLE, Int.reduceAdd, Int.reduceSub, zg, zI, zJ, zR, zst, zkl, zn, zcat, zok, zraw, List.length_cons, List.length_nil, Option.toList, List.nil_append, List.cons_append, true_and, and_true, if_true, if_false, ne_eq, not_true, not_false_eq_true, and_self, true_or, or_true, false_or, or_false, false_and, and_false, b_138 hm, r_138_32 hm, x_157 hm, e18, e157, hsh, i1, hd0, Int.toNat_natCast]
      refine mOpens (ρ := doF ρ b) X1 R1 (by omega) (by omega) ?_
      intro μ2 hf2 R2' hr2
      have R2 : MR τ (doF ρ (t : Nat)) μ2 := R2'
      have X2 : MX θ τ s μ2 := MX_fr X1 hf2 (by decide) (by rw [hf2 138 (by decide)])
      simp (disch := omega) only [x252_0, x252_1, x252_2, x252_5, x252_8, x252_9, x252_10, x252_11, x252_14, x252_15, x252_16, x252_18, x252_20, x252_22, x252_23, x252_27, x252_28, x252_29, x252_32, x252_33, x252_36, x252_37, x252_38, x252_41, x252_42, x252_44, x252_47, x252_48, x252_49, x252_50, x252_53, x252_55, x252_57, x252_59, x252_62, x252_64, x252_66, x252_69, x252_71, x252_74, x252_76, x252_79, x252_82, x252_85, x252_87, x252_89, x252_91, x252_93, x252_96, x252_99, x252_100, x252_101, x252_104, x252_106, ↓reduceIte, Bool.false_eq_true, Nat.reduceAdd, Nat.reduceLT, Nat.reduceLeDiff, Nat.reduceSub, Nat.reduceEqDiff, Int.reduceToNat, Int.reduceEq, Int.reduceLT, Int.reduceLE, Int.reduceAdd, Int.reduceSub, zg, zI, zJ, zR, zst, zkl, zn, zcat, zok, zraw, List.length_cons, List.length_nil, Option.toList, List.nil_append, List.cons_append, true_and, and_true, if_true, if_false, ne_eq, not_true, not_false_eq_true, and_self, true_or, or_true, false_or, or_false, false_and, and_false, b_138 hm, hd0]
      refine mFall (d := d - 1) (by omega) X2 R2 hg hwy rfl rfl ?_
      intro μ3 hf3 hj3 _
      have hb3 : (bdO τ ρ g w t).1 < 64 := by
        by_cases h0 : t = 0
        · subst h0; show 0 < 64; omega
        · have := bd_lt τ ρ g w t (by omega); omega
      have R3 : MR τ (doF ρ (t : Nat)) μ3 := MR_fr R2 hf3 (by decide) (hj3 57 (by decide) (by decide))
      have hf03 : Fr (GF ++ [177]) μ μ3 := hf.trans ((hf2.mono (by decide)).trans (hf3.mono (by decide)))
      have hj03 : J5 μ μ3 := fun j a b => by rw [hj3 j a b, hf2 138 (by decide)]; exact hj j a b
      have hr3 : ∀ j, tD τ ≤ j → μ3 177 j = μ 177 j := fun j hj => by rw [hf3 177 (by decide), hr2 j hj, hr j hj]
      have hbd : bdO τ ρ g w (t + 1) = if faO τ (doF ρ (t : Nat)) g w < (bdO τ ρ g w t).2 ∨ faO τ (doF ρ (t : Nat)) g w = (bdO τ ρ g w t).2 ∧ pcO t < pcO (bdO τ ρ g w t).1 then (t, faO τ (doF ρ (t : Nat)) g w) else bdO τ ρ g w t := rfl
      generalize hfa : faO τ (doF ρ (t : Nat)) g w = fa at *
      have take : bdO τ ρ g w (t + 1) = (t, fa) → ∀ x7, Ex d 252 25 [vr 138, vi g, vi w, vi (v : Nat), vi (t : Nat), vi fa, vi ((t + 1 : Nat) : Int), x7] [] θ μ3 Q := by
        intro he x7
        apply hk
        exact ⟨x7, by rw [he], hf03, hj03, ⟨_, R3⟩, hr3⟩
      have skip : bdO τ ρ g w (t + 1) = bdO τ ρ g w t → ∀ x7, Ex d 252 25 [vr 138, vi g, vi w, vi (v : Nat), vi ((bdO τ ρ g w t).1 : Nat), vi (bdO τ ρ g w t).2, vi ((t + 1 : Nat) : Int), x7] [] θ μ3 Q := by
        intro he x7
        apply hk
        exact ⟨x7, by rw [he], hf03, hj03, ⟨_, R3⟩, hr3⟩
      by_cases c1 : (bdO τ ρ g w t).2 < fa
      · have he : bdO τ ρ g w (t + 1) = bdO τ ρ g w t := by rw [hbd, if_neg]; omega
        simp (disch := omega) only [x252_0, x252_1, x252_2, x252_5, x252_8, x252_9, x252_10, x252_11, x252_14, x252_15, x252_16, x252_18, x252_20, x252_22, x252_23, x252_27, x252_28, x252_29, x252_32, x252_33, x252_36, x252_37, x252_38, x252_41, x252_42, x252_44, x252_47, x252_48, x252_49, x252_50, x252_53, x252_55, x252_57, x252_59, x252_62, x252_64, x252_66, x252_69, x252_71, x252_74, x252_76, x252_79, x252_82, x252_85, x252_87, x252_89, x252_91, x252_93, x252_96, x252_99, x252_100, x252_101, x252_104, x252_106, ↓reduceIte, Bool.false_eq_true, Nat.reduceAdd, Nat.reduceLT, Nat.reduceLeDiff, Nat.reduceSub, Nat.reduceEqDiff, Int.reduceToNat, Int.reduceEq, Int.reduceLT, Int.reduceLE, Int.reduceAdd, Int.reduceSub, zg, zI, zJ, zR, zst, zkl, zn, zcat, zok, zraw, List.length_cons, List.length_nil, Option.toList, List.nil_append, List.cons_append, true_and, and_true, if_true, if_false, ne_eq, not_true, not_false_eq_true, and_self, true_or, or_true, false_or, or_false, false_and, and_false, b_138 hm, hd0, c1, w32_s]
        exact skip he _
      · by_cases c2 : fa = (bdO τ ρ g w t).2
        · simp (disch := omega) only [x252_0, x252_1, x252_2, x252_5, x252_8, x252_9, x252_10, x252_11, x252_14, x252_15, x252_16, x252_18, x252_20, x252_22, x252_23, x252_27, x252_28, x252_29, x252_32, x252_33, x252_36, x252_37, x252_38, x252_41, x252_42, x252_44, x252_47, x252_48, x252_49, x252_50, x252_53, x252_55, x252_57, x252_59, x252_62, x252_64, x252_66, x252_69, x252_71, x252_74, x252_76, x252_79, x252_82, x252_85, x252_87, x252_89, x252_91, x252_93, x252_96, x252_99, x252_100, x252_101, x252_104, x252_106, ↓reduceIte, Bool.false_eq_true, Nat.reduceAdd, Nat.reduceLT, Nat.reduceLeDiff, Nat.reduceSub, Nat.reduceEqDiff, Int.reduceToNat, Int.reduceEq, Int.reduceLT, Int.reduceLE, Int.reduceAdd, Int.reduceSub, zg, zI, zJ, zR, zst, zkl, zn, zcat, zok, zraw, List.length_cons, List.length_nil, Option.toList, List.nil_append, List.cons_append, true_and, and_true, if_true, if_false, ne_eq, not_true, not_false_eq_true, and_self, true_or, or_true, false_or, or_false, false_and, and_false, b_138 hm, hd0, c1, c2, Int.lt_irrefl]
          refine mBits (by omega) ?_
          simp (disch := omega) only [x252_0, x252_1, x252_2, x252_5, x252_8, x252_9, x252_10, x252_11, x252_14, x252_15, x252_16, x252_18, x252_20, x252_22, x252_23, x252_27, x252_28, x252_29, x252_32, x252_33, x252_36, x252_37, x252_38, x252_41, x252_42, x252_44, x252_47, x252_48, x252_49, x252_50, x252_53, x252_55, x252_57, x252_59, x252_62, x252_64, x252_66, x252_69, x252_71, x252_74, x252_76, x252_79, x252_82, x252_85, x252_87, x252_89, x252_91, x252_93, x252_96, x252_99, x252_100, x252_101, x252_104, x252_106, ↓reduceIte, Bool.false_eq_true, Nat.reduceAdd, Nat.reduceLT, Nat.reduceLeDiff, Nat.reduceSub, Nat.reduceEqDiff, Int.reduceToNat, Int.reduceEq, Int.reduceLT, Int.reduceLE, Int.reduceAdd, Int.reduceSub, zg, zI, zJ, zR, zst, zkl, zn, zcat, zok, zraw, List.length_cons, List.length_nil, Option.toList, List.nil_append, List.cons_append, true_and, and_true, if_true, if_false, ne_eq, not_true, not_false_eq_true, and_self, true_or, or_true, false_or, or_false, false_and, and_false, b_138 hm, hd0]
          refine mBits hb3 ?_
          by_cases c3 : pcO t < pcO (bdO τ ρ g w t).1
          · have c3' : ((pcO t : Int) < (pcO (bdO τ ρ g w t).1 : Int)) := by omega
            have he : bdO τ ρ g w (t + 1) = (t, fa) := by rw [hbd, if_pos (Or.inr ⟨c2, c3⟩)]
            simp (disch := omega) only [x252_0, x252_1, x252_2, x252_5, x252_8, x252_9, x252_10, x252_11, x252_14, x252_15, x252_16, x252_18, x252_20, x252_22, x252_23, x252_27, x252_28, x252_29, x252_32, x252_33, x252_36, x252_37, x252_38, x252_41, x252_42, x252_44, x252_47, x252_48, x252_49, x252_50, x252_53, x252_55, x252_57, x252_59, x252_62, x252_64, x252_66, x252_69, x252_71, x252_74, x252_76, x252_79, x252_82, x252_85, x252_87, x252_89, x252_91, x252_93, x252_96, x252_99, x252_100, x252_101, x252_104, x252_106, ↓reduceIte, Bool.false_eq_true, Nat.reduceAdd, Nat.reduceLT, Nat.reduceLeDiff, Nat.reduceSub, Nat.reduceEqDiff, Int.reduceToNat, Int.reduceEq, Int.reduceLT, Int.reduceLE, Int.reduceAdd, Int.reduceSub, zg, zI, zJ, zR, zst, zkl, zn, zcat, zok, zraw, List.length_cons, List.length_nil, Option.toList, List.nil_append, List.cons_append, true_and, and_true, if_true, if_false, ne_eq, not_true, not_false_eq_true, and_self, true_or, or_true, false_or, or_false, false_and, and_false, b_138 hm, c3', w32_s]
            have := take he
            rw [c2] at this
            exact this _
          · have c3' : ¬ ((pcO t : Int) < (pcO (bdO τ ρ g w t).1 : Int)) := by omega
            have he : bdO τ ρ g w (t + 1) = bdO τ ρ g w t := by rw [hbd, if_neg]; omega
            simp (disch := omega) only [x252_0, x252_1, x252_2, x252_5, x252_8, x252_9, x252_10, x252_11, x252_14, x252_15, x252_16, x252_18, x252_20, x252_22, x252_23, x252_27, x252_28, x252_29, x252_32, x252_33, x252_36, x252_37, x252_38, x252_41, x252_42, x252_44, x252_47, x252_48, x252_49, x252_50, x252_53, x252_55, x252_57, x252_59, x252_62, x252_64, x252_66, x252_69, x252_71, x252_74, x252_76, x252_79, x252_82, x252_85, x252_87, x252_89, x252_91, x252_93, x252_96, x252_99, x252_100, x252_101, x252_104, x252_106, ↓reduceIte, Bool.false_eq_true, Nat.reduceAdd, Nat.reduceLT, Nat.reduceLeDiff, Nat.reduceSub, Nat.reduceEqDiff, Int.reduceToNat, Int.reduceEq, Int.reduceLT, Int.reduceLE, Int.reduceAdd, Int.reduceSub, zg, zI, zJ, zR, zst, zkl, zn, zcat, zok, zraw, List.length_cons, List.length_nil, Option.toList, List.nil_append, List.cons_append, true_and, and_true, if_true, if_false, ne_eq, not_true, not_false_eq_true, and_self, true_or, or_true, false_or, or_false, false_and, and_false, b_138 hm, c3', w32_s]
            exact skip he _
        · have he : bdO τ ρ g w (t + 1) = (t, fa) := by rw [hbd, if_pos (Or.inl (by omega))]
          simp (disch := omega) only [x252_0, x252_1, x252_2, x252_5, x252_8, x252_9, x252_10, x252_11, x252_14, x252_15, x252_16, x252_18, x252_20, x252_22, x252_23, x252_27, x252_28, x252_29, x252_32, x252_33, x252_36, x252_37, x252_38, x252_41, x252_42, x252_44, x252_47, x252_48, x252_49, x252_50, x252_53, x252_55, x252_57, x252_59, x252_62, x252_64, x252_66, x252_69, x252_71, x252_74, x252_76, x252_79, x252_82, x252_85, x252_87, x252_89, x252_91, x252_93, x252_96, x252_99, x252_100, x252_101, x252_104, x252_106, ↓reduceIte, Bool.false_eq_true, Nat.reduceAdd, Nat.reduceLT, Nat.reduceLeDiff, Nat.reduceSub, Nat.reduceEqDiff, Int.reduceToNat, Int.reduceEq, Int.reduceLT, Int.reduceLE, Int.reduceAdd, Int.reduceSub, zg, zI, zJ, zR, zst, zkl, zn, zcat, zok, zraw, List.length_cons, List.length_nil, Option.toList, List.nil_append, List.cons_append, true_and, and_true, if_true, if_false, ne_eq, not_true, not_false_eq_true, and_self, true_or, or_true, false_or, or_false, false_and, and_false, b_138 hm, hd0, c1, c2, w32_s]
          exact take he _
    · rintro L μ1 ⟨x7, rfl, hf, hj, ⟨b, R1⟩, hr⟩
      have X1 : MX θ τ s μ1 := MX_fr h hf (by decide) (hj 18 (by decide) (by decide))
      have e18 : μ1 138 18 = (s : Int) := X1.2.2.2.1
      have e157 : μ1 157 s = (tD τ : Nat) := by rw [hf 157 (by decide), h157]
      rw [x252_25]
      simp (disch := omega) only [x252_0, x252_1, x252_2, x252_5, x252_8, x252_9, x252_10, x252_11, x252_14, x252_15, x252_16, x252_18, x252_20, x252_22, x252_23, x252_27, x252_28, x252_29, x252_32, x252_33, x252_36, x252_37, x252_38, x252_41, x252_42, x252_44, x252_47, x252_48, x252_49, x252_50, x252_53, x252_55, x252_57, x252_59, x252_62, x252_64, x252_66, x252_69, x252_71, x252_74, x252_76, x252_79, x252_82, x252_85, x252_87, x252_89, x252_91, x252_93, x252_96, x252_99, x252_100, x252_101, x252_104, x252_106, ↓reduceIte, Bool.false_eq_true, Nat.reduceAdd, Nat.reduceLT, Nat.reduceLeDiff, Nat.reduceSub, Nat.reduceEqDiff, Int.reduceToNat, Int.reduceEq, Int.reduceLT, Int.reduceLE, Int.reduceAdd, Int.reduceSub, zg, zI, zJ, zR, zst, zkl, zn, zcat, zok, zraw, List.length_cons, List.length_nil, Option.toList, List.nil_append, List.cons_append, true_and, and_true, if_true, if_false, ne_eq, not_true, not_false_eq_true, and_self, true_or, or_true, false_or, or_false, false_and, and_false, b_138 hm, r_138_32 hm, x_157 hm, e18, e157, hsh, hd0, Int.toNat_natCast, Int.le_refl]
      refine mOpens (ρ := doF ρ b) X1 R1 (by omega) (by omega) ?_
      intro μ2 hf2 R2 hr2
      simp (disch := omega) only [x252_0, x252_1, x252_2, x252_5, x252_8, x252_9, x252_10, x252_11, x252_14, x252_15, x252_16, x252_18, x252_20, x252_22, x252_23, x252_27, x252_28, x252_29, x252_32, x252_33, x252_36, x252_37, x252_38, x252_41, x252_42, x252_44, x252_47, x252_48, x252_49, x252_50, x252_53, x252_55, x252_57, x252_59, x252_62, x252_64, x252_66, x252_69, x252_71, x252_74, x252_76, x252_79, x252_82, x252_85, x252_87, x252_89, x252_91, x252_93, x252_96, x252_99, x252_100, x252_101, x252_104, x252_106, ↓reduceIte, Bool.false_eq_true, Nat.reduceAdd, Nat.reduceLT, Nat.reduceLeDiff, Nat.reduceSub, Nat.reduceEqDiff, Int.reduceToNat, Int.reduceEq, Int.reduceLT, Int.reduceLE, Int.reduceAdd, Int.reduceSub, zg, zI, zJ, zR, zst, zkl, zn, zcat, zok, zraw, List.length_cons, List.length_nil, Option.toList, List.nil_append, List.cons_append, true_and, and_true, if_true, if_false, ne_eq, not_true, not_false_eq_true, and_self, true_or, or_true, false_or, or_false, false_and, and_false]
      refine hQ μ2 (hf.trans (hf2.mono (by decide))) (fun j a b => by rw [hf2 138 (by decide)]; exact hj j a b) ?_ (fun j hj => by rw [hr2 j hj, hr j hj])
      exact MR_pt R2 hR.1.1 (fun _ _ _ _ => rfl) (fun k hk => hvb k hk) rfl
  refine key 0 _ μ (by omega) ⟨_, rfl, Fr.refl, fun _ _ _ => rfl, ⟨(v : Nat), ?_⟩, fun _ _ => rfl⟩
  exact MR_pt hR (doF_w hR.1.1 hd6 (by omega) (by omega)) (fun _ _ _ _ => rfl) (fun k hk => (hvb k hk).symm) rfl
theorem mMossless {d : Nat} {x1 x2 x3 : zV} (hd : 8 ≤ d) (h : MX θ τ s μ) (hR : MR τ ρ μ) (hG : wfU G) (hU : MU G μ)
    (hQ : ∀ μ', Fr (GF ++ [176, 190]) μ μ' → J5 μ μ' → MR τ ρ μ' → Q (some (vi (haO τ (moF ρ) G - haO τ ρ G))) θ μ') : Ex d 266 0 [vr 138, x1, x2, x3] [] θ μ Q := by
  have hm := h.1
  have hw := h.2.1
  have hn := tn_b hw
  have hd0 : 0 < d := by omega
  have hHb := ha_nn hw (moF ρ) hG
  have hHb2 := ha_nn hw ρ hG
  have a1 : w32 (haO τ (moF ρ) G - haO τ ρ G) = haO τ (moF ρ) G - haO τ ρ G := w32_i (by omega) (by omega)
  have X : ∀ {μ1}, Fr (GF ++ [176, 190]) μ μ1 → J5 μ μ1 → MX θ τ s μ1 ∧ MU G μ1 := fun hf hj => ⟨MX_fr h hf (by decide) (hj 18 (by decide) (by decide)), MU_fr hU hf (by decide) (hj 62 (by decide) (by decide))⟩
  simp (disch := omega) only [x266_0, x266_1, x266_4, x266_5, x266_6, x266_8, x266_9, x266_12, x266_15, x266_16, x266_19, x266_20, x266_21, x266_24, x266_25, x266_26, x266_27, x266_28, x266_31, x266_32, x266_33, x266_34, x266_37, x266_40, x266_41, x266_44, x266_45, x266_46, x266_48, x266_49, x266_52, x266_55, x266_56, x266_59, x266_60, x266_61, x266_64, x266_65, x266_66, x266_67, x266_70, x266_73, x266_74, x266_75, x266_76, ↓reduceIte, Bool.false_eq_true, Nat.reduceAdd, Nat.reduceLT, Nat.reduceLeDiff, Nat.reduceSub, Nat.reduceEqDiff, Int.reduceToNat, Int.reduceEq, Int.reduceLT, Int.reduceLE, Int.reduceAdd, Int.reduceSub, zg, zI, zJ, zR, zst, zkl, zn, zcat, zok, zraw, List.length_cons, List.length_nil, Option.toList, List.nil_append, List.cons_append, true_and, and_true, if_true, if_false, ne_eq, not_true, not_false_eq_true, and_self, true_or, or_true, false_or, or_false, false_and, and_false, b_138 hm, hd0]
  refine mHarm (d := d - 1) (by omega) h hR hG hU ?_
  intro μ1 hf1 hj1
  simp (disch := omega) only [x266_0, x266_1, x266_4, x266_5, x266_6, x266_8, x266_9, x266_12, x266_15, x266_16, x266_19, x266_20, x266_21, x266_24, x266_25, x266_26, x266_27, x266_28, x266_31, x266_32, x266_33, x266_34, x266_37, x266_40, x266_41, x266_44, x266_45, x266_46, x266_48, x266_49, x266_52, x266_55, x266_56, x266_59, x266_60, x266_61, x266_64, x266_65, x266_66, x266_67, x266_70, x266_73, x266_74, x266_75, x266_76, ↓reduceIte, Bool.false_eq_true, Nat.reduceAdd, Nat.reduceLT, Nat.reduceLeDiff, Nat.reduceSub, Nat.reduceEqDiff, Int.reduceToNat, Int.reduceEq, Int.reduceLT, Int.reduceLE, Int.reduceAdd, Int.reduceSub, zg, zI, zJ, zR, zst, zkl, zn, zcat, zok, zraw, List.length_cons, List.length_nil, Option.toList, List.nil_append, List.cons_append, true_and, and_true, if_true, if_false, ne_eq, not_true, not_false_eq_true, and_self, true_or, or_true, false_or, or_false, false_and, and_false]
  have R1 : MR τ ρ μ1 := MR_fr hR hf1 (by decide) (hj1 57 (by decide) (by decide))
  have back : ∀ t L μ2, t ≤ tn τ → (L = [vr 138, vi (haO τ ρ G), vi (haO τ (moF ρ) G), vi (t : Nat)] ∧ Fr (GF ++ [176, 190]) μ μ2 ∧ J5 μ μ2 ∧ (∀ q, q < tn τ → μ2 190 q = ρ.1 4 q) ∧ (∀ q, q < t → μ2 176 q = ρ.1 4 q)) → Ex d 266 47 L [] θ μ2 Q := by
    refine Ex_loop (I := fun t L μ2 => L = [vr 138, vi (haO τ ρ G), vi (haO τ (moF ρ) G), vi (t : Nat)] ∧ Fr (GF ++ [176, 190]) μ μ2 ∧ J5 μ μ2 ∧ (∀ q, q < tn τ → μ2 190 q = ρ.1 4 q) ∧ (∀ q, q < t → μ2 176 q = ρ.1 4 q)) (tn τ) ?_ ?_
    · rintro t L μ2 ht ⟨rfl, hf, hj, hw1, ha⟩ hk
      obtain ⟨X2, U2⟩ := X hf hj
      have i1 : ¬ ((tn τ : Int) ≤ (t : Int)) := by omega
      rw [x266_47]
      simp (disch := omega) only [x266_0, x266_1, x266_4, x266_5, x266_6, x266_8, x266_9, x266_12, x266_15, x266_16, x266_19, x266_20, x266_21, x266_24, x266_25, x266_26, x266_27, x266_28, x266_31, x266_32, x266_33, x266_34, x266_37, x266_40, x266_41, x266_44, x266_45, x266_46, x266_48, x266_49, x266_52, x266_55, x266_56, x266_59, x266_60, x266_61, x266_64, x266_65, x266_66, x266_67, x266_70, x266_73, x266_74, x266_75, x266_76, ↓reduceIte, Bool.false_eq_true, Nat.reduceAdd, Nat.reduceLT, Nat.reduceLeDiff, Nat.reduceSub, Nat.reduceEqDiff, Int.reduceToNat, Int.reduceEq, Int.reduceLT, Int.reduceLE, Int.reduceAdd, Int.reduceSub, zg, zI, zJ, zR, zst, zkl, zn, zcat, zok, zraw, List.length_cons, List.length_nil, Option.toList, List.nil_append, List.cons_append, true_and, and_true, if_true, if_false, ne_eq, not_true, not_false_eq_true, and_self, true_or, or_true, false_or, or_false, false_and, and_false, b_138 hm, r_138_55 hm, x_176 hm, r_138_74 hm, x_190 hm, hd0, mTiles _ X2, i1, hw1 t ht, Int.toNat_natCast, w32_s, ua_eq]
      apply hk
      refine ⟨rfl, Fr.us (by decide) hf, fun j a b => by rw [us_ne (by decide)]; exact hj j a b, fun q hq => by rw [us_ne (by decide)]; exact hw1 q hq, ?_⟩
      intro q hq
      rw [us_same, zup_ap]
      by_cases h1 : q = t
      · rw [if_pos h1, h1]
      · rw [if_neg h1]; exact ha q (by omega)
    · rintro L μ2 ⟨rfl, hf, hj, hw1, ha⟩
      obtain ⟨X2, U2⟩ := X hf hj
      rw [x266_47]
      simp (disch := omega) only [x266_0, x266_1, x266_4, x266_5, x266_6, x266_8, x266_9, x266_12, x266_15, x266_16, x266_19, x266_20, x266_21, x266_24, x266_25, x266_26, x266_27, x266_28, x266_31, x266_32, x266_33, x266_34, x266_37, x266_40, x266_41, x266_44, x266_45, x266_46, x266_48, x266_49, x266_52, x266_55, x266_56, x266_59, x266_60, x266_61, x266_64, x266_65, x266_66, x266_67, x266_70, x266_73, x266_74, x266_75, x266_76, ↓reduceIte, Bool.false_eq_true, Nat.reduceAdd, Nat.reduceLT, Nat.reduceLeDiff, Nat.reduceSub, Nat.reduceEqDiff, Int.reduceToNat, Int.reduceEq, Int.reduceLT, Int.reduceLE, Int.reduceAdd, Int.reduceSub, zg, zI, zJ, zR, zst, zkl, zn, zcat, zok, zraw, List.length_cons, List.length_nil, Option.toList, List.nil_append, List.cons_append, true_and, and_true, if_true, if_false, ne_eq, not_true, not_false_eq_true, and_self, true_or, or_true, false_or, or_false, false_and, and_false, b_138 hm, hd0, mTiles _ X2, Int.le_refl, a1]
      refine hQ μ2 hf hj ⟨⟨hR.1.1, ?_, ?_, ?_⟩, ?_⟩
      · intro t ht
        rw [hf 173 (by decide), hf 174 (by decide), hf 175 (by decide), ha t ht]
        have := hR.1.2.1 t ht
        exact ⟨this.1, this.2.1, this.2.2.1, rfl⟩
      · rw [hf 177 (by decide)]; exact hR.1.2.2.1
      · rw [hj 57 (by decide) (by decide)]; exact hR.1.2.2.2
      · rw [hf 172 (by decide)]; exact hR.2
  have forth : ∀ t L μ2, t ≤ tn τ → (∃ x3, L = [vr 138, vi (haO τ ρ G), vi (t : Nat), x3] ∧ Fr (GF ++ [176, 190]) μ μ2 ∧ J5 μ μ2 ∧ (∀ q, q < t → μ2 190 q = ρ.1 4 q) ∧ (∀ q, q < tn τ → μ2 176 q = if q < t then 0 else ρ.1 4 q)) → Ex d 266 7 L [] θ μ2 Q := by
    refine Ex_loop (I := fun t L μ2 => ∃ x3, L = [vr 138, vi (haO τ ρ G), vi (t : Nat), x3] ∧ Fr (GF ++ [176, 190]) μ μ2 ∧ J5 μ μ2 ∧ (∀ q, q < t → μ2 190 q = ρ.1 4 q) ∧ (∀ q, q < tn τ → μ2 176 q = if q < t then 0 else ρ.1 4 q)) (tn τ) ?_ ?_
    · rintro t L μ2 ht ⟨x3, rfl, hf, hj, hw1, ha⟩ hk
      obtain ⟨X2, U2⟩ := X hf hj
      have i1 : ¬ ((tn τ : Int) ≤ (t : Int)) := by omega
      have e := ha t ht
      rw [if_neg (Nat.lt_irrefl _)] at e
      rw [x266_7]
      simp (disch := omega) only [x266_0, x266_1, x266_4, x266_5, x266_6, x266_8, x266_9, x266_12, x266_15, x266_16, x266_19, x266_20, x266_21, x266_24, x266_25, x266_26, x266_27, x266_28, x266_31, x266_32, x266_33, x266_34, x266_37, x266_40, x266_41, x266_44, x266_45, x266_46, x266_48, x266_49, x266_52, x266_55, x266_56, x266_59, x266_60, x266_61, x266_64, x266_65, x266_66, x266_67, x266_70, x266_73, x266_74, x266_75, x266_76, ↓reduceIte, Bool.false_eq_true, Nat.reduceAdd, Nat.reduceLT, Nat.reduceLeDiff, Nat.reduceSub, Nat.reduceEqDiff, Int.reduceToNat, Int.reduceEq, Int.reduceLT, Int.reduceLE, Int.reduceAdd, Int.reduceSub, zg, zI, zJ, zR, zst, zkl, zn, zcat, zok, zraw, List.length_cons, List.length_nil, Option.toList, List.nil_append, List.cons_append, true_and, and_true, if_true, if_false, ne_eq, not_true, not_false_eq_true, and_self, true_or, or_true, false_or, or_false, false_and, and_false, b_138 hm, r_138_55 hm, x_176 hm, r_138_74 hm, x_190 hm, hd0, mTiles _ X2, i1, e, Int.toNat_natCast, w32_s, ua_eq, us_ne]
      apply hk
      refine ⟨x3, rfl, Fr.us (by decide) (Fr.us (by decide) hf), fun j a b => by rw [us_ne (by decide), us_ne (by decide)]; exact hj j a b, ?_, ?_⟩
      · intro q hq
        rw [us_ne (by decide), us_same, zup_ap]
        by_cases h1 : q = t
        · rw [if_pos h1, h1]
        · rw [if_neg h1]; exact hw1 q (by omega)
      · intro q hq
        rw [us_same, zup_ap]
        by_cases h1 : q = t
        · subst h1; rw [if_pos rfl, if_pos (Nat.lt_succ_self _)]
        · rw [if_neg h1, ha q hq]
          by_cases h2 : q < t
          · rw [if_pos h2, if_pos (Nat.lt_succ_of_lt h2)]
          · rw [if_neg h2, if_neg (by omega)]
    · rintro L μ2 ⟨x3, rfl, hf, hj, hw1, ha⟩
      obtain ⟨X2, U2⟩ := X hf hj
      rw [x266_7]
      simp (disch := omega) only [x266_0, x266_1, x266_4, x266_5, x266_6, x266_8, x266_9, x266_12, x266_15, x266_16, x266_19, x266_20, x266_21, x266_24, x266_25, x266_26, x266_27, x266_28, x266_31, x266_32, x266_33, x266_34, x266_37, x266_40, x266_41, x266_44, x266_45, x266_46, x266_48, x266_49, x266_52, x266_55, x266_56, x266_59, x266_60, x266_61, x266_64, x266_65, x266_66, x266_67, x266_70, x266_73, x266_74, x266_75, x266_76, ↓reduceIte, Bool.false_eq_true, Nat.reduceAdd, Nat.reduceLT, Nat.reduceLeDiff, Nat.reduceSub, Nat.reduceEqDiff, Int.reduceToNat, Int.reduceEq, Int.reduceLT, Int.reduceLE, Int.reduceAdd, Int.reduceSub, zg, zI, zJ, zR, zst, zkl, zn, zcat, zok, zraw, List.length_cons, List.length_nil, Option.toList, List.nil_append, List.cons_append, true_and, and_true, if_true, if_false, ne_eq, not_true, not_false_eq_true, and_self, true_or, or_true, false_or, or_false, false_and, and_false, b_138 hm, hd0, mTiles _ X2, Int.le_refl]
      have R2 : MR τ (moF ρ) μ2 := by
        refine ⟨⟨moF_w hR.1.1, ?_, ?_, ?_⟩, ?_⟩
        · intro t ht
          rw [hf 173 (by decide), hf 174 (by decide), hf 175 (by decide), ha t ht, if_pos ht]
          have := hR.1.2.1 t ht
          exact ⟨this.1, this.2.1, this.2.2.1, rfl⟩
        · rw [hf 177 (by decide)]; exact hR.1.2.2.1
        · rw [hj 57 (by decide) (by decide)]; exact hR.1.2.2.2
        · rw [hf 172 (by decide)]; exact hR.2
      refine mHarm (d := d - 1) (by omega) X2 R2 hG U2 ?_
      intro μ3 hf3 hj3
      simp (disch := omega) only [x266_0, x266_1, x266_4, x266_5, x266_6, x266_8, x266_9, x266_12, x266_15, x266_16, x266_19, x266_20, x266_21, x266_24, x266_25, x266_26, x266_27, x266_28, x266_31, x266_32, x266_33, x266_34, x266_37, x266_40, x266_41, x266_44, x266_45, x266_46, x266_48, x266_49, x266_52, x266_55, x266_56, x266_59, x266_60, x266_61, x266_64, x266_65, x266_66, x266_67, x266_70, x266_73, x266_74, x266_75, x266_76, ↓reduceIte, Bool.false_eq_true, Nat.reduceAdd, Nat.reduceLT, Nat.reduceLeDiff, Nat.reduceSub, Nat.reduceEqDiff, Int.reduceToNat, Int.reduceEq, Int.reduceLT, Int.reduceLE, Int.reduceAdd, Int.reduceSub, zg, zI, zJ, zR, zst, zkl, zn, zcat, zok, zraw, List.length_cons, List.length_nil, Option.toList, List.nil_append, List.cons_append, true_and, and_true, if_true, if_false, ne_eq, not_true, not_false_eq_true, and_self, true_or, or_true, false_or, or_false, false_and, and_false]
      refine back 0 _ μ3 (by omega) ⟨rfl, hf.trans (hf3.mono (by decide)), fun j a b => by rw [hj3 j a b]; exact hj j a b, ?_, fun q hq => absurd hq (by omega)⟩
      intro q hq; rw [hf3 190 (by decide)]; exact hw1 q hq
  refine forth 0 _ μ1 (by omega) ⟨_, rfl, hf1.mono (by decide), hj1, fun q hq => absurd hq (by omega), ?_⟩
  intro q hq; rw [if_neg (Nat.not_lt_zero _)]; exact (R1.1.2.1 q hq).2.2.2
theorem thF_s {k : Nat} : thF ρ (k + 1) = if k % 3 = 0 ∧ canO ρ k = true then naF (thF ρ k) k else thF ρ k := by
  by_cases hc : k % 3 = 0 ∧ canO ρ k = true
  · rw [if_pos hc]
    unfold naF thF
    simp only [Prod.mk.injEq, and_true]
    funext m q
    by_cases h1 : q = k
    · subst h1
      by_cases m1 : m = 1
      · simp [m1, hc]
      · by_cases m3 : m = 3
        · simp [m3, hc]
        · simp [m1, m3]
    · have e1 : (q < k + 1 ∧ q % 3 = 0) ↔ (q < k ∧ q % 3 = 0) := by omega
      simp [h1, e1]
  · rw [if_neg hc]
    unfold thF
    simp only [Prod.mk.injEq, and_true]
    funext m q
    by_cases h1 : q = k
    · subst h1
      have e1 : ¬ ((q < q + 1 ∧ q % 3 = 0) ∧ canO ρ q = true ∧ (m = 1 ∨ m = 3)) := fun hh => hc ⟨hh.1.2, hh.2.1⟩
      rw [if_neg e1]; simp
    · have e1 : (q < k + 1 ∧ q % 3 = 0) ↔ (q < k ∧ q % 3 = 0) := by omega
      simp [e1]
end MS
