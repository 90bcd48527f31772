/-! CALLS that ask, both sides (printed by calls2.py) -/
section CC
variable {θ : zS} {T U : Nat} {σ : zSt} {Q : Option zV → zS → zM → Prop} {μ : zM} {s : Nat}
theorem rAsItIs {d : Nat} {x1 : zV} (h : MS θ σ s μ) (hd : 1 ≤ d) (hQ : ∀ μ', Fr [184] μ μ' → MX θ (sT σ) s μ' → ML (sT σ) (gR (sG σ)) μ' → MO (sT σ) (gnO (sT σ) (gR (sG σ))) μ' → μ' 138 = μ 138 → Q none θ μ') : Ex d 213 0 [vr 138, x1] [] θ μ Q := by
  have hR := h.2.2.1.1
  refine mAsItIs hd h.1 (fun t ht => by rw [hR.2 t ht]; have := (hR.1.1.1 t ht).1; omega) ?_
  intro μ' hf he
  have e8 : μ' 138 = μ 138 := hf 138 (by decide)
  refine hQ μ' hf (MX_fr h.1 hf (by decide) (by rw [e8])) (ML_fr hR.1 hf (by decide) (by rw [e8])) ⟨gn_z _ _, fun t ht => ?_⟩ e8
  rw [he t ht, hR.2 t ht]
  have := (hR.1.1.1 t ht).1
  unfold gnO
  by_cases h0 : (gR (sG σ)).1 0 t = 0
  · rw [if_pos ⟨ht, h0⟩, h0]; rfl
  · rw [if_neg (fun hh => h0 hh.2)]; omega
theorem mSuck {d : Nat} {τ : zT} {ρ : zF} {lost : Nat → Int} {g w : Int} (hd : 2 ≤ d) (h : MX θ τ s μ) {t : Nat} (ht : t < tn τ) (hg : 0 ≤ g ∧ g ≤ 99) (hv : ∀ j, j < 13 → μ 170 j = va τ ρ lost t g w j)
    (hQ : ∀ μ', Fr [138, 171] μ μ' → (∀ j, j ≠ 50 → μ' 138 j = μ 138 j) → Q (some (vi (suO τ ρ lost t g w))) θ μ') : Ex d 220 0 [vr 138, vi g] [] θ μ Q := by
  have hm := h.1
  have hd0 : 0 < d := by omega
  have hedb := ed_b (τ := τ) (t := t)
  have hge0 : 0 ≤ g * edO τ t := Int.mul_nonneg hg.1 hedb.1
  have hge : g * edO τ t ≤ 99 * 2 := Int.mul_le_mul hg.2 hedb.2 hedb.1 (by omega)
  have hgd : (g * edO τ t).tdiv 2 = g * edO τ t / 2 := Int.tdiv_eq_ediv_of_nonneg hge0
  have a1 : w32 (g * edO τ t) = g * edO τ t := w32_i (by omega) (by omega)
  have a2 : w32 ((g * edO τ t).tdiv 2) = (g * edO τ t).tdiv 2 := by rw [hgd]; exact w32_i (by omega) (by omega)
  have a3 : w32 (g + (g * edO τ t).tdiv 2) = g + (g * edO τ t).tdiv 2 := by rw [hgd]; exact w32_i (by omega) (by omega)
  have v3 : μ 170 3 = edO τ t := by rw [hv 3 (by decide)]; rfl
  simp (disch := omega) only [x220_0, x220_1, x220_2, x220_3, x220_4, x220_5, x220_8, x220_9, x220_10, x220_11, x220_12, x220_13, x220_14, x220_17, ↓reduceIte, Bool.false_eq_true, Nat.reduceAdd, Nat.reduceLT, Nat.reduceLeDiff, Nat.reduceSub, Nat.reduceEqDiff, Int.reduceToNat, Int.reduceEq, Int.reduceLT, Int.reduceLE, Int.reduceAdd, Int.reduceSub, zg, zI, zJ, zR, zst, zkl, zn, zcat, zok, zraw, List.length_cons, List.length_nil, Option.toList, List.nil_append, List.cons_append, true_and, and_true, if_true, if_false, ne_eq, not_true, not_false_eq_true, and_self, true_or, or_true, false_or, or_false, false_and, and_false, b_138 hm, r_138_48 hm, x_170 hm, hd0, v3, a1, a2, a3, Int.reduceToNat]
  refine mSays (d := d - 1) (by omega) h (k := 0) rfl (by decide) hv ?_
  intro μ2 hf2 hj2
  simp (disch := omega) only [x220_0, x220_1, x220_2, x220_3, x220_4, x220_5, x220_8, x220_9, x220_10, x220_11, x220_12, x220_13, x220_14, x220_17, ↓reduceIte, Bool.false_eq_true, Nat.reduceAdd, Nat.reduceLT, Nat.reduceLeDiff, Nat.reduceSub, Nat.reduceEqDiff, Int.reduceToNat, Int.reduceEq, Int.reduceLT, Int.reduceLE, Int.reduceAdd, Int.reduceSub, zg, zI, zJ, zR, zst, zkl, zn, zcat, zok, zraw, List.length_cons, List.length_nil, Option.toList, List.nil_append, List.cons_append, true_and, and_true, if_true, if_false, ne_eq, not_true, not_false_eq_true, and_self, true_or, or_true, false_or, or_false, false_and, and_false]
  exact hQ μ2 hf2 hj2
theorem mPress {d : Nat} {τ : zT} {ρ : zF} {lost : Nat → Int} {g w : Int} (hd : 2 ≤ d) (h : MX θ τ s μ) (hL : ML τ ρ μ) (hO : MO τ lost μ) {t : Nat} (ht : t < tn τ) (hg : 0 ≤ g ∧ g ≤ 99) (hv : ∀ j, j < 13 → μ 170 j = va τ ρ lost t g w j)
    (hQ : ∀ μ', Fr [138, 171] μ μ' → (∀ j, j ≠ 50 → μ' 138 j = μ 138 j) → Q (some (vi (prO τ ρ lost t g w))) θ μ') : Ex d 221 0 [vr 138, vi g] [] θ μ Q := by
  have hm := h.1
  have hw := h.2.1
  have hd0 : 0 < d := by omega
  have hn := tn_b hw
  have hlb := hl_b hw hO.1
  have hdb := dr_b (od := ρ.2.1) (w := w) hw hL.1.2.1
  have hdf : -90 ≤ inO τ ρ.2.1 lost w - ouO τ ρ.2.1 lost w ∧ inO τ ρ.2.1 lost w - ouO τ ρ.2.1 lost w ≤ 90 := by
    unfold inO ouO
    by_cases hf : tN τ 2 = w
    · rw [if_pos hf, if_pos hf]; omega
    · rw [if_neg hf, if_neg hf]; omega
  have b1 : w32 (inO τ ρ.2.1 lost w - ouO τ ρ.2.1 lost w) = inO τ ρ.2.1 lost w - ouO τ ρ.2.1 lost w := w32_i (by omega) (by omega)
  have b2l : -9900 ≤ g * (inO τ ρ.2.1 lost w - ouO τ ρ.2.1 lost w) ∧ g * (inO τ ρ.2.1 lost w - ouO τ ρ.2.1 lost w) ≤ 9900 := by
    generalize inO τ ρ.2.1 lost w - ouO τ ρ.2.1 lost w = D at hdf
    have e1 : g * D ≤ g * 90 := Int.mul_le_mul_of_nonneg_left hdf.2 hg.1
    have e2 : g * (-90) ≤ g * D := Int.mul_le_mul_of_nonneg_left hdf.1 hg.1
    omega
  have b2 : w32 (g * (inO τ ρ.2.1 lost w - ouO τ ρ.2.1 lost w)) = g * (inO τ ρ.2.1 lost w - ouO τ ρ.2.1 lost w) := w32_i (by omega) (by omega)
  have b3 : w32 ((g * (inO τ ρ.2.1 lost w - ouO τ ρ.2.1 lost w)).tdiv 10) = (g * (inO τ ρ.2.1 lost w - ouO τ ρ.2.1 lost w)).tdiv 10 := by
    generalize g * (inO τ ρ.2.1 lost w - ouO τ ρ.2.1 lost w) = D at b2l
    have := tdiv10 D
    apply w32_i <;> omega
  have v6 : μ 170 6 = inO τ ρ.2.1 lost w := by rw [hv 6 (by decide)]; rfl
  have v7 : μ 170 7 = ouO τ ρ.2.1 lost w := by rw [hv 7 (by decide)]; rfl
  have u57 : μ 138 57 = ρ.2.2 := hL.2.2.2
  by_cases hfl : ρ.2.2 = 0
  · simp (disch := omega) only [x221_0, x221_1, x221_4, x221_7, x221_8, x221_11, x221_12, x221_13, x221_14, x221_15, x221_18, x221_20, x221_21, x221_22, x221_25, x221_27, x221_28, x221_29, x221_30, x221_32, x221_33, x221_36, ↓reduceIte, Bool.false_eq_true, Nat.reduceAdd, Nat.reduceLT, Nat.reduceLeDiff, Nat.reduceSub, Nat.reduceEqDiff, Int.reduceToNat, Int.reduceEq, Int.reduceLT, Int.reduceLE, Int.reduceAdd, Int.reduceSub, zg, zI, zJ, zR, zst, zkl, zn, zcat, zok, zraw, List.length_cons, List.length_nil, Option.toList, List.nil_append, List.cons_append, true_and, and_true, if_true, if_false, ne_eq, not_true, not_false_eq_true, and_self, true_or, or_true, false_or, or_false, false_and, and_false, b_138 hm, r_138_48 hm, x_170 hm, hd0, u57, v6, v7, hfl, b1, b2, b3, Int.reduceToNat]
    refine mSays (d := d - 1) (by omega) h (k := 1) rfl (by decide) hv ?_
    intro μ2 hf2 hj2
    simp (disch := omega) only [x221_0, x221_1, x221_4, x221_7, x221_8, x221_11, x221_12, x221_13, x221_14, x221_15, x221_18, x221_20, x221_21, x221_22, x221_25, x221_27, x221_28, x221_29, x221_30, x221_32, x221_33, x221_36, ↓reduceIte, Bool.false_eq_true, Nat.reduceAdd, Nat.reduceLT, Nat.reduceLeDiff, Nat.reduceSub, Nat.reduceEqDiff, Int.reduceToNat, Int.reduceEq, Int.reduceLT, Int.reduceLE, Int.reduceAdd, Int.reduceSub, zg, zI, zJ, zR, zst, zkl, zn, zcat, zok, zraw, List.length_cons, List.length_nil, Option.toList, List.nil_append, List.cons_append, true_and, and_true, if_true, if_false, ne_eq, not_true, not_false_eq_true, and_self, true_or, or_true, false_or, or_false, false_and, and_false]
    have := hQ μ2 hf2 hj2
    unfold prO at this
    rwa [if_pos hfl] at this
  · simp (disch := omega) only [x221_0, x221_1, x221_4, x221_7, x221_8, x221_11, x221_12, x221_13, x221_14, x221_15, x221_18, x221_20, x221_21, x221_22, x221_25, x221_27, x221_28, x221_29, x221_30, x221_32, x221_33, x221_36, ↓reduceIte, Bool.false_eq_true, Nat.reduceAdd, Nat.reduceLT, Nat.reduceLeDiff, Nat.reduceSub, Nat.reduceEqDiff, Int.reduceToNat, Int.reduceEq, Int.reduceLT, Int.reduceLE, Int.reduceAdd, Int.reduceSub, zg, zI, zJ, zR, zst, zkl, zn, zcat, zok, zraw, List.length_cons, List.length_nil, Option.toList, List.nil_append, List.cons_append, true_and, and_true, if_true, if_false, ne_eq, not_true, not_false_eq_true, and_self, true_or, or_true, false_or, or_false, false_and, and_false, b_138 hm, r_138_48 hm, x_170 hm, hd0, u57, hfl]
    have := hQ μ Fr.refl (fun _ _ => rfl)
    unfold prO at this
    rwa [if_neg hfl] at this
/-- the least GUST of a hundred -/
def fsG (P : Int → Bool) : Int := match (List.range 100).find? (fun g => P (g : Nat)) with
  | some g => (g : Int)
  | none => -2
theorem fsG_at {P : Int → Bool} {i : Nat} (hi : i < 100) (hj : ∀ j, j < i → P (j : Nat) = false) (hP : P (i : Nat) = true) : fsG P = (i : Int) := by
  unfold fsG; rw [find_at hi hj hP]
theorem fsG_no {P : Int → Bool} (hj : ∀ j, j < 100 → P (j : Nat) = false) : fsG P = -2 := by
  unfold fsG; rw [find_no hj]
def wgO (τ : zT) (ρ : zF) (t : Nat) (g w b : Int) : Bool := if b = 0 then decide (0 < liO τ ρ (gnO τ ρ) t g w) else (rnO τ ρ g w (gnO τ ρ) 36 t).isSome
theorem cWould {d N : Nat} {g w b : Int} (h : CS θ T U σ μ) (hd : 4 ≤ d) (hN : N < tn (sT σ)) (hg : 0 ≤ g ∧ g ≤ 99) (hwy : 0 ≤ w ∧ w ≤ 3) (hb : b = 0 ∨ b = 1)
    (hQ : ∀ μ', Fr GA μ μ' → Q (some (vi (b2 (wgO (sT σ) (gR (sG σ)) N g w b)))) θ μ') : Ex d 161 0 [vr 2, vi (N : Nat), vi g, vi w, vi b] [] θ μ Q := by
  have hc := h.1.1.1
  have hd0 : 0 < d := by omega
  have hn := tn_b h.1.2.1
  rcases hb with rfl | rfl
  · simp (disch := omega) only [x161_0, x161_2, x161_5, x161_6, x161_9, x161_10, x161_13, x161_16, x161_17, x161_18, x161_19, x161_22, x161_23, x161_26, x161_29, x161_30, x161_31, x161_33, x161_36, x161_37, x161_40, x161_41, x161_42, x161_43, x161_46, x161_47, x161_50, x161_53, x161_54, x161_55, x161_58, x161_59, x161_62, x161_63, x161_66, x161_69, x161_70, x161_73, x161_76, x161_77, x161_80, x161_81, ↓reduceIte, Bool.false_eq_true, Nat.reduceAdd, Nat.reduceLT, Nat.reduceLeDiff, Nat.reduceSub, Nat.reduceEqDiff, Int.reduceToNat, Int.reduceEq, Int.reduceLT, Int.reduceLE, Int.reduceAdd, Int.reduceSub, zg, zI, zJ, zR, zst, zkl, zn, zcat, zok, zraw, List.length_cons, List.length_nil, Option.toList, List.nil_append, List.cons_append, true_and, and_true, if_true, if_false, ne_eq, not_true, not_false_eq_true, and_self, true_or, or_true, false_or, or_false, false_and, and_false, b_2 hc, b_3 hc, b_9 hc, b_12 hc, b_26 hc, b_40 hc, b_46 hc, b_47 hc, b_60 hc, b_62 hc, b_63 hc, b_76 hc, b_77 hc, b_90 hc, b_91 hc, b_104 hc, b_107 hc, b_114 hc, b_115 hc, b_122 hc, b_123 hc, b_131 hc, b_2 hc, r_2_0 hc, r_2_1 hc, r_2_2 hc, r_2_3 hc, r_2_4 hc, r_2_5 hc, x_61 hc, n_61 hc, r_2_6 hc, r_2_7 hc, r_2_8 hc, r_2_9 hc, b_46 hc, r_46_0 hc, r_46_1 hc, x_54 hc, r_46_2 hc, x_55 hc, r_46_3 hc, x_56 hc, r_46_4 hc, x_57 hc, r_46_5 hc, x_58 hc, r_46_6 hc, x_59 hc, hd0]
    refine cMeet (d := d - 1) (ρ := gR (sG σ)) (g := g) (w := w) h.1 h.2.2.1.1 (by omega) ?_
    intro μ1 hf _ _ _ hS
    have h1 := CS_fr h hf (by decide)
    simp (disch := omega) only [x161_0, x161_2, x161_5, x161_6, x161_9, x161_10, x161_13, x161_16, x161_17, x161_18, x161_19, x161_22, x161_23, x161_26, x161_29, x161_30, x161_31, x161_33, x161_36, x161_37, x161_40, x161_41, x161_42, x161_43, x161_46, x161_47, x161_50, x161_53, x161_54, x161_55, x161_58, x161_59, x161_62, x161_63, x161_66, x161_69, x161_70, x161_73, x161_76, x161_77, x161_80, x161_81, ↓reduceIte, Bool.false_eq_true, Nat.reduceAdd, Nat.reduceLT, Nat.reduceLeDiff, Nat.reduceSub, Nat.reduceEqDiff, Int.reduceToNat, Int.reduceEq, Int.reduceLT, Int.reduceLE, Int.reduceAdd, Int.reduceSub, zg, zI, zJ, zR, zst, zkl, zn, zcat, zok, zraw, List.length_cons, List.length_nil, Option.toList, List.nil_append, List.cons_append, true_and, and_true, if_true, if_false, ne_eq, not_true, not_false_eq_true, and_self, true_or, or_true, false_or, or_false, false_and, and_false, b_2 hc, b_3 hc, b_9 hc, b_12 hc, b_26 hc, b_40 hc, b_46 hc, b_47 hc, b_60 hc, b_62 hc, b_63 hc, b_76 hc, b_77 hc, b_90 hc, b_91 hc, b_104 hc, b_107 hc, b_114 hc, b_115 hc, b_122 hc, b_123 hc, b_131 hc, b_2 hc, r_2_0 hc, r_2_1 hc, r_2_2 hc, r_2_3 hc, r_2_4 hc, r_2_5 hc, x_61 hc, n_61 hc, r_2_6 hc, r_2_7 hc, r_2_8 hc, r_2_9 hc, b_46 hc, r_46_0 hc, r_46_1 hc, x_54 hc, r_46_2 hc, x_55 hc, r_46_3 hc, x_56 hc, r_46_4 hc, x_57 hc, r_46_5 hc, x_58 hc, r_46_6 hc, x_59 hc, hd0]
    refine cLift (d := d - 1) (ρ := gR (sG σ)) (t := N) h1.1 h1.2.2.1.1 (by omega) rfl (by omega) hg hS (gn_z _ _) ?_
    intro μ2 hf2 _ _ _ e5 e6 e7
    have hq := hQ μ2 ((hf.mono (by decide)).trans (hf2.mono (by decide)))
    unfold wgO b2 at hq
    by_cases hl : liO (sT σ) (gR (sG σ)) (gnO (sT σ) (gR (sG σ))) N g w ≤ 0
    · have hl' : ¬ 0 < liO (sT σ) (gR (sG σ)) (gnO (sT σ) (gR (sG σ))) N g w := by omega
      simp only [hl', decide_false, if_true, if_false, Bool.false_eq_true] at hq
      simp (disch := omega) only [x161_0, x161_2, x161_5, x161_6, x161_9, x161_10, x161_13, x161_16, x161_17, x161_18, x161_19, x161_22, x161_23, x161_26, x161_29, x161_30, x161_31, x161_33, x161_36, x161_37, x161_40, x161_41, x161_42, x161_43, x161_46, x161_47, x161_50, x161_53, x161_54, x161_55, x161_58, x161_59, x161_62, x161_63, x161_66, x161_69, x161_70, x161_73, x161_76, x161_77, x161_80, x161_81, ↓reduceIte, Bool.false_eq_true, Nat.reduceAdd, Nat.reduceLT, Nat.reduceLeDiff, Nat.reduceSub, Nat.reduceEqDiff, Int.reduceToNat, Int.reduceEq, Int.reduceLT, Int.reduceLE, Int.reduceAdd, Int.reduceSub, zg, zI, zJ, zR, zst, zkl, zn, zcat, zok, zraw, List.length_cons, List.length_nil, Option.toList, List.nil_append, List.cons_append, true_and, and_true, if_true, if_false, ne_eq, not_true, not_false_eq_true, and_self, true_or, or_true, false_or, or_false, false_and, and_false, b_2 hc, b_3 hc, b_9 hc, b_12 hc, b_26 hc, b_40 hc, b_46 hc, b_47 hc, b_60 hc, b_62 hc, b_63 hc, b_76 hc, b_77 hc, b_90 hc, b_91 hc, b_104 hc, b_107 hc, b_114 hc, b_115 hc, b_122 hc, b_123 hc, b_131 hc, b_2 hc, r_2_0 hc, r_2_1 hc, r_2_2 hc, r_2_3 hc, r_2_4 hc, r_2_5 hc, x_61 hc, n_61 hc, r_2_6 hc, r_2_7 hc, r_2_8 hc, r_2_9 hc, b_46 hc, r_46_0 hc, r_46_1 hc, x_54 hc, r_46_2 hc, x_55 hc, r_46_3 hc, x_56 hc, r_46_4 hc, x_57 hc, r_46_5 hc, x_58 hc, r_46_6 hc, x_59 hc, hl]
      exact hq
    · have hl' : 0 < liO (sT σ) (gR (sG σ)) (gnO (sT σ) (gR (sG σ))) N g w := by omega
      simp only [hl', decide_true, if_true] at hq
      simp (disch := omega) only [x161_0, x161_2, x161_5, x161_6, x161_9, x161_10, x161_13, x161_16, x161_17, x161_18, x161_19, x161_22, x161_23, x161_26, x161_29, x161_30, x161_31, x161_33, x161_36, x161_37, x161_40, x161_41, x161_42, x161_43, x161_46, x161_47, x161_50, x161_53, x161_54, x161_55, x161_58, x161_59, x161_62, x161_63, x161_66, x161_69, x161_70, x161_73, x161_76, x161_77, x161_80, x161_81, ↓reduceIte, Bool.false_eq_true, Nat.reduceAdd, Nat.reduceLT, Nat.reduceLeDiff, Nat.reduceSub, Nat.reduceEqDiff, Int.reduceToNat, Int.reduceEq, Int.reduceLT, Int.reduceLE, Int.reduceAdd, Int.reduceSub, zg, zI, zJ, zR, zst, zkl, zn, zcat, zok, zraw, List.length_cons, List.length_nil, Option.toList, List.nil_append, List.cons_append, true_and, and_true, if_true, if_false, ne_eq, not_true, not_false_eq_true, and_self, true_or, or_true, false_or, or_false, false_and, and_false, b_2 hc, b_3 hc, b_9 hc, b_12 hc, b_26 hc, b_40 hc, b_46 hc, b_47 hc, b_60 hc, b_62 hc, b_63 hc, b_76 hc, b_77 hc, b_90 hc, b_91 hc, b_104 hc, b_107 hc, b_114 hc, b_115 hc, b_122 hc, b_123 hc, b_131 hc, b_2 hc, r_2_0 hc, r_2_1 hc, r_2_2 hc, r_2_3 hc, r_2_4 hc, r_2_5 hc, x_61 hc, n_61 hc, r_2_6 hc, r_2_7 hc, r_2_8 hc, r_2_9 hc, b_46 hc, r_46_0 hc, r_46_1 hc, x_54 hc, r_46_2 hc, x_55 hc, r_46_3 hc, x_56 hc, r_46_4 hc, x_57 hc, r_46_5 hc, x_58 hc, r_46_6 hc, x_59 hc, hl]
      exact hq
  · simp (disch := omega) only [x161_0, x161_2, x161_5, x161_6, x161_9, x161_10, x161_13, x161_16, x161_17, x161_18, x161_19, x161_22, x161_23, x161_26, x161_29, x161_30, x161_31, x161_33, x161_36, x161_37, x161_40, x161_41, x161_42, x161_43, x161_46, x161_47, x161_50, x161_53, x161_54, x161_55, x161_58, x161_59, x161_62, x161_63, x161_66, x161_69, x161_70, x161_73, x161_76, x161_77, x161_80, x161_81, ↓reduceIte, Bool.false_eq_true, Nat.reduceAdd, Nat.reduceLT, Nat.reduceLeDiff, Nat.reduceSub, Nat.reduceEqDiff, Int.reduceToNat, Int.reduceEq, Int.reduceLT, Int.reduceLE, Int.reduceAdd, Int.reduceSub, zg, zI, zJ, zR, zst, zkl, zn, zcat, zok, zraw, List.length_cons, List.length_nil, Option.toList, List.nil_append, List.cons_append, true_and, and_true, if_true, if_false, ne_eq, not_true, not_false_eq_true, and_self, true_or, or_true, false_or, or_false, false_and, and_false, b_2 hc, b_3 hc, b_9 hc, b_12 hc, b_26 hc, b_40 hc, b_46 hc, b_47 hc, b_60 hc, b_62 hc, b_63 hc, b_76 hc, b_77 hc, b_90 hc, b_91 hc, b_104 hc, b_107 hc, b_114 hc, b_115 hc, b_122 hc, b_123 hc, b_131 hc, b_2 hc, r_2_0 hc, r_2_1 hc, r_2_2 hc, r_2_3 hc, r_2_4 hc, r_2_5 hc, x_61 hc, n_61 hc, r_2_6 hc, r_2_7 hc, r_2_8 hc, r_2_9 hc, b_46 hc, r_46_0 hc, r_46_1 hc, x_54 hc, r_46_2 hc, x_55 hc, r_46_3 hc, x_56 hc, r_46_4 hc, x_57 hc, r_46_5 hc, x_58 hc, r_46_6 hc, x_59 hc, hd0]
    refine cRun (d := d - 1) (ρ := gR (sG σ)) h.1 h.2.2.1.1 (by omega) hg hwy (Or.inl rfl) ?_
    intro μ1 hf hR
    have hq := hQ μ1 hf
    unfold wgO b2 at hq
    have h10 : ¬ (1 : Int) = 0 := by omega
    rw [if_neg h10] at hq
    have e := hR.2.2.2.1 N (by omega)
    cases hr : rnO (sT σ) (gR (sG σ)) g w (gnO (sT σ) (gR (sG σ))) 36 N with
    | none =>
      rw [hr] at hq e
      have e' : μ1 42 N = -2 := e
      simp (disch := omega) only [x161_0, x161_2, x161_5, x161_6, x161_9, x161_10, x161_13, x161_16, x161_17, x161_18, x161_19, x161_22, x161_23, x161_26, x161_29, x161_30, x161_31, x161_33, x161_36, x161_37, x161_40, x161_41, x161_42, x161_43, x161_46, x161_47, x161_50, x161_53, x161_54, x161_55, x161_58, x161_59, x161_62, x161_63, x161_66, x161_69, x161_70, x161_73, x161_76, x161_77, x161_80, x161_81, ↓reduceIte, Bool.false_eq_true, Nat.reduceAdd, Nat.reduceLT, Nat.reduceLeDiff, Nat.reduceSub, Nat.reduceEqDiff, Int.reduceToNat, Int.reduceEq, Int.reduceLT, Int.reduceLE, Int.reduceAdd, Int.reduceSub, zg, zI, zJ, zR, zst, zkl, zn, zcat, zok, zraw, List.length_cons, List.length_nil, Option.toList, List.nil_append, List.cons_append, true_and, and_true, if_true, if_false, ne_eq, not_true, not_false_eq_true, and_self, true_or, or_true, false_or, or_false, false_and, and_false, b_2 hc, b_3 hc, b_9 hc, b_12 hc, b_26 hc, b_40 hc, b_46 hc, b_47 hc, b_60 hc, b_62 hc, b_63 hc, b_76 hc, b_77 hc, b_90 hc, b_91 hc, b_104 hc, b_107 hc, b_114 hc, b_115 hc, b_122 hc, b_123 hc, b_131 hc, b_2 hc, r_2_0 hc, r_2_1 hc, r_2_2 hc, r_2_3 hc, r_2_4 hc, r_2_5 hc, x_61 hc, n_61 hc, r_2_6 hc, r_2_7 hc, r_2_8 hc, r_2_9 hc, b_40 hc, r_40_0 hc, x_41 hc, r_40_1 hc, x_42 hc, r_40_2 hc, x_43 hc, r_40_9 hc, r_40_10 hc, x_44 hc, r_40_11 hc, x_45 hc, e', Int.toNat_natCast]
      exact hq
    | some p =>
      rw [hr] at hq e
      have e' : μ1 42 N = (p : Int) := e
      have hne : ¬ ((p : Int) = -2) := by omega
      simp (disch := omega) only [x161_0, x161_2, x161_5, x161_6, x161_9, x161_10, x161_13, x161_16, x161_17, x161_18, x161_19, x161_22, x161_23, x161_26, x161_29, x161_30, x161_31, x161_33, x161_36, x161_37, x161_40, x161_41, x161_42, x161_43, x161_46, x161_47, x161_50, x161_53, x161_54, x161_55, x161_58, x161_59, x161_62, x161_63, x161_66, x161_69, x161_70, x161_73, x161_76, x161_77, x161_80, x161_81, ↓reduceIte, Bool.false_eq_true, Nat.reduceAdd, Nat.reduceLT, Nat.reduceLeDiff, Nat.reduceSub, Nat.reduceEqDiff, Int.reduceToNat, Int.reduceEq, Int.reduceLT, Int.reduceLE, Int.reduceAdd, Int.reduceSub, zg, zI, zJ, zR, zst, zkl, zn, zcat, zok, zraw, List.length_cons, List.length_nil, Option.toList, List.nil_append, List.cons_append, true_and, and_true, if_true, if_false, ne_eq, not_true, not_false_eq_true, and_self, true_or, or_true, false_or, or_false, false_and, and_false, b_2 hc, b_3 hc, b_9 hc, b_12 hc, b_26 hc, b_40 hc, b_46 hc, b_47 hc, b_60 hc, b_62 hc, b_63 hc, b_76 hc, b_77 hc, b_90 hc, b_91 hc, b_104 hc, b_107 hc, b_114 hc, b_115 hc, b_122 hc, b_123 hc, b_131 hc, b_2 hc, r_2_0 hc, r_2_1 hc, r_2_2 hc, r_2_3 hc, r_2_4 hc, r_2_5 hc, x_61 hc, n_61 hc, r_2_6 hc, r_2_7 hc, r_2_8 hc, r_2_9 hc, b_40 hc, r_40_0 hc, x_41 hc, r_40_1 hc, x_42 hc, r_40_2 hc, x_43 hc, r_40_9 hc, r_40_10 hc, x_44 hc, r_40_11 hc, x_45 hc, e', hne, Int.toNat_natCast]
      exact hq
theorem rGoesAt {d N : Nat} {g w b : Int} {x5 : zV} (h : MS θ σ s μ) (hd : 6 ≤ d) (hN : N < tn (sT σ)) (hg : 0 ≤ g ∧ g ≤ 99) (hwy : 0 ≤ w ∧ w ≤ 3) (hb : b = 0 ∨ b = 1)
    (hQ : ∀ μ', Fr GF μ μ' → J5 μ μ' → Q (some (vi (b2 (wgO (sT σ) (gR (sG σ)) N g w b)))) θ μ') : Ex d 228 0 [vr 138, vi (N : Nat), vi g, vi w, vi b, x5] [] θ μ Q := by
  have hm := h.1.1
  have hd0 : 0 < d := by omega
  have hn := tn_b h.1.2.1
  simp (disch := omega) only [x228_0, x228_1, x228_4, x228_6, x228_9, x228_10, x228_11, x228_12, x228_13, x228_16, x228_19, x228_20, x228_23, x228_24, x228_25, x228_26, x228_27, x228_28, x228_31, x228_33, x228_35, x228_38, x228_39, x228_42, x228_43, x228_44, x228_45, x228_48, x228_49, x228_52, x228_53, ↓reduceIte, Bool.false_eq_true, Nat.reduceAdd, Nat.reduceLT, Nat.reduceLeDiff, Nat.reduceSub, Nat.reduceEqDiff, Int.reduceToNat, Int.reduceEq, Int.reduceLT, Int.reduceLE, Int.reduceAdd, Int.reduceSub, zg, zI, zJ, zR, zst, zkl, zn, zcat, zok, zraw, List.length_cons, List.length_nil, Option.toList, List.nil_append, List.cons_append, true_and, and_true, if_true, if_false, ne_eq, not_true, not_false_eq_true, and_self, true_or, or_true, false_or, or_false, false_and, and_false, b_138 hm, hd0]
  refine rAsItIs (d := d - 1) h (by omega) ?_
  intro μ1 hf X1 L1 O1 e8
  rcases hb with rfl | rfl
  · simp (disch := omega) only [x228_0, x228_1, x228_4, x228_6, x228_9, x228_10, x228_11, x228_12, x228_13, x228_16, x228_19, x228_20, x228_23, x228_24, x228_25, x228_26, x228_27, x228_28, x228_31, x228_33, x228_35, x228_38, x228_39, x228_42, x228_43, x228_44, x228_45, x228_48, x228_49, x228_52, x228_53, ↓reduceIte, Bool.false_eq_true, Nat.reduceAdd, Nat.reduceLT, Nat.reduceLeDiff, Nat.reduceSub, Nat.reduceEqDiff, Int.reduceToNat, Int.reduceEq, Int.reduceLT, Int.reduceLE, Int.reduceAdd, Int.reduceSub, zg, zI, zJ, zR, zst, zkl, zn, zcat, zok, zraw, List.length_cons, List.length_nil, Option.toList, List.nil_append, List.cons_append, true_and, and_true, if_true, if_false, ne_eq, not_true, not_false_eq_true, and_self, true_or, or_true, false_or, or_false, false_and, and_false, b_138 hm, hd0]
    refine mLift (d := d - 1) (by omega) X1 L1 O1 rfl hN hg ?_
    intro μ2 hf2 hj2
    have hq := hQ μ2 ((hf.mono (by decide)).trans (hf2.mono (by decide))) (fun j a b => by rw [hj2 j a, e8])
    unfold wgO b2 at hq
    by_cases hl : liO (sT σ) (gR (sG σ)) (gnO (sT σ) (gR (sG σ))) N g w ≤ 0
    · have hl' : ¬ 0 < liO (sT σ) (gR (sG σ)) (gnO (sT σ) (gR (sG σ))) N g w := by omega
      simp only [hl', decide_false, if_true, if_false, Bool.false_eq_true] at hq
      simp (disch := omega) only [x228_0, x228_1, x228_4, x228_6, x228_9, x228_10, x228_11, x228_12, x228_13, x228_16, x228_19, x228_20, x228_23, x228_24, x228_25, x228_26, x228_27, x228_28, x228_31, x228_33, x228_35, x228_38, x228_39, x228_42, x228_43, x228_44, x228_45, x228_48, x228_49, x228_52, x228_53, ↓reduceIte, Bool.false_eq_true, Nat.reduceAdd, Nat.reduceLT, Nat.reduceLeDiff, Nat.reduceSub, Nat.reduceEqDiff, Int.reduceToNat, Int.reduceEq, Int.reduceLT, Int.reduceLE, Int.reduceAdd, Int.reduceSub, zg, zI, zJ, zR, zst, zkl, zn, zcat, zok, zraw, List.length_cons, List.length_nil, Option.toList, List.nil_append, List.cons_append, true_and, and_true, if_true, if_false, ne_eq, not_true, not_false_eq_true, and_self, true_or, or_true, false_or, or_false, false_and, and_false, hl]
      exact hq
    · have hl' : 0 < liO (sT σ) (gR (sG σ)) (gnO (sT σ) (gR (sG σ))) N g w := by omega
      simp only [hl', decide_true, if_true] at hq
      simp (disch := omega) only [x228_0, x228_1, x228_4, x228_6, x228_9, x228_10, x228_11, x228_12, x228_13, x228_16, x228_19, x228_20, x228_23, x228_24, x228_25, x228_26, x228_27, x228_28, x228_31, x228_33, x228_35, x228_38, x228_39, x228_42, x228_43, x228_44, x228_45, x228_48, x228_49, x228_52, x228_53, ↓reduceIte, Bool.false_eq_true, Nat.reduceAdd, Nat.reduceLT, Nat.reduceLeDiff, Nat.reduceSub, Nat.reduceEqDiff, Int.reduceToNat, Int.reduceEq, Int.reduceLT, Int.reduceLE, Int.reduceAdd, Int.reduceSub, zg, zI, zJ, zR, zst, zkl, zn, zcat, zok, zraw, List.length_cons, List.length_nil, Option.toList, List.nil_append, List.cons_append, true_and, and_true, if_true, if_false, ne_eq, not_true, not_false_eq_true, and_self, true_or, or_true, false_or, or_false, false_and, and_false, hl]
      exact hq
  · simp (disch := omega) only [x228_0, x228_1, x228_4, x228_6, x228_9, x228_10, x228_11, x228_12, x228_13, x228_16, x228_19, x228_20, x228_23, x228_24, x228_25, x228_26, x228_27, x228_28, x228_31, x228_33, x228_35, x228_38, x228_39, x228_42, x228_43, x228_44, x228_45, x228_48, x228_49, x228_52, x228_53, ↓reduceIte, Bool.false_eq_true, Nat.reduceAdd, Nat.reduceLT, Nat.reduceLeDiff, Nat.reduceSub, Nat.reduceEqDiff, Int.reduceToNat, Int.reduceEq, Int.reduceLT, Int.reduceLE, Int.reduceAdd, Int.reduceSub, zg, zI, zJ, zR, zst, zkl, zn, zcat, zok, zraw, List.length_cons, List.length_nil, Option.toList, List.nil_append, List.cons_append, true_and, and_true, if_true, if_false, ne_eq, not_true, not_false_eq_true, and_self, true_or, or_true, false_or, or_false, false_and, and_false, b_138 hm, hd0]
    refine mFalls (d := d - 1) (by omega) X1 L1 O1 hg hwy ?_
    intro μ2 hf2 hj2 hF
    have hq := hQ μ2 ((hf.mono (by decide)).trans (hf2.mono (by decide))) (fun j a b => by rw [hj2 j a b, e8])
    unfold wgO b2 at hq
    have h10 : ¬ (1 : Int) = 0 := by omega
    rw [if_neg h10] at hq
    have e := hF.2.1 N hN
    by_cases h0 : (foO (sT σ) (gR (sG σ)) g w (gnO (sT σ) (gR (sG σ))) : Nat) = 0
    · have hz : faO (sT σ) (gR (sG σ)) g w = 0 := by unfold faO; omega
      rw [rn_fo0 hz] at hq
      have h0' : ((foO (sT σ) (gR (sG σ)) g w (gnO (sT σ) (gR (sG σ))) : Nat) : Int) ≤ 0 := by omega
      simp (disch := omega) only [x228_0, x228_1, x228_4, x228_6, x228_9, x228_10, x228_11, x228_12, x228_13, x228_16, x228_19, x228_20, x228_23, x228_24, x228_25, x228_26, x228_27, x228_28, x228_31, x228_33, x228_35, x228_38, x228_39, x228_42, x228_43, x228_44, x228_45, x228_48, x228_49, x228_52, x228_53, ↓reduceIte, Bool.false_eq_true, Nat.reduceAdd, Nat.reduceLT, Nat.reduceLeDiff, Nat.reduceSub, Nat.reduceEqDiff, Int.reduceToNat, Int.reduceEq, Int.reduceLT, Int.reduceLE, Int.reduceAdd, Int.reduceSub, zg, zI, zJ, zR, zst, zkl, zn, zcat, zok, zraw, List.length_cons, List.length_nil, Option.toList, List.nil_append, List.cons_append, true_and, and_true, if_true, if_false, ne_eq, not_true, not_false_eq_true, and_self, true_or, or_true, false_or, or_false, false_and, and_false, h0']
      exact hq
    · have h0' : ¬ ((foO (sT σ) (gR (sG σ)) g w (gnO (sT σ) (gR (sG σ))) : Nat) : Int) ≤ 0 := by omega
      cases hr : rnO (sT σ) (gR (sG σ)) g w (gnO (sT σ) (gR (sG σ))) 36 N with
      | none =>
        rw [hr] at hq e
        have e' : μ2 185 N = -1 := e
        simp (disch := omega) only [x228_0, x228_1, x228_4, x228_6, x228_9, x228_10, x228_11, x228_12, x228_13, x228_16, x228_19, x228_20, x228_23, x228_24, x228_25, x228_26, x228_27, x228_28, x228_31, x228_33, x228_35, x228_38, x228_39, x228_42, x228_43, x228_44, x228_45, x228_48, x228_49, x228_52, x228_53, ↓reduceIte, Bool.false_eq_true, Nat.reduceAdd, Nat.reduceLT, Nat.reduceLeDiff, Nat.reduceSub, Nat.reduceEqDiff, Int.reduceToNat, Int.reduceEq, Int.reduceLT, Int.reduceLE, Int.reduceAdd, Int.reduceSub, zg, zI, zJ, zR, zst, zkl, zn, zcat, zok, zraw, List.length_cons, List.length_nil, Option.toList, List.nil_append, List.cons_append, true_and, and_true, if_true, if_false, ne_eq, not_true, not_false_eq_true, and_self, true_or, or_true, false_or, or_false, false_and, and_false, b_138 hm, r_138_67 hm, x_185 hm, h0', e', Int.toNat_natCast]
        exact hq
      | some p =>
        rw [hr] at hq e
        have e' : μ2 185 N = (p : Int) := e
        have hne : ¬ ((p : Int) = -1) := by omega
        simp (disch := omega) only [x228_0, x228_1, x228_4, x228_6, x228_9, x228_10, x228_11, x228_12, x228_13, x228_16, x228_19, x228_20, x228_23, x228_24, x228_25, x228_26, x228_27, x228_28, x228_31, x228_33, x228_35, x228_38, x228_39, x228_42, x228_43, x228_44, x228_45, x228_48, x228_49, x228_52, x228_53, ↓reduceIte, Bool.false_eq_true, Nat.reduceAdd, Nat.reduceLT, Nat.reduceLeDiff, Nat.reduceSub, Nat.reduceEqDiff, Int.reduceToNat, Int.reduceEq, Int.reduceLT, Int.reduceLE, Int.reduceAdd, Int.reduceSub, zg, zI, zJ, zR, zst, zkl, zn, zcat, zok, zraw, List.length_cons, List.length_nil, Option.toList, List.nil_append, List.cons_append, true_and, and_true, if_true, if_false, ne_eq, not_true, not_false_eq_true, and_self, true_or, or_true, false_or, or_false, false_and, and_false, b_138 hm, r_138_67 hm, x_185 hm, h0', e', hne, Int.toNat_natCast]
        exact hq
end CC
