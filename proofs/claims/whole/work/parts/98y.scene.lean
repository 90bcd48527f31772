/-! CALLS: sweep, gust, calm -/
section SW
variable {θ : zS} {T U : Nat} {σ : zSt} {Q : Option zV → zS → zM → Prop} {μ : zM} {s : Nat}
theorem sm_part {f : Nat → Int} {n t : Nat} (h : ∀ k, k < n → 0 ≤ f k) (ht : t ≤ n) : 0 ≤ sm f t ∧ sm f t ≤ sm f n := by
  refine ⟨sm_nn (fun i hi => h i (by omega)), ?_⟩
  induction n with
  | zero => have : t = 0 := by omega
            subst this; exact Int.le_refl _
  | succ n ih =>
    by_cases e : t = n + 1
    · subst e; exact Int.le_refl _
    · have := ih (fun k hk => h k (by omega)) (by omega)
      have := h n (by omega)
      simp only [sm]; omega
/-- what lies in all -/
theorem cLying {d : Nat} {f : Nat → Int} {B : Nat} {x1 x2 : zV} (hc : Tc θ) (hf : ∀ k, k < 480 → μ 54 k = f k) (h0 : ∀ k, k < 480 → 0 ≤ f k) (hB : sm f 480 ≤ B ∧ B ≤ 1000000) (hQ : Q (some (vi (sm f 480))) θ μ) : Ex d 71 0 [vr 46, x1, x2] [] θ μ Q := by
  have key : ∀ t L μ1, t ≤ 480 → (L = [vr 46, vi (sm f t), vi (t : Nat)] ∧ μ1 = μ) → Ex d 71 4 L [] θ μ1 Q := by
    refine Ex_loop (I := fun t L μ1 => L = [vr 46, vi (sm f t), vi (t : Nat)] ∧ μ1 = μ) 480 ?_ ?_
    · rintro t L μ1 ht ⟨rfl, rfl⟩ hk
      have c1 : ¬ (480 : Int) ≤ (t : Int) := by omega
      have i1 : (0 : Int) ≤ (t : Int) := by omega
      have i2 : (t : Int) < 480 := by omega
      have w1 : t < 2147483647 := by omega
      have p := sm_part (t := t + 1) h0 (by omega)
      have l1 : -2147483648 ≤ sm f t + f t := by have : sm f (t + 1) = sm f t + f t := rfl; omega
      have l2 : sm f t + f t ≤ 2147483647 := by have : sm f (t + 1) = sm f t + f t := rfl; omega
      rw [x71_4]
      simp only [x71_0, x71_1, x71_2, x71_3, x71_5, x71_8, x71_11, x71_12, x71_13, x71_16, x71_17, x71_18, x71_19, x71_20, x71_23, x71_26, x71_27, ↓reduceIte, Bool.false_eq_true, Nat.reduceAdd, Nat.reduceLT, Nat.reduceLeDiff, Nat.reduceSub, Nat.reduceEqDiff, Int.reduceToNat, Int.reduceEq, Int.reduceLT, Int.reduceLE, Int.reduceAdd, Int.reduceSub, zg, zI, zJ, zR, zst, zkl, zn, zcat, zok, zraw, List.length_cons, List.length_nil, Option.toList, List.nil_append, List.cons_append, true_and, and_true, if_true, if_false, ne_eq, not_true, not_false_eq_true, and_self, true_or, or_true, false_or, or_false, false_and, and_false, b_46 hc, r_46_1 hc, x_54 hc i1 i2, c1, Int.toNat_natCast, hf t ht, w32_i l1 l2, w32_s w1]
      exact hk _ _ ⟨rfl, rfl⟩
    · rintro L μ1 ⟨rfl, rfl⟩
      rw [x71_4]
      simp only [x71_0, x71_1, x71_2, x71_3, x71_5, x71_8, x71_11, x71_12, x71_13, x71_16, x71_17, x71_18, x71_19, x71_20, x71_23, x71_26, x71_27, ↓reduceIte, Bool.false_eq_true, Nat.reduceAdd, Nat.reduceLT, Nat.reduceLeDiff, Nat.reduceSub, Nat.reduceEqDiff, Int.reduceToNat, Int.reduceEq, Int.reduceLT, Int.reduceLE, Int.reduceAdd, Int.reduceSub, zg, zI, zJ, zR, zst, zkl, zn, zcat, zok, zraw, List.length_cons, List.length_nil, Option.toList, List.nil_append, List.cons_append, true_and, and_true, if_true, if_false, ne_eq, not_true, not_false_eq_true, and_self, true_or, or_true, false_or, or_false, false_and, and_false, show ((480 : Nat) : Int) = 480 from rfl, Int.le_refl]
      exact hQ
  simp only [x71_0, x71_1, x71_2, x71_3, x71_5, x71_8, x71_11, x71_12, x71_13, x71_16, x71_17, x71_18, x71_19, x71_20, x71_23, x71_26, x71_27, ↓reduceIte, Bool.false_eq_true, Nat.reduceAdd, Nat.reduceLT, Nat.reduceLeDiff, Nat.reduceSub, Nat.reduceEqDiff, Int.reduceToNat, Int.reduceEq, Int.reduceLT, Int.reduceLE, Int.reduceAdd, Int.reduceSub, zg, zI, zJ, zR, zst, zkl, zn, zcat, zok, zraw, List.length_cons, List.length_nil, Option.toList, List.nil_append, List.cons_append, true_and, and_true, if_true, if_false, ne_eq, not_true, not_false_eq_true, and_self, true_or, or_true, false_or, or_false, false_and, and_false]
  exact key 0 _ _ (by omega) ⟨rfl, rfl⟩
def swG (γ : zG) : zG := (gR γ, fun _ => 0, (gC γ, gA γ, gH γ), gU γ)
def sSweep (σ : zSt) : zSt := setS σ (swG (sG σ)) (sM σ)
theorem swG_w {τ : zT} {γ : zG} {B : Nat} (h : wfG τ γ B) : wfG τ (swG γ) B := by
  obtain ⟨h1, _, h3, h4⟩ := h
  refine ⟨h1, ⟨fun k _ => Int.le_refl _, ?_⟩, h3, h4⟩
  show sm (fun _ => 0) 480 ≤ _
  rw [sm_zero]; omega
theorem kSweep {D : Nat} {x1 : zV} (h : CS θ T U σ μ) (hd : 7 ≤ D) (hQ : ∀ μ', CL μ μ' → CS θ T U (sSweep σ) μ' → Q (some (vi (sm (gY (sG σ)) 480))) θ μ') : Ex D 122 0 [vr 2, x1] [] θ μ Q := by
  have hc := h.1.1.1
  have hd0 : 0 < D := by omega
  have hM := h.2.1.2.2.2.2.2
  obtain ⟨y1, y2⟩ := h.2.1.2.1.2.1
  obtain ⟨f1, f2, f3, f4, f5⟩ := h.2.2.1
  simp only [x122_0, x122_1, x122_4, x122_7, x122_8, x122_9, x122_12, x122_15, x122_16, x122_19, x122_20, x122_23, x122_24, ↓reduceIte, Bool.false_eq_true, Nat.reduceAdd, Nat.reduceLT, Nat.reduceLeDiff, Nat.reduceSub, Nat.reduceEqDiff, Int.reduceToNat, Int.reduceEq, Int.reduceLT, Int.reduceLE, Int.reduceAdd, Int.reduceSub, zg, zI, zJ, zR, zst, zkl, zn, zcat, zok, zraw, List.length_cons, List.length_nil, Option.toList, List.nil_append, List.cons_append, true_and, and_true, if_true, if_false, ne_eq, not_true, not_false_eq_true, and_self, true_or, or_true, false_or, or_false, false_and, and_false, b_2 hc, r_2_4 hc, b_46 hc, hd0]
  refine cLying (d := D - 1) (f := gY (sG σ)) (B := sM σ) hc f3 y1 ⟨y2, by omega⟩ ?_
  simp only [x122_0, x122_1, x122_4, x122_7, x122_8, x122_9, x122_12, x122_15, x122_16, x122_19, x122_20, x122_23, x122_24, ↓reduceIte, Bool.false_eq_true, Nat.reduceAdd, Nat.reduceLT, Nat.reduceLeDiff, Nat.reduceSub, Nat.reduceEqDiff, Int.reduceToNat, Int.reduceEq, Int.reduceLT, Int.reduceLE, Int.reduceAdd, Int.reduceSub, zg, zI, zJ, zR, zst, zkl, zn, zcat, zok, zraw, List.length_cons, List.length_nil, Option.toList, List.nil_append, List.cons_append, true_and, and_true, if_true, if_false, ne_eq, not_true, not_false_eq_true, and_self, true_or, or_true, false_or, or_false, false_and, and_false, b_2 hc, r_2_4 hc, b_46 hc, r_46_1 hc, hd0]
  refine eFill (d := D - 1) (by decide) (s_54 hc) (by decide) ?_
  simp only [x122_0, x122_1, x122_4, x122_7, x122_8, x122_9, x122_12, x122_15, x122_16, x122_19, x122_20, x122_23, x122_24, ↓reduceIte, Bool.false_eq_true, Nat.reduceAdd, Nat.reduceLT, Nat.reduceLeDiff, Nat.reduceSub, Nat.reduceEqDiff, Int.reduceToNat, Int.reduceEq, Int.reduceLT, Int.reduceLE, Int.reduceAdd, Int.reduceSub, zg, zI, zJ, zR, zst, zkl, zn, zcat, zok, zraw, List.length_cons, List.length_nil, Option.toList, List.nil_append, List.cons_append, true_and, and_true, if_true, if_false, ne_eq, not_true, not_false_eq_true, and_self, true_or, or_true, false_or, or_false, false_and, and_false, b_2 hc, hd0]
  refine cForgetPlans (d := D - 1) hc (by omega) ?_
  intro μ1 hf p9 p10 p4
  simp only [x122_0, x122_1, x122_4, x122_7, x122_8, x122_9, x122_12, x122_15, x122_16, x122_19, x122_20, x122_23, x122_24, ↓reduceIte, Bool.false_eq_true, Nat.reduceAdd, Nat.reduceLT, Nat.reduceLeDiff, Nat.reduceSub, Nat.reduceEqDiff, Int.reduceToNat, Int.reduceEq, Int.reduceLT, Int.reduceLE, Int.reduceAdd, Int.reduceSub, zg, zI, zJ, zR, zst, zkl, zn, zcat, zok, zraw, List.length_cons, List.length_nil, Option.toList, List.nil_append, List.cons_append, true_and, and_true, if_true, if_false, ne_eq, not_true, not_false_eq_true, and_self, true_or, or_true, false_or, or_false, false_and, and_false]
  have F : Fr SCA μ μ1 := (Fr.us (a := 54) (by decide) Fr.refl : Fr SCA μ (us μ 54 (fun j => if j < 480 then 0 else μ 54 j))).trans (hf.mono (by decide))
  have e : ∀ a, a ≠ 54 → a ≠ 104 → a ≠ 122 → μ1 a = μ a := fun a h1 h2 h3 => by rw [hf a (by simp; omega), us_ne h1]
  refine hQ μ1 (CL_fr F (by decide)) (CS_set h ⟨Nat.le_refl _, hM⟩ F (swG_w h.2.1.2.1) ⟨?_, ?_, fun k hk => ?_, ⟨?_, fun k hk => ?_⟩, ?_⟩ (CK_no p9 p10) (CT_no h.2.2.2.2.1 p4 (e 130 (by decide) (by decide) (by decide))))
  · obtain ⟨a1, a2, a3, a4, a5, a6⟩ := f1
    refine ⟨a1, a2, ?_, fun m t hm ht => ?_, ?_, ?_⟩
    · rw [e 47 (by decide) (by decide) (by decide)]; exact a3
    · rw [e _ (by omega) (by omega) (by omega)]; exact a4 m t hm ht
    · rw [e 47 (by decide) (by decide) (by decide)]; exact a5
    · rw [e 47 (by decide) (by decide) (by decide)]; exact a6
  · rw [e 47 (by decide) (by decide) (by decide)]; exact f2
  · show μ1 54 k = 0
    rw [hf 54 (by decide), us_same, if_pos hk]
  · rw [e 46 (by decide) (by decide) (by decide)]; exact f4.1
  · rw [e 55 (by decide) (by decide) (by decide), e 56 (by decide) (by decide) (by decide)]; exact f4.2 k hk
  · obtain ⟨u1, u2⟩ := f5
    refine ⟨?_, fun k hk => ?_⟩
    · rw [e 46 (by decide) (by decide) (by decide)]; exact u1
    · rw [e 57 (by decide) (by decide) (by decide), e 58 (by decide) (by decide) (by decide), e 59 (by decide) (by decide) (by decide)]; exact u2 k hk
theorem rSweep {D : Nat} {x1 x2 : zV} (h : MS θ σ s μ) (hd : 11 ≤ D) (hQ : ∀ μ', ML2 μ μ' → MS θ (sSweep σ) s μ' → Q (some (vi (sm (gY (sG σ)) 480))) θ μ') : Ex D 240 0 [vr 138, x1, x2] [] θ μ Q := by
  have hm := h.1.1
  have hM := h.2.1.2.2.2.2.2
  obtain ⟨y1, y2⟩ := h.2.1.2.1.2.1
  obtain ⟨f1, f2, f3, f4⟩ := h.2.2.1
  obtain ⟨f, hf⟩ : ∃ f, f = gY (sG σ) := ⟨_, rfl⟩
  rw [← hf] at y1 y2 f2 hQ
  have key : ∀ t L μ1, t ≤ 480 → (L = [vr 138, vi (sm f t), vi (t : Nat)] ∧ Fr [178] μ μ1 ∧ (∀ q, q < t → μ1 178 q = 0) ∧ ∀ q, t ≤ q → μ1 178 q = μ 178 q) → Ex D 240 4 L [] θ μ1 Q := by
    refine Ex_loop (I := fun t L μ1 => L = [vr 138, vi (sm f t), vi (t : Nat)] ∧ Fr [178] μ μ1 ∧ (∀ q, q < t → μ1 178 q = 0) ∧ ∀ q, t ≤ q → μ1 178 q = μ 178 q) 480 ?_ ?_
    · rintro t L μ1 ht ⟨rfl, g, z1, z2⟩ hk
      have c1 : ¬ (480 : Int) ≤ (t : Int) := by omega
      have i1 : (0 : Int) ≤ (t : Int) := by omega
      have i2 : (t : Int) < 480 := by omega
      have w1 : t < 2147483647 := by omega
      have p := sm_part (t := t + 1) y1 (by omega)
      have l1 : -2147483648 ≤ sm f t + f t := by have : sm f (t + 1) = sm f t + f t := rfl; omega
      have l2 : sm f t + f t ≤ 2147483647 := by have : sm f (t + 1) = sm f t + f t := rfl; omega
      have et : μ1 178 t = f t := by rw [z2 t (Nat.le_refl _)]; exact f2 t ht
      rw [x240_4]
      simp only [x240_0, x240_1, x240_2, x240_3, x240_5, x240_8, x240_11, x240_12, x240_13, x240_16, x240_17, x240_18, x240_19, x240_20, x240_21, x240_24, x240_25, x240_26, x240_27, x240_30, x240_33, x240_34, ↓reduceIte, Bool.false_eq_true, Nat.reduceAdd, Nat.reduceLT, Nat.reduceLeDiff, Nat.reduceSub, Nat.reduceEqDiff, Int.reduceToNat, Int.reduceEq, Int.reduceLT, Int.reduceLE, Int.reduceAdd, Int.reduceSub, zg, zI, zJ, zR, zst, zkl, zn, zcat, zok, zraw, List.length_cons, List.length_nil, Option.toList, List.nil_append, List.cons_append, true_and, and_true, if_true, if_false, ne_eq, not_true, not_false_eq_true, and_self, true_or, or_true, false_or, or_false, false_and, and_false, b_138 hm, r_138_58 hm, x_178 hm i1 i2, c1, Int.toNat_natCast, et, w32_i l1 l2, w32_s w1, ua_eq]
      refine hk _ _ ⟨rfl, g.trans (Fr.us (by simp) Fr.refl), fun q hq => ?_, fun q hq => ?_⟩
      · rw [us_same]
        by_cases e : q = t
        · rw [zup_same e]
        · rw [zup_ne e]; exact z1 q (by omega)
      · rw [us_same, zup_ne (by omega)]; exact z2 q (by omega)
    · rintro L μ1 ⟨rfl, g, z1, z2⟩
      rw [x240_4]
      simp only [x240_0, x240_1, x240_2, x240_3, x240_5, x240_8, x240_11, x240_12, x240_13, x240_16, x240_17, x240_18, x240_19, x240_20, x240_21, x240_24, x240_25, x240_26, x240_27, x240_30, x240_33, x240_34, ↓reduceIte, Bool.false_eq_true, Nat.reduceAdd, Nat.reduceLT, Nat.reduceLeDiff, Nat.reduceSub, Nat.reduceEqDiff, Int.reduceToNat, Int.reduceEq, Int.reduceLT, Int.reduceLE, Int.reduceAdd, Int.reduceSub, zg, zI, zJ, zR, zst, zkl, zn, zcat, zok, zraw, List.length_cons, List.length_nil, Option.toList, List.nil_append, List.cons_append, true_and, and_true, if_true, if_false, ne_eq, not_true, not_false_eq_true, and_self, true_or, or_true, false_or, or_false, false_and, and_false, show ((480 : Nat) : Int) = 480 from rfl, Int.le_refl]
      have F : Fr [138, 172, 173, 174, 175, 176, 177, 178, 179, 180, 181, 182, 183, 184, 185, 186, 187, 170, 171] μ μ1 := g.mono (by simp)
      refine hQ μ1 (MLe_fr F (by decide)) (MS_set h ⟨Nat.le_refl _, hM⟩ F (fun j _ => by rw [g 138 (by decide)]) (swG_w h.2.1.2.1) ⟨MR_fr f1 g (by decide) (by rw [g 138 (by decide)]), fun k hk => z1 k hk, ⟨by rw [g 138 (by decide)]; exact f3.1, fun k hk => ?_⟩, ?_⟩)
      · rw [g 179 (by decide), g 180 (by decide)]; exact f3.2 k hk
      · obtain ⟨u1, u2⟩ := f4
        exact ⟨by rw [g 138 (by decide)]; exact u1, fun k hk => by rw [g 181 (by decide), g 182 (by decide), g 183 (by decide)]; exact u2 k hk⟩
  simp only [x240_0, x240_1, x240_2, x240_3, x240_5, x240_8, x240_11, x240_12, x240_13, x240_16, x240_17, x240_18, x240_19, x240_20, x240_21, x240_24, x240_25, x240_26, x240_27, x240_30, x240_33, x240_34, ↓reduceIte, Bool.false_eq_true, Nat.reduceAdd, Nat.reduceLT, Nat.reduceLeDiff, Nat.reduceSub, Nat.reduceEqDiff, Int.reduceToNat, Int.reduceEq, Int.reduceLT, Int.reduceLE, Int.reduceAdd, Int.reduceSub, zg, zI, zJ, zR, zst, zkl, zn, zcat, zok, zraw, List.length_cons, List.length_nil, Option.toList, List.nil_append, List.cons_append, true_and, and_true, if_true, if_false, ne_eq, not_true, not_false_eq_true, and_self, true_or, or_true, false_or, or_false, false_and, and_false]
  exact key 0 _ _ (by omega) ⟨rfl, Fr.refl, fun q hq => absurd hq (Nat.not_lt_zero _), fun _ _ => rfl⟩
/-- a scene with other GUSTS ahead -/
def guS (γ : zG) (u : zU) : zG := (gR γ, gY γ, (gC γ, gA γ, gH γ), u)
theorem guS_w {τ : zT} {γ : zG} {B : Nat} {u : zU} (h : wfG τ γ B) (hu : wfU u) : wfG τ (guS γ u) B := ⟨h.1, h.2.1, h.2.2.1, hu⟩
theorem CS_gu {u : zU} {μ' : zM} (h : CS θ T U σ μ) (hf : Fr [46, 57, 58, 59, 104, 122] μ μ') (j : ∀ j, j ≠ 8 → μ' 46 j = μ 46 j) (hu : wfU u) (hU : CU u 46 μ') (p9 : μ' 104 9 = -1) (p10 : μ' 104 10 = -1) (p4 : μ' 122 4 = 0) : CS θ T U (setS σ (guS (sG σ) u) (sM σ)) μ' := by
  have hM := h.2.1.2.2.2.2.2
  obtain ⟨f1, f2, f3, f4, f5⟩ := h.2.2.1
  have e : ∀ a, a ∉ [46, 57, 58, 59, 104, 122] → μ' a = μ a := fun a ha => hf a ha
  refine CS_set h ⟨Nat.le_refl _, hM⟩ (hf.mono (by decide)) (guS_w h.2.1.2.1 hu) ⟨?_, ?_, fun k hk => ?_, ⟨?_, fun k hk => ?_⟩, hU⟩ (CK_no p9 p10) (CT_no h.2.2.2.2.1 p4 (e 130 (by decide)))
  · obtain ⟨a1, a2, a3, a4, a5, a6⟩ := f1
    refine ⟨a1, a2, ?_, fun m t hm ht => ?_, ?_, ?_⟩
    · rw [e 47 (by decide)]; exact a3
    · rw [e (46 + 1 + (m + 2)) (by simp; omega)]; exact a4 m t hm ht
    · rw [e 47 (by decide)]; exact a5
    · rw [e 47 (by decide)]; exact a6
  · rw [e 47 (by decide)]; exact f2
  · rw [e (46 + 8) (by decide)]; exact f3 k hk
  · rw [j 7 (by decide)]; exact f4.1
  · rw [e (46 + 9) (by decide), e (46 + 10) (by decide)]; exact f4.2 k hk
theorem MS_gu {u : zU} {μ' : zM} (h : MS θ σ s μ) (hf : Fr [138, 181, 182, 183] μ μ') (j : ∀ j, j ≠ 62 → μ' 138 j = μ 138 j) (hu : wfU u) (hU : MU u μ') : MS θ (setS σ (guS (sG σ) u) (sM σ)) s μ' := by
  have hM := h.2.1.2.2.2.2.2
  obtain ⟨f1, f2, f3, f4⟩ := h.2.2.1
  refine MS_set h ⟨Nat.le_refl _, hM⟩ (hf.mono (by simp)) (fun i hi => j i (by omega)) (guS_w h.2.1.2.1 hu) ⟨MR_fr f1 hf (by decide) (j 57 (by decide)), fun k hk => ?_, ⟨?_, fun k hk => ?_⟩, hU⟩
  · rw [hf 178 (by decide)]; exact f2 k hk
  · rw [j 59 (by decide)]; exact f3.1
  · rw [hf 179 (by decide), hf 180 (by decide)]; exact f3.2 k hk
/-- calm -/
def sCalm (σ : zSt) : zSt := setS σ (guS (sG σ) (0, (gU (sG σ)).2)) (sM σ)
theorem kCalm {D : Nat} {x1 : zV} (h : CS θ T U σ μ) (hd : 7 ≤ D) (hQ : ∀ μ', CL μ μ' → CS θ T U (sCalm σ) μ' → Q (some (vi ((gU (sG σ)).1 : Nat))) θ μ') : Ex D 127 0 [vr 2, x1] [] θ μ Q := by
  have hc := h.1.1.1
  have hd0 : 0 < D := by omega
  have e8 : μ 46 8 = ((gU (sG σ)).1 : Nat) := h.2.2.1.2.2.2.2.1
  simp only [x127_0, x127_1, x127_4, x127_7, x127_8, x127_9, x127_12, x127_13, x127_16, x127_17, x127_20, x127_21, ↓reduceIte, Bool.false_eq_true, Nat.reduceAdd, Nat.reduceLT, Nat.reduceLeDiff, Nat.reduceSub, Nat.reduceEqDiff, Int.reduceToNat, Int.reduceEq, Int.reduceLT, Int.reduceLE, Int.reduceAdd, Int.reduceSub, zg, zI, zJ, zR, zst, zkl, zn, zcat, zok, zraw, List.length_cons, List.length_nil, Option.toList, List.nil_append, List.cons_append, true_and, and_true, if_true, if_false, ne_eq, not_true, not_false_eq_true, and_self, true_or, or_true, false_or, or_false, false_and, and_false, b_2 hc, r_2_4 hc, b_46 hc, e8, ua_eq, hd0]
  refine cForgetPlans (d := D - 1) hc (by omega) ?_
  intro μ1 hf p9 p10 p4
  simp only [x127_0, x127_1, x127_4, x127_7, x127_8, x127_9, x127_12, x127_13, x127_16, x127_17, x127_20, x127_21, ↓reduceIte, Bool.false_eq_true, Nat.reduceAdd, Nat.reduceLT, Nat.reduceLeDiff, Nat.reduceSub, Nat.reduceEqDiff, Int.reduceToNat, Int.reduceEq, Int.reduceLT, Int.reduceLE, Int.reduceAdd, Int.reduceSub, zg, zI, zJ, zR, zst, zkl, zn, zcat, zok, zraw, List.length_cons, List.length_nil, Option.toList, List.nil_append, List.cons_append, true_and, and_true, if_true, if_false, ne_eq, not_true, not_false_eq_true, and_self, true_or, or_true, false_or, or_false, false_and, and_false]
  have F : Fr [46, 57, 58, 59, 104, 122] μ μ1 := (Fr.us (a := 46) (by simp) Fr.refl : Fr [46, 57, 58, 59, 104, 122] μ (us μ 46 (zup (μ 46) 8 0))).trans (hf.mono (by simp))
  refine hQ μ1 (CL_fr F (by decide)) (CS_gu h F (fun j hj => by rw [hf 46 (by decide), us_same, zup_ne hj]) ⟨Nat.zero_le _, fun k hk => absurd hk (Nat.not_lt_zero _)⟩ ⟨?_, fun k hk => absurd hk (Nat.not_lt_zero _)⟩ p9 p10 p4)
  rw [hf 46 (by decide), us_same, zup_same rfl]; rfl
theorem rCalm {D : Nat} {x1 : zV} (h : MS θ σ s μ) (hQ : ∀ μ', ML2 μ μ' → MS θ (sCalm σ) s μ' → Q (some (vi ((gU (sG σ)).1 : Nat))) θ μ') : Ex D 246 0 [vr 138, x1] [] θ μ Q := by
  have hm := h.1.1
  have e8 : μ 138 62 = ((gU (sG σ)).1 : Nat) := h.2.2.1.2.2.2.1
  simp only [x246_0, x246_1, x246_4, x246_5, x246_6, x246_7, x246_10, x246_11, ↓reduceIte, Bool.false_eq_true, Nat.reduceAdd, Nat.reduceLT, Nat.reduceLeDiff, Nat.reduceSub, Nat.reduceEqDiff, Int.reduceToNat, Int.reduceEq, Int.reduceLT, Int.reduceLE, Int.reduceAdd, Int.reduceSub, zg, zI, zJ, zR, zst, zkl, zn, zcat, zok, zraw, List.length_cons, List.length_nil, Option.toList, List.nil_append, List.cons_append, true_and, and_true, if_true, if_false, ne_eq, not_true, not_false_eq_true, and_self, true_or, or_true, false_or, or_false, false_and, and_false, b_138 hm, e8, ua_eq]
  have F : Fr [138, 181, 182, 183] μ (us μ 138 (zup (μ 138) 62 0)) := Fr.us (by simp) Fr.refl
  refine hQ _ (MLe_fr F (by decide)) (MS_gu h F (fun j hj => by rw [us_same, zup_ne hj]) ⟨Nat.zero_le _, fun k hk => absurd hk (Nat.not_lt_zero _)⟩ ⟨?_, fun k hk => absurd hk (Nat.not_lt_zero _)⟩)
  rw [us_same, zup_same rfl]; rfl
/-- gust -/
def guU (u : zU) (g w t : Int) : zU := (u.1 + 1, zup u.2.1 u.1 g, zup u.2.2.1 u.1 w, zup u.2.2.2 u.1 t)
abbrev okGu (σ : zSt) (g w t : Int) : Prop := (gU (sG σ)).1 < 4 ∧ ((0 ≤ g ∧ g ≤ 99) ∧ (0 ≤ w ∧ w ≤ 3)) ∧ 1 ≤ t ∧ t ≤ 9
def sGust (σ : zSt) (g w t : Int) : zSt := if okGu σ g w t then setS σ (guS (sG σ) (guU (gU (sG σ)) g w t)) (sM σ) else σ
def vGust (σ : zSt) (g w t : Int) : Int := if okGu σ g w t then (((gU (sG σ)).1 : Nat) : Int) else -1
theorem guU_w {u : zU} {g w t : Int} (h : wfU u) (h4 : u.1 < 4) (hg : 0 ≤ g ∧ g ≤ 99) (hw : 0 ≤ w ∧ w ≤ 3) (ht : 1 ≤ t ∧ t ≤ 9) : wfU (guU u g w t) := by
  refine ⟨h4, fun k hk => ?_⟩
  have hk' : k < u.1 + 1 := hk
  show (0 ≤ zup u.2.1 u.1 g k ∧ zup u.2.1 u.1 g k ≤ 99) ∧ (0 ≤ zup u.2.2.1 u.1 w k ∧ zup u.2.2.1 u.1 w k ≤ 3) ∧ 1 ≤ zup u.2.2.2 u.1 t k ∧ zup u.2.2.2 u.1 t k ≤ 9
  by_cases e : k = u.1
  · rw [zup_same e, zup_same e, zup_same e]; exact ⟨hg, hw, ht⟩
  · rw [zup_ne e, zup_ne e, zup_ne e]; exact h.2 k (by omega)
theorem kGust {D : Nat} {g w t : Int} (h : CS θ T U σ μ) (hd : 7 ≤ D) (hQ : ∀ μ', CL μ μ' → CS θ T U (sGust σ g w t) μ' → Q (some (vi (vGust σ g w t))) θ μ') : Ex D 126 0 [vr 2, vi g, vi w, vi t] [] θ μ Q := by
  have hc := h.1.1.1
  have hd0 : 0 < D := by omega
  have hwU := h.2.1.2.1.2.2.2
  obtain ⟨e8, eu⟩ := h.2.2.1.2.2.2.2
  have hno : ¬ okGu σ g w t → Q (some (vi (-1))) θ μ := fun hn => by
    have := hQ μ (fun _ _ => rfl) (by unfold sGust; rw [if_neg hn]; exact h)
    unfold vGust at this
    rwa [if_neg hn] at this
  by_cases q4 : (gU (sG σ)).1 < 4
  · have c4 : ¬ (4 : Int) ≤ (((gU (sG σ)).1 : Nat) : Int) := by omega
    by_cases q0 : 0 ≤ g ∧ g ≤ 99
    · by_cases q1 : 0 ≤ w ∧ w ≤ 3
      · by_cases q2 : t < 1
        · have := hno (fun hh => by have := hh.2.2; omega)
          simp only [x126_0, x126_1, x126_4, x126_7, x126_8, x126_11, x126_12, x126_15, x126_18, x126_19, x126_22, x126_25, x126_26, x126_27, x126_28, x126_29, x126_32, x126_33, x126_35, x126_38, x126_39, x126_40, x126_41, x126_44, x126_47, x126_48, x126_51, x126_54, x126_55, x126_56, x126_57, x126_60, x126_63, x126_64, x126_67, x126_70, x126_71, x126_72, x126_73, x126_76, x126_79, x126_80, x126_83, x126_86, x126_87, x126_88, x126_89, x126_92, x126_93, x126_96, x126_97, x126_98, x126_101, x126_102, x126_105, x126_106, x126_109, x126_112, x126_113, x126_114, ↓reduceIte, Bool.false_eq_true, Nat.reduceAdd, Nat.reduceLT, Nat.reduceLeDiff, Nat.reduceSub, Nat.reduceEqDiff, Int.reduceToNat, Int.reduceEq, Int.reduceLT, Int.reduceLE, Int.reduceAdd, Int.reduceSub, zg, zI, zJ, zR, zst, zkl, zn, zcat, zok, zraw, List.length_cons, List.length_nil, Option.toList, List.nil_append, List.cons_append, true_and, and_true, if_true, if_false, ne_eq, not_true, not_false_eq_true, and_self, true_or, or_true, false_or, or_false, false_and, and_false, b_2 hc, r_2_4 hc, b_46 hc, e8, c4, hd0, cIsGust, cIsWay, q0, q1, q2]
          exact this
        · by_cases q3 : t ≤ 9
          · have ok : okGu σ g w t := ⟨q4, ⟨q0, q1⟩, by omega, q3⟩
            unfold sGust vGust at hQ
            rw [if_pos ok, if_pos ok] at hQ
            obtain ⟨N, hN⟩ : ∃ N, N = (gU (sG σ)).1 := ⟨_, rfl⟩
            rw [← hN] at e8 c4
            have i1 : (0 : Int) ≤ (N : Int) := by omega
            have i2 : (N : Int) < 4 := by omega
            have w1 : N < 2147483647 := by omega
            obtain ⟨μ1, hμ1⟩ : ∃ μ1, μ1 = us (us (us (us μ 57 (zup (μ 57) N g)) 58 (zup (μ 58) N w)) 59 (zup (μ 59) N t)) 46 (zup (μ 46) 8 ((N + 1 : Nat) : Int)) := ⟨_, rfl⟩
            have F1 : Fr [46, 57, 58, 59, 104, 122] μ μ1 := by rw [hμ1]; exact Fr.us (by simp) (Fr.us (by simp) (Fr.us (by simp) (Fr.us (by simp) Fr.refl)))
            have e46 : μ1 46 = zup (μ 46) 8 ((N + 1 : Nat) : Int) := by rw [hμ1, us_same]
            simp only [x126_0, x126_1, x126_4, x126_7, x126_8, x126_11, x126_12, x126_15, x126_18, x126_19, x126_22, x126_25, x126_26, x126_27, x126_28, x126_29, x126_32, x126_33, x126_35, x126_38, x126_39, x126_40, x126_41, x126_44, x126_47, x126_48, x126_51, x126_54, x126_55, x126_56, x126_57, x126_60, x126_63, x126_64, x126_67, x126_70, x126_71, x126_72, x126_73, x126_76, x126_79, x126_80, x126_83, x126_86, x126_87, x126_88, x126_89, x126_92, x126_93, x126_96, x126_97, x126_98, x126_101, x126_102, x126_105, x126_106, x126_109, x126_112, x126_113, x126_114, ↓reduceIte, Bool.false_eq_true, Nat.reduceAdd, Nat.reduceLT, Nat.reduceLeDiff, Nat.reduceSub, Nat.reduceEqDiff, Int.reduceToNat, Int.reduceEq, Int.reduceLT, Int.reduceLE, Int.reduceAdd, Int.reduceSub, zg, zI, zJ, zR, zst, zkl, zn, zcat, zok, zraw, List.length_cons, List.length_nil, Option.toList, List.nil_append, List.cons_append, true_and, and_true, if_true, if_false, ne_eq, not_true, not_false_eq_true, and_self, true_or, or_true, false_or, or_false, false_and, and_false, b_2 hc, r_2_4 hc, b_46 hc, r_46_4 hc, r_46_5 hc, r_46_6 hc, x_57 hc i1 i2, x_58 hc i1 i2, x_59 hc i1 i2, e8, c4, hd0, cIsGust, cIsWay, q0, q1, q2, q3, Int.toNat_natCast, ua_eq, us_ne (show (46 : Nat) ≠ 57 by decide), us_ne (show (46 : Nat) ≠ 58 by decide), us_ne (show (46 : Nat) ≠ 59 by decide), us_ne (show (58 : Nat) ≠ 57 by decide), us_ne (show (59 : Nat) ≠ 57 by decide), us_ne (show (59 : Nat) ≠ 58 by decide), w32_s w1, ← hμ1]
            refine cForgetPlans (d := D - 1) hc (by omega) ?_
            intro μ2 hf p9 p10 p4
            have e46' : μ2 46 8 = ((N + 1 : Nat) : Int) := by rw [hf 46 (by decide), e46, zup_same rfl]
            have F : Fr [46, 57, 58, 59, 104, 122] μ μ2 := F1.trans (hf.mono (by simp))
            have fin := hQ μ2 (CL_fr F (by decide)) (CS_gu h F (fun j hj => by rw [hf 46 (by decide), e46, zup_ne hj]) (guU_w hwU q4 q0 q1 (by omega)) ⟨?_, fun k hk => ?_⟩ p9 p10 p4)
            · rw [← hN] at fin
              have ew : w32 (((N + 1 : Nat) : Int) - 1) = (N : Int) := by rw [w32_i (by omega) (by omega)]; omega
              simp only [x126_0, x126_1, x126_4, x126_7, x126_8, x126_11, x126_12, x126_15, x126_18, x126_19, x126_22, x126_25, x126_26, x126_27, x126_28, x126_29, x126_32, x126_33, x126_35, x126_38, x126_39, x126_40, x126_41, x126_44, x126_47, x126_48, x126_51, x126_54, x126_55, x126_56, x126_57, x126_60, x126_63, x126_64, x126_67, x126_70, x126_71, x126_72, x126_73, x126_76, x126_79, x126_80, x126_83, x126_86, x126_87, x126_88, x126_89, x126_92, x126_93, x126_96, x126_97, x126_98, x126_101, x126_102, x126_105, x126_106, x126_109, x126_112, x126_113, x126_114, ↓reduceIte, Bool.false_eq_true, Nat.reduceAdd, Nat.reduceLT, Nat.reduceLeDiff, Nat.reduceSub, Nat.reduceEqDiff, Int.reduceToNat, Int.reduceEq, Int.reduceLT, Int.reduceLE, Int.reduceAdd, Int.reduceSub, zg, zI, zJ, zR, zst, zkl, zn, zcat, zok, zraw, List.length_cons, List.length_nil, Option.toList, List.nil_append, List.cons_append, true_and, and_true, if_true, if_false, ne_eq, not_true, not_false_eq_true, and_self, true_or, or_true, false_or, or_false, false_and, and_false, b_2 hc, r_2_4 hc, b_46 hc, e46', ew]
              exact fin
            · rw [e46', hN]; rfl
            · have hk' : k < (gU (sG σ)).1 + 1 := hk
              show μ2 57 k = zup (gU (sG σ)).2.1 (gU (sG σ)).1 g k ∧ μ2 58 k = zup (gU (sG σ)).2.2.1 (gU (sG σ)).1 w k ∧ μ2 59 k = zup (gU (sG σ)).2.2.2 (gU (sG σ)).1 t k
              rw [hf 57 (by decide), hf 58 (by decide), hf 59 (by decide), hμ1, us_ne (by decide), us_ne (by decide), us_ne (by decide), us_same, us_ne (by decide), us_ne (by decide), us_same, us_ne (by decide), us_same, ← hN]
              by_cases e0 : k = N
              · rw [zup_same e0, zup_same e0, zup_same e0, zup_same e0, zup_same e0, zup_same e0]; exact ⟨rfl, rfl, rfl⟩
              · rw [zup_ne e0, zup_ne e0, zup_ne e0, zup_ne e0, zup_ne e0, zup_ne e0]; exact eu k (by omega)
          · have := hno (fun hh => by have := hh.2.2; omega)
            simp only [x126_0, x126_1, x126_4, x126_7, x126_8, x126_11, x126_12, x126_15, x126_18, x126_19, x126_22, x126_25, x126_26, x126_27, x126_28, x126_29, x126_32, x126_33, x126_35, x126_38, x126_39, x126_40, x126_41, x126_44, x126_47, x126_48, x126_51, x126_54, x126_55, x126_56, x126_57, x126_60, x126_63, x126_64, x126_67, x126_70, x126_71, x126_72, x126_73, x126_76, x126_79, x126_80, x126_83, x126_86, x126_87, x126_88, x126_89, x126_92, x126_93, x126_96, x126_97, x126_98, x126_101, x126_102, x126_105, x126_106, x126_109, x126_112, x126_113, x126_114, ↓reduceIte, Bool.false_eq_true, Nat.reduceAdd, Nat.reduceLT, Nat.reduceLeDiff, Nat.reduceSub, Nat.reduceEqDiff, Int.reduceToNat, Int.reduceEq, Int.reduceLT, Int.reduceLE, Int.reduceAdd, Int.reduceSub, zg, zI, zJ, zR, zst, zkl, zn, zcat, zok, zraw, List.length_cons, List.length_nil, Option.toList, List.nil_append, List.cons_append, true_and, and_true, if_true, if_false, ne_eq, not_true, not_false_eq_true, and_self, true_or, or_true, false_or, or_false, false_and, and_false, b_2 hc, r_2_4 hc, b_46 hc, e8, c4, hd0, cIsGust, cIsWay, q0, q1, q2, q3]
            exact this
      · have := hno (fun hh => q1 hh.2.1.2)
        simp only [x126_0, x126_1, x126_4, x126_7, x126_8, x126_11, x126_12, x126_15, x126_18, x126_19, x126_22, x126_25, x126_26, x126_27, x126_28, x126_29, x126_32, x126_33, x126_35, x126_38, x126_39, x126_40, x126_41, x126_44, x126_47, x126_48, x126_51, x126_54, x126_55, x126_56, x126_57, x126_60, x126_63, x126_64, x126_67, x126_70, x126_71, x126_72, x126_73, x126_76, x126_79, x126_80, x126_83, x126_86, x126_87, x126_88, x126_89, x126_92, x126_93, x126_96, x126_97, x126_98, x126_101, x126_102, x126_105, x126_106, x126_109, x126_112, x126_113, x126_114, ↓reduceIte, Bool.false_eq_true, Nat.reduceAdd, Nat.reduceLT, Nat.reduceLeDiff, Nat.reduceSub, Nat.reduceEqDiff, Int.reduceToNat, Int.reduceEq, Int.reduceLT, Int.reduceLE, Int.reduceAdd, Int.reduceSub, zg, zI, zJ, zR, zst, zkl, zn, zcat, zok, zraw, List.length_cons, List.length_nil, Option.toList, List.nil_append, List.cons_append, true_and, and_true, if_true, if_false, ne_eq, not_true, not_false_eq_true, and_self, true_or, or_true, false_or, or_false, false_and, and_false, b_2 hc, r_2_4 hc, b_46 hc, e8, c4, hd0, cIsGust, cIsWay, q0, if_neg q1]
        exact this
    · have := hno (fun hh => q0 hh.2.1.1)
      simp only [x126_0, x126_1, x126_4, x126_7, x126_8, x126_11, x126_12, x126_15, x126_18, x126_19, x126_22, x126_25, x126_26, x126_27, x126_28, x126_29, x126_32, x126_33, x126_35, x126_38, x126_39, x126_40, x126_41, x126_44, x126_47, x126_48, x126_51, x126_54, x126_55, x126_56, x126_57, x126_60, x126_63, x126_64, x126_67, x126_70, x126_71, x126_72, x126_73, x126_76, x126_79, x126_80, x126_83, x126_86, x126_87, x126_88, x126_89, x126_92, x126_93, x126_96, x126_97, x126_98, x126_101, x126_102, x126_105, x126_106, x126_109, x126_112, x126_113, x126_114, ↓reduceIte, Bool.false_eq_true, Nat.reduceAdd, Nat.reduceLT, Nat.reduceLeDiff, Nat.reduceSub, Nat.reduceEqDiff, Int.reduceToNat, Int.reduceEq, Int.reduceLT, Int.reduceLE, Int.reduceAdd, Int.reduceSub, zg, zI, zJ, zR, zst, zkl, zn, zcat, zok, zraw, List.length_cons, List.length_nil, Option.toList, List.nil_append, List.cons_append, true_and, and_true, if_true, if_false, ne_eq, not_true, not_false_eq_true, and_self, true_or, or_true, false_or, or_false, false_and, and_false, b_2 hc, r_2_4 hc, b_46 hc, e8, c4, hd0, cIsGust, if_neg q0]
      exact this
  · have := hno (fun hh => q4 hh.1)
    have c4 : (4 : Int) ≤ (((gU (sG σ)).1 : Nat) : Int) := by omega
    simp only [x126_0, x126_1, x126_4, x126_7, x126_8, x126_11, x126_12, x126_15, x126_18, x126_19, x126_22, x126_25, x126_26, x126_27, x126_28, x126_29, x126_32, x126_33, x126_35, x126_38, x126_39, x126_40, x126_41, x126_44, x126_47, x126_48, x126_51, x126_54, x126_55, x126_56, x126_57, x126_60, x126_63, x126_64, x126_67, x126_70, x126_71, x126_72, x126_73, x126_76, x126_79, x126_80, x126_83, x126_86, x126_87, x126_88, x126_89, x126_92, x126_93, x126_96, x126_97, x126_98, x126_101, x126_102, x126_105, x126_106, x126_109, x126_112, x126_113, x126_114, ↓reduceIte, Bool.false_eq_true, Nat.reduceAdd, Nat.reduceLT, Nat.reduceLeDiff, Nat.reduceSub, Nat.reduceEqDiff, Int.reduceToNat, Int.reduceEq, Int.reduceLT, Int.reduceLE, Int.reduceAdd, Int.reduceSub, zg, zI, zJ, zR, zst, zkl, zn, zcat, zok, zraw, List.length_cons, List.length_nil, Option.toList, List.nil_append, List.cons_append, true_and, and_true, if_true, if_false, ne_eq, not_true, not_false_eq_true, and_self, true_or, or_true, false_or, or_false, false_and, and_false, b_2 hc, r_2_4 hc, b_46 hc, e8, c4]
    exact this
theorem rGust {D : Nat} {g w t : Int} (h : MS θ σ s μ) (hd : 11 ≤ D) (hQ : ∀ μ', ML2 μ μ' → MS θ (sGust σ g w t) s μ' → Q (some (vi (vGust σ g w t))) θ μ') : Ex D 245 0 [vr 138, vi g, vi w, vi t] [] θ μ Q := by
  have hm := h.1.1
  have hd0 : 0 < D := by omega
  have hd1 : 0 < D - 1 := by omega
  have hwU := h.2.1.2.1.2.2.2
  obtain ⟨e8, eu⟩ := h.2.2.1.2.2.2
  have hno : ¬ okGu σ g w t → Q (some (vi (-1))) θ μ := fun hn => by
    have := hQ μ (fun _ _ => rfl) (by unfold sGust; rw [if_neg hn]; exact h)
    unfold vGust at this
    rwa [if_neg hn] at this
  by_cases q4 : (gU (sG σ)).1 < 4
  · have c4 : ¬ (((gU (sG σ)).1 : Nat) : Int) = 4 := by omega
    by_cases q0 : (0 ≤ g ∧ g ≤ 99) ∧ (0 ≤ w ∧ w ≤ 3)
    · by_cases q2 : 1 ≤ t ∧ t ≤ 9
      · have ok : okGu σ g w t := ⟨q4, q0, q2⟩
        unfold sGust vGust at hQ
        rw [if_pos ok, if_pos ok] at hQ
        obtain ⟨N, hN⟩ : ∃ N, N = (gU (sG σ)).1 := ⟨_, rfl⟩
        rw [← hN] at e8 c4
        have i1 : (0 : Int) ≤ (N : Int) := by omega
        have i2 : (N : Int) < 4 := by omega
        have w1 : N < 2147483647 := by omega
        obtain ⟨μ1, hμ1⟩ : ∃ μ1, μ1 = us (us (us (us μ 181 (zup (μ 181) N g)) 182 (zup (μ 182) N w)) 183 (zup (μ 183) N t)) 138 (zup (μ 138) 62 ((N + 1 : Nat) : Int)) := ⟨_, rfl⟩
        have F : Fr [138, 181, 182, 183] μ μ1 := by rw [hμ1]; exact Fr.us (by simp) (Fr.us (by simp) (Fr.us (by simp) (Fr.us (by simp) Fr.refl)))
        have e62 : μ1 138 62 = ((N + 1 : Nat) : Int) := by rw [hμ1, us_same, zup_same rfl]
        have fin := hQ μ1 (MLe_fr F (by decide)) (MS_gu h F (fun j hj => by rw [hμ1, us_same, zup_ne hj]) (guU_w hwU q4 q0.1 q0.2 q2) ⟨?_, fun k hk => ?_⟩)
        · rw [← hN] at fin
          have ew : w32 (((N + 1 : Nat) : Int) - 1) = (N : Int) := by rw [w32_i (by omega) (by omega)]; omega
          simp only [x245_0, x245_1, x245_4, x245_5, x245_8, x245_9, x245_10, x245_13, x245_16, x245_17, x245_18, x245_20, x245_23, x245_26, x245_27, x245_28, x245_29, x245_32, x245_33, x245_36, x245_37, x245_38, x245_39, x245_42, x245_43, x245_46, x245_47, x245_48, x245_49, x245_52, x245_53, x245_56, x245_57, x245_58, x245_59, x245_60, x245_63, x245_64, x245_65, x245_68, x245_69, x245_72, x245_73, x245_74, ↓reduceIte, Bool.false_eq_true, Nat.reduceAdd, Nat.reduceLT, Nat.reduceLeDiff, Nat.reduceSub, Nat.reduceEqDiff, Int.reduceToNat, Int.reduceEq, Int.reduceLT, Int.reduceLE, Int.reduceAdd, Int.reduceSub, zg, zI, zJ, zR, zst, zkl, zn, zcat, zok, zraw, List.length_cons, List.length_nil, Option.toList, List.nil_append, List.cons_append, true_and, and_true, if_true, if_false, ne_eq, not_true, not_false_eq_true, and_self, true_or, or_true, false_or, or_false, false_and, and_false, b_138 hm, r_138_63 hm, r_138_64 hm, r_138_65 hm, x_181 hm i1 i2, x_182 hm i1 i2, x_183 hm i1 i2, e8, c4, hd0, mIsGust _ hd1, if_pos q0, mIn, if_pos q2, Int.toNat_natCast, ua_eq, us_ne (show (138 : Nat) ≠ 181 by decide), us_ne (show (138 : Nat) ≠ 182 by decide), us_ne (show (138 : Nat) ≠ 183 by decide), us_ne (show (182 : Nat) ≠ 181 by decide), us_ne (show (183 : Nat) ≠ 181 by decide), us_ne (show (183 : Nat) ≠ 182 by decide), w32_s w1, ← hμ1, e62, ew]
          exact fin
        · rw [e62, hN]; rfl
        · have hk' : k < (gU (sG σ)).1 + 1 := hk
          show μ1 181 k = zup (gU (sG σ)).2.1 (gU (sG σ)).1 g k ∧ μ1 182 k = zup (gU (sG σ)).2.2.1 (gU (sG σ)).1 w k ∧ μ1 183 k = zup (gU (sG σ)).2.2.2 (gU (sG σ)).1 t k
          rw [hμ1, us_ne (by decide), us_ne (by decide), us_ne (by decide), us_same, us_ne (by decide), us_ne (by decide), us_same, us_ne (by decide), us_same, ← hN]
          by_cases e0 : k = N
          · rw [zup_same e0, zup_same e0, zup_same e0, zup_same e0, zup_same e0, zup_same e0]; exact ⟨rfl, rfl, rfl⟩
          · rw [zup_ne e0, zup_ne e0, zup_ne e0, zup_ne e0, zup_ne e0, zup_ne e0]; exact eu k (by omega)
      · have := hno (fun hh => q2 hh.2.2)
        simp only [x245_0, x245_1, x245_4, x245_5, x245_8, x245_9, x245_10, x245_13, x245_16, x245_17, x245_18, x245_20, x245_23, x245_26, x245_27, x245_28, x245_29, x245_32, x245_33, x245_36, x245_37, x245_38, x245_39, x245_42, x245_43, x245_46, x245_47, x245_48, x245_49, x245_52, x245_53, x245_56, x245_57, x245_58, x245_59, x245_60, x245_63, x245_64, x245_65, x245_68, x245_69, x245_72, x245_73, x245_74, ↓reduceIte, Bool.false_eq_true, Nat.reduceAdd, Nat.reduceLT, Nat.reduceLeDiff, Nat.reduceSub, Nat.reduceEqDiff, Int.reduceToNat, Int.reduceEq, Int.reduceLT, Int.reduceLE, Int.reduceAdd, Int.reduceSub, zg, zI, zJ, zR, zst, zkl, zn, zcat, zok, zraw, List.length_cons, List.length_nil, Option.toList, List.nil_append, List.cons_append, true_and, and_true, if_true, if_false, ne_eq, not_true, not_false_eq_true, and_self, true_or, or_true, false_or, or_false, false_and, and_false, b_138 hm, e8, c4, hd0, mIsGust _ hd1, if_pos q0, mIn, if_neg q2]
        exact this
    · have := hno (fun hh => q0 hh.2.1)
      simp only [x245_0, x245_1, x245_4, x245_5, x245_8, x245_9, x245_10, x245_13, x245_16, x245_17, x245_18, x245_20, x245_23, x245_26, x245_27, x245_28, x245_29, x245_32, x245_33, x245_36, x245_37, x245_38, x245_39, x245_42, x245_43, x245_46, x245_47, x245_48, x245_49, x245_52, x245_53, x245_56, x245_57, x245_58, x245_59, x245_60, x245_63, x245_64, x245_65, x245_68, x245_69, x245_72, x245_73, x245_74, ↓reduceIte, Bool.false_eq_true, Nat.reduceAdd, Nat.reduceLT, Nat.reduceLeDiff, Nat.reduceSub, Nat.reduceEqDiff, Int.reduceToNat, Int.reduceEq, Int.reduceLT, Int.reduceLE, Int.reduceAdd, Int.reduceSub, zg, zI, zJ, zR, zst, zkl, zn, zcat, zok, zraw, List.length_cons, List.length_nil, Option.toList, List.nil_append, List.cons_append, true_and, and_true, if_true, if_false, ne_eq, not_true, not_false_eq_true, and_self, true_or, or_true, false_or, or_false, false_and, and_false, b_138 hm, e8, c4, hd0, mIsGust _ hd1, if_neg q0]
      exact this
  · have := hno (fun hh => q4 hh.1)
    have c4 : (((gU (sG σ)).1 : Nat) : Int) = 4 := by have := hwU.1; omega
    simp only [x245_0, x245_1, x245_4, x245_5, x245_8, x245_9, x245_10, x245_13, x245_16, x245_17, x245_18, x245_20, x245_23, x245_26, x245_27, x245_28, x245_29, x245_32, x245_33, x245_36, x245_37, x245_38, x245_39, x245_42, x245_43, x245_46, x245_47, x245_48, x245_49, x245_52, x245_53, x245_56, x245_57, x245_58, x245_59, x245_60, x245_63, x245_64, x245_65, x245_68, x245_69, x245_72, x245_73, x245_74, ↓reduceIte, Bool.false_eq_true, Nat.reduceAdd, Nat.reduceLT, Nat.reduceLeDiff, Nat.reduceSub, Nat.reduceEqDiff, Int.reduceToNat, Int.reduceEq, Int.reduceLT, Int.reduceLE, Int.reduceAdd, Int.reduceSub, zg, zI, zJ, zR, zst, zkl, zn, zcat, zok, zraw, List.length_cons, List.length_nil, Option.toList, List.nil_append, List.cons_append, true_and, and_true, if_true, if_false, ne_eq, not_true, not_false_eq_true, and_self, true_or, or_true, false_or, or_false, false_and, and_false, b_138 hm, e8, c4]
    exact this
end SW
