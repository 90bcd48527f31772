/-! CALLS: blow -/
section BL
variable {θ : zS} {T U : Nat} {σ : zSt} {Q : Option zV → zS → zM → Prop} {μ : zM} {s : Nat} {τ : zT} {ρ : zF} {g w : Int}
def blG (τ : zT) (γ : zG) (g w : Int) : zG := (loF (gR γ) (alO τ (gR γ) g w (gnO τ (gR γ))), fun k => gY γ k + lyO τ (gR γ) g w k, (gC γ, gA γ, fun j => gH γ j + hiO τ (gR γ) g w (gA γ j)), gU γ)
def sBlow (σ : zSt) (g w : Int) : zSt := if (0 ≤ g ∧ g ≤ 99) ∧ (0 ≤ w ∧ w ≤ 3) then setS σ (blG (sT σ) (sG σ) g w) (sM σ + 36) else σ
def vBlow (σ : zSt) (g w : Int) : Int := if (0 ≤ g ∧ g ≤ 99) ∧ (0 ≤ w ∧ w ≤ 3) then faO (sT σ) (gR (sG σ)) g w else -1
theorem sm_eq1 (a : Nat) : ∀ n, sm (fun k => if a = k then 1 else 0) n ≤ 1 ∧ (n ≤ a → sm (fun k => if a = k then 1 else 0) n = 0) := by
  intro n
  induction n with
  | zero => exact ⟨(by show (0 : Int) ≤ 1; decide), fun _ => rfl⟩
  | succ n ih =>
    simp only [sm]
    by_cases e : a = n
    · rw [if_pos e]
      have := ih.2 (by omega)
      exact ⟨by omega, fun h => by omega⟩
    · rw [if_neg e]
      exact ⟨by have := ih.1; omega, fun h => by have := ih.2 (by omega); omega⟩
theorem lyC_sum (c : Nat → Int) : ∀ n, sm (lyC n c) 480 ≤ n := by
  intro n
  induction n with
  | zero =>
    have : sm (lyC 0 c) 480 = sm (fun _ => 0) 480 := sm_congr (fun _ _ => rfl)
    rw [this, sm_zero]; exact Int.le_refl _
  | succ n ih =>
    have : sm (lyC (n + 1) c) 480 = sm (fun k => lyC n c k + (if ixO (c n) = k then 1 else 0)) 480 := sm_congr (fun _ _ => rfl)
    rw [this, sm_add]
    have h1 := (sm_eq1 (ixO (c n)) 480).1
    have h2 : sm (fun i => lyC n c i) 480 = sm (lyC n c) 480 := rfl
    rw [h2]
    omega
theorem ly_36 (hw : wfT τ) : (∀ k, 0 ≤ lyO τ ρ g w k ∧ lyO τ ρ g w k ≤ 36) ∧ sm (lyO τ ρ g w) 480 ≤ 36 ∧ ∀ x, 0 ≤ hiO τ ρ g w x ∧ hiO τ ρ g w x ≤ 36 := by
  have hn := tn_b hw
  have hb := fo_b (τ := τ) (ρ := ρ) (g := g) (w := w) (l0 := gnO τ ρ) hn.2 (gn_z τ ρ)
  have e1 : lyO τ ρ g w = lyC (foO τ ρ g w (gnO τ ρ)) (cAt2 τ ρ g w) := funext ly_eq
  have e2 : ∀ x, hiO τ ρ g w x = hiC (foO τ ρ g w (gnO τ ρ)) (cAt2 τ ρ g w) x := hi_eq
  rw [e1]
  generalize foO τ ρ g w (gnO τ ρ) = n at hb e2 ⊢
  generalize cAt2 τ ρ g w = c at e2 ⊢
  refine ⟨fun k => ?_, ?_, fun x => ?_⟩
  · have := ly_b (n := n) (m := n) (c := c) (k := k)
    unfold lyC; omega
  · have := lyC_sum c n; omega
  · rw [e2]
    have := hi_b (m := n) (c := c) (x := x)
    unfold hiC; omega
theorem blG_w {γ : zG} {B : Nat} (hw : wfT τ) (h : wfG τ γ B) : wfG τ (blG τ γ g w) (B + 36) := by
  obtain ⟨h1, ⟨h2, h3⟩, ⟨h4, h5⟩, h6⟩ := h
  obtain ⟨l1, l2, l3⟩ := ly_36 (ρ := gR γ) (g := g) (w := w) hw
  refine ⟨loF_w h1, ⟨fun k hk => ?_, ?_⟩, ⟨h4, fun k hk => ?_⟩, h6⟩
  · have := h2 k hk; have := (l1 k).1
    show 0 ≤ gY γ k + lyO τ (gR γ) g w k
    omega
  · show sm (fun k => gY γ k + lyO τ (gR γ) g w k) 480 ≤ _
    rw [sm_add]
    have e : sm (fun i => gY γ i) 480 = sm (gY γ) 480 := rfl
    have e' : sm (fun i => lyO τ (gR γ) g w i) 480 = sm (lyO τ (gR γ) g w) 480 := rfl
    rw [e, e']; omega
  · have := h5 k hk; have := l3 (gA γ k)
    refine ⟨(h5 k hk).1, ?_, ?_⟩
    · show 0 ≤ gH γ k + hiO τ (gR γ) g w (gA γ k); omega
    · show gH γ k + hiO τ (gR γ) g w (gA γ k) ≤ _; omega
/-- one comes down -/
theorem cStrike {d C : Nat} {c : Int} {Y A H : Nat → Int} {x3 : zV} (hc : Tc θ) (hcl : clI c) (hY : ∀ k, k < 480 → μ 54 k = Y k) (hYb : ∀ k, k < 480 → 0 ≤ Y k ∧ Y k ≤ 1000000) (hC : C ≤ 8) (h7 : μ 46 7 = (C : Nat)) (hA : ∀ k, k < C → μ 55 k = A k ∧ μ 56 k = H k) (hHb : ∀ k, k < C → 0 ≤ H k ∧ H k ≤ 1000000)
    (hQ : ∀ μ', Fr [54, 56] μ μ' → (∀ k, k < 480 → μ' 54 k = Y k + (if ixO c = k then 1 else 0)) → (∀ k, k < C → μ' 56 k = H k + (if c = A k then 1 else 0)) → Q none θ μ') : Ex d 70 0 [vr 46, vi c, vi (ixO c : Nat), x3] [] θ μ Q := by
  have hb := (ix_b hcl).1
  obtain ⟨K, hK⟩ : ∃ K, K = ixO c := ⟨_, rfl⟩
  rw [← hK] at hb hQ ⊢
  have j1 : (0 : Int) ≤ (K : Int) := by omega
  have j2 : (K : Int) < 480 := by omega
  have c0 : ¬ (K : Int) < 0 := by omega
  have eY := hY K hb
  have bY := hYb K hb
  have l1 : -2147483648 ≤ Y K + 1 := by omega
  have l2 : Y K + 1 ≤ 2147483647 := by omega
  have key : ∀ t L μ1, t ≤ C → (L = [vr 46, vi c, vi (K : Nat), vi (t : Nat)] ∧ Fr [56] (us μ 54 (zup (μ 54) K (Y K + 1))) μ1 ∧ ∀ k, k < C → μ1 56 k = H k + (if k < t ∧ c = A k then 1 else 0)) → Ex d 70 24 L [] θ μ1 Q := by
    refine Ex_loop (I := fun t L μ1 => L = [vr 46, vi c, vi (K : Nat), vi (t : Nat)] ∧ Fr [56] (us μ 54 (zup (μ 54) K (Y K + 1))) μ1 ∧ ∀ k, k < C → μ1 56 k = H k + (if k < t ∧ c = A k then 1 else 0)) C ?_ ?_
    · rintro t L μ1 ht ⟨rfl, f, hk0⟩ hk
      have e7 : μ1 46 7 = (C : Nat) := by rw [f 46 (by decide), us_ne (by decide)]; exact h7
      have e55 : μ1 55 t = A t := by rw [f 55 (by decide), us_ne (by decide)]; exact (hA t ht).1
      have e56 : μ1 56 t = H t := by rw [hk0 t ht, if_neg (fun hh => by omega), Int.add_zero]
      have bH := hHb t ht
      have c1 : ¬ ((C : Nat) : Int) ≤ (t : Int) := by omega
      have i1 : (0 : Int) ≤ (t : Int) := by omega
      have i2 : (t : Int) < 8 := by omega
      have w1 : t < 2147483647 := by omega
      rw [x70_24]
      by_cases e : A t = c
      · have m1 : -2147483648 ≤ H t + 1 := by omega
        have m2 : H t + 1 ≤ 2147483647 := by omega
        simp only [x70_0, x70_1, x70_4, x70_5, x70_8, x70_11, x70_12, x70_13, x70_16, x70_17, x70_18, x70_19, x70_20, x70_21, x70_22, x70_23, x70_25, x70_26, x70_29, x70_32, x70_33, x70_36, x70_37, x70_38, x70_39, x70_42, x70_43, x70_46, x70_47, x70_48, x70_49, x70_50, x70_51, x70_52, x70_55, x70_58, ↓reduceIte, Bool.false_eq_true, Nat.reduceAdd, Nat.reduceLT, Nat.reduceLeDiff, Nat.reduceSub, Nat.reduceEqDiff, Int.reduceToNat, Int.reduceEq, Int.reduceLT, Int.reduceLE, Int.reduceAdd, Int.reduceSub, zg, zI, zJ, zR, zst, zkl, zn, zcat, zok, zraw, List.length_cons, List.length_nil, Option.toList, List.nil_append, List.cons_append, true_and, and_true, if_true, if_false, ne_eq, not_true, not_false_eq_true, and_self, true_or, or_true, false_or, or_false, false_and, and_false, b_46 hc, r_46_2 hc, r_46_3 hc, e7, c1, x_55 hc i1 i2, x_56 hc i1 i2, Int.toNat_natCast, e55, e, e56, w32_i m1 m2, w32_s w1, ua_eq]
        refine hk _ _ ⟨rfl, f.trans (Fr.us (by simp) Fr.refl), fun k hk2 => ?_⟩
        rw [us_same]
        by_cases ek : k = t
        · rw [zup_same ek, ek, if_pos ⟨by omega, e.symm⟩]
        · rw [zup_ne ek, hk0 k hk2]
          by_cases e3 : k < t ∧ c = A k
          · rw [if_pos e3, if_pos ⟨by omega, e3.2⟩]
          · rw [if_neg e3, if_neg (fun hh => e3 ⟨by omega, hh.2⟩)]
      · simp only [x70_0, x70_1, x70_4, x70_5, x70_8, x70_11, x70_12, x70_13, x70_16, x70_17, x70_18, x70_19, x70_20, x70_21, x70_22, x70_23, x70_25, x70_26, x70_29, x70_32, x70_33, x70_36, x70_37, x70_38, x70_39, x70_42, x70_43, x70_46, x70_47, x70_48, x70_49, x70_50, x70_51, x70_52, x70_55, x70_58, ↓reduceIte, Bool.false_eq_true, Nat.reduceAdd, Nat.reduceLT, Nat.reduceLeDiff, Nat.reduceSub, Nat.reduceEqDiff, Int.reduceToNat, Int.reduceEq, Int.reduceLT, Int.reduceLE, Int.reduceAdd, Int.reduceSub, zg, zI, zJ, zR, zst, zkl, zn, zcat, zok, zraw, List.length_cons, List.length_nil, Option.toList, List.nil_append, List.cons_append, true_and, and_true, if_true, if_false, ne_eq, not_true, not_false_eq_true, and_self, true_or, or_true, false_or, or_false, false_and, and_false, b_46 hc, r_46_2 hc, e7, c1, x_55 hc i1 i2, Int.toNat_natCast, e55, e, w32_s w1]
        refine hk _ _ ⟨rfl, f, fun k hk2 => ?_⟩
        rw [hk0 k hk2]
        by_cases e3 : k < t ∧ c = A k
        · rw [if_pos e3, if_pos ⟨by omega, e3.2⟩]
        · rw [if_neg e3, if_neg (fun hh => e3 ⟨Nat.lt_of_le_of_ne (Nat.le_of_lt_succ hh.1) (fun q => e (by rw [← q]; exact hh.2.symm)), hh.2⟩)]
    · rintro L μ1 ⟨rfl, f, hk0⟩
      have e7 : μ1 46 7 = (C : Nat) := by rw [f 46 (by decide), us_ne (by decide)]; exact h7
      rw [x70_24]
      simp only [x70_0, x70_1, x70_4, x70_5, x70_8, x70_11, x70_12, x70_13, x70_16, x70_17, x70_18, x70_19, x70_20, x70_21, x70_22, x70_23, x70_25, x70_26, x70_29, x70_32, x70_33, x70_36, x70_37, x70_38, x70_39, x70_42, x70_43, x70_46, x70_47, x70_48, x70_49, x70_50, x70_51, x70_52, x70_55, x70_58, ↓reduceIte, Bool.false_eq_true, Nat.reduceAdd, Nat.reduceLT, Nat.reduceLeDiff, Nat.reduceSub, Nat.reduceEqDiff, Int.reduceToNat, Int.reduceEq, Int.reduceLT, Int.reduceLE, Int.reduceAdd, Int.reduceSub, zg, zI, zJ, zR, zst, zkl, zn, zcat, zok, zraw, List.length_cons, List.length_nil, Option.toList, List.nil_append, List.cons_append, true_and, and_true, if_true, if_false, ne_eq, not_true, not_false_eq_true, and_self, true_or, or_true, false_or, or_false, false_and, and_false, b_46 hc, e7, Int.le_refl]
      refine hQ μ1 ((Fr.us (a := 54) (by simp) Fr.refl : Fr [54, 56] μ (us μ 54 (zup (μ 54) K (Y K + 1)))).trans (f.mono (by simp))) (fun k hk480 => ?_) (fun k hk2 => ?_)
      · rw [f 54 (by decide), us_same]
        by_cases e : k = K
        · rw [zup_same e, e, if_pos rfl]
        · rw [zup_ne e, if_neg (fun hh => e hh.symm), Int.add_zero]; exact hY k hk480
      · rw [hk0 k hk2]
        by_cases e3 : c = A k
        · rw [if_pos e3, if_pos ⟨hk2, e3⟩]
        · rw [if_neg e3, if_neg (fun hh => e3 hh.2)]
  simp only [x70_0, x70_1, x70_4, x70_5, x70_8, x70_11, x70_12, x70_13, x70_16, x70_17, x70_18, x70_19, x70_20, x70_21, x70_22, x70_23, x70_25, x70_26, x70_29, x70_32, x70_33, x70_36, x70_37, x70_38, x70_39, x70_42, x70_43, x70_46, x70_47, x70_48, x70_49, x70_50, x70_51, x70_52, x70_55, x70_58, ↓reduceIte, Bool.false_eq_true, Nat.reduceAdd, Nat.reduceLT, Nat.reduceLeDiff, Nat.reduceSub, Nat.reduceEqDiff, Int.reduceToNat, Int.reduceEq, Int.reduceLT, Int.reduceLE, Int.reduceAdd, Int.reduceSub, zg, zI, zJ, zR, zst, zkl, zn, zcat, zok, zraw, List.length_cons, List.length_nil, Option.toList, List.nil_append, List.cons_append, true_and, and_true, if_true, if_false, ne_eq, not_true, not_false_eq_true, and_self, true_or, or_true, false_or, or_false, false_and, and_false, b_46 hc, r_46_1 hc, c0, j2, x_54 hc j1 j2, Int.toNat_natCast, eY, w32_i l1 l2, ua_eq]
  refine key 0 _ _ (Nat.zero_le _) ⟨rfl, Fr.refl, fun k hk => ?_⟩
  rw [us_ne (by decide), (hA k hk).2, if_neg (fun hh => Nat.not_lt_zero _ hh.1), Int.add_zero]
theorem kBlow {D : Nat} {g w : Int} {x3 x4 : zV} (h : CS θ T U σ μ) (hd : 7 ≤ D) (hM : sM σ + 36 ≤ 36 * 600) (hQ : ∀ μ', CL μ μ' → CS θ T U (sBlow σ g w) μ' → Q (some (vi (vBlow σ g w))) θ μ') : Ex D 120 0 [vr 2, vi g, vi w, x3, x4] [] θ μ Q := by
  have hc := h.1.1.1
  have hd0 : 0 < D := by omega
  have hwT := h.1.2.1
  have hn := tn_b hwT
  unfold sBlow vBlow at hQ
  by_cases q0 : 0 ≤ g ∧ g ≤ 99
  · by_cases q1 : 0 ≤ w ∧ w ≤ 3
    · rw [if_pos ⟨q0, q1⟩, if_pos ⟨q0, q1⟩] at hQ
      simp only [x120_0, x120_1, x120_4, x120_7, x120_8, x120_11, x120_14, x120_15, x120_16, x120_17, x120_20, x120_21, x120_24, x120_27, x120_28, x120_29, x120_30, x120_33, x120_34, x120_37, x120_40, x120_41, x120_44, x120_47, x120_48, x120_50, x120_51, x120_54, x120_57, x120_60, x120_61, x120_64, x120_67, x120_68, x120_71, x120_74, x120_75, x120_76, x120_77, x120_79, x120_80, x120_83, x120_85, x120_87, x120_90, x120_93, x120_96, x120_99, x120_100, x120_103, x120_104, x120_107, x120_110, ↓reduceIte, Bool.false_eq_true, Nat.reduceAdd, Nat.reduceLT, Nat.reduceLeDiff, Nat.reduceSub, Nat.reduceEqDiff, Int.reduceToNat, Int.reduceEq, Int.reduceLT, Int.reduceLE, Int.reduceAdd, Int.reduceSub, zg, zI, zJ, zR, zst, zkl, zn, zcat, zok, zraw, List.length_cons, List.length_nil, Option.toList, List.nil_append, List.cons_append, true_and, and_true, if_true, if_false, ne_eq, not_true, not_false_eq_true, and_self, true_or, or_true, false_or, or_false, false_and, and_false, b_2 hc, b_3 hc, b_9 hc, b_12 hc, b_26 hc, b_40 hc, b_46 hc, b_47 hc, b_60 hc, b_62 hc, b_63 hc, b_76 hc, b_77 hc, b_90 hc, b_91 hc, b_104 hc, b_107 hc, b_114 hc, b_115 hc, b_122 hc, b_123 hc, b_131 hc, b_2 hc, r_2_0 hc, r_2_1 hc, r_2_2 hc, r_2_3 hc, r_2_4 hc, r_2_5 hc, x_61 hc, n_61 hc, r_2_6 hc, r_2_7 hc, r_2_8 hc, r_2_9 hc, b_46 hc, r_46_0 hc, r_46_1 hc, x_54 hc, r_46_2 hc, x_55 hc, r_46_3 hc, x_56 hc, r_46_4 hc, x_57 hc, r_46_5 hc, x_58 hc, r_46_6 hc, x_59 hc, hd0, cIsGust, cIsWay, if_pos q0, if_pos q1]
      refine cRun (d := D - 1) (ρ := gR (sG σ)) h.1 h.2.2.1.1 (by omega) q0 q1 (Or.inr rfl) (fun μ1 hf hR => ?_)
      have h1 := CS_fr h hf (by decide)
      have L1 : CL μ μ1 := CL_fr hf (by decide)
      have hLD := LD_of hwT q1 hR
      have hal : ∀ t, t ∈ alO (sT σ) (gR (sG σ)) g w (gnO (sT σ) (gR (sG σ))) → t < tn (sT σ) := fun t ht => (al_lt (gn_z _ _) ht).1
      have hb36 := hLD.1
      have e3 : μ1 40 3 = ((foO (sT σ) (gR (sG σ)) g w (gnO (sT σ) (gR (sG σ))) : Nat) : Int) := hR.1
      have efo : faO (sT σ) (gR (sG σ)) g w = ((foO (sT σ) (gR (sG σ)) g w (gnO (sT σ) (gR (sG σ))) : Nat) : Int) := rfl
      have hks := hR.2.2.1
      have hly : ∀ k, lyO (sT σ) (gR (sG σ)) g w k = lyC (foO (sT σ) (gR (sG σ)) g w (gnO (sT σ) (gR (sG σ)))) (cAt2 (sT σ) (gR (sG σ)) g w) k := ly_eq
      have hhi : ∀ x, hiO (sT σ) (gR (sG σ)) g w x = hiC (foO (sT σ) (gR (sG σ)) g w (gnO (sT σ) (gR (sG σ)))) (cAt2 (sT σ) (gR (sG σ)) g w) x := hi_eq
      have hwG := blG_w (g := g) (w := w) hwT h.2.1.2.1
      rw [efo] at hQ
      simp only [x120_0, x120_1, x120_4, x120_7, x120_8, x120_11, x120_14, x120_15, x120_16, x120_17, x120_20, x120_21, x120_24, x120_27, x120_28, x120_29, x120_30, x120_33, x120_34, x120_37, x120_40, x120_41, x120_44, x120_47, x120_48, x120_50, x120_51, x120_54, x120_57, x120_60, x120_61, x120_64, x120_67, x120_68, x120_71, x120_74, x120_75, x120_76, x120_77, x120_79, x120_80, x120_83, x120_85, x120_87, x120_90, x120_93, x120_96, x120_99, x120_100, x120_103, x120_104, x120_107, x120_110, ↓reduceIte, Bool.false_eq_true, Nat.reduceAdd, Nat.reduceLT, Nat.reduceLeDiff, Nat.reduceSub, Nat.reduceEqDiff, Int.reduceToNat, Int.reduceEq, Int.reduceLT, Int.reduceLE, Int.reduceAdd, Int.reduceSub, zg, zI, zJ, zR, zst, zkl, zn, zcat, zok, zraw, List.length_cons, List.length_nil, Option.toList, List.nil_append, List.cons_append, true_and, and_true, if_true, if_false, ne_eq, not_true, not_false_eq_true, and_self, true_or, or_true, false_or, or_false, false_and, and_false, b_2 hc, b_3 hc, b_9 hc, b_12 hc, b_26 hc, b_40 hc, b_46 hc, b_47 hc, b_60 hc, b_62 hc, b_63 hc, b_76 hc, b_77 hc, b_90 hc, b_91 hc, b_104 hc, b_107 hc, b_114 hc, b_115 hc, b_122 hc, b_123 hc, b_131 hc, b_2 hc, r_2_0 hc, r_2_1 hc, r_2_2 hc, r_2_3 hc, r_2_4 hc, r_2_5 hc, x_61 hc, n_61 hc, r_2_6 hc, r_2_7 hc, r_2_8 hc, r_2_9 hc, b_46 hc, r_46_0 hc, r_46_1 hc, x_54 hc, r_46_2 hc, x_55 hc, r_46_3 hc, x_56 hc, r_46_4 hc, x_57 hc, r_46_5 hc, x_58 hc, r_46_6 hc, x_59 hc, hd0]
      refine cLose (d := D - 1) (τ := sT σ) (ρ := gR (sG σ)) (ks := alO (sT σ) (gR (sG σ)) g w (gnO (sT σ) (gR (sG σ)))) hc hwT h1.2.2.1.1 e3 hks hal hb36 (fun μ2 f2 hF2 => ?_)
      have hLD2 := LD_fr hLD (by rw [f2 40 (by decide)]) (f2 41 (by decide)) (f2 43 (by decide))
      unfold blG at hQ hwG
      generalize foO (sT σ) (gR (sG σ)) g w (gnO (sT σ) (gR (sG σ))) = n at hly hhi hLD2 hb36 hQ
      generalize loF (gR (sG σ)) (alO (sT σ) (gR (sG σ)) g w (gnO (sT σ) (gR (sG σ)))) = ρ' at hF2 hQ hwG
      clear hks e3 hal hLD hR efo
      obtain ⟨d36, d3, di⟩ := hLD2
      obtain ⟨⟨y1, y2⟩, ⟨g1, g2⟩, _⟩ := h1.2.1.2.1.2
      obtain ⟨s1, s2, s3, s4, s5⟩ := h1.2.2.1
      have hM2 := h1.2.1.2.2.2.2.2
      have hYb : ∀ k, k < 480 → gY (sG σ) k ≤ 36 * 600 := fun k hk => by
        have p1 := sm_part (f := gY (sG σ)) (t := k + 1) y1 (by omega)
        have p2 := sm_part (f := gY (sG σ)) (t := k) y1 (by omega)
        have : sm (gY (sG σ)) (k + 1) = sm (gY (sG σ)) k + gY (sG σ) k := rfl
        omega
      have key : ∀ t L μ3, t ≤ n → (∃ y4 : zV, L = [vr 2, vi g, vi w, vi (t : Nat), y4] ∧ Fr [54, 56] μ2 μ3 ∧ (∀ k, k < 480 → μ3 54 k = gY (sG σ) k + lyC t (cAt2 (sT σ) (gR (sG σ)) g w) k) ∧ ∀ k, k < gC (sG σ) → μ3 56 k = gH (sG σ) k + hiC t (cAt2 (sT σ) (gR (sG σ)) g w) (gA (sG σ) k)) → Ex D 120 49 L [] θ μ3 Q := by
        refine Ex_loop (I := fun t L μ3 => ∃ y4 : zV, L = [vr 2, vi g, vi w, vi (t : Nat), y4] ∧ Fr [54, 56] μ2 μ3 ∧ (∀ k, k < 480 → μ3 54 k = gY (sG σ) k + lyC t (cAt2 (sT σ) (gR (sG σ)) g w) k) ∧ ∀ k, k < gC (sG σ) → μ3 56 k = gH (sG σ) k + hiC t (cAt2 (sT σ) (gR (sG σ)) g w) (gA (sG σ) k)) n ?_ ?_
        · rintro t L μ3 ht ⟨y4, rfl, f3, hy3, hh3⟩ hk
          obtain ⟨q, q36, e41, e43, ecl⟩ := di t ht
          have e403 : μ3 40 3 = (n : Nat) := by rw [f3 40 (by decide)]; exact d3
          have e41' : μ3 41 t = (q : Nat) := by rw [f3 41 (by decide)]; exact e41
          have e43' : μ3 43 q = cAt2 (sT σ) (gR (sG σ)) g w t := by rw [f3 43 (by decide)]; exact e43
          have c1 : ¬ ((n : Nat) : Int) ≤ (t : Int) := by omega
          have i1 : (0 : Int) ≤ (t : Int) := by omega
          have i2 : (t : Int) < 36 := by omega
          have j1 : (0 : Int) ≤ (q : Int) := by omega
          have j2 : (q : Int) < 36 := by omega
          have w1 : t < 2147483647 := by omega
          have eci : ciO (cAt2 (sT σ) (gR (sG σ)) g w t) = ((ixO (cAt2 (sT σ) (gR (sG σ)) g w t) : Nat) : Int) := if_pos ecl
          generalize hcc : cAt2 (sT σ) (gR (sG σ)) g w = cc at *
          rw [x120_49]
          simp only [x120_0, x120_1, x120_4, x120_7, x120_8, x120_11, x120_14, x120_15, x120_16, x120_17, x120_20, x120_21, x120_24, x120_27, x120_28, x120_29, x120_30, x120_33, x120_34, x120_37, x120_40, x120_41, x120_44, x120_47, x120_48, x120_50, x120_51, x120_54, x120_57, x120_60, x120_61, x120_64, x120_67, x120_68, x120_71, x120_74, x120_75, x120_76, x120_77, x120_79, x120_80, x120_83, x120_85, x120_87, x120_90, x120_93, x120_96, x120_99, x120_100, x120_103, x120_104, x120_107, x120_110, ↓reduceIte, Bool.false_eq_true, Nat.reduceAdd, Nat.reduceLT, Nat.reduceLeDiff, Nat.reduceSub, Nat.reduceEqDiff, Int.reduceToNat, Int.reduceEq, Int.reduceLT, Int.reduceLE, Int.reduceAdd, Int.reduceSub, zg, zI, zJ, zR, zst, zkl, zn, zcat, zok, zraw, List.length_cons, List.length_nil, Option.toList, List.nil_append, List.cons_append, true_and, and_true, if_true, if_false, ne_eq, not_true, not_false_eq_true, and_self, true_or, or_true, false_or, or_false, false_and, and_false, b_2 hc, r_2_3 hc, b_40 hc, r_40_2 hc, r_40_0 hc, x_41 hc i1 i2, x_43 hc j1 j2, e403, c1, Int.toNat_natCast, e41', e43', r_2_4 hc, b_46 hc, cCellIx, eci, hd0, zkl]
          refine cStrike (d := D - 1) (C := gC (sG σ)) (Y := fun k => gY (sG σ) k + lyC t cc k) (A := gA (sG σ)) (H := fun k => gH (sG σ) k + hiC t cc (gA (sG σ) k)) hc ecl hy3 (fun k hk480 => ?_) g1 ?_ (fun k hk2 => ⟨?_, hh3 k hk2⟩) (fun k hk2 => ?_) (fun μ4 f4 hy4 hh4 => ?_)
          · have := y1 k hk480; have := hYb k hk480
            have := ly_b (n := n) (m := t) (c := cc) (k := k)
            show 0 ≤ gY (sG σ) k + lyC t cc k ∧ gY (sG σ) k + lyC t cc k ≤ 1000000
            unfold lyC; omega
          · rw [f3 46 (by decide), f2 46 (by decide)]; exact s4.1
          · rw [f3 55 (by decide), f2 55 (by decide)]; exact (s4.2 k hk2).1
          · have := (g2 k hk2).2
            have := hi_b (m := t) (c := cc) (x := gA (sG σ) k)
            show 0 ≤ gH (sG σ) k + hiC t cc (gA (sG σ) k) ∧ gH (sG σ) k + hiC t cc (gA (sG σ) k) ≤ 1000000
            unfold hiC; omega
          · simp only [x120_0, x120_1, x120_4, x120_7, x120_8, x120_11, x120_14, x120_15, x120_16, x120_17, x120_20, x120_21, x120_24, x120_27, x120_28, x120_29, x120_30, x120_33, x120_34, x120_37, x120_40, x120_41, x120_44, x120_47, x120_48, x120_50, x120_51, x120_54, x120_57, x120_60, x120_61, x120_64, x120_67, x120_68, x120_71, x120_74, x120_75, x120_76, x120_77, x120_79, x120_80, x120_83, x120_85, x120_87, x120_90, x120_93, x120_96, x120_99, x120_100, x120_103, x120_104, x120_107, x120_110, ↓reduceIte, Bool.false_eq_true, Nat.reduceAdd, Nat.reduceLT, Nat.reduceLeDiff, Nat.reduceSub, Nat.reduceEqDiff, Int.reduceToNat, Int.reduceEq, Int.reduceLT, Int.reduceLE, Int.reduceAdd, Int.reduceSub, zg, zI, zJ, zR, zst, zkl, zn, zcat, zok, zraw, List.length_cons, List.length_nil, Option.toList, List.nil_append, List.cons_append, true_and, and_true, if_true, if_false, ne_eq, not_true, not_false_eq_true, and_self, true_or, or_true, false_or, or_false, false_and, and_false, w32_s w1]
            refine hk _ _ ⟨_, rfl, f3.trans f4, fun k hk480 => ?_, fun k hk2 => ?_⟩
            · rw [hy4 k hk480]
              show gY (sG σ) k + lyC t cc k + _ = gY (sG σ) k + lyC (t + 1) cc k
              have : lyC (t + 1) cc k = lyC t cc k + (if ixO (cc t) = k then 1 else 0) := rfl
              rw [this]; omega
            · rw [hh4 k hk2]
              show gH (sG σ) k + hiC t cc (gA (sG σ) k) + _ = gH (sG σ) k + hiC (t + 1) cc (gA (sG σ) k)
              have : hiC (t + 1) cc (gA (sG σ) k) = hiC t cc (gA (sG σ) k) + (if cc t = gA (sG σ) k then 1 else 0) := rfl
              rw [this]; omega
        · rintro L μ3 ⟨y4, rfl, f3, hy3, hh3⟩
          have e403 : μ3 40 3 = (n : Nat) := by rw [f3 40 (by decide)]; exact d3
          rw [x120_49]
          simp only [x120_0, x120_1, x120_4, x120_7, x120_8, x120_11, x120_14, x120_15, x120_16, x120_17, x120_20, x120_21, x120_24, x120_27, x120_28, x120_29, x120_30, x120_33, x120_34, x120_37, x120_40, x120_41, x120_44, x120_47, x120_48, x120_50, x120_51, x120_54, x120_57, x120_60, x120_61, x120_64, x120_67, x120_68, x120_71, x120_74, x120_75, x120_76, x120_77, x120_79, x120_80, x120_83, x120_85, x120_87, x120_90, x120_93, x120_96, x120_99, x120_100, x120_103, x120_104, x120_107, x120_110, ↓reduceIte, Bool.false_eq_true, Nat.reduceAdd, Nat.reduceLT, Nat.reduceLeDiff, Nat.reduceSub, Nat.reduceEqDiff, Int.reduceToNat, Int.reduceEq, Int.reduceLT, Int.reduceLE, Int.reduceAdd, Int.reduceSub, zg, zI, zJ, zR, zst, zkl, zn, zcat, zok, zraw, List.length_cons, List.length_nil, Option.toList, List.nil_append, List.cons_append, true_and, and_true, if_true, if_false, ne_eq, not_true, not_false_eq_true, and_self, true_or, or_true, false_or, or_false, false_and, and_false, b_2 hc, r_2_3 hc, b_40 hc, e403, Int.le_refl, hd0]
          refine cForgetPlans (d := D - 1) hc (by omega) ?_
          intro μ4 f4 p9 p10 p4
          have e404 : μ4 40 3 = (n : Nat) := by rw [f4 40 (by decide)]; exact e403
          have F : Fr SCA μ1 μ4 := ((f2.mono (by decide)).trans (f3.mono (by decide))).trans (f4.mono (by decide))
          simp only [x120_0, x120_1, x120_4, x120_7, x120_8, x120_11, x120_14, x120_15, x120_16, x120_17, x120_20, x120_21, x120_24, x120_27, x120_28, x120_29, x120_30, x120_33, x120_34, x120_37, x120_40, x120_41, x120_44, x120_47, x120_48, x120_50, x120_51, x120_54, x120_57, x120_60, x120_61, x120_64, x120_67, x120_68, x120_71, x120_74, x120_75, x120_76, x120_77, x120_79, x120_80, x120_83, x120_85, x120_87, x120_90, x120_93, x120_96, x120_99, x120_100, x120_103, x120_104, x120_107, x120_110, ↓reduceIte, Bool.false_eq_true, Nat.reduceAdd, Nat.reduceLT, Nat.reduceLeDiff, Nat.reduceSub, Nat.reduceEqDiff, Int.reduceToNat, Int.reduceEq, Int.reduceLT, Int.reduceLE, Int.reduceAdd, Int.reduceSub, zg, zI, zJ, zR, zst, zkl, zn, zcat, zok, zraw, List.length_cons, List.length_nil, Option.toList, List.nil_append, List.cons_append, true_and, and_true, if_true, if_false, ne_eq, not_true, not_false_eq_true, and_self, true_or, or_true, false_or, or_false, false_and, and_false, b_2 hc, r_2_3 hc, b_40 hc, e404]
          refine hQ μ4 (L1.trans' (CL_fr F (by decide))) (CS_set h1 ⟨by omega, hM⟩ F hwG ⟨?_, ?_, fun k hk => ?_, ⟨?_, fun k hk => ⟨?_, ?_⟩⟩, ?_⟩ (CK_no p9 p10) (CT_no h1.2.2.2.2.1 p4 (F 130 (by decide))))
          · obtain ⟨a1, a2, a3, a4, a5, a6⟩ := hF2
            refine ⟨a1, a2, ?_, fun m t hm ht => ?_, ?_, ?_⟩
            · rw [f4 47 (by decide), f3 47 (by decide)]; exact a3
            · rw [f4 (46 + 1 + (m + 2)) (by simp; omega), f3 (46 + 1 + (m + 2)) (by simp; omega)]; exact a4 m t hm ht
            · rw [f4 47 (by decide), f3 47 (by decide)]; exact a5
            · rw [f4 47 (by decide), f3 47 (by decide)]; exact a6
          · rw [f4 47 (by decide), f3 47 (by decide), f2 47 (by decide)]; exact s2
          · show μ4 54 k = gY (sG σ) k + lyO (sT σ) (gR (sG σ)) g w k
            rw [f4 54 (by decide), hy3 k hk, hly]
          · rw [f4 46 (by decide), f3 46 (by decide), f2 46 (by decide)]; exact s4.1
          · show μ4 55 k = gA (sG σ) k
            rw [f4 55 (by decide), f3 55 (by decide), f2 55 (by decide)]; exact (s4.2 k hk).1
          · show μ4 56 k = gH (sG σ) k + hiO (sT σ) (gR (sG σ)) g w (gA (sG σ) k)
            rw [f4 56 (by decide), hh3 k hk, hhi]
          · obtain ⟨u1, u2⟩ := s5
            refine ⟨?_, fun k hk => ?_⟩
            · rw [f4 46 (by decide), f3 46 (by decide), f2 46 (by decide)]; exact u1
            · rw [f4 (46 + 11) (by decide), f4 (46 + 12) (by decide), f4 (46 + 13) (by decide), f3 (46 + 11) (by decide), f3 (46 + 12) (by decide), f3 (46 + 13) (by decide), f2 (46 + 11) (by decide), f2 (46 + 12) (by decide), f2 (46 + 13) (by decide)]; exact u2 k hk
      simp only [x120_0, x120_1, x120_4, x120_7, x120_8, x120_11, x120_14, x120_15, x120_16, x120_17, x120_20, x120_21, x120_24, x120_27, x120_28, x120_29, x120_30, x120_33, x120_34, x120_37, x120_40, x120_41, x120_44, x120_47, x120_48, x120_50, x120_51, x120_54, x120_57, x120_60, x120_61, x120_64, x120_67, x120_68, x120_71, x120_74, x120_75, x120_76, x120_77, x120_79, x120_80, x120_83, x120_85, x120_87, x120_90, x120_93, x120_96, x120_99, x120_100, x120_103, x120_104, x120_107, x120_110, ↓reduceIte, Bool.false_eq_true, Nat.reduceAdd, Nat.reduceLT, Nat.reduceLeDiff, Nat.reduceSub, Nat.reduceEqDiff, Int.reduceToNat, Int.reduceEq, Int.reduceLT, Int.reduceLE, Int.reduceAdd, Int.reduceSub, zg, zI, zJ, zR, zst, zkl, zn, zcat, zok, zraw, List.length_cons, List.length_nil, Option.toList, List.nil_append, List.cons_append, true_and, and_true, if_true, if_false, ne_eq, not_true, not_false_eq_true, and_self, true_or, or_true, false_or, or_false, false_and, and_false]
      refine key 0 _ _ (Nat.zero_le _) ⟨x4, rfl, Fr.refl, fun k hk => ?_, fun k hk => ?_⟩
      · rw [f2 54 (by decide)]; show _ = gY (sG σ) k + 0; rw [Int.add_zero]; exact s3 k hk
      · rw [f2 56 (by decide)]; show _ = gH (sG σ) k + 0; rw [Int.add_zero]; exact (s4.2 k hk).2
    · rw [if_neg (fun hh => q1 hh.2), if_neg (fun hh => q1 hh.2)] at hQ
      simp only [x120_0, x120_1, x120_4, x120_7, x120_8, x120_11, x120_14, x120_15, x120_16, x120_17, x120_20, x120_21, x120_24, x120_27, x120_28, x120_29, x120_30, x120_33, x120_34, x120_37, x120_40, x120_41, x120_44, x120_47, x120_48, x120_50, x120_51, x120_54, x120_57, x120_60, x120_61, x120_64, x120_67, x120_68, x120_71, x120_74, x120_75, x120_76, x120_77, x120_79, x120_80, x120_83, x120_85, x120_87, x120_90, x120_93, x120_96, x120_99, x120_100, x120_103, x120_104, x120_107, x120_110, ↓reduceIte, Bool.false_eq_true, Nat.reduceAdd, Nat.reduceLT, Nat.reduceLeDiff, Nat.reduceSub, Nat.reduceEqDiff, Int.reduceToNat, Int.reduceEq, Int.reduceLT, Int.reduceLE, Int.reduceAdd, Int.reduceSub, zg, zI, zJ, zR, zst, zkl, zn, zcat, zok, zraw, List.length_cons, List.length_nil, Option.toList, List.nil_append, List.cons_append, true_and, and_true, if_true, if_false, ne_eq, not_true, not_false_eq_true, and_self, true_or, or_true, false_or, or_false, false_and, and_false, hd0, cIsGust, cIsWay, if_pos q0, if_neg q1]
      exact hQ μ (fun _ _ => rfl) h
  · rw [if_neg (fun hh => q0 hh.1), if_neg (fun hh => q0 hh.1)] at hQ
    simp only [x120_0, x120_1, x120_4, x120_7, x120_8, x120_11, x120_14, x120_15, x120_16, x120_17, x120_20, x120_21, x120_24, x120_27, x120_28, x120_29, x120_30, x120_33, x120_34, x120_37, x120_40, x120_41, x120_44, x120_47, x120_48, x120_50, x120_51, x120_54, x120_57, x120_60, x120_61, x120_64, x120_67, x120_68, x120_71, x120_74, x120_75, x120_76, x120_77, x120_79, x120_80, x120_83, x120_85, x120_87, x120_90, x120_93, x120_96, x120_99, x120_100, x120_103, x120_104, x120_107, x120_110, ↓reduceIte, Bool.false_eq_true, Nat.reduceAdd, Nat.reduceLT, Nat.reduceLeDiff, Nat.reduceSub, Nat.reduceEqDiff, Int.reduceToNat, Int.reduceEq, Int.reduceLT, Int.reduceLE, Int.reduceAdd, Int.reduceSub, zg, zI, zJ, zR, zst, zkl, zn, zcat, zok, zraw, List.length_cons, List.length_nil, Option.toList, List.nil_append, List.cons_append, true_and, and_true, if_true, if_false, ne_eq, not_true, not_false_eq_true, and_self, true_or, or_true, false_or, or_false, false_and, and_false, hd0, cIsGust, if_neg q0]
    exact hQ μ (fun _ _ => rfl) h
end BL
