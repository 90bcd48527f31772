/-! CALLS: yard, hits, car, sweep, gust, calm -/
section SC
variable {θ : zS} {T U : Nat} {σ : zSt} {Q : Option zV → zS → zM → Prop} {μ : zM} {s : Nat}
abbrev okCe (c : Int) : Prop := (0 ≤ c ∧ c < 4000) ∧ c / 100 % 10 ≤ 5 ∧ c % 100 < 20
theorem yt_cg {τ : zT} {γ γ' : zG} (hR : gR γ' = gR γ) (hY : gY γ' = gY γ) : ∀ i, ytO τ γ' i = ytO τ γ i := by
  have ap : ∀ g w, apO τ γ' g w = apO τ γ g w := fun g w => by unfold apO; rw [hR, hY]
  intro i
  induction i with
  | zero => rfl
  | succ i ih =>
    unfold ytO
    rw [ih, ap, hR]
theorem CT_cg {τ : zT} {γ γ' : zG} (hR : gR γ' = gR γ) (hY : gY γ' = gY γ) (h : CT τ γ μ) : CT τ γ' μ := by
  unfold CT at h ⊢
  rw [yt_cg hR hY]
  exact h
/-- yard -/
def vYard (σ : zSt) (c : Int) : Int := if okCe c then gY (sG σ) (ixO c) else -1
theorem kYard {D : Nat} {c : Int} {x2 : zV} (h : CS θ T U σ μ) (hd : 7 ≤ D) (hQ : Q (some (vi (vYard σ c))) θ μ) : Ex D 121 0 [vr 2, vi c, x2] [] θ μ Q := by
  have hc := h.1.1.1
  have hd0 : 0 < D := by omega
  unfold vYard at hQ
  have e : ciO c = if okCe c then ((ixO c : Nat) : Int) else -1 := rfl
  by_cases q : okCe c
  · rw [if_pos q] at hQ e
    have hb := (ix_b (c := c) q).1
    have i1 : (0 : Int) ≤ ((ixO c : Nat) : Int) := by omega
    have i2 : ((ixO c : Nat) : Int) < 480 := by omega
    have n1 : ¬ ((ixO c : Nat) : Int) = -1 := by omega
    have e54 : μ 54 (ixO c) = gY (sG σ) (ixO c) := h.2.2.1.2.2.1 _ hb
    simp only [x121_0, x121_1, x121_4, x121_5, x121_6, x121_7, x121_10, x121_11, x121_14, x121_15, x121_18, x121_21, x121_22, x121_23, ↓reduceIte, Bool.false_eq_true, Nat.reduceAdd, Nat.reduceLT, Nat.reduceLeDiff, Nat.reduceSub, Nat.reduceEqDiff, Int.reduceToNat, Int.reduceEq, Int.reduceLT, Int.reduceLE, Int.reduceAdd, Int.reduceSub, zg, zI, zJ, zR, zst, zkl, zn, zcat, zok, zraw, List.length_cons, List.length_nil, Option.toList, List.nil_append, List.cons_append, true_and, and_true, if_true, if_false, ne_eq, not_true, not_false_eq_true, and_self, true_or, or_true, false_or, or_false, false_and, and_false, b_2 hc, r_2_4 hc, b_46 hc, r_46_1 hc, x_54 hc i1 i2, cCellIx, e, n1, Int.toNat_natCast, e54, hd0]
    exact hQ
  · rw [if_neg q] at hQ e
    simp only [x121_0, x121_1, x121_4, x121_5, x121_6, x121_7, x121_10, x121_11, x121_14, x121_15, x121_18, x121_21, x121_22, x121_23, ↓reduceIte, Bool.false_eq_true, Nat.reduceAdd, Nat.reduceLT, Nat.reduceLeDiff, Nat.reduceSub, Nat.reduceEqDiff, Int.reduceToNat, Int.reduceEq, Int.reduceLT, Int.reduceLE, Int.reduceAdd, Int.reduceSub, zg, zI, zJ, zR, zst, zkl, zn, zcat, zok, zraw, List.length_cons, List.length_nil, Option.toList, List.nil_append, List.cons_append, true_and, and_true, if_true, if_false, ne_eq, not_true, not_false_eq_true, and_self, true_or, or_true, false_or, or_false, false_and, and_false, b_2 hc, cCellIx, e, hd0]
    exact hQ
theorem rYard {D : Nat} {c : Int} (h : MS θ σ s μ) (hd : 11 ≤ D) (hQ : Q (some (vi (vYard σ c))) θ μ) : Ex D 239 0 [vr 138, vi c] [] θ μ Q := by
  have hm := h.1.1
  have hd0 : 0 < D := by omega
  have hd1 : 0 < D - 1 := by omega
  unfold vYard at hQ
  by_cases q : okCe c
  · rw [if_pos q] at hQ
    have hb := (ix_b (c := c) q).1
    have i1 : (0 : Int) ≤ ((ixO c : Nat) : Int) := by omega
    have i2 : ((ixO c : Nat) : Int) < 480 := by omega
    have e178 : μ 178 (ixO c) = gY (sG σ) (ixO c) := h.2.2.1.2.1 _ hb
    have hcl : clI c := q
    simp only [x239_0, x239_1, x239_4, x239_7, x239_8, x239_11, x239_12, x239_15, x239_16, x239_19, x239_20, ↓reduceIte, Bool.false_eq_true, Nat.reduceAdd, Nat.reduceLT, Nat.reduceLeDiff, Nat.reduceSub, Nat.reduceEqDiff, Int.reduceToNat, Int.reduceEq, Int.reduceLT, Int.reduceLE, Int.reduceAdd, Int.reduceSub, zg, zI, zJ, zR, zst, zkl, zn, zcat, zok, zraw, List.length_cons, List.length_nil, Option.toList, List.nil_append, List.cons_append, true_and, and_true, if_true, if_false, ne_eq, not_true, not_false_eq_true, and_self, true_or, or_true, false_or, or_false, false_and, and_false, b_138 hm, r_138_58 hm, x_178 hm i1 i2, mIsCell hd1, mYardOf _ hcl, q, Int.toNat_natCast, e178, hd0]
    exact hQ
  · rw [if_neg q] at hQ
    simp only [x239_0, x239_1, x239_4, x239_7, x239_8, x239_11, x239_12, x239_15, x239_16, x239_19, x239_20, ↓reduceIte, Bool.false_eq_true, Nat.reduceAdd, Nat.reduceLT, Nat.reduceLeDiff, Nat.reduceSub, Nat.reduceEqDiff, Int.reduceToNat, Int.reduceEq, Int.reduceLT, Int.reduceLE, Int.reduceAdd, Int.reduceSub, zg, zI, zJ, zR, zst, zkl, zn, zcat, zok, zraw, List.length_cons, List.length_nil, Option.toList, List.nil_append, List.cons_append, true_and, and_true, if_true, if_false, ne_eq, not_true, not_false_eq_true, and_self, true_or, or_true, false_or, or_false, false_and, and_false, b_138 hm, mIsCell hd1, if_neg q, hd0]
    exact hQ
/-- hits -/
def vHits (σ : zSt) (c : Int) : Int := if 0 ≤ c ∧ c < (gC (sG σ) : Int) then gH (sG σ) c.toNat else -1
theorem kHits {D : Nat} {c : Int} (h : CS θ T U σ μ) (hQ : Q (some (vi (vHits σ c))) θ μ) : Ex D 124 0 [vr 2, vi c] [] θ μ Q := by
  have hc := h.1.1.1
  have h8 := h.2.1.2.1.2.2.1.1
  obtain ⟨e7, ec⟩ := h.2.2.1.2.2.2.1
  unfold vHits at hQ
  by_cases c0 : c < 0
  · rw [if_neg (by omega)] at hQ
    simp only [x124_0, x124_1, x124_4, x124_5, x124_6, x124_9, x124_12, x124_15, x124_16, x124_19, x124_20, x124_23, x124_26, x124_27, x124_28, ↓reduceIte, Bool.false_eq_true, Nat.reduceAdd, Nat.reduceLT, Nat.reduceLeDiff, Nat.reduceSub, Nat.reduceEqDiff, Int.reduceToNat, Int.reduceEq, Int.reduceLT, Int.reduceLE, Int.reduceAdd, Int.reduceSub, zg, zI, zJ, zR, zst, zkl, zn, zcat, zok, zraw, List.length_cons, List.length_nil, Option.toList, List.nil_append, List.cons_append, true_and, and_true, if_true, if_false, ne_eq, not_true, not_false_eq_true, and_self, true_or, or_true, false_or, or_false, false_and, and_false, c0]
    exact hQ
  · by_cases c1 : c < (gC (sG σ) : Int)
    · rw [if_pos ⟨by omega, c1⟩] at hQ
      obtain ⟨N, rfl⟩ : ∃ N : Nat, c = (N : Int) := ⟨c.toNat, by omega⟩
      rw [Int.toNat_natCast] at hQ
      have i1 : (0 : Int) ≤ (N : Int) := by omega
      have i2 : (N : Int) < 8 := by omega
      have e56 : μ 56 N = gH (sG σ) N := (ec N (by omega)).2
      simp only [x124_0, x124_1, x124_4, x124_5, x124_6, x124_9, x124_12, x124_15, x124_16, x124_19, x124_20, x124_23, x124_26, x124_27, x124_28, ↓reduceIte, Bool.false_eq_true, Nat.reduceAdd, Nat.reduceLT, Nat.reduceLeDiff, Nat.reduceSub, Nat.reduceEqDiff, Int.reduceToNat, Int.reduceEq, Int.reduceLT, Int.reduceLE, Int.reduceAdd, Int.reduceSub, zg, zI, zJ, zR, zst, zkl, zn, zcat, zok, zraw, List.length_cons, List.length_nil, Option.toList, List.nil_append, List.cons_append, true_and, and_true, if_true, if_false, ne_eq, not_true, not_false_eq_true, and_self, true_or, or_true, false_or, or_false, false_and, and_false, b_2 hc, r_2_4 hc, b_46 hc, r_46_3 hc, x_56 hc i1 i2, c0, e7, c1, Int.toNat_natCast, e56]
      exact hQ
    · rw [if_neg (by omega)] at hQ
      simp only [x124_0, x124_1, x124_4, x124_5, x124_6, x124_9, x124_12, x124_15, x124_16, x124_19, x124_20, x124_23, x124_26, x124_27, x124_28, ↓reduceIte, Bool.false_eq_true, Nat.reduceAdd, Nat.reduceLT, Nat.reduceLeDiff, Nat.reduceSub, Nat.reduceEqDiff, Int.reduceToNat, Int.reduceEq, Int.reduceLT, Int.reduceLE, Int.reduceAdd, Int.reduceSub, zg, zI, zJ, zR, zst, zkl, zn, zcat, zok, zraw, List.length_cons, List.length_nil, Option.toList, List.nil_append, List.cons_append, true_and, and_true, if_true, if_false, ne_eq, not_true, not_false_eq_true, and_self, true_or, or_true, false_or, or_false, false_and, and_false, b_2 hc, r_2_4 hc, b_46 hc, c0, e7, c1]
      exact hQ
theorem rHits {D : Nat} {c : Int} (h : MS θ σ s μ) (hd : 11 ≤ D) (hQ : Q (some (vi (vHits σ c))) θ μ) : Ex D 242 0 [vr 138, vi c] [] θ μ Q := by
  have hm := h.1.1
  have hd0 : 0 < D := by omega
  have h8 := h.2.1.2.1.2.2.1.1
  obtain ⟨e7, ec⟩ := h.2.2.1.2.2.1
  unfold vHits at hQ
  have l1 : -2147483648 ≤ (gC (sG σ) : Int) - 1 := by omega
  have l2 : (gC (sG σ) : Int) - 1 ≤ 2147483647 := by omega
  have e : (0 ≤ c ∧ c ≤ (gC (sG σ) : Int) - 1) = (0 ≤ c ∧ c < (gC (sG σ) : Int)) := propext (by omega)
  by_cases q : 0 ≤ c ∧ c < (gC (sG σ) : Int)
  · rw [if_pos q] at hQ
    obtain ⟨N, rfl⟩ : ∃ N : Nat, c = (N : Int) := ⟨c.toNat, by omega⟩
    rw [Int.toNat_natCast] at hQ
    have i1 : (0 : Int) ≤ (N : Int) := by omega
    have i2 : (N : Int) < 8 := by omega
    have e56 : μ 180 N = gH (sG σ) N := (ec N (by omega)).2
    simp only [x242_0, x242_1, x242_2, x242_3, x242_6, x242_7, x242_8, x242_11, x242_14, x242_15, x242_18, x242_19, x242_20, x242_23, x242_24, ↓reduceIte, Bool.false_eq_true, Nat.reduceAdd, Nat.reduceLT, Nat.reduceLeDiff, Nat.reduceSub, Nat.reduceEqDiff, Int.reduceToNat, Int.reduceEq, Int.reduceLT, Int.reduceLE, Int.reduceAdd, Int.reduceSub, zg, zI, zJ, zR, zst, zkl, zn, zcat, zok, zraw, List.length_cons, List.length_nil, Option.toList, List.nil_append, List.cons_append, true_and, and_true, if_true, if_false, ne_eq, not_true, not_false_eq_true, and_self, true_or, or_true, false_or, or_false, false_and, and_false, b_138 hm, r_138_61 hm, x_180 hm i1 i2, e7, w32_i l1 l2, mIn, e, if_pos q, hd0, Int.toNat_natCast, e56]
    exact hQ
  · rw [if_neg q] at hQ
    simp only [x242_0, x242_1, x242_2, x242_3, x242_6, x242_7, x242_8, x242_11, x242_14, x242_15, x242_18, x242_19, x242_20, x242_23, x242_24, ↓reduceIte, Bool.false_eq_true, Nat.reduceAdd, Nat.reduceLT, Nat.reduceLeDiff, Nat.reduceSub, Nat.reduceEqDiff, Int.reduceToNat, Int.reduceEq, Int.reduceLT, Int.reduceLE, Int.reduceAdd, Int.reduceSub, zg, zI, zJ, zR, zst, zkl, zn, zcat, zok, zraw, List.length_cons, List.length_nil, Option.toList, List.nil_append, List.cons_append, true_and, and_true, if_true, if_false, ne_eq, not_true, not_false_eq_true, and_self, true_or, or_true, false_or, or_false, false_and, and_false, b_138 hm, e7, w32_i l1 l2, mIn, e, if_neg q, hd0]
    exact hQ
/-- car -/
def caG (γ : zG) (c : Int) : zG := (gR γ, gY γ, (gC γ + 1, zup (gA γ) (gC γ) c, zup (gH γ) (gC γ) 0), gU γ)
abbrev okCar (σ : zSt) (c : Int) : Prop := gC (sG σ) < 8 ∧ okCe c
def sCar (σ : zSt) (c : Int) : zSt := if okCar σ c then setS σ (caG (sG σ) c) (sM σ) else σ
def vCar (σ : zSt) (c : Int) : Int := if okCar σ c then ((gC (sG σ) : Nat) : Int) else -1
theorem caG_w {τ : zT} {γ : zG} {B : Nat} {c : Int} (h : wfG τ γ B) (h8 : gC γ < 8) (hc : clI c) : wfG τ (caG γ c) B := by
  obtain ⟨h1, h2, ⟨h3, h4⟩, h5⟩ := h
  refine ⟨h1, h2, ⟨h8, fun k hk => ?_⟩, h5⟩
  have hk' : k < gC γ + 1 := hk
  show clI (zup (gA γ) (gC γ) c k) ∧ 0 ≤ zup (gH γ) (gC γ) 0 k ∧ zup (gH γ) (gC γ) 0 k ≤ B
  by_cases e : k = gC γ
  · rw [zup_same e, zup_same e]; exact ⟨hc, Int.le_refl _, by omega⟩
  · rw [zup_ne e, zup_ne e]; exact h4 k (by omega)
theorem kCar {D : Nat} {c : Int} (h : CS θ T U σ μ) (hd : 7 ≤ D) (hQ : ∀ μ', CL μ μ' → CS θ T U (sCar σ c) μ' → Q (some (vi (vCar σ c))) θ μ') : Ex D 123 0 [vr 2, vi c] [] θ μ Q := by
  have hc := h.1.1.1
  have hd0 : 0 < D := by omega
  have h8 := h.2.1.2.1.2.2.1.1
  have hM := h.2.1.2.2.2.2.2
  obtain ⟨e7, ec⟩ := h.2.2.1.2.2.2.1
  have e : ciO c = if okCe c then ((ixO c : Nat) : Int) else -1 := rfl
  unfold sCar vCar at hQ
  by_cases q8 : gC (sG σ) < 8
  · have c8 : ¬ (8 : Int) ≤ (gC (sG σ) : Int) := by omega
    by_cases q : okCe c
    · rw [if_pos ⟨q8, q⟩, if_pos ⟨q8, q⟩] at hQ
      rw [if_pos q] at e
      have hb := (ix_b (c := c) q).1
      have n1 : ¬ ((ixO c : Nat) : Int) = -1 := by omega
      obtain ⟨N, hN⟩ : ∃ N, N = gC (sG σ) := ⟨_, rfl⟩
      rw [← hN] at e7 c8 q8
      have i1 : (0 : Int) ≤ (N : Int) := by omega
      have i2 : (N : Int) < 8 := by omega
      have w1 : N < 2147483647 := by omega
      have ew : w32 (((N + 1 : Nat) : Int) - 1) = (N : Int) := by rw [w32_i (by omega) (by omega)]; omega
      simp only [x123_0, x123_1, x123_4, x123_7, x123_9, x123_12, x123_13, x123_16, x123_17, x123_20, x123_21, x123_22, x123_23, x123_26, x123_29, x123_30, x123_33, x123_36, x123_37, x123_38, x123_39, x123_42, x123_45, x123_46, x123_49, x123_52, x123_53, x123_54, x123_55, x123_58, x123_59, x123_62, x123_63, x123_64, x123_67, x123_68, x123_71, x123_74, x123_75, x123_76, ↓reduceIte, Bool.false_eq_true, Nat.reduceAdd, Nat.reduceLT, Nat.reduceLeDiff, Nat.reduceSub, Nat.reduceEqDiff, Int.reduceToNat, Int.reduceEq, Int.reduceLT, Int.reduceLE, Int.reduceAdd, Int.reduceSub, zg, zI, zJ, zR, zst, zkl, zn, zcat, zok, zraw, List.length_cons, List.length_nil, Option.toList, List.nil_append, List.cons_append, true_and, and_true, if_true, if_false, ne_eq, not_true, not_false_eq_true, and_self, true_or, or_true, false_or, or_false, false_and, and_false, b_2 hc, r_2_4 hc, b_46 hc, r_46_2 hc, r_46_3 hc, x_55 hc i1 i2, x_56 hc i1 i2, e7, c8, cCellIx, e, n1, hd0, Int.toNat_natCast, ua_eq, us_ne (show (46 : Nat) ≠ 55 by decide), us_ne (show (46 : Nat) ≠ 56 by decide), us_ne (show (56 : Nat) ≠ 55 by decide), us_same, zup_same, w32_s w1, ew]
      clear ew
      have F : Fr SCA μ (us (us (us μ 55 (zup (μ 55) N c)) 56 (zup (μ 56) N 0)) 46 (zup (μ 46) 7 ((N + 1 : Nat) : Int))) := Fr.us (by decide) (Fr.us (by decide) (Fr.us (by decide) Fr.refl))
      rw [← hN] at hQ
      obtain ⟨f1, f2, f3, f4, f5⟩ := h.2.2.1
      have hcl : clI c := q
      refine hQ _ (CL_fr F (by decide)) (CS_set h ⟨Nat.le_refl _, hM⟩ F (caG_w h.2.1.2.1 (by omega) hcl) ⟨?_, ?_, ?_, ⟨?_, fun k hk => ?_⟩, ?_⟩ ?_ ?_)
      · obtain ⟨a1, a2, a3, a4, a5, a6⟩ := f1
        refine ⟨a1, a2, ?_, fun m t hm ht => ?_, ?_, ?_⟩
        · rw [us_ne (by decide), us_ne (by decide), us_ne (by decide)]; exact a3
        · rw [us_ne (by omega), us_ne (by omega), us_ne (by omega)]; exact a4 m t hm ht
        · rw [us_ne (by decide), us_ne (by decide), us_ne (by decide)]; exact a5
        · rw [us_ne (by decide), us_ne (by decide), us_ne (by decide)]; exact a6
      · rw [us_ne (by decide), us_ne (by decide), us_ne (by decide)]; exact f2
      · rw [us_ne (by decide), us_ne (by decide), us_ne (by decide)]; exact f3
      · rw [us_same, zup_same rfl]; show _ = (((gC (sG σ) + 1 : Nat)) : Int); rw [← hN]
      · have hk' : k < gC (sG σ) + 1 := hk
        show us (us (us μ 55 _) 56 _) 46 _ 55 k = zup (gA (sG σ)) (gC (sG σ)) c k ∧ us (us (us μ 55 _) 56 _) 46 _ 56 k = zup (gH (sG σ)) (gC (sG σ)) 0 k
        rw [us_ne (by decide), us_ne (by decide), us_same, us_ne (by decide), us_same, ← hN]
        by_cases e0 : k = N
        · rw [zup_same e0, zup_same e0, zup_same e0, zup_same e0]; exact ⟨rfl, rfl⟩
        · rw [zup_ne e0, zup_ne e0, zup_ne e0, zup_ne e0]; exact ec k (by omega)
      · obtain ⟨u1, u2⟩ := f5
        refine ⟨?_, fun k hk => ?_⟩
        · rw [us_same, zup_ne (by decide)]; exact u1
        · rw [us_ne (by decide), us_ne (by decide), us_ne (by decide), us_ne (by decide), us_ne (by decide), us_ne (by decide), us_ne (by decide), us_ne (by decide), us_ne (by decide)]; exact u2 k hk
      · have hk := h.2.2.2.1
        show CK (sT σ) (sG σ) _
        unfold CK CP CQ; rw [F 105 (by decide), F 106 (by decide), us_ne (by decide), us_ne (by decide), us_ne (by decide)]; exact hk
      · have ht := h.2.2.2.2.1
        refine CT_cg (γ := sG σ) rfl rfl ?_
        unfold CT; rw [F 130 (by decide), us_ne (by decide), us_ne (by decide), us_ne (by decide)]; exact ht
    · rw [if_neg (fun hh => q hh.2), if_neg (fun hh => q hh.2)] at hQ
      rw [if_neg q] at e
      simp only [x123_0, x123_1, x123_4, x123_7, x123_9, x123_12, x123_13, x123_16, x123_17, x123_20, x123_21, x123_22, x123_23, x123_26, x123_29, x123_30, x123_33, x123_36, x123_37, x123_38, x123_39, x123_42, x123_45, x123_46, x123_49, x123_52, x123_53, x123_54, x123_55, x123_58, x123_59, x123_62, x123_63, x123_64, x123_67, x123_68, x123_71, x123_74, x123_75, x123_76, ↓reduceIte, Bool.false_eq_true, Nat.reduceAdd, Nat.reduceLT, Nat.reduceLeDiff, Nat.reduceSub, Nat.reduceEqDiff, Int.reduceToNat, Int.reduceEq, Int.reduceLT, Int.reduceLE, Int.reduceAdd, Int.reduceSub, zg, zI, zJ, zR, zst, zkl, zn, zcat, zok, zraw, List.length_cons, List.length_nil, Option.toList, List.nil_append, List.cons_append, true_and, and_true, if_true, if_false, ne_eq, not_true, not_false_eq_true, and_self, true_or, or_true, false_or, or_false, false_and, and_false, b_2 hc, r_2_4 hc, b_46 hc, e7, c8, cCellIx, e, hd0]
      exact hQ μ (fun _ _ => rfl) h
  · rw [if_neg (fun hh => q8 hh.1), if_neg (fun hh => q8 hh.1)] at hQ
    have c8 : (8 : Int) ≤ (gC (sG σ) : Int) := by omega
    simp only [x123_0, x123_1, x123_4, x123_7, x123_9, x123_12, x123_13, x123_16, x123_17, x123_20, x123_21, x123_22, x123_23, x123_26, x123_29, x123_30, x123_33, x123_36, x123_37, x123_38, x123_39, x123_42, x123_45, x123_46, x123_49, x123_52, x123_53, x123_54, x123_55, x123_58, x123_59, x123_62, x123_63, x123_64, x123_67, x123_68, x123_71, x123_74, x123_75, x123_76, ↓reduceIte, Bool.false_eq_true, Nat.reduceAdd, Nat.reduceLT, Nat.reduceLeDiff, Nat.reduceSub, Nat.reduceEqDiff, Int.reduceToNat, Int.reduceEq, Int.reduceLT, Int.reduceLE, Int.reduceAdd, Int.reduceSub, zg, zI, zJ, zR, zst, zkl, zn, zcat, zok, zraw, List.length_cons, List.length_nil, Option.toList, List.nil_append, List.cons_append, true_and, and_true, if_true, if_false, ne_eq, not_true, not_false_eq_true, and_self, true_or, or_true, false_or, or_false, false_and, and_false, b_2 hc, r_2_4 hc, b_46 hc, e7, c8]
    exact hQ μ (fun _ _ => rfl) h
theorem rCar {D : Nat} {c : Int} (h : MS θ σ s μ) (hd : 11 ≤ D) (hQ : ∀ μ', ML2 μ μ' → MS θ (sCar σ c) s μ' → Q (some (vi (vCar σ c))) θ μ') : Ex D 241 0 [vr 138, vi c] [] θ μ Q := by
  have hm := h.1.1
  have hd0 : 0 < D := by omega
  have hd1 : 0 < D - 1 := by omega
  have h8 := h.2.1.2.1.2.2.1.1
  have hM := h.2.1.2.2.2.2.2
  obtain ⟨f1, f2, ⟨e7, ec⟩, f4⟩ := h.2.2.1
  unfold sCar vCar at hQ
  by_cases q8 : gC (sG σ) < 8
  · have c8 : ¬ (gC (sG σ) : Int) = 8 := by omega
    by_cases q : okCe c
    · rw [if_pos ⟨q8, q⟩, if_pos ⟨q8, q⟩] at hQ
      have hcl : clI c := q
      obtain ⟨N, hN⟩ : ∃ N, N = gC (sG σ) := ⟨_, rfl⟩
      rw [← hN] at e7 c8 q8
      have i1 : (0 : Int) ≤ (N : Int) := by omega
      have i2 : (N : Int) < 8 := by omega
      have w1 : N < 2147483647 := by omega
      have ew : w32 (((N + 1 : Nat) : Int) - 1) = (N : Int) := by rw [w32_i (by omega) (by omega)]; omega
      simp only [x241_0, x241_1, x241_4, x241_6, x241_9, x241_10, x241_13, x241_16, x241_17, x241_18, x241_19, x241_22, x241_23, x241_26, x241_27, x241_28, x241_29, x241_32, x241_33, x241_36, x241_37, x241_38, x241_39, x241_40, x241_43, x241_44, x241_45, x241_48, x241_49, x241_52, x241_53, x241_54, ↓reduceIte, Bool.false_eq_true, Nat.reduceAdd, Nat.reduceLT, Nat.reduceLeDiff, Nat.reduceSub, Nat.reduceEqDiff, Int.reduceToNat, Int.reduceEq, Int.reduceLT, Int.reduceLE, Int.reduceAdd, Int.reduceSub, zg, zI, zJ, zR, zst, zkl, zn, zcat, zok, zraw, List.length_cons, List.length_nil, Option.toList, List.nil_append, List.cons_append, true_and, and_true, if_true, if_false, ne_eq, not_true, not_false_eq_true, and_self, true_or, or_true, false_or, or_false, false_and, and_false, b_138 hm, r_138_60 hm, r_138_61 hm, x_179 hm i1 i2, x_180 hm i1 i2, e7, c8, mIsCell hd1, if_pos q, hd0, Int.toNat_natCast, ua_eq, us_ne (show (138 : Nat) ≠ 179 by decide), us_ne (show (138 : Nat) ≠ 180 by decide), us_ne (show (180 : Nat) ≠ 179 by decide), us_same, zup_same, w32_s w1, ew]
      clear ew
      rw [← hN] at hQ
      have F : Fr [138, 172, 173, 174, 175, 176, 177, 178, 179, 180, 181, 182, 183, 184, 185, 186, 187, 170, 171] μ (us (us (us μ 179 (zup (μ 179) N c)) 180 (zup (μ 180) N 0)) 138 (zup (μ 138) 59 ((N + 1 : Nat) : Int))) := Fr.us (by simp) (Fr.us (by simp) (Fr.us (by simp) Fr.refl))
      have F2 : Fr [138, 179, 180] μ (us (us (us μ 179 (zup (μ 179) N c)) 180 (zup (μ 180) N 0)) 138 (zup (μ 138) 59 ((N + 1 : Nat) : Int))) := Fr.us (by simp) (Fr.us (by simp) (Fr.us (by simp) Fr.refl))
      refine hQ _ (MLe_fr F (by decide)) (MS_set h ⟨Nat.le_refl _, hM⟩ F (fun j hj => by rw [us_same, zup_ne (by omega)]) (caG_w h.2.1.2.1 (by omega) hcl) ⟨?_, ?_, ⟨?_, fun k hk => ?_⟩, ?_⟩)
      · exact MR_fr f1 F2 (by decide) (by rw [us_same, zup_ne (by decide)])
      · rw [us_ne (by decide), us_ne (by decide), us_ne (by decide)]; exact f2
      · rw [us_same, zup_same rfl]; show _ = (((gC (sG σ) + 1 : Nat)) : Int); rw [← hN]
      · have hk' : k < gC (sG σ) + 1 := hk
        show us (us (us μ 179 _) 180 _) 138 _ 179 k = zup (gA (sG σ)) (gC (sG σ)) c k ∧ us (us (us μ 179 _) 180 _) 138 _ 180 k = zup (gH (sG σ)) (gC (sG σ)) 0 k
        rw [us_ne (by decide), us_ne (by decide), us_same, us_ne (by decide), us_same, ← hN]
        by_cases e0 : k = N
        · rw [zup_same e0, zup_same e0, zup_same e0, zup_same e0]; exact ⟨rfl, rfl⟩
        · rw [zup_ne e0, zup_ne e0, zup_ne e0, zup_ne e0]; exact ec k (by omega)
      · obtain ⟨u1, u2⟩ := f4
        refine ⟨?_, fun k hk => ?_⟩
        · rw [us_same, zup_ne (by decide)]; exact u1
        · rw [F2 181 (by decide), F2 182 (by decide), F2 183 (by decide)]; exact u2 k hk
    · rw [if_neg (fun hh => q hh.2), if_neg (fun hh => q hh.2)] at hQ
      simp only [x241_0, x241_1, x241_4, x241_6, x241_9, x241_10, x241_13, x241_16, x241_17, x241_18, x241_19, x241_22, x241_23, x241_26, x241_27, x241_28, x241_29, x241_32, x241_33, x241_36, x241_37, x241_38, x241_39, x241_40, x241_43, x241_44, x241_45, x241_48, x241_49, x241_52, x241_53, x241_54, ↓reduceIte, Bool.false_eq_true, Nat.reduceAdd, Nat.reduceLT, Nat.reduceLeDiff, Nat.reduceSub, Nat.reduceEqDiff, Int.reduceToNat, Int.reduceEq, Int.reduceLT, Int.reduceLE, Int.reduceAdd, Int.reduceSub, zg, zI, zJ, zR, zst, zkl, zn, zcat, zok, zraw, List.length_cons, List.length_nil, Option.toList, List.nil_append, List.cons_append, true_and, and_true, if_true, if_false, ne_eq, not_true, not_false_eq_true, and_self, true_or, or_true, false_or, or_false, false_and, and_false, b_138 hm, e7, c8, mIsCell hd1, if_neg q, hd0]
      exact hQ μ (fun _ _ => rfl) h
  · rw [if_neg (fun hh => q8 hh.1), if_neg (fun hh => q8 hh.1)] at hQ
    have c8 : (gC (sG σ) : Int) = 8 := by omega
    simp only [x241_0, x241_1, x241_4, x241_6, x241_9, x241_10, x241_13, x241_16, x241_17, x241_18, x241_19, x241_22, x241_23, x241_26, x241_27, x241_28, x241_29, x241_32, x241_33, x241_36, x241_37, x241_38, x241_39, x241_40, x241_43, x241_44, x241_45, x241_48, x241_49, x241_52, x241_53, x241_54, ↓reduceIte, Bool.false_eq_true, Nat.reduceAdd, Nat.reduceLT, Nat.reduceLeDiff, Nat.reduceSub, Nat.reduceEqDiff, Int.reduceToNat, Int.reduceEq, Int.reduceLT, Int.reduceLE, Int.reduceAdd, Int.reduceSub, zg, zI, zJ, zR, zst, zkl, zn, zcat, zok, zraw, List.length_cons, List.length_nil, Option.toList, List.nil_append, List.cons_append, true_and, and_true, if_true, if_false, ne_eq, not_true, not_false_eq_true, and_self, true_or, or_true, false_or, or_false, false_and, and_false, b_138 hm, e7, c8]
    exact hQ μ (fun _ _ => rfl) h
end SC
