/-! CALLS: blow, of the reference -/
section BM
variable {θ : zS} {σ : zSt} {Q : Option zV → zS → zM → Prop} {μ : zM} {s : Nat}
/-- sums over TILES that fall, so far -/
def lyP (τ : zT) (ρ : zF) (g w : Int) (t k : Nat) : Int := sm (fun q => if (rnO τ ρ g w (gnO τ ρ) 36 q).isSome = true ∧ ixO (lnO τ ρ g w q) = k then 1 else 0) t
def hiP (τ : zT) (ρ : zF) (g w : Int) (t : Nat) (x : Int) : Int := sm (fun q => if (rnO τ ρ g w (gnO τ ρ) 36 q).isSome = true ∧ lnO τ ρ g w q = x then 1 else 0) t
theorem lyP_b {τ : zT} {ρ : zF} {g w : Int} (t k : Nat) : 0 ≤ lyP τ ρ g w t k ∧ lyP τ ρ g w t k ≤ t := by
  unfold lyP
  refine ⟨sm_nn (fun i _ => ?_), ?_⟩
  · by_cases hh : (rnO τ ρ g w (gnO τ ρ) 36 i).isSome = true ∧ ixO (lnO τ ρ g w i) = k
    · rw [if_pos hh]; decide
    · rw [if_neg hh]; decide
  · have := sm_le (f := fun q => if (rnO τ ρ g w (gnO τ ρ) 36 q).isSome = true ∧ ixO (lnO τ ρ g w q) = k then (1 : Int) else 0) (n := t) (b := 1) (fun i _ => by
      by_cases hh : (rnO τ ρ g w (gnO τ ρ) 36 i).isSome = true ∧ ixO (lnO τ ρ g w i) = k
      · simp only [if_pos hh]; decide
      · simp only [if_neg hh]; decide)
    omega
theorem hiP_b {τ : zT} {ρ : zF} {g w : Int} (t : Nat) (x : Int) : 0 ≤ hiP τ ρ g w t x ∧ hiP τ ρ g w t x ≤ t := by
  unfold hiP
  refine ⟨sm_nn (fun i _ => ?_), ?_⟩
  · by_cases hh : (rnO τ ρ g w (gnO τ ρ) 36 i).isSome = true ∧ lnO τ ρ g w i = x
    · rw [if_pos hh]; decide
    · rw [if_neg hh]; decide
  · have := sm_le (f := fun q => if (rnO τ ρ g w (gnO τ ρ) 36 q).isSome = true ∧ lnO τ ρ g w q = x then (1 : Int) else 0) (n := t) (b := 1) (fun i _ => by
      by_cases hh : (rnO τ ρ g w (gnO τ ρ) 36 i).isSome = true ∧ lnO τ ρ g w i = x
      · simp only [if_pos hh]; decide
      · simp only [if_neg hh]; decide)
    omega
theorem rBlow {D : Nat} {g w : Int} {x3 x4 x5 : zV} (h : MS θ σ s μ) (hd : 11 ≤ D) (hM : sM σ + 36 ≤ 36 * 600) (hQ : ∀ μ', ML2 μ μ' → MS θ (sBlow σ g w) s μ' → Q (some (vi (vBlow σ g w))) θ μ') : Ex D 238 0 [vr 138, vi g, vi w, x3, x4, x5] [] θ μ Q := by
  have hm := h.1.1
  have hd0 : 0 < D := by omega
  have hd1 : 0 < D - 1 := by omega
  have hwT := h.1.2.1
  have hn := tn_b hwT
  unfold sBlow vBlow at hQ
  by_cases q0 : (0 ≤ g ∧ g ≤ 99) ∧ (0 ≤ w ∧ w ≤ 3)
  · rw [if_pos q0, if_pos q0] at hQ
    have hwG := blG_w (g := g) (w := w) hwT h.2.1.2.1
    have hM2 := h.2.1.2.2.2.2.2
    obtain ⟨⟨y1, y2⟩, ⟨g1, g2⟩, _⟩ := h.2.1.2.1.2
    have hYb : ∀ k, k < 480 → gY (sG σ) k ≤ 36 * 600 := fun k hk => by
      have p1 := sm_part (f := gY (sG σ)) (t := k + 1) y1 (by omega)
      have p2 := sm_part (f := gY (sG σ)) (t := k) y1 (by omega)
      have : sm (gY (sG σ)) (k + 1) = sm (gY (sG σ)) k + gY (sG σ) k := rfl
      omega
    simp only [x238_0, x238_1, x238_2, x238_5, x238_8, x238_9, x238_10, x238_11, x238_12, x238_13, x238_16, x238_17, x238_18, x238_22, x238_23, x238_26, x238_29, x238_30, x238_33, x238_35, x238_36, x238_37, x238_40, x238_43, x238_44, x238_47, x238_49, x238_50, x238_51, x238_52, x238_55, x238_56, x238_59, x238_61, x238_62, x238_65, x238_66, x238_67, x238_68, x238_69, x238_70, x238_71, x238_75, x238_76, x238_79, x238_82, x238_83, x238_86, x238_88, x238_89, x238_90, x238_93, x238_95, x238_96, x238_99, x238_100, x238_103, x238_105, x238_106, x238_107, x238_108, x238_109, x238_110, x238_113, x238_116, x238_119, x238_122, x238_123, ↓reduceIte, Bool.false_eq_true, Nat.reduceAdd, Nat.reduceLT, Nat.reduceLeDiff, Nat.reduceSub, Nat.reduceEqDiff, Int.reduceToNat, Int.reduceEq, Int.reduceLT, Int.reduceLE, Int.reduceAdd, Int.reduceSub, zg, zI, zJ, zR, zst, zkl, zn, zcat, zok, zraw, List.length_cons, List.length_nil, Option.toList, List.nil_append, List.cons_append, true_and, and_true, if_true, if_false, ne_eq, not_true, not_false_eq_true, and_self, true_or, or_true, false_or, or_false, false_and, and_false, b_138 hm, hd0, mIsGust _ hd1, if_pos q0]
    refine mFall (d := D - 1) (by omega) h.1 h.2.2.1.1 q0.1 q0.2 rfl rfl (fun μ1 f1 j1 hF => ?_)
    have h1 := MS_fr h f1 (by decide) j1.nine
    have L1 : ML2 μ μ1 := MLe_fr f1 (by decide)
    obtain ⟨⟨⟨m1, m2, m3, m4⟩, m5⟩, s2, s3, s4⟩ := h1.2.2.1
    obtain ⟨n, hn0⟩ : ∃ n, n = faO (sT σ) (gR (sG σ)) g w := ⟨_, rfl⟩
    rw [← hn0] at hQ ⊢
    simp only [x238_0, x238_1, x238_2, x238_5, x238_8, x238_9, x238_10, x238_11, x238_12, x238_13, x238_16, x238_17, x238_18, x238_22, x238_23, x238_26, x238_29, x238_30, x238_33, x238_35, x238_36, x238_37, x238_40, x238_43, x238_44, x238_47, x238_49, x238_50, x238_51, x238_52, x238_55, x238_56, x238_59, x238_61, x238_62, x238_65, x238_66, x238_67, x238_68, x238_69, x238_70, x238_71, x238_75, x238_76, x238_79, x238_82, x238_83, x238_86, x238_88, x238_89, x238_90, x238_93, x238_95, x238_96, x238_99, x238_100, x238_103, x238_105, x238_106, x238_107, x238_108, x238_109, x238_110, x238_113, x238_116, x238_119, x238_122, x238_123, ↓reduceIte, Bool.false_eq_true, Nat.reduceAdd, Nat.reduceLT, Nat.reduceLeDiff, Nat.reduceSub, Nat.reduceEqDiff, Int.reduceToNat, Int.reduceEq, Int.reduceLT, Int.reduceLE, Int.reduceAdd, Int.reduceSub, zg, zI, zJ, zR, zst, zkl, zn, zcat, zok, zraw, List.length_cons, List.length_nil, Option.toList, List.nil_append, List.cons_append, true_and, and_true, if_true, if_false, ne_eq, not_true, not_false_eq_true, and_self, true_or, or_true, false_or, or_false, false_and, and_false, b_138 hm, zkl]
    -- of one TILE: the CARS
    have inner : ∀ (t : Nat) (μ2 : zM) (cc : Int), t < tn (sT σ) → Fr [172, 178] μ1 μ2 ∨ Fr [172, 178, 180] μ1 μ2 → lnO (sT σ) (gR (sG σ)) g w t = cc → μ2 186 t = cc → (rnO (sT σ) (gR (sG σ)) g w (gnO (sT σ) (gR (sG σ))) 36 t).isSome = true → (∀ k, k < gC (sG σ) → μ2 180 k = gH (sG σ) k + hiP (sT σ) (gR (sG σ)) g w t (gA (sG σ) k)) →
        (∀ μ3 y5, Fr [180] μ2 μ3 → (∀ k, k < gC (sG σ) → μ3 180 k = gH (sG σ) k + hiP (sT σ) (gR (sG σ)) g w (t + 1) (gA (sG σ) k)) → Ex D 238 116 [vr 138, vi g, vi w, vi n, vi (t : Nat), y5] [] θ μ3 Q) →
        Ex D 238 73 [vr 138, vi g, vi w, vi n, vi (t : Nat), vi 0] [] θ μ2 Q := by
      intro t μ2 cc ht hf hcc e186 hs hh hend
      have t1 : (0 : Int) ≤ (t : Int) := by omega
      have t2 : (t : Int) < 36 := by omega
      have hf3 : Fr [172, 178, 180] μ1 μ2 := hf.elim (fun f => f.mono (by simp)) (fun f => f)
      have kk : ∀ i L μ3, i ≤ gC (sG σ) → (L = [vr 138, vi g, vi w, vi n, vi (t : Nat), vi (i : Nat)] ∧ Fr [180] μ2 μ3 ∧ ∀ k, k < gC (sG σ) → μ3 180 k = gH (sG σ) k + hiP (sT σ) (gR (sG σ)) g w t (gA (sG σ) k) + (if k < i ∧ cc = gA (sG σ) k then 1 else 0)) → Ex D 238 73 L [] θ μ3 Q := by
        refine Ex_loop (I := fun i L μ3 => L = [vr 138, vi g, vi w, vi n, vi (t : Nat), vi (i : Nat)] ∧ Fr [180] μ2 μ3 ∧ ∀ k, k < gC (sG σ) → μ3 180 k = gH (sG σ) k + hiP (sT σ) (gR (sG σ)) g w t (gA (sG σ) k) + (if k < i ∧ cc = gA (sG σ) k then 1 else 0)) (gC (sG σ)) ?_ ?_
        · rintro i L μ3 hi ⟨rfl, f, hk0⟩ hk
          have e59 : μ3 138 59 = (gC (sG σ) : Nat) := by rw [f 138 (by decide), hf3 138 (by decide)]; exact s3.1
          have e179 : μ3 179 i = gA (sG σ) i := by rw [f 179 (by decide), hf3 179 (by decide)]; exact (s3.2 i hi).1
          have e186' : μ3 186 t = cc := by rw [f 186 (by decide)]; exact e186
          have e180 := hk0 i hi
          rw [if_neg (fun hh => by omega), Int.add_zero] at e180
          have c1 : ¬ ((gC (sG σ) : Nat) : Int) ≤ (i : Int) := by omega
          have i1 : (0 : Int) ≤ (i : Int) := by omega
          have i2 : (i : Int) < 8 := by omega
          have w1 : i < 2147483647 := by omega
          have bH := (g2 i hi).2
          have bP := hiP_b (τ := sT σ) (ρ := gR (sG σ)) (g := g) (w := w) t (gA (sG σ) i)
          rw [x238_73]
          by_cases e : gA (sG σ) i = cc
          · have v1 : -2147483648 ≤ gH (sG σ) i + hiP (sT σ) (gR (sG σ)) g w t (gA (sG σ) i) + 1 := by omega
            have v2 : gH (sG σ) i + hiP (sT σ) (gR (sG σ)) g w t (gA (sG σ) i) + 1 ≤ 2147483647 := by omega
            rw [e] at v1 v2 e180 e179
            simp only [x238_0, x238_1, x238_2, x238_5, x238_8, x238_9, x238_10, x238_11, x238_12, x238_13, x238_16, x238_17, x238_18, x238_22, x238_23, x238_26, x238_29, x238_30, x238_33, x238_35, x238_36, x238_37, x238_40, x238_43, x238_44, x238_47, x238_49, x238_50, x238_51, x238_52, x238_55, x238_56, x238_59, x238_61, x238_62, x238_65, x238_66, x238_67, x238_68, x238_69, x238_70, x238_71, x238_75, x238_76, x238_79, x238_82, x238_83, x238_86, x238_88, x238_89, x238_90, x238_93, x238_95, x238_96, x238_99, x238_100, x238_103, x238_105, x238_106, x238_107, x238_108, x238_109, x238_110, x238_113, x238_116, x238_119, x238_122, x238_123, ↓reduceIte, Bool.false_eq_true, Nat.reduceAdd, Nat.reduceLT, Nat.reduceLeDiff, Nat.reduceSub, Nat.reduceEqDiff, Int.reduceToNat, Int.reduceEq, Int.reduceLT, Int.reduceLE, Int.reduceAdd, Int.reduceSub, zg, zI, zJ, zR, zst, zkl, zn, zcat, zok, zraw, List.length_cons, List.length_nil, Option.toList, List.nil_append, List.cons_append, true_and, and_true, if_true, if_false, ne_eq, not_true, not_false_eq_true, and_self, true_or, or_true, false_or, or_false, false_and, and_false, b_138 hm, e59, c1, r_138_60 hm, r_138_68 hm, r_138_61 hm, x_179 hm i1 i2, x_186 hm t1 t2, x_180 hm i1 i2, Int.toNat_natCast, e179, e186', e180, w32_i v1 v2, w32_s w1, ua_eq]
            refine hk _ _ ⟨rfl, f.trans (Fr.us (by simp) Fr.refl), fun k hk2 => ?_⟩
            rw [us_same]
            by_cases ek : k = i
            · rw [zup_same ek, ek, if_pos ⟨by omega, e.symm⟩, e]
            · rw [zup_ne ek, hk0 k hk2]
              by_cases e3 : k < i ∧ cc = gA (sG σ) k
              · rw [if_pos e3, if_pos ⟨by omega, e3.2⟩]
              · rw [if_neg e3, if_neg (fun hh => e3 ⟨by omega, hh.2⟩)]
          · simp only [x238_0, x238_1, x238_2, x238_5, x238_8, x238_9, x238_10, x238_11, x238_12, x238_13, x238_16, x238_17, x238_18, x238_22, x238_23, x238_26, x238_29, x238_30, x238_33, x238_35, x238_36, x238_37, x238_40, x238_43, x238_44, x238_47, x238_49, x238_50, x238_51, x238_52, x238_55, x238_56, x238_59, x238_61, x238_62, x238_65, x238_66, x238_67, x238_68, x238_69, x238_70, x238_71, x238_75, x238_76, x238_79, x238_82, x238_83, x238_86, x238_88, x238_89, x238_90, x238_93, x238_95, x238_96, x238_99, x238_100, x238_103, x238_105, x238_106, x238_107, x238_108, x238_109, x238_110, x238_113, x238_116, x238_119, x238_122, x238_123, ↓reduceIte, Bool.false_eq_true, Nat.reduceAdd, Nat.reduceLT, Nat.reduceLeDiff, Nat.reduceSub, Nat.reduceEqDiff, Int.reduceToNat, Int.reduceEq, Int.reduceLT, Int.reduceLE, Int.reduceAdd, Int.reduceSub, zg, zI, zJ, zR, zst, zkl, zn, zcat, zok, zraw, List.length_cons, List.length_nil, Option.toList, List.nil_append, List.cons_append, true_and, and_true, if_true, if_false, ne_eq, not_true, not_false_eq_true, and_self, true_or, or_true, false_or, or_false, false_and, and_false, b_138 hm, e59, c1, r_138_60 hm, r_138_68 hm, x_179 hm i1 i2, x_186 hm t1 t2, Int.toNat_natCast, e179, e186', e, w32_s w1]
            refine hk _ _ ⟨rfl, f, fun k hk2 => ?_⟩
            rw [hk0 k hk2]
            by_cases e3 : k < i ∧ cc = gA (sG σ) k
            · rw [if_pos e3, if_pos ⟨by omega, e3.2⟩]
            · rw [if_neg e3, if_neg (fun hh => e3 ⟨Nat.lt_of_le_of_ne (Nat.le_of_lt_succ hh.1) (fun q => e (by rw [← q]; exact hh.2.symm)), hh.2⟩)]
        · rintro L μ3 ⟨rfl, f, hk0⟩
          have e59 : μ3 138 59 = (gC (sG σ) : Nat) := by rw [f 138 (by decide), hf3 138 (by decide)]; exact s3.1
          have := hend μ3 (vi (gC (sG σ) : Nat)) f (fun k hk2 => by
            rw [hk0 k hk2]
            have es : hiP (sT σ) (gR (sG σ)) g w (t + 1) (gA (sG σ) k) = hiP (sT σ) (gR (sG σ)) g w t (gA (sG σ) k) + (if (rnO (sT σ) (gR (sG σ)) g w (gnO (sT σ) (gR (sG σ))) 36 t).isSome = true ∧ lnO (sT σ) (gR (sG σ)) g w t = gA (sG σ) k then 1 else 0) := rfl
            rw [es, hcc]
            by_cases e3 : cc = gA (sG σ) k
            · rw [if_pos ⟨hk2, e3⟩, if_pos ⟨hs, e3⟩]; omega
            · rw [if_neg (fun hh => e3 hh.2), if_neg (fun hh => e3 hh.2)]; omega)
          rw [x238_73]
          simp only [x238_0, x238_1, x238_2, x238_5, x238_8, x238_9, x238_10, x238_11, x238_12, x238_13, x238_16, x238_17, x238_18, x238_22, x238_23, x238_26, x238_29, x238_30, x238_33, x238_35, x238_36, x238_37, x238_40, x238_43, x238_44, x238_47, x238_49, x238_50, x238_51, x238_52, x238_55, x238_56, x238_59, x238_61, x238_62, x238_65, x238_66, x238_67, x238_68, x238_69, x238_70, x238_71, x238_75, x238_76, x238_79, x238_82, x238_83, x238_86, x238_88, x238_89, x238_90, x238_93, x238_95, x238_96, x238_99, x238_100, x238_103, x238_105, x238_106, x238_107, x238_108, x238_109, x238_110, x238_113, x238_119, x238_122, x238_123, ↓reduceIte, Bool.false_eq_true, Nat.reduceAdd, Nat.reduceLT, Nat.reduceLeDiff, Nat.reduceSub, Nat.reduceEqDiff, Int.reduceToNat, Int.reduceEq, Int.reduceLT, Int.reduceLE, Int.reduceAdd, Int.reduceSub, zg, zI, zJ, zR, zst, zkl, zn, zcat, zok, zraw, List.length_cons, List.length_nil, Option.toList, List.nil_append, List.cons_append, true_and, and_true, if_true, if_false, ne_eq, not_true, not_false_eq_true, and_self, true_or, or_true, false_or, or_false, false_and, and_false, b_138 hm, e59, Int.le_refl]
          exact this
      exact kk 0 _ _ (Nat.zero_le _) ⟨rfl, Fr.refl, fun k hk2 => by rw [hh k hk2, if_neg (fun hh => Nat.not_lt_zero _ hh.1), Int.add_zero]⟩
    have key : ∀ t L μ2, t ≤ tn (sT σ) → (∃ y5 : zV, L = [vr 138, vi g, vi w, vi n, vi (t : Nat), y5] ∧ Fr [172, 178, 180] μ1 μ2 ∧ (∀ q, q < tn (sT σ) → μ2 172 q = if q < t ∧ (rnO (sT σ) (gR (sG σ)) g w (gnO (sT σ) (gR (sG σ))) 36 q).isSome = true then 1 else 1 - (gR (sG σ)).1 0 q) ∧ (∀ k, k < 480 → μ2 178 k = gY (sG σ) k + lyP (sT σ) (gR (sG σ)) g w t k) ∧ ∀ k, k < gC (sG σ) → μ2 180 k = gH (sG σ) k + hiP (sT σ) (gR (sG σ)) g w t (gA (sG σ) k)) → Ex D 238 20 L [] θ μ2 Q := by
      refine Ex_loop (I := fun t L μ2 => ∃ y5 : zV, L = [vr 138, vi g, vi w, vi n, vi (t : Nat), y5] ∧ Fr [172, 178, 180] μ1 μ2 ∧ (∀ q, q < tn (sT σ) → μ2 172 q = if q < t ∧ (rnO (sT σ) (gR (sG σ)) g w (gnO (sT σ) (gR (sG σ))) 36 q).isSome = true then 1 else 1 - (gR (sG σ)).1 0 q) ∧ (∀ k, k < 480 → μ2 178 k = gY (sG σ) k + lyP (sT σ) (gR (sG σ)) g w t k) ∧ ∀ k, k < gC (sG σ) → μ2 180 k = gH (sG σ) k + hiP (sT σ) (gR (sG σ)) g w t (gA (sG σ) k)) (tn (sT σ)) ?_ ?_
      · rintro t L μ2 ht ⟨y5, rfl, f, hg, hy, hh⟩ hk
        have X2 : MX θ (sT σ) s μ2 := MX_fr h1.1 f (by decide) (by rw [f 138 (by decide)])
        have c1 : ¬ ((tn (sT σ) : Int) ≤ (t : Int)) := by omega
        have t1 : (0 : Int) ≤ (t : Int) := by omega
        have t2 : (t : Int) < 36 := by omega
        have w1 : t < 2147483647 := by omega
        have e185 : μ2 185 t = rnM (rnO (sT σ) (gR (sG σ)) g w (gnO (sT σ) (gR (sG σ))) 36 t) := by rw [f 185 (by decide)]; exact hF.2.1 t ht
        have esl : ∀ k, lyP (sT σ) (gR (sG σ)) g w (t + 1) k = lyP (sT σ) (gR (sG σ)) g w t k + (if (rnO (sT σ) (gR (sG σ)) g w (gnO (sT σ) (gR (sG σ))) 36 t).isSome = true ∧ ixO (lnO (sT σ) (gR (sG σ)) g w t) = k then 1 else 0) := fun k => rfl
        have esh : ∀ x, hiP (sT σ) (gR (sG σ)) g w (t + 1) x = hiP (sT σ) (gR (sG σ)) g w t x + (if (rnO (sT σ) (gR (sG σ)) g w (gnO (sT σ) (gR (sG σ))) 36 t).isSome = true ∧ lnO (sT σ) (gR (sG σ)) g w t = x then 1 else 0) := fun x => rfl
        rw [x238_20]
        cases hq : rnO (sT σ) (gR (sG σ)) g w (gnO (sT σ) (gR (sG σ))) 36 t with
        | none =>
          have e185' : μ2 185 t = -1 := by rw [e185, hq]; rfl
          have hno : ¬ (rnO (sT σ) (gR (sG σ)) g w (gnO (sT σ) (gR (sG σ))) 36 t).isSome = true := by rw [hq]; simp
          simp only [x238_0, x238_1, x238_2, x238_5, x238_8, x238_9, x238_10, x238_11, x238_12, x238_13, x238_16, x238_17, x238_18, x238_22, x238_23, x238_26, x238_29, x238_30, x238_33, x238_35, x238_36, x238_37, x238_40, x238_43, x238_44, x238_47, x238_49, x238_50, x238_51, x238_52, x238_55, x238_56, x238_59, x238_61, x238_62, x238_65, x238_66, x238_67, x238_68, x238_69, x238_70, x238_71, x238_75, x238_76, x238_79, x238_82, x238_83, x238_86, x238_88, x238_89, x238_90, x238_93, x238_95, x238_96, x238_99, x238_100, x238_103, x238_105, x238_106, x238_107, x238_108, x238_109, x238_110, x238_113, x238_116, x238_119, x238_122, x238_123, ↓reduceIte, Bool.false_eq_true, Nat.reduceAdd, Nat.reduceLT, Nat.reduceLeDiff, Nat.reduceSub, Nat.reduceEqDiff, Int.reduceToNat, Int.reduceEq, Int.reduceLT, Int.reduceLE, Int.reduceAdd, Int.reduceSub, zg, zI, zJ, zR, zst, zkl, zn, zcat, zok, zraw, List.length_cons, List.length_nil, Option.toList, List.nil_append, List.cons_append, true_and, and_true, if_true, if_false, ne_eq, not_true, not_false_eq_true, and_self, true_or, or_true, false_or, or_false, false_and, and_false, b_138 hm, hd0, mTiles _ X2, c1, r_138_67 hm, x_185 hm t1 t2, Int.toNat_natCast, e185', w32_s w1]
          refine hk _ _ ⟨y5, rfl, f, fun q hq2 => ?_, fun k hk2 => ?_, fun k hk2 => ?_⟩
          · rw [hg q hq2]
            by_cases e : q < t ∧ (rnO (sT σ) (gR (sG σ)) g w (gnO (sT σ) (gR (sG σ))) 36 q).isSome = true
            · rw [if_pos e, if_pos ⟨by omega, e.2⟩]
            · rw [if_neg e, if_neg (fun h2 => e ⟨Nat.lt_of_le_of_ne (Nat.le_of_lt_succ h2.1) (fun q' => hno (by rw [← q']; exact h2.2)), h2.2⟩)]
          · rw [hy k hk2, esl, if_neg (fun h2 => hno h2.1), Int.add_zero]
          · rw [hh k hk2, esh, if_neg (fun h2 => hno h2.1), Int.add_zero]
        | some r =>
          have e185' : ¬ μ2 185 t = -1 := by rw [e185, hq]; simp [rnM]
          have hyes : (rnO (sT σ) (gR (sG σ)) g w (gnO (sT σ) (gR (sG σ))) 36 t).isSome = true := by rw [hq]; rfl
          have ec : lnO (sT σ) (gR (sG σ)) g w t = ceO (sT σ) (gR (sG σ)) (loO (sT σ) (gR (sG σ)) g w (gnO (sT σ) (gR (sG σ))) r) t g w := by unfold lnO; rw [hq]
          obtain ⟨cc, hcc⟩ : ∃ cc, cc = lnO (sT σ) (gR (sG σ)) g w t := ⟨_, rfl⟩
          have e186 : μ2 186 t = cc := by rw [f 186 (by decide), hcc, ec]; exact hF.2.2.1 t ht r hq
          have hcl : clI cc := by rw [hcc, ec]; exact ce_ok hwT ht q0.2
          have hb := (ix_b hcl).1
          have j1 : (0 : Int) ≤ ((ixO cc : Nat) : Int) := by omega
          have j2 : ((ixO cc : Nat) : Int) < 480 := by omega
          have eo := hy _ hb
          have bP := lyP_b (τ := sT σ) (ρ := gR (sG σ)) (g := g) (w := w) t (ixO cc)
          have bY := hYb _ hb
          have bY1 := y1 _ hb
          have l1 : -2147483648 ≤ gY (sG σ) (ixO cc) + lyP (sT σ) (gR (sG σ)) g w t (ixO cc) + 1 := by omega
          have l2 : gY (sG σ) (ixO cc) + lyP (sT σ) (gR (sG σ)) g w t (ixO cc) + 1 ≤ 2147483647 := by omega
          have z1 : (1 : Int) = 0 ∨ (1 : Int) = 1 := Or.inr rfl
          obtain ⟨μ3, hμ3⟩ : ∃ μ3, μ3 = us (us μ2 172 (zup (μ2 172) t 1)) 178 (zup (μ2 178) (ixO cc) (gY (sG σ) (ixO cc) + lyP (sT σ) (gR (sG σ)) g w t (ixO cc) + 1)) := ⟨_, rfl⟩
          have f3 : Fr [172, 178] μ2 μ3 := by rw [hμ3]; exact Fr.us (by simp) (Fr.us (by simp) Fr.refl)
          have go := inner t μ3 cc ht (Or.inr (f.trans (f3.mono (by simp)))) hcc.symm (by rw [f3 186 (by decide)]; exact e186) hyes (fun k hk2 => by rw [f3 180 (by decide)]; exact hh k hk2) (fun μ4 y5' f4 hh4 => ?_)
          · simp only [x238_0, x238_1, x238_2, x238_5, x238_8, x238_9, x238_10, x238_11, x238_12, x238_13, x238_16, x238_17, x238_18, x238_22, x238_23, x238_26, x238_29, x238_30, x238_33, x238_35, x238_36, x238_37, x238_40, x238_43, x238_44, x238_47, x238_49, x238_50, x238_51, x238_52, x238_55, x238_56, x238_59, x238_61, x238_62, x238_65, x238_66, x238_67, x238_68, x238_69, x238_70, x238_71, x238_75, x238_76, x238_79, x238_82, x238_83, x238_86, x238_88, x238_89, x238_90, x238_93, x238_95, x238_96, x238_99, x238_100, x238_103, x238_105, x238_106, x238_107, x238_108, x238_109, x238_110, x238_113, x238_116, x238_119, x238_122, x238_123, ↓reduceIte, Bool.false_eq_true, Nat.reduceAdd, Nat.reduceLT, Nat.reduceLeDiff, Nat.reduceSub, Nat.reduceEqDiff, Int.reduceToNat, Int.reduceEq, Int.reduceLT, Int.reduceLE, Int.reduceAdd, Int.reduceSub, zg, zI, zJ, zR, zst, zkl, zn, zcat, zok, zraw, List.length_cons, List.length_nil, Option.toList, List.nil_append, List.cons_append, true_and, and_true, if_true, if_false, ne_eq, not_true, not_false_eq_true, and_self, true_or, or_true, false_or, or_false, false_and, and_false, b_138 hm, hd0, mTiles _ X2, c1, r_138_67 hm, r_138_68 hm, r_138_51 hm, r_138_58 hm, x_185 hm t1 t2, x_186 hm t1 t2, x_172 hm t1 t2, n_172 hm, x_178 hm j1 j2, Int.toNat_natCast, e185', ua_eq, z1, us_ne (show (186 : Nat) ≠ 172 by decide), us_ne (show (178 : Nat) ≠ 172 by decide), e186, mYardOf _ hcl, eo, w32_i l1 l2, ← hμ3]
            exact go
          · simp only [x238_0, x238_1, x238_2, x238_5, x238_8, x238_9, x238_10, x238_11, x238_12, x238_13, x238_16, x238_17, x238_18, x238_22, x238_23, x238_26, x238_29, x238_30, x238_33, x238_35, x238_36, x238_37, x238_40, x238_43, x238_44, x238_47, x238_49, x238_50, x238_51, x238_52, x238_55, x238_56, x238_59, x238_61, x238_62, x238_65, x238_66, x238_67, x238_68, x238_69, x238_70, x238_71, x238_75, x238_76, x238_79, x238_82, x238_83, x238_86, x238_88, x238_89, x238_90, x238_93, x238_95, x238_96, x238_99, x238_100, x238_103, x238_105, x238_106, x238_107, x238_108, x238_109, x238_110, x238_113, x238_116, x238_119, x238_122, x238_123, ↓reduceIte, Bool.false_eq_true, Nat.reduceAdd, Nat.reduceLT, Nat.reduceLeDiff, Nat.reduceSub, Nat.reduceEqDiff, Int.reduceToNat, Int.reduceEq, Int.reduceLT, Int.reduceLE, Int.reduceAdd, Int.reduceSub, zg, zI, zJ, zR, zst, zkl, zn, zcat, zok, zraw, List.length_cons, List.length_nil, Option.toList, List.nil_append, List.cons_append, true_and, and_true, if_true, if_false, ne_eq, not_true, not_false_eq_true, and_self, true_or, or_true, false_or, or_false, false_and, and_false, w32_s w1]
            refine hk _ _ ⟨_, rfl, (f.trans (f3.mono (by simp))).trans (f4.mono (by simp)), fun q hq2 => ?_, fun k hk2 => ?_, hh4⟩
            · rw [f4 172 (by decide), hμ3, us_ne (by decide), us_same]
              by_cases e : q = t
              · rw [zup_same e, if_pos ⟨by omega, by rw [e]; exact hyes⟩]
              · rw [zup_ne e, hg q hq2]
                by_cases e2 : q < t ∧ (rnO (sT σ) (gR (sG σ)) g w (gnO (sT σ) (gR (sG σ))) 36 q).isSome = true
                · rw [if_pos e2, if_pos ⟨by omega, e2.2⟩]
                · rw [if_neg e2, if_neg (fun h2 => e2 ⟨by omega, h2.2⟩)]
            · rw [f4 178 (by decide), hμ3, us_same, esl, ← hcc]
              by_cases e : k = ixO cc
              · rw [zup_same e, if_pos ⟨hyes, e.symm⟩, e]; omega
              · rw [zup_ne e, hy k hk2, if_neg (fun h2 => e h2.2.symm), Int.add_zero]
      · rintro L μ2 ⟨y5, rfl, f, hg, hy, hh⟩
        have X2 : MX θ (sT σ) s μ2 := MX_fr h1.1 f (by decide) (by rw [f 138 (by decide)])
        rw [x238_20]
        simp only [x238_0, x238_1, x238_2, x238_5, x238_8, x238_9, x238_10, x238_11, x238_12, x238_13, x238_16, x238_17, x238_18, x238_22, x238_23, x238_26, x238_29, x238_30, x238_33, x238_35, x238_36, x238_37, x238_40, x238_43, x238_44, x238_47, x238_49, x238_50, x238_51, x238_52, x238_55, x238_56, x238_59, x238_61, x238_62, x238_65, x238_66, x238_67, x238_68, x238_69, x238_70, x238_71, x238_75, x238_76, x238_79, x238_82, x238_83, x238_86, x238_88, x238_89, x238_90, x238_93, x238_95, x238_96, x238_99, x238_100, x238_103, x238_105, x238_106, x238_107, x238_108, x238_109, x238_110, x238_113, x238_116, x238_119, x238_122, x238_123, ↓reduceIte, Bool.false_eq_true, Nat.reduceAdd, Nat.reduceLT, Nat.reduceLeDiff, Nat.reduceSub, Nat.reduceEqDiff, Int.reduceToNat, Int.reduceEq, Int.reduceLT, Int.reduceLE, Int.reduceAdd, Int.reduceSub, zg, zI, zJ, zR, zst, zkl, zn, zcat, zok, zraw, List.length_cons, List.length_nil, Option.toList, List.nil_append, List.cons_append, true_and, and_true, if_true, if_false, ne_eq, not_true, not_false_eq_true, and_self, true_or, or_true, false_or, or_false, false_and, and_false, b_138 hm, hd0, mTiles _ X2, Int.le_refl]
        have F : Fr [138, 172, 173, 174, 175, 176, 177, 178, 179, 180, 181, 182, 183, 184, 185, 186, 187, 170, 171] μ1 μ2 := f.mono (by simp)
        refine hQ μ2 (fun a ha => by rw [F a (by simp; omega)]; exact L1 a ha) (MS_set h1 ⟨by omega, hM⟩ F (fun j _ => by rw [f 138 (by decide)]) hwG ⟨⟨⟨hwG.1, fun t ht => ?_, fun k hk => ?_, ?_⟩, fun t ht => ?_⟩, fun k hk => ?_, ⟨?_, fun k hk => ⟨?_, ?_⟩⟩, ?_⟩)
        · rw [f 173 (by decide), f 174 (by decide), f 175 (by decide), f 176 (by decide)]
          have := m2 t ht
          show _ = (loF (gR (sG σ)) (alO (sT σ) (gR (sG σ)) g w (gnO (sT σ) (gR (sG σ))))).1 1 t ∧ _ = (loF (gR (sG σ)) (alO (sT σ) (gR (sG σ)) g w (gnO (sT σ) (gR (sG σ))))).1 2 t ∧ _ = (loF (gR (sG σ)) (alO (sT σ) (gR (sG σ)) g w (gnO (sT σ) (gR (sG σ))))).1 3 t ∧ _ = (loF (gR (sG σ)) (alO (sT σ) (gR (sG σ)) g w (gnO (sT σ) (gR (sG σ))))).1 4 t
          unfold loF
          simp only [show ¬ (1 : Nat) = 0 by decide, show ¬ (2 : Nat) = 0 by decide, show ¬ (3 : Nat) = 0 by decide, show ¬ (4 : Nat) = 0 by decide, false_and, if_false]
          exact this
        · rw [f 177 (by decide)]; exact m3 k hk
        · rw [f 138 (by decide)]; exact m4
        · rw [hg t ht]
          show _ = 1 - (loF (gR (sG σ)) (alO (sT σ) (gR (sG σ)) g w (gnO (sT σ) (gR (sG σ))))).1 0 t
          have hmem : t ∈ alO (sT σ) (gR (sG σ)) g w (gnO (sT σ) (gR (sG σ))) ↔ (rnO (sT σ) (gR (sG σ)) g w (gnO (sT σ) (gR (sG σ))) 36 t).isSome = true := or_mem
          unfold loF
          simp only [true_and]
          by_cases e : (rnO (sT σ) (gR (sG σ)) g w (gnO (sT σ) (gR (sG σ))) 36 t).isSome = true
          · rw [if_pos ⟨ht, e⟩, if_pos (hmem.mpr e)]; rfl
          · rw [if_neg (fun h2 => e h2.2), if_neg (fun h2 => e (hmem.mp h2))]
        · exact hy k hk
        · rw [f 138 (by decide)]; exact s3.1
        · rw [f 179 (by decide)]; exact (s3.2 k hk).1
        · exact hh k hk
        · obtain ⟨u1, u2⟩ := s4
          exact ⟨by rw [f 138 (by decide)]; exact u1, fun k hk => by rw [f 181 (by decide), f 182 (by decide), f 183 (by decide)]; exact u2 k hk⟩
    refine key 0 _ _ (Nat.zero_le _) ⟨x5, rfl, Fr.refl, fun q hq => ?_, fun k hk => ?_, fun k hk => ?_⟩
    · rw [if_neg (fun hh => Nat.not_lt_zero _ hh.1)]; exact m5 q hq
    · show _ = gY (sG σ) k + 0; rw [Int.add_zero]; exact s2 k hk
    · show _ = gH (sG σ) k + 0; rw [Int.add_zero]; exact (s3.2 k hk).2
  · rw [if_neg q0, if_neg q0] at hQ
    simp only [x238_0, x238_1, x238_2, x238_5, x238_8, x238_9, x238_10, x238_11, x238_12, x238_13, x238_16, x238_17, x238_18, x238_22, x238_23, x238_26, x238_29, x238_30, x238_33, x238_35, x238_36, x238_37, x238_40, x238_43, x238_44, x238_47, x238_49, x238_50, x238_51, x238_52, x238_55, x238_56, x238_59, x238_61, x238_62, x238_65, x238_66, x238_67, x238_68, x238_69, x238_70, x238_71, x238_75, x238_76, x238_79, x238_82, x238_83, x238_86, x238_88, x238_89, x238_90, x238_93, x238_95, x238_96, x238_99, x238_100, x238_103, x238_105, x238_106, x238_107, x238_108, x238_109, x238_110, x238_113, x238_116, x238_119, x238_122, x238_123, ↓reduceIte, Bool.false_eq_true, Nat.reduceAdd, Nat.reduceLT, Nat.reduceLeDiff, Nat.reduceSub, Nat.reduceEqDiff, Int.reduceToNat, Int.reduceEq, Int.reduceLT, Int.reduceLE, Int.reduceAdd, Int.reduceSub, zg, zI, zJ, zR, zst, zkl, zn, zcat, zok, zraw, List.length_cons, List.length_nil, Option.toList, List.nil_append, List.cons_append, true_and, and_true, if_true, if_false, ne_eq, not_true, not_false_eq_true, and_self, true_or, or_true, false_or, or_false, false_and, and_false, b_138 hm, hd0, mIsGust _ hd1, if_neg q0]
    exact hQ μ (fun _ _ => rfl) h
end BM
