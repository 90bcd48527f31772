/-! THE GALE: run, firstOf -/
section LN
variable {θ : zS} {T U : Nat} {τ : zT} {Q : Option zV → zS → zM → Prop} {μ : zM} {ρ : zF} {lost l0 : Nat → Int} {g w : Int}
/-- what a run leaves, r rounds in, of the next round the first k TILES -/
def prO2 (τ : zT) (ρ : zF) (g w : Int) (l0 : Nat → Int) (r k : Nat) : List Nat := orO τ ρ g w l0 r ++ (List.range k).filter (fun t => giO τ ρ g w l0 r t)
def rnK (τ : zT) (ρ : zF) (g w : Int) (l0 : Nat → Int) (r k t : Nat) : Option Nat := if t < k then rnO τ ρ g w l0 (r + 1) t else rnO τ ρ g w l0 r t
def RS (τ : zT) (ρ : zF) (g w : Int) (l0 : Nat → Int) (ld : Int) (r k : Nat) (μ : zM) : Prop := μ 40 3 = ((prO2 τ ρ g w l0 r k).length : Nat) ∧ μ 40 4 = (r : Int)
  ∧ (∀ i (h : i < (prO2 τ ρ g w l0 r k).length), μ 41 i = ((prO2 τ ρ g w l0 r k)[i] : Nat)) ∧ (∀ t, t < tn τ → μ 42 t = rnV (rnK τ ρ g w l0 r k t))
  ∧ (ld = 1 → ∀ t, t < tn τ → ∀ q, rnK τ ρ g w l0 r k t = some q → μ 43 t = ceO τ ρ (loO τ ρ g w l0 q) t g w)
theorem pr_len (hn : tn τ ≤ 36) (hz : lz l0) {r k : Nat} (hk : k ≤ tn τ) : (prO2 τ ρ g w l0 r k).length ≤ tn τ := by
  have h1 := or_len (τ := τ) (ρ := ρ) (g := g) (w := w) (l0 := l0) (r := r + 1)
  have h3 : hlO τ (loO τ ρ g w l0 (r + 1)) ≤ tn τ := by
    have := sm_le (f := loO τ ρ g w l0 (r + 1)) (n := tn τ) (b := 1) (fun i _ => by have := lo_z (τ := τ) (ρ := ρ) (g := g) (w := w) (r := r + 1) hz i; omega)
    unfold hlO; omega
  have h4 : 0 ≤ hlO τ l0 := sm_nn (fun i _ => by have := hz i; omega)
  have h5 : ((List.range k).filter (fun t => giO τ ρ g w l0 r t)).length ≤ ((List.range (tn τ)).filter (fun t => giO τ ρ g w l0 r t)).length := by
    rw [show tn τ = k + (tn τ - k) by omega, List.range_add, List.filter_append, List.length_append]; omega
  unfold prO2
  rw [List.length_append]
  rw [orO, List.length_append] at h1
  unfold rdO at h1
  omega
theorem pr_s (r k : Nat) : prO2 τ ρ g w l0 r (k + 1) = prO2 τ ρ g w l0 r k ++ (if giO τ ρ g w l0 r k = true then [k] else []) := by
  unfold prO2
  rw [List.range_succ, List.filter_append, List.append_assoc]
  congr 2
  by_cases hp : giO τ ρ g w l0 r k = true <;> simp [hp]
theorem pr_n (r : Nat) : prO2 τ ρ g w l0 r (tn τ) = orO τ ρ g w l0 (r + 1) := rfl
theorem pr_0 (r : Nat) : prO2 τ ρ g w l0 r 0 = orO τ ρ g w l0 r := by unfold prO2; simp
theorem rnK_no {r k : Nat} (hp : ¬ giO τ ρ g w l0 r k = true) (t : Nat) : rnK τ ρ g w l0 r (k + 1) t = rnK τ ρ g w l0 r k t := by
  unfold rnK
  by_cases h1 : t < k
  · rw [if_pos h1, if_pos (by omega)]
  · by_cases h2 : t = k
    · subst h2; rw [if_pos (by omega), if_neg h1, rn_s, if_neg hp, Option.or_none]
    · rw [if_neg (by omega), if_neg h1]
theorem rnK_yes {r k : Nat} (hk : k < tn τ) (hz : lz l0) (hp : giO τ ρ g w l0 r k = true) (t : Nat) : rnK τ ρ g w l0 r (k + 1) t = if t = k then some r else rnK τ ρ g w l0 r k t := by
  unfold rnK
  by_cases h1 : t < k
  · rw [if_pos h1, if_pos (by omega), if_neg (by omega)]
  · by_cases h2 : t = k
    · subst h2; rw [if_pos (by omega), if_pos rfl, rn_s, if_pos hp, (rn_none hk hz hp).1]; rfl
    · rw [if_neg (by omega), if_neg h1, if_neg h2]
theorem rnK_n {r t : Nat} (ht : t < tn τ) : rnK τ ρ g w l0 r (tn τ) t = rnK τ ρ g w l0 (r + 1) 0 t := by
  unfold rnK
  rw [if_pos ht, if_neg (by omega)]
theorem rd_nd (r : Nat) : (rdO τ ρ g w l0 r).Nodup := by unfold rdO; exact List.Pairwise.filter _ List.nodup_range
theorem lo_ls (r : Nat) : lsL (loO τ ρ g w l0 r) (rdO τ ρ g w l0 r) = loO τ ρ g w l0 (r + 1) := by
  funext t
  rw [lsL_ap, lo_s]
  by_cases hp : giO τ ρ g w l0 r t = true
  · rw [if_pos (rd_mem.mpr hp), if_pos hp]
  · rw [if_neg (fun h => hp (rd_mem.mp h)), if_neg hp]
/-- what a run tells -/
def RU (τ : zT) (ρ : zF) (g w : Int) (l0 : Nat → Int) (ld : Int) (μ : zM) : Prop := μ 40 3 = (foO τ ρ g w l0 : Nat) ∧ μ 40 4 = (RO τ ρ g w l0 : Nat)
  ∧ (∀ i (h : i < (alO τ ρ g w l0).length), μ 41 i = ((alO τ ρ g w l0)[i] : Nat)) ∧ (∀ t, t < tn τ → μ 42 t = rnV (rnO τ ρ g w l0 36 t))
  ∧ (ld = 1 → ∀ t, t < tn τ → ∀ q, rnO τ ρ g w l0 36 t = some q → μ 43 t = ceO τ ρ (loO τ ρ g w l0 q) t g w)
theorem RU_of {ld : Int} {r : Nat} (he : enO τ ρ g w l0 r) (hr : r ≤ 36) (h : RS τ ρ g w l0 ld r 0 μ) : RU τ ρ g w l0 ld μ := by
  obtain ⟨h1, h2, h3, h4, h5⟩ := h
  have e0 : alO τ ρ g w l0 = prO2 τ ρ g w l0 r 0 := by rw [pr_0]; exact or_36 he hr
  have e1 : ∀ t, rnK τ ρ g w l0 r 0 t = rnO τ ρ g w l0 36 t := fun t => by unfold rnK; rw [if_neg (by omega), rn_36 he hr]
  refine ⟨by unfold foO; rw [e0]; exact h1, by rw [RO_en he hr]; exact h2, ?_, ?_, ?_⟩
  · rw [e0]; exact h3
  · intro t ht; rw [← e1]; exact h4 t ht
  · intro hl t ht q hq; exact h5 hl t ht q (by rw [e1]; exact hq)
theorem RS_fr {ld : Int} {r k : Nat} {μ' : zM} (h3 : μ' 40 3 = μ 40 3) (h4 : μ' 40 4 = μ 40 4) (h41 : μ' 41 = μ 41) (h42 : μ' 42 = μ 42) (h43 : μ' 43 = μ 43) (h : RS τ ρ g w l0 ld r k μ) : RS τ ρ g w l0 ld r k μ' := by
  unfold RS; rw [h3, h4, h41, h42, h43]; exact h
theorem cRun {d r : Nat} {ld : Int} {x5 x6 x7 : zV} (h : CX θ T U τ μ) (hF : CF τ ρ r μ) (hd : 3 ≤ d) (hg : 0 ≤ g ∧ g ≤ 99) (hwy : 0 ≤ w ∧ w ≤ 3) (hld : ld = 0 ∨ ld = 1)
    (hQ : ∀ μ', Fr GA μ μ' → RU τ ρ g w (gnO τ ρ) ld μ' → Q none θ μ') :
    Ex d 9 0 [vr 40, vr r, vi g, vi w, vi ld, x5, x6, x7] [] θ μ Q := by
  have hX := h
  have hFF := hF
  obtain ⟨hth, hw, hC, hCc⟩ := h
  obtain ⟨hc, hT, hU, hTU, h2T, h2U, hgT⟩ := hth
  have hr := rfs_q hc hF.1
  have hwF := hF.2.1
  have hn := tn_b hw
  have hd0 : 0 < d := by omega
  have hz0 := gn_z τ ρ
  generalize hl0 : gnO τ ρ = l0 at *
  -- a round's TILES
  have inner : ∀ (q a : Nat) (hq : q < 36), (∀ μ1 x7, Fr GA μ μ1 → GS τ ρ.2.1 (loO τ ρ g w l0 q) g w μ1 → RS τ ρ g w l0 ld q (tn τ) μ1 → Ex d 9 118 [vr 40, vr r, vi g, vi w, vi ld, vi (q : Nat), vi (a : Nat), x7] [] θ μ1 Q) →
      ∀ t L μ1, t ≤ tn τ → (L = [vr 40, vr r, vi g, vi w, vi ld, vi (q : Nat), vi (a : Nat), vi (t : Nat)] ∧ Fr GA μ μ1 ∧ GS τ ρ.2.1 (loO τ ρ g w l0 q) g w μ1 ∧ RS τ ρ g w l0 ld q t μ1) → Ex d 9 26 L [] θ μ1 Q := by
    intro q a hq hend
    refine Ex_loop (I := fun t L μ1 => L = [vr 40, vr r, vi g, vi w, vi ld, vi (q : Nat), vi (a : Nat), vi (t : Nat)] ∧ Fr GA μ μ1 ∧ GS τ ρ.2.1 (loO τ ρ g w l0 q) g w μ1 ∧ RS τ ρ g w l0 ld q t μ1) (tn τ) ?_ ?_
    · rintro t L μ1 ht ⟨rfl, hf, hS, hR⟩ hk
      have X1 : CX θ T U τ μ1 := CX_fr hX hf (by decide)
      have F1 : CF τ ρ r μ1 := CF_fr hFF hf (by decide)
      have eT : μ1 T 13 = (tn τ : Nat) := X1.2.2.1.2.1
      have i1 : ¬ ((tn τ : Int) ≤ (t : Int)) := by omega
      have hzq : lz (loO τ ρ g w l0 q) := lo_z hz0
      have e44 : μ1 44 t = loO τ ρ g w l0 q t := hS.1.1 t ht
      rw [x9_26]
      by_cases hlt : loO τ ρ g w l0 q t = 0
      · simp (disch := omega) only [x9_0, x9_1, x9_2, x9_3, x9_4, x9_7, x9_8, x9_12, x9_14, x9_17, x9_18, x9_21, x9_23, x9_24, x9_28, x9_29, x9_32, x9_35, x9_38, x9_39, x9_42, x9_44, x9_45, x9_48, x9_49, x9_50, x9_52, x9_55, x9_58, x9_59, x9_62, x9_63, x9_66, x9_68, x9_69, x9_70, x9_71, x9_74, x9_75, x9_76, x9_79, x9_80, x9_83, x9_85, x9_87, x9_88, x9_89, x9_92, x9_94, x9_96, x9_99, x9_100, x9_102, x9_103, x9_104, x9_107, x9_110, x9_111, x9_112, x9_115, x9_118, x9_119, x9_122, x9_124, x9_127, x9_128, x9_129, x9_130, x9_133, x9_134, x9_135, x9_138, x9_139, x9_141, x9_144, x9_147, x9_150, ↓reduceIte, Bool.false_eq_true, Nat.reduceAdd, Nat.reduceLT, Nat.reduceLeDiff, Nat.reduceSub, Nat.reduceEqDiff, Int.reduceToNat, Int.reduceEq, Int.reduceLT, Int.reduceLE, Int.reduceAdd, Int.reduceSub, zg, zI, zJ, zR, zst, zkl, zn, zcat, zok, zraw, List.length_cons, List.length_nil, Option.toList, List.nil_append, List.cons_append, true_and, and_true, if_true, if_false, ne_eq, not_true, not_false_eq_true, and_self, true_or, or_true, false_or, or_false, false_and, and_false, b_40 hc, r_40_0 hc, x_41 hc, r_40_1 hc, x_42 hc, r_40_2 hc, x_43 hc, r_40_9 hc, r_40_10 hc, x_44 hc, r_40_11 hc, x_45 hc, tb hT, Tq1 hT, Tq2 hT, tr_0 hT, tr_1 hT, tr_2 hT, tr_3 hT, tr_4 hT, tr_5 hT, tr_6 hT, tr_7 hT, tr_8 hT, tr_9 hT, tr_10 hT, tr_11 hT, tr_12 hT, tx_1 hT, tx_2 hT, tx_3 hT, tx_4 hT, tx_5 hT, tx_6 hT, tx_7 hT, tx_8 hT, tx_9 hT, tx_10 hT, tx_11 hT, tx_12 hT, tx_13 hT, hgT, eT, i1, e44, hlt, hd0, Int.toNat_natCast]
        refine cLift X1 F1 (by omega) rfl ht hg hS hzq ?_
        intro μ2 hf2 hj2 hS2 hL2 _ _ _
        have hf12 : Fr GA μ μ2 := hf.trans (hf2.mono (by decide))
        have hR2 : RS τ ρ g w l0 ld q t μ2 := RS_fr (hj2 3 (by decide) (by decide) (by decide)) (hj2 4 (by decide) (by decide) (by decide)) (hf2 41 (by decide)) (hf2 42 (by decide)) (hf2 43 (by decide)) hR
        have X2 : CX θ T U τ μ2 := CX_fr hX hf12 (by decide)
        by_cases hgo : liO τ ρ (loO τ ρ g w l0 q) t g w ≤ 0
        · have hp : ¬ giO τ ρ g w l0 q t = true := fun hh => by have := (gi_iff.mp hh).2.2; omega
          simp (disch := omega) only [x9_0, x9_1, x9_2, x9_3, x9_4, x9_7, x9_8, x9_12, x9_14, x9_17, x9_18, x9_21, x9_23, x9_24, x9_28, x9_29, x9_32, x9_35, x9_38, x9_39, x9_42, x9_44, x9_45, x9_48, x9_49, x9_50, x9_52, x9_55, x9_58, x9_59, x9_62, x9_63, x9_66, x9_68, x9_69, x9_70, x9_71, x9_74, x9_75, x9_76, x9_79, x9_80, x9_83, x9_85, x9_87, x9_88, x9_89, x9_92, x9_94, x9_96, x9_99, x9_100, x9_102, x9_103, x9_104, x9_107, x9_110, x9_111, x9_112, x9_115, x9_118, x9_119, x9_122, x9_124, x9_127, x9_128, x9_129, x9_130, x9_133, x9_134, x9_135, x9_138, x9_139, x9_141, x9_144, x9_147, x9_150, ↓reduceIte, Bool.false_eq_true, Nat.reduceAdd, Nat.reduceLT, Nat.reduceLeDiff, Nat.reduceSub, Nat.reduceEqDiff, Int.reduceToNat, Int.reduceEq, Int.reduceLT, Int.reduceLE, Int.reduceAdd, Int.reduceSub, zg, zI, zJ, zR, zst, zkl, zn, zcat, zok, zraw, List.length_cons, List.length_nil, Option.toList, List.nil_append, List.cons_append, true_and, and_true, if_true, if_false, ne_eq, not_true, not_false_eq_true, and_self, true_or, or_true, false_or, or_false, false_and, and_false, hgo, w32_s]
          apply hk
          refine ⟨rfl, hf12, hS2, ?_⟩
          obtain ⟨r1, r2, r3, r4, r5⟩ := hR2
          have e : prO2 τ ρ g w l0 q (t + 1) = prO2 τ ρ g w l0 q t := by rw [pr_s, if_neg hp, List.append_nil]
          refine ⟨by rw [e]; exact r1, r2, by rw [e]; exact r3, ?_, ?_⟩
          · intro t' ht'; rw [rnK_no hp]; exact r4 t' ht'
          · intro hl t' ht' q' hq'; rw [rnK_no hp] at hq'; exact r5 hl t' ht' q' hq'
        · have hp : giO τ ρ g w l0 q t = true := gi_iff.mpr ⟨ht, hlt, by omega⟩
          have hpl := pr_len (ρ := ρ) (g := g) (w := w) (r := q) hn.2 hz0 (show t + 1 ≤ tn τ by omega)
          have e : prO2 τ ρ g w l0 q (t + 1) = prO2 τ ρ g w l0 q t ++ [t] := by rw [pr_s, if_pos hp]
          rw [e, List.length_append] at hpl
          simp only [List.length_cons, List.length_nil] at hpl
          obtain ⟨r1, r2, r3, r4, r5⟩ := hR2
          generalize hP : prO2 τ ρ g w l0 q t = P at *
          have fin : ∀ (cv : Int) μ3 (v : Option zV), Fr [11] (us (us (us μ2 41 (zup (μ2 41) P.length (t : Nat))) 40 (zup (μ2 40) 3 ((P.length + 1 : Nat) : Int))) 42 (zup (μ2 42) t (q : Nat))) μ3 → (ld = 1 → cv = ceO τ ρ (loO τ ρ g w l0 q) t g w) →
              Ex d 9 26 [vr 40, vr r, vi g, vi w, vi ld, vi (q : Nat), vi (a : Nat), vi ((t + 1 : Nat) : Int)] [] θ (us μ3 43 (zup (μ3 43) t cv)) Q := by
            intro cv μ3 _ hf3 hcv
            have m41 := hf3 41 (by decide); have m40 := hf3 40 (by decide); have m42 := hf3 42 (by decide); have m43 := hf3 43 (by decide)
            have m44 := hf3 44 (by decide); have m45 := hf3 45 (by decide); have m10 := hf3 10 (by decide)
            rw [us_ne (by decide), us_ne (by decide), us_same] at m41
            rw [us_ne (by decide), us_same] at m40
            rw [us_same] at m42
            rw [us_ne (by decide), us_ne (by decide), us_ne (by decide)] at m43 m44 m45 m10
            apply hk
            refine ⟨rfl, ?_, ?_, ?_, ?_, ?_, ?_, ?_⟩
            · refine Fr.us (by decide) (Fr.trans (hf12.trans ?_) (hf3.mono (by decide)))
              exact Fr.us (by decide) (Fr.us (by decide) (Fr.us (by decide) Fr.refl))
            · refine ⟨GB_fr (by rw [us_ne (by decide), m44]) (by rw [us_ne (by decide), m45]) (by rw [us_ne (by decide), m40, zup_ne (by decide)]) hS2.1, ?_, VG_fr (by rw [us_ne (by decide), m10]) hS2.2.2⟩
              rw [us_ne (by decide), m40, zup_ne (by decide), zup_ne (by decide)]; exact hS2.2.1
            · rw [us_ne (by decide), m40, zup_same rfl, e, List.length_append]; rfl
            · rw [us_ne (by decide), m40, zup_ne (by decide)]; exact r2
            · intro i hi
              rw [us_ne (by decide), m41, zup_ap]
              simp only [e]
              rw [e, List.length_append] at hi
              simp only [List.length_cons, List.length_nil] at hi
              by_cases hi2 : i = P.length
              · subst hi2; rw [if_pos rfl, List.getElem_append_right (Nat.le_refl _)]; simp
              · rw [if_neg hi2, r3 i (by omega), List.getElem_append_left (by omega)]
            · intro t' ht'
              rw [us_ne (by decide), m42, zup_ap, rnK_yes ht hz0 hp]
              by_cases h1 : t' = t
              · rw [if_pos h1, if_pos h1]; rfl
              · rw [if_neg h1, if_neg h1]; exact r4 t' ht'
            · intro hl t' ht' q' hq'
              rw [us_same, zup_ap]
              rw [rnK_yes ht hz0 hp] at hq'
              by_cases h1 : t' = t
              · rw [if_pos h1] at hq' ⊢
                cases hq'
                rw [h1]; exact hcv hl
              · rw [if_neg h1] at hq' ⊢
                rw [m43]; exact r5 hl t' ht' q' hq'
          rcases hld with hld | hld
          · subst hld
            simp (disch := omega) only [x9_0, x9_1, x9_2, x9_3, x9_4, x9_7, x9_8, x9_12, x9_14, x9_17, x9_18, x9_21, x9_23, x9_24, x9_28, x9_29, x9_32, x9_35, x9_38, x9_39, x9_42, x9_44, x9_45, x9_48, x9_49, x9_50, x9_52, x9_55, x9_58, x9_59, x9_62, x9_63, x9_66, x9_68, x9_69, x9_70, x9_71, x9_74, x9_75, x9_76, x9_79, x9_80, x9_83, x9_85, x9_87, x9_88, x9_89, x9_92, x9_94, x9_96, x9_99, x9_100, x9_102, x9_103, x9_104, x9_107, x9_110, x9_111, x9_112, x9_115, x9_118, x9_119, x9_122, x9_124, x9_127, x9_128, x9_129, x9_130, x9_133, x9_134, x9_135, x9_138, x9_139, x9_141, x9_144, x9_147, x9_150, ↓reduceIte, Bool.false_eq_true, Nat.reduceAdd, Nat.reduceLT, Nat.reduceLeDiff, Nat.reduceSub, Nat.reduceEqDiff, Int.reduceToNat, Int.reduceEq, Int.reduceLT, Int.reduceLE, Int.reduceAdd, Int.reduceSub, zg, zI, zJ, zR, zst, zkl, zn, zcat, zok, zraw, List.length_cons, List.length_nil, Option.toList, List.nil_append, List.cons_append, true_and, and_true, if_true, if_false, ne_eq, not_true, not_false_eq_true, and_self, true_or, or_true, false_or, or_false, false_and, and_false, b_40 hc, r_40_0 hc, x_41 hc, r_40_1 hc, x_42 hc, r_40_2 hc, x_43 hc, r_40_9 hc, r_40_10 hc, x_44 hc, r_40_11 hc, x_45 hc, tb hT, Tq1 hT, Tq2 hT, tr_0 hT, tr_1 hT, tr_2 hT, tr_3 hT, tr_4 hT, tr_5 hT, tr_6 hT, tr_7 hT, tr_8 hT, tr_9 hT, tr_10 hT, tr_11 hT, tr_12 hT, tx_1 hT, tx_2 hT, tx_3 hT, tx_4 hT, tx_5 hT, tx_6 hT, tx_7 hT, tx_8 hT, tx_9 hT, tx_10 hT, tx_11 hT, tx_12 hT, tx_13 hT, hgo, r1, ua_eq, us_same, us_ne, us_us, zup_same, Int.toNat_natCast, w32_s]
            exact fin (-1) _ none Fr.refl (fun hh => by omega)
          · subst hld
            simp (disch := omega) only [x9_0, x9_1, x9_2, x9_3, x9_4, x9_7, x9_8, x9_12, x9_14, x9_17, x9_18, x9_21, x9_23, x9_24, x9_28, x9_29, x9_32, x9_35, x9_38, x9_39, x9_42, x9_44, x9_45, x9_48, x9_49, x9_50, x9_52, x9_55, x9_58, x9_59, x9_62, x9_63, x9_66, x9_68, x9_69, x9_70, x9_71, x9_74, x9_75, x9_76, x9_79, x9_80, x9_83, x9_85, x9_87, x9_88, x9_89, x9_92, x9_94, x9_96, x9_99, x9_100, x9_102, x9_103, x9_104, x9_107, x9_110, x9_111, x9_112, x9_115, x9_118, x9_119, x9_122, x9_124, x9_127, x9_128, x9_129, x9_130, x9_133, x9_134, x9_135, x9_138, x9_139, x9_141, x9_144, x9_147, x9_150, ↓reduceIte, Bool.false_eq_true, Nat.reduceAdd, Nat.reduceLT, Nat.reduceLeDiff, Nat.reduceSub, Nat.reduceEqDiff, Int.reduceToNat, Int.reduceEq, Int.reduceLT, Int.reduceLE, Int.reduceAdd, Int.reduceSub, zg, zI, zJ, zR, zst, zkl, zn, zcat, zok, zraw, List.length_cons, List.length_nil, Option.toList, List.nil_append, List.cons_append, true_and, and_true, if_true, if_false, ne_eq, not_true, not_false_eq_true, and_self, true_or, or_true, false_or, or_false, false_and, and_false, b_40 hc, r_40_0 hc, x_41 hc, r_40_1 hc, x_42 hc, r_40_2 hc, x_43 hc, r_40_9 hc, r_40_10 hc, x_44 hc, r_40_11 hc, x_45 hc, tb hT, Tq1 hT, Tq2 hT, tr_0 hT, tr_1 hT, tr_2 hT, tr_3 hT, tr_4 hT, tr_5 hT, tr_6 hT, tr_7 hT, tr_8 hT, tr_9 hT, tr_10 hT, tr_11 hT, tr_12 hT, tx_1 hT, tx_2 hT, tx_3 hT, tx_4 hT, tx_5 hT, tx_6 hT, tx_7 hT, tx_8 hT, tx_9 hT, tx_10 hT, tx_11 hT, tx_12 hT, tx_13 hT, hgo, r1, ua_eq, us_same, us_ne, us_us, zup_same, Int.toNat_natCast, w32_s, hd0]
            refine cLand (ρ := ρ) (lost := loO τ ρ g w l0 q) (CX_fr (A := GA) X2 (Fr.us (by decide) (Fr.us (by decide) (Fr.us (by decide) Fr.refl))) (by decide)) (by omega) rfl ht hg hwy ?_ ?_
            · exact VL_fr (by rw [us_ne (by decide), us_ne (by decide), us_ne (by decide)]) hL2
            · intro μ3 hf3
              simp (disch := omega) only [x9_0, x9_1, x9_2, x9_3, x9_4, x9_7, x9_8, x9_12, x9_14, x9_17, x9_18, x9_21, x9_23, x9_24, x9_28, x9_29, x9_32, x9_35, x9_38, x9_39, x9_42, x9_44, x9_45, x9_48, x9_49, x9_50, x9_52, x9_55, x9_58, x9_59, x9_62, x9_63, x9_66, x9_68, x9_69, x9_70, x9_71, x9_74, x9_75, x9_76, x9_79, x9_80, x9_83, x9_85, x9_87, x9_88, x9_89, x9_92, x9_94, x9_96, x9_99, x9_100, x9_102, x9_103, x9_104, x9_107, x9_110, x9_111, x9_112, x9_115, x9_118, x9_119, x9_122, x9_124, x9_127, x9_128, x9_129, x9_130, x9_133, x9_134, x9_135, x9_138, x9_139, x9_141, x9_144, x9_147, x9_150, ↓reduceIte, Bool.false_eq_true, Nat.reduceAdd, Nat.reduceLT, Nat.reduceLeDiff, Nat.reduceSub, Nat.reduceEqDiff, Int.reduceToNat, Int.reduceEq, Int.reduceLT, Int.reduceLE, Int.reduceAdd, Int.reduceSub, zg, zI, zJ, zR, zst, zkl, zn, zcat, zok, zraw, List.length_cons, List.length_nil, Option.toList, List.nil_append, List.cons_append, true_and, and_true, if_true, if_false, ne_eq, not_true, not_false_eq_true, and_self, true_or, or_true, false_or, or_false, false_and, and_false, b_40 hc, r_40_0 hc, x_41 hc, r_40_1 hc, x_42 hc, r_40_2 hc, x_43 hc, r_40_9 hc, r_40_10 hc, x_44 hc, r_40_11 hc, x_45 hc, ua_eq, Int.toNat_natCast, w32_s]
              exact fin _ μ3 none hf3 (fun _ => rfl)
      · have hp : ¬ giO τ ρ g w l0 q t = true := fun hh => hlt (gi_iff.mp hh).2.1
        simp (disch := omega) only [x9_0, x9_1, x9_2, x9_3, x9_4, x9_7, x9_8, x9_12, x9_14, x9_17, x9_18, x9_21, x9_23, x9_24, x9_28, x9_29, x9_32, x9_35, x9_38, x9_39, x9_42, x9_44, x9_45, x9_48, x9_49, x9_50, x9_52, x9_55, x9_58, x9_59, x9_62, x9_63, x9_66, x9_68, x9_69, x9_70, x9_71, x9_74, x9_75, x9_76, x9_79, x9_80, x9_83, x9_85, x9_87, x9_88, x9_89, x9_92, x9_94, x9_96, x9_99, x9_100, x9_102, x9_103, x9_104, x9_107, x9_110, x9_111, x9_112, x9_115, x9_118, x9_119, x9_122, x9_124, x9_127, x9_128, x9_129, x9_130, x9_133, x9_134, x9_135, x9_138, x9_139, x9_141, x9_144, x9_147, x9_150, ↓reduceIte, Bool.false_eq_true, Nat.reduceAdd, Nat.reduceLT, Nat.reduceLeDiff, Nat.reduceSub, Nat.reduceEqDiff, Int.reduceToNat, Int.reduceEq, Int.reduceLT, Int.reduceLE, Int.reduceAdd, Int.reduceSub, zg, zI, zJ, zR, zst, zkl, zn, zcat, zok, zraw, List.length_cons, List.length_nil, Option.toList, List.nil_append, List.cons_append, true_and, and_true, if_true, if_false, ne_eq, not_true, not_false_eq_true, and_self, true_or, or_true, false_or, or_false, false_and, and_false, b_40 hc, r_40_0 hc, x_41 hc, r_40_1 hc, x_42 hc, r_40_2 hc, x_43 hc, r_40_9 hc, r_40_10 hc, x_44 hc, r_40_11 hc, x_45 hc, tb hT, Tq1 hT, Tq2 hT, tr_0 hT, tr_1 hT, tr_2 hT, tr_3 hT, tr_4 hT, tr_5 hT, tr_6 hT, tr_7 hT, tr_8 hT, tr_9 hT, tr_10 hT, tr_11 hT, tr_12 hT, tx_1 hT, tx_2 hT, tx_3 hT, tx_4 hT, tx_5 hT, tx_6 hT, tx_7 hT, tx_8 hT, tx_9 hT, tx_10 hT, tx_11 hT, tx_12 hT, tx_13 hT, hgT, eT, i1, e44, hlt, hd0, Int.toNat_natCast, w32_s]
        apply hk
        refine ⟨rfl, hf, hS, ?_⟩
        obtain ⟨r1, r2, r3, r4, r5⟩ := hR
        have e : prO2 τ ρ g w l0 q (t + 1) = prO2 τ ρ g w l0 q t := by rw [pr_s, if_neg hp, List.append_nil]
        refine ⟨by rw [e]; exact r1, r2, by rw [e]; exact r3, ?_, ?_⟩
        · intro t' ht'; rw [rnK_no hp]; exact r4 t' ht'
        · intro hl t' ht' q' hq'; rw [rnK_no hp] at hq'; exact r5 hl t' ht' q' hq'
    · rintro L μ1 ⟨rfl, hf, hS, hR⟩
      have X1 : CX θ T U τ μ1 := CX_fr hX hf (by decide)
      have eT : μ1 T 13 = (tn τ : Nat) := X1.2.2.1.2.1
      rw [x9_26]
      simp (disch := omega) only [x9_0, x9_1, x9_2, x9_3, x9_4, x9_7, x9_8, x9_12, x9_14, x9_17, x9_18, x9_21, x9_23, x9_24, x9_28, x9_29, x9_32, x9_35, x9_38, x9_39, x9_42, x9_44, x9_45, x9_48, x9_49, x9_50, x9_52, x9_55, x9_58, x9_59, x9_62, x9_63, x9_66, x9_68, x9_69, x9_70, x9_71, x9_74, x9_75, x9_76, x9_79, x9_80, x9_83, x9_85, x9_87, x9_88, x9_89, x9_92, x9_94, x9_96, x9_99, x9_100, x9_102, x9_103, x9_104, x9_107, x9_110, x9_111, x9_112, x9_115, x9_119, x9_122, x9_124, x9_127, x9_128, x9_129, x9_130, x9_133, x9_134, x9_135, x9_138, x9_139, x9_141, x9_144, x9_147, x9_150, ↓reduceIte, Bool.false_eq_true, Nat.reduceAdd, Nat.reduceLT, Nat.reduceLeDiff, Nat.reduceSub, Nat.reduceEqDiff, Int.reduceToNat, Int.reduceEq, Int.reduceLT, Int.reduceLE, Int.reduceAdd, Int.reduceSub, zg, zI, zJ, zR, zst, zkl, zn, zcat, zok, zraw, List.length_cons, List.length_nil, Option.toList, List.nil_append, List.cons_append, true_and, and_true, if_true, if_false, ne_eq, not_true, not_false_eq_true, and_self, true_or, or_true, false_or, or_false, false_and, and_false, b_40 hc, r_40_0 hc, x_41 hc, r_40_1 hc, x_42 hc, r_40_2 hc, x_43 hc, r_40_9 hc, r_40_10 hc, x_44 hc, r_40_11 hc, x_45 hc, tb hT, Tq1 hT, Tq2 hT, tr_0 hT, tr_1 hT, tr_2 hT, tr_3 hT, tr_4 hT, tr_5 hT, tr_6 hT, tr_7 hT, tr_8 hT, tr_9 hT, tr_10 hT, tr_11 hT, tr_12 hT, tx_1 hT, tx_2 hT, tx_3 hT, tx_4 hT, tx_5 hT, tx_6 hT, tx_7 hT, tx_8 hT, tx_9 hT, tx_10 hT, tx_11 hT, tx_12 hT, tx_13 hT, hgT, eT, Int.le_refl]
      exact hend μ1 _ hf hS hR
  have outer : ∀ q L μ1, q ≤ 36 → (∃ x6 x7, L = [vr 40, vr r, vi g, vi w, vi ld, vi (q : Nat), x6, x7] ∧ Fr GA μ μ1 ∧ GS τ ρ.2.1 (loO τ ρ g w l0 q) g w μ1 ∧ RS τ ρ g w l0 ld q 0 μ1 ∧ ∀ q', q' < q → rdO τ ρ g w l0 q' ≠ []) → Ex d 9 10 L [] θ μ1 Q := by
    refine Ex_loop (I := fun q L μ1 => ∃ x6 x7, L = [vr 40, vr r, vi g, vi w, vi ld, vi (q : Nat), x6, x7] ∧ Fr GA μ μ1 ∧ GS τ ρ.2.1 (loO τ ρ g w l0 q) g w μ1 ∧ RS τ ρ g w l0 ld q 0 μ1 ∧ ∀ q', q' < q → rdO τ ρ g w l0 q' ≠ []) 36 ?_ ?_
    · rintro q L μ1 hq ⟨x6, x7, rfl, hf, hS, hR, hne⟩ hk
      have i1 : ¬ ((36 : Int) ≤ (q : Int)) := by omega
      have e3 : μ1 40 3 = ((orO τ ρ g w l0 q).length : Nat) := by have := hR.1; rw [pr_0] at this; exact this
      rw [x9_10]
      simp (disch := omega) only [x9_0, x9_1, x9_2, x9_3, x9_4, x9_7, x9_8, x9_12, x9_14, x9_17, x9_18, x9_21, x9_23, x9_24, x9_28, x9_29, x9_32, x9_35, x9_38, x9_39, x9_42, x9_44, x9_45, x9_48, x9_49, x9_50, x9_52, x9_55, x9_58, x9_59, x9_62, x9_63, x9_66, x9_68, x9_69, x9_70, x9_71, x9_74, x9_75, x9_76, x9_79, x9_80, x9_83, x9_85, x9_87, x9_88, x9_89, x9_92, x9_94, x9_96, x9_99, x9_100, x9_102, x9_103, x9_104, x9_107, x9_110, x9_111, x9_112, x9_115, x9_118, x9_119, x9_122, x9_124, x9_127, x9_128, x9_129, x9_130, x9_133, x9_134, x9_135, x9_138, x9_139, x9_141, x9_144, x9_147, x9_150, ↓reduceIte, Bool.false_eq_true, Nat.reduceAdd, Nat.reduceLT, Nat.reduceLeDiff, Nat.reduceSub, Nat.reduceEqDiff, Int.reduceToNat, Int.reduceEq, Int.reduceLT, Int.reduceLE, Int.reduceAdd, Int.reduceSub, zg, zI, zJ, zR, zst, zkl, zn, zcat, zok, zraw, List.length_cons, List.length_nil, Option.toList, List.nil_append, List.cons_append, true_and, and_true, if_true, if_false, ne_eq, not_true, not_false_eq_true, and_self, true_or, or_true, false_or, or_false, false_and, and_false, b_40 hc, r_40_0 hc, x_41 hc, r_40_1 hc, x_42 hc, r_40_2 hc, x_43 hc, r_40_9 hc, r_40_10 hc, x_44 hc, r_40_11 hc, x_45 hc, i1, e3]
      refine inner q (orO τ ρ g w l0 q).length hq ?_ 0 _ μ1 (by omega) ⟨rfl, hf, hS, hR⟩
      intro μ2 x7 hf2 hS2 hR2
      have X2 : CX θ T U τ μ2 := CX_fr hX hf2 (by decide)
      have e32 := hR2.1
      rw [pr_n, orO, List.length_append] at e32
      by_cases hemp : rdO τ ρ g w l0 q = []
      · have he : enO τ ρ g w l0 q := ⟨hne, hemp⟩
        have i2 : (((orO τ ρ g w l0 q).length + (rdO τ ρ g w l0 q).length : Nat) : Int) = ((orO τ ρ g w l0 q).length : Nat) := by rw [hemp]; rfl
        simp (disch := omega) only [x9_0, x9_1, x9_2, x9_3, x9_4, x9_7, x9_8, x9_12, x9_14, x9_17, x9_18, x9_21, x9_23, x9_24, x9_28, x9_29, x9_32, x9_35, x9_38, x9_39, x9_42, x9_44, x9_45, x9_48, x9_49, x9_50, x9_52, x9_55, x9_58, x9_59, x9_62, x9_63, x9_66, x9_68, x9_69, x9_70, x9_71, x9_74, x9_75, x9_76, x9_79, x9_80, x9_83, x9_85, x9_87, x9_88, x9_89, x9_92, x9_94, x9_96, x9_99, x9_100, x9_102, x9_103, x9_104, x9_107, x9_110, x9_111, x9_112, x9_115, x9_118, x9_119, x9_122, x9_124, x9_127, x9_128, x9_129, x9_130, x9_133, x9_134, x9_135, x9_138, x9_139, x9_141, x9_144, x9_147, x9_150, ↓reduceIte, Bool.false_eq_true, Nat.reduceAdd, Nat.reduceLT, Nat.reduceLeDiff, Nat.reduceSub, Nat.reduceEqDiff, Int.reduceToNat, Int.reduceEq, Int.reduceLT, Int.reduceLE, Int.reduceAdd, Int.reduceSub, zg, zI, zJ, zR, zst, zkl, zn, zcat, zok, zraw, List.length_cons, List.length_nil, Option.toList, List.nil_append, List.cons_append, true_and, and_true, if_true, if_false, ne_eq, not_true, not_false_eq_true, and_self, true_or, or_true, false_or, or_false, false_and, and_false, b_40 hc, r_40_0 hc, x_41 hc, r_40_1 hc, x_42 hc, r_40_2 hc, x_43 hc, r_40_9 hc, r_40_10 hc, x_44 hc, r_40_11 hc, x_45 hc, e32, i2]
        refine hQ μ2 hf2 (RU_of he (by omega) ?_)
        obtain ⟨r1, r2, r3, r4, r5⟩ := hR2
        have ee : prO2 τ ρ g w l0 q (tn τ) = prO2 τ ρ g w l0 q 0 := by rw [pr_n, pr_0, orO, hemp, List.append_nil]
        have er : ∀ t, t < tn τ → rnK τ ρ g w l0 q (tn τ) t = rnK τ ρ g w l0 q 0 t := by
          intro t ht
          unfold rnK
          rw [if_pos ht, if_neg (by omega)]
          have := rn_stay he 1 t
          exact this
        refine ⟨by rw [← ee]; exact r1, r2, by rw [← ee]; exact r3, ?_, ?_⟩
        · intro t' ht'; rw [← er t' ht']; exact r4 t' ht'
        · intro hl t' ht' q' hq'; rw [← er t' ht'] at hq'; exact r5 hl t' ht' q' hq'
      · have hpos : 0 < (rdO τ ρ g w l0 q).length := List.length_pos_iff.mpr hemp
        have i2 : ¬ ((((orO τ ρ g w l0 q).length + (rdO τ ρ g w l0 q).length : Nat) : Int) = ((orO τ ρ g w l0 q).length : Nat)) := by omega
        have hpl := pr_len (ρ := ρ) (g := g) (w := w) (r := q) hn.2 hz0 (Nat.le_refl (tn τ))
        rw [pr_n, orO, List.length_append] at hpl
        have e42 : μ2 40 4 = (q : Int) := hR2.2.1
        simp (disch := omega) only [x9_0, x9_1, x9_2, x9_3, x9_4, x9_7, x9_8, x9_12, x9_14, x9_17, x9_18, x9_21, x9_23, x9_24, x9_28, x9_29, x9_32, x9_35, x9_38, x9_39, x9_42, x9_44, x9_45, x9_48, x9_49, x9_50, x9_52, x9_55, x9_58, x9_59, x9_62, x9_63, x9_66, x9_68, x9_69, x9_70, x9_71, x9_74, x9_75, x9_76, x9_79, x9_80, x9_83, x9_85, x9_87, x9_88, x9_89, x9_92, x9_94, x9_96, x9_99, x9_100, x9_102, x9_103, x9_104, x9_107, x9_110, x9_111, x9_112, x9_115, x9_118, x9_119, x9_122, x9_124, x9_127, x9_128, x9_129, x9_130, x9_133, x9_134, x9_135, x9_138, x9_139, x9_141, x9_144, x9_147, x9_150, ↓reduceIte, Bool.false_eq_true, Nat.reduceAdd, Nat.reduceLT, Nat.reduceLeDiff, Nat.reduceSub, Nat.reduceEqDiff, Int.reduceToNat, Int.reduceEq, Int.reduceLT, Int.reduceLE, Int.reduceAdd, Int.reduceSub, zg, zI, zJ, zR, zst, zkl, zn, zcat, zok, zraw, List.length_cons, List.length_nil, Option.toList, List.nil_append, List.cons_append, true_and, and_true, if_true, if_false, ne_eq, not_true, not_false_eq_true, and_self, true_or, or_true, false_or, or_false, false_and, and_false, b_40 hc, r_40_0 hc, x_41 hc, r_40_1 hc, x_42 hc, r_40_2 hc, x_43 hc, r_40_9 hc, r_40_10 hc, x_44 hc, r_40_11 hc, x_45 hc, e32, e42, i2, hd0, ua_eq, w32_s]
        have hfu : Fr GA μ2 (us μ2 40 (zup (μ2 40) 4 ((q + 1 : Nat) : Int))) := Fr.us (by decide) Fr.refl
        refine cCarry (g := g) (w := w) (lost := loO τ ρ g w l0 q) (ks := rdO τ ρ g w l0 q) (b := (orO τ ρ g w l0 q).length + (rdO τ ρ g w l0 q).length) (CX_fr (A := GA) X2 hfu (by decide)) (by omega) rfl ?_ (by omega) rfl ?_ (rd_nd q) ?_ ?_ hwF.2.1 (lo_z hz0) ?_
        · rw [us_same, zup_ne (by decide), e32]
        · intro i hi
          rw [us_ne (by decide)]
          have := hR2.2.2.1 ((orO τ ρ g w l0 q).length + i) (by rw [pr_n, orO, List.length_append]; omega)
          rw [this]
          simp only [pr_n, orO]
          rw [List.getElem_append_right (by omega)]
          simp
        · intro k hk'
          have := gi_iff.mp (rd_mem.mp hk')
          exact ⟨this.1, this.2.1⟩
        · refine ⟨GB_fr (by rw [us_ne (by decide)]) (by rw [us_ne (by decide)]) (by rw [us_same, zup_ne (by decide)]) hS2.1, ?_, VG_fr (by rw [us_ne (by decide)]) hS2.2.2⟩
          rw [us_same, zup_ne (by decide), zup_ne (by decide)]; exact hS2.2.1
        · intro μ3 hf3 hj3 hS3
          rw [lo_ls] at hS3
          simp (disch := omega) only [x9_0, x9_1, x9_2, x9_3, x9_4, x9_7, x9_8, x9_12, x9_14, x9_17, x9_18, x9_21, x9_23, x9_24, x9_28, x9_29, x9_32, x9_35, x9_38, x9_39, x9_42, x9_44, x9_45, x9_48, x9_49, x9_50, x9_52, x9_55, x9_58, x9_59, x9_62, x9_63, x9_66, x9_68, x9_69, x9_70, x9_71, x9_74, x9_75, x9_76, x9_79, x9_80, x9_83, x9_85, x9_87, x9_88, x9_89, x9_92, x9_94, x9_96, x9_99, x9_100, x9_102, x9_103, x9_104, x9_107, x9_110, x9_111, x9_112, x9_115, x9_118, x9_119, x9_122, x9_124, x9_127, x9_128, x9_129, x9_130, x9_133, x9_134, x9_135, x9_138, x9_139, x9_141, x9_144, x9_147, x9_150, ↓reduceIte, Bool.false_eq_true, Nat.reduceAdd, Nat.reduceLT, Nat.reduceLeDiff, Nat.reduceSub, Nat.reduceEqDiff, Int.reduceToNat, Int.reduceEq, Int.reduceLT, Int.reduceLE, Int.reduceAdd, Int.reduceSub, zg, zI, zJ, zR, zst, zkl, zn, zcat, zok, zraw, List.length_cons, List.length_nil, Option.toList, List.nil_append, List.cons_append, true_and, and_true, if_true, if_false, ne_eq, not_true, not_false_eq_true, and_self, true_or, or_true, false_or, or_false, false_and, and_false, w32_s]
          apply hk
          have k3 := hj3 3 (by decide)
          have k4 := hj3 4 (by decide)
          rw [us_same] at k3 k4
          refine ⟨_, _, rfl, hf2.trans (hfu.trans (hf3.mono (by decide))), hS3, ?_, ?_⟩
          · obtain ⟨r1, r2, r3, r4, r5⟩ := hR2
            have m41 := hf3 41 (by decide); have m42 := hf3 42 (by decide); have m43 := hf3 43 (by decide)
            rw [us_ne (by decide)] at m41 m42 m43
            have ee : prO2 τ ρ g w l0 (q + 1) 0 = prO2 τ ρ g w l0 q (tn τ) := by rw [pr_n, pr_0]
            refine ⟨by rw [ee, k3, zup_ne (by decide)]; exact r1, by rw [k4, zup_same rfl], ?_, ?_, ?_⟩
            · rw [ee, m41]; exact r3
            · intro t' ht'; rw [m42, ← rnK_n ht']; exact r4 t' ht'
            · intro hl t' ht' q' hq'; rw [← rnK_n ht'] at hq'; rw [m43]; exact r5 hl t' ht' q' hq'
          · intro q' hq'
            by_cases h1 : q' = q
            · rw [h1]; exact hemp
            · exact hne q' (by omega)
    · rintro L μ1 ⟨x6, x7, rfl, hf, hS, hR, hne⟩
      obtain ⟨R, hR1, he⟩ := en_ex (τ := τ) (ρ := ρ) (g := g) (w := w) hz0
      have h36 : R = 36 := by
        rcases Nat.lt_or_ge R 36 with h1 | h1
        · exact absurd he.2 (hne R h1)
        · omega
      subst h36
      rw [x9_10]
      simp (disch := omega) only [x9_0, x9_1, x9_2, x9_3, x9_4, x9_7, x9_8, x9_12, x9_14, x9_17, x9_18, x9_21, x9_23, x9_24, x9_28, x9_29, x9_32, x9_35, x9_38, x9_39, x9_42, x9_44, x9_45, x9_48, x9_49, x9_50, x9_52, x9_55, x9_58, x9_59, x9_62, x9_63, x9_66, x9_68, x9_69, x9_70, x9_71, x9_74, x9_75, x9_76, x9_79, x9_80, x9_83, x9_85, x9_87, x9_88, x9_89, x9_92, x9_94, x9_96, x9_99, x9_100, x9_102, x9_103, x9_104, x9_107, x9_110, x9_111, x9_112, x9_115, x9_118, x9_119, x9_122, x9_124, x9_127, x9_128, x9_129, x9_130, x9_133, x9_134, x9_135, x9_138, x9_139, x9_141, x9_144, x9_147, x9_150, ↓reduceIte, Bool.false_eq_true, Nat.reduceAdd, Nat.reduceLT, Nat.reduceLeDiff, Nat.reduceSub, Nat.reduceEqDiff, Int.reduceToNat, Int.reduceEq, Int.reduceLT, Int.reduceLE, Int.reduceAdd, Int.reduceSub, zg, zI, zJ, zR, zst, zkl, zn, zcat, zok, zraw, List.length_cons, List.length_nil, Option.toList, List.nil_append, List.cons_append, true_and, and_true, if_true, if_false, ne_eq, not_true, not_false_eq_true, and_self, true_or, or_true, false_or, or_false, false_and, and_false]
      exact hQ μ1 hf (RU_of he (Nat.le_refl _) hR)
  simp (disch := omega) only [x9_0, x9_1, x9_2, x9_3, x9_4, x9_7, x9_8, x9_12, x9_14, x9_17, x9_18, x9_21, x9_23, x9_24, x9_28, x9_29, x9_32, x9_35, x9_38, x9_39, x9_42, x9_44, x9_45, x9_48, x9_49, x9_50, x9_52, x9_55, x9_58, x9_59, x9_62, x9_63, x9_66, x9_68, x9_69, x9_70, x9_71, x9_74, x9_75, x9_76, x9_79, x9_80, x9_83, x9_85, x9_87, x9_88, x9_89, x9_92, x9_94, x9_96, x9_99, x9_100, x9_102, x9_103, x9_104, x9_107, x9_110, x9_111, x9_112, x9_115, x9_118, x9_119, x9_122, x9_124, x9_127, x9_128, x9_129, x9_130, x9_133, x9_134, x9_135, x9_138, x9_139, x9_141, x9_144, x9_147, x9_150, ↓reduceIte, Bool.false_eq_true, Nat.reduceAdd, Nat.reduceLT, Nat.reduceLeDiff, Nat.reduceSub, Nat.reduceEqDiff, Int.reduceToNat, Int.reduceEq, Int.reduceLT, Int.reduceLE, Int.reduceAdd, Int.reduceSub, zg, zI, zJ, zR, zst, zkl, zn, zcat, zok, zraw, List.length_cons, List.length_nil, Option.toList, List.nil_append, List.cons_append, true_and, and_true, if_true, if_false, ne_eq, not_true, not_false_eq_true, and_self, true_or, or_true, false_or, or_false, false_and, and_false, b_40 hc, r_40_0 hc, x_41 hc, r_40_1 hc, x_42 hc, r_40_2 hc, x_43 hc, r_40_9 hc, r_40_10 hc, x_44 hc, r_40_11 hc, x_45 hc, hd0]
  refine cMeet (d := d - 1) hX hFF (by omega) ?_
  intro μ1 hf1 h3 h4 h42 hS
  rw [hl0] at hS
  simp (disch := omega) only [x9_0, x9_1, x9_2, x9_3, x9_4, x9_7, x9_8, x9_12, x9_14, x9_17, x9_18, x9_21, x9_23, x9_24, x9_28, x9_29, x9_32, x9_35, x9_38, x9_39, x9_42, x9_44, x9_45, x9_48, x9_49, x9_50, x9_52, x9_55, x9_58, x9_59, x9_62, x9_63, x9_66, x9_68, x9_69, x9_70, x9_71, x9_74, x9_75, x9_76, x9_79, x9_80, x9_83, x9_85, x9_87, x9_88, x9_89, x9_92, x9_94, x9_96, x9_99, x9_100, x9_102, x9_103, x9_104, x9_107, x9_110, x9_111, x9_112, x9_115, x9_118, x9_119, x9_122, x9_124, x9_127, x9_128, x9_129, x9_130, x9_133, x9_134, x9_135, x9_138, x9_139, x9_141, x9_144, x9_147, x9_150, ↓reduceIte, Bool.false_eq_true, Nat.reduceAdd, Nat.reduceLT, Nat.reduceLeDiff, Nat.reduceSub, Nat.reduceEqDiff, Int.reduceToNat, Int.reduceEq, Int.reduceLT, Int.reduceLE, Int.reduceAdd, Int.reduceSub, zg, zI, zJ, zR, zst, zkl, zn, zcat, zok, zraw, List.length_cons, List.length_nil, Option.toList, List.nil_append, List.cons_append, true_and, and_true, if_true, if_false, ne_eq, not_true, not_false_eq_true, and_self, true_or, or_true, false_or, or_false, false_and, and_false]
  refine outer 0 _ μ1 (by omega) ⟨_, _, rfl, hf1.mono (by decide), hS, ⟨?_, h4, ?_, ?_, ?_⟩, ?_⟩
  · rw [h3, pr_0]; rfl
  · intro i hi; rw [pr_0] at hi; exact absurd hi (by simp [orO])
  · intro t ht; rw [h42 t (by omega)]; unfold rnK; rw [if_neg (Nat.not_lt_zero _)]; rfl
  · intro _ t ht q hq; unfold rnK at hq; rw [if_neg (Nat.not_lt_zero _)] at hq; simp [rnO] at hq
  · intro q hq; omega
end LN
