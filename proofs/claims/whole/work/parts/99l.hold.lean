/-! CALLS: hold, restore, of the class -/
def scn (s : Nat) : Prop := s = 46 ∨ s = 62 ∨ s = 76 ∨ s = 90
section HO
variable {θ : zS} {T U : Nat} {σ : zSt} {Q : Option zV → zS → zM → Prop} {μ : zM} {τ : zT} {γ : zG}
theorem scn_q {s : Nat} (hc : Tc θ) (h : scn s) : Sq θ s := by
  rcases h with rfl | rfl | rfl | rfl
  · exact Sq_46 hc
  · exact Sq_62 hc
  · exact Sq_76 hc
  · exact Sq_90 hc
theorem scn_r {s : Nat} (h : scn s) : rfs (s + 1) := by unfold scn at h; unfold rfs; omega
def scA (s : Nat) : List Nat := [s, s + 1, s + 3, s + 4, s + 5, s + 6, s + 7, s + 8, s + 9, s + 10, s + 11, s + 12, s + 13]
theorem zc_ne {a b c n : Nat} (h : c ≠ b) : zcopy μ a 0 b 0 n c = μ c := by rw [zcopy_us, us_ne h]
theorem zc_eq {a b n j : Nat} (h : j < n) : zcopy μ a 0 b 0 n b j = μ a j := by rw [zcopy_us, us_same, if_pos h]
theorem cCopySc {d s q B : Nat} (hc : Tc θ) (hd : 1 ≤ d) (hs : scn s) (hq : scn q) (hne : s ≠ q) (hw : wfT τ) (hG : wfG τ γ B) (hn : CSn τ γ q μ)
    (hQ : ∀ μ', Fr (scA s) μ μ' → (∀ j, j ≠ 7 → j ≠ 8 → μ' s j = μ s j) → CSn τ γ s μ' → Q none θ μ') : Ex d 69 0 [vr s, vr q] [] θ μ Q := by
  have hd0 : 0 < d := by omega
  have Ss := scn_q hc hs
  have Sqq := scn_q hc hq
  obtain ⟨⟨_, hwF, hR⟩, hb, hy, ⟨h7, hcar⟩, h8, hu⟩ := hn
  have htn := tn_b hw
  have hb3 : μ (q + 1) 3 = 0 ∨ μ (q + 1) 3 = 1 := by have := hwF.2.2; rw [hR.2.2.2]; exact this
  have rb1 : zob θ (s + 1) 5 = true := rb (sRq Ss)
  simp only [x69_0, x69_1, x69_4, x69_5, x69_8, x69_11, x69_12, x69_15, x69_16, x69_17, x69_20, x69_21, x69_24, x69_27, x69_28, x69_31, x69_32, x69_33, x69_36, x69_37, x69_39, x69_42, x69_43, x69_46, x69_47, x69_48, x69_51, x69_52, x69_54, x69_57, x69_58, x69_61, x69_62, x69_63, x69_66, x69_67, x69_68, x69_71, x69_72, x69_75, x69_76, x69_77, x69_80, x69_81, x69_82, x69_85, x69_86, x69_89, x69_90, x69_91, x69_94, x69_95, x69_96, x69_99, x69_100, x69_101, x69_104, x69_107, x69_108, x69_109, x69_112, x69_115, ↓reduceIte, Bool.false_eq_true, Nat.reduceAdd, Nat.reduceLT, Nat.reduceLeDiff, Nat.reduceSub, Nat.reduceEqDiff, Int.reduceToNat, Int.reduceEq, Int.reduceLT, Int.reduceLE, Int.reduceAdd, Int.reduceSub, zg, zI, zJ, zR, zst, zkl, zn, zcat, zok, zraw, List.length_cons, List.length_nil, Option.toList, List.nil_append, List.cons_append, true_and, and_true, if_true, if_false, ne_eq, not_true, not_false_eq_true, and_self, true_or, or_true, false_or, or_false, false_and, and_false, sb Ss, sb Sqq, sr_0 Ss, sr_0 Sqq, rb1, hd0]
  refine cCopy (d := d - 1) (r := s + 1) (q := q + 1) (ρ := gR γ) hc (scn_r hs) (scn_r hq) (by omega) hR htn.2 hb3 (fun μ1 f1 R1 e2 _ => ?_)
  have hs8 := hs
  have hq8 := hq
  unfold scn at hs8 hq8
  have g8 : ∀ k, 8 ≤ k → k ≤ 13 → μ1 (q + k) = μ (q + k) := fun k h1 h2 => f1 (q + k) (by simp; omega)
  have gs : ∀ k, 8 ≤ k → k ≤ 13 → μ1 (s + k) = μ (s + k) := fun k h1 h2 => f1 (s + k) (by simp; omega)
  have gs0 : μ1 s = μ s := f1 s (by simp; omega)
  have gq0 : μ1 q = μ q := f1 q (by simp; omega)
  obtain ⟨μ2, hμ2⟩ : ∃ μ2, μ2 = zcopy μ1 (q + 8) 0 (s + 8) 0 480 := ⟨_, rfl⟩
  obtain ⟨μ3, hμ3⟩ : ∃ μ3, μ3 = zcopy μ2 (q + 9) 0 (s + 9) 0 8 := ⟨_, rfl⟩
  obtain ⟨μ4, hμ4⟩ : ∃ μ4, μ4 = zcopy μ3 (q + 10) 0 (s + 10) 0 8 := ⟨_, rfl⟩
  obtain ⟨μ5, hμ5⟩ : ∃ μ5, μ5 = zcopy μ4 (q + 11) 0 (s + 11) 0 4 := ⟨_, rfl⟩
  obtain ⟨μ6, hμ6⟩ : ∃ μ6, μ6 = zcopy μ5 (q + 12) 0 (s + 12) 0 4 := ⟨_, rfl⟩
  obtain ⟨μ7, hμ7⟩ : ∃ μ7, μ7 = zcopy μ6 (q + 13) 0 (s + 13) 0 4 := ⟨_, rfl⟩
  obtain ⟨μ8, hμ8⟩ : ∃ μ8, μ8 = us μ7 s (zup (zup (μ7 s) 7 (μ7 q 7)) 8 (μ7 q 8)) := ⟨_, rfl⟩
  have k2 : ∀ c, c ≠ s + 8 → μ2 c = μ1 c := fun c h => by rw [hμ2]; exact zc_ne h
  have k3 : ∀ c, c ≠ s + 9 → μ3 c = μ2 c := fun c h => by rw [hμ3]; exact zc_ne h
  have k4 : ∀ c, c ≠ s + 10 → μ4 c = μ3 c := fun c h => by rw [hμ4]; exact zc_ne h
  have k5 : ∀ c, c ≠ s + 11 → μ5 c = μ4 c := fun c h => by rw [hμ5]; exact zc_ne h
  have k6 : ∀ c, c ≠ s + 12 → μ6 c = μ5 c := fun c h => by rw [hμ6]; exact zc_ne h
  have k7 : ∀ c, c ≠ s + 13 → μ7 c = μ6 c := fun c h => by rw [hμ7]; exact zc_ne h
  have k8 : ∀ c, c ≠ s → μ8 c = μ7 c := fun c h => by rw [hμ8]; exact us_ne h
  have A7 : ∀ c, ¬ (s + 8 ≤ c ∧ c ≤ s + 13) → μ7 c = μ1 c := fun c h => by rw [k7 c (by omega), k6 c (by omega), k5 c (by omega), k4 c (by omega), k3 c (by omega), k2 c (by omega)]
  have A8 : ∀ c, c ≠ s → ¬ (s + 8 ≤ c ∧ c ≤ s + 13) → μ8 c = μ1 c := fun c h h' => by rw [k8 c h, A7 c h']
  have e7 : μ7 q 7 = (gC γ : Nat) := by rw [A7 q (by omega), gq0]; exact h7
  have e8 : μ7 q 8 = ((gU γ).1 : Nat) := by rw [A7 q (by omega), gq0]; exact h8
  have v8 : ∀ k, k < 480 → μ8 (s + 8) k = gY γ k := fun k hk => by
    rw [k8 _ (by omega), k7 _ (by omega), k6 _ (by omega), k5 _ (by omega), k4 _ (by omega), k3 _ (by omega), hμ2, zc_eq hk, g8 8 (by decide) (by decide)]; exact hy k hk
  have v9 : ∀ k, k < 8 → μ8 (s + 9) k = μ (q + 9) k := fun k hk => by
    rw [k8 _ (by omega), k7 _ (by omega), k6 _ (by omega), k5 _ (by omega), k4 _ (by omega), hμ3, zc_eq hk, k2 _ (by omega), g8 9 (by decide) (by decide)]
  have v10 : ∀ k, k < 8 → μ8 (s + 10) k = μ (q + 10) k := fun k hk => by
    rw [k8 _ (by omega), k7 _ (by omega), k6 _ (by omega), k5 _ (by omega), hμ4, zc_eq hk, k3 _ (by omega), k2 _ (by omega), g8 10 (by decide) (by decide)]
  have v11 : ∀ k, k < 4 → μ8 (s + 11) k = μ (q + 11) k := fun k hk => by
    rw [k8 _ (by omega), k7 _ (by omega), k6 _ (by omega), hμ5, zc_eq hk, k4 _ (by omega), k3 _ (by omega), k2 _ (by omega), g8 11 (by decide) (by decide)]
  have v12 : ∀ k, k < 4 → μ8 (s + 12) k = μ (q + 12) k := fun k hk => by
    rw [k8 _ (by omega), k7 _ (by omega), hμ6, zc_eq hk, k5 _ (by omega), k4 _ (by omega), k3 _ (by omega), k2 _ (by omega), g8 12 (by decide) (by decide)]
  have v13 : ∀ k, k < 4 → μ8 (s + 13) k = μ (q + 13) k := fun k hk => by
    rw [k8 _ (by omega), hμ7, zc_eq hk, k6 _ (by omega), k5 _ (by omega), k4 _ (by omega), k3 _ (by omega), k2 _ (by omega), g8 13 (by decide) (by decide)]
  have v7 : μ8 s 7 = (gC γ : Nat) := by rw [hμ8, us_same, zup_ne (by decide), zup_same rfl, e7]
  have v8' : μ8 s 8 = ((gU γ).1 : Nat) := by rw [hμ8, us_same, zup_same rfl, e8]
  have h8c := hG.2.2.1.1
  have h4c := hG.2.2.2.1
  have s2 : 2 ≤ s := by omega
  have fin : Q none θ μ8 := by
    refine hQ μ8 (fun c hc2 => ?_) (fun j j7 j8 => ?_) ⟨⟨scn_r hs, hwF, ?_⟩, ?_, v8, ⟨v7, fun k hk => ?_⟩, v8', fun k hk => ?_⟩
    · unfold scA at hc2
      simp at hc2
      rw [A8 c (by omega) (by omega)]
      exact f1 c (by simp; omega)
    · rw [hμ8, us_same, zup_ne j8, zup_ne j7, A7 s (by omega), gs0]
    · obtain ⟨r1, r2, r3, r4⟩ := R1
      exact ⟨by rw [A8 _ (by omega) (by omega)]; exact r1, fun m t hm ht => by rw [A8 _ (by omega) (by omega)]; exact r2 m t hm ht, by rw [A8 _ (by omega) (by omega)]; exact r3, by rw [A8 _ (by omega) (by omega)]; exact r4⟩
    · rw [A8 _ (by omega) (by omega), e2]; exact hb
    · rw [v9 k (by omega), v10 k (by omega)]; exact hcar k hk
    · rw [v11 k (by omega), v12 k (by omega), v13 k (by omega)]; exact hu k hk
  simp (disch := omega) only [x69_0, x69_1, x69_4, x69_5, x69_8, x69_11, x69_12, x69_15, x69_16, x69_17, x69_20, x69_21, x69_24, x69_27, x69_28, x69_31, x69_32, x69_33, x69_36, x69_37, x69_39, x69_42, x69_43, x69_46, x69_47, x69_48, x69_51, x69_52, x69_54, x69_57, x69_58, x69_61, x69_62, x69_63, x69_66, x69_67, x69_68, x69_71, x69_72, x69_75, x69_76, x69_77, x69_80, x69_81, x69_82, x69_85, x69_86, x69_89, x69_90, x69_91, x69_94, x69_95, x69_96, x69_99, x69_100, x69_101, x69_104, x69_107, x69_108, x69_109, x69_112, x69_115, ↓reduceIte, Bool.false_eq_true, Nat.reduceAdd, Nat.reduceLT, Nat.reduceLeDiff, Nat.reduceSub, Nat.reduceEqDiff, Int.reduceToNat, Int.reduceEq, Int.reduceLT, Int.reduceLE, Int.reduceAdd, Int.reduceSub, zg, zI, zJ, zR, zst, zkl, zn, zcat, zok, zraw, List.length_cons, List.length_nil, Option.toList, List.nil_append, List.cons_append, true_and, and_true, if_true, if_false, ne_eq, not_true, not_false_eq_true, and_self, true_or, or_true, false_or, or_false, false_and, and_false, sb Ss, sb Sqq, sr_1 Ss, sr_1 Sqq, sr_2 Ss, sr_2 Sqq, sr_3 Ss, sr_3 Sqq, sr_4 Ss, sr_4 Sqq, sr_5 Ss, sr_5 Sqq, sr_6 Ss, sr_6 Sqq, sx_8 Ss, sx_8 Sqq, sx_9 Ss, sx_9 Sqq, sx_10 Ss, sx_10 Sqq, sx_11 Ss, sx_11 Sqq, sx_12 Ss, sx_12 Sqq, sx_13 Ss, sx_13 Sqq, Nat.zero_le, Int.toNat_zero, ← hμ2, ← hμ3, ← hμ4, ← hμ5, ← hμ6, ← hμ7, ua_eq, us_same, us_us, us_ne, s2, ← hμ8]
  exact fin
/-- a slot takes what is -/
def slS (σ : zSt) (i : Nat) (γ : zG) : zSt := (σ.1, σ.2.1, fun j => if j = i then some γ else σ.2.2.1 j, σ.2.2.2)
def sHold (σ : zSt) (i : Int) : zSt := if 0 ≤ i ∧ i ≤ 2 then slS σ i.toNat (sG σ) else σ
def vHold (i : Int) : Int := if 0 ≤ i ∧ i ≤ 2 then 1 else 0
def sRest (σ : zSt) (i : Int) : zSt := if 0 ≤ i ∧ i ≤ 2 then (match sL σ i.toNat with
  | some γ => setS σ γ (sM σ)
  | none => σ) else σ
def vRest (σ : zSt) (i : Int) : Int := if 0 ≤ i ∧ i ≤ 2 then hN σ i.toNat else 0
theorem slS_w {i : Nat} (h : wfS σ) : wfS (slS σ i (sG σ)) := by
  obtain ⟨w1, w2, w3, w4, w5, w6⟩ := h
  refine ⟨w1, w2, fun j γ' hj hh => ?_, w4, w5, w6⟩
  have hh' : (if j = i then some (sG σ) else sL σ j) = some γ' := hh
  by_cases e : j = i
  · rw [if_pos e] at hh'
    cases hh'
    exact w2
  · rw [if_neg e] at hh'
    exact w3 j γ' hj hh'
theorem CS_hold {i : Nat} {μ' : zM} (hi : i < 3) (h : CS θ T U σ μ) (e : ∀ a, ¬ (62 ≤ a ∧ a ≤ 103) → μ' a = μ a) (eo : ∀ j a, j < 3 → j ≠ i → slN j ≤ a → a ≤ slN j + 13 → μ' a = μ a) (h9 : μ' (slN i) 9 = 1) (hn : CSn (sT σ) (sG σ) (slN i) μ') : CS θ T U (slS σ i (sG σ)) μ' := by
  obtain ⟨hX, hws, hnn, hk, ht, hl, hv, htp, hp⟩ := h
  have F : Fr [62, 63, 64, 65, 66, 67, 68, 69, 70, 71, 72, 73, 74, 75, 76, 77, 78, 79, 80, 81, 82, 83, 84, 85, 86, 87, 88, 89, 90, 91, 92, 93, 94, 95, 96, 97, 98, 99, 100, 101, 102, 103] μ μ' := fun a ha => e a (fun hh => ha (by simp; omega))
  have e' : ∀ a, (a < 62 ∨ 103 < a) → μ' a = μ a := fun a ha => e a (by omega)
  refine ⟨CX_fr hX F (by decide), slS_w hws, CSn_fr (s := 46) (Or.inl rfl) hnn (fun a h1 h2 => e' a (by omega)), ?_, ?_, ?_, ?_, ?_, ?_⟩
  · show CK (sT σ) (sG σ) μ'
    unfold CK CP CQ; rw [e' 104 (by decide), e' 105 (by decide), e' 106 (by decide)]; exact hk
  · show CT (sT σ) (sG σ) μ'
    unfold CT; rw [e' 122 (by decide), e' 130 (by decide)]; exact ht
  · intro j hj
    show match (if j = i then some (sG σ) else sL σ j) with
      | none => μ' (slN j) 9 = 0
      | some γ => μ' (slN j) 9 = 1 ∧ CSn (sT σ) γ (slN j) μ'
    by_cases ej : j = i
    · rw [if_pos ej, ej]
      exact ⟨h9, hn⟩
    · rw [if_neg ej]
      have := hl j hj
      have hsl : slN j = 46 ∨ slN j = 62 ∨ slN j = 76 ∨ slN j = 90 := by unfold slN; omega
      cases hs : sL σ j with
      | none => rw [hs] at this; simp only at this ⊢; rw [eo j _ hj ej (Nat.le_refl _) (by omega)]; exact this
      | some γ =>
        rw [hs] at this
        simp only at this ⊢
        rw [eo j _ hj ej (Nat.le_refl _) (by omega)]
        exact ⟨this.1, CSn_fr hsl this.2 (fun a h1 h2 => eo j a hj ej h1 h2)⟩
  · show CV (sV σ) μ'
    unfold CV; rw [e' 131 (by decide), e' 132 (by decide), e' 133 (by decide), e' 134 (by decide), e' 135 (by decide), e' 136 (by decide)]; exact hv
  · rw [e' 3 (by decide), e' 7 (by decide)]; exact htp
  · rw [e' 2 (by decide)]; unfold CWd; rw [e' 8 (by decide)]; exact hp
theorem kHold {D : Nat} {i : Int} (h : CS θ T U σ μ) (hd : 7 ≤ D) (hQ : ∀ μ', CL μ μ' → CS θ T U (sHold σ i) μ' → Q (some (vi (vHold i))) θ μ') : Ex D 149 0 [vr 2, vi i] [] θ μ Q := by
  have hc := h.1.1.1
  have hd0 : 0 < D := by omega
  unfold sHold vHold at hQ
  by_cases q0 : 0 ≤ i ∧ i ≤ 2
  · rw [if_pos q0, if_pos q0] at hQ
    obtain ⟨N, rfl⟩ : ∃ N : Nat, i = (N : Int) := ⟨i.toNat, by omega⟩
    rw [Int.toNat_natCast] at hQ
    have hN : N < 3 := by omega
    have n0 : ¬ (N : Int) < 0 := by omega
    have n3 : (N : Int) < 3 := by omega
    have i1 : (0 : Int) ≤ (N : Int) := by omega
    have hs : scn (slN N) := by unfold scn slN; omega
    have z1 : (1 : Int) = 0 ∨ (1 : Int) = 1 := Or.inr rfl
    simp only [x149_0, x149_1, x149_4, x149_5, x149_6, x149_9, x149_10, x149_11, x149_12, x149_15, x149_16, x149_17, x149_18, x149_21, x149_24, x149_25, x149_28, x149_29, x149_30, x149_31, x149_34, x149_35, ↓reduceIte, Bool.false_eq_true, Nat.reduceAdd, Nat.reduceLT, Nat.reduceLeDiff, Nat.reduceSub, Nat.reduceEqDiff, Int.reduceToNat, Int.reduceEq, Int.reduceLT, Int.reduceLE, Int.reduceAdd, Int.reduceSub, zg, zI, zJ, zR, zst, zkl, zn, zcat, zok, zraw, List.length_cons, List.length_nil, Option.toList, List.nil_append, List.cons_append, true_and, and_true, if_true, if_false, ne_eq, not_true, not_false_eq_true, and_self, true_or, or_true, false_or, or_false, false_and, and_false, b_2 hc, r_2_5 hc, r_2_4 hc, x_61 hc i1 n3, n_61 hc, Int.toNat_natCast, sl_r hc hN, sl_b hc hN, b_46 hc, n0, n3, hd0]
    refine cCopySc (d := D - 1) (s := slN N) (q := 46) (B := sM σ) hc (by omega) hs (Or.inl rfl) (by unfold slN; omega) h.1.2.1 h.2.1.2.1 h.2.2.1 (fun μ1 f1 _ hn1 => ?_)
    obtain ⟨μ2, hμ2⟩ : ∃ μ2, μ2 = us μ1 (slN N) (zup (μ1 (slN N)) 9 1) := ⟨_, rfl⟩
    have s2 : 2 ≤ slN N := by unfold slN; omega
    simp only [x149_0, x149_1, x149_4, x149_5, x149_6, x149_9, x149_10, x149_11, x149_12, x149_15, x149_16, x149_17, x149_18, x149_21, x149_24, x149_25, x149_28, x149_29, x149_30, x149_31, x149_34, x149_35, ↓reduceIte, Bool.false_eq_true, Nat.reduceAdd, Nat.reduceLT, Nat.reduceLeDiff, Nat.reduceSub, Nat.reduceEqDiff, Int.reduceToNat, Int.reduceEq, Int.reduceLT, Int.reduceLE, Int.reduceAdd, Int.reduceSub, zg, zI, zJ, zR, zst, zkl, zn, zcat, zok, zraw, List.length_cons, List.length_nil, Option.toList, List.nil_append, List.cons_append, true_and, and_true, if_true, if_false, ne_eq, not_true, not_false_eq_true, and_self, true_or, or_true, false_or, or_false, false_and, and_false, b_2 hc, r_2_5 hc, x_61 hc i1 n3, n_61 hc, Int.toNat_natCast, sl_r hc hN, sl_b hc hN, ua_eq, z1, s2, ← hμ2]
    have hsl : slN N = 62 + 14 * N := rfl
    have e : ∀ a, ¬ (slN N ≤ a ∧ a ≤ slN N + 13) → μ2 a = μ a := fun a ha => by rw [hμ2, us_ne (by omega), f1 a (by unfold scA; simp; omega)]
    have g : ∀ a, a ≠ slN N → μ2 a = μ1 a := fun a ha => by rw [hμ2, us_ne ha]
    have g0 : ∀ j, j ≠ 9 → μ2 (slN N) j = μ1 (slN N) j := fun j hj => by rw [hμ2, us_same, zup_ne hj]
    refine hQ μ2 (fun a ha => e a (by omega)) (CS_hold hN h (fun a ha => e a (by omega)) (fun j a hj hne h1 h2 => e a (by unfold slN at h1 h2 ⊢; omega)) (by rw [hμ2, us_same, zup_same rfl]) ?_)
    obtain ⟨⟨c1, c2, c3, c4, c5, c6⟩, c7, c8, ⟨c9, cA⟩, cB, cC⟩ := hn1
    refine ⟨⟨c1, c2, ?_, fun m t hm ht => ?_, ?_, ?_⟩, ?_, fun k hk => ?_, ⟨?_, fun k hk => ?_⟩, ?_, fun k hk => ?_⟩
    · rw [g _ (by omega)]; exact c3
    · rw [g _ (by omega)]; exact c4 m t hm ht
    · rw [g _ (by omega)]; exact c5
    · rw [g _ (by omega)]; exact c6
    · rw [g _ (by omega)]; exact c7
    · rw [g _ (by omega)]; exact c8 k hk
    · rw [g0 7 (by decide)]; exact c9
    · rw [g _ (by omega), g _ (by omega)]; exact cA k hk
    · rw [g0 8 (by decide)]; exact cB
    · rw [g _ (by omega), g _ (by omega), g _ (by omega)]; exact cC k hk
  · rw [if_neg q0, if_neg q0] at hQ
    by_cases n0 : i < 0
    · simp only [x149_0, x149_1, x149_4, x149_5, x149_6, x149_9, x149_10, x149_11, x149_12, x149_15, x149_16, x149_17, x149_18, x149_21, x149_24, x149_25, x149_28, x149_29, x149_30, x149_31, x149_34, x149_35, ↓reduceIte, Bool.false_eq_true, Nat.reduceAdd, Nat.reduceLT, Nat.reduceLeDiff, Nat.reduceSub, Nat.reduceEqDiff, Int.reduceToNat, Int.reduceEq, Int.reduceLT, Int.reduceLE, Int.reduceAdd, Int.reduceSub, zg, zI, zJ, zR, zst, zkl, zn, zcat, zok, zraw, List.length_cons, List.length_nil, Option.toList, List.nil_append, List.cons_append, true_and, and_true, if_true, if_false, ne_eq, not_true, not_false_eq_true, and_self, true_or, or_true, false_or, or_false, false_and, and_false, n0]
      exact hQ μ (fun _ _ => rfl) h
    · have n3 : ¬ i < 3 := by omega
      simp only [x149_0, x149_1, x149_4, x149_5, x149_6, x149_9, x149_10, x149_11, x149_12, x149_15, x149_16, x149_17, x149_18, x149_21, x149_24, x149_25, x149_28, x149_29, x149_30, x149_31, x149_34, x149_35, ↓reduceIte, Bool.false_eq_true, Nat.reduceAdd, Nat.reduceLT, Nat.reduceLeDiff, Nat.reduceSub, Nat.reduceEqDiff, Int.reduceToNat, Int.reduceEq, Int.reduceLT, Int.reduceLE, Int.reduceAdd, Int.reduceSub, zg, zI, zJ, zR, zst, zkl, zn, zcat, zok, zraw, List.length_cons, List.length_nil, Option.toList, List.nil_append, List.cons_append, true_and, and_true, if_true, if_false, ne_eq, not_true, not_false_eq_true, and_self, true_or, or_true, false_or, or_false, false_and, and_false, n0, n3]
      exact hQ μ (fun _ _ => rfl) h
theorem kRestore {D : Nat} {i : Int} (h : CS θ T U σ μ) (hd : 7 ≤ D) (hQ : ∀ μ', CL μ μ' → CS θ T U (sRest σ i) μ' → Q (some (vi (vRest σ i))) θ μ') : Ex D 150 0 [vr 2, vi i] [] θ μ Q := by
  have hc := h.1.1.1
  have hd0 : 0 < D := by omega
  unfold sRest vRest at hQ
  by_cases q0 : 0 ≤ i ∧ i ≤ 2
  · rw [if_pos q0, if_pos q0] at hQ
    obtain ⟨N, rfl⟩ : ∃ N : Nat, i = (N : Int) := ⟨i.toNat, by omega⟩
    rw [Int.toNat_natCast] at hQ
    have hlt : N < 3 := by omega
    have n0 : ¬ (N : Int) < 0 := by omega
    have n3 : ¬ (3 : Int) ≤ (N : Int) := by omega
    have i1 : (0 : Int) ≤ (N : Int) := by omega
    have i3 : (N : Int) < 3 := by omega
    have hs : scn (slN N) := by unfold scn slN; omega
    have e9 := CSl_9 h.2.2.2.2.2.1 hlt
    have hsl := h.2.2.2.2.2.1 N hlt
    cases hL : sL σ N with
    | none =>
      have z : hN σ N = 0 := by unfold hN; rw [hL]
      rw [z] at hQ e9
      rw [hL] at hQ
      simp only [x150_0, x150_1, x150_4, x150_5, x150_6, x150_9, x150_10, x150_13, x150_14, x150_15, x150_18, x150_21, x150_22, x150_23, x150_24, x150_27, x150_28, x150_31, x150_32, x150_33, x150_36, x150_37, x150_40, x150_41, ↓reduceIte, Bool.false_eq_true, Nat.reduceAdd, Nat.reduceLT, Nat.reduceLeDiff, Nat.reduceSub, Nat.reduceEqDiff, Int.reduceToNat, Int.reduceEq, Int.reduceLT, Int.reduceLE, Int.reduceAdd, Int.reduceSub, zg, zI, zJ, zR, zst, zkl, zn, zcat, zok, zraw, List.length_cons, List.length_nil, Option.toList, List.nil_append, List.cons_append, true_and, and_true, if_true, if_false, ne_eq, not_true, not_false_eq_true, and_self, true_or, or_true, false_or, or_false, false_and, and_false, b_2 hc, r_2_5 hc, x_61 hc i1 i3, n_61 hc, Int.toNat_natCast, sl_r hc hlt, sl_b hc hlt, n0, n3, e9]
      exact hQ μ (fun _ _ => rfl) h
    | some γ =>
      have z : hN σ N = 1 := by unfold hN; rw [hL]
      rw [z] at hQ e9
      rw [hL] at hQ hsl
      have hw := h.2.1.2.2.1 N γ hlt hL
      have hM := h.2.1.2.2.2.2.2
      simp only [x150_0, x150_1, x150_4, x150_5, x150_6, x150_9, x150_10, x150_13, x150_14, x150_15, x150_18, x150_21, x150_22, x150_23, x150_24, x150_27, x150_28, x150_31, x150_32, x150_33, x150_36, x150_37, x150_40, x150_41, ↓reduceIte, Bool.false_eq_true, Nat.reduceAdd, Nat.reduceLT, Nat.reduceLeDiff, Nat.reduceSub, Nat.reduceEqDiff, Int.reduceToNat, Int.reduceEq, Int.reduceLT, Int.reduceLE, Int.reduceAdd, Int.reduceSub, zg, zI, zJ, zR, zst, zkl, zn, zcat, zok, zraw, List.length_cons, List.length_nil, Option.toList, List.nil_append, List.cons_append, true_and, and_true, if_true, if_false, ne_eq, not_true, not_false_eq_true, and_self, true_or, or_true, false_or, or_false, false_and, and_false, b_2 hc, r_2_5 hc, r_2_4 hc, x_61 hc i1 i3, n_61 hc, Int.toNat_natCast, sl_r hc hlt, sl_b hc hlt, n0, n3, e9, b_46 hc, hd0]
      refine cCopySc (d := D - 1) (s := 46) (q := slN N) (B := sM σ) hc (by omega) (Or.inl rfl) hs (by unfold slN; omega) h.1.2.1 hw hsl.2 (fun μ1 f1 _ hn1 => ?_)
      simp only [x150_0, x150_1, x150_4, x150_5, x150_6, x150_9, x150_10, x150_13, x150_14, x150_15, x150_18, x150_21, x150_22, x150_23, x150_24, x150_27, x150_28, x150_31, x150_32, x150_33, x150_36, x150_37, x150_40, x150_41, ↓reduceIte, Bool.false_eq_true, Nat.reduceAdd, Nat.reduceLT, Nat.reduceLeDiff, Nat.reduceSub, Nat.reduceEqDiff, Int.reduceToNat, Int.reduceEq, Int.reduceLT, Int.reduceLE, Int.reduceAdd, Int.reduceSub, zg, zI, zJ, zR, zst, zkl, zn, zcat, zok, zraw, List.length_cons, List.length_nil, Option.toList, List.nil_append, List.cons_append, true_and, and_true, if_true, if_false, ne_eq, not_true, not_false_eq_true, and_self, true_or, or_true, false_or, or_false, false_and, and_false, b_2 hc, hd0]
      refine cForgetPlans (d := D - 1) hc (by omega) ?_
      intro μ2 hf p9 p10 p4
      simp only [x150_0, x150_1, x150_4, x150_5, x150_6, x150_9, x150_10, x150_13, x150_14, x150_15, x150_18, x150_21, x150_22, x150_23, x150_24, x150_27, x150_28, x150_31, x150_32, x150_33, x150_36, x150_37, x150_40, x150_41, ↓reduceIte, Bool.false_eq_true, Nat.reduceAdd, Nat.reduceLT, Nat.reduceLeDiff, Nat.reduceSub, Nat.reduceEqDiff, Int.reduceToNat, Int.reduceEq, Int.reduceLT, Int.reduceLE, Int.reduceAdd, Int.reduceSub, zg, zI, zJ, zR, zst, zkl, zn, zcat, zok, zraw, List.length_cons, List.length_nil, Option.toList, List.nil_append, List.cons_append, true_and, and_true, if_true, if_false, ne_eq, not_true, not_false_eq_true, and_self, true_or, or_true, false_or, or_false, false_and, and_false]
      have F : Fr SCA μ μ2 := (f1.mono (by decide)).trans (hf.mono (by decide))
      refine hQ μ2 (CL_fr F (by decide)) (CS_set h ⟨Nat.le_refl _, hM⟩ F hw (CSn_fr (Or.inl rfl) hn1 (fun a h1 h2 => hf a (by simp; omega))) (CK_no p9 p10) (CT_no h.2.2.2.2.1 p4 (F 130 (by decide))))
  · rw [if_neg q0, if_neg q0] at hQ
    by_cases n0 : i < 0
    · simp only [x150_0, x150_1, x150_4, x150_5, x150_6, x150_9, x150_10, x150_13, x150_14, x150_15, x150_18, x150_21, x150_22, x150_23, x150_24, x150_27, x150_28, x150_31, x150_32, x150_33, x150_36, x150_37, x150_40, x150_41, ↓reduceIte, Bool.false_eq_true, Nat.reduceAdd, Nat.reduceLT, Nat.reduceLeDiff, Nat.reduceSub, Nat.reduceEqDiff, Int.reduceToNat, Int.reduceEq, Int.reduceLT, Int.reduceLE, Int.reduceAdd, Int.reduceSub, zg, zI, zJ, zR, zst, zkl, zn, zcat, zok, zraw, List.length_cons, List.length_nil, Option.toList, List.nil_append, List.cons_append, true_and, and_true, if_true, if_false, ne_eq, not_true, not_false_eq_true, and_self, true_or, or_true, false_or, or_false, false_and, and_false, n0]
      exact hQ μ (fun _ _ => rfl) h
    · have n3 : (3 : Int) ≤ i := by omega
      simp only [x150_0, x150_1, x150_4, x150_5, x150_6, x150_9, x150_10, x150_13, x150_14, x150_15, x150_18, x150_21, x150_22, x150_23, x150_24, x150_27, x150_28, x150_31, x150_32, x150_33, x150_36, x150_37, x150_40, x150_41, ↓reduceIte, Bool.false_eq_true, Nat.reduceAdd, Nat.reduceLT, Nat.reduceLeDiff, Nat.reduceSub, Nat.reduceEqDiff, Int.reduceToNat, Int.reduceEq, Int.reduceLT, Int.reduceLE, Int.reduceAdd, Int.reduceSub, zg, zI, zJ, zR, zst, zkl, zn, zcat, zok, zraw, List.length_cons, List.length_nil, Option.toList, List.nil_append, List.cons_append, true_and, and_true, if_true, if_false, ne_eq, not_true, not_false_eq_true, and_self, true_or, or_true, false_or, or_false, false_and, and_false, n0, n3]
      exact hQ μ (fun _ _ => rfl) h
end HO
