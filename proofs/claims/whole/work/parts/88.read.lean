/-! read, of the class: the call -/
def rdS (σ : zSt) : zSt := match rdO2 (sB σ) (sN σ) with
  | .inl e => (sT σ, sG σ, sL σ, sV σ, (0, sB σ), ((e.2 : Nat) : Int), sM σ)
  | .inr π => (τP π, beG (τP π), fun _ => none, sV σ, (0, sB σ), -1, sM σ)
def rdV (σ : zSt) : Int := match rdO2 (sB σ) (sN σ) with
  | .inl e => ((e.1 : Nat) : Int)
  | .inr _ => 0
/-- references but for the class's own -/
def RO2 (θ θ' : zS) : Prop := θ'.1 = θ.1 ∧ ∀ a j, 138 ≤ a → θ'.2 a j = θ.2 a j
theorem beG_w {τ : zT} (h : wfT τ) (B : Nat) : wfG τ (beG τ) B := by
  refine ⟨beF_w h, ⟨fun k _ => Int.le_refl _, ?_⟩, ⟨Nat.zero_le _, fun k hk => absurd hk (Nat.not_lt_zero _)⟩, Nat.zero_le _, fun k hk => absurd hk (Nat.not_lt_zero _)⟩
  show sm (fun _ => 0) 480 ≤ _
  rw [sm_zero]; omega
theorem rdS_w {σ : zSt} (h : wfS σ) (hp : ∀ π, rdO2 (sB σ) (sN σ) = .inr π → wfT (τP π)) : wfS (rdS σ) := by
  obtain ⟨h1, h2, h3, h4, h5, h6⟩ := h
  unfold rdS
  cases hr : rdO2 (sB σ) (sN σ) with
  | inl e => exact ⟨h1, h2, h3, h4, ⟨Nat.zero_le _, fun k hk => absurd hk (Nat.not_lt_zero _)⟩, h6⟩
  | inr π =>
    have hw := hp π hr
    exact ⟨hw, beG_w hw _, fun i γ _ hh => (by cases hh), h4, ⟨Nat.zero_le _, fun k hk => absurd hk (Nat.not_lt_zero _)⟩, h6⟩
section KR
variable {θ : zS} {T U : Nat} {σ : zSt} {Q : Option zV → zS → zM → Prop} {μ : zM}
theorem kRead {d : Nat} {x1 x2 : zV} (h : CS θ T U σ μ) (hd : 31 ≤ d)
    (hQ : ∀ θ' T' U' μ', RO2 θ θ' → CL μ μ' → CS θ' T' U' (rdS σ) μ' → Q (some (vi (rdV σ))) θ' μ') : Ex d 104 0 [vr 2, x1, x2] [] θ μ Q := by
  obtain ⟨⟨hth, hw, hC, hCc⟩, hws, hn, hk, ht, hl, hv, htp, hp⟩ := h
  have hth0 := hth
  obtain ⟨hc0, hT, hU, hTU, h2T, h2U, hgT⟩ := hth
  have hd0 : 0 < d := by omega
  have hT' : T = 12 ∨ T = 26 := by omega
  have hU' : U = 12 ∨ U = 26 := by omega
  have hB : TB (sB σ) (sN σ) μ := ⟨htp.1, htp.2, hws.2.2.2.2.1.1, hws.2.2.2.2.1.2⟩
  obtain ⟨θ1, hθ1⟩ : ∃ θ1, θ1 = (θ.1, ur θ.2 60 2 (some U)) := ⟨_, rfl⟩
  have hc : Tc θ1 := by rw [hθ1]; exact Tc_ur hc0
  have hT1 : Tq θ1 T := by rw [hθ1]; exact Tq_ur hT hT'
  have hU1 : Tq θ1 U := by rw [hθ1]; exact Tq_ur hU hU'
  have g2T : θ1.2 2 10 = some T := by rw [hθ1]; show ur θ.2 60 2 (some U) 2 10 = some T; rw [ur_ne (by decide)]; exact h2T
  have g2U : θ1.2 2 11 = some U := by rw [hθ1]; show ur θ.2 60 2 (some U) 2 11 = some U; rw [ur_ne (by decide)]; exact h2U
  have ggT : θ1.2 40 8 = some T := by rw [hθ1]; show ur θ.2 60 2 (some U) 40 8 = some T; rw [ur_ne (by decide)]; exact hgT
  have hth1 : Th θ1 T U := ⟨hc, hT1, hU1, hTU, g2T, g2U, ggT⟩
  have ro1 : RO2 θ θ1 := by rw [hθ1]; exact ⟨rfl, fun a j ha => by show ur θ.2 60 2 (some U) a j = _; rw [ur_ne (by omega)]⟩
  simp only [x104_0, x104_1, x104_4, x104_5, x104_8, x104_11, x104_12, x104_13, x104_14, x104_17, x104_18, x104_21, x104_22, x104_25, x104_28, x104_31, x104_32, x104_35, x104_36, x104_39, x104_40, x104_43, x104_44, x104_47, x104_48, x104_49, x104_50, x104_53, x104_56, x104_57, x104_58, x104_61, x104_62, x104_65, x104_66, ↓reduceIte, Bool.false_eq_true, Nat.reduceAdd, Nat.reduceLT, Nat.reduceLeDiff, Nat.reduceSub, Nat.reduceEqDiff, Int.reduceToNat, Int.reduceEq, Int.reduceLT, Int.reduceLE, Int.reduceAdd, Int.reduceSub, zg, zI, zJ, zR, zst, zkl, zn, zcat, zok, zraw, List.length_cons, List.length_nil, Option.toList, List.nil_append, List.cons_append, true_and, and_true, if_true, if_false, ne_eq, not_true, not_false_eq_true, and_self, true_or, or_true, false_or, or_false, false_and, and_false, b_2 hc0, r_2_1 hc0, h2U, b_60 hc0, hd0]
  refine cParse (d := d - 1) hth0 (by omega) hp.2 hB ?_
  rw [← hθ1]
  have hQ' := hQ
  unfold rdS rdV at hQ'
  have hSw := rdS_w (σ := σ) hws
  unfold rdS at hSw
  generalize rdO2 (sB σ) (sN σ) = r at hQ' hSw ⊢
  cases r with
  | inl e =>
    intro μ1 f1 j1 g0 k0
    have k0' : ¬ ((e.1 : Nat) : Int) = 0 := by omega
    simp only at hQ' hSw
    simp only [x104_0, x104_1, x104_4, x104_5, x104_8, x104_11, x104_12, x104_13, x104_14, x104_17, x104_18, x104_21, x104_22, x104_25, x104_28, x104_31, x104_32, x104_35, x104_36, x104_39, x104_40, x104_43, x104_44, x104_47, x104_48, x104_49, x104_50, x104_53, x104_56, x104_57, x104_58, x104_61, x104_62, x104_65, x104_66, ↓reduceIte, Bool.false_eq_true, Nat.reduceAdd, Nat.reduceLT, Nat.reduceLeDiff, Nat.reduceSub, Nat.reduceEqDiff, Int.reduceToNat, Int.reduceEq, Int.reduceLT, Int.reduceLE, Int.reduceAdd, Int.reduceSub, zg, zI, zJ, zR, zst, zkl, zn, zcat, zok, zraw, List.length_cons, List.length_nil, Option.toList, List.nil_append, List.cons_append, true_and, and_true, if_true, if_false, ne_eq, not_true, not_false_eq_true, and_self, true_or, or_true, false_or, or_false, false_and, and_false, b_2 hc, b_3 hc, b_9 hc, b_12 hc, b_26 hc, b_40 hc, b_46 hc, b_47 hc, b_60 hc, b_62 hc, b_63 hc, b_76 hc, b_77 hc, b_90 hc, b_91 hc, b_104 hc, b_107 hc, b_114 hc, b_115 hc, b_122 hc, b_123 hc, b_131 hc, b_2 hc, r_2_0 hc, r_2_1 hc, r_2_2 hc, r_2_3 hc, r_2_4 hc, r_2_5 hc, x_61 hc, n_61 hc, r_2_6 hc, r_2_7 hc, r_2_8 hc, r_2_9 hc, b_60 hc, r_60_1 hc, k0', g0, ua_eq]
    have e1 : ∀ a, a ≠ 60 → ¬ (U ≤ a ∧ a ≤ U + 13) → ¬ (3 ≤ a ∧ a ≤ 6) → μ1 a = μ a := fun a a60 aU a3 => f1 a (by unfold RA; simp only [List.mem_append, List.mem_cons, List.not_mem_nil, or_false]; omega)
    obtain ⟨μ2, hμ2⟩ : ∃ μ2, μ2 = us (us μ1 2 (zup (μ1 2) 12 (e.2 : Nat))) 3 (zup (us μ1 2 (zup (μ1 2) 12 (e.2 : Nat)) 3) 3 0) := ⟨_, rfl⟩
    have f2 : Fr [2, 3] μ1 μ2 := by rw [hμ2]; exact Fr.us (by simp) (Fr.us (by simp) Fr.refl)
    have e2 : ∀ a, a ≠ 60 → ¬ (U ≤ a ∧ a ≤ U + 13) → ¬ (2 ≤ a ∧ a ≤ 6) → μ2 a = μ a := fun a a60 aU a3 => by rw [f2 a (by simp; omega)]; exact e1 a a60 aU (by omega)
    have e212 : μ2 2 12 = (e.2 : Nat) := by rw [hμ2, us_ne (by decide), us_same, zup_same rfl]
    have e33 : μ2 3 3 = 0 := by rw [hμ2, us_same, zup_same rfl]
    rw [← hμ2]
    clear hμ2
    refine hQ' θ1 T U μ2 ro1 (fun a ha => e2 a (by omega) (by omega) (by omega)) ⟨⟨hth1, hw, TCn_fr (fun k hk => e2 _ (by omega) (by omega) (by omega)) hC, TCc_fr (fun k hk => e2 _ (by omega) (by omega) (by omega)) hCc⟩, hSw (fun π hπ => (by cases hπ)), CSn_fr (s := 46) (Or.inl rfl) hn (fun a h1 h2 => e2 a (by omega) (by omega) (by omega)), ?_, ?_, CSl_fr (σ := σ) hl (fun a h1 h2 => ?_), ?_, ⟨e33, fun k hk => absurd hk (Nat.not_lt_zero _)⟩, e212, ?_⟩
    · show CK (sT σ) (sG σ) μ2
      unfold CK CP CQ; rw [e2 104 (by omega) (by omega) (by omega), e2 105 (by omega) (by omega) (by omega), e2 106 (by omega) (by omega) (by omega)]; exact hk
    · show CT (sT σ) (sG σ) μ2
      unfold CT; rw [e2 122 (by omega) (by omega) (by omega), e2 130 (by omega) (by omega) (by omega)]; exact ht
    · exact e2 a (by omega) (by omega) (by omega)
    · unfold CV; rw [e2 131 (by omega) (by omega) (by omega), e2 132 (by omega) (by omega) (by omega), e2 133 (by omega) (by omega) (by omega), e2 134 (by omega) (by omega) (by omega), e2 135 (by omega) (by omega) (by omega), e2 136 (by omega) (by omega) (by omega)]; exact hv
    · unfold CWd; rw [e2 8 (by omega) (by omega) (by omega)]; exact hp.2
  | inr π =>
    intro μ1 f1 j1 hwT tcn tcc hbb hb
    simp only at hQ' hSw
    have e1 : ∀ a, a ≠ 60 → ¬ (U ≤ a ∧ a ≤ U + 13) → ¬ (3 ≤ a ∧ a ≤ 6) → μ1 a = μ a := fun a a60 aU a3 => f1 a (by unfold RA; simp only [List.mem_append, List.mem_cons, List.not_mem_nil, or_false]; omega)
    obtain ⟨μ2, hμ2⟩ : ∃ μ2, μ2 = us (us μ1 2 (zup (μ1 2) 12 (-1))) 3 (zup (us μ1 2 (zup (μ1 2) 12 (-1)) 3) 3 0) := ⟨_, rfl⟩
    have f2 : Fr [2, 3] μ1 μ2 := by rw [hμ2]; exact Fr.us (by simp) (Fr.us (by simp) Fr.refl)
    have e2 : ∀ a, a ≠ 60 → ¬ (U ≤ a ∧ a ≤ U + 13) → ¬ (2 ≤ a ∧ a ≤ 6) → μ2 a = μ a := fun a a60 aU a3 => by rw [f2 a (by simp; omega)]; exact e1 a a60 aU (by omega)
    have e212 : μ2 2 12 = -1 := by rw [hμ2, us_ne (by decide), us_same, zup_same rfl]
    have e33 : μ2 3 3 = 0 := by rw [hμ2, us_same, zup_same rfl]
    have eU : ∀ k, k ≤ 13 → μ2 (U + k) = μ1 (U + k) := fun k hk => f2 _ (by simp; omega)
    have eU0 : μ2 U = μ1 U := f2 _ (by simp; omega)
    obtain ⟨θ2, hθ2⟩ : ∃ θ2, θ2 = (θ1.1, ur θ1.2 2 10 (some U)) := ⟨_, rfl⟩
    obtain ⟨θ3, hθ3⟩ : ∃ θ3, θ3 = (θ2.1, ur θ2.2 2 11 (some T)) := ⟨_, rfl⟩
    have hc2 : Tc θ2 := by rw [hθ2]; exact Tc_gt hc (Or.inr (Or.inl ⟨rfl, rfl⟩))
    have hc3 : Tc θ3 := by rw [hθ3]; exact Tc_gt hc2 (Or.inr (Or.inr ⟨rfl, rfl⟩))
    have hT3 : Tq θ3 T := by rw [hθ3]; exact Tq_gt (by rw [hθ2]; exact Tq_gt hT1 hT' (Or.inr rfl)) hT' (Or.inr rfl)
    have hU3 : Tq θ3 U := by rw [hθ3]; exact Tq_gt (by rw [hθ2]; exact Tq_gt hU1 hU' (Or.inr rfl)) hU' (Or.inr rfl)
    have k2U : θ2.2 2 11 = some U := by rw [hθ2]; show ur θ1.2 2 10 (some U) 2 11 = some U; rw [ur_ne (by decide)]; exact g2U
    have k3T : θ3.2 2 10 = some U := by
      rw [hθ3]; show ur θ2.2 2 11 (some T) 2 10 = some U; rw [ur_ne (by decide), hθ2]; show ur θ1.2 2 10 (some U) 2 10 = some U; exact ur_same
    have k3U : θ3.2 2 11 = some T := by rw [hθ3]; show ur θ2.2 2 11 (some T) 2 11 = some T; exact ur_same
    simp only [x104_0, x104_1, x104_4, x104_5, x104_8, x104_11, x104_12, x104_13, x104_14, x104_17, x104_18, x104_21, x104_22, x104_25, x104_28, x104_31, x104_32, x104_35, x104_36, x104_39, x104_40, x104_43, x104_44, x104_47, x104_48, x104_49, x104_50, x104_53, x104_56, x104_57, x104_58, x104_61, x104_62, x104_65, x104_66, ↓reduceIte, Bool.false_eq_true, Nat.reduceAdd, Nat.reduceLT, Nat.reduceLeDiff, Nat.reduceSub, Nat.reduceEqDiff, Int.reduceToNat, Int.reduceEq, Int.reduceLT, Int.reduceLE, Int.reduceAdd, Int.reduceSub, zg, zI, zJ, zR, zst, zkl, zn, zcat, zok, zraw, List.length_cons, List.length_nil, Option.toList, List.nil_append, List.cons_append, true_and, and_true, if_true, if_false, ne_eq, not_true, not_false_eq_true, and_self, true_or, or_true, false_or, or_false, false_and, and_false, b_2 hc, r_2_0 hc, b_3 hc, g2T, g2U, ua_eq, ← hμ2, ← hθ2, b_2 hc2, ← hθ3, b_2 hc3, hd0]
    clear hμ2
    refine cLayNew (d := d - 1) hc3 hU3 hT3 (by omega) k3T k3U (by omega) hwT (TCn_fr (fun k hk => eU k hk) tcn) (TCc_fr (fun k hk => eU k hk) tcc) (by rw [eU0]; exact hbb) (by rw [eU0]; exact hb) (fun μ3 f3 th3 sn3 sl3 p9 p10 p4 => ?_)
    simp only [x104_0, x104_1, x104_4, x104_5, x104_8, x104_11, x104_12, x104_13, x104_14, x104_17, x104_18, x104_21, x104_22, x104_25, x104_28, x104_31, x104_32, x104_35, x104_36, x104_39, x104_40, x104_43, x104_44, x104_47, x104_48, x104_49, x104_50, x104_53, x104_56, x104_57, x104_58, x104_61, x104_62, x104_65, x104_66, ↓reduceIte, Bool.false_eq_true, Nat.reduceAdd, Nat.reduceLT, Nat.reduceLeDiff, Nat.reduceSub, Nat.reduceEqDiff, Int.reduceToNat, Int.reduceEq, Int.reduceLT, Int.reduceLE, Int.reduceAdd, Int.reduceSub, zg, zI, zJ, zR, zst, zkl, zn, zcat, zok, zraw, List.length_cons, List.length_nil, Option.toList, List.nil_append, List.cons_append, true_and, and_true, if_true, if_false, ne_eq, not_true, not_false_eq_true, and_self, true_or, or_true, false_or, or_false, false_and, and_false]
    have e3 : ∀ a, a ≠ 60 → ¬ (U ≤ a ∧ a ≤ U + 13) → ¬ (2 ≤ a ∧ a ≤ 6) → a ∉ [10, 11, 46, 47, 49, 50, 51, 52, 53, 54, 62, 76, 90, 104, 122] → μ3 a = μ a := fun a a60 aU a3 hm => by rw [f3 a hm]; exact e2 a a60 aU a3
    have eU3 : ∀ k, k ≤ 13 → μ3 (U + k) = μ1 (U + k) := fun k hk => by rw [f3 _ (by simp; omega)]; exact eU k hk
    refine hQ' _ U T μ3 ?_ (fun a ha => e3 a (by omega) (by omega) (by omega) (by simp; omega)) ⟨⟨th3, hwT, TCn_fr (fun k hk => eU3 k hk) tcn, TCc_fr (fun k hk => eU3 k hk) tcc⟩, hSw (fun π' hπ => by injection hπ with hπ; rw [← hπ]; exact hwT), sn3, ⟨fun n _ hh => by omega, fun n _ hh => by omega⟩, ⟨Or.inl p4, ?_⟩, ?_, ?_, ⟨?_, fun k hk => absurd hk (Nat.not_lt_zero _)⟩, ?_, ?_⟩
    · refine ⟨by rw [hθ3, hθ2]; exact ro1.1, fun a j ha => ?_⟩
      show ur θ3.2 40 8 (some U) a j = _
      rw [ur_ne (by omega), hθ3]
      show ur θ2.2 2 11 (some T) a j = _
      rw [ur_ne (by omega), hθ2]
      show ur θ1.2 2 10 (some U) a j = _
      rw [ur_ne (by omega)]
      exact ro1.2 a j ha
    · intro k hk
      rw [e3 130 (by omega) (by omega) (by omega) (by decide)]; exact ht.2 k hk
    · intro i hi
      obtain q | q | q : i = 0 ∨ i = 1 ∨ i = 2 := by omega
      · subst q; exact sl3.1
      · subst q; exact sl3.2.1
      · subst q; exact sl3.2.2
    · show CV (sV σ) μ3
      unfold CV; rw [e3 131 (by omega) (by omega) (by omega) (by decide), e3 132 (by omega) (by omega) (by omega) (by decide), e3 133 (by omega) (by omega) (by omega) (by decide), e3 134 (by omega) (by omega) (by omega) (by decide), e3 135 (by omega) (by omega) (by omega) (by decide), e3 136 (by omega) (by omega) (by omega) (by decide)]; exact hv
    · show μ3 3 3 = 0
      rw [f3 3 (by decide)]; exact e33
    · show μ3 2 12 = -1
      rw [f3 2 (by decide)]; exact e212
    · unfold CWd; rw [e3 8 (by omega) (by omega) (by omega) (by decide)]; exact hp.2
end KR
