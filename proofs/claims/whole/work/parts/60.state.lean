/-! THE WHOLE STATE, as both hold it -/
abbrev zG : Type := zF × (Nat → Int) × (Nat × (Nat → Int) × (Nat → Int)) × zU
def gR (γ : zG) : zF := γ.1
def gY (γ : zG) : Nat → Int := γ.2.1
def gC (γ : zG) : Nat := γ.2.2.1.1
def gA (γ : zG) : Nat → Int := γ.2.2.1.2.1
def gH (γ : zG) : Nat → Int := γ.2.2.1.2.2
def gU (γ : zG) : zU := γ.2.2.2
/-- text, scene, slots, facts, tape (size, bytes), place, how much may lie -/
abbrev zSt : Type := zT × zG × (Nat → Option zG) × zV2 × (Nat × (Nat → Int)) × Int × Nat
def sT (σ : zSt) : zT := σ.1
def sG (σ : zSt) : zG := σ.2.1
def sL (σ : zSt) : Nat → Option zG := σ.2.2.1
def sV (σ : zSt) : zV2 := σ.2.2.2.1
def sN (σ : zSt) : Nat := σ.2.2.2.2.1.1
def sB (σ : zSt) : Nat → Int := σ.2.2.2.2.1.2
def sP (σ : zSt) : Int := σ.2.2.2.2.2.1
def sM (σ : zSt) : Nat := σ.2.2.2.2.2.2
def clI (c : Int) : Prop := (0 ≤ c ∧ c < 4000) ∧ c / 100 % 10 ≤ 5 ∧ c % 100 < 20
def wfG (τ : zT) (γ : zG) (B : Nat) : Prop := wfF τ (gR γ) ∧ ((∀ k, k < 480 → 0 ≤ gY γ k) ∧ sm (gY γ) 480 ≤ B) ∧ (gC γ ≤ 8 ∧ ∀ k, k < gC γ → clI (gA γ k) ∧ 0 ≤ gH γ k ∧ gH γ k ≤ B) ∧ wfU (gU γ)
def wfS (σ : zSt) : Prop := wfT (sT σ) ∧ wfG (sT σ) (sG σ) (sM σ) ∧ (∀ i γ, i < 3 → sL σ i = some γ → wfG (sT σ) γ (sM σ)) ∧ wfV (sV σ) ∧ (sN σ ≤ 2000 ∧ ∀ k, k < sN σ → -128 ≤ sB σ k ∧ sB σ k ≤ 127) ∧ sM σ ≤ 36 * 600
/-- the class's scene s -/
def CSn (τ : zT) (γ : zG) (s : Nat) (μ : zM) : Prop := CF τ (gR γ) (s + 1) μ ∧ (0 ≤ μ (s + 1) 2 ∧ μ (s + 1) 2 < 64) ∧ (∀ k, k < 480 → μ (s + 8) k = gY γ k) ∧ (μ s 7 = (gC γ : Nat) ∧ ∀ k, k < gC γ → μ (s + 9) k = gA γ k ∧ μ (s + 10) k = gH γ k) ∧ CU (gU γ) s μ
/-- what the planner remembers; the teller -/
def CK (τ : zT) (γ : zG) (μ : zM) : Prop := (∀ n : Nat, n ≤ 2 → μ 104 9 = (n : Int) → CP (nlO τ (gR γ) (gU γ) n) μ) ∧ ∀ n : Nat, n ≤ 12 → μ 104 10 = (n : Int) → CQ (stO τ (gR γ) (gU γ) n).1 μ
/-- FROM THE YARD: how far apart in all by a GUST and a WAY -/
def whF (ρ : zF) : zF := (fun m q => if m = 0 then 1 else ρ.1 m q, ρ.2)
def ixO (c : Int) : Nat := (120 * (c / 1000) + 20 * (c / 100 % 10) + c % 100).toNat
def lnO (τ : zT) (ρ : zF) (g w : Int) (t : Nat) : Int := match rnO τ ρ g w (gnO τ ρ) 36 t with
  | some q => ceO τ ρ (loO τ ρ g w (gnO τ ρ) q) t g w
  | none => -1
/-- how many land on a place of the yard -/
def lyO (τ : zT) (ρ : zF) (g w : Int) (k : Nat) : Int := sm (fun t => if (rnO τ ρ g w (gnO τ ρ) 36 t).isSome = true ∧ ixO (lnO τ ρ g w t) = k then 1 else 0) (tn τ)
def apO (τ : zT) (γ : zG) (g w : Int) : Int := sm (fun k => if gY γ k < lyO τ (whF (gR γ)) g w k then lyO τ (whF (gR γ)) g w k - gY γ k else gY γ k - lyO τ (whF (gR γ)) g w k) 480
def fsO (τ : zT) (ρ : zF) (g w : Int) : Int := match alO τ ρ g w (gnO τ ρ) with
  | [] => -2
  | t :: _ => (t : Int)
/-- GUST, WAY, apart, first -/
def ytO (τ : zT) (γ : zG) : Nat → Int × Int × Int × Int
  | 0 => (-1, -1, 2147483647, -2)
  | i + 1 => if apO τ γ ((i / 4 : Nat) : Int) ((i % 4 : Nat) : Int) < (ytO τ γ i).2.2.1 then (((i / 4 : Nat) : Int), ((i % 4 : Nat) : Int), apO τ γ ((i / 4 : Nat) : Int) ((i % 4 : Nat) : Int), fsO τ (whF (gR γ)) ((i / 4 : Nat) : Int) ((i % 4 : Nat) : Int)) else ytO τ γ i
def CT (τ : zT) (γ : zG) (μ : zM) : Prop := (μ 122 4 = 0 ∨ μ 122 4 = 1 ∧ μ 122 0 = (ytO τ γ 400).1 ∧ μ 122 1 = (ytO τ γ 400).2.1 ∧ μ 122 2 = (ytO τ γ 400).2.2.1 ∧ μ 122 3 = (ytO τ γ 400).2.2.2) ∧ ∀ k, k < 480 → μ 130 k = 0
def slN (i : Nat) : Nat := 62 + 14 * i
def CSl (σ : zSt) (μ : zM) : Prop := ∀ i, i < 3 → match sL σ i with
  | none => μ (slN i) 9 = 0
  | some γ => μ (slN i) 9 = 1 ∧ CSn (sT σ) γ (slN i) μ
def CS (θ : zS) (T U : Nat) (σ : zSt) (μ : zM) : Prop := CX θ T U (sT σ) μ ∧ wfS σ ∧ CSn (sT σ) (sG σ) 46 μ ∧ CK (sT σ) (sG σ) μ ∧ CT (sT σ) (sG σ) μ ∧ CSl σ μ ∧ CV (sV σ) μ ∧ (μ 3 3 = (sN σ : Nat) ∧ ∀ k, k < sN σ → μ 7 k = sB σ k) ∧ μ 2 12 = sP σ ∧ CWd μ
/-- what the class leaves: all but its own -/
def CL (μ μ' : zM) : Prop := ∀ a, a < 2 ∨ 138 ≤ a → μ' a = μ a
def ML2 (μ μ' : zM) : Prop := ∀ a, a < 138 → μ' a = μ a
section ST
variable {θ : zS} {T U : Nat} {σ : zSt} {Q : Option zV → zS → zM → Prop} {μ : zM}
/-- numbers that no part of the state lies in -/
def okA (a : Nat) : Bool := decide (a = 4 ∨ a = 5 ∨ a = 6 ∨ a = 9 ∨ a = 10 ∨ a = 11 ∨ (40 ≤ a ∧ a ≤ 45) ∨ a = 60 ∨ (107 ≤ a ∧ a ≤ 121) ∨ (123 ≤ a ∧ a ≤ 129) ∨ a = 137)
theorem CSn_fr {τ : zT} {γ : zG} {s : Nat} {μ' : zM} (hs : s = 46 ∨ s = 62 ∨ s = 76 ∨ s = 90) (h : CSn τ γ s μ) (e : ∀ a, s ≤ a → a ≤ s + 13 → μ' a = μ a) : CSn τ γ s μ' := by
  obtain ⟨⟨hr, hw, h1, h2, h3, h4⟩, hb, hy, hcar, hu⟩ := h
  have e1 := e (s + 1) (by omega) (by omega)
  refine ⟨⟨hr, hw, by rw [e1]; exact h1, fun m t hm ht => by rw [e (s + 1 + (m + 2)) (by omega) (by omega)]; exact h2 m t hm ht, by rw [e1]; exact h3, by rw [e1]; exact h4⟩, by rw [e1]; exact hb, by rw [e (s + 8) (by omega) (by omega)]; exact hy, ?_, ?_⟩
  · rw [e s (by omega) (by omega), e (s + 9) (by omega) (by omega), e (s + 10) (by omega) (by omega)]; exact hcar
  · unfold CU; rw [e s (by omega) (by omega), e (s + 11) (by omega) (by omega), e (s + 12) (by omega) (by omega), e (s + 13) (by omega) (by omega)]; exact hu
theorem CSl_fr {μ' : zM} (h : CSl σ μ) (e : ∀ a, 62 ≤ a → a ≤ 103 → μ' a = μ a) : CSl σ μ' := by
  intro i hi
  have := h i hi
  have hsl : slN i = 62 ∨ slN i = 76 ∨ slN i = 90 := by unfold slN; omega
  have e0 := e (slN i) (by omega) (by omega)
  cases hs : sL σ i with
  | none => rw [hs] at this; simp only at this ⊢; rw [e0]; exact this
  | some γ =>
    rw [hs] at this
    simp only at this ⊢
    exact ⟨by rw [e0]; exact this.1, CSn_fr (by omega) this.2 (fun a h1 h2 => e a (by omega) (by omega))⟩
/-- a call that asks only -/
theorem CS_fr {μ' : zM} {A : List Nat} (h : CS θ T U σ μ) (hf : Fr A μ μ') (hA : ∀ a ∈ A, okA a = true) : CS θ T U σ μ' := by
  obtain ⟨hX, hw, hn, hk, ht, hl, hv, htp, hp⟩ := h
  have e : ∀ a, okA a = false → μ' a = μ a := fun a ha => hf a (fun hm => by have := hA a hm; rw [ha] at this; cases this)
  have hX' : CX θ T U (sT σ) μ' := CX_fr hX hf (fun a ha hh => by have := hA a ha; unfold okA at this; simp at this; omega)
  have r : ∀ a, 46 ≤ a → a ≤ 59 → μ' a = μ a := fun a h1 h2 => e a (by unfold okA; simp; omega)
  have r2 : ∀ a, 62 ≤ a → a ≤ 103 → μ' a = μ a := fun a h1 h2 => e a (by unfold okA; simp; omega)
  refine ⟨hX', hw, CSn_fr (Or.inl rfl) hn r, ?_, ?_, CSl_fr hl r2, ?_, ?_, ?_⟩
  · unfold CK CP CQ; rw [e 104 rfl, e 105 rfl, e 106 rfl]; exact hk
  · unfold CT; rw [e 122 rfl, e 130 rfl]; exact ht
  · unfold CV; rw [e 131 rfl, e 132 rfl, e 133 rfl, e 134 rfl, e 135 rfl, e 136 rfl]; exact hv
  · rw [e 3 rfl, e 7 rfl]; exact htp
  · rw [e 2 rfl]; unfold CWd; rw [e 8 rfl]; exact hp
theorem CL_fr {μ' : zM} {A : List Nat} (hf : Fr A μ μ') (hA : ∀ a ∈ A, 2 ≤ a ∧ a < 138) : CL μ μ' := fun a ha => hf a (fun hm => by have := hA a hm; omega)
theorem CL.trans' {μ' μ'' : zM} (h1 : CL μ μ') (h2 : CL μ' μ'') : CL μ μ'' := fun a ha => (h2 a ha).trans (h1 a ha)
/-! small questions -/
theorem cIsTile (d : Nat) (h : CX θ T U (sT σ) μ) (x : Int) : Ex d 152 0 [vr 2, vi x] [] θ μ Q = Q (some (vi (if 0 ≤ x ∧ x < (tn (sT σ) : Int) then 1 else 0))) θ μ := by
  obtain ⟨⟨hc, hT, hU, hTU, h2T, h2U, hgT⟩, hw, hC, hCc⟩ := h
  have e3 : μ T 13 = (tn (sT σ) : Nat) := hC.2.1
  by_cases h1 : x < 0
  · have h2 : ¬ (0 ≤ x ∧ x < (tn (sT σ) : Int)) := by omega
    simp (disch := omega) only [x152_0, x152_1, x152_4, x152_5, x152_6, x152_9, x152_12, x152_15, x152_16, x152_19, x152_20, ↓reduceIte, Bool.false_eq_true, Nat.reduceAdd, Nat.reduceLT, Nat.reduceLeDiff, Nat.reduceSub, Nat.reduceEqDiff, Int.reduceToNat, Int.reduceEq, Int.reduceLT, Int.reduceLE, Int.reduceAdd, Int.reduceSub, zg, zI, zJ, zR, zst, zkl, zn, zcat, zok, zraw, List.length_cons, List.length_nil, Option.toList, List.nil_append, List.cons_append, true_and, and_true, if_true, if_false, ne_eq, not_true, not_false_eq_true, and_self, true_or, or_true, false_or, or_false, false_and, and_false, b_2 hc, b_3 hc, b_9 hc, b_12 hc, b_26 hc, b_40 hc, b_46 hc, b_47 hc, b_60 hc, b_62 hc, b_63 hc, b_76 hc, b_77 hc, b_90 hc, b_91 hc, b_104 hc, b_107 hc, b_114 hc, b_115 hc, b_122 hc, b_123 hc, b_131 hc, tb hT, Tq1 hT, Tq2 hT, tr_0 hT, tr_1 hT, tr_2 hT, tr_3 hT, tr_4 hT, tr_5 hT, tr_6 hT, tr_7 hT, tr_8 hT, tr_9 hT, tr_10 hT, tr_11 hT, tr_12 hT, tx_1 hT, tx_2 hT, tx_3 hT, tx_4 hT, tx_5 hT, tx_6 hT, tx_7 hT, tx_8 hT, tx_9 hT, tx_10 hT, tx_11 hT, tx_12 hT, tx_13 hT, h2T, h1, h2]
  · by_cases h3 : (tn (sT σ) : Int) ≤ x
    · have h2 : ¬ (0 ≤ x ∧ x < (tn (sT σ) : Int)) := by omega
      simp (disch := omega) only [x152_0, x152_1, x152_4, x152_5, x152_6, x152_9, x152_12, x152_15, x152_16, x152_19, x152_20, ↓reduceIte, Bool.false_eq_true, Nat.reduceAdd, Nat.reduceLT, Nat.reduceLeDiff, Nat.reduceSub, Nat.reduceEqDiff, Int.reduceToNat, Int.reduceEq, Int.reduceLT, Int.reduceLE, Int.reduceAdd, Int.reduceSub, zg, zI, zJ, zR, zst, zkl, zn, zcat, zok, zraw, List.length_cons, List.length_nil, Option.toList, List.nil_append, List.cons_append, true_and, and_true, if_true, if_false, ne_eq, not_true, not_false_eq_true, and_self, true_or, or_true, false_or, or_false, false_and, and_false, b_2 hc, b_3 hc, b_9 hc, b_12 hc, b_26 hc, b_40 hc, b_46 hc, b_47 hc, b_60 hc, b_62 hc, b_63 hc, b_76 hc, b_77 hc, b_90 hc, b_91 hc, b_104 hc, b_107 hc, b_114 hc, b_115 hc, b_122 hc, b_123 hc, b_131 hc, tb hT, Tq1 hT, Tq2 hT, tr_0 hT, tr_1 hT, tr_2 hT, tr_3 hT, tr_4 hT, tr_5 hT, tr_6 hT, tr_7 hT, tr_8 hT, tr_9 hT, tr_10 hT, tr_11 hT, tr_12 hT, tx_1 hT, tx_2 hT, tx_3 hT, tx_4 hT, tx_5 hT, tx_6 hT, tx_7 hT, tx_8 hT, tx_9 hT, tx_10 hT, tx_11 hT, tx_12 hT, tx_13 hT, h2T, h1, h2, e3, h3]
    · have h2 : (0 ≤ x ∧ x < (tn (sT σ) : Int)) := by omega
      simp (disch := omega) only [x152_0, x152_1, x152_4, x152_5, x152_6, x152_9, x152_12, x152_15, x152_16, x152_19, x152_20, ↓reduceIte, Bool.false_eq_true, Nat.reduceAdd, Nat.reduceLT, Nat.reduceLeDiff, Nat.reduceSub, Nat.reduceEqDiff, Int.reduceToNat, Int.reduceEq, Int.reduceLT, Int.reduceLE, Int.reduceAdd, Int.reduceSub, zg, zI, zJ, zR, zst, zkl, zn, zcat, zok, zraw, List.length_cons, List.length_nil, Option.toList, List.nil_append, List.cons_append, true_and, and_true, if_true, if_false, ne_eq, not_true, not_false_eq_true, and_self, true_or, or_true, false_or, or_false, false_and, and_false, b_2 hc, b_3 hc, b_9 hc, b_12 hc, b_26 hc, b_40 hc, b_46 hc, b_47 hc, b_60 hc, b_62 hc, b_63 hc, b_76 hc, b_77 hc, b_90 hc, b_91 hc, b_104 hc, b_107 hc, b_114 hc, b_115 hc, b_122 hc, b_123 hc, b_131 hc, tb hT, Tq1 hT, Tq2 hT, tr_0 hT, tr_1 hT, tr_2 hT, tr_3 hT, tr_4 hT, tr_5 hT, tr_6 hT, tr_7 hT, tr_8 hT, tr_9 hT, tr_10 hT, tr_11 hT, tr_12 hT, tx_1 hT, tx_2 hT, tx_3 hT, tx_4 hT, tx_5 hT, tx_6 hT, tx_7 hT, tx_8 hT, tx_9 hT, tx_10 hT, tx_11 hT, tx_12 hT, tx_13 hT, h2T, h1, h2, e3, h3]
theorem cIsDoor (d : Nat) (h : CX θ T U (sT σ) μ) (x : Int) : Ex d 153 0 [vr 2, vi x] [] θ μ Q = Q (some (vi (if 0 ≤ x ∧ x < (tD (sT σ) : Int) then 1 else 0))) θ μ := by
  obtain ⟨⟨hc, hT, hU, hTU, h2T, h2U, hgT⟩, hw, hC, hCc⟩ := h
  have e3 : μ T 14 = (tD (sT σ) : Nat) := hC.2.2.1
  by_cases h1 : x < 0
  · have h2 : ¬ (0 ≤ x ∧ x < (tD (sT σ) : Int)) := by omega
    simp (disch := omega) only [x153_0, x153_1, x153_4, x153_5, x153_6, x153_9, x153_12, x153_15, x153_16, x153_19, x153_20, ↓reduceIte, Bool.false_eq_true, Nat.reduceAdd, Nat.reduceLT, Nat.reduceLeDiff, Nat.reduceSub, Nat.reduceEqDiff, Int.reduceToNat, Int.reduceEq, Int.reduceLT, Int.reduceLE, Int.reduceAdd, Int.reduceSub, zg, zI, zJ, zR, zst, zkl, zn, zcat, zok, zraw, List.length_cons, List.length_nil, Option.toList, List.nil_append, List.cons_append, true_and, and_true, if_true, if_false, ne_eq, not_true, not_false_eq_true, and_self, true_or, or_true, false_or, or_false, false_and, and_false, b_2 hc, b_3 hc, b_9 hc, b_12 hc, b_26 hc, b_40 hc, b_46 hc, b_47 hc, b_60 hc, b_62 hc, b_63 hc, b_76 hc, b_77 hc, b_90 hc, b_91 hc, b_104 hc, b_107 hc, b_114 hc, b_115 hc, b_122 hc, b_123 hc, b_131 hc, tb hT, Tq1 hT, Tq2 hT, tr_0 hT, tr_1 hT, tr_2 hT, tr_3 hT, tr_4 hT, tr_5 hT, tr_6 hT, tr_7 hT, tr_8 hT, tr_9 hT, tr_10 hT, tr_11 hT, tr_12 hT, tx_1 hT, tx_2 hT, tx_3 hT, tx_4 hT, tx_5 hT, tx_6 hT, tx_7 hT, tx_8 hT, tx_9 hT, tx_10 hT, tx_11 hT, tx_12 hT, tx_13 hT, h2T, h1, h2]
  · by_cases h3 : (tD (sT σ) : Int) ≤ x
    · have h2 : ¬ (0 ≤ x ∧ x < (tD (sT σ) : Int)) := by omega
      simp (disch := omega) only [x153_0, x153_1, x153_4, x153_5, x153_6, x153_9, x153_12, x153_15, x153_16, x153_19, x153_20, ↓reduceIte, Bool.false_eq_true, Nat.reduceAdd, Nat.reduceLT, Nat.reduceLeDiff, Nat.reduceSub, Nat.reduceEqDiff, Int.reduceToNat, Int.reduceEq, Int.reduceLT, Int.reduceLE, Int.reduceAdd, Int.reduceSub, zg, zI, zJ, zR, zst, zkl, zn, zcat, zok, zraw, List.length_cons, List.length_nil, Option.toList, List.nil_append, List.cons_append, true_and, and_true, if_true, if_false, ne_eq, not_true, not_false_eq_true, and_self, true_or, or_true, false_or, or_false, false_and, and_false, b_2 hc, b_3 hc, b_9 hc, b_12 hc, b_26 hc, b_40 hc, b_46 hc, b_47 hc, b_60 hc, b_62 hc, b_63 hc, b_76 hc, b_77 hc, b_90 hc, b_91 hc, b_104 hc, b_107 hc, b_114 hc, b_115 hc, b_122 hc, b_123 hc, b_131 hc, tb hT, Tq1 hT, Tq2 hT, tr_0 hT, tr_1 hT, tr_2 hT, tr_3 hT, tr_4 hT, tr_5 hT, tr_6 hT, tr_7 hT, tr_8 hT, tr_9 hT, tr_10 hT, tr_11 hT, tr_12 hT, tx_1 hT, tx_2 hT, tx_3 hT, tx_4 hT, tx_5 hT, tx_6 hT, tx_7 hT, tx_8 hT, tx_9 hT, tx_10 hT, tx_11 hT, tx_12 hT, tx_13 hT, h2T, h1, h2, e3, h3]
    · have h2 : (0 ≤ x ∧ x < (tD (sT σ) : Int)) := by omega
      simp (disch := omega) only [x153_0, x153_1, x153_4, x153_5, x153_6, x153_9, x153_12, x153_15, x153_16, x153_19, x153_20, ↓reduceIte, Bool.false_eq_true, Nat.reduceAdd, Nat.reduceLT, Nat.reduceLeDiff, Nat.reduceSub, Nat.reduceEqDiff, Int.reduceToNat, Int.reduceEq, Int.reduceLT, Int.reduceLE, Int.reduceAdd, Int.reduceSub, zg, zI, zJ, zR, zst, zkl, zn, zcat, zok, zraw, List.length_cons, List.length_nil, Option.toList, List.nil_append, List.cons_append, true_and, and_true, if_true, if_false, ne_eq, not_true, not_false_eq_true, and_self, true_or, or_true, false_or, or_false, false_and, and_false, b_2 hc, b_3 hc, b_9 hc, b_12 hc, b_26 hc, b_40 hc, b_46 hc, b_47 hc, b_60 hc, b_62 hc, b_63 hc, b_76 hc, b_77 hc, b_90 hc, b_91 hc, b_104 hc, b_107 hc, b_114 hc, b_115 hc, b_122 hc, b_123 hc, b_131 hc, tb hT, Tq1 hT, Tq2 hT, tr_0 hT, tr_1 hT, tr_2 hT, tr_3 hT, tr_4 hT, tr_5 hT, tr_6 hT, tr_7 hT, tr_8 hT, tr_9 hT, tr_10 hT, tr_11 hT, tr_12 hT, tx_1 hT, tx_2 hT, tx_3 hT, tx_4 hT, tx_5 hT, tx_6 hT, tx_7 hT, tx_8 hT, tx_9 hT, tx_10 hT, tx_11 hT, tx_12 hT, tx_13 hT, h2T, h1, h2, e3, h3]
theorem cIsGust (d : Nat) (x : Int) (θ : zS) (μ : zM) (Q : Option zV → zS → zM → Prop) : Ex d 154 0 [vi x] [] θ μ Q = Q (some (vi (if 0 ≤ x ∧ x ≤ 99 then 1 else 0))) θ μ := by
  by_cases h1 : x < 0
  · have h2 : ¬ (0 ≤ x ∧ x ≤ 99) := by omega
    simp only [x154_0, x154_1, x154_4, x154_5, x154_7, x154_10, x154_11, x154_14, x154_15, ↓reduceIte, Bool.false_eq_true, Nat.reduceAdd, Nat.reduceLT, Nat.reduceLeDiff, Nat.reduceSub, Nat.reduceEqDiff, Int.reduceToNat, Int.reduceEq, Int.reduceLT, Int.reduceLE, Int.reduceAdd, Int.reduceSub, zg, zI, zJ, zR, zst, zkl, zn, zcat, zok, zraw, List.length_cons, List.length_nil, Option.toList, List.nil_append, List.cons_append, true_and, and_true, if_true, if_false, ne_eq, not_true, not_false_eq_true, and_self, true_or, or_true, false_or, or_false, false_and, and_false, h1, h2]
  · by_cases h3 : 100 ≤ x
    · have h2 : ¬ (0 ≤ x ∧ x ≤ 99) := by omega
      simp only [x154_0, x154_1, x154_4, x154_5, x154_7, x154_10, x154_11, x154_14, x154_15, ↓reduceIte, Bool.false_eq_true, Nat.reduceAdd, Nat.reduceLT, Nat.reduceLeDiff, Nat.reduceSub, Nat.reduceEqDiff, Int.reduceToNat, Int.reduceEq, Int.reduceLT, Int.reduceLE, Int.reduceAdd, Int.reduceSub, zg, zI, zJ, zR, zst, zkl, zn, zcat, zok, zraw, List.length_cons, List.length_nil, Option.toList, List.nil_append, List.cons_append, true_and, and_true, if_true, if_false, ne_eq, not_true, not_false_eq_true, and_self, true_or, or_true, false_or, or_false, false_and, and_false, h1, h2, h3]
    · have h2 : (0 ≤ x ∧ x ≤ 99) := by omega
      simp only [x154_0, x154_1, x154_4, x154_5, x154_7, x154_10, x154_11, x154_14, x154_15, ↓reduceIte, Bool.false_eq_true, Nat.reduceAdd, Nat.reduceLT, Nat.reduceLeDiff, Nat.reduceSub, Nat.reduceEqDiff, Int.reduceToNat, Int.reduceEq, Int.reduceLT, Int.reduceLE, Int.reduceAdd, Int.reduceSub, zg, zI, zJ, zR, zst, zkl, zn, zcat, zok, zraw, List.length_cons, List.length_nil, Option.toList, List.nil_append, List.cons_append, true_and, and_true, if_true, if_false, ne_eq, not_true, not_false_eq_true, and_self, true_or, or_true, false_or, or_false, false_and, and_false, h1, h2, h3]
theorem cIsWay (d : Nat) (x : Int) (θ : zS) (μ : zM) (Q : Option zV → zS → zM → Prop) : Ex d 155 0 [vi x] [] θ μ Q = Q (some (vi (if 0 ≤ x ∧ x ≤ 3 then 1 else 0))) θ μ := by
  by_cases h1 : x < 0
  · have h2 : ¬ (0 ≤ x ∧ x ≤ 3) := by omega
    simp only [x155_0, x155_1, x155_4, x155_5, x155_6, x155_9, x155_10, x155_13, x155_14, ↓reduceIte, Bool.false_eq_true, Nat.reduceAdd, Nat.reduceLT, Nat.reduceLeDiff, Nat.reduceSub, Nat.reduceEqDiff, Int.reduceToNat, Int.reduceEq, Int.reduceLT, Int.reduceLE, Int.reduceAdd, Int.reduceSub, zg, zI, zJ, zR, zst, zkl, zn, zcat, zok, zraw, List.length_cons, List.length_nil, Option.toList, List.nil_append, List.cons_append, true_and, and_true, if_true, if_false, ne_eq, not_true, not_false_eq_true, and_self, true_or, or_true, false_or, or_false, false_and, and_false, h1, h2]
  · by_cases h3 : 4 ≤ x
    · have h2 : ¬ (0 ≤ x ∧ x ≤ 3) := by omega
      simp only [x155_0, x155_1, x155_4, x155_5, x155_6, x155_9, x155_10, x155_13, x155_14, ↓reduceIte, Bool.false_eq_true, Nat.reduceAdd, Nat.reduceLT, Nat.reduceLeDiff, Nat.reduceSub, Nat.reduceEqDiff, Int.reduceToNat, Int.reduceEq, Int.reduceLT, Int.reduceLE, Int.reduceAdd, Int.reduceSub, zg, zI, zJ, zR, zst, zkl, zn, zcat, zok, zraw, List.length_cons, List.length_nil, Option.toList, List.nil_append, List.cons_append, true_and, and_true, if_true, if_false, ne_eq, not_true, not_false_eq_true, and_self, true_or, or_true, false_or, or_false, false_and, and_false, h1, h2, h3]
    · have h2 : (0 ≤ x ∧ x ≤ 3) := by omega
      simp only [x155_0, x155_1, x155_4, x155_5, x155_6, x155_9, x155_10, x155_13, x155_14, ↓reduceIte, Bool.false_eq_true, Nat.reduceAdd, Nat.reduceLT, Nat.reduceLeDiff, Nat.reduceSub, Nat.reduceEqDiff, Int.reduceToNat, Int.reduceEq, Int.reduceLT, Int.reduceLE, Int.reduceAdd, Int.reduceSub, zg, zI, zJ, zR, zst, zkl, zn, zcat, zok, zraw, List.length_cons, List.length_nil, Option.toList, List.nil_append, List.cons_append, true_and, and_true, if_true, if_false, ne_eq, not_true, not_false_eq_true, and_self, true_or, or_true, false_or, or_false, false_and, and_false, h1, h2, h3]
theorem mIsTile {d : Nat} {s : Nat} {τ : zT} (h : MX θ τ s μ) (hd : 2 ≤ d) (x : Int) : Ex d 204 0 [vr 138, vi x] [] θ μ Q = Q (some (vi (if 0 ≤ x ∧ x < (tn τ : Int) then 1 else 0))) θ μ := by
  have hm := h.1
  have hn := tn_b h.2.1
  have hd0 : 0 < d := by omega
  have a1 : w32 ((tn τ : Int) - 1) = ((tn τ - 1 : Nat) : Int) := w32_s1 (by omega) (by omega)
  have e : (0 ≤ x ∧ x ≤ ((tn τ - 1 : Nat) : Int)) = (0 ≤ x ∧ x < (tn τ : Int)) := propext (by omega)
  simp (disch := omega) only [x204_0, x204_1, x204_2, x204_3, x204_6, x204_7, x204_8, x204_11, ↓reduceIte, Bool.false_eq_true, Nat.reduceAdd, Nat.reduceLT, Nat.reduceLeDiff, Nat.reduceSub, Nat.reduceEqDiff, Int.reduceToNat, Int.reduceEq, Int.reduceLT, Int.reduceLE, Int.reduceAdd, Int.reduceSub, zg, zI, zJ, zR, zst, zkl, zn, zcat, zok, zraw, List.length_cons, List.length_nil, Option.toList, List.nil_append, List.cons_append, true_and, and_true, if_true, if_false, ne_eq, not_true, not_false_eq_true, and_self, true_or, or_true, false_or, or_false, false_and, and_false, b_138 hm, hd0, mTiles _ h, a1, mIn, e]
  by_cases h2 : 0 ≤ x ∧ x < (tn τ : Int)
  · simp [h2]
  · simp [h2]
end ST
