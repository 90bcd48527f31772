/-! THE WHOLE STATE, as the reference holds it -/
def MSn (τ : zT) (γ : zG) (μ : zM) : Prop := MR τ (gR γ) μ ∧ (∀ k, k < 480 → μ 178 k = gY γ k) ∧ (μ 138 59 = (gC γ : Nat) ∧ ∀ k, k < gC γ → μ 179 k = gA γ k ∧ μ 180 k = gH γ k) ∧ MU (gU γ) μ
def MHn (τ : zT) (γ : zG) (i : Nat) (μ : zM) : Prop := ((∀ t, t < tn τ → (μ 199 (36 * i + t) = 1 - (gR γ).1 0 t ∧ μ 200 (36 * i + t) = (gR γ).1 1 t) ∧ μ 201 (36 * i + t) = (gR γ).1 2 t ∧ μ 202 (36 * i + t) = (gR γ).1 3 t ∧ μ 203 (36 * i + t) = (gR γ).1 4 t)
  ∧ (∀ k, k < tD τ → μ 204 (6 * i + k) = (gR γ).2.1 k) ∧ μ 205 i = (gR γ).2.2) ∧ (∀ k, k < 480 → μ 206 (480 * i + k) = gY γ k) ∧ (μ 207 i = (gC γ : Nat) ∧ ∀ k, k < gC γ → μ 208 (8 * i + k) = gA γ k ∧ μ 209 (8 * i + k) = gH γ k)
  ∧ μ 210 i = ((gU γ).1 : Nat) ∧ ∀ k, k < (gU γ).1 → μ 211 (4 * i + k) = (gU γ).2.1 k ∧ μ 212 (4 * i + k) = (gU γ).2.2.1 k ∧ μ 213 (4 * i + k) = (gU γ).2.2.2 k
def MSl (σ : zSt) (μ : zM) : Prop := ∀ i, i < 3 → match sL σ i with
  | none => μ 198 i = 0
  | some γ => μ 198 i = 1 ∧ MHn (sT σ) γ i μ
/-- where the code and the LITS of the text on a side lie -/
def TQb (τ : zT) (b cB lB : Nat) (μ : zM) : Prop := (cB ≤ 420 * b + 420 ∧ lB ≤ 150 * b + 150) ∧ (∀ k, k < 4 → tL τ k ≠ none → ((420 * b : Nat) : Int) ≤ μ 155 (4 * b + k) ∧ μ 156 (4 * b + k) ≤ (cB : Nat))
  ∧ (∀ k i, k < 3 → i < (tR τ k).length → ((150 * b : Nat) : Int) ≤ μ 152 (18 * b + 6 * k + i) ∧ μ 153 (18 * b + 6 * k + i) ≤ (lB : Nat)) ∧ ∀ q, 150 * b ≤ q → q < lB → ((420 * b : Nat) : Int) ≤ μ 164 q ∧ μ 166 q ≤ (cB : Nat)
def TS (τ : zT) (s : Nat) (μ : zM) : Prop := ∃ cB lB, TQb τ s cB lB μ
def MS (θ : zS) (σ : zSt) (s : Nat) (μ : zM) : Prop := MX θ (sT σ) s μ ∧ wfS σ ∧ MSn (sT σ) (sG σ) μ ∧ MSl σ μ ∧ MV2 (sV σ) μ ∧ (μ 138 2 = (sN σ : Nat) ∧ ∀ k, k < sN σ → μ 139 k = sB σ k) ∧ μ 138 17 = sP σ ∧ MKd μ ∧ TS (sT σ) s μ
def J9 (μ μ' : zM) : Prop := ∀ j, (j = 2 ∨ j = 17 ∨ j = 18 ∨ j = 57 ∨ j = 59 ∨ j = 62 ∨ j = 78) → μ' 138 j = μ 138 j
section SM
variable {θ : zS} {s : Nat} {σ : zSt} {Q : Option zV → zS → zM → Prop} {μ : zM}
theorem J5.nine {μ' : zM} (h : J5 μ μ') : J9 μ μ' := fun j hj => h j (by omega) (by omega)
theorem J6.nine {μ' : zM} (h : J6 μ μ') : J9 μ μ' := fun j hj => h j (by omega) (by omega) (by omega)
theorem J7.nine {μ' : zM} (h : J7 μ μ') : J9 μ μ' := fun j hj => h j (by omega) (by omega) (by omega)
theorem J1.nine {μ' : zM} (h : ∀ j, j ≠ 50 → μ' 138 j = μ 138 j) : J9 μ μ' := fun j hj => h j (by omega)
/-- numbers that no part of the reference's state lies in; with the roof's own -/
def okM (a : Nat) : Bool := decide (a = 138 ∨ (140 ≤ a ∧ a ≤ 144) ∨ a = 146 ∨ (169 ≤ a ∧ a ≤ 171) ∨ (184 ≤ a ∧ a ≤ 192))
def okR (a : Nat) : Bool := okM a || decide (173 ≤ a ∧ a ≤ 177)
theorem MS_fr2 {μ' : zM} {A : List Nat} (h : MS θ σ s μ) (hf : Fr A μ μ') (hA : ∀ a ∈ A, okR a = true) (hj : J9 μ μ') (hR : MR (sT σ) (gR (sG σ)) μ') : MS θ σ s μ' := by
  obtain ⟨hX, hw, ⟨_, hy, hcar, hu⟩, hl, hv, htp, hp⟩ := h
  have e : ∀ a, okR a = false → μ' a = μ a := fun a ha => hf a (fun hm => by have := hA a hm; rw [ha] at this; cases this)
  refine ⟨MX_fr hX hf (fun a ha hh => by have := hA a ha; unfold okR okM at this; simp at this; omega) (hj 18 (by omega)), hw, ⟨hR, by rw [e 178 rfl]; exact hy, ?_, ?_⟩, ?_, ?_, ?_, by rw [hj 17 (by omega)]; unfold MKd TS TQb; rw [e 145 rfl, e 152 rfl, e 153 rfl, e 155 rfl, e 156 rfl, e 164 rfl, e 166 rfl]; exact hp⟩
  · rw [hj 59 (by omega), e 179 rfl, e 180 rfl]; exact hcar
  · unfold MU; rw [hj 62 (by omega), e 181 rfl, e 182 rfl, e 183 rfl]; exact hu
  · intro i hi
    have := hl i hi
    cases hs : sL σ i with
    | none => rw [hs] at this; simp only at this ⊢; rw [e 198 rfl]; exact this
    | some γ =>
      rw [hs] at this
      simp only at this ⊢
      unfold MHn
      rw [e 198 rfl, e 199 rfl, e 200 rfl, e 201 rfl, e 202 rfl, e 203 rfl, e 204 rfl, e 205 rfl, e 206 rfl, e 207 rfl, e 208 rfl, e 209 rfl, e 210 rfl, e 211 rfl, e 212 rfl, e 213 rfl]
      exact this
  · unfold MV2; rw [hj 78 (by omega), e 193 rfl, e 194 rfl, e 195 rfl, e 196 rfl, e 197 rfl]; exact hv
  · rw [hj 2 (by omega), e 139 rfl]; exact htp
theorem MS_fr {μ' : zM} {A : List Nat} (h : MS θ σ s μ) (hf : Fr A μ μ') (hA : ∀ a ∈ A, okM a = true) (hj : J9 μ μ') : MS θ σ s μ' :=
  MS_fr2 h hf (fun a ha => by unfold okR; rw [hA a ha]; rfl) hj (MR_fr h.2.2.1.1 hf (fun a ha hh => by have := hA a ha; unfold okM at this; simp at this; omega) (hj 57 (by omega)))
theorem MS_wt (h : MS θ σ s μ) : wfT (sT σ) := h.1.2.1
theorem MLe_fr {μ' : zM} {A : List Nat} (hf : Fr A μ μ') (hA : ∀ a ∈ A, 138 ≤ a) : ML2 μ μ' := fun a ha => hf a (fun hm => by have := hA a hm; omega)
end SM
