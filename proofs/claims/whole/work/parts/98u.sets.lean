/-! CALLS that change the scene, the facts, the tape: what the states want -/
def setS (σ : zSt) (γ : zG) (m : Nat) : zSt := (σ.1, γ, σ.2.2.1, σ.2.2.2.1, σ.2.2.2.2.1, σ.2.2.2.2.2.1, m)
def tpS (σ : zSt) (n : Nat) (B : Nat → Int) : zSt := (σ.1, σ.2.1, σ.2.2.1, σ.2.2.2.1, (n, B), σ.2.2.2.2.2)
def faS (σ : zSt) (V : zV2) : zSt := (σ.1, σ.2.1, σ.2.2.1, V, σ.2.2.2.2)
def SCA : List Nat := [46, 47, 49, 50, 51, 52, 53, 54, 55, 56, 57, 58, 59, 104, 122]
section SX
variable {θ : zS} {T U : Nat} {σ : zSt} {μ μ' : zM} {s : Nat} {γ : zG} {m : Nat}
theorem wfG_mono {τ : zT} {B B' : Nat} (h : wfG τ γ B) (hB : B ≤ B') : wfG τ γ B' := by
  obtain ⟨h1, ⟨h2, h3⟩, ⟨h4, h5⟩, h6⟩ := h
  exact ⟨h1, ⟨h2, by omega⟩, ⟨h4, fun k hk => ⟨(h5 k hk).1, (h5 k hk).2.1, by have := (h5 k hk).2.2; omega⟩⟩, h6⟩
theorem wfS_set (h : wfS σ) (hm : sM σ ≤ m ∧ m ≤ 36 * 600) (hw : wfG (sT σ) γ m) : wfS (setS σ γ m) := by
  obtain ⟨h1, h2, h3, h4, h5, h6⟩ := h
  exact ⟨h1, hw, fun i γ' hi hh => wfG_mono (h3 i γ' hi hh) hm.1, h4, h5, hm.2⟩
theorem CK_no {τ : zT} (h9 : μ 104 9 = -1) (h10 : μ 104 10 = -1) : CK τ γ μ := ⟨fun n _ hn => by omega, fun n _ hn => by omega⟩
theorem CT_no {τ τ' : zT} {γ' : zG} (h : CT τ' γ' μ) (h4 : μ' 122 4 = 0) (e : μ' 130 = μ 130) : CT τ γ μ' := ⟨Or.inl h4, by rw [e]; exact h.2⟩
theorem CS_set (h : CS θ T U σ μ) (hm : sM σ ≤ m ∧ m ≤ 36 * 600) (hf : Fr SCA μ μ') (hw : wfG (sT σ) γ m) (hn : CSn (sT σ) γ 46 μ') (hk : CK (sT σ) γ μ') (ht : CT (sT σ) γ μ') : CS θ T U (setS σ γ m) μ' := by
  obtain ⟨hX, hws, _, _, _, hl, hv, htp, hp⟩ := h
  have e : ∀ a, a ∉ SCA → μ' a = μ a := fun a ha => hf a ha
  refine ⟨CX_fr hX hf (by decide), wfS_set hws hm hw, hn, hk, ht, ?_, ?_, ?_, ?_⟩
  · exact CSl_fr (σ := σ) hl (fun a h1 h2 => e a (by unfold SCA; simp; omega))
  · show CV (sV σ) μ'
    unfold CV; rw [e 131 (by decide), e 132 (by decide), e 133 (by decide), e 134 (by decide), e 135 (by decide), e 136 (by decide)]; exact hv
  · rw [e 3 (by decide), e 7 (by decide)]; exact htp
  · rw [e 2 (by decide)]; unfold CWd; rw [e 8 (by decide)]; exact hp
theorem MS_set (h : MS θ σ s μ) (hm : sM σ ≤ m ∧ m ≤ 36 * 600) (hf : Fr [138, 172, 173, 174, 175, 176, 177, 178, 179, 180, 181, 182, 183, 184, 185, 186, 187, 170, 171] μ μ') (hj : ∀ j, j = 2 ∨ j = 17 ∨ j = 18 ∨ j = 78 → μ' 138 j = μ 138 j) (hw : wfG (sT σ) γ m) (hn : MSn (sT σ) γ μ') : MS θ (setS σ γ m) s μ' := by
  obtain ⟨hX, hws, _, hl, hv, htp, hp⟩ := h
  have e : ∀ a, a ∉ [138, 172, 173, 174, 175, 176, 177, 178, 179, 180, 181, 182, 183, 184, 185, 186, 187, 170, 171] → μ' a = μ a := fun a ha => hf a ha
  refine ⟨MX_fr hX hf (by decide) (hj 18 (by omega)), wfS_set hws hm hw, hn, ?_, ?_, ?_, ?_⟩
  · intro i hi
    have := hl i hi
    show match sL σ i with
      | none => μ' 198 i = 0
      | some γ => μ' 198 i = 1 ∧ MHn (sT σ) γ i μ'
    cases hs : sL σ i with
    | none => rw [hs] at this; simp only at this ⊢; rw [e 198 (by decide)]; exact this
    | some γ =>
      rw [hs] at this
      simp only at this ⊢
      unfold MHn
      rw [e 198 (by decide), e 199 (by decide), e 200 (by decide), e 201 (by decide), e 202 (by decide), e 203 (by decide), e 204 (by decide), e 205 (by decide), e 206 (by decide), e 207 (by decide), e 208 (by decide), e 209 (by decide), e 210 (by decide), e 211 (by decide), e 212 (by decide), e 213 (by decide)]
      exact this
  · show MV2 (sV σ) μ'
    unfold MV2; rw [hj 78 (by omega), e 193 (by decide), e 194 (by decide), e 195 (by decide), e 196 (by decide), e 197 (by decide)]; exact hv
  · rw [hj 2 (by omega), e 139 (by decide)]; exact htp
  · rw [hj 17 (by omega)]; unfold MKd; rw [e 145 (by decide)]
    refine ⟨hp.1, hp.2.1, ?_⟩
    show TS (sT σ) s μ'
    unfold TS TQb; rw [e 152 (by decide), e 153 (by decide), e 155 (by decide), e 156 (by decide), e 164 (by decide), e 166 (by decide)]; exact hp.2.2
/-- the tape -/
theorem CS_tape {n : Nat} {B : Nat → Int} (h : CS θ T U σ μ) (hf : Fr [3, 7] μ μ') (hn : n ≤ 2000 ∧ ∀ k, k < n → -128 ≤ B k ∧ B k ≤ 127) (h3 : μ' 3 3 = (n : Nat)) (h7 : ∀ k, k < n → μ' 7 k = B k) : CS θ T U (tpS σ n B) μ' := by
  obtain ⟨hX, ⟨w1, w2, w3, w4, w5, w6⟩, hnn, hk, ht, hl, hv, htp, hp⟩ := h
  have e : ∀ a, a ∉ [3, 7] → μ' a = μ a := fun a ha => hf a ha
  refine ⟨CX_fr hX hf (by decide), ⟨w1, w2, w3, w4, hn, w6⟩, CSn_fr (s := 46) (Or.inl rfl) hnn (fun a h1 h2 => e a (by simp; omega)), ?_, ?_, ?_, ?_, ⟨h3, h7⟩, ?_⟩
  · show CK (sT σ) (sG σ) μ'
    unfold CK CP CQ; rw [e 104 (by decide), e 105 (by decide), e 106 (by decide)]; exact hk
  · show CT (sT σ) (sG σ) μ'
    unfold CT; rw [e 122 (by decide), e 130 (by decide)]; exact ht
  · exact CSl_fr (σ := σ) hl (fun a h1 h2 => e a (by simp; omega))
  · show CV (sV σ) μ'
    unfold CV; rw [e 131 (by decide), e 132 (by decide), e 133 (by decide), e 134 (by decide), e 135 (by decide), e 136 (by decide)]; exact hv
  · rw [e 2 (by decide)]; unfold CWd; rw [e 8 (by decide)]; exact hp
theorem MS_tape {n : Nat} {B : Nat → Int} (h : MS θ σ s μ) (hf : Fr [138, 139] μ μ') (hj : ∀ j, j ≠ 2 → μ' 138 j = μ 138 j) (hn : n ≤ 2000 ∧ ∀ k, k < n → -128 ≤ B k ∧ B k ≤ 127) (h2 : μ' 138 2 = (n : Nat)) (h7 : ∀ k, k < n → μ' 139 k = B k) : MS θ (tpS σ n B) s μ' := by
  obtain ⟨hX, ⟨w1, w2, w3, w4, w5, w6⟩, ⟨hR, hy, hcar, hu⟩, hl, hv, htp, hp⟩ := h
  have e : ∀ a, a ∉ [138, 139] → μ' a = μ a := fun a ha => hf a ha
  refine ⟨MX_fr hX hf (by decide) (hj 18 (by decide)), ⟨w1, w2, w3, w4, hn, w6⟩, ⟨MR_fr hR hf (by decide) (hj 57 (by decide)), ?_, ?_, ?_⟩, ?_, ?_, ⟨h2, h7⟩, ?_⟩
  · rw [e 178 (by decide)]; exact hy
  · rw [hj 59 (by decide), e 179 (by decide), e 180 (by decide)]; exact hcar
  · show MU (gU (sG σ)) μ'
    unfold MU; rw [hj 62 (by decide), e 181 (by decide), e 182 (by decide), e 183 (by decide)]; exact hu
  · intro i hi
    have := hl i hi
    show match sL σ i with
      | none => μ' 198 i = 0
      | some γ => μ' 198 i = 1 ∧ MHn (sT σ) γ i μ'
    cases hs : sL σ i with
    | none => rw [hs] at this; simp only at this ⊢; rw [e 198 (by decide)]; exact this
    | some γ =>
      rw [hs] at this
      simp only at this ⊢
      unfold MHn
      rw [e 198 (by decide), e 199 (by decide), e 200 (by decide), e 201 (by decide), e 202 (by decide), e 203 (by decide), e 204 (by decide), e 205 (by decide), e 206 (by decide), e 207 (by decide), e 208 (by decide), e 209 (by decide), e 210 (by decide), e 211 (by decide), e 212 (by decide), e 213 (by decide)]
      exact this
  · show MV2 (sV σ) μ'
    unfold MV2; rw [hj 78 (by decide), e 193 (by decide), e 194 (by decide), e 195 (by decide), e 196 (by decide), e 197 (by decide)]; exact hv
  · rw [hj 17 (by decide)]; unfold MKd; rw [e 145 (by decide)]
    refine ⟨hp.1, hp.2.1, ?_⟩
    show TS (sT σ) s μ'
    unfold TS TQb; rw [e 152 (by decide), e 153 (by decide), e 155 (by decide), e 156 (by decide), e 164 (by decide), e 166 (by decide)]; exact hp.2.2
/-- the facts -/
theorem CS_facts {V : zV2} (h : CS θ T U σ μ) (hf : Fr [131, 132, 133, 134, 135, 136, 137] μ μ') (hw : wfV V) (hV : CV V μ') : CS θ T U (faS σ V) μ' := by
  obtain ⟨hX, ⟨w1, w2, w3, w4, w5, w6⟩, hnn, hk, ht, hl, hv, htp, hp⟩ := h
  have e : ∀ a, a ∉ [131, 132, 133, 134, 135, 136, 137] → μ' a = μ a := fun a ha => hf a ha
  refine ⟨CX_fr hX hf (by decide), ⟨w1, w2, w3, hw, w5, w6⟩, CSn_fr (s := 46) (Or.inl rfl) hnn (fun a h1 h2 => e a (by simp; omega)), ?_, ?_, ?_, hV, ?_, ?_⟩
  · show CK (sT σ) (sG σ) μ'
    unfold CK CP CQ; rw [e 104 (by decide), e 105 (by decide), e 106 (by decide)]; exact hk
  · show CT (sT σ) (sG σ) μ'
    unfold CT; rw [e 122 (by decide), e 130 (by decide)]; exact ht
  · exact CSl_fr (σ := σ) hl (fun a h1 h2 => e a (by simp; omega))
  · rw [e 3 (by decide), e 7 (by decide)]; exact htp
  · rw [e 2 (by decide)]; unfold CWd; rw [e 8 (by decide)]; exact hp
theorem MS_facts {V : zV2} (h : MS θ σ s μ) (hf : Fr [138, 193, 194, 195, 196, 197] μ μ') (hj : ∀ j, j ≠ 78 → μ' 138 j = μ 138 j) (hw : wfV V) (hV : MV2 V μ') : MS θ (faS σ V) s μ' := by
  obtain ⟨hX, ⟨w1, w2, w3, w4, w5, w6⟩, ⟨hR, hy, hcar, hu⟩, hl, hv, htp, hp⟩ := h
  have e : ∀ a, a ∉ [138, 193, 194, 195, 196, 197] → μ' a = μ a := fun a ha => hf a ha
  refine ⟨MX_fr hX hf (by decide) (hj 18 (by decide)), ⟨w1, w2, w3, hw, w5, w6⟩, ⟨MR_fr hR hf (by decide) (hj 57 (by decide)), ?_, ?_, ?_⟩, ?_, hV, ?_, ?_⟩
  · rw [e 178 (by decide)]; exact hy
  · rw [hj 59 (by decide), e 179 (by decide), e 180 (by decide)]; exact hcar
  · show MU (gU (sG σ)) μ'
    unfold MU; rw [hj 62 (by decide), e 181 (by decide), e 182 (by decide), e 183 (by decide)]; exact hu
  · intro i hi
    have := hl i hi
    show match sL σ i with
      | none => μ' 198 i = 0
      | some γ => μ' 198 i = 1 ∧ MHn (sT σ) γ i μ'
    cases hs : sL σ i with
    | none => rw [hs] at this; simp only at this ⊢; rw [e 198 (by decide)]; exact this
    | some γ =>
      rw [hs] at this
      simp only at this ⊢
      unfold MHn
      rw [e 198 (by decide), e 199 (by decide), e 200 (by decide), e 201 (by decide), e 202 (by decide), e 203 (by decide), e 204 (by decide), e 205 (by decide), e 206 (by decide), e 207 (by decide), e 208 (by decide), e 209 (by decide), e 210 (by decide), e 211 (by decide), e 212 (by decide), e 213 (by decide)]
      exact this
  · rw [hj 2 (by decide), e 139 (by decide)]; exact htp
  · rw [hj 17 (by decide)]; unfold MKd; rw [e 145 (by decide)]
    refine ⟨hp.1, hp.2.1, ?_⟩
    show TS (sT σ) s μ'
    unfold TS TQb; rw [e 152 (by decide), e 153 (by decide), e 155 (by decide), e 156 (by decide), e 164 (by decide), e 166 (by decide)]; exact hp.2.2
end SX
