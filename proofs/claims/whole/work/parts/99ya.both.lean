/-! BOTH together -/
section BO
variable {θ θ' : zS} {T U s : Nat} {σ : zSt} {μ μ' : zM}
theorem CS_ML (h : CS θ T U σ μ) (e : ML2 μ μ') : CS θ T U σ μ' := by
  obtain ⟨hX, hw, hn, hk, ht, hl, hv, htp, hp⟩ := h
  have hTU := hX.1.2.2.2.1
  refine ⟨⟨hX.1, hX.2.1, TCn_fr (fun k hk => e _ (by omega)) hX.2.2.1, TCc_fr (fun k hk => e _ (by omega)) hX.2.2.2⟩, hw, CSn_fr (s := 46) (Or.inl rfl) hn (fun a h1 h2 => e a (by omega)), ?_, ?_, CSl_fr (σ := σ) hl (fun a h1 h2 => e a (by omega)), ?_, ?_, ?_⟩
  · unfold CK CP CQ; rw [e 104 (by decide), e 105 (by decide), e 106 (by decide)]; exact hk
  · unfold CT; rw [e 122 (by decide), e 130 (by decide)]; exact ht
  · unfold CV; rw [e 131 (by decide), e 132 (by decide), e 133 (by decide), e 134 (by decide), e 135 (by decide), e 136 (by decide)]; exact hv
  · rw [e 3 (by decide), e 7 (by decide)]; exact htp
  · rw [e 2 (by decide)]; unfold CWd; rw [e 8 (by decide)]; exact hp
theorem CS_th (h : CS θ T U σ μ) (hth : Th θ' T U) : CS θ' T U σ μ := ⟨⟨hth, h.1.2⟩, h.2⟩
theorem MS_th (h : MS θ σ s μ) (hm : Tm θ') : MS θ' σ s μ := ⟨⟨hm, h.1.2⟩, h.2⟩
theorem MS_CL (h : MS θ σ s μ) (e : ∀ a, 138 ≤ a → μ' a = μ a) : MS θ σ s μ' := by
  obtain ⟨⟨hm, hwT, hT, h18, hs⟩, hw, hn, hl, hv, htp, hp⟩ := h
  refine ⟨⟨hm, hwT, TM_fr (fun a h1 h2 => e a (by omega)) hT, by rw [e 138 (by decide)]; exact h18, hs⟩, hw, ?_, ?_, ?_, ?_, ?_⟩
  · unfold MSn MR ML MU
    rw [e 138 (by decide), e 172 (by decide), e 173 (by decide), e 174 (by decide), e 175 (by decide), e 176 (by decide), e 177 (by decide), e 178 (by decide), e 179 (by decide), e 180 (by decide), e 181 (by decide), e 182 (by decide), e 183 (by decide)]
    exact hn
  · intro i hi
    have := hl i hi
    cases hs : sL σ i with
    | none => rw [hs] at this; simp only at this ⊢; rw [e 198 (by decide)]; exact this
    | some γ =>
      rw [hs] at this
      simp only at this ⊢
      unfold MHn
      rw [e 198 (by decide), e 199 (by decide), e 200 (by decide), e 201 (by decide), e 202 (by decide), e 203 (by decide), e 204 (by decide), e 205 (by decide), e 206 (by decide), e 207 (by decide), e 208 (by decide), e 209 (by decide), e 210 (by decide), e 211 (by decide), e 212 (by decide), e 213 (by decide)]
      exact this
  · unfold MV2; rw [e 138 (by decide), e 193 (by decide), e 194 (by decide), e 195 (by decide), e 196 (by decide), e 197 (by decide)]; exact hv
  · rw [e 138 (by decide), e 139 (by decide)]; exact htp
  · rw [e 138 (by decide)]; unfold MKd TS TQb; rw [e 145 (by decide), e 152 (by decide), e 153 (by decide), e 155 (by decide), e 156 (by decide), e 164 (by decide), e 166 (by decide)]; exact hp
theorem Tm_ro (h : Tm θ) (r : RO2 θ θ') : Tm θ' := by
  refine ⟨fun a h1 h2 => by rw [r.1]; exact h.1 a h1 h2, fun p hp => ?_⟩
  have key : ∀ p ∈ RLm, 138 ≤ p.1 := by decide +kernel
  rw [r.2 p.1 p.2.1 (key p hp)]
  exact h.2 p hp
/-- how much may lie -/
theorem sM_ite {p : Prop} [Decidable p] {a b : zSt} {m : Nat} (ha : sM a ≤ m) (hb : sM b ≤ m) : sM (if p then a else b) ≤ m := by
  by_cases h : p
  · rw [if_pos h]; exact ha
  · rw [if_neg h]; exact hb
variable {m : Nat}
theorem sM_feed {a b c d e : Int} (h : sM σ ≤ m) : sM (sFeed σ a b c d e) ≤ m := sM_ite h h
theorem sM_back {x : Int} (h : sM σ ≤ m) : sM (sBack σ x) ≤ m := sM_ite h h
theorem sM_read (h : sM σ ≤ m) : sM (rdS σ) ≤ m := by
  unfold rdS
  cases rdO2 (sB σ) (sN σ) with
  | inl e => exact h
  | inr π => exact h
theorem sM_set {t k v : Int} (h : sM σ ≤ m) : sM (sSet σ t k v) ≤ m := sM_ite h h
theorem sM_there {t b : Int} (h : sM σ ≤ m) : sM (sThere σ t b) ≤ m := sM_ite h h
theorem sM_open {k b : Int} (h : sM σ ≤ m) : sM (sOpen σ k b) ≤ m := sM_ite h h
theorem sM_felt {b : Int} (h : sM σ ≤ m) : sM (feS σ b) ≤ m := h
theorem sM_sweep (h : sM σ ≤ m) : sM (sSweep σ) ≤ m := h
theorem sM_car {c : Int} (h : sM σ ≤ m) : sM (sCar σ c) ≤ m := sM_ite h h
theorem sM_gust {g w t : Int} (h : sM σ ≤ m) : sM (sGust σ g w t) ≤ m := sM_ite h h
theorem sM_calm (h : sM σ ≤ m) : sM (sCalm σ) ≤ m := h
theorem sM_house {a w n l : Int} (h : sM σ ≤ m) : sM (sHouse σ a w n l) ≤ m := sM_ite h h
theorem sM_annul {f : Int} (h : sM σ ≤ m) : sM (sAnnul σ f) ≤ m := sM_ite h h
theorem sM_hold {i : Int} (h : sM σ ≤ m) : sM (sHold σ i) ≤ m := sM_ite h h
theorem sM_restore {i : Int} (h : sM σ ≤ m) : sM (sRest σ i) ≤ m := by
  unfold sRest
  refine sM_ite ?_ h
  cases sL σ i.toNat with
  | none => exact h
  | some γ => exact h
theorem sM_blow {g w : Int} (h : sM σ + 36 ≤ m) : sM (sBlow σ g w) ≤ m := sM_ite h (by omega)
/-- behind t calls of the script -/
def IV (L : Nat) (xs : Nat → Int) (t : Nat) (θ : zS) (μ : zM) : Prop := ∃ T U σ s, CS θ T U σ μ ∧ MS θ σ s μ ∧ BI θ μ ∧ sM σ ≤ 36 * t ∧ θ.1 = (SHL L).take 214 ∧ ∀ j, μ 1 j = xs j
theorem IV_1 {L : Nat} (h : θ.1 = (SHL L).take 214) : θ.1[1]? = some (.inr (.int, L)) := by
  rw [h, List.getElem?_take_of_lt (by decide)]; rfl
theorem zlc_s (v : Int) : zlcmp v v = 0 := by unfold zlcmp; rw [if_neg (Int.lt_irrefl v), if_pos rfl]
end BO
