/-! THE REFERENCE reads: a RULE -/
theorem wm3 {b : Nat} (h : b ≤ 1000) : w32 (3 * (b : Int)) = ((3 * b : Nat) : Int) := by unfold w32; omega
theorem wm4 {b : Nat} (h : b ≤ 1000) : w32 (4 * (b : Int)) = ((4 * b : Nat) : Int) := by unfold w32; omega
theorem wm6 {b : Nat} (h : b ≤ 1000) : w32 (6 * (b : Int)) = ((6 * b : Nat) : Int) := by unfold w32; omega
theorem wm18 {b : Nat} (h : b ≤ 1000) : w32 (18 * (b : Int)) = ((18 * b : Nat) : Int) := by unfold w32; omega
theorem wm150 {b : Nat} (h : b ≤ 1000) : w32 (150 * (b : Int)) = ((150 * b : Nat) : Int) := by unfold w32; omega
theorem wm420 {b : Nat} (h : b ≤ 1000) : w32 (420 * (b : Int)) = ((420 * b : Nat) : Int) := by unfold w32; omega
theorem JF.refl {μ : zM} : JF μ μ := fun _ _ _ _ _ _ _ _ _ _ _ => rfl
section RU
variable {θ : zS} {Q : Option zV → zS → zM → Prop} {μ μ0 : zM} {K : Nat → Nat} {V W st : Nat → Int} {Z b : Nat} {π : zP} {p cB lB : Nat}
theorem FT.after {e : Nat × Nat} {μ' : zM} (hs : SF b μ0 μ) (hj : JF μ0 μ) (h : FT b st e μ μ') : FT b st e μ0 μ' := ⟨hs.trans h.1, hj.trans h.2.1, h.2.2⟩
theorem FT.us1 {e : Nat × Nat} {a k : Nat} {x : Int} (h : FT b st e μ0 μ) (ha : 147 ≤ a ∧ a ≤ 168) (hk : k / sdN a = b) : FT b st e μ0 (us μ a (zup (μ a) k x)) := by
  have n : 138 ≠ a := by omega
  obtain ⟨h1, h2, h3, h4, h5, q, h6, h7⟩ := h
  exact ⟨h1.one ha hk, h2.trans (fun j _ _ _ _ _ _ _ _ _ _ => by rw [us_ne n]), h3, by rw [us_ne n]; exact h4, by rw [us_ne n]; exact h5, q, h6, by rw [us_ne n]; exact h7⟩
theorem PT_rule {k q cB' n : Nat} {ls : List zL} {μ' : zM} (h : PTm W st b π p cB lB μ) (hb1 : b ≤ 1) (hk : k < 3) (hN : (pU π k).length = n) (hn : n < 6) (hpq : p ≤ q) (h6 : ∀ k, (pU π k).length ≤ 6)
    (e1 : ∀ a, (147 ≤ a ∧ a ≤ 150) ∨ (154 ≤ a ∧ a ≤ 160) ∨ a = 146 → μ' a = μ a) (e151 : ∀ j, j ≠ 3 * b + k → μ' 151 j = μ 151 j) (n151 : μ' 151 (3 * b + k) = ((n + 1 : Nat) : Int))
    (e152 : ∀ j, j ≠ 18 * b + 6 * k + n → μ' 152 j = μ 152 j ∧ μ' 153 j = μ 153 j) (n152 : μ' 152 (18 * b + 6 * k + n) = (lB : Nat)) (n153 : μ' 153 (18 * b + 6 * k + n) = ((lB + ls.length : Nat) : Int))
    (el : ∀ c j, 161 ≤ c → c ≤ 166 → (j < lB ∨ lB + ls.length ≤ j) → μ' c j = μ c j) (hl : ∀ i (h : i < ls.length), lAt μ' (lB + i) ls[i] ∧ (cB : Int) ≤ μ' 164 (lB + i) ∧ μ' 166 (lB + i) ≤ (cB' : Nat))
    (ec : ∀ i, i < cB → μ' 167 i = μ 167 i ∧ μ' 168 i = μ 168 i) (hc : cB ≤ cB' ∧ cB' ≤ 420 * b + q) (h3 : 3 * (lB + ls.length) ≤ 450 * b + q) (hq : q ≤ 400)
    (j : ∀ j, j ≠ 11 → j ≠ 12 → j ≠ 36 → j ≠ 43 → j ≠ 47 → μ' 138 j = μ 138 j) (h36 : μ' 138 36 = ((lB + ls.length : Nat) : Int)) (h43 : μ' 138 43 = (cB' : Nat)) (h11 : μ' 138 11 = (q : Nat)) (h12 : μ' 138 12 = 0) : PTm W st b (upU π k ls) q cB' (lB + ls.length) μ' := by
  obtain ⟨⟨hM, ⟨b1, b2⟩, b3, b4, b5⟩, ⟨g43, g36⟩, ⟨⟨r1, r2⟩, r3, r4⟩, ⟨hn20, hnm⟩, hL, h19, g11, g12, h13⟩ := h
  obtain ⟨hA, hD, hLw, hR⟩ := TM_iff.mp hM
  have cc : ∀ i, 420 * b ≤ i → i < cB → μ' 167 i = μ 167 i ∧ μ' 168 i = μ 168 i := fun i _ h2 => ec i h2
  have ll : ∀ c j, 161 ≤ c → c ≤ 166 → 150 * b ≤ j → j < lB → μ' c j = μ c j := fun c j c1 c2 _ h2 => el c j c1 c2 (Or.inl h2)
  have old : ∀ k' i (hi : i < (pU π k').length), k' < 3 → (k' ≠ k ∨ i < n) → ruM μ' (18 * b + 6 * k' + i) (pU π k')[i] ∧ ((150 * b : Nat) : Int) ≤ μ' 152 (18 * b + 6 * k' + i) ∧ μ' 153 (18 * b + 6 * k' + i) ≤ (lB : Nat) := fun k' i hi hk' hne => by
    have hi6 := h6 k'
    have e := e152 (18 * b + 6 * k' + i) (by omega)
    have hb4 := b4 k' i hk' hi
    exact ⟨ruM_ag ((hR k' hk').2 i hi) hb4 b5 e ll cc, by rw [e.1]; exact hb4.1, by rw [e.2]; exact hb4.2⟩
  have eR : ∀ k', tR (τP (upU π k ls)) k' = if k' = k then pU π k ++ [ls] else pU π k' := fun k' => rfl
  refine ⟨⟨TM_iff.mpr ⟨⟨?_, ?_, ?_, fun i hi => ?_⟩, ⟨?_, fun i hi => ?_⟩, fun i hi => ?_, fun k' hk' => ?_⟩, ⟨by omega, by omega⟩, fun i hi ht => ?_, fun k' i hk' hi => ?_, fun i i1 i2 => ?_⟩, ⟨h43, h36⟩, ⟨⟨by omega, hc.2⟩, by omega, h3⟩, ⟨?_, fun i hi => ?_⟩, ?_, ?_, h11, h12, ?_⟩
  · rw [e1 147 (by omega)]; exact hA.1
  · rw [e1 148 (by omega)]; exact hA.2.1
  · rw [e1 149 (by omega)]; exact hA.2.2.1
  · rw [e1 150 (by omega)]; exact hA.2.2.2 i hi
  · rw [e1 157 (by omega)]; exact hD.1
  · rw [e1 158 (by omega), e1 159 (by omega), e1 160 (by omega)]; exact hD.2 i hi
  · exact laM_ag (hLw i hi) (b3 i hi) (fun c c1 c2 => by rw [e1 c (by omega)]) cc
  · rw [eR k']
    by_cases hkk : k' = k
    · subst hkk
      rw [if_pos rfl]
      refine ⟨by rw [n151]; simp [hN], fun i hi => ?_⟩
      by_cases hi2 : i < n
      · have hi3 : i < (pU π k').length := by omega
        rw [List.getElem_append_left hi3]
        exact (old k' i hi3 hk (Or.inr hi2)).1
      · have ei : i = n := by simp [hN] at hi; omega
        subst ei
        have e0 : (pU π k' ++ [ls])[i]'hi = ls := by rw [List.getElem_append_right (by omega)]; simp
        rw [e0]
        unfold ruM
        rw [n152, n153]
        refine ⟨⟨by omega, by omega, by omega⟩, fun j hj => ?_⟩
        rw [Int.toNat_natCast]
        exact (hl j hj).1
    · rw [if_neg hkk]
      exact ⟨by rw [e151 _ (by omega)]; exact (hR k' hk').1, fun i hi => (old k' i hi hk' (Or.inl hkk)).1⟩
  · rw [e1 155 (by omega), e1 156 (by omega)]
    have := b3 i hi ht
    exact ⟨this.1, by omega⟩
  · rw [eR k'] at hi
    by_cases hkk : k' = k
    · subst hkk
      rw [if_pos rfl] at hi
      by_cases hi2 : i < n
      · have := (old k' i (by omega) hk (Or.inr hi2)).2
        exact ⟨this.1, by omega⟩
      · have ei : i = n := by simp [hN] at hi; omega
        subst ei
        rw [n152, n153]
        exact ⟨by omega, by omega⟩
    · rw [if_neg hkk] at hi
      have := (old k' i hi hk' (Or.inl hkk)).2
      exact ⟨this.1, by omega⟩
  · by_cases hi2 : i < lB
    · have := b5 i i1 hi2
      rw [ll 164 i (by decide) (by decide) i1 hi2, ll 166 i (by decide) (by decide) i1 hi2]
      exact ⟨this.1, by omega⟩
    · obtain ⟨t, rfl⟩ : ∃ t, i = lB + t := ⟨i - lB, by omega⟩
      have := (hl t (by omega)).2
      exact ⟨by omega, this.2⟩
  · rw [j 20 (by decide) (by decide) (by decide) (by decide) (by decide)]; exact hn20
  · rw [e1 146 (by omega)]; exact hnm i hi
  · have : LR (pF π) st μ' := by
      revert hL
      cases pF π with
      | none => intro hL; exact (j 15 (by decide) (by decide) (by decide) (by decide) (by decide)).trans hL
      | some x => intro hL; exact ⟨(j 15 (by decide) (by decide) (by decide) (by decide) (by decide)).trans hL.1, (j 16 (by decide) (by decide) (by decide) (by decide) (by decide)).trans hL.2⟩
    exact this
  · rw [j 19 (by decide) (by decide) (by decide) (by decide) (by decide)]; exact h19
  · rw [j 13 (by decide) (by decide) (by decide) (by decide) (by decide)]; exact h13
end RU
