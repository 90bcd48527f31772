/-! WHERE THEY LAND: cells, how many on each; what the class and the reference hold of it -/
section LA
variable {τ : zT} {ρ : zF} {g w : Int}
theorem held_b (x : Int) : 0 ≤ heldO x 19 ∧ heldO x 19 ≤ 19 := by unfold heldO; omega
theorem ce_ok {lost : Nat → Int} {t : Nat} (hw : wfT τ) (ht : t < tn τ) (h0 : 0 ≤ w ∧ w ≤ 3) : clI (ceO τ ρ lost t g w) := by
  have h2 := tc_b hw
  have h1 := tr_b hw
  have hr := rw_b hw ht
  unfold ceO
  have hb := held_b (says τ 3 (va τ ρ lost t g w) (g.tdiv 10))
  generalize heldO (says τ 3 (va τ ρ lost t g w) (g.tdiv 10)) 19 = a at hb
  by_cases hp : (w + 2) % 2 = 0
  · rw [if_pos hp]
    unfold clI
    omega
  · rw [if_neg hp]
    unfold clI
    omega
/-- a cell by its place -/
def cbO (b : Nat) : Int := 1000 * ((b / 120 : Nat) : Int) + 100 * ((b / 20 % 6 : Nat) : Int) + ((b % 20 : Nat) : Int)
theorem cl_p {c : Int} (h : clI c) : ∃ s l a : Nat, c = ((1000 * s + 100 * l + a : Nat) : Int) ∧ s < 4 ∧ l < 6 ∧ a < 20 ∧ ixO c = 120 * s + 20 * l + a := by
  have hx := (ix_b h).2
  obtain ⟨h1, h2, h3⟩ := h
  refine ⟨(c / 1000).toNat, (c / 100 % 10).toNat, (c % 100).toNat, ?_, ?_, ?_, ?_, ?_⟩ <;> omega
theorem cb_ix {c : Int} (h : clI c) : cbO (ixO c) = c := by
  obtain ⟨s, l, a, hc, hs, hl, ha, hx⟩ := cl_p h
  rw [hx, hc]
  unfold cbO
  have e1 : (120 * s + 20 * l + a) / 120 = s := by omega
  have e2 : (120 * s + 20 * l + a) / 20 % 6 = l := by omega
  have e3 : (120 * s + 20 * l + a) % 20 = a := by omega
  rw [e1, e2, e3]
  omega
theorem ix_inj {c c' : Int} (h : clI c) (h' : clI c') (e : ixO c = ixO c') : c = c' := by rw [← cb_ix h, ← cb_ix h', e]
theorem ix_le {c c' : Int} (h : clI c) (h' : clI c') (e : ixO c ≤ ixO c') : c ≤ c' := by
  obtain ⟨s, l, a, hc, hs, hl, ha, hx⟩ := cl_p h
  obtain ⟨s', l', a', hc', hs', hl', ha', hx'⟩ := cl_p h'
  omega
theorem cb_ok {b : Nat} (h : b < 480) : clI (cbO b) ∧ ixO (cbO b) = b := by
  obtain ⟨s, hs⟩ : ∃ s, s = b / 120 := ⟨_, rfl⟩
  obtain ⟨l, hl⟩ : ∃ l, l = b / 20 % 6 := ⟨_, rfl⟩
  obtain ⟨a, ha⟩ : ∃ a, a = b % 20 := ⟨_, rfl⟩
  have e : cbO b = ((1000 * s + 100 * l + a : Nat) : Int) := by unfold cbO; rw [← hs, ← hl, ← ha]; omega
  have eb : b = 120 * s + 20 * l + a := by omega
  have bs : s < 4 ∧ l < 6 ∧ a < 20 := by omega
  rw [e, eb]
  clear hs hl ha e eb h
  unfold clI ixO
  have e1 : ((1000 * s + 100 * l + a : Nat) : Int) / 1000 = s := by omega
  have e2 : ((1000 * s + 100 * l + a : Nat) : Int) / 100 % 10 = l := by omega
  have e3 : ((1000 * s + 100 * l + a : Nat) : Int) % 100 = a := by omega
  rw [e1, e2, e3]
  omega
/-- of n that landed on the cells c, how many at place k -/
def lyC (n : Nat) (c : Nat → Int) (k : Nat) : Int := sm (fun i => if ixO (c i) = k then 1 else 0) n
def hiC (n : Nat) (c : Nat → Int) (x : Int) : Int := sm (fun i => if c i = x then 1 else 0) n
def hiO (τ : zT) (ρ : zF) (g w x : Int) : Int := sm (fun t => if (rnO τ ρ g w (gnO τ ρ) 36 t).isSome = true ∧ lnO τ ρ g w t = x then 1 else 0) (tn τ)
def cAt2 (τ : zT) (ρ : zF) (g w : Int) : Nat → Int := fun i => lnO τ ρ g w ((alO τ ρ g w (gnO τ ρ)).getD i 0)
theorem lsm_ix (f : Nat → Int) : ∀ l : List Nat, lsm f l = sm (fun i => f (l.getD i 0)) l.length := by
  intro l
  have key : ∀ m, m ≤ l.length → lsm f (l.take m) = sm (fun i => f (l.getD i 0)) m := by
    intro m
    induction m with
    | zero => intro _; rfl
    | succ m ih =>
      intro hm
      have hm' : m < l.length := by omega
      rw [lsm_take f hm', ih (by omega)]
      simp only [sm]
      congr 1
      rw [List.getD_eq_getElem?_getD, List.getElem?_eq_getElem hm']; rfl
  have := key l.length (Nat.le_refl _)
  rwa [List.take_length] at this
theorem al_f (f : Nat → Int) : sm (fun i => f ((alO τ ρ g w (gnO τ ρ)).getD i 0)) (foO τ ρ g w (gnO τ ρ)) = sm (fun t => if (rnO τ ρ g w (gnO τ ρ) 36 t).isSome = true then f t else 0) (tn τ) := by
  have h1 := al_sum (τ := τ) (ρ := ρ) (g := g) (w := w) (l0 := gnO τ ρ) f (gn_z τ ρ)
  rw [lsm_ix] at h1
  exact h1
theorem ly_eq (k : Nat) : lyO τ ρ g w k = lyC (foO τ ρ g w (gnO τ ρ)) (cAt2 τ ρ g w) k := by
  have h := al_f (τ := τ) (ρ := ρ) (g := g) (w := w) (fun t => if ixO (lnO τ ρ g w t) = k then 1 else 0)
  unfold lyC cAt2 lyO
  rw [h]
  refine sm_congr (fun t _ => ?_)
  by_cases h1 : (rnO τ ρ g w (gnO τ ρ) 36 t).isSome = true
  · by_cases h2 : ixO (lnO τ ρ g w t) = k
    · rw [if_pos ⟨h1, h2⟩, if_pos h1, if_pos h2]
    · rw [if_neg (fun hh => h2 hh.2), if_pos h1, if_neg h2]
  · rw [if_neg (fun hh => h1 hh.1), if_neg h1]
theorem hi_eq (x : Int) : hiO τ ρ g w x = hiC (foO τ ρ g w (gnO τ ρ)) (cAt2 τ ρ g w) x := by
  have h := al_f (τ := τ) (ρ := ρ) (g := g) (w := w) (fun t => if lnO τ ρ g w t = x then 1 else 0)
  unfold hiC cAt2 hiO
  rw [h]
  refine sm_congr (fun t _ => ?_)
  by_cases h1 : (rnO τ ρ g w (gnO τ ρ) 36 t).isSome = true
  · by_cases h2 : lnO τ ρ g w t = x
    · rw [if_pos ⟨h1, h2⟩, if_pos h1, if_pos h2]
    · rw [if_neg (fun hh => h2 hh.2), if_pos h1, if_neg h2]
  · rw [if_neg (fun hh => h1 hh.1), if_neg h1]
theorem ly_b {n m : Nat} {c : Nat → Int} {k : Nat} : 0 ≤ sm (fun i => if ixO (c i) = k then 1 else 0) m ∧ sm (fun i => if ixO (c i) = k then 1 else 0) m ≤ m := by
  refine ⟨sm_nn (fun i _ => by by_cases h : ixO (c i) = k <;> simp [h]), ?_⟩
  have := sm_le (f := fun i => if ixO (c i) = k then 1 else 0) (n := m) (b := 1) (fun i _ => by by_cases h : ixO (c i) = k <;> simp [h])
  omega
theorem hi_b {m : Nat} {c : Nat → Int} {x : Int} : 0 ≤ sm (fun i => if c i = x then 1 else 0) m ∧ sm (fun i => if c i = x then 1 else 0) m ≤ m := by
  refine ⟨sm_nn (fun i _ => by by_cases h : c i = x <;> simp [h]), ?_⟩
  have := sm_le (f := fun i => if c i = x then 1 else 0) (n := m) (b := 1) (fun i _ => by by_cases h : c i = x <;> simp [h])
  omega
/-- what the class holds: n that fell, on cells c -/
def LD (n : Nat) (c : Nat → Int) (μ : zM) : Prop := n ≤ 36 ∧ μ 40 3 = (n : Nat) ∧ ∀ i, i < n → ∃ t : Nat, t < 36 ∧ μ 41 i = (t : Nat) ∧ μ 43 t = c i ∧ clI (c i)
theorem LD_of {μ : zM} (hw : wfT τ) (h0 : 0 ≤ w ∧ w ≤ 3) (h : RU τ ρ g w (gnO τ ρ) 1 μ) : LD (foO τ ρ g w (gnO τ ρ)) (cAt2 τ ρ g w) μ := by
  have hn := tn_b hw
  have hb := fo_b (τ := τ) (ρ := ρ) (g := g) (w := w) (l0 := gnO τ ρ) hn.2 (gn_z τ ρ)
  have hal : ∀ t, t ∈ alO τ ρ g w (gnO τ ρ) → t < tn τ ∧ ∃ q, rnO τ ρ g w (gnO τ ρ) 36 t = some q := fun t ht => al_lt (gn_z τ ρ) ht
  obtain ⟨h1, h2, h3, h4, h5⟩ := h
  have hc : ∀ i, cAt2 τ ρ g w i = lnO τ ρ g w ((alO τ ρ g w (gnO τ ρ)).getD i 0) := fun i => rfl
  unfold foO at hb h1 ⊢
  generalize alO τ ρ g w (gnO τ ρ) = A at hb hal h1 h3 hc ⊢
  refine ⟨Nat.le_trans hb hn.2, h1, fun i hi => ?_⟩
  obtain ⟨ht, q, hq⟩ := hal _ (List.getElem_mem hi)
  have e : A.getD i 0 = A[i] := by rw [List.getD_eq_getElem?_getD, List.getElem?_eq_getElem hi]; rfl
  have ec : cAt2 τ ρ g w i = ceO τ ρ (loO τ ρ g w (gnO τ ρ) q) (A[i]) g w := by
    rw [hc, e]; unfold lnO; rw [hq]
  refine ⟨A[i], Nat.lt_of_lt_of_le ht hn.2, h3 i hi, ?_, ?_⟩
  · rw [ec]; exact h5 rfl _ ht q hq
  · rw [ec]; exact ce_ok hw ht h0
theorem LD_fr {n : Nat} {c : Nat → Int} {μ μ' : zM} (h : LD n c μ) (h3 : μ' 40 3 = μ 40 3) (h41 : μ' 41 = μ 41) (h43 : μ' 43 = μ 43) : LD n c μ' := by
  unfold LD; rw [h3, h41, h43]; exact h
end LA
