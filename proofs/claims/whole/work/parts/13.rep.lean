/-! HOW THE CLASS HOLDS A TEXT AND A ROOF -/
theorem w32_add {a b : Nat} (h : a + b < 2147483648) : w32 ((a : Int) + (b : Int)) = ((a + b : Nat) : Int) := by unfold w32; omega
theorem w32_sub {a b : Nat} (h : b ≤ a) (h2 : a < 2147483648) : w32 ((a : Int) - (b : Int)) = ((a - b : Nat) : Int) := by unfold w32; omega
theorem w32_s1 {a : Nat} (h : 1 ≤ a) (h2 : a < 2147483648) : w32 ((a : Int) - 1) = ((a - 1 : Nat) : Int) := by unfold w32; omega
theorem w32_mul {a b : Nat} (h : a * b < 2147483648) : w32 ((a : Int) * (b : Int)) = ((a * b : Nat) : Int) := by rw [← Int.natCast_mul]; unfold w32; omega
theorem Qc {Q : Option zV → zS → zM → Prop} {θ : zS} {μ : zM} {x y : Int} (h : Q (some (vi x)) θ μ) (e : x = y) : Q (some (vi y)) θ μ := e ▸ h
theorem Qm {Q : Option zV → zS → zM → Prop} {θ : zS} {v : Option zV} {x y : zM} (h : Q v θ x) (e : x = y) : Q v θ y := e ▸ h
/-- the class's references when T tells and U is spare -/
def Th (θ : zS) (T U : Nat) : Prop := Tc θ ∧ Tq θ T ∧ Tq θ U ∧ (T = 12 ∧ U = 26 ∨ T = 26 ∧ U = 12) ∧ θ.2 2 10 = some T ∧ θ.2 2 11 = some U ∧ θ.2 40 8 = some T
/-- which roofs there are -/
def rfs (r : Nat) : Prop := r = 47 ∨ r = 63 ∨ r = 77 ∨ r = 91 ∨ r = 107 ∨ r = 115 ∨ r = 123
theorem rfs_q {θ : zS} {r : Nat} (h : Tc θ) (hr : rfs r) : Rq θ r := by
  rcases hr with rfl | rfl | rfl | rfl | rfl | rfl | rfl
  · exact Rq_47 h
  · exact Rq_63 h
  · exact Rq_77 h
  · exact Rq_91 h
  · exact Rq_107 h
  · exact Rq_115 h
  · exact Rq_123 h
/-- a law's code as the class holds it -/
def enK (k : Nat) : Int := if k = 0 then 2 else if k = 1 then 36 else if k = 2 then 6 else if k = 3 then 7 else if k = 4 then 8 else 9
def enC (c : zC) : List (Int × Int) := c.map (fun p => (enK p.1, if p.1 ≤ 1 then p.2 else 0))
/-- a RULE's code: what waits to be joined (or, and) -/
def enL (l : zL) : List (Int × Int) := enC l.2.2.2.1 ++ enC l.2.2.2.2 ++ ((10 + (l.2.2.1 : Int), 0) :: if l.2.1 = true then [(35, 0)] else [])
def enR : List zL → Bool → Bool → List (Int × Int)
  | [], _, _ => []
  | l :: r, ao, aa => enL l ++ ((if aa = true then [(34, 0)] else []) ++ match r with
    | [] => if ao = true then [(33, 0)] else []
    | l' :: _ => if l'.1 = true then (if ao = true then [(33, 0)] else []) ++ enR r true false else enR r ao true)
def cAt (f : Nat → Int) (a b : Int) (c : List (Int × Int)) : Prop := 0 ≤ a ∧ b = a + c.length ∧ b ≤ 400 ∧ ∀ i (h : i < c.length), f (a.toNat + i) = (c[i]).1 * 65536 + (c[i]).2
def TCn (τ : zT) (T : Nat) (μ : zM) : Prop := (∀ k, k < 9 → μ (T + 1) k = tN τ k) ∧ μ T 13 = (tn τ : Nat) ∧ μ T 14 = (tD τ : Nat)
  ∧ (∀ k, k < tD τ → μ (T + 2) k = tS τ k ∧ μ (T + 3) k = tZ τ k) ∧ ∀ t, t < tn τ → μ (T + 11) t = (rwO τ t : Nat) ∧ μ (T + 12) t = (clO τ t : Nat) ∧ μ (T + 13) t = edO τ t
theorem tr_b {τ : zT} (h : wfT τ) : 2 ≤ tr τ ∧ tr τ ≤ 6 ∧ tN τ 0 = (tr τ : Int) := by have := h.1; unfold tr; omega
theorem tc_b {τ : zT} (h : wfT τ) : 2 ≤ tc τ ∧ tc τ ≤ 6 ∧ tN τ 1 = (tc τ : Int) := by have := h.2.1; unfold tc; omega
theorem tn_b {τ : zT} (h : wfT τ) : 4 ≤ tn τ ∧ tn τ ≤ 36 := by
  have h1 := tr_b h; have h2 := tc_b h
  unfold tn
  have : 2 * 2 ≤ tr τ * tc τ := Nat.mul_le_mul h1.1 h2.1
  have : tr τ * tc τ ≤ 6 * 6 := Nat.mul_le_mul h1.2.1 h2.2.1
  omega
theorem rw_b {τ : zT} (h : wfT τ) {t : Nat} (ht : t < tn τ) : rwO τ t < tr τ ∧ clO τ t < tc τ ∧ t = rwO τ t * tc τ + clO τ t := by
  have h2 := tc_b h
  refine ⟨?_, Nat.mod_lt _ (by omega), ?_⟩
  · unfold rwO; exact Nat.div_lt_of_lt_mul (by rw [Nat.mul_comm]; exact ht)
  · unfold rwO clO; rw [Nat.mul_comm]; exact (Nat.div_add_mod t (tc τ)).symm
theorem ed_b {τ : zT} {t : Nat} : 0 ≤ edO τ t ∧ edO τ t ≤ 2 := by unfold edO; omega
def lz (lost : Nat → Int) : Prop := ∀ t, lost t = 0 ∨ lost t = 1
theorem lz_upd {lost : Nat → Int} {k : Nat} (h : lz lost) : lz (zup lost k 1) := by
  intro t
  unfold zup
  by_cases hk : t = k
  · rw [if_pos hk]; exact Or.inr rfl
  · rw [if_neg hk]; exact h t
theorem hl_b {τ : zT} (h : wfT τ) {lost : Nat → Int} (hz : lz lost) : 0 ≤ hlO τ lost ∧ hlO τ lost ≤ tn τ := by
  unfold hlO
  refine ⟨sm_nn (fun i _ => by have := hz i; omega), ?_⟩
  have := sm_le (f := lost) (n := tn τ) (b := 1) (fun i _ => by have := hz i; omega)
  omega
theorem bar_b {τ : zT} {lost : Nat → Int} (hz : lz lost) (t : Nat) : 0 ≤ barO τ lost t ∧ barO τ lost t ≤ 4 := by
  unfold barO
  have h1 := hz (t - tc τ); have h2 := hz (t + tc τ); have h3 := hz (t - 1); have h4 := hz (t + 1)
  omega
theorem cl_s {τ : zT} (h : wfT τ) (t : Nat) : (clO τ t + 1 < tc τ ∧ clO τ (t + 1) = clO τ t + 1) ∨ (clO τ t + 1 = tc τ ∧ clO τ (t + 1) = 0) := by
  have h2 := tc_b h
  unfold clO
  have hm : t % tc τ < tc τ := Nat.mod_lt _ (by omega)
  by_cases hc : t % tc τ + 1 < tc τ
  · refine Or.inl ⟨hc, ?_⟩
    rw [Nat.add_mod, Nat.mod_eq_of_lt (a := 1) (by omega), Nat.mod_eq_of_lt hc]
  · refine Or.inr ⟨by omega, ?_⟩
    rw [Nat.add_mod, Nat.mod_eq_of_lt (a := 1) (by omega), show t % tc τ + 1 = tc τ by omega, Nat.mod_self]
theorem bar_upd {τ : zT} (h : wfT τ) {lost : Nat → Int} {k : Nat} (hk : k < tn τ) (h0 : lost k = 0) {t : Nat} (ht : t < tn τ) : barO τ (zup lost k 1) t =
    barO τ lost t + (if t + tc τ = k then 1 else 0) + (if t = k + tc τ then 1 else 0) + (if t + 1 = k ∧ 0 < clO τ k then 1 else 0) + (if t = k + 1 ∧ clO τ k + 1 < tc τ then 1 else 0) := by
  have h2 := tc_b h
  have hs := cl_s h t
  have hsk := cl_s h k
  unfold barO
  simp only [zup_ap]
  have e1 : (if t - tc τ = k then (1 : Int) else lost (t - tc τ)) = lost (t - tc τ) + (if t - tc τ = k then 1 else 0) := by
    by_cases hc : t - tc τ = k
    · rw [if_pos hc, if_pos hc, hc, h0]; rfl
    · rw [if_neg hc, if_neg hc]; omega
  have e2 : (if t + tc τ = k then (1 : Int) else lost (t + tc τ)) = lost (t + tc τ) + (if t + tc τ = k then 1 else 0) := by
    by_cases hc : t + tc τ = k
    · rw [if_pos hc, if_pos hc, hc, h0]; rfl
    · rw [if_neg hc, if_neg hc]; omega
  have e3 : (if t - 1 = k then (1 : Int) else lost (t - 1)) = lost (t - 1) + (if t - 1 = k then 1 else 0) := by
    by_cases hc : t - 1 = k
    · rw [if_pos hc, if_pos hc, hc, h0]; rfl
    · rw [if_neg hc, if_neg hc]; omega
  have e4 : (if t + 1 = k then (1 : Int) else lost (t + 1)) = lost (t + 1) + (if t + 1 = k then 1 else 0) := by
    by_cases hc : t + 1 = k
    · rw [if_pos hc, if_pos hc, hc, h0]; rfl
    · rw [if_neg hc, if_neg hc]; omega
  rw [e1, e2, e3, e4]
  have f3 : 0 < clO τ t → 1 ≤ t := by
    intro hc
    rcases Nat.eq_zero_or_pos t with h' | h'
    · subst h'; unfold clO at hc; simp at hc
    · exact h'
  by_cases hc4 : t + 1 = k
  · subst hc4; omega
  · by_cases hc3 : t = k + 1
    · subst hc3; omega
    · omega
/-- the class's roof r holds ρ -/
def RC (τ : zT) (ρ : zF) (r : Nat) (μ : zM) : Prop := μ r 1 = (tn τ : Nat) ∧ (∀ m t, m < 5 → t < tn τ → μ (r + (m + 2)) t = ρ.1 m t) ∧ (∀ k, k < tD τ → zand (zshr (μ r 2) k) 1 = ρ.2.1 k) ∧ μ r 3 = ρ.2.2
def wfF (τ : zT) (ρ : zF) : Prop := (∀ t, t < tn τ → (ρ.1 0 t = 0 ∨ ρ.1 0 t = 1) ∧ (ρ.1 1 t = 0 ∨ ρ.1 1 t = 1) ∧ (ρ.1 2 t = 0 ∨ ρ.1 2 t = 1) ∧ (0 ≤ ρ.1 3 t ∧ ρ.1 3 t ≤ 99) ∧ 0 ≤ ρ.1 4 t ∧ ρ.1 4 t ≤ 99)
  ∧ (∀ k, k < tD τ → ρ.2.1 k = 0 ∨ ρ.2.1 k = 1) ∧ (ρ.2.2 = 0 ∨ ρ.2.2 = 1)
/-- the gale's own row of holes -/
def GB (τ : zT) (lost : Nat → Int) (μ : zM) : Prop := (∀ t, t < tn τ → μ 44 t = lost t) ∧ (∀ t, t < tn τ → μ 45 t = barO τ lost t) ∧ μ 40 12 = hlO τ lost
