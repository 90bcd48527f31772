/-! ROUNDS: pure laws -/
section RO
variable {τ : zT} {ρ : zF} {g w : Int} {l0 : Nat → Int}
theorem filt_len {p : Nat → Bool} {n : Nat} : ((List.range n).filter p).length = (sm (fun t => if p t = true then 1 else 0) n).toNat ∧ 0 ≤ sm (fun t => if p t = true then 1 else 0) n := by
  induction n with
  | zero => simp [sm]
  | succ n ih =>
    rw [List.range_succ, List.filter_append]
    simp only [sm, List.length_append]
    by_cases hp : p n = true
    · simp only [List.filter_cons, hp, if_true, List.filter_nil, List.length_cons, List.length_nil]; omega
    · simp only [List.filter_cons, hp, if_false, List.filter_nil, List.length_nil]; simp; omega
theorem lo_s (r t : Nat) : loO τ ρ g w l0 (r + 1) t = if giO τ ρ g w l0 r t = true then 1 else loO τ ρ g w l0 r t := rfl
theorem lo_z {r : Nat} (hz : ∀ t, l0 t = 0 ∨ l0 t = 1) : ∀ t, loO τ ρ g w l0 r t = 0 ∨ loO τ ρ g w l0 r t = 1 := by
  induction r with
  | zero => exact hz
  | succ r ih =>
    intro t; rw [lo_s]
    by_cases hp : giO τ ρ g w l0 r t = true
    · rw [if_pos hp]; exact Or.inr rfl
    · rw [if_neg hp]; exact ih t
theorem gi_iff {r t : Nat} : giO τ ρ g w l0 r t = true ↔ t < tn τ ∧ loO τ ρ g w l0 r t = 0 ∧ 0 < liO τ ρ (loO τ ρ g w l0 r) t g w := by
  unfold giO goO; simp
theorem rd_mem {r t : Nat} : t ∈ rdO τ ρ g w l0 r ↔ giO τ ρ g w l0 r t = true := by
  unfold rdO
  rw [List.mem_filter, List.mem_range]
  exact ⟨fun q => q.2, fun q => ⟨(gi_iff.mp q).1, q⟩⟩
theorem hl_s {r : Nat} : hlO τ (loO τ ρ g w l0 (r + 1)) = hlO τ (loO τ ρ g w l0 r) + ((rdO τ ρ g w l0 r).length : Int) := by
  unfold hlO rdO
  have h1 := filt_len (p := fun t => giO τ ρ g w l0 r t) (n := tn τ)
  rw [h1.1, Int.toNat_of_nonneg h1.2, ← sm_add]
  apply sm_congr
  intro i _
  rw [lo_s]
  by_cases hp : giO τ ρ g w l0 r i = true
  · rw [if_pos hp, if_pos hp, (gi_iff.mp hp).2.1]; rfl
  · rw [if_neg hp, if_neg hp]; omega
theorem or_len {r : Nat} : ((orO τ ρ g w l0 r).length : Int) = hlO τ (loO τ ρ g w l0 r) - hlO τ l0 := by
  induction r with
  | zero => show (0 : Int) = hlO τ l0 - hlO τ l0; omega
  | succ r ih => rw [hl_s, orO, List.length_append]; omega
theorem or_ge {m : Nat} (h : ∀ r, r < m → rdO τ ρ g w l0 r ≠ []) : m ≤ (orO τ ρ g w l0 m).length := by
  induction m with
  | zero => omega
  | succ m ih =>
    have h1 := ih (fun r hr => h r (by omega))
    have h2 := h m (by omega)
    have h3 : 0 < (rdO τ ρ g w l0 m).length := List.length_pos_iff.mpr h2
    rw [orO, List.length_append]; omega
theorem en_ex (hz : ∀ t, l0 t = 0 ∨ l0 t = 1) : ∃ R, R ≤ tn τ ∧ enO τ ρ g w l0 R := by
  have key : ∀ m, (∃ R, R < m ∧ enO τ ρ g w l0 R) ∨ (∀ r, r < m → rdO τ ρ g w l0 r ≠ []) := by
    intro m
    induction m with
    | zero => exact Or.inr (fun r hr => absurd hr (by omega))
    | succ m ih =>
      rcases ih with ⟨R, hR, he⟩ | ih
      · exact Or.inl ⟨R, by omega, he⟩
      · by_cases hm : rdO τ ρ g w l0 m = []
        · exact Or.inl ⟨m, by omega, ih, hm⟩
        · refine Or.inr (fun r hr => ?_)
          by_cases h2 : r = m
          · subst h2; exact hm
          · exact ih r (by omega)
  rcases key (tn τ + 1) with ⟨R, hR, he⟩ | h
  · exact ⟨R, by omega, he⟩
  · have h1 := or_ge h
    have h2 := or_len (τ := τ) (ρ := ρ) (g := g) (w := w) (l0 := l0) (r := tn τ + 1)
    have h3 : hlO τ (loO τ ρ g w l0 (tn τ + 1)) ≤ tn τ := by
      have := sm_le (f := loO τ ρ g w l0 (tn τ + 1)) (n := tn τ) (b := 1) (fun i _ => by have := lo_z (τ := τ) (ρ := ρ) (g := g) (w := w) (r := tn τ + 1) hz i; omega)
      unfold hlO; omega
    have h4 : 0 ≤ hlO τ l0 := sm_nn (fun i _ => by have := hz i; omega)
    omega
theorem en_uniq {R R' : Nat} (h : enO τ ρ g w l0 R) (h' : enO τ ρ g w l0 R') : R = R' := by
  rcases Nat.lt_trichotomy R R' with hl | hl | hl
  · exact absurd h.2 (h'.1 R hl)
  · exact hl
  · exact absurd h'.2 (h.1 R' hl)
theorem rd_nil {r : Nat} (h : rdO τ ρ g w l0 r = []) : loO τ ρ g w l0 (r + 1) = loO τ ρ g w l0 r := by
  funext t
  rw [lo_s, if_neg]
  intro hp
  have := rd_mem.mpr hp
  rw [h] at this
  cases this
theorem en_stay {R : Nat} (h : enO τ ρ g w l0 R) (k : Nat) : loO τ ρ g w l0 (R + k) = loO τ ρ g w l0 R ∧ rdO τ ρ g w l0 (R + k) = [] := by
  induction k with
  | zero => exact ⟨rfl, h.2⟩
  | succ k ih =>
    have h1 : loO τ ρ g w l0 (R + (k + 1)) = loO τ ρ g w l0 R := by rw [← Nat.add_assoc, rd_nil ih.2, ih.1]
    refine ⟨h1, ?_⟩
    have : rdO τ ρ g w l0 (R + (k + 1)) = rdO τ ρ g w l0 R := by unfold rdO giO; rw [h1]
    rw [this, h.2]
theorem or_stay {R : Nat} (h : enO τ ρ g w l0 R) (k : Nat) : orO τ ρ g w l0 (R + k) = orO τ ρ g w l0 R := by
  induction k with
  | zero => rfl
  | succ k ih => rw [← Nat.add_assoc, orO, ih, (en_stay h k).2, List.append_nil]
theorem or_36 {R : Nat} (h : enO τ ρ g w l0 R) (hR : R ≤ 36) : orO τ ρ g w l0 36 = orO τ ρ g w l0 R := by
  have := or_stay h (36 - R)
  rwa [show R + (36 - R) = 36 by omega] at this
theorem lo_36 {R : Nat} (h : enO τ ρ g w l0 R) (hR : R ≤ 36) : loO τ ρ g w l0 36 = loO τ ρ g w l0 R := by
  have := (en_stay h (36 - R)).1
  rwa [show R + (36 - R) = 36 by omega] at this
/-- how many rounds -/
def RO (τ : zT) (ρ : zF) (g w : Int) (l0 : Nat → Int) : Nat := ((List.range 36).filter (fun r => !(rdO τ ρ g w l0 r).isEmpty)).length
theorem RO_en {R : Nat} (h : enO τ ρ g w l0 R) (hR : R ≤ 36) : RO τ ρ g w l0 = R := by
  unfold RO
  have key : ∀ m, ((List.range m).filter (fun r => !(rdO τ ρ g w l0 r).isEmpty)).length = min m R := by
    intro m
    induction m with
    | zero => simp
    | succ m ih =>
      rw [List.range_succ, List.filter_append, List.length_append, ih]
      by_cases hm : m < R
      · have h1 := h.1 m hm
        have h2 : (!(rdO τ ρ g w l0 m).isEmpty) = true := by simp [h1]
        simp only [List.filter_cons, h2, if_true, List.filter_nil, List.length_cons, List.length_nil]; omega
      · have h1 := (en_stay h (m - R)).2
        rw [show R + (m - R) = m by omega] at h1
        have h2 : (!(rdO τ ρ g w l0 m).isEmpty) = false := by simp [h1]
        simp only [List.filter_cons, h2, List.filter_nil]; simp; omega
  rw [key]; omega
/-- all that fall, in ORDER; how many; the round of each -/
def alO (τ : zT) (ρ : zF) (g w : Int) (l0 : Nat → Int) : List Nat := orO τ ρ g w l0 36
def foO (τ : zT) (ρ : zF) (g w : Int) (l0 : Nat → Int) : Nat := (alO τ ρ g w l0).length
def rnO (τ : zT) (ρ : zF) (g w : Int) (l0 : Nat → Int) (r t : Nat) : Option Nat := (List.range r).find? (fun q => giO τ ρ g w l0 q t)
theorem rn_s (r t : Nat) : rnO τ ρ g w l0 (r + 1) t = (rnO τ ρ g w l0 r t).or (if giO τ ρ g w l0 r t = true then some r else none) := by
  unfold rnO
  rw [List.range_succ, List.find?_append]
  congr 1
  by_cases hp : giO τ ρ g w l0 r t = true <;> simp [hp]
theorem rn_lo {r t : Nat} (ht : t < tn τ) (hz : ∀ t, l0 t = 0 ∨ l0 t = 1) : loO τ ρ g w l0 r t = (if (rnO τ ρ g w l0 r t).isSome = true then 1 else l0 t) := by
  induction r with
  | zero => rfl
  | succ r ih =>
    rw [lo_s, rn_s]
    by_cases hp : giO τ ρ g w l0 r t = true
    · simp [hp]
    · rw [if_neg hp, if_neg hp, Option.or_none]; exact ih
theorem rn_none {r t : Nat} (ht : t < tn τ) (hz : ∀ t, l0 t = 0 ∨ l0 t = 1) (hp : giO τ ρ g w l0 r t = true) : rnO τ ρ g w l0 r t = none ∧ l0 t = 0 := by
  have h1 := (gi_iff.mp hp).2.1
  rw [rn_lo ht hz] at h1
  cases h2 : rnO τ ρ g w l0 r t with
  | none => rw [h2] at h1; exact ⟨rfl, h1⟩
  | some q => rw [h2] at h1; simp at h1
theorem rn_stay {R : Nat} (h : enO τ ρ g w l0 R) (k t : Nat) : rnO τ ρ g w l0 (R + k) t = rnO τ ρ g w l0 R t := by
  induction k with
  | zero => rfl
  | succ k ih =>
    have h1 : ¬ giO τ ρ g w l0 (R + k) t = true := by
      intro hp
      have := rd_mem.mpr hp
      rw [(en_stay h k).2] at this
      cases this
    rw [← Nat.add_assoc, rn_s, if_neg h1, Option.or_none, ih]
theorem rn_36 {R : Nat} (h : enO τ ρ g w l0 R) (hR : R ≤ 36) (t : Nat) : rnO τ ρ g w l0 36 t = rnO τ ρ g w l0 R t := by
  have := rn_stay h (36 - R) t
  rwa [show R + (36 - R) = 36 by omega] at this
theorem or_mem {r t : Nat} : t ∈ orO τ ρ g w l0 r ↔ (rnO τ ρ g w l0 r t).isSome = true := by
  induction r with
  | zero => simp [orO, rnO]
  | succ r ih =>
    rw [orO, List.mem_append, ih, rd_mem, rn_s]
    cases h : rnO τ ρ g w l0 r t with
    | some q => simp
    | none => by_cases hp : giO τ ρ g w l0 r t = true <;> simp [hp]
theorem rn_gi {r t q : Nat} (h : rnO τ ρ g w l0 r t = some q) : q < r ∧ giO τ ρ g w l0 q t = true := by
  unfold rnO at h
  exact ⟨List.mem_range.mp (List.mem_of_find?_eq_some h), List.find?_some (p := fun q => giO τ ρ g w l0 q t) h⟩
theorem fo_b (hn : tn τ ≤ 36) (hz : ∀ t, l0 t = 0 ∨ l0 t = 1) : foO τ ρ g w l0 ≤ tn τ := by
  have h2 := or_len (τ := τ) (ρ := ρ) (g := g) (w := w) (l0 := l0) (r := 36)
  have h3 : hlO τ (loO τ ρ g w l0 36) ≤ tn τ := by
    have := sm_le (f := loO τ ρ g w l0 36) (n := tn τ) (b := 1) (fun i _ => by have := lo_z (τ := τ) (ρ := ρ) (g := g) (w := w) (r := 36) hz i; omega)
    unfold hlO; omega
  have h4 : 0 ≤ hlO τ l0 := sm_nn (fun i _ => by have := hz i; omega)
  unfold foO alO; omega
end RO
