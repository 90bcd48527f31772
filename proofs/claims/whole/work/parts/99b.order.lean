/-! ORDER, pure: the first of them, where each stands, sums over them -/
section OR
variable {τ : zT} {ρ : zF} {g w : Int} {l0 : Nat → Int}
theorem or_ext (k : Nat) : ∃ r, orO τ ρ g w l0 (k + 1) = rdO τ ρ g w l0 0 ++ r := by
  induction k with
  | zero => exact ⟨[], by rw [List.append_nil]; rfl⟩
  | succ k ih =>
    obtain ⟨r, h⟩ := ih
    exact ⟨r ++ rdO τ ρ g w l0 (k + 1), by rw [orO, h, List.append_assoc]⟩
theorem rd_head {t : Nat} (ht : t < tn τ) (h : ∀ q, q < t → giO τ ρ g w l0 0 q = false) (hp : giO τ ρ g w l0 0 t = true) : ∃ r, rdO τ ρ g w l0 0 = t :: r := by
  unfold rdO
  rw [show tn τ = t + (tn τ - t) by omega, List.range_add, List.filter_append]
  have e1 : (List.range t).filter (fun q => giO τ ρ g w l0 0 q) = [] := by
    rw [List.filter_eq_nil_iff]
    intro q hq
    rw [List.mem_range] at hq
    simp [h q hq]
  rw [e1, List.nil_append, show tn τ - t = (tn τ - t - 1) + 1 by omega, List.range_succ_eq_map]
  simp [hp]
theorem al_head {t : Nat} (ht : t < tn τ) (h : ∀ q, q < t → giO τ ρ g w l0 0 q = false) (hp : giO τ ρ g w l0 0 t = true) : ∃ r, alO τ ρ g w l0 = t :: r := by
  obtain ⟨r, hr⟩ := rd_head ht h hp
  obtain ⟨r2, h2⟩ := or_ext (τ := τ) (ρ := ρ) (g := g) (w := w) (l0 := l0) 35
  exact ⟨r ++ r2, by unfold alO; rw [h2, hr]; rfl⟩
theorem al_nil (h : ∀ q, q < tn τ → giO τ ρ g w l0 0 q = false) : alO τ ρ g w l0 = [] := by
  have h0 : rdO τ ρ g w l0 0 = [] := by
    unfold rdO
    rw [List.filter_eq_nil_iff]
    intro q hq
    rw [List.mem_range] at hq
    simp [h q hq]
  have he : enO τ ρ g w l0 0 := ⟨fun r hr => absurd hr (Nat.not_lt_zero _), h0⟩
  unfold alO
  rw [or_36 he (Nat.zero_le _)]; rfl
theorem fs_head {t : Nat} (ht : t < tn τ) (h : ∀ q, q < t → giO τ ρ g w (gnO τ ρ) 0 q = false) (hp : giO τ ρ g w (gnO τ ρ) 0 t = true) : fsO τ ρ g w = (t : Int) ∧ 0 < faO τ ρ g w := by
  obtain ⟨r, hr⟩ := al_head ht h hp
  unfold fsO faO foO
  rw [hr]
  exact ⟨rfl, by simp⟩
theorem fs_nil (h : ∀ q, q < tn τ → giO τ ρ g w (gnO τ ρ) 0 q = false) : fsO τ ρ g w = -2 ∧ faO τ ρ g w = 0 := by
  have hr := al_nil h
  unfold fsO faO foO
  rw [hr]
  exact ⟨rfl, rfl⟩
/-- the round of a TILE, by what goes in it -/
theorem rn_some {r t : Nat} (hr : r < 36) (ht : t < tn τ) (hz : ∀ t, l0 t = 0 ∨ l0 t = 1) : rnO τ ρ g w l0 36 t = some r ↔ giO τ ρ g w l0 r t = true := by
  constructor
  · intro h; exact (rn_gi h).2
  · intro h
    have h1 := (rn_none ht hz h).1
    unfold rnO at h1 ⊢
    refine find_at hr (fun i hi => ?_) h
    rw [List.find?_eq_none] at h1
    have := h1 i (List.mem_range.mpr hi)
    simpa using this
theorem pr_pre {r k : Nat} (hr : r < 36) (hk : k ≤ tn τ) : ∃ rest, alO τ ρ g w l0 = prO2 τ ρ g w l0 r k ++ rest := by
  have h1 : ∃ r1, rdO τ ρ g w l0 r = (List.range k).filter (fun t => giO τ ρ g w l0 r t) ++ r1 := by
    unfold rdO
    rw [show tn τ = k + (tn τ - k) by omega, List.range_add, List.filter_append]
    exact ⟨_, rfl⟩
  have h2 : ∀ m, ∃ r2, orO τ ρ g w l0 (r + 1 + m) = orO τ ρ g w l0 (r + 1) ++ r2 := by
    intro m
    induction m with
    | zero => exact ⟨[], by rw [List.append_nil]⟩
    | succ m ih =>
      obtain ⟨r2, h⟩ := ih
      exact ⟨r2 ++ rdO τ ρ g w l0 (r + 1 + m), by rw [← Nat.add_assoc, orO, h, List.append_assoc]⟩
  obtain ⟨r1, e1⟩ := h1
  obtain ⟨r2, e2⟩ := h2 (36 - (r + 1))
  refine ⟨r1 ++ r2, ?_⟩
  unfold alO prO2
  rw [show (36 : Nat) = r + 1 + (36 - (r + 1)) by omega, e2, orO, e1, List.append_assoc, List.append_assoc, List.append_assoc]
/-- a sum over all that fall, TILE by TILE -/
def lsm (f : Nat → Int) : List Nat → Int
  | [] => 0
  | x :: l => f x + lsm f l
theorem lsm_app (f : Nat → Int) : ∀ l m : List Nat, lsm f (l ++ m) = lsm f l + lsm f m := by
  intro l m
  induction l with
  | nil => show lsm f m = 0 + lsm f m; omega
  | cons x l ih => show f x + lsm f (l ++ m) = f x + lsm f l + lsm f m; rw [ih]; omega
theorem lsm_filt (f : Nat → Int) (p : Nat → Bool) : ∀ n, lsm f ((List.range n).filter p) = sm (fun t => if p t = true then f t else 0) n := by
  intro n
  induction n with
  | zero => rfl
  | succ n ih =>
    rw [List.range_succ, List.filter_append, lsm_app, ih]
    simp only [sm]
    by_cases hp : p n = true
    · simp [hp, lsm]
    · simp [hp, lsm]
theorem or_sum (f : Nat → Int) (hz : ∀ t, l0 t = 0 ∨ l0 t = 1) : ∀ r, lsm f (orO τ ρ g w l0 r) = sm (fun t => if (rnO τ ρ g w l0 r t).isSome = true then f t else 0) (tn τ) := by
  intro r
  induction r with
  | zero =>
    show (0 : Int) = _
    rw [sm_congr (g := fun _ => 0) (fun i _ => by simp [rnO]), sm_zero]
  | succ r ih =>
    rw [orO, lsm_app, ih]
    unfold rdO
    rw [lsm_filt, ← sm_add]
    refine sm_congr (fun t ht => ?_)
    rw [rn_s]
    by_cases hp : giO τ ρ g w l0 r t = true
    · have h1 := (rn_none ht hz hp).1
      rw [h1]
      simp [hp]
    · cases h : rnO τ ρ g w l0 r t with
      | none => simp [hp]
      | some q => simp [hp]
theorem al_sum (f : Nat → Int) (hz : ∀ t, l0 t = 0 ∨ l0 t = 1) : lsm f (alO τ ρ g w l0) = sm (fun t => if (rnO τ ρ g w l0 36 t).isSome = true then f t else 0) (tn τ) := or_sum f hz 36
theorem lsm_take (f : Nat → Int) {l : List Nat} {i : Nat} (hi : i < l.length) : lsm f (l.take (i + 1)) = lsm f (l.take i) + f l[i] := by
  rw [List.take_succ_eq_append_getElem hi, lsm_app]
  show _ = lsm f (l.take i) + f l[i]
  simp [lsm]
theorem al_lt {t : Nat} (hz : ∀ t, l0 t = 0 ∨ l0 t = 1) (h : t ∈ alO τ ρ g w l0) : t < tn τ ∧ ∃ q, rnO τ ρ g w l0 36 t = some q := by
  have h2 := or_mem.mp h
  cases hq : rnO τ ρ g w l0 36 t with
  | none => rw [hq] at h2; cases h2
  | some q => exact ⟨(gi_iff.mp (rn_gi hq).2).1, q, rfl⟩
end OR
