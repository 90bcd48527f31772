/-! TOKENS, pure: as the reference holds them -/
def rkO (k : Nat) : Int := if k = 0 then 0 else if k = 1 then 3 else if k = 2 then 2 else if k = 3 then 1 else if k = 4 then 4 else if k = 5 then 16 else if k = 6 then 8 else if k = 7 then 9 else if k = 8 then 10 else if k = 9 then 15 else if k = 10 then 11 else if k = 11 then 12 else if k = 12 then 13 else if k = 13 then 14 else if k = 14 then 6 else if k = 15 then 7 else if k ≤ 25 then (k : Int) + 4 else if k ≤ 31 then (k : Int) + 5 else if k = 32 then 30 else (k : Int) + 4
theorem rk_inj : ∀ a : Fin 49, ∀ b : Fin 49, rkO a.val = rkO b.val → a = b := by decide +kernel
theorem rk_eq {a b : Nat} (ha : a ≤ 48) (hb : b ≤ 48) : rkO a = rkO b ↔ a = b := by
  constructor
  · intro h
    have := rk_inj ⟨a, by omega⟩ ⟨b, by omega⟩ h
    exact Fin.mk.inj this
  · intro h; rw [h]
theorem nm_inj {B : Int} (hB : B = 27 ∨ B = 32) {f g : Nat → Int} : ∀ m k, (∀ i, i < m → 1 ≤ f i ∧ f i ≤ 26) → (∀ i, i < k → 1 ≤ g i ∧ g i ≤ 26) → nmI B f m = nmI B g k → m = k ∧ ∀ i, i < m → f i = g i := by
  have nn : ∀ {h : Nat → Int} j, (∀ i, i < j → 1 ≤ h i ∧ h i ≤ 26) → 0 ≤ nmI B h j := by
    intro h j
    induction j with
    | zero => intro _; simp [nmI]
    | succ j ih =>
      intro hh
      have h1 := ih (fun i hi => hh i (by omega))
      have h2 := hh j (by omega)
      unfold nmI
      rcases hB with rfl | rfl <;> omega
  intro m
  induction m with
  | zero =>
    intro k _ hg h
    cases k with
    | zero => exact ⟨rfl, fun i hi => absurd hi (Nat.not_lt_zero _)⟩
    | succ k =>
      exfalso
      have h1 := nn k (fun i hi => hg i (by omega))
      have h2 := hg k (by omega)
      unfold nmI at h
      rcases hB with rfl | rfl <;> omega
  | succ m ih =>
    intro k hf hg h
    cases k with
    | zero =>
      exfalso
      have h1 := nn m (fun i hi => hf i (by omega))
      have h2 := hf m (by omega)
      unfold nmI at h
      rcases hB with rfl | rfl <;> omega
    | succ k =>
      have h1 := nn m (fun i hi => hf i (by omega))
      have h2 := hf m (by omega)
      have h3 := nn k (fun i hi => hg i (by omega))
      have h4 := hg k (by omega)
      unfold nmI at h
      have e : f m = g k ∧ nmI B f m = nmI B g k := by rcases hB with rfl | rfl <;> omega
      obtain ⟨e1, e2⟩ := ih k (fun i hi => hf i (by omega)) (fun i hi => hg i (by omega)) e.2
      subst e1
      refine ⟨rfl, fun i hi => ?_⟩
      by_cases q : i = m
      · subst q; exact e.1
      · exact e2 i (by omega)
theorem nm_cg {B : Int} {f g : Nat → Int} : ∀ m, (∀ i, i < m → f i = g i) → nmI B f m = nmI B g m := by
  intro m
  induction m with
  | zero => intro _; rfl
  | succ m ih => intro h; unfold nmI; rw [ih (fun i hi => h i (by omega)), h m (by omega)]
theorem wd_b : ∀ k : Fin 33, wl k.val ≤ 7 ∧ ∀ i : Fin 8, i.val < wl k.val → 1 ≤ wd k.val i.val ∧ wd k.val i.val ≤ 26 := by decide +kernel
theorem wd_b2 {k : Nat} (hk : k < 33) : wl k ≤ 7 ∧ ∀ i, i < wl k → 1 ≤ wd k i ∧ wd k i ≤ 26 := by
  have := wd_b ⟨k, hk⟩
  exact ⟨this.1, fun i hi => this.2 ⟨i, by have := this.1; simp at this; omega⟩ hi⟩
theorem wv_inj : ∀ a : Fin 33, ∀ b : Fin 33, wv a.val = wv b.val → a = b := by decide +kernel
theorem kw_27 {k m : Nat} {f : Nat → Int} (hk : k < 33) (hf : ∀ i, i < m → 1 ≤ f i ∧ f i ≤ 26) : nmI 27 (wd k) (wl k) = nmI 27 f m ↔ wv k = nmI 32 f m := by
  have hw := wd_b2 hk
  unfold wv
  constructor
  · intro h
    obtain ⟨e1, e2⟩ := nm_inj (Or.inl rfl) _ _ hw.2 hf h
    rw [← e1]; exact nm_cg _ e2
  · intro h
    obtain ⟨e1, e2⟩ := nm_inj (Or.inr rfl) _ _ hw.2 hf h
    rw [← e1]; exact nm_cg _ e2
theorem kw_8 {m : Nat} {f : Nat → Int} (hm : 8 ≤ m) (hf : ∀ i, i < m → 1 ≤ f i ∧ f i ≤ 26) : kwO (nmI 32 f m) = 3 := by
  unfold kwO
  rw [find_no (fun k hk => ?_)]
  refine decide_eq_false (fun h => ?_)
  have hw := wd_b2 hk
  obtain ⟨e1, e2⟩ := nm_inj (Or.inr rfl) _ _ hw.2 hf h
  omega
/-- the words up to k -/
def kwK (v : Int) (k : Nat) : Nat := match (List.range k).find? (fun k => decide (wv (pq k) = v)) with
  | some k => 16 + pq k
  | none => 3
theorem pq_b : ∀ k : Fin 33, pq k.val < 33 ∧ rkO (16 + pq k.val) = ((20 + k.val : Nat) : Int) := by decide +kernel
theorem pq_inj : ∀ a : Fin 33, ∀ b : Fin 33, pq a.val = pq b.val → a = b := by decide +kernel
theorem pq_sur : ∀ a : Fin 33, ∃ b : Fin 33, pq b.val = a.val := by decide +kernel
theorem kwO_y {v : Int} {i : Nat} (hi : i < 33) (h : wv i = v) : kwO v = 16 + i := by
  unfold kwO
  cases hf : (List.range 33).find? (fun k => decide (wv k = v)) with
  | none =>
    rw [List.find?_eq_none] at hf
    have := hf i (List.mem_range.mpr hi)
    simp [h] at this
  | some k =>
    have h1 := List.mem_of_find?_eq_some hf
    rw [List.mem_range] at h1
    have h2 := List.find?_some hf
    have h3 : wv k = v := by simpa using h2
    have := wv_inj ⟨k, h1⟩ ⟨i, hi⟩ (h3.trans h.symm)
    have := Fin.mk.inj this
    simp only
    omega
theorem kwO_n {v : Int} (h : ∀ i, i < 33 → wv i ≠ v) : kwO v = 3 := by
  unfold kwO
  rw [find_no (fun k hk => decide_eq_false (h k hk))]
theorem kwK_33 (v : Int) : kwK v 33 = kwO v := by
  unfold kwK
  cases hf : (List.range 33).find? (fun k => decide (wv (pq k) = v)) with
  | none =>
    rw [List.find?_eq_none] at hf
    refine (kwO_n (fun i hi hh => ?_)).symm
    obtain ⟨k, hk⟩ := pq_sur ⟨i, hi⟩
    have := hf k.val (List.mem_range.mpr k.isLt)
    simp only at hk
    rw [hk] at this
    simp [hh] at this
  | some k =>
    have h1 := List.mem_of_find?_eq_some hf
    rw [List.mem_range] at h1
    have h2 := List.find?_some hf
    have h3 : wv (pq k) = v := by simpa using h2
    exact (kwO_y (pq_b ⟨k, h1⟩).1 h3).symm
theorem kwK_s {v : Int} {k : Nat} (hk : k < 33) : kwK v (k + 1) = if wv (pq k) = v then 16 + pq k else kwK v k := by
  unfold kwK
  rw [List.range_succ, List.find?_append]
  by_cases h : wv (pq k) = v
  · rw [if_pos h]
    have hno : (List.range k).find? (fun k => decide (wv (pq k) = v)) = none := find_no (fun j hj => decide_eq_false (fun hh => by
      have := wv_inj ⟨pq j, (pq_b ⟨j, by omega⟩).1⟩ ⟨pq k, (pq_b ⟨k, hk⟩).1⟩ (hh.trans h.symm)
      have := Fin.mk.inj (pq_inj ⟨j, by omega⟩ ⟨k, hk⟩ (Fin.mk.inj this))
      omega))
    rw [hno]
    simp [h]
  · rw [if_neg h]
    have : [k].find? (fun k => decide (wv (pq k) = v)) = none := by simp [h]
    rw [this, Option.or_none]
theorem kwK_b {v : Int} {k : Nat} (hk : k ≤ 33) : 3 ≤ kwK v k ∧ kwK v k ≤ 48 := by
  unfold kwK
  cases h : (List.range k).find? (fun k => decide (wv (pq k) = v)) with
  | none => simp
  | some j =>
    have := List.mem_of_find?_eq_some h
    rw [List.mem_range] at this
    have := (pq_b ⟨j, by omega⟩).1
    simp only at this ⊢
    omega
def u8 (c : Int) : Int := if c < 0 then c + 256 else c
theorem zand_u8' : ∀ k : Fin 256, zand ((k.val : Int) - 128) 255 = u8 ((k.val : Int) - 128) := by decide +kernel
theorem zand_u8 {c : Int} (h1 : -128 ≤ c) (h2 : c ≤ 127) : zand c 255 = u8 c := by
  have := zand_u8' ⟨(c + 128).toNat, by omega⟩
  simp only at this
  rw [show (((c + 128).toNat : Nat) : Int) - 128 = c by omega] at this
  exact this
theorem u8_L {c : Int} (h1 : -128 ≤ c) (h2 : c ≤ 127) : isLl (u8 c) = isLl c ∧ isDd (u8 c) = isDd c ∧ isBb (u8 c) = isBb c := by
  unfold u8 isLl isDd isBb
  by_cases h : c < 0
  · rw [if_pos h]
    refine ⟨?_, ?_, ?_⟩
    · rw [decide_eq_false (by omega), decide_eq_false (by omega)]
    · rw [decide_eq_false (by omega), decide_eq_false (by omega)]
    · rw [decide_eq_false (by omega), decide_eq_false (by omega)]
  · rw [if_neg h]; exact ⟨rfl, rfl, rfl⟩
theorem u8_e {c k : Int} (h1 : -128 ≤ c) (h2 : c ≤ 127) (hk : 0 ≤ k ∧ k ≤ 127) : (u8 c = k) = (c = k) := by
  unfold u8
  by_cases h : c < 0
  · rw [if_pos h]; exact propext ⟨fun _ => by omega, fun _ => by omega⟩
  · rw [if_neg h]
theorem u8_p {c : Int} (h1 : -128 ≤ c) (h : isLl c = true ∨ isDd c = true) : u8 c = c := by
  unfold u8
  rw [if_neg]
  rcases h with h | h
  · have : 97 ≤ c ∧ c ≤ 122 := of_decide_eq_true h
    omega
  · have : 48 ≤ c ∧ c ≤ 57 := of_decide_eq_true h
    omega
