/-! TOKENS out of bytes, pure -/
def isBb (c : Int) : Bool := decide (c = 9 ∨ c = 10 ∨ c = 13 ∨ c = 32)
def isLl (c : Int) : Bool := decide (97 ≤ c ∧ c ≤ 122)
def isDd (c : Int) : Bool := decide (48 ≤ c ∧ c ≤ 57)
def rnE (p : Int → Bool) (b : Nat → Int) : Nat → Nat → Nat
  | 0, i => i
  | k + 1, i => if p (b i) = true then rnE p b k (i + 1) else i
/-- where a run of such bytes ends -/
def enE (p : Int → Bool) (b : Nat → Int) (n i : Nat) : Nat := rnE p b (n - i) i
section LX
variable {p : Int → Bool} {b : Nat → Int} {n : Nat}
theorem en_y {i : Nat} (h : i < n) (hp : p (b i) = true) : enE p b n i = enE p b n (i + 1) := by
  unfold enE
  rw [show n - i = (n - (i + 1)) + 1 by omega]
  show (if p (b i) = true then _ else _) = _
  rw [if_pos hp]
theorem en_n {i : Nat} (h : i < n → p (b i) = false) : enE p b n i = i := by
  unfold enE
  by_cases hi : i < n
  · rw [show n - i = (n - (i + 1)) + 1 by omega]
    show (if p (b i) = true then _ else _) = _
    rw [h hi, if_neg (by decide)]
  · rw [show n - i = 0 by omega]; rfl
theorem en_b : ∀ k i, n - i = k → i ≤ n → i ≤ enE p b n i ∧ enE p b n i ≤ n ∧ (∀ j, i ≤ j → j < enE p b n i → p (b j) = true) ∧ (enE p b n i < n → p (b (enE p b n i)) = false) := by
  intro k
  induction k with
  | zero =>
    intro i hk hi
    have e : enE p b n i = i := en_n (fun h => by omega)
    rw [e]
    exact ⟨Nat.le_refl _, hi, fun j h1 h2 => by omega, fun h => by omega⟩
  | succ k ih =>
    intro i hk hi
    by_cases hp : p (b i) = true
    · rw [en_y (by omega) hp]
      obtain ⟨h1, h2, h3, h4⟩ := ih (i + 1) (by omega) (by omega)
      refine ⟨by omega, h2, fun j j1 j2 => ?_, h4⟩
      by_cases q : j = i
      · rw [q]; exact hp
      · exact h3 j (by omega) j2
    · have hp' : p (b i) = false := by simpa using hp
      rw [en_n (fun _ => hp')]
      exact ⟨Nat.le_refl _, hi, fun j h1 h2 => by omega, fun _ => hp'⟩
theorem en_bd {i : Nat} (hi : i ≤ n) : i ≤ enE p b n i ∧ enE p b n i ≤ n := by
  have := en_b (p := p) (b := b) (n := n) (n - i) i rfl hi
  exact ⟨this.1, this.2.1⟩
end LX
def lfO (b : Nat → Int) (s : Nat) : Nat → Int := fun i => b (s + i) - 96
def dfO (b : Nat → Int) (s : Nat) : Nat → Int := fun i => b (s + i) - 48
def kwO (v : Int) : Nat := match (List.range 33).find? (fun k => decide (wv k = v)) with
  | some k => 16 + k
  | none => 3
def sgO (c : Int) (two : Bool) : Nat × Nat := if c = 59 then (4, 1) else if c = 43 then (6, 1) else if c = 45 then (7, 1) else if c = 42 then (8, 1) else if c = 47 then (9, 1) else if c = 40 then (14, 1) else if c = 41 then (15, 1)
  else if c = 61 then (if two = true then (10, 2) else (5, 1)) else if c = 60 then (if two = true then (13, 2) else (12, 1)) else if c = 33 then (if two = true then (11, 2) else (1, 1)) else (1, 1)
/-- kind and end of the TOKEN at s -/
def tkO (b : Nat → Int) (n s : Nat) : Nat × Nat := if n ≤ s then (0, s) else if isLl (b s) = true then (if 8 < enE isLl b n s - s then 1 else kwO (nmI 32 (lfO b s) (enE isLl b n s - s)), enE isLl b n s)
  else if isDd (b s) = true then (if 4 < enE isDd b n s - s then 1 else 2, enE isDd b n s) else ((sgO (b s) (decide (s + 1 < n ∧ b (s + 1) = 61))).1, s + (sgO (b s) (decide (s + 1 < n ∧ b (s + 1) = 61))).2)
def poO (b : Nat → Int) (n : Nat) : Nat → Nat
  | 0 => 0
  | j + 1 => (tkO b n (enE isBb b n (poO b n j))).2
def stN (b : Nat → Int) (n j : Nat) : Nat := enE isBb b n (poO b n j)
def knO2 (b : Nat → Int) (n j : Nat) : Nat := (tkO b n (stN b n j)).1
def viO (b : Nat → Int) (n j : Nat) : Int := nmI 10 (dfO b (stN b n j)) (enE isDd b n (stN b n j) - stN b n j)
def vwO (B : Int) (b : Nat → Int) (n j : Nat) : Int := nmI B (lfO b (stN b n j)) (enE isLl b n (stN b n j) - stN b n j)
def zzO (b : Nat → Int) (n : Nat) : Nat := match (List.range 400).find? (fun j => decide (knO2 b n j ≤ 1)) with
  | some j => j
  | none => 400
theorem sg_k (c : Int) (two : Bool) : (sgO c two).1 ≤ 15 ∧ (sgO c two).1 ≠ 0 ∧ (sgO c two).1 ≠ 2 ∧ (sgO c two).1 ≠ 3 ∧ 1 ≤ (sgO c two).2 ∧ (sgO c two).2 ≤ 2 ∧ ((sgO c two).2 = 2 → two = true) := by
  unfold sgO
  cases two <;> simp only [if_true, if_false, Bool.false_eq_true] <;> split <;> (try decide) <;> split <;> (try decide) <;> split <;> (try decide) <;> split <;> (try decide) <;> split <;> (try decide) <;> split <;> (try decide) <;> split <;> (try decide) <;> split <;> (try decide) <;> split <;> (try decide) <;> split <;> decide
theorem kw_b (v : Int) : 3 ≤ kwO v ∧ kwO v ≤ 48 := by
  unfold kwO
  cases h : (List.range 33).find? (fun k => decide (wv k = v)) with
  | none => simp
  | some k =>
    have := List.mem_of_find?_eq_some h
    rw [List.mem_range] at this
    simp only
    omega
section LY
variable {b : Nat → Int} {n : Nat}
theorem tk_b {s : Nat} (hs : s ≤ n) : s ≤ (tkO b n s).2 ∧ (tkO b n s).2 ≤ n ∧ (tkO b n s).1 ≤ 48 ∧ (s < n → s < (tkO b n s).2 ∧ (tkO b n s).1 ≠ 0) ∧ ((tkO b n s).1 = 0 → s = n) := by
  unfold tkO
  by_cases h0 : n ≤ s
  · rw [if_pos h0]; exact ⟨Nat.le_refl _, hs, by omega, fun h => by omega, fun _ => by omega⟩
  · rw [if_neg h0]
    by_cases h1 : isLl (b s) = true
    · rw [if_pos h1]
      have e := en_y (p := isLl) (b := b) (n := n) (i := s) (by omega) h1
      have hb := en_bd (p := isLl) (b := b) (n := n) (i := s + 1) (by omega)
      rw [← e] at hb
      have hk := kw_b (nmI 32 (lfO b s) (enE isLl b n s - s))
      simp only
      refine ⟨by omega, by omega, ?_, fun _ => ⟨by omega, ?_⟩, fun h => ?_⟩
      · by_cases c : 8 < enE isLl b n s - s
        · rw [if_pos c]; omega
        · rw [if_neg c]; omega
      · by_cases c : 8 < enE isLl b n s - s
        · rw [if_pos c]; omega
        · rw [if_neg c]; omega
      · by_cases c : 8 < enE isLl b n s - s
        · rw [if_pos c] at h; omega
        · rw [if_neg c] at h; omega
    · rw [if_neg h1]
      by_cases h2 : isDd (b s) = true
      · rw [if_pos h2]
        have e := en_y (p := isDd) (b := b) (n := n) (i := s) (by omega) h2
        have hb := en_bd (p := isDd) (b := b) (n := n) (i := s + 1) (by omega)
        rw [← e] at hb
        simp only
        have hc : (if 4 < enE isDd b n s - s then 1 else 2) ≤ 2 ∧ (if 4 < enE isDd b n s - s then 1 else 2) ≠ 0 := by
          by_cases c : 4 < enE isDd b n s - s
          · rw [if_pos c]; decide
          · rw [if_neg c]; decide
        exact ⟨by omega, by omega, by omega, fun _ => ⟨by omega, hc.2⟩, fun h => absurd h hc.2⟩
      · rw [if_neg h2]
        have hg := sg_k (b s) (decide (s + 1 < n ∧ b (s + 1) = 61))
        simp only
        refine ⟨by omega, ?_, by omega, fun _ => ⟨by omega, hg.2.1⟩, fun h => absurd h hg.2.1⟩
        by_cases c : (sgO (b s) (decide (s + 1 < n ∧ b (s + 1) = 61))).2 = 2
        · have := hg.2.2.2.2.2.2 c
          have := (of_decide_eq_true this).1
          omega
        · omega
theorem po_b : ∀ j, poO b n j ≤ n := by
  intro j
  induction j with
  | zero => exact Nat.zero_le _
  | succ j ih =>
    have h := en_bd (p := isBb) (b := b) ih
    exact (tk_b h.2).2.1
theorem st_b (j : Nat) : poO b n j ≤ stN b n j ∧ stN b n j ≤ n := en_bd (po_b j)
theorem po_s (j : Nat) : poO b n (j + 1) = (tkO b n (stN b n j)).2 := rfl
theorem zz_ok : okZ (knO2 b n) (zzO b n) ∧ (∀ j, j < zzO b n → 2 ≤ knO2 b n j) ∧ (zzO b n < 400 → knO2 b n (zzO b n) ≤ 1) := by
  unfold zzO
  cases h : (List.range 400).find? (fun j => decide (knO2 b n j ≤ 1)) with
  | none =>
    have h' : ∀ j, j < 400 → 2 ≤ knO2 b n j := fun j hj => by
      have := List.find?_eq_none.mp h j (List.mem_range.mpr hj)
      simp at this; omega
    exact ⟨⟨Nat.le_refl _, fun j h1 h2 h3 => h1⟩, h', fun hh => absurd hh (Nat.lt_irrefl _)⟩
  | some z =>
    have hz := List.find?_some h
    have hm := List.mem_range.mp (List.mem_of_find?_eq_some h)
    have hlt : ∀ j, j < z → 2 ≤ knO2 b n j := fun j hj => by
      by_cases q : knO2 b n j ≤ 1
      · have e : (List.range 400).find? (fun j => decide (knO2 b n j ≤ 1)) ≠ some z := by
          intro e
          have key : ∀ (m : Nat), m ≤ z → (∀ i, i < m → decide (knO2 b n i ≤ 1) = false) → True := fun _ _ _ => trivial
          obtain ⟨as, bs, e1, e2⟩ := List.find?_eq_some_iff_append.mp e |>.2
          have hj2 : j ∈ as := by
            have hmem : j ∈ List.range 400 := List.mem_range.mpr (by omega)
            rw [e1] at hmem
            rw [List.mem_append, List.mem_cons] at hmem
            rcases hmem with h' | h' | h'
            · exact h'
            · omega
            · exfalso
              have hp : (List.range 400).Pairwise (· < ·) := List.pairwise_lt_range
              rw [e1, List.pairwise_append] at hp
              have := (List.pairwise_cons.mp hp.2.1).1 j h'
              omega
          have := e2 j hj2
          simp at this; omega
        exact absurd h e
      · omega
    have hz1 : knO2 b n z ≤ 1 := by simpa using hz
    show okZ (knO2 b n) z ∧ (∀ j, j < z → 2 ≤ knO2 b n j) ∧ (z < 400 → knO2 b n z ≤ 1)
    refine ⟨⟨by omega, fun j h1 h2 h3 => ?_⟩, hlt, fun _ => hz1⟩
    by_cases q : j = z
    · subst q; omega
    · omega
end LY
