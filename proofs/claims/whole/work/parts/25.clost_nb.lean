/-! THE REFERENCE: VARS, laws, lift, landing -/
section MV
variable {θ : zS} {τ : zT} {s : Nat} {Q : Option zV → zS → zM → Prop} {μ : zM} {ρ : zF} {lost l0 : Nat → Int} {g w : Int}
theorem nb_1 {R C c r : Nat} (f : Nat → Int) (hC : C < c) (hR : R < r) : (if (0 ≤ (R : Int) - 1 ∧ (R : Int) - 1 + 1 ≤ r) ∧ 0 ≤ (C : Int) ∧ (C : Int) + 1 ≤ c then f (((R : Int) - 1).toNat * c + (C : Int).toNat) else 0) = if c ≤ R * c + C then f (R * c + C - c) else 0 := by
  cases R with
  | zero => rw [if_neg (fun h => by have := h.1.1; omega), if_neg (by omega)]
  | succ q =>
    have e : (((q + 1 : Nat) : Int) - 1).toNat = q := by omega
    have e2 : (q + 1) * c = q * c + c := by rw [Nat.add_mul, Nat.one_mul]
    rw [e, e2, Int.toNat_natCast]
    generalize q * c = P
    rw [if_pos ⟨⟨by omega, by omega⟩, by omega, by omega⟩, if_pos (by omega)]
    congr 1; omega
theorem nb_2 {R C c r : Nat} (f : Nat → Int) (hC : C < c) (hR : R < r) : (if (0 ≤ ((R + 1 : Nat) : Int) ∧ ((R + 1 : Nat) : Int) + 1 ≤ r) ∧ 0 ≤ (C : Int) ∧ (C : Int) + 1 ≤ c then f (((R + 1 : Nat) : Int).toNat * c + (C : Int).toNat) else 0) = if R * c + C + c < r * c then f (R * c + C + c) else 0 := by
  have e2 : (R + 1) * c = R * c + c := by rw [Nat.add_mul, Nat.one_mul]
  rw [Int.toNat_natCast, Int.toNat_natCast, e2]
  by_cases h : R + 1 < r
  · obtain ⟨q, rfl⟩ : ∃ q, r = R + 1 + 1 + q := ⟨r - (R + 1 + 1), by omega⟩
    have e3 : (R + 1 + 1 + q) * c = R * c + c + c + q * c := by rw [Nat.add_mul, Nat.add_mul, Nat.add_mul, Nat.one_mul]
    rw [e3]
    generalize R * c = P
    generalize q * c = P2
    rw [if_pos ⟨⟨by omega, by omega⟩, by omega, by omega⟩, if_pos (by omega)]
    congr 1; omega
  · have : r = R + 1 := by omega
    subst this
    rw [e2]
    generalize R * c = P
    rw [if_neg (fun h => by have := h.1.2; omega), if_neg (by omega)]
theorem nb_3 {R C c r : Nat} (f : Nat → Int) (hC : C < c) (hR : R < r) : (if (0 ≤ (R : Int) ∧ (R : Int) + 1 ≤ r) ∧ 0 ≤ (C : Int) - 1 ∧ (C : Int) - 1 + 1 ≤ c then f ((R : Int).toNat * c + ((C : Int) - 1).toNat) else 0) = if 0 < C then f (R * c + C - 1) else 0 := by
  rw [Int.toNat_natCast]
  generalize R * c = P
  cases C with
  | zero => rw [if_neg (fun h => by have := h.2.1; omega), if_neg (by omega)]
  | succ q =>
    have e : (((q + 1 : Nat) : Int) - 1).toNat = q := by omega
    rw [e, if_pos ⟨⟨by omega, by omega⟩, by omega, by omega⟩, if_pos (by omega)]
    rfl
theorem nb_4 {R C c r : Nat} (f : Nat → Int) (hC : C < c) (hR : R < r) : (if (0 ≤ (R : Int) ∧ (R : Int) + 1 ≤ r) ∧ 0 ≤ ((C + 1 : Nat) : Int) ∧ ((C + 1 : Nat) : Int) + 1 ≤ c then f ((R : Int).toNat * c + ((C + 1 : Nat) : Int).toNat) else 0) = if C + 1 < c then f (R * c + C + 1) else 0 := by
  rw [Int.toNat_natCast, Int.toNat_natCast]
  by_cases h : C + 1 < c
  · rw [if_pos ⟨⟨by omega, by omega⟩, by omega, by omega⟩, if_pos h]; rfl
  · rw [if_neg (fun h => by have := h.2.2; omega), if_neg h]
theorem lost_nb (hw : wfT τ) {t : Nat} (ht : t < tn τ) (lost : Nat → Int) :
    (if (0 ≤ w32 ((rwO τ t : Int) - 1) ∧ w32 ((rwO τ t : Int) - 1) + 1 ≤ tr τ) ∧ 0 ≤ (clO τ t : Int) ∧ (clO τ t : Int) + 1 ≤ tc τ then lost ((w32 ((rwO τ t : Int) - 1)).toNat * tc τ + (clO τ t : Int).toNat) else 0) = (if tc τ ≤ t then lost (t - tc τ) else 0)
    ∧ (if (0 ≤ w32 ((rwO τ t : Int) + 1) ∧ w32 ((rwO τ t : Int) + 1) + 1 ≤ tr τ) ∧ 0 ≤ (clO τ t : Int) ∧ (clO τ t : Int) + 1 ≤ tc τ then lost ((w32 ((rwO τ t : Int) + 1)).toNat * tc τ + (clO τ t : Int).toNat) else 0) = (if t + tc τ < tn τ then lost (t + tc τ) else 0)
    ∧ (if (0 ≤ (rwO τ t : Int) ∧ (rwO τ t : Int) + 1 ≤ tr τ) ∧ 0 ≤ w32 ((clO τ t : Int) - 1) ∧ w32 ((clO τ t : Int) - 1) + 1 ≤ tc τ then lost ((rwO τ t : Int).toNat * tc τ + (w32 ((clO τ t : Int) - 1)).toNat) else 0) = (if 0 < clO τ t then lost (t - 1) else 0)
    ∧ (if (0 ≤ (rwO τ t : Int) ∧ (rwO τ t : Int) + 1 ≤ tr τ) ∧ 0 ≤ w32 ((clO τ t : Int) + 1) ∧ w32 ((clO τ t : Int) + 1) + 1 ≤ tc τ then lost ((rwO τ t : Int).toNat * tc τ + (w32 ((clO τ t : Int) + 1)).toNat) else 0) = (if clO τ t + 1 < tc τ then lost (t + 1) else 0) := by
  have n1 := tr_b hw
  have n2 := tc_b hw
  obtain ⟨b1, b2, b3⟩ := rw_b hw ht
  have e1 : w32 ((rwO τ t : Int) - 1) = (rwO τ t : Int) - 1 := w32_i (by omega) (by omega)
  have e2 : w32 ((rwO τ t : Int) + 1) = ((rwO τ t + 1 : Nat) : Int) := by rw [w32_i (by omega) (by omega)]; rfl
  have e3 : w32 ((clO τ t : Int) - 1) = (clO τ t : Int) - 1 := w32_i (by omega) (by omega)
  have e4 : w32 ((clO τ t : Int) + 1) = ((clO τ t + 1 : Nat) : Int) := by rw [w32_i (by omega) (by omega)]; rfl
  rw [e1, e2, e3, e4]
  refine ⟨(nb_1 lost b2 b1).trans ?_, (nb_2 lost b2 b1).trans ?_, (nb_3 lost b2 b1).trans ?_, (nb_4 lost b2 b1).trans ?_⟩
  · rw [← b3]
  · rw [← b3]; rfl
  · rw [← b3]
  · rw [← b3]
end MV
