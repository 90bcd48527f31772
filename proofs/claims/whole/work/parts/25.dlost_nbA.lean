/-! THE REFERENCE: VARS, laws, lift, landing -/
section MV
variable {θ : zS} {τ : zT} {s : Nat} {Q : Option zV → zS → zM → Prop} {μ : zM} {ρ : zF} {lost l0 : Nat → Int} {g w : Int}
theorem lost_nbA (hw : wfT τ) {t : Nat} (ht : t < tn τ) {lost : Nat → Int} (hz : lz lost) : ∃ A1 A2 A3 A4 : Int, (A1 = 0 ∨ A1 = 1) ∧ (A2 = 0 ∨ A2 = 1) ∧ (A3 = 0 ∨ A3 = 1) ∧ (A4 = 0 ∨ A4 = 1) ∧ (∀ _ : Unit, barO τ lost t = A1 + A2 + A3 + A4) ∧
    (∀ _ : Unit, A1 = if (0 ≤ w32 ((rwO τ t : Int) - 1) ∧ w32 ((rwO τ t : Int) - 1) + 1 ≤ tr τ) ∧ 0 ≤ (clO τ t : Int) ∧ (clO τ t : Int) + 1 ≤ tc τ then lost ((w32 ((rwO τ t : Int) - 1)).toNat * tc τ + (clO τ t : Int).toNat) else 0)
    ∧ (∀ _ : Unit, A2 = if (0 ≤ w32 ((rwO τ t : Int) + 1) ∧ w32 ((rwO τ t : Int) + 1) + 1 ≤ tr τ) ∧ 0 ≤ (clO τ t : Int) ∧ (clO τ t : Int) + 1 ≤ tc τ then lost ((w32 ((rwO τ t : Int) + 1)).toNat * tc τ + (clO τ t : Int).toNat) else 0)
    ∧ (∀ _ : Unit, A3 = if (0 ≤ (rwO τ t : Int) ∧ (rwO τ t : Int) + 1 ≤ tr τ) ∧ 0 ≤ w32 ((clO τ t : Int) - 1) ∧ w32 ((clO τ t : Int) - 1) + 1 ≤ tc τ then lost ((rwO τ t : Int).toNat * tc τ + (w32 ((clO τ t : Int) - 1)).toNat) else 0)
    ∧ ∀ _ : Unit, A4 = if (0 ≤ (rwO τ t : Int) ∧ (rwO τ t : Int) + 1 ≤ tr τ) ∧ 0 ≤ w32 ((clO τ t : Int) + 1) ∧ w32 ((clO τ t : Int) + 1) + 1 ≤ tc τ then lost ((rwO τ t : Int).toNat * tc τ + (w32 ((clO τ t : Int) + 1)).toNat) else 0 := by
  have nb := lost_nb hw ht lost
  have p1 := hz (t - tc τ); have p2 := hz (t + tc τ); have p3 := hz (t - 1); have p4 := hz (t + 1)
  have zz : ∀ (c : Prop) [Decidable c] (y : Int), (y = 0 ∨ y = 1) → ((if c then y else 0) = 0 ∨ (if c then y else 0) = 1) := by
    intro c _ y hy
    by_cases hc : c
    · rw [if_pos hc]; exact hy
    · rw [if_neg hc]; exact Or.inl rfl
  exact ⟨_, _, _, _, zz _ _ p1, zz _ _ p2, zz _ _ p3, zz _ _ p4, fun _ => rfl, fun _ => nb.1.symm, fun _ => nb.2.1.symm, fun _ => nb.2.2.1.symm, fun _ => nb.2.2.2.symm⟩
end MV
