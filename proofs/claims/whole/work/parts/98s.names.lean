/-! THE REFERENCE reads: what is pure of it -/
section NM
variable {b : Nat → Int} {n : Nat}
theorem vi_9 : ∀ j, knO2 b n j = 2 → 0 ≤ viO b n j ∧ viO b n j ≤ 9999 := fun j hj => by
    unfold knO2 tkO at hj
    by_cases h0 : n ≤ stN b n j
    · rw [if_pos h0] at hj; cases hj
    · rw [if_neg h0] at hj
      by_cases h1 : isLl (b (stN b n j)) = true
      · rw [if_pos h1] at hj
        have := kw_b (nmI 32 (lfO b (stN b n j)) (enE isLl b n (stN b n j) - stN b n j))
        simp only at hj
        by_cases c : 8 < enE isLl b n (stN b n j) - stN b n j
        · rw [if_pos c] at hj; omega
        · rw [if_neg c] at hj; omega
      · rw [if_neg h1] at hj
        by_cases h2 : isDd (b (stN b n j)) = true
        · rw [if_pos h2] at hj
          simp only at hj
          by_cases c : 4 < enE isDd b n (stN b n j) - stN b n j
          · rw [if_pos c] at hj; omega
          · have hb := en_b (p := isDd) (b := b) (n := n) (n - stN b n j) (stN b n j) rfl (by omega)
            exact nd_4 (by omega) (fun i hi => by
              have : 48 ≤ b (stN b n j + i) ∧ b (stN b n j + i) ≤ 57 := of_decide_eq_true (hb.2.2.1 (stN b n j + i) (by omega) (by omega))
              unfold dfO; omega)
        · rw [if_neg h2] at hj
          have hg := sg_k (b (stN b n j)) (decide (stN b n j + 1 < n ∧ b (stN b n j + 1) = 61))
          exact absurd hj hg.2.2.1
/-- places grow -/
theorem st_up {Z : Nat} (hz : ∀ j, j < Z → 2 ≤ knO2 b n j) : ∀ k i, i + k + 1 ≤ Z → stN b n i < stN b n (i + k + 1) := by
  have one : ∀ i, i + 1 ≤ Z → stN b n i < stN b n (i + 1) := fun i hi => by
    have h1 := hz i (by omega)
    have hb := st_b (b := b) (n := n) i
    have ht := tk_b (b := b) (n := n) hb.2
    have hs : stN b n i < n := by
      by_cases c : stN b n i < n
      · exact c
      · exfalso
        have : knO2 b n i = 0 := by unfold knO2 tkO; rw [if_pos (by omega)]
        omega
    have h2 := (ht.2.2.2.1 hs).1
    have h3 := (st_b (b := b) (n := n) (i + 1)).1
    rw [po_s] at h3
    omega
  intro k
  induction k with
  | zero => intro i hi; exact one i hi
  | succ k ih =>
    intro i hi
    have h1 := ih i (by omega)
    have h2 := one (i + k + 1) (by omega)
    rw [show i + (k + 1) + 1 = i + k + 1 + 1 by omega]
    omega
/-- NAMES are the same as both hold them -/
theorem nm_k {j : Nat} (h : knO2 b n j = 3) : ∀ i, i < enE isLl b n (stN b n j) - stN b n j → 1 ≤ lfO b (stN b n j) i ∧ lfO b (stN b n j) i ≤ 26 := by
  unfold knO2 tkO at h
  by_cases h0 : n ≤ stN b n j
  · rw [if_pos h0] at h; cases h
  · have hb := en_b (p := isLl) (b := b) (n := n) (n - stN b n j) (stN b n j) rfl (by omega)
    intro i hi
    have : 97 ≤ b (stN b n j + i) ∧ b (stN b n j + i) ≤ 122 := of_decide_eq_true (hb.2.2.1 (stN b n j + i) (by omega) (by omega))
    unfold lfO; omega
theorem nm_eq {i j : Nat} (hi : knO2 b n i = 3) (hj : knO2 b n j = 3) : vwO 27 b n i = vwO 27 b n j ↔ vwO 32 b n i = vwO 32 b n j := by
  unfold vwO
  constructor
  · intro h
    obtain ⟨e1, e2⟩ := nm_inj (Or.inl rfl) _ _ (nm_k hi) (nm_k hj) h
    rw [← e1]; exact nm_cg _ e2
  · intro h
    obtain ⟨e1, e2⟩ := nm_inj (Or.inr rfl) _ _ (nm_k hi) (nm_k hj) h
    rw [← e1]; exact nm_cg _ e2
end NM
section NW
variable {K : Nat → Nat} {V W W' : Nat → Int} {Z : Nat} {π : zP}
theorem door_W (hW : ∀ i j, K i = 3 → K j = 3 → (W i = W j ↔ W' i = W' j)) {p : Nat} (h : wfP K p π) : doorG K V W p π = doorG K V W' p π := by
  have e : ∀ n, K n = 3 → twO W π n = twO W' π n := fun n hn => by
    unfold twO
    rw [Bool.eq_iff_iff, List.any_eq_true, List.any_eq_true]
    constructor
    · rintro ⟨d, hd, hh⟩
      exact ⟨d, hd, by rw [decide_eq_true_eq] at hh ⊢; exact (hW _ _ (h.2.1.2 d hd).1.2 hn).mp hh⟩
    · rintro ⟨d, hd, hh⟩
      exact ⟨d, hd, by rw [decide_eq_true_eq] at hh ⊢; exact (hW _ _ (h.2.1.2 d hd).1.2 hn).mpr hh⟩
  unfold doorG
  by_cases h6 : 6 ≤ (pD π).length
  · rw [if_pos h6, if_pos h6]
  · rw [if_neg h6, if_neg h6]
    congr 1
    funext n u
    by_cases hn : K n = 3
    · rw [e n hn]
    · have : (expG K 3 n () : pR Unit) = .inl (1, n) := by unfold expG; rw [if_neg hn]
      rw [this]; rfl
theorem tell_W (hW : ∀ i j, K i = 3 → K j = 3 → (W i = W j ↔ W' i = W' j)) {p : Nat} (h : wfP K p π) : tellG K V W p π = tellG K V W' p π := by
  unfold tellG
  rw [door_W hW h]
theorem ps_W (hW : ∀ i j, K i = 3 → K j = 3 → (W i = W j ↔ W' i = W' j)) (hZ : okZ K Z) (hV : ∀ j, K j = 2 → 0 ≤ V j ∧ V j ≤ 9999) : ∀ g p π, p ≤ Z → wfP K p π → psG K V W g p π = psG K V W' g p π := by
  intro g
  induction g with
  | zero => intro p π _ _; rfl
  | succ g ih =>
    intro p π hp h
    unfold psG
    by_cases k0 : K p = 0
    · rw [if_pos k0, if_pos k0]
    · rw [if_neg k0, if_neg k0, tell_W hW h]
      have hO := wf_tell (W := W') hZ hV hp h
      generalize tellG K V W' p π = r at hO ⊢
      cases r with
      | inl e => rfl
      | inr x => exact ih x.1 x.2 hO.2.1 hO.2.2
end NW
