/-! THE GRAMMAR, over tokens by number: K kinds (the class's numbers), V what an INT is worth; pure -/
abbrev pR (α : Type) : Type := (Nat × Nat) ⊕ (Nat × α)
def bnd {α β : Type} (r : pR α) (f : Nat → α → pR β) : pR β := match r with
  | .inl e => .inl e
  | .inr (q, x) => f q x
def nx {α : Type} (p : Nat) (x : α) : pR α := if p < 400 then .inr (p + 1, x) else .inl (2, p)
/-- by modes: 0 UNIT, 1 the rest of a PART, 2 PART, 3 the rest of an E, 4 E -/
def rd (K : Nat → Nat) (V : Nat → Int) : Nat → Nat → Nat → Nat → zC → pR zC
  | 0, _, _, _, _ => .inl (0, 0)
  | f + 1, m, n, p, c =>
    if m = 0 then (if K p = 2 then nx p [(0, V p)] else if 36 ≤ K p ∧ K p ≤ 48 then nx p [(1, ((K p - 36 : Nat) : Int))] else if K p ≠ 14 then .inl (1, p) else if 6 ≤ n then .inl (2, p)
      else if p < 400 then bnd (rd K V f 4 (n + 1) (p + 1) []) (fun q e => if K q = 15 then nx q e else .inl (1, q)) else .inl (2, p))
    else if m = 1 then (if K p = 8 ∨ K p = 9 then (if p < 400 then bnd (rd K V f 0 n (p + 1) []) (fun q e => rd K V f 1 n q (c ++ e ++ [(K p - 4, 0)])) else .inl (2, p)) else .inr (p, c))
    else if m = 2 then bnd (rd K V f 0 n p []) (fun q e => rd K V f 1 n q e)
    else if m = 3 then (if K p = 6 ∨ K p = 7 then (if p < 400 then bnd (rd K V f 2 n (p + 1) []) (fun q e => rd K V f 3 n q (c ++ e ++ [(K p - 4, 0)])) else .inl (2, p)) else .inr (p, c))
    else bnd (rd K V f 2 n p []) (fun q e => rd K V f 3 n q e)
def mz (m p : Nat) : Nat := 4 * (401 - p) + (if m = 2 then 2 else if m = 4 then 3 else 1)
section PG
variable {K : Nat → Nat} {V : Nat → Int} {Z : Nat}
theorem rd_0 {f n p : Nat} {c : zC} : rd K V (f + 1) 0 n p c = if K p = 2 then nx p [(0, V p)] else if 36 ≤ K p ∧ K p ≤ 48 then nx p [(1, ((K p - 36 : Nat) : Int))] else if K p ≠ 14 then .inl (1, p) else if 6 ≤ n then .inl (2, p)
      else if p < 400 then bnd (rd K V f 4 (n + 1) (p + 1) []) (fun q e => if K q = 15 then nx q e else .inl (1, q)) else .inl (2, p) := rfl
theorem rd_1 {f n p : Nat} {c : zC} : rd K V (f + 1) 1 n p c = if K p = 8 ∨ K p = 9 then (if p < 400 then bnd (rd K V f 0 n (p + 1) []) (fun q e => rd K V f 1 n q (c ++ e ++ [(K p - 4, 0)])) else .inl (2, p)) else .inr (p, c) := rfl
theorem rd_2 {f n p : Nat} {c : zC} : rd K V (f + 1) 2 n p c = bnd (rd K V f 0 n p []) (fun q e => rd K V f 1 n q e) := rfl
theorem rd_3 {f n p : Nat} {c : zC} : rd K V (f + 1) 3 n p c = if K p = 6 ∨ K p = 7 then (if p < 400 then bnd (rd K V f 2 n (p + 1) []) (fun q e => rd K V f 3 n q (c ++ e ++ [(K p - 4, 0)])) else .inl (2, p)) else .inr (p, c) := rfl
theorem rd_4 {f n p : Nat} {c : zC} : rd K V (f + 1) 4 n p c = bnd (rd K V f 2 n p []) (fun q e => rd K V f 3 n q e) := rfl
/-- tokens up to Z count: none of them but the last is the end or none at all -/
def okZ (K : Nat → Nat) (Z : Nat) : Prop := Z ≤ 400 ∧ ∀ j, j < 400 → j ≤ Z → 2 ≤ K j → j + 1 ≤ Z
theorem bnd_inr {α β : Type} {r : pR α} {f : Nat → α → pR β} {q : Nat} {y : β} (h : bnd r f = .inr (q, y)) : ∃ q' x, r = .inr (q', x) ∧ f q' x = .inr (q, y) := by
  cases r with
  | inl e => simp [bnd] at h
  | inr a => exact ⟨a.1, a.2, rfl, h⟩
theorem bnd_inl {α β : Type} {r : pR α} {f : Nat → α → pR β} {e : Nat × Nat} (h : bnd r f = .inl e) : r = .inl e ∨ ∃ q' x, r = .inr (q', x) ∧ f q' x = .inl e := by
  cases r with
  | inl e' => simp [bnd] at h; exact Or.inl (by rw [h])
  | inr a => exact Or.inr ⟨a.1, a.2, rfl, h⟩
theorem nx_inr {α : Type} {p q : Nat} {x y : α} (h : nx p x = .inr (q, y)) : p < 400 ∧ q = p + 1 ∧ y = x := by
  unfold nx at h
  by_cases hp : p < 400
  · rw [if_pos hp] at h; injection h with h; injection h with h1 h2; exact ⟨hp, h1.symm, h2.symm⟩
  · rw [if_neg hp] at h; cases h
theorem nx_inl {α : Type} {p : Nat} {x : α} {e : Nat × Nat} (h : nx p x = .inl e) : ¬ p < 400 ∧ e = (2, p) := by
  unfold nx at h
  by_cases hp : p < 400
  · rw [if_pos hp] at h; cases h
  · rw [if_neg hp] at h; injection h with h; exact ⟨hp, h.symm⟩
theorem nx_lt {α : Type} {p : Nat} {x : α} (h : p < 400) : nx p x = .inr (p + 1, x) := if_pos h
theorem nx_ge {α : Type} {p : Nat} {x : α} (h : ¬ p < 400) : nx p x = .inl (2, p) := if_neg h
theorem wfc_app {B k : Nat} : ∀ (a b : zC) (n m : Nat), wfc B m n a → wfc B k m b → wfc B k n (a ++ b) := by
  intro a
  induction a with
  | nil => intro b n m h1 h2; have : n = m := h1; subst this; exact h2
  | cons x r ih =>
    intro b n m h1 h2
    rw [List.cons_append]
    unfold wfc at h1 ⊢
    by_cases k0 : x.1 = 0
    · rw [if_pos k0] at h1 ⊢; exact ⟨h1.1, h1.2.1, ih b _ _ h1.2.2 h2⟩
    · by_cases k1 : x.1 = 1
      · rw [if_neg k0, if_pos k1] at h1 ⊢; exact ⟨h1.1, h1.2.1, ih b _ _ h1.2.2 h2⟩
      · rw [if_neg k0, if_neg k1] at h1 ⊢; exact ⟨h1.1, h1.2.1, ih b _ _ h1.2.2 h2⟩
theorem wfc_op {B n k : Nat} (h : 2 ≤ k ∧ k ≤ 5) (hn : 2 ≤ n) : wfc B (n - 1) n [(k, 0)] := by
  have h0 : ¬ k = 0 := by omega
  have h1 : ¬ k = 1 := by omega
  simp only [wfc, h0, h1, if_false]
  exact ⟨h.2, hn, trivial⟩
/-- how many operands more may wait -/
def ned (m n : Nat) : Nat := (if m = 0 then 13 else if m = 1 ∨ m = 2 then 14 else 15) - 2 * n
def rdF (K : Nat → Nat) (Z m n p : Nat) (c : zC) (r : pR zC) : Prop := match r with
  | .inl e => (e.1 = 1 ∨ e.1 = 2) ∧ e.2 ≤ Z
  | .inr x => ∃ e', x.2 = (if m = 1 ∨ m = 3 then c else []) ++ e' ∧ p ≤ x.1 ∧ x.1 ≤ Z ∧ (m = 0 ∨ m = 2 ∨ m = 4 → p < x.1) ∧ e'.length + p ≤ x.1 ∧ (∀ B h, h + ned m n ≤ B → wfc B (h + 1) (if m = 1 ∨ m = 3 then h + 1 else h) e')
    ∧ (m = 1 ∨ m = 2 → ¬ (K x.1 = 8 ∨ K x.1 = 9)) ∧ (m = 3 ∨ m = 4 → (m = 3 → ¬ (K p = 8 ∨ K p = 9)) → ¬ (6 ≤ K x.1 ∧ K x.1 ≤ 9))
theorem rdF_bad {m n p k i : Nat} {c : zC} (h : k = 1 ∨ k = 2) (hi : i ≤ Z) : rdF K Z m n p c (.inl (k, i)) := ⟨h, hi⟩
theorem rd_fact (hZ : okZ K Z) (hV : ∀ j, K j = 2 → 0 ≤ V j ∧ V j ≤ 9999) : ∀ f m n p c, m ≤ 4 → p ≤ Z → n ≤ 6 → mz m p ≤ f → rdF K Z m n p c (rd K V f m n p c) := by
  intro f
  have hZ4 := hZ.1
  induction f with
  | zero => intro m n p c _ _ _ hz; unfold mz at hz; omega
  | succ f ih =>
    intro m n p c hm hp hn hz
    have hmm : m = 0 ∨ m = 1 ∨ m = 2 ∨ m = 3 ∨ m = 4 := by omega
    rcases hmm with rfl | rfl | rfl | rfl | rfl
    · rw [rd_0]
      have one : ∀ y : Nat × Int, (∀ B h, h + 1 ≤ B → wfc B (h + 1) h [y]) → 2 ≤ K p → rdF K Z 0 n p c (nx p [y]) := fun y hy h2 => by
        by_cases h4 : p < 400
        · rw [nx_lt h4]
          have := hZ.2 p h4 hp h2
          exact ⟨[y], by simp, by simp, this, fun _ => by simp, by simp; omega, fun B h hB => by
            have := hy B h (by unfold ned at hB; simp at hB; omega)
            simpa using this, fun hh => by omega, fun hh => by omega⟩
        · rw [nx_ge h4]; exact rdF_bad (Or.inr rfl) hp
      by_cases k2 : K p = 2
      · rw [if_pos k2]
        refine one _ (fun B h hB => ?_) (by omega)
        have := hV p k2
        simp only [wfc, if_true]
        exact ⟨hB, this, trivial⟩
      · rw [if_neg k2]
        by_cases kv : 36 ≤ K p ∧ K p ≤ 48
        · rw [if_pos kv]
          refine one _ (fun B h hB => ?_) (by omega)
          have h10 : ¬ (1 = 0) := by omega
          simp only [wfc, h10, if_false, if_true]
          exact ⟨hB, by omega, trivial⟩
        · rw [if_neg kv]
          by_cases k14 : K p = 14
          · rw [if_neg (show ¬ (K p ≠ 14) from fun hh => hh k14)]
            by_cases h6 : 6 ≤ n
            · rw [if_pos h6]; exact rdF_bad (Or.inr rfl) hp
            · rw [if_neg h6]
              by_cases h4 : p < 400
              · rw [if_pos h4]
                have hpz := hZ.2 p h4 hp (by omega)
                have hi := ih 4 (n + 1) (p + 1) [] (by omega) hpz (by omega) (by unfold mz at *; simp at *; omega)
                generalize rd K V f 4 (n + 1) (p + 1) [] = r at hi ⊢
                cases r with
                | inl e => exact hi
                | inr x =>
                  obtain ⟨e', h1, h2, h3, h5, h7, h8, h9, h10⟩ := hi
                  simp only [bnd]
                  by_cases k15 : K x.1 = 15
                  · rw [if_pos k15]
                    by_cases hx : x.1 < 400
                    · rw [nx_lt hx]
                      have hxz := hZ.2 x.1 hx h3 (by omega)
                      refine ⟨e', by simpa using h1, by simp; omega, hxz, fun _ => by simp; omega, by simp; omega, fun B h hB => ?_, fun hh => by omega, fun hh => by omega⟩
                      have := h8 B h (by unfold ned at *; simp at *; omega)
                      simpa using this
                    · rw [nx_ge hx]; exact rdF_bad (Or.inr rfl) h3
                  · rw [if_neg k15]; exact rdF_bad (Or.inl rfl) h3
              · rw [if_neg h4]; exact rdF_bad (Or.inr rfl) hp
          · rw [if_pos (by simpa using k14)]; exact rdF_bad (Or.inl rfl) hp
    · rw [rd_1]
      by_cases ko : K p = 8 ∨ K p = 9
      · rw [if_pos ko]
        by_cases h4 : p < 400
        · rw [if_pos h4]
          have hpz := hZ.2 p h4 hp (by omega)
          have hi := ih 0 n (p + 1) [] (by omega) hpz hn (by unfold mz at *; simp at *; omega)
          generalize rd K V f 0 n (p + 1) [] = r at hi ⊢
          cases r with
          | inl e => exact hi
          | inr x =>
            obtain ⟨e1, h1, h2, h3, h5, h7, h8, h9, h10⟩ := hi
            simp only [bnd]
            have hi2 := ih 1 n x.1 (c ++ x.2 ++ [(K p - 4, 0)]) (by omega) h3 hn (by unfold mz at *; simp at *; omega)
            generalize rd K V f 1 n x.1 (c ++ x.2 ++ [(K p - 4, 0)]) = r at hi2 ⊢
            cases r with
            | inl e => exact hi2
            | inr y =>
              obtain ⟨e2, g1, g2, g3, g5, g7, g8, g9, g10⟩ := hi2
              have e1' : x.2 = e1 := by simpa using h1
              refine ⟨e1 ++ [(K p - 4, 0)] ++ e2, ?_, by omega, g3, fun hh => by omega, by simp; omega, fun B h hB => ?_, fun hh => g9 hh, fun hh => by omega⟩
              · simp at g1 ⊢; rw [g1, e1']
              · have w1 := h8 B (h + 1) (by unfold ned at *; simp at *; omega)
                have w2 := g8 B h hB
                simp at w1 w2 ⊢
                have w3 : wfc B (h + 1) (h + 1 + 1) [(K p - 4, 0)] := by
                  have := wfc_op (B := B) (n := h + 1 + 1) (k := K p - 4) (by omega) (by omega)
                  simpa using this
                have := wfc_app _ _ _ _ w1 (wfc_app _ _ _ _ w3 w2)
                simpa using this
        · rw [if_neg h4]; exact rdF_bad (Or.inr rfl) hp
      · rw [if_neg ko]
        exact ⟨[], by simp, Nat.le_refl _, hp, fun hh => by omega, by simp, fun B h hB => by simp [wfc], fun _ => ko, fun hh => by omega⟩
    · rw [rd_2]
      have hi := ih 0 n p [] (by omega) hp hn (by unfold mz at *; simp at *; omega)
      generalize rd K V f 0 n p [] = r at hi ⊢
      cases r with
      | inl e => exact hi
      | inr x =>
        obtain ⟨e1, h1, h2, h3, h5, h7, h8, h9, h10⟩ := hi
        simp only [bnd]
        have h5' := h5 (Or.inl rfl)
        have hi2 := ih 1 n x.1 x.2 (by omega) h3 hn (by unfold mz at *; simp at *; omega)
        generalize rd K V f 1 n x.1 x.2 = r at hi2 ⊢
        cases r with
        | inl e => exact hi2
        | inr y =>
          obtain ⟨e2, g1, g2, g3, g5, g7, g8, g9, g10⟩ := hi2
          have e1' : x.2 = e1 := by simpa using h1
          refine ⟨e1 ++ e2, ?_, by omega, g3, fun hh => by omega, by simp; omega, fun B h hB => ?_, fun _ => g9 (Or.inl rfl), fun hh => by omega⟩
          · simp at g1 ⊢; rw [g1, e1']
          · have w1 := h8 B h (by unfold ned at *; simp at *; omega)
            have w2 := g8 B h (by unfold ned at *; simp at *; omega)
            simp at w1 w2 ⊢
            exact wfc_app _ _ _ _ w1 w2
    · rw [rd_3]
      by_cases ko : K p = 6 ∨ K p = 7
      · rw [if_pos ko]
        by_cases h4 : p < 400
        · rw [if_pos h4]
          have hpz := hZ.2 p h4 hp (by omega)
          have hi := ih 2 n (p + 1) [] (by omega) hpz hn (by unfold mz at *; simp at *; omega)
          generalize rd K V f 2 n (p + 1) [] = r at hi ⊢
          cases r with
          | inl e => exact hi
          | inr x =>
            obtain ⟨e1, h1, h2, h3, h5, h7, h8, h9, h10⟩ := hi
            simp only [bnd]
            have hi2 := ih 3 n x.1 (c ++ x.2 ++ [(K p - 4, 0)]) (by omega) h3 hn (by unfold mz at *; simp at *; omega)
            generalize rd K V f 3 n x.1 (c ++ x.2 ++ [(K p - 4, 0)]) = r at hi2 ⊢
            cases r with
            | inl e => exact hi2
            | inr y =>
              obtain ⟨e2, g1, g2, g3, g5, g7, g8, g9, g10⟩ := hi2
              have e1' : x.2 = e1 := by simpa using h1
              refine ⟨e1 ++ [(K p - 4, 0)] ++ e2, ?_, by omega, g3, fun hh => by omega, by simp; omega, fun B h hB => ?_, fun hh => by omega, fun _ _ => g10 (Or.inl rfl) (fun _ => h9 (Or.inr rfl))⟩
              · simp at g1 ⊢; rw [g1, e1']
              · have w1 := h8 B (h + 1) (by unfold ned at *; simp at *; omega)
                have w2 := g8 B h hB
                simp at w1 w2 ⊢
                have w3 : wfc B (h + 1) (h + 1 + 1) [(K p - 4, 0)] := by
                  have := wfc_op (B := B) (n := h + 1 + 1) (k := K p - 4) (by omega) (by omega)
                  simpa using this
                have := wfc_app _ _ _ _ w1 (wfc_app _ _ _ _ w3 w2)
                simpa using this
        · rw [if_neg h4]; exact rdF_bad (Or.inr rfl) hp
      · rw [if_neg ko]
        exact ⟨[], by simp, Nat.le_refl _, hp, fun hh => by omega, by simp, fun B h hB => by simp [wfc], fun hh => by omega, fun _ hh => by have := hh rfl; simp only at this ⊢; omega⟩
    · rw [rd_4]
      have hi := ih 2 n p [] (by omega) hp hn (by unfold mz at *; simp at *; omega)
      generalize rd K V f 2 n p [] = r at hi ⊢
      cases r with
      | inl e => exact hi
      | inr x =>
        obtain ⟨e1, h1, h2, h3, h5, h7, h8, h9, h10⟩ := hi
        simp only [bnd]
        have h5' := h5 (Or.inr (Or.inl rfl))
        have hi2 := ih 3 n x.1 x.2 (by omega) h3 hn (by unfold mz at *; simp at *; omega)
        generalize rd K V f 3 n x.1 x.2 = r at hi2 ⊢
        cases r with
        | inl e => exact hi2
        | inr y =>
          obtain ⟨e2, g1, g2, g3, g5, g7, g8, g9, g10⟩ := hi2
          have e1' : x.2 = e1 := by simpa using h1
          refine ⟨e1 ++ e2, ?_, by omega, g3, fun hh => by omega, by simp; omega, fun B h hB => ?_, fun hh => by omega, fun _ _ => g10 (Or.inl rfl) (fun _ => h9 (Or.inr rfl))⟩
          · simp at g1 ⊢; rw [g1, e1']
          · have w1 := h8 B h (by unfold ned at *; simp at *; omega)
            have w2 := g8 B h (by unfold ned at *; simp at *; omega)
            simp at w1 w2 ⊢
            exact wfc_app _ _ _ _ w1 w2
/-! what waits on the reference's row; by numbers of the class -/
def outO (s : Bool) : List Nat → zC → List Nat × zC
  | [], c => ([], c)
  | x :: w, c => if x = 14 ∨ (s = true ∧ (x = 6 ∨ x = 7)) then (x :: w, c) else outO s w (c ++ [(x - 4, 0)])
def opnO : List Nat → Nat
  | [] => 0
  | x :: w => opnO w + (if x = 14 then 1 else 0)
def sy (K : Nat → Nat) (V : Nat → Int) : Nat → Bool → Nat → List Nat → zC → pR zC
  | 0, _, _, _, _ => .inl (0, 0)
  | g + 1, ph, p, w, c =>
    if ph = true then (if K p = 14 then (if 6 ≤ opnO w then .inl (2, p) else if p < 400 then sy K V g true (p + 1) (14 :: w) c else .inl (2, p))
      else if K p = 2 then (if p < 400 then sy K V g false (p + 1) w (c ++ [(0, V p)]) else .inl (2, p))
      else if 36 ≤ K p ∧ K p ≤ 48 then (if p < 400 then sy K V g false (p + 1) w (c ++ [(1, ((K p - 36 : Nat) : Int))]) else .inl (2, p)) else .inl (1, p))
    else if K p = 15 ∧ 0 < opnO w then (if p < 400 then sy K V g false (p + 1) ((outO false w c).1.drop 1) (outO false w c).2 else .inl (2, p))
    else if 6 ≤ K p ∧ K p ≤ 9 then (if p < 400 then sy K V g true (p + 1) (K p :: (outO (decide (8 ≤ K p)) w c).1) (outO (decide (8 ≤ K p)) w c).2 else .inl (2, p))
    else if 0 < opnO w then .inl (1, p) else .inr (p, (outO false w c).2)
theorem sy_A {g p : Nat} {w : List Nat} {c : zC} : sy K V (g + 1) true p w c = if K p = 14 then (if 6 ≤ opnO w then .inl (2, p) else if p < 400 then sy K V g true (p + 1) (14 :: w) c else .inl (2, p))
      else if K p = 2 then (if p < 400 then sy K V g false (p + 1) w (c ++ [(0, V p)]) else .inl (2, p))
      else if 36 ≤ K p ∧ K p ≤ 48 then (if p < 400 then sy K V g false (p + 1) w (c ++ [(1, ((K p - 36 : Nat) : Int))]) else .inl (2, p)) else .inl (1, p) := rfl
theorem sy_B {g p : Nat} {w : List Nat} {c : zC} : sy K V (g + 1) false p w c = if K p = 15 ∧ 0 < opnO w then (if p < 400 then sy K V g false (p + 1) ((outO false w c).1.drop 1) (outO false w c).2 else .inl (2, p))
    else if 6 ≤ K p ∧ K p ≤ 9 then (if p < 400 then sy K V g true (p + 1) (K p :: (outO (decide (8 ≤ K p)) w c).1) (outO (decide (8 ≤ K p)) w c).2 else .inl (2, p))
    else if 0 < opnO w then .inl (1, p) else .inr (p, (outO false w c).2) := rfl
/-- a strong one on top comes out at once -/
theorem sy_st {g p x : Nat} {w : List Nat} {c : zC} (hx : x = 8 ∨ x = 9) : sy K V (g + 1) false p (x :: w) c = sy K V (g + 1) false p w (c ++ [(x - 4, 0)]) := by
  have ho : opnO (x :: w) = opnO w := by
    have : ¬ x = 14 := by omega
    simp [opnO, this]
  have e : ∀ s, outO s (x :: w) c = outO s w (c ++ [(x - 4, 0)]) := fun s => by
    have : ¬ (x = 14 ∨ (s = true ∧ (x = 6 ∨ x = 7))) := by omega
    unfold outO; rw [if_neg this]; cases w <;> rfl
  rw [sy_B, sy_B, ho, e, e]
/-- a weak one where no strong one comes -/
theorem sy_we {g p x : Nat} {w : List Nat} {c : zC} (hx : x = 6 ∨ x = 7) (hk : ¬ (K p = 8 ∨ K p = 9)) : sy K V (g + 1) false p (x :: w) c = sy K V (g + 1) false p w (c ++ [(x - 4, 0)]) := by
  have ho : opnO (x :: w) = opnO w := by
    have : ¬ x = 14 := by omega
    simp [opnO, this]
  have e : outO false (x :: w) c = outO false w (c ++ [(x - 4, 0)]) := by
    have : ¬ (x = 14 ∨ (false = true ∧ (x = 6 ∨ x = 7))) := by simp; omega
    conv => lhs; unfold outO
    rw [if_neg this]
  rw [sy_B, sy_B, ho, e]
  by_cases k1 : K p = 15 ∧ 0 < opnO w
  · rw [if_pos k1, if_pos k1]
  · rw [if_neg k1, if_neg k1]
    by_cases k2 : 6 ≤ K p ∧ K p ≤ 9
    · have : (decide (8 ≤ K p)) = false := by simp; omega
      rw [this, e]
    · rw [if_neg k2, if_neg k2]
def topO (w : List Nat) (b : Bool) : Prop := match w with
  | [] => True
  | x :: _ => x = 14 ∨ (b = true ∧ (x = 6 ∨ x = 7))
theorem out_top {s : Bool} {w : List Nat} {c : zC} (h : topO w s) : outO s w c = (w, c) := by
  cases w with
  | nil => rfl
  | cons x w =>
    have h' : x = 14 ∨ (s = true ∧ (x = 6 ∨ x = 7)) := h
    unfold outO; rw [if_pos h']
/-- the reference's way of an E is the class's -/
theorem rs {f : Nat} (hZ : okZ K Z) (hV : ∀ j, K j = 2 → 0 ≤ V j ∧ V j ≤ 9999) : ∀ m n p c w c0, m ≤ 4 → p ≤ Z → n ≤ 6 → mz m p ≤ f → opnO w = n → (m = 1 ∨ m = 2 → topO w true) → (m = 3 ∨ m = 4 → topO w false) → (m = 3 → ¬ (K p = 8 ∨ K p = 9)) →
    sy K V (401 - p) (decide (m = 0 ∨ m = 2 ∨ m = 4)) p w (c0 ++ if m = 1 ∨ m = 3 then c else []) = bnd (rd K V f m n p c) (fun q e => sy K V (401 - q) false q w (c0 ++ e)) := by
  have hZ4 := hZ.1
  induction f with
  | zero => intro m n p c w c0 _ _ _ hz; unfold mz at hz; omega
  | succ f ih =>
    intro m n p c w c0 hm hp hn hz ho ht1 ht2 h3
    have hmm : m = 0 ∨ m = 1 ∨ m = 2 ∨ m = 3 ∨ m = 4 := by omega
    have ef : 401 - p = (400 - p) + 1 := by omega
    rcases hmm with rfl | rfl | rfl | rfl | rfl
    · rw [rd_0]
      simp only [decide_true, true_or, ef]
      have n13 : ¬ (0 = 1 ∨ 0 = 3) := by omega
      rw [if_neg n13, List.append_nil, sy_A]
      by_cases k14 : K p = 14
      · have k2 : ¬ K p = 2 := by omega
        have kv : ¬ (36 ≤ K p ∧ K p ≤ 48) := by omega
        rw [if_pos k14, if_neg k2, if_neg kv, if_neg (show ¬ (K p ≠ 14) from fun hh => hh k14), ho]
        by_cases h6 : 6 ≤ n
        · rw [if_pos h6, if_pos h6]; rfl
        · rw [if_neg h6, if_neg h6]
          by_cases h4 : p < 400
          · rw [if_pos h4, if_pos h4]
            have hpz := hZ.2 p h4 hp (by omega)
            have hi := ih 4 (n + 1) (p + 1) [] (14 :: w) c0 (by omega) hpz (by omega) (by unfold mz at *; simp at *; omega) (by simp [opnO, ho]) (fun hh => by omega) (fun _ => Or.inl rfl) (fun hh => by omega)
            have hF := rd_fact hZ hV f 4 (n + 1) (p + 1) [] (by omega) hpz (by omega) (by unfold mz at *; simp at *; omega)
            simp at hi
            rw [hi]
            generalize rd K V f 4 (n + 1) (p + 1) [] = r at hF ⊢
            cases r with
            | inl e => rfl
            | inr x =>
              obtain ⟨e', h1, h2, h3, h5, h7, h8, h9, h10⟩ := hF
              have h11 := h10 (Or.inr rfl) (fun hh => by omega)
              simp only [bnd]
              have ex : 401 - x.1 = (400 - x.1) + 1 := by omega
              have o14 : outO false (14 :: w) (c0 ++ x.2) = (14 :: w, c0 ++ x.2) := out_top (Or.inl rfl)
              rw [ex, sy_B, o14]
              have op : 0 < opnO (14 :: w) := by simp [opnO]
              by_cases k15 : K x.1 = 15
              · rw [if_pos ⟨k15, op⟩, if_pos k15]
                by_cases hx : x.1 < 400
                · rw [if_pos hx, nx_lt hx]
                  simp only [List.drop_succ_cons, List.drop_zero]
                  rw [show 400 - x.1 = 401 - (x.1 + 1) by omega]
                · rw [if_neg hx, nx_ge hx]
              · rw [if_neg (fun hh => k15 hh.1), if_neg h11, if_pos op, if_neg k15]
          · rw [if_neg h4, if_neg h4]; rfl
      · rw [if_neg k14]
        have k14' : K p ≠ 14 := k14
        by_cases k2 : K p = 2
        · rw [if_pos k2, if_pos k2]
          by_cases h4 : p < 400
          · rw [if_pos h4, nx_lt h4, show 400 - p = 401 - (p + 1) by omega]; rfl
          · rw [if_neg h4, nx_ge h4]; rfl
        · rw [if_neg k2, if_neg k2]
          by_cases kv : 36 ≤ K p ∧ K p ≤ 48
          · rw [if_pos kv, if_pos kv]
            by_cases h4 : p < 400
            · rw [if_pos h4, nx_lt h4, show 400 - p = 401 - (p + 1) by omega]; rfl
            · rw [if_neg h4, nx_ge h4]; rfl
          · rw [if_neg kv, if_neg kv, if_pos k14']; rfl
    · rw [rd_1]
      have n13 : (1 = 1 ∨ 1 = 3) := by omega
      have n024 : ¬ (1 = 0 ∨ 1 = 2 ∨ 1 = 4) := by omega
      rw [if_pos n13, decide_eq_false n024]
      by_cases ko : K p = 8 ∨ K p = 9
      · rw [if_pos ko, ef, sy_B, if_neg (by omega), if_pos (by omega)]
        have d8 : decide (8 ≤ K p) = true := by simp; omega
        rw [d8, out_top (ht1 (Or.inl rfl))]
        by_cases h4 : p < 400
        · rw [if_pos h4, if_pos h4]
          have hpz := hZ.2 p h4 hp (by omega)
          have k14 : ¬ K p = 14 := by omega
          have hi := ih 0 n (p + 1) [] (K p :: w) (c0 ++ c) (by omega) hpz hn (by unfold mz at *; simp at *; omega) (by simp [opnO, ho, k14]) (fun hh => by omega) (fun hh => by omega) (fun hh => by omega)
          have hF := rd_fact hZ hV f 0 n (p + 1) [] (by omega) hpz hn (by unfold mz at *; simp at *; omega)
          simp at hi
          simp only
          rw [hi]
          generalize rd K V f 0 n (p + 1) [] = r at hF ⊢
          cases r with
          | inl e => rfl
          | inr x =>
            obtain ⟨e1, h1, h2, h3, h5, h7, h8, h9, h10⟩ := hF
            simp only [bnd]
            have hi2 := ih 1 n x.1 (c ++ x.2 ++ [(K p - 4, 0)]) w c0 (by omega) h3 hn (by unfold mz at *; simp at *; omega) ho (fun _ => ht1 (Or.inl rfl)) (fun hh => by omega) (fun hh => by omega)
            rw [if_pos n13, decide_eq_false n024] at hi2
            simp only [bnd] at hi2
            have ex : 401 - x.1 = (400 - x.1) + 1 := by omega
            rw [← hi2, ex, sy_st ko]
            simp
        · rw [if_neg h4, if_neg h4]; rfl
      · rw [if_neg ko]; rfl
    · rw [rd_2]
      have hi := ih 0 n p [] w c0 (by omega) hp hn (by unfold mz at *; simp at *; omega) ho (fun hh => by omega) (fun hh => by omega) (fun hh => by omega)
      have hF := rd_fact hZ hV f 0 n p [] (by omega) hp hn (by unfold mz at *; simp at *; omega)
      simp at hi ⊢
      rw [hi]
      generalize rd K V f 0 n p [] = r at hF ⊢
      cases r with
      | inl e => rfl
      | inr x =>
        obtain ⟨e1, h1, h2, h3, h5, h7, h8, h9, h10⟩ := hF
        have h5' := h5 (Or.inl rfl)
        simp only [bnd]
        have hi2 := ih 1 n x.1 x.2 w c0 (by omega) h3 hn (by unfold mz at *; simp at *; omega) ho (fun _ => ht1 (Or.inr rfl)) (fun hh => by omega) (fun hh => by omega)
        simpa [bnd] using hi2
    · rw [rd_3]
      have n13 : (3 = 1 ∨ 3 = 3) := by omega
      have n024 : ¬ (3 = 0 ∨ 3 = 2 ∨ 3 = 4) := by omega
      rw [if_pos n13, decide_eq_false n024]
      by_cases ko : K p = 6 ∨ K p = 7
      · rw [if_pos ko, ef, sy_B, if_neg (by omega), if_pos (by omega)]
        have d8 : decide (8 ≤ K p) = false := by simp; omega
        rw [d8, out_top (ht2 (Or.inl rfl))]
        by_cases h4 : p < 400
        · rw [if_pos h4, if_pos h4]
          have hpz := hZ.2 p h4 hp (by omega)
          have k14 : ¬ K p = 14 := by omega
          have hi := ih 2 n (p + 1) [] (K p :: w) (c0 ++ c) (by omega) hpz hn (by unfold mz at *; simp at *; omega) (by simp [opnO, ho, k14]) (fun _ => Or.inr ⟨rfl, ko⟩) (fun hh => by omega) (fun hh => by omega)
          have hF := rd_fact hZ hV f 2 n (p + 1) [] (by omega) hpz hn (by unfold mz at *; simp at *; omega)
          simp at hi
          simp only
          rw [hi]
          generalize rd K V f 2 n (p + 1) [] = r at hF ⊢
          cases r with
          | inl e => rfl
          | inr x =>
            obtain ⟨e1, h1, h2, h3, h5, h7, h8, h9, h10⟩ := hF
            simp only [bnd]
            have hi2 := ih 3 n x.1 (c ++ x.2 ++ [(K p - 4, 0)]) w c0 (by omega) h3 hn (by unfold mz at *; simp at *; omega) ho (fun hh => by omega) (fun _ => ht2 (Or.inl rfl)) (fun _ => h9 (Or.inr rfl))
            rw [if_pos n13, decide_eq_false n024] at hi2
            simp only [bnd] at hi2
            have ex : 401 - x.1 = (400 - x.1) + 1 := by omega
            rw [← hi2, ex, sy_we ko (h9 (Or.inr rfl))]
            simp
        · rw [if_neg h4, if_neg h4]; rfl
      · rw [if_neg ko]; rfl
    · rw [rd_4]
      have hi := ih 2 n p [] w c0 (by omega) hp hn (by unfold mz at *; simp at *; omega) ho (fun _ => by
        have := ht2 (Or.inr rfl)
        cases w with
        | nil => trivial
        | cons x w => simp [topO] at this ⊢; exact Or.inl this) (fun hh => by omega) (fun hh => by omega)
      have hF := rd_fact hZ hV f 2 n p [] (by omega) hp hn (by unfold mz at *; simp at *; omega)
      simp at hi ⊢
      rw [hi]
      generalize rd K V f 2 n p [] = r at hF ⊢
      cases r with
      | inl e => rfl
      | inr x =>
        obtain ⟨e1, h1, h2, h3, h5, h7, h8, h9, h10⟩ := hF
        have h5' := h5 (Or.inr (Or.inl rfl))
        simp only [bnd]
        have hi2 := ih 3 n x.1 x.2 w c0 (by omega) h3 hn (by unfold mz at *; simp at *; omega) ho (fun hh => by omega) (fun _ => ht2 (Or.inr rfl)) (fun _ => h9 (Or.inr rfl))
        simpa [bnd] using hi2
/-- a whole E -/
def rdE (K : Nat → Nat) (V : Nat → Int) (p : Nat) : pR zC := rd K V 2000 4 0 p []
theorem mz_b {m p : Nat} (hm : m ≤ 4) : mz m p ≤ 2000 := by
  have : (if m = 2 then 2 else if m = 4 then 3 else 1) ≤ 3 := by
    by_cases h2 : m = 2
    · rw [if_pos h2]; decide
    · rw [if_neg h2]
      by_cases h4 : m = 4
      · rw [if_pos h4]; decide
      · rw [if_neg h4]; decide
  unfold mz; omega
theorem sy_E (hZ : okZ K Z) (hV : ∀ j, K j = 2 → 0 ≤ V j ∧ V j ≤ 9999) {p : Nat} (hp : p ≤ Z) : sy K V (401 - p) true p [] [] = rdE K V p := by
  have hZ4 := hZ.1
  have h := rs (f := 2000) hZ hV 4 0 p [] [] [] (by omega) hp (by omega) (mz_b (by omega)) rfl (fun hh => by omega) (fun _ => trivial) (fun hh => by omega)
  have hF := rd_fact hZ hV 2000 4 0 p [] (by omega) hp (by omega) (mz_b (by omega))
  simp at h
  rw [h]
  unfold rdE
  generalize rd K V 2000 4 0 p [] = r at hF ⊢
  cases r with
  | inl e => rfl
  | inr x =>
    obtain ⟨e1, h1, h2, h3, h5, h7, h8, h9, h10⟩ := hF
    have h11 := h10 (Or.inr rfl) (fun hh => by omega)
    simp only [bnd]
    rw [show 401 - x.1 = (400 - x.1) + 1 by omega, sy_B, if_neg (by simp [opnO]), if_neg h11, if_neg (by simp [opnO])]
    rfl
end PG
