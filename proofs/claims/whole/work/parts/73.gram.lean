/-! THE GRAMMAR'S rest, pure: nots, LITS, CONDS, TELLS -/
def ntG (K : Nat → Nat) : Nat → Nat → Bool → pR Bool
  | 0, _, _ => .inl (0, 0)
  | g + 1, p, b => if K p = 35 then (if p < 400 then ntG K g (p + 1) (!b) else .inl (2, p)) else .inr (p, b)
abbrev zLt : Type := Bool × Nat × zC × zC
/-- behind the nots -/
def ltE (K : Nat → Nat) (V : Nat → Int) (p : Nat) (b : Bool) : pR zLt := bnd (rdE K V p) (fun q c1 => if 10 ≤ K q ∧ K q ≤ 13 then (if q < 400 then bnd (rdE K V (q + 1)) (fun q2 c2 => .inr (q2, (b, K q - 10, c1, c2))) else .inl (2, q)) else .inl (1, q))
def ltG (K : Nat → Nat) (V : Nat → Int) (p : Nat) : pR zLt := bnd (ntG K (401 - p) p false) (fun q b => ltE K V q b)
def cdG (K : Nat → Nat) (V : Nat → Int) : Nat → Nat → Bool → List zL → pR (List zL)
  | 0, _, _, _ => .inl (0, 0)
  | g + 1, p, o, l => bnd (ltG K V p) (fun q x => if K q = 34 then (if q < 400 then cdG K V g (q + 1) false (l ++ [(o, x)]) else .inl (2, q)) else if K q = 33 then (if q < 400 then cdG K V g (q + 1) true (l ++ [(o, x)]) else .inl (2, q)) else .inr (q, l ++ [(o, x)]))
/-- what is told so far: numbers, DOORS (their NAMES' token, side, SIZE, open), laws, RULES, the first of the later FAULTS (kind, token) -/
abbrev zP : Type := (Nat → Int) × List (Nat × Int × Int × Int) × (Nat → Option zC) × (Nat → List (List zL)) × Option (Nat × Nat)
def pN (π : zP) : Nat → Int := π.1
def pD (π : zP) : List (Nat × Int × Int × Int) := π.2.1
def pL (π : zP) : Nat → Option zC := π.2.2.1
def pU (π : zP) : Nat → List (List zL) := π.2.2.2.1
def pF (π : zP) : Option (Nat × Nat) := π.2.2.2.2
def ltO (F : Option (Nat × Nat)) (k p : Nat) : Option (Nat × Nat) := match F with
  | none => some (k, p)
  | some x => some x
def numG (K : Nat → Nat) (V : Nat → Int) (lo hi : Int) (p : Nat) (F : Option (Nat × Nat)) : pR (Int × Option (Nat × Nat)) := if K p = 2 then nx p (V p, if V p < lo ∨ hi < V p then ltO F 5 p else F) else .inl (1, p)
def expG {α : Type} (K : Nat → Nat) (k p : Nat) (x : α) : pR α := if K p = k then nx p x else .inl (1, p)
def upN (π : zP) (k : Nat) (a : Int × Option (Nat × Nat)) : zP := (zup (pN π) k a.1, pD π, pL π, pU π, a.2)
def upF (π : zP) (F : Option (Nat × Nat)) : zP := (pN π, pD π, pL π, pU π, F)
def upD (π : zP) (d : Nat × Int × Int × Int) : zP := (pN π, pD π ++ [d], pL π, pU π, pF π)
def upL (π : zP) (k : Nat) (c : zC) : zP := (pN π, pD π, zup (pL π) k (some c), pU π, pF π)
def upU (π : zP) (k : Nat) (ls : List zL) : zP := (pN π, pD π, pL π, zup (pU π) k (pU π k ++ [ls]), pF π)
def twO (W : Nat → Int) (π : zP) (q : Nat) : Bool := (pD π).any (fun d => decide (W d.1 = W q))
def roofG (K : Nat → Nat) (V : Nat → Int) (p : Nat) (π : zP) : pR zP := bnd (nx p ()) (fun q _ => bnd (numG K V 2 6 q (pF π)) (fun q a => bnd (numG K V 2 6 q a.2) (fun q b => bnd (numG K V 0 3 q b.2) (fun q c => expG K 4 q (upN (upN (upN π 0 a) 1 b) 2 c)))))
def numbG (K : Nat → Nat) (V : Nat → Int) (p : Nat) (π : zP) : pR zP := bnd (nx p ()) (fun q _ => bnd (numG K V 0 99 q (pF π)) (fun q a => expG K 4 q (upN π (K p - 14) a)))
def ruleG (K : Nat → Nat) (V : Nat → Int) (p : Nat) (π : zP) : pR zP := if 6 ≤ (pU π (K p - 23)).length then .inl (2, p) else bnd (nx p ()) (fun q _ => bnd (expG K 32 q ()) (fun q _ => bnd (cdG K V (401 - q) q true []) (fun q ls => expG K 4 q (upU π (K p - 23) ls))))
def lawG (K : Nat → Nat) (V : Nat → Int) (p : Nat) (π : zP) : pR zP := bnd (nx p ()) (fun q _ => bnd (expG K 5 q ()) (fun q _ => bnd (rdE K V q) (fun q c => expG K 4 q (upL π (K p - 26) c))))
def doorG (K : Nat → Nat) (V W : Nat → Int) (p : Nat) (π : zP) : pR zP := if 6 ≤ (pD π).length then .inl (2, p) else bnd (nx p ()) (fun n _ => bnd (expG K 3 n ()) (fun q _ => bnd (numG K V 0 3 q (if twO W π n = true then ltO (pF π) 3 n else pF π)) (fun q a => bnd (numG K V 1 9 q a.2) (fun q b =>
  if K q = 31 then bnd (nx q ()) (fun q _ => expG K 4 q (upD (upF π b.2) (n, a.1, b.1, 1))) else expG K 4 q (upD (upF π b.2) (n, a.1, b.1, 0))))))
def tellG (K : Nat → Nat) (V W : Nat → Int) (p : Nat) (π : zP) : pR zP :=
  if K p = 16 then roofG K V p π else if 17 ≤ K p ∧ K p ≤ 22 then numbG K V p π else if 23 ≤ K p ∧ K p ≤ 25 then ruleG K V p π else if 26 ≤ K p ∧ K p ≤ 29 then lawG K V p π else if K p = 30 then doorG K V W p π else .inl (1, p)
def psG (K : Nat → Nat) (V W : Nat → Int) : Nat → Nat → zP → pR zP
  | 0, _, _ => .inl (0, 0)
  | g + 1, p, π => if K p = 0 then .inr (p, π) else bnd (tellG K V W p π) (fun q π' => psG K V W g q π')
def π0 : zP := (fun k => if k = 0 then 4 else if k = 1 then 4 else if k = 3 then 20 else if k = 4 then 5 else if k = 5 then 30 else if k = 6 then 25 else 0, [], fun _ => none, fun _ => [], none)
/-- the text that is told -/
def τP (π : zP) : zT := (pN π, (pD π).length, fun k => ((pD π).getD k (0, 0, 0, 0)).2.1, fun k => ((pD π).getD k (0, 0, 0, 0)).2.2.1, fun k => ((pD π).getD k (0, 0, 0, 0)).2.2.2, pL π, pU π)
section GF
variable {K : Nat → Nat} {V W : Nat → Int} {Z : Nat}
/-- what a step answers: a fault at a token that is there, or it goes on behind p -/
def okG {α : Type} (Z p : Nat) (P : Nat → α → Prop) (r : pR α) : Prop := match r with
  | .inl e => (e.1 = 1 ∨ e.1 = 2) ∧ e.2 ≤ Z
  | .inr x => p < x.1 ∧ x.1 ≤ Z ∧ P x.1 x.2
theorem okG_bnd {α β : Type} {p : Nat} {P : Nat → α → Prop} {P' : Nat → β → Prop} {r : pR α} {f : Nat → α → pR β} (h : okG Z p P r) (hf : ∀ q x, p < q → q ≤ Z → P q x → okG Z p P' (f q x)) : okG Z p P' (bnd r f) := by
  cases r with
  | inl e => exact h
  | inr x => exact hf x.1 x.2 h.1 h.2.1 h.2.2
theorem okG_mono {α : Type} {p q : Nat} {P P' : Nat → α → Prop} {r : pR α} (h : okG Z q P r) (hq : p ≤ q) (hP : ∀ q' x, q < q' → q' ≤ Z → P q' x → P' q' x) : okG Z p P' r := by
  cases r with
  | inl e => exact h
  | inr x => exact ⟨Nat.lt_of_le_of_lt hq h.1, h.2.1, hP x.1 x.2 h.1 h.2.1 h.2.2⟩
theorem okG_bad {α : Type} {p k i : Nat} {P : Nat → α → Prop} (hk : k = 1 ∨ k = 2) (hi : i ≤ Z) : okG Z p P (.inl (k, i) : pR α) := ⟨hk, hi⟩
theorem okG_nx {α : Type} {p : Nat} {x : α} {P : Nat → α → Prop} (hZ : okZ K Z) (hp : p ≤ Z) (h2 : 2 ≤ K p) (hP : p + 1 ≤ Z → P (p + 1) x) : okG Z p P (nx p x) := by
  by_cases h : p < 400
  · rw [nx_lt h]
    have := hZ.2 p h hp h2
    exact ⟨by simp, this, hP this⟩
  · rw [nx_ge h]; exact okG_bad (Or.inr rfl) hp
theorem okG_exp {α : Type} {p k : Nat} {x : α} {P : Nat → α → Prop} (hZ : okZ K Z) (hp : p ≤ Z) (hk : 2 ≤ k) (hP : p + 1 ≤ Z → P (p + 1) x) : okG Z p P (expG K k p x) := by
  unfold expG
  by_cases h : K p = k
  · rw [if_pos h]; exact okG_nx hZ hp (by omega) hP
  · rw [if_neg h]; exact okG_bad (Or.inl rfl) hp
theorem okG_num {p : Nat} {lo hi : Int} {F : Option (Nat × Nat)} (hZ : okZ K Z) (hp : p ≤ Z) : okG Z p (fun _ a => a.1 = V p ∧ a.2 = if V p < lo ∨ hi < V p then ltO F 5 p else F) (numG K V lo hi p F) := by
  unfold numG
  by_cases h : K p = 2
  · rw [if_pos h]; exact okG_nx hZ hp (by omega) (fun _ => ⟨rfl, rfl⟩)
  · rw [if_neg h]; exact okG_bad (Or.inl rfl) hp
theorem okG_E {p : Nat} (hZ : okZ K Z) (hV : ∀ j, K j = 2 → 0 ≤ V j ∧ V j ≤ 9999) (hp : p ≤ Z) : okG Z p (fun q c => c.length + p ≤ q ∧ wfc 16 1 0 c) (rdE K V p) := by
  have hF := rd_fact hZ hV 2000 4 0 p [] (by omega) hp (by omega) (mz_b (by omega))
  unfold rdE
  generalize rd K V 2000 4 0 p [] = r at hF ⊢
  cases r with
  | inl e => exact hF
  | inr x =>
    obtain ⟨e1, h1, h2, h3, h5, h7, h8, h9, h10⟩ := hF
    have he : x.2 = e1 := by simpa using h1
    have h8' := h8 16 0 (by unfold ned; simp)
    exact ⟨h5 (Or.inr (Or.inr rfl)), h3, by rw [he]; exact h7, by rw [he]; simpa using h8'⟩
theorem okG_nt (hZ : okZ K Z) : ∀ g p b, p ≤ Z → 401 - p ≤ g → match ntG K g p b with
    | .inl e => e.1 = 2 ∧ e.2 ≤ Z
    | .inr x => p ≤ x.1 ∧ x.1 ≤ Z ∧ (x.2 ≠ b → p < x.1) := by
  have hZ4 := hZ.1
  intro g
  induction g with
  | zero => intro p b hp hg; omega
  | succ g ih =>
    intro p b hp hg
    unfold ntG
    by_cases h : K p = 35
    · rw [if_pos h]
      by_cases h4 : p < 400
      · rw [if_pos h4]
        have := ih (p + 1) (!b) (hZ.2 p h4 hp (by omega)) (by omega)
        generalize ntG K g (p + 1) (!b) = r at this ⊢
        cases r with
        | inl e => exact this
        | inr x => exact ⟨by have := this.1; omega, this.2.1, fun _ => by have := this.1; omega⟩
      · rw [if_neg h4]; exact ⟨rfl, hp⟩
    · rw [if_neg h]; exact ⟨Nat.le_refl _, hp, fun hh => absurd rfl hh⟩
theorem okG_ltE {p : Nat} {b : Bool} (hZ : okZ K Z) (hV : ∀ j, K j = 2 → 0 ≤ V j ∧ V j ≤ 9999) (hp : p ≤ Z) : okG Z p (fun q x => (enL (true, x)).length + p ≤ q + (if x.1 = true then 1 else 0) ∧ wfL (true, x) ∧ x.1 = b) (ltE K V p b) := by
  unfold ltE
  refine okG_bnd (okG_E hZ hV hp) (fun q c1 h1 h2 h3 => ?_)
  by_cases hk : 10 ≤ K q ∧ K q ≤ 13
  · rw [if_pos hk]
    by_cases h4 : q < 400
    · rw [if_pos h4]
      have hq1 := hZ.2 q h4 h2 (by omega)
      refine okG_bnd (okG_mono (okG_E hZ hV hq1) (by omega) (P' := fun q2 c => c.length + (q + 1) ≤ q2 ∧ wfc 16 1 0 c) (fun _ _ _ _ hh => hh)) (fun q2 c2 g1 g2 g3 => ?_)
      refine ⟨g1, g2, ?_, ⟨by simp; omega, h3.2, g3.2⟩, rfl⟩
      unfold enL
      have := h3.1
      have := g3.1
      cases b <;> simp [enC_len] <;> omega
    · rw [if_neg h4]; exact okG_bad (Or.inr rfl) h2
  · rw [if_neg hk]; exact okG_bad (Or.inl rfl) h2
theorem okG_lt {p : Nat} (hZ : okZ K Z) (hV : ∀ j, K j = 2 → 0 ≤ V j ∧ V j ≤ 9999) (hp : p ≤ Z) : okG Z p (fun q x => (enL (true, x)).length + p ≤ q ∧ wfL (true, x)) (ltG K V p) := by
  have h := okG_nt hZ (401 - p) p false hp (Nat.le_refl _)
  unfold ltG
  generalize ntG K (401 - p) p false = r at h ⊢
  cases r with
  | inl e => exact ⟨Or.inr h.1, h.2⟩
  | inr x =>
    obtain ⟨h1, h2, h3⟩ := h
    refine okG_mono (okG_ltE (b := x.2) hZ hV h2) h1 (fun q y g1 g2 g3 => ⟨?_, g3.2.1⟩)
    have h4 := g3.1
    rw [g3.2.2] at h4
    cases hb : x.2 with
    | true =>
      have h5 := h3 (by rw [hb]; decide)
      rw [hb, if_pos rfl] at h4
      omega
    | false =>
      rw [hb, if_neg (by decide)] at h4
      omega
theorem okG_cd (hZ : okZ K Z) (hV : ∀ j, K j = 2 → 0 ≤ V j ∧ V j ≤ 9999) : ∀ g p o l, p ≤ Z → 401 - p ≤ g → (∀ x ∈ l, wfL x) → (l ≠ [] → ∃ a r, l = a :: r ∧ a.1 = true) → (l = [] → o = true) → okG Z p (fun _ ls => wfR ls) (cdG K V g p o l) := by
  have hZ4 := hZ.1
  intro g
  induction g with
  | zero => intro p o l hp hg; omega
  | succ g ih =>
    intro p o l hp hg hw ho hl
    unfold cdG
    refine okG_bnd (okG_lt hZ hV hp) (fun q x h1 h2 h3 => ?_)
    have hw' : ∀ y ∈ l ++ [(o, x)], wfL y := fun y hy => by
      rw [List.mem_append] at hy
      rcases hy with hy | hy
      · exact hw y hy
      · have : y = (o, x) := by simpa using hy
        rw [this]; exact h3.2
    have hf : ∃ a r, l ++ [(o, x)] = a :: r ∧ a.1 = true := by
      cases l with
      | nil => exact ⟨(o, x), [], rfl, hl rfl⟩
      | cons a r =>
        refine ⟨a, r ++ [(o, x)], rfl, ?_⟩
        obtain ⟨a', r', e, h⟩ := ho (by simp)
        injection e with e1 e2; rw [e1]; exact h
    by_cases k1 : K q = 34
    · rw [if_pos k1]
      by_cases h4 : q < 400
      · rw [if_pos h4]
        exact okG_mono (ih (q + 1) false _ (hZ.2 q h4 h2 (by omega)) (by omega) hw' (fun _ => hf) (fun hh => by simp at hh)) (by omega) (fun _ _ _ _ hh => hh)
      · rw [if_neg h4]; exact okG_bad (Or.inr rfl) h2
    · rw [if_neg k1]
      by_cases k2 : K q = 33
      · rw [if_pos k2]
        by_cases h4 : q < 400
        · rw [if_pos h4]
          exact okG_mono (ih (q + 1) true _ (hZ.2 q h4 h2 (by omega)) (by omega) hw' (fun _ => hf) (fun hh => by simp at hh)) (by omega) (fun _ _ _ _ hh => hh)
        · rw [if_neg h4]; exact okG_bad (Or.inr rfl) h2
      · rw [if_neg k2]; exact ⟨h1, h2, hw', hf⟩
end GF
