/-! THE REFERENCE reads: steps from a good state -/
/-- no fault so far, at token q, the later FAULTS are F -/
def GD (K : Nat → Nat) (V W st : Nat → Int) (Z b q : Nat) (F : Option (Nat × Nat)) (μ0 μ : zM) : Prop := SF b μ0 μ ∧ (∀ j, j ≠ 11 → j ≠ 15 → j ≠ 16 → j ≠ 43 → j ≠ 47 → μ 138 j = μ0 138 j) ∧ TR K V W st Z μ ∧ μ 138 11 = (q : Nat) ∧ LR F st μ ∧ (∀ y, F = some y → (y.1 = 3 ∨ y.1 = 5) ∧ y.2 < q) ∧ q ≤ Z ∧ μ0 138 13 = 0
section GG
variable {θ : zS} {Q : Option zV → zS → zM → Prop} {μ μ0 : zM} {K : Nat → Nat} {V W st : Nat → Int} {Z b q : Nat} {F : Option (Nat × Nat)} {π : zP}
theorem GD.jf (h : GD K V W st Z b q F μ0 μ) : JF μ0 μ := fun j j1 _ _ _ j5 j6 _ _ j9 j10 => h.2.1 j j1 j5 j6 j9 j10
theorem GD.h13 (h : GD K V W st Z b q F μ0 μ) : μ 138 13 = 0 := by rw [h.2.1 13 (by decide) (by decide) (by decide) (by decide) (by decide)]; exact h.2.2.2.2.2.2.2
theorem GD.h19 (h : GD K V W st Z b q F μ0 μ) : μ 138 19 = μ0 138 19 := h.2.1 19 (by decide) (by decide) (by decide) (by decide) (by decide)
theorem GD.us1 {a k : Nat} {x : Int} (h : GD K V W st Z b q F μ0 μ) (ha : 147 ≤ a ∧ a ≤ 168) (hk : k / sdN a = b) : GD K V W st Z b q F μ0 (us μ a (zup (μ a) k x)) := by
  have n : 138 ≠ a := by omega
  obtain ⟨h1, h2, h3, h4, h5, h6⟩ := h
  refine ⟨h1.one ha hk, fun j j1 j2 j3 j4 j5 => by rw [us_ne n]; exact h2 j j1 j2 j3 j4 j5, TR_fr h3 (Fr.us (a := a) (A := [a]) (by simp) Fr.refl) (by simp; omega) (by simp; omega) (by simp; omega) (by simp; omega), by rw [us_ne n]; exact h4, ?_, h6⟩
  revert h5
  cases F with
  | none => intro h5; show us μ a _ 138 15 = 0; rw [us_ne n]; exact h5
  | some y => intro h5; exact ⟨by rw [us_ne n]; exact h5.1, by rw [us_ne n]; exact h5.2⟩
/-- on to token r -/
theorem GD.to {r : Nat} {μ' : zM} (h : GD K V W st Z b q F μ0 μ) (f : Fr [138] μ μ') (j : ∀ j, j ≠ 11 → μ' 138 j = μ 138 j) (h11 : μ' 138 11 = (r : Nat)) (hr : q ≤ r) (hz : r ≤ Z) : GD K V W st Z b r F μ0 μ' := by
  obtain ⟨h1, h2, h3, h4, h5, h6, h7, h8⟩ := h
  refine ⟨h1.fr f (by simp), fun i j1 j2 j3 j4 j5 => by rw [j i j1]; exact h2 i j1 j2 j3 j4 j5, TR_fr h3 f (by decide) (by decide) (by decide) (by decide), h11, ?_, fun y hy => ⟨(h6 y hy).1, by have := (h6 y hy).2; omega⟩, hz, h8⟩
  revert h5
  cases F with
  | none => intro h5; exact (j 15 (by decide)).trans h5
  | some y => intro h5; exact ⟨(j 15 (by decide)).trans h5.1, (j 16 (by decide)).trans h5.2⟩
theorem gGo {d : Nat} (hm : Tm θ) (hd : 1 ≤ d) (h : GD K V W st Z b q F μ0 μ) (hk : 2 ≤ K q)
    (hQ : match (nx q () : pR Unit) with
      | .inl e => ∀ μ', FT b st e μ0 μ' → Q none θ μ'
      | .inr x => q < x.1 → ∀ μ', GD K V W st Z b x.1 F μ0 μ' → Fr [138] μ μ' → (∀ j, j ≠ 11 → μ' 138 j = μ 138 j) → Q none θ μ') : Ex d 178 0 [vr 138] [] θ μ Q := by
  have hz := h.2.2.1.1.1
  have hq := h.2.2.2.2.2.2.1
  refine mGoes hm (by omega) h.2.2.1 hq h.2.2.2.1 h.h13 (fun h4 => ?_) (fun h4 μ1 f j g1 g2 => ?_)
  · rw [nx_lt h4] at hQ
    have f : Fr [138] μ (us μ 138 (zup (μ 138) 11 ((q + 1 : Nat) : Int))) := Fr.us (by simp) Fr.refl
    exact hQ (by simp) _ (h.to f (fun j hj => by rw [us_same, zup_ne hj]) (by rw [us_same, zup_same rfl]) (by omega) (h.2.2.1.1.2 q h4 hq hk)) f (fun j hj => by rw [us_same, zup_ne hj])
  · rw [nx_ge h4] at hQ
    exact hQ μ1 (FT_of h.1 h.jf (by omega) h.2.2.2.1 (e := (2, q)) (by simp) f j g1 g2)
theorem gMu {d k : Nat} {c : Int} (hm : Tm θ) (hd : 2 ≤ d) (h : GD K V W st Z b q F μ0 μ) (hk : k ≤ 48) (hk2 : 2 ≤ k) (hc : c = rkO k)
    (hQ : match (expG K k q () : pR Unit) with
      | .inl e => ∀ μ', FT b st e μ0 μ' → Q none θ μ'
      | .inr x => q < x.1 → ∀ μ', GD K V W st Z b x.1 F μ0 μ' → Fr [138] μ μ' → (∀ j, j ≠ 11 → μ' 138 j = μ 138 j) → Q none θ μ') : Ex d 179 0 [vr 138, vi c] [] θ μ Q := by
  have hz := h.2.2.1.1.1
  have hq := h.2.2.2.2.2.2.1
  refine mMust hm hd h.2.2.1 hq h.2.2.2.1 h.h13 hk hc ?_
  have hO := okG_exp (x := ()) (k := k) (P := fun _ _ => True) h.2.2.1.1 hq hk2 (fun _ => trivial)
  generalize (expG K k q () : pR Unit) = w at hQ hO ⊢
  cases w with
  | inl e =>
    intro μ1 f j g1 g0 g2
    exact hQ μ1 (FT_of h.1 h.jf (show q ≤ 400 by omega) h.2.2.2.1 g0 f j g1 g2)
  | inr x =>
    have f : Fr [138] μ (us μ 138 (zup (μ 138) 11 (x.1 : Nat))) := Fr.us (by simp) Fr.refl
    exact hQ hO.1 _ (h.to f (fun j hj => by rw [us_same, zup_ne hj]) (by rw [us_same, zup_same rfl]) (Nat.le_of_lt hO.1) hO.2.1) f (fun j hj => by rw [us_same, zup_ne hj])
theorem gBnd {d : Nat} {lo hi : Int} {x3 : zV} (hm : Tm θ) (hd : 2 ≤ d) (hst : ∀ i j, i < j → j ≤ Z → st i < st j) (h : GD K V W st Z b q F μ0 μ)
    (hQ : match numG K V lo hi q F with
      | .inl e => ∀ μ' v, FT b st e μ0 μ' → Q (some (vi v)) θ μ'
      | .inr x => q < x.1 → ∀ μ', GD K V W st Z b x.1 x.2.2 μ0 μ' → Fr [138] μ μ' → (∀ j, j ≠ 11 → j ≠ 15 → j ≠ 16 → μ' 138 j = μ 138 j) → Q (some (vi x.2.1)) θ μ') : Ex d 184 0 [vr 138, vi lo, vi hi, x3] [] θ μ Q := by
  have hz := h.2.2.1.1.1
  obtain ⟨h1, h2, h3, h4, h5, h6, hq, h8⟩ := id h
  refine mBounded hm hd h3 hq h4 h.h13 h5 (fun x hx => ⟨by have := (h6 x hx).1; omega, hst _ _ (h6 x hx).2 hq⟩) ?_
  have hO := okG_num (V := V) (lo := lo) (hi := hi) (F := F) h3.1 hq
  generalize numG K V lo hi q F = w at hQ hO ⊢
  cases w with
  | inl e =>
    intro μ1 v f j g1 g0 g2
    exact hQ μ1 v ⟨h1.fr f (by simp), h.jf.trans (fun i _ _ i3 i4 i5 i6 _ _ _ _ => j i i3 i4 i5 i6), g0, g1, g2, q, by omega, by rw [j 11 (by decide) (by decide) (by decide) (by decide)]; exact h4⟩
  | inr x =>
    intro μ1 f j g11 hL
    refine hQ hO.1 μ1 ⟨h1.fr f (by simp), fun i j1 j2 j3 j4 j5 => by rw [j i j1 j2 j3]; exact h2 i j1 j2 j3 j4 j5, TR_fr h3 f (by decide) (by decide) (by decide) (by decide), g11, hL, ?_, hO.2.1, h8⟩ f j
    exact lt_some hO.2.2.2 (Or.inr rfl) hO.1 (fun y hy => ⟨(h6 y hy).1, by have := (h6 y hy).2; have := hO.1; omega⟩)
/-- numbers told -/
theorem PT_nums {p cB lB : Nat} {n' : Nat → Int} {F' : Option (Nat × Nat)} {μ' : zM} (h : PTm W st b π p cB lB μ) (hpq : p ≤ q) (e : ∀ a, (151 ≤ a ∧ a ≤ 168) ∨ a = 146 → μ' a = μ a)
    (hA : TMA (τP (n', pD π, pL π, pU π, F')) b μ') (j : ∀ j, j ≠ 11 → j ≠ 15 → j ≠ 16 → μ' 138 j = μ 138 j) (hL : LR F' st μ') (h11 : μ' 138 11 = (q : Nat)) : PTm W st b (n', pD π, pL π, pU π, F') q cB lB μ' := by
  obtain ⟨⟨hM, hB⟩, ⟨g43, g36⟩, hbd, ⟨hn20, hnm⟩, _, h19, g11, g12, h13⟩ := h
  obtain ⟨_, hD, hLw, hR⟩ := TM_iff.mp hM
  refine ⟨⟨TM_iff.mpr ⟨hA, ?_, ?_, ?_⟩, ?_⟩, ⟨by rw [j 43 (by decide) (by decide) (by decide)]; exact g43, by rw [j 36 (by decide) (by decide) (by decide)]; exact g36⟩, ⟨⟨hbd.1.1, by omega⟩, hbd.2.1, by omega⟩, ⟨by rw [j 20 (by decide) (by decide) (by decide)]; exact hn20, fun i hi => by rw [e 146 (by omega)]; exact hnm i hi⟩, hL, by rw [j 19 (by decide) (by decide) (by decide)]; exact h19, h11, by rw [j 12 (by decide) (by decide) (by decide)]; exact g12, by rw [j 13 (by decide) (by decide) (by decide)]; exact h13⟩
  · unfold TMD; rw [e 157 (by omega), e 158 (by omega), e 159 (by omega), e 160 (by omega)]; exact hD
  · intro k hk
    exact laM_ag (lo := 420 * b) (hi := cB) (hLw k hk) (hB.2.1 k hk) (fun c c1 c2 => by rw [e c (by omega)]) (fun _ _ _ => by rw [e 167 (by omega), e 168 (by omega)]; exact ⟨rfl, rfl⟩)
  · intro k hk
    refine ⟨by rw [e 151 (by omega)]; exact (hR k hk).1, fun i hi => ?_⟩
    exact ruM_ag (lo := 420 * b) (hi := cB) (l0 := 150 * b) (l1 := lB) ((hR k hk).2 i hi) (hB.2.2.1 k i hk hi) hB.2.2.2 (by rw [e 152 (by omega), e 153 (by omega)]; exact ⟨rfl, rfl⟩) (fun c q c1 c2 _ _ => by rw [e c (by omega)]) (fun _ _ _ => by rw [e 167 (by omega), e 168 (by omega)]; exact ⟨rfl, rfl⟩)
  · unfold TQb; rw [e 152 (by omega), e 153 (by omega), e 155 (by omega), e 156 (by omega), e 164 (by omega), e 166 (by omega)]; exact hB
theorem expG_u {x : zP} {k : Nat} : (expG K k q x : pR zP) = match (expG K k q () : pR Unit) with
    | .inl e => .inl e
    | .inr y => .inr (y.1, x) := by
  unfold expG nx
  by_cases c1 : K q = k
  · rw [if_pos c1, if_pos c1]
    by_cases c2 : q < 400
    · rw [if_pos c2, if_pos c2]
    · rw [if_neg c2, if_neg c2]
  · rw [if_neg c1, if_neg c1]
theorem FT.h0 {e : Nat × Nat} (h : FT b st e μ0 μ) : 0 < μ 138 13 := by rw [h.2.2.2.1]; have := h.2.2.1; omega
theorem FT.h19 {e : Nat × Nat} (h : FT b st e μ0 μ) : μ 138 19 = μ0 138 19 := h.2.1 19 (by decide) (by decide) (by decide) (by decide) (by decide) (by decide) (by decide) (by decide) (by decide) (by decide)
theorem GD_0 {p cB lB : Nat} (hT : TR K V W st Z μ) (hp : p ≤ Z) (hw : wfP K p π) (h : PTm W st b π p cB lB μ) : GD K V W st Z b p (pF π) μ μ := ⟨SF.refl, fun _ _ _ _ _ _ => rfl, hT, h.2.2.2.2.2.2.1, h.2.2.2.2.1, fun y hy => hw.2.2.2.2 y hy, hp, h.2.2.2.2.2.2.2.2⟩
end GG
