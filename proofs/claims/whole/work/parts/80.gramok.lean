/-! THE GRAMMAR, pure: what is told is as a text may tell it -/
section GO
variable {K : Nat → Nat} {V W : Nat → Int} {Z : Nat} {π : zP}
def wfP (K : Nat → Nat) (p : Nat) (π : zP) : Prop :=
  (pF π = none → ((2 ≤ pN π 0 ∧ pN π 0 ≤ 6) ∧ (2 ≤ pN π 1 ∧ pN π 1 ≤ 6) ∧ (0 ≤ pN π 2 ∧ pN π 2 ≤ 3) ∧ ∀ k, 3 ≤ k → k < 9 → 0 ≤ pN π k ∧ pN π k ≤ 99) ∧ ∀ d ∈ pD π, (0 ≤ d.2.1 ∧ d.2.1 ≤ 3) ∧ 1 ≤ d.2.2.1 ∧ d.2.2.1 ≤ 9)
  ∧ ((pD π).length ≤ 6 ∧ ∀ d ∈ pD π, (d.1 < p ∧ K d.1 = 3) ∧ (d.2.2.2 = 0 ∨ d.2.2.2 = 1)) ∧ (∀ k c, pL π k = some c → wfc 16 1 0 c) ∧ (∀ k, (pU π k).length ≤ 6 ∧ ∀ ls ∈ pU π k, wfR ls) ∧ ∀ y, pF π = some y → (y.1 = 3 ∨ y.1 = 5) ∧ y.2 < p
theorem ltO_ne {F : Option (Nat × Nat)} {k p : Nat} : ltO F k p ≠ none := by cases F <;> simp [ltO]
theorem num_none {F F' : Option (Nat × Nat)} {v lo hi : Int} {p : Nat} (h : F' = if v < lo ∨ hi < v then ltO F 5 p else F) (hn : F' = none) : F = none ∧ lo ≤ v ∧ v ≤ hi := by
  by_cases c : v < lo ∨ hi < v
  · rw [if_pos c] at h; rw [h] at hn; exact absurd hn ltO_ne
  · rw [if_neg c] at h; exact ⟨by rw [← h]; exact hn, by omega, by omega⟩
theorem lt_some {F F' : Option (Nat × Nat)} {c : Prop} [Decidable c] {k p q : Nat} (h : F' = if c then ltO F k p else F) (hk : k = 3 ∨ k = 5) (hp : p < q) (hF : ∀ y, F = some y → (y.1 = 3 ∨ y.1 = 5) ∧ y.2 < q) : ∀ y, F' = some y → (y.1 = 3 ∨ y.1 = 5) ∧ y.2 < q := by
  intro y hy
  rw [h] at hy
  by_cases hc : c
  · rw [if_pos hc] at hy
    cases F with
    | none =>
      have : y = (k, p) := by simpa [ltO] using hy.symm
      rw [this]; exact ⟨hk, hp⟩
    | some z => exact hF y hy
  · rw [if_neg hc] at hy; exact hF y hy
theorem wf_roof (hZ : okZ K Z) {p : Nat} (hp : p ≤ Z) (hk : 2 ≤ K p) (h : wfP K p π) : okG Z p (fun q π' => wfP K q π') (roofG K V p π) := by
  obtain ⟨h1, h2, h3, h4, h5⟩ := h
  unfold roofG
  refine okG_bnd (okG_nx (P := fun _ _ => True) hZ hp hk (fun _ => trivial)) (fun q0 _ a1 a2 _ => ?_)
  refine okG_mono (okG_bnd (okG_num hZ a2) (fun q1 a b1 b2 b3 => ?_)) (Nat.le_of_lt a1) (fun _ _ _ _ hh => hh)
  refine okG_mono (okG_bnd (okG_num hZ b2) (fun q2 b c1 c2 c3 => ?_)) (Nat.le_of_lt b1) (fun _ _ _ _ hh => hh)
  refine okG_mono (okG_bnd (okG_num hZ c2) (fun q3 c d1 d2 d3 => ?_)) (Nat.le_of_lt c1) (fun _ _ _ _ hh => hh)
  refine okG_mono (okG_exp hZ d2 (by decide) (fun _ => ?_)) (Nat.le_of_lt d1) (fun _ _ _ _ hh => hh)
  have l5 : ∀ y, pF π = some y → (y.1 = 3 ∨ y.1 = 5) ∧ y.2 < q3 + 1 := fun y hy => ⟨(h5 y hy).1, by have := (h5 y hy).2; omega⟩
  refine ⟨fun hn => ?_, ⟨h2.1, fun d hd => ⟨⟨by have := ((h2.2 d hd).1).1; omega, ((h2.2 d hd).1).2⟩, (h2.2 d hd).2⟩⟩, h3, h4, lt_some d3.2 (Or.inr rfl) (by omega) (lt_some c3.2 (Or.inr rfl) (by omega) (lt_some b3.2 (Or.inr rfl) (by omega) l5))⟩
  have hn' : c.2 = none := hn
  obtain ⟨m1, m2⟩ := num_none d3.2 hn'
  obtain ⟨m3, m4⟩ := num_none c3.2 m1
  obtain ⟨m5, m6⟩ := num_none b3.2 m3
  obtain ⟨⟨o1, o2, o3, o4⟩, o5⟩ := h1 m5
  have e : ∀ k, pN (upN (upN (upN π 0 a) 1 b) 2 c) k = if k = 2 then c.1 else if k = 1 then b.1 else if k = 0 then a.1 else pN π k := fun k => rfl
  refine ⟨⟨?_, ?_, ?_, fun k k3 k9 => ?_⟩, o5⟩
  · rw [e 0]; simp; rw [b3.1]; exact m6
  · rw [e 1]; simp; rw [c3.1]; exact m4
  · rw [e 2]; simp; rw [d3.1]; exact m2
  · rw [e k, if_neg (by omega), if_neg (by omega), if_neg (by omega)]; exact o4 k k3 k9
theorem wf_numb (hZ : okZ K Z) {p : Nat} (hp : p ≤ Z) (hk : 17 ≤ K p ∧ K p ≤ 22) (h : wfP K p π) : okG Z p (fun q π' => wfP K q π') (numbG K V p π) := by
  obtain ⟨h1, h2, h3, h4, h5⟩ := h
  unfold numbG
  refine okG_bnd (okG_nx (P := fun _ _ => True) hZ hp (by omega) (fun _ => trivial)) (fun q0 _ a1 a2 _ => ?_)
  refine okG_mono (okG_bnd (okG_num hZ a2) (fun q1 a b1 b2 b3 => ?_)) (Nat.le_of_lt a1) (fun _ _ _ _ hh => hh)
  refine okG_mono (okG_exp hZ b2 (by decide) (fun _ => ?_)) (Nat.le_of_lt b1) (fun _ _ _ _ hh => hh)
  have l5 : ∀ y, pF π = some y → (y.1 = 3 ∨ y.1 = 5) ∧ y.2 < q1 + 1 := fun y hy => ⟨(h5 y hy).1, by have := (h5 y hy).2; omega⟩
  refine ⟨fun hn => ?_, ⟨h2.1, fun d hd => ⟨⟨by have := ((h2.2 d hd).1).1; omega, ((h2.2 d hd).1).2⟩, (h2.2 d hd).2⟩⟩, h3, h4, lt_some b3.2 (Or.inr rfl) (by omega) l5⟩
  have hn' : a.2 = none := hn
  obtain ⟨m5, m6⟩ := num_none b3.2 hn'
  obtain ⟨⟨o1, o2, o3, o4⟩, o5⟩ := h1 m5
  have e : ∀ k, pN (upN π (K p - 14) a) k = if k = K p - 14 then a.1 else pN π k := fun k => rfl
  refine ⟨⟨?_, ?_, ?_, fun k k3 k9 => ?_⟩, o5⟩
  · rw [e 0, if_neg (by omega)]; exact o1
  · rw [e 1, if_neg (by omega)]; exact o2
  · rw [e 2, if_neg (by omega)]; exact o3
  · rw [e k]
    by_cases q : k = K p - 14
    · rw [if_pos q, b3.1]; exact m6
    · rw [if_neg q]; exact o4 k k3 k9
theorem wf_mono {p q : Nat} (h : wfP K p π) (hq : p ≤ q) : wfP K q π := by
  obtain ⟨h1, h2, h3, h4, h5⟩ := h
  exact ⟨h1, ⟨h2.1, fun d hd => ⟨⟨by have := ((h2.2 d hd).1).1; omega, ((h2.2 d hd).1).2⟩, (h2.2 d hd).2⟩⟩, h3, h4, fun y hy => ⟨(h5 y hy).1, by have := (h5 y hy).2; omega⟩⟩
theorem wf_rule (hZ : okZ K Z) (hV : ∀ j, K j = 2 → 0 ≤ V j ∧ V j ≤ 9999) {p : Nat} (hp : p ≤ Z) (hk : 2 ≤ K p) (h : wfP K p π) : okG Z p (fun q π' => wfP K q π') (ruleG K V p π) := by
  unfold ruleG
  by_cases h6 : 6 ≤ (pU π (K p - 23)).length
  · rw [if_pos h6]; exact okG_bad (Or.inr rfl) hp
  · rw [if_neg h6]
    refine okG_bnd (okG_nx (P := fun _ _ => True) hZ hp hk (fun _ => trivial)) (fun q0 _ a1 a2 _ => ?_)
    refine okG_mono (okG_bnd (okG_exp (P := fun _ _ => True) hZ a2 (by decide) (fun _ => trivial)) (fun q1 _ b1 b2 _ => ?_)) (Nat.le_of_lt a1) (fun _ _ _ _ hh => hh)
    refine okG_mono (okG_bnd (okG_cd hZ hV (401 - q1) q1 true [] b2 (Nat.le_refl _) (fun x hx => by cases hx) (fun hh => absurd rfl hh) (fun _ => rfl)) (fun q2 ls c1 c2 c3 => ?_)) (Nat.le_of_lt b1) (fun _ _ _ _ hh => hh)
    refine okG_mono (okG_exp hZ c2 (by decide) (fun _ => ?_)) (Nat.le_of_lt c1) (fun _ _ _ _ hh => hh)
    obtain ⟨h1, h2, h3, h4, h5⟩ := wf_mono h (q := q2 + 1) (by omega)
    refine ⟨h1, h2, h3, fun k => ?_, h5⟩
    show (zup (pU π) (K p - 23) (pU π (K p - 23) ++ [ls]) k).length ≤ 6 ∧ _
    unfold pU upU zup
    simp only
    by_cases q : k = K p - 23
    · simp only [if_pos q]
      refine ⟨by have h6' : ¬ 6 ≤ (π.2.2.2.1 (K p - 23)).length := h6
                 simp; omega, fun l hl => ?_⟩
      rw [List.mem_append] at hl
      rcases hl with hl | hl
      · exact (h4 (K p - 23)).2 l hl
      · have : l = ls := by simpa using hl
        rw [this]; exact c3
    · simp only [if_neg q]; exact h4 k
theorem wf_law (hZ : okZ K Z) (hV : ∀ j, K j = 2 → 0 ≤ V j ∧ V j ≤ 9999) {p : Nat} (hp : p ≤ Z) (hk : 2 ≤ K p) (h : wfP K p π) : okG Z p (fun q π' => wfP K q π') (lawG K V p π) := by
  unfold lawG
  refine okG_bnd (okG_nx (P := fun _ _ => True) hZ hp hk (fun _ => trivial)) (fun q0 _ a1 a2 _ => ?_)
  refine okG_mono (okG_bnd (okG_exp (P := fun _ _ => True) hZ a2 (by decide) (fun _ => trivial)) (fun q1 _ b1 b2 _ => ?_)) (Nat.le_of_lt a1) (fun _ _ _ _ hh => hh)
  refine okG_mono (okG_bnd (okG_E hZ hV b2) (fun q2 c c1 c2 c3 => ?_)) (Nat.le_of_lt b1) (fun _ _ _ _ hh => hh)
  refine okG_mono (okG_exp hZ c2 (by decide) (fun _ => ?_)) (Nat.le_of_lt c1) (fun _ _ _ _ hh => hh)
  obtain ⟨h1, h2, h3, h4, h5⟩ := wf_mono h (q := q2 + 1) (by omega)
  refine ⟨h1, h2, fun k c' hc => ?_, h4, h5⟩
  have hc' : (if k = K p - 26 then some c else pL π k) = some c' := hc
  by_cases q : k = K p - 26
  · rw [if_pos q] at hc'
    injection hc' with e
    rw [← e]; exact c3.2
  · rw [if_neg q] at hc'; exact h3 k c' hc'
theorem wf_door (hZ : okZ K Z) {p : Nat} (hp : p ≤ Z) (hk : 2 ≤ K p) (h : wfP K p π) : okG Z p (fun q π' => wfP K q π') (doorG K V W p π) := by
  unfold doorG
  by_cases h6 : 6 ≤ (pD π).length
  · rw [if_pos h6]; exact okG_bad (Or.inr rfl) hp
  · rw [if_neg h6]
    refine okG_bnd (okG_nx (P := fun q _ => True) hZ hp hk (fun _ => trivial)) (fun n _ a1 a2 _ => ?_)
    refine okG_mono (okG_bnd (P := fun q _ => K n = 3) ?_ (fun q1 _ b1 b2 b3 => ?_)) (Nat.le_of_lt a1) (fun _ _ _ _ hh => hh)
    · unfold expG
      by_cases k3 : K n = 3
      · rw [if_pos k3]; exact okG_nx hZ a2 (by omega) (fun _ => k3)
      · rw [if_neg k3]; exact okG_bad (Or.inl rfl) a2
    refine okG_mono (okG_bnd (okG_num hZ b2) (fun q2 a c1 c2 c3 => ?_)) (Nat.le_of_lt b1) (fun _ _ _ _ hh => hh)
    refine okG_mono (okG_bnd (okG_num hZ c2) (fun q3 b d1 d2 d3 => ?_)) (Nat.le_of_lt c1) (fun _ _ _ _ hh => hh)
    have fin : ∀ q o, q3 ≤ q → (o = 0 ∨ o = 1) → wfP K (q + 1) (upD (upF π b.2) (n, a.1, b.1, o)) := fun q o hq ho => by
      obtain ⟨h1, h2, h3, h4, h5⟩ := wf_mono h (q := q + 1) (by omega)
      refine ⟨fun hn => ?_, ⟨?_, fun d hd => ?_⟩, h3, h4, lt_some d3.2 (Or.inr rfl) (by omega) (lt_some c3.2 (Or.inr rfl) (by omega) (lt_some rfl (Or.inl rfl) (by omega) h5))⟩
      · have hn' : b.2 = none := hn
        obtain ⟨m1, m2⟩ := num_none d3.2 hn'
        obtain ⟨m3, m4⟩ := num_none c3.2 m1
        have m5 : pF π = none := by
          by_cases t : twO W π n = true
          · rw [if_pos t] at m3; exact absurd m3 ltO_ne
          · rw [if_neg t] at m3; exact m3
        obtain ⟨o1, o2⟩ := h1 m5
        refine ⟨o1, fun d hd => ?_⟩
        have hd' : d ∈ pD π ++ [(n, a.1, b.1, o)] := hd
        rw [List.mem_append] at hd'
        rcases hd' with hd' | hd'
        · exact o2 d hd'
        · have : d = (n, a.1, b.1, o) := by simpa using hd'
          rw [this]; simp only; rw [c3.1, d3.1]; exact ⟨m4, m2⟩
      · show (pD π ++ [(n, a.1, b.1, o)]).length ≤ 6
        simp; omega
      · have hd' : d ∈ pD π ++ [(n, a.1, b.1, o)] := hd
        rw [List.mem_append] at hd'
        rcases hd' with hd' | hd'
        · exact h2.2 d hd'
        · have : d = (n, a.1, b.1, o) := by simpa using hd'
          rw [this]; exact ⟨⟨by simp only; omega, b3⟩, ho⟩
    by_cases k31 : K q3 = 31
    · rw [if_pos k31]
      refine okG_mono (okG_bnd (okG_nx (P := fun _ _ => True) hZ d2 (by omega) (fun _ => trivial)) (fun q4 _ e1 e2 _ => ?_)) (Nat.le_of_lt d1) (fun _ _ _ _ hh => hh)
      exact okG_mono (okG_exp hZ e2 (by decide) (fun _ => fin q4 1 (by omega) (Or.inr rfl))) (Nat.le_of_lt e1) (fun _ _ _ _ hh => hh)
    · rw [if_neg k31]
      exact okG_mono (okG_exp hZ d2 (by decide) (fun _ => fin q3 0 (by omega) (Or.inl rfl))) (Nat.le_of_lt d1) (fun _ _ _ _ hh => hh)
theorem wf_tell (hZ : okZ K Z) (hV : ∀ j, K j = 2 → 0 ≤ V j ∧ V j ≤ 9999) {p : Nat} (hp : p ≤ Z) (h : wfP K p π) : okG Z p (fun q π' => wfP K q π') (tellG K V W p π) := by
  unfold tellG
  by_cases k1 : K p = 16
  · rw [if_pos k1]; exact wf_roof hZ hp (by omega) h
  · rw [if_neg k1]
    by_cases k2 : 17 ≤ K p ∧ K p ≤ 22
    · rw [if_pos k2]; exact wf_numb hZ hp k2 h
    · rw [if_neg k2]
      by_cases k3 : 23 ≤ K p ∧ K p ≤ 25
      · rw [if_pos k3]; exact wf_rule hZ hV hp (by omega) h
      · rw [if_neg k3]
        by_cases k4 : 26 ≤ K p ∧ K p ≤ 29
        · rw [if_pos k4]; exact wf_law hZ hV hp (by omega) h
        · rw [if_neg k4]
          by_cases k5 : K p = 30
          · rw [if_pos k5]; exact wf_door hZ hp (by omega) h
          · rw [if_neg k5]; exact okG_bad (Or.inl rfl) hp
theorem wf_ps (hZ : okZ K Z) (hV : ∀ j, K j = 2 → 0 ≤ V j ∧ V j ≤ 9999) : ∀ g p π, p ≤ Z → 401 - p ≤ g → wfP K p π → match psG K V W g p π with
    | .inl e => (e.1 = 1 ∨ e.1 = 2) ∧ e.2 ≤ Z
    | .inr x => p ≤ x.1 ∧ x.1 ≤ Z ∧ wfP K x.1 x.2 := by
  have hz := hZ.1
  intro g
  induction g with
  | zero => intro p π hp hg; omega
  | succ g ih =>
    intro p π hp hg h
    unfold psG
    by_cases k0 : K p = 0
    · rw [if_pos k0]; exact ⟨Nat.le_refl _, hp, h⟩
    · rw [if_neg k0]
      have ht := wf_tell (W := W) hZ hV hp h
      generalize tellG K V W p π = r at ht ⊢
      cases r with
      | inl e => exact ht
      | inr x =>
        obtain ⟨t1, t2, t3⟩ := ht
        have := ih x.1 x.2 t2 (by omega) t3
        simp only [bnd]
        generalize psG K V W g x.1 x.2 = r at this ⊢
        cases r with
        | inl e => exact this
        | inr y => exact ⟨by have := this.1; omega, this.2⟩
theorem wf_0 : wfP K 0 π0 := by
  refine ⟨fun _ => ⟨⟨by decide, by decide, by decide, fun k k3 k9 => ?_⟩, fun d hd => (by cases hd)⟩, ⟨by decide, fun d hd => (by cases hd)⟩, fun k c hc => (by cases hc), fun k => ⟨Nat.zero_le _, fun l hl => (by cases hl)⟩, fun y hy => (by cases hy)⟩
  obtain h | h | h | h | h | h : k = 3 ∨ k = 4 ∨ k = 5 ∨ k = 6 ∨ k = 7 ∨ k = 8 := by omega
  all_goals subst h; decide
theorem wfT_P {p : Nat} (h : wfP K p π) (hn : pF π = none) : wfT (τP π) := by
  obtain ⟨h1, h2, h3, h4, h5⟩ := h
  obtain ⟨⟨o1, o2, o3, o4⟩, o5⟩ := h1 hn
  refine ⟨o1, o2, o3, o4, h2.1, fun k hk => ?_, fun k c _ hc => h3 k c hc, fun k _ => h4 k⟩
  have hk' : k < (pD π).length := hk
  have e : (pD π).getD k (0, 0, 0, 0) = (pD π)[k] := by rw [List.getD_eq_getElem?_getD, List.getElem?_eq_getElem hk']; rfl
  have hm : (pD π)[k] ∈ pD π := List.getElem_mem hk'
  have e1 : tS (τP π) k = ((pD π)[k]).2.1 := by show ((pD π).getD k (0, 0, 0, 0)).2.1 = _; rw [e]
  have e2 : tZ (τP π) k = ((pD π)[k]).2.2.1 := by show ((pD π).getD k (0, 0, 0, 0)).2.2.1 = _; rw [e]
  have e3 : tO (τP π) k = ((pD π)[k]).2.2.2 := by show ((pD π).getD k (0, 0, 0, 0)).2.2.2 = _; rw [e]
  rw [e1, e2, e3]
  exact ⟨(o5 _ hm).1, (o5 _ hm).2, (h2.2 _ hm).2⟩
end GO
