/-! THE REFERENCE reads: a side of its rows; what stays, what is told so far -/
def laM (μ : zM) (x : Nat) (o : Option zC) : Prop := match o with
  | none => μ 154 x = 0
  | some c => μ 154 x = 1 ∧ mAt μ (μ 155 x) (μ 156 x) c
def ruM (μ : zM) (y : Nat) (ls : List zL) : Prop := (0 ≤ μ 152 y ∧ μ 153 y = μ 152 y + ls.length ∧ μ 153 y ≤ 300) ∧ ∀ j (hj : j < ls.length), lAt μ ((μ 152 y).toNat + j) ls[j]
def TMA (τ : zT) (s : Nat) (μ : zM) : Prop := μ 147 s = tN τ 0 ∧ μ 148 s = tN τ 1 ∧ μ 149 s = tN τ 2 ∧ ∀ k, k < 6 → μ 150 (6 * s + k) = tN τ (k + 3)
def TMD (τ : zT) (s : Nat) (μ : zM) : Prop := μ 157 s = (tD τ : Nat) ∧ ∀ k, k < tD τ → μ 158 (6 * s + k) = tS τ k ∧ μ 159 (6 * s + k) = tZ τ k ∧ μ 160 (6 * s + k) = tO τ k
def TML (τ : zT) (s : Nat) (μ : zM) : Prop := ∀ k, k < 4 → laM μ (4 * s + k) (tL τ k)
def TMR (τ : zT) (s : Nat) (μ : zM) : Prop := ∀ k, k < 3 → μ 151 (3 * s + k) = ((tR τ k).length : Nat) ∧ ∀ i (h : i < (tR τ k).length), ruM μ (18 * s + 6 * k + i) (tR τ k)[i]
theorem TM_iff {τ : zT} {s : Nat} {μ : zM} : TM τ s μ ↔ TMA τ s μ ∧ TMD τ s μ ∧ TML τ s μ ∧ TMR τ s μ := Iff.rfl
section SI
variable {μ μ' μ0 : zM}
theorem mAt_ag {x y : Int} {c : zC} {lo hi : Nat} (h : mAt μ x y c) (h1 : (lo : Int) ≤ x) (h2 : y ≤ (hi : Int)) (e : ∀ i, lo ≤ i → i < hi → μ' 167 i = μ 167 i ∧ μ' 168 i = μ 168 i) : mAt μ' x y c := by
  obtain ⟨a1, a2, a3, a4⟩ := h
  refine ⟨a1, a2, a3, fun i hi' => ?_⟩
  have e' := e (x.toNat + i) (by omega) (by omega)
  rw [e'.1, e'.2]
  exact a4 i hi'
theorem lAt_ag {q : Nat} {l : zL} {lo hi : Nat} (h : lAt μ q l) (h1 : (lo : Int) ≤ μ 164 q) (h2 : μ 166 q ≤ (hi : Int)) (eq : ∀ c, 161 ≤ c → c ≤ 166 → μ' c q = μ c q) (e : ∀ i, lo ≤ i → i < hi → μ' 167 i = μ 167 i ∧ μ' 168 i = μ 168 i) : lAt μ' q l := by
  obtain ⟨a1, a2, a3, a4, a5⟩ := h
  have b4 := a4.2.1
  have b5 := a5.2.1
  unfold lAt
  rw [eq 161 (by decide) (by decide), eq 162 (by decide) (by decide), eq 163 (by decide) (by decide), eq 164 (by decide) (by decide), eq 165 (by decide) (by decide), eq 166 (by decide) (by decide)]
  exact ⟨a1, a2, a3, mAt_ag a4 h1 (by omega) e, mAt_ag a5 (by omega) h2 e⟩
theorem laM_ag {x : Nat} {o : Option zC} {lo hi : Nat} (h : laM μ x o) (hB : o ≠ none → (lo : Int) ≤ μ 155 x ∧ μ 156 x ≤ (hi : Int)) (ex : ∀ c, 154 ≤ c → c ≤ 156 → μ' c x = μ c x) (e : ∀ i, lo ≤ i → i < hi → μ' 167 i = μ 167 i ∧ μ' 168 i = μ 168 i) : laM μ' x o := by
  cases o with
  | none => exact (ex 154 (by decide) (by decide)).trans h
  | some c =>
    obtain ⟨h1, h2⟩ := h
    have hb := hB (by simp)
    refine ⟨(ex 154 (by decide) (by decide)).trans h1, ?_⟩
    rw [ex 155 (by decide) (by decide), ex 156 (by decide) (by decide)]
    exact mAt_ag h2 hb.1 hb.2 e
theorem ruM_ag {y : Nat} {ls : List zL} {lo hi l0 l1 : Nat} (h : ruM μ y ls) (hy : (l0 : Int) ≤ μ 152 y ∧ μ 153 y ≤ (l1 : Int)) (hB : ∀ q, l0 ≤ q → q < l1 → (lo : Int) ≤ μ 164 q ∧ μ 166 q ≤ (hi : Int)) (ey : μ' 152 y = μ 152 y ∧ μ' 153 y = μ 153 y)
    (eq : ∀ c q, 161 ≤ c → c ≤ 166 → l0 ≤ q → q < l1 → μ' c q = μ c q) (e : ∀ i, lo ≤ i → i < hi → μ' 167 i = μ 167 i ∧ μ' 168 i = μ 168 i) : ruM μ' y ls := by
  obtain ⟨⟨h1, h2, h3⟩, h4⟩ := h
  unfold ruM
  rw [ey.1, ey.2]
  refine ⟨⟨h1, h2, h3⟩, fun j hj => ?_⟩
  have hb := hB ((μ 152 y).toNat + j) (by omega) (by omega)
  exact lAt_ag (h4 j hj) hb.1 hb.2 (fun c c1 c2 => eq c _ c1 c2 (by omega) (by omega)) e
/-- how much of a row belongs to a side -/
def sdN (a : Nat) : Nat := if a ≤ 149 then 1 else if a = 150 then 6 else if a = 151 then 3 else if a ≤ 153 then 18 else if a ≤ 156 then 4 else if a = 157 then 1 else if a ≤ 160 then 6 else if a ≤ 166 then 150 else 420
/-- the other side stays -/
def SF (b : Nat) (μ0 μ : zM) : Prop := (∀ a, ¬ (a = 138 ∨ (146 ≤ a ∧ a ≤ 169)) → μ a = μ0 a) ∧ ∀ a j, 147 ≤ a → a ≤ 168 → j / sdN a ≠ b → μ a j = μ0 a j
theorem SF.refl {b : Nat} : SF b μ μ := ⟨fun _ _ => rfl, fun _ _ _ _ _ => rfl⟩
theorem SF.trans {b : Nat} {μ'' : zM} (h : SF b μ μ') (g : SF b μ' μ'') : SF b μ μ'' := ⟨fun a ha => (g.1 a ha).trans (h.1 a ha), fun a j h1 h2 h3 => (g.2 a j h1 h2 h3).trans (h.2 a j h1 h2 h3)⟩
theorem SF.one {b a k : Nat} {x : Int} (h : SF b μ0 μ) (ha : 147 ≤ a ∧ a ≤ 168) (hk : k / sdN a = b) : SF b μ0 (us μ a (zup (μ a) k x)) := by
  refine ⟨fun c hc => ?_, fun c j h1 h2 h3 => ?_⟩
  · rw [us_ne (by omega)]; exact h.1 c hc
  · by_cases e : c = a
    · subst e
      rw [us_same, zup_ne (fun hh => h3 (by rw [hh]; exact hk))]; exact h.2 c j h1 h2 h3
    · rw [us_ne e]; exact h.2 c j h1 h2 h3
theorem SF.fr {b : Nat} {A : List Nat} (h : SF b μ0 μ) (f : Fr A μ μ') (hA : ∀ a ∈ A, a = 138 ∨ a = 146 ∨ a = 169) : SF b μ0 μ' := by
  refine ⟨fun c hc => ?_, fun c j h1 h2 h3 => ?_⟩
  · rw [f c (fun hh => by have := hA c hh; omega)]; exact h.1 c hc
  · rw [f c (fun hh => by have := hA c hh; omega)]; exact h.2 c j h1 h2 h3
theorem SF.code {b : Nat} (h : SF b μ0 μ) (f : Fr [138, 167, 168, 169] μ μ') (g : ∀ i : Nat, i / 420 ≠ b → μ' 167 i = μ 167 i ∧ μ' 168 i = μ 168 i) : SF b μ0 μ' := by
  refine ⟨fun c hc => ?_, fun c j h1 h2 h3 => ?_⟩
  · rw [f c (by simp; omega)]; exact h.1 c hc
  · by_cases e : c = 167
    · subst e; rw [(g j (by simpa [sdN] using h3)).1]; exact h.2 167 j h1 h2 h3
    · by_cases e2 : c = 168
      · subst e2; rw [(g j (by simpa [sdN] using h3)).2]; exact h.2 168 j h1 h2 h3
      · rw [f c (by simp; omega)]; exact h.2 c j h1 h2 h3
/-- the text on side s, and where it lies, stay -/
theorem TM_SF {τ : zT} {s b : Nat} (h : TM τ s μ) (hS : TS τ s μ) (hw : tD τ ≤ 6 ∧ ∀ k, k < 3 → (tR τ k).length ≤ 6) (f : ∀ a j, 147 ≤ a → a ≤ 168 → j / sdN a ≠ b → μ' a j = μ a j) (hs : s ≠ b) : TM τ s μ' ∧ TS τ s μ' := by
  obtain ⟨cB, lB, ⟨b1, b2⟩, b3, b4, b5⟩ := hS
  obtain ⟨hA, hD, hL, hR⟩ := TM_iff.mp h
  have e : ∀ a j, 147 ≤ a → a ≤ 168 → j / sdN a = s → μ' a j = μ a j := fun a j h1 h2 h3 => f a j h1 h2 (by omega)
  have c4 : ∀ k, k < 4 → ∀ c, 154 ≤ c → c ≤ 156 → μ' c (4 * s + k) = μ c (4 * s + k) := fun k hk c h1 h2 => e c _ (by omega) (by omega) (by
    have : sdN c = 4 := by unfold sdN; rw [if_neg (by omega), if_neg (by omega), if_neg (by omega), if_neg (by omega), if_pos (by omega)]
    rw [this]; omega)
  have c1 : ∀ c q, 161 ≤ c → c ≤ 166 → 150 * s ≤ q → q < lB → μ' c q = μ c q := fun c q h1 h2 h3 h4 => e c _ (by omega) (by omega) (by
    have : sdN c = 150 := by unfold sdN; rw [if_neg (by omega), if_neg (by omega), if_neg (by omega), if_neg (by omega), if_neg (by omega), if_neg (by omega), if_neg (by omega), if_pos (by omega)]
    rw [this]; omega)
  have c7 : ∀ i, 420 * s ≤ i → i < cB → μ' 167 i = μ 167 i ∧ μ' 168 i = μ 168 i := fun i h1 h2 => ⟨e 167 i (by decide) (by decide) (by show i / 420 = s; omega), e 168 i (by decide) (by decide) (by show i / 420 = s; omega)⟩
  have c18 : ∀ k i, k < 3 → i < 6 → μ' 152 (18 * s + 6 * k + i) = μ 152 (18 * s + 6 * k + i) ∧ μ' 153 (18 * s + 6 * k + i) = μ 153 (18 * s + 6 * k + i) := fun k i hk hi => ⟨e 152 _ (by decide) (by decide) (by show _ / 18 = s; omega), e 153 _ (by decide) (by decide) (by show _ / 18 = s; omega)⟩
  refine ⟨TM_iff.mpr ⟨⟨?_, ?_, ?_, fun k hk => ?_⟩, ⟨?_, fun k hk => ⟨?_, ?_, ?_⟩⟩, fun k hk => ?_, fun k hk => ⟨?_, fun i hi => ?_⟩⟩, cB, lB, ⟨b1, b2⟩, fun k hk ht => ?_, fun k i hk hi => ?_, fun q h1 h2 => ?_⟩
  · rw [e 147 s (by decide) (by decide) (by show s / 1 = s; omega)]; exact hA.1
  · rw [e 148 s (by decide) (by decide) (by show s / 1 = s; omega)]; exact hA.2.1
  · rw [e 149 s (by decide) (by decide) (by show s / 1 = s; omega)]; exact hA.2.2.1
  · rw [e 150 _ (by decide) (by decide) (by show _ / 6 = s; omega)]; exact hA.2.2.2 k hk
  · rw [e 157 s (by decide) (by decide) (by show s / 1 = s; omega)]; exact hD.1
  · rw [e 158 _ (by decide) (by decide) (by show _ / 6 = s; omega)]; exact (hD.2 k hk).1
  · rw [e 159 _ (by decide) (by decide) (by show _ / 6 = s; omega)]; exact (hD.2 k hk).2.1
  · rw [e 160 _ (by decide) (by decide) (by show _ / 6 = s; omega)]; exact (hD.2 k hk).2.2
  · exact laM_ag (hL k hk) (b3 k hk) (c4 k hk) c7
  · rw [e 151 _ (by decide) (by decide) (by show _ / 3 = s; omega)]; exact (hR k hk).1
  · have h6 := hw.2 k hk
    exact ruM_ag ((hR k hk).2 i hi) (b4 k i hk hi) b5 (c18 k i hk (by omega)) c1 c7
  · rw [c4 k hk 155 (by decide) (by decide), c4 k hk 156 (by decide) (by decide)]; exact b3 k hk ht
  · have h6 := hw.2 k hk
    rw [(c18 k i hk (by omega)).1, (c18 k i hk (by omega)).2]; exact b4 k i hk hi
  · rw [c1 164 q (by decide) (by decide) h1 h2, c1 166 q (by decide) (by decide) h1 h2]; exact b5 q h1 h2
/-- fields that no telling touches -/
def JF (μ μ' : zM) : Prop := ∀ j, j ≠ 11 → j ≠ 12 → j ≠ 13 → j ≠ 14 → j ≠ 15 → j ≠ 16 → j ≠ 20 → j ≠ 36 → j ≠ 43 → j ≠ 47 → μ' 138 j = μ 138 j
theorem JF.trans {μ'' : zM} (h : JF μ μ') (g : JF μ' μ'') : JF μ μ'' := fun j j1 j2 j3 j4 j5 j6 j7 j8 j9 j10 => (g j j1 j2 j3 j4 j5 j6 j7 j8 j9 j10).trans (h j j1 j2 j3 j4 j5 j6 j7 j8 j9 j10)
/-- a fault -/
def FT (b : Nat) (st : Nat → Int) (e : Nat × Nat) (μ0 μ : zM) : Prop := SF b μ0 μ ∧ JF μ0 μ ∧ 0 < e.1 ∧ μ 138 13 = (e.1 : Nat) ∧ μ 138 14 = st e.2 ∧ ∃ q : Nat, q ≤ 400 ∧ μ 138 11 = (q : Nat)
/-- what is told so far, at token p -/
def PTm (W st : Nat → Int) (b : Nat) (π : zP) (p cB lB : Nat) (μ : zM) : Prop := (TM (τP π) b μ ∧ TQb (τP π) b cB lB μ) ∧ (μ 138 43 = (cB : Nat) ∧ μ 138 36 = (lB : Nat)) ∧ ((420 * b ≤ cB ∧ cB ≤ 420 * b + p) ∧ 150 * b ≤ lB ∧ 3 * lB ≤ 450 * b + p)
  ∧ (μ 138 20 = ((pD π).length : Nat) ∧ ∀ i (h : i < (pD π).length), μ 146 i = W ((pD π)[i]).1) ∧ LR (pF π) st μ ∧ μ 138 19 = (b : Nat) ∧ μ 138 11 = (p : Nat) ∧ μ 138 12 = 0 ∧ μ 138 13 = 0
end SI
