/-! ARRAYS OF BOOLEANS hold 0 and 1, wherever a run goes -/
def BI (θ : zS) (μ : zM) : Prop := ∀ a n j, θ.1[a]? = some (.inr (.boolean, n)) → j < n → μ a j = 0 ∨ μ a j = 1
section BB
variable {θ θ' : zS} {μ μ' : zM} {a j c : Nat} {x i : Int}
theorem BI_ob (hz : zob θ a c = true) (h : BI θ μ) : BI θ (ua μ a j x) := by
  intro b n k hb hk
  have ha : θ.1[a]? = some (.inl c) := zob_iff.mp hz
  have hne : b ≠ a := fun e => by rw [e, ha] at hb; cases hb
  show (if b = a ∧ k = j then x else μ b k) = 0 ∨ (if b = a ∧ k = j then x else μ b k) = 1
  rw [if_neg (fun hh => hne hh.1)]
  exact h b n k hb hk
theorem zix_T2 {t : FieldType} (hz : zix θ t a i = true) : ∃ n, θ.1[a]? = some (.inr (t, n)) := by
  unfold zix at hz
  split at hz
  · rename_i u n e
    simp at hz
    refine ⟨n, ?_⟩
    rw [e]
    rw [hz.1]
  · cases hz
theorem BI_ix {t : FieldType} (hz : zix θ t a i = true) (ht : t ≠ .boolean) (h : BI θ μ) : BI θ (ua μ a j x) := by
  intro b n k hb hk
  obtain ⟨m, ha⟩ := zix_T2 hz
  have hne : b ≠ a := fun e => by rw [e, ha] at hb; cases hb; exact ht rfl
  show (if b = a ∧ k = j then x else μ b k) = 0 ∨ (if b = a ∧ k = j then x else μ b k) = 1
  rw [if_neg (fun hh => hne hh.1)]
  exact h b n k hb hk
theorem BI_bx (hx : x = 0 ∨ x = 1) (h : BI θ μ) : BI θ (ua μ a j x) := by
  intro b n k hb hk
  show (if b = a ∧ k = j then x else μ b k) = 0 ∨ (if b = a ∧ k = j then x else μ b k) = 1
  by_cases e : b = a ∧ k = j
  · rw [if_pos e]; exact hx
  · rw [if_neg e]; exact h b n k hb hk
theorem BI_nw {l : List (Nat ⊕ (FieldType × Nat))} {r : Nat → Nat → Option Nat} (h : BI θ μ) : BI (θ.1 ++ l, r) (zm0 μ θ.1.length) := by
  intro b n k hb hk
  show (if θ.1.length ≤ b then 0 else μ b k) = 0 ∨ (if θ.1.length ≤ b then 0 else μ b k) = 1
  by_cases e : θ.1.length ≤ b
  · rw [if_pos e]; exact Or.inl rfl
  · rw [if_neg e]
    refine h b n k ?_ hk
    have hb' : (θ.1 ++ l)[b]? = _ := hb
    rwa [List.getElem?_append_left (by omega)] at hb'
theorem BI_ur {r : Nat → Nat → Option Nat} (h : BI θ μ) : BI (θ.1, r) μ := h
theorem BI_cp {q p s d m : Nat} {i : Int} (hz : zix θ .int p i = true) (h : BI θ μ) : BI θ (zcopy μ q s p d m) := by
  intro b n k hb hk
  obtain ⟨m', ha⟩ := zix_T2 hz
  have hne : b ≠ p := fun e => by rw [e, ha] at hb; cases hb
  show (if b = p ∧ d ≤ k ∧ k < d + m then μ q (s + (k - d)) else μ b k) = 0 ∨ (if b = p ∧ d ≤ k ∧ k < d + m then μ q (s + (k - d)) else μ b k) = 1
  rw [if_neg (fun hh => hne hh.1)]
  exact h b n k hb hk
set_option maxHeartbeats 4000000 in
theorem zstep_BI {z n pc pc' : Nat} {i : Instr} {L S L' S' : List zV} (h : BI θ μ) (hs : zstep z i n pc L S θ μ = some (pc', L', S', θ', μ')) : BI θ' μ' := by
  unfold zstep at hs
  split at hs
  all_goals (repeat' (split at hs))
  all_goals first
    | (cases hs; done)
    | (cases hs; exact h)
    | (cases hs; exact BI_nw h)
    | (cases hs; exact BI_bx ‹_ ∧ _ ∧ ((_ : Int) = 0 ∨ (_ : Int) = 1)›.2.2 h)
    | (cases hs; exact BI_ob (‹zob _ _ _ = true ∧ _›).1 h)
    | (cases hs; exact BI_ix (‹zix _ _ _ _ = true ∧ _›).1 (by decide) h)
theorem zcall_BI {z k f : Nat} {S S' : List zV} (h : BI θ μ) (hs : zcall z k f S θ μ = some (.inr (S', μ'))) : BI θ μ' := by
  unfold zcall at hs
  repeat' (split at hs)
  all_goals first
    | (cases hs; done)
    | (cases hs; exact h)
    | (cases hs; exact BI_cp (‹_ ≤ 4 ∧ 2 ≤ _ ∧ 2 ≤ _ ∧ _ ∧ _ ∧ _ ∧ _ ∧ _ ∧ zix _ _ _ _ = true›).2.2.2.2.2.2.2.2 h)
end BB
theorem zrun_BI : ∀ (f : Nat) {d z pc : Nat} {L S : List zV} {θ : zS} {μ : zM} {r : Option zV × zS × zM}, BI θ μ → zrun f d z pc L S θ μ = some r → BI r.2.1 r.2.2 := by
  intro f
  induction f with
  | zero => intro d z pc L S θ μ r _ h; cases h
  | succ f ih =>
    intro d z pc L S θ μ r hB h
    rw [zrun_succ] at h
    cases hft : ft z pc with
    | none => simp only [hft] at h; cases h
    | some q =>
      obtain ⟨i, n⟩ := q
      simp only [hft] at h
      cases hr : zret z i S with
      | some v => simp only [hr] at h; cases h; exact hB
      | none =>
        simp only [hr] at h
        cases hi : zinv i with
        | none =>
          simp only [hi] at h
          cases hs : zstep z i n pc L S θ μ with
          | none => simp only [hs] at h; cases h
          | some c =>
            simp only [hs] at h
            obtain ⟨c1, c2, c3, c4, c5⟩ := c
            exact ih (zstep_BI hB hs) h
        | some kf =>
          obtain ⟨k, fm⟩ := kf
          simp only [hi] at h
          by_cases hn : n = 3
          · rw [if_pos hn] at h
            cases hc : zcall z k fm S θ μ with
            | none => simp only [hc] at h; cases h
            | some q =>
              cases q with
              | inr q => obtain ⟨q1, q2⟩ := q; simp only [hc] at h; exact ih (zcall_BI hB hc) h
              | inl q =>
                obtain ⟨y, av, S'⟩ := q
                simp only [hc] at h
                cases d with
                | zero => cases h
                | succ d1 =>
                  simp only at h
                  cases hk : zrun f d1 y 0 (zen (zmx y) av) [] θ μ with
                  | none => simp only [hk] at h; cases h
                  | some r1 =>
                    simp only [hk] at h
                    exact ih (ih hB hk) h
          · rw [if_neg hn] at h; cases h
theorem Ex_keep {d z pc : Nat} {L S : List zV} {θ : zS} {μ : zM} {Q : Option zV → zS → zM → Prop} (hB : BI θ μ) (h : Ex d z pc L S θ μ (fun v θ' μ' => BI θ' μ' → Q v θ' μ')) : Ex d z pc L S θ μ Q := by
  obtain ⟨f, r, h1, h2⟩ := h
  exact ⟨f, r, h1, h2 (zrun_BI f hB h1)⟩
