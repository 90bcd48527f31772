/-! THE CLASS'S CODE of a law and of a RULE says what the text says -/
theorem crun_cons (v : Nat → Int) (c : Int × Int) (r : List (Int × Int)) (s : List Int) (b : Bool) : crun v (c :: r) s b = match cst v c s b with
    | some q => crun v r q.1 q.2
    | none => none := rfl
theorem crun_app (v : Nat → Int) (xs ys : List (Int × Int)) : ∀ (s : List Int) (b : Bool), crun v (xs ++ ys) s b = match crun v xs s b with
    | some q => crun v ys q.1 q.2
    | none => none := by
  induction xs with
  | nil => intro s b; rfl
  | cons c r ih =>
    intro s b
    rw [List.cons_append, crun_cons, crun_cons]
    cases h : cst v c s b with
    | none => rfl
    | some q => exact ih q.1 q.2
theorem crun_to {v : Nat → Int} {xs ys : List (Int × Int)} {s s' : List Int} {b b' : Bool} (h : crun v xs s b = some (s', b')) : crun v (xs ++ ys) s b = crun v ys s' b' := by
  rw [crun_app, h]
theorem crun_c {v : Nat → Int} {c : Int × Int} {ys : List (Int × Int)} {s s' : List Int} {b b' : Bool} (h : cst v c s b = some (s', b')) : crun v (c :: ys) s b = crun v ys s' b' := by
  rw [crun_cons, h]
theorem enC_cons (k : Nat) (y : Int) (r : zC) : enC ((k, y) :: r) = (enK k, if k ≤ 1 then y else 0) :: enC r := rfl
theorem rop_jn {k : Nat} (h : 2 ≤ k) (h5 : k ≤ 5) (a b : Int) (hb : k = 5 → b ≠ 0) : jnC (enK k) a b = rop k a b := by
  have : k = 2 ∨ k = 3 ∨ k = 4 ∨ k = 5 := by omega
  rcases this with rfl | rfl | rfl | rfl
  · simp [jnC, enK, rop]
  · simp [jnC, enK, rop]
  · simp [jnC, enK, rop]
  · have := hb rfl
    simp [jnC, enK, rop, this]
/-- an E from the operands q above r -/
theorem crun_E {v : Nat → Int} {B m : Nat} {r : List Int} (hB : r.length + B ≤ 32) : ∀ (c : zC) (n : Nat), wfc B m n c → ∀ (q : List Int) (b : Bool), q.length = n → n ≤ B →
    ∃ q' b', crun v (enC c) (q ++ r) b = some (q' ++ r, b') ∧ q'.length = m ∧ (b = true → b' = true) ∧ (b = false → (b' = true ∧ rpn v c q = none) ∨ (b' = false ∧ rpn v c q = some q')) := by
  intro c
  induction c with
  | nil =>
    intro n hw q b hq hn
    have hw' : n = m := hw
    exact ⟨q, b, rfl, by omega, fun h => h, fun h => Or.inr ⟨h, rfl⟩⟩
  | cons p c ih =>
    intro n hw q b hq hn
    obtain ⟨k, y⟩ := p
    rw [enC_cons]
    unfold wfc at hw
    by_cases k0 : k = 0
    · subst k0
      simp only [if_true] at hw
      obtain ⟨q', b', h1, h2, h3, h4⟩ := ih (n + 1) hw.2.2 (y :: q) b (by simp [hq]) hw.1
      refine ⟨q', b', ?_, h2, h3, ?_⟩
      · rw [crun_c (s' := y :: (q ++ r)) (b' := b)]
        · exact h1
        · simp [cst, enK]; omega
      · intro hb
        rcases h4 hb with ⟨e1, e2⟩ | ⟨e1, e2⟩
        · exact Or.inl ⟨e1, by simpa [rpn, rstep] using e2⟩
        · exact Or.inr ⟨e1, by simpa [rpn, rstep] using e2⟩
    · by_cases k1 : k = 1
      · subst k1
        simp only [if_true] at hw
        have hw : n + 1 ≤ B ∧ (0 ≤ y ∧ y ≤ 12) ∧ wfc B m (n + 1) c := by simpa using hw
        obtain ⟨q', b', h1, h2, h3, h4⟩ := ih (n + 1) hw.2.2 (v y.toNat :: q) b (by simp [hq]) hw.1
        refine ⟨q', b', ?_, h2, h3, ?_⟩
        · rw [crun_c (s' := v y.toNat :: (q ++ r)) (b' := b)]
          · exact h1
          · simp [cst, enK]; omega
        · intro hb
          rcases h4 hb with ⟨e1, e2⟩ | ⟨e1, e2⟩
          · exact Or.inl ⟨e1, by simpa [rpn, rstep] using e2⟩
          · exact Or.inr ⟨e1, by simpa [rpn, rstep] using e2⟩
      · simp only [k0, k1, if_false] at hw
        obtain ⟨hk5, hn2, hw⟩ := hw
        match q, hq with
        | [], hq => simp at hq; omega
        | [_], hq => simp at hq; omega
        | f :: e :: q, hq =>
          have hkk : 2 ≤ k := by omega
          have e6 : ¬ (enK k = 2 ∨ enK k = 36) ∧ ¬ enK k = 35 ∧ enK k < 10 ∧ (enK k = 9 ↔ k = 5) := by
            have : k = 2 ∨ k = 3 ∨ k = 4 ∨ k = 5 := by omega
            rcases this with rfl | rfl | rfl | rfl <;> simp [enK]
          have hn10 : ¬ (10 ≤ enK k) := by omega
          have hq2 : q.length + 1 = n - 1 := by simp at hq; omega
          by_cases hz : k = 5 ∧ f = 0
          · obtain ⟨q', b', h1, h2, h3, h4⟩ := ih (n - 1) hw (jnC (enK k) e f :: q) true (by simp; omega) (by omega)
            refine ⟨q', b', ?_, h2, fun _ => h3 rfl, fun _ => Or.inl ⟨h3 rfl, ?_⟩⟩
            · rw [crun_c (s' := jnC (enK k) e f :: (q ++ r)) (b' := true)]
              · exact h1
              · have : enK k = 9 := e6.2.2.2.mpr hz.1
                simp [cst, e6.1, e6.2.1, hn10, this, hz.2]
            · simp [rpn, rstep, k0, k1, hz.1, hz.2]
          · have hz2 : ¬ (enK k = 9 ∧ f = 0) := fun q => hz ⟨e6.2.2.2.mp q.1, q.2⟩
            obtain ⟨q', b', h1, h2, h3, h4⟩ := ih (n - 1) hw (jnC (enK k) e f :: q) b (by simp; omega) (by omega)
            refine ⟨q', b', ?_, h2, h3, ?_⟩
            · rw [crun_c (s' := jnC (enK k) e f :: (q ++ r)) (b' := b)]
              · exact h1
              · have hz3 : decide (enK k = 9 ∧ f = 0) = false := decide_eq_false hz2
                show cst v (enK k, _) (f :: e :: (q ++ r)) b = _
                unfold cst
                simp only [e6.1, e6.2.1, if_false, hn10, false_and, and_false, hz3, Bool.or_false]
            · intro hb
              have hr : rpn v ((k, y) :: c) (f :: e :: q) = rpn v c (jnC (enK k) e f :: q) := by
                rw [rop_jn hkk hk5 e f (fun h5 hf => hz ⟨h5, hf⟩)]
                show (match rstep v (k, y) (f :: e :: q) with | some s' => rpn v c s' | none => none) = _
                unfold rstep
                simp only [k0, k1, if_false, hz]
              rw [hr]
              exact h4 hb
theorem crun_ev {v : Nat → Int} {r : List Int} {c : zC} (hr : r.length + 16 ≤ 32) (hw : wfc 16 1 0 c) (b : Bool) : ∃ x b', crun v (enC c) r b = some (x :: r, b') ∧ (b = true → b' = true) ∧ (b = false → (b' = true ∧ ev v c = none) ∨ (b' = false ∧ ev v c = some x)) := by
  obtain ⟨q', b', h1, h2, h3, h4⟩ := crun_E (v := v) (r := r) hr c 0 hw [] b rfl (by omega)
  match q', h2 with
  | [x], _ =>
    refine ⟨x, b', h1, h3, fun hb => ?_⟩
    rcases h4 hb with ⟨e1, e2⟩ | ⟨e1, e2⟩
    · exact Or.inl ⟨e1, by unfold ev; rw [e2]⟩
    · exact Or.inr ⟨e1, by unfold ev; rw [e2]⟩
def b2 (b : Bool) : Int := if b = true then 1 else 0
theorem crun_lit {v : Nat → Int} {r : List Int} {l : zL} (hr : r.length ≤ 2) (hw : wfL l) (ys : List (Int × Int)) : crun v (enL l ++ ys) r false = crun v ys (b2 (litv v l) :: r) false := by
  obtain ⟨o, nt, srt, lc, rc⟩ := l
  obtain ⟨hs, hl, hrr⟩ := hw
  simp only at hs hl hrr
  obtain ⟨x, b1, h1, _, h3⟩ := crun_ev (v := v) (r := r) (by omega) hl false
  obtain ⟨y, b2', h4, h5, h6⟩ := crun_ev (v := v) (r := x :: r) (by simp; omega) hrr b1
  unfold enL
  simp only
  rw [List.append_assoc, List.append_assoc, crun_to h1, crun_to h4, List.cons_append]
  have hcmp : ∀ a b : Int, jnC (10 + (srt : Int)) a b = b2 (cmpv srt a b) := by
    intro a b
    have : srt = 0 ∨ srt = 1 ∨ srt = 2 ∨ srt = 3 := by omega
    rcases this with rfl | rfl | rfl | rfl
    · by_cases hab : a = b <;> simp [jnC, cmpv, b2, hab]
    · by_cases hab : a = b <;> simp [jnC, cmpv, b2, hab]
    · by_cases hab : a < b <;> simp [jnC, cmpv, b2, hab]
    · by_cases hab : a ≤ b <;> simp [jnC, cmpv, b2, hab]
  have hn1 : ¬ ((10 + (srt : Int)) = 2 ∨ (10 + (srt : Int)) = 36) := by omega
  have hn2 : ¬ ((10 + (srt : Int)) = 35) := by omega
  have hn3 : (10 : Int) ≤ 10 + (srt : Int) ∧ 10 + (srt : Int) ≤ 13 := by omega
  have hn4 : ¬ ((10 + (srt : Int)) = 9 ∧ y = 0) := by omega
  have hmid : cst v (10 + (srt : Int), 0) (y :: x :: r) b2' = some (b2 (!b2' && cmpv srt x y) :: r, false) := by
    unfold cst
    simp only [hn1, hn2, hn4, hn3, if_false, and_true, or_false, and_self]
    cases hb2 : b2'
    · simp [hcmp]
    · simp [b2]
  have hval : (!b2' && cmpv srt x y) = (litv v (o, false, srt, lc, rc)) := by
    unfold litv
    simp only
    rcases h3 rfl with ⟨e1, e2⟩ | ⟨e1, e2⟩
    · rw [e2]; have := h5 e1; rw [this]; rfl
    · rcases h6 e1 with ⟨e3, e4⟩ | ⟨e3, e4⟩
      · rw [e2, e4, e3]; rfl
      · rw [e2, e4, e3]; simp
  have hlv : litv v (o, nt, srt, lc, rc) = (litv v (o, false, srt, lc, rc) != nt) := by
    unfold litv
    simp only
    cases ev v lc <;> cases ev v rc <;> simp
  rw [crun_c hmid, hval, hlv]
  cases nt
  · simp
  · simp only [if_true, List.cons_append, List.nil_append]
    rw [crun_c (s' := w32 (1 - b2 (litv v (o, false, srt, lc, rc))) :: r) (b' := false)]
    · congr 2
      cases litv v (o, false, srt, lc, rc) <;> simp [b2, w32]
    · simp [cst]
theorem zand_b (a b : Bool) : zand (b2 a) (b2 b) = b2 (a && b) := by cases a <;> cases b <;> decide +kernel
theorem zor_b (a b : Bool) : zor (b2 a) (b2 b) = b2 (a || b) := by cases a <;> cases b <;> decide +kernel
theorem cst_and (v : Nat → Int) (a b : Bool) (r : List Int) : cst v (34, 0) (b2 b :: b2 a :: r) false = some (b2 (a && b) :: r, false) := by simp [cst, jnC, zand_b]
theorem cst_or (v : Nat → Int) (a b : Bool) (r : List Int) : cst v (33, 0) (b2 b :: b2 a :: r) false = some (b2 (a || b) :: r, false) := by simp [cst, jnC, zor_b]
theorem crun_R {v : Nat → Int} : ∀ (ls : List zL) (l : zL) (ao aa O A : Bool), (∀ q ∈ l :: ls, wfL q) → crun v (enR (l :: ls) ao aa) ((if aa = true then [b2 A] else []) ++ if ao = true then [b2 O] else []) false =
    some ([b2 ((ao && O) || rulv v ls ((if aa = true then A else true) && litv v l))], false) := by
  intro ls
  induction ls with
  | nil =>
    intro l ao aa O A hw
    have hl := hw l (by simp)
    unfold enR
    rw [crun_lit (by cases ao <;> cases aa <;> simp) hl]
    cases aa
    · cases ao
      · simp [rulv, crun]
      · simp only [if_true, List.nil_append, if_false]
        simp only [Bool.false_eq_true, if_false, List.nil_append]
        rw [crun_c (cst_or v O _ [])]
        simp [rulv, crun]
    · simp only [if_true, List.cons_append, List.nil_append]
      rw [crun_c (cst_and v A _ _)]
      cases ao
      · simp [rulv, crun]
      · simp only [if_true]
        rw [crun_c (cst_or v O _ [])]
        simp [rulv, crun]
  | cons l2 ls ih =>
    intro l ao aa O A hw
    have hl := hw l (by simp)
    have hw2 : ∀ q ∈ l2 :: ls, wfL q := fun q hq => hw q (List.mem_cons_of_mem _ hq)
    rw [enR, crun_lit (by cases ao <;> cases aa <;> simp) hl]
    have step : ∀ (X : Bool) (K : List (Int × Int)), crun v (K) (b2 X :: if ao = true then [b2 O] else []) false = some ([b2 ((ao && O) || rulv v (l2 :: ls) X)], false) →
        X = ((if aa = true then A else true) && litv v l) → crun v ((if aa = true then [((34 : Int), (0 : Int))] else []) ++ K) (b2 (litv v l) :: ((if aa = true then [b2 A] else []) ++ if ao = true then [b2 O] else [])) false = some ([b2 ((ao && O) || rulv v (l2 :: ls) ((if aa = true then A else true) && litv v l))], false) := by
      intro X K hK hX
      rw [← hX, ← hK]
      cases aa
      · simp at hX; simp [hX]
      · simp only [if_true, List.cons_append, List.nil_append] at hX ⊢
        rw [crun_c (cst_and v A _ _), hX]
    apply step _ _ _ rfl
    generalize ((if aa = true then A else true) && litv v l) = X
    by_cases h2 : l2.1 = true
    · rw [if_pos h2]
      have e := ih l2 true false (if ao = true then O || X else X) true hw2
      simp only [if_true, Bool.false_eq_true, if_false, List.nil_append, Bool.true_and] at e
      cases ao
      · simp only [Bool.false_eq_true, if_false, List.nil_append, Bool.false_and, Bool.false_or] at e ⊢
        rw [e]
        simp only [rulv, h2, true_and, if_true, Bool.true_and]
        cases X <;> simp
      · simp only [if_true, List.cons_append, List.nil_append, Bool.true_and] at e ⊢
        rw [crun_c (cst_or v O _ []), e]
        simp only [rulv, h2, true_and, if_true, Bool.true_and]
        cases X <;> simp
    · rw [if_neg h2]
      have e := ih l2 ao true O X hw2
      simp only [if_true, List.cons_append, List.nil_append] at e
      rw [e]
      simp only [rulv, h2, false_and, if_false]
      simp
theorem crun_rule {v : Nat → Int} {ls : List zL} (hw : wfR ls) : crun v (enR ls false false) [] false = some ([b2 (rulv v ls false)], false) := by
  obtain ⟨h1, l, r, rfl, h2⟩ := hw
  have := crun_R (v := v) r l false false false false h1
  simp only [Bool.false_eq_true, if_false, List.append_nil, Bool.false_and, Bool.false_or, Bool.true_and] at this
  rw [this]
  simp [rulv, h2]
