/-! PURE LEAN: memory, loops, the library's leaves -/
def zup {α : Type} (f : Nat → α) (k : Nat) (x : α) : Nat → α := fun j => if j = k then x else f j
theorem zup_same {α : Type} {f : Nat → α} {j k : Nat} {x : α} (h : j = k) : zup f k x j = x := by unfold zup; rw [if_pos h]
theorem zup_ne {α : Type} {f : Nat → α} {j k : Nat} {x : α} (h : j ≠ k) : zup f k x j = f j := by unfold zup; rw [if_neg h]
theorem zup_ap {α : Type} {f : Nat → α} {j k : Nat} {x : α} : zup f k x j = if j = k then x else f j := rfl
def us (μ : zM) (a : Nat) (f : Nat → Int) : zM := fun b => if b = a then f else μ b
theorem us_same {μ : zM} {a : Nat} {f : Nat → Int} : us μ a f a = f := by unfold us; rw [if_pos rfl]
theorem us_ne {μ : zM} {a b : Nat} {f : Nat → Int} (h : b ≠ a) : us μ a f b = μ b := by unfold us; rw [if_neg h]
theorem ua_eq (μ : zM) (a k : Nat) (x : Int) : ua μ a k x = us μ a (zup (μ a) k x) := by
  funext b j
  by_cases h : b = a
  · subst h; simp [ua, us, zup]
  · simp [ua, us, h]
theorem us_us {μ : zM} {a : Nat} {f g : Nat → Int} : us (us μ a f) a g = us μ a g := by
  funext b
  by_cases h : b = a <;> simp [us, h]
theorem us_id {μ : zM} {a : Nat} {f : Nat → Int} (h : ∀ j, f j = μ a j) : us μ a f = μ := by
  funext b
  by_cases hb : b = a
  · subst hb; rw [us_same]; funext j; exact h j
  · rw [us_ne hb]
theorem w32_i {x : Int} (h1 : -2147483648 ≤ x) (h2 : x ≤ 2147483647) : w32 x = x := by unfold w32; omega
theorem w32_s {t : Nat} (h : t < 2147483647) : w32 ((t : Int) + 1) = ((t + 1 : Nat) : Int) := by unfold w32; omega
theorem w32_w (x : Int) : w32 (w32 x) = w32 x := by unfold w32; omega
theorem w32_b1 (x : Int) : -2147483648 ≤ w32 x := by unfold w32; omega
theorem w32_b2 (x : Int) : w32 x ≤ 2147483647 := by unfold w32; omega
theorem w32_aw (x y : Int) : w32 (w32 x + y) = w32 (x + y) := by unfold w32; omega
theorem w32_wa (x y : Int) : w32 (x + w32 y) = w32 (x + y) := by unfold w32; omega
theorem w32_sw (x y : Int) : w32 (w32 x - y) = w32 (x - y) := by unfold w32; omega
theorem w32_ws (x y : Int) : w32 (x - w32 y) = w32 (x - y) := by unfold w32; omega
/-- the memory but for these numbers -/
def Fr (A : List Nat) (μ μ' : zM) : Prop := ∀ b, b ∉ A → μ' b = μ b
theorem Fr.refl {A : List Nat} {μ : zM} : Fr A μ μ := fun _ _ => rfl
theorem Fr.trans {A : List Nat} {μ μ' μ'' : zM} (h1 : Fr A μ μ') (h2 : Fr A μ' μ'') : Fr A μ μ'' := fun b hb => (h2 b hb).trans (h1 b hb)
theorem Fr.mono {A B : List Nat} {μ μ' : zM} (h : Fr A μ μ') (hs : ∀ a ∈ A, a ∈ B) : Fr B μ μ' := fun b hb => h b (fun ha => hb (hs b ha))
theorem Fr.us {A : List Nat} {μ μ' : zM} {a : Nat} {f : Nat → Int} (ha : a ∈ A) (h : Fr A μ μ') : Fr A μ (us μ' a f) := fun b hb => by
  have : b ≠ a := fun e => hb (e ▸ ha)
  rw [us_ne this]; exact h b hb
theorem Fr.ua {A : List Nat} {μ μ' : zM} {a k : Nat} {x : Int} (ha : a ∈ A) (h : Fr A μ μ') : Fr A μ (ua μ' a k x) := by rw [ua_eq]; exact Fr.us ha h
section LP
variable {d z h : Nat} {θ : zS} {Q : Option zV → zS → zM → Prop}
theorem Ex_loop {I : Nat → List zV → zM → Prop} (N : Nat)
    (step : ∀ t L μ, t < N → I t L μ → (∀ L' μ', I (t + 1) L' μ' → Ex d z h L' [] θ μ' Q) → Ex d z h L [] θ μ Q)
    (last : ∀ L μ, I N L μ → Ex d z h L [] θ μ Q) : ∀ t L μ, t ≤ N → I t L μ → Ex d z h L [] θ μ Q := by
  have key : ∀ k t L μ, t + k = N → I t L μ → Ex d z h L [] θ μ Q := by
    intro k
    induction k with
    | zero => intro t L μ ht hI; have : t = N := by omega
              subst this; exact last L μ hI
    | succ k ih => intro t L μ ht hI; exact step t L μ (by omega) hI (fun L' μ' hI' => ih (t + 1) L' μ' (by omega) hI')
  intro t L μ ht hI
  exact key (N - t) t L μ (by omega) hI
theorem Ex_while {I : Nat → List zV → zM → Prop}
    (step : ∀ k L μ, I k L μ → (∀ k' L' μ', k' < k → I k' L' μ' → Ex d z h L' [] θ μ' Q) → Ex d z h L [] θ μ Q) : ∀ k L μ, I k L μ → Ex d z h L [] θ μ Q := by
  intro k
  induction k using Nat.strongRecOn with
  | _ k ih => intro L μ hI; exact step k L μ hI (fun k' L' μ' hk hI' => ih k' hk L' μ' hI')
end LP
theorem zcopy_us (μ : zM) (a b n : Nat) : zcopy μ a 0 b 0 n = us μ b (fun j => if j < n then μ a j else μ b j) := by
  funext q j
  by_cases h : q = b
  · subst h; simp [zcopy, us]
  · simp [zcopy, us, h]
/-- sums, as both programs make them -/
def sm (f : Nat → Int) : Nat → Int
  | 0 => 0
  | n + 1 => sm f n + f n
theorem sm_congr {f g : Nat → Int} {n : Nat} (h : ∀ i, i < n → f i = g i) : sm f n = sm g n := by
  induction n with
  | zero => rfl
  | succ n ih => simp only [sm]; rw [ih (fun i hi => h i (by omega)), h n (by omega)]
theorem sm_le {f : Nat → Int} {n : Nat} {b : Int} (h : ∀ i, i < n → f i ≤ b) : sm f n ≤ b * n := by
  induction n with
  | zero => simp [sm]
  | succ n ih =>
    have h1 := ih (fun i hi => h i (by omega)); have h2 := h n (by omega)
    simp only [sm]
    have : b * ((n + 1 : Nat) : Int) = b * n + b := by rw [Int.natCast_add, Int.mul_add]; simp
    omega
theorem sm_nn {f : Nat → Int} {n : Nat} (h : ∀ i, i < n → 0 ≤ f i) : 0 ≤ sm f n := by
  induction n with
  | zero => simp [sm]
  | succ n ih => have h1 := ih (fun i hi => h i (by omega)); have h2 := h n (by omega); simp only [sm]; omega
theorem sm_add {f g : Nat → Int} {n : Nat} : sm (fun i => f i + g i) n = sm f n + sm g n := by
  induction n with
  | zero => rfl
  | succ n ih => simp only [sm]; rw [ih]; omega
theorem sm_upd {f : Nat → Int} {n k : Nat} {x : Int} : sm (zup f k x) n = if k < n then sm f n - f k + x else sm f n := by
  induction n with
  | zero => simp [sm]
  | succ n ih =>
    simp only [sm]; rw [ih]
    by_cases h : k < n
    · rw [if_pos h, if_pos (by omega), zup_ne (by omega)]; omega
    · by_cases h2 : k = n
      · subst h2; rw [if_neg h, if_pos (by omega), zup_same rfl]; omega
      · rw [if_neg h, if_neg (by omega), zup_ne (by omega)]
theorem sm_zero {n : Nat} : sm (fun _ => 0) n = 0 := by
  induction n with
  | zero => rfl
  | succ n ih => simp only [sm]; rw [ih]; omega
/-! the library's leaves -/
theorem eMax (d : Nat) (x y : Int) (θ : zS) (μ : zM) (Q : Option zV → zS → zM → Prop) : Ex d 293 0 [vi x, vi y] [] θ μ Q = Q (some (vi (if x < y then y else x))) θ μ := by
  simp only [x293_0, x293_1, x293_2, x293_5, x293_6, x293_9, x293_10, ↓reduceIte, Bool.false_eq_true, Nat.reduceAdd, Nat.reduceLT, Nat.reduceLeDiff, Nat.reduceSub, Nat.reduceEqDiff, Int.reduceToNat, Int.reduceEq, Int.reduceLT, Int.reduceLE, Int.reduceAdd, Int.reduceSub, zg, zI, zJ, zR, zst, zkl, zn, zcat, zok, zraw, List.length_cons, List.length_nil, Option.toList, List.nil_append, List.cons_append, true_and, and_true, if_true, if_false, ne_eq, not_true, not_false_eq_true, and_self, true_or, or_true, false_or, or_false, false_and, and_false]
  by_cases h : x < y <;> simp only [h, if_true, if_false]
theorem eMin (d : Nat) (x y : Int) (θ : zS) (μ : zM) (Q : Option zV → zS → zM → Prop) : Ex d 294 0 [vi x, vi y] [] θ μ Q = Q (some (vi (if y < x then y else x))) θ μ := by
  simp only [x294_0, x294_1, x294_2, x294_5, x294_6, x294_9, x294_10, ↓reduceIte, Bool.false_eq_true, Nat.reduceAdd, Nat.reduceLT, Nat.reduceLeDiff, Nat.reduceSub, Nat.reduceEqDiff, Int.reduceToNat, Int.reduceEq, Int.reduceLT, Int.reduceLE, Int.reduceAdd, Int.reduceSub, zg, zI, zJ, zR, zst, zkl, zn, zcat, zok, zraw, List.length_cons, List.length_nil, Option.toList, List.nil_append, List.cons_append, true_and, and_true, if_true, if_false, ne_eq, not_true, not_false_eq_true, and_self, true_or, or_true, false_or, or_false, false_and, and_false]
  by_cases h : y < x <;> simp only [h, if_true, if_false]
theorem eFill {d a n : Nat} {x : Int} {v w : zV} {θ : zS} {μ : zM} {Q : Option zV → zS → zM → Prop} (h2 : 2 ≤ a) (ha : θ.1[a]? = some (.inr (.int, n))) (hn : n < 2147483647)
    (hQ : Q none θ (us μ a (fun j => if j < n then x else μ a j))) : Ex d 295 0 [vr a, vi x, v, w] [] θ μ Q := by
  have key : ∀ t L μ1, t ≤ n → (L = [vr a, vi x, vi (t : Nat), vi (n : Nat)] ∧ μ1 = us μ a (fun j => if j < t then x else μ a j)) → Ex d 295 5 L [] θ μ1 Q := by
    refine Ex_loop (I := fun t L μ1 => L = [vr a, vi x, vi (t : Nat), vi (n : Nat)] ∧ μ1 = us μ a (fun j => if j < t then x else μ a j)) n ?_ ?_
    · rintro t L μ1 ht ⟨rfl, rfl⟩ hk
      rw [x295_5]
      have h3 : ¬ ((n : Int) ≤ (t : Int)) := by omega
      simp (disch := omega) only [x295_0, x295_1, x295_2, x295_3, x295_4, x295_6, x295_7, x295_10, x295_11, x295_12, x295_13, x295_14, x295_17, x295_20, ↓reduceIte, Bool.false_eq_true, Nat.reduceAdd, Nat.reduceLT, Nat.reduceLeDiff, Nat.reduceSub, Nat.reduceEqDiff, Int.reduceToNat, Int.reduceEq, Int.reduceLT, Int.reduceLE, Int.reduceAdd, Int.reduceSub, zg, zI, zJ, zR, zst, zkl, zn, zcat, zok, zraw, List.length_cons, List.length_nil, Option.toList, List.nil_append, List.cons_append, true_and, and_true, if_true, if_false, ne_eq, not_true, not_false_eq_true, and_self, true_or, or_true, false_or, or_false, false_and, and_false, zix_T ha, h2, h3, w32_s]
      apply hk
      refine ⟨rfl, ?_⟩
      rw [ua_eq, us_same, us_us]
      congr 1
      funext j
      simp only [Int.toNat_natCast, zup]
      by_cases hj : j = t
      · subst hj; simp
      · by_cases hj2 : j < t
        · simp [hj, hj2]; omega
        · have : ¬ j < t + 1 := by omega
          simp [hj, hj2, this]
    · rintro L μ1 ⟨rfl, rfl⟩
      rw [x295_5]
      simp only [x295_0, x295_1, x295_2, x295_3, x295_4, x295_6, x295_7, x295_10, x295_11, x295_12, x295_13, x295_14, x295_17, x295_20, ↓reduceIte, Bool.false_eq_true, Nat.reduceAdd, Nat.reduceLT, Nat.reduceLeDiff, Nat.reduceSub, Nat.reduceEqDiff, Int.reduceToNat, Int.reduceEq, Int.reduceLT, Int.reduceLE, Int.reduceAdd, Int.reduceSub, zg, zI, zJ, zR, zst, zkl, zn, zcat, zok, zraw, List.length_cons, List.length_nil, Option.toList, List.nil_append, List.cons_append, true_and, and_true, if_true, if_false, ne_eq, not_true, not_false_eq_true, and_self, true_or, or_true, false_or, or_false, false_and, and_false, Int.le_refl]
      exact hQ
  simp only [x295_0, x295_1, x295_2, x295_3, x295_4, x295_6, x295_7, x295_10, x295_11, x295_12, x295_13, x295_14, x295_17, x295_20, ↓reduceIte, Bool.false_eq_true, Nat.reduceAdd, Nat.reduceLT, Nat.reduceLeDiff, Nat.reduceSub, Nat.reduceEqDiff, Int.reduceToNat, Int.reduceEq, Int.reduceLT, Int.reduceLE, Int.reduceAdd, Int.reduceSub, zg, zI, zJ, zR, zst, zkl, zn, zcat, zok, zraw, List.length_cons, List.length_nil, Option.toList, List.nil_append, List.cons_append, true_and, and_true, if_true, if_false, ne_eq, not_true, not_false_eq_true, and_self, true_or, or_true, false_or, or_false, false_and, and_false, x295_3 d _ _ _ _ _ a n ha]
  exact key 0 _ _ (by omega) ⟨rfl, by rw [us_id]; intro j; simp⟩
theorem eMix (d : Nat) (x y : Int) (θ : zS) (μ : zM) (Q : Option zV → zS → zM → Prop) (v : zV) : Ex d 7 0 [vi x, vi y, v] [] θ μ Q = Ex d 271 0 [vi x, vi y, v] [] θ μ Q := by
  simp only [x7_0, x7_1, x7_2, x7_3, x7_5, x7_6, x7_9, x7_10, x7_11, x7_12, x7_13, x7_15, x7_16, x7_17, x271_0, x271_1, x271_2, x271_3, x271_6, x271_7, x271_10, x271_11, x271_12, x271_13, x271_14, x271_16, x271_17, x271_18, ↓reduceIte, Bool.false_eq_true, Nat.reduceAdd, Nat.reduceLT, Nat.reduceLeDiff, Nat.reduceSub, Nat.reduceEqDiff, Int.reduceToNat, Int.reduceEq, Int.reduceLT, Int.reduceLE, Int.reduceAdd, Int.reduceSub, zg, zI, zJ, zR, zst, zkl, zn, zcat, zok, zraw, List.length_cons, List.length_nil, Option.toList, List.nil_append, List.cons_append, true_and, and_true, if_true, if_false, ne_eq, not_true, not_false_eq_true, and_self, true_or, or_true, false_or, or_false, false_and, and_false]
