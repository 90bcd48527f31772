/-! THE REFERENCE reads: the later FAULTS, INTS in their bounds -/
def LR (F : Option (Nat × Nat)) (st : Nat → Int) (μ : zM) : Prop := match F with
  | none => μ 138 15 = 0
  | some x => μ 138 15 = (x.1 : Nat) ∧ μ 138 16 = st x.2
section WR
variable {θ : zS} {Q : Option zV → zS → zM → Prop} {μ : zM} {K : Nat → Nat} {V W st : Nat → Int} {Z : Nat}
theorem mWrong {d p k : Nat} {x3 : zV} {F : Option (Nat × Nat)} (hm : Tm θ) (hT : TR K V W st Z μ) (hp : p ≤ Z) (h13 : μ 138 13 = 0) (hF : LR F st μ) (hb : ∀ x, F = some x → 0 < x.1 ∧ (st x.2 < st p ∨ x = (k, p)))
    (hQ : ∀ μ', Fr [138] μ μ' → (∀ j, j ≠ 15 → j ≠ 16 → μ' 138 j = μ 138 j) → LR (ltO F k p) st μ' → Q none θ μ') : Ex d 177 0 [vr 138, vi (k : Nat), vi (p : Nat), x3] [] θ μ Q := by
  have hz := hT.1.1
  have i1 : (0 : Int) ≤ (p : Int) := by omega
  have i2 : (p : Int) < 403 := by omega
  have e1 := (hT.2.2.2 p hp).2.1
  have z0 : ¬ (0 : Int) < 0 := by omega
  cases F with
  | none =>
    have h15 : μ 138 15 = 0 := hF
    simp only [x177_0, x177_1, x177_4, x177_5, x177_6, x177_7, x177_8, x177_11, x177_14, x177_15, x177_18, x177_21, x177_22, x177_23, x177_26, x177_29, x177_30, x177_31, x177_34, x177_37, x177_38, x177_39, x177_42, x177_45, x177_46, x177_47, x177_48, x177_51, x177_52, x177_53, x177_56, ↓reduceIte, Bool.false_eq_true, Nat.reduceAdd, Nat.reduceLT, Nat.reduceLeDiff, Nat.reduceSub, Nat.reduceEqDiff, Int.reduceToNat, Int.reduceEq, Int.reduceLT, Int.reduceLE, Int.reduceAdd, Int.reduceSub, zg, zI, zJ, zR, zst, zkl, zn, zcat, zok, zraw, List.length_cons, List.length_nil, Option.toList, List.nil_append, List.cons_append, true_and, and_true, if_true, if_false, ne_eq, not_true, not_false_eq_true, and_self, true_or, or_true, false_or, or_false, false_and, and_false, b_138 hm, r_138_6 hm, x_142 hm i1 i2, h13, h15, z0, e1, ua_eq, us_same, Int.toNat_natCast]
    refine hQ _ (Fr.us (by simp) (Fr.us (by simp) Fr.refl)) (fun j h1 h2 => ?_) ⟨?_, ?_⟩
    · rw [us_same, zup_ne h2, zup_ne h1]
    · rw [us_same, zup_ne (by decide), zup_same rfl]
    · rw [us_same, zup_same rfl]
  | some x =>
    obtain ⟨h15, h16⟩ := hF
    obtain ⟨hx, hb⟩ := hb x rfl
    have c0 : ¬ ((x.1 : Nat) : Int) = 0 := by omega
    have done := hQ μ Fr.refl (fun _ _ _ => rfl) ⟨h15, h16⟩
    rcases hb with hb | hb
    · simp only [x177_0, x177_1, x177_4, x177_5, x177_6, x177_7, x177_8, x177_11, x177_14, x177_15, x177_18, x177_21, x177_22, x177_23, x177_26, x177_29, x177_30, x177_31, x177_34, x177_37, x177_38, x177_39, x177_42, x177_45, x177_46, x177_47, x177_48, x177_51, x177_52, x177_53, x177_56, ↓reduceIte, Bool.false_eq_true, Nat.reduceAdd, Nat.reduceLT, Nat.reduceLeDiff, Nat.reduceSub, Nat.reduceEqDiff, Int.reduceToNat, Int.reduceEq, Int.reduceLT, Int.reduceLE, Int.reduceAdd, Int.reduceSub, zg, zI, zJ, zR, zst, zkl, zn, zcat, zok, zraw, List.length_cons, List.length_nil, Option.toList, List.nil_append, List.cons_append, true_and, and_true, if_true, if_false, ne_eq, not_true, not_false_eq_true, and_self, true_or, or_true, false_or, or_false, false_and, and_false, b_138 hm, r_138_6 hm, x_142 hm i1 i2, h13, h15, h16, z0, e1, c0, hb, Int.toNat_natCast]
      exact done
    · subst hb
      have l1 : ¬ st p < st p := by omega
      have l2 : ¬ ((k : Nat) : Int) < (k : Nat) := by omega
      simp only [x177_0, x177_1, x177_4, x177_5, x177_6, x177_7, x177_8, x177_11, x177_14, x177_15, x177_18, x177_21, x177_22, x177_23, x177_26, x177_29, x177_30, x177_31, x177_34, x177_37, x177_38, x177_39, x177_42, x177_45, x177_46, x177_47, x177_48, x177_51, x177_52, x177_53, x177_56, ↓reduceIte, Bool.false_eq_true, Nat.reduceAdd, Nat.reduceLT, Nat.reduceLeDiff, Nat.reduceSub, Nat.reduceEqDiff, Int.reduceToNat, Int.reduceEq, Int.reduceLT, Int.reduceLE, Int.reduceAdd, Int.reduceSub, zg, zI, zJ, zR, zst, zkl, zn, zcat, zok, zraw, List.length_cons, List.length_nil, Option.toList, List.nil_append, List.cons_append, true_and, and_true, if_true, if_false, ne_eq, not_true, not_false_eq_true, and_self, true_or, or_true, false_or, or_false, false_and, and_false, b_138 hm, r_138_6 hm, x_142 hm i1 i2, h13, h15, h16, z0, e1, c0, l1, l2, Int.toNat_natCast]
      exact done
/-- this TOKEN and no other -/
theorem mMust {d p k : Nat} {c : Int} (hm : Tm θ) (hd : 2 ≤ d) (hT : TR K V W st Z μ) (hp : p ≤ Z) (h11 : μ 138 11 = (p : Nat)) (h13 : μ 138 13 = 0) (hk : k ≤ 48) (hc : c = rkO k)
    (hQ : match (expG K k p () : pR Unit) with
      | .inl e => ∀ μ', Fr [138] μ μ' → (∀ j, j ≠ 13 → j ≠ 14 → μ' 138 j = μ 138 j) → μ' 138 13 = (e.1 : Nat) → 0 < e.1 → μ' 138 14 = st e.2 → Q none θ μ'
      | .inr x => Q none θ (us μ 138 (zup (μ 138) 11 (x.1 : Nat)))) : Ex d 179 0 [vr 138, vi c] [] θ μ Q := by
  have hd0 : 0 < d := by omega
  unfold expG at hQ
  by_cases h : K p = k
  · rw [if_pos h] at hQ
    simp only [x179_0, x179_1, x179_2, x179_5, x179_8, x179_9, x179_12, x179_15, x179_16, x179_17, x179_20, ↓reduceIte, Bool.false_eq_true, Nat.reduceAdd, Nat.reduceLT, Nat.reduceLeDiff, Nat.reduceSub, Nat.reduceEqDiff, Int.reduceToNat, Int.reduceEq, Int.reduceLT, Int.reduceLE, Int.reduceAdd, Int.reduceSub, zg, zI, zJ, zR, zst, zkl, zn, zcat, zok, zraw, List.length_cons, List.length_nil, Option.toList, List.nil_append, List.cons_append, true_and, and_true, if_true, if_false, ne_eq, not_true, not_false_eq_true, and_self, true_or, or_true, false_or, or_false, false_and, and_false, b_138 hm, hd0, eIs _ hm hT hp h11 h13 hk hc, decide_eq_true h, b2]
    refine mGoes (d := d - 1) hm (by omega) hT hp h11 h13 (fun h4 => ?_) (fun h4 μ' f j g1 g2 => ?_)
    · simp only [x179_0, x179_1, x179_2, x179_5, x179_8, x179_9, x179_12, x179_15, x179_16, x179_17, x179_20, ↓reduceIte, Bool.false_eq_true, Nat.reduceAdd, Nat.reduceLT, Nat.reduceLeDiff, Nat.reduceSub, Nat.reduceEqDiff, Int.reduceToNat, Int.reduceEq, Int.reduceLT, Int.reduceLE, Int.reduceAdd, Int.reduceSub, zg, zI, zJ, zR, zst, zkl, zn, zcat, zok, zraw, List.length_cons, List.length_nil, Option.toList, List.nil_append, List.cons_append, true_and, and_true, if_true, if_false, ne_eq, not_true, not_false_eq_true, and_self, true_or, or_true, false_or, or_false, false_and, and_false]
      rw [nx_lt h4] at hQ; exact hQ
    · simp only [x179_0, x179_1, x179_2, x179_5, x179_8, x179_9, x179_12, x179_15, x179_16, x179_17, x179_20, ↓reduceIte, Bool.false_eq_true, Nat.reduceAdd, Nat.reduceLT, Nat.reduceLeDiff, Nat.reduceSub, Nat.reduceEqDiff, Int.reduceToNat, Int.reduceEq, Int.reduceLT, Int.reduceLE, Int.reduceAdd, Int.reduceSub, zg, zI, zJ, zR, zst, zkl, zn, zcat, zok, zraw, List.length_cons, List.length_nil, Option.toList, List.nil_append, List.cons_append, true_and, and_true, if_true, if_false, ne_eq, not_true, not_false_eq_true, and_self, true_or, or_true, false_or, or_false, false_and, and_false]
      rw [nx_ge h4] at hQ; exact hQ μ' f j g1 (by simp) g2
  · rw [if_neg h] at hQ
    simp only [x179_0, x179_1, x179_2, x179_5, x179_8, x179_9, x179_12, x179_15, x179_16, x179_17, x179_20, ↓reduceIte, Bool.false_eq_true, Nat.reduceAdd, Nat.reduceLT, Nat.reduceLeDiff, Nat.reduceSub, Nat.reduceEqDiff, Int.reduceToNat, Int.reduceEq, Int.reduceLT, Int.reduceLE, Int.reduceAdd, Int.reduceSub, zg, zI, zJ, zR, zst, zkl, zn, zcat, zok, zraw, List.length_cons, List.length_nil, Option.toList, List.nil_append, List.cons_append, true_and, and_true, if_true, if_false, ne_eq, not_true, not_false_eq_true, and_self, true_or, or_true, false_or, or_false, false_and, and_false, b_138 hm, hd0, eIs _ hm hT hp h11 h13 hk hc, decide_eq_false h, b2]
    refine mFail (d := d - 1) hm hT hp h11 h13 (fun μ' f j g1 g2 => ?_)
    simp only [x179_0, x179_1, x179_2, x179_5, x179_8, x179_9, x179_12, x179_15, x179_16, x179_17, x179_20, ↓reduceIte, Bool.false_eq_true, Nat.reduceAdd, Nat.reduceLT, Nat.reduceLeDiff, Nat.reduceSub, Nat.reduceEqDiff, Int.reduceToNat, Int.reduceEq, Int.reduceLT, Int.reduceLE, Int.reduceAdd, Int.reduceSub, zg, zI, zJ, zR, zst, zkl, zn, zcat, zok, zraw, List.length_cons, List.length_nil, Option.toList, List.nil_append, List.cons_append, true_and, and_true, if_true, if_false, ne_eq, not_true, not_false_eq_true, and_self, true_or, or_true, false_or, or_false, false_and, and_false]
    exact hQ μ' f j g1 (by simp) g2
theorem eMustF {d : Nat} {c : Int} (hm : Tm θ) (hd : 0 < d) (h13 : 0 < μ 138 13) : Ex d 179 0 [vr 138, vi c] [] θ μ Q = Q none θ μ := by
  simp only [x179_0, x179_1, x179_2, x179_5, x179_8, x179_9, x179_12, x179_15, x179_16, x179_17, x179_20, ↓reduceIte, Bool.false_eq_true, Nat.reduceAdd, Nat.reduceLT, Nat.reduceLeDiff, Nat.reduceSub, Nat.reduceEqDiff, Int.reduceToNat, Int.reduceEq, Int.reduceLT, Int.reduceLE, Int.reduceAdd, Int.reduceSub, zg, zI, zJ, zR, zst, zkl, zn, zcat, zok, zraw, List.length_cons, List.length_nil, Option.toList, List.nil_append, List.cons_append, true_and, and_true, if_true, if_false, ne_eq, not_true, not_false_eq_true, and_self, true_or, or_true, false_or, or_false, false_and, and_false, b_138 hm, hd, eIsF _ hm h13, eFailF _ hm h13]
end WR
