/-! THE REFERENCE reads: a UNIT, and what waits -/
def gdO : List Nat → Prop
  | [] => True
  | x :: w => gdO w ∧ ((x = 14 ∧ w.length ≤ 3 * opnO w + 2) ∨ ((x = 6 ∨ x = 7) ∧ w.length ≤ 3 * opnO w) ∨ ((x = 8 ∨ x = 9) ∧ w.length ≤ 3 * opnO w + 1))
theorem opn_14 (w : List Nat) : opnO (14 :: w) = opnO w + 1 := rfl
theorem opn_n {x : Nat} {w : List Nat} (h : ¬ x = 14) : opnO (x :: w) = opnO w := by simp [opnO, h]
theorem gd_len {w : List Nat} (h : gdO w) : w.length ≤ 3 * opnO w + 2 := by
  cases w with
  | nil => simp
  | cons x w =>
    obtain ⟨_, h2⟩ := h
    rw [List.length_cons]
    by_cases q : x = 14
    · subst q; rw [opn_14]; omega
    · rw [opn_n q]; omega
theorem gd_mem : ∀ {w : List Nat}, gdO w → ∀ x ∈ w, x = 14 ∨ (6 ≤ x ∧ x ≤ 9) := by
  intro w
  induction w with
  | nil => intro _ x hx; cases hx
  | cons y w ih =>
    intro h x hx
    rcases List.mem_cons.mp hx with rfl | hx
    · have := h.2; omega
    · exact ih h.1 x hx
theorem gd_out {s : Bool} : ∀ {w : List Nat} {c : zC}, gdO w → gdO (outO s w c).1 ∧ (outO s w c).1.length ≤ 3 * opnO w + (if s = true then 1 else 0) ∧ opnO (outO s w c).1 = opnO w ∧ (outO s w c).2.length + (outO s w c).1.length = c.length + w.length ∧ (s = false → 0 < opnO w → ∃ u, (outO s w c).1 = 14 :: u) := by
  intro w
  induction w with
  | nil => intro c _; exact ⟨trivial, by simp [outO], rfl, by simp [outO], fun _ h => by simp [opnO] at h⟩
  | cons x w ih =>
    intro c h
    by_cases st : x = 14 ∨ (s = true ∧ (x = 6 ∨ x = 7))
    · have ho : outO s (x :: w) c = (x :: w, c) := out_top st
      rw [ho]
      refine ⟨h, ?_, rfl, by simp, fun hs _ => ?_⟩
      · have := h.2
        simp only [List.length_cons]
        rcases st with rfl | ⟨rfl, h67⟩
        · rw [opn_14]; omega
        · rw [opn_n (by omega), if_pos rfl]; omega
      · rcases st with rfl | ⟨hh, _⟩
        · exact ⟨w, rfl⟩
        · rw [hs] at hh; cases hh
    · have x14 : ¬ x = 14 := fun hh => st (Or.inl hh)
      rw [out_cons st, opn_n x14]
      obtain ⟨g1, g2, g3, g4, g5⟩ := ih (c := c ++ [(x - 4, 0)]) h.1
      refine ⟨g1, g2, g3, ?_, g5⟩
      rw [g4]; simp; omega
/-- the other side's code stays -/
def SA (μ0 μ : zM) : Prop := ∀ i : Nat, ((i / 420 : Nat) : Int) ≠ μ0 138 19 → μ 167 i = μ0 167 i ∧ μ 168 i = μ0 168 i
def FQ (st : Nat → Int) (e : Nat × Nat) (μ0 μ' : zM) : Prop := (Fr [138, 167, 168, 169] μ0 μ' ∧ SA μ0 μ') ∧ 0 < e.1 ∧ μ' 138 13 = (e.1 : Nat) ∧ μ' 138 14 = st e.2 ∧ (∀ j, j ≠ 11 → j ≠ 12 → j ≠ 13 → j ≠ 14 → j ≠ 43 → j ≠ 47 → μ' 138 j = μ0 138 j) ∧ ∃ q : Nat, q ≤ 400 ∧ μ' 138 11 = (q : Nat)
section UN
variable {θ : zS} {Q : Option zV → zS → zM → Prop} {μ μ0 : zM} {K : Nat → Nat} {V W st : Nat → Int} {Z a : Nat}
/-- a fault, from a good state -/
theorem FQ_of {e : Nat × Nat} {w : List Nat} {c : zC} {p : Nat} {μ' : zM} (h : QE a w c μ0 μ) (he : 0 < e.1) (hp : p ≤ 400) (h11 : μ 138 11 = (p : Nat)) (f : Fr [138] μ μ') (j : ∀ j, j ≠ 13 → j ≠ 14 → μ' 138 j = μ 138 j) (h13 : μ' 138 13 = (e.1 : Nat)) (h14 : μ' 138 14 = st e.2) : FQ st e μ0 μ' :=
  ⟨⟨h.1.trans (f.mono (by simp)), fun i hi => by rw [f 167 (by decide), f 168 (by decide)]; exact h.2.2.2.2.2.1 i (Or.inr hi)⟩, he, h13, h14, fun q q1 q2 q3 q4 q5 q6 => by rw [j q q3 q4]; exact h.2.2.2.2.1 q q1 q2 q5 q6, p, hp, by rw [j 11 (by decide) (by decide)]; exact h11⟩
/-- such a state is as good as another start -/
theorem QE_self {w : List Nat} {c : zC} {μ' : zM} (h : QE a w c μ0 μ) (f : Fr [138] μ μ') (j : ∀ j, j ≠ 11 → j ≠ 12 → j ≠ 13 → j ≠ 14 → μ' 138 j = μ 138 j) : QE a w c μ' μ' := by
  obtain ⟨hf, h47, hw, h43, hj, ha, hc⟩ := h
  refine ⟨Fr.refl, ?_, ?_, ?_, fun _ _ _ _ _ => rfl, fun _ _ => ⟨rfl, rfl⟩, fun i hi => ?_⟩
  · rw [j 47 (by decide) (by decide) (by decide) (by decide)]; exact h47
  · rw [f 169 (by decide)]; exact hw
  · rw [j 43 (by decide) (by decide) (by decide) (by decide)]; exact h43
  · rw [f 167 (by decide), f 168 (by decide)]; exact hc i hi
theorem QE_11 {w : List Nat} {c : zC} {k : Nat} {y : Int} (h : QE a w c μ0 μ) (hk : k = 11 ∨ k = 12) : QE a w c μ0 (us μ 138 (zup (μ 138) k y)) := by
  obtain ⟨hf, h47, hw, h43, hj, ha, hc⟩ := h
  refine ⟨Fr.us (by simp) hf, ?_, ?_, ?_, fun j j1 j2 j3 j4 => ?_, fun i hi => ?_, fun i hi => ?_⟩
  · rw [us_same, zup_ne (by omega)]; exact h47
  · rw [us_ne (by decide)]; exact hw
  · rw [us_same, zup_ne (by omega)]; exact h43
  · rw [us_same, zup_ne (by omega)]; exact hj j j1 j2 j3 j4
  · rw [us_ne (by decide), us_ne (by decide)]; exact ha i hi
  · rw [us_ne (by decide), us_ne (by decide)]; exact hc i hi
def unO (K : Nat → Nat) (V : Nat → Int) (p : Nat) : pR zC := if K p = 2 then nx p [(0, V p)] else if 36 ≤ K p ∧ K p ≤ 48 then nx p [(1, ((K p - 36 : Nat) : Int))] else .inl (1, p)
def mUQ (st : Nat → Int) (a : Nat) (w : List Nat) (c : zC) (o : Int) (μ0 : zM) (θ : zS) (Q : Option zV → zS → zM → Prop) (r : pR zC) : Prop := match r with
  | .inl e => ∀ μ', FQ st e μ0 μ' → Q none θ μ'
  | .inr x => ∀ μ', QE a w (c ++ x.2) μ0 μ' → μ' 138 11 = (x.1 : Nat) → μ' 138 12 = o → Q none θ μ'
theorem TR_QE {w : List Nat} {c : zC} (h : TR K V W st Z μ0) (hq : QE a w c μ0 μ) : TR K V W st Z μ := TR_fr h hq.1 (by decide) (by decide) (by decide) (by decide)
theorem mUnit {d p : Nat} {w : List Nat} {c : zC} {o : Int} (hm : Tm θ) (hd : 2 ≤ d) (hT0 : TR K V W st Z μ0) (h0 : μ0 138 13 = 0) (hp : p ≤ Z) (h19 : μ0 138 19 = (((a + c.length) / 420 : Nat) : Int)) (hb : a + c.length < 840) (h : QE a w c μ0 μ) (h11 : μ 138 11 = (p : Nat)) (h12 : μ 138 12 = o) (hq : mUQ st a w c o μ0 θ Q (unO K V p)) : Ex d 191 0 [vr 138] [] θ μ Q := by
  have hd0 : 0 < d := by omega
  have hT := TR_QE hT0 h
  have hz := hT.1.1
  have h13 : μ 138 13 = 0 := by rw [h.2.2.2.2.1 13 (by decide) (by decide) (by decide) (by decide)]; exact h0
  have i1 : (0 : Int) ≤ (p : Int) := by omega
  have i2 : (p : Int) < 403 := by omega
  have eT := hT.2.2.2 p hp
  have fin : ∀ {y : Nat × Int} {μ1 : zM} (pc : Nat), (pc = 22 ∨ pc = 81) → QE a w (c ++ [y]) μ0 μ1 → μ1 138 11 = μ 138 11 → μ1 138 12 = μ 138 12 → mUQ st a w c o μ0 θ Q (nx p [y]) → Ex d 191 pc [vr 138] [] θ μ1 Q := by
    intro y μ1 pc hpc g g11 g12 gq
    have hT1 := TR_QE hT0 g
    have k13 : μ1 138 13 = 0 := by rw [g.2.2.2.2.1 13 (by decide) (by decide) (by decide) (by decide)]; exact h0
    have k11 := g11.trans h11
    rcases hpc with rfl | rfl
    all_goals
      simp only [x191_0, x191_1, x191_2, x191_5, x191_8, x191_9, x191_10, x191_11, x191_14, x191_15, x191_18, x191_19, x191_22, x191_23, x191_26, x191_29, x191_30, x191_33, x191_36, x191_37, x191_40, x191_41, x191_44, x191_45, x191_47, x191_50, x191_51, x191_54, x191_55, x191_58, x191_59, x191_61, x191_64, x191_65, x191_66, x191_67, x191_70, x191_71, x191_74, x191_75, x191_77, x191_78, x191_81, x191_82, x191_85, x191_88, x191_89, x191_90, x191_93, ↓reduceIte, Bool.false_eq_true, Nat.reduceAdd, Nat.reduceLT, Nat.reduceLeDiff, Nat.reduceSub, Nat.reduceEqDiff, Int.reduceToNat, Int.reduceEq, Int.reduceLT, Int.reduceLE, Int.reduceAdd, Int.reduceSub, zg, zI, zJ, zR, zst, zkl, zn, zcat, zok, zraw, List.length_cons, List.length_nil, Option.toList, List.nil_append, List.cons_append, true_and, and_true, if_true, if_false, ne_eq, not_true, not_false_eq_true, and_self, true_or, or_true, false_or, or_false, false_and, and_false, b_138 hm, hd0]
      refine mGoes (d := d - 1) hm (by omega) hT1 hp k11 k13 (fun h4 => ?_) (fun h4 μ' f j q1 q2 => ?_)
      · simp only [x191_0, x191_1, x191_2, x191_5, x191_8, x191_9, x191_10, x191_11, x191_14, x191_15, x191_18, x191_19, x191_22, x191_23, x191_26, x191_29, x191_30, x191_33, x191_36, x191_37, x191_40, x191_41, x191_44, x191_45, x191_47, x191_50, x191_51, x191_54, x191_55, x191_58, x191_59, x191_61, x191_64, x191_65, x191_66, x191_67, x191_70, x191_71, x191_74, x191_75, x191_77, x191_78, x191_81, x191_82, x191_85, x191_88, x191_89, x191_90, x191_93, ↓reduceIte, Bool.false_eq_true, Nat.reduceAdd, Nat.reduceLT, Nat.reduceLeDiff, Nat.reduceSub, Nat.reduceEqDiff, Int.reduceToNat, Int.reduceEq, Int.reduceLT, Int.reduceLE, Int.reduceAdd, Int.reduceSub, zg, zI, zJ, zR, zst, zkl, zn, zcat, zok, zraw, List.length_cons, List.length_nil, Option.toList, List.nil_append, List.cons_append, true_and, and_true, if_true, if_false, ne_eq, not_true, not_false_eq_true, and_self, true_or, or_true, false_or, or_false, false_and, and_false]
        rw [nx_lt h4] at gq
        exact gq _ (QE_11 g (Or.inl rfl)) (by rw [us_same, zup_same rfl]) (by rw [us_same, zup_ne (by decide), g12, h12])
      · simp only [x191_0, x191_1, x191_2, x191_5, x191_8, x191_9, x191_10, x191_11, x191_14, x191_15, x191_18, x191_19, x191_22, x191_23, x191_26, x191_29, x191_30, x191_33, x191_36, x191_37, x191_40, x191_41, x191_44, x191_45, x191_47, x191_50, x191_51, x191_54, x191_55, x191_58, x191_59, x191_61, x191_64, x191_65, x191_66, x191_67, x191_70, x191_71, x191_74, x191_75, x191_77, x191_78, x191_81, x191_82, x191_85, x191_88, x191_89, x191_90, x191_93, ↓reduceIte, Bool.false_eq_true, Nat.reduceAdd, Nat.reduceLT, Nat.reduceLeDiff, Nat.reduceSub, Nat.reduceEqDiff, Int.reduceToNat, Int.reduceEq, Int.reduceLT, Int.reduceLE, Int.reduceAdd, Int.reduceSub, zg, zI, zJ, zR, zst, zkl, zn, zcat, zok, zraw, List.length_cons, List.length_nil, Option.toList, List.nil_append, List.cons_append, true_and, and_true, if_true, if_false, ne_eq, not_true, not_false_eq_true, and_self, true_or, or_true, false_or, or_false, false_and, and_false]
        rw [nx_ge h4] at gq
        exact gq μ' (FQ_of g (by simp) (by omega) k11 f j q1 q2)
  unfold unO at hq
  by_cases k2 : K p = 2
  · rw [if_pos k2] at hq
    have eV := eT.2.2.1 k2
    simp only [x191_0, x191_1, x191_2, x191_5, x191_8, x191_9, x191_10, x191_11, x191_14, x191_15, x191_18, x191_19, x191_23, x191_26, x191_29, x191_30, x191_33, x191_36, x191_37, x191_40, x191_41, x191_44, x191_45, x191_47, x191_50, x191_51, x191_54, x191_55, x191_58, x191_59, x191_61, x191_64, x191_65, x191_66, x191_67, x191_70, x191_71, x191_74, x191_75, x191_77, x191_78, x191_81, x191_82, x191_85, x191_88, x191_89, x191_90, x191_93, ↓reduceIte, Bool.false_eq_true, Nat.reduceAdd, Nat.reduceLT, Nat.reduceLeDiff, Nat.reduceSub, Nat.reduceEqDiff, Int.reduceToNat, Int.reduceEq, Int.reduceLT, Int.reduceLE, Int.reduceAdd, Int.reduceSub, zg, zI, zJ, zR, zst, zkl, zn, zcat, zok, zraw, List.length_cons, List.length_nil, Option.toList, List.nil_append, List.cons_append, true_and, and_true, if_true, if_false, ne_eq, not_true, not_false_eq_true, and_self, true_or, or_true, false_or, or_false, false_and, and_false, b_138 hm, r_138_7 hm, x_143 hm i1 i2, hd0, eIs _ hm hT hp h11 h13 (show 2 ≤ 48 by decide) (show (2 : Int) = rkO 2 from rfl), k2, decide_true, b2, h11, Int.toNat_natCast, eV]
    refine mEmit (d := d - 1) (k := 0) hm rfl h h19 hb (fun μ1 g g11 g12 => ?_)
    exact fin 22 (Or.inl rfl) g g11 g12 hq
  · rw [if_neg k2] at hq
    by_cases kv : 36 ≤ K p ∧ K p ≤ 48
    · rw [if_pos kv] at hq
      have ek : rkO (K p) = (K p : Int) + 4 := by unfold rkO; simp only [show ¬ K p = 0 by omega, show ¬ K p = 1 by omega, show ¬ K p = 2 by omega, show ¬ K p = 3 by omega, show ¬ K p = 4 by omega, show ¬ K p = 5 by omega, show ¬ K p = 6 by omega, show ¬ K p = 7 by omega, show ¬ K p = 8 by omega, show ¬ K p = 9 by omega, show ¬ K p = 10 by omega, show ¬ K p = 11 by omega, show ¬ K p = 12 by omega, show ¬ K p = 13 by omega, show ¬ K p = 14 by omega, show ¬ K p = 15 by omega, show ¬ K p ≤ 25 by omega, show ¬ K p ≤ 31 by omega, show ¬ K p = 32 by omega, if_false]
      have e5 := eT.1.trans ek
      have c1 : ¬ ((K p : Nat) : Int) + 4 < 40 := by omega
      have c2 : ¬ (52 : Int) < ((K p : Nat) : Int) + 4 := by omega
      have ew : w32 (((K p : Nat) : Int) + 4 - 40) = ((K p - 36 : Nat) : Int) := by rw [w32_i (by omega) (by omega)]; omega
      simp only [x191_0, x191_1, x191_2, x191_5, x191_8, x191_9, x191_10, x191_11, x191_14, x191_15, x191_18, x191_19, x191_22, x191_23, x191_26, x191_29, x191_30, x191_33, x191_36, x191_37, x191_40, x191_41, x191_44, x191_45, x191_47, x191_50, x191_51, x191_54, x191_55, x191_58, x191_59, x191_61, x191_64, x191_65, x191_66, x191_67, x191_70, x191_71, x191_74, x191_75, x191_77, x191_78, x191_82, x191_85, x191_88, x191_89, x191_90, x191_93, ↓reduceIte, Bool.false_eq_true, Nat.reduceAdd, Nat.reduceLT, Nat.reduceLeDiff, Nat.reduceSub, Nat.reduceEqDiff, Int.reduceToNat, Int.reduceEq, Int.reduceLT, Int.reduceLE, Int.reduceAdd, Int.reduceSub, zg, zI, zJ, zR, zst, zkl, zn, zcat, zok, zraw, List.length_cons, List.length_nil, Option.toList, List.nil_append, List.cons_append, true_and, and_true, if_true, if_false, ne_eq, not_true, not_false_eq_true, and_self, true_or, or_true, false_or, or_false, false_and, and_false, b_138 hm, r_138_5 hm, x_141 hm i1 i2, hd0, eIs _ hm hT hp h11 h13 (show 2 ≤ 48 by decide) (show (2 : Int) = rkO 2 from rfl), decide_eq_false k2, b2, h11, h13, Int.toNat_natCast, e5, c1, c2, ew]
      refine mEmit (d := d - 1) (k := 1) hm rfl h h19 hb (fun μ1 g g11 g12 => ?_)
      exact fin 81 (Or.inr rfl) g g11 g12 hq
    · rw [if_neg kv] at hq
      have bad : Ex d 191 88 [vr 138] [] θ μ Q := by
        simp only [x191_0, x191_1, x191_2, x191_5, x191_8, x191_9, x191_10, x191_11, x191_14, x191_15, x191_18, x191_19, x191_22, x191_23, x191_26, x191_29, x191_30, x191_33, x191_36, x191_37, x191_40, x191_41, x191_44, x191_45, x191_47, x191_50, x191_51, x191_54, x191_55, x191_58, x191_59, x191_61, x191_64, x191_65, x191_66, x191_67, x191_70, x191_71, x191_74, x191_75, x191_77, x191_78, x191_81, x191_82, x191_85, x191_88, x191_89, x191_90, x191_93, ↓reduceIte, Bool.false_eq_true, Nat.reduceAdd, Nat.reduceLT, Nat.reduceLeDiff, Nat.reduceSub, Nat.reduceEqDiff, Int.reduceToNat, Int.reduceEq, Int.reduceLT, Int.reduceLE, Int.reduceAdd, Int.reduceSub, zg, zI, zJ, zR, zst, zkl, zn, zcat, zok, zraw, List.length_cons, List.length_nil, Option.toList, List.nil_append, List.cons_append, true_and, and_true, if_true, if_false, ne_eq, not_true, not_false_eq_true, and_self, true_or, or_true, false_or, or_false, false_and, and_false, b_138 hm, hd0]
        refine mFail (d := d - 1) hm hT hp h11 h13 (fun μ' f j q1 q2 => ?_)
        simp only [x191_0, x191_1, x191_2, x191_5, x191_8, x191_9, x191_10, x191_11, x191_14, x191_15, x191_18, x191_19, x191_22, x191_23, x191_26, x191_29, x191_30, x191_33, x191_36, x191_37, x191_40, x191_41, x191_44, x191_45, x191_47, x191_50, x191_51, x191_54, x191_55, x191_58, x191_59, x191_61, x191_64, x191_65, x191_66, x191_67, x191_70, x191_71, x191_74, x191_75, x191_77, x191_78, x191_81, x191_82, x191_85, x191_88, x191_89, x191_90, x191_93, ↓reduceIte, Bool.false_eq_true, Nat.reduceAdd, Nat.reduceLT, Nat.reduceLeDiff, Nat.reduceSub, Nat.reduceEqDiff, Int.reduceToNat, Int.reduceEq, Int.reduceLT, Int.reduceLE, Int.reduceAdd, Int.reduceSub, zg, zI, zJ, zR, zst, zkl, zn, zcat, zok, zraw, List.length_cons, List.length_nil, Option.toList, List.nil_append, List.cons_append, true_and, and_true, if_true, if_false, ne_eq, not_true, not_false_eq_true, and_self, true_or, or_true, false_or, or_false, false_and, and_false]
        exact hq μ' (FQ_of h (by simp) (by omega) h11 f j q1 q2)
      have hk := hT.2.2.1 p hp
      by_cases c1 : rkO (K p) < 40
      · simp only [x191_0, x191_1, x191_2, x191_5, x191_8, x191_9, x191_10, x191_11, x191_14, x191_15, x191_18, x191_19, x191_22, x191_23, x191_26, x191_29, x191_30, x191_33, x191_36, x191_37, x191_40, x191_41, x191_44, x191_45, x191_47, x191_50, x191_51, x191_54, x191_55, x191_58, x191_59, x191_61, x191_64, x191_65, x191_66, x191_67, x191_70, x191_71, x191_74, x191_75, x191_77, x191_78, x191_81, x191_82, x191_85, x191_89, x191_90, x191_93, ↓reduceIte, Bool.false_eq_true, Nat.reduceAdd, Nat.reduceLT, Nat.reduceLeDiff, Nat.reduceSub, Nat.reduceEqDiff, Int.reduceToNat, Int.reduceEq, Int.reduceLT, Int.reduceLE, Int.reduceAdd, Int.reduceSub, zg, zI, zJ, zR, zst, zkl, zn, zcat, zok, zraw, List.length_cons, List.length_nil, Option.toList, List.nil_append, List.cons_append, true_and, and_true, if_true, if_false, ne_eq, not_true, not_false_eq_true, and_self, true_or, or_true, false_or, or_false, false_and, and_false, b_138 hm, r_138_5 hm, x_141 hm i1 i2, hd0, eIs _ hm hT hp h11 h13 (show 2 ≤ 48 by decide) (show (2 : Int) = rkO 2 from rfl), decide_eq_false k2, b2, h11, h13, Int.toNat_natCast, eT.1, c1]
        exact bad
      · exfalso
        have : ∀ k : Fin 49, ¬ rkO k.val < 40 → 36 ≤ k.val := by decide +kernel
        have := this ⟨K p, by omega⟩ c1
        simp only at this
        omega
theorem eUnitF {d : Nat} (hm : Tm θ) (hd : 0 < d) (h13 : 0 < μ 138 13) : Ex d 191 0 [vr 138] [] θ μ Q = Q none θ μ := by
  have h : ¬ μ 138 13 = 0 := by omega
  simp only [x191_0, x191_1, x191_2, x191_5, x191_8, x191_9, x191_10, x191_11, x191_14, x191_15, x191_18, x191_19, x191_22, x191_23, x191_26, x191_29, x191_30, x191_33, x191_36, x191_37, x191_40, x191_41, x191_44, x191_45, x191_47, x191_50, x191_51, x191_54, x191_55, x191_58, x191_59, x191_61, x191_64, x191_65, x191_66, x191_67, x191_70, x191_71, x191_74, x191_75, x191_77, x191_78, x191_81, x191_82, x191_85, x191_88, x191_89, x191_90, x191_93, ↓reduceIte, Bool.false_eq_true, Nat.reduceAdd, Nat.reduceLT, Nat.reduceLeDiff, Nat.reduceSub, Nat.reduceEqDiff, Int.reduceToNat, Int.reduceEq, Int.reduceLT, Int.reduceLE, Int.reduceAdd, Int.reduceSub, zg, zI, zJ, zR, zst, zkl, zn, zcat, zok, zraw, List.length_cons, List.length_nil, Option.toList, List.nil_append, List.cons_append, true_and, and_true, if_true, if_false, ne_eq, not_true, not_false_eq_true, and_self, true_or, or_true, false_or, or_false, false_and, and_false, b_138 hm, hd, eIsF _ hm h13, eFailF _ hm h13, h]
end UN
