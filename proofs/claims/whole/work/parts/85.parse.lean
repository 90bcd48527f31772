/-! THE CLASS READS a whole text -/
theorem Tc_ur {θ : zS} {x : Option Nat} (h : Tc θ) : Tc (θ.1, ur θ.2 60 2 x) := by
  refine ⟨h.1, fun p hp => ?_⟩
  have key : ∀ p ∈ RLc, ¬ (p.1 = 60 ∧ p.2.1 = 2) := by decide +kernel
  have := key p hp
  show ur θ.2 60 2 x p.1 p.2.1 = _
  unfold ur
  rw [if_neg this]; exact h.2 p hp
theorem Tq_ur {θ : zS} {x : Option Nat} {U : Nat} (h : Tq θ U) (hU : U = 12 ∨ U = 26) : Tq (θ.1, ur θ.2 60 2 x) U := by
  refine ⟨h.1, h.2.1, h.2.2.1, fun k hk => ?_⟩
  show ur θ.2 60 2 x U k = _
  unfold ur
  rw [if_neg (by omega)]; exact h.2.2.2 k hk
section PS
variable {θ : zS} {Q : Option zV → zS → zM → Prop} {μ μ0 : zM} {W : Nat → Int} {U : Nat}
theorem cTellNothing {d : Nat} (hd : 2 ≤ d) (hU : Tq θ U) (hQ : ∀ μ', Fr [U, U + 1, U + 6, U + 7, U + 10] μ μ' → PM W U 0 π0 μ' → Q none θ μ') : Ex d 89 0 [vr U] [] θ μ Q := by
  have hd0 : 0 < d := by omega
  have hU2 := Tq2 hU
  have z9 : ∀ k : Nat, k < 9 → (zix θ .int (U + 1) (k : Int) = true) = True := fun k hk => tx_1 hU (by omega) (by omega)
  have i0 := z9 0 (by decide); have i1 := z9 1 (by decide); have i3 := z9 3 (by decide); have i4 := z9 4 (by decide); have i5 := z9 5 (by decide); have i6 := z9 6 (by decide)
  rw [show ((0 : Nat) : Int) = 0 from rfl] at i0
  rw [show ((1 : Nat) : Int) = 1 from rfl] at i1
  rw [show ((3 : Nat) : Int) = 3 from rfl] at i3
  rw [show ((4 : Nat) : Int) = 4 from rfl] at i4
  rw [show ((5 : Nat) : Int) = 5 from rfl] at i5
  rw [show ((6 : Nat) : Int) = 6 from rfl] at i6
  simp only [x89_0, x89_1, x89_4, x89_5, x89_8, x89_9, x89_12, x89_13, x89_14, x89_15, x89_16, x89_19, x89_20, x89_21, x89_22, x89_23, x89_26, x89_27, x89_29, x89_30, x89_31, x89_34, x89_35, x89_36, x89_37, x89_38, x89_41, x89_42, x89_44, x89_45, x89_46, x89_49, x89_51, x89_53, x89_54, x89_55, x89_58, x89_59, x89_62, x89_63, x89_66, x89_67, x89_70, x89_71, x89_74, x89_75, x89_78, x89_79, x89_80, x89_83, x89_84, x89_85, x89_88, x89_89, x89_90, x89_93, ↓reduceIte, Bool.false_eq_true, Nat.reduceAdd, Nat.reduceLT, Nat.reduceLeDiff, Nat.reduceSub, Nat.reduceEqDiff, Int.reduceToNat, Int.reduceEq, Int.reduceLT, Int.reduceLE, Int.reduceAdd, Int.reduceSub, zg, zI, zJ, zR, zst, zkl, zn, zcat, zok, zraw, List.length_cons, List.length_nil, Option.toList, List.nil_append, List.cons_append, true_and, and_true, if_true, if_false, ne_eq, not_true, not_false_eq_true, and_self, true_or, or_true, false_or, or_false, false_and, and_false, tb hU, Tq2 hU, tr_0 hU, hd0]
  refine eFill (d := d - 1) (n := 9) (by omega) (ts_1 hU) (by decide) ?_
  simp only [x89_0, x89_1, x89_4, x89_5, x89_8, x89_9, x89_12, x89_13, x89_14, x89_15, x89_16, x89_19, x89_20, x89_21, x89_22, x89_23, x89_26, x89_27, x89_29, x89_30, x89_31, x89_34, x89_35, x89_36, x89_37, x89_38, x89_41, x89_42, x89_44, x89_45, x89_46, x89_49, x89_51, x89_53, x89_54, x89_55, x89_58, x89_59, x89_62, x89_63, x89_66, x89_67, x89_70, x89_71, x89_74, x89_75, x89_78, x89_79, x89_80, x89_83, x89_84, x89_85, x89_88, x89_89, x89_90, x89_93, ↓reduceIte, Bool.false_eq_true, Nat.reduceAdd, Nat.reduceLT, Nat.reduceLeDiff, Nat.reduceSub, Nat.reduceEqDiff, Int.reduceToNat, Int.reduceEq, Int.reduceLT, Int.reduceLE, Int.reduceAdd, Int.reduceSub, zg, zI, zJ, zR, zst, zkl, zn, zcat, zok, zraw, List.length_cons, List.length_nil, Option.toList, List.nil_append, List.cons_append, true_and, and_true, if_true, if_false, ne_eq, not_true, not_false_eq_true, and_self, true_or, or_true, false_or, or_false, false_and, and_false, tb hU, Tq2 hU, tr_0 hU, tr_5 hU, i0, i1, i3, i4, i5, i6, Nat.le_add_right_of_le (Tq2 hU), ua_eq, us_same, us_us, hd0]
  refine eFill (d := d - 1) (n := 4) (by omega) (ts_6 hU) (by decide) ?_
  simp only [x89_0, x89_1, x89_4, x89_5, x89_8, x89_9, x89_12, x89_13, x89_14, x89_15, x89_16, x89_19, x89_20, x89_21, x89_22, x89_23, x89_26, x89_27, x89_29, x89_30, x89_31, x89_34, x89_35, x89_36, x89_37, x89_38, x89_41, x89_42, x89_44, x89_45, x89_46, x89_49, x89_51, x89_53, x89_54, x89_55, x89_58, x89_59, x89_62, x89_63, x89_66, x89_67, x89_70, x89_71, x89_74, x89_75, x89_78, x89_79, x89_80, x89_83, x89_84, x89_85, x89_88, x89_89, x89_90, x89_93, ↓reduceIte, Bool.false_eq_true, Nat.reduceAdd, Nat.reduceLT, Nat.reduceLeDiff, Nat.reduceSub, Nat.reduceEqDiff, Int.reduceToNat, Int.reduceEq, Int.reduceLT, Int.reduceLE, Int.reduceAdd, Int.reduceSub, zg, zI, zJ, zR, zst, zkl, zn, zcat, zok, zraw, List.length_cons, List.length_nil, Option.toList, List.nil_append, List.cons_append, true_and, and_true, if_true, if_false, ne_eq, not_true, not_false_eq_true, and_self, true_or, or_true, false_or, or_false, false_and, and_false, tb hU, Tq2 hU, tr_6 hU, hd0]
  refine eFill (d := d - 1) (n := 4) (by omega) (ts_7 hU) (by decide) ?_
  simp only [x89_0, x89_1, x89_4, x89_5, x89_8, x89_9, x89_12, x89_13, x89_14, x89_15, x89_16, x89_19, x89_20, x89_21, x89_22, x89_23, x89_26, x89_27, x89_29, x89_30, x89_31, x89_34, x89_35, x89_36, x89_37, x89_38, x89_41, x89_42, x89_44, x89_45, x89_46, x89_49, x89_51, x89_53, x89_54, x89_55, x89_58, x89_59, x89_62, x89_63, x89_66, x89_67, x89_70, x89_71, x89_74, x89_75, x89_78, x89_79, x89_80, x89_83, x89_84, x89_85, x89_88, x89_89, x89_90, x89_93, ↓reduceIte, Bool.false_eq_true, Nat.reduceAdd, Nat.reduceLT, Nat.reduceLeDiff, Nat.reduceSub, Nat.reduceEqDiff, Int.reduceToNat, Int.reduceEq, Int.reduceLT, Int.reduceLE, Int.reduceAdd, Int.reduceSub, zg, zI, zJ, zR, zst, zkl, zn, zcat, zok, zraw, List.length_cons, List.length_nil, Option.toList, List.nil_append, List.cons_append, true_and, and_true, if_true, if_false, ne_eq, not_true, not_false_eq_true, and_self, true_or, or_true, false_or, or_false, false_and, and_false, tb hU, Tq2 hU, tr_9 hU, hd0]
  refine eFill (d := d - 1) (n := 3) (by omega) (ts_10 hU) (by decide) ?_
  simp only [x89_0, x89_1, x89_4, x89_5, x89_8, x89_9, x89_12, x89_13, x89_14, x89_15, x89_16, x89_19, x89_20, x89_21, x89_22, x89_23, x89_26, x89_27, x89_29, x89_30, x89_31, x89_34, x89_35, x89_36, x89_37, x89_38, x89_41, x89_42, x89_44, x89_45, x89_46, x89_49, x89_51, x89_53, x89_54, x89_55, x89_58, x89_59, x89_62, x89_63, x89_66, x89_67, x89_70, x89_71, x89_74, x89_75, x89_78, x89_79, x89_80, x89_83, x89_84, x89_85, x89_88, x89_89, x89_90, x89_93, ↓reduceIte, Bool.false_eq_true, Nat.reduceAdd, Nat.reduceLT, Nat.reduceLeDiff, Nat.reduceSub, Nat.reduceEqDiff, Int.reduceToNat, Int.reduceEq, Int.reduceLT, Int.reduceLE, Int.reduceAdd, Int.reduceSub, zg, zI, zJ, zR, zst, zkl, zn, zcat, zok, zraw, List.length_cons, List.length_nil, Option.toList, List.nil_append, List.cons_append, true_and, and_true, if_true, if_false, ne_eq, not_true, not_false_eq_true, and_self, true_or, or_true, false_or, or_false, false_and, and_false, tb hU, Tq2 hU, ua_eq, us_same, us_us]
  refine hQ _ (Fr.us (by simp) (Fr.us (by simp) (Fr.us (by simp) (Fr.us (by simp) (Fr.us (by simp) Fr.refl))))) ⟨fun k hk => ?_, ⟨?_, ⟨?_, ?_⟩, fun k hk => by cases hk⟩, fun k hk => ?_, fun k hk => ⟨?_, fun i hi => by cases hi⟩, ?_⟩
  · rw [us_ne (by omega), us_ne (by omega), us_ne (by omega), us_ne (by omega), us_same]
    obtain h | h | h | h | h | h | h | h | h : k = 0 ∨ k = 1 ∨ k = 2 ∨ k = 3 ∨ k = 4 ∨ k = 5 ∨ k = 6 ∨ k = 7 ∨ k = 8 := by omega
    all_goals subst h; simp [zup, π0, pN]
  · rw [us_same]; simp [zup, π0, pD]
  · rw [us_same]; simp [zup]
  · rw [us_same]; simp [zup, π0, pD]
  · show (_ : Int) ≤ _
    simp [us, hk]
  · rw [us_ne (by omega), us_same, if_pos hk]; rfl
  · rw [us_same]; simp [zup]
end PS
section PQ
variable {θ : zS} {Q : Option zV → zS → zM → Prop} {μ : zM} {b : Nat → Int} {n T U : Nat}
/-- what a text comes to: the text, or the FAULT and its place -/
def rdO2 (b : Nat → Int) (n : Nat) : (Nat × Nat) ⊕ zP := match psG (knO2 b n) (viO b n) (vwO 32 b n) 401 0 π0 with
  | .inl e => .inl (e.1, stN b n e.2)
  | .inr x => match pF x.2 with
    | some y => .inl (y.1, stN b n y.2)
    | none => .inr x.2
theorem PM_TC {cs : Nat} {W : Nat → Int} {π : zP} (h : PM W U cs π μ) (hL : LT (τP π) U (tn (τP π)) μ) : TCn (τP π) U μ ∧ TCc (τP π) U μ := by
  obtain ⟨h1, ⟨h2, h20, h3⟩, h4, h5, h6⟩ := h
  refine ⟨⟨h1, hL.1, h2, fun k hk => ?_, hL.2⟩, ?_, ?_, ?_⟩
  · have hk' : k < (pD π).length := hk
    have e : (pD π).getD k (0, 0, 0, 0) = (pD π)[k] := by rw [List.getD_eq_getElem?_getD, List.getElem?_eq_getElem hk']; rfl
    have := (h3 k hk').1
    refine ⟨?_, ?_⟩
    · rw [this.1]; show _ = ((pD π).getD k (0, 0, 0, 0)).2.1; rw [e]
    · rw [this.2.1]; show _ = ((pD π).getD k (0, 0, 0, 0)).2.2.1; rw [e]
  · intro h0 k hk
    have := h4 k hk
    show pL π k = none
    cases hl : pL π k with
    | none => rfl
    | some c =>
      rw [hl] at this
      obtain ⟨a1, ⟨a2, a3, a4, a5⟩, a6⟩ := this
      omega
  · intro k hk
    have := h4 k hk
    show match pL π k with
      | none => _
      | some c => _
    cases hl : pL π k with
    | none => rw [hl] at this; exact this
    | some c => rw [hl] at this; exact ⟨this.1, this.2.1⟩
  · intro k hk
    exact ⟨(h5 k hk).1, fun i hi => ((h5 k hk).2 i hi).1⟩
theorem cParse {d : Nat} {x2 x3 : zV} (h : Th θ T U) (hd : 29 ≤ d) (hW : CWd μ) (hB : TB b n μ)
    (hQ : match rdO2 b n with
      | .inl e => ∀ μ', Fr (RA U ++ [U + 11, U + 12, U + 13, 3, 4, 5, 6]) μ μ' → (∀ j, j ≠ 6 → j ≠ 7 → μ' 3 j = μ 3 j) → μ' 60 0 = (e.2 : Nat) → e.1 ≠ 0 → Q (some (vi (e.1 : Nat))) (θ.1, ur θ.2 60 2 (some U)) μ'
      | .inr π => ∀ μ', Fr (RA U ++ [U + 11, U + 12, U + 13, 3, 4, 5, 6]) μ μ' → (∀ j, j ≠ 6 → j ≠ 7 → μ' 3 j = μ 3 j) → wfT (τP π) → TCn (τP π) U μ' → TCc (τP π) U μ' → (0 ≤ μ' U 15 ∧ μ' U 15 < 64) → (∀ k, k < tD (τP π) → zand (zshr (μ' U 15) k) 1 = tO (τP π) k) → Q (some (vi 0)) (θ.1, ur θ.2 60 2 (some U)) μ') : Ex d 42 0 [vr 60, vr U, x2, x3] [] θ μ Q := by
  obtain ⟨hc0, hT, hU, hTU, h2T, h2U, hgT⟩ := h
  have hd0 : 0 < d := by omega
  have hu : U = 12 ∨ U = 26 := by omega
  have hc : Tc (θ.1, ur θ.2 60 2 (some U)) := Tc_ur hc0
  have hU' : Tq (θ.1, ur θ.2 60 2 (some U)) U := Tq_ur hU hu
  have h60 : (θ.1, ur θ.2 60 2 (some U)).2 60 2 = some U := by show ur θ.2 60 2 (some U) 60 2 = _; unfold ur; rw [if_pos ⟨rfl, rfl⟩]
  have hr : RdC (θ.1, ur θ.2 60 2 (some U)) U := ⟨hc, hU', hu, h60⟩
  obtain ⟨θ', hθ⟩ : ∃ θ', θ' = (θ.1, ur θ.2 60 2 (some U)) := ⟨_, rfl⟩
  rw [← hθ] at hc hU' h60 hr hQ
  simp only [x42_0, x42_1, x42_2, x42_5, x42_6, x42_9, x42_13, x42_16, x42_19, x42_20, x42_21, x42_24, x42_25, x42_26, x42_29, x42_30, x42_31, x42_34, x42_35, x42_36, x42_37, x42_39, x42_42, x42_43, x42_46, x42_49, x42_50, x42_53, x42_56, x42_57, x42_60, x42_61, x42_64, x42_65, x42_68, x42_69, x42_72, x42_75, x42_76, x42_79, x42_82, x42_83, x42_86, x42_89, x42_90, x42_91, x42_94, x42_97, x42_98, x42_99, x42_102, x42_105, x42_106, x42_109, x42_112, x42_113, x42_116, x42_119, x42_120, x42_123, ↓reduceIte, Bool.false_eq_true, Nat.reduceAdd, Nat.reduceLT, Nat.reduceLeDiff, Nat.reduceSub, Nat.reduceEqDiff, Int.reduceToNat, Int.reduceEq, Int.reduceLT, Int.reduceLE, Int.reduceAdd, Int.reduceSub, zg, zI, zJ, zR, zst, zkl, zn, zcat, zok, zraw, List.length_cons, List.length_nil, Option.toList, List.nil_append, List.cons_append, true_and, and_true, if_true, if_false, ne_eq, not_true, not_false_eq_true, and_self, true_or, or_true, false_or, or_false, false_and, and_false, b_60 hc0, s_60 hc0, ← hθ, b_60 hc, h60, tb hU', hd0]
  have hRU : ∀ a ∈ [U, U + 1, U + 6, U + 7, U + 10], a ∈ RA U ++ [U + 11, U + 12, U + 13, 3, 4, 5, 6] := by unfold RA; simp
  have hRA : ∀ a ∈ RA U, a ∈ RA U ++ [U + 11, U + 12, U + 13, 3, 4, 5, 6] := fun a ha => List.mem_append_left _ ha
  have hRS : ∀ a ∈ [3, 4, 5, 6], a ∈ RA U ++ [U + 11, U + 12, U + 13, 3, 4, 5, 6] := by simp
  have goal2 : ∀ μ1, Fr [U, U + 1, U + 6, U + 7, U + 10] μ μ1 → PM (vwO 32 b n) U 0 π0 μ1 → Ex d 42 12 [vr 60, vr U, x2, x3] [] θ' μ1 Q := by
    intro μ1 f1 M1
    have e1 : ∀ a, a ∉ [U, U + 1, U + 6, U + 7, U + 10] → μ1 a = μ a := fun a ha => f1 a ha
    have B1 : TB b n μ1 := ⟨by rw [e1 3 (by simp; omega)]; exact hB.1, by rw [e1 7 (by simp; omega)]; exact hB.2.1, hB.2.2⟩
    have W1 : CWd μ1 := fun k hk => by rw [e1 8 (by simp; omega)]; exact hW k hk
    simp only [x42_0, x42_1, x42_2, x42_5, x42_6, x42_9, x42_12, x42_13, x42_16, x42_19, x42_20, x42_21, x42_24, x42_25, x42_26, x42_29, x42_30, x42_31, x42_34, x42_35, x42_36, x42_37, x42_39, x42_42, x42_43, x42_46, x42_49, x42_50, x42_53, x42_56, x42_57, x42_60, x42_61, x42_64, x42_65, x42_68, x42_69, x42_72, x42_75, x42_76, x42_79, x42_82, x42_83, x42_86, x42_89, x42_90, x42_91, x42_94, x42_97, x42_98, x42_99, x42_102, x42_105, x42_106, x42_109, x42_112, x42_113, x42_116, x42_119, x42_120, x42_123, ↓reduceIte, Bool.false_eq_true, Nat.reduceAdd, Nat.reduceLT, Nat.reduceLeDiff, Nat.reduceSub, Nat.reduceEqDiff, Int.reduceToNat, Int.reduceEq, Int.reduceLT, Int.reduceLE, Int.reduceAdd, Int.reduceSub, zg, zI, zJ, zR, zst, zkl, zn, zcat, zok, zraw, List.length_cons, List.length_nil, Option.toList, List.nil_append, List.cons_append, true_and, and_true, if_true, if_false, ne_eq, not_true, not_false_eq_true, and_self, true_or, or_true, false_or, or_false, false_and, and_false, b_2 hc, b_3 hc, b_9 hc, b_12 hc, b_26 hc, b_40 hc, b_46 hc, b_47 hc, b_60 hc, b_62 hc, b_63 hc, b_76 hc, b_77 hc, b_90 hc, b_91 hc, b_104 hc, b_107 hc, b_114 hc, b_115 hc, b_122 hc, b_123 hc, b_131 hc, b_60 hc, r_60_1 hc, hd0]
    refine cScan (d := d - 1) hc (by omega) W1 B1 (fun μ2 f2 j2 T2 => ?_)
    have M2 : PM (vwO 32 b n) U 0 π0 μ2 := PM_fr M1 (fun k hk => f2 _ (by simp; omega))
    obtain ⟨μ3, hμ3⟩ : ∃ μ3, μ3 = us μ2 60 (zup (zup (zup (μ2 60) 3 0) 4 0) 5 0) := ⟨_, rfl⟩
    have f3 : Fr [60] μ2 μ3 := by rw [hμ3]; exact Fr.us (by simp) Fr.refl
    have T3 := TK_60 T2 f3
    have M3 := PM_60 hr M2 f3
    have P3 : PT (vwO 32 b n) (fun j => (stN b n j : Nat)) U 0 π0 μ3 μ3 := by
      refine ⟨Fr.refl, ?_, ?_, ?_, 0, Nat.le_refl _, M3⟩
      · rw [hμ3, us_same]; simp [zup]
      · rw [hμ3, us_same]; simp [zup]
      · show μ3 60 5 = 0
        rw [hμ3, us_same]; simp [zup]
    have fall : ∀ {μ4 : zM}, Fr (RA U) μ3 μ4 → Fr (RA U ++ [U + 11, U + 12, U + 13, 3, 4, 5, 6]) μ μ4 ∧ ∀ j, j ≠ 6 → j ≠ 7 → μ4 3 j = μ 3 j := fun {μ4} f4 => by
      refine ⟨((f1.mono hRU).trans (f2.mono hRS)).trans ((f3.mono (by unfold RA; simp)).trans (f4.mono hRA)), fun j j6 j7 => ?_⟩
      rw [f4 3 (by unfold RA; simp; omega), f3 3 (by decide), j2 j j6 j7, e1 3 (by simp; omega)]
    have hps := wf_ps (W := vwO 32 b n) T2.1 T2.2.1 401 0 π0 (Nat.zero_le _) (by omega) wf_0
    simp only [x42_0, x42_1, x42_2, x42_5, x42_6, x42_9, x42_12, x42_13, x42_16, x42_19, x42_20, x42_21, x42_24, x42_25, x42_26, x42_29, x42_30, x42_31, x42_34, x42_35, x42_36, x42_37, x42_39, x42_42, x42_43, x42_46, x42_49, x42_50, x42_53, x42_56, x42_57, x42_60, x42_61, x42_64, x42_65, x42_68, x42_69, x42_72, x42_75, x42_76, x42_79, x42_82, x42_83, x42_86, x42_89, x42_90, x42_91, x42_94, x42_97, x42_98, x42_99, x42_102, x42_105, x42_106, x42_109, x42_112, x42_113, x42_116, x42_119, x42_120, x42_123, ↓reduceIte, Bool.false_eq_true, Nat.reduceAdd, Nat.reduceLT, Nat.reduceLeDiff, Nat.reduceSub, Nat.reduceEqDiff, Int.reduceToNat, Int.reduceEq, Int.reduceLT, Int.reduceLE, Int.reduceAdd, Int.reduceSub, zg, zI, zJ, zR, zst, zkl, zn, zcat, zok, zraw, List.length_cons, List.length_nil, Option.toList, List.nil_append, List.cons_append, true_and, and_true, if_true, if_false, ne_eq, not_true, not_false_eq_true, and_self, true_or, or_true, false_or, or_false, false_and, and_false, b_2 hc, b_3 hc, b_9 hc, b_12 hc, b_26 hc, b_40 hc, b_46 hc, b_47 hc, b_60 hc, b_62 hc, b_63 hc, b_76 hc, b_77 hc, b_90 hc, b_91 hc, b_104 hc, b_107 hc, b_114 hc, b_115 hc, b_122 hc, b_123 hc, b_131 hc, b_60 hc, r_60_1 hc, ua_eq, us_same, us_us, ← hμ3]
    refine cTells (W := vwO 32 b n) (μ0 := μ3) hr (by omega) 401 0 π0 0 μ3 (Nat.zero_le _) (by omega) (by omega) wf_0 T3 P3 ?_
    unfold rdO2 at hQ
    generalize psG (knO2 b n) (viO b n) (vwO 32 b n) 401 0 π0 = r at hQ hps ⊢
    cases r with
    | inl e =>
      intro μ4 y3 f4 g4 g0
      have k0 : ¬ ((e.1 : Nat) : Int) = 0 := by have := hps.1; omega
      have k00 : e.1 ≠ 0 := by have := hps.1; omega
      simp only [x42_0, x42_1, x42_2, x42_5, x42_6, x42_9, x42_12, x42_13, x42_16, x42_19, x42_20, x42_21, x42_24, x42_25, x42_26, x42_29, x42_30, x42_31, x42_34, x42_35, x42_36, x42_37, x42_39, x42_42, x42_43, x42_46, x42_49, x42_50, x42_53, x42_56, x42_57, x42_60, x42_61, x42_64, x42_65, x42_68, x42_69, x42_72, x42_75, x42_76, x42_79, x42_82, x42_83, x42_86, x42_89, x42_90, x42_91, x42_94, x42_97, x42_98, x42_99, x42_102, x42_105, x42_106, x42_109, x42_112, x42_113, x42_116, x42_119, x42_120, x42_123, ↓reduceIte, Bool.false_eq_true, Nat.reduceAdd, Nat.reduceLT, Nat.reduceLeDiff, Nat.reduceSub, Nat.reduceEqDiff, Int.reduceToNat, Int.reduceEq, Int.reduceLT, Int.reduceLE, Int.reduceAdd, Int.reduceSub, zg, zI, zJ, zR, zst, zkl, zn, zcat, zok, zraw, List.length_cons, List.length_nil, Option.toList, List.nil_append, List.cons_append, true_and, and_true, if_true, if_false, ne_eq, not_true, not_false_eq_true, and_self, true_or, or_true, false_or, or_false, false_and, and_false, b_2 hc, b_3 hc, b_9 hc, b_12 hc, b_26 hc, b_40 hc, b_46 hc, b_47 hc, b_60 hc, b_62 hc, b_63 hc, b_76 hc, b_77 hc, b_90 hc, b_91 hc, b_104 hc, b_107 hc, b_114 hc, b_115 hc, b_122 hc, b_123 hc, b_131 hc, b_60 hc, r_60_1 hc, g4, k0]
      obtain ⟨a1, a2⟩ := fall f4
      exact hQ μ4 a1 a2 g0 k00
    | inr x =>
      obtain ⟨p1, p2, p3⟩ := hps
      intro μ4 y3 P4
      simp only at hQ
      cases hf : pF x.2 with
      | some y =>
        rw [hf] at hQ
        have hy := (p3.2.2.2.2 y hf).1
        have k0 : ¬ ((y.1 : Nat) : Int) = 0 := by omega
        have k00 : y.1 ≠ 0 := by omega
        have L4 := P4.2.2.2.1
        rw [hf] at L4
        obtain ⟨l5, l6, _⟩ := L4
        simp only [x42_0, x42_1, x42_2, x42_5, x42_6, x42_9, x42_12, x42_13, x42_16, x42_19, x42_20, x42_21, x42_24, x42_25, x42_26, x42_29, x42_30, x42_31, x42_34, x42_35, x42_36, x42_37, x42_39, x42_42, x42_43, x42_46, x42_49, x42_50, x42_53, x42_56, x42_57, x42_60, x42_61, x42_64, x42_65, x42_68, x42_69, x42_72, x42_75, x42_76, x42_79, x42_82, x42_83, x42_86, x42_89, x42_90, x42_91, x42_94, x42_97, x42_98, x42_99, x42_102, x42_105, x42_106, x42_109, x42_112, x42_113, x42_116, x42_119, x42_120, x42_123, ↓reduceIte, Bool.false_eq_true, Nat.reduceAdd, Nat.reduceLT, Nat.reduceLeDiff, Nat.reduceSub, Nat.reduceEqDiff, Int.reduceToNat, Int.reduceEq, Int.reduceLT, Int.reduceLE, Int.reduceAdd, Int.reduceSub, zg, zI, zJ, zR, zst, zkl, zn, zcat, zok, zraw, List.length_cons, List.length_nil, Option.toList, List.nil_append, List.cons_append, true_and, and_true, if_true, if_false, ne_eq, not_true, not_false_eq_true, and_self, true_or, or_true, false_or, or_false, false_and, and_false, b_2 hc, b_3 hc, b_9 hc, b_12 hc, b_26 hc, b_40 hc, b_46 hc, b_47 hc, b_60 hc, b_62 hc, b_63 hc, b_76 hc, b_77 hc, b_90 hc, b_91 hc, b_104 hc, b_107 hc, b_114 hc, b_115 hc, b_122 hc, b_123 hc, b_131 hc, b_60 hc, r_60_1 hc, P4.2.2.1, l5, k0, ua_eq, us_same, us_us, zup_same, zup_ne (show (6 : Nat) ≠ 4 by decide), zup_ne (show (4 : Nat) ≠ 0 by decide), l6]
        have f5 : Fr (RA U) μ3 (us μ4 60 (zup (zup (μ4 60) 4 (y.1 : Nat)) 0 (stN b n y.2 : Nat))) := Fr.us (by unfold RA; simp) P4.1
        obtain ⟨a1, a2⟩ := fall f5
        exact hQ _ a1 a2 (by rw [us_same, zup_same rfl]) k00
      | none =>
        rw [hf] at hQ
        simp only at hQ
        have L4 : μ4 60 5 = 0 := by have := P4.2.2.2.1; rw [hf] at this; exact this
        obtain ⟨cs, _, M4⟩ := P4.2.2.2.2
        have hwT := wfT_P p3 hf
        simp only [x42_0, x42_1, x42_2, x42_5, x42_6, x42_9, x42_12, x42_13, x42_16, x42_19, x42_20, x42_21, x42_24, x42_25, x42_26, x42_29, x42_30, x42_31, x42_34, x42_35, x42_36, x42_37, x42_39, x42_42, x42_43, x42_46, x42_49, x42_50, x42_53, x42_56, x42_57, x42_60, x42_61, x42_64, x42_65, x42_68, x42_69, x42_72, x42_75, x42_76, x42_79, x42_82, x42_83, x42_86, x42_89, x42_90, x42_91, x42_94, x42_97, x42_98, x42_99, x42_102, x42_105, x42_106, x42_109, x42_112, x42_113, x42_116, x42_119, x42_120, x42_123, ↓reduceIte, Bool.false_eq_true, Nat.reduceAdd, Nat.reduceLT, Nat.reduceLeDiff, Nat.reduceSub, Nat.reduceEqDiff, Int.reduceToNat, Int.reduceEq, Int.reduceLT, Int.reduceLE, Int.reduceAdd, Int.reduceSub, zg, zI, zJ, zR, zst, zkl, zn, zcat, zok, zraw, List.length_cons, List.length_nil, Option.toList, List.nil_append, List.cons_append, true_and, and_true, if_true, if_false, ne_eq, not_true, not_false_eq_true, and_self, true_or, or_true, false_or, or_false, false_and, and_false, b_2 hc, b_3 hc, b_9 hc, b_12 hc, b_26 hc, b_40 hc, b_46 hc, b_47 hc, b_60 hc, b_62 hc, b_63 hc, b_76 hc, b_77 hc, b_90 hc, b_91 hc, b_104 hc, b_107 hc, b_114 hc, b_115 hc, b_122 hc, b_123 hc, b_131 hc, b_60 hc, r_60_1 hc, P4.2.2.1, L4, h60, tb hU', hd0]
        refine cLayOut (d := d - 1) (τ := τP x.2) hU' hwT (M4.1 0 (by decide)) (M4.1 1 (by decide)) (fun μ5 f5 j5 L5 => ?_)
        have M5 : PM (vwO 32 b n) U cs x.2 μ5 := by
          have e5 : ∀ k, k ≠ 0 → k ≤ 10 → μ5 (U + k) = μ4 (U + k) := fun k k0 k1 => f5 _ (by simp; omega)
          unfold PM
          rw [j5 14 (by decide), j5 15 (by decide), j5 16 (by decide), e5 1 (by omega) (by omega), e5 2 (by omega) (by omega), e5 3 (by omega) (by omega), e5 4 (by omega) (by omega), e5 5 (by omega) (by omega), e5 6 (by omega) (by omega), e5 7 (by omega) (by omega), e5 8 (by omega) (by omega), e5 9 (by omega) (by omega), e5 10 (by omega) (by omega)]
          exact M4
        obtain ⟨c1, c2⟩ := PM_TC M5 L5
        have g4 : μ5 60 4 = 0 := by rw [f5 60 (by simp; omega)]; exact P4.2.2.1
        simp only [x42_0, x42_1, x42_2, x42_5, x42_6, x42_9, x42_12, x42_13, x42_16, x42_19, x42_20, x42_21, x42_24, x42_25, x42_26, x42_29, x42_30, x42_31, x42_34, x42_35, x42_36, x42_37, x42_39, x42_42, x42_43, x42_46, x42_49, x42_50, x42_53, x42_56, x42_57, x42_60, x42_61, x42_64, x42_65, x42_68, x42_69, x42_72, x42_75, x42_76, x42_79, x42_82, x42_83, x42_86, x42_89, x42_90, x42_91, x42_94, x42_97, x42_98, x42_99, x42_102, x42_105, x42_106, x42_109, x42_112, x42_113, x42_116, x42_119, x42_120, x42_123, ↓reduceIte, Bool.false_eq_true, Nat.reduceAdd, Nat.reduceLT, Nat.reduceLeDiff, Nat.reduceSub, Nat.reduceEqDiff, Int.reduceToNat, Int.reduceEq, Int.reduceLT, Int.reduceLE, Int.reduceAdd, Int.reduceSub, zg, zI, zJ, zR, zst, zkl, zn, zcat, zok, zraw, List.length_cons, List.length_nil, Option.toList, List.nil_append, List.cons_append, true_and, and_true, if_true, if_false, ne_eq, not_true, not_false_eq_true, and_self, true_or, or_true, false_or, or_false, false_and, and_false, b_2 hc, b_3 hc, b_9 hc, b_12 hc, b_26 hc, b_40 hc, b_46 hc, b_47 hc, b_60 hc, b_62 hc, b_63 hc, b_76 hc, b_77 hc, b_90 hc, b_91 hc, b_104 hc, b_107 hc, b_114 hc, b_115 hc, b_122 hc, b_123 hc, b_131 hc, b_60 hc, r_60_1 hc, g4]
        have hl6 := p3.2.1.1
        have hp6 : 2 ^ (pD x.2).length ≤ 2 ^ 6 := Nat.pow_le_pow_right (by decide) hl6
        have h15 := M5.2.1.2.1
        refine hQ μ5 ?_ (fun j j6 j7 => ?_) hwT c1 c2 ⟨h15.1, ?_⟩ (fun k hk => ?_)
        · exact (fall P4.1).1.trans (f5.mono (by unfold RA; simp))
        · rw [f5 3 (by simp; omega)]; exact (fall P4.1).2 j j6 j7
        · have := h15.2; omega
        · have hk' : k < (pD x.2).length := hk
          have e : (pD x.2).getD k (0, 0, 0, 0) = (pD x.2)[k] := by rw [List.getD_eq_getElem?_getD, List.getElem?_eq_getElem hk']; rfl
          rw [(M5.2.1.2.2 k hk').2]
          show _ = ((pD x.2).getD k (0, 0, 0, 0)).2.2.2
          rw [e]
  exact cTellNothing (W := vwO 32 b n) (d := d - 1) (by omega) hU' (fun μ1 f1 M1 => by
    simp only [↓reduceIte, Bool.false_eq_true, Nat.reduceAdd, Nat.reduceLT, Nat.reduceLeDiff, Nat.reduceSub, Nat.reduceEqDiff, Int.reduceToNat, Int.reduceEq, Int.reduceLT, Int.reduceLE, Int.reduceAdd, Int.reduceSub, zg, zI, zJ, zR, zst, zkl, zn, zcat, zok, zraw, List.length_cons, List.length_nil, Option.toList, List.nil_append, List.cons_append, true_and, and_true, if_true, if_false, ne_eq, not_true, not_false_eq_true, and_self, true_or, or_true, false_or, or_false, false_and, and_false]
    exact goal2 μ1 f1 M1)
end PQ
