/-! THE CLASS READS: LITS and CONDS, INTS of a TELL -/
/-- the first of the later FAULTS -/
def LF (F : Option (Nat × Nat)) (st : Nat → Int) (μ : zM) : Prop := match F with
  | none => μ 60 5 = 0
  | some y => μ 60 5 = (y.1 : Nat) ∧ μ 60 6 = st y.2 ∧ y.1 ≠ 0
def cRQ {α : Type} (A : List Nat) (st : Nat → Int) (μ0 : zM) (θ : zS) (Q : Option zV → zS → zM → Prop) (bad : Int) (r : pR α) (P : Nat → α → zM → Prop) : Prop := match r with
  | .inl e => ∀ μ', Fr A μ0 μ' → μ' 60 4 = (e.1 : Nat) → μ' 60 0 = st e.2 → Q (some (vi bad)) θ μ'
  | .inr x => ∀ μ', P x.1 x.2 μ' → Q (some (vi 1)) θ μ'
section RG
variable {θ : zS} {Q : Option zV → zS → zM → Prop} {μ μ0 : zM} {K : Nat → Nat} {V W st : Nat → Int} {Z U : Nat}
theorem cSum {d p a : Nat} {x2 x3 : zV} (hr : RdC θ U) (hp : p ≤ Z) (hd : 21 ≤ d) (ha : a ≤ p) (hE : PE U p a [] μ0 μ) (hT : TK K V W st Z μ) (hQ : cEQ U a st μ0 θ Q (rdE K V p)) : Ex d 52 0 [vr 60, vi 0, x2, x3] [] θ μ Q :=
  (cE hr 2000).2.2.2.2 0 p d a μ0 μ x2 x3 Q hp (by omega) (mz_b (by omega)) (by omega) ha hE hT hQ
theorem cNote {d p k : Nat} {F : Option (Nat × Nat)} (hr : RdC θ U) (hT : TK K V W st Z μ) (hp : p ≤ Z) (h3 : μ 60 3 = (p : Nat)) (hF : LF F st μ) (hk : k ≠ 0)
    (hQ : ∀ μ', Fr [60] μ μ' → (∀ j, j ≠ 5 → j ≠ 6 → μ' 60 j = μ 60 j) → LF (ltO F k p) st μ' → Q none θ μ') : Ex d 58 0 [vr 60, vi (k : Nat)] [] θ μ Q := by
  obtain ⟨hc, hU, hu, h60⟩ := hr
  have hz := hT.1.1
  have e5 := (hT.2.2.2 p hp).2.1
  cases F with
  | none =>
    have h5 : μ 60 5 = 0 := hF
    simp (disch := omega) only [x58_0, x58_1, x58_4, x58_7, x58_8, x58_9, x58_12, x58_13, x58_14, x58_17, x58_20, x58_21, x58_24, x58_25, x58_28, ↓reduceIte, Bool.false_eq_true, Nat.reduceAdd, Nat.reduceLT, Nat.reduceLeDiff, Nat.reduceSub, Nat.reduceEqDiff, Int.reduceToNat, Int.reduceEq, Int.reduceLT, Int.reduceLE, Int.reduceAdd, Int.reduceSub, zg, zI, zJ, zR, zst, zkl, zn, zcat, zok, zraw, List.length_cons, List.length_nil, Option.toList, List.nil_append, List.cons_append, true_and, and_true, if_true, if_false, ne_eq, not_true, not_false_eq_true, and_self, true_or, or_true, false_or, or_false, false_and, and_false, b_2 hc, b_3 hc, b_9 hc, b_12 hc, b_26 hc, b_40 hc, b_46 hc, b_47 hc, b_60 hc, b_62 hc, b_63 hc, b_76 hc, b_77 hc, b_90 hc, b_91 hc, b_104 hc, b_107 hc, b_114 hc, b_115 hc, b_122 hc, b_123 hc, b_131 hc, b_3 hc, r_3_0 hc, x_4 hc, r_3_1 hc, x_5 hc, r_3_2 hc, x_6 hc, r_3_4 hc, x_7 hc, n_7 hc, r_3_5 hc, x_8 hc, b_60 hc, r_60_1 hc, h3, h5, ua_eq, us_same, us_us, zup_ne, us_ne, Int.toNat_natCast, e5]
    refine hQ _ (Fr.us (by simp) Fr.refl) (fun j h1 h2 => by rw [us_same, zup_ne h2, zup_ne h1]) ⟨?_, ?_, hk⟩
    · rw [us_same, zup_ne (by omega), zup_same rfl]
    · rw [us_same, zup_same rfl]
  | some y =>
    have h5 : ¬ μ 60 5 = 0 := by have := hF.1; have := hF.2.2; omega
    simp (disch := omega) only [x58_0, x58_1, x58_4, x58_7, x58_8, x58_9, x58_12, x58_13, x58_14, x58_17, x58_20, x58_21, x58_24, x58_25, x58_28, ↓reduceIte, Bool.false_eq_true, Nat.reduceAdd, Nat.reduceLT, Nat.reduceLeDiff, Nat.reduceSub, Nat.reduceEqDiff, Int.reduceToNat, Int.reduceEq, Int.reduceLT, Int.reduceLE, Int.reduceAdd, Int.reduceSub, zg, zI, zJ, zR, zst, zkl, zn, zcat, zok, zraw, List.length_cons, List.length_nil, Option.toList, List.nil_append, List.cons_append, true_and, and_true, if_true, if_false, ne_eq, not_true, not_false_eq_true, and_self, true_or, or_true, false_or, or_false, false_and, and_false, b_2 hc, b_3 hc, b_9 hc, b_12 hc, b_26 hc, b_40 hc, b_46 hc, b_47 hc, b_60 hc, b_62 hc, b_63 hc, b_76 hc, b_77 hc, b_90 hc, b_91 hc, b_104 hc, b_107 hc, b_114 hc, b_115 hc, b_122 hc, b_123 hc, b_131 hc, b_60 hc, r_60_1 hc, h5]
    exact hQ μ Fr.refl (fun _ _ _ => rfl) hF
theorem TK_60 {μ' : zM} (h : TK K V W st Z μ) (hf : Fr [60] μ μ') : TK K V W st Z μ' := TK_fr h (hf 4 (by decide)) (hf 5 (by decide)) (hf 6 (by decide))
theorem cInt {d p : Nat} {lo hi : Int} {F : Option (Nat × Nat)} {x3 : zV} (hr : RdC θ U) (hd : 1 ≤ d) (hT : TK K V W st Z μ) (hp : p ≤ Z) (h3 : μ 60 3 = (p : Nat)) (hF : LF F st μ)
    (hQ : match numG K V lo hi p F with
      | .inl e => ∀ μ', Fr [60] μ μ' → μ' 60 4 = (e.1 : Nat) → μ' 60 0 = st e.2 → Q (some (vi (-1))) θ μ'
      | .inr x => ∀ μ', Fr [60] μ μ' → μ' 60 3 = (x.1 : Nat) → μ' 60 4 = μ 60 4 → LF x.2.2 st μ' → Q (some (vi x.2.1)) θ μ') : Ex d 45 0 [vr 60, vi lo, vi hi, x3] [] θ μ Q := by
  have hr' := hr
  obtain ⟨hc, hU, hu, h60⟩ := hr'
  have hd0 : 0 < d := by omega
  have hz := hT.1.1
  have e4 := (hT.2.2.2 p hp).1
  have i1 : (0 : Int) ≤ (p : Int) := by omega
  have i2 : (p : Int) < 401 := by omega
  unfold numG at hQ
  by_cases k2 : K p = 2
  · rw [if_pos k2] at hQ
    have hv := hT.2.1 p k2
    have e6 := (hT.2.2.2 p hp).2.2.1 k2
    have k2' : ((K p : Nat) : Int) = 2 := by omega
    have l0 : -2147483648 ≤ V p := by omega
    have l1 : V p ≤ 2147483647 := by omega
    rw [k2'] at e4
    have fin : ∀ {μ1 : zM}, Fr [60] μ μ1 → (∀ j, j ≠ 5 → j ≠ 6 → μ1 60 j = μ 60 j) → LF (if V p < lo ∨ hi < V p then ltO F 5 p else F) st μ1 → Ex d 45 53 [vr 60, vi lo, vi hi, vi (V p)] [] θ μ1 Q := fun {μ1} hf1 hj1 hF1 => by
      simp only [x45_0, x45_1, x45_4, x45_7, x45_8, x45_11, x45_12, x45_13, x45_16, x45_17, x45_18, x45_21, x45_22, x45_23, x45_24, x45_25, x45_28, x45_31, x45_32, x45_35, x45_36, x45_37, x45_38, x45_39, x45_40, x45_43, x45_44, x45_45, x45_48, x45_49, x45_50, x45_53, x45_54, x45_57, x45_60, x45_61, x45_64, x45_65, ↓reduceIte, Bool.false_eq_true, Nat.reduceAdd, Nat.reduceLT, Nat.reduceLeDiff, Nat.reduceSub, Nat.reduceEqDiff, Int.reduceToNat, Int.reduceEq, Int.reduceLT, Int.reduceLE, Int.reduceAdd, Int.reduceSub, zg, zI, zJ, zR, zst, zkl, zn, zcat, zok, zraw, List.length_cons, List.length_nil, Option.toList, List.nil_append, List.cons_append, true_and, and_true, if_true, if_false, ne_eq, not_true, not_false_eq_true, and_self, true_or, or_true, false_or, or_false, false_and, and_false, b_60 hc, hd0]
      have h31 : μ1 60 3 = (p : Nat) := by rw [hj1 3 (by decide) (by decide)]; exact h3
      refine cPass (d := d - 1) hr (TK_60 hT hf1) hp h31 (fun h4 => ?_) (fun h4 μ2 f2 g4 g0 => ?_)
      · rw [nx_lt h4] at hQ
        simp only [x45_0, x45_1, x45_4, x45_7, x45_8, x45_11, x45_12, x45_13, x45_16, x45_17, x45_18, x45_21, x45_22, x45_23, x45_24, x45_25, x45_28, x45_31, x45_32, x45_35, x45_36, x45_37, x45_38, x45_39, x45_40, x45_43, x45_44, x45_45, x45_48, x45_49, x45_50, x45_53, x45_54, x45_57, x45_60, x45_61, x45_64, x45_65, ↓reduceIte, Bool.false_eq_true, Nat.reduceAdd, Nat.reduceLT, Nat.reduceLeDiff, Nat.reduceSub, Nat.reduceEqDiff, Int.reduceToNat, Int.reduceEq, Int.reduceLT, Int.reduceLE, Int.reduceAdd, Int.reduceSub, zg, zI, zJ, zR, zst, zkl, zn, zcat, zok, zraw, List.length_cons, List.length_nil, Option.toList, List.nil_append, List.cons_append, true_and, and_true, if_true, if_false, ne_eq, not_true, not_false_eq_true, and_self, true_or, or_true, false_or, or_false, false_and, and_false]
        refine hQ _ (Fr.us (by simp) hf1) (by rw [us_same, zup_same rfl]) (by rw [us_same, zup_ne (by decide)]; exact hj1 4 (by decide) (by decide)) ?_
        simp only
        revert hF1
        generalize (if V p < lo ∨ hi < V p then ltO F 5 p else F) = G
        intro hF1
        unfold LF at hF1 ⊢
        cases G with
        | none => simp only at hF1 ⊢; rw [us_same, zup_ne (by decide)]; exact hF1
        | some y => simp only at hF1 ⊢; rw [us_same, zup_ne (by decide), zup_ne (by decide)]; exact hF1
      · rw [nx_ge h4] at hQ
        simp only [x45_0, x45_1, x45_4, x45_7, x45_8, x45_11, x45_12, x45_13, x45_16, x45_17, x45_18, x45_21, x45_22, x45_23, x45_24, x45_25, x45_28, x45_31, x45_32, x45_35, x45_36, x45_37, x45_38, x45_39, x45_40, x45_43, x45_44, x45_45, x45_48, x45_49, x45_50, x45_53, x45_54, x45_57, x45_60, x45_61, x45_64, x45_65, ↓reduceIte, Bool.false_eq_true, Nat.reduceAdd, Nat.reduceLT, Nat.reduceLeDiff, Nat.reduceSub, Nat.reduceEqDiff, Int.reduceToNat, Int.reduceEq, Int.reduceLT, Int.reduceLE, Int.reduceAdd, Int.reduceSub, zg, zI, zJ, zR, zst, zkl, zn, zcat, zok, zraw, List.length_cons, List.length_nil, Option.toList, List.nil_append, List.cons_append, true_and, and_true, if_true, if_false, ne_eq, not_true, not_false_eq_true, and_self, true_or, or_true, false_or, or_false, false_and, and_false]
        exact hQ μ2 (hf1.trans f2) g4 g0
    by_cases c1 : V p < lo
    · rw [if_pos (Or.inl c1)] at fin
      simp only [x45_0, x45_1, x45_4, x45_7, x45_8, x45_11, x45_12, x45_13, x45_16, x45_17, x45_18, x45_21, x45_22, x45_23, x45_24, x45_25, x45_28, x45_31, x45_32, x45_35, x45_36, x45_37, x45_38, x45_39, x45_40, x45_43, x45_44, x45_45, x45_48, x45_49, x45_50, x45_54, x45_57, x45_60, x45_61, x45_64, x45_65, ↓reduceIte, Bool.false_eq_true, Nat.reduceAdd, Nat.reduceLT, Nat.reduceLeDiff, Nat.reduceSub, Nat.reduceEqDiff, Int.reduceToNat, Int.reduceEq, Int.reduceLT, Int.reduceLE, Int.reduceAdd, Int.reduceSub, zg, zI, zJ, zR, zst, zkl, zn, zcat, zok, zraw, List.length_cons, List.length_nil, Option.toList, List.nil_append, List.cons_append, true_and, and_true, if_true, if_false, ne_eq, not_true, not_false_eq_true, and_self, true_or, or_true, false_or, or_false, false_and, and_false, b_2 hc, b_3 hc, b_9 hc, b_12 hc, b_26 hc, b_40 hc, b_46 hc, b_47 hc, b_60 hc, b_62 hc, b_63 hc, b_76 hc, b_77 hc, b_90 hc, b_91 hc, b_104 hc, b_107 hc, b_114 hc, b_115 hc, b_122 hc, b_123 hc, b_131 hc, b_3 hc, r_3_0 hc, x_4 hc, r_3_1 hc, x_5 hc, r_3_2 hc, x_6 hc, r_3_4 hc, x_7 hc, n_7 hc, r_3_5 hc, x_8 hc, b_60 hc, r_60_1 hc, x_4 hc i1 i2, x_6 hc i1 i2, h3, e4, e6, Int.toNat_natCast, w32_i l0 l1, c1, hd0]
      refine cNote (d := d - 1) (k := 5) (F := F) hr hT hp h3 hF (by decide) (fun μ1 f1 j1 F1 => ?_)
      simp only [↓reduceIte, Bool.false_eq_true, Nat.reduceAdd, Nat.reduceLT, Nat.reduceLeDiff, Nat.reduceSub, Nat.reduceEqDiff, Int.reduceToNat, Int.reduceEq, Int.reduceLT, Int.reduceLE, Int.reduceAdd, Int.reduceSub, zg, zI, zJ, zR, zst, zkl, zn, zcat, zok, zraw, List.length_cons, List.length_nil, Option.toList, List.nil_append, List.cons_append, true_and, and_true, if_true, if_false, ne_eq, not_true, not_false_eq_true, and_self, true_or, or_true, false_or, or_false, false_and, and_false]
      exact fin f1 j1 F1
    · by_cases c2 : V p ≤ hi
      · rw [if_neg (by omega)] at fin
        simp only [x45_0, x45_1, x45_4, x45_7, x45_8, x45_11, x45_12, x45_13, x45_16, x45_17, x45_18, x45_21, x45_22, x45_23, x45_24, x45_25, x45_28, x45_31, x45_32, x45_35, x45_36, x45_37, x45_38, x45_39, x45_40, x45_43, x45_44, x45_45, x45_48, x45_49, x45_50, x45_54, x45_57, x45_60, x45_61, x45_64, x45_65, ↓reduceIte, Bool.false_eq_true, Nat.reduceAdd, Nat.reduceLT, Nat.reduceLeDiff, Nat.reduceSub, Nat.reduceEqDiff, Int.reduceToNat, Int.reduceEq, Int.reduceLT, Int.reduceLE, Int.reduceAdd, Int.reduceSub, zg, zI, zJ, zR, zst, zkl, zn, zcat, zok, zraw, List.length_cons, List.length_nil, Option.toList, List.nil_append, List.cons_append, true_and, and_true, if_true, if_false, ne_eq, not_true, not_false_eq_true, and_self, true_or, or_true, false_or, or_false, false_and, and_false, b_2 hc, b_3 hc, b_9 hc, b_12 hc, b_26 hc, b_40 hc, b_46 hc, b_47 hc, b_60 hc, b_62 hc, b_63 hc, b_76 hc, b_77 hc, b_90 hc, b_91 hc, b_104 hc, b_107 hc, b_114 hc, b_115 hc, b_122 hc, b_123 hc, b_131 hc, b_3 hc, r_3_0 hc, x_4 hc, r_3_1 hc, x_5 hc, r_3_2 hc, x_6 hc, r_3_4 hc, x_7 hc, n_7 hc, r_3_5 hc, x_8 hc, b_60 hc, r_60_1 hc, x_4 hc i1 i2, x_6 hc i1 i2, h3, e4, e6, Int.toNat_natCast, w32_i l0 l1, c1, c2, hd0]
        exact fin Fr.refl (fun _ _ _ => rfl) hF
      · rw [if_pos (by omega)] at fin
        simp only [x45_0, x45_1, x45_4, x45_7, x45_8, x45_11, x45_12, x45_13, x45_16, x45_17, x45_18, x45_21, x45_22, x45_23, x45_24, x45_25, x45_28, x45_31, x45_32, x45_35, x45_36, x45_37, x45_38, x45_39, x45_40, x45_43, x45_44, x45_45, x45_48, x45_49, x45_50, x45_54, x45_57, x45_60, x45_61, x45_64, x45_65, ↓reduceIte, Bool.false_eq_true, Nat.reduceAdd, Nat.reduceLT, Nat.reduceLeDiff, Nat.reduceSub, Nat.reduceEqDiff, Int.reduceToNat, Int.reduceEq, Int.reduceLT, Int.reduceLE, Int.reduceAdd, Int.reduceSub, zg, zI, zJ, zR, zst, zkl, zn, zcat, zok, zraw, List.length_cons, List.length_nil, Option.toList, List.nil_append, List.cons_append, true_and, and_true, if_true, if_false, ne_eq, not_true, not_false_eq_true, and_self, true_or, or_true, false_or, or_false, false_and, and_false, b_2 hc, b_3 hc, b_9 hc, b_12 hc, b_26 hc, b_40 hc, b_46 hc, b_47 hc, b_60 hc, b_62 hc, b_63 hc, b_76 hc, b_77 hc, b_90 hc, b_91 hc, b_104 hc, b_107 hc, b_114 hc, b_115 hc, b_122 hc, b_123 hc, b_131 hc, b_3 hc, r_3_0 hc, x_4 hc, r_3_1 hc, x_5 hc, r_3_2 hc, x_6 hc, r_3_4 hc, x_7 hc, n_7 hc, r_3_5 hc, x_8 hc, b_60 hc, r_60_1 hc, x_4 hc i1 i2, x_6 hc i1 i2, h3, e4, e6, Int.toNat_natCast, w32_i l0 l1, c1, c2, hd0]
        refine cNote (d := d - 1) (k := 5) (F := F) hr hT hp h3 hF (by decide) (fun μ1 f1 j1 F1 => ?_)
        simp only [↓reduceIte, Bool.false_eq_true, Nat.reduceAdd, Nat.reduceLT, Nat.reduceLeDiff, Nat.reduceSub, Nat.reduceEqDiff, Int.reduceToNat, Int.reduceEq, Int.reduceLT, Int.reduceLE, Int.reduceAdd, Int.reduceSub, zg, zI, zJ, zR, zst, zkl, zn, zcat, zok, zraw, List.length_cons, List.length_nil, Option.toList, List.nil_append, List.cons_append, true_and, and_true, if_true, if_false, ne_eq, not_true, not_false_eq_true, and_self, true_or, or_true, false_or, or_false, false_and, and_false]
        exact fin f1 j1 F1
  · rw [if_neg k2] at hQ
    have k2' : ¬ ((K p : Nat) : Int) = 2 := by omega
    simp only [x45_0, x45_1, x45_4, x45_7, x45_8, x45_11, x45_12, x45_13, x45_16, x45_17, x45_18, x45_21, x45_22, x45_23, x45_24, x45_25, x45_28, x45_31, x45_32, x45_35, x45_36, x45_37, x45_38, x45_39, x45_40, x45_43, x45_44, x45_45, x45_48, x45_49, x45_50, x45_54, x45_57, x45_60, x45_61, x45_64, x45_65, ↓reduceIte, Bool.false_eq_true, Nat.reduceAdd, Nat.reduceLT, Nat.reduceLeDiff, Nat.reduceSub, Nat.reduceEqDiff, Int.reduceToNat, Int.reduceEq, Int.reduceLT, Int.reduceLE, Int.reduceAdd, Int.reduceSub, zg, zI, zJ, zR, zst, zkl, zn, zcat, zok, zraw, List.length_cons, List.length_nil, Option.toList, List.nil_append, List.cons_append, true_and, and_true, if_true, if_false, ne_eq, not_true, not_false_eq_true, and_self, true_or, or_true, false_or, or_false, false_and, and_false, b_2 hc, b_3 hc, b_9 hc, b_12 hc, b_26 hc, b_40 hc, b_46 hc, b_47 hc, b_60 hc, b_62 hc, b_63 hc, b_76 hc, b_77 hc, b_90 hc, b_91 hc, b_104 hc, b_107 hc, b_114 hc, b_115 hc, b_122 hc, b_123 hc, b_131 hc, b_3 hc, r_3_0 hc, x_4 hc, r_3_1 hc, x_5 hc, r_3_2 hc, x_6 hc, r_3_4 hc, x_7 hc, n_7 hc, r_3_5 hc, x_8 hc, b_60 hc, r_60_1 hc, x_4 hc i1 i2, h3, e4, Int.toNat_natCast, k2', hd0]
    refine cRefuse (d := d - 1) hr hT hp h3 (fun μ1 f1 g4 g0 => ?_)
    simp only [x45_0, x45_1, x45_4, x45_7, x45_8, x45_11, x45_12, x45_13, x45_16, x45_17, x45_18, x45_21, x45_22, x45_23, x45_24, x45_25, x45_28, x45_31, x45_32, x45_35, x45_36, x45_37, x45_38, x45_39, x45_40, x45_43, x45_44, x45_45, x45_48, x45_49, x45_50, x45_54, x45_57, x45_60, x45_61, x45_64, x45_65, ↓reduceIte, Bool.false_eq_true, Nat.reduceAdd, Nat.reduceLT, Nat.reduceLeDiff, Nat.reduceSub, Nat.reduceEqDiff, Int.reduceToNat, Int.reduceEq, Int.reduceLT, Int.reduceLE, Int.reduceAdd, Int.reduceSub, zg, zI, zJ, zR, zst, zkl, zn, zcat, zok, zraw, List.length_cons, List.length_nil, Option.toList, List.nil_append, List.cons_append, true_and, and_true, if_true, if_false, ne_eq, not_true, not_false_eq_true, and_self, true_or, or_true, false_or, or_false, false_and, and_false]
    exact hQ μ1 f1 g4 g0
/-- a TOKEN of a kind -/
theorem cExpect {d p k : Nat} {A : List Nat} (hr : RdC θ U) (hd : 1 ≤ d) (hT : TK K V W st Z μ) (hp : p ≤ Z) (h3 : μ 60 3 = (p : Nat)) (hf : Fr A μ0 μ) (hA : 60 ∈ A)
    (hQ : cRQ A st μ0 θ Q 0 (expG K k p ()) (fun q _ μ' => μ' = us μ 60 (zup (μ 60) 3 (q : Nat)))) : Ex d 55 0 [vr 60, vi (k : Nat)] [] θ μ Q := by
  have hr' := hr
  obtain ⟨hc, hU, hu, h60⟩ := hr'
  have hd0 : 0 < d := by omega
  have hz := hT.1.1
  have e4 := (hT.2.2.2 p hp).1
  have i1 : (0 : Int) ≤ (p : Int) := by omega
  have i2 : (p : Int) < 401 := by omega
  have hA' : ∀ a ∈ [60], a ∈ A := fun a ha => by simp at ha; rw [ha]; exact hA
  unfold expG at hQ
  by_cases k2 : K p = k
  · rw [if_pos k2] at hQ
    have k2' : ((K p : Nat) : Int) = (k : Nat) := by omega
    simp only [x55_0, x55_1, x55_4, x55_7, x55_8, x55_11, x55_12, x55_13, x55_16, x55_17, x55_20, x55_23, x55_24, x55_25, x55_28, ↓reduceIte, Bool.false_eq_true, Nat.reduceAdd, Nat.reduceLT, Nat.reduceLeDiff, Nat.reduceSub, Nat.reduceEqDiff, Int.reduceToNat, Int.reduceEq, Int.reduceLT, Int.reduceLE, Int.reduceAdd, Int.reduceSub, zg, zI, zJ, zR, zst, zkl, zn, zcat, zok, zraw, List.length_cons, List.length_nil, Option.toList, List.nil_append, List.cons_append, true_and, and_true, if_true, if_false, ne_eq, not_true, not_false_eq_true, and_self, true_or, or_true, false_or, or_false, false_and, and_false, b_2 hc, b_3 hc, b_9 hc, b_12 hc, b_26 hc, b_40 hc, b_46 hc, b_47 hc, b_60 hc, b_62 hc, b_63 hc, b_76 hc, b_77 hc, b_90 hc, b_91 hc, b_104 hc, b_107 hc, b_114 hc, b_115 hc, b_122 hc, b_123 hc, b_131 hc, b_3 hc, r_3_0 hc, x_4 hc, r_3_1 hc, x_5 hc, r_3_2 hc, x_6 hc, r_3_4 hc, x_7 hc, n_7 hc, r_3_5 hc, x_8 hc, b_60 hc, r_60_1 hc, x_4 hc i1 i2, h3, e4, Int.toNat_natCast, k2', hd0]
    refine cPass (d := d - 1) hr hT hp h3 (fun h4 => ?_) (fun h4 μ2 f2 g4 g0 => ?_)
    · rw [nx_lt h4] at hQ
      simp only [x55_0, x55_1, x55_4, x55_7, x55_8, x55_11, x55_12, x55_13, x55_16, x55_17, x55_20, x55_23, x55_24, x55_25, x55_28, ↓reduceIte, Bool.false_eq_true, Nat.reduceAdd, Nat.reduceLT, Nat.reduceLeDiff, Nat.reduceSub, Nat.reduceEqDiff, Int.reduceToNat, Int.reduceEq, Int.reduceLT, Int.reduceLE, Int.reduceAdd, Int.reduceSub, zg, zI, zJ, zR, zst, zkl, zn, zcat, zok, zraw, List.length_cons, List.length_nil, Option.toList, List.nil_append, List.cons_append, true_and, and_true, if_true, if_false, ne_eq, not_true, not_false_eq_true, and_self, true_or, or_true, false_or, or_false, false_and, and_false]
      exact hQ _ rfl
    · rw [nx_ge h4] at hQ
      simp only [x55_0, x55_1, x55_4, x55_7, x55_8, x55_11, x55_12, x55_13, x55_16, x55_17, x55_20, x55_23, x55_24, x55_25, x55_28, ↓reduceIte, Bool.false_eq_true, Nat.reduceAdd, Nat.reduceLT, Nat.reduceLeDiff, Nat.reduceSub, Nat.reduceEqDiff, Int.reduceToNat, Int.reduceEq, Int.reduceLT, Int.reduceLE, Int.reduceAdd, Int.reduceSub, zg, zI, zJ, zR, zst, zkl, zn, zcat, zok, zraw, List.length_cons, List.length_nil, Option.toList, List.nil_append, List.cons_append, true_and, and_true, if_true, if_false, ne_eq, not_true, not_false_eq_true, and_self, true_or, or_true, false_or, or_false, false_and, and_false]
      exact hQ μ2 (hf.trans (f2.mono hA')) g4 g0
  · rw [if_neg k2] at hQ
    have k2' : ¬ ((K p : Nat) : Int) = (k : Nat) := by omega
    simp only [x55_0, x55_1, x55_4, x55_7, x55_8, x55_11, x55_12, x55_13, x55_16, x55_17, x55_20, x55_23, x55_24, x55_25, x55_28, ↓reduceIte, Bool.false_eq_true, Nat.reduceAdd, Nat.reduceLT, Nat.reduceLeDiff, Nat.reduceSub, Nat.reduceEqDiff, Int.reduceToNat, Int.reduceEq, Int.reduceLT, Int.reduceLE, Int.reduceAdd, Int.reduceSub, zg, zI, zJ, zR, zst, zkl, zn, zcat, zok, zraw, List.length_cons, List.length_nil, Option.toList, List.nil_append, List.cons_append, true_and, and_true, if_true, if_false, ne_eq, not_true, not_false_eq_true, and_self, true_or, or_true, false_or, or_false, false_and, and_false, b_2 hc, b_3 hc, b_9 hc, b_12 hc, b_26 hc, b_40 hc, b_46 hc, b_47 hc, b_60 hc, b_62 hc, b_63 hc, b_76 hc, b_77 hc, b_90 hc, b_91 hc, b_104 hc, b_107 hc, b_114 hc, b_115 hc, b_122 hc, b_123 hc, b_131 hc, b_3 hc, r_3_0 hc, x_4 hc, r_3_1 hc, x_5 hc, r_3_2 hc, x_6 hc, r_3_4 hc, x_7 hc, n_7 hc, r_3_5 hc, x_8 hc, b_60 hc, r_60_1 hc, x_4 hc i1 i2, h3, e4, Int.toNat_natCast, k2', hd0]
    refine cRefuse (d := d - 1) hr hT hp h3 (fun μ1 f1 g4 g0 => ?_)
    simp only [x55_0, x55_1, x55_4, x55_7, x55_8, x55_11, x55_12, x55_13, x55_16, x55_17, x55_20, x55_23, x55_24, x55_25, x55_28, ↓reduceIte, Bool.false_eq_true, Nat.reduceAdd, Nat.reduceLT, Nat.reduceLeDiff, Nat.reduceSub, Nat.reduceEqDiff, Int.reduceToNat, Int.reduceEq, Int.reduceLT, Int.reduceLE, Int.reduceAdd, Int.reduceSub, zg, zI, zJ, zR, zst, zkl, zn, zcat, zok, zraw, List.length_cons, List.length_nil, Option.toList, List.nil_append, List.cons_append, true_and, and_true, if_true, if_false, ne_eq, not_true, not_false_eq_true, and_self, true_or, or_true, false_or, or_false, false_and, and_false]
    exact hQ μ1 (hf.trans (f1.mono hA')) g4 g0
end RG
