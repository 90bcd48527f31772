/-! THE CLASS READS an E -/
def cEQ (U a : Nat) (st : Nat → Int) (μ0 : zM) (θ : zS) (Q : Option zV → zS → zM → Prop) (r : pR zC) : Prop := match r with
  | .inl e => ∀ μ', Fr [60, U, U + 5] μ0 μ' → μ' 60 4 = (e.1 : Nat) → μ' 60 0 = st e.2 → Q (some (vi 0)) θ μ'
  | .inr x => ∀ μ', PE U x.1 a (enC x.2) μ0 μ' → Q (some (vi 1)) θ μ'
theorem enC_app (a b : zC) : enC (a ++ b) = enC a ++ enC b := by unfold enC; simp
theorem enC_len (a : zC) : (enC a).length = a.length := by unfold enC; simp
theorem enC_op {k : Nat} (h : 6 ≤ k) (h9 : k ≤ 9) : enC [(k - 4, 0)] = [((k : Int), 0)] := by
  obtain h | h | h | h : k = 6 ∨ k = 7 ∨ k = 8 ∨ k = 9 := by omega
  all_goals subst h; rfl
section RF
variable {θ : zS} {μ μ0 : zM} {K : Nat → Nat} {V W st : Nat → Int} {Z U : Nat}
theorem w32_36 {k : Nat} (h : 36 ≤ k) (h2 : k < 2147483648) : w32 (((k : Nat) : Int) - 36) = ((k - 36 : Nat) : Int) := by rw [w32_i (by omega) (by omega)]; omega
theorem mz_0 (p : Nat) : mz 0 p = 4 * (401 - p) + 1 := rfl
theorem mz_1 (p : Nat) : mz 1 p = 4 * (401 - p) + 1 := rfl
theorem mz_2 (p : Nat) : mz 2 p = 4 * (401 - p) + 2 := rfl
theorem mz_3 (p : Nat) : mz 3 p = 4 * (401 - p) + 1 := rfl
theorem mz_4 (p : Nat) : mz 4 p = 4 * (401 - p) + 3 := rfl
theorem Fr_E {μ1 μ2 : zM} {A : List Nat} (h1 : Fr [60, U, U + 5] μ0 μ1) (h2 : Fr A μ1 μ2) (hA : ∀ a ∈ A, a ∈ [60, U, U + 5]) : Fr [60, U, U + 5] μ0 μ2 := h1.trans (h2.mono hA)
/-- behind an operand -/
theorem cUnitEnd {d p a pc : Nat} {n k v y : Int} {z : Nat × Int} {Q : Option zV → zS → zM → Prop} (hpc : pc = 39 ∨ pc = 69) (hd0 : 0 < d) (hr : RdC θ U) (hp : p ≤ Z) (hy : enC [z] = [(k, v)]) (hq : cEQ U a st μ0 θ Q (nx p [z]))
    (hf : Fr [60, U, U + 5] μ0 μ) (h3 : μ 60 3 = (p : Nat)) (hE : p < 400 → PE U p a [(k, v)] μ0 μ) (hT : TK K V W st Z μ) : Ex d 54 pc [vr 60, vi n, vi y] [] θ μ Q := by
  have hc := hr.1
  rcases hpc with rfl | rfl
  all_goals
    simp only [x54_0, x54_1, x54_4, x54_7, x54_8, x54_11, x54_12, x54_13, x54_14, x54_15, x54_18, x54_19, x54_22, x54_23, x54_24, x54_27, x54_30, x54_31, x54_34, x54_35, x54_36, x54_39, x54_40, x54_43, x54_44, x54_45, x54_47, x54_50, x54_51, x54_53, x54_56, x54_57, x54_60, x54_62, x54_63, x54_65, x54_66, x54_69, x54_70, x54_73, x54_74, x54_75, x54_77, x54_80, x54_81, x54_82, x54_85, x54_86, x54_87, x54_89, x54_92, x54_93, x54_94, x54_97, x54_98, x54_99, x54_102, x54_105, x54_106, x54_107, x54_108, x54_109, x54_112, x54_115, x54_116, x54_117, x54_118, x54_121, x54_124, x54_125, x54_128, x54_129, x54_131, x54_134, x54_135, x54_138, x54_141, x54_142, x54_143, x54_146, ↓reduceIte, Bool.false_eq_true, Nat.reduceAdd, Nat.reduceLT, Nat.reduceLeDiff, Nat.reduceSub, Nat.reduceEqDiff, Int.reduceToNat, Int.reduceEq, Int.reduceLT, Int.reduceLE, Int.reduceAdd, Int.reduceSub, zg, zI, zJ, zR, zst, zkl, zn, zcat, zok, zraw, List.length_cons, List.length_nil, Option.toList, List.nil_append, List.cons_append, true_and, and_true, if_true, if_false, ne_eq, not_true, not_false_eq_true, and_self, true_or, or_true, false_or, or_false, false_and, and_false, b_60 hc, hd0]
    refine cPass (d := d - 1) hr hT hp h3 (fun h4 => ?_) (fun h4 μ3 f3 g4 g0 => ?_)
    · simp only [x54_0, x54_1, x54_4, x54_7, x54_8, x54_11, x54_12, x54_13, x54_14, x54_15, x54_18, x54_19, x54_22, x54_23, x54_24, x54_27, x54_30, x54_31, x54_34, x54_35, x54_36, x54_39, x54_40, x54_43, x54_44, x54_45, x54_47, x54_50, x54_51, x54_53, x54_56, x54_57, x54_60, x54_62, x54_63, x54_65, x54_66, x54_69, x54_70, x54_73, x54_74, x54_75, x54_77, x54_80, x54_81, x54_82, x54_85, x54_86, x54_87, x54_89, x54_92, x54_93, x54_94, x54_97, x54_98, x54_99, x54_102, x54_105, x54_106, x54_107, x54_108, x54_109, x54_112, x54_115, x54_116, x54_117, x54_118, x54_121, x54_124, x54_125, x54_128, x54_129, x54_131, x54_134, x54_135, x54_138, x54_141, x54_142, x54_143, x54_146, ↓reduceIte, Bool.false_eq_true, Nat.reduceAdd, Nat.reduceLT, Nat.reduceLeDiff, Nat.reduceSub, Nat.reduceEqDiff, Int.reduceToNat, Int.reduceEq, Int.reduceLT, Int.reduceLE, Int.reduceAdd, Int.reduceSub, zg, zI, zJ, zR, zst, zkl, zn, zcat, zok, zraw, List.length_cons, List.length_nil, Option.toList, List.nil_append, List.cons_append, true_and, and_true, if_true, if_false, ne_eq, not_true, not_false_eq_true, and_self, true_or, or_true, false_or, or_false, false_and, and_false]
      rw [nx_lt h4] at hq
      refine hq _ ?_
      rw [hy]
      exact PE_at hr (hE h4)
    · simp only [x54_0, x54_1, x54_4, x54_7, x54_8, x54_11, x54_12, x54_13, x54_14, x54_15, x54_18, x54_19, x54_22, x54_23, x54_24, x54_27, x54_30, x54_31, x54_34, x54_35, x54_36, x54_39, x54_40, x54_43, x54_44, x54_45, x54_47, x54_50, x54_51, x54_53, x54_56, x54_57, x54_60, x54_62, x54_63, x54_65, x54_66, x54_69, x54_70, x54_73, x54_74, x54_75, x54_77, x54_80, x54_81, x54_82, x54_85, x54_86, x54_87, x54_89, x54_92, x54_93, x54_94, x54_97, x54_98, x54_99, x54_102, x54_105, x54_106, x54_107, x54_108, x54_109, x54_112, x54_115, x54_116, x54_117, x54_118, x54_121, x54_124, x54_125, x54_128, x54_129, x54_131, x54_134, x54_135, x54_138, x54_141, x54_142, x54_143, x54_146, ↓reduceIte, Bool.false_eq_true, Nat.reduceAdd, Nat.reduceLT, Nat.reduceLeDiff, Nat.reduceSub, Nat.reduceEqDiff, Int.reduceToNat, Int.reduceEq, Int.reduceLT, Int.reduceLE, Int.reduceAdd, Int.reduceSub, zg, zI, zJ, zR, zst, zkl, zn, zcat, zok, zraw, List.length_cons, List.length_nil, Option.toList, List.nil_append, List.cons_append, true_and, and_true, if_true, if_false, ne_eq, not_true, not_false_eq_true, and_self, true_or, or_true, false_or, or_false, false_and, and_false]
      rw [nx_ge h4] at hq
      exact hq μ3 (Fr_E hf f3 (by simp)) g4 g0
theorem cE (hr : RdC θ U) : ∀ f,
    (∀ n p d a μ0 μ x2 Q, p ≤ Z → n ≤ 6 → mz 0 p ≤ f → 1 + 3 * (6 - n) ≤ d → a ≤ p → PE U p a [] μ0 μ → TK K V W st Z μ → cEQ U a st μ0 θ Q (rd K V f 0 n p []) → Ex d 54 0 [vr 60, vi (n : Nat), x2] [] θ μ Q)
  ∧ (∀ n p d a i c μ0 μ x3 Q, p ≤ Z → n ≤ 6 → mz 1 p ≤ f → 2 + 3 * (6 - n) ≤ d → a + c.length ≤ p → i ≤ p → PE U p a (enC c) μ0 μ → TK K V W st Z μ → cEQ U a st μ0 θ Q (rd K V f 1 n p c) → Ex d 53 12 [vr 60, vi (n : Nat), vi (i : Nat), x3] [] θ μ Q)
  ∧ (∀ n p d a μ0 μ x2 x3 Q, p ≤ Z → n ≤ 6 → mz 2 p ≤ f → 2 + 3 * (6 - n) ≤ d → a ≤ p → PE U p a [] μ0 μ → TK K V W st Z μ → cEQ U a st μ0 θ Q (rd K V f 2 n p []) → Ex d 53 0 [vr 60, vi (n : Nat), x2, x3] [] θ μ Q)
  ∧ (∀ n p d a i c μ0 μ x3 Q, p ≤ Z → n ≤ 6 → mz 3 p ≤ f → 3 + 3 * (6 - n) ≤ d → a + c.length ≤ p → i ≤ p → PE U p a (enC c) μ0 μ → TK K V W st Z μ → cEQ U a st μ0 θ Q (rd K V f 3 n p c) → Ex d 52 12 [vr 60, vi (n : Nat), vi (i : Nat), x3] [] θ μ Q)
  ∧ (∀ n p d a μ0 μ x2 x3 Q, p ≤ Z → n ≤ 6 → mz 4 p ≤ f → 3 + 3 * (6 - n) ≤ d → a ≤ p → PE U p a [] μ0 μ → TK K V W st Z μ → cEQ U a st μ0 θ Q (rd K V f 4 n p []) → Ex d 52 0 [vr 60, vi (n : Nat), x2, x3] [] θ μ Q) := by
  intro f
  have hr' := hr
  obtain ⟨hc, hU, hu, h60⟩ := hr'
  induction f with
  | zero =>
    refine ⟨fun n p d a μ0 μ x2 Q _ _ hz => ?_, fun n p d a i c μ0 μ x3 Q _ _ hz => ?_, fun n p d a μ0 μ x2 x3 Q _ _ hz => ?_, fun n p d a i c μ0 μ x3 Q _ _ hz => ?_, fun n p d a μ0 μ x2 x3 Q _ _ hz => ?_⟩
    · rw [mz_0] at hz; omega
    · rw [mz_1] at hz; omega
    · rw [mz_2] at hz; omega
    · rw [mz_3] at hz; omega
    · rw [mz_4] at hz; omega
  | succ f ih =>
    obtain ⟨ih0, ih1, ih2, ih3, ih4⟩ := ih
    refine ⟨?_, ?_, ?_, ?_, ?_⟩
    · intro n p d a μ0 μ x2 Q hp hn hz hd ha hE hT hQ
      rw [mz_0] at hz
      have hd0 : 0 < d := by omega
      have hp4 : p ≤ 400 := Nat.le_trans hp hT.1.1
      have e3 := hE.2.1
      have e4 := (hT.2.2.2 p hp).1
      have e16 : μ U 16 = (a : Nat) := by have := hE.2.2.2.1; simpa using this
      have i1 : (0 : Int) ≤ (p : Int) := by omega
      have i2 : (p : Int) < 401 := by omega
      rw [rd_0] at hQ
      by_cases k2 : K p = 2
      · rw [if_pos k2] at hQ
        have e6 := (hT.2.2.2 p hp).2.2.1 k2
        have hv := hT.2.1 p k2
        have l0 : -2147483648 ≤ V p := by omega
        have l1 : V p ≤ 2147483647 := by omega
        have k2' : ((K p : Nat) : Int) = 2 := by omega
        rw [k2'] at e4
        simp only [x54_0, x54_1, x54_4, x54_7, x54_8, x54_11, x54_12, x54_13, x54_14, x54_15, x54_18, x54_19, x54_22, x54_23, x54_24, x54_27, x54_30, x54_31, x54_34, x54_35, x54_36, x54_40, x54_43, x54_44, x54_45, x54_47, x54_50, x54_51, x54_53, x54_56, x54_57, x54_60, x54_62, x54_63, x54_65, x54_66, x54_69, x54_70, x54_73, x54_74, x54_75, x54_77, x54_80, x54_81, x54_82, x54_85, x54_86, x54_87, x54_89, x54_92, x54_93, x54_94, x54_97, x54_98, x54_99, x54_102, x54_105, x54_106, x54_107, x54_108, x54_109, x54_112, x54_115, x54_116, x54_117, x54_118, x54_121, x54_124, x54_125, x54_128, x54_129, x54_131, x54_134, x54_135, x54_138, x54_141, x54_142, x54_143, x54_146, ↓reduceIte, Bool.false_eq_true, Nat.reduceAdd, Nat.reduceLT, Nat.reduceLeDiff, Nat.reduceSub, Nat.reduceEqDiff, Int.reduceToNat, Int.reduceEq, Int.reduceLT, Int.reduceLE, Int.reduceAdd, Int.reduceSub, zg, zI, zJ, zR, zst, zkl, zn, zcat, zok, zraw, List.length_cons, List.length_nil, Option.toList, List.nil_append, List.cons_append, true_and, and_true, if_true, if_false, ne_eq, not_true, not_false_eq_true, and_self, true_or, or_true, false_or, or_false, false_and, and_false, b_2 hc, b_3 hc, b_9 hc, b_12 hc, b_26 hc, b_40 hc, b_46 hc, b_47 hc, b_60 hc, b_62 hc, b_63 hc, b_76 hc, b_77 hc, b_90 hc, b_91 hc, b_104 hc, b_107 hc, b_114 hc, b_115 hc, b_122 hc, b_123 hc, b_131 hc, b_3 hc, r_3_0 hc, x_4 hc, r_3_1 hc, x_5 hc, r_3_2 hc, x_6 hc, r_3_4 hc, x_7 hc, n_7 hc, r_3_5 hc, x_8 hc, b_60 hc, r_60_1 hc, x_4 hc i1 i2, x_6 hc i1 i2, h60, e3, e4, Int.toNat_natCast, e6, w32_i l0 l1, tb hU, hd0]
        refine cEmit (d := d - 1) hr e16 (by omega) (by omega) (fun h4 => ?_) (fun h4 => ?_)
        · have hE2 := PE_emit (k := 2) (v := V p) hr hE (s := a) (by simp)
          simp only [↓reduceIte, Bool.false_eq_true, Nat.reduceAdd, Nat.reduceLT, Nat.reduceLeDiff, Nat.reduceSub, Nat.reduceEqDiff, Int.reduceToNat, Int.reduceEq, Int.reduceLT, Int.reduceLE, Int.reduceAdd, Int.reduceSub, zg, zI, zJ, zR, zst, zkl, zn, zcat, zok, zraw, List.length_cons, List.length_nil, Option.toList, List.nil_append, List.cons_append, true_and, and_true, if_true, if_false, ne_eq, not_true, not_false_eq_true, and_self, true_or, or_true, false_or, or_false, false_and, and_false]
          exact cUnitEnd (Or.inl rfl) hd0 hr hp (z := (0, V p)) rfl hQ hE2.1 hE2.2.1 (fun _ => hE2) (TK_E hr hT (Fr.us (by simp) (Fr.us (by simp) Fr.refl)))
        · simp only [↓reduceIte, Bool.false_eq_true, Nat.reduceAdd, Nat.reduceLT, Nat.reduceLeDiff, Nat.reduceSub, Nat.reduceEqDiff, Int.reduceToNat, Int.reduceEq, Int.reduceLT, Int.reduceLE, Int.reduceAdd, Int.reduceSub, zg, zI, zJ, zR, zst, zkl, zn, zcat, zok, zraw, List.length_cons, List.length_nil, Option.toList, List.nil_append, List.cons_append, true_and, and_true, if_true, if_false, ne_eq, not_true, not_false_eq_true, and_self, true_or, or_true, false_or, or_false, false_and, and_false]
          exact cUnitEnd (k := 2) (v := V p) (Or.inl rfl) hd0 hr hp (z := (0, V p)) rfl hQ hE.1 hE.2.1 (fun hh => by omega) hT
      · rw [if_neg k2] at hQ
        have k2' : ¬ ((K p : Nat) : Int) = 2 := by omega
        by_cases kv : 36 ≤ K p ∧ K p ≤ 48
        · rw [if_pos kv] at hQ
          have k3 : ¬ ((K p : Nat) : Int) < 36 := by omega
          have k4 : ¬ (48 : Int) < ((K p : Nat) : Int) := by omega
          have l0 : 36 ≤ K p := kv.1
          have l1 : K p < 2147483648 := by omega
          simp only [x54_0, x54_1, x54_4, x54_7, x54_8, x54_11, x54_12, x54_13, x54_14, x54_15, x54_18, x54_19, x54_22, x54_23, x54_24, x54_27, x54_30, x54_31, x54_34, x54_35, x54_36, x54_39, x54_40, x54_43, x54_44, x54_45, x54_47, x54_50, x54_51, x54_53, x54_56, x54_57, x54_60, x54_62, x54_63, x54_65, x54_66, x54_70, x54_73, x54_74, x54_75, x54_77, x54_80, x54_81, x54_82, x54_85, x54_86, x54_87, x54_89, x54_92, x54_93, x54_94, x54_97, x54_98, x54_99, x54_102, x54_105, x54_106, x54_107, x54_108, x54_109, x54_112, x54_115, x54_116, x54_117, x54_118, x54_121, x54_124, x54_125, x54_128, x54_129, x54_131, x54_134, x54_135, x54_138, x54_141, x54_142, x54_143, x54_146, ↓reduceIte, Bool.false_eq_true, Nat.reduceAdd, Nat.reduceLT, Nat.reduceLeDiff, Nat.reduceSub, Nat.reduceEqDiff, Int.reduceToNat, Int.reduceEq, Int.reduceLT, Int.reduceLE, Int.reduceAdd, Int.reduceSub, zg, zI, zJ, zR, zst, zkl, zn, zcat, zok, zraw, List.length_cons, List.length_nil, Option.toList, List.nil_append, List.cons_append, true_and, and_true, if_true, if_false, ne_eq, not_true, not_false_eq_true, and_self, true_or, or_true, false_or, or_false, false_and, and_false, b_2 hc, b_3 hc, b_9 hc, b_12 hc, b_26 hc, b_40 hc, b_46 hc, b_47 hc, b_60 hc, b_62 hc, b_63 hc, b_76 hc, b_77 hc, b_90 hc, b_91 hc, b_104 hc, b_107 hc, b_114 hc, b_115 hc, b_122 hc, b_123 hc, b_131 hc, b_3 hc, r_3_0 hc, x_4 hc, r_3_1 hc, x_5 hc, r_3_2 hc, x_6 hc, r_3_4 hc, x_7 hc, n_7 hc, r_3_5 hc, x_8 hc, b_60 hc, r_60_1 hc, x_4 hc i1 i2, h60, e3, e4, Int.toNat_natCast, k2', k3, k4, w32_36 l0 l1, tb hU, hd0]
          refine cEmit (d := d - 1) (k := 36) (v := ((K p - 36 : Nat) : Int)) hr e16 (by omega) (by omega) (fun h4 => ?_) (fun h4 => ?_)
          · have hE2 := PE_emit (k := 36) (v := ((K p - 36 : Nat) : Int)) hr hE (s := a) (by simp)
            simp only [↓reduceIte, Bool.false_eq_true, Nat.reduceAdd, Nat.reduceLT, Nat.reduceLeDiff, Nat.reduceSub, Nat.reduceEqDiff, Int.reduceToNat, Int.reduceEq, Int.reduceLT, Int.reduceLE, Int.reduceAdd, Int.reduceSub, zg, zI, zJ, zR, zst, zkl, zn, zcat, zok, zraw, List.length_cons, List.length_nil, Option.toList, List.nil_append, List.cons_append, true_and, and_true, if_true, if_false, ne_eq, not_true, not_false_eq_true, and_self, true_or, or_true, false_or, or_false, false_and, and_false]
            exact cUnitEnd (Or.inr rfl) hd0 hr hp (z := (1, ((K p - 36 : Nat) : Int))) rfl hQ hE2.1 hE2.2.1 (fun _ => hE2) (TK_E hr hT (Fr.us (by simp) (Fr.us (by simp) Fr.refl)))
          · simp only [↓reduceIte, Bool.false_eq_true, Nat.reduceAdd, Nat.reduceLT, Nat.reduceLeDiff, Nat.reduceSub, Nat.reduceEqDiff, Int.reduceToNat, Int.reduceEq, Int.reduceLT, Int.reduceLE, Int.reduceAdd, Int.reduceSub, zg, zI, zJ, zR, zst, zkl, zn, zcat, zok, zraw, List.length_cons, List.length_nil, Option.toList, List.nil_append, List.cons_append, true_and, and_true, if_true, if_false, ne_eq, not_true, not_false_eq_true, and_self, true_or, or_true, false_or, or_false, false_and, and_false]
            exact cUnitEnd (k := 36) (v := ((K p - 36 : Nat) : Int)) (Or.inr rfl) hd0 hr hp (z := (1, ((K p - 36 : Nat) : Int))) rfl hQ hE.1 hE.2.1 (fun hh => by omega) hT
        · rw [if_neg kv] at hQ
          have skip : ∀ (G : Prop), (((K p : Nat) : Int) < 36 → G) → (¬ ((K p : Nat) : Int) < 36 → ¬ ((K p : Nat) : Int) ≤ 48 → G) → G := fun G g1 g2 => by
            by_cases k3 : ((K p : Nat) : Int) < 36
            · exact g1 k3
            · exact g2 k3 (by omega)
          have hk48 := hT.2.2.1 p hp
          have k3 : ((K p : Nat) : Int) < 36 := by omega
          by_cases k14 : K p = 14
          · rw [if_neg (show ¬ (K p ≠ 14) from fun hh => hh k14)] at hQ
            have k14' : ((K p : Nat) : Int) = 14 := by omega
            by_cases h6 : 6 ≤ n
            · rw [if_pos h6] at hQ
              have h6' : ¬ ((n : Nat) : Int) < 6 := by omega
              simp only [x54_0, x54_1, x54_4, x54_7, x54_8, x54_11, x54_12, x54_13, x54_14, x54_15, x54_18, x54_19, x54_22, x54_23, x54_24, x54_27, x54_30, x54_31, x54_34, x54_35, x54_36, x54_39, x54_40, x54_43, x54_44, x54_45, x54_47, x54_50, x54_51, x54_53, x54_56, x54_57, x54_60, x54_62, x54_63, x54_65, x54_66, x54_69, x54_70, x54_73, x54_74, x54_75, x54_77, x54_80, x54_81, x54_82, x54_85, x54_86, x54_87, x54_89, x54_92, x54_93, x54_94, x54_97, x54_98, x54_99, x54_102, x54_105, x54_106, x54_107, x54_108, x54_109, x54_112, x54_115, x54_116, x54_117, x54_118, x54_121, x54_124, x54_125, x54_128, x54_129, x54_131, x54_134, x54_135, x54_138, x54_141, x54_142, x54_143, x54_146, ↓reduceIte, Bool.false_eq_true, Nat.reduceAdd, Nat.reduceLT, Nat.reduceLeDiff, Nat.reduceSub, Nat.reduceEqDiff, Int.reduceToNat, Int.reduceEq, Int.reduceLT, Int.reduceLE, Int.reduceAdd, Int.reduceSub, zg, zI, zJ, zR, zst, zkl, zn, zcat, zok, zraw, List.length_cons, List.length_nil, Option.toList, List.nil_append, List.cons_append, true_and, and_true, if_true, if_false, ne_eq, not_true, not_false_eq_true, and_self, true_or, or_true, false_or, or_false, false_and, and_false, b_2 hc, b_3 hc, b_9 hc, b_12 hc, b_26 hc, b_40 hc, b_46 hc, b_47 hc, b_60 hc, b_62 hc, b_63 hc, b_76 hc, b_77 hc, b_90 hc, b_91 hc, b_104 hc, b_107 hc, b_114 hc, b_115 hc, b_122 hc, b_123 hc, b_131 hc, b_3 hc, r_3_0 hc, x_4 hc, r_3_1 hc, x_5 hc, r_3_2 hc, x_6 hc, r_3_4 hc, x_7 hc, n_7 hc, r_3_5 hc, x_8 hc, b_60 hc, r_60_1 hc, x_4 hc i1 i2, e3, e4, Int.toNat_natCast, k2', k3, k14', h6', hd0]
              refine cRefuse (d := d - 1) hr hT hp e3 (fun μ1 f1 g4 g0 => ?_)
              simp only [x54_0, x54_1, x54_4, x54_7, x54_8, x54_11, x54_12, x54_13, x54_14, x54_15, x54_18, x54_19, x54_22, x54_23, x54_24, x54_27, x54_30, x54_31, x54_34, x54_35, x54_36, x54_39, x54_40, x54_43, x54_44, x54_45, x54_47, x54_50, x54_51, x54_53, x54_56, x54_57, x54_60, x54_62, x54_63, x54_65, x54_66, x54_69, x54_70, x54_73, x54_74, x54_75, x54_77, x54_80, x54_81, x54_82, x54_85, x54_86, x54_87, x54_89, x54_92, x54_93, x54_94, x54_97, x54_98, x54_99, x54_102, x54_105, x54_106, x54_107, x54_108, x54_109, x54_112, x54_115, x54_116, x54_117, x54_118, x54_121, x54_124, x54_125, x54_128, x54_129, x54_131, x54_134, x54_135, x54_138, x54_141, x54_142, x54_143, x54_146, ↓reduceIte, Bool.false_eq_true, Nat.reduceAdd, Nat.reduceLT, Nat.reduceLeDiff, Nat.reduceSub, Nat.reduceEqDiff, Int.reduceToNat, Int.reduceEq, Int.reduceLT, Int.reduceLE, Int.reduceAdd, Int.reduceSub, zg, zI, zJ, zR, zst, zkl, zn, zcat, zok, zraw, List.length_cons, List.length_nil, Option.toList, List.nil_append, List.cons_append, true_and, and_true, if_true, if_false, ne_eq, not_true, not_false_eq_true, and_self, true_or, or_true, false_or, or_false, false_and, and_false]
              exact hQ μ1 (Fr_E hE.1 f1 (by simp)) g4 g0
            · rw [if_neg h6] at hQ
              have h6' : ((n : Nat) : Int) < 6 := by omega
              have hn1 : n < 2147483647 := by omega
              simp only [x54_0, x54_1, x54_4, x54_7, x54_8, x54_11, x54_12, x54_13, x54_14, x54_15, x54_18, x54_19, x54_22, x54_23, x54_24, x54_27, x54_30, x54_31, x54_34, x54_35, x54_36, x54_39, x54_40, x54_43, x54_44, x54_45, x54_47, x54_50, x54_51, x54_53, x54_56, x54_57, x54_60, x54_62, x54_63, x54_65, x54_66, x54_69, x54_70, x54_73, x54_74, x54_75, x54_77, x54_80, x54_81, x54_82, x54_85, x54_86, x54_87, x54_89, x54_92, x54_93, x54_94, x54_97, x54_98, x54_99, x54_102, x54_105, x54_106, x54_107, x54_108, x54_109, x54_112, x54_115, x54_116, x54_117, x54_118, x54_121, x54_124, x54_125, x54_128, x54_129, x54_131, x54_134, x54_135, x54_138, x54_141, x54_142, x54_143, x54_146, ↓reduceIte, Bool.false_eq_true, Nat.reduceAdd, Nat.reduceLT, Nat.reduceLeDiff, Nat.reduceSub, Nat.reduceEqDiff, Int.reduceToNat, Int.reduceEq, Int.reduceLT, Int.reduceLE, Int.reduceAdd, Int.reduceSub, zg, zI, zJ, zR, zst, zkl, zn, zcat, zok, zraw, List.length_cons, List.length_nil, Option.toList, List.nil_append, List.cons_append, true_and, and_true, if_true, if_false, ne_eq, not_true, not_false_eq_true, and_self, true_or, or_true, false_or, or_false, false_and, and_false, b_2 hc, b_3 hc, b_9 hc, b_12 hc, b_26 hc, b_40 hc, b_46 hc, b_47 hc, b_60 hc, b_62 hc, b_63 hc, b_76 hc, b_77 hc, b_90 hc, b_91 hc, b_104 hc, b_107 hc, b_114 hc, b_115 hc, b_122 hc, b_123 hc, b_131 hc, b_3 hc, r_3_0 hc, x_4 hc, r_3_1 hc, x_5 hc, r_3_2 hc, x_6 hc, r_3_4 hc, x_7 hc, n_7 hc, r_3_5 hc, x_8 hc, b_60 hc, r_60_1 hc, x_4 hc i1 i2, e3, e4, Int.toNat_natCast, k2', k3, k14', h6', hd0]
              refine cPass (d := d - 1) hr hT hp e3 (fun h4 => ?_) (fun h4 μ1 f1 g4 g0 => ?_)
              · rw [if_pos h4] at hQ
                have hpz := hT.1.2 p h4 hp (by omega)
                have hE1 := PE_at (q := p + 1) hr hE
                have hT1 := TK_E hr hT (Fr.us (a := 60) (f := zup (μ 60) 3 ((p + 1 : Nat) : Int)) (by simp) Fr.refl)
                simp only [x54_0, x54_1, x54_4, x54_7, x54_8, x54_11, x54_12, x54_13, x54_14, x54_15, x54_18, x54_19, x54_22, x54_23, x54_24, x54_27, x54_30, x54_31, x54_34, x54_35, x54_36, x54_39, x54_40, x54_43, x54_44, x54_45, x54_47, x54_50, x54_51, x54_53, x54_56, x54_57, x54_60, x54_62, x54_63, x54_65, x54_66, x54_69, x54_70, x54_73, x54_74, x54_75, x54_77, x54_80, x54_81, x54_82, x54_85, x54_86, x54_87, x54_89, x54_92, x54_93, x54_94, x54_97, x54_98, x54_99, x54_102, x54_105, x54_106, x54_107, x54_108, x54_109, x54_112, x54_115, x54_116, x54_117, x54_118, x54_121, x54_124, x54_125, x54_128, x54_129, x54_131, x54_134, x54_135, x54_138, x54_141, x54_142, x54_143, x54_146, ↓reduceIte, Bool.false_eq_true, Nat.reduceAdd, Nat.reduceLT, Nat.reduceLeDiff, Nat.reduceSub, Nat.reduceEqDiff, Int.reduceToNat, Int.reduceEq, Int.reduceLT, Int.reduceLE, Int.reduceAdd, Int.reduceSub, zg, zI, zJ, zR, zst, zkl, zn, zcat, zok, zraw, List.length_cons, List.length_nil, Option.toList, List.nil_append, List.cons_append, true_and, and_true, if_true, if_false, ne_eq, not_true, not_false_eq_true, and_self, true_or, or_true, false_or, or_false, false_and, and_false, b_60 hc, hd0, w32_s hn1]
                have hF := rd_fact hT.1 hT.2.1 f 4 (n + 1) (p + 1) [] (by omega) hpz (by omega) (by rw [mz_4]; omega)
                refine ih4 (n + 1) (p + 1) (d - 1) a μ0 _ _ _ _ hpz (by omega) (by rw [mz_4]; omega) (by omega) (by omega) hE1 hT1 ?_
                generalize rd K V f 4 (n + 1) (p + 1) [] = r at hQ hF ⊢
                cases r with
                | inl e =>
                  intro μ2 f2 g4 g0
                  simp only [x54_0, x54_1, x54_4, x54_7, x54_8, x54_11, x54_12, x54_13, x54_14, x54_15, x54_18, x54_19, x54_22, x54_23, x54_24, x54_27, x54_30, x54_31, x54_34, x54_35, x54_36, x54_39, x54_40, x54_43, x54_44, x54_45, x54_47, x54_50, x54_51, x54_53, x54_56, x54_57, x54_60, x54_62, x54_63, x54_65, x54_66, x54_69, x54_70, x54_73, x54_74, x54_75, x54_77, x54_80, x54_81, x54_82, x54_85, x54_86, x54_87, x54_89, x54_92, x54_93, x54_94, x54_97, x54_98, x54_99, x54_102, x54_105, x54_106, x54_107, x54_108, x54_109, x54_112, x54_115, x54_116, x54_117, x54_118, x54_121, x54_124, x54_125, x54_128, x54_129, x54_131, x54_134, x54_135, x54_138, x54_141, x54_142, x54_143, x54_146, ↓reduceIte, Bool.false_eq_true, Nat.reduceAdd, Nat.reduceLT, Nat.reduceLeDiff, Nat.reduceSub, Nat.reduceEqDiff, Int.reduceToNat, Int.reduceEq, Int.reduceLT, Int.reduceLE, Int.reduceAdd, Int.reduceSub, zg, zI, zJ, zR, zst, zkl, zn, zcat, zok, zraw, List.length_cons, List.length_nil, Option.toList, List.nil_append, List.cons_append, true_and, and_true, if_true, if_false, ne_eq, not_true, not_false_eq_true, and_self, true_or, or_true, false_or, or_false, false_and, and_false]
                  exact hQ μ2 f2 g4 g0
                | inr x =>
                  obtain ⟨e', h1, h2, h3, h5, h7, h8, h9, h10⟩ := hF
                  intro μ2 hE2
                  have hT2 := TK_E (μ' := μ2) hr hT1 (fun b hb => (hE2.1 b hb).trans (hE1.1 b hb).symm)
                  have hx4 : x.1 ≤ 400 := Nat.le_trans h3 hT.1.1
                  have j1 : (0 : Int) ≤ ((x.1 : Nat) : Int) := by omega
                  have j2 : ((x.1 : Nat) : Int) < 401 := by omega
                  have g3 := hE2.2.1
                  have gk := (hT2.2.2.2 x.1 h3).1
                  simp only [bnd] at hQ
                  by_cases k15 : K x.1 = 15
                  · rw [if_pos k15] at hQ
                    have k15' : ((K x.1 : Nat) : Int) = 15 := by omega
                    simp only [x54_0, x54_1, x54_4, x54_7, x54_8, x54_11, x54_12, x54_13, x54_14, x54_15, x54_18, x54_19, x54_22, x54_23, x54_24, x54_27, x54_30, x54_31, x54_34, x54_35, x54_36, x54_39, x54_40, x54_43, x54_44, x54_45, x54_47, x54_50, x54_51, x54_53, x54_56, x54_57, x54_60, x54_62, x54_63, x54_65, x54_66, x54_69, x54_70, x54_73, x54_74, x54_75, x54_77, x54_80, x54_81, x54_82, x54_85, x54_86, x54_87, x54_89, x54_92, x54_93, x54_94, x54_97, x54_98, x54_99, x54_102, x54_105, x54_106, x54_107, x54_108, x54_109, x54_112, x54_115, x54_116, x54_117, x54_118, x54_121, x54_124, x54_125, x54_128, x54_129, x54_131, x54_134, x54_135, x54_138, x54_141, x54_142, x54_143, x54_146, ↓reduceIte, Bool.false_eq_true, Nat.reduceAdd, Nat.reduceLT, Nat.reduceLeDiff, Nat.reduceSub, Nat.reduceEqDiff, Int.reduceToNat, Int.reduceEq, Int.reduceLT, Int.reduceLE, Int.reduceAdd, Int.reduceSub, zg, zI, zJ, zR, zst, zkl, zn, zcat, zok, zraw, List.length_cons, List.length_nil, Option.toList, List.nil_append, List.cons_append, true_and, and_true, if_true, if_false, ne_eq, not_true, not_false_eq_true, and_self, true_or, or_true, false_or, or_false, false_and, and_false, b_2 hc, b_3 hc, b_9 hc, b_12 hc, b_26 hc, b_40 hc, b_46 hc, b_47 hc, b_60 hc, b_62 hc, b_63 hc, b_76 hc, b_77 hc, b_90 hc, b_91 hc, b_104 hc, b_107 hc, b_114 hc, b_115 hc, b_122 hc, b_123 hc, b_131 hc, b_3 hc, r_3_0 hc, x_4 hc, r_3_1 hc, x_5 hc, r_3_2 hc, x_6 hc, r_3_4 hc, x_7 hc, n_7 hc, r_3_5 hc, x_8 hc, b_60 hc, r_60_1 hc, x_4 hc j1 j2, g3, gk, k15', Int.toNat_natCast, hd0]
                    refine cPass (d := d - 1) hr hT2 h3 g3 (fun h4 => ?_) (fun h4 μ3 f3 g4 g0 => ?_)
                    · simp only [x54_0, x54_1, x54_4, x54_7, x54_8, x54_11, x54_12, x54_13, x54_14, x54_15, x54_18, x54_19, x54_22, x54_23, x54_24, x54_27, x54_30, x54_31, x54_34, x54_35, x54_36, x54_39, x54_40, x54_43, x54_44, x54_45, x54_47, x54_50, x54_51, x54_53, x54_56, x54_57, x54_60, x54_62, x54_63, x54_65, x54_66, x54_69, x54_70, x54_73, x54_74, x54_75, x54_77, x54_80, x54_81, x54_82, x54_85, x54_86, x54_87, x54_89, x54_92, x54_93, x54_94, x54_97, x54_98, x54_99, x54_102, x54_105, x54_106, x54_107, x54_108, x54_109, x54_112, x54_115, x54_116, x54_117, x54_118, x54_121, x54_124, x54_125, x54_128, x54_129, x54_131, x54_134, x54_135, x54_138, x54_141, x54_142, x54_143, x54_146, ↓reduceIte, Bool.false_eq_true, Nat.reduceAdd, Nat.reduceLT, Nat.reduceLeDiff, Nat.reduceSub, Nat.reduceEqDiff, Int.reduceToNat, Int.reduceEq, Int.reduceLT, Int.reduceLE, Int.reduceAdd, Int.reduceSub, zg, zI, zJ, zR, zst, zkl, zn, zcat, zok, zraw, List.length_cons, List.length_nil, Option.toList, List.nil_append, List.cons_append, true_and, and_true, if_true, if_false, ne_eq, not_true, not_false_eq_true, and_self, true_or, or_true, false_or, or_false, false_and, and_false]
                      rw [nx_lt h4] at hQ
                      exact hQ _ (PE_at hr hE2)
                    · simp only [x54_0, x54_1, x54_4, x54_7, x54_8, x54_11, x54_12, x54_13, x54_14, x54_15, x54_18, x54_19, x54_22, x54_23, x54_24, x54_27, x54_30, x54_31, x54_34, x54_35, x54_36, x54_39, x54_40, x54_43, x54_44, x54_45, x54_47, x54_50, x54_51, x54_53, x54_56, x54_57, x54_60, x54_62, x54_63, x54_65, x54_66, x54_69, x54_70, x54_73, x54_74, x54_75, x54_77, x54_80, x54_81, x54_82, x54_85, x54_86, x54_87, x54_89, x54_92, x54_93, x54_94, x54_97, x54_98, x54_99, x54_102, x54_105, x54_106, x54_107, x54_108, x54_109, x54_112, x54_115, x54_116, x54_117, x54_118, x54_121, x54_124, x54_125, x54_128, x54_129, x54_131, x54_134, x54_135, x54_138, x54_141, x54_142, x54_143, x54_146, ↓reduceIte, Bool.false_eq_true, Nat.reduceAdd, Nat.reduceLT, Nat.reduceLeDiff, Nat.reduceSub, Nat.reduceEqDiff, Int.reduceToNat, Int.reduceEq, Int.reduceLT, Int.reduceLE, Int.reduceAdd, Int.reduceSub, zg, zI, zJ, zR, zst, zkl, zn, zcat, zok, zraw, List.length_cons, List.length_nil, Option.toList, List.nil_append, List.cons_append, true_and, and_true, if_true, if_false, ne_eq, not_true, not_false_eq_true, and_self, true_or, or_true, false_or, or_false, false_and, and_false]
                      rw [nx_ge h4] at hQ
                      exact hQ μ3 (Fr_E hE2.1 f3 (by simp)) g4 g0
                  · rw [if_neg k15] at hQ
                    have k15' : ¬ ((K x.1 : Nat) : Int) = 15 := by omega
                    simp only [x54_0, x54_1, x54_4, x54_7, x54_8, x54_11, x54_12, x54_13, x54_14, x54_15, x54_18, x54_19, x54_22, x54_23, x54_24, x54_27, x54_30, x54_31, x54_34, x54_35, x54_36, x54_39, x54_40, x54_43, x54_44, x54_45, x54_47, x54_50, x54_51, x54_53, x54_56, x54_57, x54_60, x54_62, x54_63, x54_65, x54_66, x54_69, x54_70, x54_73, x54_74, x54_75, x54_77, x54_80, x54_81, x54_82, x54_85, x54_86, x54_87, x54_89, x54_92, x54_93, x54_94, x54_97, x54_98, x54_99, x54_102, x54_105, x54_106, x54_107, x54_108, x54_109, x54_112, x54_115, x54_116, x54_117, x54_118, x54_121, x54_124, x54_125, x54_128, x54_129, x54_131, x54_134, x54_135, x54_138, x54_141, x54_142, x54_143, x54_146, ↓reduceIte, Bool.false_eq_true, Nat.reduceAdd, Nat.reduceLT, Nat.reduceLeDiff, Nat.reduceSub, Nat.reduceEqDiff, Int.reduceToNat, Int.reduceEq, Int.reduceLT, Int.reduceLE, Int.reduceAdd, Int.reduceSub, zg, zI, zJ, zR, zst, zkl, zn, zcat, zok, zraw, List.length_cons, List.length_nil, Option.toList, List.nil_append, List.cons_append, true_and, and_true, if_true, if_false, ne_eq, not_true, not_false_eq_true, and_self, true_or, or_true, false_or, or_false, false_and, and_false, b_2 hc, b_3 hc, b_9 hc, b_12 hc, b_26 hc, b_40 hc, b_46 hc, b_47 hc, b_60 hc, b_62 hc, b_63 hc, b_76 hc, b_77 hc, b_90 hc, b_91 hc, b_104 hc, b_107 hc, b_114 hc, b_115 hc, b_122 hc, b_123 hc, b_131 hc, b_3 hc, r_3_0 hc, x_4 hc, r_3_1 hc, x_5 hc, r_3_2 hc, x_6 hc, r_3_4 hc, x_7 hc, n_7 hc, r_3_5 hc, x_8 hc, b_60 hc, r_60_1 hc, x_4 hc j1 j2, g3, gk, k15', Int.toNat_natCast, hd0]
                    refine cRefuse (d := d - 1) hr hT2 h3 g3 (fun μ3 f3 g4 g0 => ?_)
                    simp only [x54_0, x54_1, x54_4, x54_7, x54_8, x54_11, x54_12, x54_13, x54_14, x54_15, x54_18, x54_19, x54_22, x54_23, x54_24, x54_27, x54_30, x54_31, x54_34, x54_35, x54_36, x54_39, x54_40, x54_43, x54_44, x54_45, x54_47, x54_50, x54_51, x54_53, x54_56, x54_57, x54_60, x54_62, x54_63, x54_65, x54_66, x54_69, x54_70, x54_73, x54_74, x54_75, x54_77, x54_80, x54_81, x54_82, x54_85, x54_86, x54_87, x54_89, x54_92, x54_93, x54_94, x54_97, x54_98, x54_99, x54_102, x54_105, x54_106, x54_107, x54_108, x54_109, x54_112, x54_115, x54_116, x54_117, x54_118, x54_121, x54_124, x54_125, x54_128, x54_129, x54_131, x54_134, x54_135, x54_138, x54_141, x54_142, x54_143, x54_146, ↓reduceIte, Bool.false_eq_true, Nat.reduceAdd, Nat.reduceLT, Nat.reduceLeDiff, Nat.reduceSub, Nat.reduceEqDiff, Int.reduceToNat, Int.reduceEq, Int.reduceLT, Int.reduceLE, Int.reduceAdd, Int.reduceSub, zg, zI, zJ, zR, zst, zkl, zn, zcat, zok, zraw, List.length_cons, List.length_nil, Option.toList, List.nil_append, List.cons_append, true_and, and_true, if_true, if_false, ne_eq, not_true, not_false_eq_true, and_self, true_or, or_true, false_or, or_false, false_and, and_false]
                    exact hQ μ3 (Fr_E hE2.1 f3 (by simp)) g4 g0
              · rw [if_neg h4] at hQ
                simp only [x54_0, x54_1, x54_4, x54_7, x54_8, x54_11, x54_12, x54_13, x54_14, x54_15, x54_18, x54_19, x54_22, x54_23, x54_24, x54_27, x54_30, x54_31, x54_34, x54_35, x54_36, x54_39, x54_40, x54_43, x54_44, x54_45, x54_47, x54_50, x54_51, x54_53, x54_56, x54_57, x54_60, x54_62, x54_63, x54_65, x54_66, x54_69, x54_70, x54_73, x54_74, x54_75, x54_77, x54_80, x54_81, x54_82, x54_85, x54_86, x54_87, x54_89, x54_92, x54_93, x54_94, x54_97, x54_98, x54_99, x54_102, x54_105, x54_106, x54_107, x54_108, x54_109, x54_112, x54_115, x54_116, x54_117, x54_118, x54_121, x54_124, x54_125, x54_128, x54_129, x54_131, x54_134, x54_135, x54_138, x54_141, x54_142, x54_143, x54_146, ↓reduceIte, Bool.false_eq_true, Nat.reduceAdd, Nat.reduceLT, Nat.reduceLeDiff, Nat.reduceSub, Nat.reduceEqDiff, Int.reduceToNat, Int.reduceEq, Int.reduceLT, Int.reduceLE, Int.reduceAdd, Int.reduceSub, zg, zI, zJ, zR, zst, zkl, zn, zcat, zok, zraw, List.length_cons, List.length_nil, Option.toList, List.nil_append, List.cons_append, true_and, and_true, if_true, if_false, ne_eq, not_true, not_false_eq_true, and_self, true_or, or_true, false_or, or_false, false_and, and_false]
                exact hQ μ1 (Fr_E hE.1 f1 (by simp)) g4 g0
          · rw [if_pos (show K p ≠ 14 from k14)] at hQ
            have k14' : ¬ ((K p : Nat) : Int) = 14 := by omega
            simp only [x54_0, x54_1, x54_4, x54_7, x54_8, x54_11, x54_12, x54_13, x54_14, x54_15, x54_18, x54_19, x54_22, x54_23, x54_24, x54_27, x54_30, x54_31, x54_34, x54_35, x54_36, x54_39, x54_40, x54_43, x54_44, x54_45, x54_47, x54_50, x54_51, x54_53, x54_56, x54_57, x54_60, x54_62, x54_63, x54_65, x54_66, x54_69, x54_70, x54_73, x54_74, x54_75, x54_77, x54_80, x54_81, x54_82, x54_85, x54_86, x54_87, x54_89, x54_92, x54_93, x54_94, x54_97, x54_98, x54_99, x54_102, x54_105, x54_106, x54_107, x54_108, x54_109, x54_112, x54_115, x54_116, x54_117, x54_118, x54_121, x54_124, x54_125, x54_128, x54_129, x54_131, x54_134, x54_135, x54_138, x54_141, x54_142, x54_143, x54_146, ↓reduceIte, Bool.false_eq_true, Nat.reduceAdd, Nat.reduceLT, Nat.reduceLeDiff, Nat.reduceSub, Nat.reduceEqDiff, Int.reduceToNat, Int.reduceEq, Int.reduceLT, Int.reduceLE, Int.reduceAdd, Int.reduceSub, zg, zI, zJ, zR, zst, zkl, zn, zcat, zok, zraw, List.length_cons, List.length_nil, Option.toList, List.nil_append, List.cons_append, true_and, and_true, if_true, if_false, ne_eq, not_true, not_false_eq_true, and_self, true_or, or_true, false_or, or_false, false_and, and_false, b_2 hc, b_3 hc, b_9 hc, b_12 hc, b_26 hc, b_40 hc, b_46 hc, b_47 hc, b_60 hc, b_62 hc, b_63 hc, b_76 hc, b_77 hc, b_90 hc, b_91 hc, b_104 hc, b_107 hc, b_114 hc, b_115 hc, b_122 hc, b_123 hc, b_131 hc, b_3 hc, r_3_0 hc, x_4 hc, r_3_1 hc, x_5 hc, r_3_2 hc, x_6 hc, r_3_4 hc, x_7 hc, n_7 hc, r_3_5 hc, x_8 hc, b_60 hc, r_60_1 hc, x_4 hc i1 i2, e3, e4, Int.toNat_natCast, k2', k3, k14', hd0]
            refine cRefuse (d := d - 1) hr hT hp e3 (fun μ1 f1 g4 g0 => ?_)
            simp only [x54_0, x54_1, x54_4, x54_7, x54_8, x54_11, x54_12, x54_13, x54_14, x54_15, x54_18, x54_19, x54_22, x54_23, x54_24, x54_27, x54_30, x54_31, x54_34, x54_35, x54_36, x54_39, x54_40, x54_43, x54_44, x54_45, x54_47, x54_50, x54_51, x54_53, x54_56, x54_57, x54_60, x54_62, x54_63, x54_65, x54_66, x54_69, x54_70, x54_73, x54_74, x54_75, x54_77, x54_80, x54_81, x54_82, x54_85, x54_86, x54_87, x54_89, x54_92, x54_93, x54_94, x54_97, x54_98, x54_99, x54_102, x54_105, x54_106, x54_107, x54_108, x54_109, x54_112, x54_115, x54_116, x54_117, x54_118, x54_121, x54_124, x54_125, x54_128, x54_129, x54_131, x54_134, x54_135, x54_138, x54_141, x54_142, x54_143, x54_146, ↓reduceIte, Bool.false_eq_true, Nat.reduceAdd, Nat.reduceLT, Nat.reduceLeDiff, Nat.reduceSub, Nat.reduceEqDiff, Int.reduceToNat, Int.reduceEq, Int.reduceLT, Int.reduceLE, Int.reduceAdd, Int.reduceSub, zg, zI, zJ, zR, zst, zkl, zn, zcat, zok, zraw, List.length_cons, List.length_nil, Option.toList, List.nil_append, List.cons_append, true_and, and_true, if_true, if_false, ne_eq, not_true, not_false_eq_true, and_self, true_or, or_true, false_or, or_false, false_and, and_false]
            exact hQ μ1 (Fr_E hE.1 f1 (by simp)) g4 g0
    · intro n p d a i c μ0 μ x3 Q hp hn hz hd ha hi hE hT hQ
      rw [mz_1] at hz
      have hd0 : 0 < d := by omega
      have hp4 : p ≤ 400 := Nat.le_trans hp hT.1.1
      have e3 := hE.2.1
      have e4 := (hT.2.2.2 p hp).1
      have i1 : (0 : Int) ≤ (p : Int) := by omega
      have i2 : (p : Int) < 401 := by omega
      have i3 : ¬ (400 : Int) < (i : Int) := by omega
      rw [rd_1] at hQ
      rw [x53_12]
      by_cases ko : K p = 8 ∨ K p = 9
      · rw [if_pos ko] at hQ
        have all : Ex d 53 46 [vr 60, vi (n : Nat), vi (i : Nat), vi (K p : Nat)] [] θ μ Q := by
          simp only [x53_0, x53_1, x53_2, x53_5, x53_8, x53_9, x53_10, x53_11, x53_13, x53_16, x53_19, x53_20, x53_23, x53_26, x53_27, x53_30, x53_31, x53_32, x53_33, x53_35, x53_38, x53_39, x53_41, x53_44, x53_45, x53_46, x53_47, x53_50, x53_53, x53_54, x53_55, x53_58, x53_61, x53_62, x53_63, x53_64, x53_67, x53_68, x53_69, x53_72, x53_75, x53_78, x53_79, ↓reduceIte, Bool.false_eq_true, Nat.reduceAdd, Nat.reduceLT, Nat.reduceLeDiff, Nat.reduceSub, Nat.reduceEqDiff, Int.reduceToNat, Int.reduceEq, Int.reduceLT, Int.reduceLE, Int.reduceAdd, Int.reduceSub, zg, zI, zJ, zR, zst, zkl, zn, zcat, zok, zraw, List.length_cons, List.length_nil, Option.toList, List.nil_append, List.cons_append, true_and, and_true, if_true, if_false, ne_eq, not_true, not_false_eq_true, and_self, true_or, or_true, false_or, or_false, false_and, and_false, b_60 hc, hd0]
          refine cPass (d := d - 1) hr hT hp e3 (fun h4 => ?_) (fun h4 μ1 f1 g4 g0 => ?_)
          · rw [if_pos h4] at hQ
            have hpz := hT.1.2 p h4 hp (by omega)
            have hE1 := PE_at (q := p + 1) hr hE
            have hT1 := TK_E hr hT (Fr.us (a := 60) (f := zup (μ 60) 3 ((p + 1 : Nat) : Int)) (by simp) Fr.refl)
            simp only [x53_0, x53_1, x53_2, x53_5, x53_8, x53_9, x53_10, x53_11, x53_13, x53_16, x53_19, x53_20, x53_23, x53_26, x53_27, x53_30, x53_31, x53_32, x53_33, x53_35, x53_38, x53_39, x53_41, x53_44, x53_45, x53_46, x53_47, x53_50, x53_53, x53_54, x53_55, x53_58, x53_61, x53_62, x53_63, x53_64, x53_67, x53_68, x53_69, x53_72, x53_75, x53_78, x53_79, ↓reduceIte, Bool.false_eq_true, Nat.reduceAdd, Nat.reduceLT, Nat.reduceLeDiff, Nat.reduceSub, Nat.reduceEqDiff, Int.reduceToNat, Int.reduceEq, Int.reduceLT, Int.reduceLE, Int.reduceAdd, Int.reduceSub, zg, zI, zJ, zR, zst, zkl, zn, zcat, zok, zraw, List.length_cons, List.length_nil, Option.toList, List.nil_append, List.cons_append, true_and, and_true, if_true, if_false, ne_eq, not_true, not_false_eq_true, and_self, true_or, or_true, false_or, or_false, false_and, and_false, b_60 hc, hd0]
            have hF := rd_fact hT.1 hT.2.1 f 0 n (p + 1) [] (by omega) hpz (by omega) (by rw [mz_0]; omega)
            have h16 : us μ 60 (zup (μ 60) 3 ((p + 1 : Nat) : Int)) U 16 = ((a + c.length : Nat) : Int) := by rw [hE1.2.2.2.1, enC_len]
            refine ih0 n (p + 1) (d - 1) (a + c.length) _ _ _ _ hpz hn (by rw [mz_0]; omega) (by omega) (by omega) (PE_refl hE1.2.1 h16) hT1 ?_
            generalize rd K V f 0 n (p + 1) [] = r at hQ hF ⊢
            cases r with
            | inl e =>
              intro μ2 f2 g4 g0
              simp only [x53_0, x53_1, x53_2, x53_5, x53_8, x53_9, x53_10, x53_11, x53_13, x53_16, x53_19, x53_20, x53_23, x53_26, x53_27, x53_30, x53_31, x53_32, x53_33, x53_35, x53_38, x53_39, x53_41, x53_44, x53_45, x53_46, x53_47, x53_50, x53_53, x53_54, x53_55, x53_58, x53_61, x53_62, x53_63, x53_64, x53_67, x53_68, x53_69, x53_72, x53_75, x53_78, x53_79, ↓reduceIte, Bool.false_eq_true, Nat.reduceAdd, Nat.reduceLT, Nat.reduceLeDiff, Nat.reduceSub, Nat.reduceEqDiff, Int.reduceToNat, Int.reduceEq, Int.reduceLT, Int.reduceLE, Int.reduceAdd, Int.reduceSub, zg, zI, zJ, zR, zst, zkl, zn, zcat, zok, zraw, List.length_cons, List.length_nil, Option.toList, List.nil_append, List.cons_append, true_and, and_true, if_true, if_false, ne_eq, not_true, not_false_eq_true, and_self, true_or, or_true, false_or, or_false, false_and, and_false]
              exact hQ μ2 (hE1.1.trans f2) g4 g0
            | inr x =>
              obtain ⟨e', h1, h2, h3, h5, h7, h8, h9, h10⟩ := hF
              have hex : x.2 = e' := by simpa using h1
              intro μ2 hE2
              have hx4 : x.1 ≤ 400 := Nat.le_trans h3 hT.1.1
              have hE3 := PE_app hr hE1 (by rw [enC_len]) hE2
              have hT2 := TK_E hr hT1 hE2.1
              have h16' : μ2 U 16 = ((a + c.length + x.2.length : Nat) : Int) := by rw [hE2.2.2.2.1, enC_len]
              have hlt : a + c.length + x.2.length < 400 := by rw [hex]; omega
              have hi1 : i < 2147483647 := by omega
              simp only [x53_0, x53_1, x53_2, x53_5, x53_8, x53_9, x53_10, x53_11, x53_13, x53_16, x53_19, x53_20, x53_23, x53_26, x53_27, x53_30, x53_31, x53_32, x53_33, x53_35, x53_38, x53_39, x53_41, x53_44, x53_45, x53_46, x53_47, x53_50, x53_53, x53_54, x53_55, x53_58, x53_61, x53_62, x53_63, x53_64, x53_67, x53_68, x53_69, x53_72, x53_75, x53_78, x53_79, ↓reduceIte, Bool.false_eq_true, Nat.reduceAdd, Nat.reduceLT, Nat.reduceLeDiff, Nat.reduceSub, Nat.reduceEqDiff, Int.reduceToNat, Int.reduceEq, Int.reduceLT, Int.reduceLE, Int.reduceAdd, Int.reduceSub, zg, zI, zJ, zR, zst, zkl, zn, zcat, zok, zraw, List.length_cons, List.length_nil, Option.toList, List.nil_append, List.cons_append, true_and, and_true, if_true, if_false, ne_eq, not_true, not_false_eq_true, and_self, true_or, or_true, false_or, or_false, false_and, and_false, b_60 hc, hd0, b_60 hc, r_60_1 hc, h60, tb hU, w32_s hi1]
              refine cEmit (d := d - 1) hr h16' (by omega) (by omega) (fun _ => ?_) (fun hh => absurd hlt hh)
              have hE4 := PE_emit (k := (K p : Nat)) (v := 0) hr hE3 (s := a + c.length + x.2.length) (by rw [List.length_append, enC_len, enC_len]; omega)
              simp only [x53_0, x53_1, x53_2, x53_5, x53_8, x53_9, x53_10, x53_11, x53_13, x53_16, x53_19, x53_20, x53_23, x53_26, x53_27, x53_30, x53_31, x53_32, x53_33, x53_35, x53_38, x53_39, x53_41, x53_44, x53_45, x53_46, x53_47, x53_50, x53_53, x53_54, x53_55, x53_58, x53_61, x53_62, x53_63, x53_64, x53_67, x53_68, x53_69, x53_72, x53_75, x53_78, x53_79, ↓reduceIte, Bool.false_eq_true, Nat.reduceAdd, Nat.reduceLT, Nat.reduceLeDiff, Nat.reduceSub, Nat.reduceEqDiff, Int.reduceToNat, Int.reduceEq, Int.reduceLT, Int.reduceLE, Int.reduceAdd, Int.reduceSub, zg, zI, zJ, zR, zst, zkl, zn, zcat, zok, zraw, List.length_cons, List.length_nil, Option.toList, List.nil_append, List.cons_append, true_and, and_true, if_true, if_false, ne_eq, not_true, not_false_eq_true, and_self, true_or, or_true, false_or, or_false, false_and, and_false, w32_s hi1]
              refine ih1 n x.1 d a (i + 1) (c ++ x.2 ++ [(K p - 4, 0)]) μ0 _ _ _ h3 hn (by rw [mz_1]; omega) hd (by simp; rw [hex]; omega) (by omega) ?_ (TK_E hr hT2 (Fr.us (by simp) (Fr.us (by simp) Fr.refl))) hQ
              rw [enC_app, enC_app, enC_op (by omega) (by omega)]
              exact hE4
          · rw [if_neg h4] at hQ
            simp only [x53_0, x53_1, x53_2, x53_5, x53_8, x53_9, x53_10, x53_11, x53_13, x53_16, x53_19, x53_20, x53_23, x53_26, x53_27, x53_30, x53_31, x53_32, x53_33, x53_35, x53_38, x53_39, x53_41, x53_44, x53_45, x53_46, x53_47, x53_50, x53_53, x53_54, x53_55, x53_58, x53_61, x53_62, x53_63, x53_64, x53_67, x53_68, x53_69, x53_72, x53_75, x53_78, x53_79, ↓reduceIte, Bool.false_eq_true, Nat.reduceAdd, Nat.reduceLT, Nat.reduceLeDiff, Nat.reduceSub, Nat.reduceEqDiff, Int.reduceToNat, Int.reduceEq, Int.reduceLT, Int.reduceLE, Int.reduceAdd, Int.reduceSub, zg, zI, zJ, zR, zst, zkl, zn, zcat, zok, zraw, List.length_cons, List.length_nil, Option.toList, List.nil_append, List.cons_append, true_and, and_true, if_true, if_false, ne_eq, not_true, not_false_eq_true, and_self, true_or, or_true, false_or, or_false, false_and, and_false]
            exact hQ μ1 (Fr_E hE.1 f1 (by simp)) g4 g0
        by_cases k1 : ((K p : Nat) : Int) = 8
        · simp only [x53_0, x53_1, x53_2, x53_5, x53_8, x53_9, x53_10, x53_11, x53_13, x53_16, x53_19, x53_20, x53_23, x53_26, x53_27, x53_30, x53_31, x53_32, x53_33, x53_35, x53_38, x53_39, x53_41, x53_44, x53_45, x53_47, x53_50, x53_53, x53_54, x53_55, x53_58, x53_61, x53_62, x53_63, x53_64, x53_67, x53_68, x53_69, x53_72, x53_75, x53_78, x53_79, ↓reduceIte, Bool.false_eq_true, Nat.reduceAdd, Nat.reduceLT, Nat.reduceLeDiff, Nat.reduceSub, Nat.reduceEqDiff, Int.reduceToNat, Int.reduceEq, Int.reduceLT, Int.reduceLE, Int.reduceAdd, Int.reduceSub, zg, zI, zJ, zR, zst, zkl, zn, zcat, zok, zraw, List.length_cons, List.length_nil, Option.toList, List.nil_append, List.cons_append, true_and, and_true, if_true, if_false, ne_eq, not_true, not_false_eq_true, and_self, true_or, or_true, false_or, or_false, false_and, and_false, b_2 hc, b_3 hc, b_9 hc, b_12 hc, b_26 hc, b_40 hc, b_46 hc, b_47 hc, b_60 hc, b_62 hc, b_63 hc, b_76 hc, b_77 hc, b_90 hc, b_91 hc, b_104 hc, b_107 hc, b_114 hc, b_115 hc, b_122 hc, b_123 hc, b_131 hc, b_3 hc, r_3_0 hc, x_4 hc, r_3_1 hc, x_5 hc, r_3_2 hc, x_6 hc, r_3_4 hc, x_7 hc, n_7 hc, r_3_5 hc, x_8 hc, b_60 hc, r_60_1 hc, x_4 hc i1 i2, e3, e4, Int.toNat_natCast, i3, k1] at all ⊢
          exact all
        · have k2 : ((K p : Nat) : Int) = 9 := by omega
          simp only [x53_0, x53_1, x53_2, x53_5, x53_8, x53_9, x53_10, x53_11, x53_13, x53_16, x53_19, x53_20, x53_23, x53_26, x53_27, x53_30, x53_31, x53_32, x53_33, x53_35, x53_38, x53_39, x53_41, x53_44, x53_45, x53_47, x53_50, x53_53, x53_54, x53_55, x53_58, x53_61, x53_62, x53_63, x53_64, x53_67, x53_68, x53_69, x53_72, x53_75, x53_78, x53_79, ↓reduceIte, Bool.false_eq_true, Nat.reduceAdd, Nat.reduceLT, Nat.reduceLeDiff, Nat.reduceSub, Nat.reduceEqDiff, Int.reduceToNat, Int.reduceEq, Int.reduceLT, Int.reduceLE, Int.reduceAdd, Int.reduceSub, zg, zI, zJ, zR, zst, zkl, zn, zcat, zok, zraw, List.length_cons, List.length_nil, Option.toList, List.nil_append, List.cons_append, true_and, and_true, if_true, if_false, ne_eq, not_true, not_false_eq_true, and_self, true_or, or_true, false_or, or_false, false_and, and_false, b_2 hc, b_3 hc, b_9 hc, b_12 hc, b_26 hc, b_40 hc, b_46 hc, b_47 hc, b_60 hc, b_62 hc, b_63 hc, b_76 hc, b_77 hc, b_90 hc, b_91 hc, b_104 hc, b_107 hc, b_114 hc, b_115 hc, b_122 hc, b_123 hc, b_131 hc, b_3 hc, r_3_0 hc, x_4 hc, r_3_1 hc, x_5 hc, r_3_2 hc, x_6 hc, r_3_4 hc, x_7 hc, n_7 hc, r_3_5 hc, x_8 hc, b_60 hc, r_60_1 hc, x_4 hc i1 i2, e3, e4, Int.toNat_natCast, i3, k1, k2] at all ⊢
          exact all
      · rw [if_neg ko] at hQ
        have k1 : ¬ ((K p : Nat) : Int) = 8 := by omega
        have k2 : ¬ ((K p : Nat) : Int) = 9 := by omega
        simp only [x53_0, x53_1, x53_2, x53_5, x53_8, x53_9, x53_10, x53_11, x53_13, x53_16, x53_19, x53_20, x53_23, x53_26, x53_27, x53_30, x53_31, x53_32, x53_33, x53_35, x53_38, x53_39, x53_41, x53_44, x53_45, x53_46, x53_47, x53_50, x53_53, x53_54, x53_55, x53_58, x53_61, x53_62, x53_63, x53_64, x53_67, x53_68, x53_69, x53_72, x53_75, x53_78, x53_79, ↓reduceIte, Bool.false_eq_true, Nat.reduceAdd, Nat.reduceLT, Nat.reduceLeDiff, Nat.reduceSub, Nat.reduceEqDiff, Int.reduceToNat, Int.reduceEq, Int.reduceLT, Int.reduceLE, Int.reduceAdd, Int.reduceSub, zg, zI, zJ, zR, zst, zkl, zn, zcat, zok, zraw, List.length_cons, List.length_nil, Option.toList, List.nil_append, List.cons_append, true_and, and_true, if_true, if_false, ne_eq, not_true, not_false_eq_true, and_self, true_or, or_true, false_or, or_false, false_and, and_false, b_2 hc, b_3 hc, b_9 hc, b_12 hc, b_26 hc, b_40 hc, b_46 hc, b_47 hc, b_60 hc, b_62 hc, b_63 hc, b_76 hc, b_77 hc, b_90 hc, b_91 hc, b_104 hc, b_107 hc, b_114 hc, b_115 hc, b_122 hc, b_123 hc, b_131 hc, b_3 hc, r_3_0 hc, x_4 hc, r_3_1 hc, x_5 hc, r_3_2 hc, x_6 hc, r_3_4 hc, x_7 hc, n_7 hc, r_3_5 hc, x_8 hc, b_60 hc, r_60_1 hc, x_4 hc i1 i2, e3, e4, Int.toNat_natCast, i3, k1, k2]
        exact hQ μ hE
    · intro n p d a μ0 μ x2 x3 Q hp hn hz hd ha hE hT hQ
      rw [mz_2] at hz
      have hd0 : 0 < d := by omega
      rw [rd_2] at hQ
      simp only [x53_0, x53_1, x53_2, x53_5, x53_8, x53_9, x53_10, x53_11, x53_13, x53_16, x53_19, x53_20, x53_23, x53_26, x53_27, x53_30, x53_31, x53_32, x53_33, x53_35, x53_38, x53_39, x53_41, x53_44, x53_45, x53_46, x53_47, x53_50, x53_53, x53_54, x53_55, x53_58, x53_61, x53_62, x53_63, x53_64, x53_67, x53_68, x53_69, x53_72, x53_75, x53_78, x53_79, ↓reduceIte, Bool.false_eq_true, Nat.reduceAdd, Nat.reduceLT, Nat.reduceLeDiff, Nat.reduceSub, Nat.reduceEqDiff, Int.reduceToNat, Int.reduceEq, Int.reduceLT, Int.reduceLE, Int.reduceAdd, Int.reduceSub, zg, zI, zJ, zR, zst, zkl, zn, zcat, zok, zraw, List.length_cons, List.length_nil, Option.toList, List.nil_append, List.cons_append, true_and, and_true, if_true, if_false, ne_eq, not_true, not_false_eq_true, and_self, true_or, or_true, false_or, or_false, false_and, and_false, b_60 hc, hd0]
      have hF := rd_fact hT.1 hT.2.1 f 0 n p [] (by omega) hp (by omega) (by rw [mz_0]; omega)
      refine ih0 n p (d - 1) a μ0 _ _ _ hp hn (by rw [mz_0]; omega) (by omega) ha hE hT ?_
      generalize rd K V f 0 n p [] = r at hQ hF ⊢
      cases r with
      | inl e =>
        intro μ2 f2 g4 g0
        simp only [x53_0, x53_1, x53_2, x53_5, x53_8, x53_9, x53_10, x53_11, x53_13, x53_16, x53_19, x53_20, x53_23, x53_26, x53_27, x53_30, x53_31, x53_32, x53_33, x53_35, x53_38, x53_39, x53_41, x53_44, x53_45, x53_46, x53_47, x53_50, x53_53, x53_54, x53_55, x53_58, x53_61, x53_62, x53_63, x53_64, x53_67, x53_68, x53_69, x53_72, x53_75, x53_78, x53_79, ↓reduceIte, Bool.false_eq_true, Nat.reduceAdd, Nat.reduceLT, Nat.reduceLeDiff, Nat.reduceSub, Nat.reduceEqDiff, Int.reduceToNat, Int.reduceEq, Int.reduceLT, Int.reduceLE, Int.reduceAdd, Int.reduceSub, zg, zI, zJ, zR, zst, zkl, zn, zcat, zok, zraw, List.length_cons, List.length_nil, Option.toList, List.nil_append, List.cons_append, true_and, and_true, if_true, if_false, ne_eq, not_true, not_false_eq_true, and_self, true_or, or_true, false_or, or_false, false_and, and_false]
        exact hQ μ2 f2 g4 g0
      | inr x =>
        obtain ⟨e', h1, h2, h3, h5, h7, h8, h9, h10⟩ := hF
        have hex : x.2 = e' := by simpa using h1
        have h5' := h5 (by decide)
        intro μ2 hE2
        have hT2 := TK_E (μ' := μ2) hr hT (fun b hb => (hE2.1 b hb).trans (hE.1 b hb).symm)
        simp only [x53_0, x53_1, x53_2, x53_5, x53_8, x53_9, x53_10, x53_11, x53_13, x53_16, x53_19, x53_20, x53_23, x53_26, x53_27, x53_30, x53_31, x53_32, x53_33, x53_35, x53_38, x53_39, x53_41, x53_44, x53_45, x53_46, x53_47, x53_50, x53_53, x53_54, x53_55, x53_58, x53_61, x53_62, x53_63, x53_64, x53_67, x53_68, x53_69, x53_72, x53_75, x53_78, x53_79, ↓reduceIte, Bool.false_eq_true, Nat.reduceAdd, Nat.reduceLT, Nat.reduceLeDiff, Nat.reduceSub, Nat.reduceEqDiff, Int.reduceToNat, Int.reduceEq, Int.reduceLT, Int.reduceLE, Int.reduceAdd, Int.reduceSub, zg, zI, zJ, zR, zst, zkl, zn, zcat, zok, zraw, List.length_cons, List.length_nil, Option.toList, List.nil_append, List.cons_append, true_and, and_true, if_true, if_false, ne_eq, not_true, not_false_eq_true, and_self, true_or, or_true, false_or, or_false, false_and, and_false]
        exact ih1 n x.1 d a 0 x.2 μ0 _ _ _ h3 hn (by rw [mz_1]; omega) hd (by rw [hex]; omega) (by omega) hE2 hT2 hQ
    · intro n p d a i c μ0 μ x3 Q hp hn hz hd ha hi hE hT hQ
      rw [mz_3] at hz
      have hd0 : 0 < d := by omega
      have hp4 : p ≤ 400 := Nat.le_trans hp hT.1.1
      have e3 := hE.2.1
      have e4 := (hT.2.2.2 p hp).1
      have i1 : (0 : Int) ≤ (p : Int) := by omega
      have i2 : (p : Int) < 401 := by omega
      have i3 : ¬ (400 : Int) < (i : Int) := by omega
      rw [rd_3] at hQ
      rw [x52_12]
      by_cases ko : K p = 6 ∨ K p = 7
      · rw [if_pos ko] at hQ
        have all : Ex d 52 46 [vr 60, vi (n : Nat), vi (i : Nat), vi (K p : Nat)] [] θ μ Q := by
          simp only [x52_0, x52_1, x52_2, x52_5, x52_8, x52_9, x52_10, x52_11, x52_13, x52_16, x52_19, x52_20, x52_23, x52_26, x52_27, x52_30, x52_31, x52_32, x52_33, x52_35, x52_38, x52_39, x52_41, x52_44, x52_45, x52_46, x52_47, x52_50, x52_53, x52_54, x52_55, x52_58, x52_61, x52_62, x52_63, x52_64, x52_67, x52_68, x52_69, x52_72, x52_75, x52_78, x52_79, ↓reduceIte, Bool.false_eq_true, Nat.reduceAdd, Nat.reduceLT, Nat.reduceLeDiff, Nat.reduceSub, Nat.reduceEqDiff, Int.reduceToNat, Int.reduceEq, Int.reduceLT, Int.reduceLE, Int.reduceAdd, Int.reduceSub, zg, zI, zJ, zR, zst, zkl, zn, zcat, zok, zraw, List.length_cons, List.length_nil, Option.toList, List.nil_append, List.cons_append, true_and, and_true, if_true, if_false, ne_eq, not_true, not_false_eq_true, and_self, true_or, or_true, false_or, or_false, false_and, and_false, b_60 hc, hd0]
          refine cPass (d := d - 1) hr hT hp e3 (fun h4 => ?_) (fun h4 μ1 f1 g4 g0 => ?_)
          · rw [if_pos h4] at hQ
            have hpz := hT.1.2 p h4 hp (by omega)
            have hE1 := PE_at (q := p + 1) hr hE
            have hT1 := TK_E hr hT (Fr.us (a := 60) (f := zup (μ 60) 3 ((p + 1 : Nat) : Int)) (by simp) Fr.refl)
            simp only [x52_0, x52_1, x52_2, x52_5, x52_8, x52_9, x52_10, x52_11, x52_13, x52_16, x52_19, x52_20, x52_23, x52_26, x52_27, x52_30, x52_31, x52_32, x52_33, x52_35, x52_38, x52_39, x52_41, x52_44, x52_45, x52_46, x52_47, x52_50, x52_53, x52_54, x52_55, x52_58, x52_61, x52_62, x52_63, x52_64, x52_67, x52_68, x52_69, x52_72, x52_75, x52_78, x52_79, ↓reduceIte, Bool.false_eq_true, Nat.reduceAdd, Nat.reduceLT, Nat.reduceLeDiff, Nat.reduceSub, Nat.reduceEqDiff, Int.reduceToNat, Int.reduceEq, Int.reduceLT, Int.reduceLE, Int.reduceAdd, Int.reduceSub, zg, zI, zJ, zR, zst, zkl, zn, zcat, zok, zraw, List.length_cons, List.length_nil, Option.toList, List.nil_append, List.cons_append, true_and, and_true, if_true, if_false, ne_eq, not_true, not_false_eq_true, and_self, true_or, or_true, false_or, or_false, false_and, and_false, b_60 hc, hd0]
            have hF := rd_fact hT.1 hT.2.1 f 2 n (p + 1) [] (by omega) hpz (by omega) (by rw [mz_2]; omega)
            have h16 : us μ 60 (zup (μ 60) 3 ((p + 1 : Nat) : Int)) U 16 = ((a + c.length : Nat) : Int) := by rw [hE1.2.2.2.1, enC_len]
            refine ih2 n (p + 1) (d - 1) (a + c.length) _ _ _ _ _ hpz hn (by rw [mz_2]; omega) (by omega) (by omega) (PE_refl hE1.2.1 h16) hT1 ?_
            generalize rd K V f 2 n (p + 1) [] = r at hQ hF ⊢
            cases r with
            | inl e =>
              intro μ2 f2 g4 g0
              simp only [x52_0, x52_1, x52_2, x52_5, x52_8, x52_9, x52_10, x52_11, x52_13, x52_16, x52_19, x52_20, x52_23, x52_26, x52_27, x52_30, x52_31, x52_32, x52_33, x52_35, x52_38, x52_39, x52_41, x52_44, x52_45, x52_46, x52_47, x52_50, x52_53, x52_54, x52_55, x52_58, x52_61, x52_62, x52_63, x52_64, x52_67, x52_68, x52_69, x52_72, x52_75, x52_78, x52_79, ↓reduceIte, Bool.false_eq_true, Nat.reduceAdd, Nat.reduceLT, Nat.reduceLeDiff, Nat.reduceSub, Nat.reduceEqDiff, Int.reduceToNat, Int.reduceEq, Int.reduceLT, Int.reduceLE, Int.reduceAdd, Int.reduceSub, zg, zI, zJ, zR, zst, zkl, zn, zcat, zok, zraw, List.length_cons, List.length_nil, Option.toList, List.nil_append, List.cons_append, true_and, and_true, if_true, if_false, ne_eq, not_true, not_false_eq_true, and_self, true_or, or_true, false_or, or_false, false_and, and_false]
              exact hQ μ2 (hE1.1.trans f2) g4 g0
            | inr x =>
              obtain ⟨e', h1, h2, h3, h5, h7, h8, h9, h10⟩ := hF
              have hex : x.2 = e' := by simpa using h1
              intro μ2 hE2
              have hx4 : x.1 ≤ 400 := Nat.le_trans h3 hT.1.1
              have hE3 := PE_app hr hE1 (by rw [enC_len]) hE2
              have hT2 := TK_E hr hT1 hE2.1
              have h16' : μ2 U 16 = ((a + c.length + x.2.length : Nat) : Int) := by rw [hE2.2.2.2.1, enC_len]
              have hlt : a + c.length + x.2.length < 400 := by rw [hex]; omega
              have hi1 : i < 2147483647 := by omega
              simp only [x52_0, x52_1, x52_2, x52_5, x52_8, x52_9, x52_10, x52_11, x52_13, x52_16, x52_19, x52_20, x52_23, x52_26, x52_27, x52_30, x52_31, x52_32, x52_33, x52_35, x52_38, x52_39, x52_41, x52_44, x52_45, x52_46, x52_47, x52_50, x52_53, x52_54, x52_55, x52_58, x52_61, x52_62, x52_63, x52_64, x52_67, x52_68, x52_69, x52_72, x52_75, x52_78, x52_79, ↓reduceIte, Bool.false_eq_true, Nat.reduceAdd, Nat.reduceLT, Nat.reduceLeDiff, Nat.reduceSub, Nat.reduceEqDiff, Int.reduceToNat, Int.reduceEq, Int.reduceLT, Int.reduceLE, Int.reduceAdd, Int.reduceSub, zg, zI, zJ, zR, zst, zkl, zn, zcat, zok, zraw, List.length_cons, List.length_nil, Option.toList, List.nil_append, List.cons_append, true_and, and_true, if_true, if_false, ne_eq, not_true, not_false_eq_true, and_self, true_or, or_true, false_or, or_false, false_and, and_false, b_60 hc, hd0, b_60 hc, r_60_1 hc, h60, tb hU, w32_s hi1]
              refine cEmit (d := d - 1) hr h16' (by omega) (by omega) (fun _ => ?_) (fun hh => absurd hlt hh)
              have hE4 := PE_emit (k := (K p : Nat)) (v := 0) hr hE3 (s := a + c.length + x.2.length) (by rw [List.length_append, enC_len, enC_len]; omega)
              simp only [x52_0, x52_1, x52_2, x52_5, x52_8, x52_9, x52_10, x52_11, x52_13, x52_16, x52_19, x52_20, x52_23, x52_26, x52_27, x52_30, x52_31, x52_32, x52_33, x52_35, x52_38, x52_39, x52_41, x52_44, x52_45, x52_46, x52_47, x52_50, x52_53, x52_54, x52_55, x52_58, x52_61, x52_62, x52_63, x52_64, x52_67, x52_68, x52_69, x52_72, x52_75, x52_78, x52_79, ↓reduceIte, Bool.false_eq_true, Nat.reduceAdd, Nat.reduceLT, Nat.reduceLeDiff, Nat.reduceSub, Nat.reduceEqDiff, Int.reduceToNat, Int.reduceEq, Int.reduceLT, Int.reduceLE, Int.reduceAdd, Int.reduceSub, zg, zI, zJ, zR, zst, zkl, zn, zcat, zok, zraw, List.length_cons, List.length_nil, Option.toList, List.nil_append, List.cons_append, true_and, and_true, if_true, if_false, ne_eq, not_true, not_false_eq_true, and_self, true_or, or_true, false_or, or_false, false_and, and_false, w32_s hi1]
              refine ih3 n x.1 d a (i + 1) (c ++ x.2 ++ [(K p - 4, 0)]) μ0 _ _ _ h3 hn (by rw [mz_3]; omega) hd (by simp; rw [hex]; omega) (by omega) ?_ (TK_E hr hT2 (Fr.us (by simp) (Fr.us (by simp) Fr.refl))) hQ
              rw [enC_app, enC_app, enC_op (by omega) (by omega)]
              exact hE4
          · rw [if_neg h4] at hQ
            simp only [x52_0, x52_1, x52_2, x52_5, x52_8, x52_9, x52_10, x52_11, x52_13, x52_16, x52_19, x52_20, x52_23, x52_26, x52_27, x52_30, x52_31, x52_32, x52_33, x52_35, x52_38, x52_39, x52_41, x52_44, x52_45, x52_46, x52_47, x52_50, x52_53, x52_54, x52_55, x52_58, x52_61, x52_62, x52_63, x52_64, x52_67, x52_68, x52_69, x52_72, x52_75, x52_78, x52_79, ↓reduceIte, Bool.false_eq_true, Nat.reduceAdd, Nat.reduceLT, Nat.reduceLeDiff, Nat.reduceSub, Nat.reduceEqDiff, Int.reduceToNat, Int.reduceEq, Int.reduceLT, Int.reduceLE, Int.reduceAdd, Int.reduceSub, zg, zI, zJ, zR, zst, zkl, zn, zcat, zok, zraw, List.length_cons, List.length_nil, Option.toList, List.nil_append, List.cons_append, true_and, and_true, if_true, if_false, ne_eq, not_true, not_false_eq_true, and_self, true_or, or_true, false_or, or_false, false_and, and_false]
            exact hQ μ1 (Fr_E hE.1 f1 (by simp)) g4 g0
        by_cases k1 : ((K p : Nat) : Int) = 6
        · simp only [x52_0, x52_1, x52_2, x52_5, x52_8, x52_9, x52_10, x52_11, x52_13, x52_16, x52_19, x52_20, x52_23, x52_26, x52_27, x52_30, x52_31, x52_32, x52_33, x52_35, x52_38, x52_39, x52_41, x52_44, x52_45, x52_47, x52_50, x52_53, x52_54, x52_55, x52_58, x52_61, x52_62, x52_63, x52_64, x52_67, x52_68, x52_69, x52_72, x52_75, x52_78, x52_79, ↓reduceIte, Bool.false_eq_true, Nat.reduceAdd, Nat.reduceLT, Nat.reduceLeDiff, Nat.reduceSub, Nat.reduceEqDiff, Int.reduceToNat, Int.reduceEq, Int.reduceLT, Int.reduceLE, Int.reduceAdd, Int.reduceSub, zg, zI, zJ, zR, zst, zkl, zn, zcat, zok, zraw, List.length_cons, List.length_nil, Option.toList, List.nil_append, List.cons_append, true_and, and_true, if_true, if_false, ne_eq, not_true, not_false_eq_true, and_self, true_or, or_true, false_or, or_false, false_and, and_false, b_2 hc, b_3 hc, b_9 hc, b_12 hc, b_26 hc, b_40 hc, b_46 hc, b_47 hc, b_60 hc, b_62 hc, b_63 hc, b_76 hc, b_77 hc, b_90 hc, b_91 hc, b_104 hc, b_107 hc, b_114 hc, b_115 hc, b_122 hc, b_123 hc, b_131 hc, b_3 hc, r_3_0 hc, x_4 hc, r_3_1 hc, x_5 hc, r_3_2 hc, x_6 hc, r_3_4 hc, x_7 hc, n_7 hc, r_3_5 hc, x_8 hc, b_60 hc, r_60_1 hc, x_4 hc i1 i2, e3, e4, Int.toNat_natCast, i3, k1] at all ⊢
          exact all
        · have k2 : ((K p : Nat) : Int) = 7 := by omega
          simp only [x52_0, x52_1, x52_2, x52_5, x52_8, x52_9, x52_10, x52_11, x52_13, x52_16, x52_19, x52_20, x52_23, x52_26, x52_27, x52_30, x52_31, x52_32, x52_33, x52_35, x52_38, x52_39, x52_41, x52_44, x52_45, x52_47, x52_50, x52_53, x52_54, x52_55, x52_58, x52_61, x52_62, x52_63, x52_64, x52_67, x52_68, x52_69, x52_72, x52_75, x52_78, x52_79, ↓reduceIte, Bool.false_eq_true, Nat.reduceAdd, Nat.reduceLT, Nat.reduceLeDiff, Nat.reduceSub, Nat.reduceEqDiff, Int.reduceToNat, Int.reduceEq, Int.reduceLT, Int.reduceLE, Int.reduceAdd, Int.reduceSub, zg, zI, zJ, zR, zst, zkl, zn, zcat, zok, zraw, List.length_cons, List.length_nil, Option.toList, List.nil_append, List.cons_append, true_and, and_true, if_true, if_false, ne_eq, not_true, not_false_eq_true, and_self, true_or, or_true, false_or, or_false, false_and, and_false, b_2 hc, b_3 hc, b_9 hc, b_12 hc, b_26 hc, b_40 hc, b_46 hc, b_47 hc, b_60 hc, b_62 hc, b_63 hc, b_76 hc, b_77 hc, b_90 hc, b_91 hc, b_104 hc, b_107 hc, b_114 hc, b_115 hc, b_122 hc, b_123 hc, b_131 hc, b_3 hc, r_3_0 hc, x_4 hc, r_3_1 hc, x_5 hc, r_3_2 hc, x_6 hc, r_3_4 hc, x_7 hc, n_7 hc, r_3_5 hc, x_8 hc, b_60 hc, r_60_1 hc, x_4 hc i1 i2, e3, e4, Int.toNat_natCast, i3, k1, k2] at all ⊢
          exact all
      · rw [if_neg ko] at hQ
        have k1 : ¬ ((K p : Nat) : Int) = 6 := by omega
        have k2 : ¬ ((K p : Nat) : Int) = 7 := by omega
        simp only [x52_0, x52_1, x52_2, x52_5, x52_8, x52_9, x52_10, x52_11, x52_13, x52_16, x52_19, x52_20, x52_23, x52_26, x52_27, x52_30, x52_31, x52_32, x52_33, x52_35, x52_38, x52_39, x52_41, x52_44, x52_45, x52_46, x52_47, x52_50, x52_53, x52_54, x52_55, x52_58, x52_61, x52_62, x52_63, x52_64, x52_67, x52_68, x52_69, x52_72, x52_75, x52_78, x52_79, ↓reduceIte, Bool.false_eq_true, Nat.reduceAdd, Nat.reduceLT, Nat.reduceLeDiff, Nat.reduceSub, Nat.reduceEqDiff, Int.reduceToNat, Int.reduceEq, Int.reduceLT, Int.reduceLE, Int.reduceAdd, Int.reduceSub, zg, zI, zJ, zR, zst, zkl, zn, zcat, zok, zraw, List.length_cons, List.length_nil, Option.toList, List.nil_append, List.cons_append, true_and, and_true, if_true, if_false, ne_eq, not_true, not_false_eq_true, and_self, true_or, or_true, false_or, or_false, false_and, and_false, b_2 hc, b_3 hc, b_9 hc, b_12 hc, b_26 hc, b_40 hc, b_46 hc, b_47 hc, b_60 hc, b_62 hc, b_63 hc, b_76 hc, b_77 hc, b_90 hc, b_91 hc, b_104 hc, b_107 hc, b_114 hc, b_115 hc, b_122 hc, b_123 hc, b_131 hc, b_3 hc, r_3_0 hc, x_4 hc, r_3_1 hc, x_5 hc, r_3_2 hc, x_6 hc, r_3_4 hc, x_7 hc, n_7 hc, r_3_5 hc, x_8 hc, b_60 hc, r_60_1 hc, x_4 hc i1 i2, e3, e4, Int.toNat_natCast, i3, k1, k2]
        exact hQ μ hE
    · intro n p d a μ0 μ x2 x3 Q hp hn hz hd ha hE hT hQ
      rw [mz_4] at hz
      have hd0 : 0 < d := by omega
      rw [rd_4] at hQ
      simp only [x52_0, x52_1, x52_2, x52_5, x52_8, x52_9, x52_10, x52_11, x52_13, x52_16, x52_19, x52_20, x52_23, x52_26, x52_27, x52_30, x52_31, x52_32, x52_33, x52_35, x52_38, x52_39, x52_41, x52_44, x52_45, x52_46, x52_47, x52_50, x52_53, x52_54, x52_55, x52_58, x52_61, x52_62, x52_63, x52_64, x52_67, x52_68, x52_69, x52_72, x52_75, x52_78, x52_79, ↓reduceIte, Bool.false_eq_true, Nat.reduceAdd, Nat.reduceLT, Nat.reduceLeDiff, Nat.reduceSub, Nat.reduceEqDiff, Int.reduceToNat, Int.reduceEq, Int.reduceLT, Int.reduceLE, Int.reduceAdd, Int.reduceSub, zg, zI, zJ, zR, zst, zkl, zn, zcat, zok, zraw, List.length_cons, List.length_nil, Option.toList, List.nil_append, List.cons_append, true_and, and_true, if_true, if_false, ne_eq, not_true, not_false_eq_true, and_self, true_or, or_true, false_or, or_false, false_and, and_false, b_60 hc, hd0]
      have hF := rd_fact hT.1 hT.2.1 f 2 n p [] (by omega) hp (by omega) (by rw [mz_2]; omega)
      refine ih2 n p (d - 1) a μ0 _ _ _ _ hp hn (by rw [mz_2]; omega) (by omega) ha hE hT ?_
      generalize rd K V f 2 n p [] = r at hQ hF ⊢
      cases r with
      | inl e =>
        intro μ2 f2 g4 g0
        simp only [x52_0, x52_1, x52_2, x52_5, x52_8, x52_9, x52_10, x52_11, x52_13, x52_16, x52_19, x52_20, x52_23, x52_26, x52_27, x52_30, x52_31, x52_32, x52_33, x52_35, x52_38, x52_39, x52_41, x52_44, x52_45, x52_46, x52_47, x52_50, x52_53, x52_54, x52_55, x52_58, x52_61, x52_62, x52_63, x52_64, x52_67, x52_68, x52_69, x52_72, x52_75, x52_78, x52_79, ↓reduceIte, Bool.false_eq_true, Nat.reduceAdd, Nat.reduceLT, Nat.reduceLeDiff, Nat.reduceSub, Nat.reduceEqDiff, Int.reduceToNat, Int.reduceEq, Int.reduceLT, Int.reduceLE, Int.reduceAdd, Int.reduceSub, zg, zI, zJ, zR, zst, zkl, zn, zcat, zok, zraw, List.length_cons, List.length_nil, Option.toList, List.nil_append, List.cons_append, true_and, and_true, if_true, if_false, ne_eq, not_true, not_false_eq_true, and_self, true_or, or_true, false_or, or_false, false_and, and_false]
        exact hQ μ2 f2 g4 g0
      | inr x =>
        obtain ⟨e', h1, h2, h3, h5, h7, h8, h9, h10⟩ := hF
        have hex : x.2 = e' := by simpa using h1
        have h5' := h5 (by decide)
        intro μ2 hE2
        have hT2 := TK_E (μ' := μ2) hr hT (fun b hb => (hE2.1 b hb).trans (hE.1 b hb).symm)
        simp only [x52_0, x52_1, x52_2, x52_5, x52_8, x52_9, x52_10, x52_11, x52_13, x52_16, x52_19, x52_20, x52_23, x52_26, x52_27, x52_30, x52_31, x52_32, x52_33, x52_35, x52_38, x52_39, x52_41, x52_44, x52_45, x52_46, x52_47, x52_50, x52_53, x52_54, x52_55, x52_58, x52_61, x52_62, x52_63, x52_64, x52_67, x52_68, x52_69, x52_72, x52_75, x52_78, x52_79, ↓reduceIte, Bool.false_eq_true, Nat.reduceAdd, Nat.reduceLT, Nat.reduceLeDiff, Nat.reduceSub, Nat.reduceEqDiff, Int.reduceToNat, Int.reduceEq, Int.reduceLT, Int.reduceLE, Int.reduceAdd, Int.reduceSub, zg, zI, zJ, zR, zst, zkl, zn, zcat, zok, zraw, List.length_cons, List.length_nil, Option.toList, List.nil_append, List.cons_append, true_and, and_true, if_true, if_false, ne_eq, not_true, not_false_eq_true, and_self, true_or, or_true, false_or, or_false, false_and, and_false]
        exact ih3 n x.1 d a 0 x.2 μ0 _ _ _ h3 hn (by rw [mz_3]; omega) hd (by rw [hex]; omega) (by omega) hE2 hT2 hQ
end RF
