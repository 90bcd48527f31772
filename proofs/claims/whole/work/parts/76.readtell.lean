/-! THE CLASS READS a TELL -/
def RA (U : Nat) : List Nat := [60, U, U + 1, U + 2, U + 3, U + 4, U + 5, U + 6, U + 7, U + 8, U + 9, U + 10]
/-- what is told so far, as the Told U holds it -/
def PM (W : Nat → Int) (U cs : Nat) (π : zP) (μ : zM) : Prop := (∀ k, k < 9 → μ (U + 1) k = pN π k)
  ∧ (μ U 14 = ((pD π).length : Nat) ∧ (0 ≤ μ U 15 ∧ μ U 15 < ((2 ^ (pD π).length : Nat) : Int)) ∧ ∀ k (h : k < (pD π).length), (μ (U + 2) k = ((pD π)[k]).2.1 ∧ μ (U + 3) k = ((pD π)[k]).2.2.1 ∧ μ (U + 4) k = W ((pD π)[k]).1) ∧ zand (zshr (μ U 15) k) 1 = ((pD π)[k]).2.2.2)
  ∧ (∀ k, k < 4 → match pL π k with
    | none => μ (U + 7) k ≤ μ (U + 6) k
    | some c => μ (U + 6) k < μ (U + 7) k ∧ cAt (μ (U + 5)) (μ (U + 6) k) (μ (U + 7) k) (enC c) ∧ μ (U + 7) k ≤ (cs : Int))
  ∧ (∀ k, k < 3 → μ (U + 10) k = ((pU π k).length : Nat) ∧ ∀ i (h : i < (pU π k).length), cAt (μ (U + 5)) (μ (U + 8) (6 * k + i)) (μ (U + 9) (6 * k + i)) (enR ((pU π k)[i]) false false) ∧ μ (U + 9) (6 * k + i) ≤ (cs : Int))
  ∧ μ U 16 = (cs : Int)
def PT (W st : Nat → Int) (U p : Nat) (π : zP) (μ0 μ : zM) : Prop := Fr (RA U) μ0 μ ∧ μ 60 3 = (p : Nat) ∧ μ 60 4 = 0 ∧ LF (pF π) st μ ∧ ∃ cs, cs ≤ p ∧ PM W U cs π μ
theorem cAt_fr {f g : Nat → Int} {a b cs : Int} {c : List (Int × Int)} (h : cAt f a b c) (hb : b ≤ cs) (e : ∀ i : Nat, (i : Int) < cs → g i = f i) : cAt g a b c := by
  obtain ⟨h1, h2, h3, h4⟩ := h
  refine ⟨h1, h2, h3, fun i hi => ?_⟩
  rw [e (a.toNat + i) (by omega)]; exact h4 i hi
section RT
variable {θ : zS} {Q : Option zV → zS → zM → Prop} {μ μ0 : zM} {K : Nat → Nat} {V W st : Nat → Int} {Z U : Nat} {π : zP}
theorem PM_fr {μ' : zM} {cs : Nat} (h : PM W U cs π μ) (e : ∀ k, k ≤ 10 → μ' (U + k) = μ (U + k)) : PM W U cs π μ' := by
  have e0 := e 0 (by omega)
  rw [Nat.add_zero] at e0
  unfold PM
  rw [e0, e 1 (by omega), e 2 (by omega), e 3 (by omega), e 4 (by omega), e 5 (by omega), e 6 (by omega), e 7 (by omega), e 8 (by omega), e 9 (by omega), e 10 (by omega)]
  exact h
theorem PM_60 {μ' : zM} {cs : Nat} (hr : RdC θ U) (h : PM W U cs π μ) (hf : Fr [60] μ μ') : PM W U cs π μ' := PM_fr h (fun k hk => hf _ (by have := hr.2.2.1; simp; omega))
/-- code comes behind -/
theorem PM_E {μ' : zM} {q cs : Nat} {e : List (Int × Int)} (hr : RdC θ U) (h : PM W U cs π μ) (hE : PE U q cs e μ μ') : PM W U (cs + e.length) π μ' := by
  have hu := hr.2.2.1
  obtain ⟨h1, h2, h3, h4, h5⟩ := h
  obtain ⟨g1, g2, g3, g4, g5, g6, g7⟩ := hE
  have ee : ∀ k, k ≠ 0 → k ≠ 5 → k ≤ 10 → μ' (U + k) = μ (U + k) := fun k k0 k5 k10 => g1 _ (by simp; omega)
  have e6 : ∀ i : Nat, (i : Int) < (cs : Int) → μ' (U + 5) i = μ (U + 5) i := fun i hi => g6 i (by omega)
  refine ⟨?_, ?_, ?_, ?_, ?_⟩
  · rw [ee 1 (by omega) (by omega) (by omega)]; exact h1
  · rw [g5 14 (by omega), g5 15 (by omega), ee 2 (by omega) (by omega) (by omega), ee 3 (by omega) (by omega) (by omega), ee 4 (by omega) (by omega) (by omega)]; exact h2
  · intro k hk
    rw [ee 6 (by omega) (by omega) (by omega), ee 7 (by omega) (by omega) (by omega)]
    have := h3 k hk
    cases hl : pL π k with
    | none => rw [hl] at this; exact this
    | some c => rw [hl] at this; exact ⟨this.1, cAt_fr this.2.1 this.2.2 e6, by have := this.2.2; omega⟩
  · intro k hk
    rw [ee 8 (by omega) (by omega) (by omega), ee 9 (by omega) (by omega) (by omega), ee 10 (by omega) (by omega) (by omega)]
    refine ⟨(h4 k hk).1, fun i hi => ?_⟩
    have := (h4 k hk).2 i hi
    exact ⟨cAt_fr this.1 this.2 e6, by have := this.2; omega⟩
  · exact g4
theorem LF_fr {F : Option (Nat × Nat)} {μ' : zM} (h : LF F st μ) (h5 : μ' 60 5 = μ 60 5) (h6 : μ' 60 6 = μ 60 6) : LF F st μ' := by
  unfold LF; rw [h5, h6]; exact h
theorem PT_at {p q : Nat} (hr : RdC θ U) (h : PT W st U p π μ0 μ) (hq : p ≤ q) : PT W st U q π μ0 (us μ 60 (zup (μ 60) 3 (q : Nat))) := by
  obtain ⟨h1, h2, h3, h4, cs, h5, h6⟩ := h
  refine ⟨Fr.us (by unfold RA; simp) h1, by rw [us_same, zup_same rfl], by rw [us_same, zup_ne (by decide)]; exact h3, LF_fr h4 (by rw [us_same, zup_ne (by decide)]) (by rw [us_same, zup_ne (by decide)]), cs, by omega, PM_60 hr h6 (Fr.us (by simp) Fr.refl)⟩
theorem TK_T {μ' : zM} (hr : RdC θ U) (h : TK K V W st Z μ) (hf : Fr (RA U) μ μ') : TK K V W st Z μ' := by
  have hu := hr.2.2.1
  exact TK_fr h (hf 4 (by unfold RA; simp; omega)) (hf 5 (by unfold RA; simp; omega)) (hf 6 (by unfold RA; simp; omega))
/-- a number -/
theorem cNumber {d p w : Nat} {lo hi : Int} {F : Option (Nat × Nat)} {x4 : zV} (hr : RdC θ U) (hd : 2 ≤ d) (hT : TK K V W st Z μ) (hp : p ≤ Z) (h3 : μ 60 3 = (p : Nat)) (hF : LF F st μ) (hw : w < 9)
    (hQ : match numG K V lo hi p F with
      | .inl e => ∀ μ', Fr [60, U + 1] μ μ' → μ' 60 4 = (e.1 : Nat) → μ' 60 0 = st e.2 → Q (some (vi 0)) θ μ'
      | .inr x => ∀ μ', Fr [60, U + 1] μ μ' → μ' 60 3 = (x.1 : Nat) → μ' 60 4 = μ 60 4 → LF x.2.2 st μ' → μ' (U + 1) = zup (μ (U + 1)) w x.2.1 → Q (some (vi 1)) θ μ') : Ex d 44 0 [vr 60, vi (w : Nat), vi lo, vi hi, x4] [] θ μ Q := by
  have hr' := hr
  obtain ⟨hc, hU, hu, h60⟩ := hr'
  have hd0 : 0 < d := by omega
  have w1 : (0 : Int) ≤ (w : Int) := by omega
  have w2 : (w : Int) < 9 := by omega
  simp only [x44_0, x44_1, x44_2, x44_3, x44_6, x44_8, x44_9, x44_12, x44_15, x44_16, x44_18, x44_19, x44_21, x44_22, x44_25, x44_26, x44_29, x44_30, ↓reduceIte, Bool.false_eq_true, Nat.reduceAdd, Nat.reduceLT, Nat.reduceLeDiff, Nat.reduceSub, Nat.reduceEqDiff, Int.reduceToNat, Int.reduceEq, Int.reduceLT, Int.reduceLE, Int.reduceAdd, Int.reduceSub, zg, zI, zJ, zR, zst, zkl, zn, zcat, zok, zraw, List.length_cons, List.length_nil, Option.toList, List.nil_append, List.cons_append, true_and, and_true, if_true, if_false, ne_eq, not_true, not_false_eq_true, and_self, true_or, or_true, false_or, or_false, false_and, and_false, b_60 hc, hd0]
  have hN := okG_num (lo := lo) (hi := hi) (F := F) (V := V) hT.1 hp
  have hnn : ∀ x, numG K V lo hi p F = .inr x → 0 ≤ x.2.1 := fun x hx => by
    unfold numG at hx
    by_cases k2 : K p = 2
    · rw [if_pos k2] at hx
      have := (nx_inr (q := x.1) (y := x.2) hx).2.2
      rw [this]; exact (hT.2.1 p k2).1
    · rw [if_neg k2] at hx; cases hx
  refine cInt (d := d - 1) hr (by omega) hT hp h3 hF ?_
  generalize numG K V lo hi p F = r at hQ hnn ⊢
  cases r with
  | inl e =>
    intro μ1 f1 g4 g0
    simp only [x44_0, x44_1, x44_2, x44_3, x44_6, x44_8, x44_9, x44_12, x44_15, x44_16, x44_18, x44_19, x44_21, x44_22, x44_25, x44_26, x44_29, x44_30, ↓reduceIte, Bool.false_eq_true, Nat.reduceAdd, Nat.reduceLT, Nat.reduceLeDiff, Nat.reduceSub, Nat.reduceEqDiff, Int.reduceToNat, Int.reduceEq, Int.reduceLT, Int.reduceLE, Int.reduceAdd, Int.reduceSub, zg, zI, zJ, zR, zst, zkl, zn, zcat, zok, zraw, List.length_cons, List.length_nil, Option.toList, List.nil_append, List.cons_append, true_and, and_true, if_true, if_false, ne_eq, not_true, not_false_eq_true, and_self, true_or, or_true, false_or, or_false, false_and, and_false, b_2 hc, b_3 hc, b_9 hc, b_12 hc, b_26 hc, b_40 hc, b_46 hc, b_47 hc, b_60 hc, b_62 hc, b_63 hc, b_76 hc, b_77 hc, b_90 hc, b_91 hc, b_104 hc, b_107 hc, b_114 hc, b_115 hc, b_122 hc, b_123 hc, b_131 hc, b_60 hc, r_60_1 hc, h60, tb hU, tr_0 hU, tx_1 hU w1 w2, Nat.le_add_right_of_le (Tq2 hU), ua_eq, Int.toNat_natCast]
    refine hQ _ (Fr.us (by simp) (f1.mono (by simp))) ?_ ?_
    · rw [us_ne (by omega)]; exact g4
    · rw [us_ne (by omega)]; exact g0
  | inr x =>
    intro μ1 f1 g3 g4 gF
    have hv := hnn x rfl
    have hv' : ¬ x.2.1 = -1 := by omega
    simp only [x44_0, x44_1, x44_2, x44_3, x44_6, x44_8, x44_9, x44_12, x44_15, x44_16, x44_18, x44_19, x44_21, x44_22, x44_25, x44_26, x44_29, x44_30, ↓reduceIte, Bool.false_eq_true, Nat.reduceAdd, Nat.reduceLT, Nat.reduceLeDiff, Nat.reduceSub, Nat.reduceEqDiff, Int.reduceToNat, Int.reduceEq, Int.reduceLT, Int.reduceLE, Int.reduceAdd, Int.reduceSub, zg, zI, zJ, zR, zst, zkl, zn, zcat, zok, zraw, List.length_cons, List.length_nil, Option.toList, List.nil_append, List.cons_append, true_and, and_true, if_true, if_false, ne_eq, not_true, not_false_eq_true, and_self, true_or, or_true, false_or, or_false, false_and, and_false, b_2 hc, b_3 hc, b_9 hc, b_12 hc, b_26 hc, b_40 hc, b_46 hc, b_47 hc, b_60 hc, b_62 hc, b_63 hc, b_76 hc, b_77 hc, b_90 hc, b_91 hc, b_104 hc, b_107 hc, b_114 hc, b_115 hc, b_122 hc, b_123 hc, b_131 hc, b_60 hc, r_60_1 hc, h60, tb hU, tr_0 hU, tx_1 hU w1 w2, Nat.le_add_right_of_le (Tq2 hU), ua_eq, Int.toNat_natCast, hv']
    refine hQ _ (Fr.us (by simp) (f1.mono (by simp))) ?_ ?_ ?_ ?_
    · rw [us_ne (by omega)]; exact g3
    · rw [us_ne (by omega)]; exact g4
    · exact LF_fr gF (by rw [us_ne (by omega)]) (by rw [us_ne (by omega)])
    · rw [us_same, f1 (U + 1) (by simp; omega)]
theorem PM_N {μ' : zM} {cs w : Nat} {a : Int × Option (Nat × Nat)} (hr : RdC θ U) (h : PM W U cs π μ) (hf : Fr [60, U + 1] μ μ') (h1 : μ' (U + 1) = zup (μ (U + 1)) w a.1) : PM W U cs (upN π w a) μ' := by
  have hu := hr.2.2.1
  obtain ⟨g1, g2, g3, g4, g5⟩ := h
  have e : ∀ k, k ≠ 1 → k ≤ 10 → μ' (U + k) = μ (U + k) := fun k k1 k10 => hf _ (by simp; omega)
  have e0 := e 0 (by omega) (by omega)
  rw [Nat.add_zero] at e0
  refine ⟨?_, ?_, ?_, ?_, ?_⟩
  · intro k hk
    rw [h1]
    show zup (μ (U + 1)) w a.1 k = zup (pN π) w a.1 k
    unfold zup
    by_cases q : k = w
    · rw [if_pos q, if_pos q]
    · rw [if_neg q, if_neg q]; exact g1 k hk
  · rw [e0, e 2 (by omega) (by omega), e 3 (by omega) (by omega), e 4 (by omega) (by omega)]; exact g2
  · rw [e 5 (by omega) (by omega), e 6 (by omega) (by omega), e 7 (by omega) (by omega)]; exact g3
  · rw [e 5 (by omega) (by omega), e 8 (by omega) (by omega), e 9 (by omega) (by omega), e 10 (by omega) (by omega)]; exact g4
  · rw [e0]; exact g5
theorem PT_N {μ' : zM} {p q w : Nat} {a : Int × Option (Nat × Nat)} (hr : RdC θ U) (h : PT W st U p π μ0 μ) (hq : p ≤ q) (hf : Fr [60, U + 1] μ μ') (h3 : μ' 60 3 = (q : Nat)) (h4 : μ' 60 4 = μ 60 4) (hF : LF a.2 st μ') (h1 : μ' (U + 1) = zup (μ (U + 1)) w a.1) : PT W st U q (upN π w a) μ0 μ' := by
  obtain ⟨g1, g2, g3, g4, cs, g5, g6⟩ := h
  exact ⟨g1.trans (hf.mono (by unfold RA; simp)), h3, by rw [h4]; exact g3, hF, cs, by omega, PM_N hr g6 hf h1⟩
/-- the end of a TELL -/
theorem cSemi {d p : Nat} {π' : zP} {A : List Nat} (hr : RdC θ U) (hd : 1 ≤ d) (hp : p ≤ Z) (hT : TK K V W st Z μ) (h : PT W st U p π' μ0 μ)
    (hQ : cRQ (RA U) st μ0 θ Q 0 (expG K 4 p π') (fun q π' μ' => PT W st U q π' μ0 μ')) : Ex d 55 0 [vr 60, vi 4] [] θ μ Q := by
  refine cExpect (d := d) (k := 4) (A := RA U) hr hd hT hp h.2.1 h.1 (by unfold RA; simp) ?_
  unfold expG at hQ ⊢
  by_cases k : K p = 4
  · rw [if_pos k] at hQ ⊢
    by_cases h4 : p < 400
    · rw [nx_lt h4] at hQ ⊢
      intro μ' e
      rw [e]
      exact hQ _ (PT_at hr h (by omega))
    · rw [nx_ge h4] at hQ ⊢; exact hQ
  · rw [if_neg k] at hQ ⊢; exact hQ
/-- roof -/
theorem cRoofT {d p : Nat} (hr : RdC θ U) (hd : 4 ≤ d) (hp : p ≤ Z) (k16 : K p = 16) (hT : TK K V W st Z μ) (h : PT W st U p π μ0 μ)
    (hQ : cRQ (RA U) st μ0 θ Q 0 (roofG K V p π) (fun q π' μ' => PT W st U q π' μ0 μ')) : Ex d 43 19 [vr 60, vi 16] [] θ μ Q := by
  have hr' := hr
  obtain ⟨hc, hU, hu, h60⟩ := hr'
  have hd0 : 0 < d := by omega
  have hA1 : ∀ a ∈ [60, U + 1], a ∈ RA U := by unfold RA; simp
  unfold roofG at hQ
  simp only [x43_0, x43_1, x43_4, x43_7, x43_8, x43_11, x43_12, x43_13, x43_14, x43_16, x43_19, x43_20, x43_23, x43_26, x43_27, x43_28, x43_29, x43_31, x43_34, x43_37, x43_38, x43_39, x43_40, x43_42, x43_45, x43_48, x43_49, x43_50, x43_51, x43_52, x43_55, x43_58, x43_59, x43_60, x43_63, x43_66, x43_67, x43_70, x43_71, x43_72, x43_73, x43_75, x43_78, x43_79, x43_81, x43_84, x43_85, x43_88, x43_91, x43_92, x43_93, x43_94, x43_95, x43_97, x43_98, x43_99, x43_101, x43_104, x43_107, x43_108, x43_109, x43_112, x43_115, x43_116, x43_119, x43_120, x43_121, x43_122, x43_124, x43_127, x43_128, x43_130, x43_133, x43_134, x43_135, x43_137, x43_138, x43_141, x43_142, x43_143, x43_145, x43_148, x43_149, x43_151, x43_154, x43_155, x43_156, x43_158, x43_159, x43_162, x43_163, x43_164, x43_166, x43_169, x43_170, x43_173, x43_176, x43_177, x43_178, x43_181, ↓reduceIte, Bool.false_eq_true, Nat.reduceAdd, Nat.reduceLT, Nat.reduceLeDiff, Nat.reduceSub, Nat.reduceEqDiff, Int.reduceToNat, Int.reduceEq, Int.reduceLT, Int.reduceLE, Int.reduceAdd, Int.reduceSub, zg, zI, zJ, zR, zst, zkl, zn, zcat, zok, zraw, List.length_cons, List.length_nil, Option.toList, List.nil_append, List.cons_append, true_and, and_true, if_true, if_false, ne_eq, not_true, not_false_eq_true, and_self, true_or, or_true, false_or, or_false, false_and, and_false, b_60 hc, hd0]
  refine cPass (d := d - 1) hr hT hp h.2.1 (fun h4 => ?_) (fun h4 μ2 f2 g4 g0 => ?_)
  · rw [nx_lt h4] at hQ
    simp only [bnd] at hQ
    have hp1 := hT.1.2 p h4 hp (by omega)
    have H1 := PT_at hr h (q := p + 1) (by omega)
    have T1 := TK_60 hT (Fr.us (a := 60) (f := zup (μ 60) 3 ((p + 1 : Nat) : Int)) (by simp) Fr.refl)
    simp only [x43_0, x43_1, x43_4, x43_7, x43_8, x43_11, x43_12, x43_13, x43_14, x43_16, x43_19, x43_20, x43_23, x43_26, x43_27, x43_28, x43_29, x43_31, x43_34, x43_37, x43_38, x43_39, x43_40, x43_42, x43_45, x43_48, x43_49, x43_50, x43_51, x43_52, x43_55, x43_58, x43_59, x43_60, x43_63, x43_66, x43_67, x43_70, x43_71, x43_72, x43_73, x43_75, x43_78, x43_79, x43_81, x43_84, x43_85, x43_88, x43_91, x43_92, x43_93, x43_94, x43_95, x43_97, x43_98, x43_99, x43_101, x43_104, x43_107, x43_108, x43_109, x43_112, x43_115, x43_116, x43_119, x43_120, x43_121, x43_122, x43_124, x43_127, x43_128, x43_130, x43_133, x43_134, x43_135, x43_137, x43_138, x43_141, x43_142, x43_143, x43_145, x43_148, x43_149, x43_151, x43_154, x43_155, x43_156, x43_158, x43_159, x43_162, x43_163, x43_164, x43_166, x43_169, x43_170, x43_173, x43_176, x43_177, x43_178, x43_181, ↓reduceIte, Bool.false_eq_true, Nat.reduceAdd, Nat.reduceLT, Nat.reduceLeDiff, Nat.reduceSub, Nat.reduceEqDiff, Int.reduceToNat, Int.reduceEq, Int.reduceLT, Int.reduceLE, Int.reduceAdd, Int.reduceSub, zg, zI, zJ, zR, zst, zkl, zn, zcat, zok, zraw, List.length_cons, List.length_nil, Option.toList, List.nil_append, List.cons_append, true_and, and_true, if_true, if_false, ne_eq, not_true, not_false_eq_true, and_self, true_or, or_true, false_or, or_false, false_and, and_false, b_60 hc, hd0]
    have N1 := okG_num (lo := 2) (hi := 6) (F := pF π) (V := V) hT.1 hp1
    refine cNumber (d := d - 1) (w := 0) (F := pF π) hr (by omega) T1 hp1 H1.2.1 H1.2.2.2.1 (by decide) ?_
    generalize numG K V 2 6 (p + 1) (pF π) = r at hQ N1 ⊢
    cases r with
    | inl e =>
      intro μ2 f2 g4 g0
      simp only [x43_0, x43_1, x43_4, x43_7, x43_8, x43_11, x43_12, x43_13, x43_14, x43_16, x43_19, x43_20, x43_23, x43_26, x43_27, x43_28, x43_29, x43_31, x43_34, x43_37, x43_38, x43_39, x43_40, x43_42, x43_45, x43_48, x43_49, x43_50, x43_51, x43_52, x43_55, x43_58, x43_59, x43_60, x43_63, x43_66, x43_67, x43_70, x43_71, x43_72, x43_73, x43_75, x43_78, x43_79, x43_81, x43_84, x43_85, x43_88, x43_91, x43_92, x43_93, x43_94, x43_95, x43_97, x43_98, x43_99, x43_101, x43_104, x43_107, x43_108, x43_109, x43_112, x43_115, x43_116, x43_119, x43_120, x43_121, x43_122, x43_124, x43_127, x43_128, x43_130, x43_133, x43_134, x43_135, x43_137, x43_138, x43_141, x43_142, x43_143, x43_145, x43_148, x43_149, x43_151, x43_154, x43_155, x43_156, x43_158, x43_159, x43_162, x43_163, x43_164, x43_166, x43_169, x43_170, x43_173, x43_176, x43_177, x43_178, x43_181, ↓reduceIte, Bool.false_eq_true, Nat.reduceAdd, Nat.reduceLT, Nat.reduceLeDiff, Nat.reduceSub, Nat.reduceEqDiff, Int.reduceToNat, Int.reduceEq, Int.reduceLT, Int.reduceLE, Int.reduceAdd, Int.reduceSub, zg, zI, zJ, zR, zst, zkl, zn, zcat, zok, zraw, List.length_cons, List.length_nil, Option.toList, List.nil_append, List.cons_append, true_and, and_true, if_true, if_false, ne_eq, not_true, not_false_eq_true, and_self, true_or, or_true, false_or, or_false, false_and, and_false]
      exact hQ μ2 (H1.1.trans (f2.mono hA1)) g4 g0
    | inr a =>
      intro μ2 f2 g3 g4 gF gN
      have H2 := PT_N hr H1 (q := a.1) (by have := N1.1; omega) f2 g3 g4 gF gN
      have T2 := TK_T hr T1 (f2.mono hA1)
      simp only [bnd] at hQ
      simp only [x43_0, x43_1, x43_4, x43_7, x43_8, x43_11, x43_12, x43_13, x43_14, x43_16, x43_19, x43_20, x43_23, x43_26, x43_27, x43_28, x43_29, x43_31, x43_34, x43_37, x43_38, x43_39, x43_40, x43_42, x43_45, x43_48, x43_49, x43_50, x43_51, x43_52, x43_55, x43_58, x43_59, x43_60, x43_63, x43_66, x43_67, x43_70, x43_71, x43_72, x43_73, x43_75, x43_78, x43_79, x43_81, x43_84, x43_85, x43_88, x43_91, x43_92, x43_93, x43_94, x43_95, x43_97, x43_98, x43_99, x43_101, x43_104, x43_107, x43_108, x43_109, x43_112, x43_115, x43_116, x43_119, x43_120, x43_121, x43_122, x43_124, x43_127, x43_128, x43_130, x43_133, x43_134, x43_135, x43_137, x43_138, x43_141, x43_142, x43_143, x43_145, x43_148, x43_149, x43_151, x43_154, x43_155, x43_156, x43_158, x43_159, x43_162, x43_163, x43_164, x43_166, x43_169, x43_170, x43_173, x43_176, x43_177, x43_178, x43_181, ↓reduceIte, Bool.false_eq_true, Nat.reduceAdd, Nat.reduceLT, Nat.reduceLeDiff, Nat.reduceSub, Nat.reduceEqDiff, Int.reduceToNat, Int.reduceEq, Int.reduceLT, Int.reduceLE, Int.reduceAdd, Int.reduceSub, zg, zI, zJ, zR, zst, zkl, zn, zcat, zok, zraw, List.length_cons, List.length_nil, Option.toList, List.nil_append, List.cons_append, true_and, and_true, if_true, if_false, ne_eq, not_true, not_false_eq_true, and_self, true_or, or_true, false_or, or_false, false_and, and_false, b_60 hc, hd0]
      have N2 := okG_num (lo := 2) (hi := 6) (F := a.2.2) (V := V) hT.1 N1.2.1
      refine cNumber (d := d - 1) (w := 1) (F := a.2.2) hr (by omega) T2 N1.2.1 H2.2.1 H2.2.2.2.1 (by decide) ?_
      generalize numG K V 2 6 a.1 a.2.2 = r at hQ N2 ⊢
      cases r with
      | inl e =>
        intro μ3 f3 g4 g0
        simp only [x43_0, x43_1, x43_4, x43_7, x43_8, x43_11, x43_12, x43_13, x43_14, x43_16, x43_19, x43_20, x43_23, x43_26, x43_27, x43_28, x43_29, x43_31, x43_34, x43_37, x43_38, x43_39, x43_40, x43_42, x43_45, x43_48, x43_49, x43_50, x43_51, x43_52, x43_55, x43_58, x43_59, x43_60, x43_63, x43_66, x43_67, x43_70, x43_71, x43_72, x43_73, x43_75, x43_78, x43_79, x43_81, x43_84, x43_85, x43_88, x43_91, x43_92, x43_93, x43_94, x43_95, x43_97, x43_98, x43_99, x43_101, x43_104, x43_107, x43_108, x43_109, x43_112, x43_115, x43_116, x43_119, x43_120, x43_121, x43_122, x43_124, x43_127, x43_128, x43_130, x43_133, x43_134, x43_135, x43_137, x43_138, x43_141, x43_142, x43_143, x43_145, x43_148, x43_149, x43_151, x43_154, x43_155, x43_156, x43_158, x43_159, x43_162, x43_163, x43_164, x43_166, x43_169, x43_170, x43_173, x43_176, x43_177, x43_178, x43_181, ↓reduceIte, Bool.false_eq_true, Nat.reduceAdd, Nat.reduceLT, Nat.reduceLeDiff, Nat.reduceSub, Nat.reduceEqDiff, Int.reduceToNat, Int.reduceEq, Int.reduceLT, Int.reduceLE, Int.reduceAdd, Int.reduceSub, zg, zI, zJ, zR, zst, zkl, zn, zcat, zok, zraw, List.length_cons, List.length_nil, Option.toList, List.nil_append, List.cons_append, true_and, and_true, if_true, if_false, ne_eq, not_true, not_false_eq_true, and_self, true_or, or_true, false_or, or_false, false_and, and_false]
        exact hQ μ3 (H2.1.trans (f3.mono hA1)) g4 g0
      | inr b =>
        intro μ3 f3 g3 g4 gF gN
        have H3 := PT_N hr H2 (q := b.1) (by have := N2.1; omega) f3 g3 g4 gF gN
        have T3 := TK_T hr T2 (f3.mono hA1)
        simp only [bnd] at hQ
        simp only [x43_0, x43_1, x43_4, x43_7, x43_8, x43_11, x43_12, x43_13, x43_14, x43_16, x43_19, x43_20, x43_23, x43_26, x43_27, x43_28, x43_29, x43_31, x43_34, x43_37, x43_38, x43_39, x43_40, x43_42, x43_45, x43_48, x43_49, x43_50, x43_51, x43_52, x43_55, x43_58, x43_59, x43_60, x43_63, x43_66, x43_67, x43_70, x43_71, x43_72, x43_73, x43_75, x43_78, x43_79, x43_81, x43_84, x43_85, x43_88, x43_91, x43_92, x43_93, x43_94, x43_95, x43_97, x43_98, x43_99, x43_101, x43_104, x43_107, x43_108, x43_109, x43_112, x43_115, x43_116, x43_119, x43_120, x43_121, x43_122, x43_124, x43_127, x43_128, x43_130, x43_133, x43_134, x43_135, x43_137, x43_138, x43_141, x43_142, x43_143, x43_145, x43_148, x43_149, x43_151, x43_154, x43_155, x43_156, x43_158, x43_159, x43_162, x43_163, x43_164, x43_166, x43_169, x43_170, x43_173, x43_176, x43_177, x43_178, x43_181, ↓reduceIte, Bool.false_eq_true, Nat.reduceAdd, Nat.reduceLT, Nat.reduceLeDiff, Nat.reduceSub, Nat.reduceEqDiff, Int.reduceToNat, Int.reduceEq, Int.reduceLT, Int.reduceLE, Int.reduceAdd, Int.reduceSub, zg, zI, zJ, zR, zst, zkl, zn, zcat, zok, zraw, List.length_cons, List.length_nil, Option.toList, List.nil_append, List.cons_append, true_and, and_true, if_true, if_false, ne_eq, not_true, not_false_eq_true, and_self, true_or, or_true, false_or, or_false, false_and, and_false, b_60 hc, hd0]
        have N3 := okG_num (lo := 0) (hi := 3) (F := b.2.2) (V := V) hT.1 N2.2.1
        refine cNumber (d := d - 1) (w := 2) (F := b.2.2) hr (by omega) T3 N2.2.1 H3.2.1 H3.2.2.2.1 (by decide) ?_
        generalize numG K V 0 3 b.1 b.2.2 = r at hQ N3 ⊢
        cases r with
        | inl e =>
          intro μ4 f4 g4 g0
          simp only [x43_0, x43_1, x43_4, x43_7, x43_8, x43_11, x43_12, x43_13, x43_14, x43_16, x43_19, x43_20, x43_23, x43_26, x43_27, x43_28, x43_29, x43_31, x43_34, x43_37, x43_38, x43_39, x43_40, x43_42, x43_45, x43_48, x43_49, x43_50, x43_51, x43_52, x43_55, x43_58, x43_59, x43_60, x43_63, x43_66, x43_67, x43_70, x43_71, x43_72, x43_73, x43_75, x43_78, x43_79, x43_81, x43_84, x43_85, x43_88, x43_91, x43_92, x43_93, x43_94, x43_95, x43_97, x43_98, x43_99, x43_101, x43_104, x43_107, x43_108, x43_109, x43_112, x43_115, x43_116, x43_119, x43_120, x43_121, x43_122, x43_124, x43_127, x43_128, x43_130, x43_133, x43_134, x43_135, x43_137, x43_138, x43_141, x43_142, x43_143, x43_145, x43_148, x43_149, x43_151, x43_154, x43_155, x43_156, x43_158, x43_159, x43_162, x43_163, x43_164, x43_166, x43_169, x43_170, x43_173, x43_176, x43_177, x43_178, x43_181, ↓reduceIte, Bool.false_eq_true, Nat.reduceAdd, Nat.reduceLT, Nat.reduceLeDiff, Nat.reduceSub, Nat.reduceEqDiff, Int.reduceToNat, Int.reduceEq, Int.reduceLT, Int.reduceLE, Int.reduceAdd, Int.reduceSub, zg, zI, zJ, zR, zst, zkl, zn, zcat, zok, zraw, List.length_cons, List.length_nil, Option.toList, List.nil_append, List.cons_append, true_and, and_true, if_true, if_false, ne_eq, not_true, not_false_eq_true, and_self, true_or, or_true, false_or, or_false, false_and, and_false]
          exact hQ μ4 (H3.1.trans (f4.mono hA1)) g4 g0
        | inr c =>
          intro μ4 f4 g3 g4 gF gN
          have H4 := PT_N hr H3 (q := c.1) (by have := N3.1; omega) f4 g3 g4 gF gN
          have T4 := TK_T hr T3 (f4.mono hA1)
          simp only [bnd] at hQ
          simp only [x43_0, x43_1, x43_4, x43_7, x43_8, x43_11, x43_12, x43_13, x43_14, x43_16, x43_19, x43_20, x43_23, x43_26, x43_27, x43_28, x43_29, x43_31, x43_34, x43_37, x43_38, x43_39, x43_40, x43_42, x43_45, x43_48, x43_49, x43_50, x43_51, x43_52, x43_55, x43_58, x43_59, x43_60, x43_63, x43_66, x43_67, x43_70, x43_71, x43_72, x43_73, x43_75, x43_78, x43_79, x43_81, x43_84, x43_85, x43_88, x43_91, x43_92, x43_93, x43_94, x43_95, x43_97, x43_98, x43_99, x43_101, x43_104, x43_107, x43_108, x43_109, x43_112, x43_115, x43_116, x43_119, x43_120, x43_121, x43_122, x43_124, x43_127, x43_128, x43_130, x43_133, x43_134, x43_135, x43_137, x43_138, x43_141, x43_142, x43_143, x43_145, x43_148, x43_149, x43_151, x43_154, x43_155, x43_156, x43_158, x43_159, x43_162, x43_163, x43_164, x43_166, x43_169, x43_170, x43_173, x43_176, x43_177, x43_178, x43_181, ↓reduceIte, Bool.false_eq_true, Nat.reduceAdd, Nat.reduceLT, Nat.reduceLeDiff, Nat.reduceSub, Nat.reduceEqDiff, Int.reduceToNat, Int.reduceEq, Int.reduceLT, Int.reduceLE, Int.reduceAdd, Int.reduceSub, zg, zI, zJ, zR, zst, zkl, zn, zcat, zok, zraw, List.length_cons, List.length_nil, Option.toList, List.nil_append, List.cons_append, true_and, and_true, if_true, if_false, ne_eq, not_true, not_false_eq_true, and_self, true_or, or_true, false_or, or_false, false_and, and_false, b_60 hc, hd0]
          refine cSemi (d := d - 1) (A := []) hr (by omega) N3.2.1 T4 H4 ?_
          generalize expG K 4 c.1 (upN (upN (upN π 0 a.2) 1 b.2) 2 c.2) = r at hQ ⊢
          cases r with
          | inl e =>
            intro μ5 f5 g4 g0
            simp only [x43_0, x43_1, x43_4, x43_7, x43_8, x43_11, x43_12, x43_13, x43_14, x43_16, x43_19, x43_20, x43_23, x43_26, x43_27, x43_28, x43_29, x43_31, x43_34, x43_37, x43_38, x43_39, x43_40, x43_42, x43_45, x43_48, x43_49, x43_50, x43_51, x43_52, x43_55, x43_58, x43_59, x43_60, x43_63, x43_66, x43_67, x43_70, x43_71, x43_72, x43_73, x43_75, x43_78, x43_79, x43_81, x43_84, x43_85, x43_88, x43_91, x43_92, x43_93, x43_94, x43_95, x43_97, x43_98, x43_99, x43_101, x43_104, x43_107, x43_108, x43_109, x43_112, x43_115, x43_116, x43_119, x43_120, x43_121, x43_122, x43_124, x43_127, x43_128, x43_130, x43_133, x43_134, x43_135, x43_137, x43_138, x43_141, x43_142, x43_143, x43_145, x43_148, x43_149, x43_151, x43_154, x43_155, x43_156, x43_158, x43_159, x43_162, x43_163, x43_164, x43_166, x43_169, x43_170, x43_173, x43_176, x43_177, x43_178, x43_181, ↓reduceIte, Bool.false_eq_true, Nat.reduceAdd, Nat.reduceLT, Nat.reduceLeDiff, Nat.reduceSub, Nat.reduceEqDiff, Int.reduceToNat, Int.reduceEq, Int.reduceLT, Int.reduceLE, Int.reduceAdd, Int.reduceSub, zg, zI, zJ, zR, zst, zkl, zn, zcat, zok, zraw, List.length_cons, List.length_nil, Option.toList, List.nil_append, List.cons_append, true_and, and_true, if_true, if_false, ne_eq, not_true, not_false_eq_true, and_self, true_or, or_true, false_or, or_false, false_and, and_false]
            exact hQ μ5 f5 g4 g0
          | inr x =>
            intro μ5 H5
            simp only [x43_0, x43_1, x43_4, x43_7, x43_8, x43_11, x43_12, x43_13, x43_14, x43_16, x43_19, x43_20, x43_23, x43_26, x43_27, x43_28, x43_29, x43_31, x43_34, x43_37, x43_38, x43_39, x43_40, x43_42, x43_45, x43_48, x43_49, x43_50, x43_51, x43_52, x43_55, x43_58, x43_59, x43_60, x43_63, x43_66, x43_67, x43_70, x43_71, x43_72, x43_73, x43_75, x43_78, x43_79, x43_81, x43_84, x43_85, x43_88, x43_91, x43_92, x43_93, x43_94, x43_95, x43_97, x43_98, x43_99, x43_101, x43_104, x43_107, x43_108, x43_109, x43_112, x43_115, x43_116, x43_119, x43_120, x43_121, x43_122, x43_124, x43_127, x43_128, x43_130, x43_133, x43_134, x43_135, x43_137, x43_138, x43_141, x43_142, x43_143, x43_145, x43_148, x43_149, x43_151, x43_154, x43_155, x43_156, x43_158, x43_159, x43_162, x43_163, x43_164, x43_166, x43_169, x43_170, x43_173, x43_176, x43_177, x43_178, x43_181, ↓reduceIte, Bool.false_eq_true, Nat.reduceAdd, Nat.reduceLT, Nat.reduceLeDiff, Nat.reduceSub, Nat.reduceEqDiff, Int.reduceToNat, Int.reduceEq, Int.reduceLT, Int.reduceLE, Int.reduceAdd, Int.reduceSub, zg, zI, zJ, zR, zst, zkl, zn, zcat, zok, zraw, List.length_cons, List.length_nil, Option.toList, List.nil_append, List.cons_append, true_and, and_true, if_true, if_false, ne_eq, not_true, not_false_eq_true, and_self, true_or, or_true, false_or, or_false, false_and, and_false]
            exact hQ μ5 H5
  · rw [nx_ge h4] at hQ
    simp only [x43_0, x43_1, x43_4, x43_7, x43_8, x43_11, x43_12, x43_13, x43_14, x43_16, x43_19, x43_20, x43_23, x43_26, x43_27, x43_28, x43_29, x43_31, x43_34, x43_37, x43_38, x43_39, x43_40, x43_42, x43_45, x43_48, x43_49, x43_50, x43_51, x43_52, x43_55, x43_58, x43_59, x43_60, x43_63, x43_66, x43_67, x43_70, x43_71, x43_72, x43_73, x43_75, x43_78, x43_79, x43_81, x43_84, x43_85, x43_88, x43_91, x43_92, x43_93, x43_94, x43_95, x43_97, x43_98, x43_99, x43_101, x43_104, x43_107, x43_108, x43_109, x43_112, x43_115, x43_116, x43_119, x43_120, x43_121, x43_122, x43_124, x43_127, x43_128, x43_130, x43_133, x43_134, x43_135, x43_137, x43_138, x43_141, x43_142, x43_143, x43_145, x43_148, x43_149, x43_151, x43_154, x43_155, x43_156, x43_158, x43_159, x43_162, x43_163, x43_164, x43_166, x43_169, x43_170, x43_173, x43_176, x43_177, x43_178, x43_181, ↓reduceIte, Bool.false_eq_true, Nat.reduceAdd, Nat.reduceLT, Nat.reduceLeDiff, Nat.reduceSub, Nat.reduceEqDiff, Int.reduceToNat, Int.reduceEq, Int.reduceLT, Int.reduceLE, Int.reduceAdd, Int.reduceSub, zg, zI, zJ, zR, zst, zkl, zn, zcat, zok, zraw, List.length_cons, List.length_nil, Option.toList, List.nil_append, List.cons_append, true_and, and_true, if_true, if_false, ne_eq, not_true, not_false_eq_true, and_self, true_or, or_true, false_or, or_false, false_and, and_false]
    exact hQ μ2 (h.1.trans (f2.mono (by unfold RA; simp))) g4 g0
end RT
