/-! THE REFERENCE: YEARS -/
section MY
variable {θ : zS} {τ : zT} {s : Nat} {Q : Option zV → zS → zM → Prop} {μ : zM} {ρ : zF} {g w : Int}
def fyO (τ : zT) (ρ : zF) (seed : Int) (k : Nat) : Int := match (List.range k).find? (fun y => decide (0 < yfO τ ρ seed y)) with
  | some y => (y : Int)
  | none => -2
theorem fy_s {seed : Int} (k : Nat) : fyO τ ρ seed (k + 1) = if fyO τ ρ seed k < 0 ∧ 0 < yfO τ ρ seed k then (k : Int) else fyO τ ρ seed k := by
  unfold fyO
  rw [List.range_succ, List.find?_append]
  cases h : (List.range k).find? (fun y => decide (0 < yfO τ ρ seed y)) with
  | some y =>
    have : ¬ ((y : Int) < 0) := by omega
    simp [this]
  | none =>
    by_cases hp : 0 < yfO τ ρ seed k
    · simp [hp]
    · simp [hp]
theorem ag_next (hwF : wfF τ ρ) {y t : Nat} (ht : t < tn τ) (hy : y < 60) : heldO (w32 ((agF ρ y).1 3 t + 1)) 99 = (agF ρ (y + 1)).1 3 t := by
  have hag := (hwF.1 t ht).2.2.2.1
  have e1 : (agF ρ y).1 3 t = (if ρ.1 3 t + (y : Nat) < 99 then ρ.1 3 t + (y : Nat) else 99) := rfl
  have e2 : (agF ρ (y + 1)).1 3 t = (if ρ.1 3 t + ((y + 1 : Nat) : Int) < 99 then ρ.1 3 t + ((y + 1 : Nat) : Int) else 99) := rfl
  rw [e1, e2]; unfold heldO w32; omega
def GY : List Nat := GF ++ [175, 192]
def J7 (μ μ' : zM) : Prop := ∀ j, j ≠ 50 → j ≠ 69 → j ≠ 77 → μ' 138 j = μ 138 j
theorem mYears {d k : Nat} {seed x : Int} {x3 x4 x5 : zV} (hd : 7 ≤ d) (h : MX θ τ s μ) (hR : MR τ ρ μ) (hx : x = (k : Int)) (hk60 : k ≤ 60)
    (hQ : ∀ μ', Fr GY μ μ' → J7 μ μ' → MR τ ρ μ' → μ' 138 77 = fyO τ ρ seed k → Q (some (vi (hlO τ (ylO τ ρ seed k)))) θ μ') : Ex d 273 0 [vr 138, vi seed, vi x, x3, x4, x5] [] θ μ Q := by
  subst hx
  have hm := h.1
  have hw := h.2.1
  have hn := tn_b hw
  have hd0 : 0 < d := by omega
  have hwF := hR.1.1
  have X : ∀ {μ1}, Fr GY μ μ1 → J7 μ μ1 → MX θ τ s μ1 := fun hf hj => MX_fr h hf (by decide) (hj 18 (by decide) (by decide) (by decide))
  have LL : ∀ {μ1} (y : Nat), Fr GY μ μ1 → J7 μ μ1 → (∀ q, q < tn τ → μ1 175 q = (agF ρ y).1 3 q) → ML τ (agF ρ y) μ1 := by
    intro μ1 y hf hj ha
    refine ⟨agF_w hwF, ?_, ?_, ?_⟩
    · intro t ht
      rw [hf 173 (by decide), hf 174 (by decide), hf 176 (by decide), ha t ht]
      have := hR.1.2.1 t ht
      exact ⟨this.1, this.2.1, rfl, this.2.2.2⟩
    · rw [hf 177 (by decide)]; exact hR.1.2.2.1
    · rw [hj 57 (by decide) (by decide) (by decide)]; exact hR.1.2.2.2
  -- the ages as they were
  have last : ∀ t L μ2, t ≤ tn τ → (∃ x5, L = [vr 138, vi seed, vi (k : Nat), vi (hlO τ (ylO τ ρ seed k)), vi (t : Nat), x5] ∧ Fr GY μ μ2 ∧ J7 μ μ2 ∧ μ2 138 77 = fyO τ ρ seed k ∧ (∀ q, q < tn τ → μ2 192 q = ρ.1 3 q) ∧ ∀ q, q < t → μ2 175 q = ρ.1 3 q) → Ex d 273 150 L [] θ μ2 Q := by
    refine Ex_loop (I := fun t L μ2 => ∃ x5, L = [vr 138, vi seed, vi (k : Nat), vi (hlO τ (ylO τ ρ seed k)), vi (t : Nat), x5] ∧ Fr GY μ μ2 ∧ J7 μ μ2 ∧ μ2 138 77 = fyO τ ρ seed k ∧ (∀ q, q < tn τ → μ2 192 q = ρ.1 3 q) ∧ ∀ q, q < t → μ2 175 q = ρ.1 3 q) (tn τ) ?_ ?_
    · rintro t L μ2 ht ⟨x5, rfl, hf, hj, h77, hw1, ha⟩ hk
      have X2 := X hf hj
      have i1 : ¬ ((tn τ : Int) ≤ (t : Int)) := by omega
      rw [x273_150]
      simp (disch := omega) only [x273_0, x273_1, x273_3, x273_4, x273_7, x273_10, x273_11, x273_14, x273_15, x273_16, x273_19, x273_20, x273_21, x273_22, x273_25, x273_28, x273_29, x273_32, x273_33, x273_36, x273_37, x273_38, x273_40, x273_43, x273_44, x273_48, x273_49, x273_52, x273_53, x273_57, x273_58, x273_61, x273_64, x273_65, x273_68, x273_70, x273_71, x273_74, x273_76, x273_77, x273_78, x273_79, x273_81, x273_84, x273_85, x273_88, x273_91, x273_92, x273_93, x273_94, x273_96, x273_97, x273_99, x273_102, x273_103, x273_104, x273_106, x273_107, x273_108, x273_109, x273_110, x273_113, x273_116, x273_118, x273_120, x273_123, x273_124, x273_127, x273_130, x273_131, x273_133, x273_136, x273_137, x273_139, x273_140, x273_141, x273_144, x273_147, x273_148, x273_152, x273_153, x273_156, x273_159, x273_160, x273_163, x273_165, x273_166, x273_169, x273_171, x273_172, x273_173, x273_176, x273_179, x273_180, ↓reduceIte, Bool.false_eq_true, Nat.reduceAdd, Nat.reduceLT, Nat.reduceLeDiff, Nat.reduceSub, Nat.reduceEqDiff, Int.reduceToNat, Int.reduceEq, Int.reduceLT, Int.reduceLE, Int.reduceAdd, Int.reduceSub, zg, zI, zJ, zR, zst, zkl, zn, zcat, zok, zraw, List.length_cons, List.length_nil, Option.toList, List.nil_append, List.cons_append, true_and, and_true, if_true, if_false, ne_eq, not_true, not_false_eq_true, and_self, true_or, or_true, false_or, or_false, false_and, and_false, b_138 hm, r_138_54 hm, x_175 hm, r_138_76 hm, x_192 hm, hd0, mTiles _ X2, i1, hw1 t ht, Int.toNat_natCast, w32_s, ua_eq]
      apply hk
      refine ⟨x5, rfl, Fr.us (by decide) hf, fun j a b c => by rw [us_ne (by decide)]; exact hj j a b c, by rw [us_ne (by decide)]; exact h77, fun q hq => by rw [us_ne (by decide)]; exact hw1 q hq, ?_⟩
      intro q hq
      rw [us_same, zup_ap]
      by_cases h1 : q = t
      · rw [if_pos h1, h1]
      · rw [if_neg h1]; exact ha q (by omega)
    · rintro L μ2 ⟨x5, rfl, hf, hj, h77, hw1, ha⟩
      have X2 := X hf hj
      rw [x273_150]
      simp (disch := omega) only [x273_0, x273_1, x273_3, x273_4, x273_7, x273_10, x273_11, x273_14, x273_15, x273_16, x273_19, x273_20, x273_21, x273_22, x273_25, x273_28, x273_29, x273_32, x273_33, x273_36, x273_37, x273_38, x273_40, x273_43, x273_44, x273_48, x273_49, x273_52, x273_53, x273_57, x273_58, x273_61, x273_64, x273_65, x273_68, x273_70, x273_71, x273_74, x273_76, x273_77, x273_78, x273_79, x273_81, x273_84, x273_85, x273_88, x273_91, x273_92, x273_93, x273_94, x273_96, x273_97, x273_99, x273_102, x273_103, x273_104, x273_106, x273_107, x273_108, x273_109, x273_110, x273_113, x273_116, x273_118, x273_120, x273_123, x273_124, x273_127, x273_130, x273_131, x273_133, x273_136, x273_137, x273_139, x273_140, x273_141, x273_144, x273_147, x273_148, x273_152, x273_153, x273_156, x273_159, x273_160, x273_163, x273_165, x273_166, x273_169, x273_171, x273_172, x273_173, x273_176, x273_179, x273_180, ↓reduceIte, Bool.false_eq_true, Nat.reduceAdd, Nat.reduceLT, Nat.reduceLeDiff, Nat.reduceSub, Nat.reduceEqDiff, Int.reduceToNat, Int.reduceEq, Int.reduceLT, Int.reduceLE, Int.reduceAdd, Int.reduceSub, zg, zI, zJ, zR, zst, zkl, zn, zcat, zok, zraw, List.length_cons, List.length_nil, Option.toList, List.nil_append, List.cons_append, true_and, and_true, if_true, if_false, ne_eq, not_true, not_false_eq_true, and_self, true_or, or_true, false_or, or_false, false_and, and_false, b_138 hm, hd0, mTiles _ X2, Int.le_refl]
      refine hQ μ2 hf hj ⟨⟨hwF, ?_, ?_, ?_⟩, ?_⟩ h77
      · intro t ht
        rw [hf 173 (by decide), hf 174 (by decide), hf 176 (by decide), ha t ht]
        have := hR.1.2.1 t ht
        exact ⟨this.1, this.2.1, rfl, this.2.2.2⟩
      · rw [hf 177 (by decide)]; exact hR.1.2.2.1
      · rw [hj 57 (by decide) (by decide) (by decide)]; exact hR.1.2.2.2
      · rw [hf 172 (by decide)]; exact hR.2
  -- year by year
  have year : ∀ y L μ2, y ≤ k → (∃ x5, L = [vr 138, vi seed, vi (k : Nat), vi (hlO τ (ylO τ ρ seed y)), vi (y : Nat), x5] ∧ Fr GY μ μ2 ∧ J7 μ μ2 ∧ μ2 138 77 = fyO τ ρ seed y ∧ (∀ q, q < tn τ → μ2 192 q = ρ.1 3 q) ∧ (∀ q, q < tn τ → μ2 175 q = (agF ρ y).1 3 q) ∧ MO τ (ylO τ ρ seed y) μ2) → Ex d 273 46 L [] θ μ2 Q := by
    refine Ex_loop (I := fun y L μ2 => ∃ x5, L = [vr 138, vi seed, vi (k : Nat), vi (hlO τ (ylO τ ρ seed y)), vi (y : Nat), x5] ∧ Fr GY μ μ2 ∧ J7 μ μ2 ∧ μ2 138 77 = fyO τ ρ seed y ∧ (∀ q, q < tn τ → μ2 192 q = ρ.1 3 q) ∧ (∀ q, q < tn τ → μ2 175 q = (agF ρ y).1 3 q) ∧ MO τ (ylO τ ρ seed y) μ2) k ?_ ?_
    · rintro y L μ2 hy ⟨x5, rfl, hf, hj, h77, hw1, ha, hO⟩ hk
      have i1 : ¬ ((k : Int) ≤ (y : Int)) := by omega
      have hst := yl_s (τ := τ) (ρ := ρ) (seed := seed) y
      have hyn := yf_nn (τ := τ) (ρ := ρ) (seed := seed) y
      have hb1 := hl_le hw (yl_z (τ := τ) (ρ := ρ) (seed := seed) y)
      have hb2 := hl_le hw (yl_z (τ := τ) (ρ := ρ) (seed := seed) (y + 1))
      have m1 : w32 (2 * (y : Int)) = 2 * (y : Int) := w32_i (by omega) (by omega)
      have m2 : w32 (2 * (y : Int) + 1) = 2 * (y : Int) + 1 := w32_i (by omega) (by omega)
      have l1 := lot_b (seed := seed) (which := 2 * (y : Int)) (n := 100) (by decide)
      have l2 := lot_b (seed := seed) (which := 2 * (y : Int) + 1) (n := 4) (by decide)
      rw [x273_46]
      simp (disch := omega) only [x273_0, x273_1, x273_3, x273_4, x273_7, x273_10, x273_11, x273_14, x273_15, x273_16, x273_19, x273_20, x273_21, x273_22, x273_25, x273_28, x273_29, x273_32, x273_33, x273_36, x273_37, x273_38, x273_40, x273_43, x273_44, x273_48, x273_49, x273_52, x273_53, x273_57, x273_58, x273_61, x273_64, x273_65, x273_68, x273_70, x273_71, x273_74, x273_76, x273_77, x273_78, x273_79, x273_81, x273_84, x273_85, x273_88, x273_91, x273_92, x273_93, x273_94, x273_96, x273_97, x273_99, x273_102, x273_103, x273_104, x273_106, x273_107, x273_108, x273_109, x273_110, x273_113, x273_116, x273_118, x273_120, x273_123, x273_124, x273_127, x273_130, x273_131, x273_133, x273_136, x273_137, x273_139, x273_140, x273_141, x273_144, x273_147, x273_148, x273_152, x273_153, x273_156, x273_159, x273_160, x273_163, x273_165, x273_166, x273_169, x273_171, x273_172, x273_173, x273_176, x273_179, x273_180, ↓reduceIte, Bool.false_eq_true, Nat.reduceAdd, Nat.reduceLT, Nat.reduceLeDiff, Nat.reduceSub, Nat.reduceEqDiff, Int.reduceToNat, Int.reduceEq, Int.reduceLT, Int.reduceLE, Int.reduceAdd, Int.reduceSub, zg, zI, zJ, zR, zst, zkl, zn, zcat, zok, zraw, List.length_cons, List.length_nil, Option.toList, List.nil_append, List.cons_append, true_and, and_true, if_true, if_false, ne_eq, not_true, not_false_eq_true, and_self, true_or, or_true, false_or, or_false, false_and, and_false, b_138 hm, i1]
      -- ages one more
      have age : ∀ t L μ3, t ≤ tn τ → (L = [vr 138, vi seed, vi (k : Nat), vi (hlO τ (ylO τ ρ seed y)), vi (y : Nat), vi (t : Nat)] ∧ Fr GY μ μ3 ∧ J7 μ μ3 ∧ μ3 138 77 = fyO τ ρ seed y ∧ (∀ q, q < tn τ → μ3 192 q = ρ.1 3 q) ∧ (∀ q, q < tn τ → μ3 175 q = if q < t then (agF ρ (y + 1)).1 3 q else (agF ρ y).1 3 q) ∧ MO τ (ylO τ ρ seed y) μ3) → Ex d 273 55 L [] θ μ3 Q := by
        refine Ex_loop (I := fun t L μ3 => L = [vr 138, vi seed, vi (k : Nat), vi (hlO τ (ylO τ ρ seed y)), vi (y : Nat), vi (t : Nat)] ∧ Fr GY μ μ3 ∧ J7 μ μ3 ∧ μ3 138 77 = fyO τ ρ seed y ∧ (∀ q, q < tn τ → μ3 192 q = ρ.1 3 q) ∧ (∀ q, q < tn τ → μ3 175 q = if q < t then (agF ρ (y + 1)).1 3 q else (agF ρ y).1 3 q) ∧ MO τ (ylO τ ρ seed y) μ3) (tn τ) ?_ ?_
        · rintro t L μ3 ht ⟨rfl, hf3, hj3, h773, hw3, ha3, hO3⟩ hk3
          have X3 := X hf3 hj3
          have i3 : ¬ ((tn τ : Int) ≤ (t : Int)) := by omega
          have e := ha3 t ht
          rw [if_neg (Nat.lt_irrefl _)] at e
          have en := ag_next hwF ht (show y < 60 by omega)
          rw [x273_55]
          simp (disch := omega) only [x273_0, x273_1, x273_3, x273_4, x273_7, x273_10, x273_11, x273_14, x273_15, x273_16, x273_19, x273_20, x273_21, x273_22, x273_25, x273_28, x273_29, x273_32, x273_33, x273_36, x273_37, x273_38, x273_40, x273_43, x273_44, x273_48, x273_49, x273_52, x273_53, x273_57, x273_58, x273_61, x273_64, x273_65, x273_68, x273_70, x273_71, x273_74, x273_76, x273_77, x273_78, x273_79, x273_81, x273_84, x273_85, x273_88, x273_91, x273_92, x273_93, x273_94, x273_96, x273_97, x273_99, x273_102, x273_103, x273_104, x273_106, x273_107, x273_108, x273_109, x273_110, x273_113, x273_116, x273_118, x273_120, x273_123, x273_124, x273_127, x273_130, x273_131, x273_133, x273_136, x273_137, x273_139, x273_140, x273_141, x273_144, x273_147, x273_148, x273_152, x273_153, x273_156, x273_159, x273_160, x273_163, x273_165, x273_166, x273_169, x273_171, x273_172, x273_173, x273_176, x273_179, x273_180, ↓reduceIte, Bool.false_eq_true, Nat.reduceAdd, Nat.reduceLT, Nat.reduceLeDiff, Nat.reduceSub, Nat.reduceEqDiff, Int.reduceToNat, Int.reduceEq, Int.reduceLT, Int.reduceLE, Int.reduceAdd, Int.reduceSub, zg, zI, zJ, zR, zst, zkl, zn, zcat, zok, zraw, List.length_cons, List.length_nil, Option.toList, List.nil_append, List.cons_append, true_and, and_true, if_true, if_false, ne_eq, not_true, not_false_eq_true, and_self, true_or, or_true, false_or, or_false, false_and, and_false, b_138 hm, r_138_54 hm, x_175 hm, hd0, mTiles _ X3, i3, e, mHeld, en, Int.toNat_natCast, w32_s, ua_eq]
          apply hk3
          refine ⟨rfl, Fr.us (by decide) hf3, fun j a b c => by rw [us_ne (by decide)]; exact hj3 j a b c, by rw [us_ne (by decide)]; exact h773, fun q hq => by rw [us_ne (by decide)]; exact hw3 q hq, ?_, ⟨hO3.1, by rw [us_ne (by decide)]; exact hO3.2⟩⟩
          intro q hq
          rw [us_same, zup_ap]
          by_cases h1 : q = t
          · subst h1; rw [if_pos rfl, if_pos (Nat.lt_succ_self _)]
          · rw [if_neg h1, ha3 q hq]
            by_cases h2 : q < t
            · rw [if_pos h2, if_pos (Nat.lt_succ_of_lt h2)]
            · rw [if_neg h2, if_neg (by omega)]
        · rintro L μ3 ⟨rfl, hf3, hj3, h773, hw3, ha3, hO3⟩
          have X3 := X hf3 hj3
          have ha3' : ∀ q, q < tn τ → μ3 175 q = (agF ρ (y + 1)).1 3 q := fun q hq => by rw [ha3 q hq, if_pos hq]
          rw [x273_55]
          simp (disch := omega) only [x273_0, x273_1, x273_3, x273_4, x273_7, x273_10, x273_11, x273_14, x273_15, x273_16, x273_19, x273_20, x273_21, x273_22, x273_25, x273_28, x273_29, x273_32, x273_33, x273_36, x273_37, x273_38, x273_40, x273_43, x273_44, x273_48, x273_49, x273_52, x273_53, x273_57, x273_58, x273_61, x273_64, x273_65, x273_68, x273_70, x273_71, x273_74, x273_76, x273_77, x273_78, x273_79, x273_81, x273_84, x273_85, x273_88, x273_91, x273_92, x273_93, x273_94, x273_96, x273_97, x273_99, x273_102, x273_103, x273_104, x273_106, x273_107, x273_108, x273_109, x273_110, x273_113, x273_116, x273_118, x273_120, x273_123, x273_124, x273_127, x273_130, x273_131, x273_133, x273_136, x273_137, x273_139, x273_140, x273_141, x273_144, x273_147, x273_148, x273_152, x273_153, x273_156, x273_159, x273_160, x273_163, x273_165, x273_166, x273_169, x273_171, x273_172, x273_173, x273_176, x273_179, x273_180, ↓reduceIte, Bool.false_eq_true, Nat.reduceAdd, Nat.reduceLT, Nat.reduceLeDiff, Nat.reduceSub, Nat.reduceEqDiff, Int.reduceToNat, Int.reduceEq, Int.reduceLT, Int.reduceLE, Int.reduceAdd, Int.reduceSub, zg, zI, zJ, zR, zst, zkl, zn, zcat, zok, zraw, List.length_cons, List.length_nil, Option.toList, List.nil_append, List.cons_append, true_and, and_true, if_true, if_false, ne_eq, not_true, not_false_eq_true, and_self, true_or, or_true, false_or, or_false, false_and, and_false, b_138 hm, hd0, mTiles _ X3, Int.le_refl, m1, m2]
          rw [eLotM (by omega) (by decide)]
          simp (disch := omega) only [x273_0, x273_1, x273_3, x273_4, x273_7, x273_10, x273_11, x273_14, x273_15, x273_16, x273_19, x273_20, x273_21, x273_22, x273_25, x273_28, x273_29, x273_32, x273_33, x273_36, x273_37, x273_38, x273_40, x273_43, x273_44, x273_48, x273_49, x273_52, x273_53, x273_57, x273_58, x273_61, x273_64, x273_65, x273_68, x273_70, x273_71, x273_74, x273_76, x273_77, x273_78, x273_79, x273_81, x273_84, x273_85, x273_88, x273_91, x273_92, x273_93, x273_94, x273_96, x273_97, x273_99, x273_102, x273_103, x273_104, x273_106, x273_107, x273_108, x273_109, x273_110, x273_113, x273_116, x273_118, x273_120, x273_123, x273_124, x273_127, x273_130, x273_131, x273_133, x273_136, x273_137, x273_139, x273_140, x273_141, x273_144, x273_147, x273_148, x273_152, x273_153, x273_156, x273_159, x273_160, x273_163, x273_165, x273_166, x273_169, x273_171, x273_172, x273_173, x273_176, x273_179, x273_180, ↓reduceIte, Bool.false_eq_true, Nat.reduceAdd, Nat.reduceLT, Nat.reduceLeDiff, Nat.reduceSub, Nat.reduceEqDiff, Int.reduceToNat, Int.reduceEq, Int.reduceLT, Int.reduceLE, Int.reduceAdd, Int.reduceSub, zg, zI, zJ, zR, zst, zkl, zn, zcat, zok, zraw, List.length_cons, List.length_nil, Option.toList, List.nil_append, List.cons_append, true_and, and_true, if_true, if_false, ne_eq, not_true, not_false_eq_true, and_self, true_or, or_true, false_or, or_false, false_and, and_false, b_138 hm, hd0, m1, m2]
          rw [eLotM (by omega) (by decide)]
          simp (disch := omega) only [x273_0, x273_1, x273_3, x273_4, x273_7, x273_10, x273_11, x273_14, x273_15, x273_16, x273_19, x273_20, x273_21, x273_22, x273_25, x273_28, x273_29, x273_32, x273_33, x273_36, x273_37, x273_38, x273_40, x273_43, x273_44, x273_48, x273_49, x273_52, x273_53, x273_57, x273_58, x273_61, x273_64, x273_65, x273_68, x273_70, x273_71, x273_74, x273_76, x273_77, x273_78, x273_79, x273_81, x273_84, x273_85, x273_88, x273_91, x273_92, x273_93, x273_94, x273_96, x273_97, x273_99, x273_102, x273_103, x273_104, x273_106, x273_107, x273_108, x273_109, x273_110, x273_113, x273_116, x273_118, x273_120, x273_123, x273_124, x273_127, x273_130, x273_131, x273_133, x273_136, x273_137, x273_139, x273_140, x273_141, x273_144, x273_147, x273_148, x273_152, x273_153, x273_156, x273_159, x273_160, x273_163, x273_165, x273_166, x273_169, x273_171, x273_172, x273_173, x273_176, x273_179, x273_180, ↓reduceIte, Bool.false_eq_true, Nat.reduceAdd, Nat.reduceLT, Nat.reduceLeDiff, Nat.reduceSub, Nat.reduceEqDiff, Int.reduceToNat, Int.reduceEq, Int.reduceLT, Int.reduceLE, Int.reduceAdd, Int.reduceSub, zg, zI, zJ, zR, zst, zkl, zn, zcat, zok, zraw, List.length_cons, List.length_nil, Option.toList, List.nil_append, List.cons_append, true_and, and_true, if_true, if_false, ne_eq, not_true, not_false_eq_true, and_self, true_or, or_true, false_or, or_false, false_and, and_false, b_138 hm, hd0]
          refine mFalls (d := d - 1) (l0 := ylO τ ρ seed y) (by omega) X3 (LL (y + 1) hf3 hj3 ha3') hO3 ⟨l1.1, by omega⟩ ⟨l2.1, by omega⟩ ?_
          intro μ4 hf4 hj4 hF
          have ey : (foO τ (agF ρ (y + 1)) (lotO seed (2 * (y : Nat)) 100) (lotO seed (2 * (y : Nat) + 1) 4) (ylO τ ρ seed y) : Nat) = yfO τ ρ seed y := rfl
          rw [ey]
          have a1 : w32 (hlO τ (ylO τ ρ seed y) + yfO τ ρ seed y) = hlO τ (ylO τ ρ seed (y + 1)) := by rw [hst]; exact w32_i (by omega) (by omega)
          have hf04 : Fr GY μ μ4 := hf3.trans (hf4.mono (by decide))
          have hj04 : J7 μ μ4 := fun j a b c => by rw [hj4 j a b]; exact hj3 j a b c
          have e77 : μ4 138 77 = fyO τ ρ seed y := by rw [hj4 77 (by decide) (by decide)]; exact h773
          have O4 : MO τ (ylO τ ρ seed (y + 1)) μ4 := ⟨yl_z (y + 1), hF.2.2.2⟩
          have w4 : ∀ q, q < tn τ → μ4 192 q = ρ.1 3 q := fun q hq => by rw [hf4 192 (by decide)]; exact hw3 q hq
          have a4 : ∀ q, q < tn τ → μ4 175 q = (agF ρ (y + 1)).1 3 q := fun q hq => by rw [hf4 175 (by decide)]; exact ha3' q hq
          have hfs := fy_s (τ := τ) (ρ := ρ) (seed := seed) y
          by_cases hp : 0 < yfO τ ρ seed y
          · have hp2 : ¬ yfO τ ρ seed y ≤ 0 := by omega
            by_cases hq : fyO τ ρ seed y < 0
            · have hq2 : ¬ 0 ≤ fyO τ ρ seed y := by omega
              rw [if_pos ⟨hq, hp⟩] at hfs
              simp (disch := omega) only [x273_0, x273_1, x273_3, x273_4, x273_7, x273_10, x273_11, x273_14, x273_15, x273_16, x273_19, x273_20, x273_21, x273_22, x273_25, x273_28, x273_29, x273_32, x273_33, x273_36, x273_37, x273_38, x273_40, x273_43, x273_44, x273_48, x273_49, x273_52, x273_53, x273_57, x273_58, x273_61, x273_64, x273_65, x273_68, x273_70, x273_71, x273_74, x273_76, x273_77, x273_78, x273_79, x273_81, x273_84, x273_85, x273_88, x273_91, x273_92, x273_93, x273_94, x273_96, x273_97, x273_99, x273_102, x273_103, x273_104, x273_106, x273_107, x273_108, x273_109, x273_110, x273_113, x273_116, x273_118, x273_120, x273_123, x273_124, x273_127, x273_130, x273_131, x273_133, x273_136, x273_137, x273_139, x273_140, x273_141, x273_144, x273_147, x273_148, x273_152, x273_153, x273_156, x273_159, x273_160, x273_163, x273_165, x273_166, x273_169, x273_171, x273_172, x273_173, x273_176, x273_179, x273_180, ↓reduceIte, Bool.false_eq_true, Nat.reduceAdd, Nat.reduceLT, Nat.reduceLeDiff, Nat.reduceSub, Nat.reduceEqDiff, Int.reduceToNat, Int.reduceEq, Int.reduceLT, Int.reduceLE, Int.reduceAdd, Int.reduceSub, zg, zI, zJ, zR, zst, zkl, zn, zcat, zok, zraw, List.length_cons, List.length_nil, Option.toList, List.nil_append, List.cons_append, true_and, and_true, if_true, if_false, ne_eq, not_true, not_false_eq_true, and_self, true_or, or_true, false_or, or_false, false_and, and_false, b_138 hm, hp2, e77, hq2, a1, w32_s, ua_eq]
              apply hk
              refine ⟨_, rfl, Fr.us (by decide) hf04, ?_, ?_, fun q hq => by rw [us_ne (by decide)]; exact w4 q hq, fun q hq => by rw [us_ne (by decide)]; exact a4 q hq, ⟨O4.1, by rw [us_ne (by decide)]; exact O4.2⟩⟩
              · intro j a b c; rw [us_same, zup_ne c]; exact hj04 j a b c
              · rw [us_same, zup_same rfl, hfs]
            · have hq2 : 0 ≤ fyO τ ρ seed y := by omega
              rw [if_neg (fun hh => hq hh.1)] at hfs
              simp (disch := omega) only [x273_0, x273_1, x273_3, x273_4, x273_7, x273_10, x273_11, x273_14, x273_15, x273_16, x273_19, x273_20, x273_21, x273_22, x273_25, x273_28, x273_29, x273_32, x273_33, x273_36, x273_37, x273_38, x273_40, x273_43, x273_44, x273_48, x273_49, x273_52, x273_53, x273_57, x273_58, x273_61, x273_64, x273_65, x273_68, x273_70, x273_71, x273_74, x273_76, x273_77, x273_78, x273_79, x273_81, x273_84, x273_85, x273_88, x273_91, x273_92, x273_93, x273_94, x273_96, x273_97, x273_99, x273_102, x273_103, x273_104, x273_106, x273_107, x273_108, x273_109, x273_110, x273_113, x273_116, x273_118, x273_120, x273_123, x273_124, x273_127, x273_130, x273_131, x273_133, x273_136, x273_137, x273_139, x273_140, x273_141, x273_144, x273_147, x273_148, x273_152, x273_153, x273_156, x273_159, x273_160, x273_163, x273_165, x273_166, x273_169, x273_171, x273_172, x273_173, x273_176, x273_179, x273_180, ↓reduceIte, Bool.false_eq_true, Nat.reduceAdd, Nat.reduceLT, Nat.reduceLeDiff, Nat.reduceSub, Nat.reduceEqDiff, Int.reduceToNat, Int.reduceEq, Int.reduceLT, Int.reduceLE, Int.reduceAdd, Int.reduceSub, zg, zI, zJ, zR, zst, zkl, zn, zcat, zok, zraw, List.length_cons, List.length_nil, Option.toList, List.nil_append, List.cons_append, true_and, and_true, if_true, if_false, ne_eq, not_true, not_false_eq_true, and_self, true_or, or_true, false_or, or_false, false_and, and_false, b_138 hm, hp2, e77, hq2, a1, w32_s]
              apply hk
              exact ⟨_, rfl, hf04, hj04, by rw [hfs]; exact e77, w4, a4, O4⟩
          · have hp2 : yfO τ ρ seed y ≤ 0 := by omega
            rw [if_neg (fun hh => hp hh.2)] at hfs
            simp (disch := omega) only [x273_0, x273_1, x273_3, x273_4, x273_7, x273_10, x273_11, x273_14, x273_15, x273_16, x273_19, x273_20, x273_21, x273_22, x273_25, x273_28, x273_29, x273_32, x273_33, x273_36, x273_37, x273_38, x273_40, x273_43, x273_44, x273_48, x273_49, x273_52, x273_53, x273_57, x273_58, x273_61, x273_64, x273_65, x273_68, x273_70, x273_71, x273_74, x273_76, x273_77, x273_78, x273_79, x273_81, x273_84, x273_85, x273_88, x273_91, x273_92, x273_93, x273_94, x273_96, x273_97, x273_99, x273_102, x273_103, x273_104, x273_106, x273_107, x273_108, x273_109, x273_110, x273_113, x273_116, x273_118, x273_120, x273_123, x273_124, x273_127, x273_130, x273_131, x273_133, x273_136, x273_137, x273_139, x273_140, x273_141, x273_144, x273_147, x273_148, x273_152, x273_153, x273_156, x273_159, x273_160, x273_163, x273_165, x273_166, x273_169, x273_171, x273_172, x273_173, x273_176, x273_179, x273_180, ↓reduceIte, Bool.false_eq_true, Nat.reduceAdd, Nat.reduceLT, Nat.reduceLeDiff, Nat.reduceSub, Nat.reduceEqDiff, Int.reduceToNat, Int.reduceEq, Int.reduceLT, Int.reduceLE, Int.reduceAdd, Int.reduceSub, zg, zI, zJ, zR, zst, zkl, zn, zcat, zok, zraw, List.length_cons, List.length_nil, Option.toList, List.nil_append, List.cons_append, true_and, and_true, if_true, if_false, ne_eq, not_true, not_false_eq_true, and_self, true_or, or_true, false_or, or_false, false_and, and_false, b_138 hm, hp2, a1, w32_s]
            apply hk
            exact ⟨_, rfl, hf04, hj04, by rw [hfs]; exact e77, w4, a4, O4⟩
      refine age 0 _ μ2 (by omega) ⟨rfl, hf, hj, h77, hw1, ?_, hO⟩
      intro q hq; rw [if_neg (Nat.not_lt_zero _)]; exact ha q hq
    · rintro L μ2 ⟨x5, rfl, hf, hj, h77, hw1, ha, hO⟩
      rw [x273_46]
      simp (disch := omega) only [x273_0, x273_1, x273_3, x273_4, x273_7, x273_10, x273_11, x273_14, x273_15, x273_16, x273_19, x273_20, x273_21, x273_22, x273_25, x273_28, x273_29, x273_32, x273_33, x273_36, x273_37, x273_38, x273_40, x273_43, x273_44, x273_48, x273_49, x273_52, x273_53, x273_57, x273_58, x273_61, x273_64, x273_65, x273_68, x273_70, x273_71, x273_74, x273_76, x273_77, x273_78, x273_79, x273_81, x273_84, x273_85, x273_88, x273_91, x273_92, x273_93, x273_94, x273_96, x273_97, x273_99, x273_102, x273_103, x273_104, x273_106, x273_107, x273_108, x273_109, x273_110, x273_113, x273_116, x273_118, x273_120, x273_123, x273_124, x273_127, x273_130, x273_131, x273_133, x273_136, x273_137, x273_139, x273_140, x273_141, x273_144, x273_147, x273_148, x273_152, x273_153, x273_156, x273_159, x273_160, x273_163, x273_165, x273_166, x273_169, x273_171, x273_172, x273_173, x273_176, x273_179, x273_180, ↓reduceIte, Bool.false_eq_true, Nat.reduceAdd, Nat.reduceLT, Nat.reduceLeDiff, Nat.reduceSub, Nat.reduceEqDiff, Int.reduceToNat, Int.reduceEq, Int.reduceLT, Int.reduceLE, Int.reduceAdd, Int.reduceSub, zg, zI, zJ, zR, zst, zkl, zn, zcat, zok, zraw, List.length_cons, List.length_nil, Option.toList, List.nil_append, List.cons_append, true_and, and_true, if_true, if_false, ne_eq, not_true, not_false_eq_true, and_self, true_or, or_true, false_or, or_false, false_and, and_false, b_138 hm, Int.le_refl]
      exact last 0 _ μ2 (by omega) ⟨_, rfl, hf, hj, h77, hw1, fun q hq => absurd hq (by omega)⟩
  have start : ∀ t L μ2, t ≤ tn τ → (∃ x4 x5, L = [vr 138, vi seed, vi (k : Nat), vi (t : Nat), x4, x5] ∧ Fr [192] μ μ2 ∧ ∀ q, q < t → μ2 192 q = ρ.1 3 q) → Ex d 273 2 L [] θ μ2 Q := by
    refine Ex_loop (I := fun t L μ2 => ∃ x4 x5, L = [vr 138, vi seed, vi (k : Nat), vi (t : Nat), x4, x5] ∧ Fr [192] μ μ2 ∧ ∀ q, q < t → μ2 192 q = ρ.1 3 q) (tn τ) ?_ ?_
    · rintro t L μ2 ht ⟨x4, x5, rfl, hf, ha⟩ hk
      have X2 : MX θ τ s μ2 := X (hf.mono (by decide)) (fun j _ _ _ => by rw [hf 138 (by decide)])
      have i1 : ¬ ((tn τ : Int) ≤ (t : Int)) := by omega
      have e : μ2 175 t = ρ.1 3 t := by rw [hf 175 (by decide)]; exact (hR.1.2.1 t ht).2.2.1
      rw [x273_2]
      simp (disch := omega) only [x273_0, x273_1, x273_3, x273_4, x273_7, x273_10, x273_11, x273_14, x273_15, x273_16, x273_19, x273_20, x273_21, x273_22, x273_25, x273_28, x273_29, x273_32, x273_33, x273_36, x273_37, x273_38, x273_40, x273_43, x273_44, x273_48, x273_49, x273_52, x273_53, x273_57, x273_58, x273_61, x273_64, x273_65, x273_68, x273_70, x273_71, x273_74, x273_76, x273_77, x273_78, x273_79, x273_81, x273_84, x273_85, x273_88, x273_91, x273_92, x273_93, x273_94, x273_96, x273_97, x273_99, x273_102, x273_103, x273_104, x273_106, x273_107, x273_108, x273_109, x273_110, x273_113, x273_116, x273_118, x273_120, x273_123, x273_124, x273_127, x273_130, x273_131, x273_133, x273_136, x273_137, x273_139, x273_140, x273_141, x273_144, x273_147, x273_148, x273_152, x273_153, x273_156, x273_159, x273_160, x273_163, x273_165, x273_166, x273_169, x273_171, x273_172, x273_173, x273_176, x273_179, x273_180, ↓reduceIte, Bool.false_eq_true, Nat.reduceAdd, Nat.reduceLT, Nat.reduceLeDiff, Nat.reduceSub, Nat.reduceEqDiff, Int.reduceToNat, Int.reduceEq, Int.reduceLT, Int.reduceLE, Int.reduceAdd, Int.reduceSub, zg, zI, zJ, zR, zst, zkl, zn, zcat, zok, zraw, List.length_cons, List.length_nil, Option.toList, List.nil_append, List.cons_append, true_and, and_true, if_true, if_false, ne_eq, not_true, not_false_eq_true, and_self, true_or, or_true, false_or, or_false, false_and, and_false, b_138 hm, r_138_54 hm, x_175 hm, r_138_76 hm, x_192 hm, hd0, mTiles _ X2, i1, e, Int.toNat_natCast, w32_s, ua_eq]
      apply hk
      refine ⟨_, _, rfl, Fr.us (by decide) hf, ?_⟩
      intro q hq
      rw [us_same, zup_ap]
      by_cases h1 : q = t
      · rw [if_pos h1, h1]
      · rw [if_neg h1]; exact ha q (by omega)
    · rintro L μ2 ⟨x4, x5, rfl, hf, ha⟩
      have k2 := hf 138 (by decide)
      have X2 : MX θ τ s μ2 := X (hf.mono (by decide)) (fun j _ _ _ => by rw [k2])
      rw [x273_2]
      simp (disch := omega) only [x273_0, x273_1, x273_3, x273_4, x273_7, x273_10, x273_11, x273_14, x273_15, x273_16, x273_19, x273_20, x273_21, x273_22, x273_25, x273_28, x273_29, x273_32, x273_33, x273_36, x273_37, x273_38, x273_40, x273_43, x273_44, x273_48, x273_49, x273_52, x273_53, x273_57, x273_58, x273_61, x273_64, x273_65, x273_68, x273_70, x273_71, x273_74, x273_76, x273_77, x273_78, x273_79, x273_81, x273_84, x273_85, x273_88, x273_91, x273_92, x273_93, x273_94, x273_96, x273_97, x273_99, x273_102, x273_103, x273_104, x273_106, x273_107, x273_108, x273_109, x273_110, x273_113, x273_116, x273_118, x273_120, x273_123, x273_124, x273_127, x273_130, x273_131, x273_133, x273_136, x273_137, x273_139, x273_140, x273_141, x273_144, x273_147, x273_148, x273_152, x273_153, x273_156, x273_159, x273_160, x273_163, x273_165, x273_166, x273_169, x273_171, x273_172, x273_173, x273_176, x273_179, x273_180, ↓reduceIte, Bool.false_eq_true, Nat.reduceAdd, Nat.reduceLT, Nat.reduceLeDiff, Nat.reduceSub, Nat.reduceEqDiff, Int.reduceToNat, Int.reduceEq, Int.reduceLT, Int.reduceLE, Int.reduceAdd, Int.reduceSub, zg, zI, zJ, zR, zst, zkl, zn, zcat, zok, zraw, List.length_cons, List.length_nil, Option.toList, List.nil_append, List.cons_append, true_and, and_true, if_true, if_false, ne_eq, not_true, not_false_eq_true, and_self, true_or, or_true, false_or, or_false, false_and, and_false, b_138 hm, hd0, mTiles _ X2, Int.le_refl]
      refine mAsItIs (d := d - 1) (by omega) X2 ?_ ?_
      · intro t ht; rw [hf 172 (by decide), hR.2 t ht]; have := (hwF.1 t ht).1; omega
      intro μ3 hf3 h184
      have k3 := hf3 138 (by decide)
      have X3 : MX θ τ s μ3 := MX_fr X2 hf3 (by decide) (by rw [k3])
      have O3 : MO τ (gnO τ ρ) μ3 := by
        refine ⟨gn_z τ ρ, ?_⟩
        intro t ht
        rw [h184 t ht, hf 172 (by decide), hR.2 t ht]
        unfold gnO
        have := (hwF.1 t ht).1
        by_cases h0 : ρ.1 0 t = 0
        · rw [if_pos ⟨ht, h0⟩]; omega
        · rw [if_neg (fun q => h0 q.2)]; omega
      simp (disch := omega) only [x273_0, x273_1, x273_3, x273_4, x273_7, x273_10, x273_11, x273_14, x273_15, x273_16, x273_19, x273_20, x273_21, x273_22, x273_25, x273_28, x273_29, x273_32, x273_33, x273_36, x273_37, x273_38, x273_40, x273_43, x273_44, x273_48, x273_49, x273_52, x273_53, x273_57, x273_58, x273_61, x273_64, x273_65, x273_68, x273_70, x273_71, x273_74, x273_76, x273_77, x273_78, x273_79, x273_81, x273_84, x273_85, x273_88, x273_91, x273_92, x273_93, x273_94, x273_96, x273_97, x273_99, x273_102, x273_103, x273_104, x273_106, x273_107, x273_108, x273_109, x273_110, x273_113, x273_116, x273_118, x273_120, x273_123, x273_124, x273_127, x273_130, x273_131, x273_133, x273_136, x273_137, x273_139, x273_140, x273_141, x273_144, x273_147, x273_148, x273_152, x273_153, x273_156, x273_159, x273_160, x273_163, x273_165, x273_166, x273_169, x273_171, x273_172, x273_173, x273_176, x273_179, x273_180, ↓reduceIte, Bool.false_eq_true, Nat.reduceAdd, Nat.reduceLT, Nat.reduceLeDiff, Nat.reduceSub, Nat.reduceEqDiff, Int.reduceToNat, Int.reduceEq, Int.reduceLT, Int.reduceLE, Int.reduceAdd, Int.reduceSub, zg, zI, zJ, zR, zst, zkl, zn, zcat, zok, zraw, List.length_cons, List.length_nil, Option.toList, List.nil_append, List.cons_append, true_and, and_true, if_true, if_false, ne_eq, not_true, not_false_eq_true, and_self, true_or, or_true, false_or, or_false, false_and, and_false, b_138 hm, hd0]
      refine mHoles (d := d - 1) (by omega) X3 O3 ?_
      simp (disch := omega) only [x273_0, x273_1, x273_3, x273_4, x273_7, x273_10, x273_11, x273_14, x273_15, x273_16, x273_19, x273_20, x273_21, x273_22, x273_25, x273_28, x273_29, x273_32, x273_33, x273_36, x273_37, x273_38, x273_40, x273_43, x273_44, x273_48, x273_49, x273_52, x273_53, x273_57, x273_58, x273_61, x273_64, x273_65, x273_68, x273_70, x273_71, x273_74, x273_76, x273_77, x273_78, x273_79, x273_81, x273_84, x273_85, x273_88, x273_91, x273_92, x273_93, x273_94, x273_96, x273_97, x273_99, x273_102, x273_103, x273_104, x273_106, x273_107, x273_108, x273_109, x273_110, x273_113, x273_116, x273_118, x273_120, x273_123, x273_124, x273_127, x273_130, x273_131, x273_133, x273_136, x273_137, x273_139, x273_140, x273_141, x273_144, x273_147, x273_148, x273_152, x273_153, x273_156, x273_159, x273_160, x273_163, x273_165, x273_166, x273_169, x273_171, x273_172, x273_173, x273_176, x273_179, x273_180, ↓reduceIte, Bool.false_eq_true, Nat.reduceAdd, Nat.reduceLT, Nat.reduceLeDiff, Nat.reduceSub, Nat.reduceEqDiff, Int.reduceToNat, Int.reduceEq, Int.reduceLT, Int.reduceLE, Int.reduceAdd, Int.reduceSub, zg, zI, zJ, zR, zst, zkl, zn, zcat, zok, zraw, List.length_cons, List.length_nil, Option.toList, List.nil_append, List.cons_append, true_and, and_true, if_true, if_false, ne_eq, not_true, not_false_eq_true, and_self, true_or, or_true, false_or, or_false, false_and, and_false, b_138 hm, ua_eq]
      refine year 0 _ _ (by omega) ⟨_, rfl, Fr.us (by decide) ((hf.mono (by decide)).trans (hf3.mono (by decide))), ?_, ?_, ?_, ?_, ⟨O3.1, by rw [us_ne (by decide)]; exact O3.2⟩⟩
      · intro j a b c; rw [us_same, zup_ne c, k3, k2]
      · rw [us_same, zup_same rfl]; rfl
      · intro q hq; rw [us_ne (by decide), hf3 192 (by decide)]; exact ha q hq
      · intro q hq; rw [us_ne (by decide), hf3 175 (by decide), hf 175 (by decide), ag0 hwF q hq]; exact (hR.1.2.1 q hq).2.2.1
  simp (disch := omega) only [x273_0, x273_1, x273_3, x273_4, x273_7, x273_10, x273_11, x273_14, x273_15, x273_16, x273_19, x273_20, x273_21, x273_22, x273_25, x273_28, x273_29, x273_32, x273_33, x273_36, x273_37, x273_38, x273_40, x273_43, x273_44, x273_48, x273_49, x273_52, x273_53, x273_57, x273_58, x273_61, x273_64, x273_65, x273_68, x273_70, x273_71, x273_74, x273_76, x273_77, x273_78, x273_79, x273_81, x273_84, x273_85, x273_88, x273_91, x273_92, x273_93, x273_94, x273_96, x273_97, x273_99, x273_102, x273_103, x273_104, x273_106, x273_107, x273_108, x273_109, x273_110, x273_113, x273_116, x273_118, x273_120, x273_123, x273_124, x273_127, x273_130, x273_131, x273_133, x273_136, x273_137, x273_139, x273_140, x273_141, x273_144, x273_147, x273_148, x273_152, x273_153, x273_156, x273_159, x273_160, x273_163, x273_165, x273_166, x273_169, x273_171, x273_172, x273_173, x273_176, x273_179, x273_180, ↓reduceIte, Bool.false_eq_true, Nat.reduceAdd, Nat.reduceLT, Nat.reduceLeDiff, Nat.reduceSub, Nat.reduceEqDiff, Int.reduceToNat, Int.reduceEq, Int.reduceLT, Int.reduceLE, Int.reduceAdd, Int.reduceSub, zg, zI, zJ, zR, zst, zkl, zn, zcat, zok, zraw, List.length_cons, List.length_nil, Option.toList, List.nil_append, List.cons_append, true_and, and_true, if_true, if_false, ne_eq, not_true, not_false_eq_true, and_self, true_or, or_true, false_or, or_false, false_and, and_false]
  exact start 0 _ μ (by omega) ⟨_, _, rfl, Fr.refl, fun q hq => absurd hq (by omega)⟩
end MY
