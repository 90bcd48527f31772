/-! FACTS: the class's village -/
abbrev zV2 : Type := Nat × (Nat → Int) × (Nat → Int) × (Nat → Int) × (Nat → Int) × (Nat → Int)
/-- n, age, way, nails, lost, void -/
def wfV (V : zV2) : Prop := V.1 ≤ 60 ∧ ∀ i, i < V.1 → (V.2.2.2.2.2 i = -1 ∧ (0 ≤ V.2.1 i ∧ V.2.1 i ≤ 99) ∧ (0 ≤ V.2.2.1 i ∧ V.2.2.1 i ≤ 3) ∧ (0 ≤ V.2.2.2.1 i ∧ V.2.2.2.1 i ≤ 9) ∧ 0 ≤ V.2.2.2.2.1 i ∧ V.2.2.2.2.1 i ≤ 99) ∨ (0 ≤ V.2.2.2.2.2 i ∧ V.2.2.2.2.2 i < (i : Int))
def CV (V : zV2) (μ : zM) : Prop := μ 131 0 = (V.1 : Nat) ∧ ∀ i, i < V.1 → μ 136 i = V.2.2.2.2.2 i ∧ (V.2.2.2.2.2 i = -1 → μ 132 i = V.2.1 i ∧ μ 133 i = V.2.2.1 i ∧ μ 134 i = V.2.2.2.1 i ∧ μ 135 i = V.2.2.2.2.1 i)
/-- as KNOWN by n -/
def knO (V : zV2) (n i : Nat) : Bool := decide (V.2.2.2.2.2 i = -1) && (List.range n).all (fun j => decide (V.2.2.2.2.2 j ≠ (i : Int)))
def wnV (a w n : Int) : Nat → Int := fun k => if k = 9 then w else if k = 10 then a else if k = 12 then n else 0
def waO (τ : zT) (V : zV2) (i : Nat) : Int := b2 (holds τ 2 (wnV (V.2.1 i) (V.2.2.1 i) (V.2.2.2.1 i)))
def huO (V : zV2) (c : Int) (i : Nat) : Int := if c ≤ V.2.2.2.2.1 i then 1 else 0
/-- 0 m, 1 u, 2 t, 3 a of one -/
def vtO (τ : zT) (V : zV2) (c : Int) (what : Nat) (i : Nat) : Int := if what = 0 then 1 else if what = 1 then waO τ V i else if what = 2 then huO V c i else if waO τ V i = 1 ∧ huO V c i = 1 then 1 else 0
def vlF (τ : zT) (V : zV2) (n : Nat) (c : Int) (what : Nat) : Nat → Int := fun i => if knO V n i = true then vtO τ V c what i else 0
def vlO (τ : zT) (V : zV2) (n : Nat) (c : Int) (what : Nat) : Int := sm (vlF τ V n c what) n
theorem wa_z {τ : zT} {V : zV2} {i : Nat} : waO τ V i = 0 ∨ waO τ V i = 1 := by unfold waO b2; cases holds τ 2 (wnV (V.2.1 i) (V.2.2.1 i) (V.2.2.2.1 i)) <;> simp
theorem hu_z {V : zV2} {c : Int} {i : Nat} : huO V c i = 0 ∨ huO V c i = 1 := by unfold huO; omega
theorem vl_t {τ : zT} {V : zV2} {n : Nat} {c : Int} {what i : Nat} : 0 ≤ vlF τ V n c what i ∧ vlF τ V n c what i ≤ 1 := by
  have h1 := wa_z (τ := τ) (V := V) (i := i)
  have h2 := hu_z (V := V) (c := c) (i := i)
  unfold vlF vtO; omega
theorem vl_b {τ : zT} {V : zV2} {n : Nat} {c : Int} {what m : Nat} : 0 ≤ sm (vlF τ V n c what) m ∧ sm (vlF τ V n c what) m ≤ m := by
  refine ⟨sm_nn (fun i _ => vl_t.1), ?_⟩
  have := sm_le (f := vlF τ V n c what) (n := m) (b := 1) (fun i _ => vl_t.2)
  omega
section VI
variable {θ : zS} {T U : Nat} {τ : zT} {Q : Option zV → zS → zM → Prop} {μ : zM} {V : zV2}
theorem cWarns {d : Nat} {a w n : Int} (h : CX θ T U τ μ) (hd : 3 ≤ d) (hQ : ∀ μ', Fr [10, 11] μ μ' → Q (some (vi (b2 (holds τ 2 (wnV a w n))))) θ μ') : Ex d 25 0 [vr 9, vr T, vi a, vi w, vi n] [] θ μ Q := by
  have hc := h.1.1
  have hT := h.1.2.1
  have hd0 : 0 < d := by omega
  simp (disch := omega) only [x25_0, x25_1, x25_4, x25_5, x25_8, x25_9, x25_12, x25_14, x25_15, x25_16, x25_17, x25_20, x25_22, x25_23, x25_24, x25_25, x25_28, x25_30, x25_32, x25_33, x25_34, x25_35, x25_36, x25_39, ↓reduceIte, Bool.false_eq_true, Nat.reduceAdd, Nat.reduceLT, Nat.reduceLeDiff, Nat.reduceSub, Nat.reduceEqDiff, Int.reduceToNat, Int.reduceEq, Int.reduceLT, Int.reduceLE, Int.reduceAdd, Int.reduceSub, zg, zI, zJ, zR, zst, zkl, zn, zcat, zok, zraw, List.length_cons, List.length_nil, Option.toList, List.nil_append, List.cons_append, true_and, and_true, if_true, if_false, ne_eq, not_true, not_false_eq_true, and_self, true_or, or_true, false_or, or_false, false_and, and_false, b_2 hc, b_3 hc, b_9 hc, b_12 hc, b_26 hc, b_40 hc, b_46 hc, b_47 hc, b_60 hc, b_62 hc, b_63 hc, b_76 hc, b_77 hc, b_90 hc, b_91 hc, b_104 hc, b_107 hc, b_114 hc, b_115 hc, b_122 hc, b_123 hc, b_131 hc, b_9 hc, r_9_0 hc, x_10 hc, r_9_1 hc, x_11 hc, hd0]
  refine eFill (by decide) (s_10 hc) (by decide) ?_
  simp (disch := omega) only [x25_0, x25_1, x25_4, x25_5, x25_8, x25_9, x25_12, x25_14, x25_15, x25_16, x25_17, x25_20, x25_22, x25_23, x25_24, x25_25, x25_28, x25_30, x25_32, x25_33, x25_34, x25_35, x25_36, x25_39, ↓reduceIte, Bool.false_eq_true, Nat.reduceAdd, Nat.reduceLT, Nat.reduceLeDiff, Nat.reduceSub, Nat.reduceEqDiff, Int.reduceToNat, Int.reduceEq, Int.reduceLT, Int.reduceLE, Int.reduceAdd, Int.reduceSub, zg, zI, zJ, zR, zst, zkl, zn, zcat, zok, zraw, List.length_cons, List.length_nil, Option.toList, List.nil_append, List.cons_append, true_and, and_true, if_true, if_false, ne_eq, not_true, not_false_eq_true, and_self, true_or, or_true, false_or, or_false, false_and, and_false, b_2 hc, b_3 hc, b_9 hc, b_12 hc, b_26 hc, b_40 hc, b_46 hc, b_47 hc, b_60 hc, b_62 hc, b_63 hc, b_76 hc, b_77 hc, b_90 hc, b_91 hc, b_104 hc, b_107 hc, b_114 hc, b_115 hc, b_122 hc, b_123 hc, b_131 hc, b_9 hc, r_9_0 hc, x_10 hc, r_9_1 hc, x_11 hc, hd0, ua_eq, us_same, us_us, Int.reduceToNat]
  refine cSome (d := d - 1) (T := T) (τ := τ) (s := 2) (v := wnV a w n) (CX_fr (A := [10]) h (Fr.us (by decide) Fr.refl) (by decide)) (by omega) rfl (by decide) ?_ ?_
  · intro j hj
    rw [us_same]
    have : j = 0 ∨ j = 1 ∨ j = 2 ∨ j = 3 ∨ j = 4 ∨ j = 5 ∨ j = 6 ∨ j = 7 ∨ j = 8 ∨ j = 9 ∨ j = 10 ∨ j = 11 ∨ j = 12 := by omega
    rcases this with rfl | rfl | rfl | rfl | rfl | rfl | rfl | rfl | rfl | rfl | rfl | rfl | rfl <;> simp [zup_ap, wnV]
  · intro μ1 hf1
    have hbz : b2 (holds τ 2 (wnV a w n)) = 0 ∨ b2 (holds τ 2 (wnV a w n)) = 1 := by cases holds τ 2 (wnV a w n) <;> simp [b2]
    simp (disch := omega) only [x25_0, x25_1, x25_4, x25_5, x25_8, x25_9, x25_12, x25_14, x25_15, x25_16, x25_17, x25_20, x25_22, x25_23, x25_24, x25_25, x25_28, x25_30, x25_32, x25_33, x25_34, x25_35, x25_36, x25_39, ↓reduceIte, Bool.false_eq_true, Nat.reduceAdd, Nat.reduceLT, Nat.reduceLeDiff, Nat.reduceSub, Nat.reduceEqDiff, Int.reduceToNat, Int.reduceEq, Int.reduceLT, Int.reduceLE, Int.reduceAdd, Int.reduceSub, zg, zI, zJ, zR, zst, zkl, zn, zcat, zok, zraw, List.length_cons, List.length_nil, Option.toList, List.nil_append, List.cons_append, true_and, and_true, if_true, if_false, ne_eq, not_true, not_false_eq_true, and_self, true_or, or_true, false_or, or_false, false_and, and_false, b_2 hc, b_3 hc, b_9 hc, b_12 hc, b_26 hc, b_40 hc, b_46 hc, b_47 hc, b_60 hc, b_62 hc, b_63 hc, b_76 hc, b_77 hc, b_90 hc, b_91 hc, b_104 hc, b_107 hc, b_114 hc, b_115 hc, b_122 hc, b_123 hc, b_131 hc]
    exact hQ μ1 (Fr.trans (Fr.us (by decide) Fr.refl) (hf1.mono (by decide)))
theorem CV_fr {μ' : zM} {A : List Nat} (h : CV V μ) (hf : Fr A μ μ') (hA : ∀ a ∈ A, ¬ (132 ≤ a ∧ a ≤ 136)) (h0 : μ' 131 0 = μ 131 0) : CV V μ' := by
  have e : ∀ a, 132 ≤ a → a ≤ 136 → μ' a = μ a := fun a h1 h2 => hf a (fun hm => hA a hm ⟨h1, h2⟩)
  unfold CV
  rw [h0, e 132 (by decide) (by decide), e 133 (by decide) (by decide), e 134 (by decide) (by decide), e 135 (by decide) (by decide), e 136 (by decide) (by decide)]
  exact h
theorem kn_iff {n i : Nat} : knO V n i = true ↔ V.2.2.2.2.2 i = -1 ∧ ∀ j, j < n → V.2.2.2.2.2 j ≠ (i : Int) := by
  unfold knO
  rw [Bool.and_eq_true, decide_eq_true_iff, List.all_eq_true]
  simp [List.mem_range]
theorem cKnow {d n : Nat} {x : Int} {x2 : zV} (hc : Tc θ) (hV : wfV V) (hC : CV V μ) (hx : x = (n : Int)) (hn : n ≤ V.1)
    (hQ : ∀ μ', Fr [137] μ μ' → (∀ i, i < n → μ' 137 i = b2 (knO V n i)) → Q none θ μ') : Ex d 95 0 [vr 131, vi x, x2] [] θ μ Q := by
  subst hx
  have h60 := hV.1
  -- 1 where it is a HOUSE and none of the first t VOIDS names it
  have pz : ∀ (t i : Nat), (if V.2.2.2.2.2 i = -1 ∧ ∀ j, j < t → V.2.2.2.2.2 j ≠ (i : Int) then (1 : Int) else 0) = (if V.2.2.2.2.2 i = -1 ∧ ∀ j, j < t → V.2.2.2.2.2 j ≠ (i : Int) then 1 else 0) := fun _ _ => rfl
  have loop2 : ∀ t L μ1, t ≤ n → (L = [vr 131, vi (n : Nat), vi (t : Nat)] ∧ Fr [137] μ μ1 ∧ ∀ i, i < n → (μ1 137 i = 1 ∧ (V.2.2.2.2.2 i = -1 ∧ ∀ j, j < t → V.2.2.2.2.2 j ≠ (i : Int))) ∨ (μ1 137 i = 0 ∧ ¬ (V.2.2.2.2.2 i = -1 ∧ ∀ j, j < t → V.2.2.2.2.2 j ≠ (i : Int)))) → Ex d 95 36 L [] θ μ1 Q := by
    refine Ex_loop (I := fun t L μ1 => L = [vr 131, vi (n : Nat), vi (t : Nat)] ∧ Fr [137] μ μ1 ∧ ∀ i, i < n → (μ1 137 i = 1 ∧ (V.2.2.2.2.2 i = -1 ∧ ∀ j, j < t → V.2.2.2.2.2 j ≠ (i : Int))) ∨ (μ1 137 i = 0 ∧ ¬ (V.2.2.2.2.2 i = -1 ∧ ∀ j, j < t → V.2.2.2.2.2 j ≠ (i : Int)))) n ?_ ?_
    · rintro t L μ1 ht ⟨rfl, hf, ha⟩ hk
      have i1 : ¬ ((n : Int) ≤ (t : Int)) := by omega
      have e : μ1 136 t = V.2.2.2.2.2 t := by rw [hf 136 (by decide)]; exact (hC.2 t (by omega)).1
      have hv := hV.2 t (by omega)
      rw [x95_36]
      by_cases hm : V.2.2.2.2.2 t = -1
      · simp (disch := omega) only [x95_0, x95_1, x95_3, x95_4, x95_7, x95_8, x95_11, x95_12, x95_13, x95_16, x95_17, x95_18, x95_19, x95_22, x95_23, x95_26, x95_27, x95_28, x95_31, x95_34, x95_35, x95_37, x95_38, x95_41, x95_42, x95_45, x95_46, x95_47, x95_48, x95_51, x95_52, x95_55, x95_56, x95_59, x95_60, x95_61, x95_62, x95_63, x95_66, x95_69, ↓reduceIte, Bool.false_eq_true, Nat.reduceAdd, Nat.reduceLT, Nat.reduceLeDiff, Nat.reduceSub, Nat.reduceEqDiff, Int.reduceToNat, Int.reduceEq, Int.reduceLT, Int.reduceLE, Int.reduceAdd, Int.reduceSub, zg, zI, zJ, zR, zst, zkl, zn, zcat, zok, zraw, List.length_cons, List.length_nil, Option.toList, List.nil_append, List.cons_append, true_and, and_true, if_true, if_false, ne_eq, not_true, not_false_eq_true, and_self, true_or, or_true, false_or, or_false, false_and, and_false, b_2 hc, b_3 hc, b_9 hc, b_12 hc, b_26 hc, b_40 hc, b_46 hc, b_47 hc, b_60 hc, b_62 hc, b_63 hc, b_76 hc, b_77 hc, b_90 hc, b_91 hc, b_104 hc, b_107 hc, b_114 hc, b_115 hc, b_122 hc, b_123 hc, b_131 hc, b_131 hc, r_131_7 hc, x_132 hc, r_131_8 hc, x_133 hc, r_131_9 hc, x_134 hc, r_131_10 hc, x_135 hc, r_131_11 hc, x_136 hc, r_131_12 hc, x_137 hc, i1, e, hm, Int.toNat_natCast, w32_s]
        apply hk
        refine ⟨rfl, hf, ?_⟩
        intro i hi
        have hs : (∀ j, j < t + 1 → V.2.2.2.2.2 j ≠ (i : Int)) ↔ (∀ j, j < t → V.2.2.2.2.2 j ≠ (i : Int)) := by
          constructor
          · intro h j hj; exact h j (by omega)
          · intro h j hj
            by_cases hjt : j = t
            · rw [hjt, hm]; omega
            · exact h j (by omega)
        rw [hs]; exact ha i hi
      · have hv2 : 0 ≤ V.2.2.2.2.2 t ∧ V.2.2.2.2.2 t < (t : Int) := by
          rcases hv with hv | hv
          · exact absurd hv.1 hm
          · exact hv
        obtain ⟨q, hq⟩ : ∃ q : Nat, V.2.2.2.2.2 t = (q : Int) := ⟨(V.2.2.2.2.2 t).toNat, by omega⟩
        have hne : ¬ ((q : Int) = -1) := by omega
        rw [hq] at e
        simp (disch := omega) only [x95_0, x95_1, x95_3, x95_4, x95_7, x95_8, x95_11, x95_12, x95_13, x95_16, x95_17, x95_18, x95_19, x95_22, x95_23, x95_26, x95_27, x95_28, x95_31, x95_34, x95_35, x95_37, x95_38, x95_41, x95_42, x95_45, x95_46, x95_47, x95_48, x95_51, x95_52, x95_55, x95_56, x95_59, x95_60, x95_61, x95_62, x95_63, x95_66, x95_69, ↓reduceIte, Bool.false_eq_true, Nat.reduceAdd, Nat.reduceLT, Nat.reduceLeDiff, Nat.reduceSub, Nat.reduceEqDiff, Int.reduceToNat, Int.reduceEq, Int.reduceLT, Int.reduceLE, Int.reduceAdd, Int.reduceSub, zg, zI, zJ, zR, zst, zkl, zn, zcat, zok, zraw, List.length_cons, List.length_nil, Option.toList, List.nil_append, List.cons_append, true_and, and_true, if_true, if_false, ne_eq, not_true, not_false_eq_true, and_self, true_or, or_true, false_or, or_false, false_and, and_false, b_2 hc, b_3 hc, b_9 hc, b_12 hc, b_26 hc, b_40 hc, b_46 hc, b_47 hc, b_60 hc, b_62 hc, b_63 hc, b_76 hc, b_77 hc, b_90 hc, b_91 hc, b_104 hc, b_107 hc, b_114 hc, b_115 hc, b_122 hc, b_123 hc, b_131 hc, b_131 hc, r_131_7 hc, x_132 hc, r_131_8 hc, x_133 hc, r_131_9 hc, x_134 hc, r_131_10 hc, x_135 hc, r_131_11 hc, x_136 hc, r_131_12 hc, x_137 hc, i1, e, hne, Int.toNat_natCast, w32_s, ua_eq]
        apply hk
        refine ⟨rfl, Fr.us (by decide) hf, ?_⟩
        intro i hi
        rw [us_same, zup_ap]
        by_cases h1 : i = q
        · rw [if_pos h1]
          refine Or.inr ⟨rfl, ?_⟩
          rintro ⟨_, hh⟩
          exact hh t (by omega) (by rw [hq, h1])
        · rw [if_neg h1]
          have hs : (∀ j, j < t + 1 → V.2.2.2.2.2 j ≠ (i : Int)) ↔ (∀ j, j < t → V.2.2.2.2.2 j ≠ (i : Int)) := by
            constructor
            · intro h j hj; exact h j (by omega)
            · intro h j hj
              by_cases hjt : j = t
              · rw [hjt, hq]; omega
              · exact h j (by omega)
          rw [hs]; exact ha i hi
    · rintro L μ1 ⟨rfl, hf, ha⟩
      rw [x95_36]
      simp (disch := omega) only [x95_0, x95_1, x95_3, x95_4, x95_7, x95_8, x95_11, x95_12, x95_13, x95_16, x95_17, x95_18, x95_19, x95_22, x95_23, x95_26, x95_27, x95_28, x95_31, x95_34, x95_35, x95_37, x95_38, x95_41, x95_42, x95_45, x95_46, x95_47, x95_48, x95_51, x95_52, x95_55, x95_56, x95_59, x95_60, x95_61, x95_62, x95_63, x95_66, x95_69, ↓reduceIte, Bool.false_eq_true, Nat.reduceAdd, Nat.reduceLT, Nat.reduceLeDiff, Nat.reduceSub, Nat.reduceEqDiff, Int.reduceToNat, Int.reduceEq, Int.reduceLT, Int.reduceLE, Int.reduceAdd, Int.reduceSub, zg, zI, zJ, zR, zst, zkl, zn, zcat, zok, zraw, List.length_cons, List.length_nil, Option.toList, List.nil_append, List.cons_append, true_and, and_true, if_true, if_false, ne_eq, not_true, not_false_eq_true, and_self, true_or, or_true, false_or, or_false, false_and, and_false, b_2 hc, b_3 hc, b_9 hc, b_12 hc, b_26 hc, b_40 hc, b_46 hc, b_47 hc, b_60 hc, b_62 hc, b_63 hc, b_76 hc, b_77 hc, b_90 hc, b_91 hc, b_104 hc, b_107 hc, b_114 hc, b_115 hc, b_122 hc, b_123 hc, b_131 hc, Int.le_refl]
      refine hQ μ1 hf ?_
      intro i hi
      rcases ha i hi with ⟨h1, h2⟩ | ⟨h1, h2⟩
      · rw [h1, show knO V n i = true from kn_iff.mpr h2]; rfl
      · have : knO V n i = false := by
          cases hk : knO V n i with
          | false => rfl
          | true => exact absurd (kn_iff.mp hk) h2
        rw [h1, this]; rfl
  have loop1 : ∀ t L μ1, t ≤ n → (L = [vr 131, vi (n : Nat), vi (t : Nat)] ∧ Fr [137] μ μ1 ∧ ∀ i, i < t → (μ1 137 i = 1 ∧ V.2.2.2.2.2 i = -1) ∨ (μ1 137 i = 0 ∧ ¬ V.2.2.2.2.2 i = -1)) → Ex d 95 2 L [] θ μ1 Q := by
    refine Ex_loop (I := fun t L μ1 => L = [vr 131, vi (n : Nat), vi (t : Nat)] ∧ Fr [137] μ μ1 ∧ ∀ i, i < t → (μ1 137 i = 1 ∧ V.2.2.2.2.2 i = -1) ∨ (μ1 137 i = 0 ∧ ¬ V.2.2.2.2.2 i = -1)) n ?_ ?_
    · rintro t L μ1 ht ⟨rfl, hf, ha⟩ hk
      have i1 : ¬ ((n : Int) ≤ (t : Int)) := by omega
      have e : μ1 136 t = V.2.2.2.2.2 t := by rw [hf 136 (by decide)]; exact (hC.2 t (by omega)).1
      have fin : ∀ y : Int, ((y = 1 ∧ V.2.2.2.2.2 t = -1) ∨ (y = 0 ∧ ¬ V.2.2.2.2.2 t = -1)) → Ex d 95 2 [vr 131, vi (n : Nat), vi ((t + 1 : Nat) : Int)] [] θ (us μ1 137 (zup (μ1 137) t y)) Q := by
        intro y hy
        apply hk
        refine ⟨rfl, Fr.us (by decide) hf, ?_⟩
        intro i hi
        rw [us_same, zup_ap]
        by_cases h1 : i = t
        · rw [if_pos h1, h1]; exact hy
        · rw [if_neg h1]; exact ha i (by omega)
      rw [x95_2]
      by_cases hm : V.2.2.2.2.2 t = -1
      · simp (disch := omega) only [x95_0, x95_1, x95_3, x95_4, x95_7, x95_8, x95_11, x95_12, x95_13, x95_16, x95_17, x95_18, x95_19, x95_22, x95_23, x95_26, x95_27, x95_28, x95_31, x95_34, x95_35, x95_37, x95_38, x95_41, x95_42, x95_45, x95_46, x95_47, x95_48, x95_51, x95_52, x95_55, x95_56, x95_59, x95_60, x95_61, x95_62, x95_63, x95_66, x95_69, ↓reduceIte, Bool.false_eq_true, Nat.reduceAdd, Nat.reduceLT, Nat.reduceLeDiff, Nat.reduceSub, Nat.reduceEqDiff, Int.reduceToNat, Int.reduceEq, Int.reduceLT, Int.reduceLE, Int.reduceAdd, Int.reduceSub, zg, zI, zJ, zR, zst, zkl, zn, zcat, zok, zraw, List.length_cons, List.length_nil, Option.toList, List.nil_append, List.cons_append, true_and, and_true, if_true, if_false, ne_eq, not_true, not_false_eq_true, and_self, true_or, or_true, false_or, or_false, false_and, and_false, b_2 hc, b_3 hc, b_9 hc, b_12 hc, b_26 hc, b_40 hc, b_46 hc, b_47 hc, b_60 hc, b_62 hc, b_63 hc, b_76 hc, b_77 hc, b_90 hc, b_91 hc, b_104 hc, b_107 hc, b_114 hc, b_115 hc, b_122 hc, b_123 hc, b_131 hc, b_131 hc, r_131_7 hc, x_132 hc, r_131_8 hc, x_133 hc, r_131_9 hc, x_134 hc, r_131_10 hc, x_135 hc, r_131_11 hc, x_136 hc, r_131_12 hc, x_137 hc, i1, e, hm, Int.toNat_natCast, w32_s, ua_eq]
        exact fin 1 (Or.inl ⟨rfl, hm⟩)
      · simp (disch := omega) only [x95_0, x95_1, x95_3, x95_4, x95_7, x95_8, x95_11, x95_12, x95_13, x95_16, x95_17, x95_18, x95_19, x95_22, x95_23, x95_26, x95_27, x95_28, x95_31, x95_34, x95_35, x95_37, x95_38, x95_41, x95_42, x95_45, x95_46, x95_47, x95_48, x95_51, x95_52, x95_55, x95_56, x95_59, x95_60, x95_61, x95_62, x95_63, x95_66, x95_69, ↓reduceIte, Bool.false_eq_true, Nat.reduceAdd, Nat.reduceLT, Nat.reduceLeDiff, Nat.reduceSub, Nat.reduceEqDiff, Int.reduceToNat, Int.reduceEq, Int.reduceLT, Int.reduceLE, Int.reduceAdd, Int.reduceSub, zg, zI, zJ, zR, zst, zkl, zn, zcat, zok, zraw, List.length_cons, List.length_nil, Option.toList, List.nil_append, List.cons_append, true_and, and_true, if_true, if_false, ne_eq, not_true, not_false_eq_true, and_self, true_or, or_true, false_or, or_false, false_and, and_false, b_2 hc, b_3 hc, b_9 hc, b_12 hc, b_26 hc, b_40 hc, b_46 hc, b_47 hc, b_60 hc, b_62 hc, b_63 hc, b_76 hc, b_77 hc, b_90 hc, b_91 hc, b_104 hc, b_107 hc, b_114 hc, b_115 hc, b_122 hc, b_123 hc, b_131 hc, b_131 hc, r_131_7 hc, x_132 hc, r_131_8 hc, x_133 hc, r_131_9 hc, x_134 hc, r_131_10 hc, x_135 hc, r_131_11 hc, x_136 hc, r_131_12 hc, x_137 hc, i1, e, hm, Int.toNat_natCast, w32_s, ua_eq]
        exact fin 0 (Or.inr ⟨rfl, hm⟩)
    · rintro L μ1 ⟨rfl, hf, ha⟩
      rw [x95_2]
      simp (disch := omega) only [x95_0, x95_1, x95_3, x95_4, x95_7, x95_8, x95_11, x95_12, x95_13, x95_16, x95_17, x95_18, x95_19, x95_22, x95_23, x95_26, x95_27, x95_28, x95_31, x95_34, x95_35, x95_37, x95_38, x95_41, x95_42, x95_45, x95_46, x95_47, x95_48, x95_51, x95_52, x95_55, x95_56, x95_59, x95_60, x95_61, x95_62, x95_63, x95_66, x95_69, ↓reduceIte, Bool.false_eq_true, Nat.reduceAdd, Nat.reduceLT, Nat.reduceLeDiff, Nat.reduceSub, Nat.reduceEqDiff, Int.reduceToNat, Int.reduceEq, Int.reduceLT, Int.reduceLE, Int.reduceAdd, Int.reduceSub, zg, zI, zJ, zR, zst, zkl, zn, zcat, zok, zraw, List.length_cons, List.length_nil, Option.toList, List.nil_append, List.cons_append, true_and, and_true, if_true, if_false, ne_eq, not_true, not_false_eq_true, and_self, true_or, or_true, false_or, or_false, false_and, and_false, b_2 hc, b_3 hc, b_9 hc, b_12 hc, b_26 hc, b_40 hc, b_46 hc, b_47 hc, b_60 hc, b_62 hc, b_63 hc, b_76 hc, b_77 hc, b_90 hc, b_91 hc, b_104 hc, b_107 hc, b_114 hc, b_115 hc, b_122 hc, b_123 hc, b_131 hc, Int.le_refl]
      refine loop2 0 _ μ1 (by omega) ⟨rfl, hf, ?_⟩
      intro i hi
      rcases ha i hi with ⟨h1, h2⟩ | ⟨h1, h2⟩
      · exact Or.inl ⟨h1, h2, fun j hj => absurd hj (by omega)⟩
      · exact Or.inr ⟨h1, fun hh => h2 hh.1⟩
  simp (disch := omega) only [x95_0, x95_1, x95_3, x95_4, x95_7, x95_8, x95_11, x95_12, x95_13, x95_16, x95_17, x95_18, x95_19, x95_22, x95_23, x95_26, x95_27, x95_28, x95_31, x95_34, x95_35, x95_37, x95_38, x95_41, x95_42, x95_45, x95_46, x95_47, x95_48, x95_51, x95_52, x95_55, x95_56, x95_59, x95_60, x95_61, x95_62, x95_63, x95_66, x95_69, ↓reduceIte, Bool.false_eq_true, Nat.reduceAdd, Nat.reduceLT, Nat.reduceLeDiff, Nat.reduceSub, Nat.reduceEqDiff, Int.reduceToNat, Int.reduceEq, Int.reduceLT, Int.reduceLE, Int.reduceAdd, Int.reduceSub, zg, zI, zJ, zR, zst, zkl, zn, zcat, zok, zraw, List.length_cons, List.length_nil, Option.toList, List.nil_append, List.cons_append, true_and, and_true, if_true, if_false, ne_eq, not_true, not_false_eq_true, and_self, true_or, or_true, false_or, or_false, false_and, and_false, b_2 hc, b_3 hc, b_9 hc, b_12 hc, b_26 hc, b_40 hc, b_46 hc, b_47 hc, b_60 hc, b_62 hc, b_63 hc, b_76 hc, b_77 hc, b_90 hc, b_91 hc, b_104 hc, b_107 hc, b_114 hc, b_115 hc, b_122 hc, b_123 hc, b_131 hc]
  exact loop1 0 _ μ (by omega) ⟨rfl, Fr.refl, fun i hi => absurd hi (by omega)⟩
theorem cTally {d n : Nat} {x c : Int} {x5 x6 x7 : zV} (h : CX θ T U τ μ) (hV : wfV V) (hC : CV V μ) (hd : 4 ≤ d) (hx : x = (n : Int)) (hn : n ≤ V.1)
    (hQ : ∀ μ', Fr [10, 11, 131, 137] μ μ' → μ' 131 0 = μ 131 0 → μ' 131 1 = vlO τ V n c 0 → μ' 131 2 = vlO τ V n c 1 → μ' 131 3 = vlO τ V n c 2 → μ' 131 4 = vlO τ V n c 3 → Q none θ μ') : Ex d 96 0 [vr 131, vi x, vi c, vr T, vr 9, x5, x6, x7] [] θ μ Q := by
  subst hx
  have hc := h.1.1
  have hT := h.1.2.1
  have hd0 : 0 < d := by omega
  have h60 := hV.1
  have key : ∀ t L μ1, t ≤ n → (∃ x6 x7, L = [vr 131, vi (n : Nat), vi c, vr T, vr 9, vi (t : Nat), x6, x7] ∧ Fr [10, 11, 131, 137] μ μ1 ∧ μ1 131 0 = μ 131 0 ∧ (∀ i, i < n → μ1 137 i = b2 (knO V n i)) ∧ μ1 131 1 = sm (vlF τ V n c 0) t ∧ μ1 131 2 = sm (vlF τ V n c 1) t ∧ μ1 131 3 = sm (vlF τ V n c 2) t ∧ μ1 131 4 = sm (vlF τ V n c 3) t) → Ex d 96 28 L [] θ μ1 Q := by
    refine Ex_loop (I := fun t L μ1 => ∃ x6 x7, L = [vr 131, vi (n : Nat), vi c, vr T, vr 9, vi (t : Nat), x6, x7] ∧ Fr [10, 11, 131, 137] μ μ1 ∧ μ1 131 0 = μ 131 0 ∧ (∀ i, i < n → μ1 137 i = b2 (knO V n i)) ∧ μ1 131 1 = sm (vlF τ V n c 0) t ∧ μ1 131 2 = sm (vlF τ V n c 1) t ∧ μ1 131 3 = sm (vlF τ V n c 2) t ∧ μ1 131 4 = sm (vlF τ V n c 3) t) n ?_ ?_
    · rintro t L μ1 ht ⟨x6, x7, rfl, hf, h0, hkn, e1, e2, e3, e4⟩ hk
      have i1 : ¬ ((n : Int) ≤ (t : Int)) := by omega
      have ek := hkn t ht
      have C1 : CV V μ1 := CV_fr hC hf (by decide) h0
      have X1 : CX θ T U τ μ1 := CX_fr h hf (by decide)
      have b0 := vl_b (τ := τ) (V := V) (n := n) (c := c) (what := 0) (m := t)
      have b1 := vl_b (τ := τ) (V := V) (n := n) (c := c) (what := 1) (m := t)
      have b2' := vl_b (τ := τ) (V := V) (n := n) (c := c) (what := 2) (m := t)
      have b3 := vl_b (τ := τ) (V := V) (n := n) (c := c) (what := 3) (m := t)
      rw [x96_28]
      by_cases hkt : knO V n t = true
      · have ek1 : μ1 137 t = 1 := by rw [ek, hkt]; rfl
        have hvt := (kn_iff.mp hkt).1
        obtain ⟨ev, eh⟩ := C1.2 t (by omega)
        obtain ⟨g1, g2, g3, g4⟩ := eh hvt
        have hst : ∀ what, sm (vlF τ V n c what) (t + 1) = sm (vlF τ V n c what) t + vtO τ V c what t := fun what => by simp only [sm]; congr 1; unfold vlF; rw [if_pos hkt]
        simp (disch := omega) only [x96_0, x96_1, x96_2, x96_5, x96_6, x96_7, x96_10, x96_11, x96_12, x96_15, x96_16, x96_17, x96_20, x96_21, x96_22, x96_25, x96_26, x96_30, x96_31, x96_34, x96_35, x96_38, x96_40, x96_41, x96_42, x96_45, x96_47, x96_48, x96_49, x96_52, x96_54, x96_55, x96_56, x96_59, x96_61, x96_62, x96_63, x96_66, x96_68, x96_69, x96_72, x96_74, x96_75, x96_78, x96_80, x96_81, x96_82, x96_85, x96_86, x96_89, x96_90, x96_92, x96_93, x96_94, x96_97, x96_98, x96_99, x96_102, x96_103, x96_104, x96_107, x96_109, x96_110, x96_113, x96_114, x96_115, x96_118, x96_120, x96_121, x96_124, x96_125, x96_126, x96_129, x96_131, x96_133, x96_134, x96_135, x96_138, x96_141, x96_144, ↓reduceIte, Bool.false_eq_true, Nat.reduceAdd, Nat.reduceLT, Nat.reduceLeDiff, Nat.reduceSub, Nat.reduceEqDiff, Int.reduceToNat, Int.reduceEq, Int.reduceLT, Int.reduceLE, Int.reduceAdd, Int.reduceSub, zg, zI, zJ, zR, zst, zkl, zn, zcat, zok, zraw, List.length_cons, List.length_nil, Option.toList, List.nil_append, List.cons_append, true_and, and_true, if_true, if_false, ne_eq, not_true, not_false_eq_true, and_self, true_or, or_true, false_or, or_false, false_and, and_false, b_2 hc, b_3 hc, b_9 hc, b_12 hc, b_26 hc, b_40 hc, b_46 hc, b_47 hc, b_60 hc, b_62 hc, b_63 hc, b_76 hc, b_77 hc, b_90 hc, b_91 hc, b_104 hc, b_107 hc, b_114 hc, b_115 hc, b_122 hc, b_123 hc, b_131 hc, b_131 hc, r_131_7 hc, x_132 hc, r_131_8 hc, x_133 hc, r_131_9 hc, x_134 hc, r_131_10 hc, x_135 hc, r_131_11 hc, x_136 hc, r_131_12 hc, x_137 hc, i1, ek1, g1, g2, g3, hd0, Int.toNat_natCast]
        refine cWarns (d := d - 1) X1 (by omega) ?_
        intro μ2 hf2
        have ew : b2 (holds τ 2 (wnV (V.2.1 t) (V.2.2.1 t) (V.2.2.2.1 t))) = waO τ V t := rfl
        rw [ew]
        have m135 : μ2 135 t = V.2.2.2.2.1 t := by rw [hf2 135 (by decide)]; exact g4
        have m131 : μ2 131 = μ1 131 := hf2 131 (by decide)
        have hwz := wa_z (τ := τ) (V := V) (i := t)
        have t0 : vtO τ V c 0 t = 1 := rfl
        have t1 : vtO τ V c 1 t = waO τ V t := rfl
        have t2 : vtO τ V c 2 t = huO V c t := rfl
        have t3 : vtO τ V c 3 t = if waO τ V t = 1 ∧ huO V c t = 1 then 1 else 0 := rfl
        have fin : ∀ (y : Int) μ3, y = huO V c t → Fr [131] μ2 μ3 → μ3 131 0 = μ1 131 0 → μ3 131 1 = sm (vlF τ V n c 0) t + 1 → μ3 131 2 = sm (vlF τ V n c 1) t + waO τ V t → μ3 131 3 = sm (vlF τ V n c 2) t + y → μ3 131 4 = sm (vlF τ V n c 3) t + zand (waO τ V t) y → Ex d 96 28 [vr 131, vi (n : Nat), vi c, vr T, vr 9, vi ((t + 1 : Nat) : Int), vi (waO τ V t), vi y] [] θ μ3 Q := by
          intro y μ3 hy hf3 f0 f1 f2 f3 f4
          apply hk
          refine ⟨_, _, rfl, hf.trans ((hf2.mono (by decide)).trans (hf3.mono (by decide))), by rw [f0, h0], ?_, ?_, ?_, ?_, ?_⟩
          · intro i hi; rw [hf3 137 (by decide), hf2 137 (by decide)]; exact hkn i hi
          · rw [hst, t0, f1]
          · rw [hst, t1, f2]
          · rw [hst, t2, f3, hy]
          · rw [hst, t3, f4, hy]
            have hz : zand (waO τ V t) (huO V c t) = if waO τ V t = 1 ∧ huO V c t = 1 then 1 else 0 := by
              rcases hwz with a | a <;> rcases hu_z (V := V) (c := c) (i := t) with b | b <;> rw [a, b] <;> decide +kernel
            rw [hz]
        generalize waO τ V t = wa at *
        by_cases hcc : c ≤ V.2.2.2.2.1 t
        · have hcn : ¬ V.2.2.2.2.1 t < c := by omega
          have hu1 : huO V c t = 1 := by unfold huO; rw [if_pos hcc]
          have z1 : zand wa 1 = wa := by rcases hwz with a | a <;> rw [a] <;> decide +kernel
          have a1 : w32 (sm (vlF τ V n c 0) t + 1) = sm (vlF τ V n c 0) t + 1 := w32_i (by omega) (by omega)
          have a2 : w32 (sm (vlF τ V n c 1) t + wa) = sm (vlF τ V n c 1) t + wa := w32_i (by omega) (by omega)
          have a3 : w32 (sm (vlF τ V n c 2) t + 1) = sm (vlF τ V n c 2) t + 1 := w32_i (by omega) (by omega)
          have a4 : w32 (sm (vlF τ V n c 3) t + wa) = sm (vlF τ V n c 3) t + wa := w32_i (by omega) (by omega)
          simp (disch := omega) only [x96_0, x96_1, x96_2, x96_5, x96_6, x96_7, x96_10, x96_11, x96_12, x96_15, x96_16, x96_17, x96_20, x96_21, x96_22, x96_25, x96_26, x96_30, x96_31, x96_34, x96_35, x96_38, x96_40, x96_41, x96_42, x96_45, x96_47, x96_48, x96_49, x96_52, x96_54, x96_55, x96_56, x96_59, x96_61, x96_62, x96_63, x96_66, x96_68, x96_69, x96_72, x96_74, x96_75, x96_78, x96_80, x96_81, x96_82, x96_85, x96_86, x96_89, x96_90, x96_92, x96_93, x96_94, x96_97, x96_98, x96_99, x96_102, x96_103, x96_104, x96_107, x96_109, x96_110, x96_113, x96_114, x96_115, x96_118, x96_120, x96_121, x96_124, x96_125, x96_126, x96_129, x96_131, x96_133, x96_134, x96_135, x96_138, x96_141, x96_144, ↓reduceIte, Bool.false_eq_true, Nat.reduceAdd, Nat.reduceLT, Nat.reduceLeDiff, Nat.reduceSub, Nat.reduceEqDiff, Int.reduceToNat, Int.reduceEq, Int.reduceLT, Int.reduceLE, Int.reduceAdd, Int.reduceSub, zg, zI, zJ, zR, zst, zkl, zn, zcat, zok, zraw, List.length_cons, List.length_nil, Option.toList, List.nil_append, List.cons_append, true_and, and_true, if_true, if_false, ne_eq, not_true, not_false_eq_true, and_self, true_or, or_true, false_or, or_false, false_and, and_false, b_2 hc, b_3 hc, b_9 hc, b_12 hc, b_26 hc, b_40 hc, b_46 hc, b_47 hc, b_60 hc, b_62 hc, b_63 hc, b_76 hc, b_77 hc, b_90 hc, b_91 hc, b_104 hc, b_107 hc, b_114 hc, b_115 hc, b_122 hc, b_123 hc, b_131 hc, b_131 hc, r_131_7 hc, x_132 hc, r_131_8 hc, x_133 hc, r_131_9 hc, x_134 hc, r_131_10 hc, x_135 hc, r_131_11 hc, x_136 hc, r_131_12 hc, x_137 hc, m135, m131, hcn, e1, e2, e3, e4, ua_eq, us_same, us_us, zup_ne, z1, a1, a2, a3, a4, Int.toNat_natCast, w32_s]
          refine fin 1 _ hu1.symm (Fr.us (by decide) Fr.refl) ?_ ?_ ?_ ?_ ?_
          · simp (disch := decide) only [us_same, zup_ne]
          · simp (disch := decide) only [us_same, zup_ne, zup_same]
          · simp (disch := decide) only [us_same, zup_ne, zup_same]
          · simp (disch := decide) only [us_same, zup_ne, zup_same]
          · simp (disch := decide) only [us_same, zup_ne, zup_same, z1]
        · have hcn : V.2.2.2.2.1 t < c := by omega
          have hu1 : huO V c t = 0 := by unfold huO; rw [if_neg hcc]
          have z1 : zand wa 0 = 0 := by rcases hwz with a | a <;> rw [a] <;> decide +kernel
          have a1 : w32 (sm (vlF τ V n c 0) t + 1) = sm (vlF τ V n c 0) t + 1 := w32_i (by omega) (by omega)
          have a2 : w32 (sm (vlF τ V n c 1) t + wa) = sm (vlF τ V n c 1) t + wa := w32_i (by omega) (by omega)
          have a3 : w32 (sm (vlF τ V n c 2) t + 0) = sm (vlF τ V n c 2) t + 0 := w32_i (by omega) (by omega)
          have a4 : w32 (sm (vlF τ V n c 3) t + 0) = sm (vlF τ V n c 3) t + 0 := w32_i (by omega) (by omega)
          simp (disch := omega) only [x96_0, x96_1, x96_2, x96_5, x96_6, x96_7, x96_10, x96_11, x96_12, x96_15, x96_16, x96_17, x96_20, x96_21, x96_22, x96_25, x96_26, x96_30, x96_31, x96_34, x96_35, x96_38, x96_40, x96_41, x96_42, x96_45, x96_47, x96_48, x96_49, x96_52, x96_54, x96_55, x96_56, x96_59, x96_61, x96_62, x96_63, x96_66, x96_68, x96_69, x96_72, x96_74, x96_75, x96_78, x96_80, x96_81, x96_82, x96_85, x96_86, x96_89, x96_90, x96_92, x96_93, x96_94, x96_97, x96_98, x96_99, x96_102, x96_103, x96_104, x96_107, x96_109, x96_110, x96_113, x96_114, x96_115, x96_118, x96_120, x96_121, x96_124, x96_125, x96_126, x96_129, x96_131, x96_133, x96_134, x96_135, x96_138, x96_141, x96_144, ↓reduceIte, Bool.false_eq_true, Nat.reduceAdd, Nat.reduceLT, Nat.reduceLeDiff, Nat.reduceSub, Nat.reduceEqDiff, Int.reduceToNat, Int.reduceEq, Int.reduceLT, Int.reduceLE, Int.reduceAdd, Int.reduceSub, zg, zI, zJ, zR, zst, zkl, zn, zcat, zok, zraw, List.length_cons, List.length_nil, Option.toList, List.nil_append, List.cons_append, true_and, and_true, if_true, if_false, ne_eq, not_true, not_false_eq_true, and_self, true_or, or_true, false_or, or_false, false_and, and_false, b_2 hc, b_3 hc, b_9 hc, b_12 hc, b_26 hc, b_40 hc, b_46 hc, b_47 hc, b_60 hc, b_62 hc, b_63 hc, b_76 hc, b_77 hc, b_90 hc, b_91 hc, b_104 hc, b_107 hc, b_114 hc, b_115 hc, b_122 hc, b_123 hc, b_131 hc, b_131 hc, r_131_7 hc, x_132 hc, r_131_8 hc, x_133 hc, r_131_9 hc, x_134 hc, r_131_10 hc, x_135 hc, r_131_11 hc, x_136 hc, r_131_12 hc, x_137 hc, m135, m131, hcn, e1, e2, e3, e4, ua_eq, us_same, us_us, zup_ne, z1, a1, a2, a3, a4, Int.toNat_natCast, w32_s]
          refine fin 0 _ hu1.symm (Fr.us (by decide) Fr.refl) ?_ ?_ ?_ ?_ ?_
          · simp (disch := decide) only [us_same, zup_ne]
          · simp (disch := decide) only [us_same, zup_ne, zup_same]
          · simp (disch := decide) only [us_same, zup_ne, zup_same]
          · simp (disch := decide) only [us_same, zup_ne, zup_same]
          · simp (disch := decide) only [us_same, zup_ne, zup_same, z1]
      · have ek0 : μ1 137 t = 0 := by
          rw [ek]
          cases hk0 : knO V n t with
          | true => exact absurd hk0 hkt
          | false => rfl
        have hst : ∀ what, sm (vlF τ V n c what) (t + 1) = sm (vlF τ V n c what) t := fun what => by
          simp only [sm]
          have : vlF τ V n c what t = 0 := by unfold vlF; rw [if_neg hkt]
          rw [this]; omega
        simp (disch := omega) only [x96_0, x96_1, x96_2, x96_5, x96_6, x96_7, x96_10, x96_11, x96_12, x96_15, x96_16, x96_17, x96_20, x96_21, x96_22, x96_25, x96_26, x96_30, x96_31, x96_34, x96_35, x96_38, x96_40, x96_41, x96_42, x96_45, x96_47, x96_48, x96_49, x96_52, x96_54, x96_55, x96_56, x96_59, x96_61, x96_62, x96_63, x96_66, x96_68, x96_69, x96_72, x96_74, x96_75, x96_78, x96_80, x96_81, x96_82, x96_85, x96_86, x96_89, x96_90, x96_92, x96_93, x96_94, x96_97, x96_98, x96_99, x96_102, x96_103, x96_104, x96_107, x96_109, x96_110, x96_113, x96_114, x96_115, x96_118, x96_120, x96_121, x96_124, x96_125, x96_126, x96_129, x96_131, x96_133, x96_134, x96_135, x96_138, x96_141, x96_144, ↓reduceIte, Bool.false_eq_true, Nat.reduceAdd, Nat.reduceLT, Nat.reduceLeDiff, Nat.reduceSub, Nat.reduceEqDiff, Int.reduceToNat, Int.reduceEq, Int.reduceLT, Int.reduceLE, Int.reduceAdd, Int.reduceSub, zg, zI, zJ, zR, zst, zkl, zn, zcat, zok, zraw, List.length_cons, List.length_nil, Option.toList, List.nil_append, List.cons_append, true_and, and_true, if_true, if_false, ne_eq, not_true, not_false_eq_true, and_self, true_or, or_true, false_or, or_false, false_and, and_false, b_2 hc, b_3 hc, b_9 hc, b_12 hc, b_26 hc, b_40 hc, b_46 hc, b_47 hc, b_60 hc, b_62 hc, b_63 hc, b_76 hc, b_77 hc, b_90 hc, b_91 hc, b_104 hc, b_107 hc, b_114 hc, b_115 hc, b_122 hc, b_123 hc, b_131 hc, b_131 hc, r_131_7 hc, x_132 hc, r_131_8 hc, x_133 hc, r_131_9 hc, x_134 hc, r_131_10 hc, x_135 hc, r_131_11 hc, x_136 hc, r_131_12 hc, x_137 hc, i1, ek0, hd0, Int.toNat_natCast, w32_s]
        apply hk
        exact ⟨_, _, rfl, hf, h0, hkn, by rw [hst]; exact e1, by rw [hst]; exact e2, by rw [hst]; exact e3, by rw [hst]; exact e4⟩
    · rintro L μ1 ⟨x6, x7, rfl, hf, h0, hkn, e1, e2, e3, e4⟩
      rw [x96_28]
      simp (disch := omega) only [x96_0, x96_1, x96_2, x96_5, x96_6, x96_7, x96_10, x96_11, x96_12, x96_15, x96_16, x96_17, x96_20, x96_21, x96_22, x96_25, x96_26, x96_30, x96_31, x96_34, x96_35, x96_38, x96_40, x96_41, x96_42, x96_45, x96_47, x96_48, x96_49, x96_52, x96_54, x96_55, x96_56, x96_59, x96_61, x96_62, x96_63, x96_66, x96_68, x96_69, x96_72, x96_74, x96_75, x96_78, x96_80, x96_81, x96_82, x96_85, x96_86, x96_89, x96_90, x96_92, x96_93, x96_94, x96_97, x96_98, x96_99, x96_102, x96_103, x96_104, x96_107, x96_109, x96_110, x96_113, x96_114, x96_115, x96_118, x96_120, x96_121, x96_124, x96_125, x96_126, x96_129, x96_131, x96_133, x96_134, x96_135, x96_138, x96_141, x96_144, ↓reduceIte, Bool.false_eq_true, Nat.reduceAdd, Nat.reduceLT, Nat.reduceLeDiff, Nat.reduceSub, Nat.reduceEqDiff, Int.reduceToNat, Int.reduceEq, Int.reduceLT, Int.reduceLE, Int.reduceAdd, Int.reduceSub, zg, zI, zJ, zR, zst, zkl, zn, zcat, zok, zraw, List.length_cons, List.length_nil, Option.toList, List.nil_append, List.cons_append, true_and, and_true, if_true, if_false, ne_eq, not_true, not_false_eq_true, and_self, true_or, or_true, false_or, or_false, false_and, and_false, b_2 hc, b_3 hc, b_9 hc, b_12 hc, b_26 hc, b_40 hc, b_46 hc, b_47 hc, b_60 hc, b_62 hc, b_63 hc, b_76 hc, b_77 hc, b_90 hc, b_91 hc, b_104 hc, b_107 hc, b_114 hc, b_115 hc, b_122 hc, b_123 hc, b_131 hc, Int.le_refl]
      exact hQ μ1 hf h0 e1 e2 e3 e4
  simp (disch := omega) only [x96_0, x96_1, x96_2, x96_5, x96_6, x96_7, x96_10, x96_11, x96_12, x96_15, x96_16, x96_17, x96_20, x96_21, x96_22, x96_25, x96_26, x96_30, x96_31, x96_34, x96_35, x96_38, x96_40, x96_41, x96_42, x96_45, x96_47, x96_48, x96_49, x96_52, x96_54, x96_55, x96_56, x96_59, x96_61, x96_62, x96_63, x96_66, x96_68, x96_69, x96_72, x96_74, x96_75, x96_78, x96_80, x96_81, x96_82, x96_85, x96_86, x96_89, x96_90, x96_92, x96_93, x96_94, x96_97, x96_98, x96_99, x96_102, x96_103, x96_104, x96_107, x96_109, x96_110, x96_113, x96_114, x96_115, x96_118, x96_120, x96_121, x96_124, x96_125, x96_126, x96_129, x96_131, x96_133, x96_134, x96_135, x96_138, x96_141, x96_144, ↓reduceIte, Bool.false_eq_true, Nat.reduceAdd, Nat.reduceLT, Nat.reduceLeDiff, Nat.reduceSub, Nat.reduceEqDiff, Int.reduceToNat, Int.reduceEq, Int.reduceLT, Int.reduceLE, Int.reduceAdd, Int.reduceSub, zg, zI, zJ, zR, zst, zkl, zn, zcat, zok, zraw, List.length_cons, List.length_nil, Option.toList, List.nil_append, List.cons_append, true_and, and_true, if_true, if_false, ne_eq, not_true, not_false_eq_true, and_self, true_or, or_true, false_or, or_false, false_and, and_false, b_2 hc, b_3 hc, b_9 hc, b_12 hc, b_26 hc, b_40 hc, b_46 hc, b_47 hc, b_60 hc, b_62 hc, b_63 hc, b_76 hc, b_77 hc, b_90 hc, b_91 hc, b_104 hc, b_107 hc, b_114 hc, b_115 hc, b_122 hc, b_123 hc, b_131 hc, hd0]
  refine cKnow (d := d - 1) hc hV hC rfl hn ?_
  intro μ1 hf1 hkn
  have k1 : μ1 131 = μ 131 := hf1 131 (by decide)
  simp (disch := omega) only [x96_0, x96_1, x96_2, x96_5, x96_6, x96_7, x96_10, x96_11, x96_12, x96_15, x96_16, x96_17, x96_20, x96_21, x96_22, x96_25, x96_26, x96_30, x96_31, x96_34, x96_35, x96_38, x96_40, x96_41, x96_42, x96_45, x96_47, x96_48, x96_49, x96_52, x96_54, x96_55, x96_56, x96_59, x96_61, x96_62, x96_63, x96_66, x96_68, x96_69, x96_72, x96_74, x96_75, x96_78, x96_80, x96_81, x96_82, x96_85, x96_86, x96_89, x96_90, x96_92, x96_93, x96_94, x96_97, x96_98, x96_99, x96_102, x96_103, x96_104, x96_107, x96_109, x96_110, x96_113, x96_114, x96_115, x96_118, x96_120, x96_121, x96_124, x96_125, x96_126, x96_129, x96_131, x96_133, x96_134, x96_135, x96_138, x96_141, x96_144, ↓reduceIte, Bool.false_eq_true, Nat.reduceAdd, Nat.reduceLT, Nat.reduceLeDiff, Nat.reduceSub, Nat.reduceEqDiff, Int.reduceToNat, Int.reduceEq, Int.reduceLT, Int.reduceLE, Int.reduceAdd, Int.reduceSub, zg, zI, zJ, zR, zst, zkl, zn, zcat, zok, zraw, List.length_cons, List.length_nil, Option.toList, List.nil_append, List.cons_append, true_and, and_true, if_true, if_false, ne_eq, not_true, not_false_eq_true, and_self, true_or, or_true, false_or, or_false, false_and, and_false, b_2 hc, b_3 hc, b_9 hc, b_12 hc, b_26 hc, b_40 hc, b_46 hc, b_47 hc, b_60 hc, b_62 hc, b_63 hc, b_76 hc, b_77 hc, b_90 hc, b_91 hc, b_104 hc, b_107 hc, b_114 hc, b_115 hc, b_122 hc, b_123 hc, b_131 hc, ua_eq, us_same, us_us]
  refine key 0 _ _ (by omega) ⟨_, _, rfl, Fr.us (by decide) (hf1.mono (by decide)), ?_, ?_, ?_, ?_, ?_, ?_⟩
  · rw [us_same, zup_ne (by decide), zup_ne (by decide), zup_ne (by decide), zup_ne (by decide), k1]
  · intro i hi; rw [us_ne (by decide)]; exact hkn i hi
  · rw [us_same, zup_ne (by decide), zup_ne (by decide), zup_ne (by decide), zup_same rfl]; rfl
  · rw [us_same, zup_ne (by decide), zup_ne (by decide), zup_same rfl]; rfl
  · rw [us_same, zup_ne (by decide), zup_same rfl]; rfl
  · rw [us_same, zup_same rfl]; rfl
end VI
