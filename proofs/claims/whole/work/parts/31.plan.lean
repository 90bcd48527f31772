/-! GUSTS told ahead, HARM; DOORS -/
theorem rf47 : rfs 47 := Or.inl rfl
theorem rf107 : rfs 107 := by unfold rfs; omega
theorem rf115 : rfs 115 := by unfold rfs; omega
theorem rf123 : rfs 123 := by unfold rfs; omega
abbrev zU : Type := Nat × (Nat → Int) × (Nat → Int) × (Nat → Int)
def wfU (G : zU) : Prop := G.1 ≤ 4 ∧ ∀ k, k < G.1 → (0 ≤ G.2.1 k ∧ G.2.1 k ≤ 99) ∧ (0 ≤ G.2.2.1 k ∧ G.2.2.1 k ≤ 3) ∧ 1 ≤ G.2.2.2 k ∧ G.2.2.2 k ≤ 9
def faO (τ : zT) (ρ : zF) (g w : Int) : Int := (foO τ ρ g w (gnO τ ρ) : Nat)
def haF (τ : zT) (ρ : zF) (G : zU) : Nat → Int := fun k => G.2.2.2 k * faO τ ρ (G.2.1 k) (G.2.2.1 k)
def haO (τ : zT) (ρ : zF) (G : zU) : Int := sm (haF τ ρ G) G.1
/-- the class's scene s: the GUSTS told ahead -/
def CU (G : zU) (s : Nat) (μ : zM) : Prop := μ s 8 = (G.1 : Nat) ∧ ∀ k, k < G.1 → μ (s + 11) k = G.2.1 k ∧ μ (s + 12) k = G.2.2.1 k ∧ μ (s + 13) k = G.2.2.2 k
theorem fa_b {τ : zT} (hw : wfT τ) (ρ : zF) (g w : Int) : 0 ≤ faO τ ρ g w ∧ faO τ ρ g w ≤ 36 := by
  have h1 := tn_b hw
  have := fo_b (ρ := ρ) (g := g) (w := w) h1.2 (gn_z τ ρ)
  unfold faO; omega
theorem ha_t {τ : zT} (hw : wfT τ) (ρ : zF) {G : zU} (hG : wfU G) {k : Nat} (hk : k < G.1) : 0 ≤ haF τ ρ G k ∧ haF τ ρ G k ≤ 324 := by
  have h1 := fa_b hw ρ (G.2.1 k) (G.2.2.1 k)
  have h2 := (hG.2 k hk).2.2
  unfold haF
  generalize faO τ ρ (G.2.1 k) (G.2.2.1 k) = x at *
  generalize G.2.2.2 k = y at *
  refine ⟨Int.mul_nonneg (by omega) h1.1, ?_⟩
  have := Int.mul_le_mul h2.2 h1.2 h1.1 (by omega)
  omega
theorem ha_b {τ : zT} (hw : wfT τ) (ρ : zF) {G : zU} (hG : wfU G) {n : Nat} (hn : n ≤ G.1) : 0 ≤ sm (haF τ ρ G) n ∧ sm (haF τ ρ G) n ≤ 324 * n := by
  exact ⟨sm_nn (fun i hi => (ha_t hw ρ hG (by omega)).1), sm_le (fun i hi => (ha_t hw ρ hG (by omega)).2)⟩
theorem sm_mono {f : Nat → Int} {n m : Nat} (hnm : n ≤ m) (h : ∀ i, i < m → 0 ≤ f i) : sm f n ≤ sm f m := by
  induction m with
  | zero => have : n = 0 := by omega
            subst this; exact Int.le_refl _
  | succ m ih =>
    by_cases hc : n = m + 1
    · subst hc; exact Int.le_refl _
    · have h1 := ih (by omega) (fun i hi => h i (by omega))
      have h2 := h m (by omega)
      simp only [sm]; omega
section PL
variable {θ : zS} {T U : Nat} {τ : zT} {Q : Option zV → zS → zM → Prop} {μ : zM} {ρ : zF} {G : zU}
theorem CU_fr {s : Nat} {μ μ' : zM} {A : List Nat} (h : CU G s μ) (hf : Fr A μ μ') (hA : s ∉ A ∧ s + 11 ∉ A ∧ s + 12 ∉ A ∧ s + 13 ∉ A) : CU G s μ' := by
  unfold CU; rw [hf s hA.1, hf _ hA.2.1, hf _ hA.2.2.1, hf _ hA.2.2.2]; exact h
theorem cHarm {d r : Nat} {e : Int} {x3 x4 : zV} (h : CX θ T U τ μ) (hF : CF τ ρ r μ) (hG : wfU G) (hU : CU G 46 μ) (hd : 4 ≤ d)
    (hQ : ∀ μ' y, Fr GA μ μ' → (haO τ ρ G < e → y = haO τ ρ G) → (e ≤ haO τ ρ G → e ≤ y) → Q (some (vi y)) θ μ') : Ex d 28 0 [vr 104, vr r, vi e, x3, x4] [] θ μ Q := by
  have hc := h.1.1
  have hw := h.2.1
  have hd0 : 0 < d := by omega
  have hb := fun n hn => ha_b (n := n) hw ρ hG hn
  have key : ∀ t L μ1, t ≤ G.1 → (L = [vr 104, vr r, vi e, vi (sm (haF τ ρ G) t), vi (t : Nat)] ∧ Fr GA μ μ1) → Ex d 28 5 L [] θ μ1 Q := by
    refine Ex_loop (I := fun t L μ1 => L = [vr 104, vr r, vi e, vi (sm (haF τ ρ G) t), vi (t : Nat)] ∧ Fr GA μ μ1) G.1 ?_ ?_
    · rintro t L μ1 ht ⟨rfl, hf⟩ hk
      have U1 := CU_fr hU hf (by decide)
      have i1 : ¬ ((G.1 : Int) ≤ (t : Int)) := by omega
      have ge := U1.2 t ht
      simp only [Nat.reduceAdd] at ge
      have hgt := hG.2 t ht
      have hb1 := hb t (by omega)
      have hb2 := hb (t + 1) (by omega)
      have ht4 := hG.1
      rw [x28_5]
      by_cases hlt : e ≤ sm (haF τ ρ G) t
      · simp (disch := omega) only [x28_0, x28_1, x28_2, x28_3, x28_7, x28_8, x28_11, x28_14, x28_17, x28_18, x28_19, x28_22, x28_23, x28_26, x28_27, x28_28, x28_31, x28_34, x28_36, x28_37, x28_38, x28_41, x28_44, x28_46, x28_47, x28_48, x28_51, x28_52, x28_53, x28_56, x28_59, x28_61, x28_62, x28_63, x28_66, x28_69, x28_70, x28_71, x28_72, x28_75, x28_78, x28_79, ↓reduceIte, Bool.false_eq_true, Nat.reduceAdd, Nat.reduceLT, Nat.reduceLeDiff, Nat.reduceSub, Nat.reduceEqDiff, Int.reduceToNat, Int.reduceEq, Int.reduceLT, Int.reduceLE, Int.reduceAdd, Int.reduceSub, zg, zI, zJ, zR, zst, zkl, zn, zcat, zok, zraw, List.length_cons, List.length_nil, Option.toList, List.nil_append, List.cons_append, true_and, and_true, if_true, if_false, ne_eq, not_true, not_false_eq_true, and_self, true_or, or_true, false_or, or_false, false_and, and_false, b_2 hc, b_3 hc, b_9 hc, b_12 hc, b_26 hc, b_40 hc, b_46 hc, b_47 hc, b_60 hc, b_62 hc, b_63 hc, b_76 hc, b_77 hc, b_90 hc, b_91 hc, b_104 hc, b_107 hc, b_114 hc, b_115 hc, b_122 hc, b_123 hc, b_131 hc, b_104 hc, r_104_0 hc, x_105 hc, r_104_1 hc, x_106 hc, r_104_6 hc, r_104_7 hc, r_104_8 hc, b_46 hc, r_46_0 hc, r_46_1 hc, x_54 hc, r_46_2 hc, x_55 hc, r_46_3 hc, x_56 hc, r_46_4 hc, x_57 hc, r_46_5 hc, x_58 hc, r_46_6 hc, x_59 hc, U1.1, i1, hlt]
        have hm : sm (haF τ ρ G) t ≤ haO τ ρ G := sm_mono (by omega) (fun i hi => (ha_t hw ρ hG hi).1)
        refine hQ μ1 _ hf (fun h1 => absurd h1 (by omega)) (fun _ => hlt)
      · simp (disch := omega) only [x28_0, x28_1, x28_2, x28_3, x28_7, x28_8, x28_11, x28_14, x28_17, x28_18, x28_19, x28_22, x28_23, x28_26, x28_27, x28_28, x28_31, x28_34, x28_36, x28_37, x28_38, x28_41, x28_44, x28_46, x28_47, x28_48, x28_51, x28_52, x28_53, x28_56, x28_59, x28_61, x28_62, x28_63, x28_66, x28_69, x28_70, x28_71, x28_72, x28_75, x28_78, x28_79, ↓reduceIte, Bool.false_eq_true, Nat.reduceAdd, Nat.reduceLT, Nat.reduceLeDiff, Nat.reduceSub, Nat.reduceEqDiff, Int.reduceToNat, Int.reduceEq, Int.reduceLT, Int.reduceLE, Int.reduceAdd, Int.reduceSub, zg, zI, zJ, zR, zst, zkl, zn, zcat, zok, zraw, List.length_cons, List.length_nil, Option.toList, List.nil_append, List.cons_append, true_and, and_true, if_true, if_false, ne_eq, not_true, not_false_eq_true, and_self, true_or, or_true, false_or, or_false, false_and, and_false, b_2 hc, b_3 hc, b_9 hc, b_12 hc, b_26 hc, b_40 hc, b_46 hc, b_47 hc, b_60 hc, b_62 hc, b_63 hc, b_76 hc, b_77 hc, b_90 hc, b_91 hc, b_104 hc, b_107 hc, b_114 hc, b_115 hc, b_122 hc, b_123 hc, b_131 hc, b_104 hc, r_104_0 hc, x_105 hc, r_104_1 hc, x_106 hc, r_104_6 hc, r_104_7 hc, r_104_8 hc, b_46 hc, r_46_0 hc, r_46_1 hc, x_54 hc, r_46_2 hc, x_55 hc, r_46_3 hc, x_56 hc, r_46_4 hc, x_57 hc, r_46_5 hc, x_58 hc, r_46_6 hc, x_59 hc, U1.1, i1, hlt, ge.1, ge.2.1, Int.toNat_natCast, hd0]
        refine cRun (d := d - 1) (ρ := ρ) (CX_fr h hf (by decide)) (CF_fr hF hf (by decide)) (by omega) hgt.1 hgt.2.1 (Or.inl rfl) ?_
        intro μ2 hf2 hR
        have hf12 := hf.trans hf2
        have U2 := CU_fr hU hf12 (by decide)
        have ge2 := U2.2 t ht
        simp only [Nat.reduceAdd] at ge2
        have r3 : μ2 40 3 = faO τ ρ (G.2.1 t) (G.2.2.1 t) := hR.1
        have hht := ha_t hw ρ hG ht
        have e1 : G.2.2.2 t * faO τ ρ (G.2.1 t) (G.2.2.1 t) = haF τ ρ G t := rfl
        have a1 : w32 (haF τ ρ G t) = haF τ ρ G t := w32_i (by omega) (by omega)
        have a2 : w32 (sm (haF τ ρ G) t + haF τ ρ G t) = sm (haF τ ρ G) (t + 1) := by
          simp only [sm] at hb2
          exact w32_i (by omega) (by omega)
        simp (disch := omega) only [x28_0, x28_1, x28_2, x28_3, x28_7, x28_8, x28_11, x28_14, x28_17, x28_18, x28_19, x28_22, x28_23, x28_26, x28_27, x28_28, x28_31, x28_34, x28_36, x28_37, x28_38, x28_41, x28_44, x28_46, x28_47, x28_48, x28_51, x28_52, x28_53, x28_56, x28_59, x28_61, x28_62, x28_63, x28_66, x28_69, x28_70, x28_71, x28_72, x28_75, x28_78, x28_79, ↓reduceIte, Bool.false_eq_true, Nat.reduceAdd, Nat.reduceLT, Nat.reduceLeDiff, Nat.reduceSub, Nat.reduceEqDiff, Int.reduceToNat, Int.reduceEq, Int.reduceLT, Int.reduceLE, Int.reduceAdd, Int.reduceSub, zg, zI, zJ, zR, zst, zkl, zn, zcat, zok, zraw, List.length_cons, List.length_nil, Option.toList, List.nil_append, List.cons_append, true_and, and_true, if_true, if_false, ne_eq, not_true, not_false_eq_true, and_self, true_or, or_true, false_or, or_false, false_and, and_false, b_2 hc, b_3 hc, b_9 hc, b_12 hc, b_26 hc, b_40 hc, b_46 hc, b_47 hc, b_60 hc, b_62 hc, b_63 hc, b_76 hc, b_77 hc, b_90 hc, b_91 hc, b_104 hc, b_107 hc, b_114 hc, b_115 hc, b_122 hc, b_123 hc, b_131 hc, b_104 hc, r_104_0 hc, x_105 hc, r_104_1 hc, x_106 hc, r_104_6 hc, r_104_7 hc, r_104_8 hc, b_46 hc, r_46_0 hc, r_46_1 hc, x_54 hc, r_46_2 hc, x_55 hc, r_46_3 hc, x_56 hc, r_46_4 hc, x_57 hc, r_46_5 hc, x_58 hc, r_46_6 hc, x_59 hc, b_40 hc, r_40_0 hc, x_41 hc, r_40_1 hc, x_42 hc, r_40_2 hc, x_43 hc, r_40_9 hc, r_40_10 hc, x_44 hc, r_40_11 hc, x_45 hc, ge2.2.2, r3, e1, a1, a2, Int.toNat_natCast, w32_s]
        exact hk _ μ2 ⟨rfl, hf12⟩
    · rintro L μ1 ⟨rfl, hf⟩
      have U1 := CU_fr hU hf (by decide)
      rw [x28_5]
      simp (disch := omega) only [x28_0, x28_1, x28_2, x28_3, x28_7, x28_8, x28_11, x28_14, x28_17, x28_18, x28_19, x28_22, x28_23, x28_26, x28_27, x28_28, x28_31, x28_34, x28_36, x28_37, x28_38, x28_41, x28_44, x28_46, x28_47, x28_48, x28_51, x28_52, x28_53, x28_56, x28_59, x28_61, x28_62, x28_63, x28_66, x28_69, x28_70, x28_71, x28_72, x28_75, x28_78, x28_79, ↓reduceIte, Bool.false_eq_true, Nat.reduceAdd, Nat.reduceLT, Nat.reduceLeDiff, Nat.reduceSub, Nat.reduceEqDiff, Int.reduceToNat, Int.reduceEq, Int.reduceLT, Int.reduceLE, Int.reduceAdd, Int.reduceSub, zg, zI, zJ, zR, zst, zkl, zn, zcat, zok, zraw, List.length_cons, List.length_nil, Option.toList, List.nil_append, List.cons_append, true_and, and_true, if_true, if_false, ne_eq, not_true, not_false_eq_true, and_self, true_or, or_true, false_or, or_false, false_and, and_false, b_2 hc, b_3 hc, b_9 hc, b_12 hc, b_26 hc, b_40 hc, b_46 hc, b_47 hc, b_60 hc, b_62 hc, b_63 hc, b_76 hc, b_77 hc, b_90 hc, b_91 hc, b_104 hc, b_107 hc, b_114 hc, b_115 hc, b_122 hc, b_123 hc, b_131 hc, b_104 hc, r_104_0 hc, x_105 hc, r_104_1 hc, x_106 hc, r_104_6 hc, r_104_7 hc, r_104_8 hc, b_46 hc, r_46_0 hc, r_46_1 hc, x_54 hc, r_46_2 hc, x_55 hc, r_46_3 hc, x_56 hc, r_46_4 hc, x_57 hc, r_46_5 hc, x_58 hc, r_46_6 hc, x_59 hc, U1.1, Int.le_refl]
      exact hQ μ1 _ hf (fun _ => rfl) (fun h1 => h1)
  simp (disch := omega) only [x28_0, x28_1, x28_2, x28_3, x28_7, x28_8, x28_11, x28_14, x28_17, x28_18, x28_19, x28_22, x28_23, x28_26, x28_27, x28_28, x28_31, x28_34, x28_36, x28_37, x28_38, x28_41, x28_44, x28_46, x28_47, x28_48, x28_51, x28_52, x28_53, x28_56, x28_59, x28_61, x28_62, x28_63, x28_66, x28_69, x28_70, x28_71, x28_72, x28_75, x28_78, x28_79, ↓reduceIte, Bool.false_eq_true, Nat.reduceAdd, Nat.reduceLT, Nat.reduceLeDiff, Nat.reduceSub, Nat.reduceEqDiff, Int.reduceToNat, Int.reduceEq, Int.reduceLT, Int.reduceLE, Int.reduceAdd, Int.reduceSub, zg, zI, zJ, zR, zst, zkl, zn, zcat, zok, zraw, List.length_cons, List.length_nil, Option.toList, List.nil_append, List.cons_append, true_and, and_true, if_true, if_false, ne_eq, not_true, not_false_eq_true, and_self, true_or, or_true, false_or, or_false, false_and, and_false, b_2 hc, b_3 hc, b_9 hc, b_12 hc, b_26 hc, b_40 hc, b_46 hc, b_47 hc, b_60 hc, b_62 hc, b_63 hc, b_76 hc, b_77 hc, b_90 hc, b_91 hc, b_104 hc, b_107 hc, b_114 hc, b_115 hc, b_122 hc, b_123 hc, b_131 hc]
  exact key 0 _ μ (by omega) ⟨rfl, Fr.refl⟩
theorem cFallen {d r : Nat} {g w : Int} (h : CX θ T U τ μ) (hF : CF τ ρ r μ) (hd : 4 ≤ d) (hg : 0 ≤ g ∧ g ≤ 99) (hwy : 0 ≤ w ∧ w ≤ 3)
    (hQ : ∀ μ', Fr GA μ μ' → Q (some (vi (faO τ ρ g w))) θ μ') : Ex d 29 0 [vr 104, vr r, vi g, vi w] [] θ μ Q := by
  have hc := h.1.1
  have hd0 : 0 < d := by omega
  simp (disch := omega) only [x29_0, x29_1, x29_4, x29_5, x29_6, x29_7, x29_8, x29_11, x29_12, x29_15, x29_18, ↓reduceIte, Bool.false_eq_true, Nat.reduceAdd, Nat.reduceLT, Nat.reduceLeDiff, Nat.reduceSub, Nat.reduceEqDiff, Int.reduceToNat, Int.reduceEq, Int.reduceLT, Int.reduceLE, Int.reduceAdd, Int.reduceSub, zg, zI, zJ, zR, zst, zkl, zn, zcat, zok, zraw, List.length_cons, List.length_nil, Option.toList, List.nil_append, List.cons_append, true_and, and_true, if_true, if_false, ne_eq, not_true, not_false_eq_true, and_self, true_or, or_true, false_or, or_false, false_and, and_false, b_2 hc, b_3 hc, b_9 hc, b_12 hc, b_26 hc, b_40 hc, b_46 hc, b_47 hc, b_60 hc, b_62 hc, b_63 hc, b_76 hc, b_77 hc, b_90 hc, b_91 hc, b_104 hc, b_107 hc, b_114 hc, b_115 hc, b_122 hc, b_123 hc, b_131 hc, b_104 hc, r_104_0 hc, x_105 hc, r_104_1 hc, x_106 hc, r_104_6 hc, r_104_7 hc, r_104_8 hc, hd0]
  refine cRun (d := d - 1) (ρ := ρ) h hF (by omega) hg hwy (Or.inl rfl) ?_
  intro μ1 hf hR
  have r3 : μ1 40 3 = faO τ ρ g w := hR.1
  simp (disch := omega) only [x29_0, x29_1, x29_4, x29_5, x29_6, x29_7, x29_8, x29_11, x29_12, x29_15, x29_18, ↓reduceIte, Bool.false_eq_true, Nat.reduceAdd, Nat.reduceLT, Nat.reduceLeDiff, Nat.reduceSub, Nat.reduceEqDiff, Int.reduceToNat, Int.reduceEq, Int.reduceLT, Int.reduceLE, Int.reduceAdd, Int.reduceSub, zg, zI, zJ, zR, zst, zkl, zn, zcat, zok, zraw, List.length_cons, List.length_nil, Option.toList, List.nil_append, List.cons_append, true_and, and_true, if_true, if_false, ne_eq, not_true, not_false_eq_true, and_self, true_or, or_true, false_or, or_false, false_and, and_false, b_2 hc, b_3 hc, b_9 hc, b_12 hc, b_26 hc, b_40 hc, b_46 hc, b_47 hc, b_60 hc, b_62 hc, b_63 hc, b_76 hc, b_77 hc, b_90 hc, b_91 hc, b_104 hc, b_107 hc, b_114 hc, b_115 hc, b_122 hc, b_123 hc, b_131 hc, b_104 hc, r_104_0 hc, x_105 hc, r_104_1 hc, x_106 hc, r_104_6 hc, r_104_7 hc, r_104_8 hc, b_40 hc, r_40_0 hc, x_41 hc, r_40_1 hc, x_42 hc, r_40_2 hc, x_43 hc, r_40_9 hc, r_40_10 hc, x_44 hc, r_40_11 hc, x_45 hc, r3]
  exact hQ μ1 hf
/-- a roof with these DOORS open (bits) -/
def doF (ρ : zF) (b : Int) : zF := (ρ.1, fun k => zand (zshr b k) 1, ρ.2.2)
theorem doF_w {b : Int} (h : wfF τ ρ) (hd : tD τ ≤ 6) (h0 : 0 ≤ b) (h1 : b ≤ 64) : wfF τ (doF ρ b) := by
  refine ⟨h.1, fun k hk => ?_, h.2.2⟩
  show zand (zshr b k) 1 = 0 ∨ zand (zshr b k) 1 = 1
  rw [zbit h0 (by omega) (by omega)]
  omega
def pcO (n : Nat) : Nat := n % 2 + n / 2 % 2 + n / 4 % 2 + n / 8 % 2 + n / 16 % 2 + n / 32 % 2
theorem eBit {d : Nat} {n : Nat} (hn : n < 64) : Ex d 292 0 [vi (n : Nat)] [] θ μ Q = Q (some (vi (pcO n : Nat))) θ μ := by
  simp only [x292_0, x292_1, x292_2, x292_3, x292_4, x292_7, x292_8, x292_9, x292_10, x292_11, x292_14, x292_15, x292_16, x292_17, x292_18, x292_21, x292_22, x292_23, x292_24, x292_25, x292_26, x292_27, x292_28, x292_29, x292_32, x292_33, x292_34, x292_35, x292_36, x292_38, x292_39, x292_40, x292_41, x292_42, x292_43, x292_45, x292_46, x292_47, x292_48, x292_49, x292_51, x292_52, ↓reduceIte, Bool.false_eq_true, Nat.reduceAdd, Nat.reduceLT, Nat.reduceLeDiff, Nat.reduceSub, Nat.reduceEqDiff, Int.reduceToNat, Int.reduceEq, Int.reduceLT, Int.reduceLE, Int.reduceAdd, Int.reduceSub, zg, zI, zJ, zR, zst, zkl, zn, zcat, zok, zraw, List.length_cons, List.length_nil, Option.toList, List.nil_append, List.cons_append, true_and, and_true, if_true, if_false, ne_eq, not_true, not_false_eq_true, and_self, true_or, or_true, false_or, or_false, false_and, and_false]
  congr 3
  exact (by decide +kernel : ∀ n : Fin 64, zand (w32 (w32 (zand (w32 (w32 (zand (w32 ((n.val : Int) - zand (zush n.val 1) 1431655765)) 858993459 + zand (zush (w32 ((n.val : Int) - zand (zush n.val 1) 1431655765)) 2) 858993459) + zush (w32 (zand (w32 ((n.val : Int) - zand (zush n.val 1) 1431655765)) 858993459 + zand (zush (w32 ((n.val : Int) - zand (zush n.val 1) 1431655765)) 2) 858993459)) 4)) 252645135 + zush (zand (w32 (w32 (zand (w32 ((n.val : Int) - zand (zush n.val 1) 1431655765)) 858993459 + zand (zush (w32 ((n.val : Int) - zand (zush n.val 1) 1431655765)) 2) 858993459) + zush (w32 (zand (w32 ((n.val : Int) - zand (zush n.val 1) 1431655765)) 858993459 + zand (zush (w32 ((n.val : Int) - zand (zush n.val 1) 1431655765)) 2) 858993459)) 4)) 252645135) 8) + zush (w32 (zand (w32 (w32 (zand (w32 ((n.val : Int) - zand (zush n.val 1) 1431655765)) 858993459 + zand (zush (w32 ((n.val : Int) - zand (zush n.val 1) 1431655765)) 2) 858993459) + zush (w32 (zand (w32 ((n.val : Int) - zand (zush n.val 1) 1431655765)) 858993459 + zand (zush (w32 ((n.val : Int) - zand (zush n.val 1) 1431655765)) 2) 858993459)) 4)) 252645135 + zush (zand (w32 (w32 (zand (w32 ((n.val : Int) - zand (zush n.val 1) 1431655765)) 858993459 + zand (zush (w32 ((n.val : Int) - zand (zush n.val 1) 1431655765)) 2) 858993459) + zush (w32 (zand (w32 ((n.val : Int) - zand (zush n.val 1) 1431655765)) 858993459 + zand (zush (w32 ((n.val : Int) - zand (zush n.val 1) 1431655765)) 2) 858993459)) 4)) 252645135) 8)) 16)) 63 = (pcO n.val : Nat)) ⟨n, hn⟩
/-- the DOORS as they are tried, bits by bits -/
def bdO (τ : zT) (ρ : zF) (g w : Int) : Nat → Nat × Int
  | 0 => (0, 100)
  | n + 1 => if faO τ (doF ρ (n : Nat)) g w < (bdO τ ρ g w n).2 ∨ faO τ (doF ρ (n : Nat)) g w = (bdO τ ρ g w n).2 ∧ pcO n < pcO (bdO τ ρ g w n).1 then (n, faO τ (doF ρ (n : Nat)) g w) else bdO τ ρ g w n
theorem bd_lt (τ : zT) (ρ : zF) (g w : Int) : ∀ n, 0 < n → (bdO τ ρ g w n).1 < n := by
  intro n
  induction n with
  | zero => intro h; omega
  | succ n ih =>
    intro _
    unfold bdO
    by_cases hc : faO τ (doF ρ (n : Nat)) g w < (bdO τ ρ g w n).2 ∨ faO τ (doF ρ (n : Nat)) g w = (bdO τ ρ g w n).2 ∧ pcO n < pcO (bdO τ ρ g w n).1
    · rw [if_pos hc]; exact Nat.lt_succ_self _
    · rw [if_neg hc]
      by_cases h0 : n = 0
      · subst h0; exact Nat.zero_lt_one
      · have := ih (by omega); omega
theorem zshl1 {n : Nat} (hn : n ≤ 6) : zshl 1 (n : Nat) = ((2 ^ n : Nat) : Int) := by
  have : n = 0 ∨ n = 1 ∨ n = 2 ∨ n = 3 ∨ n = 4 ∨ n = 5 ∨ n = 6 := by omega
  rcases this with rfl | rfl | rfl | rfl | rfl | rfl | rfl <;> decide +kernel
/-- a roof as copied, with other DOORS -/
theorem CF_do {r : Nat} {b : Int} {μ' : zM} (hrf : rfs r) (h : CF τ ρ r μ) (hd : tD τ ≤ 6) (h0 : 0 ≤ b) (h1 : b ≤ 64) (hf : Fr [r] μ μ') (e1 : μ' r 1 = μ r 1) (e2 : μ' r 2 = b) (e3 : μ' r 3 = μ r 3) : CF τ (doF ρ b) r μ' := by
  obtain ⟨_, hw, r1, r2, r3, r4⟩ := h
  refine ⟨hrf, doF_w hw hd h0 h1, by rw [e1]; exact r1, ?_, ?_, by rw [e3]; exact r4⟩
  · intro m t hm ht; rw [hf _ (by simp)]; exact r2 m t hm ht
  · intro k hk; rw [e2]; rfl
theorem cBest {d : Nat} {g w : Int} {x4 x5 x6 x7 x8 : zV} (h : CX θ T U τ μ) (hF : CF τ ρ 47 μ) (hd : 5 ≤ d) (hg : 0 ≤ g ∧ g ≤ 99) (hwy : 0 ≤ w ∧ w ≤ 3) {n : Int} (hn : n = (tD τ : Nat))
    (hQ : ∀ μ', Fr (GA ++ [107, 109, 110, 111, 112, 113]) μ μ' → Q (some (vi ((bdO τ ρ g w (2 ^ tD τ)).1 : Nat))) θ μ') : Ex d 30 0 [vr 104, vi g, vi w, vi n, x4, x5, x6, x7, x8] [] θ μ Q := by
  subst hn
  have hc := h.1.1
  have hw := h.2.1
  have hd0 : 0 < d := by omega
  have hd6 := hw.2.2.2.2.1
  have hwF := hF.2.1
  have hn36 := tn_b hw
  have hp : 2 ^ tD τ ≤ 64 := Nat.pow_le_pow_right (by decide) hd6
  have hp1 : 1 ≤ 2 ^ tD τ := Nat.one_le_two_pow
  have hsh := zshl1 hd6
  generalize 2 ^ tD τ = N at *
  have key : ∀ t L μ1, t ≤ N → (∃ few x7 x8, L = [vr 104, vi g, vi w, vi (tD τ : Nat), vi ((bdO τ ρ g w t).1 : Nat), vi few, vi (t : Nat), x7, x8] ∧ (few = (bdO τ ρ g w t).2 ∨ t = 0 ∧ few = 2147483647) ∧ Fr (GA ++ [107, 109, 110, 111, 112, 113]) μ μ1 ∧ CF τ (doF ρ (μ1 107 2)) 107 μ1) → Ex d 30 24 L [] θ μ1 Q := by
    refine Ex_loop (I := fun t L μ1 => ∃ few x7 x8, L = [vr 104, vi g, vi w, vi (tD τ : Nat), vi ((bdO τ ρ g w t).1 : Nat), vi few, vi (t : Nat), x7, x8] ∧ (few = (bdO τ ρ g w t).2 ∨ t = 0 ∧ few = 2147483647) ∧ Fr (GA ++ [107, 109, 110, 111, 112, 113]) μ μ1 ∧ CF τ (doF ρ (μ1 107 2)) 107 μ1) N ?_ ?_
    · rintro t L μ1 ht ⟨few, x7, x8, rfl, hfew, hf, hF1⟩ hk
      have i1 : ¬ ((N : Int) ≤ (t : Int)) := by omega
      rw [x30_24]
      simp (disch := omega) only [x30_0, x30_1, x30_4, x30_5, x30_8, x30_11, x30_14, x30_15, x30_17, x30_19, x30_21, x30_22, x30_26, x30_27, x30_28, x30_29, x30_32, x30_33, x30_36, x30_38, x30_41, x30_42, x30_43, x30_46, x30_47, x30_48, x30_51, x30_53, x30_55, x30_58, x30_60, x30_63, x30_66, x30_67, x30_70, x30_71, x30_73, x30_75, x30_77, x30_80, x30_82, x30_84, x30_87, x30_89, x30_92, x30_94, x30_96, x30_98, x30_100, x30_103, x30_106, x30_108, ↓reduceIte, Bool.false_eq_true, Nat.reduceAdd, Nat.reduceLT, Nat.reduceLeDiff, Nat.reduceSub, Nat.reduceEqDiff, Int.reduceToNat, Int.reduceEq, Int.reduceLT, Int.reduceLE, Int.reduceAdd, Int.reduceSub, zg, zI, zJ, zR, zst, zkl, zn, zcat, zok, zraw, List.length_cons, List.length_nil, Option.toList, List.nil_append, List.cons_append, true_and, and_true, if_true, if_false, ne_eq, not_true, not_false_eq_true, and_self, true_or, or_true, false_or, or_false, false_and, and_false, b_2 hc, b_3 hc, b_9 hc, b_12 hc, b_26 hc, b_40 hc, b_46 hc, b_47 hc, b_60 hc, b_62 hc, b_63 hc, b_76 hc, b_77 hc, b_90 hc, b_91 hc, b_104 hc, b_107 hc, b_114 hc, b_115 hc, b_122 hc, b_123 hc, b_131 hc, b_104 hc, r_104_0 hc, x_105 hc, r_104_1 hc, x_106 hc, r_104_6 hc, r_104_7 hc, r_104_8 hc, b_107 hc, r_107_0 hc, x_108 hc, n_108 hc, hsh, i1, hd0, ua_eq]
      have hfu : Fr [107] μ1 (us μ1 107 (zup (μ1 107) 2 (t : Nat))) := Fr.us (by decide) Fr.refl
      have hF2 : CF τ (doF ρ (t : Nat)) 107 (us μ1 107 (zup (μ1 107) 2 (t : Nat))) := by
        have := CF_do (b := (t : Nat)) (μ' := us μ1 107 (zup (μ1 107) 2 (t : Nat))) rf107 hF1 hd6 (by omega) (by omega) hfu (by rw [us_same, zup_ne (by decide)]) (by rw [us_same, zup_same rfl]) (by rw [us_same, zup_ne (by decide)])
        exact this
      have hf2 : Fr (GA ++ [107, 109, 110, 111, 112, 113]) μ (us μ1 107 (zup (μ1 107) 2 (t : Nat))) := Fr.us (by decide) hf
      refine cFallen (d := d - 1) (CX_fr h hf2 (by decide)) hF2 (by omega) hg hwy ?_
      intro μ3 hf3
      have hb3 : (bdO τ ρ g w t).1 < 64 := by
        by_cases h0 : t = 0
        · subst h0; show 0 < 64; omega
        · have := bd_lt τ ρ g w t (by omega); omega
      have hfb := fa_b hw (doF ρ (t : Nat)) g w
      have hF3 : CF τ (doF ρ (μ3 107 2)) 107 μ3 := by
        rw [hf3 107 (by decide), us_same, zup_same rfl]; exact CF_fr hF2 hf3 (by decide)
      have hf13 := hf2.trans (hf3.mono (by decide))
      have hbd : bdO τ ρ g w (t + 1) = if faO τ (doF ρ (t : Nat)) g w < (bdO τ ρ g w t).2 ∨ faO τ (doF ρ (t : Nat)) g w = (bdO τ ρ g w t).2 ∧ pcO t < pcO (bdO τ ρ g w t).1 then (t, faO τ (doF ρ (t : Nat)) g w) else bdO τ ρ g w t := rfl
      generalize hfa : faO τ (doF ρ (t : Nat)) g w = fa at *
      have take : bdO τ ρ g w (t + 1) = (t, fa) → ∀ x7 x8, Ex d 30 24 [vr 104, vi g, vi w, vi (tD τ : Nat), vi (t : Nat), vi fa, vi ((t + 1 : Nat) : Int), x7, x8] [] θ μ3 Q := by
        intro he x7 x8
        apply hk
        exact ⟨fa, x7, x8, by rw [he], Or.inl (by rw [he]), hf13, hF3⟩
      have skip : bdO τ ρ g w (t + 1) = bdO τ ρ g w t → few = (bdO τ ρ g w t).2 → ∀ x7 x8, Ex d 30 24 [vr 104, vi g, vi w, vi (tD τ : Nat), vi ((bdO τ ρ g w t).1 : Nat), vi few, vi ((t + 1 : Nat) : Int), x7, x8] [] θ μ3 Q := by
        intro he hfw x7 x8
        apply hk
        exact ⟨few, x7, x8, by rw [he], Or.inl (by rw [he]; exact hfw), hf13, hF3⟩
      have hlt0 : t = 0 → (bdO τ ρ g w t).2 = 100 := fun h0 => by subst h0; rfl
      by_cases c1 : fa < few
      · have he : bdO τ ρ g w (t + 1) = (t, fa) := by
          rw [hbd, if_pos]
          rcases hfew with h1 | ⟨h1, h2⟩
          · exact Or.inl (by omega)
          · exact Or.inl (by have := hlt0 h1; omega)
        by_cases c3 : pcO t < pcO (bdO τ ρ g w t).1
        · have c3' : ¬ ((pcO (bdO τ ρ g w t).1 : Int) ≤ (pcO t : Int)) := by omega
          simp (disch := omega) only [x30_0, x30_1, x30_4, x30_5, x30_8, x30_11, x30_14, x30_15, x30_17, x30_19, x30_21, x30_22, x30_26, x30_27, x30_28, x30_29, x30_32, x30_33, x30_36, x30_38, x30_41, x30_42, x30_43, x30_46, x30_47, x30_48, x30_51, x30_53, x30_55, x30_58, x30_60, x30_63, x30_66, x30_67, x30_70, x30_71, x30_73, x30_75, x30_77, x30_80, x30_82, x30_84, x30_87, x30_89, x30_92, x30_94, x30_96, x30_98, x30_100, x30_103, x30_106, x30_108, ↓reduceIte, Bool.false_eq_true, Nat.reduceAdd, Nat.reduceLT, Nat.reduceLeDiff, Nat.reduceSub, Nat.reduceEqDiff, Int.reduceToNat, Int.reduceEq, Int.reduceLT, Int.reduceLE, Int.reduceAdd, Int.reduceSub, zg, zI, zJ, zR, zst, zkl, zn, zcat, zok, zraw, List.length_cons, List.length_nil, Option.toList, List.nil_append, List.cons_append, true_and, and_true, if_true, if_false, ne_eq, not_true, not_false_eq_true, and_self, true_or, or_true, false_or, or_false, false_and, and_false, b_2 hc, b_3 hc, b_9 hc, b_12 hc, b_26 hc, b_40 hc, b_46 hc, b_47 hc, b_60 hc, b_62 hc, b_63 hc, b_76 hc, b_77 hc, b_90 hc, b_91 hc, b_104 hc, b_107 hc, b_114 hc, b_115 hc, b_122 hc, b_123 hc, b_131 hc, b_104 hc, r_104_0 hc, x_105 hc, r_104_1 hc, x_106 hc, r_104_6 hc, r_104_7 hc, r_104_8 hc, hd0, eBit, c1, c3', w32_s]
          exact take he _ _
        · have c3' : ((pcO (bdO τ ρ g w t).1 : Int) ≤ (pcO t : Int)) := by omega
          simp (disch := omega) only [x30_0, x30_1, x30_4, x30_5, x30_8, x30_11, x30_14, x30_15, x30_17, x30_19, x30_21, x30_22, x30_26, x30_27, x30_28, x30_29, x30_32, x30_33, x30_36, x30_38, x30_41, x30_42, x30_43, x30_46, x30_47, x30_48, x30_51, x30_53, x30_55, x30_58, x30_60, x30_63, x30_66, x30_67, x30_70, x30_71, x30_73, x30_75, x30_77, x30_80, x30_82, x30_84, x30_87, x30_89, x30_92, x30_94, x30_96, x30_98, x30_100, x30_103, x30_106, x30_108, ↓reduceIte, Bool.false_eq_true, Nat.reduceAdd, Nat.reduceLT, Nat.reduceLeDiff, Nat.reduceSub, Nat.reduceEqDiff, Int.reduceToNat, Int.reduceEq, Int.reduceLT, Int.reduceLE, Int.reduceAdd, Int.reduceSub, zg, zI, zJ, zR, zst, zkl, zn, zcat, zok, zraw, List.length_cons, List.length_nil, Option.toList, List.nil_append, List.cons_append, true_and, and_true, if_true, if_false, ne_eq, not_true, not_false_eq_true, and_self, true_or, or_true, false_or, or_false, false_and, and_false, b_2 hc, b_3 hc, b_9 hc, b_12 hc, b_26 hc, b_40 hc, b_46 hc, b_47 hc, b_60 hc, b_62 hc, b_63 hc, b_76 hc, b_77 hc, b_90 hc, b_91 hc, b_104 hc, b_107 hc, b_114 hc, b_115 hc, b_122 hc, b_123 hc, b_131 hc, b_104 hc, r_104_0 hc, x_105 hc, r_104_1 hc, x_106 hc, r_104_6 hc, r_104_7 hc, r_104_8 hc, hd0, eBit, c1, c3', w32_s]
          exact take he _ _
      · have hfw : few = (bdO τ ρ g w t).2 := by
          rcases hfew with h1 | ⟨h1, h2⟩
          · exact h1
          · omega
        by_cases c3 : pcO t < pcO (bdO τ ρ g w t).1
        · have c3' : ¬ ((pcO (bdO τ ρ g w t).1 : Int) ≤ (pcO t : Int)) := by omega
          by_cases c2 : fa = few
          · have he : bdO τ ρ g w (t + 1) = (t, fa) := by rw [hbd, if_pos (Or.inr ⟨by omega, c3⟩)]
            simp (disch := omega) only [x30_0, x30_1, x30_4, x30_5, x30_8, x30_11, x30_14, x30_15, x30_17, x30_19, x30_21, x30_22, x30_26, x30_27, x30_28, x30_29, x30_32, x30_33, x30_36, x30_38, x30_41, x30_42, x30_43, x30_46, x30_47, x30_48, x30_51, x30_53, x30_55, x30_58, x30_60, x30_63, x30_66, x30_67, x30_70, x30_71, x30_73, x30_75, x30_77, x30_80, x30_82, x30_84, x30_87, x30_89, x30_92, x30_94, x30_96, x30_98, x30_100, x30_103, x30_106, x30_108, ↓reduceIte, Bool.false_eq_true, Nat.reduceAdd, Nat.reduceLT, Nat.reduceLeDiff, Nat.reduceSub, Nat.reduceEqDiff, Int.reduceToNat, Int.reduceEq, Int.reduceLT, Int.reduceLE, Int.reduceAdd, Int.reduceSub, zg, zI, zJ, zR, zst, zkl, zn, zcat, zok, zraw, List.length_cons, List.length_nil, Option.toList, List.nil_append, List.cons_append, true_and, and_true, if_true, if_false, ne_eq, not_true, not_false_eq_true, and_self, true_or, or_true, false_or, or_false, false_and, and_false, b_2 hc, b_3 hc, b_9 hc, b_12 hc, b_26 hc, b_40 hc, b_46 hc, b_47 hc, b_60 hc, b_62 hc, b_63 hc, b_76 hc, b_77 hc, b_90 hc, b_91 hc, b_104 hc, b_107 hc, b_114 hc, b_115 hc, b_122 hc, b_123 hc, b_131 hc, b_104 hc, r_104_0 hc, x_105 hc, r_104_1 hc, x_106 hc, r_104_6 hc, r_104_7 hc, r_104_8 hc, hd0, eBit, c1, c2, c3', w32_s]
            have := take he
            rw [c2] at this
            simpa [Int.lt_irrefl] using this _ _
          · have he : bdO τ ρ g w (t + 1) = bdO τ ρ g w t := by rw [hbd, if_neg]; omega
            simp (disch := omega) only [x30_0, x30_1, x30_4, x30_5, x30_8, x30_11, x30_14, x30_15, x30_17, x30_19, x30_21, x30_22, x30_26, x30_27, x30_28, x30_29, x30_32, x30_33, x30_36, x30_38, x30_41, x30_42, x30_43, x30_46, x30_47, x30_48, x30_51, x30_53, x30_55, x30_58, x30_60, x30_63, x30_66, x30_67, x30_70, x30_71, x30_73, x30_75, x30_77, x30_80, x30_82, x30_84, x30_87, x30_89, x30_92, x30_94, x30_96, x30_98, x30_100, x30_103, x30_106, x30_108, ↓reduceIte, Bool.false_eq_true, Nat.reduceAdd, Nat.reduceLT, Nat.reduceLeDiff, Nat.reduceSub, Nat.reduceEqDiff, Int.reduceToNat, Int.reduceEq, Int.reduceLT, Int.reduceLE, Int.reduceAdd, Int.reduceSub, zg, zI, zJ, zR, zst, zkl, zn, zcat, zok, zraw, List.length_cons, List.length_nil, Option.toList, List.nil_append, List.cons_append, true_and, and_true, if_true, if_false, ne_eq, not_true, not_false_eq_true, and_self, true_or, or_true, false_or, or_false, false_and, and_false, b_2 hc, b_3 hc, b_9 hc, b_12 hc, b_26 hc, b_40 hc, b_46 hc, b_47 hc, b_60 hc, b_62 hc, b_63 hc, b_76 hc, b_77 hc, b_90 hc, b_91 hc, b_104 hc, b_107 hc, b_114 hc, b_115 hc, b_122 hc, b_123 hc, b_131 hc, b_104 hc, r_104_0 hc, x_105 hc, r_104_1 hc, x_106 hc, r_104_6 hc, r_104_7 hc, r_104_8 hc, hd0, eBit, c1, c2, c3', w32_s]
            exact skip he hfw _ _
        · have c3' : ((pcO (bdO τ ρ g w t).1 : Int) ≤ (pcO t : Int)) := by omega
          have he : bdO τ ρ g w (t + 1) = bdO τ ρ g w t := by rw [hbd, if_neg]; omega
          by_cases c2 : fa = few
          · simp (disch := omega) only [x30_0, x30_1, x30_4, x30_5, x30_8, x30_11, x30_14, x30_15, x30_17, x30_19, x30_21, x30_22, x30_26, x30_27, x30_28, x30_29, x30_32, x30_33, x30_36, x30_38, x30_41, x30_42, x30_43, x30_46, x30_47, x30_48, x30_51, x30_53, x30_55, x30_58, x30_60, x30_63, x30_66, x30_67, x30_70, x30_71, x30_73, x30_75, x30_77, x30_80, x30_82, x30_84, x30_87, x30_89, x30_92, x30_94, x30_96, x30_98, x30_100, x30_103, x30_106, x30_108, ↓reduceIte, Bool.false_eq_true, Nat.reduceAdd, Nat.reduceLT, Nat.reduceLeDiff, Nat.reduceSub, Nat.reduceEqDiff, Int.reduceToNat, Int.reduceEq, Int.reduceLT, Int.reduceLE, Int.reduceAdd, Int.reduceSub, zg, zI, zJ, zR, zst, zkl, zn, zcat, zok, zraw, List.length_cons, List.length_nil, Option.toList, List.nil_append, List.cons_append, true_and, and_true, if_true, if_false, ne_eq, not_true, not_false_eq_true, and_self, true_or, or_true, false_or, or_false, false_and, and_false, b_2 hc, b_3 hc, b_9 hc, b_12 hc, b_26 hc, b_40 hc, b_46 hc, b_47 hc, b_60 hc, b_62 hc, b_63 hc, b_76 hc, b_77 hc, b_90 hc, b_91 hc, b_104 hc, b_107 hc, b_114 hc, b_115 hc, b_122 hc, b_123 hc, b_131 hc, b_104 hc, r_104_0 hc, x_105 hc, r_104_1 hc, x_106 hc, r_104_6 hc, r_104_7 hc, r_104_8 hc, hd0, eBit, c1, c2, c3', w32_s]
            simpa [Int.lt_irrefl] using skip he hfw _ _
          · simp (disch := omega) only [x30_0, x30_1, x30_4, x30_5, x30_8, x30_11, x30_14, x30_15, x30_17, x30_19, x30_21, x30_22, x30_26, x30_27, x30_28, x30_29, x30_32, x30_33, x30_36, x30_38, x30_41, x30_42, x30_43, x30_46, x30_47, x30_48, x30_51, x30_53, x30_55, x30_58, x30_60, x30_63, x30_66, x30_67, x30_70, x30_71, x30_73, x30_75, x30_77, x30_80, x30_82, x30_84, x30_87, x30_89, x30_92, x30_94, x30_96, x30_98, x30_100, x30_103, x30_106, x30_108, ↓reduceIte, Bool.false_eq_true, Nat.reduceAdd, Nat.reduceLT, Nat.reduceLeDiff, Nat.reduceSub, Nat.reduceEqDiff, Int.reduceToNat, Int.reduceEq, Int.reduceLT, Int.reduceLE, Int.reduceAdd, Int.reduceSub, zg, zI, zJ, zR, zst, zkl, zn, zcat, zok, zraw, List.length_cons, List.length_nil, Option.toList, List.nil_append, List.cons_append, true_and, and_true, if_true, if_false, ne_eq, not_true, not_false_eq_true, and_self, true_or, or_true, false_or, or_false, false_and, and_false, b_2 hc, b_3 hc, b_9 hc, b_12 hc, b_26 hc, b_40 hc, b_46 hc, b_47 hc, b_60 hc, b_62 hc, b_63 hc, b_76 hc, b_77 hc, b_90 hc, b_91 hc, b_104 hc, b_107 hc, b_114 hc, b_115 hc, b_122 hc, b_123 hc, b_131 hc, b_104 hc, r_104_0 hc, x_105 hc, r_104_1 hc, x_106 hc, r_104_6 hc, r_104_7 hc, r_104_8 hc, hd0, eBit, c1, c2, c3', w32_s]
            exact skip he hfw _ _
    · rintro L μ1 ⟨few, x7, x8, rfl, hfew, hf, hF1⟩
      rw [x30_24]
      simp (disch := omega) only [x30_0, x30_1, x30_4, x30_5, x30_8, x30_11, x30_14, x30_15, x30_17, x30_19, x30_21, x30_22, x30_26, x30_27, x30_28, x30_29, x30_32, x30_33, x30_36, x30_38, x30_41, x30_42, x30_43, x30_46, x30_47, x30_48, x30_51, x30_53, x30_55, x30_58, x30_60, x30_63, x30_66, x30_67, x30_70, x30_71, x30_73, x30_75, x30_77, x30_80, x30_82, x30_84, x30_87, x30_89, x30_92, x30_94, x30_96, x30_98, x30_100, x30_103, x30_106, x30_108, ↓reduceIte, Bool.false_eq_true, Nat.reduceAdd, Nat.reduceLT, Nat.reduceLeDiff, Nat.reduceSub, Nat.reduceEqDiff, Int.reduceToNat, Int.reduceEq, Int.reduceLT, Int.reduceLE, Int.reduceAdd, Int.reduceSub, zg, zI, zJ, zR, zst, zkl, zn, zcat, zok, zraw, List.length_cons, List.length_nil, Option.toList, List.nil_append, List.cons_append, true_and, and_true, if_true, if_false, ne_eq, not_true, not_false_eq_true, and_self, true_or, or_true, false_or, or_false, false_and, and_false, b_2 hc, b_3 hc, b_9 hc, b_12 hc, b_26 hc, b_40 hc, b_46 hc, b_47 hc, b_60 hc, b_62 hc, b_63 hc, b_76 hc, b_77 hc, b_90 hc, b_91 hc, b_104 hc, b_107 hc, b_114 hc, b_115 hc, b_122 hc, b_123 hc, b_131 hc, hsh, Int.le_refl]
      exact hQ μ1 hf
  have hb3 : μ 47 3 = 0 ∨ μ 47 3 = 1 := by rw [hF.2.2.2.2.2]; exact hwF.2.2
  simp (disch := omega) only [x30_0, x30_1, x30_4, x30_5, x30_8, x30_11, x30_14, x30_15, x30_17, x30_19, x30_21, x30_22, x30_26, x30_27, x30_28, x30_29, x30_32, x30_33, x30_36, x30_38, x30_41, x30_42, x30_43, x30_46, x30_47, x30_48, x30_51, x30_53, x30_55, x30_58, x30_60, x30_63, x30_66, x30_67, x30_70, x30_71, x30_73, x30_75, x30_77, x30_80, x30_82, x30_84, x30_87, x30_89, x30_92, x30_94, x30_96, x30_98, x30_100, x30_103, x30_106, x30_108, ↓reduceIte, Bool.false_eq_true, Nat.reduceAdd, Nat.reduceLT, Nat.reduceLeDiff, Nat.reduceSub, Nat.reduceEqDiff, Int.reduceToNat, Int.reduceEq, Int.reduceLT, Int.reduceLE, Int.reduceAdd, Int.reduceSub, zg, zI, zJ, zR, zst, zkl, zn, zcat, zok, zraw, List.length_cons, List.length_nil, Option.toList, List.nil_append, List.cons_append, true_and, and_true, if_true, if_false, ne_eq, not_true, not_false_eq_true, and_self, true_or, or_true, false_or, or_false, false_and, and_false, b_2 hc, b_3 hc, b_9 hc, b_12 hc, b_26 hc, b_40 hc, b_46 hc, b_47 hc, b_60 hc, b_62 hc, b_63 hc, b_76 hc, b_77 hc, b_90 hc, b_91 hc, b_104 hc, b_107 hc, b_114 hc, b_115 hc, b_122 hc, b_123 hc, b_131 hc, b_104 hc, r_104_0 hc, x_105 hc, r_104_1 hc, x_106 hc, r_104_6 hc, r_104_7 hc, r_104_8 hc, b_46 hc, r_46_0 hc, r_46_1 hc, x_54 hc, r_46_2 hc, x_55 hc, r_46_3 hc, x_56 hc, r_46_4 hc, x_57 hc, r_46_5 hc, x_58 hc, r_46_6 hc, x_59 hc, hd0, b_47 hc]
  refine cCopy (ρ := ρ) hc rf107 rf47 (by decide) hF.2.2 hn36.2 hb3 ?_
  intro μ1 hf1 hR1 h2 _
  simp (disch := omega) only [x30_0, x30_1, x30_4, x30_5, x30_8, x30_11, x30_14, x30_15, x30_17, x30_19, x30_21, x30_22, x30_26, x30_27, x30_28, x30_29, x30_32, x30_33, x30_36, x30_38, x30_41, x30_42, x30_43, x30_46, x30_47, x30_48, x30_51, x30_53, x30_55, x30_58, x30_60, x30_63, x30_66, x30_67, x30_70, x30_71, x30_73, x30_75, x30_77, x30_80, x30_82, x30_84, x30_87, x30_89, x30_92, x30_94, x30_96, x30_98, x30_100, x30_103, x30_106, x30_108, ↓reduceIte, Bool.false_eq_true, Nat.reduceAdd, Nat.reduceLT, Nat.reduceLeDiff, Nat.reduceSub, Nat.reduceEqDiff, Int.reduceToNat, Int.reduceEq, Int.reduceLT, Int.reduceLE, Int.reduceAdd, Int.reduceSub, zg, zI, zJ, zR, zst, zkl, zn, zcat, zok, zraw, List.length_cons, List.length_nil, Option.toList, List.nil_append, List.cons_append, true_and, and_true, if_true, if_false, ne_eq, not_true, not_false_eq_true, and_self, true_or, or_true, false_or, or_false, false_and, and_false, b_2 hc, b_3 hc, b_9 hc, b_12 hc, b_26 hc, b_40 hc, b_46 hc, b_47 hc, b_60 hc, b_62 hc, b_63 hc, b_76 hc, b_77 hc, b_90 hc, b_91 hc, b_104 hc, b_107 hc, b_114 hc, b_115 hc, b_122 hc, b_123 hc, b_131 hc]
  refine key 0 _ μ1 (by omega) ⟨_, _, _, rfl, Or.inr ⟨rfl, rfl⟩, hf1.mono (by decide), ?_⟩
  obtain ⟨a1, a2, a3, a4⟩ := hR1
  refine ⟨rf107, ?_, a1, a2, fun k hk => rfl, a4⟩
  refine ⟨hwF.1, fun k hk => ?_, hwF.2.2⟩
  show zand (zshr (μ1 107 2) k) 1 = 0 ∨ zand (zshr (μ1 107 2) k) 1 = 1
  rw [a3 k hk]; exact hwF.2.1 k hk
end PL
