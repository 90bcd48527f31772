/-! THE REFERENCE: DOORS, HELPS, THIRDS, MOSSLESS, FELTED, NEGLECT -/
section MQ
variable {θ : zS} {τ : zT} {s : Nat} {Q : Option zV → zS → zM → Prop} {μ : zM} {ρ : zF} {G : zU} {g w : Int}
theorem mIsGust (d : Nat) (hd : 0 < d) (g w : Int) (θ : zS) (μ : zM) (Q : Option zV → zS → zM → Prop) : Ex d 206 0 [vi g, vi w] [] θ μ Q = Q (some (vi (if (0 ≤ g ∧ g ≤ 99) ∧ (0 ≤ w ∧ w ≤ 3) then 1 else 0))) θ μ := by
  simp only [x206_0, x206_1, x206_2, x206_4, x206_7, x206_10, x206_11, x206_12, x206_13, x206_16, x206_19, x206_20, x206_23, x206_24, ↓reduceIte, Bool.false_eq_true, Nat.reduceAdd, Nat.reduceLT, Nat.reduceLeDiff, Nat.reduceSub, Nat.reduceEqDiff, Int.reduceToNat, Int.reduceEq, Int.reduceLT, Int.reduceLE, Int.reduceAdd, Int.reduceSub, zg, zI, zJ, zR, zst, zkl, zn, zcat, zok, zraw, List.length_cons, List.length_nil, Option.toList, List.nil_append, List.cons_append, true_and, and_true, if_true, if_false, ne_eq, not_true, not_false_eq_true, and_self, true_or, or_true, false_or, or_false, false_and, and_false, mIn, hd]
  by_cases h1 : 0 ≤ g ∧ g ≤ 99
  · by_cases h2 : 0 ≤ w ∧ w ≤ 3
    · simp [h1, h2]
    · simp [h1, h2]
  · simp [h1]
/-- MR of a roof that is the same TILE by TILE -/
theorem MR_pt {ρ' : zF} (h : MR τ ρ μ) (hw : wfF τ ρ') (h1 : ∀ m t, m < 5 → t < tn τ → ρ.1 m t = ρ'.1 m t) (h2 : ∀ k, k < tD τ → ρ.2.1 k = ρ'.2.1 k) (h3 : ρ.2.2 = ρ'.2.2) : MR τ ρ' μ := by
  refine ⟨⟨hw, ?_, ?_, by rw [← h3]; exact h.1.2.2.2⟩, ?_⟩
  · intro t ht; rw [← h1 1 t (by decide) ht, ← h1 2 t (by decide) ht, ← h1 3 t (by decide) ht, ← h1 4 t (by decide) ht]; exact h.1.2.1 t ht
  · intro k hk; rw [← h2 k hk]; exact h.1.2.2.1 k hk
  · intro t ht; rw [← h1 0 t (by decide) ht]; exact h.2 t ht
theorem mFelted {d : Nat} {x1 x2 x3 : zV} (hd : 8 ≤ d) (h : MX θ τ s μ) (hR : MR τ ρ μ) (hG : wfU G) (hU : MU G μ)
    (hQ : ∀ μ', Fr GF μ μ' → J5 μ μ' → Q (some (vi (haO τ (feF ρ 1) G - haO τ (feF ρ 0) G))) θ μ') : Ex d 267 0 [vr 138, x1, x2, x3] [] θ μ Q := by
  have hm := h.1
  have hw := h.2.1
  have hd0 : 0 < d := by omega
  have hfe := hR.1.1.2.2
  have e57 : μ 138 57 = ρ.2.2 := hR.1.2.2.2
  have fe : ∀ {μ1} (v : Int), (v = 0 ∨ v = 1) → MX θ τ s μ1 → MR τ ρ μ1 ∨ (∃ v', MR τ (feF ρ v') μ1) → MR τ (feF ρ v) (us μ1 138 (zup (μ1 138) 57 v)) := by
    intro μ1 v hv X1 hr
    have go : ∀ ρ', MR τ ρ' μ1 → ρ'.1 = ρ.1 → ρ'.2.1 = ρ.2.1 → MR τ (feF ρ v) (us μ1 138 (zup (μ1 138) 57 v)) := by
      intro ρ' hr' e1 e2
      refine ⟨⟨feF_w hR.1.1 hv, ?_, ?_, ?_⟩, ?_⟩
      · intro t ht
        rw [us_ne (by decide), us_ne (by decide), us_ne (by decide), us_ne (by decide)]
        have := hr'.1.2.1 t ht
        rw [e1] at this; exact this
      · intro k hk; rw [us_ne (by decide)]; have := hr'.1.2.2.1 k hk; rw [e2] at this; exact this
      · rw [us_same, zup_same rfl]; rfl
      · intro t ht; rw [us_ne (by decide)]; have := hr'.2 t ht; rw [e1] at this; exact this
    rcases hr with hr | ⟨v', hr⟩
    · exact go ρ hr rfl rfl
    · exact go _ hr rfl rfl
  have Xu : ∀ {μ1} (v : Int), MX θ τ s μ1 → MX θ τ s (us μ1 138 (zup (μ1 138) 57 v)) := fun v X1 => MX_fr (A := [138]) X1 (Fr.us (by decide) Fr.refl) (by decide) (by rw [us_same, zup_ne (by decide)])
  have Uu : ∀ {μ1} (v : Int), MU G μ1 → MU G (us μ1 138 (zup (μ1 138) 57 v)) := fun v U1 => MU_fr (A := [138]) U1 (Fr.us (by decide) Fr.refl) (by decide) (by rw [us_same, zup_ne (by decide)])
  simp (disch := omega) only [x267_0, x267_1, x267_4, x267_5, x267_6, x267_7, x267_10, x267_11, x267_14, x267_15, x267_16, x267_17, x267_20, x267_21, x267_24, x267_25, x267_26, x267_27, x267_30, x267_31, x267_32, x267_33, ↓reduceIte, Bool.false_eq_true, Nat.reduceAdd, Nat.reduceLT, Nat.reduceLeDiff, Nat.reduceSub, Nat.reduceEqDiff, Int.reduceToNat, Int.reduceEq, Int.reduceLT, Int.reduceLE, Int.reduceAdd, Int.reduceSub, zg, zI, zJ, zR, zst, zkl, zn, zcat, zok, zraw, List.length_cons, List.length_nil, Option.toList, List.nil_append, List.cons_append, true_and, and_true, if_true, if_false, ne_eq, not_true, not_false_eq_true, and_self, true_or, or_true, false_or, or_false, false_and, and_false, b_138 hm, hd0, ua_eq]
  refine mHarm (d := d - 1) (by omega) (Xu 1 h) (fe 1 (Or.inr rfl) h (Or.inl hR)) hG (Uu 1 hU) ?_
  intro μ1 hf1 hj1
  have X1 : MX θ τ s μ1 := MX_fr (Xu 1 h) hf1 (by decide) (hj1 18 (by decide) (by decide))
  have R1 : MR τ (feF ρ 1) μ1 := MR_fr (fe 1 (Or.inr rfl) h (Or.inl hR)) hf1 (by decide) (hj1 57 (by decide) (by decide))
  have U1 : MU G μ1 := MU_fr (Uu 1 hU) hf1 (by decide) (hj1 62 (by decide) (by decide))
  simp (disch := omega) only [x267_0, x267_1, x267_4, x267_5, x267_6, x267_7, x267_10, x267_11, x267_14, x267_15, x267_16, x267_17, x267_20, x267_21, x267_24, x267_25, x267_26, x267_27, x267_30, x267_31, x267_32, x267_33, ↓reduceIte, Bool.false_eq_true, Nat.reduceAdd, Nat.reduceLT, Nat.reduceLeDiff, Nat.reduceSub, Nat.reduceEqDiff, Int.reduceToNat, Int.reduceEq, Int.reduceLT, Int.reduceLE, Int.reduceAdd, Int.reduceSub, zg, zI, zJ, zR, zst, zkl, zn, zcat, zok, zraw, List.length_cons, List.length_nil, Option.toList, List.nil_append, List.cons_append, true_and, and_true, if_true, if_false, ne_eq, not_true, not_false_eq_true, and_self, true_or, or_true, false_or, or_false, false_and, and_false, b_138 hm, hd0, ua_eq]
  refine mHarm (d := d - 1) (by omega) (Xu 0 X1) (fe 0 (Or.inl rfl) X1 (Or.inr ⟨1, R1⟩)) hG (Uu 0 U1) ?_
  intro μ2 hf2 hj2
  have hHb := ha_nn hw (feF ρ 1) hG
  have hHb2 := ha_nn hw (feF ρ 0) hG
  have a1 : w32 (haO τ (feF ρ 1) G - haO τ (feF ρ 0) G) = haO τ (feF ρ 1) G - haO τ (feF ρ 0) G := w32_i (by omega) (by omega)
  have ev : μ 138 57 = 0 ∨ μ 138 57 = 1 := by rw [e57]; exact hfe
  simp (disch := omega) only [x267_0, x267_1, x267_4, x267_5, x267_6, x267_7, x267_10, x267_11, x267_14, x267_15, x267_16, x267_17, x267_20, x267_21, x267_24, x267_25, x267_26, x267_27, x267_30, x267_31, x267_32, x267_33, ↓reduceIte, Bool.false_eq_true, Nat.reduceAdd, Nat.reduceLT, Nat.reduceLeDiff, Nat.reduceSub, Nat.reduceEqDiff, Int.reduceToNat, Int.reduceEq, Int.reduceLT, Int.reduceLE, Int.reduceAdd, Int.reduceSub, zg, zI, zJ, zR, zst, zkl, zn, zcat, zok, zraw, List.length_cons, List.length_nil, Option.toList, List.nil_append, List.cons_append, true_and, and_true, if_true, if_false, ne_eq, not_true, not_false_eq_true, and_self, true_or, or_true, false_or, or_false, false_and, and_false, b_138 hm, hd0, ua_eq, a1, ev]
  refine hQ _ ?_ ?_
  · exact Fr.us (by decide) (Fr.trans (Fr.us (by decide) (Fr.trans (Fr.us (by decide) Fr.refl) hf1)) hf2)
  · intro j a b
    rw [us_same, zup_ap]
    by_cases hj : j = 57
    · rw [if_pos hj, hj]
    · rw [if_neg hj, hj2 j a b, us_same, zup_ne hj, hj1 j a b, us_same, zup_ne hj]
theorem mHelps {d k : Nat} {x : Int} {x4 : zV} (hd : 7 ≤ d) (h : MX θ τ s μ) (hR : MR τ ρ μ) (hx : x = (k : Int)) (hk : k < tD τ) (hg : 0 ≤ g ∧ g ≤ 99) (hwy : 0 ≤ w ∧ w ≤ 3)
    (hQ : ∀ μ', Fr (GF ++ [177]) μ μ' → J5 μ μ' → (∀ j, μ' 177 j = μ 177 j) → Q (some (vi (faO τ ρ g w - faO τ (heF ρ k) g w))) θ μ') : Ex d 253 0 [vr 138, vi x, vi g, vi w, x4] [] θ μ Q := by
  subst hx
  have hm := h.1
  have hw := h.2.1
  have hd0 : 0 < d := by omega
  have hd6 := hw.2.2.2.2.1
  have e177 := hR.1.2.2.1 k hk
  have hoz := hR.1.1.2.1 k hk
  have h1 := fa_b hw ρ g w
  have h2 := fa_b hw (heF ρ k) g w
  have a1 : w32 (faO τ ρ g w - faO τ (heF ρ k) g w) = faO τ ρ g w - faO τ (heF ρ k) g w := w32_i (by omega) (by omega)
  simp (disch := omega) only [x253_0, x253_1, x253_2, x253_3, x253_6, x253_8, x253_9, x253_12, x253_13, x253_14, x253_17, x253_18, x253_19, x253_22, x253_23, x253_26, x253_27, x253_28, x253_30, x253_31, x253_32, x253_33, x253_36, x253_37, x253_39, x253_40, x253_43, x253_44, x253_45, x253_48, x253_49, x253_50, x253_53, x253_54, x253_57, x253_58, x253_59, x253_61, ↓reduceIte, Bool.false_eq_true, Nat.reduceAdd, Nat.reduceLT, Nat.reduceLeDiff, Nat.reduceSub, Nat.reduceEqDiff, Int.reduceToNat, Int.reduceEq, Int.reduceLT, Int.reduceLE, Int.reduceAdd, Int.reduceSub, zg, zI, zJ, zR, zst, zkl, zn, zcat, zok, zraw, List.length_cons, List.length_nil, Option.toList, List.nil_append, List.cons_append, true_and, and_true, if_true, if_false, ne_eq, not_true, not_false_eq_true, and_self, true_or, or_true, false_or, or_false, false_and, and_false, b_138 hm, hd0]
  refine mFall (d := d - 1) (by omega) h hR hg hwy rfl rfl ?_
  intro μ1 hf1 hj1 _
  have X1 : MX θ τ s μ1 := MX_fr h hf1 (by decide) (hj1 18 (by decide) (by decide))
  have R1 : MR τ ρ μ1 := MR_fr hR hf1 (by decide) (hj1 57 (by decide) (by decide))
  have m177 := hf1 177 (by decide)
  have e1 : μ1 177 k = ρ.2.1 k := by rw [m177]; exact e177
  have rest : Ex d 253 28 [vr 138, vi (k : Nat), vi g, vi w, vi (faO τ ρ g w)] [] θ (us μ1 177 (zup (μ1 177) k (1 - ρ.2.1 k))) Q := by
    have hfu : Fr [177] μ1 (us μ1 177 (zup (μ1 177) k (1 - ρ.2.1 k))) := Fr.us (by decide) Fr.refl
    have X2 : MX θ τ s (us μ1 177 (zup (μ1 177) k (1 - ρ.2.1 k))) := MX_fr X1 hfu (by decide) (by rw [us_ne (by decide)])
    have R2 : MR τ (heF ρ k) (us μ1 177 (zup (μ1 177) k (1 - ρ.2.1 k))) := by
      refine ⟨⟨heF_w hR.1.1, ?_, ?_, ?_⟩, ?_⟩
      · intro t ht
        rw [us_ne (by decide), us_ne (by decide), us_ne (by decide), us_ne (by decide)]
        exact R1.1.2.1 t ht
      · intro j hj
        rw [us_same, zup_ap]
        show _ = if j = k then 1 - ρ.2.1 j else ρ.2.1 j
        by_cases hjk : j = k
        · rw [if_pos hjk, if_pos hjk, hjk]
        · rw [if_neg hjk, if_neg hjk]; exact R1.1.2.2.1 j hj
      · rw [us_ne (by decide)]; exact R1.1.2.2.2
      · intro t ht; rw [us_ne (by decide)]; exact R1.2 t ht
    simp (disch := omega) only [x253_0, x253_1, x253_2, x253_3, x253_6, x253_8, x253_9, x253_12, x253_13, x253_14, x253_17, x253_18, x253_19, x253_22, x253_23, x253_26, x253_27, x253_28, x253_30, x253_31, x253_32, x253_33, x253_36, x253_37, x253_39, x253_40, x253_43, x253_44, x253_45, x253_48, x253_49, x253_50, x253_53, x253_54, x253_57, x253_58, x253_59, x253_61, ↓reduceIte, Bool.false_eq_true, Nat.reduceAdd, Nat.reduceLT, Nat.reduceLeDiff, Nat.reduceSub, Nat.reduceEqDiff, Int.reduceToNat, Int.reduceEq, Int.reduceLT, Int.reduceLE, Int.reduceAdd, Int.reduceSub, zg, zI, zJ, zR, zst, zkl, zn, zcat, zok, zraw, List.length_cons, List.length_nil, Option.toList, List.nil_append, List.cons_append, true_and, and_true, if_true, if_false, ne_eq, not_true, not_false_eq_true, and_self, true_or, or_true, false_or, or_false, false_and, and_false, b_138 hm, hd0]
    refine mFall (d := d - 1) (by omega) X2 R2 hg hwy rfl rfl ?_
    intro μ3 hf3 hj3 _
    have m3 := hf3 177 (by decide)
    rw [us_same] at m3
    have e3 : μ3 177 k = 1 - ρ.2.1 k := by rw [m3, zup_same rfl]
    have fin : ∀ y : Int, y = ρ.2.1 k → Q (some (vi (faO τ ρ g w - faO τ (heF ρ k) g w))) θ (us μ3 177 (zup (μ3 177) k y)) := by
      intro y hy
      refine hQ _ ?_ ?_ ?_
      · exact Fr.us (by decide) (Fr.trans (hf1.mono (by decide)) (Fr.trans (hfu.mono (by decide)) (hf3.mono (by decide))))
      · intro j a b; rw [us_ne (by decide), hj3 j a b, us_ne (by decide)]; exact hj1 j a b
      · intro j
        rw [us_same, zup_ap, m3, zup_ap]
        by_cases hjk : j = k
        · rw [if_pos hjk, hjk, e177]; exact hy
        · rw [if_neg hjk, if_neg hjk, m177]
    rcases hoz with hz | hz
    · have e4 : μ3 177 k = 1 := by rw [e3, hz]; rfl
      simp (disch := omega) only [x253_0, x253_1, x253_2, x253_3, x253_6, x253_8, x253_9, x253_12, x253_13, x253_14, x253_17, x253_18, x253_19, x253_22, x253_23, x253_26, x253_27, x253_28, x253_30, x253_31, x253_32, x253_33, x253_36, x253_37, x253_39, x253_40, x253_43, x253_44, x253_45, x253_48, x253_49, x253_50, x253_53, x253_54, x253_57, x253_58, x253_59, x253_61, ↓reduceIte, Bool.false_eq_true, Nat.reduceAdd, Nat.reduceLT, Nat.reduceLeDiff, Nat.reduceSub, Nat.reduceEqDiff, Int.reduceToNat, Int.reduceEq, Int.reduceLT, Int.reduceLE, Int.reduceAdd, Int.reduceSub, zg, zI, zJ, zR, zst, zkl, zn, zcat, zok, zraw, List.length_cons, List.length_nil, Option.toList, List.nil_append, List.cons_append, true_and, and_true, if_true, if_false, ne_eq, not_true, not_false_eq_true, and_self, true_or, or_true, false_or, or_false, false_and, and_false, b_138 hm, r_138_56 hm, x_177 hm, n_177 hm, hd0, a1, e4, Int.toNat_natCast, ua_eq]
      exact fin 0 hz.symm
    · have e4 : μ3 177 k = 0 := by rw [e3, hz]; rfl
      simp (disch := omega) only [x253_0, x253_1, x253_2, x253_3, x253_6, x253_8, x253_9, x253_12, x253_13, x253_14, x253_17, x253_18, x253_19, x253_22, x253_23, x253_26, x253_27, x253_28, x253_30, x253_31, x253_32, x253_33, x253_36, x253_37, x253_39, x253_40, x253_43, x253_44, x253_45, x253_48, x253_49, x253_50, x253_53, x253_54, x253_57, x253_58, x253_59, x253_61, ↓reduceIte, Bool.false_eq_true, Nat.reduceAdd, Nat.reduceLT, Nat.reduceLeDiff, Nat.reduceSub, Nat.reduceEqDiff, Int.reduceToNat, Int.reduceEq, Int.reduceLT, Int.reduceLE, Int.reduceAdd, Int.reduceSub, zg, zI, zJ, zR, zst, zkl, zn, zcat, zok, zraw, List.length_cons, List.length_nil, Option.toList, List.nil_append, List.cons_append, true_and, and_true, if_true, if_false, ne_eq, not_true, not_false_eq_true, and_self, true_or, or_true, false_or, or_false, false_and, and_false, b_138 hm, r_138_56 hm, x_177 hm, n_177 hm, hd0, a1, e4, Int.toNat_natCast, ua_eq]
      exact fin 1 hz.symm
  rcases hoz with hz | hz
  · have e4 : μ1 177 k = 0 := by rw [e1, hz]
    simp (disch := omega) only [x253_0, x253_1, x253_2, x253_3, x253_6, x253_8, x253_9, x253_12, x253_13, x253_14, x253_17, x253_18, x253_19, x253_22, x253_23, x253_26, x253_27, x253_30, x253_31, x253_32, x253_33, x253_36, x253_37, x253_39, x253_40, x253_43, x253_44, x253_45, x253_48, x253_49, x253_50, x253_53, x253_54, x253_57, x253_58, x253_59, x253_61, ↓reduceIte, Bool.false_eq_true, Nat.reduceAdd, Nat.reduceLT, Nat.reduceLeDiff, Nat.reduceSub, Nat.reduceEqDiff, Int.reduceToNat, Int.reduceEq, Int.reduceLT, Int.reduceLE, Int.reduceAdd, Int.reduceSub, zg, zI, zJ, zR, zst, zkl, zn, zcat, zok, zraw, List.length_cons, List.length_nil, Option.toList, List.nil_append, List.cons_append, true_and, and_true, if_true, if_false, ne_eq, not_true, not_false_eq_true, and_self, true_or, or_true, false_or, or_false, false_and, and_false, b_138 hm, r_138_56 hm, x_177 hm, n_177 hm, hd0, e4, Int.toNat_natCast, ua_eq]
    have := rest
    rw [hz] at this
    exact this
  · have e4 : μ1 177 k = 1 := by rw [e1, hz]
    simp (disch := omega) only [x253_0, x253_1, x253_2, x253_3, x253_6, x253_8, x253_9, x253_12, x253_13, x253_14, x253_17, x253_18, x253_19, x253_22, x253_23, x253_26, x253_27, x253_30, x253_31, x253_32, x253_33, x253_36, x253_37, x253_39, x253_40, x253_43, x253_44, x253_45, x253_48, x253_49, x253_50, x253_53, x253_54, x253_57, x253_58, x253_59, x253_61, ↓reduceIte, Bool.false_eq_true, Nat.reduceAdd, Nat.reduceLT, Nat.reduceLeDiff, Nat.reduceSub, Nat.reduceEqDiff, Int.reduceToNat, Int.reduceEq, Int.reduceLT, Int.reduceLE, Int.reduceAdd, Int.reduceSub, zg, zI, zJ, zR, zst, zkl, zn, zcat, zok, zraw, List.length_cons, List.length_nil, Option.toList, List.nil_append, List.cons_append, true_and, and_true, if_true, if_false, ne_eq, not_true, not_false_eq_true, and_self, true_or, or_true, false_or, or_false, false_and, and_false, b_138 hm, r_138_56 hm, x_177 hm, n_177 hm, hd0, e4, Int.toNat_natCast, ua_eq]
    have := rest
    rw [hz] at this
    exact this
theorem mOpens {d : Nat} {b : Int} {x2 : zV} (h : MX θ τ s μ) (hR : MR τ ρ μ) (hb0 : 0 ≤ b) (hb : b ≤ 64) (hQ : ∀ μ', Fr [177] μ μ' → MR τ (doF ρ b) μ' → (∀ j, tD τ ≤ j → μ' 177 j = μ 177 j) → Q none θ μ') : Ex d 250 0 [vr 138, vi b, x2] [] θ μ Q := by
  have hm := h.1
  have hw := h.2.1
  have hd6 := hw.2.2.2.2.1
  have h18 := h.2.2.2.1
  have hs := h.2.2.2.2
  have h157 := h.2.2.1.2.1.1
  have key : ∀ t L μ1, t ≤ tD τ → (L = [vr 138, vi b, vi (t : Nat)] ∧ Fr [177] μ μ1 ∧ (∀ j, j < t → μ1 177 j = zand (zshr b j) 1) ∧ ∀ j, tD τ ≤ j → μ1 177 j = μ 177 j) → Ex d 250 2 L [] θ μ1 Q := by
    refine Ex_loop (I := fun t L μ1 => L = [vr 138, vi b, vi (t : Nat)] ∧ Fr [177] μ μ1 ∧ (∀ j, j < t → μ1 177 j = zand (zshr b j) 1) ∧ ∀ j, tD τ ≤ j → μ1 177 j = μ 177 j) (tD τ) ?_ ?_
    · rintro t L μ1 ht ⟨rfl, hf, ha, hr⟩ hk
      have e1 : μ1 138 18 = (s : Int) := by rw [hf 138 (by decide), h18]
      have e2 : μ1 157 s = (tD τ : Nat) := by rw [hf 157 (by decide), h157]
      have i1 : ¬ ((tD τ : Int) ≤ (t : Int)) := by omega
      have hz : zand (zshr b t) 1 = 0 ∨ zand (zshr b t) 1 = 1 := by rw [zbit hb0 (by omega) (by omega)]; omega
      have fin : ∀ y : Int, y = zand (zshr b t) 1 → Ex d 250 2 [vr 138, vi b, vi ((t + 1 : Nat) : Int)] [] θ (us μ1 177 (zup (μ1 177) t y)) Q := by
        intro y hy
        apply hk
        refine ⟨rfl, Fr.us (by decide) hf, ?_, ?_⟩
        · intro j hj
          rw [us_same, zup_ap]
          by_cases h1 : j = t
          · rw [if_pos h1, h1]; exact hy
          · rw [if_neg h1]; exact ha j (by omega)
        · intro j hj; rw [us_same, zup_ne (by omega)]; exact hr j hj
      rw [x250_2]
      rcases hz with hz | hz
      · simp (disch := omega) only [x250_0, x250_1, x250_3, x250_4, x250_7, x250_8, x250_11, x250_12, x250_15, x250_16, x250_19, x250_20, x250_21, x250_22, x250_23, x250_24, x250_25, x250_26, x250_29, x250_30, x250_33, x250_34, x250_35, x250_38, x250_41, ↓reduceIte, Bool.false_eq_true, Nat.reduceAdd, Nat.reduceLT, Nat.reduceLeDiff, Nat.reduceSub, Nat.reduceEqDiff, Int.reduceToNat, Int.reduceEq, Int.reduceLT, Int.reduceLE, Int.reduceAdd, Int.reduceSub, zg, zI, zJ, zR, zst, zkl, zn, zcat, zok, zraw, List.length_cons, List.length_nil, Option.toList, List.nil_append, List.cons_append, true_and, and_true, if_true, if_false, ne_eq, not_true, not_false_eq_true, and_self, true_or, or_true, false_or, or_false, false_and, and_false, b_138 hm, r_138_32 hm, x_157 hm, r_138_56 hm, x_177 hm, n_177 hm, e1, e2, i1, hz, Int.toNat_natCast, w32_s, ua_eq]
        exact fin 0 hz.symm
      · simp (disch := omega) only [x250_0, x250_1, x250_3, x250_4, x250_7, x250_8, x250_11, x250_12, x250_15, x250_16, x250_19, x250_20, x250_21, x250_22, x250_23, x250_24, x250_25, x250_26, x250_29, x250_30, x250_33, x250_34, x250_35, x250_38, x250_41, ↓reduceIte, Bool.false_eq_true, Nat.reduceAdd, Nat.reduceLT, Nat.reduceLeDiff, Nat.reduceSub, Nat.reduceEqDiff, Int.reduceToNat, Int.reduceEq, Int.reduceLT, Int.reduceLE, Int.reduceAdd, Int.reduceSub, zg, zI, zJ, zR, zst, zkl, zn, zcat, zok, zraw, List.length_cons, List.length_nil, Option.toList, List.nil_append, List.cons_append, true_and, and_true, if_true, if_false, ne_eq, not_true, not_false_eq_true, and_self, true_or, or_true, false_or, or_false, false_and, and_false, b_138 hm, r_138_32 hm, x_157 hm, r_138_56 hm, x_177 hm, n_177 hm, e1, e2, i1, hz, Int.toNat_natCast, w32_s, ua_eq]
        exact fin 1 hz.symm
    · rintro L μ1 ⟨rfl, hf, ha, hr⟩
      have e1 : μ1 138 18 = (s : Int) := by rw [hf 138 (by decide), h18]
      have e2 : μ1 157 s = (tD τ : Nat) := by rw [hf 157 (by decide), h157]
      rw [x250_2]
      simp (disch := omega) only [x250_0, x250_1, x250_3, x250_4, x250_7, x250_8, x250_11, x250_12, x250_15, x250_16, x250_19, x250_20, x250_21, x250_22, x250_23, x250_24, x250_25, x250_26, x250_29, x250_30, x250_33, x250_34, x250_35, x250_38, x250_41, ↓reduceIte, Bool.false_eq_true, Nat.reduceAdd, Nat.reduceLT, Nat.reduceLeDiff, Nat.reduceSub, Nat.reduceEqDiff, Int.reduceToNat, Int.reduceEq, Int.reduceLT, Int.reduceLE, Int.reduceAdd, Int.reduceSub, zg, zI, zJ, zR, zst, zkl, zn, zcat, zok, zraw, List.length_cons, List.length_nil, Option.toList, List.nil_append, List.cons_append, true_and, and_true, if_true, if_false, ne_eq, not_true, not_false_eq_true, and_self, true_or, or_true, false_or, or_false, false_and, and_false, b_138 hm, r_138_32 hm, x_157 hm, e1, e2, Int.toNat_natCast, Int.le_refl]
      refine hQ μ1 hf ⟨⟨doF_w hR.1.1 hd6 hb0 hb, ?_, fun k hk => ha k hk, ?_⟩, ?_⟩ hr
      · intro t ht
        rw [hf 173 (by decide), hf 174 (by decide), hf 175 (by decide), hf 176 (by decide)]; exact hR.1.2.1 t ht
      · rw [hf 138 (by decide)]; exact hR.1.2.2.2
      · intro t ht; rw [hf 172 (by decide)]; exact hR.2 t ht
  simp (disch := omega) only [x250_0, x250_1, x250_3, x250_4, x250_7, x250_8, x250_11, x250_12, x250_15, x250_16, x250_19, x250_20, x250_21, x250_22, x250_23, x250_24, x250_25, x250_26, x250_29, x250_30, x250_33, x250_34, x250_35, x250_38, x250_41, ↓reduceIte, Bool.false_eq_true, Nat.reduceAdd, Nat.reduceLT, Nat.reduceLeDiff, Nat.reduceSub, Nat.reduceEqDiff, Int.reduceToNat, Int.reduceEq, Int.reduceLT, Int.reduceLE, Int.reduceAdd, Int.reduceSub, zg, zI, zJ, zR, zst, zkl, zn, zcat, zok, zraw, List.length_cons, List.length_nil, Option.toList, List.nil_append, List.cons_append, true_and, and_true, if_true, if_false, ne_eq, not_true, not_false_eq_true, and_self, true_or, or_true, false_or, or_false, false_and, and_false]
  exact key 0 _ μ (by omega) ⟨rfl, Fr.refl, fun j hj => absurd hj (by omega), fun _ _ => rfl⟩
theorem mBits {d : Nat} {x1 x2 : zV} {n : Nat} (hn : n < 64) (hQ : Q (some (vi (pcO n : Nat))) θ μ) : Ex d 251 0 [vi (n : Nat), x1, x2] [] θ μ Q := by
  have zb : ∀ k : Nat, k < 6 → zand (zshr (n : Nat) (k : Nat)) 1 = ((n / 2 ^ k % 2 : Nat) : Int) := by
    intro k hk
    rw [zbit (by omega) (by omega) (by omega)]
    have : ((2 : Int) ^ k) = ((2 ^ k : Nat) : Int) := by rw [Int.natCast_pow]; rfl
    rw [this]; omega
  have key : ∀ t L μ1, t ≤ 6 → (L = [vi (n : Nat), vi (sm (fun k => ((n / 2 ^ k % 2 : Nat) : Int)) t), vi (t : Nat)] ∧ μ1 = μ) → Ex d 251 4 L [] θ μ1 Q := by
    refine Ex_loop (I := fun t L μ1 => L = [vi (n : Nat), vi (sm (fun k => ((n / 2 ^ k % 2 : Nat) : Int)) t), vi (t : Nat)] ∧ μ1 = μ) 6 ?_ ?_
    · rintro t L μ1 ht ⟨rfl, rfl⟩ hk
      have i1 : ¬ ((6 : Int) ≤ (t : Int)) := by omega
      have b1 := sm_nn (f := fun k => ((n / 2 ^ k % 2 : Nat) : Int)) (n := t) (fun i _ => by omega)
      have b2 := sm_le (f := fun k => ((n / 2 ^ k % 2 : Nat) : Int)) (n := t) (b := 1) (fun i _ => by omega)
      have zt := zb t ht
      generalize hq : n / 2 ^ t % 2 = q at zt
      have hq2 : q < 2 := by omega
      have a1 : w32 (sm (fun k => ((n / 2 ^ k % 2 : Nat) : Int)) t + (q : Nat)) = sm (fun k => ((n / 2 ^ k % 2 : Nat) : Int)) t + (q : Nat) := w32_i (by omega) (by omega)
      rw [x251_4]
      simp (disch := omega) only [x251_0, x251_1, x251_2, x251_3, x251_5, x251_7, x251_10, x251_11, x251_12, x251_13, x251_14, x251_15, x251_16, x251_17, x251_18, x251_21, x251_24, x251_25, ↓reduceIte, Bool.false_eq_true, Nat.reduceAdd, Nat.reduceLT, Nat.reduceLeDiff, Nat.reduceSub, Nat.reduceEqDiff, Int.reduceToNat, Int.reduceEq, Int.reduceLT, Int.reduceLE, Int.reduceAdd, Int.reduceSub, zg, zI, zJ, zR, zst, zkl, zn, zcat, zok, zraw, List.length_cons, List.length_nil, Option.toList, List.nil_append, List.cons_append, true_and, and_true, if_true, if_false, ne_eq, not_true, not_false_eq_true, and_self, true_or, or_true, false_or, or_false, false_and, and_false, i1, zt, a1, w32_s]
      refine hk _ _ ⟨?_, rfl⟩
      simp only [sm, hq]
    · rintro L μ1 ⟨rfl, rfl⟩
      have i1 : (6 : Int) ≤ ((6 : Nat) : Int) := by decide
      rw [x251_4]
      simp (disch := omega) only [x251_0, x251_1, x251_2, x251_3, x251_5, x251_7, x251_10, x251_11, x251_12, x251_13, x251_14, x251_15, x251_16, x251_17, x251_18, x251_21, x251_24, x251_25, ↓reduceIte, Bool.false_eq_true, Nat.reduceAdd, Nat.reduceLT, Nat.reduceLeDiff, Nat.reduceSub, Nat.reduceEqDiff, Int.reduceToNat, Int.reduceEq, Int.reduceLT, Int.reduceLE, Int.reduceAdd, Int.reduceSub, zg, zI, zJ, zR, zst, zkl, zn, zcat, zok, zraw, List.length_cons, List.length_nil, Option.toList, List.nil_append, List.cons_append, true_and, and_true, if_true, if_false, ne_eq, not_true, not_false_eq_true, and_self, true_or, or_true, false_or, or_false, false_and, and_false, i1]
      refine Qc hQ ?_
      simp only [sm, pcO]
      omega
  simp (disch := omega) only [x251_0, x251_1, x251_2, x251_3, x251_5, x251_7, x251_10, x251_11, x251_12, x251_13, x251_14, x251_15, x251_16, x251_17, x251_18, x251_21, x251_24, x251_25, ↓reduceIte, Bool.false_eq_true, Nat.reduceAdd, Nat.reduceLT, Nat.reduceLeDiff, Nat.reduceSub, Nat.reduceEqDiff, Int.reduceToNat, Int.reduceEq, Int.reduceLT, Int.reduceLE, Int.reduceAdd, Int.reduceSub, zg, zI, zJ, zR, zst, zkl, zn, zcat, zok, zraw, List.length_cons, List.length_nil, Option.toList, List.nil_append, List.cons_append, true_and, and_true, if_true, if_false, ne_eq, not_true, not_false_eq_true, and_self, true_or, or_true, false_or, or_false, false_and, and_false]
  exact key 0 _ μ (by omega) ⟨rfl, rfl⟩
end MQ
