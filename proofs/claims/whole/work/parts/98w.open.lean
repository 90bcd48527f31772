/-! CALLS: open; CELLS -/
theorem op_or : ∀ v : Fin 64, ∀ k : Fin 6, (0 ≤ zor (v.val : Int) (zshl 1 (k.val : Int)) ∧ zor (v.val : Int) (zshl 1 (k.val : Int)) < 64) ∧ ∀ j : Fin 6, zand (zshr (zor (v.val : Int) (zshl 1 (k.val : Int))) (j.val : Int)) 1 = if j = k then 1 else zand (zshr (v.val : Int) (j.val : Int)) 1 := by decide +kernel
theorem op_an : ∀ v : Fin 64, ∀ k : Fin 6, (0 ≤ zand (v.val : Int) (zxor (zshl 1 (k.val : Int)) (-1)) ∧ zand (v.val : Int) (zxor (zshl 1 (k.val : Int)) (-1)) < 64) ∧ ∀ j : Fin 6, zand (zshr (zand (v.val : Int) (zxor (zshl 1 (k.val : Int)) (-1))) (j.val : Int)) 1 = if j = k then 0 else zand (zshr (v.val : Int) (j.val : Int)) 1 := by decide +kernel
section OP
variable {θ : zS} {T U : Nat} {σ : zSt} {Q : Option zV → zS → zM → Prop} {μ : zM} {s : Nat}
def opF (ρ : zF) (k : Nat) (b : Int) : zF := (ρ.1, zup ρ.2.1 k b, ρ.2.2)
def sOpen (σ : zSt) (k b : Int) : zSt := if 0 ≤ k ∧ k < (tD (sT σ) : Int) then stR σ (opF (gR (sG σ)) k.toNat b) else σ
def vOpen (σ : zSt) (k : Int) : Int := if 0 ≤ k ∧ k < (tD (sT σ) : Int) then 1 else 0
theorem opF_w {τ : zT} {ρ : zF} {k : Nat} {b : Int} (h : wfF τ ρ) (hb : b = 0 ∨ b = 1) : wfF τ (opF ρ k b) := by
  obtain ⟨h1, h2, h3⟩ := h
  refine ⟨h1, fun j hj => ?_, h3⟩
  show zup ρ.2.1 k b j = 0 ∨ zup ρ.2.1 k b j = 1
  by_cases e : j = k
  · rw [zup_same e]; exact hb
  · rw [zup_ne e]; exact h2 j hj
theorem kOpen {D : Nat} {k b : Int} {x3 : zV} (h : CS θ T U σ μ) (hd : 7 ≤ D) (hb : b = 0 ∨ b = 1) (hQ : ∀ μ', CL μ μ' → CS θ T U (sOpen σ k b) μ' → Q (some (vi (vOpen σ k))) θ μ') : Ex D 109 0 [vr 2, vi k, vi b, x3] [] θ μ Q := by
  have hc := h.1.1.1
  have hd0 : 0 < D := by omega
  have hD6 := h.1.2.1.2.2.2.2.1
  by_cases q0 : 0 ≤ k ∧ k < (tD (sT σ) : Int)
  · unfold sOpen vOpen at hQ
    rw [if_pos q0, if_pos q0] at hQ
    obtain ⟨N, rfl⟩ : ∃ N : Nat, k = (N : Int) := ⟨k.toNat, by omega⟩
    rw [Int.toNat_natCast] at hQ
    have hN : N < 6 := by omega
    obtain ⟨⟨r1, r2, r3, r4, r5, r6⟩, ⟨v0, v64⟩, _⟩ := h.2.2.1
    obtain ⟨v, hv⟩ : ∃ v : Nat, μ 47 2 = (v : Int) := ⟨(μ 47 2).toNat, by have : (46 + 1 : Nat) = 47 := rfl; rw [this] at v0; omega⟩
    have hv64 : v < 64 := by have : (46 + 1 : Nat) = 47 := rfl; rw [this] at v64; omega
    have fin : ∀ (y : Int), (0 ≤ y ∧ y < 64) → (∀ j : Nat, j < 6 → zand (zshr y (j : Int)) 1 = if j = N then b else zand (zshr (v : Int) (j : Int)) 1) → ∀ μ1, Fr [104, 122] (us μ 47 (zup (μ 47) 2 y)) μ1 → μ1 104 9 = -1 → μ1 104 10 = -1 → μ1 122 4 = 0 → Q (some (vi 1)) θ μ1 := by
      intro y hy hbit μ1 hf p9 p10 p4
      have F : Fr [47, 49, 50, 51, 52, 53, 104, 122] μ μ1 := (Fr.us (a := 47) (by simp) Fr.refl : Fr [47, 49, 50, 51, 52, 53, 104, 122] μ (us μ 47 (zup (μ 47) 2 y))).trans (hf.mono (by simp))
      have e47 : μ1 47 = zup (μ 47) 2 y := by rw [hf 47 (by decide), us_same]
      refine hQ μ1 (CL_fr F (by decide)) (CS_roof h F (opF_w r2 hb) ⟨?_, fun m t hm ht => ?_, fun j hj => ?_, ?_⟩ ?_ p9 p10 p4)
      · rw [e47, zup_ne (by decide)]; exact r3
      · rw [hf _ (by simp; omega), us_ne (by omega)]; exact r4 m t hm ht
      · rw [e47, zup_same rfl, hbit j (by omega)]
        show _ = zup (gR (sG σ)).2.1 N b j
        by_cases e : j = N
        · rw [if_pos e, zup_same e]
        · rw [if_neg e, zup_ne e, ← hv]; exact r5 j hj
      · rw [e47, zup_ne (by decide)]; exact r6
      · rw [e47, zup_same rfl]; exact hy
    rcases hb with rfl | rfl
    · have hx := op_an ⟨v, hv64⟩ ⟨N, hN⟩
      simp only at hx
      simp (disch := omega) only [x109_0, x109_1, x109_2, x109_5, x109_8, x109_9, x109_10, x109_11, x109_12, x109_13, x109_14, x109_15, x109_18, x109_21, x109_22, x109_25, x109_26, x109_29, x109_32, x109_35, x109_36, x109_37, x109_40, x109_41, x109_44, x109_47, x109_50, x109_51, x109_52, x109_53, x109_54, x109_57, x109_58, x109_61, x109_62, ↓reduceIte, Bool.false_eq_true, Nat.reduceAdd, Nat.reduceLT, Nat.reduceLeDiff, Nat.reduceSub, Nat.reduceEqDiff, Int.reduceToNat, Int.reduceEq, Int.reduceLT, Int.reduceLE, Int.reduceAdd, Int.reduceSub, zg, zI, zJ, zR, zst, zkl, zn, zcat, zok, zraw, List.length_cons, List.length_nil, Option.toList, List.nil_append, List.cons_append, true_and, and_true, if_true, if_false, ne_eq, not_true, not_false_eq_true, and_self, true_or, or_true, false_or, or_false, false_and, and_false, b_2 hc, b_3 hc, b_9 hc, b_12 hc, b_26 hc, b_40 hc, b_46 hc, b_47 hc, b_60 hc, b_62 hc, b_63 hc, b_76 hc, b_77 hc, b_90 hc, b_91 hc, b_104 hc, b_107 hc, b_114 hc, b_115 hc, b_122 hc, b_123 hc, b_131 hc, b_2 hc, r_2_0 hc, r_2_1 hc, r_2_2 hc, r_2_3 hc, r_2_4 hc, r_2_5 hc, x_61 hc, n_61 hc, r_2_6 hc, r_2_7 hc, r_2_8 hc, r_2_9 hc, b_46 hc, r_46_0 hc, r_46_1 hc, x_54 hc, r_46_2 hc, x_55 hc, r_46_3 hc, x_56 hc, r_46_4 hc, x_57 hc, r_46_5 hc, x_58 hc, r_46_6 hc, x_59 hc, b_47 hc, r_47_0 hc, x_48 hc, n_48 hc, cIsDoor _ h.1, hd0, q0, hv, ua_eq]
      refine cForgetPlans (d := D - 1) hc (by omega) ?_
      intro μ1 hf p9 p10 p4
      simp (disch := omega) only [x109_0, x109_1, x109_2, x109_5, x109_8, x109_9, x109_10, x109_11, x109_12, x109_13, x109_14, x109_15, x109_18, x109_21, x109_22, x109_25, x109_26, x109_29, x109_32, x109_35, x109_36, x109_37, x109_40, x109_41, x109_44, x109_47, x109_50, x109_51, x109_52, x109_53, x109_54, x109_57, x109_58, x109_61, x109_62, ↓reduceIte, Bool.false_eq_true, Nat.reduceAdd, Nat.reduceLT, Nat.reduceLeDiff, Nat.reduceSub, Nat.reduceEqDiff, Int.reduceToNat, Int.reduceEq, Int.reduceLT, Int.reduceLE, Int.reduceAdd, Int.reduceSub, zg, zI, zJ, zR, zst, zkl, zn, zcat, zok, zraw, List.length_cons, List.length_nil, Option.toList, List.nil_append, List.cons_append, true_and, and_true, if_true, if_false, ne_eq, not_true, not_false_eq_true, and_self, true_or, or_true, false_or, or_false, false_and, and_false, b_2 hc, b_3 hc, b_9 hc, b_12 hc, b_26 hc, b_40 hc, b_46 hc, b_47 hc, b_60 hc, b_62 hc, b_63 hc, b_76 hc, b_77 hc, b_90 hc, b_91 hc, b_104 hc, b_107 hc, b_114 hc, b_115 hc, b_122 hc, b_123 hc, b_131 hc]
      refine fin _ hx.1 (fun j hj => ?_) μ1 hf p9 p10 p4
      have := hx.2 ⟨j, hj⟩
      simp only [Fin.mk.injEq] at this
      exact this
    · have hx := op_or ⟨v, hv64⟩ ⟨N, hN⟩
      simp only at hx
      simp (disch := omega) only [x109_0, x109_1, x109_2, x109_5, x109_8, x109_9, x109_10, x109_11, x109_12, x109_13, x109_14, x109_15, x109_18, x109_21, x109_22, x109_25, x109_26, x109_29, x109_32, x109_35, x109_36, x109_37, x109_40, x109_41, x109_44, x109_47, x109_50, x109_51, x109_52, x109_53, x109_54, x109_57, x109_58, x109_61, x109_62, ↓reduceIte, Bool.false_eq_true, Nat.reduceAdd, Nat.reduceLT, Nat.reduceLeDiff, Nat.reduceSub, Nat.reduceEqDiff, Int.reduceToNat, Int.reduceEq, Int.reduceLT, Int.reduceLE, Int.reduceAdd, Int.reduceSub, zg, zI, zJ, zR, zst, zkl, zn, zcat, zok, zraw, List.length_cons, List.length_nil, Option.toList, List.nil_append, List.cons_append, true_and, and_true, if_true, if_false, ne_eq, not_true, not_false_eq_true, and_self, true_or, or_true, false_or, or_false, false_and, and_false, b_2 hc, b_3 hc, b_9 hc, b_12 hc, b_26 hc, b_40 hc, b_46 hc, b_47 hc, b_60 hc, b_62 hc, b_63 hc, b_76 hc, b_77 hc, b_90 hc, b_91 hc, b_104 hc, b_107 hc, b_114 hc, b_115 hc, b_122 hc, b_123 hc, b_131 hc, b_2 hc, r_2_0 hc, r_2_1 hc, r_2_2 hc, r_2_3 hc, r_2_4 hc, r_2_5 hc, x_61 hc, n_61 hc, r_2_6 hc, r_2_7 hc, r_2_8 hc, r_2_9 hc, b_46 hc, r_46_0 hc, r_46_1 hc, x_54 hc, r_46_2 hc, x_55 hc, r_46_3 hc, x_56 hc, r_46_4 hc, x_57 hc, r_46_5 hc, x_58 hc, r_46_6 hc, x_59 hc, b_47 hc, r_47_0 hc, x_48 hc, n_48 hc, cIsDoor _ h.1, hd0, q0, hv, ua_eq]
      refine cForgetPlans (d := D - 1) hc (by omega) ?_
      intro μ1 hf p9 p10 p4
      simp (disch := omega) only [x109_0, x109_1, x109_2, x109_5, x109_8, x109_9, x109_10, x109_11, x109_12, x109_13, x109_14, x109_15, x109_18, x109_21, x109_22, x109_25, x109_26, x109_29, x109_32, x109_35, x109_36, x109_37, x109_40, x109_41, x109_44, x109_47, x109_50, x109_51, x109_52, x109_53, x109_54, x109_57, x109_58, x109_61, x109_62, ↓reduceIte, Bool.false_eq_true, Nat.reduceAdd, Nat.reduceLT, Nat.reduceLeDiff, Nat.reduceSub, Nat.reduceEqDiff, Int.reduceToNat, Int.reduceEq, Int.reduceLT, Int.reduceLE, Int.reduceAdd, Int.reduceSub, zg, zI, zJ, zR, zst, zkl, zn, zcat, zok, zraw, List.length_cons, List.length_nil, Option.toList, List.nil_append, List.cons_append, true_and, and_true, if_true, if_false, ne_eq, not_true, not_false_eq_true, and_self, true_or, or_true, false_or, or_false, false_and, and_false, b_2 hc, b_3 hc, b_9 hc, b_12 hc, b_26 hc, b_40 hc, b_46 hc, b_47 hc, b_60 hc, b_62 hc, b_63 hc, b_76 hc, b_77 hc, b_90 hc, b_91 hc, b_104 hc, b_107 hc, b_114 hc, b_115 hc, b_122 hc, b_123 hc, b_131 hc]
      refine fin _ hx.1 (fun j hj => ?_) μ1 hf p9 p10 p4
      have := hx.2 ⟨j, hj⟩
      simp only [Fin.mk.injEq] at this
      exact this
  · unfold sOpen vOpen at hQ
    rw [if_neg q0, if_neg q0] at hQ
    simp (disch := omega) only [x109_0, x109_1, x109_2, x109_5, x109_8, x109_9, x109_10, x109_11, x109_12, x109_13, x109_14, x109_15, x109_18, x109_21, x109_22, x109_25, x109_26, x109_29, x109_32, x109_35, x109_36, x109_37, x109_40, x109_41, x109_44, x109_47, x109_50, x109_51, x109_52, x109_53, x109_54, x109_57, x109_58, x109_61, x109_62, ↓reduceIte, Bool.false_eq_true, Nat.reduceAdd, Nat.reduceLT, Nat.reduceLeDiff, Nat.reduceSub, Nat.reduceEqDiff, Int.reduceToNat, Int.reduceEq, Int.reduceLT, Int.reduceLE, Int.reduceAdd, Int.reduceSub, zg, zI, zJ, zR, zst, zkl, zn, zcat, zok, zraw, List.length_cons, List.length_nil, Option.toList, List.nil_append, List.cons_append, true_and, and_true, if_true, if_false, ne_eq, not_true, not_false_eq_true, and_self, true_or, or_true, false_or, or_false, false_and, and_false, b_2 hc, b_3 hc, b_9 hc, b_12 hc, b_26 hc, b_40 hc, b_46 hc, b_47 hc, b_60 hc, b_62 hc, b_63 hc, b_76 hc, b_77 hc, b_90 hc, b_91 hc, b_104 hc, b_107 hc, b_114 hc, b_115 hc, b_122 hc, b_123 hc, b_131 hc, b_2 hc, r_2_0 hc, r_2_1 hc, r_2_2 hc, r_2_3 hc, r_2_4 hc, r_2_5 hc, x_61 hc, n_61 hc, r_2_6 hc, r_2_7 hc, r_2_8 hc, r_2_9 hc, b_46 hc, r_46_0 hc, r_46_1 hc, x_54 hc, r_46_2 hc, x_55 hc, r_46_3 hc, x_56 hc, r_46_4 hc, x_57 hc, r_46_5 hc, x_58 hc, r_46_6 hc, x_59 hc, b_47 hc, r_47_0 hc, x_48 hc, n_48 hc, cIsDoor _ h.1, hd0, q0]
    exact hQ μ (fun _ _ => rfl) h
theorem mIsDoorE {d : Nat} {τ : zT} {s : Nat} (h : MX θ τ s μ) (hd : 1 ≤ d) (k : Int) : Ex d 205 0 [vr 138, vi k] [] θ μ Q = Q (some (vi (if 0 ≤ k ∧ k < (tD τ : Int) then 1 else 0))) θ μ := by
  have hm := h.1
  have hd0 : 0 < d := by omega
  have h18 := h.2.2.2.1
  have hs := h.2.2.2.2
  have D6 := h.2.1.2.2.2.2.1
  have e157 : μ 157 s = (tD τ : Nat) := ((TM_iff.mp h.2.2.1).2.1).1
  have p1 : (0 : Int) ≤ (s : Int) := by omega
  have p2 : (s : Int) < 2 := by omega
  have e : (0 ≤ k ∧ k ≤ (tD τ : Int) - 1) = (0 ≤ k ∧ k < (tD τ : Int)) := propext (by omega)
  have l1 : -2147483648 ≤ (tD τ : Int) - 1 := by omega
  have l2 : (tD τ : Int) - 1 ≤ 2147483647 := by omega
  simp only [x205_0, x205_1, x205_2, x205_3, x205_6, x205_7, x205_10, x205_11, x205_12, x205_13, x205_16, ↓reduceIte, Bool.false_eq_true, Nat.reduceAdd, Nat.reduceLT, Nat.reduceLeDiff, Nat.reduceSub, Nat.reduceEqDiff, Int.reduceToNat, Int.reduceEq, Int.reduceLT, Int.reduceLE, Int.reduceAdd, Int.reduceSub, zg, zI, zJ, zR, zst, zkl, zn, zcat, zok, zraw, List.length_cons, List.length_nil, Option.toList, List.nil_append, List.cons_append, true_and, and_true, if_true, if_false, ne_eq, not_true, not_false_eq_true, and_self, true_or, or_true, false_or, or_false, false_and, and_false, b_138 hm, r_138_32 hm, h18, x_157 hm p1 p2, Int.toNat_natCast, e157, w32_i l1 l2, hd0, mIn, e]
  by_cases q : 0 ≤ k ∧ k < (tD τ : Int) <;> simp [q]
theorem rOpen {D : Nat} {k b : Int} (h : MS θ σ s μ) (hd : 11 ≤ D) (hb : b = 0 ∨ b = 1) (hQ : ∀ μ', ML2 μ μ' → MS θ (sOpen σ k b) s μ' → Q (some (vi (vOpen σ k))) θ μ') : Ex D 210 0 [vr 138, vi k, vi b] [] θ μ Q := by
  have hm := h.1.1
  have hd0 : 0 < D := by omega
  have hd1 : 1 ≤ D - 1 := by omega
  have hD6 := h.1.2.1.2.2.2.2.1
  unfold sOpen vOpen at hQ
  by_cases q0 : 0 ≤ k ∧ k < (tD (sT σ) : Int)
  · rw [if_pos q0, if_pos q0] at hQ
    obtain ⟨N, rfl⟩ : ∃ N : Nat, k = (N : Int) := ⟨k.toNat, by omega⟩
    rw [Int.toNat_natCast] at hQ
    have i1 : (0 : Int) ≤ (N : Int) := by omega
    have i2 : (N : Int) < 6 := by omega
    obtain ⟨⟨r1, r2, r3, r4⟩, r5⟩ := h.2.2.1.1
    have F : Fr [138, 172, 173, 174, 175, 176, 177] μ (us μ 177 (zup (μ 177) N b)) := Fr.us (by simp) Fr.refl
    have := hQ _ (MLe_fr F (by decide)) (MS_roof h F (fun j _ => by rw [us_ne (by decide)]) ⟨⟨opF_w (k := N) r1 hb, fun t ht => by rw [us_ne (by decide), us_ne (by decide), us_ne (by decide), us_ne (by decide)]; exact r2 t ht, fun j hj => ?_, by rw [us_ne (by decide)]; exact r4⟩, fun t ht => by rw [us_ne (by decide)]; exact r5 t ht⟩)
    · simp only [x210_0, x210_1, x210_2, x210_5, x210_8, x210_9, x210_10, x210_11, x210_14, x210_15, x210_16, x210_17, x210_18, ↓reduceIte, Bool.false_eq_true, Nat.reduceAdd, Nat.reduceLT, Nat.reduceLeDiff, Nat.reduceSub, Nat.reduceEqDiff, Int.reduceToNat, Int.reduceEq, Int.reduceLT, Int.reduceLE, Int.reduceAdd, Int.reduceSub, zg, zI, zJ, zR, zst, zkl, zn, zcat, zok, zraw, List.length_cons, List.length_nil, Option.toList, List.nil_append, List.cons_append, true_and, and_true, if_true, if_false, ne_eq, not_true, not_false_eq_true, and_self, true_or, or_true, false_or, or_false, false_and, and_false, b_138 hm, r_138_56 hm, x_177 hm i1 i2, n_177 hm, mIsDoorE h.1 hd1, hd0, q0, ua_eq, Int.toNat_natCast, hb]
      exact this
    · rw [us_same]
      show _ = zup (gR (sG σ)).2.1 N b j
      by_cases e : j = N
      · rw [zup_same e, zup_same e]
      · rw [zup_ne e, zup_ne e]; exact r3 j hj
  · rw [if_neg q0, if_neg q0] at hQ
    simp only [x210_0, x210_1, x210_2, x210_5, x210_8, x210_9, x210_10, x210_11, x210_14, x210_15, x210_16, x210_17, x210_18, ↓reduceIte, Bool.false_eq_true, Nat.reduceAdd, Nat.reduceLT, Nat.reduceLeDiff, Nat.reduceSub, Nat.reduceEqDiff, Int.reduceToNat, Int.reduceEq, Int.reduceLT, Int.reduceLE, Int.reduceAdd, Int.reduceSub, zg, zI, zJ, zR, zst, zkl, zn, zcat, zok, zraw, List.length_cons, List.length_nil, Option.toList, List.nil_append, List.cons_append, true_and, and_true, if_true, if_false, ne_eq, not_true, not_false_eq_true, and_self, true_or, or_true, false_or, or_false, false_and, and_false, b_138 hm, mIsDoorE h.1 hd1, hd0, q0]
    exact hQ μ (fun _ _ => rfl) h
/-! CELLS -/
def ciO (c : Int) : Int := if (0 ≤ c ∧ c < 4000) ∧ c / 100 % 10 ≤ 5 ∧ c % 100 < 20 then ((ixO c : Nat) : Int) else -1
theorem ix_b {c : Int} (h : clI c) : ixO c < 480 ∧ ((ixO c : Nat) : Int) = 120 * (c / 1000) + 20 * (c / 100 % 10) + c % 100 := by
  obtain ⟨h1, h2, h3⟩ := h
  unfold ixO; omega
theorem cCellIx (d : Nat) (c : Int) (θ : zS) (μ : zM) (Q : Option zV → zS → zM → Prop) : Ex d 158 0 [vi c, vU, vU] [] θ μ Q = Q (some (vi (ciO c))) θ μ := by
  unfold ciO
  by_cases c0 : c < 0
  · rw [if_neg (by omega)]
    simp only [x158_0, x158_1, x158_4, x158_5, x158_8, x158_11, x158_12, x158_13, x158_14, x158_16, x158_17, x158_19, x158_20, x158_21, x158_22, x158_24, x158_25, x158_26, x158_27, x158_28, x158_31, x158_32, x158_34, x158_37, x158_38, x158_39, x158_40, x158_43, x158_44, x158_46, x158_47, x158_48, x158_50, x158_51, x158_52, x158_53, x158_54, ↓reduceIte, Bool.false_eq_true, Nat.reduceAdd, Nat.reduceLT, Nat.reduceLeDiff, Nat.reduceSub, Nat.reduceEqDiff, Int.reduceToNat, Int.reduceEq, Int.reduceLT, Int.reduceLE, Int.reduceAdd, Int.reduceSub, zg, zI, zJ, zR, zst, zkl, zn, zcat, zok, zraw, List.length_cons, List.length_nil, Option.toList, List.nil_append, List.cons_append, true_and, and_true, if_true, if_false, ne_eq, not_true, not_false_eq_true, and_self, true_or, or_true, false_or, or_false, false_and, and_false, c0]
  · by_cases c1 : c < 4000
    · have t1 : c.tdiv 100 = c / 100 := Int.tdiv_eq_ediv_of_nonneg (by omega)
      have t2 : (c / 100).tmod 10 = c / 100 % 10 := Int.tmod_eq_emod_of_nonneg (by omega)
      have t3 : c.tmod 100 = c % 100 := Int.tmod_eq_emod_of_nonneg (by omega)
      have t4 : c.tdiv 1000 = c / 1000 := Int.tdiv_eq_ediv_of_nonneg (by omega)
      have a1 : -2147483648 ≤ c / 100 := by omega
      have a2 : c / 100 ≤ 2147483647 := by omega
      have a3 : -2147483648 ≤ c / 1000 := by omega
      have a4 : c / 1000 ≤ 2147483647 := by omega
      have a5 : -2147483648 ≤ c / 1000 * 120 := by omega
      have a6 : c / 1000 * 120 ≤ 2147483647 := by omega
      have a7 : -2147483648 ≤ c / 100 % 10 * 20 := by omega
      have a8 : c / 100 % 10 * 20 ≤ 2147483647 := by omega
      have a9 : -2147483648 ≤ c / 1000 * 120 + c / 100 % 10 * 20 := by omega
      have aA : c / 1000 * 120 + c / 100 % 10 * 20 ≤ 2147483647 := by omega
      have aB : -2147483648 ≤ c / 1000 * 120 + c / 100 % 10 * 20 + c % 100 := by omega
      have aC : c / 1000 * 120 + c / 100 % 10 * 20 + c % 100 ≤ 2147483647 := by omega
      by_cases c2 : 5 < c / 100 % 10
      · rw [if_neg (by omega)]
        simp only [x158_0, x158_1, x158_4, x158_5, x158_8, x158_11, x158_12, x158_13, x158_14, x158_16, x158_17, x158_19, x158_20, x158_21, x158_22, x158_24, x158_25, x158_26, x158_27, x158_28, x158_31, x158_32, x158_34, x158_37, x158_38, x158_39, x158_40, x158_43, x158_44, x158_46, x158_47, x158_48, x158_50, x158_51, x158_52, x158_53, x158_54, ↓reduceIte, Bool.false_eq_true, Nat.reduceAdd, Nat.reduceLT, Nat.reduceLeDiff, Nat.reduceSub, Nat.reduceEqDiff, Int.reduceToNat, Int.reduceEq, Int.reduceLT, Int.reduceLE, Int.reduceAdd, Int.reduceSub, zg, zI, zJ, zR, zst, zkl, zn, zcat, zok, zraw, List.length_cons, List.length_nil, Option.toList, List.nil_append, List.cons_append, true_and, and_true, if_true, if_false, ne_eq, not_true, not_false_eq_true, and_self, true_or, or_true, false_or, or_false, false_and, and_false, c0, c1, t1, w32_i a1 a2, t2, t3, c2]
      · by_cases c3 : c % 100 < 20
        · have hcl : clI c := ⟨⟨by omega, c1⟩, by omega, c3⟩
          have e := (ix_b hcl).2
          rw [if_pos ⟨⟨by omega, c1⟩, by omega, c3⟩]
          have e' : ((ixO c : Nat) : Int) = c / 1000 * 120 + c / 100 % 10 * 20 + c % 100 := by omega
          simp only [x158_0, x158_1, x158_4, x158_5, x158_8, x158_11, x158_12, x158_13, x158_14, x158_16, x158_17, x158_19, x158_20, x158_21, x158_22, x158_24, x158_25, x158_26, x158_27, x158_28, x158_31, x158_32, x158_34, x158_37, x158_38, x158_39, x158_40, x158_43, x158_44, x158_46, x158_47, x158_48, x158_50, x158_51, x158_52, x158_53, x158_54, ↓reduceIte, Bool.false_eq_true, Nat.reduceAdd, Nat.reduceLT, Nat.reduceLeDiff, Nat.reduceSub, Nat.reduceEqDiff, Int.reduceToNat, Int.reduceEq, Int.reduceLT, Int.reduceLE, Int.reduceAdd, Int.reduceSub, zg, zI, zJ, zR, zst, zkl, zn, zcat, zok, zraw, List.length_cons, List.length_nil, Option.toList, List.nil_append, List.cons_append, true_and, and_true, if_true, if_false, ne_eq, not_true, not_false_eq_true, and_self, true_or, or_true, false_or, or_false, false_and, and_false, c0, c1, t1, w32_i a1 a2, t2, t3, c2, c3, t4, w32_i a3 a4, w32_i a5 a6, w32_i a7 a8, w32_i a9 aA, w32_i aB aC, e']
        · rw [if_neg (by omega)]
          simp only [x158_0, x158_1, x158_4, x158_5, x158_8, x158_11, x158_12, x158_13, x158_14, x158_16, x158_17, x158_19, x158_20, x158_21, x158_22, x158_24, x158_25, x158_26, x158_27, x158_28, x158_31, x158_32, x158_34, x158_37, x158_38, x158_39, x158_40, x158_43, x158_44, x158_46, x158_47, x158_48, x158_50, x158_51, x158_52, x158_53, x158_54, ↓reduceIte, Bool.false_eq_true, Nat.reduceAdd, Nat.reduceLT, Nat.reduceLeDiff, Nat.reduceSub, Nat.reduceEqDiff, Int.reduceToNat, Int.reduceEq, Int.reduceLT, Int.reduceLE, Int.reduceAdd, Int.reduceSub, zg, zI, zJ, zR, zst, zkl, zn, zcat, zok, zraw, List.length_cons, List.length_nil, Option.toList, List.nil_append, List.cons_append, true_and, and_true, if_true, if_false, ne_eq, not_true, not_false_eq_true, and_self, true_or, or_true, false_or, or_false, false_and, and_false, c0, c1, t1, w32_i a1 a2, t2, t3, c2, c3]
    · rw [if_neg (by omega)]
      simp only [x158_0, x158_1, x158_4, x158_5, x158_8, x158_11, x158_12, x158_13, x158_14, x158_16, x158_17, x158_19, x158_20, x158_21, x158_22, x158_24, x158_25, x158_26, x158_27, x158_28, x158_31, x158_32, x158_34, x158_37, x158_38, x158_39, x158_40, x158_43, x158_44, x158_46, x158_47, x158_48, x158_50, x158_51, x158_52, x158_53, x158_54, ↓reduceIte, Bool.false_eq_true, Nat.reduceAdd, Nat.reduceLT, Nat.reduceLeDiff, Nat.reduceSub, Nat.reduceEqDiff, Int.reduceToNat, Int.reduceEq, Int.reduceLT, Int.reduceLE, Int.reduceAdd, Int.reduceSub, zg, zI, zJ, zR, zst, zkl, zn, zcat, zok, zraw, List.length_cons, List.length_nil, Option.toList, List.nil_append, List.cons_append, true_and, and_true, if_true, if_false, ne_eq, not_true, not_false_eq_true, and_self, true_or, or_true, false_or, or_false, false_and, and_false, c0, c1]
theorem mYardOf (d : Nat) {c : Int} (h : clI c) (θ : zS) (μ : zM) (Q : Option zV → zS → zM → Prop) : Ex d 236 0 [vi c] [] θ μ Q = Q (some (vi (ixO c : Nat))) θ μ := by
  have e := (ix_b h).2
  obtain ⟨⟨c0, c1⟩, c2, c3⟩ := h
  have t1 : c.tdiv 100 = c / 100 := Int.tdiv_eq_ediv_of_nonneg (by omega)
  have t2 : (c / 100).tmod 10 = c / 100 % 10 := Int.tmod_eq_emod_of_nonneg (by omega)
  have t3 : c.tmod 100 = c % 100 := Int.tmod_eq_emod_of_nonneg (by omega)
  have t4 : c.tdiv 1000 = c / 1000 := Int.tdiv_eq_ediv_of_nonneg (by omega)
  have a1 : -2147483648 ≤ c / 100 := by omega
  have a2 : c / 100 ≤ 2147483647 := by omega
  have a3 : -2147483648 ≤ c / 1000 := by omega
  have a4 : c / 1000 ≤ 2147483647 := by omega
  have a5 : -2147483648 ≤ 120 * (c / 1000) := by omega
  have a6 : 120 * (c / 1000) ≤ 2147483647 := by omega
  have a7 : -2147483648 ≤ 20 * (c / 100 % 10) := by omega
  have a8 : 20 * (c / 100 % 10) ≤ 2147483647 := by omega
  have a9 : -2147483648 ≤ 120 * (c / 1000) + 20 * (c / 100 % 10) := by omega
  have aA : 120 * (c / 1000) + 20 * (c / 100 % 10) ≤ 2147483647 := by omega
  have aB : -2147483648 ≤ 120 * (c / 1000) + 20 * (c / 100 % 10) + c % 100 := by omega
  have aC : 120 * (c / 1000) + 20 * (c / 100 % 10) + c % 100 ≤ 2147483647 := by omega
  simp only [x236_0, x236_2, x236_3, x236_6, x236_7, x236_8, x236_10, x236_11, x236_13, x236_14, x236_16, x236_17, x236_18, x236_19, x236_20, x236_22, x236_23, x236_24, ↓reduceIte, Bool.false_eq_true, Nat.reduceAdd, Nat.reduceLT, Nat.reduceLeDiff, Nat.reduceSub, Nat.reduceEqDiff, Int.reduceToNat, Int.reduceEq, Int.reduceLT, Int.reduceLE, Int.reduceAdd, Int.reduceSub, zg, zI, zJ, zR, zst, zkl, zn, zcat, zok, zraw, List.length_cons, List.length_nil, Option.toList, List.nil_append, List.cons_append, true_and, and_true, if_true, if_false, ne_eq, not_true, not_false_eq_true, and_self, true_or, or_true, false_or, or_false, false_and, and_false, t1, w32_i a1 a2, t2, t3, t4, w32_i a3 a4, w32_i a5 a6, w32_i a7 a8, w32_i a9 aA, w32_i aB aC, e]
theorem mIsCell {d : Nat} (hd : 0 < d) (c : Int) (θ : zS) (μ : zM) (Q : Option zV → zS → zM → Prop) : Ex d 237 0 [vi c] [] θ μ Q = Q (some (vi (if (0 ≤ c ∧ c < 4000) ∧ c / 100 % 10 ≤ 5 ∧ c % 100 < 20 then 1 else 0))) θ μ := by
  by_cases c0 : 0 ≤ c ∧ c ≤ 3999
  · have t1 : c.tdiv 100 = c / 100 := Int.tdiv_eq_ediv_of_nonneg (by omega)
    have t2 : (c / 100).tmod 10 = c / 100 % 10 := Int.tmod_eq_emod_of_nonneg (by omega)
    have t3 : c.tmod 100 = c % 100 := Int.tmod_eq_emod_of_nonneg (by omega)
    have a1 : -2147483648 ≤ c / 100 := by omega
    have a2 : c / 100 ≤ 2147483647 := by omega
    by_cases c2 : 6 ≤ c / 100 % 10
    · rw [if_neg (by omega)]
      simp only [x237_0, x237_1, x237_2, x237_5, x237_8, x237_11, x237_12, x237_14, x237_15, x237_17, x237_18, x237_20, x237_23, x237_24, x237_26, x237_27, x237_29, x237_32, x237_33, x237_36, x237_37, ↓reduceIte, Bool.false_eq_true, Nat.reduceAdd, Nat.reduceLT, Nat.reduceLeDiff, Nat.reduceSub, Nat.reduceEqDiff, Int.reduceToNat, Int.reduceEq, Int.reduceLT, Int.reduceLE, Int.reduceAdd, Int.reduceSub, zg, zI, zJ, zR, zst, zkl, zn, zcat, zok, zraw, List.length_cons, List.length_nil, Option.toList, List.nil_append, List.cons_append, true_and, and_true, if_true, if_false, ne_eq, not_true, not_false_eq_true, and_self, true_or, or_true, false_or, or_false, false_and, and_false, hd, mIn, c0, t1, w32_i a1 a2, t2, c2]
    · by_cases c3 : 20 ≤ c % 100
      · rw [if_neg (by omega)]
        simp only [x237_0, x237_1, x237_2, x237_5, x237_8, x237_11, x237_12, x237_14, x237_15, x237_17, x237_18, x237_20, x237_23, x237_24, x237_26, x237_27, x237_29, x237_32, x237_33, x237_36, x237_37, ↓reduceIte, Bool.false_eq_true, Nat.reduceAdd, Nat.reduceLT, Nat.reduceLeDiff, Nat.reduceSub, Nat.reduceEqDiff, Int.reduceToNat, Int.reduceEq, Int.reduceLT, Int.reduceLE, Int.reduceAdd, Int.reduceSub, zg, zI, zJ, zR, zst, zkl, zn, zcat, zok, zraw, List.length_cons, List.length_nil, Option.toList, List.nil_append, List.cons_append, true_and, and_true, if_true, if_false, ne_eq, not_true, not_false_eq_true, and_self, true_or, or_true, false_or, or_false, false_and, and_false, hd, mIn, c0, t1, w32_i a1 a2, t2, t3, c2, c3]
      · rw [if_pos (by omega)]
        simp only [x237_0, x237_1, x237_2, x237_5, x237_8, x237_11, x237_12, x237_14, x237_15, x237_17, x237_18, x237_20, x237_23, x237_24, x237_26, x237_27, x237_29, x237_32, x237_33, x237_36, x237_37, ↓reduceIte, Bool.false_eq_true, Nat.reduceAdd, Nat.reduceLT, Nat.reduceLeDiff, Nat.reduceSub, Nat.reduceEqDiff, Int.reduceToNat, Int.reduceEq, Int.reduceLT, Int.reduceLE, Int.reduceAdd, Int.reduceSub, zg, zI, zJ, zR, zst, zkl, zn, zcat, zok, zraw, List.length_cons, List.length_nil, Option.toList, List.nil_append, List.cons_append, true_and, and_true, if_true, if_false, ne_eq, not_true, not_false_eq_true, and_self, true_or, or_true, false_or, or_false, false_and, and_false, hd, mIn, c0, t1, w32_i a1 a2, t2, t3, c2, c3]
  · rw [if_neg (by omega)]
    simp only [x237_0, x237_1, x237_2, x237_5, x237_8, x237_11, x237_12, x237_14, x237_15, x237_17, x237_18, x237_20, x237_23, x237_24, x237_26, x237_27, x237_29, x237_32, x237_33, x237_36, x237_37, ↓reduceIte, Bool.false_eq_true, Nat.reduceAdd, Nat.reduceLT, Nat.reduceLeDiff, Nat.reduceSub, Nat.reduceEqDiff, Int.reduceToNat, Int.reduceEq, Int.reduceLT, Int.reduceLE, Int.reduceAdd, Int.reduceSub, zg, zI, zJ, zR, zst, zkl, zn, zcat, zok, zraw, List.length_cons, List.length_nil, Option.toList, List.nil_append, List.cons_append, true_and, and_true, if_true, if_false, ne_eq, not_true, not_false_eq_true, and_self, true_or, or_true, false_or, or_false, false_and, and_false, hd, mIn, c0]
end OP
