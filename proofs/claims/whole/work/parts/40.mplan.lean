/-! THE REFERENCE: HARM, nails -/
def MR (τ : zT) (ρ : zF) (μ : zM) : Prop := ML τ ρ μ ∧ ∀ t, t < tn τ → μ 172 t = 1 - ρ.1 0 t
def MU (G : zU) (μ : zM) : Prop := μ 138 62 = (G.1 : Nat) ∧ ∀ k, k < G.1 → μ 181 k = G.2.1 k ∧ μ 182 k = G.2.2.1 k ∧ μ 183 k = G.2.2.2 k
section MP
variable {θ : zS} {τ : zT} {s : Nat} {Q : Option zV → zS → zM → Prop} {μ : zM} {ρ : zF} {G : zU} {g w : Int}
theorem MR_fr {μ' : zM} {A : List Nat} (h : MR τ ρ μ) (hf : Fr A μ μ') (hA : ∀ a ∈ A, ¬ (172 ≤ a ∧ a ≤ 177)) (h57 : μ' 138 57 = μ 138 57) : MR τ ρ μ' :=
  ⟨ML_fr h.1 hf (fun a ha hh => hA a ha ⟨by omega, hh.2⟩) h57, by rw [hf 172 (fun hm => hA 172 hm ⟨by decide, by decide⟩)]; exact h.2⟩
theorem MU_fr {μ' : zM} {A : List Nat} (h : MU G μ) (hf : Fr A μ μ') (hA : 181 ∉ A ∧ 182 ∉ A ∧ 183 ∉ A) (h62 : μ' 138 62 = μ 138 62) : MU G μ' := by
  unfold MU; rw [hf _ hA.1, hf _ hA.2.1, hf _ hA.2.2, h62]; exact h
/-- the reference's fields that stay -/
def J5 (μ μ' : zM) : Prop := ∀ j, j ≠ 50 → j ≠ 69 → μ' 138 j = μ 138 j
theorem mFall {d : Nat} {x y : Int} (hd : 6 ≤ d) (h : MX θ τ s μ) (hR : MR τ ρ μ) (hg : 0 ≤ g ∧ g ≤ 99) (hwy : 0 ≤ w ∧ w ≤ 3) (hx : x = g) (hy : y = w)
    (hQ : ∀ μ', Fr GF μ μ' → J5 μ μ' → FU τ ρ g w (gnO τ ρ) μ' → Q (some (vi (faO τ ρ g w))) θ μ') : Ex d 227 0 [vr 138, vi x, vi y] [] θ μ Q :=
  mFallsNow hd h hR.1 hR.2 hg hwy hx hy hQ
theorem mHarm {d : Nat} {x1 x2 : zV} (hd : 7 ≤ d) (h : MX θ τ s μ) (hR : MR τ ρ μ) (hG : wfU G) (hU : MU G μ)
    (hQ : ∀ μ', Fr GF μ μ' → J5 μ μ' → Q (some (vi (haO τ ρ G))) θ μ') : Ex d 247 0 [vr 138, x1, x2] [] θ μ Q := by
  have hX := h
  have hm := h.1
  have hw := h.2.1
  have hd0 : 0 < d := by omega
  have hb := fun n hn => ha_b (n := n) hw ρ hG hn
  have key : ∀ t L μ1, t ≤ G.1 → (L = [vr 138, vi (sm (haF τ ρ G) t), vi (t : Nat)] ∧ Fr GF μ μ1 ∧ J5 μ μ1) → Ex d 247 4 L [] θ μ1 Q := by
    refine Ex_loop (I := fun t L μ1 => L = [vr 138, vi (sm (haF τ ρ G) t), vi (t : Nat)] ∧ Fr GF μ μ1 ∧ J5 μ μ1) G.1 ?_ ?_
    · rintro t L μ1 ht ⟨rfl, hf, hj⟩ hk
      have X1 : MX θ τ s μ1 := MX_fr hX hf (by decide) (hj 18 (by decide) (by decide))
      have R1 : MR τ ρ μ1 := MR_fr hR hf (by decide) (hj 57 (by decide) (by decide))
      have U1 : MU G μ1 := MU_fr hU hf (by decide) (hj 62 (by decide) (by decide))
      have i1 : ¬ ((G.1 : Int) ≤ (t : Int)) := by omega
      have ge := U1.2 t ht
      have hgt := hG.2 t ht
      have ht4 := hG.1
      have hb1 := hb t (by omega)
      have hb2 := hb (t + 1) (by omega)
      rw [x247_4]
      simp (disch := omega) only [x247_0, x247_1, x247_2, x247_3, x247_5, x247_6, x247_9, x247_12, x247_13, x247_14, x247_17, x247_18, x247_19, x247_20, x247_21, x247_24, x247_25, x247_26, x247_27, x247_30, x247_31, x247_32, x247_35, x247_36, x247_37, x247_38, x247_41, x247_44, x247_45, ↓reduceIte, Bool.false_eq_true, Nat.reduceAdd, Nat.reduceLT, Nat.reduceLeDiff, Nat.reduceSub, Nat.reduceEqDiff, Int.reduceToNat, Int.reduceEq, Int.reduceLT, Int.reduceLE, Int.reduceAdd, Int.reduceSub, zg, zI, zJ, zR, zst, zkl, zn, zcat, zok, zraw, List.length_cons, List.length_nil, Option.toList, List.nil_append, List.cons_append, true_and, and_true, if_true, if_false, ne_eq, not_true, not_false_eq_true, and_self, true_or, or_true, false_or, or_false, false_and, and_false, b_138 hm, r_138_63 hm, x_181 hm, r_138_64 hm, x_182 hm, r_138_65 hm, x_183 hm, U1.1, i1, ge.1, ge.2.1, ge.2.2, Int.toNat_natCast, hd0]
      refine mFall (d := d - 1) (by omega) X1 R1 hgt.1 hgt.2.1 rfl rfl ?_
      intro μ2 hf2 hj2 _
      have hht := ha_t hw ρ hG ht
      have e1 : G.2.2.2 t * faO τ ρ (G.2.1 t) (G.2.2.1 t) = haF τ ρ G t := rfl
      have a1 : w32 (haF τ ρ G t) = haF τ ρ G t := w32_i (by omega) (by omega)
      have a2 : w32 (sm (haF τ ρ G) t + haF τ ρ G t) = sm (haF τ ρ G) (t + 1) := by
        simp only [sm] at hb2
        exact w32_i (by omega) (by omega)
      simp (disch := omega) only [x247_0, x247_1, x247_2, x247_3, x247_5, x247_6, x247_9, x247_12, x247_13, x247_14, x247_17, x247_18, x247_19, x247_20, x247_21, x247_24, x247_25, x247_26, x247_27, x247_30, x247_31, x247_32, x247_35, x247_36, x247_37, x247_38, x247_41, x247_44, x247_45, ↓reduceIte, Bool.false_eq_true, Nat.reduceAdd, Nat.reduceLT, Nat.reduceLeDiff, Nat.reduceSub, Nat.reduceEqDiff, Int.reduceToNat, Int.reduceEq, Int.reduceLT, Int.reduceLE, Int.reduceAdd, Int.reduceSub, zg, zI, zJ, zR, zst, zkl, zn, zcat, zok, zraw, List.length_cons, List.length_nil, Option.toList, List.nil_append, List.cons_append, true_and, and_true, if_true, if_false, ne_eq, not_true, not_false_eq_true, and_self, true_or, or_true, false_or, or_false, false_and, and_false, e1, a1, a2, w32_s]
      exact hk _ μ2 ⟨rfl, hf.trans hf2, fun j a b => by rw [hj2 j a b, hj j a b]⟩
    · rintro L μ1 ⟨rfl, hf, hj⟩
      have U1 : MU G μ1 := MU_fr hU hf (by decide) (hj 62 (by decide) (by decide))
      rw [x247_4]
      simp (disch := omega) only [x247_0, x247_1, x247_2, x247_3, x247_5, x247_6, x247_9, x247_12, x247_13, x247_14, x247_17, x247_18, x247_19, x247_20, x247_21, x247_24, x247_25, x247_26, x247_27, x247_30, x247_31, x247_32, x247_35, x247_36, x247_37, x247_38, x247_41, x247_44, x247_45, ↓reduceIte, Bool.false_eq_true, Nat.reduceAdd, Nat.reduceLT, Nat.reduceLeDiff, Nat.reduceSub, Nat.reduceEqDiff, Int.reduceToNat, Int.reduceEq, Int.reduceLT, Int.reduceLE, Int.reduceAdd, Int.reduceSub, zg, zI, zJ, zR, zst, zkl, zn, zcat, zok, zraw, List.length_cons, List.length_nil, Option.toList, List.nil_append, List.cons_append, true_and, and_true, if_true, if_false, ne_eq, not_true, not_false_eq_true, and_self, true_or, or_true, false_or, or_false, false_and, and_false, b_138 hm, U1.1, Int.le_refl]
      exact hQ μ1 hf hj
  simp (disch := omega) only [x247_0, x247_1, x247_2, x247_3, x247_5, x247_6, x247_9, x247_12, x247_13, x247_14, x247_17, x247_18, x247_19, x247_20, x247_21, x247_24, x247_25, x247_26, x247_27, x247_30, x247_31, x247_32, x247_35, x247_36, x247_37, x247_38, x247_41, x247_44, x247_45, ↓reduceIte, Bool.false_eq_true, Nat.reduceAdd, Nat.reduceLT, Nat.reduceLeDiff, Nat.reduceSub, Nat.reduceEqDiff, Int.reduceToNat, Int.reduceEq, Int.reduceLT, Int.reduceLE, Int.reduceAdd, Int.reduceSub, zg, zI, zJ, zR, zst, zkl, zn, zcat, zok, zraw, List.length_cons, List.length_nil, Option.toList, List.nil_append, List.cons_append, true_and, and_true, if_true, if_false, ne_eq, not_true, not_false_eq_true, and_self, true_or, or_true, false_or, or_false, false_and, and_false]
  exact key 0 _ μ (by omega) ⟨rfl, Fr.refl, fun _ _ _ => rfl⟩
theorem mCan {d t : Nat} {x : Int} (h : MX θ τ s μ) (hR : MR τ ρ μ) (hx : x = (t : Int)) (ht : t < tn τ) : Ex d 256 0 [vr 138, vi x] [] θ μ Q = Q (some (vi (b2 (canO ρ t)))) θ μ := by
  subst hx
  have hm := h.1
  have hn := tn_b h.2.1
  have e0 := hR.2 t ht
  have e1 := (hR.1.2.1 t ht).1
  have fw := hR.1.1.1 t ht
  unfold canO b2
  rcases fw.1 with a0 | a0 <;> rcases fw.2.1 with a1 | a1
  all_goals
    rw [a0] at e0
    rw [a1] at e1
    simp (disch := omega) only [x256_0, x256_1, x256_4, x256_5, x256_6, x256_9, x256_10, x256_13, x256_14, x256_15, x256_18, x256_19, x256_22, x256_23, ↓reduceIte, Bool.false_eq_true, Nat.reduceAdd, Nat.reduceLT, Nat.reduceLeDiff, Nat.reduceSub, Nat.reduceEqDiff, Int.reduceToNat, Int.reduceEq, Int.reduceLT, Int.reduceLE, Int.reduceAdd, Int.reduceSub, zg, zI, zJ, zR, zst, zkl, zn, zcat, zok, zraw, List.length_cons, List.length_nil, Option.toList, List.nil_append, List.cons_append, true_and, and_true, if_true, if_false, ne_eq, not_true, not_false_eq_true, and_self, true_or, or_true, false_or, or_false, false_and, and_false, b_138 hm, r_138_51 hm, x_172 hm, n_172 hm, r_138_52 hm, x_173 hm, n_173 hm, e0, e1, a0, a1, Int.toNat_natCast]
    simp
/-- a TILE nailed anew -/
theorem mNail {d t : Nat} {x : Int} (h : MX θ τ s μ) (hR : MR τ ρ μ) (hx : x = (t : Int)) (ht : t < tn τ) (hQ : ∀ μ', Fr [173, 175, 188] μ μ' → MR τ (naF ρ t) μ' → (∀ q, μ' 188 q = if q = t then ρ.1 3 t else μ 188 q) → Q none θ μ') : Ex d 257 0 [vr 138, vi x] [] θ μ Q := by
  subst hx
  have hm := h.1
  have hn := tn_b h.2.1
  have e := hR.1.2.1 t ht
  simp (disch := omega) only [x257_0, x257_1, x257_4, x257_5, x257_6, x257_9, x257_10, x257_11, x257_12, x257_13, x257_16, x257_17, x257_18, x257_19, x257_20, x257_23, x257_24, x257_25, x257_26, ↓reduceIte, Bool.false_eq_true, Nat.reduceAdd, Nat.reduceLT, Nat.reduceLeDiff, Nat.reduceSub, Nat.reduceEqDiff, Int.reduceToNat, Int.reduceEq, Int.reduceLT, Int.reduceLE, Int.reduceAdd, Int.reduceSub, zg, zI, zJ, zR, zst, zkl, zn, zcat, zok, zraw, List.length_cons, List.length_nil, Option.toList, List.nil_append, List.cons_append, true_and, and_true, if_true, if_false, ne_eq, not_true, not_false_eq_true, and_self, true_or, or_true, false_or, or_false, false_and, and_false, b_138 hm, r_138_52 hm, x_173 hm, n_173 hm, r_138_54 hm, x_175 hm, r_138_71 hm, x_188 hm, Int.toNat_natCast, ua_eq, us_ne, e.2.2.1]
  have hf : Fr [173, 175, 188] μ (us (us (us μ 188 (zup (μ 188) t (ρ.1 3 t))) 173 (zup (μ 173) t 1)) 175 (zup (μ 175) t 0)) := Fr.us (by decide) (Fr.us (by decide) (Fr.us (by decide) Fr.refl))
  refine hQ _ hf ⟨⟨naF_w hR.1.1, ?_, ?_, ?_⟩, ?_⟩ ?_
  · intro q hq
    have e := hR.1.2.1 q hq
    unfold naF
    rw [us_ne (by decide), us_same, us_same, hf 174 (by decide), hf 176 (by decide), zup_ap, zup_ap]
    by_cases h1 : q = t
    · simp [h1]; rw [← h1]; exact ⟨e.2.1, e.2.2.2⟩
    · simp [h1]; exact e
  · rw [hf 177 (by decide)]; exact hR.1.2.2.1
  · rw [hf 138 (by decide)]; exact hR.1.2.2.2
  · intro q hq; rw [hf 172 (by decide), hR.2 q hq]; simp [naF]
  · intro q; rw [us_ne (by decide), us_ne (by decide), us_same, zup_ap]
theorem mUnnail {d t : Nat} {x : Int} (h : MX θ τ s μ) (hR : MR τ (naF ρ t) μ) (hwF : wfF τ ρ) (hx : x = (t : Int)) (ht : t < tn τ) (h0 : ρ.1 1 t = 0) (hw3 : μ 188 t = ρ.1 3 t) (hQ : ∀ μ', Fr [173, 175] μ μ' → MR τ ρ μ' → Q none θ μ') : Ex d 258 0 [vr 138, vi x] [] θ μ Q := by
  subst hx
  have hm := h.1
  have hn := tn_b h.2.1
  simp (disch := omega) only [x258_0, x258_1, x258_4, x258_5, x258_6, x258_7, x258_8, x258_11, x258_12, x258_13, x258_16, x258_17, x258_18, x258_19, ↓reduceIte, Bool.false_eq_true, Nat.reduceAdd, Nat.reduceLT, Nat.reduceLeDiff, Nat.reduceSub, Nat.reduceEqDiff, Int.reduceToNat, Int.reduceEq, Int.reduceLT, Int.reduceLE, Int.reduceAdd, Int.reduceSub, zg, zI, zJ, zR, zst, zkl, zn, zcat, zok, zraw, List.length_cons, List.length_nil, Option.toList, List.nil_append, List.cons_append, true_and, and_true, if_true, if_false, ne_eq, not_true, not_false_eq_true, and_self, true_or, or_true, false_or, or_false, false_and, and_false, b_138 hm, r_138_52 hm, x_173 hm, n_173 hm, r_138_54 hm, x_175 hm, r_138_71 hm, x_188 hm, Int.toNat_natCast, ua_eq, us_ne, hw3]
  have hf : Fr [173, 175] μ (us (us μ 173 (zup (μ 173) t 0)) 175 (zup (μ 175) t (ρ.1 3 t))) := Fr.us (by decide) (Fr.us (by decide) Fr.refl)
  refine hQ _ hf ⟨⟨hwF, ?_, ?_, ?_⟩, ?_⟩
  · intro q hq
    have e := hR.1.2.1 q hq
    unfold naF at e
    rw [us_ne (by decide), us_same, us_same, hf 174 (by decide), hf 176 (by decide), zup_ap, zup_ap]
    by_cases h1 : q = t
    · subst h1; simp at e; simp; exact ⟨h0.symm, e.2.1, e.2.2.2⟩
    · simp [h1] at e; simp [h1]; exact e
  · rw [hf 177 (by decide)]; exact hR.1.2.2.1
  · rw [hf 138 (by decide)]; exact hR.1.2.2.2
  · intro q hq; rw [hf 172 (by decide), hR.2 q hq]; simp [naF]
/-- what NAILING may touch -/
def GN : List Nat := GF ++ [173, 175, 188, 189]
def MC (S : List Nat) (μ : zM) : Prop := μ 138 72 = (S.length : Nat) ∧ ∀ i (h : i < S.length), μ 189 i = (S[i] : Nat)
def J6 (μ μ' : zM) : Prop := ∀ j, j ≠ 50 → j ≠ 69 → j ≠ 72 → μ' 138 j = μ 138 j
theorem mNailing {d n : Nat} {x : Int} {x2 x3 x4 x5 : zV} (hd : 8 ≤ d) (h : MX θ τ s μ) (hR : MR τ ρ μ) (hG : wfU G) (hU : MU G μ) (hx : x = (n : Int)) (hn2 : n ≤ 2)
    (hQ : ∀ μ', Fr GN μ μ' → J6 μ μ' → MR τ ρ μ' → MC (nlO τ ρ G n).2 μ' → Q (some (vi (nlO τ ρ G n).1)) θ μ') : Ex d 259 0 [vr 138, vi x, x2, x3, x4, x5] [] θ μ Q := by
  subst hx
  have hX := h
  have hm := h.1
  have hw := h.2.1
  have hn := tn_b hw
  have hd0 : 0 < d := by omega
  have hwF := hR.1.1
  have X : ∀ {μ1}, Fr GN μ μ1 → J6 μ μ1 → MX θ τ s μ1 ∧ MU G μ1 := fun hf hj => ⟨MX_fr hX hf (by decide) (hj 18 (by decide) (by decide) (by decide)), MU_fr hU hf (by decide) (hj 62 (by decide) (by decide) (by decide))⟩
  -- a pair's second
  have inner : ∀ (a : Nat) (S : zN), a < tn τ → canO ρ a = true → (∀ μ1 x4 x5, Fr GN μ μ1 → J6 μ μ1 → MR τ (naF ρ a) μ1 → MC (n2O τ ρ G a S (tn τ)).2 μ1 → μ1 188 a = ρ.1 3 a → Ex d 259 188 [vr 138, vi (n : Nat), vi (n2O τ ρ G a S (tn τ)).1, vi (a : Nat), x4, x5] [] θ μ1 Q) →
      ∀ t L μ1, t ≤ tn τ → (a + 1 ≤ t ∧ ∃ x5, L = [vr 138, vi (n : Nat), vi (n2O τ ρ G a S t).1, vi (a : Nat), vi (t : Nat), x5] ∧ Fr GN μ μ1 ∧ J6 μ μ1 ∧ MR τ (naF ρ a) μ1 ∧ MC (n2O τ ρ G a S t).2 μ1 ∧ μ1 188 a = ρ.1 3 a) → Ex d 259 114 L [] θ μ1 Q := by
    intro a S ha hcan hend
    refine Ex_loop (I := fun t L μ1 => a + 1 ≤ t ∧ ∃ x5, L = [vr 138, vi (n : Nat), vi (n2O τ ρ G a S t).1, vi (a : Nat), vi (t : Nat), x5] ∧ Fr GN μ μ1 ∧ J6 μ μ1 ∧ MR τ (naF ρ a) μ1 ∧ MC (n2O τ ρ G a S t).2 μ1 ∧ μ1 188 a = ρ.1 3 a) (tn τ) ?_ ?_
    · rintro t L μ1 ht ⟨hat, x5, rfl, hf, hj, R1, C1, w1⟩ hk
      obtain ⟨X1, U1⟩ := X hf hj
      have i1 : ¬ ((tn τ : Int) ≤ (t : Int)) := by omega
      have hst : n2O τ ρ G a S (t + 1) = s2O τ ρ G a (n2O τ ρ G a S t) t := rfl
      unfold s2O at hst
      rw [x259_114]
      by_cases hcb : canO ρ t = true
      · have hb1 : b2 (canO (naF ρ a) t) = 1 := by rw [can_na (by omega), hcb]; rfl
        have hzt : (naF ρ a).1 1 t = 0 := by rw [(na_age (by omega)).2]; unfold canO at hcb; simp at hcb; exact hcb.2
        simp (disch := omega) only [x259_0, x259_1, x259_4, x259_5, x259_6, x259_7, x259_10, x259_11, x259_13, x259_14, x259_17, x259_20, x259_21, x259_24, x259_25, x259_26, x259_29, x259_32, x259_35, x259_36, x259_37, x259_40, x259_41, x259_44, x259_46, x259_48, x259_49, x259_52, x259_54, x259_55, x259_56, x259_57, x259_60, x259_61, x259_64, x259_65, x259_66, x259_67, x259_68, x259_69, x259_72, x259_75, x259_78, x259_79, x259_81, x259_82, x259_85, x259_88, x259_89, x259_90, x259_93, x259_94, x259_95, x259_98, x259_101, x259_104, x259_105, x259_106, x259_109, x259_110, x259_111, x259_112, x259_116, x259_117, x259_120, x259_123, x259_124, x259_126, x259_129, x259_132, x259_135, x259_136, x259_138, x259_141, x259_142, x259_145, x259_147, x259_149, x259_150, x259_153, x259_155, x259_156, x259_157, x259_158, x259_161, x259_162, x259_165, x259_166, x259_167, x259_168, x259_169, x259_172, x259_173, x259_175, x259_176, x259_177, x259_179, x259_182, x259_185, x259_189, x259_190, x259_193, x259_196, x259_199, x259_200, ↓reduceIte, Bool.false_eq_true, Nat.reduceAdd, Nat.reduceLT, Nat.reduceLeDiff, Nat.reduceSub, Nat.reduceEqDiff, Int.reduceToNat, Int.reduceEq, Int.reduceLT, Int.reduceLE, Int.reduceAdd, Int.reduceSub, zg, zI, zJ, zR, zst, zkl, zn, zcat, zok, zraw, List.length_cons, List.length_nil, Option.toList, List.nil_append, List.cons_append, true_and, and_true, if_true, if_false, ne_eq, not_true, not_false_eq_true, and_self, true_or, or_true, false_or, or_false, false_and, and_false, b_138 hm, hd0, mTiles _ X1, i1, mCan X1 R1 rfl ht, hb1]
        refine mNail X1 R1 rfl ht ?_
        intro μ2 hf2 R2 w2
        have hf02 : Fr GN μ μ2 := hf.trans (hf2.mono (by decide))
        have hj02 : J6 μ μ2 := fun j a b c => by rw [hf2 138 (by decide)]; exact hj j a b c
        obtain ⟨X2, U2⟩ := X hf02 hj02
        simp (disch := omega) only [x259_0, x259_1, x259_4, x259_5, x259_6, x259_7, x259_10, x259_11, x259_13, x259_14, x259_17, x259_20, x259_21, x259_24, x259_25, x259_26, x259_29, x259_32, x259_35, x259_36, x259_37, x259_40, x259_41, x259_44, x259_46, x259_48, x259_49, x259_52, x259_54, x259_55, x259_56, x259_57, x259_60, x259_61, x259_64, x259_65, x259_66, x259_67, x259_68, x259_69, x259_72, x259_75, x259_78, x259_79, x259_81, x259_82, x259_85, x259_88, x259_89, x259_90, x259_93, x259_94, x259_95, x259_98, x259_101, x259_104, x259_105, x259_106, x259_109, x259_110, x259_111, x259_112, x259_116, x259_117, x259_120, x259_123, x259_124, x259_126, x259_129, x259_132, x259_135, x259_136, x259_138, x259_141, x259_142, x259_145, x259_147, x259_149, x259_150, x259_153, x259_155, x259_156, x259_157, x259_158, x259_161, x259_162, x259_165, x259_166, x259_167, x259_168, x259_169, x259_172, x259_173, x259_175, x259_176, x259_177, x259_179, x259_182, x259_185, x259_189, x259_190, x259_193, x259_196, x259_199, x259_200, ↓reduceIte, Bool.false_eq_true, Nat.reduceAdd, Nat.reduceLT, Nat.reduceLeDiff, Nat.reduceSub, Nat.reduceEqDiff, Int.reduceToNat, Int.reduceEq, Int.reduceLT, Int.reduceLE, Int.reduceAdd, Int.reduceSub, zg, zI, zJ, zR, zst, zkl, zn, zcat, zok, zraw, List.length_cons, List.length_nil, Option.toList, List.nil_append, List.cons_append, true_and, and_true, if_true, if_false, ne_eq, not_true, not_false_eq_true, and_self, true_or, or_true, false_or, or_false, false_and, and_false, b_138 hm, hd0]
        refine mHarm (d := d - 1) (by omega) X2 R2 hG U2 ?_
        intro μ3 hf3 hj3
        have hf03 : Fr GN μ μ3 := hf02.trans (hf3.mono (by decide))
        have R3 : MR τ (naF (naF ρ a) t) μ3 := MR_fr R2 hf3 (by decide) (hj3 57 (by decide) (by decide))
        have k72 : μ3 138 72 = μ1 138 72 := by rw [hj3 72 (by decide) (by decide), hf2 138 (by decide)]
        have C3 : MC (n2O τ ρ G a S t).2 μ3 := by unfold MC; rw [k72, hf3 189 (by decide), hf2 189 (by decide)]; exact C1
        have w3a : μ3 188 a = ρ.1 3 a := by rw [hf3 188 (by decide), w2, if_neg (by omega)]; exact w1
        have w3t : μ3 188 t = (naF ρ a).1 3 t := by rw [hf3 188 (by decide), w2, if_pos rfl]
        have back : ∀ {μ4} (y : Int) (x5 : zV), Fr GN μ3 μ4 → (∀ j, j ≠ 72 → μ4 138 j = μ3 138 j) → μ4 188 = μ3 188 → MR τ (naF (naF ρ a) t) μ4 → MC (n2O τ ρ G a S (t + 1)).2 μ4 → y = (n2O τ ρ G a S (t + 1)).1 → Ex d 259 176 [vr 138, vi (n : Nat), vi y, vi (a : Nat), vi (t : Nat), x5] [] θ μ4 Q := by
          intro μ4 y x5 hf4 hj4 w4 R4 C4 hy
          have hf04 : Fr GN μ μ4 := hf03.trans hf4
          have hj04 : J6 μ μ4 := fun j a b c => by rw [hj4 j c, hj3 j a b]; exact hj02 j a b c
          obtain ⟨X4, U4⟩ := X hf04 hj04
          simp (disch := omega) only [x259_0, x259_1, x259_4, x259_5, x259_6, x259_7, x259_10, x259_11, x259_13, x259_14, x259_17, x259_20, x259_21, x259_24, x259_25, x259_26, x259_29, x259_32, x259_35, x259_36, x259_37, x259_40, x259_41, x259_44, x259_46, x259_48, x259_49, x259_52, x259_54, x259_55, x259_56, x259_57, x259_60, x259_61, x259_64, x259_65, x259_66, x259_67, x259_68, x259_69, x259_72, x259_75, x259_78, x259_79, x259_81, x259_82, x259_85, x259_88, x259_89, x259_90, x259_93, x259_94, x259_95, x259_98, x259_101, x259_104, x259_105, x259_106, x259_109, x259_110, x259_111, x259_112, x259_116, x259_117, x259_120, x259_123, x259_124, x259_126, x259_129, x259_132, x259_135, x259_136, x259_138, x259_141, x259_142, x259_145, x259_147, x259_149, x259_150, x259_153, x259_155, x259_156, x259_157, x259_158, x259_161, x259_162, x259_165, x259_166, x259_167, x259_168, x259_169, x259_172, x259_173, x259_175, x259_176, x259_177, x259_179, x259_182, x259_185, x259_189, x259_190, x259_193, x259_196, x259_199, x259_200, ↓reduceIte, Bool.false_eq_true, Nat.reduceAdd, Nat.reduceLT, Nat.reduceLeDiff, Nat.reduceSub, Nat.reduceEqDiff, Int.reduceToNat, Int.reduceEq, Int.reduceLT, Int.reduceLE, Int.reduceAdd, Int.reduceSub, zg, zI, zJ, zR, zst, zkl, zn, zcat, zok, zraw, List.length_cons, List.length_nil, Option.toList, List.nil_append, List.cons_append, true_and, and_true, if_true, if_false, ne_eq, not_true, not_false_eq_true, and_self, true_or, or_true, false_or, or_false, false_and, and_false, b_138 hm, hd0]
          refine mUnnail X4 R4 R1.1.1 rfl ht hzt (by rw [w4]; exact w3t) ?_
          intro μ5 hf5 R5
          simp (disch := omega) only [x259_0, x259_1, x259_4, x259_5, x259_6, x259_7, x259_10, x259_11, x259_13, x259_14, x259_17, x259_20, x259_21, x259_24, x259_25, x259_26, x259_29, x259_32, x259_35, x259_36, x259_37, x259_40, x259_41, x259_44, x259_46, x259_48, x259_49, x259_52, x259_54, x259_55, x259_56, x259_57, x259_60, x259_61, x259_64, x259_65, x259_66, x259_67, x259_68, x259_69, x259_72, x259_75, x259_78, x259_79, x259_81, x259_82, x259_85, x259_88, x259_89, x259_90, x259_93, x259_94, x259_95, x259_98, x259_101, x259_104, x259_105, x259_106, x259_109, x259_110, x259_111, x259_112, x259_116, x259_117, x259_120, x259_123, x259_124, x259_126, x259_129, x259_132, x259_135, x259_136, x259_138, x259_141, x259_142, x259_145, x259_147, x259_149, x259_150, x259_153, x259_155, x259_156, x259_157, x259_158, x259_161, x259_162, x259_165, x259_166, x259_167, x259_168, x259_169, x259_172, x259_173, x259_175, x259_176, x259_177, x259_179, x259_182, x259_185, x259_189, x259_190, x259_193, x259_196, x259_199, x259_200, ↓reduceIte, Bool.false_eq_true, Nat.reduceAdd, Nat.reduceLT, Nat.reduceLeDiff, Nat.reduceSub, Nat.reduceEqDiff, Int.reduceToNat, Int.reduceEq, Int.reduceLT, Int.reduceLE, Int.reduceAdd, Int.reduceSub, zg, zI, zJ, zR, zst, zkl, zn, zcat, zok, zraw, List.length_cons, List.length_nil, Option.toList, List.nil_append, List.cons_append, true_and, and_true, if_true, if_false, ne_eq, not_true, not_false_eq_true, and_self, true_or, or_true, false_or, or_false, false_and, and_false, w32_s]
          have k5 := hf5 138 (by decide)
          apply hk
          refine ⟨by omega, x5, by rw [hy], hf04.trans (hf5.mono (by decide)), fun j a b c => by rw [k5]; exact hj04 j a b c, R5, ?_, ?_⟩
          · unfold MC; rw [k5, hf5 189 (by decide)]; exact C4
          · rw [hf5 188 (by decide), w4]; exact w3a
        by_cases hlt : haO τ (naF (naF ρ a) t) G < (n2O τ ρ G a S t).1
        · have c1 : ¬ (n2O τ ρ G a S t).1 ≤ haO τ (naF (naF ρ a) t) G := by omega
          simp (disch := omega) only [x259_0, x259_1, x259_4, x259_5, x259_6, x259_7, x259_10, x259_11, x259_13, x259_14, x259_17, x259_20, x259_21, x259_24, x259_25, x259_26, x259_29, x259_32, x259_35, x259_36, x259_37, x259_40, x259_41, x259_44, x259_46, x259_48, x259_49, x259_52, x259_54, x259_55, x259_56, x259_57, x259_60, x259_61, x259_64, x259_65, x259_66, x259_67, x259_68, x259_69, x259_72, x259_75, x259_78, x259_79, x259_81, x259_82, x259_85, x259_88, x259_89, x259_90, x259_93, x259_94, x259_95, x259_98, x259_101, x259_104, x259_105, x259_106, x259_109, x259_110, x259_111, x259_112, x259_116, x259_117, x259_120, x259_123, x259_124, x259_126, x259_129, x259_132, x259_135, x259_136, x259_138, x259_141, x259_142, x259_145, x259_147, x259_149, x259_150, x259_153, x259_155, x259_156, x259_157, x259_158, x259_161, x259_162, x259_165, x259_166, x259_167, x259_168, x259_169, x259_172, x259_173, x259_175, x259_177, x259_179, x259_182, x259_185, x259_189, x259_190, x259_193, x259_196, x259_199, x259_200, ↓reduceIte, Bool.false_eq_true, Nat.reduceAdd, Nat.reduceLT, Nat.reduceLeDiff, Nat.reduceSub, Nat.reduceEqDiff, Int.reduceToNat, Int.reduceEq, Int.reduceLT, Int.reduceLE, Int.reduceAdd, Int.reduceSub, zg, zI, zJ, zR, zst, zkl, zn, zcat, zok, zraw, List.length_cons, List.length_nil, Option.toList, List.nil_append, List.cons_append, true_and, and_true, if_true, if_false, ne_eq, not_true, not_false_eq_true, and_self, true_or, or_true, false_or, or_false, false_and, and_false, b_138 hm, r_138_73 hm, x_189 hm, hd0, c1, ua_eq, us_same, us_us, Int.toNat_zero, Int.toNat_one]
          refine back _ _ (Fr.us (by decide) (Fr.us (by decide) Fr.refl)) ?_ ?_ ?_ ?_ ?_
          · intro j h1; rw [us_ne (by decide), us_same, zup_ne h1]
          · rw [us_ne (by decide), us_ne (by decide)]
          · exact MR_fr (A := [138, 189]) R3 (Fr.us (by decide) (Fr.us (by decide) Fr.refl)) (by decide) (by rw [us_ne (by decide), us_same, zup_ne (by decide)])
          · rw [hst, if_pos ⟨⟨by omega, hcb⟩, hlt⟩]
            refine ⟨?_, ?_⟩
            · rw [us_ne (by decide), us_same, zup_same rfl]; rfl
            · intro i hi
              rw [us_same]
              have : i = 0 ∨ i = 1 := by simp at hi; omega
              rcases this with rfl | rfl
              · rw [zup_ne (by decide), zup_same rfl]; rfl
              · rw [zup_same rfl]; rfl
          · rw [hst, if_pos ⟨⟨by omega, hcb⟩, hlt⟩]
        · have c1 : (n2O τ ρ G a S t).1 ≤ haO τ (naF (naF ρ a) t) G := by omega
          simp (disch := omega) only [x259_0, x259_1, x259_4, x259_5, x259_6, x259_7, x259_10, x259_11, x259_13, x259_14, x259_17, x259_20, x259_21, x259_24, x259_25, x259_26, x259_29, x259_32, x259_35, x259_36, x259_37, x259_40, x259_41, x259_44, x259_46, x259_48, x259_49, x259_52, x259_54, x259_55, x259_56, x259_57, x259_60, x259_61, x259_64, x259_65, x259_66, x259_67, x259_68, x259_69, x259_72, x259_75, x259_78, x259_79, x259_81, x259_82, x259_85, x259_88, x259_89, x259_90, x259_93, x259_94, x259_95, x259_98, x259_101, x259_104, x259_105, x259_106, x259_109, x259_110, x259_111, x259_112, x259_116, x259_117, x259_120, x259_123, x259_124, x259_126, x259_129, x259_132, x259_135, x259_136, x259_138, x259_141, x259_142, x259_145, x259_147, x259_149, x259_150, x259_153, x259_155, x259_156, x259_157, x259_158, x259_161, x259_162, x259_165, x259_166, x259_167, x259_168, x259_169, x259_172, x259_173, x259_175, x259_177, x259_179, x259_182, x259_185, x259_189, x259_190, x259_193, x259_196, x259_199, x259_200, ↓reduceIte, Bool.false_eq_true, Nat.reduceAdd, Nat.reduceLT, Nat.reduceLeDiff, Nat.reduceSub, Nat.reduceEqDiff, Int.reduceToNat, Int.reduceEq, Int.reduceLT, Int.reduceLE, Int.reduceAdd, Int.reduceSub, zg, zI, zJ, zR, zst, zkl, zn, zcat, zok, zraw, List.length_cons, List.length_nil, Option.toList, List.nil_append, List.cons_append, true_and, and_true, if_true, if_false, ne_eq, not_true, not_false_eq_true, and_self, true_or, or_true, false_or, or_false, false_and, and_false, hd0, c1]
          refine back _ _ Fr.refl (fun _ _ => rfl) rfl R3 ?_ ?_
          · rw [hst, if_neg (fun q => hlt q.2)]; exact C3
          · rw [hst, if_neg (fun q => hlt q.2)]
      · have hb1 : b2 (canO (naF ρ a) t) = 0 := by rw [can_na (by omega)]; unfold b2; rw [if_neg hcb]
        simp (disch := omega) only [x259_0, x259_1, x259_4, x259_5, x259_6, x259_7, x259_10, x259_11, x259_13, x259_14, x259_17, x259_20, x259_21, x259_24, x259_25, x259_26, x259_29, x259_32, x259_35, x259_36, x259_37, x259_40, x259_41, x259_44, x259_46, x259_48, x259_49, x259_52, x259_54, x259_55, x259_56, x259_57, x259_60, x259_61, x259_64, x259_65, x259_66, x259_67, x259_68, x259_69, x259_72, x259_75, x259_78, x259_79, x259_81, x259_82, x259_85, x259_88, x259_89, x259_90, x259_93, x259_94, x259_95, x259_98, x259_101, x259_104, x259_105, x259_106, x259_109, x259_110, x259_111, x259_112, x259_116, x259_117, x259_120, x259_123, x259_124, x259_126, x259_129, x259_132, x259_135, x259_136, x259_138, x259_141, x259_142, x259_145, x259_147, x259_149, x259_150, x259_153, x259_155, x259_156, x259_157, x259_158, x259_161, x259_162, x259_165, x259_166, x259_167, x259_168, x259_169, x259_172, x259_173, x259_175, x259_176, x259_177, x259_179, x259_182, x259_185, x259_189, x259_190, x259_193, x259_196, x259_199, x259_200, ↓reduceIte, Bool.false_eq_true, Nat.reduceAdd, Nat.reduceLT, Nat.reduceLeDiff, Nat.reduceSub, Nat.reduceEqDiff, Int.reduceToNat, Int.reduceEq, Int.reduceLT, Int.reduceLE, Int.reduceAdd, Int.reduceSub, zg, zI, zJ, zR, zst, zkl, zn, zcat, zok, zraw, List.length_cons, List.length_nil, Option.toList, List.nil_append, List.cons_append, true_and, and_true, if_true, if_false, ne_eq, not_true, not_false_eq_true, and_self, true_or, or_true, false_or, or_false, false_and, and_false, b_138 hm, hd0, mTiles _ X1, i1, mCan X1 R1 rfl ht, hb1, w32_s]
        apply hk
        refine ⟨by omega, x5, ?_, hf, hj, R1, ?_, w1⟩
        · rw [hst, if_neg (fun q => hcb q.1.2)]
        · rw [hst, if_neg (fun q => hcb q.1.2)]; exact C1
    · rintro L μ1 ⟨hat, x5, rfl, hf, hj, R1, C1, w1⟩
      obtain ⟨X1, U1⟩ := X hf hj
      rw [x259_114]
      simp (disch := omega) only [x259_0, x259_1, x259_4, x259_5, x259_6, x259_7, x259_10, x259_11, x259_13, x259_14, x259_17, x259_20, x259_21, x259_24, x259_25, x259_26, x259_29, x259_32, x259_35, x259_36, x259_37, x259_40, x259_41, x259_44, x259_46, x259_48, x259_49, x259_52, x259_54, x259_55, x259_56, x259_57, x259_60, x259_61, x259_64, x259_65, x259_66, x259_67, x259_68, x259_69, x259_72, x259_75, x259_78, x259_79, x259_81, x259_82, x259_85, x259_88, x259_89, x259_90, x259_93, x259_94, x259_95, x259_98, x259_101, x259_104, x259_105, x259_106, x259_109, x259_110, x259_111, x259_112, x259_116, x259_117, x259_120, x259_123, x259_124, x259_126, x259_129, x259_132, x259_135, x259_136, x259_138, x259_141, x259_142, x259_145, x259_147, x259_149, x259_150, x259_153, x259_155, x259_156, x259_157, x259_158, x259_161, x259_162, x259_165, x259_166, x259_167, x259_168, x259_169, x259_172, x259_173, x259_175, x259_176, x259_177, x259_179, x259_182, x259_185, x259_189, x259_190, x259_193, x259_196, x259_199, x259_200, ↓reduceIte, Bool.false_eq_true, Nat.reduceAdd, Nat.reduceLT, Nat.reduceLeDiff, Nat.reduceSub, Nat.reduceEqDiff, Int.reduceToNat, Int.reduceEq, Int.reduceLT, Int.reduceLE, Int.reduceAdd, Int.reduceSub, zg, zI, zJ, zR, zst, zkl, zn, zcat, zok, zraw, List.length_cons, List.length_nil, Option.toList, List.nil_append, List.cons_append, true_and, and_true, if_true, if_false, ne_eq, not_true, not_false_eq_true, and_self, true_or, or_true, false_or, or_false, false_and, and_false, b_138 hm, hd0, mTiles _ X1, Int.le_refl]
      exact hend μ1 _ _ hf hj R1 C1 w1
  -- pairs
  have loop3 : ∀ (S : zN), nlO τ ρ G n = (if 2 ≤ n then n3O τ ρ G S (tn τ) else S) → ∀ t L μ1, t ≤ tn τ → (∃ x4 x5, L = [vr 138, vi (n : Nat), vi (n3O τ ρ G S t).1, vi (t : Nat), x4, x5] ∧ Fr GN μ μ1 ∧ J6 μ μ1 ∧ MR τ ρ μ1 ∧ MC (n3O τ ρ G S t).2 μ1 ∧ (t = 0 ∨ 2 ≤ n)) → Ex d 259 80 L [] θ μ1 Q := by
    intro S hS
    refine Ex_loop (I := fun t L μ1 => ∃ x4 x5, L = [vr 138, vi (n : Nat), vi (n3O τ ρ G S t).1, vi (t : Nat), x4, x5] ∧ Fr GN μ μ1 ∧ J6 μ μ1 ∧ MR τ ρ μ1 ∧ MC (n3O τ ρ G S t).2 μ1 ∧ (t = 0 ∨ 2 ≤ n)) (tn τ) ?_ ?_
    · rintro t L μ1 ht ⟨x4, x5, rfl, hf, hj, R1, C1, ht0⟩ hk
      obtain ⟨X1, U1⟩ := X hf hj
      have i1 : ¬ ((tn τ : Int) ≤ (t : Int)) := by omega
      rw [x259_80]
      by_cases hn' : 2 ≤ n
      · have c1 : ¬ ((n : Int) ≤ 1) := by omega
        have hst : n3O τ ρ G S (t + 1) = if canO ρ t = true then n2O τ ρ G t (n3O τ ρ G S t) (tn τ) else n3O τ ρ G S t := rfl
        by_cases hcb : canO ρ t = true
        · have hb1 : b2 (canO ρ t) = 1 := by rw [hcb]; rfl
          have hzt : ρ.1 1 t = 0 := by unfold canO at hcb; simp at hcb; exact hcb.2
          rw [if_pos hcb] at hst
          simp (disch := omega) only [x259_0, x259_1, x259_4, x259_5, x259_6, x259_7, x259_10, x259_11, x259_13, x259_14, x259_17, x259_20, x259_21, x259_24, x259_25, x259_26, x259_29, x259_32, x259_35, x259_36, x259_37, x259_40, x259_41, x259_44, x259_46, x259_48, x259_49, x259_52, x259_54, x259_55, x259_56, x259_57, x259_60, x259_61, x259_64, x259_65, x259_66, x259_67, x259_68, x259_69, x259_72, x259_75, x259_78, x259_79, x259_81, x259_82, x259_85, x259_88, x259_89, x259_90, x259_93, x259_94, x259_95, x259_98, x259_101, x259_104, x259_105, x259_106, x259_109, x259_110, x259_111, x259_112, x259_116, x259_117, x259_120, x259_123, x259_124, x259_126, x259_129, x259_132, x259_135, x259_136, x259_138, x259_141, x259_142, x259_145, x259_147, x259_149, x259_150, x259_153, x259_155, x259_156, x259_157, x259_158, x259_161, x259_162, x259_165, x259_166, x259_167, x259_168, x259_169, x259_172, x259_173, x259_175, x259_176, x259_177, x259_179, x259_182, x259_185, x259_189, x259_190, x259_193, x259_196, x259_199, x259_200, ↓reduceIte, Bool.false_eq_true, Nat.reduceAdd, Nat.reduceLT, Nat.reduceLeDiff, Nat.reduceSub, Nat.reduceEqDiff, Int.reduceToNat, Int.reduceEq, Int.reduceLT, Int.reduceLE, Int.reduceAdd, Int.reduceSub, zg, zI, zJ, zR, zst, zkl, zn, zcat, zok, zraw, List.length_cons, List.length_nil, Option.toList, List.nil_append, List.cons_append, true_and, and_true, if_true, if_false, ne_eq, not_true, not_false_eq_true, and_self, true_or, or_true, false_or, or_false, false_and, and_false, b_138 hm, hd0, mTiles _ X1, i1, c1, mCan X1 R1 rfl ht, hb1]
          refine mNail X1 R1 rfl ht ?_
          intro μ2 hf2 R2 w2
          have hf02 : Fr GN μ μ2 := hf.trans (hf2.mono (by decide))
          have hj02 : J6 μ μ2 := fun j a b c => by rw [hf2 138 (by decide)]; exact hj j a b c
          simp (disch := omega) only [x259_0, x259_1, x259_4, x259_5, x259_6, x259_7, x259_10, x259_11, x259_13, x259_14, x259_17, x259_20, x259_21, x259_24, x259_25, x259_26, x259_29, x259_32, x259_35, x259_36, x259_37, x259_40, x259_41, x259_44, x259_46, x259_48, x259_49, x259_52, x259_54, x259_55, x259_56, x259_57, x259_60, x259_61, x259_64, x259_65, x259_66, x259_67, x259_68, x259_69, x259_72, x259_75, x259_78, x259_79, x259_81, x259_82, x259_85, x259_88, x259_89, x259_90, x259_93, x259_94, x259_95, x259_98, x259_101, x259_104, x259_105, x259_106, x259_109, x259_110, x259_111, x259_112, x259_116, x259_117, x259_120, x259_123, x259_124, x259_126, x259_129, x259_132, x259_135, x259_136, x259_138, x259_141, x259_142, x259_145, x259_147, x259_149, x259_150, x259_153, x259_155, x259_156, x259_157, x259_158, x259_161, x259_162, x259_165, x259_166, x259_167, x259_168, x259_169, x259_172, x259_173, x259_175, x259_176, x259_177, x259_179, x259_182, x259_185, x259_189, x259_190, x259_193, x259_196, x259_199, x259_200, ↓reduceIte, Bool.false_eq_true, Nat.reduceAdd, Nat.reduceLT, Nat.reduceLeDiff, Nat.reduceSub, Nat.reduceEqDiff, Int.reduceToNat, Int.reduceEq, Int.reduceLT, Int.reduceLE, Int.reduceAdd, Int.reduceSub, zg, zI, zJ, zR, zst, zkl, zn, zcat, zok, zraw, List.length_cons, List.length_nil, Option.toList, List.nil_append, List.cons_append, true_and, and_true, if_true, if_false, ne_eq, not_true, not_false_eq_true, and_self, true_or, or_true, false_or, or_false, false_and, and_false, w32_s]
          refine inner t (n3O τ ρ G S t) ht hcb ?_ (t + 1) _ μ2 (by omega) ⟨Nat.le_refl _, x5, ?_, hf02, hj02, R2, ?_, by rw [w2, if_pos rfl]⟩
          · intro μ3 x4 x5 hf3 hj3 R3 C3 w3
            obtain ⟨X3, U3⟩ := X hf3 hj3
            simp (disch := omega) only [x259_0, x259_1, x259_4, x259_5, x259_6, x259_7, x259_10, x259_11, x259_13, x259_14, x259_17, x259_20, x259_21, x259_24, x259_25, x259_26, x259_29, x259_32, x259_35, x259_36, x259_37, x259_40, x259_41, x259_44, x259_46, x259_48, x259_49, x259_52, x259_54, x259_55, x259_56, x259_57, x259_60, x259_61, x259_64, x259_65, x259_66, x259_67, x259_68, x259_69, x259_72, x259_75, x259_78, x259_79, x259_81, x259_82, x259_85, x259_88, x259_89, x259_90, x259_93, x259_94, x259_95, x259_98, x259_101, x259_104, x259_105, x259_106, x259_109, x259_110, x259_111, x259_112, x259_116, x259_117, x259_120, x259_123, x259_124, x259_126, x259_129, x259_132, x259_135, x259_136, x259_138, x259_141, x259_142, x259_145, x259_147, x259_149, x259_150, x259_153, x259_155, x259_156, x259_157, x259_158, x259_161, x259_162, x259_165, x259_166, x259_167, x259_168, x259_169, x259_172, x259_173, x259_175, x259_176, x259_177, x259_179, x259_182, x259_185, x259_188, x259_189, x259_190, x259_193, x259_196, x259_199, x259_200, ↓reduceIte, Bool.false_eq_true, Nat.reduceAdd, Nat.reduceLT, Nat.reduceLeDiff, Nat.reduceSub, Nat.reduceEqDiff, Int.reduceToNat, Int.reduceEq, Int.reduceLT, Int.reduceLE, Int.reduceAdd, Int.reduceSub, zg, zI, zJ, zR, zst, zkl, zn, zcat, zok, zraw, List.length_cons, List.length_nil, Option.toList, List.nil_append, List.cons_append, true_and, and_true, if_true, if_false, ne_eq, not_true, not_false_eq_true, and_self, true_or, or_true, false_or, or_false, false_and, and_false, b_138 hm, hd0]
            refine mUnnail X3 R3 hwF rfl ht hzt w3 ?_
            intro μ4 hf4 R4
            simp (disch := omega) only [x259_0, x259_1, x259_4, x259_5, x259_6, x259_7, x259_10, x259_11, x259_13, x259_14, x259_17, x259_20, x259_21, x259_24, x259_25, x259_26, x259_29, x259_32, x259_35, x259_36, x259_37, x259_40, x259_41, x259_44, x259_46, x259_48, x259_49, x259_52, x259_54, x259_55, x259_56, x259_57, x259_60, x259_61, x259_64, x259_65, x259_66, x259_67, x259_68, x259_69, x259_72, x259_75, x259_78, x259_79, x259_81, x259_82, x259_85, x259_88, x259_89, x259_90, x259_93, x259_94, x259_95, x259_98, x259_101, x259_104, x259_105, x259_106, x259_109, x259_110, x259_111, x259_112, x259_116, x259_117, x259_120, x259_123, x259_124, x259_126, x259_129, x259_132, x259_135, x259_136, x259_138, x259_141, x259_142, x259_145, x259_147, x259_149, x259_150, x259_153, x259_155, x259_156, x259_157, x259_158, x259_161, x259_162, x259_165, x259_166, x259_167, x259_168, x259_169, x259_172, x259_173, x259_175, x259_176, x259_177, x259_179, x259_182, x259_185, x259_188, x259_189, x259_190, x259_193, x259_196, x259_199, x259_200, ↓reduceIte, Bool.false_eq_true, Nat.reduceAdd, Nat.reduceLT, Nat.reduceLeDiff, Nat.reduceSub, Nat.reduceEqDiff, Int.reduceToNat, Int.reduceEq, Int.reduceLT, Int.reduceLE, Int.reduceAdd, Int.reduceSub, zg, zI, zJ, zR, zst, zkl, zn, zcat, zok, zraw, List.length_cons, List.length_nil, Option.toList, List.nil_append, List.cons_append, true_and, and_true, if_true, if_false, ne_eq, not_true, not_false_eq_true, and_self, true_or, or_true, false_or, or_false, false_and, and_false, w32_s]
            have k4 := hf4 138 (by decide)
            apply hk
            refine ⟨x4, x5, by rw [hst], hf3.trans (hf4.mono (by decide)), fun j a b c => by rw [k4]; exact hj3 j a b c, R4, ?_, Or.inr hn'⟩
            rw [hst]; unfold MC; rw [k4, hf4 189 (by decide)]; exact C3
          · rw [n2_low _ (Nat.le_refl _)]
          · rw [n2_low _ (Nat.le_refl _)]; unfold MC; rw [hf2 138 (by decide), hf2 189 (by decide)]; exact C1
        · have hb1 : b2 (canO ρ t) = 0 := by unfold b2; rw [if_neg hcb]
          rw [if_neg hcb] at hst
          simp (disch := omega) only [x259_0, x259_1, x259_4, x259_5, x259_6, x259_7, x259_10, x259_11, x259_13, x259_14, x259_17, x259_20, x259_21, x259_24, x259_25, x259_26, x259_29, x259_32, x259_35, x259_36, x259_37, x259_40, x259_41, x259_44, x259_46, x259_48, x259_49, x259_52, x259_54, x259_55, x259_56, x259_57, x259_60, x259_61, x259_64, x259_65, x259_66, x259_67, x259_68, x259_69, x259_72, x259_75, x259_78, x259_79, x259_81, x259_82, x259_85, x259_88, x259_89, x259_90, x259_93, x259_94, x259_95, x259_98, x259_101, x259_104, x259_105, x259_106, x259_109, x259_110, x259_111, x259_112, x259_116, x259_117, x259_120, x259_123, x259_124, x259_126, x259_129, x259_132, x259_135, x259_136, x259_138, x259_141, x259_142, x259_145, x259_147, x259_149, x259_150, x259_153, x259_155, x259_156, x259_157, x259_158, x259_161, x259_162, x259_165, x259_166, x259_167, x259_168, x259_169, x259_172, x259_173, x259_175, x259_176, x259_177, x259_179, x259_182, x259_185, x259_189, x259_190, x259_193, x259_196, x259_199, x259_200, ↓reduceIte, Bool.false_eq_true, Nat.reduceAdd, Nat.reduceLT, Nat.reduceLeDiff, Nat.reduceSub, Nat.reduceEqDiff, Int.reduceToNat, Int.reduceEq, Int.reduceLT, Int.reduceLE, Int.reduceAdd, Int.reduceSub, zg, zI, zJ, zR, zst, zkl, zn, zcat, zok, zraw, List.length_cons, List.length_nil, Option.toList, List.nil_append, List.cons_append, true_and, and_true, if_true, if_false, ne_eq, not_true, not_false_eq_true, and_self, true_or, or_true, false_or, or_false, false_and, and_false, b_138 hm, hd0, mTiles _ X1, i1, c1, mCan X1 R1 rfl ht, hb1, w32_s]
          apply hk
          exact ⟨x4, x5, by rw [hst], hf, hj, R1, by rw [hst]; exact C1, Or.inr hn'⟩
      · have c1 : ((n : Int) ≤ 1) := by omega
        have t0 : t = 0 := by omega
        subst t0
        rw [if_neg hn'] at hS
        have hq := hQ μ1 hf hj R1 (by rw [hS]; exact C1)
        rw [hS] at hq
        simp (disch := omega) only [x259_0, x259_1, x259_4, x259_5, x259_6, x259_7, x259_10, x259_11, x259_13, x259_14, x259_17, x259_20, x259_21, x259_24, x259_25, x259_26, x259_29, x259_32, x259_35, x259_36, x259_37, x259_40, x259_41, x259_44, x259_46, x259_48, x259_49, x259_52, x259_54, x259_55, x259_56, x259_57, x259_60, x259_61, x259_64, x259_65, x259_66, x259_67, x259_68, x259_69, x259_72, x259_75, x259_78, x259_79, x259_81, x259_82, x259_85, x259_88, x259_89, x259_90, x259_93, x259_94, x259_95, x259_98, x259_101, x259_104, x259_105, x259_106, x259_109, x259_110, x259_111, x259_112, x259_116, x259_117, x259_120, x259_123, x259_124, x259_126, x259_129, x259_132, x259_135, x259_136, x259_138, x259_141, x259_142, x259_145, x259_147, x259_149, x259_150, x259_153, x259_155, x259_156, x259_157, x259_158, x259_161, x259_162, x259_165, x259_166, x259_167, x259_168, x259_169, x259_172, x259_173, x259_175, x259_176, x259_177, x259_179, x259_182, x259_185, x259_188, x259_189, x259_190, x259_193, x259_196, x259_199, x259_200, ↓reduceIte, Bool.false_eq_true, Nat.reduceAdd, Nat.reduceLT, Nat.reduceLeDiff, Nat.reduceSub, Nat.reduceEqDiff, Int.reduceToNat, Int.reduceEq, Int.reduceLT, Int.reduceLE, Int.reduceAdd, Int.reduceSub, zg, zI, zJ, zR, zst, zkl, zn, zcat, zok, zraw, List.length_cons, List.length_nil, Option.toList, List.nil_append, List.cons_append, true_and, and_true, if_true, if_false, ne_eq, not_true, not_false_eq_true, and_self, true_or, or_true, false_or, or_false, false_and, and_false, b_138 hm, hd0, mTiles _ X1, i1, c1]
        exact hq
    · rintro L μ1 ⟨x4, x5, rfl, hf, hj, R1, C1, ht0⟩
      obtain ⟨X1, U1⟩ := X hf hj
      have hn' : 2 ≤ n := by omega
      rw [if_pos hn'] at hS
      have hq := hQ μ1 hf hj R1 (by rw [hS]; exact C1)
      rw [hS] at hq
      rw [x259_80]
      simp (disch := omega) only [x259_0, x259_1, x259_4, x259_5, x259_6, x259_7, x259_10, x259_11, x259_13, x259_14, x259_17, x259_20, x259_21, x259_24, x259_25, x259_26, x259_29, x259_32, x259_35, x259_36, x259_37, x259_40, x259_41, x259_44, x259_46, x259_48, x259_49, x259_52, x259_54, x259_55, x259_56, x259_57, x259_60, x259_61, x259_64, x259_65, x259_66, x259_67, x259_68, x259_69, x259_72, x259_75, x259_78, x259_79, x259_81, x259_82, x259_85, x259_88, x259_89, x259_90, x259_93, x259_94, x259_95, x259_98, x259_101, x259_104, x259_105, x259_106, x259_109, x259_110, x259_111, x259_112, x259_116, x259_117, x259_120, x259_123, x259_124, x259_126, x259_129, x259_132, x259_135, x259_136, x259_138, x259_141, x259_142, x259_145, x259_147, x259_149, x259_150, x259_153, x259_155, x259_156, x259_157, x259_158, x259_161, x259_162, x259_165, x259_166, x259_167, x259_168, x259_169, x259_172, x259_173, x259_175, x259_176, x259_177, x259_179, x259_182, x259_185, x259_188, x259_189, x259_190, x259_193, x259_196, x259_199, x259_200, ↓reduceIte, Bool.false_eq_true, Nat.reduceAdd, Nat.reduceLT, Nat.reduceLeDiff, Nat.reduceSub, Nat.reduceEqDiff, Int.reduceToNat, Int.reduceEq, Int.reduceLT, Int.reduceLE, Int.reduceAdd, Int.reduceSub, zg, zI, zJ, zR, zst, zkl, zn, zcat, zok, zraw, List.length_cons, List.length_nil, Option.toList, List.nil_append, List.cons_append, true_and, and_true, if_true, if_false, ne_eq, not_true, not_false_eq_true, and_self, true_or, or_true, false_or, or_false, false_and, and_false, b_138 hm, hd0, mTiles _ X1, Int.le_refl]
      exact hq
  have mid : ∀ (S : zN) μ1 x3 x4 x5, S = (if 1 ≤ n then n1O τ ρ G (haO τ ρ G, []) (tn τ) else (haO τ ρ G, [])) → Fr GN μ μ1 → J6 μ μ1 → MR τ ρ μ1 → MC S.2 μ1 → Ex d 259 78 [vr 138, vi (n : Nat), vi S.1, x3, x4, x5] [] θ μ1 Q := by
    intro S μ1 x3 x4 x5 hS hf hj R1 C1
    have hnl : nlO τ ρ G n = if 2 ≤ n then n3O τ ρ G S (tn τ) else S := by unfold nlO; rw [← hS]
    simp (disch := omega) only [x259_0, x259_1, x259_4, x259_5, x259_6, x259_7, x259_10, x259_11, x259_13, x259_14, x259_17, x259_20, x259_21, x259_24, x259_25, x259_26, x259_29, x259_32, x259_35, x259_36, x259_37, x259_40, x259_41, x259_44, x259_46, x259_48, x259_49, x259_52, x259_54, x259_55, x259_56, x259_57, x259_60, x259_61, x259_64, x259_65, x259_66, x259_67, x259_68, x259_69, x259_72, x259_75, x259_78, x259_79, x259_81, x259_82, x259_85, x259_88, x259_89, x259_90, x259_93, x259_94, x259_95, x259_98, x259_101, x259_104, x259_105, x259_106, x259_109, x259_110, x259_111, x259_112, x259_116, x259_117, x259_120, x259_123, x259_124, x259_126, x259_129, x259_132, x259_135, x259_136, x259_138, x259_141, x259_142, x259_145, x259_147, x259_149, x259_150, x259_153, x259_155, x259_156, x259_157, x259_158, x259_161, x259_162, x259_165, x259_166, x259_167, x259_168, x259_169, x259_172, x259_173, x259_175, x259_176, x259_177, x259_179, x259_182, x259_185, x259_188, x259_189, x259_190, x259_193, x259_196, x259_199, x259_200, ↓reduceIte, Bool.false_eq_true, Nat.reduceAdd, Nat.reduceLT, Nat.reduceLeDiff, Nat.reduceSub, Nat.reduceEqDiff, Int.reduceToNat, Int.reduceEq, Int.reduceLT, Int.reduceLE, Int.reduceAdd, Int.reduceSub, zg, zI, zJ, zR, zst, zkl, zn, zcat, zok, zraw, List.length_cons, List.length_nil, Option.toList, List.nil_append, List.cons_append, true_and, and_true, if_true, if_false, ne_eq, not_true, not_false_eq_true, and_self, true_or, or_true, false_or, or_false, false_and, and_false]
    exact loop3 S hnl 0 _ μ1 (by omega) ⟨x4, x5, rfl, hf, hj, R1, C1, Or.inl rfl⟩
  have loop1 : ∀ t L μ1, t ≤ tn τ → (∃ x4 x5, L = [vr 138, vi (n : Nat), vi (n1O τ ρ G (haO τ ρ G, []) t).1, vi (t : Nat), x4, x5] ∧ Fr GN μ μ1 ∧ J6 μ μ1 ∧ MR τ ρ μ1 ∧ MC (n1O τ ρ G (haO τ ρ G, []) t).2 μ1 ∧ (t = 0 ∨ 1 ≤ n)) → Ex d 259 12 L [] θ μ1 Q := by
    refine Ex_loop (I := fun t L μ1 => ∃ x4 x5, L = [vr 138, vi (n : Nat), vi (n1O τ ρ G (haO τ ρ G, []) t).1, vi (t : Nat), x4, x5] ∧ Fr GN μ μ1 ∧ J6 μ μ1 ∧ MR τ ρ μ1 ∧ MC (n1O τ ρ G (haO τ ρ G, []) t).2 μ1 ∧ (t = 0 ∨ 1 ≤ n)) (tn τ) ?_ ?_
    · rintro t L μ1 ht ⟨x4, x5, rfl, hf, hj, R1, C1, ht0⟩ hk
      obtain ⟨X1, U1⟩ := X hf hj
      have i1 : ¬ ((tn τ : Int) ≤ (t : Int)) := by omega
      rw [x259_12]
      by_cases hn' : 1 ≤ n
      · have c1 : ¬ ((n : Int) ≤ 0) := by omega
        have hst : n1O τ ρ G (haO τ ρ G, []) (t + 1) = s1O τ ρ G (n1O τ ρ G (haO τ ρ G, []) t) t := rfl
        unfold s1O at hst
        generalize n1O τ ρ G (haO τ ρ G, []) t = S at *
        by_cases hcb : canO ρ t = true
        · have hb1 : b2 (canO ρ t) = 1 := by rw [hcb]; rfl
          have hzt : ρ.1 1 t = 0 := by unfold canO at hcb; simp at hcb; exact hcb.2
          simp (disch := omega) only [x259_0, x259_1, x259_4, x259_5, x259_6, x259_7, x259_10, x259_11, x259_13, x259_14, x259_17, x259_20, x259_21, x259_24, x259_25, x259_26, x259_29, x259_32, x259_35, x259_36, x259_37, x259_40, x259_41, x259_44, x259_46, x259_48, x259_49, x259_52, x259_54, x259_55, x259_56, x259_57, x259_60, x259_61, x259_64, x259_65, x259_66, x259_67, x259_68, x259_69, x259_72, x259_75, x259_79, x259_81, x259_82, x259_85, x259_88, x259_89, x259_90, x259_93, x259_94, x259_95, x259_98, x259_101, x259_104, x259_105, x259_106, x259_109, x259_110, x259_111, x259_112, x259_116, x259_117, x259_120, x259_123, x259_124, x259_126, x259_129, x259_132, x259_135, x259_136, x259_138, x259_141, x259_142, x259_145, x259_147, x259_149, x259_150, x259_153, x259_155, x259_156, x259_157, x259_158, x259_161, x259_162, x259_165, x259_166, x259_167, x259_168, x259_169, x259_172, x259_173, x259_175, x259_176, x259_177, x259_179, x259_182, x259_185, x259_188, x259_189, x259_190, x259_193, x259_196, x259_199, x259_200, ↓reduceIte, Bool.false_eq_true, Nat.reduceAdd, Nat.reduceLT, Nat.reduceLeDiff, Nat.reduceSub, Nat.reduceEqDiff, Int.reduceToNat, Int.reduceEq, Int.reduceLT, Int.reduceLE, Int.reduceAdd, Int.reduceSub, zg, zI, zJ, zR, zst, zkl, zn, zcat, zok, zraw, List.length_cons, List.length_nil, Option.toList, List.nil_append, List.cons_append, true_and, and_true, if_true, if_false, ne_eq, not_true, not_false_eq_true, and_self, true_or, or_true, false_or, or_false, false_and, and_false, b_138 hm, hd0, mTiles _ X1, i1, c1, mCan X1 R1 rfl ht, hb1]
          refine mNail X1 R1 rfl ht ?_
          intro μ2 hf2 R2 w2
          have hf02 : Fr GN μ μ2 := hf.trans (hf2.mono (by decide))
          have hj02 : J6 μ μ2 := fun j a b c => by rw [hf2 138 (by decide)]; exact hj j a b c
          obtain ⟨X2, U2⟩ := X hf02 hj02
          simp (disch := omega) only [x259_0, x259_1, x259_4, x259_5, x259_6, x259_7, x259_10, x259_11, x259_13, x259_14, x259_17, x259_20, x259_21, x259_24, x259_25, x259_26, x259_29, x259_32, x259_35, x259_36, x259_37, x259_40, x259_41, x259_44, x259_46, x259_48, x259_49, x259_52, x259_54, x259_55, x259_56, x259_57, x259_60, x259_61, x259_64, x259_65, x259_66, x259_67, x259_68, x259_69, x259_72, x259_75, x259_79, x259_81, x259_82, x259_85, x259_88, x259_89, x259_90, x259_93, x259_94, x259_95, x259_98, x259_101, x259_104, x259_105, x259_106, x259_109, x259_110, x259_111, x259_112, x259_116, x259_117, x259_120, x259_123, x259_124, x259_126, x259_129, x259_132, x259_135, x259_136, x259_138, x259_141, x259_142, x259_145, x259_147, x259_149, x259_150, x259_153, x259_155, x259_156, x259_157, x259_158, x259_161, x259_162, x259_165, x259_166, x259_167, x259_168, x259_169, x259_172, x259_173, x259_175, x259_176, x259_177, x259_179, x259_182, x259_185, x259_188, x259_189, x259_190, x259_193, x259_196, x259_199, x259_200, ↓reduceIte, Bool.false_eq_true, Nat.reduceAdd, Nat.reduceLT, Nat.reduceLeDiff, Nat.reduceSub, Nat.reduceEqDiff, Int.reduceToNat, Int.reduceEq, Int.reduceLT, Int.reduceLE, Int.reduceAdd, Int.reduceSub, zg, zI, zJ, zR, zst, zkl, zn, zcat, zok, zraw, List.length_cons, List.length_nil, Option.toList, List.nil_append, List.cons_append, true_and, and_true, if_true, if_false, ne_eq, not_true, not_false_eq_true, and_self, true_or, or_true, false_or, or_false, false_and, and_false, b_138 hm, hd0]
          refine mHarm (d := d - 1) (by omega) X2 R2 hG U2 ?_
          intro μ3 hf3 hj3
          have hf03 : Fr GN μ μ3 := hf02.trans (hf3.mono (by decide))
          have R3 : MR τ (naF ρ t) μ3 := MR_fr R2 hf3 (by decide) (hj3 57 (by decide) (by decide))
          have k72 : μ3 138 72 = μ1 138 72 := by rw [hj3 72 (by decide) (by decide), hf2 138 (by decide)]
          have C3 : MC S.2 μ3 := by unfold MC; rw [k72, hf3 189 (by decide), hf2 189 (by decide)]; exact C1
          have w3t : μ3 188 t = ρ.1 3 t := by rw [hf3 188 (by decide), w2, if_pos rfl]
          have back : ∀ {μ4} (y : Int) (x4 x5 : zV), Fr GN μ3 μ4 → (∀ j, j ≠ 72 → μ4 138 j = μ3 138 j) → μ4 188 = μ3 188 → MR τ (naF ρ t) μ4 → MC (n1O τ ρ G (haO τ ρ G, []) (t + 1)).2 μ4 → y = (n1O τ ρ G (haO τ ρ G, []) (t + 1)).1 → Ex d 259 67 [vr 138, vi (n : Nat), vi y, vi (t : Nat), x4, x5] [] θ μ4 Q := by
            intro μ4 y x4 x5 hf4 hj4 w4 R4 C4 hy
            have hf04 : Fr GN μ μ4 := hf03.trans hf4
            have hj04 : J6 μ μ4 := fun j a b c => by rw [hj4 j c, hj3 j a b]; exact hj02 j a b c
            obtain ⟨X4, U4⟩ := X hf04 hj04
            simp (disch := omega) only [x259_0, x259_1, x259_4, x259_5, x259_6, x259_7, x259_10, x259_11, x259_13, x259_14, x259_17, x259_20, x259_21, x259_24, x259_25, x259_26, x259_29, x259_32, x259_35, x259_36, x259_37, x259_40, x259_41, x259_44, x259_46, x259_48, x259_49, x259_52, x259_54, x259_55, x259_56, x259_57, x259_60, x259_61, x259_64, x259_65, x259_66, x259_67, x259_68, x259_69, x259_72, x259_75, x259_79, x259_81, x259_82, x259_85, x259_88, x259_89, x259_90, x259_93, x259_94, x259_95, x259_98, x259_101, x259_104, x259_105, x259_106, x259_109, x259_110, x259_111, x259_112, x259_116, x259_117, x259_120, x259_123, x259_124, x259_126, x259_129, x259_132, x259_135, x259_136, x259_138, x259_141, x259_142, x259_145, x259_147, x259_149, x259_150, x259_153, x259_155, x259_156, x259_157, x259_158, x259_161, x259_162, x259_165, x259_166, x259_167, x259_168, x259_169, x259_172, x259_173, x259_175, x259_176, x259_177, x259_179, x259_182, x259_185, x259_188, x259_189, x259_190, x259_193, x259_196, x259_199, x259_200, ↓reduceIte, Bool.false_eq_true, Nat.reduceAdd, Nat.reduceLT, Nat.reduceLeDiff, Nat.reduceSub, Nat.reduceEqDiff, Int.reduceToNat, Int.reduceEq, Int.reduceLT, Int.reduceLE, Int.reduceAdd, Int.reduceSub, zg, zI, zJ, zR, zst, zkl, zn, zcat, zok, zraw, List.length_cons, List.length_nil, Option.toList, List.nil_append, List.cons_append, true_and, and_true, if_true, if_false, ne_eq, not_true, not_false_eq_true, and_self, true_or, or_true, false_or, or_false, false_and, and_false, b_138 hm, hd0]
            refine mUnnail X4 R4 hwF rfl ht hzt (by rw [w4]; exact w3t) ?_
            intro μ5 hf5 R5
            simp (disch := omega) only [x259_0, x259_1, x259_4, x259_5, x259_6, x259_7, x259_10, x259_11, x259_13, x259_14, x259_17, x259_20, x259_21, x259_24, x259_25, x259_26, x259_29, x259_32, x259_35, x259_36, x259_37, x259_40, x259_41, x259_44, x259_46, x259_48, x259_49, x259_52, x259_54, x259_55, x259_56, x259_57, x259_60, x259_61, x259_64, x259_65, x259_66, x259_67, x259_68, x259_69, x259_72, x259_75, x259_79, x259_81, x259_82, x259_85, x259_88, x259_89, x259_90, x259_93, x259_94, x259_95, x259_98, x259_101, x259_104, x259_105, x259_106, x259_109, x259_110, x259_111, x259_112, x259_116, x259_117, x259_120, x259_123, x259_124, x259_126, x259_129, x259_132, x259_135, x259_136, x259_138, x259_141, x259_142, x259_145, x259_147, x259_149, x259_150, x259_153, x259_155, x259_156, x259_157, x259_158, x259_161, x259_162, x259_165, x259_166, x259_167, x259_168, x259_169, x259_172, x259_173, x259_175, x259_176, x259_177, x259_179, x259_182, x259_185, x259_188, x259_189, x259_190, x259_193, x259_196, x259_199, x259_200, ↓reduceIte, Bool.false_eq_true, Nat.reduceAdd, Nat.reduceLT, Nat.reduceLeDiff, Nat.reduceSub, Nat.reduceEqDiff, Int.reduceToNat, Int.reduceEq, Int.reduceLT, Int.reduceLE, Int.reduceAdd, Int.reduceSub, zg, zI, zJ, zR, zst, zkl, zn, zcat, zok, zraw, List.length_cons, List.length_nil, Option.toList, List.nil_append, List.cons_append, true_and, and_true, if_true, if_false, ne_eq, not_true, not_false_eq_true, and_self, true_or, or_true, false_or, or_false, false_and, and_false, w32_s]
            have k5 := hf5 138 (by decide)
            apply hk
            refine ⟨x4, x5, by rw [hy], hf04.trans (hf5.mono (by decide)), fun j a b c => by rw [k5]; exact hj04 j a b c, R5, ?_, Or.inr hn'⟩
            unfold MC; rw [k5, hf5 189 (by decide)]; exact C4
          by_cases hlt : haO τ (naF ρ t) G < S.1
          · have c2 : ¬ S.1 ≤ haO τ (naF ρ t) G := by omega
            simp (disch := omega) only [x259_0, x259_1, x259_4, x259_5, x259_6, x259_7, x259_10, x259_11, x259_13, x259_14, x259_17, x259_20, x259_21, x259_24, x259_25, x259_26, x259_29, x259_32, x259_35, x259_36, x259_37, x259_40, x259_41, x259_44, x259_46, x259_48, x259_49, x259_52, x259_54, x259_55, x259_56, x259_57, x259_60, x259_61, x259_64, x259_65, x259_66, x259_68, x259_69, x259_72, x259_75, x259_79, x259_81, x259_82, x259_85, x259_88, x259_89, x259_90, x259_93, x259_94, x259_95, x259_98, x259_101, x259_104, x259_105, x259_106, x259_109, x259_110, x259_111, x259_112, x259_116, x259_117, x259_120, x259_123, x259_124, x259_126, x259_129, x259_132, x259_135, x259_136, x259_138, x259_141, x259_142, x259_145, x259_147, x259_149, x259_150, x259_153, x259_155, x259_156, x259_157, x259_158, x259_161, x259_162, x259_165, x259_166, x259_167, x259_168, x259_169, x259_172, x259_173, x259_175, x259_176, x259_177, x259_179, x259_182, x259_185, x259_188, x259_189, x259_190, x259_193, x259_196, x259_199, x259_200, ↓reduceIte, Bool.false_eq_true, Nat.reduceAdd, Nat.reduceLT, Nat.reduceLeDiff, Nat.reduceSub, Nat.reduceEqDiff, Int.reduceToNat, Int.reduceEq, Int.reduceLT, Int.reduceLE, Int.reduceAdd, Int.reduceSub, zg, zI, zJ, zR, zst, zkl, zn, zcat, zok, zraw, List.length_cons, List.length_nil, Option.toList, List.nil_append, List.cons_append, true_and, and_true, if_true, if_false, ne_eq, not_true, not_false_eq_true, and_self, true_or, or_true, false_or, or_false, false_and, and_false, b_138 hm, r_138_73 hm, x_189 hm, hd0, c2, ua_eq, us_same, us_us, Int.toNat_zero]
            refine back _ _ _ (Fr.us (by decide) (Fr.us (by decide) Fr.refl)) ?_ ?_ ?_ ?_ ?_
            · intro j h1; rw [us_ne (by decide), us_same, zup_ne h1]
            · rw [us_ne (by decide), us_ne (by decide)]
            · exact MR_fr (A := [138, 189]) R3 (Fr.us (by decide) (Fr.us (by decide) Fr.refl)) (by decide) (by rw [us_ne (by decide), us_same, zup_ne (by decide)])
            · rw [hst, if_pos ⟨hcb, hlt⟩]
              refine ⟨?_, ?_⟩
              · rw [us_ne (by decide), us_same, zup_same rfl]; rfl
              · intro i hi
                have : i = 0 := by simp at hi; exact hi
                subst this
                rw [us_same, zup_same rfl]; rfl
            · rw [hst, if_pos ⟨hcb, hlt⟩]
          · have c2 : S.1 ≤ haO τ (naF ρ t) G := by omega
            simp (disch := omega) only [x259_0, x259_1, x259_4, x259_5, x259_6, x259_7, x259_10, x259_11, x259_13, x259_14, x259_17, x259_20, x259_21, x259_24, x259_25, x259_26, x259_29, x259_32, x259_35, x259_36, x259_37, x259_40, x259_41, x259_44, x259_46, x259_48, x259_49, x259_52, x259_54, x259_55, x259_56, x259_57, x259_60, x259_61, x259_64, x259_65, x259_66, x259_68, x259_69, x259_72, x259_75, x259_79, x259_81, x259_82, x259_85, x259_88, x259_89, x259_90, x259_93, x259_94, x259_95, x259_98, x259_101, x259_104, x259_105, x259_106, x259_109, x259_110, x259_111, x259_112, x259_116, x259_117, x259_120, x259_123, x259_124, x259_126, x259_129, x259_132, x259_135, x259_136, x259_138, x259_141, x259_142, x259_145, x259_147, x259_149, x259_150, x259_153, x259_155, x259_156, x259_157, x259_158, x259_161, x259_162, x259_165, x259_166, x259_167, x259_168, x259_169, x259_172, x259_173, x259_175, x259_176, x259_177, x259_179, x259_182, x259_185, x259_188, x259_189, x259_190, x259_193, x259_196, x259_199, x259_200, ↓reduceIte, Bool.false_eq_true, Nat.reduceAdd, Nat.reduceLT, Nat.reduceLeDiff, Nat.reduceSub, Nat.reduceEqDiff, Int.reduceToNat, Int.reduceEq, Int.reduceLT, Int.reduceLE, Int.reduceAdd, Int.reduceSub, zg, zI, zJ, zR, zst, zkl, zn, zcat, zok, zraw, List.length_cons, List.length_nil, Option.toList, List.nil_append, List.cons_append, true_and, and_true, if_true, if_false, ne_eq, not_true, not_false_eq_true, and_self, true_or, or_true, false_or, or_false, false_and, and_false, hd0, c2]
            refine back _ _ _ Fr.refl (fun _ _ => rfl) rfl R3 ?_ ?_
            · rw [hst, if_neg (fun q => hlt q.2)]; exact C3
            · rw [hst, if_neg (fun q => hlt q.2)]
        · have hb1 : b2 (canO ρ t) = 0 := by unfold b2; rw [if_neg hcb]
          simp (disch := omega) only [x259_0, x259_1, x259_4, x259_5, x259_6, x259_7, x259_10, x259_11, x259_13, x259_14, x259_17, x259_20, x259_21, x259_24, x259_25, x259_26, x259_29, x259_32, x259_35, x259_36, x259_37, x259_40, x259_41, x259_44, x259_46, x259_48, x259_49, x259_52, x259_54, x259_55, x259_56, x259_57, x259_60, x259_61, x259_64, x259_65, x259_66, x259_67, x259_68, x259_69, x259_72, x259_75, x259_79, x259_81, x259_82, x259_85, x259_88, x259_89, x259_90, x259_93, x259_94, x259_95, x259_98, x259_101, x259_104, x259_105, x259_106, x259_109, x259_110, x259_111, x259_112, x259_116, x259_117, x259_120, x259_123, x259_124, x259_126, x259_129, x259_132, x259_135, x259_136, x259_138, x259_141, x259_142, x259_145, x259_147, x259_149, x259_150, x259_153, x259_155, x259_156, x259_157, x259_158, x259_161, x259_162, x259_165, x259_166, x259_167, x259_168, x259_169, x259_172, x259_173, x259_175, x259_176, x259_177, x259_179, x259_182, x259_185, x259_188, x259_189, x259_190, x259_193, x259_196, x259_199, x259_200, ↓reduceIte, Bool.false_eq_true, Nat.reduceAdd, Nat.reduceLT, Nat.reduceLeDiff, Nat.reduceSub, Nat.reduceEqDiff, Int.reduceToNat, Int.reduceEq, Int.reduceLT, Int.reduceLE, Int.reduceAdd, Int.reduceSub, zg, zI, zJ, zR, zst, zkl, zn, zcat, zok, zraw, List.length_cons, List.length_nil, Option.toList, List.nil_append, List.cons_append, true_and, and_true, if_true, if_false, ne_eq, not_true, not_false_eq_true, and_self, true_or, or_true, false_or, or_false, false_and, and_false, b_138 hm, hd0, mTiles _ X1, i1, c1, mCan X1 R1 rfl ht, hb1, w32_s]
          apply hk
          refine ⟨x4, x5, ?_, hf, hj, R1, ?_, Or.inr hn'⟩
          · rw [hst, if_neg (fun q => hcb q.1)]
          · rw [hst, if_neg (fun q => hcb q.1)]; exact C1
      · have c1 : ((n : Int) ≤ 0) := by omega
        have t0 : t = 0 := by omega
        subst t0
        simp (disch := omega) only [x259_0, x259_1, x259_4, x259_5, x259_6, x259_7, x259_10, x259_11, x259_13, x259_14, x259_17, x259_20, x259_21, x259_24, x259_25, x259_26, x259_29, x259_32, x259_35, x259_36, x259_37, x259_40, x259_41, x259_44, x259_46, x259_48, x259_49, x259_52, x259_54, x259_55, x259_56, x259_57, x259_60, x259_61, x259_64, x259_65, x259_66, x259_67, x259_68, x259_69, x259_72, x259_75, x259_79, x259_81, x259_82, x259_85, x259_88, x259_89, x259_90, x259_93, x259_94, x259_95, x259_98, x259_101, x259_104, x259_105, x259_106, x259_109, x259_110, x259_111, x259_112, x259_116, x259_117, x259_120, x259_123, x259_124, x259_126, x259_129, x259_132, x259_135, x259_136, x259_138, x259_141, x259_142, x259_145, x259_147, x259_149, x259_150, x259_153, x259_155, x259_156, x259_157, x259_158, x259_161, x259_162, x259_165, x259_166, x259_167, x259_168, x259_169, x259_172, x259_173, x259_175, x259_176, x259_177, x259_179, x259_182, x259_185, x259_188, x259_189, x259_190, x259_193, x259_196, x259_199, x259_200, ↓reduceIte, Bool.false_eq_true, Nat.reduceAdd, Nat.reduceLT, Nat.reduceLeDiff, Nat.reduceSub, Nat.reduceEqDiff, Int.reduceToNat, Int.reduceEq, Int.reduceLT, Int.reduceLE, Int.reduceAdd, Int.reduceSub, zg, zI, zJ, zR, zst, zkl, zn, zcat, zok, zraw, List.length_cons, List.length_nil, Option.toList, List.nil_append, List.cons_append, true_and, and_true, if_true, if_false, ne_eq, not_true, not_false_eq_true, and_self, true_or, or_true, false_or, or_false, false_and, and_false, b_138 hm, hd0, mTiles _ X1, i1, c1]
        exact mid (haO τ ρ G, []) μ1 _ _ _ (by rw [if_neg hn']) hf hj R1 C1
    · rintro L μ1 ⟨x4, x5, rfl, hf, hj, R1, C1, ht0⟩
      obtain ⟨X1, U1⟩ := X hf hj
      rw [x259_12]
      simp (disch := omega) only [x259_0, x259_1, x259_4, x259_5, x259_6, x259_7, x259_10, x259_11, x259_13, x259_14, x259_17, x259_20, x259_21, x259_24, x259_25, x259_26, x259_29, x259_32, x259_35, x259_36, x259_37, x259_40, x259_41, x259_44, x259_46, x259_48, x259_49, x259_52, x259_54, x259_55, x259_56, x259_57, x259_60, x259_61, x259_64, x259_65, x259_66, x259_67, x259_68, x259_69, x259_72, x259_75, x259_79, x259_81, x259_82, x259_85, x259_88, x259_89, x259_90, x259_93, x259_94, x259_95, x259_98, x259_101, x259_104, x259_105, x259_106, x259_109, x259_110, x259_111, x259_112, x259_116, x259_117, x259_120, x259_123, x259_124, x259_126, x259_129, x259_132, x259_135, x259_136, x259_138, x259_141, x259_142, x259_145, x259_147, x259_149, x259_150, x259_153, x259_155, x259_156, x259_157, x259_158, x259_161, x259_162, x259_165, x259_166, x259_167, x259_168, x259_169, x259_172, x259_173, x259_175, x259_176, x259_177, x259_179, x259_182, x259_185, x259_188, x259_189, x259_190, x259_193, x259_196, x259_199, x259_200, ↓reduceIte, Bool.false_eq_true, Nat.reduceAdd, Nat.reduceLT, Nat.reduceLeDiff, Nat.reduceSub, Nat.reduceEqDiff, Int.reduceToNat, Int.reduceEq, Int.reduceLT, Int.reduceLE, Int.reduceAdd, Int.reduceSub, zg, zI, zJ, zR, zst, zkl, zn, zcat, zok, zraw, List.length_cons, List.length_nil, Option.toList, List.nil_append, List.cons_append, true_and, and_true, if_true, if_false, ne_eq, not_true, not_false_eq_true, and_self, true_or, or_true, false_or, or_false, false_and, and_false, b_138 hm, hd0, mTiles _ X1, Int.le_refl]
      have hn' : 1 ≤ n := by omega
      exact mid _ μ1 _ _ _ (by rw [if_pos hn']) hf hj R1 C1
  simp (disch := omega) only [x259_0, x259_1, x259_4, x259_5, x259_6, x259_7, x259_10, x259_11, x259_13, x259_14, x259_17, x259_20, x259_21, x259_24, x259_25, x259_26, x259_29, x259_32, x259_35, x259_36, x259_37, x259_40, x259_41, x259_44, x259_46, x259_48, x259_49, x259_52, x259_54, x259_55, x259_56, x259_57, x259_60, x259_61, x259_64, x259_65, x259_66, x259_67, x259_68, x259_69, x259_72, x259_75, x259_78, x259_79, x259_81, x259_82, x259_85, x259_88, x259_89, x259_90, x259_93, x259_94, x259_95, x259_98, x259_101, x259_104, x259_105, x259_106, x259_109, x259_110, x259_111, x259_112, x259_116, x259_117, x259_120, x259_123, x259_124, x259_126, x259_129, x259_132, x259_135, x259_136, x259_138, x259_141, x259_142, x259_145, x259_147, x259_149, x259_150, x259_153, x259_155, x259_156, x259_157, x259_158, x259_161, x259_162, x259_165, x259_166, x259_167, x259_168, x259_169, x259_172, x259_173, x259_175, x259_176, x259_177, x259_179, x259_182, x259_185, x259_188, x259_189, x259_190, x259_193, x259_196, x259_199, x259_200, ↓reduceIte, Bool.false_eq_true, Nat.reduceAdd, Nat.reduceLT, Nat.reduceLeDiff, Nat.reduceSub, Nat.reduceEqDiff, Int.reduceToNat, Int.reduceEq, Int.reduceLT, Int.reduceLE, Int.reduceAdd, Int.reduceSub, zg, zI, zJ, zR, zst, zkl, zn, zcat, zok, zraw, List.length_cons, List.length_nil, Option.toList, List.nil_append, List.cons_append, true_and, and_true, if_true, if_false, ne_eq, not_true, not_false_eq_true, and_self, true_or, or_true, false_or, or_false, false_and, and_false, b_138 hm, hd0]
  refine mHarm (d := d - 1) (by omega) hX hR hG hU ?_
  intro μ1 hf1 hj1
  simp (disch := omega) only [x259_0, x259_1, x259_4, x259_5, x259_6, x259_7, x259_10, x259_11, x259_13, x259_14, x259_17, x259_20, x259_21, x259_24, x259_25, x259_26, x259_29, x259_32, x259_35, x259_36, x259_37, x259_40, x259_41, x259_44, x259_46, x259_48, x259_49, x259_52, x259_54, x259_55, x259_56, x259_57, x259_60, x259_61, x259_64, x259_65, x259_66, x259_67, x259_68, x259_69, x259_72, x259_75, x259_78, x259_79, x259_81, x259_82, x259_85, x259_88, x259_89, x259_90, x259_93, x259_94, x259_95, x259_98, x259_101, x259_104, x259_105, x259_106, x259_109, x259_110, x259_111, x259_112, x259_116, x259_117, x259_120, x259_123, x259_124, x259_126, x259_129, x259_132, x259_135, x259_136, x259_138, x259_141, x259_142, x259_145, x259_147, x259_149, x259_150, x259_153, x259_155, x259_156, x259_157, x259_158, x259_161, x259_162, x259_165, x259_166, x259_167, x259_168, x259_169, x259_172, x259_173, x259_175, x259_176, x259_177, x259_179, x259_182, x259_185, x259_188, x259_189, x259_190, x259_193, x259_196, x259_199, x259_200, ↓reduceIte, Bool.false_eq_true, Nat.reduceAdd, Nat.reduceLT, Nat.reduceLeDiff, Nat.reduceSub, Nat.reduceEqDiff, Int.reduceToNat, Int.reduceEq, Int.reduceLT, Int.reduceLE, Int.reduceAdd, Int.reduceSub, zg, zI, zJ, zR, zst, zkl, zn, zcat, zok, zraw, List.length_cons, List.length_nil, Option.toList, List.nil_append, List.cons_append, true_and, and_true, if_true, if_false, ne_eq, not_true, not_false_eq_true, and_self, true_or, or_true, false_or, or_false, false_and, and_false, b_138 hm, ua_eq]
  have hf2 : Fr GN μ (us μ1 138 (zup (μ1 138) 72 0)) := Fr.us (by decide) (hf1.mono (by decide))
  have hj2 : J6 μ (us μ1 138 (zup (μ1 138) 72 0)) := fun j a b c => by rw [us_same, zup_ne c]; exact hj1 j a b
  refine loop1 0 _ _ (by omega) ⟨x4, x5, rfl, hf2, hj2, ?_, ⟨by rw [us_same, zup_same rfl]; rfl, fun i hi => by simp [n1O] at hi⟩, Or.inl rfl⟩
  exact MR_fr hR (A := GF) (Fr.us (by decide) hf1) (by decide) (hj2 57 (by decide) (by decide) (by decide))
end MP
