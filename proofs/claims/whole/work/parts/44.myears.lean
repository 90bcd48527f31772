/-! THE REFERENCE: THIRDS, NEGLECT, a NIGHT, YEARS -/
def thB (ρ : zF) (a n : Nat) : zF := (fun m q => if ((a ≤ q ∧ q < n) ∧ q % 3 = 0) ∧ canO ρ q = true ∧ (m = 1 ∨ m = 3) then (if m = 1 then 1 else 0) else ρ.1 m q, ρ.2)
section MT2
variable {θ : zS} {τ : zT} {s : Nat} {Q : Option zV → zS → zM → Prop} {μ : zM} {ρ : zF} {G : zU} {g w : Int}
theorem thB_0 {n : Nat} : thB ρ 0 n = thF ρ n := by
  unfold thB thF
  simp
theorem thB_n {n : Nat} : thB ρ n n = ρ := by
  unfold thB
  have : ∀ q : Nat, ¬ (n ≤ q ∧ q < n) := fun q h => by omega
  simp [this]
theorem thB_s {a n : Nat} (ha : a < n) : thB ρ a n = if a % 3 = 0 ∧ canO ρ a = true then naF (thB ρ (a + 1) n) a else thB ρ (a + 1) n := by
  by_cases hc : a % 3 = 0 ∧ canO ρ a = true
  · rw [if_pos hc]
    unfold naF thB
    simp only [Prod.mk.injEq, and_true]
    funext m q
    by_cases h1 : q = a
    · subst h1
      by_cases m1 : m = 1
      · simp [m1, hc, ha]
      · by_cases m3 : m = 3
        · simp [m3, hc, ha]
        · simp [m1, m3]
    · have e1 : (a ≤ q ∧ q < n) ↔ (a + 1 ≤ q ∧ q < n) := by omega
      simp [h1, e1]
  · rw [if_neg hc]
    unfold thB
    simp only [Prod.mk.injEq, and_true]
    funext m q
    by_cases h1 : q = a
    · subst h1
      have e1 : ¬ (((q ≤ q ∧ q < n) ∧ q % 3 = 0) ∧ canO ρ q = true ∧ (m = 1 ∨ m = 3)) := fun hh => hc ⟨hh.1.2, hh.2.1⟩
      rw [if_neg e1]
      have e2 : ¬ (q + 1 ≤ q ∧ q < n) := by omega
      simp [e2]
    · have e1 : (a ≤ q ∧ q < n) ↔ (a + 1 ≤ q ∧ q < n) := by omega
      simp [e1]
theorem thB_w {a n : Nat} (h : wfF τ ρ) : wfF τ (thB ρ a n) := by
  refine ⟨fun q hq => ?_, h.2.1, h.2.2⟩
  have := h.1 q hq
  by_cases hc : ((a ≤ q ∧ q < n) ∧ q % 3 = 0) ∧ canO ρ q = true
  · unfold thB; simp [hc]; exact ⟨this.1, this.2.2.1, this.2.2.2.2⟩
  · have e : ∀ m, (thB ρ a n).1 m q = ρ.1 m q := fun m => if_neg (fun hh => hc ⟨hh.1, hh.2.1⟩)
    rw [e, e, e, e, e]; exact this
theorem mThirds {d : Nat} {x1 x2 : zV} (hd : 8 ≤ d) (h : MX θ τ s μ) (hR : MR τ ρ μ) (hG : wfU G) (hU : MU G μ)
    (hQ : ∀ μ', Fr (GF ++ [173, 175, 188, 191]) μ μ' → J5 μ μ' → MR τ ρ μ' → Q (some (vi (haO τ (thF ρ (tn τ)) G))) θ μ') : Ex d 265 0 [vr 138, x1, x2] [] θ μ Q := by
  have hm := h.1
  have hw := h.2.1
  have hn := tn_b hw
  have hd0 : 0 < d := by omega
  have hwF := hR.1.1
  have X : ∀ {μ1}, Fr (GF ++ [173, 175, 188, 191]) μ μ1 → J5 μ μ1 → MX θ τ s μ1 ∧ MU G μ1 := fun hf hj => ⟨MX_fr h hf (by decide) (hj 18 (by decide) (by decide)), MU_fr hU hf (by decide) (hj 62 (by decide) (by decide))⟩
  have back : ∀ t L μ2, t ≤ tn τ → (L = [vr 138, vi (haO τ (thF ρ (tn τ)) G), vi (t : Nat)] ∧ Fr (GF ++ [173, 175, 188, 191]) μ μ2 ∧ J5 μ μ2 ∧ MR τ (thB ρ t (tn τ)) μ2 ∧ (∀ q, q < tn τ → μ2 191 q = ρ.1 1 q) ∧ ∀ q, q < tn τ → (q % 3 = 0 ∧ canO ρ q = true) → μ2 188 q = ρ.1 3 q) → Ex d 265 54 L [] θ μ2 Q := by
    refine Ex_loop (I := fun t L μ2 => L = [vr 138, vi (haO τ (thF ρ (tn τ)) G), vi (t : Nat)] ∧ Fr (GF ++ [173, 175, 188, 191]) μ μ2 ∧ J5 μ μ2 ∧ MR τ (thB ρ t (tn τ)) μ2 ∧ (∀ q, q < tn τ → μ2 191 q = ρ.1 1 q) ∧ ∀ q, q < tn τ → (q % 3 = 0 ∧ canO ρ q = true) → μ2 188 q = ρ.1 3 q) (tn τ) ?_ ?_
    · rintro t L μ2 ht ⟨rfl, hf, hj, R2, hwa, hag⟩ hk
      obtain ⟨X2, U2⟩ := X hf hj
      have i1 : ¬ ((tn τ : Int) ≤ (t : Int)) := by omega
      have e191 := hwa t ht
      have hst := thB_s (ρ := ρ) ht
      have e173 := (R2.1.2.1 t ht).1
      have step : ∀ μ3, Fr [173, 175] μ2 μ3 → MR τ (thB ρ (t + 1) (tn τ)) μ3 → Ex d 265 54 [vr 138, vi (haO τ (thF ρ (tn τ)) G), vi ((t + 1 : Nat) : Int)] [] θ μ3 Q := by
        intro μ3 hf3 R3
        apply hk
        have k3 := hf3 138 (by decide)
        exact ⟨rfl, hf.trans (hf3.mono (by decide)), fun j a b => by rw [k3]; exact hj j a b, R3, fun q hq => by rw [hf3 191 (by decide)]; exact hwa q hq, fun q hq hc => by rw [hf3 188 (by decide)]; exact hag q hq hc⟩
      rw [x265_54]
      by_cases hc : t % 3 = 0 ∧ canO ρ t = true
      · rw [if_pos hc] at hst
        have hz0 : ρ.1 1 t = 0 := by have := hc.2; unfold canO at this; simp at this; exact this.2
        have en : μ2 173 t = 1 := by rw [e173, hst]; simp [naF]
        rw [hz0] at e191
        rw [hst] at R2
        have ez : (thB ρ (t + 1) (tn τ)).1 1 t = 0 := by
          show (if ((t + 1 ≤ t ∧ t < tn τ) ∧ t % 3 = 0) ∧ canO ρ t = true ∧ ((1 : Nat) = 1 ∨ (1 : Nat) = 3) then (if (1 : Nat) = 1 then (1 : Int) else 0) else ρ.1 1 t) = 0
          rw [if_neg (fun hh => by have := hh.1.1.1; omega), hz0]
        have ea : (thB ρ (t + 1) (tn τ)).1 3 t = ρ.1 3 t := by
          show (if ((t + 1 ≤ t ∧ t < tn τ) ∧ t % 3 = 0) ∧ canO ρ t = true ∧ ((3 : Nat) = 1 ∨ (3 : Nat) = 3) then (if (3 : Nat) = 1 then (1 : Int) else 0) else ρ.1 3 t) = ρ.1 3 t
          rw [if_neg (fun hh => by have := hh.1.1.1; omega)]
        simp (disch := omega) only [x265_0, x265_1, x265_3, x265_4, x265_7, x265_10, x265_11, x265_14, x265_15, x265_16, x265_19, x265_20, x265_21, x265_22, x265_23, x265_24, x265_27, x265_30, x265_31, x265_32, x265_33, x265_36, x265_37, x265_38, x265_41, x265_44, x265_47, x265_48, x265_51, x265_52, x265_53, x265_55, x265_56, x265_59, x265_62, x265_63, x265_66, x265_67, x265_68, x265_71, x265_72, x265_75, x265_76, x265_77, x265_80, x265_81, x265_82, x265_85, x265_88, x265_91, x265_92, ↓reduceIte, Bool.false_eq_true, Nat.reduceAdd, Nat.reduceLT, Nat.reduceLeDiff, Nat.reduceSub, Nat.reduceEqDiff, Int.reduceToNat, Int.reduceEq, Int.reduceLT, Int.reduceLE, Int.reduceAdd, Int.reduceSub, zg, zI, zJ, zR, zst, zkl, zn, zcat, zok, zraw, List.length_cons, List.length_nil, Option.toList, List.nil_append, List.cons_append, true_and, and_true, if_true, if_false, ne_eq, not_true, not_false_eq_true, and_self, true_or, or_true, false_or, or_false, false_and, and_false, b_138 hm, r_138_52 hm, x_173 hm, n_173 hm, r_138_75 hm, x_191 hm, n_191 hm, hd0, mTiles _ X2, i1, en, e191, Int.toNat_natCast]
        refine mUnnail X2 R2 (thB_w hwF) rfl ht ez (by rw [ea]; exact hag t ht hc) ?_
        intro μ3 hf3 R3
        simp (disch := omega) only [x265_0, x265_1, x265_3, x265_4, x265_7, x265_10, x265_11, x265_14, x265_15, x265_16, x265_19, x265_20, x265_21, x265_22, x265_23, x265_24, x265_27, x265_30, x265_31, x265_32, x265_33, x265_36, x265_37, x265_38, x265_41, x265_44, x265_47, x265_48, x265_51, x265_52, x265_53, x265_55, x265_56, x265_59, x265_62, x265_63, x265_66, x265_67, x265_68, x265_71, x265_72, x265_75, x265_76, x265_77, x265_80, x265_81, x265_82, x265_85, x265_88, x265_91, x265_92, ↓reduceIte, Bool.false_eq_true, Nat.reduceAdd, Nat.reduceLT, Nat.reduceLeDiff, Nat.reduceSub, Nat.reduceEqDiff, Int.reduceToNat, Int.reduceEq, Int.reduceLT, Int.reduceLE, Int.reduceAdd, Int.reduceSub, zg, zI, zJ, zR, zst, zkl, zn, zcat, zok, zraw, List.length_cons, List.length_nil, Option.toList, List.nil_append, List.cons_append, true_and, and_true, if_true, if_false, ne_eq, not_true, not_false_eq_true, and_self, true_or, or_true, false_or, or_false, false_and, and_false, w32_s]
        exact step μ3 hf3 R3
      · rw [if_neg hc] at hst
        have en : μ2 173 t = ρ.1 1 t := by
          rw [e173]
          show (if ((t ≤ t ∧ t < tn τ) ∧ t % 3 = 0) ∧ canO ρ t = true ∧ ((1 : Nat) = 1 ∨ (1 : Nat) = 3) then (if (1 : Nat) = 1 then (1 : Int) else 0) else ρ.1 1 t) = ρ.1 1 t
          rw [if_neg (fun hh => hc ⟨hh.1.2, hh.2.1⟩)]
        rw [hst] at R2
        rcases (hwF.1 t ht).2.1 with hz | hz
        · rw [hz] at en e191
          simp (disch := omega) only [x265_0, x265_1, x265_3, x265_4, x265_7, x265_10, x265_11, x265_14, x265_15, x265_16, x265_19, x265_20, x265_21, x265_22, x265_23, x265_24, x265_27, x265_30, x265_31, x265_32, x265_33, x265_36, x265_37, x265_38, x265_41, x265_44, x265_47, x265_48, x265_51, x265_52, x265_53, x265_55, x265_56, x265_59, x265_62, x265_63, x265_66, x265_67, x265_68, x265_71, x265_72, x265_75, x265_76, x265_77, x265_80, x265_81, x265_82, x265_85, x265_88, x265_91, x265_92, ↓reduceIte, Bool.false_eq_true, Nat.reduceAdd, Nat.reduceLT, Nat.reduceLeDiff, Nat.reduceSub, Nat.reduceEqDiff, Int.reduceToNat, Int.reduceEq, Int.reduceLT, Int.reduceLE, Int.reduceAdd, Int.reduceSub, zg, zI, zJ, zR, zst, zkl, zn, zcat, zok, zraw, List.length_cons, List.length_nil, Option.toList, List.nil_append, List.cons_append, true_and, and_true, if_true, if_false, ne_eq, not_true, not_false_eq_true, and_self, true_or, or_true, false_or, or_false, false_and, and_false, b_138 hm, r_138_52 hm, x_173 hm, n_173 hm, r_138_75 hm, x_191 hm, n_191 hm, hd0, mTiles _ X2, i1, en, e191, Int.toNat_natCast, w32_s]
          exact step μ2 Fr.refl R2
        · rw [hz] at en e191
          simp (disch := omega) only [x265_0, x265_1, x265_3, x265_4, x265_7, x265_10, x265_11, x265_14, x265_15, x265_16, x265_19, x265_20, x265_21, x265_22, x265_23, x265_24, x265_27, x265_30, x265_31, x265_32, x265_33, x265_36, x265_37, x265_38, x265_41, x265_44, x265_47, x265_48, x265_51, x265_52, x265_53, x265_55, x265_56, x265_59, x265_62, x265_63, x265_66, x265_67, x265_68, x265_71, x265_72, x265_75, x265_76, x265_77, x265_80, x265_81, x265_82, x265_85, x265_88, x265_91, x265_92, ↓reduceIte, Bool.false_eq_true, Nat.reduceAdd, Nat.reduceLT, Nat.reduceLeDiff, Nat.reduceSub, Nat.reduceEqDiff, Int.reduceToNat, Int.reduceEq, Int.reduceLT, Int.reduceLE, Int.reduceAdd, Int.reduceSub, zg, zI, zJ, zR, zst, zkl, zn, zcat, zok, zraw, List.length_cons, List.length_nil, Option.toList, List.nil_append, List.cons_append, true_and, and_true, if_true, if_false, ne_eq, not_true, not_false_eq_true, and_self, true_or, or_true, false_or, or_false, false_and, and_false, b_138 hm, r_138_52 hm, x_173 hm, n_173 hm, r_138_75 hm, x_191 hm, n_191 hm, hd0, mTiles _ X2, i1, en, e191, Int.toNat_natCast, w32_s]
          exact step μ2 Fr.refl R2
    · rintro L μ2 ⟨rfl, hf, hj, R2, hwa, hag⟩
      obtain ⟨X2, U2⟩ := X hf hj
      rw [thB_n] at R2
      rw [x265_54]
      simp (disch := omega) only [x265_0, x265_1, x265_3, x265_4, x265_7, x265_10, x265_11, x265_14, x265_15, x265_16, x265_19, x265_20, x265_21, x265_22, x265_23, x265_24, x265_27, x265_30, x265_31, x265_32, x265_33, x265_36, x265_37, x265_38, x265_41, x265_44, x265_47, x265_48, x265_51, x265_52, x265_53, x265_55, x265_56, x265_59, x265_62, x265_63, x265_66, x265_67, x265_68, x265_71, x265_72, x265_75, x265_76, x265_77, x265_80, x265_81, x265_82, x265_85, x265_88, x265_91, x265_92, ↓reduceIte, Bool.false_eq_true, Nat.reduceAdd, Nat.reduceLT, Nat.reduceLeDiff, Nat.reduceSub, Nat.reduceEqDiff, Int.reduceToNat, Int.reduceEq, Int.reduceLT, Int.reduceLE, Int.reduceAdd, Int.reduceSub, zg, zI, zJ, zR, zst, zkl, zn, zcat, zok, zraw, List.length_cons, List.length_nil, Option.toList, List.nil_append, List.cons_append, true_and, and_true, if_true, if_false, ne_eq, not_true, not_false_eq_true, and_self, true_or, or_true, false_or, or_false, false_and, and_false, b_138 hm, hd0, mTiles _ X2, Int.le_refl]
      exact hQ μ2 hf hj R2
  have forth : ∀ t L μ2, t ≤ tn τ → (∃ x2, L = [vr 138, vi (t : Nat), x2] ∧ Fr (GF ++ [173, 175, 188, 191]) μ μ2 ∧ J5 μ μ2 ∧ MR τ (thF ρ t) μ2 ∧ (∀ q, q < t → μ2 191 q = ρ.1 1 q) ∧ ∀ q, q < t → (q % 3 = 0 ∧ canO ρ q = true) → μ2 188 q = ρ.1 3 q) → Ex d 265 2 L [] θ μ2 Q := by
    refine Ex_loop (I := fun t L μ2 => ∃ x2, L = [vr 138, vi (t : Nat), x2] ∧ Fr (GF ++ [173, 175, 188, 191]) μ μ2 ∧ J5 μ μ2 ∧ MR τ (thF ρ t) μ2 ∧ (∀ q, q < t → μ2 191 q = ρ.1 1 q) ∧ ∀ q, q < t → (q % 3 = 0 ∧ canO ρ q = true) → μ2 188 q = ρ.1 3 q) (tn τ) ?_ ?_
    · rintro t L μ2 ht ⟨x2, rfl, hf, hj, R2, hwa, hag⟩ hk
      obtain ⟨X2, U2⟩ := X hf hj
      have i1 : ¬ ((tn τ : Int) ≤ (t : Int)) := by omega
      have et : ∀ m, (thF ρ t).1 m t = ρ.1 m t := fun m => if_neg (fun hh => by have := hh.1.1; omega)
      have e173 := (R2.1.2.1 t ht).1
      rw [et] at e173
      have hct : canO (thF ρ t) t = canO ρ t := by unfold canO; rw [et, et]
      have hz := (hwF.1 t ht).2.1
      have ev : μ2 173 t = 0 ∨ μ2 173 t = 1 := by rw [e173]; exact hz
      have hm3 : ((t : Int)).tmod 3 = ((t % 3 : Nat) : Int) := by rw [Int.tmod_eq_emod_of_nonneg (by omega)]; omega
      have hst := thF_s (ρ := ρ) (k := t)
      have hfu : Fr [191] μ2 (us μ2 191 (zup (μ2 191) t (ρ.1 1 t))) := Fr.us (by decide) Fr.refl
      have X3 : MX θ τ s (us μ2 191 (zup (μ2 191) t (ρ.1 1 t))) := MX_fr X2 hfu (by decide) (by rw [us_ne (by decide)])
      have R3 : MR τ (thF ρ t) (us μ2 191 (zup (μ2 191) t (ρ.1 1 t))) := MR_fr R2 hfu (by decide) (by rw [us_ne (by decide)])
      have w3 : ∀ q, q < t + 1 → (us μ2 191 (zup (μ2 191) t (ρ.1 1 t))) 191 q = ρ.1 1 q := by
        intro q hq
        rw [us_same, zup_ap]
        by_cases h1 : q = t
        · rw [if_pos h1, h1]
        · rw [if_neg h1]; exact hwa q (by omega)
      have hv : ρ.1 1 t = 0 ∨ ρ.1 1 t = 1 := hz
      rw [x265_2]
      by_cases hcb : canO ρ t = true
      · have hb1 : b2 (canO (thF ρ t) t) = 1 := by rw [hct, hcb]; rfl
        by_cases h3 : t % 3 = 0
        · have h3' : ((t % 3 : Nat) : Int) = 0 := by omega
          rw [if_pos ⟨h3, hcb⟩] at hst
          simp (disch := omega) only [x265_0, x265_1, x265_3, x265_4, x265_7, x265_10, x265_11, x265_14, x265_15, x265_16, x265_19, x265_20, x265_21, x265_22, x265_23, x265_24, x265_27, x265_30, x265_31, x265_32, x265_33, x265_36, x265_37, x265_38, x265_41, x265_44, x265_47, x265_48, x265_51, x265_52, x265_53, x265_55, x265_56, x265_59, x265_62, x265_63, x265_66, x265_67, x265_68, x265_71, x265_72, x265_75, x265_76, x265_77, x265_80, x265_81, x265_82, x265_85, x265_88, x265_91, x265_92, ↓reduceIte, Bool.false_eq_true, Nat.reduceAdd, Nat.reduceLT, Nat.reduceLeDiff, Nat.reduceSub, Nat.reduceEqDiff, Int.reduceToNat, Int.reduceEq, Int.reduceLT, Int.reduceLE, Int.reduceAdd, Int.reduceSub, zg, zI, zJ, zR, zst, zkl, zn, zcat, zok, zraw, List.length_cons, List.length_nil, Option.toList, List.nil_append, List.cons_append, true_and, and_true, if_true, if_false, ne_eq, not_true, not_false_eq_true, and_self, true_or, or_true, false_or, or_false, false_and, and_false, b_138 hm, r_138_52 hm, x_173 hm, n_173 hm, r_138_75 hm, x_191 hm, n_191 hm, hd0, mTiles _ X2, i1, e173, hv, Int.toNat_natCast, ua_eq]
          simp (disch := omega) only [mCan X3 R3 rfl ht, hb1, x265_0, x265_1, x265_3, x265_4, x265_7, x265_10, x265_11, x265_14, x265_15, x265_16, x265_19, x265_20, x265_21, x265_22, x265_23, x265_24, x265_27, x265_30, x265_31, x265_32, x265_33, x265_36, x265_37, x265_38, x265_41, x265_44, x265_47, x265_48, x265_51, x265_52, x265_53, x265_55, x265_56, x265_59, x265_62, x265_63, x265_66, x265_67, x265_68, x265_71, x265_72, x265_75, x265_76, x265_77, x265_80, x265_81, x265_82, x265_85, x265_88, x265_91, x265_92, ↓reduceIte, Bool.false_eq_true, Nat.reduceAdd, Nat.reduceLT, Nat.reduceLeDiff, Nat.reduceSub, Nat.reduceEqDiff, Int.reduceToNat, Int.reduceEq, Int.reduceLT, Int.reduceLE, Int.reduceAdd, Int.reduceSub, zg, zI, zJ, zR, zst, zkl, zn, zcat, zok, zraw, List.length_cons, List.length_nil, Option.toList, List.nil_append, List.cons_append, true_and, and_true, if_true, if_false, ne_eq, not_true, not_false_eq_true, and_self, true_or, or_true, false_or, or_false, false_and, and_false, b_138 hm, hm3, h3', hd0]
          refine mNail X3 R3 rfl ht ?_
          intro μ4 hf4 R4 w4
          simp (disch := omega) only [x265_0, x265_1, x265_3, x265_4, x265_7, x265_10, x265_11, x265_14, x265_15, x265_16, x265_19, x265_20, x265_21, x265_22, x265_23, x265_24, x265_27, x265_30, x265_31, x265_32, x265_33, x265_36, x265_37, x265_38, x265_41, x265_44, x265_47, x265_48, x265_51, x265_52, x265_53, x265_55, x265_56, x265_59, x265_62, x265_63, x265_66, x265_67, x265_68, x265_71, x265_72, x265_75, x265_76, x265_77, x265_80, x265_81, x265_82, x265_85, x265_88, x265_91, x265_92, ↓reduceIte, Bool.false_eq_true, Nat.reduceAdd, Nat.reduceLT, Nat.reduceLeDiff, Nat.reduceSub, Nat.reduceEqDiff, Int.reduceToNat, Int.reduceEq, Int.reduceLT, Int.reduceLE, Int.reduceAdd, Int.reduceSub, zg, zI, zJ, zR, zst, zkl, zn, zcat, zok, zraw, List.length_cons, List.length_nil, Option.toList, List.nil_append, List.cons_append, true_and, and_true, if_true, if_false, ne_eq, not_true, not_false_eq_true, and_self, true_or, or_true, false_or, or_false, false_and, and_false, w32_s]
          have k4 := hf4 138 (by decide)
          rw [us_ne (by decide)] at k4
          apply hk
          refine ⟨x2, rfl, hf.trans ((hfu.mono (by decide)).trans (hf4.mono (by decide))), fun j a b => by rw [k4]; exact hj j a b, by rw [hst]; exact R4, ?_, ?_⟩
          · intro q hq; rw [hf4 191 (by decide)]; exact w3 q hq
          · intro q hq hc
            rw [w4]
            by_cases h1 : q = t
            · rw [if_pos h1, et, h1]
            · rw [if_neg h1, us_ne (by decide)]; exact hag q (by omega) hc
        · have h3' : ¬ ((t % 3 : Nat) : Int) = 0 := by omega
          rw [if_neg (fun hh => h3 hh.1)] at hst
          simp (disch := omega) only [x265_0, x265_1, x265_3, x265_4, x265_7, x265_10, x265_11, x265_14, x265_15, x265_16, x265_19, x265_20, x265_21, x265_22, x265_23, x265_24, x265_27, x265_30, x265_31, x265_32, x265_33, x265_36, x265_37, x265_38, x265_41, x265_44, x265_47, x265_48, x265_51, x265_52, x265_53, x265_55, x265_56, x265_59, x265_62, x265_63, x265_66, x265_67, x265_68, x265_71, x265_72, x265_75, x265_76, x265_77, x265_80, x265_81, x265_82, x265_85, x265_88, x265_91, x265_92, ↓reduceIte, Bool.false_eq_true, Nat.reduceAdd, Nat.reduceLT, Nat.reduceLeDiff, Nat.reduceSub, Nat.reduceEqDiff, Int.reduceToNat, Int.reduceEq, Int.reduceLT, Int.reduceLE, Int.reduceAdd, Int.reduceSub, zg, zI, zJ, zR, zst, zkl, zn, zcat, zok, zraw, List.length_cons, List.length_nil, Option.toList, List.nil_append, List.cons_append, true_and, and_true, if_true, if_false, ne_eq, not_true, not_false_eq_true, and_self, true_or, or_true, false_or, or_false, false_and, and_false, b_138 hm, r_138_52 hm, x_173 hm, n_173 hm, r_138_75 hm, x_191 hm, n_191 hm, hd0, mTiles _ X2, i1, e173, hv, Int.toNat_natCast, ua_eq]
          simp (disch := omega) only [mCan X3 R3 rfl ht, hb1, x265_0, x265_1, x265_3, x265_4, x265_7, x265_10, x265_11, x265_14, x265_15, x265_16, x265_19, x265_20, x265_21, x265_22, x265_23, x265_24, x265_27, x265_30, x265_31, x265_32, x265_33, x265_36, x265_37, x265_38, x265_41, x265_44, x265_47, x265_48, x265_51, x265_52, x265_53, x265_55, x265_56, x265_59, x265_62, x265_63, x265_66, x265_67, x265_68, x265_71, x265_72, x265_75, x265_76, x265_77, x265_80, x265_81, x265_82, x265_85, x265_88, x265_91, x265_92, ↓reduceIte, Bool.false_eq_true, Nat.reduceAdd, Nat.reduceLT, Nat.reduceLeDiff, Nat.reduceSub, Nat.reduceEqDiff, Int.reduceToNat, Int.reduceEq, Int.reduceLT, Int.reduceLE, Int.reduceAdd, Int.reduceSub, zg, zI, zJ, zR, zst, zkl, zn, zcat, zok, zraw, List.length_cons, List.length_nil, Option.toList, List.nil_append, List.cons_append, true_and, and_true, if_true, if_false, ne_eq, not_true, not_false_eq_true, and_self, true_or, or_true, false_or, or_false, false_and, and_false, b_138 hm, hm3, h3', hd0, w32_s]
          apply hk
          refine ⟨x2, rfl, hf.trans (hfu.mono (by decide)), fun j a b => by rw [us_ne (by decide)]; exact hj j a b, by rw [hst]; exact R3, w3, ?_⟩
          intro q hq hc
          rw [us_ne (by decide)]
          by_cases h1 : q = t
          · rw [h1] at hc; exact absurd hc.1 h3
          · exact hag q (by omega) hc
      · have hb1 : b2 (canO (thF ρ t) t) = 0 := by rw [hct]; unfold b2; rw [if_neg hcb]
        rw [if_neg (fun hh => hcb hh.2)] at hst
        simp (disch := omega) only [x265_0, x265_1, x265_3, x265_4, x265_7, x265_10, x265_11, x265_14, x265_15, x265_16, x265_19, x265_20, x265_21, x265_22, x265_23, x265_24, x265_27, x265_30, x265_31, x265_32, x265_33, x265_36, x265_37, x265_38, x265_41, x265_44, x265_47, x265_48, x265_51, x265_52, x265_53, x265_55, x265_56, x265_59, x265_62, x265_63, x265_66, x265_67, x265_68, x265_71, x265_72, x265_75, x265_76, x265_77, x265_80, x265_81, x265_82, x265_85, x265_88, x265_91, x265_92, ↓reduceIte, Bool.false_eq_true, Nat.reduceAdd, Nat.reduceLT, Nat.reduceLeDiff, Nat.reduceSub, Nat.reduceEqDiff, Int.reduceToNat, Int.reduceEq, Int.reduceLT, Int.reduceLE, Int.reduceAdd, Int.reduceSub, zg, zI, zJ, zR, zst, zkl, zn, zcat, zok, zraw, List.length_cons, List.length_nil, Option.toList, List.nil_append, List.cons_append, true_and, and_true, if_true, if_false, ne_eq, not_true, not_false_eq_true, and_self, true_or, or_true, false_or, or_false, false_and, and_false, b_138 hm, r_138_52 hm, x_173 hm, n_173 hm, r_138_75 hm, x_191 hm, n_191 hm, hd0, mTiles _ X2, i1, e173, hv, Int.toNat_natCast, ua_eq]
        simp (disch := omega) only [mCan X3 R3 rfl ht, hb1, x265_0, x265_1, x265_3, x265_4, x265_7, x265_10, x265_11, x265_14, x265_15, x265_16, x265_19, x265_20, x265_21, x265_22, x265_23, x265_24, x265_27, x265_30, x265_31, x265_32, x265_33, x265_36, x265_37, x265_38, x265_41, x265_44, x265_47, x265_48, x265_51, x265_52, x265_53, x265_55, x265_56, x265_59, x265_62, x265_63, x265_66, x265_67, x265_68, x265_71, x265_72, x265_75, x265_76, x265_77, x265_80, x265_81, x265_82, x265_85, x265_88, x265_91, x265_92, ↓reduceIte, Bool.false_eq_true, Nat.reduceAdd, Nat.reduceLT, Nat.reduceLeDiff, Nat.reduceSub, Nat.reduceEqDiff, Int.reduceToNat, Int.reduceEq, Int.reduceLT, Int.reduceLE, Int.reduceAdd, Int.reduceSub, zg, zI, zJ, zR, zst, zkl, zn, zcat, zok, zraw, List.length_cons, List.length_nil, Option.toList, List.nil_append, List.cons_append, true_and, and_true, if_true, if_false, ne_eq, not_true, not_false_eq_true, and_self, true_or, or_true, false_or, or_false, false_and, and_false, b_138 hm, hd0, w32_s]
        apply hk
        refine ⟨x2, rfl, hf.trans (hfu.mono (by decide)), fun j a b => by rw [us_ne (by decide)]; exact hj j a b, by rw [hst]; exact R3, w3, ?_⟩
        intro q hq hc
        rw [us_ne (by decide)]
        by_cases h1 : q = t
        · rw [h1] at hc; exact absurd hc.2 hcb
        · exact hag q (by omega) hc
    · rintro L μ2 ⟨x2, rfl, hf, hj, R2, hwa, hag⟩
      obtain ⟨X2, U2⟩ := X hf hj
      rw [x265_2]
      simp (disch := omega) only [x265_0, x265_1, x265_3, x265_4, x265_7, x265_10, x265_11, x265_14, x265_15, x265_16, x265_19, x265_20, x265_21, x265_22, x265_23, x265_24, x265_27, x265_30, x265_31, x265_32, x265_33, x265_36, x265_37, x265_38, x265_41, x265_44, x265_47, x265_48, x265_51, x265_52, x265_53, x265_55, x265_56, x265_59, x265_62, x265_63, x265_66, x265_67, x265_68, x265_71, x265_72, x265_75, x265_76, x265_77, x265_80, x265_81, x265_82, x265_85, x265_88, x265_91, x265_92, ↓reduceIte, Bool.false_eq_true, Nat.reduceAdd, Nat.reduceLT, Nat.reduceLeDiff, Nat.reduceSub, Nat.reduceEqDiff, Int.reduceToNat, Int.reduceEq, Int.reduceLT, Int.reduceLE, Int.reduceAdd, Int.reduceSub, zg, zI, zJ, zR, zst, zkl, zn, zcat, zok, zraw, List.length_cons, List.length_nil, Option.toList, List.nil_append, List.cons_append, true_and, and_true, if_true, if_false, ne_eq, not_true, not_false_eq_true, and_self, true_or, or_true, false_or, or_false, false_and, and_false, b_138 hm, hd0, mTiles _ X2, Int.le_refl]
      refine mHarm (d := d - 1) (by omega) X2 R2 hG U2 ?_
      intro μ3 hf3 hj3
      simp (disch := omega) only [x265_0, x265_1, x265_3, x265_4, x265_7, x265_10, x265_11, x265_14, x265_15, x265_16, x265_19, x265_20, x265_21, x265_22, x265_23, x265_24, x265_27, x265_30, x265_31, x265_32, x265_33, x265_36, x265_37, x265_38, x265_41, x265_44, x265_47, x265_48, x265_51, x265_52, x265_53, x265_55, x265_56, x265_59, x265_62, x265_63, x265_66, x265_67, x265_68, x265_71, x265_72, x265_75, x265_76, x265_77, x265_80, x265_81, x265_82, x265_85, x265_88, x265_91, x265_92, ↓reduceIte, Bool.false_eq_true, Nat.reduceAdd, Nat.reduceLT, Nat.reduceLeDiff, Nat.reduceSub, Nat.reduceEqDiff, Int.reduceToNat, Int.reduceEq, Int.reduceLT, Int.reduceLE, Int.reduceAdd, Int.reduceSub, zg, zI, zJ, zR, zst, zkl, zn, zcat, zok, zraw, List.length_cons, List.length_nil, Option.toList, List.nil_append, List.cons_append, true_and, and_true, if_true, if_false, ne_eq, not_true, not_false_eq_true, and_self, true_or, or_true, false_or, or_false, false_and, and_false]
      refine back 0 _ μ3 (by omega) ⟨rfl, hf.trans (hf3.mono (by decide)), fun j a b => by rw [hj3 j a b]; exact hj j a b, ?_, ?_, ?_⟩
      · rw [thB_0]; exact MR_fr R2 hf3 (by decide) (hj3 57 (by decide) (by decide))
      · intro q hq; rw [hf3 191 (by decide)]; exact hwa q hq
      · intro q hq hc; rw [hf3 188 (by decide)]; exact hag q hq hc
  simp (disch := omega) only [x265_0, x265_1, x265_3, x265_4, x265_7, x265_10, x265_11, x265_14, x265_15, x265_16, x265_19, x265_20, x265_21, x265_22, x265_23, x265_24, x265_27, x265_30, x265_31, x265_32, x265_33, x265_36, x265_37, x265_38, x265_41, x265_44, x265_47, x265_48, x265_51, x265_52, x265_53, x265_55, x265_56, x265_59, x265_62, x265_63, x265_66, x265_67, x265_68, x265_71, x265_72, x265_75, x265_76, x265_77, x265_80, x265_81, x265_82, x265_85, x265_88, x265_91, x265_92, ↓reduceIte, Bool.false_eq_true, Nat.reduceAdd, Nat.reduceLT, Nat.reduceLeDiff, Nat.reduceSub, Nat.reduceEqDiff, Int.reduceToNat, Int.reduceEq, Int.reduceLT, Int.reduceLE, Int.reduceAdd, Int.reduceSub, zg, zI, zJ, zR, zst, zkl, zn, zcat, zok, zraw, List.length_cons, List.length_nil, Option.toList, List.nil_append, List.cons_append, true_and, and_true, if_true, if_false, ne_eq, not_true, not_false_eq_true, and_self, true_or, or_true, false_or, or_false, false_and, and_false]
  refine forth 0 _ μ (by omega) ⟨x2, rfl, Fr.refl, fun _ _ _ => rfl, ?_, fun q hq => absurd hq (by omega), fun q hq => absurd hq (by omega)⟩
  rw [← thB_0, thB_n]; exact hR
theorem gn_ne (ρ : zF) : gnO τ (neF ρ) = fun _ => 0 := by
  funext t
  show (if t < tn τ ∧ (neF ρ).1 0 t = 0 then (1 : Int) else 0) = 0
  rw [if_neg]
  intro h
  have := h.2
  simp [neF] at this
theorem mNeglect {d : Nat} {x3 x4 : zV} (hd : 7 ≤ d) (h : MX θ τ s μ) (hR : MR τ ρ μ) (hg : 0 ≤ g ∧ g ≤ 99) (hwy : 0 ≤ w ∧ w ≤ 3)
    (hQ : ∀ μ', Fr (GF ++ [175, 176, 188, 190]) μ μ' → J5 μ μ' → MR τ ρ μ' → Q (some (vi (faO τ ρ g w - faO τ (neF ρ) g w))) θ μ') : Ex d 269 0 [vr 138, vi g, vi w, x3, x4] [] θ μ Q := by
  have hm := h.1
  have hw := h.2.1
  have hn := tn_b hw
  have hd0 : 0 < d := by omega
  have h1 := fa_b hw ρ g w
  have h2 := fa_b hw (neF ρ) g w
  have a1 : w32 (faO τ ρ g w - faO τ (neF ρ) g w) = faO τ ρ g w - faO τ (neF ρ) g w := w32_i (by omega) (by omega)
  have hg1 : (if (0 ≤ g ∧ g ≤ 99) ∧ (0 ≤ w ∧ w ≤ 3) then (1 : Int) else 0) = 1 := if_pos ⟨hg, hwy⟩
  have X : ∀ {μ1}, Fr (GF ++ [175, 176, 188, 190]) μ μ1 → J5 μ μ1 → MX θ τ s μ1 := fun hf hj => MX_fr h hf (by decide) (hj 18 (by decide) (by decide))
  simp (disch := omega) only [x269_0, x269_1, x269_2, x269_5, x269_8, x269_10, x269_11, x269_12, x269_13, x269_14, x269_17, x269_18, x269_19, x269_23, x269_24, x269_27, x269_30, x269_31, x269_34, x269_36, x269_37, x269_40, x269_42, x269_43, x269_44, x269_45, x269_48, x269_50, x269_51, x269_54, x269_56, x269_57, x269_58, x269_59, x269_62, x269_64, x269_65, x269_66, x269_67, x269_70, x269_72, x269_73, x269_74, x269_75, x269_78, x269_80, x269_81, x269_82, x269_85, x269_88, x269_89, x269_90, x269_91, x269_92, x269_95, x269_96, x269_97, x269_98, x269_102, x269_103, x269_106, x269_109, x269_110, x269_113, x269_115, x269_116, x269_119, x269_121, x269_122, x269_123, x269_124, x269_127, x269_129, x269_130, x269_133, x269_135, x269_136, x269_137, x269_140, x269_143, x269_144, ↓reduceIte, Bool.false_eq_true, Nat.reduceAdd, Nat.reduceLT, Nat.reduceLeDiff, Nat.reduceSub, Nat.reduceEqDiff, Int.reduceToNat, Int.reduceEq, Int.reduceLT, Int.reduceLE, Int.reduceAdd, Int.reduceSub, zg, zI, zJ, zR, zst, zkl, zn, zcat, zok, zraw, List.length_cons, List.length_nil, Option.toList, List.nil_append, List.cons_append, true_and, and_true, if_true, if_false, ne_eq, not_true, not_false_eq_true, and_self, true_or, or_true, false_or, or_false, false_and, and_false, b_138 hm, hd0, mIsGust, hg1]
  refine mFall (d := d - 1) (by omega) h hR hg hwy rfl rfl ?_
  intro μ1 hf1 hj1 _
  have R1 : MR τ ρ μ1 := MR_fr hR hf1 (by decide) (hj1 57 (by decide) (by decide))
  simp (disch := omega) only [x269_0, x269_1, x269_2, x269_5, x269_8, x269_10, x269_11, x269_12, x269_13, x269_14, x269_17, x269_18, x269_19, x269_23, x269_24, x269_27, x269_30, x269_31, x269_34, x269_36, x269_37, x269_40, x269_42, x269_43, x269_44, x269_45, x269_48, x269_50, x269_51, x269_54, x269_56, x269_57, x269_58, x269_59, x269_62, x269_64, x269_65, x269_66, x269_67, x269_70, x269_72, x269_73, x269_74, x269_75, x269_78, x269_80, x269_81, x269_82, x269_85, x269_88, x269_89, x269_90, x269_91, x269_92, x269_95, x269_96, x269_97, x269_98, x269_102, x269_103, x269_106, x269_109, x269_110, x269_113, x269_115, x269_116, x269_119, x269_121, x269_122, x269_123, x269_124, x269_127, x269_129, x269_130, x269_133, x269_135, x269_136, x269_137, x269_140, x269_143, x269_144, ↓reduceIte, Bool.false_eq_true, Nat.reduceAdd, Nat.reduceLT, Nat.reduceLeDiff, Nat.reduceSub, Nat.reduceEqDiff, Int.reduceToNat, Int.reduceEq, Int.reduceLT, Int.reduceLE, Int.reduceAdd, Int.reduceSub, zg, zI, zJ, zR, zst, zkl, zn, zcat, zok, zraw, List.length_cons, List.length_nil, Option.toList, List.nil_append, List.cons_append, true_and, and_true, if_true, if_false, ne_eq, not_true, not_false_eq_true, and_self, true_or, or_true, false_or, or_false, false_and, and_false]
  have back : ∀ t L μ2, t ≤ tn τ → (L = [vr 138, vi g, vi w, vi (faO τ ρ g w - faO τ (neF ρ) g w), vi (t : Nat)] ∧ Fr (GF ++ [175, 176, 188, 190]) μ μ2 ∧ J5 μ μ2 ∧ (∀ q, q < tn τ → μ2 190 q = ρ.1 4 q ∧ μ2 188 q = ρ.1 3 q) ∧ (∀ q, q < t → μ2 176 q = ρ.1 4 q ∧ μ2 175 q = ρ.1 3 q)) → Ex d 269 100 L [] θ μ2 Q := by
    refine Ex_loop (I := fun t L μ2 => L = [vr 138, vi g, vi w, vi (faO τ ρ g w - faO τ (neF ρ) g w), vi (t : Nat)] ∧ Fr (GF ++ [175, 176, 188, 190]) μ μ2 ∧ J5 μ μ2 ∧ (∀ q, q < tn τ → μ2 190 q = ρ.1 4 q ∧ μ2 188 q = ρ.1 3 q) ∧ (∀ q, q < t → μ2 176 q = ρ.1 4 q ∧ μ2 175 q = ρ.1 3 q)) (tn τ) ?_ ?_
    · rintro t L μ2 ht ⟨rfl, hf, hj, hw1, ha⟩ hk
      have X2 := X hf hj
      have i1 : ¬ ((tn τ : Int) ≤ (t : Int)) := by omega
      rw [x269_100]
      simp (disch := omega) only [x269_0, x269_1, x269_2, x269_5, x269_8, x269_10, x269_11, x269_12, x269_13, x269_14, x269_17, x269_18, x269_19, x269_23, x269_24, x269_27, x269_30, x269_31, x269_34, x269_36, x269_37, x269_40, x269_42, x269_43, x269_44, x269_45, x269_48, x269_50, x269_51, x269_54, x269_56, x269_57, x269_58, x269_59, x269_62, x269_64, x269_65, x269_66, x269_67, x269_70, x269_72, x269_73, x269_74, x269_75, x269_78, x269_80, x269_81, x269_82, x269_85, x269_88, x269_89, x269_90, x269_91, x269_92, x269_95, x269_96, x269_97, x269_98, x269_102, x269_103, x269_106, x269_109, x269_110, x269_113, x269_115, x269_116, x269_119, x269_121, x269_122, x269_123, x269_124, x269_127, x269_129, x269_130, x269_133, x269_135, x269_136, x269_137, x269_140, x269_143, x269_144, ↓reduceIte, Bool.false_eq_true, Nat.reduceAdd, Nat.reduceLT, Nat.reduceLeDiff, Nat.reduceSub, Nat.reduceEqDiff, Int.reduceToNat, Int.reduceEq, Int.reduceLT, Int.reduceLE, Int.reduceAdd, Int.reduceSub, zg, zI, zJ, zR, zst, zkl, zn, zcat, zok, zraw, List.length_cons, List.length_nil, Option.toList, List.nil_append, List.cons_append, true_and, and_true, if_true, if_false, ne_eq, not_true, not_false_eq_true, and_self, true_or, or_true, false_or, or_false, false_and, and_false, b_138 hm, r_138_54 hm, x_175 hm, r_138_55 hm, x_176 hm, r_138_71 hm, x_188 hm, r_138_74 hm, x_190 hm, hd0, mTiles _ X2, i1, (hw1 t ht).1, (hw1 t ht).2, Int.toNat_natCast, w32_s, ua_eq, us_ne]
      apply hk
      refine ⟨rfl, Fr.us (by decide) (Fr.us (by decide) hf), fun j a b => by rw [us_ne (by decide), us_ne (by decide)]; exact hj j a b, ?_, ?_⟩
      · intro q hq; rw [us_ne (by decide), us_ne (by decide), us_ne (by decide), us_ne (by decide)]; exact hw1 q hq
      · intro q hq
        rw [us_ne (by decide), us_same, us_same, zup_ap, zup_ap]
        by_cases h1 : q = t
        · rw [if_pos h1, if_pos h1, h1]; exact ⟨rfl, rfl⟩
        · rw [if_neg h1, if_neg h1]; exact ha q (by omega)
    · rintro L μ2 ⟨rfl, hf, hj, hw1, ha⟩
      have X2 := X hf hj
      rw [x269_100]
      simp (disch := omega) only [x269_0, x269_1, x269_2, x269_5, x269_8, x269_10, x269_11, x269_12, x269_13, x269_14, x269_17, x269_18, x269_19, x269_23, x269_24, x269_27, x269_30, x269_31, x269_34, x269_36, x269_37, x269_40, x269_42, x269_43, x269_44, x269_45, x269_48, x269_50, x269_51, x269_54, x269_56, x269_57, x269_58, x269_59, x269_62, x269_64, x269_65, x269_66, x269_67, x269_70, x269_72, x269_73, x269_74, x269_75, x269_78, x269_80, x269_81, x269_82, x269_85, x269_88, x269_89, x269_90, x269_91, x269_92, x269_95, x269_96, x269_97, x269_98, x269_102, x269_103, x269_106, x269_109, x269_110, x269_113, x269_115, x269_116, x269_119, x269_121, x269_122, x269_123, x269_124, x269_127, x269_129, x269_130, x269_133, x269_135, x269_136, x269_137, x269_140, x269_143, x269_144, ↓reduceIte, Bool.false_eq_true, Nat.reduceAdd, Nat.reduceLT, Nat.reduceLeDiff, Nat.reduceSub, Nat.reduceEqDiff, Int.reduceToNat, Int.reduceEq, Int.reduceLT, Int.reduceLE, Int.reduceAdd, Int.reduceSub, zg, zI, zJ, zR, zst, zkl, zn, zcat, zok, zraw, List.length_cons, List.length_nil, Option.toList, List.nil_append, List.cons_append, true_and, and_true, if_true, if_false, ne_eq, not_true, not_false_eq_true, and_self, true_or, or_true, false_or, or_false, false_and, and_false, b_138 hm, hd0, mTiles _ X2, Int.le_refl]
      refine hQ μ2 hf hj ⟨⟨hR.1.1, ?_, ?_, ?_⟩, ?_⟩
      · intro t ht
        rw [hf 173 (by decide), hf 174 (by decide), (ha t ht).1, (ha t ht).2]
        have := hR.1.2.1 t ht
        exact ⟨this.1, this.2.1, rfl, rfl⟩
      · rw [hf 177 (by decide)]; exact hR.1.2.2.1
      · rw [hj 57 (by decide) (by decide)]; exact hR.1.2.2.2
      · rw [hf 172 (by decide)]; exact hR.2
  have forth : ∀ t L μ2, t ≤ tn τ → (L = [vr 138, vi g, vi w, vi (faO τ ρ g w), vi (t : Nat)] ∧ Fr (GF ++ [175, 176, 188, 190]) μ μ2 ∧ J5 μ μ2 ∧ (∀ q, q < t → (μ2 190 q = ρ.1 4 q ∧ μ2 188 q = ρ.1 3 q) ∧ μ2 184 q = 0) ∧ (∀ q, q < tn τ → μ2 176 q = (if q < t then 0 else ρ.1 4 q) ∧ μ2 175 q = if q < t then 0 else ρ.1 3 q)) → Ex d 269 21 L [] θ μ2 Q := by
    refine Ex_loop (I := fun t L μ2 => L = [vr 138, vi g, vi w, vi (faO τ ρ g w), vi (t : Nat)] ∧ Fr (GF ++ [175, 176, 188, 190]) μ μ2 ∧ J5 μ μ2 ∧ (∀ q, q < t → (μ2 190 q = ρ.1 4 q ∧ μ2 188 q = ρ.1 3 q) ∧ μ2 184 q = 0) ∧ (∀ q, q < tn τ → μ2 176 q = (if q < t then 0 else ρ.1 4 q) ∧ μ2 175 q = if q < t then 0 else ρ.1 3 q)) (tn τ) ?_ ?_
    · rintro t L μ2 ht ⟨rfl, hf, hj, hw1, ha⟩ hk
      have X2 := X hf hj
      have i1 : ¬ ((tn τ : Int) ≤ (t : Int)) := by omega
      have e4 := (ha t ht).1
      have e3 := (ha t ht).2
      rw [if_neg (Nat.lt_irrefl _)] at e4 e3
      rw [x269_21]
      simp (disch := omega) only [x269_0, x269_1, x269_2, x269_5, x269_8, x269_10, x269_11, x269_12, x269_13, x269_14, x269_17, x269_18, x269_19, x269_23, x269_24, x269_27, x269_30, x269_31, x269_34, x269_36, x269_37, x269_40, x269_42, x269_43, x269_44, x269_45, x269_48, x269_50, x269_51, x269_54, x269_56, x269_57, x269_58, x269_59, x269_62, x269_64, x269_65, x269_66, x269_67, x269_70, x269_72, x269_73, x269_74, x269_75, x269_78, x269_80, x269_81, x269_82, x269_85, x269_88, x269_89, x269_90, x269_91, x269_92, x269_95, x269_96, x269_97, x269_98, x269_102, x269_103, x269_106, x269_109, x269_110, x269_113, x269_115, x269_116, x269_119, x269_121, x269_122, x269_123, x269_124, x269_127, x269_129, x269_130, x269_133, x269_135, x269_136, x269_137, x269_140, x269_143, x269_144, ↓reduceIte, Bool.false_eq_true, Nat.reduceAdd, Nat.reduceLT, Nat.reduceLeDiff, Nat.reduceSub, Nat.reduceEqDiff, Int.reduceToNat, Int.reduceEq, Int.reduceLT, Int.reduceLE, Int.reduceAdd, Int.reduceSub, zg, zI, zJ, zR, zst, zkl, zn, zcat, zok, zraw, List.length_cons, List.length_nil, Option.toList, List.nil_append, List.cons_append, true_and, and_true, if_true, if_false, ne_eq, not_true, not_false_eq_true, and_self, true_or, or_true, false_or, or_false, false_and, and_false, b_138 hm, r_138_54 hm, x_175 hm, r_138_55 hm, x_176 hm, r_138_66 hm, x_184 hm, n_184 hm, r_138_71 hm, x_188 hm, r_138_74 hm, x_190 hm, hd0, mTiles _ X2, i1, e4, e3, Int.toNat_natCast, w32_s, ua_eq, us_ne]
      apply hk
      refine ⟨rfl, Fr.us (by decide) (Fr.us (by decide) (Fr.us (by decide) (Fr.us (by decide) (Fr.us (by decide) hf)))), ?_, ?_, ?_⟩
      · intro j a b
        rw [us_ne (by decide), us_ne (by decide), us_ne (by decide), us_ne (by decide), us_ne (by decide)]; exact hj j a b
      · intro q hq
        simp (disch := decide) only [us_same, us_ne, zup_ap]
        by_cases h1 : q = t
        · subst h1; simp
        · have := hw1 q (by omega)
          simp [h1]; exact this
      · intro q hq
        have hq2 := ha q hq
        simp (disch := decide) only [us_same, us_ne, zup_ap]
        by_cases h1 : q = t
        · subst h1; simp
        · by_cases h2 : q < t
          · have h3 : q < t + 1 := by omega
            simp [h1, h2, h3] at hq2 ⊢; exact hq2
          · have h3 : ¬ q < t + 1 := by omega
            simp [h1, h2, h3] at hq2 ⊢; exact hq2
    · rintro L μ2 ⟨rfl, hf, hj, hw1, ha⟩
      have X2 := X hf hj
      rw [x269_21]
      simp (disch := omega) only [x269_0, x269_1, x269_2, x269_5, x269_8, x269_10, x269_11, x269_12, x269_13, x269_14, x269_17, x269_18, x269_19, x269_23, x269_24, x269_27, x269_30, x269_31, x269_34, x269_36, x269_37, x269_40, x269_42, x269_43, x269_44, x269_45, x269_48, x269_50, x269_51, x269_54, x269_56, x269_57, x269_58, x269_59, x269_62, x269_64, x269_65, x269_66, x269_67, x269_70, x269_72, x269_73, x269_74, x269_75, x269_78, x269_80, x269_81, x269_82, x269_85, x269_88, x269_89, x269_90, x269_91, x269_92, x269_95, x269_96, x269_97, x269_98, x269_102, x269_103, x269_106, x269_109, x269_110, x269_113, x269_115, x269_116, x269_119, x269_121, x269_122, x269_123, x269_124, x269_127, x269_129, x269_130, x269_133, x269_135, x269_136, x269_137, x269_140, x269_143, x269_144, ↓reduceIte, Bool.false_eq_true, Nat.reduceAdd, Nat.reduceLT, Nat.reduceLeDiff, Nat.reduceSub, Nat.reduceEqDiff, Int.reduceToNat, Int.reduceEq, Int.reduceLT, Int.reduceLE, Int.reduceAdd, Int.reduceSub, zg, zI, zJ, zR, zst, zkl, zn, zcat, zok, zraw, List.length_cons, List.length_nil, Option.toList, List.nil_append, List.cons_append, true_and, and_true, if_true, if_false, ne_eq, not_true, not_false_eq_true, and_self, true_or, or_true, false_or, or_false, false_and, and_false, b_138 hm, hd0, mTiles _ X2, Int.le_refl]
      have L2 : ML τ (neF ρ) μ2 := by
        refine ⟨neF_w hR.1.1, ?_, ?_, ?_⟩
        · intro t ht
          have e := ha t ht
          rw [if_pos ht, if_pos ht] at e
          rw [hf 173 (by decide), hf 174 (by decide), e.1, e.2]
          have := hR.1.2.1 t ht
          exact ⟨this.1, this.2.1, rfl, rfl⟩
        · rw [hf 177 (by decide)]; exact hR.1.2.2.1
        · rw [hj 57 (by decide) (by decide)]; exact hR.1.2.2.2
      refine mFalls (d := d - 1) (l0 := fun _ => 0) (by omega) X2 L2 ⟨fun _ => Or.inl rfl, fun t ht => (hw1 t ht).2⟩ hg hwy ?_
      intro μ3 hf3 hj3 _
      have ef : (foO τ (neF ρ) g w (fun _ => 0) : Nat) = faO τ (neF ρ) g w := by unfold faO; rw [gn_ne]
      simp (disch := omega) only [x269_0, x269_1, x269_2, x269_5, x269_8, x269_10, x269_11, x269_12, x269_13, x269_14, x269_17, x269_18, x269_19, x269_23, x269_24, x269_27, x269_30, x269_31, x269_34, x269_36, x269_37, x269_40, x269_42, x269_43, x269_44, x269_45, x269_48, x269_50, x269_51, x269_54, x269_56, x269_57, x269_58, x269_59, x269_62, x269_64, x269_65, x269_66, x269_67, x269_70, x269_72, x269_73, x269_74, x269_75, x269_78, x269_80, x269_81, x269_82, x269_85, x269_88, x269_89, x269_90, x269_91, x269_92, x269_95, x269_96, x269_97, x269_98, x269_102, x269_103, x269_106, x269_109, x269_110, x269_113, x269_115, x269_116, x269_119, x269_121, x269_122, x269_123, x269_124, x269_127, x269_129, x269_130, x269_133, x269_135, x269_136, x269_137, x269_140, x269_143, x269_144, ↓reduceIte, Bool.false_eq_true, Nat.reduceAdd, Nat.reduceLT, Nat.reduceLeDiff, Nat.reduceSub, Nat.reduceEqDiff, Int.reduceToNat, Int.reduceEq, Int.reduceLT, Int.reduceLE, Int.reduceAdd, Int.reduceSub, zg, zI, zJ, zR, zst, zkl, zn, zcat, zok, zraw, List.length_cons, List.length_nil, Option.toList, List.nil_append, List.cons_append, true_and, and_true, if_true, if_false, ne_eq, not_true, not_false_eq_true, and_self, true_or, or_true, false_or, or_false, false_and, and_false, ef, a1]
      refine back 0 _ μ3 (by omega) ⟨rfl, hf.trans (hf3.mono (by decide)), fun j a b => by rw [hj3 j a b]; exact hj j a b, ?_, fun q hq => absurd hq (by omega)⟩
      intro q hq; rw [hf3 190 (by decide), hf3 188 (by decide)]; exact (hw1 q hq).1
  refine forth 0 _ μ1 (by omega) ⟨rfl, hf1.mono (by decide), hj1, fun q hq => absurd hq (by omega), ?_⟩
  intro q hq; rw [if_neg (Nat.not_lt_zero _), if_neg (Nat.not_lt_zero _)]
  have := R1.1.2.1 q hq
  exact ⟨this.2.2.2, this.2.2.1⟩
theorem mNight {d : Nat} {many : Int} {x2 x3 : zV} (hd : 7 ≤ d) (h : MX θ τ s μ) (hR : MR τ ρ μ) (hG : wfU G) (hU : MU G μ) (hmany : 1 ≤ many ∧ many ≤ 36)
    (hQ : ∀ μ', Fr GF μ μ' → J5 μ μ' → Q (some (vi (niO τ ρ G many))) θ μ') : Ex d 270 0 [vr 138, vi many, x2, x3] [] θ μ Q := by
  have hm := h.1
  have hw := h.2.1
  have hn := tn_b hw
  have hd0 : 0 < d := by omega
  have hg1 : (if 1 ≤ many ∧ many ≤ 36 then (1 : Int) else 0) = 1 := if_pos hmany
  simp (disch := omega) only [x270_0, x270_1, x270_2, x270_4, x270_7, x270_10, x270_11, x270_12, x270_13, x270_16, x270_17, x270_20, x270_21, x270_22, x270_23, x270_26, x270_27, x270_28, x270_29, x270_31, x270_33, x270_36, x270_37, x270_40, x270_43, x270_44, x270_45, x270_46, x270_49, x270_50, x270_51, x270_54, x270_55, x270_56, x270_57, x270_60, x270_61, x270_62, x270_65, x270_66, x270_67, x270_70, x270_71, x270_72, x270_73, x270_74, x270_77, x270_78, x270_79, x270_80, x270_81, x270_84, x270_87, x270_89, ↓reduceIte, Bool.false_eq_true, Nat.reduceAdd, Nat.reduceLT, Nat.reduceLeDiff, Nat.reduceSub, Nat.reduceEqDiff, Int.reduceToNat, Int.reduceEq, Int.reduceLT, Int.reduceLE, Int.reduceAdd, Int.reduceSub, zg, zI, zJ, zR, zst, zkl, zn, zcat, zok, zraw, List.length_cons, List.length_nil, Option.toList, List.nil_append, List.cons_append, true_and, and_true, if_true, if_false, ne_eq, not_true, not_false_eq_true, and_self, true_or, or_true, false_or, or_false, false_and, and_false, b_138 hm, hd0, mIn, hg1]
  refine mAsItIs (by omega) h ?_ ?_
  · intro t ht; rw [hR.2 t ht]; have := (hR.1.1.1 t ht).1; omega
  intro μ1 hf1 h184
  have k1 : μ1 138 = μ 138 := hf1 138 (by decide)
  have X1 : MX θ τ s μ1 := MX_fr h hf1 (by decide) (by rw [k1])
  have O1 : MO τ (gnO τ ρ) μ1 := by
    refine ⟨gn_z τ ρ, ?_⟩
    intro t ht
    rw [h184 t ht, hR.2 t ht]
    unfold gnO
    have := (hR.1.1.1 t ht).1
    by_cases h0 : ρ.1 0 t = 0
    · rw [if_pos ⟨ht, h0⟩]; omega
    · rw [if_neg (fun q => h0 q.2)]; omega
  simp (disch := omega) only [x270_0, x270_1, x270_2, x270_4, x270_7, x270_10, x270_11, x270_12, x270_13, x270_16, x270_17, x270_20, x270_21, x270_22, x270_23, x270_26, x270_27, x270_28, x270_29, x270_31, x270_33, x270_36, x270_37, x270_40, x270_43, x270_44, x270_45, x270_46, x270_49, x270_50, x270_51, x270_54, x270_55, x270_56, x270_57, x270_60, x270_61, x270_62, x270_65, x270_66, x270_67, x270_70, x270_71, x270_72, x270_73, x270_74, x270_77, x270_78, x270_79, x270_80, x270_81, x270_84, x270_87, x270_89, ↓reduceIte, Bool.false_eq_true, Nat.reduceAdd, Nat.reduceLT, Nat.reduceLeDiff, Nat.reduceSub, Nat.reduceEqDiff, Int.reduceToNat, Int.reduceEq, Int.reduceLT, Int.reduceLE, Int.reduceAdd, Int.reduceSub, zg, zI, zJ, zR, zst, zkl, zn, zcat, zok, zraw, List.length_cons, List.length_nil, Option.toList, List.nil_append, List.cons_append, true_and, and_true, if_true, if_false, ne_eq, not_true, not_false_eq_true, and_self, true_or, or_true, false_or, or_false, false_and, and_false, b_138 hm, hd0]
  refine mHoles (by omega) X1 O1 ?_
  by_cases h0 : many ≤ hlO τ (gnO τ ρ)
  · have h0l : ¬ hlO τ (gnO τ ρ) < many := by omega
    simp (disch := omega) only [x270_0, x270_1, x270_2, x270_4, x270_7, x270_10, x270_11, x270_12, x270_13, x270_16, x270_17, x270_20, x270_21, x270_22, x270_23, x270_26, x270_27, x270_28, x270_29, x270_31, x270_33, x270_36, x270_37, x270_40, x270_43, x270_44, x270_45, x270_46, x270_49, x270_50, x270_51, x270_54, x270_55, x270_56, x270_57, x270_60, x270_61, x270_62, x270_65, x270_66, x270_67, x270_70, x270_71, x270_72, x270_73, x270_74, x270_77, x270_78, x270_79, x270_80, x270_81, x270_84, x270_87, x270_89, ↓reduceIte, Bool.false_eq_true, Nat.reduceAdd, Nat.reduceLT, Nat.reduceLeDiff, Nat.reduceSub, Nat.reduceEqDiff, Int.reduceToNat, Int.reduceEq, Int.reduceLT, Int.reduceLE, Int.reduceAdd, Int.reduceSub, zg, zI, zJ, zR, zst, zkl, zn, zcat, zok, zraw, List.length_cons, List.length_nil, Option.toList, List.nil_append, List.cons_append, true_and, and_true, if_true, if_false, ne_eq, not_true, not_false_eq_true, and_self, true_or, or_true, false_or, or_false, false_and, and_false, b_138 hm, h0l]
    have := hQ μ1 (hf1.mono (by decide)) (fun j a b => by rw [k1])
    unfold niO at this
    rw [if_pos h0] at this
    exact this
  · have h0l : hlO τ (gnO τ ρ) < many := by omega
    simp (disch := omega) only [x270_0, x270_1, x270_2, x270_4, x270_7, x270_10, x270_11, x270_12, x270_13, x270_16, x270_17, x270_20, x270_21, x270_22, x270_23, x270_26, x270_27, x270_28, x270_29, x270_31, x270_33, x270_36, x270_37, x270_40, x270_43, x270_44, x270_45, x270_46, x270_49, x270_50, x270_51, x270_54, x270_55, x270_56, x270_57, x270_60, x270_61, x270_62, x270_65, x270_66, x270_67, x270_70, x270_71, x270_72, x270_73, x270_74, x270_77, x270_78, x270_79, x270_80, x270_81, x270_84, x270_87, x270_89, ↓reduceIte, Bool.false_eq_true, Nat.reduceAdd, Nat.reduceLT, Nat.reduceLeDiff, Nat.reduceSub, Nat.reduceEqDiff, Int.reduceToNat, Int.reduceEq, Int.reduceLT, Int.reduceLE, Int.reduceAdd, Int.reduceSub, zg, zI, zJ, zR, zst, zkl, zn, zcat, zok, zraw, List.length_cons, List.length_nil, Option.toList, List.nil_append, List.cons_append, true_and, and_true, if_true, if_false, ne_eq, not_true, not_false_eq_true, and_self, true_or, or_true, false_or, or_false, false_and, and_false, b_138 hm, h0l]
    by_cases hg0 : G.1 = 0
    · have e62 : μ1 138 62 = 0 := by rw [k1, hU.1, hg0]; rfl
      rw [x270_30]
      simp (disch := omega) only [x270_0, x270_1, x270_2, x270_4, x270_7, x270_10, x270_11, x270_12, x270_13, x270_16, x270_17, x270_20, x270_21, x270_22, x270_23, x270_26, x270_27, x270_28, x270_29, x270_31, x270_33, x270_36, x270_37, x270_40, x270_43, x270_44, x270_45, x270_46, x270_49, x270_50, x270_51, x270_54, x270_55, x270_56, x270_57, x270_60, x270_61, x270_62, x270_65, x270_66, x270_67, x270_70, x270_71, x270_72, x270_73, x270_74, x270_77, x270_78, x270_79, x270_80, x270_81, x270_84, x270_87, x270_89, ↓reduceIte, Bool.false_eq_true, Nat.reduceAdd, Nat.reduceLT, Nat.reduceLeDiff, Nat.reduceSub, Nat.reduceEqDiff, Int.reduceToNat, Int.reduceEq, Int.reduceLT, Int.reduceLE, Int.reduceAdd, Int.reduceSub, zg, zI, zJ, zR, zst, zkl, zn, zcat, zok, zraw, List.length_cons, List.length_nil, Option.toList, List.nil_append, List.cons_append, true_and, and_true, if_true, if_false, ne_eq, not_true, not_false_eq_true, and_self, true_or, or_true, false_or, or_false, false_and, and_false, b_138 hm, e62]
      have := hQ μ1 (hf1.mono (by decide)) (fun j a b => by rw [k1])
      unfold niO at this
      rw [if_neg h0, if_pos hg0] at this
      exact this
    · have key : ∀ k L μ2, k ≤ 80 → (L = [vr 138, vi many, vi (hlO τ (ntO τ ρ G k)), vi (k : Nat)] ∧ Fr GF μ μ2 ∧ J5 μ μ2 ∧ MO τ (ntO τ ρ G k) μ2 ∧ ∀ i, i < k → ¬ many ≤ hlO τ (ntO τ ρ G (i + 1))) → Ex d 270 30 L [] θ μ2 Q := by
        refine Ex_loop (I := fun k L μ2 => L = [vr 138, vi many, vi (hlO τ (ntO τ ρ G k)), vi (k : Nat)] ∧ Fr GF μ μ2 ∧ J5 μ μ2 ∧ MO τ (ntO τ ρ G k) μ2 ∧ ∀ i, i < k → ¬ many ≤ hlO τ (ntO τ ρ G (i + 1))) 80 ?_ ?_
        · rintro k L μ2 hk80 ⟨rfl, hf2, hj2, O2, hno⟩ hk
          have X2 : MX θ τ s μ2 := MX_fr h hf2 (by decide) (hj2 18 (by decide) (by decide))
          have U2 : MU G μ2 := MU_fr hU hf2 (by decide) (hj2 62 (by decide) (by decide))
          have L2 : ML τ ρ μ2 := ML_fr hR.1 hf2 (by decide) (hj2 57 (by decide) (by decide))
          have hmod : k % G.1 < G.1 := Nat.mod_lt _ (by omega)
          have ge := U2.2 (k % G.1) hmod
          have hgt := hG.2 (k % G.1) hmod
          have i1 : ¬ ((80 : Int) ≤ (k : Int)) := by omega
          have i2 : ¬ ((G.1 : Int) ≤ 0) := by omega
          have i3 : ¬ ((G.1 : Int) = 0) := by omega
          have im : ((k : Int)).tmod (G.1 : Int) = ((k % G.1 : Nat) : Int) := by rw [Int.tmod_eq_emod_of_nonneg (by omega)]; omega
          have hst := nt_s (τ := τ) (ρ := ρ) (G := G) k
          have hb1 := hl_le hw (nt_z (τ := τ) (ρ := ρ) (G := G) k)
          have hb2 := hl_le hw (nt_z (τ := τ) (ρ := ρ) (G := G) (k + 1))
          have h41 := hG.1
          rw [x270_30]
          simp (disch := omega) only [x270_0, x270_1, x270_2, x270_4, x270_7, x270_10, x270_11, x270_12, x270_13, x270_16, x270_17, x270_20, x270_21, x270_22, x270_23, x270_26, x270_27, x270_28, x270_29, x270_31, x270_33, x270_36, x270_37, x270_40, x270_43, x270_44, x270_45, x270_46, x270_49, x270_50, x270_51, x270_54, x270_55, x270_56, x270_57, x270_60, x270_61, x270_62, x270_65, x270_66, x270_67, x270_70, x270_71, x270_72, x270_73, x270_74, x270_77, x270_78, x270_79, x270_80, x270_81, x270_84, x270_87, x270_89, ↓reduceIte, Bool.false_eq_true, Nat.reduceAdd, Nat.reduceLT, Nat.reduceLeDiff, Nat.reduceSub, Nat.reduceEqDiff, Int.reduceToNat, Int.reduceEq, Int.reduceLT, Int.reduceLE, Int.reduceAdd, Int.reduceSub, zg, zI, zJ, zR, zst, zkl, zn, zcat, zok, zraw, List.length_cons, List.length_nil, Option.toList, List.nil_append, List.cons_append, true_and, and_true, if_true, if_false, ne_eq, not_true, not_false_eq_true, and_self, true_or, or_true, false_or, or_false, false_and, and_false, b_138 hm, r_138_63 hm, x_181 hm, r_138_64 hm, x_182 hm, U2.1, i1, i2, i3, im, hd0, ge.1, ge.2.1, Int.toNat_natCast]
          refine mFalls (d := d - 1) (l0 := ntO τ ρ G k) (by omega) X2 L2 O2 hgt.1 hgt.2.1 ?_
          intro μ3 hf3 hj3 hF
          have a1 : w32 (hlO τ (ntO τ ρ G k) + (foO τ ρ (G.2.1 (k % G.1)) (G.2.2.1 (k % G.1)) (ntO τ ρ G k) : Nat)) = hlO τ (ntO τ ρ G (k + 1)) := by rw [hst]; exact w32_i (by omega) (by omega)
          have O3 : MO τ (ntO τ ρ G (k + 1)) μ3 := ⟨nt_z (k + 1), hF.2.2.2⟩
          by_cases hr : many ≤ hlO τ (ntO τ ρ G (k + 1))
          · have hrl : ¬ hlO τ (ntO τ ρ G (k + 1)) < many := by omega
            simp (disch := omega) only [x270_0, x270_1, x270_2, x270_4, x270_7, x270_10, x270_11, x270_12, x270_13, x270_16, x270_17, x270_20, x270_21, x270_22, x270_23, x270_26, x270_27, x270_28, x270_29, x270_31, x270_33, x270_36, x270_37, x270_40, x270_43, x270_44, x270_45, x270_46, x270_49, x270_50, x270_51, x270_54, x270_55, x270_56, x270_57, x270_60, x270_61, x270_62, x270_65, x270_66, x270_67, x270_70, x270_71, x270_72, x270_73, x270_74, x270_77, x270_78, x270_79, x270_80, x270_81, x270_84, x270_87, x270_89, ↓reduceIte, Bool.false_eq_true, Nat.reduceAdd, Nat.reduceLT, Nat.reduceLeDiff, Nat.reduceSub, Nat.reduceEqDiff, Int.reduceToNat, Int.reduceEq, Int.reduceLT, Int.reduceLE, Int.reduceAdd, Int.reduceSub, zg, zI, zJ, zR, zst, zkl, zn, zcat, zok, zraw, List.length_cons, List.length_nil, Option.toList, List.nil_append, List.cons_append, true_and, and_true, if_true, if_false, ne_eq, not_true, not_false_eq_true, and_self, true_or, or_true, false_or, or_false, false_and, and_false, a1, hrl, w32_s]
            have := hQ μ3 (hf2.trans hf3) (fun j a b => by rw [hj3 j a b]; exact hj2 j a b)
            unfold niO at this
            rw [if_neg h0, if_neg hg0, find_at hk80 (fun i hi => by simp; have := hno i hi; omega) (by simp; exact hr)] at this
            exact this
          · have hrl : hlO τ (ntO τ ρ G (k + 1)) < many := by omega
            simp (disch := omega) only [x270_0, x270_1, x270_2, x270_4, x270_7, x270_10, x270_11, x270_12, x270_13, x270_16, x270_17, x270_20, x270_21, x270_22, x270_23, x270_26, x270_27, x270_28, x270_29, x270_31, x270_33, x270_36, x270_37, x270_40, x270_43, x270_44, x270_45, x270_46, x270_49, x270_50, x270_51, x270_54, x270_55, x270_56, x270_57, x270_60, x270_61, x270_62, x270_65, x270_66, x270_67, x270_70, x270_71, x270_72, x270_73, x270_74, x270_77, x270_78, x270_79, x270_80, x270_81, x270_84, x270_87, x270_89, ↓reduceIte, Bool.false_eq_true, Nat.reduceAdd, Nat.reduceLT, Nat.reduceLeDiff, Nat.reduceSub, Nat.reduceEqDiff, Int.reduceToNat, Int.reduceEq, Int.reduceLT, Int.reduceLE, Int.reduceAdd, Int.reduceSub, zg, zI, zJ, zR, zst, zkl, zn, zcat, zok, zraw, List.length_cons, List.length_nil, Option.toList, List.nil_append, List.cons_append, true_and, and_true, if_true, if_false, ne_eq, not_true, not_false_eq_true, and_self, true_or, or_true, false_or, or_false, false_and, and_false, a1, hrl, w32_s]
            apply hk
            refine ⟨rfl, hf2.trans hf3, fun j a b => by rw [hj3 j a b]; exact hj2 j a b, O3, ?_⟩
            intro i hi
            by_cases hik : i = k
            · rw [hik]; exact hr
            · exact hno i (by omega)
        · rintro L μ2 ⟨rfl, hf2, hj2, O2, hno⟩
          have i1 : ((80 : Int) ≤ ((80 : Nat) : Int)) := by decide
          rw [x270_30]
          simp (disch := omega) only [x270_0, x270_1, x270_2, x270_4, x270_7, x270_10, x270_11, x270_12, x270_13, x270_16, x270_17, x270_20, x270_21, x270_22, x270_23, x270_26, x270_27, x270_28, x270_29, x270_31, x270_33, x270_36, x270_37, x270_40, x270_43, x270_44, x270_45, x270_46, x270_49, x270_50, x270_51, x270_54, x270_55, x270_56, x270_57, x270_60, x270_61, x270_62, x270_65, x270_66, x270_67, x270_70, x270_71, x270_72, x270_73, x270_74, x270_77, x270_78, x270_79, x270_80, x270_81, x270_84, x270_87, x270_89, ↓reduceIte, Bool.false_eq_true, Nat.reduceAdd, Nat.reduceLT, Nat.reduceLeDiff, Nat.reduceSub, Nat.reduceEqDiff, Int.reduceToNat, Int.reduceEq, Int.reduceLT, Int.reduceLE, Int.reduceAdd, Int.reduceSub, zg, zI, zJ, zR, zst, zkl, zn, zcat, zok, zraw, List.length_cons, List.length_nil, Option.toList, List.nil_append, List.cons_append, true_and, and_true, if_true, if_false, ne_eq, not_true, not_false_eq_true, and_self, true_or, or_true, false_or, or_false, false_and, and_false, i1]
          have := hQ μ2 hf2 hj2
          unfold niO at this
          rw [if_neg h0, if_neg hg0, find_no (fun i hi => by simp; have := hno i hi; omega)] at this
          exact this
      exact key 0 _ μ1 (by omega) ⟨rfl, hf1.mono (by decide), fun j a b => by rw [k1], O1, fun i hi => absurd hi (by omega)⟩
end MT2
