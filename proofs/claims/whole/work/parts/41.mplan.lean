/-! THE REFERENCE: ONE BY ONE, THIRDS, MOSSLESS, FELTED -/
def nsF (ρ : zF) (l : List Nat) : zF := (fun m q => if q ∈ l ∧ m = 1 then 1 else if q ∈ l ∧ m = 3 then 0 else ρ.1 m q, ρ.2)
theorem nsF_cons (ρ : zF) (t : Nat) (l : List Nat) : naF (nsF ρ l) t = nsF ρ (t :: l) := by
  unfold naF nsF
  simp only [Prod.mk.injEq, and_true]
  funext m q
  by_cases h1 : q = t
  · by_cases m1 : m = 1
    · simp [h1, m1]
    · by_cases m3 : m = 3 <;> simp [h1, m1, m3]
  · simp [h1]
theorem nsF_mem (ρ : zF) {l l' : List Nat} (h : ∀ q, q ∈ l ↔ q ∈ l') : nsF ρ l = nsF ρ l' := by
  unfold nsF
  simp only [Prod.mk.injEq, and_true]
  funext m q
  simp only [h q]
theorem nsF_nil (ρ : zF) : nsF ρ [] = ρ := by unfold nsF; simp
section MO
variable {θ : zS} {τ : zT} {s : Nat} {Q : Option zV → zS → zM → Prop} {μ : zM} {ρ : zF} {G : zU} {g w : Int}
theorem nsF_w {l : List Nat} (h : wfF τ ρ) : wfF τ (nsF ρ l) := by
  induction l with
  | nil => rw [nsF_nil]; exact h
  | cons t l ih => rw [← nsF_cons]; exact naF_w ih
theorem st_ns : ∀ k, (stO τ ρ G k).2 = nsF ρ (stO τ ρ G k).1.2 ∧ (stO τ ρ G k).1.2.Nodup ∧ (∀ q ∈ (stO τ ρ G k).1.2, q < tn τ ∧ ρ.1 1 q = 0) := by
  intro k
  induction k with
  | zero => exact ⟨(nsF_nil ρ).symm, List.nodup_nil, fun q hq => by cases hq⟩
  | succ k ih =>
    rw [stO]
    rcases n1_sh (τ := τ) (ρ := (stO τ ρ G k).2) (G := G) (S := ((stO τ ρ G k).1.1, [])) rfl (tn τ) with ⟨hnil, _⟩ | ⟨t, ht, hsome, hcan⟩
    · rw [hnil]; exact ih
    · rw [hsome]
      simp only
      obtain ⟨i1, i2, i3⟩ := ih
      have hz : (stO τ ρ G k).2.1 1 t = 0 := by unfold canO at hcan; simp at hcan; exact hcan.2
      have hnot : t ∉ (stO τ ρ G k).1.2 := by
        intro hm
        rw [i1] at hz
        simp [nsF, hm] at hz
      refine ⟨?_, ?_, ?_⟩
      · rw [i1, nsF_cons]
        exact nsF_mem ρ (fun q => by simp [or_comm])
      · rw [List.nodup_append]
        refine ⟨i2, by simp, ?_⟩
        intro a ha b hb hab
        simp at hb
        subst hb; subst hab; exact hnot ha
      · intro q hq
        rcases List.mem_append.mp hq with h1 | h1
        · exact i3 q h1
        · simp at h1
          subst h1
          refine ⟨ht, ?_⟩
          rw [i1] at hz
          simp [nsF, hnot] at hz
          exact hz
theorem mOneByOne {d n : Nat} {x : Int} {x2 x3 x4 x5 x6 x7 : zV} (hd : 8 ≤ d) (h : MX θ τ s μ) (hR : MR τ ρ μ) (hG : wfU G) (hU : MU G μ) (hx : x = (n : Int)) (hn2 : n ≤ 12)
    (hQ : ∀ μ', Fr GN μ μ' → J6 μ μ' → MR τ ρ μ' → MC (stO τ ρ G n).1.2 μ' → Q (some (vi (stO τ ρ G n).1.1)) θ μ') : Ex d 262 0 [vr 138, vi x, x2, x3, x4, x5, x6, x7] [] θ μ Q := by
  subst hx
  have hX := h
  have hm := h.1
  have hw := h.2.1
  have hn := tn_b hw
  have hd0 : 0 < d := by omega
  have hwF := hR.1.1
  have X : ∀ {μ1}, Fr GN μ μ1 → J6 μ μ1 → MX θ τ s μ1 ∧ MU G μ1 := fun hf hj => ⟨MX_fr hX hf (by decide) (hj 18 (by decide) (by decide) (by decide)), MU_fr hU hf (by decide) (hj 62 (by decide) (by decide) (by decide))⟩
  -- the nails are taken out again
  have out : ∀ (S : zN) (y3 : Int) (x5 x6 x7 : zV), S = (stO τ ρ G n).1 → ∀ t L μ1, t ≤ S.2.length → (L = [vr 138, vi (n : Nat), vi S.1, vi y3, vi (t : Nat), x5, x6, x7] ∧ Fr GN μ μ1 ∧ J6 μ μ1 ∧ MR τ (nsF ρ (S.2.drop t)) μ1 ∧ MC S.2 μ1 ∧ ∀ q ∈ S.2, μ1 188 q = ρ.1 3 q) → Ex d 262 151 L [] θ μ1 Q := by
    intro S y3 x5 x6 x7 hS
    have hns := st_ns (τ := τ) (ρ := ρ) (G := G) n
    have hsl := st_len (τ := τ) (ρ := ρ) (G := G) n
    rw [← hS] at hns hsl
    refine Ex_loop (I := fun t L μ1 => L = [vr 138, vi (n : Nat), vi S.1, vi y3, vi (t : Nat), x5, x6, x7] ∧ Fr GN μ μ1 ∧ J6 μ μ1 ∧ MR τ (nsF ρ (S.2.drop t)) μ1 ∧ MC S.2 μ1 ∧ ∀ q ∈ S.2, μ1 188 q = ρ.1 3 q) S.2.length ?_ ?_
    · rintro t L μ1 ht ⟨rfl, hf, hj, R1, C1, w1⟩ hk
      obtain ⟨X1, U1⟩ := X hf hj
      have i1 : ¬ ((S.2.length : Int) ≤ (t : Int)) := by omega
      have e1 := C1.2 t ht
      have hmem := List.getElem_mem ht
      have hq := hns.2.2 _ hmem
      rw [List.drop_eq_getElem_cons ht, ← nsF_cons] at R1
      have hnot : S.2[t] ∉ S.2.drop (t + 1) := by
        have hnd := hns.2.1
        rw [← List.take_append_drop t S.2, List.nodup_append, List.drop_eq_getElem_cons ht] at hnd
        exact (List.nodup_cons.mp hnd.2.1).1
      have hz : (nsF ρ (S.2.drop (t + 1))).1 1 S.2[t] = 0 := by simp [nsF, hnot]; exact hq.2
      have ha : (nsF ρ (S.2.drop (t + 1))).1 3 S.2[t] = ρ.1 3 S.2[t] := by simp [nsF, hnot]
      rw [x262_151]
      simp (disch := omega) only [x262_0, x262_1, x262_4, x262_5, x262_6, x262_7, x262_10, x262_11, x262_13, x262_16, x262_17, x262_20, x262_21, x262_24, x262_25, x262_27, x262_28, x262_30, x262_31, x262_35, x262_36, x262_39, x262_42, x262_43, x262_45, x262_48, x262_51, x262_54, x262_55, x262_57, x262_60, x262_61, x262_64, x262_66, x262_67, x262_69, x262_72, x262_74, x262_76, x262_79, x262_82, x262_84, x262_86, x262_88, x262_90, x262_93, x262_96, x262_98, x262_99, x262_102, x262_103, x262_106, x262_107, x262_108, x262_109, x262_112, x262_115, x262_116, x262_118, x262_121, x262_122, x262_125, x262_126, x262_129, x262_131, x262_132, x262_133, x262_134, x262_137, x262_138, x262_139, x262_142, x262_144, x262_145, x262_148, x262_149, x262_153, x262_154, x262_157, x262_160, x262_161, x262_162, x262_165, x262_167, x262_168, x262_171, x262_174, x262_177, x262_178, ↓reduceIte, Bool.false_eq_true, Nat.reduceAdd, Nat.reduceLT, Nat.reduceLeDiff, Nat.reduceSub, Nat.reduceEqDiff, Int.reduceToNat, Int.reduceEq, Int.reduceLT, Int.reduceLE, Int.reduceAdd, Int.reduceSub, zg, zI, zJ, zR, zst, zkl, zn, zcat, zok, zraw, List.length_cons, List.length_nil, Option.toList, List.nil_append, List.cons_append, true_and, and_true, if_true, if_false, ne_eq, not_true, not_false_eq_true, and_self, true_or, or_true, false_or, or_false, false_and, and_false, b_138 hm, r_138_73 hm, x_189 hm, C1.1, e1, i1, hd0, Int.toNat_natCast]
      refine mUnnail X1 R1 (nsF_w hwF) rfl hq.1 hz (by rw [ha]; exact w1 _ hmem) ?_
      intro μ2 hf2 R2
      simp (disch := omega) only [x262_0, x262_1, x262_4, x262_5, x262_6, x262_7, x262_10, x262_11, x262_13, x262_16, x262_17, x262_20, x262_21, x262_24, x262_25, x262_27, x262_28, x262_30, x262_31, x262_35, x262_36, x262_39, x262_42, x262_43, x262_45, x262_48, x262_51, x262_54, x262_55, x262_57, x262_60, x262_61, x262_64, x262_66, x262_67, x262_69, x262_72, x262_74, x262_76, x262_79, x262_82, x262_84, x262_86, x262_88, x262_90, x262_93, x262_96, x262_98, x262_99, x262_102, x262_103, x262_106, x262_107, x262_108, x262_109, x262_112, x262_115, x262_116, x262_118, x262_121, x262_122, x262_125, x262_126, x262_129, x262_131, x262_132, x262_133, x262_134, x262_137, x262_138, x262_139, x262_142, x262_144, x262_145, x262_148, x262_149, x262_153, x262_154, x262_157, x262_160, x262_161, x262_162, x262_165, x262_167, x262_168, x262_171, x262_174, x262_177, x262_178, ↓reduceIte, Bool.false_eq_true, Nat.reduceAdd, Nat.reduceLT, Nat.reduceLeDiff, Nat.reduceSub, Nat.reduceEqDiff, Int.reduceToNat, Int.reduceEq, Int.reduceLT, Int.reduceLE, Int.reduceAdd, Int.reduceSub, zg, zI, zJ, zR, zst, zkl, zn, zcat, zok, zraw, List.length_cons, List.length_nil, Option.toList, List.nil_append, List.cons_append, true_and, and_true, if_true, if_false, ne_eq, not_true, not_false_eq_true, and_self, true_or, or_true, false_or, or_false, false_and, and_false, w32_s]
      have k2 := hf2 138 (by decide)
      apply hk
      refine ⟨rfl, hf.trans (hf2.mono (by decide)), fun j a b c => by rw [k2]; exact hj j a b c, R2, ?_, by rw [hf2 188 (by decide)]; exact w1⟩
      unfold MC; rw [k2, hf2 189 (by decide)]; exact C1
    · rintro L μ1 ⟨rfl, hf, hj, R1, C1, w1⟩
      rw [List.drop_length, nsF_nil] at R1
      rw [x262_151]
      simp (disch := omega) only [x262_0, x262_1, x262_4, x262_5, x262_6, x262_7, x262_10, x262_11, x262_13, x262_16, x262_17, x262_20, x262_21, x262_24, x262_25, x262_27, x262_28, x262_30, x262_31, x262_35, x262_36, x262_39, x262_42, x262_43, x262_45, x262_48, x262_51, x262_54, x262_55, x262_57, x262_60, x262_61, x262_64, x262_66, x262_67, x262_69, x262_72, x262_74, x262_76, x262_79, x262_82, x262_84, x262_86, x262_88, x262_90, x262_93, x262_96, x262_98, x262_99, x262_102, x262_103, x262_106, x262_107, x262_108, x262_109, x262_112, x262_115, x262_116, x262_118, x262_121, x262_122, x262_125, x262_126, x262_129, x262_131, x262_132, x262_133, x262_134, x262_137, x262_138, x262_139, x262_142, x262_144, x262_145, x262_148, x262_149, x262_153, x262_154, x262_157, x262_160, x262_161, x262_162, x262_165, x262_167, x262_168, x262_171, x262_174, x262_177, x262_178, ↓reduceIte, Bool.false_eq_true, Nat.reduceAdd, Nat.reduceLT, Nat.reduceLeDiff, Nat.reduceSub, Nat.reduceEqDiff, Int.reduceToNat, Int.reduceEq, Int.reduceLT, Int.reduceLE, Int.reduceAdd, Int.reduceSub, zg, zI, zJ, zR, zst, zkl, zn, zcat, zok, zraw, List.length_cons, List.length_nil, Option.toList, List.nil_append, List.cons_append, true_and, and_true, if_true, if_false, ne_eq, not_true, not_false_eq_true, and_self, true_or, or_true, false_or, or_false, false_and, and_false, b_138 hm, C1.1, Int.le_refl]
      have := hQ μ1 hf hj R1 (by rw [← hS]; exact C1)
      rw [← hS] at this
      exact this
  have done : ∀ (S : zN) (y3 : Int) (x4 x5 x6 x7 : zV) μ1, S = (stO τ ρ G n).1 → Fr GN μ μ1 → J6 μ μ1 → MR τ (nsF ρ S.2) μ1 → MC S.2 μ1 → (∀ q ∈ S.2, μ1 188 q = ρ.1 3 q) → Ex d 262 148 [vr 138, vi (n : Nat), vi S.1, vi y3, x4, x5, x6, x7] [] θ μ1 Q := by
    intro S y3 x4 x5 x6 x7 μ1 hS hf hj R1 C1 w1
    simp (disch := omega) only [x262_0, x262_1, x262_4, x262_5, x262_6, x262_7, x262_10, x262_11, x262_13, x262_16, x262_17, x262_20, x262_21, x262_24, x262_25, x262_27, x262_28, x262_30, x262_31, x262_35, x262_36, x262_39, x262_42, x262_43, x262_45, x262_48, x262_51, x262_54, x262_55, x262_57, x262_60, x262_61, x262_64, x262_66, x262_67, x262_69, x262_72, x262_74, x262_76, x262_79, x262_82, x262_84, x262_86, x262_88, x262_90, x262_93, x262_96, x262_98, x262_99, x262_102, x262_103, x262_106, x262_107, x262_108, x262_109, x262_112, x262_115, x262_116, x262_118, x262_121, x262_122, x262_125, x262_126, x262_129, x262_131, x262_132, x262_133, x262_134, x262_137, x262_138, x262_139, x262_142, x262_144, x262_145, x262_148, x262_149, x262_153, x262_154, x262_157, x262_160, x262_161, x262_162, x262_165, x262_167, x262_168, x262_171, x262_174, x262_177, x262_178, ↓reduceIte, Bool.false_eq_true, Nat.reduceAdd, Nat.reduceLT, Nat.reduceLeDiff, Nat.reduceSub, Nat.reduceEqDiff, Int.reduceToNat, Int.reduceEq, Int.reduceLT, Int.reduceLE, Int.reduceAdd, Int.reduceSub, zg, zI, zJ, zR, zst, zkl, zn, zcat, zok, zraw, List.length_cons, List.length_nil, Option.toList, List.nil_append, List.cons_append, true_and, and_true, if_true, if_false, ne_eq, not_true, not_false_eq_true, and_self, true_or, or_true, false_or, or_false, false_and, and_false]
    exact out S y3 x5 x6 x7 hS 0 _ μ1 (by omega) ⟨rfl, hf, hj, R1, C1, w1⟩
  -- the best of one step
  have inner : ∀ (k : Nat) (x7 : zV) (x2 : zV), (∀ μ1 x6 x7, Fr GN μ μ1 → J6 μ μ1 → MR τ (stO τ ρ G k).2 μ1 → MC (stO τ ρ G k).1.2 μ1 → (∀ q ∈ (stO τ ρ G k).1.2, μ1 188 q = ρ.1 3 q) → Ex d 262 96 [vr 138, vi (n : Nat), vi (stO τ ρ G k).1.1, vi 1, vi (bsV (n1O τ (stO τ ρ G k).2 G ((stO τ ρ G k).1.1, []) (tn τ)).2), vi (n1O τ (stO τ ρ G k).2 G ((stO τ ρ G k).1.1, []) (tn τ)).1, x6, x7] [] θ μ1 Q) →
      ∀ t L μ1, t ≤ tn τ → (∃ x7, L = [vr 138, vi (n : Nat), vi (stO τ ρ G k).1.1, vi 1, vi (bsV (n1O τ (stO τ ρ G k).2 G ((stO τ ρ G k).1.1, []) t).2), vi (n1O τ (stO τ ρ G k).2 G ((stO τ ρ G k).1.1, []) t).1, vi (t : Nat), x7] ∧ Fr GN μ μ1 ∧ J6 μ μ1 ∧ MR τ (stO τ ρ G k).2 μ1 ∧ MC (stO τ ρ G k).1.2 μ1 ∧ ∀ q ∈ (stO τ ρ G k).1.2, μ1 188 q = ρ.1 3 q) → Ex d 262 33 L [] θ μ1 Q := by
    intro k _ _ hend
    have hns := st_ns (τ := τ) (ρ := ρ) (G := G) k
    generalize hρk : (stO τ ρ G k).2 = ρk at *
    generalize hSk : (stO τ ρ G k).1 = Sk at *
    refine Ex_loop (I := fun t L μ1 => ∃ x7, L = [vr 138, vi (n : Nat), vi Sk.1, vi 1, vi (bsV (n1O τ ρk G (Sk.1, []) t).2), vi (n1O τ ρk G (Sk.1, []) t).1, vi (t : Nat), x7] ∧ Fr GN μ μ1 ∧ J6 μ μ1 ∧ MR τ ρk μ1 ∧ MC Sk.2 μ1 ∧ ∀ q ∈ Sk.2, μ1 188 q = ρ.1 3 q) (tn τ) ?_ ?_
    · rintro t L μ1 ht ⟨x7, rfl, hf, hj, R1, C1, w1⟩ hk
      obtain ⟨X1, U1⟩ := X hf hj
      have i1 : ¬ ((tn τ : Int) ≤ (t : Int)) := by omega
      have hst : n1O τ ρk G (Sk.1, []) (t + 1) = s1O τ ρk G (n1O τ ρk G (Sk.1, []) t) t := rfl
      unfold s1O at hst
      generalize n1O τ ρk G (Sk.1, []) t = S at *
      rw [x262_33]
      by_cases hcb : canO ρk t = true
      · have hb1 : b2 (canO ρk t) = 1 := by rw [hcb]; rfl
        have hzt : ρk.1 1 t = 0 := by unfold canO at hcb; simp at hcb; exact hcb.2
        have hnot : t ∉ Sk.2 := by
          intro hmm
          rw [hns.1] at hzt
          simp [nsF, hmm] at hzt
        simp (disch := omega) only [x262_0, x262_1, x262_4, x262_5, x262_6, x262_7, x262_10, x262_11, x262_13, x262_16, x262_17, x262_20, x262_21, x262_24, x262_25, x262_27, x262_28, x262_30, x262_31, x262_35, x262_36, x262_39, x262_42, x262_43, x262_45, x262_48, x262_51, x262_54, x262_55, x262_57, x262_60, x262_61, x262_64, x262_66, x262_67, x262_69, x262_72, x262_74, x262_76, x262_79, x262_82, x262_84, x262_86, x262_88, x262_90, x262_93, x262_98, x262_99, x262_102, x262_103, x262_106, x262_107, x262_108, x262_109, x262_112, x262_115, x262_116, x262_118, x262_121, x262_122, x262_125, x262_126, x262_129, x262_131, x262_132, x262_133, x262_134, x262_137, x262_138, x262_139, x262_142, x262_144, x262_145, x262_148, x262_149, x262_153, x262_154, x262_157, x262_160, x262_161, x262_162, x262_165, x262_167, x262_168, x262_171, x262_174, x262_177, x262_178, ↓reduceIte, Bool.false_eq_true, Nat.reduceAdd, Nat.reduceLT, Nat.reduceLeDiff, Nat.reduceSub, Nat.reduceEqDiff, Int.reduceToNat, Int.reduceEq, Int.reduceLT, Int.reduceLE, Int.reduceAdd, Int.reduceSub, zg, zI, zJ, zR, zst, zkl, zn, zcat, zok, zraw, List.length_cons, List.length_nil, Option.toList, List.nil_append, List.cons_append, true_and, and_true, if_true, if_false, ne_eq, not_true, not_false_eq_true, and_self, true_or, or_true, false_or, or_false, false_and, and_false, b_138 hm, hd0, mTiles _ X1, i1, mCan X1 R1 rfl ht, hb1]
        refine mNail X1 R1 rfl ht ?_
        intro μ2 hf2 R2 w2
        have hf02 : Fr GN μ μ2 := hf.trans (hf2.mono (by decide))
        have hj02 : J6 μ μ2 := fun j a b c => by rw [hf2 138 (by decide)]; exact hj j a b c
        obtain ⟨X2, U2⟩ := X hf02 hj02
        simp (disch := omega) only [x262_0, x262_1, x262_4, x262_5, x262_6, x262_7, x262_10, x262_11, x262_13, x262_16, x262_17, x262_20, x262_21, x262_24, x262_25, x262_27, x262_28, x262_30, x262_31, x262_35, x262_36, x262_39, x262_42, x262_43, x262_45, x262_48, x262_51, x262_54, x262_55, x262_57, x262_60, x262_61, x262_64, x262_66, x262_67, x262_69, x262_72, x262_74, x262_76, x262_79, x262_82, x262_84, x262_86, x262_88, x262_90, x262_93, x262_98, x262_99, x262_102, x262_103, x262_106, x262_107, x262_108, x262_109, x262_112, x262_115, x262_116, x262_118, x262_121, x262_122, x262_125, x262_126, x262_129, x262_131, x262_132, x262_133, x262_134, x262_137, x262_138, x262_139, x262_142, x262_144, x262_145, x262_148, x262_149, x262_153, x262_154, x262_157, x262_160, x262_161, x262_162, x262_165, x262_167, x262_168, x262_171, x262_174, x262_177, x262_178, ↓reduceIte, Bool.false_eq_true, Nat.reduceAdd, Nat.reduceLT, Nat.reduceLeDiff, Nat.reduceSub, Nat.reduceEqDiff, Int.reduceToNat, Int.reduceEq, Int.reduceLT, Int.reduceLE, Int.reduceAdd, Int.reduceSub, zg, zI, zJ, zR, zst, zkl, zn, zcat, zok, zraw, List.length_cons, List.length_nil, Option.toList, List.nil_append, List.cons_append, true_and, and_true, if_true, if_false, ne_eq, not_true, not_false_eq_true, and_self, true_or, or_true, false_or, or_false, false_and, and_false, b_138 hm, hd0]
        refine mHarm (d := d - 1) (by omega) X2 R2 hG U2 ?_
        intro μ3 hf3 hj3
        have hf03 : Fr GN μ μ3 := hf02.trans (hf3.mono (by decide))
        have hj03 : J6 μ μ3 := fun j a b c => by rw [hj3 j a b]; exact hj02 j a b c
        obtain ⟨X3, U3⟩ := X hf03 hj03
        have R3 : MR τ (naF ρk t) μ3 := MR_fr R2 hf3 (by decide) (hj3 57 (by decide) (by decide))
        have w3t : μ3 188 t = ρk.1 3 t := by rw [hf3 188 (by decide), w2, if_pos rfl]
        simp (disch := omega) only [x262_0, x262_1, x262_4, x262_5, x262_6, x262_7, x262_10, x262_11, x262_13, x262_16, x262_17, x262_20, x262_21, x262_24, x262_25, x262_27, x262_28, x262_30, x262_31, x262_35, x262_36, x262_39, x262_42, x262_43, x262_45, x262_48, x262_51, x262_54, x262_55, x262_57, x262_60, x262_61, x262_64, x262_66, x262_67, x262_69, x262_72, x262_74, x262_76, x262_79, x262_82, x262_84, x262_86, x262_88, x262_90, x262_93, x262_98, x262_99, x262_102, x262_103, x262_106, x262_107, x262_108, x262_109, x262_112, x262_115, x262_116, x262_118, x262_121, x262_122, x262_125, x262_126, x262_129, x262_131, x262_132, x262_133, x262_134, x262_137, x262_138, x262_139, x262_142, x262_144, x262_145, x262_148, x262_149, x262_153, x262_154, x262_157, x262_160, x262_161, x262_162, x262_165, x262_167, x262_168, x262_171, x262_174, x262_177, x262_178, ↓reduceIte, Bool.false_eq_true, Nat.reduceAdd, Nat.reduceLT, Nat.reduceLeDiff, Nat.reduceSub, Nat.reduceEqDiff, Int.reduceToNat, Int.reduceEq, Int.reduceLT, Int.reduceLE, Int.reduceAdd, Int.reduceSub, zg, zI, zJ, zR, zst, zkl, zn, zcat, zok, zraw, List.length_cons, List.length_nil, Option.toList, List.nil_append, List.cons_append, true_and, and_true, if_true, if_false, ne_eq, not_true, not_false_eq_true, and_self, true_or, or_true, false_or, or_false, false_and, and_false, b_138 hm, hd0]
        refine mUnnail X3 R3 R1.1.1 rfl ht hzt w3t ?_
        intro μ4 hf4 R4
        have k4 := hf4 138 (by decide)
        have hf04 : Fr GN μ μ4 := hf03.trans (hf4.mono (by decide))
        have hj04 : J6 μ μ4 := fun j a b c => by rw [k4]; exact hj03 j a b c
        have C4 : MC Sk.2 μ4 := by unfold MC; rw [k4, hf4 189 (by decide), hj3 72 (by decide) (by decide), hf2 138 (by decide), hf3 189 (by decide), hf2 189 (by decide)]; exact C1
        have w4 : ∀ q ∈ Sk.2, μ4 188 q = ρ.1 3 q := by
          intro q hq
          rw [hf4 188 (by decide), hf3 188 (by decide), w2, if_neg (fun (e : q = t) => hnot (e ▸ hq))]
          exact w1 q hq
        by_cases hlt : haO τ (naF ρk t) G < S.1
        · have c1 : haO τ (naF ρk t) G < S.1 := hlt
          simp (disch := omega) only [x262_0, x262_1, x262_4, x262_5, x262_6, x262_7, x262_10, x262_11, x262_13, x262_16, x262_17, x262_20, x262_21, x262_24, x262_25, x262_27, x262_28, x262_30, x262_31, x262_35, x262_36, x262_39, x262_42, x262_43, x262_45, x262_48, x262_51, x262_54, x262_55, x262_57, x262_60, x262_61, x262_64, x262_66, x262_67, x262_69, x262_72, x262_74, x262_76, x262_79, x262_82, x262_84, x262_86, x262_88, x262_90, x262_93, x262_98, x262_99, x262_102, x262_103, x262_106, x262_107, x262_108, x262_109, x262_112, x262_115, x262_116, x262_118, x262_121, x262_122, x262_125, x262_126, x262_129, x262_131, x262_132, x262_133, x262_134, x262_137, x262_138, x262_139, x262_142, x262_144, x262_145, x262_148, x262_149, x262_153, x262_154, x262_157, x262_160, x262_161, x262_162, x262_165, x262_167, x262_168, x262_171, x262_174, x262_177, x262_178, ↓reduceIte, Bool.false_eq_true, Nat.reduceAdd, Nat.reduceLT, Nat.reduceLeDiff, Nat.reduceSub, Nat.reduceEqDiff, Int.reduceToNat, Int.reduceEq, Int.reduceLT, Int.reduceLE, Int.reduceAdd, Int.reduceSub, zg, zI, zJ, zR, zst, zkl, zn, zcat, zok, zraw, List.length_cons, List.length_nil, Option.toList, List.nil_append, List.cons_append, true_and, and_true, if_true, if_false, ne_eq, not_true, not_false_eq_true, and_self, true_or, or_true, false_or, or_false, false_and, and_false, c1, w32_s]
          apply hk
          refine ⟨vi (haO τ (naF ρk t) G), ?_, hf04, hj04, R4, C4, w4⟩
          rw [hst, if_pos ⟨hcb, hlt⟩]; rfl
        · simp (disch := omega) only [x262_0, x262_1, x262_4, x262_5, x262_6, x262_7, x262_10, x262_11, x262_13, x262_16, x262_17, x262_20, x262_21, x262_24, x262_25, x262_27, x262_28, x262_30, x262_31, x262_35, x262_36, x262_39, x262_42, x262_43, x262_45, x262_48, x262_51, x262_54, x262_55, x262_57, x262_60, x262_61, x262_64, x262_66, x262_67, x262_69, x262_72, x262_74, x262_76, x262_79, x262_82, x262_84, x262_86, x262_88, x262_90, x262_93, x262_98, x262_99, x262_102, x262_103, x262_106, x262_107, x262_108, x262_109, x262_112, x262_115, x262_116, x262_118, x262_121, x262_122, x262_125, x262_126, x262_129, x262_131, x262_132, x262_133, x262_134, x262_137, x262_138, x262_139, x262_142, x262_144, x262_145, x262_148, x262_149, x262_153, x262_154, x262_157, x262_160, x262_161, x262_162, x262_165, x262_167, x262_168, x262_171, x262_174, x262_177, x262_178, ↓reduceIte, Bool.false_eq_true, Nat.reduceAdd, Nat.reduceLT, Nat.reduceLeDiff, Nat.reduceSub, Nat.reduceEqDiff, Int.reduceToNat, Int.reduceEq, Int.reduceLT, Int.reduceLE, Int.reduceAdd, Int.reduceSub, zg, zI, zJ, zR, zst, zkl, zn, zcat, zok, zraw, List.length_cons, List.length_nil, Option.toList, List.nil_append, List.cons_append, true_and, and_true, if_true, if_false, ne_eq, not_true, not_false_eq_true, and_self, true_or, or_true, false_or, or_false, false_and, and_false, hlt, w32_s]
          apply hk
          refine ⟨vi (haO τ (naF ρk t) G), ?_, hf04, hj04, R4, C4, w4⟩
          rw [hst, if_neg (fun q => hlt q.2)]
      · have hb1 : b2 (canO ρk t) = 0 := by unfold b2; rw [if_neg hcb]
        simp (disch := omega) only [x262_0, x262_1, x262_4, x262_5, x262_6, x262_7, x262_10, x262_11, x262_13, x262_16, x262_17, x262_20, x262_21, x262_24, x262_25, x262_27, x262_28, x262_30, x262_31, x262_35, x262_36, x262_39, x262_42, x262_43, x262_45, x262_48, x262_51, x262_54, x262_55, x262_57, x262_60, x262_61, x262_64, x262_66, x262_67, x262_69, x262_72, x262_74, x262_76, x262_79, x262_82, x262_84, x262_86, x262_88, x262_90, x262_93, x262_98, x262_99, x262_102, x262_103, x262_106, x262_107, x262_108, x262_109, x262_112, x262_115, x262_116, x262_118, x262_121, x262_122, x262_125, x262_126, x262_129, x262_131, x262_132, x262_133, x262_134, x262_137, x262_138, x262_139, x262_142, x262_144, x262_145, x262_148, x262_149, x262_153, x262_154, x262_157, x262_160, x262_161, x262_162, x262_165, x262_167, x262_168, x262_171, x262_174, x262_177, x262_178, ↓reduceIte, Bool.false_eq_true, Nat.reduceAdd, Nat.reduceLT, Nat.reduceLeDiff, Nat.reduceSub, Nat.reduceEqDiff, Int.reduceToNat, Int.reduceEq, Int.reduceLT, Int.reduceLE, Int.reduceAdd, Int.reduceSub, zg, zI, zJ, zR, zst, zkl, zn, zcat, zok, zraw, List.length_cons, List.length_nil, Option.toList, List.nil_append, List.cons_append, true_and, and_true, if_true, if_false, ne_eq, not_true, not_false_eq_true, and_self, true_or, or_true, false_or, or_false, false_and, and_false, b_138 hm, hd0, mTiles _ X1, i1, mCan X1 R1 rfl ht, hb1, w32_s]
        apply hk
        refine ⟨x7, ?_, hf, hj, R1, C1, w1⟩
        rw [hst, if_neg (fun q => hcb q.1)]
    · rintro L μ1 ⟨x7, rfl, hf, hj, R1, C1, w1⟩
      obtain ⟨X1, U1⟩ := X hf hj
      rw [x262_33]
      simp (disch := omega) only [x262_0, x262_1, x262_4, x262_5, x262_6, x262_7, x262_10, x262_11, x262_13, x262_16, x262_17, x262_20, x262_21, x262_24, x262_25, x262_27, x262_28, x262_30, x262_31, x262_35, x262_36, x262_39, x262_42, x262_43, x262_45, x262_48, x262_51, x262_54, x262_55, x262_57, x262_60, x262_61, x262_64, x262_66, x262_67, x262_69, x262_72, x262_74, x262_76, x262_79, x262_82, x262_84, x262_86, x262_88, x262_90, x262_93, x262_98, x262_99, x262_102, x262_103, x262_106, x262_107, x262_108, x262_109, x262_112, x262_115, x262_116, x262_118, x262_121, x262_122, x262_125, x262_126, x262_129, x262_131, x262_132, x262_133, x262_134, x262_137, x262_138, x262_139, x262_142, x262_144, x262_145, x262_148, x262_149, x262_153, x262_154, x262_157, x262_160, x262_161, x262_162, x262_165, x262_167, x262_168, x262_171, x262_174, x262_177, x262_178, ↓reduceIte, Bool.false_eq_true, Nat.reduceAdd, Nat.reduceLT, Nat.reduceLeDiff, Nat.reduceSub, Nat.reduceEqDiff, Int.reduceToNat, Int.reduceEq, Int.reduceLT, Int.reduceLE, Int.reduceAdd, Int.reduceSub, zg, zI, zJ, zR, zst, zkl, zn, zcat, zok, zraw, List.length_cons, List.length_nil, Option.toList, List.nil_append, List.cons_append, true_and, and_true, if_true, if_false, ne_eq, not_true, not_false_eq_true, and_self, true_or, or_true, false_or, or_false, false_and, and_false, b_138 hm, hd0, mTiles _ X1, Int.le_refl]
      exact hend μ1 _ _ hf hj R1 C1 w1
  have outer : ∀ k L μ1, k ≤ n → (∃ x4 x5 x6 x7, L = [vr 138, vi (n : Nat), vi (stO τ ρ G k).1.1, vi 1, x4, x5, x6, x7] ∧ Fr GN μ μ1 ∧ J6 μ μ1 ∧ MR τ (stO τ ρ G k).2 μ1 ∧ MC (stO τ ρ G k).1.2 μ1 ∧ (∀ q ∈ (stO τ ρ G k).1.2, μ1 188 q = ρ.1 3 q) ∧ (stO τ ρ G k).1.2.length = k) → Ex d 262 12 L [] θ μ1 Q := by
    refine Ex_loop (I := fun k L μ1 => ∃ x4 x5 x6 x7, L = [vr 138, vi (n : Nat), vi (stO τ ρ G k).1.1, vi 1, x4, x5, x6, x7] ∧ Fr GN μ μ1 ∧ J6 μ μ1 ∧ MR τ (stO τ ρ G k).2 μ1 ∧ MC (stO τ ρ G k).1.2 μ1 ∧ (∀ q ∈ (stO τ ρ G k).1.2, μ1 188 q = ρ.1 3 q) ∧ (stO τ ρ G k).1.2.length = k) n ?_ ?_
    · rintro k L μ1 hkn ⟨x4, x5, x6, x7, rfl, hf, hj, R1, C1, w1, hlen⟩ hk
      have e72 : μ1 138 72 = (k : Int) := by rw [C1.1, hlen]
      have i1 : ¬ ((n : Int) ≤ (k : Int)) := by omega
      rw [x262_12]
      simp (disch := omega) only [x262_0, x262_1, x262_4, x262_5, x262_6, x262_7, x262_10, x262_11, x262_13, x262_16, x262_17, x262_20, x262_21, x262_24, x262_25, x262_27, x262_28, x262_30, x262_31, x262_35, x262_36, x262_39, x262_42, x262_43, x262_45, x262_48, x262_51, x262_54, x262_55, x262_57, x262_60, x262_61, x262_64, x262_66, x262_67, x262_69, x262_72, x262_74, x262_76, x262_79, x262_82, x262_84, x262_86, x262_88, x262_90, x262_93, x262_96, x262_98, x262_99, x262_102, x262_103, x262_106, x262_107, x262_108, x262_109, x262_112, x262_115, x262_116, x262_118, x262_121, x262_122, x262_125, x262_126, x262_129, x262_131, x262_132, x262_133, x262_134, x262_137, x262_138, x262_139, x262_142, x262_144, x262_145, x262_149, x262_153, x262_154, x262_157, x262_160, x262_161, x262_162, x262_165, x262_167, x262_168, x262_171, x262_174, x262_177, x262_178, ↓reduceIte, Bool.false_eq_true, Nat.reduceAdd, Nat.reduceLT, Nat.reduceLeDiff, Nat.reduceSub, Nat.reduceEqDiff, Int.reduceToNat, Int.reduceEq, Int.reduceLT, Int.reduceLE, Int.reduceAdd, Int.reduceSub, zg, zI, zJ, zR, zst, zkl, zn, zcat, zok, zraw, List.length_cons, List.length_nil, Option.toList, List.nil_append, List.cons_append, true_and, and_true, if_true, if_false, ne_eq, not_true, not_false_eq_true, and_self, true_or, or_true, false_or, or_false, false_and, and_false, b_138 hm, e72, i1]
      refine inner k x7 x4 ?_ 0 _ μ1 (by omega) ⟨x7, rfl, hf, hj, R1, C1, w1⟩
      intro μ2 x6 x7 hf2 hj2 R2 C2 w2
      obtain ⟨X2, U2⟩ := X hf2 hj2
      have e72 : μ2 138 72 = (k : Int) := by rw [C2.1, hlen]
      have hns := st_ns (τ := τ) (ρ := ρ) (G := G) k
      have hst : stO τ ρ G (k + 1) = match (n1O τ (stO τ ρ G k).2 G ((stO τ ρ G k).1.1, []) (tn τ)).2 with
          | [] => stO τ ρ G k
          | q :: _ => (((n1O τ (stO τ ρ G k).2 G ((stO τ ρ G k).1.1, []) (tn τ)).1, (stO τ ρ G k).1.2 ++ [q]), naF (stO τ ρ G k).2 q) := rfl
      rcases n1_sh (τ := τ) (ρ := (stO τ ρ G k).2) (G := G) (S := ((stO τ ρ G k).1.1, [])) rfl (tn τ) with ⟨hnil, hval⟩ | ⟨q, hq, hsome, hcan⟩
      · have hb : bsV (n1O τ (stO τ ρ G k).2 G ((stO τ ρ G k).1.1, []) (tn τ)).2 = -1 := by rw [hnil]; rfl
        have hs := st_stay hnil (n - k)
        rw [show k + (n - k) = n by omega] at hs
        rw [hb]
        simp (disch := omega) only [x262_0, x262_1, x262_4, x262_5, x262_6, x262_7, x262_10, x262_11, x262_12, x262_13, x262_16, x262_17, x262_20, x262_21, x262_24, x262_25, x262_27, x262_28, x262_30, x262_31, x262_35, x262_36, x262_39, x262_42, x262_43, x262_45, x262_48, x262_51, x262_54, x262_55, x262_57, x262_60, x262_61, x262_64, x262_66, x262_67, x262_69, x262_72, x262_74, x262_76, x262_79, x262_82, x262_84, x262_86, x262_88, x262_90, x262_93, x262_96, x262_98, x262_99, x262_102, x262_103, x262_106, x262_107, x262_108, x262_109, x262_112, x262_115, x262_116, x262_118, x262_121, x262_122, x262_125, x262_126, x262_129, x262_131, x262_132, x262_133, x262_134, x262_137, x262_138, x262_139, x262_142, x262_144, x262_145, x262_149, x262_153, x262_154, x262_157, x262_160, x262_161, x262_162, x262_165, x262_167, x262_168, x262_171, x262_174, x262_177, x262_178, ↓reduceIte, Bool.false_eq_true, Nat.reduceAdd, Nat.reduceLT, Nat.reduceLeDiff, Nat.reduceSub, Nat.reduceEqDiff, Int.reduceToNat, Int.reduceEq, Int.reduceLT, Int.reduceLE, Int.reduceAdd, Int.reduceSub, zg, zI, zJ, zR, zst, zkl, zn, zcat, zok, zraw, List.length_cons, List.length_nil, Option.toList, List.nil_append, List.cons_append, true_and, and_true, if_true, if_false, ne_eq, not_true, not_false_eq_true, and_self, true_or, or_true, false_or, or_false, false_and, and_false, b_138 hm]
        refine done (stO τ ρ G k).1 _ _ _ _ _ μ2 (by rw [hs]) hf2 hj2 ?_ C2 w2
        rw [← hns.1]; exact R2
      · have hb : bsV (n1O τ (stO τ ρ G k).2 G ((stO τ ρ G k).1.1, []) (tn τ)).2 = (q : Int) := by rw [hsome]; rfl
        have hne : ¬ ((q : Int) = -1) := by omega
        rw [hb]
        rw [hsome] at hst
        simp (disch := omega) only [x262_0, x262_1, x262_4, x262_5, x262_6, x262_7, x262_10, x262_11, x262_13, x262_16, x262_17, x262_20, x262_21, x262_24, x262_25, x262_27, x262_28, x262_30, x262_31, x262_35, x262_36, x262_39, x262_42, x262_43, x262_45, x262_48, x262_51, x262_54, x262_55, x262_57, x262_60, x262_61, x262_64, x262_66, x262_67, x262_69, x262_72, x262_74, x262_76, x262_79, x262_82, x262_84, x262_86, x262_88, x262_90, x262_93, x262_96, x262_98, x262_99, x262_102, x262_103, x262_106, x262_107, x262_108, x262_109, x262_112, x262_115, x262_116, x262_118, x262_121, x262_122, x262_125, x262_126, x262_129, x262_131, x262_132, x262_133, x262_134, x262_137, x262_138, x262_139, x262_142, x262_144, x262_145, x262_149, x262_153, x262_154, x262_157, x262_160, x262_161, x262_162, x262_165, x262_167, x262_168, x262_171, x262_174, x262_177, x262_178, ↓reduceIte, Bool.false_eq_true, Nat.reduceAdd, Nat.reduceLT, Nat.reduceLeDiff, Nat.reduceSub, Nat.reduceEqDiff, Int.reduceToNat, Int.reduceEq, Int.reduceLT, Int.reduceLE, Int.reduceAdd, Int.reduceSub, zg, zI, zJ, zR, zst, zkl, zn, zcat, zok, zraw, List.length_cons, List.length_nil, Option.toList, List.nil_append, List.cons_append, true_and, and_true, if_true, if_false, ne_eq, not_true, not_false_eq_true, and_self, true_or, or_true, false_or, or_false, false_and, and_false, b_138 hm, hne, hd0]
        refine mNail X2 R2 rfl hq ?_
        intro μ3 hf3 R3 w3
        have k3 := hf3 138 (by decide)
        have hz : (stO τ ρ G k).2.1 1 q = 0 := by unfold canO at hcan; simp at hcan; exact hcan.2
        have hnot : q ∉ (stO τ ρ G k).1.2 := by
          intro hmm
          rw [hns.1] at hz
          simp [nsF, hmm] at hz
        have hag : (stO τ ρ G k).2.1 3 q = ρ.1 3 q := (st_age k q hq hz).symm
        simp (disch := omega) only [x262_0, x262_1, x262_4, x262_5, x262_6, x262_7, x262_10, x262_11, x262_13, x262_16, x262_17, x262_20, x262_21, x262_24, x262_25, x262_27, x262_28, x262_30, x262_31, x262_35, x262_36, x262_39, x262_42, x262_43, x262_45, x262_48, x262_51, x262_54, x262_55, x262_57, x262_60, x262_61, x262_64, x262_66, x262_67, x262_69, x262_72, x262_74, x262_76, x262_79, x262_82, x262_84, x262_86, x262_88, x262_90, x262_93, x262_96, x262_98, x262_99, x262_102, x262_103, x262_106, x262_107, x262_108, x262_109, x262_112, x262_115, x262_116, x262_118, x262_121, x262_122, x262_125, x262_126, x262_129, x262_131, x262_132, x262_133, x262_134, x262_137, x262_138, x262_139, x262_142, x262_144, x262_145, x262_149, x262_153, x262_154, x262_157, x262_160, x262_161, x262_162, x262_165, x262_167, x262_168, x262_171, x262_174, x262_177, x262_178, ↓reduceIte, Bool.false_eq_true, Nat.reduceAdd, Nat.reduceLT, Nat.reduceLeDiff, Nat.reduceSub, Nat.reduceEqDiff, Int.reduceToNat, Int.reduceEq, Int.reduceLT, Int.reduceLE, Int.reduceAdd, Int.reduceSub, zg, zI, zJ, zR, zst, zkl, zn, zcat, zok, zraw, List.length_cons, List.length_nil, Option.toList, List.nil_append, List.cons_append, true_and, and_true, if_true, if_false, ne_eq, not_true, not_false_eq_true, and_self, true_or, or_true, false_or, or_false, false_and, and_false, b_138 hm, r_138_73 hm, x_189 hm, k3, e72, Int.toNat_natCast, ua_eq, us_ne, w32_s]
        apply hk
        refine ⟨_, _, _, _, by rw [hst], Fr.us (by decide) (Fr.us (by decide) (hf2.trans (hf3.mono (by decide)))), ?_, ?_, ?_, ?_, ?_⟩
        · intro j a b c; rw [us_same, zup_ne c]; first | exact hj2 j a b c | (rw [us_ne (by decide), k3]; exact hj2 j a b c)
        · rw [hst]
          refine MR_fr (A := [138, 189]) R3 (Fr.us (by decide) (Fr.us (by decide) Fr.refl)) (by decide) ?_
          rw [us_same, zup_ne (by decide)]; first | exact k3.symm ▸ rfl | rw [k3]
        · rw [hst]
          refine ⟨?_, ?_⟩
          · rw [us_same, zup_same rfl]; simp only [List.length_append, List.length_cons, List.length_nil, hlen]
          · intro i hi
            simp only [List.length_append, List.length_cons, List.length_nil, hlen] at hi
            rw [us_ne (by decide), us_same, zup_ap]
            by_cases hi2 : i = k
            · rw [if_pos hi2]
              simp only [List.getElem_append, hlen, hi2, Nat.lt_irrefl]
              simp
            · rw [if_neg hi2, hf3 189 (by decide), C2.2 i (by rw [hlen]; omega)]
              simp only [List.getElem_append]
              rw [dif_pos (by rw [hlen]; omega)]
        · intro p hp
          rw [hst] at hp
          rw [us_ne (by decide), us_ne (by decide), w3]
          rcases List.mem_append.mp hp with h1 | h1
          · rw [if_neg (fun (e : p = q) => hnot (e ▸ h1))]; exact w2 p h1
          · simp at h1; rw [if_pos h1, h1]; exact hag
        · rw [hst]; simp only [List.length_append, List.length_cons, List.length_nil, hlen]
    · rintro L μ1 ⟨x4, x5, x6, x7, rfl, hf, hj, R1, C1, w1, hlen⟩
      have e72 : μ1 138 72 = (n : Int) := by rw [C1.1, hlen]
      have hns := st_ns (τ := τ) (ρ := ρ) (G := G) n
      rw [x262_12]
      simp (disch := omega) only [x262_0, x262_1, x262_4, x262_5, x262_6, x262_7, x262_10, x262_11, x262_13, x262_16, x262_17, x262_20, x262_21, x262_24, x262_25, x262_27, x262_28, x262_30, x262_31, x262_35, x262_36, x262_39, x262_42, x262_43, x262_45, x262_48, x262_51, x262_54, x262_55, x262_57, x262_60, x262_61, x262_64, x262_66, x262_67, x262_69, x262_72, x262_74, x262_76, x262_79, x262_82, x262_84, x262_86, x262_88, x262_90, x262_93, x262_96, x262_98, x262_99, x262_102, x262_103, x262_106, x262_107, x262_108, x262_109, x262_112, x262_115, x262_116, x262_118, x262_121, x262_122, x262_125, x262_126, x262_129, x262_131, x262_132, x262_133, x262_134, x262_137, x262_138, x262_139, x262_142, x262_144, x262_145, x262_149, x262_153, x262_154, x262_157, x262_160, x262_161, x262_162, x262_165, x262_167, x262_168, x262_171, x262_174, x262_177, x262_178, ↓reduceIte, Bool.false_eq_true, Nat.reduceAdd, Nat.reduceLT, Nat.reduceLeDiff, Nat.reduceSub, Nat.reduceEqDiff, Int.reduceToNat, Int.reduceEq, Int.reduceLT, Int.reduceLE, Int.reduceAdd, Int.reduceSub, zg, zI, zJ, zR, zst, zkl, zn, zcat, zok, zraw, List.length_cons, List.length_nil, Option.toList, List.nil_append, List.cons_append, true_and, and_true, if_true, if_false, ne_eq, not_true, not_false_eq_true, and_self, true_or, or_true, false_or, or_false, false_and, and_false, b_138 hm, e72, Int.le_refl]
      refine done (stO τ ρ G n).1 _ _ _ _ _ μ1 rfl hf hj ?_ C1 w1
      rw [← hns.1]; exact R1
  simp (disch := omega) only [x262_0, x262_1, x262_4, x262_5, x262_6, x262_7, x262_10, x262_11, x262_13, x262_16, x262_17, x262_20, x262_21, x262_24, x262_25, x262_27, x262_28, x262_30, x262_31, x262_35, x262_36, x262_39, x262_42, x262_43, x262_45, x262_48, x262_51, x262_54, x262_55, x262_57, x262_60, x262_61, x262_64, x262_66, x262_67, x262_69, x262_72, x262_74, x262_76, x262_79, x262_82, x262_84, x262_86, x262_88, x262_90, x262_93, x262_96, x262_98, x262_99, x262_102, x262_103, x262_106, x262_107, x262_108, x262_109, x262_112, x262_115, x262_116, x262_118, x262_121, x262_122, x262_125, x262_126, x262_129, x262_131, x262_132, x262_133, x262_134, x262_137, x262_138, x262_139, x262_142, x262_144, x262_145, x262_148, x262_149, x262_153, x262_154, x262_157, x262_160, x262_161, x262_162, x262_165, x262_167, x262_168, x262_171, x262_174, x262_177, x262_178, ↓reduceIte, Bool.false_eq_true, Nat.reduceAdd, Nat.reduceLT, Nat.reduceLeDiff, Nat.reduceSub, Nat.reduceEqDiff, Int.reduceToNat, Int.reduceEq, Int.reduceLT, Int.reduceLE, Int.reduceAdd, Int.reduceSub, zg, zI, zJ, zR, zst, zkl, zn, zcat, zok, zraw, List.length_cons, List.length_nil, Option.toList, List.nil_append, List.cons_append, true_and, and_true, if_true, if_false, ne_eq, not_true, not_false_eq_true, and_self, true_or, or_true, false_or, or_false, false_and, and_false, b_138 hm, hd0]
  refine mHarm (d := d - 1) (by omega) hX hR hG hU ?_
  intro μ1 hf1 hj1
  simp (disch := omega) only [x262_0, x262_1, x262_4, x262_5, x262_6, x262_7, x262_10, x262_11, x262_13, x262_16, x262_17, x262_20, x262_21, x262_24, x262_25, x262_27, x262_28, x262_30, x262_31, x262_35, x262_36, x262_39, x262_42, x262_43, x262_45, x262_48, x262_51, x262_54, x262_55, x262_57, x262_60, x262_61, x262_64, x262_66, x262_67, x262_69, x262_72, x262_74, x262_76, x262_79, x262_82, x262_84, x262_86, x262_88, x262_90, x262_93, x262_96, x262_98, x262_99, x262_102, x262_103, x262_106, x262_107, x262_108, x262_109, x262_112, x262_115, x262_116, x262_118, x262_121, x262_122, x262_125, x262_126, x262_129, x262_131, x262_132, x262_133, x262_134, x262_137, x262_138, x262_139, x262_142, x262_144, x262_145, x262_148, x262_149, x262_153, x262_154, x262_157, x262_160, x262_161, x262_162, x262_165, x262_167, x262_168, x262_171, x262_174, x262_177, x262_178, ↓reduceIte, Bool.false_eq_true, Nat.reduceAdd, Nat.reduceLT, Nat.reduceLeDiff, Nat.reduceSub, Nat.reduceEqDiff, Int.reduceToNat, Int.reduceEq, Int.reduceLT, Int.reduceLE, Int.reduceAdd, Int.reduceSub, zg, zI, zJ, zR, zst, zkl, zn, zcat, zok, zraw, List.length_cons, List.length_nil, Option.toList, List.nil_append, List.cons_append, true_and, and_true, if_true, if_false, ne_eq, not_true, not_false_eq_true, and_self, true_or, or_true, false_or, or_false, false_and, and_false, b_138 hm, ua_eq]
  have hf2 : Fr GN μ (us μ1 138 (zup (μ1 138) 72 0)) := Fr.us (by decide) (hf1.mono (by decide))
  have hj2 : J6 μ (us μ1 138 (zup (μ1 138) 72 0)) := fun j a b c => by rw [us_same, zup_ne c]; exact hj1 j a b
  refine outer 0 _ _ (by omega) ⟨_, _, _, _, rfl, hf2, hj2, ?_, ⟨by rw [us_same, zup_same rfl]; rfl, fun i hi => by simp [stO] at hi⟩, fun q hq => by simp [stO] at hq, rfl⟩
  exact MR_fr hR (A := GF) (Fr.us (by decide) hf1) (by decide) (hj2 57 (by decide) (by decide) (by decide))
end MO
