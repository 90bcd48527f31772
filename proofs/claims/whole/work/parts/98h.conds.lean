/-! THE REFERENCE reads: the LITS of a RULE -/
/-- these LITS stand at L0 .., their code from a0 on -/
def LSm (L0 a0 b : Nat) (l : List zL) (p : Nat) (μ0 μ : zM) : Prop := Fr [138, 161, 162, 163, 164, 165, 166, 167, 168, 169] μ0 μ ∧ (∀ j, j ≠ 11 → j ≠ 12 → j ≠ 36 → j ≠ 43 → j ≠ 47 → μ 138 j = μ0 138 j) ∧ μ 138 36 = ((L0 + l.length : Nat) : Int)
  ∧ (∃ a : Nat, μ 138 43 = (a : Nat) ∧ (a0 ≤ a ∧ a ≤ 420 * b + p) ∧ ∀ i (h : i < l.length), lAt μ (L0 + i) l[i] ∧ (a0 : Int) ≤ μ 164 (L0 + i) ∧ μ 166 (L0 + i) ≤ (a : Nat))
  ∧ (∀ c q, 161 ≤ c → c ≤ 166 → (q < L0 ∨ L0 + l.length ≤ q) → μ c q = μ0 c q) ∧ (∀ i : Nat, (i < a0 ∨ ((i / 420 : Nat) : Int) ≠ (b : Nat)) → μ 167 i = μ0 167 i ∧ μ 168 i = μ0 168 i) ∧ 3 * (L0 + l.length) ≤ 450 * b + p
section CO
variable {θ : zS} {Q : Option zV → zS → zM → Prop} {μ μ0 : zM} {K : Nat → Nat} {V W st : Nat → Int} {Z L0 a0 b : Nat} {l : List zL} {p : Nat}
theorem LS_SF (h : LSm L0 a0 b l p μ0 μ) (hL : 150 * b ≤ L0) (hp : p ≤ 400) : SF b μ0 μ := by
  obtain ⟨h1, h2, h3, h4, h5, h6, h7⟩ := h
  refine ⟨fun c hc => h1 c (by simp; omega), fun c j c1 c2 c3 => ?_⟩
  by_cases q1 : 161 ≤ c
  · by_cases q2 : c ≤ 166
    · have : sdN c = 150 := by unfold sdN; rw [if_neg (by omega), if_neg (by omega), if_neg (by omega), if_neg (by omega), if_neg (by omega), if_neg (by omega), if_neg (by omega), if_pos q2]
      rw [this] at c3
      exact h5 c j q1 q2 (by omega)
    · have : sdN c = 420 := by unfold sdN; rw [if_neg (by omega), if_neg (by omega), if_neg (by omega), if_neg (by omega), if_neg (by omega), if_neg (by omega), if_neg (by omega), if_neg (by omega)]
      rw [this] at c3
      have := h6 j (Or.inr (by omega))
      obtain e | e : c = 167 ∨ c = 168 := by omega
      · rw [e]; exact this.1
      · rw [e]; exact this.2
  · rw [h1 c (by simp; omega)]
theorem LS_JF (h : LSm L0 a0 b l p μ0 μ) : JF μ0 μ := fun j j1 j2 _ _ _ _ _ j8 j9 j10 => h.2.1 j j1 j2 j8 j9 j10
theorem LS_11 {q : Nat} {k : Nat} {y : Int} (h : LSm L0 a0 b l p μ0 μ) (hq : p ≤ q) (hk : k = 11) : LSm L0 a0 b l q μ0 (us μ 138 (zup (μ 138) k y)) := by
  obtain ⟨h1, h2, h3, ⟨a, g1, g2, g3⟩, h5, h6, h7⟩ := h
  subst hk
  refine ⟨Fr.us (by simp) h1, fun j j1 j2 j3 j4 j5 => by rw [us_same, zup_ne j1]; exact h2 j j1 j2 j3 j4 j5, by rw [us_same, zup_ne (by decide)]; exact h3, ⟨a, by rw [us_same, zup_ne (by decide)]; exact g1, ⟨g2.1, by omega⟩, fun i hi => ?_⟩, fun c q c1 c2 hq => by rw [us_ne (by omega)]; exact h5 c q c1 c2 hq, fun i hi => by rw [us_ne (by decide), us_ne (by decide)]; exact h6 i hi, by omega⟩
  have := g3 i hi
  refine ⟨lAt_ag (lo := a0) (hi := a) this.1 this.2.1 this.2.2 (fun c c1 c2 => by rw [us_ne (by omega)]) (fun _ _ _ => by rw [us_ne (by decide), us_ne (by decide)]; exact ⟨rfl, rfl⟩), ?_, ?_⟩
  · rw [us_ne (by decide)]; exact this.2.1
  · rw [us_ne (by decide)]; exact this.2.2
theorem LS_add {a q : Nat} {o : Bool} {x : zLt} {μ' : zM} (h : LSm L0 a0 b l p μ0 μ) (h43 : μ 138 43 = (a : Nat)) (g : LQ a (L0 + l.length) b o x μ μ') (hq : (enL (true, x)).length + p ≤ q) (hx : wfL (true, x)) : LSm L0 a0 b (l ++ [(o, x)]) q μ0 μ' := by
  obtain ⟨h1, h2, h3, ⟨a', g1, g2, g3⟩, h5, h6, h7⟩ := h
  obtain ⟨k1, k2, k3, k4, k5, k6, k7, k8, k9⟩ := g
  have ea : a' = a := by rw [h43] at g1; omega
  subst ea
  have n1 := wfc_ne hx.2.1
  have n2 := wfc_ne hx.2.2
  have hl : (x.2.2.1 ++ x.2.2.2).length + 1 + p ≤ q := by
    unfold enL at hq
    simp [enC_len] at hq ⊢
    omega
  have hl2 : 2 ≤ (x.2.2.1 ++ x.2.2.2).length := by simp at n1 n2 ⊢; omega
  refine ⟨h1.trans k1, fun j j1 j2 j3 j4 j5 => by rw [k2 j j1 j2 j3 j4 j5]; exact h2 j j1 j2 j3 j4 j5, ?_, ⟨a' + (x.2.2.1 ++ x.2.2.2).length, k4, by omega, fun i hi => ?_⟩, fun c r c1 c2 hr => ?_, fun i hi => ?_, ?_⟩
  · rw [k3]; simp; omega
  · by_cases hi2 : i < l.length
    · rw [List.getElem_append_left hi2]
      have := g3 i hi2
      have ne : L0 + i ≠ L0 + l.length := by omega
      refine ⟨lAt_ag (lo := a0) (hi := a') this.1 this.2.1 this.2.2 (fun c c1 c2 => k5 c _ c1 c2 ne) (fun j _ j2 => k6 j (Or.inl j2)), ?_, ?_⟩
      · rw [k5 164 _ (by decide) (by decide) ne]; exact this.2.1
      · rw [k5 166 _ (by decide) (by decide) ne]; have := this.2.2; omega
    · have ei : i = l.length := by simp at hi; omega
      subst ei
      have e0 : (l ++ [(o, x)])[l.length]'hi = (o, x) := by simp
      rw [e0]
      exact ⟨k7, by rw [k8]; omega, by rw [k9]; exact Int.le_refl _⟩
  · have hr' : r ≠ L0 + l.length := by simp at hr; omega
    rw [k5 c r c1 c2 hr']
    exact h5 c r c1 c2 (by simp at hr; omega)
  · have := k6 i (by omega)
    rw [this.1, this.2]; exact h6 i hi
  · simp; omega
theorem FT_FQ {e : Nat × Nat} {μ' : zM} (hs : SF b μ0 μ) (hj : JF μ0 μ) (h19 : μ 138 19 = (b : Nat)) (g : FQ st e μ μ') : FT b st e μ0 μ' := by
  obtain ⟨⟨g1, g2⟩, g3, g4, g5, g6, g7⟩ := g
  exact ⟨hs.code g1 (fun i hi => g2 i (by rw [h19]; omega)), hj.trans (fun j j1 j2 j3 j4 _ _ _ _ j9 j10 => g6 j j1 j2 j3 j4 j9 j10), g3, g4, g5, g7⟩
theorem FT_of {e : Nat × Nat} {μ' : zM} {q : Nat} (hs : SF b μ0 μ) (hj : JF μ0 μ) (hq : q ≤ 400) (h11 : μ 138 11 = (q : Nat)) (he : 0 < e.1) (f : Fr [138] μ μ') (j : ∀ j, j ≠ 13 → j ≠ 14 → μ' 138 j = μ 138 j) (h13 : μ' 138 13 = (e.1 : Nat)) (h14 : μ' 138 14 = st e.2) : FT b st e μ0 μ' :=
  ⟨hs.fr f (by simp), hj.trans (fun q _ _ q3 q4 _ _ _ _ _ _ => j q q3 q4), he, h13, h14, q, hq, by rw [j 11 (by decide) (by decide)]; exact h11⟩
theorem mConds {d : Nat} {k r : Int} (hm : Tm θ) (hd : 5 ≤ d) (hT0 : TR K V W st Z μ0) (hb1 : b ≤ 1) (h19 : μ0 138 19 = (b : Nat)) (h13 : μ0 138 13 = 0) (ha0 : 420 * b ≤ a0) (hL0 : 150 * b ≤ L0) : ∀ g p o l (μ : zM), p ≤ Z → 401 - p ≤ g → LSm L0 a0 b l p μ0 μ → μ 138 11 = (p : Nat) → μ 138 12 = 0 →
    (match cdG K V g p o l with
      | .inl e => ∀ μ' y3 y4, FT b st e μ0 μ' → Ex d 186 150 [vr 138, vi k, vi r, y3, y4] [] θ μ' Q
      | .inr x => ∀ μ' y3 y4, LSm L0 a0 b x.2 x.1 μ0 μ' → μ' 138 11 = (x.1 : Nat) → μ' 138 12 = 0 → Ex d 186 150 [vr 138, vi k, vi r, y3, y4] [] θ μ' Q) → Ex d 186 94 [vr 138, vi k, vi r, vi (b2 o), vi 1] [] θ μ Q := by
  have hd0 : 0 < d := by omega
  have hz := hT0.1.1
  intro g
  induction g with
  | zero => intro p o l μ hp hg; omega
  | succ g ih =>
    intro p o l μ hp hg hS h11 h12 hQ
    obtain ⟨h1, h2, h3, ⟨a, g1, g2, g3⟩, h5, h6, h7⟩ := id hS
    have hT := TR_fr hT0 h1 (by decide) (by decide) (by decide) (by decide)
    have k13 : μ 138 13 = 0 := by rw [h2 13 (by decide) (by decide) (by decide) (by decide) (by decide)]; exact h13
    have k19 : μ 138 19 = (b : Nat) := by rw [h2 19 (by decide) (by decide) (by decide) (by decide) (by decide)]; exact h19
    have stop : ∀ {e : Nat × Nat} {μ1 : zM} {y3 : zV} (m : Int), FT b st e μ0 μ1 → (∀ μ' y3 y4, FT b st e μ0 μ' → Ex d 186 150 [vr 138, vi k, vi r, y3, y4] [] θ μ' Q) → Ex d 186 94 [vr 138, vi k, vi r, y3, vi m] [] θ μ1 Q := by
      intro e μ1 y3 m hF hq
      have n13 : ¬ μ1 138 13 = 0 := by rw [hF.2.2.2.1]; have := hF.2.2.1; omega
      have hq1 := hq μ1 y3 (vi m) hF
      rw [x186_94]
      by_cases c : m = 0
      · simp only [x186_0, x186_1, x186_4, x186_5, x186_6, x186_9, x186_10, x186_11, x186_12, x186_13, x186_15, x186_18, x186_19, x186_20, x186_23, x186_24, x186_27, x186_30, x186_31, x186_33, x186_34, x186_37, x186_38, x186_40, x186_41, x186_42, x186_43, x186_44, x186_47, x186_48, x186_49, x186_52, x186_53, x186_54, x186_55, x186_56, x186_57, x186_58, x186_59, x186_62, x186_63, x186_66, x186_67, x186_68, x186_71, x186_72, x186_73, x186_75, x186_78, x186_79, x186_80, x186_81, x186_84, x186_87, x186_88, x186_91, x186_92, x186_96, x186_99, x186_100, x186_103, x186_106, x186_107, x186_108, x186_111, x186_112, x186_114, x186_117, x186_118, x186_119, x186_122, x186_123, x186_125, x186_128, x186_131, x186_132, x186_135, x186_136, x186_138, x186_140, x186_143, x186_144, x186_147, x186_151, x186_154, x186_155, x186_156, x186_159, x186_160, x186_161, x186_162, x186_165, x186_166, x186_169, x186_172, x186_173, x186_176, x186_177, x186_178, x186_181, x186_182, x186_183, x186_184, x186_185, x186_186, x186_187, x186_188, x186_189, ↓reduceIte, Bool.false_eq_true, Nat.reduceAdd, Nat.reduceLT, Nat.reduceLeDiff, Nat.reduceSub, Nat.reduceEqDiff, Int.reduceToNat, Int.reduceEq, Int.reduceLT, Int.reduceLE, Int.reduceAdd, Int.reduceSub, zg, zI, zJ, zR, zst, zkl, zn, zcat, zok, zraw, List.length_cons, List.length_nil, Option.toList, List.nil_append, List.cons_append, true_and, and_true, if_true, if_false, ne_eq, not_true, not_false_eq_true, and_self, true_or, or_true, false_or, or_false, false_and, and_false, b_138 hm, c] at hq1 ⊢
        exact hq1
      · simp only [x186_0, x186_1, x186_4, x186_5, x186_6, x186_9, x186_10, x186_11, x186_12, x186_13, x186_15, x186_18, x186_19, x186_20, x186_23, x186_24, x186_27, x186_30, x186_31, x186_33, x186_34, x186_37, x186_38, x186_40, x186_41, x186_42, x186_43, x186_44, x186_47, x186_48, x186_49, x186_52, x186_53, x186_54, x186_55, x186_56, x186_57, x186_58, x186_59, x186_62, x186_63, x186_66, x186_67, x186_68, x186_71, x186_72, x186_73, x186_75, x186_78, x186_79, x186_80, x186_81, x186_84, x186_87, x186_88, x186_91, x186_92, x186_96, x186_99, x186_100, x186_103, x186_106, x186_107, x186_108, x186_111, x186_112, x186_114, x186_117, x186_118, x186_119, x186_122, x186_123, x186_125, x186_128, x186_131, x186_132, x186_135, x186_136, x186_138, x186_140, x186_143, x186_144, x186_147, x186_151, x186_154, x186_155, x186_156, x186_159, x186_160, x186_161, x186_162, x186_165, x186_166, x186_169, x186_172, x186_173, x186_176, x186_177, x186_178, x186_181, x186_182, x186_183, x186_184, x186_185, x186_186, x186_187, x186_188, x186_189, ↓reduceIte, Bool.false_eq_true, Nat.reduceAdd, Nat.reduceLT, Nat.reduceLeDiff, Nat.reduceSub, Nat.reduceEqDiff, Int.reduceToNat, Int.reduceEq, Int.reduceLT, Int.reduceLE, Int.reduceAdd, Int.reduceSub, zg, zI, zJ, zR, zst, zkl, zn, zcat, zok, zraw, List.length_cons, List.length_nil, Option.toList, List.nil_append, List.cons_append, true_and, and_true, if_true, if_false, ne_eq, not_true, not_false_eq_true, and_self, true_or, or_true, false_or, or_false, false_and, and_false, b_138 hm, c, n13]
        exact hq1
    rw [x186_94]
    simp only [x186_0, x186_1, x186_4, x186_5, x186_6, x186_9, x186_10, x186_11, x186_12, x186_13, x186_15, x186_18, x186_19, x186_20, x186_23, x186_24, x186_27, x186_30, x186_31, x186_33, x186_34, x186_37, x186_38, x186_40, x186_41, x186_42, x186_43, x186_44, x186_47, x186_48, x186_49, x186_52, x186_53, x186_54, x186_55, x186_56, x186_57, x186_58, x186_59, x186_62, x186_63, x186_66, x186_67, x186_68, x186_71, x186_72, x186_73, x186_75, x186_78, x186_79, x186_80, x186_81, x186_84, x186_87, x186_88, x186_91, x186_92, x186_96, x186_99, x186_100, x186_103, x186_106, x186_107, x186_108, x186_112, x186_114, x186_117, x186_118, x186_119, x186_122, x186_123, x186_125, x186_128, x186_131, x186_132, x186_135, x186_136, x186_138, x186_140, x186_143, x186_144, x186_147, x186_151, x186_154, x186_155, x186_156, x186_159, x186_160, x186_161, x186_162, x186_165, x186_166, x186_169, x186_172, x186_173, x186_176, x186_177, x186_178, x186_181, x186_182, x186_183, x186_184, x186_185, x186_186, x186_187, x186_188, x186_189, ↓reduceIte, Bool.false_eq_true, Nat.reduceAdd, Nat.reduceLT, Nat.reduceLeDiff, Nat.reduceSub, Nat.reduceEqDiff, Int.reduceToNat, Int.reduceEq, Int.reduceLT, Int.reduceLE, Int.reduceAdd, Int.reduceSub, zg, zI, zJ, zR, zst, zkl, zn, zcat, zok, zraw, List.length_cons, List.length_nil, Option.toList, List.nil_append, List.cons_append, true_and, and_true, if_true, if_false, ne_eq, not_true, not_false_eq_true, and_self, true_or, or_true, false_or, or_false, false_and, and_false, b_138 hm, hd0, k13]
    refine mLiteral (d := d - 1) (n := L0 + l.length) (a := a) (b := b) hm (by omega) hT hp hb1 k19 (by omega) h11 h12 k13 g1 h3 (by omega) ?_
    have hO := okG_lt hT.1 hT.2.1 hp
    unfold cdG at hQ
    generalize ltG K V p = w at hQ hO ⊢
    cases w with
    | inl e =>
      intro μ1 hF
      have hFT := FT_FQ (LS_SF hS hL0 (by omega)) (LS_JF hS) k19 hF
      have n13 : 0 < μ1 138 13 := by rw [hFT.2.2.2.1]; have := hFT.2.2.1; omega
      simp only [x186_0, x186_1, x186_4, x186_5, x186_6, x186_9, x186_10, x186_11, x186_12, x186_13, x186_15, x186_18, x186_19, x186_20, x186_23, x186_24, x186_27, x186_30, x186_31, x186_33, x186_34, x186_37, x186_38, x186_40, x186_41, x186_42, x186_43, x186_44, x186_47, x186_48, x186_49, x186_52, x186_53, x186_54, x186_55, x186_56, x186_57, x186_58, x186_59, x186_62, x186_63, x186_66, x186_67, x186_68, x186_71, x186_72, x186_73, x186_75, x186_78, x186_79, x186_80, x186_81, x186_84, x186_87, x186_88, x186_91, x186_92, x186_96, x186_99, x186_100, x186_103, x186_106, x186_107, x186_108, x186_111, x186_112, x186_114, x186_117, x186_118, x186_119, x186_122, x186_123, x186_125, x186_128, x186_131, x186_132, x186_135, x186_136, x186_138, x186_140, x186_143, x186_144, x186_147, x186_151, x186_154, x186_155, x186_156, x186_159, x186_160, x186_161, x186_162, x186_165, x186_166, x186_169, x186_172, x186_173, x186_176, x186_177, x186_178, x186_181, x186_182, x186_183, x186_184, x186_185, x186_186, x186_187, x186_188, x186_189, ↓reduceIte, Bool.false_eq_true, Nat.reduceAdd, Nat.reduceLT, Nat.reduceLeDiff, Nat.reduceSub, Nat.reduceEqDiff, Int.reduceToNat, Int.reduceEq, Int.reduceLT, Int.reduceLE, Int.reduceAdd, Int.reduceSub, zg, zI, zJ, zR, zst, zkl, zn, zcat, zok, zraw, List.length_cons, List.length_nil, Option.toList, List.nil_append, List.cons_append, true_and, and_true, if_true, if_false, ne_eq, not_true, not_false_eq_true, and_self, true_or, or_true, false_or, or_false, false_and, and_false, b_138 hm, hd0, eIsF _ hm n13]
      exact stop 0 hFT hQ
    | inr x =>
      intro μ1 hLQ q11 q12
      obtain ⟨o1, o2, o3, o4⟩ := hO
      simp only [bnd] at hQ
      have hS1 := LS_add hS g1 hLQ o3 o4
      have hT1 := TR_fr hT0 hS1.1 (by decide) (by decide) (by decide) (by decide)
      have q13 : μ1 138 13 = 0 := by rw [hS1.2.1 13 (by decide) (by decide) (by decide) (by decide) (by decide)]; exact h13
      have goes : ∀ (o' : Bool), 2 ≤ K x.1 → (match (if x.1 < 400 then cdG K V g (x.1 + 1) o' (l ++ [(o, x.2)]) else (.inl (2, x.1) : pR (List zL))) with
          | .inl e => ∀ μ' y3 y4, FT b st e μ0 μ' → Ex d 186 150 [vr 138, vi k, vi r, y3, y4] [] θ μ' Q
          | .inr x => ∀ μ' y3 y4, LSm L0 a0 b x.2 x.1 μ0 μ' → μ' 138 11 = (x.1 : Nat) → μ' 138 12 = 0 → Ex d 186 150 [vr 138, vi k, vi r, y3, y4] [] θ μ' Q) →
          Ex d 186 143 [vr 138, vi k, vi r, vi (b2 o'), vi 1] [] θ μ1 Q := by
        intro o' hk hq
        simp only [x186_0, x186_1, x186_4, x186_5, x186_6, x186_9, x186_10, x186_11, x186_12, x186_13, x186_15, x186_18, x186_19, x186_20, x186_23, x186_24, x186_27, x186_30, x186_31, x186_33, x186_34, x186_37, x186_38, x186_40, x186_41, x186_42, x186_43, x186_44, x186_47, x186_48, x186_49, x186_52, x186_53, x186_54, x186_55, x186_56, x186_57, x186_58, x186_59, x186_62, x186_63, x186_66, x186_67, x186_68, x186_71, x186_72, x186_73, x186_75, x186_78, x186_79, x186_80, x186_81, x186_84, x186_87, x186_88, x186_91, x186_92, x186_96, x186_99, x186_100, x186_103, x186_106, x186_107, x186_108, x186_111, x186_112, x186_114, x186_117, x186_118, x186_119, x186_122, x186_123, x186_125, x186_128, x186_131, x186_132, x186_135, x186_136, x186_138, x186_140, x186_143, x186_144, x186_147, x186_150, x186_151, x186_154, x186_155, x186_156, x186_159, x186_160, x186_161, x186_162, x186_165, x186_166, x186_169, x186_172, x186_173, x186_176, x186_177, x186_178, x186_181, x186_182, x186_183, x186_184, x186_185, x186_186, x186_187, x186_188, x186_189, ↓reduceIte, Bool.false_eq_true, Nat.reduceAdd, Nat.reduceLT, Nat.reduceLeDiff, Nat.reduceSub, Nat.reduceEqDiff, Int.reduceToNat, Int.reduceEq, Int.reduceLT, Int.reduceLE, Int.reduceAdd, Int.reduceSub, zg, zI, zJ, zR, zst, zkl, zn, zcat, zok, zraw, List.length_cons, List.length_nil, Option.toList, List.nil_append, List.cons_append, true_and, and_true, if_true, if_false, ne_eq, not_true, not_false_eq_true, and_self, true_or, or_true, false_or, or_false, false_and, and_false, b_138 hm, hd0]
        refine mGoes (d := d - 1) hm (by omega) hT1 o2 q11 q13 (fun h4 => ?_) (fun h4 μ2 f j e1 e2 => ?_)
        · rw [if_pos h4] at hq
          simp only [x186_0, x186_1, x186_4, x186_5, x186_6, x186_9, x186_10, x186_11, x186_12, x186_13, x186_15, x186_18, x186_19, x186_20, x186_23, x186_24, x186_27, x186_30, x186_31, x186_33, x186_34, x186_37, x186_38, x186_40, x186_41, x186_42, x186_43, x186_44, x186_47, x186_48, x186_49, x186_52, x186_53, x186_54, x186_55, x186_56, x186_57, x186_58, x186_59, x186_62, x186_63, x186_66, x186_67, x186_68, x186_71, x186_72, x186_73, x186_75, x186_78, x186_79, x186_80, x186_81, x186_84, x186_87, x186_88, x186_91, x186_92, x186_96, x186_99, x186_100, x186_103, x186_106, x186_107, x186_108, x186_111, x186_112, x186_114, x186_117, x186_118, x186_119, x186_122, x186_123, x186_125, x186_128, x186_131, x186_132, x186_135, x186_136, x186_138, x186_140, x186_143, x186_144, x186_147, x186_150, x186_151, x186_154, x186_155, x186_156, x186_159, x186_160, x186_161, x186_162, x186_165, x186_166, x186_169, x186_172, x186_173, x186_176, x186_177, x186_178, x186_181, x186_182, x186_183, x186_184, x186_185, x186_186, x186_187, x186_188, x186_189, ↓reduceIte, Bool.false_eq_true, Nat.reduceAdd, Nat.reduceLT, Nat.reduceLeDiff, Nat.reduceSub, Nat.reduceEqDiff, Int.reduceToNat, Int.reduceEq, Int.reduceLT, Int.reduceLE, Int.reduceAdd, Int.reduceSub, zg, zI, zJ, zR, zst, zkl, zn, zcat, zok, zraw, List.length_cons, List.length_nil, Option.toList, List.nil_append, List.cons_append, true_and, and_true, if_true, if_false, ne_eq, not_true, not_false_eq_true, and_self, true_or, or_true, false_or, or_false, false_and, and_false]
          exact ih (x.1 + 1) o' _ _ (hT0.1.2 x.1 h4 o2 hk) (by omega) (LS_11 hS1 (by omega) rfl) (by rw [us_same, zup_same rfl]) (by rw [us_same, zup_ne (by decide)]; exact q12) hq
        · rw [if_neg h4] at hq
          simp only [x186_0, x186_1, x186_4, x186_5, x186_6, x186_9, x186_10, x186_11, x186_12, x186_13, x186_15, x186_18, x186_19, x186_20, x186_23, x186_24, x186_27, x186_30, x186_31, x186_33, x186_34, x186_37, x186_38, x186_40, x186_41, x186_42, x186_43, x186_44, x186_47, x186_48, x186_49, x186_52, x186_53, x186_54, x186_55, x186_56, x186_57, x186_58, x186_59, x186_62, x186_63, x186_66, x186_67, x186_68, x186_71, x186_72, x186_73, x186_75, x186_78, x186_79, x186_80, x186_81, x186_84, x186_87, x186_88, x186_91, x186_92, x186_96, x186_99, x186_100, x186_103, x186_106, x186_107, x186_108, x186_111, x186_112, x186_114, x186_117, x186_118, x186_119, x186_122, x186_123, x186_125, x186_128, x186_131, x186_132, x186_135, x186_136, x186_138, x186_140, x186_143, x186_144, x186_147, x186_150, x186_151, x186_154, x186_155, x186_156, x186_159, x186_160, x186_161, x186_162, x186_165, x186_166, x186_169, x186_172, x186_173, x186_176, x186_177, x186_178, x186_181, x186_182, x186_183, x186_184, x186_185, x186_186, x186_187, x186_188, x186_189, ↓reduceIte, Bool.false_eq_true, Nat.reduceAdd, Nat.reduceLT, Nat.reduceLeDiff, Nat.reduceSub, Nat.reduceEqDiff, Int.reduceToNat, Int.reduceEq, Int.reduceLT, Int.reduceLE, Int.reduceAdd, Int.reduceSub, zg, zI, zJ, zR, zst, zkl, zn, zcat, zok, zraw, List.length_cons, List.length_nil, Option.toList, List.nil_append, List.cons_append, true_and, and_true, if_true, if_false, ne_eq, not_true, not_false_eq_true, and_self, true_or, or_true, false_or, or_false, false_and, and_false]
          exact stop 1 (FT_of (LS_SF hS1 hL0 (by omega)) (LS_JF hS1) (by omega) q11 (e := (2, x.1)) (by simp) f j e1 e2) hq
      by_cases k34 : K x.1 = 34
      · rw [if_pos k34] at hQ
        have k33 : ¬ K x.1 = 33 := by omega
        have e := goes false (by omega) hQ
        simp only [x186_0, x186_1, x186_4, x186_5, x186_6, x186_9, x186_10, x186_11, x186_12, x186_13, x186_15, x186_18, x186_19, x186_20, x186_23, x186_24, x186_27, x186_30, x186_31, x186_33, x186_34, x186_37, x186_38, x186_40, x186_41, x186_42, x186_43, x186_44, x186_47, x186_48, x186_49, x186_52, x186_53, x186_54, x186_55, x186_56, x186_57, x186_58, x186_59, x186_62, x186_63, x186_66, x186_67, x186_68, x186_71, x186_72, x186_73, x186_75, x186_78, x186_79, x186_80, x186_81, x186_84, x186_87, x186_88, x186_91, x186_92, x186_96, x186_99, x186_100, x186_103, x186_106, x186_107, x186_108, x186_111, x186_112, x186_114, x186_117, x186_118, x186_119, x186_122, x186_123, x186_125, x186_128, x186_131, x186_132, x186_135, x186_136, x186_138, x186_140, x186_144, x186_147, x186_150, x186_151, x186_154, x186_155, x186_156, x186_159, x186_160, x186_161, x186_162, x186_165, x186_166, x186_169, x186_172, x186_173, x186_176, x186_177, x186_178, x186_181, x186_182, x186_183, x186_184, x186_185, x186_186, x186_187, x186_188, x186_189, ↓reduceIte, Bool.false_eq_true, Nat.reduceAdd, Nat.reduceLT, Nat.reduceLeDiff, Nat.reduceSub, Nat.reduceEqDiff, Int.reduceToNat, Int.reduceEq, Int.reduceLT, Int.reduceLE, Int.reduceAdd, Int.reduceSub, zg, zI, zJ, zR, zst, zkl, zn, zcat, zok, zraw, List.length_cons, List.length_nil, Option.toList, List.nil_append, List.cons_append, true_and, and_true, if_true, if_false, ne_eq, not_true, not_false_eq_true, and_self, true_or, or_true, false_or, or_false, false_and, and_false, b_138 hm, hd0, eIs _ hm hT1 o2 q11 q13 (show 33 ≤ 48 by decide) (show (37 : Int) = rkO 33 from rfl), eIs _ hm hT1 o2 q11 q13 (show 34 ≤ 48 by decide) (show (38 : Int) = rkO 34 from rfl), decide_eq_true k34, decide_eq_false k33, b2] at e ⊢
        exact e
      · rw [if_neg k34] at hQ
        by_cases k33 : K x.1 = 33
        · rw [if_pos k33] at hQ
          have e := goes true (by omega) hQ
          simp only [x186_0, x186_1, x186_4, x186_5, x186_6, x186_9, x186_10, x186_11, x186_12, x186_13, x186_15, x186_18, x186_19, x186_20, x186_23, x186_24, x186_27, x186_30, x186_31, x186_33, x186_34, x186_37, x186_38, x186_40, x186_41, x186_42, x186_43, x186_44, x186_47, x186_48, x186_49, x186_52, x186_53, x186_54, x186_55, x186_56, x186_57, x186_58, x186_59, x186_62, x186_63, x186_66, x186_67, x186_68, x186_71, x186_72, x186_73, x186_75, x186_78, x186_79, x186_80, x186_81, x186_84, x186_87, x186_88, x186_91, x186_92, x186_96, x186_99, x186_100, x186_103, x186_106, x186_107, x186_108, x186_111, x186_112, x186_114, x186_117, x186_118, x186_119, x186_122, x186_123, x186_125, x186_128, x186_131, x186_132, x186_135, x186_136, x186_138, x186_140, x186_144, x186_147, x186_150, x186_151, x186_154, x186_155, x186_156, x186_159, x186_160, x186_161, x186_162, x186_165, x186_166, x186_169, x186_172, x186_173, x186_176, x186_177, x186_178, x186_181, x186_182, x186_183, x186_184, x186_185, x186_186, x186_187, x186_188, x186_189, ↓reduceIte, Bool.false_eq_true, Nat.reduceAdd, Nat.reduceLT, Nat.reduceLeDiff, Nat.reduceSub, Nat.reduceEqDiff, Int.reduceToNat, Int.reduceEq, Int.reduceLT, Int.reduceLE, Int.reduceAdd, Int.reduceSub, zg, zI, zJ, zR, zst, zkl, zn, zcat, zok, zraw, List.length_cons, List.length_nil, Option.toList, List.nil_append, List.cons_append, true_and, and_true, if_true, if_false, ne_eq, not_true, not_false_eq_true, and_self, true_or, or_true, false_or, or_false, false_and, and_false, b_138 hm, hd0, eIs _ hm hT1 o2 q11 q13 (show 33 ≤ 48 by decide) (show (37 : Int) = rkO 33 from rfl), decide_eq_true k33, b2] at e ⊢
          exact e
        · rw [if_neg k33] at hQ
          simp only [x186_0, x186_1, x186_4, x186_5, x186_6, x186_9, x186_10, x186_11, x186_12, x186_13, x186_15, x186_18, x186_19, x186_20, x186_23, x186_24, x186_27, x186_30, x186_31, x186_33, x186_34, x186_37, x186_38, x186_40, x186_41, x186_42, x186_43, x186_44, x186_47, x186_48, x186_49, x186_52, x186_53, x186_54, x186_55, x186_56, x186_57, x186_58, x186_59, x186_62, x186_63, x186_66, x186_67, x186_68, x186_71, x186_72, x186_73, x186_75, x186_78, x186_79, x186_80, x186_81, x186_84, x186_87, x186_88, x186_91, x186_92, x186_96, x186_99, x186_100, x186_103, x186_106, x186_107, x186_108, x186_111, x186_112, x186_114, x186_117, x186_118, x186_119, x186_122, x186_123, x186_125, x186_128, x186_131, x186_132, x186_135, x186_136, x186_138, x186_140, x186_143, x186_144, x186_147, x186_151, x186_154, x186_155, x186_156, x186_159, x186_160, x186_161, x186_162, x186_165, x186_166, x186_169, x186_172, x186_173, x186_176, x186_177, x186_178, x186_181, x186_182, x186_183, x186_184, x186_185, x186_186, x186_187, x186_188, x186_189, ↓reduceIte, Bool.false_eq_true, Nat.reduceAdd, Nat.reduceLT, Nat.reduceLeDiff, Nat.reduceSub, Nat.reduceEqDiff, Int.reduceToNat, Int.reduceEq, Int.reduceLT, Int.reduceLE, Int.reduceAdd, Int.reduceSub, zg, zI, zJ, zR, zst, zkl, zn, zcat, zok, zraw, List.length_cons, List.length_nil, Option.toList, List.nil_append, List.cons_append, true_and, and_true, if_true, if_false, ne_eq, not_true, not_false_eq_true, and_self, true_or, or_true, false_or, or_false, false_and, and_false, b_138 hm, hd0, eIs _ hm hT1 o2 q11 q13 (show 33 ≤ 48 by decide) (show (37 : Int) = rkO 33 from rfl), eIs _ hm hT1 o2 q11 q13 (show 34 ≤ 48 by decide) (show (38 : Int) = rkO 34 from rfl), decide_eq_false k34, decide_eq_false k33, b2]
          rw [x186_94]
          simp only [x186_0, x186_1, x186_4, x186_5, x186_6, x186_9, x186_10, x186_11, x186_12, x186_13, x186_15, x186_18, x186_19, x186_20, x186_23, x186_24, x186_27, x186_30, x186_31, x186_33, x186_34, x186_37, x186_38, x186_40, x186_41, x186_42, x186_43, x186_44, x186_47, x186_48, x186_49, x186_52, x186_53, x186_54, x186_55, x186_56, x186_57, x186_58, x186_59, x186_62, x186_63, x186_66, x186_67, x186_68, x186_71, x186_72, x186_73, x186_75, x186_78, x186_79, x186_80, x186_81, x186_84, x186_87, x186_88, x186_91, x186_92, x186_96, x186_99, x186_100, x186_103, x186_106, x186_107, x186_108, x186_111, x186_112, x186_114, x186_117, x186_118, x186_119, x186_122, x186_123, x186_125, x186_128, x186_131, x186_132, x186_135, x186_136, x186_138, x186_140, x186_143, x186_144, x186_147, x186_151, x186_154, x186_155, x186_156, x186_159, x186_160, x186_161, x186_162, x186_165, x186_166, x186_169, x186_172, x186_173, x186_176, x186_177, x186_178, x186_181, x186_182, x186_183, x186_184, x186_185, x186_186, x186_187, x186_188, x186_189, ↓reduceIte, Bool.false_eq_true, Nat.reduceAdd, Nat.reduceLT, Nat.reduceLeDiff, Nat.reduceSub, Nat.reduceEqDiff, Int.reduceToNat, Int.reduceEq, Int.reduceLT, Int.reduceLE, Int.reduceAdd, Int.reduceSub, zg, zI, zJ, zR, zst, zkl, zn, zcat, zok, zraw, List.length_cons, List.length_nil, Option.toList, List.nil_append, List.cons_append, true_and, and_true, if_true, if_false, ne_eq, not_true, not_false_eq_true, and_self, true_or, or_true, false_or, or_false, false_and, and_false, b_138 hm]
          exact hQ μ1 _ _ hS1 q11 q12
end CO
