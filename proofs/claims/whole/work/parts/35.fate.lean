/-! LOTS, a NIGHT, YEARS -/
theorem zush_nn (x : Int) : 0 ≤ zush x 1 := by
  unfold zush
  have : ((Int32.ofInt x).toUInt32 >>> ((Int32.ofInt 1).toUInt32 &&& 31)).toInt32.toInt = (((Int32.ofInt x).toBitVec >>> 1).toInt) := by
    rw [← Int32.toInt_toBitVec]; rfl
  rw [this, BitVec.toInt_eq_toNat_of_lt]
  · omega
  · rw [BitVec.toNat_ushiftRight]
    have := (Int32.ofInt x).toBitVec.isLt
    rw [Nat.shiftRight_eq_div_pow]
    omega
def mixO (h x : Int) : Int := zxor (w32 (w32 (zxor h x * 1103515245) + 12345)) (zush (w32 (w32 (zxor h x * 1103515245) + 12345)) 15)
def lotO (seed which n : Int) : Int := (zush (mixO (mixO seed 16) which) 1).tmod n
theorem lot_b {seed which n : Int} (hn : 0 < n) : 0 ≤ lotO seed which n ∧ lotO seed which n < n := by
  unfold lotO
  rw [Int.tmod_eq_emod_of_nonneg (zush_nn _)]
  exact ⟨Int.emod_nonneg _ (by omega), Int.emod_lt_of_pos _ hn⟩
theorem eMixC (d : Nat) (x y : Int) (θ : zS) (μ : zM) (Q : Option zV → zS → zM → Prop) (v : zV) : Ex d 7 0 [vi x, vi y, v] [] θ μ Q = Q (some (vi (mixO x y))) θ μ := by
  simp only [x7_0, x7_1, x7_2, x7_3, x7_5, x7_6, x7_9, x7_10, x7_11, x7_12, x7_13, x7_15, x7_16, x7_17, ↓reduceIte, Bool.false_eq_true, Nat.reduceAdd, Nat.reduceLT, Nat.reduceLeDiff, Nat.reduceSub, Nat.reduceEqDiff, Int.reduceToNat, Int.reduceEq, Int.reduceLT, Int.reduceLE, Int.reduceAdd, Int.reduceSub, zg, zI, zJ, zR, zst, zkl, zn, zcat, zok, zraw, List.length_cons, List.length_nil, Option.toList, List.nil_append, List.cons_append, true_and, and_true, if_true, if_false, ne_eq, not_true, not_false_eq_true, and_self, true_or, or_true, false_or, or_false, false_and, and_false, mixO]
theorem eMixM (d : Nat) (x y : Int) (θ : zS) (μ : zM) (Q : Option zV → zS → zM → Prop) (v : zV) : Ex d 271 0 [vi x, vi y, v] [] θ μ Q = Q (some (vi (mixO x y))) θ μ := by
  simp only [x271_0, x271_1, x271_2, x271_3, x271_6, x271_7, x271_10, x271_11, x271_12, x271_13, x271_14, x271_16, x271_17, x271_18, ↓reduceIte, Bool.false_eq_true, Nat.reduceAdd, Nat.reduceLT, Nat.reduceLeDiff, Nat.reduceSub, Nat.reduceEqDiff, Int.reduceToNat, Int.reduceEq, Int.reduceLT, Int.reduceLE, Int.reduceAdd, Int.reduceSub, zg, zI, zJ, zR, zst, zkl, zn, zcat, zok, zraw, List.length_cons, List.length_nil, Option.toList, List.nil_append, List.cons_append, true_and, and_true, if_true, if_false, ne_eq, not_true, not_false_eq_true, and_self, true_or, or_true, false_or, or_false, false_and, and_false, mixO]
theorem eLotC {d : Nat} (hd : 0 < d) {x y n : Int} (hn : 0 < n) (θ : zS) (μ : zM) (Q : Option zV → zS → zM → Prop) (v : zV) : Ex d 6 0 [vi x, vi y, vi n, v] [] θ μ Q = Q (some (vi (lotO x y n))) θ μ := by
  have h0 : ¬ n = 0 := by omega
  simp only [x6_0, x6_1, x6_3, x6_6, x6_7, x6_10, x6_11, x6_12, x6_15, x6_16, x6_19, x6_20, x6_21, x6_22, x6_23, x6_24, ↓reduceIte, Bool.false_eq_true, Nat.reduceAdd, Nat.reduceLT, Nat.reduceLeDiff, Nat.reduceSub, Nat.reduceEqDiff, Int.reduceToNat, Int.reduceEq, Int.reduceLT, Int.reduceLE, Int.reduceAdd, Int.reduceSub, zg, zI, zJ, zR, zst, zkl, zn, zcat, zok, zraw, List.length_cons, List.length_nil, Option.toList, List.nil_append, List.cons_append, true_and, and_true, if_true, if_false, ne_eq, not_true, not_false_eq_true, and_self, true_or, or_true, false_or, or_false, false_and, and_false, eMixC, hd, hn, h0, lotO]
theorem eLotM {d : Nat} (hd : 0 < d) {x y n : Int} (hn : 0 < n) (θ : zS) (μ : zM) (Q : Option zV → zS → zM → Prop) : Ex d 272 0 [vi x, vi y, vi n] [] θ μ Q = Q (some (vi (lotO x y n))) θ μ := by
  have h0 : ¬ n = 0 := by omega
  simp only [x272_0, x272_1, x272_3, x272_6, x272_7, x272_10, x272_11, x272_12, x272_13, x272_14, ↓reduceIte, Bool.false_eq_true, Nat.reduceAdd, Nat.reduceLT, Nat.reduceLeDiff, Nat.reduceSub, Nat.reduceEqDiff, Int.reduceToNat, Int.reduceEq, Int.reduceLT, Int.reduceLE, Int.reduceAdd, Int.reduceSub, zg, zI, zJ, zR, zst, zkl, zn, zcat, zok, zraw, List.length_cons, List.length_nil, Option.toList, List.nil_append, List.cons_append, true_and, and_true, if_true, if_false, ne_eq, not_true, not_false_eq_true, and_self, true_or, or_true, false_or, or_false, false_and, and_false, eMixM, hd, h0, lotO]
/-! what falls doesn't ask the roof's own marks of what is there -/
section FC
variable {τ : zT} {ρ ρ' : zF} {g w : Int}
def sam (ρ ρ' : zF) : Prop := (∀ m, m ≠ 0 → ρ.1 m = ρ'.1 m) ∧ ρ.2 = ρ'.2
theorem li_sam (h : sam ρ ρ') (lost : Nat → Int) (t : Nat) : liO τ ρ lost t g w = liO τ ρ' lost t g w ∧ ceO τ ρ lost t g w = ceO τ ρ' lost t g w := by
  have h1 := h.1 1 (by decide); have h2 := h.1 2 (by decide); have h3 := h.1 3 (by decide); have h4 := h.1 4 (by decide)
  have hv : va τ ρ lost t g w = va τ ρ' lost t g w := by unfold va; rw [h1, h3, h4, h.2]
  unfold liO ceO suO prO hoO hoB
  rw [hv, h1, h2, h3, h4, h.2]
  exact ⟨rfl, rfl⟩
theorem lo_sam (h : sam ρ ρ') (l0 : Nat → Int) : ∀ r, loO τ ρ g w l0 r = loO τ ρ' g w l0 r := by
  intro r
  induction r with
  | zero => rfl
  | succ r ih =>
    funext t
    rw [lo_s, lo_s]
    unfold giO goO
    rw [ih, (li_sam h _ t).1]
theorem gi_sam (h : sam ρ ρ') (l0 : Nat → Int) (r t : Nat) : giO τ ρ g w l0 r t = giO τ ρ' g w l0 r t := by
  unfold giO goO
  rw [lo_sam h, (li_sam h _ t).1]
theorem al_sam (h : sam ρ ρ') (l0 : Nat → Int) : alO τ ρ g w l0 = alO τ ρ' g w l0 := by
  unfold alO
  have : ∀ r, orO τ ρ g w l0 r = orO τ ρ' g w l0 r := by
    intro r
    induction r with
    | zero => rfl
    | succ r ih =>
      rw [orO, orO, ih]
      congr 1
      unfold rdO
      congr 1
      funext t
      exact gi_sam h l0 r t
  exact this 36
theorem fo_sam (h : sam ρ ρ') (l0 : Nat → Int) : foO τ ρ g w l0 = foO τ ρ' g w l0 := by unfold foO; rw [al_sam h]
/-- what is GONE behind a GUST -/
theorem gn_lo (hwF : wfF τ ρ) : gnO τ (loF ρ (alO τ ρ g w (gnO τ ρ))) = loO τ ρ g w (gnO τ ρ) 36 := by
  funext t
  have hz := gn_z τ ρ
  by_cases ht : t < tn τ
  · rw [rn_lo ht hz]
    have hm : t ∈ alO τ ρ g w (gnO τ ρ) ↔ (rnO τ ρ g w (gnO τ ρ) 36 t).isSome = true := or_mem
    generalize alO τ ρ g w (gnO τ ρ) = L at hm
    by_cases hs : (rnO τ ρ g w (gnO τ ρ) 36 t).isSome = true
    · rw [if_pos hs]
      have hL := hm.mpr hs
      show (if t < tn τ ∧ (if (0 : Nat) = 0 ∧ t ∈ L then 0 else ρ.1 0 t) = 0 then (1 : Int) else 0) = 1
      rw [if_pos ⟨ht, by simp [hL]⟩]
    · rw [if_neg hs]
      have hn : ¬ t ∈ L := fun hh => hs (hm.mp hh)
      show (if t < tn τ ∧ (if (0 : Nat) = 0 ∧ t ∈ L then 0 else ρ.1 0 t) = 0 then (1 : Int) else 0) = (if t < tn τ ∧ ρ.1 0 t = 0 then (1 : Int) else 0)
      simp [hn]
  · have : ∀ r, loO τ ρ g w (gnO τ ρ) r t = gnO τ ρ t := by
      intro r
      induction r with
      | zero => rfl
      | succ r ih =>
        rw [lo_s, if_neg, ih]
        intro hp
        exact ht (gi_iff.mp hp).1
    rw [this]
    show (if t < tn τ ∧ (loF ρ (alO τ ρ g w (gnO τ ρ))).1 0 t = 0 then (1 : Int) else 0) = (if t < tn τ ∧ ρ.1 0 t = 0 then (1 : Int) else 0)
    rw [if_neg (fun h => ht h.1), if_neg (fun h => ht h.1)]
theorem al_in {l0 : Nat → Int} : ∀ k ∈ alO τ ρ g w l0, k < tn τ := by
  intro k hk
  have := or_mem.mp hk
  cases h : rnO τ ρ g w l0 36 k with
  | none => rw [h] at this; cases this
  | some q => exact (gi_iff.mp (rn_gi h).2).1
theorem hl_fo {l0 : Nat → Int} : hlO τ (loO τ ρ g w l0 36) = hlO τ l0 + (foO τ ρ g w l0 : Nat) := by
  have := or_len (τ := τ) (ρ := ρ) (g := g) (w := w) (l0 := l0) (r := 36)
  unfold foO alO; omega
end FC
def KF : List Nat := GA ++ [115, 117, 118, 119, 120, 121]
section FT
variable {θ : zS} {T U : Nat} {τ : zT} {Q : Option zV → zS → zM → Prop} {μ : zM} {ρ : zF} {G : zU}
theorem cLost {d : Nat} {g w : Int} (h : CX θ T U τ μ) (hF : CF τ ρ 115 μ) (hd : 4 ≤ d) (hg : 0 ≤ g ∧ g ≤ 99) (hwy : 0 ≤ w ∧ w ≤ 3)
    (hQ : ∀ μ', Fr (GA ++ [117]) μ μ' → CF τ (loF ρ (alO τ ρ g w (gnO τ ρ))) 115 μ' → Q (some (vi (faO τ ρ g w))) θ μ') : Ex d 5 0 [vr 114, vi g, vi w] [] θ μ Q := by
  have hc := h.1.1
  have hw := h.2.1
  have hn := tn_b hw
  have hd0 : 0 < d := by omega
  simp (disch := omega) only [x5_0, x5_1, x5_4, x5_5, x5_8, x5_9, x5_10, x5_11, x5_14, x5_15, x5_18, x5_19, x5_22, x5_25, x5_26, x5_29, x5_32, ↓reduceIte, Bool.false_eq_true, Nat.reduceAdd, Nat.reduceLT, Nat.reduceLeDiff, Nat.reduceSub, Nat.reduceEqDiff, Int.reduceToNat, Int.reduceEq, Int.reduceLT, Int.reduceLE, Int.reduceAdd, Int.reduceSub, zg, zI, zJ, zR, zst, zkl, zn, zcat, zok, zraw, List.length_cons, List.length_nil, Option.toList, List.nil_append, List.cons_append, true_and, and_true, if_true, if_false, ne_eq, not_true, not_false_eq_true, and_self, true_or, or_true, false_or, or_false, false_and, and_false, b_2 hc, b_3 hc, b_9 hc, b_12 hc, b_26 hc, b_40 hc, b_46 hc, b_47 hc, b_60 hc, b_62 hc, b_63 hc, b_76 hc, b_77 hc, b_90 hc, b_91 hc, b_104 hc, b_107 hc, b_114 hc, b_115 hc, b_122 hc, b_123 hc, b_131 hc, b_114 hc, r_114_0 hc, r_114_1 hc, r_114_2 hc, hd0]
  refine cRun (d := d - 1) (ρ := ρ) h hF (by omega) hg hwy (Or.inl rfl) ?_
  intro μ1 hf1 hR
  have F1 : CF τ ρ 115 μ1 := CF_fr hF hf1 (by decide)
  have hfo := fo_b (ρ := ρ) (g := g) (w := w) hn.2 (gn_z τ ρ)
  simp (disch := omega) only [x5_0, x5_1, x5_4, x5_5, x5_8, x5_9, x5_10, x5_11, x5_14, x5_15, x5_18, x5_19, x5_22, x5_25, x5_26, x5_29, x5_32, ↓reduceIte, Bool.false_eq_true, Nat.reduceAdd, Nat.reduceLT, Nat.reduceLeDiff, Nat.reduceSub, Nat.reduceEqDiff, Int.reduceToNat, Int.reduceEq, Int.reduceLT, Int.reduceLE, Int.reduceAdd, Int.reduceSub, zg, zI, zJ, zR, zst, zkl, zn, zcat, zok, zraw, List.length_cons, List.length_nil, Option.toList, List.nil_append, List.cons_append, true_and, and_true, if_true, if_false, ne_eq, not_true, not_false_eq_true, and_self, true_or, or_true, false_or, or_false, false_and, and_false, b_2 hc, b_3 hc, b_9 hc, b_12 hc, b_26 hc, b_40 hc, b_46 hc, b_47 hc, b_60 hc, b_62 hc, b_63 hc, b_76 hc, b_77 hc, b_90 hc, b_91 hc, b_104 hc, b_107 hc, b_114 hc, b_115 hc, b_122 hc, b_123 hc, b_131 hc, b_114 hc, r_114_0 hc, r_114_1 hc, r_114_2 hc, hd0]
  refine cLose (ks := alO τ ρ g w (gnO τ ρ)) hc hw F1 hR.1 hR.2.2.1 al_in (by unfold foO at hfo; omega) ?_
  intro μ2 hf2 F2
  have e3 : μ2 40 3 = faO τ ρ g w := by rw [hf2 40 (by decide)]; exact hR.1
  simp (disch := omega) only [x5_0, x5_1, x5_4, x5_5, x5_8, x5_9, x5_10, x5_11, x5_14, x5_15, x5_18, x5_19, x5_22, x5_25, x5_26, x5_29, x5_32, ↓reduceIte, Bool.false_eq_true, Nat.reduceAdd, Nat.reduceLT, Nat.reduceLeDiff, Nat.reduceSub, Nat.reduceEqDiff, Int.reduceToNat, Int.reduceEq, Int.reduceLT, Int.reduceLE, Int.reduceAdd, Int.reduceSub, zg, zI, zJ, zR, zst, zkl, zn, zcat, zok, zraw, List.length_cons, List.length_nil, Option.toList, List.nil_append, List.cons_append, true_and, and_true, if_true, if_false, ne_eq, not_true, not_false_eq_true, and_self, true_or, or_true, false_or, or_false, false_and, and_false, b_2 hc, b_3 hc, b_9 hc, b_12 hc, b_26 hc, b_40 hc, b_46 hc, b_47 hc, b_60 hc, b_62 hc, b_63 hc, b_76 hc, b_77 hc, b_90 hc, b_91 hc, b_104 hc, b_107 hc, b_114 hc, b_115 hc, b_122 hc, b_123 hc, b_131 hc, b_114 hc, r_114_0 hc, r_114_1 hc, r_114_2 hc, e3]
  exact hQ μ2 ((hf1.mono (by decide)).trans (hf2.mono (by decide))) F2
theorem cTrialF {d : Nat} {x2 : zV} (h : CX θ T U τ μ) (hF : CF τ ρ 47 μ) (hQ : ∀ μ', Fr [115, 117, 118, 119, 120, 121] μ μ' → CF τ ρ 115 μ' → Q none θ μ') : Ex d 61 0 [vr 115, vr 47, x2] [] θ μ Q := by
  have hn := tn_b h.2.1
  have hb3 : μ 47 3 = 0 ∨ μ 47 3 = 1 := by rw [hF.2.2.2.2.2]; exact hF.2.1.2.2
  refine cCopy (ρ := ρ) h.1.1 rf115 rf47 (by decide) hF.2.2 hn.2 hb3 ?_
  intro μ1 hf1 hR1 h2 _
  exact hQ μ1 hf1 ⟨rf115, hF.2.1, hR1⟩
/-- a NIGHT: what is GONE behind k GUSTS -/
def ntO (τ : zT) (ρ : zF) (G : zU) : Nat → Nat → Int
  | 0 => gnO τ ρ
  | k + 1 => loO τ ρ (G.2.1 (k % G.1)) (G.2.2.1 (k % G.1)) (ntO τ ρ G k) 36
def niO (τ : zT) (ρ : zF) (G : zU) (many : Int) : Int := if many ≤ hlO τ (gnO τ ρ) then 0 else if G.1 = 0 then -2 else match (List.range 80).find? (fun k => decide (many ≤ hlO τ (ntO τ ρ G (k + 1)))) with
  | some k => (k : Int) + 1
  | none => -2
theorem nt_z : ∀ k, lz (ntO τ ρ G k) := by
  intro k
  induction k with
  | zero => exact gn_z τ ρ
  | succ k ih => exact lo_z ih
theorem nt_s (k : Nat) : hlO τ (ntO τ ρ G (k + 1)) = hlO τ (ntO τ ρ G k) + (foO τ ρ (G.2.1 (k % G.1)) (G.2.2.1 (k % G.1)) (ntO τ ρ G k) : Nat) := hl_fo
theorem find_skip {p : Nat → Bool} {n k : Nat} (hk : k ≤ n) (h : ∀ i, i < k → p i = false) : (List.range n).find? p = ((List.range (n - k)).map (fun i => k + i)).find? p := by
  rw [show n = k + (n - k) by omega, List.range_add, List.find?_append]
  have : (List.range k).find? p = none := by
    rw [List.find?_eq_none]
    intro i hi
    rw [List.mem_range] at hi
    simp [h i hi]
  rw [this, Option.none_or, show k + (n - k) - k = n - k by omega]
theorem find_at {p : Nat → Bool} {n k : Nat} (hk : k < n) (h : ∀ i, i < k → p i = false) (hp : p k = true) : (List.range n).find? p = some k := by
  rw [find_skip (by omega) h, show n - k = (n - k - 1) + 1 by omega, List.range_succ_eq_map]
  simp [hp]
theorem find_no {p : Nat → Bool} {n : Nat} (h : ∀ i, i < n → p i = false) : (List.range n).find? p = none := by
  rw [List.find?_eq_none]
  intro i hi
  rw [List.mem_range] at hi
  simp [h i hi]
/-- the class's trial roof holds what is GONE so far; else it is ρ -/
def TF (τ : zT) (ρ : zF) (lost : Nat → Int) (μ : zM) : Prop := ∃ ρ', CF τ ρ' 115 μ ∧ sam ρ ρ' ∧ gnO τ ρ' = lost
theorem TF_fr {lost : Nat → Int} {μ' : zM} {A : List Nat} (h : TF τ ρ lost μ) (hf : Fr A μ μ') (hA : ∀ a ∈ A, ¬ (115 ≤ a ∧ a ≤ 121)) : TF τ ρ lost μ' := by
  obtain ⟨ρ', ⟨hr, hw, h1, h2, h3, h4⟩, hs, hg⟩ := h
  have e : ∀ k, k ≤ 6 → μ' (115 + k) = μ (115 + k) := fun k hk => hf _ (fun hm => hA _ hm (by omega))
  have e0 := e 0 (by omega)
  simp only [Nat.add_zero] at e0
  exact ⟨ρ', ⟨hr, hw, by rw [e0]; exact h1, fun m t hm ht => by rw [e (m + 2) (by omega)]; exact h2 m t hm ht, by rw [e0]; exact h3, by rw [e0]; exact h4⟩, hs, hg⟩
theorem cLostT {d : Nat} {g w : Int} {lost : Nat → Int} (h : CX θ T U τ μ) (hF : TF τ ρ lost μ) (hd : 4 ≤ d) (hg : 0 ≤ g ∧ g ≤ 99) (hwy : 0 ≤ w ∧ w ≤ 3)
    (hQ : ∀ μ', Fr KF μ μ' → TF τ ρ (loO τ ρ g w lost 36) μ' → Q (some (vi (foO τ ρ g w lost : Nat))) θ μ') : Ex d 5 0 [vr 114, vi g, vi w] [] θ μ Q := by
  obtain ⟨ρ', F1, hs, hgn⟩ := hF
  refine cLost h F1 hd hg hwy ?_
  intro μ1 hf1 F2
  have e : faO τ ρ' g w = (foO τ ρ g w lost : Nat) := by unfold faO; rw [hgn, fo_sam hs]
  rw [e]
  refine hQ μ1 (hf1.mono (by decide)) ⟨_, F2, ?_, ?_⟩
  · refine ⟨fun m hm => ?_, hs.2⟩
    rw [hs.1 m hm]
    unfold loF
    funext t
    simp [hm]
  · rw [gn_lo F1.2.1, hgn, lo_sam hs]
theorem hl_le (hw : wfT τ) {l : Nat → Int} (hz : lz l) : 0 ≤ hlO τ l ∧ hlO τ l ≤ 36 := by
  have h1 := hl_b hw hz
  have h2 := tn_b hw
  omega
theorem cNight {d : Nat} {many : Int} {x2 x3 x4 : zV} (h : CX θ T U τ μ) (hN : CF τ ρ 47 μ) (hG : wfU G) (hU : CU G 46 μ) (hd : 6 ≤ d)
    (hQ : ∀ μ', Fr KF μ μ' → Q (some (vi (niO τ ρ G many))) θ μ') : Ex d 1 0 [vr 114, vi many, x2, x3, x4] [] θ μ Q := by
  have hc := h.1.1
  have hw := h.2.1
  have hn := tn_b hw
  have hd0 : 0 < d := by omega
  simp (disch := omega) only [x1_0, x1_1, x1_4, x1_5, x1_8, x1_11, x1_14, x1_15, x1_18, x1_21, x1_22, x1_23, x1_24, x1_27, x1_28, x1_29, x1_30, x1_31, x1_32, x1_36, x1_38, x1_41, x1_42, x1_45, x1_48, x1_51, x1_52, x1_53, x1_54, x1_57, x1_60, x1_61, x1_62, x1_63, x1_66, x1_69, x1_70, x1_71, x1_74, x1_75, x1_76, x1_77, x1_78, x1_81, x1_83, x1_84, x1_85, x1_86, x1_87, x1_88, x1_91, x1_94, x1_97, x1_98, x1_99, x1_100, x1_103, x1_104, x1_105, x1_108, x1_111, x1_113, ↓reduceIte, Bool.false_eq_true, Nat.reduceAdd, Nat.reduceLT, Nat.reduceLeDiff, Nat.reduceSub, Nat.reduceEqDiff, Int.reduceToNat, Int.reduceEq, Int.reduceLT, Int.reduceLE, Int.reduceAdd, Int.reduceSub, zg, zI, zJ, zR, zst, zkl, zn, zcat, zok, zraw, List.length_cons, List.length_nil, Option.toList, List.nil_append, List.cons_append, true_and, and_true, if_true, if_false, ne_eq, not_true, not_false_eq_true, and_self, true_or, or_true, false_or, or_false, false_and, and_false, b_2 hc, b_3 hc, b_9 hc, b_12 hc, b_26 hc, b_40 hc, b_46 hc, b_47 hc, b_60 hc, b_62 hc, b_63 hc, b_76 hc, b_77 hc, b_90 hc, b_91 hc, b_104 hc, b_107 hc, b_114 hc, b_115 hc, b_122 hc, b_123 hc, b_131 hc, b_114 hc, r_114_0 hc, r_114_1 hc, r_114_2 hc, b_46 hc, r_46_0 hc, r_46_1 hc, x_54 hc, r_46_2 hc, x_55 hc, r_46_3 hc, x_56 hc, r_46_4 hc, x_57 hc, r_46_5 hc, x_58 hc, r_46_6 hc, x_59 hc, hd0]
  refine cTrialF (d := d - 1) h hN ?_
  intro μ1 hf1 F1
  simp (disch := omega) only [x1_0, x1_1, x1_4, x1_5, x1_8, x1_11, x1_14, x1_15, x1_18, x1_21, x1_22, x1_23, x1_24, x1_27, x1_28, x1_29, x1_30, x1_31, x1_32, x1_36, x1_38, x1_41, x1_42, x1_45, x1_48, x1_51, x1_52, x1_53, x1_54, x1_57, x1_60, x1_61, x1_62, x1_63, x1_66, x1_69, x1_70, x1_71, x1_74, x1_75, x1_76, x1_77, x1_78, x1_81, x1_83, x1_84, x1_85, x1_86, x1_87, x1_88, x1_91, x1_94, x1_97, x1_98, x1_99, x1_100, x1_103, x1_104, x1_105, x1_108, x1_111, x1_113, ↓reduceIte, Bool.false_eq_true, Nat.reduceAdd, Nat.reduceLT, Nat.reduceLeDiff, Nat.reduceSub, Nat.reduceEqDiff, Int.reduceToNat, Int.reduceEq, Int.reduceLT, Int.reduceLE, Int.reduceAdd, Int.reduceSub, zg, zI, zJ, zR, zst, zkl, zn, zcat, zok, zraw, List.length_cons, List.length_nil, Option.toList, List.nil_append, List.cons_append, true_and, and_true, if_true, if_false, ne_eq, not_true, not_false_eq_true, and_self, true_or, or_true, false_or, or_false, false_and, and_false, b_2 hc, b_3 hc, b_9 hc, b_12 hc, b_26 hc, b_40 hc, b_46 hc, b_47 hc, b_60 hc, b_62 hc, b_63 hc, b_76 hc, b_77 hc, b_90 hc, b_91 hc, b_104 hc, b_107 hc, b_114 hc, b_115 hc, b_122 hc, b_123 hc, b_131 hc, b_114 hc, r_114_0 hc, r_114_1 hc, r_114_2 hc, b_46 hc, r_46_0 hc, r_46_1 hc, x_54 hc, r_46_2 hc, x_55 hc, r_46_3 hc, x_56 hc, r_46_4 hc, x_57 hc, r_46_5 hc, x_58 hc, r_46_6 hc, x_59 hc, hd0]
  refine cGone hc hw F1 ?_
  by_cases h0 : many ≤ hlO τ (gnO τ ρ)
  · have h0l : ¬ hlO τ (gnO τ ρ) < many := by omega
    simp (disch := omega) only [x1_0, x1_1, x1_4, x1_5, x1_8, x1_11, x1_14, x1_15, x1_18, x1_21, x1_22, x1_23, x1_24, x1_27, x1_28, x1_29, x1_30, x1_31, x1_32, x1_36, x1_38, x1_41, x1_42, x1_45, x1_48, x1_51, x1_52, x1_53, x1_54, x1_57, x1_60, x1_61, x1_62, x1_63, x1_66, x1_69, x1_70, x1_71, x1_74, x1_75, x1_76, x1_77, x1_78, x1_81, x1_83, x1_84, x1_85, x1_86, x1_87, x1_88, x1_91, x1_94, x1_97, x1_98, x1_99, x1_100, x1_103, x1_104, x1_105, x1_108, x1_111, x1_113, ↓reduceIte, Bool.false_eq_true, Nat.reduceAdd, Nat.reduceLT, Nat.reduceLeDiff, Nat.reduceSub, Nat.reduceEqDiff, Int.reduceToNat, Int.reduceEq, Int.reduceLT, Int.reduceLE, Int.reduceAdd, Int.reduceSub, zg, zI, zJ, zR, zst, zkl, zn, zcat, zok, zraw, List.length_cons, List.length_nil, Option.toList, List.nil_append, List.cons_append, true_and, and_true, if_true, if_false, ne_eq, not_true, not_false_eq_true, and_self, true_or, or_true, false_or, or_false, false_and, and_false, b_2 hc, b_3 hc, b_9 hc, b_12 hc, b_26 hc, b_40 hc, b_46 hc, b_47 hc, b_60 hc, b_62 hc, b_63 hc, b_76 hc, b_77 hc, b_90 hc, b_91 hc, b_104 hc, b_107 hc, b_114 hc, b_115 hc, b_122 hc, b_123 hc, b_131 hc, b_114 hc, r_114_0 hc, r_114_1 hc, r_114_2 hc, b_46 hc, r_46_0 hc, r_46_1 hc, x_54 hc, r_46_2 hc, x_55 hc, r_46_3 hc, x_56 hc, r_46_4 hc, x_57 hc, r_46_5 hc, x_58 hc, r_46_6 hc, x_59 hc, h0l]
    have := hQ μ1 (hf1.mono (by decide))
    unfold niO at this
    rw [if_pos h0] at this
    exact this
  · have h0l : hlO τ (gnO τ ρ) < many := by omega
    simp (disch := omega) only [x1_0, x1_1, x1_4, x1_5, x1_8, x1_11, x1_14, x1_15, x1_18, x1_21, x1_22, x1_23, x1_24, x1_27, x1_28, x1_29, x1_30, x1_31, x1_32, x1_36, x1_38, x1_41, x1_42, x1_45, x1_48, x1_51, x1_52, x1_53, x1_54, x1_57, x1_60, x1_61, x1_62, x1_63, x1_66, x1_69, x1_70, x1_71, x1_74, x1_75, x1_76, x1_77, x1_78, x1_81, x1_83, x1_84, x1_85, x1_86, x1_87, x1_88, x1_91, x1_94, x1_97, x1_98, x1_99, x1_100, x1_103, x1_104, x1_105, x1_108, x1_111, x1_113, ↓reduceIte, Bool.false_eq_true, Nat.reduceAdd, Nat.reduceLT, Nat.reduceLeDiff, Nat.reduceSub, Nat.reduceEqDiff, Int.reduceToNat, Int.reduceEq, Int.reduceLT, Int.reduceLE, Int.reduceAdd, Int.reduceSub, zg, zI, zJ, zR, zst, zkl, zn, zcat, zok, zraw, List.length_cons, List.length_nil, Option.toList, List.nil_append, List.cons_append, true_and, and_true, if_true, if_false, ne_eq, not_true, not_false_eq_true, and_self, true_or, or_true, false_or, or_false, false_and, and_false, b_2 hc, b_3 hc, b_9 hc, b_12 hc, b_26 hc, b_40 hc, b_46 hc, b_47 hc, b_60 hc, b_62 hc, b_63 hc, b_76 hc, b_77 hc, b_90 hc, b_91 hc, b_104 hc, b_107 hc, b_114 hc, b_115 hc, b_122 hc, b_123 hc, b_131 hc, b_114 hc, r_114_0 hc, r_114_1 hc, r_114_2 hc, b_46 hc, r_46_0 hc, r_46_1 hc, x_54 hc, r_46_2 hc, x_55 hc, r_46_3 hc, x_56 hc, r_46_4 hc, x_57 hc, r_46_5 hc, x_58 hc, r_46_6 hc, x_59 hc, h0l]
    by_cases hg0 : G.1 = 0
    · have U1 : CU G 46 μ1 := CU_fr hU hf1 (by decide)
      have e8 : μ1 46 8 = 0 := by rw [U1.1, hg0]; rfl
      rw [x1_34]
      simp (disch := omega) only [x1_0, x1_1, x1_4, x1_5, x1_8, x1_11, x1_14, x1_15, x1_18, x1_21, x1_22, x1_23, x1_24, x1_27, x1_28, x1_29, x1_30, x1_31, x1_32, x1_36, x1_38, x1_41, x1_42, x1_45, x1_48, x1_51, x1_52, x1_53, x1_54, x1_57, x1_60, x1_61, x1_62, x1_63, x1_66, x1_69, x1_70, x1_71, x1_74, x1_75, x1_76, x1_77, x1_78, x1_81, x1_83, x1_84, x1_85, x1_86, x1_87, x1_88, x1_91, x1_94, x1_97, x1_98, x1_99, x1_100, x1_103, x1_104, x1_105, x1_108, x1_111, x1_113, ↓reduceIte, Bool.false_eq_true, Nat.reduceAdd, Nat.reduceLT, Nat.reduceLeDiff, Nat.reduceSub, Nat.reduceEqDiff, Int.reduceToNat, Int.reduceEq, Int.reduceLT, Int.reduceLE, Int.reduceAdd, Int.reduceSub, zg, zI, zJ, zR, zst, zkl, zn, zcat, zok, zraw, List.length_cons, List.length_nil, Option.toList, List.nil_append, List.cons_append, true_and, and_true, if_true, if_false, ne_eq, not_true, not_false_eq_true, and_self, true_or, or_true, false_or, or_false, false_and, and_false, b_2 hc, b_3 hc, b_9 hc, b_12 hc, b_26 hc, b_40 hc, b_46 hc, b_47 hc, b_60 hc, b_62 hc, b_63 hc, b_76 hc, b_77 hc, b_90 hc, b_91 hc, b_104 hc, b_107 hc, b_114 hc, b_115 hc, b_122 hc, b_123 hc, b_131 hc, b_114 hc, r_114_0 hc, r_114_1 hc, r_114_2 hc, b_46 hc, r_46_0 hc, r_46_1 hc, x_54 hc, r_46_2 hc, x_55 hc, r_46_3 hc, x_56 hc, r_46_4 hc, x_57 hc, r_46_5 hc, x_58 hc, r_46_6 hc, x_59 hc, e8]
      have := hQ μ1 (hf1.mono (by decide))
      unfold niO at this
      rw [if_neg h0, if_pos hg0] at this
      exact this
    · have key : ∀ k L μ2, k ≤ 80 → (L = [vr 114, vi many, vi (hlO τ (ntO τ ρ G k)), vi ((k % G.1 : Nat) : Int), vi ((k + 1 : Nat) : Int)] ∧ Fr KF μ μ2 ∧ TF τ ρ (ntO τ ρ G k) μ2 ∧ ∀ i, i < k → ¬ many ≤ hlO τ (ntO τ ρ G (i + 1))) → Ex d 1 34 L [] θ μ2 Q := by
        refine Ex_loop (I := fun k L μ2 => L = [vr 114, vi many, vi (hlO τ (ntO τ ρ G k)), vi ((k % G.1 : Nat) : Int), vi ((k + 1 : Nat) : Int)] ∧ Fr KF μ μ2 ∧ TF τ ρ (ntO τ ρ G k) μ2 ∧ ∀ i, i < k → ¬ many ≤ hlO τ (ntO τ ρ G (i + 1))) 80 ?_ ?_
        · rintro k L μ2 hk80 ⟨rfl, hf2, F2, hno⟩ hk
          have U2 : CU G 46 μ2 := CU_fr hU hf2 (by decide)
          have hmod : k % G.1 < G.1 := Nat.mod_lt _ (by omega)
          have ge := U2.2 (k % G.1) hmod
          simp only [Nat.reduceAdd] at ge
          have hgt := hG.2 (k % G.1) hmod
          have i1 : ¬ ((80 : Int) < ((k + 1 : Nat) : Int)) := by omega
          have i2 : ¬ ((G.1 : Int) ≤ 0) := by omega
          have hst := nt_s (τ := τ) (ρ := ρ) (G := G) k
          have hb1 := hl_le hw (nt_z (τ := τ) (ρ := ρ) (G := G) k)
          have hb2 := hl_le hw (nt_z (τ := τ) (ρ := ρ) (G := G) (k + 1))
          have h41 := hG.1
          rw [x1_34]
          simp (disch := omega) only [x1_0, x1_1, x1_4, x1_5, x1_8, x1_11, x1_14, x1_15, x1_18, x1_21, x1_22, x1_23, x1_24, x1_27, x1_28, x1_29, x1_30, x1_31, x1_32, x1_36, x1_38, x1_41, x1_42, x1_45, x1_48, x1_51, x1_52, x1_53, x1_54, x1_57, x1_60, x1_61, x1_62, x1_63, x1_66, x1_69, x1_70, x1_71, x1_74, x1_75, x1_76, x1_77, x1_78, x1_81, x1_83, x1_84, x1_85, x1_86, x1_87, x1_88, x1_91, x1_94, x1_97, x1_98, x1_99, x1_100, x1_103, x1_104, x1_105, x1_108, x1_111, x1_113, ↓reduceIte, Bool.false_eq_true, Nat.reduceAdd, Nat.reduceLT, Nat.reduceLeDiff, Nat.reduceSub, Nat.reduceEqDiff, Int.reduceToNat, Int.reduceEq, Int.reduceLT, Int.reduceLE, Int.reduceAdd, Int.reduceSub, zg, zI, zJ, zR, zst, zkl, zn, zcat, zok, zraw, List.length_cons, List.length_nil, Option.toList, List.nil_append, List.cons_append, true_and, and_true, if_true, if_false, ne_eq, not_true, not_false_eq_true, and_self, true_or, or_true, false_or, or_false, false_and, and_false, b_2 hc, b_3 hc, b_9 hc, b_12 hc, b_26 hc, b_40 hc, b_46 hc, b_47 hc, b_60 hc, b_62 hc, b_63 hc, b_76 hc, b_77 hc, b_90 hc, b_91 hc, b_104 hc, b_107 hc, b_114 hc, b_115 hc, b_122 hc, b_123 hc, b_131 hc, b_114 hc, r_114_0 hc, r_114_1 hc, r_114_2 hc, b_46 hc, r_46_0 hc, r_46_1 hc, x_54 hc, r_46_2 hc, x_55 hc, r_46_3 hc, x_56 hc, r_46_4 hc, x_57 hc, r_46_5 hc, x_58 hc, r_46_6 hc, x_59 hc, U2.1, i1, i2, hd0, ge.1, ge.2.1, Int.toNat_natCast]
          refine cLostT (d := d - 1) (CX_fr h hf2 (by decide)) F2 (by omega) hgt.1 hgt.2.1 ?_
          intro μ3 hf3 F3
          have hf03 := hf2.trans hf3
          have U3 : CU G 46 μ3 := CU_fr hU hf03 (by decide)
          have a1 : w32 (hlO τ (ntO τ ρ G k) + (foO τ ρ (G.2.1 (k % G.1)) (G.2.2.1 (k % G.1)) (ntO τ ρ G k) : Nat)) = hlO τ (ntO τ ρ G (k + 1)) := by rw [hst]; exact w32_i (by omega) (by omega)
          by_cases hr : many ≤ hlO τ (ntO τ ρ G (k + 1))
          · have hrl : ¬ hlO τ (ntO τ ρ G (k + 1)) < many := by omega
            simp (disch := omega) only [x1_0, x1_1, x1_4, x1_5, x1_8, x1_11, x1_14, x1_15, x1_18, x1_21, x1_22, x1_23, x1_24, x1_27, x1_28, x1_29, x1_30, x1_31, x1_32, x1_36, x1_38, x1_41, x1_42, x1_45, x1_48, x1_51, x1_52, x1_53, x1_54, x1_57, x1_60, x1_61, x1_62, x1_63, x1_66, x1_69, x1_70, x1_71, x1_74, x1_75, x1_76, x1_77, x1_78, x1_81, x1_83, x1_84, x1_85, x1_86, x1_87, x1_88, x1_91, x1_94, x1_97, x1_98, x1_99, x1_100, x1_103, x1_104, x1_105, x1_108, x1_111, x1_113, ↓reduceIte, Bool.false_eq_true, Nat.reduceAdd, Nat.reduceLT, Nat.reduceLeDiff, Nat.reduceSub, Nat.reduceEqDiff, Int.reduceToNat, Int.reduceEq, Int.reduceLT, Int.reduceLE, Int.reduceAdd, Int.reduceSub, zg, zI, zJ, zR, zst, zkl, zn, zcat, zok, zraw, List.length_cons, List.length_nil, Option.toList, List.nil_append, List.cons_append, true_and, and_true, if_true, if_false, ne_eq, not_true, not_false_eq_true, and_self, true_or, or_true, false_or, or_false, false_and, and_false, b_2 hc, b_3 hc, b_9 hc, b_12 hc, b_26 hc, b_40 hc, b_46 hc, b_47 hc, b_60 hc, b_62 hc, b_63 hc, b_76 hc, b_77 hc, b_90 hc, b_91 hc, b_104 hc, b_107 hc, b_114 hc, b_115 hc, b_122 hc, b_123 hc, b_131 hc, b_114 hc, r_114_0 hc, r_114_1 hc, r_114_2 hc, b_46 hc, r_46_0 hc, r_46_1 hc, x_54 hc, r_46_2 hc, x_55 hc, r_46_3 hc, x_56 hc, r_46_4 hc, x_57 hc, r_46_5 hc, x_58 hc, r_46_6 hc, x_59 hc, a1, hrl]
            have := hQ μ3 hf03
            unfold niO at this
            rw [if_neg h0, if_neg hg0, find_at hk80 (fun i hi => by simp; have := hno i hi; omega) (by simp; exact hr)] at this
            exact this
          · have hrl : hlO τ (ntO τ ρ G (k + 1)) < many := by omega
            by_cases hwr : k % G.1 + 1 < G.1
            · have i3 : ¬ ((G.1 : Int) ≤ ((k % G.1 + 1 : Nat) : Int)) := by omega
              have hm1 : (k + 1) % G.1 = k % G.1 + 1 := by rw [Nat.add_mod, Nat.mod_eq_of_lt (a := 1) (by omega), Nat.mod_eq_of_lt hwr]
              simp (disch := omega) only [x1_0, x1_1, x1_4, x1_5, x1_8, x1_11, x1_14, x1_15, x1_18, x1_21, x1_22, x1_23, x1_24, x1_27, x1_28, x1_29, x1_30, x1_31, x1_32, x1_36, x1_38, x1_41, x1_42, x1_45, x1_48, x1_51, x1_52, x1_53, x1_54, x1_57, x1_60, x1_61, x1_62, x1_63, x1_66, x1_69, x1_70, x1_71, x1_74, x1_75, x1_76, x1_77, x1_78, x1_81, x1_83, x1_84, x1_85, x1_86, x1_87, x1_88, x1_91, x1_94, x1_97, x1_98, x1_99, x1_100, x1_103, x1_104, x1_105, x1_108, x1_111, x1_113, ↓reduceIte, Bool.false_eq_true, Nat.reduceAdd, Nat.reduceLT, Nat.reduceLeDiff, Nat.reduceSub, Nat.reduceEqDiff, Int.reduceToNat, Int.reduceEq, Int.reduceLT, Int.reduceLE, Int.reduceAdd, Int.reduceSub, zg, zI, zJ, zR, zst, zkl, zn, zcat, zok, zraw, List.length_cons, List.length_nil, Option.toList, List.nil_append, List.cons_append, true_and, and_true, if_true, if_false, ne_eq, not_true, not_false_eq_true, and_self, true_or, or_true, false_or, or_false, false_and, and_false, b_2 hc, b_3 hc, b_9 hc, b_12 hc, b_26 hc, b_40 hc, b_46 hc, b_47 hc, b_60 hc, b_62 hc, b_63 hc, b_76 hc, b_77 hc, b_90 hc, b_91 hc, b_104 hc, b_107 hc, b_114 hc, b_115 hc, b_122 hc, b_123 hc, b_131 hc, b_114 hc, r_114_0 hc, r_114_1 hc, r_114_2 hc, b_46 hc, r_46_0 hc, r_46_1 hc, x_54 hc, r_46_2 hc, x_55 hc, r_46_3 hc, x_56 hc, r_46_4 hc, x_57 hc, r_46_5 hc, x_58 hc, r_46_6 hc, x_59 hc, a1, hrl, U3.1, w32_s, i3]
              apply hk
              refine ⟨by rw [hm1], hf03, F3, ?_⟩
              intro i hi
              by_cases hik : i = k
              · rw [hik]; exact hr
              · exact hno i (by omega)
            · have i3 : ((G.1 : Int) ≤ ((k % G.1 + 1 : Nat) : Int)) := by omega
              have hm1 : (k + 1) % G.1 = 0 := by
                by_cases h1 : G.1 = 1
                · rw [h1]; omega
                · rw [Nat.add_mod, Nat.mod_eq_of_lt (a := 1) (by omega), show k % G.1 + 1 = G.1 by omega, Nat.mod_self]
              simp (disch := omega) only [x1_0, x1_1, x1_4, x1_5, x1_8, x1_11, x1_14, x1_15, x1_18, x1_21, x1_22, x1_23, x1_24, x1_27, x1_28, x1_29, x1_30, x1_31, x1_32, x1_36, x1_38, x1_41, x1_42, x1_45, x1_48, x1_51, x1_52, x1_53, x1_54, x1_57, x1_60, x1_61, x1_62, x1_63, x1_66, x1_69, x1_70, x1_71, x1_74, x1_75, x1_76, x1_77, x1_78, x1_81, x1_83, x1_84, x1_85, x1_86, x1_87, x1_88, x1_91, x1_94, x1_97, x1_98, x1_99, x1_100, x1_103, x1_104, x1_105, x1_108, x1_111, x1_113, ↓reduceIte, Bool.false_eq_true, Nat.reduceAdd, Nat.reduceLT, Nat.reduceLeDiff, Nat.reduceSub, Nat.reduceEqDiff, Int.reduceToNat, Int.reduceEq, Int.reduceLT, Int.reduceLE, Int.reduceAdd, Int.reduceSub, zg, zI, zJ, zR, zst, zkl, zn, zcat, zok, zraw, List.length_cons, List.length_nil, Option.toList, List.nil_append, List.cons_append, true_and, and_true, if_true, if_false, ne_eq, not_true, not_false_eq_true, and_self, true_or, or_true, false_or, or_false, false_and, and_false, b_2 hc, b_3 hc, b_9 hc, b_12 hc, b_26 hc, b_40 hc, b_46 hc, b_47 hc, b_60 hc, b_62 hc, b_63 hc, b_76 hc, b_77 hc, b_90 hc, b_91 hc, b_104 hc, b_107 hc, b_114 hc, b_115 hc, b_122 hc, b_123 hc, b_131 hc, b_114 hc, r_114_0 hc, r_114_1 hc, r_114_2 hc, b_46 hc, r_46_0 hc, r_46_1 hc, x_54 hc, r_46_2 hc, x_55 hc, r_46_3 hc, x_56 hc, r_46_4 hc, x_57 hc, r_46_5 hc, x_58 hc, r_46_6 hc, x_59 hc, a1, hrl, U3.1, w32_s, i3]
              apply hk
              refine ⟨by rw [hm1]; rfl, hf03, F3, ?_⟩
              intro i hi
              by_cases hik : i = k
              · rw [hik]; exact hr
              · exact hno i (by omega)
        · rintro L μ2 ⟨rfl, hf2, F2, hno⟩
          have i1 : ((80 : Int) < ((80 + 1 : Nat) : Int)) := by decide
          rw [x1_34]
          simp (disch := omega) only [x1_0, x1_1, x1_4, x1_5, x1_8, x1_11, x1_14, x1_15, x1_18, x1_21, x1_22, x1_23, x1_24, x1_27, x1_28, x1_29, x1_30, x1_31, x1_32, x1_36, x1_38, x1_41, x1_42, x1_45, x1_48, x1_51, x1_52, x1_53, x1_54, x1_57, x1_60, x1_61, x1_62, x1_63, x1_66, x1_69, x1_70, x1_71, x1_74, x1_75, x1_76, x1_77, x1_78, x1_81, x1_83, x1_84, x1_85, x1_86, x1_87, x1_88, x1_91, x1_94, x1_97, x1_98, x1_99, x1_100, x1_103, x1_104, x1_105, x1_108, x1_111, x1_113, ↓reduceIte, Bool.false_eq_true, Nat.reduceAdd, Nat.reduceLT, Nat.reduceLeDiff, Nat.reduceSub, Nat.reduceEqDiff, Int.reduceToNat, Int.reduceEq, Int.reduceLT, Int.reduceLE, Int.reduceAdd, Int.reduceSub, zg, zI, zJ, zR, zst, zkl, zn, zcat, zok, zraw, List.length_cons, List.length_nil, Option.toList, List.nil_append, List.cons_append, true_and, and_true, if_true, if_false, ne_eq, not_true, not_false_eq_true, and_self, true_or, or_true, false_or, or_false, false_and, and_false, b_2 hc, b_3 hc, b_9 hc, b_12 hc, b_26 hc, b_40 hc, b_46 hc, b_47 hc, b_60 hc, b_62 hc, b_63 hc, b_76 hc, b_77 hc, b_90 hc, b_91 hc, b_104 hc, b_107 hc, b_114 hc, b_115 hc, b_122 hc, b_123 hc, b_131 hc, b_114 hc, r_114_0 hc, r_114_1 hc, r_114_2 hc, b_46 hc, r_46_0 hc, r_46_1 hc, x_54 hc, r_46_2 hc, x_55 hc, r_46_3 hc, x_56 hc, r_46_4 hc, x_57 hc, r_46_5 hc, x_58 hc, r_46_6 hc, x_59 hc, i1]
          have := hQ μ2 hf2
          unfold niO at this
          rw [if_neg h0, if_neg hg0, find_no (fun i hi => by simp; have := hno i hi; omega)] at this
          exact this
      refine key 0 _ μ1 (by omega) ⟨?_, hf1.mono (by decide), ⟨ρ, F1, ⟨fun _ _ => rfl, rfl⟩, rfl⟩, fun i hi => absurd hi (by omega)⟩
      rw [Nat.zero_mod]; rfl
/-- YEARS: ages k years on; what is GONE behind k years by LOTS -/
def agF (ρ : zF) (k : Nat) : zF := (fun m q => if m = 3 then (if ρ.1 3 q + k < 99 then ρ.1 3 q + k else 99) else ρ.1 m q, ρ.2)
def ylO (τ : zT) (ρ : zF) (seed : Int) : Nat → Nat → Int
  | 0 => gnO τ ρ
  | y + 1 => loO τ (agF ρ (y + 1)) (lotO seed (2 * (y : Nat)) 100) (lotO seed (2 * (y : Nat) + 1) 4) (ylO τ ρ seed y) 36
def yfO (τ : zT) (ρ : zF) (seed : Int) (y : Nat) : Int := (foO τ (agF ρ (y + 1)) (lotO seed (2 * (y : Nat)) 100) (lotO seed (2 * (y : Nat) + 1) 4) (ylO τ ρ seed y) : Nat)
theorem yl_z {seed : Int} : ∀ k, lz (ylO τ ρ seed k) := by
  intro k
  induction k with
  | zero => exact gn_z τ ρ
  | succ k ih => exact lo_z ih
theorem yl_s {seed : Int} (k : Nat) : hlO τ (ylO τ ρ seed (k + 1)) = hlO τ (ylO τ ρ seed k) + yfO τ ρ seed k := hl_fo
theorem yf_nn {seed : Int} (k : Nat) : 0 ≤ yfO τ ρ seed k := by unfold yfO; omega
theorem yl_full (hw : wfT τ) {seed : Int} {t : Nat} (h : (tn τ : Int) ≤ hlO τ (ylO τ ρ seed t)) : ∀ k, hlO τ (ylO τ ρ seed (t + k)) = hlO τ (ylO τ ρ seed t) := by
  intro k
  induction k with
  | zero => rfl
  | succ k ih =>
    have h1 := hl_b hw (yl_z (τ := τ) (ρ := ρ) (seed := seed) (t + k + 1))
    have h2 := yl_s (τ := τ) (ρ := ρ) (seed := seed) (t + k)
    have h3 := yf_nn (τ := τ) (ρ := ρ) (seed := seed) (t + k)
    rw [← Nat.add_assoc]
    omega
theorem agF_w {k : Nat} (h : wfF τ ρ) : wfF τ (agF ρ k) := by
  refine ⟨fun q hq => ?_, h.2.1, h.2.2⟩
  have := h.1 q hq
  refine ⟨this.1, this.2.1, this.2.2.1, ?_, this.2.2.2.2⟩
  show 0 ≤ (if ρ.1 3 q + k < 99 then ρ.1 3 q + k else 99) ∧ (if ρ.1 3 q + k < 99 then ρ.1 3 q + k else 99) ≤ 99
  by_cases hc : ρ.1 3 q + k < 99
  · rw [if_pos hc]; omega
  · rw [if_neg hc]; omega
theorem ag0 (h : wfF τ ρ) : ∀ q, q < tn τ → (agF ρ 0).1 3 q = ρ.1 3 q := by
  intro q hq
  have := (h.1 q hq).2.2.2.1
  show (if ρ.1 3 q + (0 : Nat) < 99 then ρ.1 3 q + (0 : Nat) else 99) = ρ.1 3 q
  by_cases hc : ρ.1 3 q + (0 : Nat) < 99
  · rw [if_pos hc]; simp
  · rw [if_neg hc]; omega
theorem cLostIn {d y : Nat} {seed x : Int} {x3 x4 : zV} {lost : Nat → Int} (h : CX θ T U τ μ) (hwF : wfF τ ρ) (hF : TF τ (agF ρ y) lost μ) (hd : 5 ≤ d) (hx : x = (y : Int)) (hy : y < 60)
    (hQ : ∀ μ', Fr KF μ μ' → TF τ (agF ρ (y + 1)) (loO τ (agF ρ (y + 1)) (lotO seed (2 * (y : Nat)) 100) (lotO seed (2 * (y : Nat) + 1) 4) lost 36) μ' → Q (some (vi (foO τ (agF ρ (y + 1)) (lotO seed (2 * (y : Nat)) 100) (lotO seed (2 * (y : Nat) + 1) 4) lost : Nat))) θ μ') : Ex d 4 0 [vr 114, vi seed, vi x, x3, x4] [] θ μ Q := by
  subst hx
  have hc := h.1.1
  have hw := h.2.1
  have hn := tn_b hw
  have hd0 : 0 < d := by omega
  obtain ⟨ρ', F1, hs, hgn⟩ := hF
  have h3 := hs.1 3 (by decide)
  have key : ∀ t L μ1, t ≤ tn τ → (L = [vr 114, vi seed, vi (y : Nat), vr 120, vi (t : Nat)] ∧ Fr [120] μ μ1 ∧ (∀ q, q < tn τ → μ1 120 q = if q < t then (agF ρ (y + 1)).1 3 q else ρ'.1 3 q)) → Ex d 4 13 L [] θ μ1 Q := by
    refine Ex_loop (I := fun t L μ1 => L = [vr 114, vi seed, vi (y : Nat), vr 120, vi (t : Nat)] ∧ Fr [120] μ μ1 ∧ (∀ q, q < tn τ → μ1 120 q = if q < t then (agF ρ (y + 1)).1 3 q else ρ'.1 3 q)) (tn τ) ?_ ?_
    · rintro t L μ1 ht ⟨rfl, hf, ha⟩ hk
      have i1 : ¬ ((tn τ : Int) ≤ (t : Int)) := by omega
      have et : μ1 115 1 = (tn τ : Nat) := by rw [hf 115 (by decide)]; exact F1.2.2.1
      have e := ha t ht
      rw [if_neg (Nat.lt_irrefl _), ← h3] at e
      have hag := (hwF.1 t ht).2.2.2.1
      have e1 : (agF ρ y).1 3 t = (if ρ.1 3 t + (y : Nat) < 99 then ρ.1 3 t + (y : Nat) else 99) := rfl
      have e2 : (agF ρ (y + 1)).1 3 t = (if ρ.1 3 t + ((y + 1 : Nat) : Int) < 99 then ρ.1 3 t + ((y + 1 : Nat) : Int) else 99) := rfl
      have hmin : (if w32 ((agF ρ y).1 3 t + 1) < 99 then w32 ((agF ρ y).1 3 t + 1) else 99) = (agF ρ (y + 1)).1 3 t := by
        rw [e1, e2]; unfold w32; omega
      rw [x4_13]
      simp (disch := omega) only [x4_0, x4_1, x4_4, x4_7, x4_8, x4_9, x4_10, x4_11, x4_15, x4_16, x4_19, x4_22, x4_25, x4_26, x4_28, x4_30, x4_31, x4_33, x4_34, x4_35, x4_36, x4_39, x4_40, x4_43, x4_46, x4_47, x4_48, x4_49, x4_50, x4_51, x4_53, x4_56, x4_57, x4_58, x4_59, x4_60, x4_61, x4_62, x4_63, x4_66, x4_69, ↓reduceIte, Bool.false_eq_true, Nat.reduceAdd, Nat.reduceLT, Nat.reduceLeDiff, Nat.reduceSub, Nat.reduceEqDiff, Int.reduceToNat, Int.reduceEq, Int.reduceLT, Int.reduceLE, Int.reduceAdd, Int.reduceSub, zg, zI, zJ, zR, zst, zkl, zn, zcat, zok, zraw, List.length_cons, List.length_nil, Option.toList, List.nil_append, List.cons_append, true_and, and_true, if_true, if_false, ne_eq, not_true, not_false_eq_true, and_self, true_or, or_true, false_or, or_false, false_and, and_false, b_2 hc, b_3 hc, b_9 hc, b_12 hc, b_26 hc, b_40 hc, b_46 hc, b_47 hc, b_60 hc, b_62 hc, b_63 hc, b_76 hc, b_77 hc, b_90 hc, b_91 hc, b_104 hc, b_107 hc, b_114 hc, b_115 hc, b_122 hc, b_123 hc, b_131 hc, b_114 hc, r_114_0 hc, r_114_1 hc, r_114_2 hc, b_115 hc, r_115_0 hc, x_116 hc, n_116 hc, x_116 hc, n_116 hc, r_116_0 hc, x_117 hc, r_116_1 hc, x_118 hc, r_116_2 hc, x_119 hc, r_116_3 hc, x_120 hc, r_116_4 hc, x_121 hc, hd0, et, i1, e, eMin, hmin, Int.toNat_natCast, w32_s, ua_eq]
      apply hk
      refine ⟨rfl, Fr.us (by decide) hf, ?_⟩
      intro q hq
      rw [us_same, zup_ap]
      by_cases h1 : q = t
      · subst h1; rw [if_pos rfl, if_pos (Nat.lt_succ_self _)]
      · rw [if_neg h1, ha q hq]
        by_cases h2 : q < t
        · rw [if_pos h2, if_pos (Nat.lt_succ_of_lt h2)]
        · rw [if_neg h2, if_neg (by omega)]
    · rintro L μ1 ⟨rfl, hf, ha⟩
      have et : μ1 115 1 = (tn τ : Nat) := by rw [hf 115 (by decide)]; exact F1.2.2.1
      have m1 : w32 (2 * (y : Int)) = 2 * (y : Int) := w32_i (by omega) (by omega)
      have m2 : w32 (2 * (y : Int) + 1) = 2 * (y : Int) + 1 := w32_i (by omega) (by omega)
      have l1 := lot_b (seed := seed) (which := 2 * (y : Int)) (n := 100) (by decide)
      have l2 := lot_b (seed := seed) (which := 2 * (y : Int) + 1) (n := 4) (by decide)
      have hd1 : 0 < d - 1 := by omega
      rw [x4_13]
      simp (disch := omega) only [x4_0, x4_1, x4_4, x4_7, x4_8, x4_9, x4_10, x4_11, x4_15, x4_16, x4_19, x4_22, x4_25, x4_26, x4_28, x4_30, x4_31, x4_33, x4_34, x4_35, x4_36, x4_39, x4_40, x4_43, x4_46, x4_47, x4_48, x4_49, x4_50, x4_51, x4_53, x4_56, x4_57, x4_58, x4_59, x4_60, x4_61, x4_62, x4_63, x4_66, x4_69, ↓reduceIte, Bool.false_eq_true, Nat.reduceAdd, Nat.reduceLT, Nat.reduceLeDiff, Nat.reduceSub, Nat.reduceEqDiff, Int.reduceToNat, Int.reduceEq, Int.reduceLT, Int.reduceLE, Int.reduceAdd, Int.reduceSub, zg, zI, zJ, zR, zst, zkl, zn, zcat, zok, zraw, List.length_cons, List.length_nil, Option.toList, List.nil_append, List.cons_append, true_and, and_true, if_true, if_false, ne_eq, not_true, not_false_eq_true, and_self, true_or, or_true, false_or, or_false, false_and, and_false, b_2 hc, b_3 hc, b_9 hc, b_12 hc, b_26 hc, b_40 hc, b_46 hc, b_47 hc, b_60 hc, b_62 hc, b_63 hc, b_76 hc, b_77 hc, b_90 hc, b_91 hc, b_104 hc, b_107 hc, b_114 hc, b_115 hc, b_122 hc, b_123 hc, b_131 hc, b_114 hc, r_114_0 hc, r_114_1 hc, r_114_2 hc, b_115 hc, r_115_0 hc, x_116 hc, n_116 hc, hd0, et, Int.le_refl, m1, m2]
      rw [eLotC hd1 (by decide)]
      simp (disch := omega) only [x4_0, x4_1, x4_4, x4_7, x4_8, x4_9, x4_10, x4_11, x4_15, x4_16, x4_19, x4_22, x4_25, x4_26, x4_28, x4_30, x4_31, x4_33, x4_34, x4_35, x4_36, x4_39, x4_40, x4_43, x4_46, x4_47, x4_48, x4_49, x4_50, x4_51, x4_53, x4_56, x4_57, x4_58, x4_59, x4_60, x4_61, x4_62, x4_63, x4_66, x4_69, ↓reduceIte, Bool.false_eq_true, Nat.reduceAdd, Nat.reduceLT, Nat.reduceLeDiff, Nat.reduceSub, Nat.reduceEqDiff, Int.reduceToNat, Int.reduceEq, Int.reduceLT, Int.reduceLE, Int.reduceAdd, Int.reduceSub, zg, zI, zJ, zR, zst, zkl, zn, zcat, zok, zraw, List.length_cons, List.length_nil, Option.toList, List.nil_append, List.cons_append, true_and, and_true, if_true, if_false, ne_eq, not_true, not_false_eq_true, and_self, true_or, or_true, false_or, or_false, false_and, and_false, b_2 hc, b_3 hc, b_9 hc, b_12 hc, b_26 hc, b_40 hc, b_46 hc, b_47 hc, b_60 hc, b_62 hc, b_63 hc, b_76 hc, b_77 hc, b_90 hc, b_91 hc, b_104 hc, b_107 hc, b_114 hc, b_115 hc, b_122 hc, b_123 hc, b_131 hc, b_114 hc, r_114_0 hc, r_114_1 hc, r_114_2 hc, b_115 hc, r_115_0 hc, x_116 hc, n_116 hc, hd0, m1, m2]
      rw [eLotC hd1 (by decide)]
      simp (disch := omega) only [x4_0, x4_1, x4_4, x4_7, x4_8, x4_9, x4_10, x4_11, x4_15, x4_16, x4_19, x4_22, x4_25, x4_26, x4_28, x4_30, x4_31, x4_33, x4_34, x4_35, x4_36, x4_39, x4_40, x4_43, x4_46, x4_47, x4_48, x4_49, x4_50, x4_51, x4_53, x4_56, x4_57, x4_58, x4_59, x4_60, x4_61, x4_62, x4_63, x4_66, x4_69, ↓reduceIte, Bool.false_eq_true, Nat.reduceAdd, Nat.reduceLT, Nat.reduceLeDiff, Nat.reduceSub, Nat.reduceEqDiff, Int.reduceToNat, Int.reduceEq, Int.reduceLT, Int.reduceLE, Int.reduceAdd, Int.reduceSub, zg, zI, zJ, zR, zst, zkl, zn, zcat, zok, zraw, List.length_cons, List.length_nil, Option.toList, List.nil_append, List.cons_append, true_and, and_true, if_true, if_false, ne_eq, not_true, not_false_eq_true, and_self, true_or, or_true, false_or, or_false, false_and, and_false, b_2 hc, b_3 hc, b_9 hc, b_12 hc, b_26 hc, b_40 hc, b_46 hc, b_47 hc, b_60 hc, b_62 hc, b_63 hc, b_76 hc, b_77 hc, b_90 hc, b_91 hc, b_104 hc, b_107 hc, b_114 hc, b_115 hc, b_122 hc, b_123 hc, b_131 hc, b_114 hc, r_114_0 hc, r_114_1 hc, r_114_2 hc, b_115 hc, r_115_0 hc, x_116 hc, n_116 hc, hd0]
      refine cLostT (d := d - 1) (ρ := agF ρ (y + 1)) (lost := lost) (CX_fr h hf (by decide)) ?_ (by omega) ⟨l1.1, by omega⟩ ⟨l2.1, by omega⟩ ?_
      · refine ⟨(fun m q => if m = 3 then (agF ρ (y + 1)).1 3 q else ρ'.1 m q, ρ'.2), ?_, ?_, ?_⟩
        · obtain ⟨a1, a2, a3, a4, a5, a6⟩ := F1
          refine ⟨a1, ?_, by rw [hf 115 (by decide)]; exact a3, ?_, by rw [hf 115 (by decide)]; exact a5, by rw [hf 115 (by decide)]; exact a6⟩
          · refine ⟨fun q hq => ?_, a2.2.1, a2.2.2⟩
            have b := a2.1 q hq
            have b3 := (agF_w (k := y + 1) hwF).1 q hq
            exact ⟨b.1, b.2.1, b.2.2.1, b3.2.2.2.1, b.2.2.2.2⟩
          · intro m q hm hq
            by_cases m3 : m = 3
            · subst m3
              have := ha q hq
              rw [if_pos hq] at this
              simpa using this
            · rw [hf _ (by simp; omega), a4 m q hm hq]; simp [m3]
        · refine ⟨fun m hm => ?_, hs.2⟩
          funext q
          by_cases m3 : m = 3
          · subst m3; simp
          · have := congrFun (hs.1 m hm) q
            simp only [m3, if_false]
            rw [← this]
            unfold agF; simp [m3]
        · rw [← hgn]; rfl
      · intro μ2 hf2 F2
        simp (disch := omega) only [x4_0, x4_1, x4_4, x4_7, x4_8, x4_9, x4_10, x4_11, x4_15, x4_16, x4_19, x4_22, x4_25, x4_26, x4_28, x4_30, x4_31, x4_33, x4_34, x4_35, x4_36, x4_39, x4_40, x4_43, x4_46, x4_47, x4_48, x4_49, x4_50, x4_51, x4_53, x4_56, x4_57, x4_58, x4_59, x4_60, x4_61, x4_62, x4_63, x4_66, x4_69, ↓reduceIte, Bool.false_eq_true, Nat.reduceAdd, Nat.reduceLT, Nat.reduceLeDiff, Nat.reduceSub, Nat.reduceEqDiff, Int.reduceToNat, Int.reduceEq, Int.reduceLT, Int.reduceLE, Int.reduceAdd, Int.reduceSub, zg, zI, zJ, zR, zst, zkl, zn, zcat, zok, zraw, List.length_cons, List.length_nil, Option.toList, List.nil_append, List.cons_append, true_and, and_true, if_true, if_false, ne_eq, not_true, not_false_eq_true, and_self, true_or, or_true, false_or, or_false, false_and, and_false, b_2 hc, b_3 hc, b_9 hc, b_12 hc, b_26 hc, b_40 hc, b_46 hc, b_47 hc, b_60 hc, b_62 hc, b_63 hc, b_76 hc, b_77 hc, b_90 hc, b_91 hc, b_104 hc, b_107 hc, b_114 hc, b_115 hc, b_122 hc, b_123 hc, b_131 hc]
        exact hQ μ2 ((hf.mono (by decide)).trans hf2) F2
  simp (disch := omega) only [x4_0, x4_1, x4_4, x4_7, x4_8, x4_9, x4_10, x4_11, x4_15, x4_16, x4_19, x4_22, x4_25, x4_26, x4_28, x4_30, x4_31, x4_33, x4_34, x4_35, x4_36, x4_39, x4_40, x4_43, x4_46, x4_47, x4_48, x4_49, x4_50, x4_51, x4_53, x4_56, x4_57, x4_58, x4_59, x4_60, x4_61, x4_62, x4_63, x4_66, x4_69, ↓reduceIte, Bool.false_eq_true, Nat.reduceAdd, Nat.reduceLT, Nat.reduceLeDiff, Nat.reduceSub, Nat.reduceEqDiff, Int.reduceToNat, Int.reduceEq, Int.reduceLT, Int.reduceLE, Int.reduceAdd, Int.reduceSub, zg, zI, zJ, zR, zst, zkl, zn, zcat, zok, zraw, List.length_cons, List.length_nil, Option.toList, List.nil_append, List.cons_append, true_and, and_true, if_true, if_false, ne_eq, not_true, not_false_eq_true, and_self, true_or, or_true, false_or, or_false, false_and, and_false, b_2 hc, b_3 hc, b_9 hc, b_12 hc, b_26 hc, b_40 hc, b_46 hc, b_47 hc, b_60 hc, b_62 hc, b_63 hc, b_76 hc, b_77 hc, b_90 hc, b_91 hc, b_104 hc, b_107 hc, b_114 hc, b_115 hc, b_122 hc, b_123 hc, b_131 hc, b_114 hc, r_114_0 hc, r_114_1 hc, r_114_2 hc, b_115 hc, r_115_0 hc, x_116 hc, n_116 hc, x_116 hc, n_116 hc, r_116_0 hc, x_117 hc, r_116_1 hc, x_118 hc, r_116_2 hc, x_119 hc, r_116_3 hc, x_120 hc, r_116_4 hc, x_121 hc, Int.reduceToNat]
  refine key 0 _ μ (by omega) ⟨rfl, Fr.refl, ?_⟩
  intro q hq
  rw [if_neg (Nat.not_lt_zero _)]
  exact F1.2.2.2.1 3 q (by decide) hq
theorem TF_ag0 (hwF : wfF τ ρ) (h : CF τ ρ 115 μ) : TF τ (agF ρ 0) (gnO τ ρ) μ := by
  refine ⟨(fun m q => if m = 3 then (agF ρ 0).1 3 q else ρ.1 m q, ρ.2), ?_, ?_, rfl⟩
  · obtain ⟨a1, a2, a3, a4, a5, a6⟩ := h
    refine ⟨a1, ?_, a3, ?_, a5, a6⟩
    · refine ⟨fun q hq => ?_, a2.2.1, a2.2.2⟩
      have b := a2.1 q hq
      have b3 := (agF_w (k := 0) hwF).1 q hq
      exact ⟨b.1, b.2.1, b.2.2.1, b3.2.2.2.1, b.2.2.2.2⟩
    · intro m q hm hq
      rw [a4 m q hm hq]
      by_cases m3 : m = 3
      · subst m3; simp; exact (ag0 hwF q hq).symm
      · simp [m3]
  · refine ⟨fun m hm => ?_, rfl⟩
    funext q
    by_cases m3 : m = 3
    · subst m3; simp
    · simp [m3, agF]
theorem cGoneBehind {d k : Nat} {seed x : Int} {x3 x4 : zV} (h : CX θ T U τ μ) (hN : CF τ ρ 47 μ) (hd : 7 ≤ d) (hx : x = (k : Int)) (hk60 : k ≤ 60)
    (hQ : ∀ μ', Fr KF μ μ' → Q (some (vi (hlO τ (ylO τ ρ seed k)))) θ μ') : Ex d 2 0 [vr 114, vi seed, vi x, x3, x4] [] θ μ Q := by
  subst hx
  have hc := h.1.1
  have hw := h.2.1
  have hn := tn_b hw
  have hd0 : 0 < d := by omega
  have hwF := hN.2.1
  simp (disch := omega) only [x2_0, x2_1, x2_4, x2_5, x2_8, x2_11, x2_14, x2_15, x2_18, x2_21, x2_22, x2_23, x2_27, x2_28, x2_31, x2_32, x2_33, x2_36, x2_39, x2_42, x2_43, x2_44, x2_45, x2_47, x2_50, x2_51, x2_52, x2_55, x2_58, x2_59, ↓reduceIte, Bool.false_eq_true, Nat.reduceAdd, Nat.reduceLT, Nat.reduceLeDiff, Nat.reduceSub, Nat.reduceEqDiff, Int.reduceToNat, Int.reduceEq, Int.reduceLT, Int.reduceLE, Int.reduceAdd, Int.reduceSub, zg, zI, zJ, zR, zst, zkl, zn, zcat, zok, zraw, List.length_cons, List.length_nil, Option.toList, List.nil_append, List.cons_append, true_and, and_true, if_true, if_false, ne_eq, not_true, not_false_eq_true, and_self, true_or, or_true, false_or, or_false, false_and, and_false, b_2 hc, b_3 hc, b_9 hc, b_12 hc, b_26 hc, b_40 hc, b_46 hc, b_47 hc, b_60 hc, b_62 hc, b_63 hc, b_76 hc, b_77 hc, b_90 hc, b_91 hc, b_104 hc, b_107 hc, b_114 hc, b_115 hc, b_122 hc, b_123 hc, b_131 hc, b_114 hc, r_114_0 hc, r_114_1 hc, r_114_2 hc, b_46 hc, r_46_0 hc, r_46_1 hc, x_54 hc, r_46_2 hc, x_55 hc, r_46_3 hc, x_56 hc, r_46_4 hc, x_57 hc, r_46_5 hc, x_58 hc, r_46_6 hc, x_59 hc, hd0]
  refine cTrialF (d := d - 1) h hN ?_
  intro μ1 hf1 F1
  simp (disch := omega) only [x2_0, x2_1, x2_4, x2_5, x2_8, x2_11, x2_14, x2_15, x2_18, x2_21, x2_22, x2_23, x2_27, x2_28, x2_31, x2_32, x2_33, x2_36, x2_39, x2_42, x2_43, x2_44, x2_45, x2_47, x2_50, x2_51, x2_52, x2_55, x2_58, x2_59, ↓reduceIte, Bool.false_eq_true, Nat.reduceAdd, Nat.reduceLT, Nat.reduceLeDiff, Nat.reduceSub, Nat.reduceEqDiff, Int.reduceToNat, Int.reduceEq, Int.reduceLT, Int.reduceLE, Int.reduceAdd, Int.reduceSub, zg, zI, zJ, zR, zst, zkl, zn, zcat, zok, zraw, List.length_cons, List.length_nil, Option.toList, List.nil_append, List.cons_append, true_and, and_true, if_true, if_false, ne_eq, not_true, not_false_eq_true, and_self, true_or, or_true, false_or, or_false, false_and, and_false, b_2 hc, b_3 hc, b_9 hc, b_12 hc, b_26 hc, b_40 hc, b_46 hc, b_47 hc, b_60 hc, b_62 hc, b_63 hc, b_76 hc, b_77 hc, b_90 hc, b_91 hc, b_104 hc, b_107 hc, b_114 hc, b_115 hc, b_122 hc, b_123 hc, b_131 hc, b_114 hc, r_114_0 hc, r_114_1 hc, r_114_2 hc, b_46 hc, r_46_0 hc, r_46_1 hc, x_54 hc, r_46_2 hc, x_55 hc, r_46_3 hc, x_56 hc, r_46_4 hc, x_57 hc, r_46_5 hc, x_58 hc, r_46_6 hc, x_59 hc, hd0]
  refine cGone hc hw F1 ?_
  have key : ∀ t L μ2, t ≤ k → (L = [vr 114, vi seed, vi (k : Nat), vi (hlO τ (ylO τ ρ seed t)), vi (t : Nat)] ∧ Fr KF μ μ2 ∧ TF τ (agF ρ t) (ylO τ ρ seed t) μ2) → Ex d 2 25 L [] θ μ2 Q := by
    refine Ex_loop (I := fun t L μ2 => L = [vr 114, vi seed, vi (k : Nat), vi (hlO τ (ylO τ ρ seed t)), vi (t : Nat)] ∧ Fr KF μ μ2 ∧ TF τ (agF ρ t) (ylO τ ρ seed t) μ2) k ?_ ?_
    · rintro t L μ2 ht ⟨rfl, hf2, F2⟩ hk
      have i1 : ¬ ((k : Int) ≤ (t : Int)) := by omega
      have et : μ2 115 1 = (tn τ : Nat) := by obtain ⟨ρ', a, _⟩ := F2; exact a.2.2.1
      have hst := yl_s (τ := τ) (ρ := ρ) (seed := seed) t
      have hb1 := hl_le hw (yl_z (τ := τ) (ρ := ρ) (seed := seed) t)
      have hb2 := hl_le hw (yl_z (τ := τ) (ρ := ρ) (seed := seed) (t + 1))
      rw [x2_25]
      by_cases hfull : (tn τ : Int) ≤ hlO τ (ylO τ ρ seed t)
      · simp (disch := omega) only [x2_0, x2_1, x2_4, x2_5, x2_8, x2_11, x2_14, x2_15, x2_18, x2_21, x2_22, x2_23, x2_27, x2_28, x2_31, x2_32, x2_33, x2_36, x2_39, x2_42, x2_43, x2_44, x2_45, x2_47, x2_50, x2_51, x2_52, x2_55, x2_58, x2_59, ↓reduceIte, Bool.false_eq_true, Nat.reduceAdd, Nat.reduceLT, Nat.reduceLeDiff, Nat.reduceSub, Nat.reduceEqDiff, Int.reduceToNat, Int.reduceEq, Int.reduceLT, Int.reduceLE, Int.reduceAdd, Int.reduceSub, zg, zI, zJ, zR, zst, zkl, zn, zcat, zok, zraw, List.length_cons, List.length_nil, Option.toList, List.nil_append, List.cons_append, true_and, and_true, if_true, if_false, ne_eq, not_true, not_false_eq_true, and_self, true_or, or_true, false_or, or_false, false_and, and_false, b_2 hc, b_3 hc, b_9 hc, b_12 hc, b_26 hc, b_40 hc, b_46 hc, b_47 hc, b_60 hc, b_62 hc, b_63 hc, b_76 hc, b_77 hc, b_90 hc, b_91 hc, b_104 hc, b_107 hc, b_114 hc, b_115 hc, b_122 hc, b_123 hc, b_131 hc, b_114 hc, r_114_0 hc, r_114_1 hc, r_114_2 hc, b_115 hc, r_115_0 hc, x_116 hc, n_116 hc, i1, et, hfull]
        have e := yl_full hw hfull (k - t)
        rw [show t + (k - t) = k by omega] at e
        have := hQ μ2 hf2
        rw [e] at this
        exact this
      · simp (disch := omega) only [x2_0, x2_1, x2_4, x2_5, x2_8, x2_11, x2_14, x2_15, x2_18, x2_21, x2_22, x2_23, x2_27, x2_28, x2_31, x2_32, x2_33, x2_36, x2_39, x2_42, x2_43, x2_44, x2_45, x2_47, x2_50, x2_51, x2_52, x2_55, x2_58, x2_59, ↓reduceIte, Bool.false_eq_true, Nat.reduceAdd, Nat.reduceLT, Nat.reduceLeDiff, Nat.reduceSub, Nat.reduceEqDiff, Int.reduceToNat, Int.reduceEq, Int.reduceLT, Int.reduceLE, Int.reduceAdd, Int.reduceSub, zg, zI, zJ, zR, zst, zkl, zn, zcat, zok, zraw, List.length_cons, List.length_nil, Option.toList, List.nil_append, List.cons_append, true_and, and_true, if_true, if_false, ne_eq, not_true, not_false_eq_true, and_self, true_or, or_true, false_or, or_false, false_and, and_false, b_2 hc, b_3 hc, b_9 hc, b_12 hc, b_26 hc, b_40 hc, b_46 hc, b_47 hc, b_60 hc, b_62 hc, b_63 hc, b_76 hc, b_77 hc, b_90 hc, b_91 hc, b_104 hc, b_107 hc, b_114 hc, b_115 hc, b_122 hc, b_123 hc, b_131 hc, b_114 hc, r_114_0 hc, r_114_1 hc, r_114_2 hc, b_115 hc, r_115_0 hc, x_116 hc, n_116 hc, i1, et, hfull, hd0]
        refine cLostIn (d := d - 1) (CX_fr h hf2 (by decide)) hwF F2 (by omega) rfl (by omega) ?_
        intro μ3 hf3 F3
        have a1 : w32 (hlO τ (ylO τ ρ seed t) + (foO τ (agF ρ (t + 1)) (lotO seed (2 * (t : Nat)) 100) (lotO seed (2 * (t : Nat) + 1) 4) (ylO τ ρ seed t) : Nat)) = hlO τ (ylO τ ρ seed (t + 1)) := by
          rw [hst]; unfold yfO at hst ⊢; exact w32_i (by omega) (by omega)
        simp (disch := omega) only [x2_0, x2_1, x2_4, x2_5, x2_8, x2_11, x2_14, x2_15, x2_18, x2_21, x2_22, x2_23, x2_27, x2_28, x2_31, x2_32, x2_33, x2_36, x2_39, x2_42, x2_43, x2_44, x2_45, x2_47, x2_50, x2_51, x2_52, x2_55, x2_58, x2_59, ↓reduceIte, Bool.false_eq_true, Nat.reduceAdd, Nat.reduceLT, Nat.reduceLeDiff, Nat.reduceSub, Nat.reduceEqDiff, Int.reduceToNat, Int.reduceEq, Int.reduceLT, Int.reduceLE, Int.reduceAdd, Int.reduceSub, zg, zI, zJ, zR, zst, zkl, zn, zcat, zok, zraw, List.length_cons, List.length_nil, Option.toList, List.nil_append, List.cons_append, true_and, and_true, if_true, if_false, ne_eq, not_true, not_false_eq_true, and_self, true_or, or_true, false_or, or_false, false_and, and_false, b_2 hc, b_3 hc, b_9 hc, b_12 hc, b_26 hc, b_40 hc, b_46 hc, b_47 hc, b_60 hc, b_62 hc, b_63 hc, b_76 hc, b_77 hc, b_90 hc, b_91 hc, b_104 hc, b_107 hc, b_114 hc, b_115 hc, b_122 hc, b_123 hc, b_131 hc, a1, w32_s]
        exact hk _ μ3 ⟨rfl, hf2.trans hf3, F3⟩
    · rintro L μ2 ⟨rfl, hf2, F2⟩
      rw [x2_25]
      simp (disch := omega) only [x2_0, x2_1, x2_4, x2_5, x2_8, x2_11, x2_14, x2_15, x2_18, x2_21, x2_22, x2_23, x2_27, x2_28, x2_31, x2_32, x2_33, x2_36, x2_39, x2_42, x2_43, x2_44, x2_45, x2_47, x2_50, x2_51, x2_52, x2_55, x2_58, x2_59, ↓reduceIte, Bool.false_eq_true, Nat.reduceAdd, Nat.reduceLT, Nat.reduceLeDiff, Nat.reduceSub, Nat.reduceEqDiff, Int.reduceToNat, Int.reduceEq, Int.reduceLT, Int.reduceLE, Int.reduceAdd, Int.reduceSub, zg, zI, zJ, zR, zst, zkl, zn, zcat, zok, zraw, List.length_cons, List.length_nil, Option.toList, List.nil_append, List.cons_append, true_and, and_true, if_true, if_false, ne_eq, not_true, not_false_eq_true, and_self, true_or, or_true, false_or, or_false, false_and, and_false, b_2 hc, b_3 hc, b_9 hc, b_12 hc, b_26 hc, b_40 hc, b_46 hc, b_47 hc, b_60 hc, b_62 hc, b_63 hc, b_76 hc, b_77 hc, b_90 hc, b_91 hc, b_104 hc, b_107 hc, b_114 hc, b_115 hc, b_122 hc, b_123 hc, b_131 hc, Int.le_refl]
      exact hQ μ2 hf2
  simp (disch := omega) only [x2_0, x2_1, x2_4, x2_5, x2_8, x2_11, x2_14, x2_15, x2_18, x2_21, x2_22, x2_23, x2_27, x2_28, x2_31, x2_32, x2_33, x2_36, x2_39, x2_42, x2_43, x2_44, x2_45, x2_47, x2_50, x2_51, x2_52, x2_55, x2_58, x2_59, ↓reduceIte, Bool.false_eq_true, Nat.reduceAdd, Nat.reduceLT, Nat.reduceLeDiff, Nat.reduceSub, Nat.reduceEqDiff, Int.reduceToNat, Int.reduceEq, Int.reduceLT, Int.reduceLE, Int.reduceAdd, Int.reduceSub, zg, zI, zJ, zR, zst, zkl, zn, zcat, zok, zraw, List.length_cons, List.length_nil, Option.toList, List.nil_append, List.cons_append, true_and, and_true, if_true, if_false, ne_eq, not_true, not_false_eq_true, and_self, true_or, or_true, false_or, or_false, false_and, and_false, b_2 hc, b_3 hc, b_9 hc, b_12 hc, b_26 hc, b_40 hc, b_46 hc, b_47 hc, b_60 hc, b_62 hc, b_63 hc, b_76 hc, b_77 hc, b_90 hc, b_91 hc, b_104 hc, b_107 hc, b_114 hc, b_115 hc, b_122 hc, b_123 hc, b_131 hc]
  exact key 0 _ μ1 (by omega) ⟨rfl, hf1.mono (by decide), TF_ag0 hwF F1⟩
def laO (τ : zT) (ρ : zF) (seed : Int) : Int := match (List.range 60).find? (fun y => decide (0 < yfO τ ρ seed y)) with
  | some y => (y : Int)
  | none => -2
theorem cFirstBad {d : Nat} {seed : Int} {x2 : zV} (h : CX θ T U τ μ) (hN : CF τ ρ 47 μ) (hd : 7 ≤ d)
    (hQ : ∀ μ', Fr KF μ μ' → Q (some (vi (laO τ ρ seed))) θ μ') : Ex d 3 0 [vr 114, vi seed, x2] [] θ μ Q := by
  have hc := h.1.1
  have hw := h.2.1
  have hd0 : 0 < d := by omega
  have hwF := hN.2.1
  simp (disch := omega) only [x3_0, x3_1, x3_4, x3_5, x3_8, x3_11, x3_14, x3_15, x3_17, x3_19, x3_22, x3_23, x3_24, x3_25, x3_28, x3_31, x3_32, x3_33, x3_36, x3_39, x3_41, ↓reduceIte, Bool.false_eq_true, Nat.reduceAdd, Nat.reduceLT, Nat.reduceLeDiff, Nat.reduceSub, Nat.reduceEqDiff, Int.reduceToNat, Int.reduceEq, Int.reduceLT, Int.reduceLE, Int.reduceAdd, Int.reduceSub, zg, zI, zJ, zR, zst, zkl, zn, zcat, zok, zraw, List.length_cons, List.length_nil, Option.toList, List.nil_append, List.cons_append, true_and, and_true, if_true, if_false, ne_eq, not_true, not_false_eq_true, and_self, true_or, or_true, false_or, or_false, false_and, and_false, b_2 hc, b_3 hc, b_9 hc, b_12 hc, b_26 hc, b_40 hc, b_46 hc, b_47 hc, b_60 hc, b_62 hc, b_63 hc, b_76 hc, b_77 hc, b_90 hc, b_91 hc, b_104 hc, b_107 hc, b_114 hc, b_115 hc, b_122 hc, b_123 hc, b_131 hc, b_114 hc, r_114_0 hc, r_114_1 hc, r_114_2 hc, b_46 hc, r_46_0 hc, r_46_1 hc, x_54 hc, r_46_2 hc, x_55 hc, r_46_3 hc, x_56 hc, r_46_4 hc, x_57 hc, r_46_5 hc, x_58 hc, r_46_6 hc, x_59 hc, hd0]
  refine cTrialF (d := d - 1) h hN ?_
  intro μ1 hf1 F1
  have key : ∀ t L μ2, t ≤ 60 → (L = [vr 114, vi seed, vi (t : Nat)] ∧ Fr KF μ μ2 ∧ TF τ (agF ρ t) (ylO τ ρ seed t) μ2 ∧ ∀ i, i < t → ¬ 0 < yfO τ ρ seed i) → Ex d 3 16 L [] θ μ2 Q := by
    refine Ex_loop (I := fun t L μ2 => L = [vr 114, vi seed, vi (t : Nat)] ∧ Fr KF μ μ2 ∧ TF τ (agF ρ t) (ylO τ ρ seed t) μ2 ∧ ∀ i, i < t → ¬ 0 < yfO τ ρ seed i) 60 ?_ ?_
    · rintro t L μ2 ht ⟨rfl, hf2, F2, hno⟩ hk
      have i1 : ¬ ((60 : Int) ≤ (t : Int)) := by omega
      rw [x3_16]
      simp (disch := omega) only [x3_0, x3_1, x3_4, x3_5, x3_8, x3_11, x3_14, x3_15, x3_17, x3_19, x3_22, x3_23, x3_24, x3_25, x3_28, x3_31, x3_32, x3_33, x3_36, x3_39, x3_41, ↓reduceIte, Bool.false_eq_true, Nat.reduceAdd, Nat.reduceLT, Nat.reduceLeDiff, Nat.reduceSub, Nat.reduceEqDiff, Int.reduceToNat, Int.reduceEq, Int.reduceLT, Int.reduceLE, Int.reduceAdd, Int.reduceSub, zg, zI, zJ, zR, zst, zkl, zn, zcat, zok, zraw, List.length_cons, List.length_nil, Option.toList, List.nil_append, List.cons_append, true_and, and_true, if_true, if_false, ne_eq, not_true, not_false_eq_true, and_self, true_or, or_true, false_or, or_false, false_and, and_false, b_2 hc, b_3 hc, b_9 hc, b_12 hc, b_26 hc, b_40 hc, b_46 hc, b_47 hc, b_60 hc, b_62 hc, b_63 hc, b_76 hc, b_77 hc, b_90 hc, b_91 hc, b_104 hc, b_107 hc, b_114 hc, b_115 hc, b_122 hc, b_123 hc, b_131 hc, b_114 hc, r_114_0 hc, r_114_1 hc, r_114_2 hc, i1, hd0]
      refine cLostIn (d := d - 1) (CX_fr h hf2 (by decide)) hwF F2 (by omega) rfl ht ?_
      intro μ3 hf3 F3
      have ey : (foO τ (agF ρ (t + 1)) (lotO seed (2 * (t : Nat)) 100) (lotO seed (2 * (t : Nat) + 1) 4) (ylO τ ρ seed t) : Nat) = yfO τ ρ seed t := rfl
      rw [ey]
      by_cases hp : 0 < yfO τ ρ seed t
      · have hp2 : ¬ yfO τ ρ seed t ≤ 0 := by omega
        simp (disch := omega) only [x3_0, x3_1, x3_4, x3_5, x3_8, x3_11, x3_14, x3_15, x3_17, x3_19, x3_22, x3_23, x3_24, x3_25, x3_28, x3_31, x3_32, x3_33, x3_36, x3_39, x3_41, ↓reduceIte, Bool.false_eq_true, Nat.reduceAdd, Nat.reduceLT, Nat.reduceLeDiff, Nat.reduceSub, Nat.reduceEqDiff, Int.reduceToNat, Int.reduceEq, Int.reduceLT, Int.reduceLE, Int.reduceAdd, Int.reduceSub, zg, zI, zJ, zR, zst, zkl, zn, zcat, zok, zraw, List.length_cons, List.length_nil, Option.toList, List.nil_append, List.cons_append, true_and, and_true, if_true, if_false, ne_eq, not_true, not_false_eq_true, and_self, true_or, or_true, false_or, or_false, false_and, and_false, b_2 hc, b_3 hc, b_9 hc, b_12 hc, b_26 hc, b_40 hc, b_46 hc, b_47 hc, b_60 hc, b_62 hc, b_63 hc, b_76 hc, b_77 hc, b_90 hc, b_91 hc, b_104 hc, b_107 hc, b_114 hc, b_115 hc, b_122 hc, b_123 hc, b_131 hc, hp2]
        have := hQ μ3 (hf2.trans hf3)
        unfold laO at this
        rw [find_at ht (fun i hi => by simp; have := hno i hi; omega) (by simp; exact hp)] at this
        exact this
      · have hp2 : yfO τ ρ seed t ≤ 0 := by omega
        simp (disch := omega) only [x3_0, x3_1, x3_4, x3_5, x3_8, x3_11, x3_14, x3_15, x3_17, x3_19, x3_22, x3_23, x3_24, x3_25, x3_28, x3_31, x3_32, x3_33, x3_36, x3_39, x3_41, ↓reduceIte, Bool.false_eq_true, Nat.reduceAdd, Nat.reduceLT, Nat.reduceLeDiff, Nat.reduceSub, Nat.reduceEqDiff, Int.reduceToNat, Int.reduceEq, Int.reduceLT, Int.reduceLE, Int.reduceAdd, Int.reduceSub, zg, zI, zJ, zR, zst, zkl, zn, zcat, zok, zraw, List.length_cons, List.length_nil, Option.toList, List.nil_append, List.cons_append, true_and, and_true, if_true, if_false, ne_eq, not_true, not_false_eq_true, and_self, true_or, or_true, false_or, or_false, false_and, and_false, b_2 hc, b_3 hc, b_9 hc, b_12 hc, b_26 hc, b_40 hc, b_46 hc, b_47 hc, b_60 hc, b_62 hc, b_63 hc, b_76 hc, b_77 hc, b_90 hc, b_91 hc, b_104 hc, b_107 hc, b_114 hc, b_115 hc, b_122 hc, b_123 hc, b_131 hc, hp2, w32_s]
        apply hk
        refine ⟨rfl, hf2.trans hf3, F3, ?_⟩
        intro i hi
        by_cases hit : i = t
        · rw [hit]; exact hp
        · exact hno i (by omega)
    · rintro L μ2 ⟨rfl, hf2, F2, hno⟩
      have i1 : ((60 : Int) ≤ ((60 : Nat) : Int)) := by decide
      rw [x3_16]
      simp (disch := omega) only [x3_0, x3_1, x3_4, x3_5, x3_8, x3_11, x3_14, x3_15, x3_17, x3_19, x3_22, x3_23, x3_24, x3_25, x3_28, x3_31, x3_32, x3_33, x3_36, x3_39, x3_41, ↓reduceIte, Bool.false_eq_true, Nat.reduceAdd, Nat.reduceLT, Nat.reduceLeDiff, Nat.reduceSub, Nat.reduceEqDiff, Int.reduceToNat, Int.reduceEq, Int.reduceLT, Int.reduceLE, Int.reduceAdd, Int.reduceSub, zg, zI, zJ, zR, zst, zkl, zn, zcat, zok, zraw, List.length_cons, List.length_nil, Option.toList, List.nil_append, List.cons_append, true_and, and_true, if_true, if_false, ne_eq, not_true, not_false_eq_true, and_self, true_or, or_true, false_or, or_false, false_and, and_false, b_2 hc, b_3 hc, b_9 hc, b_12 hc, b_26 hc, b_40 hc, b_46 hc, b_47 hc, b_60 hc, b_62 hc, b_63 hc, b_76 hc, b_77 hc, b_90 hc, b_91 hc, b_104 hc, b_107 hc, b_114 hc, b_115 hc, b_122 hc, b_123 hc, b_131 hc, i1]
      have := hQ μ2 hf2
      unfold laO at this
      rw [find_no (fun i hi => by simp; have := hno i hi; omega)] at this
      exact this
  simp (disch := omega) only [x3_0, x3_1, x3_4, x3_5, x3_8, x3_11, x3_14, x3_15, x3_17, x3_19, x3_22, x3_23, x3_24, x3_25, x3_28, x3_31, x3_32, x3_33, x3_36, x3_39, x3_41, ↓reduceIte, Bool.false_eq_true, Nat.reduceAdd, Nat.reduceLT, Nat.reduceLeDiff, Nat.reduceSub, Nat.reduceEqDiff, Int.reduceToNat, Int.reduceEq, Int.reduceLT, Int.reduceLE, Int.reduceAdd, Int.reduceSub, zg, zI, zJ, zR, zst, zkl, zn, zcat, zok, zraw, List.length_cons, List.length_nil, Option.toList, List.nil_append, List.cons_append, true_and, and_true, if_true, if_false, ne_eq, not_true, not_false_eq_true, and_self, true_or, or_true, false_or, or_false, false_and, and_false, b_2 hc, b_3 hc, b_9 hc, b_12 hc, b_26 hc, b_40 hc, b_46 hc, b_47 hc, b_60 hc, b_62 hc, b_63 hc, b_76 hc, b_77 hc, b_90 hc, b_91 hc, b_104 hc, b_107 hc, b_114 hc, b_115 hc, b_122 hc, b_123 hc, b_131 hc]
  exact key 0 _ μ1 (by omega) ⟨rfl, hf1.mono (by decide), TF_ag0 hwF F1, fun i hi => absurd hi (by omega)⟩
end FT
