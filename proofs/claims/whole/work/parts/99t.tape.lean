/-! THE CONSTRUCTORS: Tape and its words -/
def zsL : List Nat := [114, 111, 111, 102, 32, 119, 101, 105, 103, 104, 32, 108, 97, 112, 32, 110, 97, 105, 108, 32, 99, 108, 105, 112, 32, 121, 101, 97, 114, 115, 32, 109, 111, 115, 115, 32, 110, 97, 105, 108, 101, 100, 32, 99, 108, 105, 112, 112, 101, 100, 32, 119, 97, 114, 110, 32, 115, 117, 99, 107, 32, 112, 114, 101, 115, 115, 32, 104, 111, 108, 100, 115, 32, 102, 97, 114, 32, 100, 111, 111, 114, 32, 111, 112, 101, 110, 32, 105, 102, 32, 111, 114, 32, 97, 110, 100, 32, 110, 111, 116, 32, 114, 111, 119, 32, 99, 111, 108, 32, 116, 104, 105, 114, 100, 32, 101, 100, 103, 101, 32, 98, 97, 114, 101, 32, 104, 111, 108, 101, 115, 32, 105, 110, 108, 101, 116, 32, 111, 117, 116, 108, 101, 116, 32, 103, 117, 115, 116, 32, 119, 97, 121, 32, 97, 103, 101, 32, 103, 114, 111, 119, 110, 32, 110, 97, 105, 108, 115, 32]
theorem zs_eq : zStr = zsL := by decide +kernel
/-- behind t letters: how many words, and the words -/
def wsO : Nat → Nat × (Nat → Int)
  | 0 => (0, fun _ => 0)
  | t + 1 => if zsL.getD t 0 = 32 then ((wsO t).1 + 1, (wsO t).2) else ((wsO t).1, zup (wsO t).2 (wsO t).1 ((wsO t).2 (wsO t).1 * 32 + (((zsL.getD t 0 : Nat) : Int) - 96)))
theorem ws_end : ∀ k, k < 33 → (wsO 169).2 k = wv k := by decide +kernel
theorem ws_k : ∀ t, t < 169 → (wsO t).1 < 33 := by decide +kernel
theorem ws_c : ∀ t, t < 169 → zsL.getD t 0 = 32 ∨ (97 ≤ zsL.getD t 0 ∧ zsL.getD t 0 ≤ 122) := by decide +kernel
theorem zs_l9 : ((zsL.length : Nat) : Int) = 169 := by decide +kernel
theorem ws_v : ∀ t, t < 169 → 0 ≤ (wsO t).2 (wsO t).1 ∧ (wsO t).2 (wsO t).1 < 72057594037927936 := by decide +kernel
theorem ws_s (t : Nat) : wsO (t + 1) = if zsL.getD t 0 = 32 then ((wsO t).1 + 1, (wsO t).2) else ((wsO t).1, zup (wsO t).2 (wsO t).1 ((wsO t).2 (wsO t).1 * 32 + (((zsL.getD t 0 : Nat) : Int) - 96))) := rfl
theorem ws_0 : wsO 0 = (0, fun _ => 0) := rfl
theorem ws_all : ∃ W : Nat → Nat × (Nat → Int), W 0 = (0, fun _ => 0) ∧ (∀ t, W (t + 1) = if zsL.getD t 0 = 32 then ((W t).1 + 1, (W t).2) else ((W t).1, zup (W t).2 (W t).1 ((W t).2 (W t).1 * 32 + (((zsL.getD t 0 : Nat) : Int) - 96)))) ∧ (∀ k, k < 33 → (W 169).2 k = wv k) ∧ (∀ t, t < 169 → (W t).1 < 33) ∧ ∀ t, t < 169 → 0 ≤ (W t).2 (W t).1 ∧ (W t).2 (W t).1 < 72057594037927936 :=
  ⟨wsO, ws_0, ws_s, ws_end, ws_k, ws_v⟩
section TP
variable {θ : zS} {L d : Nat} {μ : zM} {Q : Option zV → zS → zM → Prop}
theorem eWl (d : Nat) (v c : Int) (hv : 0 ≤ v ∧ v < 72057594037927936) (hc : 97 ≤ c ∧ c ≤ 122) (θ : zS) (μ : zM) (Q : Option zV → zS → zM → Prop) : Ex d 81 0 [vl v, vU, vi c] [] θ μ Q = Q (some (vl (v * 32 + (c - 96)))) θ μ := by
  have a1 : -9223372036854775808 ≤ v * 32 := by omega
  have a2 : v * 32 ≤ 9223372036854775807 := by omega
  have b1 : -9223372036854775808 ≤ v * 32 + c := by omega
  have b2 : v * 32 + c ≤ 9223372036854775807 := by omega
  have c1 : -9223372036854775808 ≤ v * 32 + c - 97 := by omega
  have c2 : v * 32 + c - 97 ≤ 9223372036854775807 := by omega
  have d1 : -9223372036854775808 ≤ v * 32 + (c - 96) := by omega
  have d2 : v * 32 + (c - 96) ≤ 9223372036854775807 := by omega
  have e : v * 32 + c - 97 + 1 = v * 32 + (c - 96) := by omega
  simp only [x81_0, x81_1, x81_4, x81_5, x81_6, x81_7, x81_8, x81_11, x81_12, x81_13, x81_14, ↓reduceIte, Bool.false_eq_true, Nat.reduceAdd, Nat.reduceLT, Nat.reduceLeDiff, Nat.reduceSub, Nat.reduceEqDiff, Int.reduceToNat, Int.reduceEq, Int.reduceLT, Int.reduceLE, Int.reduceAdd, Int.reduceSub, zg, zI, zJ, zR, zst, zkl, zn, zcat, zok, zraw, List.length_cons, List.length_nil, Option.toList, List.nil_append, List.cons_append, true_and, and_true, if_true, if_false, ne_eq, not_true, not_false_eq_true, and_self, true_or, or_true, false_or, or_false, false_and, and_false, w64_i a1 a2, w64_i b1 b2, w64_i c1 c2, e, w64_i d1 d2]
theorem i_72_3 {x1 x2 x3 : zV} (hμ : Zm 4 μ) : Ex d 72 0 [vr 3, x1, x2, x3] [] (TZ L 4 0) μ Q = Ex d 72 52 [vr 3, vi 0, vi 0, x3] [] (TZ L 9 5) μ Q := by
  simp only [x72_0, x72_1, x72_4, x72_5, x72_8, x72_10, x72_13, x72_14, x72_17, x72_19, x72_22, x72_23, x72_26, x72_28, x72_31, x72_32, x72_35, x72_37, x72_40, x72_41, x72_43, x72_45, x72_48, x72_49, x72_50, x72_51, x72_53, x72_55, x72_58, x72_61, x72_62, x72_64, x72_67, x72_69, x72_70, x72_73, x72_74, x72_75, x72_77, x72_80, x72_83, x72_86, x72_87, x72_90, x72_91, x72_92, x72_95, x72_96, x72_97, x72_98, x72_101, x72_102, x72_105, x72_108, ↓reduceIte, Bool.false_eq_true, Nat.reduceAdd, Nat.reduceLT, Nat.reduceLeDiff, Nat.reduceSub, Nat.reduceEqDiff, Int.reduceToNat, Int.reduceEq, Int.reduceLT, Int.reduceLE, Int.reduceAdd, Int.reduceSub, zg, zI, zJ, zR, zst, zkl, zn, zcat, zok, zraw, List.length_cons, List.length_nil, Option.toList, List.nil_append, List.cons_append, true_and, and_true, if_true, if_false, ne_eq, not_true, not_false_eq_true, and_self, true_or, or_true, false_or, or_false, false_and, and_false, TZ_len, Zm_z hμ, nw_4, nw_5, nw_6, nw_7, nw_8, rf_0, rf_1, rf_2, rf_3, rf_4, ob_3]
theorem cTape {x3 : zV} (hd : 0 < d) (h8 : ∀ k, μ 8 k = 0) (hb : zob θ 3 7 = true) (hr : θ.2 3 5 = some 8) (hx : θ.1[8]? = some (.inr (.long, 33))) (hQ : ∀ μ', Fr [8] μ μ' → CWd μ' → Q none θ μ') : Ex d 72 52 [vr 3, vi 0, vi 0, x3] [] θ μ Q := by
  obtain ⟨W, hW0, hWs, hWe, hWk, hWv⟩ := ws_all
  have key : ∀ t L μ1, t ≤ 169 → (∃ y3 : zV, L = [vr 3, vi ((W t).1 : Nat), vi (t : Nat), y3] ∧ Fr [8] μ μ1 ∧ μ1 8 = (W t).2) → Ex d 72 52 L [] θ μ1 Q := by
    refine Ex_loop (I := fun t L μ1 => ∃ y3 : zV, L = [vr 3, vi ((W t).1 : Nat), vi (t : Nat), y3] ∧ Fr [8] μ μ1 ∧ μ1 8 = (W t).2) 169 ?_ ?_
    · rintro t L μ1 ht ⟨y3, rfl, f, h8⟩ hk
      have hk33 := hWk t ht
      have hv := hWv t ht
      have hc := ws_c t ht
      have es := hWs t
      have hk' := fun L μ2 h => hk L μ2 h
      rw [es] at hk'
      generalize W t = w at h8 hk33 hv hk' ⊢
      obtain ⟨k, row⟩ := w
      simp only at h8 hk33 hv hk'
      obtain ⟨c, hc0⟩ : ∃ c, zsL.getD t 0 = c := ⟨_, rfl⟩
      rw [hc0] at hc hk'
      have c1 : ¬ (169 : Int) ≤ (t : Int) := by omega
      have c3 : (t : Int) < 169 := by omega
      have c2 : ¬ (33 : Int) ≤ (k : Int) := by omega
      have i1 : (0 : Int) ≤ (t : Int) := by omega
      have j1 : (0 : Int) ≤ (k : Int) := by omega
      have j2 : (k : Int) < 33 := by omega
      have w1 : t < 2147483647 := by omega
      have w2 : k < 2147483647 := by omega
      rw [x72_52]
      by_cases e : c = 32
      · subst e
        rw [if_pos rfl] at hk'
        simp only [x72_0, x72_1, x72_4, x72_5, x72_8, x72_10, x72_13, x72_14, x72_17, x72_19, x72_22, x72_23, x72_26, x72_28, x72_31, x72_32, x72_35, x72_37, x72_40, x72_41, x72_43, x72_45, x72_48, x72_49, x72_50, x72_51, x72_53, x72_55, x72_58, x72_61, x72_62, x72_64, x72_67, x72_69, x72_70, x72_73, x72_74, x72_75, x72_77, x72_80, x72_83, x72_86, x72_87, x72_90, x72_91, x72_92, x72_95, x72_96, x72_97, x72_98, x72_101, x72_102, x72_105, x72_108, ↓reduceIte, Bool.false_eq_true, Nat.reduceAdd, Nat.reduceLT, Nat.reduceLeDiff, Nat.reduceSub, Nat.reduceEqDiff, Int.reduceToNat, Int.reduceEq, Int.reduceLT, Int.reduceLE, Int.reduceAdd, Int.reduceSub, zg, zI, zJ, zR, zst, zkl, zn, zcat, zok, zraw, List.length_cons, List.length_nil, Option.toList, List.nil_append, List.cons_append, true_and, and_true, if_true, if_false, ne_eq, not_true, not_false_eq_true, and_self, true_or, or_true, false_or, or_false, false_and, and_false, zs_eq, zs_l9, c1, c2, c3, i1, hc0, Int.toNat_natCast, show ((32 : Nat) : Int) = 32 from rfl, w32_s w1, w32_s w2]
        exact hk' _ _ ⟨_, rfl, f, h8⟩
      · rw [if_neg e] at hk'
        have e' : ¬ (c : Int) = 32 := by omega
        have hc1 : 97 ≤ (c : Int) ∧ (c : Int) ≤ 122 := by omega
        have e8 : μ1 8 k = row k := by rw [h8]
        simp only [x72_0, x72_1, x72_4, x72_5, x72_8, x72_10, x72_13, x72_14, x72_17, x72_19, x72_22, x72_23, x72_26, x72_28, x72_31, x72_32, x72_35, x72_37, x72_40, x72_41, x72_43, x72_45, x72_48, x72_49, x72_50, x72_51, x72_53, x72_55, x72_58, x72_61, x72_62, x72_64, x72_67, x72_69, x72_70, x72_73, x72_74, x72_75, x72_77, x72_80, x72_83, x72_86, x72_87, x72_90, x72_91, x72_92, x72_95, x72_96, x72_97, x72_98, x72_101, x72_102, x72_105, x72_108, ↓reduceIte, Bool.false_eq_true, Nat.reduceAdd, Nat.reduceLT, Nat.reduceLeDiff, Nat.reduceSub, Nat.reduceEqDiff, Int.reduceToNat, Int.reduceEq, Int.reduceLT, Int.reduceLE, Int.reduceAdd, Int.reduceSub, zg, zI, zJ, zR, zst, zkl, zn, zcat, zok, zraw, List.length_cons, List.length_nil, Option.toList, List.nil_append, List.cons_append, true_and, and_true, if_true, if_false, ne_eq, not_true, not_false_eq_true, and_self, true_or, or_true, false_or, or_false, false_and, and_false, zs_eq, zs_l9, c1, c2, c3, i1, hc0, e', Int.toNat_natCast, hb, hr, zix_T hx j1 j2, e8, eWl _ _ _ hv hc1, hd, ua_eq, w32_s w1]
        exact hk' _ _ ⟨_, rfl, f.trans (Fr.us (by simp) Fr.refl), by rw [us_same, h8]⟩
    · rintro L μ1 ⟨y3, rfl, f, h8⟩
      rw [x72_52]
      simp only [x72_0, x72_1, x72_4, x72_5, x72_8, x72_10, x72_13, x72_14, x72_17, x72_19, x72_22, x72_23, x72_26, x72_28, x72_31, x72_32, x72_35, x72_37, x72_40, x72_41, x72_43, x72_45, x72_48, x72_49, x72_50, x72_51, x72_53, x72_55, x72_58, x72_61, x72_62, x72_64, x72_67, x72_69, x72_70, x72_73, x72_74, x72_75, x72_77, x72_80, x72_83, x72_86, x72_87, x72_90, x72_91, x72_92, x72_95, x72_96, x72_97, x72_98, x72_101, x72_102, x72_105, x72_108, ↓reduceIte, Bool.false_eq_true, Nat.reduceAdd, Nat.reduceLT, Nat.reduceLeDiff, Nat.reduceSub, Nat.reduceEqDiff, Int.reduceToNat, Int.reduceEq, Int.reduceLT, Int.reduceLE, Int.reduceAdd, Int.reduceSub, zg, zI, zJ, zR, zst, zkl, zn, zcat, zok, zraw, List.length_cons, List.length_nil, Option.toList, List.nil_append, List.cons_append, true_and, and_true, if_true, if_false, ne_eq, not_true, not_false_eq_true, and_self, true_or, or_true, false_or, or_false, false_and, and_false, zs_eq, zs_l9, show ((169 : Nat) : Int) = 169 from rfl, Int.le_refl]
      exact hQ μ1 f (fun k hk => by rw [h8, hWe k hk])
  refine key 0 _ _ (Nat.zero_le _) ⟨x3, by rw [hW0]; rfl, Fr.refl, ?_⟩
  rw [hW0]
  funext k
  exact h8 k
end TP
