/-! NUMBERS WHILE THE CONSTRUCTORS RUN (printed by genctor.py) -/
def SHL (L : Nat) : List (Nat ⊕ (FieldType × Nat)) := .inl 99 :: .inr (.int, L) :: SH.drop 2
/-- references in the order of their making -/
def RTm : List (Nat × Nat × Nat) := [(3, 0, 4), (3, 1, 5), (3, 2, 6), (3, 4, 7), (3, 5, 8), (9, 0, 10), (9, 1, 11), (12, 0, 13), (12, 1, 14), (12, 2, 15), (12, 3, 16), (12, 4, 17), (12, 5, 18), (12, 6, 19), (12, 7, 20), (12, 8, 21), (12, 9, 22), (12, 10, 23), (12, 11, 24), (12, 12, 25), (26, 0, 27), (26, 1, 28), (26, 2, 29), (26, 3, 30), (26, 4, 31), (26, 5, 32), (26, 6, 33), (26, 7, 34), (26, 8, 35), (26, 9, 36), (26, 10, 37), (26, 11, 38), (26, 12, 39), (40, 0, 41), (40, 1, 42), (40, 2, 43), (40, 10, 44), (40, 11, 45), (40, 9, 9), (40, 8, 12), (48, 0, 49), (48, 1, 50), (48, 2, 51), (48, 3, 52), (48, 4, 53), (47, 0, 48), (46, 0, 47), (46, 1, 54), (46, 2, 55), (46, 3, 56), (46, 4, 57), (46, 5, 58), (46, 6, 59), (2, 0, 3), (60, 1, 3), (60, 2, 26), (2, 1, 60), (2, 2, 9), (2, 3, 40), (2, 4, 46), (2, 5, 61), (64, 0, 65), (64, 1, 66), (64, 2, 67), (64, 3, 68), (64, 4, 69), (63, 0, 64), (62, 0, 63), (62, 1, 70), (62, 2, 71), (62, 3, 72), (62, 4, 73), (62, 5, 74), (62, 6, 75), (61, 0, 62), (78, 0, 79), (78, 1, 80), (78, 2, 81), (78, 3, 82), (78, 4, 83), (77, 0, 78), (76, 0, 77), (76, 1, 84), (76, 2, 85), (76, 3, 86), (76, 4, 87), (76, 5, 88), (76, 6, 89), (61, 1, 76), (92, 0, 93), (92, 1, 94), (92, 2, 95), (92, 3, 96), (92, 4, 97), (91, 0, 92), (90, 0, 91), (90, 1, 98), (90, 2, 99), (90, 3, 100), (90, 4, 101), (90, 5, 102), (90, 6, 103), (61, 2, 90), (104, 0, 105), (104, 1, 106), (108, 0, 109), (108, 1, 110), (108, 2, 111), (108, 3, 112), (108, 4, 113), (107, 0, 108), (104, 8, 107), (104, 6, 40), (104, 7, 46), (2, 6, 104), (116, 0, 117), (116, 1, 118), (116, 2, 119), (116, 3, 120), (116, 4, 121), (115, 0, 116), (114, 2, 115), (114, 0, 40), (114, 1, 46), (2, 7, 114), (124, 0, 125), (124, 1, 126), (124, 2, 127), (124, 3, 128), (124, 4, 129), (123, 0, 124), (122, 7, 123), (122, 8, 130), (122, 5, 40), (122, 6, 46), (2, 8, 122), (131, 7, 132), (131, 8, 133), (131, 9, 134), (131, 10, 135), (131, 11, 136), (131, 12, 137), (2, 9, 131), (2, 10, 12), (2, 11, 26), (40, 8, 12), (138, 1, 139), (138, 3, 140), (138, 5, 141), (138, 6, 142), (138, 7, 143), (138, 8, 144), (138, 9, 145), (138, 21, 146), (138, 22, 147), (138, 23, 148), (138, 24, 149), (138, 25, 150), (138, 26, 151), (138, 27, 152), (138, 28, 153), (138, 29, 154), (138, 30, 155), (138, 31, 156), (138, 32, 157), (138, 33, 158), (138, 34, 159), (138, 35, 160), (138, 37, 161), (138, 38, 162), (138, 39, 163), (138, 40, 164), (138, 41, 165), (138, 42, 166), (138, 44, 167), (138, 45, 168), (138, 46, 169), (138, 48, 170), (138, 49, 171), (138, 51, 172), (138, 52, 173), (138, 53, 174), (138, 54, 175), (138, 55, 176), (138, 56, 177), (138, 58, 178), (138, 60, 179), (138, 61, 180), (138, 63, 181), (138, 64, 182), (138, 65, 183), (138, 66, 184), (138, 67, 185), (138, 68, 186), (138, 70, 187), (138, 71, 188), (138, 73, 189), (138, 74, 190), (138, 75, 191), (138, 76, 192), (138, 79, 193), (138, 80, 194), (138, 81, 195), (138, 82, 196), (138, 83, 197), (138, 84, 198), (138, 85, 199), (138, 86, 200), (138, 87, 201), (138, 88, 202), (138, 89, 203), (138, 90, 204), (138, 91, 205), (138, 92, 206), (138, 93, 207), (138, 94, 208), (138, 95, 209), (138, 96, 210), (138, 97, 211), (138, 98, 212), (138, 99, 213)]
def lk (l : List (Nat × Nat × Nat)) : Nat → Nat → Option Nat := fun a j => match l.reverse.find? (fun e => e.1 == a && e.2.1 == j) with
  | some e => some e.2.2
  | none => none
def TZ (L n k : Nat) : zS := ((SHL L).take n, lk (RTm.take k))
def Zm (n : Nat) (μ : zM) : Prop := ∀ b j, n ≤ b → μ b j = 0
section TZ
variable {L n k : Nat} {μ : zM}
theorem SHL_len (L : Nat) : (SHL L).length = 214 := by
  show (SH.drop 2).length + 2 = 214
  have : (SH.drop 2).length = 212 := by decide +kernel
  omega
theorem SHL_at (L : Nat) {a : Nat} (h : 2 ≤ a) : (SHL L)[a]? = SH[a]? := by
  obtain ⟨b, rfl⟩ : ∃ b, a = b + 2 := ⟨a - 2, by omega⟩
  show (SH.drop 2)[b]? = _
  rw [List.getElem?_drop]
  congr 1; omega
theorem TZ_len (L k : Nat) {n : Nat} (h : n ≤ 214) : (TZ L n k).1.length = n := by
  show ((SHL L).take n).length = n
  rw [List.length_take, SHL_len]; omega
theorem TZ_at (L k : Nat) {n a : Nat} (h2 : 2 ≤ a) (h : a < n) : (TZ L n k).1[a]? = SH[a]? := by
  show ((SHL L).take n)[a]? = _
  rw [List.getElem?_take_of_lt h, SHL_at L h2]
theorem TZ_ob (L k : Nat) {n a c : Nat} (h2 : 2 ≤ a) (hs : SH[a]? = some (.inl c)) (h : a < n) : zob (TZ L n k) a c = true := zob_of (by rw [TZ_at L k h2 h, hs])
theorem lk_zr {l : List (Nat × Nat × Nat)} {n : Nat} (h : l.all (fun e => decide (e.1 < n)) = true) : zr0 (lk l) n = lk l := by
  funext b j
  show (if n ≤ b then none else lk l b j) = lk l b j
  by_cases hb : n ≤ b
  · rw [if_pos hb]
    unfold lk
    have : l.reverse.find? (fun e => e.1 == b && e.2.1 == j) = none := by
      rw [List.find?_eq_none]
      intro e he
      have := List.all_eq_true.mp h e (List.mem_reverse.mp he)
      simp at this ⊢
      intro h1; omega
    rw [this]
  · rw [if_neg hb]
theorem take_s {α : Type} {l : List α} {n : Nat} {x : α} (h : l[n]? = some x) : l.take n ++ [x] = l.take (n + 1) := by
  rw [List.take_add_one, h]; rfl
theorem TZ_nw (L : Nat) {n k : Nat} {x : Nat ⊕ (FieldType × Nat)} (h2 : 2 ≤ n) (hs : SH[n]? = some x) (hk : (RTm.take k).all (fun e => decide (e.1 < n)) = true) : ((TZ L n k).1 ++ [x], zr0 (TZ L n k).2 n) = TZ L (n + 1) k := by
  show ((SHL L).take n ++ [x], zr0 (lk (RTm.take k)) n) = ((SHL L).take (n + 1), lk (RTm.take k))
  rw [lk_zr hk, take_s (by rw [SHL_at L h2, hs])]
theorem lk_ur {l : List (Nat × Nat × Nat)} {a j b : Nat} : ur (lk l) a j (some b) = lk (l ++ [(a, j, b)]) := by
  funext c i
  show (if c = a ∧ i = j then some b else lk l c i) = _
  unfold lk
  rw [List.reverse_append, List.reverse_singleton, List.singleton_append, List.find?_cons]
  by_cases h : c = a ∧ i = j
  · rw [if_pos h, h.1, h.2]
    simp
  · rw [if_neg h]
    have hb : (a == c && j == i) = false := by
      simp
      intro h1 h2
      exact h ⟨h1.symm, h2.symm⟩
    simp only [hb]
theorem TZ_ur (L n : Nat) {k a j b : Nat} (h : RTm[k]? = some (a, j, b)) : ((TZ L n k).1, ur (TZ L n k).2 a j (some b)) = TZ L n (k + 1) := by
  show ((SHL L).take n, ur (lk (RTm.take k)) a j (some b)) = ((SHL L).take n, lk (RTm.take (k + 1)))
  rw [lk_ur, take_s h]
theorem TZ_mna (L : Nat) {n k : Nat} (h2 : 2 ≤ n) (hn : n + 6 ≤ 214) (s0 : SH[n]? = some (.inr (.array .int, 5))) (s1 : SH[n + 1]? = some (.inr (.int, 36))) (s2 : SH[n + 2]? = some (.inr (.int, 36))) (s3 : SH[n + 3]? = some (.inr (.int, 36))) (s4 : SH[n + 4]? = some (.inr (.int, 36))) (s5 : SH[n + 5]? = some (.inr (.int, 36)))
    (hk : (RTm.take k).all (fun e => decide (e.1 < n)) = true) (r0 : RTm[k]? = some (n, 0, n + 1)) (r1 : RTm[k + 1]? = some (n, 1, n + 2)) (r2 : RTm[k + 2]? = some (n, 2, n + 3)) (r3 : RTm[k + 3]? = some (n, 3, n + 4)) (r4 : RTm[k + 4]? = some (n, 4, n + 5)) :
    ((TZ L n k).1 ++ (.inr (.array .int, 5) :: List.replicate 5 (.inr (.int, 36))), fun b j => if n ≤ b then (if b = n ∧ j < 5 then some (b + 1 + j) else none) else (TZ L n k).2 b j) = TZ L (n + 6) (k + 5) := by
  have e1 : (SHL L).take n ++ (.inr (.array .int, 5) :: List.replicate 5 (.inr (.int, 36))) = (SHL L).take (n + 6) := by
    rw [← take_s (n := n + 5) (by rw [SHL_at L (by omega), s5]), ← take_s (n := n + 4) (by rw [SHL_at L (by omega), s4]), ← take_s (n := n + 3) (by rw [SHL_at L (by omega), s3]), ← take_s (n := n + 2) (by rw [SHL_at L (by omega), s2]), ← take_s (n := n + 1) (by rw [SHL_at L (by omega), s1]), ← take_s (n := n) (by rw [SHL_at L (by omega), s0])]
    simp only [List.append_assoc, List.cons_append, List.nil_append]
    rfl
  have e2 : lk (RTm.take (k + 5)) = ur (ur (ur (ur (ur (lk (RTm.take k)) n 0 (some (n + 1))) n 1 (some (n + 2))) n 2 (some (n + 3))) n 3 (some (n + 4))) n 4 (some (n + 5)) := by
    rw [← take_s (n := k + 4) r4, ← lk_ur, ← take_s (n := k + 3) r3, ← lk_ur, ← take_s (n := k + 2) r2, ← lk_ur, ← take_s (n := k + 1) r1, ← lk_ur, ← take_s (n := k) r0, ← lk_ur]
  have e3 : ∀ b j, n ≤ b → lk (RTm.take k) b j = none := fun b j hb => by
    rw [← lk_zr hk]
    show (if n ≤ b then none else lk (RTm.take k) b j) = none
    rw [if_pos hb]
  show ((SHL L).take n ++ _, _) = ((SHL L).take (n + 6), lk (RTm.take (k + 5)))
  rw [e1, e2]
  congr 1
  funext b j
  show (if n ≤ b then (if b = n ∧ j < 5 then some (b + 1 + j) else none) else lk (RTm.take k) b j) = _
  unfold ur
  by_cases hb : n ≤ b
  · rw [if_pos hb, e3 b j hb]
    by_cases e : b = n
    · subst e
      obtain q | q | q | q | q | q : j = 0 ∨ j = 1 ∨ j = 2 ∨ j = 3 ∨ j = 4 ∨ 5 ≤ j := by omega
      · subst q; simp
      · subst q; simp
      · subst q; simp
      · subst q; simp
      · subst q; simp
      · rw [if_neg (by omega), if_neg (by omega), if_neg (by omega), if_neg (by omega), if_neg (by omega), if_neg (by omega)]
    · rw [if_neg (by omega), if_neg (by omega), if_neg (by omega), if_neg (by omega), if_neg (by omega), if_neg (by omega)]
  · rw [if_neg hb, if_neg (by omega), if_neg (by omega), if_neg (by omega), if_neg (by omega), if_neg (by omega)]
theorem Zm_z {m n : Nat} (h : Zm m μ) (hn : m ≤ n) : zm0 μ n = μ := by
  funext b j
  show (if n ≤ b then 0 else μ b j) = μ b j
  by_cases hb : n ≤ b
  · rw [if_pos hb, h b j (by omega)]
  · rw [if_neg hb]
theorem Zm_fr {m : Nat} {A : List Nat} {μ' : zM} (h : Zm m μ) (f : Fr A μ μ') (hA : ∀ a ∈ A, a < m) : Zm m μ' := fun b j hb => by
  rw [f b (fun hh => by have := hA b hh; omega)]; exact h b j hb
theorem Zm.mono {m m' : Nat} (h : Zm m μ) (hm : m ≤ m') : Zm m' μ := fun b j hb => h b j (by omega)
end TZ
