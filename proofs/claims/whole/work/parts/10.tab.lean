/-! NUMBERS AFTER THE CONSTRUCTORS (printed by gen10.py) -/
def SH : List (Nat ⊕ (FieldType × Nat)) := [.inl 99, .inr (.int, 6), .inl 11, .inl 7, .inr (.int, 401), .inr (.int, 401), .inr (.long, 401), .inr (.byte, 2000), .inr (.long, 33), .inl 2, .inr (.int, 13), .inr (.int, 32), .inl 9, .inr (.int, 9), .inr (.int, 6), .inr (.int, 6), .inr (.long, 6), .inr (.int, 400), .inr (.int, 4), .inr (.int, 4), .inr (.int, 18), .inr (.int, 18), .inr (.int, 3), .inr (.int, 36), .inr (.int, 36), .inr (.int, 36), .inl 9, .inr (.int, 9), .inr (.int, 6), .inr (.int, 6), .inr (.long, 6), .inr (.int, 400), .inr (.int, 4), .inr (.int, 4), .inr (.int, 18), .inr (.int, 18), .inr (.int, 3), .inr (.int, 36), .inr (.int, 36), .inr (.int, 36), .inl 1, .inr (.int, 36), .inr (.int, 36), .inr (.int, 36), .inr (.int, 36), .inr (.int, 36), .inl 6, .inl 5, .inr (.array .int, 5), .inr (.int, 36), .inr (.int, 36), .inr (.int, 36), .inr (.int, 36), .inr (.int, 36), .inr (.int, 480), .inr (.int, 8), .inr (.int, 8), .inr (.int, 4), .inr (.int, 4), .inr (.int, 4), .inl 4, .inr (.object "GaleRoof$Scene", 3), .inl 6, .inl 5, .inr (.array .int, 5), .inr (.int, 36), .inr (.int, 36), .inr (.int, 36), .inr (.int, 36), .inr (.int, 36), .inr (.int, 480), .inr (.int, 8), .inr (.int, 8), .inr (.int, 4), .inr (.int, 4), .inr (.int, 4), .inl 6, .inl 5, .inr (.array .int, 5), .inr (.int, 36), .inr (.int, 36), .inr (.int, 36), .inr (.int, 36), .inr (.int, 36), .inr (.int, 480), .inr (.int, 8), .inr (.int, 8), .inr (.int, 4), .inr (.int, 4), .inr (.int, 4), .inl 6, .inl 5, .inr (.array .int, 5), .inr (.int, 36), .inr (.int, 36), .inr (.int, 36), .inr (.int, 36), .inr (.int, 36), .inr (.int, 480), .inr (.int, 8), .inr (.int, 8), .inr (.int, 4), .inr (.int, 4), .inr (.int, 4), .inl 3, .inr (.int, 2), .inr (.int, 12), .inl 5, .inr (.array .int, 5), .inr (.int, 36), .inr (.int, 36), .inr (.int, 36), .inr (.int, 36), .inr (.int, 36), .inl 0, .inl 5, .inr (.array .int, 5), .inr (.int, 36), .inr (.int, 36), .inr (.int, 36), .inr (.int, 36), .inr (.int, 36), .inl 8, .inl 5, .inr (.array .int, 5), .inr (.int, 36), .inr (.int, 36), .inr (.int, 36), .inr (.int, 36), .inr (.int, 36), .inr (.int, 480), .inl 10, .inr (.int, 60), .inr (.int, 60), .inr (.int, 60), .inr (.int, 60), .inr (.int, 60), .inr (.int, 60), .inl 12, .inr (.byte, 2000), .inr (.byte, 2000), .inr (.int, 403), .inr (.int, 403), .inr (.int, 403), .inr (.long, 403), .inr (.long, 33), .inr (.long, 6), .inr (.int, 2), .inr (.int, 2), .inr (.int, 2), .inr (.int, 12), .inr (.int, 6), .inr (.int, 36), .inr (.int, 36), .inr (.boolean, 8), .inr (.int, 8), .inr (.int, 8), .inr (.int, 2), .inr (.int, 12), .inr (.int, 12), .inr (.boolean, 12), .inr (.int, 300), .inr (.boolean, 300), .inr (.boolean, 300), .inr (.int, 300), .inr (.int, 300), .inr (.int, 300), .inr (.int, 840), .inr (.int, 840), .inr (.int, 64), .inr (.int, 13), .inr (.int, 400), .inr (.boolean, 36), .inr (.boolean, 36), .inr (.boolean, 36), .inr (.int, 36), .inr (.int, 36), .inr (.boolean, 6), .inr (.int, 480), .inr (.int, 8), .inr (.int, 8), .inr (.int, 4), .inr (.int, 4), .inr (.int, 4), .inr (.boolean, 36), .inr (.int, 36), .inr (.int, 36), .inr (.int, 480), .inr (.int, 36), .inr (.int, 12), .inr (.int, 36), .inr (.boolean, 36), .inr (.int, 36), .inr (.int, 60), .inr (.int, 60), .inr (.int, 60), .inr (.int, 60), .inr (.int, 60), .inr (.boolean, 3), .inr (.boolean, 108), .inr (.boolean, 108), .inr (.boolean, 108), .inr (.int, 108), .inr (.int, 108), .inr (.boolean, 18), .inr (.boolean, 3), .inr (.int, 1440), .inr (.int, 3), .inr (.int, 24), .inr (.int, 24), .inr (.int, 3), .inr (.int, 12), .inr (.int, 12), .inr (.int, 12)]
def RLc : List (Nat × Nat × Nat) := [(2, 0, 3), (2, 1, 60), (2, 2, 9), (2, 3, 40), (2, 4, 46), (2, 5, 61), (2, 6, 104), (2, 7, 114), (2, 8, 122), (2, 9, 131), (3, 0, 4), (3, 1, 5), (3, 2, 6), (3, 4, 7), (3, 5, 8), (9, 0, 10), (9, 1, 11), (12, 0, 13), (12, 1, 14), (12, 2, 15), (12, 3, 16), (12, 4, 17), (12, 5, 18), (12, 6, 19), (12, 7, 20), (12, 8, 21), (12, 9, 22), (12, 10, 23), (12, 11, 24), (12, 12, 25), (26, 0, 27), (26, 1, 28), (26, 2, 29), (26, 3, 30), (26, 4, 31), (26, 5, 32), (26, 6, 33), (26, 7, 34), (26, 8, 35), (26, 9, 36), (26, 10, 37), (26, 11, 38), (26, 12, 39), (40, 0, 41), (40, 1, 42), (40, 2, 43), (40, 9, 9), (40, 10, 44), (40, 11, 45), (46, 0, 47), (46, 1, 54), (46, 2, 55), (46, 3, 56), (46, 4, 57), (46, 5, 58), (46, 6, 59), (47, 0, 48), (48, 0, 49), (48, 1, 50), (48, 2, 51), (48, 3, 52), (48, 4, 53), (60, 1, 3), (61, 0, 62), (61, 1, 76), (61, 2, 90), (62, 0, 63), (62, 1, 70), (62, 2, 71), (62, 3, 72), (62, 4, 73), (62, 5, 74), (62, 6, 75), (63, 0, 64), (64, 0, 65), (64, 1, 66), (64, 2, 67), (64, 3, 68), (64, 4, 69), (76, 0, 77), (76, 1, 84), (76, 2, 85), (76, 3, 86), (76, 4, 87), (76, 5, 88), (76, 6, 89), (77, 0, 78), (78, 0, 79), (78, 1, 80), (78, 2, 81), (78, 3, 82), (78, 4, 83), (90, 0, 91), (90, 1, 98), (90, 2, 99), (90, 3, 100), (90, 4, 101), (90, 5, 102), (90, 6, 103), (91, 0, 92), (92, 0, 93), (92, 1, 94), (92, 2, 95), (92, 3, 96), (92, 4, 97), (104, 0, 105), (104, 1, 106), (104, 6, 40), (104, 7, 46), (104, 8, 107), (107, 0, 108), (108, 0, 109), (108, 1, 110), (108, 2, 111), (108, 3, 112), (108, 4, 113), (114, 0, 40), (114, 1, 46), (114, 2, 115), (115, 0, 116), (116, 0, 117), (116, 1, 118), (116, 2, 119), (116, 3, 120), (116, 4, 121), (122, 5, 40), (122, 6, 46), (122, 7, 123), (122, 8, 130), (123, 0, 124), (124, 0, 125), (124, 1, 126), (124, 2, 127), (124, 3, 128), (124, 4, 129), (131, 7, 132), (131, 8, 133), (131, 9, 134), (131, 10, 135), (131, 11, 136), (131, 12, 137)]
def RLm : List (Nat × Nat × Nat) := [(138, 1, 139), (138, 3, 140), (138, 5, 141), (138, 6, 142), (138, 7, 143), (138, 8, 144), (138, 9, 145), (138, 21, 146), (138, 22, 147), (138, 23, 148), (138, 24, 149), (138, 25, 150), (138, 26, 151), (138, 27, 152), (138, 28, 153), (138, 29, 154), (138, 30, 155), (138, 31, 156), (138, 32, 157), (138, 33, 158), (138, 34, 159), (138, 35, 160), (138, 37, 161), (138, 38, 162), (138, 39, 163), (138, 40, 164), (138, 41, 165), (138, 42, 166), (138, 44, 167), (138, 45, 168), (138, 46, 169), (138, 48, 170), (138, 49, 171), (138, 51, 172), (138, 52, 173), (138, 53, 174), (138, 54, 175), (138, 55, 176), (138, 56, 177), (138, 58, 178), (138, 60, 179), (138, 61, 180), (138, 63, 181), (138, 64, 182), (138, 65, 183), (138, 66, 184), (138, 67, 185), (138, 68, 186), (138, 70, 187), (138, 71, 188), (138, 73, 189), (138, 74, 190), (138, 75, 191), (138, 76, 192), (138, 79, 193), (138, 80, 194), (138, 81, 195), (138, 82, 196), (138, 83, 197), (138, 84, 198), (138, 85, 199), (138, 86, 200), (138, 87, 201), (138, 88, 202), (138, 89, 203), (138, 90, 204), (138, 91, 205), (138, 92, 206), (138, 93, 207), (138, 94, 208), (138, 95, 209), (138, 96, 210), (138, 97, 211), (138, 98, 212), (138, 99, 213)]
def Tc (θ : zS) : Prop := (∀ a, 2 ≤ a → a < 138 → θ.1[a]? = SH[a]?) ∧ ∀ p ∈ RLc, θ.2 p.1 p.2.1 = some p.2.2
def Tm (θ : zS) : Prop := (∀ a, 138 ≤ a → a < 214 → θ.1[a]? = SH[a]?) ∧ ∀ p ∈ RLm, θ.2 p.1 p.2.1 = some p.2.2
theorem zob_of {θ : zS} {a c : Nat} (h : θ.1[a]? = some (.inl c)) : zob θ a c = true := by unfold zob; rw [h]; show (c == c) = true; exact beq_self_eq_true c
theorem zix_of {θ : zS} {a n : Nat} {t : FieldType} (h : θ.1[a]? = some (.inr (t, n))) (i : Int) : (zix θ t a i = true) = (0 ≤ i ∧ i < (n : Int)) := by unfold zix; rw [h]; simp
theorem zix_T {θ : zS} {a n : Nat} {t : FieldType} (h : θ.1[a]? = some (.inr (t, n))) {i : Int} (h0 : 0 ≤ i) (h1 : i < (n : Int)) : (zix θ t a i = true) = True := by rw [zix_of h]; simp [h0, h1]
theorem zix_no {θ : zS} {a n : Nat} {t u : FieldType} (h : θ.1[a]? = some (.inr (u, n))) (ht : (u == t) = false) (i : Int) : (zix θ t a i = true) = False := by unfold zix; rw [h]; simp [ht]
section TB
variable {θ : zS}
theorem SHc (h : Tc θ) {a : Nat} {v : Nat ⊕ (FieldType × Nat)} (h2 : 2 ≤ a) (ha : a < 138) (hs : SH[a]? = some v) : θ.1[a]? = some v := by rw [h.1 a h2 ha, hs]
theorem SHm (h : Tm θ) {a : Nat} {v : Nat ⊕ (FieldType × Nat)} (h2 : 138 ≤ a) (ha : a < 214) (hs : SH[a]? = some v) : θ.1[a]? = some v := by rw [h.1 a h2 ha, hs]
theorem s_2 (h : Tc θ) : θ.1[2]? = some (.inl 11) := (SHc h (by decide) (by decide) rfl)
theorem b_2 (h : Tc θ) : zob θ 2 11 = true := zob_of (s_2 h)
theorem s_3 (h : Tc θ) : θ.1[3]? = some (.inl 7) := (SHc h (by decide) (by decide) rfl)
theorem b_3 (h : Tc θ) : zob θ 3 7 = true := zob_of (s_3 h)
theorem s_4 (h : Tc θ) : θ.1[4]? = some (.inr (.int, 401)) := (SHc h (by decide) (by decide) rfl)
theorem x_4 (h : Tc θ) {i : Int} (h0 : 0 ≤ i) (h1 : i < 401) : (zix θ (.int) 4 i = true) = True := zix_T (s_4 h) h0 h1
theorem s_5 (h : Tc θ) : θ.1[5]? = some (.inr (.int, 401)) := (SHc h (by decide) (by decide) rfl)
theorem x_5 (h : Tc θ) {i : Int} (h0 : 0 ≤ i) (h1 : i < 401) : (zix θ (.int) 5 i = true) = True := zix_T (s_5 h) h0 h1
theorem s_6 (h : Tc θ) : θ.1[6]? = some (.inr (.long, 401)) := (SHc h (by decide) (by decide) rfl)
theorem x_6 (h : Tc θ) {i : Int} (h0 : 0 ≤ i) (h1 : i < 401) : (zix θ (.long) 6 i = true) = True := zix_T (s_6 h) h0 h1
theorem s_7 (h : Tc θ) : θ.1[7]? = some (.inr (.byte, 2000)) := (SHc h (by decide) (by decide) rfl)
theorem x_7 (h : Tc θ) {i : Int} (h0 : 0 ≤ i) (h1 : i < 2000) : (zix θ (.byte) 7 i = true) = True := zix_T (s_7 h) h0 h1
theorem n_7 (h : Tc θ) (i : Int) : (zix θ .boolean 7 i = true) = False := zix_no (s_7 h) rfl i
theorem s_8 (h : Tc θ) : θ.1[8]? = some (.inr (.long, 33)) := (SHc h (by decide) (by decide) rfl)
theorem x_8 (h : Tc θ) {i : Int} (h0 : 0 ≤ i) (h1 : i < 33) : (zix θ (.long) 8 i = true) = True := zix_T (s_8 h) h0 h1
theorem s_9 (h : Tc θ) : θ.1[9]? = some (.inl 2) := (SHc h (by decide) (by decide) rfl)
theorem b_9 (h : Tc θ) : zob θ 9 2 = true := zob_of (s_9 h)
theorem s_10 (h : Tc θ) : θ.1[10]? = some (.inr (.int, 13)) := (SHc h (by decide) (by decide) rfl)
theorem x_10 (h : Tc θ) {i : Int} (h0 : 0 ≤ i) (h1 : i < 13) : (zix θ (.int) 10 i = true) = True := zix_T (s_10 h) h0 h1
theorem s_11 (h : Tc θ) : θ.1[11]? = some (.inr (.int, 32)) := (SHc h (by decide) (by decide) rfl)
theorem x_11 (h : Tc θ) {i : Int} (h0 : 0 ≤ i) (h1 : i < 32) : (zix θ (.int) 11 i = true) = True := zix_T (s_11 h) h0 h1
theorem s_12 (h : Tc θ) : θ.1[12]? = some (.inl 9) := (SHc h (by decide) (by decide) rfl)
theorem b_12 (h : Tc θ) : zob θ 12 9 = true := zob_of (s_12 h)
theorem s_13 (h : Tc θ) : θ.1[13]? = some (.inr (.int, 9)) := (SHc h (by decide) (by decide) rfl)
theorem x_13 (h : Tc θ) {i : Int} (h0 : 0 ≤ i) (h1 : i < 9) : (zix θ (.int) 13 i = true) = True := zix_T (s_13 h) h0 h1
theorem s_14 (h : Tc θ) : θ.1[14]? = some (.inr (.int, 6)) := (SHc h (by decide) (by decide) rfl)
theorem x_14 (h : Tc θ) {i : Int} (h0 : 0 ≤ i) (h1 : i < 6) : (zix θ (.int) 14 i = true) = True := zix_T (s_14 h) h0 h1
theorem s_15 (h : Tc θ) : θ.1[15]? = some (.inr (.int, 6)) := (SHc h (by decide) (by decide) rfl)
theorem x_15 (h : Tc θ) {i : Int} (h0 : 0 ≤ i) (h1 : i < 6) : (zix θ (.int) 15 i = true) = True := zix_T (s_15 h) h0 h1
theorem s_16 (h : Tc θ) : θ.1[16]? = some (.inr (.long, 6)) := (SHc h (by decide) (by decide) rfl)
theorem x_16 (h : Tc θ) {i : Int} (h0 : 0 ≤ i) (h1 : i < 6) : (zix θ (.long) 16 i = true) = True := zix_T (s_16 h) h0 h1
theorem s_17 (h : Tc θ) : θ.1[17]? = some (.inr (.int, 400)) := (SHc h (by decide) (by decide) rfl)
theorem x_17 (h : Tc θ) {i : Int} (h0 : 0 ≤ i) (h1 : i < 400) : (zix θ (.int) 17 i = true) = True := zix_T (s_17 h) h0 h1
theorem s_18 (h : Tc θ) : θ.1[18]? = some (.inr (.int, 4)) := (SHc h (by decide) (by decide) rfl)
theorem x_18 (h : Tc θ) {i : Int} (h0 : 0 ≤ i) (h1 : i < 4) : (zix θ (.int) 18 i = true) = True := zix_T (s_18 h) h0 h1
theorem s_19 (h : Tc θ) : θ.1[19]? = some (.inr (.int, 4)) := (SHc h (by decide) (by decide) rfl)
theorem x_19 (h : Tc θ) {i : Int} (h0 : 0 ≤ i) (h1 : i < 4) : (zix θ (.int) 19 i = true) = True := zix_T (s_19 h) h0 h1
theorem s_20 (h : Tc θ) : θ.1[20]? = some (.inr (.int, 18)) := (SHc h (by decide) (by decide) rfl)
theorem x_20 (h : Tc θ) {i : Int} (h0 : 0 ≤ i) (h1 : i < 18) : (zix θ (.int) 20 i = true) = True := zix_T (s_20 h) h0 h1
theorem s_21 (h : Tc θ) : θ.1[21]? = some (.inr (.int, 18)) := (SHc h (by decide) (by decide) rfl)
theorem x_21 (h : Tc θ) {i : Int} (h0 : 0 ≤ i) (h1 : i < 18) : (zix θ (.int) 21 i = true) = True := zix_T (s_21 h) h0 h1
theorem s_22 (h : Tc θ) : θ.1[22]? = some (.inr (.int, 3)) := (SHc h (by decide) (by decide) rfl)
theorem x_22 (h : Tc θ) {i : Int} (h0 : 0 ≤ i) (h1 : i < 3) : (zix θ (.int) 22 i = true) = True := zix_T (s_22 h) h0 h1
theorem s_23 (h : Tc θ) : θ.1[23]? = some (.inr (.int, 36)) := (SHc h (by decide) (by decide) rfl)
theorem x_23 (h : Tc θ) {i : Int} (h0 : 0 ≤ i) (h1 : i < 36) : (zix θ (.int) 23 i = true) = True := zix_T (s_23 h) h0 h1
theorem s_24 (h : Tc θ) : θ.1[24]? = some (.inr (.int, 36)) := (SHc h (by decide) (by decide) rfl)
theorem x_24 (h : Tc θ) {i : Int} (h0 : 0 ≤ i) (h1 : i < 36) : (zix θ (.int) 24 i = true) = True := zix_T (s_24 h) h0 h1
theorem s_25 (h : Tc θ) : θ.1[25]? = some (.inr (.int, 36)) := (SHc h (by decide) (by decide) rfl)
theorem x_25 (h : Tc θ) {i : Int} (h0 : 0 ≤ i) (h1 : i < 36) : (zix θ (.int) 25 i = true) = True := zix_T (s_25 h) h0 h1
theorem s_26 (h : Tc θ) : θ.1[26]? = some (.inl 9) := (SHc h (by decide) (by decide) rfl)
theorem b_26 (h : Tc θ) : zob θ 26 9 = true := zob_of (s_26 h)
theorem s_27 (h : Tc θ) : θ.1[27]? = some (.inr (.int, 9)) := (SHc h (by decide) (by decide) rfl)
theorem x_27 (h : Tc θ) {i : Int} (h0 : 0 ≤ i) (h1 : i < 9) : (zix θ (.int) 27 i = true) = True := zix_T (s_27 h) h0 h1
theorem s_28 (h : Tc θ) : θ.1[28]? = some (.inr (.int, 6)) := (SHc h (by decide) (by decide) rfl)
theorem x_28 (h : Tc θ) {i : Int} (h0 : 0 ≤ i) (h1 : i < 6) : (zix θ (.int) 28 i = true) = True := zix_T (s_28 h) h0 h1
theorem s_29 (h : Tc θ) : θ.1[29]? = some (.inr (.int, 6)) := (SHc h (by decide) (by decide) rfl)
theorem x_29 (h : Tc θ) {i : Int} (h0 : 0 ≤ i) (h1 : i < 6) : (zix θ (.int) 29 i = true) = True := zix_T (s_29 h) h0 h1
theorem s_30 (h : Tc θ) : θ.1[30]? = some (.inr (.long, 6)) := (SHc h (by decide) (by decide) rfl)
theorem x_30 (h : Tc θ) {i : Int} (h0 : 0 ≤ i) (h1 : i < 6) : (zix θ (.long) 30 i = true) = True := zix_T (s_30 h) h0 h1
theorem s_31 (h : Tc θ) : θ.1[31]? = some (.inr (.int, 400)) := (SHc h (by decide) (by decide) rfl)
theorem x_31 (h : Tc θ) {i : Int} (h0 : 0 ≤ i) (h1 : i < 400) : (zix θ (.int) 31 i = true) = True := zix_T (s_31 h) h0 h1
theorem s_32 (h : Tc θ) : θ.1[32]? = some (.inr (.int, 4)) := (SHc h (by decide) (by decide) rfl)
theorem x_32 (h : Tc θ) {i : Int} (h0 : 0 ≤ i) (h1 : i < 4) : (zix θ (.int) 32 i = true) = True := zix_T (s_32 h) h0 h1
theorem s_33 (h : Tc θ) : θ.1[33]? = some (.inr (.int, 4)) := (SHc h (by decide) (by decide) rfl)
theorem x_33 (h : Tc θ) {i : Int} (h0 : 0 ≤ i) (h1 : i < 4) : (zix θ (.int) 33 i = true) = True := zix_T (s_33 h) h0 h1
theorem s_34 (h : Tc θ) : θ.1[34]? = some (.inr (.int, 18)) := (SHc h (by decide) (by decide) rfl)
theorem x_34 (h : Tc θ) {i : Int} (h0 : 0 ≤ i) (h1 : i < 18) : (zix θ (.int) 34 i = true) = True := zix_T (s_34 h) h0 h1
theorem s_35 (h : Tc θ) : θ.1[35]? = some (.inr (.int, 18)) := (SHc h (by decide) (by decide) rfl)
theorem x_35 (h : Tc θ) {i : Int} (h0 : 0 ≤ i) (h1 : i < 18) : (zix θ (.int) 35 i = true) = True := zix_T (s_35 h) h0 h1
theorem s_36 (h : Tc θ) : θ.1[36]? = some (.inr (.int, 3)) := (SHc h (by decide) (by decide) rfl)
theorem x_36 (h : Tc θ) {i : Int} (h0 : 0 ≤ i) (h1 : i < 3) : (zix θ (.int) 36 i = true) = True := zix_T (s_36 h) h0 h1
theorem s_37 (h : Tc θ) : θ.1[37]? = some (.inr (.int, 36)) := (SHc h (by decide) (by decide) rfl)
theorem x_37 (h : Tc θ) {i : Int} (h0 : 0 ≤ i) (h1 : i < 36) : (zix θ (.int) 37 i = true) = True := zix_T (s_37 h) h0 h1
theorem s_38 (h : Tc θ) : θ.1[38]? = some (.inr (.int, 36)) := (SHc h (by decide) (by decide) rfl)
theorem x_38 (h : Tc θ) {i : Int} (h0 : 0 ≤ i) (h1 : i < 36) : (zix θ (.int) 38 i = true) = True := zix_T (s_38 h) h0 h1
theorem s_39 (h : Tc θ) : θ.1[39]? = some (.inr (.int, 36)) := (SHc h (by decide) (by decide) rfl)
theorem x_39 (h : Tc θ) {i : Int} (h0 : 0 ≤ i) (h1 : i < 36) : (zix θ (.int) 39 i = true) = True := zix_T (s_39 h) h0 h1
theorem s_40 (h : Tc θ) : θ.1[40]? = some (.inl 1) := (SHc h (by decide) (by decide) rfl)
theorem b_40 (h : Tc θ) : zob θ 40 1 = true := zob_of (s_40 h)
theorem s_41 (h : Tc θ) : θ.1[41]? = some (.inr (.int, 36)) := (SHc h (by decide) (by decide) rfl)
theorem x_41 (h : Tc θ) {i : Int} (h0 : 0 ≤ i) (h1 : i < 36) : (zix θ (.int) 41 i = true) = True := zix_T (s_41 h) h0 h1
theorem s_42 (h : Tc θ) : θ.1[42]? = some (.inr (.int, 36)) := (SHc h (by decide) (by decide) rfl)
theorem x_42 (h : Tc θ) {i : Int} (h0 : 0 ≤ i) (h1 : i < 36) : (zix θ (.int) 42 i = true) = True := zix_T (s_42 h) h0 h1
theorem s_43 (h : Tc θ) : θ.1[43]? = some (.inr (.int, 36)) := (SHc h (by decide) (by decide) rfl)
theorem x_43 (h : Tc θ) {i : Int} (h0 : 0 ≤ i) (h1 : i < 36) : (zix θ (.int) 43 i = true) = True := zix_T (s_43 h) h0 h1
theorem s_44 (h : Tc θ) : θ.1[44]? = some (.inr (.int, 36)) := (SHc h (by decide) (by decide) rfl)
theorem x_44 (h : Tc θ) {i : Int} (h0 : 0 ≤ i) (h1 : i < 36) : (zix θ (.int) 44 i = true) = True := zix_T (s_44 h) h0 h1
theorem s_45 (h : Tc θ) : θ.1[45]? = some (.inr (.int, 36)) := (SHc h (by decide) (by decide) rfl)
theorem x_45 (h : Tc θ) {i : Int} (h0 : 0 ≤ i) (h1 : i < 36) : (zix θ (.int) 45 i = true) = True := zix_T (s_45 h) h0 h1
theorem s_46 (h : Tc θ) : θ.1[46]? = some (.inl 6) := (SHc h (by decide) (by decide) rfl)
theorem b_46 (h : Tc θ) : zob θ 46 6 = true := zob_of (s_46 h)
theorem s_47 (h : Tc θ) : θ.1[47]? = some (.inl 5) := (SHc h (by decide) (by decide) rfl)
theorem b_47 (h : Tc θ) : zob θ 47 5 = true := zob_of (s_47 h)
theorem s_48 (h : Tc θ) : θ.1[48]? = some (.inr (.array .int, 5)) := (SHc h (by decide) (by decide) rfl)
theorem x_48 (h : Tc θ) {i : Int} (h0 : 0 ≤ i) (h1 : i < 5) : (zix θ (.array .int) 48 i = true) = True := zix_T (s_48 h) h0 h1
theorem n_48 (h : Tc θ) (i : Int) : (zix θ (.object "GaleRoof$Scene") 48 i = true) = False := zix_no (s_48 h) rfl i
theorem s_49 (h : Tc θ) : θ.1[49]? = some (.inr (.int, 36)) := (SHc h (by decide) (by decide) rfl)
theorem x_49 (h : Tc θ) {i : Int} (h0 : 0 ≤ i) (h1 : i < 36) : (zix θ (.int) 49 i = true) = True := zix_T (s_49 h) h0 h1
theorem s_50 (h : Tc θ) : θ.1[50]? = some (.inr (.int, 36)) := (SHc h (by decide) (by decide) rfl)
theorem x_50 (h : Tc θ) {i : Int} (h0 : 0 ≤ i) (h1 : i < 36) : (zix θ (.int) 50 i = true) = True := zix_T (s_50 h) h0 h1
theorem s_51 (h : Tc θ) : θ.1[51]? = some (.inr (.int, 36)) := (SHc h (by decide) (by decide) rfl)
theorem x_51 (h : Tc θ) {i : Int} (h0 : 0 ≤ i) (h1 : i < 36) : (zix θ (.int) 51 i = true) = True := zix_T (s_51 h) h0 h1
theorem s_52 (h : Tc θ) : θ.1[52]? = some (.inr (.int, 36)) := (SHc h (by decide) (by decide) rfl)
theorem x_52 (h : Tc θ) {i : Int} (h0 : 0 ≤ i) (h1 : i < 36) : (zix θ (.int) 52 i = true) = True := zix_T (s_52 h) h0 h1
theorem s_53 (h : Tc θ) : θ.1[53]? = some (.inr (.int, 36)) := (SHc h (by decide) (by decide) rfl)
theorem x_53 (h : Tc θ) {i : Int} (h0 : 0 ≤ i) (h1 : i < 36) : (zix θ (.int) 53 i = true) = True := zix_T (s_53 h) h0 h1
theorem s_54 (h : Tc θ) : θ.1[54]? = some (.inr (.int, 480)) := (SHc h (by decide) (by decide) rfl)
theorem x_54 (h : Tc θ) {i : Int} (h0 : 0 ≤ i) (h1 : i < 480) : (zix θ (.int) 54 i = true) = True := zix_T (s_54 h) h0 h1
theorem s_55 (h : Tc θ) : θ.1[55]? = some (.inr (.int, 8)) := (SHc h (by decide) (by decide) rfl)
theorem x_55 (h : Tc θ) {i : Int} (h0 : 0 ≤ i) (h1 : i < 8) : (zix θ (.int) 55 i = true) = True := zix_T (s_55 h) h0 h1
theorem s_56 (h : Tc θ) : θ.1[56]? = some (.inr (.int, 8)) := (SHc h (by decide) (by decide) rfl)
theorem x_56 (h : Tc θ) {i : Int} (h0 : 0 ≤ i) (h1 : i < 8) : (zix θ (.int) 56 i = true) = True := zix_T (s_56 h) h0 h1
theorem s_57 (h : Tc θ) : θ.1[57]? = some (.inr (.int, 4)) := (SHc h (by decide) (by decide) rfl)
theorem x_57 (h : Tc θ) {i : Int} (h0 : 0 ≤ i) (h1 : i < 4) : (zix θ (.int) 57 i = true) = True := zix_T (s_57 h) h0 h1
theorem s_58 (h : Tc θ) : θ.1[58]? = some (.inr (.int, 4)) := (SHc h (by decide) (by decide) rfl)
theorem x_58 (h : Tc θ) {i : Int} (h0 : 0 ≤ i) (h1 : i < 4) : (zix θ (.int) 58 i = true) = True := zix_T (s_58 h) h0 h1
theorem s_59 (h : Tc θ) : θ.1[59]? = some (.inr (.int, 4)) := (SHc h (by decide) (by decide) rfl)
theorem x_59 (h : Tc θ) {i : Int} (h0 : 0 ≤ i) (h1 : i < 4) : (zix θ (.int) 59 i = true) = True := zix_T (s_59 h) h0 h1
theorem s_60 (h : Tc θ) : θ.1[60]? = some (.inl 4) := (SHc h (by decide) (by decide) rfl)
theorem b_60 (h : Tc θ) : zob θ 60 4 = true := zob_of (s_60 h)
theorem s_61 (h : Tc θ) : θ.1[61]? = some (.inr (.object "GaleRoof$Scene", 3)) := (SHc h (by decide) (by decide) rfl)
theorem x_61 (h : Tc θ) {i : Int} (h0 : 0 ≤ i) (h1 : i < 3) : (zix θ (.object "GaleRoof$Scene") 61 i = true) = True := zix_T (s_61 h) h0 h1
theorem n_61 (h : Tc θ) (i : Int) : (zix θ (.array .int) 61 i = true) = False := zix_no (s_61 h) rfl i
theorem s_62 (h : Tc θ) : θ.1[62]? = some (.inl 6) := (SHc h (by decide) (by decide) rfl)
theorem b_62 (h : Tc θ) : zob θ 62 6 = true := zob_of (s_62 h)
theorem s_63 (h : Tc θ) : θ.1[63]? = some (.inl 5) := (SHc h (by decide) (by decide) rfl)
theorem b_63 (h : Tc θ) : zob θ 63 5 = true := zob_of (s_63 h)
theorem s_64 (h : Tc θ) : θ.1[64]? = some (.inr (.array .int, 5)) := (SHc h (by decide) (by decide) rfl)
theorem x_64 (h : Tc θ) {i : Int} (h0 : 0 ≤ i) (h1 : i < 5) : (zix θ (.array .int) 64 i = true) = True := zix_T (s_64 h) h0 h1
theorem n_64 (h : Tc θ) (i : Int) : (zix θ (.object "GaleRoof$Scene") 64 i = true) = False := zix_no (s_64 h) rfl i
theorem s_65 (h : Tc θ) : θ.1[65]? = some (.inr (.int, 36)) := (SHc h (by decide) (by decide) rfl)
theorem x_65 (h : Tc θ) {i : Int} (h0 : 0 ≤ i) (h1 : i < 36) : (zix θ (.int) 65 i = true) = True := zix_T (s_65 h) h0 h1
theorem s_66 (h : Tc θ) : θ.1[66]? = some (.inr (.int, 36)) := (SHc h (by decide) (by decide) rfl)
theorem x_66 (h : Tc θ) {i : Int} (h0 : 0 ≤ i) (h1 : i < 36) : (zix θ (.int) 66 i = true) = True := zix_T (s_66 h) h0 h1
theorem s_67 (h : Tc θ) : θ.1[67]? = some (.inr (.int, 36)) := (SHc h (by decide) (by decide) rfl)
theorem x_67 (h : Tc θ) {i : Int} (h0 : 0 ≤ i) (h1 : i < 36) : (zix θ (.int) 67 i = true) = True := zix_T (s_67 h) h0 h1
theorem s_68 (h : Tc θ) : θ.1[68]? = some (.inr (.int, 36)) := (SHc h (by decide) (by decide) rfl)
theorem x_68 (h : Tc θ) {i : Int} (h0 : 0 ≤ i) (h1 : i < 36) : (zix θ (.int) 68 i = true) = True := zix_T (s_68 h) h0 h1
theorem s_69 (h : Tc θ) : θ.1[69]? = some (.inr (.int, 36)) := (SHc h (by decide) (by decide) rfl)
theorem x_69 (h : Tc θ) {i : Int} (h0 : 0 ≤ i) (h1 : i < 36) : (zix θ (.int) 69 i = true) = True := zix_T (s_69 h) h0 h1
theorem s_70 (h : Tc θ) : θ.1[70]? = some (.inr (.int, 480)) := (SHc h (by decide) (by decide) rfl)
theorem x_70 (h : Tc θ) {i : Int} (h0 : 0 ≤ i) (h1 : i < 480) : (zix θ (.int) 70 i = true) = True := zix_T (s_70 h) h0 h1
theorem s_71 (h : Tc θ) : θ.1[71]? = some (.inr (.int, 8)) := (SHc h (by decide) (by decide) rfl)
theorem x_71 (h : Tc θ) {i : Int} (h0 : 0 ≤ i) (h1 : i < 8) : (zix θ (.int) 71 i = true) = True := zix_T (s_71 h) h0 h1
theorem s_72 (h : Tc θ) : θ.1[72]? = some (.inr (.int, 8)) := (SHc h (by decide) (by decide) rfl)
theorem x_72 (h : Tc θ) {i : Int} (h0 : 0 ≤ i) (h1 : i < 8) : (zix θ (.int) 72 i = true) = True := zix_T (s_72 h) h0 h1
theorem s_73 (h : Tc θ) : θ.1[73]? = some (.inr (.int, 4)) := (SHc h (by decide) (by decide) rfl)
theorem x_73 (h : Tc θ) {i : Int} (h0 : 0 ≤ i) (h1 : i < 4) : (zix θ (.int) 73 i = true) = True := zix_T (s_73 h) h0 h1
theorem s_74 (h : Tc θ) : θ.1[74]? = some (.inr (.int, 4)) := (SHc h (by decide) (by decide) rfl)
theorem x_74 (h : Tc θ) {i : Int} (h0 : 0 ≤ i) (h1 : i < 4) : (zix θ (.int) 74 i = true) = True := zix_T (s_74 h) h0 h1
theorem s_75 (h : Tc θ) : θ.1[75]? = some (.inr (.int, 4)) := (SHc h (by decide) (by decide) rfl)
theorem x_75 (h : Tc θ) {i : Int} (h0 : 0 ≤ i) (h1 : i < 4) : (zix θ (.int) 75 i = true) = True := zix_T (s_75 h) h0 h1
theorem s_76 (h : Tc θ) : θ.1[76]? = some (.inl 6) := (SHc h (by decide) (by decide) rfl)
theorem b_76 (h : Tc θ) : zob θ 76 6 = true := zob_of (s_76 h)
theorem s_77 (h : Tc θ) : θ.1[77]? = some (.inl 5) := (SHc h (by decide) (by decide) rfl)
theorem b_77 (h : Tc θ) : zob θ 77 5 = true := zob_of (s_77 h)
theorem s_78 (h : Tc θ) : θ.1[78]? = some (.inr (.array .int, 5)) := (SHc h (by decide) (by decide) rfl)
theorem x_78 (h : Tc θ) {i : Int} (h0 : 0 ≤ i) (h1 : i < 5) : (zix θ (.array .int) 78 i = true) = True := zix_T (s_78 h) h0 h1
theorem n_78 (h : Tc θ) (i : Int) : (zix θ (.object "GaleRoof$Scene") 78 i = true) = False := zix_no (s_78 h) rfl i
theorem s_79 (h : Tc θ) : θ.1[79]? = some (.inr (.int, 36)) := (SHc h (by decide) (by decide) rfl)
theorem x_79 (h : Tc θ) {i : Int} (h0 : 0 ≤ i) (h1 : i < 36) : (zix θ (.int) 79 i = true) = True := zix_T (s_79 h) h0 h1
theorem s_80 (h : Tc θ) : θ.1[80]? = some (.inr (.int, 36)) := (SHc h (by decide) (by decide) rfl)
theorem x_80 (h : Tc θ) {i : Int} (h0 : 0 ≤ i) (h1 : i < 36) : (zix θ (.int) 80 i = true) = True := zix_T (s_80 h) h0 h1
theorem s_81 (h : Tc θ) : θ.1[81]? = some (.inr (.int, 36)) := (SHc h (by decide) (by decide) rfl)
theorem x_81 (h : Tc θ) {i : Int} (h0 : 0 ≤ i) (h1 : i < 36) : (zix θ (.int) 81 i = true) = True := zix_T (s_81 h) h0 h1
theorem s_82 (h : Tc θ) : θ.1[82]? = some (.inr (.int, 36)) := (SHc h (by decide) (by decide) rfl)
theorem x_82 (h : Tc θ) {i : Int} (h0 : 0 ≤ i) (h1 : i < 36) : (zix θ (.int) 82 i = true) = True := zix_T (s_82 h) h0 h1
theorem s_83 (h : Tc θ) : θ.1[83]? = some (.inr (.int, 36)) := (SHc h (by decide) (by decide) rfl)
theorem x_83 (h : Tc θ) {i : Int} (h0 : 0 ≤ i) (h1 : i < 36) : (zix θ (.int) 83 i = true) = True := zix_T (s_83 h) h0 h1
theorem s_84 (h : Tc θ) : θ.1[84]? = some (.inr (.int, 480)) := (SHc h (by decide) (by decide) rfl)
theorem x_84 (h : Tc θ) {i : Int} (h0 : 0 ≤ i) (h1 : i < 480) : (zix θ (.int) 84 i = true) = True := zix_T (s_84 h) h0 h1
theorem s_85 (h : Tc θ) : θ.1[85]? = some (.inr (.int, 8)) := (SHc h (by decide) (by decide) rfl)
theorem x_85 (h : Tc θ) {i : Int} (h0 : 0 ≤ i) (h1 : i < 8) : (zix θ (.int) 85 i = true) = True := zix_T (s_85 h) h0 h1
theorem s_86 (h : Tc θ) : θ.1[86]? = some (.inr (.int, 8)) := (SHc h (by decide) (by decide) rfl)
theorem x_86 (h : Tc θ) {i : Int} (h0 : 0 ≤ i) (h1 : i < 8) : (zix θ (.int) 86 i = true) = True := zix_T (s_86 h) h0 h1
theorem s_87 (h : Tc θ) : θ.1[87]? = some (.inr (.int, 4)) := (SHc h (by decide) (by decide) rfl)
theorem x_87 (h : Tc θ) {i : Int} (h0 : 0 ≤ i) (h1 : i < 4) : (zix θ (.int) 87 i = true) = True := zix_T (s_87 h) h0 h1
theorem s_88 (h : Tc θ) : θ.1[88]? = some (.inr (.int, 4)) := (SHc h (by decide) (by decide) rfl)
theorem x_88 (h : Tc θ) {i : Int} (h0 : 0 ≤ i) (h1 : i < 4) : (zix θ (.int) 88 i = true) = True := zix_T (s_88 h) h0 h1
theorem s_89 (h : Tc θ) : θ.1[89]? = some (.inr (.int, 4)) := (SHc h (by decide) (by decide) rfl)
theorem x_89 (h : Tc θ) {i : Int} (h0 : 0 ≤ i) (h1 : i < 4) : (zix θ (.int) 89 i = true) = True := zix_T (s_89 h) h0 h1
theorem s_90 (h : Tc θ) : θ.1[90]? = some (.inl 6) := (SHc h (by decide) (by decide) rfl)
theorem b_90 (h : Tc θ) : zob θ 90 6 = true := zob_of (s_90 h)
theorem s_91 (h : Tc θ) : θ.1[91]? = some (.inl 5) := (SHc h (by decide) (by decide) rfl)
theorem b_91 (h : Tc θ) : zob θ 91 5 = true := zob_of (s_91 h)
theorem s_92 (h : Tc θ) : θ.1[92]? = some (.inr (.array .int, 5)) := (SHc h (by decide) (by decide) rfl)
theorem x_92 (h : Tc θ) {i : Int} (h0 : 0 ≤ i) (h1 : i < 5) : (zix θ (.array .int) 92 i = true) = True := zix_T (s_92 h) h0 h1
theorem n_92 (h : Tc θ) (i : Int) : (zix θ (.object "GaleRoof$Scene") 92 i = true) = False := zix_no (s_92 h) rfl i
theorem s_93 (h : Tc θ) : θ.1[93]? = some (.inr (.int, 36)) := (SHc h (by decide) (by decide) rfl)
theorem x_93 (h : Tc θ) {i : Int} (h0 : 0 ≤ i) (h1 : i < 36) : (zix θ (.int) 93 i = true) = True := zix_T (s_93 h) h0 h1
theorem s_94 (h : Tc θ) : θ.1[94]? = some (.inr (.int, 36)) := (SHc h (by decide) (by decide) rfl)
theorem x_94 (h : Tc θ) {i : Int} (h0 : 0 ≤ i) (h1 : i < 36) : (zix θ (.int) 94 i = true) = True := zix_T (s_94 h) h0 h1
theorem s_95 (h : Tc θ) : θ.1[95]? = some (.inr (.int, 36)) := (SHc h (by decide) (by decide) rfl)
theorem x_95 (h : Tc θ) {i : Int} (h0 : 0 ≤ i) (h1 : i < 36) : (zix θ (.int) 95 i = true) = True := zix_T (s_95 h) h0 h1
theorem s_96 (h : Tc θ) : θ.1[96]? = some (.inr (.int, 36)) := (SHc h (by decide) (by decide) rfl)
theorem x_96 (h : Tc θ) {i : Int} (h0 : 0 ≤ i) (h1 : i < 36) : (zix θ (.int) 96 i = true) = True := zix_T (s_96 h) h0 h1
theorem s_97 (h : Tc θ) : θ.1[97]? = some (.inr (.int, 36)) := (SHc h (by decide) (by decide) rfl)
theorem x_97 (h : Tc θ) {i : Int} (h0 : 0 ≤ i) (h1 : i < 36) : (zix θ (.int) 97 i = true) = True := zix_T (s_97 h) h0 h1
theorem s_98 (h : Tc θ) : θ.1[98]? = some (.inr (.int, 480)) := (SHc h (by decide) (by decide) rfl)
theorem x_98 (h : Tc θ) {i : Int} (h0 : 0 ≤ i) (h1 : i < 480) : (zix θ (.int) 98 i = true) = True := zix_T (s_98 h) h0 h1
theorem s_99 (h : Tc θ) : θ.1[99]? = some (.inr (.int, 8)) := (SHc h (by decide) (by decide) rfl)
theorem x_99 (h : Tc θ) {i : Int} (h0 : 0 ≤ i) (h1 : i < 8) : (zix θ (.int) 99 i = true) = True := zix_T (s_99 h) h0 h1
theorem s_100 (h : Tc θ) : θ.1[100]? = some (.inr (.int, 8)) := (SHc h (by decide) (by decide) rfl)
theorem x_100 (h : Tc θ) {i : Int} (h0 : 0 ≤ i) (h1 : i < 8) : (zix θ (.int) 100 i = true) = True := zix_T (s_100 h) h0 h1
theorem s_101 (h : Tc θ) : θ.1[101]? = some (.inr (.int, 4)) := (SHc h (by decide) (by decide) rfl)
theorem x_101 (h : Tc θ) {i : Int} (h0 : 0 ≤ i) (h1 : i < 4) : (zix θ (.int) 101 i = true) = True := zix_T (s_101 h) h0 h1
theorem s_102 (h : Tc θ) : θ.1[102]? = some (.inr (.int, 4)) := (SHc h (by decide) (by decide) rfl)
theorem x_102 (h : Tc θ) {i : Int} (h0 : 0 ≤ i) (h1 : i < 4) : (zix θ (.int) 102 i = true) = True := zix_T (s_102 h) h0 h1
theorem s_103 (h : Tc θ) : θ.1[103]? = some (.inr (.int, 4)) := (SHc h (by decide) (by decide) rfl)
theorem x_103 (h : Tc θ) {i : Int} (h0 : 0 ≤ i) (h1 : i < 4) : (zix θ (.int) 103 i = true) = True := zix_T (s_103 h) h0 h1
theorem s_104 (h : Tc θ) : θ.1[104]? = some (.inl 3) := (SHc h (by decide) (by decide) rfl)
theorem b_104 (h : Tc θ) : zob θ 104 3 = true := zob_of (s_104 h)
theorem s_105 (h : Tc θ) : θ.1[105]? = some (.inr (.int, 2)) := (SHc h (by decide) (by decide) rfl)
theorem x_105 (h : Tc θ) {i : Int} (h0 : 0 ≤ i) (h1 : i < 2) : (zix θ (.int) 105 i = true) = True := zix_T (s_105 h) h0 h1
theorem s_106 (h : Tc θ) : θ.1[106]? = some (.inr (.int, 12)) := (SHc h (by decide) (by decide) rfl)
theorem x_106 (h : Tc θ) {i : Int} (h0 : 0 ≤ i) (h1 : i < 12) : (zix θ (.int) 106 i = true) = True := zix_T (s_106 h) h0 h1
theorem s_107 (h : Tc θ) : θ.1[107]? = some (.inl 5) := (SHc h (by decide) (by decide) rfl)
theorem b_107 (h : Tc θ) : zob θ 107 5 = true := zob_of (s_107 h)
theorem s_108 (h : Tc θ) : θ.1[108]? = some (.inr (.array .int, 5)) := (SHc h (by decide) (by decide) rfl)
theorem x_108 (h : Tc θ) {i : Int} (h0 : 0 ≤ i) (h1 : i < 5) : (zix θ (.array .int) 108 i = true) = True := zix_T (s_108 h) h0 h1
theorem n_108 (h : Tc θ) (i : Int) : (zix θ (.object "GaleRoof$Scene") 108 i = true) = False := zix_no (s_108 h) rfl i
theorem s_109 (h : Tc θ) : θ.1[109]? = some (.inr (.int, 36)) := (SHc h (by decide) (by decide) rfl)
theorem x_109 (h : Tc θ) {i : Int} (h0 : 0 ≤ i) (h1 : i < 36) : (zix θ (.int) 109 i = true) = True := zix_T (s_109 h) h0 h1
theorem s_110 (h : Tc θ) : θ.1[110]? = some (.inr (.int, 36)) := (SHc h (by decide) (by decide) rfl)
theorem x_110 (h : Tc θ) {i : Int} (h0 : 0 ≤ i) (h1 : i < 36) : (zix θ (.int) 110 i = true) = True := zix_T (s_110 h) h0 h1
theorem s_111 (h : Tc θ) : θ.1[111]? = some (.inr (.int, 36)) := (SHc h (by decide) (by decide) rfl)
theorem x_111 (h : Tc θ) {i : Int} (h0 : 0 ≤ i) (h1 : i < 36) : (zix θ (.int) 111 i = true) = True := zix_T (s_111 h) h0 h1
theorem s_112 (h : Tc θ) : θ.1[112]? = some (.inr (.int, 36)) := (SHc h (by decide) (by decide) rfl)
theorem x_112 (h : Tc θ) {i : Int} (h0 : 0 ≤ i) (h1 : i < 36) : (zix θ (.int) 112 i = true) = True := zix_T (s_112 h) h0 h1
theorem s_113 (h : Tc θ) : θ.1[113]? = some (.inr (.int, 36)) := (SHc h (by decide) (by decide) rfl)
theorem x_113 (h : Tc θ) {i : Int} (h0 : 0 ≤ i) (h1 : i < 36) : (zix θ (.int) 113 i = true) = True := zix_T (s_113 h) h0 h1
theorem s_114 (h : Tc θ) : θ.1[114]? = some (.inl 0) := (SHc h (by decide) (by decide) rfl)
theorem b_114 (h : Tc θ) : zob θ 114 0 = true := zob_of (s_114 h)
theorem s_115 (h : Tc θ) : θ.1[115]? = some (.inl 5) := (SHc h (by decide) (by decide) rfl)
theorem b_115 (h : Tc θ) : zob θ 115 5 = true := zob_of (s_115 h)
theorem s_116 (h : Tc θ) : θ.1[116]? = some (.inr (.array .int, 5)) := (SHc h (by decide) (by decide) rfl)
theorem x_116 (h : Tc θ) {i : Int} (h0 : 0 ≤ i) (h1 : i < 5) : (zix θ (.array .int) 116 i = true) = True := zix_T (s_116 h) h0 h1
theorem n_116 (h : Tc θ) (i : Int) : (zix θ (.object "GaleRoof$Scene") 116 i = true) = False := zix_no (s_116 h) rfl i
theorem s_117 (h : Tc θ) : θ.1[117]? = some (.inr (.int, 36)) := (SHc h (by decide) (by decide) rfl)
theorem x_117 (h : Tc θ) {i : Int} (h0 : 0 ≤ i) (h1 : i < 36) : (zix θ (.int) 117 i = true) = True := zix_T (s_117 h) h0 h1
theorem s_118 (h : Tc θ) : θ.1[118]? = some (.inr (.int, 36)) := (SHc h (by decide) (by decide) rfl)
theorem x_118 (h : Tc θ) {i : Int} (h0 : 0 ≤ i) (h1 : i < 36) : (zix θ (.int) 118 i = true) = True := zix_T (s_118 h) h0 h1
theorem s_119 (h : Tc θ) : θ.1[119]? = some (.inr (.int, 36)) := (SHc h (by decide) (by decide) rfl)
theorem x_119 (h : Tc θ) {i : Int} (h0 : 0 ≤ i) (h1 : i < 36) : (zix θ (.int) 119 i = true) = True := zix_T (s_119 h) h0 h1
theorem s_120 (h : Tc θ) : θ.1[120]? = some (.inr (.int, 36)) := (SHc h (by decide) (by decide) rfl)
theorem x_120 (h : Tc θ) {i : Int} (h0 : 0 ≤ i) (h1 : i < 36) : (zix θ (.int) 120 i = true) = True := zix_T (s_120 h) h0 h1
theorem s_121 (h : Tc θ) : θ.1[121]? = some (.inr (.int, 36)) := (SHc h (by decide) (by decide) rfl)
theorem x_121 (h : Tc θ) {i : Int} (h0 : 0 ≤ i) (h1 : i < 36) : (zix θ (.int) 121 i = true) = True := zix_T (s_121 h) h0 h1
theorem s_122 (h : Tc θ) : θ.1[122]? = some (.inl 8) := (SHc h (by decide) (by decide) rfl)
theorem b_122 (h : Tc θ) : zob θ 122 8 = true := zob_of (s_122 h)
theorem s_123 (h : Tc θ) : θ.1[123]? = some (.inl 5) := (SHc h (by decide) (by decide) rfl)
theorem b_123 (h : Tc θ) : zob θ 123 5 = true := zob_of (s_123 h)
theorem s_124 (h : Tc θ) : θ.1[124]? = some (.inr (.array .int, 5)) := (SHc h (by decide) (by decide) rfl)
theorem x_124 (h : Tc θ) {i : Int} (h0 : 0 ≤ i) (h1 : i < 5) : (zix θ (.array .int) 124 i = true) = True := zix_T (s_124 h) h0 h1
theorem n_124 (h : Tc θ) (i : Int) : (zix θ (.object "GaleRoof$Scene") 124 i = true) = False := zix_no (s_124 h) rfl i
theorem s_125 (h : Tc θ) : θ.1[125]? = some (.inr (.int, 36)) := (SHc h (by decide) (by decide) rfl)
theorem x_125 (h : Tc θ) {i : Int} (h0 : 0 ≤ i) (h1 : i < 36) : (zix θ (.int) 125 i = true) = True := zix_T (s_125 h) h0 h1
theorem s_126 (h : Tc θ) : θ.1[126]? = some (.inr (.int, 36)) := (SHc h (by decide) (by decide) rfl)
theorem x_126 (h : Tc θ) {i : Int} (h0 : 0 ≤ i) (h1 : i < 36) : (zix θ (.int) 126 i = true) = True := zix_T (s_126 h) h0 h1
theorem s_127 (h : Tc θ) : θ.1[127]? = some (.inr (.int, 36)) := (SHc h (by decide) (by decide) rfl)
theorem x_127 (h : Tc θ) {i : Int} (h0 : 0 ≤ i) (h1 : i < 36) : (zix θ (.int) 127 i = true) = True := zix_T (s_127 h) h0 h1
theorem s_128 (h : Tc θ) : θ.1[128]? = some (.inr (.int, 36)) := (SHc h (by decide) (by decide) rfl)
theorem x_128 (h : Tc θ) {i : Int} (h0 : 0 ≤ i) (h1 : i < 36) : (zix θ (.int) 128 i = true) = True := zix_T (s_128 h) h0 h1
theorem s_129 (h : Tc θ) : θ.1[129]? = some (.inr (.int, 36)) := (SHc h (by decide) (by decide) rfl)
theorem x_129 (h : Tc θ) {i : Int} (h0 : 0 ≤ i) (h1 : i < 36) : (zix θ (.int) 129 i = true) = True := zix_T (s_129 h) h0 h1
theorem s_130 (h : Tc θ) : θ.1[130]? = some (.inr (.int, 480)) := (SHc h (by decide) (by decide) rfl)
theorem x_130 (h : Tc θ) {i : Int} (h0 : 0 ≤ i) (h1 : i < 480) : (zix θ (.int) 130 i = true) = True := zix_T (s_130 h) h0 h1
theorem s_131 (h : Tc θ) : θ.1[131]? = some (.inl 10) := (SHc h (by decide) (by decide) rfl)
theorem b_131 (h : Tc θ) : zob θ 131 10 = true := zob_of (s_131 h)
theorem s_132 (h : Tc θ) : θ.1[132]? = some (.inr (.int, 60)) := (SHc h (by decide) (by decide) rfl)
theorem x_132 (h : Tc θ) {i : Int} (h0 : 0 ≤ i) (h1 : i < 60) : (zix θ (.int) 132 i = true) = True := zix_T (s_132 h) h0 h1
theorem s_133 (h : Tc θ) : θ.1[133]? = some (.inr (.int, 60)) := (SHc h (by decide) (by decide) rfl)
theorem x_133 (h : Tc θ) {i : Int} (h0 : 0 ≤ i) (h1 : i < 60) : (zix θ (.int) 133 i = true) = True := zix_T (s_133 h) h0 h1
theorem s_134 (h : Tc θ) : θ.1[134]? = some (.inr (.int, 60)) := (SHc h (by decide) (by decide) rfl)
theorem x_134 (h : Tc θ) {i : Int} (h0 : 0 ≤ i) (h1 : i < 60) : (zix θ (.int) 134 i = true) = True := zix_T (s_134 h) h0 h1
theorem s_135 (h : Tc θ) : θ.1[135]? = some (.inr (.int, 60)) := (SHc h (by decide) (by decide) rfl)
theorem x_135 (h : Tc θ) {i : Int} (h0 : 0 ≤ i) (h1 : i < 60) : (zix θ (.int) 135 i = true) = True := zix_T (s_135 h) h0 h1
theorem s_136 (h : Tc θ) : θ.1[136]? = some (.inr (.int, 60)) := (SHc h (by decide) (by decide) rfl)
theorem x_136 (h : Tc θ) {i : Int} (h0 : 0 ≤ i) (h1 : i < 60) : (zix θ (.int) 136 i = true) = True := zix_T (s_136 h) h0 h1
theorem s_137 (h : Tc θ) : θ.1[137]? = some (.inr (.int, 60)) := (SHc h (by decide) (by decide) rfl)
theorem x_137 (h : Tc θ) {i : Int} (h0 : 0 ≤ i) (h1 : i < 60) : (zix θ (.int) 137 i = true) = True := zix_T (s_137 h) h0 h1
theorem s_138 (h : Tm θ) : θ.1[138]? = some (.inl 12) := (SHm h (by decide) (by decide) rfl)
theorem b_138 (h : Tm θ) : zob θ 138 12 = true := zob_of (s_138 h)
theorem s_139 (h : Tm θ) : θ.1[139]? = some (.inr (.byte, 2000)) := (SHm h (by decide) (by decide) rfl)
theorem x_139 (h : Tm θ) {i : Int} (h0 : 0 ≤ i) (h1 : i < 2000) : (zix θ (.byte) 139 i = true) = True := zix_T (s_139 h) h0 h1
theorem n_139 (h : Tm θ) (i : Int) : (zix θ .boolean 139 i = true) = False := zix_no (s_139 h) rfl i
theorem s_140 (h : Tm θ) : θ.1[140]? = some (.inr (.byte, 2000)) := (SHm h (by decide) (by decide) rfl)
theorem x_140 (h : Tm θ) {i : Int} (h0 : 0 ≤ i) (h1 : i < 2000) : (zix θ (.byte) 140 i = true) = True := zix_T (s_140 h) h0 h1
theorem n_140 (h : Tm θ) (i : Int) : (zix θ .boolean 140 i = true) = False := zix_no (s_140 h) rfl i
theorem s_141 (h : Tm θ) : θ.1[141]? = some (.inr (.int, 403)) := (SHm h (by decide) (by decide) rfl)
theorem x_141 (h : Tm θ) {i : Int} (h0 : 0 ≤ i) (h1 : i < 403) : (zix θ (.int) 141 i = true) = True := zix_T (s_141 h) h0 h1
theorem s_142 (h : Tm θ) : θ.1[142]? = some (.inr (.int, 403)) := (SHm h (by decide) (by decide) rfl)
theorem x_142 (h : Tm θ) {i : Int} (h0 : 0 ≤ i) (h1 : i < 403) : (zix θ (.int) 142 i = true) = True := zix_T (s_142 h) h0 h1
theorem s_143 (h : Tm θ) : θ.1[143]? = some (.inr (.int, 403)) := (SHm h (by decide) (by decide) rfl)
theorem x_143 (h : Tm θ) {i : Int} (h0 : 0 ≤ i) (h1 : i < 403) : (zix θ (.int) 143 i = true) = True := zix_T (s_143 h) h0 h1
theorem s_144 (h : Tm θ) : θ.1[144]? = some (.inr (.long, 403)) := (SHm h (by decide) (by decide) rfl)
theorem x_144 (h : Tm θ) {i : Int} (h0 : 0 ≤ i) (h1 : i < 403) : (zix θ (.long) 144 i = true) = True := zix_T (s_144 h) h0 h1
theorem s_145 (h : Tm θ) : θ.1[145]? = some (.inr (.long, 33)) := (SHm h (by decide) (by decide) rfl)
theorem x_145 (h : Tm θ) {i : Int} (h0 : 0 ≤ i) (h1 : i < 33) : (zix θ (.long) 145 i = true) = True := zix_T (s_145 h) h0 h1
theorem s_146 (h : Tm θ) : θ.1[146]? = some (.inr (.long, 6)) := (SHm h (by decide) (by decide) rfl)
theorem x_146 (h : Tm θ) {i : Int} (h0 : 0 ≤ i) (h1 : i < 6) : (zix θ (.long) 146 i = true) = True := zix_T (s_146 h) h0 h1
theorem s_147 (h : Tm θ) : θ.1[147]? = some (.inr (.int, 2)) := (SHm h (by decide) (by decide) rfl)
theorem x_147 (h : Tm θ) {i : Int} (h0 : 0 ≤ i) (h1 : i < 2) : (zix θ (.int) 147 i = true) = True := zix_T (s_147 h) h0 h1
theorem s_148 (h : Tm θ) : θ.1[148]? = some (.inr (.int, 2)) := (SHm h (by decide) (by decide) rfl)
theorem x_148 (h : Tm θ) {i : Int} (h0 : 0 ≤ i) (h1 : i < 2) : (zix θ (.int) 148 i = true) = True := zix_T (s_148 h) h0 h1
theorem s_149 (h : Tm θ) : θ.1[149]? = some (.inr (.int, 2)) := (SHm h (by decide) (by decide) rfl)
theorem x_149 (h : Tm θ) {i : Int} (h0 : 0 ≤ i) (h1 : i < 2) : (zix θ (.int) 149 i = true) = True := zix_T (s_149 h) h0 h1
theorem s_150 (h : Tm θ) : θ.1[150]? = some (.inr (.int, 12)) := (SHm h (by decide) (by decide) rfl)
theorem x_150 (h : Tm θ) {i : Int} (h0 : 0 ≤ i) (h1 : i < 12) : (zix θ (.int) 150 i = true) = True := zix_T (s_150 h) h0 h1
theorem s_151 (h : Tm θ) : θ.1[151]? = some (.inr (.int, 6)) := (SHm h (by decide) (by decide) rfl)
theorem x_151 (h : Tm θ) {i : Int} (h0 : 0 ≤ i) (h1 : i < 6) : (zix θ (.int) 151 i = true) = True := zix_T (s_151 h) h0 h1
theorem s_152 (h : Tm θ) : θ.1[152]? = some (.inr (.int, 36)) := (SHm h (by decide) (by decide) rfl)
theorem x_152 (h : Tm θ) {i : Int} (h0 : 0 ≤ i) (h1 : i < 36) : (zix θ (.int) 152 i = true) = True := zix_T (s_152 h) h0 h1
theorem s_153 (h : Tm θ) : θ.1[153]? = some (.inr (.int, 36)) := (SHm h (by decide) (by decide) rfl)
theorem x_153 (h : Tm θ) {i : Int} (h0 : 0 ≤ i) (h1 : i < 36) : (zix θ (.int) 153 i = true) = True := zix_T (s_153 h) h0 h1
theorem s_154 (h : Tm θ) : θ.1[154]? = some (.inr (.boolean, 8)) := (SHm h (by decide) (by decide) rfl)
theorem x_154 (h : Tm θ) {i : Int} (h0 : 0 ≤ i) (h1 : i < 8) : (zix θ (.boolean) 154 i = true) = True := zix_T (s_154 h) h0 h1
theorem n_154 (h : Tm θ) (i : Int) : (zix θ .byte 154 i = true) = False := zix_no (s_154 h) rfl i
theorem s_155 (h : Tm θ) : θ.1[155]? = some (.inr (.int, 8)) := (SHm h (by decide) (by decide) rfl)
theorem x_155 (h : Tm θ) {i : Int} (h0 : 0 ≤ i) (h1 : i < 8) : (zix θ (.int) 155 i = true) = True := zix_T (s_155 h) h0 h1
theorem s_156 (h : Tm θ) : θ.1[156]? = some (.inr (.int, 8)) := (SHm h (by decide) (by decide) rfl)
theorem x_156 (h : Tm θ) {i : Int} (h0 : 0 ≤ i) (h1 : i < 8) : (zix θ (.int) 156 i = true) = True := zix_T (s_156 h) h0 h1
theorem s_157 (h : Tm θ) : θ.1[157]? = some (.inr (.int, 2)) := (SHm h (by decide) (by decide) rfl)
theorem x_157 (h : Tm θ) {i : Int} (h0 : 0 ≤ i) (h1 : i < 2) : (zix θ (.int) 157 i = true) = True := zix_T (s_157 h) h0 h1
theorem s_158 (h : Tm θ) : θ.1[158]? = some (.inr (.int, 12)) := (SHm h (by decide) (by decide) rfl)
theorem x_158 (h : Tm θ) {i : Int} (h0 : 0 ≤ i) (h1 : i < 12) : (zix θ (.int) 158 i = true) = True := zix_T (s_158 h) h0 h1
theorem s_159 (h : Tm θ) : θ.1[159]? = some (.inr (.int, 12)) := (SHm h (by decide) (by decide) rfl)
theorem x_159 (h : Tm θ) {i : Int} (h0 : 0 ≤ i) (h1 : i < 12) : (zix θ (.int) 159 i = true) = True := zix_T (s_159 h) h0 h1
theorem s_160 (h : Tm θ) : θ.1[160]? = some (.inr (.boolean, 12)) := (SHm h (by decide) (by decide) rfl)
theorem x_160 (h : Tm θ) {i : Int} (h0 : 0 ≤ i) (h1 : i < 12) : (zix θ (.boolean) 160 i = true) = True := zix_T (s_160 h) h0 h1
theorem n_160 (h : Tm θ) (i : Int) : (zix θ .byte 160 i = true) = False := zix_no (s_160 h) rfl i
theorem s_161 (h : Tm θ) : θ.1[161]? = some (.inr (.int, 300)) := (SHm h (by decide) (by decide) rfl)
theorem x_161 (h : Tm θ) {i : Int} (h0 : 0 ≤ i) (h1 : i < 300) : (zix θ (.int) 161 i = true) = True := zix_T (s_161 h) h0 h1
theorem s_162 (h : Tm θ) : θ.1[162]? = some (.inr (.boolean, 300)) := (SHm h (by decide) (by decide) rfl)
theorem x_162 (h : Tm θ) {i : Int} (h0 : 0 ≤ i) (h1 : i < 300) : (zix θ (.boolean) 162 i = true) = True := zix_T (s_162 h) h0 h1
theorem n_162 (h : Tm θ) (i : Int) : (zix θ .byte 162 i = true) = False := zix_no (s_162 h) rfl i
theorem s_163 (h : Tm θ) : θ.1[163]? = some (.inr (.boolean, 300)) := (SHm h (by decide) (by decide) rfl)
theorem x_163 (h : Tm θ) {i : Int} (h0 : 0 ≤ i) (h1 : i < 300) : (zix θ (.boolean) 163 i = true) = True := zix_T (s_163 h) h0 h1
theorem n_163 (h : Tm θ) (i : Int) : (zix θ .byte 163 i = true) = False := zix_no (s_163 h) rfl i
theorem s_164 (h : Tm θ) : θ.1[164]? = some (.inr (.int, 300)) := (SHm h (by decide) (by decide) rfl)
theorem x_164 (h : Tm θ) {i : Int} (h0 : 0 ≤ i) (h1 : i < 300) : (zix θ (.int) 164 i = true) = True := zix_T (s_164 h) h0 h1
theorem s_165 (h : Tm θ) : θ.1[165]? = some (.inr (.int, 300)) := (SHm h (by decide) (by decide) rfl)
theorem x_165 (h : Tm θ) {i : Int} (h0 : 0 ≤ i) (h1 : i < 300) : (zix θ (.int) 165 i = true) = True := zix_T (s_165 h) h0 h1
theorem s_166 (h : Tm θ) : θ.1[166]? = some (.inr (.int, 300)) := (SHm h (by decide) (by decide) rfl)
theorem x_166 (h : Tm θ) {i : Int} (h0 : 0 ≤ i) (h1 : i < 300) : (zix θ (.int) 166 i = true) = True := zix_T (s_166 h) h0 h1
theorem s_167 (h : Tm θ) : θ.1[167]? = some (.inr (.int, 840)) := (SHm h (by decide) (by decide) rfl)
theorem x_167 (h : Tm θ) {i : Int} (h0 : 0 ≤ i) (h1 : i < 840) : (zix θ (.int) 167 i = true) = True := zix_T (s_167 h) h0 h1
theorem s_168 (h : Tm θ) : θ.1[168]? = some (.inr (.int, 840)) := (SHm h (by decide) (by decide) rfl)
theorem x_168 (h : Tm θ) {i : Int} (h0 : 0 ≤ i) (h1 : i < 840) : (zix θ (.int) 168 i = true) = True := zix_T (s_168 h) h0 h1
theorem s_169 (h : Tm θ) : θ.1[169]? = some (.inr (.int, 64)) := (SHm h (by decide) (by decide) rfl)
theorem x_169 (h : Tm θ) {i : Int} (h0 : 0 ≤ i) (h1 : i < 64) : (zix θ (.int) 169 i = true) = True := zix_T (s_169 h) h0 h1
theorem s_170 (h : Tm θ) : θ.1[170]? = some (.inr (.int, 13)) := (SHm h (by decide) (by decide) rfl)
theorem x_170 (h : Tm θ) {i : Int} (h0 : 0 ≤ i) (h1 : i < 13) : (zix θ (.int) 170 i = true) = True := zix_T (s_170 h) h0 h1
theorem s_171 (h : Tm θ) : θ.1[171]? = some (.inr (.int, 400)) := (SHm h (by decide) (by decide) rfl)
theorem x_171 (h : Tm θ) {i : Int} (h0 : 0 ≤ i) (h1 : i < 400) : (zix θ (.int) 171 i = true) = True := zix_T (s_171 h) h0 h1
theorem s_172 (h : Tm θ) : θ.1[172]? = some (.inr (.boolean, 36)) := (SHm h (by decide) (by decide) rfl)
theorem x_172 (h : Tm θ) {i : Int} (h0 : 0 ≤ i) (h1 : i < 36) : (zix θ (.boolean) 172 i = true) = True := zix_T (s_172 h) h0 h1
theorem n_172 (h : Tm θ) (i : Int) : (zix θ .byte 172 i = true) = False := zix_no (s_172 h) rfl i
theorem s_173 (h : Tm θ) : θ.1[173]? = some (.inr (.boolean, 36)) := (SHm h (by decide) (by decide) rfl)
theorem x_173 (h : Tm θ) {i : Int} (h0 : 0 ≤ i) (h1 : i < 36) : (zix θ (.boolean) 173 i = true) = True := zix_T (s_173 h) h0 h1
theorem n_173 (h : Tm θ) (i : Int) : (zix θ .byte 173 i = true) = False := zix_no (s_173 h) rfl i
theorem s_174 (h : Tm θ) : θ.1[174]? = some (.inr (.boolean, 36)) := (SHm h (by decide) (by decide) rfl)
theorem x_174 (h : Tm θ) {i : Int} (h0 : 0 ≤ i) (h1 : i < 36) : (zix θ (.boolean) 174 i = true) = True := zix_T (s_174 h) h0 h1
theorem n_174 (h : Tm θ) (i : Int) : (zix θ .byte 174 i = true) = False := zix_no (s_174 h) rfl i
theorem s_175 (h : Tm θ) : θ.1[175]? = some (.inr (.int, 36)) := (SHm h (by decide) (by decide) rfl)
theorem x_175 (h : Tm θ) {i : Int} (h0 : 0 ≤ i) (h1 : i < 36) : (zix θ (.int) 175 i = true) = True := zix_T (s_175 h) h0 h1
theorem s_176 (h : Tm θ) : θ.1[176]? = some (.inr (.int, 36)) := (SHm h (by decide) (by decide) rfl)
theorem x_176 (h : Tm θ) {i : Int} (h0 : 0 ≤ i) (h1 : i < 36) : (zix θ (.int) 176 i = true) = True := zix_T (s_176 h) h0 h1
theorem s_177 (h : Tm θ) : θ.1[177]? = some (.inr (.boolean, 6)) := (SHm h (by decide) (by decide) rfl)
theorem x_177 (h : Tm θ) {i : Int} (h0 : 0 ≤ i) (h1 : i < 6) : (zix θ (.boolean) 177 i = true) = True := zix_T (s_177 h) h0 h1
theorem n_177 (h : Tm θ) (i : Int) : (zix θ .byte 177 i = true) = False := zix_no (s_177 h) rfl i
theorem s_178 (h : Tm θ) : θ.1[178]? = some (.inr (.int, 480)) := (SHm h (by decide) (by decide) rfl)
theorem x_178 (h : Tm θ) {i : Int} (h0 : 0 ≤ i) (h1 : i < 480) : (zix θ (.int) 178 i = true) = True := zix_T (s_178 h) h0 h1
theorem s_179 (h : Tm θ) : θ.1[179]? = some (.inr (.int, 8)) := (SHm h (by decide) (by decide) rfl)
theorem x_179 (h : Tm θ) {i : Int} (h0 : 0 ≤ i) (h1 : i < 8) : (zix θ (.int) 179 i = true) = True := zix_T (s_179 h) h0 h1
theorem s_180 (h : Tm θ) : θ.1[180]? = some (.inr (.int, 8)) := (SHm h (by decide) (by decide) rfl)
theorem x_180 (h : Tm θ) {i : Int} (h0 : 0 ≤ i) (h1 : i < 8) : (zix θ (.int) 180 i = true) = True := zix_T (s_180 h) h0 h1
theorem s_181 (h : Tm θ) : θ.1[181]? = some (.inr (.int, 4)) := (SHm h (by decide) (by decide) rfl)
theorem x_181 (h : Tm θ) {i : Int} (h0 : 0 ≤ i) (h1 : i < 4) : (zix θ (.int) 181 i = true) = True := zix_T (s_181 h) h0 h1
theorem s_182 (h : Tm θ) : θ.1[182]? = some (.inr (.int, 4)) := (SHm h (by decide) (by decide) rfl)
theorem x_182 (h : Tm θ) {i : Int} (h0 : 0 ≤ i) (h1 : i < 4) : (zix θ (.int) 182 i = true) = True := zix_T (s_182 h) h0 h1
theorem s_183 (h : Tm θ) : θ.1[183]? = some (.inr (.int, 4)) := (SHm h (by decide) (by decide) rfl)
theorem x_183 (h : Tm θ) {i : Int} (h0 : 0 ≤ i) (h1 : i < 4) : (zix θ (.int) 183 i = true) = True := zix_T (s_183 h) h0 h1
theorem s_184 (h : Tm θ) : θ.1[184]? = some (.inr (.boolean, 36)) := (SHm h (by decide) (by decide) rfl)
theorem x_184 (h : Tm θ) {i : Int} (h0 : 0 ≤ i) (h1 : i < 36) : (zix θ (.boolean) 184 i = true) = True := zix_T (s_184 h) h0 h1
theorem n_184 (h : Tm θ) (i : Int) : (zix θ .byte 184 i = true) = False := zix_no (s_184 h) rfl i
theorem s_185 (h : Tm θ) : θ.1[185]? = some (.inr (.int, 36)) := (SHm h (by decide) (by decide) rfl)
theorem x_185 (h : Tm θ) {i : Int} (h0 : 0 ≤ i) (h1 : i < 36) : (zix θ (.int) 185 i = true) = True := zix_T (s_185 h) h0 h1
theorem s_186 (h : Tm θ) : θ.1[186]? = some (.inr (.int, 36)) := (SHm h (by decide) (by decide) rfl)
theorem x_186 (h : Tm θ) {i : Int} (h0 : 0 ≤ i) (h1 : i < 36) : (zix θ (.int) 186 i = true) = True := zix_T (s_186 h) h0 h1
theorem s_187 (h : Tm θ) : θ.1[187]? = some (.inr (.int, 480)) := (SHm h (by decide) (by decide) rfl)
theorem x_187 (h : Tm θ) {i : Int} (h0 : 0 ≤ i) (h1 : i < 480) : (zix θ (.int) 187 i = true) = True := zix_T (s_187 h) h0 h1
theorem s_188 (h : Tm θ) : θ.1[188]? = some (.inr (.int, 36)) := (SHm h (by decide) (by decide) rfl)
theorem x_188 (h : Tm θ) {i : Int} (h0 : 0 ≤ i) (h1 : i < 36) : (zix θ (.int) 188 i = true) = True := zix_T (s_188 h) h0 h1
theorem s_189 (h : Tm θ) : θ.1[189]? = some (.inr (.int, 12)) := (SHm h (by decide) (by decide) rfl)
theorem x_189 (h : Tm θ) {i : Int} (h0 : 0 ≤ i) (h1 : i < 12) : (zix θ (.int) 189 i = true) = True := zix_T (s_189 h) h0 h1
theorem s_190 (h : Tm θ) : θ.1[190]? = some (.inr (.int, 36)) := (SHm h (by decide) (by decide) rfl)
theorem x_190 (h : Tm θ) {i : Int} (h0 : 0 ≤ i) (h1 : i < 36) : (zix θ (.int) 190 i = true) = True := zix_T (s_190 h) h0 h1
theorem s_191 (h : Tm θ) : θ.1[191]? = some (.inr (.boolean, 36)) := (SHm h (by decide) (by decide) rfl)
theorem x_191 (h : Tm θ) {i : Int} (h0 : 0 ≤ i) (h1 : i < 36) : (zix θ (.boolean) 191 i = true) = True := zix_T (s_191 h) h0 h1
theorem n_191 (h : Tm θ) (i : Int) : (zix θ .byte 191 i = true) = False := zix_no (s_191 h) rfl i
theorem s_192 (h : Tm θ) : θ.1[192]? = some (.inr (.int, 36)) := (SHm h (by decide) (by decide) rfl)
theorem x_192 (h : Tm θ) {i : Int} (h0 : 0 ≤ i) (h1 : i < 36) : (zix θ (.int) 192 i = true) = True := zix_T (s_192 h) h0 h1
theorem s_193 (h : Tm θ) : θ.1[193]? = some (.inr (.int, 60)) := (SHm h (by decide) (by decide) rfl)
theorem x_193 (h : Tm θ) {i : Int} (h0 : 0 ≤ i) (h1 : i < 60) : (zix θ (.int) 193 i = true) = True := zix_T (s_193 h) h0 h1
theorem s_194 (h : Tm θ) : θ.1[194]? = some (.inr (.int, 60)) := (SHm h (by decide) (by decide) rfl)
theorem x_194 (h : Tm θ) {i : Int} (h0 : 0 ≤ i) (h1 : i < 60) : (zix θ (.int) 194 i = true) = True := zix_T (s_194 h) h0 h1
theorem s_195 (h : Tm θ) : θ.1[195]? = some (.inr (.int, 60)) := (SHm h (by decide) (by decide) rfl)
theorem x_195 (h : Tm θ) {i : Int} (h0 : 0 ≤ i) (h1 : i < 60) : (zix θ (.int) 195 i = true) = True := zix_T (s_195 h) h0 h1
theorem s_196 (h : Tm θ) : θ.1[196]? = some (.inr (.int, 60)) := (SHm h (by decide) (by decide) rfl)
theorem x_196 (h : Tm θ) {i : Int} (h0 : 0 ≤ i) (h1 : i < 60) : (zix θ (.int) 196 i = true) = True := zix_T (s_196 h) h0 h1
theorem s_197 (h : Tm θ) : θ.1[197]? = some (.inr (.int, 60)) := (SHm h (by decide) (by decide) rfl)
theorem x_197 (h : Tm θ) {i : Int} (h0 : 0 ≤ i) (h1 : i < 60) : (zix θ (.int) 197 i = true) = True := zix_T (s_197 h) h0 h1
theorem s_198 (h : Tm θ) : θ.1[198]? = some (.inr (.boolean, 3)) := (SHm h (by decide) (by decide) rfl)
theorem x_198 (h : Tm θ) {i : Int} (h0 : 0 ≤ i) (h1 : i < 3) : (zix θ (.boolean) 198 i = true) = True := zix_T (s_198 h) h0 h1
theorem n_198 (h : Tm θ) (i : Int) : (zix θ .byte 198 i = true) = False := zix_no (s_198 h) rfl i
theorem s_199 (h : Tm θ) : θ.1[199]? = some (.inr (.boolean, 108)) := (SHm h (by decide) (by decide) rfl)
theorem x_199 (h : Tm θ) {i : Int} (h0 : 0 ≤ i) (h1 : i < 108) : (zix θ (.boolean) 199 i = true) = True := zix_T (s_199 h) h0 h1
theorem n_199 (h : Tm θ) (i : Int) : (zix θ .byte 199 i = true) = False := zix_no (s_199 h) rfl i
theorem s_200 (h : Tm θ) : θ.1[200]? = some (.inr (.boolean, 108)) := (SHm h (by decide) (by decide) rfl)
theorem x_200 (h : Tm θ) {i : Int} (h0 : 0 ≤ i) (h1 : i < 108) : (zix θ (.boolean) 200 i = true) = True := zix_T (s_200 h) h0 h1
theorem n_200 (h : Tm θ) (i : Int) : (zix θ .byte 200 i = true) = False := zix_no (s_200 h) rfl i
theorem s_201 (h : Tm θ) : θ.1[201]? = some (.inr (.boolean, 108)) := (SHm h (by decide) (by decide) rfl)
theorem x_201 (h : Tm θ) {i : Int} (h0 : 0 ≤ i) (h1 : i < 108) : (zix θ (.boolean) 201 i = true) = True := zix_T (s_201 h) h0 h1
theorem n_201 (h : Tm θ) (i : Int) : (zix θ .byte 201 i = true) = False := zix_no (s_201 h) rfl i
theorem s_202 (h : Tm θ) : θ.1[202]? = some (.inr (.int, 108)) := (SHm h (by decide) (by decide) rfl)
theorem x_202 (h : Tm θ) {i : Int} (h0 : 0 ≤ i) (h1 : i < 108) : (zix θ (.int) 202 i = true) = True := zix_T (s_202 h) h0 h1
theorem s_203 (h : Tm θ) : θ.1[203]? = some (.inr (.int, 108)) := (SHm h (by decide) (by decide) rfl)
theorem x_203 (h : Tm θ) {i : Int} (h0 : 0 ≤ i) (h1 : i < 108) : (zix θ (.int) 203 i = true) = True := zix_T (s_203 h) h0 h1
theorem s_204 (h : Tm θ) : θ.1[204]? = some (.inr (.boolean, 18)) := (SHm h (by decide) (by decide) rfl)
theorem x_204 (h : Tm θ) {i : Int} (h0 : 0 ≤ i) (h1 : i < 18) : (zix θ (.boolean) 204 i = true) = True := zix_T (s_204 h) h0 h1
theorem n_204 (h : Tm θ) (i : Int) : (zix θ .byte 204 i = true) = False := zix_no (s_204 h) rfl i
theorem s_205 (h : Tm θ) : θ.1[205]? = some (.inr (.boolean, 3)) := (SHm h (by decide) (by decide) rfl)
theorem x_205 (h : Tm θ) {i : Int} (h0 : 0 ≤ i) (h1 : i < 3) : (zix θ (.boolean) 205 i = true) = True := zix_T (s_205 h) h0 h1
theorem n_205 (h : Tm θ) (i : Int) : (zix θ .byte 205 i = true) = False := zix_no (s_205 h) rfl i
theorem s_206 (h : Tm θ) : θ.1[206]? = some (.inr (.int, 1440)) := (SHm h (by decide) (by decide) rfl)
theorem x_206 (h : Tm θ) {i : Int} (h0 : 0 ≤ i) (h1 : i < 1440) : (zix θ (.int) 206 i = true) = True := zix_T (s_206 h) h0 h1
theorem s_207 (h : Tm θ) : θ.1[207]? = some (.inr (.int, 3)) := (SHm h (by decide) (by decide) rfl)
theorem x_207 (h : Tm θ) {i : Int} (h0 : 0 ≤ i) (h1 : i < 3) : (zix θ (.int) 207 i = true) = True := zix_T (s_207 h) h0 h1
theorem s_208 (h : Tm θ) : θ.1[208]? = some (.inr (.int, 24)) := (SHm h (by decide) (by decide) rfl)
theorem x_208 (h : Tm θ) {i : Int} (h0 : 0 ≤ i) (h1 : i < 24) : (zix θ (.int) 208 i = true) = True := zix_T (s_208 h) h0 h1
theorem s_209 (h : Tm θ) : θ.1[209]? = some (.inr (.int, 24)) := (SHm h (by decide) (by decide) rfl)
theorem x_209 (h : Tm θ) {i : Int} (h0 : 0 ≤ i) (h1 : i < 24) : (zix θ (.int) 209 i = true) = True := zix_T (s_209 h) h0 h1
theorem s_210 (h : Tm θ) : θ.1[210]? = some (.inr (.int, 3)) := (SHm h (by decide) (by decide) rfl)
theorem x_210 (h : Tm θ) {i : Int} (h0 : 0 ≤ i) (h1 : i < 3) : (zix θ (.int) 210 i = true) = True := zix_T (s_210 h) h0 h1
theorem s_211 (h : Tm θ) : θ.1[211]? = some (.inr (.int, 12)) := (SHm h (by decide) (by decide) rfl)
theorem x_211 (h : Tm θ) {i : Int} (h0 : 0 ≤ i) (h1 : i < 12) : (zix θ (.int) 211 i = true) = True := zix_T (s_211 h) h0 h1
theorem s_212 (h : Tm θ) : θ.1[212]? = some (.inr (.int, 12)) := (SHm h (by decide) (by decide) rfl)
theorem x_212 (h : Tm θ) {i : Int} (h0 : 0 ≤ i) (h1 : i < 12) : (zix θ (.int) 212 i = true) = True := zix_T (s_212 h) h0 h1
theorem s_213 (h : Tm θ) : θ.1[213]? = some (.inr (.int, 12)) := (SHm h (by decide) (by decide) rfl)
theorem x_213 (h : Tm θ) {i : Int} (h0 : 0 ≤ i) (h1 : i < 12) : (zix θ (.int) 213 i = true) = True := zix_T (s_213 h) h0 h1
theorem r_2_0 (h : Tc θ) : θ.2 2 0 = some 3 := h.2 (2, 0, 3) (by decide)
theorem r_2_1 (h : Tc θ) : θ.2 2 1 = some 60 := h.2 (2, 1, 60) (by decide)
theorem r_2_2 (h : Tc θ) : θ.2 2 2 = some 9 := h.2 (2, 2, 9) (by decide)
theorem r_2_3 (h : Tc θ) : θ.2 2 3 = some 40 := h.2 (2, 3, 40) (by decide)
theorem r_2_4 (h : Tc θ) : θ.2 2 4 = some 46 := h.2 (2, 4, 46) (by decide)
theorem r_2_5 (h : Tc θ) : θ.2 2 5 = some 61 := h.2 (2, 5, 61) (by decide)
theorem r_2_6 (h : Tc θ) : θ.2 2 6 = some 104 := h.2 (2, 6, 104) (by decide)
theorem r_2_7 (h : Tc θ) : θ.2 2 7 = some 114 := h.2 (2, 7, 114) (by decide)
theorem r_2_8 (h : Tc θ) : θ.2 2 8 = some 122 := h.2 (2, 8, 122) (by decide)
theorem r_2_9 (h : Tc θ) : θ.2 2 9 = some 131 := h.2 (2, 9, 131) (by decide)
theorem r_3_0 (h : Tc θ) : θ.2 3 0 = some 4 := h.2 (3, 0, 4) (by decide)
theorem r_3_1 (h : Tc θ) : θ.2 3 1 = some 5 := h.2 (3, 1, 5) (by decide)
theorem r_3_2 (h : Tc θ) : θ.2 3 2 = some 6 := h.2 (3, 2, 6) (by decide)
theorem r_3_4 (h : Tc θ) : θ.2 3 4 = some 7 := h.2 (3, 4, 7) (by decide)
theorem r_3_5 (h : Tc θ) : θ.2 3 5 = some 8 := h.2 (3, 5, 8) (by decide)
theorem r_9_0 (h : Tc θ) : θ.2 9 0 = some 10 := h.2 (9, 0, 10) (by decide)
theorem r_9_1 (h : Tc θ) : θ.2 9 1 = some 11 := h.2 (9, 1, 11) (by decide)
theorem r_12_0 (h : Tc θ) : θ.2 12 0 = some 13 := h.2 (12, 0, 13) (by decide)
theorem r_12_1 (h : Tc θ) : θ.2 12 1 = some 14 := h.2 (12, 1, 14) (by decide)
theorem r_12_2 (h : Tc θ) : θ.2 12 2 = some 15 := h.2 (12, 2, 15) (by decide)
theorem r_12_3 (h : Tc θ) : θ.2 12 3 = some 16 := h.2 (12, 3, 16) (by decide)
theorem r_12_4 (h : Tc θ) : θ.2 12 4 = some 17 := h.2 (12, 4, 17) (by decide)
theorem r_12_5 (h : Tc θ) : θ.2 12 5 = some 18 := h.2 (12, 5, 18) (by decide)
theorem r_12_6 (h : Tc θ) : θ.2 12 6 = some 19 := h.2 (12, 6, 19) (by decide)
theorem r_12_7 (h : Tc θ) : θ.2 12 7 = some 20 := h.2 (12, 7, 20) (by decide)
theorem r_12_8 (h : Tc θ) : θ.2 12 8 = some 21 := h.2 (12, 8, 21) (by decide)
theorem r_12_9 (h : Tc θ) : θ.2 12 9 = some 22 := h.2 (12, 9, 22) (by decide)
theorem r_12_10 (h : Tc θ) : θ.2 12 10 = some 23 := h.2 (12, 10, 23) (by decide)
theorem r_12_11 (h : Tc θ) : θ.2 12 11 = some 24 := h.2 (12, 11, 24) (by decide)
theorem r_12_12 (h : Tc θ) : θ.2 12 12 = some 25 := h.2 (12, 12, 25) (by decide)
theorem r_26_0 (h : Tc θ) : θ.2 26 0 = some 27 := h.2 (26, 0, 27) (by decide)
theorem r_26_1 (h : Tc θ) : θ.2 26 1 = some 28 := h.2 (26, 1, 28) (by decide)
theorem r_26_2 (h : Tc θ) : θ.2 26 2 = some 29 := h.2 (26, 2, 29) (by decide)
theorem r_26_3 (h : Tc θ) : θ.2 26 3 = some 30 := h.2 (26, 3, 30) (by decide)
theorem r_26_4 (h : Tc θ) : θ.2 26 4 = some 31 := h.2 (26, 4, 31) (by decide)
theorem r_26_5 (h : Tc θ) : θ.2 26 5 = some 32 := h.2 (26, 5, 32) (by decide)
theorem r_26_6 (h : Tc θ) : θ.2 26 6 = some 33 := h.2 (26, 6, 33) (by decide)
theorem r_26_7 (h : Tc θ) : θ.2 26 7 = some 34 := h.2 (26, 7, 34) (by decide)
theorem r_26_8 (h : Tc θ) : θ.2 26 8 = some 35 := h.2 (26, 8, 35) (by decide)
theorem r_26_9 (h : Tc θ) : θ.2 26 9 = some 36 := h.2 (26, 9, 36) (by decide)
theorem r_26_10 (h : Tc θ) : θ.2 26 10 = some 37 := h.2 (26, 10, 37) (by decide)
theorem r_26_11 (h : Tc θ) : θ.2 26 11 = some 38 := h.2 (26, 11, 38) (by decide)
theorem r_26_12 (h : Tc θ) : θ.2 26 12 = some 39 := h.2 (26, 12, 39) (by decide)
theorem r_40_0 (h : Tc θ) : θ.2 40 0 = some 41 := h.2 (40, 0, 41) (by decide)
theorem r_40_1 (h : Tc θ) : θ.2 40 1 = some 42 := h.2 (40, 1, 42) (by decide)
theorem r_40_2 (h : Tc θ) : θ.2 40 2 = some 43 := h.2 (40, 2, 43) (by decide)
theorem r_40_9 (h : Tc θ) : θ.2 40 9 = some 9 := h.2 (40, 9, 9) (by decide)
theorem r_40_10 (h : Tc θ) : θ.2 40 10 = some 44 := h.2 (40, 10, 44) (by decide)
theorem r_40_11 (h : Tc θ) : θ.2 40 11 = some 45 := h.2 (40, 11, 45) (by decide)
theorem r_46_0 (h : Tc θ) : θ.2 46 0 = some 47 := h.2 (46, 0, 47) (by decide)
theorem r_46_1 (h : Tc θ) : θ.2 46 1 = some 54 := h.2 (46, 1, 54) (by decide)
theorem r_46_2 (h : Tc θ) : θ.2 46 2 = some 55 := h.2 (46, 2, 55) (by decide)
theorem r_46_3 (h : Tc θ) : θ.2 46 3 = some 56 := h.2 (46, 3, 56) (by decide)
theorem r_46_4 (h : Tc θ) : θ.2 46 4 = some 57 := h.2 (46, 4, 57) (by decide)
theorem r_46_5 (h : Tc θ) : θ.2 46 5 = some 58 := h.2 (46, 5, 58) (by decide)
theorem r_46_6 (h : Tc θ) : θ.2 46 6 = some 59 := h.2 (46, 6, 59) (by decide)
theorem r_47_0 (h : Tc θ) : θ.2 47 0 = some 48 := h.2 (47, 0, 48) (by decide)
theorem r_48_0 (h : Tc θ) : θ.2 48 0 = some 49 := h.2 (48, 0, 49) (by decide)
theorem r_48_1 (h : Tc θ) : θ.2 48 1 = some 50 := h.2 (48, 1, 50) (by decide)
theorem r_48_2 (h : Tc θ) : θ.2 48 2 = some 51 := h.2 (48, 2, 51) (by decide)
theorem r_48_3 (h : Tc θ) : θ.2 48 3 = some 52 := h.2 (48, 3, 52) (by decide)
theorem r_48_4 (h : Tc θ) : θ.2 48 4 = some 53 := h.2 (48, 4, 53) (by decide)
theorem r_60_1 (h : Tc θ) : θ.2 60 1 = some 3 := h.2 (60, 1, 3) (by decide)
theorem r_61_0 (h : Tc θ) : θ.2 61 0 = some 62 := h.2 (61, 0, 62) (by decide)
theorem r_61_1 (h : Tc θ) : θ.2 61 1 = some 76 := h.2 (61, 1, 76) (by decide)
theorem r_61_2 (h : Tc θ) : θ.2 61 2 = some 90 := h.2 (61, 2, 90) (by decide)
theorem r_62_0 (h : Tc θ) : θ.2 62 0 = some 63 := h.2 (62, 0, 63) (by decide)
theorem r_62_1 (h : Tc θ) : θ.2 62 1 = some 70 := h.2 (62, 1, 70) (by decide)
theorem r_62_2 (h : Tc θ) : θ.2 62 2 = some 71 := h.2 (62, 2, 71) (by decide)
theorem r_62_3 (h : Tc θ) : θ.2 62 3 = some 72 := h.2 (62, 3, 72) (by decide)
theorem r_62_4 (h : Tc θ) : θ.2 62 4 = some 73 := h.2 (62, 4, 73) (by decide)
theorem r_62_5 (h : Tc θ) : θ.2 62 5 = some 74 := h.2 (62, 5, 74) (by decide)
theorem r_62_6 (h : Tc θ) : θ.2 62 6 = some 75 := h.2 (62, 6, 75) (by decide)
theorem r_63_0 (h : Tc θ) : θ.2 63 0 = some 64 := h.2 (63, 0, 64) (by decide)
theorem r_64_0 (h : Tc θ) : θ.2 64 0 = some 65 := h.2 (64, 0, 65) (by decide)
theorem r_64_1 (h : Tc θ) : θ.2 64 1 = some 66 := h.2 (64, 1, 66) (by decide)
theorem r_64_2 (h : Tc θ) : θ.2 64 2 = some 67 := h.2 (64, 2, 67) (by decide)
theorem r_64_3 (h : Tc θ) : θ.2 64 3 = some 68 := h.2 (64, 3, 68) (by decide)
theorem r_64_4 (h : Tc θ) : θ.2 64 4 = some 69 := h.2 (64, 4, 69) (by decide)
theorem r_76_0 (h : Tc θ) : θ.2 76 0 = some 77 := h.2 (76, 0, 77) (by decide)
theorem r_76_1 (h : Tc θ) : θ.2 76 1 = some 84 := h.2 (76, 1, 84) (by decide)
theorem r_76_2 (h : Tc θ) : θ.2 76 2 = some 85 := h.2 (76, 2, 85) (by decide)
theorem r_76_3 (h : Tc θ) : θ.2 76 3 = some 86 := h.2 (76, 3, 86) (by decide)
theorem r_76_4 (h : Tc θ) : θ.2 76 4 = some 87 := h.2 (76, 4, 87) (by decide)
theorem r_76_5 (h : Tc θ) : θ.2 76 5 = some 88 := h.2 (76, 5, 88) (by decide)
theorem r_76_6 (h : Tc θ) : θ.2 76 6 = some 89 := h.2 (76, 6, 89) (by decide)
theorem r_77_0 (h : Tc θ) : θ.2 77 0 = some 78 := h.2 (77, 0, 78) (by decide)
theorem r_78_0 (h : Tc θ) : θ.2 78 0 = some 79 := h.2 (78, 0, 79) (by decide)
theorem r_78_1 (h : Tc θ) : θ.2 78 1 = some 80 := h.2 (78, 1, 80) (by decide)
theorem r_78_2 (h : Tc θ) : θ.2 78 2 = some 81 := h.2 (78, 2, 81) (by decide)
theorem r_78_3 (h : Tc θ) : θ.2 78 3 = some 82 := h.2 (78, 3, 82) (by decide)
theorem r_78_4 (h : Tc θ) : θ.2 78 4 = some 83 := h.2 (78, 4, 83) (by decide)
theorem r_90_0 (h : Tc θ) : θ.2 90 0 = some 91 := h.2 (90, 0, 91) (by decide)
theorem r_90_1 (h : Tc θ) : θ.2 90 1 = some 98 := h.2 (90, 1, 98) (by decide)
theorem r_90_2 (h : Tc θ) : θ.2 90 2 = some 99 := h.2 (90, 2, 99) (by decide)
theorem r_90_3 (h : Tc θ) : θ.2 90 3 = some 100 := h.2 (90, 3, 100) (by decide)
theorem r_90_4 (h : Tc θ) : θ.2 90 4 = some 101 := h.2 (90, 4, 101) (by decide)
theorem r_90_5 (h : Tc θ) : θ.2 90 5 = some 102 := h.2 (90, 5, 102) (by decide)
theorem r_90_6 (h : Tc θ) : θ.2 90 6 = some 103 := h.2 (90, 6, 103) (by decide)
theorem r_91_0 (h : Tc θ) : θ.2 91 0 = some 92 := h.2 (91, 0, 92) (by decide)
theorem r_92_0 (h : Tc θ) : θ.2 92 0 = some 93 := h.2 (92, 0, 93) (by decide)
theorem r_92_1 (h : Tc θ) : θ.2 92 1 = some 94 := h.2 (92, 1, 94) (by decide)
theorem r_92_2 (h : Tc θ) : θ.2 92 2 = some 95 := h.2 (92, 2, 95) (by decide)
theorem r_92_3 (h : Tc θ) : θ.2 92 3 = some 96 := h.2 (92, 3, 96) (by decide)
theorem r_92_4 (h : Tc θ) : θ.2 92 4 = some 97 := h.2 (92, 4, 97) (by decide)
theorem r_104_0 (h : Tc θ) : θ.2 104 0 = some 105 := h.2 (104, 0, 105) (by decide)
theorem r_104_1 (h : Tc θ) : θ.2 104 1 = some 106 := h.2 (104, 1, 106) (by decide)
theorem r_104_6 (h : Tc θ) : θ.2 104 6 = some 40 := h.2 (104, 6, 40) (by decide)
theorem r_104_7 (h : Tc θ) : θ.2 104 7 = some 46 := h.2 (104, 7, 46) (by decide)
theorem r_104_8 (h : Tc θ) : θ.2 104 8 = some 107 := h.2 (104, 8, 107) (by decide)
theorem r_107_0 (h : Tc θ) : θ.2 107 0 = some 108 := h.2 (107, 0, 108) (by decide)
theorem r_108_0 (h : Tc θ) : θ.2 108 0 = some 109 := h.2 (108, 0, 109) (by decide)
theorem r_108_1 (h : Tc θ) : θ.2 108 1 = some 110 := h.2 (108, 1, 110) (by decide)
theorem r_108_2 (h : Tc θ) : θ.2 108 2 = some 111 := h.2 (108, 2, 111) (by decide)
theorem r_108_3 (h : Tc θ) : θ.2 108 3 = some 112 := h.2 (108, 3, 112) (by decide)
theorem r_108_4 (h : Tc θ) : θ.2 108 4 = some 113 := h.2 (108, 4, 113) (by decide)
theorem r_114_0 (h : Tc θ) : θ.2 114 0 = some 40 := h.2 (114, 0, 40) (by decide)
theorem r_114_1 (h : Tc θ) : θ.2 114 1 = some 46 := h.2 (114, 1, 46) (by decide)
theorem r_114_2 (h : Tc θ) : θ.2 114 2 = some 115 := h.2 (114, 2, 115) (by decide)
theorem r_115_0 (h : Tc θ) : θ.2 115 0 = some 116 := h.2 (115, 0, 116) (by decide)
theorem r_116_0 (h : Tc θ) : θ.2 116 0 = some 117 := h.2 (116, 0, 117) (by decide)
theorem r_116_1 (h : Tc θ) : θ.2 116 1 = some 118 := h.2 (116, 1, 118) (by decide)
theorem r_116_2 (h : Tc θ) : θ.2 116 2 = some 119 := h.2 (116, 2, 119) (by decide)
theorem r_116_3 (h : Tc θ) : θ.2 116 3 = some 120 := h.2 (116, 3, 120) (by decide)
theorem r_116_4 (h : Tc θ) : θ.2 116 4 = some 121 := h.2 (116, 4, 121) (by decide)
theorem r_122_5 (h : Tc θ) : θ.2 122 5 = some 40 := h.2 (122, 5, 40) (by decide)
theorem r_122_6 (h : Tc θ) : θ.2 122 6 = some 46 := h.2 (122, 6, 46) (by decide)
theorem r_122_7 (h : Tc θ) : θ.2 122 7 = some 123 := h.2 (122, 7, 123) (by decide)
theorem r_122_8 (h : Tc θ) : θ.2 122 8 = some 130 := h.2 (122, 8, 130) (by decide)
theorem r_123_0 (h : Tc θ) : θ.2 123 0 = some 124 := h.2 (123, 0, 124) (by decide)
theorem r_124_0 (h : Tc θ) : θ.2 124 0 = some 125 := h.2 (124, 0, 125) (by decide)
theorem r_124_1 (h : Tc θ) : θ.2 124 1 = some 126 := h.2 (124, 1, 126) (by decide)
theorem r_124_2 (h : Tc θ) : θ.2 124 2 = some 127 := h.2 (124, 2, 127) (by decide)
theorem r_124_3 (h : Tc θ) : θ.2 124 3 = some 128 := h.2 (124, 3, 128) (by decide)
theorem r_124_4 (h : Tc θ) : θ.2 124 4 = some 129 := h.2 (124, 4, 129) (by decide)
theorem r_131_7 (h : Tc θ) : θ.2 131 7 = some 132 := h.2 (131, 7, 132) (by decide)
theorem r_131_8 (h : Tc θ) : θ.2 131 8 = some 133 := h.2 (131, 8, 133) (by decide)
theorem r_131_9 (h : Tc θ) : θ.2 131 9 = some 134 := h.2 (131, 9, 134) (by decide)
theorem r_131_10 (h : Tc θ) : θ.2 131 10 = some 135 := h.2 (131, 10, 135) (by decide)
theorem r_131_11 (h : Tc θ) : θ.2 131 11 = some 136 := h.2 (131, 11, 136) (by decide)
theorem r_131_12 (h : Tc θ) : θ.2 131 12 = some 137 := h.2 (131, 12, 137) (by decide)
theorem r_138_1 (h : Tm θ) : θ.2 138 1 = some 139 := h.2 (138, 1, 139) (by decide)
theorem r_138_3 (h : Tm θ) : θ.2 138 3 = some 140 := h.2 (138, 3, 140) (by decide)
theorem r_138_5 (h : Tm θ) : θ.2 138 5 = some 141 := h.2 (138, 5, 141) (by decide)
theorem r_138_6 (h : Tm θ) : θ.2 138 6 = some 142 := h.2 (138, 6, 142) (by decide)
theorem r_138_7 (h : Tm θ) : θ.2 138 7 = some 143 := h.2 (138, 7, 143) (by decide)
theorem r_138_8 (h : Tm θ) : θ.2 138 8 = some 144 := h.2 (138, 8, 144) (by decide)
theorem r_138_9 (h : Tm θ) : θ.2 138 9 = some 145 := h.2 (138, 9, 145) (by decide)
theorem r_138_21 (h : Tm θ) : θ.2 138 21 = some 146 := h.2 (138, 21, 146) (by decide)
theorem r_138_22 (h : Tm θ) : θ.2 138 22 = some 147 := h.2 (138, 22, 147) (by decide)
theorem r_138_23 (h : Tm θ) : θ.2 138 23 = some 148 := h.2 (138, 23, 148) (by decide)
theorem r_138_24 (h : Tm θ) : θ.2 138 24 = some 149 := h.2 (138, 24, 149) (by decide)
theorem r_138_25 (h : Tm θ) : θ.2 138 25 = some 150 := h.2 (138, 25, 150) (by decide)
theorem r_138_26 (h : Tm θ) : θ.2 138 26 = some 151 := h.2 (138, 26, 151) (by decide)
theorem r_138_27 (h : Tm θ) : θ.2 138 27 = some 152 := h.2 (138, 27, 152) (by decide)
theorem r_138_28 (h : Tm θ) : θ.2 138 28 = some 153 := h.2 (138, 28, 153) (by decide)
theorem r_138_29 (h : Tm θ) : θ.2 138 29 = some 154 := h.2 (138, 29, 154) (by decide)
theorem r_138_30 (h : Tm θ) : θ.2 138 30 = some 155 := h.2 (138, 30, 155) (by decide)
theorem r_138_31 (h : Tm θ) : θ.2 138 31 = some 156 := h.2 (138, 31, 156) (by decide)
theorem r_138_32 (h : Tm θ) : θ.2 138 32 = some 157 := h.2 (138, 32, 157) (by decide)
theorem r_138_33 (h : Tm θ) : θ.2 138 33 = some 158 := h.2 (138, 33, 158) (by decide)
theorem r_138_34 (h : Tm θ) : θ.2 138 34 = some 159 := h.2 (138, 34, 159) (by decide)
theorem r_138_35 (h : Tm θ) : θ.2 138 35 = some 160 := h.2 (138, 35, 160) (by decide)
theorem r_138_37 (h : Tm θ) : θ.2 138 37 = some 161 := h.2 (138, 37, 161) (by decide)
theorem r_138_38 (h : Tm θ) : θ.2 138 38 = some 162 := h.2 (138, 38, 162) (by decide)
theorem r_138_39 (h : Tm θ) : θ.2 138 39 = some 163 := h.2 (138, 39, 163) (by decide)
theorem r_138_40 (h : Tm θ) : θ.2 138 40 = some 164 := h.2 (138, 40, 164) (by decide)
theorem r_138_41 (h : Tm θ) : θ.2 138 41 = some 165 := h.2 (138, 41, 165) (by decide)
theorem r_138_42 (h : Tm θ) : θ.2 138 42 = some 166 := h.2 (138, 42, 166) (by decide)
theorem r_138_44 (h : Tm θ) : θ.2 138 44 = some 167 := h.2 (138, 44, 167) (by decide)
theorem r_138_45 (h : Tm θ) : θ.2 138 45 = some 168 := h.2 (138, 45, 168) (by decide)
theorem r_138_46 (h : Tm θ) : θ.2 138 46 = some 169 := h.2 (138, 46, 169) (by decide)
theorem r_138_48 (h : Tm θ) : θ.2 138 48 = some 170 := h.2 (138, 48, 170) (by decide)
theorem r_138_49 (h : Tm θ) : θ.2 138 49 = some 171 := h.2 (138, 49, 171) (by decide)
theorem r_138_51 (h : Tm θ) : θ.2 138 51 = some 172 := h.2 (138, 51, 172) (by decide)
theorem r_138_52 (h : Tm θ) : θ.2 138 52 = some 173 := h.2 (138, 52, 173) (by decide)
theorem r_138_53 (h : Tm θ) : θ.2 138 53 = some 174 := h.2 (138, 53, 174) (by decide)
theorem r_138_54 (h : Tm θ) : θ.2 138 54 = some 175 := h.2 (138, 54, 175) (by decide)
theorem r_138_55 (h : Tm θ) : θ.2 138 55 = some 176 := h.2 (138, 55, 176) (by decide)
theorem r_138_56 (h : Tm θ) : θ.2 138 56 = some 177 := h.2 (138, 56, 177) (by decide)
theorem r_138_58 (h : Tm θ) : θ.2 138 58 = some 178 := h.2 (138, 58, 178) (by decide)
theorem r_138_60 (h : Tm θ) : θ.2 138 60 = some 179 := h.2 (138, 60, 179) (by decide)
theorem r_138_61 (h : Tm θ) : θ.2 138 61 = some 180 := h.2 (138, 61, 180) (by decide)
theorem r_138_63 (h : Tm θ) : θ.2 138 63 = some 181 := h.2 (138, 63, 181) (by decide)
theorem r_138_64 (h : Tm θ) : θ.2 138 64 = some 182 := h.2 (138, 64, 182) (by decide)
theorem r_138_65 (h : Tm θ) : θ.2 138 65 = some 183 := h.2 (138, 65, 183) (by decide)
theorem r_138_66 (h : Tm θ) : θ.2 138 66 = some 184 := h.2 (138, 66, 184) (by decide)
theorem r_138_67 (h : Tm θ) : θ.2 138 67 = some 185 := h.2 (138, 67, 185) (by decide)
theorem r_138_68 (h : Tm θ) : θ.2 138 68 = some 186 := h.2 (138, 68, 186) (by decide)
theorem r_138_70 (h : Tm θ) : θ.2 138 70 = some 187 := h.2 (138, 70, 187) (by decide)
theorem r_138_71 (h : Tm θ) : θ.2 138 71 = some 188 := h.2 (138, 71, 188) (by decide)
theorem r_138_73 (h : Tm θ) : θ.2 138 73 = some 189 := h.2 (138, 73, 189) (by decide)
theorem r_138_74 (h : Tm θ) : θ.2 138 74 = some 190 := h.2 (138, 74, 190) (by decide)
theorem r_138_75 (h : Tm θ) : θ.2 138 75 = some 191 := h.2 (138, 75, 191) (by decide)
theorem r_138_76 (h : Tm θ) : θ.2 138 76 = some 192 := h.2 (138, 76, 192) (by decide)
theorem r_138_79 (h : Tm θ) : θ.2 138 79 = some 193 := h.2 (138, 79, 193) (by decide)
theorem r_138_80 (h : Tm θ) : θ.2 138 80 = some 194 := h.2 (138, 80, 194) (by decide)
theorem r_138_81 (h : Tm θ) : θ.2 138 81 = some 195 := h.2 (138, 81, 195) (by decide)
theorem r_138_82 (h : Tm θ) : θ.2 138 82 = some 196 := h.2 (138, 82, 196) (by decide)
theorem r_138_83 (h : Tm θ) : θ.2 138 83 = some 197 := h.2 (138, 83, 197) (by decide)
theorem r_138_84 (h : Tm θ) : θ.2 138 84 = some 198 := h.2 (138, 84, 198) (by decide)
theorem r_138_85 (h : Tm θ) : θ.2 138 85 = some 199 := h.2 (138, 85, 199) (by decide)
theorem r_138_86 (h : Tm θ) : θ.2 138 86 = some 200 := h.2 (138, 86, 200) (by decide)
theorem r_138_87 (h : Tm θ) : θ.2 138 87 = some 201 := h.2 (138, 87, 201) (by decide)
theorem r_138_88 (h : Tm θ) : θ.2 138 88 = some 202 := h.2 (138, 88, 202) (by decide)
theorem r_138_89 (h : Tm θ) : θ.2 138 89 = some 203 := h.2 (138, 89, 203) (by decide)
theorem r_138_90 (h : Tm θ) : θ.2 138 90 = some 204 := h.2 (138, 90, 204) (by decide)
theorem r_138_91 (h : Tm θ) : θ.2 138 91 = some 205 := h.2 (138, 91, 205) (by decide)
theorem r_138_92 (h : Tm θ) : θ.2 138 92 = some 206 := h.2 (138, 92, 206) (by decide)
theorem r_138_93 (h : Tm θ) : θ.2 138 93 = some 207 := h.2 (138, 93, 207) (by decide)
theorem r_138_94 (h : Tm θ) : θ.2 138 94 = some 208 := h.2 (138, 94, 208) (by decide)
theorem r_138_95 (h : Tm θ) : θ.2 138 95 = some 209 := h.2 (138, 95, 209) (by decide)
theorem r_138_96 (h : Tm θ) : θ.2 138 96 = some 210 := h.2 (138, 96, 210) (by decide)
theorem r_138_97 (h : Tm θ) : θ.2 138 97 = some 211 := h.2 (138, 97, 211) (by decide)
theorem r_138_98 (h : Tm θ) : θ.2 138 98 = some 212 := h.2 (138, 98, 212) (by decide)
theorem r_138_99 (h : Tm θ) : θ.2 138 99 = some 213 := h.2 (138, 99, 213) (by decide)
def TSH : List (Nat ⊕ (FieldType × Nat)) := [.inr (.int, 9), .inr (.int, 6), .inr (.int, 6), .inr (.long, 6), .inr (.int, 400), .inr (.int, 4), .inr (.int, 4), .inr (.int, 18), .inr (.int, 18), .inr (.int, 3), .inr (.int, 36), .inr (.int, 36), .inr (.int, 36)]
def Tq (θ : zS) (T : Nat) : Prop := 2 ≤ T ∧ θ.1[T]? = some (.inl 9) ∧ (∀ k, k < 13 → θ.1[T + (k + 1)]? = TSH[k]?) ∧ ∀ k, k < 13 → θ.2 T k = some (T + (k + 1))
theorem Tq2 {T : Nat} (h : Tq θ T) : 2 ≤ T := h.1
theorem Tq1 {T : Nat} (h : Tq θ T) : 1 ≤ T := Nat.le_of_succ_le h.1
theorem tb {T : Nat} (h : Tq θ T) : zob θ T 9 = true := zob_of h.2.1
theorem tr_0 {T : Nat} (h : Tq θ T) : θ.2 T 0 = some (T + 1) := h.2.2.2 0 (by decide)
theorem ts_1 {T : Nat} (h : Tq θ T) : θ.1[T + 1]? = some (.inr (.int, 9)) := (h.2.2.1 0 (by decide)).trans rfl
theorem tx_1 {T : Nat} (h : Tq θ T) {i : Int} (h0 : 0 ≤ i) (h1 : i < 9) : (zix θ (.int) (T + 1) i = true) = True := zix_T (ts_1 h) h0 h1
theorem tr_1 {T : Nat} (h : Tq θ T) : θ.2 T 1 = some (T + 2) := h.2.2.2 1 (by decide)
theorem ts_2 {T : Nat} (h : Tq θ T) : θ.1[T + 2]? = some (.inr (.int, 6)) := (h.2.2.1 1 (by decide)).trans rfl
theorem tx_2 {T : Nat} (h : Tq θ T) {i : Int} (h0 : 0 ≤ i) (h1 : i < 6) : (zix θ (.int) (T + 2) i = true) = True := zix_T (ts_2 h) h0 h1
theorem tr_2 {T : Nat} (h : Tq θ T) : θ.2 T 2 = some (T + 3) := h.2.2.2 2 (by decide)
theorem ts_3 {T : Nat} (h : Tq θ T) : θ.1[T + 3]? = some (.inr (.int, 6)) := (h.2.2.1 2 (by decide)).trans rfl
theorem tx_3 {T : Nat} (h : Tq θ T) {i : Int} (h0 : 0 ≤ i) (h1 : i < 6) : (zix θ (.int) (T + 3) i = true) = True := zix_T (ts_3 h) h0 h1
theorem tr_3 {T : Nat} (h : Tq θ T) : θ.2 T 3 = some (T + 4) := h.2.2.2 3 (by decide)
theorem ts_4 {T : Nat} (h : Tq θ T) : θ.1[T + 4]? = some (.inr (.long, 6)) := (h.2.2.1 3 (by decide)).trans rfl
theorem tx_4 {T : Nat} (h : Tq θ T) {i : Int} (h0 : 0 ≤ i) (h1 : i < 6) : (zix θ (.long) (T + 4) i = true) = True := zix_T (ts_4 h) h0 h1
theorem tr_4 {T : Nat} (h : Tq θ T) : θ.2 T 4 = some (T + 5) := h.2.2.2 4 (by decide)
theorem ts_5 {T : Nat} (h : Tq θ T) : θ.1[T + 5]? = some (.inr (.int, 400)) := (h.2.2.1 4 (by decide)).trans rfl
theorem tx_5 {T : Nat} (h : Tq θ T) {i : Int} (h0 : 0 ≤ i) (h1 : i < 400) : (zix θ (.int) (T + 5) i = true) = True := zix_T (ts_5 h) h0 h1
theorem tr_5 {T : Nat} (h : Tq θ T) : θ.2 T 5 = some (T + 6) := h.2.2.2 5 (by decide)
theorem ts_6 {T : Nat} (h : Tq θ T) : θ.1[T + 6]? = some (.inr (.int, 4)) := (h.2.2.1 5 (by decide)).trans rfl
theorem tx_6 {T : Nat} (h : Tq θ T) {i : Int} (h0 : 0 ≤ i) (h1 : i < 4) : (zix θ (.int) (T + 6) i = true) = True := zix_T (ts_6 h) h0 h1
theorem tr_6 {T : Nat} (h : Tq θ T) : θ.2 T 6 = some (T + 7) := h.2.2.2 6 (by decide)
theorem ts_7 {T : Nat} (h : Tq θ T) : θ.1[T + 7]? = some (.inr (.int, 4)) := (h.2.2.1 6 (by decide)).trans rfl
theorem tx_7 {T : Nat} (h : Tq θ T) {i : Int} (h0 : 0 ≤ i) (h1 : i < 4) : (zix θ (.int) (T + 7) i = true) = True := zix_T (ts_7 h) h0 h1
theorem tr_7 {T : Nat} (h : Tq θ T) : θ.2 T 7 = some (T + 8) := h.2.2.2 7 (by decide)
theorem ts_8 {T : Nat} (h : Tq θ T) : θ.1[T + 8]? = some (.inr (.int, 18)) := (h.2.2.1 7 (by decide)).trans rfl
theorem tx_8 {T : Nat} (h : Tq θ T) {i : Int} (h0 : 0 ≤ i) (h1 : i < 18) : (zix θ (.int) (T + 8) i = true) = True := zix_T (ts_8 h) h0 h1
theorem tr_8 {T : Nat} (h : Tq θ T) : θ.2 T 8 = some (T + 9) := h.2.2.2 8 (by decide)
theorem ts_9 {T : Nat} (h : Tq θ T) : θ.1[T + 9]? = some (.inr (.int, 18)) := (h.2.2.1 8 (by decide)).trans rfl
theorem tx_9 {T : Nat} (h : Tq θ T) {i : Int} (h0 : 0 ≤ i) (h1 : i < 18) : (zix θ (.int) (T + 9) i = true) = True := zix_T (ts_9 h) h0 h1
theorem tr_9 {T : Nat} (h : Tq θ T) : θ.2 T 9 = some (T + 10) := h.2.2.2 9 (by decide)
theorem ts_10 {T : Nat} (h : Tq θ T) : θ.1[T + 10]? = some (.inr (.int, 3)) := (h.2.2.1 9 (by decide)).trans rfl
theorem tx_10 {T : Nat} (h : Tq θ T) {i : Int} (h0 : 0 ≤ i) (h1 : i < 3) : (zix θ (.int) (T + 10) i = true) = True := zix_T (ts_10 h) h0 h1
theorem tr_10 {T : Nat} (h : Tq θ T) : θ.2 T 10 = some (T + 11) := h.2.2.2 10 (by decide)
theorem ts_11 {T : Nat} (h : Tq θ T) : θ.1[T + 11]? = some (.inr (.int, 36)) := (h.2.2.1 10 (by decide)).trans rfl
theorem tx_11 {T : Nat} (h : Tq θ T) {i : Int} (h0 : 0 ≤ i) (h1 : i < 36) : (zix θ (.int) (T + 11) i = true) = True := zix_T (ts_11 h) h0 h1
theorem tr_11 {T : Nat} (h : Tq θ T) : θ.2 T 11 = some (T + 12) := h.2.2.2 11 (by decide)
theorem ts_12 {T : Nat} (h : Tq θ T) : θ.1[T + 12]? = some (.inr (.int, 36)) := (h.2.2.1 11 (by decide)).trans rfl
theorem tx_12 {T : Nat} (h : Tq θ T) {i : Int} (h0 : 0 ≤ i) (h1 : i < 36) : (zix θ (.int) (T + 12) i = true) = True := zix_T (ts_12 h) h0 h1
theorem tr_12 {T : Nat} (h : Tq θ T) : θ.2 T 12 = some (T + 13) := h.2.2.2 12 (by decide)
theorem ts_13 {T : Nat} (h : Tq θ T) : θ.1[T + 13]? = some (.inr (.int, 36)) := (h.2.2.1 12 (by decide)).trans rfl
theorem tx_13 {T : Nat} (h : Tq θ T) {i : Int} (h0 : 0 ≤ i) (h1 : i < 36) : (zix θ (.int) (T + 13) i = true) = True := zix_T (ts_13 h) h0 h1
theorem Tq_12 (h : Tc θ) : Tq θ 12 := by
  refine ⟨by decide, s_12 h, ?_, ?_⟩
  · intro k hk
    have : k = 0 ∨ k = 1 ∨ k = 2 ∨ k = 3 ∨ k = 4 ∨ k = 5 ∨ k = 6 ∨ k = 7 ∨ k = 8 ∨ k = 9 ∨ k = 10 ∨ k = 11 ∨ k = 12 := by omega
    rcases this with rfl | rfl | rfl | rfl | rfl | rfl | rfl | rfl | rfl | rfl | rfl | rfl | rfl <;> exact (h.1 _ (by decide) (by decide)).trans rfl
  · intro k hk
    have : k = 0 ∨ k = 1 ∨ k = 2 ∨ k = 3 ∨ k = 4 ∨ k = 5 ∨ k = 6 ∨ k = 7 ∨ k = 8 ∨ k = 9 ∨ k = 10 ∨ k = 11 ∨ k = 12 := by omega
    rcases this with rfl | rfl | rfl | rfl | rfl | rfl | rfl | rfl | rfl | rfl | rfl | rfl | rfl
    · exact r_12_0 h
    · exact r_12_1 h
    · exact r_12_2 h
    · exact r_12_3 h
    · exact r_12_4 h
    · exact r_12_5 h
    · exact r_12_6 h
    · exact r_12_7 h
    · exact r_12_8 h
    · exact r_12_9 h
    · exact r_12_10 h
    · exact r_12_11 h
    · exact r_12_12 h
theorem Tq_26 (h : Tc θ) : Tq θ 26 := by
  refine ⟨by decide, s_26 h, ?_, ?_⟩
  · intro k hk
    have : k = 0 ∨ k = 1 ∨ k = 2 ∨ k = 3 ∨ k = 4 ∨ k = 5 ∨ k = 6 ∨ k = 7 ∨ k = 8 ∨ k = 9 ∨ k = 10 ∨ k = 11 ∨ k = 12 := by omega
    rcases this with rfl | rfl | rfl | rfl | rfl | rfl | rfl | rfl | rfl | rfl | rfl | rfl | rfl <;> exact (h.1 _ (by decide) (by decide)).trans rfl
  · intro k hk
    have : k = 0 ∨ k = 1 ∨ k = 2 ∨ k = 3 ∨ k = 4 ∨ k = 5 ∨ k = 6 ∨ k = 7 ∨ k = 8 ∨ k = 9 ∨ k = 10 ∨ k = 11 ∨ k = 12 := by omega
    rcases this with rfl | rfl | rfl | rfl | rfl | rfl | rfl | rfl | rfl | rfl | rfl | rfl | rfl
    · exact r_26_0 h
    · exact r_26_1 h
    · exact r_26_2 h
    · exact r_26_3 h
    · exact r_26_4 h
    · exact r_26_5 h
    · exact r_26_6 h
    · exact r_26_7 h
    · exact r_26_8 h
    · exact r_26_9 h
    · exact r_26_10 h
    · exact r_26_11 h
    · exact r_26_12 h
def Rq (θ : zS) (r : Nat) : Prop := 2 ≤ r ∧ θ.1[r]? = some (.inl 5) ∧ θ.1[r + 1]? = some (.inr (.array .int, 5)) ∧ θ.2 r 0 = some (r + 1) ∧ (∀ k, k < 5 → θ.1[r + (k + 2)]? = some (.inr (.int, 36))) ∧ ∀ k, k < 5 → θ.2 (r + 1) k = some (r + (k + 2))
theorem Rq2 {r : Nat} (h : Rq θ r) : 2 ≤ r := h.1
theorem Rq1 {r : Nat} (h : Rq θ r) : 1 ≤ r := Nat.le_of_succ_le h.1
theorem rb {r : Nat} (h : Rq θ r) : zob θ r 5 = true := zob_of h.2.1
theorem rx_1 {r : Nat} (h : Rq θ r) {i : Int} (h0 : 0 ≤ i) (h1 : i < 5) : (zix θ (.array .int) (r + 1) i = true) = True := zix_T h.2.2.1 h0 h1
theorem rn_1 {r : Nat} (h : Rq θ r) (i : Int) : (zix θ (.object "GaleRoof$Scene") (r + 1) i = true) = False := zix_no h.2.2.1 rfl i
theorem rr_0 {r : Nat} (h : Rq θ r) : θ.2 r 0 = some (r + 1) := h.2.2.2.1
theorem rs_k {r : Nat} (h : Rq θ r) {k : Nat} (hk : k < 5) : θ.1[r + (k + 2)]? = some (.inr (.int, 36)) := h.2.2.2.2.1 k hk
theorem rm_k {r : Nat} (h : Rq θ r) {k : Nat} (hk : k < 5) : θ.2 (r + 1) k = some (r + (k + 2)) := h.2.2.2.2.2 k hk
theorem rx_k {r : Nat} (h : Rq θ r) {k : Nat} (hk : k < 5) {i : Int} (h0 : 0 ≤ i) (h1 : i < 36) : (zix θ .int (r + (k + 2)) i = true) = True := zix_T (rs_k h hk) h0 h1
theorem rs_2 {r : Nat} (h : Rq θ r) : θ.1[r + 2]? = some (.inr (.int, 36)) := rs_k h (k := 0) (by decide)
theorem rm_0 {r : Nat} (h : Rq θ r) : θ.2 (r + 1) 0 = some (r + 2) := rm_k h (k := 0) (by decide)
theorem rx_2 {r : Nat} (h : Rq θ r) {i : Int} (h0 : 0 ≤ i) (h1 : i < 36) : (zix θ .int (r + 2) i = true) = True := rx_k h (k := 0) (by decide) h0 h1
theorem rs_3 {r : Nat} (h : Rq θ r) : θ.1[r + 3]? = some (.inr (.int, 36)) := rs_k h (k := 1) (by decide)
theorem rm_1 {r : Nat} (h : Rq θ r) : θ.2 (r + 1) 1 = some (r + 3) := rm_k h (k := 1) (by decide)
theorem rx_3 {r : Nat} (h : Rq θ r) {i : Int} (h0 : 0 ≤ i) (h1 : i < 36) : (zix θ .int (r + 3) i = true) = True := rx_k h (k := 1) (by decide) h0 h1
theorem rs_4 {r : Nat} (h : Rq θ r) : θ.1[r + 4]? = some (.inr (.int, 36)) := rs_k h (k := 2) (by decide)
theorem rm_2 {r : Nat} (h : Rq θ r) : θ.2 (r + 1) 2 = some (r + 4) := rm_k h (k := 2) (by decide)
theorem rx_4 {r : Nat} (h : Rq θ r) {i : Int} (h0 : 0 ≤ i) (h1 : i < 36) : (zix θ .int (r + 4) i = true) = True := rx_k h (k := 2) (by decide) h0 h1
theorem rs_5 {r : Nat} (h : Rq θ r) : θ.1[r + 5]? = some (.inr (.int, 36)) := rs_k h (k := 3) (by decide)
theorem rm_3 {r : Nat} (h : Rq θ r) : θ.2 (r + 1) 3 = some (r + 5) := rm_k h (k := 3) (by decide)
theorem rx_5 {r : Nat} (h : Rq θ r) {i : Int} (h0 : 0 ≤ i) (h1 : i < 36) : (zix θ .int (r + 5) i = true) = True := rx_k h (k := 3) (by decide) h0 h1
theorem rs_6 {r : Nat} (h : Rq θ r) : θ.1[r + 6]? = some (.inr (.int, 36)) := rs_k h (k := 4) (by decide)
theorem rm_4 {r : Nat} (h : Rq θ r) : θ.2 (r + 1) 4 = some (r + 6) := rm_k h (k := 4) (by decide)
theorem rx_6 {r : Nat} (h : Rq θ r) {i : Int} (h0 : 0 ≤ i) (h1 : i < 36) : (zix θ .int (r + 6) i = true) = True := rx_k h (k := 4) (by decide) h0 h1
theorem Rq_47 (h : Tc θ) : Rq θ 47 := by
  refine ⟨by decide, s_47 h, s_48 h, r_47_0 h, ?_, ?_⟩
  · intro k hk
    have : k = 0 ∨ k = 1 ∨ k = 2 ∨ k = 3 ∨ k = 4 := by omega
    rcases this with rfl | rfl | rfl | rfl | rfl <;> exact (h.1 _ (by decide) (by decide)).trans rfl
  · intro k hk
    have : k = 0 ∨ k = 1 ∨ k = 2 ∨ k = 3 ∨ k = 4 := by omega
    rcases this with rfl | rfl | rfl | rfl | rfl
    · exact r_48_0 h
    · exact r_48_1 h
    · exact r_48_2 h
    · exact r_48_3 h
    · exact r_48_4 h
theorem Rq_63 (h : Tc θ) : Rq θ 63 := by
  refine ⟨by decide, s_63 h, s_64 h, r_63_0 h, ?_, ?_⟩
  · intro k hk
    have : k = 0 ∨ k = 1 ∨ k = 2 ∨ k = 3 ∨ k = 4 := by omega
    rcases this with rfl | rfl | rfl | rfl | rfl <;> exact (h.1 _ (by decide) (by decide)).trans rfl
  · intro k hk
    have : k = 0 ∨ k = 1 ∨ k = 2 ∨ k = 3 ∨ k = 4 := by omega
    rcases this with rfl | rfl | rfl | rfl | rfl
    · exact r_64_0 h
    · exact r_64_1 h
    · exact r_64_2 h
    · exact r_64_3 h
    · exact r_64_4 h
theorem Rq_77 (h : Tc θ) : Rq θ 77 := by
  refine ⟨by decide, s_77 h, s_78 h, r_77_0 h, ?_, ?_⟩
  · intro k hk
    have : k = 0 ∨ k = 1 ∨ k = 2 ∨ k = 3 ∨ k = 4 := by omega
    rcases this with rfl | rfl | rfl | rfl | rfl <;> exact (h.1 _ (by decide) (by decide)).trans rfl
  · intro k hk
    have : k = 0 ∨ k = 1 ∨ k = 2 ∨ k = 3 ∨ k = 4 := by omega
    rcases this with rfl | rfl | rfl | rfl | rfl
    · exact r_78_0 h
    · exact r_78_1 h
    · exact r_78_2 h
    · exact r_78_3 h
    · exact r_78_4 h
theorem Rq_91 (h : Tc θ) : Rq θ 91 := by
  refine ⟨by decide, s_91 h, s_92 h, r_91_0 h, ?_, ?_⟩
  · intro k hk
    have : k = 0 ∨ k = 1 ∨ k = 2 ∨ k = 3 ∨ k = 4 := by omega
    rcases this with rfl | rfl | rfl | rfl | rfl <;> exact (h.1 _ (by decide) (by decide)).trans rfl
  · intro k hk
    have : k = 0 ∨ k = 1 ∨ k = 2 ∨ k = 3 ∨ k = 4 := by omega
    rcases this with rfl | rfl | rfl | rfl | rfl
    · exact r_92_0 h
    · exact r_92_1 h
    · exact r_92_2 h
    · exact r_92_3 h
    · exact r_92_4 h
theorem Rq_107 (h : Tc θ) : Rq θ 107 := by
  refine ⟨by decide, s_107 h, s_108 h, r_107_0 h, ?_, ?_⟩
  · intro k hk
    have : k = 0 ∨ k = 1 ∨ k = 2 ∨ k = 3 ∨ k = 4 := by omega
    rcases this with rfl | rfl | rfl | rfl | rfl <;> exact (h.1 _ (by decide) (by decide)).trans rfl
  · intro k hk
    have : k = 0 ∨ k = 1 ∨ k = 2 ∨ k = 3 ∨ k = 4 := by omega
    rcases this with rfl | rfl | rfl | rfl | rfl
    · exact r_108_0 h
    · exact r_108_1 h
    · exact r_108_2 h
    · exact r_108_3 h
    · exact r_108_4 h
theorem Rq_115 (h : Tc θ) : Rq θ 115 := by
  refine ⟨by decide, s_115 h, s_116 h, r_115_0 h, ?_, ?_⟩
  · intro k hk
    have : k = 0 ∨ k = 1 ∨ k = 2 ∨ k = 3 ∨ k = 4 := by omega
    rcases this with rfl | rfl | rfl | rfl | rfl <;> exact (h.1 _ (by decide) (by decide)).trans rfl
  · intro k hk
    have : k = 0 ∨ k = 1 ∨ k = 2 ∨ k = 3 ∨ k = 4 := by omega
    rcases this with rfl | rfl | rfl | rfl | rfl
    · exact r_116_0 h
    · exact r_116_1 h
    · exact r_116_2 h
    · exact r_116_3 h
    · exact r_116_4 h
theorem Rq_123 (h : Tc θ) : Rq θ 123 := by
  refine ⟨by decide, s_123 h, s_124 h, r_123_0 h, ?_, ?_⟩
  · intro k hk
    have : k = 0 ∨ k = 1 ∨ k = 2 ∨ k = 3 ∨ k = 4 := by omega
    rcases this with rfl | rfl | rfl | rfl | rfl <;> exact (h.1 _ (by decide) (by decide)).trans rfl
  · intro k hk
    have : k = 0 ∨ k = 1 ∨ k = 2 ∨ k = 3 ∨ k = 4 := by omega
    rcases this with rfl | rfl | rfl | rfl | rfl
    · exact r_124_0 h
    · exact r_124_1 h
    · exact r_124_2 h
    · exact r_124_3 h
    · exact r_124_4 h
def Sq (θ : zS) (s : Nat) : Prop := 2 ≤ s ∧ θ.1[s]? = some (.inl 6) ∧ θ.2 s 0 = some (s + 1) ∧ Rq θ (s + 1) ∧ (θ.1[s + 8]? = some (.inr (.int, 480)) ∧ θ.2 s 1 = some (s + 8)) ∧ (θ.1[s + 9]? = some (.inr (.int, 8)) ∧ θ.2 s 2 = some (s + 9)) ∧ (θ.1[s + 10]? = some (.inr (.int, 8)) ∧ θ.2 s 3 = some (s + 10)) ∧ (θ.1[s + 11]? = some (.inr (.int, 4)) ∧ θ.2 s 4 = some (s + 11)) ∧ (θ.1[s + 12]? = some (.inr (.int, 4)) ∧ θ.2 s 5 = some (s + 12)) ∧ (θ.1[s + 13]? = some (.inr (.int, 4)) ∧ θ.2 s 6 = some (s + 13))
theorem Sq2 {s : Nat} (h : Sq θ s) : 2 ≤ s := h.1
theorem Sq1 {s : Nat} (h : Sq θ s) : 1 ≤ s := Nat.le_of_succ_le h.1
theorem sb {s : Nat} (h : Sq θ s) : zob θ s 6 = true := zob_of h.2.1
theorem sr_0 {s : Nat} (h : Sq θ s) : θ.2 s 0 = some (s + 1) := h.2.2.1
theorem sRq {s : Nat} (h : Sq θ s) : Rq θ (s + 1) := h.2.2.2.1
theorem ss_8 {s : Nat} (h : Sq θ s) : θ.1[s + 8]? = some (.inr (.int, 480)) := (h.2.2.2.2.1).1
theorem sr_1 {s : Nat} (h : Sq θ s) : θ.2 s 1 = some (s + 8) := (h.2.2.2.2.1).2
theorem sx_8 {s : Nat} (h : Sq θ s) {i : Int} (h0 : 0 ≤ i) (h1 : i < 480) : (zix θ .int (s + 8) i = true) = True := zix_T (ss_8 h) h0 h1
theorem ss_9 {s : Nat} (h : Sq θ s) : θ.1[s + 9]? = some (.inr (.int, 8)) := (h.2.2.2.2.2.1).1
theorem sr_2 {s : Nat} (h : Sq θ s) : θ.2 s 2 = some (s + 9) := (h.2.2.2.2.2.1).2
theorem sx_9 {s : Nat} (h : Sq θ s) {i : Int} (h0 : 0 ≤ i) (h1 : i < 8) : (zix θ .int (s + 9) i = true) = True := zix_T (ss_9 h) h0 h1
theorem ss_10 {s : Nat} (h : Sq θ s) : θ.1[s + 10]? = some (.inr (.int, 8)) := (h.2.2.2.2.2.2.1).1
theorem sr_3 {s : Nat} (h : Sq θ s) : θ.2 s 3 = some (s + 10) := (h.2.2.2.2.2.2.1).2
theorem sx_10 {s : Nat} (h : Sq θ s) {i : Int} (h0 : 0 ≤ i) (h1 : i < 8) : (zix θ .int (s + 10) i = true) = True := zix_T (ss_10 h) h0 h1
theorem ss_11 {s : Nat} (h : Sq θ s) : θ.1[s + 11]? = some (.inr (.int, 4)) := (h.2.2.2.2.2.2.2.1).1
theorem sr_4 {s : Nat} (h : Sq θ s) : θ.2 s 4 = some (s + 11) := (h.2.2.2.2.2.2.2.1).2
theorem sx_11 {s : Nat} (h : Sq θ s) {i : Int} (h0 : 0 ≤ i) (h1 : i < 4) : (zix θ .int (s + 11) i = true) = True := zix_T (ss_11 h) h0 h1
theorem ss_12 {s : Nat} (h : Sq θ s) : θ.1[s + 12]? = some (.inr (.int, 4)) := (h.2.2.2.2.2.2.2.2.1).1
theorem sr_5 {s : Nat} (h : Sq θ s) : θ.2 s 5 = some (s + 12) := (h.2.2.2.2.2.2.2.2.1).2
theorem sx_12 {s : Nat} (h : Sq θ s) {i : Int} (h0 : 0 ≤ i) (h1 : i < 4) : (zix θ .int (s + 12) i = true) = True := zix_T (ss_12 h) h0 h1
theorem ss_13 {s : Nat} (h : Sq θ s) : θ.1[s + 13]? = some (.inr (.int, 4)) := (h.2.2.2.2.2.2.2.2.2).1
theorem sr_6 {s : Nat} (h : Sq θ s) : θ.2 s 6 = some (s + 13) := (h.2.2.2.2.2.2.2.2.2).2
theorem sx_13 {s : Nat} (h : Sq θ s) {i : Int} (h0 : 0 ≤ i) (h1 : i < 4) : (zix θ .int (s + 13) i = true) = True := zix_T (ss_13 h) h0 h1
theorem Sq_46 (h : Tc θ) : Sq θ 46 := ⟨by decide, s_46 h, r_46_0 h, Rq_47 h, ⟨s_54 h, r_46_1 h⟩, ⟨s_55 h, r_46_2 h⟩, ⟨s_56 h, r_46_3 h⟩, ⟨s_57 h, r_46_4 h⟩, ⟨s_58 h, r_46_5 h⟩, ⟨s_59 h, r_46_6 h⟩⟩
theorem Sq_62 (h : Tc θ) : Sq θ 62 := ⟨by decide, s_62 h, r_62_0 h, Rq_63 h, ⟨s_70 h, r_62_1 h⟩, ⟨s_71 h, r_62_2 h⟩, ⟨s_72 h, r_62_3 h⟩, ⟨s_73 h, r_62_4 h⟩, ⟨s_74 h, r_62_5 h⟩, ⟨s_75 h, r_62_6 h⟩⟩
theorem Sq_76 (h : Tc θ) : Sq θ 76 := ⟨by decide, s_76 h, r_76_0 h, Rq_77 h, ⟨s_84 h, r_76_1 h⟩, ⟨s_85 h, r_76_2 h⟩, ⟨s_86 h, r_76_3 h⟩, ⟨s_87 h, r_76_4 h⟩, ⟨s_88 h, r_76_5 h⟩, ⟨s_89 h, r_76_6 h⟩⟩
theorem Sq_90 (h : Tc θ) : Sq θ 90 := ⟨by decide, s_90 h, r_90_0 h, Rq_91 h, ⟨s_98 h, r_90_1 h⟩, ⟨s_99 h, r_90_2 h⟩, ⟨s_100 h, r_90_3 h⟩, ⟨s_101 h, r_90_4 h⟩, ⟨s_102 h, r_90_5 h⟩, ⟨s_103 h, r_90_6 h⟩⟩
end TB
