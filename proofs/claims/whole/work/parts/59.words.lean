/-! WORDS, as both hold them -/
def nmI (B : Int) (f : Nat → Int) : Nat → Int
  | 0 => 0
  | k + 1 => nmI B f k * B + f k
def wdL : List (List Int) := [[18, 15, 15, 6], [23, 5, 9, 7, 8], [12, 1, 16], [14, 1, 9, 12], [3, 12, 9, 16], [25, 5, 1, 18, 19], [13, 15, 19, 19], [14, 1, 9, 12, 5, 4], [3, 12, 9, 16, 16, 5, 4], [23, 1, 18, 14], [19, 21, 3, 11], [16, 18, 5, 19, 19], [8, 15, 12, 4, 19], [6, 1, 18], [4, 15, 15, 18], [15, 16, 5, 14], [9, 6], [15, 18], [1, 14, 4], [14, 15, 20], [18, 15, 23], [3, 15, 12], [20, 8, 9, 18, 4], [5, 4, 7, 5], [2, 1, 18, 5], [8, 15, 12, 5, 19], [9, 14, 12, 5, 20], [15, 21, 20, 12, 5, 20], [7, 21, 19, 20], [23, 1, 25], [1, 7, 5], [7, 18, 15, 23, 14], [14, 1, 9, 12, 19]]
def wl (k : Nat) : Nat := (wdL.getD k []).length
def wd (k : Nat) : Nat → Int := fun i => (wdL.getD k []).getD i 0
/-- what the class holds of a word -/
def wv (k : Nat) : Int := nmI 32 (wd k) (wl k)
def CWd (μ : zM) : Prop := ∀ k, k < 33 → μ 8 k = wv k
/-- the reference's order of the words -/
def pq (k : Nat) : Nat := if k < 10 then k else if k = 10 then 16 else if k ≤ 16 then k - 1 else k
def MKd (μ : zM) : Prop := ∀ k, k < 33 → μ 145 k = nmI 27 (wd (pq k)) (wl (pq k))
