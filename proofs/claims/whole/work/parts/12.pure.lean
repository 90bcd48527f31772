/-! WHAT THE DOCUMENT TELLS, IN WHOLE NUMBERS (both programs are held against this) -/
abbrev zC : Type := List (Nat × Int)
abbrev zL : Type := Bool × Bool × Nat × zC × zC
abbrev zT : Type := (Nat → Int) × Nat × (Nat → Int) × (Nat → Int) × (Nat → Int) × (Nat → Option zC) × (Nat → List (List zL))
def tN (τ : zT) : Nat → Int := τ.1
def tD (τ : zT) : Nat := τ.2.1
def tS (τ : zT) : Nat → Int := τ.2.2.1
def tZ (τ : zT) : Nat → Int := τ.2.2.2.1
def tO (τ : zT) : Nat → Int := τ.2.2.2.2.1
def tL (τ : zT) : Nat → Option zC := τ.2.2.2.2.2.1
def tR (τ : zT) : Nat → List (List zL) := τ.2.2.2.2.2.2
def tr (τ : zT) : Nat := (tN τ 0).toNat
def tc (τ : zT) : Nat := (tN τ 1).toNat
def tn (τ : zT) : Nat := tr τ * tc τ
/-- a law's text: operands ahead of what joins them; 0 an INT, 1 a VAR, 2 + 3 - 4 * 5 / -/
def rop (k : Nat) (a b : Int) : Int := if k = 2 then w32 (a + b) else if k = 3 then w32 (a - b) else if k = 4 then w32 (a * b) else w32 (a.tdiv b)
def rstep (v : Nat → Int) (c : Nat × Int) (s : List Int) : Option (List Int) :=
  if c.1 = 0 then some (c.2 :: s) else if c.1 = 1 then some (v c.2.toNat :: s) else match s with
    | b :: a :: s => if c.1 = 5 ∧ b = 0 then none else some (rop c.1 a b :: s)
    | _ => none
def rpn (v : Nat → Int) : zC → List Int → Option (List Int)
  | [], s => some s
  | c :: r, s => match rstep v c s with
    | some s' => rpn v r s'
    | none => none
def ev (v : Nat → Int) (c : zC) : Option Int := match rpn v c [] with
  | some (x :: _) => some x
  | _ => none
/-- from n operands on the pile to m, B at most -/
def wfc (B m : Nat) : Nat → zC → Prop
  | n, [] => n = m
  | n, c :: r => if c.1 = 0 then n + 1 ≤ B ∧ (0 ≤ c.2 ∧ c.2 ≤ 9999) ∧ wfc B m (n + 1) r else if c.1 = 1 then n + 1 ≤ B ∧ (0 ≤ c.2 ∧ c.2 ≤ 12) ∧ wfc B m (n + 1) r
    else c.1 ≤ 5 ∧ 2 ≤ n ∧ wfc B m (n - 1) r
def cmpv (k : Nat) (a b : Int) : Bool := if k = 0 then decide (a = b) else if k = 1 then decide (a ≠ b) else if k = 2 then decide (a < b) else decide (a ≤ b)
def litv (v : Nat → Int) (l : zL) : Bool := match ev v l.2.2.2.1, ev v l.2.2.2.2 with
  | some a, some b => (cmpv l.2.2.1 a b) != l.2.1
  | _, _ => false != l.2.1
def rulv (v : Nat → Int) : List zL → Bool → Bool
  | [], all => all
  | l :: r, all => if l.1 = true ∧ all = true then true else rulv v r ((if l.1 = true then true else all) && litv v l)
def holds (τ : zT) (s : Nat) (v : Nat → Int) : Bool := (tR τ s).any (fun ls => rulv v ls false)
def says (τ : zT) (k : Nat) (v : Nat → Int) (untold : Int) : Int := match tL τ k with
  | none => untold
  | some c => (ev v c).getD 0
def wfL (l : zL) : Prop := l.2.2.1 ≤ 3 ∧ wfc 16 1 0 l.2.2.2.1 ∧ wfc 16 1 0 l.2.2.2.2
def wfR (ls : List zL) : Prop := (∀ l ∈ ls, wfL l) ∧ (∃ l r, ls = l :: r ∧ l.1 = true)
def wfT (τ : zT) : Prop := (2 ≤ tN τ 0 ∧ tN τ 0 ≤ 6) ∧ (2 ≤ tN τ 1 ∧ tN τ 1 ≤ 6) ∧ (0 ≤ tN τ 2 ∧ tN τ 2 ≤ 3) ∧ (∀ k, 3 ≤ k → k < 9 → 0 ≤ tN τ k ∧ tN τ k ≤ 99) ∧ tD τ ≤ 6
  ∧ (∀ k, k < tD τ → (0 ≤ tS τ k ∧ tS τ k ≤ 3) ∧ (1 ≤ tZ τ k ∧ tZ τ k ≤ 9) ∧ (tO τ k = 0 ∨ tO τ k = 1))
  ∧ (∀ k c, k < 4 → tL τ k = some c → wfc 16 1 0 c) ∧ ∀ k, k < 3 → (tR τ k).length ≤ 6 ∧ ∀ ls ∈ tR τ k, wfR ls
/-- places -/
def rwO (τ : zT) (t : Nat) : Nat := t / tc τ
def clO (τ : zT) (t : Nat) : Nat := t % tc τ
def edO (τ : zT) (t : Nat) : Int := (if rwO τ t = 0 ∨ rwO τ t + 1 = tr τ then 1 else 0) + (if clO τ t = 0 ∨ clO τ t + 1 = tc τ then 1 else 0)
/-- VARS of a TILE as a text is read; a roof is (marks by number and TILE, open DOORS, FELT); lost: 1 where a TILE is GONE -/
abbrev zF : Type := (Nat → Nat → Int) × (Nat → Int) × Int
def v0 (τ : zT) (t : Nat) : Nat → Int := fun k => if k = 0 then rwO τ t else if k = 1 then clO τ t else if k = 2 then ((t % 3 : Nat) : Int) else if k = 3 then edO τ t else 0
def barO (τ : zT) (lost : Nat → Int) (t : Nat) : Int :=
  (if tc τ ≤ t then lost (t - tc τ) else 0) + (if t + tc τ < tn τ then lost (t + tc τ) else 0) + (if 0 < clO τ t then lost (t - 1) else 0) + (if clO τ t + 1 < tc τ then lost (t + 1) else 0)
def hlO (τ : zT) (lost : Nat → Int) : Int := sm lost (tn τ)
def drI (τ : zT) (od : Nat → Int) (w : Int) : Int := sm (fun k => if tS τ k = w then tZ τ k * od k else 0) (tD τ)
def drO (τ : zT) (od : Nat → Int) (w : Int) : Int := sm (fun k => if tS τ k = w then 0 else tZ τ k * od k) (tD τ)
def inO (τ : zT) (od : Nat → Int) (lost : Nat → Int) (w : Int) : Int := drI τ od w + (if tN τ 2 = w then hlO τ lost else 0)
def ouO (τ : zT) (od : Nat → Int) (lost : Nat → Int) (w : Int) : Int := drO τ od w + (if tN τ 2 = w then 0 else hlO τ lost)
def va (τ : zT) (ρ : zF) (lost : Nat → Int) (t : Nat) (g w : Int) : Nat → Int := fun k =>
  if k < 4 then v0 τ t k else if k = 4 then barO τ lost t else if k = 5 then hlO τ lost else if k = 6 then inO τ ρ.2.1 lost w else if k = 7 then ouO τ ρ.2.1 lost w
  else if k = 8 then g else if k = 9 then w else if k = 10 then ρ.1 3 t else if k = 11 then ρ.1 4 t else if k = 12 then ρ.1 1 t else 0
def suO (τ : zT) (ρ : zF) (lost : Nat → Int) (t : Nat) (g w : Int) : Int := says τ 0 (va τ ρ lost t g w) (g + (g * edO τ t).tdiv 2)
def prO (τ : zT) (ρ : zF) (lost : Nat → Int) (t : Nat) (g w : Int) : Int := if ρ.2.2 = 0 then says τ 1 (va τ ρ lost t g w) ((g * (inO τ ρ.2.1 lost w - ouO τ ρ.2.1 lost w)).tdiv 10) else 0
def hoB (τ : zT) (ρ : zF) (lost : Nat → Int) (t : Nat) : Int := tN τ 3 + ρ.1 4 t + (if t + tc τ < tn τ ∧ lost (t + tc τ) = 0 then tN τ 4 else 0)
  + (if ρ.1 1 t = 1 ∧ ρ.1 3 t < tN τ 5 then tN τ 5 - ρ.1 3 t else 0) + (if ρ.1 2 t = 1 then tN τ 6 else 0)
def hoO (τ : zT) (ρ : zF) (lost : Nat → Int) (t : Nat) (g w : Int) : Int := w32 (says τ 2 (va τ ρ lost t g w) 0 + hoB τ ρ lost t)
def liO (τ : zT) (ρ : zF) (lost : Nat → Int) (t : Nat) (g w : Int) : Int := w32 (w32 (suO τ ρ lost t g w + prO τ ρ lost t g w) - hoO τ ρ lost t g w)
def heldO (x m : Int) : Int := if x < 0 then 0 else if m < x then m else x
def ceO (τ : zT) (ρ : zF) (lost : Nat → Int) (t : Nat) (g w : Int) : Int :=
  1000 * ((w + 2) % 4) + 100 * (if (w + 2) % 2 = 0 then clO τ t else rwO τ t : Nat) + heldO (says τ 3 (va τ ρ lost t g w) (g.tdiv 10)) 19
/-- rounds of a GUST: what is GONE ahead of round r -/
def goO (τ : zT) (ρ : zF) (g w : Int) (lost : Nat → Int) (t : Nat) : Bool := decide (t < tn τ ∧ lost t = 0 ∧ 0 < liO τ ρ lost t g w)
def loO (τ : zT) (ρ : zF) (g w : Int) (l0 : Nat → Int) : Nat → Nat → Int
  | 0 => l0
  | r + 1 => fun t => if goO τ ρ g w (loO τ ρ g w l0 r) t = true then 1 else loO τ ρ g w l0 r t
def giO (τ : zT) (ρ : zF) (g w : Int) (l0 : Nat → Int) (r t : Nat) : Bool := goO τ ρ g w (loO τ ρ g w l0 r) t
/-- those of a round, in order; how many rounds; all in ORDER -/
def rdO (τ : zT) (ρ : zF) (g w : Int) (l0 : Nat → Int) (r : Nat) : List Nat := (List.range (tn τ)).filter (fun t => giO τ ρ g w l0 r t)
def orO (τ : zT) (ρ : zF) (g w : Int) (l0 : Nat → Int) : Nat → List Nat
  | 0 => []
  | r + 1 => orO τ ρ g w l0 r ++ rdO τ ρ g w l0 r
def enO (τ : zT) (ρ : zF) (g w : Int) (l0 : Nat → Int) (R : Nat) : Prop := (∀ r, r < R → rdO τ ρ g w l0 r ≠ []) ∧ rdO τ ρ g w l0 R = []
