/-! what holds while a method of the mini machine runs on the machine -/
def zTW : List Cond := lw_tbl.filter goodWord
theorem zTW_in {w : Cond} (h : w ∈ lw_tbl) (hg : goodWord w = true) : w ∈ zTW := List.mem_filter.mpr ⟨h, hg⟩
theorem zTW_at {w : Cond} (i : Nat) (h : lw_tbl[i]? = some w) (hg : goodWord w = true) : w ∈ zTW := zTW_in (List.mem_of_getElem? h) hg
theorem zTW_good : GoodIn zTW zTW := fun w h => ⟨h, good_of_word (List.mem_filter.mp h).2⟩
theorem ft_dec {z pc n : Nat} {i : Instr} (h : ft z pc = some (i, n)) : decode (zcb z) pc = .ok (i, n) ∧ (zlen i = 0 ∨ n = zlen i) := by
  unfold ft at h
  split at h
  · rename_i r hr
    split at h
    · rename_i hl
      cases h
      exact ⟨hr, hl⟩
    · cases h
  · cases h
theorem ft_n {z pc n k : Nat} {i : Instr} (h : ft z pc = some (i, n)) (hk : zlen i = k + 1) : decode (zcb z) pc = .ok (i, k + 1) ∧ n = k + 1 := by
  obtain ⟨h1, h2⟩ := ft_dec h
  rcases h2 with h2 | h2
  · rw [hk] at h2; cases h2
  · rw [hk] at h2; subst h2; exact ⟨h1, rfl⟩
def zTys : List FieldType := [.int, .byte, .boolean, .long, .array .int, .object "GaleRoof$Scene"]
def zlg (θ : zS) (a j : Nat) : Bool := match θ.1[a]? with
  | some (.inl c) => zfk c j % 10 == 1
  | some (.inr (t, _)) => t == .long
  | none => false
/-- shapes and contents are in order; number 0 is the text, number 1 the script -/
def zWF (θ : zS) (μ : zM) (Lx : Nat) (xs : Nat → Int32) : Prop :=
  2 ≤ θ.1.length ∧ θ.1[0]? = some (.inl 99) ∧ θ.1[1]? = some (.inr (.int, Lx)) ∧ (∀ j, j < Lx → Int32.ofInt (μ 1 j) = xs j) ∧
  (∀ (a c : Nat), 2 ≤ a → θ.1[a]? = some (.inl c) → c < 13) ∧ (∀ (a : Nat) (t : FieldType) (k : Nat), θ.1[a]? = some (.inr (t, k)) → t ∈ zTys ∧ k ≤ 4096) ∧
  (∀ (a j r : Nat), θ.2 a j = some r → r < θ.1.length) ∧ (∀ (a j : Nat), if zlg θ a j = true then R64 (μ a j) else R32 (μ a j))
def zMem (D : va_G) (ca : FieldType → ClassId) (z0 Lx : Nat) (xs : Nat → Int32) (ad : Nat → Nat) (θ : zS) (μ : zM) (H : Heap) : Prop :=
  va_P D vwCl (zwl ad ca θ μ) H ∧ va_D (fun q => z0 ≤ q) (zwl ad ca θ μ) ∧ zWF θ μ Lx xs
def zOn (D : va_G) (ca : FieldType → ClassId) (z0 Lx : Nat) (xs : Nat → Int32) (s : State) (ad : Nat → Nat) (L S : List zV) (θ : zS) (μ : zM) (H : Heap) (locs : List Loc) (ls : Array Slot) : Prop :=
  zMem D ca z0 Lx xs ad θ μ H ∧ va_S (fun q => z0 ≤ q) s.heap H locs ∧ zLoc ad L ls ∧ (∀ v ∈ S, zvw θ.1.length v) ∧ (∀ v ∈ L, v = vU ∨ zvw θ.1.length v)
/-- the machine about the method: what does not change while it runs -/
def zCtx (p : Program) (s : State) (m : MethodId) (args : Array Value) (meth : Method) (c : Code) (z nL : Nat) : Prop :=
  p.tables.exec = Jvm.exec ∧ c.code = zcb z ∧ c.maxLocals = nL ∧ s.vm.findClass (zcl (zcz z)) = some m.cls ∧ (∀ w ∈ zTW, w.before args s = true) ∧ meth.sig.returnType = zrt z ∧ meth.name = (zyn z).name ∧ meth.locks = false
def zK (D : va_G) (ca : FieldType → ClassId) (U : State) : Prop := va_K D vwCl [] U ∧ ∀ t ∈ zTys, ArrOfT U (ca t) t ∧ va_RA U (ca t) t
theorem zK.moved {D : va_G} {ca : FieldType → ClassId} {u U : State} (hvm : u.vm.Alike U.vm) (h : zK D ca u) : zK D ca U := ⟨va_K.moved hvm h.1, fun t ht => ⟨arrOfT_moved hvm (h.2 t ht).1, (h.2 t ht).2.moved hvm⟩⟩
theorem zK.at {D : va_G} {ca : FieldType → ClassId} {U : State} (h : zK D ca U) {t : FieldType} (ht : t ∈ zTys) : va_K D vwCl [(ca t, t)] U := by
  refine ⟨h.1.1, fun k q hk => ?_⟩
  cases k with
  | zero => cases hk; exact h.2 t ht
  | succ k => cases hk
def zNest : List Cond := lw_tbl.filter (fun w => match w with | .methodLinkNest _ _ _ _ => true | _ => false)
theorem arrOver_vm {u U : State} (h : u.vm = U.vm) (t : FieldType) : (Cond.arrayOver t).before #[] u = (Cond.arrayOver t).before #[] U := by
  unfold Cond.before Cond.holds
  simp only [Cond.value]
  rw [h]
def zNst (U : State) : Prop := (∀ w ∈ zNest, va_Nw w U) ∧ va_AO "GaleRoof$Scene" U ∧ (Cond.arrayOver (.array .int)).before #[] U = true
theorem zNst.warm {s U : State} (hW : s.WarmedH U.vm) (h : zNst s) : zNst U := by
  refine ⟨fun w hw => ?_, va_AO.moved hW.alike h.2.1, ?_⟩
  · have h1 := h.1 w hw
    have h2 := (List.mem_filter.mp hw).2
    cases w <;> first | (cases h2; done) | exact va_Nw.warmM hW h1
  · rw [arrOver_vm (show U.vm = (s.setVm U.vm).vm from rfl), Cond.arrayOver_setVmC hW.alike]
    exact h.2.2
