/-! the mini machine's memory as cells of the heap -/
def zabs (ad : Nat → Nat) : zV → Value
  | .inl x => .int (Int32.ofInt x)
  | .inr (.inl x) => .long (Int64.ofInt x)
  | .inr (.inr (some r)) => va_rf (r.map ad)
  | .inr (.inr none) => .null
def zvw (n : Nat) : zV → Prop
  | .inl x => R32 x
  | .inr (.inl x) => R64 x
  | .inr (.inr (some (some a))) => a < n
  | .inr (.inr (some none)) => True
  | .inr (.inr none) => False
def zfv (ad : Nat → Nat) (θ : zS) (μ : zM) (a c j : Nat) : Value := match zfk c j % 10 with
  | 1 => .long (Int64.ofInt (μ a j))
  | 2 => va_rf ((θ.2 a j).map ad)
  | _ => .int (Int32.ofInt (μ a j))
def zfs (ad : Nat → Nat) (θ : zS) (μ : zM) (a c : Nat) : List Value := (List.range (zFk.getD c []).length).map (zfv ad θ μ a c)
def zarr (ad : Nat → Nat) (θ : zS) (μ : zM) (a : Nat) (t : FieldType) : (Nat → Int32) ⊕ (Nat → Int64) ⊕ (Nat → UInt32) ⊕ (Nat → UInt64) ⊕ (Nat → Option Nat) := match t with
  | .long => .inr (.inl fun j => Int64.ofInt (μ a j))
  | .object _ => .inr (.inr (.inr (.inr fun j => (θ.2 a j).map ad)))
  | .array _ => .inr (.inr (.inr (.inr fun j => (θ.2 a j).map ad)))
  | _ => .inl fun j => Int32.ofInt (μ a j)
def zcel (ad : Nat → Nat) (ca : FieldType → ClassId) (θ : zS) (μ : zM) (a : Nat) : va_E := match θ.1[a]? with
  | some (.inl c) => .inr (c, zfs ad θ μ a c)
  | some (.inr (t, n)) => .inl (ca t, n, zarr ad θ μ a t)
  | none => .inr (0, [])
def zwl (ad : Nat → Nat) (ca : FieldType → ClassId) (θ : zS) (μ : zM) : va_W := (List.range (θ.1.length - 2)).map (fun k => (ad (k + 2), zcel ad ca θ μ (k + 2)))
theorem zwl_at {ad : Nat → Nat} {ca : FieldType → ClassId} {θ : zS} {μ : zM} {a : Nat} (h2 : 2 ≤ a) (h : a < θ.1.length) : (zwl ad ca θ μ)[a - 2]? = some (ad a, zcel ad ca θ μ a) := by
  unfold zwl
  rw [List.getElem?_map, List.getElem?_range (by omega)]
  show some (ad (a - 2 + 2), zcel ad ca θ μ (a - 2 + 2)) = _
  rw [show a - 2 + 2 = a by omega]
theorem zwl_set {ad : Nat → Nat} {ca : FieldType → ClassId} {θ θ' : zS} {μ μ' : zM} {a : Nat} (h2 : 2 ≤ a) (h : a < θ.1.length) (hθ : θ'.1.length = θ.1.length) (hc : ∀ b, b ≠ a → zcel ad ca θ' μ' b = zcel ad ca θ μ b) :
    (zwl ad ca θ μ).set (a - 2) (ad a, zcel ad ca θ' μ' a) = zwl ad ca θ' μ' := by
  apply List.ext_getElem?
  intro k
  rw [List.getElem?_set]
  have hl : (zwl ad ca θ μ).length = θ.1.length - 2 := by unfold zwl; rw [List.length_map, List.length_range]
  by_cases hk : a - 2 = k
  · subst hk
    rw [if_pos rfl, hl, if_pos (by omega), zwl_at h2 (by omega)]
  · rw [if_neg hk]
    unfold zwl
    rw [List.getElem?_map, List.getElem?_map, hθ]
    by_cases hr : k < θ.1.length - 2
    · rw [List.getElem?_range hr]
      show some (ad (k + 2), zcel ad ca θ μ (k + 2)) = some (ad (k + 2), zcel ad ca θ' μ' (k + 2))
      rw [hc (k + 2) (by omega)]
    · rw [List.getElem?_eq_none (by rw [List.length_range]; omega)]
      rfl
theorem zwl_push {ad ad' : Nat → Nat} {ca : FieldType → ClassId} {θ θ' : zS} {μ μ' : zM} {k : Nat} (hn : 2 ≤ θ.1.length) (hl : θ'.1.length = θ.1.length + k) (ha : ∀ b, b < θ.1.length → ad' b = ad b) (hc : ∀ b, 2 ≤ b → b < θ.1.length → zcel ad' ca θ' μ' b = zcel ad ca θ μ b) :
    zwl ad' ca θ' μ' = zwl ad ca θ μ ++ (List.range k).map (fun i => (ad' (θ.1.length + i), zcel ad' ca θ' μ' (θ.1.length + i))) := by
  have e : θ'.1.length - 2 = (θ.1.length - 2) + k := by omega
  unfold zwl
  rw [e, List.range_add, List.map_append, List.map_map]
  congr 1
  · apply List.map_congr_left
    intro b hb
    have := List.mem_range.mp hb
    rw [ha _ (by omega), hc _ (by omega) (by omega)]
  · apply List.map_congr_left
    intro b hb
    show (ad' (θ.1.length - 2 + b + 2), _) = _
    rw [show θ.1.length - 2 + b + 2 = θ.1.length + b by omega]
theorem zfv_ua {ad : Nat → Nat} {θ : zS} {μ : zM} {a c j k : Nat} {x : Int} (h : k ≠ j) : zfv ad θ (ua μ a j x) a c k = zfv ad θ μ a c k := by
  have e : ua μ a j x a k = μ a k := by unfold ua; rw [if_neg (fun q => h q.2)]
  unfold zfv
  rw [e]
theorem zfv_ur {ad : Nat → Nat} {θ : zS} {μ : zM} {a c j k : Nat} {r : Option Nat} (h : k ≠ j) : zfv ad (θ.1, ur θ.2 a j r) μ a c k = zfv ad θ μ a c k := by
  have e : ur θ.2 a j r a k = θ.2 a k := by unfold ur; rw [if_neg (fun q => h q.2)]
  unfold zfv
  dsimp only
  rw [e]
theorem zfs_at {ad : Nat → Nat} {θ : zS} {μ : zM} {a c j : Nat} (h : j < (zFk.getD c []).length) : (zfs ad θ μ a c)[j]? = some (zfv ad θ μ a c j) := by
  unfold zfs
  rw [List.getElem?_map, List.getElem?_range h]
  rfl
theorem zfs_len {ad : Nat → Nat} {θ : zS} {μ : zM} {a c : Nat} : (zfs ad θ μ a c).length = (zFk.getD c []).length := by unfold zfs; rw [List.length_map, List.length_range]
theorem zfs_set {ad : Nat → Nat} {θ θ' : zS} {μ μ' : zM} {a c j : Nat} (hk : ∀ k, k ≠ j → zfv ad θ' μ' a c k = zfv ad θ μ a c k) : (zfs ad θ μ a c).set j (zfv ad θ' μ' a c j) = zfs ad θ' μ' a c := by
  apply List.ext_getElem?
  intro k
  rw [List.getElem?_set, zfs_len]
  by_cases h : j = k
  · subst h
    rw [if_pos rfl]
    by_cases hl : j < (zFk.getD c []).length
    · rw [if_pos hl, zfs_at hl]
    · rw [if_neg hl, List.getElem?_eq_none (by rw [zfs_len]; omega)]
  · rw [if_neg h]
    by_cases hl : k < (zFk.getD c []).length
    · rw [zfs_at hl, zfs_at hl, hk k (fun e => h e.symm)]
    · rw [List.getElem?_eq_none (by rw [zfs_len]; omega), List.getElem?_eq_none (by rw [zfs_len]; omega)]
theorem zcel_ua_ne {ad : Nat → Nat} {ca : FieldType → ClassId} {θ : zS} {μ : zM} {a b j : Nat} {x : Int} (h : b ≠ a) : zcel ad ca θ (ua μ a j x) b = zcel ad ca θ μ b := by
  have e : ∀ k, ua μ a j x b k = μ b k := fun k => by unfold ua; rw [if_neg (fun q => h q.1)]
  unfold zcel
  cases hs : θ.1[b]? with
  | none => rfl
  | some q =>
    cases q with
    | inl c =>
      have h1 : zfv ad θ (ua μ a j x) b c = zfv ad θ μ b c := funext fun k => by unfold zfv; rw [e]
      simp only [zfs, h1]
    | inr q => simp only [zarr, e]
theorem zcel_ur_ne {ad : Nat → Nat} {ca : FieldType → ClassId} {θ : zS} {μ : zM} {a b j : Nat} {r : Option Nat} (h : b ≠ a) : zcel ad ca (θ.1, ur θ.2 a j r) μ b = zcel ad ca θ μ b := by
  have e : ∀ k, ur θ.2 a j r b k = θ.2 b k := fun k => by unfold ur; rw [if_neg (fun q => h q.1)]
  unfold zcel
  cases hs : θ.1[b]? with
  | none => rfl
  | some q =>
    cases q with
    | inl c =>
      have h1 : zfv ad (θ.1, ur θ.2 a j r) μ b c = zfv ad θ μ b c := funext fun k => by unfold zfv; dsimp only; rw [e]
      simp only [zfs, h1]
    | inr q => simp only [zarr, e]
/-- locals -/
def zLoc (ad : Nat → Nat) (L : List zV) (ls : Array Slot) : Prop := ls.size = L.length ∧ lv_wf ls ∧ ∀ (k : Nat) (v : zV), L[k]? = some v → zok v = true → ls[k]? = some (Slot.val (zabs ad v))
def zlv (ad : Nat → Nat) (L : List zV) : List (Nat × Value) := (List.range L.length).filterMap (fun k => match L[k]? with
  | some v => if zok v = true then some (k, zabs ad v) else none
  | none => none)
theorem zlv_mem {ad : Nat → Nat} {L : List zV} {k : Nat} {v : zV} (h : L[k]? = some v) (hv : zok v = true) : (k, zabs ad v) ∈ zlv ad L := by
  unfold zlv
  rw [List.mem_filterMap]
  exact ⟨k, List.mem_range.mpr (List.getElem?_eq_some_iff.mp h).1, by rw [h]; simp only; rw [if_pos hv]⟩
theorem zlv_of {ad : Nat → Nat} {L : List zV} {q : Nat × Value} (h : q ∈ zlv ad L) : ∃ v, L[q.1]? = some v ∧ zok v = true ∧ q.2 = zabs ad v := by
  unfold zlv at h
  rw [List.mem_filterMap] at h
  obtain ⟨k, -, h⟩ := h
  cases hL : L[k]? with
  | none => rw [hL] at h; cases h
  | some v =>
    rw [hL] at h
    simp only at h
    by_cases hv : zok v = true
    · rw [if_pos hv] at h
      cases h
      exact ⟨v, hL, hv, rfl⟩
    · rw [if_neg hv] at h; cases h
theorem zLoc.has {ad : Nat → Nat} {L : List zV} {ls : Array Slot} (h : zLoc ad L ls) : lv_has ls L.length (zlv ad L) := by
  refine ⟨h.1, h.2.1, fun q hq => ?_⟩
  obtain ⟨v, h1, h2, h3⟩ := zlv_of hq
  rw [h3]
  exact h.2.2 _ _ h1 h2
theorem zg_get : ∀ (L : List zV) (k : Nat) {v : zV}, zg L k = v → zok v = true → L[k]? = some v
  | [], _, v, h, hv => by rw [← h] at hv; cases hv
  | a :: L, 0, v, h, _ => by rw [← h]; rfl
  | a :: L, k + 1, v, h, hv => by
    rw [List.getElem?_cons_succ]
    exact zg_get L k h hv
theorem zst_len : ∀ (L : List zV) (k : Nat) (v : zV), (zst L k v).length = L.length
  | [], k, v => by cases k <;> rfl
  | a :: L, 0, v => rfl
  | a :: L, 1, v => by
    show (zst L 0 v).length + 1 = L.length + 1
    rw [zst_len L 0 v]
  | a :: L, k + 2, v => by
    show (zst L (k + 1) v).length + 1 = L.length + 1
    rw [zst_len L (k + 1) v]
theorem zraw_len : ∀ (L : List zV) (k : Nat) (v : zV), (zraw L k v).length = L.length
  | [], k, v => by cases k <;> rfl
  | a :: L, 0, v => rfl
  | a :: L, k + 1, v => by
    show (zraw L k v).length + 1 = L.length + 1
    rw [zraw_len L k v]
theorem zst_get : ∀ (L : List zV) (i : Nat) (v : zV) (k : Nat) (w : zV), (zst L i v)[k]? = some w → zok w = true → (k = i ∧ w = v) ∨ (k ≠ i ∧ L[k]? = some w ∧ ¬ (k + 1 = i ∧ zcat w = 2))
  | [], i, v, k, w, h, _ => by cases i <;> cases h
  | a :: L, 0, v, 0, w, h, _ => by cases h; exact Or.inl ⟨rfl, rfl⟩
  | a :: L, 0, v, k + 1, w, h, _ => Or.inr ⟨by omega, h, by omega⟩
  | a :: L, 1, v, 0, w, h, hw => by
    have h : some (zkl a) = some w := h
    cases h
    refine Or.inr ⟨by omega, ?_, ?_⟩
    · rcases a with x | x | x
      · rfl
      · cases hw
      · rfl
    · rcases a with x | x | x
      · intro q; cases q.2
      · cases hw
      · intro q; cases q.2
  | a :: L, 1, v, k + 1, w, h, hw => by
    rcases zst_get L 0 v k w h hw with ⟨h1, h2⟩ | ⟨h1, h2, h3⟩
    · exact Or.inl ⟨by omega, h2⟩
    · exact Or.inr ⟨by omega, h2, by omega⟩
  | a :: L, i + 2, v, 0, w, h, hw => Or.inr ⟨by omega, h, by omega⟩
  | a :: L, i + 2, v, k + 1, w, h, hw => by
    rcases zst_get L (i + 1) v k w h hw with ⟨h1, h2⟩ | ⟨h1, h2, h3⟩
    · exact Or.inl ⟨by omega, h2⟩
    · exact Or.inr ⟨by omega, h2, fun q => h3 ⟨by omega, q.2⟩⟩
theorem zraw_get : ∀ (L : List zV) (i k : Nat) (w : zV), (zraw L i vU)[k]? = some w → zok w = true → k ≠ i ∧ L[k]? = some w
  | [], i, k, w, h, _ => by cases i <;> cases h
  | a :: L, 0, 0, w, h, hw => by cases h; cases hw
  | a :: L, 0, k + 1, w, h, _ => ⟨by omega, h⟩
  | a :: L, i + 1, 0, w, h, hw => ⟨by omega, h⟩
  | a :: L, i + 1, k + 1, w, h, hw => by
    obtain ⟨h1, h2⟩ := zraw_get L i k w h hw
    exact ⟨by omega, h2⟩
theorem zabs_cat {ad : Nat → Nat} {v : zV} : (zabs ad v).category = zcat v := by
  rcases v with x | x | _ | _ | x <;> rfl
theorem zLoc.st {ad : Nat → Nat} {L : List zV} {ls' : Array Slot} {i : Nat} {v : zV} (h' : lv_has ls' L.length ((i, zabs ad v) :: (zlv ad L).filter (fun q => !(q.1 == i) && !(q.1 + 1 == i && q.2.category == 2)))) : zLoc ad (zst L i v) ls' := by
  refine ⟨by rw [zst_len]; exact h'.1, h'.2.1, fun k w hk hw => ?_⟩
  have hm : (k, zabs ad w) ∈ (i, zabs ad v) :: (zlv ad L).filter (fun q => !(q.1 == i) && !(q.1 + 1 == i && q.2.category == 2)) := by
    rcases zst_get L i v k w hk hw with ⟨h1, h2⟩ | ⟨h1, h2, h3⟩
    · subst h1; subst h2; exact List.mem_cons_self
    · refine List.mem_cons_of_mem _ (List.mem_filter.mpr ⟨zlv_mem h2 hw, ?_⟩)
      simp only [zabs_cat, Bool.and_eq_true, Bool.not_eq_true', beq_eq_false_iff_ne, Bool.and_eq_false_iff]
      refine ⟨h1, ?_⟩
      by_cases hk1 : k + 1 = i
      · exact Or.inr (fun q => h3 ⟨hk1, q⟩)
      · exact Or.inl hk1
  exact h'.2.2 _ hm
theorem zLoc.st2 {ad : Nat → Nat} {L : List zV} {ls' : Array Slot} {i : Nat} {x : Int} (h' : lv_has ls' L.length ((i, zabs ad (vl x)) :: (zlv ad L).filter (fun q => !(q.1 == i) && (!(q.1 == i + 1) && !(q.1 + 1 == i && q.2.category == 2))))) : zLoc ad (zst (zraw L (i + 1) vU) i (vl x)) ls' := by
  refine ⟨by rw [zst_len, zraw_len]; exact h'.1, h'.2.1, fun k w hk hw => ?_⟩
  have hm : (k, zabs ad w) ∈ (i, zabs ad (vl x)) :: (zlv ad L).filter (fun q => !(q.1 == i) && (!(q.1 == i + 1) && !(q.1 + 1 == i && q.2.category == 2))) := by
    rcases zst_get _ i (vl x) k w hk hw with ⟨h1, h2⟩ | ⟨h1, h2, h3⟩
    · subst h1; subst h2; exact List.mem_cons_self
    · obtain ⟨h4, h5⟩ := zraw_get L (i + 1) k w h2 hw
      refine List.mem_cons_of_mem _ (List.mem_filter.mpr ⟨zlv_mem h5 hw, ?_⟩)
      simp only [zabs_cat, Bool.and_eq_true, Bool.not_eq_true', beq_eq_false_iff_ne, Bool.and_eq_false_iff]
      refine ⟨h1, h4, ?_⟩
      by_cases hk1 : k + 1 = i
      · exact Or.inr (fun q => h3 ⟨hk1, q⟩)
      · exact Or.inl hk1
  exact h'.2.2 _ hm
