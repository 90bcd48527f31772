/-! THE MACHINE AT THE LAW'S ENTRY is as the mini machine wants it -/
theorem env_flat : ∀ j, j < 169 → (flatC (Cond.and given_1 narrow_1))[13 + j]? = some (Cond.eq (.elem (.field (.string "GaleRoof$Tape" 29) "java/lang/String" "value" "[B") (.int (Int32.ofNat j))) (.int ((([zByt] : List (List Int32)).getD 0 []).getD j 0))) := by decide +kernel
section EV
variable {s : State} {args : Array Value}
theorem env_K (hts : ∀ w ∈ lw_tbl, w.before args s = true) : ∃ (D : va_G) (ca : FieldType → ClassId), zK D ca s := by
  have hz : ∀ w ∈ zTW, w.before args s = true := fun w hw => hts w (List.mem_filter.mp hw).1
  have hcl : ∀ k : Nat, ∃ q : ClassId × (Nat → Nat), ∀ r : vw_C, vwCl[k]? = some r → u_Kn s r.1 r.2.1 r.2.2 q.1 q.2 := by
    intro k
    by_cases hk : k < 13
    · obtain ⟨C, T, N, ty0, hv, hN, hin, _, _, _, hzc⟩ := zCok_all k hk
      have hi := hts _ (zIw1 k (List.mem_range.mpr hk))
      rw [hzc] at hi
      obtain ⟨cC, iS, h⟩ := u_known (C := C) (T := T) (N := N) hz hin hi
      exact ⟨(cC, iS), fun r hr => by rw [hv] at hr; cases hr; exact h⟩
    · refine ⟨(0, fun _ => 0), fun r hr => ?_⟩
      have : vwCl.length = 13 := rfl
      rw [List.getElem?_eq_none (by omega)] at hr
      cases hr
  have har : ∀ t : FieldType, ∃ cA : ClassId, t ∈ zTys → ArrOfT s cA t ∧ va_RA s cA t := by
    intro t
    by_cases ht : t ∈ zTys
    · have pr : ∀ {u : FieldType}, Cond.arrayClass u ∈ zTW → ∃ cA : ClassId, ArrOfT s cA u ∧ s.vm.findClass ("[" ++ u.toString) = some cA := fun {u} hw => by
        obtain ⟨c, k, comp, h1, h2, h3⟩ := Cond.arrayClass_spec (args := args) (first := s) (o := none) (s := s) (idx := []) (hz _ hw)
        exact ⟨c, fun n z => ⟨fun k h => (by cases h), k, h2, comp, h3⟩, h1⟩
      unfold zTys at ht
      simp only [List.mem_cons, List.not_mem_nil, or_false] at ht
      rcases ht with rfl | rfl | rfl | rfl | rfl | rfl
      · obtain ⟨c, h1, h2⟩ := pr zAw_int; exact ⟨c, fun _ => ⟨h1, h2⟩⟩
      · obtain ⟨c, h1, h2⟩ := pr zAw_byte; exact ⟨c, fun _ => ⟨h1, h2⟩⟩
      · obtain ⟨c, h1, h2⟩ := pr zAw_boolean; exact ⟨c, fun _ => ⟨h1, h2⟩⟩
      · obtain ⟨c, h1, h2⟩ := pr zAw_long; exact ⟨c, fun _ => ⟨h1, h2⟩⟩
      · obtain ⟨comp, c, k, h1, _, h3, h4, h5⟩ := arrayOverA_spec (args := args) (first := s) (o := none) (s := s) (idx := []) (hts _ (by decide +kernel : Cond.arrayOver (.array .int) ∈ lw_tbl))
        exact ⟨c, fun _ => ⟨fun n z => ⟨fun k h => (by cases h), k, h3, comp, h4⟩, h5⟩⟩
      · obtain ⟨comp, c, k, h1, _, h3, h4, h5⟩ := Cond.arrayOver_spec (args := args) (first := s) (o := none) (s := s) (idx := []) (hts _ (by decide +kernel : Cond.arrayOver (.object "GaleRoof$Scene") ∈ lw_tbl))
        exact ⟨c, fun _ => ⟨fun n z => ⟨fun k h => (by cases h), k, h3, comp, h4⟩, k, comp, h3, h4, h1, h5⟩⟩
    · exact ⟨0, fun h => absurd h ht⟩
  obtain ⟨D, hD⟩ := Classical.axiomOfChoice hcl
  obtain ⟨ca, hca⟩ := Classical.axiomOfChoice har
  exact ⟨(fun k => (D k).1, fun k => (D k).2), ca, ⟨fun k r hr => hD k r hr, fun k q hq => by simp at hq⟩, fun t ht => hca t ht⟩
theorem env_N (hts : ∀ w ∈ lw_tbl, w.before args s = true) : zNst s := by
  refine ⟨fun w hw => ?_, ?_, ?_⟩
  · have h1 := hts w (List.mem_filter.mp hw).1
    have h2 := (List.mem_filter.mp hw).2
    cases w <;> first | (cases h2; done) | exact va_Nw.of rfl h1
  · exact va_AO.of (hts _ (by decide +kernel : Cond.arrayOver (.object "GaleRoof$Scene") ∈ lw_tbl))
  · have h := hts _ (by decide +kernel : Cond.arrayOver (.array .int) ∈ lw_tbl)
    exact h
theorem env_S {b : Nat} (hts : ∀ w ∈ lw_tbl, w.before args s = true) (hgv : (Cond.and given_1 narrow_1).before args s = true) : ∃ q aV : Nat, vk_R "GaleRoof$Tape" 29 zText q s ∧ zStE q aV s.heap.size s := by
  have hf := flat_of_before _ hgv
  have hA : ∀ a : Nat, a < s.heap.size → ¬ (fun r : Nat => s.heap.size ≤ r) a := fun a h => Nat.not_le.mpr h
  have at_ : ∀ {w : Cond} (i : Nat), (flatC (Cond.and given_1 narrow_1))[i]? = some w → w.before args s = true := fun {w} i h => hf w (List.mem_of_getElem? h)
  obtain ⟨adK, adV, h1, h2⟩ := vk_Sof (args := args) (s := s) (N := 1) (tm := fun _ => .string "GaleRoof$Tape" 29) (len := [zStr.length]) (byt := [zByt]) (A := fun r => s.heap.size ≤ r)
    (fun i hi => by have : i = 0 := by omega
                    subst this; decide +kernel)
    (fun i hi => at_ 9 (by decide +kernel))
    (fun i hi => at_ 10 (by decide +kernel))
    (fun i hi => at_ 11 (by decide +kernel))
    (fun i hi => by have : i = 0 := by omega
                    subst this; exact at_ 12 (by decide +kernel))
    (fun i hi j hj => by
      have : i = 0 := by omega
      subst this
      have hl : ([zStr.length] : List Nat).getD 0 0 = 169 := by decide +kernel
      rw [hl] at hj
      exact at_ (13 + j) (env_flat j hj))
    (fun i j hi hj hne => absurd (show i = j by omega) hne) hA
  refine ⟨adK 0, adV 0, vk_R.of (hts _ (by decide +kernel : Cond.stringRef "GaleRoof$Tape" 29 zText ∈ lw_tbl)) (h2 0 (by decide)), ?_, ?_, ?_⟩
  · refine ⟨fun i hi => ?_, fun i j hi hj _ => by omega⟩
    have : i = 0 := by omega
    subst this
    exact h1.1 0 hi
  · exact va_Zof (hts _ (by decide +kernel : Cond.laysStatic "java/lang/String" "COMPACT_STRINGS" "Z" ∈ lw_tbl)) (hts _ (by decide +kernel : Cond.initialized "java/lang/String" ∈ lw_tbl)) (va_eqt (at_ 4 (by decide +kernel))) hA
  · exact va_Zqof (hts _ (by decide +kernel : Cond.laysStatic "jdk/internal/util/Preconditions" "SIOOBE_FORMATTER" "Ljava/util/function/BiFunction;" ∈ lw_tbl)) (hts _ (by decide +kernel : Cond.initialized "jdk/internal/util/Preconditions" ∈ lw_tbl)) (at_ 5 (by decide +kernel)) hA
theorem env_start {b L : Nat} {xs : Nat → Int32} (hts : ∀ w ∈ lw_tbl, w.before args s = true) (hX : va_X b L xs s s.heap) (hbl : b < s.heap.size) (hgv : (Cond.and given_1 narrow_1).before args s = true) : ∃ (D : va_G) (ca : FieldType → ClassId) (ad : Nat → Nat), ad 1 = b ∧ zEnv D ca s.heap.size L xs ad s := by
  obtain ⟨D, ca, hK⟩ := env_K hts
  obtain ⟨q, aV, hR, hE⟩ := env_S (b := b) hts hgv
  exact ⟨D, ca, fun k => if k = 0 then q else b, rfl, hK, env_N hts, Nat.le_refl _, hX, hbl, hR, aV, hE⟩
end EV
