/-! the one String constant: length and charAt of it -/
def zByt : List Int32 := zStr.map (fun k => Int32.ofNat k)
def zText : String := "roof weigh lap nail clip years moss nailed clipped warn suck press holds far door open if or and not row col third edge bare holes inlet outlet gust way age grown nails "
def zStE (q aV z0 : Nat) (U : State) : Prop := vk_S 1 [zStr.length] [zByt] (fun _ => q) (fun _ => aV) (fun r => z0 ≤ r) U U.heap ∧ va_Z "java/lang/String" "COMPACT_STRINGS" "Z" (.int 1) (fun r => z0 ≤ r) U U.heap ∧ va_Zq "jdk/internal/util/Preconditions" "SIOOBE_FORMATTER" "Ljava/util/function/BiFunction;" (fun r => z0 ≤ r) U U.heap
theorem zStE.to {q aV z0 : Nat} {s U : State} (h : zStE q aV z0 s) (hvm : s.vm.Alike U.vm) (hk : ∀ a : Nat, a < s.heap.size → ¬ z0 ≤ a → U.heap[a]? = s.heap[a]?) : zStE q aV z0 U := ⟨(h.1.moved hvm).kept hk, (h.2.1.moved hvm).kept hk, (h.2.2.moved hvm).kept hk⟩
abbrev yS_len : MethodName := ⟨"java/lang/String", "length", "()I"⟩
abbrev yS_cod : MethodName := ⟨"java/lang/String", "coder", "()B"⟩
abbrev yS_cha : MethodName := ⟨"java/lang/String", "charAt", "(I)C"⟩
abbrev yS_lat : MethodName := ⟨"java/lang/String", "isLatin1", "()Z"⟩
abbrev yS_chk : MethodName := ⟨"java/lang/String", "checkIndex", "(II)V"⟩
abbrev yL_cha : MethodName := ⟨"java/lang/StringLatin1", "charAt", "([BI)C"⟩
abbrev yP_chk : MethodName := ⟨"jdk/internal/util/Preconditions", "checkIndex", "(IILjava/util/function/BiFunction;)I"⟩
abbrev cS_len : ByteArray := prog_17_method_54_code
abbrev cS_cod : ByteArray := prog_17_method_152_code
abbrev cS_cha : ByteArray := prog_17_method_56_code
abbrev cS_lat : ByteArray := prog_17_method_154_code
abbrev cS_chk : ByteArray := prog_17_method_155_code
abbrev cL_cha : ByteArray := prog_18_method_2_code
abbrev cP_chk : ByteArray := prog_22_method_11_code
set_option maxRecDepth 100000 in
theorem zS_w1 : ∀ w ∈ [Cond.fieldLink "java/lang/String" 38 "java/lang/String" "COMPACT_STRINGS" "Z", Cond.fieldLink "java/lang/String" 1053 "jdk/internal/util/Preconditions" "SIOOBE_FORMATTER" "Ljava/util/function/BiFunction;", Cond.fieldLink "java/lang/String" 9 "java/lang/String" "value" "[B", Cond.fieldLink "java/lang/String" 15 "java/lang/String" "coder" "B",
    Cond.methodLink "java/lang/String" 335 yS_cod, Cond.instanceMethod yS_cod, Cond.selects "java/lang/String" yS_cod yS_cod, Cond.code yS_cod cS_cod 1 (some .byte), Cond.instanceMethod yS_len, Cond.selects "java/lang/String" yS_len yS_len, Cond.code yS_len cS_len 1 (some .int),
    Cond.instanceMethod yS_cha, Cond.selects "java/lang/String" yS_cha yS_cha, Cond.code yS_cha cS_cha 2 (some .char), Cond.methodLink "java/lang/String" 492 yS_lat, Cond.instanceMethod yS_lat, Cond.selects "java/lang/String" yS_lat yS_lat, Cond.code yS_lat cS_lat 1 (some .boolean),
    Cond.methodLink "java/lang/String" 495 yL_cha, Cond.static yL_cha, Cond.code yL_cha cL_cha 2 (some .char), Cond.methodLink "java/lang/StringLatin1" 9 yS_chk, Cond.static yS_chk, Cond.code yS_chk cS_chk 2 none, Cond.methodLink "java/lang/String" 1059 yP_chk, Cond.static yP_chk, Cond.code yP_chk cP_chk 3 (some .int),
    Cond.initialized "java/lang/String", Cond.initialized "java/lang/StringLatin1", Cond.initialized "jdk/internal/util/Preconditions"], w ∈ zTW := zin_r [155, 171, 2192, 2193, 151, 152, 153, 154, 148, 149, 150, 158, 159, 160, 161, 162, 163, 164, 165, 166, 167, 168, 169, 170, 173, 174, 175, 113, 114, 115] rfl rfl
theorem zS_w {w : Cond} (k : Nat) (h : ([Cond.fieldLink "java/lang/String" 38 "java/lang/String" "COMPACT_STRINGS" "Z", Cond.fieldLink "java/lang/String" 1053 "jdk/internal/util/Preconditions" "SIOOBE_FORMATTER" "Ljava/util/function/BiFunction;", Cond.fieldLink "java/lang/String" 9 "java/lang/String" "value" "[B", Cond.fieldLink "java/lang/String" 15 "java/lang/String" "coder" "B",
    Cond.methodLink "java/lang/String" 335 yS_cod, Cond.instanceMethod yS_cod, Cond.selects "java/lang/String" yS_cod yS_cod, Cond.code yS_cod cS_cod 1 (some .byte), Cond.instanceMethod yS_len, Cond.selects "java/lang/String" yS_len yS_len, Cond.code yS_len cS_len 1 (some .int),
    Cond.instanceMethod yS_cha, Cond.selects "java/lang/String" yS_cha yS_cha, Cond.code yS_cha cS_cha 2 (some .char), Cond.methodLink "java/lang/String" 492 yS_lat, Cond.instanceMethod yS_lat, Cond.selects "java/lang/String" yS_lat yS_lat, Cond.code yS_lat cS_lat 1 (some .boolean),
    Cond.methodLink "java/lang/String" 495 yL_cha, Cond.static yL_cha, Cond.code yL_cha cL_cha 2 (some .char), Cond.methodLink "java/lang/StringLatin1" 9 yS_chk, Cond.static yS_chk, Cond.code yS_chk cS_chk 2 none, Cond.methodLink "java/lang/String" 1059 yP_chk, Cond.static yP_chk, Cond.code yP_chk cP_chk 3 (some .int),
    Cond.initialized "java/lang/String", Cond.initialized "java/lang/StringLatin1", Cond.initialized "jdk/internal/util/Preconditions"] : List Cond)[k]? = some w) : w ∈ zTW := zS_w1 w (List.mem_of_getElem? h)
/-- a method of the library that only reads: its room in frames and words, its arguments, what it answers -/
def zLf (l : Launch) (y : MethodName) (cc : ByteArray) (mx : Nat) (ret : Option FieldType) (fr : Nat) (av : List Value) (P : State → Prop) (o : Option Value) : Prop :=
  Met l y (Cond.code y cc mx ret :: zTW) { frames := fr, cells := 0, slots := 0, locals := 32 * fr } (va_Pc av P) (fun _ st oc t => oc = .returned o ∧ t.heap = st.heap) 0 0 (fun _ => False)
section ZS
variable {p : Program} {l : Launch} {e : Env} {R : Room} {s : State} {m : MethodId} {args : Array Value} {below : List Frame} {meth : Method} {c : Code} {H : Heap} {locs : List Loc} {cells slots : Nat} {Q : State → Prop}
theorem W_lf {rest st0 : List Value} {o : Option Value} {pc : Nat} {ls : Array Slot} (hr : va_Run p l e R s m args below meth c H locs cells slots 0 0 (F0 m pc ls st0) rest (fun st oc t => oc = .returned o ∧ t.heap = st.heap) (fun _ => False))
    (kk : W p l e R s m args below meth c H locs cells slots Q (F0 m (pc + 3) ls (o.toList ++ rest))) : W p l e R s m args below meth c H locs cells slots Q (F0 m pc ls st0) := by
  intro T hT X
  obtain ⟨v, st₀, t, T', L1, h0, X', hL, e1, e2, hq, st⟩ := hr T hT X
  obtain ⟨hq1, hq2⟩ := hq
  cases hq1
  have hL1 : L1 = [] := by
    cases L1 with
    | nil => rfl
    | cons a r => exact (hL a List.mem_cons_self).elim
  subst hL1
  rw [List.append_nil] at X'
  obtain ⟨t2, a1, b1⟩ := kk T' (by rw [e1, hq2, h0]) X'
  exact ⟨t2, st t2 a1, b1⟩
theorem zG_of {y : MethodName} {cc : ByteArray} {mx : Nat} {ret : Option FieldType} (h : Cond.code y cc mx ret ∈ zTW) : GoodIn zTW (Cond.code y cc mx ret :: zTW) := fun w hw => by
  rcases List.mem_cons.mp hw with rfl | hw
  · exact zTW_good _ h
  · exact zTW_good w hw
theorem zBl {av : List Value} {q aV z0 : Nat} : FrameBlind (va_Pc av (zStE q aV z0)) := fun _ U g mk h => ⟨h.1, h.2.to (U := U.calling g mk _) (Vm.Alike.refl U.vm) (fun _ _ _ => rfl)⟩
end ZS
set_option maxHeartbeats 1000000 in
set_option maxRecDepth 100000 in
theorem c_cod (l : Launch) (q aV z0 : Nat) : zLf l yS_cod cS_cod 1 (some .byte) 0 [.ref q] (zStE q aV z0) (some (.int 0)) := by
  refine Met.ofW (cc := cS_cod) (maxL := 1) (ret := some .byte) (by decide) rfl ?_
  intro p e s m args below meth c s₁ B hml hPc
  obtain ⟨rfl, hZ⟩ := hPc
  have hx := B.exec
  have hb := B.bytes
  have hts : ∀ w ∈ zTW, w.before _ s = true := fun w hw => atoms_spec B.pre w (List.mem_cons_of_mem _ hw)
  have hown : s.vm.findClass "java/lang/String" = some m.cls := findClass_of_methodNamed B.named
  have hlocks := B.notSynchronized
  have hl := lv_entry ([.ref q]) (n := 1) (Nat.le_of_ble_eq_true rfl)
  rw [lg_entry_eq]
  generalize (lg_sl ([.ref q]) ++ List.replicate (1 - (lg_sl ([.ref q])).length) Slot.unset).toArray = ls at hl ⊢
  have hS : va_S (fun r => z0 ≤ r) s.heap s.heap [] := va_S.rf
  refine va_gets hx hb hZ.2.1 hS hown (hts _ (zS_w 0 rfl)) (fun x h => h) (by decide +kernel : decode cS_cod 0 = .ok (.getstatic 38, 3)) ?_
  refine lv_if_eq (tgt := 13) hx hb (by decide +kernel : decode cS_cod 3 = .ok (.ifCond .eq 10, 3)) (by decide) (fun h => absurd h (by decide)) (fun _ => ?_)
  refine lv_aload_n hx hb (by decide +kernel : decode cS_cod 6 = .ok (.aload_n 0, 1)) rfl (lv_at hl 0 rfl) ?_
  refine vk_getf hx hb (hZ.1.1 0 (by decide)).2.1 hS hown (hts _ (zS_w 3 rfl)) (fun x h => h) (by decide +kernel : decode cS_cod 7 = .ok (.getfield 15, 3)) ?_
  refine lv_goto (tgt := 14) hx hb (by decide +kernel : decode cS_cod 10 = .ok (.goto 4, 3)) (by decide) ?_
  exact W.zret (ty := .byte) hx hb B.returns rfl (fun t ht hW => ⟨rfl, ht⟩) (fun q h => by cases h) (by decide +kernel : decode cS_cod 14 = .ok (.ireturn, 1)) hlocks
set_option maxHeartbeats 1000000 in
set_option maxRecDepth 100000 in
theorem c_lat (l : Launch) (q aV z0 : Nat) : zLf l yS_lat cS_lat 1 (some .boolean) 0 [.ref q] (zStE q aV z0) (some (.int 1)) := by
  refine Met.ofW (cc := cS_lat) (maxL := 1) (ret := some .boolean) (by decide) rfl ?_
  intro p e s m args below meth c s₁ B hml hPc
  obtain ⟨rfl, hZ⟩ := hPc
  have hx := B.exec
  have hb := B.bytes
  have hts : ∀ w ∈ zTW, w.before _ s = true := fun w hw => atoms_spec B.pre w (List.mem_cons_of_mem _ hw)
  have hown : s.vm.findClass "java/lang/String" = some m.cls := findClass_of_methodNamed B.named
  have hlocks := B.notSynchronized
  have hl := lv_entry ([.ref q]) (n := 1) (Nat.le_of_ble_eq_true rfl)
  rw [lg_entry_eq]
  generalize (lg_sl ([.ref q]) ++ List.replicate (1 - (lg_sl ([.ref q])).length) Slot.unset).toArray = ls at hl ⊢
  have hS : va_S (fun r => z0 ≤ r) s.heap s.heap [] := va_S.rf
  refine va_gets hx hb hZ.2.1 hS hown (hts _ (zS_w 0 rfl)) (fun x h => h) (by decide +kernel : decode cS_lat 0 = .ok (.getstatic 38, 3)) ?_
  refine lv_if_eq (tgt := 17) hx hb (by decide +kernel : decode cS_lat 3 = .ok (.ifCond .eq 14, 3)) (by decide) (fun h => absurd h (by decide)) (fun _ => ?_)
  refine lv_aload_n hx hb (by decide +kernel : decode cS_lat 6 = .ok (.aload_n 0, 1)) rfl (lv_at hl 0 rfl) ?_
  refine vk_getf hx hb (hZ.1.1 0 (by decide)).2.1 hS hown (hts _ (zS_w 3 rfl)) (fun x h => h) (by decide +kernel : decode cS_lat 7 = .ok (.getfield 15, 3)) ?_
  refine lv_if_ne (tgt := 17) hx hb (by decide +kernel : decode cS_lat 10 = .ok (.ifCond .ne 7, 3)) (by decide) (fun h => absurd rfl h) (fun _ => ?_)
  refine lv_iconst (v := 1) hx hb (by decide +kernel : decode cS_lat 13 = .ok (.iconst 1, 1)) (by decide) ?_
  refine lv_goto (tgt := 18) hx hb (by decide +kernel : decode cS_lat 14 = .ok (.goto 4, 3)) (by decide) ?_
  exact W.zret (ty := .boolean) hx hb B.returns rfl (fun t ht hW => ⟨rfl, ht⟩) (fun q h => by cases h) (by decide +kernel : decode cS_lat 18 = .ok (.ireturn, 1)) hlocks
set_option maxHeartbeats 1000000 in
set_option maxRecDepth 100000 in
theorem c_len (l : Launch) (q aV z0 : Nat) : zLf l yS_len cS_len 1 (some .int) 1 [.ref q] (zStE q aV z0) (some (.int (Int32.ofNat zStr.length))) := by
  refine Met.ofW (cc := cS_len) (maxL := 1) (ret := some .int) (by decide) rfl ?_
  intro p e s m args below meth c s₁ B hml hPc
  obtain ⟨rfl, hZ⟩ := hPc
  have hx := B.exec
  have hb := B.bytes
  have hts : ∀ w ∈ zTW, w.before _ s = true := fun w hw => atoms_spec B.pre w (List.mem_cons_of_mem _ hw)
  have hown : s.vm.findClass "java/lang/String" = some m.cls := findClass_of_methodNamed B.named
  have hlocks := B.notSynchronized
  have hl := lv_entry ([.ref q]) (n := 1) (Nat.le_of_ble_eq_true rfl)
  rw [lg_entry_eq]
  generalize (lg_sl ([.ref q]) ++ List.replicate (1 - (lg_sl ([.ref q])).length) Slot.unset).toArray = ls at hl ⊢
  have hS : va_S (fun r => z0 ≤ r) s.heap s.heap [] := va_S.rf
  obtain ⟨-, -, hv, hT⟩ := hZ.1.1 0 (by decide)
  refine lv_aload_n hx hb (by decide +kernel : decode cS_len 0 = .ok (.aload_n 0, 1)) rfl (lv_at hl 0 rfl) ?_
  refine vk_getf hx hb hv hS hown (hts _ (zS_w 2 rfl)) (fun x h => h) (by decide +kernel : decode cS_len 1 = .ok (.getfield 9, 3)) ?_
  refine va_tlen hx hb hT hS (v := Int32.ofNat zStr.length) rfl (by decide +kernel : decode cS_len 4 = .ok (.arraylength, 1)) ?_
  refine lv_aload_n hx hb (by decide +kernel : decode cS_len 5 = .ok (.aload_n 0, 1)) rfl (lv_at hl 0 rfl) ?_
  refine W_lf (o := some (.int 0)) (rest := [.int (Int32.ofNat zStr.length)]) (va_runV (C := "java/lang/String") (b := q) (As := []) (Ts := zTW) ⟨hx, hb, hml, hown, hts⟩ (c_cod l q aV z0) ⟨callB_of 0 hts (zG_of (zS_w 7 rfl)) rfl rfl rfl (hts _ (zS_w 27 rfl)) (hts _ (zS_w 4 rfl)) ⟨by decide +kernel, by decide +kernel, by decide +kernel⟩ ⟨Nat.le_of_ble_eq_true rfl, Nat.le_of_ble_eq_true rfl⟩, hts _ (zS_w 5 rfl), hts _ (zS_w 6 rfl)⟩
    ⟨zBl, vk_recv (i := 0) hZ.1 (by decide) hS, fun U hU hW => ⟨rfl, hZ.to hW.alike (fun a _ _ => by rw [hU])⟩⟩ rfl rfl hl.1 rfl (lv_room (Nat.le_of_ble_eq_true rfl)) (by decide +kernel : decode cS_len 6 = .ok (.invokevirtual 335, 3)) ⟨Nat.le_refl _, Nat.le_refl _⟩) ?_
  refine lv_ishr hx hb (by decide +kernel : decode cS_len 9 = .ok (.ishr, 1)) ?_
  refine W.eq (g2 := F0 m 10 ls [.int (Int32.ofNat zStr.length)]) (by congr 1) ?_
  exact W.iret hx hb B.returns (fun t ht hW => ⟨rfl, ht⟩) (fun q h => by cases h) (by decide +kernel : decode cS_len 10 = .ok (.ireturn, 1)) hlocks
set_option maxHeartbeats 1000000 in
set_option maxRecDepth 100000 in
theorem c_pck (l : Launch) (q aV z0 : Nat) (i k : Int32) (f : Value) (hf : f = .null ∨ ∃ t, f = .ref t) (h0 : ¬ i < 0) (h1 : i < k) : zLf l yP_chk cP_chk 3 (some .int) 0 [.int i, .int k, f] (zStE q aV z0) (some (.int i)) := by
  refine Met.ofW (cc := cP_chk) (maxL := 3) (ret := some .int) (by decide) rfl ?_
  intro p e s m args below meth c s₁ B hml hPc
  obtain ⟨rfl, hZ⟩ := hPc
  have hx := B.exec
  have hb := B.bytes
  have hlocks := B.notSynchronized
  have hcf : f.category = 1 := by rcases hf with rfl | ⟨t, rfl⟩ <;> rfl
  have hsl : (lg_sl ([.int i, .int k, f])).length = 3 := by rcases hf with rfl | ⟨t, rfl⟩ <;> rfl
  have hl := lv_entry ([.int i, .int k, f]) (n := 3) (by rw [hsl]; exact Nat.le_refl _)
  rw [lg_entry_eq]
  generalize (lg_sl ([.int i, .int k, f]) ++ List.replicate (3 - (lg_sl ([.int i, .int k, f])).length) Slot.unset).toArray = ls at hl ⊢
  refine lv_iload_n hx hb (by decide +kernel : decode cP_chk 0 = .ok (.iload_n 0, 1)) rfl (lv_at hl 0 rfl) ?_
  refine lv_if_lt (tgt := 9) hx hb (by decide +kernel : decode cP_chk 1 = .ok (.ifCond .lt 8, 3)) (by decide) (fun h => absurd h h0) (fun _ => ?_)
  refine lv_iload_n hx hb (by decide +kernel : decode cP_chk 4 = .ok (.iload_n 0, 1)) rfl (lv_at hl 0 rfl) ?_
  refine lv_iload_n hx hb (by decide +kernel : decode cP_chk 5 = .ok (.iload_n 1, 1)) rfl (lv_at hl 1 rfl) ?_
  refine lv_icmp_lt (tgt := 16) hx hb (by decide +kernel : decode cP_chk 6 = .ok (.if_icmp .lt 10, 3)) (by decide) (fun _ => ?_) (fun h => absurd h1 h)
  refine lv_iload_n hx hb (by decide +kernel : decode cP_chk 16 = .ok (.iload_n 0, 1)) rfl (lv_at hl 0 rfl) ?_
  exact W.iret hx hb B.returns (fun t ht hW => ⟨rfl, ht⟩) (fun q h => by cases h) (by decide +kernel : decode cP_chk 17 = .ok (.ireturn, 1)) hlocks
set_option maxHeartbeats 1000000 in
set_option maxRecDepth 100000 in
theorem c_chk (l : Launch) (q aV z0 : Nat) (i k : Int32) (h0 : ¬ i < 0) (h1 : i < k) : zLf l yS_chk cS_chk 2 none 1 [.int i, .int k] (zStE q aV z0) none := by
  refine Met.ofW (cc := cS_chk) (maxL := 2) (ret := none) (by decide) rfl ?_
  intro p e s m args below meth c s₁ B hml hPc
  obtain ⟨rfl, hZ⟩ := hPc
  have hx := B.exec
  have hb := B.bytes
  have hts : ∀ w ∈ zTW, w.before _ s = true := fun w hw => atoms_spec B.pre w (List.mem_cons_of_mem _ hw)
  have hown : s.vm.findClass "java/lang/String" = some m.cls := findClass_of_methodNamed B.named
  have hlocks := B.notSynchronized
  have hl := lv_entry ([.int i, .int k]) (n := 2) (Nat.le_of_ble_eq_true rfl)
  rw [lg_entry_eq]
  generalize (lg_sl ([.int i, .int k]) ++ List.replicate (2 - (lg_sl ([.int i, .int k])).length) Slot.unset).toArray = ls at hl ⊢
  have hS : va_S (fun r => z0 ≤ r) s.heap s.heap [] := va_S.rf
  obtain ⟨f, hf, hZf⟩ : ∃ f : Value, (f = .null ∨ ∃ t, f = .ref t) ∧ va_Z "jdk/internal/util/Preconditions" "SIOOBE_FORMATTER" "Ljava/util/function/BiFunction;" f (fun r => z0 ≤ r) s s.heap := by
    rcases hZ.2.2 with h | ⟨t, h⟩
    · exact ⟨_, Or.inl rfl, h⟩
    · exact ⟨_, Or.inr ⟨t, rfl⟩, h⟩
  refine lv_iload_n hx hb (by decide +kernel : decode cS_chk 0 = .ok (.iload_n 0, 1)) rfl (lv_at hl 0 rfl) ?_
  refine lv_iload_n hx hb (by decide +kernel : decode cS_chk 1 = .ok (.iload_n 1, 1)) rfl (lv_at hl 1 rfl) ?_
  refine va_gets hx hb hZf hS hown (hts _ (zS_w 1 rfl)) (fun x h => h) (by decide +kernel : decode cS_chk 2 = .ok (.getstatic 1053, 3)) ?_
  refine W_lf (o := some (.int i)) (rest := []) (va_runS (As := [.int i, .int k, f]) (Ts := zTW) ⟨hx, hb, hml, hown, hts⟩ (c_pck l q aV z0 i k f hf h0 h1) ⟨callB_of 3 hts (zG_of (zS_w 26 rfl)) rfl rfl rfl (hts _ (zS_w 29 rfl)) (hts _ (zS_w 24 rfl)) ⟨by decide +kernel, by decide +kernel, by decide +kernel⟩ ⟨Nat.le_of_ble_eq_true rfl, Nat.le_of_ble_eq_true rfl⟩, hts _ (zS_w 25 rfl)⟩
    ⟨zBl, fun U hU hW => ⟨rfl, hZ.to hW.alike (fun a _ _ => by rw [hU])⟩⟩ rfl rfl hl.1 rfl (lv_room (Nat.le_of_ble_eq_true rfl)) (by decide +kernel : decode cS_chk 5 = .ok (.invokestatic 1059, 3)) ⟨Nat.le_refl _, Nat.le_refl _⟩) ?_
  refine lv_pop hx hb (by decide +kernel : decode cS_chk 8 = .ok (.pop, 1)) rfl ?_
  exact W.vret hx hb B.returns (fun t ht hW => ⟨rfl, ht⟩) (fun q h => by cases h) (by decide +kernel : decode cS_chk 9 = .ok (.return_, 1)) hlocks
theorem zByt_at : ∀ i, i < zStr.length → (((zByt.getD i 0) &&& 255).toUInt32 % 65536).toInt32 = Int32.ofNat (zStr.getD i 0) ∧ narrow .char (.int (Int32.ofNat (zStr.getD i 0))) = .int (Int32.ofNat (zStr.getD i 0)) := by
  have h : ∀ i ∈ List.range zStr.length, (((zByt.getD i 0) &&& 255).toUInt32 % 65536).toInt32 = Int32.ofNat (zStr.getD i 0) ∧ narrow .char (.int (Int32.ofNat (zStr.getD i 0))) = .int (Int32.ofNat (zStr.getD i 0)) := by decide +kernel
  exact fun i hi => h i (List.mem_range.mpr hi)
set_option maxHeartbeats 1000000 in
set_option maxRecDepth 100000 in
theorem c_lch (l : Launch) (q aV z0 : Nat) (i : Int32) (h0 : ¬ i < 0) (h1 : i < Int32.ofNat zStr.length) (h2 : i.toNatClampNeg < zStr.length) : zLf l yL_cha cL_cha 2 (some .char) 2 [.ref aV, .int i] (zStE q aV z0) (some (.int (Int32.ofNat (zStr.getD i.toNatClampNeg 0)))) := by
  refine Met.ofW (cc := cL_cha) (maxL := 2) (ret := some .char) (by decide) rfl ?_
  intro p e s m args below meth c s₁ B hml hPc
  obtain ⟨rfl, hZ⟩ := hPc
  have hx := B.exec
  have hb := B.bytes
  have hts : ∀ w ∈ zTW, w.before _ s = true := fun w hw => atoms_spec B.pre w (List.mem_cons_of_mem _ hw)
  have hown : s.vm.findClass "java/lang/StringLatin1" = some m.cls := findClass_of_methodNamed B.named
  have hlocks := B.notSynchronized
  have hl := lv_entry ([.ref aV, .int i]) (n := 2) (Nat.le_of_ble_eq_true rfl)
  rw [lg_entry_eq]
  generalize (lg_sl ([.ref aV, .int i]) ++ List.replicate (2 - (lg_sl ([.ref aV, .int i])).length) Slot.unset).toArray = ls at hl ⊢
  have hS : va_S (fun r => z0 ≤ r) s.heap s.heap [] := va_S.rf
  obtain ⟨-, -, hv, hT⟩ := hZ.1.1 0 (by decide)
  refine lv_iload_n hx hb (by decide +kernel : decode cL_cha 0 = .ok (.iload_n 1, 1)) rfl (lv_at hl 1 rfl) ?_
  refine lv_aload_n hx hb (by decide +kernel : decode cL_cha 1 = .ok (.aload_n 0, 1)) rfl (lv_at hl 0 rfl) ?_
  refine va_tlen hx hb hT hS (v := Int32.ofNat zStr.length) rfl (by decide +kernel : decode cL_cha 2 = .ok (.arraylength, 1)) ?_
  refine W_lf (o := none) (rest := []) (va_runS (As := [.int i, .int (Int32.ofNat zStr.length)]) (Ts := zTW) ⟨hx, hb, hml, hown, hts⟩ (c_chk l q aV z0 i _ h0 h1) ⟨callB_of 2 hts (zG_of (zS_w 23 rfl)) rfl rfl rfl (hts _ (zS_w 27 rfl)) (hts _ (zS_w 21 rfl)) ⟨by decide +kernel, by decide +kernel, by decide +kernel⟩ ⟨Nat.le_of_ble_eq_true rfl, Nat.le_of_ble_eq_true rfl⟩, hts _ (zS_w 22 rfl)⟩
    ⟨zBl, fun U hU hW => ⟨rfl, hZ.to hW.alike (fun a _ _ => by rw [hU])⟩⟩ rfl rfl hl.1 rfl (lv_room (Nat.le_of_ble_eq_true rfl)) (by decide +kernel : decode cL_cha 3 = .ok (.invokestatic 9, 3)) ⟨Nat.le_refl _, Nat.le_refl _⟩) ?_
  refine lv_aload_n hx hb (by decide +kernel : decode cL_cha 6 = .ok (.aload_n 0, 1)) rfl (lv_at hl 0 rfl) ?_
  refine lv_iload_n hx hb (by decide +kernel : decode cL_cha 7 = .ok (.iload_n 1, 1)) rfl (lv_at hl 1 rfl) ?_
  refine va_tb hx hb hT hS (v := .int (zByt.getD i.toNatClampNeg 0)) (fun h => by
    rcases h with h | h
    · exact h0 h
    · exact absurd h (Nat.not_le.mpr h2)) rfl (by decide +kernel : decode cL_cha 8 = .ok (.baload, 1)) ?_
  refine lv_sipush (v := 255) hx hb (by decide +kernel : decode cL_cha 9 = .ok (.sipush 255, 3)) (by decide) ?_
  refine lv_iand hx hb (by decide +kernel : decode cL_cha 12 = .ok (.iand, 1)) ?_
  obtain ⟨e1, e2⟩ := zByt_at i.toNatClampNeg h2
  refine lv_i2c hx hb (by decide +kernel : decode cL_cha 13 = .ok (.i2c, 1)) e1 ?_
  exact W.zret (ty := .char) hx hb B.returns e2 (fun t ht hW => ⟨rfl, ht⟩) (fun q h => by cases h) (by decide +kernel : decode cL_cha 14 = .ok (.ireturn, 1)) hlocks
set_option maxHeartbeats 1000000 in
set_option maxRecDepth 100000 in
theorem c_cha (l : Launch) (q aV z0 : Nat) (i : Int32) (h0 : ¬ i < 0) (h1 : i < Int32.ofNat zStr.length) (h2 : i.toNatClampNeg < zStr.length) : zLf l yS_cha cS_cha 2 (some .char) 3 [.ref q, .int i] (zStE q aV z0) (some (.int (Int32.ofNat (zStr.getD i.toNatClampNeg 0)))) := by
  refine Met.ofW (cc := cS_cha) (maxL := 2) (ret := some .char) (by decide) rfl ?_
  intro p e s m args below meth c s₁ B hml hPc
  obtain ⟨rfl, hZ⟩ := hPc
  have hx := B.exec
  have hb := B.bytes
  have hts : ∀ w ∈ zTW, w.before _ s = true := fun w hw => atoms_spec B.pre w (List.mem_cons_of_mem _ hw)
  have hown : s.vm.findClass "java/lang/String" = some m.cls := findClass_of_methodNamed B.named
  have hlocks := B.notSynchronized
  have hl := lv_entry ([.ref q, .int i]) (n := 2) (Nat.le_of_ble_eq_true rfl)
  rw [lg_entry_eq]
  generalize (lg_sl ([.ref q, .int i]) ++ List.replicate (2 - (lg_sl ([.ref q, .int i])).length) Slot.unset).toArray = ls at hl ⊢
  have hS : va_S (fun r => z0 ≤ r) s.heap s.heap [] := va_S.rf
  obtain ⟨-, -, hv, hT⟩ := hZ.1.1 0 (by decide)
  refine lv_aload_n hx hb (by decide +kernel : decode cS_cha 0 = .ok (.aload_n 0, 1)) rfl (lv_at hl 0 rfl) ?_
  refine W_lf (o := some (.int 1)) (rest := []) (va_runV (C := "java/lang/String") (b := q) (As := []) (Ts := zTW) ⟨hx, hb, hml, hown, hts⟩ (c_lat l q aV z0) ⟨callB_of 0 hts (zG_of (zS_w 17 rfl)) rfl rfl rfl (hts _ (zS_w 27 rfl)) (hts _ (zS_w 14 rfl)) ⟨by decide +kernel, by decide +kernel, by decide +kernel⟩ ⟨Nat.le_of_ble_eq_true rfl, Nat.le_of_ble_eq_true rfl⟩, hts _ (zS_w 15 rfl), hts _ (zS_w 16 rfl)⟩
    ⟨zBl, vk_recv (i := 0) hZ.1 (by decide) hS, fun U hU hW => ⟨rfl, hZ.to hW.alike (fun a _ _ => by rw [hU])⟩⟩ rfl rfl hl.1 rfl (lv_room (Nat.le_of_ble_eq_true rfl)) (by decide +kernel : decode cS_cha 1 = .ok (.invokevirtual 492, 3)) ⟨Nat.le_refl _, Nat.le_refl _⟩) ?_
  refine lv_if_eq (tgt := 16) hx hb (by decide +kernel : decode cS_cha 4 = .ok (.ifCond .eq 12, 3)) (by decide) (fun h => absurd h (by decide)) (fun _ => ?_)
  refine lv_aload_n hx hb (by decide +kernel : decode cS_cha 7 = .ok (.aload_n 0, 1)) rfl (lv_at hl 0 rfl) ?_
  refine vk_getf hx hb hv hS hown (hts _ (zS_w 2 rfl)) (fun x h => h) (by decide +kernel : decode cS_cha 8 = .ok (.getfield 9, 3)) ?_
  refine lv_iload_n hx hb (by decide +kernel : decode cS_cha 11 = .ok (.iload_n 1, 1)) rfl (lv_at hl 1 rfl) ?_
  refine W_lf (o := some (.int (Int32.ofNat (zStr.getD i.toNatClampNeg 0)))) (rest := []) (va_runS (As := [.ref aV, .int i]) (Ts := zTW) ⟨hx, hb, hml, hown, hts⟩ (c_lch l q aV z0 i h0 h1 h2) ⟨callB_of 2 hts (zG_of (zS_w 20 rfl)) rfl rfl rfl (hts _ (zS_w 28 rfl)) (hts _ (zS_w 18 rfl)) ⟨by decide +kernel, by decide +kernel, by decide +kernel⟩ ⟨Nat.le_of_ble_eq_true rfl, Nat.le_of_ble_eq_true rfl⟩, hts _ (zS_w 19 rfl)⟩
    ⟨zBl, fun U hU hW => ⟨rfl, hZ.to hW.alike (fun a _ _ => by rw [hU])⟩⟩ rfl rfl hl.1 rfl (lv_room (Nat.le_of_ble_eq_true rfl)) (by decide +kernel : decode cS_cha 12 = .ok (.invokestatic 495, 3)) ⟨Nat.le_refl _, Nat.le_refl _⟩) ?_
  obtain ⟨e1, e2⟩ := zByt_at i.toNatClampNeg h2
  exact W.zret (ty := .char) hx hb B.returns e2 (fun t ht hW => ⟨rfl, ht⟩) (fun q h => by cases h) (by decide +kernel : decode cS_cha 15 = .ok (.ireturn, 1)) hlocks
