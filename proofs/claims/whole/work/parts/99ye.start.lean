/-! THE CLAIM OUT OF ONE WALK OF THE LAW'S BODY. Your part is whole_start (and what it stands on); all else here is the same for every law, but numbers. -/
def R_law : String := "GaleRoofLaw"
def lw_P (b : Addr) (xs : List Int32) (args : Array Value) (s : State) : Prop := args = #[.ref b] ∧ s.IntsAt b xs ∧ xs.length ≤ 3072 ∧ (Jvm.Cond.and given_1 narrow_1).before args s = true
def lw_Q (_ : Array Value) (s : State) (o : Outcome) (t : State) : Prop := o = .returned (some (.int 1)) ∧ Framed s o t [] 600000 7302250
def lw_Z (below : List Frame) (a : Array Value) (s : State) : State → Prop := fun t => ∃ o, t.status = .running ∧ Ended t below o ∧ lw_Q a s o t
/-- the law's own end, with 1 on the stack, nothing written that was there before, its room as the claim has it -/
theorem lw_ret {p : Program} {l : Launch} {e : Env} {s : State} {m : MethodId} {below : List Frame} {meth : Method} {c : Code} {b : Nat} (hx : p.tables.exec = Jvm.exec) (hb : c.code = code) (hr : meth.sig.returnType = ret) (hlocks : meth.locks = false) {pc : Nat} {H : Heap} {ls : Array Slot} (hdg : decode code pc = .ok (.ireturn, 1)) : W p l e room_1 s m #[Value.ref b] below meth c H [] 600000 7302250 (lw_Z below #[Value.ref b] s) (F0 m pc ls [.int 1]) := by
  intro T hT X
  obtain ⟨fs, hret, hrun, hended, hW, hframe⟩ := X.leave (v := some (.int 1)) (hlocks := hlocks) (fun h => by rw [hr] at h; cases h)
  have hmeth' : T.vm.method? m = some meth := X.method'
  refine ⟨T.setFrames fs, ?_, .returned (some (.int 1)), hrun, hended, rfl, ⟨_, rfl⟩, hW, hframe⟩
  jvm_step X.here [X.here.top, hx, hb, hdg, hmeth', hr, ret, narrow_b1]
  (try refine ⟨rfl, ?_⟩); (try refine ⟨rfl, ?_⟩)
  first | (intro acts; rw [hret _ acts rfl rfl rfl]) | rw [hret _ _ rfl rfl rfl]
  exact Steps.refl _
/-- what holds at the law's entry: the machine, the code, the tables' words (any of lw_tbl by 'hts w (by decide +kernel)'), the script of L ints xs at the cell b, what the Statement gives of the start (any of its parts by flat_of_before) -/
def lw_At (p : Program) (s : State) (m : MethodId) (meth : Method) (c : Code) (b L : Nat) (xs : Nat → Int32) : Prop :=
  p.tables.exec = Jvm.exec ∧ c.code = code ∧ meth.sig.returnType = ret ∧ c.maxLocals = 4 ∧ s.vm.findClass R_law = some m.cls ∧ (∀ w ∈ lw_tbl, w.before #[Value.ref b] s = true) ∧ va_X b L xs s s.heap ∧ b < s.heap.size ∧ meth.locks = false ∧ (Jvm.Cond.and given_1 narrow_1).before #[Value.ref b] s = true ∧ meth.name = "law"
theorem TZ_sl {θ : zS} {L : Nat} (h : θ.1 = (SHL L).take 214) : zSl θ - zSl (TZ L 2 0) ≤ 7302250 ∧ θ.1.length - (TZ L 2 0).1.length ≤ 600000 := by
  have e1 : (SHL L).take 214 = .inl 99 :: .inr (.int, L) :: SH.drop 2 := by
    rw [List.take_of_length_le (by rw [SHL_len]; exact Nat.le_refl _)]; rfl
  have k : ((SH.drop 2).map zsz).sum ≤ 7302250 := by decide +kernel
  have e2 : zSl θ = zsz (.inl 99) + (zsz (.inr (.int, L)) + ((SH.drop 2).map zsz).sum) := by
    unfold zSl; rw [h, e1, List.map_cons, List.map_cons, List.sum_cons, List.sum_cons]
  have e3 : zSl (TZ L 2 0) = zsz (.inl 99) + (zsz (.inr (.int, L)) + 0) := rfl
  have e4 : θ.1.length = 214 := by rw [h, List.length_take, SHL_len]; rfl
  rw [e2, e3, e4, TZ_len L 0 (by decide)]
  generalize ((SH.drop 2).map zsz).sum = K at k ⊢
  generalize zsz (.inl 99) = a
  generalize zsz (.inr (.int, L)) = b
  constructor <;> omega
set_option maxRecDepth 100000 in
theorem whole_startM (hMN : zMN) {p : Program} {e : Env} {s : State} {m : MethodId} {below : List Frame} {meth : Method} {c : Code} (l : Launch) {b L : Nat} {xs : Nat → Int32} (hL : L ≤ 3072) (C0 : lw_At p s m meth c b L xs) : W p l e room_1 s m #[Value.ref b] below meth c s.heap [] 0 0 (lw_Z below #[Value.ref b] s) (entryFrame m ([Value.ref b] : List Value).toArray 4) := by
  obtain ⟨hx, hb, hr, hml, hown, hts, hX, hbl, hlocks, hgv, hnm⟩ := id C0
  obtain ⟨D, ca, ad, had, hE⟩ := env_start hts hX hbl hgv
  obtain ⟨μ, hμ⟩ : ∃ μ : zM, μ = fun a j => if a = 1 then (xs j).toInt else 0 := ⟨_, rfl⟩
  have h1 : ∀ j, μ 1 j = (xs j).toInt := fun j => by rw [hμ]; exact if_pos rfl
  have hz : Zm 2 μ := fun a j ha => by rw [hμ]; exact if_neg (by omega)
  obtain ⟨f, ⟨v, θ', μ'⟩, hrun, hv, hθ⟩ := law_start (L := L) (d := 100) (xs := fun j => (xs j).toInt) (Q := fun v θ' _ => v = some (vi 1) ∧ θ'.1 = (SHL L).take 214) (by decide) (by omega) hz h1 (fun θ μ h => ⟨rfl, h⟩)
  simp only at hv hθ hrun
  obtain ⟨hs1, hs2⟩ := TZ_sl hθ
  have hl := lv_entry ([.ref b]) (n := 4) (Nat.le_of_ble_eq_true rfl)
  rw [lg_entry_eq]
  generalize (lg_sl ([.ref b]) ++ List.replicate (4 - (lg_sl ([.ref b])).length) Slot.unset).toArray = ls at hl ⊢
  have hC : zCtx p s m #[Value.ref b] meth c 296 4 := ⟨hx, hb, hml, hown, fun w hw => hts w (List.mem_filter.mp hw).1, hr, hnm, hlocks⟩
  have hWF : zWF (TZ L 2 0) μ L xs := by
    refine ⟨Nat.le_refl _, rfl, rfl, fun j _ => by rw [h1, Int32.ofInt_toInt], fun a c h2 h => ?_, fun a t k h => ?_, fun a j r h => (by cases h), fun a j => ?_⟩
    · match a, h2, h with
      | 0, h2, _ => omega
      | 1, h2, _ => omega
      | a + 2, _, h => cases h
    · match a, h with
      | 0, h => cases h
      | 1, h => cases h; exact ⟨by simp [zTys], by omega⟩
      | a + 2, h => cases h
    · have hr : R32 (μ a j) := by
        rw [hμ]
        show R32 (if a = 1 then (xs j).toInt else 0)
        by_cases ha : a = 1
        · rw [if_pos ha]; exact e32_toR _
        · rw [if_neg ha]; exact ⟨by decide, by decide⟩
      by_cases hg : zlg (TZ L 2 0) a j = true
      · rw [if_pos hg]; exact ⟨by have := hr.1; omega, by have := hr.2; omega⟩
      · rw [if_neg hg]; exact hr
  have hM : zMem D ca s.heap.size L xs ad (TZ L 2 0) μ s.heap := ⟨fun k q h => (by cases h), ⟨fun i j p q h => (by cases h), fun k q h => (by cases h)⟩, hWF⟩
  have hav : ∀ v ∈ [vr 1], zvw (TZ L 2 0).1.length v := fun v h => by
    rw [List.mem_singleton.mp h]; exact (by decide : (1 : Nat) < 2)
  have hl' : lv_has ls 4 (lv_args 0 ([vr 1].map (zabs ad))) := by
    have e : [vr 1].map (zabs ad) = [Value.ref b] := by show [Value.ref (ad 1)] = _; rw [had]
    rw [e]; exact hl
  have hO : zOn D ca s.heap.size L xs s ad [vr 1, vU, vU, vU] [] (TZ L 2 0) μ s.heap [] ls := ⟨hM, va_S.rf, zen_loc (n := 4) (av := [vr 1]) (by decide) hl', fun v h => (by cases h), zen_vw (n := 4) (av := [vr 1]) hav⟩
  refine zsim hMN l D ca s.heap.size L xs f 100 296 0 [vr 1, vU, vU, vU] [] (TZ L 2 0) μ v θ' μ' hrun p e room_1 s m _ below meth c s.heap [] 0 0 _ ad ls hC hE hO (Nat.le_of_ble_eq_true rfl) (Nat.le_of_ble_eq_true rfl) (by rw [Nat.zero_add]; exact hs2) (by rw [Nat.zero_add]; exact hs1) (fun ad1 H1 locs1 ls1 pc1 S1 i1 n1 g1 g2 g3 g4 g5 g6 => ?_)
  rw [hv] at g6
  rcases zret_spec g6 with ⟨rfl, x, rfl, hx1, _⟩ | ⟨rfl, x, rfl, hx1, _⟩ | ⟨rfl, rfl, hx1, _⟩
  · have ex : x = 1 := by
      have := Option.some.inj hx1
      exact (Sum.inl.inj this).symm
    subst ex
    obtain ⟨hd, -⟩ := ft_n g5 rfl
    rw [Nat.zero_add, Nat.zero_add]
    refine va_forget (fun q hq => g3.2.2 q hq) ?_
    refine W.widen (k := 600000) (n := 7302250) hs2 hs1 ?_
    exact lw_ret hx hb hr hlocks hd
  · cases hx1
  · cases hx1
