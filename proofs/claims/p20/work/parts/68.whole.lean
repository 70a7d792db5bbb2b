/-! THE CLAIM OUT OF ONE WALK OF THE LAW'S BODY. Your part is whole_start (and what it stands on); all else here is the same for every law, but numbers. -/
def R_law : String := "FlexRowsLaw"
def lw_P (b : Addr) (xs : List Int32) (args : Array Value) (s : State) : Prop := args = #[.ref b] ∧ s.IntsAt b xs ∧ xs.length ≤ 260 ∧ (Jvm.Cond.and given_1 narrow_1).before args s = true
def lw_Q (_ : Array Value) (s : State) (o : Outcome) (t : State) : Prop := o = .returned (some (.int 1)) ∧ Framed s o t [] 600000 7302250
def lw_Z (below : List Frame) (a : Array Value) (s : State) : State → Prop := fun t => ∃ o, t.status = .running ∧ Ended t below o ∧ lw_Q a s o t
/-- the law's own end, with 1 on the stack, nothing written that was there before, its room as the claim has it -/
theorem lw_ret {p : Program} {l : Launch} {e : Env} {s : State} {m : MethodId} {below : List Frame} {meth : Method} {c : Code} {b : Nat} (hx : p.tables.exec = Jvm.exec) (hb : c.code = code) (hr : meth.sig.returnType = ret) (hlocks : meth.locks = false) {pc : Nat} {H : Heap} {ls : Array Slot} (hdg : decode code pc = .ok (.ireturn, 1)) : W p l e room_1 s m #[Value.ref b] below meth c H [] 600000 7302250 (lw_Z below #[Value.ref b] s) (F0 m pc ls [.int 1]) := by
  intro T hT X
  obtain ⟨fs, hret, hrun, hended, hW, hframe⟩ := X.leave (v := some (.int 1)) (hlocks := hlocks) (fun h => by rw [hr] at h; cases h)
  have hmeth' : T.vm.method? m = some meth := X.method'
  refine ⟨T.setFrames fs, ?_, .returned (some (.int 1)), hrun, hended, rfl, ⟨_, rfl⟩, hW, hframe⟩
  jvm_step X.here [X.here.top, hx, hb, hdg, hmeth', hr, ret, narrow_b1]
  (try refine ⟨rfl, ?_⟩); (try refine ⟨rfl, ?_⟩)
  first | (intro acts; rw [hret _ acts rfl rfl rfl]) | rw [hret _ _ rfl rfl rfl]
  exact Steps.refl _
/-- what holds at the law's entry: the machine, the code, the tables' words (any of lw_tbl by 'hts w (by decide +kernel)'), the script of L ints xs at the cell b, what the Statement gives of the start (any of its parts by flat_of_before) -/
def lw_At (p : Program) (s : State) (m : MethodId) (meth : Method) (c : Code) (b L : Nat) (xs : Nat → Int32) : Prop :=
  p.tables.exec = Jvm.exec ∧ c.code = code ∧ meth.sig.returnType = ret ∧ c.maxLocals = 10 ∧ s.vm.findClass R_law = some m.cls ∧ (∀ w ∈ lw_tbl, w.before #[Value.ref b] s = true) ∧ va_X b L xs s s.heap ∧ b < s.heap.size ∧ meth.locks = false ∧ (Jvm.Cond.and given_1 narrow_1).before #[Value.ref b] s = true
/-! the law, whole -/
theorem law_all {E : gE} (hL : E.2.2.2.2.1 ≤ 260) : Wp E fL_law 194 0 [.ref 1000, .null, .null, .null, .null, .null, .null, .null, .null, .null] [] (0, cI0, gRL [], (0, [])) lwK := by
  refine law_ctor (by decide) ?_
  refine Wp.eq (σ1 := gM cI2 (0, [])) rfl rfl rfl ?_ (law_begin hL)
  show (44, cI2, gRL cRL, ((0, []) : gX)) = (44, cI2, gR0, ((0, []) : gX))
  rw [cR_eq]
/-- YOUR PART: from the entry, for every script of at most 260 ints, the law comes to its end with true -/
theorem whole_start {p : Program} {e : Env} {s : State} {m : MethodId} {below : List Frame} {meth : Method} {c : Code} (l : Launch) (hflags : l.flags = flags0) {b L : Nat} {xs : Nat → Int32} (hL : L ≤ 260) (C0 : lw_At p s m meth c b L xs) : W p l e room_1 s m #[Value.ref b] below meth c s.heap [] 0 0 (lw_Z below #[Value.ref b] s) (entryFrame m ([Value.ref b] : List Value).toArray 10) := by
  obtain ⟨hx, hb, hr, hml, hown, hts, hX, hbl, hlocks, hgv⟩ := id C0
  obtain ⟨G, cid, hK⟩ := start_K (args := #[Value.ref b]) (fun w hw => hts w (gB_tbl hw))
  obtain ⟨ro, ro0, hRO⟩ := start_RO hX hbl hts hgv
  have hl := lv_entry ([.ref b]) (n := 10) (Nat.le_of_ble_eq_true rfl)
  rw [lg_entry_eq]
  generalize (lg_sl ([.ref b]) ++ List.replicate (10 - (lg_sl ([.ref b])).length) Slot.unset).toArray = ls at hl ⊢
  have hl : lv_has ls 10 [(0, .ref b)] := hl
  have h194 : gsl 194 = 9518 := by decide +kernel
  refine law_all (E := (s.heap.size, G, cid, ro, L, xs)) hL p l e room_1 s m #[Value.ref b] below meth c _ ⟨hx, hb, hml, hown, fun w hw => hts w (gB_tbl hw), hK, hRO G cid, Nat.le_refl _, by decide +kernel, by decide +kernel, fun q => absurd q (by decide +kernel)⟩ 0 (by decide +kernel) (by rw [h194]; decide +kernel) ?_ s.heap [] 0 0 ls ⟨⟨rfl, fun i hi => absurd hi (Nat.not_lt_zero _)⟩, va_S.rf, ⟨hl.1, hl.2.1, fun i v hi hv => ?_⟩, rfl, rfl, Nat.zero_le _⟩
  · rintro pc' L' st' σ' H' locs' cells' slots' ls' ⟨rfl, rfl, hn⟩ g
    have g4 := g.2.2.2.1
    have g5 := g.2.2.2.2.1
    rw [hn] at g4 g5
    rw [h194] at g5
    have e4 : cells' = 194 := g4
    have e5 : slots' = 9518 := g5
    refine va_forget (fun q hq => g.2.1.2.2 q hq) ?_
    exact W.widen (k := 600000) (n := 7302250) (by omega) (by omega) (lw_ret hx hb hr hlocks dL_law_364)
  · match i, hi with
    | 0, hi =>
      cases hi
      have := hl.2.2 (0, .ref b) List.mem_cons_self
      rw [this]
      show some (Slot.val (Value.ref b)) = some (Slot.val (va_rf (ro 0)))
      rw [ro0]
      rfl
    | 1, hi => cases hi; exact absurd rfl hv
    | 2, hi => cases hi; exact absurd rfl hv
    | 3, hi => cases hi; exact absurd rfl hv
    | 4, hi => cases hi; exact absurd rfl hv
    | 5, hi => cases hi; exact absurd rfl hv
    | 6, hi => cases hi; exact absurd rfl hv
    | 7, hi => cases hi; exact absurd rfl hv
    | 8, hi => cases hi; exact absurd rfl hv
    | 9, hi => cases hi; exact absurd rfl hv
    | i + 10, hi => cases hi

