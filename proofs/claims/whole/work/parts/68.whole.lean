/-! THE CLAIM OUT OF ONE WALK OF THE LAW'S BODY. Your part is whole_start (and what it stands on); all else here is the same for every law, but numbers. -/
def R_law : String := "FlexRowsLaw"
def lw_P (b : Addr) (xs : List Int32) (args : Array Value) (s : State) : Prop := args = #[.ref b] ∧ s.IntsAt b xs ∧ xs.length ≤ 2048 ∧ (Jvm.Cond.and given_1 narrow_1).before args s = true
def lw_Q (_ : Array Value) (s : State) (o : Outcome) (t : State) : Prop := o = .returned (some (.int 1)) ∧ Framed s o t [] 62 4252
def lw_Z (below : List Frame) (a : Array Value) (s : State) : State → Prop := fun t => ∃ o, t.status = .running ∧ Ended t below o ∧ lw_Q a s o t
/-- the law's own end, with 1 on the stack, nothing written that was there before, its room as the claim has it -/
theorem lw_ret {p : Program} {l : Launch} {e : Env} {s : State} {m : MethodId} {below : List Frame} {meth : Method} {c : Code} {b : Nat} (hx : p.tables.exec = Jvm.exec) (hb : c.code = code) (hr : meth.sig.returnType = ret) (hlocks : meth.locks = false) {pc : Nat} {H : Heap} {ls : Array Slot} (hdg : decode code pc = .ok (.ireturn, 1)) : W p l e room_1 s m #[Value.ref b] below meth c H [] 62 4252 (lw_Z below #[Value.ref b] s) (F0 m pc ls [.int 1]) := by
  intro T hT X
  obtain ⟨fs, hret, hrun, hended, hW, hframe⟩ := X.leave (v := some (.int 1)) (hlocks := hlocks) (fun h => by rw [hr] at h; cases h)
  have hmeth' : T.vm.method? m = some meth := X.method'
  refine ⟨T.setFrames fs, ?_, .returned (some (.int 1)), hrun, hended, rfl, ⟨_, rfl⟩, hW, hframe⟩
  jvm_step X.here [X.here.top, hx, hb, hdg, hmeth', hr, ret, narrow_b1]
  (try refine ⟨rfl, ?_⟩); (try refine ⟨rfl, ?_⟩)
  first | (intro acts; rw [hret _ acts rfl rfl rfl]) | rw [hret _ _ rfl rfl rfl]
  exact Steps.refl _
/-- what holds at the law's entry: the machine, the code, the tables' words (any of lw_tbl by 'hts w (by decide +kernel)'), the script of L ints xs at the cell b, what the Statement gives of the start (any of its parts by flat_of_before) -/
def lw_At (p : Program) (s : State) (m : MethodId) (meth : Method) (c : Code) (b L : Nat) (xs : Nat → Int32) : Prop :=
  p.tables.exec = Jvm.exec ∧ c.code = code ∧ meth.sig.returnType = ret ∧ c.maxLocals = 4 ∧ s.vm.findClass R_law = some m.cls ∧ (∀ w ∈ lw_tbl, w.before #[Value.ref b] s = true) ∧ va_X b L xs s s.heap ∧ b < s.heap.size ∧ meth.locks = false ∧ (Jvm.Cond.and given_1 narrow_1).before #[Value.ref b] s = true
/-! the law, whole -/
def S0 : sT := ((0, xP cI4, cI4 5), [], (0, cI4 2))
theorem S0_X : rX cI4 S0 := ⟨Nat.zero_le _, (show cI4 4 0 = nI 0 by decide +kernel), rfl, rfl, ⟨Nat.zero_le _, (show cI4 7 0 = nI 0 by decide +kernel), 0, by decide, (show cI4 7 1 = nI 0 by decide +kernel), fun u s hu => by cases hu⟩, ⟨(show cI4 1 2 = nI 0 by decide +kernel), Nat.zero_le _, rfl⟩, Or.inl (show cI4 0 7 = nI 0 by decide +kernel)⟩
theorem S0_M : rM cI4 S0 := ⟨Nat.zero_le _, ⟨(show cI4 42 176 = nI 0 by decide +kernel), fun i w hi => absurd hi (Nat.not_lt_zero _), (show ∀ k, k < 7 → cI4 42 (177 + k) = cI4 5 k by decide +kernel)⟩, ⟨Nat.zero_le _, (show cI4 41 2 = nI 0 by decide +kernel), fun u s hu => by cases hu⟩, (show cI4 41 4 = nI 0 by decide +kernel), Nat.zero_le _, fun k hk => absurd hk (Nat.not_lt_zero _)⟩
theorem S0_V : vT S0 := ⟨⟨Nat.zero_le _, fun i w hi => absurd hi (Nat.not_lt_zero _), (show ∀ w, w < 7 → lob w ≤ (cI4 5 w).toInt ∧ (cI4 5 w).toInt ≤ hib w by decide +kernel)⟩, fun u s hu => by cases hu⟩
theorem law_all {E : gE} (hL : E.2.2.2.2.1 ≤ 2048) : Wp E fL_law 62 0 [.ref 1000, .null, .null, .null] [] (0, cI0, gRL [], 0) (fun pc _ st σ => pc = 575 ∧ st = [.int (nI 1)] ∧ σ.1 = 62) := by
  refine law_ctor ?_
  refine Wp.eq (σ1 := gM cI4 0) rfl rfl rfl ?_ (law_loop hL 4096 0 cI4 0 S0 rfl S0_X S0_M S0_V)
  show (62, cI4, gRL cRL, (0 : Int64)) = (62, cI4, gR0, 0)
  rw [cR_eq]
/-- YOUR PART: from the entry, for every script of at most 2048 ints, the law comes to its end with true -/
theorem whole_start {p : Program} {e : Env} {s : State} {m : MethodId} {below : List Frame} {meth : Method} {c : Code} (l : Launch) (hflags : l.flags = flags0) {b L : Nat} {xs : Nat → Int32} (hL : L ≤ 2048) (C0 : lw_At p s m meth c b L xs) : W p l e room_1 s m #[Value.ref b] below meth c s.heap [] 0 0 (lw_Z below #[Value.ref b] s) (entryFrame m ([Value.ref b] : List Value).toArray 4) := by
  obtain ⟨hx, hb, hr, hml, hown, hts, hX, hbl, hlocks, hgv⟩ := id C0
  obtain ⟨G, cid, hK⟩ := start_K (args := #[Value.ref b]) (fun w hw => hts w (gB_tbl hw))
  obtain ⟨ro, ro0, hRO⟩ := start_RO hX hbl hts hgv
  have hl := lv_entry ([.ref b]) (n := 4) (Nat.le_of_ble_eq_true rfl)
  rw [lg_entry_eq]
  generalize (lg_sl ([.ref b]) ++ List.replicate (4 - (lg_sl ([.ref b])).length) Slot.unset).toArray = ls at hl ⊢
  have hl : lv_has ls 4 [(0, .ref b)] := hl
  have h62 : gsl 62 = 4252 := by decide +kernel
  refine law_all (E := (s.heap.size, G, cid, ro, L, xs)) hL p l e room_1 s m #[Value.ref b] below meth c _ ⟨hx, hb, hml, hown, fun w hw => hts w (gB_tbl hw), hK, hRO G cid, Nat.le_refl _, by decide +kernel, by decide +kernel, fun q => absurd q (by decide +kernel)⟩ 0 (by decide +kernel) (by rw [h62]; decide +kernel) ?_ s.heap [] 0 0 ls ⟨⟨rfl, fun i hi => absurd hi (Nat.not_lt_zero _)⟩, va_S.rf, ⟨hl.1, hl.2.1, fun i v hi hv => ?_⟩, rfl, rfl, Nat.zero_le _⟩
  · rintro pc' L' st' σ' H' locs' cells' slots' ls' ⟨rfl, rfl, hn⟩ g
    have g4 := g.2.2.2.1
    have g5 := g.2.2.2.2.1
    rw [hn] at g4 g5
    rw [h62] at g5
    have e4 : cells' = 62 := g4
    have e5 : slots' = 4252 := g5
    subst e4
    subst e5
    refine va_forget (fun q hq => g.2.1.2.2 q hq) ?_
    exact lw_ret hx hb hr hlocks dL_law_575
  · match i, hi with
    | 0, hi =>
      cases hi
      have := hl.2.2 (0, .ref b) List.mem_cons_self
      rw [this]
      show some (Slot.val (Value.ref b)) = some (Slot.val (va_rf (ro 0)))
      rw [ro0]
      rfl
    | 1, hi => cases hi; exact absurd rfl hv
    | 2, hi => cases hi; exact absurd rfl hv
    | 3, hi => cases hi; exact absurd rfl hv
    | i + 4, hi => cases hi

