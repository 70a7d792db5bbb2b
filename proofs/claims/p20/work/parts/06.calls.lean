/-! methods: what a call does, by contract; the ways in and out -/
def gWs (F : gF) : List Cond := Cond.code F.1 F.2.1 F.2.2.1 F.2.2.2.1 :: gB
def gPc (E : gE) (as : List Value) (σ : gS) : Array Value → State → Prop := fun v U => v = (gcs E as).toArray ∧ gInv E σ U.heap ∧ va_K E.2.1 vwCl (gTys E) U ∧ gRO E (gA E) U U.heap ∧ E.1 ≤ U.heap.size
def gQc (E : gE) (nE : Nat) (Q : Option Value → gS → Prop) : Array Value → State → Outcome → State → Prop := fun _ st oc t => ∃ (r : Option Value) (σ' : gS), Q r σ' ∧ σ'.1 = nE ∧ oc = .returned (r.map (gcv E)) ∧ gInv E σ' t.heap ∧ va_F (gA E) st t
def gEv (E : gE) (F : gF) (nE : Nat) (as : List Value) (σ : gS) (Q : Option Value → gS → Prop) : Prop :=
  σ.1 ≤ nE ∧ ∀ l : Launch, Met l F.1 (gWs F) { frames := F.2.2.2.2.1, cells := nE - σ.1, slots := gsl nE - gsl σ.1, locals := F.2.2.2.2.2 } (gPc E as σ) (gQc E nE Q) (nE - σ.1) (gsl nE - gsl σ.1) (gA E)
theorem gEv.mono {E : gE} {F : gF} {nE : Nat} {as : List Value} {σ : gS} {Q Q2 : Option Value → gS → Prop} (h : gEv E F nE as σ Q) (k : ∀ r σ', Q r σ' → Q2 r σ') : gEv E F nE as σ Q2 := by
  refine ⟨h.1, fun l p e ha hc hk s m args below hf happ h1 h2 => ?_⟩
  obtain ⟨kk, o, a1, a2, a3, ⟨r, σ', q1, q2⟩, a4⟩ := h.2 l p e ha hc hk s m args below hf happ h1 h2
  exact ⟨kk, o, a1, a2, a3, ⟨r, σ', k _ _ q1, q2⟩, a4⟩
/-- the locals at a method's entry -/
def gEnt : List Value → List Value
  | [] => []
  | v :: t => if v.category = 2 then v :: .null :: gEnt t else v :: gEnt t
theorem gEnt_len (E : gE) (as : List Value) : (lg_sl (gcs E as)).length = (gEnt as).length := by
  induction as with
  | nil => rfl
  | cons v t ih =>
    show (lg_sl (gcv E v :: gcs E t)).length = _
    unfold gEnt
    have h1 : lg_sl (gcv E v :: gcs E t) = (if (gcv E v).category = 2 then [Slot.val (gcv E v), .second] else [.val (gcv E v)]) ++ lg_sl (gcs E t) := rfl
    rw [h1, gcv_cat, List.length_append, ih]
    split <;> simp <;> omega
theorem gEnt_args (E : gE) (as : List Value) : ∀ (i0 i : Nat) (v : Value), (gEnt as)[i]? = some v → v ≠ .null → (i0 + i, gcv E v) ∈ lv_args i0 (gcs E as) := by
  induction as with
  | nil => intro i0 i v h; simp [gEnt] at h
  | cons a t ih =>
    intro i0 i v h hv
    show _ ∈ (i0, gcv E a) :: lv_args (if (gcv E a).category = 2 then i0 + 2 else i0 + 1) (gcs E t)
    rw [gcv_cat]
    unfold gEnt at h
    by_cases hc : a.category = 2
    · rw [if_pos hc] at h ⊢
      match i, h with
      | 0, h => cases h; exact List.mem_cons_self
      | 1, h => cases h; exact absurd rfl hv
      | i + 2, h =>
        have := ih (i0 + 2) i v h hv
        rw [show i0 + 2 + i = i0 + (i + 2) by omega] at this
        exact List.mem_cons_of_mem _ this
    · rw [if_neg hc] at h ⊢
      match i, h with
      | 0, h => cases h; exact List.mem_cons_self
      | i + 1, h =>
        have := ih (i0 + 1) i v h hv
        rw [show i0 + 1 + i = i0 + (i + 1) by omega] at this
        exact List.mem_cons_of_mem _ this
/-- what stands at a return -/
def gRet (F : gF) (nE : Nat) (Q : Option Value → gS → Prop) : gK := fun pc _ st σ => σ.1 = nE ∧
  ((decode F.2.1 pc = .ok (.ireturn, 1) ∧ ∃ (v : Int32) (ty : FieldType), st = [.int v] ∧ F.2.2.2.1 = some ty ∧ narrow ty (.int v) = .int v ∧ Q (some (.int v)) σ) ∨
   (decode F.2.1 pc = .ok (.return_, 1) ∧ st = [] ∧ F.2.2.2.1 = none ∧ Q none σ) ∨
   (decode F.2.1 pc = .ok (.lreturn, 1) ∧ ∃ v : Int64, st = [.long v] ∧ F.2.2.2.1 = some .long ∧ Q (some (.long v)) σ) ∨
   (decode F.2.1 pc = .ok (.areturn, 1) ∧ ∃ (r : Nat) (nm : String), st = [.ref r] ∧ F.2.2.2.1 = some (.object nm) ∧ Q (some (.ref r)) σ))
theorem gEv.of {E : gE} {F : gF} {nE : Nat} {as : List Value} {σ : gS} {Q : Option Value → gS → Prop} (hy : plainName F.1.cls = true) (hle : σ.1 ≤ nE) (hlen : (gEnt as).length ≤ F.2.2.1) {L : List Value} (hL : gEnt as ++ List.replicate (F.2.2.1 - (gEnt as).length) .null = L) (h : Wp E F nE 0 L [] σ (gRet F nE Q)) : gEv E F nE as σ Q := by
  refine ⟨hle, fun l => ?_⟩
  refine Met.ofW (cc := F.2.1) (maxL := F.2.2.1) (ret := F.2.2.2.1) hy rfl ?_
  intro p e s m args below meth c s₁ B hml hv
  obtain ⟨rfl, hI, hK, hRO, hb⟩ := hv
  have hts : ∀ w ∈ gB, w.before (gcs E as).toArray s = true := fun w hw => atoms_spec (ws := gWs F) B.pre w (List.mem_cons_of_mem _ hw)
  have hown : s.vm.findClass F.1.cls = some m.cls := findClass_of_methodNamed B.named
  have hnm : meth.name = F.1.name := (name_of_methodNamed B.named B.method).1
  have hlocks := B.notSynchronized
  have hl := lv_entry (gcs E as) (n := F.2.2.1) (by rw [gEnt_len]; exact hlen)
  rw [lg_entry_eq]
  generalize (lg_sl (gcs E as) ++ List.replicate (F.2.2.1 - (lg_sl (gcs E as)).length) Slot.unset).toArray = ls at hl ⊢
  have hLs : gLs E ls F.2.2.1 L := by
    refine ⟨hl.1, hl.2.1, fun i v hi hv => ?_⟩
    subst hL
    by_cases hlt : i < (gEnt as).length
    · rw [List.getElem?_append_left hlt] at hi
      have := gEnt_args E as 0 i v hi hv
      rw [Nat.zero_add] at this
      exact hl.2.2 _ this
    · rw [List.getElem?_append_right (by omega), List.getElem?_replicate] at hi
      split at hi
      · cases hi; exact absurd rfl hv
      · cases hi
  have hm := gsl_mono hle
  refine h p l e _ s m _ below meth c _ ⟨B.exec, B.bytes, hml, hown, hts, hK, hRO, hb, Nat.le_refl _, Nat.le_refl _, fun q => hnm.trans q⟩ σ.1 (by show nE ≤ nE - σ.1 + σ.1; omega) (by show gsl nE ≤ gsl nE - gsl σ.1 + gsl σ.1; omega) ?_ s.heap [] 0 0 ls ⟨hI, va_S.rf, hLs, by omega, by omega, hle⟩
  intro pc' L' st' σ' H' locs' cells' slots' ls' hk g
  obtain ⟨hn, hk⟩ := hk
  have g4 := g.2.2.2.1
  have g5 := g.2.2.2.2.1
  rw [hn] at g4 g5
  refine W.widen (k := nE - σ.1) (n := gsl nE - gsl σ.1) (by omega) (by omega) ?_
  rcases hk with ⟨hd, v, ty, rfl, hr, hnar, hq⟩ | ⟨hd, rfl, hr, hq⟩ | ⟨hd, v, rfl, hr, hq⟩ | ⟨hd, r, nm, rfl, hr, hq⟩
  · exact W.zret (ty := ty) B.exec B.bytes (B.returns.trans hr) hnar (fun t ht hW => ⟨some (.int v), σ', hq, hn, rfl, by rw [ht]; exact g.1, g.2.1.F ht⟩) g.2.1.2.2 hd
  · exact W.vret B.exec B.bytes (B.returns.trans hr) (fun t ht hW => ⟨none, σ', hq, hn, rfl, by rw [ht]; exact g.1, g.2.1.F ht⟩) g.2.1.2.2 hd
  · exact W.lret B.exec B.bytes (B.returns.trans hr) (fun t ht hW => ⟨some (.long v), σ', hq, hn, rfl, by rw [ht]; exact g.1, g.2.1.F ht⟩) g.2.1.2.2 hd
  · refine W.aret (v := gcv E (.ref r)) B.exec B.bytes (B.returns.trans hr) (Or.inl ⟨nm, rfl⟩) ?_ (fun t ht hW => ⟨some (.ref r), σ', hq, hn, rfl, by rw [ht]; exact g.1, g.2.1.F ht⟩) g.2.1.2.2 hd
    show (if r < 1000 then Value.ref (E.1 + r) else va_rf (E.2.2.2.1 (r - 1000))) = .null ∨ ∃ a, (if r < 1000 then Value.ref (E.1 + r) else va_rf (E.2.2.2.1 (r - 1000))) = .ref a
    split
    · exact Or.inr ⟨_, rfl⟩
    · cases E.2.2.2.1 (r - 1000)
      · exact Or.inl rfl
      · exact Or.inr ⟨_, rfl⟩
theorem gPc_blind (E : gE) (as : List Value) (σ : gS) : FrameBlind (gPc E as σ) := by
  intro a U g mk ⟨h1, h2, h3, h4, h5⟩
  exact ⟨h1, h2, va_K.moved (u := U) (U := U.calling g mk a) (Vm.Alike.refl U.vm) h3, gRO.to (s := U) (U := U.calling g mk a) (fun _ _ _ _ h => vk_R.same (u := U) rfl h) (fun w hw h => by
    have : w.onTables = true := by
      have key : ∀ w ∈ gNst, w.onTables = true := by decide +kernel
      exact key w hw
    exact va_Nw.same (u := U) this rfl h) (Vm.Alike.refl U.vm) (fun _ _ _ => rfl) h4, h5⟩
/-- a method that may be called: its code among the words, its class begun, its parameters counted -/
def gMi (F : gF) (n : Nat) : Prop := Cond.code F.1 F.2.1 F.2.2.1 F.2.2.2.1 ∈ gB ∧ Cond.initialized F.1.cls ∈ gB ∧ F.1.cls ≠ "java/lang/invoke/MethodHandle" ∧ F.1.cls ≠ "java/lang/invoke/VarHandle" ∧ (parseMethodDescriptor F.1.desc).map (fun d => d.parameters.length) = some n
theorem gGood {F : gF} (h : Cond.code F.1 F.2.1 F.2.2.1 F.2.2.2.1 ∈ gB) : GoodIn gB (gWs F) := by
  intro w hw
  rcases List.mem_cons.mp hw with rfl | hw
  · exact ⟨h, good_of_word (gB_good h)⟩
  · exact ⟨hw, good_of_word (gB_good hw)⟩
theorem gGoodC {F : gF} {ws : List Cond} (h : Cond.code F.1 F.2.1 F.2.2.1 F.2.2.2.1 ∈ gB) (hs : ∀ w ∈ ws, w ∈ gB) : GoodIn gB (ws ++ gWs F) := by
  intro w hw
  rcases List.mem_append.mp hw with hw | hw
  · exact ⟨hs w hw, good_of_word (gB_good (hs w hw))⟩
  · exact gGood h w hw
section GCALL
variable {E : gE} {F : gF} {nE pc : Nat} {L st : List Value} {σ : gS} {K : gK}
theorem gPre {p : Program} {R : Room} {s : State} {m : MethodId} {args : Array Value} {meth : Method} {c : Code} {n0 : Nat} {H : Heap} {locs : List Loc} {cells slots : Nat} {ls : Array Slot} (C : gC E F p R s m args meth c) (g : gR E F nE n0 s L σ H locs cells slots ls) (as : List Value) : ∀ U : State, U.heap = H → s.WarmedH U.vm → gPc E as σ (gcs E as).toArray U := by
  intro U hU hW
  refine ⟨rfl, by rw [hU]; exact g.1, va_K.moved hW.alike C.2.2.2.2.2.1, ?_, by rw [hU]; exact Nat.le_trans C.2.2.2.2.2.2.2.1 g.2.1.1⟩
  rw [hU]
  refine gRO.to (fun _ _ _ _ h => vk_R.warm hW h) (fun w hw h => ?_) hW.alike g.2.1.2.1 C.2.2.2.2.2.2.1
  simp only [gNst, List.mem_cons, List.not_mem_nil, or_false] at hw
  rcases hw with rfl | rfl | rfl | rfl | rfl | rfl
  · exact va_Nw.warmM hW h
  · exact va_Nw.warmF hW h
  · exact va_Nw.warmM hW h
  · exact va_Nw.warmF hW h
  · exact va_Nw.warmF hW h
  · exact va_Nw.warmF hW h
/-- behind any call -/
theorem gBack {nc : Nat} {Q : Option Value → gS → Prop} {p : Program} {l : Launch} {e : Env} {R : Room} {s : State} {m : MethodId} {args : Array Value} {below : List Frame} {meth : Method} {c : Code} {Q0 : State → Prop} {n0 : Nat} {H : Heap} {locs : List Loc} {cells slots : Nat} {ls : Array Slot} {a : Array Value} {S : List Value}
    (C : gC E F p R s m args meth c) (r1 : nE ≤ R.cells + n0) (r2 : gsl nE ≤ R.slots + gsl n0) (k2 : ∀ (pc' : Nat) (L' st' : List Value) (σ' : gS) (H' : Heap) (locs' : List Loc) (cells' slots' : Nat) (ls' : Array Slot), K pc' L' st' σ' → gR E F nE n0 s L' σ' H' locs' cells' slots' ls' → W p l e R s m args below meth c H' locs' cells' slots' Q0 (F0 m pc' ls' (gcs E st')))
    (g : gR E F nE n0 s L σ H locs cells slots ls) (hle : σ.1 ≤ nc) (hnc : nc ≤ nE) (hr : va_Run p l e R s m args below meth c H locs cells slots (nc - σ.1) (gsl nc - gsl σ.1) (F0 m pc ls S) (gcs E st) (gQc E nc Q a) (gA E))
    (kk : ∀ r σ', Q r σ' → σ'.1 = nc → Wp E F nE (pc + 3) L (r.toList ++ st) σ' K) : W p l e R s m args below meth c H locs cells slots Q0 (F0 m pc ls S) := by
  intro T hT X
  obtain ⟨v, st₀, t, T', Lc, h0, X', hL, e1, e2, ⟨r, σ', hq, hn, hv, hI, hz, hk⟩, go⟩ := hr T hT X
  have hv2 : v = r.map (gcv E) := by cases hv; rfl
  subst hv2
  rw [h0] at hz hk
  have h4 := g.2.2.2.1
  have h5 := g.2.2.2.2.1
  have hm := gsl_mono hle
  have := kk r σ' hq hn p l e R s m args below meth c Q0 C n0 r1 r2 k2 t.heap (locs ++ Lc) (cells + (nc - σ.1)) (slots + (gsl nc - gsl σ.1)) ls
    ⟨hI, ⟨Nat.le_trans g.2.1.1 hz, fun q h1 h2 => by rw [hk q (Nat.lt_of_lt_of_le h1 g.2.1.1) h2]; exact g.2.1.2.1 q h1 h2, fun q hq => by
      rcases List.mem_append.mp hq with h | h
      · exact g.2.1.2.2 q h
      · exact hL q h⟩, g.2.2.1, by omega, by rw [hn]; omega, by omega⟩
  obtain ⟨t2, a1, b1⟩ := this T' e1 X'
  refine ⟨t2, go t2 ?_, b1⟩
  have : (r.map (gcv E)).toList ++ gcs E st = gcs E (r.toList ++ st) := by cases r <;> rfl
  rw [this]
  exact a1
/-- invokestatic -/
theorem g_callS {Fc : gF} {n nc index t : Nat} {as S : List Value} {Q : Option Value → gS → Prop} (hm : gMi Fc n) (hw1 : Cond.methodLink F.1.cls index Fc.1 ∈ gB) (hw2 : Cond.static Fc.1 ∈ gB) (he : gEv E Fc nc as σ Q) (hn : as.length = n) (hS : S = as.reverse ++ st) (hnc : nc ≤ nE) (hfr : Fc.2.2.2.2.1 + 1 ≤ F.2.2.2.2.1) (hlo : 8 + (Fc.2.2.1 + 11) + Fc.2.2.2.2.2 ≤ F.2.2.2.2.2) (hst : (st.map fun v => v.category).sum ≤ 8) (d : decode F.2.1 pc = .ok (.invokestatic index, 3)) (e : pc + 3 = t) (kk : ∀ r σ', Q r σ' → σ'.1 = nc → Wp E F nE t L (r.toList ++ st) σ' K) : Wp E F nE pc L S σ K := by
  subst e
  subst hS
  intro p l e R s m args below meth c Q0 C n0 r1 r2 k2 H locs cells slots ls g
  obtain ⟨m1, m2, m3, m4, m5⟩ := hm
  have h4 := g.2.2.2.1
  have h5 := g.2.2.2.2.1
  have hmo := gsl_mono he.1
  have hmo2 := gsl_mono hnc
  have hx := he.1
  refine gBack C r1 r2 k2 g he.1 hnc (va_runS (Ts := gB) (As := gcs E as) (rest := gcs E st) ⟨C.1, C.2.1, C.2.2.1, C.2.2.2.1, C.2.2.2.2.1⟩ (he.2 l) (va_cwS n C.2.2.2.2.1 (gGoodC m1 ?_) rfl rfl rfl ⟨m3, m4, m5⟩ ⟨?_, ?_⟩) ⟨gPc_blind E as σ, gPre C g as⟩ rfl (by rw [List.length_map]; exact hn) g.2.2.1.1 ?_ (lv_room (by rw [gcs_cat]; exact hst)) d ⟨by omega, by omega⟩) kk
  · intro w hw
    simp only [List.mem_cons, List.not_mem_nil, or_false] at hw
    rcases hw with rfl | rfl | rfl
    · exact hw1
    · exact hw2
    · exact m2
  · exact Nat.le_trans hfr C.2.2.2.2.2.2.2.2.1
  · exact Nat.le_trans hlo C.2.2.2.2.2.2.2.2.2.1
  · show gcs E (as.reverse ++ st) = _
    simp [gcs, List.map_append, List.map_reverse]
theorem gRecv {o ci : Nat} {Cn : String} {T : u_T} {N : Nat} {p : Program} {R : Room} {s : State} {m : MethodId} {args : Array Value} {meth : Method} {c : Code} {n0 : Nat} {H : Heap} {locs : List Loc} {cells slots : Nat} {ls : Array Slot} (C : gC E F p R s m args meth c) (g : gR E F nE n0 s L σ H locs cells slots ls) (ho : o + σ.2.2.2.1 < σ.1) (hsh : gsh σ.2.2.2 o = .inl ci) (hcl : vwCl[ci]? = some (Cn, T, N)) : ∃ cell : Cell, H[E.1 + o]? = some cell ∧ cell.vm.isStatics = false ∧ s.vm.findClass Cn = some cell.cls :=
  va_recv C.2.2.2.2.2.1 (g.1.obj ho hsh) (ci := ci) (q0 := 0) hcl rfl
/-- invokevirtual of a method of the receiver's own class -/
theorem g_callV {Fc : gF} {n nc index t o ci : Nat} {T : u_T} {N : Nat} {as S : List Value} {Q : Option Value → gS → Prop} (hm : gMi Fc n) (hw1 : Cond.methodLink F.1.cls index Fc.1 ∈ gB) (hw2 : Cond.instanceMethod Fc.1 ∈ gB) (hw3 : Cond.selects Fc.1.cls Fc.1 Fc.1 ∈ gB) (ho : o + σ.2.2.2.1 < σ.1) (h9 : o < 1000) (hsh : gsh σ.2.2.2 o = .inl ci) (hcl : vwCl[ci]? = some (Fc.1.cls, T, N)) (he : gEv E Fc nc (.ref o :: as) σ Q) (hn : as.length = n) (hS : S = as.reverse ++ .ref o :: st) (hnc : nc ≤ nE) (hfr : Fc.2.2.2.2.1 + 1 ≤ F.2.2.2.2.1) (hlo : 8 + (Fc.2.2.1 + 11) + Fc.2.2.2.2.2 ≤ F.2.2.2.2.2) (hst : (st.map fun v => v.category).sum ≤ 8) (d : decode F.2.1 pc = .ok (.invokevirtual index, 3)) (e : pc + 3 = t) (kk : ∀ r σ', Q r σ' → σ'.1 = nc → Wp E F nE t L (r.toList ++ st) σ' K) : Wp E F nE pc L S σ K := by
  subst e
  subst hS
  intro p l e R s m args below meth c Q0 C n0 r1 r2 k2 H locs cells slots ls g
  obtain ⟨m1, m2, m3, m4, m5⟩ := hm
  have h4 := g.2.2.2.1
  have h5 := g.2.2.2.2.1
  have hmo := gsl_mono he.1
  have hmo2 := gsl_mono hnc
  have hx := he.1
  have hrv := gRecv C g ho hsh hcl
  refine gBack C r1 r2 k2 g he.1 hnc (va_runV (Ts := gB) (C := Fc.1.cls) (b := E.1 + o) (As := gcs E as) (rest := gcs E st) ⟨C.1, C.2.1, C.2.2.1, C.2.2.2.1, C.2.2.2.2.1⟩ (he.2 l) (cwV n C.2.2.2.2.1 (gGoodC m1 ?_) rfl rfl rfl ⟨rfl, m3, m4, m5⟩ ⟨?_, ?_⟩) ⟨gPc_blind E _ σ, hrv, ?_⟩ rfl (by rw [List.length_map]; exact hn) g.2.2.1.1 ?_ (lv_room (by rw [gcs_cat]; exact hst)) d ⟨by omega, by omega⟩) kk
  · intro w hw
    simp only [List.mem_cons, List.not_mem_nil, or_false] at hw
    rcases hw with rfl | rfl | rfl | rfl
    · exact hw1
    · exact hw2
    · exact hw3
    · exact m2
  · exact Nat.le_trans hfr C.2.2.2.2.2.2.2.2.1
  · exact Nat.le_trans hlo C.2.2.2.2.2.2.2.2.2.1
  · have := gPre C g (.ref o :: as)
    rw [show gcs E (.ref o :: as) = gcv E (.ref o) :: gcs E as from rfl, gcv_ref h9] at this
    exact this
  · show gcs E (as.reverse ++ .ref o :: st) = _
    rw [show gcs E (as.reverse ++ .ref o :: st) = gcs E as.reverse ++ (gcv E (.ref o) :: gcs E st) by simp [gcs, List.map_append], gcv_ref h9]
    simp [gcs, List.map_reverse]
/-- .. of a String constant -/
theorem g_callVS {Fc : gF} {n nc index t r i : Nat} {q : Nat × String × List Int32} {as S : List Value} {Q : Option Value → gS → Prop} (hm : gMi Fc n) (hw1 : Cond.methodLink F.1.cls index Fc.1 ∈ gB) (hw2 : Cond.instanceMethod Fc.1 ∈ gB) (hw3 : Cond.selects Fc.1.cls Fc.1 Fc.1 ∈ gB) (hi : gtx[i]? = some q) (hr : r = 1010 + i) (hcl : Fc.1.cls = "java/lang/String") (he : gEv E Fc nc (.ref r :: as) σ Q) (hn : as.length = n) (hS : S = as.reverse ++ .ref r :: st) (hnc : nc ≤ nE) (hfr : Fc.2.2.2.2.1 + 1 ≤ F.2.2.2.2.1) (hlo : 8 + (Fc.2.2.1 + 11) + Fc.2.2.2.2.2 ≤ F.2.2.2.2.2) (hst : (st.map fun v => v.category).sum ≤ 8) (d : decode F.2.1 pc = .ok (.invokevirtual index, 3)) (e : pc + 3 = t) (kk : ∀ r σ', Q r σ' → σ'.1 = nc → Wp E F nE t L (r.toList ++ st) σ' K) : Wp E F nE pc L S σ K := by
  subst e
  subst hS
  intro p l e R s m args below meth c Q0 C n0 r1 r2 k2 H locs cells slots ls g
  obtain ⟨m1, m2, m3, m4, m5⟩ := hm
  have h4 := g.2.2.2.1
  have h5 := g.2.2.2.2.1
  have hmo := gsl_mono he.1
  have hmo2 := gsl_mono hnc
  have hx := he.1
  obtain ⟨adK, adV, z1, z2⟩ := C.2.2.2.2.2.2.1.2.2.1
  obtain ⟨z3, -, -⟩ := z2 i q hi
  have hlt : i < gtx.length := (List.getElem?_eq_some_iff.mp hi).1
  have hrv : ∃ cell : Cell, H[adK i]? = some cell ∧ cell.vm.isStatics = false ∧ s.vm.findClass Fc.1.cls = some cell.cls := by
    rw [hcl]
    exact vk_recv z1 hlt g.2.1
  have hcv : gcv E (.ref r) = .ref (adK i) := gcv_ro (by omega) (by rw [hr, show 1010 + i - 1000 = 10 + i by omega]; exact z3)
  refine gBack C r1 r2 k2 g he.1 hnc (va_runV (Ts := gB) (C := Fc.1.cls) (b := adK i) (As := gcs E as) (rest := gcs E st) ⟨C.1, C.2.1, C.2.2.1, C.2.2.2.1, C.2.2.2.2.1⟩ (he.2 l) (cwV n C.2.2.2.2.1 (gGoodC m1 ?_) rfl rfl rfl ⟨rfl, m3, m4, m5⟩ ⟨?_, ?_⟩) ⟨gPc_blind E _ σ, hrv, ?_⟩ rfl (by rw [List.length_map]; exact hn) g.2.2.1.1 ?_ (lv_room (by rw [gcs_cat]; exact hst)) d ⟨by omega, by omega⟩) kk
  · intro w hw
    simp only [List.mem_cons, List.not_mem_nil, or_false] at hw
    rcases hw with rfl | rfl | rfl | rfl
    · exact hw1
    · exact hw2
    · exact hw3
    · exact m2
  · exact Nat.le_trans hfr C.2.2.2.2.2.2.2.2.1
  · exact Nat.le_trans hlo C.2.2.2.2.2.2.2.2.2.1
  · have := gPre C g (.ref r :: as)
    rw [show gcs E (.ref r :: as) = gcv E (.ref r) :: gcs E as from rfl, hcv] at this
    exact this
  · show gcs E (as.reverse ++ .ref r :: st) = _
    rw [show gcs E (as.reverse ++ .ref r :: st) = gcs E as.reverse ++ (gcv E (.ref r) :: gcs E st) by simp [gcs, List.map_append], hcv]
    simp [gcs, List.map_reverse]
/-- invokespecial of a constructor -/
theorem g_callI {Fc : gF} {n nc index t o : Nat} {as S : List Value} {Q : Option Value → gS → Prop} (hm : gMi Fc n) (hret : Fc.2.2.2.1 = none) (hw1 : Cond.methodLink F.1.cls index Fc.1 ∈ gB) (hw2 : Cond.instanceMethod Fc.1 ∈ gB) (hnm : Fc.1.name = "<init>") (h9 : o < 1000) (he : gEv E Fc nc (.ref o :: as) σ Q) (hn : as.length = n) (hS : S = as.reverse ++ .ref o :: st) (hnc : nc ≤ nE) (hfr : Fc.2.2.2.2.1 + 1 ≤ F.2.2.2.2.1) (hlo : 8 + (Fc.2.2.1 + 11) + Fc.2.2.2.2.2 ≤ F.2.2.2.2.2) (hst : (st.map fun v => v.category).sum ≤ 8) (d : decode F.2.1 pc = .ok (.invokespecial index, 3)) (e : pc + 3 = t) (kk : ∀ r σ', Q r σ' → σ'.1 = nc → Wp E F nE t L (r.toList ++ st) σ' K) : Wp E F nE pc L S σ K := by
  subst e
  subst hS
  intro p l e R s m args below meth c Q0 C n0 r1 r2 k2 H locs cells slots ls g
  obtain ⟨m1, m2, m3, m4, m5⟩ := hm
  have h4 := g.2.2.2.1
  have h5 := g.2.2.2.2.1
  have hmo := gsl_mono he.1
  have hmo2 := gsl_mono hnc
  have hx := he.1
  refine gBack C r1 r2 k2 g he.1 hnc (va_runI (Ts := gB) (b := E.1 + o) (As := gcs E as) (rest := gcs E st) ⟨C.1, C.2.1, C.2.2.1, C.2.2.2.1, C.2.2.2.2.1⟩ (he.2 l) (cwI n C.2.2.2.2.1 (gGood m1) (by unfold gWs; rw [hret]) rfl rfl (C.2.2.2.2.1 _ m2) (C.2.2.2.2.1 _ hw1) (C.2.2.2.2.1 _ hw2) hnm ⟨m3, m4, m5⟩ ⟨?_, ?_⟩) ⟨gPc_blind E _ σ, ?_⟩ rfl (by rw [List.length_map]; exact hn) g.2.2.1.1 ?_ (lv_room (by rw [gcs_cat]; exact hst)) d ⟨by omega, by omega⟩) kk
  · exact Nat.le_trans hfr C.2.2.2.2.2.2.2.2.1
  · exact Nat.le_trans hlo C.2.2.2.2.2.2.2.2.2.1
  · have := gPre C g (.ref o :: as)
    rw [show gcs E (.ref o :: as) = gcv E (.ref o) :: gcs E as from rfl, gcv_ref h9] at this
    exact this
  · show gcs E (as.reverse ++ .ref o :: st) = _
    rw [show gcs E (as.reverse ++ .ref o :: st) = gcs E as.reverse ++ (gcv E (.ref o) :: gcs E st) by simp [gcs, List.map_append], gcv_ref h9]
    simp [gcs, List.map_reverse]
/-- .. of a nest mate's private one -/
theorem g_callIN {Fc : gF} {n nc index t o : Nat} {as S : List Value} {Q : Option Value → gS → Prop} (hm : gMi Fc n) (hret : Fc.2.2.2.1 = none) (hw1 : Cond.methodLinkNest F.1.cls index Fc.1 "FlexRows" ∈ gNst) (hw2 : Cond.instanceMethod Fc.1 ∈ gB) (hnm : Fc.1.name = "<init>") (h9 : o < 1000) (he : gEv E Fc nc (.ref o :: as) σ Q) (hn : as.length = n) (hS : S = as.reverse ++ .ref o :: st) (hnc : nc ≤ nE) (hfr : Fc.2.2.2.2.1 + 1 ≤ F.2.2.2.2.1) (hlo : 8 + (Fc.2.2.1 + 11) + Fc.2.2.2.2.2 ≤ F.2.2.2.2.2) (hst : (st.map fun v => v.category).sum ≤ 8) (d : decode F.2.1 pc = .ok (.invokespecial index, 3)) (e : pc + 3 = t) (kk : ∀ r σ', Q r σ' → σ'.1 = nc → Wp E F nE t L (r.toList ++ st) σ' K) : Wp E F nE pc L S σ K := by
  subst e
  subst hS
  intro p l e R s m args below meth c Q0 C n0 r1 r2 k2 H locs cells slots ls g
  obtain ⟨m1, m2, m3, m4, m5⟩ := hm
  have h4 := g.2.2.2.1
  have h5 := g.2.2.2.2.1
  have hmo := gsl_mono he.1
  have hmo2 := gsl_mono hnc
  have hx := he.1
  refine gBack C r1 r2 k2 g he.1 hnc (va_runIN (Ts := gB) (b := E.1 + o) (As := gcs E as) (rest := gcs E st) ⟨C.1, C.2.1, C.2.2.1, C.2.2.2.1, C.2.2.2.2.1⟩ (he.2 l) ⟨va_cnB (ret := none) n C.2.2.2.2.1 (gGood m1) (by unfold gWs; rw [hret]) rfl rfl (C.2.2.2.2.2.2.1.2.2.2.1 _ hw1) (C.2.2.2.2.1 _ m2) ⟨m3, m4, m5⟩ ⟨?_, ?_⟩, hnm, C.2.2.2.2.1 _ hw2⟩ ⟨gPc_blind E _ σ, ?_⟩ rfl (by rw [List.length_map]; exact hn) g.2.2.1.1 ?_ (lv_room (by rw [gcs_cat]; exact hst)) d ⟨by omega, by omega⟩) kk
  · exact Nat.le_trans hfr C.2.2.2.2.2.2.2.2.1
  · exact Nat.le_trans hlo C.2.2.2.2.2.2.2.2.2.1
  · have := gPre C g (.ref o :: as)
    rw [show gcs E (.ref o :: as) = gcv E (.ref o) :: gcs E as from rfl, gcv_ref h9] at this
    exact this
  · show gcs E (as.reverse ++ .ref o :: st) = _
    rw [show gcs E (as.reverse ++ .ref o :: st) = gcs E as.reverse ++ (gcv E (.ref o) :: gcs E st) by simp [gcs, List.map_append], gcv_ref h9]
    simp [gcs, List.map_reverse]
/-- Object.<init> -/
theorem g_objInit {index t o : Nat} (h9 : o < 1000) (hw1 : Cond.methodLink F.1.cls index Lib.objectInit ∈ gB) (hw2 : Cond.instanceMethod Lib.objectInit ∈ gB) (hw3 : Cond.code Lib.objectInit ⟨#[0xb1]⟩ 1 none ∈ gB) (hfr : 1 ≤ F.2.2.2.2.1) (hlo : 20 ≤ F.2.2.2.2.2) (hst : (st.map fun v => v.category).sum ≤ 8) (d : decode F.2.1 pc = .ok (.invokespecial index, 3)) (e : pc + 3 = t) (kk : Wp E F nE t L st σ K) : Wp E F nE pc L (.ref o :: st) σ K := by
  subst e
  intro p l e R s m args below meth c Q C n0 r1 r2 k2 H locs cells slots ls g
  rw [show gcs E (.ref o :: st) = gcv E (.ref o) :: gcs E st from rfl, gcv_ref h9]
  refine W.objInit C.1 C.2.1 C.2.2.2.1 (C.2.2.2.2.1 _ hw1) (C.2.2.2.2.1 _ hw2) (C.2.2.2.2.1 _ hw3) rfl (g.2.2.1.1.trans C.2.2.1.symm) rfl d (Nat.le_trans hfr C.2.2.2.2.2.2.2.2.1) ?_ (kk p l e R s m args below meth c Q C n0 r1 r2 k2 H locs cells slots ls g)
  have h1 := C.2.2.2.2.2.2.2.2.2.1
  rw [gcs_cat]
  show 2 * 0 + _ + 12 ≤ _
  omega
theorem g_max {index t : Nat} {x y : Int32} (hw1 : Cond.methodLink F.1.cls index Lib.Math.max.name ∈ gB) (hw2 : Cond.static Lib.Math.max.name ∈ gB) (hw3 : Cond.initialized "java/lang/Math" ∈ gB) (hw4 : Cond.code Lib.Math.max.name Lib.Math.max.code 2 (some .int) ∈ gB) (hfr : 1 ≤ F.2.2.2.2.1) (hlo : 21 ≤ F.2.2.2.2.2) (hst : (st.map fun v => v.category).sum ≤ 8) (d : decode F.2.1 pc = .ok (.invokestatic index, 3)) (e : pc + 3 = t) (kk : Wp E F nE t L (.int (if x < y then y else x) :: st) σ K) : Wp E F nE pc L (.int y :: .int x :: st) σ K := by
  subst e
  intro p l e R s m args below meth c Q C n0 r1 r2 k2 H locs cells slots ls g
  have h1 := C.2.2.2.2.2.2.2.2.2.1
  have h4 := g.2.2.2.1
  have h5 := g.2.2.2.2.1
  have h6 := g.2.2.2.2.2
  have h7 := gsl_mono h6
  refine va_mmax C.1 C.2.1 (C.2.2.1.trans g.2.2.1.1.symm) C.2.2.2.1 (C.2.2.2.2.1 _ hw1) (C.2.2.2.2.1 _ hw2) (C.2.2.2.2.1 _ hw3) (C.2.2.2.2.1 _ hw4) (Nat.le_trans hfr C.2.2.2.2.2.2.2.2.1) ?_ (by omega) (by omega) d (kk p l e R s m args below meth c Q C n0 r1 r2 k2 H locs cells slots ls g)
  show ((gcs E st).map fun v => v.category).sum + 13 ≤ _
  rw [gcs_cat]
  omega
theorem g_min {index t : Nat} {x y : Int32} (hw1 : Cond.methodLink F.1.cls index Lib.Math.min.name ∈ gB) (hw2 : Cond.static Lib.Math.min.name ∈ gB) (hw3 : Cond.initialized "java/lang/Math" ∈ gB) (hw4 : Cond.code Lib.Math.min.name Lib.Math.min.code 2 (some .int) ∈ gB) (hfr : 1 ≤ F.2.2.2.2.1) (hlo : 21 ≤ F.2.2.2.2.2) (hst : (st.map fun v => v.category).sum ≤ 8) (d : decode F.2.1 pc = .ok (.invokestatic index, 3)) (e : pc + 3 = t) (kk : Wp E F nE t L (.int (if y < x then y else x) :: st) σ K) : Wp E F nE pc L (.int y :: .int x :: st) σ K := by
  subst e
  intro p l e R s m args below meth c Q C n0 r1 r2 k2 H locs cells slots ls g
  have h1 := C.2.2.2.2.2.2.2.2.2.1
  have h4 := g.2.2.2.1
  have h5 := g.2.2.2.2.1
  have h6 := g.2.2.2.2.2
  have h7 := gsl_mono h6
  refine va_mmin C.1 C.2.1 (C.2.2.1.trans g.2.2.1.1.symm) C.2.2.2.1 (C.2.2.2.2.1 _ hw1) (C.2.2.2.2.1 _ hw2) (C.2.2.2.2.1 _ hw3) (C.2.2.2.2.1 _ hw4) (Nat.le_trans hfr C.2.2.2.2.2.2.2.2.1) ?_ (by omega) (by omega) d (kk p l e R s m args below meth c Q C n0 r1 r2 k2 H locs cells slots ls g)
  show ((gcs E st).map fun v => v.category).sum + 13 ≤ _
  rw [gcs_cat]
  omega
/-- System.arraycopy of ints into a cell of the world -/
def gcopy (σ : gS) (b : Nat) (f : Nat → Int32) (sp dp n : Nat) : gS := (σ.1, (fun o => if o = b then va_cpy f (σ.2.1 b) sp dp n else σ.2.1 o), σ.2.2.1, σ.2.2.2)
theorem gcopyCore {index b n0 n1 : Nat} {v0 : Value} {a0 : Nat} {cs : Cell} {f : Nat → Int32} {sp dp n : Int32} {p : Program} {l : Launch} {e : Env} {R : Room} {s : State} {m : MethodId} {args : Array Value} {below : List Frame} {meth : Method} {c : Code} {Q : State → Prop} {n9 : Nat} {H : Heap} {locs : List Loc} {cells slots : Nat} {ls : Array Slot}
    (C : gC E F p R s m args meth c) (g : gR E F nE n9 s L σ H locs cells slots ls) (hw1 : Cond.methodLink F.1.cls index arraycopyName ∈ gB) (hw2 : Cond.native arraycopyName ∈ gB) (hw3 : Cond.static arraycopyName ∈ gB) (hw4 : Cond.initialized "java/lang/System" ∈ gB) (hv0 : gcv E v0 = .ref a0) (hc0 : H[a0]? = some cs) (hof : s.isArrayOf cs .int) (hkn : cs.vm ≠ .unknown) (hsz : n0 ≤ cs.slots.size) (hval : ∀ j, j < n0 → cs.slots[j]? = some (.int (f j))) (hb : b + σ.2.2.2.1 < σ.1) (h9 : b < 1000) (hsh : gsh σ.2.2.2 b = .inr (0, n1)) (h1 : ¬ sp < 0) (h2 : ¬ dp < 0) (h3 : ¬ n < 0) (h4 : sp.toNatClampNeg + n.toNatClampNeg ≤ n0) (h5 : dp.toNatClampNeg + n.toNatClampNeg ≤ n1) (hfr : 1 ≤ F.2.2.2.2.1) (hlo : 8 + (nativeFrameWords "java/lang/System" "arraycopy" 5 + 11) ≤ F.2.2.2.2.2) (hst : (st.map fun v => v.category).sum ≤ 8) (d : decode F.2.1 pc = .ok (.invokestatic index, 3))
    (kk : ∀ (H1 : Heap) (locs1 : List Loc), gR E F nE n9 s L (gcopy σ b f sp.toNatClampNeg dp.toNatClampNeg n.toNatClampNeg) H1 locs1 cells slots ls → W p l e R s m args below meth c H1 locs1 cells slots Q (F0 m (pc + 3) ls (gcs E st))) : W p l e R s m args below meth c H locs cells slots Q (F0 m pc ls (gcs E (.int n :: .int dp :: .ref b :: .int sp :: v0 :: st))) := by
  have nn : ∀ z : Int32, ¬ z < 0 → z.toInt = (z.toNatClampNeg : Int) := by
    intro z hz
    have hz0 : (0 : Int) ≤ z.toInt := by
      have := Int32.not_lt.mp hz
      simpa using Int32.le_iff_toInt_le.mp this
    show z.toInt = ((z.toInt.toNat : Nat) : Int)
    omega
  rw [show gcs E (.int n :: .int dp :: .ref b :: .int sp :: v0 :: st) = .int n :: .int dp :: gcv E (.ref b) :: .int sp :: gcv E v0 :: gcs E st from rfl, gcv_ref h9, hv0]
  intro T hT X
  have hc1 : H[E.1 + b]? = some (arrV (E.2.2.1 0) n1 (fun j => .int (σ.2.1 b j))) := g.1.arr hb hsh 0 _ rfl
  obtain ⟨hs6, k0, hk0, cm0, hkk0⟩ := hof
  obtain ⟨-, k1, hk1, cm1, hkk1⟩ := (C.2.2.2.2.2.1.2 0 _ rfl).1 n1 (fun j => .int (σ.2.1 b j))
  have hts := C.2.2.2.2.1
  have hlo2 := C.2.2.2.2.2.2.2.2.2.1
  obtain ⟨vm', X', step⟩ := X.arraycopy C.1 C.2.2.2.1 (hts _ hw1) (hts _ hw2) (hts _ hw3) (hts _ hw4) (src := a0) (dst := E.1 + b) (cs := cs) (cd := arrV (E.2.2.1 0) n1 (fun j => .int (σ.2.1 b j))) (srcPos := sp) (destPos := dp) (n := n) (by rw [hT]; exact hc0) (by rw [hT]; exact hc1)
    hs6 (fun _ h => by cases h) hkn (fun h => by cases h) hk0 hk1 hkk0 hkk1 (by simp [refKind]) h1 h2 h3
    (by rw [nn sp h1, nn n h3]; omega)
    (by rw [nn dp h2, nn n h3, arrV_size]; omega)
    (fun vm₁ _ i hi => by
      have e : cs.slots.getD (sp.toNatClampNeg + i) .null = .int (f (sp.toNatClampNeg + i)) := by
        rw [Array.getD_eq_getD_getElem?, hval _ (by omega)]
        rfl
      refine ⟨?_, ?_⟩
      · rw [e]
        rfl
      · rw [e]
        exact trivial)
    (g := F0 m pc ls (.int n :: .int dp :: .ref (E.1 + b) :: .int sp :: .ref a0 :: gcs E st)) rfl (g.2.2.1.1.trans C.2.2.1.symm) (rest := gcs E st) rfl (by rw [C.2.1]; exact d) (Nat.le_trans hfr C.2.2.2.2.2.2.2.2.1) (by rw [gcs_cat]; show 2 * 0 + _ + _ ≤ _; omega)
  have e1 : copied cs (arrV (E.2.2.1 0) n1 (fun j => .int (σ.2.1 b j))) sp dp n = arrV (E.2.2.1 0) n1 (fun j => .int (va_cpy f (σ.2.1 b) sp.toNatClampNeg dp.toNatClampNeg n.toNatClampNeg j)) := va_copiedX (fun z => .int z) cs (E.2.2.1 0) f (σ.2.1 b) hval h4
  rw [e1] at X' step
  have hl : E.1 + b < H.size := (Array.getElem?_eq_some_iff.mp hc1).1
  have hheap : ((T.setVm vm').setCell (E.1 + b) (arrV (E.2.2.1 0) n1 (fun j => .int (va_cpy f (σ.2.1 b) sp.toNatClampNeg dp.toNatClampNeg n.toNatClampNeg j)))).heap = H.setIfInBounds (E.1 + b) (arrV (E.2.2.1 0) n1 (fun j => .int (va_cpy f (σ.2.1 b) sp.toNatClampNeg dp.toNatClampNeg n.toNatClampNeg j))) := by rw [← hT]; rfl
  have oq : ∀ q : Nat, q ≠ E.1 + b → (H.setIfInBounds (E.1 + b) (arrV (E.2.2.1 0) n1 (fun j => .int (va_cpy f (σ.2.1 b) sp.toNatClampNeg dp.toNatClampNeg n.toNatClampNeg j))))[q]? = H[q]? := fun q hq => by simp [Array.getElem?_setIfInBounds, Ne.symm hq]
  obtain ⟨t, a1, b1⟩ := kk _ _ ⟨g.1.set (σ' := gcopy σ b f sp.toNatClampNeg dp.toNatClampNeg n.toNatClampNeg) rfl rfl (by simp) oq (fun i hi => gct_same (by simp [gcopy, hi]) rfl rfl) (by
      rw [show gct E (gcopy σ b f sp.toNatClampNeg dp.toNatClampNeg n.toNatClampNeg) b = .inl (E.2.2.1 0, n1, .inl (va_cpy f (σ.2.1 b) sp.toNatClampNeg dp.toNatClampNeg n.toNatClampNeg)) by simp [gct, hsh, gcopy]]
      show (H.setIfInBounds (E.1 + b) (arrV (E.2.2.1 0) n1 (fun j => .int (va_cpy f (σ.2.1 b) sp.toNatClampNeg dp.toNatClampNeg n.toNatClampNeg j))))[E.1 + b]? = some (arrV (E.2.2.1 0) n1 (fun j => .int (va_cpy f (σ.2.1 b) sp.toNatClampNeg dp.toNatClampNeg n.toNatClampNeg j)))
      simp [Array.getElem?_setIfInBounds, hl]), ⟨by simp; exact g.2.1.1, fun q g1 g2 => by
        rw [oq q (fun e => g2 (by rw [e]; exact Nat.le_add_right _ _))]
        exact g.2.1.2.1 q g1 g2, fun q hq => by
        rcases List.mem_append.mp hq with h | h
        · exact g.2.1.2.2 q h
        · obtain ⟨z, -, hz⟩ := List.mem_map.mp h
          rw [← hz]
          exact Nat.le_add_right _ _⟩, g.2.2⟩ _ hheap X'
  exact ⟨t, step t a1, b1⟩
theorem g_copy {index a b n0 n1 t : Nat} {sp dp n : Int32} (hw1 : Cond.methodLink F.1.cls index arraycopyName ∈ gB) (hw2 : Cond.native arraycopyName ∈ gB) (hw3 : Cond.static arraycopyName ∈ gB) (hw4 : Cond.initialized "java/lang/System" ∈ gB) (ha : a + σ.2.2.2.1 < σ.1) (ha9 : a < 1000) (hsa : gsh σ.2.2.2 a = .inr (0, n0)) (hb : b + σ.2.2.2.1 < σ.1) (h9 : b < 1000) (hsh : gsh σ.2.2.2 b = .inr (0, n1)) (h1 : ¬ sp < 0) (h2 : ¬ dp < 0) (h3 : ¬ n < 0) (h4 : sp.toNatClampNeg + n.toNatClampNeg ≤ n0) (h5 : dp.toNatClampNeg + n.toNatClampNeg ≤ n1) (hfr : 1 ≤ F.2.2.2.2.1) (hlo : 8 + (nativeFrameWords "java/lang/System" "arraycopy" 5 + 11) ≤ F.2.2.2.2.2) (hst : (st.map fun v => v.category).sum ≤ 8) (d : decode F.2.1 pc = .ok (.invokestatic index, 3)) (e : pc + 3 = t)
    (kk : Wp E F nE t L st (gcopy σ b (σ.2.1 a) sp.toNatClampNeg dp.toNatClampNeg n.toNatClampNeg) K) : Wp E F nE pc L (.int n :: .int dp :: .ref b :: .int sp :: .ref a :: st) σ K := by
  subst e
  intro p l e R s m args below meth c Q C n9 r1 r2 k2 H locs cells slots ls g
  exact gcopyCore C g hw1 hw2 hw3 hw4 (gcv_ref ha9) (g.1.arr ha hsa 0 _ rfl) ((C.2.2.2.2.2.1.2 0 _ rfl).1 n0 (fun j => .int (σ.2.1 a j))) (fun h => by cases h) (Nat.le_of_eq (arrV_size _ _ _).symm) (fun j hj => arrV_read _ _ hj) hb h9 hsh h1 h2 h3 h4 h5 hfr hlo hst d (fun H1 locs1 g1 => kk p l e R s m args below meth c Q C n9 r1 r2 k2 H1 locs1 cells slots ls g1)
theorem g_copyT {index j r b n1 t : Nat} {q : String × List Int32} {sp dp n : Int32} (hw1 : Cond.methodLink F.1.cls index arraycopyName ∈ gB) (hw2 : Cond.native arraycopyName ∈ gB) (hw3 : Cond.static arraycopyName ∈ gB) (hw4 : Cond.initialized "java/lang/System" ∈ gB) (hj : gst[j]? = some q) (hr : r = 1001 + j) (hb : b + σ.2.2.2.1 < σ.1) (h9 : b < 1000) (hsh : gsh σ.2.2.2 b = .inr (0, n1)) (h1 : ¬ sp < 0) (h2 : ¬ dp < 0) (h3 : ¬ n < 0) (h4 : sp.toNatClampNeg + n.toNatClampNeg ≤ q.2.length) (h5 : dp.toNatClampNeg + n.toNatClampNeg ≤ n1) (hfr : 1 ≤ F.2.2.2.2.1) (hlo : 8 + (nativeFrameWords "java/lang/System" "arraycopy" 5 + 11) ≤ F.2.2.2.2.2) (hst : (st.map fun v => v.category).sum ≤ 8) (d : decode F.2.1 pc = .ok (.invokestatic index, 3)) (e : pc + 3 = t)
    (kk : Wp E F nE t L st (gcopy σ b (fun k => q.2.getD k 0) sp.toNatClampNeg dp.toNatClampNeg n.toNatClampNeg) K) : Wp E F nE pc L (.int n :: .int dp :: .ref b :: .int sp :: .ref r :: st) σ K := by
  subst e
  subst hr
  intro p l e R s m args below meth c Q C n9 r1 r2 k2 H locs cells slots ls g
  obtain ⟨t, z1, ⟨cell, y1, y2, y3, y4, y5, y6, y7⟩, -⟩ := C.2.2.2.2.2.2.1.2.1 j q hj
  have hc0 : H[t]? = some cell := by rw [g.2.1.2.1 t (Array.getElem?_eq_some_iff.mp y1).1 y7]; exact y1
  exact gcopyCore C g hw1 hw2 hw3 hw4 (gcv_ro gro_i (by rw [gro_j]; exact z1)) hc0 y2 y3 y4 y6 hb h9 hsh h1 h2 h3 h4 h5 hfr hlo hst d (fun H1 locs1 g1 => kk p l e R s m args below meth c Q C n9 r1 r2 k2 H1 locs1 cells slots ls g1)
end GCALL
