/-! rows of the law's own methods -/
section GLAW
variable {E : gE} {F : gF} {nE pc : Nat} {L st : List Value} {I : Nat → Nat → Int32} {h : gX} {K : gK}
abbrev gPL (E : gE) (F : gF) (as : List Value) (I : Nat → Nat → Int32) (h : gX) (v : Int64) : Prop := gEv E F (gn h) as (gM I h) (fun r σ' => r = some (.long v) ∧ σ' = gM I h)
theorem g_cSl {Fc : gF} {n index t : Nat} {as S : List Value} {v : Int64} (hm : gMi Fc n) (hw1 : Cond.methodLink F.1.cls index Fc.1 ∈ gB) (hw2 : Cond.static Fc.1 ∈ gB) (d : decode F.2.1 pc = .ok (.invokestatic index, 3)) (he : gPL E Fc as I h v) (hn : as.length = n) (hS : S = as.reverse ++ st) (hfr : Fc.2.2.2.2.1 + 1 ≤ F.2.2.2.2.1) (hlo : 8 + (Fc.2.2.1 + 11) + Fc.2.2.2.2.2 ≤ F.2.2.2.2.2) (hst : (st.map fun v => v.category).sum ≤ 8) (e : pc + 3 = t) (hE : gn h ≤ nE) (kk : Wp E F nE t L (.long v :: st) (gM I h) K) : Wp E F nE pc L S (gM I h) K :=
  g_callS hm hw1 hw2 he hn hS hE hfr hlo hst d e fun r σ' q _ => by obtain ⟨rfl, rfl⟩ := q; exact kk
theorem g_retL {v v0 : Int64} (d : decode F.2.1 pc = .ok (.lreturn, 1)) (hr : F.2.2.2.1 = some .long) (hq : v = v0) : Wp E F (gn h) pc L [.long v] (gM I h) (gRet F (gn h) (fun r σ' => r = some (.long v0) ∧ σ' = gM I h)) :=
  Wp.here ⟨rfl, Or.inr (Or.inr (Or.inl ⟨d, v, rfl, hr, by rw [hq], rfl⟩))⟩
/-- a method without an answer, of the law's own -/
theorem g_cSv {Fc : gF} {n index t : Nat} {as S : List Value} {P : (Nat → Nat → Int32) → Prop} (hm : gMi Fc n) (hw1 : Cond.methodLink F.1.cls index Fc.1 ∈ gB) (hw2 : Cond.static Fc.1 ∈ gB) (d : decode F.2.1 pc = .ok (.invokestatic index, 3)) (he : gQV E Fc as I h P) (hn : as.length = n) (hS : S = as.reverse ++ st) (hfr : Fc.2.2.2.2.1 + 1 ≤ F.2.2.2.2.1) (hlo : 8 + (Fc.2.2.1 + 11) + Fc.2.2.2.2.2 ≤ F.2.2.2.2.2) (hst : (st.map fun v => v.category).sum ≤ 8) (e : pc + 3 = t) (hE : gn h ≤ nE) (kk : ∀ I' : Nat → Nat → Int32, P I' → Wp E F nE t L st (gM I' h) K) : Wp E F nE pc L S (gM I h) K :=
  g_callS hm hw1 hw2 he hn hS hE hfr hlo hst d e fun r σ' q _ => by obtain ⟨I', rfl, rfl, q⟩ := q; exact kk I' q
/-- a method that makes cells: the heap behind it has so many more, made or counted -/
abbrev gNV (E : gE) (F : gF) (j : Nat) (as : List Value) (I : Nat → Nat → Int32) (h : gX) (P : Option Value → (Nat → Nat → Int32) → gX → Prop) : Prop := gEv E F (gn h + j) as (gM I h) (fun r σ' => ∃ (I' : Nat → Nat → Int32) (h' : gX), σ' = gM I' h' ∧ gn h' = gn h + j ∧ P r I' h')
theorem g_cSn {Fc : gF} {n index t j : Nat} {as S : List Value} {P : Option Value → (Nat → Nat → Int32) → gX → Prop} (hm : gMi Fc n) (hw1 : Cond.methodLink F.1.cls index Fc.1 ∈ gB) (hw2 : Cond.static Fc.1 ∈ gB) (d : decode F.2.1 pc = .ok (.invokestatic index, 3)) (he : gNV E Fc j as I h P) (hn : as.length = n) (hS : S = as.reverse ++ st) (hfr : Fc.2.2.2.2.1 + 1 ≤ F.2.2.2.2.1) (hlo : 8 + (Fc.2.2.1 + 11) + Fc.2.2.2.2.2 ≤ F.2.2.2.2.2) (hst : (st.map fun v => v.category).sum ≤ 8) (e : pc + 3 = t) (hE : gn h + j ≤ nE) (kk : ∀ (r : Option Value) (I' : Nat → Nat → Int32) (h' : gX), gn h' = gn h + j → P r I' h' → Wp E F nE t L (r.toList ++ st) (gM I' h') K) : Wp E F nE pc L S (gM I h) K :=
  g_callS hm hw1 hw2 he hn hS hE hfr hlo hst d e fun r σ' q _ => by obtain ⟨I', h', rfl, q1, q2⟩ := q; exact kk r I' h' q1 q2
theorem gm_newz {o n t : Nat} {x : Int32} (ho : 44 + h.2.length = o) (h9 : o < 1000) (hx : x = nI n) (hn : n ≤ 48) (hE : gn h + 1 ≤ nE) (d : decode F.2.1 pc = .ok (.newarray .int, 2)) (e : pc + 2 = t) (kk : Wp E F nE t L (.ref o :: st) (gM (fun q k => if q = o then 0 else I q k) (h.1, h.2 ++ [n])) K) : Wp E F nE pc L (.int x :: st) (gM I h) K := by
  have e1 : gM (fun q k => if q = o then 0 else I q k) (h.1, h.2 ++ [n]) = (44 + h.2.length + h.1 + 1, (fun q k => if q = o then (0 : Int32) else I q k), gR0, ((h.1, h.2 ++ [n]) : gX)) := by
    show (44 + (h.2 ++ [n]).length + h.1, _, _, _) = _
    rw [List.length_append, List.length_singleton, show 44 + (h.2.length + 1) + h.1 = 44 + h.2.length + h.1 + 1 by omega]
  rw [e1] at kk
  subst hx
  exact g_newz ka_int ho h9 (nI_pos (by omega)) (nI_clamp (by omega)) hn hE rfl d e kk
theorem gm_pad (j : Nat) (hE : gn h + j ≤ nE) (kk : Wp E F nE pc L st (gM I (h.1 + j, h.2)) K) : Wp E F nE pc L st (gM I h) K := Wp.pad j hE kk
theorem g_retN {j : Nat} {P : Option Value → (Nat → Nat → Int32) → gX → Prop} {h0 : gX} (d : decode F.2.1 pc = .ok (.return_, 1)) (hr : F.2.2.2.1 = none) (hn : gn h = gn h0 + j) (hq : P none I h) : Wp E F (gn h0 + j) pc L [] (gM I h) (gRet F (gn h0 + j) (fun r σ' => ∃ (I' : Nat → Nat → Int32) (h' : gX), σ' = gM I' h' ∧ gn h' = gn h0 + j ∧ P r I' h')) :=
  Wp.here ⟨hn, Or.inr (Or.inl ⟨d, rfl, hr, I, h, rfl, hn, hq⟩)⟩
theorem g_retNi {j : Nat} {v : Int32} {ty : FieldType} {P : Option Value → (Nat → Nat → Int32) → gX → Prop} {h0 : gX} (d : decode F.2.1 pc = .ok (.ireturn, 1)) (hr : F.2.2.2.1 = some ty) (hnr : narrow ty (.int v) = .int v) (hn : gn h = gn h0 + j) (hq : P (some (.int v)) I h) : Wp E F (gn h0 + j) pc L [.int v] (gM I h) (gRet F (gn h0 + j) (fun r σ' => ∃ (I' : Nat → Nat → Int32) (h' : gX), σ' = gM I' h' ∧ gn h' = gn h0 + j ∧ P r I' h')) :=
  Wp.here ⟨hn, Or.inl ⟨d, v, ty, rfl, hr, hnr, I, h, rfl, hn, hq⟩⟩
theorem gm_iald_x {a n t i : Nat} {x : Int32} (ha : a + h.1 < gn h) (h9 : a < 1000) (hsh : gsh h a = .inr (0, n)) (d : decode F.2.1 pc = .ok (.iaload, 1)) (hx : x = nI i) (hin : i < n) (hn : n < 2 ^ 31) (e : pc + 1 = t) (kk : Wp E F nE t L (.int (I a i) :: st) (gM I h) K) : Wp E F nE pc L (.int x :: .ref a :: st) (gM I h) K := by
  subst hx
  exact gm_iald_n ha h9 hsh d hin hn e kk
theorem gm_iast_x {a n t i : Nat} {x y : Int32} (ha : a + h.1 < gn h) (h9 : a < 1000) (hsh : gsh h a = .inr (0, n)) (d : decode F.2.1 pc = .ok (.iastore, 1)) (hx : x = nI i) (hin : i < n) (hn : n < 2 ^ 31) (e : pc + 1 = t) (kk : Wp E F nE t L st (gM (gup I a i y) h) K) : Wp E F nE pc L (.int y :: .int x :: .ref a :: st) (gM I h) K := by
  subst hx
  exact gm_iast_n ha h9 hsh d hin hn e kk
end GLAW
theorem ix_m (a b : Nat) : nI a * nI b = nI (a * b) := pk_mul a b
theorem ix_a (a b : Nat) : nI a + nI b = nI (a + b) := nI_add a b
theorem ix_ma (a b c : Nat) : nI a * nI b + nI c = nI (a * b + c) := by rw [pk_mul, nI_add]
theorem ix_maa (a b c d : Nat) : nI a * nI b + nI c + nI d = nI (a * b + c + d) := by rw [pk_mul, nI_add, nI_add]

