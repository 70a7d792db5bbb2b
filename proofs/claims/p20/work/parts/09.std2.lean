/-! more standard rows, and plain facts -/
/-- contracts: nothing answered, the heap's ints then -/
abbrev gDV (E : gE) (F : gF) (as : List Value) (I : Nat → Nat → Int32) (h : gX) (I1 : Nat → Nat → Int32) : Prop := gEv E F (gn h) as (gM I h) (fun r σ' => r = none ∧ σ' = gM I1 h)
section GSTD2
variable {E : gE} {F : gF} {nE pc : Nat} {L st : List Value} {I : Nat → Nat → Int32} {h : gX} {K : gK}
theorem g_cVd {Fc : gF} {n index t o ci : Nat} {T : u_T} {N : Nat} {as S : List Value} {I1 : Nat → Nat → Int32} (hm : gMi Fc n) (hw1 : Cond.methodLink F.1.cls index Fc.1 ∈ gB) (hw2 : Cond.instanceMethod Fc.1 ∈ gB) (hw3 : Cond.selects Fc.1.cls Fc.1 Fc.1 ∈ gB) (ho : o + h.1 < gn h) (h9 : o < 1000) (hsh : gsh h o = .inl ci) (hcl : vwCl[ci]? = some (Fc.1.cls, T, N)) (d : decode F.2.1 pc = .ok (.invokevirtual index, 3)) (he : gDV E Fc (.ref o :: as) I h I1) (hn : as.length = n) (hS : S = as.reverse ++ .ref o :: st) (hfr : Fc.2.2.2.2.1 + 1 ≤ F.2.2.2.2.1) (hlo : 8 + (Fc.2.2.1 + 11) + Fc.2.2.2.2.2 ≤ F.2.2.2.2.2) (hst : (st.map fun v => v.category).sum ≤ 8) (e : pc + 3 = t) (hE : gn h ≤ nE) (kk : Wp E F nE t L st (gM I1 h) K) : Wp E F nE pc L S (gM I h) K :=
  g_callV hm hw1 hw2 hw3 ho h9 hsh hcl he hn hS hE hfr hlo hst d e fun r σ' q _ => by obtain ⟨rfl, rfl⟩ := q; exact kk
theorem g_retD {I1 : Nat → Nat → Int32} (d : decode F.2.1 pc = .ok (.return_, 1)) (hr : F.2.2.2.1 = none) (hq : I = I1) : Wp E F (gn h) pc L [] (gM I h) (gRet F (gn h) (fun r σ' => r = none ∧ σ' = gM I1 h)) :=
  Wp.here ⟨rfl, Or.inr (Or.inl ⟨d, rfl, hr, rfl, by rw [hq]⟩)⟩
end GSTD2
theorem gDV.post {E : gE} {F : gF} {as : List Value} {I : Nat → Nat → Int32} {h : gX} {I1 : Nat → Nat → Int32} {P : (Nat → Nat → Int32) → Prop} (he : gDV E F as I h I1) (hp : P I1) : gQV E F as I h P := gEv.mono he fun r σ' q => ⟨I1, q.1, q.2, hp⟩
theorem g_div11 {a b : Nat} (hb : b < 11) : (11 * a + b) / 11 = a := by omega
theorem g_mod11 {a b : Nat} (hb : b < 11) : (11 * a + b) % 11 = b := by omega
theorem g_eq11 {a b c d : Nat} (hb : b < 11) (hd : d < 11) : 11 * a + b = 11 * c + d ↔ a = c ∧ b = d := by omega
theorem gup_at (I : Nat → Nat → Int32) (o k k' : Nat) (v : Int32) : gup I o k v o k' = if k' = k then v else I o k' := by
  by_cases q : k' = k
  · subst q; simp [gup]
  · simp [gup, q]
/-! ===== what is computed: plain functions of the items' properties P, the box B, the number of items ===== -/
abbrev dP : Type := Nat → Nat → Int32
def mx (a b : Int32) : Int32 := if a < b then b else a
def mn (a b : Int32) : Int32 := if b < a then b else a
theorem mx_m (a b : Int32) : (if b < a then a else b) = mx a b := by
  unfold mx
  by_cases q : a < b
  · rw [if_pos q, if_neg (fun z => by rw [Int32.lt_iff_toInt_lt] at q z; omega)]
  · rw [if_neg q]
    by_cases z : b < a
    · rw [if_pos z]
    · rw [if_neg z]
      exact Int32.le_antisymm (Int32.not_lt.mp q) (Int32.not_lt.mp z)
theorem mn_m (a b : Int32) : (if a < b then a else b) = mn a b := by
  unfold mn
  by_cases q : b < a
  · rw [if_pos q, if_neg (fun z => by rw [Int32.lt_iff_toInt_lt] at q z; omega)]
  · rw [if_neg q]
    by_cases z : a < b
    · rw [if_pos z]
    · rw [if_neg z]
      exact Int32.le_antisymm (Int32.not_lt.mp z) (Int32.not_lt.mp q)
theorem mx_toInt (a b : Int32) : (mx a b).toInt = max a.toInt b.toInt := by
  unfold mx
  split
  · rename_i q; rw [Int32.lt_iff_toInt_lt] at q; omega
  · rename_i q; rw [Int32.lt_iff_toInt_lt] at q; omega
theorem mn_toInt (a b : Int32) : (mn a b).toInt = min a.toInt b.toInt := by
  unfold mn
  split
  · rename_i q; rw [Int32.lt_iff_toInt_lt] at q; omega
  · rename_i q; rw [Int32.lt_iff_toInt_lt] at q; omega
def grt (P : dP) (i : Nat) : Int32 := mx (P i 3) (P i 4)
def wsh (P : dP) (i : Nat) : Int32 := mn (mx (P i 0) (P i 3)) (grt P i)
def out (P : dP) (i : Nat) : Int32 := wsh P i + nI 2 * P i 5
def abv (P : dP) (i : Nat) : Int32 := P i 7 - P i 8
def way (P : dP) (B : Nat → Int32) (i : Nat) : Int32 := if P i 9 = nI 4 then B 5 else P i 9
/-- where the item that comes to i was, when one is carried from a to b -/
def mvI (a b i : Nat) : Nat := if a ≤ b then (if i < a then i else if i < b then i + 1 else if i = b then a else i) else (if i < b then i else if i = b then a else if i ≤ a then i - 1 else i)
theorem gEv.ofJ {E : gE} {F : gF} {nE : Nat} {as : List Value} {σ : gS} {Q : Option Value → gS → Prop} (hy : plainFor F.1 = true) (hle : σ.1 ≤ nE) (hlen : (gEnt as).length ≤ F.2.2.1) {L : List Value} (hL : gEnt as ++ List.replicate (F.2.2.1 - (gEnt as).length) .null = L) (h : Wp E F nE 0 L [] σ (gRet F nE Q)) : gEv E F nE as σ Q := by
  refine ⟨hle, fun l => ?_⟩
  refine va_MetF (cc := F.2.1) (maxL := F.2.2.1) (ret := F.2.2.2.1) hy rfl ?_
  intro p e s m args below meth c s₁ B hml hv
  obtain ⟨rfl, hI, hK, hRO, hb⟩ := hv
  have hts : ∀ w ∈ gB, w.before (gcs E as).toArray s = true := fun w hw => atoms_spec (ws := gWs F) B.pre w (List.mem_cons_of_mem _ hw)
  have hown : s.vm.findClass F.1.cls = some m.cls := findClass_of_methodNamed B.named
  have hnm : meth.name = F.1.name := (name_of_methodNamed B.named B.method).1
  have hlocks := B.notSynchronized
  have hl := lv_entry (gcs E as) (n := F.2.2.1) (by rw [gEnt_len]; exact hlen)
  rw [lg_entry_eq]
  generalize (lg_sl (gcs E as) ++ List.replicate (F.2.2.1 - (lg_sl (gcs E as)).length) Slot.unset).toArray = ls at hl ⊢
  have hLs : gLs E ls F.2.2.1 L := by
    refine ⟨hl.1, hl.2.1, fun i v hi hv => ?_⟩
    subst hL
    by_cases hlt : i < (gEnt as).length
    · rw [List.getElem?_append_left hlt] at hi
      have := gEnt_args E as 0 i v hi hv
      rw [Nat.zero_add] at this
      exact hl.2.2 _ this
    · rw [List.getElem?_append_right (by omega), List.getElem?_replicate] at hi
      split at hi
      · cases hi; exact absurd rfl hv
      · cases hi
  have hm := gsl_mono hle
  refine h p l e _ s m _ below meth c _ ⟨B.exec, B.bytes, hml, hown, hts, hK, hRO, hb, Nat.le_refl _, Nat.le_refl _, fun q => hnm.trans q⟩ σ.1 (by show nE ≤ nE - σ.1 + σ.1; omega) (by show gsl nE ≤ gsl nE - gsl σ.1 + gsl σ.1; omega) ?_ s.heap [] 0 0 ls ⟨hI, va_S.rf, hLs, by omega, by omega, hle⟩
  intro pc' L' st' σ' H' locs' cells' slots' ls' hk g
  obtain ⟨hn, hk⟩ := hk
  have g4 := g.2.2.2.1
  have g5 := g.2.2.2.2.1
  rw [hn] at g4 g5
  refine W.widen (k := nE - σ.1) (n := gsl nE - gsl σ.1) (by omega) (by omega) ?_
  rcases hk with ⟨hd, v, ty, rfl, hr, hnar, hq⟩ | ⟨hd, rfl, hr, hq⟩ | ⟨hd, v, rfl, hr, hq⟩ | ⟨hd, r, nm, rfl, hr, hq⟩
  · exact W.zret (ty := ty) B.exec B.bytes (B.returns.trans hr) hnar (fun t ht hW => ⟨some (.int v), σ', hq, hn, rfl, by rw [ht]; exact g.1, g.2.1.F ht⟩) g.2.1.2.2 hd
  · exact W.vret B.exec B.bytes (B.returns.trans hr) (fun t ht hW => ⟨none, σ', hq, hn, rfl, by rw [ht]; exact g.1, g.2.1.F ht⟩) g.2.1.2.2 hd
  · exact W.lret B.exec B.bytes (B.returns.trans hr) (fun t ht hW => ⟨some (.long v), σ', hq, hn, rfl, by rw [ht]; exact g.1, g.2.1.F ht⟩) g.2.1.2.2 hd
  · refine W.aret (v := gcv E (.ref r)) B.exec B.bytes (B.returns.trans hr) (Or.inl ⟨nm, rfl⟩) ?_ (fun t ht hW => ⟨some (.ref r), σ', hq, hn, rfl, by rw [ht]; exact g.1, g.2.1.F ht⟩) g.2.1.2.2 hd
    show (if r < 1000 then Value.ref (E.1 + r) else va_rf (E.2.2.2.1 (r - 1000))) = .null ∨ ∃ a, (if r < 1000 then Value.ref (E.1 + r) else va_rf (E.2.2.2.1 (r - 1000))) = .ref a
    split
    · exact Or.inr ⟨_, rfl⟩
    · cases E.2.2.2.1 (r - 1000)
      · exact Or.inl rfl
      · exact Or.inr ⟨_, rfl⟩
