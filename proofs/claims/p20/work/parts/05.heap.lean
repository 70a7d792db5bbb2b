/-! the heap's rows -/
def gup (I : Nat → Nat → Int32) (o k : Nat) (v : Int32) : Nat → Nat → Int32 := fun o' k' => if o' = o ∧ k' = k then v else I o' k'
def gupR (I : Nat → Nat → Option Nat) (o k : Nat) (v : Nat) : Nat → Nat → Option Nat := fun o' k' => if o' = o ∧ k' = k then some v else I o' k'
abbrev gset (σ : gS) (o k : Nat) (v : Int32) : gS := (σ.1, gup σ.2.1 o k v, σ.2.2.1, σ.2.2.2)
theorem gup_self (I : Nat → Nat → Int32) (o k : Nat) (v : Int32) : gup I o k v o k = v := by simp [gup]
theorem gup_o (I : Nat → Nat → Int32) {o o' : Nat} (k k' : Nat) (v : Int32) (h : o' ≠ o) : gup I o k v o' k' = I o' k' := by simp [gup, h]
theorem gup_k (I : Nat → Nat → Int32) (o : Nat) {k k' : Nat} (v : Int32) (h : k' ≠ k) : gup I o k v o k' = I o k' := by simp [gup, h]
theorem gup_row (I : Nat → Nat → Int32) (o k : Nat) (v : Int32) : gup I o k v o = upd (I o) k v := by
  funext j
  by_cases h : j = k
  · subst h; simp [gup, upd]
  · simp [gup, upd, h]
theorem gup_rowo (I : Nat → Nat → Int32) {o o' : Nat} (k : Nat) (v : Int32) (h : o' ≠ o) : gup I o k v o' = I o' := by
  funext j
  simp [gup, h]
def gCl (ci : Nat) (C : String) (T : u_T) (N : Nat) : Prop := vwCl[ci]? = some (C, T, N) ∧ (∀ w ∈ u_ws C T N, w ∈ gB) ∧ N = gN ci ∧ (∀ a, a < N → ∀ b, b < N → a ≠ b → (T a).2.1 ≠ (T b).2.1) ∧ ∃ ty : Nat → FieldType, ∀ k, k < N → parseFieldDescriptor (T k).2.2.1 = some (ty k) ∧ defaultValue (ty k) = (match gfk ci k with
  | 0 => .int 0
  | 1 => .null
  | _ => .long 0)
def gFL (own : String) (index ci k : Nat) : Prop := ∃ (C : String) (T : u_T) (N : Nat), gCl ci C T N ∧ k < N ∧ Cond.fieldLink own index (T k).1 (T k).2.1 (T k).2.2.1 ∈ gB
/-- a field that may be written, its type; fin: a final one, by its class's own constructor -/
def gFP (own : String) (index ci k : Nat) (ty : FieldType) (fin : Bool) : Prop := ∃ (C : String) (T : u_T) (N : Nat), gCl ci C T N ∧ k < N ∧ Cond.fieldLink own index (T k).1 (T k).2.1 (T k).2.2.1 ∈ gB ∧ (T k).2.2.2 = fin ∧ parseFieldDescriptor (T k).2.2.1 = some ty ∧ (fin = true → (T k).1 = own)
theorem gfs_get {E : gE} {σ : gS} {i ci k : Nat} (hk : k < gN ci) : ((List.range (gN ci)).map (fun k => gfv E σ i ci k))[k]? = some (gfv E σ i ci k) := by
  rw [List.getElem?_map, List.getElem?_range hk]
  rfl
theorem gfs_V {E : gE} {σ : gS} {i ci k : Nat} (hk : k < gN ci) : vp_V ((List.range (gN ci)).map (fun k => gfv E σ i ci k)) k = gfv E σ i ci k := by
  show List.getD _ _ _ = _
  rw [List.getD_eq_getElem?_getD, gfs_get hk]
  rfl
theorem gInv.obj {E : gE} {σ : gS} {H : Heap} {o ci : Nat} (h : gInv E σ H) (ho : o + σ.2.2.2.1 < σ.1) (hsh : gsh σ.2.2.2 o = .inl ci) : va_P E.2.1 vwCl [(E.1 + o, .inr (ci, (List.range (gN ci)).map (fun k => gfv E σ o ci k)))] H := by
  intro k q hk
  have h1 := h.2 o ho
  have hz : k < 1 := (List.getElem?_eq_some_iff.mp hk).1
  rw [show k = 0 by omega] at hk
  cases hk
  rw [show gct E σ o = .inr (ci, (List.range (gN ci)).map (fun k => gfv E σ o ci k)) by simp [gct, hsh]] at h1
  exact h1
theorem gInv.arr {E : gE} {σ : gS} {H : Heap} {o : Nat} {q : Nat × Nat} (h : gInv E σ H) (ho : o + σ.2.2.2.1 < σ.1) (hsh : gsh σ.2.2.2 o = .inr q) : va_P E.2.1 vwCl [(E.1 + o, .inl (E.2.2.1 q.1, q.2, .inl (σ.2.1 o)))] H := by
  intro k p hk
  have h1 := h.2 o ho
  have hz : k < 1 := (List.getElem?_eq_some_iff.mp hk).1
  rw [show k = 0 by omega] at hk
  cases hk
  rw [show gct E σ o = .inl (E.2.2.1 q.1, q.2, .inl (σ.2.1 o)) by simp [gct, hsh]] at h1
  exact h1
theorem gct_same {E : gE} {σ σ' : gS} {i : Nat} (h1 : σ'.2.1 i = σ.2.1 i) (h2 : σ'.2.2.1 i = σ.2.2.1 i) (h3 : σ'.2.2.2 = σ.2.2.2) : gct E σ' i = gct E σ i := by
  unfold gct
  rw [h3]
  cases gsh σ.2.2.2 i with
  | inl ci =>
    have : (fun k => gfv E σ' i ci k) = (fun k => gfv E σ i ci k) := by
      funext k
      simp only [gfv, h1, h2]
    simp only [this]
  | inr q => simp only [h1]
theorem gS_put {E : gE} {H0 H H1 : Heap} {locs : List Loc} {o k : Nat} (h : va_S (gA E) H0 H locs) (z : H1.size = H.size) (oq : ∀ q : Nat, q ≠ E.1 + o → H1[q]? = H[q]?) : va_S (gA E) H0 H1 (locs ++ [⟨E.1 + o, k⟩]) := h.put z oq (Nat.le_add_right _ _)
/-- a cell is written, the others stay -/
theorem gInv.set {E : gE} {σ σ' : gS} {H H1 : Heap} {o : Nat} (h : gInv E σ H) (hn : σ'.1 = σ.1) (hx : σ'.2.2.2 = σ.2.2.2) (z : H1.size = H.size) (oq : ∀ q : Nat, q ≠ E.1 + o → H1[q]? = H[q]?) (hs : ∀ i, i ≠ o → gct E σ' i = gct E σ i) (ho : va_at E.2.1 vwCl (E.1 + o, gct E σ' o) H1) : gInv E σ' H1 := by
  refine ⟨by rw [z, hn, hx]; exact h.1, fun i hi => ?_⟩
  by_cases hio : i = o
  · subst hio; exact ho
  · rw [hs i hio]
    exact (h.2 i (by rw [hn, hx] at hi; exact hi)).kept (oq _ (by show E.1 + i ≠ E.1 + o; omega))
theorem g_fk3 (ci k : Nat) : gfk ci k < 3 := by
  have key : ∀ (l : List Nat), (l.all fun x => decide (x < 3)) = true → l.getD k 0 < 3 := by
    intro l hl
    rw [List.getD_eq_getElem?_getD]
    cases h : l[k]? with
    | none => exact Nat.zero_lt_succ _
    | some x => exact of_decide_eq_true (List.all_eq_true.mp hl x (List.mem_of_getElem? h))
  have k2 : ∀ l ∈ gfkL, (l.all fun x => decide (x < 3)) = true := by decide +kernel
  refine key _ ?_
  rw [List.getD_eq_getElem?_getD]
  cases h : gfkL[ci]? with
  | none => rfl
  | some l => exact k2 l (List.mem_of_getElem? h)
section GH
variable {E : gE} {F : gF} {nE pc : Nat} {L st : List Value} {σ : gS} {K : gK}
theorem gget {ci k o index t : Nat} {v : Value} (ho : o + σ.2.2.2.1 < σ.1) (h9 : o < 1000) (hsh : gsh σ.2.2.2 o = .inl ci) (hf : gFL F.1.cls index ci k) (hv : gfv E σ o ci k = gcv E v) (d : decode F.2.1 pc = .ok (.getfield index, 3)) (e : pc + 3 = t) (kk : Wp E F nE t L (v :: st) σ K) : Wp E F nE pc L (.ref o :: st) σ K := by
  subst e
  intro p l e R s m args below meth c Q C n0 r1 r2 k2 H locs cells slots ls g
  obtain ⟨Cn, T, N, ⟨c1, c2, c3, c4, c5⟩, hk, hlk⟩ := hf
  subst c3
  have h2 := kk p l e R s m args below meth c Q C n0 r1 r2 k2 H locs cells slots ls g
  rw [show gcs E (.ref o :: st) = gcv E (.ref o) :: gcs E st from rfl, gcv_ref h9]
  rw [show gcs E (v :: st) = gcv E v :: gcs E st from rfl, ← hv] at h2
  exact va_get (Ts := gB) (ref := (T k).1) C.1 C.2.1 C.2.2.2.2.1 c2 C.2.2.2.1 C.2.2.2.2.2.1 (g.1.obj ho hsh) 0 rfl c1 k hk (C.2.2.2.2.1 _ hlk) (fun x h => h) (gfs_get hk) d h2
/-- a field of ints -/
theorem g_getI {ci k o index t : Nat} (ho : o + σ.2.2.2.1 < σ.1) (h9 : o < 1000) (hsh : gsh σ.2.2.2 o = .inl ci) (hf : gFL F.1.cls index ci k) (h0 : gfk ci k = 0) (d : decode F.2.1 pc = .ok (.getfield index, 3)) (e : pc + 3 = t) (kk : Wp E F nE t L (.int (σ.2.1 o k) :: st) σ K) : Wp E F nE pc L (.ref o :: st) σ K :=
  gget ho h9 hsh hf (by simp only [gfv, h0]; rfl) d e kk
theorem g_getR {ci k o r index t : Nat} (ho : o + σ.2.2.2.1 < σ.1) (h9 : o < 1000) (hsh : gsh σ.2.2.2 o = .inl ci) (hf : gFL F.1.cls index ci k) (h0 : gfk ci k = 1) (hr : σ.2.2.1 o k = some r) (hr9 : r < 1000) (d : decode F.2.1 pc = .ok (.getfield index, 3)) (e : pc + 3 = t) (kk : Wp E F nE t L (.ref r :: st) σ K) : Wp E F nE pc L (.ref o :: st) σ K :=
  gget ho h9 hsh hf (by simp only [gfv, h0, hr]; rw [gcv_ref hr9]; rfl) d e kk
theorem gput {ci k o index t : Nat} {ty : FieldType} {fin : Bool} {v : Value} {σ' : gS} (ho : o + σ.2.2.2.1 < σ.1) (h9 : o < 1000) (hsh : gsh σ.2.2.2 o = .inl ci) (hf : gFP F.1.cls index ci k ty fin) (hi : fin = true → F.1.name = "<init>") (hn : narrow ty (gcv E v) = gcv E v) (hfit : fits ty (gcv E v) = true) (hs1 : σ'.1 = σ.1) (hs2 : σ'.2.2.2 = σ.2.2.2) (hs : ∀ i, i ≠ o → gct E σ' i = gct E σ i) (hv : gfv E σ' o ci k = gcv E v) (hv2 : ∀ j, j ≠ k → gfv E σ' o ci j = gfv E σ o ci j) (d : decode F.2.1 pc = .ok (.putfield index, 3)) (e : pc + 3 = t) (kk : Wp E F nE t L st σ' K) : Wp E F nE pc L (v :: .ref o :: st) σ K := by
  subst e
  intro p l e R s m args below meth c Q C n0 r1 r2 k2 H locs cells slots ls g
  obtain ⟨Cn, T, N, ⟨c1, c2, c3, c4, ty0, c5⟩, hk, hlk, hfin, hd, hown⟩ := hf
  subst c3
  rw [show gcs E (v :: .ref o :: st) = gcv E v :: gcv E (.ref o) :: gcs E st from rfl, gcv_ref h9]
  have hts := C.2.2.2.2.1
  have hap := va_apart (own := F.1.cls) hts c2 ty0 (fun k hk => (c5 k hk).1) c4 C.2.2.2.2.2.1 c1
  obtain ⟨r, h1, cell, q1, q2, q3, q4⟩ := g.1.obj ho hsh 0 _ rfl
  have hr : r = (Cn, T, gN ci) := Option.some.inj (h1.symm.trans c1)
  subst hr
  obtain ⟨hS, hfc, kC, hkC, hkind⟩ := C.2.2.2.2.2.1.1 ci _ c1
  obtain ⟨cf, kf, fi, f, hi2, hsl⟩ := hS k hk
  have hst := (u_facts hfc hkC (u_lays hts c2 hk) hi2).1
  have hlay := hts _ (c2 _ (u_in_lay hk))
  have fin2 : ∀ H' : Heap, H'[E.1 + o]? = some (cell.setSlot (E.2.1.2 ci k) (gcv E v)) → H'.size = H.size → (∀ q, q ≠ E.1 + o → H'[q]? = H[q]?) → W p l e R s m args below meth c H' (locs ++ [⟨E.1 + o, E.2.1.2 ci k⟩]) cells slots Q (F0 m (pc + 3) ls (gcs E st)) := by
    intro H' e1 e2 e3
    refine kk p l e R s m args below meth c Q C n0 r1 r2 k2 H' _ cells slots ls ⟨g.1.set hs1 hs2 e2 e3 hs ?_, gS_put g.2.1 e2 e3, g.2.2.1, by rw [hs1]; exact g.2.2.2.1, by rw [hs1]; exact g.2.2.2.2.1, by rw [hs1]; exact g.2.2.2.2.2⟩
    rw [show gct E σ' o = .inr (ci, (List.range (gN ci)).map (fun k => gfv E σ' o ci k)) by simp [gct, hs2, hsh]]
    refine ⟨_, c1, t_OB.to (V := updV (vp_V ((List.range (gN ci)).map (fun k => gfv E σ o ci k))) k (gcv E v)) ⟨_, e1, q2, q3, t_set q4 hap hk _⟩ (fun j hj => ?_)⟩
    rw [gfs_V hj]
    by_cases hjk : j = k
    · subst hjk
      rw [hv]
      simp [updV]
    · simp only [updV, hjk, if_false]
      rw [gfs_V hj, hv2 j hjk]
  cases fin with
  | false =>
    unfold u_lay at hlay
    rw [if_neg (by rw [hfin]; decide)] at hlay
    have h6 := u_store hfc hkC hkind hlay hi2 hd hn hfit
    refine W.putK C.1 C.2.1 (f := f) ⟨C.2.2.2.1, hts _ hlk, ⟨_, _, _, hi2⟩, hst⟩ (by rw [q2]; exact h6) q1 q3 (by rw [hsl]; exact k2_hasslot (q4 k hk)) rfl rfl d fun H' e1 e2 e3 => ?_
    rw [hsl] at e1 ⊢
    exact fin2 H' e1 e2 e3
  | true =>
    unfold u_lay at hlay
    rw [if_pos hfin] at hlay
    have hcf : m.cls = cf := by
      obtain ⟨_, _, c', _, _, _, -, -, hf', -, -, -, hown2, -⟩ := Cond.laysFinal_spec hlay
      have e1 : c' = cf := by have := hi2.symm.trans hf'; simp at this; exact this.1.symm
      rw [hown rfl] at hown2
      rw [← e1]; exact Option.some.inj (C.2.2.2.1.symm.trans hown2)
    have h6 := u_fits hfc hkC hkind (Or.inr hlay) hi2 hd hn hfit
    refine W.putFinK C.1 C.2.1 C.2.2.2.1 (hts _ hlk) hi2 hst hcf (C.2.2.2.2.2.2.2.2.2.2 (hi rfl)) (by rw [q2]; exact h6) q1 q3 (by rw [hsl]; exact k2_hasslot (q4 k hk)) rfl rfl d fun H' e1 e2 e3 => ?_
    rw [hsl] at e1 ⊢
    exact fin2 H' e1 e2 e3
theorem g_putI {ci k o index t : Nat} {ty : FieldType} {v : Int32} (ho : o + σ.2.2.2.1 < σ.1) (h9 : o < 1000) (hsh : gsh σ.2.2.2 o = .inl ci) (hf : gFP F.1.cls index ci k ty false) (h0 : gfk ci k = 0) (hn : narrow ty (.int v) = .int v) (hfit : fits ty (.int v) = true) (d : decode F.2.1 pc = .ok (.putfield index, 3)) (e : pc + 3 = t) (kk : Wp E F nE t L st (gset σ o k v) K) : Wp E F nE pc L (.int v :: .ref o :: st) σ K := by
  refine gput (v := .int v) (σ' := gset σ o k v) ho h9 hsh hf (fun h => by cases h) hn hfit rfl rfl (fun i hi => gct_same (gup_rowo _ _ _ hi) rfl rfl) ?_ (fun j hj => ?_) d e kk
  · simp only [gfv, h0, gup_self]; rfl
  · simp only [gfv, gup_k _ _ _ hj]
theorem g_putR {ci k o r index t : Nat} {ty : FieldType} (ho : o + σ.2.2.2.1 < σ.1) (h9 : o < 1000) (hsh : gsh σ.2.2.2 o = .inl ci) (hf : gFP F.1.cls index ci k ty true) (h0 : gfk ci k = 1) (hr9 : r < 1000) (hi : F.1.name = "<init>") (hty : ∃ t0, ty = .object t0 ∨ ∃ t1, ty = .array t1) (d : decode F.2.1 pc = .ok (.putfield index, 3)) (e : pc + 3 = t) (kk : Wp E F nE t L st (σ.1, σ.2.1, gupR σ.2.2.1 o k r, σ.2.2.2) K) : Wp E F nE pc L (.ref r :: .ref o :: st) σ K := by
  refine gput (v := .ref r) (σ' := (σ.1, σ.2.1, gupR σ.2.2.1 o k r, σ.2.2.2)) ho h9 hsh hf (fun _ => hi) ?_ ?_ rfl rfl (fun i hi => gct_same rfl (by funext j; simp [gupR, hi]) rfl) ?_ (fun j hj => ?_) d e kk
  · rw [gcv_ref hr9]; obtain ⟨t0, rfl | ⟨t1, rfl⟩⟩ := hty <;> rfl
  · rw [gcv_ref hr9]; obtain ⟨t0, rfl | ⟨t1, rfl⟩⟩ := hty <;> rfl
  · simp only [gfv, h0, gcv_ref hr9]
    simp [gupR, va_rf]
  · simp only [gfv]
    simp [gupR, hj]
end GH
section GH2
variable {E : gE} {F : gF} {nE pc : Nat} {L st : List Value} {σ : gS} {K : gK}
theorem gsh_of {h : gX} {i : Nat} {q : Nat ⊕ (Nat × Nat)} (hlt : i < 44) (e : gshL.getD i (.inr (0, 48)) = q) : gsh h i = q := by
  rw [← e]
  have hl : i < gshL.length := hlt
  simp only [gsh, List.getD_eq_getElem?_getD, List.getElem?_eq_getElem hl, Option.getD_some]
theorem gsh_dyn {h : gX} {i : Nat} (hi : 44 ≤ i) : gsh h i = .inr (0, h.2.getD (i - 44) 0) := by
  unfold gsh
  rw [List.getD_eq_getElem?_getD, List.getElem?_eq_none (by show 44 ≤ i; exact hi)]
  rfl
theorem gsh_app {h : gX} {i n : Nat} (hi : i < 44 + h.2.length) : gsh (h.1, h.2 ++ [n]) i = gsh h i := by
  by_cases q : i < 44
  · rw [gsh_of (h := h) q rfl, gsh_of q rfl]
  · rw [gsh_dyn (by omega), gsh_dyn (by omega)]
    show Sum.inr (0, (h.2 ++ [n]).getD (i - 44) 0) = _
    rw [List.getD_eq_getElem?_getD, List.getElem?_append_left (by omega), ← List.getD_eq_getElem?_getD]
theorem gsh_new {h : gX} {n : Nat} : gsh (h.1, h.2 ++ [n]) (44 + h.2.length) = .inr (0, n) := by
  rw [gsh_dyn (by omega)]
  show Sum.inr (0, (h.2 ++ [n]).getD (44 + h.2.length - 44) 0) = _
  rw [Nat.add_sub_cancel_left, List.getD_eq_getElem?_getD, List.getElem?_append_right (Nat.le_refl _), Nat.sub_self]
  rfl
theorem gsz_dyn {i : Nat} (hi : 44 ≤ i) : gsz i = 48 := by
  unfold gsz
  rw [List.getD_eq_getElem?_getD, List.getElem?_eq_none (by show 44 ≤ i; exact hi)]
  rfl
theorem gct_grow (σ : gS) (i : Nat) : gct E (σ.1 + 1, σ.2.1, σ.2.2.1, σ.2.2.2) i = gct E σ i := gct_same rfl rfl rfl
theorem gInv.grow {H H1 : Heap} {σ' : gS} (h : gInv E σ H) (hn : σ'.1 = σ.1 + 1) (hx : σ'.2.2.2.1 = σ.2.2.2.1) (hs : ∀ i, i + σ.2.2.2.1 < σ.1 → gct E σ' i = gct E σ i) (hle : σ.2.2.2.1 ≤ σ.1) (e : va_at E.2.1 vwCl (E.1 + (σ.1 - σ.2.2.2.1), gct E σ' (σ.1 - σ.2.2.2.1)) H1) (z : H1.size = H.size + 1) (oq : ∀ q : Nat, q < H.size → H1[q]? = H[q]?) : gInv E σ' H1 := by
  have h1 := h.1
  refine ⟨by rw [z, hn, hx]; omega, fun i hi => ?_⟩
  by_cases hio : i = σ.1 - σ.2.2.2.1
  · subst hio; exact e
  · rw [hn, hx] at hi
    rw [hs i (by omega)]
    exact (h.2 i (by omega)).kept (oq _ (by show E.1 + i < H.size; omega))
theorem gR.grow {n0 n : Nat} {σ' : gS} {s : State} {H H1 : Heap} {locs : List Loc} {cells slots : Nat} {ls : Array Slot} (g : gR E F nE n0 s L σ H locs cells slots ls) (hb : E.1 ≤ s.heap.size) (hE : σ.1 + 1 ≤ nE) (hn1 : σ'.1 = σ.1 + 1) (hx : σ'.2.2.2.1 = σ.2.2.2.1) (hs : ∀ i, i + σ.2.2.2.1 < σ.1 → gct E σ' i = gct E σ i) (hle : σ.2.2.2.1 ≤ σ.1) (hn : gsz σ.1 = n) (e : va_at E.2.1 vwCl (E.1 + (σ.1 - σ.2.2.2.1), gct E σ' (σ.1 - σ.2.2.2.1)) H1) (z : H1.size = H.size + 1) (oq : ∀ q : Nat, q < H.size → H1[q]? = H[q]?) : gR E F nE n0 s L σ' H1 locs (cells + 1) (slots + n) ls := by
  refine ⟨g.1.grow hn1 hx hs hle e z oq, ⟨Nat.le_trans g.2.1.1 (by omega), fun q h1 h2 => ?_, g.2.1.2.2⟩, g.2.2.1, ?_, ?_, by rw [hn1]; exact hE⟩
  · rw [oq q (Nat.lt_of_lt_of_le h1 g.2.1.1)]
    exact g.2.1.2.1 q h1 h2
  · have := g.2.2.2.1
    rw [hn1]
    omega
  · have := g.2.2.2.2.1
    rw [hn1]
    show slots + n + gsl n0 = gsl σ.1 + gsz σ.1
    omega
theorem g_new {ci index o t : Nat} {Cn : String} {T : u_T} {N : Nat} (hcl : gCl ci Cn T N) (hlt : σ.1 < 44) (hsh : gshL.getD σ.1 (.inr (0, 48)) = .inl ci) (ho : σ.1 = o) (h9 : o < 1000) (hw1 : Cond.classLink F.1.cls index Cn ∈ gB) (hw2 : Cond.instantiable Cn N ∈ gB) (hw3 : Cond.initialized Cn ∈ gB) (hE : σ.1 + 1 ≤ nE) (hz : ∀ k, σ.2.1 σ.1 k = 0) (hz2 : ∀ k, σ.2.2.1 σ.1 k = none) (hz3 : σ.2.2.2 = (0, [])) (d : decode F.2.1 pc = .ok (.new index, 3)) (e : pc + 3 = t) (kk : Wp E F nE t L (.ref o :: st) (σ.1 + 1, σ.2.1, σ.2.2.1, σ.2.2.2) K) : Wp E F nE pc L st σ K := by
  subst e
  subst ho
  intro p l e R s m args below meth c Q C n0 r1 r2 k2 H locs cells slots ls g
  obtain ⟨c1, c2, c3, c4, ty0, c5⟩ := hcl
  subst c3
  have hts := C.2.2.2.2.1
  have hsz : gsz σ.1 = gN ci := by unfold gsz; rw [hsh]
  have hKn := C.2.2.2.2.2.1.1 ci _ c1
  have hm : gsl (σ.1 + 1) ≤ gsl nE := gsl_mono hE
  have hm2 : gsl (σ.1 + 1) = gsl σ.1 + gN ci := by show gsl σ.1 + gsz σ.1 = _; rw [hsz]
  have g4 := g.2.2.2.1
  have g5 := g.2.2.2.2.1
  have hz4 : σ.2.2.2.1 = 0 := by rw [hz3]
  have hH : H.size = E.1 + σ.1 := by have := g.1.1; rw [hz4] at this; exact this
  refine W.newcK C.1 C.2.1 C.2.2.2.1 (hts _ hw1) (hts _ hw2) (hts _ hw3) rfl d (by omega) (by omega) hKn.2.1 hH fun H1 kC hkC e1 z1 o1 => ?_
  have := kk p l e R s m args below meth c Q C n0 r1 r2 k2 H1 locs (cells + 1) (slots + gN ci) ls (g.grow C.2.2.2.2.2.2.2.1 hE rfl rfl (fun i _ => gct_grow σ i) (by rw [hz4]; exact Nat.zero_le _) hsz ?_ (by rw [z1, hH]) (fun q hq => o1 q (by rw [← hH]; exact hq)))
  · rw [show gcs E (.ref σ.1 :: st) = gcv E (.ref σ.1) :: gcs E st from rfl, gcv_ref h9] at this
    exact this
  · rw [hz4, Nat.sub_zero, gct_grow, show gct E σ σ.1 = .inr (ci, (List.range (gN ci)).map (fun k => gfv E σ σ.1 ci k)) by simp [gct, gsh_of hlt hsh]]
    refine ⟨_, c1, (u_born ty0 hts c2 hKn hkC e1 (fun k hk => (c5 k hk).1)).to (fun j hj => ?_)⟩
    rw [gfs_V hj, (c5 j hj).2]
    simp only [gfv, hz, hz2]
    split <;> simp_all [va_rf]
theorem g_newa {kd n o t : Nat} {x : Int32} {at_ : ArrayType} (hat : newarray.typeOf at_ = gty kd) (hkd : kd < 3) (hw : Cond.arrayClass (newarray.typeOf at_) ∈ gB) (hlt : σ.1 < 44) (hz3 : σ.2.2.2 = (0, [])) (hsh : gshL.getD σ.1 (.inr (0, 48)) = .inr (kd, n)) (ho : σ.1 = o) (h9 : o < 1000) (hx : ¬ x < 0) (hxn : x.toNatClampNeg = n) (hn : n ≤ 5000) (hE : σ.1 + 1 ≤ nE) (hz : ∀ k, σ.2.1 σ.1 k = 0) (d : decode F.2.1 pc = .ok (.newarray at_, 2)) (e : pc + 2 = t) (kk : Wp E F nE t L (.ref o :: st) (σ.1 + 1, σ.2.1, σ.2.2.1, σ.2.2.2) K) : Wp E F nE pc L (.int x :: st) σ K := by
  subst e
  subst ho
  intro p l e R s m args below meth c Q C n0 r1 r2 k2 H locs cells slots ls g
  have hts := C.2.2.2.2.1
  have hsz : gsz σ.1 = n := by unfold gsz; rw [hsh]
  have hm : gsl (σ.1 + 1) ≤ gsl nE := gsl_mono hE
  have hm2 : gsl (σ.1 + 1) = gsl σ.1 + n := by show gsl σ.1 + gsz σ.1 = _; rw [hsz]
  have g4 := g.2.2.2.1
  have g5 := g.2.2.2.2.1
  have hK := C.2.2.2.2.2.1.2
  have hRA : s.vm.findClass ("[" ++ (gty kd).toString) = some (E.2.2.1 kd) := by
    rcases (show kd = 0 ∨ kd = 1 ∨ kd = 2 by omega) with rfl | rfl | rfl
    · exact (hK 0 _ rfl).2
    · exact (hK 1 _ rfl).2
    · exact (hK 2 _ rfl).2
  have hz4 : σ.2.2.2.1 = 0 := by rw [hz3]
  have hH : H.size = E.1 + σ.1 := by have := g.1.1; rw [hz4] at this; exact this
  refine va_newaK C.1 C.2.1 (hts _ hw) rfl d rfl hx hxn ?_ (by omega) (by omega) hH fun H1 cA e1 z1 o1 hAr hNm => ?_
  · rw [hat]
    have : componentBytes (gty kd) ≤ 8 := by
      rcases (show kd = 0 ∨ kd = 1 ∨ kd = 2 by omega) with rfl | rfl | rfl <;> decide
    calc n * componentBytes (gty kd) ≤ 5000 * 8 := Nat.mul_le_mul hn this
      _ ≤ 536870912 := by decide
  rw [hat] at e1 hNm
  cases hRA.symm.trans hNm
  have := kk p l e R s m args below meth c Q C n0 r1 r2 k2 H1 locs (cells + 1) (slots + n) ls (g.grow C.2.2.2.2.2.2.2.1 hE rfl rfl (fun i _ => gct_grow σ i) (by rw [hz4]; exact Nat.zero_le _) hsz ?_ (by rw [z1, hH]) (fun q hq => o1 q (by rw [← hH]; exact hq)))
  · rw [show gcs E (.ref σ.1 :: st) = gcv E (.ref σ.1) :: gcs E st from rfl, gcv_ref h9] at this
    exact this
  · rw [hz4, Nat.sub_zero, gct_grow, show gct E σ σ.1 = .inl (E.2.2.1 kd, n, .inl (σ.2.1 σ.1)) by simp [gct, gsh_of hlt hsh]]
    show H1[E.1 + σ.1]? = some (arrV (E.2.2.1 kd) n (fun j => .int (σ.2.1 σ.1 j)))
    rw [e1]
    congr 2
    funext j
    rw [hz]
    rcases (show kd = 0 ∨ kd = 1 ∨ kd = 2 by omega) with rfl | rfl | rfl <;> rfl
/-- a row of ints, made behind the first cells -/
theorem g_newz {o n t : Nat} {x : Int32} {I I1 : Nat → Nat → Int32} {R : Nat → Nat → Option Nat} {h : gX} (hw : Cond.arrayClass (newarray.typeOf .int) ∈ gB) (ho : 44 + h.2.length = o) (h9 : o < 1000) (hx : ¬ x < 0) (hxn : x.toNatClampNeg = n) (hn : n ≤ 48) (hE : 44 + h.2.length + h.1 + 1 ≤ nE) (hI : I1 = fun q k => if q = o then 0 else I q k) (d : decode F.2.1 pc = .ok (.newarray .int, 2)) (e : pc + 2 = t) (kk : Wp E F nE t L (.ref o :: st) (44 + h.2.length + h.1 + 1, I1, R, (h.1, h.2 ++ [n])) K) : Wp E F nE pc L (.int x :: st) (44 + h.2.length + h.1, I, R, h) K := by
  subst e
  subst hI
  intro p l e R0 s m args below meth c Q C n0 r1 r2 k2 H locs cells slots ls g
  have hts := C.2.2.2.2.1
  have hm : gsl (44 + h.2.length + h.1 + 1) ≤ gsl nE := gsl_mono hE
  have hm2 : gsl (44 + h.2.length + h.1 + 1) = gsl (44 + h.2.length + h.1) + 48 := by
    show gsl (44 + h.2.length + h.1) + gsz (44 + h.2.length + h.1) = _
    rw [gsz_dyn (by omega)]
  have g4 : cells + n0 = 44 + h.2.length + h.1 := g.2.2.2.1
  have g5 : slots + gsl n0 = gsl (44 + h.2.length + h.1) := g.2.2.2.2.1
  have g6 : H.size + h.1 = E.1 + (44 + h.2.length + h.1) := g.1.1
  have hK := C.2.2.2.2.2.1.2
  have hH : H.size = E.1 + o := by omega
  refine va_newaK C.1 C.2.1 (hts _ hw) rfl d rfl hx hxn ?_ (by omega) (by omega) hH fun H1 cA e1 z1 o1 hAr hNm => ?_
  · have h8 : componentBytes (newarray.typeOf ArrayType.int) ≤ 8 := by decide
    calc n * componentBytes (newarray.typeOf ArrayType.int) ≤ 48 * 8 := Nat.mul_le_mul hn h8
      _ ≤ 536870912 := by decide
  have hNm : s.vm.findClass ("[" ++ FieldType.int.toString) = some cA := hNm
  cases (hK 0 _ rfl).2.symm.trans hNm
  refine W.widen (k := cells + 1) (n := slots + 48) (Nat.le_refl _) (by omega) ?_
  have := kk p l e R0 s m args below meth c Q C n0 r1 r2 k2 H1 locs (cells + 1) (slots + 48) ls ⟨?_, ⟨Nat.le_trans g.2.1.1 (by omega), fun q q1 q2 => by
      rw [o1 q (by rw [← hH]; exact Nat.lt_of_lt_of_le q1 g.2.1.1)]
      exact g.2.1.2.1 q q1 q2, g.2.1.2.2⟩, g.2.2.1, by show cells + 1 + n0 = 44 + h.2.length + h.1 + 1; omega, by show slots + 48 + gsl n0 = gsl (44 + h.2.length + h.1 + 1); omega, hE⟩
  · rw [show gcs E (.ref o :: st) = gcv E (.ref o) :: gcs E st from rfl, gcv_ref h9] at this
    exact this
  · refine ⟨by show H1.size + h.1 = E.1 + (44 + h.2.length + h.1 + 1); omega, fun i hi => ?_⟩
    have hi : i + h.1 < 44 + h.2.length + h.1 + 1 := hi
    by_cases hio : i = o
    · subst hio
      have hsh : gsh ((h.1, h.2 ++ [n]) : gX) i = .inr (0, n) := by rw [← ho]; exact gsh_new
      rw [show gct E (44 + h.2.length + h.1 + 1, (fun q k => if q = i then (0 : Int32) else I q k), R, ((h.1, h.2 ++ [n]) : gX)) i = .inl (E.2.2.1 0, n, .inl (fun _ => 0)) by simp [gct, hsh]]
      show H1[E.1 + i]? = some (arrV (E.2.2.1 0) n (fun j => .int 0))
      rw [e1]
      rfl
    · have hio2 : i < 44 + h.2.length := by omega
      have h1 := g.1.2 i (by show i + h.1 < 44 + h.2.length + h.1; omega)
      have hsh : gsh ((h.1, h.2 ++ [n]) : gX) i = gsh h i := gsh_app hio2
      rw [show gct E (44 + h.2.length + h.1 + 1, (fun q k => if q = o then (0 : Int32) else I q k), R, ((h.1, h.2 ++ [n]) : gX)) i = gct E (44 + h.2.length + h.1, I, R, h) i by
        simp only [gct, hsh]
        cases gsh h i <;> simp [gfv, hio]]
      exact h1.kept (o1 _ (by show E.1 + i < E.1 + o; omega))
/-- cells that are counted and not made -/
theorem Wp.pad {I : Nat → Nat → Int32} {R : Nat → Nat → Option Nat} {h : gX} (j : Nat) (hE : 44 + h.2.length + h.1 + j ≤ nE) (kk : Wp E F nE pc L st (44 + h.2.length + (h.1 + j), I, R, (h.1 + j, h.2)) K) : Wp E F nE pc L st (44 + h.2.length + h.1, I, R, h) K := by
  intro p l e R0 s m args below meth c Q C n0 r1 r2 k2 H locs cells slots ls g
  have g4 : cells + n0 = 44 + h.2.length + h.1 := g.2.2.2.1
  have g5 : slots + gsl n0 = gsl (44 + h.2.length + h.1) := g.2.2.2.2.1
  have g6 : H.size + h.1 = E.1 + (44 + h.2.length + h.1) := g.1.1
  have hm : gsl (44 + h.2.length + h.1) ≤ gsl (44 + h.2.length + (h.1 + j)) := gsl_mono (by omega)
  refine W.widen (k := cells + j) (n := slots + (gsl (44 + h.2.length + (h.1 + j)) - gsl (44 + h.2.length + h.1))) (by omega) (by omega) ?_
  refine kk p l e R0 s m args below meth c Q C n0 r1 r2 k2 H locs _ _ ls ⟨⟨by show H.size + (h.1 + j) = E.1 + (44 + h.2.length + (h.1 + j)); omega, fun i hi => ?_⟩, g.2.1, g.2.2.1, by show cells + j + n0 = 44 + h.2.length + (h.1 + j); omega, by show slots + (gsl (44 + h.2.length + (h.1 + j)) - gsl (44 + h.2.length + h.1)) + gsl n0 = gsl (44 + h.2.length + (h.1 + j)); omega, by show 44 + h.2.length + (h.1 + j) ≤ nE; omega⟩
  have hi : i + (h.1 + j) < 44 + h.2.length + (h.1 + j) := hi
  exact g.1.2 i (by show i + h.1 < 44 + h.2.length + h.1; omega)
theorem g_iald {a n t : Nat} {i : Int32} (ha : a + σ.2.2.2.1 < σ.1) (h9 : a < 1000) (hsh : gsh σ.2.2.2 a = .inr (0, n)) (hin : vp_in i n) (d : decode F.2.1 pc = .ok (.iaload, 1)) (e : pc + 1 = t) (kk : Wp E F nE t L (.int (σ.2.1 a i.toNatClampNeg) :: st) σ K) : Wp E F nE pc L (.int i :: .ref a :: st) σ K := by
  subst e
  intro p l e R s m args below meth c Q C n0 r1 r2 k2 H locs cells slots ls g
  rw [show gcs E (.int i :: .ref a :: st) = .int i :: gcv E (.ref a) :: gcs E st from rfl, gcv_ref h9]
  exact va_iald C.1 C.2.1 C.2.2.2.2.2.1 (g.1.arr ha hsh) 0 0 rfl rfl hin d (kk p l e R s m args below meth c Q C n0 r1 r2 k2 H locs cells slots ls g)
theorem g_bald {a n t : Nat} {i : Int32} (ha : a + σ.2.2.2.1 < σ.1) (h9 : a < 1000) (hsh : gsh σ.2.2.2 a = .inr (1, n)) (hin : vp_in i n) (d : decode F.2.1 pc = .ok (.baload, 1)) (e : pc + 1 = t) (kk : Wp E F nE t L (.int (σ.2.1 a i.toNatClampNeg) :: st) σ K) : Wp E F nE pc L (.int i :: .ref a :: st) σ K := by
  subst e
  intro p l e R s m args below meth c Q C n0 r1 r2 k2 H locs cells slots ls g
  rw [show gcs E (.int i :: .ref a :: st) = .int i :: gcv E (.ref a) :: gcs E st from rfl, gcv_ref h9]
  exact va_bald C.1 C.2.1 C.2.2.2.2.2.1 (g.1.arr ha hsh) 0 1 rfl rfl hin d (kk p l e R s m args below meth c Q C n0 r1 r2 k2 H locs cells slots ls g)
theorem g_zald {a n t : Nat} {i : Int32} (ha : a + σ.2.2.2.1 < σ.1) (h9 : a < 1000) (hsh : gsh σ.2.2.2 a = .inr (2, n)) (hin : vp_in i n) (d : decode F.2.1 pc = .ok (.baload, 1)) (e : pc + 1 = t) (kk : Wp E F nE t L (.int (σ.2.1 a i.toNatClampNeg) :: st) σ K) : Wp E F nE pc L (.int i :: .ref a :: st) σ K := by
  subst e
  intro p l e R s m args below meth c Q C n0 r1 r2 k2 H locs cells slots ls g
  rw [show gcs E (.int i :: .ref a :: st) = .int i :: gcv E (.ref a) :: gcs E st from rfl, gcv_ref h9]
  exact va_zald C.1 C.2.1 C.2.2.2.2.2.1 (g.1.arr ha hsh) 0 2 rfl rfl hin d (kk p l e R s m args below meth c Q C n0 r1 r2 k2 H locs cells slots ls g)
theorem g_iast {a n t : Nat} {i x : Int32} (ha : a + σ.2.2.2.1 < σ.1) (h9 : a < 1000) (hsh : gsh σ.2.2.2 a = .inr (0, n)) (hin : vp_in i n) (d : decode F.2.1 pc = .ok (.iastore, 1)) (e : pc + 1 = t) (kk : Wp E F nE t L st (gset σ a i.toNatClampNeg x) K) : Wp E F nE pc L (.int x :: .int i :: .ref a :: st) σ K := by
  subst e
  intro p l e R s m args below meth c Q C n0 r1 r2 k2 H locs cells slots ls g
  rw [show gcs E (.int x :: .int i :: .ref a :: st) = .int x :: .int i :: gcv E (.ref a) :: gcs E st from rfl, gcv_ref h9]
  have hc := g.1.arr ha hsh 0 _ rfl
  refine W.iast C.1 C.2.1 hc ((C.2.2.2.2.2.1.2 0 _ rfl).1 n (fun j => .int (σ.2.1 a j))) (fun q => by cases q) (by show ¬ (i < 0 ∨ (arrV _ _ _).slots.size ≤ _); rw [arrV_size]; exact hin) rfl rfl d fun H1 e1 e2 e3 => ?_
  refine kk p l e R s m args below meth c Q C n0 r1 r2 k2 H1 _ cells slots ls ⟨g.1.set rfl rfl e2 e3 (fun j hj => gct_same (gup_rowo _ _ _ hj) rfl rfl) ?_, gS_put g.2.1 e2 e3, g.2.2⟩
  rw [show gct E (gset σ a i.toNatClampNeg x) a = .inl (E.2.2.1 0, n, .inl (gup σ.2.1 a i.toNatClampNeg x a)) by simp [gct, hsh]]
  show H1[E.1 + a]? = some (arrV (E.2.2.1 0) n (fun j => .int (gup σ.2.1 a i.toNatClampNeg x a j)))
  rw [e1]
  show some ((arrV (E.2.2.1 0) n (fun j => .int (σ.2.1 a j))).setSlot i.toNatClampNeg (.int x)) = _
  rw [arrV_store]
  congr 2
  funext q
  by_cases hq : q = i.toNatClampNeg
  · subst hq
    simp [updV, gup]
  · simp [updV, gup, hq]
theorem g_bast {a n t : Nat} {i x : Int32} (ha : a + σ.2.2.2.1 < σ.1) (h9 : a < 1000) (hsh : gsh σ.2.2.2 a = .inr (1, n)) (hin : vp_in i n) (hx : narrow .byte (.int x) = .int x) (d : decode F.2.1 pc = .ok (.bastore, 1)) (e : pc + 1 = t) (kk : Wp E F nE t L st (gset σ a i.toNatClampNeg x) K) : Wp E F nE pc L (.int x :: .int i :: .ref a :: st) σ K := by
  subst e
  intro p l e R s m args below meth c Q C n0 r1 r2 k2 H locs cells slots ls g
  rw [show gcs E (.int x :: .int i :: .ref a :: st) = .int x :: .int i :: gcv E (.ref a) :: gcs E st from rfl, gcv_ref h9]
  have hc := g.1.arr ha hsh 0 _ rfl
  refine W.bast C.1 C.2.1 hc ((C.2.2.2.2.2.1.2 1 _ rfl).1 n (fun j => .int (σ.2.1 a j))) (fun q => by cases q) (by show ¬ (i < 0 ∨ (arrV _ _ _).slots.size ≤ _); rw [arrV_size]; exact hin) rfl rfl d fun H1 e1 e2 e3 => ?_
  refine kk p l e R s m args below meth c Q C n0 r1 r2 k2 H1 _ cells slots ls ⟨g.1.set rfl rfl e2 e3 (fun j hj => gct_same (gup_rowo _ _ _ hj) rfl rfl) ?_, gS_put g.2.1 e2 e3, g.2.2⟩
  rw [show gct E (gset σ a i.toNatClampNeg x) a = .inl (E.2.2.1 1, n, .inl (gup σ.2.1 a i.toNatClampNeg x a)) by simp [gct, hsh]]
  show H1[E.1 + a]? = some (arrV (E.2.2.1 1) n (fun j => .int (gup σ.2.1 a i.toNatClampNeg x a j)))
  rw [e1]
  rw [hx]
  show some ((arrV (E.2.2.1 1) n (fun j => .int (σ.2.1 a j))).setSlot i.toNatClampNeg (.int x)) = _
  rw [arrV_store]
  congr 2
  funext q
  by_cases hq : q = i.toNatClampNeg
  · subst hq
    simp [updV, gup]
  · simp [updV, gup, hq]
theorem g_zast {a n t : Nat} {i x : Int32} (ha : a + σ.2.2.2.1 < σ.1) (h9 : a < 1000) (hsh : gsh σ.2.2.2 a = .inr (2, n)) (hin : vp_in i n) (hx : narrow .boolean (.int x) = .int x) (d : decode F.2.1 pc = .ok (.bastore, 1)) (e : pc + 1 = t) (kk : Wp E F nE t L st (gset σ a i.toNatClampNeg x) K) : Wp E F nE pc L (.int x :: .int i :: .ref a :: st) σ K := by
  subst e
  intro p l e R s m args below meth c Q C n0 r1 r2 k2 H locs cells slots ls g
  rw [show gcs E (.int x :: .int i :: .ref a :: st) = .int x :: .int i :: gcv E (.ref a) :: gcs E st from rfl, gcv_ref h9]
  have hc := g.1.arr ha hsh 0 _ rfl
  refine W.zast C.1 C.2.1 hc ((C.2.2.2.2.2.1.2 2 _ rfl).1 n (fun j => .int (σ.2.1 a j))) (fun q => by cases q) (by show ¬ (i < 0 ∨ (arrV _ _ _).slots.size ≤ _); rw [arrV_size]; exact hin) rfl rfl d fun H1 e1 e2 e3 => ?_
  refine kk p l e R s m args below meth c Q C n0 r1 r2 k2 H1 _ cells slots ls ⟨g.1.set rfl rfl e2 e3 (fun j hj => gct_same (gup_rowo _ _ _ hj) rfl rfl) ?_, gS_put g.2.1 e2 e3, g.2.2⟩
  rw [show gct E (gset σ a i.toNatClampNeg x) a = .inl (E.2.2.1 2, n, .inl (gup σ.2.1 a i.toNatClampNeg x a)) by simp [gct, hsh]]
  show H1[E.1 + a]? = some (arrV (E.2.2.1 2) n (fun j => .int (gup σ.2.1 a i.toNatClampNeg x a j)))
  rw [e1]
  rw [hx]
  show some ((arrV (E.2.2.1 2) n (fun j => .int (σ.2.1 a j))).setSlot i.toNatClampNeg (.int x)) = _
  rw [arrV_store]
  congr 2
  funext q
  by_cases hq : q = i.toNatClampNeg
  · subst hq
    simp [updV, gup]
  · simp [updV, gup, hq]
theorem g_alen {a n t : Nat} {kd : Nat} {v : Int32} (ha : a + σ.2.2.2.1 < σ.1) (h9 : a < 1000) (hkd : kd < 3) (hsh : gsh σ.2.2.2 a = .inr (kd, n)) (hv : Int32.ofNat n = v) (d : decode F.2.1 pc = .ok (.arraylength, 1)) (e : pc + 1 = t) (kk : Wp E F nE t L (.int v :: st) σ K) : Wp E F nE pc L (.ref a :: st) σ K := by
  subst e
  intro p l e R s m args below meth c Q C n0 r1 r2 k2 H locs cells slots ls g
  rw [show gcs E (.ref a :: st) = gcv E (.ref a) :: gcs E st from rfl, gcv_ref h9]
  have := kk p l e R s m args below meth c Q C n0 r1 r2 k2 H locs cells slots ls g
  rcases (show kd = 0 ∨ kd = 1 ∨ kd = 2 by omega) with rfl | rfl | rfl
  · exact va_alen C.1 C.2.1 C.2.2.2.2.2.1 (g.1.arr ha hsh) 0 0 rfl rfl hv d this
  · exact va_alen C.1 C.2.1 C.2.2.2.2.2.1 (g.1.arr ha hsh) 0 1 rfl rfl hv d this
  · exact va_alen C.1 C.2.1 C.2.2.2.2.2.1 (g.1.arr ha hsh) 0 2 rfl rfl hv d this
/-- the script -/
theorem g_sld {t : Nat} {i : Int32} (hin : vp_in i E.2.2.2.2.1) (d : decode F.2.1 pc = .ok (.iaload, 1)) (e : pc + 1 = t) (kk : Wp E F nE t L (.int (E.2.2.2.2.2 i.toNatClampNeg) :: st) σ K) : Wp E F nE pc L (.int i :: .ref 1000 :: st) σ K := by
  subst e
  intro p l e R s m args below meth c Q C n0 r1 r2 k2 H locs cells slots ls g
  obtain ⟨b, h1, h2⟩ := C.2.2.2.2.2.2.1.1
  rw [show gcs E (.int i :: .ref 1000 :: st) = .int i :: gcv E (.ref 1000) :: gcs E st from rfl, gcv_ro (Nat.lt_irrefl 1000) h1]
  exact va_ti C.1 C.2.1 h2 g.2.1 hin rfl d (kk p l e R s m args below meth c Q C n0 r1 r2 k2 H locs cells slots ls g)
theorem g_slen {t : Nat} (d : decode F.2.1 pc = .ok (.arraylength, 1)) (e : pc + 1 = t) (kk : Wp E F nE t L (.int (Int32.ofNat E.2.2.2.2.1) :: st) σ K) : Wp E F nE pc L (.ref 1000 :: st) σ K := by
  subst e
  intro p l e R s m args below meth c Q C n0 r1 r2 k2 H locs cells slots ls g
  obtain ⟨b, h1, h2⟩ := C.2.2.2.2.2.2.1.1
  rw [show gcs E (.ref 1000 :: st) = gcv E (.ref 1000) :: gcs E st from rfl, gcv_ro (Nat.lt_irrefl 1000) h1]
  exact va_tlen C.1 C.2.1 h2 g.2.1 rfl d (kk p l e R s m args below meth c Q C n0 r1 r2 k2 H locs cells slots ls g)
theorem gro_i {j : Nat} : ¬ 1001 + j < 1000 := by omega
theorem gro_j {j : Nat} : 1001 + j - 1000 = j + 1 := by omega
/-- a static table -/
theorem g_tld {t j r : Nat} {q : String × List Int32} {i : Int32} (hj : gst[j]? = some q) (hr : r = 1001 + j) (hin : vp_in i q.2.length) (d : decode F.2.1 pc = .ok (.iaload, 1)) (e : pc + 1 = t) (kk : Wp E F nE t L (.int (q.2.getD i.toNatClampNeg 0) :: st) σ K) : Wp E F nE pc L (.int i :: .ref r :: st) σ K := by
  subst e
  subst hr
  intro p l e R s m args below meth c Q C n0 r1 r2 k2 H locs cells slots ls g
  obtain ⟨b, h1, h2, -⟩ := C.2.2.2.2.2.2.1.2.1 j q hj
  rw [show gcs E (.int i :: .ref (1001 + j) :: st) = .int i :: gcv E (.ref (1001 + j)) :: gcs E st from rfl, gcv_ro gro_i (by rw [gro_j]; exact h1)]
  exact va_ti C.1 C.2.1 h2 g.2.1 hin rfl d (kk p l e R s m args below meth c Q C n0 r1 r2 k2 H locs cells slots ls g)
theorem g_gets {t j r index : Nat} {q : String × List Int32} (hj : gst[j]? = some q) (hr : r = 1001 + j) (hw : Cond.fieldLink F.1.cls index "FlexRows" q.1 "[I" ∈ gB) (d : decode F.2.1 pc = .ok (.getstatic index, 3)) (e : pc + 3 = t) (kk : Wp E F nE t L (.ref r :: st) σ K) : Wp E F nE pc L st σ K := by
  subst e
  subst hr
  intro p l e R s m args below meth c Q C n0 r1 r2 k2 H locs cells slots ls g
  obtain ⟨b, h1, -, h3⟩ := C.2.2.2.2.2.2.1.2.1 j q hj
  have := kk p l e R s m args below meth c Q C n0 r1 r2 k2 H locs cells slots ls g
  rw [show gcs E (.ref (1001 + j) :: st) = gcv E (.ref (1001 + j)) :: gcs E st from rfl, gcv_ro gro_i (by rw [gro_j]; exact h1)] at this
  exact va_gets C.1 C.2.1 h3 g.2.1 C.2.2.2.1 (C.2.2.2.2.1 _ hw) (fun x h => h) d this
theorem g_getsN {t j r index : Nat} {q : String × List Int32} (hj : gst[j]? = some q) (hr : r = 1001 + j) (hw : Cond.fieldLinkNest F.1.cls index "FlexRows" q.1 "[I" "FlexRows" ∈ gNst) (d : decode F.2.1 pc = .ok (.getstatic index, 3)) (e : pc + 3 = t) (kk : Wp E F nE t L (.ref r :: st) σ K) : Wp E F nE pc L st σ K := by
  subst e
  subst hr
  intro p l e R s m args below meth c Q C n0 r1 r2 k2 H locs cells slots ls g
  obtain ⟨b, h1, -, h3⟩ := C.2.2.2.2.2.2.1.2.1 j q hj
  have := kk p l e R s m args below meth c Q C n0 r1 r2 k2 H locs cells slots ls g
  rw [show gcs E (.ref (1001 + j) :: st) = gcv E (.ref (1001 + j)) :: gcs E st from rfl, gcv_ro gro_i (by rw [gro_j]; exact h1)] at this
  exact va_getsN C.1 C.2.1 h3 g.2.1 C.2.2.2.1 (va_Nw.use rfl (C.2.2.2.2.2.2.1.2.2.2.1 _ hw)) (fun x h => h) d this
/-- COMPACT_STRINGS and the formatter -/
theorem g_getsC {t index : Nat} (hw : Cond.fieldLink F.1.cls index "java/lang/String" "COMPACT_STRINGS" "Z" ∈ gB) (d : decode F.2.1 pc = .ok (.getstatic index, 3)) (e : pc + 3 = t) (kk : Wp E F nE t L (.int 1 :: st) σ K) : Wp E F nE pc L st σ K := by
  subst e
  intro p l e R s m args below meth c Q C n0 r1 r2 k2 H locs cells slots ls g
  exact va_gets C.1 C.2.1 C.2.2.2.2.2.2.1.2.2.2.2.1 g.2.1 C.2.2.2.1 (C.2.2.2.2.1 _ hw) (fun x h => h) d (kk p l e R s m args below meth c Q C n0 r1 r2 k2 H locs cells slots ls g)
theorem g_getsF {t index : Nat} (hw : Cond.fieldLink F.1.cls index "jdk/internal/util/Preconditions" "SIOOBE_FORMATTER" "Ljava/util/function/BiFunction;" ∈ gB) (d : decode F.2.1 pc = .ok (.getstatic index, 3)) (e : pc + 3 = t) (kk : Wp E F nE t L (.ref 1050 :: st) σ K) : Wp E F nE pc L st σ K := by
  subst e
  intro p l e R s m args below meth c Q C n0 r1 r2 k2 H locs cells slots ls g
  have := kk p l e R s m args below meth c Q C n0 r1 r2 k2 H locs cells slots ls g
  exact va_gets C.1 C.2.1 C.2.2.2.2.2.2.1.2.2.2.2.2 g.2.1 C.2.2.2.1 (C.2.2.2.2.1 _ hw) (fun x h => h) d this
/-- a text's word -/
theorem g_ldcS {t i r index : Nat} {q : Nat × String × List Int32} (hi : gtx[i]? = some q) (hr : r = 1010 + i) (hx : index = q.1) (hown : F.1.cls = "FlexRows$Text") (d : decode F.2.1 pc = .ok (.ldc index, 2)) (e : pc + 2 = t) (kk : Wp E F nE t L (.ref r :: st) σ K) : Wp E F nE pc L st σ K := by
  subst e
  subst hr
  subst hx
  intro p l e R s m args below meth c Q C n0 r1 r2 k2 H locs cells slots ls g
  obtain ⟨adK, adV, -, h2⟩ := C.2.2.2.2.2.2.1.2.2.1
  obtain ⟨h3, -, h5⟩ := h2 i q hi
  have := kk p l e R s m args below meth c Q C n0 r1 r2 k2 H locs cells slots ls g
  rw [show gcs E (.ref (1010 + i) :: st) = gcv E (.ref (1010 + i)) :: gcs E st from rfl, gcv_ro (by omega) (by rw [show 1010 + i - 1000 = 10 + i by omega]; exact h3)] at this
  have ho := C.2.2.2.1
  rw [hown] at ho
  exact va_ldcS C.1 C.2.1 ho h5 d this
theorem g_getSV {t i r r2 index : Nat} {q : Nat × String × List Int32} (hi : gtx[i]? = some q) (hr : r = 1010 + i) (hr2 : r2 = 1020 + i) (hw : Cond.fieldLink F.1.cls index "java/lang/String" "value" "[B" ∈ gB) (d : decode F.2.1 pc = .ok (.getfield index, 3)) (e : pc + 3 = t) (kk : Wp E F nE t L (.ref r2 :: st) σ K) : Wp E F nE pc L (.ref r :: st) σ K := by
  subst e
  subst hr
  subst hr2
  intro p l e R s m args below meth c Q C n0 r1 r2 k2 H locs cells slots ls g
  obtain ⟨adK, adV, h1, h2⟩ := C.2.2.2.2.2.2.1.2.2.1
  obtain ⟨h3, h4, h5⟩ := h2 i q hi
  have hlt : i < gtx.length := (List.getElem?_eq_some_iff.mp hi).1
  have := kk p l e R s m args below meth c Q C n0 r1 r2 k2 H locs cells slots ls g
  rw [show gcs E (.ref (1020 + i) :: st) = gcv E (.ref (1020 + i)) :: gcs E st from rfl, gcv_ro (by omega) (by rw [show 1020 + i - 1000 = 20 + i by omega]; exact h4)] at this
  rw [show gcs E (.ref (1010 + i) :: st) = gcv E (.ref (1010 + i)) :: gcs E st from rfl, gcv_ro (by omega) (by rw [show 1010 + i - 1000 = 10 + i by omega]; exact h3)]
  exact vk_getf C.1 C.2.1 (h1.1 i hlt).2.2.1 g.2.1 C.2.2.2.1 (C.2.2.2.2.1 _ hw) (fun x h => h) d this
theorem g_getSC {t i r index : Nat} {q : Nat × String × List Int32} (hi : gtx[i]? = some q) (hr : r = 1010 + i) (hw : Cond.fieldLink F.1.cls index "java/lang/String" "coder" "B" ∈ gB) (d : decode F.2.1 pc = .ok (.getfield index, 3)) (e : pc + 3 = t) (kk : Wp E F nE t L (.int 0 :: st) σ K) : Wp E F nE pc L (.ref r :: st) σ K := by
  subst e
  subst hr
  intro p l e R s m args below meth c Q C n0 r1 r2 k2 H locs cells slots ls g
  obtain ⟨adK, adV, h1, h2⟩ := C.2.2.2.2.2.2.1.2.2.1
  obtain ⟨h3, h4, h5⟩ := h2 i q hi
  have hlt : i < gtx.length := (List.getElem?_eq_some_iff.mp hi).1
  have := kk p l e R s m args below meth c Q C n0 r1 r2 k2 H locs cells slots ls g
  rw [show gcs E (.ref (1010 + i) :: st) = gcv E (.ref (1010 + i)) :: gcs E st from rfl, gcv_ro (by omega) (by rw [show 1010 + i - 1000 = 10 + i by omega]; exact h3)]
  exact vk_getf C.1 C.2.1 (h1.1 i hlt).2.1 g.2.1 C.2.2.2.1 (C.2.2.2.2.1 _ hw) (fun x h => h) d this
theorem gtx_T {s : State} {H : Heap} {i : Nat} {q : Nat × String × List Int32} (h : gRO E (gA E) s H) (hi : gtx[i]? = some q) : ∃ b, E.2.2.2.1 (20 + i) = some b ∧ va_T .byte b q.2.2.length (fun j => .int (q.2.2.getD j 0)) (gA E) s H := by
  obtain ⟨adK, adV, h1, h2⟩ := h.2.2.1
  obtain ⟨h3, h4, h5⟩ := h2 i q hi
  have hlt : i < gtx.length := (List.getElem?_eq_some_iff.mp hi).1
  refine ⟨_, h4, ?_⟩
  have h6 := (h1.1 i hlt).2.2.2
  rw [show (gtx.map (fun q => q.2.2.length)).getD i 0 = q.2.2.length by simp [List.getD_eq_getElem?_getD, hi], show (gtx.map (fun q => q.2.2)).getD i [] = q.2.2 by simp [List.getD_eq_getElem?_getD, hi]] at h6
  exact h6
theorem g_sbld {t r i : Nat} {q : Nat × String × List Int32} {j : Int32} (hi : gtx[i]? = some q) (hr : r = 1020 + i) (hin : vp_in j q.2.2.length) (d : decode F.2.1 pc = .ok (.baload, 1)) (e : pc + 1 = t) (kk : Wp E F nE t L (.int (q.2.2.getD j.toNatClampNeg 0) :: st) σ K) : Wp E F nE pc L (.int j :: .ref r :: st) σ K := by
  subst e
  subst hr
  intro p l e R s m args below meth c Q C n0 r1 r2 k2 H locs cells slots ls g
  obtain ⟨b, h1, h2⟩ := gtx_T C.2.2.2.2.2.2.1 hi
  rw [show gcs E (.int j :: .ref (1020 + i) :: st) = .int j :: gcv E (.ref (1020 + i)) :: gcs E st from rfl, gcv_ro (by omega) (by rw [show 1020 + i - 1000 = 20 + i by omega]; exact h1)]
  exact va_tb C.1 C.2.1 h2 g.2.1 hin rfl d (kk p l e R s m args below meth c Q C n0 r1 r2 k2 H locs cells slots ls g)
theorem g_sblen {t r i : Nat} {q : Nat × String × List Int32} (hi : gtx[i]? = some q) (hr : r = 1020 + i) (d : decode F.2.1 pc = .ok (.arraylength, 1)) (e : pc + 1 = t) (kk : Wp E F nE t L (.int (Int32.ofNat q.2.2.length) :: st) σ K) : Wp E F nE pc L (.ref r :: st) σ K := by
  subst e
  subst hr
  intro p l e R s m args below meth c Q C n0 r1 r2 k2 H locs cells slots ls g
  obtain ⟨b, h1, h2⟩ := gtx_T C.2.2.2.2.2.2.1 hi
  rw [show gcs E (.ref (1020 + i) :: st) = gcv E (.ref (1020 + i)) :: gcs E st from rfl, gcv_ro (by omega) (by rw [show 1020 + i - 1000 = 20 + i by omega]; exact h1)]
  exact va_tlen C.1 C.2.1 h2 g.2.1 rfl d (kk p l e R s m args below meth c Q C n0 r1 r2 k2 H locs cells slots ls g)
end GH2
