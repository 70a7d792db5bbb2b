/-! THE CALCULUS: one abstract heap for all cells that the law makes (cell i lies at base + i, in the order of making); Wp: from here the machine comes to a place with K. -/
abbrev gF : Type := MethodName × ByteArray × Nat × Option FieldType × Nat × Nat
abbrev gE : Type := Nat × va_G × (Nat → ClassId) × (Nat → Option Nat) × Nat × (Nat → Int32)
/-- what lies behind the first cells: cells that are counted and not made, the lengths of the rows of ints made there -/
abbrev gX : Type := Nat × List Nat
abbrev gS : Type := Nat × (Nat → Nat → Int32) × (Nat → Nat → Option Nat) × gX
def gB : List Cond := lw_tbl.filter goodWord
theorem gB_mem {k : Nat} {w : Cond} (h : lw_tbl[k]? = some w) (g : goodWord w = true) : w ∈ gB := List.mem_filter.mpr ⟨List.mem_of_getElem? h, g⟩
theorem gB_tbl {w : Cond} (h : w ∈ gB) : w ∈ lw_tbl := (List.mem_filter.mp h).1
theorem gB_good {w : Cond} (h : w ∈ gB) : goodWord w = true := (List.mem_filter.mp h).2
def gA (E : gE) : Nat → Prop := fun q => E.1 ≤ q
def gcv (E : gE) (v : Value) : Value := match v with
  | .ref i => if i < 1000 then .ref (E.1 + i) else va_rf (E.2.2.2.1 (i - 1000))
  | v => v
abbrev gcs (E : gE) (st : List Value) : List Value := st.map (gcv E)
theorem gcv_ref {E : gE} {i : Nat} (h : i < 1000) : gcv E (.ref i) = .ref (E.1 + i) := by simp [gcv, h]
theorem gcv_ro {E : gE} {i b : Nat} (h : ¬ i < 1000) (hb : E.2.2.2.1 (i - 1000) = some b) : gcv E (.ref i) = .ref b := by simp [gcv, h, hb, va_rf]
theorem gcv_cat (E : gE) (v : Value) : (gcv E v).category = v.category := by
  cases v <;> try rfl
  rename_i i
  show (if i < 1000 then Value.ref (E.1 + i) else va_rf (E.2.2.2.1 (i - 1000))).category = 1
  split
  · rfl
  · cases E.2.2.2.1 (i - 1000) <;> rfl
theorem gcs_cat (E : gE) (st : List Value) : ((gcs E st).map fun v => v.category) = st.map fun v => v.category := by
  induction st with
  | nil => rfl
  | cons v t ih =>
    show (gcv E v).category :: ((gcs E t).map fun v => v.category) = v.category :: (t.map fun v => v.category)
    rw [gcv_cat, ih]
/-- the shape of each cell: an object of a class, or an array of a kind (0 int, 1 byte, 2 boolean) and a length -/
def gsh (h : gX) (i : Nat) : Nat ⊕ (Nat × Nat) := gshL.getD i (.inr (0, h.2.getD (i - 44) 0))
def gfk (ci k : Nat) : Nat := (gfkL.getD ci []).getD k 0
def gN (ci : Nat) : Nat := (gfkL.getD ci []).length
def gsz (i : Nat) : Nat := match gshL.getD i (.inr (0, 48)) with
  | .inl ci => gN ci
  | .inr q => q.2
def gsl : Nat → Nat
  | 0 => 0
  | n + 1 => gsl n + gsz n
theorem gsl_mono {a b : Nat} (h : a ≤ b) : gsl a ≤ gsl b := by
  induction b with
  | zero => rw [Nat.le_zero.mp h]; exact Nat.le_refl _
  | succ b ih =>
    rcases Nat.lt_or_ge b a with q | q
    · rw [show a = b + 1 by omega]; exact Nat.le_refl _
    · exact Nat.le_trans (ih q) (Nat.le_add_right _ _)
def gty (kd : Nat) : FieldType := match kd with
  | 0 => .int
  | 1 => .byte
  | _ => .boolean
abbrev gTys (E : gE) : List (ClassId × FieldType) := [(E.2.2.1 0, .int), (E.2.2.1 1, .byte), (E.2.2.1 2, .boolean)]
def gfv (E : gE) (σ : gS) (i ci k : Nat) : Value := match gfk ci k with
  | 0 => .int (σ.2.1 i k)
  | 1 => va_rf ((σ.2.2.1 i k).map (fun r => E.1 + r))
  | _ => .long 0
def gct (E : gE) (σ : gS) (i : Nat) : va_E := match gsh σ.2.2.2 i with
  | .inl ci => .inr (ci, (List.range (gN ci)).map (fun k => gfv E σ i ci k))
  | .inr q => .inl (E.2.2.1 q.1, q.2, .inl (σ.2.1 i))
def gInv (E : gE) (σ : gS) (H : Heap) : Prop := H.size + σ.2.2.2.1 = E.1 + σ.1 ∧ ∀ i, i + σ.2.2.2.1 < σ.1 → va_at E.2.1 vwCl (E.1 + i, gct E σ i) H
/-- what is read alone: the script (1000), the static tables (1001 ..), the words' texts (1010 .., their bytes 1020 ..), a formatter that nobody asks (1050) -/
def gRO (E : gE) (A : Nat → Prop) (U : State) (H : Heap) : Prop :=
  (∃ b, E.2.2.2.1 0 = some b ∧ va_T .int b E.2.2.2.2.1 (fun j => .int (E.2.2.2.2.2 j)) A U H) ∧
  (∀ (j : Nat) (q : String × List Int32), gst[j]? = some q → ∃ t, E.2.2.2.1 (j + 1) = some t ∧ va_T .int t q.2.length (fun k => .int (q.2.getD k 0)) A U H ∧ va_Z "FlexRows" q.1 "[I" (.ref t) A U H) ∧
  (∃ adK adV : Nat → Nat, vk_S gtx.length (gtx.map (fun q => q.2.2.length)) (gtx.map (fun q => q.2.2)) adK adV A U H ∧ ∀ (i : Nat) (q : Nat × String × List Int32), gtx[i]? = some q → E.2.2.2.1 (10 + i) = some (adK i) ∧ E.2.2.2.1 (20 + i) = some (adV i) ∧ vk_R "FlexRows$Text" q.1 q.2.1 (adK i) U) ∧
  (∀ w ∈ gNst, va_Nw w U) ∧ va_Z "java/lang/String" "COMPACT_STRINGS" "Z" (.int 1) A U H ∧
  va_Z "jdk/internal/util/Preconditions" "SIOOBE_FORMATTER" "Ljava/util/function/BiFunction;" (va_rf (E.2.2.2.1 50)) A U H
theorem gRO.to {E : gE} {A : Nat → Prop} {s U : State} {H : Heap} (hr : ∀ own k tx a, vk_R own k tx a s → vk_R own k tx a U) (hn : ∀ w ∈ gNst, va_Nw w s → va_Nw w U) (hvm : s.vm.Alike U.vm) (hq : ∀ a : Nat, a < s.heap.size → ¬ A a → H[a]? = s.heap[a]?) (h : gRO E A s s.heap) : gRO E A U H := by
  obtain ⟨⟨b, h1, h2⟩, h3, ⟨adK, adV, h4, h5⟩, h8, h6, h7⟩ := h
  refine ⟨⟨b, h1, (h2.kept hq).moved hvm⟩, fun j q hj => ?_, ⟨adK, adV, (h4.kept hq).moved hvm, fun i q hi => ?_⟩, fun w hw => hn w hw (h8 w hw), (h6.kept hq).moved hvm, (h7.kept hq).moved hvm⟩
  · obtain ⟨t, a1, a2, a3⟩ := h3 j q hj
    exact ⟨t, a1, (a2.kept hq).moved hvm, (a3.kept hq).moved hvm⟩
  · obtain ⟨a1, a2, a3⟩ := h5 i q hi
    exact ⟨a1, a2, hr _ _ _ _ a3⟩
def gRoOk (r : Nat) : Bool := decide (r = 1000) || (decide (1001 ≤ r) && decide (r < 1001 + gst.length)) || (decide (1010 ≤ r) && decide (r < 1010 + gtx.length)) || (decide (1020 ≤ r) && decide (r < 1020 + gtx.length))
theorem gRO.ok {E : gE} {A : Nat → Prop} {U : State} {H : Heap} (h : gRO E A U H) {r : Nat} (hr : gRoOk r = true) : ∃ b, E.2.2.2.1 (r - 1000) = some b := by
  obtain ⟨⟨b, h1, -⟩, h3, ⟨adK, adV, -, h5⟩, -⟩ := h
  simp only [gRoOk, Bool.or_eq_true, Bool.and_eq_true, decide_eq_true_eq] at hr
  rcases hr with ((rfl | ⟨q1, q2⟩) | ⟨q1, q2⟩) | ⟨q1, q2⟩
  · exact ⟨b, h1⟩
  · have hl : r - 1001 < gst.length := by omega
    obtain ⟨t, z, -⟩ := h3 (r - 1001) _ (List.getElem?_eq_getElem hl)
    exact ⟨t, by rw [show r - 1000 = r - 1001 + 1 by omega]; exact z⟩
  · have hl : r - 1010 < gtx.length := by omega
    obtain ⟨z, -, -⟩ := h5 (r - 1010) _ (List.getElem?_eq_getElem hl)
    exact ⟨_, by rw [show r - 1000 = 10 + (r - 1010) by omega]; exact z⟩
  · have hl : r - 1020 < gtx.length := by omega
    obtain ⟨-, z, -⟩ := h5 (r - 1020) _ (List.getElem?_eq_getElem hl)
    exact ⟨_, by rw [show r - 1000 = 20 + (r - 1020) by omega]; exact z⟩
/-- the locals by their places; .null: nothing is said -/
def gLs (E : gE) (ls : Array Slot) (nL : Nat) (L : List Value) : Prop := ls.size = nL ∧ lv_wf ls ∧ ∀ (i : Nat) (v : Value), L[i]? = some v → v ≠ .null → ls[i]? = some (.val (gcv E v))
def gC (E : gE) (F : gF) (p : Program) (R : Room) (s : State) (m : MethodId) (args : Array Value) (meth : Method) (c : Code) : Prop :=
  p.tables.exec = Jvm.exec ∧ c.code = F.2.1 ∧ c.maxLocals = F.2.2.1 ∧ s.vm.findClass F.1.cls = some m.cls ∧ (∀ w ∈ gB, w.before args s = true) ∧ va_K E.2.1 vwCl (gTys E) s ∧ gRO E (gA E) s s.heap ∧ E.1 ≤ s.heap.size ∧ F.2.2.2.2.1 ≤ R.frames ∧ F.2.2.2.2.2 ≤ R.locals ∧ (F.1.name = "<init>" → meth.name = "<init>")
def gR (E : gE) (F : gF) (nE n0 : Nat) (s : State) (L : List Value) (σ : gS) (H : Heap) (locs : List Loc) (cells slots : Nat) (ls : Array Slot) : Prop :=
  gInv E σ H ∧ va_S (gA E) s.heap H locs ∧ gLs E ls F.2.2.1 L ∧ cells + n0 = σ.1 ∧ slots + gsl n0 = gsl σ.1 ∧ σ.1 ≤ nE
abbrev gK : Type := Nat → List Value → List Value → gS → Prop
def Wp (E : gE) (F : gF) (nE : Nat) (pc : Nat) (L st : List Value) (σ : gS) (K : gK) : Prop :=
  ∀ (p : Program) (l : Launch) (e : Env) (R : Room) (s : State) (m : MethodId) (args : Array Value) (below : List Frame) (meth : Method) (c : Code) (Q : State → Prop), gC E F p R s m args meth c → ∀ n0 : Nat, nE ≤ R.cells + n0 → gsl nE ≤ R.slots + gsl n0 →
    (∀ (pc' : Nat) (L' st' : List Value) (σ' : gS) (H' : Heap) (locs' : List Loc) (cells' slots' : Nat) (ls' : Array Slot), K pc' L' st' σ' → gR E F nE n0 s L' σ' H' locs' cells' slots' ls' → W p l e R s m args below meth c H' locs' cells' slots' Q (F0 m pc' ls' (gcs E st'))) →
    ∀ (H : Heap) (locs : List Loc) (cells slots : Nat) (ls : Array Slot), gR E F nE n0 s L σ H locs cells slots ls → W p l e R s m args below meth c H locs cells slots Q (F0 m pc ls (gcs E st))
section GO
variable {E : gE} {F : gF} {nE pc : Nat} {L st : List Value} {σ : gS} {K : gK}
theorem Wp.here (h : K pc L st σ) : Wp E F nE pc L st σ K := fun _ _ _ _ _ _ _ _ _ _ _ _ _ _ _ kk H locs cells slots ls g => kk _ _ _ _ _ _ _ _ _ h g
theorem Wp.bind {K2 : gK} (h : Wp E F nE pc L st σ K2) (k : ∀ pc' L' st' σ', K2 pc' L' st' σ' → Wp E F nE pc' L' st' σ' K) : Wp E F nE pc L st σ K :=
  fun p l e R s m args below meth c Q C n0 r1 r2 kk H locs cells slots ls g => h p l e R s m args below meth c Q C n0 r1 r2 (fun pc' L' st' σ' H' locs' cells' slots' ls' hk g' => k pc' L' st' σ' hk p l e R s m args below meth c Q C n0 r1 r2 kk H' locs' cells' slots' ls' g') H locs cells slots ls g
/-- by way of one place -/
theorem Wp.via (pc1 : Nat) (L1 st1 : List Value) (σ1 : gS) (h : Wp E F nE pc L st σ (fun a b c d => a = pc1 ∧ b = L1 ∧ c = st1 ∧ d = σ1)) (k : Wp E F nE pc1 L1 st1 σ1 K) : Wp E F nE pc L st σ K :=
  h.bind fun _ _ _ _ q => by obtain ⟨rfl, rfl, rfl, rfl⟩ := q; exact k
theorem Wp.at_ {pc1 : Nat} {L1 st1 : List Value} {σ1 : gS} (h1 : pc = pc1) (h2 : L = L1) (h3 : st = st1) (h4 : σ = σ1) : Wp E F nE pc L st σ (fun a b c d => a = pc1 ∧ b = L1 ∧ c = st1 ∧ d = σ1) := Wp.here ⟨h1, h2, h3, h4⟩
theorem Wp.mono {K2 : gK} (h : Wp E F nE pc L st σ K2) (k : ∀ pc' L' st' σ', K2 pc' L' st' σ' → K pc' L' st' σ') : Wp E F nE pc L st σ K := h.bind fun _ _ _ _ q => Wp.here (k _ _ _ _ q)
theorem Wp.eq {pc1 : Nat} {L1 st1 : List Value} {σ1 : gS} (h1 : pc = pc1) (h2 : L = L1) (h3 : st = st1) (h4 : σ = σ1) (k : Wp E F nE pc1 L1 st1 σ1 K) : Wp E F nE pc L st σ K := by subst h1 h2 h3 h4; exact k
/-- forget locals -/
theorem Wp.drop (L1 : List Value) (h : ∀ (i : Nat) (v : Value), L1[i]? = some v → v ≠ .null → L[i]? = some v) (k : Wp E F nE pc L1 st σ K) : Wp E F nE pc L st σ K :=
  fun p l e R s m args below meth c Q C n0 r1 r2 kk H locs cells slots ls g => k p l e R s m args below meth c Q C n0 r1 r2 kk H locs cells slots ls ⟨g.1, g.2.1, ⟨g.2.2.1.1, g.2.2.1.2.1, fun i v h1 h2 => g.2.2.1.2.2 i v (h i v h1 h2) h2⟩, g.2.2.2⟩
/-- L1 is L with some places forgotten -/
def gdropOk : List Value → List Value → Bool
  | [], _ => true
  | .null :: t, _ :: t2 => gdropOk t t2
  | .null :: t, [] => gdropOk t []
  | _ :: _, [] => false
  | v :: t, v2 :: t2 => decide (v = v2) && gdropOk t t2

theorem g_iadd {t : Nat} {x y : Int32} (d : decode F.2.1 pc = .ok (.iadd, 1)) (e : pc + 1 = t) (k : Wp E F nE t L (.int (x + y) :: st) σ K) : Wp E F nE pc L (.int y :: .int x :: st) σ K := by
  subst e
  intro p l e R s m args below meth c Q C n0 r1 r2 kk H locs cells slots ls g
  exact lv_iadd C.1 C.2.1 d (k p l e R s m args below meth c Q C n0 r1 r2 kk H locs cells slots ls g)
theorem g_isub {t : Nat} {x y : Int32} (d : decode F.2.1 pc = .ok (.isub, 1)) (e : pc + 1 = t) (k : Wp E F nE t L (.int (x - y) :: st) σ K) : Wp E F nE pc L (.int y :: .int x :: st) σ K := by
  subst e
  intro p l e R s m args below meth c Q C n0 r1 r2 kk H locs cells slots ls g
  exact lv_isub C.1 C.2.1 d (k p l e R s m args below meth c Q C n0 r1 r2 kk H locs cells slots ls g)
theorem g_imul {t : Nat} {x y : Int32} (d : decode F.2.1 pc = .ok (.imul, 1)) (e : pc + 1 = t) (k : Wp E F nE t L (.int (x * y) :: st) σ K) : Wp E F nE pc L (.int y :: .int x :: st) σ K := by
  subst e
  intro p l e R s m args below meth c Q C n0 r1 r2 kk H locs cells slots ls g
  exact lv_imul C.1 C.2.1 d (k p l e R s m args below meth c Q C n0 r1 r2 kk H locs cells slots ls g)
theorem g_iand {t : Nat} {x y : Int32} (d : decode F.2.1 pc = .ok (.iand, 1)) (e : pc + 1 = t) (k : Wp E F nE t L (.int (x &&& y) :: st) σ K) : Wp E F nE pc L (.int y :: .int x :: st) σ K := by
  subst e
  intro p l e R s m args below meth c Q C n0 r1 r2 kk H locs cells slots ls g
  exact lv_iand C.1 C.2.1 d (k p l e R s m args below meth c Q C n0 r1 r2 kk H locs cells slots ls g)
theorem g_ior {t : Nat} {x y : Int32} (d : decode F.2.1 pc = .ok (.ior, 1)) (e : pc + 1 = t) (k : Wp E F nE t L (.int (x ||| y) :: st) σ K) : Wp E F nE pc L (.int y :: .int x :: st) σ K := by
  subst e
  intro p l e R s m args below meth c Q C n0 r1 r2 kk H locs cells slots ls g
  exact lv_ior C.1 C.2.1 d (k p l e R s m args below meth c Q C n0 r1 r2 kk H locs cells slots ls g)
theorem g_ixor {t : Nat} {x y : Int32} (d : decode F.2.1 pc = .ok (.ixor, 1)) (e : pc + 1 = t) (k : Wp E F nE t L (.int (x ^^^ y) :: st) σ K) : Wp E F nE pc L (.int y :: .int x :: st) σ K := by
  subst e
  intro p l e R s m args below meth c Q C n0 r1 r2 kk H locs cells slots ls g
  exact lv_ixor C.1 C.2.1 d (k p l e R s m args below meth c Q C n0 r1 r2 kk H locs cells slots ls g)
theorem g_ishl {t : Nat} {x y : Int32} (d : decode F.2.1 pc = .ok (.ishl, 1)) (e : pc + 1 = t) (k : Wp E F nE t L (.int (x <<< (y &&& 31)) :: st) σ K) : Wp E F nE pc L (.int y :: .int x :: st) σ K := by
  subst e
  intro p l e R s m args below meth c Q C n0 r1 r2 kk H locs cells slots ls g
  exact lv_ishl C.1 C.2.1 d (k p l e R s m args below meth c Q C n0 r1 r2 kk H locs cells slots ls g)
theorem g_ishr {t : Nat} {x y : Int32} (d : decode F.2.1 pc = .ok (.ishr, 1)) (e : pc + 1 = t) (k : Wp E F nE t L (.int (x >>> (y &&& 31)) :: st) σ K) : Wp E F nE pc L (.int y :: .int x :: st) σ K := by
  subst e
  intro p l e R s m args below meth c Q C n0 r1 r2 kk H locs cells slots ls g
  exact lv_ishr C.1 C.2.1 d (k p l e R s m args below meth c Q C n0 r1 r2 kk H locs cells slots ls g)
theorem g_idiv {t : Nat} {x y : Int32} (d : decode F.2.1 pc = .ok (.idiv, 1)) (hne : ¬ y = 0) (e : pc + 1 = t) (k : Wp E F nE t L (.int (x / y) :: st) σ K) : Wp E F nE pc L (.int y :: .int x :: st) σ K := by
  subst e
  intro p l e R s m args below meth c Q C n0 r1 r2 kk H locs cells slots ls g
  exact lv_idiv C.1 C.2.1 d hne (k p l e R s m args below meth c Q C n0 r1 r2 kk H locs cells slots ls g)
theorem g_irem {t : Nat} {x y : Int32} (d : decode F.2.1 pc = .ok (.irem, 1)) (hne : ¬ y = 0) (e : pc + 1 = t) (k : Wp E F nE t L (.int (x - x / y * y) :: st) σ K) : Wp E F nE pc L (.int y :: .int x :: st) σ K := by
  subst e
  intro p l e R s m args below meth c Q C n0 r1 r2 kk H locs cells slots ls g
  exact lv_irem C.1 C.2.1 d hne (k p l e R s m args below meth c Q C n0 r1 r2 kk H locs cells slots ls g)
theorem g_ineg {t : Nat} {x : Int32} (d : decode F.2.1 pc = .ok (.ineg, 1)) (e : pc + 1 = t) (k : Wp E F nE t L (.int (-x) :: st) σ K) : Wp E F nE pc L (.int x :: st) σ K := by
  subst e
  intro p l e R s m args below meth c Q C n0 r1 r2 kk H locs cells slots ls g
  exact lv_ineg C.1 C.2.1 d (k p l e R s m args below meth c Q C n0 r1 r2 kk H locs cells slots ls g)
theorem g_ladd {t : Nat} {x y : Int64} (d : decode F.2.1 pc = .ok (.ladd, 1)) (e : pc + 1 = t) (k : Wp E F nE t L (.long (x + y) :: st) σ K) : Wp E F nE pc L (.long y :: .long x :: st) σ K := by
  subst e
  intro p l e R s m args below meth c Q C n0 r1 r2 kk H locs cells slots ls g
  exact lv_ladd C.1 C.2.1 d (k p l e R s m args below meth c Q C n0 r1 r2 kk H locs cells slots ls g)
theorem g_lmul {t : Nat} {x y : Int64} (d : decode F.2.1 pc = .ok (.lmul, 1)) (e : pc + 1 = t) (k : Wp E F nE t L (.long (x * y) :: st) σ K) : Wp E F nE pc L (.long y :: .long x :: st) σ K := by
  subst e
  intro p l e R s m args below meth c Q C n0 r1 r2 kk H locs cells slots ls g
  exact lv_lmul C.1 C.2.1 d (k p l e R s m args below meth c Q C n0 r1 r2 kk H locs cells slots ls g)
theorem g_land {t : Nat} {x y : Int64} (d : decode F.2.1 pc = .ok (.land, 1)) (e : pc + 1 = t) (k : Wp E F nE t L (.long (x &&& y) :: st) σ K) : Wp E F nE pc L (.long y :: .long x :: st) σ K := by
  subst e
  intro p l e R s m args below meth c Q C n0 r1 r2 kk H locs cells slots ls g
  exact lv_land C.1 C.2.1 d (k p l e R s m args below meth c Q C n0 r1 r2 kk H locs cells slots ls g)
theorem g_lshr {t : Nat} {x : Int64} {y : Int32} (d : decode F.2.1 pc = .ok (.lshr, 1)) (e : pc + 1 = t) (k : Wp E F nE t L (.long (x >>> (y.toInt64 &&& 63)) :: st) σ K) : Wp E F nE pc L (.int y :: .long x :: st) σ K := by
  subst e
  intro p l e R s m args below meth c Q C n0 r1 r2 kk H locs cells slots ls g
  exact lv_lshr C.1 C.2.1 d rfl (k p l e R s m args below meth c Q C n0 r1 r2 kk H locs cells slots ls g)
theorem g_i2l {t : Nat} {x : Int32} (d : decode F.2.1 pc = .ok (.i2l, 1)) (e : pc + 1 = t) (k : Wp E F nE t L (.long x.toInt64 :: st) σ K) : Wp E F nE pc L (.int x :: st) σ K := by
  subst e
  intro p l e R s m args below meth c Q C n0 r1 r2 kk H locs cells slots ls g
  exact lv_i2l C.1 C.2.1 d rfl (k p l e R s m args below meth c Q C n0 r1 r2 kk H locs cells slots ls g)
theorem g_l2i {t : Nat} {x : Int64} (d : decode F.2.1 pc = .ok (.l2i, 1)) (e : pc + 1 = t) (k : Wp E F nE t L (.int x.toInt32 :: st) σ K) : Wp E F nE pc L (.long x :: st) σ K := by
  subst e
  intro p l e R s m args below meth c Q C n0 r1 r2 kk H locs cells slots ls g
  exact lv_l2i C.1 C.2.1 d rfl (k p l e R s m args below meth c Q C n0 r1 r2 kk H locs cells slots ls g)
theorem g_i2b {t : Nat} {x : Int32} (d : decode F.2.1 pc = .ok (.i2b, 1)) (e : pc + 1 = t) (k : Wp E F nE t L (.int x.toInt8.toInt32 :: st) σ K) : Wp E F nE pc L (.int x :: st) σ K := by
  subst e
  intro p l e R s m args below meth c Q C n0 r1 r2 kk H locs cells slots ls g
  exact lv_i2b C.1 C.2.1 d rfl (k p l e R s m args below meth c Q C n0 r1 r2 kk H locs cells slots ls g)
theorem g_i2c {t : Nat} {x : Int32} (d : decode F.2.1 pc = .ok (.i2c, 1)) (e : pc + 1 = t) (k : Wp E F nE t L (.int (x.toUInt32 % 65536).toInt32 :: st) σ K) : Wp E F nE pc L (.int x :: st) σ K := by
  subst e
  intro p l e R s m args below meth c Q C n0 r1 r2 kk H locs cells slots ls g
  exact lv_i2c C.1 C.2.1 d rfl (k p l e R s m args below meth c Q C n0 r1 r2 kk H locs cells slots ls g)
theorem g_iconst {t : Nat} {n : Int} {v : Int32} (d : decode F.2.1 pc = .ok (.iconst n, 1)) (hv : Int32.ofInt n = v) (e : pc + 1 = t) (k : Wp E F nE t L (.int v :: st) σ K) : Wp E F nE pc L (st) σ K := by
  subst e
  intro p l e R s m args below meth c Q C n0 r1 r2 kk H locs cells slots ls g
  exact lv_iconst C.1 C.2.1 d hv (k p l e R s m args below meth c Q C n0 r1 r2 kk H locs cells slots ls g)
theorem g_bipush {t : Nat} {n : Int} {v : Int32} (d : decode F.2.1 pc = .ok (.bipush n, 2)) (hv : (Int8.ofInt n).toInt32 = v) (e : pc + 2 = t) (k : Wp E F nE t L (.int v :: st) σ K) : Wp E F nE pc L (st) σ K := by
  subst e
  intro p l e R s m args below meth c Q C n0 r1 r2 kk H locs cells slots ls g
  exact lv_bipush C.1 C.2.1 d hv (k p l e R s m args below meth c Q C n0 r1 r2 kk H locs cells slots ls g)
theorem g_sipush {t : Nat} {n : Int} {v : Int32} (d : decode F.2.1 pc = .ok (.sipush n, 3)) (hv : (Int16.ofInt n).toInt32 = v) (e : pc + 3 = t) (k : Wp E F nE t L (.int v :: st) σ K) : Wp E F nE pc L (st) σ K := by
  subst e
  intro p l e R s m args below meth c Q C n0 r1 r2 kk H locs cells slots ls g
  exact lv_sipush C.1 C.2.1 d hv (k p l e R s m args below meth c Q C n0 r1 r2 kk H locs cells slots ls g)
theorem g_dup {t : Nat} {va : Value} (d : decode F.2.1 pc = .ok (.dup, 1)) (hva : va.category = 1) (e : pc + 1 = t) (k : Wp E F nE t L (va :: va :: st) σ K) : Wp E F nE pc L (va :: st) σ K := by
  subst e
  intro p l e R s m args below meth c Q C n0 r1 r2 kk H locs cells slots ls g
  exact lv_dup C.1 C.2.1 d (by rw [gcv_cat]; exact hva) (k p l e R s m args below meth c Q C n0 r1 r2 kk H locs cells slots ls g)
theorem g_pop {t : Nat} {va : Value} (d : decode F.2.1 pc = .ok (.pop, 1)) (hva : va.category = 1) (e : pc + 1 = t) (k : Wp E F nE t L (st) σ K) : Wp E F nE pc L (va :: st) σ K := by
  subst e
  intro p l e R s m args below meth c Q C n0 r1 r2 kk H locs cells slots ls g
  exact lv_pop C.1 C.2.1 d (by rw [gcv_cat]; exact hva) (k p l e R s m args below meth c Q C n0 r1 r2 kk H locs cells slots ls g)
theorem g_dup2 {t : Nat} {va vb : Value} (d : decode F.2.1 pc = .ok (.dup2, 1)) (hva : va.category = 1) (hvb : vb.category = 1) (e : pc + 1 = t) (k : Wp E F nE t L (va :: vb :: va :: vb :: st) σ K) : Wp E F nE pc L (va :: vb :: st) σ K := by
  subst e
  intro p l e R s m args below meth c Q C n0 r1 r2 kk H locs cells slots ls g
  exact lv_dup2_11 C.1 C.2.1 d (by rw [gcv_cat]; exact hva) (by rw [gcv_cat]; exact hvb) (k p l e R s m args below meth c Q C n0 r1 r2 kk H locs cells slots ls g)
theorem g_if_eq {t1 t2 : Nat} {off : Int} {x : Int32} (d : decode F.2.1 pc = .ok (.ifCond .eq off, 3)) (ht : (pc : Int) + off = (t1 : Int)) (e : pc + 3 = t2) (kt : x = 0 → Wp E F nE t1 L st σ K) (kf : ¬ x = 0 → Wp E F nE t2 L st σ K) : Wp E F nE pc L (.int x :: st) σ K := by
  subst e
  intro p l e R s m args below meth c Q C n0 r1 r2 kk H locs cells slots ls g
  exact lv_if_eq C.1 C.2.1 d ht (fun h => kt h p l e R s m args below meth c Q C n0 r1 r2 kk H locs cells slots ls g) (fun h => kf h p l e R s m args below meth c Q C n0 r1 r2 kk H locs cells slots ls g)
theorem g_icmp_eq {t1 t2 : Nat} {off : Int} {x y : Int32} (d : decode F.2.1 pc = .ok (.if_icmp .eq off, 3)) (ht : (pc : Int) + off = (t1 : Int)) (e : pc + 3 = t2) (kt : x = y → Wp E F nE t1 L st σ K) (kf : ¬ x = y → Wp E F nE t2 L st σ K) : Wp E F nE pc L (.int y :: .int x :: st) σ K := by
  subst e
  intro p l e R s m args below meth c Q C n0 r1 r2 kk H locs cells slots ls g
  exact lv_icmp_eq C.1 C.2.1 d ht (fun h => kt h p l e R s m args below meth c Q C n0 r1 r2 kk H locs cells slots ls g) (fun h => kf h p l e R s m args below meth c Q C n0 r1 r2 kk H locs cells slots ls g)
theorem g_if_ne {t1 t2 : Nat} {off : Int} {x : Int32} (d : decode F.2.1 pc = .ok (.ifCond .ne off, 3)) (ht : (pc : Int) + off = (t1 : Int)) (e : pc + 3 = t2) (kt : ¬ x = 0 → Wp E F nE t1 L st σ K) (kf : x = 0 → Wp E F nE t2 L st σ K) : Wp E F nE pc L (.int x :: st) σ K := by
  subst e
  intro p l e R s m args below meth c Q C n0 r1 r2 kk H locs cells slots ls g
  exact lv_if_ne C.1 C.2.1 d ht (fun h => kt h p l e R s m args below meth c Q C n0 r1 r2 kk H locs cells slots ls g) (fun h => kf h p l e R s m args below meth c Q C n0 r1 r2 kk H locs cells slots ls g)
theorem g_icmp_ne {t1 t2 : Nat} {off : Int} {x y : Int32} (d : decode F.2.1 pc = .ok (.if_icmp .ne off, 3)) (ht : (pc : Int) + off = (t1 : Int)) (e : pc + 3 = t2) (kt : ¬ x = y → Wp E F nE t1 L st σ K) (kf : x = y → Wp E F nE t2 L st σ K) : Wp E F nE pc L (.int y :: .int x :: st) σ K := by
  subst e
  intro p l e R s m args below meth c Q C n0 r1 r2 kk H locs cells slots ls g
  exact lv_icmp_ne C.1 C.2.1 d ht (fun h => kt h p l e R s m args below meth c Q C n0 r1 r2 kk H locs cells slots ls g) (fun h => kf h p l e R s m args below meth c Q C n0 r1 r2 kk H locs cells slots ls g)
theorem g_if_lt {t1 t2 : Nat} {off : Int} {x : Int32} (d : decode F.2.1 pc = .ok (.ifCond .lt off, 3)) (ht : (pc : Int) + off = (t1 : Int)) (e : pc + 3 = t2) (kt : x < 0 → Wp E F nE t1 L st σ K) (kf : ¬ x < 0 → Wp E F nE t2 L st σ K) : Wp E F nE pc L (.int x :: st) σ K := by
  subst e
  intro p l e R s m args below meth c Q C n0 r1 r2 kk H locs cells slots ls g
  exact lv_if_lt C.1 C.2.1 d ht (fun h => kt h p l e R s m args below meth c Q C n0 r1 r2 kk H locs cells slots ls g) (fun h => kf h p l e R s m args below meth c Q C n0 r1 r2 kk H locs cells slots ls g)
theorem g_icmp_lt {t1 t2 : Nat} {off : Int} {x y : Int32} (d : decode F.2.1 pc = .ok (.if_icmp .lt off, 3)) (ht : (pc : Int) + off = (t1 : Int)) (e : pc + 3 = t2) (kt : x < y → Wp E F nE t1 L st σ K) (kf : ¬ x < y → Wp E F nE t2 L st σ K) : Wp E F nE pc L (.int y :: .int x :: st) σ K := by
  subst e
  intro p l e R s m args below meth c Q C n0 r1 r2 kk H locs cells slots ls g
  exact lv_icmp_lt C.1 C.2.1 d ht (fun h => kt h p l e R s m args below meth c Q C n0 r1 r2 kk H locs cells slots ls g) (fun h => kf h p l e R s m args below meth c Q C n0 r1 r2 kk H locs cells slots ls g)
theorem g_if_ge {t1 t2 : Nat} {off : Int} {x : Int32} (d : decode F.2.1 pc = .ok (.ifCond .ge off, 3)) (ht : (pc : Int) + off = (t1 : Int)) (e : pc + 3 = t2) (kt : 0 ≤ x → Wp E F nE t1 L st σ K) (kf : ¬ 0 ≤ x → Wp E F nE t2 L st σ K) : Wp E F nE pc L (.int x :: st) σ K := by
  subst e
  intro p l e R s m args below meth c Q C n0 r1 r2 kk H locs cells slots ls g
  exact lv_if_ge C.1 C.2.1 d ht (fun h => kt h p l e R s m args below meth c Q C n0 r1 r2 kk H locs cells slots ls g) (fun h => kf h p l e R s m args below meth c Q C n0 r1 r2 kk H locs cells slots ls g)
theorem g_icmp_ge {t1 t2 : Nat} {off : Int} {x y : Int32} (d : decode F.2.1 pc = .ok (.if_icmp .ge off, 3)) (ht : (pc : Int) + off = (t1 : Int)) (e : pc + 3 = t2) (kt : y ≤ x → Wp E F nE t1 L st σ K) (kf : ¬ y ≤ x → Wp E F nE t2 L st σ K) : Wp E F nE pc L (.int y :: .int x :: st) σ K := by
  subst e
  intro p l e R s m args below meth c Q C n0 r1 r2 kk H locs cells slots ls g
  exact lv_icmp_ge C.1 C.2.1 d ht (fun h => kt h p l e R s m args below meth c Q C n0 r1 r2 kk H locs cells slots ls g) (fun h => kf h p l e R s m args below meth c Q C n0 r1 r2 kk H locs cells slots ls g)
theorem g_if_gt {t1 t2 : Nat} {off : Int} {x : Int32} (d : decode F.2.1 pc = .ok (.ifCond .gt off, 3)) (ht : (pc : Int) + off = (t1 : Int)) (e : pc + 3 = t2) (kt : 0 < x → Wp E F nE t1 L st σ K) (kf : ¬ 0 < x → Wp E F nE t2 L st σ K) : Wp E F nE pc L (.int x :: st) σ K := by
  subst e
  intro p l e R s m args below meth c Q C n0 r1 r2 kk H locs cells slots ls g
  exact lv_if_gt C.1 C.2.1 d ht (fun h => kt h p l e R s m args below meth c Q C n0 r1 r2 kk H locs cells slots ls g) (fun h => kf h p l e R s m args below meth c Q C n0 r1 r2 kk H locs cells slots ls g)
theorem g_icmp_gt {t1 t2 : Nat} {off : Int} {x y : Int32} (d : decode F.2.1 pc = .ok (.if_icmp .gt off, 3)) (ht : (pc : Int) + off = (t1 : Int)) (e : pc + 3 = t2) (kt : y < x → Wp E F nE t1 L st σ K) (kf : ¬ y < x → Wp E F nE t2 L st σ K) : Wp E F nE pc L (.int y :: .int x :: st) σ K := by
  subst e
  intro p l e R s m args below meth c Q C n0 r1 r2 kk H locs cells slots ls g
  exact lv_icmp_gt C.1 C.2.1 d ht (fun h => kt h p l e R s m args below meth c Q C n0 r1 r2 kk H locs cells slots ls g) (fun h => kf h p l e R s m args below meth c Q C n0 r1 r2 kk H locs cells slots ls g)
theorem g_if_le {t1 t2 : Nat} {off : Int} {x : Int32} (d : decode F.2.1 pc = .ok (.ifCond .le off, 3)) (ht : (pc : Int) + off = (t1 : Int)) (e : pc + 3 = t2) (kt : x ≤ 0 → Wp E F nE t1 L st σ K) (kf : ¬ x ≤ 0 → Wp E F nE t2 L st σ K) : Wp E F nE pc L (.int x :: st) σ K := by
  subst e
  intro p l e R s m args below meth c Q C n0 r1 r2 kk H locs cells slots ls g
  exact lv_if_le C.1 C.2.1 d ht (fun h => kt h p l e R s m args below meth c Q C n0 r1 r2 kk H locs cells slots ls g) (fun h => kf h p l e R s m args below meth c Q C n0 r1 r2 kk H locs cells slots ls g)
theorem g_icmp_le {t1 t2 : Nat} {off : Int} {x y : Int32} (d : decode F.2.1 pc = .ok (.if_icmp .le off, 3)) (ht : (pc : Int) + off = (t1 : Int)) (e : pc + 3 = t2) (kt : x ≤ y → Wp E F nE t1 L st σ K) (kf : ¬ x ≤ y → Wp E F nE t2 L st σ K) : Wp E F nE pc L (.int y :: .int x :: st) σ K := by
  subst e
  intro p l e R s m args below meth c Q C n0 r1 r2 kk H locs cells slots ls g
  exact lv_icmp_le C.1 C.2.1 d ht (fun h => kt h p l e R s m args below meth c Q C n0 r1 r2 kk H locs cells slots ls g) (fun h => kf h p l e R s m args below meth c Q C n0 r1 r2 kk H locs cells slots ls g)
theorem g_goto {t : Nat} {off : Int} (d : decode F.2.1 pc = .ok (.goto off, 3)) (ht : (pc : Int) + off = (t : Int)) (k : Wp E F nE t L st σ K) : Wp E F nE pc L st σ K := by
  intro p l e R s m args below meth c Q C n0 r1 r2 kk H locs cells slots ls g
  exact lv_goto C.1 C.2.1 d ht (k p l e R s m args below meth c Q C n0 r1 r2 kk H locs cells slots ls g)
theorem g_switchOut {dflt lo hi : Int} {offs : Array Int} {len : Nat} {x : Int32} {t : Nat} (d : decode F.2.1 pc = .ok (.tableswitch dflt lo hi offs, len)) (h : x.toInt < lo ∨ hi < x.toInt) (ht : (pc : Int) + dflt = (t : Int)) (k : Wp E F nE t L st σ K) : Wp E F nE pc L (.int x :: st) σ K := by
  intro p l e R s m args below meth c Q C n0 r1 r2 kk H locs cells slots ls g
  exact lv_tableOut C.1 C.2.1 d h ht (k p l e R s m args below meth c Q C n0 r1 r2 kk H locs cells slots ls g)
theorem g_switchIn {dflt lo hi : Int} {offs : Array Int} {len : Nat} {x : Int32} {off : Int} {t : Nat} (d : decode F.2.1 pc = .ok (.tableswitch dflt lo hi offs, len)) (h1 : ¬ x.toInt < lo) (h2 : ¬ hi < x.toInt) (ho : offs[(x.toInt - lo).toNat]? = some off) (ht : (pc : Int) + off = (t : Int)) (k : Wp E F nE t L st σ K) : Wp E F nE pc L (.int x :: st) σ K := by
  intro p l e R s m args below meth c Q C n0 r1 r2 kk H locs cells slots ls g
  exact lv_tableIn C.1 C.2.1 d h1 h2 ho ht (k p l e R s m args below meth c Q C n0 r1 r2 kk H locs cells slots ls g)
theorem g_ldc2 {index : Nat} {v : Int64} {t : Nat} (hw : Cond.constantLong F.1.cls index v ∈ gB) (d : decode F.2.1 pc = .ok (.ldc2_w index, 3)) (e : pc + 3 = t) (k : Wp E F nE t L (.long v :: st) σ K) : Wp E F nE pc L st σ K := by
  subst e
  intro p l e R s m args below meth c Q C n0 r1 r2 kk H locs cells slots ls g
  exact lv_ldc2 C.1 C.2.1 C.2.2.2.1 (C.2.2.2.2.1 _ hw) d (k p l e R s m args below meth c Q C n0 r1 r2 kk H locs cells slots ls g)
theorem g_ldcI {index : Nat} {v : Int32} {t : Nat} (hw : Cond.constant F.1.cls index v ∈ gB) (d : decode F.2.1 pc = .ok (.ldc index, 2)) (e : pc + 2 = t) (k : Wp E F nE t L (.int v :: st) σ K) : Wp E F nE pc L st σ K := by
  subst e
  intro p l e R s m args below meth c Q C n0 r1 r2 kk H locs cells slots ls g
  exact lv_ldc C.1 C.2.1 C.2.2.2.1 (C.2.2.2.2.1 _ hw) d (k p l e R s m args below meth c Q C n0 r1 r2 kk H locs cells slots ls g)
theorem g_lcmp {x y : Int64} {t : Nat} {v : Int32} (d : decode F.2.1 pc = .ok (.lcmp, 1)) (hv : lg_cmp x y = v) (e : pc + 1 = t) (k : Wp E F nE t L (.int v :: st) σ K) : Wp E F nE pc L (.long y :: .long x :: st) σ K := by
  subst e
  subst hv
  intro p l e R s m args below meth c Q C n0 r1 r2 kk H locs cells slots ls g
  exact W.lcmp C.1 C.2.1 d (k p l e R s m args below meth c Q C n0 r1 r2 kk H locs cells slots ls g)

theorem gLs.get {ls : Array Slot} {nL i : Nat} {v : Value} (h : gLs E ls nL L) (hi : L[i]? = some v) (hv : v ≠ .null) : ls[i]? = some (.val (gcv E v)) := h.2.2 i v hi hv
theorem g_iload_n {k0 : Fin 4} {i t : Nat} {x : Int32} (d : decode F.2.1 pc = .ok (.iload_n k0, 1)) (hi : (k0 : Nat) = i) (h : L[i]? = some (.int x)) (e : pc + 1 = t) (k : Wp E F nE t L (.int x :: st) σ K) : Wp E F nE pc L st σ K := by
  subst e
  intro p l e R s m args below meth c Q C n0 r1 r2 kk H locs cells slots ls g
  exact lv_iload_n C.1 C.2.1 d hi (g.2.2.1.get h (by intro q; cases q)) (k p l e R s m args below meth c Q C n0 r1 r2 kk H locs cells slots ls g)
theorem g_iload {i t : Nat} {x : Int32} (d : decode F.2.1 pc = .ok (.iload i, 2)) (h : L[i]? = some (.int x)) (e : pc + 2 = t) (k : Wp E F nE t L (.int x :: st) σ K) : Wp E F nE pc L st σ K := by
  subst e
  intro p l e R s m args below meth c Q C n0 r1 r2 kk H locs cells slots ls g
  exact lv_iload C.1 C.2.1 d (g.2.2.1.get h (by intro q; cases q)) (k p l e R s m args below meth c Q C n0 r1 r2 kk H locs cells slots ls g)
theorem g_lload_n {k0 : Fin 4} {i t : Nat} {x : Int64} (d : decode F.2.1 pc = .ok (.lload_n k0, 1)) (hi : (k0 : Nat) = i) (h : L[i]? = some (.long x)) (e : pc + 1 = t) (k : Wp E F nE t L (.long x :: st) σ K) : Wp E F nE pc L st σ K := by
  subst e
  intro p l e R s m args below meth c Q C n0 r1 r2 kk H locs cells slots ls g
  exact lv_lload_n C.1 C.2.1 d hi (g.2.2.1.get h (by intro q; cases q)) (k p l e R s m args below meth c Q C n0 r1 r2 kk H locs cells slots ls g)
theorem g_lload {i t : Nat} {x : Int64} (d : decode F.2.1 pc = .ok (.lload i, 2)) (h : L[i]? = some (.long x)) (e : pc + 2 = t) (k : Wp E F nE t L (.long x :: st) σ K) : Wp E F nE pc L st σ K := by
  subst e
  intro p l e R s m args below meth c Q C n0 r1 r2 kk H locs cells slots ls g
  exact lv_lload C.1 C.2.1 d (g.2.2.1.get h (by intro q; cases q)) (k p l e R s m args below meth c Q C n0 r1 r2 kk H locs cells slots ls g)
theorem g_aload_n {k0 : Fin 4} {i t r : Nat} (d : decode F.2.1 pc = .ok (.aload_n k0, 1)) (hi : (k0 : Nat) = i) (h : L[i]? = some (.ref r)) (hr : r < 1000 ∨ gRoOk r = true) (e : pc + 1 = t) (k : Wp E F nE t L (.ref r :: st) σ K) : Wp E F nE pc L st σ K := by
  subst e
  intro p l e R s m args below meth c Q C n0 r1 r2 kk H locs cells slots ls g
  have h1 := g.2.2.1.get h (by intro q; cases q)
  have h2 := k p l e R s m args below meth c Q C n0 r1 r2 kk H locs cells slots ls g
  have h3 : ∃ b, gcv E (.ref r) = .ref b := by
    by_cases q : r < 1000
    · exact ⟨_, gcv_ref q⟩
    · obtain ⟨b, hb⟩ := gRO.ok C.2.2.2.2.2.2.1 (hr.resolve_left q)
      exact ⟨_, gcv_ro q hb⟩
  obtain ⟨b, hb⟩ := h3
  rw [show gcs E (.ref r :: st) = gcv E (.ref r) :: gcs E st from rfl, hb] at h2
  rw [hb] at h1
  exact lv_aload_n C.1 C.2.1 d hi h1 h2
theorem g_aload {i t r : Nat} (d : decode F.2.1 pc = .ok (.aload i, 2)) (h : L[i]? = some (.ref r)) (hr : r < 1000 ∨ gRoOk r = true) (e : pc + 2 = t) (k : Wp E F nE t L (.ref r :: st) σ K) : Wp E F nE pc L st σ K := by
  subst e
  intro p l e R s m args below meth c Q C n0 r1 r2 kk H locs cells slots ls g
  have h1 := g.2.2.1.get h (by intro q; cases q)
  have h2 := k p l e R s m args below meth c Q C n0 r1 r2 kk H locs cells slots ls g
  have h3 : ∃ b, gcv E (.ref r) = .ref b := by
    by_cases q : r < 1000
    · exact ⟨_, gcv_ref q⟩
    · obtain ⟨b, hb⟩ := gRO.ok C.2.2.2.2.2.2.1 (hr.resolve_left q)
      exact ⟨_, gcv_ro q hb⟩
  obtain ⟨b, hb⟩ := h3
  rw [show gcs E (.ref r :: st) = gcv E (.ref r) :: gcs E st from rfl, hb] at h2
  rw [hb] at h1
  exact lv_aload C.1 C.2.1 d h1 h2
/-- the locals as the kit has them -/
def gprs (E : gE) (L : List Value) : List (Nat × Value) := (List.range L.length).filterMap (fun i => match L[i]? with
  | some v => if v = .null then none else some (i, gcv E v)
  | none => none)
theorem gLs.prs {ls : Array Slot} {nL : Nat} (h : gLs E ls nL L) : lv_has ls nL (gprs E L) := by
  refine ⟨h.1, h.2.1, fun q hq => ?_⟩
  obtain ⟨i, -, hi⟩ := List.mem_filterMap.mp hq
  cases hL : L[i]? with
  | none => simp [hL] at hi
  | some v =>
    simp only [hL] at hi
    split at hi
    · cases hi
    · rename_i hv
      cases hi
      exact h.2.2 i v hL hv
theorem gprs_mem {i : Nat} {v : Value} (h : L[i]? = some v) (hv : v ≠ .null) : (i, gcv E v) ∈ gprs E L := by
  refine List.mem_filterMap.mpr ⟨i, List.mem_range.mpr (List.getElem?_eq_some_iff.mp h).1, ?_⟩
  simp [h, hv]
/-- no long ends at i - 1 -/
def gok (L : List Value) (i : Nat) : Bool := match i with
  | 0 => true
  | k + 1 => match L[k]? with
    | some v => decide (v.category = 1)
    | none => true
theorem gok_spec {i j : Nat} {v : Value} (h : gok L i = true) (hj : L[j]? = some v) (he : j + 1 = i) : v.category = 1 := by
  subst he
  simpa [gok, hj] using h
theorem gLs.put1 {ls ls' : Array Slot} {nL i : Nat} {v : Value} (hv : v.category = 1) (hok : gok L i = true) (h : lv_has ls' nL ((i, gcv E v) :: (gprs E L).filter (fun q => !(q.1 == i) && !(q.1 + 1 == i && q.2.category == 2)))) : gLs E ls' nL (L.set i v) := by
  refine ⟨h.1, h.2.1, fun j w hj hw => ?_⟩
  by_cases hji : j = i
  · subst hji
    rw [List.getElem?_set_self (by
      rcases Nat.lt_or_ge j L.length with q | q
      · exact q
      · rw [List.set_eq_of_length_le q, List.getElem?_eq_none q] at hj; cases hj)] at hj
    cases hj
    exact h.2.2 (j, gcv E v) List.mem_cons_self
  · rw [List.getElem?_set_ne (Ne.symm hji)] at hj
    refine h.2.2 (j, gcv E w) (List.mem_cons_of_mem _ (List.mem_filter.mpr ⟨gprs_mem hj hw, ?_⟩))
    by_cases q : j + 1 = i
    · have hc := gok_spec hok hj q
      simp [hji, gcv_cat, hc]
    · simp [hji, q]
theorem gLs.put2 {ls ls' : Array Slot} {nL i : Nat} {v : Value} (hok : gok L i = true) (h : lv_has ls' nL ((i, gcv E v) :: (gprs E L).filter (fun q => !(q.1 == i) && (!(q.1 == i + 1) && !(q.1 + 1 == i && q.2.category == 2))))) : gLs E ls' nL ((L.set i v).set (i + 1) .null) := by
  refine ⟨h.1, h.2.1, fun j w hj hw => ?_⟩
  by_cases hj1 : j = i + 1
  · subst hj1
    rcases Nat.lt_or_ge (i + 1) (L.set i v).length with q | q
    · rw [List.getElem?_set_self q] at hj
      cases hj
      exact absurd rfl hw
    · rw [List.set_eq_of_length_le q, List.getElem?_eq_none q] at hj; cases hj
  rw [List.getElem?_set_ne (Ne.symm hj1)] at hj
  by_cases hji : j = i
  · subst hji
    rw [List.getElem?_set_self (by
      rcases Nat.lt_or_ge j L.length with q | q
      · exact q
      · rw [List.set_eq_of_length_le q, List.getElem?_eq_none q] at hj; cases hj)] at hj
    cases hj
    exact h.2.2 (j, gcv E v) List.mem_cons_self
  · rw [List.getElem?_set_ne (Ne.symm hji)] at hj
    refine h.2.2 (j, gcv E w) (List.mem_cons_of_mem _ (List.mem_filter.mpr ⟨gprs_mem hj hw, ?_⟩))
    by_cases q : j + 1 = i
    · have hc := gok_spec hok hj q
      simp [hji, gcv_cat, hc, hj1]
    · simp [hji, q, hj1]
theorem gR.put {nE n0 : Nat} {s : State} {H : Heap} {locs : List Loc} {cells slots : Nat} {ls ls' : Array Slot} {L' : List Value} (g : gR E F nE n0 s L σ H locs cells slots ls) (h : gLs E ls' F.2.2.1 L') : gR E F nE n0 s L' σ H locs cells slots ls' := ⟨g.1, g.2.1, h, g.2.2.2⟩

theorem g_istore_n {k0 : Fin 4} {i t : Nat} {x : Int32} {L1 : List Value} (d : decode F.2.1 pc = .ok (.istore_n k0, 1)) (hi : (k0 : Nat) = i) (hn : i < F.2.2.1) (hok : gok L i = true) (hL : L.set i (.int x) = L1) (e : pc + 1 = t) (k : Wp E F nE t L1 st σ K) : Wp E F nE pc L (.int x :: st) σ K := by
  subst e
  subst hL
  intro p l e R s m args below meth c Q C n0 r1 r2 kk H locs cells slots ls g
  exact lv_istore_n C.1 C.2.1 d hi g.2.2.1.prs hn rfl (fun ls' h2 => k p l e R s m args below meth c Q C n0 r1 r2 kk H locs cells slots ls' (g.put (gLs.put1 (ls := ls) (v := .int x) rfl hok h2)))
theorem g_istore {i t : Nat} {x : Int32} {L1 : List Value} (d : decode F.2.1 pc = .ok (.istore i, 2)) (hn : i < F.2.2.1) (hok : gok L i = true) (hL : L.set i (.int x) = L1) (e : pc + 2 = t) (k : Wp E F nE t L1 st σ K) : Wp E F nE pc L (.int x :: st) σ K := by
  subst e
  subst hL
  intro p l e R s m args below meth c Q C n0 r1 r2 kk H locs cells slots ls g
  exact lv_istore C.1 C.2.1 d g.2.2.1.prs hn rfl (fun ls' h2 => k p l e R s m args below meth c Q C n0 r1 r2 kk H locs cells slots ls' (g.put (gLs.put1 (ls := ls) (v := .int x) rfl hok h2)))
theorem g_lstore_n {k0 : Fin 4} {i t : Nat} {x : Int64} {L1 : List Value} (d : decode F.2.1 pc = .ok (.lstore_n k0, 1)) (hi : (k0 : Nat) = i) (hn : i + 1 < F.2.2.1) (hok : gok L i = true) (hL : (L.set i (.long x)).set (i + 1) .null = L1) (e : pc + 1 = t) (k : Wp E F nE t L1 st σ K) : Wp E F nE pc L (.long x :: st) σ K := by
  subst e
  subst hL
  intro p l e R s m args below meth c Q C n0 r1 r2 kk H locs cells slots ls g
  exact lv_lstore_n C.1 C.2.1 d hi g.2.2.1.prs hn rfl (fun ls' h2 => k p l e R s m args below meth c Q C n0 r1 r2 kk H locs cells slots ls' (g.put (gLs.put2 (ls := ls) (v := .long x) hok h2)))
theorem g_lstore {i t : Nat} {x : Int64} {L1 : List Value} (d : decode F.2.1 pc = .ok (.lstore i, 2)) (hn : i + 1 < F.2.2.1) (hok : gok L i = true) (hL : (L.set i (.long x)).set (i + 1) .null = L1) (e : pc + 2 = t) (k : Wp E F nE t L1 st σ K) : Wp E F nE pc L (.long x :: st) σ K := by
  subst e
  subst hL
  intro p l e R s m args below meth c Q C n0 r1 r2 kk H locs cells slots ls g
  exact lv_lstore C.1 C.2.1 d g.2.2.1.prs hn rfl (fun ls' h2 => k p l e R s m args below meth c Q C n0 r1 r2 kk H locs cells slots ls' (g.put (gLs.put2 (ls := ls) (v := .long x) hok h2)))
theorem g_iinc {i t : Nat} {n : Int} {x v : Int32} {L1 : List Value} (d : decode F.2.1 pc = .ok (.iinc i n, 3)) (h : L[i]? = some (.int x)) (hv : x + Int32.ofInt n = v) (hn : i < F.2.2.1) (hok : gok L i = true) (hL : L.set i (.int v) = L1) (e : pc + 3 = t) (k : Wp E F nE t L1 st σ K) : Wp E F nE pc L st σ K := by
  subst e
  subst hL
  intro p l e R s m args below meth c Q C n0 r1 r2 kk H locs cells slots ls g
  obtain ⟨z, hz⟩ := List.getElem?_of_mem (gprs_mem (E := E) h (by intro q; cases q))
  exact lv_iinc C.1 C.2.1 d g.2.2.1.prs hz hv hn rfl (fun ls' h2 => k p l e R s m args below meth c Q C n0 r1 r2 kk H locs cells slots ls' (g.put (gLs.put1 (ls := ls) (v := .int v) rfl hok h2)))
theorem g_astore_n {k0 : Fin 4} {i t r : Nat} {L1 : List Value} (d : decode F.2.1 pc = .ok (.astore_n k0, 1)) (hi : (k0 : Nat) = i) (hr : r < 1000) (hn : i < F.2.2.1) (hok : gok L i = true) (hL : L.set i (.ref r) = L1) (e : pc + 1 = t) (k : Wp E F nE t L1 st σ K) : Wp E F nE pc L (.ref r :: st) σ K := by
  subst e
  subst hL
  intro p l e R s m args below meth c Q C n0 r1 r2 kk H locs cells slots ls g
  rw [show gcs E (.ref r :: st) = gcv E (.ref r) :: gcs E st from rfl, gcv_ref hr]
  exact lv_astore_n C.1 C.2.1 d hi g.2.2.1.prs hn rfl (fun ls' h2 => k p l e R s m args below meth c Q C n0 r1 r2 kk H locs cells slots ls' (g.put (gLs.put1 (ls := ls) (v := .ref r) rfl hok (by rw [gcv_ref hr]; exact h2))))
theorem g_astore {i t r : Nat} {L1 : List Value} (d : decode F.2.1 pc = .ok (.astore i, 2)) (hr : r < 1000) (hn : i < F.2.2.1) (hok : gok L i = true) (hL : L.set i (.ref r) = L1) (e : pc + 2 = t) (k : Wp E F nE t L1 st σ K) : Wp E F nE pc L (.ref r :: st) σ K := by
  subst e
  subst hL
  intro p l e R s m args below meth c Q C n0 r1 r2 kk H locs cells slots ls g
  rw [show gcs E (.ref r :: st) = gcv E (.ref r) :: gcs E st from rfl, gcv_ref hr]
  exact lv_astore C.1 C.2.1 d g.2.2.1.prs hn rfl (fun ls' h2 => k p l e R s m args below meth c Q C n0 r1 r2 kk H locs cells slots ls' (g.put (gLs.put1 (ls := ls) (v := .ref r) rfl hok (by rw [gcv_ref hr]; exact h2))))
end GO

