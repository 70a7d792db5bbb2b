/-! what is typed is read -/
/-- letters that stand at a place -/
def std (T : tT) (j : Nat) (l : List Nat) : Prop := j + l.length ≤ T.1 ∧ ∀ i, i < l.length → T.2 (j + i) = nI (l.getD i 0)
theorem std.at_ {T : tT} {j i : Nat} {l : List Nat} (h : std T j l) (hi : i < l.length) : byt T (j + i) = nI (l.getD i 0) := by
  unfold byt
  rw [if_pos (by have := h.1; omega)]
  exact h.2 i hi
theorem std.l {T : tT} {j : Nat} {l m : List Nat} (h : std T j (l ++ m)) : std T j l := by
  obtain ⟨h1, h2⟩ := h
  rw [List.length_append] at h1
  refine ⟨by omega, fun i hi => ?_⟩
  rw [h2 i (by rw [List.length_append]; omega), List.getD_eq_getElem?_getD, List.getElem?_append_left hi, ← List.getD_eq_getElem?_getD]
theorem std.r {T : tT} {j : Nat} {l m : List Nat} (h : std T j (l ++ m)) : std T (j + l.length) m := by
  obtain ⟨h1, h2⟩ := h
  rw [List.length_append] at h1
  refine ⟨by omega, fun i hi => ?_⟩
  have := h2 (l.length + i) (by rw [List.length_append]; omega)
  rw [← Nat.add_assoc] at this
  rw [this, List.getD_eq_getElem?_getD, List.getElem?_append_right (by omega), Nat.add_sub_cancel_left, ← List.getD_eq_getElem?_getD]
theorem std_app {T : tT} {j : Nat} {l m : List Nat} (h : std T j l) (h2 : std T (j + l.length) m) : std T j (l ++ m) := by
  refine ⟨by rw [List.length_append]; have := h2.1; omega, fun i hi => ?_⟩
  rw [List.length_append] at hi
  by_cases q : i < l.length
  · rw [h.2 i q, List.getD_eq_getElem?_getD, List.getD_eq_getElem?_getD, List.getElem?_append_left q]
  · have := h2.2 (i - l.length) (by omega)
    rw [show j + l.length + (i - l.length) = j + i by omega] at this
    rw [this, List.getD_eq_getElem?_getD, List.getD_eq_getElem?_getD, List.getElem?_append_right (by omega)]
theorem std_apT {T : tT} {j : Nat} {l : List Nat} {x : Int32} (h : std T j l) : std (apT T x) j l := by
  refine ⟨Nat.le_succ_of_le h.1, fun i hi => ?_⟩
  show upd T.2 T.1 x (j + i) = _
  rw [pk_un (by have := h.1; omega)]
  exact h.2 i hi
theorem std_keep {j : Nat} {m : List Nat} : ∀ (l : List Nat) (T : tT), std T j m → std (apL T l) j m
  | [], _, h => h
  | _ :: l, _, h => std_keep l _ (std_apT h)
theorem std_apL : ∀ (l : List Nat) (T : tT), std (apL T l) T.1 l
  | [], T => ⟨Nat.le_refl _, fun i hi => absurd hi (Nat.not_lt_zero _)⟩
  | c :: l, T => by
    have h1 : std (apT T (nI c)) T.1 [c] := by
      refine ⟨Nat.le_refl _, fun i hi => ?_⟩
      have : i = 0 := by have : i < 1 := hi; omega
      subst this
      show upd T.2 T.1 (nI c) (T.1 + 0) = nI c
      rw [Nat.add_zero, pk_us]
    exact std_app (l := [c]) (std_keep l _ h1) (std_apL l (apT T (nI c)))
theorem isD_n : ∀ q, q < 10 → isD (nI (48 + q)) = true ∧ isL (nI (48 + q)) = false ∧ ¬ nI (48 + q) = nI 32 ∧ ¬ nI (48 + q) = nI 45 := by decide +kernel
theorem isL_D {x : Int32} (h : isL x = true) : isD x = false ∧ ¬ x = nI 32 := by
  have h := of_decide_eq_true h
  rw [t_le, t_le] at h
  have e97 : (nI 97).toInt = 97 := by decide +kernel
  have e57 : (nI 57).toInt = 57 := by decide +kernel
  have e32 : (nI 32).toInt = 32 := by decide +kernel
  refine ⟨decide_eq_false fun z => ?_, fun z => ?_⟩
  · rw [t_le, t_le] at z
    omega
  · rw [z] at h
    omega
theorem dg_v (x q : Nat) : nI x * nI 10 + nI (48 + q) - nI 48 = nI (10 * x + q) := by
  rw [pk_mul, nI_add, pk_sub (by omega)]
  exact congrArg nI (by omega)
theorem dgs_y {T : tT} {d j x q : Nat} (hq : q < 10) (hb : byt T j = nI (48 + q)) : dgs T (d + 1) j (nI x) = dgs T d (j + 1) (nI (10 * x + q)) := by
  rw [dgs, hb, if_pos (isD_n q hq).1, dg_v]
theorem dgs_n {T : tT} {d j : Nat} {v : Int32} (hb : isD (byt T j) = false) : dgs T d j v = (j, v) := by
  cases d with
  | zero => rfl
  | succ d => rw [dgs, if_neg (by rw [hb]; decide)]
theorem dgs_dgL {T : tT} {f a : Nat} (hs : std T f (dgL a)) (ha : a < 1000) (hn : isD (byt T (f + (dgL a).length)) = false) : dgs T 3 f (nI 0) = (f + (dgL a).length, nI a) := by
  unfold dgL at hs hn ⊢
  by_cases h1 : a < 10
  · rw [if_pos (show a < 100 by omega), if_pos h1] at hs hn ⊢
    have b0 := hs.at_ (i := 0) (show 0 < 1 by decide)
    have b0 : byt T f = nI (48 + a % 10) := b0
    have hn : isD (byt T (f + 1)) = false := hn
    rw [dgs_y (Nat.mod_lt _ (by decide)) b0, dgs_n hn, show 10 * 0 + a % 10 = a by omega]
    rfl
  · by_cases h2 : a < 100
    · rw [if_pos h2, if_neg h1] at hs hn ⊢
      have b0 : byt T f = nI (48 + a / 10 % 10) := hs.at_ (i := 0) (show 0 < 2 by decide)
      have b1 : byt T (f + 1) = nI (48 + a % 10) := hs.at_ (i := 1) (show 1 < 2 by decide)
      have hn : isD (byt T (f + 2)) = false := hn
      rw [dgs_y (Nat.mod_lt _ (by decide)) b0, dgs_y (Nat.mod_lt _ (by decide)) b1, dgs_n hn, show 10 * (10 * 0 + a / 10 % 10) + a % 10 = a by omega]
      rfl
    · rw [if_neg h2, if_neg h1] at hs hn ⊢
      have b0 : byt T f = nI (48 + a / 100) := hs.at_ (i := 0) (show 0 < 3 by decide)
      have b1 : byt T (f + 1) = nI (48 + a / 10 % 10) := hs.at_ (i := 1) (show 1 < 3 by decide)
      have b2 : byt T (f + 2) = nI (48 + a % 10) := hs.at_ (i := 2) (show 2 < 3 by decide)
      rw [dgs_y (by omega) b0, dgs_y (Nat.mod_lt _ (by decide)) b1, dgs_y (Nat.mod_lt _ (by decide)) b2, show 10 * (10 * (10 * 0 + a / 100) + a / 10 % 10) + a % 10 = a by omega]
      rfl
theorem dgL_pos (a : Nat) : 0 < (dgL a).length := by
  unfold dgL
  rw [List.length_append]
  show 0 < _ + 1
  omega
theorem dgL_0 (a : Nat) (ha : a < 1000) : ∃ q, q < 10 ∧ (dgL a).getD 0 0 = 48 + q := by
  unfold dgL
  by_cases h1 : a < 10
  · rw [if_pos (show a < 100 by omega), if_pos h1]; exact ⟨a % 10, Nat.mod_lt _ (by decide), rfl⟩
  · by_cases h2 : a < 100
    · rw [if_pos h2, if_neg h1]; exact ⟨a / 10 % 10, Nat.mod_lt _ (by decide), rfl⟩
    · rw [if_neg h2, if_neg h1]; exact ⟨a / 100, by omega, rfl⟩
theorem nmL_pos (g : Bool) (a : Nat) : 0 < (nmL g a).length := by
  have := dgL_pos a
  unfold nmL
  rw [List.length_append]
  omega
/-- the first letter of a number -/
theorem nm_0 {T : tT} {j a : Nat} {g : Bool} (hs : std T j (nmL g a)) (ha : a < 1000) : isL (byt T j) = false ∧ ¬ byt T j = nI 32 := by
  have b := hs.at_ (nmL_pos g a)
  rw [Nat.add_zero] at b
  cases g with
  | true =>
    have b : byt T j = nI 45 := b
    rw [b]
    exact ⟨by decide +kernel, by decide +kernel⟩
  | false =>
    obtain ⟨q, hq, e⟩ := dgL_0 a ha
    have b : byt T j = nI ((dgL a).getD 0 0) := b
    rw [b, e]
    exact ⟨(isD_n q hq).2.1, (isD_n q hq).2.2.1⟩
theorem rd_num {T : tT} {w a j : Nat} {g : Bool} (hs : std T j (nmL g a)) (ha : a < 1000) (hg : g = true → w = 6) (h1 : ¬ sgI g a < lwt w) (h2 : ¬ hwt w < sgI g a) (hn : isD (byt T (j + (nmL g a).length)) = false) : ftN T w j = none ∧ vlN T w j = sgI g a ∧ (dgN T w j).1 = j + (nmL g a).length := by
  have key : dgN T w j = (j + (nmL g a).length, nI a) ∧ vlN T w j = sgI g a ∧ fdN T w j < j + (nmL g a).length := by
    cases g with
    | true =>
      have hng : ngN T w j = true := decide_eq_true ⟨hg rfl, by have b : byt T (j + 0) = nI 45 := hs.at_ (nmL_pos true a); rw [Nat.add_zero] at b; exact b⟩
      have hl : (nmL true a).length = 1 + (dgL a).length := by
        show ([45] ++ dgL a).length = _
        rw [List.length_append]
        rfl
      have hs2 : std T (j + 1) (dgL a) := std.r (l := [45]) hs
      rw [hl, ← Nat.add_assoc] at hn
      have e : dgN T w j = (j + 1 + (dgL a).length, nI a) := by
        unfold dgN fdN
        rw [if_pos hng]
        exact dgs_dgL hs2 ha hn
      have hp := dgL_pos a
      refine ⟨by rw [e, hl, Nat.add_assoc], ?_, ?_⟩
      · unfold vlN
        rw [if_pos hng, e]
        rfl
      · unfold fdN
        rw [if_pos hng, hl]
        omega
    | false =>
      have hng : ¬ ngN T w j = true := by
        intro z
        have z := (of_decide_eq_true z).2
        have b : byt T (j + 0) = nI ((dgL a).getD 0 0) := hs.at_ (nmL_pos false a)
        obtain ⟨q, hq, e⟩ := dgL_0 a ha
        rw [Nat.add_zero, z, e] at b
        exact (isD_n q hq).2.2.2 b.symm
      have hs2 : std T j (dgL a) := hs
      have hn : isD (byt T (j + (dgL a).length)) = false := hn
      have e : dgN T w j = (j + (dgL a).length, nI a) := by
        unfold dgN fdN
        rw [if_neg hng]
        exact dgs_dgL hs2 ha hn
      have hp := dgL_pos a
      refine ⟨e, ?_, ?_⟩
      · unfold vlN
        rw [if_neg hng, e]
        rfl
      · unfold fdN
        rw [if_neg hng]
        show j < j + (dgL a).length
        omega
  obtain ⟨k1, k2, k3⟩ := key
  refine ⟨?_, k2, by rw [k1]⟩
  unfold ftN
  rw [k1, k2, if_neg (by show ¬ j + (nmL g a).length = fdN T w j; omega), if_neg (fun z => z.elim h1 h2), if_neg (by rw [hn]; decide)]
/-- a word -/
theorem wdL_ok : ∀ w, w < 10 → 1 ≤ w → (wdL w 8).length = (wds (w - 1)).length ∧ 0 < (wdL w 8).length ∧ ∀ k, k < (wdL w 8).length → nI ((wdL w 8).getD k 0) = (wds (w - 1)).getD k 0 ∧ isL (nI ((wdL w 8).getD k 0)) = true := by decide +kernel
theorem ltE_run {T : tT} {j : Nat} : ∀ n, (∀ i, i < n → isL (byt T (j + i)) = true) → ltE T j = ltE T (j + n)
  | 0, _ => rfl
  | n + 1, h => by
    rw [ltE_run n (fun i hi => h i (by omega)), ltE_at (h n (by omega))]
    rfl
theorem rd_word {T : tT} {w j : Nat} (hs : std T j (wdL w 8)) (hw : w < 10) (h1 : 1 ≤ w) (hn : isL (byt T (j + (wdL w 8).length)) = false) : ltE T j = j + (wdL w 8).length ∧ wdO T j (ltE T j) 9 0 = w := by
  obtain ⟨k1, k2, k3⟩ := wdL_ok w hw h1
  have e : ltE T j = j + (wdL w 8).length := by
    rw [ltE_run (wdL w 8).length (fun i hi => by rw [hs.at_ hi]; exact (k3 i hi).2), ltE_no (by rw [hn]; decide)]
  refine ⟨e, ?_⟩
  rw [e]
  have := wdO_at (T := T) (j := j) (e := j + (wdL w 8).length) (k := w - 1) ((mtc_iff _ _ _ _).mpr ⟨by omega, fun k hk => by
    rw [hs.at_ (by omega), (k3 k (by omega)).1]⟩) (by omega) 9 0 rfl (Nat.zero_le _)
  rw [this]
  omega
/-- a blank, or none -/
def bl (b : Bool) : List Nat := if b then [32] else []
theorem rd_skp {T : tT} {j : Nat} {b : Bool} (hs : std T j (bl b)) (hn : ¬ byt T (j + (bl b).length) = nI 32) : skp T j = j + (bl b).length := by
  cases b with
  | false => exact skp_no hn
  | true =>
    have b0 : byt T (j + 0) = nI 32 := hs.at_ (by decide)
    rw [Nat.add_zero] at b0
    rw [skp_at b0]
    exact skp_no hn
/-- a property as it is written: which, its sign and size, a blank ahead of the word and behind it -/
abbrev cK : Type := Nat × (Bool × Nat) × Bool × Bool
def ckL (c : cK) : List Nat := bl c.2.2.1 ++ (wdL c.1 8 ++ (bl c.2.2.2 ++ nmL c.2.1.1 c.2.1.2))
def ctL : List cK → List Nat
  | [] => []
  | c :: t => ckL c ++ ctL t
def upK (vs : Nat → Int32) : List cK → Nat → Int32
  | [] => vs
  | c :: t => upK (upd vs c.1 (sgI c.2.1.1 c.2.1.2)) t
def okN (w : Nat) (q : Bool × Nat) : Prop := q.2 < 1000 ∧ (q.1 = true → w = 6 ∧ 0 < q.2) ∧ ¬ sgI q.1 q.2 < lwt w ∧ ¬ hwt w < sgI q.1 q.2
def okC (sd : Int32) : List cK → Prop
  | [] => True
  | c :: t => 1 ≤ c.1 ∧ c.1 < 10 ∧ okN c.1 c.2.1 ∧ bitW sd c.1 = 0 ∧ okC (orW sd c.1) t
theorem wd_0 {T : tT} {j w : Nat} (hs : std T j (wdL w 8)) (hw : w < 10) (h1 : 1 ≤ w) : isL (byt T j) = true := by
  obtain ⟨k1, k2, k3⟩ := wdL_ok w hw h1
  have := hs.at_ k2
  rw [Nat.add_zero] at this
  rw [this]
  exact (k3 0 k2).2
/-- what follows a number is no digit -/
theorem ct_0 {T : tT} {j : Nat} {sd : Int32} {cl : List cK} (hs : std T j (ctL cl)) (hj : j + (ctL cl).length = T.1) (ho : okC sd cl) : isD (byt T j) = false := by
  cases cl with
  | nil =>
    rw [byt_out (by have : j + 0 = T.1 := hj; omega)]
    decide
  | cons c t =>
    have hs1 : std T j (bl c.2.2.1 ++ (wdL c.1 8 ++ (bl c.2.2.2 ++ nmL c.2.1.1 c.2.1.2))) := std.l hs
    obtain ⟨o1, o2, -⟩ := ho
    cases e : c.2.2.1 with
    | true =>
      rw [e] at hs1
      have b : byt T (j + 0) = nI 32 := (std.l hs1).at_ (by decide)
      rw [Nat.add_zero] at b
      rw [b]
      decide
    | false =>
      rw [e] at hs1
      have hs2 : std T j (wdL c.1 8) := std.l (std.r (l := bl false) hs1)
      exact (isL_D (wd_0 hs2 o2 o1)).1
theorem prs_cl {T : tT} : ∀ (cl : List cK) (d : Nat) (sd : Int32) (vs : Nat → Int32) (j : Nat), cl.length ≤ d → std T j (ctL cl) → j + (ctL cl).length = T.1 → okC sd cl → prs T d sd vs (skp T j) = (none, upK vs cl)
  | [], d, sd, vs, j, _, _, hj, _ => by
    have hj : j + 0 = T.1 := hj
    have e : skp T j = j := skp_no (by rw [byt_out (by omega)]; decide)
    rw [e]
    cases d with
    | zero => rfl
    | succ d => rw [prs, if_pos (by omega)]; rfl
  | c :: t, 0, sd, vs, j, hd, _, _, _ => absurd hd (by simp)
  | c :: t, d + 1, sd, vs, j, hd, hs, hj, ho => by
    obtain ⟨o1, o2, ⟨o3, o4, o5, o6⟩, o7, o8⟩ := ho
    have hs0 : std T j (ckL c ++ ctL t) := hs
    have hj0 : j + (ckL c ++ ctL t).length = T.1 := hj
    have s1 : std T j (bl c.2.2.1 ++ (wdL c.1 8 ++ (bl c.2.2.2 ++ nmL c.2.1.1 c.2.1.2))) := std.l hs0
    have s2 := std.r hs0
    have sb1 := std.l s1
    have s3 := std.r s1
    have sw := std.l s3
    have s4 := std.r s3
    have sb2 := std.l s4
    have sn := std.r s4
    have hl : (ckL c).length = (bl c.2.2.1).length + (wdL c.1 8).length + (bl c.2.2.2).length + (nmL c.2.1.1 c.2.1.2).length := by
      unfold ckL
      rw [List.length_append, List.length_append, List.length_append]
      omega
    have hwl := (wdL_ok c.1 o2 o1).2.1
    have hw0 := wd_0 sw o2 o1
    have hn0 := nm_0 sn o3
    have e1 : skp T j = j + (bl c.2.2.1).length := rd_skp sb1 (isL_D hw0).2
    have hlt : isL (byt T (j + (bl c.2.2.1).length + (wdL c.1 8).length)) = false := by
      cases e : c.2.2.2 with
      | true =>
        rw [e] at sb2
        have b : byt T (j + (bl c.2.2.1).length + (wdL c.1 8).length + 0) = nI 32 := sb2.at_ (by decide)
        rw [Nat.add_zero] at b
        rw [b]
        decide
      | false =>
        rw [e] at hn0
        exact hn0.1
    obtain ⟨e2, e3⟩ := rd_word sw o2 o1 hlt
    have e4 : skp T (j + (bl c.2.2.1).length + (wdL c.1 8).length) = j + (bl c.2.2.1).length + (wdL c.1 8).length + (bl c.2.2.2).length := rd_skp sb2 hn0.2
    have hend : j + (bl c.2.2.1).length + (wdL c.1 8).length + (bl c.2.2.2).length + (nmL c.2.1.1 c.2.1.2).length = j + (ckL c).length := by omega
    rw [List.length_append] at hj0
    have hnd := ct_0 s2 (by omega) o8
    rw [← hend] at hnd
    obtain ⟨e5, e6, e7⟩ := rd_num (w := c.1) sn o3 (fun z => (o4 z).1) o5 o6 hnd
    have ih := prs_cl t d (orW sd c.1) (upd vs c.1 (sgI c.2.1.1 c.2.1.2)) (j + (ckL c).length) (by have : t.length + 1 ≤ d + 1 := hd; omega) s2 (by omega) o8
    rw [e1, prs, if_neg (by have := sn.1; omega), e3, if_neg (fun z => z.elim (fun z => by omega) (fun z => z o7)), e2, e4, e5]
    show prs T d (orW sd c.1) (upd vs c.1 (vlN T c.1 _)) (nxN T c.1 _) = _
    unfold nxN
    rw [e6, e7, hend]
    exact ih
/-- an item's text: its base, then what is written -/
theorem rd_all {γ : Nat → Int32} {a : Nat} {cl : List cK} (ha : okN 0 (false, a)) (hc : okC (nI 0) cl) (h80 : cl.length ≤ 80) : rdT (apL (0, γ) (nmL false a ++ ctL cl)) = (none, upK (upd uwt 0 (nI a)) cl) := by
  generalize hT : apL (0, γ) (nmL false a ++ ctL cl) = T
  have hs0 : std T 0 (nmL false a ++ ctL cl) := by rw [← hT]; exact std_apL _ (0, γ)
  have hl : T.1 = (nmL false a ++ ctL cl).length := by rw [← hT, apL_len]; exact Nat.zero_add _
  obtain ⟨o3, o4, o5, o6⟩ := ha
  have s1 := std.l hs0
  have s2 := std.r hs0
  rw [List.length_append] at hl
  have e0 : skp T 0 = 0 := skp_no (nm_0 s1 o3).2
  have hnd := ct_0 s2 (by omega) hc
  obtain ⟨e5, e6, e7⟩ := rd_num (w := 0) s1 o3 (fun z => by cases z) o5 o6 hnd
  have ih := prs_cl cl 80 (nI 0) (upd uwt 0 (nI a)) (0 + (nmL false a).length) h80 s2 (by omega) hc
  unfold rdT
  rw [e0, e5]
  show prs T 80 (nI 0) (upd uwt 0 (vlN T 0 0)) (nxN T 0 0) = _
  unfold nxN
  rw [e6, e7]
  exact ih

