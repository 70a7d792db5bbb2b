/-! an item is written, and comes to a place -/
def kD : Nat → Int32
  | 0 => -1
  | m + 1 => nI m
theorem kD_eq : ∀ m, nI m - nI 1 = kD m
  | 0 => by decide +kernel
  | m + 1 => gi_p m
theorem kD_dn : ∀ m, kD (m + 1) + Int32.ofInt (-1) = kD m
  | 0 => by decide +kernel
  | m + 1 => gi_m1 m
theorem kD_lt {m b : Nat} (hm : m < 1000) (hb : b < 1000) : kD m < nI b ↔ m ≤ b := by
  cases m with
  | zero => exact ⟨fun _ => Nat.zero_le _, fun _ => by
      rw [t_lt, nI_toInt (by omega), show (kD 0).toInt = -1 by decide +kernel]
      omega⟩
  | succ m => exact ⟨fun q => (nI_ltI (by omega) (by omega)).mp q, fun q => (nI_ltI (by omega) (by omega)).mpr q⟩
def bsV (k : Nat) : Int32 := if k = 2 then nI 1 else if k = 4 then nI 400 else if k = 7 then nI 10 else if k = 9 then nI 4 else nI 0
theorem bsV_u : ∀ w, w < 10 → bsV w = uwt w := by decide +kernel
/-- the law's items while one more is written at a place -/
def inX (J : Nat → Nat → Int32) (n at_ : Nat) (P : dP) (vs : Nat → Int32) : Prop := J 41 60 = nI (n + 1) ∧ (∀ w, w < 12 → J 41 (12 * at_ + w) = vs w) ∧ ∀ i w, i < n → w < 11 → J 41 (12 * (if i < at_ then i else i + 1) + w) = P i w
theorem inX.set {J : Nat → Nat → Int32} {n at_ w : Nat} {P : dP} {vs : Nat → Int32} {v : Int32} (h : inX J n at_ P vs) (hn : n < 5) (hat : at_ ≤ n) (hw : w < 12) : inX (gup J 41 (12 * at_ + w) v) n at_ P (upd vs w v) := by
  obtain ⟨h1, h2, h3⟩ := h
  refine ⟨by rw [gup_k _ _ _ (by omega)]; exact h1, fun k hk => ?_, fun i k hi hk => ?_⟩
  · rw [gup_at]
    by_cases y : k = w
    · subst y; rw [if_pos rfl, pk_us]
    · rw [if_neg (by omega), pk_un y]; exact h2 k hk
  · rw [gup_k _ _ _ (by split <;> omega)]
    exact h3 i k hi hk
theorem inX.keep {J J2 : Nat → Nat → Int32} {n at_ : Nat} {P : dP} {vs : Nat → Int32} (h : inX J n at_ P vs) (e : J2 41 = J 41) : inX J2 n at_ P vs := by
  unfold inX
  rw [e]
  exact h
def wq (w0 : Nat) : Nat → Nat
  | 0 => w0
  | k + 1 => 1 + (wq w0 k + 1) % 9
def sdW (w0 : Nat) : Nat → Int32
  | 0 => nI 0
  | k + 1 => orW (sdW w0 k) (wq w0 k)
theorem wq_ok : ∀ w0, w0 < 10 → 1 ≤ w0 → ∀ k, k < 3 → bitW (sdW w0 k) (wq w0 k) = 0 ∧ 1 ≤ wq w0 k ∧ wq w0 k < 10 := by decide +kernel
def sdK (sd : Int32) : List cK → Int32
  | [] => sd
  | c :: t => sdK (orW sd c.1) t
theorem sdK_s : ∀ (cl : List cK) (sd : Int32) (c : cK), sdK sd (cl ++ [c]) = orW (sdK sd cl) c.1
  | [], _, _ => rfl
  | d :: t, sd, c => sdK_s t (orW sd d.1) c
theorem ctL_s : ∀ (cl : List cK) (c : cK), ctL (cl ++ [c]) = ctL cl ++ ckL c
  | [], c => by show ckL c ++ [] = [] ++ ckL c; rw [List.append_nil, List.nil_append]
  | d :: t, c => by
    show ckL d ++ ctL (t ++ [c]) = (ckL d ++ ctL t) ++ ckL c
    rw [ctL_s t c, List.append_assoc]
theorem upK_s : ∀ (cl : List cK) (vs : Nat → Int32) (c : cK), upK vs (cl ++ [c]) = upd (upK vs cl) c.1 (sgI c.2.1.1 c.2.1.2)
  | [], _, _ => rfl
  | d :: t, vs, c => upK_s t _ c
theorem okC_s : ∀ (cl : List cK) (sd : Int32) (c : cK), okC sd cl → okC (sdK sd cl) [c] → okC sd (cl ++ [c])
  | [], _, _, _, h => h
  | _ :: t, _, c, h, h2 => ⟨h.1, h.2.1, h.2.2.1, h.2.2.2.1, okC_s t _ c h.2.2.2.2 h2⟩
theorem upK_at : ∀ (cl : List cK) (vs vs2 : Nat → Int32) (w : Nat), vs w = vs2 w → upK vs cl w = upK vs2 cl w
  | [], _, _, _, h => h
  | c :: t, vs, vs2, w, h => upK_at t _ _ w (by
      by_cases y : w = c.1
      · rw [y, pk_us, pk_us]
      · rw [pk_un y, pk_un y]; exact h)
theorem upK_out : ∀ (cl : List cK) (sd : Int32) (vs : Nat → Int32) (w : Nat), okC sd cl → 10 ≤ w → upK vs cl w = vs w
  | [], _, _, _, _, _ => rfl
  | c :: t, sd, vs, w, h, hw => by
    show upK (upd vs c.1 _) t w = vs w
    rw [upK_out t _ _ w h.2.2.2.2 hw, pk_un (by have := h.2.1; omega)]
theorem bl_len (b : Bool) : (bl b).length ≤ 1 := by cases b <;> decide
theorem sg_of {v : Int32} {w : Nat} (hw : w < 10) (h : bnd v (lov w) (hiv w)) : ∃ (g : Bool) (b : Nat), v = sgI g b ∧ okN w (g, b) := by
  obtain ⟨b1, b2⟩ := in_of_b hw h
  have hh := (show ∀ w, w < 10 → -9 ≤ lov w ∧ hiv w ≤ 400 ∧ (lov w < 0 → w = 6) by decide) w hw
  unfold bnd at h
  by_cases q : v.toInt < 0
  · refine ⟨true, (-v.toInt).toNat, ?_, by show (-v.toInt).toNat < 1000; omega, fun _ => ⟨hh.2.2 (by omega), by show 0 < (-v.toInt).toNat; omega⟩, ?_⟩
    · show v = -(nI _)
      rw [t_eq, t_neg (by rw [nI_toInt (by omega)]; omega), nI_toInt (by omega)]
      omega
    · have e : sgI true (-v.toInt).toNat = v := by
        show -(nI _) = v
        rw [t_eq, t_neg (by rw [nI_toInt (by omega)]; omega), nI_toInt (by omega)]
        omega
      show ¬ sgI true (-v.toInt).toNat < _ ∧ ¬ _ < sgI true (-v.toInt).toNat
      rw [e]
      exact ⟨b1, b2⟩
  · have e : sgI false v.toInt.toNat = v := by
      show nI _ = v
      rw [t_eq, nI_toInt (by omega)]
      omega
    refine ⟨false, v.toInt.toNat, e.symm, by show v.toInt.toNat < 1000; omega, fun z => (by cases z), ?_⟩
    show ¬ sgI false v.toInt.toNat < _ ∧ ¬ _ < sgI false v.toInt.toNat
    rw [e]
    exact ⟨b1, b2⟩
section INS
variable {E : gE} {I : Nat → Nat → Int32} {h : gX} {S : sT}
abbrev inG (E : gE) (h : gX) (pc : Nat) (L st : List Value) (J : Nat → Nat → Int32) : Prop := Wp E fL_inserts (gn h) pc L st (gM J h) (gRet fL_inserts (gn h) (fun r σ' => ∃ (v : Int32) (I' : Nat → Nat → Int32), r = some (.int v) ∧ σ' = gM I' h ∧ v = nI 1 ∧ lawP I'))
/-- the text is there: the item comes to its place -/
theorem ins_end {J : Nat → Nat → Int32} {at_ a0 : Nat} {cl : List cK} {γ : Nat → Int32} {x y v6 v7 : Int32} (hn : S.1.1 < 5) (hat : at_ ≤ S.1.1) (hX : rX J (tS S (apL (0, γ) (nmL false a0 ++ ctL cl)))) (hi : inX J S.1.1 at_ S.1.2.1 (upK (upd bsV 0 (nI a0)) cl)) (h42 : ∀ w, w < 7 → J 42 w = S.1.2.2 w) (h0 : okN 0 (false, a0)) (hc : okC (nI 0) cl) (hl : cl.length ≤ 3) (hV : vT S) : inG E h 332 [.ref 0, .ref 41, .int (nI at_), .int x, .int y, .int (nI 1), .int v6, .int v7] [] J := by
  have hrd := rd_all (γ := γ) h0 hc (by omega)
  refine g_iload (i := 5) (t := 334) dL_inserts_332 rfl rfl ?_
  refine g_if_eq (t1 := 353) (t2 := 337) dL_inserts_334 (by decide) rfl (fun h334 => ?_) (fun h334 => ?_)
  · exact absurd h334 (by decide)
  · refine g_aload_n (i := 0) (r := 0) (t := 338) dL_inserts_337 rfl rfl (Or.inl l9_0) rfl ?_
    refine g_iload_n (i := 2) (t := 339) dL_inserts_338 rfl rfl rfl ?_
    refine g_cVi (o := 0) (t := 342) mX6_insert k_L_47 imX6_insert seX6_insert l6_0 l9_0 s_0 rfl dL_inserts_339 (x6_insert hX) rfl rfl (by decide) (by decide) (Nat.le_of_ble_eq_true rfl) rfl (Nat.le_refl _) (fun v339 J339 q339 => ?_)
    obtain ⟨q1, S1, q2, q3⟩ := q339
    have key : v339 = nI (S.1.1 + 1) ∧ S1.1.1 = S.1.1 + 1 ∧ S1.1.2.2 = S.1.2.2 ∧ ∀ i w, i < 16 → w < 11 → S1.1.2.1 i w = if mvI S.1.1 at_ i = S.1.1 then (if w < 10 then upK (upd uwt 0 (nI a0)) cl w else 0) else S.1.2.1 (mvI S.1.1 at_ i) w := by
      rcases q2 with ⟨b, -, -⟩ | ⟨i2, ib, b1, ⟨f, -, b2, -⟩ | ⟨-, b2, -⟩ | ⟨-, -, b3, b4, b5, -, b6⟩⟩
      · exact absurd b (bd_nI (by show S.1.1 + 1 < 1000; omega) (by show at_ < S.1.1 + 1; omega))
      · have b2 : (rdT (apL (0, γ) (nmL false a0 ++ ctL cl))).1 = some f := b2
        rw [hrd] at b2
        cases b2
      · have b2 : S.1.1 = 16 := b2
        omega
      · have e1 : at_ = i2 := by
          refine (nI_eq (by omega) ?_).mp b1
          have : i2 < S.1.1 + 1 := ib
          omega
        subst e1
        refine ⟨b3, b4, b5, fun i w hi hw => ?_⟩
        have b6 := b6 i w hi hw
        rw [show (tS S (apL (0, γ) (nmL false a0 ++ ctL cl))).2.2 = apL (0, γ) (nmL false a0 ++ ctL cl) from rfl, hrd] at b6
        exact b6
    obtain ⟨p1, p2, p3, p4⟩ := key
    obtain ⟨i1, i2, i3⟩ := hi
    refine g_aload_n (i := 1) (r := 41) (t := 343) dL_inserts_342 rfl rfl (Or.inl l9_41) rfl ?_
    refine g_bipush (t := 345) dL_inserts_343 c_bipush_60 rfl ?_
    refine gm_iald_x (a := 41) (n := 64) (t := 346) l6_41 l9_41 s_41 dL_inserts_345 rfl (by omega) (by decide) rfl ?_
    rw [q1.at 41 rfl, i1]
    refine g_icmp_ne (t1 := 353) (t2 := 349) dL_inserts_346 (by decide) rfl (fun h346 => ?_) (fun h346 => ?_)
    · exact absurd p1 h346
    · refine g_iconst (t := 350) dL_inserts_349 c_iconst_1 rfl ?_
      refine g_goto (t := 354) dL_inserts_350 (by decide) ?_
      exact g_retI dL_inserts_354 rfl (by decide +kernel) (by
    refine ⟨rfl, S1, q3, ⟨by omega, by rw [q1.at 41 rfl, i1, p2], fun i w hi hw => ?_, fun w hw => by rw [q1.at 42 rfl, p3]; exact h42 w hw⟩, v_insert (S := tS S (apL (0, γ) (nmL false a0 ++ ctL cl))) hV q2⟩
    rw [q1.at 41 rfl, p4 i w (by omega) hw]
    rw [p2] at hi
    rcases Nat.lt_trichotomy i at_ with y | y | y
    · have e : mvI S.1.1 at_ i = i := by unfold mvI; split <;> (try split) <;> (try split) <;> (try split) <;> omega
      rw [e, if_neg (by omega)]
      have := i3 i w (by omega) hw
      rw [if_pos y] at this
      exact this
    · subst y
      have e : mvI S.1.1 i i = S.1.1 := by unfold mvI; split <;> (try split) <;> (try split) <;> (try split) <;> omega
      rw [e, if_pos rfl, i2 w (by omega)]
      by_cases z : w < 10
      · rw [if_pos z]
        refine upK_at cl _ _ w ?_
        by_cases u : w = 0
        · rw [u, pk_us, pk_us]
        · rw [pk_un u, pk_un u]; exact bsV_u w z
      · rw [if_neg z, upK_out cl _ _ w hc (by omega), pk_un (by omega), show w = 10 by omega]
        rfl
    · have e : mvI S.1.1 at_ i = i - 1 := by unfold mvI; split <;> (try split) <;> (try split) <;> (try split) <;> omega
      rw [e, if_neg (by omega)]
      have := i3 (i - 1) w (by omega) hw
      rw [if_neg (by omega), show i - 1 + 1 = i by omega] at this
      exact this)
theorem ins_loop {at_ a0 w0 q : Nat} {γ : Nat → Int32} {x y : Int32} (hn : S.1.1 < 5) (hat : at_ ≤ S.1.1) (h0 : okN 0 (false, a0)) (hw0 : w0 < 10) (h1 : 1 ≤ w0) (hq : q < 3) (eq : lowI (x >>> (nI 17 &&& 31)) (nI 3) = nI q) (hV : vT S) : ∀ (d k : Nat) (J : Nat → Nat → Int32) (cl : List cK), k + d = q + 1 → cl.length = k → (ctL cl).length ≤ 12 * k → rX J (tS S (apL (0, γ) (nmL false a0 ++ ctL cl))) → inX J S.1.1 at_ S.1.2.1 (upK (upd bsV 0 (nI a0)) cl) → (∀ w, w < 7 → J 42 w = S.1.2.2 w) → okC (nI 0) cl → sdK (nI 0) cl = sdW w0 k → inG E h 196 [.ref 0, .ref 41, .int (nI at_), .int x, .int y, .int (nI 1), .int (nI (wq w0 k)), .int (nI k)] [] J := by
  intro d
  induction d with
  | zero =>
    intro k J cl hk hl hct hX hi h42 hc hsd
    refine g_iload (i := 7) (t := 198) dL_inserts_196 rfl rfl ?_
    refine g_iconst (t := 199) dL_inserts_198 c_iconst_1 rfl ?_
    refine g_iload_n (i := 3) (t := 200) dL_inserts_199 rfl rfl rfl ?_
    refine g_bipush (t := 202) dL_inserts_200 c_bipush_17 rfl ?_
    refine g_ishr (t := 203) dL_inserts_202 rfl ?_
    refine g_iconst (t := 204) dL_inserts_203 c_iconst_3 rfl ?_
    refine g_cSp (t := 207) mL_low k_L_35 smL_low dL_inserts_204 (l_low (by decide)) rfl rfl (by decide) (by decide) (Nat.le_of_ble_eq_true rfl) rfl (Nat.le_refl _) ?_
    refine g_top (y := nI q) eq ?_
    refine g_iadd (t := 208) dL_inserts_207 rfl ?_
    refine g_top (y := nI (1 + q)) (nI_add _ _) ?_
    refine g_icmp_ge_n (t1 := 332) (t2 := 211) dL_inserts_208 (by decide) rfl (by omega) (by omega) (fun h208 => ?_) (fun h208 => ?_)
    · exact ins_end hn hat hX hi h42 h0 hc (by omega) hV
    · exfalso; omega
  | succ d ih =>
    intro k J cl hk hl hct hX hi h42 hc hsd
    obtain ⟨w1, w2, w3⟩ := wq_ok w0 hw0 h1 k (by omega)
    have T315 : ∀ (J2 : Nat → Nat → Int32) (c : cK), c.1 = wq w0 k → okN c.1 c.2.1 → rX J2 (tS S (apL (0, γ) (nmL false a0 ++ ctL (cl ++ [c])))) → inX J2 S.1.1 at_ S.1.2.1 (upK (upd bsV 0 (nI a0)) (cl ++ [c])) → (∀ w, w < 7 → J2 42 w = S.1.2.2 w) → inG E h 315 [.ref 0, .ref 41, .int (nI at_), .int x, .int y, .int (nI 1), .int (nI (wq w0 k)), .int (nI k)] [] J2 := by
      intro J2 c ec hok hX2 hi2 h422
      have hct2 : (ctL (cl ++ [c])).length ≤ 12 * (k + 1) := by
        rw [ctL_s, List.length_append]
        have e1 := bl_len c.2.2.1
        have e2 := bl_len c.2.2.2
        have e3 := nmL_len c.2.1.1 c.2.1.2
        have e4 := wdL_6 c.1 (by omega)
        unfold ckL
        rw [List.length_append, List.length_append, List.length_append]
        omega
      refine g_iconst (t := 316) dL_inserts_315 c_iconst_1 rfl ?_
      refine g_iload (i := 6) (t := 318) dL_inserts_316 rfl rfl ?_
      refine g_iconst (t := 319) dL_inserts_318 c_iconst_1 rfl ?_
      refine g_iadd (t := 320) dL_inserts_319 rfl ?_
      refine g_bipush (t := 322) dL_inserts_320 c_bipush_9 rfl ?_
      refine g_irem (t := 323) dL_inserts_322 (by decide) rfl ?_
      refine g_iadd (t := 324) dL_inserts_323 rfl ?_
      refine g_top (y := nI (wq w0 (k + 1))) (by
          rw [nI_add, pk_div (by omega) (by decide) (by decide), pk_mul, pk_sub (Nat.div_mul_le_self _ _), nI_add]
          refine congrArg nI ?_
          show 1 + _ = 1 + (wq w0 k + 1) % 9
          omega) ?_
      refine g_istore (i := 6) (t := 326) (L1 := [_, _, _, _, _, _, _, _]) dL_inserts_324 (by decide) rfl rfl rfl ?_
      refine g_iinc (i := 7) (t := 329) (L1 := [_, _, _, _, _, _, _, _]) dL_inserts_326 rfl (gi_1 _) (by decide) rfl rfl rfl ?_
      refine g_goto (t := 196) dL_inserts_329 (by decide) ?_
      exact ih (k + 1) J2 (cl ++ [c]) (by omega) (by rw [List.length_append]; show cl.length + 1 = _; omega) hct2 hX2 hi2 h422 (okC_s cl _ c hc (by rw [hsd]; exact ⟨by omega, by omega, hok, by rw [ec]; exact w1, trivial⟩)) (by rw [sdK_s, hsd, ec]; rfl)
    have T233 : ∀ (J2 : Nat → Nat → Int32) (g : Bool) (b : Nat), okN (wq w0 k) (g, b) → rX J2 (tS S (apL (0, γ) (nmL false a0 ++ ctL cl))) → inX J2 S.1.1 at_ S.1.2.1 (upd (upK (upd bsV 0 (nI a0)) cl) (wq w0 k) (sgI g b)) → (∀ w, w < 7 → J2 42 w = S.1.2.2 w) → inG E h 233 [.ref 0, .ref 41, .int (nI at_), .int x, .int y, .int (nI 1), .int (nI (wq w0 k)), .int (nI k)] [] J2 := by
      intro J2 g b hok hX2 hi2 h422
      have hTl : (apL (0, γ) (nmL false a0 ++ ctL cl)).1 ≤ 4 + 12 * k := by
        rw [apL_len, List.length_append]
        have := nmL_len false a0
        show 0 + _ ≤ _
        omega
      have T292 : ∀ (J3 : Nat → Nat → Int32) (b1 b2 : Bool), gSame CL J2 J3 → rX J3 (tS S (apL (apL (0, γ) (nmL false a0 ++ ctL cl)) (bl b1 ++ (wdL (wq w0 k) 8 ++ bl b2)))) → inG E h 292 [.ref 0, .ref 41, .int (nI at_), .int x, .int y, .int (nI 1), .int (nI (wq w0 k)), .int (nI k)] [] J3 := by
        intro J3 b1 b2 hs hX3
        have e1 := bl_len b1
        have e2 := bl_len b2
        have e4 := wdL_6 (wq w0 k) w3
        have hl3 : (apL (apL (0, γ) (nmL false a0 ++ ctL cl)) (bl b1 ++ (wdL (wq w0 k) 8 ++ bl b2))).1 ≤ 4 + 12 * k + 8 := by
          rw [apL_len, List.length_append, List.length_append]
          omega
        refine g_aload_n (i := 0) (r := 0) (t := 293) dL_inserts_292 rfl rfl (Or.inl l9_0) rfl ?_
        refine g_aload_n (i := 1) (r := 41) (t := 294) dL_inserts_293 rfl rfl (Or.inl l9_41) rfl ?_
        refine g_bipush (t := 296) dL_inserts_294 c_bipush_12 rfl ?_
        refine g_iload_n (i := 2) (t := 297) dL_inserts_296 rfl rfl rfl ?_
        refine g_imul (t := 298) dL_inserts_297 rfl ?_
        refine g_iload (i := 6) (t := 300) dL_inserts_298 rfl rfl ?_
        refine g_iadd (t := 301) dL_inserts_300 rfl ?_
        refine gm_iald_x (a := 41) (n := 64) (t := 302) l6_41 l9_41 s_41 dL_inserts_301 (ix_ma _ _ _) (by omega) (by decide) rfl ?_
        refine g_top (y := sgI g b) (by rw [hs.at 41 rfl, hi2.2.1 _ (by omega), pk_us]) ?_
        refine g_cSi (t := 305) mL_typesNumber k_L_57 smL_typesNumber dL_inserts_302 (l_typesNumber hX3 hok.1 (fun z => (hok.2.1 z).2) (by show (apL (apL (0, γ) (nmL false a0 ++ ctL cl)) (bl b1 ++ (wdL (wq w0 k) 8 ++ bl b2))).1 + 4 ≤ 80; omega)) rfl rfl (by decide) (by decide) (Nat.le_of_ble_eq_true rfl) rfl (Nat.le_refl _) (fun v302 J302 q302 => ?_)
        obtain ⟨q1, rfl, q3⟩ := q302
        refine g_if_eq (t1 := 312) (t2 := 308) dL_inserts_305 (by decide) rfl (fun h305 => ?_) (fun h305 => ?_)
        · exact absurd h305 (by decide)
        · refine g_iconst (t := 309) dL_inserts_308 c_iconst_1 rfl ?_
          refine g_goto (t := 313) dL_inserts_309 (by decide) ?_
          refine g_istore (i := 5) (t := 315) (L1 := [_, _, _, _, _, _, _, _]) dL_inserts_313 (by decide) rfl rfl rfl ?_
          refine T315 J302 (wq w0 k, (g, b), b1, b2) rfl hok ?_ ?_ ?_
          · rw [ctL_s, ← List.append_assoc, apL_app]
            rw [show ckL (wq w0 k, (g, b), b1, b2) = (bl b1 ++ (wdL (wq w0 k) 8 ++ bl b2)) ++ nmL g b by
              show bl b1 ++ (wdL (wq w0 k) 8 ++ (bl b2 ++ nmL g b)) = _
              rw [List.append_assoc, List.append_assoc], apL_app]
            exact q3
          · rw [upK_s]
            exact hi2.keep (by rw [q1.at 41 rfl, hs.at 41 rfl])
          · intro w hw
            rw [q1.at 42 rfl, hs.at 42 rfl]
            exact h422 w hw
      have T259 : ∀ (J3 : Nat → Nat → Int32) (b1 : Bool), gSame CL J2 J3 → rX J3 (tS S (apL (apL (0, γ) (nmL false a0 ++ ctL cl)) (bl b1))) → inG E h 259 [.ref 0, .ref 41, .int (nI at_), .int x, .int y, .int (nI 1), .int (nI (wq w0 k)), .int (nI k)] [] J3 := by
        intro J3 b1 hs hX3
        have e1 := bl_len b1
        have e4 := wdL_6 (wq w0 k) w3
        have hl3 : (apL (apL (0, γ) (nmL false a0 ++ ctL cl)) (bl b1)).1 ≤ 4 + 12 * k + 1 := by
          rw [apL_len]
          omega
        have hl4 : (apL (apL (apL (0, γ) (nmL false a0 ++ ctL cl)) (bl b1)) (wdL (wq w0 k) 8)).1 ≤ 4 + 12 * k + 7 := by
          rw [apL_len]
          omega
        refine g_aload_n (i := 0) (r := 0) (t := 260) dL_inserts_259 rfl rfl (Or.inl l9_0) rfl ?_
        refine g_iload (i := 6) (t := 262) dL_inserts_260 rfl rfl ?_
        refine g_cSl (t := 265) mL_word k_L_61 smL_word dL_inserts_262 (l_word w2 w3) rfl rfl (by decide) (by decide) (Nat.le_of_ble_eq_true rfl) rfl (Nat.le_refl _) ?_
        refine g_cSi (t := 268) mL_spells k_L_65 smL_spells dL_inserts_265 (l_spells w3 hX3 (by show (apL (apL (0, γ) (nmL false a0 ++ ctL cl)) (bl b1)).1 + 8 ≤ 80; omega)) rfl rfl (by decide) (by decide) (Nat.le_of_ble_eq_true rfl) rfl (Nat.le_refl _) (fun v265 J265 q265 => ?_)
        obtain ⟨q1, rfl, q3⟩ := q265
        refine g_if_eq (t1 := 312) (t2 := 271) dL_inserts_268 (by decide) rfl (fun h268 => ?_) (fun h268 => ?_)
        · exact absurd h268 (by decide)
        · refine g_iload_n (i := 3) (t := 272) dL_inserts_271 rfl rfl rfl ?_
          refine g_bipush (t := 274) dL_inserts_272 c_bipush_23 rfl ?_
          refine g_iload (i := 7) (t := 276) dL_inserts_274 rfl rfl ?_
          refine g_iadd (t := 277) dL_inserts_276 rfl ?_
          refine g_ishr (t := 278) dL_inserts_277 rfl ?_
          refine g_iconst (t := 279) dL_inserts_278 c_iconst_1 rfl ?_
          refine g_iand (t := 280) dL_inserts_279 rfl ?_
          refine g_if_eq (t1 := 292) (t2 := 283) dL_inserts_280 (by decide) rfl (fun h280 => ?_) (fun h280 => ?_)
          · first
            | (refine T292 J265 b1 false (hs.trans q1) ?_
               rw [apL_app, apL_app]
               exact q3)
            | (refine T292 J286 b1 true ((hs.trans q1).trans q4) ?_
               rw [apL_app, apL_app]
               exact q6)
            | done
          · refine g_aload_n (i := 0) (r := 0) (t := 284) dL_inserts_283 rfl rfl (Or.inl l9_0) rfl ?_
            refine g_bipush (t := 286) dL_inserts_284 c_bipush_32 rfl ?_
            refine g_cVi (o := 0) (t := 289) mX6_type k_L_9 imX6_type seX6_type l6_0 l9_0 s_0 rfl dL_inserts_286 (x6_typeQ (c := 32) rfl q3 (by decide) (by show (apL (apL (apL (0, γ) (nmL false a0 ++ ctL cl)) (bl b1)) (wdL (wq w0 k) 8)).1 < 80; omega)) rfl rfl (by decide) (by decide) (Nat.le_of_ble_eq_true rfl) rfl (Nat.le_refl _) (fun v286 J286 q286 => ?_)
            obtain ⟨q4, rfl, q6⟩ := q286
            refine g_if_le (t1 := 312) (t2 := 292) dL_inserts_289 (by decide) rfl (fun h289 => ?_) (fun h289 => ?_)
            · exact absurd h289 (tp_pos (by show (apL (apL (apL (0, γ) (nmL false a0 ++ ctL cl)) (bl b1)) (wdL (wq w0 k) 8)).1 < 1000; omega))
            · first
              | (refine T292 J265 b1 false (hs.trans q1) ?_
                 rw [apL_app, apL_app]
                 exact q3)
              | (refine T292 J286 b1 true ((hs.trans q1).trans q4) ?_
                 rw [apL_app, apL_app]
                 exact q6)
              | done
      refine g_iload (i := 5) (t := 235) dL_inserts_233 rfl rfl ?_
      refine g_if_eq (t1 := 312) (t2 := 238) dL_inserts_235 (by decide) rfl (fun h235 => ?_) (fun h235 => ?_)
      · exact absurd h235 (by decide)
      · refine g_iload_n (i := 3) (t := 239) dL_inserts_238 rfl rfl rfl ?_
        refine g_bipush (t := 241) dL_inserts_239 c_bipush_20 rfl ?_
        refine g_iload (i := 7) (t := 243) dL_inserts_241 rfl rfl ?_
        refine g_iadd (t := 244) dL_inserts_243 rfl ?_
        refine g_ishr (t := 245) dL_inserts_244 rfl ?_
        refine g_iconst (t := 246) dL_inserts_245 c_iconst_1 rfl ?_
        refine g_iand (t := 247) dL_inserts_246 rfl ?_
        refine g_if_eq (t1 := 259) (t2 := 250) dL_inserts_247 (by decide) rfl (fun h247 => ?_) (fun h247 => ?_)
        · first
          | exact T259 J2 false gSame.rf hX2
          | exact T259 J253 true q1 q3
          | done
        · refine g_aload_n (i := 0) (r := 0) (t := 251) dL_inserts_250 rfl rfl (Or.inl l9_0) rfl ?_
          refine g_bipush (t := 253) dL_inserts_251 c_bipush_32 rfl ?_
          refine g_cVi (o := 0) (t := 256) mX6_type k_L_9 imX6_type seX6_type l6_0 l9_0 s_0 rfl dL_inserts_253 (x6_typeQ (c := 32) rfl hX2 (by decide) (by show (apL (0, γ) (nmL false a0 ++ ctL cl)).1 < 80; omega)) rfl rfl (by decide) (by decide) (Nat.le_of_ble_eq_true rfl) rfl (Nat.le_refl _) (fun v253 J253 q253 => ?_)
          obtain ⟨q1, rfl, q3⟩ := q253
          refine g_if_le (t1 := 312) (t2 := 259) dL_inserts_256 (by decide) rfl (fun h256 => ?_) (fun h256 => ?_)
          · exact absurd h256 (tp_pos (by show (apL (0, γ) (nmL false a0 ++ ctL cl)).1 < 1000; omega))
          · first
            | exact T259 J2 false gSame.rf hX2
            | exact T259 J253 true q1 q3
            | done
    refine g_iload (i := 7) (t := 198) dL_inserts_196 rfl rfl ?_
    refine g_iconst (t := 199) dL_inserts_198 c_iconst_1 rfl ?_
    refine g_iload_n (i := 3) (t := 200) dL_inserts_199 rfl rfl rfl ?_
    refine g_bipush (t := 202) dL_inserts_200 c_bipush_17 rfl ?_
    refine g_ishr (t := 203) dL_inserts_202 rfl ?_
    refine g_iconst (t := 204) dL_inserts_203 c_iconst_3 rfl ?_
    refine g_cSp (t := 207) mL_low k_L_35 smL_low dL_inserts_204 (l_low (by decide)) rfl rfl (by decide) (by decide) (Nat.le_of_ble_eq_true rfl) rfl (Nat.le_refl _) ?_
    refine g_top (y := nI q) eq ?_
    refine g_iadd (t := 208) dL_inserts_207 rfl ?_
    refine g_top (y := nI (1 + q)) (nI_add _ _) ?_
    refine g_icmp_ge_n (t1 := 332) (t2 := 211) dL_inserts_208 (by decide) rfl (by omega) (by omega) (fun h208 => ?_) (fun h208 => ?_)
    · exfalso; omega
    · refine g_aload_n (i := 1) (r := 41) (t := 212) dL_inserts_211 rfl rfl (Or.inl l9_41) rfl ?_
      refine g_bipush (t := 214) dL_inserts_212 c_bipush_12 rfl ?_
      refine g_iload_n (i := 2) (t := 215) dL_inserts_214 rfl rfl rfl ?_
      refine g_imul (t := 216) dL_inserts_215 rfl ?_
      refine g_iload (i := 6) (t := 218) dL_inserts_216 rfl rfl ?_
      refine g_iadd (t := 219) dL_inserts_218 rfl ?_
      refine g_iload (i := 6) (t := 221) dL_inserts_219 rfl rfl ?_
      refine g_iload (i := 4) (t := 223) dL_inserts_221 rfl rfl ?_
      refine g_bipush (t := 225) dL_inserts_223 c_bipush_6 rfl ?_
      refine g_iload (i := 7) (t := 227) dL_inserts_225 rfl rfl ?_
      refine g_imul (t := 228) dL_inserts_227 rfl ?_
      refine g_ishr (t := 229) dL_inserts_228 rfl ?_
      refine g_cSi (t := 232) mL_value k_L_50 smL_value dL_inserts_229 (l_value w3) rfl rfl (by decide) (by decide) (Nat.le_of_ble_eq_true rfl) rfl (Nat.le_refl _) (fun v229 J229 q229 => ?_)
      obtain ⟨rfl, hb⟩ := q229
      obtain ⟨g, b, rfl, hok⟩ := sg_of w3 hb
      refine gm_iast_x (a := 41) (n := 64) (t := 233) l6_41 l9_41 s_41 dL_inserts_232 (ix_ma _ _ _) (by omega) (by decide) rfl ?_
      exact T233 _ g b hok hX.up41 (hi.set hn hat (by omega)) (fun w hw => by rw [gup_rowo _ _ _ (by decide)]; exact h42 w hw)
/-- the base, and what is not written -/
theorem ins_mid {J : Nat → Nat → Int32} {at_ : Nat} {x y v5 : Int32} {v6 v7 : Value} (hn : S.1.1 < 5) (hat : at_ ≤ S.1.1) (hX : rX J S) (hi : inX J S.1.1 at_ S.1.2.1 bsV) (h42 : ∀ w, w < 7 → J 42 w = S.1.2.2 w) (hV : vT S) : inG E h 142 [.ref 0, .ref 41, .int (nI at_), .int x, .int y, .int v5, v6, v7] [] J := by
  obtain ⟨w', hw', ew⟩ := lowI_lt (x >>> (nI 13 &&& 31)) (n := 9) (by decide) (by decide)
  obtain ⟨q, hq, eq⟩ := lowI_lt (x >>> (nI 17 &&& 31)) (n := 3) (by decide) (by decide)
  refine g_aload_n (i := 1) (r := 41) (t := 143) dL_inserts_142 rfl rfl (Or.inl l9_41) rfl ?_
  refine g_bipush (t := 145) dL_inserts_143 c_bipush_12 rfl ?_
  refine g_iload_n (i := 2) (t := 146) dL_inserts_145 rfl rfl rfl ?_
  refine g_imul (t := 147) dL_inserts_146 rfl ?_
  refine g_iconst (t := 148) dL_inserts_147 c_iconst_0 rfl ?_
  refine g_iload_n (i := 3) (t := 149) dL_inserts_148 rfl rfl rfl ?_
  refine g_cSi (t := 152) mL_value k_L_50 smL_value dL_inserts_149 (l_value (w := 0) (by decide)) rfl rfl (by decide) (by decide) (Nat.le_of_ble_eq_true rfl) rfl (Nat.le_refl _) (fun v149 J149 q149 => ?_)
  obtain ⟨rfl, hb⟩ := q149
  obtain ⟨g, a0, rfl, hok⟩ := sg_of (w := 0) (by decide) hb
  have hg : g = false := by
    cases g with
    | false => rfl
    | true => exact absurd (hok.2.1 rfl).1 (by decide)
  subst hg
  have hi1 := hi.set (w := 0) (v := sgI false a0) hn hat (by decide)
  refine gm_iast_x (a := 41) (n := 64) (t := 153) l6_41 l9_41 s_41 dL_inserts_152 (ix_m _ _) (by omega) (by decide) rfl ?_
  refine g_aload_n (i := 0) (r := 0) (t := 154) dL_inserts_153 rfl rfl (Or.inl l9_0) rfl ?_
  refine g_cVi (o := 0) (t := 157) mX6_clear k_L_53 imX6_clear seX6_clear l6_0 l9_0 s_0 rfl dL_inserts_154 (x6_clear hX.up41) rfl rfl (by decide) (by decide) (Nat.le_of_ble_eq_true rfl) rfl (Nat.le_refl _) (fun v154 J154 q154 => ?_)
  obtain ⟨q1, S1, ⟨rfl, q2⟩, q3⟩ := q154
  subst q2
  refine g_if_lt (t1 := 177) (t2 := 160) dL_inserts_157 (by decide) rfl (fun h157 => ?_) (fun h157 => ?_)
  · exact absurd h157 (nI_pos (by have := q3.2.2.2.2.2.1.2.1; have h80 := hX.2.2.2.2.2.1.2.1; omega))
  · refine g_aload_n (i := 0) (r := 0) (t := 161) dL_inserts_160 rfl rfl (Or.inl l9_0) rfl ?_
    refine g_aload_n (i := 1) (r := 41) (t := 162) dL_inserts_161 rfl rfl (Or.inl l9_41) rfl ?_
    refine g_bipush (t := 164) dL_inserts_162 c_bipush_12 rfl ?_
    refine g_iload_n (i := 2) (t := 165) dL_inserts_164 rfl rfl rfl ?_
    refine g_imul (t := 166) dL_inserts_165 rfl ?_
    refine gm_iald_x (a := 41) (n := 64) (t := 167) l6_41 l9_41 s_41 dL_inserts_166 (ix_m _ _) (by omega) (by decide) rfl ?_
    refine g_top (y := sgI false a0) (by rw [q1.at 41 rfl, show 12 * at_ = 12 * at_ + 0 from rfl, hi1.2.1 0 (by decide), pk_us]) ?_
    refine g_cSi (t := 170) mL_typesNumber k_L_57 smL_typesNumber dL_inserts_167 (l_typesNumber q3 hok.1 (fun z => by cases z) (by show 0 + 4 ≤ 80; omega)) rfl rfl (by decide) (by decide) (Nat.le_of_ble_eq_true rfl) rfl (Nat.le_refl _) (fun v167 J167 q167 => ?_)
    obtain ⟨q4, rfl, q6⟩ := q167
    refine g_if_eq (t1 := 177) (t2 := 173) dL_inserts_170 (by decide) rfl (fun h170 => ?_) (fun h170 => ?_)
    · exact absurd h170 (by decide)
    · refine g_iconst (t := 174) dL_inserts_173 c_iconst_1 rfl ?_
      refine g_goto (t := 178) dL_inserts_174 (by decide) ?_
      refine g_istore (i := 5) (t := 180) (L1 := [_, _, _, _, _, _, _, _]) dL_inserts_178 (by decide) rfl rfl rfl ?_
      refine g_iconst (t := 181) dL_inserts_180 c_iconst_1 rfl ?_
      refine g_iload_n (i := 3) (t := 182) dL_inserts_181 rfl rfl rfl ?_
      refine g_bipush (t := 184) dL_inserts_182 c_bipush_13 rfl ?_
      refine g_ishr (t := 185) dL_inserts_184 rfl ?_
      refine g_bipush (t := 187) dL_inserts_185 c_bipush_9 rfl ?_
      refine g_cSp (t := 190) mL_low k_L_35 smL_low dL_inserts_187 (l_low (by decide)) rfl rfl (by decide) (by decide) (Nat.le_of_ble_eq_true rfl) rfl (Nat.le_refl _) ?_
      refine g_top (y := nI w') ew ?_
      refine g_iadd (t := 191) dL_inserts_190 rfl ?_
      refine g_top (y := nI (1 + w')) (nI_add _ _) ?_
      refine g_istore (i := 6) (t := 193) (L1 := [_, _, _, _, _, _, _, _]) dL_inserts_191 (by decide) rfl rfl rfl ?_
      refine g_iconst (t := 194) dL_inserts_193 c_iconst_0 rfl ?_
      refine g_istore (i := 7) (t := 196) (L1 := [_, _, _, _, _, _, _, _]) dL_inserts_194 (by decide) rfl rfl rfl ?_
      exact ins_loop (w0 := 1 + w') (γ := S.2.2.2) hn hat hok (by omega) (by omega) hq eq hV (q + 1) 0 J167 [] (by omega) rfl (Nat.zero_le _) (by rw [show nmL false a0 ++ ctL [] = nmL false a0 from List.append_nil _]; exact q6) (hi1.keep (by rw [q4.at 41 rfl, q1.at 41 rfl]; rfl)) (fun w hw => by rw [q4.at 42 rfl, q1.at 42 rfl, gup_rowo _ _ _ (by decide)]; exact h42 w hw) trivial rfl
end INS

