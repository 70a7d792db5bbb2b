/-! the law's start: what is read alone, what is known -/
theorem fl_tabs : ∀ q ∈ gst, Cond.arrayOf (.static "FlexRows" q.1 "[I") .int ∈ Jvm.Free.XT.flat (Jvm.Cond.and given_1 narrow_1) ∧ Cond.eq (.length (.static "FlexRows" q.1 "[I")) (.int (Int32.ofNat q.2.length)) ∈ Jvm.Free.XT.flat (Jvm.Cond.and given_1 narrow_1) ∧ (∀ k, k < q.2.length → Cond.eq (.elem (.static "FlexRows" q.1 "[I") (.int (Int32.ofNat k))) (.int (q.2.getD k 0)) ∈ Jvm.Free.XT.flat (Jvm.Cond.and given_1 narrow_1)) ∧ Cond.laysStatic "FlexRows" q.1 "[I" ∈ lw_tbl := by decide +kernel
theorem tb_init : Cond.initialized "FlexRows" ∈ lw_tbl ∧ Cond.laysStatic "java/lang/String" "COMPACT_STRINGS" "Z" ∈ lw_tbl ∧ Cond.initialized "java/lang/String" ∈ lw_tbl ∧ Cond.laysStatic "jdk/internal/util/Preconditions" "SIOOBE_FORMATTER" "Ljava/util/function/BiFunction;" ∈ lw_tbl ∧ Cond.initialized "jdk/internal/util/Preconditions" ∈ lw_tbl := by decide +kernel
theorem fl_more : Cond.eq (.static "java/lang/String" "COMPACT_STRINGS" "Z") (.int 1) ∈ Jvm.Free.XT.flat (Jvm.Cond.and given_1 narrow_1) ∧ Cond.isRef (.static "jdk/internal/util/Preconditions" "SIOOBE_FORMATTER" "Ljava/util/function/BiFunction;") ∈ Jvm.Free.XT.flat (Jvm.Cond.and given_1 narrow_1) := by decide +kernel
def sTm (i : Nat) : Term := .string "FlexRows$Text" (gtx.getD i (0, "", [])).1
theorem fl_txt : ∀ i, i < 9 → Cond.exactly (sTm i) "java/lang/String" ∈ Jvm.Free.XT.flat (Jvm.Cond.and given_1 narrow_1) ∧ Cond.eq (.field (sTm i) "java/lang/String" "coder" "B") (.int 0) ∈ Jvm.Free.XT.flat (Jvm.Cond.and given_1 narrow_1) ∧ Cond.arrayOf (.field (sTm i) "java/lang/String" "value" "[B") .byte ∈ Jvm.Free.XT.flat (Jvm.Cond.and given_1 narrow_1) ∧ Cond.eq (.length (.field (sTm i) "java/lang/String" "value" "[B")) (.int (Int32.ofNat ((gtx.map (fun q => q.2.2.length)).getD i 0))) ∈ Jvm.Free.XT.flat (Jvm.Cond.and given_1 narrow_1) ∧ (∀ j, j < (gtx.map (fun q => q.2.2.length)).getD i 0 → Cond.eq (.elem (.field (sTm i) "java/lang/String" "value" "[B") (.int (Int32.ofNat j))) (.int (((gtx.map (fun q => q.2.2)).getD i []).getD j 0)) ∈ Jvm.Free.XT.flat (Jvm.Cond.and given_1 narrow_1)) ∧ Cond.stringRef "FlexRows$Text" (gtx.getD i (0, "", [])).1 (gtx.getD i (0, "", [])).2.1 ∈ lw_tbl := by decide +kernel
theorem fl_ne : ∀ i, i < 9 → ∀ j, j < 9 → i < j → Cond.not (Cond.eq (sTm i) (sTm j)) ∈ Jvm.Free.XT.flat (Jvm.Cond.and given_1 narrow_1) := by decide +kernel
theorem tb_nst : ∀ w ∈ gNst, w ∈ lw_tbl ∧ w.onTables = true := by decide +kernel
theorem start_arr {args : Array Value} {s : State} {ty : FieldType} (h : (Cond.arrayClass ty).before args s = true) : ∃ c : ClassId, ArrOfT s c ty ∧ s.vm.findClass ("[" ++ ty.toString) = some c := by
  obtain ⟨c, k, comp, h1, h2, h3⟩ := Cond.arrayClass_spec h
  exact ⟨c, fun n z => ⟨fun k h => (by cases h), k, h2, comp, h3⟩, h1⟩
theorem start_K {args : Array Value} {s : State} (hts : ∀ w ∈ gB, w.before args s = true) : ∃ (G : va_G) (cid : Nat → ClassId), va_K G vwCl [(cid 0, .int), (cid 1, .byte), (cid 2, .boolean)] s := by
  obtain ⟨a0, b0, k0⟩ := u_known (C := RX0) (T := TX0) (N := 5) (n := 5) hts gcl0.2.1 (hts _ ki_X0)
  obtain ⟨a1, b1, k1⟩ := u_known (C := RX1) (T := TX1) (N := 12) (n := 12) hts gcl1.2.1 (hts _ ki_X1)
  obtain ⟨a2, b2, k2⟩ := u_known (C := RX2) (T := TX2) (N := 8) (n := 8) hts gcl2.2.1 (hts _ ki_X2)
  obtain ⟨a3, b3, k3⟩ := u_known (C := RX3) (T := TX3) (N := 8) (n := 8) hts gcl3.2.1 (hts _ ki_X3)
  obtain ⟨a4, b4, k4⟩ := u_known (C := RX4) (T := TX4) (N := 3) (n := 3) hts gcl4.2.1 (hts _ ki_X4)
  obtain ⟨a5, b5, k5⟩ := u_known (C := RX5) (T := TX5) (N := 5) (n := 5) hts gcl5.2.1 (hts _ ki_X5)
  obtain ⟨a6, b6, k6⟩ := u_known (C := RX6) (T := TX6) (N := 8) (n := 8) hts gcl6.2.1 (hts _ ki_X6)
  obtain ⟨c0, p0, q0⟩ := start_arr (hts _ ka_int)
  obtain ⟨c1, p1, q1⟩ := start_arr (hts _ ka_byte)
  obtain ⟨c2, p2, q2⟩ := start_arr (hts _ ka_boolean)
  refine ⟨(fun k => match k with | 0 => a0 | 1 => a1 | 2 => a2 | 3 => a3 | 4 => a4 | 5 => a5 | _ => a6, fun k => match k with | 0 => b0 | 1 => b1 | 2 => b2 | 3 => b3 | 4 => b4 | 5 => b5 | _ => b6), fun k => match k with | 0 => c0 | 1 => c1 | _ => c2, fun k q hq => ?_, fun k q hq => ?_⟩
  · match k, hq with
    | 0, hq => rw [gcl0.1] at hq; cases hq; exact k0
    | 1, hq => rw [gcl1.1] at hq; cases hq; exact k1
    | 2, hq => rw [gcl2.1] at hq; cases hq; exact k2
    | 3, hq => rw [gcl3.1] at hq; cases hq; exact k3
    | 4, hq => rw [gcl4.1] at hq; cases hq; exact k4
    | 5, hq => rw [gcl5.1] at hq; cases hq; exact k5
    | 6, hq => rw [gcl6.1] at hq; cases hq; exact k6
    | k + 7, hq => rw [List.getElem?_eq_none (by show 7 ≤ k + 7; omega)] at hq; cases hq
  · match k, hq with
    | 0, hq => cases hq; exact ⟨p0, q0⟩
    | 1, hq => cases hq; exact ⟨p1, q1⟩
    | 2, hq => cases hq; exact ⟨p2, q2⟩
    | k + 3, hq => simp at hq
theorem start_RO {s : State} {b L : Nat} {xs : Nat → Int32} (hX : va_X b L xs s s.heap) (hbl : b < s.heap.size) (hts : ∀ w ∈ lw_tbl, w.before #[Value.ref b] s = true) (hg : (Jvm.Cond.and given_1 narrow_1).before #[Value.ref b] s = true) : ∃ ro : Nat → Option Nat, ro 0 = some b ∧ ∀ (G : va_G) (cid : Nat → ClassId), gRO (s.heap.size, G, cid, ro, L, xs) (fun q => s.heap.size ≤ q) s s.heap := by
  have hs := flat_of_before _ hg
  have hA : ∀ a : Nat, a < s.heap.size → ¬ (fun q : Nat => s.heap.size ≤ q) a := fun a ha => Nat.not_le.mpr ha
  have tab : ∀ j : Nat, ∃ t : Nat, ∀ q, gst[j]? = some q → va_T .int t q.2.length (fun k => .int (q.2.getD k 0)) (fun q : Nat => s.heap.size ≤ q) s s.heap ∧ va_Z "FlexRows" q.1 "[I" (.ref t) (fun q : Nat => s.heap.size ≤ q) s s.heap := by
    intro j
    cases hj : gst[j]? with
    | none => exact ⟨0, fun q hq => by cases hq⟩
    | some q0 =>
      obtain ⟨f1, f2, f3, f4⟩ := fl_tabs q0 (List.mem_of_getElem? hj)
      have hN : q0.2.length < 2 ^ 31 := (show ∀ q ∈ gst, q.2.length < 2 ^ 31 by decide) q0 (List.mem_of_getElem? hj)
      obtain ⟨t, ht, hT⟩ := va_Tof (A := fun q : Nat => s.heap.size ≤ q) (f := fun k => .int (q0.2.getD k 0)) hN (hs _ f1) (va_eqt (hs _ f2)) (fun k hk => va_eqt (hs _ (f3 k hk))) hA
      exact ⟨t, fun q hq => by cases hq; exact ⟨hT, va_Zref (hts _ f4) (hts _ tb_init.1) ht hA⟩⟩
  obtain ⟨tt, htt⟩ := Classical.axiomOfChoice tab
  obtain ⟨adK, adV, hS, hE⟩ := vk_Sof (args := #[Value.ref b]) (s := s) (N := 9) (tm := sTm) (len := gtx.map (fun q => q.2.2.length)) (byt := gtx.map (fun q => q.2.2)) (A := fun q : Nat => s.heap.size ≤ q) (by decide) (fun i hi => hs _ (fl_txt i hi).1) (fun i hi => hs _ (fl_txt i hi).2.1) (fun i hi => hs _ (fl_txt i hi).2.2.1) (fun i hi => hs _ (fl_txt i hi).2.2.2.1) (fun i hi j hj => hs _ ((fl_txt i hi).2.2.2.2.1 j hj)) (fun i j hi hj hne => by
    rcases Nat.lt_or_gt_of_ne hne with q | q
    · exact Or.inl (hs _ (fl_ne i hi j hj q))
    · exact Or.inr (hs _ (fl_ne j hj i hi q))) hA
  obtain ⟨fm, hfm⟩ : ∃ fm : Option Nat, va_Z "jdk/internal/util/Preconditions" "SIOOBE_FORMATTER" "Ljava/util/function/BiFunction;" (va_rf fm) (fun q : Nat => s.heap.size ≤ q) s s.heap := by
    rcases va_Zqof (hts _ tb_init.2.2.2.1) (hts _ tb_init.2.2.2.2) (hs _ fl_more.2) hA with q | ⟨t, q⟩
    · exact ⟨none, q⟩
    · exact ⟨some t, q⟩
  refine ⟨fun i => if i = 0 then some b else if i < 7 then some (tt (i - 1)) else if 10 ≤ i ∧ i < 19 then some (adK (i - 10)) else if 20 ≤ i ∧ i < 29 then some (adV (i - 20)) else if i = 50 then fm else none, rfl, fun G cid => ⟨⟨b, rfl, ?_⟩, fun j q hj => ?_, ⟨adK, adV, hS, fun i q hi => ?_⟩, fun w hw => va_Nw.of (tb_nst w hw).2 (hts _ (tb_nst w hw).1), va_Zof (hts _ tb_init.2.1) (hts _ tb_init.2.2.1) (va_eqt (hs _ fl_more.1)) hA, hfm⟩⟩
  · obtain ⟨scr, h1, h2, h3, h4, h5⟩ := hX
    exact ⟨scr, h1, h2, h3, Nat.le_of_eq h4.symm, by rw [h4], h5, hA b hbl⟩
  · have hj6 : j < 6 := (List.getElem?_eq_some_iff.mp hj).1
    refine ⟨tt j, ?_, htt j q hj⟩
    show (if j + 1 = 0 then some b else if j + 1 < 7 then some (tt (j + 1 - 1)) else _) = _
    rw [if_neg (by omega), if_pos (by omega)]
    rfl
  · have hi9 : i < 9 := (List.getElem?_eq_some_iff.mp hi).1
    have e : gtx.getD i (0, "", []) = q := by rw [List.getD_eq_getElem?_getD, hi]; rfl
    refine ⟨?_, ?_, ?_⟩
    · show (if 10 + i = 0 then some b else if 10 + i < 7 then some (tt (10 + i - 1)) else if 10 ≤ 10 + i ∧ 10 + i < 19 then some (adK (10 + i - 10)) else _) = _
      rw [if_neg (by omega), if_neg (by omega), if_pos (by omega), Nat.add_sub_cancel_left]
    · show (if 20 + i = 0 then some b else if 20 + i < 7 then some (tt (20 + i - 1)) else if 10 ≤ 20 + i ∧ 20 + i < 19 then some (adK (20 + i - 10)) else if 20 ≤ 20 + i ∧ 20 + i < 29 then some (adV (20 + i - 20)) else _) = _
      rw [if_neg (by omega), if_neg (by omega), if_neg (by omega), if_pos (by omega), Nat.add_sub_cancel_left]
    · have h1 := hts _ (fl_txt i hi9).2.2.2.2.2
      have h2 := hE i hi9
      unfold sTm at h2
      rw [e] at h1 h2
      exact vk_R.of h1 h2
theorem cR_eq : gRL cRL = gR0 := by
  funext o k
  by_cases ho : o < 44
  · by_cases hk : k < 12
    · exact (show ∀ o, o < 44 → ∀ k, k < 12 → gRL cRL o k = gR0 o k by decide +kernel) o ho k hk
    · have h1 : gRL cRL o k = none := by
        have key : ∀ L : List (Nat × Nat × Nat), L.all (fun q => decide (q.2.1 < 12)) = true → gRL L o k = none := by
          intro L
          induction L with
          | nil => exact fun _ => rfl
          | cons q t ih =>
            intro h
            rw [List.all_cons, Bool.and_eq_true] at h
            have h1 := of_decide_eq_true h.1
            show gupR (gRL t) q.1 q.2.1 q.2.2 o k = none
            unfold gupR
            rw [if_neg (fun z => by omega)]
            exact ih h.2
        exact key cRL (by decide)
      have h2 : gR0 o k = none := by
        have key : ∀ o, o < 44 → (gR0L.getD o []).length ≤ 12 := by decide
        unfold gR0
        rw [List.getD_eq_getElem?_getD, List.getElem?_eq_none (by have := key o ho; omega)]
        rfl
      rw [h1, h2]
  · have h2 : gR0 o k = none := by
      unfold gR0
      have : gR0L.getD o [] = [] := by
        rw [List.getD_eq_getElem?_getD, List.getElem?_eq_none (by have : gR0L.length ≤ 44 := by decide
                                                                  omega)]
        rfl
      rw [this]
      rfl
    rw [h2]
    exact gRL_none (n := o) (by
      have : cRL.all (fun q => decide (q.1 < 44)) = true := by decide
      rw [List.all_eq_true] at this ⊢
      intro q hq
      have := of_decide_eq_true (this q hq)
      exact decide_eq_true (by omega)) k

