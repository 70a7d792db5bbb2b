/-! what is asked, as the law asks it -/
section ASK
variable {S : sT} {v : Int32}
theorem it_y {k w : Nat} (hn : S.1.1 ≤ 16) (hk : k < S.1.1) (hw : w < 12) (h : vItem S (nI k) (nI w) v) : v = if w = 11 then wsh S.1.2.1 k else S.1.2.1 k w := by
  rcases h with ⟨b | b, -⟩ | ⟨i2, k2, b1, b2, b3, b4, b5⟩
  · exact absurd b (bd_nI (by omega) hk)
  · exact absurd b (bd_nI (by decide) hw)
  · have e1 : k = i2 := (nI_eq (by omega) (by omega)).mp b2
    have e2 : w = k2 := (nI_eq (by omega) (by omega)).mp b4
    subst e1
    subst e2
    exact b5
theorem it_no1 {y : Int32} (hn : S.1.1 ≤ 16) (h : vItem S (nI S.1.1) y v) : v = -1002 := by
  rcases h with ⟨-, b⟩ | ⟨i2, k2, b1, b2, -⟩
  · exact b
  · have e1 : S.1.1 = i2 := (nI_eq (by omega) (by omega)).mp b2
    omega
theorem it_no2 {x : Int32} (h : vItem S x (nI 12) v) : v = -1002 := by
  rcases h with ⟨-, b⟩ | ⟨i2, k2, b1, b2, b3, b4, -⟩
  · exact b
  · have e1 : 12 = k2 := (nI_eq (by omega) (by omega)).mp b4
    omega
theorem li_hid {k : Nat} (hn : S.1.1 ≤ 16) (hk : k < S.1.1) (hh : ¬ S.1.2.1 k 10 = 0) (h : vLies S (nI k) (nI 0) v) : v = -1003 := by
  rcases h with ⟨b | b, -⟩ | ⟨i2, k2, b1, b2, b3, b4, ⟨b5, b6⟩ | ⟨b5, -⟩⟩
  · exact absurd b (bd_nI (by omega) hk)
  · exact absurd b (bd_nI (by decide) (by decide))
  · exact b6
  · have e1 : k = i2 := (nI_eq (by omega) (by omega)).mp b2
    subst e1
    exact absurd b5 hh
theorem li_y {p j : Nat} (hn : S.1.1 ≤ 16) (hp : p < sC S.1) (hj : j < 8) (h : vLies S (nI ((sQ S.1).2.2.2 p)) (nI j) v) : v = liV S.1 p j := by
  have hf : (sQ S.1).2.2.2 p < S.1.1 := ordS_lt S.1.2.1 S.1.1 p hp
  have hz : S.1.2.1 ((sQ S.1).2.2.2 p) 10 = 0 := ordS_shown S.1.2.1 S.1.1 p hp
  rcases h with ⟨b | b, -⟩ | ⟨i2, k2, b1, b2, b3, b4, ⟨b5, b6⟩ | ⟨b5, p2, b6, b7, b8⟩⟩
  · exact absurd b (bd_nI (by omega) hf)
  · exact absurd b (bd_nI (by decide) hj)
  · have e1 : (sQ S.1).2.2.2 p = i2 := (nI_eq (by omega) (by omega)).mp b2
    rw [← e1] at b5
    exact absurd hz b5
  · have e1 : (sQ S.1).2.2.2 p = i2 := (nI_eq (by omega) (by omega)).mp b2
    have e2 : j = k2 := (nI_eq (by omega) (by omega)).mp b4
    have e3 : p2 = p := ordS_inj S.1.2.1 S.1.1 p2 p b6 hp (b7.trans e1.symm)
    rw [b8, e3, e2]
theorem or_y {p : Nat} (hn : S.1.1 ≤ 16) (hp : p < sC S.1) (h : vOrdered S (nI p) v) : v = nI ((sQ S.1).2.2.2 p) := by
  have hc := sC_le hn
  rcases h with ⟨b, -⟩ | ⟨-, b, -⟩ | ⟨p2, b1, b2, b3⟩
  · exact absurd b (nI_pos (by omega))
  · exact absurd b (bd_nI (by omega) hp)
  · have e1 : p = p2 := (nI_eq (by omega) (by omega)).mp b2
    subst e1
    exact b3
theorem or_c (hn : S.1.1 ≤ 16) (h : vOrdered S (nI (sC S.1)) v) : v = -1001 := by
  have hc := sC_le hn
  rcases h with ⟨b, -⟩ | ⟨-, -, b⟩ | ⟨p2, b1, b2, b3⟩
  · exact absurd b (nI_pos (by omega))
  · exact b
  · have e1 : sC S.1 = p2 := (nI_eq (by omega) (by omega)).mp b2
    omega
theorem co_y {k : Nat} (hk : k < 14) (h : vCount S (nI k) v) : v = cnV S k := by
  rcases h with ⟨b, -⟩ | ⟨k2, b1, b2, b3⟩
  · exact absurd b (bd_nI (by decide) hk)
  · have e1 : k = k2 := (nI_eq (by omega) (by omega)).mp b2
    subst e1
    exact b3
theorem co_14 (h : vCount S (nI 14) v) : v = -1002 := by
  rcases h with ⟨-, b⟩ | ⟨k2, b1, b2, b3⟩
  · exact b
  · have e1 : 14 = k2 := (nI_eq (by omega) (by omega)).mp b2
    omega
theorem ln_y {l k : Nat} (hn : S.1.1 ≤ 16) (hl : l < nln (sQ S.1) (sC S.1)) (hk : k < 8) (h : vLine S (nI l) (nI k) v) : v = lnV S.1 l k := by
  have hc := sC_le hn
  have hnl := nln_le (sQ S.1) (sC S.1)
  rcases h with ⟨b | b, -⟩ | ⟨-, -, b, -⟩ | ⟨l2, k2, b1, b2, b3, b4, b5⟩
  · exact absurd b (nI_pos (by omega))
  · exact absurd b (bd_nI (by decide) hk)
  · exact absurd b (bd_nI (by omega) hl)
  · have e1 : l = l2 := (nI_eq (by omega) (by omega)).mp b2
    have e2 : k = k2 := (nI_eq (by omega) (by omega)).mp b4
    subst e1
    subst e2
    exact b5
theorem ln_c (hn : S.1.1 ≤ 16) (h : vLine S (nI (nln (sQ S.1) (sC S.1))) (nI 0) v) : v = -1001 := by
  have hc := sC_le hn
  have hnl := nln_le (sQ S.1) (sC S.1)
  rcases h with ⟨b | b, -⟩ | ⟨-, -, -, b⟩ | ⟨l2, k2, b1, b2, -⟩
  · exact absurd b (nI_pos (by omega))
  · exact absurd b (bd_nI (by decide) (by decide))
  · exact b
  · have e1 : nln (sQ S.1) (sC S.1) = l2 := (nI_eq (by omega) (by omega)).mp b2
    omega
theorem neg1_n {n : Nat} (hn : n < 1000) : ¬ (-1 : Int32) = nI n := fun b => by
  have := congrArg Int32.toInt b
  rw [nI_toInt (by omega), show (-1 : Int32).toInt = -1 by decide +kernel] at this
  omega
theorem or_m (hn : S.1.1 ≤ 16) (h : vOrdered S (-1) v) : v = -1002 := by
  have hc := sC_le hn
  rcases h with ⟨-, b⟩ | ⟨b, -⟩ | ⟨p2, b1, b2, b3⟩
  · exact b
  · exact absurd (by decide) b
  · exact absurd b2 (neg1_n (by omega))
theorem ln_m {y : Int32} (hn : S.1.1 ≤ 16) (h : vLine S (-1) y v) : v = -1002 := by
  have hc := sC_le hn
  have hnl := nln_le (sQ S.1) (sC S.1)
  rcases h with ⟨-, b⟩ | ⟨b, -⟩ | ⟨l2, k2, b1, b2, -⟩
  · exact b
  · exact absurd (by decide) b
  · exact absurd b2 (neg1_n (by omega))
theorem ln_8 {x : Int32} (h : vLine S x (nI 8) v) : v = -1002 := by
  rcases h with ⟨-, b⟩ | ⟨-, b, -⟩ | ⟨l2, k2, b1, b2, b3, b4, -⟩
  · exact b
  · exact absurd (Or.inr (Int32.le_refl _)) b
  · have e1 : 8 = k2 := (nI_eq (by omega) (by omega)).mp b4
    omega
end ASK
/-- how many of the first so many are hidden -/
def hdS (P : dP) : Nat → Nat
  | 0 => 0
  | k + 1 => hdS P k + if P k 10 = 0 then 0 else 1
theorem hdS_c (P : dP) : ∀ n, (ordS P n).1 + hdS P n = n
  | 0 => rfl
  | n + 1 => by
    have ih := hdS_c P n
    unfold ordS hdS
    by_cases y : P n 10 = 0
    · rw [if_pos y, if_pos y]
      show (ordS P n).1 + 1 + (hdS P n + 0) = n + 1
      omega
    · rw [if_neg y, if_neg y]
      omega
section ITM
variable {E : gE} {I : Nat → Nat → Int32} {h : gX} {S : sT}
abbrev itG (E : gE) (h : gX) (pc : Nat) (L st : List Value) (I J : Nat → Nat → Int32) (S : sT) : Prop := Wp E fL_areItems (gn h) pc L st (gM J h) (gRet fL_areItems (gn h) (fun r σ' => ∃ (v : Int32) (I' : Nat → Nat → Int32), r = some (.int v) ∧ σ' = gM I' h ∧ gSame CL I I' ∧ v = nI 1 ∧ rX I' S))
/-- the numbers -/
theorem itm_3 (hA : aX I S) (hO : orX I S) {v6 : Value} : ∀ (d k : Nat) (J : Nat → Nat → Int32), k + d = 7 → gSame CL I J → rX J S → itG E h 190 [.ref 0, .ref 41, .ref 42, .ref 43, .int (nI (hdS S.1.2.1 S.1.1)), .int (nI k), v6] [] I J S := by
  obtain ⟨a1, a2, a3, a4⟩ := id hA
  obtain ⟨o1, o2, o3⟩ := id hO
  have hc5 : sC S.1 ≤ S.1.1 := ordS_le S.1.2.1 S.1.1
  have hd := hdS_c S.1.2.1 S.1.1
  intro d
  induction d with
  | zero =>
    intro k J hk hs hX
    have hk : k = 7 := by omega
    subst hk
    have h16 : S.1.1 ≤ 16 := by omega
    refine g_iload (i := 5) (t := 192) dL_areItems_190 rfl rfl ?_
    refine g_bipush (t := 194) dL_areItems_192 c_bipush_7 rfl ?_
    refine g_icmp_ge_n (t1 := 221) (t2 := 197) dL_areItems_194 (by decide) rfl (by omega) (by omega) (fun h194 => ?_) (fun h194 => ?_)
    · refine g_aload_n (i := 0) (r := 0) (t := 222) dL_areItems_221 rfl rfl (Or.inl l9_0) rfl ?_
      refine g_iconst (t := 223) dL_areItems_222 c_iconst_0 rfl ?_
      refine g_cVi (o := 0) (t := 226) mX6_count k_L_92 imX6_count seX6_count l6_0 l9_0 s_0 rfl dL_areItems_223 (x6_count hX) rfl rfl (by decide) (by decide) (Nat.le_of_ble_eq_true rfl) rfl (Nat.le_refl _) (fun v223 J223 q223 => ?_)
      obtain ⟨zq1, zq2, zq3⟩ := q223
      have e223 := co_y (k := 0) (by decide) zq3
      have zs1 := hs.trans zq1
      refine g_aload_n (i := 1) (r := 41) (t := 227) dL_areItems_226 rfl rfl (Or.inl l9_41) rfl ?_
      refine g_bipush (t := 229) dL_areItems_227 c_bipush_60 rfl ?_
      refine gm_iald_x (a := 41) (n := 64) (t := 230) l6_41 l9_41 s_41 dL_areItems_229 rfl (by omega) (by decide) rfl ?_
      rw [zs1.at 41 rfl, a2]
      refine g_icmp_ne (t1 := 312) (t2 := 233) dL_areItems_230 (by decide) rfl (fun h230 => ?_) (fun h230 => ?_)
      · exact absurd e223 h230
      · refine g_aload_n (i := 0) (r := 0) (t := 234) dL_areItems_233 rfl rfl (Or.inl l9_0) rfl ?_
        refine g_iconst (t := 235) dL_areItems_234 c_iconst_1 rfl ?_
        refine g_cVi (o := 0) (t := 238) mX6_count k_L_92 imX6_count seX6_count l6_0 l9_0 s_0 rfl dL_areItems_235 (x6_count zq2) rfl rfl (by decide) (by decide) (Nat.le_of_ble_eq_true rfl) rfl (Nat.le_refl _) (fun v235 J235 q235 => ?_)
        obtain ⟨zq4, zq5, zq6⟩ := q235
        have e235 := co_y (k := 1) (by decide) zq6
        have e235b : cnV S 1 = nI (hdS S.1.2.1 S.1.1) := by
          show nI (S.1.1 - (ordS S.1.2.1 S.1.1).1) = _
          exact congrArg nI (by omega)
        refine g_iload (i := 4) (t := 240) dL_areItems_238 rfl rfl ?_
        refine g_icmp_ne (t1 := 312) (t2 := 243) dL_areItems_240 (by decide) rfl (fun h240 => ?_) (fun h240 => ?_)
        · exact absurd (e235.trans e235b) h240
        · refine g_aload_n (i := 0) (r := 0) (t := 244) dL_areItems_243 rfl rfl (Or.inl l9_0) rfl ?_
          refine g_iconst (t := 245) dL_areItems_244 c_iconst_2 rfl ?_
          refine g_cVi (o := 0) (t := 248) mX6_count k_L_92 imX6_count seX6_count l6_0 l9_0 s_0 rfl dL_areItems_245 (x6_count zq5) rfl rfl (by decide) (by decide) (Nat.le_of_ble_eq_true rfl) rfl (Nat.le_refl _) (fun v245 J245 q245 => ?_)
          obtain ⟨zq7, zq8, zq9⟩ := q245
          have e245 := co_y (k := 2) (by decide) zq9
          have zs2 := (zs1.trans zq4).trans zq7
          refine g_aload_n (i := 3) (r := 43) (t := 249) dL_areItems_248 rfl rfl (Or.inl l9_43) rfl ?_
          refine g_bipush (t := 251) dL_areItems_249 c_bipush_17 rfl ?_
          refine gm_iald_x (a := 43) (n := 24) (t := 252) l6_43 l9_43 s_43 dL_areItems_251 rfl (by omega) (by decide) rfl ?_
          rw [zs2.at 43 rfl, o3]
          refine g_icmp_ne (t1 := 312) (t2 := 255) dL_areItems_252 (by decide) rfl (fun h252 => ?_) (fun h252 => ?_)
          · exact absurd e245 h252
          · refine g_aload_n (i := 0) (r := 0) (t := 256) dL_areItems_255 rfl rfl (Or.inl l9_0) rfl ?_
            refine g_aload_n (i := 3) (r := 43) (t := 257) dL_areItems_256 rfl rfl (Or.inl l9_43) rfl ?_
            refine g_bipush (t := 259) dL_areItems_257 c_bipush_16 rfl ?_
            refine gm_iald_x (a := 43) (n := 24) (t := 260) l6_43 l9_43 s_43 dL_areItems_259 rfl (by omega) (by decide) rfl ?_
            rw [zs2.at 43 rfl, o2]
            refine g_cVi (o := 0) (t := 263) mX6_ordered k_L_89 imX6_ordered seX6_ordered l6_0 l9_0 s_0 rfl dL_areItems_260 (x6_ordered zq8) rfl rfl (by decide) (by decide) (Nat.le_of_ble_eq_true rfl) rfl (Nat.le_refl _) (fun v260 J260 q260 => ?_)
            obtain ⟨zr1, zr2, zr3⟩ := q260
            have e260 := or_c h16 zr3
            refine g_sipush (t := 266) dL_areItems_263 c_sipush_m1001 rfl ?_
            refine g_icmp_ne (t1 := 312) (t2 := 269) dL_areItems_266 (by decide) rfl (fun h266 => ?_) (fun h266 => ?_)
            · exact absurd e260 h266
            · refine g_aload_n (i := 0) (r := 0) (t := 270) dL_areItems_269 rfl rfl (Or.inl l9_0) rfl ?_
              refine g_iconst (t := 271) dL_areItems_270 c_iconst_m1 rfl ?_
              refine g_cVi (o := 0) (t := 274) mX6_ordered k_L_89 imX6_ordered seX6_ordered l6_0 l9_0 s_0 rfl dL_areItems_271 (x6_ordered zr2) rfl rfl (by decide) (by decide) (Nat.le_of_ble_eq_true rfl) rfl (Nat.le_refl _) (fun v271 J271 q271 => ?_)
              obtain ⟨zr4, zr5, zr6⟩ := q271
              have e271 := or_m h16 zr6
              have zs3 := (zs2.trans zr1).trans zr4
              obtain ⟨zv1, zw1, zx1⟩ := x6_item (E := E) (h := h) (x := nI S.1.1) (y := nI 0) zr5
              obtain ⟨zv2, zw2, zx2⟩ := x6_item (E := E) (h := h) (x := nI 0) (y := nI 12) zr5
              refine g_sipush (t := 277) dL_areItems_274 c_sipush_m1002 rfl ?_
              refine g_icmp_ne (t1 := 312) (t2 := 280) dL_areItems_277 (by decide) rfl (fun h277 => ?_) (fun h277 => ?_)
              · exact absurd e271 h277
              · refine g_aload_n (i := 0) (r := 0) (t := 281) dL_areItems_280 rfl rfl (Or.inl l9_0) rfl ?_
                refine g_aload_n (i := 1) (r := 41) (t := 282) dL_areItems_281 rfl rfl (Or.inl l9_41) rfl ?_
                refine g_bipush (t := 284) dL_areItems_282 c_bipush_60 rfl ?_
                refine gm_iald_x (a := 41) (n := 64) (t := 285) l6_41 l9_41 s_41 dL_areItems_284 rfl (by omega) (by decide) rfl ?_
                rw [zs3.at 41 rfl, a2]
                refine g_iconst (t := 286) dL_areItems_285 c_iconst_0 rfl ?_
                refine g_cVp (o := 0) (t := 289) mX6_item k_L_83 imX6_item seX6_item l6_0 l9_0 s_0 rfl dL_areItems_286 (zx1) rfl rfl (by decide) (by decide) (Nat.le_of_ble_eq_true rfl) rfl (Nat.le_refl _) ?_
                refine g_sipush (t := 292) dL_areItems_289 c_sipush_m1002 rfl ?_
                refine g_icmp_ne (t1 := 312) (t2 := 295) dL_areItems_292 (by decide) rfl (fun h292 => ?_) (fun h292 => ?_)
                · exact absurd (it_no1 h16 zw1) h292
                · refine g_aload_n (i := 0) (r := 0) (t := 296) dL_areItems_295 rfl rfl (Or.inl l9_0) rfl ?_
                  refine g_iconst (t := 297) dL_areItems_296 c_iconst_0 rfl ?_
                  refine g_bipush (t := 299) dL_areItems_297 c_bipush_12 rfl ?_
                  refine g_cVp (o := 0) (t := 302) mX6_item k_L_83 imX6_item seX6_item l6_0 l9_0 s_0 rfl dL_areItems_299 (zx2) rfl rfl (by decide) (by decide) (Nat.le_of_ble_eq_true rfl) rfl (Nat.le_refl _) ?_
                  refine g_sipush (t := 305) dL_areItems_302 c_sipush_m1002 rfl ?_
                  refine g_icmp_ne (t1 := 312) (t2 := 308) dL_areItems_305 (by decide) rfl (fun h305 => ?_) (fun h305 => ?_)
                  · exact absurd (it_no2 zw2) h305
                  · refine g_iconst (t := 309) dL_areItems_308 c_iconst_1 rfl ?_
                    refine g_goto (t := 313) dL_areItems_309 (by decide) ?_
                    exact g_retI dL_areItems_313 rfl (by decide +kernel) (⟨zs3, rfl, zr5⟩)
    · exfalso; omega
  | succ d ih =>
    intro k J hk hs hX
    refine g_iload (i := 5) (t := 192) dL_areItems_190 rfl rfl ?_
    refine g_bipush (t := 194) dL_areItems_192 c_bipush_7 rfl ?_
    refine g_icmp_ge_n (t1 := 221) (t2 := 197) dL_areItems_194 (by decide) rfl (by omega) (by omega) (fun h194 => ?_) (fun h194 => ?_)
    · exfalso; omega
    · refine g_aload_n (i := 0) (r := 0) (t := 198) dL_areItems_197 rfl rfl (Or.inl l9_0) rfl ?_
      refine g_bipush (t := 200) dL_areItems_198 c_bipush_7 rfl ?_
      refine g_iload (i := 5) (t := 202) dL_areItems_200 rfl rfl ?_
      refine g_iadd (t := 203) dL_areItems_202 rfl ?_
      refine g_top (y := nI (7 + k)) (nI_add _ _) ?_
      refine g_cVi (o := 0) (t := 206) mX6_count k_L_92 imX6_count seX6_count l6_0 l9_0 s_0 rfl dL_areItems_203 (x6_count hX) rfl rfl (by decide) (by decide) (Nat.le_of_ble_eq_true rfl) rfl (Nat.le_refl _) (fun v203 J203 q203 => ?_)
      obtain ⟨zq1, zq2, zq3⟩ := q203
      have e203 := co_y (k := 7 + k) (by omega) zq3
      have e203b : cnV S (7 + k) = S.1.2.2 k := by rw [Nat.add_comm]; rfl
      refine g_aload_n (i := 2) (r := 42) (t := 207) dL_areItems_206 rfl rfl (Or.inl l9_42) rfl ?_
      refine g_iload (i := 5) (t := 209) dL_areItems_207 rfl rfl ?_
      refine gm_iald_x (a := 42) (n := 8) (t := 210) l6_42 l9_42 s_42 dL_areItems_209 rfl (by omega) (by decide) rfl ?_
      rw [(hs.trans zq1).at 42 rfl, a4 k (by omega)]
      refine g_icmp_eq (t1 := 215) (t2 := 213) dL_areItems_210 (by decide) rfl (fun h210 => ?_) (fun h210 => ?_)
      · refine g_iinc (i := 5) (t := 218) (L1 := [_, _, _, _, _, _, _]) dL_areItems_215 rfl (gi_1 _) (by decide) rfl rfl rfl ?_
        refine g_goto (t := 190) dL_areItems_218 (by decide) ?_
        exact ih (k + 1) J203 (by omega) (hs.trans zq1) zq2
      · exact absurd (e203.trans e203b) h210
/-- the order and the lines -/
theorem itm_2 (hA : aX I S) (hO : orX I S) {v6 : Value} : ∀ (d p : Nat) (J : Nat → Nat → Int32), p + d = sC S.1 → gSame CL I J → rX J S → itG E h 124 [.ref 0, .ref 41, .ref 42, .ref 43, .int (nI (hdS S.1.2.1 S.1.1)), .int (nI p), v6] [] I J S := by
  obtain ⟨a1, a2, a3, a4⟩ := id hA
  obtain ⟨o1, o2, o3⟩ := id hO
  have hc5 : sC S.1 ≤ S.1.1 := ordS_le S.1.2.1 S.1.1
  have h16 : S.1.1 ≤ 16 := by omega
  intro d
  induction d with
  | zero =>
    intro p J hp hs hX
    have hp : p = sC S.1 := by omega
    subst hp
    refine g_iload (i := 5) (t := 126) dL_areItems_124 rfl rfl ?_
    refine g_aload_n (i := 3) (r := 43) (t := 127) dL_areItems_126 rfl rfl (Or.inl l9_43) rfl ?_
    refine g_bipush (t := 129) dL_areItems_127 c_bipush_16 rfl ?_
    refine gm_iald_x (a := 43) (n := 24) (t := 130) l6_43 l9_43 s_43 dL_areItems_129 rfl (by omega) (by decide) rfl ?_
    rw [hs.at 43 rfl, o2]
    refine g_icmp_ge_n (t1 := 187) (t2 := 133) dL_areItems_130 (by decide) rfl (by omega) (by omega) (fun h130 => ?_) (fun h130 => ?_)
    · refine g_iconst (t := 188) dL_areItems_187 c_iconst_0 rfl ?_
      refine g_istore (i := 5) (t := 190) (L1 := [_, _, _, _, _, _, _]) dL_areItems_188 (by decide) rfl rfl rfl ?_
      exact itm_3 hA hO 7 0 J rfl hs hX
    · exfalso; omega
  | succ d ih =>
    intro p J hp hs hX
    obtain ⟨o4, o5⟩ := o1 p (by omega)
    refine g_iload (i := 5) (t := 126) dL_areItems_124 rfl rfl ?_
    refine g_aload_n (i := 3) (r := 43) (t := 127) dL_areItems_126 rfl rfl (Or.inl l9_43) rfl ?_
    refine g_bipush (t := 129) dL_areItems_127 c_bipush_16 rfl ?_
    refine gm_iald_x (a := 43) (n := 24) (t := 130) l6_43 l9_43 s_43 dL_areItems_129 rfl (by omega) (by decide) rfl ?_
    rw [hs.at 43 rfl, o2]
    refine g_icmp_ge_n (t1 := 187) (t2 := 133) dL_areItems_130 (by decide) rfl (by omega) (by omega) (fun h130 => ?_) (fun h130 => ?_)
    · exfalso; omega
    · refine g_aload_n (i := 0) (r := 0) (t := 134) dL_areItems_133 rfl rfl (Or.inl l9_0) rfl ?_
      refine g_iload (i := 5) (t := 136) dL_areItems_134 rfl rfl ?_
      refine g_cVi (o := 0) (t := 139) mX6_ordered k_L_89 imX6_ordered seX6_ordered l6_0 l9_0 s_0 rfl dL_areItems_136 (x6_ordered hX) rfl rfl (by decide) (by decide) (Nat.le_of_ble_eq_true rfl) rfl (Nat.le_refl _) (fun v136 J136 q136 => ?_)
      obtain ⟨zq1, zq2, zq3⟩ := q136
      have e136 := or_y h16 (show p < sC S.1 by omega) zq3
      have zs1 := hs.trans zq1
      refine g_aload_n (i := 3) (r := 43) (t := 140) dL_areItems_139 rfl rfl (Or.inl l9_43) rfl ?_
      refine g_iload (i := 5) (t := 142) dL_areItems_140 rfl rfl ?_
      refine gm_iald_x (a := 43) (n := 24) (t := 143) l6_43 l9_43 s_43 dL_areItems_142 rfl (by omega) (by decide) rfl ?_
      rw [zs1.at 43 rfl, o4]
      refine g_icmp_ne (t1 := 179) (t2 := 146) dL_areItems_143 (by decide) rfl (fun h143 => ?_) (fun h143 => ?_)
      · exact absurd e136 h143
      · refine g_aload_n (i := 0) (r := 0) (t := 147) dL_areItems_146 rfl rfl (Or.inl l9_0) rfl ?_
        refine g_aload_n (i := 3) (r := 43) (t := 148) dL_areItems_147 rfl rfl (Or.inl l9_43) rfl ?_
        refine g_iload (i := 5) (t := 150) dL_areItems_148 rfl rfl ?_
        refine gm_iald_x (a := 43) (n := 24) (t := 151) l6_43 l9_43 s_43 dL_areItems_150 rfl (by omega) (by decide) rfl ?_
        rw [zs1.at 43 rfl, o4]
        refine g_iconst (t := 152) dL_areItems_151 c_iconst_1 rfl ?_
        refine g_cVi (o := 0) (t := 155) mX6_lies k_L_86 imX6_lies seX6_lies l6_0 l9_0 s_0 rfl dL_areItems_152 (x6_lies zq2) rfl rfl (by decide) (by decide) (Nat.le_of_ble_eq_true rfl) rfl (Nat.le_refl _) (fun v152 J152 q152 => ?_)
        obtain ⟨zq4, zq5, zq6⟩ := q152
        have e152 := li_y h16 (show p < sC S.1 by omega) (by decide) zq6
        have zs2 := zs1.trans zq4
        refine g_iload (i := 5) (t := 157) dL_areItems_155 rfl rfl ?_
        refine g_icmp_ne (t1 := 179) (t2 := 160) dL_areItems_157 (by decide) rfl (fun h157 => ?_) (fun h157 => ?_)
        · exact absurd e152 h157
        · refine g_aload_n (i := 0) (r := 0) (t := 161) dL_areItems_160 rfl rfl (Or.inl l9_0) rfl ?_
          refine g_aload_n (i := 3) (r := 43) (t := 162) dL_areItems_161 rfl rfl (Or.inl l9_43) rfl ?_
          refine g_iload (i := 5) (t := 164) dL_areItems_162 rfl rfl ?_
          refine gm_iald_x (a := 43) (n := 24) (t := 165) l6_43 l9_43 s_43 dL_areItems_164 rfl (by omega) (by decide) rfl ?_
          rw [zs2.at 43 rfl, o4]
          refine g_iconst (t := 166) dL_areItems_165 c_iconst_0 rfl ?_
          refine g_cVi (o := 0) (t := 169) mX6_lies k_L_86 imX6_lies seX6_lies l6_0 l9_0 s_0 rfl dL_areItems_166 (x6_lies zq5) rfl rfl (by decide) (by decide) (Nat.le_of_ble_eq_true rfl) rfl (Nat.le_refl _) (fun v166 J166 q166 => ?_)
          obtain ⟨zq7, zq8, zq9⟩ := q166
          have e166 := li_y h16 (show p < sC S.1 by omega) (by decide) zq9
          have zs3 := zs2.trans zq7
          refine g_aload_n (i := 3) (r := 43) (t := 170) dL_areItems_169 rfl rfl (Or.inl l9_43) rfl ?_
          refine g_bipush (t := 172) dL_areItems_170 c_bipush_8 rfl ?_
          refine g_iload (i := 5) (t := 174) dL_areItems_172 rfl rfl ?_
          refine g_iadd (t := 175) dL_areItems_174 rfl ?_
          refine gm_iald_x (a := 43) (n := 24) (t := 176) l6_43 l9_43 s_43 dL_areItems_175 (ix_a _ _) (by omega) (by decide) rfl ?_
          rw [zs3.at 43 rfl, o5]
          refine g_icmp_eq (t1 := 181) (t2 := 179) dL_areItems_176 (by decide) rfl (fun h176 => ?_) (fun h176 => ?_)
          · refine g_iinc (i := 5) (t := 184) (L1 := [_, _, _, _, _, _, _]) dL_areItems_181 rfl (gi_1 _) (by decide) rfl rfl rfl ?_
            refine g_goto (t := 124) dL_areItems_184 (by decide) ?_
            exact ih (p + 1) J166 (by omega) zs3 zq8
          · exact absurd e166 h176
/-- one item's properties -/
theorem itm_in {k : Nat} {J : Nat → Nat → Int32} (hA : aX I S) (hs : gSame CL I J) (hX : rX J S) (hk : k < S.1.1) {p4 : Int32} (kk : itG E h 54 [.ref 0, .ref 41, .ref 42, .ref 43, .int p4, .int (nI k), .int (nI 11)] [] I J S) : ∀ (d w : Nat), w + d = 11 → itG E h 18 [.ref 0, .ref 41, .ref 42, .ref 43, .int p4, .int (nI k), .int (nI w)] [] I J S := by
  obtain ⟨a1, a2, a3, a4⟩ := id hA
  intro d
  induction d with
  | zero =>
    intro w hw
    have hw : w = 11 := by omega
    subst hw
    refine g_iload (i := 6) (t := 20) dL_areItems_18 rfl rfl ?_
    refine g_bipush (t := 22) dL_areItems_20 c_bipush_11 rfl ?_
    refine g_icmp_ge_n (t1 := 54) (t2 := 25) dL_areItems_22 (by decide) rfl (by omega) (by omega) (fun h22 => ?_) (fun h22 => ?_)
    · exact kk
    · exfalso; omega
  | succ d ih =>
    intro w hw
    obtain ⟨zv1, zw1, zx1⟩ := x6_item (E := E) (h := h) (x := nI k) (y := nI w) hX
    have e1 := it_y (show S.1.1 ≤ 16 by omega) hk (show w < 12 by omega) zw1
    rw [if_neg (by omega)] at e1
    refine g_iload (i := 6) (t := 20) dL_areItems_18 rfl rfl ?_
    refine g_bipush (t := 22) dL_areItems_20 c_bipush_11 rfl ?_
    refine g_icmp_ge_n (t1 := 54) (t2 := 25) dL_areItems_22 (by decide) rfl (by omega) (by omega) (fun h22 => ?_) (fun h22 => ?_)
    · exfalso; omega
    · refine g_aload_n (i := 0) (r := 0) (t := 26) dL_areItems_25 rfl rfl (Or.inl l9_0) rfl ?_
      refine g_iload (i := 5) (t := 28) dL_areItems_26 rfl rfl ?_
      refine g_iload (i := 6) (t := 30) dL_areItems_28 rfl rfl ?_
      refine g_cVp (o := 0) (t := 33) mX6_item k_L_83 imX6_item seX6_item l6_0 l9_0 s_0 rfl dL_areItems_30 (zx1) rfl rfl (by decide) (by decide) (Nat.le_of_ble_eq_true rfl) rfl (Nat.le_refl _) ?_
      refine g_aload_n (i := 1) (r := 41) (t := 34) dL_areItems_33 rfl rfl (Or.inl l9_41) rfl ?_
      refine g_bipush (t := 36) dL_areItems_34 c_bipush_12 rfl ?_
      refine g_iload (i := 5) (t := 38) dL_areItems_36 rfl rfl ?_
      refine g_imul (t := 39) dL_areItems_38 rfl ?_
      refine g_iload (i := 6) (t := 41) dL_areItems_39 rfl rfl ?_
      refine g_iadd (t := 42) dL_areItems_41 rfl ?_
      refine gm_iald_x (a := 41) (n := 64) (t := 43) l6_41 l9_41 s_41 dL_areItems_42 (ix_ma _ _ _) (by omega) (by decide) rfl ?_
      rw [hs.at 41 rfl, a3 k w hk (by omega)]
      refine g_icmp_eq (t1 := 48) (t2 := 46) dL_areItems_43 (by decide) rfl (fun h43 => ?_) (fun h43 => ?_)
      · refine g_iinc (i := 6) (t := 51) (L1 := [_, _, _, _, _, _, _]) dL_areItems_48 rfl (gi_1 _) (by decide) rfl rfl rfl ?_
        refine g_goto (t := 18) dL_areItems_51 (by decide) ?_
        exact ih (w + 1) (by omega)
      · exact absurd e1 h43
theorem itm_1 (hA : aX I S) (hO : orX I S) (hV : vT S) : ∀ (d k : Nat) (J : Nat → Nat → Int32) (v6 : Value), k + d = S.1.1 → gSame CL I J → rX J S → itG E h 6 [.ref 0, .ref 41, .ref 42, .ref 43, .int (nI (hdS S.1.2.1 k)), .int (nI k), v6] [] I J S := by
  obtain ⟨a1, a2, a3, a4⟩ := id hA
  intro d
  induction d with
  | zero =>
    intro k J v6 hk hs hX
    have hk : k = S.1.1 := by omega
    subst hk
    refine g_iload (i := 5) (t := 8) dL_areItems_6 rfl rfl ?_
    refine g_aload_n (i := 1) (r := 41) (t := 9) dL_areItems_8 rfl rfl (Or.inl l9_41) rfl ?_
    refine g_bipush (t := 11) dL_areItems_9 c_bipush_60 rfl ?_
    refine gm_iald_x (a := 41) (n := 64) (t := 12) l6_41 l9_41 s_41 dL_areItems_11 rfl (by omega) (by decide) rfl ?_
    rw [hs.at 41 rfl, a2]
    refine g_icmp_ge_n (t1 := 121) (t2 := 15) dL_areItems_12 (by decide) rfl (by omega) (by omega) (fun h12 => ?_) (fun h12 => ?_)
    · refine g_iconst (t := 122) dL_areItems_121 c_iconst_0 rfl ?_
      refine g_istore (i := 5) (t := 124) (L1 := [_, _, _, _, _, _, _]) dL_areItems_122 (by decide) rfl rfl rfl ?_
      exact itm_2 hA hO (sC S.1) 0 J (Nat.zero_add _) hs hX
    · exfalso; omega
  | succ d ih =>
    intro k J v6 hk hs hX
    have hk5 : k < S.1.1 := by omega
    have e10 : ∀ J2 : Nat → Nat → Int32, gSame CL I J2 → J2 41 (12 * k + 10) = S.1.2.1 k 10 := fun J2 h2 => by rw [h2.at 41 rfl, a3 k 10 hk5 (by decide)]
    have T100 : ∀ (J2 : Nat → Nat → Int32), gSame CL I J2 → rX J2 S → itG E h 100 [.ref 0, .ref 41, .ref 42, .ref 43, .int (nI (hdS S.1.2.1 k)), .int (nI k), .int (nI 11)] [] I J2 S := by
      intro J2 hs2 hX2
      have ih := ih (k + 1) J2 (.int (nI 11)) (by omega) hs2 hX2
      have ehd : nI (hdS S.1.2.1 k) + S.1.2.1 k 10 = nI (hdS S.1.2.1 (k + 1)) := by
        rw [hdS]
        rcases hV.1.p10 hk5 with y | y
        · rw [if_pos y, y]
          exact Int32.add_zero _
        · rw [if_neg (by rw [y]; decide), y]
          exact nI_add _ _
      refine g_iload (i := 4) (t := 102) dL_areItems_100 rfl rfl ?_
      refine g_aload_n (i := 1) (r := 41) (t := 103) dL_areItems_102 rfl rfl (Or.inl l9_41) rfl ?_
      refine g_bipush (t := 105) dL_areItems_103 c_bipush_12 rfl ?_
      refine g_iload (i := 5) (t := 107) dL_areItems_105 rfl rfl ?_
      refine g_imul (t := 108) dL_areItems_107 rfl ?_
      refine g_bipush (t := 110) dL_areItems_108 c_bipush_10 rfl ?_
      refine g_iadd (t := 111) dL_areItems_110 rfl ?_
      refine gm_iald_x (a := 41) (n := 64) (t := 112) l6_41 l9_41 s_41 dL_areItems_111 (ix_ma _ _ _) (by omega) (by decide) rfl ?_
      rw [e10 J2 hs2]
      refine g_iadd (t := 113) dL_areItems_112 rfl ?_
      refine g_top ehd ?_
      refine g_istore (i := 4) (t := 115) (L1 := [_, _, _, _, _, _, _]) dL_areItems_113 (by decide) rfl rfl rfl ?_
      refine g_iinc (i := 5) (t := 118) (L1 := [_, _, _, _, _, _, _]) dL_areItems_115 rfl (gi_1 _) (by decide) rfl rfl rfl ?_
      refine g_goto (t := 6) dL_areItems_118 (by decide) ?_
      exact ih
    have T54 : itG E h 54 [.ref 0, .ref 41, .ref 42, .ref 43, .int (nI (hdS S.1.2.1 k)), .int (nI k), .int (nI 11)] [] I J S := by
      obtain ⟨zv1, zw1, zx1⟩ := x6_item (E := E) (h := h) (x := nI k) (y := nI 11) hX
      have e1 := it_y (show S.1.1 ≤ 16 by omega) hk5 (show 11 < 12 by decide) zw1
      rw [if_pos rfl] at e1
      have ew : wsh (aP J) k = wsh S.1.2.1 k := wsh_cong (by show J 41 _ = _; rw [hs.at 41 rfl]; exact a3 k 0 hk5 (by decide)) (by show J 41 _ = _; rw [hs.at 41 rfl]; exact a3 k 3 hk5 (by decide)) (by show J 41 _ = _; rw [hs.at 41 rfl]; exact a3 k 4 hk5 (by decide))
      refine g_aload_n (i := 0) (r := 0) (t := 55) dL_areItems_54 rfl rfl (Or.inl l9_0) rfl ?_
      refine g_iload (i := 5) (t := 57) dL_areItems_55 rfl rfl ?_
      refine g_bipush (t := 59) dL_areItems_57 c_bipush_11 rfl ?_
      refine g_cVp (o := 0) (t := 62) mX6_item k_L_83 imX6_item seX6_item l6_0 l9_0 s_0 rfl dL_areItems_59 (zx1) rfl rfl (by decide) (by decide) (Nat.le_of_ble_eq_true rfl) rfl (Nat.le_refl _) ?_
      refine g_aload_n (i := 1) (r := 41) (t := 63) dL_areItems_62 rfl rfl (Or.inl l9_41) rfl ?_
      refine g_iload (i := 5) (t := 65) dL_areItems_63 rfl rfl ?_
      refine g_cSp (t := 68) mL_wish k_L_79 smL_wish dL_areItems_65 (l_wish (by omega)) rfl rfl (by decide) (by decide) (Nat.le_of_ble_eq_true rfl) rfl (Nat.le_refl _) ?_
      rw [ew]
      refine g_icmp_ne (t1 := 98) (t2 := 71) dL_areItems_68 (by decide) rfl (fun h68 => ?_) (fun h68 => ?_)
      · exact absurd e1 h68
      · refine g_aload_n (i := 1) (r := 41) (t := 72) dL_areItems_71 rfl rfl (Or.inl l9_41) rfl ?_
        refine g_bipush (t := 74) dL_areItems_72 c_bipush_12 rfl ?_
        refine g_iload (i := 5) (t := 76) dL_areItems_74 rfl rfl ?_
        refine g_imul (t := 77) dL_areItems_76 rfl ?_
        refine g_bipush (t := 79) dL_areItems_77 c_bipush_10 rfl ?_
        refine g_iadd (t := 80) dL_areItems_79 rfl ?_
        refine gm_iald_x (a := 41) (n := 64) (t := 81) l6_41 l9_41 s_41 dL_areItems_80 (ix_ma _ _ _) (by omega) (by decide) rfl ?_
        rw [e10 J hs]
        refine g_iconst (t := 82) dL_areItems_81 c_iconst_1 rfl ?_
        refine g_icmp_ne (t1 := 100) (t2 := 85) dL_areItems_82 (by decide) rfl (fun h82 => ?_) (fun h82 => ?_)
        · first
          | exact T100 J hs hX
          | exact T100 J89 (hs.trans zq1) zq2
          | done
        · refine g_aload_n (i := 0) (r := 0) (t := 86) dL_areItems_85 rfl rfl (Or.inl l9_0) rfl ?_
          refine g_iload (i := 5) (t := 88) dL_areItems_86 rfl rfl ?_
          refine g_iconst (t := 89) dL_areItems_88 c_iconst_0 rfl ?_
          refine g_cVi (o := 0) (t := 92) mX6_lies k_L_86 imX6_lies seX6_lies l6_0 l9_0 s_0 rfl dL_areItems_89 (x6_lies hX) rfl rfl (by decide) (by decide) (Nat.le_of_ble_eq_true rfl) rfl (Nat.le_refl _) (fun v89 J89 q89 => ?_)
          obtain ⟨zq1, zq2, zq3⟩ := q89
          have e89 := li_hid (show S.1.1 ≤ 16 by omega) hk5 (by rw [h82]; decide) zq3
          refine g_sipush (t := 95) dL_areItems_92 c_sipush_m1003 rfl ?_
          refine g_icmp_eq (t1 := 100) (t2 := 98) dL_areItems_95 (by decide) rfl (fun h95 => ?_) (fun h95 => ?_)
          · first
            | exact T100 J hs hX
            | exact T100 J89 (hs.trans zq1) zq2
            | done
          · exact absurd e89 h95
    refine g_iload (i := 5) (t := 8) dL_areItems_6 rfl rfl ?_
    refine g_aload_n (i := 1) (r := 41) (t := 9) dL_areItems_8 rfl rfl (Or.inl l9_41) rfl ?_
    refine g_bipush (t := 11) dL_areItems_9 c_bipush_60 rfl ?_
    refine gm_iald_x (a := 41) (n := 64) (t := 12) l6_41 l9_41 s_41 dL_areItems_11 rfl (by omega) (by decide) rfl ?_
    rw [hs.at 41 rfl, a2]
    refine g_icmp_ge_n (t1 := 121) (t2 := 15) dL_areItems_12 (by decide) rfl (by omega) (by omega) (fun h12 => ?_) (fun h12 => ?_)
    · exfalso; omega
    · refine g_iconst (t := 16) dL_areItems_15 c_iconst_0 rfl ?_
      refine g_istore (i := 6) (t := 18) (L1 := [_, _, _, _, _, _, _]) dL_areItems_16 (by decide) rfl rfl rfl ?_
      exact itm_in hA hs hX hk5 T54 11 0 rfl
theorem l_areItems (hX : rX I S) (hA : aX I S) (hO : orX I S) (hV : vT S) : gQI E fL_areItems [.ref 0, .ref 41, .ref 42, .ref 43] I h (fun v I' => gSame CL I I' ∧ v = nI 1 ∧ rX I' S) := by
  refine gEv.of rfl (Nat.le_refl _) (Nat.le_of_ble_eq_true rfl) (L := [.ref 0, .ref 41, .ref 42, .ref 43, .null, .null, .null]) rfl ?_
  refine g_iconst (t := 1) dL_areItems_0 c_iconst_0 rfl ?_
  refine g_istore (i := 4) (t := 3) (L1 := [_, _, _, _, _, _, _]) dL_areItems_1 (by decide) rfl rfl rfl ?_
  refine g_iconst (t := 4) dL_areItems_3 c_iconst_0 rfl ?_
  refine g_istore (i := 5) (t := 6) (L1 := [_, _, _, _, _, _, _]) dL_areItems_4 (by decide) rfl rfl rfl ?_
  exact itm_1 hA hO hV S.1.1 0 I _ (Nat.zero_add _) gSame.rf hX
end ITM

