/-! the law: step by step -/
section LAW
variable {E : gE} {I : Nat → Nat → Int32} {h : Int64} {S : sT} {i : Nat} {K : gK}
theorem x6_itemQ {x y : Int32} (hX : rX I S) : gQI E fX6_item [.ref 0, .int x, .int y] I h (fun v I' => gSame CL I I' ∧ rX I' S ∧ vItem S x y v) := by
  obtain ⟨v, h1, h2⟩ := x6_item (E := E) (h := h) (x := x) (y := y) hX
  exact gEv.mono h2 fun r σ' q => ⟨v, I, q.1, q.2, gSame.rf, hX, h1⟩
theorem x7_itemQ {x y v : Int32} (hR : rM I S) (ho : vItem S x y v) : gQI E fX7_item [.ref 41, .int x, .int y] I h (fun v' I' => gSame ML I I' ∧ v' = v ∧ rM I' S) :=
  gEv.mono (x7_item hR ho) fun r σ' q => ⟨v, I, q.1, q.2, gSame.rf, rfl, hR⟩
theorem lg_same (x : Int64) : lg_cmp x x = 0 := by
  unfold lg_cmp
  simp
theorem law_ix {L : Nat} (hL : L ≤ 2048) (hi : i + 4 ≤ L) : ∀ j : Nat, j < 4 → vp_in (nI i + nI j) L := fun j b => by
  rw [nI_add]
  exact vp_in_nI (by omega) (by omega)
/-- what follows a step -/
def lawT (E : gE) (i : Nat) (K : gK) : Prop := ∀ (J : Nat → Nat → Int32) (h : Int64) (S' : sT), rX J S' → rM J S' → vT S' → Wp E fL_law 62 568 [.ref 1000, .ref 0, .ref 41, .int (nI i)] [] (gM J h) K
theorem law_type (hL : E.2.2.2.2.1 ≤ 2048) (hi : i + 4 ≤ E.2.2.2.2.1) (hX : rX I S) (hR : rM I S) (hV : vT S) (T568 : lawT E i K) : Wp E fL_law 62 116 [.ref 1000, .ref 0, .ref 41, .int (nI i)] [] (gM I h) K := by
  have ix := law_ix hL hi
  refine g_aload_n (i := 1) (r := 0) (t := 117) dL_law_116 rfl rfl (Or.inl l9_0) rfl ?_
  refine g_aload_n (i := 0) (r := 1000) (t := 118) dL_law_117 rfl rfl (Or.inr rfl) rfl ?_
  refine g_iload_n (i := 3) (t := 119) dL_law_118 rfl rfl rfl ?_
  refine g_iconst (t := 120) dL_law_119 c_iconst_1 rfl ?_
  refine g_iadd (t := 121) dL_law_120 rfl ?_
  refine g_sld (t := 122) (by first | exact ix 1 (by decide) | exact ix 2 (by decide) | exact ix 3 (by decide)) dL_law_121 rfl ?_
  refine g_cVi (o := 0) (t := 125) mX6_type k_L_13 imX6_type seX6_type l6_0 l9_0 s_0 rfl dL_law_122 (x6_type hX) rfl rfl (by decide) (by decide) (Nat.le_of_ble_eq_true rfl) rfl (fun v122 J122 q122 => ?_)
  obtain ⟨S122, ho122, hX122⟩ := q122.2
  refine g_aload_n (i := 2) (r := 41) (t := 126) dL_law_125 rfl rfl (Or.inl l9_41) rfl ?_
  refine g_aload_n (i := 0) (r := 1000) (t := 127) dL_law_126 rfl rfl (Or.inr rfl) rfl ?_
  refine g_iload_n (i := 3) (t := 128) dL_law_127 rfl rfl rfl ?_
  refine g_iconst (t := 129) dL_law_128 c_iconst_1 rfl ?_
  refine g_iadd (t := 130) dL_law_129 rfl ?_
  refine g_sld (t := 131) (by first | exact ix 1 (by decide) | exact ix 2 (by decide) | exact ix 3 (by decide)) dL_law_130 rfl ?_
  refine g_cVi (o := 41) (t := 134) mX7_type k_L_17 imX7_type seX7_type l6_41 l9_41 s_41 rfl dL_law_131 (x7_type (hR.byC q122.1) ho122) rfl rfl (by decide) (by decide) (Nat.le_of_ble_eq_true rfl) rfl (fun v131 J131 q131 => ?_)
  refine g_icmp_eq (t1 := 568) (t2 := 137) dL_law_134 (by decide) rfl (fun h134 => ?_) (fun h134 => ?_)
  · exact T568 J131 h S122 (hX122.byM q131.1) q131.2.2 (v_type hV ho122)
  · exact absurd q131.2.1.symm h134
theorem law_clear (hL : E.2.2.2.2.1 ≤ 2048) (hi : i + 4 ≤ E.2.2.2.2.1) (hX : rX I S) (hR : rM I S) (hV : vT S) (T568 : lawT E i K) : Wp E fL_law 62 139 [.ref 1000, .ref 0, .ref 41, .int (nI i)] [] (gM I h) K := by
  have ix := law_ix hL hi
  refine g_aload_n (i := 1) (r := 0) (t := 140) dL_law_139 rfl rfl (Or.inl l9_0) rfl ?_
  refine g_cVi (o := 0) (t := 143) mX6_clear k_L_18 imX6_clear seX6_clear l6_0 l9_0 s_0 rfl dL_law_140 (x6_clear hX) rfl rfl (by decide) (by decide) (Nat.le_of_ble_eq_true rfl) rfl (fun v140 J140 q140 => ?_)
  obtain ⟨S140, ho140, hX140⟩ := q140.2
  refine g_aload_n (i := 2) (r := 41) (t := 144) dL_law_143 rfl rfl (Or.inl l9_41) rfl ?_
  refine g_cVi (o := 41) (t := 147) mX7_clear k_L_22 imX7_clear seX7_clear l6_41 l9_41 s_41 rfl dL_law_144 (x7_clear (hR.byC q140.1) ho140) rfl rfl (by decide) (by decide) (Nat.le_of_ble_eq_true rfl) rfl (fun v144 J144 q144 => ?_)
  refine g_icmp_eq (t1 := 568) (t2 := 150) dL_law_147 (by decide) rfl (fun h147 => ?_) (fun h147 => ?_)
  · exact T568 J144 h S140 (hX140.byM q144.1) q144.2.2 (v_clear hV ho140)
  · exact absurd q144.2.1.symm h147
theorem law_insert (hL : E.2.2.2.2.1 ≤ 2048) (hi : i + 4 ≤ E.2.2.2.2.1) (hX : rX I S) (hR : rM I S) (hV : vT S) (T568 : lawT E i K) : Wp E fL_law 62 152 [.ref 1000, .ref 0, .ref 41, .int (nI i)] [] (gM I h) K := by
  have ix := law_ix hL hi
  refine g_aload_n (i := 1) (r := 0) (t := 153) dL_law_152 rfl rfl (Or.inl l9_0) rfl ?_
  refine g_aload_n (i := 0) (r := 1000) (t := 154) dL_law_153 rfl rfl (Or.inr rfl) rfl ?_
  refine g_iload_n (i := 3) (t := 155) dL_law_154 rfl rfl rfl ?_
  refine g_iconst (t := 156) dL_law_155 c_iconst_1 rfl ?_
  refine g_iadd (t := 157) dL_law_156 rfl ?_
  refine g_sld (t := 158) (by first | exact ix 1 (by decide) | exact ix 2 (by decide) | exact ix 3 (by decide)) dL_law_157 rfl ?_
  refine g_cVi (o := 0) (t := 161) mX6_insert k_L_23 imX6_insert seX6_insert l6_0 l9_0 s_0 rfl dL_law_158 (x6_insert hX) rfl rfl (by decide) (by decide) (Nat.le_of_ble_eq_true rfl) rfl (fun v158 J158 q158 => ?_)
  obtain ⟨S158, ho158, hX158⟩ := q158.2
  refine g_aload_n (i := 2) (r := 41) (t := 162) dL_law_161 rfl rfl (Or.inl l9_41) rfl ?_
  refine g_aload_n (i := 0) (r := 1000) (t := 163) dL_law_162 rfl rfl (Or.inr rfl) rfl ?_
  refine g_iload_n (i := 3) (t := 164) dL_law_163 rfl rfl rfl ?_
  refine g_iconst (t := 165) dL_law_164 c_iconst_1 rfl ?_
  refine g_iadd (t := 166) dL_law_165 rfl ?_
  refine g_sld (t := 167) (by first | exact ix 1 (by decide) | exact ix 2 (by decide) | exact ix 3 (by decide)) dL_law_166 rfl ?_
  refine g_cVi (o := 41) (t := 170) mX7_insert k_L_26 imX7_insert seX7_insert l6_41 l9_41 s_41 rfl dL_law_167 (x7_insert (hR.byC q158.1) hV ho158) rfl rfl (by decide) (by decide) (Nat.le_of_ble_eq_true rfl) rfl (fun v167 J167 q167 => ?_)
  refine g_icmp_eq (t1 := 568) (t2 := 173) dL_law_170 (by decide) rfl (fun h170 => ?_) (fun h170 => ?_)
  · exact T568 J167 h S158 (hX158.byM q167.1) q167.2.2 (v_insert hV ho158)
  · exact absurd q167.2.1.symm h170
theorem law_remove (hL : E.2.2.2.2.1 ≤ 2048) (hi : i + 4 ≤ E.2.2.2.2.1) (hX : rX I S) (hR : rM I S) (hV : vT S) (T568 : lawT E i K) : Wp E fL_law 62 175 [.ref 1000, .ref 0, .ref 41, .int (nI i)] [] (gM I h) K := by
  have ix := law_ix hL hi
  refine g_aload_n (i := 1) (r := 0) (t := 176) dL_law_175 rfl rfl (Or.inl l9_0) rfl ?_
  refine g_aload_n (i := 0) (r := 1000) (t := 177) dL_law_176 rfl rfl (Or.inr rfl) rfl ?_
  refine g_iload_n (i := 3) (t := 178) dL_law_177 rfl rfl rfl ?_
  refine g_iconst (t := 179) dL_law_178 c_iconst_1 rfl ?_
  refine g_iadd (t := 180) dL_law_179 rfl ?_
  refine g_sld (t := 181) (by first | exact ix 1 (by decide) | exact ix 2 (by decide) | exact ix 3 (by decide)) dL_law_180 rfl ?_
  refine g_cVi (o := 0) (t := 184) mX6_remove k_L_27 imX6_remove seX6_remove l6_0 l9_0 s_0 rfl dL_law_181 (x6_remove hX) rfl rfl (by decide) (by decide) (Nat.le_of_ble_eq_true rfl) rfl (fun v181 J181 q181 => ?_)
  obtain ⟨S181, ho181, hX181⟩ := q181.2
  refine g_aload_n (i := 2) (r := 41) (t := 185) dL_law_184 rfl rfl (Or.inl l9_41) rfl ?_
  refine g_aload_n (i := 0) (r := 1000) (t := 186) dL_law_185 rfl rfl (Or.inr rfl) rfl ?_
  refine g_iload_n (i := 3) (t := 187) dL_law_186 rfl rfl rfl ?_
  refine g_iconst (t := 188) dL_law_187 c_iconst_1 rfl ?_
  refine g_iadd (t := 189) dL_law_188 rfl ?_
  refine g_sld (t := 190) (by first | exact ix 1 (by decide) | exact ix 2 (by decide) | exact ix 3 (by decide)) dL_law_189 rfl ?_
  refine g_cVi (o := 41) (t := 193) mX7_remove k_L_30 imX7_remove seX7_remove l6_41 l9_41 s_41 rfl dL_law_190 (x7_remove (hR.byC q181.1) hV ho181) rfl rfl (by decide) (by decide) (Nat.le_of_ble_eq_true rfl) rfl (fun v190 J190 q190 => ?_)
  refine g_icmp_eq (t1 := 568) (t2 := 196) dL_law_193 (by decide) rfl (fun h193 => ?_) (fun h193 => ?_)
  · exact T568 J190 h S181 (hX181.byM q190.1) q190.2.2 (v_remove hV ho181)
  · exact absurd q190.2.1.symm h193
theorem law_move (hL : E.2.2.2.2.1 ≤ 2048) (hi : i + 4 ≤ E.2.2.2.2.1) (hX : rX I S) (hR : rM I S) (hV : vT S) (T568 : lawT E i K) : Wp E fL_law 62 198 [.ref 1000, .ref 0, .ref 41, .int (nI i)] [] (gM I h) K := by
  have ix := law_ix hL hi
  refine g_aload_n (i := 1) (r := 0) (t := 199) dL_law_198 rfl rfl (Or.inl l9_0) rfl ?_
  refine g_aload_n (i := 0) (r := 1000) (t := 200) dL_law_199 rfl rfl (Or.inr rfl) rfl ?_
  refine g_iload_n (i := 3) (t := 201) dL_law_200 rfl rfl rfl ?_
  refine g_iconst (t := 202) dL_law_201 c_iconst_1 rfl ?_
  refine g_iadd (t := 203) dL_law_202 rfl ?_
  refine g_sld (t := 204) (by first | exact ix 1 (by decide) | exact ix 2 (by decide) | exact ix 3 (by decide)) dL_law_203 rfl ?_
  refine g_aload_n (i := 0) (r := 1000) (t := 205) dL_law_204 rfl rfl (Or.inr rfl) rfl ?_
  refine g_iload_n (i := 3) (t := 206) dL_law_205 rfl rfl rfl ?_
  refine g_iconst (t := 207) dL_law_206 c_iconst_2 rfl ?_
  refine g_iadd (t := 208) dL_law_207 rfl ?_
  refine g_sld (t := 209) (by first | exact ix 1 (by decide) | exact ix 2 (by decide) | exact ix 3 (by decide)) dL_law_208 rfl ?_
  refine g_cVi (o := 0) (t := 212) mX6_move k_L_31 imX6_move seX6_move l6_0 l9_0 s_0 rfl dL_law_209 (x6_move hX) rfl rfl (by decide) (by decide) (Nat.le_of_ble_eq_true rfl) rfl (fun v209 J209 q209 => ?_)
  obtain ⟨S209, ho209, hX209⟩ := q209.2
  refine g_aload_n (i := 2) (r := 41) (t := 213) dL_law_212 rfl rfl (Or.inl l9_41) rfl ?_
  refine g_aload_n (i := 0) (r := 1000) (t := 214) dL_law_213 rfl rfl (Or.inr rfl) rfl ?_
  refine g_iload_n (i := 3) (t := 215) dL_law_214 rfl rfl rfl ?_
  refine g_iconst (t := 216) dL_law_215 c_iconst_1 rfl ?_
  refine g_iadd (t := 217) dL_law_216 rfl ?_
  refine g_sld (t := 218) (by first | exact ix 1 (by decide) | exact ix 2 (by decide) | exact ix 3 (by decide)) dL_law_217 rfl ?_
  refine g_aload_n (i := 0) (r := 1000) (t := 219) dL_law_218 rfl rfl (Or.inr rfl) rfl ?_
  refine g_iload_n (i := 3) (t := 220) dL_law_219 rfl rfl rfl ?_
  refine g_iconst (t := 221) dL_law_220 c_iconst_2 rfl ?_
  refine g_iadd (t := 222) dL_law_221 rfl ?_
  refine g_sld (t := 223) (by first | exact ix 1 (by decide) | exact ix 2 (by decide) | exact ix 3 (by decide)) dL_law_222 rfl ?_
  refine g_cVi (o := 41) (t := 226) mX7_move k_L_35 imX7_move seX7_move l6_41 l9_41 s_41 rfl dL_law_223 (x7_move (hR.byC q209.1) hV (v_move hV ho209).1 ho209) rfl rfl (by decide) (by decide) (Nat.le_of_ble_eq_true rfl) rfl (fun v223 J223 q223 => ?_)
  refine g_icmp_eq (t1 := 568) (t2 := 229) dL_law_226 (by decide) rfl (fun h226 => ?_) (fun h226 => ?_)
  · exact T568 J223 h S209 (hX209.byM q223.1) q223.2.2 (v_move hV ho209)
  · exact absurd q223.2.1.symm h226
theorem law_change (hL : E.2.2.2.2.1 ≤ 2048) (hi : i + 4 ≤ E.2.2.2.2.1) (hX : rX I S) (hR : rM I S) (hV : vT S) (T568 : lawT E i K) : Wp E fL_law 62 231 [.ref 1000, .ref 0, .ref 41, .int (nI i)] [] (gM I h) K := by
  have ix := law_ix hL hi
  refine g_aload_n (i := 1) (r := 0) (t := 232) dL_law_231 rfl rfl (Or.inl l9_0) rfl ?_
  refine g_aload_n (i := 0) (r := 1000) (t := 233) dL_law_232 rfl rfl (Or.inr rfl) rfl ?_
  refine g_iload_n (i := 3) (t := 234) dL_law_233 rfl rfl rfl ?_
  refine g_iconst (t := 235) dL_law_234 c_iconst_1 rfl ?_
  refine g_iadd (t := 236) dL_law_235 rfl ?_
  refine g_sld (t := 237) (by first | exact ix 1 (by decide) | exact ix 2 (by decide) | exact ix 3 (by decide)) dL_law_236 rfl ?_
  refine g_aload_n (i := 0) (r := 1000) (t := 238) dL_law_237 rfl rfl (Or.inr rfl) rfl ?_
  refine g_iload_n (i := 3) (t := 239) dL_law_238 rfl rfl rfl ?_
  refine g_iconst (t := 240) dL_law_239 c_iconst_2 rfl ?_
  refine g_iadd (t := 241) dL_law_240 rfl ?_
  refine g_sld (t := 242) (by first | exact ix 1 (by decide) | exact ix 2 (by decide) | exact ix 3 (by decide)) dL_law_241 rfl ?_
  refine g_aload_n (i := 0) (r := 1000) (t := 243) dL_law_242 rfl rfl (Or.inr rfl) rfl ?_
  refine g_iload_n (i := 3) (t := 244) dL_law_243 rfl rfl rfl ?_
  refine g_iconst (t := 245) dL_law_244 c_iconst_3 rfl ?_
  refine g_iadd (t := 246) dL_law_245 rfl ?_
  refine g_sld (t := 247) (by first | exact ix 1 (by decide) | exact ix 2 (by decide) | exact ix 3 (by decide)) dL_law_246 rfl ?_
  refine g_cVi (o := 0) (t := 250) mX6_change k_L_36 imX6_change seX6_change l6_0 l9_0 s_0 rfl dL_law_247 (x6_change hX) rfl rfl (by decide) (by decide) (Nat.le_of_ble_eq_true rfl) rfl (fun v247 J247 q247 => ?_)
  obtain ⟨S247, ho247, hX247⟩ := q247.2
  refine g_aload_n (i := 2) (r := 41) (t := 251) dL_law_250 rfl rfl (Or.inl l9_41) rfl ?_
  refine g_aload_n (i := 0) (r := 1000) (t := 252) dL_law_251 rfl rfl (Or.inr rfl) rfl ?_
  refine g_iload_n (i := 3) (t := 253) dL_law_252 rfl rfl rfl ?_
  refine g_iconst (t := 254) dL_law_253 c_iconst_1 rfl ?_
  refine g_iadd (t := 255) dL_law_254 rfl ?_
  refine g_sld (t := 256) (by first | exact ix 1 (by decide) | exact ix 2 (by decide) | exact ix 3 (by decide)) dL_law_255 rfl ?_
  refine g_aload_n (i := 0) (r := 1000) (t := 257) dL_law_256 rfl rfl (Or.inr rfl) rfl ?_
  refine g_iload_n (i := 3) (t := 258) dL_law_257 rfl rfl rfl ?_
  refine g_iconst (t := 259) dL_law_258 c_iconst_2 rfl ?_
  refine g_iadd (t := 260) dL_law_259 rfl ?_
  refine g_sld (t := 261) (by first | exact ix 1 (by decide) | exact ix 2 (by decide) | exact ix 3 (by decide)) dL_law_260 rfl ?_
  refine g_aload_n (i := 0) (r := 1000) (t := 262) dL_law_261 rfl rfl (Or.inr rfl) rfl ?_
  refine g_iload_n (i := 3) (t := 263) dL_law_262 rfl rfl rfl ?_
  refine g_iconst (t := 264) dL_law_263 c_iconst_3 rfl ?_
  refine g_iadd (t := 265) dL_law_264 rfl ?_
  refine g_sld (t := 266) (by first | exact ix 1 (by decide) | exact ix 2 (by decide) | exact ix 3 (by decide)) dL_law_265 rfl ?_
  refine g_cVi (o := 41) (t := 269) mX7_change k_L_40 imX7_change seX7_change l6_41 l9_41 s_41 rfl dL_law_266 (x7_change (hR.byC q247.1) hV ho247) rfl rfl (by decide) (by decide) (Nat.le_of_ble_eq_true rfl) rfl (fun v266 J266 q266 => ?_)
  refine g_icmp_eq (t1 := 568) (t2 := 272) dL_law_269 (by decide) rfl (fun h269 => ?_) (fun h269 => ?_)
  · exact T568 J266 h S247 (hX247.byM q266.1) q266.2.2 (v_change hV ho247)
  · exact absurd q266.2.1.symm h269
theorem law_hide (hL : E.2.2.2.2.1 ≤ 2048) (hi : i + 4 ≤ E.2.2.2.2.1) (hX : rX I S) (hR : rM I S) (hV : vT S) (T568 : lawT E i K) : Wp E fL_law 62 274 [.ref 1000, .ref 0, .ref 41, .int (nI i)] [] (gM I h) K := by
  have ix := law_ix hL hi
  refine g_aload_n (i := 1) (r := 0) (t := 275) dL_law_274 rfl rfl (Or.inl l9_0) rfl ?_
  refine g_aload_n (i := 0) (r := 1000) (t := 276) dL_law_275 rfl rfl (Or.inr rfl) rfl ?_
  refine g_iload_n (i := 3) (t := 277) dL_law_276 rfl rfl rfl ?_
  refine g_iconst (t := 278) dL_law_277 c_iconst_1 rfl ?_
  refine g_iadd (t := 279) dL_law_278 rfl ?_
  refine g_sld (t := 280) (by first | exact ix 1 (by decide) | exact ix 2 (by decide) | exact ix 3 (by decide)) dL_law_279 rfl ?_
  refine g_cVi (o := 0) (t := 283) mX6_hide k_L_41 imX6_hide seX6_hide l6_0 l9_0 s_0 rfl dL_law_280 (x6_hide hX) rfl rfl (by decide) (by decide) (Nat.le_of_ble_eq_true rfl) rfl (fun v280 J280 q280 => ?_)
  obtain ⟨S280, ho280, hX280⟩ := q280.2
  refine g_aload_n (i := 2) (r := 41) (t := 284) dL_law_283 rfl rfl (Or.inl l9_41) rfl ?_
  refine g_aload_n (i := 0) (r := 1000) (t := 285) dL_law_284 rfl rfl (Or.inr rfl) rfl ?_
  refine g_iload_n (i := 3) (t := 286) dL_law_285 rfl rfl rfl ?_
  refine g_iconst (t := 287) dL_law_286 c_iconst_1 rfl ?_
  refine g_iadd (t := 288) dL_law_287 rfl ?_
  refine g_sld (t := 289) (by first | exact ix 1 (by decide) | exact ix 2 (by decide) | exact ix 3 (by decide)) dL_law_288 rfl ?_
  refine g_cVi (o := 41) (t := 292) mX7_hide k_L_44 imX7_hide seX7_hide l6_41 l9_41 s_41 rfl dL_law_289 (x7_hide (hR.byC q280.1) hV ho280) rfl rfl (by decide) (by decide) (Nat.le_of_ble_eq_true rfl) rfl (fun v289 J289 q289 => ?_)
  refine g_icmp_eq (t1 := 568) (t2 := 295) dL_law_292 (by decide) rfl (fun h292 => ?_) (fun h292 => ?_)
  · exact T568 J289 h S280 (hX280.byM q289.1) q289.2.2 (v_hide hV ho280)
  · exact absurd q289.2.1.symm h292
theorem law_set (hL : E.2.2.2.2.1 ≤ 2048) (hi : i + 4 ≤ E.2.2.2.2.1) (hX : rX I S) (hR : rM I S) (hV : vT S) (T568 : lawT E i K) : Wp E fL_law 62 297 [.ref 1000, .ref 0, .ref 41, .int (nI i)] [] (gM I h) K := by
  have ix := law_ix hL hi
  refine g_aload_n (i := 1) (r := 0) (t := 298) dL_law_297 rfl rfl (Or.inl l9_0) rfl ?_
  refine g_aload_n (i := 0) (r := 1000) (t := 299) dL_law_298 rfl rfl (Or.inr rfl) rfl ?_
  refine g_iload_n (i := 3) (t := 300) dL_law_299 rfl rfl rfl ?_
  refine g_iconst (t := 301) dL_law_300 c_iconst_1 rfl ?_
  refine g_iadd (t := 302) dL_law_301 rfl ?_
  refine g_sld (t := 303) (by first | exact ix 1 (by decide) | exact ix 2 (by decide) | exact ix 3 (by decide)) dL_law_302 rfl ?_
  refine g_aload_n (i := 0) (r := 1000) (t := 304) dL_law_303 rfl rfl (Or.inr rfl) rfl ?_
  refine g_iload_n (i := 3) (t := 305) dL_law_304 rfl rfl rfl ?_
  refine g_iconst (t := 306) dL_law_305 c_iconst_2 rfl ?_
  refine g_iadd (t := 307) dL_law_306 rfl ?_
  refine g_sld (t := 308) (by first | exact ix 1 (by decide) | exact ix 2 (by decide) | exact ix 3 (by decide)) dL_law_307 rfl ?_
  refine g_cVi (o := 0) (t := 311) mX6_set k_L_45 imX6_set seX6_set l6_0 l9_0 s_0 rfl dL_law_308 (x6_set hX) rfl rfl (by decide) (by decide) (Nat.le_of_ble_eq_true rfl) rfl (fun v308 J308 q308 => ?_)
  obtain ⟨S308, ho308, hX308⟩ := q308.2
  refine g_aload_n (i := 2) (r := 41) (t := 312) dL_law_311 rfl rfl (Or.inl l9_41) rfl ?_
  refine g_aload_n (i := 0) (r := 1000) (t := 313) dL_law_312 rfl rfl (Or.inr rfl) rfl ?_
  refine g_iload_n (i := 3) (t := 314) dL_law_313 rfl rfl rfl ?_
  refine g_iconst (t := 315) dL_law_314 c_iconst_1 rfl ?_
  refine g_iadd (t := 316) dL_law_315 rfl ?_
  refine g_sld (t := 317) (by first | exact ix 1 (by decide) | exact ix 2 (by decide) | exact ix 3 (by decide)) dL_law_316 rfl ?_
  refine g_aload_n (i := 0) (r := 1000) (t := 318) dL_law_317 rfl rfl (Or.inr rfl) rfl ?_
  refine g_iload_n (i := 3) (t := 319) dL_law_318 rfl rfl rfl ?_
  refine g_iconst (t := 320) dL_law_319 c_iconst_2 rfl ?_
  refine g_iadd (t := 321) dL_law_320 rfl ?_
  refine g_sld (t := 322) (by first | exact ix 1 (by decide) | exact ix 2 (by decide) | exact ix 3 (by decide)) dL_law_321 rfl ?_
  refine g_cVi (o := 41) (t := 325) mX7_set k_L_48 imX7_set seX7_set l6_41 l9_41 s_41 rfl dL_law_322 (x7_set (hR.byC q308.1) hV ho308) rfl rfl (by decide) (by decide) (Nat.le_of_ble_eq_true rfl) rfl (fun v322 J322 q322 => ?_)
  refine g_icmp_eq (t1 := 568) (t2 := 328) dL_law_325 (by decide) rfl (fun h325 => ?_) (fun h325 => ?_)
  · exact T568 J322 h S308 (hX308.byM q322.1) q322.2.2 (v_set hV ho308)
  · exact absurd q322.2.1.symm h325
theorem law_undo (hL : E.2.2.2.2.1 ≤ 2048) (hi : i + 4 ≤ E.2.2.2.2.1) (hX : rX I S) (hR : rM I S) (hV : vT S) (T568 : lawT E i K) : Wp E fL_law 62 330 [.ref 1000, .ref 0, .ref 41, .int (nI i)] [] (gM I h) K := by
  have ix := law_ix hL hi
  refine g_aload_n (i := 1) (r := 0) (t := 331) dL_law_330 rfl rfl (Or.inl l9_0) rfl ?_
  refine g_cVi (o := 0) (t := 334) mX6_undo k_L_49 imX6_undo seX6_undo l6_0 l9_0 s_0 rfl dL_law_331 (x6_undo hX) rfl rfl (by decide) (by decide) (Nat.le_of_ble_eq_true rfl) rfl (fun v331 J331 q331 => ?_)
  obtain ⟨S331, ho331, hX331⟩ := q331.2
  refine g_aload_n (i := 2) (r := 41) (t := 335) dL_law_334 rfl rfl (Or.inl l9_41) rfl ?_
  refine g_cVi (o := 41) (t := 338) mX7_undo k_L_52 imX7_undo seX7_undo l6_41 l9_41 s_41 rfl dL_law_335 (x7_undo (hR.byC q331.1) hV ho331) rfl rfl (by decide) (by decide) (Nat.le_of_ble_eq_true rfl) rfl (fun v335 J335 q335 => ?_)
  refine g_icmp_eq (t1 := 568) (t2 := 341) dL_law_338 (by decide) rfl (fun h338 => ?_) (fun h338 => ?_)
  · exact T568 J335 h S331 (hX331.byM q335.1) q335.2.2 (v_undo hV ho331)
  · exact absurd q335.2.1.symm h338
theorem law_item (hL : E.2.2.2.2.1 ≤ 2048) (hi : i + 4 ≤ E.2.2.2.2.1) (hX : rX I S) (hR : rM I S) (hV : vT S) (T568 : lawT E i K) : Wp E fL_law 62 343 [.ref 1000, .ref 0, .ref 41, .int (nI i)] [] (gM I h) K := by
  have ix := law_ix hL hi
  refine g_aload_n (i := 1) (r := 0) (t := 344) dL_law_343 rfl rfl (Or.inl l9_0) rfl ?_
  refine g_aload_n (i := 0) (r := 1000) (t := 345) dL_law_344 rfl rfl (Or.inr rfl) rfl ?_
  refine g_iload_n (i := 3) (t := 346) dL_law_345 rfl rfl rfl ?_
  refine g_iconst (t := 347) dL_law_346 c_iconst_1 rfl ?_
  refine g_iadd (t := 348) dL_law_347 rfl ?_
  refine g_sld (t := 349) (by first | exact ix 1 (by decide) | exact ix 2 (by decide) | exact ix 3 (by decide)) dL_law_348 rfl ?_
  refine g_aload_n (i := 0) (r := 1000) (t := 350) dL_law_349 rfl rfl (Or.inr rfl) rfl ?_
  refine g_iload_n (i := 3) (t := 351) dL_law_350 rfl rfl rfl ?_
  refine g_iconst (t := 352) dL_law_351 c_iconst_2 rfl ?_
  refine g_iadd (t := 353) dL_law_352 rfl ?_
  refine g_sld (t := 354) (by first | exact ix 1 (by decide) | exact ix 2 (by decide) | exact ix 3 (by decide)) dL_law_353 rfl ?_
  refine g_cVi (o := 0) (t := 357) mX6_item k_L_53 imX6_item seX6_item l6_0 l9_0 s_0 rfl dL_law_354 (x6_itemQ hX) rfl rfl (by decide) (by decide) (Nat.le_of_ble_eq_true rfl) rfl (fun v354 J354 q354 => ?_)
  refine g_aload_n (i := 2) (r := 41) (t := 358) dL_law_357 rfl rfl (Or.inl l9_41) rfl ?_
  refine g_aload_n (i := 0) (r := 1000) (t := 359) dL_law_358 rfl rfl (Or.inr rfl) rfl ?_
  refine g_iload_n (i := 3) (t := 360) dL_law_359 rfl rfl rfl ?_
  refine g_iconst (t := 361) dL_law_360 c_iconst_1 rfl ?_
  refine g_iadd (t := 362) dL_law_361 rfl ?_
  refine g_sld (t := 363) (by first | exact ix 1 (by decide) | exact ix 2 (by decide) | exact ix 3 (by decide)) dL_law_362 rfl ?_
  refine g_aload_n (i := 0) (r := 1000) (t := 364) dL_law_363 rfl rfl (Or.inr rfl) rfl ?_
  refine g_iload_n (i := 3) (t := 365) dL_law_364 rfl rfl rfl ?_
  refine g_iconst (t := 366) dL_law_365 c_iconst_2 rfl ?_
  refine g_iadd (t := 367) dL_law_366 rfl ?_
  refine g_sld (t := 368) (by first | exact ix 1 (by decide) | exact ix 2 (by decide) | exact ix 3 (by decide)) dL_law_367 rfl ?_
  refine g_cVi (o := 41) (t := 371) mX7_item k_L_56 imX7_item seX7_item l6_41 l9_41 s_41 rfl dL_law_368 (x7_itemQ (hR.byC q354.1) q354.2.2) rfl rfl (by decide) (by decide) (Nat.le_of_ble_eq_true rfl) rfl (fun v368 J368 q368 => ?_)
  refine g_icmp_eq (t1 := 568) (t2 := 374) dL_law_371 (by decide) rfl (fun h371 => ?_) (fun h371 => ?_)
  · exact T568 J368 h S (q354.2.1.byM q368.1) q368.2.2 hV
  · exact absurd q368.2.1.symm h371
theorem law_lies (hL : E.2.2.2.2.1 ≤ 2048) (hi : i + 4 ≤ E.2.2.2.2.1) (hX : rX I S) (hR : rM I S) (hV : vT S) (T568 : lawT E i K) : Wp E fL_law 62 376 [.ref 1000, .ref 0, .ref 41, .int (nI i)] [] (gM I h) K := by
  have ix := law_ix hL hi
  refine g_aload_n (i := 1) (r := 0) (t := 377) dL_law_376 rfl rfl (Or.inl l9_0) rfl ?_
  refine g_aload_n (i := 0) (r := 1000) (t := 378) dL_law_377 rfl rfl (Or.inr rfl) rfl ?_
  refine g_iload_n (i := 3) (t := 379) dL_law_378 rfl rfl rfl ?_
  refine g_iconst (t := 380) dL_law_379 c_iconst_1 rfl ?_
  refine g_iadd (t := 381) dL_law_380 rfl ?_
  refine g_sld (t := 382) (by first | exact ix 1 (by decide) | exact ix 2 (by decide) | exact ix 3 (by decide)) dL_law_381 rfl ?_
  refine g_aload_n (i := 0) (r := 1000) (t := 383) dL_law_382 rfl rfl (Or.inr rfl) rfl ?_
  refine g_iload_n (i := 3) (t := 384) dL_law_383 rfl rfl rfl ?_
  refine g_iconst (t := 385) dL_law_384 c_iconst_2 rfl ?_
  refine g_iadd (t := 386) dL_law_385 rfl ?_
  refine g_sld (t := 387) (by first | exact ix 1 (by decide) | exact ix 2 (by decide) | exact ix 3 (by decide)) dL_law_386 rfl ?_
  refine g_cVi (o := 0) (t := 390) mX6_lies k_L_57 imX6_lies seX6_lies l6_0 l9_0 s_0 rfl dL_law_387 (x6_lies hX) rfl rfl (by decide) (by decide) (Nat.le_of_ble_eq_true rfl) rfl (fun v387 J387 q387 => ?_)
  refine g_aload_n (i := 2) (r := 41) (t := 391) dL_law_390 rfl rfl (Or.inl l9_41) rfl ?_
  refine g_aload_n (i := 0) (r := 1000) (t := 392) dL_law_391 rfl rfl (Or.inr rfl) rfl ?_
  refine g_iload_n (i := 3) (t := 393) dL_law_392 rfl rfl rfl ?_
  refine g_iconst (t := 394) dL_law_393 c_iconst_1 rfl ?_
  refine g_iadd (t := 395) dL_law_394 rfl ?_
  refine g_sld (t := 396) (by first | exact ix 1 (by decide) | exact ix 2 (by decide) | exact ix 3 (by decide)) dL_law_395 rfl ?_
  refine g_aload_n (i := 0) (r := 1000) (t := 397) dL_law_396 rfl rfl (Or.inr rfl) rfl ?_
  refine g_iload_n (i := 3) (t := 398) dL_law_397 rfl rfl rfl ?_
  refine g_iconst (t := 399) dL_law_398 c_iconst_2 rfl ?_
  refine g_iadd (t := 400) dL_law_399 rfl ?_
  refine g_sld (t := 401) (by first | exact ix 1 (by decide) | exact ix 2 (by decide) | exact ix 3 (by decide)) dL_law_400 rfl ?_
  refine g_cVi (o := 41) (t := 404) mX7_lies k_L_60 imX7_lies seX7_lies l6_41 l9_41 s_41 rfl dL_law_401 (x7_lies (hR.byC q387.1) hV q387.2.2) rfl rfl (by decide) (by decide) (Nat.le_of_ble_eq_true rfl) rfl (fun v401 J401 q401 => ?_)
  refine g_icmp_eq (t1 := 568) (t2 := 407) dL_law_404 (by decide) rfl (fun h404 => ?_) (fun h404 => ?_)
  · exact T568 J401 h S (q387.2.1.byM q401.1) q401.2.2 hV
  · exact absurd q401.2.1.symm h404
theorem law_ordered (hL : E.2.2.2.2.1 ≤ 2048) (hi : i + 4 ≤ E.2.2.2.2.1) (hX : rX I S) (hR : rM I S) (hV : vT S) (T568 : lawT E i K) : Wp E fL_law 62 409 [.ref 1000, .ref 0, .ref 41, .int (nI i)] [] (gM I h) K := by
  have ix := law_ix hL hi
  refine g_aload_n (i := 1) (r := 0) (t := 410) dL_law_409 rfl rfl (Or.inl l9_0) rfl ?_
  refine g_aload_n (i := 0) (r := 1000) (t := 411) dL_law_410 rfl rfl (Or.inr rfl) rfl ?_
  refine g_iload_n (i := 3) (t := 412) dL_law_411 rfl rfl rfl ?_
  refine g_iconst (t := 413) dL_law_412 c_iconst_1 rfl ?_
  refine g_iadd (t := 414) dL_law_413 rfl ?_
  refine g_sld (t := 415) (by first | exact ix 1 (by decide) | exact ix 2 (by decide) | exact ix 3 (by decide)) dL_law_414 rfl ?_
  refine g_cVi (o := 0) (t := 418) mX6_ordered k_L_61 imX6_ordered seX6_ordered l6_0 l9_0 s_0 rfl dL_law_415 (x6_ordered hX) rfl rfl (by decide) (by decide) (Nat.le_of_ble_eq_true rfl) rfl (fun v415 J415 q415 => ?_)
  refine g_aload_n (i := 2) (r := 41) (t := 419) dL_law_418 rfl rfl (Or.inl l9_41) rfl ?_
  refine g_aload_n (i := 0) (r := 1000) (t := 420) dL_law_419 rfl rfl (Or.inr rfl) rfl ?_
  refine g_iload_n (i := 3) (t := 421) dL_law_420 rfl rfl rfl ?_
  refine g_iconst (t := 422) dL_law_421 c_iconst_1 rfl ?_
  refine g_iadd (t := 423) dL_law_422 rfl ?_
  refine g_sld (t := 424) (by first | exact ix 1 (by decide) | exact ix 2 (by decide) | exact ix 3 (by decide)) dL_law_423 rfl ?_
  refine g_cVi (o := 41) (t := 427) mX7_ordered k_L_64 imX7_ordered seX7_ordered l6_41 l9_41 s_41 rfl dL_law_424 (x7_ordered (hR.byC q415.1) q415.2.2) rfl rfl (by decide) (by decide) (Nat.le_of_ble_eq_true rfl) rfl (fun v424 J424 q424 => ?_)
  refine g_icmp_eq (t1 := 568) (t2 := 430) dL_law_427 (by decide) rfl (fun h427 => ?_) (fun h427 => ?_)
  · exact T568 J424 h S (q415.2.1.byM q424.1) q424.2.2 hV
  · exact absurd q424.2.1.symm h427
theorem law_line (hL : E.2.2.2.2.1 ≤ 2048) (hi : i + 4 ≤ E.2.2.2.2.1) (hX : rX I S) (hR : rM I S) (hV : vT S) (T568 : lawT E i K) : Wp E fL_law 62 432 [.ref 1000, .ref 0, .ref 41, .int (nI i)] [] (gM I h) K := by
  have ix := law_ix hL hi
  refine g_aload_n (i := 1) (r := 0) (t := 433) dL_law_432 rfl rfl (Or.inl l9_0) rfl ?_
  refine g_aload_n (i := 0) (r := 1000) (t := 434) dL_law_433 rfl rfl (Or.inr rfl) rfl ?_
  refine g_iload_n (i := 3) (t := 435) dL_law_434 rfl rfl rfl ?_
  refine g_iconst (t := 436) dL_law_435 c_iconst_1 rfl ?_
  refine g_iadd (t := 437) dL_law_436 rfl ?_
  refine g_sld (t := 438) (by first | exact ix 1 (by decide) | exact ix 2 (by decide) | exact ix 3 (by decide)) dL_law_437 rfl ?_
  refine g_aload_n (i := 0) (r := 1000) (t := 439) dL_law_438 rfl rfl (Or.inr rfl) rfl ?_
  refine g_iload_n (i := 3) (t := 440) dL_law_439 rfl rfl rfl ?_
  refine g_iconst (t := 441) dL_law_440 c_iconst_2 rfl ?_
  refine g_iadd (t := 442) dL_law_441 rfl ?_
  refine g_sld (t := 443) (by first | exact ix 1 (by decide) | exact ix 2 (by decide) | exact ix 3 (by decide)) dL_law_442 rfl ?_
  refine g_cVi (o := 0) (t := 446) mX6_line k_L_65 imX6_line seX6_line l6_0 l9_0 s_0 rfl dL_law_443 (x6_line hX) rfl rfl (by decide) (by decide) (Nat.le_of_ble_eq_true rfl) rfl (fun v443 J443 q443 => ?_)
  refine g_aload_n (i := 2) (r := 41) (t := 447) dL_law_446 rfl rfl (Or.inl l9_41) rfl ?_
  refine g_aload_n (i := 0) (r := 1000) (t := 448) dL_law_447 rfl rfl (Or.inr rfl) rfl ?_
  refine g_iload_n (i := 3) (t := 449) dL_law_448 rfl rfl rfl ?_
  refine g_iconst (t := 450) dL_law_449 c_iconst_1 rfl ?_
  refine g_iadd (t := 451) dL_law_450 rfl ?_
  refine g_sld (t := 452) (by first | exact ix 1 (by decide) | exact ix 2 (by decide) | exact ix 3 (by decide)) dL_law_451 rfl ?_
  refine g_aload_n (i := 0) (r := 1000) (t := 453) dL_law_452 rfl rfl (Or.inr rfl) rfl ?_
  refine g_iload_n (i := 3) (t := 454) dL_law_453 rfl rfl rfl ?_
  refine g_iconst (t := 455) dL_law_454 c_iconst_2 rfl ?_
  refine g_iadd (t := 456) dL_law_455 rfl ?_
  refine g_sld (t := 457) (by first | exact ix 1 (by decide) | exact ix 2 (by decide) | exact ix 3 (by decide)) dL_law_456 rfl ?_
  refine g_cVi (o := 41) (t := 460) mX7_line k_L_68 imX7_line seX7_line l6_41 l9_41 s_41 rfl dL_law_457 (x7_line (hR.byC q443.1) hV q443.2.2) rfl rfl (by decide) (by decide) (Nat.le_of_ble_eq_true rfl) rfl (fun v457 J457 q457 => ?_)
  refine g_icmp_eq (t1 := 568) (t2 := 463) dL_law_460 (by decide) rfl (fun h460 => ?_) (fun h460 => ?_)
  · exact T568 J457 h S (q443.2.1.byM q457.1) q457.2.2 hV
  · exact absurd q457.2.1.symm h460
theorem law_at (hL : E.2.2.2.2.1 ≤ 2048) (hi : i + 4 ≤ E.2.2.2.2.1) (hX : rX I S) (hR : rM I S) (hV : vT S) (T568 : lawT E i K) : Wp E fL_law 62 465 [.ref 1000, .ref 0, .ref 41, .int (nI i)] [] (gM I h) K := by
  have ix := law_ix hL hi
  refine g_aload_n (i := 1) (r := 0) (t := 466) dL_law_465 rfl rfl (Or.inl l9_0) rfl ?_
  refine g_aload_n (i := 0) (r := 1000) (t := 467) dL_law_466 rfl rfl (Or.inr rfl) rfl ?_
  refine g_iload_n (i := 3) (t := 468) dL_law_467 rfl rfl rfl ?_
  refine g_iconst (t := 469) dL_law_468 c_iconst_1 rfl ?_
  refine g_iadd (t := 470) dL_law_469 rfl ?_
  refine g_sld (t := 471) (by first | exact ix 1 (by decide) | exact ix 2 (by decide) | exact ix 3 (by decide)) dL_law_470 rfl ?_
  refine g_aload_n (i := 0) (r := 1000) (t := 472) dL_law_471 rfl rfl (Or.inr rfl) rfl ?_
  refine g_iload_n (i := 3) (t := 473) dL_law_472 rfl rfl rfl ?_
  refine g_iconst (t := 474) dL_law_473 c_iconst_2 rfl ?_
  refine g_iadd (t := 475) dL_law_474 rfl ?_
  refine g_sld (t := 476) (by first | exact ix 1 (by decide) | exact ix 2 (by decide) | exact ix 3 (by decide)) dL_law_475 rfl ?_
  refine g_cVi (o := 0) (t := 479) mX6_at k_L_69 imX6_at seX6_at l6_0 l9_0 s_0 rfl dL_law_476 (x6_at hX) rfl rfl (by decide) (by decide) (Nat.le_of_ble_eq_true rfl) rfl (fun v476 J476 q476 => ?_)
  refine g_aload_n (i := 2) (r := 41) (t := 480) dL_law_479 rfl rfl (Or.inl l9_41) rfl ?_
  refine g_aload_n (i := 0) (r := 1000) (t := 481) dL_law_480 rfl rfl (Or.inr rfl) rfl ?_
  refine g_iload_n (i := 3) (t := 482) dL_law_481 rfl rfl rfl ?_
  refine g_iconst (t := 483) dL_law_482 c_iconst_1 rfl ?_
  refine g_iadd (t := 484) dL_law_483 rfl ?_
  refine g_sld (t := 485) (by first | exact ix 1 (by decide) | exact ix 2 (by decide) | exact ix 3 (by decide)) dL_law_484 rfl ?_
  refine g_aload_n (i := 0) (r := 1000) (t := 486) dL_law_485 rfl rfl (Or.inr rfl) rfl ?_
  refine g_iload_n (i := 3) (t := 487) dL_law_486 rfl rfl rfl ?_
  refine g_iconst (t := 488) dL_law_487 c_iconst_2 rfl ?_
  refine g_iadd (t := 489) dL_law_488 rfl ?_
  refine g_sld (t := 490) (by first | exact ix 1 (by decide) | exact ix 2 (by decide) | exact ix 3 (by decide)) dL_law_489 rfl ?_
  refine g_cVi (o := 41) (t := 493) mX7_at k_L_72 imX7_at seX7_at l6_41 l9_41 s_41 rfl dL_law_490 (x7_at (hR.byC q476.1) hV q476.2.2) rfl rfl (by decide) (by decide) (Nat.le_of_ble_eq_true rfl) rfl (fun v490 J490 q490 => ?_)
  refine g_icmp_eq (t1 := 568) (t2 := 496) dL_law_493 (by decide) rfl (fun h493 => ?_) (fun h493 => ?_)
  · exact T568 J490 h S (q476.2.1.byM q490.1) q490.2.2 hV
  · exact absurd q490.2.1.symm h493
theorem law_leastWidth (hL : E.2.2.2.2.1 ≤ 2048) (hi : i + 4 ≤ E.2.2.2.2.1) (hX : rX I S) (hR : rM I S) (hV : vT S) (T568 : lawT E i K) : Wp E fL_law 62 498 [.ref 1000, .ref 0, .ref 41, .int (nI i)] [] (gM I h) K := by
  have ix := law_ix hL hi
  refine g_aload_n (i := 1) (r := 0) (t := 499) dL_law_498 rfl rfl (Or.inl l9_0) rfl ?_
  refine g_aload_n (i := 0) (r := 1000) (t := 500) dL_law_499 rfl rfl (Or.inr rfl) rfl ?_
  refine g_iload_n (i := 3) (t := 501) dL_law_500 rfl rfl rfl ?_
  refine g_iconst (t := 502) dL_law_501 c_iconst_1 rfl ?_
  refine g_iadd (t := 503) dL_law_502 rfl ?_
  refine g_sld (t := 504) (by first | exact ix 1 (by decide) | exact ix 2 (by decide) | exact ix 3 (by decide)) dL_law_503 rfl ?_
  refine g_aload_n (i := 0) (r := 1000) (t := 505) dL_law_504 rfl rfl (Or.inr rfl) rfl ?_
  refine g_iload_n (i := 3) (t := 506) dL_law_505 rfl rfl rfl ?_
  refine g_iconst (t := 507) dL_law_506 c_iconst_2 rfl ?_
  refine g_iadd (t := 508) dL_law_507 rfl ?_
  refine g_sld (t := 509) (by first | exact ix 1 (by decide) | exact ix 2 (by decide) | exact ix 3 (by decide)) dL_law_508 rfl ?_
  refine g_cVi (o := 0) (t := 512) mX6_leastWidth k_L_73 imX6_leastWidth seX6_leastWidth l6_0 l9_0 s_0 rfl dL_law_509 (x6_leastWidth hX) rfl rfl (by decide) (by decide) (Nat.le_of_ble_eq_true rfl) rfl (fun v509 J509 q509 => ?_)
  refine g_aload_n (i := 2) (r := 41) (t := 513) dL_law_512 rfl rfl (Or.inl l9_41) rfl ?_
  refine g_aload_n (i := 0) (r := 1000) (t := 514) dL_law_513 rfl rfl (Or.inr rfl) rfl ?_
  refine g_iload_n (i := 3) (t := 515) dL_law_514 rfl rfl rfl ?_
  refine g_iconst (t := 516) dL_law_515 c_iconst_1 rfl ?_
  refine g_iadd (t := 517) dL_law_516 rfl ?_
  refine g_sld (t := 518) (by first | exact ix 1 (by decide) | exact ix 2 (by decide) | exact ix 3 (by decide)) dL_law_517 rfl ?_
  refine g_aload_n (i := 0) (r := 1000) (t := 519) dL_law_518 rfl rfl (Or.inr rfl) rfl ?_
  refine g_iload_n (i := 3) (t := 520) dL_law_519 rfl rfl rfl ?_
  refine g_iconst (t := 521) dL_law_520 c_iconst_2 rfl ?_
  refine g_iadd (t := 522) dL_law_521 rfl ?_
  refine g_sld (t := 523) (by first | exact ix 1 (by decide) | exact ix 2 (by decide) | exact ix 3 (by decide)) dL_law_522 rfl ?_
  refine g_cVi (o := 41) (t := 526) mX7_leastWidth k_L_76 imX7_leastWidth seX7_leastWidth l6_41 l9_41 s_41 rfl dL_law_523 (x7_leastWidth (hR.byC q509.1) hV q509.2.2) rfl rfl (by decide) (by decide) (Nat.le_of_ble_eq_true rfl) rfl (fun v523 J523 q523 => ?_)
  refine g_icmp_eq (t1 := 568) (t2 := 529) dL_law_526 (by decide) rfl (fun h526 => ?_) (fun h526 => ?_)
  · exact T568 J523 h S (q509.2.1.byM q523.1) q523.2.2 hV
  · exact absurd q523.2.1.symm h526
theorem law_count (hL : E.2.2.2.2.1 ≤ 2048) (hi : i + 4 ≤ E.2.2.2.2.1) (hX : rX I S) (hR : rM I S) (hV : vT S) (T568 : lawT E i K) : Wp E fL_law 62 531 [.ref 1000, .ref 0, .ref 41, .int (nI i)] [] (gM I h) K := by
  have ix := law_ix hL hi
  refine g_aload_n (i := 1) (r := 0) (t := 532) dL_law_531 rfl rfl (Or.inl l9_0) rfl ?_
  refine g_aload_n (i := 0) (r := 1000) (t := 533) dL_law_532 rfl rfl (Or.inr rfl) rfl ?_
  refine g_iload_n (i := 3) (t := 534) dL_law_533 rfl rfl rfl ?_
  refine g_iconst (t := 535) dL_law_534 c_iconst_1 rfl ?_
  refine g_iadd (t := 536) dL_law_535 rfl ?_
  refine g_sld (t := 537) (by first | exact ix 1 (by decide) | exact ix 2 (by decide) | exact ix 3 (by decide)) dL_law_536 rfl ?_
  refine g_cVi (o := 0) (t := 540) mX6_count k_L_77 imX6_count seX6_count l6_0 l9_0 s_0 rfl dL_law_537 (x6_count hX) rfl rfl (by decide) (by decide) (Nat.le_of_ble_eq_true rfl) rfl (fun v537 J537 q537 => ?_)
  refine g_aload_n (i := 2) (r := 41) (t := 541) dL_law_540 rfl rfl (Or.inl l9_41) rfl ?_
  refine g_aload_n (i := 0) (r := 1000) (t := 542) dL_law_541 rfl rfl (Or.inr rfl) rfl ?_
  refine g_iload_n (i := 3) (t := 543) dL_law_542 rfl rfl rfl ?_
  refine g_iconst (t := 544) dL_law_543 c_iconst_1 rfl ?_
  refine g_iadd (t := 545) dL_law_544 rfl ?_
  refine g_sld (t := 546) (by first | exact ix 1 (by decide) | exact ix 2 (by decide) | exact ix 3 (by decide)) dL_law_545 rfl ?_
  refine g_cVi (o := 41) (t := 549) mX7_count k_L_80 imX7_count seX7_count l6_41 l9_41 s_41 rfl dL_law_546 (x7_count (hR.byC q537.1) hV q537.2.2) rfl rfl (by decide) (by decide) (Nat.le_of_ble_eq_true rfl) rfl (fun v546 J546 q546 => ?_)
  refine g_icmp_eq (t1 := 568) (t2 := 552) dL_law_549 (by decide) rfl (fun h549 => ?_) (fun h549 => ?_)
  · exact T568 J546 h S (q537.2.1.byM q546.1) q546.2.2 hV
  · exact absurd q546.2.1.symm h549
theorem law_digest (hL : E.2.2.2.2.1 ≤ 2048) (hi : i + 4 ≤ E.2.2.2.2.1) (hX : rX I S) (hR : rM I S) (hV : vT S) (T568 : lawT E i K) : Wp E fL_law 62 554 [.ref 1000, .ref 0, .ref 41, .int (nI i)] [] (gM I h) K := by
  have T558 : ∀ (J : Nat → Nat → Int32), gSame CL I J → rX J S → Wp E fL_law 62 558 [.ref 1000, .ref 0, .ref 41, .int (nI i)] [.long (dgA S)] (gM J h) K := by
    intro J hs hXJ
    have T562 : ∀ (J2 : Nat → Nat → Int32) (h2 : Int64), gSame ML J J2 → rM J2 S → Wp E fL_law 62 562 [.ref 1000, .ref 0, .ref 41, .int (nI i)] [.long (dgA S), .long (dgA S)] (gM J2 h2) K := by
      intro J2 h2 hs2 hR2
      refine g_lcmp (t := 563) dL_law_562 rfl rfl ?_
      refine g_if_eq (t1 := 568) (t2 := 566) dL_law_563 (by decide) rfl (fun h563 => ?_) (fun h563 => ?_)
      · exact T568 J2 h2 S (hXJ.byM hs2) hR2 hV
      · exact absurd (lg_same _) h563
    refine g_aload_n (i := 2) (r := 41) (t := 559) dL_law_558 rfl rfl (Or.inl l9_41) rfl ?_
    refine g_callV (o := 41) (ci := 7) (t := 562) mX7_digest k_L_85 imX7_digest seX7_digest l6_41 l9_41 s_41 rfl (x7_digest (hR.byC hs) hV) rfl rfl (Nat.le_refl _) (by decide) (by decide) (Nat.le_of_ble_eq_true rfl) dL_law_559 rfl (fun r σ' q _ => ?_)
    obtain ⟨v, J2, h2, rfl, rfl, q1, rfl, q2⟩ := q
    exact T562 J2 h2 q1 q2
  refine g_aload_n (i := 1) (r := 0) (t := 555) dL_law_554 rfl rfl (Or.inl l9_0) rfl ?_
  refine g_callV (o := 0) (ci := 6) (t := 558) mX6_digest k_L_81 imX6_digest seX6_digest l6_0 l9_0 s_0 rfl (x6_digest hX) rfl rfl (Nat.le_refl _) (by decide) (by decide) (Nat.le_of_ble_eq_true rfl) dL_law_555 rfl (fun r σ' q _ => ?_)
  obtain ⟨v, J, rfl, rfl, q1, q2, rfl⟩ := q
  exact T558 J q1 q2
theorem law_loop (hL : E.2.2.2.2.1 ≤ 2048) : ∀ (d i : Nat) (I : Nat → Nat → Int32) (h : Int64) (S : sT), i + d = 4096 → rX I S → rM I S → vT S → Wp E fL_law 62 18 [.ref 1000, .ref 0, .ref 41, .int (nI i)] [] (gM I h) (fun pc _ st σ => pc = 575 ∧ st = [.int (nI 1)] ∧ σ.1 = 62) := by
  intro d
  induction d using Nat.strongRecOn with
  | ind d ih =>
    intro i I h S hd hX hR hV
    have T568 : i + 4 ≤ E.2.2.2.2.1 → lawT E i (fun pc _ st σ => pc = 575 ∧ st = [.int (nI 1)] ∧ σ.1 = 62) := by
      intro hi J h S' hX hR hV
      refine g_iinc (i := 3) (t := 571) (L1 := [_, _, _, _]) dL_law_568 rfl (show nI i + Int32.ofInt 4 = nI (i + 4) by rw [show Int32.ofInt 4 = nI 4 by decide +kernel]; exact nI_add _ _) (by decide) rfl rfl rfl ?_
      refine g_goto (t := 18) dL_law_571 (by decide) ?_
      exact ih (d - 4) (by omega) (i + 4) J h S' (by omega) hX hR hV
    have hgt : nI E.2.2.2.2.1 - nI 4 < nI i ∨ i + 4 ≤ E.2.2.2.2.1 := by
      by_cases y : i + 4 ≤ E.2.2.2.2.1
      · exact Or.inr y
      · refine Or.inl ?_
        rw [t_lt, pk_sub_toInt (by omega) (by decide), nI_toInt (by omega)]
        omega
    refine g_iload_n (i := 3) (t := 19) dL_law_18 rfl rfl rfl ?_
    refine g_aload_n (i := 0) (r := 1000) (t := 20) dL_law_19 rfl rfl (Or.inr rfl) rfl ?_
    refine g_slen (t := 21) dL_law_20 rfl ?_
    refine g_iconst (t := 22) dL_law_21 c_iconst_4 rfl ?_
    refine g_isub (t := 23) dL_law_22 rfl ?_
    refine g_icmp_gt (t1 := 574) (t2 := 26) dL_law_23 (by decide) rfl (fun h23 => ?_) (fun h23 => ?_)
    · refine g_iconst (t := 575) dL_law_574 c_iconst_1 rfl ?_
      exact Wp.here ⟨rfl, rfl, rfl⟩
    · have hi : i + 4 ≤ E.2.2.2.2.1 := hgt.resolve_left h23
      refine g_aload_n (i := 0) (r := 1000) (t := 27) dL_law_26 rfl rfl (Or.inr rfl) rfl ?_
      refine g_iload_n (i := 3) (t := 28) dL_law_27 rfl rfl rfl ?_
      refine g_sld (t := 29) (vp_in_nI (by omega) (by omega)) dL_law_28 rfl ?_
      refine g_bipush (t := 31) dL_law_29 c_bipush_31 rfl ?_
      refine g_iand (t := 32) dL_law_31 rfl ?_
      refine g_sw17 (l := 0) (td := 568) (t0 := 116) (t1 := 139) (t2 := 152) (t3 := 175) (t4 := 198) (t5 := 231) (t6 := 274) (t7 := 297) (t8 := 330) (t9 := 343) (t10 := 376) (t11 := 409) (t12 := 432) (t13 := 465) (t14 := 498) (t15 := 531) (t16 := 554) (by decide) dL_law_32 rfl rfl (by decide) (by decide) (by decide) (by decide) (by decide) (by decide) (by decide) (by decide) (by decide) (by decide) (by decide) (by decide) (by decide) (by decide) (by decide) (by decide) (by decide) (by decide) (fun h32_0 => ?_) (fun h32_1 => ?_) (fun h32_2 => ?_) (fun h32_3 => ?_) (fun h32_4 => ?_) (fun h32_5 => ?_) (fun h32_6 => ?_) (fun h32_7 => ?_) (fun h32_8 => ?_) (fun h32_9 => ?_) (fun h32_10 => ?_) (fun h32_11 => ?_) (fun h32_12 => ?_) (fun h32_13 => ?_) (fun h32_14 => ?_) (fun h32_15 => ?_) (fun h32_16 => ?_) (fun h32_d => ?_)
      · exact law_type hL hi hX hR hV (T568 hi)
      · exact law_clear hL hi hX hR hV (T568 hi)
      · exact law_insert hL hi hX hR hV (T568 hi)
      · exact law_remove hL hi hX hR hV (T568 hi)
      · exact law_move hL hi hX hR hV (T568 hi)
      · exact law_change hL hi hX hR hV (T568 hi)
      · exact law_hide hL hi hX hR hV (T568 hi)
      · exact law_set hL hi hX hR hV (T568 hi)
      · exact law_undo hL hi hX hR hV (T568 hi)
      · exact law_item hL hi hX hR hV (T568 hi)
      · exact law_lies hL hi hX hR hV (T568 hi)
      · exact law_ordered hL hi hX hR hV (T568 hi)
      · exact law_line hL hi hX hR hV (T568 hi)
      · exact law_at hL hi hX hR hV (T568 hi)
      · exact law_leastWidth hL hi hX hR hV (T568 hi)
      · exact law_count hL hi hX hR hV (T568 hi)
      · exact law_digest hL hi hX hR hV (T568 hi)
      · exact T568 hi I h S hX hR hV
end LAW

