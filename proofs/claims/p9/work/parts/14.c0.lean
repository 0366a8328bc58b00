set_option maxHeartbeats 4000000 in
set_option maxRecDepth 100000 in
theorem LC_0 {p : Program} {e : Env} {s : State} {m : MethodId} {below : List Frame} {meth : Method} {c : Code} (l : Launch) {b L : Nat} {xs : Nat → Int32} (hL : L ≤ 3072) (C0 : lw_At p s m meth c b L xs) {ad : Nat → Nat} {cI cL : ClassId} {dC : Nat → ClassId} {dI : Nat → Nat → Nat} {A : Nat → Prop} {sa : Nat} (hfl : l.flags = flags0) (hi : adI ad) (B : Bs p s m #[Value.ref b] c RLA code 7 cI cL dC dI) (hA : ∀ q, AA ad s.heap.size q → A q) (hAf : ∀ q, A q → s.heap.size ≤ q) (hz0 : zz A s s.heap) (hstr : vk_R RHL sIX sTX sa s) {t cells slots : Nat} {Q : State → Prop} (h6 : 6 * t + 6 ≤ L) (hc : cells + 1 ≤ room_1.cells) (hs : slots + 6 ≤ room_1.slots) (S : hS) (H : Heap) (locs : List Loc) (ls : Array Slot) (hJ : Jv t S) (hw : Wd ad cI cL dC dI A s.heap S H locs) (hl : lv_has ls 7 [(0, .ref b), (1, .ref (ad 0)), (2, .ref (ad 49)), (3, .ref (ad 52)), (4, .int (nI (6 * t)))]) (kk : ∀ (S1 : hS) (H : Heap) (locs : List Loc) (ls : Array Slot), Jv (t + 1) S1 → Wd ad cI cL dC dI A s.heap S1 H locs → lv_has ls 7 [(0, .ref b), (1, .ref (ad 0)), (2, .ref (ad 49)), (3, .ref (ad 52)), (4, .int (nI (6 * t)))] → W p l e room_1 s m #[Value.ref b] below meth c H locs (cells + 1) (slots + 6) Q (F0 m 1410 ls [])) : W p l e room_1 s m #[Value.ref b] below meth c H locs cells slots Q (F0 m 148 ls []) := by
  obtain ⟨hx, hb, hr, hml, hown, hts0, hX, hbl, hlocks, hgv⟩ := id C0
  have hts : ∀ w ∈ wALL, w.before #[Value.ref b] s = true := B.2.2.2.2.1
  have hbA : ¬ A b := fun h => absurd (hAf b h) (Nat.not_le.mpr hbl)
  have hc0 : cells ≤ room_1.cells := Nat.le_trans (Nat.le_add_right _ _) hc
  have hs0 : slots ≤ room_1.slots := Nat.le_trans (Nat.le_add_right _ _) hs
  refine lv_aload_n hx hb dLA_law_148 rfl (lv_at hl 1 rfl) ?_
  refine lv_aload_n hx hb dLA_law_149 rfl (lv_at hl 0 rfl) ?_
  refine lv_iload hx hb dLA_law_150 (lv_at hl 4 rfl) ?_
  refine lv_iconst (v := 1) hx hb dLA_law_152 (by decide) ?_
  refine lv_iadd hx hb dLA_law_153 ?_
  refine va_sld hx hb hX hbl hbA hw.2.2 (ixs_1 h6 hL) dLA_law_154 ?_
  refine V_callV (rest := []) B hi hw hA hl.1 (M_FHL_account l hi S (xs (nI (6 * t) + 1).toNatClampNeg) (jc_account h6 hL S (xs (nI (6 * t) + 1).toNatClampNeg) hJ).1) (cw_FHL_account (Nat.le_of_ble_eq_true rfl) (Nat.le_of_ble_eq_true rfl) hc0 hs0) (by decide) rfl rfl wm_508 wm_509 wm_510 rfl (Nat.le_of_ble_eq_true rfl) dLA_law_155 (kI (fun H locs hw => ?_))
  refine lv_pop hx hb dLA_law_158 rfl ?_
  refine lv_aload_n hx hb dLA_law_159 rfl (lv_at hl 2 rfl) ?_
  refine lv_aload_n hx hb dLA_law_160 rfl (lv_at hl 0 rfl) ?_
  refine lv_iload hx hb dLA_law_161 (lv_at hl 4 rfl) ?_
  refine lv_iconst (v := 1) hx hb dLA_law_163 (by decide) ?_
  refine lv_iadd hx hb dLA_law_164 ?_
  refine va_sld hx hb hX hbl hbA hw.2.2 (ixs_1 h6 hL) dLA_law_165 ?_
  refine V_callV (rest := []) B hi hw hA hl.1 (M_FMO_account l hi (FHL_account S (xs (nI (6 * t) + 1).toNatClampNeg)).2 (xs (nI (6 * t) + 1).toNatClampNeg) (jc_account h6 hL S (xs (nI (6 * t) + 1).toNatClampNeg) hJ).2.1) (cw_FMO_account (Nat.le_of_ble_eq_true rfl) (Nat.le_of_ble_eq_true rfl) hc0 hs0) (by decide) rfl rfl wm_511 wm_512 wm_513 rfl (Nat.le_of_ble_eq_true rfl) dLA_law_166 (kI (fun H locs hw => ?_))
  refine lv_pop hx hb dLA_law_169 rfl ?_
  refine lv_goto (tgt := 1410) hx hb dLA_law_170 (by decide) ?_
  exact W.widen (Nat.le_add_right _ _) (Nat.le_add_right _ _) (kk _ _ _ _ (jc_account h6 hL S (xs (nI (6 * t) + 1).toNatClampNeg) hJ).2.2.2 hw hl)
set_option maxHeartbeats 4000000 in
set_option maxRecDepth 100000 in
theorem LC_1 {p : Program} {e : Env} {s : State} {m : MethodId} {below : List Frame} {meth : Method} {c : Code} (l : Launch) {b L : Nat} {xs : Nat → Int32} (hL : L ≤ 3072) (C0 : lw_At p s m meth c b L xs) {ad : Nat → Nat} {cI cL : ClassId} {dC : Nat → ClassId} {dI : Nat → Nat → Nat} {A : Nat → Prop} {sa : Nat} (hfl : l.flags = flags0) (hi : adI ad) (B : Bs p s m #[Value.ref b] c RLA code 7 cI cL dC dI) (hA : ∀ q, AA ad s.heap.size q → A q) (hAf : ∀ q, A q → s.heap.size ≤ q) (hz0 : zz A s s.heap) (hstr : vk_R RHL sIX sTX sa s) {t cells slots : Nat} {Q : State → Prop} (h6 : 6 * t + 6 ≤ L) (hc : cells + 1 ≤ room_1.cells) (hs : slots + 6 ≤ room_1.slots) (S : hS) (H : Heap) (locs : List Loc) (ls : Array Slot) (hJ : Jv t S) (hw : Wd ad cI cL dC dI A s.heap S H locs) (hl : lv_has ls 7 [(0, .ref b), (1, .ref (ad 0)), (2, .ref (ad 49)), (3, .ref (ad 52)), (4, .int (nI (6 * t)))]) (kk : ∀ (S1 : hS) (H : Heap) (locs : List Loc) (ls : Array Slot), Jv (t + 1) S1 → Wd ad cI cL dC dI A s.heap S1 H locs → lv_has ls 7 [(0, .ref b), (1, .ref (ad 0)), (2, .ref (ad 49)), (3, .ref (ad 52)), (4, .int (nI (6 * t)))] → W p l e room_1 s m #[Value.ref b] below meth c H locs (cells + 1) (slots + 6) Q (F0 m 1410 ls [])) : W p l e room_1 s m #[Value.ref b] below meth c H locs cells slots Q (F0 m 173 ls []) := by
  obtain ⟨hx, hb, hr, hml, hown, hts0, hX, hbl, hlocks, hgv⟩ := id C0
  have hts : ∀ w ∈ wALL, w.before #[Value.ref b] s = true := B.2.2.2.2.1
  have hbA : ¬ A b := fun h => absurd (hAf b h) (Nat.not_le.mpr hbl)
  have hc0 : cells ≤ room_1.cells := Nat.le_trans (Nat.le_add_right _ _) hc
  have hs0 : slots ≤ room_1.slots := Nat.le_trans (Nat.le_add_right _ _) hs
  refine lv_aload_n hx hb dLA_law_173 rfl (lv_at hl 1 rfl) ?_
  refine lv_aload_n hx hb dLA_law_174 rfl (lv_at hl 0 rfl) ?_
  refine lv_iload hx hb dLA_law_175 (lv_at hl 4 rfl) ?_
  refine lv_iconst (v := 1) hx hb dLA_law_177 (by decide) ?_
  refine lv_iadd hx hb dLA_law_178 ?_
  refine va_sld hx hb hX hbl hbA hw.2.2 (ixs_1 h6 hL) dLA_law_179 ?_
  refine lv_i2l hx hb dLA_law_180 rfl ?_
  refine lv_bipush (v := 32) hx hb dLA_law_181 (by decide) ?_
  refine lv_lshl hx hb dLA_law_183 rfl ?_
  refine lv_aload_n hx hb dLA_law_184 rfl (lv_at hl 0 rfl) ?_
  refine lv_iload hx hb dLA_law_185 (lv_at hl 4 rfl) ?_
  refine lv_iconst (v := 2) hx hb dLA_law_187 (by decide) ?_
  refine lv_iadd hx hb dLA_law_188 ?_
  refine va_sld hx hb hX hbl hbA hw.2.2 (ixs_2 h6 hL) dLA_law_189 ?_
  refine lv_i2l hx hb dLA_law_190 rfl ?_
  refine lv_ldc2 (v := 4294967295) hx hb hown (hts _ wm_514) dLA_law_191 ?_
  refine lv_land hx hb dLA_law_194 ?_
  refine lv_lor hx hb dLA_law_195 ?_
  refine V_callV (rest := []) B hi hw hA hl.1 (M_FHL_entry l hi S ((((xs (nI (6 * t) + 1).toNatClampNeg).toInt64) <<< ((32 : Int32).toInt64 &&& 63)) ||| (((xs (nI (6 * t) + 2).toNatClampNeg).toInt64) &&& 4294967295)) (jc_entry h6 hL S ((((xs (nI (6 * t) + 1).toNatClampNeg).toInt64) <<< ((32 : Int32).toInt64 &&& 63)) ||| (((xs (nI (6 * t) + 2).toNatClampNeg).toInt64) &&& 4294967295)) hJ).1) (cw_FHL_entry (Nat.le_of_ble_eq_true rfl) (Nat.le_of_ble_eq_true rfl) hc0 hs0) (by decide) rfl rfl wm_515 wm_516 wm_517 rfl (Nat.le_of_ble_eq_true rfl) dLA_law_196 (kI (fun H locs hw => ?_))
  refine lv_pop hx hb dLA_law_199 rfl ?_
  refine lv_aload_n hx hb dLA_law_200 rfl (lv_at hl 2 rfl) ?_
  refine lv_aload_n hx hb dLA_law_201 rfl (lv_at hl 0 rfl) ?_
  refine lv_iload hx hb dLA_law_202 (lv_at hl 4 rfl) ?_
  refine lv_iconst (v := 1) hx hb dLA_law_204 (by decide) ?_
  refine lv_iadd hx hb dLA_law_205 ?_
  refine va_sld hx hb hX hbl hbA hw.2.2 (ixs_1 h6 hL) dLA_law_206 ?_
  refine lv_i2l hx hb dLA_law_207 rfl ?_
  refine lv_bipush (v := 32) hx hb dLA_law_208 (by decide) ?_
  refine lv_lshl hx hb dLA_law_210 rfl ?_
  refine lv_aload_n hx hb dLA_law_211 rfl (lv_at hl 0 rfl) ?_
  refine lv_iload hx hb dLA_law_212 (lv_at hl 4 rfl) ?_
  refine lv_iconst (v := 2) hx hb dLA_law_214 (by decide) ?_
  refine lv_iadd hx hb dLA_law_215 ?_
  refine va_sld hx hb hX hbl hbA hw.2.2 (ixs_2 h6 hL) dLA_law_216 ?_
  refine lv_i2l hx hb dLA_law_217 rfl ?_
  refine lv_ldc2 (v := 4294967295) hx hb hown (hts _ wm_514) dLA_law_218 ?_
  refine lv_land hx hb dLA_law_221 ?_
  refine lv_lor hx hb dLA_law_222 ?_
  refine V_callV (rest := []) B hi hw hA hl.1 (M_FMO_entry l hi (FHL_entry S ((((xs (nI (6 * t) + 1).toNatClampNeg).toInt64) <<< ((32 : Int32).toInt64 &&& 63)) ||| (((xs (nI (6 * t) + 2).toNatClampNeg).toInt64) &&& 4294967295))).2 ((((xs (nI (6 * t) + 1).toNatClampNeg).toInt64) <<< ((32 : Int32).toInt64 &&& 63)) ||| (((xs (nI (6 * t) + 2).toNatClampNeg).toInt64) &&& 4294967295)) (jc_entry h6 hL S ((((xs (nI (6 * t) + 1).toNatClampNeg).toInt64) <<< ((32 : Int32).toInt64 &&& 63)) ||| (((xs (nI (6 * t) + 2).toNatClampNeg).toInt64) &&& 4294967295)) hJ).2.1) (cw_FMO_entry (Nat.le_of_ble_eq_true rfl) (Nat.le_of_ble_eq_true rfl) hc0 hs0) (by decide) rfl rfl wm_518 wm_519 wm_520 rfl (Nat.le_of_ble_eq_true rfl) dLA_law_223 (kI (fun H locs hw => ?_))
  refine lv_pop hx hb dLA_law_226 rfl ?_
  refine lv_goto (tgt := 1410) hx hb dLA_law_227 (by decide) ?_
  exact W.widen (Nat.le_add_right _ _) (Nat.le_add_right _ _) (kk _ _ _ _ (jc_entry h6 hL S ((((xs (nI (6 * t) + 1).toNatClampNeg).toInt64) <<< ((32 : Int32).toInt64 &&& 63)) ||| (((xs (nI (6 * t) + 2).toNatClampNeg).toInt64) &&& 4294967295)) hJ).2.2.2 hw hl)
set_option maxHeartbeats 4000000 in
set_option maxRecDepth 100000 in
theorem LC_2 {p : Program} {e : Env} {s : State} {m : MethodId} {below : List Frame} {meth : Method} {c : Code} (l : Launch) {b L : Nat} {xs : Nat → Int32} (hL : L ≤ 3072) (C0 : lw_At p s m meth c b L xs) {ad : Nat → Nat} {cI cL : ClassId} {dC : Nat → ClassId} {dI : Nat → Nat → Nat} {A : Nat → Prop} {sa : Nat} (hfl : l.flags = flags0) (hi : adI ad) (B : Bs p s m #[Value.ref b] c RLA code 7 cI cL dC dI) (hA : ∀ q, AA ad s.heap.size q → A q) (hAf : ∀ q, A q → s.heap.size ≤ q) (hz0 : zz A s s.heap) (hstr : vk_R RHL sIX sTX sa s) {t cells slots : Nat} {Q : State → Prop} (h6 : 6 * t + 6 ≤ L) (hc : cells + 1 ≤ room_1.cells) (hs : slots + 6 ≤ room_1.slots) (S : hS) (H : Heap) (locs : List Loc) (ls : Array Slot) (hJ : Jv t S) (hw : Wd ad cI cL dC dI A s.heap S H locs) (hl : lv_has ls 7 [(0, .ref b), (1, .ref (ad 0)), (2, .ref (ad 49)), (3, .ref (ad 52)), (4, .int (nI (6 * t)))]) (kk : ∀ (S1 : hS) (H : Heap) (locs : List Loc) (ls : Array Slot), Jv (t + 1) S1 → Wd ad cI cL dC dI A s.heap S1 H locs → lv_has ls 7 [(0, .ref b), (1, .ref (ad 0)), (2, .ref (ad 49)), (3, .ref (ad 52)), (4, .int (nI (6 * t)))] → W p l e room_1 s m #[Value.ref b] below meth c H locs (cells + 1) (slots + 6) Q (F0 m 1410 ls [])) : W p l e room_1 s m #[Value.ref b] below meth c H locs cells slots Q (F0 m 230 ls []) := by
  obtain ⟨hx, hb, hr, hml, hown, hts0, hX, hbl, hlocks, hgv⟩ := id C0
  have hts : ∀ w ∈ wALL, w.before #[Value.ref b] s = true := B.2.2.2.2.1
  have hbA : ¬ A b := fun h => absurd (hAf b h) (Nat.not_le.mpr hbl)
  have hc0 : cells ≤ room_1.cells := Nat.le_trans (Nat.le_add_right _ _) hc
  have hs0 : slots ≤ room_1.slots := Nat.le_trans (Nat.le_add_right _ _) hs
  refine lv_aload_n hx hb dLA_law_230 rfl (lv_at hl 1 rfl) ?_
  refine lv_aload_n hx hb dLA_law_231 rfl (lv_at hl 0 rfl) ?_
  refine lv_iload hx hb dLA_law_232 (lv_at hl 4 rfl) ?_
  refine lv_iconst (v := 1) hx hb dLA_law_234 (by decide) ?_
  refine lv_iadd hx hb dLA_law_235 ?_
  refine va_sld hx hb hX hbl hbA hw.2.2 (ixs_1 h6 hL) dLA_law_236 ?_
  refine lv_aload_n hx hb dLA_law_237 rfl (lv_at hl 0 rfl) ?_
  refine lv_iload hx hb dLA_law_238 (lv_at hl 4 rfl) ?_
  refine lv_iconst (v := 2) hx hb dLA_law_240 (by decide) ?_
  refine lv_iadd hx hb dLA_law_241 ?_
  refine va_sld hx hb hX hbl hbA hw.2.2 (ixs_2 h6 hL) dLA_law_242 ?_
  refine lv_aload_n hx hb dLA_law_243 rfl (lv_at hl 0 rfl) ?_
  refine lv_iload hx hb dLA_law_244 (lv_at hl 4 rfl) ?_
  refine lv_iconst (v := 3) hx hb dLA_law_246 (by decide) ?_
  refine lv_iadd hx hb dLA_law_247 ?_
  refine va_sld hx hb hX hbl hbA hw.2.2 (ixs_3 h6 hL) dLA_law_248 ?_
  refine lv_i2l hx hb dLA_law_249 rfl ?_
  refine lv_bipush (v := 32) hx hb dLA_law_250 (by decide) ?_
  refine lv_lshl hx hb dLA_law_252 rfl ?_
  refine lv_aload_n hx hb dLA_law_253 rfl (lv_at hl 0 rfl) ?_
  refine lv_iload hx hb dLA_law_254 (lv_at hl 4 rfl) ?_
  refine lv_iconst (v := 4) hx hb dLA_law_256 (by decide) ?_
  refine lv_iadd hx hb dLA_law_257 ?_
  refine va_sld hx hb hX hbl hbA hw.2.2 (ixs_4 h6 hL) dLA_law_258 ?_
  refine lv_i2l hx hb dLA_law_259 rfl ?_
  refine lv_ldc2 (v := 4294967295) hx hb hown (hts _ wm_514) dLA_law_260 ?_
  refine lv_land hx hb dLA_law_263 ?_
  refine lv_lor hx hb dLA_law_264 ?_
  refine V_callV (rest := []) B hi hw hA hl.1 (M_FHL_row l hi S (xs (nI (6 * t) + 1).toNatClampNeg) (xs (nI (6 * t) + 2).toNatClampNeg) ((((xs (nI (6 * t) + 3).toNatClampNeg).toInt64) <<< ((32 : Int32).toInt64 &&& 63)) ||| (((xs (nI (6 * t) + 4).toNatClampNeg).toInt64) &&& 4294967295)) (jc_row h6 hL S (xs (nI (6 * t) + 1).toNatClampNeg) (xs (nI (6 * t) + 2).toNatClampNeg) ((((xs (nI (6 * t) + 3).toNatClampNeg).toInt64) <<< ((32 : Int32).toInt64 &&& 63)) ||| (((xs (nI (6 * t) + 4).toNatClampNeg).toInt64) &&& 4294967295)) hJ).1) (cw_FHL_row (Nat.le_of_ble_eq_true rfl) (Nat.le_of_ble_eq_true rfl) hc0 hs0) (by decide) rfl rfl wm_521 wm_522 wm_523 rfl (Nat.le_of_ble_eq_true rfl) dLA_law_265 (kI (fun H locs hw => ?_))
  refine lv_pop hx hb dLA_law_268 rfl ?_
  refine lv_aload_n hx hb dLA_law_269 rfl (lv_at hl 2 rfl) ?_
  refine lv_aload_n hx hb dLA_law_270 rfl (lv_at hl 0 rfl) ?_
  refine lv_iload hx hb dLA_law_271 (lv_at hl 4 rfl) ?_
  refine lv_iconst (v := 1) hx hb dLA_law_273 (by decide) ?_
  refine lv_iadd hx hb dLA_law_274 ?_
  refine va_sld hx hb hX hbl hbA hw.2.2 (ixs_1 h6 hL) dLA_law_275 ?_
  refine lv_aload_n hx hb dLA_law_276 rfl (lv_at hl 0 rfl) ?_
  refine lv_iload hx hb dLA_law_277 (lv_at hl 4 rfl) ?_
  refine lv_iconst (v := 2) hx hb dLA_law_279 (by decide) ?_
  refine lv_iadd hx hb dLA_law_280 ?_
  refine va_sld hx hb hX hbl hbA hw.2.2 (ixs_2 h6 hL) dLA_law_281 ?_
  refine lv_aload_n hx hb dLA_law_282 rfl (lv_at hl 0 rfl) ?_
  refine lv_iload hx hb dLA_law_283 (lv_at hl 4 rfl) ?_
  refine lv_iconst (v := 3) hx hb dLA_law_285 (by decide) ?_
  refine lv_iadd hx hb dLA_law_286 ?_
  refine va_sld hx hb hX hbl hbA hw.2.2 (ixs_3 h6 hL) dLA_law_287 ?_
  refine lv_i2l hx hb dLA_law_288 rfl ?_
  refine lv_bipush (v := 32) hx hb dLA_law_289 (by decide) ?_
  refine lv_lshl hx hb dLA_law_291 rfl ?_
  refine lv_aload_n hx hb dLA_law_292 rfl (lv_at hl 0 rfl) ?_
  refine lv_iload hx hb dLA_law_293 (lv_at hl 4 rfl) ?_
  refine lv_iconst (v := 4) hx hb dLA_law_295 (by decide) ?_
  refine lv_iadd hx hb dLA_law_296 ?_
  refine va_sld hx hb hX hbl hbA hw.2.2 (ixs_4 h6 hL) dLA_law_297 ?_
  refine lv_i2l hx hb dLA_law_298 rfl ?_
  refine lv_ldc2 (v := 4294967295) hx hb hown (hts _ wm_514) dLA_law_299 ?_
  refine lv_land hx hb dLA_law_302 ?_
  refine lv_lor hx hb dLA_law_303 ?_
  refine V_callV (rest := []) B hi hw hA hl.1 (M_FMO_row l hi (FHL_row S (xs (nI (6 * t) + 1).toNatClampNeg) (xs (nI (6 * t) + 2).toNatClampNeg) ((((xs (nI (6 * t) + 3).toNatClampNeg).toInt64) <<< ((32 : Int32).toInt64 &&& 63)) ||| (((xs (nI (6 * t) + 4).toNatClampNeg).toInt64) &&& 4294967295))).2 (xs (nI (6 * t) + 1).toNatClampNeg) (xs (nI (6 * t) + 2).toNatClampNeg) ((((xs (nI (6 * t) + 3).toNatClampNeg).toInt64) <<< ((32 : Int32).toInt64 &&& 63)) ||| (((xs (nI (6 * t) + 4).toNatClampNeg).toInt64) &&& 4294967295)) (jc_row h6 hL S (xs (nI (6 * t) + 1).toNatClampNeg) (xs (nI (6 * t) + 2).toNatClampNeg) ((((xs (nI (6 * t) + 3).toNatClampNeg).toInt64) <<< ((32 : Int32).toInt64 &&& 63)) ||| (((xs (nI (6 * t) + 4).toNatClampNeg).toInt64) &&& 4294967295)) hJ).2.1) (cw_FMO_row (Nat.le_of_ble_eq_true rfl) (Nat.le_of_ble_eq_true rfl) hc0 hs0) (by decide) rfl rfl wm_524 wm_525 wm_526 rfl (Nat.le_of_ble_eq_true rfl) dLA_law_304 (kI (fun H locs hw => ?_))
  refine lv_pop hx hb dLA_law_307 rfl ?_
  refine lv_goto (tgt := 1410) hx hb dLA_law_308 (by decide) ?_
  exact W.widen (Nat.le_add_right _ _) (Nat.le_add_right _ _) (kk _ _ _ _ (jc_row h6 hL S (xs (nI (6 * t) + 1).toNatClampNeg) (xs (nI (6 * t) + 2).toNatClampNeg) ((((xs (nI (6 * t) + 3).toNatClampNeg).toInt64) <<< ((32 : Int32).toInt64 &&& 63)) ||| (((xs (nI (6 * t) + 4).toNatClampNeg).toInt64) &&& 4294967295)) hJ).2.2.2 hw hl)
set_option maxHeartbeats 4000000 in
set_option maxRecDepth 100000 in
theorem LC_3 {p : Program} {e : Env} {s : State} {m : MethodId} {below : List Frame} {meth : Method} {c : Code} (l : Launch) {b L : Nat} {xs : Nat → Int32} (hL : L ≤ 3072) (C0 : lw_At p s m meth c b L xs) {ad : Nat → Nat} {cI cL : ClassId} {dC : Nat → ClassId} {dI : Nat → Nat → Nat} {A : Nat → Prop} {sa : Nat} (hfl : l.flags = flags0) (hi : adI ad) (B : Bs p s m #[Value.ref b] c RLA code 7 cI cL dC dI) (hA : ∀ q, AA ad s.heap.size q → A q) (hAf : ∀ q, A q → s.heap.size ≤ q) (hz0 : zz A s s.heap) (hstr : vk_R RHL sIX sTX sa s) {t cells slots : Nat} {Q : State → Prop} (h6 : 6 * t + 6 ≤ L) (hc : cells + 1 ≤ room_1.cells) (hs : slots + 6 ≤ room_1.slots) (S : hS) (H : Heap) (locs : List Loc) (ls : Array Slot) (hJ : Jv t S) (hw : Wd ad cI cL dC dI A s.heap S H locs) (hl : lv_has ls 7 [(0, .ref b), (1, .ref (ad 0)), (2, .ref (ad 49)), (3, .ref (ad 52)), (4, .int (nI (6 * t)))]) (kk : ∀ (S1 : hS) (H : Heap) (locs : List Loc) (ls : Array Slot), Jv (t + 1) S1 → Wd ad cI cL dC dI A s.heap S1 H locs → lv_has ls 7 [(0, .ref b), (1, .ref (ad 0)), (2, .ref (ad 49)), (3, .ref (ad 52)), (4, .int (nI (6 * t)))] → W p l e room_1 s m #[Value.ref b] below meth c H locs (cells + 1) (slots + 6) Q (F0 m 1410 ls [])) : W p l e room_1 s m #[Value.ref b] below meth c H locs cells slots Q (F0 m 311 ls []) := by
  obtain ⟨hx, hb, hr, hml, hown, hts0, hX, hbl, hlocks, hgv⟩ := id C0
  have hts : ∀ w ∈ wALL, w.before #[Value.ref b] s = true := B.2.2.2.2.1
  have hbA : ¬ A b := fun h => absurd (hAf b h) (Nat.not_le.mpr hbl)
  have hc0 : cells ≤ room_1.cells := Nat.le_trans (Nat.le_add_right _ _) hc
  have hs0 : slots ≤ room_1.slots := Nat.le_trans (Nat.le_add_right _ _) hs
  refine lv_aload_n hx hb dLA_law_311 rfl (lv_at hl 1 rfl) ?_
  refine lv_aload_n hx hb dLA_law_312 rfl (lv_at hl 0 rfl) ?_
  refine lv_iload hx hb dLA_law_313 (lv_at hl 4 rfl) ?_
  refine lv_iconst (v := 1) hx hb dLA_law_315 (by decide) ?_
  refine lv_iadd hx hb dLA_law_316 ?_
  refine va_sld hx hb hX hbl hbA hw.2.2 (ixs_1 h6 hL) dLA_law_317 ?_
  refine lv_aload_n hx hb dLA_law_318 rfl (lv_at hl 3 rfl) ?_
  refine V_callSW (rest := []) B hi hw hA hl.1 (M_LA_close l hfl hi S (xs (nI (6 * t) + 1).toNatClampNeg) (jc_close h6 hL S (xs (nI (6 * t) + 1).toNatClampNeg) hJ).1) ((hz0.kept hw.2.2.2.1).narrow (AA_A hA hw.2.2.1)) hstr cw_LA_close wm_527 wm_528 wm_529 rfl (Nat.le_of_ble_eq_true rfl) dLA_law_319 hc hs (kI (fun H locs hw => ?_))
  refine lv_istore (lv' := [(5, .int (FLA_close S (xs (nI (6 * t) + 1).toNatClampNeg)).1), (0, .ref b), (1, .ref (ad 0)), (2, .ref (ad 49)), (3, .ref (ad 52)), (4, .int (nI (6 * t)))]) hx hb dLA_law_322 hl (by decide) rfl (fun ls hl => ?_)
  refine lv_aload_n hx hb dLA_law_324 rfl (lv_at hl 3 rfl) ?_
  refine lv_aload_n hx hb dLA_law_325 rfl (lv_at hl 1 rfl) ?_
  refine lv_iload hx hb dLA_law_326 (lv_at hl 5 rfl) ?_
  refine lv_iconst (v := 1) hx hb dLA_law_328 (by decide) ?_
  refine lv_iadd hx hb dLA_law_329 ?_
  refine va_sld hx hb hX hbl hbA hw.2.2 (ixs_1 h6 hL) dLA_law_330 ?_
  refine V_callV (rest := []) B hi hw hA hl.1 (M_FMO_close l hi (FLA_close S (xs (nI (6 * t) + 1).toNatClampNeg)).2 (xs (nI (6 * t) + 1).toNatClampNeg) (jc_close h6 hL S (xs (nI (6 * t) + 1).toNatClampNeg) hJ).2.1) (cw_FMO_close (Nat.le_of_ble_eq_true rfl) (Nat.le_of_ble_eq_true rfl) hc hs) (by decide) rfl rfl wm_530 wm_531 wm_532 rfl (Nat.le_of_ble_eq_true rfl) dLA_law_331 (kI (fun H locs hw => ?_))
  refine lv_istore (lv' := [(6, .int (FMO_close (FLA_close S (xs (nI (6 * t) + 1).toNatClampNeg)).2 (xs (nI (6 * t) + 1).toNatClampNeg)).1), (5, .int (FLA_close S (xs (nI (6 * t) + 1).toNatClampNeg)).1), (0, .ref b), (1, .ref (ad 0)), (2, .ref (ad 49)), (3, .ref (ad 52)), (4, .int (nI (6 * t)))]) hx hb dLA_law_334 hl (by decide) rfl (fun ls hl => ?_)
  refine lv_goto (tgt := 1410) hx hb dLA_law_336 (by decide) ?_
  exact kk _ _ _ _ (jc_close h6 hL S (xs (nI (6 * t) + 1).toNatClampNeg) hJ).2.2.2 hw (lv_sub hl [2, 3, 4, 5, 6] rfl)
set_option maxHeartbeats 4000000 in
set_option maxRecDepth 100000 in
theorem LC_4 {p : Program} {e : Env} {s : State} {m : MethodId} {below : List Frame} {meth : Method} {c : Code} (l : Launch) {b L : Nat} {xs : Nat → Int32} (hL : L ≤ 3072) (C0 : lw_At p s m meth c b L xs) {ad : Nat → Nat} {cI cL : ClassId} {dC : Nat → ClassId} {dI : Nat → Nat → Nat} {A : Nat → Prop} {sa : Nat} (hfl : l.flags = flags0) (hi : adI ad) (B : Bs p s m #[Value.ref b] c RLA code 7 cI cL dC dI) (hA : ∀ q, AA ad s.heap.size q → A q) (hAf : ∀ q, A q → s.heap.size ≤ q) (hz0 : zz A s s.heap) (hstr : vk_R RHL sIX sTX sa s) {t cells slots : Nat} {Q : State → Prop} (h6 : 6 * t + 6 ≤ L) (hc : cells + 1 ≤ room_1.cells) (hs : slots + 6 ≤ room_1.slots) (S : hS) (H : Heap) (locs : List Loc) (ls : Array Slot) (hJ : Jv t S) (hw : Wd ad cI cL dC dI A s.heap S H locs) (hl : lv_has ls 7 [(0, .ref b), (1, .ref (ad 0)), (2, .ref (ad 49)), (3, .ref (ad 52)), (4, .int (nI (6 * t)))]) (kk : ∀ (S1 : hS) (H : Heap) (locs : List Loc) (ls : Array Slot), Jv (t + 1) S1 → Wd ad cI cL dC dI A s.heap S1 H locs → lv_has ls 7 [(0, .ref b), (1, .ref (ad 0)), (2, .ref (ad 49)), (3, .ref (ad 52)), (4, .int (nI (6 * t)))] → W p l e room_1 s m #[Value.ref b] below meth c H locs (cells + 1) (slots + 6) Q (F0 m 1410 ls [])) : W p l e room_1 s m #[Value.ref b] below meth c H locs cells slots Q (F0 m 339 ls []) := by
  obtain ⟨hx, hb, hr, hml, hown, hts0, hX, hbl, hlocks, hgv⟩ := id C0
  have hts : ∀ w ∈ wALL, w.before #[Value.ref b] s = true := B.2.2.2.2.1
  have hbA : ¬ A b := fun h => absurd (hAf b h) (Nat.not_le.mpr hbl)
  have hc0 : cells ≤ room_1.cells := Nat.le_trans (Nat.le_add_right _ _) hc
  have hs0 : slots ≤ room_1.slots := Nat.le_trans (Nat.le_add_right _ _) hs
  refine lv_aload_n hx hb dLA_law_339 rfl (lv_at hl 1 rfl) ?_
  refine lv_aload_n hx hb dLA_law_340 rfl (lv_at hl 0 rfl) ?_
  refine lv_iload hx hb dLA_law_341 (lv_at hl 4 rfl) ?_
  refine lv_iconst (v := 1) hx hb dLA_law_343 (by decide) ?_
  refine lv_iadd hx hb dLA_law_344 ?_
  refine va_sld hx hb hX hbl hbA hw.2.2 (ixs_1 h6 hL) dLA_law_345 ?_
  refine lv_aload_n hx hb dLA_law_346 rfl (lv_at hl 0 rfl) ?_
  refine lv_iload hx hb dLA_law_347 (lv_at hl 4 rfl) ?_
  refine lv_iconst (v := 2) hx hb dLA_law_349 (by decide) ?_
  refine lv_iadd hx hb dLA_law_350 ?_
  refine va_sld hx hb hX hbl hbA hw.2.2 (ixs_2 h6 hL) dLA_law_351 ?_
  refine lv_i2l hx hb dLA_law_352 rfl ?_
  refine lv_bipush (v := 32) hx hb dLA_law_353 (by decide) ?_
  refine lv_lshl hx hb dLA_law_355 rfl ?_
  refine lv_aload_n hx hb dLA_law_356 rfl (lv_at hl 0 rfl) ?_
  refine lv_iload hx hb dLA_law_357 (lv_at hl 4 rfl) ?_
  refine lv_iconst (v := 3) hx hb dLA_law_359 (by decide) ?_
  refine lv_iadd hx hb dLA_law_360 ?_
  refine va_sld hx hb hX hbl hbA hw.2.2 (ixs_3 h6 hL) dLA_law_361 ?_
  refine lv_i2l hx hb dLA_law_362 rfl ?_
  refine lv_ldc2 (v := 4294967295) hx hb hown (hts _ wm_514) dLA_law_363 ?_
  refine lv_land hx hb dLA_law_366 ?_
  refine lv_lor hx hb dLA_law_367 ?_
  refine V_callV (rest := []) B hi hw hA hl.1 (M_FHL_balance l hi S (xs (nI (6 * t) + 1).toNatClampNeg) ((((xs (nI (6 * t) + 2).toNatClampNeg).toInt64) <<< ((32 : Int32).toInt64 &&& 63)) ||| (((xs (nI (6 * t) + 3).toNatClampNeg).toInt64) &&& 4294967295)) (jc_balance h6 hL S (xs (nI (6 * t) + 1).toNatClampNeg) ((((xs (nI (6 * t) + 2).toNatClampNeg).toInt64) <<< ((32 : Int32).toInt64 &&& 63)) ||| (((xs (nI (6 * t) + 3).toNatClampNeg).toInt64) &&& 4294967295)) hJ).1) (cw_FHL_balance (Nat.le_of_ble_eq_true rfl) (Nat.le_of_ble_eq_true rfl) hc0 hs0) (by decide) rfl rfl wm_533 wm_534 wm_535 rfl (Nat.le_of_ble_eq_true rfl) dLA_law_368 (kL (fun H locs hw => ?_))
  refine lv_pop2_2 hx hb dLA_law_371 rfl ?_
  refine lv_aload_n hx hb dLA_law_372 rfl (lv_at hl 2 rfl) ?_
  refine lv_aload_n hx hb dLA_law_373 rfl (lv_at hl 0 rfl) ?_
  refine lv_iload hx hb dLA_law_374 (lv_at hl 4 rfl) ?_
  refine lv_iconst (v := 1) hx hb dLA_law_376 (by decide) ?_
  refine lv_iadd hx hb dLA_law_377 ?_
  refine va_sld hx hb hX hbl hbA hw.2.2 (ixs_1 h6 hL) dLA_law_378 ?_
  refine lv_aload_n hx hb dLA_law_379 rfl (lv_at hl 0 rfl) ?_
  refine lv_iload hx hb dLA_law_380 (lv_at hl 4 rfl) ?_
  refine lv_iconst (v := 2) hx hb dLA_law_382 (by decide) ?_
  refine lv_iadd hx hb dLA_law_383 ?_
  refine va_sld hx hb hX hbl hbA hw.2.2 (ixs_2 h6 hL) dLA_law_384 ?_
  refine lv_i2l hx hb dLA_law_385 rfl ?_
  refine lv_bipush (v := 32) hx hb dLA_law_386 (by decide) ?_
  refine lv_lshl hx hb dLA_law_388 rfl ?_
  refine lv_aload_n hx hb dLA_law_389 rfl (lv_at hl 0 rfl) ?_
  refine lv_iload hx hb dLA_law_390 (lv_at hl 4 rfl) ?_
  refine lv_iconst (v := 3) hx hb dLA_law_392 (by decide) ?_
  refine lv_iadd hx hb dLA_law_393 ?_
  refine va_sld hx hb hX hbl hbA hw.2.2 (ixs_3 h6 hL) dLA_law_394 ?_
  refine lv_i2l hx hb dLA_law_395 rfl ?_
  refine lv_ldc2 (v := 4294967295) hx hb hown (hts _ wm_514) dLA_law_396 ?_
  refine lv_land hx hb dLA_law_399 ?_
  refine lv_lor hx hb dLA_law_400 ?_
  refine V_callV (rest := []) B hi hw hA hl.1 (M_FMO_balance l hi S (xs (nI (6 * t) + 1).toNatClampNeg) ((((xs (nI (6 * t) + 2).toNatClampNeg).toInt64) <<< ((32 : Int32).toInt64 &&& 63)) ||| (((xs (nI (6 * t) + 3).toNatClampNeg).toInt64) &&& 4294967295)) (jc_balance h6 hL S (xs (nI (6 * t) + 1).toNatClampNeg) ((((xs (nI (6 * t) + 2).toNatClampNeg).toInt64) <<< ((32 : Int32).toInt64 &&& 63)) ||| (((xs (nI (6 * t) + 3).toNatClampNeg).toInt64) &&& 4294967295)) hJ).2.1) (cw_FMO_balance (Nat.le_of_ble_eq_true rfl) (Nat.le_of_ble_eq_true rfl) hc0 hs0) (by decide) rfl rfl wm_536 wm_537 wm_538 rfl (Nat.le_of_ble_eq_true rfl) dLA_law_401 (kL (fun H locs hw => ?_))
  refine lv_pop2_2 hx hb dLA_law_404 rfl ?_
  refine lv_goto (tgt := 1410) hx hb dLA_law_405 (by decide) ?_
  exact W.widen (Nat.le_add_right _ _) (Nat.le_add_right _ _) (kk _ _ _ _ (jc_balance h6 hL S (xs (nI (6 * t) + 1).toNatClampNeg) ((((xs (nI (6 * t) + 2).toNatClampNeg).toInt64) <<< ((32 : Int32).toInt64 &&& 63)) ||| (((xs (nI (6 * t) + 3).toNatClampNeg).toInt64) &&& 4294967295)) hJ).2.2.2 hw hl)
set_option maxHeartbeats 4000000 in
set_option maxRecDepth 100000 in
theorem LC_5 {p : Program} {e : Env} {s : State} {m : MethodId} {below : List Frame} {meth : Method} {c : Code} (l : Launch) {b L : Nat} {xs : Nat → Int32} (hL : L ≤ 3072) (C0 : lw_At p s m meth c b L xs) {ad : Nat → Nat} {cI cL : ClassId} {dC : Nat → ClassId} {dI : Nat → Nat → Nat} {A : Nat → Prop} {sa : Nat} (hfl : l.flags = flags0) (hi : adI ad) (B : Bs p s m #[Value.ref b] c RLA code 7 cI cL dC dI) (hA : ∀ q, AA ad s.heap.size q → A q) (hAf : ∀ q, A q → s.heap.size ≤ q) (hz0 : zz A s s.heap) (hstr : vk_R RHL sIX sTX sa s) {t cells slots : Nat} {Q : State → Prop} (h6 : 6 * t + 6 ≤ L) (hc : cells + 1 ≤ room_1.cells) (hs : slots + 6 ≤ room_1.slots) (S : hS) (H : Heap) (locs : List Loc) (ls : Array Slot) (hJ : Jv t S) (hw : Wd ad cI cL dC dI A s.heap S H locs) (hl : lv_has ls 7 [(0, .ref b), (1, .ref (ad 0)), (2, .ref (ad 49)), (3, .ref (ad 52)), (4, .int (nI (6 * t)))]) (kk : ∀ (S1 : hS) (H : Heap) (locs : List Loc) (ls : Array Slot), Jv (t + 1) S1 → Wd ad cI cL dC dI A s.heap S1 H locs → lv_has ls 7 [(0, .ref b), (1, .ref (ad 0)), (2, .ref (ad 49)), (3, .ref (ad 52)), (4, .int (nI (6 * t)))] → W p l e room_1 s m #[Value.ref b] below meth c H locs (cells + 1) (slots + 6) Q (F0 m 1410 ls [])) : W p l e room_1 s m #[Value.ref b] below meth c H locs cells slots Q (F0 m 408 ls []) := by
  obtain ⟨hx, hb, hr, hml, hown, hts0, hX, hbl, hlocks, hgv⟩ := id C0
  have hts : ∀ w ∈ wALL, w.before #[Value.ref b] s = true := B.2.2.2.2.1
  have hbA : ¬ A b := fun h => absurd (hAf b h) (Nat.not_le.mpr hbl)
  have hc0 : cells ≤ room_1.cells := Nat.le_trans (Nat.le_add_right _ _) hc
  have hs0 : slots ≤ room_1.slots := Nat.le_trans (Nat.le_add_right _ _) hs
  refine lv_aload_n hx hb dLA_law_408 rfl (lv_at hl 1 rfl) ?_
  refine lv_aload_n hx hb dLA_law_409 rfl (lv_at hl 0 rfl) ?_
  refine lv_iload hx hb dLA_law_410 (lv_at hl 4 rfl) ?_
  refine lv_iconst (v := 1) hx hb dLA_law_412 (by decide) ?_
  refine lv_iadd hx hb dLA_law_413 ?_
  refine va_sld hx hb hX hbl hbA hw.2.2 (ixs_1 h6 hL) dLA_law_414 ?_
  refine lv_aload_n hx hb dLA_law_415 rfl (lv_at hl 0 rfl) ?_
  refine lv_iload hx hb dLA_law_416 (lv_at hl 4 rfl) ?_
  refine lv_iconst (v := 2) hx hb dLA_law_418 (by decide) ?_
  refine lv_iadd hx hb dLA_law_419 ?_
  refine va_sld hx hb hX hbl hbA hw.2.2 (ixs_2 h6 hL) dLA_law_420 ?_
  refine lv_i2l hx hb dLA_law_421 rfl ?_
  refine lv_bipush (v := 32) hx hb dLA_law_422 (by decide) ?_
  refine lv_lshl hx hb dLA_law_424 rfl ?_
  refine lv_aload_n hx hb dLA_law_425 rfl (lv_at hl 0 rfl) ?_
  refine lv_iload hx hb dLA_law_426 (lv_at hl 4 rfl) ?_
  refine lv_iconst (v := 3) hx hb dLA_law_428 (by decide) ?_
  refine lv_iadd hx hb dLA_law_429 ?_
  refine va_sld hx hb hX hbl hbA hw.2.2 (ixs_3 h6 hL) dLA_law_430 ?_
  refine lv_i2l hx hb dLA_law_431 rfl ?_
  refine lv_ldc2 (v := 4294967295) hx hb hown (hts _ wm_514) dLA_law_432 ?_
  refine lv_land hx hb dLA_law_435 ?_
  refine lv_lor hx hb dLA_law_436 ?_
  refine lv_aload_n hx hb dLA_law_437 rfl (lv_at hl 0 rfl) ?_
  refine lv_iload hx hb dLA_law_438 (lv_at hl 4 rfl) ?_
  refine lv_iconst (v := 4) hx hb dLA_law_440 (by decide) ?_
  refine lv_iadd hx hb dLA_law_441 ?_
  refine va_sld hx hb hX hbl hbA hw.2.2 (ixs_4 h6 hL) dLA_law_442 ?_
  refine lv_i2l hx hb dLA_law_443 rfl ?_
  refine lv_bipush (v := 32) hx hb dLA_law_444 (by decide) ?_
  refine lv_lshl hx hb dLA_law_446 rfl ?_
  refine lv_aload_n hx hb dLA_law_447 rfl (lv_at hl 0 rfl) ?_
  refine lv_iload hx hb dLA_law_448 (lv_at hl 4 rfl) ?_
  refine lv_iconst (v := 5) hx hb dLA_law_450 (by decide) ?_
  refine lv_iadd hx hb dLA_law_451 ?_
  refine va_sld hx hb hX hbl hbA hw.2.2 (ixs_5 h6 hL) dLA_law_452 ?_
  refine lv_i2l hx hb dLA_law_453 rfl ?_
  refine lv_ldc2 (v := 4294967295) hx hb hown (hts _ wm_514) dLA_law_454 ?_
  refine lv_land hx hb dLA_law_457 ?_
  refine lv_lor hx hb dLA_law_458 ?_
  refine V_callV (rest := []) B hi hw hA hl.1 (M_FHL_payment l hi S (xs (nI (6 * t) + 1).toNatClampNeg) ((((xs (nI (6 * t) + 2).toNatClampNeg).toInt64) <<< ((32 : Int32).toInt64 &&& 63)) ||| (((xs (nI (6 * t) + 3).toNatClampNeg).toInt64) &&& 4294967295)) ((((xs (nI (6 * t) + 4).toNatClampNeg).toInt64) <<< ((32 : Int32).toInt64 &&& 63)) ||| (((xs (nI (6 * t) + 5).toNatClampNeg).toInt64) &&& 4294967295)) (jc_payment h6 hL S (xs (nI (6 * t) + 1).toNatClampNeg) ((((xs (nI (6 * t) + 2).toNatClampNeg).toInt64) <<< ((32 : Int32).toInt64 &&& 63)) ||| (((xs (nI (6 * t) + 3).toNatClampNeg).toInt64) &&& 4294967295)) ((((xs (nI (6 * t) + 4).toNatClampNeg).toInt64) <<< ((32 : Int32).toInt64 &&& 63)) ||| (((xs (nI (6 * t) + 5).toNatClampNeg).toInt64) &&& 4294967295)) hJ).1) (cw_FHL_payment (Nat.le_of_ble_eq_true rfl) (Nat.le_of_ble_eq_true rfl) hc0 hs0) (by decide) rfl rfl wm_539 wm_540 wm_541 rfl (Nat.le_of_ble_eq_true rfl) dLA_law_459 (kI (fun H locs hw => ?_))
  refine lv_pop hx hb dLA_law_462 rfl ?_
  refine lv_aload_n hx hb dLA_law_463 rfl (lv_at hl 2 rfl) ?_
  refine lv_aload_n hx hb dLA_law_464 rfl (lv_at hl 0 rfl) ?_
  refine lv_iload hx hb dLA_law_465 (lv_at hl 4 rfl) ?_
  refine lv_iconst (v := 1) hx hb dLA_law_467 (by decide) ?_
  refine lv_iadd hx hb dLA_law_468 ?_
  refine va_sld hx hb hX hbl hbA hw.2.2 (ixs_1 h6 hL) dLA_law_469 ?_
  refine lv_aload_n hx hb dLA_law_470 rfl (lv_at hl 0 rfl) ?_
  refine lv_iload hx hb dLA_law_471 (lv_at hl 4 rfl) ?_
  refine lv_iconst (v := 2) hx hb dLA_law_473 (by decide) ?_
  refine lv_iadd hx hb dLA_law_474 ?_
  refine va_sld hx hb hX hbl hbA hw.2.2 (ixs_2 h6 hL) dLA_law_475 ?_
  refine lv_i2l hx hb dLA_law_476 rfl ?_
  refine lv_bipush (v := 32) hx hb dLA_law_477 (by decide) ?_
  refine lv_lshl hx hb dLA_law_479 rfl ?_
  refine lv_aload_n hx hb dLA_law_480 rfl (lv_at hl 0 rfl) ?_
  refine lv_iload hx hb dLA_law_481 (lv_at hl 4 rfl) ?_
  refine lv_iconst (v := 3) hx hb dLA_law_483 (by decide) ?_
  refine lv_iadd hx hb dLA_law_484 ?_
  refine va_sld hx hb hX hbl hbA hw.2.2 (ixs_3 h6 hL) dLA_law_485 ?_
  refine lv_i2l hx hb dLA_law_486 rfl ?_
  refine lv_ldc2 (v := 4294967295) hx hb hown (hts _ wm_514) dLA_law_487 ?_
  refine lv_land hx hb dLA_law_490 ?_
  refine lv_lor hx hb dLA_law_491 ?_
  refine lv_aload_n hx hb dLA_law_492 rfl (lv_at hl 0 rfl) ?_
  refine lv_iload hx hb dLA_law_493 (lv_at hl 4 rfl) ?_
  refine lv_iconst (v := 4) hx hb dLA_law_495 (by decide) ?_
  refine lv_iadd hx hb dLA_law_496 ?_
  refine va_sld hx hb hX hbl hbA hw.2.2 (ixs_4 h6 hL) dLA_law_497 ?_
  refine lv_i2l hx hb dLA_law_498 rfl ?_
  refine lv_bipush (v := 32) hx hb dLA_law_499 (by decide) ?_
  refine lv_lshl hx hb dLA_law_501 rfl ?_
  refine lv_aload_n hx hb dLA_law_502 rfl (lv_at hl 0 rfl) ?_
  refine lv_iload hx hb dLA_law_503 (lv_at hl 4 rfl) ?_
  refine lv_iconst (v := 5) hx hb dLA_law_505 (by decide) ?_
  refine lv_iadd hx hb dLA_law_506 ?_
  refine va_sld hx hb hX hbl hbA hw.2.2 (ixs_5 h6 hL) dLA_law_507 ?_
  refine lv_i2l hx hb dLA_law_508 rfl ?_
  refine lv_ldc2 (v := 4294967295) hx hb hown (hts _ wm_514) dLA_law_509 ?_
  refine lv_land hx hb dLA_law_512 ?_
  refine lv_lor hx hb dLA_law_513 ?_
  refine V_callV (rest := []) B hi hw hA hl.1 (M_FMO_payment l hi (FHL_payment S (xs (nI (6 * t) + 1).toNatClampNeg) ((((xs (nI (6 * t) + 2).toNatClampNeg).toInt64) <<< ((32 : Int32).toInt64 &&& 63)) ||| (((xs (nI (6 * t) + 3).toNatClampNeg).toInt64) &&& 4294967295)) ((((xs (nI (6 * t) + 4).toNatClampNeg).toInt64) <<< ((32 : Int32).toInt64 &&& 63)) ||| (((xs (nI (6 * t) + 5).toNatClampNeg).toInt64) &&& 4294967295))).2 (xs (nI (6 * t) + 1).toNatClampNeg) ((((xs (nI (6 * t) + 2).toNatClampNeg).toInt64) <<< ((32 : Int32).toInt64 &&& 63)) ||| (((xs (nI (6 * t) + 3).toNatClampNeg).toInt64) &&& 4294967295)) ((((xs (nI (6 * t) + 4).toNatClampNeg).toInt64) <<< ((32 : Int32).toInt64 &&& 63)) ||| (((xs (nI (6 * t) + 5).toNatClampNeg).toInt64) &&& 4294967295)) (jc_payment h6 hL S (xs (nI (6 * t) + 1).toNatClampNeg) ((((xs (nI (6 * t) + 2).toNatClampNeg).toInt64) <<< ((32 : Int32).toInt64 &&& 63)) ||| (((xs (nI (6 * t) + 3).toNatClampNeg).toInt64) &&& 4294967295)) ((((xs (nI (6 * t) + 4).toNatClampNeg).toInt64) <<< ((32 : Int32).toInt64 &&& 63)) ||| (((xs (nI (6 * t) + 5).toNatClampNeg).toInt64) &&& 4294967295)) hJ).2.1) (cw_FMO_payment (Nat.le_of_ble_eq_true rfl) (Nat.le_of_ble_eq_true rfl) hc0 hs0) (by decide) rfl rfl wm_542 wm_543 wm_544 rfl (Nat.le_of_ble_eq_true rfl) dLA_law_514 (kI (fun H locs hw => ?_))
  refine lv_pop hx hb dLA_law_517 rfl ?_
  refine lv_goto (tgt := 1410) hx hb dLA_law_518 (by decide) ?_
  exact W.widen (Nat.le_add_right _ _) (Nat.le_add_right _ _) (kk _ _ _ _ (jc_payment h6 hL S (xs (nI (6 * t) + 1).toNatClampNeg) ((((xs (nI (6 * t) + 2).toNatClampNeg).toInt64) <<< ((32 : Int32).toInt64 &&& 63)) ||| (((xs (nI (6 * t) + 3).toNatClampNeg).toInt64) &&& 4294967295)) ((((xs (nI (6 * t) + 4).toNatClampNeg).toInt64) <<< ((32 : Int32).toInt64 &&& 63)) ||| (((xs (nI (6 * t) + 5).toNatClampNeg).toInt64) &&& 4294967295)) hJ).2.2.2 hw hl)
