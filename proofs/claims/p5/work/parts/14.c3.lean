set_option maxHeartbeats 4000000 in
set_option maxRecDepth 100000 in
theorem LC_18 {p : Program} {e : Env} {s : State} {m : MethodId} {below : List Frame} {meth : Method} {c : Code} (l : Launch) {b L : Nat} {xs : Nat → Int32} (hL : L ≤ 3072) (C0 : lw_At p s m meth c b L xs) {ad : Nat → Nat} {cI cL : ClassId} {dC : Nat → ClassId} {dI : Nat → Nat → Nat} {A : Nat → Prop} {sa : Nat} (hfl : l.flags = flags0) (hi : adI ad) (B : Bs p s m #[Value.ref b] c RLA code 7 cI cL dC dI) (hA : ∀ q, AA ad s.heap.size q → A q) (hAf : ∀ q, A q → s.heap.size ≤ q) (hz0 : zz A s s.heap) (hstr : vk_R RHL sIX sTX sa s) {t cells slots : Nat} {Q : State → Prop} (h6 : 6 * t + 6 ≤ L) (hc : cells + 1 ≤ room_1.cells) (hs : slots + 6 ≤ room_1.slots) (S : hS) (H : Heap) (locs : List Loc) (ls : Array Slot) (hJ : Jv t S) (hw : Wd ad cI cL dC dI A s.heap S H locs) (hl : lv_has ls 7 [(0, .ref b), (1, .ref (ad 0)), (2, .ref (ad 49)), (3, .ref (ad 52)), (4, .int (nI (6 * t)))]) (kk : ∀ (S1 : hS) (H : Heap) (locs : List Loc) (ls : Array Slot), Jv (t + 1) S1 → Wd ad cI cL dC dI A s.heap S1 H locs → lv_has ls 7 [(0, .ref b), (1, .ref (ad 0)), (2, .ref (ad 49)), (3, .ref (ad 52)), (4, .int (nI (6 * t)))] → W p l e room_1 s m #[Value.ref b] below meth c H locs (cells + 1) (slots + 6) Q (F0 m 1438 ls [])) : W p l e room_1 s m #[Value.ref b] below meth c H locs cells slots Q (F0 m 1157 ls []) := by
  obtain ⟨hx, hb, hr, hml, hown, hts0, hX, hbl, hlocks, hgv⟩ := id C0
  have hts : ∀ w ∈ wALL, w.before #[Value.ref b] s = true := B.2.2.2.2.1
  have hbA : ¬ A b := fun h => absurd (hAf b h) (Nat.not_le.mpr hbl)
  have hc0 : cells ≤ room_1.cells := Nat.le_trans (Nat.le_add_right _ _) hc
  have hs0 : slots ≤ room_1.slots := Nat.le_trans (Nat.le_add_right _ _) hs
  refine lv_aload_n hx hb dLA_law_1157 rfl (lv_at hl 1 rfl) ?_
  refine lv_aload_n hx hb dLA_law_1158 rfl (lv_at hl 0 rfl) ?_
  refine lv_iload hx hb dLA_law_1159 (lv_at hl 4 rfl) ?_
  refine lv_iconst (v := 1) hx hb dLA_law_1161 (by decide) ?_
  refine lv_iadd hx hb dLA_law_1162 ?_
  refine va_sld hx hb hX hbl hbA hw.2.2 (ixs_1 h6 hL) dLA_law_1163 ?_
  refine lv_aload_n hx hb dLA_law_1164 rfl (lv_at hl 0 rfl) ?_
  refine lv_iload hx hb dLA_law_1165 (lv_at hl 4 rfl) ?_
  refine lv_iconst (v := 2) hx hb dLA_law_1167 (by decide) ?_
  refine lv_iadd hx hb dLA_law_1168 ?_
  refine va_sld hx hb hX hbl hbA hw.2.2 (ixs_2 h6 hL) dLA_law_1169 ?_
  refine lv_i2l hx hb dLA_law_1170 rfl ?_
  refine lv_bipush (v := 32) hx hb dLA_law_1171 (by decide) ?_
  refine lv_lshl hx hb dLA_law_1173 rfl ?_
  refine lv_aload_n hx hb dLA_law_1174 rfl (lv_at hl 0 rfl) ?_
  refine lv_iload hx hb dLA_law_1175 (lv_at hl 4 rfl) ?_
  refine lv_iconst (v := 3) hx hb dLA_law_1177 (by decide) ?_
  refine lv_iadd hx hb dLA_law_1178 ?_
  refine va_sld hx hb hX hbl hbA hw.2.2 (ixs_3 h6 hL) dLA_law_1179 ?_
  refine lv_i2l hx hb dLA_law_1180 rfl ?_
  refine lv_ldc2 (v := 4294967295) hx hb hown (hts _ wm_515) dLA_law_1181 ?_
  refine lv_land hx hb dLA_law_1184 ?_
  refine lv_lor hx hb dLA_law_1185 ?_
  refine lv_aload_n hx hb dLA_law_1186 rfl (lv_at hl 0 rfl) ?_
  refine lv_iload hx hb dLA_law_1187 (lv_at hl 4 rfl) ?_
  refine lv_iconst (v := 4) hx hb dLA_law_1189 (by decide) ?_
  refine lv_iadd hx hb dLA_law_1190 ?_
  refine va_sld hx hb hX hbl hbA hw.2.2 (ixs_4 h6 hL) dLA_law_1191 ?_
  refine V_callV (rest := []) B hi hw hA hl.1 (M_FHL_interest l hi S (xs (nI (6 * t) + 1).toNatClampNeg) ((((xs (nI (6 * t) + 2).toNatClampNeg).toInt64) <<< ((32 : Int32).toInt64 &&& 63)) ||| (((xs (nI (6 * t) + 3).toNatClampNeg).toInt64) &&& 4294967295)) (xs (nI (6 * t) + 4).toNatClampNeg) (jc_interest h6 hL S (xs (nI (6 * t) + 1).toNatClampNeg) ((((xs (nI (6 * t) + 2).toNatClampNeg).toInt64) <<< ((32 : Int32).toInt64 &&& 63)) ||| (((xs (nI (6 * t) + 3).toNatClampNeg).toInt64) &&& 4294967295)) (xs (nI (6 * t) + 4).toNatClampNeg) hJ).1) (cw_FHL_interest (Nat.le_of_ble_eq_true rfl) (Nat.le_of_ble_eq_true rfl) hc0 hs0) (by decide) rfl rfl wm_621 wm_622 wm_623 rfl (Nat.le_of_ble_eq_true rfl) dLA_law_1192 (kL (fun H locs hw => ?_))
  refine lv_pop2_2 hx hb dLA_law_1195 rfl ?_
  refine lv_aload_n hx hb dLA_law_1196 rfl (lv_at hl 2 rfl) ?_
  refine lv_aload_n hx hb dLA_law_1197 rfl (lv_at hl 0 rfl) ?_
  refine lv_iload hx hb dLA_law_1198 (lv_at hl 4 rfl) ?_
  refine lv_iconst (v := 1) hx hb dLA_law_1200 (by decide) ?_
  refine lv_iadd hx hb dLA_law_1201 ?_
  refine va_sld hx hb hX hbl hbA hw.2.2 (ixs_1 h6 hL) dLA_law_1202 ?_
  refine lv_aload_n hx hb dLA_law_1203 rfl (lv_at hl 0 rfl) ?_
  refine lv_iload hx hb dLA_law_1204 (lv_at hl 4 rfl) ?_
  refine lv_iconst (v := 2) hx hb dLA_law_1206 (by decide) ?_
  refine lv_iadd hx hb dLA_law_1207 ?_
  refine va_sld hx hb hX hbl hbA hw.2.2 (ixs_2 h6 hL) dLA_law_1208 ?_
  refine lv_i2l hx hb dLA_law_1209 rfl ?_
  refine lv_bipush (v := 32) hx hb dLA_law_1210 (by decide) ?_
  refine lv_lshl hx hb dLA_law_1212 rfl ?_
  refine lv_aload_n hx hb dLA_law_1213 rfl (lv_at hl 0 rfl) ?_
  refine lv_iload hx hb dLA_law_1214 (lv_at hl 4 rfl) ?_
  refine lv_iconst (v := 3) hx hb dLA_law_1216 (by decide) ?_
  refine lv_iadd hx hb dLA_law_1217 ?_
  refine va_sld hx hb hX hbl hbA hw.2.2 (ixs_3 h6 hL) dLA_law_1218 ?_
  refine lv_i2l hx hb dLA_law_1219 rfl ?_
  refine lv_ldc2 (v := 4294967295) hx hb hown (hts _ wm_515) dLA_law_1220 ?_
  refine lv_land hx hb dLA_law_1223 ?_
  refine lv_lor hx hb dLA_law_1224 ?_
  refine lv_aload_n hx hb dLA_law_1225 rfl (lv_at hl 0 rfl) ?_
  refine lv_iload hx hb dLA_law_1226 (lv_at hl 4 rfl) ?_
  refine lv_iconst (v := 4) hx hb dLA_law_1228 (by decide) ?_
  refine lv_iadd hx hb dLA_law_1229 ?_
  refine va_sld hx hb hX hbl hbA hw.2.2 (ixs_4 h6 hL) dLA_law_1230 ?_
  refine V_callV (rest := []) B hi hw hA hl.1 (M_FMO_interest l hi S (xs (nI (6 * t) + 1).toNatClampNeg) ((((xs (nI (6 * t) + 2).toNatClampNeg).toInt64) <<< ((32 : Int32).toInt64 &&& 63)) ||| (((xs (nI (6 * t) + 3).toNatClampNeg).toInt64) &&& 4294967295)) (xs (nI (6 * t) + 4).toNatClampNeg) (jc_interest h6 hL S (xs (nI (6 * t) + 1).toNatClampNeg) ((((xs (nI (6 * t) + 2).toNatClampNeg).toInt64) <<< ((32 : Int32).toInt64 &&& 63)) ||| (((xs (nI (6 * t) + 3).toNatClampNeg).toInt64) &&& 4294967295)) (xs (nI (6 * t) + 4).toNatClampNeg) hJ).2.1) (cw_FMO_interest (Nat.le_of_ble_eq_true rfl) (Nat.le_of_ble_eq_true rfl) hc0 hs0) (by decide) rfl rfl wm_624 wm_625 wm_626 rfl (Nat.le_of_ble_eq_true rfl) dLA_law_1231 (kL (fun H locs hw => ?_))
  refine lv_pop2_2 hx hb dLA_law_1234 rfl ?_
  refine lv_goto (tgt := 1438) hx hb dLA_law_1235 (by decide) ?_
  exact W.widen (Nat.le_add_right _ _) (Nat.le_add_right _ _) (kk _ _ _ _ (jc_interest h6 hL S (xs (nI (6 * t) + 1).toNatClampNeg) ((((xs (nI (6 * t) + 2).toNatClampNeg).toInt64) <<< ((32 : Int32).toInt64 &&& 63)) ||| (((xs (nI (6 * t) + 3).toNatClampNeg).toInt64) &&& 4294967295)) (xs (nI (6 * t) + 4).toNatClampNeg) hJ).2.2.2 hw hl)
set_option maxHeartbeats 4000000 in
set_option maxRecDepth 100000 in
theorem LC_19 {p : Program} {e : Env} {s : State} {m : MethodId} {below : List Frame} {meth : Method} {c : Code} (l : Launch) {b L : Nat} {xs : Nat → Int32} (hL : L ≤ 3072) (C0 : lw_At p s m meth c b L xs) {ad : Nat → Nat} {cI cL : ClassId} {dC : Nat → ClassId} {dI : Nat → Nat → Nat} {A : Nat → Prop} {sa : Nat} (hfl : l.flags = flags0) (hi : adI ad) (B : Bs p s m #[Value.ref b] c RLA code 7 cI cL dC dI) (hA : ∀ q, AA ad s.heap.size q → A q) (hAf : ∀ q, A q → s.heap.size ≤ q) (hz0 : zz A s s.heap) (hstr : vk_R RHL sIX sTX sa s) {t cells slots : Nat} {Q : State → Prop} (h6 : 6 * t + 6 ≤ L) (hc : cells + 1 ≤ room_1.cells) (hs : slots + 6 ≤ room_1.slots) (S : hS) (H : Heap) (locs : List Loc) (ls : Array Slot) (hJ : Jv t S) (hw : Wd ad cI cL dC dI A s.heap S H locs) (hl : lv_has ls 7 [(0, .ref b), (1, .ref (ad 0)), (2, .ref (ad 49)), (3, .ref (ad 52)), (4, .int (nI (6 * t)))]) (kk : ∀ (S1 : hS) (H : Heap) (locs : List Loc) (ls : Array Slot), Jv (t + 1) S1 → Wd ad cI cL dC dI A s.heap S1 H locs → lv_has ls 7 [(0, .ref b), (1, .ref (ad 0)), (2, .ref (ad 49)), (3, .ref (ad 52)), (4, .int (nI (6 * t)))] → W p l e room_1 s m #[Value.ref b] below meth c H locs (cells + 1) (slots + 6) Q (F0 m 1438 ls [])) : W p l e room_1 s m #[Value.ref b] below meth c H locs cells slots Q (F0 m 1238 ls []) := by
  obtain ⟨hx, hb, hr, hml, hown, hts0, hX, hbl, hlocks, hgv⟩ := id C0
  have hts : ∀ w ∈ wALL, w.before #[Value.ref b] s = true := B.2.2.2.2.1
  have hbA : ¬ A b := fun h => absurd (hAf b h) (Nat.not_le.mpr hbl)
  have hc0 : cells ≤ room_1.cells := Nat.le_trans (Nat.le_add_right _ _) hc
  have hs0 : slots ≤ room_1.slots := Nat.le_trans (Nat.le_add_right _ _) hs
  refine lv_aload_n hx hb dLA_law_1238 rfl (lv_at hl 1 rfl) ?_
  refine lv_aload_n hx hb dLA_law_1239 rfl (lv_at hl 0 rfl) ?_
  refine lv_iload hx hb dLA_law_1240 (lv_at hl 4 rfl) ?_
  refine lv_iconst (v := 1) hx hb dLA_law_1242 (by decide) ?_
  refine lv_iadd hx hb dLA_law_1243 ?_
  refine va_sld hx hb hX hbl hbA hw.2.2 (ixs_1 h6 hL) dLA_law_1244 ?_
  refine lv_i2l hx hb dLA_law_1245 rfl ?_
  refine lv_bipush (v := 32) hx hb dLA_law_1246 (by decide) ?_
  refine lv_lshl hx hb dLA_law_1248 rfl ?_
  refine lv_aload_n hx hb dLA_law_1249 rfl (lv_at hl 0 rfl) ?_
  refine lv_iload hx hb dLA_law_1250 (lv_at hl 4 rfl) ?_
  refine lv_iconst (v := 2) hx hb dLA_law_1252 (by decide) ?_
  refine lv_iadd hx hb dLA_law_1253 ?_
  refine va_sld hx hb hX hbl hbA hw.2.2 (ixs_2 h6 hL) dLA_law_1254 ?_
  refine lv_i2l hx hb dLA_law_1255 rfl ?_
  refine lv_ldc2 (v := 4294967295) hx hb hown (hts _ wm_515) dLA_law_1256 ?_
  refine lv_land hx hb dLA_law_1259 ?_
  refine lv_lor hx hb dLA_law_1260 ?_
  refine lv_aload_n hx hb dLA_law_1261 rfl (lv_at hl 0 rfl) ?_
  refine lv_iload hx hb dLA_law_1262 (lv_at hl 4 rfl) ?_
  refine lv_iconst (v := 3) hx hb dLA_law_1264 (by decide) ?_
  refine lv_iadd hx hb dLA_law_1265 ?_
  refine va_sld hx hb hX hbl hbA hw.2.2 (ixs_3 h6 hL) dLA_law_1266 ?_
  refine lv_i2l hx hb dLA_law_1267 rfl ?_
  refine lv_bipush (v := 32) hx hb dLA_law_1268 (by decide) ?_
  refine lv_lshl hx hb dLA_law_1270 rfl ?_
  refine lv_aload_n hx hb dLA_law_1271 rfl (lv_at hl 0 rfl) ?_
  refine lv_iload hx hb dLA_law_1272 (lv_at hl 4 rfl) ?_
  refine lv_iconst (v := 4) hx hb dLA_law_1274 (by decide) ?_
  refine lv_iadd hx hb dLA_law_1275 ?_
  refine va_sld hx hb hX hbl hbA hw.2.2 (ixs_4 h6 hL) dLA_law_1276 ?_
  refine lv_i2l hx hb dLA_law_1277 rfl ?_
  refine lv_ldc2 (v := 4294967295) hx hb hown (hts _ wm_515) dLA_law_1278 ?_
  refine lv_land hx hb dLA_law_1281 ?_
  refine lv_lor hx hb dLA_law_1282 ?_
  refine V_callV (rest := []) B hi hw hA hl.1 (M_FHL_rate l hi S ((((xs (nI (6 * t) + 1).toNatClampNeg).toInt64) <<< ((32 : Int32).toInt64 &&& 63)) ||| (((xs (nI (6 * t) + 2).toNatClampNeg).toInt64) &&& 4294967295)) ((((xs (nI (6 * t) + 3).toNatClampNeg).toInt64) <<< ((32 : Int32).toInt64 &&& 63)) ||| (((xs (nI (6 * t) + 4).toNatClampNeg).toInt64) &&& 4294967295)) (jc_rate h6 hL S ((((xs (nI (6 * t) + 1).toNatClampNeg).toInt64) <<< ((32 : Int32).toInt64 &&& 63)) ||| (((xs (nI (6 * t) + 2).toNatClampNeg).toInt64) &&& 4294967295)) ((((xs (nI (6 * t) + 3).toNatClampNeg).toInt64) <<< ((32 : Int32).toInt64 &&& 63)) ||| (((xs (nI (6 * t) + 4).toNatClampNeg).toInt64) &&& 4294967295)) hJ).1) (cw_FHL_rate (Nat.le_of_ble_eq_true rfl) (Nat.le_of_ble_eq_true rfl) hc0 hs0) (by decide) rfl rfl wm_627 wm_628 wm_629 rfl (Nat.le_of_ble_eq_true rfl) dLA_law_1283 (kI (fun H locs hw => ?_))
  refine lv_pop hx hb dLA_law_1286 rfl ?_
  refine lv_aload_n hx hb dLA_law_1287 rfl (lv_at hl 2 rfl) ?_
  refine lv_aload_n hx hb dLA_law_1288 rfl (lv_at hl 0 rfl) ?_
  refine lv_iload hx hb dLA_law_1289 (lv_at hl 4 rfl) ?_
  refine lv_iconst (v := 1) hx hb dLA_law_1291 (by decide) ?_
  refine lv_iadd hx hb dLA_law_1292 ?_
  refine va_sld hx hb hX hbl hbA hw.2.2 (ixs_1 h6 hL) dLA_law_1293 ?_
  refine lv_i2l hx hb dLA_law_1294 rfl ?_
  refine lv_bipush (v := 32) hx hb dLA_law_1295 (by decide) ?_
  refine lv_lshl hx hb dLA_law_1297 rfl ?_
  refine lv_aload_n hx hb dLA_law_1298 rfl (lv_at hl 0 rfl) ?_
  refine lv_iload hx hb dLA_law_1299 (lv_at hl 4 rfl) ?_
  refine lv_iconst (v := 2) hx hb dLA_law_1301 (by decide) ?_
  refine lv_iadd hx hb dLA_law_1302 ?_
  refine va_sld hx hb hX hbl hbA hw.2.2 (ixs_2 h6 hL) dLA_law_1303 ?_
  refine lv_i2l hx hb dLA_law_1304 rfl ?_
  refine lv_ldc2 (v := 4294967295) hx hb hown (hts _ wm_515) dLA_law_1305 ?_
  refine lv_land hx hb dLA_law_1308 ?_
  refine lv_lor hx hb dLA_law_1309 ?_
  refine lv_aload_n hx hb dLA_law_1310 rfl (lv_at hl 0 rfl) ?_
  refine lv_iload hx hb dLA_law_1311 (lv_at hl 4 rfl) ?_
  refine lv_iconst (v := 3) hx hb dLA_law_1313 (by decide) ?_
  refine lv_iadd hx hb dLA_law_1314 ?_
  refine va_sld hx hb hX hbl hbA hw.2.2 (ixs_3 h6 hL) dLA_law_1315 ?_
  refine lv_i2l hx hb dLA_law_1316 rfl ?_
  refine lv_bipush (v := 32) hx hb dLA_law_1317 (by decide) ?_
  refine lv_lshl hx hb dLA_law_1319 rfl ?_
  refine lv_aload_n hx hb dLA_law_1320 rfl (lv_at hl 0 rfl) ?_
  refine lv_iload hx hb dLA_law_1321 (lv_at hl 4 rfl) ?_
  refine lv_iconst (v := 4) hx hb dLA_law_1323 (by decide) ?_
  refine lv_iadd hx hb dLA_law_1324 ?_
  refine va_sld hx hb hX hbl hbA hw.2.2 (ixs_4 h6 hL) dLA_law_1325 ?_
  refine lv_i2l hx hb dLA_law_1326 rfl ?_
  refine lv_ldc2 (v := 4294967295) hx hb hown (hts _ wm_515) dLA_law_1327 ?_
  refine lv_land hx hb dLA_law_1330 ?_
  refine lv_lor hx hb dLA_law_1331 ?_
  refine V_callV (rest := []) B hi hw hA hl.1 (M_FMO_rate l hi (FHL_rate S ((((xs (nI (6 * t) + 1).toNatClampNeg).toInt64) <<< ((32 : Int32).toInt64 &&& 63)) ||| (((xs (nI (6 * t) + 2).toNatClampNeg).toInt64) &&& 4294967295)) ((((xs (nI (6 * t) + 3).toNatClampNeg).toInt64) <<< ((32 : Int32).toInt64 &&& 63)) ||| (((xs (nI (6 * t) + 4).toNatClampNeg).toInt64) &&& 4294967295))).2 ((((xs (nI (6 * t) + 1).toNatClampNeg).toInt64) <<< ((32 : Int32).toInt64 &&& 63)) ||| (((xs (nI (6 * t) + 2).toNatClampNeg).toInt64) &&& 4294967295)) ((((xs (nI (6 * t) + 3).toNatClampNeg).toInt64) <<< ((32 : Int32).toInt64 &&& 63)) ||| (((xs (nI (6 * t) + 4).toNatClampNeg).toInt64) &&& 4294967295)) (jc_rate h6 hL S ((((xs (nI (6 * t) + 1).toNatClampNeg).toInt64) <<< ((32 : Int32).toInt64 &&& 63)) ||| (((xs (nI (6 * t) + 2).toNatClampNeg).toInt64) &&& 4294967295)) ((((xs (nI (6 * t) + 3).toNatClampNeg).toInt64) <<< ((32 : Int32).toInt64 &&& 63)) ||| (((xs (nI (6 * t) + 4).toNatClampNeg).toInt64) &&& 4294967295)) hJ).2.1) (cw_FMO_rate (Nat.le_of_ble_eq_true rfl) (Nat.le_of_ble_eq_true rfl) hc0 hs0) (by decide) rfl rfl wm_630 wm_631 wm_632 rfl (Nat.le_of_ble_eq_true rfl) dLA_law_1332 (kI (fun H locs hw => ?_))
  refine lv_pop hx hb dLA_law_1335 rfl ?_
  refine lv_goto (tgt := 1438) hx hb dLA_law_1336 (by decide) ?_
  exact W.widen (Nat.le_add_right _ _) (Nat.le_add_right _ _) (kk _ _ _ _ (jc_rate h6 hL S ((((xs (nI (6 * t) + 1).toNatClampNeg).toInt64) <<< ((32 : Int32).toInt64 &&& 63)) ||| (((xs (nI (6 * t) + 2).toNatClampNeg).toInt64) &&& 4294967295)) ((((xs (nI (6 * t) + 3).toNatClampNeg).toInt64) <<< ((32 : Int32).toInt64 &&& 63)) ||| (((xs (nI (6 * t) + 4).toNatClampNeg).toInt64) &&& 4294967295)) hJ).2.2.2 hw hl)
set_option maxHeartbeats 4000000 in
set_option maxRecDepth 100000 in
theorem LC_20 {p : Program} {e : Env} {s : State} {m : MethodId} {below : List Frame} {meth : Method} {c : Code} (l : Launch) {b L : Nat} {xs : Nat → Int32} (hL : L ≤ 3072) (C0 : lw_At p s m meth c b L xs) {ad : Nat → Nat} {cI cL : ClassId} {dC : Nat → ClassId} {dI : Nat → Nat → Nat} {A : Nat → Prop} {sa : Nat} (hfl : l.flags = flags0) (hi : adI ad) (B : Bs p s m #[Value.ref b] c RLA code 7 cI cL dC dI) (hA : ∀ q, AA ad s.heap.size q → A q) (hAf : ∀ q, A q → s.heap.size ≤ q) (hz0 : zz A s s.heap) (hstr : vk_R RHL sIX sTX sa s) {t cells slots : Nat} {Q : State → Prop} (h6 : 6 * t + 6 ≤ L) (hc : cells + 1 ≤ room_1.cells) (hs : slots + 6 ≤ room_1.slots) (S : hS) (H : Heap) (locs : List Loc) (ls : Array Slot) (hJ : Jv t S) (hw : Wd ad cI cL dC dI A s.heap S H locs) (hl : lv_has ls 7 [(0, .ref b), (1, .ref (ad 0)), (2, .ref (ad 49)), (3, .ref (ad 52)), (4, .int (nI (6 * t)))]) (kk : ∀ (S1 : hS) (H : Heap) (locs : List Loc) (ls : Array Slot), Jv (t + 1) S1 → Wd ad cI cL dC dI A s.heap S1 H locs → lv_has ls 7 [(0, .ref b), (1, .ref (ad 0)), (2, .ref (ad 49)), (3, .ref (ad 52)), (4, .int (nI (6 * t)))] → W p l e room_1 s m #[Value.ref b] below meth c H locs (cells + 1) (slots + 6) Q (F0 m 1438 ls [])) : W p l e room_1 s m #[Value.ref b] below meth c H locs cells slots Q (F0 m 1339 ls []) := by
  obtain ⟨hx, hb, hr, hml, hown, hts0, hX, hbl, hlocks, hgv⟩ := id C0
  have hts : ∀ w ∈ wALL, w.before #[Value.ref b] s = true := B.2.2.2.2.1
  have hbA : ¬ A b := fun h => absurd (hAf b h) (Nat.not_le.mpr hbl)
  have hc0 : cells ≤ room_1.cells := Nat.le_trans (Nat.le_add_right _ _) hc
  have hs0 : slots ≤ room_1.slots := Nat.le_trans (Nat.le_add_right _ _) hs
  refine lv_aload_n hx hb dLA_law_1339 rfl (lv_at hl 1 rfl) ?_
  refine lv_aload_n hx hb dLA_law_1340 rfl (lv_at hl 0 rfl) ?_
  refine lv_iload hx hb dLA_law_1341 (lv_at hl 4 rfl) ?_
  refine lv_iconst (v := 1) hx hb dLA_law_1343 (by decide) ?_
  refine lv_iadd hx hb dLA_law_1344 ?_
  refine va_sld hx hb hX hbl hbA hw.2.2 (ixs_1 h6 hL) dLA_law_1345 ?_
  refine lv_aload_n hx hb dLA_law_1346 rfl (lv_at hl 0 rfl) ?_
  refine lv_iload hx hb dLA_law_1347 (lv_at hl 4 rfl) ?_
  refine lv_iconst (v := 2) hx hb dLA_law_1349 (by decide) ?_
  refine lv_iadd hx hb dLA_law_1350 ?_
  refine va_sld hx hb hX hbl hbA hw.2.2 (ixs_2 h6 hL) dLA_law_1351 ?_
  refine lv_aload_n hx hb dLA_law_1352 rfl (lv_at hl 0 rfl) ?_
  refine lv_iload hx hb dLA_law_1353 (lv_at hl 4 rfl) ?_
  refine lv_iconst (v := 3) hx hb dLA_law_1355 (by decide) ?_
  refine lv_iadd hx hb dLA_law_1356 ?_
  refine va_sld hx hb hX hbl hbA hw.2.2 (ixs_3 h6 hL) dLA_law_1357 ?_
  refine V_callV (rest := []) B hi hw hA hl.1 (M_FHL_statement l hi S (xs (nI (6 * t) + 1).toNatClampNeg) (xs (nI (6 * t) + 2).toNatClampNeg) (xs (nI (6 * t) + 3).toNatClampNeg) (jc_statement h6 hL S (xs (nI (6 * t) + 1).toNatClampNeg) (xs (nI (6 * t) + 2).toNatClampNeg) (xs (nI (6 * t) + 3).toNatClampNeg) hJ).1) (cw_FHL_statement (Nat.le_of_ble_eq_true rfl) (Nat.le_of_ble_eq_true rfl) hc0 hs0) (by decide) rfl rfl wm_633 wm_634 wm_635 rfl (Nat.le_of_ble_eq_true rfl) dLA_law_1358 (kI (fun H locs hw => ?_))
  refine lv_pop hx hb dLA_law_1361 rfl ?_
  refine lv_aload_n hx hb dLA_law_1362 rfl (lv_at hl 2 rfl) ?_
  refine lv_aload_n hx hb dLA_law_1363 rfl (lv_at hl 0 rfl) ?_
  refine lv_iload hx hb dLA_law_1364 (lv_at hl 4 rfl) ?_
  refine lv_iconst (v := 1) hx hb dLA_law_1366 (by decide) ?_
  refine lv_iadd hx hb dLA_law_1367 ?_
  refine va_sld hx hb hX hbl hbA hw.2.2 (ixs_1 h6 hL) dLA_law_1368 ?_
  refine lv_aload_n hx hb dLA_law_1369 rfl (lv_at hl 0 rfl) ?_
  refine lv_iload hx hb dLA_law_1370 (lv_at hl 4 rfl) ?_
  refine lv_iconst (v := 2) hx hb dLA_law_1372 (by decide) ?_
  refine lv_iadd hx hb dLA_law_1373 ?_
  refine va_sld hx hb hX hbl hbA hw.2.2 (ixs_2 h6 hL) dLA_law_1374 ?_
  refine lv_aload_n hx hb dLA_law_1375 rfl (lv_at hl 0 rfl) ?_
  refine lv_iload hx hb dLA_law_1376 (lv_at hl 4 rfl) ?_
  refine lv_iconst (v := 3) hx hb dLA_law_1378 (by decide) ?_
  refine lv_iadd hx hb dLA_law_1379 ?_
  refine va_sld hx hb hX hbl hbA hw.2.2 (ixs_3 h6 hL) dLA_law_1380 ?_
  refine V_callV (rest := []) B hi hw hA hl.1 (M_FMO_statement l hi S (xs (nI (6 * t) + 1).toNatClampNeg) (xs (nI (6 * t) + 2).toNatClampNeg) (xs (nI (6 * t) + 3).toNatClampNeg) (jc_statement h6 hL S (xs (nI (6 * t) + 1).toNatClampNeg) (xs (nI (6 * t) + 2).toNatClampNeg) (xs (nI (6 * t) + 3).toNatClampNeg) hJ).2.1) (cw_FMO_statement (Nat.le_of_ble_eq_true rfl) (Nat.le_of_ble_eq_true rfl) hc0 hs0) (by decide) rfl rfl wm_636 wm_637 wm_638 rfl (Nat.le_of_ble_eq_true rfl) dLA_law_1381 (kI (fun H locs hw => ?_))
  refine lv_pop hx hb dLA_law_1384 rfl ?_
  refine lv_goto (tgt := 1438) hx hb dLA_law_1385 (by decide) ?_
  exact W.widen (Nat.le_add_right _ _) (Nat.le_add_right _ _) (kk _ _ _ _ (jc_statement h6 hL S (xs (nI (6 * t) + 1).toNatClampNeg) (xs (nI (6 * t) + 2).toNatClampNeg) (xs (nI (6 * t) + 3).toNatClampNeg) hJ).2.2.2 hw hl)
set_option maxHeartbeats 4000000 in
set_option maxRecDepth 100000 in
theorem LC_21 {p : Program} {e : Env} {s : State} {m : MethodId} {below : List Frame} {meth : Method} {c : Code} (l : Launch) {b L : Nat} {xs : Nat → Int32} (hL : L ≤ 3072) (C0 : lw_At p s m meth c b L xs) {ad : Nat → Nat} {cI cL : ClassId} {dC : Nat → ClassId} {dI : Nat → Nat → Nat} {A : Nat → Prop} {sa : Nat} (hfl : l.flags = flags0) (hi : adI ad) (B : Bs p s m #[Value.ref b] c RLA code 7 cI cL dC dI) (hA : ∀ q, AA ad s.heap.size q → A q) (hAf : ∀ q, A q → s.heap.size ≤ q) (hz0 : zz A s s.heap) (hstr : vk_R RHL sIX sTX sa s) {t cells slots : Nat} {Q : State → Prop} (h6 : 6 * t + 6 ≤ L) (hc : cells + 1 ≤ room_1.cells) (hs : slots + 6 ≤ room_1.slots) (S : hS) (H : Heap) (locs : List Loc) (ls : Array Slot) (hJ : Jv t S) (hw : Wd ad cI cL dC dI A s.heap S H locs) (hl : lv_has ls 7 [(0, .ref b), (1, .ref (ad 0)), (2, .ref (ad 49)), (3, .ref (ad 52)), (4, .int (nI (6 * t)))]) (kk : ∀ (S1 : hS) (H : Heap) (locs : List Loc) (ls : Array Slot), Jv (t + 1) S1 → Wd ad cI cL dC dI A s.heap S1 H locs → lv_has ls 7 [(0, .ref b), (1, .ref (ad 0)), (2, .ref (ad 49)), (3, .ref (ad 52)), (4, .int (nI (6 * t)))] → W p l e room_1 s m #[Value.ref b] below meth c H locs (cells + 1) (slots + 6) Q (F0 m 1438 ls [])) : W p l e room_1 s m #[Value.ref b] below meth c H locs cells slots Q (F0 m 1388 ls []) := by
  obtain ⟨hx, hb, hr, hml, hown, hts0, hX, hbl, hlocks, hgv⟩ := id C0
  have hts : ∀ w ∈ wALL, w.before #[Value.ref b] s = true := B.2.2.2.2.1
  have hbA : ¬ A b := fun h => absurd (hAf b h) (Nat.not_le.mpr hbl)
  have hc0 : cells ≤ room_1.cells := Nat.le_trans (Nat.le_add_right _ _) hc
  have hs0 : slots ≤ room_1.slots := Nat.le_trans (Nat.le_add_right _ _) hs
  refine lv_aload_n hx hb dLA_law_1388 rfl (lv_at hl 1 rfl) ?_
  refine lv_aload_n hx hb dLA_law_1389 rfl (lv_at hl 0 rfl) ?_
  refine lv_iload hx hb dLA_law_1390 (lv_at hl 4 rfl) ?_
  refine lv_iconst (v := 1) hx hb dLA_law_1392 (by decide) ?_
  refine lv_iadd hx hb dLA_law_1393 ?_
  refine va_sld hx hb hX hbl hbA hw.2.2 (ixs_1 h6 hL) dLA_law_1394 ?_
  refine V_callV (rest := []) B hi hw hA hl.1 (M_FHL_tax l hi S (xs (nI (6 * t) + 1).toNatClampNeg) (jc_tax h6 hL S (xs (nI (6 * t) + 1).toNatClampNeg) hJ).1) (cw_FHL_tax (Nat.le_of_ble_eq_true rfl) (Nat.le_of_ble_eq_true rfl) hc0 hs0) (by decide) rfl rfl wm_639 wm_640 wm_641 rfl (Nat.le_of_ble_eq_true rfl) dLA_law_1395 (kL (fun H locs hw => ?_))
  refine lv_pop2_2 hx hb dLA_law_1398 rfl ?_
  refine lv_aload_n hx hb dLA_law_1399 rfl (lv_at hl 2 rfl) ?_
  refine lv_aload_n hx hb dLA_law_1400 rfl (lv_at hl 0 rfl) ?_
  refine lv_iload hx hb dLA_law_1401 (lv_at hl 4 rfl) ?_
  refine lv_iconst (v := 1) hx hb dLA_law_1403 (by decide) ?_
  refine lv_iadd hx hb dLA_law_1404 ?_
  refine va_sld hx hb hX hbl hbA hw.2.2 (ixs_1 h6 hL) dLA_law_1405 ?_
  refine V_callV (rest := []) B hi hw hA hl.1 (M_FMO_tax l hi S (xs (nI (6 * t) + 1).toNatClampNeg) (jc_tax h6 hL S (xs (nI (6 * t) + 1).toNatClampNeg) hJ).2.1) (cw_FMO_tax (Nat.le_of_ble_eq_true rfl) (Nat.le_of_ble_eq_true rfl) hc0 hs0) (by decide) rfl rfl wm_642 wm_643 wm_644 rfl (Nat.le_of_ble_eq_true rfl) dLA_law_1406 (kL (fun H locs hw => ?_))
  refine lv_pop2_2 hx hb dLA_law_1409 rfl ?_
  refine lv_goto (tgt := 1438) hx hb dLA_law_1410 (by decide) ?_
  exact W.widen (Nat.le_add_right _ _) (Nat.le_add_right _ _) (kk _ _ _ _ (jc_tax h6 hL S (xs (nI (6 * t) + 1).toNatClampNeg) hJ).2.2.2 hw hl)
set_option maxHeartbeats 4000000 in
set_option maxRecDepth 100000 in
theorem LC_22 {p : Program} {e : Env} {s : State} {m : MethodId} {below : List Frame} {meth : Method} {c : Code} (l : Launch) {b L : Nat} {xs : Nat → Int32} (hL : L ≤ 3072) (C0 : lw_At p s m meth c b L xs) {ad : Nat → Nat} {cI cL : ClassId} {dC : Nat → ClassId} {dI : Nat → Nat → Nat} {A : Nat → Prop} {sa : Nat} (hfl : l.flags = flags0) (hi : adI ad) (B : Bs p s m #[Value.ref b] c RLA code 7 cI cL dC dI) (hA : ∀ q, AA ad s.heap.size q → A q) (hAf : ∀ q, A q → s.heap.size ≤ q) (hz0 : zz A s s.heap) (hstr : vk_R RHL sIX sTX sa s) {t cells slots : Nat} {Q : State → Prop} (h6 : 6 * t + 6 ≤ L) (hc : cells + 1 ≤ room_1.cells) (hs : slots + 6 ≤ room_1.slots) (S : hS) (H : Heap) (locs : List Loc) (ls : Array Slot) (hJ : Jv t S) (hw : Wd ad cI cL dC dI A s.heap S H locs) (hl : lv_has ls 7 [(0, .ref b), (1, .ref (ad 0)), (2, .ref (ad 49)), (3, .ref (ad 52)), (4, .int (nI (6 * t)))]) (kk : ∀ (S1 : hS) (H : Heap) (locs : List Loc) (ls : Array Slot), Jv (t + 1) S1 → Wd ad cI cL dC dI A s.heap S1 H locs → lv_has ls 7 [(0, .ref b), (1, .ref (ad 0)), (2, .ref (ad 49)), (3, .ref (ad 52)), (4, .int (nI (6 * t)))] → W p l e room_1 s m #[Value.ref b] below meth c H locs (cells + 1) (slots + 6) Q (F0 m 1438 ls [])) : W p l e room_1 s m #[Value.ref b] below meth c H locs cells slots Q (F0 m 1413 ls []) := by
  obtain ⟨hx, hb, hr, hml, hown, hts0, hX, hbl, hlocks, hgv⟩ := id C0
  have hts : ∀ w ∈ wALL, w.before #[Value.ref b] s = true := B.2.2.2.2.1
  have hbA : ¬ A b := fun h => absurd (hAf b h) (Nat.not_le.mpr hbl)
  have hc0 : cells ≤ room_1.cells := Nat.le_trans (Nat.le_add_right _ _) hc
  have hs0 : slots ≤ room_1.slots := Nat.le_trans (Nat.le_add_right _ _) hs
  refine lv_aload_n hx hb dLA_law_1413 rfl (lv_at hl 1 rfl) ?_
  refine lv_aload_n hx hb dLA_law_1414 rfl (lv_at hl 0 rfl) ?_
  refine lv_iload hx hb dLA_law_1415 (lv_at hl 4 rfl) ?_
  refine lv_iconst (v := 1) hx hb dLA_law_1417 (by decide) ?_
  refine lv_iadd hx hb dLA_law_1418 ?_
  refine va_sld hx hb hX hbl hbA hw.2.2 (ixs_1 h6 hL) dLA_law_1419 ?_
  refine V_callV (rest := []) B hi hw hA hl.1 (M_FHL_found l hi S (xs (nI (6 * t) + 1).toNatClampNeg) (jc_found h6 hL S (xs (nI (6 * t) + 1).toNatClampNeg) hJ).1) (cw_FHL_found (Nat.le_of_ble_eq_true rfl) (Nat.le_of_ble_eq_true rfl) hc0 hs0) (by decide) rfl rfl wm_645 wm_646 wm_647 rfl (Nat.le_of_ble_eq_true rfl) dLA_law_1420 (kL (fun H locs hw => ?_))
  refine lv_pop2_2 hx hb dLA_law_1423 rfl ?_
  refine lv_aload_n hx hb dLA_law_1424 rfl (lv_at hl 2 rfl) ?_
  refine lv_aload_n hx hb dLA_law_1425 rfl (lv_at hl 0 rfl) ?_
  refine lv_iload hx hb dLA_law_1426 (lv_at hl 4 rfl) ?_
  refine lv_iconst (v := 1) hx hb dLA_law_1428 (by decide) ?_
  refine lv_iadd hx hb dLA_law_1429 ?_
  refine va_sld hx hb hX hbl hbA hw.2.2 (ixs_1 h6 hL) dLA_law_1430 ?_
  refine V_callV (rest := []) B hi hw hA hl.1 (M_FMO_found l hi S (xs (nI (6 * t) + 1).toNatClampNeg) (jc_found h6 hL S (xs (nI (6 * t) + 1).toNatClampNeg) hJ).2.1) (cw_FMO_found (Nat.le_of_ble_eq_true rfl) (Nat.le_of_ble_eq_true rfl) hc0 hs0) (by decide) rfl rfl wm_648 wm_649 wm_650 rfl (Nat.le_of_ble_eq_true rfl) dLA_law_1431 (kL (fun H locs hw => ?_))
  refine lv_pop2_2 hx hb dLA_law_1434 rfl ?_
  refine lv_goto (tgt := 1438) hx hb dLA_law_1435 (by decide) ?_
  exact W.widen (Nat.le_add_right _ _) (Nat.le_add_right _ _) (kk _ _ _ _ (jc_found h6 hL S (xs (nI (6 * t) + 1).toNatClampNeg) hJ).2.2.2 hw hl)
