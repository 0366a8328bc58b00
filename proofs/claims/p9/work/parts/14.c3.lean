set_option maxHeartbeats 4000000 in
set_option maxRecDepth 100000 in
theorem LC_18 {p : Program} {e : Env} {s : State} {m : MethodId} {below : List Frame} {meth : Method} {c : Code} (l : Launch) {b L : Nat} {xs : Nat → Int32} (hL : L ≤ 3072) (C0 : lw_At p s m meth c b L xs) {ad : Nat → Nat} {cI cL : ClassId} {dC : Nat → ClassId} {dI : Nat → Nat → Nat} {A : Nat → Prop} {sa : Nat} (hfl : l.flags = flags0) (hi : adI ad) (B : Bs p s m #[Value.ref b] c RLA code 7 cI cL dC dI) (hA : ∀ q, AA ad s.heap.size q → A q) (hAf : ∀ q, A q → s.heap.size ≤ q) (hz0 : zz A s s.heap) (hstr : vk_R RHL sIX sTX sa s) {t cells slots : Nat} {Q : State → Prop} (h6 : 6 * t + 6 ≤ L) (hc : cells + 1 ≤ room_1.cells) (hs : slots + 6 ≤ room_1.slots) (S : hS) (H : Heap) (locs : List Loc) (ls : Array Slot) (hJ : Jv t S) (hw : Wd ad cI cL dC dI A s.heap S H locs) (hl : lv_has ls 7 [(0, .ref b), (1, .ref (ad 0)), (2, .ref (ad 49)), (3, .ref (ad 52)), (4, .int (nI (6 * t)))]) (kk : ∀ (S1 : hS) (H : Heap) (locs : List Loc) (ls : Array Slot), Jv (t + 1) S1 → Wd ad cI cL dC dI A s.heap S1 H locs → lv_has ls 7 [(0, .ref b), (1, .ref (ad 0)), (2, .ref (ad 49)), (3, .ref (ad 52)), (4, .int (nI (6 * t)))] → W p l e room_1 s m #[Value.ref b] below meth c H locs (cells + 1) (slots + 6) Q (F0 m 1410 ls [])) : W p l e room_1 s m #[Value.ref b] below meth c H locs cells slots Q (F0 m 1129 ls []) := by
  obtain ⟨hx, hb, hr, hml, hown, hts0, hX, hbl, hlocks, hgv⟩ := id C0
  have hts : ∀ w ∈ wALL, w.before #[Value.ref b] s = true := B.2.2.2.2.1
  have hbA : ¬ A b := fun h => absurd (hAf b h) (Nat.not_le.mpr hbl)
  have hc0 : cells ≤ room_1.cells := Nat.le_trans (Nat.le_add_right _ _) hc
  have hs0 : slots ≤ room_1.slots := Nat.le_trans (Nat.le_add_right _ _) hs
  refine lv_aload_n hx hb dLA_law_1129 rfl (lv_at hl 1 rfl) ?_
  refine lv_aload_n hx hb dLA_law_1130 rfl (lv_at hl 0 rfl) ?_
  refine lv_iload hx hb dLA_law_1131 (lv_at hl 4 rfl) ?_
  refine lv_iconst (v := 1) hx hb dLA_law_1133 (by decide) ?_
  refine lv_iadd hx hb dLA_law_1134 ?_
  refine va_sld hx hb hX hbl hbA hw.2.2 (ixs_1 h6 hL) dLA_law_1135 ?_
  refine lv_aload_n hx hb dLA_law_1136 rfl (lv_at hl 0 rfl) ?_
  refine lv_iload hx hb dLA_law_1137 (lv_at hl 4 rfl) ?_
  refine lv_iconst (v := 2) hx hb dLA_law_1139 (by decide) ?_
  refine lv_iadd hx hb dLA_law_1140 ?_
  refine va_sld hx hb hX hbl hbA hw.2.2 (ixs_2 h6 hL) dLA_law_1141 ?_
  refine lv_i2l hx hb dLA_law_1142 rfl ?_
  refine lv_bipush (v := 32) hx hb dLA_law_1143 (by decide) ?_
  refine lv_lshl hx hb dLA_law_1145 rfl ?_
  refine lv_aload_n hx hb dLA_law_1146 rfl (lv_at hl 0 rfl) ?_
  refine lv_iload hx hb dLA_law_1147 (lv_at hl 4 rfl) ?_
  refine lv_iconst (v := 3) hx hb dLA_law_1149 (by decide) ?_
  refine lv_iadd hx hb dLA_law_1150 ?_
  refine va_sld hx hb hX hbl hbA hw.2.2 (ixs_3 h6 hL) dLA_law_1151 ?_
  refine lv_i2l hx hb dLA_law_1152 rfl ?_
  refine lv_ldc2 (v := 4294967295) hx hb hown (hts _ wm_514) dLA_law_1153 ?_
  refine lv_land hx hb dLA_law_1156 ?_
  refine lv_lor hx hb dLA_law_1157 ?_
  refine lv_aload_n hx hb dLA_law_1158 rfl (lv_at hl 0 rfl) ?_
  refine lv_iload hx hb dLA_law_1159 (lv_at hl 4 rfl) ?_
  refine lv_iconst (v := 4) hx hb dLA_law_1161 (by decide) ?_
  refine lv_iadd hx hb dLA_law_1162 ?_
  refine va_sld hx hb hX hbl hbA hw.2.2 (ixs_4 h6 hL) dLA_law_1163 ?_
  refine V_callV (rest := []) B hi hw hA hl.1 (M_FHL_interest l hi S (xs (nI (6 * t) + 1).toNatClampNeg) ((((xs (nI (6 * t) + 2).toNatClampNeg).toInt64) <<< ((32 : Int32).toInt64 &&& 63)) ||| (((xs (nI (6 * t) + 3).toNatClampNeg).toInt64) &&& 4294967295)) (xs (nI (6 * t) + 4).toNatClampNeg) (jc_interest h6 hL S (xs (nI (6 * t) + 1).toNatClampNeg) ((((xs (nI (6 * t) + 2).toNatClampNeg).toInt64) <<< ((32 : Int32).toInt64 &&& 63)) ||| (((xs (nI (6 * t) + 3).toNatClampNeg).toInt64) &&& 4294967295)) (xs (nI (6 * t) + 4).toNatClampNeg) hJ).1) (cw_FHL_interest (Nat.le_of_ble_eq_true rfl) (Nat.le_of_ble_eq_true rfl) hc0 hs0) (by decide) rfl rfl wm_617 wm_618 wm_619 rfl (Nat.le_of_ble_eq_true rfl) dLA_law_1164 (kL (fun H locs hw => ?_))
  refine lv_pop2_2 hx hb dLA_law_1167 rfl ?_
  refine lv_aload_n hx hb dLA_law_1168 rfl (lv_at hl 2 rfl) ?_
  refine lv_aload_n hx hb dLA_law_1169 rfl (lv_at hl 0 rfl) ?_
  refine lv_iload hx hb dLA_law_1170 (lv_at hl 4 rfl) ?_
  refine lv_iconst (v := 1) hx hb dLA_law_1172 (by decide) ?_
  refine lv_iadd hx hb dLA_law_1173 ?_
  refine va_sld hx hb hX hbl hbA hw.2.2 (ixs_1 h6 hL) dLA_law_1174 ?_
  refine lv_aload_n hx hb dLA_law_1175 rfl (lv_at hl 0 rfl) ?_
  refine lv_iload hx hb dLA_law_1176 (lv_at hl 4 rfl) ?_
  refine lv_iconst (v := 2) hx hb dLA_law_1178 (by decide) ?_
  refine lv_iadd hx hb dLA_law_1179 ?_
  refine va_sld hx hb hX hbl hbA hw.2.2 (ixs_2 h6 hL) dLA_law_1180 ?_
  refine lv_i2l hx hb dLA_law_1181 rfl ?_
  refine lv_bipush (v := 32) hx hb dLA_law_1182 (by decide) ?_
  refine lv_lshl hx hb dLA_law_1184 rfl ?_
  refine lv_aload_n hx hb dLA_law_1185 rfl (lv_at hl 0 rfl) ?_
  refine lv_iload hx hb dLA_law_1186 (lv_at hl 4 rfl) ?_
  refine lv_iconst (v := 3) hx hb dLA_law_1188 (by decide) ?_
  refine lv_iadd hx hb dLA_law_1189 ?_
  refine va_sld hx hb hX hbl hbA hw.2.2 (ixs_3 h6 hL) dLA_law_1190 ?_
  refine lv_i2l hx hb dLA_law_1191 rfl ?_
  refine lv_ldc2 (v := 4294967295) hx hb hown (hts _ wm_514) dLA_law_1192 ?_
  refine lv_land hx hb dLA_law_1195 ?_
  refine lv_lor hx hb dLA_law_1196 ?_
  refine lv_aload_n hx hb dLA_law_1197 rfl (lv_at hl 0 rfl) ?_
  refine lv_iload hx hb dLA_law_1198 (lv_at hl 4 rfl) ?_
  refine lv_iconst (v := 4) hx hb dLA_law_1200 (by decide) ?_
  refine lv_iadd hx hb dLA_law_1201 ?_
  refine va_sld hx hb hX hbl hbA hw.2.2 (ixs_4 h6 hL) dLA_law_1202 ?_
  refine V_callV (rest := []) B hi hw hA hl.1 (M_FMO_interest l hi S (xs (nI (6 * t) + 1).toNatClampNeg) ((((xs (nI (6 * t) + 2).toNatClampNeg).toInt64) <<< ((32 : Int32).toInt64 &&& 63)) ||| (((xs (nI (6 * t) + 3).toNatClampNeg).toInt64) &&& 4294967295)) (xs (nI (6 * t) + 4).toNatClampNeg) (jc_interest h6 hL S (xs (nI (6 * t) + 1).toNatClampNeg) ((((xs (nI (6 * t) + 2).toNatClampNeg).toInt64) <<< ((32 : Int32).toInt64 &&& 63)) ||| (((xs (nI (6 * t) + 3).toNatClampNeg).toInt64) &&& 4294967295)) (xs (nI (6 * t) + 4).toNatClampNeg) hJ).2.1) (cw_FMO_interest (Nat.le_of_ble_eq_true rfl) (Nat.le_of_ble_eq_true rfl) hc0 hs0) (by decide) rfl rfl wm_620 wm_621 wm_622 rfl (Nat.le_of_ble_eq_true rfl) dLA_law_1203 (kL (fun H locs hw => ?_))
  refine lv_pop2_2 hx hb dLA_law_1206 rfl ?_
  refine lv_goto (tgt := 1410) hx hb dLA_law_1207 (by decide) ?_
  exact W.widen (Nat.le_add_right _ _) (Nat.le_add_right _ _) (kk _ _ _ _ (jc_interest h6 hL S (xs (nI (6 * t) + 1).toNatClampNeg) ((((xs (nI (6 * t) + 2).toNatClampNeg).toInt64) <<< ((32 : Int32).toInt64 &&& 63)) ||| (((xs (nI (6 * t) + 3).toNatClampNeg).toInt64) &&& 4294967295)) (xs (nI (6 * t) + 4).toNatClampNeg) hJ).2.2.2 hw hl)
set_option maxHeartbeats 4000000 in
set_option maxRecDepth 100000 in
theorem LC_19 {p : Program} {e : Env} {s : State} {m : MethodId} {below : List Frame} {meth : Method} {c : Code} (l : Launch) {b L : Nat} {xs : Nat → Int32} (hL : L ≤ 3072) (C0 : lw_At p s m meth c b L xs) {ad : Nat → Nat} {cI cL : ClassId} {dC : Nat → ClassId} {dI : Nat → Nat → Nat} {A : Nat → Prop} {sa : Nat} (hfl : l.flags = flags0) (hi : adI ad) (B : Bs p s m #[Value.ref b] c RLA code 7 cI cL dC dI) (hA : ∀ q, AA ad s.heap.size q → A q) (hAf : ∀ q, A q → s.heap.size ≤ q) (hz0 : zz A s s.heap) (hstr : vk_R RHL sIX sTX sa s) {t cells slots : Nat} {Q : State → Prop} (h6 : 6 * t + 6 ≤ L) (hc : cells + 1 ≤ room_1.cells) (hs : slots + 6 ≤ room_1.slots) (S : hS) (H : Heap) (locs : List Loc) (ls : Array Slot) (hJ : Jv t S) (hw : Wd ad cI cL dC dI A s.heap S H locs) (hl : lv_has ls 7 [(0, .ref b), (1, .ref (ad 0)), (2, .ref (ad 49)), (3, .ref (ad 52)), (4, .int (nI (6 * t)))]) (kk : ∀ (S1 : hS) (H : Heap) (locs : List Loc) (ls : Array Slot), Jv (t + 1) S1 → Wd ad cI cL dC dI A s.heap S1 H locs → lv_has ls 7 [(0, .ref b), (1, .ref (ad 0)), (2, .ref (ad 49)), (3, .ref (ad 52)), (4, .int (nI (6 * t)))] → W p l e room_1 s m #[Value.ref b] below meth c H locs (cells + 1) (slots + 6) Q (F0 m 1410 ls [])) : W p l e room_1 s m #[Value.ref b] below meth c H locs cells slots Q (F0 m 1210 ls []) := by
  obtain ⟨hx, hb, hr, hml, hown, hts0, hX, hbl, hlocks, hgv⟩ := id C0
  have hts : ∀ w ∈ wALL, w.before #[Value.ref b] s = true := B.2.2.2.2.1
  have hbA : ¬ A b := fun h => absurd (hAf b h) (Nat.not_le.mpr hbl)
  have hc0 : cells ≤ room_1.cells := Nat.le_trans (Nat.le_add_right _ _) hc
  have hs0 : slots ≤ room_1.slots := Nat.le_trans (Nat.le_add_right _ _) hs
  refine lv_aload_n hx hb dLA_law_1210 rfl (lv_at hl 1 rfl) ?_
  refine lv_aload_n hx hb dLA_law_1211 rfl (lv_at hl 0 rfl) ?_
  refine lv_iload hx hb dLA_law_1212 (lv_at hl 4 rfl) ?_
  refine lv_iconst (v := 1) hx hb dLA_law_1214 (by decide) ?_
  refine lv_iadd hx hb dLA_law_1215 ?_
  refine va_sld hx hb hX hbl hbA hw.2.2 (ixs_1 h6 hL) dLA_law_1216 ?_
  refine lv_i2l hx hb dLA_law_1217 rfl ?_
  refine lv_bipush (v := 32) hx hb dLA_law_1218 (by decide) ?_
  refine lv_lshl hx hb dLA_law_1220 rfl ?_
  refine lv_aload_n hx hb dLA_law_1221 rfl (lv_at hl 0 rfl) ?_
  refine lv_iload hx hb dLA_law_1222 (lv_at hl 4 rfl) ?_
  refine lv_iconst (v := 2) hx hb dLA_law_1224 (by decide) ?_
  refine lv_iadd hx hb dLA_law_1225 ?_
  refine va_sld hx hb hX hbl hbA hw.2.2 (ixs_2 h6 hL) dLA_law_1226 ?_
  refine lv_i2l hx hb dLA_law_1227 rfl ?_
  refine lv_ldc2 (v := 4294967295) hx hb hown (hts _ wm_514) dLA_law_1228 ?_
  refine lv_land hx hb dLA_law_1231 ?_
  refine lv_lor hx hb dLA_law_1232 ?_
  refine lv_aload_n hx hb dLA_law_1233 rfl (lv_at hl 0 rfl) ?_
  refine lv_iload hx hb dLA_law_1234 (lv_at hl 4 rfl) ?_
  refine lv_iconst (v := 3) hx hb dLA_law_1236 (by decide) ?_
  refine lv_iadd hx hb dLA_law_1237 ?_
  refine va_sld hx hb hX hbl hbA hw.2.2 (ixs_3 h6 hL) dLA_law_1238 ?_
  refine lv_i2l hx hb dLA_law_1239 rfl ?_
  refine lv_bipush (v := 32) hx hb dLA_law_1240 (by decide) ?_
  refine lv_lshl hx hb dLA_law_1242 rfl ?_
  refine lv_aload_n hx hb dLA_law_1243 rfl (lv_at hl 0 rfl) ?_
  refine lv_iload hx hb dLA_law_1244 (lv_at hl 4 rfl) ?_
  refine lv_iconst (v := 4) hx hb dLA_law_1246 (by decide) ?_
  refine lv_iadd hx hb dLA_law_1247 ?_
  refine va_sld hx hb hX hbl hbA hw.2.2 (ixs_4 h6 hL) dLA_law_1248 ?_
  refine lv_i2l hx hb dLA_law_1249 rfl ?_
  refine lv_ldc2 (v := 4294967295) hx hb hown (hts _ wm_514) dLA_law_1250 ?_
  refine lv_land hx hb dLA_law_1253 ?_
  refine lv_lor hx hb dLA_law_1254 ?_
  refine V_callV (rest := []) B hi hw hA hl.1 (M_FHL_rate l hi S ((((xs (nI (6 * t) + 1).toNatClampNeg).toInt64) <<< ((32 : Int32).toInt64 &&& 63)) ||| (((xs (nI (6 * t) + 2).toNatClampNeg).toInt64) &&& 4294967295)) ((((xs (nI (6 * t) + 3).toNatClampNeg).toInt64) <<< ((32 : Int32).toInt64 &&& 63)) ||| (((xs (nI (6 * t) + 4).toNatClampNeg).toInt64) &&& 4294967295)) (jc_rate h6 hL S ((((xs (nI (6 * t) + 1).toNatClampNeg).toInt64) <<< ((32 : Int32).toInt64 &&& 63)) ||| (((xs (nI (6 * t) + 2).toNatClampNeg).toInt64) &&& 4294967295)) ((((xs (nI (6 * t) + 3).toNatClampNeg).toInt64) <<< ((32 : Int32).toInt64 &&& 63)) ||| (((xs (nI (6 * t) + 4).toNatClampNeg).toInt64) &&& 4294967295)) hJ).1) (cw_FHL_rate (Nat.le_of_ble_eq_true rfl) (Nat.le_of_ble_eq_true rfl) hc0 hs0) (by decide) rfl rfl wm_623 wm_624 wm_625 rfl (Nat.le_of_ble_eq_true rfl) dLA_law_1255 (kI (fun H locs hw => ?_))
  refine lv_pop hx hb dLA_law_1258 rfl ?_
  refine lv_aload_n hx hb dLA_law_1259 rfl (lv_at hl 2 rfl) ?_
  refine lv_aload_n hx hb dLA_law_1260 rfl (lv_at hl 0 rfl) ?_
  refine lv_iload hx hb dLA_law_1261 (lv_at hl 4 rfl) ?_
  refine lv_iconst (v := 1) hx hb dLA_law_1263 (by decide) ?_
  refine lv_iadd hx hb dLA_law_1264 ?_
  refine va_sld hx hb hX hbl hbA hw.2.2 (ixs_1 h6 hL) dLA_law_1265 ?_
  refine lv_i2l hx hb dLA_law_1266 rfl ?_
  refine lv_bipush (v := 32) hx hb dLA_law_1267 (by decide) ?_
  refine lv_lshl hx hb dLA_law_1269 rfl ?_
  refine lv_aload_n hx hb dLA_law_1270 rfl (lv_at hl 0 rfl) ?_
  refine lv_iload hx hb dLA_law_1271 (lv_at hl 4 rfl) ?_
  refine lv_iconst (v := 2) hx hb dLA_law_1273 (by decide) ?_
  refine lv_iadd hx hb dLA_law_1274 ?_
  refine va_sld hx hb hX hbl hbA hw.2.2 (ixs_2 h6 hL) dLA_law_1275 ?_
  refine lv_i2l hx hb dLA_law_1276 rfl ?_
  refine lv_ldc2 (v := 4294967295) hx hb hown (hts _ wm_514) dLA_law_1277 ?_
  refine lv_land hx hb dLA_law_1280 ?_
  refine lv_lor hx hb dLA_law_1281 ?_
  refine lv_aload_n hx hb dLA_law_1282 rfl (lv_at hl 0 rfl) ?_
  refine lv_iload hx hb dLA_law_1283 (lv_at hl 4 rfl) ?_
  refine lv_iconst (v := 3) hx hb dLA_law_1285 (by decide) ?_
  refine lv_iadd hx hb dLA_law_1286 ?_
  refine va_sld hx hb hX hbl hbA hw.2.2 (ixs_3 h6 hL) dLA_law_1287 ?_
  refine lv_i2l hx hb dLA_law_1288 rfl ?_
  refine lv_bipush (v := 32) hx hb dLA_law_1289 (by decide) ?_
  refine lv_lshl hx hb dLA_law_1291 rfl ?_
  refine lv_aload_n hx hb dLA_law_1292 rfl (lv_at hl 0 rfl) ?_
  refine lv_iload hx hb dLA_law_1293 (lv_at hl 4 rfl) ?_
  refine lv_iconst (v := 4) hx hb dLA_law_1295 (by decide) ?_
  refine lv_iadd hx hb dLA_law_1296 ?_
  refine va_sld hx hb hX hbl hbA hw.2.2 (ixs_4 h6 hL) dLA_law_1297 ?_
  refine lv_i2l hx hb dLA_law_1298 rfl ?_
  refine lv_ldc2 (v := 4294967295) hx hb hown (hts _ wm_514) dLA_law_1299 ?_
  refine lv_land hx hb dLA_law_1302 ?_
  refine lv_lor hx hb dLA_law_1303 ?_
  refine V_callV (rest := []) B hi hw hA hl.1 (M_FMO_rate l hi (FHL_rate S ((((xs (nI (6 * t) + 1).toNatClampNeg).toInt64) <<< ((32 : Int32).toInt64 &&& 63)) ||| (((xs (nI (6 * t) + 2).toNatClampNeg).toInt64) &&& 4294967295)) ((((xs (nI (6 * t) + 3).toNatClampNeg).toInt64) <<< ((32 : Int32).toInt64 &&& 63)) ||| (((xs (nI (6 * t) + 4).toNatClampNeg).toInt64) &&& 4294967295))).2 ((((xs (nI (6 * t) + 1).toNatClampNeg).toInt64) <<< ((32 : Int32).toInt64 &&& 63)) ||| (((xs (nI (6 * t) + 2).toNatClampNeg).toInt64) &&& 4294967295)) ((((xs (nI (6 * t) + 3).toNatClampNeg).toInt64) <<< ((32 : Int32).toInt64 &&& 63)) ||| (((xs (nI (6 * t) + 4).toNatClampNeg).toInt64) &&& 4294967295)) (jc_rate h6 hL S ((((xs (nI (6 * t) + 1).toNatClampNeg).toInt64) <<< ((32 : Int32).toInt64 &&& 63)) ||| (((xs (nI (6 * t) + 2).toNatClampNeg).toInt64) &&& 4294967295)) ((((xs (nI (6 * t) + 3).toNatClampNeg).toInt64) <<< ((32 : Int32).toInt64 &&& 63)) ||| (((xs (nI (6 * t) + 4).toNatClampNeg).toInt64) &&& 4294967295)) hJ).2.1) (cw_FMO_rate (Nat.le_of_ble_eq_true rfl) (Nat.le_of_ble_eq_true rfl) hc0 hs0) (by decide) rfl rfl wm_626 wm_627 wm_628 rfl (Nat.le_of_ble_eq_true rfl) dLA_law_1304 (kI (fun H locs hw => ?_))
  refine lv_pop hx hb dLA_law_1307 rfl ?_
  refine lv_goto (tgt := 1410) hx hb dLA_law_1308 (by decide) ?_
  exact W.widen (Nat.le_add_right _ _) (Nat.le_add_right _ _) (kk _ _ _ _ (jc_rate h6 hL S ((((xs (nI (6 * t) + 1).toNatClampNeg).toInt64) <<< ((32 : Int32).toInt64 &&& 63)) ||| (((xs (nI (6 * t) + 2).toNatClampNeg).toInt64) &&& 4294967295)) ((((xs (nI (6 * t) + 3).toNatClampNeg).toInt64) <<< ((32 : Int32).toInt64 &&& 63)) ||| (((xs (nI (6 * t) + 4).toNatClampNeg).toInt64) &&& 4294967295)) hJ).2.2.2 hw hl)
set_option maxHeartbeats 4000000 in
set_option maxRecDepth 100000 in
theorem LC_20 {p : Program} {e : Env} {s : State} {m : MethodId} {below : List Frame} {meth : Method} {c : Code} (l : Launch) {b L : Nat} {xs : Nat → Int32} (hL : L ≤ 3072) (C0 : lw_At p s m meth c b L xs) {ad : Nat → Nat} {cI cL : ClassId} {dC : Nat → ClassId} {dI : Nat → Nat → Nat} {A : Nat → Prop} {sa : Nat} (hfl : l.flags = flags0) (hi : adI ad) (B : Bs p s m #[Value.ref b] c RLA code 7 cI cL dC dI) (hA : ∀ q, AA ad s.heap.size q → A q) (hAf : ∀ q, A q → s.heap.size ≤ q) (hz0 : zz A s s.heap) (hstr : vk_R RHL sIX sTX sa s) {t cells slots : Nat} {Q : State → Prop} (h6 : 6 * t + 6 ≤ L) (hc : cells + 1 ≤ room_1.cells) (hs : slots + 6 ≤ room_1.slots) (S : hS) (H : Heap) (locs : List Loc) (ls : Array Slot) (hJ : Jv t S) (hw : Wd ad cI cL dC dI A s.heap S H locs) (hl : lv_has ls 7 [(0, .ref b), (1, .ref (ad 0)), (2, .ref (ad 49)), (3, .ref (ad 52)), (4, .int (nI (6 * t)))]) (kk : ∀ (S1 : hS) (H : Heap) (locs : List Loc) (ls : Array Slot), Jv (t + 1) S1 → Wd ad cI cL dC dI A s.heap S1 H locs → lv_has ls 7 [(0, .ref b), (1, .ref (ad 0)), (2, .ref (ad 49)), (3, .ref (ad 52)), (4, .int (nI (6 * t)))] → W p l e room_1 s m #[Value.ref b] below meth c H locs (cells + 1) (slots + 6) Q (F0 m 1410 ls [])) : W p l e room_1 s m #[Value.ref b] below meth c H locs cells slots Q (F0 m 1311 ls []) := by
  obtain ⟨hx, hb, hr, hml, hown, hts0, hX, hbl, hlocks, hgv⟩ := id C0
  have hts : ∀ w ∈ wALL, w.before #[Value.ref b] s = true := B.2.2.2.2.1
  have hbA : ¬ A b := fun h => absurd (hAf b h) (Nat.not_le.mpr hbl)
  have hc0 : cells ≤ room_1.cells := Nat.le_trans (Nat.le_add_right _ _) hc
  have hs0 : slots ≤ room_1.slots := Nat.le_trans (Nat.le_add_right _ _) hs
  refine lv_aload_n hx hb dLA_law_1311 rfl (lv_at hl 1 rfl) ?_
  refine lv_aload_n hx hb dLA_law_1312 rfl (lv_at hl 0 rfl) ?_
  refine lv_iload hx hb dLA_law_1313 (lv_at hl 4 rfl) ?_
  refine lv_iconst (v := 1) hx hb dLA_law_1315 (by decide) ?_
  refine lv_iadd hx hb dLA_law_1316 ?_
  refine va_sld hx hb hX hbl hbA hw.2.2 (ixs_1 h6 hL) dLA_law_1317 ?_
  refine lv_aload_n hx hb dLA_law_1318 rfl (lv_at hl 0 rfl) ?_
  refine lv_iload hx hb dLA_law_1319 (lv_at hl 4 rfl) ?_
  refine lv_iconst (v := 2) hx hb dLA_law_1321 (by decide) ?_
  refine lv_iadd hx hb dLA_law_1322 ?_
  refine va_sld hx hb hX hbl hbA hw.2.2 (ixs_2 h6 hL) dLA_law_1323 ?_
  refine lv_aload_n hx hb dLA_law_1324 rfl (lv_at hl 0 rfl) ?_
  refine lv_iload hx hb dLA_law_1325 (lv_at hl 4 rfl) ?_
  refine lv_iconst (v := 3) hx hb dLA_law_1327 (by decide) ?_
  refine lv_iadd hx hb dLA_law_1328 ?_
  refine va_sld hx hb hX hbl hbA hw.2.2 (ixs_3 h6 hL) dLA_law_1329 ?_
  refine V_callV (rest := []) B hi hw hA hl.1 (M_FHL_statement l hi S (xs (nI (6 * t) + 1).toNatClampNeg) (xs (nI (6 * t) + 2).toNatClampNeg) (xs (nI (6 * t) + 3).toNatClampNeg) (jc_statement h6 hL S (xs (nI (6 * t) + 1).toNatClampNeg) (xs (nI (6 * t) + 2).toNatClampNeg) (xs (nI (6 * t) + 3).toNatClampNeg) hJ).1) (cw_FHL_statement (Nat.le_of_ble_eq_true rfl) (Nat.le_of_ble_eq_true rfl) hc0 hs0) (by decide) rfl rfl wm_629 wm_630 wm_631 rfl (Nat.le_of_ble_eq_true rfl) dLA_law_1330 (kI (fun H locs hw => ?_))
  refine lv_pop hx hb dLA_law_1333 rfl ?_
  refine lv_aload_n hx hb dLA_law_1334 rfl (lv_at hl 2 rfl) ?_
  refine lv_aload_n hx hb dLA_law_1335 rfl (lv_at hl 0 rfl) ?_
  refine lv_iload hx hb dLA_law_1336 (lv_at hl 4 rfl) ?_
  refine lv_iconst (v := 1) hx hb dLA_law_1338 (by decide) ?_
  refine lv_iadd hx hb dLA_law_1339 ?_
  refine va_sld hx hb hX hbl hbA hw.2.2 (ixs_1 h6 hL) dLA_law_1340 ?_
  refine lv_aload_n hx hb dLA_law_1341 rfl (lv_at hl 0 rfl) ?_
  refine lv_iload hx hb dLA_law_1342 (lv_at hl 4 rfl) ?_
  refine lv_iconst (v := 2) hx hb dLA_law_1344 (by decide) ?_
  refine lv_iadd hx hb dLA_law_1345 ?_
  refine va_sld hx hb hX hbl hbA hw.2.2 (ixs_2 h6 hL) dLA_law_1346 ?_
  refine lv_aload_n hx hb dLA_law_1347 rfl (lv_at hl 0 rfl) ?_
  refine lv_iload hx hb dLA_law_1348 (lv_at hl 4 rfl) ?_
  refine lv_iconst (v := 3) hx hb dLA_law_1350 (by decide) ?_
  refine lv_iadd hx hb dLA_law_1351 ?_
  refine va_sld hx hb hX hbl hbA hw.2.2 (ixs_3 h6 hL) dLA_law_1352 ?_
  refine V_callV (rest := []) B hi hw hA hl.1 (M_FMO_statement l hi S (xs (nI (6 * t) + 1).toNatClampNeg) (xs (nI (6 * t) + 2).toNatClampNeg) (xs (nI (6 * t) + 3).toNatClampNeg) (jc_statement h6 hL S (xs (nI (6 * t) + 1).toNatClampNeg) (xs (nI (6 * t) + 2).toNatClampNeg) (xs (nI (6 * t) + 3).toNatClampNeg) hJ).2.1) (cw_FMO_statement (Nat.le_of_ble_eq_true rfl) (Nat.le_of_ble_eq_true rfl) hc0 hs0) (by decide) rfl rfl wm_632 wm_633 wm_634 rfl (Nat.le_of_ble_eq_true rfl) dLA_law_1353 (kI (fun H locs hw => ?_))
  refine lv_pop hx hb dLA_law_1356 rfl ?_
  refine lv_goto (tgt := 1410) hx hb dLA_law_1357 (by decide) ?_
  exact W.widen (Nat.le_add_right _ _) (Nat.le_add_right _ _) (kk _ _ _ _ (jc_statement h6 hL S (xs (nI (6 * t) + 1).toNatClampNeg) (xs (nI (6 * t) + 2).toNatClampNeg) (xs (nI (6 * t) + 3).toNatClampNeg) hJ).2.2.2 hw hl)
set_option maxHeartbeats 4000000 in
set_option maxRecDepth 100000 in
theorem LC_21 {p : Program} {e : Env} {s : State} {m : MethodId} {below : List Frame} {meth : Method} {c : Code} (l : Launch) {b L : Nat} {xs : Nat → Int32} (hL : L ≤ 3072) (C0 : lw_At p s m meth c b L xs) {ad : Nat → Nat} {cI cL : ClassId} {dC : Nat → ClassId} {dI : Nat → Nat → Nat} {A : Nat → Prop} {sa : Nat} (hfl : l.flags = flags0) (hi : adI ad) (B : Bs p s m #[Value.ref b] c RLA code 7 cI cL dC dI) (hA : ∀ q, AA ad s.heap.size q → A q) (hAf : ∀ q, A q → s.heap.size ≤ q) (hz0 : zz A s s.heap) (hstr : vk_R RHL sIX sTX sa s) {t cells slots : Nat} {Q : State → Prop} (h6 : 6 * t + 6 ≤ L) (hc : cells + 1 ≤ room_1.cells) (hs : slots + 6 ≤ room_1.slots) (S : hS) (H : Heap) (locs : List Loc) (ls : Array Slot) (hJ : Jv t S) (hw : Wd ad cI cL dC dI A s.heap S H locs) (hl : lv_has ls 7 [(0, .ref b), (1, .ref (ad 0)), (2, .ref (ad 49)), (3, .ref (ad 52)), (4, .int (nI (6 * t)))]) (kk : ∀ (S1 : hS) (H : Heap) (locs : List Loc) (ls : Array Slot), Jv (t + 1) S1 → Wd ad cI cL dC dI A s.heap S1 H locs → lv_has ls 7 [(0, .ref b), (1, .ref (ad 0)), (2, .ref (ad 49)), (3, .ref (ad 52)), (4, .int (nI (6 * t)))] → W p l e room_1 s m #[Value.ref b] below meth c H locs (cells + 1) (slots + 6) Q (F0 m 1410 ls [])) : W p l e room_1 s m #[Value.ref b] below meth c H locs cells slots Q (F0 m 1360 ls []) := by
  obtain ⟨hx, hb, hr, hml, hown, hts0, hX, hbl, hlocks, hgv⟩ := id C0
  have hts : ∀ w ∈ wALL, w.before #[Value.ref b] s = true := B.2.2.2.2.1
  have hbA : ¬ A b := fun h => absurd (hAf b h) (Nat.not_le.mpr hbl)
  have hc0 : cells ≤ room_1.cells := Nat.le_trans (Nat.le_add_right _ _) hc
  have hs0 : slots ≤ room_1.slots := Nat.le_trans (Nat.le_add_right _ _) hs
  refine lv_aload_n hx hb dLA_law_1360 rfl (lv_at hl 1 rfl) ?_
  refine lv_aload_n hx hb dLA_law_1361 rfl (lv_at hl 0 rfl) ?_
  refine lv_iload hx hb dLA_law_1362 (lv_at hl 4 rfl) ?_
  refine lv_iconst (v := 1) hx hb dLA_law_1364 (by decide) ?_
  refine lv_iadd hx hb dLA_law_1365 ?_
  refine va_sld hx hb hX hbl hbA hw.2.2 (ixs_1 h6 hL) dLA_law_1366 ?_
  refine V_callV (rest := []) B hi hw hA hl.1 (M_FHL_tax l hi S (xs (nI (6 * t) + 1).toNatClampNeg) (jc_tax h6 hL S (xs (nI (6 * t) + 1).toNatClampNeg) hJ).1) (cw_FHL_tax (Nat.le_of_ble_eq_true rfl) (Nat.le_of_ble_eq_true rfl) hc0 hs0) (by decide) rfl rfl wm_635 wm_636 wm_637 rfl (Nat.le_of_ble_eq_true rfl) dLA_law_1367 (kL (fun H locs hw => ?_))
  refine lv_pop2_2 hx hb dLA_law_1370 rfl ?_
  refine lv_aload_n hx hb dLA_law_1371 rfl (lv_at hl 2 rfl) ?_
  refine lv_aload_n hx hb dLA_law_1372 rfl (lv_at hl 0 rfl) ?_
  refine lv_iload hx hb dLA_law_1373 (lv_at hl 4 rfl) ?_
  refine lv_iconst (v := 1) hx hb dLA_law_1375 (by decide) ?_
  refine lv_iadd hx hb dLA_law_1376 ?_
  refine va_sld hx hb hX hbl hbA hw.2.2 (ixs_1 h6 hL) dLA_law_1377 ?_
  refine V_callV (rest := []) B hi hw hA hl.1 (M_FMO_tax l hi S (xs (nI (6 * t) + 1).toNatClampNeg) (jc_tax h6 hL S (xs (nI (6 * t) + 1).toNatClampNeg) hJ).2.1) (cw_FMO_tax (Nat.le_of_ble_eq_true rfl) (Nat.le_of_ble_eq_true rfl) hc0 hs0) (by decide) rfl rfl wm_638 wm_639 wm_640 rfl (Nat.le_of_ble_eq_true rfl) dLA_law_1378 (kL (fun H locs hw => ?_))
  refine lv_pop2_2 hx hb dLA_law_1381 rfl ?_
  refine lv_goto (tgt := 1410) hx hb dLA_law_1382 (by decide) ?_
  exact W.widen (Nat.le_add_right _ _) (Nat.le_add_right _ _) (kk _ _ _ _ (jc_tax h6 hL S (xs (nI (6 * t) + 1).toNatClampNeg) hJ).2.2.2 hw hl)
set_option maxHeartbeats 4000000 in
set_option maxRecDepth 100000 in
theorem LC_22 {p : Program} {e : Env} {s : State} {m : MethodId} {below : List Frame} {meth : Method} {c : Code} (l : Launch) {b L : Nat} {xs : Nat → Int32} (hL : L ≤ 3072) (C0 : lw_At p s m meth c b L xs) {ad : Nat → Nat} {cI cL : ClassId} {dC : Nat → ClassId} {dI : Nat → Nat → Nat} {A : Nat → Prop} {sa : Nat} (hfl : l.flags = flags0) (hi : adI ad) (B : Bs p s m #[Value.ref b] c RLA code 7 cI cL dC dI) (hA : ∀ q, AA ad s.heap.size q → A q) (hAf : ∀ q, A q → s.heap.size ≤ q) (hz0 : zz A s s.heap) (hstr : vk_R RHL sIX sTX sa s) {t cells slots : Nat} {Q : State → Prop} (h6 : 6 * t + 6 ≤ L) (hc : cells + 1 ≤ room_1.cells) (hs : slots + 6 ≤ room_1.slots) (S : hS) (H : Heap) (locs : List Loc) (ls : Array Slot) (hJ : Jv t S) (hw : Wd ad cI cL dC dI A s.heap S H locs) (hl : lv_has ls 7 [(0, .ref b), (1, .ref (ad 0)), (2, .ref (ad 49)), (3, .ref (ad 52)), (4, .int (nI (6 * t)))]) (kk : ∀ (S1 : hS) (H : Heap) (locs : List Loc) (ls : Array Slot), Jv (t + 1) S1 → Wd ad cI cL dC dI A s.heap S1 H locs → lv_has ls 7 [(0, .ref b), (1, .ref (ad 0)), (2, .ref (ad 49)), (3, .ref (ad 52)), (4, .int (nI (6 * t)))] → W p l e room_1 s m #[Value.ref b] below meth c H locs (cells + 1) (slots + 6) Q (F0 m 1410 ls [])) : W p l e room_1 s m #[Value.ref b] below meth c H locs cells slots Q (F0 m 1385 ls []) := by
  obtain ⟨hx, hb, hr, hml, hown, hts0, hX, hbl, hlocks, hgv⟩ := id C0
  have hts : ∀ w ∈ wALL, w.before #[Value.ref b] s = true := B.2.2.2.2.1
  have hbA : ¬ A b := fun h => absurd (hAf b h) (Nat.not_le.mpr hbl)
  have hc0 : cells ≤ room_1.cells := Nat.le_trans (Nat.le_add_right _ _) hc
  have hs0 : slots ≤ room_1.slots := Nat.le_trans (Nat.le_add_right _ _) hs
  refine lv_aload_n hx hb dLA_law_1385 rfl (lv_at hl 1 rfl) ?_
  refine lv_aload_n hx hb dLA_law_1386 rfl (lv_at hl 0 rfl) ?_
  refine lv_iload hx hb dLA_law_1387 (lv_at hl 4 rfl) ?_
  refine lv_iconst (v := 1) hx hb dLA_law_1389 (by decide) ?_
  refine lv_iadd hx hb dLA_law_1390 ?_
  refine va_sld hx hb hX hbl hbA hw.2.2 (ixs_1 h6 hL) dLA_law_1391 ?_
  refine V_callV (rest := []) B hi hw hA hl.1 (M_FHL_found l hi S (xs (nI (6 * t) + 1).toNatClampNeg) (jc_found h6 hL S (xs (nI (6 * t) + 1).toNatClampNeg) hJ).1) (cw_FHL_found (Nat.le_of_ble_eq_true rfl) (Nat.le_of_ble_eq_true rfl) hc0 hs0) (by decide) rfl rfl wm_641 wm_642 wm_643 rfl (Nat.le_of_ble_eq_true rfl) dLA_law_1392 (kL (fun H locs hw => ?_))
  refine lv_pop2_2 hx hb dLA_law_1395 rfl ?_
  refine lv_aload_n hx hb dLA_law_1396 rfl (lv_at hl 2 rfl) ?_
  refine lv_aload_n hx hb dLA_law_1397 rfl (lv_at hl 0 rfl) ?_
  refine lv_iload hx hb dLA_law_1398 (lv_at hl 4 rfl) ?_
  refine lv_iconst (v := 1) hx hb dLA_law_1400 (by decide) ?_
  refine lv_iadd hx hb dLA_law_1401 ?_
  refine va_sld hx hb hX hbl hbA hw.2.2 (ixs_1 h6 hL) dLA_law_1402 ?_
  refine V_callV (rest := []) B hi hw hA hl.1 (M_FMO_found l hi S (xs (nI (6 * t) + 1).toNatClampNeg) (jc_found h6 hL S (xs (nI (6 * t) + 1).toNatClampNeg) hJ).2.1) (cw_FMO_found (Nat.le_of_ble_eq_true rfl) (Nat.le_of_ble_eq_true rfl) hc0 hs0) (by decide) rfl rfl wm_644 wm_645 wm_646 rfl (Nat.le_of_ble_eq_true rfl) dLA_law_1403 (kL (fun H locs hw => ?_))
  refine lv_pop2_2 hx hb dLA_law_1406 rfl ?_
  refine lv_goto (tgt := 1410) hx hb dLA_law_1407 (by decide) ?_
  exact W.widen (Nat.le_add_right _ _) (Nat.le_add_right _ _) (kk _ _ _ _ (jc_found h6 hL S (xs (nI (6 * t) + 1).toNatClampNeg) hJ).2.2.2 hw hl)
