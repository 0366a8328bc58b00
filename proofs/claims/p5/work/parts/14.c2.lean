set_option maxHeartbeats 4000000 in
set_option maxRecDepth 100000 in
theorem LC_12 {p : Program} {e : Env} {s : State} {m : MethodId} {below : List Frame} {meth : Method} {c : Code} (l : Launch) {b L : Nat} {xs : Nat → Int32} (hL : L ≤ 3072) (C0 : lw_At p s m meth c b L xs) {ad : Nat → Nat} {cI cL : ClassId} {dC : Nat → ClassId} {dI : Nat → Nat → Nat} {A : Nat → Prop} {sa : Nat} (hfl : l.flags = flags0) (hi : adI ad) (B : Bs p s m #[Value.ref b] c RLA code 7 cI cL dC dI) (hA : ∀ q, AA ad s.heap.size q → A q) (hAf : ∀ q, A q → s.heap.size ≤ q) (hz0 : zz A s s.heap) (hstr : vk_R RHL sIX sTX sa s) {t cells slots : Nat} {Q : State → Prop} (h6 : 6 * t + 6 ≤ L) (hc : cells + 1 ≤ room_1.cells) (hs : slots + 6 ≤ room_1.slots) (S : hS) (H : Heap) (locs : List Loc) (ls : Array Slot) (hJ : Jv t S) (hw : Wd ad cI cL dC dI A s.heap S H locs) (hl : lv_has ls 7 [(0, .ref b), (1, .ref (ad 0)), (2, .ref (ad 49)), (3, .ref (ad 52)), (4, .int (nI (6 * t)))]) (kk : ∀ (S1 : hS) (H : Heap) (locs : List Loc) (ls : Array Slot), Jv (t + 1) S1 → Wd ad cI cL dC dI A s.heap S1 H locs → lv_has ls 7 [(0, .ref b), (1, .ref (ad 0)), (2, .ref (ad 49)), (3, .ref (ad 52)), (4, .int (nI (6 * t)))] → W p l e room_1 s m #[Value.ref b] below meth c H locs (cells + 1) (slots + 6) Q (F0 m 1438 ls [])) : W p l e room_1 s m #[Value.ref b] below meth c H locs cells slots Q (F0 m 879 ls []) := by
  obtain ⟨hx, hb, hr, hml, hown, hts0, hX, hbl, hlocks, hgv⟩ := id C0
  have hts : ∀ w ∈ wALL, w.before #[Value.ref b] s = true := B.2.2.2.2.1
  have hbA : ¬ A b := fun h => absurd (hAf b h) (Nat.not_le.mpr hbl)
  have hc0 : cells ≤ room_1.cells := Nat.le_trans (Nat.le_add_right _ _) hc
  have hs0 : slots ≤ room_1.slots := Nat.le_trans (Nat.le_add_right _ _) hs
  refine lv_aload_n hx hb dLA_law_879 rfl (lv_at hl 1 rfl) ?_
  refine lv_aload_n hx hb dLA_law_880 rfl (lv_at hl 0 rfl) ?_
  refine lv_iload hx hb dLA_law_881 (lv_at hl 4 rfl) ?_
  refine lv_iconst (v := 1) hx hb dLA_law_883 (by decide) ?_
  refine lv_iadd hx hb dLA_law_884 ?_
  refine va_sld hx hb hX hbl hbA hw.2.2 (ixs_1 h6 hL) dLA_law_885 ?_
  refine lv_aload_n hx hb dLA_law_886 rfl (lv_at hl 0 rfl) ?_
  refine lv_iload hx hb dLA_law_887 (lv_at hl 4 rfl) ?_
  refine lv_iconst (v := 2) hx hb dLA_law_889 (by decide) ?_
  refine lv_iadd hx hb dLA_law_890 ?_
  refine va_sld hx hb hX hbl hbA hw.2.2 (ixs_2 h6 hL) dLA_law_891 ?_
  refine lv_aload_n hx hb dLA_law_892 rfl (lv_at hl 0 rfl) ?_
  refine lv_iload hx hb dLA_law_893 (lv_at hl 4 rfl) ?_
  refine lv_iconst (v := 3) hx hb dLA_law_895 (by decide) ?_
  refine lv_iadd hx hb dLA_law_896 ?_
  refine va_sld hx hb hX hbl hbA hw.2.2 (ixs_3 h6 hL) dLA_law_897 ?_
  refine lv_i2l hx hb dLA_law_898 rfl ?_
  refine lv_bipush (v := 32) hx hb dLA_law_899 (by decide) ?_
  refine lv_lshl hx hb dLA_law_901 rfl ?_
  refine lv_aload_n hx hb dLA_law_902 rfl (lv_at hl 0 rfl) ?_
  refine lv_iload hx hb dLA_law_903 (lv_at hl 4 rfl) ?_
  refine lv_iconst (v := 4) hx hb dLA_law_905 (by decide) ?_
  refine lv_iadd hx hb dLA_law_906 ?_
  refine va_sld hx hb hX hbl hbA hw.2.2 (ixs_4 h6 hL) dLA_law_907 ?_
  refine lv_i2l hx hb dLA_law_908 rfl ?_
  refine lv_ldc2 (v := 4294967295) hx hb hown (hts _ wm_515) dLA_law_909 ?_
  refine lv_land hx hb dLA_law_912 ?_
  refine lv_lor hx hb dLA_law_913 ?_
  refine V_callV (rest := []) B hi hw hA hl.1 (M_FHL_move l hi S (xs (nI (6 * t) + 1).toNatClampNeg) (xs (nI (6 * t) + 2).toNatClampNeg) ((((xs (nI (6 * t) + 3).toNatClampNeg).toInt64) <<< ((32 : Int32).toInt64 &&& 63)) ||| (((xs (nI (6 * t) + 4).toNatClampNeg).toInt64) &&& 4294967295)) (jc_move h6 hL S (xs (nI (6 * t) + 1).toNatClampNeg) (xs (nI (6 * t) + 2).toNatClampNeg) ((((xs (nI (6 * t) + 3).toNatClampNeg).toInt64) <<< ((32 : Int32).toInt64 &&& 63)) ||| (((xs (nI (6 * t) + 4).toNatClampNeg).toInt64) &&& 4294967295)) hJ).1) (cw_FHL_move (Nat.le_of_ble_eq_true rfl) (Nat.le_of_ble_eq_true rfl) hc0 hs0) (by decide) rfl rfl wm_585 wm_586 wm_587 rfl (Nat.le_of_ble_eq_true rfl) dLA_law_914 (kI (fun H locs hw => ?_))
  refine lv_pop hx hb dLA_law_917 rfl ?_
  refine lv_aload_n hx hb dLA_law_918 rfl (lv_at hl 2 rfl) ?_
  refine lv_aload_n hx hb dLA_law_919 rfl (lv_at hl 0 rfl) ?_
  refine lv_iload hx hb dLA_law_920 (lv_at hl 4 rfl) ?_
  refine lv_iconst (v := 1) hx hb dLA_law_922 (by decide) ?_
  refine lv_iadd hx hb dLA_law_923 ?_
  refine va_sld hx hb hX hbl hbA hw.2.2 (ixs_1 h6 hL) dLA_law_924 ?_
  refine lv_aload_n hx hb dLA_law_925 rfl (lv_at hl 0 rfl) ?_
  refine lv_iload hx hb dLA_law_926 (lv_at hl 4 rfl) ?_
  refine lv_iconst (v := 2) hx hb dLA_law_928 (by decide) ?_
  refine lv_iadd hx hb dLA_law_929 ?_
  refine va_sld hx hb hX hbl hbA hw.2.2 (ixs_2 h6 hL) dLA_law_930 ?_
  refine lv_aload_n hx hb dLA_law_931 rfl (lv_at hl 0 rfl) ?_
  refine lv_iload hx hb dLA_law_932 (lv_at hl 4 rfl) ?_
  refine lv_iconst (v := 3) hx hb dLA_law_934 (by decide) ?_
  refine lv_iadd hx hb dLA_law_935 ?_
  refine va_sld hx hb hX hbl hbA hw.2.2 (ixs_3 h6 hL) dLA_law_936 ?_
  refine lv_i2l hx hb dLA_law_937 rfl ?_
  refine lv_bipush (v := 32) hx hb dLA_law_938 (by decide) ?_
  refine lv_lshl hx hb dLA_law_940 rfl ?_
  refine lv_aload_n hx hb dLA_law_941 rfl (lv_at hl 0 rfl) ?_
  refine lv_iload hx hb dLA_law_942 (lv_at hl 4 rfl) ?_
  refine lv_iconst (v := 4) hx hb dLA_law_944 (by decide) ?_
  refine lv_iadd hx hb dLA_law_945 ?_
  refine va_sld hx hb hX hbl hbA hw.2.2 (ixs_4 h6 hL) dLA_law_946 ?_
  refine lv_i2l hx hb dLA_law_947 rfl ?_
  refine lv_ldc2 (v := 4294967295) hx hb hown (hts _ wm_515) dLA_law_948 ?_
  refine lv_land hx hb dLA_law_951 ?_
  refine lv_lor hx hb dLA_law_952 ?_
  refine V_callV (rest := []) B hi hw hA hl.1 (M_FMO_move l hi (FHL_move S (xs (nI (6 * t) + 1).toNatClampNeg) (xs (nI (6 * t) + 2).toNatClampNeg) ((((xs (nI (6 * t) + 3).toNatClampNeg).toInt64) <<< ((32 : Int32).toInt64 &&& 63)) ||| (((xs (nI (6 * t) + 4).toNatClampNeg).toInt64) &&& 4294967295))).2 (xs (nI (6 * t) + 1).toNatClampNeg) (xs (nI (6 * t) + 2).toNatClampNeg) ((((xs (nI (6 * t) + 3).toNatClampNeg).toInt64) <<< ((32 : Int32).toInt64 &&& 63)) ||| (((xs (nI (6 * t) + 4).toNatClampNeg).toInt64) &&& 4294967295)) (jc_move h6 hL S (xs (nI (6 * t) + 1).toNatClampNeg) (xs (nI (6 * t) + 2).toNatClampNeg) ((((xs (nI (6 * t) + 3).toNatClampNeg).toInt64) <<< ((32 : Int32).toInt64 &&& 63)) ||| (((xs (nI (6 * t) + 4).toNatClampNeg).toInt64) &&& 4294967295)) hJ).2.1) (cw_FMO_move (Nat.le_of_ble_eq_true rfl) (Nat.le_of_ble_eq_true rfl) hc0 hs0) (by decide) rfl rfl wm_588 wm_589 wm_590 rfl (Nat.le_of_ble_eq_true rfl) dLA_law_953 (kI (fun H locs hw => ?_))
  refine lv_pop hx hb dLA_law_956 rfl ?_
  refine lv_goto (tgt := 1438) hx hb dLA_law_957 (by decide) ?_
  exact W.widen (Nat.le_add_right _ _) (Nat.le_add_right _ _) (kk _ _ _ _ (jc_move h6 hL S (xs (nI (6 * t) + 1).toNatClampNeg) (xs (nI (6 * t) + 2).toNatClampNeg) ((((xs (nI (6 * t) + 3).toNatClampNeg).toInt64) <<< ((32 : Int32).toInt64 &&& 63)) ||| (((xs (nI (6 * t) + 4).toNatClampNeg).toInt64) &&& 4294967295)) hJ).2.2.2 hw hl)
set_option maxHeartbeats 4000000 in
set_option maxRecDepth 100000 in
theorem LC_13 {p : Program} {e : Env} {s : State} {m : MethodId} {below : List Frame} {meth : Method} {c : Code} (l : Launch) {b L : Nat} {xs : Nat → Int32} (hL : L ≤ 3072) (C0 : lw_At p s m meth c b L xs) {ad : Nat → Nat} {cI cL : ClassId} {dC : Nat → ClassId} {dI : Nat → Nat → Nat} {A : Nat → Prop} {sa : Nat} (hfl : l.flags = flags0) (hi : adI ad) (B : Bs p s m #[Value.ref b] c RLA code 7 cI cL dC dI) (hA : ∀ q, AA ad s.heap.size q → A q) (hAf : ∀ q, A q → s.heap.size ≤ q) (hz0 : zz A s s.heap) (hstr : vk_R RHL sIX sTX sa s) {t cells slots : Nat} {Q : State → Prop} (h6 : 6 * t + 6 ≤ L) (hc : cells + 1 ≤ room_1.cells) (hs : slots + 6 ≤ room_1.slots) (S : hS) (H : Heap) (locs : List Loc) (ls : Array Slot) (hJ : Jv t S) (hw : Wd ad cI cL dC dI A s.heap S H locs) (hl : lv_has ls 7 [(0, .ref b), (1, .ref (ad 0)), (2, .ref (ad 49)), (3, .ref (ad 52)), (4, .int (nI (6 * t)))]) (kk : ∀ (S1 : hS) (H : Heap) (locs : List Loc) (ls : Array Slot), Jv (t + 1) S1 → Wd ad cI cL dC dI A s.heap S1 H locs → lv_has ls 7 [(0, .ref b), (1, .ref (ad 0)), (2, .ref (ad 49)), (3, .ref (ad 52)), (4, .int (nI (6 * t)))] → W p l e room_1 s m #[Value.ref b] below meth c H locs (cells + 1) (slots + 6) Q (F0 m 1438 ls [])) : W p l e room_1 s m #[Value.ref b] below meth c H locs cells slots Q (F0 m 960 ls []) := by
  obtain ⟨hx, hb, hr, hml, hown, hts0, hX, hbl, hlocks, hgv⟩ := id C0
  have hts : ∀ w ∈ wALL, w.before #[Value.ref b] s = true := B.2.2.2.2.1
  have hbA : ¬ A b := fun h => absurd (hAf b h) (Nat.not_le.mpr hbl)
  have hc0 : cells ≤ room_1.cells := Nat.le_trans (Nat.le_add_right _ _) hc
  have hs0 : slots ≤ room_1.slots := Nat.le_trans (Nat.le_add_right _ _) hs
  refine lv_aload_n hx hb dLA_law_960 rfl (lv_at hl 1 rfl) ?_
  refine lv_aload_n hx hb dLA_law_961 rfl (lv_at hl 0 rfl) ?_
  refine lv_iload hx hb dLA_law_962 (lv_at hl 4 rfl) ?_
  refine lv_iconst (v := 1) hx hb dLA_law_964 (by decide) ?_
  refine lv_iadd hx hb dLA_law_965 ?_
  refine va_sld hx hb hX hbl hbA hw.2.2 (ixs_1 h6 hL) dLA_law_966 ?_
  refine lv_aload_n hx hb dLA_law_967 rfl (lv_at hl 0 rfl) ?_
  refine lv_iload hx hb dLA_law_968 (lv_at hl 4 rfl) ?_
  refine lv_iconst (v := 2) hx hb dLA_law_970 (by decide) ?_
  refine lv_iadd hx hb dLA_law_971 ?_
  refine va_sld hx hb hX hbl hbA hw.2.2 (ixs_2 h6 hL) dLA_law_972 ?_
  refine lv_aload_n hx hb dLA_law_973 rfl (lv_at hl 0 rfl) ?_
  refine lv_iload hx hb dLA_law_974 (lv_at hl 4 rfl) ?_
  refine lv_iconst (v := 3) hx hb dLA_law_976 (by decide) ?_
  refine lv_iadd hx hb dLA_law_977 ?_
  refine va_sld hx hb hX hbl hbA hw.2.2 (ixs_3 h6 hL) dLA_law_978 ?_
  refine V_callV (rest := []) B hi hw hA hl.1 (M_FHL_share l hi S (xs (nI (6 * t) + 1).toNatClampNeg) (xs (nI (6 * t) + 2).toNatClampNeg) (xs (nI (6 * t) + 3).toNatClampNeg) (jc_share h6 hL S (xs (nI (6 * t) + 1).toNatClampNeg) (xs (nI (6 * t) + 2).toNatClampNeg) (xs (nI (6 * t) + 3).toNatClampNeg) hJ).1) (cw_FHL_share (Nat.le_of_ble_eq_true rfl) (Nat.le_of_ble_eq_true rfl) hc0 hs0) (by decide) rfl rfl wm_591 wm_592 wm_593 rfl (Nat.le_of_ble_eq_true rfl) dLA_law_979 (kL (fun H locs hw => ?_))
  refine lv_pop2_2 hx hb dLA_law_982 rfl ?_
  refine lv_aload_n hx hb dLA_law_983 rfl (lv_at hl 2 rfl) ?_
  refine lv_aload_n hx hb dLA_law_984 rfl (lv_at hl 0 rfl) ?_
  refine lv_iload hx hb dLA_law_985 (lv_at hl 4 rfl) ?_
  refine lv_iconst (v := 1) hx hb dLA_law_987 (by decide) ?_
  refine lv_iadd hx hb dLA_law_988 ?_
  refine va_sld hx hb hX hbl hbA hw.2.2 (ixs_1 h6 hL) dLA_law_989 ?_
  refine lv_aload_n hx hb dLA_law_990 rfl (lv_at hl 0 rfl) ?_
  refine lv_iload hx hb dLA_law_991 (lv_at hl 4 rfl) ?_
  refine lv_iconst (v := 2) hx hb dLA_law_993 (by decide) ?_
  refine lv_iadd hx hb dLA_law_994 ?_
  refine va_sld hx hb hX hbl hbA hw.2.2 (ixs_2 h6 hL) dLA_law_995 ?_
  refine lv_aload_n hx hb dLA_law_996 rfl (lv_at hl 0 rfl) ?_
  refine lv_iload hx hb dLA_law_997 (lv_at hl 4 rfl) ?_
  refine lv_iconst (v := 3) hx hb dLA_law_999 (by decide) ?_
  refine lv_iadd hx hb dLA_law_1000 ?_
  refine va_sld hx hb hX hbl hbA hw.2.2 (ixs_3 h6 hL) dLA_law_1001 ?_
  refine V_callV (rest := []) B hi hw hA hl.1 (M_FMO_share l hi S (xs (nI (6 * t) + 1).toNatClampNeg) (xs (nI (6 * t) + 2).toNatClampNeg) (xs (nI (6 * t) + 3).toNatClampNeg) (jc_share h6 hL S (xs (nI (6 * t) + 1).toNatClampNeg) (xs (nI (6 * t) + 2).toNatClampNeg) (xs (nI (6 * t) + 3).toNatClampNeg) hJ).2.1) (cw_FMO_share (Nat.le_of_ble_eq_true rfl) (Nat.le_of_ble_eq_true rfl) hc0 hs0) (by decide) rfl rfl wm_594 wm_595 wm_596 rfl (Nat.le_of_ble_eq_true rfl) dLA_law_1002 (kL (fun H locs hw => ?_))
  refine lv_pop2_2 hx hb dLA_law_1005 rfl ?_
  refine lv_goto (tgt := 1438) hx hb dLA_law_1006 (by decide) ?_
  exact W.widen (Nat.le_add_right _ _) (Nat.le_add_right _ _) (kk _ _ _ _ (jc_share h6 hL S (xs (nI (6 * t) + 1).toNatClampNeg) (xs (nI (6 * t) + 2).toNatClampNeg) (xs (nI (6 * t) + 3).toNatClampNeg) hJ).2.2.2 hw hl)
set_option maxHeartbeats 4000000 in
set_option maxRecDepth 100000 in
theorem LC_14 {p : Program} {e : Env} {s : State} {m : MethodId} {below : List Frame} {meth : Method} {c : Code} (l : Launch) {b L : Nat} {xs : Nat → Int32} (hL : L ≤ 3072) (C0 : lw_At p s m meth c b L xs) {ad : Nat → Nat} {cI cL : ClassId} {dC : Nat → ClassId} {dI : Nat → Nat → Nat} {A : Nat → Prop} {sa : Nat} (hfl : l.flags = flags0) (hi : adI ad) (B : Bs p s m #[Value.ref b] c RLA code 7 cI cL dC dI) (hA : ∀ q, AA ad s.heap.size q → A q) (hAf : ∀ q, A q → s.heap.size ≤ q) (hz0 : zz A s s.heap) (hstr : vk_R RHL sIX sTX sa s) {t cells slots : Nat} {Q : State → Prop} (h6 : 6 * t + 6 ≤ L) (hc : cells + 1 ≤ room_1.cells) (hs : slots + 6 ≤ room_1.slots) (S : hS) (H : Heap) (locs : List Loc) (ls : Array Slot) (hJ : Jv t S) (hw : Wd ad cI cL dC dI A s.heap S H locs) (hl : lv_has ls 7 [(0, .ref b), (1, .ref (ad 0)), (2, .ref (ad 49)), (3, .ref (ad 52)), (4, .int (nI (6 * t)))]) (kk : ∀ (S1 : hS) (H : Heap) (locs : List Loc) (ls : Array Slot), Jv (t + 1) S1 → Wd ad cI cL dC dI A s.heap S1 H locs → lv_has ls 7 [(0, .ref b), (1, .ref (ad 0)), (2, .ref (ad 49)), (3, .ref (ad 52)), (4, .int (nI (6 * t)))] → W p l e room_1 s m #[Value.ref b] below meth c H locs (cells + 1) (slots + 6) Q (F0 m 1438 ls [])) : W p l e room_1 s m #[Value.ref b] below meth c H locs cells slots Q (F0 m 1009 ls []) := by
  obtain ⟨hx, hb, hr, hml, hown, hts0, hX, hbl, hlocks, hgv⟩ := id C0
  have hts : ∀ w ∈ wALL, w.before #[Value.ref b] s = true := B.2.2.2.2.1
  have hbA : ¬ A b := fun h => absurd (hAf b h) (Nat.not_le.mpr hbl)
  have hc0 : cells ≤ room_1.cells := Nat.le_trans (Nat.le_add_right _ _) hc
  have hs0 : slots ≤ room_1.slots := Nat.le_trans (Nat.le_add_right _ _) hs
  refine lv_aload_n hx hb dLA_law_1009 rfl (lv_at hl 1 rfl) ?_
  refine V_callV (rest := []) B hi hw hA hl.1 (M_FHL_batch l hi S) (cw_FHL_batch (Nat.le_of_ble_eq_true rfl) (Nat.le_of_ble_eq_true rfl) hc0 hs0) (by decide) rfl rfl wm_597 wm_598 wm_599 rfl (Nat.le_of_ble_eq_true rfl) dLA_law_1010 (kI (fun H locs hw => ?_))
  refine lv_pop hx hb dLA_law_1013 rfl ?_
  refine lv_aload_n hx hb dLA_law_1014 rfl (lv_at hl 2 rfl) ?_
  refine V_callV (rest := []) B hi hw hA hl.1 (M_FMO_batch l hi (FHL_batch S).2) (cw_FMO_batch (Nat.le_of_ble_eq_true rfl) (Nat.le_of_ble_eq_true rfl) hc0 hs0) (by decide) rfl rfl wm_600 wm_601 wm_602 rfl (Nat.le_of_ble_eq_true rfl) dLA_law_1015 (kI (fun H locs hw => ?_))
  refine lv_pop hx hb dLA_law_1018 rfl ?_
  refine lv_goto (tgt := 1438) hx hb dLA_law_1019 (by decide) ?_
  exact W.widen (Nat.le_add_right _ _) (Nat.le_add_right _ _) (kk _ _ _ _ (jc_batch h6 hL S hJ).2.2.2 hw hl)
set_option maxHeartbeats 4000000 in
set_option maxRecDepth 100000 in
theorem LC_15 {p : Program} {e : Env} {s : State} {m : MethodId} {below : List Frame} {meth : Method} {c : Code} (l : Launch) {b L : Nat} {xs : Nat → Int32} (hL : L ≤ 3072) (C0 : lw_At p s m meth c b L xs) {ad : Nat → Nat} {cI cL : ClassId} {dC : Nat → ClassId} {dI : Nat → Nat → Nat} {A : Nat → Prop} {sa : Nat} (hfl : l.flags = flags0) (hi : adI ad) (B : Bs p s m #[Value.ref b] c RLA code 7 cI cL dC dI) (hA : ∀ q, AA ad s.heap.size q → A q) (hAf : ∀ q, A q → s.heap.size ≤ q) (hz0 : zz A s s.heap) (hstr : vk_R RHL sIX sTX sa s) {t cells slots : Nat} {Q : State → Prop} (h6 : 6 * t + 6 ≤ L) (hc : cells + 1 ≤ room_1.cells) (hs : slots + 6 ≤ room_1.slots) (S : hS) (H : Heap) (locs : List Loc) (ls : Array Slot) (hJ : Jv t S) (hw : Wd ad cI cL dC dI A s.heap S H locs) (hl : lv_has ls 7 [(0, .ref b), (1, .ref (ad 0)), (2, .ref (ad 49)), (3, .ref (ad 52)), (4, .int (nI (6 * t)))]) (kk : ∀ (S1 : hS) (H : Heap) (locs : List Loc) (ls : Array Slot), Jv (t + 1) S1 → Wd ad cI cL dC dI A s.heap S1 H locs → lv_has ls 7 [(0, .ref b), (1, .ref (ad 0)), (2, .ref (ad 49)), (3, .ref (ad 52)), (4, .int (nI (6 * t)))] → W p l e room_1 s m #[Value.ref b] below meth c H locs (cells + 1) (slots + 6) Q (F0 m 1438 ls [])) : W p l e room_1 s m #[Value.ref b] below meth c H locs cells slots Q (F0 m 1022 ls []) := by
  obtain ⟨hx, hb, hr, hml, hown, hts0, hX, hbl, hlocks, hgv⟩ := id C0
  have hts : ∀ w ∈ wALL, w.before #[Value.ref b] s = true := B.2.2.2.2.1
  have hbA : ¬ A b := fun h => absurd (hAf b h) (Nat.not_le.mpr hbl)
  have hc0 : cells ≤ room_1.cells := Nat.le_trans (Nat.le_add_right _ _) hc
  have hs0 : slots ≤ room_1.slots := Nat.le_trans (Nat.le_add_right _ _) hs
  refine lv_aload_n hx hb dLA_law_1022 rfl (lv_at hl 1 rfl) ?_
  refine lv_aload_n hx hb dLA_law_1023 rfl (lv_at hl 0 rfl) ?_
  refine lv_iload hx hb dLA_law_1024 (lv_at hl 4 rfl) ?_
  refine lv_iconst (v := 1) hx hb dLA_law_1026 (by decide) ?_
  refine lv_iadd hx hb dLA_law_1027 ?_
  refine va_sld hx hb hX hbl hbA hw.2.2 (ixs_1 h6 hL) dLA_law_1028 ?_
  refine lv_if_eq (tgt := 1036) hx hb dLA_law_1029 (by decide) (fun c1029 => ?_) (fun c1029 => ?_)
  · refine lv_iconst (v := 0) hx hb dLA_law_1036 (by decide) ?_
    refine V_callV (rest := []) B hi hw hA hl.1 (M_FHL_endBatch l hi S 0) (cw_FHL_endBatch (Nat.le_of_ble_eq_true rfl) (Nat.le_of_ble_eq_true rfl) hc0 hs0) (by decide) rfl rfl wm_603 wm_604 wm_605 rfl (Nat.le_of_ble_eq_true rfl) dLA_law_1037 (kI (fun H locs hw => ?_))
    refine lv_pop hx hb dLA_law_1040 rfl ?_
    refine lv_aload_n hx hb dLA_law_1041 rfl (lv_at hl 2 rfl) ?_
    refine lv_aload_n hx hb dLA_law_1042 rfl (lv_at hl 0 rfl) ?_
    refine lv_iload hx hb dLA_law_1043 (lv_at hl 4 rfl) ?_
    refine lv_iconst (v := 1) hx hb dLA_law_1045 (by decide) ?_
    refine lv_iadd hx hb dLA_law_1046 ?_
    refine va_sld hx hb hX hbl hbA hw.2.2 (ixs_1 h6 hL) dLA_law_1047 ?_
    refine lv_if_eq (tgt := 1055) hx hb dLA_law_1048 (by decide) (fun _ => ?_) (fun h => absurd c1029 h)
    refine lv_iconst (v := 0) hx hb dLA_law_1055 (by decide) ?_
    refine V_callV (rest := []) B hi hw hA hl.1 (M_FMO_endBatch l hi (FHL_endBatch S 0).2 0) (cw_FMO_endBatch (Nat.le_of_ble_eq_true rfl) (Nat.le_of_ble_eq_true rfl) hc0 hs0) (by decide) rfl rfl wm_606 wm_607 wm_608 rfl (Nat.le_of_ble_eq_true rfl) dLA_law_1056 (kI (fun H locs hw => ?_))
    refine lv_pop hx hb dLA_law_1059 rfl ?_
    refine lv_goto (tgt := 1438) hx hb dLA_law_1060 (by decide) ?_
    exact W.widen (Nat.le_add_right _ _) (Nat.le_add_right _ _) (kk _ _ _ _ (jc_endBatch h6 hL S 0 hJ).2.2.2 hw hl)
  · refine lv_iconst (v := 1) hx hb dLA_law_1032 (by decide) ?_
    refine lv_goto (tgt := 1037) hx hb dLA_law_1033 (by decide) ?_
    refine V_callV (rest := []) B hi hw hA hl.1 (M_FHL_endBatch l hi S 1) (cw_FHL_endBatch (Nat.le_of_ble_eq_true rfl) (Nat.le_of_ble_eq_true rfl) hc0 hs0) (by decide) rfl rfl wm_603 wm_604 wm_605 rfl (Nat.le_of_ble_eq_true rfl) dLA_law_1037 (kI (fun H locs hw => ?_))
    refine lv_pop hx hb dLA_law_1040 rfl ?_
    refine lv_aload_n hx hb dLA_law_1041 rfl (lv_at hl 2 rfl) ?_
    refine lv_aload_n hx hb dLA_law_1042 rfl (lv_at hl 0 rfl) ?_
    refine lv_iload hx hb dLA_law_1043 (lv_at hl 4 rfl) ?_
    refine lv_iconst (v := 1) hx hb dLA_law_1045 (by decide) ?_
    refine lv_iadd hx hb dLA_law_1046 ?_
    refine va_sld hx hb hX hbl hbA hw.2.2 (ixs_1 h6 hL) dLA_law_1047 ?_
    refine lv_if_eq (tgt := 1055) hx hb dLA_law_1048 (by decide) (fun h => absurd h c1029) (fun _ => ?_)
    refine lv_iconst (v := 1) hx hb dLA_law_1051 (by decide) ?_
    refine lv_goto (tgt := 1056) hx hb dLA_law_1052 (by decide) ?_
    refine V_callV (rest := []) B hi hw hA hl.1 (M_FMO_endBatch l hi (FHL_endBatch S 1).2 1) (cw_FMO_endBatch (Nat.le_of_ble_eq_true rfl) (Nat.le_of_ble_eq_true rfl) hc0 hs0) (by decide) rfl rfl wm_606 wm_607 wm_608 rfl (Nat.le_of_ble_eq_true rfl) dLA_law_1056 (kI (fun H locs hw => ?_))
    refine lv_pop hx hb dLA_law_1059 rfl ?_
    refine lv_goto (tgt := 1438) hx hb dLA_law_1060 (by decide) ?_
    exact W.widen (Nat.le_add_right _ _) (Nat.le_add_right _ _) (kk _ _ _ _ (jc_endBatch h6 hL S 1 hJ).2.2.2 hw hl)
set_option maxHeartbeats 4000000 in
set_option maxRecDepth 100000 in
theorem LC_16 {p : Program} {e : Env} {s : State} {m : MethodId} {below : List Frame} {meth : Method} {c : Code} (l : Launch) {b L : Nat} {xs : Nat → Int32} (hL : L ≤ 3072) (C0 : lw_At p s m meth c b L xs) {ad : Nat → Nat} {cI cL : ClassId} {dC : Nat → ClassId} {dI : Nat → Nat → Nat} {A : Nat → Prop} {sa : Nat} (hfl : l.flags = flags0) (hi : adI ad) (B : Bs p s m #[Value.ref b] c RLA code 7 cI cL dC dI) (hA : ∀ q, AA ad s.heap.size q → A q) (hAf : ∀ q, A q → s.heap.size ≤ q) (hz0 : zz A s s.heap) (hstr : vk_R RHL sIX sTX sa s) {t cells slots : Nat} {Q : State → Prop} (h6 : 6 * t + 6 ≤ L) (hc : cells + 1 ≤ room_1.cells) (hs : slots + 6 ≤ room_1.slots) (S : hS) (H : Heap) (locs : List Loc) (ls : Array Slot) (hJ : Jv t S) (hw : Wd ad cI cL dC dI A s.heap S H locs) (hl : lv_has ls 7 [(0, .ref b), (1, .ref (ad 0)), (2, .ref (ad 49)), (3, .ref (ad 52)), (4, .int (nI (6 * t)))]) (kk : ∀ (S1 : hS) (H : Heap) (locs : List Loc) (ls : Array Slot), Jv (t + 1) S1 → Wd ad cI cL dC dI A s.heap S1 H locs → lv_has ls 7 [(0, .ref b), (1, .ref (ad 0)), (2, .ref (ad 49)), (3, .ref (ad 52)), (4, .int (nI (6 * t)))] → W p l e room_1 s m #[Value.ref b] below meth c H locs (cells + 1) (slots + 6) Q (F0 m 1438 ls [])) : W p l e room_1 s m #[Value.ref b] below meth c H locs cells slots Q (F0 m 1063 ls []) := by
  obtain ⟨hx, hb, hr, hml, hown, hts0, hX, hbl, hlocks, hgv⟩ := id C0
  have hts : ∀ w ∈ wALL, w.before #[Value.ref b] s = true := B.2.2.2.2.1
  have hbA : ¬ A b := fun h => absurd (hAf b h) (Nat.not_le.mpr hbl)
  have hc0 : cells ≤ room_1.cells := Nat.le_trans (Nat.le_add_right _ _) hc
  have hs0 : slots ≤ room_1.slots := Nat.le_trans (Nat.le_add_right _ _) hs
  refine lv_aload_n hx hb dLA_law_1063 rfl (lv_at hl 1 rfl) ?_
  refine lv_aload_n hx hb dLA_law_1064 rfl (lv_at hl 0 rfl) ?_
  refine lv_iload hx hb dLA_law_1065 (lv_at hl 4 rfl) ?_
  refine lv_iconst (v := 1) hx hb dLA_law_1067 (by decide) ?_
  refine lv_iadd hx hb dLA_law_1068 ?_
  refine va_sld hx hb hX hbl hbA hw.2.2 (ixs_1 h6 hL) dLA_law_1069 ?_
  refine V_callV (rest := []) B hi hw hA hl.1 (M_FHL_closeMonth l hi S (xs (nI (6 * t) + 1).toNatClampNeg) (jc_closeMonth h6 hL S (xs (nI (6 * t) + 1).toNatClampNeg) hJ).1) (cw_FHL_closeMonth (Nat.le_of_ble_eq_true rfl) (Nat.le_of_ble_eq_true rfl) hc0 hs0) (by decide) rfl rfl wm_609 wm_610 wm_611 rfl (Nat.le_of_ble_eq_true rfl) dLA_law_1070 (kI (fun H locs hw => ?_))
  refine lv_pop hx hb dLA_law_1073 rfl ?_
  refine lv_aload_n hx hb dLA_law_1074 rfl (lv_at hl 2 rfl) ?_
  refine lv_aload_n hx hb dLA_law_1075 rfl (lv_at hl 0 rfl) ?_
  refine lv_iload hx hb dLA_law_1076 (lv_at hl 4 rfl) ?_
  refine lv_iconst (v := 1) hx hb dLA_law_1078 (by decide) ?_
  refine lv_iadd hx hb dLA_law_1079 ?_
  refine va_sld hx hb hX hbl hbA hw.2.2 (ixs_1 h6 hL) dLA_law_1080 ?_
  refine V_callV (rest := []) B hi hw hA hl.1 (M_FMO_closeMonth l hi (FHL_closeMonth S (xs (nI (6 * t) + 1).toNatClampNeg)).2 (xs (nI (6 * t) + 1).toNatClampNeg) (jc_closeMonth h6 hL S (xs (nI (6 * t) + 1).toNatClampNeg) hJ).2.1) (cw_FMO_closeMonth (Nat.le_of_ble_eq_true rfl) (Nat.le_of_ble_eq_true rfl) hc0 hs0) (by decide) rfl rfl wm_612 wm_613 wm_614 rfl (Nat.le_of_ble_eq_true rfl) dLA_law_1081 (kI (fun H locs hw => ?_))
  refine lv_pop hx hb dLA_law_1084 rfl ?_
  refine lv_goto (tgt := 1438) hx hb dLA_law_1085 (by decide) ?_
  exact W.widen (Nat.le_add_right _ _) (Nat.le_add_right _ _) (kk _ _ _ _ (jc_closeMonth h6 hL S (xs (nI (6 * t) + 1).toNatClampNeg) hJ).2.2.2 hw hl)
set_option maxHeartbeats 4000000 in
set_option maxRecDepth 100000 in
theorem LC_17 {p : Program} {e : Env} {s : State} {m : MethodId} {below : List Frame} {meth : Method} {c : Code} (l : Launch) {b L : Nat} {xs : Nat → Int32} (hL : L ≤ 3072) (C0 : lw_At p s m meth c b L xs) {ad : Nat → Nat} {cI cL : ClassId} {dC : Nat → ClassId} {dI : Nat → Nat → Nat} {A : Nat → Prop} {sa : Nat} (hfl : l.flags = flags0) (hi : adI ad) (B : Bs p s m #[Value.ref b] c RLA code 7 cI cL dC dI) (hA : ∀ q, AA ad s.heap.size q → A q) (hAf : ∀ q, A q → s.heap.size ≤ q) (hz0 : zz A s s.heap) (hstr : vk_R RHL sIX sTX sa s) {t cells slots : Nat} {Q : State → Prop} (h6 : 6 * t + 6 ≤ L) (hc : cells + 1 ≤ room_1.cells) (hs : slots + 6 ≤ room_1.slots) (S : hS) (H : Heap) (locs : List Loc) (ls : Array Slot) (hJ : Jv t S) (hw : Wd ad cI cL dC dI A s.heap S H locs) (hl : lv_has ls 7 [(0, .ref b), (1, .ref (ad 0)), (2, .ref (ad 49)), (3, .ref (ad 52)), (4, .int (nI (6 * t)))]) (kk : ∀ (S1 : hS) (H : Heap) (locs : List Loc) (ls : Array Slot), Jv (t + 1) S1 → Wd ad cI cL dC dI A s.heap S1 H locs → lv_has ls 7 [(0, .ref b), (1, .ref (ad 0)), (2, .ref (ad 49)), (3, .ref (ad 52)), (4, .int (nI (6 * t)))] → W p l e room_1 s m #[Value.ref b] below meth c H locs (cells + 1) (slots + 6) Q (F0 m 1438 ls [])) : W p l e room_1 s m #[Value.ref b] below meth c H locs cells slots Q (F0 m 1088 ls []) := by
  obtain ⟨hx, hb, hr, hml, hown, hts0, hX, hbl, hlocks, hgv⟩ := id C0
  have hts : ∀ w ∈ wALL, w.before #[Value.ref b] s = true := B.2.2.2.2.1
  have hbA : ¬ A b := fun h => absurd (hAf b h) (Nat.not_le.mpr hbl)
  have hc0 : cells ≤ room_1.cells := Nat.le_trans (Nat.le_add_right _ _) hc
  have hs0 : slots ≤ room_1.slots := Nat.le_trans (Nat.le_add_right _ _) hs
  refine lv_aload_n hx hb dLA_law_1088 rfl (lv_at hl 1 rfl) ?_
  refine lv_aload_n hx hb dLA_law_1089 rfl (lv_at hl 0 rfl) ?_
  refine lv_iload hx hb dLA_law_1090 (lv_at hl 4 rfl) ?_
  refine lv_iconst (v := 1) hx hb dLA_law_1092 (by decide) ?_
  refine lv_iadd hx hb dLA_law_1093 ?_
  refine va_sld hx hb hX hbl hbA hw.2.2 (ixs_1 h6 hL) dLA_law_1094 ?_
  refine lv_aload_n hx hb dLA_law_1095 rfl (lv_at hl 0 rfl) ?_
  refine lv_iload hx hb dLA_law_1096 (lv_at hl 4 rfl) ?_
  refine lv_iconst (v := 2) hx hb dLA_law_1098 (by decide) ?_
  refine lv_iadd hx hb dLA_law_1099 ?_
  refine va_sld hx hb hX hbl hbA hw.2.2 (ixs_2 h6 hL) dLA_law_1100 ?_
  refine lv_i2l hx hb dLA_law_1101 rfl ?_
  refine lv_bipush (v := 32) hx hb dLA_law_1102 (by decide) ?_
  refine lv_lshl hx hb dLA_law_1104 rfl ?_
  refine lv_aload_n hx hb dLA_law_1105 rfl (lv_at hl 0 rfl) ?_
  refine lv_iload hx hb dLA_law_1106 (lv_at hl 4 rfl) ?_
  refine lv_iconst (v := 3) hx hb dLA_law_1108 (by decide) ?_
  refine lv_iadd hx hb dLA_law_1109 ?_
  refine va_sld hx hb hX hbl hbA hw.2.2 (ixs_3 h6 hL) dLA_law_1110 ?_
  refine lv_i2l hx hb dLA_law_1111 rfl ?_
  refine lv_ldc2 (v := 4294967295) hx hb hown (hts _ wm_515) dLA_law_1112 ?_
  refine lv_land hx hb dLA_law_1115 ?_
  refine lv_lor hx hb dLA_law_1116 ?_
  refine V_callV (rest := []) B hi hw hA hl.1 (M_FHL_reverse l hi S (xs (nI (6 * t) + 1).toNatClampNeg) ((((xs (nI (6 * t) + 2).toNatClampNeg).toInt64) <<< ((32 : Int32).toInt64 &&& 63)) ||| (((xs (nI (6 * t) + 3).toNatClampNeg).toInt64) &&& 4294967295)) (jc_reverse h6 hL S (xs (nI (6 * t) + 1).toNatClampNeg) ((((xs (nI (6 * t) + 2).toNatClampNeg).toInt64) <<< ((32 : Int32).toInt64 &&& 63)) ||| (((xs (nI (6 * t) + 3).toNatClampNeg).toInt64) &&& 4294967295)) hJ).1) (cw_FHL_reverse (Nat.le_of_ble_eq_true rfl) (Nat.le_of_ble_eq_true rfl) hc0 hs0) (by decide) rfl rfl wm_615 wm_616 wm_617 rfl (Nat.le_of_ble_eq_true rfl) dLA_law_1117 (kI (fun H locs hw => ?_))
  refine lv_pop hx hb dLA_law_1120 rfl ?_
  refine lv_aload_n hx hb dLA_law_1121 rfl (lv_at hl 2 rfl) ?_
  refine lv_aload_n hx hb dLA_law_1122 rfl (lv_at hl 0 rfl) ?_
  refine lv_iload hx hb dLA_law_1123 (lv_at hl 4 rfl) ?_
  refine lv_iconst (v := 1) hx hb dLA_law_1125 (by decide) ?_
  refine lv_iadd hx hb dLA_law_1126 ?_
  refine va_sld hx hb hX hbl hbA hw.2.2 (ixs_1 h6 hL) dLA_law_1127 ?_
  refine lv_aload_n hx hb dLA_law_1128 rfl (lv_at hl 0 rfl) ?_
  refine lv_iload hx hb dLA_law_1129 (lv_at hl 4 rfl) ?_
  refine lv_iconst (v := 2) hx hb dLA_law_1131 (by decide) ?_
  refine lv_iadd hx hb dLA_law_1132 ?_
  refine va_sld hx hb hX hbl hbA hw.2.2 (ixs_2 h6 hL) dLA_law_1133 ?_
  refine lv_i2l hx hb dLA_law_1134 rfl ?_
  refine lv_bipush (v := 32) hx hb dLA_law_1135 (by decide) ?_
  refine lv_lshl hx hb dLA_law_1137 rfl ?_
  refine lv_aload_n hx hb dLA_law_1138 rfl (lv_at hl 0 rfl) ?_
  refine lv_iload hx hb dLA_law_1139 (lv_at hl 4 rfl) ?_
  refine lv_iconst (v := 3) hx hb dLA_law_1141 (by decide) ?_
  refine lv_iadd hx hb dLA_law_1142 ?_
  refine va_sld hx hb hX hbl hbA hw.2.2 (ixs_3 h6 hL) dLA_law_1143 ?_
  refine lv_i2l hx hb dLA_law_1144 rfl ?_
  refine lv_ldc2 (v := 4294967295) hx hb hown (hts _ wm_515) dLA_law_1145 ?_
  refine lv_land hx hb dLA_law_1148 ?_
  refine lv_lor hx hb dLA_law_1149 ?_
  refine V_callV (rest := []) B hi hw hA hl.1 (M_FMO_reverse l hi (FHL_reverse S (xs (nI (6 * t) + 1).toNatClampNeg) ((((xs (nI (6 * t) + 2).toNatClampNeg).toInt64) <<< ((32 : Int32).toInt64 &&& 63)) ||| (((xs (nI (6 * t) + 3).toNatClampNeg).toInt64) &&& 4294967295))).2 (xs (nI (6 * t) + 1).toNatClampNeg) ((((xs (nI (6 * t) + 2).toNatClampNeg).toInt64) <<< ((32 : Int32).toInt64 &&& 63)) ||| (((xs (nI (6 * t) + 3).toNatClampNeg).toInt64) &&& 4294967295)) (jc_reverse h6 hL S (xs (nI (6 * t) + 1).toNatClampNeg) ((((xs (nI (6 * t) + 2).toNatClampNeg).toInt64) <<< ((32 : Int32).toInt64 &&& 63)) ||| (((xs (nI (6 * t) + 3).toNatClampNeg).toInt64) &&& 4294967295)) hJ).2.1) (cw_FMO_reverse (Nat.le_of_ble_eq_true rfl) (Nat.le_of_ble_eq_true rfl) hc0 hs0) (by decide) rfl rfl wm_618 wm_619 wm_620 rfl (Nat.le_of_ble_eq_true rfl) dLA_law_1150 (kI (fun H locs hw => ?_))
  refine lv_pop hx hb dLA_law_1153 rfl ?_
  refine lv_goto (tgt := 1438) hx hb dLA_law_1154 (by decide) ?_
  exact W.widen (Nat.le_add_right _ _) (Nat.le_add_right _ _) (kk _ _ _ _ (jc_reverse h6 hL S (xs (nI (6 * t) + 1).toNatClampNeg) ((((xs (nI (6 * t) + 2).toNatClampNeg).toInt64) <<< ((32 : Int32).toInt64 &&& 63)) ||| (((xs (nI (6 * t) + 3).toNatClampNeg).toInt64) &&& 4294967295)) hJ).2.2.2 hw hl)
