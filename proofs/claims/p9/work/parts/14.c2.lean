set_option maxHeartbeats 4000000 in
set_option maxRecDepth 100000 in
theorem LC_12 {p : Program} {e : Env} {s : State} {m : MethodId} {below : List Frame} {meth : Method} {c : Code} (l : Launch) {b L : Nat} {xs : Nat → Int32} (hL : L ≤ 3072) (C0 : lw_At p s m meth c b L xs) {ad : Nat → Nat} {cI cL : ClassId} {dC : Nat → ClassId} {dI : Nat → Nat → Nat} {A : Nat → Prop} {sa : Nat} (hfl : l.flags = flags0) (hi : adI ad) (B : Bs p s m #[Value.ref b] c RLA code 7 cI cL dC dI) (hA : ∀ q, AA ad s.heap.size q → A q) (hAf : ∀ q, A q → s.heap.size ≤ q) (hz0 : zz A s s.heap) (hstr : vk_R RHL sIX sTX sa s) {t cells slots : Nat} {Q : State → Prop} (h6 : 6 * t + 6 ≤ L) (hc : cells + 1 ≤ room_1.cells) (hs : slots + 6 ≤ room_1.slots) (S : hS) (H : Heap) (locs : List Loc) (ls : Array Slot) (hJ : Jv t S) (hw : Wd ad cI cL dC dI A s.heap S H locs) (hl : lv_has ls 7 [(0, .ref b), (1, .ref (ad 0)), (2, .ref (ad 49)), (3, .ref (ad 52)), (4, .int (nI (6 * t)))]) (kk : ∀ (S1 : hS) (H : Heap) (locs : List Loc) (ls : Array Slot), Jv (t + 1) S1 → Wd ad cI cL dC dI A s.heap S1 H locs → lv_has ls 7 [(0, .ref b), (1, .ref (ad 0)), (2, .ref (ad 49)), (3, .ref (ad 52)), (4, .int (nI (6 * t)))] → W p l e room_1 s m #[Value.ref b] below meth c H locs (cells + 1) (slots + 6) Q (F0 m 1410 ls [])) : W p l e room_1 s m #[Value.ref b] below meth c H locs cells slots Q (F0 m 851 ls []) := by
  obtain ⟨hx, hb, hr, hml, hown, hts0, hX, hbl, hlocks, hgv⟩ := id C0
  have hts : ∀ w ∈ wALL, w.before #[Value.ref b] s = true := B.2.2.2.2.1
  have hbA : ¬ A b := fun h => absurd (hAf b h) (Nat.not_le.mpr hbl)
  have hc0 : cells ≤ room_1.cells := Nat.le_trans (Nat.le_add_right _ _) hc
  have hs0 : slots ≤ room_1.slots := Nat.le_trans (Nat.le_add_right _ _) hs
  refine lv_aload_n hx hb dLA_law_851 rfl (lv_at hl 1 rfl) ?_
  refine lv_aload_n hx hb dLA_law_852 rfl (lv_at hl 0 rfl) ?_
  refine lv_iload hx hb dLA_law_853 (lv_at hl 4 rfl) ?_
  refine lv_iconst (v := 1) hx hb dLA_law_855 (by decide) ?_
  refine lv_iadd hx hb dLA_law_856 ?_
  refine va_sld hx hb hX hbl hbA hw.2.2 (ixs_1 h6 hL) dLA_law_857 ?_
  refine lv_aload_n hx hb dLA_law_858 rfl (lv_at hl 0 rfl) ?_
  refine lv_iload hx hb dLA_law_859 (lv_at hl 4 rfl) ?_
  refine lv_iconst (v := 2) hx hb dLA_law_861 (by decide) ?_
  refine lv_iadd hx hb dLA_law_862 ?_
  refine va_sld hx hb hX hbl hbA hw.2.2 (ixs_2 h6 hL) dLA_law_863 ?_
  refine lv_aload_n hx hb dLA_law_864 rfl (lv_at hl 0 rfl) ?_
  refine lv_iload hx hb dLA_law_865 (lv_at hl 4 rfl) ?_
  refine lv_iconst (v := 3) hx hb dLA_law_867 (by decide) ?_
  refine lv_iadd hx hb dLA_law_868 ?_
  refine va_sld hx hb hX hbl hbA hw.2.2 (ixs_3 h6 hL) dLA_law_869 ?_
  refine lv_i2l hx hb dLA_law_870 rfl ?_
  refine lv_bipush (v := 32) hx hb dLA_law_871 (by decide) ?_
  refine lv_lshl hx hb dLA_law_873 rfl ?_
  refine lv_aload_n hx hb dLA_law_874 rfl (lv_at hl 0 rfl) ?_
  refine lv_iload hx hb dLA_law_875 (lv_at hl 4 rfl) ?_
  refine lv_iconst (v := 4) hx hb dLA_law_877 (by decide) ?_
  refine lv_iadd hx hb dLA_law_878 ?_
  refine va_sld hx hb hX hbl hbA hw.2.2 (ixs_4 h6 hL) dLA_law_879 ?_
  refine lv_i2l hx hb dLA_law_880 rfl ?_
  refine lv_ldc2 (v := 4294967295) hx hb hown (hts _ wm_514) dLA_law_881 ?_
  refine lv_land hx hb dLA_law_884 ?_
  refine lv_lor hx hb dLA_law_885 ?_
  refine V_callV (rest := []) B hi hw hA hl.1 (M_FHL_move l hi S (xs (nI (6 * t) + 1).toNatClampNeg) (xs (nI (6 * t) + 2).toNatClampNeg) ((((xs (nI (6 * t) + 3).toNatClampNeg).toInt64) <<< ((32 : Int32).toInt64 &&& 63)) ||| (((xs (nI (6 * t) + 4).toNatClampNeg).toInt64) &&& 4294967295)) (jc_move h6 hL S (xs (nI (6 * t) + 1).toNatClampNeg) (xs (nI (6 * t) + 2).toNatClampNeg) ((((xs (nI (6 * t) + 3).toNatClampNeg).toInt64) <<< ((32 : Int32).toInt64 &&& 63)) ||| (((xs (nI (6 * t) + 4).toNatClampNeg).toInt64) &&& 4294967295)) hJ).1) (cw_FHL_move (Nat.le_of_ble_eq_true rfl) (Nat.le_of_ble_eq_true rfl) hc0 hs0) (by decide) rfl rfl wm_581 wm_582 wm_583 rfl (Nat.le_of_ble_eq_true rfl) dLA_law_886 (kI (fun H locs hw => ?_))
  refine lv_pop hx hb dLA_law_889 rfl ?_
  refine lv_aload_n hx hb dLA_law_890 rfl (lv_at hl 2 rfl) ?_
  refine lv_aload_n hx hb dLA_law_891 rfl (lv_at hl 0 rfl) ?_
  refine lv_iload hx hb dLA_law_892 (lv_at hl 4 rfl) ?_
  refine lv_iconst (v := 1) hx hb dLA_law_894 (by decide) ?_
  refine lv_iadd hx hb dLA_law_895 ?_
  refine va_sld hx hb hX hbl hbA hw.2.2 (ixs_1 h6 hL) dLA_law_896 ?_
  refine lv_aload_n hx hb dLA_law_897 rfl (lv_at hl 0 rfl) ?_
  refine lv_iload hx hb dLA_law_898 (lv_at hl 4 rfl) ?_
  refine lv_iconst (v := 2) hx hb dLA_law_900 (by decide) ?_
  refine lv_iadd hx hb dLA_law_901 ?_
  refine va_sld hx hb hX hbl hbA hw.2.2 (ixs_2 h6 hL) dLA_law_902 ?_
  refine lv_aload_n hx hb dLA_law_903 rfl (lv_at hl 0 rfl) ?_
  refine lv_iload hx hb dLA_law_904 (lv_at hl 4 rfl) ?_
  refine lv_iconst (v := 3) hx hb dLA_law_906 (by decide) ?_
  refine lv_iadd hx hb dLA_law_907 ?_
  refine va_sld hx hb hX hbl hbA hw.2.2 (ixs_3 h6 hL) dLA_law_908 ?_
  refine lv_i2l hx hb dLA_law_909 rfl ?_
  refine lv_bipush (v := 32) hx hb dLA_law_910 (by decide) ?_
  refine lv_lshl hx hb dLA_law_912 rfl ?_
  refine lv_aload_n hx hb dLA_law_913 rfl (lv_at hl 0 rfl) ?_
  refine lv_iload hx hb dLA_law_914 (lv_at hl 4 rfl) ?_
  refine lv_iconst (v := 4) hx hb dLA_law_916 (by decide) ?_
  refine lv_iadd hx hb dLA_law_917 ?_
  refine va_sld hx hb hX hbl hbA hw.2.2 (ixs_4 h6 hL) dLA_law_918 ?_
  refine lv_i2l hx hb dLA_law_919 rfl ?_
  refine lv_ldc2 (v := 4294967295) hx hb hown (hts _ wm_514) dLA_law_920 ?_
  refine lv_land hx hb dLA_law_923 ?_
  refine lv_lor hx hb dLA_law_924 ?_
  refine V_callV (rest := []) B hi hw hA hl.1 (M_FMO_move l hi (FHL_move S (xs (nI (6 * t) + 1).toNatClampNeg) (xs (nI (6 * t) + 2).toNatClampNeg) ((((xs (nI (6 * t) + 3).toNatClampNeg).toInt64) <<< ((32 : Int32).toInt64 &&& 63)) ||| (((xs (nI (6 * t) + 4).toNatClampNeg).toInt64) &&& 4294967295))).2 (xs (nI (6 * t) + 1).toNatClampNeg) (xs (nI (6 * t) + 2).toNatClampNeg) ((((xs (nI (6 * t) + 3).toNatClampNeg).toInt64) <<< ((32 : Int32).toInt64 &&& 63)) ||| (((xs (nI (6 * t) + 4).toNatClampNeg).toInt64) &&& 4294967295)) (jc_move h6 hL S (xs (nI (6 * t) + 1).toNatClampNeg) (xs (nI (6 * t) + 2).toNatClampNeg) ((((xs (nI (6 * t) + 3).toNatClampNeg).toInt64) <<< ((32 : Int32).toInt64 &&& 63)) ||| (((xs (nI (6 * t) + 4).toNatClampNeg).toInt64) &&& 4294967295)) hJ).2.1) (cw_FMO_move (Nat.le_of_ble_eq_true rfl) (Nat.le_of_ble_eq_true rfl) hc0 hs0) (by decide) rfl rfl wm_584 wm_585 wm_586 rfl (Nat.le_of_ble_eq_true rfl) dLA_law_925 (kI (fun H locs hw => ?_))
  refine lv_pop hx hb dLA_law_928 rfl ?_
  refine lv_goto (tgt := 1410) hx hb dLA_law_929 (by decide) ?_
  exact W.widen (Nat.le_add_right _ _) (Nat.le_add_right _ _) (kk _ _ _ _ (jc_move h6 hL S (xs (nI (6 * t) + 1).toNatClampNeg) (xs (nI (6 * t) + 2).toNatClampNeg) ((((xs (nI (6 * t) + 3).toNatClampNeg).toInt64) <<< ((32 : Int32).toInt64 &&& 63)) ||| (((xs (nI (6 * t) + 4).toNatClampNeg).toInt64) &&& 4294967295)) hJ).2.2.2 hw hl)
set_option maxHeartbeats 4000000 in
set_option maxRecDepth 100000 in
theorem LC_13 {p : Program} {e : Env} {s : State} {m : MethodId} {below : List Frame} {meth : Method} {c : Code} (l : Launch) {b L : Nat} {xs : Nat → Int32} (hL : L ≤ 3072) (C0 : lw_At p s m meth c b L xs) {ad : Nat → Nat} {cI cL : ClassId} {dC : Nat → ClassId} {dI : Nat → Nat → Nat} {A : Nat → Prop} {sa : Nat} (hfl : l.flags = flags0) (hi : adI ad) (B : Bs p s m #[Value.ref b] c RLA code 7 cI cL dC dI) (hA : ∀ q, AA ad s.heap.size q → A q) (hAf : ∀ q, A q → s.heap.size ≤ q) (hz0 : zz A s s.heap) (hstr : vk_R RHL sIX sTX sa s) {t cells slots : Nat} {Q : State → Prop} (h6 : 6 * t + 6 ≤ L) (hc : cells + 1 ≤ room_1.cells) (hs : slots + 6 ≤ room_1.slots) (S : hS) (H : Heap) (locs : List Loc) (ls : Array Slot) (hJ : Jv t S) (hw : Wd ad cI cL dC dI A s.heap S H locs) (hl : lv_has ls 7 [(0, .ref b), (1, .ref (ad 0)), (2, .ref (ad 49)), (3, .ref (ad 52)), (4, .int (nI (6 * t)))]) (kk : ∀ (S1 : hS) (H : Heap) (locs : List Loc) (ls : Array Slot), Jv (t + 1) S1 → Wd ad cI cL dC dI A s.heap S1 H locs → lv_has ls 7 [(0, .ref b), (1, .ref (ad 0)), (2, .ref (ad 49)), (3, .ref (ad 52)), (4, .int (nI (6 * t)))] → W p l e room_1 s m #[Value.ref b] below meth c H locs (cells + 1) (slots + 6) Q (F0 m 1410 ls [])) : W p l e room_1 s m #[Value.ref b] below meth c H locs cells slots Q (F0 m 932 ls []) := by
  obtain ⟨hx, hb, hr, hml, hown, hts0, hX, hbl, hlocks, hgv⟩ := id C0
  have hts : ∀ w ∈ wALL, w.before #[Value.ref b] s = true := B.2.2.2.2.1
  have hbA : ¬ A b := fun h => absurd (hAf b h) (Nat.not_le.mpr hbl)
  have hc0 : cells ≤ room_1.cells := Nat.le_trans (Nat.le_add_right _ _) hc
  have hs0 : slots ≤ room_1.slots := Nat.le_trans (Nat.le_add_right _ _) hs
  refine lv_aload_n hx hb dLA_law_932 rfl (lv_at hl 1 rfl) ?_
  refine lv_aload_n hx hb dLA_law_933 rfl (lv_at hl 0 rfl) ?_
  refine lv_iload hx hb dLA_law_934 (lv_at hl 4 rfl) ?_
  refine lv_iconst (v := 1) hx hb dLA_law_936 (by decide) ?_
  refine lv_iadd hx hb dLA_law_937 ?_
  refine va_sld hx hb hX hbl hbA hw.2.2 (ixs_1 h6 hL) dLA_law_938 ?_
  refine lv_aload_n hx hb dLA_law_939 rfl (lv_at hl 0 rfl) ?_
  refine lv_iload hx hb dLA_law_940 (lv_at hl 4 rfl) ?_
  refine lv_iconst (v := 2) hx hb dLA_law_942 (by decide) ?_
  refine lv_iadd hx hb dLA_law_943 ?_
  refine va_sld hx hb hX hbl hbA hw.2.2 (ixs_2 h6 hL) dLA_law_944 ?_
  refine lv_aload_n hx hb dLA_law_945 rfl (lv_at hl 0 rfl) ?_
  refine lv_iload hx hb dLA_law_946 (lv_at hl 4 rfl) ?_
  refine lv_iconst (v := 3) hx hb dLA_law_948 (by decide) ?_
  refine lv_iadd hx hb dLA_law_949 ?_
  refine va_sld hx hb hX hbl hbA hw.2.2 (ixs_3 h6 hL) dLA_law_950 ?_
  refine V_callV (rest := []) B hi hw hA hl.1 (M_FHL_share l hi S (xs (nI (6 * t) + 1).toNatClampNeg) (xs (nI (6 * t) + 2).toNatClampNeg) (xs (nI (6 * t) + 3).toNatClampNeg) (jc_share h6 hL S (xs (nI (6 * t) + 1).toNatClampNeg) (xs (nI (6 * t) + 2).toNatClampNeg) (xs (nI (6 * t) + 3).toNatClampNeg) hJ).1) (cw_FHL_share (Nat.le_of_ble_eq_true rfl) (Nat.le_of_ble_eq_true rfl) hc0 hs0) (by decide) rfl rfl wm_587 wm_588 wm_589 rfl (Nat.le_of_ble_eq_true rfl) dLA_law_951 (kL (fun H locs hw => ?_))
  refine lv_pop2_2 hx hb dLA_law_954 rfl ?_
  refine lv_aload_n hx hb dLA_law_955 rfl (lv_at hl 2 rfl) ?_
  refine lv_aload_n hx hb dLA_law_956 rfl (lv_at hl 0 rfl) ?_
  refine lv_iload hx hb dLA_law_957 (lv_at hl 4 rfl) ?_
  refine lv_iconst (v := 1) hx hb dLA_law_959 (by decide) ?_
  refine lv_iadd hx hb dLA_law_960 ?_
  refine va_sld hx hb hX hbl hbA hw.2.2 (ixs_1 h6 hL) dLA_law_961 ?_
  refine lv_aload_n hx hb dLA_law_962 rfl (lv_at hl 0 rfl) ?_
  refine lv_iload hx hb dLA_law_963 (lv_at hl 4 rfl) ?_
  refine lv_iconst (v := 2) hx hb dLA_law_965 (by decide) ?_
  refine lv_iadd hx hb dLA_law_966 ?_
  refine va_sld hx hb hX hbl hbA hw.2.2 (ixs_2 h6 hL) dLA_law_967 ?_
  refine lv_aload_n hx hb dLA_law_968 rfl (lv_at hl 0 rfl) ?_
  refine lv_iload hx hb dLA_law_969 (lv_at hl 4 rfl) ?_
  refine lv_iconst (v := 3) hx hb dLA_law_971 (by decide) ?_
  refine lv_iadd hx hb dLA_law_972 ?_
  refine va_sld hx hb hX hbl hbA hw.2.2 (ixs_3 h6 hL) dLA_law_973 ?_
  refine V_callV (rest := []) B hi hw hA hl.1 (M_FMO_share l hi S (xs (nI (6 * t) + 1).toNatClampNeg) (xs (nI (6 * t) + 2).toNatClampNeg) (xs (nI (6 * t) + 3).toNatClampNeg) (jc_share h6 hL S (xs (nI (6 * t) + 1).toNatClampNeg) (xs (nI (6 * t) + 2).toNatClampNeg) (xs (nI (6 * t) + 3).toNatClampNeg) hJ).2.1) (cw_FMO_share (Nat.le_of_ble_eq_true rfl) (Nat.le_of_ble_eq_true rfl) hc0 hs0) (by decide) rfl rfl wm_590 wm_591 wm_592 rfl (Nat.le_of_ble_eq_true rfl) dLA_law_974 (kL (fun H locs hw => ?_))
  refine lv_pop2_2 hx hb dLA_law_977 rfl ?_
  refine lv_goto (tgt := 1410) hx hb dLA_law_978 (by decide) ?_
  exact W.widen (Nat.le_add_right _ _) (Nat.le_add_right _ _) (kk _ _ _ _ (jc_share h6 hL S (xs (nI (6 * t) + 1).toNatClampNeg) (xs (nI (6 * t) + 2).toNatClampNeg) (xs (nI (6 * t) + 3).toNatClampNeg) hJ).2.2.2 hw hl)
set_option maxHeartbeats 4000000 in
set_option maxRecDepth 100000 in
theorem LC_14 {p : Program} {e : Env} {s : State} {m : MethodId} {below : List Frame} {meth : Method} {c : Code} (l : Launch) {b L : Nat} {xs : Nat → Int32} (hL : L ≤ 3072) (C0 : lw_At p s m meth c b L xs) {ad : Nat → Nat} {cI cL : ClassId} {dC : Nat → ClassId} {dI : Nat → Nat → Nat} {A : Nat → Prop} {sa : Nat} (hfl : l.flags = flags0) (hi : adI ad) (B : Bs p s m #[Value.ref b] c RLA code 7 cI cL dC dI) (hA : ∀ q, AA ad s.heap.size q → A q) (hAf : ∀ q, A q → s.heap.size ≤ q) (hz0 : zz A s s.heap) (hstr : vk_R RHL sIX sTX sa s) {t cells slots : Nat} {Q : State → Prop} (h6 : 6 * t + 6 ≤ L) (hc : cells + 1 ≤ room_1.cells) (hs : slots + 6 ≤ room_1.slots) (S : hS) (H : Heap) (locs : List Loc) (ls : Array Slot) (hJ : Jv t S) (hw : Wd ad cI cL dC dI A s.heap S H locs) (hl : lv_has ls 7 [(0, .ref b), (1, .ref (ad 0)), (2, .ref (ad 49)), (3, .ref (ad 52)), (4, .int (nI (6 * t)))]) (kk : ∀ (S1 : hS) (H : Heap) (locs : List Loc) (ls : Array Slot), Jv (t + 1) S1 → Wd ad cI cL dC dI A s.heap S1 H locs → lv_has ls 7 [(0, .ref b), (1, .ref (ad 0)), (2, .ref (ad 49)), (3, .ref (ad 52)), (4, .int (nI (6 * t)))] → W p l e room_1 s m #[Value.ref b] below meth c H locs (cells + 1) (slots + 6) Q (F0 m 1410 ls [])) : W p l e room_1 s m #[Value.ref b] below meth c H locs cells slots Q (F0 m 981 ls []) := by
  obtain ⟨hx, hb, hr, hml, hown, hts0, hX, hbl, hlocks, hgv⟩ := id C0
  have hts : ∀ w ∈ wALL, w.before #[Value.ref b] s = true := B.2.2.2.2.1
  have hbA : ¬ A b := fun h => absurd (hAf b h) (Nat.not_le.mpr hbl)
  have hc0 : cells ≤ room_1.cells := Nat.le_trans (Nat.le_add_right _ _) hc
  have hs0 : slots ≤ room_1.slots := Nat.le_trans (Nat.le_add_right _ _) hs
  refine lv_aload_n hx hb dLA_law_981 rfl (lv_at hl 1 rfl) ?_
  refine V_callV (rest := []) B hi hw hA hl.1 (M_FHL_batch l hi S) (cw_FHL_batch (Nat.le_of_ble_eq_true rfl) (Nat.le_of_ble_eq_true rfl) hc0 hs0) (by decide) rfl rfl wm_593 wm_594 wm_595 rfl (Nat.le_of_ble_eq_true rfl) dLA_law_982 (kI (fun H locs hw => ?_))
  refine lv_pop hx hb dLA_law_985 rfl ?_
  refine lv_aload_n hx hb dLA_law_986 rfl (lv_at hl 2 rfl) ?_
  refine V_callV (rest := []) B hi hw hA hl.1 (M_FMO_batch l hi (FHL_batch S).2) (cw_FMO_batch (Nat.le_of_ble_eq_true rfl) (Nat.le_of_ble_eq_true rfl) hc0 hs0) (by decide) rfl rfl wm_596 wm_597 wm_598 rfl (Nat.le_of_ble_eq_true rfl) dLA_law_987 (kI (fun H locs hw => ?_))
  refine lv_pop hx hb dLA_law_990 rfl ?_
  refine lv_goto (tgt := 1410) hx hb dLA_law_991 (by decide) ?_
  exact W.widen (Nat.le_add_right _ _) (Nat.le_add_right _ _) (kk _ _ _ _ (jc_batch h6 hL S hJ).2.2.2 hw hl)
set_option maxHeartbeats 4000000 in
set_option maxRecDepth 100000 in
theorem LC_15 {p : Program} {e : Env} {s : State} {m : MethodId} {below : List Frame} {meth : Method} {c : Code} (l : Launch) {b L : Nat} {xs : Nat → Int32} (hL : L ≤ 3072) (C0 : lw_At p s m meth c b L xs) {ad : Nat → Nat} {cI cL : ClassId} {dC : Nat → ClassId} {dI : Nat → Nat → Nat} {A : Nat → Prop} {sa : Nat} (hfl : l.flags = flags0) (hi : adI ad) (B : Bs p s m #[Value.ref b] c RLA code 7 cI cL dC dI) (hA : ∀ q, AA ad s.heap.size q → A q) (hAf : ∀ q, A q → s.heap.size ≤ q) (hz0 : zz A s s.heap) (hstr : vk_R RHL sIX sTX sa s) {t cells slots : Nat} {Q : State → Prop} (h6 : 6 * t + 6 ≤ L) (hc : cells + 1 ≤ room_1.cells) (hs : slots + 6 ≤ room_1.slots) (S : hS) (H : Heap) (locs : List Loc) (ls : Array Slot) (hJ : Jv t S) (hw : Wd ad cI cL dC dI A s.heap S H locs) (hl : lv_has ls 7 [(0, .ref b), (1, .ref (ad 0)), (2, .ref (ad 49)), (3, .ref (ad 52)), (4, .int (nI (6 * t)))]) (kk : ∀ (S1 : hS) (H : Heap) (locs : List Loc) (ls : Array Slot), Jv (t + 1) S1 → Wd ad cI cL dC dI A s.heap S1 H locs → lv_has ls 7 [(0, .ref b), (1, .ref (ad 0)), (2, .ref (ad 49)), (3, .ref (ad 52)), (4, .int (nI (6 * t)))] → W p l e room_1 s m #[Value.ref b] below meth c H locs (cells + 1) (slots + 6) Q (F0 m 1410 ls [])) : W p l e room_1 s m #[Value.ref b] below meth c H locs cells slots Q (F0 m 994 ls []) := by
  obtain ⟨hx, hb, hr, hml, hown, hts0, hX, hbl, hlocks, hgv⟩ := id C0
  have hts : ∀ w ∈ wALL, w.before #[Value.ref b] s = true := B.2.2.2.2.1
  have hbA : ¬ A b := fun h => absurd (hAf b h) (Nat.not_le.mpr hbl)
  have hc0 : cells ≤ room_1.cells := Nat.le_trans (Nat.le_add_right _ _) hc
  have hs0 : slots ≤ room_1.slots := Nat.le_trans (Nat.le_add_right _ _) hs
  refine lv_aload_n hx hb dLA_law_994 rfl (lv_at hl 1 rfl) ?_
  refine lv_aload_n hx hb dLA_law_995 rfl (lv_at hl 0 rfl) ?_
  refine lv_iload hx hb dLA_law_996 (lv_at hl 4 rfl) ?_
  refine lv_iconst (v := 1) hx hb dLA_law_998 (by decide) ?_
  refine lv_iadd hx hb dLA_law_999 ?_
  refine va_sld hx hb hX hbl hbA hw.2.2 (ixs_1 h6 hL) dLA_law_1000 ?_
  refine lv_if_eq (tgt := 1008) hx hb dLA_law_1001 (by decide) (fun c1001 => ?_) (fun c1001 => ?_)
  · refine lv_iconst (v := 0) hx hb dLA_law_1008 (by decide) ?_
    refine V_callV (rest := []) B hi hw hA hl.1 (M_FHL_endBatch l hi S 0) (cw_FHL_endBatch (Nat.le_of_ble_eq_true rfl) (Nat.le_of_ble_eq_true rfl) hc0 hs0) (by decide) rfl rfl wm_599 wm_600 wm_601 rfl (Nat.le_of_ble_eq_true rfl) dLA_law_1009 (kI (fun H locs hw => ?_))
    refine lv_pop hx hb dLA_law_1012 rfl ?_
    refine lv_aload_n hx hb dLA_law_1013 rfl (lv_at hl 2 rfl) ?_
    refine lv_aload_n hx hb dLA_law_1014 rfl (lv_at hl 0 rfl) ?_
    refine lv_iload hx hb dLA_law_1015 (lv_at hl 4 rfl) ?_
    refine lv_iconst (v := 1) hx hb dLA_law_1017 (by decide) ?_
    refine lv_iadd hx hb dLA_law_1018 ?_
    refine va_sld hx hb hX hbl hbA hw.2.2 (ixs_1 h6 hL) dLA_law_1019 ?_
    refine lv_if_eq (tgt := 1027) hx hb dLA_law_1020 (by decide) (fun _ => ?_) (fun h => absurd c1001 h)
    refine lv_iconst (v := 0) hx hb dLA_law_1027 (by decide) ?_
    refine V_callV (rest := []) B hi hw hA hl.1 (M_FMO_endBatch l hi (FHL_endBatch S 0).2 0) (cw_FMO_endBatch (Nat.le_of_ble_eq_true rfl) (Nat.le_of_ble_eq_true rfl) hc0 hs0) (by decide) rfl rfl wm_602 wm_603 wm_604 rfl (Nat.le_of_ble_eq_true rfl) dLA_law_1028 (kI (fun H locs hw => ?_))
    refine lv_pop hx hb dLA_law_1031 rfl ?_
    refine lv_goto (tgt := 1410) hx hb dLA_law_1032 (by decide) ?_
    exact W.widen (Nat.le_add_right _ _) (Nat.le_add_right _ _) (kk _ _ _ _ (jc_endBatch h6 hL S 0 hJ).2.2.2 hw hl)
  · refine lv_iconst (v := 1) hx hb dLA_law_1004 (by decide) ?_
    refine lv_goto (tgt := 1009) hx hb dLA_law_1005 (by decide) ?_
    refine V_callV (rest := []) B hi hw hA hl.1 (M_FHL_endBatch l hi S 1) (cw_FHL_endBatch (Nat.le_of_ble_eq_true rfl) (Nat.le_of_ble_eq_true rfl) hc0 hs0) (by decide) rfl rfl wm_599 wm_600 wm_601 rfl (Nat.le_of_ble_eq_true rfl) dLA_law_1009 (kI (fun H locs hw => ?_))
    refine lv_pop hx hb dLA_law_1012 rfl ?_
    refine lv_aload_n hx hb dLA_law_1013 rfl (lv_at hl 2 rfl) ?_
    refine lv_aload_n hx hb dLA_law_1014 rfl (lv_at hl 0 rfl) ?_
    refine lv_iload hx hb dLA_law_1015 (lv_at hl 4 rfl) ?_
    refine lv_iconst (v := 1) hx hb dLA_law_1017 (by decide) ?_
    refine lv_iadd hx hb dLA_law_1018 ?_
    refine va_sld hx hb hX hbl hbA hw.2.2 (ixs_1 h6 hL) dLA_law_1019 ?_
    refine lv_if_eq (tgt := 1027) hx hb dLA_law_1020 (by decide) (fun h => absurd h c1001) (fun _ => ?_)
    refine lv_iconst (v := 1) hx hb dLA_law_1023 (by decide) ?_
    refine lv_goto (tgt := 1028) hx hb dLA_law_1024 (by decide) ?_
    refine V_callV (rest := []) B hi hw hA hl.1 (M_FMO_endBatch l hi (FHL_endBatch S 1).2 1) (cw_FMO_endBatch (Nat.le_of_ble_eq_true rfl) (Nat.le_of_ble_eq_true rfl) hc0 hs0) (by decide) rfl rfl wm_602 wm_603 wm_604 rfl (Nat.le_of_ble_eq_true rfl) dLA_law_1028 (kI (fun H locs hw => ?_))
    refine lv_pop hx hb dLA_law_1031 rfl ?_
    refine lv_goto (tgt := 1410) hx hb dLA_law_1032 (by decide) ?_
    exact W.widen (Nat.le_add_right _ _) (Nat.le_add_right _ _) (kk _ _ _ _ (jc_endBatch h6 hL S 1 hJ).2.2.2 hw hl)
set_option maxHeartbeats 4000000 in
set_option maxRecDepth 100000 in
theorem LC_16 {p : Program} {e : Env} {s : State} {m : MethodId} {below : List Frame} {meth : Method} {c : Code} (l : Launch) {b L : Nat} {xs : Nat → Int32} (hL : L ≤ 3072) (C0 : lw_At p s m meth c b L xs) {ad : Nat → Nat} {cI cL : ClassId} {dC : Nat → ClassId} {dI : Nat → Nat → Nat} {A : Nat → Prop} {sa : Nat} (hfl : l.flags = flags0) (hi : adI ad) (B : Bs p s m #[Value.ref b] c RLA code 7 cI cL dC dI) (hA : ∀ q, AA ad s.heap.size q → A q) (hAf : ∀ q, A q → s.heap.size ≤ q) (hz0 : zz A s s.heap) (hstr : vk_R RHL sIX sTX sa s) {t cells slots : Nat} {Q : State → Prop} (h6 : 6 * t + 6 ≤ L) (hc : cells + 1 ≤ room_1.cells) (hs : slots + 6 ≤ room_1.slots) (S : hS) (H : Heap) (locs : List Loc) (ls : Array Slot) (hJ : Jv t S) (hw : Wd ad cI cL dC dI A s.heap S H locs) (hl : lv_has ls 7 [(0, .ref b), (1, .ref (ad 0)), (2, .ref (ad 49)), (3, .ref (ad 52)), (4, .int (nI (6 * t)))]) (kk : ∀ (S1 : hS) (H : Heap) (locs : List Loc) (ls : Array Slot), Jv (t + 1) S1 → Wd ad cI cL dC dI A s.heap S1 H locs → lv_has ls 7 [(0, .ref b), (1, .ref (ad 0)), (2, .ref (ad 49)), (3, .ref (ad 52)), (4, .int (nI (6 * t)))] → W p l e room_1 s m #[Value.ref b] below meth c H locs (cells + 1) (slots + 6) Q (F0 m 1410 ls [])) : W p l e room_1 s m #[Value.ref b] below meth c H locs cells slots Q (F0 m 1035 ls []) := by
  obtain ⟨hx, hb, hr, hml, hown, hts0, hX, hbl, hlocks, hgv⟩ := id C0
  have hts : ∀ w ∈ wALL, w.before #[Value.ref b] s = true := B.2.2.2.2.1
  have hbA : ¬ A b := fun h => absurd (hAf b h) (Nat.not_le.mpr hbl)
  have hc0 : cells ≤ room_1.cells := Nat.le_trans (Nat.le_add_right _ _) hc
  have hs0 : slots ≤ room_1.slots := Nat.le_trans (Nat.le_add_right _ _) hs
  refine lv_aload_n hx hb dLA_law_1035 rfl (lv_at hl 1 rfl) ?_
  refine lv_aload_n hx hb dLA_law_1036 rfl (lv_at hl 0 rfl) ?_
  refine lv_iload hx hb dLA_law_1037 (lv_at hl 4 rfl) ?_
  refine lv_iconst (v := 1) hx hb dLA_law_1039 (by decide) ?_
  refine lv_iadd hx hb dLA_law_1040 ?_
  refine va_sld hx hb hX hbl hbA hw.2.2 (ixs_1 h6 hL) dLA_law_1041 ?_
  refine V_callV (rest := []) B hi hw hA hl.1 (M_FHL_closeMonth l hi S (xs (nI (6 * t) + 1).toNatClampNeg) (jc_closeMonth h6 hL S (xs (nI (6 * t) + 1).toNatClampNeg) hJ).1) (cw_FHL_closeMonth (Nat.le_of_ble_eq_true rfl) (Nat.le_of_ble_eq_true rfl) hc0 hs0) (by decide) rfl rfl wm_605 wm_606 wm_607 rfl (Nat.le_of_ble_eq_true rfl) dLA_law_1042 (kI (fun H locs hw => ?_))
  refine lv_pop hx hb dLA_law_1045 rfl ?_
  refine lv_aload_n hx hb dLA_law_1046 rfl (lv_at hl 2 rfl) ?_
  refine lv_aload_n hx hb dLA_law_1047 rfl (lv_at hl 0 rfl) ?_
  refine lv_iload hx hb dLA_law_1048 (lv_at hl 4 rfl) ?_
  refine lv_iconst (v := 1) hx hb dLA_law_1050 (by decide) ?_
  refine lv_iadd hx hb dLA_law_1051 ?_
  refine va_sld hx hb hX hbl hbA hw.2.2 (ixs_1 h6 hL) dLA_law_1052 ?_
  refine V_callV (rest := []) B hi hw hA hl.1 (M_FMO_closeMonth l hi (FHL_closeMonth S (xs (nI (6 * t) + 1).toNatClampNeg)).2 (xs (nI (6 * t) + 1).toNatClampNeg) (jc_closeMonth h6 hL S (xs (nI (6 * t) + 1).toNatClampNeg) hJ).2.1) (cw_FMO_closeMonth (Nat.le_of_ble_eq_true rfl) (Nat.le_of_ble_eq_true rfl) hc0 hs0) (by decide) rfl rfl wm_608 wm_609 wm_610 rfl (Nat.le_of_ble_eq_true rfl) dLA_law_1053 (kI (fun H locs hw => ?_))
  refine lv_pop hx hb dLA_law_1056 rfl ?_
  refine lv_goto (tgt := 1410) hx hb dLA_law_1057 (by decide) ?_
  exact W.widen (Nat.le_add_right _ _) (Nat.le_add_right _ _) (kk _ _ _ _ (jc_closeMonth h6 hL S (xs (nI (6 * t) + 1).toNatClampNeg) hJ).2.2.2 hw hl)
set_option maxHeartbeats 4000000 in
set_option maxRecDepth 100000 in
theorem LC_17 {p : Program} {e : Env} {s : State} {m : MethodId} {below : List Frame} {meth : Method} {c : Code} (l : Launch) {b L : Nat} {xs : Nat → Int32} (hL : L ≤ 3072) (C0 : lw_At p s m meth c b L xs) {ad : Nat → Nat} {cI cL : ClassId} {dC : Nat → ClassId} {dI : Nat → Nat → Nat} {A : Nat → Prop} {sa : Nat} (hfl : l.flags = flags0) (hi : adI ad) (B : Bs p s m #[Value.ref b] c RLA code 7 cI cL dC dI) (hA : ∀ q, AA ad s.heap.size q → A q) (hAf : ∀ q, A q → s.heap.size ≤ q) (hz0 : zz A s s.heap) (hstr : vk_R RHL sIX sTX sa s) {t cells slots : Nat} {Q : State → Prop} (h6 : 6 * t + 6 ≤ L) (hc : cells + 1 ≤ room_1.cells) (hs : slots + 6 ≤ room_1.slots) (S : hS) (H : Heap) (locs : List Loc) (ls : Array Slot) (hJ : Jv t S) (hw : Wd ad cI cL dC dI A s.heap S H locs) (hl : lv_has ls 7 [(0, .ref b), (1, .ref (ad 0)), (2, .ref (ad 49)), (3, .ref (ad 52)), (4, .int (nI (6 * t)))]) (kk : ∀ (S1 : hS) (H : Heap) (locs : List Loc) (ls : Array Slot), Jv (t + 1) S1 → Wd ad cI cL dC dI A s.heap S1 H locs → lv_has ls 7 [(0, .ref b), (1, .ref (ad 0)), (2, .ref (ad 49)), (3, .ref (ad 52)), (4, .int (nI (6 * t)))] → W p l e room_1 s m #[Value.ref b] below meth c H locs (cells + 1) (slots + 6) Q (F0 m 1410 ls [])) : W p l e room_1 s m #[Value.ref b] below meth c H locs cells slots Q (F0 m 1060 ls []) := by
  obtain ⟨hx, hb, hr, hml, hown, hts0, hX, hbl, hlocks, hgv⟩ := id C0
  have hts : ∀ w ∈ wALL, w.before #[Value.ref b] s = true := B.2.2.2.2.1
  have hbA : ¬ A b := fun h => absurd (hAf b h) (Nat.not_le.mpr hbl)
  have hc0 : cells ≤ room_1.cells := Nat.le_trans (Nat.le_add_right _ _) hc
  have hs0 : slots ≤ room_1.slots := Nat.le_trans (Nat.le_add_right _ _) hs
  refine lv_aload_n hx hb dLA_law_1060 rfl (lv_at hl 1 rfl) ?_
  refine lv_aload_n hx hb dLA_law_1061 rfl (lv_at hl 0 rfl) ?_
  refine lv_iload hx hb dLA_law_1062 (lv_at hl 4 rfl) ?_
  refine lv_iconst (v := 1) hx hb dLA_law_1064 (by decide) ?_
  refine lv_iadd hx hb dLA_law_1065 ?_
  refine va_sld hx hb hX hbl hbA hw.2.2 (ixs_1 h6 hL) dLA_law_1066 ?_
  refine lv_aload_n hx hb dLA_law_1067 rfl (lv_at hl 0 rfl) ?_
  refine lv_iload hx hb dLA_law_1068 (lv_at hl 4 rfl) ?_
  refine lv_iconst (v := 2) hx hb dLA_law_1070 (by decide) ?_
  refine lv_iadd hx hb dLA_law_1071 ?_
  refine va_sld hx hb hX hbl hbA hw.2.2 (ixs_2 h6 hL) dLA_law_1072 ?_
  refine lv_i2l hx hb dLA_law_1073 rfl ?_
  refine lv_bipush (v := 32) hx hb dLA_law_1074 (by decide) ?_
  refine lv_lshl hx hb dLA_law_1076 rfl ?_
  refine lv_aload_n hx hb dLA_law_1077 rfl (lv_at hl 0 rfl) ?_
  refine lv_iload hx hb dLA_law_1078 (lv_at hl 4 rfl) ?_
  refine lv_iconst (v := 3) hx hb dLA_law_1080 (by decide) ?_
  refine lv_iadd hx hb dLA_law_1081 ?_
  refine va_sld hx hb hX hbl hbA hw.2.2 (ixs_3 h6 hL) dLA_law_1082 ?_
  refine lv_i2l hx hb dLA_law_1083 rfl ?_
  refine lv_ldc2 (v := 4294967295) hx hb hown (hts _ wm_514) dLA_law_1084 ?_
  refine lv_land hx hb dLA_law_1087 ?_
  refine lv_lor hx hb dLA_law_1088 ?_
  refine V_callV (rest := []) B hi hw hA hl.1 (M_FHL_reverse l hi S (xs (nI (6 * t) + 1).toNatClampNeg) ((((xs (nI (6 * t) + 2).toNatClampNeg).toInt64) <<< ((32 : Int32).toInt64 &&& 63)) ||| (((xs (nI (6 * t) + 3).toNatClampNeg).toInt64) &&& 4294967295)) (jc_reverse h6 hL S (xs (nI (6 * t) + 1).toNatClampNeg) ((((xs (nI (6 * t) + 2).toNatClampNeg).toInt64) <<< ((32 : Int32).toInt64 &&& 63)) ||| (((xs (nI (6 * t) + 3).toNatClampNeg).toInt64) &&& 4294967295)) hJ).1) (cw_FHL_reverse (Nat.le_of_ble_eq_true rfl) (Nat.le_of_ble_eq_true rfl) hc0 hs0) (by decide) rfl rfl wm_611 wm_612 wm_613 rfl (Nat.le_of_ble_eq_true rfl) dLA_law_1089 (kI (fun H locs hw => ?_))
  refine lv_pop hx hb dLA_law_1092 rfl ?_
  refine lv_aload_n hx hb dLA_law_1093 rfl (lv_at hl 2 rfl) ?_
  refine lv_aload_n hx hb dLA_law_1094 rfl (lv_at hl 0 rfl) ?_
  refine lv_iload hx hb dLA_law_1095 (lv_at hl 4 rfl) ?_
  refine lv_iconst (v := 1) hx hb dLA_law_1097 (by decide) ?_
  refine lv_iadd hx hb dLA_law_1098 ?_
  refine va_sld hx hb hX hbl hbA hw.2.2 (ixs_1 h6 hL) dLA_law_1099 ?_
  refine lv_aload_n hx hb dLA_law_1100 rfl (lv_at hl 0 rfl) ?_
  refine lv_iload hx hb dLA_law_1101 (lv_at hl 4 rfl) ?_
  refine lv_iconst (v := 2) hx hb dLA_law_1103 (by decide) ?_
  refine lv_iadd hx hb dLA_law_1104 ?_
  refine va_sld hx hb hX hbl hbA hw.2.2 (ixs_2 h6 hL) dLA_law_1105 ?_
  refine lv_i2l hx hb dLA_law_1106 rfl ?_
  refine lv_bipush (v := 32) hx hb dLA_law_1107 (by decide) ?_
  refine lv_lshl hx hb dLA_law_1109 rfl ?_
  refine lv_aload_n hx hb dLA_law_1110 rfl (lv_at hl 0 rfl) ?_
  refine lv_iload hx hb dLA_law_1111 (lv_at hl 4 rfl) ?_
  refine lv_iconst (v := 3) hx hb dLA_law_1113 (by decide) ?_
  refine lv_iadd hx hb dLA_law_1114 ?_
  refine va_sld hx hb hX hbl hbA hw.2.2 (ixs_3 h6 hL) dLA_law_1115 ?_
  refine lv_i2l hx hb dLA_law_1116 rfl ?_
  refine lv_ldc2 (v := 4294967295) hx hb hown (hts _ wm_514) dLA_law_1117 ?_
  refine lv_land hx hb dLA_law_1120 ?_
  refine lv_lor hx hb dLA_law_1121 ?_
  refine V_callV (rest := []) B hi hw hA hl.1 (M_FMO_reverse l hi (FHL_reverse S (xs (nI (6 * t) + 1).toNatClampNeg) ((((xs (nI (6 * t) + 2).toNatClampNeg).toInt64) <<< ((32 : Int32).toInt64 &&& 63)) ||| (((xs (nI (6 * t) + 3).toNatClampNeg).toInt64) &&& 4294967295))).2 (xs (nI (6 * t) + 1).toNatClampNeg) ((((xs (nI (6 * t) + 2).toNatClampNeg).toInt64) <<< ((32 : Int32).toInt64 &&& 63)) ||| (((xs (nI (6 * t) + 3).toNatClampNeg).toInt64) &&& 4294967295)) (jc_reverse h6 hL S (xs (nI (6 * t) + 1).toNatClampNeg) ((((xs (nI (6 * t) + 2).toNatClampNeg).toInt64) <<< ((32 : Int32).toInt64 &&& 63)) ||| (((xs (nI (6 * t) + 3).toNatClampNeg).toInt64) &&& 4294967295)) hJ).2.1) (cw_FMO_reverse (Nat.le_of_ble_eq_true rfl) (Nat.le_of_ble_eq_true rfl) hc0 hs0) (by decide) rfl rfl wm_614 wm_615 wm_616 rfl (Nat.le_of_ble_eq_true rfl) dLA_law_1122 (kI (fun H locs hw => ?_))
  refine lv_pop hx hb dLA_law_1125 rfl ?_
  refine lv_goto (tgt := 1410) hx hb dLA_law_1126 (by decide) ?_
  exact W.widen (Nat.le_add_right _ _) (Nat.le_add_right _ _) (kk _ _ _ _ (jc_reverse h6 hL S (xs (nI (6 * t) + 1).toNatClampNeg) ((((xs (nI (6 * t) + 2).toNatClampNeg).toInt64) <<< ((32 : Int32).toInt64 &&& 63)) ||| (((xs (nI (6 * t) + 3).toNatClampNeg).toInt64) &&& 4294967295)) hJ).2.2.2 hw hl)
