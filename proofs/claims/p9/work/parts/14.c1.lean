set_option maxHeartbeats 4000000 in
set_option maxRecDepth 100000 in
theorem LC_6 {p : Program} {e : Env} {s : State} {m : MethodId} {below : List Frame} {meth : Method} {c : Code} (l : Launch) {b L : Nat} {xs : Nat → Int32} (hL : L ≤ 3072) (C0 : lw_At p s m meth c b L xs) {ad : Nat → Nat} {cI cL : ClassId} {dC : Nat → ClassId} {dI : Nat → Nat → Nat} {A : Nat → Prop} {sa : Nat} (hfl : l.flags = flags0) (hi : adI ad) (B : Bs p s m #[Value.ref b] c RLA code 7 cI cL dC dI) (hA : ∀ q, AA ad s.heap.size q → A q) (hAf : ∀ q, A q → s.heap.size ≤ q) (hz0 : zz A s s.heap) (hstr : vk_R RHL sIX sTX sa s) {t cells slots : Nat} {Q : State → Prop} (h6 : 6 * t + 6 ≤ L) (hc : cells + 1 ≤ room_1.cells) (hs : slots + 6 ≤ room_1.slots) (S : hS) (H : Heap) (locs : List Loc) (ls : Array Slot) (hJ : Jv t S) (hw : Wd ad cI cL dC dI A s.heap S H locs) (hl : lv_has ls 7 [(0, .ref b), (1, .ref (ad 0)), (2, .ref (ad 49)), (3, .ref (ad 52)), (4, .int (nI (6 * t)))]) (kk : ∀ (S1 : hS) (H : Heap) (locs : List Loc) (ls : Array Slot), Jv (t + 1) S1 → Wd ad cI cL dC dI A s.heap S1 H locs → lv_has ls 7 [(0, .ref b), (1, .ref (ad 0)), (2, .ref (ad 49)), (3, .ref (ad 52)), (4, .int (nI (6 * t)))] → W p l e room_1 s m #[Value.ref b] below meth c H locs (cells + 1) (slots + 6) Q (F0 m 1410 ls [])) : W p l e room_1 s m #[Value.ref b] below meth c H locs cells slots Q (F0 m 521 ls []) := by
  obtain ⟨hx, hb, hr, hml, hown, hts0, hX, hbl, hlocks, hgv⟩ := id C0
  have hts : ∀ w ∈ wALL, w.before #[Value.ref b] s = true := B.2.2.2.2.1
  have hbA : ¬ A b := fun h => absurd (hAf b h) (Nat.not_le.mpr hbl)
  have hc0 : cells ≤ room_1.cells := Nat.le_trans (Nat.le_add_right _ _) hc
  have hs0 : slots ≤ room_1.slots := Nat.le_trans (Nat.le_add_right _ _) hs
  refine lv_aload_n hx hb dLA_law_521 rfl (lv_at hl 1 rfl) ?_
  refine lv_aload_n hx hb dLA_law_522 rfl (lv_at hl 0 rfl) ?_
  refine lv_iload hx hb dLA_law_523 (lv_at hl 4 rfl) ?_
  refine lv_iconst (v := 1) hx hb dLA_law_525 (by decide) ?_
  refine lv_iadd hx hb dLA_law_526 ?_
  refine va_sld hx hb hX hbl hbA hw.2.2 (ixs_1 h6 hL) dLA_law_527 ?_
  refine lv_aload_n hx hb dLA_law_528 rfl (lv_at hl 0 rfl) ?_
  refine lv_iload hx hb dLA_law_529 (lv_at hl 4 rfl) ?_
  refine lv_iconst (v := 2) hx hb dLA_law_531 (by decide) ?_
  refine lv_iadd hx hb dLA_law_532 ?_
  refine va_sld hx hb hX hbl hbA hw.2.2 (ixs_2 h6 hL) dLA_law_533 ?_
  refine V_callV (rest := []) B hi hw hA hl.1 (M_FHL_item l hi S (xs (nI (6 * t) + 1).toNatClampNeg) (xs (nI (6 * t) + 2).toNatClampNeg) (jc_item h6 hL S (xs (nI (6 * t) + 1).toNatClampNeg) (xs (nI (6 * t) + 2).toNatClampNeg) hJ).1) (cw_FHL_item (Nat.le_of_ble_eq_true rfl) (Nat.le_of_ble_eq_true rfl) hc0 hs0) (by decide) rfl rfl wm_545 wm_546 wm_547 rfl (Nat.le_of_ble_eq_true rfl) dLA_law_534 (kL (fun H locs hw => ?_))
  refine lv_pop2_2 hx hb dLA_law_537 rfl ?_
  refine lv_aload_n hx hb dLA_law_538 rfl (lv_at hl 2 rfl) ?_
  refine lv_aload_n hx hb dLA_law_539 rfl (lv_at hl 0 rfl) ?_
  refine lv_iload hx hb dLA_law_540 (lv_at hl 4 rfl) ?_
  refine lv_iconst (v := 1) hx hb dLA_law_542 (by decide) ?_
  refine lv_iadd hx hb dLA_law_543 ?_
  refine va_sld hx hb hX hbl hbA hw.2.2 (ixs_1 h6 hL) dLA_law_544 ?_
  refine lv_aload_n hx hb dLA_law_545 rfl (lv_at hl 0 rfl) ?_
  refine lv_iload hx hb dLA_law_546 (lv_at hl 4 rfl) ?_
  refine lv_iconst (v := 2) hx hb dLA_law_548 (by decide) ?_
  refine lv_iadd hx hb dLA_law_549 ?_
  refine va_sld hx hb hX hbl hbA hw.2.2 (ixs_2 h6 hL) dLA_law_550 ?_
  refine V_callV (rest := []) B hi hw hA hl.1 (M_FMO_item l hi S (xs (nI (6 * t) + 1).toNatClampNeg) (xs (nI (6 * t) + 2).toNatClampNeg) (jc_item h6 hL S (xs (nI (6 * t) + 1).toNatClampNeg) (xs (nI (6 * t) + 2).toNatClampNeg) hJ).2.1) (cw_FMO_item (Nat.le_of_ble_eq_true rfl) (Nat.le_of_ble_eq_true rfl) hc0 hs0) (by decide) rfl rfl wm_548 wm_549 wm_550 rfl (Nat.le_of_ble_eq_true rfl) dLA_law_551 (kL (fun H locs hw => ?_))
  refine lv_pop2_2 hx hb dLA_law_554 rfl ?_
  refine lv_goto (tgt := 1410) hx hb dLA_law_555 (by decide) ?_
  exact W.widen (Nat.le_add_right _ _) (Nat.le_add_right _ _) (kk _ _ _ _ (jc_item h6 hL S (xs (nI (6 * t) + 1).toNatClampNeg) (xs (nI (6 * t) + 2).toNatClampNeg) hJ).2.2.2 hw hl)
set_option maxHeartbeats 4000000 in
set_option maxRecDepth 100000 in
theorem LC_7 {p : Program} {e : Env} {s : State} {m : MethodId} {below : List Frame} {meth : Method} {c : Code} (l : Launch) {b L : Nat} {xs : Nat → Int32} (hL : L ≤ 3072) (C0 : lw_At p s m meth c b L xs) {ad : Nat → Nat} {cI cL : ClassId} {dC : Nat → ClassId} {dI : Nat → Nat → Nat} {A : Nat → Prop} {sa : Nat} (hfl : l.flags = flags0) (hi : adI ad) (B : Bs p s m #[Value.ref b] c RLA code 7 cI cL dC dI) (hA : ∀ q, AA ad s.heap.size q → A q) (hAf : ∀ q, A q → s.heap.size ≤ q) (hz0 : zz A s s.heap) (hstr : vk_R RHL sIX sTX sa s) {t cells slots : Nat} {Q : State → Prop} (h6 : 6 * t + 6 ≤ L) (hc : cells + 1 ≤ room_1.cells) (hs : slots + 6 ≤ room_1.slots) (S : hS) (H : Heap) (locs : List Loc) (ls : Array Slot) (hJ : Jv t S) (hw : Wd ad cI cL dC dI A s.heap S H locs) (hl : lv_has ls 7 [(0, .ref b), (1, .ref (ad 0)), (2, .ref (ad 49)), (3, .ref (ad 52)), (4, .int (nI (6 * t)))]) (kk : ∀ (S1 : hS) (H : Heap) (locs : List Loc) (ls : Array Slot), Jv (t + 1) S1 → Wd ad cI cL dC dI A s.heap S1 H locs → lv_has ls 7 [(0, .ref b), (1, .ref (ad 0)), (2, .ref (ad 49)), (3, .ref (ad 52)), (4, .int (nI (6 * t)))] → W p l e room_1 s m #[Value.ref b] below meth c H locs (cells + 1) (slots + 6) Q (F0 m 1410 ls [])) : W p l e room_1 s m #[Value.ref b] below meth c H locs cells slots Q (F0 m 558 ls []) := by
  obtain ⟨hx, hb, hr, hml, hown, hts0, hX, hbl, hlocks, hgv⟩ := id C0
  have hts : ∀ w ∈ wALL, w.before #[Value.ref b] s = true := B.2.2.2.2.1
  have hbA : ¬ A b := fun h => absurd (hAf b h) (Nat.not_le.mpr hbl)
  have hc0 : cells ≤ room_1.cells := Nat.le_trans (Nat.le_add_right _ _) hc
  have hs0 : slots ≤ room_1.slots := Nat.le_trans (Nat.le_add_right _ _) hs
  refine lv_aload_n hx hb dLA_law_558 rfl (lv_at hl 1 rfl) ?_
  refine lv_aload_n hx hb dLA_law_559 rfl (lv_at hl 0 rfl) ?_
  refine lv_iload hx hb dLA_law_560 (lv_at hl 4 rfl) ?_
  refine lv_iconst (v := 1) hx hb dLA_law_562 (by decide) ?_
  refine lv_iadd hx hb dLA_law_563 ?_
  refine va_sld hx hb hX hbl hbA hw.2.2 (ixs_1 h6 hL) dLA_law_564 ?_
  refine lv_aload_n hx hb dLA_law_565 rfl (lv_at hl 0 rfl) ?_
  refine lv_iload hx hb dLA_law_566 (lv_at hl 4 rfl) ?_
  refine lv_iconst (v := 2) hx hb dLA_law_568 (by decide) ?_
  refine lv_iadd hx hb dLA_law_569 ?_
  refine va_sld hx hb hX hbl hbA hw.2.2 (ixs_2 h6 hL) dLA_law_570 ?_
  refine V_callV (rest := []) B hi hw hA hl.1 (M_FHL_opened l hi S (xs (nI (6 * t) + 1).toNatClampNeg) (xs (nI (6 * t) + 2).toNatClampNeg) (jc_opened h6 hL S (xs (nI (6 * t) + 1).toNatClampNeg) (xs (nI (6 * t) + 2).toNatClampNeg) hJ).1) (cw_FHL_opened (Nat.le_of_ble_eq_true rfl) (Nat.le_of_ble_eq_true rfl) hc0 hs0) (by decide) rfl rfl wm_551 wm_552 wm_553 rfl (Nat.le_of_ble_eq_true rfl) dLA_law_571 (kI (fun H locs hw => ?_))
  refine lv_aload_n hx hb dLA_law_574 rfl (lv_at hl 2 rfl) ?_
  refine lv_aload_n hx hb dLA_law_575 rfl (lv_at hl 0 rfl) ?_
  refine lv_iload hx hb dLA_law_576 (lv_at hl 4 rfl) ?_
  refine lv_iconst (v := 1) hx hb dLA_law_578 (by decide) ?_
  refine lv_iadd hx hb dLA_law_579 ?_
  refine va_sld hx hb hX hbl hbA hw.2.2 (ixs_1 h6 hL) dLA_law_580 ?_
  refine lv_aload_n hx hb dLA_law_581 rfl (lv_at hl 0 rfl) ?_
  refine lv_iload hx hb dLA_law_582 (lv_at hl 4 rfl) ?_
  refine lv_iconst (v := 2) hx hb dLA_law_584 (by decide) ?_
  refine lv_iadd hx hb dLA_law_585 ?_
  refine va_sld hx hb hX hbl hbA hw.2.2 (ixs_2 h6 hL) dLA_law_586 ?_
  refine V_callV (rest := [.int (FHL_opened S (xs (nI (6 * t) + 1).toNatClampNeg) (xs (nI (6 * t) + 2).toNatClampNeg))]) B hi hw hA hl.1 (M_FMO_opened l hi S (xs (nI (6 * t) + 1).toNatClampNeg) (xs (nI (6 * t) + 2).toNatClampNeg) (jc_opened h6 hL S (xs (nI (6 * t) + 1).toNatClampNeg) (xs (nI (6 * t) + 2).toNatClampNeg) hJ).2.1) (cw_FMO_opened (Nat.le_of_ble_eq_true rfl) (Nat.le_of_ble_eq_true rfl) hc0 hs0) (by decide) rfl rfl wm_554 wm_555 wm_556 rfl (Nat.le_of_ble_eq_true rfl) dLA_law_587 (kI (fun H locs hw => ?_))
  refine lv_icmp_eq (tgt := 1410) hx hb dLA_law_590 (by decide) (fun _ => ?_) (fun h => absurd (jc_opened h6 hL S (xs (nI (6 * t) + 1).toNatClampNeg) (xs (nI (6 * t) + 2).toNatClampNeg) hJ).2.2.1 h)
  exact W.widen (Nat.le_add_right _ _) (Nat.le_add_right _ _) (kk _ _ _ _ (jc_opened h6 hL S (xs (nI (6 * t) + 1).toNatClampNeg) (xs (nI (6 * t) + 2).toNatClampNeg) hJ).2.2.2 hw hl)
set_option maxHeartbeats 4000000 in
set_option maxRecDepth 100000 in
theorem LC_8 {p : Program} {e : Env} {s : State} {m : MethodId} {below : List Frame} {meth : Method} {c : Code} (l : Launch) {b L : Nat} {xs : Nat → Int32} (hL : L ≤ 3072) (C0 : lw_At p s m meth c b L xs) {ad : Nat → Nat} {cI cL : ClassId} {dC : Nat → ClassId} {dI : Nat → Nat → Nat} {A : Nat → Prop} {sa : Nat} (hfl : l.flags = flags0) (hi : adI ad) (B : Bs p s m #[Value.ref b] c RLA code 7 cI cL dC dI) (hA : ∀ q, AA ad s.heap.size q → A q) (hAf : ∀ q, A q → s.heap.size ≤ q) (hz0 : zz A s s.heap) (hstr : vk_R RHL sIX sTX sa s) {t cells slots : Nat} {Q : State → Prop} (h6 : 6 * t + 6 ≤ L) (hc : cells + 1 ≤ room_1.cells) (hs : slots + 6 ≤ room_1.slots) (S : hS) (H : Heap) (locs : List Loc) (ls : Array Slot) (hJ : Jv t S) (hw : Wd ad cI cL dC dI A s.heap S H locs) (hl : lv_has ls 7 [(0, .ref b), (1, .ref (ad 0)), (2, .ref (ad 49)), (3, .ref (ad 52)), (4, .int (nI (6 * t)))]) (kk : ∀ (S1 : hS) (H : Heap) (locs : List Loc) (ls : Array Slot), Jv (t + 1) S1 → Wd ad cI cL dC dI A s.heap S1 H locs → lv_has ls 7 [(0, .ref b), (1, .ref (ad 0)), (2, .ref (ad 49)), (3, .ref (ad 52)), (4, .int (nI (6 * t)))] → W p l e room_1 s m #[Value.ref b] below meth c H locs (cells + 1) (slots + 6) Q (F0 m 1410 ls [])) : W p l e room_1 s m #[Value.ref b] below meth c H locs cells slots Q (F0 m 595 ls []) := by
  obtain ⟨hx, hb, hr, hml, hown, hts0, hX, hbl, hlocks, hgv⟩ := id C0
  have hts : ∀ w ∈ wALL, w.before #[Value.ref b] s = true := B.2.2.2.2.1
  have hbA : ¬ A b := fun h => absurd (hAf b h) (Nat.not_le.mpr hbl)
  have hc0 : cells ≤ room_1.cells := Nat.le_trans (Nat.le_add_right _ _) hc
  have hs0 : slots ≤ room_1.slots := Nat.le_trans (Nat.le_add_right _ _) hs
  refine lv_aload_n hx hb dLA_law_595 rfl (lv_at hl 1 rfl) ?_
  refine lv_aload_n hx hb dLA_law_596 rfl (lv_at hl 0 rfl) ?_
  refine lv_iload hx hb dLA_law_597 (lv_at hl 4 rfl) ?_
  refine lv_iconst (v := 1) hx hb dLA_law_599 (by decide) ?_
  refine lv_iadd hx hb dLA_law_600 ?_
  refine va_sld hx hb hX hbl hbA hw.2.2 (ixs_1 h6 hL) dLA_law_601 ?_
  refine lv_aload_n hx hb dLA_law_602 rfl (lv_at hl 0 rfl) ?_
  refine lv_iload hx hb dLA_law_603 (lv_at hl 4 rfl) ?_
  refine lv_iconst (v := 2) hx hb dLA_law_605 (by decide) ?_
  refine lv_iadd hx hb dLA_law_606 ?_
  refine va_sld hx hb hX hbl hbA hw.2.2 (ixs_2 h6 hL) dLA_law_607 ?_
  refine lv_i2l hx hb dLA_law_608 rfl ?_
  refine lv_bipush (v := 32) hx hb dLA_law_609 (by decide) ?_
  refine lv_lshl hx hb dLA_law_611 rfl ?_
  refine lv_aload_n hx hb dLA_law_612 rfl (lv_at hl 0 rfl) ?_
  refine lv_iload hx hb dLA_law_613 (lv_at hl 4 rfl) ?_
  refine lv_iconst (v := 3) hx hb dLA_law_615 (by decide) ?_
  refine lv_iadd hx hb dLA_law_616 ?_
  refine va_sld hx hb hX hbl hbA hw.2.2 (ixs_3 h6 hL) dLA_law_617 ?_
  refine lv_i2l hx hb dLA_law_618 rfl ?_
  refine lv_ldc2 (v := 4294967295) hx hb hown (hts _ wm_514) dLA_law_619 ?_
  refine lv_land hx hb dLA_law_622 ?_
  refine lv_lor hx hb dLA_law_623 ?_
  refine V_callV (rest := []) B hi hw hA hl.1 (M_FHL_dun l hi S (xs (nI (6 * t) + 1).toNatClampNeg) ((((xs (nI (6 * t) + 2).toNatClampNeg).toInt64) <<< ((32 : Int32).toInt64 &&& 63)) ||| (((xs (nI (6 * t) + 3).toNatClampNeg).toInt64) &&& 4294967295)) (jc_dun h6 hL S (xs (nI (6 * t) + 1).toNatClampNeg) ((((xs (nI (6 * t) + 2).toNatClampNeg).toInt64) <<< ((32 : Int32).toInt64 &&& 63)) ||| (((xs (nI (6 * t) + 3).toNatClampNeg).toInt64) &&& 4294967295)) hJ).1) (cw_FHL_dun (Nat.le_of_ble_eq_true rfl) (Nat.le_of_ble_eq_true rfl) hc0 hs0) (by decide) rfl rfl wm_557 wm_558 wm_559 rfl (Nat.le_of_ble_eq_true rfl) dLA_law_624 (kI (fun H locs hw => ?_))
  refine lv_pop hx hb dLA_law_627 rfl ?_
  refine lv_aload_n hx hb dLA_law_628 rfl (lv_at hl 2 rfl) ?_
  refine lv_aload_n hx hb dLA_law_629 rfl (lv_at hl 0 rfl) ?_
  refine lv_iload hx hb dLA_law_630 (lv_at hl 4 rfl) ?_
  refine lv_iconst (v := 1) hx hb dLA_law_632 (by decide) ?_
  refine lv_iadd hx hb dLA_law_633 ?_
  refine va_sld hx hb hX hbl hbA hw.2.2 (ixs_1 h6 hL) dLA_law_634 ?_
  refine lv_aload_n hx hb dLA_law_635 rfl (lv_at hl 0 rfl) ?_
  refine lv_iload hx hb dLA_law_636 (lv_at hl 4 rfl) ?_
  refine lv_iconst (v := 2) hx hb dLA_law_638 (by decide) ?_
  refine lv_iadd hx hb dLA_law_639 ?_
  refine va_sld hx hb hX hbl hbA hw.2.2 (ixs_2 h6 hL) dLA_law_640 ?_
  refine lv_i2l hx hb dLA_law_641 rfl ?_
  refine lv_bipush (v := 32) hx hb dLA_law_642 (by decide) ?_
  refine lv_lshl hx hb dLA_law_644 rfl ?_
  refine lv_aload_n hx hb dLA_law_645 rfl (lv_at hl 0 rfl) ?_
  refine lv_iload hx hb dLA_law_646 (lv_at hl 4 rfl) ?_
  refine lv_iconst (v := 3) hx hb dLA_law_648 (by decide) ?_
  refine lv_iadd hx hb dLA_law_649 ?_
  refine va_sld hx hb hX hbl hbA hw.2.2 (ixs_3 h6 hL) dLA_law_650 ?_
  refine lv_i2l hx hb dLA_law_651 rfl ?_
  refine lv_ldc2 (v := 4294967295) hx hb hown (hts _ wm_514) dLA_law_652 ?_
  refine lv_land hx hb dLA_law_655 ?_
  refine lv_lor hx hb dLA_law_656 ?_
  refine V_callV (rest := []) B hi hw hA hl.1 (M_FMO_dun l hi (FHL_dun S (xs (nI (6 * t) + 1).toNatClampNeg) ((((xs (nI (6 * t) + 2).toNatClampNeg).toInt64) <<< ((32 : Int32).toInt64 &&& 63)) ||| (((xs (nI (6 * t) + 3).toNatClampNeg).toInt64) &&& 4294967295))).2 (xs (nI (6 * t) + 1).toNatClampNeg) ((((xs (nI (6 * t) + 2).toNatClampNeg).toInt64) <<< ((32 : Int32).toInt64 &&& 63)) ||| (((xs (nI (6 * t) + 3).toNatClampNeg).toInt64) &&& 4294967295)) (jc_dun h6 hL S (xs (nI (6 * t) + 1).toNatClampNeg) ((((xs (nI (6 * t) + 2).toNatClampNeg).toInt64) <<< ((32 : Int32).toInt64 &&& 63)) ||| (((xs (nI (6 * t) + 3).toNatClampNeg).toInt64) &&& 4294967295)) hJ).2.1) (cw_FMO_dun (Nat.le_of_ble_eq_true rfl) (Nat.le_of_ble_eq_true rfl) hc0 hs0) (by decide) rfl rfl wm_560 wm_561 wm_562 rfl (Nat.le_of_ble_eq_true rfl) dLA_law_657 (kI (fun H locs hw => ?_))
  refine lv_pop hx hb dLA_law_660 rfl ?_
  refine lv_goto (tgt := 1410) hx hb dLA_law_661 (by decide) ?_
  exact W.widen (Nat.le_add_right _ _) (Nat.le_add_right _ _) (kk _ _ _ _ (jc_dun h6 hL S (xs (nI (6 * t) + 1).toNatClampNeg) ((((xs (nI (6 * t) + 2).toNatClampNeg).toInt64) <<< ((32 : Int32).toInt64 &&& 63)) ||| (((xs (nI (6 * t) + 3).toNatClampNeg).toInt64) &&& 4294967295)) hJ).2.2.2 hw hl)
set_option maxHeartbeats 4000000 in
set_option maxRecDepth 100000 in
theorem LC_9 {p : Program} {e : Env} {s : State} {m : MethodId} {below : List Frame} {meth : Method} {c : Code} (l : Launch) {b L : Nat} {xs : Nat → Int32} (hL : L ≤ 3072) (C0 : lw_At p s m meth c b L xs) {ad : Nat → Nat} {cI cL : ClassId} {dC : Nat → ClassId} {dI : Nat → Nat → Nat} {A : Nat → Prop} {sa : Nat} (hfl : l.flags = flags0) (hi : adI ad) (B : Bs p s m #[Value.ref b] c RLA code 7 cI cL dC dI) (hA : ∀ q, AA ad s.heap.size q → A q) (hAf : ∀ q, A q → s.heap.size ≤ q) (hz0 : zz A s s.heap) (hstr : vk_R RHL sIX sTX sa s) {t cells slots : Nat} {Q : State → Prop} (h6 : 6 * t + 6 ≤ L) (hc : cells + 1 ≤ room_1.cells) (hs : slots + 6 ≤ room_1.slots) (S : hS) (H : Heap) (locs : List Loc) (ls : Array Slot) (hJ : Jv t S) (hw : Wd ad cI cL dC dI A s.heap S H locs) (hl : lv_has ls 7 [(0, .ref b), (1, .ref (ad 0)), (2, .ref (ad 49)), (3, .ref (ad 52)), (4, .int (nI (6 * t)))]) (kk : ∀ (S1 : hS) (H : Heap) (locs : List Loc) (ls : Array Slot), Jv (t + 1) S1 → Wd ad cI cL dC dI A s.heap S1 H locs → lv_has ls 7 [(0, .ref b), (1, .ref (ad 0)), (2, .ref (ad 49)), (3, .ref (ad 52)), (4, .int (nI (6 * t)))] → W p l e room_1 s m #[Value.ref b] below meth c H locs (cells + 1) (slots + 6) Q (F0 m 1410 ls [])) : W p l e room_1 s m #[Value.ref b] below meth c H locs cells slots Q (F0 m 664 ls []) := by
  obtain ⟨hx, hb, hr, hml, hown, hts0, hX, hbl, hlocks, hgv⟩ := id C0
  have hts : ∀ w ∈ wALL, w.before #[Value.ref b] s = true := B.2.2.2.2.1
  have hbA : ¬ A b := fun h => absurd (hAf b h) (Nat.not_le.mpr hbl)
  have hc0 : cells ≤ room_1.cells := Nat.le_trans (Nat.le_add_right _ _) hc
  have hs0 : slots ≤ room_1.slots := Nat.le_trans (Nat.le_add_right _ _) hs
  refine lv_aload_n hx hb dLA_law_664 rfl (lv_at hl 1 rfl) ?_
  refine lv_aload_n hx hb dLA_law_665 rfl (lv_at hl 0 rfl) ?_
  refine lv_iload hx hb dLA_law_666 (lv_at hl 4 rfl) ?_
  refine lv_iconst (v := 1) hx hb dLA_law_668 (by decide) ?_
  refine lv_iadd hx hb dLA_law_669 ?_
  refine va_sld hx hb hX hbl hbA hw.2.2 (ixs_1 h6 hL) dLA_law_670 ?_
  refine lv_aload_n hx hb dLA_law_671 rfl (lv_at hl 0 rfl) ?_
  refine lv_iload hx hb dLA_law_672 (lv_at hl 4 rfl) ?_
  refine lv_iconst (v := 2) hx hb dLA_law_674 (by decide) ?_
  refine lv_iadd hx hb dLA_law_675 ?_
  refine va_sld hx hb hX hbl hbA hw.2.2 (ixs_2 h6 hL) dLA_law_676 ?_
  refine lv_i2l hx hb dLA_law_677 rfl ?_
  refine lv_bipush (v := 32) hx hb dLA_law_678 (by decide) ?_
  refine lv_lshl hx hb dLA_law_680 rfl ?_
  refine lv_aload_n hx hb dLA_law_681 rfl (lv_at hl 0 rfl) ?_
  refine lv_iload hx hb dLA_law_682 (lv_at hl 4 rfl) ?_
  refine lv_iconst (v := 3) hx hb dLA_law_684 (by decide) ?_
  refine lv_iadd hx hb dLA_law_685 ?_
  refine va_sld hx hb hX hbl hbA hw.2.2 (ixs_3 h6 hL) dLA_law_686 ?_
  refine lv_i2l hx hb dLA_law_687 rfl ?_
  refine lv_ldc2 (v := 4294967295) hx hb hown (hts _ wm_514) dLA_law_688 ?_
  refine lv_land hx hb dLA_law_691 ?_
  refine lv_lor hx hb dLA_law_692 ?_
  refine lv_aload_n hx hb dLA_law_693 rfl (lv_at hl 0 rfl) ?_
  refine lv_iload hx hb dLA_law_694 (lv_at hl 4 rfl) ?_
  refine lv_iconst (v := 4) hx hb dLA_law_696 (by decide) ?_
  refine lv_iadd hx hb dLA_law_697 ?_
  refine va_sld hx hb hX hbl hbA hw.2.2 (ixs_4 h6 hL) dLA_law_698 ?_
  refine lv_i2l hx hb dLA_law_699 rfl ?_
  refine lv_bipush (v := 32) hx hb dLA_law_700 (by decide) ?_
  refine lv_lshl hx hb dLA_law_702 rfl ?_
  refine lv_aload_n hx hb dLA_law_703 rfl (lv_at hl 0 rfl) ?_
  refine lv_iload hx hb dLA_law_704 (lv_at hl 4 rfl) ?_
  refine lv_iconst (v := 5) hx hb dLA_law_706 (by decide) ?_
  refine lv_iadd hx hb dLA_law_707 ?_
  refine va_sld hx hb hX hbl hbA hw.2.2 (ixs_5 h6 hL) dLA_law_708 ?_
  refine lv_i2l hx hb dLA_law_709 rfl ?_
  refine lv_ldc2 (v := 4294967295) hx hb hown (hts _ wm_514) dLA_law_710 ?_
  refine lv_land hx hb dLA_law_713 ?_
  refine lv_lor hx hb dLA_law_714 ?_
  refine V_callV (rest := []) B hi hw hA hl.1 (M_FHL_hardship l hi S (xs (nI (6 * t) + 1).toNatClampNeg) ((((xs (nI (6 * t) + 2).toNatClampNeg).toInt64) <<< ((32 : Int32).toInt64 &&& 63)) ||| (((xs (nI (6 * t) + 3).toNatClampNeg).toInt64) &&& 4294967295)) ((((xs (nI (6 * t) + 4).toNatClampNeg).toInt64) <<< ((32 : Int32).toInt64 &&& 63)) ||| (((xs (nI (6 * t) + 5).toNatClampNeg).toInt64) &&& 4294967295)) (jc_hardship h6 hL S (xs (nI (6 * t) + 1).toNatClampNeg) ((((xs (nI (6 * t) + 2).toNatClampNeg).toInt64) <<< ((32 : Int32).toInt64 &&& 63)) ||| (((xs (nI (6 * t) + 3).toNatClampNeg).toInt64) &&& 4294967295)) ((((xs (nI (6 * t) + 4).toNatClampNeg).toInt64) <<< ((32 : Int32).toInt64 &&& 63)) ||| (((xs (nI (6 * t) + 5).toNatClampNeg).toInt64) &&& 4294967295)) hJ).1) (cw_FHL_hardship (Nat.le_of_ble_eq_true rfl) (Nat.le_of_ble_eq_true rfl) hc0 hs0) (by decide) rfl rfl wm_563 wm_564 wm_565 rfl (Nat.le_of_ble_eq_true rfl) dLA_law_715 (kI (fun H locs hw => ?_))
  refine lv_pop hx hb dLA_law_718 rfl ?_
  refine lv_aload_n hx hb dLA_law_719 rfl (lv_at hl 2 rfl) ?_
  refine lv_aload_n hx hb dLA_law_720 rfl (lv_at hl 0 rfl) ?_
  refine lv_iload hx hb dLA_law_721 (lv_at hl 4 rfl) ?_
  refine lv_iconst (v := 1) hx hb dLA_law_723 (by decide) ?_
  refine lv_iadd hx hb dLA_law_724 ?_
  refine va_sld hx hb hX hbl hbA hw.2.2 (ixs_1 h6 hL) dLA_law_725 ?_
  refine lv_aload_n hx hb dLA_law_726 rfl (lv_at hl 0 rfl) ?_
  refine lv_iload hx hb dLA_law_727 (lv_at hl 4 rfl) ?_
  refine lv_iconst (v := 2) hx hb dLA_law_729 (by decide) ?_
  refine lv_iadd hx hb dLA_law_730 ?_
  refine va_sld hx hb hX hbl hbA hw.2.2 (ixs_2 h6 hL) dLA_law_731 ?_
  refine lv_i2l hx hb dLA_law_732 rfl ?_
  refine lv_bipush (v := 32) hx hb dLA_law_733 (by decide) ?_
  refine lv_lshl hx hb dLA_law_735 rfl ?_
  refine lv_aload_n hx hb dLA_law_736 rfl (lv_at hl 0 rfl) ?_
  refine lv_iload hx hb dLA_law_737 (lv_at hl 4 rfl) ?_
  refine lv_iconst (v := 3) hx hb dLA_law_739 (by decide) ?_
  refine lv_iadd hx hb dLA_law_740 ?_
  refine va_sld hx hb hX hbl hbA hw.2.2 (ixs_3 h6 hL) dLA_law_741 ?_
  refine lv_i2l hx hb dLA_law_742 rfl ?_
  refine lv_ldc2 (v := 4294967295) hx hb hown (hts _ wm_514) dLA_law_743 ?_
  refine lv_land hx hb dLA_law_746 ?_
  refine lv_lor hx hb dLA_law_747 ?_
  refine lv_aload_n hx hb dLA_law_748 rfl (lv_at hl 0 rfl) ?_
  refine lv_iload hx hb dLA_law_749 (lv_at hl 4 rfl) ?_
  refine lv_iconst (v := 4) hx hb dLA_law_751 (by decide) ?_
  refine lv_iadd hx hb dLA_law_752 ?_
  refine va_sld hx hb hX hbl hbA hw.2.2 (ixs_4 h6 hL) dLA_law_753 ?_
  refine lv_i2l hx hb dLA_law_754 rfl ?_
  refine lv_bipush (v := 32) hx hb dLA_law_755 (by decide) ?_
  refine lv_lshl hx hb dLA_law_757 rfl ?_
  refine lv_aload_n hx hb dLA_law_758 rfl (lv_at hl 0 rfl) ?_
  refine lv_iload hx hb dLA_law_759 (lv_at hl 4 rfl) ?_
  refine lv_iconst (v := 5) hx hb dLA_law_761 (by decide) ?_
  refine lv_iadd hx hb dLA_law_762 ?_
  refine va_sld hx hb hX hbl hbA hw.2.2 (ixs_5 h6 hL) dLA_law_763 ?_
  refine lv_i2l hx hb dLA_law_764 rfl ?_
  refine lv_ldc2 (v := 4294967295) hx hb hown (hts _ wm_514) dLA_law_765 ?_
  refine lv_land hx hb dLA_law_768 ?_
  refine lv_lor hx hb dLA_law_769 ?_
  refine V_callV (rest := []) B hi hw hA hl.1 (M_FMO_hardship l hi (FHL_hardship S (xs (nI (6 * t) + 1).toNatClampNeg) ((((xs (nI (6 * t) + 2).toNatClampNeg).toInt64) <<< ((32 : Int32).toInt64 &&& 63)) ||| (((xs (nI (6 * t) + 3).toNatClampNeg).toInt64) &&& 4294967295)) ((((xs (nI (6 * t) + 4).toNatClampNeg).toInt64) <<< ((32 : Int32).toInt64 &&& 63)) ||| (((xs (nI (6 * t) + 5).toNatClampNeg).toInt64) &&& 4294967295))).2 (xs (nI (6 * t) + 1).toNatClampNeg) ((((xs (nI (6 * t) + 2).toNatClampNeg).toInt64) <<< ((32 : Int32).toInt64 &&& 63)) ||| (((xs (nI (6 * t) + 3).toNatClampNeg).toInt64) &&& 4294967295)) ((((xs (nI (6 * t) + 4).toNatClampNeg).toInt64) <<< ((32 : Int32).toInt64 &&& 63)) ||| (((xs (nI (6 * t) + 5).toNatClampNeg).toInt64) &&& 4294967295)) (jc_hardship h6 hL S (xs (nI (6 * t) + 1).toNatClampNeg) ((((xs (nI (6 * t) + 2).toNatClampNeg).toInt64) <<< ((32 : Int32).toInt64 &&& 63)) ||| (((xs (nI (6 * t) + 3).toNatClampNeg).toInt64) &&& 4294967295)) ((((xs (nI (6 * t) + 4).toNatClampNeg).toInt64) <<< ((32 : Int32).toInt64 &&& 63)) ||| (((xs (nI (6 * t) + 5).toNatClampNeg).toInt64) &&& 4294967295)) hJ).2.1) (cw_FMO_hardship (Nat.le_of_ble_eq_true rfl) (Nat.le_of_ble_eq_true rfl) hc0 hs0) (by decide) rfl rfl wm_566 wm_567 wm_568 rfl (Nat.le_of_ble_eq_true rfl) dLA_law_770 (kI (fun H locs hw => ?_))
  refine lv_pop hx hb dLA_law_773 rfl ?_
  refine lv_goto (tgt := 1410) hx hb dLA_law_774 (by decide) ?_
  exact W.widen (Nat.le_add_right _ _) (Nat.le_add_right _ _) (kk _ _ _ _ (jc_hardship h6 hL S (xs (nI (6 * t) + 1).toNatClampNeg) ((((xs (nI (6 * t) + 2).toNatClampNeg).toInt64) <<< ((32 : Int32).toInt64 &&& 63)) ||| (((xs (nI (6 * t) + 3).toNatClampNeg).toInt64) &&& 4294967295)) ((((xs (nI (6 * t) + 4).toNatClampNeg).toInt64) <<< ((32 : Int32).toInt64 &&& 63)) ||| (((xs (nI (6 * t) + 5).toNatClampNeg).toInt64) &&& 4294967295)) hJ).2.2.2 hw hl)
set_option maxHeartbeats 4000000 in
set_option maxRecDepth 100000 in
theorem LC_10 {p : Program} {e : Env} {s : State} {m : MethodId} {below : List Frame} {meth : Method} {c : Code} (l : Launch) {b L : Nat} {xs : Nat → Int32} (hL : L ≤ 3072) (C0 : lw_At p s m meth c b L xs) {ad : Nat → Nat} {cI cL : ClassId} {dC : Nat → ClassId} {dI : Nat → Nat → Nat} {A : Nat → Prop} {sa : Nat} (hfl : l.flags = flags0) (hi : adI ad) (B : Bs p s m #[Value.ref b] c RLA code 7 cI cL dC dI) (hA : ∀ q, AA ad s.heap.size q → A q) (hAf : ∀ q, A q → s.heap.size ≤ q) (hz0 : zz A s s.heap) (hstr : vk_R RHL sIX sTX sa s) {t cells slots : Nat} {Q : State → Prop} (h6 : 6 * t + 6 ≤ L) (hc : cells + 1 ≤ room_1.cells) (hs : slots + 6 ≤ room_1.slots) (S : hS) (H : Heap) (locs : List Loc) (ls : Array Slot) (hJ : Jv t S) (hw : Wd ad cI cL dC dI A s.heap S H locs) (hl : lv_has ls 7 [(0, .ref b), (1, .ref (ad 0)), (2, .ref (ad 49)), (3, .ref (ad 52)), (4, .int (nI (6 * t)))]) (kk : ∀ (S1 : hS) (H : Heap) (locs : List Loc) (ls : Array Slot), Jv (t + 1) S1 → Wd ad cI cL dC dI A s.heap S1 H locs → lv_has ls 7 [(0, .ref b), (1, .ref (ad 0)), (2, .ref (ad 49)), (3, .ref (ad 52)), (4, .int (nI (6 * t)))] → W p l e room_1 s m #[Value.ref b] below meth c H locs (cells + 1) (slots + 6) Q (F0 m 1410 ls [])) : W p l e room_1 s m #[Value.ref b] below meth c H locs cells slots Q (F0 m 777 ls []) := by
  obtain ⟨hx, hb, hr, hml, hown, hts0, hX, hbl, hlocks, hgv⟩ := id C0
  have hts : ∀ w ∈ wALL, w.before #[Value.ref b] s = true := B.2.2.2.2.1
  have hbA : ¬ A b := fun h => absurd (hAf b h) (Nat.not_le.mpr hbl)
  have hc0 : cells ≤ room_1.cells := Nat.le_trans (Nat.le_add_right _ _) hc
  have hs0 : slots ≤ room_1.slots := Nat.le_trans (Nat.le_add_right _ _) hs
  refine lv_aload_n hx hb dLA_law_777 rfl (lv_at hl 1 rfl) ?_
  refine lv_aload_n hx hb dLA_law_778 rfl (lv_at hl 0 rfl) ?_
  refine lv_iload hx hb dLA_law_779 (lv_at hl 4 rfl) ?_
  refine lv_iconst (v := 1) hx hb dLA_law_781 (by decide) ?_
  refine lv_iadd hx hb dLA_law_782 ?_
  refine va_sld hx hb hX hbl hbA hw.2.2 (ixs_1 h6 hL) dLA_law_783 ?_
  refine lv_aload_n hx hb dLA_law_784 rfl (lv_at hl 0 rfl) ?_
  refine lv_iload hx hb dLA_law_785 (lv_at hl 4 rfl) ?_
  refine lv_iconst (v := 2) hx hb dLA_law_787 (by decide) ?_
  refine lv_iadd hx hb dLA_law_788 ?_
  refine va_sld hx hb hX hbl hbA hw.2.2 (ixs_2 h6 hL) dLA_law_789 ?_
  refine V_callV (rest := []) B hi hw hA hl.1 (M_FHL_instal l hi S (xs (nI (6 * t) + 1).toNatClampNeg) (xs (nI (6 * t) + 2).toNatClampNeg) (jc_instal h6 hL S (xs (nI (6 * t) + 1).toNatClampNeg) (xs (nI (6 * t) + 2).toNatClampNeg) hJ).1) (cw_FHL_instal (Nat.le_of_ble_eq_true rfl) (Nat.le_of_ble_eq_true rfl) hc0 hs0) (by decide) rfl rfl wm_569 wm_570 wm_571 rfl (Nat.le_of_ble_eq_true rfl) dLA_law_790 (kI (fun H locs hw => ?_))
  refine lv_pop hx hb dLA_law_793 rfl ?_
  refine lv_aload_n hx hb dLA_law_794 rfl (lv_at hl 2 rfl) ?_
  refine lv_aload_n hx hb dLA_law_795 rfl (lv_at hl 0 rfl) ?_
  refine lv_iload hx hb dLA_law_796 (lv_at hl 4 rfl) ?_
  refine lv_iconst (v := 1) hx hb dLA_law_798 (by decide) ?_
  refine lv_iadd hx hb dLA_law_799 ?_
  refine va_sld hx hb hX hbl hbA hw.2.2 (ixs_1 h6 hL) dLA_law_800 ?_
  refine lv_aload_n hx hb dLA_law_801 rfl (lv_at hl 0 rfl) ?_
  refine lv_iload hx hb dLA_law_802 (lv_at hl 4 rfl) ?_
  refine lv_iconst (v := 2) hx hb dLA_law_804 (by decide) ?_
  refine lv_iadd hx hb dLA_law_805 ?_
  refine va_sld hx hb hX hbl hbA hw.2.2 (ixs_2 h6 hL) dLA_law_806 ?_
  refine V_callV (rest := []) B hi hw hA hl.1 (M_FMO_instal l hi (FHL_instal S (xs (nI (6 * t) + 1).toNatClampNeg) (xs (nI (6 * t) + 2).toNatClampNeg)).2 (xs (nI (6 * t) + 1).toNatClampNeg) (xs (nI (6 * t) + 2).toNatClampNeg) (jc_instal h6 hL S (xs (nI (6 * t) + 1).toNatClampNeg) (xs (nI (6 * t) + 2).toNatClampNeg) hJ).2.1) (cw_FMO_instal (Nat.le_of_ble_eq_true rfl) (Nat.le_of_ble_eq_true rfl) hc0 hs0) (by decide) rfl rfl wm_572 wm_573 wm_574 rfl (Nat.le_of_ble_eq_true rfl) dLA_law_807 (kI (fun H locs hw => ?_))
  refine lv_pop hx hb dLA_law_810 rfl ?_
  refine lv_goto (tgt := 1410) hx hb dLA_law_811 (by decide) ?_
  exact W.widen (Nat.le_add_right _ _) (Nat.le_add_right _ _) (kk _ _ _ _ (jc_instal h6 hL S (xs (nI (6 * t) + 1).toNatClampNeg) (xs (nI (6 * t) + 2).toNatClampNeg) hJ).2.2.2 hw hl)
set_option maxHeartbeats 4000000 in
set_option maxRecDepth 100000 in
theorem LC_11 {p : Program} {e : Env} {s : State} {m : MethodId} {below : List Frame} {meth : Method} {c : Code} (l : Launch) {b L : Nat} {xs : Nat → Int32} (hL : L ≤ 3072) (C0 : lw_At p s m meth c b L xs) {ad : Nat → Nat} {cI cL : ClassId} {dC : Nat → ClassId} {dI : Nat → Nat → Nat} {A : Nat → Prop} {sa : Nat} (hfl : l.flags = flags0) (hi : adI ad) (B : Bs p s m #[Value.ref b] c RLA code 7 cI cL dC dI) (hA : ∀ q, AA ad s.heap.size q → A q) (hAf : ∀ q, A q → s.heap.size ≤ q) (hz0 : zz A s s.heap) (hstr : vk_R RHL sIX sTX sa s) {t cells slots : Nat} {Q : State → Prop} (h6 : 6 * t + 6 ≤ L) (hc : cells + 1 ≤ room_1.cells) (hs : slots + 6 ≤ room_1.slots) (S : hS) (H : Heap) (locs : List Loc) (ls : Array Slot) (hJ : Jv t S) (hw : Wd ad cI cL dC dI A s.heap S H locs) (hl : lv_has ls 7 [(0, .ref b), (1, .ref (ad 0)), (2, .ref (ad 49)), (3, .ref (ad 52)), (4, .int (nI (6 * t)))]) (kk : ∀ (S1 : hS) (H : Heap) (locs : List Loc) (ls : Array Slot), Jv (t + 1) S1 → Wd ad cI cL dC dI A s.heap S1 H locs → lv_has ls 7 [(0, .ref b), (1, .ref (ad 0)), (2, .ref (ad 49)), (3, .ref (ad 52)), (4, .int (nI (6 * t)))] → W p l e room_1 s m #[Value.ref b] below meth c H locs (cells + 1) (slots + 6) Q (F0 m 1410 ls [])) : W p l e room_1 s m #[Value.ref b] below meth c H locs cells slots Q (F0 m 814 ls []) := by
  obtain ⟨hx, hb, hr, hml, hown, hts0, hX, hbl, hlocks, hgv⟩ := id C0
  have hts : ∀ w ∈ wALL, w.before #[Value.ref b] s = true := B.2.2.2.2.1
  have hbA : ¬ A b := fun h => absurd (hAf b h) (Nat.not_le.mpr hbl)
  have hc0 : cells ≤ room_1.cells := Nat.le_trans (Nat.le_add_right _ _) hc
  have hs0 : slots ≤ room_1.slots := Nat.le_trans (Nat.le_add_right _ _) hs
  refine lv_aload_n hx hb dLA_law_814 rfl (lv_at hl 1 rfl) ?_
  refine lv_aload_n hx hb dLA_law_815 rfl (lv_at hl 0 rfl) ?_
  refine lv_iload hx hb dLA_law_816 (lv_at hl 4 rfl) ?_
  refine lv_iconst (v := 1) hx hb dLA_law_818 (by decide) ?_
  refine lv_iadd hx hb dLA_law_819 ?_
  refine va_sld hx hb hX hbl hbA hw.2.2 (ixs_1 h6 hL) dLA_law_820 ?_
  refine lv_aload_n hx hb dLA_law_821 rfl (lv_at hl 0 rfl) ?_
  refine lv_iload hx hb dLA_law_822 (lv_at hl 4 rfl) ?_
  refine lv_iconst (v := 2) hx hb dLA_law_824 (by decide) ?_
  refine lv_iadd hx hb dLA_law_825 ?_
  refine va_sld hx hb hX hbl hbA hw.2.2 (ixs_2 h6 hL) dLA_law_826 ?_
  refine V_callV (rest := []) B hi hw hA hl.1 (M_FHL_due l hi S (xs (nI (6 * t) + 1).toNatClampNeg) (xs (nI (6 * t) + 2).toNatClampNeg) (jc_due h6 hL S (xs (nI (6 * t) + 1).toNatClampNeg) (xs (nI (6 * t) + 2).toNatClampNeg) hJ).1) (cw_FHL_due (Nat.le_of_ble_eq_true rfl) (Nat.le_of_ble_eq_true rfl) hc0 hs0) (by decide) rfl rfl wm_575 wm_576 wm_577 rfl (Nat.le_of_ble_eq_true rfl) dLA_law_827 (kL (fun H locs hw => ?_))
  refine lv_pop2_2 hx hb dLA_law_830 rfl ?_
  refine lv_aload_n hx hb dLA_law_831 rfl (lv_at hl 2 rfl) ?_
  refine lv_aload_n hx hb dLA_law_832 rfl (lv_at hl 0 rfl) ?_
  refine lv_iload hx hb dLA_law_833 (lv_at hl 4 rfl) ?_
  refine lv_iconst (v := 1) hx hb dLA_law_835 (by decide) ?_
  refine lv_iadd hx hb dLA_law_836 ?_
  refine va_sld hx hb hX hbl hbA hw.2.2 (ixs_1 h6 hL) dLA_law_837 ?_
  refine lv_aload_n hx hb dLA_law_838 rfl (lv_at hl 0 rfl) ?_
  refine lv_iload hx hb dLA_law_839 (lv_at hl 4 rfl) ?_
  refine lv_iconst (v := 2) hx hb dLA_law_841 (by decide) ?_
  refine lv_iadd hx hb dLA_law_842 ?_
  refine va_sld hx hb hX hbl hbA hw.2.2 (ixs_2 h6 hL) dLA_law_843 ?_
  refine V_callV (rest := []) B hi hw hA hl.1 (M_FMO_due l hi S (xs (nI (6 * t) + 1).toNatClampNeg) (xs (nI (6 * t) + 2).toNatClampNeg) (jc_due h6 hL S (xs (nI (6 * t) + 1).toNatClampNeg) (xs (nI (6 * t) + 2).toNatClampNeg) hJ).2.1) (cw_FMO_due (Nat.le_of_ble_eq_true rfl) (Nat.le_of_ble_eq_true rfl) hc0 hs0) (by decide) rfl rfl wm_578 wm_579 wm_580 rfl (Nat.le_of_ble_eq_true rfl) dLA_law_844 (kL (fun H locs hw => ?_))
  refine lv_pop2_2 hx hb dLA_law_847 rfl ?_
  refine lv_goto (tgt := 1410) hx hb dLA_law_848 (by decide) ?_
  exact W.widen (Nat.le_add_right _ _) (Nat.le_add_right _ _) (kk _ _ _ _ (jc_due h6 hL S (xs (nI (6 * t) + 1).toNatClampNeg) (xs (nI (6 * t) + 2).toNatClampNeg) hJ).2.2.2 hw hl)
