set_option maxHeartbeats 4000000 in
set_option maxRecDepth 100000 in
theorem LC_6 {p : Program} {e : Env} {s : State} {m : MethodId} {below : List Frame} {meth : Method} {c : Code} (l : Launch) {b L : Nat} {xs : Nat → Int32} (hL : L ≤ 3072) (C0 : lw_At p s m meth c b L xs) {ad : Nat → Nat} {cI cL : ClassId} {dC : Nat → ClassId} {dI : Nat → Nat → Nat} {A : Nat → Prop} {sa : Nat} (hfl : l.flags = flags0) (hi : adI ad) (B : Bs p s m #[Value.ref b] c RLA code 7 cI cL dC dI) (hA : ∀ q, AA ad s.heap.size q → A q) (hAf : ∀ q, A q → s.heap.size ≤ q) (hz0 : zz A s s.heap) (hstr : vk_R RHL sIX sTX sa s) {t cells slots : Nat} {Q : State → Prop} (h6 : 6 * t + 6 ≤ L) (hc : cells + 1 ≤ room_1.cells) (hs : slots + 6 ≤ room_1.slots) (S : hS) (H : Heap) (locs : List Loc) (ls : Array Slot) (hJ : Jv t S) (hw : Wd ad cI cL dC dI A s.heap S H locs) (hl : lv_has ls 7 [(0, .ref b), (1, .ref (ad 0)), (2, .ref (ad 49)), (3, .ref (ad 52)), (4, .int (nI (6 * t)))]) (kk : ∀ (S1 : hS) (H : Heap) (locs : List Loc) (ls : Array Slot), Jv (t + 1) S1 → Wd ad cI cL dC dI A s.heap S1 H locs → lv_has ls 7 [(0, .ref b), (1, .ref (ad 0)), (2, .ref (ad 49)), (3, .ref (ad 52)), (4, .int (nI (6 * t)))] → W p l e room_1 s m #[Value.ref b] below meth c H locs (cells + 1) (slots + 6) Q (F0 m 1438 ls [])) : W p l e room_1 s m #[Value.ref b] below meth c H locs cells slots Q (F0 m 549 ls []) := by
  obtain ⟨hx, hb, hr, hml, hown, hts0, hX, hbl, hlocks, hgv⟩ := id C0
  have hts : ∀ w ∈ wALL, w.before #[Value.ref b] s = true := B.2.2.2.2.1
  have hbA : ¬ A b := fun h => absurd (hAf b h) (Nat.not_le.mpr hbl)
  have hc0 : cells ≤ room_1.cells := Nat.le_trans (Nat.le_add_right _ _) hc
  have hs0 : slots ≤ room_1.slots := Nat.le_trans (Nat.le_add_right _ _) hs
  refine lv_aload_n hx hb dLA_law_549 rfl (lv_at hl 1 rfl) ?_
  refine lv_aload_n hx hb dLA_law_550 rfl (lv_at hl 0 rfl) ?_
  refine lv_iload hx hb dLA_law_551 (lv_at hl 4 rfl) ?_
  refine lv_iconst (v := 1) hx hb dLA_law_553 (by decide) ?_
  refine lv_iadd hx hb dLA_law_554 ?_
  refine va_sld hx hb hX hbl hbA hw.2.2 (ixs_1 h6 hL) dLA_law_555 ?_
  refine lv_aload_n hx hb dLA_law_556 rfl (lv_at hl 0 rfl) ?_
  refine lv_iload hx hb dLA_law_557 (lv_at hl 4 rfl) ?_
  refine lv_iconst (v := 2) hx hb dLA_law_559 (by decide) ?_
  refine lv_iadd hx hb dLA_law_560 ?_
  refine va_sld hx hb hX hbl hbA hw.2.2 (ixs_2 h6 hL) dLA_law_561 ?_
  refine V_callV (rest := []) B hi hw hA hl.1 (M_FHL_item l hi S (xs (nI (6 * t) + 1).toNatClampNeg) (xs (nI (6 * t) + 2).toNatClampNeg) (jc_item h6 hL S (xs (nI (6 * t) + 1).toNatClampNeg) (xs (nI (6 * t) + 2).toNatClampNeg) hJ).1) (cw_FHL_item (Nat.le_of_ble_eq_true rfl) (Nat.le_of_ble_eq_true rfl) hc0 hs0) (by decide) rfl rfl wm_549 wm_550 wm_551 rfl (Nat.le_of_ble_eq_true rfl) dLA_law_562 (kL (fun H locs hw => ?_))
  refine lv_pop2_2 hx hb dLA_law_565 rfl ?_
  refine lv_aload_n hx hb dLA_law_566 rfl (lv_at hl 2 rfl) ?_
  refine lv_aload_n hx hb dLA_law_567 rfl (lv_at hl 0 rfl) ?_
  refine lv_iload hx hb dLA_law_568 (lv_at hl 4 rfl) ?_
  refine lv_iconst (v := 1) hx hb dLA_law_570 (by decide) ?_
  refine lv_iadd hx hb dLA_law_571 ?_
  refine va_sld hx hb hX hbl hbA hw.2.2 (ixs_1 h6 hL) dLA_law_572 ?_
  refine lv_aload_n hx hb dLA_law_573 rfl (lv_at hl 0 rfl) ?_
  refine lv_iload hx hb dLA_law_574 (lv_at hl 4 rfl) ?_
  refine lv_iconst (v := 2) hx hb dLA_law_576 (by decide) ?_
  refine lv_iadd hx hb dLA_law_577 ?_
  refine va_sld hx hb hX hbl hbA hw.2.2 (ixs_2 h6 hL) dLA_law_578 ?_
  refine V_callV (rest := []) B hi hw hA hl.1 (M_FMO_item l hi S (xs (nI (6 * t) + 1).toNatClampNeg) (xs (nI (6 * t) + 2).toNatClampNeg) (jc_item h6 hL S (xs (nI (6 * t) + 1).toNatClampNeg) (xs (nI (6 * t) + 2).toNatClampNeg) hJ).2.1) (cw_FMO_item (Nat.le_of_ble_eq_true rfl) (Nat.le_of_ble_eq_true rfl) hc0 hs0) (by decide) rfl rfl wm_552 wm_553 wm_554 rfl (Nat.le_of_ble_eq_true rfl) dLA_law_579 (kL (fun H locs hw => ?_))
  refine lv_pop2_2 hx hb dLA_law_582 rfl ?_
  refine lv_goto (tgt := 1438) hx hb dLA_law_583 (by decide) ?_
  exact W.widen (Nat.le_add_right _ _) (Nat.le_add_right _ _) (kk _ _ _ _ (jc_item h6 hL S (xs (nI (6 * t) + 1).toNatClampNeg) (xs (nI (6 * t) + 2).toNatClampNeg) hJ).2.2.2 hw hl)
set_option maxHeartbeats 4000000 in
set_option maxRecDepth 100000 in
theorem LC_7 {p : Program} {e : Env} {s : State} {m : MethodId} {below : List Frame} {meth : Method} {c : Code} (l : Launch) {b L : Nat} {xs : Nat → Int32} (hL : L ≤ 3072) (C0 : lw_At p s m meth c b L xs) {ad : Nat → Nat} {cI cL : ClassId} {dC : Nat → ClassId} {dI : Nat → Nat → Nat} {A : Nat → Prop} {sa : Nat} (hfl : l.flags = flags0) (hi : adI ad) (B : Bs p s m #[Value.ref b] c RLA code 7 cI cL dC dI) (hA : ∀ q, AA ad s.heap.size q → A q) (hAf : ∀ q, A q → s.heap.size ≤ q) (hz0 : zz A s s.heap) (hstr : vk_R RHL sIX sTX sa s) {t cells slots : Nat} {Q : State → Prop} (h6 : 6 * t + 6 ≤ L) (hc : cells + 1 ≤ room_1.cells) (hs : slots + 6 ≤ room_1.slots) (S : hS) (H : Heap) (locs : List Loc) (ls : Array Slot) (hJ : Jv t S) (hw : Wd ad cI cL dC dI A s.heap S H locs) (hl : lv_has ls 7 [(0, .ref b), (1, .ref (ad 0)), (2, .ref (ad 49)), (3, .ref (ad 52)), (4, .int (nI (6 * t)))]) (kk : ∀ (S1 : hS) (H : Heap) (locs : List Loc) (ls : Array Slot), Jv (t + 1) S1 → Wd ad cI cL dC dI A s.heap S1 H locs → lv_has ls 7 [(0, .ref b), (1, .ref (ad 0)), (2, .ref (ad 49)), (3, .ref (ad 52)), (4, .int (nI (6 * t)))] → W p l e room_1 s m #[Value.ref b] below meth c H locs (cells + 1) (slots + 6) Q (F0 m 1438 ls [])) : W p l e room_1 s m #[Value.ref b] below meth c H locs cells slots Q (F0 m 586 ls []) := by
  obtain ⟨hx, hb, hr, hml, hown, hts0, hX, hbl, hlocks, hgv⟩ := id C0
  have hts : ∀ w ∈ wALL, w.before #[Value.ref b] s = true := B.2.2.2.2.1
  have hbA : ¬ A b := fun h => absurd (hAf b h) (Nat.not_le.mpr hbl)
  have hc0 : cells ≤ room_1.cells := Nat.le_trans (Nat.le_add_right _ _) hc
  have hs0 : slots ≤ room_1.slots := Nat.le_trans (Nat.le_add_right _ _) hs
  refine lv_aload_n hx hb dLA_law_586 rfl (lv_at hl 1 rfl) ?_
  refine lv_aload_n hx hb dLA_law_587 rfl (lv_at hl 0 rfl) ?_
  refine lv_iload hx hb dLA_law_588 (lv_at hl 4 rfl) ?_
  refine lv_iconst (v := 1) hx hb dLA_law_590 (by decide) ?_
  refine lv_iadd hx hb dLA_law_591 ?_
  refine va_sld hx hb hX hbl hbA hw.2.2 (ixs_1 h6 hL) dLA_law_592 ?_
  refine lv_aload_n hx hb dLA_law_593 rfl (lv_at hl 0 rfl) ?_
  refine lv_iload hx hb dLA_law_594 (lv_at hl 4 rfl) ?_
  refine lv_iconst (v := 2) hx hb dLA_law_596 (by decide) ?_
  refine lv_iadd hx hb dLA_law_597 ?_
  refine va_sld hx hb hX hbl hbA hw.2.2 (ixs_2 h6 hL) dLA_law_598 ?_
  refine V_callV (rest := []) B hi hw hA hl.1 (M_FHL_opened l hi S (xs (nI (6 * t) + 1).toNatClampNeg) (xs (nI (6 * t) + 2).toNatClampNeg) (jc_opened h6 hL S (xs (nI (6 * t) + 1).toNatClampNeg) (xs (nI (6 * t) + 2).toNatClampNeg) hJ).1) (cw_FHL_opened (Nat.le_of_ble_eq_true rfl) (Nat.le_of_ble_eq_true rfl) hc0 hs0) (by decide) rfl rfl wm_555 wm_556 wm_557 rfl (Nat.le_of_ble_eq_true rfl) dLA_law_599 (kI (fun H locs hw => ?_))
  refine lv_pop hx hb dLA_law_602 rfl ?_
  refine lv_aload_n hx hb dLA_law_603 rfl (lv_at hl 2 rfl) ?_
  refine lv_aload_n hx hb dLA_law_604 rfl (lv_at hl 0 rfl) ?_
  refine lv_iload hx hb dLA_law_605 (lv_at hl 4 rfl) ?_
  refine lv_iconst (v := 1) hx hb dLA_law_607 (by decide) ?_
  refine lv_iadd hx hb dLA_law_608 ?_
  refine va_sld hx hb hX hbl hbA hw.2.2 (ixs_1 h6 hL) dLA_law_609 ?_
  refine lv_aload_n hx hb dLA_law_610 rfl (lv_at hl 0 rfl) ?_
  refine lv_iload hx hb dLA_law_611 (lv_at hl 4 rfl) ?_
  refine lv_iconst (v := 2) hx hb dLA_law_613 (by decide) ?_
  refine lv_iadd hx hb dLA_law_614 ?_
  refine va_sld hx hb hX hbl hbA hw.2.2 (ixs_2 h6 hL) dLA_law_615 ?_
  refine V_callV (rest := []) B hi hw hA hl.1 (M_FMO_opened l hi S (xs (nI (6 * t) + 1).toNatClampNeg) (xs (nI (6 * t) + 2).toNatClampNeg) (jc_opened h6 hL S (xs (nI (6 * t) + 1).toNatClampNeg) (xs (nI (6 * t) + 2).toNatClampNeg) hJ).2.1) (cw_FMO_opened (Nat.le_of_ble_eq_true rfl) (Nat.le_of_ble_eq_true rfl) hc0 hs0) (by decide) rfl rfl wm_558 wm_559 wm_560 rfl (Nat.le_of_ble_eq_true rfl) dLA_law_616 (kI (fun H locs hw => ?_))
  refine lv_pop hx hb dLA_law_619 rfl ?_
  refine lv_goto (tgt := 1438) hx hb dLA_law_620 (by decide) ?_
  exact W.widen (Nat.le_add_right _ _) (Nat.le_add_right _ _) (kk _ _ _ _ (jc_opened h6 hL S (xs (nI (6 * t) + 1).toNatClampNeg) (xs (nI (6 * t) + 2).toNatClampNeg) hJ).2.2.2 hw hl)
set_option maxHeartbeats 4000000 in
set_option maxRecDepth 100000 in
theorem LC_8 {p : Program} {e : Env} {s : State} {m : MethodId} {below : List Frame} {meth : Method} {c : Code} (l : Launch) {b L : Nat} {xs : Nat → Int32} (hL : L ≤ 3072) (C0 : lw_At p s m meth c b L xs) {ad : Nat → Nat} {cI cL : ClassId} {dC : Nat → ClassId} {dI : Nat → Nat → Nat} {A : Nat → Prop} {sa : Nat} (hfl : l.flags = flags0) (hi : adI ad) (B : Bs p s m #[Value.ref b] c RLA code 7 cI cL dC dI) (hA : ∀ q, AA ad s.heap.size q → A q) (hAf : ∀ q, A q → s.heap.size ≤ q) (hz0 : zz A s s.heap) (hstr : vk_R RHL sIX sTX sa s) {t cells slots : Nat} {Q : State → Prop} (h6 : 6 * t + 6 ≤ L) (hc : cells + 1 ≤ room_1.cells) (hs : slots + 6 ≤ room_1.slots) (S : hS) (H : Heap) (locs : List Loc) (ls : Array Slot) (hJ : Jv t S) (hw : Wd ad cI cL dC dI A s.heap S H locs) (hl : lv_has ls 7 [(0, .ref b), (1, .ref (ad 0)), (2, .ref (ad 49)), (3, .ref (ad 52)), (4, .int (nI (6 * t)))]) (kk : ∀ (S1 : hS) (H : Heap) (locs : List Loc) (ls : Array Slot), Jv (t + 1) S1 → Wd ad cI cL dC dI A s.heap S1 H locs → lv_has ls 7 [(0, .ref b), (1, .ref (ad 0)), (2, .ref (ad 49)), (3, .ref (ad 52)), (4, .int (nI (6 * t)))] → W p l e room_1 s m #[Value.ref b] below meth c H locs (cells + 1) (slots + 6) Q (F0 m 1438 ls [])) : W p l e room_1 s m #[Value.ref b] below meth c H locs cells slots Q (F0 m 623 ls []) := by
  obtain ⟨hx, hb, hr, hml, hown, hts0, hX, hbl, hlocks, hgv⟩ := id C0
  have hts : ∀ w ∈ wALL, w.before #[Value.ref b] s = true := B.2.2.2.2.1
  have hbA : ¬ A b := fun h => absurd (hAf b h) (Nat.not_le.mpr hbl)
  have hc0 : cells ≤ room_1.cells := Nat.le_trans (Nat.le_add_right _ _) hc
  have hs0 : slots ≤ room_1.slots := Nat.le_trans (Nat.le_add_right _ _) hs
  refine lv_aload_n hx hb dLA_law_623 rfl (lv_at hl 1 rfl) ?_
  refine lv_aload_n hx hb dLA_law_624 rfl (lv_at hl 0 rfl) ?_
  refine lv_iload hx hb dLA_law_625 (lv_at hl 4 rfl) ?_
  refine lv_iconst (v := 1) hx hb dLA_law_627 (by decide) ?_
  refine lv_iadd hx hb dLA_law_628 ?_
  refine va_sld hx hb hX hbl hbA hw.2.2 (ixs_1 h6 hL) dLA_law_629 ?_
  refine lv_aload_n hx hb dLA_law_630 rfl (lv_at hl 0 rfl) ?_
  refine lv_iload hx hb dLA_law_631 (lv_at hl 4 rfl) ?_
  refine lv_iconst (v := 2) hx hb dLA_law_633 (by decide) ?_
  refine lv_iadd hx hb dLA_law_634 ?_
  refine va_sld hx hb hX hbl hbA hw.2.2 (ixs_2 h6 hL) dLA_law_635 ?_
  refine lv_i2l hx hb dLA_law_636 rfl ?_
  refine lv_bipush (v := 32) hx hb dLA_law_637 (by decide) ?_
  refine lv_lshl hx hb dLA_law_639 rfl ?_
  refine lv_aload_n hx hb dLA_law_640 rfl (lv_at hl 0 rfl) ?_
  refine lv_iload hx hb dLA_law_641 (lv_at hl 4 rfl) ?_
  refine lv_iconst (v := 3) hx hb dLA_law_643 (by decide) ?_
  refine lv_iadd hx hb dLA_law_644 ?_
  refine va_sld hx hb hX hbl hbA hw.2.2 (ixs_3 h6 hL) dLA_law_645 ?_
  refine lv_i2l hx hb dLA_law_646 rfl ?_
  refine lv_ldc2 (v := 4294967295) hx hb hown (hts _ wm_515) dLA_law_647 ?_
  refine lv_land hx hb dLA_law_650 ?_
  refine lv_lor hx hb dLA_law_651 ?_
  refine V_callV (rest := []) B hi hw hA hl.1 (M_FHL_dun l hi S (xs (nI (6 * t) + 1).toNatClampNeg) ((((xs (nI (6 * t) + 2).toNatClampNeg).toInt64) <<< ((32 : Int32).toInt64 &&& 63)) ||| (((xs (nI (6 * t) + 3).toNatClampNeg).toInt64) &&& 4294967295)) (jc_dun h6 hL S (xs (nI (6 * t) + 1).toNatClampNeg) ((((xs (nI (6 * t) + 2).toNatClampNeg).toInt64) <<< ((32 : Int32).toInt64 &&& 63)) ||| (((xs (nI (6 * t) + 3).toNatClampNeg).toInt64) &&& 4294967295)) hJ).1) (cw_FHL_dun (Nat.le_of_ble_eq_true rfl) (Nat.le_of_ble_eq_true rfl) hc0 hs0) (by decide) rfl rfl wm_561 wm_562 wm_563 rfl (Nat.le_of_ble_eq_true rfl) dLA_law_652 (kI (fun H locs hw => ?_))
  refine lv_pop hx hb dLA_law_655 rfl ?_
  refine lv_aload_n hx hb dLA_law_656 rfl (lv_at hl 2 rfl) ?_
  refine lv_aload_n hx hb dLA_law_657 rfl (lv_at hl 0 rfl) ?_
  refine lv_iload hx hb dLA_law_658 (lv_at hl 4 rfl) ?_
  refine lv_iconst (v := 1) hx hb dLA_law_660 (by decide) ?_
  refine lv_iadd hx hb dLA_law_661 ?_
  refine va_sld hx hb hX hbl hbA hw.2.2 (ixs_1 h6 hL) dLA_law_662 ?_
  refine lv_aload_n hx hb dLA_law_663 rfl (lv_at hl 0 rfl) ?_
  refine lv_iload hx hb dLA_law_664 (lv_at hl 4 rfl) ?_
  refine lv_iconst (v := 2) hx hb dLA_law_666 (by decide) ?_
  refine lv_iadd hx hb dLA_law_667 ?_
  refine va_sld hx hb hX hbl hbA hw.2.2 (ixs_2 h6 hL) dLA_law_668 ?_
  refine lv_i2l hx hb dLA_law_669 rfl ?_
  refine lv_bipush (v := 32) hx hb dLA_law_670 (by decide) ?_
  refine lv_lshl hx hb dLA_law_672 rfl ?_
  refine lv_aload_n hx hb dLA_law_673 rfl (lv_at hl 0 rfl) ?_
  refine lv_iload hx hb dLA_law_674 (lv_at hl 4 rfl) ?_
  refine lv_iconst (v := 3) hx hb dLA_law_676 (by decide) ?_
  refine lv_iadd hx hb dLA_law_677 ?_
  refine va_sld hx hb hX hbl hbA hw.2.2 (ixs_3 h6 hL) dLA_law_678 ?_
  refine lv_i2l hx hb dLA_law_679 rfl ?_
  refine lv_ldc2 (v := 4294967295) hx hb hown (hts _ wm_515) dLA_law_680 ?_
  refine lv_land hx hb dLA_law_683 ?_
  refine lv_lor hx hb dLA_law_684 ?_
  refine V_callV (rest := []) B hi hw hA hl.1 (M_FMO_dun l hi (FHL_dun S (xs (nI (6 * t) + 1).toNatClampNeg) ((((xs (nI (6 * t) + 2).toNatClampNeg).toInt64) <<< ((32 : Int32).toInt64 &&& 63)) ||| (((xs (nI (6 * t) + 3).toNatClampNeg).toInt64) &&& 4294967295))).2 (xs (nI (6 * t) + 1).toNatClampNeg) ((((xs (nI (6 * t) + 2).toNatClampNeg).toInt64) <<< ((32 : Int32).toInt64 &&& 63)) ||| (((xs (nI (6 * t) + 3).toNatClampNeg).toInt64) &&& 4294967295)) (jc_dun h6 hL S (xs (nI (6 * t) + 1).toNatClampNeg) ((((xs (nI (6 * t) + 2).toNatClampNeg).toInt64) <<< ((32 : Int32).toInt64 &&& 63)) ||| (((xs (nI (6 * t) + 3).toNatClampNeg).toInt64) &&& 4294967295)) hJ).2.1) (cw_FMO_dun (Nat.le_of_ble_eq_true rfl) (Nat.le_of_ble_eq_true rfl) hc0 hs0) (by decide) rfl rfl wm_564 wm_565 wm_566 rfl (Nat.le_of_ble_eq_true rfl) dLA_law_685 (kI (fun H locs hw => ?_))
  refine lv_pop hx hb dLA_law_688 rfl ?_
  refine lv_goto (tgt := 1438) hx hb dLA_law_689 (by decide) ?_
  exact W.widen (Nat.le_add_right _ _) (Nat.le_add_right _ _) (kk _ _ _ _ (jc_dun h6 hL S (xs (nI (6 * t) + 1).toNatClampNeg) ((((xs (nI (6 * t) + 2).toNatClampNeg).toInt64) <<< ((32 : Int32).toInt64 &&& 63)) ||| (((xs (nI (6 * t) + 3).toNatClampNeg).toInt64) &&& 4294967295)) hJ).2.2.2 hw hl)
set_option maxHeartbeats 4000000 in
set_option maxRecDepth 100000 in
theorem LC_9 {p : Program} {e : Env} {s : State} {m : MethodId} {below : List Frame} {meth : Method} {c : Code} (l : Launch) {b L : Nat} {xs : Nat → Int32} (hL : L ≤ 3072) (C0 : lw_At p s m meth c b L xs) {ad : Nat → Nat} {cI cL : ClassId} {dC : Nat → ClassId} {dI : Nat → Nat → Nat} {A : Nat → Prop} {sa : Nat} (hfl : l.flags = flags0) (hi : adI ad) (B : Bs p s m #[Value.ref b] c RLA code 7 cI cL dC dI) (hA : ∀ q, AA ad s.heap.size q → A q) (hAf : ∀ q, A q → s.heap.size ≤ q) (hz0 : zz A s s.heap) (hstr : vk_R RHL sIX sTX sa s) {t cells slots : Nat} {Q : State → Prop} (h6 : 6 * t + 6 ≤ L) (hc : cells + 1 ≤ room_1.cells) (hs : slots + 6 ≤ room_1.slots) (S : hS) (H : Heap) (locs : List Loc) (ls : Array Slot) (hJ : Jv t S) (hw : Wd ad cI cL dC dI A s.heap S H locs) (hl : lv_has ls 7 [(0, .ref b), (1, .ref (ad 0)), (2, .ref (ad 49)), (3, .ref (ad 52)), (4, .int (nI (6 * t)))]) (kk : ∀ (S1 : hS) (H : Heap) (locs : List Loc) (ls : Array Slot), Jv (t + 1) S1 → Wd ad cI cL dC dI A s.heap S1 H locs → lv_has ls 7 [(0, .ref b), (1, .ref (ad 0)), (2, .ref (ad 49)), (3, .ref (ad 52)), (4, .int (nI (6 * t)))] → W p l e room_1 s m #[Value.ref b] below meth c H locs (cells + 1) (slots + 6) Q (F0 m 1438 ls [])) : W p l e room_1 s m #[Value.ref b] below meth c H locs cells slots Q (F0 m 692 ls []) := by
  obtain ⟨hx, hb, hr, hml, hown, hts0, hX, hbl, hlocks, hgv⟩ := id C0
  have hts : ∀ w ∈ wALL, w.before #[Value.ref b] s = true := B.2.2.2.2.1
  have hbA : ¬ A b := fun h => absurd (hAf b h) (Nat.not_le.mpr hbl)
  have hc0 : cells ≤ room_1.cells := Nat.le_trans (Nat.le_add_right _ _) hc
  have hs0 : slots ≤ room_1.slots := Nat.le_trans (Nat.le_add_right _ _) hs
  refine lv_aload_n hx hb dLA_law_692 rfl (lv_at hl 1 rfl) ?_
  refine lv_aload_n hx hb dLA_law_693 rfl (lv_at hl 0 rfl) ?_
  refine lv_iload hx hb dLA_law_694 (lv_at hl 4 rfl) ?_
  refine lv_iconst (v := 1) hx hb dLA_law_696 (by decide) ?_
  refine lv_iadd hx hb dLA_law_697 ?_
  refine va_sld hx hb hX hbl hbA hw.2.2 (ixs_1 h6 hL) dLA_law_698 ?_
  refine lv_aload_n hx hb dLA_law_699 rfl (lv_at hl 0 rfl) ?_
  refine lv_iload hx hb dLA_law_700 (lv_at hl 4 rfl) ?_
  refine lv_iconst (v := 2) hx hb dLA_law_702 (by decide) ?_
  refine lv_iadd hx hb dLA_law_703 ?_
  refine va_sld hx hb hX hbl hbA hw.2.2 (ixs_2 h6 hL) dLA_law_704 ?_
  refine lv_i2l hx hb dLA_law_705 rfl ?_
  refine lv_bipush (v := 32) hx hb dLA_law_706 (by decide) ?_
  refine lv_lshl hx hb dLA_law_708 rfl ?_
  refine lv_aload_n hx hb dLA_law_709 rfl (lv_at hl 0 rfl) ?_
  refine lv_iload hx hb dLA_law_710 (lv_at hl 4 rfl) ?_
  refine lv_iconst (v := 3) hx hb dLA_law_712 (by decide) ?_
  refine lv_iadd hx hb dLA_law_713 ?_
  refine va_sld hx hb hX hbl hbA hw.2.2 (ixs_3 h6 hL) dLA_law_714 ?_
  refine lv_i2l hx hb dLA_law_715 rfl ?_
  refine lv_ldc2 (v := 4294967295) hx hb hown (hts _ wm_515) dLA_law_716 ?_
  refine lv_land hx hb dLA_law_719 ?_
  refine lv_lor hx hb dLA_law_720 ?_
  refine lv_aload_n hx hb dLA_law_721 rfl (lv_at hl 0 rfl) ?_
  refine lv_iload hx hb dLA_law_722 (lv_at hl 4 rfl) ?_
  refine lv_iconst (v := 4) hx hb dLA_law_724 (by decide) ?_
  refine lv_iadd hx hb dLA_law_725 ?_
  refine va_sld hx hb hX hbl hbA hw.2.2 (ixs_4 h6 hL) dLA_law_726 ?_
  refine lv_i2l hx hb dLA_law_727 rfl ?_
  refine lv_bipush (v := 32) hx hb dLA_law_728 (by decide) ?_
  refine lv_lshl hx hb dLA_law_730 rfl ?_
  refine lv_aload_n hx hb dLA_law_731 rfl (lv_at hl 0 rfl) ?_
  refine lv_iload hx hb dLA_law_732 (lv_at hl 4 rfl) ?_
  refine lv_iconst (v := 5) hx hb dLA_law_734 (by decide) ?_
  refine lv_iadd hx hb dLA_law_735 ?_
  refine va_sld hx hb hX hbl hbA hw.2.2 (ixs_5 h6 hL) dLA_law_736 ?_
  refine lv_i2l hx hb dLA_law_737 rfl ?_
  refine lv_ldc2 (v := 4294967295) hx hb hown (hts _ wm_515) dLA_law_738 ?_
  refine lv_land hx hb dLA_law_741 ?_
  refine lv_lor hx hb dLA_law_742 ?_
  refine V_callV (rest := []) B hi hw hA hl.1 (M_FHL_hardship l hi S (xs (nI (6 * t) + 1).toNatClampNeg) ((((xs (nI (6 * t) + 2).toNatClampNeg).toInt64) <<< ((32 : Int32).toInt64 &&& 63)) ||| (((xs (nI (6 * t) + 3).toNatClampNeg).toInt64) &&& 4294967295)) ((((xs (nI (6 * t) + 4).toNatClampNeg).toInt64) <<< ((32 : Int32).toInt64 &&& 63)) ||| (((xs (nI (6 * t) + 5).toNatClampNeg).toInt64) &&& 4294967295)) (jc_hardship h6 hL S (xs (nI (6 * t) + 1).toNatClampNeg) ((((xs (nI (6 * t) + 2).toNatClampNeg).toInt64) <<< ((32 : Int32).toInt64 &&& 63)) ||| (((xs (nI (6 * t) + 3).toNatClampNeg).toInt64) &&& 4294967295)) ((((xs (nI (6 * t) + 4).toNatClampNeg).toInt64) <<< ((32 : Int32).toInt64 &&& 63)) ||| (((xs (nI (6 * t) + 5).toNatClampNeg).toInt64) &&& 4294967295)) hJ).1) (cw_FHL_hardship (Nat.le_of_ble_eq_true rfl) (Nat.le_of_ble_eq_true rfl) hc0 hs0) (by decide) rfl rfl wm_567 wm_568 wm_569 rfl (Nat.le_of_ble_eq_true rfl) dLA_law_743 (kI (fun H locs hw => ?_))
  refine lv_pop hx hb dLA_law_746 rfl ?_
  refine lv_aload_n hx hb dLA_law_747 rfl (lv_at hl 2 rfl) ?_
  refine lv_aload_n hx hb dLA_law_748 rfl (lv_at hl 0 rfl) ?_
  refine lv_iload hx hb dLA_law_749 (lv_at hl 4 rfl) ?_
  refine lv_iconst (v := 1) hx hb dLA_law_751 (by decide) ?_
  refine lv_iadd hx hb dLA_law_752 ?_
  refine va_sld hx hb hX hbl hbA hw.2.2 (ixs_1 h6 hL) dLA_law_753 ?_
  refine lv_aload_n hx hb dLA_law_754 rfl (lv_at hl 0 rfl) ?_
  refine lv_iload hx hb dLA_law_755 (lv_at hl 4 rfl) ?_
  refine lv_iconst (v := 2) hx hb dLA_law_757 (by decide) ?_
  refine lv_iadd hx hb dLA_law_758 ?_
  refine va_sld hx hb hX hbl hbA hw.2.2 (ixs_2 h6 hL) dLA_law_759 ?_
  refine lv_i2l hx hb dLA_law_760 rfl ?_
  refine lv_bipush (v := 32) hx hb dLA_law_761 (by decide) ?_
  refine lv_lshl hx hb dLA_law_763 rfl ?_
  refine lv_aload_n hx hb dLA_law_764 rfl (lv_at hl 0 rfl) ?_
  refine lv_iload hx hb dLA_law_765 (lv_at hl 4 rfl) ?_
  refine lv_iconst (v := 3) hx hb dLA_law_767 (by decide) ?_
  refine lv_iadd hx hb dLA_law_768 ?_
  refine va_sld hx hb hX hbl hbA hw.2.2 (ixs_3 h6 hL) dLA_law_769 ?_
  refine lv_i2l hx hb dLA_law_770 rfl ?_
  refine lv_ldc2 (v := 4294967295) hx hb hown (hts _ wm_515) dLA_law_771 ?_
  refine lv_land hx hb dLA_law_774 ?_
  refine lv_lor hx hb dLA_law_775 ?_
  refine lv_aload_n hx hb dLA_law_776 rfl (lv_at hl 0 rfl) ?_
  refine lv_iload hx hb dLA_law_777 (lv_at hl 4 rfl) ?_
  refine lv_iconst (v := 4) hx hb dLA_law_779 (by decide) ?_
  refine lv_iadd hx hb dLA_law_780 ?_
  refine va_sld hx hb hX hbl hbA hw.2.2 (ixs_4 h6 hL) dLA_law_781 ?_
  refine lv_i2l hx hb dLA_law_782 rfl ?_
  refine lv_bipush (v := 32) hx hb dLA_law_783 (by decide) ?_
  refine lv_lshl hx hb dLA_law_785 rfl ?_
  refine lv_aload_n hx hb dLA_law_786 rfl (lv_at hl 0 rfl) ?_
  refine lv_iload hx hb dLA_law_787 (lv_at hl 4 rfl) ?_
  refine lv_iconst (v := 5) hx hb dLA_law_789 (by decide) ?_
  refine lv_iadd hx hb dLA_law_790 ?_
  refine va_sld hx hb hX hbl hbA hw.2.2 (ixs_5 h6 hL) dLA_law_791 ?_
  refine lv_i2l hx hb dLA_law_792 rfl ?_
  refine lv_ldc2 (v := 4294967295) hx hb hown (hts _ wm_515) dLA_law_793 ?_
  refine lv_land hx hb dLA_law_796 ?_
  refine lv_lor hx hb dLA_law_797 ?_
  refine V_callV (rest := []) B hi hw hA hl.1 (M_FMO_hardship l hi (FHL_hardship S (xs (nI (6 * t) + 1).toNatClampNeg) ((((xs (nI (6 * t) + 2).toNatClampNeg).toInt64) <<< ((32 : Int32).toInt64 &&& 63)) ||| (((xs (nI (6 * t) + 3).toNatClampNeg).toInt64) &&& 4294967295)) ((((xs (nI (6 * t) + 4).toNatClampNeg).toInt64) <<< ((32 : Int32).toInt64 &&& 63)) ||| (((xs (nI (6 * t) + 5).toNatClampNeg).toInt64) &&& 4294967295))).2 (xs (nI (6 * t) + 1).toNatClampNeg) ((((xs (nI (6 * t) + 2).toNatClampNeg).toInt64) <<< ((32 : Int32).toInt64 &&& 63)) ||| (((xs (nI (6 * t) + 3).toNatClampNeg).toInt64) &&& 4294967295)) ((((xs (nI (6 * t) + 4).toNatClampNeg).toInt64) <<< ((32 : Int32).toInt64 &&& 63)) ||| (((xs (nI (6 * t) + 5).toNatClampNeg).toInt64) &&& 4294967295)) (jc_hardship h6 hL S (xs (nI (6 * t) + 1).toNatClampNeg) ((((xs (nI (6 * t) + 2).toNatClampNeg).toInt64) <<< ((32 : Int32).toInt64 &&& 63)) ||| (((xs (nI (6 * t) + 3).toNatClampNeg).toInt64) &&& 4294967295)) ((((xs (nI (6 * t) + 4).toNatClampNeg).toInt64) <<< ((32 : Int32).toInt64 &&& 63)) ||| (((xs (nI (6 * t) + 5).toNatClampNeg).toInt64) &&& 4294967295)) hJ).2.1) (cw_FMO_hardship (Nat.le_of_ble_eq_true rfl) (Nat.le_of_ble_eq_true rfl) hc0 hs0) (by decide) rfl rfl wm_570 wm_571 wm_572 rfl (Nat.le_of_ble_eq_true rfl) dLA_law_798 (kI (fun H locs hw => ?_))
  refine lv_pop hx hb dLA_law_801 rfl ?_
  refine lv_goto (tgt := 1438) hx hb dLA_law_802 (by decide) ?_
  exact W.widen (Nat.le_add_right _ _) (Nat.le_add_right _ _) (kk _ _ _ _ (jc_hardship h6 hL S (xs (nI (6 * t) + 1).toNatClampNeg) ((((xs (nI (6 * t) + 2).toNatClampNeg).toInt64) <<< ((32 : Int32).toInt64 &&& 63)) ||| (((xs (nI (6 * t) + 3).toNatClampNeg).toInt64) &&& 4294967295)) ((((xs (nI (6 * t) + 4).toNatClampNeg).toInt64) <<< ((32 : Int32).toInt64 &&& 63)) ||| (((xs (nI (6 * t) + 5).toNatClampNeg).toInt64) &&& 4294967295)) hJ).2.2.2 hw hl)
set_option maxHeartbeats 4000000 in
set_option maxRecDepth 100000 in
theorem LC_10 {p : Program} {e : Env} {s : State} {m : MethodId} {below : List Frame} {meth : Method} {c : Code} (l : Launch) {b L : Nat} {xs : Nat → Int32} (hL : L ≤ 3072) (C0 : lw_At p s m meth c b L xs) {ad : Nat → Nat} {cI cL : ClassId} {dC : Nat → ClassId} {dI : Nat → Nat → Nat} {A : Nat → Prop} {sa : Nat} (hfl : l.flags = flags0) (hi : adI ad) (B : Bs p s m #[Value.ref b] c RLA code 7 cI cL dC dI) (hA : ∀ q, AA ad s.heap.size q → A q) (hAf : ∀ q, A q → s.heap.size ≤ q) (hz0 : zz A s s.heap) (hstr : vk_R RHL sIX sTX sa s) {t cells slots : Nat} {Q : State → Prop} (h6 : 6 * t + 6 ≤ L) (hc : cells + 1 ≤ room_1.cells) (hs : slots + 6 ≤ room_1.slots) (S : hS) (H : Heap) (locs : List Loc) (ls : Array Slot) (hJ : Jv t S) (hw : Wd ad cI cL dC dI A s.heap S H locs) (hl : lv_has ls 7 [(0, .ref b), (1, .ref (ad 0)), (2, .ref (ad 49)), (3, .ref (ad 52)), (4, .int (nI (6 * t)))]) (kk : ∀ (S1 : hS) (H : Heap) (locs : List Loc) (ls : Array Slot), Jv (t + 1) S1 → Wd ad cI cL dC dI A s.heap S1 H locs → lv_has ls 7 [(0, .ref b), (1, .ref (ad 0)), (2, .ref (ad 49)), (3, .ref (ad 52)), (4, .int (nI (6 * t)))] → W p l e room_1 s m #[Value.ref b] below meth c H locs (cells + 1) (slots + 6) Q (F0 m 1438 ls [])) : W p l e room_1 s m #[Value.ref b] below meth c H locs cells slots Q (F0 m 805 ls []) := by
  obtain ⟨hx, hb, hr, hml, hown, hts0, hX, hbl, hlocks, hgv⟩ := id C0
  have hts : ∀ w ∈ wALL, w.before #[Value.ref b] s = true := B.2.2.2.2.1
  have hbA : ¬ A b := fun h => absurd (hAf b h) (Nat.not_le.mpr hbl)
  have hc0 : cells ≤ room_1.cells := Nat.le_trans (Nat.le_add_right _ _) hc
  have hs0 : slots ≤ room_1.slots := Nat.le_trans (Nat.le_add_right _ _) hs
  refine lv_aload_n hx hb dLA_law_805 rfl (lv_at hl 1 rfl) ?_
  refine lv_aload_n hx hb dLA_law_806 rfl (lv_at hl 0 rfl) ?_
  refine lv_iload hx hb dLA_law_807 (lv_at hl 4 rfl) ?_
  refine lv_iconst (v := 1) hx hb dLA_law_809 (by decide) ?_
  refine lv_iadd hx hb dLA_law_810 ?_
  refine va_sld hx hb hX hbl hbA hw.2.2 (ixs_1 h6 hL) dLA_law_811 ?_
  refine lv_aload_n hx hb dLA_law_812 rfl (lv_at hl 0 rfl) ?_
  refine lv_iload hx hb dLA_law_813 (lv_at hl 4 rfl) ?_
  refine lv_iconst (v := 2) hx hb dLA_law_815 (by decide) ?_
  refine lv_iadd hx hb dLA_law_816 ?_
  refine va_sld hx hb hX hbl hbA hw.2.2 (ixs_2 h6 hL) dLA_law_817 ?_
  refine V_callV (rest := []) B hi hw hA hl.1 (M_FHL_instal l hi S (xs (nI (6 * t) + 1).toNatClampNeg) (xs (nI (6 * t) + 2).toNatClampNeg) (jc_instal h6 hL S (xs (nI (6 * t) + 1).toNatClampNeg) (xs (nI (6 * t) + 2).toNatClampNeg) hJ).1) (cw_FHL_instal (Nat.le_of_ble_eq_true rfl) (Nat.le_of_ble_eq_true rfl) hc0 hs0) (by decide) rfl rfl wm_573 wm_574 wm_575 rfl (Nat.le_of_ble_eq_true rfl) dLA_law_818 (kI (fun H locs hw => ?_))
  refine lv_pop hx hb dLA_law_821 rfl ?_
  refine lv_aload_n hx hb dLA_law_822 rfl (lv_at hl 2 rfl) ?_
  refine lv_aload_n hx hb dLA_law_823 rfl (lv_at hl 0 rfl) ?_
  refine lv_iload hx hb dLA_law_824 (lv_at hl 4 rfl) ?_
  refine lv_iconst (v := 1) hx hb dLA_law_826 (by decide) ?_
  refine lv_iadd hx hb dLA_law_827 ?_
  refine va_sld hx hb hX hbl hbA hw.2.2 (ixs_1 h6 hL) dLA_law_828 ?_
  refine lv_aload_n hx hb dLA_law_829 rfl (lv_at hl 0 rfl) ?_
  refine lv_iload hx hb dLA_law_830 (lv_at hl 4 rfl) ?_
  refine lv_iconst (v := 2) hx hb dLA_law_832 (by decide) ?_
  refine lv_iadd hx hb dLA_law_833 ?_
  refine va_sld hx hb hX hbl hbA hw.2.2 (ixs_2 h6 hL) dLA_law_834 ?_
  refine V_callV (rest := []) B hi hw hA hl.1 (M_FMO_instal l hi (FHL_instal S (xs (nI (6 * t) + 1).toNatClampNeg) (xs (nI (6 * t) + 2).toNatClampNeg)).2 (xs (nI (6 * t) + 1).toNatClampNeg) (xs (nI (6 * t) + 2).toNatClampNeg) (jc_instal h6 hL S (xs (nI (6 * t) + 1).toNatClampNeg) (xs (nI (6 * t) + 2).toNatClampNeg) hJ).2.1) (cw_FMO_instal (Nat.le_of_ble_eq_true rfl) (Nat.le_of_ble_eq_true rfl) hc0 hs0) (by decide) rfl rfl wm_576 wm_577 wm_578 rfl (Nat.le_of_ble_eq_true rfl) dLA_law_835 (kI (fun H locs hw => ?_))
  refine lv_pop hx hb dLA_law_838 rfl ?_
  refine lv_goto (tgt := 1438) hx hb dLA_law_839 (by decide) ?_
  exact W.widen (Nat.le_add_right _ _) (Nat.le_add_right _ _) (kk _ _ _ _ (jc_instal h6 hL S (xs (nI (6 * t) + 1).toNatClampNeg) (xs (nI (6 * t) + 2).toNatClampNeg) hJ).2.2.2 hw hl)
set_option maxHeartbeats 4000000 in
set_option maxRecDepth 100000 in
theorem LC_11 {p : Program} {e : Env} {s : State} {m : MethodId} {below : List Frame} {meth : Method} {c : Code} (l : Launch) {b L : Nat} {xs : Nat → Int32} (hL : L ≤ 3072) (C0 : lw_At p s m meth c b L xs) {ad : Nat → Nat} {cI cL : ClassId} {dC : Nat → ClassId} {dI : Nat → Nat → Nat} {A : Nat → Prop} {sa : Nat} (hfl : l.flags = flags0) (hi : adI ad) (B : Bs p s m #[Value.ref b] c RLA code 7 cI cL dC dI) (hA : ∀ q, AA ad s.heap.size q → A q) (hAf : ∀ q, A q → s.heap.size ≤ q) (hz0 : zz A s s.heap) (hstr : vk_R RHL sIX sTX sa s) {t cells slots : Nat} {Q : State → Prop} (h6 : 6 * t + 6 ≤ L) (hc : cells + 1 ≤ room_1.cells) (hs : slots + 6 ≤ room_1.slots) (S : hS) (H : Heap) (locs : List Loc) (ls : Array Slot) (hJ : Jv t S) (hw : Wd ad cI cL dC dI A s.heap S H locs) (hl : lv_has ls 7 [(0, .ref b), (1, .ref (ad 0)), (2, .ref (ad 49)), (3, .ref (ad 52)), (4, .int (nI (6 * t)))]) (kk : ∀ (S1 : hS) (H : Heap) (locs : List Loc) (ls : Array Slot), Jv (t + 1) S1 → Wd ad cI cL dC dI A s.heap S1 H locs → lv_has ls 7 [(0, .ref b), (1, .ref (ad 0)), (2, .ref (ad 49)), (3, .ref (ad 52)), (4, .int (nI (6 * t)))] → W p l e room_1 s m #[Value.ref b] below meth c H locs (cells + 1) (slots + 6) Q (F0 m 1438 ls [])) : W p l e room_1 s m #[Value.ref b] below meth c H locs cells slots Q (F0 m 842 ls []) := by
  obtain ⟨hx, hb, hr, hml, hown, hts0, hX, hbl, hlocks, hgv⟩ := id C0
  have hts : ∀ w ∈ wALL, w.before #[Value.ref b] s = true := B.2.2.2.2.1
  have hbA : ¬ A b := fun h => absurd (hAf b h) (Nat.not_le.mpr hbl)
  have hc0 : cells ≤ room_1.cells := Nat.le_trans (Nat.le_add_right _ _) hc
  have hs0 : slots ≤ room_1.slots := Nat.le_trans (Nat.le_add_right _ _) hs
  refine lv_aload_n hx hb dLA_law_842 rfl (lv_at hl 1 rfl) ?_
  refine lv_aload_n hx hb dLA_law_843 rfl (lv_at hl 0 rfl) ?_
  refine lv_iload hx hb dLA_law_844 (lv_at hl 4 rfl) ?_
  refine lv_iconst (v := 1) hx hb dLA_law_846 (by decide) ?_
  refine lv_iadd hx hb dLA_law_847 ?_
  refine va_sld hx hb hX hbl hbA hw.2.2 (ixs_1 h6 hL) dLA_law_848 ?_
  refine lv_aload_n hx hb dLA_law_849 rfl (lv_at hl 0 rfl) ?_
  refine lv_iload hx hb dLA_law_850 (lv_at hl 4 rfl) ?_
  refine lv_iconst (v := 2) hx hb dLA_law_852 (by decide) ?_
  refine lv_iadd hx hb dLA_law_853 ?_
  refine va_sld hx hb hX hbl hbA hw.2.2 (ixs_2 h6 hL) dLA_law_854 ?_
  refine V_callV (rest := []) B hi hw hA hl.1 (M_FHL_due l hi S (xs (nI (6 * t) + 1).toNatClampNeg) (xs (nI (6 * t) + 2).toNatClampNeg) (jc_due h6 hL S (xs (nI (6 * t) + 1).toNatClampNeg) (xs (nI (6 * t) + 2).toNatClampNeg) hJ).1) (cw_FHL_due (Nat.le_of_ble_eq_true rfl) (Nat.le_of_ble_eq_true rfl) hc0 hs0) (by decide) rfl rfl wm_579 wm_580 wm_581 rfl (Nat.le_of_ble_eq_true rfl) dLA_law_855 (kL (fun H locs hw => ?_))
  refine lv_pop2_2 hx hb dLA_law_858 rfl ?_
  refine lv_aload_n hx hb dLA_law_859 rfl (lv_at hl 2 rfl) ?_
  refine lv_aload_n hx hb dLA_law_860 rfl (lv_at hl 0 rfl) ?_
  refine lv_iload hx hb dLA_law_861 (lv_at hl 4 rfl) ?_
  refine lv_iconst (v := 1) hx hb dLA_law_863 (by decide) ?_
  refine lv_iadd hx hb dLA_law_864 ?_
  refine va_sld hx hb hX hbl hbA hw.2.2 (ixs_1 h6 hL) dLA_law_865 ?_
  refine lv_aload_n hx hb dLA_law_866 rfl (lv_at hl 0 rfl) ?_
  refine lv_iload hx hb dLA_law_867 (lv_at hl 4 rfl) ?_
  refine lv_iconst (v := 2) hx hb dLA_law_869 (by decide) ?_
  refine lv_iadd hx hb dLA_law_870 ?_
  refine va_sld hx hb hX hbl hbA hw.2.2 (ixs_2 h6 hL) dLA_law_871 ?_
  refine V_callV (rest := []) B hi hw hA hl.1 (M_FMO_due l hi S (xs (nI (6 * t) + 1).toNatClampNeg) (xs (nI (6 * t) + 2).toNatClampNeg) (jc_due h6 hL S (xs (nI (6 * t) + 1).toNatClampNeg) (xs (nI (6 * t) + 2).toNatClampNeg) hJ).2.1) (cw_FMO_due (Nat.le_of_ble_eq_true rfl) (Nat.le_of_ble_eq_true rfl) hc0 hs0) (by decide) rfl rfl wm_582 wm_583 wm_584 rfl (Nat.le_of_ble_eq_true rfl) dLA_law_872 (kL (fun H locs hw => ?_))
  refine lv_pop2_2 hx hb dLA_law_875 rfl ?_
  refine lv_goto (tgt := 1438) hx hb dLA_law_876 (by decide) ?_
  exact W.widen (Nat.le_add_right _ _) (Nat.le_add_right _ _) (kk _ _ _ _ (jc_due h6 hL S (xs (nI (6 * t) + 1).toNatClampNeg) (xs (nI (6 * t) + 2).toNatClampNeg) hJ).2.2.2 hw hl)
