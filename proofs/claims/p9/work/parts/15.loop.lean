set_option maxHeartbeats 4000000 in
set_option maxRecDepth 100000 in
theorem law_loop {p : Program} {e : Env} {s : State} {m : MethodId} {below : List Frame} {meth : Method} {c : Code} (l : Launch) {b L : Nat} {xs : Nat → Int32} (hL : L ≤ 3072) (C0 : lw_At p s m meth c b L xs) {ad : Nat → Nat} {cI cL : ClassId} {dC : Nat → ClassId} {dI : Nat → Nat → Nat} {A : Nat → Prop} {sa : Nat} (hfl : l.flags = flags0) (hi : adI ad) (B : Bs p s m #[Value.ref b] c RLA code 7 cI cL dC dI) (hA : ∀ q, AA ad s.heap.size q → A q) (hAf : ∀ q, A q → s.heap.size ≤ q) (hz0 : zz A s s.heap) (hstr : vk_R RHL sIX sTX sa s) : ∀ (n t : Nat) (S : hS) (H : Heap) (locs : List Loc) (ls : Array Slot), 6 * t ≤ L → L - 6 * t < n → Jv t S → Wd ad cI cL dC dI A s.heap S H locs → lv_has ls 7 [(0, .ref b), (1, .ref (ad 0)), (2, .ref (ad 49)), (3, .ref (ad 52)), (4, .int (nI (6 * t)))] → W p l e room_1 s m #[Value.ref b] below meth c H locs (53 + 1 * t) (5604 + 6 * t) (lw_Z below #[Value.ref b] s) (F0 m 23 ls []) := by
  intro n
  obtain ⟨hx, hb, hr, hml, hown, hts0, hX, hbl, hlocks, hgv⟩ := id C0
  have hts : ∀ w ∈ wALL, w.before #[Value.ref b] s = true := B.2.2.2.2.1
  have hbA : ¬ A b := fun h => absurd (hAf b h) (Nat.not_le.mpr hbl)
  induction n with
  | zero => exact fun t S H locs ls _ h => absurd h (Nat.not_lt_zero _)
  | succ n ih =>
    intro t S H locs ls ht hn hJ hw hl
    refine lv_iload hx hb dLA_law_23 (lv_at hl 4 rfl) ?_
    refine lv_aload_n hx hb dLA_law_25 rfl (lv_at hl 0 rfl) ?_
    refine va_slen hx hb hX hbl hbA hw.2.2 dLA_law_26 ?_
    refine lv_bipush (v := 6) hx hb dLA_law_27 (by decide) ?_
    refine lv_isub hx hb dLA_law_29 ?_
    refine lv_icmp_gt (tgt := 1416) hx hb dLA_law_30 (by decide) (fun _ => ?_) (fun c1 => ?_)
    · refine va_forget (fun q hq => hAf _ (hw.2.2.2.2 q hq)) ?_
      refine W.widen (k := 1078) (n := 13802) (by omega) (by omega) ?_
      refine lv_iconst (v := 1) hx hb dLA_law_1416 (by decide) ?_
      exact lw_ret hx hb hr hlocks dLA_law_1417
    · have h6 : 6 * t + 6 ≤ L := lw_turn (by omega) (by omega) c1
      have hc : (53 + 1 * t) + 1 ≤ room_1.cells := Nat.le_trans (show _ ≤ 565 by omega) (Nat.le_of_ble_eq_true rfl)
      have hs : (5604 + 6 * t) + 6 ≤ room_1.slots := Nat.le_trans (show _ ≤ 8676 by omega) (Nat.le_of_ble_eq_true rfl)
      have kk : ∀ (S1 : hS) (H : Heap) (locs : List Loc) (ls : Array Slot), Jv (t + 1) S1 → Wd ad cI cL dC dI A s.heap S1 H locs → lv_has ls 7 [(0, .ref b), (1, .ref (ad 0)), (2, .ref (ad 49)), (3, .ref (ad 52)), (4, .int (nI (6 * t)))] → W p l e room_1 s m #[Value.ref b] below meth c H locs ((53 + 1 * t) + 1) ((5604 + 6 * t) + 6) (lw_Z below #[Value.ref b] s) (F0 m 1410 ls []) := by
        intro S1 H locs ls hJ hw hl
        refine lv_iinc (v := nI (6 * (t + 1))) (lv' := [(4, .int (nI (6 * (t + 1)))), (0, .ref b), (1, .ref (ad 0)), (2, .ref (ad 49)), (3, .ref (ad 52))]) hx hb dLA_law_1410 hl (k := 4) rfl (nI_6 t) (by decide) rfl (fun ls hl => ?_)
        refine lv_goto (tgt := 23) hx hb dLA_law_1413 (by decide) ?_
        exact W.widen (by omega) (by omega) (ih (t + 1) S1 H locs ls (by omega) (by omega) hJ hw (lv_sub hl [1, 2, 3, 4, 0] rfl))
      refine lv_aload_n hx hb dLA_law_33 rfl (lv_at hl 0 rfl) ?_
      refine lv_iload hx hb dLA_law_34 (lv_at hl 4 rfl) ?_
      refine va_sld hx hb hX hbl hbA hw.2.2 (ixs_0 h6 hL) dLA_law_36 ?_
      refine lv_bipush (v := 31) hx hb dLA_law_37 (by decide) ?_
      refine lv_iand hx hb dLA_law_39 ?_
      refine lv_topi (fun z _ => ?_)
      rcases sw23 z with rfl | rfl | rfl | rfl | rfl | rfl | rfl | rfl | rfl | rfl | rfl | rfl | rfl | rfl | rfl | rfl | rfl | rfl | rfl | rfl | rfl | rfl | rfl | hz
      · exact lv_tableIn (off := 108) (tgt := 148) hx hb dLA_law_40 (by decide) (by decide) (by rfl) (by decide) (LC_0 l hL C0 hfl hi B hA hAf hz0 hstr h6 hc hs S H locs ls hJ hw hl kk)
      · exact lv_tableIn (off := 133) (tgt := 173) hx hb dLA_law_40 (by decide) (by decide) (by rfl) (by decide) (LC_1 l hL C0 hfl hi B hA hAf hz0 hstr h6 hc hs S H locs ls hJ hw hl kk)
      · exact lv_tableIn (off := 190) (tgt := 230) hx hb dLA_law_40 (by decide) (by decide) (by rfl) (by decide) (LC_2 l hL C0 hfl hi B hA hAf hz0 hstr h6 hc hs S H locs ls hJ hw hl kk)
      · exact lv_tableIn (off := 271) (tgt := 311) hx hb dLA_law_40 (by decide) (by decide) (by rfl) (by decide) (LC_3 l hL C0 hfl hi B hA hAf hz0 hstr h6 hc hs S H locs ls hJ hw hl kk)
      · exact lv_tableIn (off := 299) (tgt := 339) hx hb dLA_law_40 (by decide) (by decide) (by rfl) (by decide) (LC_4 l hL C0 hfl hi B hA hAf hz0 hstr h6 hc hs S H locs ls hJ hw hl kk)
      · exact lv_tableIn (off := 368) (tgt := 408) hx hb dLA_law_40 (by decide) (by decide) (by rfl) (by decide) (LC_5 l hL C0 hfl hi B hA hAf hz0 hstr h6 hc hs S H locs ls hJ hw hl kk)
      · exact lv_tableIn (off := 481) (tgt := 521) hx hb dLA_law_40 (by decide) (by decide) (by rfl) (by decide) (LC_6 l hL C0 hfl hi B hA hAf hz0 hstr h6 hc hs S H locs ls hJ hw hl kk)
      · exact lv_tableIn (off := 518) (tgt := 558) hx hb dLA_law_40 (by decide) (by decide) (by rfl) (by decide) (LC_7 l hL C0 hfl hi B hA hAf hz0 hstr h6 hc hs S H locs ls hJ hw hl kk)
      · exact lv_tableIn (off := 555) (tgt := 595) hx hb dLA_law_40 (by decide) (by decide) (by rfl) (by decide) (LC_8 l hL C0 hfl hi B hA hAf hz0 hstr h6 hc hs S H locs ls hJ hw hl kk)
      · exact lv_tableIn (off := 624) (tgt := 664) hx hb dLA_law_40 (by decide) (by decide) (by rfl) (by decide) (LC_9 l hL C0 hfl hi B hA hAf hz0 hstr h6 hc hs S H locs ls hJ hw hl kk)
      · exact lv_tableIn (off := 737) (tgt := 777) hx hb dLA_law_40 (by decide) (by decide) (by rfl) (by decide) (LC_10 l hL C0 hfl hi B hA hAf hz0 hstr h6 hc hs S H locs ls hJ hw hl kk)
      · exact lv_tableIn (off := 774) (tgt := 814) hx hb dLA_law_40 (by decide) (by decide) (by rfl) (by decide) (LC_11 l hL C0 hfl hi B hA hAf hz0 hstr h6 hc hs S H locs ls hJ hw hl kk)
      · exact lv_tableIn (off := 811) (tgt := 851) hx hb dLA_law_40 (by decide) (by decide) (by rfl) (by decide) (LC_12 l hL C0 hfl hi B hA hAf hz0 hstr h6 hc hs S H locs ls hJ hw hl kk)
      · exact lv_tableIn (off := 892) (tgt := 932) hx hb dLA_law_40 (by decide) (by decide) (by rfl) (by decide) (LC_13 l hL C0 hfl hi B hA hAf hz0 hstr h6 hc hs S H locs ls hJ hw hl kk)
      · exact lv_tableIn (off := 941) (tgt := 981) hx hb dLA_law_40 (by decide) (by decide) (by rfl) (by decide) (LC_14 l hL C0 hfl hi B hA hAf hz0 hstr h6 hc hs S H locs ls hJ hw hl kk)
      · exact lv_tableIn (off := 954) (tgt := 994) hx hb dLA_law_40 (by decide) (by decide) (by rfl) (by decide) (LC_15 l hL C0 hfl hi B hA hAf hz0 hstr h6 hc hs S H locs ls hJ hw hl kk)
      · exact lv_tableIn (off := 995) (tgt := 1035) hx hb dLA_law_40 (by decide) (by decide) (by rfl) (by decide) (LC_16 l hL C0 hfl hi B hA hAf hz0 hstr h6 hc hs S H locs ls hJ hw hl kk)
      · exact lv_tableIn (off := 1020) (tgt := 1060) hx hb dLA_law_40 (by decide) (by decide) (by rfl) (by decide) (LC_17 l hL C0 hfl hi B hA hAf hz0 hstr h6 hc hs S H locs ls hJ hw hl kk)
      · exact lv_tableIn (off := 1089) (tgt := 1129) hx hb dLA_law_40 (by decide) (by decide) (by rfl) (by decide) (LC_18 l hL C0 hfl hi B hA hAf hz0 hstr h6 hc hs S H locs ls hJ hw hl kk)
      · exact lv_tableIn (off := 1170) (tgt := 1210) hx hb dLA_law_40 (by decide) (by decide) (by rfl) (by decide) (LC_19 l hL C0 hfl hi B hA hAf hz0 hstr h6 hc hs S H locs ls hJ hw hl kk)
      · exact lv_tableIn (off := 1271) (tgt := 1311) hx hb dLA_law_40 (by decide) (by decide) (by rfl) (by decide) (LC_20 l hL C0 hfl hi B hA hAf hz0 hstr h6 hc hs S H locs ls hJ hw hl kk)
      · exact lv_tableIn (off := 1320) (tgt := 1360) hx hb dLA_law_40 (by decide) (by decide) (by rfl) (by decide) (LC_21 l hL C0 hfl hi B hA hAf hz0 hstr h6 hc hs S H locs ls hJ hw hl kk)
      · exact lv_tableIn (off := 1345) (tgt := 1385) hx hb dLA_law_40 (by decide) (by decide) (by rfl) (by decide) (LC_22 l hL C0 hfl hi B hA hAf hz0 hstr h6 hc hs S H locs ls hJ hw hl kk)
      · exact lv_tableOut (tgt := 1410) hx hb dLA_law_40 hz (by decide) (W.widen (Nat.le_add_right _ _) (Nat.le_add_right _ _) (kk S H locs ls (jc_none h6 hL S hJ) hw hl))
