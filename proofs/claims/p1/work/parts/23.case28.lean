set_option maxHeartbeats 4000000 in
set_option maxRecDepth 100000 in
theorem lc_28 {p : Program} {l : Launch} {e : Env} {s : State} {m : MethodId} {below : List Frame} {meth : Method} {c : Code} {sb : Nat} {xs : Nat → Int32} (C0 : lw_At p s m meth c sb 7 xs) {D : va_G} {Y : Nat → ClassId} {Z : Nat → Nat} (hKN : KN D Y Z s) {A : Nat → Prop} (hA : ∀ q, s.heap.size ≤ q → A q) (hA2 : ∀ q, A q → s.heap.size ≤ q) {o o2 : Nat} {b a : Nat → Nat} {H : Heap} {locs : List Loc} {ls : Array Slot} (hP : va_P D vwCl (LW Y Z o o2 b a) H) (hD : va_D A (LW Y Z o o2 b a)) (hS : va_S A s.heap H locs) (hl : lv_has ls 4 [(3, .int 0), (2, .ref o2), (1, .ref o), (0, .ref sb)]) : W p l e room_1 s m #[Value.ref sb] below meth c H locs 70 52824 (lw_Z below #[Value.ref sb] s) (F0 m 1447 ls []) := by
  obtain ⟨hx, hb, hr, hml, hown, hts, hX, hbl, hlocks, hgv⟩ := id C0
  have hb : c.code = cL_law := hb
  have hown : s.vm.findClass RL = some m.cls := hown
  have hg : ∀ w ∈ GW, w.before #[Value.ref sb] s = true := fun w h => hts w (gw_tbl h)
  have hbA : ¬ A sb := fun h => absurd (hA2 sb h) (Nat.not_le.mpr hbl)
  refine lv_aload_n hx hb dL_law_1447 rfl (lv_at hl 2 rfl) ?_
  refine lv_aload_n hx hb dL_law_1448 rfl (lv_at hl 3 rfl) ?_
  refine lv_iload_n hx hb dL_law_1449 rfl (lv_at hl 0 rfl) ?_
  refine lv_iconst (v := 1) hx hb dL_law_1450 (by decide) ?_
  refine lv_iadd hx hb dL_law_1451 ?_
  refine lv_topi (fun z1 ez1 => ?_)
  obtain rfl : z1 = 1 := ez1.trans (by decide)
  refine va_sld hx hb hX hbl hbA hS (show ¬ ((1 : Int32) < 0 ∨ 7 ≤ (1 : Int32).toNatClampNeg) by decide) dL_law_1452 ?_
  refine W.eq (g2 := F0 m 1453 ls [.int (xs 1), .ref o]) rfl ?_
  refine lv_aload_n hx hb dL_law_1453 rfl (lv_at hl 3 rfl) ?_
  refine lv_iload_n hx hb dL_law_1454 rfl (lv_at hl 0 rfl) ?_
  refine lv_iconst (v := 2) hx hb dL_law_1455 (by decide) ?_
  refine lv_iadd hx hb dL_law_1456 ?_
  refine lv_topi (fun z2 ez2 => ?_)
  obtain rfl : z2 = 2 := ez2.trans (by decide)
  refine va_sld hx hb hX hbl hbA hS (show ¬ ((2 : Int32) < 0 ∨ 7 ≤ (2 : Int32).toNatClampNeg) by decide) dL_law_1457 ?_
  refine W.eq (g2 := F0 m 1458 ls [.int (xs 2), .int (xs 1), .ref o]) rfl ?_
  refine lv_aload_n hx hb dL_law_1458 rfl (lv_at hl 3 rfl) ?_
  refine lv_iload_n hx hb dL_law_1459 rfl (lv_at hl 0 rfl) ?_
  refine lv_iconst (v := 3) hx hb dL_law_1460 (by decide) ?_
  refine lv_iadd hx hb dL_law_1461 ?_
  refine lv_topi (fun z3 ez3 => ?_)
  obtain rfl : z3 = 3 := ez3.trans (by decide)
  refine va_sld hx hb hX hbl hbA hS (show ¬ ((3 : Int32) < 0 ∨ 7 ≤ (3 : Int32).toNatClampNeg) by decide) dL_law_1462 ?_
  refine W.eq (g2 := F0 m 1463 ls [.int (xs 3), .int (xs 2), .int (xs 1), .ref o]) rfl ?_
  refine cg (wc := [(o, .inr (10, (dsF b)))]) (wr := (((b 0), .inr (6, (skF b))) :: ((b 16), .inl (Y 7, 12, .inr (.inr (.inr (.inr (fun _ => none)))))) :: ((b 17), .inl (Y 8, 40, .inr (.inr (.inr (.inr (fun _ => none)))))) :: ((b 18), .inl (Y 0, 12, .inl (fun _ => 0))) :: ((b 19), .inl (Y 0, 12, .inl (fun _ => 0))) :: ((b 20), .inl (Y 0, 8, .inl (fun _ => 0))) :: ((b 21), .inl (Y 0, 8, .inl (fun _ => 0))) :: ((b 22), .inl (Y 2, 400, .inl (fun _ => 0))) :: ((b 1), .inl (Y 4, 4, .inr (.inr (.inr (.inr (fun _ => none)))))) :: ((b 5), .inr (3, (paF Z b))) :: ((b 24), .inr (8, (txF b))) :: (o2, .inr (11, (moF a))) :: ((a 0), .inl (Y 0, 7533, .inl tolF)) :: ((a 2), .inl (Y 2, 400, .inl (fun _ => 0))) :: ((a 3), .inl (Y 0, 3, .inl (fun _ => 0))) :: ((a 5), .inl (Y 0, 18, .inl (fun _ => 0))) :: ((a 7), .inl (Y 0, 18, .inl (fun _ => 0))) :: ((a 8), .inl (Y 0, 18, .inl (fun _ => 0))) :: ((a 9), .inl (Y 0, 18, .inl (fun _ => 0))) :: ((a 11), .inl (Y 0, 18, .inl (fun _ => 0))) :: ((a 13), .inl (Y 0, 18, .inl (fun _ => 0))) :: ((a 14), .inl (Y 0, 18, .inl (fun _ => 0))) :: ((a 26), .inl (Y 0, 30132, .inl (fun _ => 0))) :: ((a 27), .inl (Y 3, 4, .inl (fun _ => 0))) :: [])) [0] [1, 2, 3, 4, 5, 6, 7, 8, 9, 10, 11, 12, 13, 14, 15, 16, 17, 18, 19, 20, 21, 22, 23, 24] (rn_V (As := [.int (xs 1), .int (xs 2), .int (xs 3)]) (rest := []) (b := o) (x_alias l D Y Z H.size o b (xs 1) (xs 2) (xs 3)) ⟨hx, hb, hml, hown, hg⟩ lk_L_137 ⟨CP.blind, va_recv hKN.1 hP (ci := 10) (q0 := 0) rfl rfl, CP.at (hP.sub [0] rfl) hKN (hD.sub [0] (by decide) rfl)⟩ ⟨⟨rfl, rfl⟩, ⟨Nat.le_of_ble_eq_true rfl, Nat.le_of_ble_eq_true rfl⟩, ⟨Nat.le_of_ble_eq_true rfl, Nat.le_of_ble_eq_true rfl⟩⟩ hl.1 rfl (Nat.le_of_ble_eq_true rfl) dL_law_1463) hP hD hS hA rfl rfl (by decide) (by decide) (fun u4 H locs w5 hP hD hS => ?_)
  refine W.eq (g2 := F0 m 1466 ls [.long (-1)]) rfl ?_
  have hP : va_P D vwCl (((b 0), .inr (6, (skF b))) :: ((b 16), .inl (Y 7, 12, .inr (.inr (.inr (.inr (fun _ => none)))))) :: ((b 17), .inl (Y 8, 40, .inr (.inr (.inr (.inr (fun _ => none)))))) :: ((b 18), .inl (Y 0, 12, .inl (fun _ => 0))) :: ((b 19), .inl (Y 0, 12, .inl (fun _ => 0))) :: ((b 20), .inl (Y 0, 8, .inl (fun _ => 0))) :: ((b 21), .inl (Y 0, 8, .inl (fun _ => 0))) :: ((b 22), .inl (Y 2, 400, .inl (fun _ => 0))) :: ((b 1), .inl (Y 4, 4, .inr (.inr (.inr (.inr (fun _ => none)))))) :: ((b 5), .inr (3, (paF Z b))) :: ((b 24), .inr (8, (txF b))) :: (o2, .inr (11, (moF a))) :: ((a 0), .inl (Y 0, 7533, .inl tolF)) :: ((a 2), .inl (Y 2, 400, .inl (fun _ => 0))) :: ((a 3), .inl (Y 0, 3, .inl (fun _ => 0))) :: ((a 5), .inl (Y 0, 18, .inl (fun _ => 0))) :: ((a 7), .inl (Y 0, 18, .inl (fun _ => 0))) :: ((a 8), .inl (Y 0, 18, .inl (fun _ => 0))) :: ((a 9), .inl (Y 0, 18, .inl (fun _ => 0))) :: ((a 11), .inl (Y 0, 18, .inl (fun _ => 0))) :: ((a 13), .inl (Y 0, 18, .inl (fun _ => 0))) :: ((a 14), .inl (Y 0, 18, .inl (fun _ => 0))) :: ((a 26), .inl (Y 0, 30132, .inl (fun _ => 0))) :: ((a 27), .inl (Y 3, 4, .inl (fun _ => 0))) :: []) H := hP
  have hD : va_D A (((b 0), .inr (6, (skF b))) :: ((b 16), .inl (Y 7, 12, .inr (.inr (.inr (.inr (fun _ => none)))))) :: ((b 17), .inl (Y 8, 40, .inr (.inr (.inr (.inr (fun _ => none)))))) :: ((b 18), .inl (Y 0, 12, .inl (fun _ => 0))) :: ((b 19), .inl (Y 0, 12, .inl (fun _ => 0))) :: ((b 20), .inl (Y 0, 8, .inl (fun _ => 0))) :: ((b 21), .inl (Y 0, 8, .inl (fun _ => 0))) :: ((b 22), .inl (Y 2, 400, .inl (fun _ => 0))) :: ((b 1), .inl (Y 4, 4, .inr (.inr (.inr (.inr (fun _ => none)))))) :: ((b 5), .inr (3, (paF Z b))) :: ((b 24), .inr (8, (txF b))) :: (o2, .inr (11, (moF a))) :: ((a 0), .inl (Y 0, 7533, .inl tolF)) :: ((a 2), .inl (Y 2, 400, .inl (fun _ => 0))) :: ((a 3), .inl (Y 0, 3, .inl (fun _ => 0))) :: ((a 5), .inl (Y 0, 18, .inl (fun _ => 0))) :: ((a 7), .inl (Y 0, 18, .inl (fun _ => 0))) :: ((a 8), .inl (Y 0, 18, .inl (fun _ => 0))) :: ((a 9), .inl (Y 0, 18, .inl (fun _ => 0))) :: ((a 11), .inl (Y 0, 18, .inl (fun _ => 0))) :: ((a 13), .inl (Y 0, 18, .inl (fun _ => 0))) :: ((a 14), .inl (Y 0, 18, .inl (fun _ => 0))) :: ((a 26), .inl (Y 0, 30132, .inl (fun _ => 0))) :: ((a 27), .inl (Y 3, 4, .inl (fun _ => 0))) :: []) := hD
  refine lv_aload_n hx hb dL_law_1466 rfl (lv_at hl 1 rfl) ?_
  refine lv_aload_n hx hb dL_law_1467 rfl (lv_at hl 3 rfl) ?_
  refine lv_iload_n hx hb dL_law_1468 rfl (lv_at hl 0 rfl) ?_
  refine lv_iconst (v := 1) hx hb dL_law_1469 (by decide) ?_
  refine lv_iadd hx hb dL_law_1470 ?_
  refine lv_topi (fun z6 ez6 => ?_)
  obtain rfl : z6 = 1 := ez6.trans (by decide)
  refine va_sld hx hb hX hbl hbA hS (show ¬ ((1 : Int32) < 0 ∨ 7 ≤ (1 : Int32).toNatClampNeg) by decide) dL_law_1471 ?_
  refine W.eq (g2 := F0 m 1472 ls [.int (xs 1), .ref o2, .long (-1)]) rfl ?_
  refine lv_aload_n hx hb dL_law_1472 rfl (lv_at hl 3 rfl) ?_
  refine lv_iload_n hx hb dL_law_1473 rfl (lv_at hl 0 rfl) ?_
  refine lv_iconst (v := 2) hx hb dL_law_1474 (by decide) ?_
  refine lv_iadd hx hb dL_law_1475 ?_
  refine lv_topi (fun z7 ez7 => ?_)
  obtain rfl : z7 = 2 := ez7.trans (by decide)
  refine va_sld hx hb hX hbl hbA hS (show ¬ ((2 : Int32) < 0 ∨ 7 ≤ (2 : Int32).toNatClampNeg) by decide) dL_law_1476 ?_
  refine W.eq (g2 := F0 m 1477 ls [.int (xs 2), .int (xs 1), .ref o2, .long (-1)]) rfl ?_
  refine lv_aload_n hx hb dL_law_1477 rfl (lv_at hl 3 rfl) ?_
  refine lv_iload_n hx hb dL_law_1478 rfl (lv_at hl 0 rfl) ?_
  refine lv_iconst (v := 3) hx hb dL_law_1479 (by decide) ?_
  refine lv_iadd hx hb dL_law_1480 ?_
  refine lv_topi (fun z8 ez8 => ?_)
  obtain rfl : z8 = 3 := ez8.trans (by decide)
  refine va_sld hx hb hX hbl hbA hS (show ¬ ((3 : Int32) < 0 ∨ 7 ≤ (3 : Int32).toNatClampNeg) by decide) dL_law_1481 ?_
  refine W.eq (g2 := F0 m 1482 ls [.int (xs 3), .int (xs 2), .int (xs 1), .ref o2, .long (-1)]) rfl ?_
  refine cg (wc := [(o2, .inr (11, (moF a))), ((a 3), .inl (Y 0, 3, .inl (fun _ => 0)))]) (wr := (((b 0), .inr (6, (skF b))) :: ((b 16), .inl (Y 7, 12, .inr (.inr (.inr (.inr (fun _ => none)))))) :: ((b 17), .inl (Y 8, 40, .inr (.inr (.inr (.inr (fun _ => none)))))) :: ((b 18), .inl (Y 0, 12, .inl (fun _ => 0))) :: ((b 19), .inl (Y 0, 12, .inl (fun _ => 0))) :: ((b 20), .inl (Y 0, 8, .inl (fun _ => 0))) :: ((b 21), .inl (Y 0, 8, .inl (fun _ => 0))) :: ((b 22), .inl (Y 2, 400, .inl (fun _ => 0))) :: ((b 1), .inl (Y 4, 4, .inr (.inr (.inr (.inr (fun _ => none)))))) :: ((b 5), .inr (3, (paF Z b))) :: ((b 24), .inr (8, (txF b))) :: ((a 0), .inl (Y 0, 7533, .inl tolF)) :: ((a 2), .inl (Y 2, 400, .inl (fun _ => 0))) :: ((a 5), .inl (Y 0, 18, .inl (fun _ => 0))) :: ((a 7), .inl (Y 0, 18, .inl (fun _ => 0))) :: ((a 8), .inl (Y 0, 18, .inl (fun _ => 0))) :: ((a 9), .inl (Y 0, 18, .inl (fun _ => 0))) :: ((a 11), .inl (Y 0, 18, .inl (fun _ => 0))) :: ((a 13), .inl (Y 0, 18, .inl (fun _ => 0))) :: ((a 14), .inl (Y 0, 18, .inl (fun _ => 0))) :: ((a 26), .inl (Y 0, 30132, .inl (fun _ => 0))) :: ((a 27), .inl (Y 3, 4, .inl (fun _ => 0))) :: [])) [11, 14] [0, 1, 2, 3, 4, 5, 6, 7, 8, 9, 10, 12, 13, 15, 16, 17, 18, 19, 20, 21, 22, 23] (rn_V (As := [.int (xs 1), .int (xs 2), .int (xs 3)]) (rest := [.long (-1)]) (b := o2) (y_alias l D Y Z H.size o2 a (xs 1) (xs 2) (xs 3)) ⟨hx, hb, hml, hown, hg⟩ lk_L_140 ⟨CP.blind, va_recv hKN.1 hP (ci := 11) (q0 := 11) rfl rfl, CP.at (hP.sub [11, 14] rfl) hKN (hD.sub [11, 14] (by decide) rfl)⟩ ⟨⟨rfl, rfl⟩, ⟨Nat.le_of_ble_eq_true rfl, Nat.le_of_ble_eq_true rfl⟩, ⟨Nat.le_of_ble_eq_true rfl, Nat.le_of_ble_eq_true rfl⟩⟩ hl.1 rfl (Nat.le_of_ble_eq_true rfl) dL_law_1482) hP hD hS hA rfl rfl (by decide) (by decide) (fun u9 H locs w10 hP hD hS => ?_)
  refine W.eq (g2 := F0 m 1485 ls [.long (-1), .long (-1)]) rfl ?_
  have hP : va_P D vwCl (((b 0), .inr (6, (skF b))) :: ((b 16), .inl (Y 7, 12, .inr (.inr (.inr (.inr (fun _ => none)))))) :: ((b 17), .inl (Y 8, 40, .inr (.inr (.inr (.inr (fun _ => none)))))) :: ((b 18), .inl (Y 0, 12, .inl (fun _ => 0))) :: ((b 19), .inl (Y 0, 12, .inl (fun _ => 0))) :: ((b 20), .inl (Y 0, 8, .inl (fun _ => 0))) :: ((b 21), .inl (Y 0, 8, .inl (fun _ => 0))) :: ((b 22), .inl (Y 2, 400, .inl (fun _ => 0))) :: ((b 1), .inl (Y 4, 4, .inr (.inr (.inr (.inr (fun _ => none)))))) :: ((b 5), .inr (3, (paF Z b))) :: ((b 24), .inr (8, (txF b))) :: ((a 0), .inl (Y 0, 7533, .inl tolF)) :: ((a 2), .inl (Y 2, 400, .inl (fun _ => 0))) :: ((a 5), .inl (Y 0, 18, .inl (fun _ => 0))) :: ((a 7), .inl (Y 0, 18, .inl (fun _ => 0))) :: ((a 8), .inl (Y 0, 18, .inl (fun _ => 0))) :: ((a 9), .inl (Y 0, 18, .inl (fun _ => 0))) :: ((a 11), .inl (Y 0, 18, .inl (fun _ => 0))) :: ((a 13), .inl (Y 0, 18, .inl (fun _ => 0))) :: ((a 14), .inl (Y 0, 18, .inl (fun _ => 0))) :: ((a 26), .inl (Y 0, 30132, .inl (fun _ => 0))) :: ((a 27), .inl (Y 3, 4, .inl (fun _ => 0))) :: []) H := hP
  have hD : va_D A (((b 0), .inr (6, (skF b))) :: ((b 16), .inl (Y 7, 12, .inr (.inr (.inr (.inr (fun _ => none)))))) :: ((b 17), .inl (Y 8, 40, .inr (.inr (.inr (.inr (fun _ => none)))))) :: ((b 18), .inl (Y 0, 12, .inl (fun _ => 0))) :: ((b 19), .inl (Y 0, 12, .inl (fun _ => 0))) :: ((b 20), .inl (Y 0, 8, .inl (fun _ => 0))) :: ((b 21), .inl (Y 0, 8, .inl (fun _ => 0))) :: ((b 22), .inl (Y 2, 400, .inl (fun _ => 0))) :: ((b 1), .inl (Y 4, 4, .inr (.inr (.inr (.inr (fun _ => none)))))) :: ((b 5), .inr (3, (paF Z b))) :: ((b 24), .inr (8, (txF b))) :: ((a 0), .inl (Y 0, 7533, .inl tolF)) :: ((a 2), .inl (Y 2, 400, .inl (fun _ => 0))) :: ((a 5), .inl (Y 0, 18, .inl (fun _ => 0))) :: ((a 7), .inl (Y 0, 18, .inl (fun _ => 0))) :: ((a 8), .inl (Y 0, 18, .inl (fun _ => 0))) :: ((a 9), .inl (Y 0, 18, .inl (fun _ => 0))) :: ((a 11), .inl (Y 0, 18, .inl (fun _ => 0))) :: ((a 13), .inl (Y 0, 18, .inl (fun _ => 0))) :: ((a 14), .inl (Y 0, 18, .inl (fun _ => 0))) :: ((a 26), .inl (Y 0, 30132, .inl (fun _ => 0))) :: ((a 27), .inl (Y 3, 4, .inl (fun _ => 0))) :: []) := hD
  refine W.lcmp hx hb dL_law_1485 ?_
  refine lv_if_eq (tgt := 1885) hx hb dL_law_1486 (by decide) (fun c11 => ?_) (fun c11 => ?_)
  rotate_left
  · exact absurd c11 (by decide)
  exact lw_tail C0 hA2 (Nat.le_of_ble_eq_true rfl) (Nat.le_of_ble_eq_true rfl) hS (lv_sub hl [0, 3] rfl)
set_option maxHeartbeats 4000000 in
set_option maxRecDepth 100000 in
theorem lc_29 {p : Program} {l : Launch} {e : Env} {s : State} {m : MethodId} {below : List Frame} {meth : Method} {c : Code} {sb : Nat} {xs : Nat → Int32} (C0 : lw_At p s m meth c sb 7 xs) {D : va_G} {Y : Nat → ClassId} {Z : Nat → Nat} (hKN : KN D Y Z s) {A : Nat → Prop} (hA : ∀ q, s.heap.size ≤ q → A q) (hA2 : ∀ q, A q → s.heap.size ≤ q) {o o2 : Nat} {b a : Nat → Nat} {H : Heap} {locs : List Loc} {ls : Array Slot} (hP : va_P D vwCl (LW Y Z o o2 b a) H) (hD : va_D A (LW Y Z o o2 b a)) (hS : va_S A s.heap H locs) (hl : lv_has ls 4 [(3, .int 0), (2, .ref o2), (1, .ref o), (0, .ref sb)]) : W p l e room_1 s m #[Value.ref sb] below meth c H locs 70 52824 (lw_Z below #[Value.ref sb] s) (F0 m 1491 ls []) := by
  obtain ⟨hx, hb, hr, hml, hown, hts, hX, hbl, hlocks, hgv⟩ := id C0
  have hb : c.code = cL_law := hb
  have hown : s.vm.findClass RL = some m.cls := hown
  have hg : ∀ w ∈ GW, w.before #[Value.ref sb] s = true := fun w h => hts w (gw_tbl h)
  have hbA : ¬ A sb := fun h => absurd (hA2 sb h) (Nat.not_le.mpr hbl)
  refine lv_aload_n hx hb dL_law_1491 rfl (lv_at hl 2 rfl) ?_
  refine lv_aload_n hx hb dL_law_1492 rfl (lv_at hl 3 rfl) ?_
  refine lv_iload_n hx hb dL_law_1493 rfl (lv_at hl 0 rfl) ?_
  refine lv_iconst (v := 1) hx hb dL_law_1494 (by decide) ?_
  refine lv_iadd hx hb dL_law_1495 ?_
  refine lv_topi (fun z1 ez1 => ?_)
  obtain rfl : z1 = 1 := ez1.trans (by decide)
  refine va_sld hx hb hX hbl hbA hS (show ¬ ((1 : Int32) < 0 ∨ 7 ≤ (1 : Int32).toNatClampNeg) by decide) dL_law_1496 ?_
  refine W.eq (g2 := F0 m 1497 ls [.int (xs 1), .ref o]) rfl ?_
  refine lv_aload_n hx hb dL_law_1497 rfl (lv_at hl 3 rfl) ?_
  refine lv_iload_n hx hb dL_law_1498 rfl (lv_at hl 0 rfl) ?_
  refine lv_iconst (v := 2) hx hb dL_law_1499 (by decide) ?_
  refine lv_iadd hx hb dL_law_1500 ?_
  refine lv_topi (fun z2 ez2 => ?_)
  obtain rfl : z2 = 2 := ez2.trans (by decide)
  refine va_sld hx hb hX hbl hbA hS (show ¬ ((2 : Int32) < 0 ∨ 7 ≤ (2 : Int32).toNatClampNeg) by decide) dL_law_1501 ?_
  refine W.eq (g2 := F0 m 1502 ls [.int (xs 2), .int (xs 1), .ref o]) rfl ?_
  refine cg (wc := [(o, .inr (10, (dsF b)))]) (wr := (((b 0), .inr (6, (skF b))) :: ((b 16), .inl (Y 7, 12, .inr (.inr (.inr (.inr (fun _ => none)))))) :: ((b 17), .inl (Y 8, 40, .inr (.inr (.inr (.inr (fun _ => none)))))) :: ((b 18), .inl (Y 0, 12, .inl (fun _ => 0))) :: ((b 19), .inl (Y 0, 12, .inl (fun _ => 0))) :: ((b 20), .inl (Y 0, 8, .inl (fun _ => 0))) :: ((b 21), .inl (Y 0, 8, .inl (fun _ => 0))) :: ((b 22), .inl (Y 2, 400, .inl (fun _ => 0))) :: ((b 1), .inl (Y 4, 4, .inr (.inr (.inr (.inr (fun _ => none)))))) :: ((b 5), .inr (3, (paF Z b))) :: ((b 24), .inr (8, (txF b))) :: (o2, .inr (11, (moF a))) :: ((a 0), .inl (Y 0, 7533, .inl tolF)) :: ((a 2), .inl (Y 2, 400, .inl (fun _ => 0))) :: ((a 3), .inl (Y 0, 3, .inl (fun _ => 0))) :: ((a 5), .inl (Y 0, 18, .inl (fun _ => 0))) :: ((a 7), .inl (Y 0, 18, .inl (fun _ => 0))) :: ((a 8), .inl (Y 0, 18, .inl (fun _ => 0))) :: ((a 9), .inl (Y 0, 18, .inl (fun _ => 0))) :: ((a 11), .inl (Y 0, 18, .inl (fun _ => 0))) :: ((a 13), .inl (Y 0, 18, .inl (fun _ => 0))) :: ((a 14), .inl (Y 0, 18, .inl (fun _ => 0))) :: ((a 26), .inl (Y 0, 30132, .inl (fun _ => 0))) :: ((a 27), .inl (Y 3, 4, .inl (fun _ => 0))) :: [])) [0] [1, 2, 3, 4, 5, 6, 7, 8, 9, 10, 11, 12, 13, 14, 15, 16, 17, 18, 19, 20, 21, 22, 23, 24] (rn_V (As := [.int (xs 1), .int (xs 2)]) (rest := []) (b := o) (x_radius l D Y Z H.size o b (xs 1) (xs 2)) ⟨hx, hb, hml, hown, hg⟩ lk_L_141 ⟨CP.blind, va_recv hKN.1 hP (ci := 10) (q0 := 0) rfl rfl, CP.at (hP.sub [0] rfl) hKN (hD.sub [0] (by decide) rfl)⟩ ⟨⟨rfl, rfl⟩, ⟨Nat.le_of_ble_eq_true rfl, Nat.le_of_ble_eq_true rfl⟩, ⟨Nat.le_of_ble_eq_true rfl, Nat.le_of_ble_eq_true rfl⟩⟩ hl.1 rfl (Nat.le_of_ble_eq_true rfl) dL_law_1502) hP hD hS hA rfl rfl (by decide) (by decide) (fun u3 H locs w4 hP hD hS => ?_)
  refine W.eq (g2 := F0 m 1505 ls [.int (-1)]) rfl ?_
  have hP : va_P D vwCl (((b 0), .inr (6, (skF b))) :: ((b 16), .inl (Y 7, 12, .inr (.inr (.inr (.inr (fun _ => none)))))) :: ((b 17), .inl (Y 8, 40, .inr (.inr (.inr (.inr (fun _ => none)))))) :: ((b 18), .inl (Y 0, 12, .inl (fun _ => 0))) :: ((b 19), .inl (Y 0, 12, .inl (fun _ => 0))) :: ((b 20), .inl (Y 0, 8, .inl (fun _ => 0))) :: ((b 21), .inl (Y 0, 8, .inl (fun _ => 0))) :: ((b 22), .inl (Y 2, 400, .inl (fun _ => 0))) :: ((b 1), .inl (Y 4, 4, .inr (.inr (.inr (.inr (fun _ => none)))))) :: ((b 5), .inr (3, (paF Z b))) :: ((b 24), .inr (8, (txF b))) :: (o2, .inr (11, (moF a))) :: ((a 0), .inl (Y 0, 7533, .inl tolF)) :: ((a 2), .inl (Y 2, 400, .inl (fun _ => 0))) :: ((a 3), .inl (Y 0, 3, .inl (fun _ => 0))) :: ((a 5), .inl (Y 0, 18, .inl (fun _ => 0))) :: ((a 7), .inl (Y 0, 18, .inl (fun _ => 0))) :: ((a 8), .inl (Y 0, 18, .inl (fun _ => 0))) :: ((a 9), .inl (Y 0, 18, .inl (fun _ => 0))) :: ((a 11), .inl (Y 0, 18, .inl (fun _ => 0))) :: ((a 13), .inl (Y 0, 18, .inl (fun _ => 0))) :: ((a 14), .inl (Y 0, 18, .inl (fun _ => 0))) :: ((a 26), .inl (Y 0, 30132, .inl (fun _ => 0))) :: ((a 27), .inl (Y 3, 4, .inl (fun _ => 0))) :: []) H := hP
  have hD : va_D A (((b 0), .inr (6, (skF b))) :: ((b 16), .inl (Y 7, 12, .inr (.inr (.inr (.inr (fun _ => none)))))) :: ((b 17), .inl (Y 8, 40, .inr (.inr (.inr (.inr (fun _ => none)))))) :: ((b 18), .inl (Y 0, 12, .inl (fun _ => 0))) :: ((b 19), .inl (Y 0, 12, .inl (fun _ => 0))) :: ((b 20), .inl (Y 0, 8, .inl (fun _ => 0))) :: ((b 21), .inl (Y 0, 8, .inl (fun _ => 0))) :: ((b 22), .inl (Y 2, 400, .inl (fun _ => 0))) :: ((b 1), .inl (Y 4, 4, .inr (.inr (.inr (.inr (fun _ => none)))))) :: ((b 5), .inr (3, (paF Z b))) :: ((b 24), .inr (8, (txF b))) :: (o2, .inr (11, (moF a))) :: ((a 0), .inl (Y 0, 7533, .inl tolF)) :: ((a 2), .inl (Y 2, 400, .inl (fun _ => 0))) :: ((a 3), .inl (Y 0, 3, .inl (fun _ => 0))) :: ((a 5), .inl (Y 0, 18, .inl (fun _ => 0))) :: ((a 7), .inl (Y 0, 18, .inl (fun _ => 0))) :: ((a 8), .inl (Y 0, 18, .inl (fun _ => 0))) :: ((a 9), .inl (Y 0, 18, .inl (fun _ => 0))) :: ((a 11), .inl (Y 0, 18, .inl (fun _ => 0))) :: ((a 13), .inl (Y 0, 18, .inl (fun _ => 0))) :: ((a 14), .inl (Y 0, 18, .inl (fun _ => 0))) :: ((a 26), .inl (Y 0, 30132, .inl (fun _ => 0))) :: ((a 27), .inl (Y 3, 4, .inl (fun _ => 0))) :: []) := hD
  refine lv_aload_n hx hb dL_law_1505 rfl (lv_at hl 1 rfl) ?_
  refine lv_aload_n hx hb dL_law_1506 rfl (lv_at hl 3 rfl) ?_
  refine lv_iload_n hx hb dL_law_1507 rfl (lv_at hl 0 rfl) ?_
  refine lv_iconst (v := 1) hx hb dL_law_1508 (by decide) ?_
  refine lv_iadd hx hb dL_law_1509 ?_
  refine lv_topi (fun z5 ez5 => ?_)
  obtain rfl : z5 = 1 := ez5.trans (by decide)
  refine va_sld hx hb hX hbl hbA hS (show ¬ ((1 : Int32) < 0 ∨ 7 ≤ (1 : Int32).toNatClampNeg) by decide) dL_law_1510 ?_
  refine W.eq (g2 := F0 m 1511 ls [.int (xs 1), .ref o2, .int (-1)]) rfl ?_
  refine lv_aload_n hx hb dL_law_1511 rfl (lv_at hl 3 rfl) ?_
  refine lv_iload_n hx hb dL_law_1512 rfl (lv_at hl 0 rfl) ?_
  refine lv_iconst (v := 2) hx hb dL_law_1513 (by decide) ?_
  refine lv_iadd hx hb dL_law_1514 ?_
  refine lv_topi (fun z6 ez6 => ?_)
  obtain rfl : z6 = 2 := ez6.trans (by decide)
  refine va_sld hx hb hX hbl hbA hS (show ¬ ((2 : Int32) < 0 ∨ 7 ≤ (2 : Int32).toNatClampNeg) by decide) dL_law_1515 ?_
  refine W.eq (g2 := F0 m 1516 ls [.int (xs 2), .int (xs 1), .ref o2, .int (-1)]) rfl ?_
  refine cg (wc := [(o2, .inr (11, (moF a))), ((a 3), .inl (Y 0, 3, .inl (fun _ => 0)))]) (wr := (((b 0), .inr (6, (skF b))) :: ((b 16), .inl (Y 7, 12, .inr (.inr (.inr (.inr (fun _ => none)))))) :: ((b 17), .inl (Y 8, 40, .inr (.inr (.inr (.inr (fun _ => none)))))) :: ((b 18), .inl (Y 0, 12, .inl (fun _ => 0))) :: ((b 19), .inl (Y 0, 12, .inl (fun _ => 0))) :: ((b 20), .inl (Y 0, 8, .inl (fun _ => 0))) :: ((b 21), .inl (Y 0, 8, .inl (fun _ => 0))) :: ((b 22), .inl (Y 2, 400, .inl (fun _ => 0))) :: ((b 1), .inl (Y 4, 4, .inr (.inr (.inr (.inr (fun _ => none)))))) :: ((b 5), .inr (3, (paF Z b))) :: ((b 24), .inr (8, (txF b))) :: ((a 0), .inl (Y 0, 7533, .inl tolF)) :: ((a 2), .inl (Y 2, 400, .inl (fun _ => 0))) :: ((a 5), .inl (Y 0, 18, .inl (fun _ => 0))) :: ((a 7), .inl (Y 0, 18, .inl (fun _ => 0))) :: ((a 8), .inl (Y 0, 18, .inl (fun _ => 0))) :: ((a 9), .inl (Y 0, 18, .inl (fun _ => 0))) :: ((a 11), .inl (Y 0, 18, .inl (fun _ => 0))) :: ((a 13), .inl (Y 0, 18, .inl (fun _ => 0))) :: ((a 14), .inl (Y 0, 18, .inl (fun _ => 0))) :: ((a 26), .inl (Y 0, 30132, .inl (fun _ => 0))) :: ((a 27), .inl (Y 3, 4, .inl (fun _ => 0))) :: [])) [11, 14] [0, 1, 2, 3, 4, 5, 6, 7, 8, 9, 10, 12, 13, 15, 16, 17, 18, 19, 20, 21, 22, 23] (rn_V (As := [.int (xs 1), .int (xs 2)]) (rest := [.int (-1)]) (b := o2) (y_radius l D Y Z H.size o2 a (xs 1) (xs 2)) ⟨hx, hb, hml, hown, hg⟩ lk_L_144 ⟨CP.blind, va_recv hKN.1 hP (ci := 11) (q0 := 11) rfl rfl, CP.at (hP.sub [11, 14] rfl) hKN (hD.sub [11, 14] (by decide) rfl)⟩ ⟨⟨rfl, rfl⟩, ⟨Nat.le_of_ble_eq_true rfl, Nat.le_of_ble_eq_true rfl⟩, ⟨Nat.le_of_ble_eq_true rfl, Nat.le_of_ble_eq_true rfl⟩⟩ hl.1 rfl (Nat.le_of_ble_eq_true rfl) dL_law_1516) hP hD hS hA rfl rfl (by decide) (by decide) (fun u7 H locs w8 hP hD hS => ?_)
  refine W.eq (g2 := F0 m 1519 ls [.int (-1), .int (-1)]) rfl ?_
  have hP : va_P D vwCl (((b 0), .inr (6, (skF b))) :: ((b 16), .inl (Y 7, 12, .inr (.inr (.inr (.inr (fun _ => none)))))) :: ((b 17), .inl (Y 8, 40, .inr (.inr (.inr (.inr (fun _ => none)))))) :: ((b 18), .inl (Y 0, 12, .inl (fun _ => 0))) :: ((b 19), .inl (Y 0, 12, .inl (fun _ => 0))) :: ((b 20), .inl (Y 0, 8, .inl (fun _ => 0))) :: ((b 21), .inl (Y 0, 8, .inl (fun _ => 0))) :: ((b 22), .inl (Y 2, 400, .inl (fun _ => 0))) :: ((b 1), .inl (Y 4, 4, .inr (.inr (.inr (.inr (fun _ => none)))))) :: ((b 5), .inr (3, (paF Z b))) :: ((b 24), .inr (8, (txF b))) :: ((a 0), .inl (Y 0, 7533, .inl tolF)) :: ((a 2), .inl (Y 2, 400, .inl (fun _ => 0))) :: ((a 5), .inl (Y 0, 18, .inl (fun _ => 0))) :: ((a 7), .inl (Y 0, 18, .inl (fun _ => 0))) :: ((a 8), .inl (Y 0, 18, .inl (fun _ => 0))) :: ((a 9), .inl (Y 0, 18, .inl (fun _ => 0))) :: ((a 11), .inl (Y 0, 18, .inl (fun _ => 0))) :: ((a 13), .inl (Y 0, 18, .inl (fun _ => 0))) :: ((a 14), .inl (Y 0, 18, .inl (fun _ => 0))) :: ((a 26), .inl (Y 0, 30132, .inl (fun _ => 0))) :: ((a 27), .inl (Y 3, 4, .inl (fun _ => 0))) :: []) H := hP
  have hD : va_D A (((b 0), .inr (6, (skF b))) :: ((b 16), .inl (Y 7, 12, .inr (.inr (.inr (.inr (fun _ => none)))))) :: ((b 17), .inl (Y 8, 40, .inr (.inr (.inr (.inr (fun _ => none)))))) :: ((b 18), .inl (Y 0, 12, .inl (fun _ => 0))) :: ((b 19), .inl (Y 0, 12, .inl (fun _ => 0))) :: ((b 20), .inl (Y 0, 8, .inl (fun _ => 0))) :: ((b 21), .inl (Y 0, 8, .inl (fun _ => 0))) :: ((b 22), .inl (Y 2, 400, .inl (fun _ => 0))) :: ((b 1), .inl (Y 4, 4, .inr (.inr (.inr (.inr (fun _ => none)))))) :: ((b 5), .inr (3, (paF Z b))) :: ((b 24), .inr (8, (txF b))) :: ((a 0), .inl (Y 0, 7533, .inl tolF)) :: ((a 2), .inl (Y 2, 400, .inl (fun _ => 0))) :: ((a 5), .inl (Y 0, 18, .inl (fun _ => 0))) :: ((a 7), .inl (Y 0, 18, .inl (fun _ => 0))) :: ((a 8), .inl (Y 0, 18, .inl (fun _ => 0))) :: ((a 9), .inl (Y 0, 18, .inl (fun _ => 0))) :: ((a 11), .inl (Y 0, 18, .inl (fun _ => 0))) :: ((a 13), .inl (Y 0, 18, .inl (fun _ => 0))) :: ((a 14), .inl (Y 0, 18, .inl (fun _ => 0))) :: ((a 26), .inl (Y 0, 30132, .inl (fun _ => 0))) :: ((a 27), .inl (Y 3, 4, .inl (fun _ => 0))) :: []) := hD
  refine lv_icmp_eq (tgt := 1885) hx hb dL_law_1519 (by decide) (fun c9 => ?_) (fun c9 => ?_)
  rotate_left
  · exact absurd c9 (by decide)
  exact lw_tail C0 hA2 (Nat.le_of_ble_eq_true rfl) (Nat.le_of_ble_eq_true rfl) hS (lv_sub hl [0, 3] rfl)
set_option maxHeartbeats 4000000 in
set_option maxRecDepth 100000 in
theorem lc_30 {p : Program} {l : Launch} {e : Env} {s : State} {m : MethodId} {below : List Frame} {meth : Method} {c : Code} {sb : Nat} {xs : Nat → Int32} (C0 : lw_At p s m meth c sb 7 xs) {D : va_G} {Y : Nat → ClassId} {Z : Nat → Nat} (hKN : KN D Y Z s) {A : Nat → Prop} (hA : ∀ q, s.heap.size ≤ q → A q) (hA2 : ∀ q, A q → s.heap.size ≤ q) {o o2 : Nat} {b a : Nat → Nat} {H : Heap} {locs : List Loc} {ls : Array Slot} (hP : va_P D vwCl (LW Y Z o o2 b a) H) (hD : va_D A (LW Y Z o o2 b a)) (hS : va_S A s.heap H locs) (hl : lv_has ls 4 [(3, .int 0), (2, .ref o2), (1, .ref o), (0, .ref sb)]) : W p l e room_1 s m #[Value.ref sb] below meth c H locs 70 52824 (lw_Z below #[Value.ref sb] s) (F0 m 1524 ls []) := by
  obtain ⟨hx, hb, hr, hml, hown, hts, hX, hbl, hlocks, hgv⟩ := id C0
  have hb : c.code = cL_law := hb
  have hown : s.vm.findClass RL = some m.cls := hown
  have hg : ∀ w ∈ GW, w.before #[Value.ref sb] s = true := fun w h => hts w (gw_tbl h)
  have hbA : ¬ A sb := fun h => absurd (hA2 sb h) (Nat.not_le.mpr hbl)
  refine lv_aload_n hx hb dL_law_1524 rfl (lv_at hl 2 rfl) ?_
  refine lv_aload_n hx hb dL_law_1525 rfl (lv_at hl 3 rfl) ?_
  refine lv_iload_n hx hb dL_law_1526 rfl (lv_at hl 0 rfl) ?_
  refine lv_iconst (v := 1) hx hb dL_law_1527 (by decide) ?_
  refine lv_iadd hx hb dL_law_1528 ?_
  refine lv_topi (fun z1 ez1 => ?_)
  obtain rfl : z1 = 1 := ez1.trans (by decide)
  refine va_sld hx hb hX hbl hbA hS (show ¬ ((1 : Int32) < 0 ∨ 7 ≤ (1 : Int32).toNatClampNeg) by decide) dL_law_1529 ?_
  refine W.eq (g2 := F0 m 1530 ls [.int (xs 1), .ref o]) rfl ?_
  refine lv_aload_n hx hb dL_law_1530 rfl (lv_at hl 3 rfl) ?_
  refine lv_iload_n hx hb dL_law_1531 rfl (lv_at hl 0 rfl) ?_
  refine lv_iconst (v := 2) hx hb dL_law_1532 (by decide) ?_
  refine lv_iadd hx hb dL_law_1533 ?_
  refine lv_topi (fun z2 ez2 => ?_)
  obtain rfl : z2 = 2 := ez2.trans (by decide)
  refine va_sld hx hb hX hbl hbA hS (show ¬ ((2 : Int32) < 0 ∨ 7 ≤ (2 : Int32).toNatClampNeg) by decide) dL_law_1534 ?_
  refine W.eq (g2 := F0 m 1535 ls [.int (xs 2), .int (xs 1), .ref o]) rfl ?_
  refine lv_aload_n hx hb dL_law_1535 rfl (lv_at hl 3 rfl) ?_
  refine lv_iload_n hx hb dL_law_1536 rfl (lv_at hl 0 rfl) ?_
  refine lv_iconst (v := 3) hx hb dL_law_1537 (by decide) ?_
  refine lv_iadd hx hb dL_law_1538 ?_
  refine lv_topi (fun z3 ez3 => ?_)
  obtain rfl : z3 = 3 := ez3.trans (by decide)
  refine va_sld hx hb hX hbl hbA hS (show ¬ ((3 : Int32) < 0 ∨ 7 ≤ (3 : Int32).toNatClampNeg) by decide) dL_law_1539 ?_
  refine W.eq (g2 := F0 m 1540 ls [.int (xs 3), .int (xs 2), .int (xs 1), .ref o]) rfl ?_
  refine lv_aload_n hx hb dL_law_1540 rfl (lv_at hl 3 rfl) ?_
  refine lv_iload_n hx hb dL_law_1541 rfl (lv_at hl 0 rfl) ?_
  refine lv_iconst (v := 4) hx hb dL_law_1542 (by decide) ?_
  refine lv_iadd hx hb dL_law_1543 ?_
  refine lv_topi (fun z4 ez4 => ?_)
  obtain rfl : z4 = 4 := ez4.trans (by decide)
  refine va_sld hx hb hX hbl hbA hS (show ¬ ((4 : Int32) < 0 ∨ 7 ≤ (4 : Int32).toNatClampNeg) by decide) dL_law_1544 ?_
  refine W.eq (g2 := F0 m 1545 ls [.int (xs 4), .int (xs 3), .int (xs 2), .int (xs 1), .ref o]) rfl ?_
  refine lv_aload_n hx hb dL_law_1545 rfl (lv_at hl 3 rfl) ?_
  refine lv_iload_n hx hb dL_law_1546 rfl (lv_at hl 0 rfl) ?_
  refine lv_iconst (v := 5) hx hb dL_law_1547 (by decide) ?_
  refine lv_iadd hx hb dL_law_1548 ?_
  refine lv_topi (fun z5 ez5 => ?_)
  obtain rfl : z5 = 5 := ez5.trans (by decide)
  refine va_sld hx hb hX hbl hbA hS (show ¬ ((5 : Int32) < 0 ∨ 7 ≤ (5 : Int32).toNatClampNeg) by decide) dL_law_1549 ?_
  refine W.eq (g2 := F0 m 1550 ls [.int (xs 5), .int (xs 4), .int (xs 3), .int (xs 2), .int (xs 1), .ref o]) rfl ?_
  refine cg (wc := [(o, .inr (10, (dsF b)))]) (wr := (((b 0), .inr (6, (skF b))) :: ((b 16), .inl (Y 7, 12, .inr (.inr (.inr (.inr (fun _ => none)))))) :: ((b 17), .inl (Y 8, 40, .inr (.inr (.inr (.inr (fun _ => none)))))) :: ((b 18), .inl (Y 0, 12, .inl (fun _ => 0))) :: ((b 19), .inl (Y 0, 12, .inl (fun _ => 0))) :: ((b 20), .inl (Y 0, 8, .inl (fun _ => 0))) :: ((b 21), .inl (Y 0, 8, .inl (fun _ => 0))) :: ((b 22), .inl (Y 2, 400, .inl (fun _ => 0))) :: ((b 1), .inl (Y 4, 4, .inr (.inr (.inr (.inr (fun _ => none)))))) :: ((b 5), .inr (3, (paF Z b))) :: ((b 24), .inr (8, (txF b))) :: (o2, .inr (11, (moF a))) :: ((a 0), .inl (Y 0, 7533, .inl tolF)) :: ((a 2), .inl (Y 2, 400, .inl (fun _ => 0))) :: ((a 3), .inl (Y 0, 3, .inl (fun _ => 0))) :: ((a 5), .inl (Y 0, 18, .inl (fun _ => 0))) :: ((a 7), .inl (Y 0, 18, .inl (fun _ => 0))) :: ((a 8), .inl (Y 0, 18, .inl (fun _ => 0))) :: ((a 9), .inl (Y 0, 18, .inl (fun _ => 0))) :: ((a 11), .inl (Y 0, 18, .inl (fun _ => 0))) :: ((a 13), .inl (Y 0, 18, .inl (fun _ => 0))) :: ((a 14), .inl (Y 0, 18, .inl (fun _ => 0))) :: ((a 26), .inl (Y 0, 30132, .inl (fun _ => 0))) :: ((a 27), .inl (Y 3, 4, .inl (fun _ => 0))) :: [])) [0] [1, 2, 3, 4, 5, 6, 7, 8, 9, 10, 11, 12, 13, 14, 15, 16, 17, 18, 19, 20, 21, 22, 23, 24] (rn_V (As := [.int (xs 1), .int (xs 2), .int (xs 3), .int (xs 4), .int (xs 5)]) (rest := []) (b := o) (x_many l D Y Z H.size o b (xs 1) (xs 2) (xs 3) (xs 4) (xs 5)) ⟨hx, hb, hml, hown, hg⟩ lk_L_145 ⟨CP.blind, va_recv hKN.1 hP (ci := 10) (q0 := 0) rfl rfl, CP.at (hP.sub [0] rfl) hKN (hD.sub [0] (by decide) rfl)⟩ ⟨⟨rfl, rfl⟩, ⟨Nat.le_of_ble_eq_true rfl, Nat.le_of_ble_eq_true rfl⟩, ⟨Nat.le_of_ble_eq_true rfl, Nat.le_of_ble_eq_true rfl⟩⟩ hl.1 rfl (Nat.le_of_ble_eq_true rfl) dL_law_1550) hP hD hS hA rfl rfl (by decide) (by decide) (fun u6 H locs w7 hP hD hS => ?_)
  refine W.eq (g2 := F0 m 1553 ls [.int (-1)]) rfl ?_
  have hP : va_P D vwCl (((b 0), .inr (6, (skF b))) :: ((b 16), .inl (Y 7, 12, .inr (.inr (.inr (.inr (fun _ => none)))))) :: ((b 17), .inl (Y 8, 40, .inr (.inr (.inr (.inr (fun _ => none)))))) :: ((b 18), .inl (Y 0, 12, .inl (fun _ => 0))) :: ((b 19), .inl (Y 0, 12, .inl (fun _ => 0))) :: ((b 20), .inl (Y 0, 8, .inl (fun _ => 0))) :: ((b 21), .inl (Y 0, 8, .inl (fun _ => 0))) :: ((b 22), .inl (Y 2, 400, .inl (fun _ => 0))) :: ((b 1), .inl (Y 4, 4, .inr (.inr (.inr (.inr (fun _ => none)))))) :: ((b 5), .inr (3, (paF Z b))) :: ((b 24), .inr (8, (txF b))) :: (o2, .inr (11, (moF a))) :: ((a 0), .inl (Y 0, 7533, .inl tolF)) :: ((a 2), .inl (Y 2, 400, .inl (fun _ => 0))) :: ((a 3), .inl (Y 0, 3, .inl (fun _ => 0))) :: ((a 5), .inl (Y 0, 18, .inl (fun _ => 0))) :: ((a 7), .inl (Y 0, 18, .inl (fun _ => 0))) :: ((a 8), .inl (Y 0, 18, .inl (fun _ => 0))) :: ((a 9), .inl (Y 0, 18, .inl (fun _ => 0))) :: ((a 11), .inl (Y 0, 18, .inl (fun _ => 0))) :: ((a 13), .inl (Y 0, 18, .inl (fun _ => 0))) :: ((a 14), .inl (Y 0, 18, .inl (fun _ => 0))) :: ((a 26), .inl (Y 0, 30132, .inl (fun _ => 0))) :: ((a 27), .inl (Y 3, 4, .inl (fun _ => 0))) :: []) H := hP
  have hD : va_D A (((b 0), .inr (6, (skF b))) :: ((b 16), .inl (Y 7, 12, .inr (.inr (.inr (.inr (fun _ => none)))))) :: ((b 17), .inl (Y 8, 40, .inr (.inr (.inr (.inr (fun _ => none)))))) :: ((b 18), .inl (Y 0, 12, .inl (fun _ => 0))) :: ((b 19), .inl (Y 0, 12, .inl (fun _ => 0))) :: ((b 20), .inl (Y 0, 8, .inl (fun _ => 0))) :: ((b 21), .inl (Y 0, 8, .inl (fun _ => 0))) :: ((b 22), .inl (Y 2, 400, .inl (fun _ => 0))) :: ((b 1), .inl (Y 4, 4, .inr (.inr (.inr (.inr (fun _ => none)))))) :: ((b 5), .inr (3, (paF Z b))) :: ((b 24), .inr (8, (txF b))) :: (o2, .inr (11, (moF a))) :: ((a 0), .inl (Y 0, 7533, .inl tolF)) :: ((a 2), .inl (Y 2, 400, .inl (fun _ => 0))) :: ((a 3), .inl (Y 0, 3, .inl (fun _ => 0))) :: ((a 5), .inl (Y 0, 18, .inl (fun _ => 0))) :: ((a 7), .inl (Y 0, 18, .inl (fun _ => 0))) :: ((a 8), .inl (Y 0, 18, .inl (fun _ => 0))) :: ((a 9), .inl (Y 0, 18, .inl (fun _ => 0))) :: ((a 11), .inl (Y 0, 18, .inl (fun _ => 0))) :: ((a 13), .inl (Y 0, 18, .inl (fun _ => 0))) :: ((a 14), .inl (Y 0, 18, .inl (fun _ => 0))) :: ((a 26), .inl (Y 0, 30132, .inl (fun _ => 0))) :: ((a 27), .inl (Y 3, 4, .inl (fun _ => 0))) :: []) := hD
  refine lv_aload_n hx hb dL_law_1553 rfl (lv_at hl 1 rfl) ?_
  refine lv_aload_n hx hb dL_law_1554 rfl (lv_at hl 3 rfl) ?_
  refine lv_iload_n hx hb dL_law_1555 rfl (lv_at hl 0 rfl) ?_
  refine lv_iconst (v := 1) hx hb dL_law_1556 (by decide) ?_
  refine lv_iadd hx hb dL_law_1557 ?_
  refine lv_topi (fun z8 ez8 => ?_)
  obtain rfl : z8 = 1 := ez8.trans (by decide)
  refine va_sld hx hb hX hbl hbA hS (show ¬ ((1 : Int32) < 0 ∨ 7 ≤ (1 : Int32).toNatClampNeg) by decide) dL_law_1558 ?_
  refine W.eq (g2 := F0 m 1559 ls [.int (xs 1), .ref o2, .int (-1)]) rfl ?_
  refine lv_aload_n hx hb dL_law_1559 rfl (lv_at hl 3 rfl) ?_
  refine lv_iload_n hx hb dL_law_1560 rfl (lv_at hl 0 rfl) ?_
  refine lv_iconst (v := 2) hx hb dL_law_1561 (by decide) ?_
  refine lv_iadd hx hb dL_law_1562 ?_
  refine lv_topi (fun z9 ez9 => ?_)
  obtain rfl : z9 = 2 := ez9.trans (by decide)
  refine va_sld hx hb hX hbl hbA hS (show ¬ ((2 : Int32) < 0 ∨ 7 ≤ (2 : Int32).toNatClampNeg) by decide) dL_law_1563 ?_
  refine W.eq (g2 := F0 m 1564 ls [.int (xs 2), .int (xs 1), .ref o2, .int (-1)]) rfl ?_
  refine lv_aload_n hx hb dL_law_1564 rfl (lv_at hl 3 rfl) ?_
  refine lv_iload_n hx hb dL_law_1565 rfl (lv_at hl 0 rfl) ?_
  refine lv_iconst (v := 3) hx hb dL_law_1566 (by decide) ?_
  refine lv_iadd hx hb dL_law_1567 ?_
  refine lv_topi (fun z10 ez10 => ?_)
  obtain rfl : z10 = 3 := ez10.trans (by decide)
  refine va_sld hx hb hX hbl hbA hS (show ¬ ((3 : Int32) < 0 ∨ 7 ≤ (3 : Int32).toNatClampNeg) by decide) dL_law_1568 ?_
  refine W.eq (g2 := F0 m 1569 ls [.int (xs 3), .int (xs 2), .int (xs 1), .ref o2, .int (-1)]) rfl ?_
  refine lv_aload_n hx hb dL_law_1569 rfl (lv_at hl 3 rfl) ?_
  refine lv_iload_n hx hb dL_law_1570 rfl (lv_at hl 0 rfl) ?_
  refine lv_iconst (v := 4) hx hb dL_law_1571 (by decide) ?_
  refine lv_iadd hx hb dL_law_1572 ?_
  refine lv_topi (fun z11 ez11 => ?_)
  obtain rfl : z11 = 4 := ez11.trans (by decide)
  refine va_sld hx hb hX hbl hbA hS (show ¬ ((4 : Int32) < 0 ∨ 7 ≤ (4 : Int32).toNatClampNeg) by decide) dL_law_1573 ?_
  refine W.eq (g2 := F0 m 1574 ls [.int (xs 4), .int (xs 3), .int (xs 2), .int (xs 1), .ref o2, .int (-1)]) rfl ?_
  refine lv_aload_n hx hb dL_law_1574 rfl (lv_at hl 3 rfl) ?_
  refine lv_iload_n hx hb dL_law_1575 rfl (lv_at hl 0 rfl) ?_
  refine lv_iconst (v := 5) hx hb dL_law_1576 (by decide) ?_
  refine lv_iadd hx hb dL_law_1577 ?_
  refine lv_topi (fun z12 ez12 => ?_)
  obtain rfl : z12 = 5 := ez12.trans (by decide)
  refine va_sld hx hb hX hbl hbA hS (show ¬ ((5 : Int32) < 0 ∨ 7 ≤ (5 : Int32).toNatClampNeg) by decide) dL_law_1578 ?_
  refine W.eq (g2 := F0 m 1579 ls [.int (xs 5), .int (xs 4), .int (xs 3), .int (xs 2), .int (xs 1), .ref o2, .int (-1)]) rfl ?_
  refine cg (wc := [(o2, .inr (11, (moF a))), ((a 3), .inl (Y 0, 3, .inl (fun _ => 0)))]) (wr := (((b 0), .inr (6, (skF b))) :: ((b 16), .inl (Y 7, 12, .inr (.inr (.inr (.inr (fun _ => none)))))) :: ((b 17), .inl (Y 8, 40, .inr (.inr (.inr (.inr (fun _ => none)))))) :: ((b 18), .inl (Y 0, 12, .inl (fun _ => 0))) :: ((b 19), .inl (Y 0, 12, .inl (fun _ => 0))) :: ((b 20), .inl (Y 0, 8, .inl (fun _ => 0))) :: ((b 21), .inl (Y 0, 8, .inl (fun _ => 0))) :: ((b 22), .inl (Y 2, 400, .inl (fun _ => 0))) :: ((b 1), .inl (Y 4, 4, .inr (.inr (.inr (.inr (fun _ => none)))))) :: ((b 5), .inr (3, (paF Z b))) :: ((b 24), .inr (8, (txF b))) :: ((a 0), .inl (Y 0, 7533, .inl tolF)) :: ((a 2), .inl (Y 2, 400, .inl (fun _ => 0))) :: ((a 5), .inl (Y 0, 18, .inl (fun _ => 0))) :: ((a 7), .inl (Y 0, 18, .inl (fun _ => 0))) :: ((a 8), .inl (Y 0, 18, .inl (fun _ => 0))) :: ((a 9), .inl (Y 0, 18, .inl (fun _ => 0))) :: ((a 11), .inl (Y 0, 18, .inl (fun _ => 0))) :: ((a 13), .inl (Y 0, 18, .inl (fun _ => 0))) :: ((a 14), .inl (Y 0, 18, .inl (fun _ => 0))) :: ((a 26), .inl (Y 0, 30132, .inl (fun _ => 0))) :: ((a 27), .inl (Y 3, 4, .inl (fun _ => 0))) :: [])) [11, 14] [0, 1, 2, 3, 4, 5, 6, 7, 8, 9, 10, 12, 13, 15, 16, 17, 18, 19, 20, 21, 22, 23] (rn_V (As := [.int (xs 1), .int (xs 2), .int (xs 3), .int (xs 4), .int (xs 5)]) (rest := [.int (-1)]) (b := o2) (y_many l D Y Z H.size o2 a (xs 1) (xs 2) (xs 3) (xs 4) (xs 5)) ⟨hx, hb, hml, hown, hg⟩ lk_L_148 ⟨CP.blind, va_recv hKN.1 hP (ci := 11) (q0 := 11) rfl rfl, CP.at (hP.sub [11, 14] rfl) hKN (hD.sub [11, 14] (by decide) rfl)⟩ ⟨⟨rfl, rfl⟩, ⟨Nat.le_of_ble_eq_true rfl, Nat.le_of_ble_eq_true rfl⟩, ⟨Nat.le_of_ble_eq_true rfl, Nat.le_of_ble_eq_true rfl⟩⟩ hl.1 rfl (Nat.le_of_ble_eq_true rfl) dL_law_1579) hP hD hS hA rfl rfl (by decide) (by decide) (fun u13 H locs w14 hP hD hS => ?_)
  refine W.eq (g2 := F0 m 1582 ls [.int (-1), .int (-1)]) rfl ?_
  have hP : va_P D vwCl (((b 0), .inr (6, (skF b))) :: ((b 16), .inl (Y 7, 12, .inr (.inr (.inr (.inr (fun _ => none)))))) :: ((b 17), .inl (Y 8, 40, .inr (.inr (.inr (.inr (fun _ => none)))))) :: ((b 18), .inl (Y 0, 12, .inl (fun _ => 0))) :: ((b 19), .inl (Y 0, 12, .inl (fun _ => 0))) :: ((b 20), .inl (Y 0, 8, .inl (fun _ => 0))) :: ((b 21), .inl (Y 0, 8, .inl (fun _ => 0))) :: ((b 22), .inl (Y 2, 400, .inl (fun _ => 0))) :: ((b 1), .inl (Y 4, 4, .inr (.inr (.inr (.inr (fun _ => none)))))) :: ((b 5), .inr (3, (paF Z b))) :: ((b 24), .inr (8, (txF b))) :: ((a 0), .inl (Y 0, 7533, .inl tolF)) :: ((a 2), .inl (Y 2, 400, .inl (fun _ => 0))) :: ((a 5), .inl (Y 0, 18, .inl (fun _ => 0))) :: ((a 7), .inl (Y 0, 18, .inl (fun _ => 0))) :: ((a 8), .inl (Y 0, 18, .inl (fun _ => 0))) :: ((a 9), .inl (Y 0, 18, .inl (fun _ => 0))) :: ((a 11), .inl (Y 0, 18, .inl (fun _ => 0))) :: ((a 13), .inl (Y 0, 18, .inl (fun _ => 0))) :: ((a 14), .inl (Y 0, 18, .inl (fun _ => 0))) :: ((a 26), .inl (Y 0, 30132, .inl (fun _ => 0))) :: ((a 27), .inl (Y 3, 4, .inl (fun _ => 0))) :: []) H := hP
  have hD : va_D A (((b 0), .inr (6, (skF b))) :: ((b 16), .inl (Y 7, 12, .inr (.inr (.inr (.inr (fun _ => none)))))) :: ((b 17), .inl (Y 8, 40, .inr (.inr (.inr (.inr (fun _ => none)))))) :: ((b 18), .inl (Y 0, 12, .inl (fun _ => 0))) :: ((b 19), .inl (Y 0, 12, .inl (fun _ => 0))) :: ((b 20), .inl (Y 0, 8, .inl (fun _ => 0))) :: ((b 21), .inl (Y 0, 8, .inl (fun _ => 0))) :: ((b 22), .inl (Y 2, 400, .inl (fun _ => 0))) :: ((b 1), .inl (Y 4, 4, .inr (.inr (.inr (.inr (fun _ => none)))))) :: ((b 5), .inr (3, (paF Z b))) :: ((b 24), .inr (8, (txF b))) :: ((a 0), .inl (Y 0, 7533, .inl tolF)) :: ((a 2), .inl (Y 2, 400, .inl (fun _ => 0))) :: ((a 5), .inl (Y 0, 18, .inl (fun _ => 0))) :: ((a 7), .inl (Y 0, 18, .inl (fun _ => 0))) :: ((a 8), .inl (Y 0, 18, .inl (fun _ => 0))) :: ((a 9), .inl (Y 0, 18, .inl (fun _ => 0))) :: ((a 11), .inl (Y 0, 18, .inl (fun _ => 0))) :: ((a 13), .inl (Y 0, 18, .inl (fun _ => 0))) :: ((a 14), .inl (Y 0, 18, .inl (fun _ => 0))) :: ((a 26), .inl (Y 0, 30132, .inl (fun _ => 0))) :: ((a 27), .inl (Y 3, 4, .inl (fun _ => 0))) :: []) := hD
  refine lv_icmp_eq (tgt := 1885) hx hb dL_law_1582 (by decide) (fun c15 => ?_) (fun c15 => ?_)
  rotate_left
  · exact absurd c15 (by decide)
  exact lw_tail C0 hA2 (Nat.le_of_ble_eq_true rfl) (Nat.le_of_ble_eq_true rfl) hS (lv_sub hl [0, 3] rfl)
set_option maxHeartbeats 4000000 in
set_option maxRecDepth 100000 in
theorem lc_31 {p : Program} {l : Launch} {e : Env} {s : State} {m : MethodId} {below : List Frame} {meth : Method} {c : Code} {sb : Nat} {xs : Nat → Int32} (C0 : lw_At p s m meth c sb 7 xs) {D : va_G} {Y : Nat → ClassId} {Z : Nat → Nat} (hKN : KN D Y Z s) {A : Nat → Prop} (hA : ∀ q, s.heap.size ≤ q → A q) (hA2 : ∀ q, A q → s.heap.size ≤ q) {o o2 : Nat} {b a : Nat → Nat} {H : Heap} {locs : List Loc} {ls : Array Slot} (hP : va_P D vwCl (LW Y Z o o2 b a) H) (hD : va_D A (LW Y Z o o2 b a)) (hS : va_S A s.heap H locs) (hl : lv_has ls 4 [(3, .int 0), (2, .ref o2), (1, .ref o), (0, .ref sb)]) : W p l e room_1 s m #[Value.ref sb] below meth c H locs 70 52824 (lw_Z below #[Value.ref sb] s) (F0 m 1587 ls []) := by
  obtain ⟨hx, hb, hr, hml, hown, hts, hX, hbl, hlocks, hgv⟩ := id C0
  have hb : c.code = cL_law := hb
  have hown : s.vm.findClass RL = some m.cls := hown
  have hg : ∀ w ∈ GW, w.before #[Value.ref sb] s = true := fun w h => hts w (gw_tbl h)
  have hbA : ¬ A sb := fun h => absurd (hA2 sb h) (Nat.not_le.mpr hbl)
  refine lv_aload_n hx hb dL_law_1587 rfl (lv_at hl 2 rfl) ?_
  refine cg (wc := [(o, .inr (10, (dsF b)))]) (wr := (((b 0), .inr (6, (skF b))) :: ((b 16), .inl (Y 7, 12, .inr (.inr (.inr (.inr (fun _ => none)))))) :: ((b 17), .inl (Y 8, 40, .inr (.inr (.inr (.inr (fun _ => none)))))) :: ((b 18), .inl (Y 0, 12, .inl (fun _ => 0))) :: ((b 19), .inl (Y 0, 12, .inl (fun _ => 0))) :: ((b 20), .inl (Y 0, 8, .inl (fun _ => 0))) :: ((b 21), .inl (Y 0, 8, .inl (fun _ => 0))) :: ((b 22), .inl (Y 2, 400, .inl (fun _ => 0))) :: ((b 1), .inl (Y 4, 4, .inr (.inr (.inr (.inr (fun _ => none)))))) :: ((b 5), .inr (3, (paF Z b))) :: ((b 24), .inr (8, (txF b))) :: (o2, .inr (11, (moF a))) :: ((a 0), .inl (Y 0, 7533, .inl tolF)) :: ((a 2), .inl (Y 2, 400, .inl (fun _ => 0))) :: ((a 3), .inl (Y 0, 3, .inl (fun _ => 0))) :: ((a 5), .inl (Y 0, 18, .inl (fun _ => 0))) :: ((a 7), .inl (Y 0, 18, .inl (fun _ => 0))) :: ((a 8), .inl (Y 0, 18, .inl (fun _ => 0))) :: ((a 9), .inl (Y 0, 18, .inl (fun _ => 0))) :: ((a 11), .inl (Y 0, 18, .inl (fun _ => 0))) :: ((a 13), .inl (Y 0, 18, .inl (fun _ => 0))) :: ((a 14), .inl (Y 0, 18, .inl (fun _ => 0))) :: ((a 26), .inl (Y 0, 30132, .inl (fun _ => 0))) :: ((a 27), .inl (Y 3, 4, .inl (fun _ => 0))) :: [])) [0] [1, 2, 3, 4, 5, 6, 7, 8, 9, 10, 11, 12, 13, 14, 15, 16, 17, 18, 19, 20, 21, 22, 23, 24] (rn_V (As := []) (rest := []) (b := o) (x_finest l D Y Z H.size o b ) ⟨hx, hb, hml, hown, hg⟩ lk_L_149 ⟨CP.blind, va_recv hKN.1 hP (ci := 10) (q0 := 0) rfl rfl, CP.at (hP.sub [0] rfl) hKN (hD.sub [0] (by decide) rfl)⟩ ⟨⟨rfl, rfl⟩, ⟨Nat.le_of_ble_eq_true rfl, Nat.le_of_ble_eq_true rfl⟩, ⟨Nat.le_of_ble_eq_true rfl, Nat.le_of_ble_eq_true rfl⟩⟩ hl.1 rfl (Nat.le_of_ble_eq_true rfl) dL_law_1588) hP hD hS hA rfl rfl (by decide) (by decide) (fun u1 H locs w2 hP hD hS => ?_)
  refine W.eq (g2 := F0 m 1591 ls [.int (-1)]) rfl ?_
  have hP : va_P D vwCl (((b 0), .inr (6, (skF b))) :: ((b 16), .inl (Y 7, 12, .inr (.inr (.inr (.inr (fun _ => none)))))) :: ((b 17), .inl (Y 8, 40, .inr (.inr (.inr (.inr (fun _ => none)))))) :: ((b 18), .inl (Y 0, 12, .inl (fun _ => 0))) :: ((b 19), .inl (Y 0, 12, .inl (fun _ => 0))) :: ((b 20), .inl (Y 0, 8, .inl (fun _ => 0))) :: ((b 21), .inl (Y 0, 8, .inl (fun _ => 0))) :: ((b 22), .inl (Y 2, 400, .inl (fun _ => 0))) :: ((b 1), .inl (Y 4, 4, .inr (.inr (.inr (.inr (fun _ => none)))))) :: ((b 5), .inr (3, (paF Z b))) :: ((b 24), .inr (8, (txF b))) :: (o2, .inr (11, (moF a))) :: ((a 0), .inl (Y 0, 7533, .inl tolF)) :: ((a 2), .inl (Y 2, 400, .inl (fun _ => 0))) :: ((a 3), .inl (Y 0, 3, .inl (fun _ => 0))) :: ((a 5), .inl (Y 0, 18, .inl (fun _ => 0))) :: ((a 7), .inl (Y 0, 18, .inl (fun _ => 0))) :: ((a 8), .inl (Y 0, 18, .inl (fun _ => 0))) :: ((a 9), .inl (Y 0, 18, .inl (fun _ => 0))) :: ((a 11), .inl (Y 0, 18, .inl (fun _ => 0))) :: ((a 13), .inl (Y 0, 18, .inl (fun _ => 0))) :: ((a 14), .inl (Y 0, 18, .inl (fun _ => 0))) :: ((a 26), .inl (Y 0, 30132, .inl (fun _ => 0))) :: ((a 27), .inl (Y 3, 4, .inl (fun _ => 0))) :: []) H := hP
  have hD : va_D A (((b 0), .inr (6, (skF b))) :: ((b 16), .inl (Y 7, 12, .inr (.inr (.inr (.inr (fun _ => none)))))) :: ((b 17), .inl (Y 8, 40, .inr (.inr (.inr (.inr (fun _ => none)))))) :: ((b 18), .inl (Y 0, 12, .inl (fun _ => 0))) :: ((b 19), .inl (Y 0, 12, .inl (fun _ => 0))) :: ((b 20), .inl (Y 0, 8, .inl (fun _ => 0))) :: ((b 21), .inl (Y 0, 8, .inl (fun _ => 0))) :: ((b 22), .inl (Y 2, 400, .inl (fun _ => 0))) :: ((b 1), .inl (Y 4, 4, .inr (.inr (.inr (.inr (fun _ => none)))))) :: ((b 5), .inr (3, (paF Z b))) :: ((b 24), .inr (8, (txF b))) :: (o2, .inr (11, (moF a))) :: ((a 0), .inl (Y 0, 7533, .inl tolF)) :: ((a 2), .inl (Y 2, 400, .inl (fun _ => 0))) :: ((a 3), .inl (Y 0, 3, .inl (fun _ => 0))) :: ((a 5), .inl (Y 0, 18, .inl (fun _ => 0))) :: ((a 7), .inl (Y 0, 18, .inl (fun _ => 0))) :: ((a 8), .inl (Y 0, 18, .inl (fun _ => 0))) :: ((a 9), .inl (Y 0, 18, .inl (fun _ => 0))) :: ((a 11), .inl (Y 0, 18, .inl (fun _ => 0))) :: ((a 13), .inl (Y 0, 18, .inl (fun _ => 0))) :: ((a 14), .inl (Y 0, 18, .inl (fun _ => 0))) :: ((a 26), .inl (Y 0, 30132, .inl (fun _ => 0))) :: ((a 27), .inl (Y 3, 4, .inl (fun _ => 0))) :: []) := hD
  refine lv_aload_n hx hb dL_law_1591 rfl (lv_at hl 1 rfl) ?_
  refine cg (wc := [(o2, .inr (11, (moF a))), ((a 3), .inl (Y 0, 3, .inl (fun _ => 0)))]) (wr := (((b 0), .inr (6, (skF b))) :: ((b 16), .inl (Y 7, 12, .inr (.inr (.inr (.inr (fun _ => none)))))) :: ((b 17), .inl (Y 8, 40, .inr (.inr (.inr (.inr (fun _ => none)))))) :: ((b 18), .inl (Y 0, 12, .inl (fun _ => 0))) :: ((b 19), .inl (Y 0, 12, .inl (fun _ => 0))) :: ((b 20), .inl (Y 0, 8, .inl (fun _ => 0))) :: ((b 21), .inl (Y 0, 8, .inl (fun _ => 0))) :: ((b 22), .inl (Y 2, 400, .inl (fun _ => 0))) :: ((b 1), .inl (Y 4, 4, .inr (.inr (.inr (.inr (fun _ => none)))))) :: ((b 5), .inr (3, (paF Z b))) :: ((b 24), .inr (8, (txF b))) :: ((a 0), .inl (Y 0, 7533, .inl tolF)) :: ((a 2), .inl (Y 2, 400, .inl (fun _ => 0))) :: ((a 5), .inl (Y 0, 18, .inl (fun _ => 0))) :: ((a 7), .inl (Y 0, 18, .inl (fun _ => 0))) :: ((a 8), .inl (Y 0, 18, .inl (fun _ => 0))) :: ((a 9), .inl (Y 0, 18, .inl (fun _ => 0))) :: ((a 11), .inl (Y 0, 18, .inl (fun _ => 0))) :: ((a 13), .inl (Y 0, 18, .inl (fun _ => 0))) :: ((a 14), .inl (Y 0, 18, .inl (fun _ => 0))) :: ((a 26), .inl (Y 0, 30132, .inl (fun _ => 0))) :: ((a 27), .inl (Y 3, 4, .inl (fun _ => 0))) :: [])) [11, 14] [0, 1, 2, 3, 4, 5, 6, 7, 8, 9, 10, 12, 13, 15, 16, 17, 18, 19, 20, 21, 22, 23] (rn_V (As := []) (rest := [.int (-1)]) (b := o2) (y_finest l D Y Z H.size o2 a ) ⟨hx, hb, hml, hown, hg⟩ lk_L_153 ⟨CP.blind, va_recv hKN.1 hP (ci := 11) (q0 := 11) rfl rfl, CP.at (hP.sub [11, 14] rfl) hKN (hD.sub [11, 14] (by decide) rfl)⟩ ⟨⟨rfl, rfl⟩, ⟨Nat.le_of_ble_eq_true rfl, Nat.le_of_ble_eq_true rfl⟩, ⟨Nat.le_of_ble_eq_true rfl, Nat.le_of_ble_eq_true rfl⟩⟩ hl.1 rfl (Nat.le_of_ble_eq_true rfl) dL_law_1592) hP hD hS hA rfl rfl (by decide) (by decide) (fun u3 H locs w4 hP hD hS => ?_)
  refine W.eq (g2 := F0 m 1595 ls [.int (-1), .int (-1)]) rfl ?_
  have hP : va_P D vwCl (((b 0), .inr (6, (skF b))) :: ((b 16), .inl (Y 7, 12, .inr (.inr (.inr (.inr (fun _ => none)))))) :: ((b 17), .inl (Y 8, 40, .inr (.inr (.inr (.inr (fun _ => none)))))) :: ((b 18), .inl (Y 0, 12, .inl (fun _ => 0))) :: ((b 19), .inl (Y 0, 12, .inl (fun _ => 0))) :: ((b 20), .inl (Y 0, 8, .inl (fun _ => 0))) :: ((b 21), .inl (Y 0, 8, .inl (fun _ => 0))) :: ((b 22), .inl (Y 2, 400, .inl (fun _ => 0))) :: ((b 1), .inl (Y 4, 4, .inr (.inr (.inr (.inr (fun _ => none)))))) :: ((b 5), .inr (3, (paF Z b))) :: ((b 24), .inr (8, (txF b))) :: ((a 0), .inl (Y 0, 7533, .inl tolF)) :: ((a 2), .inl (Y 2, 400, .inl (fun _ => 0))) :: ((a 5), .inl (Y 0, 18, .inl (fun _ => 0))) :: ((a 7), .inl (Y 0, 18, .inl (fun _ => 0))) :: ((a 8), .inl (Y 0, 18, .inl (fun _ => 0))) :: ((a 9), .inl (Y 0, 18, .inl (fun _ => 0))) :: ((a 11), .inl (Y 0, 18, .inl (fun _ => 0))) :: ((a 13), .inl (Y 0, 18, .inl (fun _ => 0))) :: ((a 14), .inl (Y 0, 18, .inl (fun _ => 0))) :: ((a 26), .inl (Y 0, 30132, .inl (fun _ => 0))) :: ((a 27), .inl (Y 3, 4, .inl (fun _ => 0))) :: []) H := hP
  have hD : va_D A (((b 0), .inr (6, (skF b))) :: ((b 16), .inl (Y 7, 12, .inr (.inr (.inr (.inr (fun _ => none)))))) :: ((b 17), .inl (Y 8, 40, .inr (.inr (.inr (.inr (fun _ => none)))))) :: ((b 18), .inl (Y 0, 12, .inl (fun _ => 0))) :: ((b 19), .inl (Y 0, 12, .inl (fun _ => 0))) :: ((b 20), .inl (Y 0, 8, .inl (fun _ => 0))) :: ((b 21), .inl (Y 0, 8, .inl (fun _ => 0))) :: ((b 22), .inl (Y 2, 400, .inl (fun _ => 0))) :: ((b 1), .inl (Y 4, 4, .inr (.inr (.inr (.inr (fun _ => none)))))) :: ((b 5), .inr (3, (paF Z b))) :: ((b 24), .inr (8, (txF b))) :: ((a 0), .inl (Y 0, 7533, .inl tolF)) :: ((a 2), .inl (Y 2, 400, .inl (fun _ => 0))) :: ((a 5), .inl (Y 0, 18, .inl (fun _ => 0))) :: ((a 7), .inl (Y 0, 18, .inl (fun _ => 0))) :: ((a 8), .inl (Y 0, 18, .inl (fun _ => 0))) :: ((a 9), .inl (Y 0, 18, .inl (fun _ => 0))) :: ((a 11), .inl (Y 0, 18, .inl (fun _ => 0))) :: ((a 13), .inl (Y 0, 18, .inl (fun _ => 0))) :: ((a 14), .inl (Y 0, 18, .inl (fun _ => 0))) :: ((a 26), .inl (Y 0, 30132, .inl (fun _ => 0))) :: ((a 27), .inl (Y 3, 4, .inl (fun _ => 0))) :: []) := hD
  refine lv_icmp_eq (tgt := 1885) hx hb dL_law_1595 (by decide) (fun c5 => ?_) (fun c5 => ?_)
  rotate_left
  · exact absurd c5 (by decide)
  exact lw_tail C0 hA2 (Nat.le_of_ble_eq_true rfl) (Nat.le_of_ble_eq_true rfl) hS (lv_sub hl [0, 3] rfl)
set_option maxHeartbeats 4000000 in
set_option maxRecDepth 100000 in
theorem lc_32 {p : Program} {l : Launch} {e : Env} {s : State} {m : MethodId} {below : List Frame} {meth : Method} {c : Code} {sb : Nat} {xs : Nat → Int32} (C0 : lw_At p s m meth c sb 7 xs) {D : va_G} {Y : Nat → ClassId} {Z : Nat → Nat} (hKN : KN D Y Z s) {A : Nat → Prop} (hA : ∀ q, s.heap.size ≤ q → A q) (hA2 : ∀ q, A q → s.heap.size ≤ q) {o o2 : Nat} {b a : Nat → Nat} {H : Heap} {locs : List Loc} {ls : Array Slot} (hP : va_P D vwCl (LW Y Z o o2 b a) H) (hD : va_D A (LW Y Z o o2 b a)) (hS : va_S A s.heap H locs) (hl : lv_has ls 4 [(3, .int 0), (2, .ref o2), (1, .ref o), (0, .ref sb)]) : W p l e room_1 s m #[Value.ref sb] below meth c H locs 70 52824 (lw_Z below #[Value.ref sb] s) (F0 m 1600 ls []) := by
  obtain ⟨hx, hb, hr, hml, hown, hts, hX, hbl, hlocks, hgv⟩ := id C0
  have hb : c.code = cL_law := hb
  have hown : s.vm.findClass RL = some m.cls := hown
  have hg : ∀ w ∈ GW, w.before #[Value.ref sb] s = true := fun w h => hts w (gw_tbl h)
  have hbA : ¬ A sb := fun h => absurd (hA2 sb h) (Nat.not_le.mpr hbl)
  refine lv_aload_n hx hb dL_law_1600 rfl (lv_at hl 2 rfl) ?_
  refine lv_aload_n hx hb dL_law_1601 rfl (lv_at hl 3 rfl) ?_
  refine lv_iload_n hx hb dL_law_1602 rfl (lv_at hl 0 rfl) ?_
  refine lv_iconst (v := 1) hx hb dL_law_1603 (by decide) ?_
  refine lv_iadd hx hb dL_law_1604 ?_
  refine lv_topi (fun z1 ez1 => ?_)
  obtain rfl : z1 = 1 := ez1.trans (by decide)
  refine va_sld hx hb hX hbl hbA hS (show ¬ ((1 : Int32) < 0 ∨ 7 ≤ (1 : Int32).toNatClampNeg) by decide) dL_law_1605 ?_
  refine W.eq (g2 := F0 m 1606 ls [.int (xs 1), .ref o]) rfl ?_
  refine lv_aload_n hx hb dL_law_1606 rfl (lv_at hl 3 rfl) ?_
  refine lv_iload_n hx hb dL_law_1607 rfl (lv_at hl 0 rfl) ?_
  refine lv_iconst (v := 2) hx hb dL_law_1608 (by decide) ?_
  refine lv_iadd hx hb dL_law_1609 ?_
  refine lv_topi (fun z2 ez2 => ?_)
  obtain rfl : z2 = 2 := ez2.trans (by decide)
  refine va_sld hx hb hX hbl hbA hS (show ¬ ((2 : Int32) < 0 ∨ 7 ≤ (2 : Int32).toNatClampNeg) by decide) dL_law_1610 ?_
  refine W.eq (g2 := F0 m 1611 ls [.int (xs 2), .int (xs 1), .ref o]) rfl ?_
  refine cg (wc := [(o, .inr (10, (dsF b))), ((b 0), .inr (6, (skF b)))]) (wr := (((b 16), .inl (Y 7, 12, .inr (.inr (.inr (.inr (fun _ => none)))))) :: ((b 17), .inl (Y 8, 40, .inr (.inr (.inr (.inr (fun _ => none)))))) :: ((b 18), .inl (Y 0, 12, .inl (fun _ => 0))) :: ((b 19), .inl (Y 0, 12, .inl (fun _ => 0))) :: ((b 20), .inl (Y 0, 8, .inl (fun _ => 0))) :: ((b 21), .inl (Y 0, 8, .inl (fun _ => 0))) :: ((b 22), .inl (Y 2, 400, .inl (fun _ => 0))) :: ((b 1), .inl (Y 4, 4, .inr (.inr (.inr (.inr (fun _ => none)))))) :: ((b 5), .inr (3, (paF Z b))) :: ((b 24), .inr (8, (txF b))) :: (o2, .inr (11, (moF a))) :: ((a 0), .inl (Y 0, 7533, .inl tolF)) :: ((a 2), .inl (Y 2, 400, .inl (fun _ => 0))) :: ((a 3), .inl (Y 0, 3, .inl (fun _ => 0))) :: ((a 5), .inl (Y 0, 18, .inl (fun _ => 0))) :: ((a 7), .inl (Y 0, 18, .inl (fun _ => 0))) :: ((a 8), .inl (Y 0, 18, .inl (fun _ => 0))) :: ((a 9), .inl (Y 0, 18, .inl (fun _ => 0))) :: ((a 11), .inl (Y 0, 18, .inl (fun _ => 0))) :: ((a 13), .inl (Y 0, 18, .inl (fun _ => 0))) :: ((a 14), .inl (Y 0, 18, .inl (fun _ => 0))) :: ((a 26), .inl (Y 0, 30132, .inl (fun _ => 0))) :: ((a 27), .inl (Y 3, 4, .inl (fun _ => 0))) :: [])) [0, 1] [2, 3, 4, 5, 6, 7, 8, 9, 10, 11, 12, 13, 14, 15, 16, 17, 18, 19, 20, 21, 22, 23, 24] (rn_V (As := [.int (xs 1), .int (xs 2)]) (rest := []) (b := o) (x_room l D Y Z H.size o b (xs 1) (xs 2)) ⟨hx, hb, hml, hown, hg⟩ lk_L_154 ⟨CP.blind, va_recv hKN.1 hP (ci := 10) (q0 := 0) rfl rfl, CP.at (hP.sub [0, 1] rfl) hKN (hD.sub [0, 1] (by decide) rfl)⟩ ⟨⟨rfl, rfl⟩, ⟨Nat.le_of_ble_eq_true rfl, Nat.le_of_ble_eq_true rfl⟩, ⟨Nat.le_of_ble_eq_true rfl, Nat.le_of_ble_eq_true rfl⟩⟩ hl.1 rfl (Nat.le_of_ble_eq_true rfl) dL_law_1611) hP hD hS hA rfl rfl (by decide) (by decide) (fun u3 H locs w4 hP hD hS => ?_)
  refine W.eq (g2 := F0 m 1614 ls [.int (-1)]) rfl ?_
  have hP : va_P D vwCl (((b 16), .inl (Y 7, 12, .inr (.inr (.inr (.inr (fun _ => none)))))) :: ((b 17), .inl (Y 8, 40, .inr (.inr (.inr (.inr (fun _ => none)))))) :: ((b 18), .inl (Y 0, 12, .inl (fun _ => 0))) :: ((b 19), .inl (Y 0, 12, .inl (fun _ => 0))) :: ((b 20), .inl (Y 0, 8, .inl (fun _ => 0))) :: ((b 21), .inl (Y 0, 8, .inl (fun _ => 0))) :: ((b 22), .inl (Y 2, 400, .inl (fun _ => 0))) :: ((b 1), .inl (Y 4, 4, .inr (.inr (.inr (.inr (fun _ => none)))))) :: ((b 5), .inr (3, (paF Z b))) :: ((b 24), .inr (8, (txF b))) :: (o2, .inr (11, (moF a))) :: ((a 0), .inl (Y 0, 7533, .inl tolF)) :: ((a 2), .inl (Y 2, 400, .inl (fun _ => 0))) :: ((a 3), .inl (Y 0, 3, .inl (fun _ => 0))) :: ((a 5), .inl (Y 0, 18, .inl (fun _ => 0))) :: ((a 7), .inl (Y 0, 18, .inl (fun _ => 0))) :: ((a 8), .inl (Y 0, 18, .inl (fun _ => 0))) :: ((a 9), .inl (Y 0, 18, .inl (fun _ => 0))) :: ((a 11), .inl (Y 0, 18, .inl (fun _ => 0))) :: ((a 13), .inl (Y 0, 18, .inl (fun _ => 0))) :: ((a 14), .inl (Y 0, 18, .inl (fun _ => 0))) :: ((a 26), .inl (Y 0, 30132, .inl (fun _ => 0))) :: ((a 27), .inl (Y 3, 4, .inl (fun _ => 0))) :: []) H := hP
  have hD : va_D A (((b 16), .inl (Y 7, 12, .inr (.inr (.inr (.inr (fun _ => none)))))) :: ((b 17), .inl (Y 8, 40, .inr (.inr (.inr (.inr (fun _ => none)))))) :: ((b 18), .inl (Y 0, 12, .inl (fun _ => 0))) :: ((b 19), .inl (Y 0, 12, .inl (fun _ => 0))) :: ((b 20), .inl (Y 0, 8, .inl (fun _ => 0))) :: ((b 21), .inl (Y 0, 8, .inl (fun _ => 0))) :: ((b 22), .inl (Y 2, 400, .inl (fun _ => 0))) :: ((b 1), .inl (Y 4, 4, .inr (.inr (.inr (.inr (fun _ => none)))))) :: ((b 5), .inr (3, (paF Z b))) :: ((b 24), .inr (8, (txF b))) :: (o2, .inr (11, (moF a))) :: ((a 0), .inl (Y 0, 7533, .inl tolF)) :: ((a 2), .inl (Y 2, 400, .inl (fun _ => 0))) :: ((a 3), .inl (Y 0, 3, .inl (fun _ => 0))) :: ((a 5), .inl (Y 0, 18, .inl (fun _ => 0))) :: ((a 7), .inl (Y 0, 18, .inl (fun _ => 0))) :: ((a 8), .inl (Y 0, 18, .inl (fun _ => 0))) :: ((a 9), .inl (Y 0, 18, .inl (fun _ => 0))) :: ((a 11), .inl (Y 0, 18, .inl (fun _ => 0))) :: ((a 13), .inl (Y 0, 18, .inl (fun _ => 0))) :: ((a 14), .inl (Y 0, 18, .inl (fun _ => 0))) :: ((a 26), .inl (Y 0, 30132, .inl (fun _ => 0))) :: ((a 27), .inl (Y 3, 4, .inl (fun _ => 0))) :: []) := hD
  refine lv_aload_n hx hb dL_law_1614 rfl (lv_at hl 1 rfl) ?_
  refine lv_aload_n hx hb dL_law_1615 rfl (lv_at hl 3 rfl) ?_
  refine lv_iload_n hx hb dL_law_1616 rfl (lv_at hl 0 rfl) ?_
  refine lv_iconst (v := 1) hx hb dL_law_1617 (by decide) ?_
  refine lv_iadd hx hb dL_law_1618 ?_
  refine lv_topi (fun z5 ez5 => ?_)
  obtain rfl : z5 = 1 := ez5.trans (by decide)
  refine va_sld hx hb hX hbl hbA hS (show ¬ ((1 : Int32) < 0 ∨ 7 ≤ (1 : Int32).toNatClampNeg) by decide) dL_law_1619 ?_
  refine W.eq (g2 := F0 m 1620 ls [.int (xs 1), .ref o2, .int (-1)]) rfl ?_
  refine lv_aload_n hx hb dL_law_1620 rfl (lv_at hl 3 rfl) ?_
  refine lv_iload_n hx hb dL_law_1621 rfl (lv_at hl 0 rfl) ?_
  refine lv_iconst (v := 2) hx hb dL_law_1622 (by decide) ?_
  refine lv_iadd hx hb dL_law_1623 ?_
  refine lv_topi (fun z6 ez6 => ?_)
  obtain rfl : z6 = 2 := ez6.trans (by decide)
  refine va_sld hx hb hX hbl hbA hS (show ¬ ((2 : Int32) < 0 ∨ 7 ≤ (2 : Int32).toNatClampNeg) by decide) dL_law_1624 ?_
  refine W.eq (g2 := F0 m 1625 ls [.int (xs 2), .int (xs 1), .ref o2, .int (-1)]) rfl ?_
  refine cg (wc := [(o2, .inr (11, (moF a))), ((a 3), .inl (Y 0, 3, .inl (fun _ => 0)))]) (wr := (((b 16), .inl (Y 7, 12, .inr (.inr (.inr (.inr (fun _ => none)))))) :: ((b 17), .inl (Y 8, 40, .inr (.inr (.inr (.inr (fun _ => none)))))) :: ((b 18), .inl (Y 0, 12, .inl (fun _ => 0))) :: ((b 19), .inl (Y 0, 12, .inl (fun _ => 0))) :: ((b 20), .inl (Y 0, 8, .inl (fun _ => 0))) :: ((b 21), .inl (Y 0, 8, .inl (fun _ => 0))) :: ((b 22), .inl (Y 2, 400, .inl (fun _ => 0))) :: ((b 1), .inl (Y 4, 4, .inr (.inr (.inr (.inr (fun _ => none)))))) :: ((b 5), .inr (3, (paF Z b))) :: ((b 24), .inr (8, (txF b))) :: ((a 0), .inl (Y 0, 7533, .inl tolF)) :: ((a 2), .inl (Y 2, 400, .inl (fun _ => 0))) :: ((a 5), .inl (Y 0, 18, .inl (fun _ => 0))) :: ((a 7), .inl (Y 0, 18, .inl (fun _ => 0))) :: ((a 8), .inl (Y 0, 18, .inl (fun _ => 0))) :: ((a 9), .inl (Y 0, 18, .inl (fun _ => 0))) :: ((a 11), .inl (Y 0, 18, .inl (fun _ => 0))) :: ((a 13), .inl (Y 0, 18, .inl (fun _ => 0))) :: ((a 14), .inl (Y 0, 18, .inl (fun _ => 0))) :: ((a 26), .inl (Y 0, 30132, .inl (fun _ => 0))) :: ((a 27), .inl (Y 3, 4, .inl (fun _ => 0))) :: [])) [10, 13] [0, 1, 2, 3, 4, 5, 6, 7, 8, 9, 11, 12, 14, 15, 16, 17, 18, 19, 20, 21, 22] (rn_V (As := [.int (xs 1), .int (xs 2)]) (rest := [.int (-1)]) (b := o2) (y_room l D Y Z H.size o2 a (xs 1) (xs 2)) ⟨hx, hb, hml, hown, hg⟩ lk_L_157 ⟨CP.blind, va_recv hKN.1 hP (ci := 11) (q0 := 10) rfl rfl, CP.at (hP.sub [10, 13] rfl) hKN (hD.sub [10, 13] (by decide) rfl)⟩ ⟨⟨rfl, rfl⟩, ⟨Nat.le_of_ble_eq_true rfl, Nat.le_of_ble_eq_true rfl⟩, ⟨Nat.le_of_ble_eq_true rfl, Nat.le_of_ble_eq_true rfl⟩⟩ hl.1 rfl (Nat.le_of_ble_eq_true rfl) dL_law_1625) hP hD hS hA rfl rfl (by decide) (by decide) (fun u7 H locs w8 hP hD hS => ?_)
  refine W.eq (g2 := F0 m 1628 ls [.int (-1), .int (-1)]) rfl ?_
  have hP : va_P D vwCl (((b 16), .inl (Y 7, 12, .inr (.inr (.inr (.inr (fun _ => none)))))) :: ((b 17), .inl (Y 8, 40, .inr (.inr (.inr (.inr (fun _ => none)))))) :: ((b 18), .inl (Y 0, 12, .inl (fun _ => 0))) :: ((b 19), .inl (Y 0, 12, .inl (fun _ => 0))) :: ((b 20), .inl (Y 0, 8, .inl (fun _ => 0))) :: ((b 21), .inl (Y 0, 8, .inl (fun _ => 0))) :: ((b 22), .inl (Y 2, 400, .inl (fun _ => 0))) :: ((b 1), .inl (Y 4, 4, .inr (.inr (.inr (.inr (fun _ => none)))))) :: ((b 5), .inr (3, (paF Z b))) :: ((b 24), .inr (8, (txF b))) :: ((a 0), .inl (Y 0, 7533, .inl tolF)) :: ((a 2), .inl (Y 2, 400, .inl (fun _ => 0))) :: ((a 5), .inl (Y 0, 18, .inl (fun _ => 0))) :: ((a 7), .inl (Y 0, 18, .inl (fun _ => 0))) :: ((a 8), .inl (Y 0, 18, .inl (fun _ => 0))) :: ((a 9), .inl (Y 0, 18, .inl (fun _ => 0))) :: ((a 11), .inl (Y 0, 18, .inl (fun _ => 0))) :: ((a 13), .inl (Y 0, 18, .inl (fun _ => 0))) :: ((a 14), .inl (Y 0, 18, .inl (fun _ => 0))) :: ((a 26), .inl (Y 0, 30132, .inl (fun _ => 0))) :: ((a 27), .inl (Y 3, 4, .inl (fun _ => 0))) :: []) H := hP
  have hD : va_D A (((b 16), .inl (Y 7, 12, .inr (.inr (.inr (.inr (fun _ => none)))))) :: ((b 17), .inl (Y 8, 40, .inr (.inr (.inr (.inr (fun _ => none)))))) :: ((b 18), .inl (Y 0, 12, .inl (fun _ => 0))) :: ((b 19), .inl (Y 0, 12, .inl (fun _ => 0))) :: ((b 20), .inl (Y 0, 8, .inl (fun _ => 0))) :: ((b 21), .inl (Y 0, 8, .inl (fun _ => 0))) :: ((b 22), .inl (Y 2, 400, .inl (fun _ => 0))) :: ((b 1), .inl (Y 4, 4, .inr (.inr (.inr (.inr (fun _ => none)))))) :: ((b 5), .inr (3, (paF Z b))) :: ((b 24), .inr (8, (txF b))) :: ((a 0), .inl (Y 0, 7533, .inl tolF)) :: ((a 2), .inl (Y 2, 400, .inl (fun _ => 0))) :: ((a 5), .inl (Y 0, 18, .inl (fun _ => 0))) :: ((a 7), .inl (Y 0, 18, .inl (fun _ => 0))) :: ((a 8), .inl (Y 0, 18, .inl (fun _ => 0))) :: ((a 9), .inl (Y 0, 18, .inl (fun _ => 0))) :: ((a 11), .inl (Y 0, 18, .inl (fun _ => 0))) :: ((a 13), .inl (Y 0, 18, .inl (fun _ => 0))) :: ((a 14), .inl (Y 0, 18, .inl (fun _ => 0))) :: ((a 26), .inl (Y 0, 30132, .inl (fun _ => 0))) :: ((a 27), .inl (Y 3, 4, .inl (fun _ => 0))) :: []) := hD
  refine lv_icmp_eq (tgt := 1885) hx hb dL_law_1628 (by decide) (fun c9 => ?_) (fun c9 => ?_)
  rotate_left
  · exact absurd c9 (by decide)
  exact lw_tail C0 hA2 (Nat.le_of_ble_eq_true rfl) (Nat.le_of_ble_eq_true rfl) hS (lv_sub hl [0, 3] rfl)
set_option maxHeartbeats 4000000 in
set_option maxRecDepth 100000 in
theorem lc_33 {p : Program} {l : Launch} {e : Env} {s : State} {m : MethodId} {below : List Frame} {meth : Method} {c : Code} {sb : Nat} {xs : Nat → Int32} (C0 : lw_At p s m meth c sb 7 xs) {D : va_G} {Y : Nat → ClassId} {Z : Nat → Nat} (hKN : KN D Y Z s) {A : Nat → Prop} (hA : ∀ q, s.heap.size ≤ q → A q) (hA2 : ∀ q, A q → s.heap.size ≤ q) {o o2 : Nat} {b a : Nat → Nat} {H : Heap} {locs : List Loc} {ls : Array Slot} (hP : va_P D vwCl (LW Y Z o o2 b a) H) (hD : va_D A (LW Y Z o o2 b a)) (hS : va_S A s.heap H locs) (hl : lv_has ls 4 [(3, .int 0), (2, .ref o2), (1, .ref o), (0, .ref sb)]) : W p l e room_1 s m #[Value.ref sb] below meth c H locs 70 52824 (lw_Z below #[Value.ref sb] s) (F0 m 1633 ls []) := by
  obtain ⟨hx, hb, hr, hml, hown, hts, hX, hbl, hlocks, hgv⟩ := id C0
  have hb : c.code = cL_law := hb
  have hown : s.vm.findClass RL = some m.cls := hown
  have hg : ∀ w ∈ GW, w.before #[Value.ref sb] s = true := fun w h => hts w (gw_tbl h)
  have hbA : ¬ A sb := fun h => absurd (hA2 sb h) (Nat.not_le.mpr hbl)
  refine lv_aload_n hx hb dL_law_1633 rfl (lv_at hl 2 rfl) ?_
  refine lv_aload_n hx hb dL_law_1634 rfl (lv_at hl 3 rfl) ?_
  refine lv_iload_n hx hb dL_law_1635 rfl (lv_at hl 0 rfl) ?_
  refine lv_iconst (v := 1) hx hb dL_law_1636 (by decide) ?_
  refine lv_iadd hx hb dL_law_1637 ?_
  refine lv_topi (fun z1 ez1 => ?_)
  obtain rfl : z1 = 1 := ez1.trans (by decide)
  refine va_sld hx hb hX hbl hbA hS (show ¬ ((1 : Int32) < 0 ∨ 7 ≤ (1 : Int32).toNatClampNeg) by decide) dL_law_1638 ?_
  refine W.eq (g2 := F0 m 1639 ls [.int (xs 1), .ref o]) rfl ?_
  refine lv_aload_n hx hb dL_law_1639 rfl (lv_at hl 3 rfl) ?_
  refine lv_iload_n hx hb dL_law_1640 rfl (lv_at hl 0 rfl) ?_
  refine lv_iconst (v := 2) hx hb dL_law_1641 (by decide) ?_
  refine lv_iadd hx hb dL_law_1642 ?_
  refine lv_topi (fun z2 ez2 => ?_)
  obtain rfl : z2 = 2 := ez2.trans (by decide)
  refine va_sld hx hb hX hbl hbA hS (show ¬ ((2 : Int32) < 0 ∨ 7 ≤ (2 : Int32).toNatClampNeg) by decide) dL_law_1643 ?_
  refine W.eq (g2 := F0 m 1644 ls [.int (xs 2), .int (xs 1), .ref o]) rfl ?_
  refine lv_aload_n hx hb dL_law_1644 rfl (lv_at hl 3 rfl) ?_
  refine lv_iload_n hx hb dL_law_1645 rfl (lv_at hl 0 rfl) ?_
  refine lv_iconst (v := 3) hx hb dL_law_1646 (by decide) ?_
  refine lv_iadd hx hb dL_law_1647 ?_
  refine lv_topi (fun z3 ez3 => ?_)
  obtain rfl : z3 = 3 := ez3.trans (by decide)
  refine va_sld hx hb hX hbl hbA hS (show ¬ ((3 : Int32) < 0 ∨ 7 ≤ (3 : Int32).toNatClampNeg) by decide) dL_law_1648 ?_
  refine W.eq (g2 := F0 m 1649 ls [.int (xs 3), .int (xs 2), .int (xs 1), .ref o]) rfl ?_
  refine cg (wc := [(o, .inr (10, (dsF b)))]) (wr := (((b 0), .inr (6, (skF b))) :: ((b 16), .inl (Y 7, 12, .inr (.inr (.inr (.inr (fun _ => none)))))) :: ((b 17), .inl (Y 8, 40, .inr (.inr (.inr (.inr (fun _ => none)))))) :: ((b 18), .inl (Y 0, 12, .inl (fun _ => 0))) :: ((b 19), .inl (Y 0, 12, .inl (fun _ => 0))) :: ((b 20), .inl (Y 0, 8, .inl (fun _ => 0))) :: ((b 21), .inl (Y 0, 8, .inl (fun _ => 0))) :: ((b 22), .inl (Y 2, 400, .inl (fun _ => 0))) :: ((b 1), .inl (Y 4, 4, .inr (.inr (.inr (.inr (fun _ => none)))))) :: ((b 5), .inr (3, (paF Z b))) :: ((b 24), .inr (8, (txF b))) :: (o2, .inr (11, (moF a))) :: ((a 0), .inl (Y 0, 7533, .inl tolF)) :: ((a 2), .inl (Y 2, 400, .inl (fun _ => 0))) :: ((a 3), .inl (Y 0, 3, .inl (fun _ => 0))) :: ((a 5), .inl (Y 0, 18, .inl (fun _ => 0))) :: ((a 7), .inl (Y 0, 18, .inl (fun _ => 0))) :: ((a 8), .inl (Y 0, 18, .inl (fun _ => 0))) :: ((a 9), .inl (Y 0, 18, .inl (fun _ => 0))) :: ((a 11), .inl (Y 0, 18, .inl (fun _ => 0))) :: ((a 13), .inl (Y 0, 18, .inl (fun _ => 0))) :: ((a 14), .inl (Y 0, 18, .inl (fun _ => 0))) :: ((a 26), .inl (Y 0, 30132, .inl (fun _ => 0))) :: ((a 27), .inl (Y 3, 4, .inl (fun _ => 0))) :: [])) [0] [1, 2, 3, 4, 5, 6, 7, 8, 9, 10, 11, 12, 13, 14, 15, 16, 17, 18, 19, 20, 21, 22, 23, 24] (rn_V (As := [.int (xs 1), .int (xs 2), .int (xs 3)]) (rest := []) (b := o) (x_other l D Y Z H.size o b (xs 1) (xs 2) (xs 3)) ⟨hx, hb, hml, hown, hg⟩ lk_L_158 ⟨CP.blind, va_recv hKN.1 hP (ci := 10) (q0 := 0) rfl rfl, CP.at (hP.sub [0] rfl) hKN (hD.sub [0] (by decide) rfl)⟩ ⟨⟨rfl, rfl⟩, ⟨Nat.le_of_ble_eq_true rfl, Nat.le_of_ble_eq_true rfl⟩, ⟨Nat.le_of_ble_eq_true rfl, Nat.le_of_ble_eq_true rfl⟩⟩ hl.1 rfl (Nat.le_of_ble_eq_true rfl) dL_law_1649) hP hD hS hA rfl rfl (by decide) (by decide) (fun u4 H locs w5 hP hD hS => ?_)
  refine W.eq (g2 := F0 m 1652 ls [.int (-3)]) rfl ?_
  have hP : va_P D vwCl (((b 0), .inr (6, (skF b))) :: ((b 16), .inl (Y 7, 12, .inr (.inr (.inr (.inr (fun _ => none)))))) :: ((b 17), .inl (Y 8, 40, .inr (.inr (.inr (.inr (fun _ => none)))))) :: ((b 18), .inl (Y 0, 12, .inl (fun _ => 0))) :: ((b 19), .inl (Y 0, 12, .inl (fun _ => 0))) :: ((b 20), .inl (Y 0, 8, .inl (fun _ => 0))) :: ((b 21), .inl (Y 0, 8, .inl (fun _ => 0))) :: ((b 22), .inl (Y 2, 400, .inl (fun _ => 0))) :: ((b 1), .inl (Y 4, 4, .inr (.inr (.inr (.inr (fun _ => none)))))) :: ((b 5), .inr (3, (paF Z b))) :: ((b 24), .inr (8, (txF b))) :: (o2, .inr (11, (moF a))) :: ((a 0), .inl (Y 0, 7533, .inl tolF)) :: ((a 2), .inl (Y 2, 400, .inl (fun _ => 0))) :: ((a 3), .inl (Y 0, 3, .inl (fun _ => 0))) :: ((a 5), .inl (Y 0, 18, .inl (fun _ => 0))) :: ((a 7), .inl (Y 0, 18, .inl (fun _ => 0))) :: ((a 8), .inl (Y 0, 18, .inl (fun _ => 0))) :: ((a 9), .inl (Y 0, 18, .inl (fun _ => 0))) :: ((a 11), .inl (Y 0, 18, .inl (fun _ => 0))) :: ((a 13), .inl (Y 0, 18, .inl (fun _ => 0))) :: ((a 14), .inl (Y 0, 18, .inl (fun _ => 0))) :: ((a 26), .inl (Y 0, 30132, .inl (fun _ => 0))) :: ((a 27), .inl (Y 3, 4, .inl (fun _ => 0))) :: []) H := hP
  have hD : va_D A (((b 0), .inr (6, (skF b))) :: ((b 16), .inl (Y 7, 12, .inr (.inr (.inr (.inr (fun _ => none)))))) :: ((b 17), .inl (Y 8, 40, .inr (.inr (.inr (.inr (fun _ => none)))))) :: ((b 18), .inl (Y 0, 12, .inl (fun _ => 0))) :: ((b 19), .inl (Y 0, 12, .inl (fun _ => 0))) :: ((b 20), .inl (Y 0, 8, .inl (fun _ => 0))) :: ((b 21), .inl (Y 0, 8, .inl (fun _ => 0))) :: ((b 22), .inl (Y 2, 400, .inl (fun _ => 0))) :: ((b 1), .inl (Y 4, 4, .inr (.inr (.inr (.inr (fun _ => none)))))) :: ((b 5), .inr (3, (paF Z b))) :: ((b 24), .inr (8, (txF b))) :: (o2, .inr (11, (moF a))) :: ((a 0), .inl (Y 0, 7533, .inl tolF)) :: ((a 2), .inl (Y 2, 400, .inl (fun _ => 0))) :: ((a 3), .inl (Y 0, 3, .inl (fun _ => 0))) :: ((a 5), .inl (Y 0, 18, .inl (fun _ => 0))) :: ((a 7), .inl (Y 0, 18, .inl (fun _ => 0))) :: ((a 8), .inl (Y 0, 18, .inl (fun _ => 0))) :: ((a 9), .inl (Y 0, 18, .inl (fun _ => 0))) :: ((a 11), .inl (Y 0, 18, .inl (fun _ => 0))) :: ((a 13), .inl (Y 0, 18, .inl (fun _ => 0))) :: ((a 14), .inl (Y 0, 18, .inl (fun _ => 0))) :: ((a 26), .inl (Y 0, 30132, .inl (fun _ => 0))) :: ((a 27), .inl (Y 3, 4, .inl (fun _ => 0))) :: []) := hD
  refine lv_aload_n hx hb dL_law_1652 rfl (lv_at hl 1 rfl) ?_
  refine lv_aload_n hx hb dL_law_1653 rfl (lv_at hl 3 rfl) ?_
  refine lv_iload_n hx hb dL_law_1654 rfl (lv_at hl 0 rfl) ?_
  refine lv_iconst (v := 1) hx hb dL_law_1655 (by decide) ?_
  refine lv_iadd hx hb dL_law_1656 ?_
  refine lv_topi (fun z6 ez6 => ?_)
  obtain rfl : z6 = 1 := ez6.trans (by decide)
  refine va_sld hx hb hX hbl hbA hS (show ¬ ((1 : Int32) < 0 ∨ 7 ≤ (1 : Int32).toNatClampNeg) by decide) dL_law_1657 ?_
  refine W.eq (g2 := F0 m 1658 ls [.int (xs 1), .ref o2, .int (-3)]) rfl ?_
  refine lv_aload_n hx hb dL_law_1658 rfl (lv_at hl 3 rfl) ?_
  refine lv_iload_n hx hb dL_law_1659 rfl (lv_at hl 0 rfl) ?_
  refine lv_iconst (v := 2) hx hb dL_law_1660 (by decide) ?_
  refine lv_iadd hx hb dL_law_1661 ?_
  refine lv_topi (fun z7 ez7 => ?_)
  obtain rfl : z7 = 2 := ez7.trans (by decide)
  refine va_sld hx hb hX hbl hbA hS (show ¬ ((2 : Int32) < 0 ∨ 7 ≤ (2 : Int32).toNatClampNeg) by decide) dL_law_1662 ?_
  refine W.eq (g2 := F0 m 1663 ls [.int (xs 2), .int (xs 1), .ref o2, .int (-3)]) rfl ?_
  refine lv_aload_n hx hb dL_law_1663 rfl (lv_at hl 3 rfl) ?_
  refine lv_iload_n hx hb dL_law_1664 rfl (lv_at hl 0 rfl) ?_
  refine lv_iconst (v := 3) hx hb dL_law_1665 (by decide) ?_
  refine lv_iadd hx hb dL_law_1666 ?_
  refine lv_topi (fun z8 ez8 => ?_)
  obtain rfl : z8 = 3 := ez8.trans (by decide)
  refine va_sld hx hb hX hbl hbA hS (show ¬ ((3 : Int32) < 0 ∨ 7 ≤ (3 : Int32).toNatClampNeg) by decide) dL_law_1667 ?_
  refine W.eq (g2 := F0 m 1668 ls [.int (xs 3), .int (xs 2), .int (xs 1), .ref o2, .int (-3)]) rfl ?_
  refine cg (wc := [(o2, .inr (11, (moF a))), ((a 3), .inl (Y 0, 3, .inl (fun _ => 0)))]) (wr := (((b 0), .inr (6, (skF b))) :: ((b 16), .inl (Y 7, 12, .inr (.inr (.inr (.inr (fun _ => none)))))) :: ((b 17), .inl (Y 8, 40, .inr (.inr (.inr (.inr (fun _ => none)))))) :: ((b 18), .inl (Y 0, 12, .inl (fun _ => 0))) :: ((b 19), .inl (Y 0, 12, .inl (fun _ => 0))) :: ((b 20), .inl (Y 0, 8, .inl (fun _ => 0))) :: ((b 21), .inl (Y 0, 8, .inl (fun _ => 0))) :: ((b 22), .inl (Y 2, 400, .inl (fun _ => 0))) :: ((b 1), .inl (Y 4, 4, .inr (.inr (.inr (.inr (fun _ => none)))))) :: ((b 5), .inr (3, (paF Z b))) :: ((b 24), .inr (8, (txF b))) :: ((a 0), .inl (Y 0, 7533, .inl tolF)) :: ((a 2), .inl (Y 2, 400, .inl (fun _ => 0))) :: ((a 5), .inl (Y 0, 18, .inl (fun _ => 0))) :: ((a 7), .inl (Y 0, 18, .inl (fun _ => 0))) :: ((a 8), .inl (Y 0, 18, .inl (fun _ => 0))) :: ((a 9), .inl (Y 0, 18, .inl (fun _ => 0))) :: ((a 11), .inl (Y 0, 18, .inl (fun _ => 0))) :: ((a 13), .inl (Y 0, 18, .inl (fun _ => 0))) :: ((a 14), .inl (Y 0, 18, .inl (fun _ => 0))) :: ((a 26), .inl (Y 0, 30132, .inl (fun _ => 0))) :: ((a 27), .inl (Y 3, 4, .inl (fun _ => 0))) :: [])) [11, 14] [0, 1, 2, 3, 4, 5, 6, 7, 8, 9, 10, 12, 13, 15, 16, 17, 18, 19, 20, 21, 22, 23] (rn_V (As := [.int (xs 1), .int (xs 2), .int (xs 3)]) (rest := [.int (-3)]) (b := o2) (y_other l D Y Z H.size o2 a (xs 1) (xs 2) (xs 3)) ⟨hx, hb, hml, hown, hg⟩ lk_L_161 ⟨CP.blind, va_recv hKN.1 hP (ci := 11) (q0 := 11) rfl rfl, CP.at (hP.sub [11, 14] rfl) hKN (hD.sub [11, 14] (by decide) rfl)⟩ ⟨⟨rfl, rfl⟩, ⟨Nat.le_of_ble_eq_true rfl, Nat.le_of_ble_eq_true rfl⟩, ⟨Nat.le_of_ble_eq_true rfl, Nat.le_of_ble_eq_true rfl⟩⟩ hl.1 rfl (Nat.le_of_ble_eq_true rfl) dL_law_1668) hP hD hS hA rfl rfl (by decide) (by decide) (fun u9 H locs w10 hP hD hS => ?_)
  refine W.eq (g2 := F0 m 1671 ls [.int (-3), .int (-3)]) rfl ?_
  have hP : va_P D vwCl (((b 0), .inr (6, (skF b))) :: ((b 16), .inl (Y 7, 12, .inr (.inr (.inr (.inr (fun _ => none)))))) :: ((b 17), .inl (Y 8, 40, .inr (.inr (.inr (.inr (fun _ => none)))))) :: ((b 18), .inl (Y 0, 12, .inl (fun _ => 0))) :: ((b 19), .inl (Y 0, 12, .inl (fun _ => 0))) :: ((b 20), .inl (Y 0, 8, .inl (fun _ => 0))) :: ((b 21), .inl (Y 0, 8, .inl (fun _ => 0))) :: ((b 22), .inl (Y 2, 400, .inl (fun _ => 0))) :: ((b 1), .inl (Y 4, 4, .inr (.inr (.inr (.inr (fun _ => none)))))) :: ((b 5), .inr (3, (paF Z b))) :: ((b 24), .inr (8, (txF b))) :: ((a 0), .inl (Y 0, 7533, .inl tolF)) :: ((a 2), .inl (Y 2, 400, .inl (fun _ => 0))) :: ((a 5), .inl (Y 0, 18, .inl (fun _ => 0))) :: ((a 7), .inl (Y 0, 18, .inl (fun _ => 0))) :: ((a 8), .inl (Y 0, 18, .inl (fun _ => 0))) :: ((a 9), .inl (Y 0, 18, .inl (fun _ => 0))) :: ((a 11), .inl (Y 0, 18, .inl (fun _ => 0))) :: ((a 13), .inl (Y 0, 18, .inl (fun _ => 0))) :: ((a 14), .inl (Y 0, 18, .inl (fun _ => 0))) :: ((a 26), .inl (Y 0, 30132, .inl (fun _ => 0))) :: ((a 27), .inl (Y 3, 4, .inl (fun _ => 0))) :: []) H := hP
  have hD : va_D A (((b 0), .inr (6, (skF b))) :: ((b 16), .inl (Y 7, 12, .inr (.inr (.inr (.inr (fun _ => none)))))) :: ((b 17), .inl (Y 8, 40, .inr (.inr (.inr (.inr (fun _ => none)))))) :: ((b 18), .inl (Y 0, 12, .inl (fun _ => 0))) :: ((b 19), .inl (Y 0, 12, .inl (fun _ => 0))) :: ((b 20), .inl (Y 0, 8, .inl (fun _ => 0))) :: ((b 21), .inl (Y 0, 8, .inl (fun _ => 0))) :: ((b 22), .inl (Y 2, 400, .inl (fun _ => 0))) :: ((b 1), .inl (Y 4, 4, .inr (.inr (.inr (.inr (fun _ => none)))))) :: ((b 5), .inr (3, (paF Z b))) :: ((b 24), .inr (8, (txF b))) :: ((a 0), .inl (Y 0, 7533, .inl tolF)) :: ((a 2), .inl (Y 2, 400, .inl (fun _ => 0))) :: ((a 5), .inl (Y 0, 18, .inl (fun _ => 0))) :: ((a 7), .inl (Y 0, 18, .inl (fun _ => 0))) :: ((a 8), .inl (Y 0, 18, .inl (fun _ => 0))) :: ((a 9), .inl (Y 0, 18, .inl (fun _ => 0))) :: ((a 11), .inl (Y 0, 18, .inl (fun _ => 0))) :: ((a 13), .inl (Y 0, 18, .inl (fun _ => 0))) :: ((a 14), .inl (Y 0, 18, .inl (fun _ => 0))) :: ((a 26), .inl (Y 0, 30132, .inl (fun _ => 0))) :: ((a 27), .inl (Y 3, 4, .inl (fun _ => 0))) :: []) := hD
  refine lv_icmp_eq (tgt := 1885) hx hb dL_law_1671 (by decide) (fun c11 => ?_) (fun c11 => ?_)
  rotate_left
  · exact absurd c11 (by decide)
  exact lw_tail C0 hA2 (Nat.le_of_ble_eq_true rfl) (Nat.le_of_ble_eq_true rfl) hS (lv_sub hl [0, 3] rfl)
set_option maxHeartbeats 4000000 in
set_option maxRecDepth 100000 in
theorem lc_34 {p : Program} {l : Launch} {e : Env} {s : State} {m : MethodId} {below : List Frame} {meth : Method} {c : Code} {sb : Nat} {xs : Nat → Int32} (C0 : lw_At p s m meth c sb 7 xs) {D : va_G} {Y : Nat → ClassId} {Z : Nat → Nat} (hKN : KN D Y Z s) {A : Nat → Prop} (hA : ∀ q, s.heap.size ≤ q → A q) (hA2 : ∀ q, A q → s.heap.size ≤ q) {o o2 : Nat} {b a : Nat → Nat} {H : Heap} {locs : List Loc} {ls : Array Slot} (hP : va_P D vwCl (LW Y Z o o2 b a) H) (hD : va_D A (LW Y Z o o2 b a)) (hS : va_S A s.heap H locs) (hl : lv_has ls 4 [(3, .int 0), (2, .ref o2), (1, .ref o), (0, .ref sb)]) : W p l e room_1 s m #[Value.ref sb] below meth c H locs 70 52824 (lw_Z below #[Value.ref sb] s) (F0 m 1676 ls []) := by
  obtain ⟨hx, hb, hr, hml, hown, hts, hX, hbl, hlocks, hgv⟩ := id C0
  have hb : c.code = cL_law := hb
  have hown : s.vm.findClass RL = some m.cls := hown
  have hg : ∀ w ∈ GW, w.before #[Value.ref sb] s = true := fun w h => hts w (gw_tbl h)
  have hbA : ¬ A sb := fun h => absurd (hA2 sb h) (Nat.not_le.mpr hbl)
  refine lv_aload_n hx hb dL_law_1676 rfl (lv_at hl 2 rfl) ?_
  refine lv_aload_n hx hb dL_law_1677 rfl (lv_at hl 3 rfl) ?_
  refine lv_iload_n hx hb dL_law_1678 rfl (lv_at hl 0 rfl) ?_
  refine lv_iconst (v := 1) hx hb dL_law_1679 (by decide) ?_
  refine lv_iadd hx hb dL_law_1680 ?_
  refine lv_topi (fun z1 ez1 => ?_)
  obtain rfl : z1 = 1 := ez1.trans (by decide)
  refine va_sld hx hb hX hbl hbA hS (show ¬ ((1 : Int32) < 0 ∨ 7 ≤ (1 : Int32).toNatClampNeg) by decide) dL_law_1681 ?_
  refine W.eq (g2 := F0 m 1682 ls [.int (xs 1), .ref o]) rfl ?_
  refine lv_aload_n hx hb dL_law_1682 rfl (lv_at hl 3 rfl) ?_
  refine lv_iload_n hx hb dL_law_1683 rfl (lv_at hl 0 rfl) ?_
  refine lv_iconst (v := 2) hx hb dL_law_1684 (by decide) ?_
  refine lv_iadd hx hb dL_law_1685 ?_
  refine lv_topi (fun z2 ez2 => ?_)
  obtain rfl : z2 = 2 := ez2.trans (by decide)
  refine va_sld hx hb hX hbl hbA hS (show ¬ ((2 : Int32) < 0 ∨ 7 ≤ (2 : Int32).toNatClampNeg) by decide) dL_law_1686 ?_
  refine W.eq (g2 := F0 m 1687 ls [.int (xs 2), .int (xs 1), .ref o]) rfl ?_
  refine lv_aload_n hx hb dL_law_1687 rfl (lv_at hl 3 rfl) ?_
  refine lv_iload_n hx hb dL_law_1688 rfl (lv_at hl 0 rfl) ?_
  refine lv_iconst (v := 3) hx hb dL_law_1689 (by decide) ?_
  refine lv_iadd hx hb dL_law_1690 ?_
  refine lv_topi (fun z3 ez3 => ?_)
  obtain rfl : z3 = 3 := ez3.trans (by decide)
  refine va_sld hx hb hX hbl hbA hS (show ¬ ((3 : Int32) < 0 ∨ 7 ≤ (3 : Int32).toNatClampNeg) by decide) dL_law_1691 ?_
  refine W.eq (g2 := F0 m 1692 ls [.int (xs 3), .int (xs 2), .int (xs 1), .ref o]) rfl ?_
  refine lv_aload_n hx hb dL_law_1692 rfl (lv_at hl 3 rfl) ?_
  refine lv_iload_n hx hb dL_law_1693 rfl (lv_at hl 0 rfl) ?_
  refine lv_iconst (v := 4) hx hb dL_law_1694 (by decide) ?_
  refine lv_iadd hx hb dL_law_1695 ?_
  refine lv_topi (fun z4 ez4 => ?_)
  obtain rfl : z4 = 4 := ez4.trans (by decide)
  refine va_sld hx hb hX hbl hbA hS (show ¬ ((4 : Int32) < 0 ∨ 7 ≤ (4 : Int32).toNatClampNeg) by decide) dL_law_1696 ?_
  refine W.eq (g2 := F0 m 1697 ls [.int (xs 4), .int (xs 3), .int (xs 2), .int (xs 1), .ref o]) rfl ?_
  refine lv_aload_n hx hb dL_law_1697 rfl (lv_at hl 3 rfl) ?_
  refine lv_iload_n hx hb dL_law_1698 rfl (lv_at hl 0 rfl) ?_
  refine lv_iconst (v := 5) hx hb dL_law_1699 (by decide) ?_
  refine lv_iadd hx hb dL_law_1700 ?_
  refine lv_topi (fun z5 ez5 => ?_)
  obtain rfl : z5 = 5 := ez5.trans (by decide)
  refine va_sld hx hb hX hbl hbA hS (show ¬ ((5 : Int32) < 0 ∨ 7 ≤ (5 : Int32).toNatClampNeg) by decide) dL_law_1701 ?_
  refine W.eq (g2 := F0 m 1702 ls [.int (xs 5), .int (xs 4), .int (xs 3), .int (xs 2), .int (xs 1), .ref o]) rfl ?_
  refine cg (wc := [(o, .inr (10, (dsF b))), ((b 0), .inr (6, (skF b)))]) (wr := (((b 16), .inl (Y 7, 12, .inr (.inr (.inr (.inr (fun _ => none)))))) :: ((b 17), .inl (Y 8, 40, .inr (.inr (.inr (.inr (fun _ => none)))))) :: ((b 18), .inl (Y 0, 12, .inl (fun _ => 0))) :: ((b 19), .inl (Y 0, 12, .inl (fun _ => 0))) :: ((b 20), .inl (Y 0, 8, .inl (fun _ => 0))) :: ((b 21), .inl (Y 0, 8, .inl (fun _ => 0))) :: ((b 22), .inl (Y 2, 400, .inl (fun _ => 0))) :: ((b 1), .inl (Y 4, 4, .inr (.inr (.inr (.inr (fun _ => none)))))) :: ((b 5), .inr (3, (paF Z b))) :: ((b 24), .inr (8, (txF b))) :: (o2, .inr (11, (moF a))) :: ((a 0), .inl (Y 0, 7533, .inl tolF)) :: ((a 2), .inl (Y 2, 400, .inl (fun _ => 0))) :: ((a 3), .inl (Y 0, 3, .inl (fun _ => 0))) :: ((a 5), .inl (Y 0, 18, .inl (fun _ => 0))) :: ((a 7), .inl (Y 0, 18, .inl (fun _ => 0))) :: ((a 8), .inl (Y 0, 18, .inl (fun _ => 0))) :: ((a 9), .inl (Y 0, 18, .inl (fun _ => 0))) :: ((a 11), .inl (Y 0, 18, .inl (fun _ => 0))) :: ((a 13), .inl (Y 0, 18, .inl (fun _ => 0))) :: ((a 14), .inl (Y 0, 18, .inl (fun _ => 0))) :: ((a 26), .inl (Y 0, 30132, .inl (fun _ => 0))) :: ((a 27), .inl (Y 3, 4, .inl (fun _ => 0))) :: [])) [0, 1] [2, 3, 4, 5, 6, 7, 8, 9, 10, 11, 12, 13, 14, 15, 16, 17, 18, 19, 20, 21, 22, 23, 24] (rn_V (As := [.int (xs 1), .int (xs 2), .int (xs 3), .int (xs 4), .int (xs 5)]) (rest := []) (b := o) (x_fold l D Y Z H.size o b (xs 1) (xs 2) (xs 3) (xs 4) (xs 5)) ⟨hx, hb, hml, hown, hg⟩ lk_L_162 ⟨CP.blind, va_recv hKN.1 hP (ci := 10) (q0 := 0) rfl rfl, CP.at (hP.sub [0, 1] rfl) hKN (hD.sub [0, 1] (by decide) rfl)⟩ ⟨⟨rfl, rfl⟩, ⟨Nat.le_of_ble_eq_true rfl, Nat.le_of_ble_eq_true rfl⟩, ⟨Nat.le_of_ble_eq_true rfl, Nat.le_of_ble_eq_true rfl⟩⟩ hl.1 rfl (Nat.le_of_ble_eq_true rfl) dL_law_1702) hP hD hS hA rfl rfl (by decide) (by decide) (fun u6 H locs w7 hP hD hS => ?_)
  refine W.eq (g2 := F0 m 1705 ls [.long (-1000000000)]) rfl ?_
  have hP : va_P D vwCl (((b 16), .inl (Y 7, 12, .inr (.inr (.inr (.inr (fun _ => none)))))) :: ((b 17), .inl (Y 8, 40, .inr (.inr (.inr (.inr (fun _ => none)))))) :: ((b 18), .inl (Y 0, 12, .inl (fun _ => 0))) :: ((b 19), .inl (Y 0, 12, .inl (fun _ => 0))) :: ((b 20), .inl (Y 0, 8, .inl (fun _ => 0))) :: ((b 21), .inl (Y 0, 8, .inl (fun _ => 0))) :: ((b 22), .inl (Y 2, 400, .inl (fun _ => 0))) :: ((b 1), .inl (Y 4, 4, .inr (.inr (.inr (.inr (fun _ => none)))))) :: ((b 5), .inr (3, (paF Z b))) :: ((b 24), .inr (8, (txF b))) :: (o2, .inr (11, (moF a))) :: ((a 0), .inl (Y 0, 7533, .inl tolF)) :: ((a 2), .inl (Y 2, 400, .inl (fun _ => 0))) :: ((a 3), .inl (Y 0, 3, .inl (fun _ => 0))) :: ((a 5), .inl (Y 0, 18, .inl (fun _ => 0))) :: ((a 7), .inl (Y 0, 18, .inl (fun _ => 0))) :: ((a 8), .inl (Y 0, 18, .inl (fun _ => 0))) :: ((a 9), .inl (Y 0, 18, .inl (fun _ => 0))) :: ((a 11), .inl (Y 0, 18, .inl (fun _ => 0))) :: ((a 13), .inl (Y 0, 18, .inl (fun _ => 0))) :: ((a 14), .inl (Y 0, 18, .inl (fun _ => 0))) :: ((a 26), .inl (Y 0, 30132, .inl (fun _ => 0))) :: ((a 27), .inl (Y 3, 4, .inl (fun _ => 0))) :: []) H := hP
  have hD : va_D A (((b 16), .inl (Y 7, 12, .inr (.inr (.inr (.inr (fun _ => none)))))) :: ((b 17), .inl (Y 8, 40, .inr (.inr (.inr (.inr (fun _ => none)))))) :: ((b 18), .inl (Y 0, 12, .inl (fun _ => 0))) :: ((b 19), .inl (Y 0, 12, .inl (fun _ => 0))) :: ((b 20), .inl (Y 0, 8, .inl (fun _ => 0))) :: ((b 21), .inl (Y 0, 8, .inl (fun _ => 0))) :: ((b 22), .inl (Y 2, 400, .inl (fun _ => 0))) :: ((b 1), .inl (Y 4, 4, .inr (.inr (.inr (.inr (fun _ => none)))))) :: ((b 5), .inr (3, (paF Z b))) :: ((b 24), .inr (8, (txF b))) :: (o2, .inr (11, (moF a))) :: ((a 0), .inl (Y 0, 7533, .inl tolF)) :: ((a 2), .inl (Y 2, 400, .inl (fun _ => 0))) :: ((a 3), .inl (Y 0, 3, .inl (fun _ => 0))) :: ((a 5), .inl (Y 0, 18, .inl (fun _ => 0))) :: ((a 7), .inl (Y 0, 18, .inl (fun _ => 0))) :: ((a 8), .inl (Y 0, 18, .inl (fun _ => 0))) :: ((a 9), .inl (Y 0, 18, .inl (fun _ => 0))) :: ((a 11), .inl (Y 0, 18, .inl (fun _ => 0))) :: ((a 13), .inl (Y 0, 18, .inl (fun _ => 0))) :: ((a 14), .inl (Y 0, 18, .inl (fun _ => 0))) :: ((a 26), .inl (Y 0, 30132, .inl (fun _ => 0))) :: ((a 27), .inl (Y 3, 4, .inl (fun _ => 0))) :: []) := hD
  refine lv_aload_n hx hb dL_law_1705 rfl (lv_at hl 1 rfl) ?_
  refine lv_aload_n hx hb dL_law_1706 rfl (lv_at hl 3 rfl) ?_
  refine lv_iload_n hx hb dL_law_1707 rfl (lv_at hl 0 rfl) ?_
  refine lv_iconst (v := 1) hx hb dL_law_1708 (by decide) ?_
  refine lv_iadd hx hb dL_law_1709 ?_
  refine lv_topi (fun z8 ez8 => ?_)
  obtain rfl : z8 = 1 := ez8.trans (by decide)
  refine va_sld hx hb hX hbl hbA hS (show ¬ ((1 : Int32) < 0 ∨ 7 ≤ (1 : Int32).toNatClampNeg) by decide) dL_law_1710 ?_
  refine W.eq (g2 := F0 m 1711 ls [.int (xs 1), .ref o2, .long (-1000000000)]) rfl ?_
  refine lv_aload_n hx hb dL_law_1711 rfl (lv_at hl 3 rfl) ?_
  refine lv_iload_n hx hb dL_law_1712 rfl (lv_at hl 0 rfl) ?_
  refine lv_iconst (v := 2) hx hb dL_law_1713 (by decide) ?_
  refine lv_iadd hx hb dL_law_1714 ?_
  refine lv_topi (fun z9 ez9 => ?_)
  obtain rfl : z9 = 2 := ez9.trans (by decide)
  refine va_sld hx hb hX hbl hbA hS (show ¬ ((2 : Int32) < 0 ∨ 7 ≤ (2 : Int32).toNatClampNeg) by decide) dL_law_1715 ?_
  refine W.eq (g2 := F0 m 1716 ls [.int (xs 2), .int (xs 1), .ref o2, .long (-1000000000)]) rfl ?_
  refine lv_aload_n hx hb dL_law_1716 rfl (lv_at hl 3 rfl) ?_
  refine lv_iload_n hx hb dL_law_1717 rfl (lv_at hl 0 rfl) ?_
  refine lv_iconst (v := 3) hx hb dL_law_1718 (by decide) ?_
  refine lv_iadd hx hb dL_law_1719 ?_
  refine lv_topi (fun z10 ez10 => ?_)
  obtain rfl : z10 = 3 := ez10.trans (by decide)
  refine va_sld hx hb hX hbl hbA hS (show ¬ ((3 : Int32) < 0 ∨ 7 ≤ (3 : Int32).toNatClampNeg) by decide) dL_law_1720 ?_
  refine W.eq (g2 := F0 m 1721 ls [.int (xs 3), .int (xs 2), .int (xs 1), .ref o2, .long (-1000000000)]) rfl ?_
  refine lv_aload_n hx hb dL_law_1721 rfl (lv_at hl 3 rfl) ?_
  refine lv_iload_n hx hb dL_law_1722 rfl (lv_at hl 0 rfl) ?_
  refine lv_iconst (v := 4) hx hb dL_law_1723 (by decide) ?_
  refine lv_iadd hx hb dL_law_1724 ?_
  refine lv_topi (fun z11 ez11 => ?_)
  obtain rfl : z11 = 4 := ez11.trans (by decide)
  refine va_sld hx hb hX hbl hbA hS (show ¬ ((4 : Int32) < 0 ∨ 7 ≤ (4 : Int32).toNatClampNeg) by decide) dL_law_1725 ?_
  refine W.eq (g2 := F0 m 1726 ls [.int (xs 4), .int (xs 3), .int (xs 2), .int (xs 1), .ref o2, .long (-1000000000)]) rfl ?_
  refine lv_aload_n hx hb dL_law_1726 rfl (lv_at hl 3 rfl) ?_
  refine lv_iload_n hx hb dL_law_1727 rfl (lv_at hl 0 rfl) ?_
  refine lv_iconst (v := 5) hx hb dL_law_1728 (by decide) ?_
  refine lv_iadd hx hb dL_law_1729 ?_
  refine lv_topi (fun z12 ez12 => ?_)
  obtain rfl : z12 = 5 := ez12.trans (by decide)
  refine va_sld hx hb hX hbl hbA hS (show ¬ ((5 : Int32) < 0 ∨ 7 ≤ (5 : Int32).toNatClampNeg) by decide) dL_law_1730 ?_
  refine W.eq (g2 := F0 m 1731 ls [.int (xs 5), .int (xs 4), .int (xs 3), .int (xs 2), .int (xs 1), .ref o2, .long (-1000000000)]) rfl ?_
  refine cg (wc := [(o2, .inr (11, (moF a))), ((a 0), .inl (Y 0, 7533, .inl tolF))]) (wr := (((b 16), .inl (Y 7, 12, .inr (.inr (.inr (.inr (fun _ => none)))))) :: ((b 17), .inl (Y 8, 40, .inr (.inr (.inr (.inr (fun _ => none)))))) :: ((b 18), .inl (Y 0, 12, .inl (fun _ => 0))) :: ((b 19), .inl (Y 0, 12, .inl (fun _ => 0))) :: ((b 20), .inl (Y 0, 8, .inl (fun _ => 0))) :: ((b 21), .inl (Y 0, 8, .inl (fun _ => 0))) :: ((b 22), .inl (Y 2, 400, .inl (fun _ => 0))) :: ((b 1), .inl (Y 4, 4, .inr (.inr (.inr (.inr (fun _ => none)))))) :: ((b 5), .inr (3, (paF Z b))) :: ((b 24), .inr (8, (txF b))) :: ((a 2), .inl (Y 2, 400, .inl (fun _ => 0))) :: ((a 3), .inl (Y 0, 3, .inl (fun _ => 0))) :: ((a 5), .inl (Y 0, 18, .inl (fun _ => 0))) :: ((a 7), .inl (Y 0, 18, .inl (fun _ => 0))) :: ((a 8), .inl (Y 0, 18, .inl (fun _ => 0))) :: ((a 9), .inl (Y 0, 18, .inl (fun _ => 0))) :: ((a 11), .inl (Y 0, 18, .inl (fun _ => 0))) :: ((a 13), .inl (Y 0, 18, .inl (fun _ => 0))) :: ((a 14), .inl (Y 0, 18, .inl (fun _ => 0))) :: ((a 26), .inl (Y 0, 30132, .inl (fun _ => 0))) :: ((a 27), .inl (Y 3, 4, .inl (fun _ => 0))) :: [])) [10, 11] [0, 1, 2, 3, 4, 5, 6, 7, 8, 9, 12, 13, 14, 15, 16, 17, 18, 19, 20, 21, 22] (rn_V (As := [.int (xs 1), .int (xs 2), .int (xs 3), .int (xs 4), .int (xs 5)]) (rest := [.long (-1000000000)]) (b := o2) (y_fold l D Y Z H.size o2 a (xs 1) (xs 2) (xs 3) (xs 4) (xs 5)) ⟨hx, hb, hml, hown, hg⟩ lk_L_166 ⟨CP.blind, va_recv hKN.1 hP (ci := 11) (q0 := 10) rfl rfl, CP.at (hP.sub [10, 11] rfl) hKN (hD.sub [10, 11] (by decide) rfl)⟩ ⟨⟨rfl, rfl⟩, ⟨Nat.le_of_ble_eq_true rfl, Nat.le_of_ble_eq_true rfl⟩, ⟨Nat.le_of_ble_eq_true rfl, Nat.le_of_ble_eq_true rfl⟩⟩ hl.1 rfl (Nat.le_of_ble_eq_true rfl) dL_law_1731) hP hD hS hA rfl rfl (by decide) (by decide) (fun u13 H locs w14 hP hD hS => ?_)
  refine W.eq (g2 := F0 m 1734 ls [.long (-1000000000), .long (-1000000000)]) rfl ?_
  have hP : va_P D vwCl (((b 16), .inl (Y 7, 12, .inr (.inr (.inr (.inr (fun _ => none)))))) :: ((b 17), .inl (Y 8, 40, .inr (.inr (.inr (.inr (fun _ => none)))))) :: ((b 18), .inl (Y 0, 12, .inl (fun _ => 0))) :: ((b 19), .inl (Y 0, 12, .inl (fun _ => 0))) :: ((b 20), .inl (Y 0, 8, .inl (fun _ => 0))) :: ((b 21), .inl (Y 0, 8, .inl (fun _ => 0))) :: ((b 22), .inl (Y 2, 400, .inl (fun _ => 0))) :: ((b 1), .inl (Y 4, 4, .inr (.inr (.inr (.inr (fun _ => none)))))) :: ((b 5), .inr (3, (paF Z b))) :: ((b 24), .inr (8, (txF b))) :: ((a 2), .inl (Y 2, 400, .inl (fun _ => 0))) :: ((a 3), .inl (Y 0, 3, .inl (fun _ => 0))) :: ((a 5), .inl (Y 0, 18, .inl (fun _ => 0))) :: ((a 7), .inl (Y 0, 18, .inl (fun _ => 0))) :: ((a 8), .inl (Y 0, 18, .inl (fun _ => 0))) :: ((a 9), .inl (Y 0, 18, .inl (fun _ => 0))) :: ((a 11), .inl (Y 0, 18, .inl (fun _ => 0))) :: ((a 13), .inl (Y 0, 18, .inl (fun _ => 0))) :: ((a 14), .inl (Y 0, 18, .inl (fun _ => 0))) :: ((a 26), .inl (Y 0, 30132, .inl (fun _ => 0))) :: ((a 27), .inl (Y 3, 4, .inl (fun _ => 0))) :: []) H := hP
  have hD : va_D A (((b 16), .inl (Y 7, 12, .inr (.inr (.inr (.inr (fun _ => none)))))) :: ((b 17), .inl (Y 8, 40, .inr (.inr (.inr (.inr (fun _ => none)))))) :: ((b 18), .inl (Y 0, 12, .inl (fun _ => 0))) :: ((b 19), .inl (Y 0, 12, .inl (fun _ => 0))) :: ((b 20), .inl (Y 0, 8, .inl (fun _ => 0))) :: ((b 21), .inl (Y 0, 8, .inl (fun _ => 0))) :: ((b 22), .inl (Y 2, 400, .inl (fun _ => 0))) :: ((b 1), .inl (Y 4, 4, .inr (.inr (.inr (.inr (fun _ => none)))))) :: ((b 5), .inr (3, (paF Z b))) :: ((b 24), .inr (8, (txF b))) :: ((a 2), .inl (Y 2, 400, .inl (fun _ => 0))) :: ((a 3), .inl (Y 0, 3, .inl (fun _ => 0))) :: ((a 5), .inl (Y 0, 18, .inl (fun _ => 0))) :: ((a 7), .inl (Y 0, 18, .inl (fun _ => 0))) :: ((a 8), .inl (Y 0, 18, .inl (fun _ => 0))) :: ((a 9), .inl (Y 0, 18, .inl (fun _ => 0))) :: ((a 11), .inl (Y 0, 18, .inl (fun _ => 0))) :: ((a 13), .inl (Y 0, 18, .inl (fun _ => 0))) :: ((a 14), .inl (Y 0, 18, .inl (fun _ => 0))) :: ((a 26), .inl (Y 0, 30132, .inl (fun _ => 0))) :: ((a 27), .inl (Y 3, 4, .inl (fun _ => 0))) :: []) := hD
  refine W.lcmp hx hb dL_law_1734 ?_
  refine lv_if_eq (tgt := 1885) hx hb dL_law_1735 (by decide) (fun c15 => ?_) (fun c15 => ?_)
  rotate_left
  · exact absurd c15 (by decide)
  exact lw_tail C0 hA2 (Nat.le_of_ble_eq_true rfl) (Nat.le_of_ble_eq_true rfl) hS (lv_sub hl [0, 3] rfl)
set_option maxHeartbeats 4000000 in
set_option maxRecDepth 100000 in
theorem lc_35 {p : Program} {l : Launch} {e : Env} {s : State} {m : MethodId} {below : List Frame} {meth : Method} {c : Code} {sb : Nat} {xs : Nat → Int32} (C0 : lw_At p s m meth c sb 7 xs) {D : va_G} {Y : Nat → ClassId} {Z : Nat → Nat} (hKN : KN D Y Z s) {A : Nat → Prop} (hA : ∀ q, s.heap.size ≤ q → A q) (hA2 : ∀ q, A q → s.heap.size ≤ q) {o o2 : Nat} {b a : Nat → Nat} {H : Heap} {locs : List Loc} {ls : Array Slot} (hP : va_P D vwCl (LW Y Z o o2 b a) H) (hD : va_D A (LW Y Z o o2 b a)) (hS : va_S A s.heap H locs) (hl : lv_has ls 4 [(3, .int 0), (2, .ref o2), (1, .ref o), (0, .ref sb)]) : W p l e room_1 s m #[Value.ref sb] below meth c H locs 70 52824 (lw_Z below #[Value.ref sb] s) (F0 m 1740 ls []) := by
  obtain ⟨hx, hb, hr, hml, hown, hts, hX, hbl, hlocks, hgv⟩ := id C0
  have hb : c.code = cL_law := hb
  have hown : s.vm.findClass RL = some m.cls := hown
  have hg : ∀ w ∈ GW, w.before #[Value.ref sb] s = true := fun w h => hts w (gw_tbl h)
  have hbA : ¬ A sb := fun h => absurd (hA2 sb h) (Nat.not_le.mpr hbl)
  refine lv_aload_n hx hb dL_law_1740 rfl (lv_at hl 2 rfl) ?_
  refine lv_aload_n hx hb dL_law_1741 rfl (lv_at hl 3 rfl) ?_
  refine lv_iload_n hx hb dL_law_1742 rfl (lv_at hl 0 rfl) ?_
  refine lv_iconst (v := 1) hx hb dL_law_1743 (by decide) ?_
  refine lv_iadd hx hb dL_law_1744 ?_
  refine lv_topi (fun z1 ez1 => ?_)
  obtain rfl : z1 = 1 := ez1.trans (by decide)
  refine va_sld hx hb hX hbl hbA hS (show ¬ ((1 : Int32) < 0 ∨ 7 ≤ (1 : Int32).toNatClampNeg) by decide) dL_law_1745 ?_
  refine W.eq (g2 := F0 m 1746 ls [.int (xs 1), .ref o]) rfl ?_
  refine lv_aload_n hx hb dL_law_1746 rfl (lv_at hl 3 rfl) ?_
  refine lv_iload_n hx hb dL_law_1747 rfl (lv_at hl 0 rfl) ?_
  refine lv_iconst (v := 2) hx hb dL_law_1748 (by decide) ?_
  refine lv_iadd hx hb dL_law_1749 ?_
  refine lv_topi (fun z2 ez2 => ?_)
  obtain rfl : z2 = 2 := ez2.trans (by decide)
  refine va_sld hx hb hX hbl hbA hS (show ¬ ((2 : Int32) < 0 ∨ 7 ≤ (2 : Int32).toNatClampNeg) by decide) dL_law_1750 ?_
  refine W.eq (g2 := F0 m 1751 ls [.int (xs 2), .int (xs 1), .ref o]) rfl ?_
  refine lv_aload_n hx hb dL_law_1751 rfl (lv_at hl 3 rfl) ?_
  refine lv_iload_n hx hb dL_law_1752 rfl (lv_at hl 0 rfl) ?_
  refine lv_iconst (v := 3) hx hb dL_law_1753 (by decide) ?_
  refine lv_iadd hx hb dL_law_1754 ?_
  refine lv_topi (fun z3 ez3 => ?_)
  obtain rfl : z3 = 3 := ez3.trans (by decide)
  refine va_sld hx hb hX hbl hbA hS (show ¬ ((3 : Int32) < 0 ∨ 7 ≤ (3 : Int32).toNatClampNeg) by decide) dL_law_1755 ?_
  refine W.eq (g2 := F0 m 1756 ls [.int (xs 3), .int (xs 2), .int (xs 1), .ref o]) rfl ?_
  refine cg (wc := [(o, .inr (10, (dsF b))), ((b 0), .inr (6, (skF b)))]) (wr := (((b 16), .inl (Y 7, 12, .inr (.inr (.inr (.inr (fun _ => none)))))) :: ((b 17), .inl (Y 8, 40, .inr (.inr (.inr (.inr (fun _ => none)))))) :: ((b 18), .inl (Y 0, 12, .inl (fun _ => 0))) :: ((b 19), .inl (Y 0, 12, .inl (fun _ => 0))) :: ((b 20), .inl (Y 0, 8, .inl (fun _ => 0))) :: ((b 21), .inl (Y 0, 8, .inl (fun _ => 0))) :: ((b 22), .inl (Y 2, 400, .inl (fun _ => 0))) :: ((b 1), .inl (Y 4, 4, .inr (.inr (.inr (.inr (fun _ => none)))))) :: ((b 5), .inr (3, (paF Z b))) :: ((b 24), .inr (8, (txF b))) :: (o2, .inr (11, (moF a))) :: ((a 0), .inl (Y 0, 7533, .inl tolF)) :: ((a 2), .inl (Y 2, 400, .inl (fun _ => 0))) :: ((a 3), .inl (Y 0, 3, .inl (fun _ => 0))) :: ((a 5), .inl (Y 0, 18, .inl (fun _ => 0))) :: ((a 7), .inl (Y 0, 18, .inl (fun _ => 0))) :: ((a 8), .inl (Y 0, 18, .inl (fun _ => 0))) :: ((a 9), .inl (Y 0, 18, .inl (fun _ => 0))) :: ((a 11), .inl (Y 0, 18, .inl (fun _ => 0))) :: ((a 13), .inl (Y 0, 18, .inl (fun _ => 0))) :: ((a 14), .inl (Y 0, 18, .inl (fun _ => 0))) :: ((a 26), .inl (Y 0, 30132, .inl (fun _ => 0))) :: ((a 27), .inl (Y 3, 4, .inl (fun _ => 0))) :: [])) [0, 1] [2, 3, 4, 5, 6, 7, 8, 9, 10, 11, 12, 13, 14, 15, 16, 17, 18, 19, 20, 21, 22, 23, 24] (rn_V (As := [.int (xs 1), .int (xs 2), .int (xs 3)]) (rest := []) (b := o) (x_candidate l D Y Z H.size o b (xs 1) (xs 2) (xs 3)) ⟨hx, hb, hml, hown, hg⟩ lk_L_167 ⟨CP.blind, va_recv hKN.1 hP (ci := 10) (q0 := 0) rfl rfl, CP.at (hP.sub [0, 1] rfl) hKN (hD.sub [0, 1] (by decide) rfl)⟩ ⟨⟨rfl, rfl⟩, ⟨Nat.le_of_ble_eq_true rfl, Nat.le_of_ble_eq_true rfl⟩, ⟨Nat.le_of_ble_eq_true rfl, Nat.le_of_ble_eq_true rfl⟩⟩ hl.1 rfl (Nat.le_of_ble_eq_true rfl) dL_law_1756) hP hD hS hA rfl rfl (by decide) (by decide) (fun u4 H locs w5 hP hD hS => ?_)
  refine W.eq (g2 := F0 m 1759 ls [.int (-1)]) rfl ?_
  have hP : va_P D vwCl (((b 16), .inl (Y 7, 12, .inr (.inr (.inr (.inr (fun _ => none)))))) :: ((b 17), .inl (Y 8, 40, .inr (.inr (.inr (.inr (fun _ => none)))))) :: ((b 18), .inl (Y 0, 12, .inl (fun _ => 0))) :: ((b 19), .inl (Y 0, 12, .inl (fun _ => 0))) :: ((b 20), .inl (Y 0, 8, .inl (fun _ => 0))) :: ((b 21), .inl (Y 0, 8, .inl (fun _ => 0))) :: ((b 22), .inl (Y 2, 400, .inl (fun _ => 0))) :: ((b 1), .inl (Y 4, 4, .inr (.inr (.inr (.inr (fun _ => none)))))) :: ((b 5), .inr (3, (paF Z b))) :: ((b 24), .inr (8, (txF b))) :: (o2, .inr (11, (moF a))) :: ((a 0), .inl (Y 0, 7533, .inl tolF)) :: ((a 2), .inl (Y 2, 400, .inl (fun _ => 0))) :: ((a 3), .inl (Y 0, 3, .inl (fun _ => 0))) :: ((a 5), .inl (Y 0, 18, .inl (fun _ => 0))) :: ((a 7), .inl (Y 0, 18, .inl (fun _ => 0))) :: ((a 8), .inl (Y 0, 18, .inl (fun _ => 0))) :: ((a 9), .inl (Y 0, 18, .inl (fun _ => 0))) :: ((a 11), .inl (Y 0, 18, .inl (fun _ => 0))) :: ((a 13), .inl (Y 0, 18, .inl (fun _ => 0))) :: ((a 14), .inl (Y 0, 18, .inl (fun _ => 0))) :: ((a 26), .inl (Y 0, 30132, .inl (fun _ => 0))) :: ((a 27), .inl (Y 3, 4, .inl (fun _ => 0))) :: []) H := hP
  have hD : va_D A (((b 16), .inl (Y 7, 12, .inr (.inr (.inr (.inr (fun _ => none)))))) :: ((b 17), .inl (Y 8, 40, .inr (.inr (.inr (.inr (fun _ => none)))))) :: ((b 18), .inl (Y 0, 12, .inl (fun _ => 0))) :: ((b 19), .inl (Y 0, 12, .inl (fun _ => 0))) :: ((b 20), .inl (Y 0, 8, .inl (fun _ => 0))) :: ((b 21), .inl (Y 0, 8, .inl (fun _ => 0))) :: ((b 22), .inl (Y 2, 400, .inl (fun _ => 0))) :: ((b 1), .inl (Y 4, 4, .inr (.inr (.inr (.inr (fun _ => none)))))) :: ((b 5), .inr (3, (paF Z b))) :: ((b 24), .inr (8, (txF b))) :: (o2, .inr (11, (moF a))) :: ((a 0), .inl (Y 0, 7533, .inl tolF)) :: ((a 2), .inl (Y 2, 400, .inl (fun _ => 0))) :: ((a 3), .inl (Y 0, 3, .inl (fun _ => 0))) :: ((a 5), .inl (Y 0, 18, .inl (fun _ => 0))) :: ((a 7), .inl (Y 0, 18, .inl (fun _ => 0))) :: ((a 8), .inl (Y 0, 18, .inl (fun _ => 0))) :: ((a 9), .inl (Y 0, 18, .inl (fun _ => 0))) :: ((a 11), .inl (Y 0, 18, .inl (fun _ => 0))) :: ((a 13), .inl (Y 0, 18, .inl (fun _ => 0))) :: ((a 14), .inl (Y 0, 18, .inl (fun _ => 0))) :: ((a 26), .inl (Y 0, 30132, .inl (fun _ => 0))) :: ((a 27), .inl (Y 3, 4, .inl (fun _ => 0))) :: []) := hD
  refine lv_aload_n hx hb dL_law_1759 rfl (lv_at hl 1 rfl) ?_
  refine lv_aload_n hx hb dL_law_1760 rfl (lv_at hl 3 rfl) ?_
  refine lv_iload_n hx hb dL_law_1761 rfl (lv_at hl 0 rfl) ?_
  refine lv_iconst (v := 1) hx hb dL_law_1762 (by decide) ?_
  refine lv_iadd hx hb dL_law_1763 ?_
  refine lv_topi (fun z6 ez6 => ?_)
  obtain rfl : z6 = 1 := ez6.trans (by decide)
  refine va_sld hx hb hX hbl hbA hS (show ¬ ((1 : Int32) < 0 ∨ 7 ≤ (1 : Int32).toNatClampNeg) by decide) dL_law_1764 ?_
  refine W.eq (g2 := F0 m 1765 ls [.int (xs 1), .ref o2, .int (-1)]) rfl ?_
  refine lv_aload_n hx hb dL_law_1765 rfl (lv_at hl 3 rfl) ?_
  refine lv_iload_n hx hb dL_law_1766 rfl (lv_at hl 0 rfl) ?_
  refine lv_iconst (v := 2) hx hb dL_law_1767 (by decide) ?_
  refine lv_iadd hx hb dL_law_1768 ?_
  refine lv_topi (fun z7 ez7 => ?_)
  obtain rfl : z7 = 2 := ez7.trans (by decide)
  refine va_sld hx hb hX hbl hbA hS (show ¬ ((2 : Int32) < 0 ∨ 7 ≤ (2 : Int32).toNatClampNeg) by decide) dL_law_1769 ?_
  refine W.eq (g2 := F0 m 1770 ls [.int (xs 2), .int (xs 1), .ref o2, .int (-1)]) rfl ?_
  refine lv_aload_n hx hb dL_law_1770 rfl (lv_at hl 3 rfl) ?_
  refine lv_iload_n hx hb dL_law_1771 rfl (lv_at hl 0 rfl) ?_
  refine lv_iconst (v := 3) hx hb dL_law_1772 (by decide) ?_
  refine lv_iadd hx hb dL_law_1773 ?_
  refine lv_topi (fun z8 ez8 => ?_)
  obtain rfl : z8 = 3 := ez8.trans (by decide)
  refine va_sld hx hb hX hbl hbA hS (show ¬ ((3 : Int32) < 0 ∨ 7 ≤ (3 : Int32).toNatClampNeg) by decide) dL_law_1774 ?_
  refine W.eq (g2 := F0 m 1775 ls [.int (xs 3), .int (xs 2), .int (xs 1), .ref o2, .int (-1)]) rfl ?_
  refine cg (wc := [(o2, .inr (11, (moF a))), ((a 0), .inl (Y 0, 7533, .inl tolF))]) (wr := (((b 16), .inl (Y 7, 12, .inr (.inr (.inr (.inr (fun _ => none)))))) :: ((b 17), .inl (Y 8, 40, .inr (.inr (.inr (.inr (fun _ => none)))))) :: ((b 18), .inl (Y 0, 12, .inl (fun _ => 0))) :: ((b 19), .inl (Y 0, 12, .inl (fun _ => 0))) :: ((b 20), .inl (Y 0, 8, .inl (fun _ => 0))) :: ((b 21), .inl (Y 0, 8, .inl (fun _ => 0))) :: ((b 22), .inl (Y 2, 400, .inl (fun _ => 0))) :: ((b 1), .inl (Y 4, 4, .inr (.inr (.inr (.inr (fun _ => none)))))) :: ((b 5), .inr (3, (paF Z b))) :: ((b 24), .inr (8, (txF b))) :: ((a 2), .inl (Y 2, 400, .inl (fun _ => 0))) :: ((a 3), .inl (Y 0, 3, .inl (fun _ => 0))) :: ((a 5), .inl (Y 0, 18, .inl (fun _ => 0))) :: ((a 7), .inl (Y 0, 18, .inl (fun _ => 0))) :: ((a 8), .inl (Y 0, 18, .inl (fun _ => 0))) :: ((a 9), .inl (Y 0, 18, .inl (fun _ => 0))) :: ((a 11), .inl (Y 0, 18, .inl (fun _ => 0))) :: ((a 13), .inl (Y 0, 18, .inl (fun _ => 0))) :: ((a 14), .inl (Y 0, 18, .inl (fun _ => 0))) :: ((a 26), .inl (Y 0, 30132, .inl (fun _ => 0))) :: ((a 27), .inl (Y 3, 4, .inl (fun _ => 0))) :: [])) [10, 11] [0, 1, 2, 3, 4, 5, 6, 7, 8, 9, 12, 13, 14, 15, 16, 17, 18, 19, 20, 21, 22] (rn_V (As := [.int (xs 1), .int (xs 2), .int (xs 3)]) (rest := [.int (-1)]) (b := o2) (y_candidate l D Y Z H.size o2 a (xs 1) (xs 2) (xs 3)) ⟨hx, hb, hml, hown, hg⟩ lk_L_170 ⟨CP.blind, va_recv hKN.1 hP (ci := 11) (q0 := 10) rfl rfl, CP.at (hP.sub [10, 11] rfl) hKN (hD.sub [10, 11] (by decide) rfl)⟩ ⟨⟨rfl, rfl⟩, ⟨Nat.le_of_ble_eq_true rfl, Nat.le_of_ble_eq_true rfl⟩, ⟨Nat.le_of_ble_eq_true rfl, Nat.le_of_ble_eq_true rfl⟩⟩ hl.1 rfl (Nat.le_of_ble_eq_true rfl) dL_law_1775) hP hD hS hA rfl rfl (by decide) (by decide) (fun u9 H locs w10 hP hD hS => ?_)
  refine W.eq (g2 := F0 m 1778 ls [.int (-1), .int (-1)]) rfl ?_
  have hP : va_P D vwCl (((b 16), .inl (Y 7, 12, .inr (.inr (.inr (.inr (fun _ => none)))))) :: ((b 17), .inl (Y 8, 40, .inr (.inr (.inr (.inr (fun _ => none)))))) :: ((b 18), .inl (Y 0, 12, .inl (fun _ => 0))) :: ((b 19), .inl (Y 0, 12, .inl (fun _ => 0))) :: ((b 20), .inl (Y 0, 8, .inl (fun _ => 0))) :: ((b 21), .inl (Y 0, 8, .inl (fun _ => 0))) :: ((b 22), .inl (Y 2, 400, .inl (fun _ => 0))) :: ((b 1), .inl (Y 4, 4, .inr (.inr (.inr (.inr (fun _ => none)))))) :: ((b 5), .inr (3, (paF Z b))) :: ((b 24), .inr (8, (txF b))) :: ((a 2), .inl (Y 2, 400, .inl (fun _ => 0))) :: ((a 3), .inl (Y 0, 3, .inl (fun _ => 0))) :: ((a 5), .inl (Y 0, 18, .inl (fun _ => 0))) :: ((a 7), .inl (Y 0, 18, .inl (fun _ => 0))) :: ((a 8), .inl (Y 0, 18, .inl (fun _ => 0))) :: ((a 9), .inl (Y 0, 18, .inl (fun _ => 0))) :: ((a 11), .inl (Y 0, 18, .inl (fun _ => 0))) :: ((a 13), .inl (Y 0, 18, .inl (fun _ => 0))) :: ((a 14), .inl (Y 0, 18, .inl (fun _ => 0))) :: ((a 26), .inl (Y 0, 30132, .inl (fun _ => 0))) :: ((a 27), .inl (Y 3, 4, .inl (fun _ => 0))) :: []) H := hP
  have hD : va_D A (((b 16), .inl (Y 7, 12, .inr (.inr (.inr (.inr (fun _ => none)))))) :: ((b 17), .inl (Y 8, 40, .inr (.inr (.inr (.inr (fun _ => none)))))) :: ((b 18), .inl (Y 0, 12, .inl (fun _ => 0))) :: ((b 19), .inl (Y 0, 12, .inl (fun _ => 0))) :: ((b 20), .inl (Y 0, 8, .inl (fun _ => 0))) :: ((b 21), .inl (Y 0, 8, .inl (fun _ => 0))) :: ((b 22), .inl (Y 2, 400, .inl (fun _ => 0))) :: ((b 1), .inl (Y 4, 4, .inr (.inr (.inr (.inr (fun _ => none)))))) :: ((b 5), .inr (3, (paF Z b))) :: ((b 24), .inr (8, (txF b))) :: ((a 2), .inl (Y 2, 400, .inl (fun _ => 0))) :: ((a 3), .inl (Y 0, 3, .inl (fun _ => 0))) :: ((a 5), .inl (Y 0, 18, .inl (fun _ => 0))) :: ((a 7), .inl (Y 0, 18, .inl (fun _ => 0))) :: ((a 8), .inl (Y 0, 18, .inl (fun _ => 0))) :: ((a 9), .inl (Y 0, 18, .inl (fun _ => 0))) :: ((a 11), .inl (Y 0, 18, .inl (fun _ => 0))) :: ((a 13), .inl (Y 0, 18, .inl (fun _ => 0))) :: ((a 14), .inl (Y 0, 18, .inl (fun _ => 0))) :: ((a 26), .inl (Y 0, 30132, .inl (fun _ => 0))) :: ((a 27), .inl (Y 3, 4, .inl (fun _ => 0))) :: []) := hD
  refine lv_icmp_eq (tgt := 1885) hx hb dL_law_1778 (by decide) (fun c11 => ?_) (fun c11 => ?_)
  rotate_left
  · exact absurd c11 (by decide)
  exact lw_tail C0 hA2 (Nat.le_of_ble_eq_true rfl) (Nat.le_of_ble_eq_true rfl) hS (lv_sub hl [0, 3] rfl)
set_option maxHeartbeats 4000000 in
set_option maxRecDepth 100000 in
theorem lc_36 {p : Program} {l : Launch} {e : Env} {s : State} {m : MethodId} {below : List Frame} {meth : Method} {c : Code} {sb : Nat} {xs : Nat → Int32} (C0 : lw_At p s m meth c sb 7 xs) {D : va_G} {Y : Nat → ClassId} {Z : Nat → Nat} (hKN : KN D Y Z s) {A : Nat → Prop} (hA : ∀ q, s.heap.size ≤ q → A q) (hA2 : ∀ q, A q → s.heap.size ≤ q) {o o2 : Nat} {b a : Nat → Nat} {H : Heap} {locs : List Loc} {ls : Array Slot} (hP : va_P D vwCl (LW Y Z o o2 b a) H) (hD : va_D A (LW Y Z o o2 b a)) (hS : va_S A s.heap H locs) (hl : lv_has ls 4 [(3, .int 0), (2, .ref o2), (1, .ref o), (0, .ref sb)]) : W p l e room_1 s m #[Value.ref sb] below meth c H locs 70 52824 (lw_Z below #[Value.ref sb] s) (F0 m 1783 ls []) := by
  obtain ⟨hx, hb, hr, hml, hown, hts, hX, hbl, hlocks, hgv⟩ := id C0
  have hb : c.code = cL_law := hb
  have hown : s.vm.findClass RL = some m.cls := hown
  have hg : ∀ w ∈ GW, w.before #[Value.ref sb] s = true := fun w h => hts w (gw_tbl h)
  have hbA : ¬ A sb := fun h => absurd (hA2 sb h) (Nat.not_le.mpr hbl)
  refine lv_aload_n hx hb dL_law_1783 rfl (lv_at hl 2 rfl) ?_
  refine lv_aload_n hx hb dL_law_1784 rfl (lv_at hl 3 rfl) ?_
  refine lv_iload_n hx hb dL_law_1785 rfl (lv_at hl 0 rfl) ?_
  refine lv_iconst (v := 1) hx hb dL_law_1786 (by decide) ?_
  refine lv_iadd hx hb dL_law_1787 ?_
  refine lv_topi (fun z1 ez1 => ?_)
  obtain rfl : z1 = 1 := ez1.trans (by decide)
  refine va_sld hx hb hX hbl hbA hS (show ¬ ((1 : Int32) < 0 ∨ 7 ≤ (1 : Int32).toNatClampNeg) by decide) dL_law_1788 ?_
  refine W.eq (g2 := F0 m 1789 ls [.int (xs 1), .ref o]) rfl ?_
  refine lv_aload_n hx hb dL_law_1789 rfl (lv_at hl 3 rfl) ?_
  refine lv_iload_n hx hb dL_law_1790 rfl (lv_at hl 0 rfl) ?_
  refine lv_iconst (v := 2) hx hb dL_law_1791 (by decide) ?_
  refine lv_iadd hx hb dL_law_1792 ?_
  refine lv_topi (fun z2 ez2 => ?_)
  obtain rfl : z2 = 2 := ez2.trans (by decide)
  refine va_sld hx hb hX hbl hbA hS (show ¬ ((2 : Int32) < 0 ∨ 7 ≤ (2 : Int32).toNatClampNeg) by decide) dL_law_1793 ?_
  refine W.eq (g2 := F0 m 1794 ls [.int (xs 2), .int (xs 1), .ref o]) rfl ?_
  refine cg (wc := [(o, .inr (10, (dsF b))), ((b 0), .inr (6, (skF b)))]) (wr := (((b 16), .inl (Y 7, 12, .inr (.inr (.inr (.inr (fun _ => none)))))) :: ((b 17), .inl (Y 8, 40, .inr (.inr (.inr (.inr (fun _ => none)))))) :: ((b 18), .inl (Y 0, 12, .inl (fun _ => 0))) :: ((b 19), .inl (Y 0, 12, .inl (fun _ => 0))) :: ((b 20), .inl (Y 0, 8, .inl (fun _ => 0))) :: ((b 21), .inl (Y 0, 8, .inl (fun _ => 0))) :: ((b 22), .inl (Y 2, 400, .inl (fun _ => 0))) :: ((b 1), .inl (Y 4, 4, .inr (.inr (.inr (.inr (fun _ => none)))))) :: ((b 5), .inr (3, (paF Z b))) :: ((b 24), .inr (8, (txF b))) :: (o2, .inr (11, (moF a))) :: ((a 0), .inl (Y 0, 7533, .inl tolF)) :: ((a 2), .inl (Y 2, 400, .inl (fun _ => 0))) :: ((a 3), .inl (Y 0, 3, .inl (fun _ => 0))) :: ((a 5), .inl (Y 0, 18, .inl (fun _ => 0))) :: ((a 7), .inl (Y 0, 18, .inl (fun _ => 0))) :: ((a 8), .inl (Y 0, 18, .inl (fun _ => 0))) :: ((a 9), .inl (Y 0, 18, .inl (fun _ => 0))) :: ((a 11), .inl (Y 0, 18, .inl (fun _ => 0))) :: ((a 13), .inl (Y 0, 18, .inl (fun _ => 0))) :: ((a 14), .inl (Y 0, 18, .inl (fun _ => 0))) :: ((a 26), .inl (Y 0, 30132, .inl (fun _ => 0))) :: ((a 27), .inl (Y 3, 4, .inl (fun _ => 0))) :: [])) [0, 1] [2, 3, 4, 5, 6, 7, 8, 9, 10, 11, 12, 13, 14, 15, 16, 17, 18, 19, 20, 21, 22, 23, 24] (rn_V (As := [.int (xs 1), .int (xs 2)]) (rest := []) (b := o) (x_nights l D Y Z H.size o b (xs 1) (xs 2)) ⟨hx, hb, hml, hown, hg⟩ lk_L_171 ⟨CP.blind, va_recv hKN.1 hP (ci := 10) (q0 := 0) rfl rfl, CP.at (hP.sub [0, 1] rfl) hKN (hD.sub [0, 1] (by decide) rfl)⟩ ⟨⟨rfl, rfl⟩, ⟨Nat.le_of_ble_eq_true rfl, Nat.le_of_ble_eq_true rfl⟩, ⟨Nat.le_of_ble_eq_true rfl, Nat.le_of_ble_eq_true rfl⟩⟩ hl.1 rfl (Nat.le_of_ble_eq_true rfl) dL_law_1794) hP hD hS hA rfl rfl (by decide) (by decide) (fun u3 H locs w4 hP hD hS => ?_)
  subst w4
  refine W.eq (g2 := F0 m 1797 ls [.int (sp_nights (xs 1) (xs 2))]) rfl ?_
  have hP : va_P D vwCl (((b 16), .inl (Y 7, 12, .inr (.inr (.inr (.inr (fun _ => none)))))) :: ((b 17), .inl (Y 8, 40, .inr (.inr (.inr (.inr (fun _ => none)))))) :: ((b 18), .inl (Y 0, 12, .inl (fun _ => 0))) :: ((b 19), .inl (Y 0, 12, .inl (fun _ => 0))) :: ((b 20), .inl (Y 0, 8, .inl (fun _ => 0))) :: ((b 21), .inl (Y 0, 8, .inl (fun _ => 0))) :: ((b 22), .inl (Y 2, 400, .inl (fun _ => 0))) :: ((b 1), .inl (Y 4, 4, .inr (.inr (.inr (.inr (fun _ => none)))))) :: ((b 5), .inr (3, (paF Z b))) :: ((b 24), .inr (8, (txF b))) :: (o2, .inr (11, (moF a))) :: ((a 0), .inl (Y 0, 7533, .inl tolF)) :: ((a 2), .inl (Y 2, 400, .inl (fun _ => 0))) :: ((a 3), .inl (Y 0, 3, .inl (fun _ => 0))) :: ((a 5), .inl (Y 0, 18, .inl (fun _ => 0))) :: ((a 7), .inl (Y 0, 18, .inl (fun _ => 0))) :: ((a 8), .inl (Y 0, 18, .inl (fun _ => 0))) :: ((a 9), .inl (Y 0, 18, .inl (fun _ => 0))) :: ((a 11), .inl (Y 0, 18, .inl (fun _ => 0))) :: ((a 13), .inl (Y 0, 18, .inl (fun _ => 0))) :: ((a 14), .inl (Y 0, 18, .inl (fun _ => 0))) :: ((a 26), .inl (Y 0, 30132, .inl (fun _ => 0))) :: ((a 27), .inl (Y 3, 4, .inl (fun _ => 0))) :: []) H := hP
  have hD : va_D A (((b 16), .inl (Y 7, 12, .inr (.inr (.inr (.inr (fun _ => none)))))) :: ((b 17), .inl (Y 8, 40, .inr (.inr (.inr (.inr (fun _ => none)))))) :: ((b 18), .inl (Y 0, 12, .inl (fun _ => 0))) :: ((b 19), .inl (Y 0, 12, .inl (fun _ => 0))) :: ((b 20), .inl (Y 0, 8, .inl (fun _ => 0))) :: ((b 21), .inl (Y 0, 8, .inl (fun _ => 0))) :: ((b 22), .inl (Y 2, 400, .inl (fun _ => 0))) :: ((b 1), .inl (Y 4, 4, .inr (.inr (.inr (.inr (fun _ => none)))))) :: ((b 5), .inr (3, (paF Z b))) :: ((b 24), .inr (8, (txF b))) :: (o2, .inr (11, (moF a))) :: ((a 0), .inl (Y 0, 7533, .inl tolF)) :: ((a 2), .inl (Y 2, 400, .inl (fun _ => 0))) :: ((a 3), .inl (Y 0, 3, .inl (fun _ => 0))) :: ((a 5), .inl (Y 0, 18, .inl (fun _ => 0))) :: ((a 7), .inl (Y 0, 18, .inl (fun _ => 0))) :: ((a 8), .inl (Y 0, 18, .inl (fun _ => 0))) :: ((a 9), .inl (Y 0, 18, .inl (fun _ => 0))) :: ((a 11), .inl (Y 0, 18, .inl (fun _ => 0))) :: ((a 13), .inl (Y 0, 18, .inl (fun _ => 0))) :: ((a 14), .inl (Y 0, 18, .inl (fun _ => 0))) :: ((a 26), .inl (Y 0, 30132, .inl (fun _ => 0))) :: ((a 27), .inl (Y 3, 4, .inl (fun _ => 0))) :: []) := hD
  refine lv_aload_n hx hb dL_law_1797 rfl (lv_at hl 1 rfl) ?_
  refine lv_aload_n hx hb dL_law_1798 rfl (lv_at hl 3 rfl) ?_
  refine lv_iload_n hx hb dL_law_1799 rfl (lv_at hl 0 rfl) ?_
  refine lv_iconst (v := 1) hx hb dL_law_1800 (by decide) ?_
  refine lv_iadd hx hb dL_law_1801 ?_
  refine lv_topi (fun z5 ez5 => ?_)
  obtain rfl : z5 = 1 := ez5.trans (by decide)
  refine va_sld hx hb hX hbl hbA hS (show ¬ ((1 : Int32) < 0 ∨ 7 ≤ (1 : Int32).toNatClampNeg) by decide) dL_law_1802 ?_
  refine W.eq (g2 := F0 m 1803 ls [.int (xs 1), .ref o2, .int (sp_nights (xs 1) (xs 2))]) rfl ?_
  refine lv_aload_n hx hb dL_law_1803 rfl (lv_at hl 3 rfl) ?_
  refine lv_iload_n hx hb dL_law_1804 rfl (lv_at hl 0 rfl) ?_
  refine lv_iconst (v := 2) hx hb dL_law_1805 (by decide) ?_
  refine lv_iadd hx hb dL_law_1806 ?_
  refine lv_topi (fun z6 ez6 => ?_)
  obtain rfl : z6 = 2 := ez6.trans (by decide)
  refine va_sld hx hb hX hbl hbA hS (show ¬ ((2 : Int32) < 0 ∨ 7 ≤ (2 : Int32).toNatClampNeg) by decide) dL_law_1807 ?_
  refine W.eq (g2 := F0 m 1808 ls [.int (xs 2), .int (xs 1), .ref o2, .int (sp_nights (xs 1) (xs 2))]) rfl ?_
  refine cg (wc := [(o2, .inr (11, (moF a))), ((a 0), .inl (Y 0, 7533, .inl tolF))]) (wr := (((b 16), .inl (Y 7, 12, .inr (.inr (.inr (.inr (fun _ => none)))))) :: ((b 17), .inl (Y 8, 40, .inr (.inr (.inr (.inr (fun _ => none)))))) :: ((b 18), .inl (Y 0, 12, .inl (fun _ => 0))) :: ((b 19), .inl (Y 0, 12, .inl (fun _ => 0))) :: ((b 20), .inl (Y 0, 8, .inl (fun _ => 0))) :: ((b 21), .inl (Y 0, 8, .inl (fun _ => 0))) :: ((b 22), .inl (Y 2, 400, .inl (fun _ => 0))) :: ((b 1), .inl (Y 4, 4, .inr (.inr (.inr (.inr (fun _ => none)))))) :: ((b 5), .inr (3, (paF Z b))) :: ((b 24), .inr (8, (txF b))) :: ((a 2), .inl (Y 2, 400, .inl (fun _ => 0))) :: ((a 3), .inl (Y 0, 3, .inl (fun _ => 0))) :: ((a 5), .inl (Y 0, 18, .inl (fun _ => 0))) :: ((a 7), .inl (Y 0, 18, .inl (fun _ => 0))) :: ((a 8), .inl (Y 0, 18, .inl (fun _ => 0))) :: ((a 9), .inl (Y 0, 18, .inl (fun _ => 0))) :: ((a 11), .inl (Y 0, 18, .inl (fun _ => 0))) :: ((a 13), .inl (Y 0, 18, .inl (fun _ => 0))) :: ((a 14), .inl (Y 0, 18, .inl (fun _ => 0))) :: ((a 26), .inl (Y 0, 30132, .inl (fun _ => 0))) :: ((a 27), .inl (Y 3, 4, .inl (fun _ => 0))) :: [])) [10, 11] [0, 1, 2, 3, 4, 5, 6, 7, 8, 9, 12, 13, 14, 15, 16, 17, 18, 19, 20, 21, 22] (rn_V (As := [.int (xs 1), .int (xs 2)]) (rest := [.int (sp_nights (xs 1) (xs 2))]) (b := o2) (y_nights l D Y Z H.size o2 a (xs 1) (xs 2)) ⟨hx, hb, hml, hown, hg⟩ lk_L_174 ⟨CP.blind, va_recv hKN.1 hP (ci := 11) (q0 := 10) rfl rfl, CP.at (hP.sub [10, 11] rfl) hKN (hD.sub [10, 11] (by decide) rfl)⟩ ⟨⟨rfl, rfl⟩, ⟨Nat.le_of_ble_eq_true rfl, Nat.le_of_ble_eq_true rfl⟩, ⟨Nat.le_of_ble_eq_true rfl, Nat.le_of_ble_eq_true rfl⟩⟩ hl.1 rfl (Nat.le_of_ble_eq_true rfl) dL_law_1808) hP hD hS hA rfl rfl (by decide) (by decide) (fun u7 H locs w8 hP hD hS => ?_)
  subst w8
  refine W.eq (g2 := F0 m 1811 ls [.int (sp_nights (xs 1) (xs 2)), .int (sp_nights (xs 1) (xs 2))]) rfl ?_
  have hP : va_P D vwCl (((b 16), .inl (Y 7, 12, .inr (.inr (.inr (.inr (fun _ => none)))))) :: ((b 17), .inl (Y 8, 40, .inr (.inr (.inr (.inr (fun _ => none)))))) :: ((b 18), .inl (Y 0, 12, .inl (fun _ => 0))) :: ((b 19), .inl (Y 0, 12, .inl (fun _ => 0))) :: ((b 20), .inl (Y 0, 8, .inl (fun _ => 0))) :: ((b 21), .inl (Y 0, 8, .inl (fun _ => 0))) :: ((b 22), .inl (Y 2, 400, .inl (fun _ => 0))) :: ((b 1), .inl (Y 4, 4, .inr (.inr (.inr (.inr (fun _ => none)))))) :: ((b 5), .inr (3, (paF Z b))) :: ((b 24), .inr (8, (txF b))) :: ((a 2), .inl (Y 2, 400, .inl (fun _ => 0))) :: ((a 3), .inl (Y 0, 3, .inl (fun _ => 0))) :: ((a 5), .inl (Y 0, 18, .inl (fun _ => 0))) :: ((a 7), .inl (Y 0, 18, .inl (fun _ => 0))) :: ((a 8), .inl (Y 0, 18, .inl (fun _ => 0))) :: ((a 9), .inl (Y 0, 18, .inl (fun _ => 0))) :: ((a 11), .inl (Y 0, 18, .inl (fun _ => 0))) :: ((a 13), .inl (Y 0, 18, .inl (fun _ => 0))) :: ((a 14), .inl (Y 0, 18, .inl (fun _ => 0))) :: ((a 26), .inl (Y 0, 30132, .inl (fun _ => 0))) :: ((a 27), .inl (Y 3, 4, .inl (fun _ => 0))) :: []) H := hP
  have hD : va_D A (((b 16), .inl (Y 7, 12, .inr (.inr (.inr (.inr (fun _ => none)))))) :: ((b 17), .inl (Y 8, 40, .inr (.inr (.inr (.inr (fun _ => none)))))) :: ((b 18), .inl (Y 0, 12, .inl (fun _ => 0))) :: ((b 19), .inl (Y 0, 12, .inl (fun _ => 0))) :: ((b 20), .inl (Y 0, 8, .inl (fun _ => 0))) :: ((b 21), .inl (Y 0, 8, .inl (fun _ => 0))) :: ((b 22), .inl (Y 2, 400, .inl (fun _ => 0))) :: ((b 1), .inl (Y 4, 4, .inr (.inr (.inr (.inr (fun _ => none)))))) :: ((b 5), .inr (3, (paF Z b))) :: ((b 24), .inr (8, (txF b))) :: ((a 2), .inl (Y 2, 400, .inl (fun _ => 0))) :: ((a 3), .inl (Y 0, 3, .inl (fun _ => 0))) :: ((a 5), .inl (Y 0, 18, .inl (fun _ => 0))) :: ((a 7), .inl (Y 0, 18, .inl (fun _ => 0))) :: ((a 8), .inl (Y 0, 18, .inl (fun _ => 0))) :: ((a 9), .inl (Y 0, 18, .inl (fun _ => 0))) :: ((a 11), .inl (Y 0, 18, .inl (fun _ => 0))) :: ((a 13), .inl (Y 0, 18, .inl (fun _ => 0))) :: ((a 14), .inl (Y 0, 18, .inl (fun _ => 0))) :: ((a 26), .inl (Y 0, 30132, .inl (fun _ => 0))) :: ((a 27), .inl (Y 3, 4, .inl (fun _ => 0))) :: []) := hD
  refine lv_icmp_eq (tgt := 1885) hx hb dL_law_1811 (by decide) (fun c9 => ?_) (fun c9 => ?_)
  rotate_left
  · exact absurd rfl c9
  exact lw_tail C0 hA2 (Nat.le_of_ble_eq_true rfl) (Nat.le_of_ble_eq_true rfl) hS (lv_sub hl [0, 3] rfl)
set_option maxHeartbeats 4000000 in
set_option maxRecDepth 100000 in
theorem lc_37 {p : Program} {l : Launch} {e : Env} {s : State} {m : MethodId} {below : List Frame} {meth : Method} {c : Code} {sb : Nat} {xs : Nat → Int32} (C0 : lw_At p s m meth c sb 7 xs) {D : va_G} {Y : Nat → ClassId} {Z : Nat → Nat} (hKN : KN D Y Z s) {A : Nat → Prop} (hA : ∀ q, s.heap.size ≤ q → A q) (hA2 : ∀ q, A q → s.heap.size ≤ q) {o o2 : Nat} {b a : Nat → Nat} {H : Heap} {locs : List Loc} {ls : Array Slot} (hP : va_P D vwCl (LW Y Z o o2 b a) H) (hD : va_D A (LW Y Z o o2 b a)) (hS : va_S A s.heap H locs) (hl : lv_has ls 4 [(3, .int 0), (2, .ref o2), (1, .ref o), (0, .ref sb)]) : W p l e room_1 s m #[Value.ref sb] below meth c H locs 70 52824 (lw_Z below #[Value.ref sb] s) (F0 m 1816 ls []) := by
  obtain ⟨hx, hb, hr, hml, hown, hts, hX, hbl, hlocks, hgv⟩ := id C0
  have hb : c.code = cL_law := hb
  have hown : s.vm.findClass RL = some m.cls := hown
  have hg : ∀ w ∈ GW, w.before #[Value.ref sb] s = true := fun w h => hts w (gw_tbl h)
  have hbA : ¬ A sb := fun h => absurd (hA2 sb h) (Nat.not_le.mpr hbl)
  refine lv_aload_n hx hb dL_law_1816 rfl (lv_at hl 2 rfl) ?_
  refine lv_aload_n hx hb dL_law_1817 rfl (lv_at hl 3 rfl) ?_
  refine lv_iload_n hx hb dL_law_1818 rfl (lv_at hl 0 rfl) ?_
  refine lv_iconst (v := 1) hx hb dL_law_1819 (by decide) ?_
  refine lv_iadd hx hb dL_law_1820 ?_
  refine lv_topi (fun z1 ez1 => ?_)
  obtain rfl : z1 = 1 := ez1.trans (by decide)
  refine va_sld hx hb hX hbl hbA hS (show ¬ ((1 : Int32) < 0 ∨ 7 ≤ (1 : Int32).toNatClampNeg) by decide) dL_law_1821 ?_
  refine W.eq (g2 := F0 m 1822 ls [.int (xs 1), .ref o]) rfl ?_
  refine cg (wc := [(o, .inr (10, (dsF b))), ((b 0), .inr (6, (skF b)))]) (wr := (((b 16), .inl (Y 7, 12, .inr (.inr (.inr (.inr (fun _ => none)))))) :: ((b 17), .inl (Y 8, 40, .inr (.inr (.inr (.inr (fun _ => none)))))) :: ((b 18), .inl (Y 0, 12, .inl (fun _ => 0))) :: ((b 19), .inl (Y 0, 12, .inl (fun _ => 0))) :: ((b 20), .inl (Y 0, 8, .inl (fun _ => 0))) :: ((b 21), .inl (Y 0, 8, .inl (fun _ => 0))) :: ((b 22), .inl (Y 2, 400, .inl (fun _ => 0))) :: ((b 1), .inl (Y 4, 4, .inr (.inr (.inr (.inr (fun _ => none)))))) :: ((b 5), .inr (3, (paF Z b))) :: ((b 24), .inr (8, (txF b))) :: (o2, .inr (11, (moF a))) :: ((a 0), .inl (Y 0, 7533, .inl tolF)) :: ((a 2), .inl (Y 2, 400, .inl (fun _ => 0))) :: ((a 3), .inl (Y 0, 3, .inl (fun _ => 0))) :: ((a 5), .inl (Y 0, 18, .inl (fun _ => 0))) :: ((a 7), .inl (Y 0, 18, .inl (fun _ => 0))) :: ((a 8), .inl (Y 0, 18, .inl (fun _ => 0))) :: ((a 9), .inl (Y 0, 18, .inl (fun _ => 0))) :: ((a 11), .inl (Y 0, 18, .inl (fun _ => 0))) :: ((a 13), .inl (Y 0, 18, .inl (fun _ => 0))) :: ((a 14), .inl (Y 0, 18, .inl (fun _ => 0))) :: ((a 26), .inl (Y 0, 30132, .inl (fun _ => 0))) :: ((a 27), .inl (Y 3, 4, .inl (fun _ => 0))) :: [])) [0, 1] [2, 3, 4, 5, 6, 7, 8, 9, 10, 11, 12, 13, 14, 15, 16, 17, 18, 19, 20, 21, 22, 23, 24] (rn_V (As := [.int (xs 1)]) (rest := []) (b := o) (x_count l D Y Z H.size o b (xs 1)) ⟨hx, hb, hml, hown, hg⟩ lk_L_175 ⟨CP.blind, va_recv hKN.1 hP (ci := 10) (q0 := 0) rfl rfl, CP.at (hP.sub [0, 1] rfl) hKN (hD.sub [0, 1] (by decide) rfl)⟩ ⟨⟨rfl, rfl⟩, ⟨Nat.le_of_ble_eq_true rfl, Nat.le_of_ble_eq_true rfl⟩, ⟨Nat.le_of_ble_eq_true rfl, Nat.le_of_ble_eq_true rfl⟩⟩ hl.1 rfl (Nat.le_of_ble_eq_true rfl) dL_law_1822) hP hD hS hA rfl rfl (by decide) (by decide) (fun u2 H locs w3 hP hD hS => ?_)
  subst w3
  refine W.eq (g2 := F0 m 1825 ls [.int (sp_count (xs 1))]) rfl ?_
  have hP : va_P D vwCl (((b 16), .inl (Y 7, 12, .inr (.inr (.inr (.inr (fun _ => none)))))) :: ((b 17), .inl (Y 8, 40, .inr (.inr (.inr (.inr (fun _ => none)))))) :: ((b 18), .inl (Y 0, 12, .inl (fun _ => 0))) :: ((b 19), .inl (Y 0, 12, .inl (fun _ => 0))) :: ((b 20), .inl (Y 0, 8, .inl (fun _ => 0))) :: ((b 21), .inl (Y 0, 8, .inl (fun _ => 0))) :: ((b 22), .inl (Y 2, 400, .inl (fun _ => 0))) :: ((b 1), .inl (Y 4, 4, .inr (.inr (.inr (.inr (fun _ => none)))))) :: ((b 5), .inr (3, (paF Z b))) :: ((b 24), .inr (8, (txF b))) :: (o2, .inr (11, (moF a))) :: ((a 0), .inl (Y 0, 7533, .inl tolF)) :: ((a 2), .inl (Y 2, 400, .inl (fun _ => 0))) :: ((a 3), .inl (Y 0, 3, .inl (fun _ => 0))) :: ((a 5), .inl (Y 0, 18, .inl (fun _ => 0))) :: ((a 7), .inl (Y 0, 18, .inl (fun _ => 0))) :: ((a 8), .inl (Y 0, 18, .inl (fun _ => 0))) :: ((a 9), .inl (Y 0, 18, .inl (fun _ => 0))) :: ((a 11), .inl (Y 0, 18, .inl (fun _ => 0))) :: ((a 13), .inl (Y 0, 18, .inl (fun _ => 0))) :: ((a 14), .inl (Y 0, 18, .inl (fun _ => 0))) :: ((a 26), .inl (Y 0, 30132, .inl (fun _ => 0))) :: ((a 27), .inl (Y 3, 4, .inl (fun _ => 0))) :: []) H := hP
  have hD : va_D A (((b 16), .inl (Y 7, 12, .inr (.inr (.inr (.inr (fun _ => none)))))) :: ((b 17), .inl (Y 8, 40, .inr (.inr (.inr (.inr (fun _ => none)))))) :: ((b 18), .inl (Y 0, 12, .inl (fun _ => 0))) :: ((b 19), .inl (Y 0, 12, .inl (fun _ => 0))) :: ((b 20), .inl (Y 0, 8, .inl (fun _ => 0))) :: ((b 21), .inl (Y 0, 8, .inl (fun _ => 0))) :: ((b 22), .inl (Y 2, 400, .inl (fun _ => 0))) :: ((b 1), .inl (Y 4, 4, .inr (.inr (.inr (.inr (fun _ => none)))))) :: ((b 5), .inr (3, (paF Z b))) :: ((b 24), .inr (8, (txF b))) :: (o2, .inr (11, (moF a))) :: ((a 0), .inl (Y 0, 7533, .inl tolF)) :: ((a 2), .inl (Y 2, 400, .inl (fun _ => 0))) :: ((a 3), .inl (Y 0, 3, .inl (fun _ => 0))) :: ((a 5), .inl (Y 0, 18, .inl (fun _ => 0))) :: ((a 7), .inl (Y 0, 18, .inl (fun _ => 0))) :: ((a 8), .inl (Y 0, 18, .inl (fun _ => 0))) :: ((a 9), .inl (Y 0, 18, .inl (fun _ => 0))) :: ((a 11), .inl (Y 0, 18, .inl (fun _ => 0))) :: ((a 13), .inl (Y 0, 18, .inl (fun _ => 0))) :: ((a 14), .inl (Y 0, 18, .inl (fun _ => 0))) :: ((a 26), .inl (Y 0, 30132, .inl (fun _ => 0))) :: ((a 27), .inl (Y 3, 4, .inl (fun _ => 0))) :: []) := hD
  refine lv_aload_n hx hb dL_law_1825 rfl (lv_at hl 1 rfl) ?_
  refine lv_aload_n hx hb dL_law_1826 rfl (lv_at hl 3 rfl) ?_
  refine lv_iload_n hx hb dL_law_1827 rfl (lv_at hl 0 rfl) ?_
  refine lv_iconst (v := 1) hx hb dL_law_1828 (by decide) ?_
  refine lv_iadd hx hb dL_law_1829 ?_
  refine lv_topi (fun z4 ez4 => ?_)
  obtain rfl : z4 = 1 := ez4.trans (by decide)
  refine va_sld hx hb hX hbl hbA hS (show ¬ ((1 : Int32) < 0 ∨ 7 ≤ (1 : Int32).toNatClampNeg) by decide) dL_law_1830 ?_
  refine W.eq (g2 := F0 m 1831 ls [.int (xs 1), .ref o2, .int (sp_count (xs 1))]) rfl ?_
  refine cg (wc := [(o2, .inr (11, (moF a))), ((a 0), .inl (Y 0, 7533, .inl tolF)), ((a 3), .inl (Y 0, 3, .inl (fun _ => 0)))]) (wr := (((b 16), .inl (Y 7, 12, .inr (.inr (.inr (.inr (fun _ => none)))))) :: ((b 17), .inl (Y 8, 40, .inr (.inr (.inr (.inr (fun _ => none)))))) :: ((b 18), .inl (Y 0, 12, .inl (fun _ => 0))) :: ((b 19), .inl (Y 0, 12, .inl (fun _ => 0))) :: ((b 20), .inl (Y 0, 8, .inl (fun _ => 0))) :: ((b 21), .inl (Y 0, 8, .inl (fun _ => 0))) :: ((b 22), .inl (Y 2, 400, .inl (fun _ => 0))) :: ((b 1), .inl (Y 4, 4, .inr (.inr (.inr (.inr (fun _ => none)))))) :: ((b 5), .inr (3, (paF Z b))) :: ((b 24), .inr (8, (txF b))) :: ((a 2), .inl (Y 2, 400, .inl (fun _ => 0))) :: ((a 5), .inl (Y 0, 18, .inl (fun _ => 0))) :: ((a 7), .inl (Y 0, 18, .inl (fun _ => 0))) :: ((a 8), .inl (Y 0, 18, .inl (fun _ => 0))) :: ((a 9), .inl (Y 0, 18, .inl (fun _ => 0))) :: ((a 11), .inl (Y 0, 18, .inl (fun _ => 0))) :: ((a 13), .inl (Y 0, 18, .inl (fun _ => 0))) :: ((a 14), .inl (Y 0, 18, .inl (fun _ => 0))) :: ((a 26), .inl (Y 0, 30132, .inl (fun _ => 0))) :: ((a 27), .inl (Y 3, 4, .inl (fun _ => 0))) :: [])) [10, 11, 13] [0, 1, 2, 3, 4, 5, 6, 7, 8, 9, 12, 14, 15, 16, 17, 18, 19, 20, 21, 22] (rn_V (As := [.int (xs 1)]) (rest := [.int (sp_count (xs 1))]) (b := o2) (y_count l D Y Z H.size o2 a (xs 1)) ⟨hx, hb, hml, hown, hg⟩ lk_L_178 ⟨CP.blind, va_recv hKN.1 hP (ci := 11) (q0 := 10) rfl rfl, CP.at (hP.sub [10, 11, 13] rfl) hKN (hD.sub [10, 11, 13] (by decide) rfl)⟩ ⟨⟨rfl, rfl⟩, ⟨Nat.le_of_ble_eq_true rfl, Nat.le_of_ble_eq_true rfl⟩, ⟨Nat.le_of_ble_eq_true rfl, Nat.le_of_ble_eq_true rfl⟩⟩ hl.1 rfl (Nat.le_of_ble_eq_true rfl) dL_law_1831) hP hD hS hA rfl rfl (by decide) (by decide) (fun u5 H locs w6 hP hD hS => ?_)
  subst w6
  refine W.eq (g2 := F0 m 1834 ls [.int (sp_count (xs 1)), .int (sp_count (xs 1))]) rfl ?_
  have hP : va_P D vwCl (((b 16), .inl (Y 7, 12, .inr (.inr (.inr (.inr (fun _ => none)))))) :: ((b 17), .inl (Y 8, 40, .inr (.inr (.inr (.inr (fun _ => none)))))) :: ((b 18), .inl (Y 0, 12, .inl (fun _ => 0))) :: ((b 19), .inl (Y 0, 12, .inl (fun _ => 0))) :: ((b 20), .inl (Y 0, 8, .inl (fun _ => 0))) :: ((b 21), .inl (Y 0, 8, .inl (fun _ => 0))) :: ((b 22), .inl (Y 2, 400, .inl (fun _ => 0))) :: ((b 1), .inl (Y 4, 4, .inr (.inr (.inr (.inr (fun _ => none)))))) :: ((b 5), .inr (3, (paF Z b))) :: ((b 24), .inr (8, (txF b))) :: ((a 2), .inl (Y 2, 400, .inl (fun _ => 0))) :: ((a 5), .inl (Y 0, 18, .inl (fun _ => 0))) :: ((a 7), .inl (Y 0, 18, .inl (fun _ => 0))) :: ((a 8), .inl (Y 0, 18, .inl (fun _ => 0))) :: ((a 9), .inl (Y 0, 18, .inl (fun _ => 0))) :: ((a 11), .inl (Y 0, 18, .inl (fun _ => 0))) :: ((a 13), .inl (Y 0, 18, .inl (fun _ => 0))) :: ((a 14), .inl (Y 0, 18, .inl (fun _ => 0))) :: ((a 26), .inl (Y 0, 30132, .inl (fun _ => 0))) :: ((a 27), .inl (Y 3, 4, .inl (fun _ => 0))) :: []) H := hP
  have hD : va_D A (((b 16), .inl (Y 7, 12, .inr (.inr (.inr (.inr (fun _ => none)))))) :: ((b 17), .inl (Y 8, 40, .inr (.inr (.inr (.inr (fun _ => none)))))) :: ((b 18), .inl (Y 0, 12, .inl (fun _ => 0))) :: ((b 19), .inl (Y 0, 12, .inl (fun _ => 0))) :: ((b 20), .inl (Y 0, 8, .inl (fun _ => 0))) :: ((b 21), .inl (Y 0, 8, .inl (fun _ => 0))) :: ((b 22), .inl (Y 2, 400, .inl (fun _ => 0))) :: ((b 1), .inl (Y 4, 4, .inr (.inr (.inr (.inr (fun _ => none)))))) :: ((b 5), .inr (3, (paF Z b))) :: ((b 24), .inr (8, (txF b))) :: ((a 2), .inl (Y 2, 400, .inl (fun _ => 0))) :: ((a 5), .inl (Y 0, 18, .inl (fun _ => 0))) :: ((a 7), .inl (Y 0, 18, .inl (fun _ => 0))) :: ((a 8), .inl (Y 0, 18, .inl (fun _ => 0))) :: ((a 9), .inl (Y 0, 18, .inl (fun _ => 0))) :: ((a 11), .inl (Y 0, 18, .inl (fun _ => 0))) :: ((a 13), .inl (Y 0, 18, .inl (fun _ => 0))) :: ((a 14), .inl (Y 0, 18, .inl (fun _ => 0))) :: ((a 26), .inl (Y 0, 30132, .inl (fun _ => 0))) :: ((a 27), .inl (Y 3, 4, .inl (fun _ => 0))) :: []) := hD
  refine lv_icmp_eq (tgt := 1885) hx hb dL_law_1834 (by decide) (fun c7 => ?_) (fun c7 => ?_)
  rotate_left
  · exact absurd rfl c7
  exact lw_tail C0 hA2 (Nat.le_of_ble_eq_true rfl) (Nat.le_of_ble_eq_true rfl) hS (lv_sub hl [0, 3] rfl)
set_option maxHeartbeats 4000000 in
set_option maxRecDepth 100000 in
theorem lc_38 {p : Program} {l : Launch} {e : Env} {s : State} {m : MethodId} {below : List Frame} {meth : Method} {c : Code} {sb : Nat} {xs : Nat → Int32} (C0 : lw_At p s m meth c sb 7 xs) {D : va_G} {Y : Nat → ClassId} {Z : Nat → Nat} (hKN : KN D Y Z s) {A : Nat → Prop} (hA : ∀ q, s.heap.size ≤ q → A q) (hA2 : ∀ q, A q → s.heap.size ≤ q) {o o2 : Nat} {b a : Nat → Nat} {H : Heap} {locs : List Loc} {ls : Array Slot} (hP : va_P D vwCl (LW Y Z o o2 b a) H) (hD : va_D A (LW Y Z o o2 b a)) (hS : va_S A s.heap H locs) (hl : lv_has ls 4 [(3, .int 0), (2, .ref o2), (1, .ref o), (0, .ref sb)]) : W p l e room_1 s m #[Value.ref sb] below meth c H locs 70 52824 (lw_Z below #[Value.ref sb] s) (F0 m 1839 ls []) := by
  obtain ⟨hx, hb, hr, hml, hown, hts, hX, hbl, hlocks, hgv⟩ := id C0
  have hb : c.code = cL_law := hb
  have hown : s.vm.findClass RL = some m.cls := hown
  have hg : ∀ w ∈ GW, w.before #[Value.ref sb] s = true := fun w h => hts w (gw_tbl h)
  have hbA : ¬ A sb := fun h => absurd (hA2 sb h) (Nat.not_le.mpr hbl)
  refine lv_aload_n hx hb dL_law_1839 rfl (lv_at hl 2 rfl) ?_
  refine lv_aload_n hx hb dL_law_1840 rfl (lv_at hl 3 rfl) ?_
  refine lv_iload_n hx hb dL_law_1841 rfl (lv_at hl 0 rfl) ?_
  refine lv_iconst (v := 1) hx hb dL_law_1842 (by decide) ?_
  refine lv_iadd hx hb dL_law_1843 ?_
  refine lv_topi (fun z1 ez1 => ?_)
  obtain rfl : z1 = 1 := ez1.trans (by decide)
  refine va_sld hx hb hX hbl hbA hS (show ¬ ((1 : Int32) < 0 ∨ 7 ≤ (1 : Int32).toNatClampNeg) by decide) dL_law_1844 ?_
  refine W.eq (g2 := F0 m 1845 ls [.int (xs 1), .ref o]) rfl ?_
  refine cg (wc := [(o, .inr (10, (dsF b))), ((b 0), .inr (6, (skF b))), ((b 1), .inl (Y 4, 4, .inr (.inr (.inr (.inr (fun _ => none)))))), ((b 18), .inl (Y 0, 12, .inl (fun _ => 0))), ((b 19), .inl (Y 0, 12, .inl (fun _ => 0))), ((b 20), .inl (Y 0, 8, .inl (fun _ => 0))), ((b 21), .inl (Y 0, 8, .inl (fun _ => 0))), ((b 22), .inl (Y 2, 400, .inl (fun _ => 0)))]) (wr := (((b 16), .inl (Y 7, 12, .inr (.inr (.inr (.inr (fun _ => none)))))) :: ((b 17), .inl (Y 8, 40, .inr (.inr (.inr (.inr (fun _ => none)))))) :: ((b 5), .inr (3, (paF Z b))) :: ((b 24), .inr (8, (txF b))) :: (o2, .inr (11, (moF a))) :: ((a 0), .inl (Y 0, 7533, .inl tolF)) :: ((a 2), .inl (Y 2, 400, .inl (fun _ => 0))) :: ((a 3), .inl (Y 0, 3, .inl (fun _ => 0))) :: ((a 5), .inl (Y 0, 18, .inl (fun _ => 0))) :: ((a 7), .inl (Y 0, 18, .inl (fun _ => 0))) :: ((a 8), .inl (Y 0, 18, .inl (fun _ => 0))) :: ((a 9), .inl (Y 0, 18, .inl (fun _ => 0))) :: ((a 11), .inl (Y 0, 18, .inl (fun _ => 0))) :: ((a 13), .inl (Y 0, 18, .inl (fun _ => 0))) :: ((a 14), .inl (Y 0, 18, .inl (fun _ => 0))) :: ((a 26), .inl (Y 0, 30132, .inl (fun _ => 0))) :: ((a 27), .inl (Y 3, 4, .inl (fun _ => 0))) :: [])) [0, 1, 9, 4, 5, 6, 7, 8] [2, 3, 10, 11, 12, 13, 14, 15, 16, 17, 18, 19, 20, 21, 22, 23, 24] (rn_V (As := [.int (xs 1)]) (rest := []) (b := o) (x_image l D Y Z H.size o b (xs 1)) ⟨hx, hb, hml, hown, hg⟩ lk_L_179 ⟨CP.blind, va_recv hKN.1 hP (ci := 10) (q0 := 0) rfl rfl, CP.at (hP.sub [0, 1, 9, 4, 5, 6, 7, 8] rfl) hKN (hD.sub [0, 1, 9, 4, 5, 6, 7, 8] (by decide) rfl)⟩ ⟨⟨rfl, rfl⟩, ⟨Nat.le_of_ble_eq_true rfl, Nat.le_of_ble_eq_true rfl⟩, ⟨Nat.le_of_ble_eq_true rfl, Nat.le_of_ble_eq_true rfl⟩⟩ hl.1 rfl (Nat.le_of_ble_eq_true rfl) dL_law_1845) hP hD hS hA rfl rfl (by decide) (by decide) (fun u2 H locs w3 hP hD hS => ?_)
  refine W.widen (k := 78) (n := 53329) (Nat.le_of_ble_eq_true rfl) (Nat.le_of_ble_eq_true rfl) ?_
  subst w3
  refine W.eq (g2 := F0 m 1848 ls [.int (sp_image (xs 1))]) rfl ?_
  have hP : va_P D vwCl (((b 16), .inl (Y 7, 12, .inr (.inr (.inr (.inr (fun _ => none)))))) :: ((b 17), .inl (Y 8, 40, .inr (.inr (.inr (.inr (fun _ => none)))))) :: ((b 5), .inr (3, (paF Z b))) :: ((b 24), .inr (8, (txF b))) :: (o2, .inr (11, (moF a))) :: ((a 0), .inl (Y 0, 7533, .inl tolF)) :: ((a 2), .inl (Y 2, 400, .inl (fun _ => 0))) :: ((a 3), .inl (Y 0, 3, .inl (fun _ => 0))) :: ((a 5), .inl (Y 0, 18, .inl (fun _ => 0))) :: ((a 7), .inl (Y 0, 18, .inl (fun _ => 0))) :: ((a 8), .inl (Y 0, 18, .inl (fun _ => 0))) :: ((a 9), .inl (Y 0, 18, .inl (fun _ => 0))) :: ((a 11), .inl (Y 0, 18, .inl (fun _ => 0))) :: ((a 13), .inl (Y 0, 18, .inl (fun _ => 0))) :: ((a 14), .inl (Y 0, 18, .inl (fun _ => 0))) :: ((a 26), .inl (Y 0, 30132, .inl (fun _ => 0))) :: ((a 27), .inl (Y 3, 4, .inl (fun _ => 0))) :: []) H := hP
  have hD : va_D A (((b 16), .inl (Y 7, 12, .inr (.inr (.inr (.inr (fun _ => none)))))) :: ((b 17), .inl (Y 8, 40, .inr (.inr (.inr (.inr (fun _ => none)))))) :: ((b 5), .inr (3, (paF Z b))) :: ((b 24), .inr (8, (txF b))) :: (o2, .inr (11, (moF a))) :: ((a 0), .inl (Y 0, 7533, .inl tolF)) :: ((a 2), .inl (Y 2, 400, .inl (fun _ => 0))) :: ((a 3), .inl (Y 0, 3, .inl (fun _ => 0))) :: ((a 5), .inl (Y 0, 18, .inl (fun _ => 0))) :: ((a 7), .inl (Y 0, 18, .inl (fun _ => 0))) :: ((a 8), .inl (Y 0, 18, .inl (fun _ => 0))) :: ((a 9), .inl (Y 0, 18, .inl (fun _ => 0))) :: ((a 11), .inl (Y 0, 18, .inl (fun _ => 0))) :: ((a 13), .inl (Y 0, 18, .inl (fun _ => 0))) :: ((a 14), .inl (Y 0, 18, .inl (fun _ => 0))) :: ((a 26), .inl (Y 0, 30132, .inl (fun _ => 0))) :: ((a 27), .inl (Y 3, 4, .inl (fun _ => 0))) :: []) := hD
  refine lv_aload_n hx hb dL_law_1848 rfl (lv_at hl 1 rfl) ?_
  refine lv_aload_n hx hb dL_law_1849 rfl (lv_at hl 3 rfl) ?_
  refine lv_iload_n hx hb dL_law_1850 rfl (lv_at hl 0 rfl) ?_
  refine lv_iconst (v := 1) hx hb dL_law_1851 (by decide) ?_
  refine lv_iadd hx hb dL_law_1852 ?_
  refine lv_topi (fun z4 ez4 => ?_)
  obtain rfl : z4 = 1 := ez4.trans (by decide)
  refine va_sld hx hb hX hbl hbA hS (show ¬ ((1 : Int32) < 0 ∨ 7 ≤ (1 : Int32).toNatClampNeg) by decide) dL_law_1853 ?_
  refine W.eq (g2 := F0 m 1854 ls [.int (xs 1), .ref o2, .int (sp_image (xs 1))]) rfl ?_
  refine cg (wc := [(o2, .inr (11, (moF a))), ((a 0), .inl (Y 0, 7533, .inl tolF)), ((a 26), .inl (Y 0, 30132, .inl (fun _ => 0))), ((a 27), .inl (Y 3, 4, .inl (fun _ => 0)))]) (wr := (((b 16), .inl (Y 7, 12, .inr (.inr (.inr (.inr (fun _ => none)))))) :: ((b 17), .inl (Y 8, 40, .inr (.inr (.inr (.inr (fun _ => none)))))) :: ((b 5), .inr (3, (paF Z b))) :: ((b 24), .inr (8, (txF b))) :: ((a 2), .inl (Y 2, 400, .inl (fun _ => 0))) :: ((a 3), .inl (Y 0, 3, .inl (fun _ => 0))) :: ((a 5), .inl (Y 0, 18, .inl (fun _ => 0))) :: ((a 7), .inl (Y 0, 18, .inl (fun _ => 0))) :: ((a 8), .inl (Y 0, 18, .inl (fun _ => 0))) :: ((a 9), .inl (Y 0, 18, .inl (fun _ => 0))) :: ((a 11), .inl (Y 0, 18, .inl (fun _ => 0))) :: ((a 13), .inl (Y 0, 18, .inl (fun _ => 0))) :: ((a 14), .inl (Y 0, 18, .inl (fun _ => 0))) :: [])) [4, 5, 15, 16] [0, 1, 2, 3, 6, 7, 8, 9, 10, 11, 12, 13, 14] (rn_V (As := [.int (xs 1)]) (rest := [.int (sp_image (xs 1))]) (b := o2) (y_image l D Y Z H.size o2 a (xs 1)) ⟨hx, hb, hml, hown, hg⟩ lk_L_182 ⟨CP.blind, va_recv hKN.1 hP (ci := 11) (q0 := 4) rfl rfl, CP.at (hP.sub [4, 5, 15, 16] rfl) hKN (hD.sub [4, 5, 15, 16] (by decide) rfl)⟩ ⟨⟨rfl, rfl⟩, ⟨Nat.le_of_ble_eq_true rfl, Nat.le_of_ble_eq_true rfl⟩, ⟨Nat.le_of_ble_eq_true rfl, Nat.le_of_ble_eq_true rfl⟩⟩ hl.1 rfl (Nat.le_of_ble_eq_true rfl) dL_law_1854) hP hD hS hA rfl rfl (by decide) (by decide) (fun u5 H locs w6 hP hD hS => ?_)
  subst w6
  refine W.eq (g2 := F0 m 1857 ls [.int (sp_image (xs 1)), .int (sp_image (xs 1))]) rfl ?_
  have hP : va_P D vwCl (((b 16), .inl (Y 7, 12, .inr (.inr (.inr (.inr (fun _ => none)))))) :: ((b 17), .inl (Y 8, 40, .inr (.inr (.inr (.inr (fun _ => none)))))) :: ((b 5), .inr (3, (paF Z b))) :: ((b 24), .inr (8, (txF b))) :: ((a 2), .inl (Y 2, 400, .inl (fun _ => 0))) :: ((a 3), .inl (Y 0, 3, .inl (fun _ => 0))) :: ((a 5), .inl (Y 0, 18, .inl (fun _ => 0))) :: ((a 7), .inl (Y 0, 18, .inl (fun _ => 0))) :: ((a 8), .inl (Y 0, 18, .inl (fun _ => 0))) :: ((a 9), .inl (Y 0, 18, .inl (fun _ => 0))) :: ((a 11), .inl (Y 0, 18, .inl (fun _ => 0))) :: ((a 13), .inl (Y 0, 18, .inl (fun _ => 0))) :: ((a 14), .inl (Y 0, 18, .inl (fun _ => 0))) :: []) H := hP
  have hD : va_D A (((b 16), .inl (Y 7, 12, .inr (.inr (.inr (.inr (fun _ => none)))))) :: ((b 17), .inl (Y 8, 40, .inr (.inr (.inr (.inr (fun _ => none)))))) :: ((b 5), .inr (3, (paF Z b))) :: ((b 24), .inr (8, (txF b))) :: ((a 2), .inl (Y 2, 400, .inl (fun _ => 0))) :: ((a 3), .inl (Y 0, 3, .inl (fun _ => 0))) :: ((a 5), .inl (Y 0, 18, .inl (fun _ => 0))) :: ((a 7), .inl (Y 0, 18, .inl (fun _ => 0))) :: ((a 8), .inl (Y 0, 18, .inl (fun _ => 0))) :: ((a 9), .inl (Y 0, 18, .inl (fun _ => 0))) :: ((a 11), .inl (Y 0, 18, .inl (fun _ => 0))) :: ((a 13), .inl (Y 0, 18, .inl (fun _ => 0))) :: ((a 14), .inl (Y 0, 18, .inl (fun _ => 0))) :: []) := hD
  refine lv_icmp_eq (tgt := 1885) hx hb dL_law_1857 (by decide) (fun c7 => ?_) (fun c7 => ?_)
  rotate_left
  · exact absurd rfl c7
  exact lw_tail C0 hA2 (Nat.le_of_ble_eq_true rfl) (Nat.le_of_ble_eq_true rfl) hS (lv_sub hl [0, 3] rfl)
set_option maxHeartbeats 4000000 in
set_option maxRecDepth 100000 in
theorem lc_39 {p : Program} {l : Launch} {e : Env} {s : State} {m : MethodId} {below : List Frame} {meth : Method} {c : Code} {sb : Nat} {xs : Nat → Int32} (C0 : lw_At p s m meth c sb 7 xs) {D : va_G} {Y : Nat → ClassId} {Z : Nat → Nat} (hKN : KN D Y Z s) {A : Nat → Prop} (hA : ∀ q, s.heap.size ≤ q → A q) (hA2 : ∀ q, A q → s.heap.size ≤ q) {o o2 : Nat} {b a : Nat → Nat} {H : Heap} {locs : List Loc} {ls : Array Slot} (hP : va_P D vwCl (LW Y Z o o2 b a) H) (hD : va_D A (LW Y Z o o2 b a)) (hS : va_S A s.heap H locs) (hl : lv_has ls 4 [(3, .int 0), (2, .ref o2), (1, .ref o), (0, .ref sb)]) : W p l e room_1 s m #[Value.ref sb] below meth c H locs 70 52824 (lw_Z below #[Value.ref sb] s) (F0 m 1862 ls []) := by
  obtain ⟨hx, hb, hr, hml, hown, hts, hX, hbl, hlocks, hgv⟩ := id C0
  have hb : c.code = cL_law := hb
  have hown : s.vm.findClass RL = some m.cls := hown
  have hg : ∀ w ∈ GW, w.before #[Value.ref sb] s = true := fun w h => hts w (gw_tbl h)
  have hbA : ¬ A sb := fun h => absurd (hA2 sb h) (Nat.not_le.mpr hbl)
  refine lv_aload_n hx hb dL_law_1862 rfl (lv_at hl 2 rfl) ?_
  refine lv_aload_n hx hb dL_law_1863 rfl (lv_at hl 3 rfl) ?_
  refine lv_iload_n hx hb dL_law_1864 rfl (lv_at hl 0 rfl) ?_
  refine lv_iconst (v := 1) hx hb dL_law_1865 (by decide) ?_
  refine lv_iadd hx hb dL_law_1866 ?_
  refine lv_topi (fun z1 ez1 => ?_)
  obtain rfl : z1 = 1 := ez1.trans (by decide)
  refine va_sld hx hb hX hbl hbA hS (show ¬ ((1 : Int32) < 0 ∨ 7 ≤ (1 : Int32).toNatClampNeg) by decide) dL_law_1867 ?_
  refine W.eq (g2 := F0 m 1868 ls [.int (xs 1), .ref o]) rfl ?_
  refine cg (wc := [(o, .inr (10, (dsF b))), ((b 1), .inl (Y 4, 4, .inr (.inr (.inr (.inr (fun _ => none))))))]) (wr := (((b 0), .inr (6, (skF b))) :: ((b 16), .inl (Y 7, 12, .inr (.inr (.inr (.inr (fun _ => none)))))) :: ((b 17), .inl (Y 8, 40, .inr (.inr (.inr (.inr (fun _ => none)))))) :: ((b 18), .inl (Y 0, 12, .inl (fun _ => 0))) :: ((b 19), .inl (Y 0, 12, .inl (fun _ => 0))) :: ((b 20), .inl (Y 0, 8, .inl (fun _ => 0))) :: ((b 21), .inl (Y 0, 8, .inl (fun _ => 0))) :: ((b 22), .inl (Y 2, 400, .inl (fun _ => 0))) :: ((b 5), .inr (3, (paF Z b))) :: ((b 24), .inr (8, (txF b))) :: (o2, .inr (11, (moF a))) :: ((a 0), .inl (Y 0, 7533, .inl tolF)) :: ((a 2), .inl (Y 2, 400, .inl (fun _ => 0))) :: ((a 3), .inl (Y 0, 3, .inl (fun _ => 0))) :: ((a 5), .inl (Y 0, 18, .inl (fun _ => 0))) :: ((a 7), .inl (Y 0, 18, .inl (fun _ => 0))) :: ((a 8), .inl (Y 0, 18, .inl (fun _ => 0))) :: ((a 9), .inl (Y 0, 18, .inl (fun _ => 0))) :: ((a 11), .inl (Y 0, 18, .inl (fun _ => 0))) :: ((a 13), .inl (Y 0, 18, .inl (fun _ => 0))) :: ((a 14), .inl (Y 0, 18, .inl (fun _ => 0))) :: ((a 26), .inl (Y 0, 30132, .inl (fun _ => 0))) :: ((a 27), .inl (Y 3, 4, .inl (fun _ => 0))) :: [])) [0, 9] [1, 2, 3, 4, 5, 6, 7, 8, 10, 11, 12, 13, 14, 15, 16, 17, 18, 19, 20, 21, 22, 23, 24] (rn_V (As := [.int (xs 1)]) (rest := []) (b := o) (x_back l D Y Z H.size o b (xs 1)) ⟨hx, hb, hml, hown, hg⟩ lk_L_183 ⟨CP.blind, va_recv hKN.1 hP (ci := 10) (q0 := 0) rfl rfl, CP.at (hP.sub [0, 9] rfl) hKN (hD.sub [0, 9] (by decide) rfl)⟩ ⟨⟨rfl, rfl⟩, ⟨Nat.le_of_ble_eq_true rfl, Nat.le_of_ble_eq_true rfl⟩, ⟨Nat.le_of_ble_eq_true rfl, Nat.le_of_ble_eq_true rfl⟩⟩ hl.1 rfl (Nat.le_of_ble_eq_true rfl) dL_law_1868) hP hD hS hA rfl rfl (by decide) (by decide) (fun u2 H locs w3 hP hD hS => ?_)
  refine W.eq (g2 := F0 m 1871 ls [.int (-1)]) rfl ?_
  have hP : va_P D vwCl (((b 0), .inr (6, (skF b))) :: ((b 16), .inl (Y 7, 12, .inr (.inr (.inr (.inr (fun _ => none)))))) :: ((b 17), .inl (Y 8, 40, .inr (.inr (.inr (.inr (fun _ => none)))))) :: ((b 18), .inl (Y 0, 12, .inl (fun _ => 0))) :: ((b 19), .inl (Y 0, 12, .inl (fun _ => 0))) :: ((b 20), .inl (Y 0, 8, .inl (fun _ => 0))) :: ((b 21), .inl (Y 0, 8, .inl (fun _ => 0))) :: ((b 22), .inl (Y 2, 400, .inl (fun _ => 0))) :: ((b 5), .inr (3, (paF Z b))) :: ((b 24), .inr (8, (txF b))) :: (o2, .inr (11, (moF a))) :: ((a 0), .inl (Y 0, 7533, .inl tolF)) :: ((a 2), .inl (Y 2, 400, .inl (fun _ => 0))) :: ((a 3), .inl (Y 0, 3, .inl (fun _ => 0))) :: ((a 5), .inl (Y 0, 18, .inl (fun _ => 0))) :: ((a 7), .inl (Y 0, 18, .inl (fun _ => 0))) :: ((a 8), .inl (Y 0, 18, .inl (fun _ => 0))) :: ((a 9), .inl (Y 0, 18, .inl (fun _ => 0))) :: ((a 11), .inl (Y 0, 18, .inl (fun _ => 0))) :: ((a 13), .inl (Y 0, 18, .inl (fun _ => 0))) :: ((a 14), .inl (Y 0, 18, .inl (fun _ => 0))) :: ((a 26), .inl (Y 0, 30132, .inl (fun _ => 0))) :: ((a 27), .inl (Y 3, 4, .inl (fun _ => 0))) :: []) H := hP
  have hD : va_D A (((b 0), .inr (6, (skF b))) :: ((b 16), .inl (Y 7, 12, .inr (.inr (.inr (.inr (fun _ => none)))))) :: ((b 17), .inl (Y 8, 40, .inr (.inr (.inr (.inr (fun _ => none)))))) :: ((b 18), .inl (Y 0, 12, .inl (fun _ => 0))) :: ((b 19), .inl (Y 0, 12, .inl (fun _ => 0))) :: ((b 20), .inl (Y 0, 8, .inl (fun _ => 0))) :: ((b 21), .inl (Y 0, 8, .inl (fun _ => 0))) :: ((b 22), .inl (Y 2, 400, .inl (fun _ => 0))) :: ((b 5), .inr (3, (paF Z b))) :: ((b 24), .inr (8, (txF b))) :: (o2, .inr (11, (moF a))) :: ((a 0), .inl (Y 0, 7533, .inl tolF)) :: ((a 2), .inl (Y 2, 400, .inl (fun _ => 0))) :: ((a 3), .inl (Y 0, 3, .inl (fun _ => 0))) :: ((a 5), .inl (Y 0, 18, .inl (fun _ => 0))) :: ((a 7), .inl (Y 0, 18, .inl (fun _ => 0))) :: ((a 8), .inl (Y 0, 18, .inl (fun _ => 0))) :: ((a 9), .inl (Y 0, 18, .inl (fun _ => 0))) :: ((a 11), .inl (Y 0, 18, .inl (fun _ => 0))) :: ((a 13), .inl (Y 0, 18, .inl (fun _ => 0))) :: ((a 14), .inl (Y 0, 18, .inl (fun _ => 0))) :: ((a 26), .inl (Y 0, 30132, .inl (fun _ => 0))) :: ((a 27), .inl (Y 3, 4, .inl (fun _ => 0))) :: []) := hD
  refine lv_aload_n hx hb dL_law_1871 rfl (lv_at hl 1 rfl) ?_
  refine lv_aload_n hx hb dL_law_1872 rfl (lv_at hl 3 rfl) ?_
  refine lv_iload_n hx hb dL_law_1873 rfl (lv_at hl 0 rfl) ?_
  refine lv_iconst (v := 1) hx hb dL_law_1874 (by decide) ?_
  refine lv_iadd hx hb dL_law_1875 ?_
  refine lv_topi (fun z4 ez4 => ?_)
  obtain rfl : z4 = 1 := ez4.trans (by decide)
  refine va_sld hx hb hX hbl hbA hS (show ¬ ((1 : Int32) < 0 ∨ 7 ≤ (1 : Int32).toNatClampNeg) by decide) dL_law_1876 ?_
  refine W.eq (g2 := F0 m 1877 ls [.int (xs 1), .ref o2, .int (-1)]) rfl ?_
  refine cg (wc := [(o2, .inr (11, (moF a))), ((a 27), .inl (Y 3, 4, .inl (fun _ => 0)))]) (wr := (((b 0), .inr (6, (skF b))) :: ((b 16), .inl (Y 7, 12, .inr (.inr (.inr (.inr (fun _ => none)))))) :: ((b 17), .inl (Y 8, 40, .inr (.inr (.inr (.inr (fun _ => none)))))) :: ((b 18), .inl (Y 0, 12, .inl (fun _ => 0))) :: ((b 19), .inl (Y 0, 12, .inl (fun _ => 0))) :: ((b 20), .inl (Y 0, 8, .inl (fun _ => 0))) :: ((b 21), .inl (Y 0, 8, .inl (fun _ => 0))) :: ((b 22), .inl (Y 2, 400, .inl (fun _ => 0))) :: ((b 5), .inr (3, (paF Z b))) :: ((b 24), .inr (8, (txF b))) :: ((a 0), .inl (Y 0, 7533, .inl tolF)) :: ((a 2), .inl (Y 2, 400, .inl (fun _ => 0))) :: ((a 3), .inl (Y 0, 3, .inl (fun _ => 0))) :: ((a 5), .inl (Y 0, 18, .inl (fun _ => 0))) :: ((a 7), .inl (Y 0, 18, .inl (fun _ => 0))) :: ((a 8), .inl (Y 0, 18, .inl (fun _ => 0))) :: ((a 9), .inl (Y 0, 18, .inl (fun _ => 0))) :: ((a 11), .inl (Y 0, 18, .inl (fun _ => 0))) :: ((a 13), .inl (Y 0, 18, .inl (fun _ => 0))) :: ((a 14), .inl (Y 0, 18, .inl (fun _ => 0))) :: ((a 26), .inl (Y 0, 30132, .inl (fun _ => 0))) :: [])) [10, 22] [0, 1, 2, 3, 4, 5, 6, 7, 8, 9, 11, 12, 13, 14, 15, 16, 17, 18, 19, 20, 21] (rn_V (As := [.int (xs 1)]) (rest := [.int (-1)]) (b := o2) (y_back l D Y Z H.size o2 a (xs 1)) ⟨hx, hb, hml, hown, hg⟩ lk_L_186 ⟨CP.blind, va_recv hKN.1 hP (ci := 11) (q0 := 10) rfl rfl, CP.at (hP.sub [10, 22] rfl) hKN (hD.sub [10, 22] (by decide) rfl)⟩ ⟨⟨rfl, rfl⟩, ⟨Nat.le_of_ble_eq_true rfl, Nat.le_of_ble_eq_true rfl⟩, ⟨Nat.le_of_ble_eq_true rfl, Nat.le_of_ble_eq_true rfl⟩⟩ hl.1 rfl (Nat.le_of_ble_eq_true rfl) dL_law_1877) hP hD hS hA rfl rfl (by decide) (by decide) (fun u5 H locs w6 hP hD hS => ?_)
  refine W.eq (g2 := F0 m 1880 ls [.int (-1), .int (-1)]) rfl ?_
  have hP : va_P D vwCl (((b 0), .inr (6, (skF b))) :: ((b 16), .inl (Y 7, 12, .inr (.inr (.inr (.inr (fun _ => none)))))) :: ((b 17), .inl (Y 8, 40, .inr (.inr (.inr (.inr (fun _ => none)))))) :: ((b 18), .inl (Y 0, 12, .inl (fun _ => 0))) :: ((b 19), .inl (Y 0, 12, .inl (fun _ => 0))) :: ((b 20), .inl (Y 0, 8, .inl (fun _ => 0))) :: ((b 21), .inl (Y 0, 8, .inl (fun _ => 0))) :: ((b 22), .inl (Y 2, 400, .inl (fun _ => 0))) :: ((b 5), .inr (3, (paF Z b))) :: ((b 24), .inr (8, (txF b))) :: ((a 0), .inl (Y 0, 7533, .inl tolF)) :: ((a 2), .inl (Y 2, 400, .inl (fun _ => 0))) :: ((a 3), .inl (Y 0, 3, .inl (fun _ => 0))) :: ((a 5), .inl (Y 0, 18, .inl (fun _ => 0))) :: ((a 7), .inl (Y 0, 18, .inl (fun _ => 0))) :: ((a 8), .inl (Y 0, 18, .inl (fun _ => 0))) :: ((a 9), .inl (Y 0, 18, .inl (fun _ => 0))) :: ((a 11), .inl (Y 0, 18, .inl (fun _ => 0))) :: ((a 13), .inl (Y 0, 18, .inl (fun _ => 0))) :: ((a 14), .inl (Y 0, 18, .inl (fun _ => 0))) :: ((a 26), .inl (Y 0, 30132, .inl (fun _ => 0))) :: []) H := hP
  have hD : va_D A (((b 0), .inr (6, (skF b))) :: ((b 16), .inl (Y 7, 12, .inr (.inr (.inr (.inr (fun _ => none)))))) :: ((b 17), .inl (Y 8, 40, .inr (.inr (.inr (.inr (fun _ => none)))))) :: ((b 18), .inl (Y 0, 12, .inl (fun _ => 0))) :: ((b 19), .inl (Y 0, 12, .inl (fun _ => 0))) :: ((b 20), .inl (Y 0, 8, .inl (fun _ => 0))) :: ((b 21), .inl (Y 0, 8, .inl (fun _ => 0))) :: ((b 22), .inl (Y 2, 400, .inl (fun _ => 0))) :: ((b 5), .inr (3, (paF Z b))) :: ((b 24), .inr (8, (txF b))) :: ((a 0), .inl (Y 0, 7533, .inl tolF)) :: ((a 2), .inl (Y 2, 400, .inl (fun _ => 0))) :: ((a 3), .inl (Y 0, 3, .inl (fun _ => 0))) :: ((a 5), .inl (Y 0, 18, .inl (fun _ => 0))) :: ((a 7), .inl (Y 0, 18, .inl (fun _ => 0))) :: ((a 8), .inl (Y 0, 18, .inl (fun _ => 0))) :: ((a 9), .inl (Y 0, 18, .inl (fun _ => 0))) :: ((a 11), .inl (Y 0, 18, .inl (fun _ => 0))) :: ((a 13), .inl (Y 0, 18, .inl (fun _ => 0))) :: ((a 14), .inl (Y 0, 18, .inl (fun _ => 0))) :: ((a 26), .inl (Y 0, 30132, .inl (fun _ => 0))) :: []) := hD
  refine lv_icmp_eq (tgt := 1885) hx hb dL_law_1880 (by decide) (fun c7 => ?_) (fun c7 => ?_)
  rotate_left
  · exact absurd c7 (by decide)
  exact lw_tail C0 hA2 (Nat.le_of_ble_eq_true rfl) (Nat.le_of_ble_eq_true rfl) hS (lv_sub hl [0, 3] rfl)
