set_option maxHeartbeats 4000000 in
set_option maxRecDepth 100000 in
theorem lc_14 {p : Program} {l : Launch} {e : Env} {s : State} {m : MethodId} {below : List Frame} {meth : Method} {c : Code} {sb : Nat} {xs : Nat → Int32} (C0 : lw_At p s m meth c sb 7 xs) {D : va_G} {Y : Nat → ClassId} {Z : Nat → Nat} (hKN : KN D Y Z s) {A : Nat → Prop} (hA : ∀ q, s.heap.size ≤ q → A q) (hA2 : ∀ q, A q → s.heap.size ≤ q) {o o2 : Nat} {b a : Nat → Nat} {H : Heap} {locs : List Loc} {ls : Array Slot} (hP : va_P D vwCl (LW Y Z o o2 b a) H) (hD : va_D A (LW Y Z o o2 b a)) (hS : va_S A s.heap H locs) (hl : lv_has ls 4 [(3, .int 0), (2, .ref o2), (1, .ref o), (0, .ref sb)]) : W p l e room_1 s m #[Value.ref sb] below meth c H locs 70 52824 (lw_Z below #[Value.ref sb] s) (F0 m 852 ls []) := by
  obtain ⟨hx, hb, hr, hml, hown, hts, hX, hbl, hlocks, hgv⟩ := id C0
  have hb : c.code = cL_law := hb
  have hown : s.vm.findClass RL = some m.cls := hown
  have hg : ∀ w ∈ GW, w.before #[Value.ref sb] s = true := fun w h => hts w (gw_tbl h)
  have hbA : ¬ A sb := fun h => absurd (hA2 sb h) (Nat.not_le.mpr hbl)
  refine lv_aload_n hx hb dL_law_852 rfl (lv_at hl 2 rfl) ?_
  refine lv_aload_n hx hb dL_law_853 rfl (lv_at hl 3 rfl) ?_
  refine lv_iload_n hx hb dL_law_854 rfl (lv_at hl 0 rfl) ?_
  refine lv_iconst (v := 1) hx hb dL_law_855 (by decide) ?_
  refine lv_iadd hx hb dL_law_856 ?_
  refine lv_topi (fun z1 ez1 => ?_)
  obtain rfl : z1 = 1 := ez1.trans (by decide)
  refine va_sld hx hb hX hbl hbA hS (show ¬ ((1 : Int32) < 0 ∨ 7 ≤ (1 : Int32).toNatClampNeg) by decide) dL_law_857 ?_
  refine W.eq (g2 := F0 m 858 ls [.int (xs 1), .ref o]) rfl ?_
  refine cg (wc := [(o, .inr (10, (dsF b))), ((b 0), .inr (6, (skF b)))]) (wr := (((b 16), .inl (Y 7, 12, .inr (.inr (.inr (.inr (fun _ => none)))))) :: ((b 17), .inl (Y 8, 40, .inr (.inr (.inr (.inr (fun _ => none)))))) :: ((b 18), .inl (Y 0, 12, .inl (fun _ => 0))) :: ((b 19), .inl (Y 0, 12, .inl (fun _ => 0))) :: ((b 20), .inl (Y 0, 8, .inl (fun _ => 0))) :: ((b 21), .inl (Y 0, 8, .inl (fun _ => 0))) :: ((b 22), .inl (Y 2, 400, .inl (fun _ => 0))) :: ((b 1), .inl (Y 4, 4, .inr (.inr (.inr (.inr (fun _ => none)))))) :: ((b 5), .inr (3, (paF Z b))) :: ((b 24), .inr (8, (txF b))) :: (o2, .inr (11, (moF a))) :: ((a 0), .inl (Y 0, 7533, .inl tolF)) :: ((a 2), .inl (Y 2, 400, .inl (fun _ => 0))) :: ((a 3), .inl (Y 0, 3, .inl (fun _ => 0))) :: ((a 5), .inl (Y 0, 18, .inl (fun _ => 0))) :: ((a 7), .inl (Y 0, 18, .inl (fun _ => 0))) :: ((a 8), .inl (Y 0, 18, .inl (fun _ => 0))) :: ((a 9), .inl (Y 0, 18, .inl (fun _ => 0))) :: ((a 11), .inl (Y 0, 18, .inl (fun _ => 0))) :: ((a 13), .inl (Y 0, 18, .inl (fun _ => 0))) :: ((a 14), .inl (Y 0, 18, .inl (fun _ => 0))) :: ((a 26), .inl (Y 0, 30132, .inl (fun _ => 0))) :: ((a 27), .inl (Y 3, 4, .inl (fun _ => 0))) :: [])) [0, 1] [2, 3, 4, 5, 6, 7, 8, 9, 10, 11, 12, 13, 14, 15, 16, 17, 18, 19, 20, 21, 22, 23, 24] (rn_V (As := [.int (xs 1)]) (rest := []) (b := o) (x_spread l D Y Z H.size o b (xs 1)) ⟨hx, hb, hml, hown, hg⟩ lk_L_77 ⟨CP.blind, va_recv hKN.1 hP (ci := 10) (q0 := 0) rfl rfl, CP.at (hP.sub [0, 1] rfl) hKN (hD.sub [0, 1] (by decide) rfl)⟩ ⟨⟨rfl, rfl⟩, ⟨Nat.le_of_ble_eq_true rfl, Nat.le_of_ble_eq_true rfl⟩, ⟨Nat.le_of_ble_eq_true rfl, Nat.le_of_ble_eq_true rfl⟩⟩ hl.1 rfl (Nat.le_of_ble_eq_true rfl) dL_law_858) hP hD hS hA rfl rfl (by decide) (by decide) (fun u2 H locs w3 hP hD hS => ?_)
  refine W.eq (g2 := F0 m 861 ls [.long (-1)]) rfl ?_
  have hP : va_P D vwCl (((b 16), .inl (Y 7, 12, .inr (.inr (.inr (.inr (fun _ => none)))))) :: ((b 17), .inl (Y 8, 40, .inr (.inr (.inr (.inr (fun _ => none)))))) :: ((b 18), .inl (Y 0, 12, .inl (fun _ => 0))) :: ((b 19), .inl (Y 0, 12, .inl (fun _ => 0))) :: ((b 20), .inl (Y 0, 8, .inl (fun _ => 0))) :: ((b 21), .inl (Y 0, 8, .inl (fun _ => 0))) :: ((b 22), .inl (Y 2, 400, .inl (fun _ => 0))) :: ((b 1), .inl (Y 4, 4, .inr (.inr (.inr (.inr (fun _ => none)))))) :: ((b 5), .inr (3, (paF Z b))) :: ((b 24), .inr (8, (txF b))) :: (o2, .inr (11, (moF a))) :: ((a 0), .inl (Y 0, 7533, .inl tolF)) :: ((a 2), .inl (Y 2, 400, .inl (fun _ => 0))) :: ((a 3), .inl (Y 0, 3, .inl (fun _ => 0))) :: ((a 5), .inl (Y 0, 18, .inl (fun _ => 0))) :: ((a 7), .inl (Y 0, 18, .inl (fun _ => 0))) :: ((a 8), .inl (Y 0, 18, .inl (fun _ => 0))) :: ((a 9), .inl (Y 0, 18, .inl (fun _ => 0))) :: ((a 11), .inl (Y 0, 18, .inl (fun _ => 0))) :: ((a 13), .inl (Y 0, 18, .inl (fun _ => 0))) :: ((a 14), .inl (Y 0, 18, .inl (fun _ => 0))) :: ((a 26), .inl (Y 0, 30132, .inl (fun _ => 0))) :: ((a 27), .inl (Y 3, 4, .inl (fun _ => 0))) :: []) H := hP
  have hD : va_D A (((b 16), .inl (Y 7, 12, .inr (.inr (.inr (.inr (fun _ => none)))))) :: ((b 17), .inl (Y 8, 40, .inr (.inr (.inr (.inr (fun _ => none)))))) :: ((b 18), .inl (Y 0, 12, .inl (fun _ => 0))) :: ((b 19), .inl (Y 0, 12, .inl (fun _ => 0))) :: ((b 20), .inl (Y 0, 8, .inl (fun _ => 0))) :: ((b 21), .inl (Y 0, 8, .inl (fun _ => 0))) :: ((b 22), .inl (Y 2, 400, .inl (fun _ => 0))) :: ((b 1), .inl (Y 4, 4, .inr (.inr (.inr (.inr (fun _ => none)))))) :: ((b 5), .inr (3, (paF Z b))) :: ((b 24), .inr (8, (txF b))) :: (o2, .inr (11, (moF a))) :: ((a 0), .inl (Y 0, 7533, .inl tolF)) :: ((a 2), .inl (Y 2, 400, .inl (fun _ => 0))) :: ((a 3), .inl (Y 0, 3, .inl (fun _ => 0))) :: ((a 5), .inl (Y 0, 18, .inl (fun _ => 0))) :: ((a 7), .inl (Y 0, 18, .inl (fun _ => 0))) :: ((a 8), .inl (Y 0, 18, .inl (fun _ => 0))) :: ((a 9), .inl (Y 0, 18, .inl (fun _ => 0))) :: ((a 11), .inl (Y 0, 18, .inl (fun _ => 0))) :: ((a 13), .inl (Y 0, 18, .inl (fun _ => 0))) :: ((a 14), .inl (Y 0, 18, .inl (fun _ => 0))) :: ((a 26), .inl (Y 0, 30132, .inl (fun _ => 0))) :: ((a 27), .inl (Y 3, 4, .inl (fun _ => 0))) :: []) := hD
  refine lv_aload_n hx hb dL_law_861 rfl (lv_at hl 1 rfl) ?_
  refine lv_aload_n hx hb dL_law_862 rfl (lv_at hl 3 rfl) ?_
  refine lv_iload_n hx hb dL_law_863 rfl (lv_at hl 0 rfl) ?_
  refine lv_iconst (v := 1) hx hb dL_law_864 (by decide) ?_
  refine lv_iadd hx hb dL_law_865 ?_
  refine lv_topi (fun z4 ez4 => ?_)
  obtain rfl : z4 = 1 := ez4.trans (by decide)
  refine va_sld hx hb hX hbl hbA hS (show ¬ ((1 : Int32) < 0 ∨ 7 ≤ (1 : Int32).toNatClampNeg) by decide) dL_law_866 ?_
  refine W.eq (g2 := F0 m 867 ls [.int (xs 1), .ref o2, .long (-1)]) rfl ?_
  refine cg (wc := [(o2, .inr (11, (moF a))), ((a 0), .inl (Y 0, 7533, .inl tolF))]) (wr := (((b 16), .inl (Y 7, 12, .inr (.inr (.inr (.inr (fun _ => none)))))) :: ((b 17), .inl (Y 8, 40, .inr (.inr (.inr (.inr (fun _ => none)))))) :: ((b 18), .inl (Y 0, 12, .inl (fun _ => 0))) :: ((b 19), .inl (Y 0, 12, .inl (fun _ => 0))) :: ((b 20), .inl (Y 0, 8, .inl (fun _ => 0))) :: ((b 21), .inl (Y 0, 8, .inl (fun _ => 0))) :: ((b 22), .inl (Y 2, 400, .inl (fun _ => 0))) :: ((b 1), .inl (Y 4, 4, .inr (.inr (.inr (.inr (fun _ => none)))))) :: ((b 5), .inr (3, (paF Z b))) :: ((b 24), .inr (8, (txF b))) :: ((a 2), .inl (Y 2, 400, .inl (fun _ => 0))) :: ((a 3), .inl (Y 0, 3, .inl (fun _ => 0))) :: ((a 5), .inl (Y 0, 18, .inl (fun _ => 0))) :: ((a 7), .inl (Y 0, 18, .inl (fun _ => 0))) :: ((a 8), .inl (Y 0, 18, .inl (fun _ => 0))) :: ((a 9), .inl (Y 0, 18, .inl (fun _ => 0))) :: ((a 11), .inl (Y 0, 18, .inl (fun _ => 0))) :: ((a 13), .inl (Y 0, 18, .inl (fun _ => 0))) :: ((a 14), .inl (Y 0, 18, .inl (fun _ => 0))) :: ((a 26), .inl (Y 0, 30132, .inl (fun _ => 0))) :: ((a 27), .inl (Y 3, 4, .inl (fun _ => 0))) :: [])) [10, 11] [0, 1, 2, 3, 4, 5, 6, 7, 8, 9, 12, 13, 14, 15, 16, 17, 18, 19, 20, 21, 22] (rn_V (As := [.int (xs 1)]) (rest := [.long (-1)]) (b := o2) (y_spread l D Y Z H.size o2 a (xs 1)) ⟨hx, hb, hml, hown, hg⟩ lk_L_81 ⟨CP.blind, va_recv hKN.1 hP (ci := 11) (q0 := 10) rfl rfl, CP.at (hP.sub [10, 11] rfl) hKN (hD.sub [10, 11] (by decide) rfl)⟩ ⟨⟨rfl, rfl⟩, ⟨Nat.le_of_ble_eq_true rfl, Nat.le_of_ble_eq_true rfl⟩, ⟨Nat.le_of_ble_eq_true rfl, Nat.le_of_ble_eq_true rfl⟩⟩ hl.1 rfl (Nat.le_of_ble_eq_true rfl) dL_law_867) hP hD hS hA rfl rfl (by decide) (by decide) (fun u5 H locs w6 hP hD hS => ?_)
  refine W.eq (g2 := F0 m 870 ls [.long (-1), .long (-1)]) rfl ?_
  have hP : va_P D vwCl (((b 16), .inl (Y 7, 12, .inr (.inr (.inr (.inr (fun _ => none)))))) :: ((b 17), .inl (Y 8, 40, .inr (.inr (.inr (.inr (fun _ => none)))))) :: ((b 18), .inl (Y 0, 12, .inl (fun _ => 0))) :: ((b 19), .inl (Y 0, 12, .inl (fun _ => 0))) :: ((b 20), .inl (Y 0, 8, .inl (fun _ => 0))) :: ((b 21), .inl (Y 0, 8, .inl (fun _ => 0))) :: ((b 22), .inl (Y 2, 400, .inl (fun _ => 0))) :: ((b 1), .inl (Y 4, 4, .inr (.inr (.inr (.inr (fun _ => none)))))) :: ((b 5), .inr (3, (paF Z b))) :: ((b 24), .inr (8, (txF b))) :: ((a 2), .inl (Y 2, 400, .inl (fun _ => 0))) :: ((a 3), .inl (Y 0, 3, .inl (fun _ => 0))) :: ((a 5), .inl (Y 0, 18, .inl (fun _ => 0))) :: ((a 7), .inl (Y 0, 18, .inl (fun _ => 0))) :: ((a 8), .inl (Y 0, 18, .inl (fun _ => 0))) :: ((a 9), .inl (Y 0, 18, .inl (fun _ => 0))) :: ((a 11), .inl (Y 0, 18, .inl (fun _ => 0))) :: ((a 13), .inl (Y 0, 18, .inl (fun _ => 0))) :: ((a 14), .inl (Y 0, 18, .inl (fun _ => 0))) :: ((a 26), .inl (Y 0, 30132, .inl (fun _ => 0))) :: ((a 27), .inl (Y 3, 4, .inl (fun _ => 0))) :: []) H := hP
  have hD : va_D A (((b 16), .inl (Y 7, 12, .inr (.inr (.inr (.inr (fun _ => none)))))) :: ((b 17), .inl (Y 8, 40, .inr (.inr (.inr (.inr (fun _ => none)))))) :: ((b 18), .inl (Y 0, 12, .inl (fun _ => 0))) :: ((b 19), .inl (Y 0, 12, .inl (fun _ => 0))) :: ((b 20), .inl (Y 0, 8, .inl (fun _ => 0))) :: ((b 21), .inl (Y 0, 8, .inl (fun _ => 0))) :: ((b 22), .inl (Y 2, 400, .inl (fun _ => 0))) :: ((b 1), .inl (Y 4, 4, .inr (.inr (.inr (.inr (fun _ => none)))))) :: ((b 5), .inr (3, (paF Z b))) :: ((b 24), .inr (8, (txF b))) :: ((a 2), .inl (Y 2, 400, .inl (fun _ => 0))) :: ((a 3), .inl (Y 0, 3, .inl (fun _ => 0))) :: ((a 5), .inl (Y 0, 18, .inl (fun _ => 0))) :: ((a 7), .inl (Y 0, 18, .inl (fun _ => 0))) :: ((a 8), .inl (Y 0, 18, .inl (fun _ => 0))) :: ((a 9), .inl (Y 0, 18, .inl (fun _ => 0))) :: ((a 11), .inl (Y 0, 18, .inl (fun _ => 0))) :: ((a 13), .inl (Y 0, 18, .inl (fun _ => 0))) :: ((a 14), .inl (Y 0, 18, .inl (fun _ => 0))) :: ((a 26), .inl (Y 0, 30132, .inl (fun _ => 0))) :: ((a 27), .inl (Y 3, 4, .inl (fun _ => 0))) :: []) := hD
  refine W.lcmp hx hb dL_law_870 ?_
  refine lv_if_eq (tgt := 1885) hx hb dL_law_871 (by decide) (fun c7 => ?_) (fun c7 => ?_)
  rotate_left
  · exact absurd c7 (by decide)
  exact lw_tail C0 hA2 (Nat.le_of_ble_eq_true rfl) (Nat.le_of_ble_eq_true rfl) hS (lv_sub hl [0, 3] rfl)
set_option maxHeartbeats 4000000 in
set_option maxRecDepth 100000 in
theorem lc_15 {p : Program} {l : Launch} {e : Env} {s : State} {m : MethodId} {below : List Frame} {meth : Method} {c : Code} {sb : Nat} {xs : Nat → Int32} (C0 : lw_At p s m meth c sb 7 xs) {D : va_G} {Y : Nat → ClassId} {Z : Nat → Nat} (hKN : KN D Y Z s) {A : Nat → Prop} (hA : ∀ q, s.heap.size ≤ q → A q) (hA2 : ∀ q, A q → s.heap.size ≤ q) {o o2 : Nat} {b a : Nat → Nat} {H : Heap} {locs : List Loc} {ls : Array Slot} (hP : va_P D vwCl (LW Y Z o o2 b a) H) (hD : va_D A (LW Y Z o o2 b a)) (hS : va_S A s.heap H locs) (hl : lv_has ls 4 [(3, .int 0), (2, .ref o2), (1, .ref o), (0, .ref sb)]) : W p l e room_1 s m #[Value.ref sb] below meth c H locs 70 52824 (lw_Z below #[Value.ref sb] s) (F0 m 876 ls []) := by
  obtain ⟨hx, hb, hr, hml, hown, hts, hX, hbl, hlocks, hgv⟩ := id C0
  have hb : c.code = cL_law := hb
  have hown : s.vm.findClass RL = some m.cls := hown
  have hg : ∀ w ∈ GW, w.before #[Value.ref sb] s = true := fun w h => hts w (gw_tbl h)
  have hbA : ¬ A sb := fun h => absurd (hA2 sb h) (Nat.not_le.mpr hbl)
  refine lv_aload_n hx hb dL_law_876 rfl (lv_at hl 2 rfl) ?_
  refine lv_aload_n hx hb dL_law_877 rfl (lv_at hl 3 rfl) ?_
  refine lv_iload_n hx hb dL_law_878 rfl (lv_at hl 0 rfl) ?_
  refine lv_iconst (v := 1) hx hb dL_law_879 (by decide) ?_
  refine lv_iadd hx hb dL_law_880 ?_
  refine lv_topi (fun z1 ez1 => ?_)
  obtain rfl : z1 = 1 := ez1.trans (by decide)
  refine va_sld hx hb hX hbl hbA hS (show ¬ ((1 : Int32) < 0 ∨ 7 ≤ (1 : Int32).toNatClampNeg) by decide) dL_law_881 ?_
  refine W.eq (g2 := F0 m 882 ls [.int (xs 1), .ref o]) rfl ?_
  refine lv_aload_n hx hb dL_law_882 rfl (lv_at hl 3 rfl) ?_
  refine lv_iload_n hx hb dL_law_883 rfl (lv_at hl 0 rfl) ?_
  refine lv_iconst (v := 2) hx hb dL_law_884 (by decide) ?_
  refine lv_iadd hx hb dL_law_885 ?_
  refine lv_topi (fun z2 ez2 => ?_)
  obtain rfl : z2 = 2 := ez2.trans (by decide)
  refine va_sld hx hb hX hbl hbA hS (show ¬ ((2 : Int32) < 0 ∨ 7 ≤ (2 : Int32).toNatClampNeg) by decide) dL_law_886 ?_
  refine W.eq (g2 := F0 m 887 ls [.int (xs 2), .int (xs 1), .ref o]) rfl ?_
  refine cg (wc := [(o, .inr (10, (dsF b))), ((b 0), .inr (6, (skF b)))]) (wr := (((b 16), .inl (Y 7, 12, .inr (.inr (.inr (.inr (fun _ => none)))))) :: ((b 17), .inl (Y 8, 40, .inr (.inr (.inr (.inr (fun _ => none)))))) :: ((b 18), .inl (Y 0, 12, .inl (fun _ => 0))) :: ((b 19), .inl (Y 0, 12, .inl (fun _ => 0))) :: ((b 20), .inl (Y 0, 8, .inl (fun _ => 0))) :: ((b 21), .inl (Y 0, 8, .inl (fun _ => 0))) :: ((b 22), .inl (Y 2, 400, .inl (fun _ => 0))) :: ((b 1), .inl (Y 4, 4, .inr (.inr (.inr (.inr (fun _ => none)))))) :: ((b 5), .inr (3, (paF Z b))) :: ((b 24), .inr (8, (txF b))) :: (o2, .inr (11, (moF a))) :: ((a 0), .inl (Y 0, 7533, .inl tolF)) :: ((a 2), .inl (Y 2, 400, .inl (fun _ => 0))) :: ((a 3), .inl (Y 0, 3, .inl (fun _ => 0))) :: ((a 5), .inl (Y 0, 18, .inl (fun _ => 0))) :: ((a 7), .inl (Y 0, 18, .inl (fun _ => 0))) :: ((a 8), .inl (Y 0, 18, .inl (fun _ => 0))) :: ((a 9), .inl (Y 0, 18, .inl (fun _ => 0))) :: ((a 11), .inl (Y 0, 18, .inl (fun _ => 0))) :: ((a 13), .inl (Y 0, 18, .inl (fun _ => 0))) :: ((a 14), .inl (Y 0, 18, .inl (fun _ => 0))) :: ((a 26), .inl (Y 0, 30132, .inl (fun _ => 0))) :: ((a 27), .inl (Y 3, 4, .inl (fun _ => 0))) :: [])) [0, 1] [2, 3, 4, 5, 6, 7, 8, 9, 10, 11, 12, 13, 14, 15, 16, 17, 18, 19, 20, 21, 22, 23, 24] (rn_V (As := [.int (xs 1), .int (xs 2)]) (rest := []) (b := o) (x_catches l D Y Z H.size o b (xs 1) (xs 2)) ⟨hx, hb, hml, hown, hg⟩ lk_L_82 ⟨CP.blind, va_recv hKN.1 hP (ci := 10) (q0 := 0) rfl rfl, CP.at (hP.sub [0, 1] rfl) hKN (hD.sub [0, 1] (by decide) rfl)⟩ ⟨⟨rfl, rfl⟩, ⟨Nat.le_of_ble_eq_true rfl, Nat.le_of_ble_eq_true rfl⟩, ⟨Nat.le_of_ble_eq_true rfl, Nat.le_of_ble_eq_true rfl⟩⟩ hl.1 rfl (Nat.le_of_ble_eq_true rfl) dL_law_887) hP hD hS hA rfl rfl (by decide) (by decide) (fun u3 H locs w4 hP hD hS => ?_)
  refine W.eq (g2 := F0 m 890 ls [.int (-1)]) rfl ?_
  have hP : va_P D vwCl (((b 16), .inl (Y 7, 12, .inr (.inr (.inr (.inr (fun _ => none)))))) :: ((b 17), .inl (Y 8, 40, .inr (.inr (.inr (.inr (fun _ => none)))))) :: ((b 18), .inl (Y 0, 12, .inl (fun _ => 0))) :: ((b 19), .inl (Y 0, 12, .inl (fun _ => 0))) :: ((b 20), .inl (Y 0, 8, .inl (fun _ => 0))) :: ((b 21), .inl (Y 0, 8, .inl (fun _ => 0))) :: ((b 22), .inl (Y 2, 400, .inl (fun _ => 0))) :: ((b 1), .inl (Y 4, 4, .inr (.inr (.inr (.inr (fun _ => none)))))) :: ((b 5), .inr (3, (paF Z b))) :: ((b 24), .inr (8, (txF b))) :: (o2, .inr (11, (moF a))) :: ((a 0), .inl (Y 0, 7533, .inl tolF)) :: ((a 2), .inl (Y 2, 400, .inl (fun _ => 0))) :: ((a 3), .inl (Y 0, 3, .inl (fun _ => 0))) :: ((a 5), .inl (Y 0, 18, .inl (fun _ => 0))) :: ((a 7), .inl (Y 0, 18, .inl (fun _ => 0))) :: ((a 8), .inl (Y 0, 18, .inl (fun _ => 0))) :: ((a 9), .inl (Y 0, 18, .inl (fun _ => 0))) :: ((a 11), .inl (Y 0, 18, .inl (fun _ => 0))) :: ((a 13), .inl (Y 0, 18, .inl (fun _ => 0))) :: ((a 14), .inl (Y 0, 18, .inl (fun _ => 0))) :: ((a 26), .inl (Y 0, 30132, .inl (fun _ => 0))) :: ((a 27), .inl (Y 3, 4, .inl (fun _ => 0))) :: []) H := hP
  have hD : va_D A (((b 16), .inl (Y 7, 12, .inr (.inr (.inr (.inr (fun _ => none)))))) :: ((b 17), .inl (Y 8, 40, .inr (.inr (.inr (.inr (fun _ => none)))))) :: ((b 18), .inl (Y 0, 12, .inl (fun _ => 0))) :: ((b 19), .inl (Y 0, 12, .inl (fun _ => 0))) :: ((b 20), .inl (Y 0, 8, .inl (fun _ => 0))) :: ((b 21), .inl (Y 0, 8, .inl (fun _ => 0))) :: ((b 22), .inl (Y 2, 400, .inl (fun _ => 0))) :: ((b 1), .inl (Y 4, 4, .inr (.inr (.inr (.inr (fun _ => none)))))) :: ((b 5), .inr (3, (paF Z b))) :: ((b 24), .inr (8, (txF b))) :: (o2, .inr (11, (moF a))) :: ((a 0), .inl (Y 0, 7533, .inl tolF)) :: ((a 2), .inl (Y 2, 400, .inl (fun _ => 0))) :: ((a 3), .inl (Y 0, 3, .inl (fun _ => 0))) :: ((a 5), .inl (Y 0, 18, .inl (fun _ => 0))) :: ((a 7), .inl (Y 0, 18, .inl (fun _ => 0))) :: ((a 8), .inl (Y 0, 18, .inl (fun _ => 0))) :: ((a 9), .inl (Y 0, 18, .inl (fun _ => 0))) :: ((a 11), .inl (Y 0, 18, .inl (fun _ => 0))) :: ((a 13), .inl (Y 0, 18, .inl (fun _ => 0))) :: ((a 14), .inl (Y 0, 18, .inl (fun _ => 0))) :: ((a 26), .inl (Y 0, 30132, .inl (fun _ => 0))) :: ((a 27), .inl (Y 3, 4, .inl (fun _ => 0))) :: []) := hD
  refine lv_aload_n hx hb dL_law_890 rfl (lv_at hl 1 rfl) ?_
  refine lv_aload_n hx hb dL_law_891 rfl (lv_at hl 3 rfl) ?_
  refine lv_iload_n hx hb dL_law_892 rfl (lv_at hl 0 rfl) ?_
  refine lv_iconst (v := 1) hx hb dL_law_893 (by decide) ?_
  refine lv_iadd hx hb dL_law_894 ?_
  refine lv_topi (fun z5 ez5 => ?_)
  obtain rfl : z5 = 1 := ez5.trans (by decide)
  refine va_sld hx hb hX hbl hbA hS (show ¬ ((1 : Int32) < 0 ∨ 7 ≤ (1 : Int32).toNatClampNeg) by decide) dL_law_895 ?_
  refine W.eq (g2 := F0 m 896 ls [.int (xs 1), .ref o2, .int (-1)]) rfl ?_
  refine lv_aload_n hx hb dL_law_896 rfl (lv_at hl 3 rfl) ?_
  refine lv_iload_n hx hb dL_law_897 rfl (lv_at hl 0 rfl) ?_
  refine lv_iconst (v := 2) hx hb dL_law_898 (by decide) ?_
  refine lv_iadd hx hb dL_law_899 ?_
  refine lv_topi (fun z6 ez6 => ?_)
  obtain rfl : z6 = 2 := ez6.trans (by decide)
  refine va_sld hx hb hX hbl hbA hS (show ¬ ((2 : Int32) < 0 ∨ 7 ≤ (2 : Int32).toNatClampNeg) by decide) dL_law_900 ?_
  refine W.eq (g2 := F0 m 901 ls [.int (xs 2), .int (xs 1), .ref o2, .int (-1)]) rfl ?_
  refine cg (wc := [(o2, .inr (11, (moF a))), ((a 3), .inl (Y 0, 3, .inl (fun _ => 0)))]) (wr := (((b 16), .inl (Y 7, 12, .inr (.inr (.inr (.inr (fun _ => none)))))) :: ((b 17), .inl (Y 8, 40, .inr (.inr (.inr (.inr (fun _ => none)))))) :: ((b 18), .inl (Y 0, 12, .inl (fun _ => 0))) :: ((b 19), .inl (Y 0, 12, .inl (fun _ => 0))) :: ((b 20), .inl (Y 0, 8, .inl (fun _ => 0))) :: ((b 21), .inl (Y 0, 8, .inl (fun _ => 0))) :: ((b 22), .inl (Y 2, 400, .inl (fun _ => 0))) :: ((b 1), .inl (Y 4, 4, .inr (.inr (.inr (.inr (fun _ => none)))))) :: ((b 5), .inr (3, (paF Z b))) :: ((b 24), .inr (8, (txF b))) :: ((a 0), .inl (Y 0, 7533, .inl tolF)) :: ((a 2), .inl (Y 2, 400, .inl (fun _ => 0))) :: ((a 5), .inl (Y 0, 18, .inl (fun _ => 0))) :: ((a 7), .inl (Y 0, 18, .inl (fun _ => 0))) :: ((a 8), .inl (Y 0, 18, .inl (fun _ => 0))) :: ((a 9), .inl (Y 0, 18, .inl (fun _ => 0))) :: ((a 11), .inl (Y 0, 18, .inl (fun _ => 0))) :: ((a 13), .inl (Y 0, 18, .inl (fun _ => 0))) :: ((a 14), .inl (Y 0, 18, .inl (fun _ => 0))) :: ((a 26), .inl (Y 0, 30132, .inl (fun _ => 0))) :: ((a 27), .inl (Y 3, 4, .inl (fun _ => 0))) :: [])) [10, 13] [0, 1, 2, 3, 4, 5, 6, 7, 8, 9, 11, 12, 14, 15, 16, 17, 18, 19, 20, 21, 22] (rn_V (As := [.int (xs 1), .int (xs 2)]) (rest := [.int (-1)]) (b := o2) (y_catches l D Y Z H.size o2 a (xs 1) (xs 2)) ⟨hx, hb, hml, hown, hg⟩ lk_L_85 ⟨CP.blind, va_recv hKN.1 hP (ci := 11) (q0 := 10) rfl rfl, CP.at (hP.sub [10, 13] rfl) hKN (hD.sub [10, 13] (by decide) rfl)⟩ ⟨⟨rfl, rfl⟩, ⟨Nat.le_of_ble_eq_true rfl, Nat.le_of_ble_eq_true rfl⟩, ⟨Nat.le_of_ble_eq_true rfl, Nat.le_of_ble_eq_true rfl⟩⟩ hl.1 rfl (Nat.le_of_ble_eq_true rfl) dL_law_901) hP hD hS hA rfl rfl (by decide) (by decide) (fun u7 H locs w8 hP hD hS => ?_)
  refine W.eq (g2 := F0 m 904 ls [.int (-1), .int (-1)]) rfl ?_
  have hP : va_P D vwCl (((b 16), .inl (Y 7, 12, .inr (.inr (.inr (.inr (fun _ => none)))))) :: ((b 17), .inl (Y 8, 40, .inr (.inr (.inr (.inr (fun _ => none)))))) :: ((b 18), .inl (Y 0, 12, .inl (fun _ => 0))) :: ((b 19), .inl (Y 0, 12, .inl (fun _ => 0))) :: ((b 20), .inl (Y 0, 8, .inl (fun _ => 0))) :: ((b 21), .inl (Y 0, 8, .inl (fun _ => 0))) :: ((b 22), .inl (Y 2, 400, .inl (fun _ => 0))) :: ((b 1), .inl (Y 4, 4, .inr (.inr (.inr (.inr (fun _ => none)))))) :: ((b 5), .inr (3, (paF Z b))) :: ((b 24), .inr (8, (txF b))) :: ((a 0), .inl (Y 0, 7533, .inl tolF)) :: ((a 2), .inl (Y 2, 400, .inl (fun _ => 0))) :: ((a 5), .inl (Y 0, 18, .inl (fun _ => 0))) :: ((a 7), .inl (Y 0, 18, .inl (fun _ => 0))) :: ((a 8), .inl (Y 0, 18, .inl (fun _ => 0))) :: ((a 9), .inl (Y 0, 18, .inl (fun _ => 0))) :: ((a 11), .inl (Y 0, 18, .inl (fun _ => 0))) :: ((a 13), .inl (Y 0, 18, .inl (fun _ => 0))) :: ((a 14), .inl (Y 0, 18, .inl (fun _ => 0))) :: ((a 26), .inl (Y 0, 30132, .inl (fun _ => 0))) :: ((a 27), .inl (Y 3, 4, .inl (fun _ => 0))) :: []) H := hP
  have hD : va_D A (((b 16), .inl (Y 7, 12, .inr (.inr (.inr (.inr (fun _ => none)))))) :: ((b 17), .inl (Y 8, 40, .inr (.inr (.inr (.inr (fun _ => none)))))) :: ((b 18), .inl (Y 0, 12, .inl (fun _ => 0))) :: ((b 19), .inl (Y 0, 12, .inl (fun _ => 0))) :: ((b 20), .inl (Y 0, 8, .inl (fun _ => 0))) :: ((b 21), .inl (Y 0, 8, .inl (fun _ => 0))) :: ((b 22), .inl (Y 2, 400, .inl (fun _ => 0))) :: ((b 1), .inl (Y 4, 4, .inr (.inr (.inr (.inr (fun _ => none)))))) :: ((b 5), .inr (3, (paF Z b))) :: ((b 24), .inr (8, (txF b))) :: ((a 0), .inl (Y 0, 7533, .inl tolF)) :: ((a 2), .inl (Y 2, 400, .inl (fun _ => 0))) :: ((a 5), .inl (Y 0, 18, .inl (fun _ => 0))) :: ((a 7), .inl (Y 0, 18, .inl (fun _ => 0))) :: ((a 8), .inl (Y 0, 18, .inl (fun _ => 0))) :: ((a 9), .inl (Y 0, 18, .inl (fun _ => 0))) :: ((a 11), .inl (Y 0, 18, .inl (fun _ => 0))) :: ((a 13), .inl (Y 0, 18, .inl (fun _ => 0))) :: ((a 14), .inl (Y 0, 18, .inl (fun _ => 0))) :: ((a 26), .inl (Y 0, 30132, .inl (fun _ => 0))) :: ((a 27), .inl (Y 3, 4, .inl (fun _ => 0))) :: []) := hD
  refine lv_icmp_eq (tgt := 1885) hx hb dL_law_904 (by decide) (fun c9 => ?_) (fun c9 => ?_)
  rotate_left
  · exact absurd c9 (by decide)
  exact lw_tail C0 hA2 (Nat.le_of_ble_eq_true rfl) (Nat.le_of_ble_eq_true rfl) hS (lv_sub hl [0, 3] rfl)
set_option maxHeartbeats 4000000 in
set_option maxRecDepth 100000 in
theorem lc_16 {p : Program} {l : Launch} {e : Env} {s : State} {m : MethodId} {below : List Frame} {meth : Method} {c : Code} {sb : Nat} {xs : Nat → Int32} (C0 : lw_At p s m meth c sb 7 xs) {D : va_G} {Y : Nat → ClassId} {Z : Nat → Nat} (hKN : KN D Y Z s) {A : Nat → Prop} (hA : ∀ q, s.heap.size ≤ q → A q) (hA2 : ∀ q, A q → s.heap.size ≤ q) {o o2 : Nat} {b a : Nat → Nat} {H : Heap} {locs : List Loc} {ls : Array Slot} (hP : va_P D vwCl (LW Y Z o o2 b a) H) (hD : va_D A (LW Y Z o o2 b a)) (hS : va_S A s.heap H locs) (hl : lv_has ls 4 [(3, .int 0), (2, .ref o2), (1, .ref o), (0, .ref sb)]) : W p l e room_1 s m #[Value.ref sb] below meth c H locs 70 52824 (lw_Z below #[Value.ref sb] s) (F0 m 909 ls []) := by
  obtain ⟨hx, hb, hr, hml, hown, hts, hX, hbl, hlocks, hgv⟩ := id C0
  have hb : c.code = cL_law := hb
  have hown : s.vm.findClass RL = some m.cls := hown
  have hg : ∀ w ∈ GW, w.before #[Value.ref sb] s = true := fun w h => hts w (gw_tbl h)
  have hbA : ¬ A sb := fun h => absurd (hA2 sb h) (Nat.not_le.mpr hbl)
  refine lv_aload_n hx hb dL_law_909 rfl (lv_at hl 2 rfl) ?_
  refine lv_aload_n hx hb dL_law_910 rfl (lv_at hl 3 rfl) ?_
  refine lv_iload_n hx hb dL_law_911 rfl (lv_at hl 0 rfl) ?_
  refine lv_iconst (v := 1) hx hb dL_law_912 (by decide) ?_
  refine lv_iadd hx hb dL_law_913 ?_
  refine lv_topi (fun z1 ez1 => ?_)
  obtain rfl : z1 = 1 := ez1.trans (by decide)
  refine va_sld hx hb hX hbl hbA hS (show ¬ ((1 : Int32) < 0 ∨ 7 ≤ (1 : Int32).toNatClampNeg) by decide) dL_law_914 ?_
  refine W.eq (g2 := F0 m 915 ls [.int (xs 1), .ref o]) rfl ?_
  refine lv_aload_n hx hb dL_law_915 rfl (lv_at hl 3 rfl) ?_
  refine lv_iload_n hx hb dL_law_916 rfl (lv_at hl 0 rfl) ?_
  refine lv_iconst (v := 2) hx hb dL_law_917 (by decide) ?_
  refine lv_iadd hx hb dL_law_918 ?_
  refine lv_topi (fun z2 ez2 => ?_)
  obtain rfl : z2 = 2 := ez2.trans (by decide)
  refine va_sld hx hb hX hbl hbA hS (show ¬ ((2 : Int32) < 0 ∨ 7 ≤ (2 : Int32).toNatClampNeg) by decide) dL_law_919 ?_
  refine W.eq (g2 := F0 m 920 ls [.int (xs 2), .int (xs 1), .ref o]) rfl ?_
  refine cg (wc := [(o, .inr (10, (dsF b)))]) (wr := (((b 0), .inr (6, (skF b))) :: ((b 16), .inl (Y 7, 12, .inr (.inr (.inr (.inr (fun _ => none)))))) :: ((b 17), .inl (Y 8, 40, .inr (.inr (.inr (.inr (fun _ => none)))))) :: ((b 18), .inl (Y 0, 12, .inl (fun _ => 0))) :: ((b 19), .inl (Y 0, 12, .inl (fun _ => 0))) :: ((b 20), .inl (Y 0, 8, .inl (fun _ => 0))) :: ((b 21), .inl (Y 0, 8, .inl (fun _ => 0))) :: ((b 22), .inl (Y 2, 400, .inl (fun _ => 0))) :: ((b 1), .inl (Y 4, 4, .inr (.inr (.inr (.inr (fun _ => none)))))) :: ((b 5), .inr (3, (paF Z b))) :: ((b 24), .inr (8, (txF b))) :: (o2, .inr (11, (moF a))) :: ((a 0), .inl (Y 0, 7533, .inl tolF)) :: ((a 2), .inl (Y 2, 400, .inl (fun _ => 0))) :: ((a 3), .inl (Y 0, 3, .inl (fun _ => 0))) :: ((a 5), .inl (Y 0, 18, .inl (fun _ => 0))) :: ((a 7), .inl (Y 0, 18, .inl (fun _ => 0))) :: ((a 8), .inl (Y 0, 18, .inl (fun _ => 0))) :: ((a 9), .inl (Y 0, 18, .inl (fun _ => 0))) :: ((a 11), .inl (Y 0, 18, .inl (fun _ => 0))) :: ((a 13), .inl (Y 0, 18, .inl (fun _ => 0))) :: ((a 14), .inl (Y 0, 18, .inl (fun _ => 0))) :: ((a 26), .inl (Y 0, 30132, .inl (fun _ => 0))) :: ((a 27), .inl (Y 3, 4, .inl (fun _ => 0))) :: [])) [0] [1, 2, 3, 4, 5, 6, 7, 8, 9, 10, 11, 12, 13, 14, 15, 16, 17, 18, 19, 20, 21, 22, 23, 24] (rn_V (As := [.int (xs 1), .int (xs 2)]) (rest := []) (b := o) (x_share l D Y Z H.size o b (xs 1) (xs 2)) ⟨hx, hb, hml, hown, hg⟩ lk_L_86 ⟨CP.blind, va_recv hKN.1 hP (ci := 10) (q0 := 0) rfl rfl, CP.at (hP.sub [0] rfl) hKN (hD.sub [0] (by decide) rfl)⟩ ⟨⟨rfl, rfl⟩, ⟨Nat.le_of_ble_eq_true rfl, Nat.le_of_ble_eq_true rfl⟩, ⟨Nat.le_of_ble_eq_true rfl, Nat.le_of_ble_eq_true rfl⟩⟩ hl.1 rfl (Nat.le_of_ble_eq_true rfl) dL_law_920) hP hD hS hA rfl rfl (by decide) (by decide) (fun u3 H locs w4 hP hD hS => ?_)
  refine W.eq (g2 := F0 m 923 ls [.int (-1)]) rfl ?_
  have hP : va_P D vwCl (((b 0), .inr (6, (skF b))) :: ((b 16), .inl (Y 7, 12, .inr (.inr (.inr (.inr (fun _ => none)))))) :: ((b 17), .inl (Y 8, 40, .inr (.inr (.inr (.inr (fun _ => none)))))) :: ((b 18), .inl (Y 0, 12, .inl (fun _ => 0))) :: ((b 19), .inl (Y 0, 12, .inl (fun _ => 0))) :: ((b 20), .inl (Y 0, 8, .inl (fun _ => 0))) :: ((b 21), .inl (Y 0, 8, .inl (fun _ => 0))) :: ((b 22), .inl (Y 2, 400, .inl (fun _ => 0))) :: ((b 1), .inl (Y 4, 4, .inr (.inr (.inr (.inr (fun _ => none)))))) :: ((b 5), .inr (3, (paF Z b))) :: ((b 24), .inr (8, (txF b))) :: (o2, .inr (11, (moF a))) :: ((a 0), .inl (Y 0, 7533, .inl tolF)) :: ((a 2), .inl (Y 2, 400, .inl (fun _ => 0))) :: ((a 3), .inl (Y 0, 3, .inl (fun _ => 0))) :: ((a 5), .inl (Y 0, 18, .inl (fun _ => 0))) :: ((a 7), .inl (Y 0, 18, .inl (fun _ => 0))) :: ((a 8), .inl (Y 0, 18, .inl (fun _ => 0))) :: ((a 9), .inl (Y 0, 18, .inl (fun _ => 0))) :: ((a 11), .inl (Y 0, 18, .inl (fun _ => 0))) :: ((a 13), .inl (Y 0, 18, .inl (fun _ => 0))) :: ((a 14), .inl (Y 0, 18, .inl (fun _ => 0))) :: ((a 26), .inl (Y 0, 30132, .inl (fun _ => 0))) :: ((a 27), .inl (Y 3, 4, .inl (fun _ => 0))) :: []) H := hP
  have hD : va_D A (((b 0), .inr (6, (skF b))) :: ((b 16), .inl (Y 7, 12, .inr (.inr (.inr (.inr (fun _ => none)))))) :: ((b 17), .inl (Y 8, 40, .inr (.inr (.inr (.inr (fun _ => none)))))) :: ((b 18), .inl (Y 0, 12, .inl (fun _ => 0))) :: ((b 19), .inl (Y 0, 12, .inl (fun _ => 0))) :: ((b 20), .inl (Y 0, 8, .inl (fun _ => 0))) :: ((b 21), .inl (Y 0, 8, .inl (fun _ => 0))) :: ((b 22), .inl (Y 2, 400, .inl (fun _ => 0))) :: ((b 1), .inl (Y 4, 4, .inr (.inr (.inr (.inr (fun _ => none)))))) :: ((b 5), .inr (3, (paF Z b))) :: ((b 24), .inr (8, (txF b))) :: (o2, .inr (11, (moF a))) :: ((a 0), .inl (Y 0, 7533, .inl tolF)) :: ((a 2), .inl (Y 2, 400, .inl (fun _ => 0))) :: ((a 3), .inl (Y 0, 3, .inl (fun _ => 0))) :: ((a 5), .inl (Y 0, 18, .inl (fun _ => 0))) :: ((a 7), .inl (Y 0, 18, .inl (fun _ => 0))) :: ((a 8), .inl (Y 0, 18, .inl (fun _ => 0))) :: ((a 9), .inl (Y 0, 18, .inl (fun _ => 0))) :: ((a 11), .inl (Y 0, 18, .inl (fun _ => 0))) :: ((a 13), .inl (Y 0, 18, .inl (fun _ => 0))) :: ((a 14), .inl (Y 0, 18, .inl (fun _ => 0))) :: ((a 26), .inl (Y 0, 30132, .inl (fun _ => 0))) :: ((a 27), .inl (Y 3, 4, .inl (fun _ => 0))) :: []) := hD
  refine lv_aload_n hx hb dL_law_923 rfl (lv_at hl 1 rfl) ?_
  refine lv_aload_n hx hb dL_law_924 rfl (lv_at hl 3 rfl) ?_
  refine lv_iload_n hx hb dL_law_925 rfl (lv_at hl 0 rfl) ?_
  refine lv_iconst (v := 1) hx hb dL_law_926 (by decide) ?_
  refine lv_iadd hx hb dL_law_927 ?_
  refine lv_topi (fun z5 ez5 => ?_)
  obtain rfl : z5 = 1 := ez5.trans (by decide)
  refine va_sld hx hb hX hbl hbA hS (show ¬ ((1 : Int32) < 0 ∨ 7 ≤ (1 : Int32).toNatClampNeg) by decide) dL_law_928 ?_
  refine W.eq (g2 := F0 m 929 ls [.int (xs 1), .ref o2, .int (-1)]) rfl ?_
  refine lv_aload_n hx hb dL_law_929 rfl (lv_at hl 3 rfl) ?_
  refine lv_iload_n hx hb dL_law_930 rfl (lv_at hl 0 rfl) ?_
  refine lv_iconst (v := 2) hx hb dL_law_931 (by decide) ?_
  refine lv_iadd hx hb dL_law_932 ?_
  refine lv_topi (fun z6 ez6 => ?_)
  obtain rfl : z6 = 2 := ez6.trans (by decide)
  refine va_sld hx hb hX hbl hbA hS (show ¬ ((2 : Int32) < 0 ∨ 7 ≤ (2 : Int32).toNatClampNeg) by decide) dL_law_933 ?_
  refine W.eq (g2 := F0 m 934 ls [.int (xs 2), .int (xs 1), .ref o2, .int (-1)]) rfl ?_
  refine cg (wc := [(o2, .inr (11, (moF a))), ((a 3), .inl (Y 0, 3, .inl (fun _ => 0)))]) (wr := (((b 0), .inr (6, (skF b))) :: ((b 16), .inl (Y 7, 12, .inr (.inr (.inr (.inr (fun _ => none)))))) :: ((b 17), .inl (Y 8, 40, .inr (.inr (.inr (.inr (fun _ => none)))))) :: ((b 18), .inl (Y 0, 12, .inl (fun _ => 0))) :: ((b 19), .inl (Y 0, 12, .inl (fun _ => 0))) :: ((b 20), .inl (Y 0, 8, .inl (fun _ => 0))) :: ((b 21), .inl (Y 0, 8, .inl (fun _ => 0))) :: ((b 22), .inl (Y 2, 400, .inl (fun _ => 0))) :: ((b 1), .inl (Y 4, 4, .inr (.inr (.inr (.inr (fun _ => none)))))) :: ((b 5), .inr (3, (paF Z b))) :: ((b 24), .inr (8, (txF b))) :: ((a 0), .inl (Y 0, 7533, .inl tolF)) :: ((a 2), .inl (Y 2, 400, .inl (fun _ => 0))) :: ((a 5), .inl (Y 0, 18, .inl (fun _ => 0))) :: ((a 7), .inl (Y 0, 18, .inl (fun _ => 0))) :: ((a 8), .inl (Y 0, 18, .inl (fun _ => 0))) :: ((a 9), .inl (Y 0, 18, .inl (fun _ => 0))) :: ((a 11), .inl (Y 0, 18, .inl (fun _ => 0))) :: ((a 13), .inl (Y 0, 18, .inl (fun _ => 0))) :: ((a 14), .inl (Y 0, 18, .inl (fun _ => 0))) :: ((a 26), .inl (Y 0, 30132, .inl (fun _ => 0))) :: ((a 27), .inl (Y 3, 4, .inl (fun _ => 0))) :: [])) [11, 14] [0, 1, 2, 3, 4, 5, 6, 7, 8, 9, 10, 12, 13, 15, 16, 17, 18, 19, 20, 21, 22, 23] (rn_V (As := [.int (xs 1), .int (xs 2)]) (rest := [.int (-1)]) (b := o2) (y_share l D Y Z H.size o2 a (xs 1) (xs 2)) ⟨hx, hb, hml, hown, hg⟩ lk_L_89 ⟨CP.blind, va_recv hKN.1 hP (ci := 11) (q0 := 11) rfl rfl, CP.at (hP.sub [11, 14] rfl) hKN (hD.sub [11, 14] (by decide) rfl)⟩ ⟨⟨rfl, rfl⟩, ⟨Nat.le_of_ble_eq_true rfl, Nat.le_of_ble_eq_true rfl⟩, ⟨Nat.le_of_ble_eq_true rfl, Nat.le_of_ble_eq_true rfl⟩⟩ hl.1 rfl (Nat.le_of_ble_eq_true rfl) dL_law_934) hP hD hS hA rfl rfl (by decide) (by decide) (fun u7 H locs w8 hP hD hS => ?_)
  refine W.eq (g2 := F0 m 937 ls [.int (-1), .int (-1)]) rfl ?_
  have hP : va_P D vwCl (((b 0), .inr (6, (skF b))) :: ((b 16), .inl (Y 7, 12, .inr (.inr (.inr (.inr (fun _ => none)))))) :: ((b 17), .inl (Y 8, 40, .inr (.inr (.inr (.inr (fun _ => none)))))) :: ((b 18), .inl (Y 0, 12, .inl (fun _ => 0))) :: ((b 19), .inl (Y 0, 12, .inl (fun _ => 0))) :: ((b 20), .inl (Y 0, 8, .inl (fun _ => 0))) :: ((b 21), .inl (Y 0, 8, .inl (fun _ => 0))) :: ((b 22), .inl (Y 2, 400, .inl (fun _ => 0))) :: ((b 1), .inl (Y 4, 4, .inr (.inr (.inr (.inr (fun _ => none)))))) :: ((b 5), .inr (3, (paF Z b))) :: ((b 24), .inr (8, (txF b))) :: ((a 0), .inl (Y 0, 7533, .inl tolF)) :: ((a 2), .inl (Y 2, 400, .inl (fun _ => 0))) :: ((a 5), .inl (Y 0, 18, .inl (fun _ => 0))) :: ((a 7), .inl (Y 0, 18, .inl (fun _ => 0))) :: ((a 8), .inl (Y 0, 18, .inl (fun _ => 0))) :: ((a 9), .inl (Y 0, 18, .inl (fun _ => 0))) :: ((a 11), .inl (Y 0, 18, .inl (fun _ => 0))) :: ((a 13), .inl (Y 0, 18, .inl (fun _ => 0))) :: ((a 14), .inl (Y 0, 18, .inl (fun _ => 0))) :: ((a 26), .inl (Y 0, 30132, .inl (fun _ => 0))) :: ((a 27), .inl (Y 3, 4, .inl (fun _ => 0))) :: []) H := hP
  have hD : va_D A (((b 0), .inr (6, (skF b))) :: ((b 16), .inl (Y 7, 12, .inr (.inr (.inr (.inr (fun _ => none)))))) :: ((b 17), .inl (Y 8, 40, .inr (.inr (.inr (.inr (fun _ => none)))))) :: ((b 18), .inl (Y 0, 12, .inl (fun _ => 0))) :: ((b 19), .inl (Y 0, 12, .inl (fun _ => 0))) :: ((b 20), .inl (Y 0, 8, .inl (fun _ => 0))) :: ((b 21), .inl (Y 0, 8, .inl (fun _ => 0))) :: ((b 22), .inl (Y 2, 400, .inl (fun _ => 0))) :: ((b 1), .inl (Y 4, 4, .inr (.inr (.inr (.inr (fun _ => none)))))) :: ((b 5), .inr (3, (paF Z b))) :: ((b 24), .inr (8, (txF b))) :: ((a 0), .inl (Y 0, 7533, .inl tolF)) :: ((a 2), .inl (Y 2, 400, .inl (fun _ => 0))) :: ((a 5), .inl (Y 0, 18, .inl (fun _ => 0))) :: ((a 7), .inl (Y 0, 18, .inl (fun _ => 0))) :: ((a 8), .inl (Y 0, 18, .inl (fun _ => 0))) :: ((a 9), .inl (Y 0, 18, .inl (fun _ => 0))) :: ((a 11), .inl (Y 0, 18, .inl (fun _ => 0))) :: ((a 13), .inl (Y 0, 18, .inl (fun _ => 0))) :: ((a 14), .inl (Y 0, 18, .inl (fun _ => 0))) :: ((a 26), .inl (Y 0, 30132, .inl (fun _ => 0))) :: ((a 27), .inl (Y 3, 4, .inl (fun _ => 0))) :: []) := hD
  refine lv_icmp_eq (tgt := 1885) hx hb dL_law_937 (by decide) (fun c9 => ?_) (fun c9 => ?_)
  rotate_left
  · exact absurd c9 (by decide)
  exact lw_tail C0 hA2 (Nat.le_of_ble_eq_true rfl) (Nat.le_of_ble_eq_true rfl) hS (lv_sub hl [0, 3] rfl)
set_option maxHeartbeats 4000000 in
set_option maxRecDepth 100000 in
theorem lc_17 {p : Program} {l : Launch} {e : Env} {s : State} {m : MethodId} {below : List Frame} {meth : Method} {c : Code} {sb : Nat} {xs : Nat → Int32} (C0 : lw_At p s m meth c sb 7 xs) {D : va_G} {Y : Nat → ClassId} {Z : Nat → Nat} (hKN : KN D Y Z s) {A : Nat → Prop} (hA : ∀ q, s.heap.size ≤ q → A q) (hA2 : ∀ q, A q → s.heap.size ≤ q) {o o2 : Nat} {b a : Nat → Nat} {H : Heap} {locs : List Loc} {ls : Array Slot} (hP : va_P D vwCl (LW Y Z o o2 b a) H) (hD : va_D A (LW Y Z o o2 b a)) (hS : va_S A s.heap H locs) (hl : lv_has ls 4 [(3, .int 0), (2, .ref o2), (1, .ref o), (0, .ref sb)]) : W p l e room_1 s m #[Value.ref sb] below meth c H locs 70 52824 (lw_Z below #[Value.ref sb] s) (F0 m 942 ls []) := by
  obtain ⟨hx, hb, hr, hml, hown, hts, hX, hbl, hlocks, hgv⟩ := id C0
  have hb : c.code = cL_law := hb
  have hown : s.vm.findClass RL = some m.cls := hown
  have hg : ∀ w ∈ GW, w.before #[Value.ref sb] s = true := fun w h => hts w (gw_tbl h)
  have hbA : ¬ A sb := fun h => absurd (hA2 sb h) (Nat.not_le.mpr hbl)
  refine lv_aload_n hx hb dL_law_942 rfl (lv_at hl 2 rfl) ?_
  refine lv_aload_n hx hb dL_law_943 rfl (lv_at hl 3 rfl) ?_
  refine lv_iload_n hx hb dL_law_944 rfl (lv_at hl 0 rfl) ?_
  refine lv_iconst (v := 1) hx hb dL_law_945 (by decide) ?_
  refine lv_iadd hx hb dL_law_946 ?_
  refine lv_topi (fun z1 ez1 => ?_)
  obtain rfl : z1 = 1 := ez1.trans (by decide)
  refine va_sld hx hb hX hbl hbA hS (show ¬ ((1 : Int32) < 0 ∨ 7 ≤ (1 : Int32).toNatClampNeg) by decide) dL_law_947 ?_
  refine W.eq (g2 := F0 m 948 ls [.int (xs 1), .ref o]) rfl ?_
  refine lv_aload_n hx hb dL_law_948 rfl (lv_at hl 3 rfl) ?_
  refine lv_iload_n hx hb dL_law_949 rfl (lv_at hl 0 rfl) ?_
  refine lv_iconst (v := 2) hx hb dL_law_950 (by decide) ?_
  refine lv_iadd hx hb dL_law_951 ?_
  refine lv_topi (fun z2 ez2 => ?_)
  obtain rfl : z2 = 2 := ez2.trans (by decide)
  refine va_sld hx hb hX hbl hbA hS (show ¬ ((2 : Int32) < 0 ∨ 7 ≤ (2 : Int32).toNatClampNeg) by decide) dL_law_952 ?_
  refine W.eq (g2 := F0 m 953 ls [.int (xs 2), .int (xs 1), .ref o]) rfl ?_
  refine lv_aload_n hx hb dL_law_953 rfl (lv_at hl 3 rfl) ?_
  refine lv_iload_n hx hb dL_law_954 rfl (lv_at hl 0 rfl) ?_
  refine lv_iconst (v := 3) hx hb dL_law_955 (by decide) ?_
  refine lv_iadd hx hb dL_law_956 ?_
  refine lv_topi (fun z3 ez3 => ?_)
  obtain rfl : z3 = 3 := ez3.trans (by decide)
  refine va_sld hx hb hX hbl hbA hS (show ¬ ((3 : Int32) < 0 ∨ 7 ≤ (3 : Int32).toNatClampNeg) by decide) dL_law_957 ?_
  refine W.eq (g2 := F0 m 958 ls [.int (xs 3), .int (xs 2), .int (xs 1), .ref o]) rfl ?_
  refine cg (wc := [(o, .inr (10, (dsF b)))]) (wr := (((b 0), .inr (6, (skF b))) :: ((b 16), .inl (Y 7, 12, .inr (.inr (.inr (.inr (fun _ => none)))))) :: ((b 17), .inl (Y 8, 40, .inr (.inr (.inr (.inr (fun _ => none)))))) :: ((b 18), .inl (Y 0, 12, .inl (fun _ => 0))) :: ((b 19), .inl (Y 0, 12, .inl (fun _ => 0))) :: ((b 20), .inl (Y 0, 8, .inl (fun _ => 0))) :: ((b 21), .inl (Y 0, 8, .inl (fun _ => 0))) :: ((b 22), .inl (Y 2, 400, .inl (fun _ => 0))) :: ((b 1), .inl (Y 4, 4, .inr (.inr (.inr (.inr (fun _ => none)))))) :: ((b 5), .inr (3, (paF Z b))) :: ((b 24), .inr (8, (txF b))) :: (o2, .inr (11, (moF a))) :: ((a 0), .inl (Y 0, 7533, .inl tolF)) :: ((a 2), .inl (Y 2, 400, .inl (fun _ => 0))) :: ((a 3), .inl (Y 0, 3, .inl (fun _ => 0))) :: ((a 5), .inl (Y 0, 18, .inl (fun _ => 0))) :: ((a 7), .inl (Y 0, 18, .inl (fun _ => 0))) :: ((a 8), .inl (Y 0, 18, .inl (fun _ => 0))) :: ((a 9), .inl (Y 0, 18, .inl (fun _ => 0))) :: ((a 11), .inl (Y 0, 18, .inl (fun _ => 0))) :: ((a 13), .inl (Y 0, 18, .inl (fun _ => 0))) :: ((a 14), .inl (Y 0, 18, .inl (fun _ => 0))) :: ((a 26), .inl (Y 0, 30132, .inl (fun _ => 0))) :: ((a 27), .inl (Y 3, 4, .inl (fun _ => 0))) :: [])) [0] [1, 2, 3, 4, 5, 6, 7, 8, 9, 10, 11, 12, 13, 14, 15, 16, 17, 18, 19, 20, 21, 22, 23, 24] (rn_V (As := [.int (xs 1), .int (xs 2), .int (xs 3)]) (rest := []) (b := o) (x_chance l D Y Z H.size o b (xs 1) (xs 2) (xs 3)) ⟨hx, hb, hml, hown, hg⟩ lk_L_90 ⟨CP.blind, va_recv hKN.1 hP (ci := 10) (q0 := 0) rfl rfl, CP.at (hP.sub [0] rfl) hKN (hD.sub [0] (by decide) rfl)⟩ ⟨⟨rfl, rfl⟩, ⟨Nat.le_of_ble_eq_true rfl, Nat.le_of_ble_eq_true rfl⟩, ⟨Nat.le_of_ble_eq_true rfl, Nat.le_of_ble_eq_true rfl⟩⟩ hl.1 rfl (Nat.le_of_ble_eq_true rfl) dL_law_958) hP hD hS hA rfl rfl (by decide) (by decide) (fun u4 H locs w5 hP hD hS => ?_)
  refine W.eq (g2 := F0 m 961 ls [.int (-1)]) rfl ?_
  have hP : va_P D vwCl (((b 0), .inr (6, (skF b))) :: ((b 16), .inl (Y 7, 12, .inr (.inr (.inr (.inr (fun _ => none)))))) :: ((b 17), .inl (Y 8, 40, .inr (.inr (.inr (.inr (fun _ => none)))))) :: ((b 18), .inl (Y 0, 12, .inl (fun _ => 0))) :: ((b 19), .inl (Y 0, 12, .inl (fun _ => 0))) :: ((b 20), .inl (Y 0, 8, .inl (fun _ => 0))) :: ((b 21), .inl (Y 0, 8, .inl (fun _ => 0))) :: ((b 22), .inl (Y 2, 400, .inl (fun _ => 0))) :: ((b 1), .inl (Y 4, 4, .inr (.inr (.inr (.inr (fun _ => none)))))) :: ((b 5), .inr (3, (paF Z b))) :: ((b 24), .inr (8, (txF b))) :: (o2, .inr (11, (moF a))) :: ((a 0), .inl (Y 0, 7533, .inl tolF)) :: ((a 2), .inl (Y 2, 400, .inl (fun _ => 0))) :: ((a 3), .inl (Y 0, 3, .inl (fun _ => 0))) :: ((a 5), .inl (Y 0, 18, .inl (fun _ => 0))) :: ((a 7), .inl (Y 0, 18, .inl (fun _ => 0))) :: ((a 8), .inl (Y 0, 18, .inl (fun _ => 0))) :: ((a 9), .inl (Y 0, 18, .inl (fun _ => 0))) :: ((a 11), .inl (Y 0, 18, .inl (fun _ => 0))) :: ((a 13), .inl (Y 0, 18, .inl (fun _ => 0))) :: ((a 14), .inl (Y 0, 18, .inl (fun _ => 0))) :: ((a 26), .inl (Y 0, 30132, .inl (fun _ => 0))) :: ((a 27), .inl (Y 3, 4, .inl (fun _ => 0))) :: []) H := hP
  have hD : va_D A (((b 0), .inr (6, (skF b))) :: ((b 16), .inl (Y 7, 12, .inr (.inr (.inr (.inr (fun _ => none)))))) :: ((b 17), .inl (Y 8, 40, .inr (.inr (.inr (.inr (fun _ => none)))))) :: ((b 18), .inl (Y 0, 12, .inl (fun _ => 0))) :: ((b 19), .inl (Y 0, 12, .inl (fun _ => 0))) :: ((b 20), .inl (Y 0, 8, .inl (fun _ => 0))) :: ((b 21), .inl (Y 0, 8, .inl (fun _ => 0))) :: ((b 22), .inl (Y 2, 400, .inl (fun _ => 0))) :: ((b 1), .inl (Y 4, 4, .inr (.inr (.inr (.inr (fun _ => none)))))) :: ((b 5), .inr (3, (paF Z b))) :: ((b 24), .inr (8, (txF b))) :: (o2, .inr (11, (moF a))) :: ((a 0), .inl (Y 0, 7533, .inl tolF)) :: ((a 2), .inl (Y 2, 400, .inl (fun _ => 0))) :: ((a 3), .inl (Y 0, 3, .inl (fun _ => 0))) :: ((a 5), .inl (Y 0, 18, .inl (fun _ => 0))) :: ((a 7), .inl (Y 0, 18, .inl (fun _ => 0))) :: ((a 8), .inl (Y 0, 18, .inl (fun _ => 0))) :: ((a 9), .inl (Y 0, 18, .inl (fun _ => 0))) :: ((a 11), .inl (Y 0, 18, .inl (fun _ => 0))) :: ((a 13), .inl (Y 0, 18, .inl (fun _ => 0))) :: ((a 14), .inl (Y 0, 18, .inl (fun _ => 0))) :: ((a 26), .inl (Y 0, 30132, .inl (fun _ => 0))) :: ((a 27), .inl (Y 3, 4, .inl (fun _ => 0))) :: []) := hD
  refine lv_aload_n hx hb dL_law_961 rfl (lv_at hl 1 rfl) ?_
  refine lv_aload_n hx hb dL_law_962 rfl (lv_at hl 3 rfl) ?_
  refine lv_iload_n hx hb dL_law_963 rfl (lv_at hl 0 rfl) ?_
  refine lv_iconst (v := 1) hx hb dL_law_964 (by decide) ?_
  refine lv_iadd hx hb dL_law_965 ?_
  refine lv_topi (fun z6 ez6 => ?_)
  obtain rfl : z6 = 1 := ez6.trans (by decide)
  refine va_sld hx hb hX hbl hbA hS (show ¬ ((1 : Int32) < 0 ∨ 7 ≤ (1 : Int32).toNatClampNeg) by decide) dL_law_966 ?_
  refine W.eq (g2 := F0 m 967 ls [.int (xs 1), .ref o2, .int (-1)]) rfl ?_
  refine lv_aload_n hx hb dL_law_967 rfl (lv_at hl 3 rfl) ?_
  refine lv_iload_n hx hb dL_law_968 rfl (lv_at hl 0 rfl) ?_
  refine lv_iconst (v := 2) hx hb dL_law_969 (by decide) ?_
  refine lv_iadd hx hb dL_law_970 ?_
  refine lv_topi (fun z7 ez7 => ?_)
  obtain rfl : z7 = 2 := ez7.trans (by decide)
  refine va_sld hx hb hX hbl hbA hS (show ¬ ((2 : Int32) < 0 ∨ 7 ≤ (2 : Int32).toNatClampNeg) by decide) dL_law_971 ?_
  refine W.eq (g2 := F0 m 972 ls [.int (xs 2), .int (xs 1), .ref o2, .int (-1)]) rfl ?_
  refine lv_aload_n hx hb dL_law_972 rfl (lv_at hl 3 rfl) ?_
  refine lv_iload_n hx hb dL_law_973 rfl (lv_at hl 0 rfl) ?_
  refine lv_iconst (v := 3) hx hb dL_law_974 (by decide) ?_
  refine lv_iadd hx hb dL_law_975 ?_
  refine lv_topi (fun z8 ez8 => ?_)
  obtain rfl : z8 = 3 := ez8.trans (by decide)
  refine va_sld hx hb hX hbl hbA hS (show ¬ ((3 : Int32) < 0 ∨ 7 ≤ (3 : Int32).toNatClampNeg) by decide) dL_law_976 ?_
  refine W.eq (g2 := F0 m 977 ls [.int (xs 3), .int (xs 2), .int (xs 1), .ref o2, .int (-1)]) rfl ?_
  refine cg (wc := [(o2, .inr (11, (moF a))), ((a 3), .inl (Y 0, 3, .inl (fun _ => 0)))]) (wr := (((b 0), .inr (6, (skF b))) :: ((b 16), .inl (Y 7, 12, .inr (.inr (.inr (.inr (fun _ => none)))))) :: ((b 17), .inl (Y 8, 40, .inr (.inr (.inr (.inr (fun _ => none)))))) :: ((b 18), .inl (Y 0, 12, .inl (fun _ => 0))) :: ((b 19), .inl (Y 0, 12, .inl (fun _ => 0))) :: ((b 20), .inl (Y 0, 8, .inl (fun _ => 0))) :: ((b 21), .inl (Y 0, 8, .inl (fun _ => 0))) :: ((b 22), .inl (Y 2, 400, .inl (fun _ => 0))) :: ((b 1), .inl (Y 4, 4, .inr (.inr (.inr (.inr (fun _ => none)))))) :: ((b 5), .inr (3, (paF Z b))) :: ((b 24), .inr (8, (txF b))) :: ((a 0), .inl (Y 0, 7533, .inl tolF)) :: ((a 2), .inl (Y 2, 400, .inl (fun _ => 0))) :: ((a 5), .inl (Y 0, 18, .inl (fun _ => 0))) :: ((a 7), .inl (Y 0, 18, .inl (fun _ => 0))) :: ((a 8), .inl (Y 0, 18, .inl (fun _ => 0))) :: ((a 9), .inl (Y 0, 18, .inl (fun _ => 0))) :: ((a 11), .inl (Y 0, 18, .inl (fun _ => 0))) :: ((a 13), .inl (Y 0, 18, .inl (fun _ => 0))) :: ((a 14), .inl (Y 0, 18, .inl (fun _ => 0))) :: ((a 26), .inl (Y 0, 30132, .inl (fun _ => 0))) :: ((a 27), .inl (Y 3, 4, .inl (fun _ => 0))) :: [])) [11, 14] [0, 1, 2, 3, 4, 5, 6, 7, 8, 9, 10, 12, 13, 15, 16, 17, 18, 19, 20, 21, 22, 23] (rn_V (As := [.int (xs 1), .int (xs 2), .int (xs 3)]) (rest := [.int (-1)]) (b := o2) (y_chance l D Y Z H.size o2 a (xs 1) (xs 2) (xs 3)) ⟨hx, hb, hml, hown, hg⟩ lk_L_93 ⟨CP.blind, va_recv hKN.1 hP (ci := 11) (q0 := 11) rfl rfl, CP.at (hP.sub [11, 14] rfl) hKN (hD.sub [11, 14] (by decide) rfl)⟩ ⟨⟨rfl, rfl⟩, ⟨Nat.le_of_ble_eq_true rfl, Nat.le_of_ble_eq_true rfl⟩, ⟨Nat.le_of_ble_eq_true rfl, Nat.le_of_ble_eq_true rfl⟩⟩ hl.1 rfl (Nat.le_of_ble_eq_true rfl) dL_law_977) hP hD hS hA rfl rfl (by decide) (by decide) (fun u9 H locs w10 hP hD hS => ?_)
  refine W.eq (g2 := F0 m 980 ls [.int (-1), .int (-1)]) rfl ?_
  have hP : va_P D vwCl (((b 0), .inr (6, (skF b))) :: ((b 16), .inl (Y 7, 12, .inr (.inr (.inr (.inr (fun _ => none)))))) :: ((b 17), .inl (Y 8, 40, .inr (.inr (.inr (.inr (fun _ => none)))))) :: ((b 18), .inl (Y 0, 12, .inl (fun _ => 0))) :: ((b 19), .inl (Y 0, 12, .inl (fun _ => 0))) :: ((b 20), .inl (Y 0, 8, .inl (fun _ => 0))) :: ((b 21), .inl (Y 0, 8, .inl (fun _ => 0))) :: ((b 22), .inl (Y 2, 400, .inl (fun _ => 0))) :: ((b 1), .inl (Y 4, 4, .inr (.inr (.inr (.inr (fun _ => none)))))) :: ((b 5), .inr (3, (paF Z b))) :: ((b 24), .inr (8, (txF b))) :: ((a 0), .inl (Y 0, 7533, .inl tolF)) :: ((a 2), .inl (Y 2, 400, .inl (fun _ => 0))) :: ((a 5), .inl (Y 0, 18, .inl (fun _ => 0))) :: ((a 7), .inl (Y 0, 18, .inl (fun _ => 0))) :: ((a 8), .inl (Y 0, 18, .inl (fun _ => 0))) :: ((a 9), .inl (Y 0, 18, .inl (fun _ => 0))) :: ((a 11), .inl (Y 0, 18, .inl (fun _ => 0))) :: ((a 13), .inl (Y 0, 18, .inl (fun _ => 0))) :: ((a 14), .inl (Y 0, 18, .inl (fun _ => 0))) :: ((a 26), .inl (Y 0, 30132, .inl (fun _ => 0))) :: ((a 27), .inl (Y 3, 4, .inl (fun _ => 0))) :: []) H := hP
  have hD : va_D A (((b 0), .inr (6, (skF b))) :: ((b 16), .inl (Y 7, 12, .inr (.inr (.inr (.inr (fun _ => none)))))) :: ((b 17), .inl (Y 8, 40, .inr (.inr (.inr (.inr (fun _ => none)))))) :: ((b 18), .inl (Y 0, 12, .inl (fun _ => 0))) :: ((b 19), .inl (Y 0, 12, .inl (fun _ => 0))) :: ((b 20), .inl (Y 0, 8, .inl (fun _ => 0))) :: ((b 21), .inl (Y 0, 8, .inl (fun _ => 0))) :: ((b 22), .inl (Y 2, 400, .inl (fun _ => 0))) :: ((b 1), .inl (Y 4, 4, .inr (.inr (.inr (.inr (fun _ => none)))))) :: ((b 5), .inr (3, (paF Z b))) :: ((b 24), .inr (8, (txF b))) :: ((a 0), .inl (Y 0, 7533, .inl tolF)) :: ((a 2), .inl (Y 2, 400, .inl (fun _ => 0))) :: ((a 5), .inl (Y 0, 18, .inl (fun _ => 0))) :: ((a 7), .inl (Y 0, 18, .inl (fun _ => 0))) :: ((a 8), .inl (Y 0, 18, .inl (fun _ => 0))) :: ((a 9), .inl (Y 0, 18, .inl (fun _ => 0))) :: ((a 11), .inl (Y 0, 18, .inl (fun _ => 0))) :: ((a 13), .inl (Y 0, 18, .inl (fun _ => 0))) :: ((a 14), .inl (Y 0, 18, .inl (fun _ => 0))) :: ((a 26), .inl (Y 0, 30132, .inl (fun _ => 0))) :: ((a 27), .inl (Y 3, 4, .inl (fun _ => 0))) :: []) := hD
  refine lv_icmp_eq (tgt := 1885) hx hb dL_law_980 (by decide) (fun c11 => ?_) (fun c11 => ?_)
  rotate_left
  · exact absurd c11 (by decide)
  exact lw_tail C0 hA2 (Nat.le_of_ble_eq_true rfl) (Nat.le_of_ble_eq_true rfl) hS (lv_sub hl [0, 3] rfl)
set_option maxHeartbeats 4000000 in
set_option maxRecDepth 100000 in
theorem lc_18 {p : Program} {l : Launch} {e : Env} {s : State} {m : MethodId} {below : List Frame} {meth : Method} {c : Code} {sb : Nat} {xs : Nat → Int32} (C0 : lw_At p s m meth c sb 7 xs) {D : va_G} {Y : Nat → ClassId} {Z : Nat → Nat} (hKN : KN D Y Z s) {A : Nat → Prop} (hA : ∀ q, s.heap.size ≤ q → A q) (hA2 : ∀ q, A q → s.heap.size ≤ q) {o o2 : Nat} {b a : Nat → Nat} {H : Heap} {locs : List Loc} {ls : Array Slot} (hP : va_P D vwCl (LW Y Z o o2 b a) H) (hD : va_D A (LW Y Z o o2 b a)) (hS : va_S A s.heap H locs) (hl : lv_has ls 4 [(3, .int 0), (2, .ref o2), (1, .ref o), (0, .ref sb)]) : W p l e room_1 s m #[Value.ref sb] below meth c H locs 70 52824 (lw_Z below #[Value.ref sb] s) (F0 m 985 ls []) := by
  obtain ⟨hx, hb, hr, hml, hown, hts, hX, hbl, hlocks, hgv⟩ := id C0
  have hb : c.code = cL_law := hb
  have hown : s.vm.findClass RL = some m.cls := hown
  have hg : ∀ w ∈ GW, w.before #[Value.ref sb] s = true := fun w h => hts w (gw_tbl h)
  have hbA : ¬ A sb := fun h => absurd (hA2 sb h) (Nat.not_le.mpr hbl)
  refine lv_aload_n hx hb dL_law_985 rfl (lv_at hl 2 rfl) ?_
  refine lv_aload_n hx hb dL_law_986 rfl (lv_at hl 3 rfl) ?_
  refine lv_iload_n hx hb dL_law_987 rfl (lv_at hl 0 rfl) ?_
  refine lv_iconst (v := 1) hx hb dL_law_988 (by decide) ?_
  refine lv_iadd hx hb dL_law_989 ?_
  refine lv_topi (fun z1 ez1 => ?_)
  obtain rfl : z1 = 1 := ez1.trans (by decide)
  refine va_sld hx hb hX hbl hbA hS (show ¬ ((1 : Int32) < 0 ∨ 7 ≤ (1 : Int32).toNatClampNeg) by decide) dL_law_990 ?_
  refine W.eq (g2 := F0 m 991 ls [.int (xs 1), .ref o]) rfl ?_
  refine lv_aload_n hx hb dL_law_991 rfl (lv_at hl 3 rfl) ?_
  refine lv_iload_n hx hb dL_law_992 rfl (lv_at hl 0 rfl) ?_
  refine lv_iconst (v := 2) hx hb dL_law_993 (by decide) ?_
  refine lv_iadd hx hb dL_law_994 ?_
  refine lv_topi (fun z2 ez2 => ?_)
  obtain rfl : z2 = 2 := ez2.trans (by decide)
  refine va_sld hx hb hX hbl hbA hS (show ¬ ((2 : Int32) < 0 ∨ 7 ≤ (2 : Int32).toNatClampNeg) by decide) dL_law_995 ?_
  refine W.eq (g2 := F0 m 996 ls [.int (xs 2), .int (xs 1), .ref o]) rfl ?_
  refine lv_aload_n hx hb dL_law_996 rfl (lv_at hl 3 rfl) ?_
  refine lv_iload_n hx hb dL_law_997 rfl (lv_at hl 0 rfl) ?_
  refine lv_iconst (v := 3) hx hb dL_law_998 (by decide) ?_
  refine lv_iadd hx hb dL_law_999 ?_
  refine lv_topi (fun z3 ez3 => ?_)
  obtain rfl : z3 = 3 := ez3.trans (by decide)
  refine va_sld hx hb hX hbl hbA hS (show ¬ ((3 : Int32) < 0 ∨ 7 ≤ (3 : Int32).toNatClampNeg) by decide) dL_law_1000 ?_
  refine W.eq (g2 := F0 m 1001 ls [.int (xs 3), .int (xs 2), .int (xs 1), .ref o]) rfl ?_
  refine lv_aload_n hx hb dL_law_1001 rfl (lv_at hl 3 rfl) ?_
  refine lv_iload_n hx hb dL_law_1002 rfl (lv_at hl 0 rfl) ?_
  refine lv_iconst (v := 4) hx hb dL_law_1003 (by decide) ?_
  refine lv_iadd hx hb dL_law_1004 ?_
  refine lv_topi (fun z4 ez4 => ?_)
  obtain rfl : z4 = 4 := ez4.trans (by decide)
  refine va_sld hx hb hX hbl hbA hS (show ¬ ((4 : Int32) < 0 ∨ 7 ≤ (4 : Int32).toNatClampNeg) by decide) dL_law_1005 ?_
  refine W.eq (g2 := F0 m 1006 ls [.int (xs 4), .int (xs 3), .int (xs 2), .int (xs 1), .ref o]) rfl ?_
  refine lv_aload_n hx hb dL_law_1006 rfl (lv_at hl 3 rfl) ?_
  refine lv_iload_n hx hb dL_law_1007 rfl (lv_at hl 0 rfl) ?_
  refine lv_iconst (v := 5) hx hb dL_law_1008 (by decide) ?_
  refine lv_iadd hx hb dL_law_1009 ?_
  refine lv_topi (fun z5 ez5 => ?_)
  obtain rfl : z5 = 5 := ez5.trans (by decide)
  refine va_sld hx hb hX hbl hbA hS (show ¬ ((5 : Int32) < 0 ∨ 7 ≤ (5 : Int32).toNatClampNeg) by decide) dL_law_1010 ?_
  refine W.eq (g2 := F0 m 1011 ls [.int (xs 5), .int (xs 4), .int (xs 3), .int (xs 2), .int (xs 1), .ref o]) rfl ?_
  refine cg (wc := [(o, .inr (10, (dsF b)))]) (wr := (((b 0), .inr (6, (skF b))) :: ((b 16), .inl (Y 7, 12, .inr (.inr (.inr (.inr (fun _ => none)))))) :: ((b 17), .inl (Y 8, 40, .inr (.inr (.inr (.inr (fun _ => none)))))) :: ((b 18), .inl (Y 0, 12, .inl (fun _ => 0))) :: ((b 19), .inl (Y 0, 12, .inl (fun _ => 0))) :: ((b 20), .inl (Y 0, 8, .inl (fun _ => 0))) :: ((b 21), .inl (Y 0, 8, .inl (fun _ => 0))) :: ((b 22), .inl (Y 2, 400, .inl (fun _ => 0))) :: ((b 1), .inl (Y 4, 4, .inr (.inr (.inr (.inr (fun _ => none)))))) :: ((b 5), .inr (3, (paF Z b))) :: ((b 24), .inr (8, (txF b))) :: (o2, .inr (11, (moF a))) :: ((a 0), .inl (Y 0, 7533, .inl tolF)) :: ((a 2), .inl (Y 2, 400, .inl (fun _ => 0))) :: ((a 3), .inl (Y 0, 3, .inl (fun _ => 0))) :: ((a 5), .inl (Y 0, 18, .inl (fun _ => 0))) :: ((a 7), .inl (Y 0, 18, .inl (fun _ => 0))) :: ((a 8), .inl (Y 0, 18, .inl (fun _ => 0))) :: ((a 9), .inl (Y 0, 18, .inl (fun _ => 0))) :: ((a 11), .inl (Y 0, 18, .inl (fun _ => 0))) :: ((a 13), .inl (Y 0, 18, .inl (fun _ => 0))) :: ((a 14), .inl (Y 0, 18, .inl (fun _ => 0))) :: ((a 26), .inl (Y 0, 30132, .inl (fun _ => 0))) :: ((a 27), .inl (Y 3, 4, .inl (fun _ => 0))) :: [])) [0] [1, 2, 3, 4, 5, 6, 7, 8, 9, 10, 11, 12, 13, 14, 15, 16, 17, 18, 19, 20, 21, 22, 23, 24] (rn_V (As := [.int (xs 1), .int (xs 2), .int (xs 3), .int (xs 4), .int (xs 5)]) (rest := []) (b := o) (x_line l D Y Z H.size o b (xs 1) (xs 2) (xs 3) (xs 4) (xs 5)) ⟨hx, hb, hml, hown, hg⟩ lk_L_94 ⟨CP.blind, va_recv hKN.1 hP (ci := 10) (q0 := 0) rfl rfl, CP.at (hP.sub [0] rfl) hKN (hD.sub [0] (by decide) rfl)⟩ ⟨⟨rfl, rfl⟩, ⟨Nat.le_of_ble_eq_true rfl, Nat.le_of_ble_eq_true rfl⟩, ⟨Nat.le_of_ble_eq_true rfl, Nat.le_of_ble_eq_true rfl⟩⟩ hl.1 rfl (Nat.le_of_ble_eq_true rfl) dL_law_1011) hP hD hS hA rfl rfl (by decide) (by decide) (fun u6 H locs w7 hP hD hS => ?_)
  refine W.eq (g2 := F0 m 1014 ls [.int (-1)]) rfl ?_
  have hP : va_P D vwCl (((b 0), .inr (6, (skF b))) :: ((b 16), .inl (Y 7, 12, .inr (.inr (.inr (.inr (fun _ => none)))))) :: ((b 17), .inl (Y 8, 40, .inr (.inr (.inr (.inr (fun _ => none)))))) :: ((b 18), .inl (Y 0, 12, .inl (fun _ => 0))) :: ((b 19), .inl (Y 0, 12, .inl (fun _ => 0))) :: ((b 20), .inl (Y 0, 8, .inl (fun _ => 0))) :: ((b 21), .inl (Y 0, 8, .inl (fun _ => 0))) :: ((b 22), .inl (Y 2, 400, .inl (fun _ => 0))) :: ((b 1), .inl (Y 4, 4, .inr (.inr (.inr (.inr (fun _ => none)))))) :: ((b 5), .inr (3, (paF Z b))) :: ((b 24), .inr (8, (txF b))) :: (o2, .inr (11, (moF a))) :: ((a 0), .inl (Y 0, 7533, .inl tolF)) :: ((a 2), .inl (Y 2, 400, .inl (fun _ => 0))) :: ((a 3), .inl (Y 0, 3, .inl (fun _ => 0))) :: ((a 5), .inl (Y 0, 18, .inl (fun _ => 0))) :: ((a 7), .inl (Y 0, 18, .inl (fun _ => 0))) :: ((a 8), .inl (Y 0, 18, .inl (fun _ => 0))) :: ((a 9), .inl (Y 0, 18, .inl (fun _ => 0))) :: ((a 11), .inl (Y 0, 18, .inl (fun _ => 0))) :: ((a 13), .inl (Y 0, 18, .inl (fun _ => 0))) :: ((a 14), .inl (Y 0, 18, .inl (fun _ => 0))) :: ((a 26), .inl (Y 0, 30132, .inl (fun _ => 0))) :: ((a 27), .inl (Y 3, 4, .inl (fun _ => 0))) :: []) H := hP
  have hD : va_D A (((b 0), .inr (6, (skF b))) :: ((b 16), .inl (Y 7, 12, .inr (.inr (.inr (.inr (fun _ => none)))))) :: ((b 17), .inl (Y 8, 40, .inr (.inr (.inr (.inr (fun _ => none)))))) :: ((b 18), .inl (Y 0, 12, .inl (fun _ => 0))) :: ((b 19), .inl (Y 0, 12, .inl (fun _ => 0))) :: ((b 20), .inl (Y 0, 8, .inl (fun _ => 0))) :: ((b 21), .inl (Y 0, 8, .inl (fun _ => 0))) :: ((b 22), .inl (Y 2, 400, .inl (fun _ => 0))) :: ((b 1), .inl (Y 4, 4, .inr (.inr (.inr (.inr (fun _ => none)))))) :: ((b 5), .inr (3, (paF Z b))) :: ((b 24), .inr (8, (txF b))) :: (o2, .inr (11, (moF a))) :: ((a 0), .inl (Y 0, 7533, .inl tolF)) :: ((a 2), .inl (Y 2, 400, .inl (fun _ => 0))) :: ((a 3), .inl (Y 0, 3, .inl (fun _ => 0))) :: ((a 5), .inl (Y 0, 18, .inl (fun _ => 0))) :: ((a 7), .inl (Y 0, 18, .inl (fun _ => 0))) :: ((a 8), .inl (Y 0, 18, .inl (fun _ => 0))) :: ((a 9), .inl (Y 0, 18, .inl (fun _ => 0))) :: ((a 11), .inl (Y 0, 18, .inl (fun _ => 0))) :: ((a 13), .inl (Y 0, 18, .inl (fun _ => 0))) :: ((a 14), .inl (Y 0, 18, .inl (fun _ => 0))) :: ((a 26), .inl (Y 0, 30132, .inl (fun _ => 0))) :: ((a 27), .inl (Y 3, 4, .inl (fun _ => 0))) :: []) := hD
  refine lv_aload_n hx hb dL_law_1014 rfl (lv_at hl 1 rfl) ?_
  refine lv_aload_n hx hb dL_law_1015 rfl (lv_at hl 3 rfl) ?_
  refine lv_iload_n hx hb dL_law_1016 rfl (lv_at hl 0 rfl) ?_
  refine lv_iconst (v := 1) hx hb dL_law_1017 (by decide) ?_
  refine lv_iadd hx hb dL_law_1018 ?_
  refine lv_topi (fun z8 ez8 => ?_)
  obtain rfl : z8 = 1 := ez8.trans (by decide)
  refine va_sld hx hb hX hbl hbA hS (show ¬ ((1 : Int32) < 0 ∨ 7 ≤ (1 : Int32).toNatClampNeg) by decide) dL_law_1019 ?_
  refine W.eq (g2 := F0 m 1020 ls [.int (xs 1), .ref o2, .int (-1)]) rfl ?_
  refine lv_aload_n hx hb dL_law_1020 rfl (lv_at hl 3 rfl) ?_
  refine lv_iload_n hx hb dL_law_1021 rfl (lv_at hl 0 rfl) ?_
  refine lv_iconst (v := 2) hx hb dL_law_1022 (by decide) ?_
  refine lv_iadd hx hb dL_law_1023 ?_
  refine lv_topi (fun z9 ez9 => ?_)
  obtain rfl : z9 = 2 := ez9.trans (by decide)
  refine va_sld hx hb hX hbl hbA hS (show ¬ ((2 : Int32) < 0 ∨ 7 ≤ (2 : Int32).toNatClampNeg) by decide) dL_law_1024 ?_
  refine W.eq (g2 := F0 m 1025 ls [.int (xs 2), .int (xs 1), .ref o2, .int (-1)]) rfl ?_
  refine lv_aload_n hx hb dL_law_1025 rfl (lv_at hl 3 rfl) ?_
  refine lv_iload_n hx hb dL_law_1026 rfl (lv_at hl 0 rfl) ?_
  refine lv_iconst (v := 3) hx hb dL_law_1027 (by decide) ?_
  refine lv_iadd hx hb dL_law_1028 ?_
  refine lv_topi (fun z10 ez10 => ?_)
  obtain rfl : z10 = 3 := ez10.trans (by decide)
  refine va_sld hx hb hX hbl hbA hS (show ¬ ((3 : Int32) < 0 ∨ 7 ≤ (3 : Int32).toNatClampNeg) by decide) dL_law_1029 ?_
  refine W.eq (g2 := F0 m 1030 ls [.int (xs 3), .int (xs 2), .int (xs 1), .ref o2, .int (-1)]) rfl ?_
  refine lv_aload_n hx hb dL_law_1030 rfl (lv_at hl 3 rfl) ?_
  refine lv_iload_n hx hb dL_law_1031 rfl (lv_at hl 0 rfl) ?_
  refine lv_iconst (v := 4) hx hb dL_law_1032 (by decide) ?_
  refine lv_iadd hx hb dL_law_1033 ?_
  refine lv_topi (fun z11 ez11 => ?_)
  obtain rfl : z11 = 4 := ez11.trans (by decide)
  refine va_sld hx hb hX hbl hbA hS (show ¬ ((4 : Int32) < 0 ∨ 7 ≤ (4 : Int32).toNatClampNeg) by decide) dL_law_1034 ?_
  refine W.eq (g2 := F0 m 1035 ls [.int (xs 4), .int (xs 3), .int (xs 2), .int (xs 1), .ref o2, .int (-1)]) rfl ?_
  refine lv_aload_n hx hb dL_law_1035 rfl (lv_at hl 3 rfl) ?_
  refine lv_iload_n hx hb dL_law_1036 rfl (lv_at hl 0 rfl) ?_
  refine lv_iconst (v := 5) hx hb dL_law_1037 (by decide) ?_
  refine lv_iadd hx hb dL_law_1038 ?_
  refine lv_topi (fun z12 ez12 => ?_)
  obtain rfl : z12 = 5 := ez12.trans (by decide)
  refine va_sld hx hb hX hbl hbA hS (show ¬ ((5 : Int32) < 0 ∨ 7 ≤ (5 : Int32).toNatClampNeg) by decide) dL_law_1039 ?_
  refine W.eq (g2 := F0 m 1040 ls [.int (xs 5), .int (xs 4), .int (xs 3), .int (xs 2), .int (xs 1), .ref o2, .int (-1)]) rfl ?_
  refine cg (wc := [(o2, .inr (11, (moF a))), ((a 3), .inl (Y 0, 3, .inl (fun _ => 0)))]) (wr := (((b 0), .inr (6, (skF b))) :: ((b 16), .inl (Y 7, 12, .inr (.inr (.inr (.inr (fun _ => none)))))) :: ((b 17), .inl (Y 8, 40, .inr (.inr (.inr (.inr (fun _ => none)))))) :: ((b 18), .inl (Y 0, 12, .inl (fun _ => 0))) :: ((b 19), .inl (Y 0, 12, .inl (fun _ => 0))) :: ((b 20), .inl (Y 0, 8, .inl (fun _ => 0))) :: ((b 21), .inl (Y 0, 8, .inl (fun _ => 0))) :: ((b 22), .inl (Y 2, 400, .inl (fun _ => 0))) :: ((b 1), .inl (Y 4, 4, .inr (.inr (.inr (.inr (fun _ => none)))))) :: ((b 5), .inr (3, (paF Z b))) :: ((b 24), .inr (8, (txF b))) :: ((a 0), .inl (Y 0, 7533, .inl tolF)) :: ((a 2), .inl (Y 2, 400, .inl (fun _ => 0))) :: ((a 5), .inl (Y 0, 18, .inl (fun _ => 0))) :: ((a 7), .inl (Y 0, 18, .inl (fun _ => 0))) :: ((a 8), .inl (Y 0, 18, .inl (fun _ => 0))) :: ((a 9), .inl (Y 0, 18, .inl (fun _ => 0))) :: ((a 11), .inl (Y 0, 18, .inl (fun _ => 0))) :: ((a 13), .inl (Y 0, 18, .inl (fun _ => 0))) :: ((a 14), .inl (Y 0, 18, .inl (fun _ => 0))) :: ((a 26), .inl (Y 0, 30132, .inl (fun _ => 0))) :: ((a 27), .inl (Y 3, 4, .inl (fun _ => 0))) :: [])) [11, 14] [0, 1, 2, 3, 4, 5, 6, 7, 8, 9, 10, 12, 13, 15, 16, 17, 18, 19, 20, 21, 22, 23] (rn_V (As := [.int (xs 1), .int (xs 2), .int (xs 3), .int (xs 4), .int (xs 5)]) (rest := [.int (-1)]) (b := o2) (y_line l D Y Z H.size o2 a (xs 1) (xs 2) (xs 3) (xs 4) (xs 5)) ⟨hx, hb, hml, hown, hg⟩ lk_L_97 ⟨CP.blind, va_recv hKN.1 hP (ci := 11) (q0 := 11) rfl rfl, CP.at (hP.sub [11, 14] rfl) hKN (hD.sub [11, 14] (by decide) rfl)⟩ ⟨⟨rfl, rfl⟩, ⟨Nat.le_of_ble_eq_true rfl, Nat.le_of_ble_eq_true rfl⟩, ⟨Nat.le_of_ble_eq_true rfl, Nat.le_of_ble_eq_true rfl⟩⟩ hl.1 rfl (Nat.le_of_ble_eq_true rfl) dL_law_1040) hP hD hS hA rfl rfl (by decide) (by decide) (fun u13 H locs w14 hP hD hS => ?_)
  refine W.eq (g2 := F0 m 1043 ls [.int (-1), .int (-1)]) rfl ?_
  have hP : va_P D vwCl (((b 0), .inr (6, (skF b))) :: ((b 16), .inl (Y 7, 12, .inr (.inr (.inr (.inr (fun _ => none)))))) :: ((b 17), .inl (Y 8, 40, .inr (.inr (.inr (.inr (fun _ => none)))))) :: ((b 18), .inl (Y 0, 12, .inl (fun _ => 0))) :: ((b 19), .inl (Y 0, 12, .inl (fun _ => 0))) :: ((b 20), .inl (Y 0, 8, .inl (fun _ => 0))) :: ((b 21), .inl (Y 0, 8, .inl (fun _ => 0))) :: ((b 22), .inl (Y 2, 400, .inl (fun _ => 0))) :: ((b 1), .inl (Y 4, 4, .inr (.inr (.inr (.inr (fun _ => none)))))) :: ((b 5), .inr (3, (paF Z b))) :: ((b 24), .inr (8, (txF b))) :: ((a 0), .inl (Y 0, 7533, .inl tolF)) :: ((a 2), .inl (Y 2, 400, .inl (fun _ => 0))) :: ((a 5), .inl (Y 0, 18, .inl (fun _ => 0))) :: ((a 7), .inl (Y 0, 18, .inl (fun _ => 0))) :: ((a 8), .inl (Y 0, 18, .inl (fun _ => 0))) :: ((a 9), .inl (Y 0, 18, .inl (fun _ => 0))) :: ((a 11), .inl (Y 0, 18, .inl (fun _ => 0))) :: ((a 13), .inl (Y 0, 18, .inl (fun _ => 0))) :: ((a 14), .inl (Y 0, 18, .inl (fun _ => 0))) :: ((a 26), .inl (Y 0, 30132, .inl (fun _ => 0))) :: ((a 27), .inl (Y 3, 4, .inl (fun _ => 0))) :: []) H := hP
  have hD : va_D A (((b 0), .inr (6, (skF b))) :: ((b 16), .inl (Y 7, 12, .inr (.inr (.inr (.inr (fun _ => none)))))) :: ((b 17), .inl (Y 8, 40, .inr (.inr (.inr (.inr (fun _ => none)))))) :: ((b 18), .inl (Y 0, 12, .inl (fun _ => 0))) :: ((b 19), .inl (Y 0, 12, .inl (fun _ => 0))) :: ((b 20), .inl (Y 0, 8, .inl (fun _ => 0))) :: ((b 21), .inl (Y 0, 8, .inl (fun _ => 0))) :: ((b 22), .inl (Y 2, 400, .inl (fun _ => 0))) :: ((b 1), .inl (Y 4, 4, .inr (.inr (.inr (.inr (fun _ => none)))))) :: ((b 5), .inr (3, (paF Z b))) :: ((b 24), .inr (8, (txF b))) :: ((a 0), .inl (Y 0, 7533, .inl tolF)) :: ((a 2), .inl (Y 2, 400, .inl (fun _ => 0))) :: ((a 5), .inl (Y 0, 18, .inl (fun _ => 0))) :: ((a 7), .inl (Y 0, 18, .inl (fun _ => 0))) :: ((a 8), .inl (Y 0, 18, .inl (fun _ => 0))) :: ((a 9), .inl (Y 0, 18, .inl (fun _ => 0))) :: ((a 11), .inl (Y 0, 18, .inl (fun _ => 0))) :: ((a 13), .inl (Y 0, 18, .inl (fun _ => 0))) :: ((a 14), .inl (Y 0, 18, .inl (fun _ => 0))) :: ((a 26), .inl (Y 0, 30132, .inl (fun _ => 0))) :: ((a 27), .inl (Y 3, 4, .inl (fun _ => 0))) :: []) := hD
  refine lv_icmp_eq (tgt := 1885) hx hb dL_law_1043 (by decide) (fun c15 => ?_) (fun c15 => ?_)
  rotate_left
  · exact absurd c15 (by decide)
  exact lw_tail C0 hA2 (Nat.le_of_ble_eq_true rfl) (Nat.le_of_ble_eq_true rfl) hS (lv_sub hl [0, 3] rfl)
set_option maxHeartbeats 4000000 in
set_option maxRecDepth 100000 in
theorem lc_19 {p : Program} {l : Launch} {e : Env} {s : State} {m : MethodId} {below : List Frame} {meth : Method} {c : Code} {sb : Nat} {xs : Nat → Int32} (C0 : lw_At p s m meth c sb 7 xs) {D : va_G} {Y : Nat → ClassId} {Z : Nat → Nat} (hKN : KN D Y Z s) {A : Nat → Prop} (hA : ∀ q, s.heap.size ≤ q → A q) (hA2 : ∀ q, A q → s.heap.size ≤ q) {o o2 : Nat} {b a : Nat → Nat} {H : Heap} {locs : List Loc} {ls : Array Slot} (hP : va_P D vwCl (LW Y Z o o2 b a) H) (hD : va_D A (LW Y Z o o2 b a)) (hS : va_S A s.heap H locs) (hl : lv_has ls 4 [(3, .int 0), (2, .ref o2), (1, .ref o), (0, .ref sb)]) : W p l e room_1 s m #[Value.ref sb] below meth c H locs 70 52824 (lw_Z below #[Value.ref sb] s) (F0 m 1048 ls []) := by
  obtain ⟨hx, hb, hr, hml, hown, hts, hX, hbl, hlocks, hgv⟩ := id C0
  have hb : c.code = cL_law := hb
  have hown : s.vm.findClass RL = some m.cls := hown
  have hg : ∀ w ∈ GW, w.before #[Value.ref sb] s = true := fun w h => hts w (gw_tbl h)
  have hbA : ¬ A sb := fun h => absurd (hA2 sb h) (Nat.not_le.mpr hbl)
  refine lv_aload_n hx hb dL_law_1048 rfl (lv_at hl 2 rfl) ?_
  refine lv_aload_n hx hb dL_law_1049 rfl (lv_at hl 3 rfl) ?_
  refine lv_iload_n hx hb dL_law_1050 rfl (lv_at hl 0 rfl) ?_
  refine lv_iconst (v := 1) hx hb dL_law_1051 (by decide) ?_
  refine lv_iadd hx hb dL_law_1052 ?_
  refine lv_topi (fun z1 ez1 => ?_)
  obtain rfl : z1 = 1 := ez1.trans (by decide)
  refine va_sld hx hb hX hbl hbA hS (show ¬ ((1 : Int32) < 0 ∨ 7 ≤ (1 : Int32).toNatClampNeg) by decide) dL_law_1053 ?_
  refine W.eq (g2 := F0 m 1054 ls [.int (xs 1), .ref o]) rfl ?_
  refine lv_aload_n hx hb dL_law_1054 rfl (lv_at hl 3 rfl) ?_
  refine lv_iload_n hx hb dL_law_1055 rfl (lv_at hl 0 rfl) ?_
  refine lv_iconst (v := 2) hx hb dL_law_1056 (by decide) ?_
  refine lv_iadd hx hb dL_law_1057 ?_
  refine lv_topi (fun z2 ez2 => ?_)
  obtain rfl : z2 = 2 := ez2.trans (by decide)
  refine va_sld hx hb hX hbl hbA hS (show ¬ ((2 : Int32) < 0 ∨ 7 ≤ (2 : Int32).toNatClampNeg) by decide) dL_law_1058 ?_
  refine W.eq (g2 := F0 m 1059 ls [.int (xs 2), .int (xs 1), .ref o]) rfl ?_
  refine lv_aload_n hx hb dL_law_1059 rfl (lv_at hl 3 rfl) ?_
  refine lv_iload_n hx hb dL_law_1060 rfl (lv_at hl 0 rfl) ?_
  refine lv_iconst (v := 3) hx hb dL_law_1061 (by decide) ?_
  refine lv_iadd hx hb dL_law_1062 ?_
  refine lv_topi (fun z3 ez3 => ?_)
  obtain rfl : z3 = 3 := ez3.trans (by decide)
  refine va_sld hx hb hX hbl hbA hS (show ¬ ((3 : Int32) < 0 ∨ 7 ≤ (3 : Int32).toNatClampNeg) by decide) dL_law_1063 ?_
  refine W.eq (g2 := F0 m 1064 ls [.int (xs 3), .int (xs 2), .int (xs 1), .ref o]) rfl ?_
  refine cg (wc := [(o, .inr (10, (dsF b)))]) (wr := (((b 0), .inr (6, (skF b))) :: ((b 16), .inl (Y 7, 12, .inr (.inr (.inr (.inr (fun _ => none)))))) :: ((b 17), .inl (Y 8, 40, .inr (.inr (.inr (.inr (fun _ => none)))))) :: ((b 18), .inl (Y 0, 12, .inl (fun _ => 0))) :: ((b 19), .inl (Y 0, 12, .inl (fun _ => 0))) :: ((b 20), .inl (Y 0, 8, .inl (fun _ => 0))) :: ((b 21), .inl (Y 0, 8, .inl (fun _ => 0))) :: ((b 22), .inl (Y 2, 400, .inl (fun _ => 0))) :: ((b 1), .inl (Y 4, 4, .inr (.inr (.inr (.inr (fun _ => none)))))) :: ((b 5), .inr (3, (paF Z b))) :: ((b 24), .inr (8, (txF b))) :: (o2, .inr (11, (moF a))) :: ((a 0), .inl (Y 0, 7533, .inl tolF)) :: ((a 2), .inl (Y 2, 400, .inl (fun _ => 0))) :: ((a 3), .inl (Y 0, 3, .inl (fun _ => 0))) :: ((a 5), .inl (Y 0, 18, .inl (fun _ => 0))) :: ((a 7), .inl (Y 0, 18, .inl (fun _ => 0))) :: ((a 8), .inl (Y 0, 18, .inl (fun _ => 0))) :: ((a 9), .inl (Y 0, 18, .inl (fun _ => 0))) :: ((a 11), .inl (Y 0, 18, .inl (fun _ => 0))) :: ((a 13), .inl (Y 0, 18, .inl (fun _ => 0))) :: ((a 14), .inl (Y 0, 18, .inl (fun _ => 0))) :: ((a 26), .inl (Y 0, 30132, .inl (fun _ => 0))) :: ((a 27), .inl (Y 3, 4, .inl (fun _ => 0))) :: [])) [0] [1, 2, 3, 4, 5, 6, 7, 8, 9, 10, 11, 12, 13, 14, 15, 16, 17, 18, 19, 20, 21, 22, 23, 24] (rn_V (As := [.int (xs 1), .int (xs 2), .int (xs 3)]) (rest := []) (b := o) (x_sign l D Y Z H.size o b (xs 1) (xs 2) (xs 3)) ⟨hx, hb, hml, hown, hg⟩ lk_L_98 ⟨CP.blind, va_recv hKN.1 hP (ci := 10) (q0 := 0) rfl rfl, CP.at (hP.sub [0] rfl) hKN (hD.sub [0] (by decide) rfl)⟩ ⟨⟨rfl, rfl⟩, ⟨Nat.le_of_ble_eq_true rfl, Nat.le_of_ble_eq_true rfl⟩, ⟨Nat.le_of_ble_eq_true rfl, Nat.le_of_ble_eq_true rfl⟩⟩ hl.1 rfl (Nat.le_of_ble_eq_true rfl) dL_law_1064) hP hD hS hA rfl rfl (by decide) (by decide) (fun u4 H locs w5 hP hD hS => ?_)
  refine W.eq (g2 := F0 m 1067 ls [.int (-200000)]) rfl ?_
  have hP : va_P D vwCl (((b 0), .inr (6, (skF b))) :: ((b 16), .inl (Y 7, 12, .inr (.inr (.inr (.inr (fun _ => none)))))) :: ((b 17), .inl (Y 8, 40, .inr (.inr (.inr (.inr (fun _ => none)))))) :: ((b 18), .inl (Y 0, 12, .inl (fun _ => 0))) :: ((b 19), .inl (Y 0, 12, .inl (fun _ => 0))) :: ((b 20), .inl (Y 0, 8, .inl (fun _ => 0))) :: ((b 21), .inl (Y 0, 8, .inl (fun _ => 0))) :: ((b 22), .inl (Y 2, 400, .inl (fun _ => 0))) :: ((b 1), .inl (Y 4, 4, .inr (.inr (.inr (.inr (fun _ => none)))))) :: ((b 5), .inr (3, (paF Z b))) :: ((b 24), .inr (8, (txF b))) :: (o2, .inr (11, (moF a))) :: ((a 0), .inl (Y 0, 7533, .inl tolF)) :: ((a 2), .inl (Y 2, 400, .inl (fun _ => 0))) :: ((a 3), .inl (Y 0, 3, .inl (fun _ => 0))) :: ((a 5), .inl (Y 0, 18, .inl (fun _ => 0))) :: ((a 7), .inl (Y 0, 18, .inl (fun _ => 0))) :: ((a 8), .inl (Y 0, 18, .inl (fun _ => 0))) :: ((a 9), .inl (Y 0, 18, .inl (fun _ => 0))) :: ((a 11), .inl (Y 0, 18, .inl (fun _ => 0))) :: ((a 13), .inl (Y 0, 18, .inl (fun _ => 0))) :: ((a 14), .inl (Y 0, 18, .inl (fun _ => 0))) :: ((a 26), .inl (Y 0, 30132, .inl (fun _ => 0))) :: ((a 27), .inl (Y 3, 4, .inl (fun _ => 0))) :: []) H := hP
  have hD : va_D A (((b 0), .inr (6, (skF b))) :: ((b 16), .inl (Y 7, 12, .inr (.inr (.inr (.inr (fun _ => none)))))) :: ((b 17), .inl (Y 8, 40, .inr (.inr (.inr (.inr (fun _ => none)))))) :: ((b 18), .inl (Y 0, 12, .inl (fun _ => 0))) :: ((b 19), .inl (Y 0, 12, .inl (fun _ => 0))) :: ((b 20), .inl (Y 0, 8, .inl (fun _ => 0))) :: ((b 21), .inl (Y 0, 8, .inl (fun _ => 0))) :: ((b 22), .inl (Y 2, 400, .inl (fun _ => 0))) :: ((b 1), .inl (Y 4, 4, .inr (.inr (.inr (.inr (fun _ => none)))))) :: ((b 5), .inr (3, (paF Z b))) :: ((b 24), .inr (8, (txF b))) :: (o2, .inr (11, (moF a))) :: ((a 0), .inl (Y 0, 7533, .inl tolF)) :: ((a 2), .inl (Y 2, 400, .inl (fun _ => 0))) :: ((a 3), .inl (Y 0, 3, .inl (fun _ => 0))) :: ((a 5), .inl (Y 0, 18, .inl (fun _ => 0))) :: ((a 7), .inl (Y 0, 18, .inl (fun _ => 0))) :: ((a 8), .inl (Y 0, 18, .inl (fun _ => 0))) :: ((a 9), .inl (Y 0, 18, .inl (fun _ => 0))) :: ((a 11), .inl (Y 0, 18, .inl (fun _ => 0))) :: ((a 13), .inl (Y 0, 18, .inl (fun _ => 0))) :: ((a 14), .inl (Y 0, 18, .inl (fun _ => 0))) :: ((a 26), .inl (Y 0, 30132, .inl (fun _ => 0))) :: ((a 27), .inl (Y 3, 4, .inl (fun _ => 0))) :: []) := hD
  refine lv_aload_n hx hb dL_law_1067 rfl (lv_at hl 1 rfl) ?_
  refine lv_aload_n hx hb dL_law_1068 rfl (lv_at hl 3 rfl) ?_
  refine lv_iload_n hx hb dL_law_1069 rfl (lv_at hl 0 rfl) ?_
  refine lv_iconst (v := 1) hx hb dL_law_1070 (by decide) ?_
  refine lv_iadd hx hb dL_law_1071 ?_
  refine lv_topi (fun z6 ez6 => ?_)
  obtain rfl : z6 = 1 := ez6.trans (by decide)
  refine va_sld hx hb hX hbl hbA hS (show ¬ ((1 : Int32) < 0 ∨ 7 ≤ (1 : Int32).toNatClampNeg) by decide) dL_law_1072 ?_
  refine W.eq (g2 := F0 m 1073 ls [.int (xs 1), .ref o2, .int (-200000)]) rfl ?_
  refine lv_aload_n hx hb dL_law_1073 rfl (lv_at hl 3 rfl) ?_
  refine lv_iload_n hx hb dL_law_1074 rfl (lv_at hl 0 rfl) ?_
  refine lv_iconst (v := 2) hx hb dL_law_1075 (by decide) ?_
  refine lv_iadd hx hb dL_law_1076 ?_
  refine lv_topi (fun z7 ez7 => ?_)
  obtain rfl : z7 = 2 := ez7.trans (by decide)
  refine va_sld hx hb hX hbl hbA hS (show ¬ ((2 : Int32) < 0 ∨ 7 ≤ (2 : Int32).toNatClampNeg) by decide) dL_law_1077 ?_
  refine W.eq (g2 := F0 m 1078 ls [.int (xs 2), .int (xs 1), .ref o2, .int (-200000)]) rfl ?_
  refine lv_aload_n hx hb dL_law_1078 rfl (lv_at hl 3 rfl) ?_
  refine lv_iload_n hx hb dL_law_1079 rfl (lv_at hl 0 rfl) ?_
  refine lv_iconst (v := 3) hx hb dL_law_1080 (by decide) ?_
  refine lv_iadd hx hb dL_law_1081 ?_
  refine lv_topi (fun z8 ez8 => ?_)
  obtain rfl : z8 = 3 := ez8.trans (by decide)
  refine va_sld hx hb hX hbl hbA hS (show ¬ ((3 : Int32) < 0 ∨ 7 ≤ (3 : Int32).toNatClampNeg) by decide) dL_law_1082 ?_
  refine W.eq (g2 := F0 m 1083 ls [.int (xs 3), .int (xs 2), .int (xs 1), .ref o2, .int (-200000)]) rfl ?_
  refine cg (wc := [(o2, .inr (11, (moF a))), ((a 3), .inl (Y 0, 3, .inl (fun _ => 0)))]) (wr := (((b 0), .inr (6, (skF b))) :: ((b 16), .inl (Y 7, 12, .inr (.inr (.inr (.inr (fun _ => none)))))) :: ((b 17), .inl (Y 8, 40, .inr (.inr (.inr (.inr (fun _ => none)))))) :: ((b 18), .inl (Y 0, 12, .inl (fun _ => 0))) :: ((b 19), .inl (Y 0, 12, .inl (fun _ => 0))) :: ((b 20), .inl (Y 0, 8, .inl (fun _ => 0))) :: ((b 21), .inl (Y 0, 8, .inl (fun _ => 0))) :: ((b 22), .inl (Y 2, 400, .inl (fun _ => 0))) :: ((b 1), .inl (Y 4, 4, .inr (.inr (.inr (.inr (fun _ => none)))))) :: ((b 5), .inr (3, (paF Z b))) :: ((b 24), .inr (8, (txF b))) :: ((a 0), .inl (Y 0, 7533, .inl tolF)) :: ((a 2), .inl (Y 2, 400, .inl (fun _ => 0))) :: ((a 5), .inl (Y 0, 18, .inl (fun _ => 0))) :: ((a 7), .inl (Y 0, 18, .inl (fun _ => 0))) :: ((a 8), .inl (Y 0, 18, .inl (fun _ => 0))) :: ((a 9), .inl (Y 0, 18, .inl (fun _ => 0))) :: ((a 11), .inl (Y 0, 18, .inl (fun _ => 0))) :: ((a 13), .inl (Y 0, 18, .inl (fun _ => 0))) :: ((a 14), .inl (Y 0, 18, .inl (fun _ => 0))) :: ((a 26), .inl (Y 0, 30132, .inl (fun _ => 0))) :: ((a 27), .inl (Y 3, 4, .inl (fun _ => 0))) :: [])) [11, 14] [0, 1, 2, 3, 4, 5, 6, 7, 8, 9, 10, 12, 13, 15, 16, 17, 18, 19, 20, 21, 22, 23] (rn_V (As := [.int (xs 1), .int (xs 2), .int (xs 3)]) (rest := [.int (-200000)]) (b := o2) (y_sign l D Y Z H.size o2 a (xs 1) (xs 2) (xs 3)) ⟨hx, hb, hml, hown, hg⟩ lk_L_101 ⟨CP.blind, va_recv hKN.1 hP (ci := 11) (q0 := 11) rfl rfl, CP.at (hP.sub [11, 14] rfl) hKN (hD.sub [11, 14] (by decide) rfl)⟩ ⟨⟨rfl, rfl⟩, ⟨Nat.le_of_ble_eq_true rfl, Nat.le_of_ble_eq_true rfl⟩, ⟨Nat.le_of_ble_eq_true rfl, Nat.le_of_ble_eq_true rfl⟩⟩ hl.1 rfl (Nat.le_of_ble_eq_true rfl) dL_law_1083) hP hD hS hA rfl rfl (by decide) (by decide) (fun u9 H locs w10 hP hD hS => ?_)
  refine W.eq (g2 := F0 m 1086 ls [.int (-200000), .int (-200000)]) rfl ?_
  have hP : va_P D vwCl (((b 0), .inr (6, (skF b))) :: ((b 16), .inl (Y 7, 12, .inr (.inr (.inr (.inr (fun _ => none)))))) :: ((b 17), .inl (Y 8, 40, .inr (.inr (.inr (.inr (fun _ => none)))))) :: ((b 18), .inl (Y 0, 12, .inl (fun _ => 0))) :: ((b 19), .inl (Y 0, 12, .inl (fun _ => 0))) :: ((b 20), .inl (Y 0, 8, .inl (fun _ => 0))) :: ((b 21), .inl (Y 0, 8, .inl (fun _ => 0))) :: ((b 22), .inl (Y 2, 400, .inl (fun _ => 0))) :: ((b 1), .inl (Y 4, 4, .inr (.inr (.inr (.inr (fun _ => none)))))) :: ((b 5), .inr (3, (paF Z b))) :: ((b 24), .inr (8, (txF b))) :: ((a 0), .inl (Y 0, 7533, .inl tolF)) :: ((a 2), .inl (Y 2, 400, .inl (fun _ => 0))) :: ((a 5), .inl (Y 0, 18, .inl (fun _ => 0))) :: ((a 7), .inl (Y 0, 18, .inl (fun _ => 0))) :: ((a 8), .inl (Y 0, 18, .inl (fun _ => 0))) :: ((a 9), .inl (Y 0, 18, .inl (fun _ => 0))) :: ((a 11), .inl (Y 0, 18, .inl (fun _ => 0))) :: ((a 13), .inl (Y 0, 18, .inl (fun _ => 0))) :: ((a 14), .inl (Y 0, 18, .inl (fun _ => 0))) :: ((a 26), .inl (Y 0, 30132, .inl (fun _ => 0))) :: ((a 27), .inl (Y 3, 4, .inl (fun _ => 0))) :: []) H := hP
  have hD : va_D A (((b 0), .inr (6, (skF b))) :: ((b 16), .inl (Y 7, 12, .inr (.inr (.inr (.inr (fun _ => none)))))) :: ((b 17), .inl (Y 8, 40, .inr (.inr (.inr (.inr (fun _ => none)))))) :: ((b 18), .inl (Y 0, 12, .inl (fun _ => 0))) :: ((b 19), .inl (Y 0, 12, .inl (fun _ => 0))) :: ((b 20), .inl (Y 0, 8, .inl (fun _ => 0))) :: ((b 21), .inl (Y 0, 8, .inl (fun _ => 0))) :: ((b 22), .inl (Y 2, 400, .inl (fun _ => 0))) :: ((b 1), .inl (Y 4, 4, .inr (.inr (.inr (.inr (fun _ => none)))))) :: ((b 5), .inr (3, (paF Z b))) :: ((b 24), .inr (8, (txF b))) :: ((a 0), .inl (Y 0, 7533, .inl tolF)) :: ((a 2), .inl (Y 2, 400, .inl (fun _ => 0))) :: ((a 5), .inl (Y 0, 18, .inl (fun _ => 0))) :: ((a 7), .inl (Y 0, 18, .inl (fun _ => 0))) :: ((a 8), .inl (Y 0, 18, .inl (fun _ => 0))) :: ((a 9), .inl (Y 0, 18, .inl (fun _ => 0))) :: ((a 11), .inl (Y 0, 18, .inl (fun _ => 0))) :: ((a 13), .inl (Y 0, 18, .inl (fun _ => 0))) :: ((a 14), .inl (Y 0, 18, .inl (fun _ => 0))) :: ((a 26), .inl (Y 0, 30132, .inl (fun _ => 0))) :: ((a 27), .inl (Y 3, 4, .inl (fun _ => 0))) :: []) := hD
  refine lv_icmp_eq (tgt := 1885) hx hb dL_law_1086 (by decide) (fun c11 => ?_) (fun c11 => ?_)
  rotate_left
  · exact absurd c11 (by decide)
  exact lw_tail C0 hA2 (Nat.le_of_ble_eq_true rfl) (Nat.le_of_ble_eq_true rfl) hS (lv_sub hl [0, 3] rfl)
set_option maxHeartbeats 4000000 in
set_option maxRecDepth 100000 in
theorem lc_20 {p : Program} {l : Launch} {e : Env} {s : State} {m : MethodId} {below : List Frame} {meth : Method} {c : Code} {sb : Nat} {xs : Nat → Int32} (C0 : lw_At p s m meth c sb 7 xs) {D : va_G} {Y : Nat → ClassId} {Z : Nat → Nat} (hKN : KN D Y Z s) {A : Nat → Prop} (hA : ∀ q, s.heap.size ≤ q → A q) (hA2 : ∀ q, A q → s.heap.size ≤ q) {o o2 : Nat} {b a : Nat → Nat} {H : Heap} {locs : List Loc} {ls : Array Slot} (hP : va_P D vwCl (LW Y Z o o2 b a) H) (hD : va_D A (LW Y Z o o2 b a)) (hS : va_S A s.heap H locs) (hl : lv_has ls 4 [(3, .int 0), (2, .ref o2), (1, .ref o), (0, .ref sb)]) : W p l e room_1 s m #[Value.ref sb] below meth c H locs 70 52824 (lw_Z below #[Value.ref sb] s) (F0 m 1091 ls []) := by
  obtain ⟨hx, hb, hr, hml, hown, hts, hX, hbl, hlocks, hgv⟩ := id C0
  have hb : c.code = cL_law := hb
  have hown : s.vm.findClass RL = some m.cls := hown
  have hg : ∀ w ∈ GW, w.before #[Value.ref sb] s = true := fun w h => hts w (gw_tbl h)
  have hbA : ¬ A sb := fun h => absurd (hA2 sb h) (Nat.not_le.mpr hbl)
  refine lv_aload_n hx hb dL_law_1091 rfl (lv_at hl 2 rfl) ?_
  refine lv_aload_n hx hb dL_law_1092 rfl (lv_at hl 3 rfl) ?_
  refine lv_iload_n hx hb dL_law_1093 rfl (lv_at hl 0 rfl) ?_
  refine lv_iconst (v := 1) hx hb dL_law_1094 (by decide) ?_
  refine lv_iadd hx hb dL_law_1095 ?_
  refine lv_topi (fun z1 ez1 => ?_)
  obtain rfl : z1 = 1 := ez1.trans (by decide)
  refine va_sld hx hb hX hbl hbA hS (show ¬ ((1 : Int32) < 0 ∨ 7 ≤ (1 : Int32).toNatClampNeg) by decide) dL_law_1096 ?_
  refine W.eq (g2 := F0 m 1097 ls [.int (xs 1), .ref o]) rfl ?_
  refine lv_aload_n hx hb dL_law_1097 rfl (lv_at hl 3 rfl) ?_
  refine lv_iload_n hx hb dL_law_1098 rfl (lv_at hl 0 rfl) ?_
  refine lv_iconst (v := 2) hx hb dL_law_1099 (by decide) ?_
  refine lv_iadd hx hb dL_law_1100 ?_
  refine lv_topi (fun z2 ez2 => ?_)
  obtain rfl : z2 = 2 := ez2.trans (by decide)
  refine va_sld hx hb hX hbl hbA hS (show ¬ ((2 : Int32) < 0 ∨ 7 ≤ (2 : Int32).toNatClampNeg) by decide) dL_law_1101 ?_
  refine W.eq (g2 := F0 m 1102 ls [.int (xs 2), .int (xs 1), .ref o]) rfl ?_
  refine lv_aload_n hx hb dL_law_1102 rfl (lv_at hl 3 rfl) ?_
  refine lv_iload_n hx hb dL_law_1103 rfl (lv_at hl 0 rfl) ?_
  refine lv_iconst (v := 3) hx hb dL_law_1104 (by decide) ?_
  refine lv_iadd hx hb dL_law_1105 ?_
  refine lv_topi (fun z3 ez3 => ?_)
  obtain rfl : z3 = 3 := ez3.trans (by decide)
  refine va_sld hx hb hX hbl hbA hS (show ¬ ((3 : Int32) < 0 ∨ 7 ≤ (3 : Int32).toNatClampNeg) by decide) dL_law_1106 ?_
  refine W.eq (g2 := F0 m 1107 ls [.int (xs 3), .int (xs 2), .int (xs 1), .ref o]) rfl ?_
  refine cg (wc := [(o, .inr (10, (dsF b)))]) (wr := (((b 0), .inr (6, (skF b))) :: ((b 16), .inl (Y 7, 12, .inr (.inr (.inr (.inr (fun _ => none)))))) :: ((b 17), .inl (Y 8, 40, .inr (.inr (.inr (.inr (fun _ => none)))))) :: ((b 18), .inl (Y 0, 12, .inl (fun _ => 0))) :: ((b 19), .inl (Y 0, 12, .inl (fun _ => 0))) :: ((b 20), .inl (Y 0, 8, .inl (fun _ => 0))) :: ((b 21), .inl (Y 0, 8, .inl (fun _ => 0))) :: ((b 22), .inl (Y 2, 400, .inl (fun _ => 0))) :: ((b 1), .inl (Y 4, 4, .inr (.inr (.inr (.inr (fun _ => none)))))) :: ((b 5), .inr (3, (paF Z b))) :: ((b 24), .inr (8, (txF b))) :: (o2, .inr (11, (moF a))) :: ((a 0), .inl (Y 0, 7533, .inl tolF)) :: ((a 2), .inl (Y 2, 400, .inl (fun _ => 0))) :: ((a 3), .inl (Y 0, 3, .inl (fun _ => 0))) :: ((a 5), .inl (Y 0, 18, .inl (fun _ => 0))) :: ((a 7), .inl (Y 0, 18, .inl (fun _ => 0))) :: ((a 8), .inl (Y 0, 18, .inl (fun _ => 0))) :: ((a 9), .inl (Y 0, 18, .inl (fun _ => 0))) :: ((a 11), .inl (Y 0, 18, .inl (fun _ => 0))) :: ((a 13), .inl (Y 0, 18, .inl (fun _ => 0))) :: ((a 14), .inl (Y 0, 18, .inl (fun _ => 0))) :: ((a 26), .inl (Y 0, 30132, .inl (fun _ => 0))) :: ((a 27), .inl (Y 3, 4, .inl (fun _ => 0))) :: [])) [0] [1, 2, 3, 4, 5, 6, 7, 8, 9, 10, 11, 12, 13, 14, 15, 16, 17, 18, 19, 20, 21, 22, 23, 24] (rn_V (As := [.int (xs 1), .int (xs 2), .int (xs 3)]) (rest := []) (b := o) (x_shift l D Y Z H.size o b (xs 1) (xs 2) (xs 3)) ⟨hx, hb, hml, hown, hg⟩ lk_L_102 ⟨CP.blind, va_recv hKN.1 hP (ci := 10) (q0 := 0) rfl rfl, CP.at (hP.sub [0] rfl) hKN (hD.sub [0] (by decide) rfl)⟩ ⟨⟨rfl, rfl⟩, ⟨Nat.le_of_ble_eq_true rfl, Nat.le_of_ble_eq_true rfl⟩, ⟨Nat.le_of_ble_eq_true rfl, Nat.le_of_ble_eq_true rfl⟩⟩ hl.1 rfl (Nat.le_of_ble_eq_true rfl) dL_law_1107) hP hD hS hA rfl rfl (by decide) (by decide) (fun u4 H locs w5 hP hD hS => ?_)
  refine W.eq (g2 := F0 m 1110 ls [.int (-200)]) rfl ?_
  have hP : va_P D vwCl (((b 0), .inr (6, (skF b))) :: ((b 16), .inl (Y 7, 12, .inr (.inr (.inr (.inr (fun _ => none)))))) :: ((b 17), .inl (Y 8, 40, .inr (.inr (.inr (.inr (fun _ => none)))))) :: ((b 18), .inl (Y 0, 12, .inl (fun _ => 0))) :: ((b 19), .inl (Y 0, 12, .inl (fun _ => 0))) :: ((b 20), .inl (Y 0, 8, .inl (fun _ => 0))) :: ((b 21), .inl (Y 0, 8, .inl (fun _ => 0))) :: ((b 22), .inl (Y 2, 400, .inl (fun _ => 0))) :: ((b 1), .inl (Y 4, 4, .inr (.inr (.inr (.inr (fun _ => none)))))) :: ((b 5), .inr (3, (paF Z b))) :: ((b 24), .inr (8, (txF b))) :: (o2, .inr (11, (moF a))) :: ((a 0), .inl (Y 0, 7533, .inl tolF)) :: ((a 2), .inl (Y 2, 400, .inl (fun _ => 0))) :: ((a 3), .inl (Y 0, 3, .inl (fun _ => 0))) :: ((a 5), .inl (Y 0, 18, .inl (fun _ => 0))) :: ((a 7), .inl (Y 0, 18, .inl (fun _ => 0))) :: ((a 8), .inl (Y 0, 18, .inl (fun _ => 0))) :: ((a 9), .inl (Y 0, 18, .inl (fun _ => 0))) :: ((a 11), .inl (Y 0, 18, .inl (fun _ => 0))) :: ((a 13), .inl (Y 0, 18, .inl (fun _ => 0))) :: ((a 14), .inl (Y 0, 18, .inl (fun _ => 0))) :: ((a 26), .inl (Y 0, 30132, .inl (fun _ => 0))) :: ((a 27), .inl (Y 3, 4, .inl (fun _ => 0))) :: []) H := hP
  have hD : va_D A (((b 0), .inr (6, (skF b))) :: ((b 16), .inl (Y 7, 12, .inr (.inr (.inr (.inr (fun _ => none)))))) :: ((b 17), .inl (Y 8, 40, .inr (.inr (.inr (.inr (fun _ => none)))))) :: ((b 18), .inl (Y 0, 12, .inl (fun _ => 0))) :: ((b 19), .inl (Y 0, 12, .inl (fun _ => 0))) :: ((b 20), .inl (Y 0, 8, .inl (fun _ => 0))) :: ((b 21), .inl (Y 0, 8, .inl (fun _ => 0))) :: ((b 22), .inl (Y 2, 400, .inl (fun _ => 0))) :: ((b 1), .inl (Y 4, 4, .inr (.inr (.inr (.inr (fun _ => none)))))) :: ((b 5), .inr (3, (paF Z b))) :: ((b 24), .inr (8, (txF b))) :: (o2, .inr (11, (moF a))) :: ((a 0), .inl (Y 0, 7533, .inl tolF)) :: ((a 2), .inl (Y 2, 400, .inl (fun _ => 0))) :: ((a 3), .inl (Y 0, 3, .inl (fun _ => 0))) :: ((a 5), .inl (Y 0, 18, .inl (fun _ => 0))) :: ((a 7), .inl (Y 0, 18, .inl (fun _ => 0))) :: ((a 8), .inl (Y 0, 18, .inl (fun _ => 0))) :: ((a 9), .inl (Y 0, 18, .inl (fun _ => 0))) :: ((a 11), .inl (Y 0, 18, .inl (fun _ => 0))) :: ((a 13), .inl (Y 0, 18, .inl (fun _ => 0))) :: ((a 14), .inl (Y 0, 18, .inl (fun _ => 0))) :: ((a 26), .inl (Y 0, 30132, .inl (fun _ => 0))) :: ((a 27), .inl (Y 3, 4, .inl (fun _ => 0))) :: []) := hD
  refine lv_aload_n hx hb dL_law_1110 rfl (lv_at hl 1 rfl) ?_
  refine lv_aload_n hx hb dL_law_1111 rfl (lv_at hl 3 rfl) ?_
  refine lv_iload_n hx hb dL_law_1112 rfl (lv_at hl 0 rfl) ?_
  refine lv_iconst (v := 1) hx hb dL_law_1113 (by decide) ?_
  refine lv_iadd hx hb dL_law_1114 ?_
  refine lv_topi (fun z6 ez6 => ?_)
  obtain rfl : z6 = 1 := ez6.trans (by decide)
  refine va_sld hx hb hX hbl hbA hS (show ¬ ((1 : Int32) < 0 ∨ 7 ≤ (1 : Int32).toNatClampNeg) by decide) dL_law_1115 ?_
  refine W.eq (g2 := F0 m 1116 ls [.int (xs 1), .ref o2, .int (-200)]) rfl ?_
  refine lv_aload_n hx hb dL_law_1116 rfl (lv_at hl 3 rfl) ?_
  refine lv_iload_n hx hb dL_law_1117 rfl (lv_at hl 0 rfl) ?_
  refine lv_iconst (v := 2) hx hb dL_law_1118 (by decide) ?_
  refine lv_iadd hx hb dL_law_1119 ?_
  refine lv_topi (fun z7 ez7 => ?_)
  obtain rfl : z7 = 2 := ez7.trans (by decide)
  refine va_sld hx hb hX hbl hbA hS (show ¬ ((2 : Int32) < 0 ∨ 7 ≤ (2 : Int32).toNatClampNeg) by decide) dL_law_1120 ?_
  refine W.eq (g2 := F0 m 1121 ls [.int (xs 2), .int (xs 1), .ref o2, .int (-200)]) rfl ?_
  refine lv_aload_n hx hb dL_law_1121 rfl (lv_at hl 3 rfl) ?_
  refine lv_iload_n hx hb dL_law_1122 rfl (lv_at hl 0 rfl) ?_
  refine lv_iconst (v := 3) hx hb dL_law_1123 (by decide) ?_
  refine lv_iadd hx hb dL_law_1124 ?_
  refine lv_topi (fun z8 ez8 => ?_)
  obtain rfl : z8 = 3 := ez8.trans (by decide)
  refine va_sld hx hb hX hbl hbA hS (show ¬ ((3 : Int32) < 0 ∨ 7 ≤ (3 : Int32).toNatClampNeg) by decide) dL_law_1125 ?_
  refine W.eq (g2 := F0 m 1126 ls [.int (xs 3), .int (xs 2), .int (xs 1), .ref o2, .int (-200)]) rfl ?_
  refine cg (wc := [(o2, .inr (11, (moF a))), ((a 3), .inl (Y 0, 3, .inl (fun _ => 0)))]) (wr := (((b 0), .inr (6, (skF b))) :: ((b 16), .inl (Y 7, 12, .inr (.inr (.inr (.inr (fun _ => none)))))) :: ((b 17), .inl (Y 8, 40, .inr (.inr (.inr (.inr (fun _ => none)))))) :: ((b 18), .inl (Y 0, 12, .inl (fun _ => 0))) :: ((b 19), .inl (Y 0, 12, .inl (fun _ => 0))) :: ((b 20), .inl (Y 0, 8, .inl (fun _ => 0))) :: ((b 21), .inl (Y 0, 8, .inl (fun _ => 0))) :: ((b 22), .inl (Y 2, 400, .inl (fun _ => 0))) :: ((b 1), .inl (Y 4, 4, .inr (.inr (.inr (.inr (fun _ => none)))))) :: ((b 5), .inr (3, (paF Z b))) :: ((b 24), .inr (8, (txF b))) :: ((a 0), .inl (Y 0, 7533, .inl tolF)) :: ((a 2), .inl (Y 2, 400, .inl (fun _ => 0))) :: ((a 5), .inl (Y 0, 18, .inl (fun _ => 0))) :: ((a 7), .inl (Y 0, 18, .inl (fun _ => 0))) :: ((a 8), .inl (Y 0, 18, .inl (fun _ => 0))) :: ((a 9), .inl (Y 0, 18, .inl (fun _ => 0))) :: ((a 11), .inl (Y 0, 18, .inl (fun _ => 0))) :: ((a 13), .inl (Y 0, 18, .inl (fun _ => 0))) :: ((a 14), .inl (Y 0, 18, .inl (fun _ => 0))) :: ((a 26), .inl (Y 0, 30132, .inl (fun _ => 0))) :: ((a 27), .inl (Y 3, 4, .inl (fun _ => 0))) :: [])) [11, 14] [0, 1, 2, 3, 4, 5, 6, 7, 8, 9, 10, 12, 13, 15, 16, 17, 18, 19, 20, 21, 22, 23] (rn_V (As := [.int (xs 1), .int (xs 2), .int (xs 3)]) (rest := [.int (-200)]) (b := o2) (y_shift l D Y Z H.size o2 a (xs 1) (xs 2) (xs 3)) ⟨hx, hb, hml, hown, hg⟩ lk_L_105 ⟨CP.blind, va_recv hKN.1 hP (ci := 11) (q0 := 11) rfl rfl, CP.at (hP.sub [11, 14] rfl) hKN (hD.sub [11, 14] (by decide) rfl)⟩ ⟨⟨rfl, rfl⟩, ⟨Nat.le_of_ble_eq_true rfl, Nat.le_of_ble_eq_true rfl⟩, ⟨Nat.le_of_ble_eq_true rfl, Nat.le_of_ble_eq_true rfl⟩⟩ hl.1 rfl (Nat.le_of_ble_eq_true rfl) dL_law_1126) hP hD hS hA rfl rfl (by decide) (by decide) (fun u9 H locs w10 hP hD hS => ?_)
  refine W.eq (g2 := F0 m 1129 ls [.int (-200), .int (-200)]) rfl ?_
  have hP : va_P D vwCl (((b 0), .inr (6, (skF b))) :: ((b 16), .inl (Y 7, 12, .inr (.inr (.inr (.inr (fun _ => none)))))) :: ((b 17), .inl (Y 8, 40, .inr (.inr (.inr (.inr (fun _ => none)))))) :: ((b 18), .inl (Y 0, 12, .inl (fun _ => 0))) :: ((b 19), .inl (Y 0, 12, .inl (fun _ => 0))) :: ((b 20), .inl (Y 0, 8, .inl (fun _ => 0))) :: ((b 21), .inl (Y 0, 8, .inl (fun _ => 0))) :: ((b 22), .inl (Y 2, 400, .inl (fun _ => 0))) :: ((b 1), .inl (Y 4, 4, .inr (.inr (.inr (.inr (fun _ => none)))))) :: ((b 5), .inr (3, (paF Z b))) :: ((b 24), .inr (8, (txF b))) :: ((a 0), .inl (Y 0, 7533, .inl tolF)) :: ((a 2), .inl (Y 2, 400, .inl (fun _ => 0))) :: ((a 5), .inl (Y 0, 18, .inl (fun _ => 0))) :: ((a 7), .inl (Y 0, 18, .inl (fun _ => 0))) :: ((a 8), .inl (Y 0, 18, .inl (fun _ => 0))) :: ((a 9), .inl (Y 0, 18, .inl (fun _ => 0))) :: ((a 11), .inl (Y 0, 18, .inl (fun _ => 0))) :: ((a 13), .inl (Y 0, 18, .inl (fun _ => 0))) :: ((a 14), .inl (Y 0, 18, .inl (fun _ => 0))) :: ((a 26), .inl (Y 0, 30132, .inl (fun _ => 0))) :: ((a 27), .inl (Y 3, 4, .inl (fun _ => 0))) :: []) H := hP
  have hD : va_D A (((b 0), .inr (6, (skF b))) :: ((b 16), .inl (Y 7, 12, .inr (.inr (.inr (.inr (fun _ => none)))))) :: ((b 17), .inl (Y 8, 40, .inr (.inr (.inr (.inr (fun _ => none)))))) :: ((b 18), .inl (Y 0, 12, .inl (fun _ => 0))) :: ((b 19), .inl (Y 0, 12, .inl (fun _ => 0))) :: ((b 20), .inl (Y 0, 8, .inl (fun _ => 0))) :: ((b 21), .inl (Y 0, 8, .inl (fun _ => 0))) :: ((b 22), .inl (Y 2, 400, .inl (fun _ => 0))) :: ((b 1), .inl (Y 4, 4, .inr (.inr (.inr (.inr (fun _ => none)))))) :: ((b 5), .inr (3, (paF Z b))) :: ((b 24), .inr (8, (txF b))) :: ((a 0), .inl (Y 0, 7533, .inl tolF)) :: ((a 2), .inl (Y 2, 400, .inl (fun _ => 0))) :: ((a 5), .inl (Y 0, 18, .inl (fun _ => 0))) :: ((a 7), .inl (Y 0, 18, .inl (fun _ => 0))) :: ((a 8), .inl (Y 0, 18, .inl (fun _ => 0))) :: ((a 9), .inl (Y 0, 18, .inl (fun _ => 0))) :: ((a 11), .inl (Y 0, 18, .inl (fun _ => 0))) :: ((a 13), .inl (Y 0, 18, .inl (fun _ => 0))) :: ((a 14), .inl (Y 0, 18, .inl (fun _ => 0))) :: ((a 26), .inl (Y 0, 30132, .inl (fun _ => 0))) :: ((a 27), .inl (Y 3, 4, .inl (fun _ => 0))) :: []) := hD
  refine lv_icmp_eq (tgt := 1885) hx hb dL_law_1129 (by decide) (fun c11 => ?_) (fun c11 => ?_)
  rotate_left
  · exact absurd c11 (by decide)
  exact lw_tail C0 hA2 (Nat.le_of_ble_eq_true rfl) (Nat.le_of_ble_eq_true rfl) hS (lv_sub hl [0, 3] rfl)
set_option maxHeartbeats 4000000 in
set_option maxRecDepth 100000 in
theorem lc_21 {p : Program} {l : Launch} {e : Env} {s : State} {m : MethodId} {below : List Frame} {meth : Method} {c : Code} {sb : Nat} {xs : Nat → Int32} (C0 : lw_At p s m meth c sb 7 xs) {D : va_G} {Y : Nat → ClassId} {Z : Nat → Nat} (hKN : KN D Y Z s) {A : Nat → Prop} (hA : ∀ q, s.heap.size ≤ q → A q) (hA2 : ∀ q, A q → s.heap.size ≤ q) {o o2 : Nat} {b a : Nat → Nat} {H : Heap} {locs : List Loc} {ls : Array Slot} (hP : va_P D vwCl (LW Y Z o o2 b a) H) (hD : va_D A (LW Y Z o o2 b a)) (hS : va_S A s.heap H locs) (hl : lv_has ls 4 [(3, .int 0), (2, .ref o2), (1, .ref o), (0, .ref sb)]) : W p l e room_1 s m #[Value.ref sb] below meth c H locs 70 52824 (lw_Z below #[Value.ref sb] s) (F0 m 1134 ls []) := by
  obtain ⟨hx, hb, hr, hml, hown, hts, hX, hbl, hlocks, hgv⟩ := id C0
  have hb : c.code = cL_law := hb
  have hown : s.vm.findClass RL = some m.cls := hown
  have hg : ∀ w ∈ GW, w.before #[Value.ref sb] s = true := fun w h => hts w (gw_tbl h)
  have hbA : ¬ A sb := fun h => absurd (hA2 sb h) (Nat.not_le.mpr hbl)
  refine lv_aload_n hx hb dL_law_1134 rfl (lv_at hl 2 rfl) ?_
  refine lv_aload_n hx hb dL_law_1135 rfl (lv_at hl 3 rfl) ?_
  refine lv_iload_n hx hb dL_law_1136 rfl (lv_at hl 0 rfl) ?_
  refine lv_iconst (v := 1) hx hb dL_law_1137 (by decide) ?_
  refine lv_iadd hx hb dL_law_1138 ?_
  refine lv_topi (fun z1 ez1 => ?_)
  obtain rfl : z1 = 1 := ez1.trans (by decide)
  refine va_sld hx hb hX hbl hbA hS (show ¬ ((1 : Int32) < 0 ∨ 7 ≤ (1 : Int32).toNatClampNeg) by decide) dL_law_1139 ?_
  refine W.eq (g2 := F0 m 1140 ls [.int (xs 1), .ref o]) rfl ?_
  refine lv_aload_n hx hb dL_law_1140 rfl (lv_at hl 3 rfl) ?_
  refine lv_iload_n hx hb dL_law_1141 rfl (lv_at hl 0 rfl) ?_
  refine lv_iconst (v := 2) hx hb dL_law_1142 (by decide) ?_
  refine lv_iadd hx hb dL_law_1143 ?_
  refine lv_topi (fun z2 ez2 => ?_)
  obtain rfl : z2 = 2 := ez2.trans (by decide)
  refine va_sld hx hb hX hbl hbA hS (show ¬ ((2 : Int32) < 0 ∨ 7 ≤ (2 : Int32).toNatClampNeg) by decide) dL_law_1144 ?_
  refine W.eq (g2 := F0 m 1145 ls [.int (xs 2), .int (xs 1), .ref o]) rfl ?_
  refine lv_aload_n hx hb dL_law_1145 rfl (lv_at hl 3 rfl) ?_
  refine lv_iload_n hx hb dL_law_1146 rfl (lv_at hl 0 rfl) ?_
  refine lv_iconst (v := 3) hx hb dL_law_1147 (by decide) ?_
  refine lv_iadd hx hb dL_law_1148 ?_
  refine lv_topi (fun z3 ez3 => ?_)
  obtain rfl : z3 = 3 := ez3.trans (by decide)
  refine va_sld hx hb hX hbl hbA hS (show ¬ ((3 : Int32) < 0 ∨ 7 ≤ (3 : Int32).toNatClampNeg) by decide) dL_law_1149 ?_
  refine W.eq (g2 := F0 m 1150 ls [.int (xs 3), .int (xs 2), .int (xs 1), .ref o]) rfl ?_
  refine lv_aload_n hx hb dL_law_1150 rfl (lv_at hl 3 rfl) ?_
  refine lv_iload_n hx hb dL_law_1151 rfl (lv_at hl 0 rfl) ?_
  refine lv_iconst (v := 4) hx hb dL_law_1152 (by decide) ?_
  refine lv_iadd hx hb dL_law_1153 ?_
  refine lv_topi (fun z4 ez4 => ?_)
  obtain rfl : z4 = 4 := ez4.trans (by decide)
  refine va_sld hx hb hX hbl hbA hS (show ¬ ((4 : Int32) < 0 ∨ 7 ≤ (4 : Int32).toNatClampNeg) by decide) dL_law_1154 ?_
  refine W.eq (g2 := F0 m 1155 ls [.int (xs 4), .int (xs 3), .int (xs 2), .int (xs 1), .ref o]) rfl ?_
  refine cg (wc := [(o, .inr (10, (dsF b))), ((b 0), .inr (6, (skF b)))]) (wr := (((b 16), .inl (Y 7, 12, .inr (.inr (.inr (.inr (fun _ => none)))))) :: ((b 17), .inl (Y 8, 40, .inr (.inr (.inr (.inr (fun _ => none)))))) :: ((b 18), .inl (Y 0, 12, .inl (fun _ => 0))) :: ((b 19), .inl (Y 0, 12, .inl (fun _ => 0))) :: ((b 20), .inl (Y 0, 8, .inl (fun _ => 0))) :: ((b 21), .inl (Y 0, 8, .inl (fun _ => 0))) :: ((b 22), .inl (Y 2, 400, .inl (fun _ => 0))) :: ((b 1), .inl (Y 4, 4, .inr (.inr (.inr (.inr (fun _ => none)))))) :: ((b 5), .inr (3, (paF Z b))) :: ((b 24), .inr (8, (txF b))) :: (o2, .inr (11, (moF a))) :: ((a 0), .inl (Y 0, 7533, .inl tolF)) :: ((a 2), .inl (Y 2, 400, .inl (fun _ => 0))) :: ((a 3), .inl (Y 0, 3, .inl (fun _ => 0))) :: ((a 5), .inl (Y 0, 18, .inl (fun _ => 0))) :: ((a 7), .inl (Y 0, 18, .inl (fun _ => 0))) :: ((a 8), .inl (Y 0, 18, .inl (fun _ => 0))) :: ((a 9), .inl (Y 0, 18, .inl (fun _ => 0))) :: ((a 11), .inl (Y 0, 18, .inl (fun _ => 0))) :: ((a 13), .inl (Y 0, 18, .inl (fun _ => 0))) :: ((a 14), .inl (Y 0, 18, .inl (fun _ => 0))) :: ((a 26), .inl (Y 0, 30132, .inl (fun _ => 0))) :: ((a 27), .inl (Y 3, 4, .inl (fun _ => 0))) :: [])) [0, 1] [2, 3, 4, 5, 6, 7, 8, 9, 10, 11, 12, 13, 14, 15, 16, 17, 18, 19, 20, 21, 22, 23, 24] (rn_V (As := [.int (xs 1), .int (xs 2), .int (xs 3), .int (xs 4)]) (rest := []) (b := o) (x_weight l D Y Z H.size o b (xs 1) (xs 2) (xs 3) (xs 4)) ⟨hx, hb, hml, hown, hg⟩ lk_L_106 ⟨CP.blind, va_recv hKN.1 hP (ci := 10) (q0 := 0) rfl rfl, CP.at (hP.sub [0, 1] rfl) hKN (hD.sub [0, 1] (by decide) rfl)⟩ ⟨⟨rfl, rfl⟩, ⟨Nat.le_of_ble_eq_true rfl, Nat.le_of_ble_eq_true rfl⟩, ⟨Nat.le_of_ble_eq_true rfl, Nat.le_of_ble_eq_true rfl⟩⟩ hl.1 rfl (Nat.le_of_ble_eq_true rfl) dL_law_1155) hP hD hS hA rfl rfl (by decide) (by decide) (fun u5 H locs w6 hP hD hS => ?_)
  refine W.eq (g2 := F0 m 1158 ls [.int (-1)]) rfl ?_
  have hP : va_P D vwCl (((b 16), .inl (Y 7, 12, .inr (.inr (.inr (.inr (fun _ => none)))))) :: ((b 17), .inl (Y 8, 40, .inr (.inr (.inr (.inr (fun _ => none)))))) :: ((b 18), .inl (Y 0, 12, .inl (fun _ => 0))) :: ((b 19), .inl (Y 0, 12, .inl (fun _ => 0))) :: ((b 20), .inl (Y 0, 8, .inl (fun _ => 0))) :: ((b 21), .inl (Y 0, 8, .inl (fun _ => 0))) :: ((b 22), .inl (Y 2, 400, .inl (fun _ => 0))) :: ((b 1), .inl (Y 4, 4, .inr (.inr (.inr (.inr (fun _ => none)))))) :: ((b 5), .inr (3, (paF Z b))) :: ((b 24), .inr (8, (txF b))) :: (o2, .inr (11, (moF a))) :: ((a 0), .inl (Y 0, 7533, .inl tolF)) :: ((a 2), .inl (Y 2, 400, .inl (fun _ => 0))) :: ((a 3), .inl (Y 0, 3, .inl (fun _ => 0))) :: ((a 5), .inl (Y 0, 18, .inl (fun _ => 0))) :: ((a 7), .inl (Y 0, 18, .inl (fun _ => 0))) :: ((a 8), .inl (Y 0, 18, .inl (fun _ => 0))) :: ((a 9), .inl (Y 0, 18, .inl (fun _ => 0))) :: ((a 11), .inl (Y 0, 18, .inl (fun _ => 0))) :: ((a 13), .inl (Y 0, 18, .inl (fun _ => 0))) :: ((a 14), .inl (Y 0, 18, .inl (fun _ => 0))) :: ((a 26), .inl (Y 0, 30132, .inl (fun _ => 0))) :: ((a 27), .inl (Y 3, 4, .inl (fun _ => 0))) :: []) H := hP
  have hD : va_D A (((b 16), .inl (Y 7, 12, .inr (.inr (.inr (.inr (fun _ => none)))))) :: ((b 17), .inl (Y 8, 40, .inr (.inr (.inr (.inr (fun _ => none)))))) :: ((b 18), .inl (Y 0, 12, .inl (fun _ => 0))) :: ((b 19), .inl (Y 0, 12, .inl (fun _ => 0))) :: ((b 20), .inl (Y 0, 8, .inl (fun _ => 0))) :: ((b 21), .inl (Y 0, 8, .inl (fun _ => 0))) :: ((b 22), .inl (Y 2, 400, .inl (fun _ => 0))) :: ((b 1), .inl (Y 4, 4, .inr (.inr (.inr (.inr (fun _ => none)))))) :: ((b 5), .inr (3, (paF Z b))) :: ((b 24), .inr (8, (txF b))) :: (o2, .inr (11, (moF a))) :: ((a 0), .inl (Y 0, 7533, .inl tolF)) :: ((a 2), .inl (Y 2, 400, .inl (fun _ => 0))) :: ((a 3), .inl (Y 0, 3, .inl (fun _ => 0))) :: ((a 5), .inl (Y 0, 18, .inl (fun _ => 0))) :: ((a 7), .inl (Y 0, 18, .inl (fun _ => 0))) :: ((a 8), .inl (Y 0, 18, .inl (fun _ => 0))) :: ((a 9), .inl (Y 0, 18, .inl (fun _ => 0))) :: ((a 11), .inl (Y 0, 18, .inl (fun _ => 0))) :: ((a 13), .inl (Y 0, 18, .inl (fun _ => 0))) :: ((a 14), .inl (Y 0, 18, .inl (fun _ => 0))) :: ((a 26), .inl (Y 0, 30132, .inl (fun _ => 0))) :: ((a 27), .inl (Y 3, 4, .inl (fun _ => 0))) :: []) := hD
  refine lv_aload_n hx hb dL_law_1158 rfl (lv_at hl 1 rfl) ?_
  refine lv_aload_n hx hb dL_law_1159 rfl (lv_at hl 3 rfl) ?_
  refine lv_iload_n hx hb dL_law_1160 rfl (lv_at hl 0 rfl) ?_
  refine lv_iconst (v := 1) hx hb dL_law_1161 (by decide) ?_
  refine lv_iadd hx hb dL_law_1162 ?_
  refine lv_topi (fun z7 ez7 => ?_)
  obtain rfl : z7 = 1 := ez7.trans (by decide)
  refine va_sld hx hb hX hbl hbA hS (show ¬ ((1 : Int32) < 0 ∨ 7 ≤ (1 : Int32).toNatClampNeg) by decide) dL_law_1163 ?_
  refine W.eq (g2 := F0 m 1164 ls [.int (xs 1), .ref o2, .int (-1)]) rfl ?_
  refine lv_aload_n hx hb dL_law_1164 rfl (lv_at hl 3 rfl) ?_
  refine lv_iload_n hx hb dL_law_1165 rfl (lv_at hl 0 rfl) ?_
  refine lv_iconst (v := 2) hx hb dL_law_1166 (by decide) ?_
  refine lv_iadd hx hb dL_law_1167 ?_
  refine lv_topi (fun z8 ez8 => ?_)
  obtain rfl : z8 = 2 := ez8.trans (by decide)
  refine va_sld hx hb hX hbl hbA hS (show ¬ ((2 : Int32) < 0 ∨ 7 ≤ (2 : Int32).toNatClampNeg) by decide) dL_law_1168 ?_
  refine W.eq (g2 := F0 m 1169 ls [.int (xs 2), .int (xs 1), .ref o2, .int (-1)]) rfl ?_
  refine lv_aload_n hx hb dL_law_1169 rfl (lv_at hl 3 rfl) ?_
  refine lv_iload_n hx hb dL_law_1170 rfl (lv_at hl 0 rfl) ?_
  refine lv_iconst (v := 3) hx hb dL_law_1171 (by decide) ?_
  refine lv_iadd hx hb dL_law_1172 ?_
  refine lv_topi (fun z9 ez9 => ?_)
  obtain rfl : z9 = 3 := ez9.trans (by decide)
  refine va_sld hx hb hX hbl hbA hS (show ¬ ((3 : Int32) < 0 ∨ 7 ≤ (3 : Int32).toNatClampNeg) by decide) dL_law_1173 ?_
  refine W.eq (g2 := F0 m 1174 ls [.int (xs 3), .int (xs 2), .int (xs 1), .ref o2, .int (-1)]) rfl ?_
  refine lv_aload_n hx hb dL_law_1174 rfl (lv_at hl 3 rfl) ?_
  refine lv_iload_n hx hb dL_law_1175 rfl (lv_at hl 0 rfl) ?_
  refine lv_iconst (v := 4) hx hb dL_law_1176 (by decide) ?_
  refine lv_iadd hx hb dL_law_1177 ?_
  refine lv_topi (fun z10 ez10 => ?_)
  obtain rfl : z10 = 4 := ez10.trans (by decide)
  refine va_sld hx hb hX hbl hbA hS (show ¬ ((4 : Int32) < 0 ∨ 7 ≤ (4 : Int32).toNatClampNeg) by decide) dL_law_1178 ?_
  refine W.eq (g2 := F0 m 1179 ls [.int (xs 4), .int (xs 3), .int (xs 2), .int (xs 1), .ref o2, .int (-1)]) rfl ?_
  refine cg (wc := [(o2, .inr (11, (moF a))), ((a 3), .inl (Y 0, 3, .inl (fun _ => 0)))]) (wr := (((b 16), .inl (Y 7, 12, .inr (.inr (.inr (.inr (fun _ => none)))))) :: ((b 17), .inl (Y 8, 40, .inr (.inr (.inr (.inr (fun _ => none)))))) :: ((b 18), .inl (Y 0, 12, .inl (fun _ => 0))) :: ((b 19), .inl (Y 0, 12, .inl (fun _ => 0))) :: ((b 20), .inl (Y 0, 8, .inl (fun _ => 0))) :: ((b 21), .inl (Y 0, 8, .inl (fun _ => 0))) :: ((b 22), .inl (Y 2, 400, .inl (fun _ => 0))) :: ((b 1), .inl (Y 4, 4, .inr (.inr (.inr (.inr (fun _ => none)))))) :: ((b 5), .inr (3, (paF Z b))) :: ((b 24), .inr (8, (txF b))) :: ((a 0), .inl (Y 0, 7533, .inl tolF)) :: ((a 2), .inl (Y 2, 400, .inl (fun _ => 0))) :: ((a 5), .inl (Y 0, 18, .inl (fun _ => 0))) :: ((a 7), .inl (Y 0, 18, .inl (fun _ => 0))) :: ((a 8), .inl (Y 0, 18, .inl (fun _ => 0))) :: ((a 9), .inl (Y 0, 18, .inl (fun _ => 0))) :: ((a 11), .inl (Y 0, 18, .inl (fun _ => 0))) :: ((a 13), .inl (Y 0, 18, .inl (fun _ => 0))) :: ((a 14), .inl (Y 0, 18, .inl (fun _ => 0))) :: ((a 26), .inl (Y 0, 30132, .inl (fun _ => 0))) :: ((a 27), .inl (Y 3, 4, .inl (fun _ => 0))) :: [])) [10, 13] [0, 1, 2, 3, 4, 5, 6, 7, 8, 9, 11, 12, 14, 15, 16, 17, 18, 19, 20, 21, 22] (rn_V (As := [.int (xs 1), .int (xs 2), .int (xs 3), .int (xs 4)]) (rest := [.int (-1)]) (b := o2) (y_weight l D Y Z H.size o2 a (xs 1) (xs 2) (xs 3) (xs 4)) ⟨hx, hb, hml, hown, hg⟩ lk_L_110 ⟨CP.blind, va_recv hKN.1 hP (ci := 11) (q0 := 10) rfl rfl, CP.at (hP.sub [10, 13] rfl) hKN (hD.sub [10, 13] (by decide) rfl)⟩ ⟨⟨rfl, rfl⟩, ⟨Nat.le_of_ble_eq_true rfl, Nat.le_of_ble_eq_true rfl⟩, ⟨Nat.le_of_ble_eq_true rfl, Nat.le_of_ble_eq_true rfl⟩⟩ hl.1 rfl (Nat.le_of_ble_eq_true rfl) dL_law_1179) hP hD hS hA rfl rfl (by decide) (by decide) (fun u11 H locs w12 hP hD hS => ?_)
  refine W.eq (g2 := F0 m 1182 ls [.int (-1), .int (-1)]) rfl ?_
  have hP : va_P D vwCl (((b 16), .inl (Y 7, 12, .inr (.inr (.inr (.inr (fun _ => none)))))) :: ((b 17), .inl (Y 8, 40, .inr (.inr (.inr (.inr (fun _ => none)))))) :: ((b 18), .inl (Y 0, 12, .inl (fun _ => 0))) :: ((b 19), .inl (Y 0, 12, .inl (fun _ => 0))) :: ((b 20), .inl (Y 0, 8, .inl (fun _ => 0))) :: ((b 21), .inl (Y 0, 8, .inl (fun _ => 0))) :: ((b 22), .inl (Y 2, 400, .inl (fun _ => 0))) :: ((b 1), .inl (Y 4, 4, .inr (.inr (.inr (.inr (fun _ => none)))))) :: ((b 5), .inr (3, (paF Z b))) :: ((b 24), .inr (8, (txF b))) :: ((a 0), .inl (Y 0, 7533, .inl tolF)) :: ((a 2), .inl (Y 2, 400, .inl (fun _ => 0))) :: ((a 5), .inl (Y 0, 18, .inl (fun _ => 0))) :: ((a 7), .inl (Y 0, 18, .inl (fun _ => 0))) :: ((a 8), .inl (Y 0, 18, .inl (fun _ => 0))) :: ((a 9), .inl (Y 0, 18, .inl (fun _ => 0))) :: ((a 11), .inl (Y 0, 18, .inl (fun _ => 0))) :: ((a 13), .inl (Y 0, 18, .inl (fun _ => 0))) :: ((a 14), .inl (Y 0, 18, .inl (fun _ => 0))) :: ((a 26), .inl (Y 0, 30132, .inl (fun _ => 0))) :: ((a 27), .inl (Y 3, 4, .inl (fun _ => 0))) :: []) H := hP
  have hD : va_D A (((b 16), .inl (Y 7, 12, .inr (.inr (.inr (.inr (fun _ => none)))))) :: ((b 17), .inl (Y 8, 40, .inr (.inr (.inr (.inr (fun _ => none)))))) :: ((b 18), .inl (Y 0, 12, .inl (fun _ => 0))) :: ((b 19), .inl (Y 0, 12, .inl (fun _ => 0))) :: ((b 20), .inl (Y 0, 8, .inl (fun _ => 0))) :: ((b 21), .inl (Y 0, 8, .inl (fun _ => 0))) :: ((b 22), .inl (Y 2, 400, .inl (fun _ => 0))) :: ((b 1), .inl (Y 4, 4, .inr (.inr (.inr (.inr (fun _ => none)))))) :: ((b 5), .inr (3, (paF Z b))) :: ((b 24), .inr (8, (txF b))) :: ((a 0), .inl (Y 0, 7533, .inl tolF)) :: ((a 2), .inl (Y 2, 400, .inl (fun _ => 0))) :: ((a 5), .inl (Y 0, 18, .inl (fun _ => 0))) :: ((a 7), .inl (Y 0, 18, .inl (fun _ => 0))) :: ((a 8), .inl (Y 0, 18, .inl (fun _ => 0))) :: ((a 9), .inl (Y 0, 18, .inl (fun _ => 0))) :: ((a 11), .inl (Y 0, 18, .inl (fun _ => 0))) :: ((a 13), .inl (Y 0, 18, .inl (fun _ => 0))) :: ((a 14), .inl (Y 0, 18, .inl (fun _ => 0))) :: ((a 26), .inl (Y 0, 30132, .inl (fun _ => 0))) :: ((a 27), .inl (Y 3, 4, .inl (fun _ => 0))) :: []) := hD
  refine lv_icmp_eq (tgt := 1885) hx hb dL_law_1182 (by decide) (fun c13 => ?_) (fun c13 => ?_)
  rotate_left
  · exact absurd c13 (by decide)
  exact lw_tail C0 hA2 (Nat.le_of_ble_eq_true rfl) (Nat.le_of_ble_eq_true rfl) hS (lv_sub hl [0, 3] rfl)
set_option maxHeartbeats 4000000 in
set_option maxRecDepth 100000 in
theorem lc_22 {p : Program} {l : Launch} {e : Env} {s : State} {m : MethodId} {below : List Frame} {meth : Method} {c : Code} {sb : Nat} {xs : Nat → Int32} (C0 : lw_At p s m meth c sb 7 xs) {D : va_G} {Y : Nat → ClassId} {Z : Nat → Nat} (hKN : KN D Y Z s) {A : Nat → Prop} (hA : ∀ q, s.heap.size ≤ q → A q) (hA2 : ∀ q, A q → s.heap.size ≤ q) {o o2 : Nat} {b a : Nat → Nat} {H : Heap} {locs : List Loc} {ls : Array Slot} (hP : va_P D vwCl (LW Y Z o o2 b a) H) (hD : va_D A (LW Y Z o o2 b a)) (hS : va_S A s.heap H locs) (hl : lv_has ls 4 [(3, .int 0), (2, .ref o2), (1, .ref o), (0, .ref sb)]) : W p l e room_1 s m #[Value.ref sb] below meth c H locs 70 52824 (lw_Z below #[Value.ref sb] s) (F0 m 1187 ls []) := by
  obtain ⟨hx, hb, hr, hml, hown, hts, hX, hbl, hlocks, hgv⟩ := id C0
  have hb : c.code = cL_law := hb
  have hown : s.vm.findClass RL = some m.cls := hown
  have hg : ∀ w ∈ GW, w.before #[Value.ref sb] s = true := fun w h => hts w (gw_tbl h)
  have hbA : ¬ A sb := fun h => absurd (hA2 sb h) (Nat.not_le.mpr hbl)
  refine lv_aload_n hx hb dL_law_1187 rfl (lv_at hl 2 rfl) ?_
  refine lv_aload_n hx hb dL_law_1188 rfl (lv_at hl 3 rfl) ?_
  refine lv_iload_n hx hb dL_law_1189 rfl (lv_at hl 0 rfl) ?_
  refine lv_iconst (v := 1) hx hb dL_law_1190 (by decide) ?_
  refine lv_iadd hx hb dL_law_1191 ?_
  refine lv_topi (fun z1 ez1 => ?_)
  obtain rfl : z1 = 1 := ez1.trans (by decide)
  refine va_sld hx hb hX hbl hbA hS (show ¬ ((1 : Int32) < 0 ∨ 7 ≤ (1 : Int32).toNatClampNeg) by decide) dL_law_1192 ?_
  refine W.eq (g2 := F0 m 1193 ls [.int (xs 1), .ref o]) rfl ?_
  refine lv_aload_n hx hb dL_law_1193 rfl (lv_at hl 3 rfl) ?_
  refine lv_iload_n hx hb dL_law_1194 rfl (lv_at hl 0 rfl) ?_
  refine lv_iconst (v := 2) hx hb dL_law_1195 (by decide) ?_
  refine lv_iadd hx hb dL_law_1196 ?_
  refine lv_topi (fun z2 ez2 => ?_)
  obtain rfl : z2 = 2 := ez2.trans (by decide)
  refine va_sld hx hb hX hbl hbA hS (show ¬ ((2 : Int32) < 0 ∨ 7 ≤ (2 : Int32).toNatClampNeg) by decide) dL_law_1197 ?_
  refine W.eq (g2 := F0 m 1198 ls [.int (xs 2), .int (xs 1), .ref o]) rfl ?_
  refine lv_aload_n hx hb dL_law_1198 rfl (lv_at hl 3 rfl) ?_
  refine lv_iload_n hx hb dL_law_1199 rfl (lv_at hl 0 rfl) ?_
  refine lv_iconst (v := 3) hx hb dL_law_1200 (by decide) ?_
  refine lv_iadd hx hb dL_law_1201 ?_
  refine lv_topi (fun z3 ez3 => ?_)
  obtain rfl : z3 = 3 := ez3.trans (by decide)
  refine va_sld hx hb hX hbl hbA hS (show ¬ ((3 : Int32) < 0 ∨ 7 ≤ (3 : Int32).toNatClampNeg) by decide) dL_law_1202 ?_
  refine W.eq (g2 := F0 m 1203 ls [.int (xs 3), .int (xs 2), .int (xs 1), .ref o]) rfl ?_
  refine cg (wc := [(o, .inr (10, (dsF b))), ((b 0), .inr (6, (skF b)))]) (wr := (((b 16), .inl (Y 7, 12, .inr (.inr (.inr (.inr (fun _ => none)))))) :: ((b 17), .inl (Y 8, 40, .inr (.inr (.inr (.inr (fun _ => none)))))) :: ((b 18), .inl (Y 0, 12, .inl (fun _ => 0))) :: ((b 19), .inl (Y 0, 12, .inl (fun _ => 0))) :: ((b 20), .inl (Y 0, 8, .inl (fun _ => 0))) :: ((b 21), .inl (Y 0, 8, .inl (fun _ => 0))) :: ((b 22), .inl (Y 2, 400, .inl (fun _ => 0))) :: ((b 1), .inl (Y 4, 4, .inr (.inr (.inr (.inr (fun _ => none)))))) :: ((b 5), .inr (3, (paF Z b))) :: ((b 24), .inr (8, (txF b))) :: (o2, .inr (11, (moF a))) :: ((a 0), .inl (Y 0, 7533, .inl tolF)) :: ((a 2), .inl (Y 2, 400, .inl (fun _ => 0))) :: ((a 3), .inl (Y 0, 3, .inl (fun _ => 0))) :: ((a 5), .inl (Y 0, 18, .inl (fun _ => 0))) :: ((a 7), .inl (Y 0, 18, .inl (fun _ => 0))) :: ((a 8), .inl (Y 0, 18, .inl (fun _ => 0))) :: ((a 9), .inl (Y 0, 18, .inl (fun _ => 0))) :: ((a 11), .inl (Y 0, 18, .inl (fun _ => 0))) :: ((a 13), .inl (Y 0, 18, .inl (fun _ => 0))) :: ((a 14), .inl (Y 0, 18, .inl (fun _ => 0))) :: ((a 26), .inl (Y 0, 30132, .inl (fun _ => 0))) :: ((a 27), .inl (Y 3, 4, .inl (fun _ => 0))) :: [])) [0, 1] [2, 3, 4, 5, 6, 7, 8, 9, 10, 11, 12, 13, 14, 15, 16, 17, 18, 19, 20, 21, 22, 23, 24] (rn_V (As := [.int (xs 1), .int (xs 2), .int (xs 3)]) (rest := []) (b := o) (x_sorted l D Y Z H.size o b (xs 1) (xs 2) (xs 3)) ⟨hx, hb, hml, hown, hg⟩ lk_L_111 ⟨CP.blind, va_recv hKN.1 hP (ci := 10) (q0 := 0) rfl rfl, CP.at (hP.sub [0, 1] rfl) hKN (hD.sub [0, 1] (by decide) rfl)⟩ ⟨⟨rfl, rfl⟩, ⟨Nat.le_of_ble_eq_true rfl, Nat.le_of_ble_eq_true rfl⟩, ⟨Nat.le_of_ble_eq_true rfl, Nat.le_of_ble_eq_true rfl⟩⟩ hl.1 rfl (Nat.le_of_ble_eq_true rfl) dL_law_1203) hP hD hS hA rfl rfl (by decide) (by decide) (fun u4 H locs w5 hP hD hS => ?_)
  refine W.eq (g2 := F0 m 1206 ls [.int (-1)]) rfl ?_
  have hP : va_P D vwCl (((b 16), .inl (Y 7, 12, .inr (.inr (.inr (.inr (fun _ => none)))))) :: ((b 17), .inl (Y 8, 40, .inr (.inr (.inr (.inr (fun _ => none)))))) :: ((b 18), .inl (Y 0, 12, .inl (fun _ => 0))) :: ((b 19), .inl (Y 0, 12, .inl (fun _ => 0))) :: ((b 20), .inl (Y 0, 8, .inl (fun _ => 0))) :: ((b 21), .inl (Y 0, 8, .inl (fun _ => 0))) :: ((b 22), .inl (Y 2, 400, .inl (fun _ => 0))) :: ((b 1), .inl (Y 4, 4, .inr (.inr (.inr (.inr (fun _ => none)))))) :: ((b 5), .inr (3, (paF Z b))) :: ((b 24), .inr (8, (txF b))) :: (o2, .inr (11, (moF a))) :: ((a 0), .inl (Y 0, 7533, .inl tolF)) :: ((a 2), .inl (Y 2, 400, .inl (fun _ => 0))) :: ((a 3), .inl (Y 0, 3, .inl (fun _ => 0))) :: ((a 5), .inl (Y 0, 18, .inl (fun _ => 0))) :: ((a 7), .inl (Y 0, 18, .inl (fun _ => 0))) :: ((a 8), .inl (Y 0, 18, .inl (fun _ => 0))) :: ((a 9), .inl (Y 0, 18, .inl (fun _ => 0))) :: ((a 11), .inl (Y 0, 18, .inl (fun _ => 0))) :: ((a 13), .inl (Y 0, 18, .inl (fun _ => 0))) :: ((a 14), .inl (Y 0, 18, .inl (fun _ => 0))) :: ((a 26), .inl (Y 0, 30132, .inl (fun _ => 0))) :: ((a 27), .inl (Y 3, 4, .inl (fun _ => 0))) :: []) H := hP
  have hD : va_D A (((b 16), .inl (Y 7, 12, .inr (.inr (.inr (.inr (fun _ => none)))))) :: ((b 17), .inl (Y 8, 40, .inr (.inr (.inr (.inr (fun _ => none)))))) :: ((b 18), .inl (Y 0, 12, .inl (fun _ => 0))) :: ((b 19), .inl (Y 0, 12, .inl (fun _ => 0))) :: ((b 20), .inl (Y 0, 8, .inl (fun _ => 0))) :: ((b 21), .inl (Y 0, 8, .inl (fun _ => 0))) :: ((b 22), .inl (Y 2, 400, .inl (fun _ => 0))) :: ((b 1), .inl (Y 4, 4, .inr (.inr (.inr (.inr (fun _ => none)))))) :: ((b 5), .inr (3, (paF Z b))) :: ((b 24), .inr (8, (txF b))) :: (o2, .inr (11, (moF a))) :: ((a 0), .inl (Y 0, 7533, .inl tolF)) :: ((a 2), .inl (Y 2, 400, .inl (fun _ => 0))) :: ((a 3), .inl (Y 0, 3, .inl (fun _ => 0))) :: ((a 5), .inl (Y 0, 18, .inl (fun _ => 0))) :: ((a 7), .inl (Y 0, 18, .inl (fun _ => 0))) :: ((a 8), .inl (Y 0, 18, .inl (fun _ => 0))) :: ((a 9), .inl (Y 0, 18, .inl (fun _ => 0))) :: ((a 11), .inl (Y 0, 18, .inl (fun _ => 0))) :: ((a 13), .inl (Y 0, 18, .inl (fun _ => 0))) :: ((a 14), .inl (Y 0, 18, .inl (fun _ => 0))) :: ((a 26), .inl (Y 0, 30132, .inl (fun _ => 0))) :: ((a 27), .inl (Y 3, 4, .inl (fun _ => 0))) :: []) := hD
  refine lv_aload_n hx hb dL_law_1206 rfl (lv_at hl 1 rfl) ?_
  refine lv_aload_n hx hb dL_law_1207 rfl (lv_at hl 3 rfl) ?_
  refine lv_iload_n hx hb dL_law_1208 rfl (lv_at hl 0 rfl) ?_
  refine lv_iconst (v := 1) hx hb dL_law_1209 (by decide) ?_
  refine lv_iadd hx hb dL_law_1210 ?_
  refine lv_topi (fun z6 ez6 => ?_)
  obtain rfl : z6 = 1 := ez6.trans (by decide)
  refine va_sld hx hb hX hbl hbA hS (show ¬ ((1 : Int32) < 0 ∨ 7 ≤ (1 : Int32).toNatClampNeg) by decide) dL_law_1211 ?_
  refine W.eq (g2 := F0 m 1212 ls [.int (xs 1), .ref o2, .int (-1)]) rfl ?_
  refine lv_aload_n hx hb dL_law_1212 rfl (lv_at hl 3 rfl) ?_
  refine lv_iload_n hx hb dL_law_1213 rfl (lv_at hl 0 rfl) ?_
  refine lv_iconst (v := 2) hx hb dL_law_1214 (by decide) ?_
  refine lv_iadd hx hb dL_law_1215 ?_
  refine lv_topi (fun z7 ez7 => ?_)
  obtain rfl : z7 = 2 := ez7.trans (by decide)
  refine va_sld hx hb hX hbl hbA hS (show ¬ ((2 : Int32) < 0 ∨ 7 ≤ (2 : Int32).toNatClampNeg) by decide) dL_law_1216 ?_
  refine W.eq (g2 := F0 m 1217 ls [.int (xs 2), .int (xs 1), .ref o2, .int (-1)]) rfl ?_
  refine lv_aload_n hx hb dL_law_1217 rfl (lv_at hl 3 rfl) ?_
  refine lv_iload_n hx hb dL_law_1218 rfl (lv_at hl 0 rfl) ?_
  refine lv_iconst (v := 3) hx hb dL_law_1219 (by decide) ?_
  refine lv_iadd hx hb dL_law_1220 ?_
  refine lv_topi (fun z8 ez8 => ?_)
  obtain rfl : z8 = 3 := ez8.trans (by decide)
  refine va_sld hx hb hX hbl hbA hS (show ¬ ((3 : Int32) < 0 ∨ 7 ≤ (3 : Int32).toNatClampNeg) by decide) dL_law_1221 ?_
  refine W.eq (g2 := F0 m 1222 ls [.int (xs 3), .int (xs 2), .int (xs 1), .ref o2, .int (-1)]) rfl ?_
  refine cg (wc := [(o2, .inr (11, (moF a))), ((a 3), .inl (Y 0, 3, .inl (fun _ => 0)))]) (wr := (((b 16), .inl (Y 7, 12, .inr (.inr (.inr (.inr (fun _ => none)))))) :: ((b 17), .inl (Y 8, 40, .inr (.inr (.inr (.inr (fun _ => none)))))) :: ((b 18), .inl (Y 0, 12, .inl (fun _ => 0))) :: ((b 19), .inl (Y 0, 12, .inl (fun _ => 0))) :: ((b 20), .inl (Y 0, 8, .inl (fun _ => 0))) :: ((b 21), .inl (Y 0, 8, .inl (fun _ => 0))) :: ((b 22), .inl (Y 2, 400, .inl (fun _ => 0))) :: ((b 1), .inl (Y 4, 4, .inr (.inr (.inr (.inr (fun _ => none)))))) :: ((b 5), .inr (3, (paF Z b))) :: ((b 24), .inr (8, (txF b))) :: ((a 0), .inl (Y 0, 7533, .inl tolF)) :: ((a 2), .inl (Y 2, 400, .inl (fun _ => 0))) :: ((a 5), .inl (Y 0, 18, .inl (fun _ => 0))) :: ((a 7), .inl (Y 0, 18, .inl (fun _ => 0))) :: ((a 8), .inl (Y 0, 18, .inl (fun _ => 0))) :: ((a 9), .inl (Y 0, 18, .inl (fun _ => 0))) :: ((a 11), .inl (Y 0, 18, .inl (fun _ => 0))) :: ((a 13), .inl (Y 0, 18, .inl (fun _ => 0))) :: ((a 14), .inl (Y 0, 18, .inl (fun _ => 0))) :: ((a 26), .inl (Y 0, 30132, .inl (fun _ => 0))) :: ((a 27), .inl (Y 3, 4, .inl (fun _ => 0))) :: [])) [10, 13] [0, 1, 2, 3, 4, 5, 6, 7, 8, 9, 11, 12, 14, 15, 16, 17, 18, 19, 20, 21, 22] (rn_V (As := [.int (xs 1), .int (xs 2), .int (xs 3)]) (rest := [.int (-1)]) (b := o2) (y_sorted l D Y Z H.size o2 a (xs 1) (xs 2) (xs 3)) ⟨hx, hb, hml, hown, hg⟩ lk_L_114 ⟨CP.blind, va_recv hKN.1 hP (ci := 11) (q0 := 10) rfl rfl, CP.at (hP.sub [10, 13] rfl) hKN (hD.sub [10, 13] (by decide) rfl)⟩ ⟨⟨rfl, rfl⟩, ⟨Nat.le_of_ble_eq_true rfl, Nat.le_of_ble_eq_true rfl⟩, ⟨Nat.le_of_ble_eq_true rfl, Nat.le_of_ble_eq_true rfl⟩⟩ hl.1 rfl (Nat.le_of_ble_eq_true rfl) dL_law_1222) hP hD hS hA rfl rfl (by decide) (by decide) (fun u9 H locs w10 hP hD hS => ?_)
  refine W.eq (g2 := F0 m 1225 ls [.int (-1), .int (-1)]) rfl ?_
  have hP : va_P D vwCl (((b 16), .inl (Y 7, 12, .inr (.inr (.inr (.inr (fun _ => none)))))) :: ((b 17), .inl (Y 8, 40, .inr (.inr (.inr (.inr (fun _ => none)))))) :: ((b 18), .inl (Y 0, 12, .inl (fun _ => 0))) :: ((b 19), .inl (Y 0, 12, .inl (fun _ => 0))) :: ((b 20), .inl (Y 0, 8, .inl (fun _ => 0))) :: ((b 21), .inl (Y 0, 8, .inl (fun _ => 0))) :: ((b 22), .inl (Y 2, 400, .inl (fun _ => 0))) :: ((b 1), .inl (Y 4, 4, .inr (.inr (.inr (.inr (fun _ => none)))))) :: ((b 5), .inr (3, (paF Z b))) :: ((b 24), .inr (8, (txF b))) :: ((a 0), .inl (Y 0, 7533, .inl tolF)) :: ((a 2), .inl (Y 2, 400, .inl (fun _ => 0))) :: ((a 5), .inl (Y 0, 18, .inl (fun _ => 0))) :: ((a 7), .inl (Y 0, 18, .inl (fun _ => 0))) :: ((a 8), .inl (Y 0, 18, .inl (fun _ => 0))) :: ((a 9), .inl (Y 0, 18, .inl (fun _ => 0))) :: ((a 11), .inl (Y 0, 18, .inl (fun _ => 0))) :: ((a 13), .inl (Y 0, 18, .inl (fun _ => 0))) :: ((a 14), .inl (Y 0, 18, .inl (fun _ => 0))) :: ((a 26), .inl (Y 0, 30132, .inl (fun _ => 0))) :: ((a 27), .inl (Y 3, 4, .inl (fun _ => 0))) :: []) H := hP
  have hD : va_D A (((b 16), .inl (Y 7, 12, .inr (.inr (.inr (.inr (fun _ => none)))))) :: ((b 17), .inl (Y 8, 40, .inr (.inr (.inr (.inr (fun _ => none)))))) :: ((b 18), .inl (Y 0, 12, .inl (fun _ => 0))) :: ((b 19), .inl (Y 0, 12, .inl (fun _ => 0))) :: ((b 20), .inl (Y 0, 8, .inl (fun _ => 0))) :: ((b 21), .inl (Y 0, 8, .inl (fun _ => 0))) :: ((b 22), .inl (Y 2, 400, .inl (fun _ => 0))) :: ((b 1), .inl (Y 4, 4, .inr (.inr (.inr (.inr (fun _ => none)))))) :: ((b 5), .inr (3, (paF Z b))) :: ((b 24), .inr (8, (txF b))) :: ((a 0), .inl (Y 0, 7533, .inl tolF)) :: ((a 2), .inl (Y 2, 400, .inl (fun _ => 0))) :: ((a 5), .inl (Y 0, 18, .inl (fun _ => 0))) :: ((a 7), .inl (Y 0, 18, .inl (fun _ => 0))) :: ((a 8), .inl (Y 0, 18, .inl (fun _ => 0))) :: ((a 9), .inl (Y 0, 18, .inl (fun _ => 0))) :: ((a 11), .inl (Y 0, 18, .inl (fun _ => 0))) :: ((a 13), .inl (Y 0, 18, .inl (fun _ => 0))) :: ((a 14), .inl (Y 0, 18, .inl (fun _ => 0))) :: ((a 26), .inl (Y 0, 30132, .inl (fun _ => 0))) :: ((a 27), .inl (Y 3, 4, .inl (fun _ => 0))) :: []) := hD
  refine lv_icmp_eq (tgt := 1885) hx hb dL_law_1225 (by decide) (fun c11 => ?_) (fun c11 => ?_)
  rotate_left
  · exact absurd c11 (by decide)
  exact lw_tail C0 hA2 (Nat.le_of_ble_eq_true rfl) (Nat.le_of_ble_eq_true rfl) hS (lv_sub hl [0, 3] rfl)
set_option maxHeartbeats 4000000 in
set_option maxRecDepth 100000 in
theorem lc_23 {p : Program} {l : Launch} {e : Env} {s : State} {m : MethodId} {below : List Frame} {meth : Method} {c : Code} {sb : Nat} {xs : Nat → Int32} (C0 : lw_At p s m meth c sb 7 xs) {D : va_G} {Y : Nat → ClassId} {Z : Nat → Nat} (hKN : KN D Y Z s) {A : Nat → Prop} (hA : ∀ q, s.heap.size ≤ q → A q) (hA2 : ∀ q, A q → s.heap.size ≤ q) {o o2 : Nat} {b a : Nat → Nat} {H : Heap} {locs : List Loc} {ls : Array Slot} (hP : va_P D vwCl (LW Y Z o o2 b a) H) (hD : va_D A (LW Y Z o o2 b a)) (hS : va_S A s.heap H locs) (hl : lv_has ls 4 [(3, .int 0), (2, .ref o2), (1, .ref o), (0, .ref sb)]) : W p l e room_1 s m #[Value.ref sb] below meth c H locs 70 52824 (lw_Z below #[Value.ref sb] s) (F0 m 1230 ls []) := by
  obtain ⟨hx, hb, hr, hml, hown, hts, hX, hbl, hlocks, hgv⟩ := id C0
  have hb : c.code = cL_law := hb
  have hown : s.vm.findClass RL = some m.cls := hown
  have hg : ∀ w ∈ GW, w.before #[Value.ref sb] s = true := fun w h => hts w (gw_tbl h)
  have hbA : ¬ A sb := fun h => absurd (hA2 sb h) (Nat.not_le.mpr hbl)
  refine lv_aload_n hx hb dL_law_1230 rfl (lv_at hl 2 rfl) ?_
  refine lv_aload_n hx hb dL_law_1231 rfl (lv_at hl 3 rfl) ?_
  refine lv_iload_n hx hb dL_law_1232 rfl (lv_at hl 0 rfl) ?_
  refine lv_iconst (v := 1) hx hb dL_law_1233 (by decide) ?_
  refine lv_iadd hx hb dL_law_1234 ?_
  refine lv_topi (fun z1 ez1 => ?_)
  obtain rfl : z1 = 1 := ez1.trans (by decide)
  refine va_sld hx hb hX hbl hbA hS (show ¬ ((1 : Int32) < 0 ∨ 7 ≤ (1 : Int32).toNatClampNeg) by decide) dL_law_1235 ?_
  refine W.eq (g2 := F0 m 1236 ls [.int (xs 1), .ref o]) rfl ?_
  refine lv_aload_n hx hb dL_law_1236 rfl (lv_at hl 3 rfl) ?_
  refine lv_iload_n hx hb dL_law_1237 rfl (lv_at hl 0 rfl) ?_
  refine lv_iconst (v := 2) hx hb dL_law_1238 (by decide) ?_
  refine lv_iadd hx hb dL_law_1239 ?_
  refine lv_topi (fun z2 ez2 => ?_)
  obtain rfl : z2 = 2 := ez2.trans (by decide)
  refine va_sld hx hb hX hbl hbA hS (show ¬ ((2 : Int32) < 0 ∨ 7 ≤ (2 : Int32).toNatClampNeg) by decide) dL_law_1240 ?_
  refine W.eq (g2 := F0 m 1241 ls [.int (xs 2), .int (xs 1), .ref o]) rfl ?_
  refine lv_aload_n hx hb dL_law_1241 rfl (lv_at hl 3 rfl) ?_
  refine lv_iload_n hx hb dL_law_1242 rfl (lv_at hl 0 rfl) ?_
  refine lv_iconst (v := 3) hx hb dL_law_1243 (by decide) ?_
  refine lv_iadd hx hb dL_law_1244 ?_
  refine lv_topi (fun z3 ez3 => ?_)
  obtain rfl : z3 = 3 := ez3.trans (by decide)
  refine va_sld hx hb hX hbl hbA hS (show ¬ ((3 : Int32) < 0 ∨ 7 ≤ (3 : Int32).toNatClampNeg) by decide) dL_law_1245 ?_
  refine W.eq (g2 := F0 m 1246 ls [.int (xs 3), .int (xs 2), .int (xs 1), .ref o]) rfl ?_
  refine lv_aload_n hx hb dL_law_1246 rfl (lv_at hl 3 rfl) ?_
  refine lv_iload_n hx hb dL_law_1247 rfl (lv_at hl 0 rfl) ?_
  refine lv_iconst (v := 4) hx hb dL_law_1248 (by decide) ?_
  refine lv_iadd hx hb dL_law_1249 ?_
  refine lv_topi (fun z4 ez4 => ?_)
  obtain rfl : z4 = 4 := ez4.trans (by decide)
  refine va_sld hx hb hX hbl hbA hS (show ¬ ((4 : Int32) < 0 ∨ 7 ≤ (4 : Int32).toNatClampNeg) by decide) dL_law_1250 ?_
  refine W.eq (g2 := F0 m 1251 ls [.int (xs 4), .int (xs 3), .int (xs 2), .int (xs 1), .ref o]) rfl ?_
  refine lv_aload_n hx hb dL_law_1251 rfl (lv_at hl 3 rfl) ?_
  refine lv_iload_n hx hb dL_law_1252 rfl (lv_at hl 0 rfl) ?_
  refine lv_iconst (v := 5) hx hb dL_law_1253 (by decide) ?_
  refine lv_iadd hx hb dL_law_1254 ?_
  refine lv_topi (fun z5 ez5 => ?_)
  obtain rfl : z5 = 5 := ez5.trans (by decide)
  refine va_sld hx hb hX hbl hbA hS (show ¬ ((5 : Int32) < 0 ∨ 7 ≤ (5 : Int32).toNatClampNeg) by decide) dL_law_1255 ?_
  refine W.eq (g2 := F0 m 1256 ls [.int (xs 5), .int (xs 4), .int (xs 3), .int (xs 2), .int (xs 1), .ref o]) rfl ?_
  refine cg (wc := [(o, .inr (10, (dsF b))), ((b 0), .inr (6, (skF b)))]) (wr := (((b 16), .inl (Y 7, 12, .inr (.inr (.inr (.inr (fun _ => none)))))) :: ((b 17), .inl (Y 8, 40, .inr (.inr (.inr (.inr (fun _ => none)))))) :: ((b 18), .inl (Y 0, 12, .inl (fun _ => 0))) :: ((b 19), .inl (Y 0, 12, .inl (fun _ => 0))) :: ((b 20), .inl (Y 0, 8, .inl (fun _ => 0))) :: ((b 21), .inl (Y 0, 8, .inl (fun _ => 0))) :: ((b 22), .inl (Y 2, 400, .inl (fun _ => 0))) :: ((b 1), .inl (Y 4, 4, .inr (.inr (.inr (.inr (fun _ => none)))))) :: ((b 5), .inr (3, (paF Z b))) :: ((b 24), .inr (8, (txF b))) :: (o2, .inr (11, (moF a))) :: ((a 0), .inl (Y 0, 7533, .inl tolF)) :: ((a 2), .inl (Y 2, 400, .inl (fun _ => 0))) :: ((a 3), .inl (Y 0, 3, .inl (fun _ => 0))) :: ((a 5), .inl (Y 0, 18, .inl (fun _ => 0))) :: ((a 7), .inl (Y 0, 18, .inl (fun _ => 0))) :: ((a 8), .inl (Y 0, 18, .inl (fun _ => 0))) :: ((a 9), .inl (Y 0, 18, .inl (fun _ => 0))) :: ((a 11), .inl (Y 0, 18, .inl (fun _ => 0))) :: ((a 13), .inl (Y 0, 18, .inl (fun _ => 0))) :: ((a 14), .inl (Y 0, 18, .inl (fun _ => 0))) :: ((a 26), .inl (Y 0, 30132, .inl (fun _ => 0))) :: ((a 27), .inl (Y 3, 4, .inl (fun _ => 0))) :: [])) [0, 1] [2, 3, 4, 5, 6, 7, 8, 9, 10, 11, 12, 13, 14, 15, 16, 17, 18, 19, 20, 21, 22, 23, 24] (rn_V (As := [.int (xs 1), .int (xs 2), .int (xs 3), .int (xs 4), .int (xs 5)]) (rest := []) (b := o) (x_odds l D Y Z H.size o b (xs 1) (xs 2) (xs 3) (xs 4) (xs 5)) ⟨hx, hb, hml, hown, hg⟩ lk_L_115 ⟨CP.blind, va_recv hKN.1 hP (ci := 10) (q0 := 0) rfl rfl, CP.at (hP.sub [0, 1] rfl) hKN (hD.sub [0, 1] (by decide) rfl)⟩ ⟨⟨rfl, rfl⟩, ⟨Nat.le_of_ble_eq_true rfl, Nat.le_of_ble_eq_true rfl⟩, ⟨Nat.le_of_ble_eq_true rfl, Nat.le_of_ble_eq_true rfl⟩⟩ hl.1 rfl (Nat.le_of_ble_eq_true rfl) dL_law_1256) hP hD hS hA rfl rfl (by decide) (by decide) (fun u6 H locs w7 hP hD hS => ?_)
  refine W.eq (g2 := F0 m 1259 ls [.int (-1)]) rfl ?_
  have hP : va_P D vwCl (((b 16), .inl (Y 7, 12, .inr (.inr (.inr (.inr (fun _ => none)))))) :: ((b 17), .inl (Y 8, 40, .inr (.inr (.inr (.inr (fun _ => none)))))) :: ((b 18), .inl (Y 0, 12, .inl (fun _ => 0))) :: ((b 19), .inl (Y 0, 12, .inl (fun _ => 0))) :: ((b 20), .inl (Y 0, 8, .inl (fun _ => 0))) :: ((b 21), .inl (Y 0, 8, .inl (fun _ => 0))) :: ((b 22), .inl (Y 2, 400, .inl (fun _ => 0))) :: ((b 1), .inl (Y 4, 4, .inr (.inr (.inr (.inr (fun _ => none)))))) :: ((b 5), .inr (3, (paF Z b))) :: ((b 24), .inr (8, (txF b))) :: (o2, .inr (11, (moF a))) :: ((a 0), .inl (Y 0, 7533, .inl tolF)) :: ((a 2), .inl (Y 2, 400, .inl (fun _ => 0))) :: ((a 3), .inl (Y 0, 3, .inl (fun _ => 0))) :: ((a 5), .inl (Y 0, 18, .inl (fun _ => 0))) :: ((a 7), .inl (Y 0, 18, .inl (fun _ => 0))) :: ((a 8), .inl (Y 0, 18, .inl (fun _ => 0))) :: ((a 9), .inl (Y 0, 18, .inl (fun _ => 0))) :: ((a 11), .inl (Y 0, 18, .inl (fun _ => 0))) :: ((a 13), .inl (Y 0, 18, .inl (fun _ => 0))) :: ((a 14), .inl (Y 0, 18, .inl (fun _ => 0))) :: ((a 26), .inl (Y 0, 30132, .inl (fun _ => 0))) :: ((a 27), .inl (Y 3, 4, .inl (fun _ => 0))) :: []) H := hP
  have hD : va_D A (((b 16), .inl (Y 7, 12, .inr (.inr (.inr (.inr (fun _ => none)))))) :: ((b 17), .inl (Y 8, 40, .inr (.inr (.inr (.inr (fun _ => none)))))) :: ((b 18), .inl (Y 0, 12, .inl (fun _ => 0))) :: ((b 19), .inl (Y 0, 12, .inl (fun _ => 0))) :: ((b 20), .inl (Y 0, 8, .inl (fun _ => 0))) :: ((b 21), .inl (Y 0, 8, .inl (fun _ => 0))) :: ((b 22), .inl (Y 2, 400, .inl (fun _ => 0))) :: ((b 1), .inl (Y 4, 4, .inr (.inr (.inr (.inr (fun _ => none)))))) :: ((b 5), .inr (3, (paF Z b))) :: ((b 24), .inr (8, (txF b))) :: (o2, .inr (11, (moF a))) :: ((a 0), .inl (Y 0, 7533, .inl tolF)) :: ((a 2), .inl (Y 2, 400, .inl (fun _ => 0))) :: ((a 3), .inl (Y 0, 3, .inl (fun _ => 0))) :: ((a 5), .inl (Y 0, 18, .inl (fun _ => 0))) :: ((a 7), .inl (Y 0, 18, .inl (fun _ => 0))) :: ((a 8), .inl (Y 0, 18, .inl (fun _ => 0))) :: ((a 9), .inl (Y 0, 18, .inl (fun _ => 0))) :: ((a 11), .inl (Y 0, 18, .inl (fun _ => 0))) :: ((a 13), .inl (Y 0, 18, .inl (fun _ => 0))) :: ((a 14), .inl (Y 0, 18, .inl (fun _ => 0))) :: ((a 26), .inl (Y 0, 30132, .inl (fun _ => 0))) :: ((a 27), .inl (Y 3, 4, .inl (fun _ => 0))) :: []) := hD
  refine lv_aload_n hx hb dL_law_1259 rfl (lv_at hl 1 rfl) ?_
  refine lv_aload_n hx hb dL_law_1260 rfl (lv_at hl 3 rfl) ?_
  refine lv_iload_n hx hb dL_law_1261 rfl (lv_at hl 0 rfl) ?_
  refine lv_iconst (v := 1) hx hb dL_law_1262 (by decide) ?_
  refine lv_iadd hx hb dL_law_1263 ?_
  refine lv_topi (fun z8 ez8 => ?_)
  obtain rfl : z8 = 1 := ez8.trans (by decide)
  refine va_sld hx hb hX hbl hbA hS (show ¬ ((1 : Int32) < 0 ∨ 7 ≤ (1 : Int32).toNatClampNeg) by decide) dL_law_1264 ?_
  refine W.eq (g2 := F0 m 1265 ls [.int (xs 1), .ref o2, .int (-1)]) rfl ?_
  refine lv_aload_n hx hb dL_law_1265 rfl (lv_at hl 3 rfl) ?_
  refine lv_iload_n hx hb dL_law_1266 rfl (lv_at hl 0 rfl) ?_
  refine lv_iconst (v := 2) hx hb dL_law_1267 (by decide) ?_
  refine lv_iadd hx hb dL_law_1268 ?_
  refine lv_topi (fun z9 ez9 => ?_)
  obtain rfl : z9 = 2 := ez9.trans (by decide)
  refine va_sld hx hb hX hbl hbA hS (show ¬ ((2 : Int32) < 0 ∨ 7 ≤ (2 : Int32).toNatClampNeg) by decide) dL_law_1269 ?_
  refine W.eq (g2 := F0 m 1270 ls [.int (xs 2), .int (xs 1), .ref o2, .int (-1)]) rfl ?_
  refine lv_aload_n hx hb dL_law_1270 rfl (lv_at hl 3 rfl) ?_
  refine lv_iload_n hx hb dL_law_1271 rfl (lv_at hl 0 rfl) ?_
  refine lv_iconst (v := 3) hx hb dL_law_1272 (by decide) ?_
  refine lv_iadd hx hb dL_law_1273 ?_
  refine lv_topi (fun z10 ez10 => ?_)
  obtain rfl : z10 = 3 := ez10.trans (by decide)
  refine va_sld hx hb hX hbl hbA hS (show ¬ ((3 : Int32) < 0 ∨ 7 ≤ (3 : Int32).toNatClampNeg) by decide) dL_law_1274 ?_
  refine W.eq (g2 := F0 m 1275 ls [.int (xs 3), .int (xs 2), .int (xs 1), .ref o2, .int (-1)]) rfl ?_
  refine lv_aload_n hx hb dL_law_1275 rfl (lv_at hl 3 rfl) ?_
  refine lv_iload_n hx hb dL_law_1276 rfl (lv_at hl 0 rfl) ?_
  refine lv_iconst (v := 4) hx hb dL_law_1277 (by decide) ?_
  refine lv_iadd hx hb dL_law_1278 ?_
  refine lv_topi (fun z11 ez11 => ?_)
  obtain rfl : z11 = 4 := ez11.trans (by decide)
  refine va_sld hx hb hX hbl hbA hS (show ¬ ((4 : Int32) < 0 ∨ 7 ≤ (4 : Int32).toNatClampNeg) by decide) dL_law_1279 ?_
  refine W.eq (g2 := F0 m 1280 ls [.int (xs 4), .int (xs 3), .int (xs 2), .int (xs 1), .ref o2, .int (-1)]) rfl ?_
  refine lv_aload_n hx hb dL_law_1280 rfl (lv_at hl 3 rfl) ?_
  refine lv_iload_n hx hb dL_law_1281 rfl (lv_at hl 0 rfl) ?_
  refine lv_iconst (v := 5) hx hb dL_law_1282 (by decide) ?_
  refine lv_iadd hx hb dL_law_1283 ?_
  refine lv_topi (fun z12 ez12 => ?_)
  obtain rfl : z12 = 5 := ez12.trans (by decide)
  refine va_sld hx hb hX hbl hbA hS (show ¬ ((5 : Int32) < 0 ∨ 7 ≤ (5 : Int32).toNatClampNeg) by decide) dL_law_1284 ?_
  refine W.eq (g2 := F0 m 1285 ls [.int (xs 5), .int (xs 4), .int (xs 3), .int (xs 2), .int (xs 1), .ref o2, .int (-1)]) rfl ?_
  refine cg (wc := [(o2, .inr (11, (moF a))), ((a 3), .inl (Y 0, 3, .inl (fun _ => 0)))]) (wr := (((b 16), .inl (Y 7, 12, .inr (.inr (.inr (.inr (fun _ => none)))))) :: ((b 17), .inl (Y 8, 40, .inr (.inr (.inr (.inr (fun _ => none)))))) :: ((b 18), .inl (Y 0, 12, .inl (fun _ => 0))) :: ((b 19), .inl (Y 0, 12, .inl (fun _ => 0))) :: ((b 20), .inl (Y 0, 8, .inl (fun _ => 0))) :: ((b 21), .inl (Y 0, 8, .inl (fun _ => 0))) :: ((b 22), .inl (Y 2, 400, .inl (fun _ => 0))) :: ((b 1), .inl (Y 4, 4, .inr (.inr (.inr (.inr (fun _ => none)))))) :: ((b 5), .inr (3, (paF Z b))) :: ((b 24), .inr (8, (txF b))) :: ((a 0), .inl (Y 0, 7533, .inl tolF)) :: ((a 2), .inl (Y 2, 400, .inl (fun _ => 0))) :: ((a 5), .inl (Y 0, 18, .inl (fun _ => 0))) :: ((a 7), .inl (Y 0, 18, .inl (fun _ => 0))) :: ((a 8), .inl (Y 0, 18, .inl (fun _ => 0))) :: ((a 9), .inl (Y 0, 18, .inl (fun _ => 0))) :: ((a 11), .inl (Y 0, 18, .inl (fun _ => 0))) :: ((a 13), .inl (Y 0, 18, .inl (fun _ => 0))) :: ((a 14), .inl (Y 0, 18, .inl (fun _ => 0))) :: ((a 26), .inl (Y 0, 30132, .inl (fun _ => 0))) :: ((a 27), .inl (Y 3, 4, .inl (fun _ => 0))) :: [])) [10, 13] [0, 1, 2, 3, 4, 5, 6, 7, 8, 9, 11, 12, 14, 15, 16, 17, 18, 19, 20, 21, 22] (rn_V (As := [.int (xs 1), .int (xs 2), .int (xs 3), .int (xs 4), .int (xs 5)]) (rest := [.int (-1)]) (b := o2) (y_odds l D Y Z H.size o2 a (xs 1) (xs 2) (xs 3) (xs 4) (xs 5)) ⟨hx, hb, hml, hown, hg⟩ lk_L_118 ⟨CP.blind, va_recv hKN.1 hP (ci := 11) (q0 := 10) rfl rfl, CP.at (hP.sub [10, 13] rfl) hKN (hD.sub [10, 13] (by decide) rfl)⟩ ⟨⟨rfl, rfl⟩, ⟨Nat.le_of_ble_eq_true rfl, Nat.le_of_ble_eq_true rfl⟩, ⟨Nat.le_of_ble_eq_true rfl, Nat.le_of_ble_eq_true rfl⟩⟩ hl.1 rfl (Nat.le_of_ble_eq_true rfl) dL_law_1285) hP hD hS hA rfl rfl (by decide) (by decide) (fun u13 H locs w14 hP hD hS => ?_)
  refine W.eq (g2 := F0 m 1288 ls [.int (-1), .int (-1)]) rfl ?_
  have hP : va_P D vwCl (((b 16), .inl (Y 7, 12, .inr (.inr (.inr (.inr (fun _ => none)))))) :: ((b 17), .inl (Y 8, 40, .inr (.inr (.inr (.inr (fun _ => none)))))) :: ((b 18), .inl (Y 0, 12, .inl (fun _ => 0))) :: ((b 19), .inl (Y 0, 12, .inl (fun _ => 0))) :: ((b 20), .inl (Y 0, 8, .inl (fun _ => 0))) :: ((b 21), .inl (Y 0, 8, .inl (fun _ => 0))) :: ((b 22), .inl (Y 2, 400, .inl (fun _ => 0))) :: ((b 1), .inl (Y 4, 4, .inr (.inr (.inr (.inr (fun _ => none)))))) :: ((b 5), .inr (3, (paF Z b))) :: ((b 24), .inr (8, (txF b))) :: ((a 0), .inl (Y 0, 7533, .inl tolF)) :: ((a 2), .inl (Y 2, 400, .inl (fun _ => 0))) :: ((a 5), .inl (Y 0, 18, .inl (fun _ => 0))) :: ((a 7), .inl (Y 0, 18, .inl (fun _ => 0))) :: ((a 8), .inl (Y 0, 18, .inl (fun _ => 0))) :: ((a 9), .inl (Y 0, 18, .inl (fun _ => 0))) :: ((a 11), .inl (Y 0, 18, .inl (fun _ => 0))) :: ((a 13), .inl (Y 0, 18, .inl (fun _ => 0))) :: ((a 14), .inl (Y 0, 18, .inl (fun _ => 0))) :: ((a 26), .inl (Y 0, 30132, .inl (fun _ => 0))) :: ((a 27), .inl (Y 3, 4, .inl (fun _ => 0))) :: []) H := hP
  have hD : va_D A (((b 16), .inl (Y 7, 12, .inr (.inr (.inr (.inr (fun _ => none)))))) :: ((b 17), .inl (Y 8, 40, .inr (.inr (.inr (.inr (fun _ => none)))))) :: ((b 18), .inl (Y 0, 12, .inl (fun _ => 0))) :: ((b 19), .inl (Y 0, 12, .inl (fun _ => 0))) :: ((b 20), .inl (Y 0, 8, .inl (fun _ => 0))) :: ((b 21), .inl (Y 0, 8, .inl (fun _ => 0))) :: ((b 22), .inl (Y 2, 400, .inl (fun _ => 0))) :: ((b 1), .inl (Y 4, 4, .inr (.inr (.inr (.inr (fun _ => none)))))) :: ((b 5), .inr (3, (paF Z b))) :: ((b 24), .inr (8, (txF b))) :: ((a 0), .inl (Y 0, 7533, .inl tolF)) :: ((a 2), .inl (Y 2, 400, .inl (fun _ => 0))) :: ((a 5), .inl (Y 0, 18, .inl (fun _ => 0))) :: ((a 7), .inl (Y 0, 18, .inl (fun _ => 0))) :: ((a 8), .inl (Y 0, 18, .inl (fun _ => 0))) :: ((a 9), .inl (Y 0, 18, .inl (fun _ => 0))) :: ((a 11), .inl (Y 0, 18, .inl (fun _ => 0))) :: ((a 13), .inl (Y 0, 18, .inl (fun _ => 0))) :: ((a 14), .inl (Y 0, 18, .inl (fun _ => 0))) :: ((a 26), .inl (Y 0, 30132, .inl (fun _ => 0))) :: ((a 27), .inl (Y 3, 4, .inl (fun _ => 0))) :: []) := hD
  refine lv_icmp_eq (tgt := 1885) hx hb dL_law_1288 (by decide) (fun c15 => ?_) (fun c15 => ?_)
  rotate_left
  · exact absurd c15 (by decide)
  exact lw_tail C0 hA2 (Nat.le_of_ble_eq_true rfl) (Nat.le_of_ble_eq_true rfl) hS (lv_sub hl [0, 3] rfl)
set_option maxHeartbeats 4000000 in
set_option maxRecDepth 100000 in
theorem lc_24 {p : Program} {l : Launch} {e : Env} {s : State} {m : MethodId} {below : List Frame} {meth : Method} {c : Code} {sb : Nat} {xs : Nat → Int32} (C0 : lw_At p s m meth c sb 7 xs) {D : va_G} {Y : Nat → ClassId} {Z : Nat → Nat} (hKN : KN D Y Z s) {A : Nat → Prop} (hA : ∀ q, s.heap.size ≤ q → A q) (hA2 : ∀ q, A q → s.heap.size ≤ q) {o o2 : Nat} {b a : Nat → Nat} {H : Heap} {locs : List Loc} {ls : Array Slot} (hP : va_P D vwCl (LW Y Z o o2 b a) H) (hD : va_D A (LW Y Z o o2 b a)) (hS : va_S A s.heap H locs) (hl : lv_has ls 4 [(3, .int 0), (2, .ref o2), (1, .ref o), (0, .ref sb)]) : W p l e room_1 s m #[Value.ref sb] below meth c H locs 70 52824 (lw_Z below #[Value.ref sb] s) (F0 m 1293 ls []) := by
  obtain ⟨hx, hb, hr, hml, hown, hts, hX, hbl, hlocks, hgv⟩ := id C0
  have hb : c.code = cL_law := hb
  have hown : s.vm.findClass RL = some m.cls := hown
  have hg : ∀ w ∈ GW, w.before #[Value.ref sb] s = true := fun w h => hts w (gw_tbl h)
  have hbA : ¬ A sb := fun h => absurd (hA2 sb h) (Nat.not_le.mpr hbl)
  refine lv_aload_n hx hb dL_law_1293 rfl (lv_at hl 2 rfl) ?_
  refine lv_aload_n hx hb dL_law_1294 rfl (lv_at hl 3 rfl) ?_
  refine lv_iload_n hx hb dL_law_1295 rfl (lv_at hl 0 rfl) ?_
  refine lv_iconst (v := 1) hx hb dL_law_1296 (by decide) ?_
  refine lv_iadd hx hb dL_law_1297 ?_
  refine lv_topi (fun z1 ez1 => ?_)
  obtain rfl : z1 = 1 := ez1.trans (by decide)
  refine va_sld hx hb hX hbl hbA hS (show ¬ ((1 : Int32) < 0 ∨ 7 ≤ (1 : Int32).toNatClampNeg) by decide) dL_law_1298 ?_
  refine W.eq (g2 := F0 m 1299 ls [.int (xs 1), .ref o]) rfl ?_
  refine lv_aload_n hx hb dL_law_1299 rfl (lv_at hl 3 rfl) ?_
  refine lv_iload_n hx hb dL_law_1300 rfl (lv_at hl 0 rfl) ?_
  refine lv_iconst (v := 2) hx hb dL_law_1301 (by decide) ?_
  refine lv_iadd hx hb dL_law_1302 ?_
  refine lv_topi (fun z2 ez2 => ?_)
  obtain rfl : z2 = 2 := ez2.trans (by decide)
  refine va_sld hx hb hX hbl hbA hS (show ¬ ((2 : Int32) < 0 ∨ 7 ≤ (2 : Int32).toNatClampNeg) by decide) dL_law_1303 ?_
  refine W.eq (g2 := F0 m 1304 ls [.int (xs 2), .int (xs 1), .ref o]) rfl ?_
  refine cg (wc := [(o, .inr (10, (dsF b)))]) (wr := (((b 0), .inr (6, (skF b))) :: ((b 16), .inl (Y 7, 12, .inr (.inr (.inr (.inr (fun _ => none)))))) :: ((b 17), .inl (Y 8, 40, .inr (.inr (.inr (.inr (fun _ => none)))))) :: ((b 18), .inl (Y 0, 12, .inl (fun _ => 0))) :: ((b 19), .inl (Y 0, 12, .inl (fun _ => 0))) :: ((b 20), .inl (Y 0, 8, .inl (fun _ => 0))) :: ((b 21), .inl (Y 0, 8, .inl (fun _ => 0))) :: ((b 22), .inl (Y 2, 400, .inl (fun _ => 0))) :: ((b 1), .inl (Y 4, 4, .inr (.inr (.inr (.inr (fun _ => none)))))) :: ((b 5), .inr (3, (paF Z b))) :: ((b 24), .inr (8, (txF b))) :: (o2, .inr (11, (moF a))) :: ((a 0), .inl (Y 0, 7533, .inl tolF)) :: ((a 2), .inl (Y 2, 400, .inl (fun _ => 0))) :: ((a 3), .inl (Y 0, 3, .inl (fun _ => 0))) :: ((a 5), .inl (Y 0, 18, .inl (fun _ => 0))) :: ((a 7), .inl (Y 0, 18, .inl (fun _ => 0))) :: ((a 8), .inl (Y 0, 18, .inl (fun _ => 0))) :: ((a 9), .inl (Y 0, 18, .inl (fun _ => 0))) :: ((a 11), .inl (Y 0, 18, .inl (fun _ => 0))) :: ((a 13), .inl (Y 0, 18, .inl (fun _ => 0))) :: ((a 14), .inl (Y 0, 18, .inl (fun _ => 0))) :: ((a 26), .inl (Y 0, 30132, .inl (fun _ => 0))) :: ((a 27), .inl (Y 3, 4, .inl (fun _ => 0))) :: [])) [0] [1, 2, 3, 4, 5, 6, 7, 8, 9, 10, 11, 12, 13, 14, 15, 16, 17, 18, 19, 20, 21, 22, 23, 24] (rn_V (As := [.int (xs 1), .int (xs 2)]) (rest := []) (b := o) (x_truly l D Y Z H.size o b (xs 1) (xs 2)) ⟨hx, hb, hml, hown, hg⟩ lk_L_119 ⟨CP.blind, va_recv hKN.1 hP (ci := 10) (q0 := 0) rfl rfl, CP.at (hP.sub [0] rfl) hKN (hD.sub [0] (by decide) rfl)⟩ ⟨⟨rfl, rfl⟩, ⟨Nat.le_of_ble_eq_true rfl, Nat.le_of_ble_eq_true rfl⟩, ⟨Nat.le_of_ble_eq_true rfl, Nat.le_of_ble_eq_true rfl⟩⟩ hl.1 rfl (Nat.le_of_ble_eq_true rfl) dL_law_1304) hP hD hS hA rfl rfl (by decide) (by decide) (fun u3 H locs w4 hP hD hS => ?_)
  refine W.eq (g2 := F0 m 1307 ls [.long (-1)]) rfl ?_
  have hP : va_P D vwCl (((b 0), .inr (6, (skF b))) :: ((b 16), .inl (Y 7, 12, .inr (.inr (.inr (.inr (fun _ => none)))))) :: ((b 17), .inl (Y 8, 40, .inr (.inr (.inr (.inr (fun _ => none)))))) :: ((b 18), .inl (Y 0, 12, .inl (fun _ => 0))) :: ((b 19), .inl (Y 0, 12, .inl (fun _ => 0))) :: ((b 20), .inl (Y 0, 8, .inl (fun _ => 0))) :: ((b 21), .inl (Y 0, 8, .inl (fun _ => 0))) :: ((b 22), .inl (Y 2, 400, .inl (fun _ => 0))) :: ((b 1), .inl (Y 4, 4, .inr (.inr (.inr (.inr (fun _ => none)))))) :: ((b 5), .inr (3, (paF Z b))) :: ((b 24), .inr (8, (txF b))) :: (o2, .inr (11, (moF a))) :: ((a 0), .inl (Y 0, 7533, .inl tolF)) :: ((a 2), .inl (Y 2, 400, .inl (fun _ => 0))) :: ((a 3), .inl (Y 0, 3, .inl (fun _ => 0))) :: ((a 5), .inl (Y 0, 18, .inl (fun _ => 0))) :: ((a 7), .inl (Y 0, 18, .inl (fun _ => 0))) :: ((a 8), .inl (Y 0, 18, .inl (fun _ => 0))) :: ((a 9), .inl (Y 0, 18, .inl (fun _ => 0))) :: ((a 11), .inl (Y 0, 18, .inl (fun _ => 0))) :: ((a 13), .inl (Y 0, 18, .inl (fun _ => 0))) :: ((a 14), .inl (Y 0, 18, .inl (fun _ => 0))) :: ((a 26), .inl (Y 0, 30132, .inl (fun _ => 0))) :: ((a 27), .inl (Y 3, 4, .inl (fun _ => 0))) :: []) H := hP
  have hD : va_D A (((b 0), .inr (6, (skF b))) :: ((b 16), .inl (Y 7, 12, .inr (.inr (.inr (.inr (fun _ => none)))))) :: ((b 17), .inl (Y 8, 40, .inr (.inr (.inr (.inr (fun _ => none)))))) :: ((b 18), .inl (Y 0, 12, .inl (fun _ => 0))) :: ((b 19), .inl (Y 0, 12, .inl (fun _ => 0))) :: ((b 20), .inl (Y 0, 8, .inl (fun _ => 0))) :: ((b 21), .inl (Y 0, 8, .inl (fun _ => 0))) :: ((b 22), .inl (Y 2, 400, .inl (fun _ => 0))) :: ((b 1), .inl (Y 4, 4, .inr (.inr (.inr (.inr (fun _ => none)))))) :: ((b 5), .inr (3, (paF Z b))) :: ((b 24), .inr (8, (txF b))) :: (o2, .inr (11, (moF a))) :: ((a 0), .inl (Y 0, 7533, .inl tolF)) :: ((a 2), .inl (Y 2, 400, .inl (fun _ => 0))) :: ((a 3), .inl (Y 0, 3, .inl (fun _ => 0))) :: ((a 5), .inl (Y 0, 18, .inl (fun _ => 0))) :: ((a 7), .inl (Y 0, 18, .inl (fun _ => 0))) :: ((a 8), .inl (Y 0, 18, .inl (fun _ => 0))) :: ((a 9), .inl (Y 0, 18, .inl (fun _ => 0))) :: ((a 11), .inl (Y 0, 18, .inl (fun _ => 0))) :: ((a 13), .inl (Y 0, 18, .inl (fun _ => 0))) :: ((a 14), .inl (Y 0, 18, .inl (fun _ => 0))) :: ((a 26), .inl (Y 0, 30132, .inl (fun _ => 0))) :: ((a 27), .inl (Y 3, 4, .inl (fun _ => 0))) :: []) := hD
  refine lv_aload_n hx hb dL_law_1307 rfl (lv_at hl 1 rfl) ?_
  refine lv_aload_n hx hb dL_law_1308 rfl (lv_at hl 3 rfl) ?_
  refine lv_iload_n hx hb dL_law_1309 rfl (lv_at hl 0 rfl) ?_
  refine lv_iconst (v := 1) hx hb dL_law_1310 (by decide) ?_
  refine lv_iadd hx hb dL_law_1311 ?_
  refine lv_topi (fun z5 ez5 => ?_)
  obtain rfl : z5 = 1 := ez5.trans (by decide)
  refine va_sld hx hb hX hbl hbA hS (show ¬ ((1 : Int32) < 0 ∨ 7 ≤ (1 : Int32).toNatClampNeg) by decide) dL_law_1312 ?_
  refine W.eq (g2 := F0 m 1313 ls [.int (xs 1), .ref o2, .long (-1)]) rfl ?_
  refine lv_aload_n hx hb dL_law_1313 rfl (lv_at hl 3 rfl) ?_
  refine lv_iload_n hx hb dL_law_1314 rfl (lv_at hl 0 rfl) ?_
  refine lv_iconst (v := 2) hx hb dL_law_1315 (by decide) ?_
  refine lv_iadd hx hb dL_law_1316 ?_
  refine lv_topi (fun z6 ez6 => ?_)
  obtain rfl : z6 = 2 := ez6.trans (by decide)
  refine va_sld hx hb hX hbl hbA hS (show ¬ ((2 : Int32) < 0 ∨ 7 ≤ (2 : Int32).toNatClampNeg) by decide) dL_law_1317 ?_
  refine W.eq (g2 := F0 m 1318 ls [.int (xs 2), .int (xs 1), .ref o2, .long (-1)]) rfl ?_
  refine cg (wc := [(o2, .inr (11, (moF a))), ((a 3), .inl (Y 0, 3, .inl (fun _ => 0)))]) (wr := (((b 0), .inr (6, (skF b))) :: ((b 16), .inl (Y 7, 12, .inr (.inr (.inr (.inr (fun _ => none)))))) :: ((b 17), .inl (Y 8, 40, .inr (.inr (.inr (.inr (fun _ => none)))))) :: ((b 18), .inl (Y 0, 12, .inl (fun _ => 0))) :: ((b 19), .inl (Y 0, 12, .inl (fun _ => 0))) :: ((b 20), .inl (Y 0, 8, .inl (fun _ => 0))) :: ((b 21), .inl (Y 0, 8, .inl (fun _ => 0))) :: ((b 22), .inl (Y 2, 400, .inl (fun _ => 0))) :: ((b 1), .inl (Y 4, 4, .inr (.inr (.inr (.inr (fun _ => none)))))) :: ((b 5), .inr (3, (paF Z b))) :: ((b 24), .inr (8, (txF b))) :: ((a 0), .inl (Y 0, 7533, .inl tolF)) :: ((a 2), .inl (Y 2, 400, .inl (fun _ => 0))) :: ((a 5), .inl (Y 0, 18, .inl (fun _ => 0))) :: ((a 7), .inl (Y 0, 18, .inl (fun _ => 0))) :: ((a 8), .inl (Y 0, 18, .inl (fun _ => 0))) :: ((a 9), .inl (Y 0, 18, .inl (fun _ => 0))) :: ((a 11), .inl (Y 0, 18, .inl (fun _ => 0))) :: ((a 13), .inl (Y 0, 18, .inl (fun _ => 0))) :: ((a 14), .inl (Y 0, 18, .inl (fun _ => 0))) :: ((a 26), .inl (Y 0, 30132, .inl (fun _ => 0))) :: ((a 27), .inl (Y 3, 4, .inl (fun _ => 0))) :: [])) [11, 14] [0, 1, 2, 3, 4, 5, 6, 7, 8, 9, 10, 12, 13, 15, 16, 17, 18, 19, 20, 21, 22, 23] (rn_V (As := [.int (xs 1), .int (xs 2)]) (rest := [.long (-1)]) (b := o2) (y_truly l D Y Z H.size o2 a (xs 1) (xs 2)) ⟨hx, hb, hml, hown, hg⟩ lk_L_123 ⟨CP.blind, va_recv hKN.1 hP (ci := 11) (q0 := 11) rfl rfl, CP.at (hP.sub [11, 14] rfl) hKN (hD.sub [11, 14] (by decide) rfl)⟩ ⟨⟨rfl, rfl⟩, ⟨Nat.le_of_ble_eq_true rfl, Nat.le_of_ble_eq_true rfl⟩, ⟨Nat.le_of_ble_eq_true rfl, Nat.le_of_ble_eq_true rfl⟩⟩ hl.1 rfl (Nat.le_of_ble_eq_true rfl) dL_law_1318) hP hD hS hA rfl rfl (by decide) (by decide) (fun u7 H locs w8 hP hD hS => ?_)
  refine W.eq (g2 := F0 m 1321 ls [.long (-1), .long (-1)]) rfl ?_
  have hP : va_P D vwCl (((b 0), .inr (6, (skF b))) :: ((b 16), .inl (Y 7, 12, .inr (.inr (.inr (.inr (fun _ => none)))))) :: ((b 17), .inl (Y 8, 40, .inr (.inr (.inr (.inr (fun _ => none)))))) :: ((b 18), .inl (Y 0, 12, .inl (fun _ => 0))) :: ((b 19), .inl (Y 0, 12, .inl (fun _ => 0))) :: ((b 20), .inl (Y 0, 8, .inl (fun _ => 0))) :: ((b 21), .inl (Y 0, 8, .inl (fun _ => 0))) :: ((b 22), .inl (Y 2, 400, .inl (fun _ => 0))) :: ((b 1), .inl (Y 4, 4, .inr (.inr (.inr (.inr (fun _ => none)))))) :: ((b 5), .inr (3, (paF Z b))) :: ((b 24), .inr (8, (txF b))) :: ((a 0), .inl (Y 0, 7533, .inl tolF)) :: ((a 2), .inl (Y 2, 400, .inl (fun _ => 0))) :: ((a 5), .inl (Y 0, 18, .inl (fun _ => 0))) :: ((a 7), .inl (Y 0, 18, .inl (fun _ => 0))) :: ((a 8), .inl (Y 0, 18, .inl (fun _ => 0))) :: ((a 9), .inl (Y 0, 18, .inl (fun _ => 0))) :: ((a 11), .inl (Y 0, 18, .inl (fun _ => 0))) :: ((a 13), .inl (Y 0, 18, .inl (fun _ => 0))) :: ((a 14), .inl (Y 0, 18, .inl (fun _ => 0))) :: ((a 26), .inl (Y 0, 30132, .inl (fun _ => 0))) :: ((a 27), .inl (Y 3, 4, .inl (fun _ => 0))) :: []) H := hP
  have hD : va_D A (((b 0), .inr (6, (skF b))) :: ((b 16), .inl (Y 7, 12, .inr (.inr (.inr (.inr (fun _ => none)))))) :: ((b 17), .inl (Y 8, 40, .inr (.inr (.inr (.inr (fun _ => none)))))) :: ((b 18), .inl (Y 0, 12, .inl (fun _ => 0))) :: ((b 19), .inl (Y 0, 12, .inl (fun _ => 0))) :: ((b 20), .inl (Y 0, 8, .inl (fun _ => 0))) :: ((b 21), .inl (Y 0, 8, .inl (fun _ => 0))) :: ((b 22), .inl (Y 2, 400, .inl (fun _ => 0))) :: ((b 1), .inl (Y 4, 4, .inr (.inr (.inr (.inr (fun _ => none)))))) :: ((b 5), .inr (3, (paF Z b))) :: ((b 24), .inr (8, (txF b))) :: ((a 0), .inl (Y 0, 7533, .inl tolF)) :: ((a 2), .inl (Y 2, 400, .inl (fun _ => 0))) :: ((a 5), .inl (Y 0, 18, .inl (fun _ => 0))) :: ((a 7), .inl (Y 0, 18, .inl (fun _ => 0))) :: ((a 8), .inl (Y 0, 18, .inl (fun _ => 0))) :: ((a 9), .inl (Y 0, 18, .inl (fun _ => 0))) :: ((a 11), .inl (Y 0, 18, .inl (fun _ => 0))) :: ((a 13), .inl (Y 0, 18, .inl (fun _ => 0))) :: ((a 14), .inl (Y 0, 18, .inl (fun _ => 0))) :: ((a 26), .inl (Y 0, 30132, .inl (fun _ => 0))) :: ((a 27), .inl (Y 3, 4, .inl (fun _ => 0))) :: []) := hD
  refine W.lcmp hx hb dL_law_1321 ?_
  refine lv_if_eq (tgt := 1885) hx hb dL_law_1322 (by decide) (fun c9 => ?_) (fun c9 => ?_)
  rotate_left
  · exact absurd c9 (by decide)
  exact lw_tail C0 hA2 (Nat.le_of_ble_eq_true rfl) (Nat.le_of_ble_eq_true rfl) hS (lv_sub hl [0, 3] rfl)
set_option maxHeartbeats 4000000 in
set_option maxRecDepth 100000 in
theorem lc_25 {p : Program} {l : Launch} {e : Env} {s : State} {m : MethodId} {below : List Frame} {meth : Method} {c : Code} {sb : Nat} {xs : Nat → Int32} (C0 : lw_At p s m meth c sb 7 xs) {D : va_G} {Y : Nat → ClassId} {Z : Nat → Nat} (hKN : KN D Y Z s) {A : Nat → Prop} (hA : ∀ q, s.heap.size ≤ q → A q) (hA2 : ∀ q, A q → s.heap.size ≤ q) {o o2 : Nat} {b a : Nat → Nat} {H : Heap} {locs : List Loc} {ls : Array Slot} (hP : va_P D vwCl (LW Y Z o o2 b a) H) (hD : va_D A (LW Y Z o o2 b a)) (hS : va_S A s.heap H locs) (hl : lv_has ls 4 [(3, .int 0), (2, .ref o2), (1, .ref o), (0, .ref sb)]) : W p l e room_1 s m #[Value.ref sb] below meth c H locs 70 52824 (lw_Z below #[Value.ref sb] s) (F0 m 1327 ls []) := by
  obtain ⟨hx, hb, hr, hml, hown, hts, hX, hbl, hlocks, hgv⟩ := id C0
  have hb : c.code = cL_law := hb
  have hown : s.vm.findClass RL = some m.cls := hown
  have hg : ∀ w ∈ GW, w.before #[Value.ref sb] s = true := fun w h => hts w (gw_tbl h)
  have hbA : ¬ A sb := fun h => absurd (hA2 sb h) (Nat.not_le.mpr hbl)
  refine lv_aload_n hx hb dL_law_1327 rfl (lv_at hl 2 rfl) ?_
  refine lv_aload_n hx hb dL_law_1328 rfl (lv_at hl 3 rfl) ?_
  refine lv_iload_n hx hb dL_law_1329 rfl (lv_at hl 0 rfl) ?_
  refine lv_iconst (v := 1) hx hb dL_law_1330 (by decide) ?_
  refine lv_iadd hx hb dL_law_1331 ?_
  refine lv_topi (fun z1 ez1 => ?_)
  obtain rfl : z1 = 1 := ez1.trans (by decide)
  refine va_sld hx hb hX hbl hbA hS (show ¬ ((1 : Int32) < 0 ∨ 7 ≤ (1 : Int32).toNatClampNeg) by decide) dL_law_1332 ?_
  refine W.eq (g2 := F0 m 1333 ls [.int (xs 1), .ref o]) rfl ?_
  refine lv_aload_n hx hb dL_law_1333 rfl (lv_at hl 3 rfl) ?_
  refine lv_iload_n hx hb dL_law_1334 rfl (lv_at hl 0 rfl) ?_
  refine lv_iconst (v := 2) hx hb dL_law_1335 (by decide) ?_
  refine lv_iadd hx hb dL_law_1336 ?_
  refine lv_topi (fun z2 ez2 => ?_)
  obtain rfl : z2 = 2 := ez2.trans (by decide)
  refine va_sld hx hb hX hbl hbA hS (show ¬ ((2 : Int32) < 0 ∨ 7 ≤ (2 : Int32).toNatClampNeg) by decide) dL_law_1337 ?_
  refine W.eq (g2 := F0 m 1338 ls [.int (xs 2), .int (xs 1), .ref o]) rfl ?_
  refine cg (wc := [(o, .inr (10, (dsF b)))]) (wr := (((b 0), .inr (6, (skF b))) :: ((b 16), .inl (Y 7, 12, .inr (.inr (.inr (.inr (fun _ => none)))))) :: ((b 17), .inl (Y 8, 40, .inr (.inr (.inr (.inr (fun _ => none)))))) :: ((b 18), .inl (Y 0, 12, .inl (fun _ => 0))) :: ((b 19), .inl (Y 0, 12, .inl (fun _ => 0))) :: ((b 20), .inl (Y 0, 8, .inl (fun _ => 0))) :: ((b 21), .inl (Y 0, 8, .inl (fun _ => 0))) :: ((b 22), .inl (Y 2, 400, .inl (fun _ => 0))) :: ((b 1), .inl (Y 4, 4, .inr (.inr (.inr (.inr (fun _ => none)))))) :: ((b 5), .inr (3, (paF Z b))) :: ((b 24), .inr (8, (txF b))) :: (o2, .inr (11, (moF a))) :: ((a 0), .inl (Y 0, 7533, .inl tolF)) :: ((a 2), .inl (Y 2, 400, .inl (fun _ => 0))) :: ((a 3), .inl (Y 0, 3, .inl (fun _ => 0))) :: ((a 5), .inl (Y 0, 18, .inl (fun _ => 0))) :: ((a 7), .inl (Y 0, 18, .inl (fun _ => 0))) :: ((a 8), .inl (Y 0, 18, .inl (fun _ => 0))) :: ((a 9), .inl (Y 0, 18, .inl (fun _ => 0))) :: ((a 11), .inl (Y 0, 18, .inl (fun _ => 0))) :: ((a 13), .inl (Y 0, 18, .inl (fun _ => 0))) :: ((a 14), .inl (Y 0, 18, .inl (fun _ => 0))) :: ((a 26), .inl (Y 0, 30132, .inl (fun _ => 0))) :: ((a 27), .inl (Y 3, 4, .inl (fun _ => 0))) :: [])) [0] [1, 2, 3, 4, 5, 6, 7, 8, 9, 10, 11, 12, 13, 14, 15, 16, 17, 18, 19, 20, 21, 22, 23, 24] (rn_V (As := [.int (xs 1), .int (xs 2)]) (rest := []) (b := o) (x_bound l D Y Z H.size o b (xs 1) (xs 2)) ⟨hx, hb, hml, hown, hg⟩ lk_L_124 ⟨CP.blind, va_recv hKN.1 hP (ci := 10) (q0 := 0) rfl rfl, CP.at (hP.sub [0] rfl) hKN (hD.sub [0] (by decide) rfl)⟩ ⟨⟨rfl, rfl⟩, ⟨Nat.le_of_ble_eq_true rfl, Nat.le_of_ble_eq_true rfl⟩, ⟨Nat.le_of_ble_eq_true rfl, Nat.le_of_ble_eq_true rfl⟩⟩ hl.1 rfl (Nat.le_of_ble_eq_true rfl) dL_law_1338) hP hD hS hA rfl rfl (by decide) (by decide) (fun u3 H locs w4 hP hD hS => ?_)
  refine W.eq (g2 := F0 m 1341 ls [.int (-1)]) rfl ?_
  have hP : va_P D vwCl (((b 0), .inr (6, (skF b))) :: ((b 16), .inl (Y 7, 12, .inr (.inr (.inr (.inr (fun _ => none)))))) :: ((b 17), .inl (Y 8, 40, .inr (.inr (.inr (.inr (fun _ => none)))))) :: ((b 18), .inl (Y 0, 12, .inl (fun _ => 0))) :: ((b 19), .inl (Y 0, 12, .inl (fun _ => 0))) :: ((b 20), .inl (Y 0, 8, .inl (fun _ => 0))) :: ((b 21), .inl (Y 0, 8, .inl (fun _ => 0))) :: ((b 22), .inl (Y 2, 400, .inl (fun _ => 0))) :: ((b 1), .inl (Y 4, 4, .inr (.inr (.inr (.inr (fun _ => none)))))) :: ((b 5), .inr (3, (paF Z b))) :: ((b 24), .inr (8, (txF b))) :: (o2, .inr (11, (moF a))) :: ((a 0), .inl (Y 0, 7533, .inl tolF)) :: ((a 2), .inl (Y 2, 400, .inl (fun _ => 0))) :: ((a 3), .inl (Y 0, 3, .inl (fun _ => 0))) :: ((a 5), .inl (Y 0, 18, .inl (fun _ => 0))) :: ((a 7), .inl (Y 0, 18, .inl (fun _ => 0))) :: ((a 8), .inl (Y 0, 18, .inl (fun _ => 0))) :: ((a 9), .inl (Y 0, 18, .inl (fun _ => 0))) :: ((a 11), .inl (Y 0, 18, .inl (fun _ => 0))) :: ((a 13), .inl (Y 0, 18, .inl (fun _ => 0))) :: ((a 14), .inl (Y 0, 18, .inl (fun _ => 0))) :: ((a 26), .inl (Y 0, 30132, .inl (fun _ => 0))) :: ((a 27), .inl (Y 3, 4, .inl (fun _ => 0))) :: []) H := hP
  have hD : va_D A (((b 0), .inr (6, (skF b))) :: ((b 16), .inl (Y 7, 12, .inr (.inr (.inr (.inr (fun _ => none)))))) :: ((b 17), .inl (Y 8, 40, .inr (.inr (.inr (.inr (fun _ => none)))))) :: ((b 18), .inl (Y 0, 12, .inl (fun _ => 0))) :: ((b 19), .inl (Y 0, 12, .inl (fun _ => 0))) :: ((b 20), .inl (Y 0, 8, .inl (fun _ => 0))) :: ((b 21), .inl (Y 0, 8, .inl (fun _ => 0))) :: ((b 22), .inl (Y 2, 400, .inl (fun _ => 0))) :: ((b 1), .inl (Y 4, 4, .inr (.inr (.inr (.inr (fun _ => none)))))) :: ((b 5), .inr (3, (paF Z b))) :: ((b 24), .inr (8, (txF b))) :: (o2, .inr (11, (moF a))) :: ((a 0), .inl (Y 0, 7533, .inl tolF)) :: ((a 2), .inl (Y 2, 400, .inl (fun _ => 0))) :: ((a 3), .inl (Y 0, 3, .inl (fun _ => 0))) :: ((a 5), .inl (Y 0, 18, .inl (fun _ => 0))) :: ((a 7), .inl (Y 0, 18, .inl (fun _ => 0))) :: ((a 8), .inl (Y 0, 18, .inl (fun _ => 0))) :: ((a 9), .inl (Y 0, 18, .inl (fun _ => 0))) :: ((a 11), .inl (Y 0, 18, .inl (fun _ => 0))) :: ((a 13), .inl (Y 0, 18, .inl (fun _ => 0))) :: ((a 14), .inl (Y 0, 18, .inl (fun _ => 0))) :: ((a 26), .inl (Y 0, 30132, .inl (fun _ => 0))) :: ((a 27), .inl (Y 3, 4, .inl (fun _ => 0))) :: []) := hD
  refine lv_aload_n hx hb dL_law_1341 rfl (lv_at hl 1 rfl) ?_
  refine lv_aload_n hx hb dL_law_1342 rfl (lv_at hl 3 rfl) ?_
  refine lv_iload_n hx hb dL_law_1343 rfl (lv_at hl 0 rfl) ?_
  refine lv_iconst (v := 1) hx hb dL_law_1344 (by decide) ?_
  refine lv_iadd hx hb dL_law_1345 ?_
  refine lv_topi (fun z5 ez5 => ?_)
  obtain rfl : z5 = 1 := ez5.trans (by decide)
  refine va_sld hx hb hX hbl hbA hS (show ¬ ((1 : Int32) < 0 ∨ 7 ≤ (1 : Int32).toNatClampNeg) by decide) dL_law_1346 ?_
  refine W.eq (g2 := F0 m 1347 ls [.int (xs 1), .ref o2, .int (-1)]) rfl ?_
  refine lv_aload_n hx hb dL_law_1347 rfl (lv_at hl 3 rfl) ?_
  refine lv_iload_n hx hb dL_law_1348 rfl (lv_at hl 0 rfl) ?_
  refine lv_iconst (v := 2) hx hb dL_law_1349 (by decide) ?_
  refine lv_iadd hx hb dL_law_1350 ?_
  refine lv_topi (fun z6 ez6 => ?_)
  obtain rfl : z6 = 2 := ez6.trans (by decide)
  refine va_sld hx hb hX hbl hbA hS (show ¬ ((2 : Int32) < 0 ∨ 7 ≤ (2 : Int32).toNatClampNeg) by decide) dL_law_1351 ?_
  refine W.eq (g2 := F0 m 1352 ls [.int (xs 2), .int (xs 1), .ref o2, .int (-1)]) rfl ?_
  refine cg (wc := [(o2, .inr (11, (moF a))), ((a 3), .inl (Y 0, 3, .inl (fun _ => 0)))]) (wr := (((b 0), .inr (6, (skF b))) :: ((b 16), .inl (Y 7, 12, .inr (.inr (.inr (.inr (fun _ => none)))))) :: ((b 17), .inl (Y 8, 40, .inr (.inr (.inr (.inr (fun _ => none)))))) :: ((b 18), .inl (Y 0, 12, .inl (fun _ => 0))) :: ((b 19), .inl (Y 0, 12, .inl (fun _ => 0))) :: ((b 20), .inl (Y 0, 8, .inl (fun _ => 0))) :: ((b 21), .inl (Y 0, 8, .inl (fun _ => 0))) :: ((b 22), .inl (Y 2, 400, .inl (fun _ => 0))) :: ((b 1), .inl (Y 4, 4, .inr (.inr (.inr (.inr (fun _ => none)))))) :: ((b 5), .inr (3, (paF Z b))) :: ((b 24), .inr (8, (txF b))) :: ((a 0), .inl (Y 0, 7533, .inl tolF)) :: ((a 2), .inl (Y 2, 400, .inl (fun _ => 0))) :: ((a 5), .inl (Y 0, 18, .inl (fun _ => 0))) :: ((a 7), .inl (Y 0, 18, .inl (fun _ => 0))) :: ((a 8), .inl (Y 0, 18, .inl (fun _ => 0))) :: ((a 9), .inl (Y 0, 18, .inl (fun _ => 0))) :: ((a 11), .inl (Y 0, 18, .inl (fun _ => 0))) :: ((a 13), .inl (Y 0, 18, .inl (fun _ => 0))) :: ((a 14), .inl (Y 0, 18, .inl (fun _ => 0))) :: ((a 26), .inl (Y 0, 30132, .inl (fun _ => 0))) :: ((a 27), .inl (Y 3, 4, .inl (fun _ => 0))) :: [])) [11, 14] [0, 1, 2, 3, 4, 5, 6, 7, 8, 9, 10, 12, 13, 15, 16, 17, 18, 19, 20, 21, 22, 23] (rn_V (As := [.int (xs 1), .int (xs 2)]) (rest := [.int (-1)]) (b := o2) (y_bound l D Y Z H.size o2 a (xs 1) (xs 2)) ⟨hx, hb, hml, hown, hg⟩ lk_L_127 ⟨CP.blind, va_recv hKN.1 hP (ci := 11) (q0 := 11) rfl rfl, CP.at (hP.sub [11, 14] rfl) hKN (hD.sub [11, 14] (by decide) rfl)⟩ ⟨⟨rfl, rfl⟩, ⟨Nat.le_of_ble_eq_true rfl, Nat.le_of_ble_eq_true rfl⟩, ⟨Nat.le_of_ble_eq_true rfl, Nat.le_of_ble_eq_true rfl⟩⟩ hl.1 rfl (Nat.le_of_ble_eq_true rfl) dL_law_1352) hP hD hS hA rfl rfl (by decide) (by decide) (fun u7 H locs w8 hP hD hS => ?_)
  refine W.eq (g2 := F0 m 1355 ls [.int (-1), .int (-1)]) rfl ?_
  have hP : va_P D vwCl (((b 0), .inr (6, (skF b))) :: ((b 16), .inl (Y 7, 12, .inr (.inr (.inr (.inr (fun _ => none)))))) :: ((b 17), .inl (Y 8, 40, .inr (.inr (.inr (.inr (fun _ => none)))))) :: ((b 18), .inl (Y 0, 12, .inl (fun _ => 0))) :: ((b 19), .inl (Y 0, 12, .inl (fun _ => 0))) :: ((b 20), .inl (Y 0, 8, .inl (fun _ => 0))) :: ((b 21), .inl (Y 0, 8, .inl (fun _ => 0))) :: ((b 22), .inl (Y 2, 400, .inl (fun _ => 0))) :: ((b 1), .inl (Y 4, 4, .inr (.inr (.inr (.inr (fun _ => none)))))) :: ((b 5), .inr (3, (paF Z b))) :: ((b 24), .inr (8, (txF b))) :: ((a 0), .inl (Y 0, 7533, .inl tolF)) :: ((a 2), .inl (Y 2, 400, .inl (fun _ => 0))) :: ((a 5), .inl (Y 0, 18, .inl (fun _ => 0))) :: ((a 7), .inl (Y 0, 18, .inl (fun _ => 0))) :: ((a 8), .inl (Y 0, 18, .inl (fun _ => 0))) :: ((a 9), .inl (Y 0, 18, .inl (fun _ => 0))) :: ((a 11), .inl (Y 0, 18, .inl (fun _ => 0))) :: ((a 13), .inl (Y 0, 18, .inl (fun _ => 0))) :: ((a 14), .inl (Y 0, 18, .inl (fun _ => 0))) :: ((a 26), .inl (Y 0, 30132, .inl (fun _ => 0))) :: ((a 27), .inl (Y 3, 4, .inl (fun _ => 0))) :: []) H := hP
  have hD : va_D A (((b 0), .inr (6, (skF b))) :: ((b 16), .inl (Y 7, 12, .inr (.inr (.inr (.inr (fun _ => none)))))) :: ((b 17), .inl (Y 8, 40, .inr (.inr (.inr (.inr (fun _ => none)))))) :: ((b 18), .inl (Y 0, 12, .inl (fun _ => 0))) :: ((b 19), .inl (Y 0, 12, .inl (fun _ => 0))) :: ((b 20), .inl (Y 0, 8, .inl (fun _ => 0))) :: ((b 21), .inl (Y 0, 8, .inl (fun _ => 0))) :: ((b 22), .inl (Y 2, 400, .inl (fun _ => 0))) :: ((b 1), .inl (Y 4, 4, .inr (.inr (.inr (.inr (fun _ => none)))))) :: ((b 5), .inr (3, (paF Z b))) :: ((b 24), .inr (8, (txF b))) :: ((a 0), .inl (Y 0, 7533, .inl tolF)) :: ((a 2), .inl (Y 2, 400, .inl (fun _ => 0))) :: ((a 5), .inl (Y 0, 18, .inl (fun _ => 0))) :: ((a 7), .inl (Y 0, 18, .inl (fun _ => 0))) :: ((a 8), .inl (Y 0, 18, .inl (fun _ => 0))) :: ((a 9), .inl (Y 0, 18, .inl (fun _ => 0))) :: ((a 11), .inl (Y 0, 18, .inl (fun _ => 0))) :: ((a 13), .inl (Y 0, 18, .inl (fun _ => 0))) :: ((a 14), .inl (Y 0, 18, .inl (fun _ => 0))) :: ((a 26), .inl (Y 0, 30132, .inl (fun _ => 0))) :: ((a 27), .inl (Y 3, 4, .inl (fun _ => 0))) :: []) := hD
  refine lv_icmp_eq (tgt := 1885) hx hb dL_law_1355 (by decide) (fun c9 => ?_) (fun c9 => ?_)
  rotate_left
  · exact absurd c9 (by decide)
  exact lw_tail C0 hA2 (Nat.le_of_ble_eq_true rfl) (Nat.le_of_ble_eq_true rfl) hS (lv_sub hl [0, 3] rfl)
set_option maxHeartbeats 4000000 in
set_option maxRecDepth 100000 in
theorem lc_26 {p : Program} {l : Launch} {e : Env} {s : State} {m : MethodId} {below : List Frame} {meth : Method} {c : Code} {sb : Nat} {xs : Nat → Int32} (C0 : lw_At p s m meth c sb 7 xs) {D : va_G} {Y : Nat → ClassId} {Z : Nat → Nat} (hKN : KN D Y Z s) {A : Nat → Prop} (hA : ∀ q, s.heap.size ≤ q → A q) (hA2 : ∀ q, A q → s.heap.size ≤ q) {o o2 : Nat} {b a : Nat → Nat} {H : Heap} {locs : List Loc} {ls : Array Slot} (hP : va_P D vwCl (LW Y Z o o2 b a) H) (hD : va_D A (LW Y Z o o2 b a)) (hS : va_S A s.heap H locs) (hl : lv_has ls 4 [(3, .int 0), (2, .ref o2), (1, .ref o), (0, .ref sb)]) : W p l e room_1 s m #[Value.ref sb] below meth c H locs 70 52824 (lw_Z below #[Value.ref sb] s) (F0 m 1360 ls []) := by
  obtain ⟨hx, hb, hr, hml, hown, hts, hX, hbl, hlocks, hgv⟩ := id C0
  have hb : c.code = cL_law := hb
  have hown : s.vm.findClass RL = some m.cls := hown
  have hg : ∀ w ∈ GW, w.before #[Value.ref sb] s = true := fun w h => hts w (gw_tbl h)
  have hbA : ¬ A sb := fun h => absurd (hA2 sb h) (Nat.not_le.mpr hbl)
  refine lv_aload_n hx hb dL_law_1360 rfl (lv_at hl 2 rfl) ?_
  refine lv_aload_n hx hb dL_law_1361 rfl (lv_at hl 3 rfl) ?_
  refine lv_iload_n hx hb dL_law_1362 rfl (lv_at hl 0 rfl) ?_
  refine lv_iconst (v := 1) hx hb dL_law_1363 (by decide) ?_
  refine lv_iadd hx hb dL_law_1364 ?_
  refine lv_topi (fun z1 ez1 => ?_)
  obtain rfl : z1 = 1 := ez1.trans (by decide)
  refine va_sld hx hb hX hbl hbA hS (show ¬ ((1 : Int32) < 0 ∨ 7 ≤ (1 : Int32).toNatClampNeg) by decide) dL_law_1365 ?_
  refine W.eq (g2 := F0 m 1366 ls [.int (xs 1), .ref o]) rfl ?_
  refine lv_aload_n hx hb dL_law_1366 rfl (lv_at hl 3 rfl) ?_
  refine lv_iload_n hx hb dL_law_1367 rfl (lv_at hl 0 rfl) ?_
  refine lv_iconst (v := 2) hx hb dL_law_1368 (by decide) ?_
  refine lv_iadd hx hb dL_law_1369 ?_
  refine lv_topi (fun z2 ez2 => ?_)
  obtain rfl : z2 = 2 := ez2.trans (by decide)
  refine va_sld hx hb hX hbl hbA hS (show ¬ ((2 : Int32) < 0 ∨ 7 ≤ (2 : Int32).toNatClampNeg) by decide) dL_law_1370 ?_
  refine W.eq (g2 := F0 m 1371 ls [.int (xs 2), .int (xs 1), .ref o]) rfl ?_
  refine lv_aload_n hx hb dL_law_1371 rfl (lv_at hl 3 rfl) ?_
  refine lv_iload_n hx hb dL_law_1372 rfl (lv_at hl 0 rfl) ?_
  refine lv_iconst (v := 3) hx hb dL_law_1373 (by decide) ?_
  refine lv_iadd hx hb dL_law_1374 ?_
  refine lv_topi (fun z3 ez3 => ?_)
  obtain rfl : z3 = 3 := ez3.trans (by decide)
  refine va_sld hx hb hX hbl hbA hS (show ¬ ((3 : Int32) < 0 ∨ 7 ≤ (3 : Int32).toNatClampNeg) by decide) dL_law_1375 ?_
  refine W.eq (g2 := F0 m 1376 ls [.int (xs 3), .int (xs 2), .int (xs 1), .ref o]) rfl ?_
  refine cg (wc := [(o, .inr (10, (dsF b)))]) (wr := (((b 0), .inr (6, (skF b))) :: ((b 16), .inl (Y 7, 12, .inr (.inr (.inr (.inr (fun _ => none)))))) :: ((b 17), .inl (Y 8, 40, .inr (.inr (.inr (.inr (fun _ => none)))))) :: ((b 18), .inl (Y 0, 12, .inl (fun _ => 0))) :: ((b 19), .inl (Y 0, 12, .inl (fun _ => 0))) :: ((b 20), .inl (Y 0, 8, .inl (fun _ => 0))) :: ((b 21), .inl (Y 0, 8, .inl (fun _ => 0))) :: ((b 22), .inl (Y 2, 400, .inl (fun _ => 0))) :: ((b 1), .inl (Y 4, 4, .inr (.inr (.inr (.inr (fun _ => none)))))) :: ((b 5), .inr (3, (paF Z b))) :: ((b 24), .inr (8, (txF b))) :: (o2, .inr (11, (moF a))) :: ((a 0), .inl (Y 0, 7533, .inl tolF)) :: ((a 2), .inl (Y 2, 400, .inl (fun _ => 0))) :: ((a 3), .inl (Y 0, 3, .inl (fun _ => 0))) :: ((a 5), .inl (Y 0, 18, .inl (fun _ => 0))) :: ((a 7), .inl (Y 0, 18, .inl (fun _ => 0))) :: ((a 8), .inl (Y 0, 18, .inl (fun _ => 0))) :: ((a 9), .inl (Y 0, 18, .inl (fun _ => 0))) :: ((a 11), .inl (Y 0, 18, .inl (fun _ => 0))) :: ((a 13), .inl (Y 0, 18, .inl (fun _ => 0))) :: ((a 14), .inl (Y 0, 18, .inl (fun _ => 0))) :: ((a 26), .inl (Y 0, 30132, .inl (fun _ => 0))) :: ((a 27), .inl (Y 3, 4, .inl (fun _ => 0))) :: [])) [0] [1, 2, 3, 4, 5, 6, 7, 8, 9, 10, 11, 12, 13, 14, 15, 16, 17, 18, 19, 20, 21, 22, 23, 24] (rn_V (As := [.int (xs 1), .int (xs 2), .int (xs 3)]) (rest := []) (b := o) (x_second l D Y Z H.size o b (xs 1) (xs 2) (xs 3)) ⟨hx, hb, hml, hown, hg⟩ lk_L_128 ⟨CP.blind, va_recv hKN.1 hP (ci := 10) (q0 := 0) rfl rfl, CP.at (hP.sub [0] rfl) hKN (hD.sub [0] (by decide) rfl)⟩ ⟨⟨rfl, rfl⟩, ⟨Nat.le_of_ble_eq_true rfl, Nat.le_of_ble_eq_true rfl⟩, ⟨Nat.le_of_ble_eq_true rfl, Nat.le_of_ble_eq_true rfl⟩⟩ hl.1 rfl (Nat.le_of_ble_eq_true rfl) dL_law_1376) hP hD hS hA rfl rfl (by decide) (by decide) (fun u4 H locs w5 hP hD hS => ?_)
  refine W.eq (g2 := F0 m 1379 ls [.long (-2)]) rfl ?_
  have hP : va_P D vwCl (((b 0), .inr (6, (skF b))) :: ((b 16), .inl (Y 7, 12, .inr (.inr (.inr (.inr (fun _ => none)))))) :: ((b 17), .inl (Y 8, 40, .inr (.inr (.inr (.inr (fun _ => none)))))) :: ((b 18), .inl (Y 0, 12, .inl (fun _ => 0))) :: ((b 19), .inl (Y 0, 12, .inl (fun _ => 0))) :: ((b 20), .inl (Y 0, 8, .inl (fun _ => 0))) :: ((b 21), .inl (Y 0, 8, .inl (fun _ => 0))) :: ((b 22), .inl (Y 2, 400, .inl (fun _ => 0))) :: ((b 1), .inl (Y 4, 4, .inr (.inr (.inr (.inr (fun _ => none)))))) :: ((b 5), .inr (3, (paF Z b))) :: ((b 24), .inr (8, (txF b))) :: (o2, .inr (11, (moF a))) :: ((a 0), .inl (Y 0, 7533, .inl tolF)) :: ((a 2), .inl (Y 2, 400, .inl (fun _ => 0))) :: ((a 3), .inl (Y 0, 3, .inl (fun _ => 0))) :: ((a 5), .inl (Y 0, 18, .inl (fun _ => 0))) :: ((a 7), .inl (Y 0, 18, .inl (fun _ => 0))) :: ((a 8), .inl (Y 0, 18, .inl (fun _ => 0))) :: ((a 9), .inl (Y 0, 18, .inl (fun _ => 0))) :: ((a 11), .inl (Y 0, 18, .inl (fun _ => 0))) :: ((a 13), .inl (Y 0, 18, .inl (fun _ => 0))) :: ((a 14), .inl (Y 0, 18, .inl (fun _ => 0))) :: ((a 26), .inl (Y 0, 30132, .inl (fun _ => 0))) :: ((a 27), .inl (Y 3, 4, .inl (fun _ => 0))) :: []) H := hP
  have hD : va_D A (((b 0), .inr (6, (skF b))) :: ((b 16), .inl (Y 7, 12, .inr (.inr (.inr (.inr (fun _ => none)))))) :: ((b 17), .inl (Y 8, 40, .inr (.inr (.inr (.inr (fun _ => none)))))) :: ((b 18), .inl (Y 0, 12, .inl (fun _ => 0))) :: ((b 19), .inl (Y 0, 12, .inl (fun _ => 0))) :: ((b 20), .inl (Y 0, 8, .inl (fun _ => 0))) :: ((b 21), .inl (Y 0, 8, .inl (fun _ => 0))) :: ((b 22), .inl (Y 2, 400, .inl (fun _ => 0))) :: ((b 1), .inl (Y 4, 4, .inr (.inr (.inr (.inr (fun _ => none)))))) :: ((b 5), .inr (3, (paF Z b))) :: ((b 24), .inr (8, (txF b))) :: (o2, .inr (11, (moF a))) :: ((a 0), .inl (Y 0, 7533, .inl tolF)) :: ((a 2), .inl (Y 2, 400, .inl (fun _ => 0))) :: ((a 3), .inl (Y 0, 3, .inl (fun _ => 0))) :: ((a 5), .inl (Y 0, 18, .inl (fun _ => 0))) :: ((a 7), .inl (Y 0, 18, .inl (fun _ => 0))) :: ((a 8), .inl (Y 0, 18, .inl (fun _ => 0))) :: ((a 9), .inl (Y 0, 18, .inl (fun _ => 0))) :: ((a 11), .inl (Y 0, 18, .inl (fun _ => 0))) :: ((a 13), .inl (Y 0, 18, .inl (fun _ => 0))) :: ((a 14), .inl (Y 0, 18, .inl (fun _ => 0))) :: ((a 26), .inl (Y 0, 30132, .inl (fun _ => 0))) :: ((a 27), .inl (Y 3, 4, .inl (fun _ => 0))) :: []) := hD
  refine lv_aload_n hx hb dL_law_1379 rfl (lv_at hl 1 rfl) ?_
  refine lv_aload_n hx hb dL_law_1380 rfl (lv_at hl 3 rfl) ?_
  refine lv_iload_n hx hb dL_law_1381 rfl (lv_at hl 0 rfl) ?_
  refine lv_iconst (v := 1) hx hb dL_law_1382 (by decide) ?_
  refine lv_iadd hx hb dL_law_1383 ?_
  refine lv_topi (fun z6 ez6 => ?_)
  obtain rfl : z6 = 1 := ez6.trans (by decide)
  refine va_sld hx hb hX hbl hbA hS (show ¬ ((1 : Int32) < 0 ∨ 7 ≤ (1 : Int32).toNatClampNeg) by decide) dL_law_1384 ?_
  refine W.eq (g2 := F0 m 1385 ls [.int (xs 1), .ref o2, .long (-2)]) rfl ?_
  refine lv_aload_n hx hb dL_law_1385 rfl (lv_at hl 3 rfl) ?_
  refine lv_iload_n hx hb dL_law_1386 rfl (lv_at hl 0 rfl) ?_
  refine lv_iconst (v := 2) hx hb dL_law_1387 (by decide) ?_
  refine lv_iadd hx hb dL_law_1388 ?_
  refine lv_topi (fun z7 ez7 => ?_)
  obtain rfl : z7 = 2 := ez7.trans (by decide)
  refine va_sld hx hb hX hbl hbA hS (show ¬ ((2 : Int32) < 0 ∨ 7 ≤ (2 : Int32).toNatClampNeg) by decide) dL_law_1389 ?_
  refine W.eq (g2 := F0 m 1390 ls [.int (xs 2), .int (xs 1), .ref o2, .long (-2)]) rfl ?_
  refine lv_aload_n hx hb dL_law_1390 rfl (lv_at hl 3 rfl) ?_
  refine lv_iload_n hx hb dL_law_1391 rfl (lv_at hl 0 rfl) ?_
  refine lv_iconst (v := 3) hx hb dL_law_1392 (by decide) ?_
  refine lv_iadd hx hb dL_law_1393 ?_
  refine lv_topi (fun z8 ez8 => ?_)
  obtain rfl : z8 = 3 := ez8.trans (by decide)
  refine va_sld hx hb hX hbl hbA hS (show ¬ ((3 : Int32) < 0 ∨ 7 ≤ (3 : Int32).toNatClampNeg) by decide) dL_law_1394 ?_
  refine W.eq (g2 := F0 m 1395 ls [.int (xs 3), .int (xs 2), .int (xs 1), .ref o2, .long (-2)]) rfl ?_
  refine cg (wc := [(o2, .inr (11, (moF a))), ((a 3), .inl (Y 0, 3, .inl (fun _ => 0)))]) (wr := (((b 0), .inr (6, (skF b))) :: ((b 16), .inl (Y 7, 12, .inr (.inr (.inr (.inr (fun _ => none)))))) :: ((b 17), .inl (Y 8, 40, .inr (.inr (.inr (.inr (fun _ => none)))))) :: ((b 18), .inl (Y 0, 12, .inl (fun _ => 0))) :: ((b 19), .inl (Y 0, 12, .inl (fun _ => 0))) :: ((b 20), .inl (Y 0, 8, .inl (fun _ => 0))) :: ((b 21), .inl (Y 0, 8, .inl (fun _ => 0))) :: ((b 22), .inl (Y 2, 400, .inl (fun _ => 0))) :: ((b 1), .inl (Y 4, 4, .inr (.inr (.inr (.inr (fun _ => none)))))) :: ((b 5), .inr (3, (paF Z b))) :: ((b 24), .inr (8, (txF b))) :: ((a 0), .inl (Y 0, 7533, .inl tolF)) :: ((a 2), .inl (Y 2, 400, .inl (fun _ => 0))) :: ((a 5), .inl (Y 0, 18, .inl (fun _ => 0))) :: ((a 7), .inl (Y 0, 18, .inl (fun _ => 0))) :: ((a 8), .inl (Y 0, 18, .inl (fun _ => 0))) :: ((a 9), .inl (Y 0, 18, .inl (fun _ => 0))) :: ((a 11), .inl (Y 0, 18, .inl (fun _ => 0))) :: ((a 13), .inl (Y 0, 18, .inl (fun _ => 0))) :: ((a 14), .inl (Y 0, 18, .inl (fun _ => 0))) :: ((a 26), .inl (Y 0, 30132, .inl (fun _ => 0))) :: ((a 27), .inl (Y 3, 4, .inl (fun _ => 0))) :: [])) [11, 14] [0, 1, 2, 3, 4, 5, 6, 7, 8, 9, 10, 12, 13, 15, 16, 17, 18, 19, 20, 21, 22, 23] (rn_V (As := [.int (xs 1), .int (xs 2), .int (xs 3)]) (rest := [.long (-2)]) (b := o2) (y_second l D Y Z H.size o2 a (xs 1) (xs 2) (xs 3)) ⟨hx, hb, hml, hown, hg⟩ lk_L_132 ⟨CP.blind, va_recv hKN.1 hP (ci := 11) (q0 := 11) rfl rfl, CP.at (hP.sub [11, 14] rfl) hKN (hD.sub [11, 14] (by decide) rfl)⟩ ⟨⟨rfl, rfl⟩, ⟨Nat.le_of_ble_eq_true rfl, Nat.le_of_ble_eq_true rfl⟩, ⟨Nat.le_of_ble_eq_true rfl, Nat.le_of_ble_eq_true rfl⟩⟩ hl.1 rfl (Nat.le_of_ble_eq_true rfl) dL_law_1395) hP hD hS hA rfl rfl (by decide) (by decide) (fun u9 H locs w10 hP hD hS => ?_)
  refine W.eq (g2 := F0 m 1398 ls [.long (-2), .long (-2)]) rfl ?_
  have hP : va_P D vwCl (((b 0), .inr (6, (skF b))) :: ((b 16), .inl (Y 7, 12, .inr (.inr (.inr (.inr (fun _ => none)))))) :: ((b 17), .inl (Y 8, 40, .inr (.inr (.inr (.inr (fun _ => none)))))) :: ((b 18), .inl (Y 0, 12, .inl (fun _ => 0))) :: ((b 19), .inl (Y 0, 12, .inl (fun _ => 0))) :: ((b 20), .inl (Y 0, 8, .inl (fun _ => 0))) :: ((b 21), .inl (Y 0, 8, .inl (fun _ => 0))) :: ((b 22), .inl (Y 2, 400, .inl (fun _ => 0))) :: ((b 1), .inl (Y 4, 4, .inr (.inr (.inr (.inr (fun _ => none)))))) :: ((b 5), .inr (3, (paF Z b))) :: ((b 24), .inr (8, (txF b))) :: ((a 0), .inl (Y 0, 7533, .inl tolF)) :: ((a 2), .inl (Y 2, 400, .inl (fun _ => 0))) :: ((a 5), .inl (Y 0, 18, .inl (fun _ => 0))) :: ((a 7), .inl (Y 0, 18, .inl (fun _ => 0))) :: ((a 8), .inl (Y 0, 18, .inl (fun _ => 0))) :: ((a 9), .inl (Y 0, 18, .inl (fun _ => 0))) :: ((a 11), .inl (Y 0, 18, .inl (fun _ => 0))) :: ((a 13), .inl (Y 0, 18, .inl (fun _ => 0))) :: ((a 14), .inl (Y 0, 18, .inl (fun _ => 0))) :: ((a 26), .inl (Y 0, 30132, .inl (fun _ => 0))) :: ((a 27), .inl (Y 3, 4, .inl (fun _ => 0))) :: []) H := hP
  have hD : va_D A (((b 0), .inr (6, (skF b))) :: ((b 16), .inl (Y 7, 12, .inr (.inr (.inr (.inr (fun _ => none)))))) :: ((b 17), .inl (Y 8, 40, .inr (.inr (.inr (.inr (fun _ => none)))))) :: ((b 18), .inl (Y 0, 12, .inl (fun _ => 0))) :: ((b 19), .inl (Y 0, 12, .inl (fun _ => 0))) :: ((b 20), .inl (Y 0, 8, .inl (fun _ => 0))) :: ((b 21), .inl (Y 0, 8, .inl (fun _ => 0))) :: ((b 22), .inl (Y 2, 400, .inl (fun _ => 0))) :: ((b 1), .inl (Y 4, 4, .inr (.inr (.inr (.inr (fun _ => none)))))) :: ((b 5), .inr (3, (paF Z b))) :: ((b 24), .inr (8, (txF b))) :: ((a 0), .inl (Y 0, 7533, .inl tolF)) :: ((a 2), .inl (Y 2, 400, .inl (fun _ => 0))) :: ((a 5), .inl (Y 0, 18, .inl (fun _ => 0))) :: ((a 7), .inl (Y 0, 18, .inl (fun _ => 0))) :: ((a 8), .inl (Y 0, 18, .inl (fun _ => 0))) :: ((a 9), .inl (Y 0, 18, .inl (fun _ => 0))) :: ((a 11), .inl (Y 0, 18, .inl (fun _ => 0))) :: ((a 13), .inl (Y 0, 18, .inl (fun _ => 0))) :: ((a 14), .inl (Y 0, 18, .inl (fun _ => 0))) :: ((a 26), .inl (Y 0, 30132, .inl (fun _ => 0))) :: ((a 27), .inl (Y 3, 4, .inl (fun _ => 0))) :: []) := hD
  refine W.lcmp hx hb dL_law_1398 ?_
  refine lv_if_eq (tgt := 1885) hx hb dL_law_1399 (by decide) (fun c11 => ?_) (fun c11 => ?_)
  rotate_left
  · exact absurd c11 (by decide)
  exact lw_tail C0 hA2 (Nat.le_of_ble_eq_true rfl) (Nat.le_of_ble_eq_true rfl) hS (lv_sub hl [0, 3] rfl)
set_option maxHeartbeats 4000000 in
set_option maxRecDepth 100000 in
theorem lc_27 {p : Program} {l : Launch} {e : Env} {s : State} {m : MethodId} {below : List Frame} {meth : Method} {c : Code} {sb : Nat} {xs : Nat → Int32} (C0 : lw_At p s m meth c sb 7 xs) {D : va_G} {Y : Nat → ClassId} {Z : Nat → Nat} (hKN : KN D Y Z s) {A : Nat → Prop} (hA : ∀ q, s.heap.size ≤ q → A q) (hA2 : ∀ q, A q → s.heap.size ≤ q) {o o2 : Nat} {b a : Nat → Nat} {H : Heap} {locs : List Loc} {ls : Array Slot} (hP : va_P D vwCl (LW Y Z o o2 b a) H) (hD : va_D A (LW Y Z o o2 b a)) (hS : va_S A s.heap H locs) (hl : lv_has ls 4 [(3, .int 0), (2, .ref o2), (1, .ref o), (0, .ref sb)]) : W p l e room_1 s m #[Value.ref sb] below meth c H locs 70 52824 (lw_Z below #[Value.ref sb] s) (F0 m 1404 ls []) := by
  obtain ⟨hx, hb, hr, hml, hown, hts, hX, hbl, hlocks, hgv⟩ := id C0
  have hb : c.code = cL_law := hb
  have hown : s.vm.findClass RL = some m.cls := hown
  have hg : ∀ w ∈ GW, w.before #[Value.ref sb] s = true := fun w h => hts w (gw_tbl h)
  have hbA : ¬ A sb := fun h => absurd (hA2 sb h) (Nat.not_le.mpr hbl)
  refine lv_aload_n hx hb dL_law_1404 rfl (lv_at hl 2 rfl) ?_
  refine lv_aload_n hx hb dL_law_1405 rfl (lv_at hl 3 rfl) ?_
  refine lv_iload_n hx hb dL_law_1406 rfl (lv_at hl 0 rfl) ?_
  refine lv_iconst (v := 1) hx hb dL_law_1407 (by decide) ?_
  refine lv_iadd hx hb dL_law_1408 ?_
  refine lv_topi (fun z1 ez1 => ?_)
  obtain rfl : z1 = 1 := ez1.trans (by decide)
  refine va_sld hx hb hX hbl hbA hS (show ¬ ((1 : Int32) < 0 ∨ 7 ≤ (1 : Int32).toNatClampNeg) by decide) dL_law_1409 ?_
  refine W.eq (g2 := F0 m 1410 ls [.int (xs 1), .ref o]) rfl ?_
  refine lv_aload_n hx hb dL_law_1410 rfl (lv_at hl 3 rfl) ?_
  refine lv_iload_n hx hb dL_law_1411 rfl (lv_at hl 0 rfl) ?_
  refine lv_iconst (v := 2) hx hb dL_law_1412 (by decide) ?_
  refine lv_iadd hx hb dL_law_1413 ?_
  refine lv_topi (fun z2 ez2 => ?_)
  obtain rfl : z2 = 2 := ez2.trans (by decide)
  refine va_sld hx hb hX hbl hbA hS (show ¬ ((2 : Int32) < 0 ∨ 7 ≤ (2 : Int32).toNatClampNeg) by decide) dL_law_1414 ?_
  refine W.eq (g2 := F0 m 1415 ls [.int (xs 2), .int (xs 1), .ref o]) rfl ?_
  refine lv_aload_n hx hb dL_law_1415 rfl (lv_at hl 3 rfl) ?_
  refine lv_iload_n hx hb dL_law_1416 rfl (lv_at hl 0 rfl) ?_
  refine lv_iconst (v := 3) hx hb dL_law_1417 (by decide) ?_
  refine lv_iadd hx hb dL_law_1418 ?_
  refine lv_topi (fun z3 ez3 => ?_)
  obtain rfl : z3 = 3 := ez3.trans (by decide)
  refine va_sld hx hb hX hbl hbA hS (show ¬ ((3 : Int32) < 0 ∨ 7 ≤ (3 : Int32).toNatClampNeg) by decide) dL_law_1419 ?_
  refine W.eq (g2 := F0 m 1420 ls [.int (xs 3), .int (xs 2), .int (xs 1), .ref o]) rfl ?_
  refine cg (wc := [(o, .inr (10, (dsF b)))]) (wr := (((b 0), .inr (6, (skF b))) :: ((b 16), .inl (Y 7, 12, .inr (.inr (.inr (.inr (fun _ => none)))))) :: ((b 17), .inl (Y 8, 40, .inr (.inr (.inr (.inr (fun _ => none)))))) :: ((b 18), .inl (Y 0, 12, .inl (fun _ => 0))) :: ((b 19), .inl (Y 0, 12, .inl (fun _ => 0))) :: ((b 20), .inl (Y 0, 8, .inl (fun _ => 0))) :: ((b 21), .inl (Y 0, 8, .inl (fun _ => 0))) :: ((b 22), .inl (Y 2, 400, .inl (fun _ => 0))) :: ((b 1), .inl (Y 4, 4, .inr (.inr (.inr (.inr (fun _ => none)))))) :: ((b 5), .inr (3, (paF Z b))) :: ((b 24), .inr (8, (txF b))) :: (o2, .inr (11, (moF a))) :: ((a 0), .inl (Y 0, 7533, .inl tolF)) :: ((a 2), .inl (Y 2, 400, .inl (fun _ => 0))) :: ((a 3), .inl (Y 0, 3, .inl (fun _ => 0))) :: ((a 5), .inl (Y 0, 18, .inl (fun _ => 0))) :: ((a 7), .inl (Y 0, 18, .inl (fun _ => 0))) :: ((a 8), .inl (Y 0, 18, .inl (fun _ => 0))) :: ((a 9), .inl (Y 0, 18, .inl (fun _ => 0))) :: ((a 11), .inl (Y 0, 18, .inl (fun _ => 0))) :: ((a 13), .inl (Y 0, 18, .inl (fun _ => 0))) :: ((a 14), .inl (Y 0, 18, .inl (fun _ => 0))) :: ((a 26), .inl (Y 0, 30132, .inl (fun _ => 0))) :: ((a 27), .inl (Y 3, 4, .inl (fun _ => 0))) :: [])) [0] [1, 2, 3, 4, 5, 6, 7, 8, 9, 10, 11, 12, 13, 14, 15, 16, 17, 18, 19, 20, 21, 22, 23, 24] (rn_V (As := [.int (xs 1), .int (xs 2), .int (xs 3)]) (rest := []) (b := o) (x_next l D Y Z H.size o b (xs 1) (xs 2) (xs 3)) ⟨hx, hb, hml, hown, hg⟩ lk_L_133 ⟨CP.blind, va_recv hKN.1 hP (ci := 10) (q0 := 0) rfl rfl, CP.at (hP.sub [0] rfl) hKN (hD.sub [0] (by decide) rfl)⟩ ⟨⟨rfl, rfl⟩, ⟨Nat.le_of_ble_eq_true rfl, Nat.le_of_ble_eq_true rfl⟩, ⟨Nat.le_of_ble_eq_true rfl, Nat.le_of_ble_eq_true rfl⟩⟩ hl.1 rfl (Nat.le_of_ble_eq_true rfl) dL_law_1420) hP hD hS hA rfl rfl (by decide) (by decide) (fun u4 H locs w5 hP hD hS => ?_)
  refine W.eq (g2 := F0 m 1423 ls [.int (-1)]) rfl ?_
  have hP : va_P D vwCl (((b 0), .inr (6, (skF b))) :: ((b 16), .inl (Y 7, 12, .inr (.inr (.inr (.inr (fun _ => none)))))) :: ((b 17), .inl (Y 8, 40, .inr (.inr (.inr (.inr (fun _ => none)))))) :: ((b 18), .inl (Y 0, 12, .inl (fun _ => 0))) :: ((b 19), .inl (Y 0, 12, .inl (fun _ => 0))) :: ((b 20), .inl (Y 0, 8, .inl (fun _ => 0))) :: ((b 21), .inl (Y 0, 8, .inl (fun _ => 0))) :: ((b 22), .inl (Y 2, 400, .inl (fun _ => 0))) :: ((b 1), .inl (Y 4, 4, .inr (.inr (.inr (.inr (fun _ => none)))))) :: ((b 5), .inr (3, (paF Z b))) :: ((b 24), .inr (8, (txF b))) :: (o2, .inr (11, (moF a))) :: ((a 0), .inl (Y 0, 7533, .inl tolF)) :: ((a 2), .inl (Y 2, 400, .inl (fun _ => 0))) :: ((a 3), .inl (Y 0, 3, .inl (fun _ => 0))) :: ((a 5), .inl (Y 0, 18, .inl (fun _ => 0))) :: ((a 7), .inl (Y 0, 18, .inl (fun _ => 0))) :: ((a 8), .inl (Y 0, 18, .inl (fun _ => 0))) :: ((a 9), .inl (Y 0, 18, .inl (fun _ => 0))) :: ((a 11), .inl (Y 0, 18, .inl (fun _ => 0))) :: ((a 13), .inl (Y 0, 18, .inl (fun _ => 0))) :: ((a 14), .inl (Y 0, 18, .inl (fun _ => 0))) :: ((a 26), .inl (Y 0, 30132, .inl (fun _ => 0))) :: ((a 27), .inl (Y 3, 4, .inl (fun _ => 0))) :: []) H := hP
  have hD : va_D A (((b 0), .inr (6, (skF b))) :: ((b 16), .inl (Y 7, 12, .inr (.inr (.inr (.inr (fun _ => none)))))) :: ((b 17), .inl (Y 8, 40, .inr (.inr (.inr (.inr (fun _ => none)))))) :: ((b 18), .inl (Y 0, 12, .inl (fun _ => 0))) :: ((b 19), .inl (Y 0, 12, .inl (fun _ => 0))) :: ((b 20), .inl (Y 0, 8, .inl (fun _ => 0))) :: ((b 21), .inl (Y 0, 8, .inl (fun _ => 0))) :: ((b 22), .inl (Y 2, 400, .inl (fun _ => 0))) :: ((b 1), .inl (Y 4, 4, .inr (.inr (.inr (.inr (fun _ => none)))))) :: ((b 5), .inr (3, (paF Z b))) :: ((b 24), .inr (8, (txF b))) :: (o2, .inr (11, (moF a))) :: ((a 0), .inl (Y 0, 7533, .inl tolF)) :: ((a 2), .inl (Y 2, 400, .inl (fun _ => 0))) :: ((a 3), .inl (Y 0, 3, .inl (fun _ => 0))) :: ((a 5), .inl (Y 0, 18, .inl (fun _ => 0))) :: ((a 7), .inl (Y 0, 18, .inl (fun _ => 0))) :: ((a 8), .inl (Y 0, 18, .inl (fun _ => 0))) :: ((a 9), .inl (Y 0, 18, .inl (fun _ => 0))) :: ((a 11), .inl (Y 0, 18, .inl (fun _ => 0))) :: ((a 13), .inl (Y 0, 18, .inl (fun _ => 0))) :: ((a 14), .inl (Y 0, 18, .inl (fun _ => 0))) :: ((a 26), .inl (Y 0, 30132, .inl (fun _ => 0))) :: ((a 27), .inl (Y 3, 4, .inl (fun _ => 0))) :: []) := hD
  refine lv_aload_n hx hb dL_law_1423 rfl (lv_at hl 1 rfl) ?_
  refine lv_aload_n hx hb dL_law_1424 rfl (lv_at hl 3 rfl) ?_
  refine lv_iload_n hx hb dL_law_1425 rfl (lv_at hl 0 rfl) ?_
  refine lv_iconst (v := 1) hx hb dL_law_1426 (by decide) ?_
  refine lv_iadd hx hb dL_law_1427 ?_
  refine lv_topi (fun z6 ez6 => ?_)
  obtain rfl : z6 = 1 := ez6.trans (by decide)
  refine va_sld hx hb hX hbl hbA hS (show ¬ ((1 : Int32) < 0 ∨ 7 ≤ (1 : Int32).toNatClampNeg) by decide) dL_law_1428 ?_
  refine W.eq (g2 := F0 m 1429 ls [.int (xs 1), .ref o2, .int (-1)]) rfl ?_
  refine lv_aload_n hx hb dL_law_1429 rfl (lv_at hl 3 rfl) ?_
  refine lv_iload_n hx hb dL_law_1430 rfl (lv_at hl 0 rfl) ?_
  refine lv_iconst (v := 2) hx hb dL_law_1431 (by decide) ?_
  refine lv_iadd hx hb dL_law_1432 ?_
  refine lv_topi (fun z7 ez7 => ?_)
  obtain rfl : z7 = 2 := ez7.trans (by decide)
  refine va_sld hx hb hX hbl hbA hS (show ¬ ((2 : Int32) < 0 ∨ 7 ≤ (2 : Int32).toNatClampNeg) by decide) dL_law_1433 ?_
  refine W.eq (g2 := F0 m 1434 ls [.int (xs 2), .int (xs 1), .ref o2, .int (-1)]) rfl ?_
  refine lv_aload_n hx hb dL_law_1434 rfl (lv_at hl 3 rfl) ?_
  refine lv_iload_n hx hb dL_law_1435 rfl (lv_at hl 0 rfl) ?_
  refine lv_iconst (v := 3) hx hb dL_law_1436 (by decide) ?_
  refine lv_iadd hx hb dL_law_1437 ?_
  refine lv_topi (fun z8 ez8 => ?_)
  obtain rfl : z8 = 3 := ez8.trans (by decide)
  refine va_sld hx hb hX hbl hbA hS (show ¬ ((3 : Int32) < 0 ∨ 7 ≤ (3 : Int32).toNatClampNeg) by decide) dL_law_1438 ?_
  refine W.eq (g2 := F0 m 1439 ls [.int (xs 3), .int (xs 2), .int (xs 1), .ref o2, .int (-1)]) rfl ?_
  refine cg (wc := [(o2, .inr (11, (moF a))), ((a 3), .inl (Y 0, 3, .inl (fun _ => 0)))]) (wr := (((b 0), .inr (6, (skF b))) :: ((b 16), .inl (Y 7, 12, .inr (.inr (.inr (.inr (fun _ => none)))))) :: ((b 17), .inl (Y 8, 40, .inr (.inr (.inr (.inr (fun _ => none)))))) :: ((b 18), .inl (Y 0, 12, .inl (fun _ => 0))) :: ((b 19), .inl (Y 0, 12, .inl (fun _ => 0))) :: ((b 20), .inl (Y 0, 8, .inl (fun _ => 0))) :: ((b 21), .inl (Y 0, 8, .inl (fun _ => 0))) :: ((b 22), .inl (Y 2, 400, .inl (fun _ => 0))) :: ((b 1), .inl (Y 4, 4, .inr (.inr (.inr (.inr (fun _ => none)))))) :: ((b 5), .inr (3, (paF Z b))) :: ((b 24), .inr (8, (txF b))) :: ((a 0), .inl (Y 0, 7533, .inl tolF)) :: ((a 2), .inl (Y 2, 400, .inl (fun _ => 0))) :: ((a 5), .inl (Y 0, 18, .inl (fun _ => 0))) :: ((a 7), .inl (Y 0, 18, .inl (fun _ => 0))) :: ((a 8), .inl (Y 0, 18, .inl (fun _ => 0))) :: ((a 9), .inl (Y 0, 18, .inl (fun _ => 0))) :: ((a 11), .inl (Y 0, 18, .inl (fun _ => 0))) :: ((a 13), .inl (Y 0, 18, .inl (fun _ => 0))) :: ((a 14), .inl (Y 0, 18, .inl (fun _ => 0))) :: ((a 26), .inl (Y 0, 30132, .inl (fun _ => 0))) :: ((a 27), .inl (Y 3, 4, .inl (fun _ => 0))) :: [])) [11, 14] [0, 1, 2, 3, 4, 5, 6, 7, 8, 9, 10, 12, 13, 15, 16, 17, 18, 19, 20, 21, 22, 23] (rn_V (As := [.int (xs 1), .int (xs 2), .int (xs 3)]) (rest := [.int (-1)]) (b := o2) (y_next l D Y Z H.size o2 a (xs 1) (xs 2) (xs 3)) ⟨hx, hb, hml, hown, hg⟩ lk_L_136 ⟨CP.blind, va_recv hKN.1 hP (ci := 11) (q0 := 11) rfl rfl, CP.at (hP.sub [11, 14] rfl) hKN (hD.sub [11, 14] (by decide) rfl)⟩ ⟨⟨rfl, rfl⟩, ⟨Nat.le_of_ble_eq_true rfl, Nat.le_of_ble_eq_true rfl⟩, ⟨Nat.le_of_ble_eq_true rfl, Nat.le_of_ble_eq_true rfl⟩⟩ hl.1 rfl (Nat.le_of_ble_eq_true rfl) dL_law_1439) hP hD hS hA rfl rfl (by decide) (by decide) (fun u9 H locs w10 hP hD hS => ?_)
  refine W.eq (g2 := F0 m 1442 ls [.int (-1), .int (-1)]) rfl ?_
  have hP : va_P D vwCl (((b 0), .inr (6, (skF b))) :: ((b 16), .inl (Y 7, 12, .inr (.inr (.inr (.inr (fun _ => none)))))) :: ((b 17), .inl (Y 8, 40, .inr (.inr (.inr (.inr (fun _ => none)))))) :: ((b 18), .inl (Y 0, 12, .inl (fun _ => 0))) :: ((b 19), .inl (Y 0, 12, .inl (fun _ => 0))) :: ((b 20), .inl (Y 0, 8, .inl (fun _ => 0))) :: ((b 21), .inl (Y 0, 8, .inl (fun _ => 0))) :: ((b 22), .inl (Y 2, 400, .inl (fun _ => 0))) :: ((b 1), .inl (Y 4, 4, .inr (.inr (.inr (.inr (fun _ => none)))))) :: ((b 5), .inr (3, (paF Z b))) :: ((b 24), .inr (8, (txF b))) :: ((a 0), .inl (Y 0, 7533, .inl tolF)) :: ((a 2), .inl (Y 2, 400, .inl (fun _ => 0))) :: ((a 5), .inl (Y 0, 18, .inl (fun _ => 0))) :: ((a 7), .inl (Y 0, 18, .inl (fun _ => 0))) :: ((a 8), .inl (Y 0, 18, .inl (fun _ => 0))) :: ((a 9), .inl (Y 0, 18, .inl (fun _ => 0))) :: ((a 11), .inl (Y 0, 18, .inl (fun _ => 0))) :: ((a 13), .inl (Y 0, 18, .inl (fun _ => 0))) :: ((a 14), .inl (Y 0, 18, .inl (fun _ => 0))) :: ((a 26), .inl (Y 0, 30132, .inl (fun _ => 0))) :: ((a 27), .inl (Y 3, 4, .inl (fun _ => 0))) :: []) H := hP
  have hD : va_D A (((b 0), .inr (6, (skF b))) :: ((b 16), .inl (Y 7, 12, .inr (.inr (.inr (.inr (fun _ => none)))))) :: ((b 17), .inl (Y 8, 40, .inr (.inr (.inr (.inr (fun _ => none)))))) :: ((b 18), .inl (Y 0, 12, .inl (fun _ => 0))) :: ((b 19), .inl (Y 0, 12, .inl (fun _ => 0))) :: ((b 20), .inl (Y 0, 8, .inl (fun _ => 0))) :: ((b 21), .inl (Y 0, 8, .inl (fun _ => 0))) :: ((b 22), .inl (Y 2, 400, .inl (fun _ => 0))) :: ((b 1), .inl (Y 4, 4, .inr (.inr (.inr (.inr (fun _ => none)))))) :: ((b 5), .inr (3, (paF Z b))) :: ((b 24), .inr (8, (txF b))) :: ((a 0), .inl (Y 0, 7533, .inl tolF)) :: ((a 2), .inl (Y 2, 400, .inl (fun _ => 0))) :: ((a 5), .inl (Y 0, 18, .inl (fun _ => 0))) :: ((a 7), .inl (Y 0, 18, .inl (fun _ => 0))) :: ((a 8), .inl (Y 0, 18, .inl (fun _ => 0))) :: ((a 9), .inl (Y 0, 18, .inl (fun _ => 0))) :: ((a 11), .inl (Y 0, 18, .inl (fun _ => 0))) :: ((a 13), .inl (Y 0, 18, .inl (fun _ => 0))) :: ((a 14), .inl (Y 0, 18, .inl (fun _ => 0))) :: ((a 26), .inl (Y 0, 30132, .inl (fun _ => 0))) :: ((a 27), .inl (Y 3, 4, .inl (fun _ => 0))) :: []) := hD
  refine lv_icmp_eq (tgt := 1885) hx hb dL_law_1442 (by decide) (fun c11 => ?_) (fun c11 => ?_)
  rotate_left
  · exact absurd c11 (by decide)
  exact lw_tail C0 hA2 (Nat.le_of_ble_eq_true rfl) (Nat.le_of_ble_eq_true rfl) hS (lv_sub hl [0, 3] rfl)
