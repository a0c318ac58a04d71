set_option maxHeartbeats 4000000 in
set_option maxRecDepth 100000 in
theorem lc_32 {p : Program} {l : Launch} {e : Env} {s : State} {m : MethodId} {below : List Frame} {meth : Method} {c : Code} {sb L : Nat} {xs : Nat → Int32} (C0 : lw_At p s m meth c sb L xs) {D : va_G} {Y : Nat → ClassId} {Z : Nat → Nat} (hKN : KN D Y Z s) {A : Nat → Prop} (hSZ : SZ Z A s s.heap) (hA : ∀ q, s.heap.size ≤ q → A q) (hA2 : ∀ q, A q → s.heap.size ≤ q) {x om : Nat} {a : Nat → Nat} {H : Heap} {locs : List Loc} {ls : Array Slot} {I : Nat → Int32} {J : Nat → Int64} {F : Nat → Nat → Int32} {G : Nat → Nat → Int64} {ws : va_W} {T : RT} {g : GN} {q : GQ} {i : Int32} {bd sd : Nat} (hL : L ≤ 3584) (hi : 0 ≤ i.toInt ∧ i.toInt + 7 ≤ (L : Int)) (hbd : bd + 1092 ≤ 600000) (hsd : sd + 7753 ≤ 7302250) (hI : LI D Y Z A s sb x om a H locs ls I J F G ws T g q i) (hK : ∀ (I : Nat → Int32) (J : Nat → Int64) (F : Nat → Nat → Int32) (G : Nat → Nat → Int64) (ws : va_W) (T : RT) (g : GN) (q : GQ) (bd2 sd2 : Nat) (H : Heap) (locs : List Loc) (ls : Array Slot), bd2 ≤ bd + 1092 → sd2 ≤ sd + 7753 → LI D Y Z A s sb x om a H locs ls I J F G ws T g q i → W p l e room_1 s m #[Value.ref sb] below meth c H locs bd2 sd2 (lw_Z below #[Value.ref sb] s) (F0 m 1878 ls [])) : W p l e room_1 s m #[Value.ref sb] below meth c H locs bd sd (lw_Z below #[Value.ref sb] s) (F0 m 1594 ls []) := by
  obtain ⟨hx, hb, hr, hml, hown, hts, hX, hbl, hlocks, hgv⟩ := id C0
  have hb : c.code = cL_law := hb
  have hown : s.vm.findClass RL = some m.cls := hown
  have hg : ∀ w ∈ GW, w.before #[Value.ref sb] s = true := fun w h => hts w (gw_tbl h)
  have hbA : ¬ A sb := fun h => absurd (hA2 sb h) (Nat.not_le.mpr hbl)
  obtain ⟨hP, hD, hS, hl, hT, htx, hLR, hm0, hm1, hm2, hm3, hm4, hm5, hm6⟩ := hI
  refine lv_aload_n hx hb dL_law_1594 rfl (lv_at hl 2 rfl) ?_
  refine lv_aload_n hx hb dL_law_1595 rfl (lv_at hl 3 rfl) ?_
  refine lv_iload_n hx hb dL_law_1596 rfl (lv_at hl 0 rfl) ?_
  refine lv_iconst (v := 1) hx hb dL_law_1597 (by decide) ?_
  refine lv_iadd hx hb dL_law_1598 ?_
  refine lv_topi (fun v1 ev1 => ?_)
  have hv1 := i_add (Eq.refl i.toInt) (show (1 : Int32).toInt = 1 by decide) ev1 (by omega) (by omega)
  refine va_sld hx hb hX hbl hbA hS (vp_in_iff.mpr ⟨by omega, by omega⟩) dL_law_1599 ?_
  refine lv_topi (fun v2 ev2 => ?_)
  obtain rfl : v2 = (xs (i.toInt.toNat + 1)) := by rw [ev2, show v1.toNatClampNeg = i.toInt.toNat + 1 by have c9 := clampI (x := v1) (by omega); omega]
  refine lv_aload_n hx hb dL_law_1600 rfl (lv_at hl 3 rfl) ?_
  refine lv_iload_n hx hb dL_law_1601 rfl (lv_at hl 0 rfl) ?_
  refine lv_iconst (v := 2) hx hb dL_law_1602 (by decide) ?_
  refine lv_iadd hx hb dL_law_1603 ?_
  refine lv_topi (fun v3 ev3 => ?_)
  have hv3 := i_add (Eq.refl i.toInt) (show (2 : Int32).toInt = 2 by decide) ev3 (by omega) (by omega)
  refine va_sld hx hb hX hbl hbA hS (vp_in_iff.mpr ⟨by omega, by omega⟩) dL_law_1604 ?_
  refine lv_topi (fun v4 ev4 => ?_)
  obtain rfl : v4 = (xs (i.toInt.toNat + 2)) := by rw [ev4, show v3.toNatClampNeg = i.toInt.toNat + 2 by have c9 := clampI (x := v3) (by omega); omega]
  refine ok1 hT htx (fun p46 a5 a6 a7 a8 a9 x10 x11 x12 a13 a14 a15 a16 a17 a18 a19 a20 a21 x22 a23 a24 hk47 h25 h26 h27 h28 h29 h30 h31 h32 h33 h34 h35 h36 h37 h38 h39 h40 h41 h42 h43 h44 h45 => ?_)
  refine cgR (rn_V (As := [.int (xs (i.toInt.toNat + 1)), .int (xs (i.toInt.toNat + 2))]) (rest := []) (b := x) (x_X10_room l D Y Z H.size ws T g q x (xs (i.toInt.toNat + 1)) (xs (i.toInt.toNat + 2)) hT htx) ⟨hx, hb, hml, hown, hg⟩ lk_L_154 ⟨CPC.blind, va_recv hKN.1 (P_r hP) (ci := 10) (q0 := p46) rfl hk47, CPC.at (P_r hP) hKN (D_r hD) hSZ hS hA⟩ ⟨⟨rfl, rfl⟩, ⟨Nat.le_of_ble_eq_true rfl, Nat.le_of_ble_eq_true rfl⟩, ⟨(show _ ≤ (600000 : Nat) by omega), (show _ ≤ (7302250 : Nat) by omega)⟩⟩ hl.1 rfl (Nat.le_of_ble_eq_true rfl) dL_law_1605) hP hD hS hA (fun u48 H locs hw49 hP hD hS => ?_)
  refine W.eq (g2 := F0 m 1608 ls [.int u48]) rfl ?_
  refine lv_pop hx hb dL_law_1608 rfl ?_
  refine lv_aload_n hx hb dL_law_1609 rfl (lv_at hl 1 rfl) ?_
  refine lv_aload_n hx hb dL_law_1610 rfl (lv_at hl 3 rfl) ?_
  refine lv_iload_n hx hb dL_law_1611 rfl (lv_at hl 0 rfl) ?_
  refine lv_iconst (v := 1) hx hb dL_law_1612 (by decide) ?_
  refine lv_iadd hx hb dL_law_1613 ?_
  refine lv_topi (fun v51 ev51 => ?_)
  have hv51 := i_add (Eq.refl i.toInt) (show (1 : Int32).toInt = 1 by decide) ev51 (by omega) (by omega)
  refine va_sld hx hb hX hbl hbA hS (vp_in_iff.mpr ⟨by omega, by omega⟩) dL_law_1614 ?_
  refine lv_topi (fun v52 ev52 => ?_)
  obtain rfl : v52 = (xs (i.toInt.toNat + 1)) := by rw [ev52, show v51.toNatClampNeg = i.toInt.toNat + 1 by have c9 := clampI (x := v51) (by omega); omega]
  refine lv_aload_n hx hb dL_law_1615 rfl (lv_at hl 3 rfl) ?_
  refine lv_iload_n hx hb dL_law_1616 rfl (lv_at hl 0 rfl) ?_
  refine lv_iconst (v := 2) hx hb dL_law_1617 (by decide) ?_
  refine lv_iadd hx hb dL_law_1618 ?_
  refine lv_topi (fun v53 ev53 => ?_)
  have hv53 := i_add (Eq.refl i.toInt) (show (2 : Int32).toInt = 2 by decide) ev53 (by omega) (by omega)
  refine va_sld hx hb hX hbl hbA hS (vp_in_iff.mpr ⟨by omega, by omega⟩) dL_law_1619 ?_
  refine lv_topi (fun v54 ev54 => ?_)
  obtain rfl : v54 = (xs (i.toInt.toNat + 2)) := by rw [ev54, show v53.toNatClampNeg = i.toInt.toNat + 2 by have c9 := clampI (x := v53) (by omega); omega]
  refine cgL (X := (MW Y om a I J F G)) (ws := ws) (rn_V (As := [.int (xs (i.toInt.toNat + 1)), .int (xs (i.toInt.toNat + 2))]) (rest := []) (b := om) (m_room l D Y Z H.size om a I J F G (xs (i.toInt.toNat + 1)) (xs (i.toInt.toNat + 2)) hm0 hm2) ⟨hx, hb, hml, hown, hg⟩ lk_L_157 ⟨CP.blind, va_recv hKN.1 (P_l hP) (ci := 11) (q0 := 0) rfl rfl, CP.at (P_l hP) hKN (D_l hD)⟩ ⟨⟨rfl, rfl⟩, ⟨Nat.le_of_ble_eq_true rfl, Nat.le_of_ble_eq_true rfl⟩, ⟨(show _ ≤ (600000 : Nat) by omega), (show _ ≤ (7302250 : Nat) by omega)⟩⟩ hl.1 rfl (Nat.le_of_ble_eq_true rfl) dL_law_1620) hP hD hS hA (fun u55 H locs hw56 hP hD hS => ?_)
  refine W.widen (k := (bd + 0)) (n := (sd + 0)) (by omega) (by omega) ?_
  refine W.eq (g2 := F0 m 1623 ls [.int u55]) rfl ?_
  have hP : va_P D vwCl ((MW Y om a I J F G) ++ ws) H := hP
  have hD : va_D A ((MW Y om a I J F G) ++ ws) := hD
  have hR58 : LN T g q x F := LN.keep hLR.1 htx TLe.rf KS.rf rfl rfl
  have hD59 : LD T g q x F := LD.keep hLR.2 htx TLe.rf KD.rf rfl
  have hR58 : LC T g q x F := ⟨hR58, hD59⟩
  refine lv_pop hx hb dL_law_1623 rfl ?_
  refine lv_goto (tgt := 1878) hx hb dL_law_1624 (by decide) ?_
  exact hK I J F G ws T g q _ _ H locs ls (by omega) (by omega) ⟨hP, hD, hS, lv_sub hl [0, 1, 2, 3] rfl, hT, htx, hR58, hm0, hm1, hm2, hm3, hm4, hm5, (show 0 ≤ (I 3).toInt ∧ (I 3).toInt ≤ 400 by omega)⟩
set_option maxHeartbeats 4000000 in
set_option maxRecDepth 100000 in
theorem lc_33 {p : Program} {l : Launch} {e : Env} {s : State} {m : MethodId} {below : List Frame} {meth : Method} {c : Code} {sb L : Nat} {xs : Nat → Int32} (C0 : lw_At p s m meth c sb L xs) {D : va_G} {Y : Nat → ClassId} {Z : Nat → Nat} (hKN : KN D Y Z s) {A : Nat → Prop} (hSZ : SZ Z A s s.heap) (hA : ∀ q, s.heap.size ≤ q → A q) (hA2 : ∀ q, A q → s.heap.size ≤ q) {x om : Nat} {a : Nat → Nat} {H : Heap} {locs : List Loc} {ls : Array Slot} {I : Nat → Int32} {J : Nat → Int64} {F : Nat → Nat → Int32} {G : Nat → Nat → Int64} {ws : va_W} {T : RT} {g : GN} {q : GQ} {i : Int32} {bd sd : Nat} (hL : L ≤ 3584) (hi : 0 ≤ i.toInt ∧ i.toInt + 7 ≤ (L : Int)) (hbd : bd + 1092 ≤ 600000) (hsd : sd + 7753 ≤ 7302250) (hI : LI D Y Z A s sb x om a H locs ls I J F G ws T g q i) (hK : ∀ (I : Nat → Int32) (J : Nat → Int64) (F : Nat → Nat → Int32) (G : Nat → Nat → Int64) (ws : va_W) (T : RT) (g : GN) (q : GQ) (bd2 sd2 : Nat) (H : Heap) (locs : List Loc) (ls : Array Slot), bd2 ≤ bd + 1092 → sd2 ≤ sd + 7753 → LI D Y Z A s sb x om a H locs ls I J F G ws T g q i → W p l e room_1 s m #[Value.ref sb] below meth c H locs bd2 sd2 (lw_Z below #[Value.ref sb] s) (F0 m 1878 ls [])) : W p l e room_1 s m #[Value.ref sb] below meth c H locs bd sd (lw_Z below #[Value.ref sb] s) (F0 m 1627 ls []) := by
  obtain ⟨hx, hb, hr, hml, hown, hts, hX, hbl, hlocks, hgv⟩ := id C0
  have hb : c.code = cL_law := hb
  have hown : s.vm.findClass RL = some m.cls := hown
  have hg : ∀ w ∈ GW, w.before #[Value.ref sb] s = true := fun w h => hts w (gw_tbl h)
  have hbA : ¬ A sb := fun h => absurd (hA2 sb h) (Nat.not_le.mpr hbl)
  obtain ⟨hP, hD, hS, hl, hT, htx, hLR, hm0, hm1, hm2, hm3, hm4, hm5, hm6⟩ := hI
  refine lv_aload_n hx hb dL_law_1627 rfl (lv_at hl 2 rfl) ?_
  refine lv_aload_n hx hb dL_law_1628 rfl (lv_at hl 3 rfl) ?_
  refine lv_iload_n hx hb dL_law_1629 rfl (lv_at hl 0 rfl) ?_
  refine lv_iconst (v := 1) hx hb dL_law_1630 (by decide) ?_
  refine lv_iadd hx hb dL_law_1631 ?_
  refine lv_topi (fun v1 ev1 => ?_)
  have hv1 := i_add (Eq.refl i.toInt) (show (1 : Int32).toInt = 1 by decide) ev1 (by omega) (by omega)
  refine va_sld hx hb hX hbl hbA hS (vp_in_iff.mpr ⟨by omega, by omega⟩) dL_law_1632 ?_
  refine lv_topi (fun v2 ev2 => ?_)
  obtain rfl : v2 = (xs (i.toInt.toNat + 1)) := by rw [ev2, show v1.toNatClampNeg = i.toInt.toNat + 1 by have c9 := clampI (x := v1) (by omega); omega]
  refine lv_aload_n hx hb dL_law_1633 rfl (lv_at hl 3 rfl) ?_
  refine lv_iload_n hx hb dL_law_1634 rfl (lv_at hl 0 rfl) ?_
  refine lv_iconst (v := 2) hx hb dL_law_1635 (by decide) ?_
  refine lv_iadd hx hb dL_law_1636 ?_
  refine lv_topi (fun v3 ev3 => ?_)
  have hv3 := i_add (Eq.refl i.toInt) (show (2 : Int32).toInt = 2 by decide) ev3 (by omega) (by omega)
  refine va_sld hx hb hX hbl hbA hS (vp_in_iff.mpr ⟨by omega, by omega⟩) dL_law_1637 ?_
  refine lv_topi (fun v4 ev4 => ?_)
  obtain rfl : v4 = (xs (i.toInt.toNat + 2)) := by rw [ev4, show v3.toNatClampNeg = i.toInt.toNat + 2 by have c9 := clampI (x := v3) (by omega); omega]
  refine lv_aload_n hx hb dL_law_1638 rfl (lv_at hl 3 rfl) ?_
  refine lv_iload_n hx hb dL_law_1639 rfl (lv_at hl 0 rfl) ?_
  refine lv_iconst (v := 3) hx hb dL_law_1640 (by decide) ?_
  refine lv_iadd hx hb dL_law_1641 ?_
  refine lv_topi (fun v5 ev5 => ?_)
  have hv5 := i_add (Eq.refl i.toInt) (show (3 : Int32).toInt = 3 by decide) ev5 (by omega) (by omega)
  refine va_sld hx hb hX hbl hbA hS (vp_in_iff.mpr ⟨by omega, by omega⟩) dL_law_1642 ?_
  refine lv_topi (fun v6 ev6 => ?_)
  obtain rfl : v6 = (xs (i.toInt.toNat + 3)) := by rw [ev6, show v5.toNatClampNeg = i.toInt.toNat + 3 by have c9 := clampI (x := v5) (by omega); omega]
  refine ok1 hT htx (fun p48 a7 a8 a9 a10 a11 x12 x13 x14 a15 a16 a17 a18 a19 a20 a21 a22 a23 x24 a25 a26 hk49 h27 h28 h29 h30 h31 h32 h33 h34 h35 h36 h37 h38 h39 h40 h41 h42 h43 h44 h45 h46 h47 => ?_)
  refine cgR (rn_V (As := [.int (xs (i.toInt.toNat + 1)), .int (xs (i.toInt.toNat + 2)), .int (xs (i.toInt.toNat + 3))]) (rest := []) (b := x) (x_X10_other l D Y Z H.size ws T g q x (xs (i.toInt.toNat + 1)) (xs (i.toInt.toNat + 2)) (xs (i.toInt.toNat + 3)) hT htx) ⟨hx, hb, hml, hown, hg⟩ lk_L_158 ⟨CPC.blind, va_recv hKN.1 (P_r hP) (ci := 10) (q0 := p48) rfl hk49, CPC.at (P_r hP) hKN (D_r hD) hSZ hS hA⟩ ⟨⟨rfl, rfl⟩, ⟨Nat.le_of_ble_eq_true rfl, Nat.le_of_ble_eq_true rfl⟩, ⟨(show _ ≤ (600000 : Nat) by omega), (show _ ≤ (7302250 : Nat) by omega)⟩⟩ hl.1 rfl (Nat.le_of_ble_eq_true rfl) dL_law_1643) hP hD hS hA (fun u50 H locs hw51 hP hD hS => ?_)
  refine W.widen (k := (bd + 1)) (n := (sd + 7)) (by omega) (by omega) ?_
  obtain ⟨u52, w53, T54⟩ := u50
  obtain ⟨le55, hT, ke56⟩ : TLe T T54 ∧ TW Y Z T54 g q w53 ∧ KF 1 T ws w53 := hw51
  have hk57 := ke56 _ _ hk49 (show (T x).1 = 1 by rw [htx])
  refine W.eq (g2 := F0 m 1646 ls [.int u52]) rfl ?_
  refine lv_pop hx hb dL_law_1646 rfl ?_
  refine lv_aload_n hx hb dL_law_1647 rfl (lv_at hl 1 rfl) ?_
  refine lv_aload_n hx hb dL_law_1648 rfl (lv_at hl 3 rfl) ?_
  refine lv_iload_n hx hb dL_law_1649 rfl (lv_at hl 0 rfl) ?_
  refine lv_iconst (v := 1) hx hb dL_law_1650 (by decide) ?_
  refine lv_iadd hx hb dL_law_1651 ?_
  refine lv_topi (fun v58 ev58 => ?_)
  have hv58 := i_add (Eq.refl i.toInt) (show (1 : Int32).toInt = 1 by decide) ev58 (by omega) (by omega)
  refine va_sld hx hb hX hbl hbA hS (vp_in_iff.mpr ⟨by omega, by omega⟩) dL_law_1652 ?_
  refine lv_topi (fun v59 ev59 => ?_)
  obtain rfl : v59 = (xs (i.toInt.toNat + 1)) := by rw [ev59, show v58.toNatClampNeg = i.toInt.toNat + 1 by have c9 := clampI (x := v58) (by omega); omega]
  refine lv_aload_n hx hb dL_law_1653 rfl (lv_at hl 3 rfl) ?_
  refine lv_iload_n hx hb dL_law_1654 rfl (lv_at hl 0 rfl) ?_
  refine lv_iconst (v := 2) hx hb dL_law_1655 (by decide) ?_
  refine lv_iadd hx hb dL_law_1656 ?_
  refine lv_topi (fun v60 ev60 => ?_)
  have hv60 := i_add (Eq.refl i.toInt) (show (2 : Int32).toInt = 2 by decide) ev60 (by omega) (by omega)
  refine va_sld hx hb hX hbl hbA hS (vp_in_iff.mpr ⟨by omega, by omega⟩) dL_law_1657 ?_
  refine lv_topi (fun v61 ev61 => ?_)
  obtain rfl : v61 = (xs (i.toInt.toNat + 2)) := by rw [ev61, show v60.toNatClampNeg = i.toInt.toNat + 2 by have c9 := clampI (x := v60) (by omega); omega]
  refine lv_aload_n hx hb dL_law_1658 rfl (lv_at hl 3 rfl) ?_
  refine lv_iload_n hx hb dL_law_1659 rfl (lv_at hl 0 rfl) ?_
  refine lv_iconst (v := 3) hx hb dL_law_1660 (by decide) ?_
  refine lv_iadd hx hb dL_law_1661 ?_
  refine lv_topi (fun v62 ev62 => ?_)
  have hv62 := i_add (Eq.refl i.toInt) (show (3 : Int32).toInt = 3 by decide) ev62 (by omega) (by omega)
  refine va_sld hx hb hX hbl hbA hS (vp_in_iff.mpr ⟨by omega, by omega⟩) dL_law_1662 ?_
  refine lv_topi (fun v63 ev63 => ?_)
  obtain rfl : v63 = (xs (i.toInt.toNat + 3)) := by rw [ev63, show v62.toNatClampNeg = i.toInt.toNat + 3 by have c9 := clampI (x := v62) (by omega); omega]
  refine cgL (X := (MW Y om a I J F G)) (ws := w53) (rn_V (As := [.int (xs (i.toInt.toNat + 1)), .int (xs (i.toInt.toNat + 2)), .int (xs (i.toInt.toNat + 3))]) (rest := []) (b := om) (m_other l D Y Z H.size om a I J F G (xs (i.toInt.toNat + 1)) (xs (i.toInt.toNat + 2)) (xs (i.toInt.toNat + 3)) hm0 hm1 hm2) ⟨hx, hb, hml, hown, hg⟩ lk_L_161 ⟨CP.blind, va_recv hKN.1 (P_l hP) (ci := 11) (q0 := 0) rfl rfl, CP.at (P_l hP) hKN (D_l hD)⟩ ⟨⟨rfl, rfl⟩, ⟨Nat.le_of_ble_eq_true rfl, Nat.le_of_ble_eq_true rfl⟩, ⟨(show _ ≤ (600000 : Nat) by omega), (show _ ≤ (7302250 : Nat) by omega)⟩⟩ hl.1 rfl (Nat.le_of_ble_eq_true rfl) dL_law_1663) hP hD hS hA (fun u64 H locs hw65 hP hD hS => ?_)
  refine W.widen (k := (bd + 1)) (n := (sd + 7)) (by omega) (by omega) ?_
  obtain ⟨u66, u67, u68, u69, u70, u71, u72, u73, u74, u75, f76, f77, f78, f79, f80, f81⟩ := u64
  have hw82 : LB f77 := hw65
  refine W.eq (g2 := F0 m 1666 ls [.int u66]) rfl ?_
  have hP : va_P D vwCl ((MW Y om a (upd (upd (upd (upd (upd I 29 u73) 34 u67) 35 u68) 36 u69) 39 u70) (vp_updL (vp_updL (vp_updL (vp_updL J 30 u74) 31 u75) 37 u71) 38 u72) (vf_upd (vf_upd (vf_upd (vf_upd F 1 f76) 28 f77) 41 f79) 43 f81) (vf_upd (vf_upd G 40 f78) 42 f80)) ++ w53) H := hP
  have hD : va_D A ((MW Y om a (upd (upd (upd (upd (upd I 29 u73) 34 u67) 35 u68) 36 u69) 39 u70) (vp_updL (vp_updL (vp_updL (vp_updL J 30 u74) 31 u75) 37 u71) 38 u72) (vf_upd (vf_upd (vf_upd (vf_upd F 1 f76) 28 f77) 41 f79) 43 f81) (vf_upd (vf_upd G 40 f78) 42 f80)) ++ w53) := hD
  have hR83 : LN T54 g q x (vf_upd (vf_upd (vf_upd (vf_upd F 1 f76) 28 f77) 41 f79) 43 f81) := LN.keep hLR.1 htx le55 KS.rf rfl rfl
  have hD84 : LD T54 g q x (vf_upd (vf_upd (vf_upd (vf_upd F 1 f76) 28 f77) 41 f79) 43 f81) := LD.keep hLR.2 htx le55 KD.rf rfl
  have hR83 : LC T54 g q x (vf_upd (vf_upd (vf_upd (vf_upd F 1 f76) 28 f77) 41 f79) 43 f81) := ⟨hR83, hD84⟩
  refine lv_pop hx hb dL_law_1666 rfl ?_
  refine lv_goto (tgt := 1878) hx hb dL_law_1667 (by decide) ?_
  exact hK (upd (upd (upd (upd (upd I 29 u73) 34 u67) 35 u68) 36 u69) 39 u70) (vp_updL (vp_updL (vp_updL (vp_updL J 30 u74) 31 u75) 37 u71) 38 u72) (vf_upd (vf_upd (vf_upd (vf_upd F 1 f76) 28 f77) 41 f79) 43 f81) (vf_upd (vf_upd G 40 f78) 42 f80) w53 T54 g q _ _ H locs ls (by omega) (by omega) ⟨hP, hD, hS, lv_sub hl [0, 1, 2, 3] rfl, hT, (le55.up htx), hR83, hm0, hw82, hm2, hm3, hm4, hm5, (show 0 ≤ (I 3).toInt ∧ (I 3).toInt ≤ 400 by omega)⟩
set_option maxHeartbeats 4000000 in
set_option maxRecDepth 100000 in
theorem lc_34 {p : Program} {l : Launch} {e : Env} {s : State} {m : MethodId} {below : List Frame} {meth : Method} {c : Code} {sb L : Nat} {xs : Nat → Int32} (C0 : lw_At p s m meth c sb L xs) {D : va_G} {Y : Nat → ClassId} {Z : Nat → Nat} (hKN : KN D Y Z s) {A : Nat → Prop} (hSZ : SZ Z A s s.heap) (hA : ∀ q, s.heap.size ≤ q → A q) (hA2 : ∀ q, A q → s.heap.size ≤ q) {x om : Nat} {a : Nat → Nat} {H : Heap} {locs : List Loc} {ls : Array Slot} {I : Nat → Int32} {J : Nat → Int64} {F : Nat → Nat → Int32} {G : Nat → Nat → Int64} {ws : va_W} {T : RT} {g : GN} {q : GQ} {i : Int32} {bd sd : Nat} (hL : L ≤ 3584) (hi : 0 ≤ i.toInt ∧ i.toInt + 7 ≤ (L : Int)) (hbd : bd + 1092 ≤ 600000) (hsd : sd + 7753 ≤ 7302250) (hI : LI D Y Z A s sb x om a H locs ls I J F G ws T g q i) (hK : ∀ (I : Nat → Int32) (J : Nat → Int64) (F : Nat → Nat → Int32) (G : Nat → Nat → Int64) (ws : va_W) (T : RT) (g : GN) (q : GQ) (bd2 sd2 : Nat) (H : Heap) (locs : List Loc) (ls : Array Slot), bd2 ≤ bd + 1092 → sd2 ≤ sd + 7753 → LI D Y Z A s sb x om a H locs ls I J F G ws T g q i → W p l e room_1 s m #[Value.ref sb] below meth c H locs bd2 sd2 (lw_Z below #[Value.ref sb] s) (F0 m 1878 ls [])) : W p l e room_1 s m #[Value.ref sb] below meth c H locs bd sd (lw_Z below #[Value.ref sb] s) (F0 m 1670 ls []) := by
  obtain ⟨hx, hb, hr, hml, hown, hts, hX, hbl, hlocks, hgv⟩ := id C0
  have hb : c.code = cL_law := hb
  have hown : s.vm.findClass RL = some m.cls := hown
  have hg : ∀ w ∈ GW, w.before #[Value.ref sb] s = true := fun w h => hts w (gw_tbl h)
  have hbA : ¬ A sb := fun h => absurd (hA2 sb h) (Nat.not_le.mpr hbl)
  obtain ⟨hP, hD, hS, hl, hT, htx, hLR, hm0, hm1, hm2, hm3, hm4, hm5, hm6⟩ := hI
  refine lv_aload_n hx hb dL_law_1670 rfl (lv_at hl 2 rfl) ?_
  refine lv_aload_n hx hb dL_law_1671 rfl (lv_at hl 3 rfl) ?_
  refine lv_iload_n hx hb dL_law_1672 rfl (lv_at hl 0 rfl) ?_
  refine lv_iconst (v := 1) hx hb dL_law_1673 (by decide) ?_
  refine lv_iadd hx hb dL_law_1674 ?_
  refine lv_topi (fun v1 ev1 => ?_)
  have hv1 := i_add (Eq.refl i.toInt) (show (1 : Int32).toInt = 1 by decide) ev1 (by omega) (by omega)
  refine va_sld hx hb hX hbl hbA hS (vp_in_iff.mpr ⟨by omega, by omega⟩) dL_law_1675 ?_
  refine lv_topi (fun v2 ev2 => ?_)
  obtain rfl : v2 = (xs (i.toInt.toNat + 1)) := by rw [ev2, show v1.toNatClampNeg = i.toInt.toNat + 1 by have c9 := clampI (x := v1) (by omega); omega]
  refine lv_aload_n hx hb dL_law_1676 rfl (lv_at hl 3 rfl) ?_
  refine lv_iload_n hx hb dL_law_1677 rfl (lv_at hl 0 rfl) ?_
  refine lv_iconst (v := 2) hx hb dL_law_1678 (by decide) ?_
  refine lv_iadd hx hb dL_law_1679 ?_
  refine lv_topi (fun v3 ev3 => ?_)
  have hv3 := i_add (Eq.refl i.toInt) (show (2 : Int32).toInt = 2 by decide) ev3 (by omega) (by omega)
  refine va_sld hx hb hX hbl hbA hS (vp_in_iff.mpr ⟨by omega, by omega⟩) dL_law_1680 ?_
  refine lv_topi (fun v4 ev4 => ?_)
  obtain rfl : v4 = (xs (i.toInt.toNat + 2)) := by rw [ev4, show v3.toNatClampNeg = i.toInt.toNat + 2 by have c9 := clampI (x := v3) (by omega); omega]
  refine lv_aload_n hx hb dL_law_1681 rfl (lv_at hl 3 rfl) ?_
  refine lv_iload_n hx hb dL_law_1682 rfl (lv_at hl 0 rfl) ?_
  refine lv_iconst (v := 3) hx hb dL_law_1683 (by decide) ?_
  refine lv_iadd hx hb dL_law_1684 ?_
  refine lv_topi (fun v5 ev5 => ?_)
  have hv5 := i_add (Eq.refl i.toInt) (show (3 : Int32).toInt = 3 by decide) ev5 (by omega) (by omega)
  refine va_sld hx hb hX hbl hbA hS (vp_in_iff.mpr ⟨by omega, by omega⟩) dL_law_1685 ?_
  refine lv_topi (fun v6 ev6 => ?_)
  obtain rfl : v6 = (xs (i.toInt.toNat + 3)) := by rw [ev6, show v5.toNatClampNeg = i.toInt.toNat + 3 by have c9 := clampI (x := v5) (by omega); omega]
  refine lv_aload_n hx hb dL_law_1686 rfl (lv_at hl 3 rfl) ?_
  refine lv_iload_n hx hb dL_law_1687 rfl (lv_at hl 0 rfl) ?_
  refine lv_iconst (v := 4) hx hb dL_law_1688 (by decide) ?_
  refine lv_iadd hx hb dL_law_1689 ?_
  refine lv_topi (fun v7 ev7 => ?_)
  have hv7 := i_add (Eq.refl i.toInt) (show (4 : Int32).toInt = 4 by decide) ev7 (by omega) (by omega)
  refine va_sld hx hb hX hbl hbA hS (vp_in_iff.mpr ⟨by omega, by omega⟩) dL_law_1690 ?_
  refine lv_topi (fun v8 ev8 => ?_)
  obtain rfl : v8 = (xs (i.toInt.toNat + 4)) := by rw [ev8, show v7.toNatClampNeg = i.toInt.toNat + 4 by have c9 := clampI (x := v7) (by omega); omega]
  refine lv_aload_n hx hb dL_law_1691 rfl (lv_at hl 3 rfl) ?_
  refine lv_iload_n hx hb dL_law_1692 rfl (lv_at hl 0 rfl) ?_
  refine lv_iconst (v := 5) hx hb dL_law_1693 (by decide) ?_
  refine lv_iadd hx hb dL_law_1694 ?_
  refine lv_topi (fun v9 ev9 => ?_)
  have hv9 := i_add (Eq.refl i.toInt) (show (5 : Int32).toInt = 5 by decide) ev9 (by omega) (by omega)
  refine va_sld hx hb hX hbl hbA hS (vp_in_iff.mpr ⟨by omega, by omega⟩) dL_law_1695 ?_
  refine lv_topi (fun v10 ev10 => ?_)
  obtain rfl : v10 = (xs (i.toInt.toNat + 5)) := by rw [ev10, show v9.toNatClampNeg = i.toInt.toNat + 5 by have c9 := clampI (x := v9) (by omega); omega]
  refine ok1 hT htx (fun p52 a11 a12 a13 a14 a15 x16 x17 x18 a19 a20 a21 a22 a23 a24 a25 a26 a27 x28 a29 a30 hk53 h31 h32 h33 h34 h35 h36 h37 h38 h39 h40 h41 h42 h43 h44 h45 h46 h47 h48 h49 h50 h51 => ?_)
  refine cgR (rn_V (As := [.int (xs (i.toInt.toNat + 1)), .int (xs (i.toInt.toNat + 2)), .int (xs (i.toInt.toNat + 3)), .int (xs (i.toInt.toNat + 4)), .int (xs (i.toInt.toNat + 5))]) (rest := []) (b := x) (x_X10_fold l D Y Z H.size ws T g q x (xs (i.toInt.toNat + 1)) (xs (i.toInt.toNat + 2)) (xs (i.toInt.toNat + 3)) (xs (i.toInt.toNat + 4)) (xs (i.toInt.toNat + 5)) hT htx) ⟨hx, hb, hml, hown, hg⟩ lk_L_162 ⟨CPC.blind, va_recv hKN.1 (P_r hP) (ci := 10) (q0 := p52) rfl hk53, CPC.at (P_r hP) hKN (D_r hD) hSZ hS hA⟩ ⟨⟨rfl, rfl⟩, ⟨Nat.le_of_ble_eq_true rfl, Nat.le_of_ble_eq_true rfl⟩, ⟨(show _ ≤ (600000 : Nat) by omega), (show _ ≤ (7302250 : Nat) by omega)⟩⟩ hl.1 rfl (Nat.le_of_ble_eq_true rfl) dL_law_1696) hP hD hS hA (fun u54 H locs hw55 hP hD hS => ?_)
  obtain ⟨u56, w57⟩ := u54
  obtain ⟨hT, ke58, ke59⟩ : TW Y Z T g q w57 ∧ KF 1 T ws w57 ∧ KF 6 T ws w57 := hw55
  have hk60 := ke58 _ _ hk53 (show (T x).1 = 1 by rw [htx])
  refine W.eq (g2 := F0 m 1699 ls [.long u56]) rfl ?_
  refine lv_pop2_2 hx hb dL_law_1699 rfl ?_
  refine lv_aload_n hx hb dL_law_1700 rfl (lv_at hl 1 rfl) ?_
  refine lv_aload_n hx hb dL_law_1701 rfl (lv_at hl 3 rfl) ?_
  refine lv_iload_n hx hb dL_law_1702 rfl (lv_at hl 0 rfl) ?_
  refine lv_iconst (v := 1) hx hb dL_law_1703 (by decide) ?_
  refine lv_iadd hx hb dL_law_1704 ?_
  refine lv_topi (fun v61 ev61 => ?_)
  have hv61 := i_add (Eq.refl i.toInt) (show (1 : Int32).toInt = 1 by decide) ev61 (by omega) (by omega)
  refine va_sld hx hb hX hbl hbA hS (vp_in_iff.mpr ⟨by omega, by omega⟩) dL_law_1705 ?_
  refine lv_topi (fun v62 ev62 => ?_)
  obtain rfl : v62 = (xs (i.toInt.toNat + 1)) := by rw [ev62, show v61.toNatClampNeg = i.toInt.toNat + 1 by have c9 := clampI (x := v61) (by omega); omega]
  refine lv_aload_n hx hb dL_law_1706 rfl (lv_at hl 3 rfl) ?_
  refine lv_iload_n hx hb dL_law_1707 rfl (lv_at hl 0 rfl) ?_
  refine lv_iconst (v := 2) hx hb dL_law_1708 (by decide) ?_
  refine lv_iadd hx hb dL_law_1709 ?_
  refine lv_topi (fun v63 ev63 => ?_)
  have hv63 := i_add (Eq.refl i.toInt) (show (2 : Int32).toInt = 2 by decide) ev63 (by omega) (by omega)
  refine va_sld hx hb hX hbl hbA hS (vp_in_iff.mpr ⟨by omega, by omega⟩) dL_law_1710 ?_
  refine lv_topi (fun v64 ev64 => ?_)
  obtain rfl : v64 = (xs (i.toInt.toNat + 2)) := by rw [ev64, show v63.toNatClampNeg = i.toInt.toNat + 2 by have c9 := clampI (x := v63) (by omega); omega]
  refine lv_aload_n hx hb dL_law_1711 rfl (lv_at hl 3 rfl) ?_
  refine lv_iload_n hx hb dL_law_1712 rfl (lv_at hl 0 rfl) ?_
  refine lv_iconst (v := 3) hx hb dL_law_1713 (by decide) ?_
  refine lv_iadd hx hb dL_law_1714 ?_
  refine lv_topi (fun v65 ev65 => ?_)
  have hv65 := i_add (Eq.refl i.toInt) (show (3 : Int32).toInt = 3 by decide) ev65 (by omega) (by omega)
  refine va_sld hx hb hX hbl hbA hS (vp_in_iff.mpr ⟨by omega, by omega⟩) dL_law_1715 ?_
  refine lv_topi (fun v66 ev66 => ?_)
  obtain rfl : v66 = (xs (i.toInt.toNat + 3)) := by rw [ev66, show v65.toNatClampNeg = i.toInt.toNat + 3 by have c9 := clampI (x := v65) (by omega); omega]
  refine lv_aload_n hx hb dL_law_1716 rfl (lv_at hl 3 rfl) ?_
  refine lv_iload_n hx hb dL_law_1717 rfl (lv_at hl 0 rfl) ?_
  refine lv_iconst (v := 4) hx hb dL_law_1718 (by decide) ?_
  refine lv_iadd hx hb dL_law_1719 ?_
  refine lv_topi (fun v67 ev67 => ?_)
  have hv67 := i_add (Eq.refl i.toInt) (show (4 : Int32).toInt = 4 by decide) ev67 (by omega) (by omega)
  refine va_sld hx hb hX hbl hbA hS (vp_in_iff.mpr ⟨by omega, by omega⟩) dL_law_1720 ?_
  refine lv_topi (fun v68 ev68 => ?_)
  obtain rfl : v68 = (xs (i.toInt.toNat + 4)) := by rw [ev68, show v67.toNatClampNeg = i.toInt.toNat + 4 by have c9 := clampI (x := v67) (by omega); omega]
  refine lv_aload_n hx hb dL_law_1721 rfl (lv_at hl 3 rfl) ?_
  refine lv_iload_n hx hb dL_law_1722 rfl (lv_at hl 0 rfl) ?_
  refine lv_iconst (v := 5) hx hb dL_law_1723 (by decide) ?_
  refine lv_iadd hx hb dL_law_1724 ?_
  refine lv_topi (fun v69 ev69 => ?_)
  have hv69 := i_add (Eq.refl i.toInt) (show (5 : Int32).toInt = 5 by decide) ev69 (by omega) (by omega)
  refine va_sld hx hb hX hbl hbA hS (vp_in_iff.mpr ⟨by omega, by omega⟩) dL_law_1725 ?_
  refine lv_topi (fun v70 ev70 => ?_)
  obtain rfl : v70 = (xs (i.toInt.toNat + 5)) := by rw [ev70, show v69.toNatClampNeg = i.toInt.toNat + 5 by have c9 := clampI (x := v69) (by omega); omega]
  refine cgL (X := (MW Y om a I J F G)) (ws := w57) (rn_V (As := [.int (xs (i.toInt.toNat + 1)), .int (xs (i.toInt.toNat + 2)), .int (xs (i.toInt.toNat + 3)), .int (xs (i.toInt.toNat + 4)), .int (xs (i.toInt.toNat + 5))]) (rest := []) (b := om) (m_fold l D Y Z H.size om a I J F G (xs (i.toInt.toNat + 1)) (xs (i.toInt.toNat + 2)) (xs (i.toInt.toNat + 3)) (xs (i.toInt.toNat + 4)) (xs (i.toInt.toNat + 5)) hm0 hm1) ⟨hx, hb, hml, hown, hg⟩ lk_L_166 ⟨CP.blind, va_recv hKN.1 (P_l hP) (ci := 11) (q0 := 0) rfl rfl, CP.at (P_l hP) hKN (D_l hD)⟩ ⟨⟨rfl, rfl⟩, ⟨Nat.le_of_ble_eq_true rfl, Nat.le_of_ble_eq_true rfl⟩, ⟨(show _ ≤ (600000 : Nat) by omega), (show _ ≤ (7302250 : Nat) by omega)⟩⟩ hl.1 rfl (Nat.le_of_ble_eq_true rfl) dL_law_1726) hP hD hS hA (fun u71 H locs hw72 hP hD hS => ?_)
  refine W.widen (k := (bd + 0)) (n := (sd + 0)) (by omega) (by omega) ?_
  obtain ⟨u73, u74, u75, u76, f77, f78⟩ := u71
  have hw79 : LB f78 := hw72
  refine W.eq (g2 := F0 m 1729 ls [.long u73]) rfl ?_
  have hP : va_P D vwCl ((MW Y om a (upd I 29 u74) (vp_updL (vp_updL J 30 u75) 31 u76) (vf_upd (vf_upd F 1 f77) 28 f78) G) ++ w57) H := hP
  have hD : va_D A ((MW Y om a (upd I 29 u74) (vp_updL (vp_updL J 30 u75) 31 u76) (vf_upd (vf_upd F 1 f77) 28 f78) G) ++ w57) := hD
  have hR80 : LN T g q x (vf_upd (vf_upd F 1 f77) 28 f78) := LN.keep hLR.1 htx TLe.rf KS.rf rfl rfl
  have hD81 : LD T g q x (vf_upd (vf_upd F 1 f77) 28 f78) := LD.keep hLR.2 htx TLe.rf KD.rf rfl
  have hR80 : LC T g q x (vf_upd (vf_upd F 1 f77) 28 f78) := ⟨hR80, hD81⟩
  refine lv_pop2_2 hx hb dL_law_1729 rfl ?_
  refine lv_goto (tgt := 1878) hx hb dL_law_1730 (by decide) ?_
  exact hK (upd I 29 u74) (vp_updL (vp_updL J 30 u75) 31 u76) (vf_upd (vf_upd F 1 f77) 28 f78) G w57 T g q _ _ H locs ls (by omega) (by omega) ⟨hP, hD, hS, lv_sub hl [0, 1, 2, 3] rfl, hT, htx, hR80, hm0, hw79, hm2, hm3, hm4, hm5, (show 0 ≤ (I 3).toInt ∧ (I 3).toInt ≤ 400 by omega)⟩
set_option maxHeartbeats 4000000 in
set_option maxRecDepth 100000 in
theorem lc_35 {p : Program} {l : Launch} {e : Env} {s : State} {m : MethodId} {below : List Frame} {meth : Method} {c : Code} {sb L : Nat} {xs : Nat → Int32} (C0 : lw_At p s m meth c sb L xs) {D : va_G} {Y : Nat → ClassId} {Z : Nat → Nat} (hKN : KN D Y Z s) {A : Nat → Prop} (hSZ : SZ Z A s s.heap) (hA : ∀ q, s.heap.size ≤ q → A q) (hA2 : ∀ q, A q → s.heap.size ≤ q) {x om : Nat} {a : Nat → Nat} {H : Heap} {locs : List Loc} {ls : Array Slot} {I : Nat → Int32} {J : Nat → Int64} {F : Nat → Nat → Int32} {G : Nat → Nat → Int64} {ws : va_W} {T : RT} {g : GN} {q : GQ} {i : Int32} {bd sd : Nat} (hL : L ≤ 3584) (hi : 0 ≤ i.toInt ∧ i.toInt + 7 ≤ (L : Int)) (hbd : bd + 1092 ≤ 600000) (hsd : sd + 7753 ≤ 7302250) (hI : LI D Y Z A s sb x om a H locs ls I J F G ws T g q i) (hK : ∀ (I : Nat → Int32) (J : Nat → Int64) (F : Nat → Nat → Int32) (G : Nat → Nat → Int64) (ws : va_W) (T : RT) (g : GN) (q : GQ) (bd2 sd2 : Nat) (H : Heap) (locs : List Loc) (ls : Array Slot), bd2 ≤ bd + 1092 → sd2 ≤ sd + 7753 → LI D Y Z A s sb x om a H locs ls I J F G ws T g q i → W p l e room_1 s m #[Value.ref sb] below meth c H locs bd2 sd2 (lw_Z below #[Value.ref sb] s) (F0 m 1878 ls [])) : W p l e room_1 s m #[Value.ref sb] below meth c H locs bd sd (lw_Z below #[Value.ref sb] s) (F0 m 1733 ls []) := by
  obtain ⟨hx, hb, hr, hml, hown, hts, hX, hbl, hlocks, hgv⟩ := id C0
  have hb : c.code = cL_law := hb
  have hown : s.vm.findClass RL = some m.cls := hown
  have hg : ∀ w ∈ GW, w.before #[Value.ref sb] s = true := fun w h => hts w (gw_tbl h)
  have hbA : ¬ A sb := fun h => absurd (hA2 sb h) (Nat.not_le.mpr hbl)
  obtain ⟨hP, hD, hS, hl, hT, htx, hLR, hm0, hm1, hm2, hm3, hm4, hm5, hm6⟩ := hI
  refine lv_aload_n hx hb dL_law_1733 rfl (lv_at hl 2 rfl) ?_
  refine lv_aload_n hx hb dL_law_1734 rfl (lv_at hl 3 rfl) ?_
  refine lv_iload_n hx hb dL_law_1735 rfl (lv_at hl 0 rfl) ?_
  refine lv_iconst (v := 1) hx hb dL_law_1736 (by decide) ?_
  refine lv_iadd hx hb dL_law_1737 ?_
  refine lv_topi (fun v1 ev1 => ?_)
  have hv1 := i_add (Eq.refl i.toInt) (show (1 : Int32).toInt = 1 by decide) ev1 (by omega) (by omega)
  refine va_sld hx hb hX hbl hbA hS (vp_in_iff.mpr ⟨by omega, by omega⟩) dL_law_1738 ?_
  refine lv_topi (fun v2 ev2 => ?_)
  obtain rfl : v2 = (xs (i.toInt.toNat + 1)) := by rw [ev2, show v1.toNatClampNeg = i.toInt.toNat + 1 by have c9 := clampI (x := v1) (by omega); omega]
  refine lv_aload_n hx hb dL_law_1739 rfl (lv_at hl 3 rfl) ?_
  refine lv_iload_n hx hb dL_law_1740 rfl (lv_at hl 0 rfl) ?_
  refine lv_iconst (v := 2) hx hb dL_law_1741 (by decide) ?_
  refine lv_iadd hx hb dL_law_1742 ?_
  refine lv_topi (fun v3 ev3 => ?_)
  have hv3 := i_add (Eq.refl i.toInt) (show (2 : Int32).toInt = 2 by decide) ev3 (by omega) (by omega)
  refine va_sld hx hb hX hbl hbA hS (vp_in_iff.mpr ⟨by omega, by omega⟩) dL_law_1743 ?_
  refine lv_topi (fun v4 ev4 => ?_)
  obtain rfl : v4 = (xs (i.toInt.toNat + 2)) := by rw [ev4, show v3.toNatClampNeg = i.toInt.toNat + 2 by have c9 := clampI (x := v3) (by omega); omega]
  refine lv_aload_n hx hb dL_law_1744 rfl (lv_at hl 3 rfl) ?_
  refine lv_iload_n hx hb dL_law_1745 rfl (lv_at hl 0 rfl) ?_
  refine lv_iconst (v := 3) hx hb dL_law_1746 (by decide) ?_
  refine lv_iadd hx hb dL_law_1747 ?_
  refine lv_topi (fun v5 ev5 => ?_)
  have hv5 := i_add (Eq.refl i.toInt) (show (3 : Int32).toInt = 3 by decide) ev5 (by omega) (by omega)
  refine va_sld hx hb hX hbl hbA hS (vp_in_iff.mpr ⟨by omega, by omega⟩) dL_law_1748 ?_
  refine lv_topi (fun v6 ev6 => ?_)
  obtain rfl : v6 = (xs (i.toInt.toNat + 3)) := by rw [ev6, show v5.toNatClampNeg = i.toInt.toNat + 3 by have c9 := clampI (x := v5) (by omega); omega]
  refine ok1 hT htx (fun p48 a7 a8 a9 a10 a11 x12 x13 x14 a15 a16 a17 a18 a19 a20 a21 a22 a23 x24 a25 a26 hk49 h27 h28 h29 h30 h31 h32 h33 h34 h35 h36 h37 h38 h39 h40 h41 h42 h43 h44 h45 h46 h47 => ?_)
  refine cgR (rn_V (As := [.int (xs (i.toInt.toNat + 1)), .int (xs (i.toInt.toNat + 2)), .int (xs (i.toInt.toNat + 3))]) (rest := []) (b := x) (x_candidateS l D Y Z H.size ws T g q x (xs (i.toInt.toNat + 1)) (xs (i.toInt.toNat + 2)) (xs (i.toInt.toNat + 3)) hT htx) ⟨hx, hb, hml, hown, hg⟩ lk_L_167 ⟨CPC.blind, va_recv hKN.1 (P_r hP) (ci := 10) (q0 := p48) rfl hk49, CPC.at (P_r hP) hKN (D_r hD) hSZ hS hA⟩ ⟨⟨rfl, rfl⟩, ⟨Nat.le_of_ble_eq_true rfl, Nat.le_of_ble_eq_true rfl⟩, ⟨(show _ ≤ (600000 : Nat) by omega), (show _ ≤ (7302250 : Nat) by omega)⟩⟩ hl.1 rfl (Nat.le_of_ble_eq_true rfl) dL_law_1749) hP hD hS hA (fun u50 H locs hw51 hP hD hS => ?_)
  obtain ⟨u52, w53, g54⟩ := u50
  obtain ⟨hT, ke55, ke56, gj57, hw58, hw59⟩ : TW Y Z T g54 q w53 ∧ KF 1 T ws w53 ∧ KF 6 T ws w53 ∧ GJ T 0 g g54 ∧ (∀ s0 na wa, q x 0 = some s0 → q s0 5 = some na → q s0 6 = some wa → CDE g g54 s0 na wa u52 (xs (i.toInt.toNat + 2)) (xs (i.toInt.toNat + 3))) ∧ (∀ s0 sr, q x 0 = some s0 → q s0 1 = some sr → NNL g q s0 sr → ((((1 ≤ (xs (i.toInt.toNat + 2)).toInt ∧ (xs (i.toInt.toNat + 2)).toInt ≤ 99) ∧ (0 ≤ (xs (i.toInt.toNat + 3)).toInt ∧ (xs (i.toInt.toNat + 3)).toInt ≤ 9999)) ∧ (0 ≤ (xs (i.toInt.toNat + 1)).toInt ∧ (xs (i.toInt.toNat + 1)).toInt < (g s0 0).toInt) ∧ (g s0 4).toInt < 12) ∧ u52.toInt = (g s0 4).toInt ∧ UPP T g g54 s0 4) ∨ (¬ (((1 ≤ (xs (i.toInt.toNat + 2)).toInt ∧ (xs (i.toInt.toNat + 2)).toInt ≤ 99) ∧ (0 ≤ (xs (i.toInt.toNat + 3)).toInt ∧ (xs (i.toInt.toNat + 3)).toInt ≤ 9999)) ∧ (0 ≤ (xs (i.toInt.toNat + 1)).toInt ∧ (xs (i.toInt.toNat + 1)).toInt < (g s0 0).toInt) ∧ (g s0 4).toInt < 12) ∧ u52.toInt = -1 ∧ g54 = g)) := hw51
  have hk60 := ke55 _ _ hk49 (show (T x).1 = 1 by rw [htx])
  refine W.eq (g2 := F0 m 1752 ls [.int u52]) rfl ?_
  refine lv_pop hx hb dL_law_1752 rfl ?_
  refine lv_aload_n hx hb dL_law_1753 rfl (lv_at hl 1 rfl) ?_
  refine lv_aload_n hx hb dL_law_1754 rfl (lv_at hl 3 rfl) ?_
  refine lv_iload_n hx hb dL_law_1755 rfl (lv_at hl 0 rfl) ?_
  refine lv_iconst (v := 1) hx hb dL_law_1756 (by decide) ?_
  refine lv_iadd hx hb dL_law_1757 ?_
  refine lv_topi (fun v61 ev61 => ?_)
  have hv61 := i_add (Eq.refl i.toInt) (show (1 : Int32).toInt = 1 by decide) ev61 (by omega) (by omega)
  refine va_sld hx hb hX hbl hbA hS (vp_in_iff.mpr ⟨by omega, by omega⟩) dL_law_1758 ?_
  refine lv_topi (fun v62 ev62 => ?_)
  obtain rfl : v62 = (xs (i.toInt.toNat + 1)) := by rw [ev62, show v61.toNatClampNeg = i.toInt.toNat + 1 by have c9 := clampI (x := v61) (by omega); omega]
  refine lv_aload_n hx hb dL_law_1759 rfl (lv_at hl 3 rfl) ?_
  refine lv_iload_n hx hb dL_law_1760 rfl (lv_at hl 0 rfl) ?_
  refine lv_iconst (v := 2) hx hb dL_law_1761 (by decide) ?_
  refine lv_iadd hx hb dL_law_1762 ?_
  refine lv_topi (fun v63 ev63 => ?_)
  have hv63 := i_add (Eq.refl i.toInt) (show (2 : Int32).toInt = 2 by decide) ev63 (by omega) (by omega)
  refine va_sld hx hb hX hbl hbA hS (vp_in_iff.mpr ⟨by omega, by omega⟩) dL_law_1763 ?_
  refine lv_topi (fun v64 ev64 => ?_)
  obtain rfl : v64 = (xs (i.toInt.toNat + 2)) := by rw [ev64, show v63.toNatClampNeg = i.toInt.toNat + 2 by have c9 := clampI (x := v63) (by omega); omega]
  refine lv_aload_n hx hb dL_law_1764 rfl (lv_at hl 3 rfl) ?_
  refine lv_iload_n hx hb dL_law_1765 rfl (lv_at hl 0 rfl) ?_
  refine lv_iconst (v := 3) hx hb dL_law_1766 (by decide) ?_
  refine lv_iadd hx hb dL_law_1767 ?_
  refine lv_topi (fun v65 ev65 => ?_)
  have hv65 := i_add (Eq.refl i.toInt) (show (3 : Int32).toInt = 3 by decide) ev65 (by omega) (by omega)
  refine va_sld hx hb hX hbl hbA hS (vp_in_iff.mpr ⟨by omega, by omega⟩) dL_law_1768 ?_
  refine lv_topi (fun v66 ev66 => ?_)
  obtain rfl : v66 = (xs (i.toInt.toNat + 3)) := by rw [ev66, show v65.toNatClampNeg = i.toInt.toNat + 3 by have c9 := clampI (x := v65) (by omega); omega]
  refine cgL (X := (MW Y om a I J F G)) (ws := w53) (rn_V (As := [.int (xs (i.toInt.toNat + 1)), .int (xs (i.toInt.toNat + 2)), .int (xs (i.toInt.toNat + 3))]) (rest := []) (b := om) (m_candidateS l D Y Z H.size om a I J F G (xs (i.toInt.toNat + 1)) (xs (i.toInt.toNat + 2)) (xs (i.toInt.toNat + 3)) hm0 KS.rf KD.rf) ⟨hx, hb, hml, hown, hg⟩ lk_L_170 ⟨CP.blind, va_recv hKN.1 (P_l hP) (ci := 11) (q0 := 0) rfl rfl, CP.at (P_l hP) hKN (D_l hD)⟩ ⟨⟨rfl, rfl⟩, ⟨Nat.le_of_ble_eq_true rfl, Nat.le_of_ble_eq_true rfl⟩, ⟨(show _ ≤ (600000 : Nat) by omega), (show _ ≤ (7302250 : Nat) by omega)⟩⟩ hl.1 rfl (Nat.le_of_ble_eq_true rfl) dL_law_1769) hP hD hS hA (fun u67 H locs hw68 hP hD hS => ?_)
  refine W.widen (k := (bd + 0)) (n := (sd + 0)) (by omega) (by omega) ?_
  obtain ⟨u69, f70⟩ := u67
  obtain ⟨hw71, hw72, hw73⟩ : TO f70 ∧ (((u69.toInt = -1 ∧ KD (F 0) f70) ∨ (((F 0) 2).toInt < 12 ∧ u69.toInt = ((F 0) 2).toInt ∧ KDC ((F 0) 2).toNatClampNeg (xs (i.toInt.toNat + 2)) (xs (i.toInt.toNat + 3)) (F 0) f70))) ∧ ((((((1 ≤ (xs (i.toInt.toNat + 2)).toInt ∧ (xs (i.toInt.toNat + 2)).toInt ≤ 99) ∧ (0 ≤ (xs (i.toInt.toNat + 3)).toInt ∧ (xs (i.toInt.toNat + 3)).toInt ≤ 9999)) ∧ (0 ≤ (xs (i.toInt.toNat + 1)).toInt ∧ (xs (i.toInt.toNat + 1)).toInt < ((F 0) 0).toInt) ∧ ((F 0) 2).toInt < 12) ∧ u69.toInt = ((F 0) 2).toInt ∧ KC 2 (F 0) f70) ∨ (¬ (((1 ≤ (xs (i.toInt.toNat + 2)).toInt ∧ (xs (i.toInt.toNat + 2)).toInt ≤ 99) ∧ (0 ≤ (xs (i.toInt.toNat + 3)).toInt ∧ (xs (i.toInt.toNat + 3)).toInt ≤ 9999)) ∧ (0 ≤ (xs (i.toInt.toNat + 1)).toInt ∧ (xs (i.toInt.toNat + 1)).toInt < ((F 0) 0).toInt) ∧ ((F 0) 2).toInt < 12) ∧ u69.toInt = -1 ∧ KS (F 0) f70))) := hw68
  refine W.eq (g2 := F0 m 1772 ls [.int u69]) rfl ?_
  have hP : va_P D vwCl ((MW Y om a I J (vf_upd F 0 f70) G) ++ w53) H := hP
  have hD : va_D A ((MW Y om a I J (vf_upd F 0 f70) G) ++ w53) := hD
  have hR74E := LN.cnt (F2 := (vf_upd F 0 f70)) hLR.1 htx TLe.rf 4 2 (Or.inr ⟨rfl, rfl⟩) gj57 hw59 hw73 rfl rfl rfl
  have hR74 := hR74E.2
  have hR74E := hR74E.1
  have hD75 : LD T g54 q x (vf_upd F 0 f70) := LD.cand hLR.2 hLR.1 htx gj57 hR74E hw58 hw72 (TO_2 hm0).1 rfl rfl
  have hR74 : LC T g54 q x (vf_upd F 0 f70) := ⟨hR74, hD75⟩
  refine lv_pop hx hb dL_law_1772 rfl ?_
  refine lv_goto (tgt := 1878) hx hb dL_law_1773 (by decide) ?_
  exact hK I J (vf_upd F 0 f70) G w53 T g54 q _ _ H locs ls (by omega) (by omega) ⟨hP, hD, hS, lv_sub hl [0, 1, 2, 3] rfl, hT, htx, hR74, hw71, hm1, hm2, hm3, hm4, hm5, (show 0 ≤ (I 3).toInt ∧ (I 3).toInt ≤ 400 by omega)⟩
set_option maxHeartbeats 4000000 in
set_option maxRecDepth 100000 in
theorem lc_36 {p : Program} {l : Launch} {e : Env} {s : State} {m : MethodId} {below : List Frame} {meth : Method} {c : Code} {sb L : Nat} {xs : Nat → Int32} (C0 : lw_At p s m meth c sb L xs) {D : va_G} {Y : Nat → ClassId} {Z : Nat → Nat} (hKN : KN D Y Z s) {A : Nat → Prop} (hSZ : SZ Z A s s.heap) (hA : ∀ q, s.heap.size ≤ q → A q) (hA2 : ∀ q, A q → s.heap.size ≤ q) {x om : Nat} {a : Nat → Nat} {H : Heap} {locs : List Loc} {ls : Array Slot} {I : Nat → Int32} {J : Nat → Int64} {F : Nat → Nat → Int32} {G : Nat → Nat → Int64} {ws : va_W} {T : RT} {g : GN} {q : GQ} {i : Int32} {bd sd : Nat} (hL : L ≤ 3584) (hi : 0 ≤ i.toInt ∧ i.toInt + 7 ≤ (L : Int)) (hbd : bd + 1092 ≤ 600000) (hsd : sd + 7753 ≤ 7302250) (hI : LI D Y Z A s sb x om a H locs ls I J F G ws T g q i) (hK : ∀ (I : Nat → Int32) (J : Nat → Int64) (F : Nat → Nat → Int32) (G : Nat → Nat → Int64) (ws : va_W) (T : RT) (g : GN) (q : GQ) (bd2 sd2 : Nat) (H : Heap) (locs : List Loc) (ls : Array Slot), bd2 ≤ bd + 1092 → sd2 ≤ sd + 7753 → LI D Y Z A s sb x om a H locs ls I J F G ws T g q i → W p l e room_1 s m #[Value.ref sb] below meth c H locs bd2 sd2 (lw_Z below #[Value.ref sb] s) (F0 m 1878 ls [])) : W p l e room_1 s m #[Value.ref sb] below meth c H locs bd sd (lw_Z below #[Value.ref sb] s) (F0 m 1776 ls []) := by
  obtain ⟨hx, hb, hr, hml, hown, hts, hX, hbl, hlocks, hgv⟩ := id C0
  have hb : c.code = cL_law := hb
  have hown : s.vm.findClass RL = some m.cls := hown
  have hg : ∀ w ∈ GW, w.before #[Value.ref sb] s = true := fun w h => hts w (gw_tbl h)
  have hbA : ¬ A sb := fun h => absurd (hA2 sb h) (Nat.not_le.mpr hbl)
  obtain ⟨hP, hD, hS, hl, hT, htx, hLR, hm0, hm1, hm2, hm3, hm4, hm5, hm6⟩ := hI
  refine lv_aload_n hx hb dL_law_1776 rfl (lv_at hl 2 rfl) ?_
  refine lv_aload_n hx hb dL_law_1777 rfl (lv_at hl 3 rfl) ?_
  refine lv_iload_n hx hb dL_law_1778 rfl (lv_at hl 0 rfl) ?_
  refine lv_iconst (v := 1) hx hb dL_law_1779 (by decide) ?_
  refine lv_iadd hx hb dL_law_1780 ?_
  refine lv_topi (fun v1 ev1 => ?_)
  have hv1 := i_add (Eq.refl i.toInt) (show (1 : Int32).toInt = 1 by decide) ev1 (by omega) (by omega)
  refine va_sld hx hb hX hbl hbA hS (vp_in_iff.mpr ⟨by omega, by omega⟩) dL_law_1781 ?_
  refine lv_topi (fun v2 ev2 => ?_)
  obtain rfl : v2 = (xs (i.toInt.toNat + 1)) := by rw [ev2, show v1.toNatClampNeg = i.toInt.toNat + 1 by have c9 := clampI (x := v1) (by omega); omega]
  refine lv_aload_n hx hb dL_law_1782 rfl (lv_at hl 3 rfl) ?_
  refine lv_iload_n hx hb dL_law_1783 rfl (lv_at hl 0 rfl) ?_
  refine lv_iconst (v := 2) hx hb dL_law_1784 (by decide) ?_
  refine lv_iadd hx hb dL_law_1785 ?_
  refine lv_topi (fun v3 ev3 => ?_)
  have hv3 := i_add (Eq.refl i.toInt) (show (2 : Int32).toInt = 2 by decide) ev3 (by omega) (by omega)
  refine va_sld hx hb hX hbl hbA hS (vp_in_iff.mpr ⟨by omega, by omega⟩) dL_law_1786 ?_
  refine lv_topi (fun v4 ev4 => ?_)
  obtain rfl : v4 = (xs (i.toInt.toNat + 2)) := by rw [ev4, show v3.toNatClampNeg = i.toInt.toNat + 2 by have c9 := clampI (x := v3) (by omega); omega]
  refine ok1 hT htx (fun p46 a5 a6 a7 a8 a9 x10 x11 x12 a13 a14 a15 a16 a17 a18 a19 a20 a21 x22 a23 a24 hk47 h25 h26 h27 h28 h29 h30 h31 h32 h33 h34 h35 h36 h37 h38 h39 h40 h41 h42 h43 h44 h45 => ?_)
  refine cgR (rn_V (As := [.int (xs (i.toInt.toNat + 1)), .int (xs (i.toInt.toNat + 2))]) (rest := []) (b := x) (x_nightsC l D Y Z H.size ws T g q x (xs (i.toInt.toNat + 1)) (xs (i.toInt.toNat + 2)) hT htx) ⟨hx, hb, hml, hown, hg⟩ lk_L_171 ⟨CPC.blind, va_recv hKN.1 (P_r hP) (ci := 10) (q0 := p46) rfl hk47, CPC.at (P_r hP) hKN (D_r hD) hSZ hS hA⟩ ⟨⟨rfl, rfl⟩, ⟨Nat.le_of_ble_eq_true rfl, Nat.le_of_ble_eq_true rfl⟩, ⟨(show _ ≤ (600000 : Nat) by omega), (show _ ≤ (7302250 : Nat) by omega)⟩⟩ hl.1 rfl (Nat.le_of_ble_eq_true rfl) dL_law_1787) hP hD hS hA (fun u48 H locs hw49 hP hD hS => ?_)
  have hw51 : (∀ s0 na wa, q x 0 = some s0 → q s0 5 = some na → q s0 6 = some wa → (((0 ≤ (xs (i.toInt.toNat + 1)).toInt ∧ (xs (i.toInt.toNat + 1)).toInt ≤ 9999) ∧ (0 ≤ (xs (i.toInt.toNat + 2)).toInt ∧ (xs (i.toInt.toNat + 2)).toInt ≤ 1)) ∧ u48 = pickN (xs (i.toInt.toNat + 1)) (xs (i.toInt.toNat + 2)) (g na) (g wa) (g s0 4).toInt.toNat) ∨ (¬ ((0 ≤ (xs (i.toInt.toNat + 1)).toInt ∧ (xs (i.toInt.toNat + 1)).toInt ≤ 9999) ∧ (0 ≤ (xs (i.toInt.toNat + 2)).toInt ∧ (xs (i.toInt.toNat + 2)).toInt ≤ 1)) ∧ u48.toInt = -1)) := hw49
  refine W.eq (g2 := F0 m 1790 ls [.int u48]) rfl ?_
  refine lv_aload_n hx hb dL_law_1790 rfl (lv_at hl 1 rfl) ?_
  refine lv_aload_n hx hb dL_law_1791 rfl (lv_at hl 3 rfl) ?_
  refine lv_iload_n hx hb dL_law_1792 rfl (lv_at hl 0 rfl) ?_
  refine lv_iconst (v := 1) hx hb dL_law_1793 (by decide) ?_
  refine lv_iadd hx hb dL_law_1794 ?_
  refine lv_topi (fun v52 ev52 => ?_)
  have hv52 := i_add (Eq.refl i.toInt) (show (1 : Int32).toInt = 1 by decide) ev52 (by omega) (by omega)
  refine va_sld hx hb hX hbl hbA hS (vp_in_iff.mpr ⟨by omega, by omega⟩) dL_law_1795 ?_
  refine lv_topi (fun v53 ev53 => ?_)
  obtain rfl : v53 = (xs (i.toInt.toNat + 1)) := by rw [ev53, show v52.toNatClampNeg = i.toInt.toNat + 1 by have c9 := clampI (x := v52) (by omega); omega]
  refine lv_aload_n hx hb dL_law_1796 rfl (lv_at hl 3 rfl) ?_
  refine lv_iload_n hx hb dL_law_1797 rfl (lv_at hl 0 rfl) ?_
  refine lv_iconst (v := 2) hx hb dL_law_1798 (by decide) ?_
  refine lv_iadd hx hb dL_law_1799 ?_
  refine lv_topi (fun v54 ev54 => ?_)
  have hv54 := i_add (Eq.refl i.toInt) (show (2 : Int32).toInt = 2 by decide) ev54 (by omega) (by omega)
  refine va_sld hx hb hX hbl hbA hS (vp_in_iff.mpr ⟨by omega, by omega⟩) dL_law_1800 ?_
  refine lv_topi (fun v55 ev55 => ?_)
  obtain rfl : v55 = (xs (i.toInt.toNat + 2)) := by rw [ev55, show v54.toNatClampNeg = i.toInt.toNat + 2 by have c9 := clampI (x := v54) (by omega); omega]
  refine cgL (X := (MW Y om a I J F G)) (ws := ws) (rn_V (As := [.int (xs (i.toInt.toNat + 1)), .int (xs (i.toInt.toNat + 2))]) (rest := [.int u48]) (b := om) (m_nightsC l D Y Z H.size om a I J F G (xs (i.toInt.toNat + 1)) (xs (i.toInt.toNat + 2)) hm0) ⟨hx, hb, hml, hown, hg⟩ lk_L_174 ⟨CP.blind, va_recv hKN.1 (P_l hP) (ci := 11) (q0 := 0) rfl rfl, CP.at (P_l hP) hKN (D_l hD)⟩ ⟨⟨rfl, rfl⟩, ⟨Nat.le_of_ble_eq_true rfl, Nat.le_of_ble_eq_true rfl⟩, ⟨(show _ ≤ (600000 : Nat) by omega), (show _ ≤ (7302250 : Nat) by omega)⟩⟩ hl.1 rfl (Nat.le_of_ble_eq_true rfl) dL_law_1801) hP hD hS hA (fun u56 H locs hw57 hP hD hS => ?_)
  refine W.widen (k := (bd + 0)) (n := (sd + 0)) (by omega) (by omega) ?_
  have hw59 : (((((0 ≤ (xs (i.toInt.toNat + 1)).toInt ∧ (xs (i.toInt.toNat + 1)).toInt ≤ 9999) ∧ (0 ≤ (xs (i.toInt.toNat + 2)).toInt ∧ (xs (i.toInt.toNat + 2)).toInt ≤ 1)) ∧ u56 = pickN (xs (i.toInt.toNat + 1)) (xs (i.toInt.toNat + 2)) (fun c => F 0 (280 + 3 * c)) (fun c => F 0 (281 + 3 * c)) (F 0 2).toInt.toNat) ∨ (¬ ((0 ≤ (xs (i.toInt.toNat + 1)).toInt ∧ (xs (i.toInt.toNat + 1)).toInt ≤ 9999) ∧ (0 ≤ (xs (i.toInt.toNat + 2)).toInt ∧ (xs (i.toInt.toNat + 2)).toInt ≤ 1)) ∧ u56.toInt = -1))) := hw57
  refine W.eq (g2 := F0 m 1804 ls [.int u56, .int u48]) rfl ?_
  have hP : va_P D vwCl ((MW Y om a I J F G) ++ ws) H := hP
  have hD : va_D A ((MW Y om a I J F G) ++ ws) := hD
  have hR60 : LN T g q x F := LN.keep hLR.1 htx TLe.rf KS.rf rfl rfl
  have hD61 : LD T g q x F := LD.keep hLR.2 htx TLe.rf KD.rf rfl
  have hR60E := LC.nights hLR hw51 hw59
  have hR60 : LC T g q x F := ⟨hR60, hD61⟩
  have j62 := rgI u48
  have j63 := rgI u56
  refine lv_icmp_eq (tgt := 1878) hx hb dL_law_1804 (by decide) (fun c64 => ?_) (fun c64 => ?_)
  · skip
    have c64 := i_eq (Eq.refl u48.toInt) (Eq.refl u56.toInt) c64
    exact hK I J F G ws T g q _ _ H locs ls (by omega) (by omega) ⟨hP, hD, hS, lv_sub hl [0, 1, 2, 3] rfl, hT, htx, hR60, hm0, hm1, hm2, hm3, hm4, hm5, (show 0 ≤ (I 3).toInt ∧ (I 3).toInt ≤ 400 by omega)⟩
  · skip
    have c64 := i_ne (Eq.refl u48.toInt) (Eq.refl u56.toInt) c64
    exfalso; omega
set_option maxHeartbeats 4000000 in
set_option maxRecDepth 100000 in
theorem lc_37 {p : Program} {l : Launch} {e : Env} {s : State} {m : MethodId} {below : List Frame} {meth : Method} {c : Code} {sb L : Nat} {xs : Nat → Int32} (C0 : lw_At p s m meth c sb L xs) {D : va_G} {Y : Nat → ClassId} {Z : Nat → Nat} (hKN : KN D Y Z s) {A : Nat → Prop} (hSZ : SZ Z A s s.heap) (hA : ∀ q, s.heap.size ≤ q → A q) (hA2 : ∀ q, A q → s.heap.size ≤ q) {x om : Nat} {a : Nat → Nat} {H : Heap} {locs : List Loc} {ls : Array Slot} {I : Nat → Int32} {J : Nat → Int64} {F : Nat → Nat → Int32} {G : Nat → Nat → Int64} {ws : va_W} {T : RT} {g : GN} {q : GQ} {i : Int32} {bd sd : Nat} (hL : L ≤ 3584) (hi : 0 ≤ i.toInt ∧ i.toInt + 7 ≤ (L : Int)) (hbd : bd + 1092 ≤ 600000) (hsd : sd + 7753 ≤ 7302250) (hI : LI D Y Z A s sb x om a H locs ls I J F G ws T g q i) (hK : ∀ (I : Nat → Int32) (J : Nat → Int64) (F : Nat → Nat → Int32) (G : Nat → Nat → Int64) (ws : va_W) (T : RT) (g : GN) (q : GQ) (bd2 sd2 : Nat) (H : Heap) (locs : List Loc) (ls : Array Slot), bd2 ≤ bd + 1092 → sd2 ≤ sd + 7753 → LI D Y Z A s sb x om a H locs ls I J F G ws T g q i → W p l e room_1 s m #[Value.ref sb] below meth c H locs bd2 sd2 (lw_Z below #[Value.ref sb] s) (F0 m 1878 ls [])) : W p l e room_1 s m #[Value.ref sb] below meth c H locs bd sd (lw_Z below #[Value.ref sb] s) (F0 m 1809 ls []) := by
  obtain ⟨hx, hb, hr, hml, hown, hts, hX, hbl, hlocks, hgv⟩ := id C0
  have hb : c.code = cL_law := hb
  have hown : s.vm.findClass RL = some m.cls := hown
  have hg : ∀ w ∈ GW, w.before #[Value.ref sb] s = true := fun w h => hts w (gw_tbl h)
  have hbA : ¬ A sb := fun h => absurd (hA2 sb h) (Nat.not_le.mpr hbl)
  obtain ⟨hP, hD, hS, hl, hT, htx, hLR, hm0, hm1, hm2, hm3, hm4, hm5, hm6⟩ := hI
  refine lv_aload_n hx hb dL_law_1809 rfl (lv_at hl 2 rfl) ?_
  refine lv_aload_n hx hb dL_law_1810 rfl (lv_at hl 3 rfl) ?_
  refine lv_iload_n hx hb dL_law_1811 rfl (lv_at hl 0 rfl) ?_
  refine lv_iconst (v := 1) hx hb dL_law_1812 (by decide) ?_
  refine lv_iadd hx hb dL_law_1813 ?_
  refine lv_topi (fun v1 ev1 => ?_)
  have hv1 := i_add (Eq.refl i.toInt) (show (1 : Int32).toInt = 1 by decide) ev1 (by omega) (by omega)
  refine va_sld hx hb hX hbl hbA hS (vp_in_iff.mpr ⟨by omega, by omega⟩) dL_law_1814 ?_
  refine lv_topi (fun v2 ev2 => ?_)
  obtain rfl : v2 = (xs (i.toInt.toNat + 1)) := by rw [ev2, show v1.toNatClampNeg = i.toInt.toNat + 1 by have c9 := clampI (x := v1) (by omega); omega]
  refine ok1 hT htx (fun p44 a3 a4 a5 a6 a7 x8 x9 x10 a11 a12 a13 a14 a15 a16 a17 a18 a19 x20 a21 a22 hk45 h23 h24 h25 h26 h27 h28 h29 h30 h31 h32 h33 h34 h35 h36 h37 h38 h39 h40 h41 h42 h43 => ?_)
  refine cgR (rn_V (As := [.int (xs (i.toInt.toNat + 1))]) (rest := []) (b := x) (x_X10_count l D Y Z H.size ws T g q x (xs (i.toInt.toNat + 1)) hT htx) ⟨hx, hb, hml, hown, hg⟩ lk_L_175 ⟨CPC.blind, va_recv hKN.1 (P_r hP) (ci := 10) (q0 := p44) rfl hk45, CPC.at (P_r hP) hKN (D_r hD) hSZ hS hA⟩ ⟨⟨rfl, rfl⟩, ⟨Nat.le_of_ble_eq_true rfl, Nat.le_of_ble_eq_true rfl⟩, ⟨(show _ ≤ (600000 : Nat) by omega), (show _ ≤ (7302250 : Nat) by omega)⟩⟩ hl.1 rfl (Nat.le_of_ble_eq_true rfl) dL_law_1815) hP hD hS hA (fun u46 H locs hw47 hP hD hS => ?_)
  refine W.eq (g2 := F0 m 1818 ls [.int u46]) rfl ?_
  refine lv_pop hx hb dL_law_1818 rfl ?_
  refine lv_aload_n hx hb dL_law_1819 rfl (lv_at hl 1 rfl) ?_
  refine lv_aload_n hx hb dL_law_1820 rfl (lv_at hl 3 rfl) ?_
  refine lv_iload_n hx hb dL_law_1821 rfl (lv_at hl 0 rfl) ?_
  refine lv_iconst (v := 1) hx hb dL_law_1822 (by decide) ?_
  refine lv_iadd hx hb dL_law_1823 ?_
  refine lv_topi (fun v49 ev49 => ?_)
  have hv49 := i_add (Eq.refl i.toInt) (show (1 : Int32).toInt = 1 by decide) ev49 (by omega) (by omega)
  refine va_sld hx hb hX hbl hbA hS (vp_in_iff.mpr ⟨by omega, by omega⟩) dL_law_1824 ?_
  refine lv_topi (fun v50 ev50 => ?_)
  obtain rfl : v50 = (xs (i.toInt.toNat + 1)) := by rw [ev50, show v49.toNatClampNeg = i.toInt.toNat + 1 by have c9 := clampI (x := v49) (by omega); omega]
  refine cgL (X := (MW Y om a I J F G)) (ws := ws) (rn_V (As := [.int (xs (i.toInt.toNat + 1))]) (rest := []) (b := om) (m_count l D Y Z H.size om a I J F G (xs (i.toInt.toNat + 1)) hm0) ⟨hx, hb, hml, hown, hg⟩ lk_L_178 ⟨CP.blind, va_recv hKN.1 (P_l hP) (ci := 11) (q0 := 0) rfl rfl, CP.at (P_l hP) hKN (D_l hD)⟩ ⟨⟨rfl, rfl⟩, ⟨Nat.le_of_ble_eq_true rfl, Nat.le_of_ble_eq_true rfl⟩, ⟨(show _ ≤ (600000 : Nat) by omega), (show _ ≤ (7302250 : Nat) by omega)⟩⟩ hl.1 rfl (Nat.le_of_ble_eq_true rfl) dL_law_1825) hP hD hS hA (fun u51 H locs hw52 hP hD hS => ?_)
  refine W.widen (k := (bd + 0)) (n := (sd + 0)) (by omega) (by omega) ?_
  refine W.eq (g2 := F0 m 1828 ls [.int u51]) rfl ?_
  have hP : va_P D vwCl ((MW Y om a I J F G) ++ ws) H := hP
  have hD : va_D A ((MW Y om a I J F G) ++ ws) := hD
  have hR54 : LN T g q x F := LN.keep hLR.1 htx TLe.rf KS.rf rfl rfl
  have hD55 : LD T g q x F := LD.keep hLR.2 htx TLe.rf KD.rf rfl
  have hR54 : LC T g q x F := ⟨hR54, hD55⟩
  refine lv_pop hx hb dL_law_1828 rfl ?_
  refine lv_goto (tgt := 1878) hx hb dL_law_1829 (by decide) ?_
  exact hK I J F G ws T g q _ _ H locs ls (by omega) (by omega) ⟨hP, hD, hS, lv_sub hl [0, 1, 2, 3] rfl, hT, htx, hR54, hm0, hm1, hm2, hm3, hm4, hm5, (show 0 ≤ (I 3).toInt ∧ (I 3).toInt ≤ 400 by omega)⟩
set_option maxHeartbeats 4000000 in
set_option maxRecDepth 100000 in
theorem lc_38 {p : Program} {l : Launch} {e : Env} {s : State} {m : MethodId} {below : List Frame} {meth : Method} {c : Code} {sb L : Nat} {xs : Nat → Int32} (C0 : lw_At p s m meth c sb L xs) {D : va_G} {Y : Nat → ClassId} {Z : Nat → Nat} (hKN : KN D Y Z s) {A : Nat → Prop} (hSZ : SZ Z A s s.heap) (hA : ∀ q, s.heap.size ≤ q → A q) (hA2 : ∀ q, A q → s.heap.size ≤ q) {x om : Nat} {a : Nat → Nat} {H : Heap} {locs : List Loc} {ls : Array Slot} {I : Nat → Int32} {J : Nat → Int64} {F : Nat → Nat → Int32} {G : Nat → Nat → Int64} {ws : va_W} {T : RT} {g : GN} {q : GQ} {i : Int32} {bd sd : Nat} (hL : L ≤ 3584) (hi : 0 ≤ i.toInt ∧ i.toInt + 7 ≤ (L : Int)) (hbd : bd + 1092 ≤ 600000) (hsd : sd + 7753 ≤ 7302250) (hI : LI D Y Z A s sb x om a H locs ls I J F G ws T g q i) (hK : ∀ (I : Nat → Int32) (J : Nat → Int64) (F : Nat → Nat → Int32) (G : Nat → Nat → Int64) (ws : va_W) (T : RT) (g : GN) (q : GQ) (bd2 sd2 : Nat) (H : Heap) (locs : List Loc) (ls : Array Slot), bd2 ≤ bd + 1092 → sd2 ≤ sd + 7753 → LI D Y Z A s sb x om a H locs ls I J F G ws T g q i → W p l e room_1 s m #[Value.ref sb] below meth c H locs bd2 sd2 (lw_Z below #[Value.ref sb] s) (F0 m 1878 ls [])) : W p l e room_1 s m #[Value.ref sb] below meth c H locs bd sd (lw_Z below #[Value.ref sb] s) (F0 m 1832 ls []) := by
  obtain ⟨hx, hb, hr, hml, hown, hts, hX, hbl, hlocks, hgv⟩ := id C0
  have hb : c.code = cL_law := hb
  have hown : s.vm.findClass RL = some m.cls := hown
  have hg : ∀ w ∈ GW, w.before #[Value.ref sb] s = true := fun w h => hts w (gw_tbl h)
  have hbA : ¬ A sb := fun h => absurd (hA2 sb h) (Nat.not_le.mpr hbl)
  obtain ⟨hP, hD, hS, hl, hT, htx, hLR, hm0, hm1, hm2, hm3, hm4, hm5, hm6⟩ := hI
  refine lv_aload_n hx hb dL_law_1832 rfl (lv_at hl 2 rfl) ?_
  refine lv_aload_n hx hb dL_law_1833 rfl (lv_at hl 3 rfl) ?_
  refine lv_iload_n hx hb dL_law_1834 rfl (lv_at hl 0 rfl) ?_
  refine lv_iconst (v := 1) hx hb dL_law_1835 (by decide) ?_
  refine lv_iadd hx hb dL_law_1836 ?_
  refine lv_topi (fun v1 ev1 => ?_)
  have hv1 := i_add (Eq.refl i.toInt) (show (1 : Int32).toInt = 1 by decide) ev1 (by omega) (by omega)
  refine va_sld hx hb hX hbl hbA hS (vp_in_iff.mpr ⟨by omega, by omega⟩) dL_law_1837 ?_
  refine lv_topi (fun v2 ev2 => ?_)
  obtain rfl : v2 = (xs (i.toInt.toNat + 1)) := by rw [ev2, show v1.toNatClampNeg = i.toInt.toNat + 1 by have c9 := clampI (x := v1) (by omega); omega]
  refine ok1 hT htx (fun p44 a3 a4 a5 a6 a7 x8 x9 x10 a11 a12 a13 a14 a15 a16 a17 a18 a19 x20 a21 a22 hk45 h23 h24 h25 h26 h27 h28 h29 h30 h31 h32 h33 h34 h35 h36 h37 h38 h39 h40 h41 h42 h43 => ?_)
  refine cgR (rn_V (As := [.int (xs (i.toInt.toNat + 1))]) (rest := []) (b := x) (x_imageS l D Y Z H.size ws T g q x (xs (i.toInt.toNat + 1)) hT htx) ⟨hx, hb, hml, hown, hg⟩ lk_L_179 ⟨CPC.blind, va_recv hKN.1 (P_r hP) (ci := 10) (q0 := p44) rfl hk45, CPC.at (P_r hP) hKN (D_r hD) hSZ hS hA⟩ ⟨⟨rfl, rfl⟩, ⟨Nat.le_of_ble_eq_true rfl, Nat.le_of_ble_eq_true rfl⟩, ⟨(show _ ≤ (600000 : Nat) by omega), (show _ ≤ (7302250 : Nat) by omega)⟩⟩ hl.1 rfl (Nat.le_of_ble_eq_true rfl) dL_law_1838) hP hD hS hA (fun u46 H locs hw47 hP hD hS => ?_)
  refine W.widen (k := (bd + 32)) (n := (sd + 7753)) (by omega) (by omega) ?_
  obtain ⟨u48, w49, T50, g51, q52⟩ := u46
  obtain ⟨le53, hT, ke54, ke55, hw56, hw57⟩ : TLe T T50 ∧ TW Y Z T50 g51 q52 w49 ∧ KF 1 T ws w49 ∧ KF 6 T ws w49 ∧ (∀ s0 ia, q x 0 = some s0 → q x 1 = some ia → (0 ≤ (xs (i.toInt.toNat + 1)).toInt ∧ (xs (i.toInt.toNat + 1)).toInt ≤ 3) → IMD g g51 q q52 s0 ia (xs (i.toInt.toNat + 1)).toNatClampNeg) ∧ (∀ s0 ia, q x 0 = some s0 → q x 1 = some ia → ((0 ≤ (xs (i.toInt.toNat + 1)).toInt ∧ (xs (i.toInt.toNat + 1)).toInt ≤ 3) ∧ u48 = g s0 0 ∧ IMS T T50 g g51 q q52 x s0 ia (xs (i.toInt.toNat + 1)).toNatClampNeg) ∨ (¬ (0 ≤ (xs (i.toInt.toNat + 1)).toInt ∧ (xs (i.toInt.toNat + 1)).toInt ≤ 3) ∧ u48.toInt = -1 ∧ g51 = g ∧ q52 = q)) := hw47
  have hk58 := ke54 _ _ hk45 (show (T x).1 = 1 by rw [htx])
  refine W.eq (g2 := F0 m 1841 ls [.int u48]) rfl ?_
  refine lv_pop hx hb dL_law_1841 rfl ?_
  refine lv_aload_n hx hb dL_law_1842 rfl (lv_at hl 1 rfl) ?_
  refine lv_aload_n hx hb dL_law_1843 rfl (lv_at hl 3 rfl) ?_
  refine lv_iload_n hx hb dL_law_1844 rfl (lv_at hl 0 rfl) ?_
  refine lv_iconst (v := 1) hx hb dL_law_1845 (by decide) ?_
  refine lv_iadd hx hb dL_law_1846 ?_
  refine lv_topi (fun v59 ev59 => ?_)
  have hv59 := i_add (Eq.refl i.toInt) (show (1 : Int32).toInt = 1 by decide) ev59 (by omega) (by omega)
  refine va_sld hx hb hX hbl hbA hS (vp_in_iff.mpr ⟨by omega, by omega⟩) dL_law_1847 ?_
  refine lv_topi (fun v60 ev60 => ?_)
  obtain rfl : v60 = (xs (i.toInt.toNat + 1)) := by rw [ev60, show v59.toNatClampNeg = i.toInt.toNat + 1 by have c9 := clampI (x := v59) (by omega); omega]
  refine cgL (X := (MW Y om a I J F G)) (ws := w49) (rn_V (As := [.int (xs (i.toInt.toNat + 1))]) (rest := []) (b := om) (m_imageK l D Y Z H.size om a I J F G (xs (i.toInt.toNat + 1)) hm0 hm5) ⟨hx, hb, hml, hown, hg⟩ lk_L_182 ⟨CP.blind, va_recv hKN.1 (P_l hP) (ci := 11) (q0 := 0) rfl rfl, CP.at (P_l hP) hKN (D_l hD)⟩ ⟨⟨rfl, rfl⟩, ⟨Nat.le_of_ble_eq_true rfl, Nat.le_of_ble_eq_true rfl⟩, ⟨(show _ ≤ (600000 : Nat) by omega), (show _ ≤ (7302250 : Nat) by omega)⟩⟩ hl.1 rfl (Nat.le_of_ble_eq_true rfl) dL_law_1848) hP hD hS hA (fun u61 H locs hw62 hP hD hS => ?_)
  refine W.widen (k := (bd + 32)) (n := (sd + 7753)) (by omega) (by omega) ?_
  obtain ⟨u63, f64, f65⟩ := u61
  obtain ⟨hw66, hw67⟩ : IMG f64 ∧ ((((0 ≤ (xs (i.toInt.toNat + 1)).toInt ∧ (xs (i.toInt.toNat + 1)).toInt ≤ 3) ∧ u63 = (F 0) 0 ∧ IMP (xs (i.toInt.toNat + 1)).toNatClampNeg (F 0) (F 47) (F 48) f64 f65) ∨ (¬ (0 ≤ (xs (i.toInt.toNat + 1)).toInt ∧ (xs (i.toInt.toNat + 1)).toInt ≤ 3) ∧ u63.toInt = -1 ∧ f64 = (F 47) ∧ f65 = (F 48)))) := hw62
  refine W.eq (g2 := F0 m 1851 ls [.int u63]) rfl ?_
  have hP : va_P D vwCl ((MW Y om a I J (vf_upd (vf_upd F 47 f64) 48 f65) G) ++ w49) H := hP
  have hD : va_D A ((MW Y om a I J (vf_upd (vf_upd F 47 f64) 48 f65) G) ++ w49) := hD
  have hR68E := LN.image (F2 := (vf_upd (vf_upd F 47 f64) 48 f65)) hLR.1 htx le53 (K := (xs (i.toInt.toNat + 1)).toNatClampNeg) (fun h9 => by have c9 := clampI (x := xs (i.toInt.toNat + 1)) h9.1; omega) hw57 hw67 rfl rfl rfl
  have hR68 := hR68E.2
  have hR68E := hR68E.1
  have hD69 : LD T50 g51 q52 x (vf_upd (vf_upd F 47 f64) 48 f65) := LD.image hLR.2 htx le53 hT (K := (xs (i.toInt.toNat + 1)).toNatClampNeg) (fun h9 => by have c9 := clampI (x := xs (i.toInt.toNat + 1)) h9.1; omega) hw57 hw56 hw67 rfl rfl
  have hR68 : LC T50 g51 q52 x (vf_upd (vf_upd F 47 f64) 48 f65) := ⟨hR68, hD69⟩
  refine lv_pop hx hb dL_law_1851 rfl ?_
  refine lv_goto (tgt := 1878) hx hb dL_law_1852 (by decide) ?_
  exact hK I J (vf_upd (vf_upd F 47 f64) 48 f65) G w49 T50 g51 q52 _ _ H locs ls (by omega) (by omega) ⟨hP, hD, hS, lv_sub hl [0, 1, 2, 3] rfl, hT, (le53.up htx), hR68, hm0, hm1, hm2, hm3, hm4, hw66, (show 0 ≤ (I 3).toInt ∧ (I 3).toInt ≤ 400 by omega)⟩
set_option maxHeartbeats 4000000 in
set_option maxRecDepth 100000 in
theorem lc_39 {p : Program} {l : Launch} {e : Env} {s : State} {m : MethodId} {below : List Frame} {meth : Method} {c : Code} {sb L : Nat} {xs : Nat → Int32} (C0 : lw_At p s m meth c sb L xs) {D : va_G} {Y : Nat → ClassId} {Z : Nat → Nat} (hKN : KN D Y Z s) {A : Nat → Prop} (hSZ : SZ Z A s s.heap) (hA : ∀ q, s.heap.size ≤ q → A q) (hA2 : ∀ q, A q → s.heap.size ≤ q) {x om : Nat} {a : Nat → Nat} {H : Heap} {locs : List Loc} {ls : Array Slot} {I : Nat → Int32} {J : Nat → Int64} {F : Nat → Nat → Int32} {G : Nat → Nat → Int64} {ws : va_W} {T : RT} {g : GN} {q : GQ} {i : Int32} {bd sd : Nat} (hL : L ≤ 3584) (hi : 0 ≤ i.toInt ∧ i.toInt + 7 ≤ (L : Int)) (hbd : bd + 1092 ≤ 600000) (hsd : sd + 7753 ≤ 7302250) (hI : LI D Y Z A s sb x om a H locs ls I J F G ws T g q i) (hK : ∀ (I : Nat → Int32) (J : Nat → Int64) (F : Nat → Nat → Int32) (G : Nat → Nat → Int64) (ws : va_W) (T : RT) (g : GN) (q : GQ) (bd2 sd2 : Nat) (H : Heap) (locs : List Loc) (ls : Array Slot), bd2 ≤ bd + 1092 → sd2 ≤ sd + 7753 → LI D Y Z A s sb x om a H locs ls I J F G ws T g q i → W p l e room_1 s m #[Value.ref sb] below meth c H locs bd2 sd2 (lw_Z below #[Value.ref sb] s) (F0 m 1878 ls [])) : W p l e room_1 s m #[Value.ref sb] below meth c H locs bd sd (lw_Z below #[Value.ref sb] s) (F0 m 1855 ls []) := by
  obtain ⟨hx, hb, hr, hml, hown, hts, hX, hbl, hlocks, hgv⟩ := id C0
  have hb : c.code = cL_law := hb
  have hown : s.vm.findClass RL = some m.cls := hown
  have hg : ∀ w ∈ GW, w.before #[Value.ref sb] s = true := fun w h => hts w (gw_tbl h)
  have hbA : ¬ A sb := fun h => absurd (hA2 sb h) (Nat.not_le.mpr hbl)
  obtain ⟨hP, hD, hS, hl, hT, htx, hLR, hm0, hm1, hm2, hm3, hm4, hm5, hm6⟩ := hI
  refine lv_aload_n hx hb dL_law_1855 rfl (lv_at hl 2 rfl) ?_
  refine lv_aload_n hx hb dL_law_1856 rfl (lv_at hl 3 rfl) ?_
  refine lv_iload_n hx hb dL_law_1857 rfl (lv_at hl 0 rfl) ?_
  refine lv_iconst (v := 1) hx hb dL_law_1858 (by decide) ?_
  refine lv_iadd hx hb dL_law_1859 ?_
  refine lv_topi (fun v1 ev1 => ?_)
  have hv1 := i_add (Eq.refl i.toInt) (show (1 : Int32).toInt = 1 by decide) ev1 (by omega) (by omega)
  refine va_sld hx hb hX hbl hbA hS (vp_in_iff.mpr ⟨by omega, by omega⟩) dL_law_1860 ?_
  refine lv_topi (fun v2 ev2 => ?_)
  obtain rfl : v2 = (xs (i.toInt.toNat + 1)) := by rw [ev2, show v1.toNatClampNeg = i.toInt.toNat + 1 by have c9 := clampI (x := v1) (by omega); omega]
  refine ok1 hT htx (fun p44 a3 a4 a5 a6 a7 x8 x9 x10 a11 a12 a13 a14 a15 a16 a17 a18 a19 x20 a21 a22 hk45 h23 h24 h25 h26 h27 h28 h29 h30 h31 h32 h33 h34 h35 h36 h37 h38 h39 h40 h41 h42 h43 => ?_)
  refine cgR (rn_V (As := [.int (xs (i.toInt.toNat + 1))]) (rest := []) (b := x) (x_backS l D Y Z H.size ws T g q x (xs (i.toInt.toNat + 1)) hT htx) ⟨hx, hb, hml, hown, hg⟩ lk_L_183 ⟨CPC.blind, va_recv hKN.1 (P_r hP) (ci := 10) (q0 := p44) rfl hk45, CPC.at (P_r hP) hKN (D_r hD) hSZ hS hA⟩ ⟨⟨rfl, rfl⟩, ⟨Nat.le_of_ble_eq_true rfl, Nat.le_of_ble_eq_true rfl⟩, ⟨(show _ ≤ (600000 : Nat) by omega), (show _ ≤ (7302250 : Nat) by omega)⟩⟩ hl.1 rfl (Nat.le_of_ble_eq_true rfl) dL_law_1861) hP hD hS hA (fun u46 H locs hw47 hP hD hS => ?_)
  refine W.widen (k := (bd + 24)) (n := (sd + 7248)) (by omega) (by omega) ?_
  obtain ⟨u48, w49, T50, g51, q52⟩ := u46
  obtain ⟨le53, hT, ke54, hw55, hw56⟩ : TLe T T50 ∧ TW Y Z T50 g51 q52 w49 ∧ KF 6 T ws w49 ∧ (∀ s0 ia, q x 0 = some s0 → q x 1 = some ia → ∀ b, (0 ≤ (xs (i.toInt.toNat + 1)).toInt ∧ (xs (i.toInt.toNat + 1)).toInt ≤ 3) → q ia (xs (i.toInt.toNat + 1)).toNatClampNeg = some b → BRW g g51 q s0 b) ∧ (∀ s0 ia, q x 0 = some s0 → q x 1 = some ia → ((0 ≤ (xs (i.toInt.toNat + 1)).toInt ∧ (xs (i.toInt.toNat + 1)).toInt ≤ 3) ∧ BKS T T50 g g51 q q52 s0 ia (xs (i.toInt.toNat + 1)).toNatClampNeg u48) ∨ (((0 ≤ (xs (i.toInt.toNat + 1)).toInt ∧ (xs (i.toInt.toNat + 1)).toInt ≤ 3) → q ia (xs (i.toInt.toNat + 1)).toNatClampNeg = none) ∧ u48.toInt = -1 ∧ g51 = g ∧ q52 = q)) := hw47
  refine W.eq (g2 := F0 m 1864 ls [.int u48]) rfl ?_
  refine lv_pop hx hb dL_law_1864 rfl ?_
  refine lv_aload_n hx hb dL_law_1865 rfl (lv_at hl 1 rfl) ?_
  refine lv_aload_n hx hb dL_law_1866 rfl (lv_at hl 3 rfl) ?_
  refine lv_iload_n hx hb dL_law_1867 rfl (lv_at hl 0 rfl) ?_
  refine lv_iconst (v := 1) hx hb dL_law_1868 (by decide) ?_
  refine lv_iadd hx hb dL_law_1869 ?_
  refine lv_topi (fun v57 ev57 => ?_)
  have hv57 := i_add (Eq.refl i.toInt) (show (1 : Int32).toInt = 1 by decide) ev57 (by omega) (by omega)
  refine va_sld hx hb hX hbl hbA hS (vp_in_iff.mpr ⟨by omega, by omega⟩) dL_law_1870 ?_
  refine lv_topi (fun v58 ev58 => ?_)
  obtain rfl : v58 = (xs (i.toInt.toNat + 1)) := by rw [ev58, show v57.toNatClampNeg = i.toInt.toNat + 1 by have c9 := clampI (x := v57) (by omega); omega]
  refine cgL (X := (MW Y om a I J F G)) (ws := w49) (rn_V (As := [.int (xs (i.toInt.toNat + 1))]) (rest := []) (b := om) (m_backK l D Y Z H.size om a I J F G (xs (i.toInt.toNat + 1)) hm0 hm5) ⟨hx, hb, hml, hown, hg⟩ lk_L_186 ⟨CP.blind, va_recv hKN.1 (P_l hP) (ci := 11) (q0 := 0) rfl rfl, CP.at (P_l hP) hKN (D_l hD)⟩ ⟨⟨rfl, rfl⟩, ⟨Nat.le_of_ble_eq_true rfl, Nat.le_of_ble_eq_true rfl⟩, ⟨(show _ ≤ (600000 : Nat) by omega), (show _ ≤ (7302250 : Nat) by omega)⟩⟩ hl.1 rfl (Nat.le_of_ble_eq_true rfl) dL_law_1871) hP hD hS hA (fun u59 H locs hw60 hP hD hS => ?_)
  refine W.widen (k := (bd + 24)) (n := (sd + 7248)) (by omega) (by omega) ?_
  obtain ⟨u61, f62⟩ := u59
  obtain ⟨hw63, hw64⟩ : TO f62 ∧ ((((0 ≤ (xs (i.toInt.toNat + 1)).toInt ∧ (xs (i.toInt.toNat + 1)).toInt ≤ 3) ∧ ((F 48) (xs (i.toInt.toNat + 1)).toNatClampNeg).toInt ≠ 0) ∧ u61 = f62 0 ∧ ∀ n : Nat, n < 7533 → f62 n = (F 47) (7533 * (xs (i.toInt.toNat + 1)).toNatClampNeg + n)) ∨ (¬ ((0 ≤ (xs (i.toInt.toNat + 1)).toInt ∧ (xs (i.toInt.toNat + 1)).toInt ≤ 3) ∧ ((F 48) (xs (i.toInt.toNat + 1)).toNatClampNeg).toInt ≠ 0) ∧ u61.toInt = -1 ∧ f62 = (F 0))) := hw60
  refine W.eq (g2 := F0 m 1874 ls [.int u61]) rfl ?_
  have hP : va_P D vwCl ((MW Y om a I J (vf_upd F 0 f62) G) ++ w49) H := hP
  have hD : va_D A ((MW Y om a I J (vf_upd F 0 f62) G) ++ w49) := hD
  have hR65E := LN.back (F2 := (vf_upd F 0 f62)) hLR.1 htx le53 (K := (xs (i.toInt.toNat + 1)).toNatClampNeg) (fun h9 => by have c9 := clampI (x := xs (i.toInt.toNat + 1)) h9.1; omega) hw56 hw64 rfl rfl rfl
  have hR65 := hR65E.2
  have hR65E := hR65E.1
  have hD66 : LD T50 g51 q52 x (vf_upd F 0 f62) := LD.back hLR.2 hLR.1 htx le53 (K := (xs (i.toInt.toNat + 1)).toNatClampNeg) (fun h9 => by have c9 := clampI (x := xs (i.toInt.toNat + 1)) h9.1; omega) hw56 hw55 hw64 rfl rfl
  have hR65 : LC T50 g51 q52 x (vf_upd F 0 f62) := ⟨hR65, hD66⟩
  refine lv_pop hx hb dL_law_1874 rfl ?_
  refine lv_goto (tgt := 1878) hx hb dL_law_1875 (by decide) ?_
  exact hK I J (vf_upd F 0 f62) G w49 T50 g51 q52 _ _ H locs ls (by omega) (by omega) ⟨hP, hD, hS, lv_sub hl [0, 1, 2, 3] rfl, hT, (le53.up htx), hR65, hw63, hm1, hm2, hm3, hm4, hm5, (show 0 ≤ (I 3).toInt ∧ (I 3).toInt ≤ 400 by omega)⟩
