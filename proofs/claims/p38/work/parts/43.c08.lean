set_option maxHeartbeats 4000000 in
set_option maxRecDepth 100000 in
theorem lc_8 {p : Program} {l : Launch} {e : Env} {s : State} {m : MethodId} {below : List Frame} {meth : Method} {c : Code} {sb L : Nat} {xs : Nat → Int32} (C0 : lw_At p s m meth c sb L xs) {D : va_G} {Y : Nat → ClassId} {Z : Nat → Nat} (hKN : KN D Y Z s) {A : Nat → Prop} (hSZ : SZ Z A s s.heap) (hA : ∀ q, s.heap.size ≤ q → A q) (hA2 : ∀ q, A q → s.heap.size ≤ q) {x om : Nat} {a : Nat → Nat} {H : Heap} {locs : List Loc} {ls : Array Slot} {I : Nat → Int32} {J : Nat → Int64} {F : Nat → Nat → Int32} {G : Nat → Nat → Int64} {ws : va_W} {T : RT} {g : GN} {q : GQ} {i : Int32} {bd sd : Nat} (hL : L ≤ 3584) (hi : 0 ≤ i.toInt ∧ i.toInt + 7 ≤ (L : Int)) (hbd : bd + 1092 ≤ 600000) (hsd : sd + 7753 ≤ 7302250) (hI : LI D Y Z A s sb x om a H locs ls I J F G ws T g q i) (hK : ∀ (I : Nat → Int32) (J : Nat → Int64) (F : Nat → Nat → Int32) (G : Nat → Nat → Int64) (ws : va_W) (T : RT) (g : GN) (q : GQ) (bd2 sd2 : Nat) (H : Heap) (locs : List Loc) (ls : Array Slot), bd2 ≤ bd + 1092 → sd2 ≤ sd + 7753 → LI D Y Z A s sb x om a H locs ls I J F G ws T g q i → W p l e room_1 s m #[Value.ref sb] below meth c H locs bd2 sd2 (lw_Z below #[Value.ref sb] s) (F0 m 1878 ls [])) : W p l e room_1 s m #[Value.ref sb] below meth c H locs bd sd (lw_Z below #[Value.ref sb] s) (F0 m 550 ls []) := by
  obtain ⟨hx, hb, hr, hml, hown, hts, hX, hbl, hlocks, hgv⟩ := id C0
  have hb : c.code = cL_law := hb
  have hown : s.vm.findClass RL = some m.cls := hown
  have hg : ∀ w ∈ GW, w.before #[Value.ref sb] s = true := fun w h => hts w (gw_tbl h)
  have hbA : ¬ A sb := fun h => absurd (hA2 sb h) (Nat.not_le.mpr hbl)
  obtain ⟨hP, hD, hS, hl, hT, htx, hLR, hm0, hm1, hm2, hm3, hm4, hm5, hm6⟩ := hI
  refine lv_aload_n hx hb dL_law_550 rfl (lv_at hl 2 rfl) ?_
  refine lv_aload_n hx hb dL_law_551 rfl (lv_at hl 3 rfl) ?_
  refine lv_iload_n hx hb dL_law_552 rfl (lv_at hl 0 rfl) ?_
  refine lv_iconst (v := 1) hx hb dL_law_553 (by decide) ?_
  refine lv_iadd hx hb dL_law_554 ?_
  refine lv_topi (fun v1 ev1 => ?_)
  have hv1 := i_add (Eq.refl i.toInt) (show (1 : Int32).toInt = 1 by decide) ev1 (by omega) (by omega)
  refine va_sld hx hb hX hbl hbA hS (vp_in_iff.mpr ⟨by omega, by omega⟩) dL_law_555 ?_
  refine lv_topi (fun v2 ev2 => ?_)
  obtain rfl : v2 = (xs (i.toInt.toNat + 1)) := by rw [ev2, show v1.toNatClampNeg = i.toInt.toNat + 1 by have c9 := clampI (x := v1) (by omega); omega]
  refine lv_aload_n hx hb dL_law_556 rfl (lv_at hl 3 rfl) ?_
  refine lv_iload_n hx hb dL_law_557 rfl (lv_at hl 0 rfl) ?_
  refine lv_iconst (v := 2) hx hb dL_law_558 (by decide) ?_
  refine lv_iadd hx hb dL_law_559 ?_
  refine lv_topi (fun v3 ev3 => ?_)
  have hv3 := i_add (Eq.refl i.toInt) (show (2 : Int32).toInt = 2 by decide) ev3 (by omega) (by omega)
  refine va_sld hx hb hX hbl hbA hS (vp_in_iff.mpr ⟨by omega, by omega⟩) dL_law_560 ?_
  refine lv_topi (fun v4 ev4 => ?_)
  obtain rfl : v4 = (xs (i.toInt.toNat + 2)) := by rw [ev4, show v3.toNatClampNeg = i.toInt.toNat + 2 by have c9 := clampI (x := v3) (by omega); omega]
  refine lv_aload_n hx hb dL_law_561 rfl (lv_at hl 3 rfl) ?_
  refine lv_iload_n hx hb dL_law_562 rfl (lv_at hl 0 rfl) ?_
  refine lv_iconst (v := 3) hx hb dL_law_563 (by decide) ?_
  refine lv_iadd hx hb dL_law_564 ?_
  refine lv_topi (fun v5 ev5 => ?_)
  have hv5 := i_add (Eq.refl i.toInt) (show (3 : Int32).toInt = 3 by decide) ev5 (by omega) (by omega)
  refine va_sld hx hb hX hbl hbA hS (vp_in_iff.mpr ⟨by omega, by omega⟩) dL_law_565 ?_
  refine lv_topi (fun v6 ev6 => ?_)
  obtain rfl : v6 = (xs (i.toInt.toNat + 3)) := by rw [ev6, show v5.toNatClampNeg = i.toInt.toNat + 3 by have c9 := clampI (x := v5) (by omega); omega]
  refine lv_aload_n hx hb dL_law_566 rfl (lv_at hl 3 rfl) ?_
  refine lv_iload_n hx hb dL_law_567 rfl (lv_at hl 0 rfl) ?_
  refine lv_iconst (v := 4) hx hb dL_law_568 (by decide) ?_
  refine lv_iadd hx hb dL_law_569 ?_
  refine lv_topi (fun v7 ev7 => ?_)
  have hv7 := i_add (Eq.refl i.toInt) (show (4 : Int32).toInt = 4 by decide) ev7 (by omega) (by omega)
  refine va_sld hx hb hX hbl hbA hS (vp_in_iff.mpr ⟨by omega, by omega⟩) dL_law_570 ?_
  refine lv_topi (fun v8 ev8 => ?_)
  obtain rfl : v8 = (xs (i.toInt.toNat + 4)) := by rw [ev8, show v7.toNatClampNeg = i.toInt.toNat + 4 by have c9 := clampI (x := v7) (by omega); omega]
  refine lv_aload_n hx hb dL_law_571 rfl (lv_at hl 3 rfl) ?_
  refine lv_iload_n hx hb dL_law_572 rfl (lv_at hl 0 rfl) ?_
  refine lv_iconst (v := 5) hx hb dL_law_573 (by decide) ?_
  refine lv_iadd hx hb dL_law_574 ?_
  refine lv_topi (fun v9 ev9 => ?_)
  have hv9 := i_add (Eq.refl i.toInt) (show (5 : Int32).toInt = 5 by decide) ev9 (by omega) (by omega)
  refine va_sld hx hb hX hbl hbA hS (vp_in_iff.mpr ⟨by omega, by omega⟩) dL_law_575 ?_
  refine lv_topi (fun v10 ev10 => ?_)
  obtain rfl : v10 = (xs (i.toInt.toNat + 5)) := by rw [ev10, show v9.toNatClampNeg = i.toInt.toNat + 5 by have c9 := clampI (x := v9) (by omega); omega]
  refine ok1 hT htx (fun p52 a11 a12 a13 a14 a15 x16 x17 x18 a19 a20 a21 a22 a23 a24 a25 a26 a27 x28 a29 a30 hk53 h31 h32 h33 h34 h35 h36 h37 h38 h39 h40 h41 h42 h43 h44 h45 h46 h47 h48 h49 h50 h51 => ?_)
  refine cgR (rn_V (As := [.int (xs (i.toInt.toNat + 1)), .int (xs (i.toInt.toNat + 2)), .int (xs (i.toInt.toNat + 3)), .int (xs (i.toInt.toNat + 4)), .int (xs (i.toInt.toNat + 5))]) (rest := []) (b := x) (x_X10_feed l D Y Z H.size ws T g q x (xs (i.toInt.toNat + 1)) (xs (i.toInt.toNat + 2)) (xs (i.toInt.toNat + 3)) (xs (i.toInt.toNat + 4)) (xs (i.toInt.toNat + 5)) hT htx) ⟨hx, hb, hml, hown, hg⟩ lk_L_50 ⟨CPC.blind, va_recv hKN.1 (P_r hP) (ci := 10) (q0 := p52) rfl hk53, CPC.at (P_r hP) hKN (D_r hD) hSZ hS hA⟩ ⟨⟨rfl, rfl⟩, ⟨Nat.le_of_ble_eq_true rfl, Nat.le_of_ble_eq_true rfl⟩, ⟨(show _ ≤ (600000 : Nat) by omega), (show _ ≤ (7302250 : Nat) by omega)⟩⟩ hl.1 rfl (Nat.le_of_ble_eq_true rfl) dL_law_576) hP hD hS hA (fun u54 H locs hw55 hP hD hS => ?_)
  obtain ⟨u56, w57⟩ := u54
  obtain ⟨hT, ke58, ke59⟩ : TW Y Z T g q w57 ∧ KF 1 T ws w57 ∧ KF 6 T ws w57 := hw55
  have hk60 := ke58 _ _ hk53 (show (T x).1 = 1 by rw [htx])
  refine W.eq (g2 := F0 m 579 ls [.int u56]) rfl ?_
  refine lv_pop hx hb dL_law_579 rfl ?_
  refine lv_aload_n hx hb dL_law_580 rfl (lv_at hl 1 rfl) ?_
  refine lv_aload_n hx hb dL_law_581 rfl (lv_at hl 3 rfl) ?_
  refine lv_iload_n hx hb dL_law_582 rfl (lv_at hl 0 rfl) ?_
  refine lv_iconst (v := 1) hx hb dL_law_583 (by decide) ?_
  refine lv_iadd hx hb dL_law_584 ?_
  refine lv_topi (fun v61 ev61 => ?_)
  have hv61 := i_add (Eq.refl i.toInt) (show (1 : Int32).toInt = 1 by decide) ev61 (by omega) (by omega)
  refine va_sld hx hb hX hbl hbA hS (vp_in_iff.mpr ⟨by omega, by omega⟩) dL_law_585 ?_
  refine lv_topi (fun v62 ev62 => ?_)
  obtain rfl : v62 = (xs (i.toInt.toNat + 1)) := by rw [ev62, show v61.toNatClampNeg = i.toInt.toNat + 1 by have c9 := clampI (x := v61) (by omega); omega]
  refine lv_aload_n hx hb dL_law_586 rfl (lv_at hl 3 rfl) ?_
  refine lv_iload_n hx hb dL_law_587 rfl (lv_at hl 0 rfl) ?_
  refine lv_iconst (v := 2) hx hb dL_law_588 (by decide) ?_
  refine lv_iadd hx hb dL_law_589 ?_
  refine lv_topi (fun v63 ev63 => ?_)
  have hv63 := i_add (Eq.refl i.toInt) (show (2 : Int32).toInt = 2 by decide) ev63 (by omega) (by omega)
  refine va_sld hx hb hX hbl hbA hS (vp_in_iff.mpr ⟨by omega, by omega⟩) dL_law_590 ?_
  refine lv_topi (fun v64 ev64 => ?_)
  obtain rfl : v64 = (xs (i.toInt.toNat + 2)) := by rw [ev64, show v63.toNatClampNeg = i.toInt.toNat + 2 by have c9 := clampI (x := v63) (by omega); omega]
  refine lv_aload_n hx hb dL_law_591 rfl (lv_at hl 3 rfl) ?_
  refine lv_iload_n hx hb dL_law_592 rfl (lv_at hl 0 rfl) ?_
  refine lv_iconst (v := 3) hx hb dL_law_593 (by decide) ?_
  refine lv_iadd hx hb dL_law_594 ?_
  refine lv_topi (fun v65 ev65 => ?_)
  have hv65 := i_add (Eq.refl i.toInt) (show (3 : Int32).toInt = 3 by decide) ev65 (by omega) (by omega)
  refine va_sld hx hb hX hbl hbA hS (vp_in_iff.mpr ⟨by omega, by omega⟩) dL_law_595 ?_
  refine lv_topi (fun v66 ev66 => ?_)
  obtain rfl : v66 = (xs (i.toInt.toNat + 3)) := by rw [ev66, show v65.toNatClampNeg = i.toInt.toNat + 3 by have c9 := clampI (x := v65) (by omega); omega]
  refine lv_aload_n hx hb dL_law_596 rfl (lv_at hl 3 rfl) ?_
  refine lv_iload_n hx hb dL_law_597 rfl (lv_at hl 0 rfl) ?_
  refine lv_iconst (v := 4) hx hb dL_law_598 (by decide) ?_
  refine lv_iadd hx hb dL_law_599 ?_
  refine lv_topi (fun v67 ev67 => ?_)
  have hv67 := i_add (Eq.refl i.toInt) (show (4 : Int32).toInt = 4 by decide) ev67 (by omega) (by omega)
  refine va_sld hx hb hX hbl hbA hS (vp_in_iff.mpr ⟨by omega, by omega⟩) dL_law_600 ?_
  refine lv_topi (fun v68 ev68 => ?_)
  obtain rfl : v68 = (xs (i.toInt.toNat + 4)) := by rw [ev68, show v67.toNatClampNeg = i.toInt.toNat + 4 by have c9 := clampI (x := v67) (by omega); omega]
  refine lv_aload_n hx hb dL_law_601 rfl (lv_at hl 3 rfl) ?_
  refine lv_iload_n hx hb dL_law_602 rfl (lv_at hl 0 rfl) ?_
  refine lv_iconst (v := 5) hx hb dL_law_603 (by decide) ?_
  refine lv_iadd hx hb dL_law_604 ?_
  refine lv_topi (fun v69 ev69 => ?_)
  have hv69 := i_add (Eq.refl i.toInt) (show (5 : Int32).toInt = 5 by decide) ev69 (by omega) (by omega)
  refine va_sld hx hb hX hbl hbA hS (vp_in_iff.mpr ⟨by omega, by omega⟩) dL_law_605 ?_
  refine lv_topi (fun v70 ev70 => ?_)
  obtain rfl : v70 = (xs (i.toInt.toNat + 5)) := by rw [ev70, show v69.toNatClampNeg = i.toInt.toNat + 5 by have c9 := clampI (x := v69) (by omega); omega]
  refine cgL (X := (MW Y om a I J F G)) (ws := w57) (rn_V (As := [.int (xs (i.toInt.toNat + 1)), .int (xs (i.toInt.toNat + 2)), .int (xs (i.toInt.toNat + 3)), .int (xs (i.toInt.toNat + 4)), .int (xs (i.toInt.toNat + 5))]) (rest := []) (b := om) (m_feed l D Y Z H.size om a I J F G (xs (i.toInt.toNat + 1)) (xs (i.toInt.toNat + 2)) (xs (i.toInt.toNat + 3)) (xs (i.toInt.toNat + 4)) (xs (i.toInt.toNat + 5)) (show (0 ≤ (I 3).toInt ∧ (I 3).toInt ≤ 400) by omega)) ⟨hx, hb, hml, hown, hg⟩ lk_L_54 ⟨CP.blind, va_recv hKN.1 (P_l hP) (ci := 11) (q0 := 0) rfl rfl, CP.at (P_l hP) hKN (D_l hD)⟩ ⟨⟨rfl, rfl⟩, ⟨Nat.le_of_ble_eq_true rfl, Nat.le_of_ble_eq_true rfl⟩, ⟨(show _ ≤ (600000 : Nat) by omega), (show _ ≤ (7302250 : Nat) by omega)⟩⟩ hl.1 rfl (Nat.le_of_ble_eq_true rfl) dL_law_606) hP hD hS hA (fun u71 H locs hw72 hP hD hS => ?_)
  refine W.widen (k := (bd + 0)) (n := (sd + 0)) (by omega) (by omega) ?_
  obtain ⟨u73, u74, f75⟩ := u71
  have hw76 : (0 ≤ u74.toInt ∧ u74.toInt ≤ 400) := hw72
  refine W.eq (g2 := F0 m 609 ls [.int u73]) rfl ?_
  have hP : va_P D vwCl ((MW Y om a (upd I 3 u74) J (vf_upd F 2 f75) G) ++ w57) H := hP
  have hD : va_D A ((MW Y om a (upd I 3 u74) J (vf_upd F 2 f75) G) ++ w57) := hD
  have hR77 : LN T g q x (vf_upd F 2 f75) := LN.keep hLR.1 htx TLe.rf KS.rf rfl rfl
  have hD78 : LD T g q x (vf_upd F 2 f75) := LD.keep hLR.2 htx TLe.rf KD.rf rfl
  have hR77 : LC T g q x (vf_upd F 2 f75) := ⟨hR77, hD78⟩
  refine lv_pop hx hb dL_law_609 rfl ?_
  refine lv_goto (tgt := 1878) hx hb dL_law_610 (by decide) ?_
  exact hK (upd I 3 u74) J (vf_upd F 2 f75) G w57 T g q _ _ H locs ls (by omega) (by omega) ⟨hP, hD, hS, lv_sub hl [0, 1, 2, 3] rfl, hT, htx, hR77, hm0, hm1, hm2, hm3, hm4, hm5, (show 0 ≤ u74.toInt ∧ u74.toInt ≤ 400 by omega)⟩
set_option maxHeartbeats 4000000 in
set_option maxRecDepth 100000 in
theorem lc_9 {p : Program} {l : Launch} {e : Env} {s : State} {m : MethodId} {below : List Frame} {meth : Method} {c : Code} {sb L : Nat} {xs : Nat → Int32} (C0 : lw_At p s m meth c sb L xs) {D : va_G} {Y : Nat → ClassId} {Z : Nat → Nat} (hKN : KN D Y Z s) {A : Nat → Prop} (hSZ : SZ Z A s s.heap) (hA : ∀ q, s.heap.size ≤ q → A q) (hA2 : ∀ q, A q → s.heap.size ≤ q) {x om : Nat} {a : Nat → Nat} {H : Heap} {locs : List Loc} {ls : Array Slot} {I : Nat → Int32} {J : Nat → Int64} {F : Nat → Nat → Int32} {G : Nat → Nat → Int64} {ws : va_W} {T : RT} {g : GN} {q : GQ} {i : Int32} {bd sd : Nat} (hL : L ≤ 3584) (hi : 0 ≤ i.toInt ∧ i.toInt + 7 ≤ (L : Int)) (hbd : bd + 1092 ≤ 600000) (hsd : sd + 7753 ≤ 7302250) (hI : LI D Y Z A s sb x om a H locs ls I J F G ws T g q i) (hK : ∀ (I : Nat → Int32) (J : Nat → Int64) (F : Nat → Nat → Int32) (G : Nat → Nat → Int64) (ws : va_W) (T : RT) (g : GN) (q : GQ) (bd2 sd2 : Nat) (H : Heap) (locs : List Loc) (ls : Array Slot), bd2 ≤ bd + 1092 → sd2 ≤ sd + 7753 → LI D Y Z A s sb x om a H locs ls I J F G ws T g q i → W p l e room_1 s m #[Value.ref sb] below meth c H locs bd2 sd2 (lw_Z below #[Value.ref sb] s) (F0 m 1878 ls [])) : W p l e room_1 s m #[Value.ref sb] below meth c H locs bd sd (lw_Z below #[Value.ref sb] s) (F0 m 613 ls []) := by
  obtain ⟨hx, hb, hr, hml, hown, hts, hX, hbl, hlocks, hgv⟩ := id C0
  have hb : c.code = cL_law := hb
  have hown : s.vm.findClass RL = some m.cls := hown
  have hg : ∀ w ∈ GW, w.before #[Value.ref sb] s = true := fun w h => hts w (gw_tbl h)
  have hbA : ¬ A sb := fun h => absurd (hA2 sb h) (Nat.not_le.mpr hbl)
  obtain ⟨hP, hD, hS, hl, hT, htx, hLR, hm0, hm1, hm2, hm3, hm4, hm5, hm6⟩ := hI
  refine lv_aload_n hx hb dL_law_613 rfl (lv_at hl 2 rfl) ?_
  refine lv_aload_n hx hb dL_law_614 rfl (lv_at hl 3 rfl) ?_
  refine lv_iload_n hx hb dL_law_615 rfl (lv_at hl 0 rfl) ?_
  refine lv_iconst (v := 1) hx hb dL_law_616 (by decide) ?_
  refine lv_iadd hx hb dL_law_617 ?_
  refine lv_topi (fun v1 ev1 => ?_)
  have hv1 := i_add (Eq.refl i.toInt) (show (1 : Int32).toInt = 1 by decide) ev1 (by omega) (by omega)
  refine va_sld hx hb hX hbl hbA hS (vp_in_iff.mpr ⟨by omega, by omega⟩) dL_law_618 ?_
  refine lv_topi (fun v2 ev2 => ?_)
  obtain rfl : v2 = (xs (i.toInt.toNat + 1)) := by rw [ev2, show v1.toNatClampNeg = i.toInt.toNat + 1 by have c9 := clampI (x := v1) (by omega); omega]
  refine ok1 hT htx (fun p44 a3 a4 a5 a6 a7 x8 x9 x10 a11 a12 a13 a14 a15 a16 a17 a18 a19 x20 a21 a22 hk45 h23 h24 h25 h26 h27 h28 h29 h30 h31 h32 h33 h34 h35 h36 h37 h38 h39 h40 h41 h42 h43 => ?_)
  refine cgR (rn_V (As := [.int (xs (i.toInt.toNat + 1))]) (rest := []) (b := x) (x_X10_end l D Y Z H.size ws T g q x (xs (i.toInt.toNat + 1)) hT htx) ⟨hx, hb, hml, hown, hg⟩ lk_L_55 ⟨CPC.blind, va_recv hKN.1 (P_r hP) (ci := 10) (q0 := p44) rfl hk45, CPC.at (P_r hP) hKN (D_r hD) hSZ hS hA⟩ ⟨⟨rfl, rfl⟩, ⟨Nat.le_of_ble_eq_true rfl, Nat.le_of_ble_eq_true rfl⟩, ⟨(show _ ≤ (600000 : Nat) by omega), (show _ ≤ (7302250 : Nat) by omega)⟩⟩ hl.1 rfl (Nat.le_of_ble_eq_true rfl) dL_law_619) hP hD hS hA (fun u46 H locs hw47 hP hD hS => ?_)
  obtain ⟨u48, w49⟩ := u46
  obtain ⟨hT, ke50, ke51⟩ : TW Y Z T g q w49 ∧ KF 1 T ws w49 ∧ KF 6 T ws w49 := hw47
  have hk52 := ke50 _ _ hk45 (show (T x).1 = 1 by rw [htx])
  refine W.eq (g2 := F0 m 622 ls [.int u48]) rfl ?_
  refine lv_pop hx hb dL_law_622 rfl ?_
  refine lv_aload_n hx hb dL_law_623 rfl (lv_at hl 1 rfl) ?_
  refine lv_aload_n hx hb dL_law_624 rfl (lv_at hl 3 rfl) ?_
  refine lv_iload_n hx hb dL_law_625 rfl (lv_at hl 0 rfl) ?_
  refine lv_iconst (v := 1) hx hb dL_law_626 (by decide) ?_
  refine lv_iadd hx hb dL_law_627 ?_
  refine lv_topi (fun v53 ev53 => ?_)
  have hv53 := i_add (Eq.refl i.toInt) (show (1 : Int32).toInt = 1 by decide) ev53 (by omega) (by omega)
  refine va_sld hx hb hX hbl hbA hS (vp_in_iff.mpr ⟨by omega, by omega⟩) dL_law_628 ?_
  refine lv_topi (fun v54 ev54 => ?_)
  obtain rfl : v54 = (xs (i.toInt.toNat + 1)) := by rw [ev54, show v53.toNatClampNeg = i.toInt.toNat + 1 by have c9 := clampI (x := v53) (by omega); omega]
  refine cgL (X := (MW Y om a I J F G)) (ws := w49) (rn_V (As := [.int (xs (i.toInt.toNat + 1))]) (rest := []) (b := om) (m_end l D Y Z H.size om a I J F G (xs (i.toInt.toNat + 1)) (show (0 ≤ (I 3).toInt ∧ (I 3).toInt ≤ 400) by omega)) ⟨hx, hb, hml, hown, hg⟩ lk_L_58 ⟨CP.blind, va_recv hKN.1 (P_l hP) (ci := 11) (q0 := 0) rfl rfl, CP.at (P_l hP) hKN (D_l hD)⟩ ⟨⟨rfl, rfl⟩, ⟨Nat.le_of_ble_eq_true rfl, Nat.le_of_ble_eq_true rfl⟩, ⟨(show _ ≤ (600000 : Nat) by omega), (show _ ≤ (7302250 : Nat) by omega)⟩⟩ hl.1 rfl (Nat.le_of_ble_eq_true rfl) dL_law_629) hP hD hS hA (fun u55 H locs hw56 hP hD hS => ?_)
  refine W.widen (k := (bd + 0)) (n := (sd + 0)) (by omega) (by omega) ?_
  obtain ⟨u57, u58⟩ := u55
  have hw59 : (0 ≤ u58.toInt ∧ u58.toInt ≤ 400) := hw56
  refine W.eq (g2 := F0 m 632 ls [.int u57]) rfl ?_
  have hP : va_P D vwCl ((MW Y om a (upd I 3 u58) J F G) ++ w49) H := hP
  have hD : va_D A ((MW Y om a (upd I 3 u58) J F G) ++ w49) := hD
  have hR60 : LN T g q x F := LN.keep hLR.1 htx TLe.rf KS.rf rfl rfl
  have hD61 : LD T g q x F := LD.keep hLR.2 htx TLe.rf KD.rf rfl
  have hR60 : LC T g q x F := ⟨hR60, hD61⟩
  refine lv_pop hx hb dL_law_632 rfl ?_
  refine lv_goto (tgt := 1878) hx hb dL_law_633 (by decide) ?_
  exact hK (upd I 3 u58) J F G w49 T g q _ _ H locs ls (by omega) (by omega) ⟨hP, hD, hS, lv_sub hl [0, 1, 2, 3] rfl, hT, htx, hR60, hm0, hm1, hm2, hm3, hm4, hm5, (show 0 ≤ u58.toInt ∧ u58.toInt ≤ 400 by omega)⟩
set_option maxHeartbeats 4000000 in
set_option maxRecDepth 100000 in
theorem lc_10 {p : Program} {l : Launch} {e : Env} {s : State} {m : MethodId} {below : List Frame} {meth : Method} {c : Code} {sb L : Nat} {xs : Nat → Int32} (C0 : lw_At p s m meth c sb L xs) {D : va_G} {Y : Nat → ClassId} {Z : Nat → Nat} (hKN : KN D Y Z s) {A : Nat → Prop} (hSZ : SZ Z A s s.heap) (hA : ∀ q, s.heap.size ≤ q → A q) (hA2 : ∀ q, A q → s.heap.size ≤ q) {x om : Nat} {a : Nat → Nat} {H : Heap} {locs : List Loc} {ls : Array Slot} {I : Nat → Int32} {J : Nat → Int64} {F : Nat → Nat → Int32} {G : Nat → Nat → Int64} {ws : va_W} {T : RT} {g : GN} {q : GQ} {i : Int32} {bd sd : Nat} (hL : L ≤ 3584) (hi : 0 ≤ i.toInt ∧ i.toInt + 7 ≤ (L : Int)) (hbd : bd + 1092 ≤ 600000) (hsd : sd + 7753 ≤ 7302250) (hI : LI D Y Z A s sb x om a H locs ls I J F G ws T g q i) (hK : ∀ (I : Nat → Int32) (J : Nat → Int64) (F : Nat → Nat → Int32) (G : Nat → Nat → Int64) (ws : va_W) (T : RT) (g : GN) (q : GQ) (bd2 sd2 : Nat) (H : Heap) (locs : List Loc) (ls : Array Slot), bd2 ≤ bd + 1092 → sd2 ≤ sd + 7753 → LI D Y Z A s sb x om a H locs ls I J F G ws T g q i → W p l e room_1 s m #[Value.ref sb] below meth c H locs bd2 sd2 (lw_Z below #[Value.ref sb] s) (F0 m 1878 ls [])) : W p l e room_1 s m #[Value.ref sb] below meth c H locs bd sd (lw_Z below #[Value.ref sb] s) (F0 m 636 ls []) := by
  obtain ⟨hx, hb, hr, hml, hown, hts, hX, hbl, hlocks, hgv⟩ := id C0
  have hb : c.code = cL_law := hb
  have hown : s.vm.findClass RL = some m.cls := hown
  have hg : ∀ w ∈ GW, w.before #[Value.ref sb] s = true := fun w h => hts w (gw_tbl h)
  have hbA : ¬ A sb := fun h => absurd (hA2 sb h) (Nat.not_le.mpr hbl)
  obtain ⟨hP, hD, hS, hl, hT, htx, hLR, hm0, hm1, hm2, hm3, hm4, hm5, hm6⟩ := hI
  refine lv_aload_n hx hb dL_law_636 rfl (lv_at hl 2 rfl) ?_
  refine lv_aload_n hx hb dL_law_637 rfl (lv_at hl 3 rfl) ?_
  refine lv_iload_n hx hb dL_law_638 rfl (lv_at hl 0 rfl) ?_
  refine lv_iconst (v := 1) hx hb dL_law_639 (by decide) ?_
  refine lv_iadd hx hb dL_law_640 ?_
  refine lv_topi (fun v1 ev1 => ?_)
  have hv1 := i_add (Eq.refl i.toInt) (show (1 : Int32).toInt = 1 by decide) ev1 (by omega) (by omega)
  refine va_sld hx hb hX hbl hbA hS (vp_in_iff.mpr ⟨by omega, by omega⟩) dL_law_641 ?_
  refine lv_topi (fun v2 ev2 => ?_)
  obtain rfl : v2 = (xs (i.toInt.toNat + 1)) := by rw [ev2, show v1.toNatClampNeg = i.toInt.toNat + 1 by have c9 := clampI (x := v1) (by omega); omega]
  refine ok1 hT htx (fun p44 a3 a4 a5 a6 a7 x8 x9 x10 a11 a12 a13 a14 a15 a16 a17 a18 a19 x20 a21 a22 hk45 h23 h24 h25 h26 h27 h28 h29 h30 h31 h32 h33 h34 h35 h36 h37 h38 h39 h40 h41 h42 h43 => ?_)
  refine cgR (rn_V (As := [.int (xs (i.toInt.toNat + 1))]) (rest := []) (b := x) (x_X10_text l D Y Z H.size ws T g q x (xs (i.toInt.toNat + 1)) hT htx) ⟨hx, hb, hml, hown, hg⟩ lk_L_59 ⟨CPC.blind, va_recv hKN.1 (P_r hP) (ci := 10) (q0 := p44) rfl hk45, CPC.at (P_r hP) hKN (D_r hD) hSZ hS hA⟩ ⟨⟨rfl, rfl⟩, ⟨Nat.le_of_ble_eq_true rfl, Nat.le_of_ble_eq_true rfl⟩, ⟨(show _ ≤ (600000 : Nat) by omega), (show _ ≤ (7302250 : Nat) by omega)⟩⟩ hl.1 rfl (Nat.le_of_ble_eq_true rfl) dL_law_642) hP hD hS hA (fun u46 H locs hw47 hP hD hS => ?_)
  refine W.widen (k := (bd + 6)) (n := (sd + 462)) (by omega) (by omega) ?_
  obtain ⟨u48, w49, T50⟩ := u46
  obtain ⟨le51, hT, ke52⟩ : TLe T T50 ∧ TW Y Z T50 g q w49 ∧ KF 6 T ws w49 := hw47
  refine W.eq (g2 := F0 m 645 ls [.int u48]) rfl ?_
  refine lv_pop hx hb dL_law_645 rfl ?_
  refine lv_aload_n hx hb dL_law_646 rfl (lv_at hl 1 rfl) ?_
  refine lv_aload_n hx hb dL_law_647 rfl (lv_at hl 3 rfl) ?_
  refine lv_iload_n hx hb dL_law_648 rfl (lv_at hl 0 rfl) ?_
  refine lv_iconst (v := 1) hx hb dL_law_649 (by decide) ?_
  refine lv_iadd hx hb dL_law_650 ?_
  refine lv_topi (fun v53 ev53 => ?_)
  have hv53 := i_add (Eq.refl i.toInt) (show (1 : Int32).toInt = 1 by decide) ev53 (by omega) (by omega)
  refine va_sld hx hb hX hbl hbA hS (vp_in_iff.mpr ⟨by omega, by omega⟩) dL_law_651 ?_
  refine lv_topi (fun v54 ev54 => ?_)
  obtain rfl : v54 = (xs (i.toInt.toNat + 1)) := by rw [ev54, show v53.toNatClampNeg = i.toInt.toNat + 1 by have c9 := clampI (x := v53) (by omega); omega]
  refine cgL (X := (MW Y om a I J F G)) (ws := w49) (rn_V (As := [.int (xs (i.toInt.toNat + 1))]) (rest := []) (b := om) (m_text l D Y Z H.size om a I J F G (xs (i.toInt.toNat + 1)) (show (0 ≤ (I 3).toInt ∧ (I 3).toInt ≤ 400) by omega) hm2 hm3) ⟨hx, hb, hml, hown, hg⟩ lk_L_62 ⟨CP.blind, va_recv hKN.1 (P_l hP) (ci := 11) (q0 := 0) rfl rfl, CP.at (P_l hP) hKN (D_l hD)⟩ ⟨⟨rfl, rfl⟩, ⟨Nat.le_of_ble_eq_true rfl, Nat.le_of_ble_eq_true rfl⟩, ⟨(show _ ≤ (600000 : Nat) by omega), (show _ ≤ (7302250 : Nat) by omega)⟩⟩ hl.1 rfl (Nat.le_of_ble_eq_true rfl) dL_law_652) hP hD hS hA (fun u55 H locs hw56 hP hD hS => ?_)
  refine W.widen (k := (bd + 6)) (n := (sd + 462)) (by omega) (by omega) ?_
  obtain ⟨u57, u58, u59, u60, u61, u62, u63, u64, u65, u66, f67, f68, f69, f70, f71, f72, f73, f74, f75, f76, f77, f78, f79⟩ := u55
  obtain ⟨hw80, hw81, hw82⟩ : (0 ≤ u58.toInt ∧ u58.toInt ≤ 400) ∧ TX f79 f72 f73 f74 f75 f76 ∧ TC f79 f68 f67 f69 := hw56
  refine W.eq (g2 := F0 m 655 ls [.int u57]) rfl ?_
  have hP : va_P D vwCl ((MW Y om a (upd (upd (upd (upd (upd (upd (upd (upd (upd I 3 u58) 16 u59) 17 u60) 18 u61) 19 u62) 20 u63) 21 u64) 22 u66) 24 u65) J (vf_upd (vf_upd (vf_upd (vf_upd (vf_upd (vf_upd (vf_upd (vf_upd (vf_upd (vf_upd (vf_upd (vf_upd (vf_upd F 4 f79) 5 f69) 6 f70) 7 f67) 8 f68) 9 f72) 10 f73) 11 f74) 12 f75) 13 f76) 14 f77) 15 f78) 23 f71) G) ++ w49) H := hP
  have hD : va_D A ((MW Y om a (upd (upd (upd (upd (upd (upd (upd (upd (upd I 3 u58) 16 u59) 17 u60) 18 u61) 19 u62) 20 u63) 21 u64) 22 u66) 24 u65) J (vf_upd (vf_upd (vf_upd (vf_upd (vf_upd (vf_upd (vf_upd (vf_upd (vf_upd (vf_upd (vf_upd (vf_upd (vf_upd F 4 f79) 5 f69) 6 f70) 7 f67) 8 f68) 9 f72) 10 f73) 11 f74) 12 f75) 13 f76) 14 f77) 15 f78) 23 f71) G) ++ w49) := hD
  have hR83 : LN T50 g q x (vf_upd (vf_upd (vf_upd (vf_upd (vf_upd (vf_upd (vf_upd (vf_upd (vf_upd (vf_upd (vf_upd (vf_upd (vf_upd F 4 f79) 5 f69) 6 f70) 7 f67) 8 f68) 9 f72) 10 f73) 11 f74) 12 f75) 13 f76) 14 f77) 15 f78) 23 f71) := LN.keep hLR.1 htx le51 KS.rf rfl rfl
  have hD84 : LD T50 g q x (vf_upd (vf_upd (vf_upd (vf_upd (vf_upd (vf_upd (vf_upd (vf_upd (vf_upd (vf_upd (vf_upd (vf_upd (vf_upd F 4 f79) 5 f69) 6 f70) 7 f67) 8 f68) 9 f72) 10 f73) 11 f74) 12 f75) 13 f76) 14 f77) 15 f78) 23 f71) := LD.keep hLR.2 htx le51 KD.rf rfl
  have hR83 : LC T50 g q x (vf_upd (vf_upd (vf_upd (vf_upd (vf_upd (vf_upd (vf_upd (vf_upd (vf_upd (vf_upd (vf_upd (vf_upd (vf_upd F 4 f79) 5 f69) 6 f70) 7 f67) 8 f68) 9 f72) 10 f73) 11 f74) 12 f75) 13 f76) 14 f77) 15 f78) 23 f71) := ⟨hR83, hD84⟩
  refine lv_pop hx hb dL_law_655 rfl ?_
  refine lv_goto (tgt := 1878) hx hb dL_law_656 (by decide) ?_
  exact hK (upd (upd (upd (upd (upd (upd (upd (upd (upd I 3 u58) 16 u59) 17 u60) 18 u61) 19 u62) 20 u63) 21 u64) 22 u66) 24 u65) J (vf_upd (vf_upd (vf_upd (vf_upd (vf_upd (vf_upd (vf_upd (vf_upd (vf_upd (vf_upd (vf_upd (vf_upd (vf_upd F 4 f79) 5 f69) 6 f70) 7 f67) 8 f68) 9 f72) 10 f73) 11 f74) 12 f75) 13 f76) 14 f77) 15 f78) 23 f71) G w49 T50 g q _ _ H locs ls (by omega) (by omega) ⟨hP, hD, hS, lv_sub hl [0, 1, 2, 3] rfl, hT, (le51.up htx), hR83, hm0, hm1, hw81, hw82, hm4, hm5, (show 0 ≤ u58.toInt ∧ u58.toInt ≤ 400 by omega)⟩
set_option maxHeartbeats 4000000 in
set_option maxRecDepth 100000 in
theorem lc_11 {p : Program} {l : Launch} {e : Env} {s : State} {m : MethodId} {below : List Frame} {meth : Method} {c : Code} {sb L : Nat} {xs : Nat → Int32} (C0 : lw_At p s m meth c sb L xs) {D : va_G} {Y : Nat → ClassId} {Z : Nat → Nat} (hKN : KN D Y Z s) {A : Nat → Prop} (hSZ : SZ Z A s s.heap) (hA : ∀ q, s.heap.size ≤ q → A q) (hA2 : ∀ q, A q → s.heap.size ≤ q) {x om : Nat} {a : Nat → Nat} {H : Heap} {locs : List Loc} {ls : Array Slot} {I : Nat → Int32} {J : Nat → Int64} {F : Nat → Nat → Int32} {G : Nat → Nat → Int64} {ws : va_W} {T : RT} {g : GN} {q : GQ} {i : Int32} {bd sd : Nat} (hL : L ≤ 3584) (hi : 0 ≤ i.toInt ∧ i.toInt + 7 ≤ (L : Int)) (hbd : bd + 1092 ≤ 600000) (hsd : sd + 7753 ≤ 7302250) (hI : LI D Y Z A s sb x om a H locs ls I J F G ws T g q i) (hK : ∀ (I : Nat → Int32) (J : Nat → Int64) (F : Nat → Nat → Int32) (G : Nat → Nat → Int64) (ws : va_W) (T : RT) (g : GN) (q : GQ) (bd2 sd2 : Nat) (H : Heap) (locs : List Loc) (ls : Array Slot), bd2 ≤ bd + 1092 → sd2 ≤ sd + 7753 → LI D Y Z A s sb x om a H locs ls I J F G ws T g q i → W p l e room_1 s m #[Value.ref sb] below meth c H locs bd2 sd2 (lw_Z below #[Value.ref sb] s) (F0 m 1878 ls [])) : W p l e room_1 s m #[Value.ref sb] below meth c H locs bd sd (lw_Z below #[Value.ref sb] s) (F0 m 659 ls []) := by
  obtain ⟨hx, hb, hr, hml, hown, hts, hX, hbl, hlocks, hgv⟩ := id C0
  have hb : c.code = cL_law := hb
  have hown : s.vm.findClass RL = some m.cls := hown
  have hg : ∀ w ∈ GW, w.before #[Value.ref sb] s = true := fun w h => hts w (gw_tbl h)
  have hbA : ¬ A sb := fun h => absurd (hA2 sb h) (Nat.not_le.mpr hbl)
  obtain ⟨hP, hD, hS, hl, hT, htx, hLR, hm0, hm1, hm2, hm3, hm4, hm5, hm6⟩ := hI
  refine lv_aload_n hx hb dL_law_659 rfl (lv_at hl 2 rfl) ?_
  refine lv_aload_n hx hb dL_law_660 rfl (lv_at hl 3 rfl) ?_
  refine lv_iload_n hx hb dL_law_661 rfl (lv_at hl 0 rfl) ?_
  refine lv_iconst (v := 1) hx hb dL_law_662 (by decide) ?_
  refine lv_iadd hx hb dL_law_663 ?_
  refine lv_topi (fun v1 ev1 => ?_)
  have hv1 := i_add (Eq.refl i.toInt) (show (1 : Int32).toInt = 1 by decide) ev1 (by omega) (by omega)
  refine va_sld hx hb hX hbl hbA hS (vp_in_iff.mpr ⟨by omega, by omega⟩) dL_law_664 ?_
  refine lv_topi (fun v2 ev2 => ?_)
  obtain rfl : v2 = (xs (i.toInt.toNat + 1)) := by rw [ev2, show v1.toNatClampNeg = i.toInt.toNat + 1 by have c9 := clampI (x := v1) (by omega); omega]
  refine lv_aload_n hx hb dL_law_665 rfl (lv_at hl 3 rfl) ?_
  refine lv_iload_n hx hb dL_law_666 rfl (lv_at hl 0 rfl) ?_
  refine lv_iconst (v := 2) hx hb dL_law_667 (by decide) ?_
  refine lv_iadd hx hb dL_law_668 ?_
  refine lv_topi (fun v3 ev3 => ?_)
  have hv3 := i_add (Eq.refl i.toInt) (show (2 : Int32).toInt = 2 by decide) ev3 (by omega) (by omega)
  refine va_sld hx hb hX hbl hbA hS (vp_in_iff.mpr ⟨by omega, by omega⟩) dL_law_669 ?_
  refine lv_topi (fun v4 ev4 => ?_)
  obtain rfl : v4 = (xs (i.toInt.toNat + 2)) := by rw [ev4, show v3.toNatClampNeg = i.toInt.toNat + 2 by have c9 := clampI (x := v3) (by omega); omega]
  refine lv_aload_n hx hb dL_law_670 rfl (lv_at hl 3 rfl) ?_
  refine lv_iload_n hx hb dL_law_671 rfl (lv_at hl 0 rfl) ?_
  refine lv_iconst (v := 3) hx hb dL_law_672 (by decide) ?_
  refine lv_iadd hx hb dL_law_673 ?_
  refine lv_topi (fun v5 ev5 => ?_)
  have hv5 := i_add (Eq.refl i.toInt) (show (3 : Int32).toInt = 3 by decide) ev5 (by omega) (by omega)
  refine va_sld hx hb hX hbl hbA hS (vp_in_iff.mpr ⟨by omega, by omega⟩) dL_law_674 ?_
  refine lv_topi (fun v6 ev6 => ?_)
  obtain rfl : v6 = (xs (i.toInt.toNat + 3)) := by rw [ev6, show v5.toNatClampNeg = i.toInt.toNat + 3 by have c9 := clampI (x := v5) (by omega); omega]
  refine lv_aload_n hx hb dL_law_675 rfl (lv_at hl 3 rfl) ?_
  refine lv_iload_n hx hb dL_law_676 rfl (lv_at hl 0 rfl) ?_
  refine lv_iconst (v := 4) hx hb dL_law_677 (by decide) ?_
  refine lv_iadd hx hb dL_law_678 ?_
  refine lv_topi (fun v7 ev7 => ?_)
  have hv7 := i_add (Eq.refl i.toInt) (show (4 : Int32).toInt = 4 by decide) ev7 (by omega) (by omega)
  refine va_sld hx hb hX hbl hbA hS (vp_in_iff.mpr ⟨by omega, by omega⟩) dL_law_679 ?_
  refine lv_topi (fun v8 ev8 => ?_)
  obtain rfl : v8 = (xs (i.toInt.toNat + 4)) := by rw [ev8, show v7.toNatClampNeg = i.toInt.toNat + 4 by have c9 := clampI (x := v7) (by omega); omega]
  refine lv_aload_n hx hb dL_law_680 rfl (lv_at hl 3 rfl) ?_
  refine lv_iload_n hx hb dL_law_681 rfl (lv_at hl 0 rfl) ?_
  refine lv_iconst (v := 5) hx hb dL_law_682 (by decide) ?_
  refine lv_iadd hx hb dL_law_683 ?_
  refine lv_topi (fun v9 ev9 => ?_)
  have hv9 := i_add (Eq.refl i.toInt) (show (5 : Int32).toInt = 5 by decide) ev9 (by omega) (by omega)
  refine va_sld hx hb hX hbl hbA hS (vp_in_iff.mpr ⟨by omega, by omega⟩) dL_law_684 ?_
  refine lv_topi (fun v10 ev10 => ?_)
  obtain rfl : v10 = (xs (i.toInt.toNat + 5)) := by rw [ev10, show v9.toNatClampNeg = i.toInt.toNat + 5 by have c9 := clampI (x := v9) (by omega); omega]
  refine ok1 hT htx (fun p52 a11 a12 a13 a14 a15 x16 x17 x18 a19 a20 a21 a22 a23 a24 a25 a26 a27 x28 a29 a30 hk53 h31 h32 h33 h34 h35 h36 h37 h38 h39 h40 h41 h42 h43 h44 h45 h46 h47 h48 h49 h50 h51 => ?_)
  refine cgR (rn_V (As := [.int (xs (i.toInt.toNat + 1)), .int (xs (i.toInt.toNat + 2)), .int (xs (i.toInt.toNat + 3)), .int (xs (i.toInt.toNat + 4)), .int (xs (i.toInt.toNat + 5))]) (rest := []) (b := x) (x_X10_make l D Y Z H.size ws T g q x (xs (i.toInt.toNat + 1)) (xs (i.toInt.toNat + 2)) (xs (i.toInt.toNat + 3)) (xs (i.toInt.toNat + 4)) (xs (i.toInt.toNat + 5)) hT htx) ⟨hx, hb, hml, hown, hg⟩ lk_L_63 ⟨CPC.blind, va_recv hKN.1 (P_r hP) (ci := 10) (q0 := p52) rfl hk53, CPC.at (P_r hP) hKN (D_r hD) hSZ hS hA⟩ ⟨⟨rfl, rfl⟩, ⟨Nat.le_of_ble_eq_true rfl, Nat.le_of_ble_eq_true rfl⟩, ⟨(show _ ≤ (600000 : Nat) by omega), (show _ ≤ (7302250 : Nat) by omega)⟩⟩ hl.1 rfl (Nat.le_of_ble_eq_true rfl) dL_law_685) hP hD hS hA (fun u54 H locs hw55 hP hD hS => ?_)
  obtain ⟨u56, w57⟩ := u54
  obtain ⟨hT, ke58⟩ : TW Y Z T g q w57 ∧ KF 6 T ws w57 := hw55
  refine W.eq (g2 := F0 m 688 ls [.int u56]) rfl ?_
  refine lv_pop hx hb dL_law_688 rfl ?_
  refine lv_aload_n hx hb dL_law_689 rfl (lv_at hl 1 rfl) ?_
  refine lv_aload_n hx hb dL_law_690 rfl (lv_at hl 3 rfl) ?_
  refine lv_iload_n hx hb dL_law_691 rfl (lv_at hl 0 rfl) ?_
  refine lv_iconst (v := 1) hx hb dL_law_692 (by decide) ?_
  refine lv_iadd hx hb dL_law_693 ?_
  refine lv_topi (fun v59 ev59 => ?_)
  have hv59 := i_add (Eq.refl i.toInt) (show (1 : Int32).toInt = 1 by decide) ev59 (by omega) (by omega)
  refine va_sld hx hb hX hbl hbA hS (vp_in_iff.mpr ⟨by omega, by omega⟩) dL_law_694 ?_
  refine lv_topi (fun v60 ev60 => ?_)
  obtain rfl : v60 = (xs (i.toInt.toNat + 1)) := by rw [ev60, show v59.toNatClampNeg = i.toInt.toNat + 1 by have c9 := clampI (x := v59) (by omega); omega]
  refine lv_aload_n hx hb dL_law_695 rfl (lv_at hl 3 rfl) ?_
  refine lv_iload_n hx hb dL_law_696 rfl (lv_at hl 0 rfl) ?_
  refine lv_iconst (v := 2) hx hb dL_law_697 (by decide) ?_
  refine lv_iadd hx hb dL_law_698 ?_
  refine lv_topi (fun v61 ev61 => ?_)
  have hv61 := i_add (Eq.refl i.toInt) (show (2 : Int32).toInt = 2 by decide) ev61 (by omega) (by omega)
  refine va_sld hx hb hX hbl hbA hS (vp_in_iff.mpr ⟨by omega, by omega⟩) dL_law_699 ?_
  refine lv_topi (fun v62 ev62 => ?_)
  obtain rfl : v62 = (xs (i.toInt.toNat + 2)) := by rw [ev62, show v61.toNatClampNeg = i.toInt.toNat + 2 by have c9 := clampI (x := v61) (by omega); omega]
  refine lv_aload_n hx hb dL_law_700 rfl (lv_at hl 3 rfl) ?_
  refine lv_iload_n hx hb dL_law_701 rfl (lv_at hl 0 rfl) ?_
  refine lv_iconst (v := 3) hx hb dL_law_702 (by decide) ?_
  refine lv_iadd hx hb dL_law_703 ?_
  refine lv_topi (fun v63 ev63 => ?_)
  have hv63 := i_add (Eq.refl i.toInt) (show (3 : Int32).toInt = 3 by decide) ev63 (by omega) (by omega)
  refine va_sld hx hb hX hbl hbA hS (vp_in_iff.mpr ⟨by omega, by omega⟩) dL_law_704 ?_
  refine lv_topi (fun v64 ev64 => ?_)
  obtain rfl : v64 = (xs (i.toInt.toNat + 3)) := by rw [ev64, show v63.toNatClampNeg = i.toInt.toNat + 3 by have c9 := clampI (x := v63) (by omega); omega]
  refine lv_aload_n hx hb dL_law_705 rfl (lv_at hl 3 rfl) ?_
  refine lv_iload_n hx hb dL_law_706 rfl (lv_at hl 0 rfl) ?_
  refine lv_iconst (v := 4) hx hb dL_law_707 (by decide) ?_
  refine lv_iadd hx hb dL_law_708 ?_
  refine lv_topi (fun v65 ev65 => ?_)
  have hv65 := i_add (Eq.refl i.toInt) (show (4 : Int32).toInt = 4 by decide) ev65 (by omega) (by omega)
  refine va_sld hx hb hX hbl hbA hS (vp_in_iff.mpr ⟨by omega, by omega⟩) dL_law_709 ?_
  refine lv_topi (fun v66 ev66 => ?_)
  obtain rfl : v66 = (xs (i.toInt.toNat + 4)) := by rw [ev66, show v65.toNatClampNeg = i.toInt.toNat + 4 by have c9 := clampI (x := v65) (by omega); omega]
  refine lv_aload_n hx hb dL_law_710 rfl (lv_at hl 3 rfl) ?_
  refine lv_iload_n hx hb dL_law_711 rfl (lv_at hl 0 rfl) ?_
  refine lv_iconst (v := 5) hx hb dL_law_712 (by decide) ?_
  refine lv_iadd hx hb dL_law_713 ?_
  refine lv_topi (fun v67 ev67 => ?_)
  have hv67 := i_add (Eq.refl i.toInt) (show (5 : Int32).toInt = 5 by decide) ev67 (by omega) (by omega)
  refine va_sld hx hb hX hbl hbA hS (vp_in_iff.mpr ⟨by omega, by omega⟩) dL_law_714 ?_
  refine lv_topi (fun v68 ev68 => ?_)
  obtain rfl : v68 = (xs (i.toInt.toNat + 5)) := by rw [ev68, show v67.toNatClampNeg = i.toInt.toNat + 5 by have c9 := clampI (x := v67) (by omega); omega]
  refine cgL (X := (MW Y om a I J F G)) (ws := w57) (rn_V (As := [.int (xs (i.toInt.toNat + 1)), .int (xs (i.toInt.toNat + 2)), .int (xs (i.toInt.toNat + 3)), .int (xs (i.toInt.toNat + 4)), .int (xs (i.toInt.toNat + 5))]) (rest := []) (b := om) (m_makeS l D Y Z H.size om a I J F G (xs (i.toInt.toNat + 1)) (xs (i.toInt.toNat + 2)) (xs (i.toInt.toNat + 3)) (xs (i.toInt.toNat + 4)) (xs (i.toInt.toNat + 5)) hm0 hm2 hm3 KS.rf KD.rf) ⟨hx, hb, hml, hown, hg⟩ lk_L_66 ⟨CP.blind, va_recv hKN.1 (P_l hP) (ci := 11) (q0 := 0) rfl rfl, CP.at (P_l hP) hKN (D_l hD)⟩ ⟨⟨rfl, rfl⟩, ⟨Nat.le_of_ble_eq_true rfl, Nat.le_of_ble_eq_true rfl⟩, ⟨(show _ ≤ (600000 : Nat) by omega), (show _ ≤ (7302250 : Nat) by omega)⟩⟩ hl.1 rfl (Nat.le_of_ble_eq_true rfl) dL_law_715) hP hD hS hA (fun u69 H locs hw70 hP hD hS => ?_)
  refine W.widen (k := (bd + 0)) (n := (sd + 0)) (by omega) (by omega) ?_
  obtain ⟨u71, u72, f73, f74, f75⟩ := u69
  obtain ⟨hw76, hw77, hw78⟩ : TO f75 ∧ KS (F 0) f75 ∧ KD (F 0) f75 := hw70
  refine W.eq (g2 := F0 m 718 ls [.int u71]) rfl ?_
  have hP : va_P D vwCl ((MW Y om a (upd I 26 u72) J (vf_upd F 0 f75) (vf_upd (vf_upd G 25 f73) 27 f74)) ++ w57) H := hP
  have hD : va_D A ((MW Y om a (upd I 26 u72) J (vf_upd F 0 f75) (vf_upd (vf_upd G 25 f73) 27 f74)) ++ w57) := hD
  have hR79 : LN T g q x (vf_upd F 0 f75) := LN.keep hLR.1 htx TLe.rf hw77 rfl rfl
  have hD80 : LD T g q x (vf_upd F 0 f75) := LD.keep hLR.2 htx TLe.rf hw78 rfl
  have hR79 : LC T g q x (vf_upd F 0 f75) := ⟨hR79, hD80⟩
  refine lv_pop hx hb dL_law_718 rfl ?_
  refine lv_goto (tgt := 1878) hx hb dL_law_719 (by decide) ?_
  exact hK (upd I 26 u72) J (vf_upd F 0 f75) (vf_upd (vf_upd G 25 f73) 27 f74) w57 T g q _ _ H locs ls (by omega) (by omega) ⟨hP, hD, hS, lv_sub hl [0, 1, 2, 3] rfl, hT, htx, hR79, hw76, hm1, hm2, hm3, hm4, hm5, (show 0 ≤ (I 3).toInt ∧ (I 3).toInt ≤ 400 by omega)⟩
set_option maxHeartbeats 4000000 in
set_option maxRecDepth 100000 in
theorem lc_12 {p : Program} {l : Launch} {e : Env} {s : State} {m : MethodId} {below : List Frame} {meth : Method} {c : Code} {sb L : Nat} {xs : Nat → Int32} (C0 : lw_At p s m meth c sb L xs) {D : va_G} {Y : Nat → ClassId} {Z : Nat → Nat} (hKN : KN D Y Z s) {A : Nat → Prop} (hSZ : SZ Z A s s.heap) (hA : ∀ q, s.heap.size ≤ q → A q) (hA2 : ∀ q, A q → s.heap.size ≤ q) {x om : Nat} {a : Nat → Nat} {H : Heap} {locs : List Loc} {ls : Array Slot} {I : Nat → Int32} {J : Nat → Int64} {F : Nat → Nat → Int32} {G : Nat → Nat → Int64} {ws : va_W} {T : RT} {g : GN} {q : GQ} {i : Int32} {bd sd : Nat} (hL : L ≤ 3584) (hi : 0 ≤ i.toInt ∧ i.toInt + 7 ≤ (L : Int)) (hbd : bd + 1092 ≤ 600000) (hsd : sd + 7753 ≤ 7302250) (hI : LI D Y Z A s sb x om a H locs ls I J F G ws T g q i) (hK : ∀ (I : Nat → Int32) (J : Nat → Int64) (F : Nat → Nat → Int32) (G : Nat → Nat → Int64) (ws : va_W) (T : RT) (g : GN) (q : GQ) (bd2 sd2 : Nat) (H : Heap) (locs : List Loc) (ls : Array Slot), bd2 ≤ bd + 1092 → sd2 ≤ sd + 7753 → LI D Y Z A s sb x om a H locs ls I J F G ws T g q i → W p l e room_1 s m #[Value.ref sb] below meth c H locs bd2 sd2 (lw_Z below #[Value.ref sb] s) (F0 m 1878 ls [])) : W p l e room_1 s m #[Value.ref sb] below meth c H locs bd sd (lw_Z below #[Value.ref sb] s) (F0 m 722 ls []) := by
  obtain ⟨hx, hb, hr, hml, hown, hts, hX, hbl, hlocks, hgv⟩ := id C0
  have hb : c.code = cL_law := hb
  have hown : s.vm.findClass RL = some m.cls := hown
  have hg : ∀ w ∈ GW, w.before #[Value.ref sb] s = true := fun w h => hts w (gw_tbl h)
  have hbA : ¬ A sb := fun h => absurd (hA2 sb h) (Nat.not_le.mpr hbl)
  obtain ⟨hP, hD, hS, hl, hT, htx, hLR, hm0, hm1, hm2, hm3, hm4, hm5, hm6⟩ := hI
  refine lv_aload_n hx hb dL_law_722 rfl (lv_at hl 2 rfl) ?_
  refine lv_aload_n hx hb dL_law_723 rfl (lv_at hl 3 rfl) ?_
  refine lv_iload_n hx hb dL_law_724 rfl (lv_at hl 0 rfl) ?_
  refine lv_iconst (v := 1) hx hb dL_law_725 (by decide) ?_
  refine lv_iadd hx hb dL_law_726 ?_
  refine lv_topi (fun v1 ev1 => ?_)
  have hv1 := i_add (Eq.refl i.toInt) (show (1 : Int32).toInt = 1 by decide) ev1 (by omega) (by omega)
  refine va_sld hx hb hX hbl hbA hS (vp_in_iff.mpr ⟨by omega, by omega⟩) dL_law_727 ?_
  refine lv_topi (fun v2 ev2 => ?_)
  obtain rfl : v2 = (xs (i.toInt.toNat + 1)) := by rw [ev2, show v1.toNatClampNeg = i.toInt.toNat + 1 by have c9 := clampI (x := v1) (by omega); omega]
  refine lv_aload_n hx hb dL_law_728 rfl (lv_at hl 3 rfl) ?_
  refine lv_iload_n hx hb dL_law_729 rfl (lv_at hl 0 rfl) ?_
  refine lv_iconst (v := 2) hx hb dL_law_730 (by decide) ?_
  refine lv_iadd hx hb dL_law_731 ?_
  refine lv_topi (fun v3 ev3 => ?_)
  have hv3 := i_add (Eq.refl i.toInt) (show (2 : Int32).toInt = 2 by decide) ev3 (by omega) (by omega)
  refine va_sld hx hb hX hbl hbA hS (vp_in_iff.mpr ⟨by omega, by omega⟩) dL_law_732 ?_
  refine lv_topi (fun v4 ev4 => ?_)
  obtain rfl : v4 = (xs (i.toInt.toNat + 2)) := by rw [ev4, show v3.toNatClampNeg = i.toInt.toNat + 2 by have c9 := clampI (x := v3) (by omega); omega]
  refine lv_aload_n hx hb dL_law_733 rfl (lv_at hl 3 rfl) ?_
  refine lv_iload_n hx hb dL_law_734 rfl (lv_at hl 0 rfl) ?_
  refine lv_iconst (v := 3) hx hb dL_law_735 (by decide) ?_
  refine lv_iadd hx hb dL_law_736 ?_
  refine lv_topi (fun v5 ev5 => ?_)
  have hv5 := i_add (Eq.refl i.toInt) (show (3 : Int32).toInt = 3 by decide) ev5 (by omega) (by omega)
  refine va_sld hx hb hX hbl hbA hS (vp_in_iff.mpr ⟨by omega, by omega⟩) dL_law_737 ?_
  refine lv_topi (fun v6 ev6 => ?_)
  obtain rfl : v6 = (xs (i.toInt.toNat + 3)) := by rw [ev6, show v5.toNatClampNeg = i.toInt.toNat + 3 by have c9 := clampI (x := v5) (by omega); omega]
  refine lv_aload_n hx hb dL_law_738 rfl (lv_at hl 3 rfl) ?_
  refine lv_iload_n hx hb dL_law_739 rfl (lv_at hl 0 rfl) ?_
  refine lv_iconst (v := 4) hx hb dL_law_740 (by decide) ?_
  refine lv_iadd hx hb dL_law_741 ?_
  refine lv_topi (fun v7 ev7 => ?_)
  have hv7 := i_add (Eq.refl i.toInt) (show (4 : Int32).toInt = 4 by decide) ev7 (by omega) (by omega)
  refine va_sld hx hb hX hbl hbA hS (vp_in_iff.mpr ⟨by omega, by omega⟩) dL_law_742 ?_
  refine lv_topi (fun v8 ev8 => ?_)
  obtain rfl : v8 = (xs (i.toInt.toNat + 4)) := by rw [ev8, show v7.toNatClampNeg = i.toInt.toNat + 4 by have c9 := clampI (x := v7) (by omega); omega]
  refine lv_aload_n hx hb dL_law_743 rfl (lv_at hl 3 rfl) ?_
  refine lv_iload_n hx hb dL_law_744 rfl (lv_at hl 0 rfl) ?_
  refine lv_iconst (v := 5) hx hb dL_law_745 (by decide) ?_
  refine lv_iadd hx hb dL_law_746 ?_
  refine lv_topi (fun v9 ev9 => ?_)
  have hv9 := i_add (Eq.refl i.toInt) (show (5 : Int32).toInt = 5 by decide) ev9 (by omega) (by omega)
  refine va_sld hx hb hX hbl hbA hS (vp_in_iff.mpr ⟨by omega, by omega⟩) dL_law_747 ?_
  refine lv_topi (fun v10 ev10 => ?_)
  obtain rfl : v10 = (xs (i.toInt.toNat + 5)) := by rw [ev10, show v9.toNatClampNeg = i.toInt.toNat + 5 by have c9 := clampI (x := v9) (by omega); omega]
  refine lv_aload_n hx hb dL_law_748 rfl (lv_at hl 3 rfl) ?_
  refine lv_iload_n hx hb dL_law_749 rfl (lv_at hl 0 rfl) ?_
  refine lv_bipush (v := 6) hx hb dL_law_750 (by decide) ?_
  refine lv_iadd hx hb dL_law_752 ?_
  refine lv_topi (fun v11 ev11 => ?_)
  have hv11 := i_add (Eq.refl i.toInt) (show (6 : Int32).toInt = 6 by decide) ev11 (by omega) (by omega)
  refine va_sld hx hb hX hbl hbA hS (vp_in_iff.mpr ⟨by omega, by omega⟩) dL_law_753 ?_
  refine lv_topi (fun v12 ev12 => ?_)
  obtain rfl : v12 = (xs (i.toInt.toNat + 6)) := by rw [ev12, show v11.toNatClampNeg = i.toInt.toNat + 6 by have c9 := clampI (x := v11) (by omega); omega]
  refine ok1 hT htx (fun p54 a13 a14 a15 a16 a17 x18 x19 x20 a21 a22 a23 a24 a25 a26 a27 a28 a29 x30 a31 a32 hk55 h33 h34 h35 h36 h37 h38 h39 h40 h41 h42 h43 h44 h45 h46 h47 h48 h49 h50 h51 h52 h53 => ?_)
  refine cgR (rn_V (As := [.int (xs (i.toInt.toNat + 1)), .int (xs (i.toInt.toNat + 2)), .int (xs (i.toInt.toNat + 3)), .int (xs (i.toInt.toNat + 4)), .int (xs (i.toInt.toNat + 5)), .int (xs (i.toInt.toNat + 6))]) (rest := []) (b := x) (x_X10_tried l D Y Z H.size ws T g q x (xs (i.toInt.toNat + 1)) (xs (i.toInt.toNat + 2)) (xs (i.toInt.toNat + 3)) (xs (i.toInt.toNat + 4)) (xs (i.toInt.toNat + 5)) (xs (i.toInt.toNat + 6)) hT htx) ⟨hx, hb, hml, hown, hg⟩ lk_L_67 ⟨CPC.blind, va_recv hKN.1 (P_r hP) (ci := 10) (q0 := p54) rfl hk55, CPC.at (P_r hP) hKN (D_r hD) hSZ hS hA⟩ ⟨⟨rfl, rfl⟩, ⟨Nat.le_of_ble_eq_true rfl, Nat.le_of_ble_eq_true rfl⟩, ⟨(show _ ≤ (600000 : Nat) by omega), (show _ ≤ (7302250 : Nat) by omega)⟩⟩ hl.1 rfl (Nat.le_of_ble_eq_true rfl) dL_law_754) hP hD hS hA (fun u56 H locs hw57 hP hD hS => ?_)
  obtain ⟨u58, w59⟩ := u56
  obtain ⟨hT, ke60, ke61⟩ : TW Y Z T g q w59 ∧ KF 1 T ws w59 ∧ KF 6 T ws w59 := hw57
  have hk62 := ke60 _ _ hk55 (show (T x).1 = 1 by rw [htx])
  refine W.eq (g2 := F0 m 757 ls [.long u58]) rfl ?_
  refine lv_pop2_2 hx hb dL_law_757 rfl ?_
  refine lv_aload_n hx hb dL_law_758 rfl (lv_at hl 1 rfl) ?_
  refine lv_aload_n hx hb dL_law_759 rfl (lv_at hl 3 rfl) ?_
  refine lv_iload_n hx hb dL_law_760 rfl (lv_at hl 0 rfl) ?_
  refine lv_iconst (v := 1) hx hb dL_law_761 (by decide) ?_
  refine lv_iadd hx hb dL_law_762 ?_
  refine lv_topi (fun v63 ev63 => ?_)
  have hv63 := i_add (Eq.refl i.toInt) (show (1 : Int32).toInt = 1 by decide) ev63 (by omega) (by omega)
  refine va_sld hx hb hX hbl hbA hS (vp_in_iff.mpr ⟨by omega, by omega⟩) dL_law_763 ?_
  refine lv_topi (fun v64 ev64 => ?_)
  obtain rfl : v64 = (xs (i.toInt.toNat + 1)) := by rw [ev64, show v63.toNatClampNeg = i.toInt.toNat + 1 by have c9 := clampI (x := v63) (by omega); omega]
  refine lv_aload_n hx hb dL_law_764 rfl (lv_at hl 3 rfl) ?_
  refine lv_iload_n hx hb dL_law_765 rfl (lv_at hl 0 rfl) ?_
  refine lv_iconst (v := 2) hx hb dL_law_766 (by decide) ?_
  refine lv_iadd hx hb dL_law_767 ?_
  refine lv_topi (fun v65 ev65 => ?_)
  have hv65 := i_add (Eq.refl i.toInt) (show (2 : Int32).toInt = 2 by decide) ev65 (by omega) (by omega)
  refine va_sld hx hb hX hbl hbA hS (vp_in_iff.mpr ⟨by omega, by omega⟩) dL_law_768 ?_
  refine lv_topi (fun v66 ev66 => ?_)
  obtain rfl : v66 = (xs (i.toInt.toNat + 2)) := by rw [ev66, show v65.toNatClampNeg = i.toInt.toNat + 2 by have c9 := clampI (x := v65) (by omega); omega]
  refine lv_aload_n hx hb dL_law_769 rfl (lv_at hl 3 rfl) ?_
  refine lv_iload_n hx hb dL_law_770 rfl (lv_at hl 0 rfl) ?_
  refine lv_iconst (v := 3) hx hb dL_law_771 (by decide) ?_
  refine lv_iadd hx hb dL_law_772 ?_
  refine lv_topi (fun v67 ev67 => ?_)
  have hv67 := i_add (Eq.refl i.toInt) (show (3 : Int32).toInt = 3 by decide) ev67 (by omega) (by omega)
  refine va_sld hx hb hX hbl hbA hS (vp_in_iff.mpr ⟨by omega, by omega⟩) dL_law_773 ?_
  refine lv_topi (fun v68 ev68 => ?_)
  obtain rfl : v68 = (xs (i.toInt.toNat + 3)) := by rw [ev68, show v67.toNatClampNeg = i.toInt.toNat + 3 by have c9 := clampI (x := v67) (by omega); omega]
  refine lv_aload_n hx hb dL_law_774 rfl (lv_at hl 3 rfl) ?_
  refine lv_iload_n hx hb dL_law_775 rfl (lv_at hl 0 rfl) ?_
  refine lv_iconst (v := 4) hx hb dL_law_776 (by decide) ?_
  refine lv_iadd hx hb dL_law_777 ?_
  refine lv_topi (fun v69 ev69 => ?_)
  have hv69 := i_add (Eq.refl i.toInt) (show (4 : Int32).toInt = 4 by decide) ev69 (by omega) (by omega)
  refine va_sld hx hb hX hbl hbA hS (vp_in_iff.mpr ⟨by omega, by omega⟩) dL_law_778 ?_
  refine lv_topi (fun v70 ev70 => ?_)
  obtain rfl : v70 = (xs (i.toInt.toNat + 4)) := by rw [ev70, show v69.toNatClampNeg = i.toInt.toNat + 4 by have c9 := clampI (x := v69) (by omega); omega]
  refine lv_aload_n hx hb dL_law_779 rfl (lv_at hl 3 rfl) ?_
  refine lv_iload_n hx hb dL_law_780 rfl (lv_at hl 0 rfl) ?_
  refine lv_iconst (v := 5) hx hb dL_law_781 (by decide) ?_
  refine lv_iadd hx hb dL_law_782 ?_
  refine lv_topi (fun v71 ev71 => ?_)
  have hv71 := i_add (Eq.refl i.toInt) (show (5 : Int32).toInt = 5 by decide) ev71 (by omega) (by omega)
  refine va_sld hx hb hX hbl hbA hS (vp_in_iff.mpr ⟨by omega, by omega⟩) dL_law_783 ?_
  refine lv_topi (fun v72 ev72 => ?_)
  obtain rfl : v72 = (xs (i.toInt.toNat + 5)) := by rw [ev72, show v71.toNatClampNeg = i.toInt.toNat + 5 by have c9 := clampI (x := v71) (by omega); omega]
  refine lv_aload_n hx hb dL_law_784 rfl (lv_at hl 3 rfl) ?_
  refine lv_iload_n hx hb dL_law_785 rfl (lv_at hl 0 rfl) ?_
  refine lv_bipush (v := 6) hx hb dL_law_786 (by decide) ?_
  refine lv_iadd hx hb dL_law_788 ?_
  refine lv_topi (fun v73 ev73 => ?_)
  have hv73 := i_add (Eq.refl i.toInt) (show (6 : Int32).toInt = 6 by decide) ev73 (by omega) (by omega)
  refine va_sld hx hb hX hbl hbA hS (vp_in_iff.mpr ⟨by omega, by omega⟩) dL_law_789 ?_
  refine lv_topi (fun v74 ev74 => ?_)
  obtain rfl : v74 = (xs (i.toInt.toNat + 6)) := by rw [ev74, show v73.toNatClampNeg = i.toInt.toNat + 6 by have c9 := clampI (x := v73) (by omega); omega]
  refine cgL (X := (MW Y om a I J F G)) (ws := w59) (rn_V (As := [.int (xs (i.toInt.toNat + 1)), .int (xs (i.toInt.toNat + 2)), .int (xs (i.toInt.toNat + 3)), .int (xs (i.toInt.toNat + 4)), .int (xs (i.toInt.toNat + 5)), .int (xs (i.toInt.toNat + 6))]) (rest := []) (b := om) (m_tried l D Y Z H.size om a I J F G (xs (i.toInt.toNat + 1)) (xs (i.toInt.toNat + 2)) (xs (i.toInt.toNat + 3)) (xs (i.toInt.toNat + 4)) (xs (i.toInt.toNat + 5)) (xs (i.toInt.toNat + 6)) hm0 hm1) ⟨hx, hb, hml, hown, hg⟩ lk_L_71 ⟨CP.blind, va_recv hKN.1 (P_l hP) (ci := 11) (q0 := 0) rfl rfl, CP.at (P_l hP) hKN (D_l hD)⟩ ⟨⟨rfl, rfl⟩, ⟨Nat.le_of_ble_eq_true rfl, Nat.le_of_ble_eq_true rfl⟩, ⟨(show _ ≤ (600000 : Nat) by omega), (show _ ≤ (7302250 : Nat) by omega)⟩⟩ hl.1 rfl (Nat.le_of_ble_eq_true rfl) dL_law_790) hP hD hS hA (fun u75 H locs hw76 hP hD hS => ?_)
  refine W.widen (k := (bd + 0)) (n := (sd + 0)) (by omega) (by omega) ?_
  obtain ⟨u77, u78, u79, u80, u81, u82, f83, f84⟩ := u75
  have hw85 : LB f84 := hw76
  refine W.eq (g2 := F0 m 793 ls [.long u77]) rfl ?_
  have hP : va_P D vwCl ((MW Y om a (upd (upd I 29 u78) 32 u81) (vp_updL (vp_updL (vp_updL J 30 u79) 31 u80) 33 u82) (vf_upd (vf_upd F 1 f83) 28 f84) G) ++ w59) H := hP
  have hD : va_D A ((MW Y om a (upd (upd I 29 u78) 32 u81) (vp_updL (vp_updL (vp_updL J 30 u79) 31 u80) 33 u82) (vf_upd (vf_upd F 1 f83) 28 f84) G) ++ w59) := hD
  have hR86 : LN T g q x (vf_upd (vf_upd F 1 f83) 28 f84) := LN.keep hLR.1 htx TLe.rf KS.rf rfl rfl
  have hD87 : LD T g q x (vf_upd (vf_upd F 1 f83) 28 f84) := LD.keep hLR.2 htx TLe.rf KD.rf rfl
  have hR86 : LC T g q x (vf_upd (vf_upd F 1 f83) 28 f84) := ⟨hR86, hD87⟩
  refine lv_pop2_2 hx hb dL_law_793 rfl ?_
  refine lv_goto (tgt := 1878) hx hb dL_law_794 (by decide) ?_
  exact hK (upd (upd I 29 u78) 32 u81) (vp_updL (vp_updL (vp_updL J 30 u79) 31 u80) 33 u82) (vf_upd (vf_upd F 1 f83) 28 f84) G w59 T g q _ _ H locs ls (by omega) (by omega) ⟨hP, hD, hS, lv_sub hl [0, 1, 2, 3] rfl, hT, htx, hR86, hm0, hw85, hm2, hm3, hm4, hm5, (show 0 ≤ (I 3).toInt ∧ (I 3).toInt ≤ 400 by omega)⟩
set_option maxHeartbeats 4000000 in
set_option maxRecDepth 100000 in
theorem lc_13 {p : Program} {l : Launch} {e : Env} {s : State} {m : MethodId} {below : List Frame} {meth : Method} {c : Code} {sb L : Nat} {xs : Nat → Int32} (C0 : lw_At p s m meth c sb L xs) {D : va_G} {Y : Nat → ClassId} {Z : Nat → Nat} (hKN : KN D Y Z s) {A : Nat → Prop} (hSZ : SZ Z A s s.heap) (hA : ∀ q, s.heap.size ≤ q → A q) (hA2 : ∀ q, A q → s.heap.size ≤ q) {x om : Nat} {a : Nat → Nat} {H : Heap} {locs : List Loc} {ls : Array Slot} {I : Nat → Int32} {J : Nat → Int64} {F : Nat → Nat → Int32} {G : Nat → Nat → Int64} {ws : va_W} {T : RT} {g : GN} {q : GQ} {i : Int32} {bd sd : Nat} (hL : L ≤ 3584) (hi : 0 ≤ i.toInt ∧ i.toInt + 7 ≤ (L : Int)) (hbd : bd + 1092 ≤ 600000) (hsd : sd + 7753 ≤ 7302250) (hI : LI D Y Z A s sb x om a H locs ls I J F G ws T g q i) (hK : ∀ (I : Nat → Int32) (J : Nat → Int64) (F : Nat → Nat → Int32) (G : Nat → Nat → Int64) (ws : va_W) (T : RT) (g : GN) (q : GQ) (bd2 sd2 : Nat) (H : Heap) (locs : List Loc) (ls : Array Slot), bd2 ≤ bd + 1092 → sd2 ≤ sd + 7753 → LI D Y Z A s sb x om a H locs ls I J F G ws T g q i → W p l e room_1 s m #[Value.ref sb] below meth c H locs bd2 sd2 (lw_Z below #[Value.ref sb] s) (F0 m 1878 ls [])) : W p l e room_1 s m #[Value.ref sb] below meth c H locs bd sd (lw_Z below #[Value.ref sb] s) (F0 m 797 ls []) := by
  obtain ⟨hx, hb, hr, hml, hown, hts, hX, hbl, hlocks, hgv⟩ := id C0
  have hb : c.code = cL_law := hb
  have hown : s.vm.findClass RL = some m.cls := hown
  have hg : ∀ w ∈ GW, w.before #[Value.ref sb] s = true := fun w h => hts w (gw_tbl h)
  have hbA : ¬ A sb := fun h => absurd (hA2 sb h) (Nat.not_le.mpr hbl)
  obtain ⟨hP, hD, hS, hl, hT, htx, hLR, hm0, hm1, hm2, hm3, hm4, hm5, hm6⟩ := hI
  refine lv_aload_n hx hb dL_law_797 rfl (lv_at hl 2 rfl) ?_
  refine lv_aload_n hx hb dL_law_798 rfl (lv_at hl 3 rfl) ?_
  refine lv_iload_n hx hb dL_law_799 rfl (lv_at hl 0 rfl) ?_
  refine lv_iconst (v := 1) hx hb dL_law_800 (by decide) ?_
  refine lv_iadd hx hb dL_law_801 ?_
  refine lv_topi (fun v1 ev1 => ?_)
  have hv1 := i_add (Eq.refl i.toInt) (show (1 : Int32).toInt = 1 by decide) ev1 (by omega) (by omega)
  refine va_sld hx hb hX hbl hbA hS (vp_in_iff.mpr ⟨by omega, by omega⟩) dL_law_802 ?_
  refine lv_topi (fun v2 ev2 => ?_)
  obtain rfl : v2 = (xs (i.toInt.toNat + 1)) := by rw [ev2, show v1.toNatClampNeg = i.toInt.toNat + 1 by have c9 := clampI (x := v1) (by omega); omega]
  refine lv_aload_n hx hb dL_law_803 rfl (lv_at hl 3 rfl) ?_
  refine lv_iload_n hx hb dL_law_804 rfl (lv_at hl 0 rfl) ?_
  refine lv_iconst (v := 2) hx hb dL_law_805 (by decide) ?_
  refine lv_iadd hx hb dL_law_806 ?_
  refine lv_topi (fun v3 ev3 => ?_)
  have hv3 := i_add (Eq.refl i.toInt) (show (2 : Int32).toInt = 2 by decide) ev3 (by omega) (by omega)
  refine va_sld hx hb hX hbl hbA hS (vp_in_iff.mpr ⟨by omega, by omega⟩) dL_law_807 ?_
  refine lv_topi (fun v4 ev4 => ?_)
  obtain rfl : v4 = (xs (i.toInt.toNat + 2)) := by rw [ev4, show v3.toNatClampNeg = i.toInt.toNat + 2 by have c9 := clampI (x := v3) (by omega); omega]
  refine lv_aload_n hx hb dL_law_808 rfl (lv_at hl 3 rfl) ?_
  refine lv_iload_n hx hb dL_law_809 rfl (lv_at hl 0 rfl) ?_
  refine lv_iconst (v := 3) hx hb dL_law_810 (by decide) ?_
  refine lv_iadd hx hb dL_law_811 ?_
  refine lv_topi (fun v5 ev5 => ?_)
  have hv5 := i_add (Eq.refl i.toInt) (show (3 : Int32).toInt = 3 by decide) ev5 (by omega) (by omega)
  refine va_sld hx hb hX hbl hbA hS (vp_in_iff.mpr ⟨by omega, by omega⟩) dL_law_812 ?_
  refine lv_topi (fun v6 ev6 => ?_)
  obtain rfl : v6 = (xs (i.toInt.toNat + 3)) := by rw [ev6, show v5.toNatClampNeg = i.toInt.toNat + 3 by have c9 := clampI (x := v5) (by omega); omega]
  refine lv_aload_n hx hb dL_law_813 rfl (lv_at hl 3 rfl) ?_
  refine lv_iload_n hx hb dL_law_814 rfl (lv_at hl 0 rfl) ?_
  refine lv_iconst (v := 4) hx hb dL_law_815 (by decide) ?_
  refine lv_iadd hx hb dL_law_816 ?_
  refine lv_topi (fun v7 ev7 => ?_)
  have hv7 := i_add (Eq.refl i.toInt) (show (4 : Int32).toInt = 4 by decide) ev7 (by omega) (by omega)
  refine va_sld hx hb hX hbl hbA hS (vp_in_iff.mpr ⟨by omega, by omega⟩) dL_law_817 ?_
  refine lv_topi (fun v8 ev8 => ?_)
  obtain rfl : v8 = (xs (i.toInt.toNat + 4)) := by rw [ev8, show v7.toNatClampNeg = i.toInt.toNat + 4 by have c9 := clampI (x := v7) (by omega); omega]
  refine ok1 hT htx (fun p50 a9 a10 a11 a12 a13 x14 x15 x16 a17 a18 a19 a20 a21 a22 a23 a24 a25 x26 a27 a28 hk51 h29 h30 h31 h32 h33 h34 h35 h36 h37 h38 h39 h40 h41 h42 h43 h44 h45 h46 h47 h48 h49 => ?_)
  refine cgR (rn_V (As := [.int (xs (i.toInt.toNat + 1)), .int (xs (i.toInt.toNat + 2)), .int (xs (i.toInt.toNat + 3)), .int (xs (i.toInt.toNat + 4))]) (rest := []) (b := x) (x_X10_found l D Y Z H.size ws T g q x (xs (i.toInt.toNat + 1)) (xs (i.toInt.toNat + 2)) (xs (i.toInt.toNat + 3)) (xs (i.toInt.toNat + 4)) hT htx) ⟨hx, hb, hml, hown, hg⟩ lk_L_72 ⟨CPC.blind, va_recv hKN.1 (P_r hP) (ci := 10) (q0 := p50) rfl hk51, CPC.at (P_r hP) hKN (D_r hD) hSZ hS hA⟩ ⟨⟨rfl, rfl⟩, ⟨Nat.le_of_ble_eq_true rfl, Nat.le_of_ble_eq_true rfl⟩, ⟨(show _ ≤ (600000 : Nat) by omega), (show _ ≤ (7302250 : Nat) by omega)⟩⟩ hl.1 rfl (Nat.le_of_ble_eq_true rfl) dL_law_818) hP hD hS hA (fun u52 H locs hw53 hP hD hS => ?_)
  refine W.widen (k := (bd + 1)) (n := (sd + 7)) (by omega) (by omega) ?_
  obtain ⟨u54, w55, T56⟩ := u52
  obtain ⟨le57, hT, ke58⟩ : TLe T T56 ∧ TW Y Z T56 g q w55 ∧ KF 1 T ws w55 := hw53
  have hk59 := ke58 _ _ hk51 (show (T x).1 = 1 by rw [htx])
  refine W.eq (g2 := F0 m 821 ls [.long u54]) rfl ?_
  refine lv_pop2_2 hx hb dL_law_821 rfl ?_
  refine lv_aload_n hx hb dL_law_822 rfl (lv_at hl 1 rfl) ?_
  refine lv_aload_n hx hb dL_law_823 rfl (lv_at hl 3 rfl) ?_
  refine lv_iload_n hx hb dL_law_824 rfl (lv_at hl 0 rfl) ?_
  refine lv_iconst (v := 1) hx hb dL_law_825 (by decide) ?_
  refine lv_iadd hx hb dL_law_826 ?_
  refine lv_topi (fun v60 ev60 => ?_)
  have hv60 := i_add (Eq.refl i.toInt) (show (1 : Int32).toInt = 1 by decide) ev60 (by omega) (by omega)
  refine va_sld hx hb hX hbl hbA hS (vp_in_iff.mpr ⟨by omega, by omega⟩) dL_law_827 ?_
  refine lv_topi (fun v61 ev61 => ?_)
  obtain rfl : v61 = (xs (i.toInt.toNat + 1)) := by rw [ev61, show v60.toNatClampNeg = i.toInt.toNat + 1 by have c9 := clampI (x := v60) (by omega); omega]
  refine lv_aload_n hx hb dL_law_828 rfl (lv_at hl 3 rfl) ?_
  refine lv_iload_n hx hb dL_law_829 rfl (lv_at hl 0 rfl) ?_
  refine lv_iconst (v := 2) hx hb dL_law_830 (by decide) ?_
  refine lv_iadd hx hb dL_law_831 ?_
  refine lv_topi (fun v62 ev62 => ?_)
  have hv62 := i_add (Eq.refl i.toInt) (show (2 : Int32).toInt = 2 by decide) ev62 (by omega) (by omega)
  refine va_sld hx hb hX hbl hbA hS (vp_in_iff.mpr ⟨by omega, by omega⟩) dL_law_832 ?_
  refine lv_topi (fun v63 ev63 => ?_)
  obtain rfl : v63 = (xs (i.toInt.toNat + 2)) := by rw [ev63, show v62.toNatClampNeg = i.toInt.toNat + 2 by have c9 := clampI (x := v62) (by omega); omega]
  refine lv_aload_n hx hb dL_law_833 rfl (lv_at hl 3 rfl) ?_
  refine lv_iload_n hx hb dL_law_834 rfl (lv_at hl 0 rfl) ?_
  refine lv_iconst (v := 3) hx hb dL_law_835 (by decide) ?_
  refine lv_iadd hx hb dL_law_836 ?_
  refine lv_topi (fun v64 ev64 => ?_)
  have hv64 := i_add (Eq.refl i.toInt) (show (3 : Int32).toInt = 3 by decide) ev64 (by omega) (by omega)
  refine va_sld hx hb hX hbl hbA hS (vp_in_iff.mpr ⟨by omega, by omega⟩) dL_law_837 ?_
  refine lv_topi (fun v65 ev65 => ?_)
  obtain rfl : v65 = (xs (i.toInt.toNat + 3)) := by rw [ev65, show v64.toNatClampNeg = i.toInt.toNat + 3 by have c9 := clampI (x := v64) (by omega); omega]
  refine lv_aload_n hx hb dL_law_838 rfl (lv_at hl 3 rfl) ?_
  refine lv_iload_n hx hb dL_law_839 rfl (lv_at hl 0 rfl) ?_
  refine lv_iconst (v := 4) hx hb dL_law_840 (by decide) ?_
  refine lv_iadd hx hb dL_law_841 ?_
  refine lv_topi (fun v66 ev66 => ?_)
  have hv66 := i_add (Eq.refl i.toInt) (show (4 : Int32).toInt = 4 by decide) ev66 (by omega) (by omega)
  refine va_sld hx hb hX hbl hbA hS (vp_in_iff.mpr ⟨by omega, by omega⟩) dL_law_842 ?_
  refine lv_topi (fun v67 ev67 => ?_)
  obtain rfl : v67 = (xs (i.toInt.toNat + 4)) := by rw [ev67, show v66.toNatClampNeg = i.toInt.toNat + 4 by have c9 := clampI (x := v66) (by omega); omega]
  refine cgL (X := (MW Y om a I J F G)) (ws := w55) (rn_V (As := [.int (xs (i.toInt.toNat + 1)), .int (xs (i.toInt.toNat + 2)), .int (xs (i.toInt.toNat + 3)), .int (xs (i.toInt.toNat + 4))]) (rest := []) (b := om) (m_found l D Y Z H.size om a I J F G (xs (i.toInt.toNat + 1)) (xs (i.toInt.toNat + 2)) (xs (i.toInt.toNat + 3)) (xs (i.toInt.toNat + 4)) hm0 hm1 hm2) ⟨hx, hb, hml, hown, hg⟩ lk_L_76 ⟨CP.blind, va_recv hKN.1 (P_l hP) (ci := 11) (q0 := 0) rfl rfl, CP.at (P_l hP) hKN (D_l hD)⟩ ⟨⟨rfl, rfl⟩, ⟨Nat.le_of_ble_eq_true rfl, Nat.le_of_ble_eq_true rfl⟩, ⟨(show _ ≤ (600000 : Nat) by omega), (show _ ≤ (7302250 : Nat) by omega)⟩⟩ hl.1 rfl (Nat.le_of_ble_eq_true rfl) dL_law_843) hP hD hS hA (fun u68 H locs hw69 hP hD hS => ?_)
  refine W.widen (k := (bd + 1)) (n := (sd + 7)) (by omega) (by omega) ?_
  obtain ⟨u70, u71, u72, u73, u74, u75, u76, u77, u78, u79, f80, f81, f82, f83, f84, f85⟩ := u68
  have hw86 : LB f81 := hw69
  refine W.eq (g2 := F0 m 846 ls [.long u70]) rfl ?_
  have hP : va_P D vwCl ((MW Y om a (upd (upd (upd (upd (upd I 29 u77) 34 u71) 35 u72) 36 u73) 39 u74) (vp_updL (vp_updL (vp_updL (vp_updL J 30 u78) 31 u79) 37 u75) 38 u76) (vf_upd (vf_upd (vf_upd (vf_upd F 1 f80) 28 f81) 41 f83) 43 f85) (vf_upd (vf_upd G 40 f82) 42 f84)) ++ w55) H := hP
  have hD : va_D A ((MW Y om a (upd (upd (upd (upd (upd I 29 u77) 34 u71) 35 u72) 36 u73) 39 u74) (vp_updL (vp_updL (vp_updL (vp_updL J 30 u78) 31 u79) 37 u75) 38 u76) (vf_upd (vf_upd (vf_upd (vf_upd F 1 f80) 28 f81) 41 f83) 43 f85) (vf_upd (vf_upd G 40 f82) 42 f84)) ++ w55) := hD
  have hR87 : LN T56 g q x (vf_upd (vf_upd (vf_upd (vf_upd F 1 f80) 28 f81) 41 f83) 43 f85) := LN.keep hLR.1 htx le57 KS.rf rfl rfl
  have hD88 : LD T56 g q x (vf_upd (vf_upd (vf_upd (vf_upd F 1 f80) 28 f81) 41 f83) 43 f85) := LD.keep hLR.2 htx le57 KD.rf rfl
  have hR87 : LC T56 g q x (vf_upd (vf_upd (vf_upd (vf_upd F 1 f80) 28 f81) 41 f83) 43 f85) := ⟨hR87, hD88⟩
  refine lv_pop2_2 hx hb dL_law_846 rfl ?_
  refine lv_goto (tgt := 1878) hx hb dL_law_847 (by decide) ?_
  exact hK (upd (upd (upd (upd (upd I 29 u77) 34 u71) 35 u72) 36 u73) 39 u74) (vp_updL (vp_updL (vp_updL (vp_updL J 30 u78) 31 u79) 37 u75) 38 u76) (vf_upd (vf_upd (vf_upd (vf_upd F 1 f80) 28 f81) 41 f83) 43 f85) (vf_upd (vf_upd G 40 f82) 42 f84) w55 T56 g q _ _ H locs ls (by omega) (by omega) ⟨hP, hD, hS, lv_sub hl [0, 1, 2, 3] rfl, hT, (le57.up htx), hR87, hm0, hw86, hm2, hm3, hm4, hm5, (show 0 ≤ (I 3).toInt ∧ (I 3).toInt ≤ 400 by omega)⟩
set_option maxHeartbeats 4000000 in
set_option maxRecDepth 100000 in
theorem lc_14 {p : Program} {l : Launch} {e : Env} {s : State} {m : MethodId} {below : List Frame} {meth : Method} {c : Code} {sb L : Nat} {xs : Nat → Int32} (C0 : lw_At p s m meth c sb L xs) {D : va_G} {Y : Nat → ClassId} {Z : Nat → Nat} (hKN : KN D Y Z s) {A : Nat → Prop} (hSZ : SZ Z A s s.heap) (hA : ∀ q, s.heap.size ≤ q → A q) (hA2 : ∀ q, A q → s.heap.size ≤ q) {x om : Nat} {a : Nat → Nat} {H : Heap} {locs : List Loc} {ls : Array Slot} {I : Nat → Int32} {J : Nat → Int64} {F : Nat → Nat → Int32} {G : Nat → Nat → Int64} {ws : va_W} {T : RT} {g : GN} {q : GQ} {i : Int32} {bd sd : Nat} (hL : L ≤ 3584) (hi : 0 ≤ i.toInt ∧ i.toInt + 7 ≤ (L : Int)) (hbd : bd + 1092 ≤ 600000) (hsd : sd + 7753 ≤ 7302250) (hI : LI D Y Z A s sb x om a H locs ls I J F G ws T g q i) (hK : ∀ (I : Nat → Int32) (J : Nat → Int64) (F : Nat → Nat → Int32) (G : Nat → Nat → Int64) (ws : va_W) (T : RT) (g : GN) (q : GQ) (bd2 sd2 : Nat) (H : Heap) (locs : List Loc) (ls : Array Slot), bd2 ≤ bd + 1092 → sd2 ≤ sd + 7753 → LI D Y Z A s sb x om a H locs ls I J F G ws T g q i → W p l e room_1 s m #[Value.ref sb] below meth c H locs bd2 sd2 (lw_Z below #[Value.ref sb] s) (F0 m 1878 ls [])) : W p l e room_1 s m #[Value.ref sb] below meth c H locs bd sd (lw_Z below #[Value.ref sb] s) (F0 m 850 ls []) := by
  obtain ⟨hx, hb, hr, hml, hown, hts, hX, hbl, hlocks, hgv⟩ := id C0
  have hb : c.code = cL_law := hb
  have hown : s.vm.findClass RL = some m.cls := hown
  have hg : ∀ w ∈ GW, w.before #[Value.ref sb] s = true := fun w h => hts w (gw_tbl h)
  have hbA : ¬ A sb := fun h => absurd (hA2 sb h) (Nat.not_le.mpr hbl)
  obtain ⟨hP, hD, hS, hl, hT, htx, hLR, hm0, hm1, hm2, hm3, hm4, hm5, hm6⟩ := hI
  refine lv_aload_n hx hb dL_law_850 rfl (lv_at hl 2 rfl) ?_
  refine lv_aload_n hx hb dL_law_851 rfl (lv_at hl 3 rfl) ?_
  refine lv_iload_n hx hb dL_law_852 rfl (lv_at hl 0 rfl) ?_
  refine lv_iconst (v := 1) hx hb dL_law_853 (by decide) ?_
  refine lv_iadd hx hb dL_law_854 ?_
  refine lv_topi (fun v1 ev1 => ?_)
  have hv1 := i_add (Eq.refl i.toInt) (show (1 : Int32).toInt = 1 by decide) ev1 (by omega) (by omega)
  refine va_sld hx hb hX hbl hbA hS (vp_in_iff.mpr ⟨by omega, by omega⟩) dL_law_855 ?_
  refine lv_topi (fun v2 ev2 => ?_)
  obtain rfl : v2 = (xs (i.toInt.toNat + 1)) := by rw [ev2, show v1.toNatClampNeg = i.toInt.toNat + 1 by have c9 := clampI (x := v1) (by omega); omega]
  refine ok1 hT htx (fun p44 a3 a4 a5 a6 a7 x8 x9 x10 a11 a12 a13 a14 a15 a16 a17 a18 a19 x20 a21 a22 hk45 h23 h24 h25 h26 h27 h28 h29 h30 h31 h32 h33 h34 h35 h36 h37 h38 h39 h40 h41 h42 h43 => ?_)
  refine cgR (rn_V (As := [.int (xs (i.toInt.toNat + 1))]) (rest := []) (b := x) (x_X10_spread l D Y Z H.size ws T g q x (xs (i.toInt.toNat + 1)) hT htx) ⟨hx, hb, hml, hown, hg⟩ lk_L_77 ⟨CPC.blind, va_recv hKN.1 (P_r hP) (ci := 10) (q0 := p44) rfl hk45, CPC.at (P_r hP) hKN (D_r hD) hSZ hS hA⟩ ⟨⟨rfl, rfl⟩, ⟨Nat.le_of_ble_eq_true rfl, Nat.le_of_ble_eq_true rfl⟩, ⟨(show _ ≤ (600000 : Nat) by omega), (show _ ≤ (7302250 : Nat) by omega)⟩⟩ hl.1 rfl (Nat.le_of_ble_eq_true rfl) dL_law_856) hP hD hS hA (fun u46 H locs hw47 hP hD hS => ?_)
  obtain ⟨u48, w49⟩ := u46
  obtain ⟨hT, ke50, ke51⟩ : TW Y Z T g q w49 ∧ KF 1 T ws w49 ∧ KF 6 T ws w49 := hw47
  have hk52 := ke50 _ _ hk45 (show (T x).1 = 1 by rw [htx])
  refine W.eq (g2 := F0 m 859 ls [.long u48]) rfl ?_
  refine lv_pop2_2 hx hb dL_law_859 rfl ?_
  refine lv_aload_n hx hb dL_law_860 rfl (lv_at hl 1 rfl) ?_
  refine lv_aload_n hx hb dL_law_861 rfl (lv_at hl 3 rfl) ?_
  refine lv_iload_n hx hb dL_law_862 rfl (lv_at hl 0 rfl) ?_
  refine lv_iconst (v := 1) hx hb dL_law_863 (by decide) ?_
  refine lv_iadd hx hb dL_law_864 ?_
  refine lv_topi (fun v53 ev53 => ?_)
  have hv53 := i_add (Eq.refl i.toInt) (show (1 : Int32).toInt = 1 by decide) ev53 (by omega) (by omega)
  refine va_sld hx hb hX hbl hbA hS (vp_in_iff.mpr ⟨by omega, by omega⟩) dL_law_865 ?_
  refine lv_topi (fun v54 ev54 => ?_)
  obtain rfl : v54 = (xs (i.toInt.toNat + 1)) := by rw [ev54, show v53.toNatClampNeg = i.toInt.toNat + 1 by have c9 := clampI (x := v53) (by omega); omega]
  refine cgL (X := (MW Y om a I J F G)) (ws := w49) (rn_V (As := [.int (xs (i.toInt.toNat + 1))]) (rest := []) (b := om) (m_spread l D Y Z H.size om a I J F G (xs (i.toInt.toNat + 1)) hm0 hm1) ⟨hx, hb, hml, hown, hg⟩ lk_L_81 ⟨CP.blind, va_recv hKN.1 (P_l hP) (ci := 11) (q0 := 0) rfl rfl, CP.at (P_l hP) hKN (D_l hD)⟩ ⟨⟨rfl, rfl⟩, ⟨Nat.le_of_ble_eq_true rfl, Nat.le_of_ble_eq_true rfl⟩, ⟨(show _ ≤ (600000 : Nat) by omega), (show _ ≤ (7302250 : Nat) by omega)⟩⟩ hl.1 rfl (Nat.le_of_ble_eq_true rfl) dL_law_866) hP hD hS hA (fun u55 H locs hw56 hP hD hS => ?_)
  refine W.widen (k := (bd + 0)) (n := (sd + 0)) (by omega) (by omega) ?_
  obtain ⟨u57, u58, u59, u60, f61, f62⟩ := u55
  have hw63 : LB f62 := hw56
  refine W.eq (g2 := F0 m 869 ls [.long u57]) rfl ?_
  have hP : va_P D vwCl ((MW Y om a (upd I 29 u58) (vp_updL (vp_updL J 30 u59) 31 u60) (vf_upd (vf_upd F 1 f61) 28 f62) G) ++ w49) H := hP
  have hD : va_D A ((MW Y om a (upd I 29 u58) (vp_updL (vp_updL J 30 u59) 31 u60) (vf_upd (vf_upd F 1 f61) 28 f62) G) ++ w49) := hD
  have hR64 : LN T g q x (vf_upd (vf_upd F 1 f61) 28 f62) := LN.keep hLR.1 htx TLe.rf KS.rf rfl rfl
  have hD65 : LD T g q x (vf_upd (vf_upd F 1 f61) 28 f62) := LD.keep hLR.2 htx TLe.rf KD.rf rfl
  have hR64 : LC T g q x (vf_upd (vf_upd F 1 f61) 28 f62) := ⟨hR64, hD65⟩
  refine lv_pop2_2 hx hb dL_law_869 rfl ?_
  refine lv_goto (tgt := 1878) hx hb dL_law_870 (by decide) ?_
  exact hK (upd I 29 u58) (vp_updL (vp_updL J 30 u59) 31 u60) (vf_upd (vf_upd F 1 f61) 28 f62) G w49 T g q _ _ H locs ls (by omega) (by omega) ⟨hP, hD, hS, lv_sub hl [0, 1, 2, 3] rfl, hT, htx, hR64, hm0, hw63, hm2, hm3, hm4, hm5, (show 0 ≤ (I 3).toInt ∧ (I 3).toInt ≤ 400 by omega)⟩
set_option maxHeartbeats 4000000 in
set_option maxRecDepth 100000 in
theorem lc_15 {p : Program} {l : Launch} {e : Env} {s : State} {m : MethodId} {below : List Frame} {meth : Method} {c : Code} {sb L : Nat} {xs : Nat → Int32} (C0 : lw_At p s m meth c sb L xs) {D : va_G} {Y : Nat → ClassId} {Z : Nat → Nat} (hKN : KN D Y Z s) {A : Nat → Prop} (hSZ : SZ Z A s s.heap) (hA : ∀ q, s.heap.size ≤ q → A q) (hA2 : ∀ q, A q → s.heap.size ≤ q) {x om : Nat} {a : Nat → Nat} {H : Heap} {locs : List Loc} {ls : Array Slot} {I : Nat → Int32} {J : Nat → Int64} {F : Nat → Nat → Int32} {G : Nat → Nat → Int64} {ws : va_W} {T : RT} {g : GN} {q : GQ} {i : Int32} {bd sd : Nat} (hL : L ≤ 3584) (hi : 0 ≤ i.toInt ∧ i.toInt + 7 ≤ (L : Int)) (hbd : bd + 1092 ≤ 600000) (hsd : sd + 7753 ≤ 7302250) (hI : LI D Y Z A s sb x om a H locs ls I J F G ws T g q i) (hK : ∀ (I : Nat → Int32) (J : Nat → Int64) (F : Nat → Nat → Int32) (G : Nat → Nat → Int64) (ws : va_W) (T : RT) (g : GN) (q : GQ) (bd2 sd2 : Nat) (H : Heap) (locs : List Loc) (ls : Array Slot), bd2 ≤ bd + 1092 → sd2 ≤ sd + 7753 → LI D Y Z A s sb x om a H locs ls I J F G ws T g q i → W p l e room_1 s m #[Value.ref sb] below meth c H locs bd2 sd2 (lw_Z below #[Value.ref sb] s) (F0 m 1878 ls [])) : W p l e room_1 s m #[Value.ref sb] below meth c H locs bd sd (lw_Z below #[Value.ref sb] s) (F0 m 873 ls []) := by
  obtain ⟨hx, hb, hr, hml, hown, hts, hX, hbl, hlocks, hgv⟩ := id C0
  have hb : c.code = cL_law := hb
  have hown : s.vm.findClass RL = some m.cls := hown
  have hg : ∀ w ∈ GW, w.before #[Value.ref sb] s = true := fun w h => hts w (gw_tbl h)
  have hbA : ¬ A sb := fun h => absurd (hA2 sb h) (Nat.not_le.mpr hbl)
  obtain ⟨hP, hD, hS, hl, hT, htx, hLR, hm0, hm1, hm2, hm3, hm4, hm5, hm6⟩ := hI
  refine lv_aload_n hx hb dL_law_873 rfl (lv_at hl 2 rfl) ?_
  refine lv_aload_n hx hb dL_law_874 rfl (lv_at hl 3 rfl) ?_
  refine lv_iload_n hx hb dL_law_875 rfl (lv_at hl 0 rfl) ?_
  refine lv_iconst (v := 1) hx hb dL_law_876 (by decide) ?_
  refine lv_iadd hx hb dL_law_877 ?_
  refine lv_topi (fun v1 ev1 => ?_)
  have hv1 := i_add (Eq.refl i.toInt) (show (1 : Int32).toInt = 1 by decide) ev1 (by omega) (by omega)
  refine va_sld hx hb hX hbl hbA hS (vp_in_iff.mpr ⟨by omega, by omega⟩) dL_law_878 ?_
  refine lv_topi (fun v2 ev2 => ?_)
  obtain rfl : v2 = (xs (i.toInt.toNat + 1)) := by rw [ev2, show v1.toNatClampNeg = i.toInt.toNat + 1 by have c9 := clampI (x := v1) (by omega); omega]
  refine lv_aload_n hx hb dL_law_879 rfl (lv_at hl 3 rfl) ?_
  refine lv_iload_n hx hb dL_law_880 rfl (lv_at hl 0 rfl) ?_
  refine lv_iconst (v := 2) hx hb dL_law_881 (by decide) ?_
  refine lv_iadd hx hb dL_law_882 ?_
  refine lv_topi (fun v3 ev3 => ?_)
  have hv3 := i_add (Eq.refl i.toInt) (show (2 : Int32).toInt = 2 by decide) ev3 (by omega) (by omega)
  refine va_sld hx hb hX hbl hbA hS (vp_in_iff.mpr ⟨by omega, by omega⟩) dL_law_883 ?_
  refine lv_topi (fun v4 ev4 => ?_)
  obtain rfl : v4 = (xs (i.toInt.toNat + 2)) := by rw [ev4, show v3.toNatClampNeg = i.toInt.toNat + 2 by have c9 := clampI (x := v3) (by omega); omega]
  refine ok1 hT htx (fun p46 a5 a6 a7 a8 a9 x10 x11 x12 a13 a14 a15 a16 a17 a18 a19 a20 a21 x22 a23 a24 hk47 h25 h26 h27 h28 h29 h30 h31 h32 h33 h34 h35 h36 h37 h38 h39 h40 h41 h42 h43 h44 h45 => ?_)
  refine cgR (rn_V (As := [.int (xs (i.toInt.toNat + 1)), .int (xs (i.toInt.toNat + 2))]) (rest := []) (b := x) (x_X10_catches l D Y Z H.size ws T g q x (xs (i.toInt.toNat + 1)) (xs (i.toInt.toNat + 2)) hT htx) ⟨hx, hb, hml, hown, hg⟩ lk_L_82 ⟨CPC.blind, va_recv hKN.1 (P_r hP) (ci := 10) (q0 := p46) rfl hk47, CPC.at (P_r hP) hKN (D_r hD) hSZ hS hA⟩ ⟨⟨rfl, rfl⟩, ⟨Nat.le_of_ble_eq_true rfl, Nat.le_of_ble_eq_true rfl⟩, ⟨(show _ ≤ (600000 : Nat) by omega), (show _ ≤ (7302250 : Nat) by omega)⟩⟩ hl.1 rfl (Nat.le_of_ble_eq_true rfl) dL_law_884) hP hD hS hA (fun u48 H locs hw49 hP hD hS => ?_)
  refine W.widen (k := (bd + 1)) (n := (sd + 7)) (by omega) (by omega) ?_
  obtain ⟨u50, w51, T52⟩ := u48
  obtain ⟨le53, hT, ke54⟩ : TLe T T52 ∧ TW Y Z T52 g q w51 ∧ KF 1 T ws w51 := hw49
  have hk55 := ke54 _ _ hk47 (show (T x).1 = 1 by rw [htx])
  refine W.eq (g2 := F0 m 887 ls [.int u50]) rfl ?_
  refine lv_pop hx hb dL_law_887 rfl ?_
  refine lv_aload_n hx hb dL_law_888 rfl (lv_at hl 1 rfl) ?_
  refine lv_aload_n hx hb dL_law_889 rfl (lv_at hl 3 rfl) ?_
  refine lv_iload_n hx hb dL_law_890 rfl (lv_at hl 0 rfl) ?_
  refine lv_iconst (v := 1) hx hb dL_law_891 (by decide) ?_
  refine lv_iadd hx hb dL_law_892 ?_
  refine lv_topi (fun v56 ev56 => ?_)
  have hv56 := i_add (Eq.refl i.toInt) (show (1 : Int32).toInt = 1 by decide) ev56 (by omega) (by omega)
  refine va_sld hx hb hX hbl hbA hS (vp_in_iff.mpr ⟨by omega, by omega⟩) dL_law_893 ?_
  refine lv_topi (fun v57 ev57 => ?_)
  obtain rfl : v57 = (xs (i.toInt.toNat + 1)) := by rw [ev57, show v56.toNatClampNeg = i.toInt.toNat + 1 by have c9 := clampI (x := v56) (by omega); omega]
  refine lv_aload_n hx hb dL_law_894 rfl (lv_at hl 3 rfl) ?_
  refine lv_iload_n hx hb dL_law_895 rfl (lv_at hl 0 rfl) ?_
  refine lv_iconst (v := 2) hx hb dL_law_896 (by decide) ?_
  refine lv_iadd hx hb dL_law_897 ?_
  refine lv_topi (fun v58 ev58 => ?_)
  have hv58 := i_add (Eq.refl i.toInt) (show (2 : Int32).toInt = 2 by decide) ev58 (by omega) (by omega)
  refine va_sld hx hb hX hbl hbA hS (vp_in_iff.mpr ⟨by omega, by omega⟩) dL_law_898 ?_
  refine lv_topi (fun v59 ev59 => ?_)
  obtain rfl : v59 = (xs (i.toInt.toNat + 2)) := by rw [ev59, show v58.toNatClampNeg = i.toInt.toNat + 2 by have c9 := clampI (x := v58) (by omega); omega]
  refine cgL (X := (MW Y om a I J F G)) (ws := w51) (rn_V (As := [.int (xs (i.toInt.toNat + 1)), .int (xs (i.toInt.toNat + 2))]) (rest := []) (b := om) (m_catches l D Y Z H.size om a I J F G (xs (i.toInt.toNat + 1)) (xs (i.toInt.toNat + 2)) hm0 hm1 hm2) ⟨hx, hb, hml, hown, hg⟩ lk_L_85 ⟨CP.blind, va_recv hKN.1 (P_l hP) (ci := 11) (q0 := 0) rfl rfl, CP.at (P_l hP) hKN (D_l hD)⟩ ⟨⟨rfl, rfl⟩, ⟨Nat.le_of_ble_eq_true rfl, Nat.le_of_ble_eq_true rfl⟩, ⟨(show _ ≤ (600000 : Nat) by omega), (show _ ≤ (7302250 : Nat) by omega)⟩⟩ hl.1 rfl (Nat.le_of_ble_eq_true rfl) dL_law_899) hP hD hS hA (fun u60 H locs hw61 hP hD hS => ?_)
  refine W.widen (k := (bd + 1)) (n := (sd + 7)) (by omega) (by omega) ?_
  obtain ⟨u62, u63, u64, u65, u66, u67, u68, u69, u70, u71, f72, f73, f74, f75, f76⟩ := u60
  have hw77 : LB f72 := hw61
  refine W.eq (g2 := F0 m 902 ls [.int u62]) rfl ?_
  have hP : va_P D vwCl ((MW Y om a (upd (upd (upd (upd (upd I 29 u69) 34 u63) 35 u64) 36 u65) 39 u66) (vp_updL (vp_updL (vp_updL (vp_updL J 30 u70) 31 u71) 37 u67) 38 u68) (vf_upd (vf_upd (vf_upd F 28 f72) 41 f74) 43 f76) (vf_upd (vf_upd G 40 f73) 42 f75)) ++ w51) H := hP
  have hD : va_D A ((MW Y om a (upd (upd (upd (upd (upd I 29 u69) 34 u63) 35 u64) 36 u65) 39 u66) (vp_updL (vp_updL (vp_updL (vp_updL J 30 u70) 31 u71) 37 u67) 38 u68) (vf_upd (vf_upd (vf_upd F 28 f72) 41 f74) 43 f76) (vf_upd (vf_upd G 40 f73) 42 f75)) ++ w51) := hD
  have hR78 : LN T52 g q x (vf_upd (vf_upd (vf_upd F 28 f72) 41 f74) 43 f76) := LN.keep hLR.1 htx le53 KS.rf rfl rfl
  have hD79 : LD T52 g q x (vf_upd (vf_upd (vf_upd F 28 f72) 41 f74) 43 f76) := LD.keep hLR.2 htx le53 KD.rf rfl
  have hR78 : LC T52 g q x (vf_upd (vf_upd (vf_upd F 28 f72) 41 f74) 43 f76) := ⟨hR78, hD79⟩
  refine lv_pop hx hb dL_law_902 rfl ?_
  refine lv_goto (tgt := 1878) hx hb dL_law_903 (by decide) ?_
  exact hK (upd (upd (upd (upd (upd I 29 u69) 34 u63) 35 u64) 36 u65) 39 u66) (vp_updL (vp_updL (vp_updL (vp_updL J 30 u70) 31 u71) 37 u67) 38 u68) (vf_upd (vf_upd (vf_upd F 28 f72) 41 f74) 43 f76) (vf_upd (vf_upd G 40 f73) 42 f75) w51 T52 g q _ _ H locs ls (by omega) (by omega) ⟨hP, hD, hS, lv_sub hl [0, 1, 2, 3] rfl, hT, (le53.up htx), hR78, hm0, hw77, hm2, hm3, hm4, hm5, (show 0 ≤ (I 3).toInt ∧ (I 3).toInt ≤ 400 by omega)⟩
