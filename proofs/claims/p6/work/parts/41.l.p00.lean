set_option maxHeartbeats 4000000 in
set_option maxRecDepth 100000 in
theorem x_maskE (l : Launch) (D : va_G) (Y : Nat → ClassId) (Z : Nat → Nat) (sz : Nat) (ws : va_W) (T : RT) (g : GN) (q : GQ)  (p0 : Nat) (p1 : Int32) (p2 : Int32) (p3 : Int32) (hT : TW Y Z T g q ws) (ht0 : T p0 = (1, 0, 0)) : Met l yX10_mask (.code yX10_mask cX10_mask 4 (some .boolean) :: GW) ({ frames := 1, cells := 0, slots := 0, locals := 22 }) (va_Pc [.ref p0, .int p1, .int p2, .int p3] (CPC D Y Z ws sz)) (QG (S := Int32 × va_W) (fun u => some (.int u.1)) (fun u => TW Y Z T g q u.2 ∧ KF 6 T ws u.2 ∧ (0 ≤ u.1.toInt ∧ u.1.toInt ≤ 1) ∧ ((u.1.toInt = 1 ∧ 0 ≤ p1.toInt ∧ p1.toInt ≤ 7 ∧ 0 ≤ p2.toInt ∧ p2.toInt ≤ 12 ∧ 0 ≤ p3.toInt ∧ p3.toInt ≤ 30000) ∨ (u.1.toInt = 0 ∧ ¬ (0 ≤ p1.toInt ∧ p1.toInt ≤ 7 ∧ 0 ≤ p2.toInt ∧ p2.toInt ≤ 12 ∧ 0 ≤ p3.toInt ∧ p3.toInt ≤ 30000)))) (fun u => CB D u.2 (va_A ws sz)) (va_A ws sz)) 0 0 (va_A ws sz) := by
  refine Met.ofW (cc := cX10_mask) (maxL := 4) (ret := (some .boolean)) (by decide) rfl ?_
  intro p e s m args below meth c s₁ B hml hv
  obtain ⟨rfl, ⟨hsz, hP, hKN, hD0⟩, hSZ⟩ := hv
  have hx := B.exec
  have hb := B.bytes
  have hr := B.returns
  have hts := atoms_spec (ws := .code yX10_mask cX10_mask 4 (some .boolean) :: GW) B.pre
  have hg : ∀ w ∈ GW, w.before _ s = true := fun w h => hts w (List.mem_cons_of_mem _ h)
  have hown : s.vm.findClass RX10 = some m.cls := findClass_of_methodNamed B.named
  have hlocks := B.notSynchronized
  subst hsz
  have hD := hD0.self (sz := s.heap.size)
  generalize hAe : va_A ws s.heap.size = A at hD hSZ ⊢
  have hA : ∀ q : Nat, s.heap.size ≤ q → A q := fun q h => by rw [← hAe]; exact Or.inr h
  clear hAe hD0 hts B
  have hl := lv_entry ([.ref p0, .int p1, .int p2, .int p3]) (n := 4) (Nat.le_of_ble_eq_true rfl)
  rw [lg_entry_eq]
  generalize (lg_sl ([.ref p0, .int p1, .int p2, .int p3]) ++ List.replicate (4 - (lg_sl ([.ref p0, .int p1, .int p2, .int p3])).length) Slot.unset).toArray = ls at hl ⊢
  have hl : lv_has ls 4 [(0, .ref p0), (1, .int p1), (2, .int p2), (3, .int p3)] := hl
  refine w_start (A0 := A) hP (fun H locs hP hS => ?_)
  refine lv_iload_n hx hb dX10_mask_0 rfl (lv_at hl 1 rfl) ?_
  refine lv_iconst (v := 0) hx hb dX10_mask_1 (by decide) ?_
  refine lv_bipush (v := 7) hx hb dX10_mask_2 (by decide) ?_
  have zi0 : (0 : Int32).toInt = 0 := by decide
  have zi7 : (7 : Int32).toInt = 7 := by decide
  refine cg0 (rn_S (As := [.int p1, .int 0, .int 7]) (rest := []) (x_X10_isWithin l D Y Z H.size p1 0 7) ⟨hx, hb, hml, hown, hg⟩ lk_X10_100 ⟨CP.blind, CP.at nilP hKN (nilD (A := fun _ => True))⟩ ⟨⟨rfl, rfl⟩, ⟨Nat.le_of_ble_eq_true rfl, Nat.le_of_ble_eq_true rfl⟩, ⟨(Nat.le_of_ble_eq_true rfl), (Nat.le_of_ble_eq_true rfl)⟩⟩ hl.1 rfl (Nat.le_of_ble_eq_true rfl) dX10_mask_4) hP hS hA (fun u1 H locs hw2 hP hS => ?_)
  obtain ⟨hw4, hw5⟩ : (((0 : Int32).toInt ≤ p1.toInt ∧ p1.toInt ≤ (7 : Int32).toInt ∧ u1.toInt = 1) ∨ (¬ ((0 : Int32).toInt ≤ p1.toInt ∧ p1.toInt ≤ (7 : Int32).toInt) ∧ u1.toInt = 0)) ∧ (0 ≤ u1.toInt ∧ u1.toInt ≤ 1) := hw2
  refine W.eq (g2 := F0 m 7 ls [.int u1]) rfl ?_
  rcases (show u1.toInt = 1 ∨ u1.toInt = 0 by omega) with c6 | c6
  · obtain rfl : u1 = 1 := i_is c6 (by decide)
    have zi1 : (1 : Int32).toInt = 1 := by decide
    refine W.eq (g2 := F0 m 7 ls [.int 1]) rfl ?_
    refine lv_if_eq (tgt := 31) hx hb dX10_mask_7 (by decide) (fun c7 => ?_) (fun c7 => ?_)
    · exact absurd c7 (by decide)
    refine lv_iload_n hx hb dX10_mask_10 rfl (lv_at hl 2 rfl) ?_
    refine lv_iconst (v := 0) hx hb dX10_mask_11 (by decide) ?_
    refine lv_bipush (v := 12) hx hb dX10_mask_12 (by decide) ?_
    have zi12 : (12 : Int32).toInt = 12 := by decide
    refine cg0 (rn_S (As := [.int p2, .int 0, .int 12]) (rest := []) (x_X10_isWithin l D Y Z H.size p2 0 12) ⟨hx, hb, hml, hown, hg⟩ lk_X10_100 ⟨CP.blind, CP.at nilP hKN (nilD (A := fun _ => True))⟩ ⟨⟨rfl, rfl⟩, ⟨Nat.le_of_ble_eq_true rfl, Nat.le_of_ble_eq_true rfl⟩, ⟨(Nat.le_of_ble_eq_true rfl), (Nat.le_of_ble_eq_true rfl)⟩⟩ hl.1 rfl (Nat.le_of_ble_eq_true rfl) dX10_mask_14) hP hS hA (fun u8 H locs hw9 hP hS => ?_)
    obtain ⟨hw11, hw12⟩ : (((0 : Int32).toInt ≤ p2.toInt ∧ p2.toInt ≤ (12 : Int32).toInt ∧ u8.toInt = 1) ∨ (¬ ((0 : Int32).toInt ≤ p2.toInt ∧ p2.toInt ≤ (12 : Int32).toInt) ∧ u8.toInt = 0)) ∧ (0 ≤ u8.toInt ∧ u8.toInt ≤ 1) := hw9
    refine W.eq (g2 := F0 m 17 ls [.int u8]) rfl ?_
    rcases (show u8.toInt = 1 ∨ u8.toInt = 0 by omega) with c13 | c13
    · obtain rfl : u8 = 1 := i_is c13 (by decide)
      refine W.eq (g2 := F0 m 17 ls [.int 1]) rfl ?_
      refine lv_if_eq (tgt := 31) hx hb dX10_mask_17 (by decide) (fun c14 => ?_) (fun c14 => ?_)
      · exact absurd c14 (by decide)
      refine lv_iload_n hx hb dX10_mask_20 rfl (lv_at hl 3 rfl) ?_
      refine lv_iconst (v := 0) hx hb dX10_mask_21 (by decide) ?_
      refine lv_sipush (v := 30000) hx hb dX10_mask_22 (by decide) ?_
      have zi30000 : (30000 : Int32).toInt = 30000 := by decide
      refine cg0 (rn_S (As := [.int p3, .int 0, .int 30000]) (rest := []) (x_X10_isWithin l D Y Z H.size p3 0 30000) ⟨hx, hb, hml, hown, hg⟩ lk_X10_100 ⟨CP.blind, CP.at nilP hKN (nilD (A := fun _ => True))⟩ ⟨⟨rfl, rfl⟩, ⟨Nat.le_of_ble_eq_true rfl, Nat.le_of_ble_eq_true rfl⟩, ⟨(Nat.le_of_ble_eq_true rfl), (Nat.le_of_ble_eq_true rfl)⟩⟩ hl.1 rfl (Nat.le_of_ble_eq_true rfl) dX10_mask_25) hP hS hA (fun u15 H locs hw16 hP hS => ?_)
      obtain ⟨hw18, hw19⟩ : (((0 : Int32).toInt ≤ p3.toInt ∧ p3.toInt ≤ (30000 : Int32).toInt ∧ u15.toInt = 1) ∨ (¬ ((0 : Int32).toInt ≤ p3.toInt ∧ p3.toInt ≤ (30000 : Int32).toInt) ∧ u15.toInt = 0)) ∧ (0 ≤ u15.toInt ∧ u15.toInt ≤ 1) := hw16
      refine W.eq (g2 := F0 m 28 ls [.int u15]) rfl ?_
      rcases (show u15.toInt = 1 ∨ u15.toInt = 0 by omega) with c20 | c20
      · obtain rfl : u15 = 1 := i_is c20 (by decide)
        refine W.eq (g2 := F0 m 28 ls [.int 1]) rfl ?_
        refine lv_if_ne (tgt := 33) hx hb dX10_mask_28 (by decide) (fun c21 => ?_) (fun c21 => ?_)
        rotate_left
        · exact absurd c21 (by decide)
        refine lv_aload_n hx hb dX10_mask_33 rfl (lv_at hl 0 rfl) ?_
        obtain ⟨p63, _, hk64, a22, a23, a24, a25, a26, x27, x28, x29, a30, a31, a32, a33, a34, a35, a36, a37, a38, x39, a40, a41, rfl, h42, h43, h44, h45, h46, h47, h48, h49, h50, h51, h52, h53, h54, h55, h56, h57, h58, h59, h60, h61, h62⟩ := op1 hT ht0
        refine va_get (D := D) (ci := 10) (v := .ref a22) (C := RX10) (T := TX10) (N := 20) hx hb hg inGX10 hown hKN.1 hP p63 hk64 rfl 0 (by decide) (hg _ kw_349) (fun _ h9 => h9) rfl dX10_mask_34 ?_
        obtain ⟨p99, _, hk100, x65, a66, x67, a68, x69, a70, a71, x72, a73, a74, x75, a76, x77, rfl, h78, h79, h80, h81, h82, h83, h84, h85, h86, h87, h88, h89, h90, h91, h92, h93, h94, h95, h96, h97, h98⟩ := op2 hT h42
        refine va_getN (D := D) (ci := 6) (v := .ref a73) (C := RX6) (T := TX6) (N := 13) hx hb hg inGX6 hown hKN.1 hP p99 hk100 rfl 8 (by decide) (va_Nw.use rfl (hKN.2.1 _ kn_58 rfl)) (fun _ h9 => h9) rfl dX10_mask_37 ?_
        refine lv_iload_n hx hb dX10_mask_40 rfl (lv_at hl 1 rfl) ?_
        refine lv_iload_n hx hb dX10_mask_41 rfl (lv_at hl 2 rfl) ?_
        refine tr_st12 hx hb hKN hP hD hS hT h93 (vp_in_iff.mpr ⟨by omega, by omega⟩) dX10_mask_42 (fun w101 H locs hP hD hS hT kp102 => ?_)
        have ke103 : KF 6 T ws w101 := KF.tr KF.rf (KF.kp kp102 h93 (by decide))
        have hk104 := kp102 _ _ hk64 (rne ht0 h93 (by decide))
        have hk105 := kp102 _ _ hk100 (rne h42 h93 (by decide))
        refine lv_aload_n hx hb dX10_mask_43 rfl (lv_at hl 0 rfl) ?_
        refine va_get (D := D) (ci := 10) (v := .ref a22) (C := RX10) (T := TX10) (N := 20) hx hb hg inGX10 hown hKN.1 hP p63 hk104 rfl 0 (by decide) (hg _ kw_349) (fun _ h9 => h9) rfl dX10_mask_44 ?_
        refine va_getN (D := D) (ci := 6) (v := .ref a74) (C := RX6) (T := TX6) (N := 13) hx hb hg inGX6 hown hKN.1 hP p99 hk105 rfl 9 (by decide) (va_Nw.use rfl (hKN.2.1 _ kn_60 rfl)) (fun _ h9 => h9) rfl dX10_mask_47 ?_
        refine lv_iload_n hx hb dX10_mask_50 rfl (lv_at hl 1 rfl) ?_
        refine lv_iload_n hx hb dX10_mask_51 rfl (lv_at hl 3 rfl) ?_
        refine tr_st12 hx hb hKN hP hD hS hT h94 (vp_in_iff.mpr ⟨by omega, by omega⟩) dX10_mask_52 (fun w106 H locs hP hD hS hT kp107 => ?_)
        have ke108 : KF 6 T ws w106 := KF.tr ke103 (KF.kp kp107 h94 (by decide))
        have hk109 := kp107 _ _ hk104 (rne ht0 h94 (by decide))
        have hk110 := kp107 _ _ hk105 (rne h42 h94 (by decide))
        refine lv_aload_n hx hb dX10_mask_53 rfl (lv_at hl 0 rfl) ?_
        refine lv_dup hx hb dX10_mask_54 rfl ?_
        refine va_get (D := D) (ci := 10) (v := .int x39) (C := RX10) (T := TX10) (N := 20) hx hb hg inGX10 hown hKN.1 hP p63 hk109 rfl 17 (by decide) (hg _ kw_366) (fun _ h9 => h9) rfl dX10_mask_55 ?_
        refine lv_iconst (v := 1) hx hb dX10_mask_58 (by decide) ?_
        refine lv_iadd hx hb dX10_mask_59 ?_
        refine lv_topi (fun v111 ev111 => ?_)
        refine va_put (D := D) (ci := 10) (v := .int v111) (ty := .int) (C := RX10) (T := TX10) (N := 20) hx hb hg inGX10 tyX10 tyX10_ok nmX10 hown hKN.1 hP hD hS p63 hk109 rfl 17 (by decide) (hg _ kw_366) (fun _ h9 => h9) rfl (by decide +kernel) rfl rfl (Nat.le_of_ble_eq_true rfl) dX10_mask_60 (fun H locs hP hD2 hS => ?_)
        obtain ⟨w112, hP, hD, hT, hk114, kp113⟩ : ∃ wz, va_P D vwCl wz H ∧ va_D A wz ∧ TW Y Z T g q wz ∧ wz[p63]? = some (p0, .inr (10, (.ref a22 :: .ref a23 :: .ref a24 :: .ref a25 :: .ref a26 :: .int x27 :: .int x28 :: .int x29 :: .ref a30 :: .ref a31 :: .ref a32 :: .ref a33 :: .ref a34 :: .ref a35 :: .ref a36 :: .ref a37 :: .ref a38 :: .int v111 :: .ref a40 :: .ref a41 :: []))) ∧ Kp p0 w106 wz := ⟨_, hP, hD2, st1 hT hD hk109 ht0 ⟨a22, a23, a24, a25, a26, x27, x28, x29, a30, a31, a32, a33, a34, a35, a36, a37, a38, v111, a40, a41, rfl, h42, h43, h44, h45, h46, h47, h48, by omega, by omega, by omega, h52, h53, h54, h55, h56, h57, h58, h59, h60, h61, h62⟩, sw_eq hk109, sw_kp hk109⟩
        have ke115 : KF 6 T ws w112 := KF.tr ke108 (KF.kp kp113 ht0 (by decide))
        have hk116 := kp113 _ _ hk110 (rne h42 ht0 (by decide))
        refine lv_iconst (v := 1) hx hb dX10_mask_63 (by decide) ?_
        refine W.widen (k := 0) (n := 0) (Nat.le_of_ble_eq_true rfl) (Nat.le_of_ble_eq_true rfl) ?_
        exact W.zret (v := 1) hx hb hr (by decide) (fun t ht hW => ⟨⟨((1), w112), rfl, ⟨hT, ke115, (show (0 ≤ (1 : Int32).toInt ∧ (1 : Int32).toInt ≤ 1) by omega), (show (((1 : Int32).toInt = 1 ∧ 0 ≤ p1.toInt ∧ p1.toInt ≤ 7 ∧ 0 ≤ p2.toInt ∧ p2.toInt ≤ 12 ∧ 0 ≤ p3.toInt ∧ p3.toInt ≤ 30000) ∨ ((1 : Int32).toInt = 0 ∧ ¬ (0 ≤ p1.toInt ∧ p1.toInt ≤ 7 ∧ 0 ≤ p2.toInt ∧ p2.toInt ≤ 12 ∧ 0 ≤ p3.toInt ∧ p3.toInt ≤ 30000))) by omega)⟩, CB.mk ht hP hD⟩, hS.F ht⟩) hS.2.2 dX10_mask_64
      · obtain rfl : u15 = 0 := i_is c20 (by decide)
        refine W.eq (g2 := F0 m 28 ls [.int 0]) rfl ?_
        refine lv_if_ne (tgt := 33) hx hb dX10_mask_28 (by decide) (fun c117 => ?_) (fun c117 => ?_)
        · exact absurd c117 (by decide)
        refine lv_iconst (v := 0) hx hb dX10_mask_31 (by decide) ?_
        refine W.widen (k := 0) (n := 0) (Nat.le_of_ble_eq_true rfl) (Nat.le_of_ble_eq_true rfl) ?_
        exact W.zret (v := 0) hx hb hr (by decide) (fun t ht hW => ⟨⟨((0), ws), rfl, ⟨hT, KF.rf, (show (0 ≤ (0 : Int32).toInt ∧ (0 : Int32).toInt ≤ 1) by omega), (show (((0 : Int32).toInt = 1 ∧ 0 ≤ p1.toInt ∧ p1.toInt ≤ 7 ∧ 0 ≤ p2.toInt ∧ p2.toInt ≤ 12 ∧ 0 ≤ p3.toInt ∧ p3.toInt ≤ 30000) ∨ ((0 : Int32).toInt = 0 ∧ ¬ (0 ≤ p1.toInt ∧ p1.toInt ≤ 7 ∧ 0 ≤ p2.toInt ∧ p2.toInt ≤ 12 ∧ 0 ≤ p3.toInt ∧ p3.toInt ≤ 30000))) by omega)⟩, CB.mk ht hP hD⟩, hS.F ht⟩) hS.2.2 dX10_mask_32
    · obtain rfl : u8 = 0 := i_is c13 (by decide)
      refine W.eq (g2 := F0 m 17 ls [.int 0]) rfl ?_
      refine lv_if_eq (tgt := 31) hx hb dX10_mask_17 (by decide) (fun c118 => ?_) (fun c118 => ?_)
      rotate_left
      · exact absurd c118 (by decide)
      refine lv_iconst (v := 0) hx hb dX10_mask_31 (by decide) ?_
      refine W.widen (k := 0) (n := 0) (Nat.le_of_ble_eq_true rfl) (Nat.le_of_ble_eq_true rfl) ?_
      exact W.zret (v := 0) hx hb hr (by decide) (fun t ht hW => ⟨⟨((0), ws), rfl, ⟨hT, KF.rf, (show (0 ≤ (0 : Int32).toInt ∧ (0 : Int32).toInt ≤ 1) by omega), (show (((0 : Int32).toInt = 1 ∧ 0 ≤ p1.toInt ∧ p1.toInt ≤ 7 ∧ 0 ≤ p2.toInt ∧ p2.toInt ≤ 12 ∧ 0 ≤ p3.toInt ∧ p3.toInt ≤ 30000) ∨ ((0 : Int32).toInt = 0 ∧ ¬ (0 ≤ p1.toInt ∧ p1.toInt ≤ 7 ∧ 0 ≤ p2.toInt ∧ p2.toInt ≤ 12 ∧ 0 ≤ p3.toInt ∧ p3.toInt ≤ 30000))) by omega)⟩, CB.mk ht hP hD⟩, hS.F ht⟩) hS.2.2 dX10_mask_32
  · obtain rfl : u1 = 0 := i_is c6 (by decide)
    refine W.eq (g2 := F0 m 7 ls [.int 0]) rfl ?_
    refine lv_if_eq (tgt := 31) hx hb dX10_mask_7 (by decide) (fun c119 => ?_) (fun c119 => ?_)
    rotate_left
    · exact absurd c119 (by decide)
    refine lv_iconst (v := 0) hx hb dX10_mask_31 (by decide) ?_
    refine W.widen (k := 0) (n := 0) (Nat.le_of_ble_eq_true rfl) (Nat.le_of_ble_eq_true rfl) ?_
    exact W.zret (v := 0) hx hb hr (by decide) (fun t ht hW => ⟨⟨((0), ws), rfl, ⟨hT, KF.rf, (show (0 ≤ (0 : Int32).toInt ∧ (0 : Int32).toInt ≤ 1) by omega), (show (((0 : Int32).toInt = 1 ∧ 0 ≤ p1.toInt ∧ p1.toInt ≤ 7 ∧ 0 ≤ p2.toInt ∧ p2.toInt ≤ 12 ∧ 0 ≤ p3.toInt ∧ p3.toInt ≤ 30000) ∨ ((0 : Int32).toInt = 0 ∧ ¬ (0 ≤ p1.toInt ∧ p1.toInt ≤ 7 ∧ 0 ≤ p2.toInt ∧ p2.toInt ≤ 12 ∧ 0 ≤ p3.toInt ∧ p3.toInt ≤ 30000))) by omega)⟩, CB.mk ht hP hD⟩, hS.F ht⟩) hS.2.2 dX10_mask_32
set_option maxHeartbeats 4000000 in
set_option maxRecDepth 100000 in
theorem m_maskE (l : Launch) (D : va_G) (Y : Nat → ClassId) (Z : Nat → Nat) (sz : Nat) (o : Nat) (a : Nat → Nat) (I : Nat → Int32) (J : Nat → Int64) (F : Nat → Nat → Int32) (G : Nat → Nat → Int64) (p1 : Int32) (p2 : Int32) (p3 : Int32) (hk0 : TO (F 0)) : Met l yX11_mask (.code yX11_mask cX11_mask 4 (some .boolean) :: GW) ({ frames := 1, cells := 0, slots := 0, locals := 25 }) (va_Pc [.ref o, .int p1, .int p2, .int p3] (CP D Y Z (MW Y o a I J F G) sz)) (QG (S := Int32 × (Nat → Int32)) (fun u => some (.int u.1)) (fun u => (0 ≤ u.1.toInt ∧ u.1.toInt ≤ 1) ∧ ((u.1.toInt = 1 ∧ 0 ≤ p1.toInt ∧ p1.toInt ≤ 7 ∧ 0 ≤ p2.toInt ∧ p2.toInt ≤ 12 ∧ 0 ≤ p3.toInt ∧ p3.toInt ≤ 30000) ∨ (u.1.toInt = 0 ∧ ¬ (0 ≤ p1.toInt ∧ p1.toInt ≤ 7 ∧ 0 ≤ p2.toInt ∧ p2.toInt ≤ 12 ∧ 0 ≤ p3.toInt ∧ p3.toInt ≤ 30000))) ∧ TO u.2) (fun u => CB D (MW Y o a I J (vf_upd F 0 u.2) G) (va_A (MW Y o a I J F G) sz)) (va_A (MW Y o a I J F G) sz)) 0 0 (va_A (MW Y o a I J F G) sz) := by
  refine Met.ofW (cc := cX11_mask) (maxL := 4) (ret := (some .boolean)) (by decide) rfl ?_
  intro p e s m args below meth c s₁ B hml hv
  obtain ⟨rfl, hsz, hP, hKN, hD0⟩ := hv
  have hx := B.exec
  have hb := B.bytes
  have hr := B.returns
  have hts := atoms_spec (ws := .code yX11_mask cX11_mask 4 (some .boolean) :: GW) B.pre
  have hg : ∀ w ∈ GW, w.before _ s = true := fun w h => hts w (List.mem_cons_of_mem _ h)
  have hown : s.vm.findClass RX11 = some m.cls := findClass_of_methodNamed B.named
  have hlocks := B.notSynchronized
  subst hsz
  have hD := hD0.self (sz := s.heap.size)
  generalize hAe : va_A (MW Y o a I J F G) s.heap.size = A at hD ⊢
  have hA : ∀ q : Nat, s.heap.size ≤ q → A q := fun q h => by rw [← hAe]; exact Or.inr h
  clear hAe hD0 hts B
  have hl := lv_entry ([.ref o, .int p1, .int p2, .int p3]) (n := 4) (Nat.le_of_ble_eq_true rfl)
  rw [lg_entry_eq]
  generalize (lg_sl ([.ref o, .int p1, .int p2, .int p3]) ++ List.replicate (4 - (lg_sl ([.ref o, .int p1, .int p2, .int p3])).length) Slot.unset).toArray = ls at hl ⊢
  have hl : lv_has ls 4 [(0, .ref o), (1, .int p1), (2, .int p2), (3, .int p3)] := hl
  refine w_start (A0 := A) hP (fun H locs hP hS => ?_)
  refine lv_iload_n hx hb dX11_mask_0 rfl (lv_at hl 1 rfl) ?_
  have j1 := rgI p1
  have j2 := Int32.toInt_toInt64 p1
  refine lv_i2l (v := p1.toInt64) hx hb dX11_mask_1 (rfl) ?_
  refine lv_lconst (v := 0) hx hb dX11_mask_2 (by decide) ?_
  refine lv_ldc2 (v := 7) hx hb hown (hg _ kw_1365) dX11_mask_3 ?_
  have zl0 : (0 : Int64).toInt = 0 := by decide
  have zl7 : (7 : Int64).toInt = 7 := by decide
  refine cg0 (rn_S (As := [.long p1.toInt64, .long 0, .long 7]) (rest := []) (m_in l D Y Z H.size   p1.toInt64 0 7 ) ⟨hx, hb, hml, hown, hg⟩ lk_X11_99 ⟨CP.blind, CP.at nilP hKN (nilD (A := fun _ => True))⟩ ⟨⟨rfl, rfl⟩, ⟨Nat.le_of_ble_eq_true rfl, Nat.le_of_ble_eq_true rfl⟩, ⟨Nat.le_of_ble_eq_true rfl, Nat.le_of_ble_eq_true rfl⟩⟩ hl.1 rfl (Nat.le_of_ble_eq_true rfl) dX11_mask_6) hP hS hA (fun u3 H locs w4 hP hS => ?_)
  obtain ⟨hw6, hw7⟩ : (((0 : Int64).toInt ≤ p1.toInt64.toInt ∧ p1.toInt64.toInt ≤ (7 : Int64).toInt ∧ u3.toInt = 1) ∨ (¬ ((0 : Int64).toInt ≤ p1.toInt64.toInt ∧ p1.toInt64.toInt ≤ (7 : Int64).toInt) ∧ u3.toInt = 0)) ∧ (0 ≤ u3.toInt ∧ u3.toInt ≤ 1) := w4
  refine W.eq (g2 := F0 m 9 ls [.int u3]) rfl ?_
  rcases (show u3.toInt = 1 ∨ u3.toInt = 0 by omega) with c8 | c8
  · obtain rfl : u3 = 1 := i_is c8 (by decide)
    have zi1 : (1 : Int32).toInt = 1 := by decide
    refine W.eq (g2 := F0 m 9 ls [.int 1]) rfl ?_
    refine lv_if_eq (tgt := 36) hx hb dX11_mask_9 (by decide) (fun c9 => ?_) (fun c9 => ?_)
    · exact absurd c9 (by decide)
    refine lv_iload_n hx hb dX11_mask_12 rfl (lv_at hl 2 rfl) ?_
    have j10 := rgI p2
    have j11 := Int32.toInt_toInt64 p2
    refine lv_i2l (v := p2.toInt64) hx hb dX11_mask_13 (rfl) ?_
    refine lv_lconst (v := 0) hx hb dX11_mask_14 (by decide) ?_
    refine lv_ldc2 (v := 12) hx hb hown (hg _ kw_1399) dX11_mask_15 ?_
    have zl12 : (12 : Int64).toInt = 12 := by decide
    refine cg0 (rn_S (As := [.long p2.toInt64, .long 0, .long 12]) (rest := []) (m_in l D Y Z H.size   p2.toInt64 0 12 ) ⟨hx, hb, hml, hown, hg⟩ lk_X11_99 ⟨CP.blind, CP.at nilP hKN (nilD (A := fun _ => True))⟩ ⟨⟨rfl, rfl⟩, ⟨Nat.le_of_ble_eq_true rfl, Nat.le_of_ble_eq_true rfl⟩, ⟨Nat.le_of_ble_eq_true rfl, Nat.le_of_ble_eq_true rfl⟩⟩ hl.1 rfl (Nat.le_of_ble_eq_true rfl) dX11_mask_18) hP hS hA (fun u12 H locs w13 hP hS => ?_)
    obtain ⟨hw15, hw16⟩ : (((0 : Int64).toInt ≤ p2.toInt64.toInt ∧ p2.toInt64.toInt ≤ (12 : Int64).toInt ∧ u12.toInt = 1) ∨ (¬ ((0 : Int64).toInt ≤ p2.toInt64.toInt ∧ p2.toInt64.toInt ≤ (12 : Int64).toInt) ∧ u12.toInt = 0)) ∧ (0 ≤ u12.toInt ∧ u12.toInt ≤ 1) := w13
    refine W.eq (g2 := F0 m 21 ls [.int u12]) rfl ?_
    rcases (show u12.toInt = 1 ∨ u12.toInt = 0 by omega) with c17 | c17
    · obtain rfl : u12 = 1 := i_is c17 (by decide)
      refine W.eq (g2 := F0 m 21 ls [.int 1]) rfl ?_
      refine lv_if_eq (tgt := 36) hx hb dX11_mask_21 (by decide) (fun c18 => ?_) (fun c18 => ?_)
      · exact absurd c18 (by decide)
      refine lv_iload_n hx hb dX11_mask_24 rfl (lv_at hl 3 rfl) ?_
      have j19 := rgI p3
      have j20 := Int32.toInt_toInt64 p3
      refine lv_i2l (v := p3.toInt64) hx hb dX11_mask_25 (rfl) ?_
      refine lv_lconst (v := 0) hx hb dX11_mask_26 (by decide) ?_
      refine lv_ldc2 (v := 30000) hx hb hown (hg _ kw_1380) dX11_mask_27 ?_
      have zl30000 : (30000 : Int64).toInt = 30000 := by decide
      refine cg0 (rn_S (As := [.long p3.toInt64, .long 0, .long 30000]) (rest := []) (m_in l D Y Z H.size   p3.toInt64 0 30000 ) ⟨hx, hb, hml, hown, hg⟩ lk_X11_99 ⟨CP.blind, CP.at nilP hKN (nilD (A := fun _ => True))⟩ ⟨⟨rfl, rfl⟩, ⟨Nat.le_of_ble_eq_true rfl, Nat.le_of_ble_eq_true rfl⟩, ⟨Nat.le_of_ble_eq_true rfl, Nat.le_of_ble_eq_true rfl⟩⟩ hl.1 rfl (Nat.le_of_ble_eq_true rfl) dX11_mask_30) hP hS hA (fun u21 H locs w22 hP hS => ?_)
      obtain ⟨hw24, hw25⟩ : (((0 : Int64).toInt ≤ p3.toInt64.toInt ∧ p3.toInt64.toInt ≤ (30000 : Int64).toInt ∧ u21.toInt = 1) ∨ (¬ ((0 : Int64).toInt ≤ p3.toInt64.toInt ∧ p3.toInt64.toInt ≤ (30000 : Int64).toInt) ∧ u21.toInt = 0)) ∧ (0 ≤ u21.toInt ∧ u21.toInt ≤ 1) := w22
      refine W.eq (g2 := F0 m 33 ls [.int u21]) rfl ?_
      rcases (show u21.toInt = 1 ∨ u21.toInt = 0 by omega) with c26 | c26
      · obtain rfl : u21 = 1 := i_is c26 (by decide)
        refine W.eq (g2 := F0 m 33 ls [.int 1]) rfl ?_
        refine lv_if_ne (tgt := 38) hx hb dX11_mask_33 (by decide) (fun c27 => ?_) (fun c27 => ?_)
        rotate_left
        · exact absurd c27 (by decide)
        refine lv_aload_n hx hb dX11_mask_38 rfl (lv_at hl 0 rfl) ?_
        refine va_get (D := D) (ci := 11) (v := .ref (a 0)) (C := RX11) (T := TX11) (N := 49) hx hb hg inGX11 hown hKN.1 hP 0 rfl rfl 0 (by decide) (hg _ kw_1208) (fun _ h9 => h9) rfl dX11_mask_39 ?_
        refine lv_sipush (v := 7517) hx hb dX11_mask_42 (by decide) ?_
        refine lv_iconst (v := 2) hx hb dX11_mask_45 (by decide) ?_
        refine lv_iload_n hx hb dX11_mask_46 rfl (lv_at hl 1 rfl) ?_
        refine lv_imul hx hb dX11_mask_47 ?_
        refine lv_topi (fun v28 ev28 => ?_)
        have hv28 := i_mul (show (2 : Int32).toInt = 2 by decide) (Eq.refl p1.toInt) ev28 (by omega) (by omega)
        refine lv_iadd hx hb dX11_mask_48 ?_
        refine lv_topi (fun v29 ev29 => ?_)
        have hv29 := i_add (show (7517 : Int32).toInt = 7517 by decide) (Eq.refl v28.toInt) ev29 (by omega) (by omega)
        refine lv_iload_n hx hb dX11_mask_49 rfl (lv_at hl 2 rfl) ?_
        refine va_iast hx hb hKN.1 hP hD hS 1 0 rfl rfl (vp_in_iff.mpr ⟨by omega, by omega⟩) dX11_mask_50 (fun H locs hP hD hS => ?_)
        obtain ⟨f30, ef30, hP, hD⟩ : ∃ f30 : Nat → Int32, f30 = upd (F 0) v29.toNatClampNeg p2 ∧ va_P D vwCl (MW Y o a I J (vf_upd F 0 f30) G) H ∧ va_D A (MW Y o a I J (vf_upd F 0 f30) G) := ⟨_, rfl, hP, hD⟩
        have ct31 := clampI (x := v29) (by omega)
        have t31 : TO f30 := by rw [ef30]; exact TO_set hk0 (by unfold trow; omega) (by omega) (by omega) (by omega) (by omega)
        refine lv_aload_n hx hb dX11_mask_51 rfl (lv_at hl 0 rfl) ?_
        refine va_get (D := D) (ci := 11) (v := .ref (a 0)) (C := RX11) (T := TX11) (N := 49) hx hb hg inGX11 hown hKN.1 hP 0 rfl rfl 0 (by decide) (hg _ kw_1208) (fun _ h9 => h9) rfl dX11_mask_52 ?_
        refine lv_sipush (v := 7517) hx hb dX11_mask_55 (by decide) ?_
        refine lv_iconst (v := 2) hx hb dX11_mask_58 (by decide) ?_
        refine lv_iload_n hx hb dX11_mask_59 rfl (lv_at hl 1 rfl) ?_
        refine lv_imul hx hb dX11_mask_60 ?_
        refine lv_topi (fun v32 ev32 => ?_)
        have hv32 := i_mul (show (2 : Int32).toInt = 2 by decide) (Eq.refl p1.toInt) ev32 (by omega) (by omega)
        refine lv_iadd hx hb dX11_mask_61 ?_
        refine lv_topi (fun v33 ev33 => ?_)
        have hv33 := i_add (show (7517 : Int32).toInt = 7517 by decide) (Eq.refl v32.toInt) ev33 (by omega) (by omega)
        refine lv_iconst (v := 1) hx hb dX11_mask_62 (by decide) ?_
        refine lv_iadd hx hb dX11_mask_63 ?_
        refine lv_topi (fun v34 ev34 => ?_)
        have hv34 := i_add (Eq.refl v33.toInt) (show (1 : Int32).toInt = 1 by decide) ev34 (by omega) (by omega)
        refine lv_iload_n hx hb dX11_mask_64 rfl (lv_at hl 3 rfl) ?_
        refine va_iast hx hb hKN.1 hP hD hS 1 0 rfl rfl (vp_in_iff.mpr ⟨by omega, by omega⟩) dX11_mask_65 (fun H locs hP hD hS => ?_)
        obtain ⟨f35, ef35, hP, hD⟩ : ∃ f35 : Nat → Int32, f35 = upd f30 v34.toNatClampNeg p3 ∧ va_P D vwCl (MW Y o a I J (vf_upd F 0 f35) G) H ∧ va_D A (MW Y o a I J (vf_upd F 0 f35) G) := ⟨_, rfl, hP, hD⟩
        have ct36 := clampI (x := v34) (by omega)
        have t36 : TO f35 := by rw [ef35]; exact TO_set t31 (by unfold trow; omega) (by omega) (by omega) (by omega) (by omega)
        refine lv_iconst (v := 1) hx hb dX11_mask_66 (by decide) ?_
        refine W.widen (k := 0) (n := 0) (Nat.le_of_ble_eq_true rfl) (Nat.le_of_ble_eq_true rfl) ?_
        exact W.zret (v := 1) hx hb hr (by decide) (fun t ht hW => ⟨⟨(1, f35), rfl, ⟨(show (0 ≤ (1 : Int32).toInt ∧ (1 : Int32).toInt ≤ 1) by omega), (show (((1 : Int32).toInt = 1 ∧ 0 ≤ p1.toInt ∧ p1.toInt ≤ 7 ∧ 0 ≤ p2.toInt ∧ p2.toInt ≤ 12 ∧ 0 ≤ p3.toInt ∧ p3.toInt ≤ 30000) ∨ ((1 : Int32).toInt = 0 ∧ ¬ (0 ≤ p1.toInt ∧ p1.toInt ≤ 7 ∧ 0 ≤ p2.toInt ∧ p2.toInt ≤ 12 ∧ 0 ≤ p3.toInt ∧ p3.toInt ≤ 30000))) by omega), t36⟩, CB.mk ht hP hD⟩, hS.F ht⟩) hS.2.2 dX11_mask_67
      · obtain rfl : u21 = 0 := i_is c26 (by decide)
        have zi0 : (0 : Int32).toInt = 0 := by decide
        refine W.eq (g2 := F0 m 33 ls [.int 0]) rfl ?_
        refine lv_if_ne (tgt := 38) hx hb dX11_mask_33 (by decide) (fun c37 => ?_) (fun c37 => ?_)
        · exact absurd c37 (by decide)
        refine lv_iconst (v := 0) hx hb dX11_mask_36 (by decide) ?_
        refine W.widen (k := 0) (n := 0) (Nat.le_of_ble_eq_true rfl) (Nat.le_of_ble_eq_true rfl) ?_
        exact W.zret (v := 0) hx hb hr (by decide) (fun t ht hW => ⟨⟨(0, (F 0)), rfl, ⟨(show (0 ≤ (0 : Int32).toInt ∧ (0 : Int32).toInt ≤ 1) by omega), (show (((0 : Int32).toInt = 1 ∧ 0 ≤ p1.toInt ∧ p1.toInt ≤ 7 ∧ 0 ≤ p2.toInt ∧ p2.toInt ≤ 12 ∧ 0 ≤ p3.toInt ∧ p3.toInt ≤ 30000) ∨ ((0 : Int32).toInt = 0 ∧ ¬ (0 ≤ p1.toInt ∧ p1.toInt ≤ 7 ∧ 0 ≤ p2.toInt ∧ p2.toInt ≤ 12 ∧ 0 ≤ p3.toInt ∧ p3.toInt ≤ 30000))) by omega), hk0⟩, CB.mk ht hP hD⟩, hS.F ht⟩) hS.2.2 dX11_mask_37
    · obtain rfl : u12 = 0 := i_is c17 (by decide)
      have zi0 : (0 : Int32).toInt = 0 := by decide
      refine W.eq (g2 := F0 m 21 ls [.int 0]) rfl ?_
      refine lv_if_eq (tgt := 36) hx hb dX11_mask_21 (by decide) (fun c38 => ?_) (fun c38 => ?_)
      rotate_left
      · exact absurd c38 (by decide)
      refine lv_iconst (v := 0) hx hb dX11_mask_36 (by decide) ?_
      refine W.widen (k := 0) (n := 0) (Nat.le_of_ble_eq_true rfl) (Nat.le_of_ble_eq_true rfl) ?_
      exact W.zret (v := 0) hx hb hr (by decide) (fun t ht hW => ⟨⟨(0, (F 0)), rfl, ⟨(show (0 ≤ (0 : Int32).toInt ∧ (0 : Int32).toInt ≤ 1) by omega), (show (((0 : Int32).toInt = 1 ∧ 0 ≤ p1.toInt ∧ p1.toInt ≤ 7 ∧ 0 ≤ p2.toInt ∧ p2.toInt ≤ 12 ∧ 0 ≤ p3.toInt ∧ p3.toInt ≤ 30000) ∨ ((0 : Int32).toInt = 0 ∧ ¬ (0 ≤ p1.toInt ∧ p1.toInt ≤ 7 ∧ 0 ≤ p2.toInt ∧ p2.toInt ≤ 12 ∧ 0 ≤ p3.toInt ∧ p3.toInt ≤ 30000))) by omega), hk0⟩, CB.mk ht hP hD⟩, hS.F ht⟩) hS.2.2 dX11_mask_37
  · obtain rfl : u3 = 0 := i_is c8 (by decide)
    have zi0 : (0 : Int32).toInt = 0 := by decide
    refine W.eq (g2 := F0 m 9 ls [.int 0]) rfl ?_
    refine lv_if_eq (tgt := 36) hx hb dX11_mask_9 (by decide) (fun c39 => ?_) (fun c39 => ?_)
    rotate_left
    · exact absurd c39 (by decide)
    refine lv_iconst (v := 0) hx hb dX11_mask_36 (by decide) ?_
    refine W.widen (k := 0) (n := 0) (Nat.le_of_ble_eq_true rfl) (Nat.le_of_ble_eq_true rfl) ?_
    exact W.zret (v := 0) hx hb hr (by decide) (fun t ht hW => ⟨⟨(0, (F 0)), rfl, ⟨(show (0 ≤ (0 : Int32).toInt ∧ (0 : Int32).toInt ≤ 1) by omega), (show (((0 : Int32).toInt = 1 ∧ 0 ≤ p1.toInt ∧ p1.toInt ≤ 7 ∧ 0 ≤ p2.toInt ∧ p2.toInt ≤ 12 ∧ 0 ≤ p3.toInt ∧ p3.toInt ≤ 30000) ∨ ((0 : Int32).toInt = 0 ∧ ¬ (0 ≤ p1.toInt ∧ p1.toInt ≤ 7 ∧ 0 ≤ p2.toInt ∧ p2.toInt ≤ 12 ∧ 0 ≤ p3.toInt ∧ p3.toInt ≤ 30000))) by omega), hk0⟩, CB.mk ht hP hD⟩, hS.F ht⟩) hS.2.2 dX11_mask_37
