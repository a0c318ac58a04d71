set_option maxHeartbeats 4000000 in
set_option maxRecDepth 100000 in
theorem x_X10_mask (l : Launch) (D : va_G) (Y : Nat → ClassId) (Z : Nat → Nat) (sz : Nat) (ws : va_W) (T : RT) (g : GN) (q : GQ)  (p0 : Nat) (p1 : Int32) (p2 : Int32) (p3 : Int32) (hT : TW Y Z T g q ws) (ht0 : T p0 = (1, 0, 0)) : Met l yX10_mask (.code yX10_mask cX10_mask 4 (some .boolean) :: GW) ({ frames := 1, cells := 0, slots := 0, locals := 22 }) (va_Pc [.ref p0, .int p1, .int p2, .int p3] (CPC D Y Z ws sz)) (QG (S := Int32 × va_W) (fun u => some (.int u.1)) (fun u => TW Y Z T g q u.2 ∧ KF 6 T ws u.2 ∧ (0 ≤ u.1.toInt ∧ u.1.toInt ≤ 1)) (fun u => CB D u.2 (va_A ws sz)) (va_A ws sz)) 0 0 (va_A ws sz) := by
  refine Met.ofW (cc := cX10_mask) (maxL := 4) (ret := (some .boolean)) (by decide) rfl ?_
  intro p e s m args below meth c s₁ B hml hv
  obtain ⟨rfl, ⟨hsz, hP, hKN, hD0⟩, hSZ⟩ := hv
  have hx := B.exec
  have hb := B.bytes
  have hr := B.returns
  have hts := atoms_spec (ws := .code yX10_mask cX10_mask 4 (some .boolean) :: GW) B.pre
  have hg : ∀ w ∈ GW, w.before _ s = true := fun w h => hts w (List.mem_cons_of_mem _ h)
  have hown : s.vm.findClass RX10 = some m.cls := findClass_of_methodNamed B.named
  have hlocks := B.notSynchronized
  subst hsz
  have hD := hD0.self (sz := s.heap.size)
  generalize hAe : va_A ws s.heap.size = A at hD hSZ ⊢
  have hA : ∀ q : Nat, s.heap.size ≤ q → A q := fun q h => by rw [← hAe]; exact Or.inr h
  clear hAe hD0 hts B
  have hl := lv_entry ([.ref p0, .int p1, .int p2, .int p3]) (n := 4) (Nat.le_of_ble_eq_true rfl)
  rw [lg_entry_eq]
  generalize (lg_sl ([.ref p0, .int p1, .int p2, .int p3]) ++ List.replicate (4 - (lg_sl ([.ref p0, .int p1, .int p2, .int p3])).length) Slot.unset).toArray = ls at hl ⊢
  have hl : lv_has ls 4 [(0, .ref p0), (1, .int p1), (2, .int p2), (3, .int p3)] := hl
  refine w_start (A0 := A) hP (fun H locs hP hS => ?_)
  refine lv_iload_n hx hb dX10_mask_0 rfl (lv_at hl 1 rfl) ?_
  refine lv_iconst (v := 0) hx hb dX10_mask_1 (by decide) ?_
  refine lv_bipush (v := 7) hx hb dX10_mask_2 (by decide) ?_
  have zi0 : (0 : Int32).toInt = 0 := by decide
  have zi7 : (7 : Int32).toInt = 7 := by decide
  refine cg0 (rn_S (As := [.int p1, .int 0, .int 7]) (rest := []) (x_X10_isWithin l D Y Z H.size p1 0 7) ⟨hx, hb, hml, hown, hg⟩ lk_X10_100 ⟨CP.blind, CP.at nilP hKN (nilD (A := fun _ => True))⟩ ⟨⟨rfl, rfl⟩, ⟨Nat.le_of_ble_eq_true rfl, Nat.le_of_ble_eq_true rfl⟩, ⟨(Nat.le_of_ble_eq_true rfl), (Nat.le_of_ble_eq_true rfl)⟩⟩ hl.1 rfl (Nat.le_of_ble_eq_true rfl) dX10_mask_4) hP hS hA (fun u1 H locs hw2 hP hS => ?_)
  obtain ⟨hw4, hw5⟩ : (((0 : Int32).toInt ≤ p1.toInt ∧ p1.toInt ≤ (7 : Int32).toInt ∧ u1.toInt = 1) ∨ (¬ ((0 : Int32).toInt ≤ p1.toInt ∧ p1.toInt ≤ (7 : Int32).toInt) ∧ u1.toInt = 0)) ∧ (0 ≤ u1.toInt ∧ u1.toInt ≤ 1) := hw2
  refine W.eq (g2 := F0 m 7 ls [.int u1]) rfl ?_
  rcases (show u1.toInt = 1 ∨ u1.toInt = 0 by omega) with c6 | c6
  · obtain rfl : u1 = 1 := i_is c6 (by decide)
    have zi1 : (1 : Int32).toInt = 1 := by decide
    refine W.eq (g2 := F0 m 7 ls [.int 1]) rfl ?_
    refine lv_if_eq (tgt := 31) hx hb dX10_mask_7 (by decide) (fun c7 => ?_) (fun c7 => ?_)
    · exact absurd c7 (by decide)
    refine lv_iload_n hx hb dX10_mask_10 rfl (lv_at hl 2 rfl) ?_
    refine lv_iconst (v := 0) hx hb dX10_mask_11 (by decide) ?_
    refine lv_bipush (v := 12) hx hb dX10_mask_12 (by decide) ?_
    have zi12 : (12 : Int32).toInt = 12 := by decide
    refine cg0 (rn_S (As := [.int p2, .int 0, .int 12]) (rest := []) (x_X10_isWithin l D Y Z H.size p2 0 12) ⟨hx, hb, hml, hown, hg⟩ lk_X10_100 ⟨CP.blind, CP.at nilP hKN (nilD (A := fun _ => True))⟩ ⟨⟨rfl, rfl⟩, ⟨Nat.le_of_ble_eq_true rfl, Nat.le_of_ble_eq_true rfl⟩, ⟨(Nat.le_of_ble_eq_true rfl), (Nat.le_of_ble_eq_true rfl)⟩⟩ hl.1 rfl (Nat.le_of_ble_eq_true rfl) dX10_mask_14) hP hS hA (fun u8 H locs hw9 hP hS => ?_)
    obtain ⟨hw11, hw12⟩ : (((0 : Int32).toInt ≤ p2.toInt ∧ p2.toInt ≤ (12 : Int32).toInt ∧ u8.toInt = 1) ∨ (¬ ((0 : Int32).toInt ≤ p2.toInt ∧ p2.toInt ≤ (12 : Int32).toInt) ∧ u8.toInt = 0)) ∧ (0 ≤ u8.toInt ∧ u8.toInt ≤ 1) := hw9
    refine W.eq (g2 := F0 m 17 ls [.int u8]) rfl ?_
    rcases (show u8.toInt = 1 ∨ u8.toInt = 0 by omega) with c13 | c13
    · obtain rfl : u8 = 1 := i_is c13 (by decide)
      refine W.eq (g2 := F0 m 17 ls [.int 1]) rfl ?_
      refine lv_if_eq (tgt := 31) hx hb dX10_mask_17 (by decide) (fun c14 => ?_) (fun c14 => ?_)
      · exact absurd c14 (by decide)
      refine lv_iload_n hx hb dX10_mask_20 rfl (lv_at hl 3 rfl) ?_
      refine lv_iconst (v := 0) hx hb dX10_mask_21 (by decide) ?_
      refine lv_sipush (v := 30000) hx hb dX10_mask_22 (by decide) ?_
      have zi30000 : (30000 : Int32).toInt = 30000 := by decide
      refine cg0 (rn_S (As := [.int p3, .int 0, .int 30000]) (rest := []) (x_X10_isWithin l D Y Z H.size p3 0 30000) ⟨hx, hb, hml, hown, hg⟩ lk_X10_100 ⟨CP.blind, CP.at nilP hKN (nilD (A := fun _ => True))⟩ ⟨⟨rfl, rfl⟩, ⟨Nat.le_of_ble_eq_true rfl, Nat.le_of_ble_eq_true rfl⟩, ⟨(Nat.le_of_ble_eq_true rfl), (Nat.le_of_ble_eq_true rfl)⟩⟩ hl.1 rfl (Nat.le_of_ble_eq_true rfl) dX10_mask_25) hP hS hA (fun u15 H locs hw16 hP hS => ?_)
      obtain ⟨hw18, hw19⟩ : (((0 : Int32).toInt ≤ p3.toInt ∧ p3.toInt ≤ (30000 : Int32).toInt ∧ u15.toInt = 1) ∨ (¬ ((0 : Int32).toInt ≤ p3.toInt ∧ p3.toInt ≤ (30000 : Int32).toInt) ∧ u15.toInt = 0)) ∧ (0 ≤ u15.toInt ∧ u15.toInt ≤ 1) := hw16
      refine W.eq (g2 := F0 m 28 ls [.int u15]) rfl ?_
      rcases (show u15.toInt = 1 ∨ u15.toInt = 0 by omega) with c20 | c20
      · obtain rfl : u15 = 1 := i_is c20 (by decide)
        refine W.eq (g2 := F0 m 28 ls [.int 1]) rfl ?_
        refine lv_if_ne (tgt := 33) hx hb dX10_mask_28 (by decide) (fun c21 => ?_) (fun c21 => ?_)
        rotate_left
        · exact absurd c21 (by decide)
        refine lv_aload_n hx hb dX10_mask_33 rfl (lv_at hl 0 rfl) ?_
        obtain ⟨p63, _, hk64, a22, a23, a24, a25, a26, x27, x28, x29, a30, a31, a32, a33, a34, a35, a36, a37, a38, x39, a40, a41, rfl, h42, h43, h44, h45, h46, h47, h48, h49, h50, h51, h52, h53, h54, h55, h56, h57, h58, h59, h60, h61, h62⟩ := op1 hT ht0
        refine va_get (D := D) (ci := 10) (v := .ref a22) (C := RX10) (T := TX10) (N := 20) hx hb hg inGX10 hown hKN.1 hP p63 hk64 rfl 0 (by decide) (hg _ kw_349) (fun _ h9 => h9) rfl dX10_mask_34 ?_
        obtain ⟨p99, _, hk100, x65, a66, x67, a68, x69, a70, a71, x72, a73, a74, x75, a76, x77, rfl, h78, h79, h80, h81, h82, h83, h84, h85, h86, h87, h88, h89, h90, h91, h92, h93, h94, h95, h96, h97, h98⟩ := op2 hT h42
        refine va_getN (D := D) (ci := 6) (v := .ref a73) (C := RX6) (T := TX6) (N := 13) hx hb hg inGX6 hown hKN.1 hP p99 hk100 rfl 8 (by decide) (va_Nw.use rfl (hKN.2.1 _ kn_58 rfl)) (fun _ h9 => h9) rfl dX10_mask_37 ?_
        refine lv_iload_n hx hb dX10_mask_40 rfl (lv_at hl 1 rfl) ?_
        refine lv_iload_n hx hb dX10_mask_41 rfl (lv_at hl 2 rfl) ?_
        refine tr_st12 hx hb hKN hP hD hS hT h93 (vp_in_iff.mpr ⟨by omega, by omega⟩) dX10_mask_42 (fun w101 H locs hP hD hS hT kp102 => ?_)
        have ke103 : KF 6 T ws w101 := KF.tr KF.rf (KF.kp kp102 h93 (by decide))
        have hk104 := kp102 _ _ hk64 (rne ht0 h93 (by decide))
        have hk105 := kp102 _ _ hk100 (rne h42 h93 (by decide))
        refine lv_aload_n hx hb dX10_mask_43 rfl (lv_at hl 0 rfl) ?_
        refine va_get (D := D) (ci := 10) (v := .ref a22) (C := RX10) (T := TX10) (N := 20) hx hb hg inGX10 hown hKN.1 hP p63 hk104 rfl 0 (by decide) (hg _ kw_349) (fun _ h9 => h9) rfl dX10_mask_44 ?_
        refine va_getN (D := D) (ci := 6) (v := .ref a74) (C := RX6) (T := TX6) (N := 13) hx hb hg inGX6 hown hKN.1 hP p99 hk105 rfl 9 (by decide) (va_Nw.use rfl (hKN.2.1 _ kn_60 rfl)) (fun _ h9 => h9) rfl dX10_mask_47 ?_
        refine lv_iload_n hx hb dX10_mask_50 rfl (lv_at hl 1 rfl) ?_
        refine lv_iload_n hx hb dX10_mask_51 rfl (lv_at hl 3 rfl) ?_
        refine tr_st12 hx hb hKN hP hD hS hT h94 (vp_in_iff.mpr ⟨by omega, by omega⟩) dX10_mask_52 (fun w106 H locs hP hD hS hT kp107 => ?_)
        have ke108 : KF 6 T ws w106 := KF.tr ke103 (KF.kp kp107 h94 (by decide))
        have hk109 := kp107 _ _ hk104 (rne ht0 h94 (by decide))
        have hk110 := kp107 _ _ hk105 (rne h42 h94 (by decide))
        refine lv_aload_n hx hb dX10_mask_53 rfl (lv_at hl 0 rfl) ?_
        refine lv_dup hx hb dX10_mask_54 rfl ?_
        refine va_get (D := D) (ci := 10) (v := .int x39) (C := RX10) (T := TX10) (N := 20) hx hb hg inGX10 hown hKN.1 hP p63 hk109 rfl 17 (by decide) (hg _ kw_366) (fun _ h9 => h9) rfl dX10_mask_55 ?_
        refine lv_iconst (v := 1) hx hb dX10_mask_58 (by decide) ?_
        refine lv_iadd hx hb dX10_mask_59 ?_
        refine lv_topi (fun v111 ev111 => ?_)
        refine va_put (D := D) (ci := 10) (v := .int v111) (ty := .int) (C := RX10) (T := TX10) (N := 20) hx hb hg inGX10 tyX10 tyX10_ok nmX10 hown hKN.1 hP hD hS p63 hk109 rfl 17 (by decide) (hg _ kw_366) (fun _ h9 => h9) rfl (by decide +kernel) rfl rfl (Nat.le_of_ble_eq_true rfl) dX10_mask_60 (fun H locs hP hD2 hS => ?_)
        obtain ⟨w112, hP, hD, hT, hk114, kp113⟩ : ∃ wz, va_P D vwCl wz H ∧ va_D A wz ∧ TW Y Z T g q wz ∧ wz[p63]? = some (p0, .inr (10, (.ref a22 :: .ref a23 :: .ref a24 :: .ref a25 :: .ref a26 :: .int x27 :: .int x28 :: .int x29 :: .ref a30 :: .ref a31 :: .ref a32 :: .ref a33 :: .ref a34 :: .ref a35 :: .ref a36 :: .ref a37 :: .ref a38 :: .int v111 :: .ref a40 :: .ref a41 :: []))) ∧ Kp p0 w106 wz := ⟨_, hP, hD2, st1 hT hD hk109 ht0 ⟨a22, a23, a24, a25, a26, x27, x28, x29, a30, a31, a32, a33, a34, a35, a36, a37, a38, v111, a40, a41, rfl, h42, h43, h44, h45, h46, h47, h48, by omega, by omega, by omega, h52, h53, h54, h55, h56, h57, h58, h59, h60, h61, h62⟩, sw_eq hk109, sw_kp hk109⟩
        have ke115 : KF 6 T ws w112 := KF.tr ke108 (KF.kp kp113 ht0 (by decide))
        have hk116 := kp113 _ _ hk110 (rne h42 ht0 (by decide))
        refine lv_iconst (v := 1) hx hb dX10_mask_63 (by decide) ?_
        refine W.widen (k := 0) (n := 0) (Nat.le_of_ble_eq_true rfl) (Nat.le_of_ble_eq_true rfl) ?_
        exact W.zret (v := 1) hx hb hr (by decide) (fun t ht hW => ⟨⟨((1), w112), rfl, ⟨hT, ke115, (show (0 ≤ (1 : Int32).toInt ∧ (1 : Int32).toInt ≤ 1) by omega)⟩, CB.mk ht hP hD⟩, hS.F ht⟩) hS.2.2 dX10_mask_64
      · obtain rfl : u15 = 0 := i_is c20 (by decide)
        refine W.eq (g2 := F0 m 28 ls [.int 0]) rfl ?_
        refine lv_if_ne (tgt := 33) hx hb dX10_mask_28 (by decide) (fun c117 => ?_) (fun c117 => ?_)
        · exact absurd c117 (by decide)
        refine lv_iconst (v := 0) hx hb dX10_mask_31 (by decide) ?_
        refine W.widen (k := 0) (n := 0) (Nat.le_of_ble_eq_true rfl) (Nat.le_of_ble_eq_true rfl) ?_
        exact W.zret (v := 0) hx hb hr (by decide) (fun t ht hW => ⟨⟨((0), ws), rfl, ⟨hT, KF.rf, (show (0 ≤ (0 : Int32).toInt ∧ (0 : Int32).toInt ≤ 1) by omega)⟩, CB.mk ht hP hD⟩, hS.F ht⟩) hS.2.2 dX10_mask_32
    · obtain rfl : u8 = 0 := i_is c13 (by decide)
      refine W.eq (g2 := F0 m 17 ls [.int 0]) rfl ?_
      refine lv_if_eq (tgt := 31) hx hb dX10_mask_17 (by decide) (fun c118 => ?_) (fun c118 => ?_)
      rotate_left
      · exact absurd c118 (by decide)
      refine lv_iconst (v := 0) hx hb dX10_mask_31 (by decide) ?_
      refine W.widen (k := 0) (n := 0) (Nat.le_of_ble_eq_true rfl) (Nat.le_of_ble_eq_true rfl) ?_
      exact W.zret (v := 0) hx hb hr (by decide) (fun t ht hW => ⟨⟨((0), ws), rfl, ⟨hT, KF.rf, (show (0 ≤ (0 : Int32).toInt ∧ (0 : Int32).toInt ≤ 1) by omega)⟩, CB.mk ht hP hD⟩, hS.F ht⟩) hS.2.2 dX10_mask_32
  · obtain rfl : u1 = 0 := i_is c6 (by decide)
    refine W.eq (g2 := F0 m 7 ls [.int 0]) rfl ?_
    refine lv_if_eq (tgt := 31) hx hb dX10_mask_7 (by decide) (fun c119 => ?_) (fun c119 => ?_)
    rotate_left
    · exact absurd c119 (by decide)
    refine lv_iconst (v := 0) hx hb dX10_mask_31 (by decide) ?_
    refine W.widen (k := 0) (n := 0) (Nat.le_of_ble_eq_true rfl) (Nat.le_of_ble_eq_true rfl) ?_
    exact W.zret (v := 0) hx hb hr (by decide) (fun t ht hW => ⟨⟨((0), ws), rfl, ⟨hT, KF.rf, (show (0 ≤ (0 : Int32).toInt ∧ (0 : Int32).toInt ≤ 1) by omega)⟩, CB.mk ht hP hD⟩, hS.F ht⟩) hS.2.2 dX10_mask_32
set_option maxHeartbeats 4000000 in
set_option maxRecDepth 100000 in
theorem x_X10_at (l : Launch) (D : va_G) (Y : Nat → ClassId) (Z : Nat → Nat) (sz : Nat) (ws : va_W) (T : RT) (g : GN) (q : GQ)  (p0 : Nat) (p1 : Int32) (p2 : Int32) (p3 : Int32) (hT : TW Y Z T g q ws) (ht0 : T p0 = (1, 0, 0)) : Met l yX10_at (.code yX10_at cX10_at 4 (some .int) :: GW) ({ frames := 4, cells := 0, slots := 0, locals := 101 }) (va_Pc [.ref p0, .int p1, .int p2, .int p3] (CPC D Y Z ws sz)) (QG (S := Int32 × va_W) (fun u => some (.int u.1)) (fun u => TW Y Z T g q u.2 ∧ KF 1 T ws u.2 ∧ KF 6 T ws u.2) (fun u => CB D u.2 (va_A ws sz)) (va_A ws sz)) 0 0 (va_A ws sz) := by
  refine Met.ofW (cc := cX10_at) (maxL := 4) (ret := (some .int)) (by decide) rfl ?_
  intro p e s m args below meth c s₁ B hml hv
  obtain ⟨rfl, ⟨hsz, hP, hKN, hD0⟩, hSZ⟩ := hv
  have hx := B.exec
  have hb := B.bytes
  have hr := B.returns
  have hts := atoms_spec (ws := .code yX10_at cX10_at 4 (some .int) :: GW) B.pre
  have hg : ∀ w ∈ GW, w.before _ s = true := fun w h => hts w (List.mem_cons_of_mem _ h)
  have hown : s.vm.findClass RX10 = some m.cls := findClass_of_methodNamed B.named
  have hlocks := B.notSynchronized
  subst hsz
  have hD := hD0.self (sz := s.heap.size)
  generalize hAe : va_A ws s.heap.size = A at hD hSZ ⊢
  have hA : ∀ q : Nat, s.heap.size ≤ q → A q := fun q h => by rw [← hAe]; exact Or.inr h
  clear hAe hD0 hts B
  have hl := lv_entry ([.ref p0, .int p1, .int p2, .int p3]) (n := 4) (Nat.le_of_ble_eq_true rfl)
  rw [lg_entry_eq]
  generalize (lg_sl ([.ref p0, .int p1, .int p2, .int p3]) ++ List.replicate (4 - (lg_sl ([.ref p0, .int p1, .int p2, .int p3])).length) Slot.unset).toArray = ls at hl ⊢
  have hl : lv_has ls 4 [(0, .ref p0), (1, .int p1), (2, .int p2), (3, .int p3)] := hl
  refine w_start (A0 := A) hP (fun H locs hP hS => ?_)
  refine lv_aload_n hx hb dX10_at_0 rfl (lv_at hl 0 rfl) ?_
  refine lv_iload_n hx hb dX10_at_1 rfl (lv_at hl 1 rfl) ?_
  obtain ⟨p42, _, hk43, a1, a2, a3, a4, a5, x6, x7, x8, a9, a10, a11, a12, a13, a14, a15, a16, a17, x18, a19, a20, rfl, h21, h22, h23, h24, h25, h26, h27, h28, h29, h30, h31, h32, h33, h34, h35, h36, h37, h38, h39, h40, h41⟩ := op1 hT ht0
  refine cga (rn_V (As := [.int p1]) (rest := []) (b := p0) (x_X10_isStar l D Y Z H.size ws T g q p0 p1 hT ht0) ⟨hx, hb, hml, hown, hg⟩ lk_X10_137 ⟨CPC.blind, va_recv hKN.1 hP (ci := 10) (q0 := p42) rfl hk43, CPC.at hP hKN hD hSZ hS hA⟩ ⟨⟨rfl, rfl⟩, ⟨Nat.le_of_ble_eq_true rfl, Nat.le_of_ble_eq_true rfl⟩, ⟨(Nat.le_of_ble_eq_true rfl), (Nat.le_of_ble_eq_true rfl)⟩⟩ hl.1 rfl (Nat.le_of_ble_eq_true rfl) dX10_at_2) hP hD hS hA (fun u44 H locs hw45 hP hD hS => ?_)
  obtain ⟨hw47, hw48⟩ : (0 ≤ u44.toInt ∧ u44.toInt ≤ 1) ∧ (u44.toInt = 1 → (0 ≤ p1.toInt ∧ p1.toInt ≤ 11)) := hw45
  refine W.eq (g2 := F0 m 5 ls [.int u44]) rfl ?_
  rcases (show u44.toInt = 1 ∨ u44.toInt = 0 by omega) with c49 | c49
  · obtain rfl : u44 = 1 := i_is c49 (by decide)
    have zi1 : (1 : Int32).toInt = 1 := by decide
    replace hw48 := hw48 (by decide)
    refine W.eq (g2 := F0 m 5 ls [.int 1]) rfl ?_
    refine lv_if_eq (tgt := 22) hx hb dX10_at_5 (by decide) (fun c50 => ?_) (fun c50 => ?_)
    · exact absurd c50 (by decide)
    refine lv_iload_n hx hb dX10_at_8 rfl (lv_at hl 2 rfl) ?_
    refine cg0 (rn_S (As := [.int p2]) (rest := []) (x_X10_isHour l D Y Z H.size p2) ⟨hx, hb, hml, hown, hg⟩ lk_X10_113 ⟨CP.blind, CP.at nilP hKN (nilD (A := fun _ => True))⟩ ⟨⟨rfl, rfl⟩, ⟨Nat.le_of_ble_eq_true rfl, Nat.le_of_ble_eq_true rfl⟩, ⟨(Nat.le_of_ble_eq_true rfl), (Nat.le_of_ble_eq_true rfl)⟩⟩ hl.1 rfl (Nat.le_of_ble_eq_true rfl) dX10_at_9) hP hS hA (fun u51 H locs hw52 hP hS => ?_)
    obtain ⟨hw54, hw55⟩ : ((0 ≤ p2.toInt ∧ p2.toInt ≤ 599 ∧ u51.toInt = 1) ∨ (¬ (0 ≤ p2.toInt ∧ p2.toInt ≤ 599) ∧ u51.toInt = 0)) ∧ (0 ≤ u51.toInt ∧ u51.toInt ≤ 1) := hw52
    refine W.eq (g2 := F0 m 12 ls [.int u51]) rfl ?_
    rcases (show u51.toInt = 1 ∨ u51.toInt = 0 by omega) with c56 | c56
    · obtain rfl : u51 = 1 := i_is c56 (by decide)
      refine W.eq (g2 := F0 m 12 ls [.int 1]) rfl ?_
      refine lv_if_eq (tgt := 22) hx hb dX10_at_12 (by decide) (fun c57 => ?_) (fun c57 => ?_)
      · exact absurd c57 (by decide)
      refine lv_iload_n hx hb dX10_at_15 rfl (lv_at hl 3 rfl) ?_
      refine cg0 (rn_S (As := [.int p3]) (rest := []) (x_X10_isWay l D Y Z H.size p3) ⟨hx, hb, hml, hown, hg⟩ lk_X10_140 ⟨CP.blind, CP.at nilP hKN (nilD (A := fun _ => True))⟩ ⟨⟨rfl, rfl⟩, ⟨Nat.le_of_ble_eq_true rfl, Nat.le_of_ble_eq_true rfl⟩, ⟨(Nat.le_of_ble_eq_true rfl), (Nat.le_of_ble_eq_true rfl)⟩⟩ hl.1 rfl (Nat.le_of_ble_eq_true rfl) dX10_at_16) hP hS hA (fun u58 H locs hw59 hP hS => ?_)
      obtain ⟨hw61, hw62⟩ : ((0 ≤ p3.toInt ∧ p3.toInt ≤ 5 ∧ u58.toInt = 1) ∨ (¬ (0 ≤ p3.toInt ∧ p3.toInt ≤ 5) ∧ u58.toInt = 0)) ∧ (0 ≤ u58.toInt ∧ u58.toInt ≤ 1) := hw59
      refine W.eq (g2 := F0 m 19 ls [.int u58]) rfl ?_
      rcases (show u58.toInt = 1 ∨ u58.toInt = 0 by omega) with c63 | c63
      · obtain rfl : u58 = 1 := i_is c63 (by decide)
        refine W.eq (g2 := F0 m 19 ls [.int 1]) rfl ?_
        refine lv_if_ne (tgt := 25) hx hb dX10_at_19 (by decide) (fun c64 => ?_) (fun c64 => ?_)
        rotate_left
        · exact absurd c64 (by decide)
        refine lv_aload_n hx hb dX10_at_25 rfl (lv_at hl 0 rfl) ?_
        refine va_get (D := D) (ci := 10) (v := .ref a11) (C := RX10) (T := TX10) (N := 20) hx hb hg inGX10 hown hKN.1 hP p42 hk43 rfl 10 (by decide) (hg _ kw_359) (fun _ h9 => h9) rfl dX10_at_26 ?_
        refine lv_aload_n hx hb dX10_at_29 rfl (lv_at hl 0 rfl) ?_
        refine va_get (D := D) (ci := 10) (v := .ref a1) (C := RX10) (T := TX10) (N := 20) hx hb hg inGX10 hown hKN.1 hP p42 hk43 rfl 0 (by decide) (hg _ kw_349) (fun _ h9 => h9) rfl dX10_at_30 ?_
        refine lv_iload_n hx hb dX10_at_33 rfl (lv_at hl 1 rfl) ?_
        refine lv_iload_n hx hb dX10_at_34 rfl (lv_at hl 3 rfl) ?_
        obtain ⟨p77, _, hk78, a65, a66, a67, x68, y69, y70, x71, y72, rfl, h73, h74, h75, h76⟩ := op9 hT h33
        refine cga (rn_NV (As := [.ref a1, .int p1, .int p3]) (rest := []) (b := a11) (x_X2_see l D Y Z H.size ws T g q 0 a11 a1 p1 p3 hT h33 h21) ⟨hx, hb, hml, hown, hg⟩ hKN lk_X10_143 ⟨CPC.blind, va_recv hKN.1 hP (ci := 2) (q0 := p77) rfl hk78, CPC.at hP hKN hD hSZ hS hA⟩ ⟨⟨rfl, rfl⟩, ⟨Nat.le_of_ble_eq_true rfl, Nat.le_of_ble_eq_true rfl⟩, ⟨(Nat.le_of_ble_eq_true rfl), (Nat.le_of_ble_eq_true rfl)⟩⟩ hl.1 rfl (Nat.le_of_ble_eq_true rfl) dX10_at_35) hP hD hS hA (fun u79 H locs hw80 hP hD hS => ?_)
        obtain ⟨hT, ke82, ke83⟩ : TW Y Z T g q u79 ∧ KF 1 T ws u79 ∧ KF 6 T ws u79 := hw80
        have hk84 := ke82 _ _ hk43 (show (T p0).1 = 1 by rw [ht0])
        have ke85 : KF 1 T ws u79 := KF.tr KF.rf ke82
        have ke86 : KF 6 T ws u79 := KF.tr KF.rf ke83
        refine W.eq (g2 := F0 m 38 ls []) rfl ?_
        refine lv_aload_n hx hb dX10_at_38 rfl (lv_at hl 0 rfl) ?_
        refine va_get (D := D) (ci := 10) (v := .ref a11) (C := RX10) (T := TX10) (N := 20) hx hb hg inGX10 hown hKN.1 hP p42 hk84 rfl 10 (by decide) (hg _ kw_359) (fun _ h9 => h9) rfl dX10_at_39 ?_
        obtain ⟨p99, _, hk100, a87, a88, a89, x90, y91, y92, x93, y94, rfl, h95, h96, h97, h98⟩ := op9 hT h33
        refine va_getN (D := D) (ci := 2) (v := .ref a87) (C := RX2) (T := TX2) (N := 8) hx hb hg inGX2 hown hKN.1 hP p99 hk100 rfl 0 (by decide) (va_Nw.use rfl (hKN.2.1 _ kn_235 rfl)) (fun _ h9 => h9) rfl dX10_at_42 ?_
        refine lv_iload_n hx hb dX10_at_45 rfl (lv_at hl 2 rfl) ?_
        refine tr_ld12 hx hb hKN hP hT h95 (vp_in_iff.mpr ⟨by omega, by omega⟩) dX10_at_46 (fun v101 => ?_)
        refine W.widen (k := 0) (n := 0) (Nat.le_of_ble_eq_true rfl) (Nat.le_of_ble_eq_true rfl) ?_
        exact W.iret (v := v101) hx hb hr (fun t ht hW => ⟨⟨(v101, u79), rfl, ⟨hT, ke85, ke86⟩, CB.mk ht hP hD⟩, hS.F ht⟩) hS.2.2 dX10_at_47
      · obtain rfl : u58 = 0 := i_is c63 (by decide)
        have zi0 : (0 : Int32).toInt = 0 := by decide
        refine W.eq (g2 := F0 m 19 ls [.int 0]) rfl ?_
        refine lv_if_ne (tgt := 25) hx hb dX10_at_19 (by decide) (fun c102 => ?_) (fun c102 => ?_)
        · exact absurd c102 (by decide)
        refine lv_ldc (v := (-200000)) hx hb hown (hg _ kw_473) dX10_at_22 ?_
        refine W.widen (k := 0) (n := 0) (Nat.le_of_ble_eq_true rfl) (Nat.le_of_ble_eq_true rfl) ?_
        have zim200000 : ((-200000) : Int32).toInt = -200000 := by decide
        exact W.iret (v := (-200000)) hx hb hr (fun t ht hW => ⟨⟨(((-200000)), ws), rfl, ⟨hT, KF.rf, KF.rf⟩, CB.mk ht hP hD⟩, hS.F ht⟩) hS.2.2 dX10_at_24
    · obtain rfl : u51 = 0 := i_is c56 (by decide)
      have zi0 : (0 : Int32).toInt = 0 := by decide
      refine W.eq (g2 := F0 m 12 ls [.int 0]) rfl ?_
      refine lv_if_eq (tgt := 22) hx hb dX10_at_12 (by decide) (fun c103 => ?_) (fun c103 => ?_)
      rotate_left
      · exact absurd c103 (by decide)
      refine lv_ldc (v := (-200000)) hx hb hown (hg _ kw_473) dX10_at_22 ?_
      refine W.widen (k := 0) (n := 0) (Nat.le_of_ble_eq_true rfl) (Nat.le_of_ble_eq_true rfl) ?_
      have zim200000 : ((-200000) : Int32).toInt = -200000 := by decide
      exact W.iret (v := (-200000)) hx hb hr (fun t ht hW => ⟨⟨(((-200000)), ws), rfl, ⟨hT, KF.rf, KF.rf⟩, CB.mk ht hP hD⟩, hS.F ht⟩) hS.2.2 dX10_at_24
  · obtain rfl : u44 = 0 := i_is c49 (by decide)
    have zi0 : (0 : Int32).toInt = 0 := by decide
    clear hw48
    refine W.eq (g2 := F0 m 5 ls [.int 0]) rfl ?_
    refine lv_if_eq (tgt := 22) hx hb dX10_at_5 (by decide) (fun c104 => ?_) (fun c104 => ?_)
    rotate_left
    · exact absurd c104 (by decide)
    refine lv_ldc (v := (-200000)) hx hb hown (hg _ kw_473) dX10_at_22 ?_
    refine W.widen (k := 0) (n := 0) (Nat.le_of_ble_eq_true rfl) (Nat.le_of_ble_eq_true rfl) ?_
    have zim200000 : ((-200000) : Int32).toInt = -200000 := by decide
    exact W.iret (v := (-200000)) hx hb hr (fun t ht hW => ⟨⟨(((-200000)), ws), rfl, ⟨hT, KF.rf, KF.rf⟩, CB.mk ht hP hD⟩, hS.F ht⟩) hS.2.2 dX10_at_24

