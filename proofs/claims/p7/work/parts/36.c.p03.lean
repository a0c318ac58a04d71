set_option maxHeartbeats 4000000 in
set_option maxRecDepth 100000 in
theorem x_X10_mask (l : Launch) (D : va_G) (Y : Nat → ClassId) (Z : Nat → Nat) (sz : Nat) (ws : va_W) (T : RT) (g : GN) (q : GQ)  (p0 : Nat) (p1 : Int32) (p2 : Int32) (p3 : Int32) (hT : TW Y Z T g q ws) (ht0 : T p0 = (1, 0, 0)) : Met l yX10_mask (.code yX10_mask cX10_mask 4 (some .boolean) :: GW) ({ frames := 1, cells := 0, slots := 0, locals := 22 }) (va_Pc [.ref p0, .int p1, .int p2, .int p3] (CPC D Y Z ws sz)) (QG (S := Int32 × va_W) (fun u => some (.int u.1)) (fun u => TW Y Z T g q u.2 ∧ KF 6 T ws u.2 ∧ (0 ≤ u.1.toInt ∧ u.1.toInt ≤ 1)) (fun u => CB D u.2 (va_A ws sz)) (va_A ws sz)) 0 0 (va_A ws sz) := by
  refine Met.ofW (cc := cX10_mask) (maxL := 4) (ret := (some .boolean)) (by decide) rfl ?_
  intro p e s m args below meth c s₁ B hml hv
  obtain ⟨rfl, ⟨hsz, hP, hKN, hD0⟩, hSZ⟩ := hv
  have hx := B.exec
  have hb := B.bytes
  have hr := B.returns
  have hts := atoms_spec (ws := .code yX10_mask cX10_mask 4 (some .boolean) :: GW) B.pre
  have hg : ∀ w ∈ GW, w.before _ s = true := fun w h => hts w (List.mem_cons_of_mem _ h)
  have hown : s.vm.findClass RX10 = some m.cls := findClass_of_methodNamed B.named
  have hlocks := B.notSynchronized
  subst hsz
  have hD := hD0.self (sz := s.heap.size)
  generalize hAe : va_A ws s.heap.size = A at hD hSZ ⊢
  have hA : ∀ q : Nat, s.heap.size ≤ q → A q := fun q h => by rw [← hAe]; exact Or.inr h
  clear hAe hD0 hts B
  have hl := lv_entry ([.ref p0, .int p1, .int p2, .int p3]) (n := 4) (Nat.le_of_ble_eq_true rfl)
  rw [lg_entry_eq]
  generalize (lg_sl ([.ref p0, .int p1, .int p2, .int p3]) ++ List.replicate (4 - (lg_sl ([.ref p0, .int p1, .int p2, .int p3])).length) Slot.unset).toArray = ls at hl ⊢
  have hl : lv_has ls 4 [(0, .ref p0), (1, .int p1), (2, .int p2), (3, .int p3)] := hl
  refine w_start (A0 := A) hP (fun H locs hP hS => ?_)
  refine lv_iload_n hx hb dX10_mask_0 rfl (lv_at hl 1 rfl) ?_
  refine lv_iconst (v := 0) hx hb dX10_mask_1 (by decide) ?_
  refine lv_bipush (v := 7) hx hb dX10_mask_2 (by decide) ?_
  have zi0 : (0 : Int32).toInt = 0 := by decide
  have zi7 : (7 : Int32).toInt = 7 := by decide
  refine cg0 (rn_S (As := [.int p1, .int 0, .int 7]) (rest := []) (x_X10_isWithin l D Y Z H.size p1 0 7) ⟨hx, hb, hml, hown, hg⟩ lk_X10_100 ⟨CP.blind, CP.at nilP hKN (nilD (A := fun _ => True))⟩ ⟨⟨rfl, rfl⟩, ⟨Nat.le_of_ble_eq_true rfl, Nat.le_of_ble_eq_true rfl⟩, ⟨(Nat.le_of_ble_eq_true rfl), (Nat.le_of_ble_eq_true rfl)⟩⟩ hl.1 rfl (Nat.le_of_ble_eq_true rfl) dX10_mask_4) hP hS hA (fun u1 H locs hw2 hP hS => ?_)
  obtain ⟨hw4, hw5⟩ : (((0 : Int32).toInt ≤ p1.toInt ∧ p1.toInt ≤ (7 : Int32).toInt ∧ u1.toInt = 1) ∨ (¬ ((0 : Int32).toInt ≤ p1.toInt ∧ p1.toInt ≤ (7 : Int32).toInt) ∧ u1.toInt = 0)) ∧ (0 ≤ u1.toInt ∧ u1.toInt ≤ 1) := hw2
  refine W.eq (g2 := F0 m 7 ls [.int u1]) rfl ?_
  rcases (show u1.toInt = 1 ∨ u1.toInt = 0 by omega) with c6 | c6
  · obtain rfl : u1 = 1 := i_is c6 (by decide)
    have zi1 : (1 : Int32).toInt = 1 := by decide
    refine W.eq (g2 := F0 m 7 ls [.int 1]) rfl ?_
    refine lv_if_eq (tgt := 31) hx hb dX10_mask_7 (by decide) (fun c7 => ?_) (fun c7 => ?_)
    · exact absurd c7 (by decide)
    refine lv_iload_n hx hb dX10_mask_10 rfl (lv_at hl 2 rfl) ?_
    refine lv_iconst (v := 0) hx hb dX10_mask_11 (by decide) ?_
    refine lv_bipush (v := 12) hx hb dX10_mask_12 (by decide) ?_
    have zi12 : (12 : Int32).toInt = 12 := by decide
    refine cg0 (rn_S (As := [.int p2, .int 0, .int 12]) (rest := []) (x_X10_isWithin l D Y Z H.size p2 0 12) ⟨hx, hb, hml, hown, hg⟩ lk_X10_100 ⟨CP.blind, CP.at nilP hKN (nilD (A := fun _ => True))⟩ ⟨⟨rfl, rfl⟩, ⟨Nat.le_of_ble_eq_true rfl, Nat.le_of_ble_eq_true rfl⟩, ⟨(Nat.le_of_ble_eq_true rfl), (Nat.le_of_ble_eq_true rfl)⟩⟩ hl.1 rfl (Nat.le_of_ble_eq_true rfl) dX10_mask_14) hP hS hA (fun u8 H locs hw9 hP hS => ?_)
    obtain ⟨hw11, hw12⟩ : (((0 : Int32).toInt ≤ p2.toInt ∧ p2.toInt ≤ (12 : Int32).toInt ∧ u8.toInt = 1) ∨ (¬ ((0 : Int32).toInt ≤ p2.toInt ∧ p2.toInt ≤ (12 : Int32).toInt) ∧ u8.toInt = 0)) ∧ (0 ≤ u8.toInt ∧ u8.toInt ≤ 1) := hw9
    refine W.eq (g2 := F0 m 17 ls [.int u8]) rfl ?_
    rcases (show u8.toInt = 1 ∨ u8.toInt = 0 by omega) with c13 | c13
    · obtain rfl : u8 = 1 := i_is c13 (by decide)
      refine W.eq (g2 := F0 m 17 ls [.int 1]) rfl ?_
      refine lv_if_eq (tgt := 31) hx hb dX10_mask_17 (by decide) (fun c14 => ?_) (fun c14 => ?_)
      · exact absurd c14 (by decide)
      refine lv_iload_n hx hb dX10_mask_20 rfl (lv_at hl 3 rfl) ?_
      refine lv_iconst (v := 0) hx hb dX10_mask_21 (by decide) ?_
      refine lv_sipush (v := 30000) hx hb dX10_mask_22 (by decide) ?_
      have zi30000 : (30000 : Int32).toInt = 30000 := by decide
      refine cg0 (rn_S (As := [.int p3, .int 0, .int 30000]) (rest := []) (x_X10_isWithin l D Y Z H.size p3 0 30000) ⟨hx, hb, hml, hown, hg⟩ lk_X10_100 ⟨CP.blind, CP.at nilP hKN (nilD (A := fun _ => True))⟩ ⟨⟨rfl, rfl⟩, ⟨Nat.le_of_ble_eq_true rfl, Nat.le_of_ble_eq_true rfl⟩, ⟨(Nat.le_of_ble_eq_true rfl), (Nat.le_of_ble_eq_true rfl)⟩⟩ hl.1 rfl (Nat.le_of_ble_eq_true rfl) dX10_mask_25) hP hS hA (fun u15 H locs hw16 hP hS => ?_)
      obtain ⟨hw18, hw19⟩ : (((0 : Int32).toInt ≤ p3.toInt ∧ p3.toInt ≤ (30000 : Int32).toInt ∧ u15.toInt = 1) ∨ (¬ ((0 : Int32).toInt ≤ p3.toInt ∧ p3.toInt ≤ (30000 : Int32).toInt) ∧ u15.toInt = 0)) ∧ (0 ≤ u15.toInt ∧ u15.toInt ≤ 1) := hw16
      refine W.eq (g2 := F0 m 28 ls [.int u15]) rfl ?_
      rcases (show u15.toInt = 1 ∨ u15.toInt = 0 by omega) with c20 | c20
      · obtain rfl : u15 = 1 := i_is c20 (by decide)
        refine W.eq (g2 := F0 m 28 ls [.int 1]) rfl ?_
        refine lv_if_ne (tgt := 33) hx hb dX10_mask_28 (by decide) (fun c21 => ?_) (fun c21 => ?_)
        rotate_left
        · exact absurd c21 (by decide)
        refine lv_aload_n hx hb dX10_mask_33 rfl (lv_at hl 0 rfl) ?_
        obtain ⟨p63, _, hk64, a22, a23, a24, a25, a26, x27, x28, x29, a30, a31, a32, a33, a34, a35, a36, a37, a38, x39, a40, a41, rfl, h42, h43, h44, h45, h46, h47, h48, h49, h50, h51, h52, h53, h54, h55, h56, h57, h58, h59, h60, h61, h62⟩ := op1 hT ht0
        refine va_get (D := D) (ci := 10) (v := .ref a22) (C := RX10) (T := TX10) (N := 20) hx hb hg inGX10 hown hKN.1 hP p63 hk64 rfl 0 (by decide) (hg _ kw_349) (fun _ h9 => h9) rfl dX10_mask_34 ?_
        obtain ⟨p99, _, hk100, x65, a66, x67, a68, x69, a70, a71, x72, a73, a74, x75, a76, x77, rfl, h78, h79, h80, h81, h82, h83, h84, h85, h86, h87, h88, h89, h90, h91, h92, h93, h94, h95, h96, h97, h98⟩ := op2 hT h42
        refine va_getN (D := D) (ci := 6) (v := .ref a73) (C := RX6) (T := TX6) (N := 13) hx hb hg inGX6 hown hKN.1 hP p99 hk100 rfl 8 (by decide) (va_Nw.use rfl (hKN.2.1 _ kn_58 rfl)) (fun _ h9 => h9) rfl dX10_mask_37 ?_
        refine lv_iload_n hx hb dX10_mask_40 rfl (lv_at hl 1 rfl) ?_
        refine lv_iload_n hx hb dX10_mask_41 rfl (lv_at hl 2 rfl) ?_
        refine tr_st12 hx hb hKN hP hD hS hT h93 (vp_in_iff.mpr ⟨by omega, by omega⟩) dX10_mask_42 (fun w101 H locs hP hD hS hT kp102 => ?_)
        have ke103 : KF 6 T ws w101 := KF.tr KF.rf (KF.kp kp102 h93 (by decide))
        have hk104 := kp102 _ _ hk64 (rne ht0 h93 (by decide))
        have hk105 := kp102 _ _ hk100 (rne h42 h93 (by decide))
        refine lv_aload_n hx hb dX10_mask_43 rfl (lv_at hl 0 rfl) ?_
        refine va_get (D := D) (ci := 10) (v := .ref a22) (C := RX10) (T := TX10) (N := 20) hx hb hg inGX10 hown hKN.1 hP p63 hk104 rfl 0 (by decide) (hg _ kw_349) (fun _ h9 => h9) rfl dX10_mask_44 ?_
        refine va_getN (D := D) (ci := 6) (v := .ref a74) (C := RX6) (T := TX6) (N := 13) hx hb hg inGX6 hown hKN.1 hP p99 hk105 rfl 9 (by decide) (va_Nw.use rfl (hKN.2.1 _ kn_60 rfl)) (fun _ h9 => h9) rfl dX10_mask_47 ?_
        refine lv_iload_n hx hb dX10_mask_50 rfl (lv_at hl 1 rfl) ?_
        refine lv_iload_n hx hb dX10_mask_51 rfl (lv_at hl 3 rfl) ?_
        refine tr_st12 hx hb hKN hP hD hS hT h94 (vp_in_iff.mpr ⟨by omega, by omega⟩) dX10_mask_52 (fun w106 H locs hP hD hS hT kp107 => ?_)
        have ke108 : KF 6 T ws w106 := KF.tr ke103 (KF.kp kp107 h94 (by decide))
        have hk109 := kp107 _ _ hk104 (rne ht0 h94 (by decide))
        have hk110 := kp107 _ _ hk105 (rne h42 h94 (by decide))
        refine lv_aload_n hx hb dX10_mask_53 rfl (lv_at hl 0 rfl) ?_
        refine lv_dup hx hb dX10_mask_54 rfl ?_
        refine va_get (D := D) (ci := 10) (v := .int x39) (C := RX10) (T := TX10) (N := 20) hx hb hg inGX10 hown hKN.1 hP p63 hk109 rfl 17 (by decide) (hg _ kw_366) (fun _ h9 => h9) rfl dX10_mask_55 ?_
        refine lv_iconst (v := 1) hx hb dX10_mask_58 (by decide) ?_
        refine lv_iadd hx hb dX10_mask_59 ?_
        refine lv_topi (fun v111 ev111 => ?_)
        refine va_put (D := D) (ci := 10) (v := .int v111) (ty := .int) (C := RX10) (T := TX10) (N := 20) hx hb hg inGX10 tyX10 tyX10_ok nmX10 hown hKN.1 hP hD hS p63 hk109 rfl 17 (by decide) (hg _ kw_366) (fun _ h9 => h9) rfl (by decide +kernel) rfl rfl (Nat.le_of_ble_eq_true rfl) dX10_mask_60 (fun H locs hP hD2 hS => ?_)
        obtain ⟨w112, hP, hD, hT, hk114, kp113⟩ : ∃ wz, va_P D vwCl wz H ∧ va_D A wz ∧ TW Y Z T g q wz ∧ wz[p63]? = some (p0, .inr (10, (.ref a22 :: .ref a23 :: .ref a24 :: .ref a25 :: .ref a26 :: .int x27 :: .int x28 :: .int x29 :: .ref a30 :: .ref a31 :: .ref a32 :: .ref a33 :: .ref a34 :: .ref a35 :: .ref a36 :: .ref a37 :: .ref a38 :: .int v111 :: .ref a40 :: .ref a41 :: []))) ∧ Kp p0 w106 wz := ⟨_, hP, hD2, st1 hT hD hk109 ht0 ⟨a22, a23, a24, a25, a26, x27, x28, x29, a30, a31, a32, a33, a34, a35, a36, a37, a38, v111, a40, a41, rfl, h42, h43, h44, h45, h46, h47, h48, by omega, by omega, by omega, h52, h53, h54, h55, h56, h57, h58, h59, h60, h61, h62⟩, sw_eq hk109, sw_kp hk109⟩
        have ke115 : KF 6 T ws w112 := KF.tr ke108 (KF.kp kp113 ht0 (by decide))
        have hk116 := kp113 _ _ hk110 (rne h42 ht0 (by decide))
        refine lv_iconst (v := 1) hx hb dX10_mask_63 (by decide) ?_
        refine W.widen (k := 0) (n := 0) (Nat.le_of_ble_eq_true rfl) (Nat.le_of_ble_eq_true rfl) ?_
        exact W.zret (v := 1) hx hb hr (by decide) (fun t ht hW => ⟨⟨((1), w112), rfl, ⟨hT, ke115, (show (0 ≤ (1 : Int32).toInt ∧ (1 : Int32).toInt ≤ 1) by omega)⟩, CB.mk ht hP hD⟩, hS.F ht⟩) hS.2.2 dX10_mask_64
      · obtain rfl : u15 = 0 := i_is c20 (by decide)
        refine W.eq (g2 := F0 m 28 ls [.int 0]) rfl ?_
        refine lv_if_ne (tgt := 33) hx hb dX10_mask_28 (by decide) (fun c117 => ?_) (fun c117 => ?_)
        · exact absurd c117 (by decide)
        refine lv_iconst (v := 0) hx hb dX10_mask_31 (by decide) ?_
        refine W.widen (k := 0) (n := 0) (Nat.le_of_ble_eq_true rfl) (Nat.le_of_ble_eq_true rfl) ?_
        exact W.zret (v := 0) hx hb hr (by decide) (fun t ht hW => ⟨⟨((0), ws), rfl, ⟨hT, KF.rf, (show (0 ≤ (0 : Int32).toInt ∧ (0 : Int32).toInt ≤ 1) by omega)⟩, CB.mk ht hP hD⟩, hS.F ht⟩) hS.2.2 dX10_mask_32
    · obtain rfl : u8 = 0 := i_is c13 (by decide)
      refine W.eq (g2 := F0 m 17 ls [.int 0]) rfl ?_
      refine lv_if_eq (tgt := 31) hx hb dX10_mask_17 (by decide) (fun c118 => ?_) (fun c118 => ?_)
      rotate_left
      · exact absurd c118 (by decide)
      refine lv_iconst (v := 0) hx hb dX10_mask_31 (by decide) ?_
      refine W.widen (k := 0) (n := 0) (Nat.le_of_ble_eq_true rfl) (Nat.le_of_ble_eq_true rfl) ?_
      exact W.zret (v := 0) hx hb hr (by decide) (fun t ht hW => ⟨⟨((0), ws), rfl, ⟨hT, KF.rf, (show (0 ≤ (0 : Int32).toInt ∧ (0 : Int32).toInt ≤ 1) by omega)⟩, CB.mk ht hP hD⟩, hS.F ht⟩) hS.2.2 dX10_mask_32
  · obtain rfl : u1 = 0 := i_is c6 (by decide)
    refine W.eq (g2 := F0 m 7 ls [.int 0]) rfl ?_
    refine lv_if_eq (tgt := 31) hx hb dX10_mask_7 (by decide) (fun c119 => ?_) (fun c119 => ?_)
    rotate_left
    · exact absurd c119 (by decide)
    refine lv_iconst (v := 0) hx hb dX10_mask_31 (by decide) ?_
    refine W.widen (k := 0) (n := 0) (Nat.le_of_ble_eq_true rfl) (Nat.le_of_ble_eq_true rfl) ?_
    exact W.zret (v := 0) hx hb hr (by decide) (fun t ht hW => ⟨⟨((0), ws), rfl, ⟨hT, KF.rf, (show (0 ≤ (0 : Int32).toInt ∧ (0 : Int32).toInt ≤ 1) by omega)⟩, CB.mk ht hP hD⟩, hS.F ht⟩) hS.2.2 dX10_mask_32
set_option maxHeartbeats 4000000 in
set_option maxRecDepth 100000 in
theorem x_X10_order (l : Launch) (D : va_G) (Y : Nat → ClassId) (Z : Nat → Nat) (sz : Nat) (ws : va_W) (T : RT) (g : GN) (q : GQ)  (p0 : Nat) (p1 : Int32) (hT : TW Y Z T g q ws) (ht0 : T p0 = (1, 0, 0)) : Met l yX10_order (.code yX10_order cX10_order 3 (some .int) :: GW) ({ frames := 1, cells := 0, slots := 0, locals := 22 }) (va_Pc [.ref p0, .int p1] (CPC D Y Z ws sz)) (QG (S := Int32 × va_W × GN) (fun u => some (.int u.1)) (fun u => TW Y Z T u.2.2 q u.2.1 ∧ KF 6 T ws u.2.1) (fun u => CB D u.2.1 (va_A ws sz)) (va_A ws sz)) 0 0 (va_A ws sz) := by
  refine Met.ofW (cc := cX10_order) (maxL := 3) (ret := (some .int)) (by decide) rfl ?_
  intro p e s m args below meth c s₁ B hml hv
  obtain ⟨rfl, ⟨hsz, hP, hKN, hD0⟩, hSZ⟩ := hv
  have hx := B.exec
  have hb := B.bytes
  have hr := B.returns
  have hts := atoms_spec (ws := .code yX10_order cX10_order 3 (some .int) :: GW) B.pre
  have hg : ∀ w ∈ GW, w.before _ s = true := fun w h => hts w (List.mem_cons_of_mem _ h)
  have hown : s.vm.findClass RX10 = some m.cls := findClass_of_methodNamed B.named
  have hlocks := B.notSynchronized
  subst hsz
  have hD := hD0.self (sz := s.heap.size)
  generalize hAe : va_A ws s.heap.size = A at hD hSZ ⊢
  have hA : ∀ q : Nat, s.heap.size ≤ q → A q := fun q h => by rw [← hAe]; exact Or.inr h
  clear hAe hD0 hts B
  have hl := lv_entry ([.ref p0, .int p1]) (n := 3) (Nat.le_of_ble_eq_true rfl)
  rw [lg_entry_eq]
  generalize (lg_sl ([.ref p0, .int p1]) ++ List.replicate (3 - (lg_sl ([.ref p0, .int p1])).length) Slot.unset).toArray = ls at hl ⊢
  have hl : lv_has ls 3 [(0, .ref p0), (1, .int p1)] := hl
  refine w_start (A0 := A) hP (fun H locs hP hS => ?_)
  refine lv_iload_n hx hb dX10_order_0 rfl (lv_at hl 1 rfl) ?_
  refine lv_iconst (v := 0) hx hb dX10_order_1 (by decide) ?_
  refine lv_bipush (v := 23) hx hb dX10_order_2 (by decide) ?_
  have zi0 : (0 : Int32).toInt = 0 := by decide
  have zi23 : (23 : Int32).toInt = 23 := by decide
  refine cg0 (rn_S (As := [.int p1, .int 0, .int 23]) (rest := []) (x_X10_isWithin l D Y Z H.size p1 0 23) ⟨hx, hb, hml, hown, hg⟩ lk_X10_100 ⟨CP.blind, CP.at nilP hKN (nilD (A := fun _ => True))⟩ ⟨⟨rfl, rfl⟩, ⟨Nat.le_of_ble_eq_true rfl, Nat.le_of_ble_eq_true rfl⟩, ⟨(Nat.le_of_ble_eq_true rfl), (Nat.le_of_ble_eq_true rfl)⟩⟩ hl.1 rfl (Nat.le_of_ble_eq_true rfl) dX10_order_4) hP hS hA (fun u1 H locs hw2 hP hS => ?_)
  obtain ⟨hw4, hw5⟩ : (((0 : Int32).toInt ≤ p1.toInt ∧ p1.toInt ≤ (23 : Int32).toInt ∧ u1.toInt = 1) ∨ (¬ ((0 : Int32).toInt ≤ p1.toInt ∧ p1.toInt ≤ (23 : Int32).toInt) ∧ u1.toInt = 0)) ∧ (0 ≤ u1.toInt ∧ u1.toInt ≤ 1) := hw2
  refine W.eq (g2 := F0 m 7 ls [.int u1]) rfl ?_
  rcases (show u1.toInt = 1 ∨ u1.toInt = 0 by omega) with c6 | c6
  · obtain rfl : u1 = 1 := i_is c6 (by decide)
    have zi1 : (1 : Int32).toInt = 1 := by decide
    refine W.eq (g2 := F0 m 7 ls [.int 1]) rfl ?_
    refine lv_if_ne (tgt := 12) hx hb dX10_order_7 (by decide) (fun c7 => ?_) (fun c7 => ?_)
    rotate_left
    · exact absurd c7 (by decide)
    refine lv_aload_n hx hb dX10_order_12 rfl (lv_at hl 0 rfl) ?_
    obtain ⟨p49, _, hk50, a8, a9, a10, a11, a12, x13, x14, x15, a16, a17, a18, a19, a20, a21, a22, a23, a24, x25, a26, a27, rfl, h28, h29, h30, h31, h32, h33, h34, h35, h36, h37, h38, h39, h40, h41, h42, h43, h44, h45, h46, h47, h48⟩ := op1 hT ht0
    refine va_get (D := D) (ci := 10) (v := .ref a8) (C := RX10) (T := TX10) (N := 20) hx hb hg inGX10 hown hKN.1 hP p49 hk50 rfl 0 (by decide) (hg _ kw_349) (fun _ h9 => h9) rfl dX10_order_13 ?_
    obtain ⟨p85, _, hk86, x51, a52, x53, a54, x55, a56, a57, x58, a59, a60, x61, a62, x63, rfl, h64, h65, h66, h67, h68, h69, h70, h71, h72, h73, h74, h75, h76, h77, h78, h79, h80, h81, h82, h83, h84⟩ := op2 hT h28
    refine va_getN (D := D) (ci := 6) (v := .int x61) (C := RX6) (T := TX6) (N := 13) hx hb hg inGX6 hown hKN.1 hP p85 hk86 rfl 10 (by decide) (va_Nw.use rfl (hKN.2.1 _ kn_63 rfl)) (fun _ h9 => h9) rfl dX10_order_16 ?_
    refine lv_istore_n (lv' := [(2, .int x61), (0, .ref p0), (1, .int p1)]) hx hb dX10_order_19 rfl hl (by decide) rfl (fun ls hl => ?_)
    refine lv_aload_n hx hb dX10_order_20 rfl (lv_at hl 1 rfl) ?_
    refine va_get (D := D) (ci := 10) (v := .ref a8) (C := RX10) (T := TX10) (N := 20) hx hb hg inGX10 hown hKN.1 hP p49 hk50 rfl 0 (by decide) (hg _ kw_349) (fun _ h9 => h9) rfl dX10_order_21 ?_
    refine lv_iload_n hx hb dX10_order_24 rfl (lv_at hl 2 rfl) ?_
    refine va_putN (D := D) (ci := 6) (v := .int p1) (ty := .int) (C := RX6) (T := TX6) (N := 13) hx hb hg inGX6 tyX6 tyX6_ok nmX6 hown hKN.1 hP hD hS p85 hk86 rfl 10 (by decide) (va_Nw.use rfl (hKN.2.1 _ kn_63 rfl)) (fun _ h9 => h9) rfl (by decide +kernel) rfl rfl (Nat.le_of_ble_eq_true rfl) dX10_order_25 (fun H locs hP hD2 hS => ?_)
    obtain ⟨w87, g90, eg90, hP, hD, hT, hk89, kp88⟩ : ∃ wz gz, gz = gset g a8 10 p1 ∧ va_P D vwCl wz H ∧ va_D A wz ∧ TW Y Z T gz q wz ∧ wz[p85]? = some (a8, .inr (6, (.int x51 :: .ref a52 :: .int x53 :: .ref a54 :: .int x55 :: .ref a56 :: .ref a57 :: .int x58 :: .ref a59 :: .ref a60 :: .int p1 :: .ref a62 :: .int x63 :: []))) ∧ Kp a8 ws wz := ⟨_, _, rfl, hP, hD2, tw_sg (k := 2) (g2 := gset g a8 10 p1) (q2 := q) hT hD hk86 h28 (fun _ hc => gset_ne hc) (fun _ _ => rfl) (show Sh2 Y Z T ((gset g a8 10 p1) a8) (q a8) 0 0 _ from ⟨x51, a52, x53, a54, x55, a56, a57, x58, a59, a60, p1, a62, x63, rfl, by omega, ((gs_ne (by decide)).trans h65), h66, h67, by omega, ((gs_ne (by decide)).trans h69), h70, by omega, ((gs_ne (by decide)).trans h72), h73, h74, h75, h76, by omega, ((gs_ne (by decide)).trans h78), h79, h80, by omega, gs_eq, h83, by omega⟩), sw_eq hk86, sw_kp hk86⟩
    have hg91 : g90 a8 0 = x51 := by rw [eg90]; exact ((gs_ne (by decide)).trans h65)
    have hg92 : g90 a8 2 = x53 := by rw [eg90]; exact ((gs_ne (by decide)).trans h69)
    have hg93 : g90 a8 4 = x55 := by rw [eg90]; exact ((gs_ne (by decide)).trans h72)
    have hg94 : g90 a8 7 = x58 := by rw [eg90]; exact ((gs_ne (by decide)).trans h78)
    have hg95 : g90 a8 10 = p1 := by rw [eg90]; exact gs_eq
    have ke96 : KF 6 T ws w87 := KF.tr KF.rf (KF.kp kp88 h28 (by decide))
    have hk97 := kp88 _ _ hk50 (rne ht0 h28 (by decide))
    refine lv_aload_n hx hb dX10_order_28 rfl (lv_at hl 1 rfl) ?_
    refine lv_dup hx hb dX10_order_29 rfl ?_
    refine va_get (D := D) (ci := 10) (v := .int x25) (C := RX10) (T := TX10) (N := 20) hx hb hg inGX10 hown hKN.1 hP p49 hk97 rfl 17 (by decide) (hg _ kw_366) (fun _ h9 => h9) rfl dX10_order_30 ?_
    refine lv_iconst (v := 1) hx hb dX10_order_33 (by decide) ?_
    refine lv_iadd hx hb dX10_order_34 ?_
    refine lv_topi (fun v98 ev98 => ?_)
    refine va_put (D := D) (ci := 10) (v := .int v98) (ty := .int) (C := RX10) (T := TX10) (N := 20) hx hb hg inGX10 tyX10 tyX10_ok nmX10 hown hKN.1 hP hD hS p49 hk97 rfl 17 (by decide) (hg _ kw_366) (fun _ h9 => h9) rfl (by decide +kernel) rfl rfl (Nat.le_of_ble_eq_true rfl) dX10_order_35 (fun H locs hP hD2 hS => ?_)
    obtain ⟨w99, hP, hD, hT, hk101, kp100⟩ : ∃ wz, va_P D vwCl wz H ∧ va_D A wz ∧ TW Y Z T g90 q wz ∧ wz[p49]? = some (p0, .inr (10, (.ref a8 :: .ref a9 :: .ref a10 :: .ref a11 :: .ref a12 :: .int x13 :: .int x14 :: .int x15 :: .ref a16 :: .ref a17 :: .ref a18 :: .ref a19 :: .ref a20 :: .ref a21 :: .ref a22 :: .ref a23 :: .ref a24 :: .int v98 :: .ref a26 :: .ref a27 :: []))) ∧ Kp p0 w87 wz := ⟨_, hP, hD2, st1 hT hD hk97 ht0 ⟨a8, a9, a10, a11, a12, x13, x14, x15, a16, a17, a18, a19, a20, a21, a22, a23, a24, v98, a26, a27, rfl, h28, h29, h30, h31, h32, h33, h34, by omega, by omega, by omega, h38, h39, h40, h41, h42, h43, h44, h45, h46, h47, h48⟩, sw_eq hk97, sw_kp hk97⟩
    have ke102 : KF 6 T ws w99 := KF.tr ke96 (KF.kp kp100 ht0 (by decide))
    have hk103 := kp100 _ _ hk89 (rne h28 ht0 (by decide))
    refine lv_iload_n hx hb dX10_order_38 rfl (lv_at hl 0 rfl) ?_
    refine W.widen (k := 0) (n := 0) (Nat.le_of_ble_eq_true rfl) (Nat.le_of_ble_eq_true rfl) ?_
    exact W.iret (v := x61) hx hb hr (fun t ht hW => ⟨⟨(x61, w99, g90), rfl, ⟨hT, ke102⟩, CB.mk ht hP hD⟩, hS.F ht⟩) hS.2.2 dX10_order_39
  · obtain rfl : u1 = 0 := i_is c6 (by decide)
    refine W.eq (g2 := F0 m 7 ls [.int 0]) rfl ?_
    refine lv_if_ne (tgt := 12) hx hb dX10_order_7 (by decide) (fun c104 => ?_) (fun c104 => ?_)
    · exact absurd c104 (by decide)
    refine lv_iconst (v := (-1)) hx hb dX10_order_10 (by decide) ?_
    refine W.widen (k := 0) (n := 0) (Nat.le_of_ble_eq_true rfl) (Nat.le_of_ble_eq_true rfl) ?_
    have zim1 : ((-1) : Int32).toInt = -1 := by decide
    exact W.iret (v := (-1)) hx hb hr (fun t ht hW => ⟨⟨(((-1)), ws, g), rfl, ⟨hT, KF.rf⟩, CB.mk ht hP hD⟩, hS.F ht⟩) hS.2.2 dX10_order_11
set_option maxHeartbeats 4000000 in
set_option maxRecDepth 100000 in
theorem x_X10_at (l : Launch) (D : va_G) (Y : Nat → ClassId) (Z : Nat → Nat) (sz : Nat) (ws : va_W) (T : RT) (g : GN) (q : GQ)  (p0 : Nat) (p1 : Int32) (p2 : Int32) (p3 : Int32) (hT : TW Y Z T g q ws) (ht0 : T p0 = (1, 0, 0)) : Met l yX10_at (.code yX10_at cX10_at 4 (some .int) :: GW) ({ frames := 4, cells := 0, slots := 0, locals := 101 }) (va_Pc [.ref p0, .int p1, .int p2, .int p3] (CPC D Y Z ws sz)) (QG (S := Int32 × va_W) (fun u => some (.int u.1)) (fun u => TW Y Z T g q u.2 ∧ KF 1 T ws u.2 ∧ KF 6 T ws u.2) (fun u => CB D u.2 (va_A ws sz)) (va_A ws sz)) 0 0 (va_A ws sz) := by
  refine Met.ofW (cc := cX10_at) (maxL := 4) (ret := (some .int)) (by decide) rfl ?_
  intro p e s m args below meth c s₁ B hml hv
  obtain ⟨rfl, ⟨hsz, hP, hKN, hD0⟩, hSZ⟩ := hv
  have hx := B.exec
  have hb := B.bytes
  have hr := B.returns
  have hts := atoms_spec (ws := .code yX10_at cX10_at 4 (some .int) :: GW) B.pre
  have hg : ∀ w ∈ GW, w.before _ s = true := fun w h => hts w (List.mem_cons_of_mem _ h)
  have hown : s.vm.findClass RX10 = some m.cls := findClass_of_methodNamed B.named
  have hlocks := B.notSynchronized
  subst hsz
  have hD := hD0.self (sz := s.heap.size)
  generalize hAe : va_A ws s.heap.size = A at hD hSZ ⊢
  have hA : ∀ q : Nat, s.heap.size ≤ q → A q := fun q h => by rw [← hAe]; exact Or.inr h
  clear hAe hD0 hts B
  have hl := lv_entry ([.ref p0, .int p1, .int p2, .int p3]) (n := 4) (Nat.le_of_ble_eq_true rfl)
  rw [lg_entry_eq]
  generalize (lg_sl ([.ref p0, .int p1, .int p2, .int p3]) ++ List.replicate (4 - (lg_sl ([.ref p0, .int p1, .int p2, .int p3])).length) Slot.unset).toArray = ls at hl ⊢
  have hl : lv_has ls 4 [(0, .ref p0), (1, .int p1), (2, .int p2), (3, .int p3)] := hl
  refine w_start (A0 := A) hP (fun H locs hP hS => ?_)
  refine lv_aload_n hx hb dX10_at_0 rfl (lv_at hl 0 rfl) ?_
  refine lv_iload_n hx hb dX10_at_1 rfl (lv_at hl 1 rfl) ?_
  obtain ⟨p42, _, hk43, a1, a2, a3, a4, a5, x6, x7, x8, a9, a10, a11, a12, a13, a14, a15, a16, a17, x18, a19, a20, rfl, h21, h22, h23, h24, h25, h26, h27, h28, h29, h30, h31, h32, h33, h34, h35, h36, h37, h38, h39, h40, h41⟩ := op1 hT ht0
  refine cga (rn_V (As := [.int p1]) (rest := []) (b := p0) (x_X10_isStar l D Y Z H.size ws T g q p0 p1 hT ht0) ⟨hx, hb, hml, hown, hg⟩ lk_X10_137 ⟨CPC.blind, va_recv hKN.1 hP (ci := 10) (q0 := p42) rfl hk43, CPC.at hP hKN hD hSZ hS hA⟩ ⟨⟨rfl, rfl⟩, ⟨Nat.le_of_ble_eq_true rfl, Nat.le_of_ble_eq_true rfl⟩, ⟨(Nat.le_of_ble_eq_true rfl), (Nat.le_of_ble_eq_true rfl)⟩⟩ hl.1 rfl (Nat.le_of_ble_eq_true rfl) dX10_at_2) hP hD hS hA (fun u44 H locs hw45 hP hD hS => ?_)
  obtain ⟨hw47, hw48⟩ : (0 ≤ u44.toInt ∧ u44.toInt ≤ 1) ∧ (u44.toInt = 1 → (0 ≤ p1.toInt ∧ p1.toInt ≤ 11)) := hw45
  refine W.eq (g2 := F0 m 5 ls [.int u44]) rfl ?_
  rcases (show u44.toInt = 1 ∨ u44.toInt = 0 by omega) with c49 | c49
  · obtain rfl : u44 = 1 := i_is c49 (by decide)
    have zi1 : (1 : Int32).toInt = 1 := by decide
    replace hw48 := hw48 (by decide)
    refine W.eq (g2 := F0 m 5 ls [.int 1]) rfl ?_
    refine lv_if_eq (tgt := 22) hx hb dX10_at_5 (by decide) (fun c50 => ?_) (fun c50 => ?_)
    · exact absurd c50 (by decide)
    refine lv_iload_n hx hb dX10_at_8 rfl (lv_at hl 2 rfl) ?_
    refine cg0 (rn_S (As := [.int p2]) (rest := []) (x_X10_isHour l D Y Z H.size p2) ⟨hx, hb, hml, hown, hg⟩ lk_X10_113 ⟨CP.blind, CP.at nilP hKN (nilD (A := fun _ => True))⟩ ⟨⟨rfl, rfl⟩, ⟨Nat.le_of_ble_eq_true rfl, Nat.le_of_ble_eq_true rfl⟩, ⟨(Nat.le_of_ble_eq_true rfl), (Nat.le_of_ble_eq_true rfl)⟩⟩ hl.1 rfl (Nat.le_of_ble_eq_true rfl) dX10_at_9) hP hS hA (fun u51 H locs hw52 hP hS => ?_)
    obtain ⟨hw54, hw55⟩ : ((0 ≤ p2.toInt ∧ p2.toInt ≤ 599 ∧ u51.toInt = 1) ∨ (¬ (0 ≤ p2.toInt ∧ p2.toInt ≤ 599) ∧ u51.toInt = 0)) ∧ (0 ≤ u51.toInt ∧ u51.toInt ≤ 1) := hw52
    refine W.eq (g2 := F0 m 12 ls [.int u51]) rfl ?_
    rcases (show u51.toInt = 1 ∨ u51.toInt = 0 by omega) with c56 | c56
    · obtain rfl : u51 = 1 := i_is c56 (by decide)
      refine W.eq (g2 := F0 m 12 ls [.int 1]) rfl ?_
      refine lv_if_eq (tgt := 22) hx hb dX10_at_12 (by decide) (fun c57 => ?_) (fun c57 => ?_)
      · exact absurd c57 (by decide)
      refine lv_iload_n hx hb dX10_at_15 rfl (lv_at hl 3 rfl) ?_
      refine cg0 (rn_S (As := [.int p3]) (rest := []) (x_X10_isWay l D Y Z H.size p3) ⟨hx, hb, hml, hown, hg⟩ lk_X10_140 ⟨CP.blind, CP.at nilP hKN (nilD (A := fun _ => True))⟩ ⟨⟨rfl, rfl⟩, ⟨Nat.le_of_ble_eq_true rfl, Nat.le_of_ble_eq_true rfl⟩, ⟨(Nat.le_of_ble_eq_true rfl), (Nat.le_of_ble_eq_true rfl)⟩⟩ hl.1 rfl (Nat.le_of_ble_eq_true rfl) dX10_at_16) hP hS hA (fun u58 H locs hw59 hP hS => ?_)
      obtain ⟨hw61, hw62⟩ : ((0 ≤ p3.toInt ∧ p3.toInt ≤ 5 ∧ u58.toInt = 1) ∨ (¬ (0 ≤ p3.toInt ∧ p3.toInt ≤ 5) ∧ u58.toInt = 0)) ∧ (0 ≤ u58.toInt ∧ u58.toInt ≤ 1) := hw59
      refine W.eq (g2 := F0 m 19 ls [.int u58]) rfl ?_
      rcases (show u58.toInt = 1 ∨ u58.toInt = 0 by omega) with c63 | c63
      · obtain rfl : u58 = 1 := i_is c63 (by decide)
        refine W.eq (g2 := F0 m 19 ls [.int 1]) rfl ?_
        refine lv_if_ne (tgt := 25) hx hb dX10_at_19 (by decide) (fun c64 => ?_) (fun c64 => ?_)
        rotate_left
        · exact absurd c64 (by decide)
        refine lv_aload_n hx hb dX10_at_25 rfl (lv_at hl 0 rfl) ?_
        refine va_get (D := D) (ci := 10) (v := .ref a11) (C := RX10) (T := TX10) (N := 20) hx hb hg inGX10 hown hKN.1 hP p42 hk43 rfl 10 (by decide) (hg _ kw_359) (fun _ h9 => h9) rfl dX10_at_26 ?_
        refine lv_aload_n hx hb dX10_at_29 rfl (lv_at hl 0 rfl) ?_
        refine va_get (D := D) (ci := 10) (v := .ref a1) (C := RX10) (T := TX10) (N := 20) hx hb hg inGX10 hown hKN.1 hP p42 hk43 rfl 0 (by decide) (hg _ kw_349) (fun _ h9 => h9) rfl dX10_at_30 ?_
        refine lv_iload_n hx hb dX10_at_33 rfl (lv_at hl 1 rfl) ?_
        refine lv_iload_n hx hb dX10_at_34 rfl (lv_at hl 3 rfl) ?_
        obtain ⟨p77, _, hk78, a65, a66, a67, x68, y69, y70, x71, y72, rfl, h73, h74, h75, h76⟩ := op9 hT h33
        refine cga (rn_NV (As := [.ref a1, .int p1, .int p3]) (rest := []) (b := a11) (x_X2_see l D Y Z H.size ws T g q 0 a11 a1 p1 p3 hT h33 h21) ⟨hx, hb, hml, hown, hg⟩ hKN lk_X10_143 ⟨CPC.blind, va_recv hKN.1 hP (ci := 2) (q0 := p77) rfl hk78, CPC.at hP hKN hD hSZ hS hA⟩ ⟨⟨rfl, rfl⟩, ⟨Nat.le_of_ble_eq_true rfl, Nat.le_of_ble_eq_true rfl⟩, ⟨(Nat.le_of_ble_eq_true rfl), (Nat.le_of_ble_eq_true rfl)⟩⟩ hl.1 rfl (Nat.le_of_ble_eq_true rfl) dX10_at_35) hP hD hS hA (fun u79 H locs hw80 hP hD hS => ?_)
        obtain ⟨hT, ke82, ke83⟩ : TW Y Z T g q u79 ∧ KF 1 T ws u79 ∧ KF 6 T ws u79 := hw80
        have hk84 := ke82 _ _ hk43 (show (T p0).1 = 1 by rw [ht0])
        have ke85 : KF 1 T ws u79 := KF.tr KF.rf ke82
        have ke86 : KF 6 T ws u79 := KF.tr KF.rf ke83
        refine W.eq (g2 := F0 m 38 ls []) rfl ?_
        refine lv_aload_n hx hb dX10_at_38 rfl (lv_at hl 0 rfl) ?_
        refine va_get (D := D) (ci := 10) (v := .ref a11) (C := RX10) (T := TX10) (N := 20) hx hb hg inGX10 hown hKN.1 hP p42 hk84 rfl 10 (by decide) (hg _ kw_359) (fun _ h9 => h9) rfl dX10_at_39 ?_
        obtain ⟨p99, _, hk100, a87, a88, a89, x90, y91, y92, x93, y94, rfl, h95, h96, h97, h98⟩ := op9 hT h33
        refine va_getN (D := D) (ci := 2) (v := .ref a87) (C := RX2) (T := TX2) (N := 8) hx hb hg inGX2 hown hKN.1 hP p99 hk100 rfl 0 (by decide) (va_Nw.use rfl (hKN.2.1 _ kn_235 rfl)) (fun _ h9 => h9) rfl dX10_at_42 ?_
        refine lv_iload_n hx hb dX10_at_45 rfl (lv_at hl 2 rfl) ?_
        refine tr_ld12 hx hb hKN hP hT h95 (vp_in_iff.mpr ⟨by omega, by omega⟩) dX10_at_46 (fun v101 => ?_)
        refine W.widen (k := 0) (n := 0) (Nat.le_of_ble_eq_true rfl) (Nat.le_of_ble_eq_true rfl) ?_
        exact W.iret (v := v101) hx hb hr (fun t ht hW => ⟨⟨(v101, u79), rfl, ⟨hT, ke85, ke86⟩, CB.mk ht hP hD⟩, hS.F ht⟩) hS.2.2 dX10_at_47
      · obtain rfl : u58 = 0 := i_is c63 (by decide)
        have zi0 : (0 : Int32).toInt = 0 := by decide
        refine W.eq (g2 := F0 m 19 ls [.int 0]) rfl ?_
        refine lv_if_ne (tgt := 25) hx hb dX10_at_19 (by decide) (fun c102 => ?_) (fun c102 => ?_)
        · exact absurd c102 (by decide)
        refine lv_ldc (v := (-200000)) hx hb hown (hg _ kw_473) dX10_at_22 ?_
        refine W.widen (k := 0) (n := 0) (Nat.le_of_ble_eq_true rfl) (Nat.le_of_ble_eq_true rfl) ?_
        have zim200000 : ((-200000) : Int32).toInt = -200000 := by decide
        exact W.iret (v := (-200000)) hx hb hr (fun t ht hW => ⟨⟨(((-200000)), ws), rfl, ⟨hT, KF.rf, KF.rf⟩, CB.mk ht hP hD⟩, hS.F ht⟩) hS.2.2 dX10_at_24
    · obtain rfl : u51 = 0 := i_is c56 (by decide)
      have zi0 : (0 : Int32).toInt = 0 := by decide
      refine W.eq (g2 := F0 m 12 ls [.int 0]) rfl ?_
      refine lv_if_eq (tgt := 22) hx hb dX10_at_12 (by decide) (fun c103 => ?_) (fun c103 => ?_)
      rotate_left
      · exact absurd c103 (by decide)
      refine lv_ldc (v := (-200000)) hx hb hown (hg _ kw_473) dX10_at_22 ?_
      refine W.widen (k := 0) (n := 0) (Nat.le_of_ble_eq_true rfl) (Nat.le_of_ble_eq_true rfl) ?_
      have zim200000 : ((-200000) : Int32).toInt = -200000 := by decide
      exact W.iret (v := (-200000)) hx hb hr (fun t ht hW => ⟨⟨(((-200000)), ws), rfl, ⟨hT, KF.rf, KF.rf⟩, CB.mk ht hP hD⟩, hS.F ht⟩) hS.2.2 dX10_at_24
  · obtain rfl : u44 = 0 := i_is c49 (by decide)
    have zi0 : (0 : Int32).toInt = 0 := by decide
    clear hw48
    refine W.eq (g2 := F0 m 5 ls [.int 0]) rfl ?_
    refine lv_if_eq (tgt := 22) hx hb dX10_at_5 (by decide) (fun c104 => ?_) (fun c104 => ?_)
    rotate_left
    · exact absurd c104 (by decide)
    refine lv_ldc (v := (-200000)) hx hb hown (hg _ kw_473) dX10_at_22 ?_
    refine W.widen (k := 0) (n := 0) (Nat.le_of_ble_eq_true rfl) (Nat.le_of_ble_eq_true rfl) ?_
    have zim200000 : ((-200000) : Int32).toInt = -200000 := by decide
    exact W.iret (v := (-200000)) hx hb hr (fun t ht hW => ⟨⟨(((-200000)), ws), rfl, ⟨hT, KF.rf, KF.rf⟩, CB.mk ht hP hD⟩, hS.F ht⟩) hS.2.2 dX10_at_24
set_option maxHeartbeats 4000000 in
set_option maxRecDepth 100000 in
theorem x_X10_world (l : Launch) (D : va_G) (Y : Nat → ClassId) (Z : Nat → Nat) (sz : Nat) (ws : va_W) (T : RT) (g : GN) (q : GQ)  (p0 : Nat) (p1 : Int32) (p2 : Int32) (p3 : Int32) (p4 : Int32) (p5 : Int32) (p6 : Int32) (hT : TW Y Z T g q ws) (ht0 : T p0 = (1, 0, 0)) (hp0 : (0 ≤ p6.toInt ∧ p6.toInt ≤ 1)) : Met l yX10_world (.code yX10_world cX10_world 9 (some .int) :: GW) ({ frames := 2, cells := 1, slots := 6, locals := 46 }) (va_Pc [.ref p0, .int p1, .int p2, .int p3, .int p4, .int p5, .int p6] (CPC D Y Z ws sz)) (QG (S := Int32 × va_W × RT × GN) (fun u => some (.int u.1)) (fun u => TLe T u.2.2.1 ∧ TW Y Z u.2.2.1 u.2.2.2 q u.2.1 ∧ KF 1 T ws u.2.1 ∧ KF 6 T ws u.2.1) (fun u => CB D u.2.1 (va_A ws sz)) (va_A ws sz)) 1 6 (va_A ws sz) := by
  refine Met.ofW (cc := cX10_world) (maxL := 9) (ret := (some .int)) (by decide) rfl ?_
  intro p e s m args below meth c s₁ B hml hv
  obtain ⟨rfl, ⟨hsz, hP, hKN, hD0⟩, hSZ⟩ := hv
  have hx := B.exec
  have hb := B.bytes
  have hr := B.returns
  have hts := atoms_spec (ws := .code yX10_world cX10_world 9 (some .int) :: GW) B.pre
  have hg : ∀ w ∈ GW, w.before _ s = true := fun w h => hts w (List.mem_cons_of_mem _ h)
  have hown : s.vm.findClass RX10 = some m.cls := findClass_of_methodNamed B.named
  have hlocks := B.notSynchronized
  subst hsz
  have hD := hD0.self (sz := s.heap.size)
  generalize hAe : va_A ws s.heap.size = A at hD hSZ ⊢
  have hA : ∀ q : Nat, s.heap.size ≤ q → A q := fun q h => by rw [← hAe]; exact Or.inr h
  clear hAe hD0 hts B
  have hl := lv_entry ([.ref p0, .int p1, .int p2, .int p3, .int p4, .int p5, .int p6]) (n := 9) (Nat.le_of_ble_eq_true rfl)
  rw [lg_entry_eq]
  generalize (lg_sl ([.ref p0, .int p1, .int p2, .int p3, .int p4, .int p5, .int p6]) ++ List.replicate (9 - (lg_sl ([.ref p0, .int p1, .int p2, .int p3, .int p4, .int p5, .int p6])).length) Slot.unset).toArray = ls at hl ⊢
  have hl : lv_has ls 9 [(0, .ref p0), (1, .int p1), (2, .int p2), (3, .int p3), (4, .int p4), (5, .int p5), (6, .int p6)] := hl
  refine w_start (A0 := A) hP (fun H locs hP hS => ?_)
  refine lv_iload_n hx hb dX10_world_0 rfl (lv_at hl 2 rfl) ?_
  refine lv_iconst (v := 2) hx hb dX10_world_1 (by decide) ?_
  refine lv_sipush (v := 599) hx hb dX10_world_2 (by decide) ?_
  have zi2 : (2 : Int32).toInt = 2 := by decide
  have zi599 : (599 : Int32).toInt = 599 := by decide
  refine cg0 (rn_S (As := [.int p2, .int 2, .int 599]) (rest := []) (x_X10_isWithin l D Y Z H.size p2 2 599) ⟨hx, hb, hml, hown, hg⟩ lk_X10_100 ⟨CP.blind, CP.at nilP hKN (nilD (A := fun _ => True))⟩ ⟨⟨rfl, rfl⟩, ⟨Nat.le_of_ble_eq_true rfl, Nat.le_of_ble_eq_true rfl⟩, ⟨(Nat.le_of_ble_eq_true rfl), (Nat.le_of_ble_eq_true rfl)⟩⟩ hl.1 rfl (Nat.le_of_ble_eq_true rfl) dX10_world_5) hP hS hA (fun u1 H locs hw2 hP hS => ?_)
  obtain ⟨hw4, hw5⟩ : (((2 : Int32).toInt ≤ p2.toInt ∧ p2.toInt ≤ (599 : Int32).toInt ∧ u1.toInt = 1) ∨ (¬ ((2 : Int32).toInt ≤ p2.toInt ∧ p2.toInt ≤ (599 : Int32).toInt) ∧ u1.toInt = 0)) ∧ (0 ≤ u1.toInt ∧ u1.toInt ≤ 1) := hw2
  refine W.eq (g2 := F0 m 8 ls [.int u1]) rfl ?_
  rcases (show u1.toInt = 1 ∨ u1.toInt = 0 by omega) with c6 | c6
  · obtain rfl : u1 = 1 := i_is c6 (by decide)
    have zi1 : (1 : Int32).toInt = 1 := by decide
    refine W.eq (g2 := F0 m 8 ls [.int 1]) rfl ?_
    refine lv_if_eq (tgt := 22) hx hb dX10_world_8 (by decide) (fun c7 => ?_) (fun c7 => ?_)
    · exact absurd c7 (by decide)
    refine lv_iload_n hx hb dX10_world_11 rfl (lv_at hl 3 rfl) ?_
    refine cg0 (rn_S (As := [.int p3]) (rest := []) (x_X10_isHour l D Y Z H.size p3) ⟨hx, hb, hml, hown, hg⟩ lk_X10_113 ⟨CP.blind, CP.at nilP hKN (nilD (A := fun _ => True))⟩ ⟨⟨rfl, rfl⟩, ⟨Nat.le_of_ble_eq_true rfl, Nat.le_of_ble_eq_true rfl⟩, ⟨(Nat.le_of_ble_eq_true rfl), (Nat.le_of_ble_eq_true rfl)⟩⟩ hl.1 rfl (Nat.le_of_ble_eq_true rfl) dX10_world_12) hP hS hA (fun u8 H locs hw9 hP hS => ?_)
    obtain ⟨hw11, hw12⟩ : ((0 ≤ p3.toInt ∧ p3.toInt ≤ 599 ∧ u8.toInt = 1) ∨ (¬ (0 ≤ p3.toInt ∧ p3.toInt ≤ 599) ∧ u8.toInt = 0)) ∧ (0 ≤ u8.toInt ∧ u8.toInt ≤ 1) := hw9
    refine W.eq (g2 := F0 m 15 ls [.int u8]) rfl ?_
    rcases (show u8.toInt = 1 ∨ u8.toInt = 0 by omega) with c13 | c13
    · obtain rfl : u8 = 1 := i_is c13 (by decide)
      refine W.eq (g2 := F0 m 15 ls [.int 1]) rfl ?_
      refine lv_if_eq (tgt := 22) hx hb dX10_world_15 (by decide) (fun c14 => ?_) (fun c14 => ?_)
      · exact absurd c14 (by decide)
      refine lv_iconst (v := 1) hx hb dX10_world_18 (by decide) ?_
      refine lv_goto (tgt := 23) hx hb dX10_world_19 (by decide) ?_
      refine lv_istore (lv' := [(7, .int 1), (0, .ref p0), (1, .int p1), (2, .int p2), (3, .int p3), (4, .int p4), (5, .int p5), (6, .int p6)]) hx hb dX10_world_23 hl (by decide) rfl (fun ls hl => ?_)
      refine lv_iload hx hb dX10_world_25 (lv_at hl 5 rfl) ?_
      refine lv_iconst (v := 1) hx hb dX10_world_27 (by decide) ?_
      refine lv_bipush (v := 30) hx hb dX10_world_28 (by decide) ?_
      have zi30 : (30 : Int32).toInt = 30 := by decide
      refine cg0 (rn_S (As := [.int p4, .int 1, .int 30]) (rest := []) (x_X10_isWithin l D Y Z H.size p4 1 30) ⟨hx, hb, hml, hown, hg⟩ lk_X10_100 ⟨CP.blind, CP.at nilP hKN (nilD (A := fun _ => True))⟩ ⟨⟨rfl, rfl⟩, ⟨Nat.le_of_ble_eq_true rfl, Nat.le_of_ble_eq_true rfl⟩, ⟨(Nat.le_of_ble_eq_true rfl), (Nat.le_of_ble_eq_true rfl)⟩⟩ hl.1 rfl (Nat.le_of_ble_eq_true rfl) dX10_world_30) hP hS hA (fun u15 H locs hw16 hP hS => ?_)
      obtain ⟨hw18, hw19⟩ : (((1 : Int32).toInt ≤ p4.toInt ∧ p4.toInt ≤ (30 : Int32).toInt ∧ u15.toInt = 1) ∨ (¬ ((1 : Int32).toInt ≤ p4.toInt ∧ p4.toInt ≤ (30 : Int32).toInt) ∧ u15.toInt = 0)) ∧ (0 ≤ u15.toInt ∧ u15.toInt ≤ 1) := hw16
      refine W.eq (g2 := F0 m 33 ls [.int u15]) rfl ?_
      rcases (show u15.toInt = 1 ∨ u15.toInt = 0 by omega) with c20 | c20
      · obtain rfl : u15 = 1 := i_is c20 (by decide)
        refine W.eq (g2 := F0 m 33 ls [.int 1]) rfl ?_
        refine lv_if_eq (tgt := 58) hx hb dX10_world_33 (by decide) (fun c21 => ?_) (fun c21 => ?_)
        · exact absurd c21 (by decide)
        refine lv_iload hx hb dX10_world_36 (lv_at hl 5 rfl) ?_
        refine lv_iload_n hx hb dX10_world_38 rfl (lv_at hl 3 rfl) ?_
        refine lv_icmp_ge (tgt := 58) hx hb dX10_world_39 (by decide) (fun c22 => ?_) (fun c22 => ?_)
        · skip
          have c22 := i_le (Eq.refl p2.toInt) (Eq.refl p4.toInt) c22
          refine lv_iconst (v := 0) hx hb dX10_world_58 (by decide) ?_
          refine lv_istore (lv' := [(8, .int 0), (7, .int 1), (0, .ref p0), (1, .int p1), (2, .int p2), (3, .int p3), (4, .int p4), (5, .int p5), (6, .int p6)]) hx hb dX10_world_59 hl (by decide) rfl (fun ls hl => ?_)
          refine lv_aload_n hx hb dX10_world_61 rfl (lv_at hl 2 rfl) ?_
          refine lv_iload_n hx hb dX10_world_62 rfl (lv_at hl 3 rfl) ?_
          obtain ⟨p64, _, hk65, a23, a24, a25, a26, a27, x28, x29, x30, a31, a32, a33, a34, a35, a36, a37, a38, a39, x40, a41, a42, rfl, h43, h44, h45, h46, h47, h48, h49, h50, h51, h52, h53, h54, h55, h56, h57, h58, h59, h60, h61, h62, h63⟩ := op1 hT ht0
          refine cga (rn_V (As := [.int p1]) (rest := []) (b := p0) (x_X10_isStar l D Y Z H.size ws T g q p0 p1 hT ht0) ⟨hx, hb, hml, hown, hg⟩ lk_X10_137 ⟨CPC.blind, va_recv hKN.1 hP (ci := 10) (q0 := p64) rfl hk65, CPC.at hP hKN hD hSZ hS hA⟩ ⟨⟨rfl, rfl⟩, ⟨Nat.le_of_ble_eq_true rfl, Nat.le_of_ble_eq_true rfl⟩, ⟨(Nat.le_of_ble_eq_true rfl), (Nat.le_of_ble_eq_true rfl)⟩⟩ hl.1 rfl (Nat.le_of_ble_eq_true rfl) dX10_world_63) hP hD hS hA (fun u66 H locs hw67 hP hD hS => ?_)
          obtain ⟨hw69, hw70⟩ : (0 ≤ u66.toInt ∧ u66.toInt ≤ 1) ∧ (u66.toInt = 1 → (0 ≤ p1.toInt ∧ p1.toInt ≤ 11)) := hw67
          refine W.eq (g2 := F0 m 66 ls [.int u66]) rfl ?_
          rcases (show u66.toInt = 1 ∨ u66.toInt = 0 by omega) with c71 | c71
          · obtain rfl : u66 = 1 := i_is c71 (by decide)
            replace hw70 := hw70 (by decide)
            refine W.eq (g2 := F0 m 66 ls [.int 1]) rfl ?_
            refine lv_if_eq (tgt := 91) hx hb dX10_world_66 (by decide) (fun c72 => ?_) (fun c72 => ?_)
            · exact absurd c72 (by decide)
            refine lv_iload hx hb dX10_world_69 (lv_at hl 1 rfl) ?_
            refine lv_if_eq (tgt := 91) hx hb dX10_world_71 (by decide) (fun c73 => ?_) (fun c73 => ?_)
            · exact absurd c73 (by decide)
            refine lv_iload hx hb dX10_world_74 (lv_at hl 0 rfl) ?_
            refine lv_if_eq (tgt := 91) hx hb dX10_world_76 (by decide) (fun c74 => ?_) (fun c74 => ?_)
            rotate_left
            · exact absurd c74 (by decide)
            refine lv_iconst (v := (-1)) hx hb dX10_world_91 (by decide) ?_
            refine W.widen (k := 1) (n := 6) (Nat.le_of_ble_eq_true rfl) (Nat.le_of_ble_eq_true rfl) ?_
            have zim1 : ((-1) : Int32).toInt = -1 := by decide
            have zi0 : (0 : Int32).toInt = 0 := by decide
            exact W.iret (v := (-1)) hx hb hr (fun t ht hW => ⟨⟨(((-1)), ws, T, g), rfl, ⟨TLe.rf, hT, KF.rf, KF.rf⟩, CB.mk ht hP hD⟩, hS.F ht⟩) hS.2.2 dX10_world_92
          · obtain rfl : u66 = 0 := i_is c71 (by decide)
            have zi0 : (0 : Int32).toInt = 0 := by decide
            clear hw70
            refine W.eq (g2 := F0 m 66 ls [.int 0]) rfl ?_
            refine lv_if_eq (tgt := 91) hx hb dX10_world_66 (by decide) (fun c75 => ?_) (fun c75 => ?_)
            rotate_left
            · exact absurd c75 (by decide)
            refine lv_iconst (v := (-1)) hx hb dX10_world_91 (by decide) ?_
            refine W.widen (k := 1) (n := 6) (Nat.le_of_ble_eq_true rfl) (Nat.le_of_ble_eq_true rfl) ?_
            have zim1 : ((-1) : Int32).toInt = -1 := by decide
            exact W.iret (v := (-1)) hx hb hr (fun t ht hW => ⟨⟨(((-1)), ws, T, g), rfl, ⟨TLe.rf, hT, KF.rf, KF.rf⟩, CB.mk ht hP hD⟩, hS.F ht⟩) hS.2.2 dX10_world_92
        · skip
          have c22 := i_nle (Eq.refl p2.toInt) (Eq.refl p4.toInt) c22
          refine lv_iload hx hb dX10_world_42 (lv_at hl 6 rfl) ?_
          refine lv_iconst (v := 1) hx hb dX10_world_44 (by decide) ?_
          refine lv_sipush (v := 30000) hx hb dX10_world_45 (by decide) ?_
          have zi30000 : (30000 : Int32).toInt = 30000 := by decide
          refine cg0 (rn_S (As := [.int p5, .int 1, .int 30000]) (rest := []) (x_X10_isWithin l D Y Z H.size p5 1 30000) ⟨hx, hb, hml, hown, hg⟩ lk_X10_100 ⟨CP.blind, CP.at nilP hKN (nilD (A := fun _ => True))⟩ ⟨⟨rfl, rfl⟩, ⟨Nat.le_of_ble_eq_true rfl, Nat.le_of_ble_eq_true rfl⟩, ⟨(Nat.le_of_ble_eq_true rfl), (Nat.le_of_ble_eq_true rfl)⟩⟩ hl.1 rfl (Nat.le_of_ble_eq_true rfl) dX10_world_48) hP hS hA (fun u76 H locs hw77 hP hS => ?_)
          obtain ⟨hw79, hw80⟩ : (((1 : Int32).toInt ≤ p5.toInt ∧ p5.toInt ≤ (30000 : Int32).toInt ∧ u76.toInt = 1) ∨ (¬ ((1 : Int32).toInt ≤ p5.toInt ∧ p5.toInt ≤ (30000 : Int32).toInt) ∧ u76.toInt = 0)) ∧ (0 ≤ u76.toInt ∧ u76.toInt ≤ 1) := hw77
          refine W.eq (g2 := F0 m 51 ls [.int u76]) rfl ?_
          rcases (show u76.toInt = 1 ∨ u76.toInt = 0 by omega) with c81 | c81
          · obtain rfl : u76 = 1 := i_is c81 (by decide)
            refine W.eq (g2 := F0 m 51 ls [.int 1]) rfl ?_
            refine lv_if_eq (tgt := 58) hx hb dX10_world_51 (by decide) (fun c82 => ?_) (fun c82 => ?_)
            · exact absurd c82 (by decide)
            refine lv_iconst (v := 1) hx hb dX10_world_54 (by decide) ?_
            refine lv_goto (tgt := 59) hx hb dX10_world_55 (by decide) ?_
            refine lv_istore (lv' := [(8, .int 1), (7, .int 1), (0, .ref p0), (1, .int p1), (2, .int p2), (3, .int p3), (4, .int p4), (5, .int p5), (6, .int p6)]) hx hb dX10_world_59 hl (by decide) rfl (fun ls hl => ?_)
            refine lv_aload_n hx hb dX10_world_61 rfl (lv_at hl 2 rfl) ?_
            refine lv_iload_n hx hb dX10_world_62 rfl (lv_at hl 3 rfl) ?_
            obtain ⟨p124, _, hk125, a83, a84, a85, a86, a87, x88, x89, x90, a91, a92, a93, a94, a95, a96, a97, a98, a99, x100, a101, a102, rfl, h103, h104, h105, h106, h107, h108, h109, h110, h111, h112, h113, h114, h115, h116, h117, h118, h119, h120, h121, h122, h123⟩ := op1 hT ht0
            refine cga (rn_V (As := [.int p1]) (rest := []) (b := p0) (x_X10_isStar l D Y Z H.size ws T g q p0 p1 hT ht0) ⟨hx, hb, hml, hown, hg⟩ lk_X10_137 ⟨CPC.blind, va_recv hKN.1 hP (ci := 10) (q0 := p124) rfl hk125, CPC.at hP hKN hD hSZ hS hA⟩ ⟨⟨rfl, rfl⟩, ⟨Nat.le_of_ble_eq_true rfl, Nat.le_of_ble_eq_true rfl⟩, ⟨(Nat.le_of_ble_eq_true rfl), (Nat.le_of_ble_eq_true rfl)⟩⟩ hl.1 rfl (Nat.le_of_ble_eq_true rfl) dX10_world_63) hP hD hS hA (fun u126 H locs hw127 hP hD hS => ?_)
            obtain ⟨hw129, hw130⟩ : (0 ≤ u126.toInt ∧ u126.toInt ≤ 1) ∧ (u126.toInt = 1 → (0 ≤ p1.toInt ∧ p1.toInt ≤ 11)) := hw127
            refine W.eq (g2 := F0 m 66 ls [.int u126]) rfl ?_
            rcases (show u126.toInt = 1 ∨ u126.toInt = 0 by omega) with c131 | c131
            · obtain rfl : u126 = 1 := i_is c131 (by decide)
              replace hw130 := hw130 (by decide)
              refine W.eq (g2 := F0 m 66 ls [.int 1]) rfl ?_
              refine lv_if_eq (tgt := 91) hx hb dX10_world_66 (by decide) (fun c132 => ?_) (fun c132 => ?_)
              · exact absurd c132 (by decide)
              refine lv_iload hx hb dX10_world_69 (lv_at hl 1 rfl) ?_
              refine lv_if_eq (tgt := 91) hx hb dX10_world_71 (by decide) (fun c133 => ?_) (fun c133 => ?_)
              · exact absurd c133 (by decide)
              refine lv_iload hx hb dX10_world_74 (lv_at hl 0 rfl) ?_
              refine lv_if_eq (tgt := 91) hx hb dX10_world_76 (by decide) (fun c134 => ?_) (fun c134 => ?_)
              · exact absurd c134 (by decide)
              refine lv_aload_n hx hb dX10_world_79 rfl (lv_at hl 2 rfl) ?_
              refine va_get (D := D) (ci := 10) (v := .ref a83) (C := RX10) (T := TX10) (N := 20) hx hb hg inGX10 hown hKN.1 hP p124 hk125 rfl 0 (by decide) (hg _ kw_349) (fun _ h9 => h9) rfl dX10_world_80 ?_
              obtain ⟨p169, _, hk170, x135, a136, x137, a138, x139, a140, a141, x142, a143, a144, x145, a146, x147, rfl, h148, h149, h150, h151, h152, h153, h154, h155, h156, h157, h158, h159, h160, h161, h162, h163, h164, h165, h166, h167, h168⟩ := op2 hT h103
              refine va_getN (D := D) (ci := 6) (v := .int x137) (C := RX6) (T := TX6) (N := 13) hx hb hg inGX6 hown hKN.1 hP p169 hk170 rfl 2 (by decide) (va_Nw.use rfl (hKN.2.1 _ kn_44 rfl)) (fun _ h9 => h9) rfl dX10_world_83 ?_
              refine lv_bipush (v := 40) hx hb dX10_world_86 (by decide) ?_
              refine lv_icmp_lt (tgt := 93) hx hb dX10_world_88 (by decide) (fun c171 => ?_) (fun c171 => ?_)
              · skip
                have c171 := i_lt (Eq.refl x137.toInt) (show (40 : Int32).toInt = 40 by decide) c171
                refine lv_aload_n hx hb dX10_world_93 rfl (lv_at hl 2 rfl) ?_
                refine va_get (D := D) (ci := 10) (v := .ref a83) (C := RX10) (T := TX10) (N := 20) hx hb hg inGX10 hown hKN.1 hP p124 hk125 rfl 0 (by decide) (hg _ kw_349) (fun _ h9 => h9) rfl dX10_world_94 ?_
                refine va_getN (D := D) (ci := 6) (v := .ref a138) (C := RX6) (T := TX6) (N := 13) hx hb hg inGX6 hown hKN.1 hP p169 hk170 rfl 3 (by decide) (va_Nw.use rfl (hKN.2.1 _ kn_46 rfl)) (fun _ h9 => h9) rfl dX10_world_97 ?_
                refine lv_aload_n hx hb dX10_world_100 rfl (lv_at hl 2 rfl) ?_
                refine va_get (D := D) (ci := 10) (v := .ref a83) (C := RX10) (T := TX10) (N := 20) hx hb hg inGX10 hown hKN.1 hP p124 hk125 rfl 0 (by decide) (hg _ kw_349) (fun _ h9 => h9) rfl dX10_world_101 ?_
                refine va_getN (D := D) (ci := 6) (v := .int x137) (C := RX6) (T := TX6) (N := 13) hx hb hg inGX6 hown hKN.1 hP p169 hk170 rfl 2 (by decide) (va_Nw.use rfl (hKN.2.1 _ kn_44 rfl)) (fun _ h9 => h9) rfl dX10_world_104 ?_
                refine va_new (ci := 9) (fs := [.int 0, .int 0, .int 0, .int 0, .int 0, .int 0]) (C := RX9) (T := TX9) (N := 6) hx hb hg inGX9 tyX9 tyX9_ok hown (hg _ kw_562) (hg _ kw_563) (hg _ kw_15) hKN.1 hP hD hS hA rfl (fun j hj => by rcases (show j = 0 ∨ j = 1 ∨ j = 2 ∨ j = 3 ∨ j = 4 ∨ j = 5 by omega) with rfl | rfl | rfl | rfl | rfl | rfl <;> rfl) (Nat.le_of_ble_eq_true rfl) (Nat.le_of_ble_eq_true rfl) dX10_world_107 (fun b172 H hP hD hS => ?_)
                refine W.widen (k := 1) (n := 6) (Nat.le_of_ble_eq_true rfl) (Nat.le_of_ble_eq_true rfl) ?_
                refine lv_dup hx hb dX10_world_110 rfl ?_
                refine lv_iload_n hx hb dX10_world_111 rfl (lv_at hl 3 rfl) ?_
                refine lv_iload_n hx hb dX10_world_112 rfl (lv_at hl 4 rfl) ?_
                refine lv_iload_n hx hb dX10_world_113 rfl (lv_at hl 5 rfl) ?_
                refine lv_iload hx hb dX10_world_114 (lv_at hl 6 rfl) ?_
                refine lv_iload hx hb dX10_world_116 (lv_at hl 7 rfl) ?_
                refine lv_iload hx hb dX10_world_118 (lv_at hl 8 rfl) ?_
                have hP173 : va_P D vwCl [(b172, .inr (9, [.int 0, .int 0, .int 0, .int 0, .int 0, .int 0]))] H := va_P.last hP
                have hD174 : va_D A [(b172, .inr (9, [.int 0, .int 0, .int 0, .int 0, .int 0, .int 0]))] := va_D.last hD
                refine cgn (rn_NI (As := [.int p1, .int p2, .int p3, .int p4, .int p5, .int p6]) (rest := [.ref b172, .int x137, .ref a138]) (b := b172) (c_X9 l D Y Z H.size b172 p1 p2 p3 p4 p5 p6 (show (0 ≤ p6.toInt ∧ p6.toInt ≤ 1) by omega)) ⟨hx, hb, hml, hown, hg⟩ hKN lk_X10_159 ⟨CP.blind, CP.at hP173 hKN hD174⟩ ⟨⟨rfl, rfl⟩, ⟨Nat.le_of_ble_eq_true rfl, Nat.le_of_ble_eq_true rfl⟩, ⟨(Nat.le_of_ble_eq_true rfl), (Nat.le_of_ble_eq_true rfl)⟩⟩ hl.1 rfl (Nat.le_of_ble_eq_true rfl) dX10_world_120) hP hD hS hA (fun u175 H locs hw176 hP hD hS => ?_)
                refine W.eq (g2 := F0 m 123 ls [.ref b172, .int x137, .ref a138]) rfl ?_
                obtain ⟨w178, T177, hP, hD, hT, le179, ht180, ex181⟩ := nw_X9 ⟨by omega, by omega⟩ hT hP hD
                have ke182 : KF 1 T ws w178 := KF.tr KF.rf (KF.ex ex181.1)
                have ke183 : KF 6 T ws w178 := KF.tr KF.rf (KF.ex ex181.1)
                have hk184 := ex181.1 _ _ hk125
                have hk185 := ex181.1 _ _ hk170
                refine tr_st18 hx hb hKN hP hD hS hT (le179.up h154) ht180 (vp_in_iff.mpr ⟨by omega, by omega⟩) dX10_world_123 (fun w186 H locs hP hD hS hT kp187 => ?_)
                have ke188 : KF 1 T ws w186 := KF.tr ke182 (KF.le (by decide) le179 (KF.kp kp187 (le179.up h154) (by decide)))
                have ke189 : KF 6 T ws w186 := KF.tr ke183 (KF.le (by decide) le179 (KF.kp kp187 (le179.up h154) (by decide)))
                have hk190 := kp187 _ _ hk184 (rne (le179.up ht0) (le179.up h154) (by decide))
                have hk191 := kp187 _ _ hk185 (rne (le179.up h103) (le179.up h154) (by decide))
                refine lv_aload_n hx hb dX10_world_124 rfl (lv_at hl 2 rfl) ?_
                refine va_get (D := D) (ci := 10) (v := .ref a83) (C := RX10) (T := TX10) (N := 20) hx hb hg inGX10 hown hKN.1 hP p124 hk190 rfl 0 (by decide) (hg _ kw_349) (fun _ h9 => h9) rfl dX10_world_125 ?_
                refine lv_dup hx hb dX10_world_128 rfl ?_
                refine va_getN (D := D) (ci := 6) (v := .int x137) (C := RX6) (T := TX6) (N := 13) hx hb hg inGX6 hown hKN.1 hP p169 hk191 rfl 2 (by decide) (va_Nw.use rfl (hKN.2.1 _ kn_44 rfl)) (fun _ h9 => h9) rfl dX10_world_129 ?_
                refine lv_iconst (v := 1) hx hb dX10_world_132 (by decide) ?_
                refine lv_iadd hx hb dX10_world_133 ?_
                refine lv_topi (fun v192 ev192 => ?_)
                have hv192 := i_add (Eq.refl x137.toInt) (show (1 : Int32).toInt = 1 by decide) ev192 (by omega) (by omega)
                refine va_putN (D := D) (ci := 6) (v := .int v192) (ty := .int) (C := RX6) (T := TX6) (N := 13) hx hb hg inGX6 tyX6 tyX6_ok nmX6 hown hKN.1 hP hD hS p169 hk191 rfl 2 (by decide) (va_Nw.use rfl (hKN.2.1 _ kn_44 rfl)) (fun _ h9 => h9) rfl (by decide +kernel) rfl rfl (Nat.le_of_ble_eq_true rfl) dX10_world_134 (fun H locs hP hD2 hS => ?_)
                obtain ⟨w193, g196, eg196, hP, hD, hT, hk195, kp194⟩ : ∃ wz gz, gz = gset g a83 2 v192 ∧ va_P D vwCl wz H ∧ va_D A wz ∧ TW Y Z T177 gz q wz ∧ wz[p169]? = some (a83, .inr (6, (.int x135 :: .ref a136 :: .int v192 :: .ref a138 :: .int x139 :: .ref a140 :: .ref a141 :: .int x142 :: .ref a143 :: .ref a144 :: .int x145 :: .ref a146 :: .int x147 :: []))) ∧ Kp a83 w186 wz := ⟨_, _, rfl, hP, hD2, tw_sg (k := 2) (g2 := gset g a83 2 v192) (q2 := q) hT hD hk191 (le179.up h103) (fun _ hc => gset_ne hc) (fun _ _ => rfl) (show Sh2 Y Z T177 ((gset g a83 2 v192) a83) (q a83) 0 0 _ from ⟨x135, a136, v192, a138, x139, a140, a141, x142, a143, a144, x145, a146, x147, rfl, by omega, ((gs_ne (by decide)).trans h149), (le179.up h150), h151, by omega, gs_eq, (le179.up h154), by omega, ((gs_ne (by decide)).trans h156), (le179.up h157), h158, (le179.up h159), h160, by omega, ((gs_ne (by decide)).trans h162), (le179.up h163), (le179.up h164), by omega, ((gs_ne (by decide)).trans h166), (le179.up h167), by omega⟩), sw_eq hk191, sw_kp hk191⟩
                have hg197 : g196 a83 0 = x135 := by rw [eg196]; exact ((gs_ne (by decide)).trans h149)
                have hg198 : g196 a83 2 = v192 := by rw [eg196]; exact gs_eq
                have hg199 : g196 a83 4 = x139 := by rw [eg196]; exact ((gs_ne (by decide)).trans h156)
                have hg200 : g196 a83 7 = x142 := by rw [eg196]; exact ((gs_ne (by decide)).trans h162)
                have hg201 : g196 a83 10 = x145 := by rw [eg196]; exact ((gs_ne (by decide)).trans h166)
                have ke202 : KF 1 T ws w193 := KF.tr ke188 (KF.le (by decide) le179 (KF.kp kp194 (le179.up h103) (by decide)))
                have ke203 : KF 6 T ws w193 := KF.tr ke189 (KF.le (by decide) le179 (KF.kp kp194 (le179.up h103) (by decide)))
                have hk204 := kp194 _ _ hk190 (rne (le179.up ht0) (le179.up h103) (by decide))
                refine lv_aload_n hx hb dX10_world_137 rfl (lv_at hl 2 rfl) ?_
                refine va_get (D := D) (ci := 10) (v := .ref a83) (C := RX10) (T := TX10) (N := 20) hx hb hg inGX10 hown hKN.1 hP p124 hk204 rfl 0 (by decide) (hg _ kw_349) (fun _ h9 => h9) rfl dX10_world_138 ?_
                refine va_getN (D := D) (ci := 6) (v := .int v192) (C := RX6) (T := TX6) (N := 13) hx hb hg inGX6 hown hKN.1 hP p169 hk195 rfl 2 (by decide) (va_Nw.use rfl (hKN.2.1 _ kn_44 rfl)) (fun _ h9 => h9) rfl dX10_world_141 ?_
                refine lv_iconst (v := 1) hx hb dX10_world_144 (by decide) ?_
                refine lv_isub hx hb dX10_world_145 ?_
                refine lv_topi (fun v205 ev205 => ?_)
                have hv205 := i_sub (Eq.refl v192.toInt) (show (1 : Int32).toInt = 1 by decide) ev205 (by omega) (by omega)
                refine W.widen (k := 1) (n := 6) (Nat.le_of_ble_eq_true rfl) (Nat.le_of_ble_eq_true rfl) ?_
                exact W.iret (v := v205) hx hb hr (fun t ht hW => ⟨⟨(v205, w193, T177, g196), rfl, ⟨le179, hT, ke202, ke203⟩, CB.mk ht hP hD⟩, hS.F ht⟩) hS.2.2 dX10_world_146
              · skip
                have c171 := i_nlt (Eq.refl x137.toInt) (show (40 : Int32).toInt = 40 by decide) c171
                refine lv_iconst (v := (-1)) hx hb dX10_world_91 (by decide) ?_
                refine W.widen (k := 1) (n := 6) (Nat.le_of_ble_eq_true rfl) (Nat.le_of_ble_eq_true rfl) ?_
                have zim1 : ((-1) : Int32).toInt = -1 := by decide
                exact W.iret (v := (-1)) hx hb hr (fun t ht hW => ⟨⟨(((-1)), ws, T, g), rfl, ⟨TLe.rf, hT, KF.rf, KF.rf⟩, CB.mk ht hP hD⟩, hS.F ht⟩) hS.2.2 dX10_world_92
            · obtain rfl : u126 = 0 := i_is c131 (by decide)
              have zi0 : (0 : Int32).toInt = 0 := by decide
              clear hw130
              refine W.eq (g2 := F0 m 66 ls [.int 0]) rfl ?_
              refine lv_if_eq (tgt := 91) hx hb dX10_world_66 (by decide) (fun c206 => ?_) (fun c206 => ?_)
              rotate_left
              · exact absurd c206 (by decide)
              refine lv_iconst (v := (-1)) hx hb dX10_world_91 (by decide) ?_
              refine W.widen (k := 1) (n := 6) (Nat.le_of_ble_eq_true rfl) (Nat.le_of_ble_eq_true rfl) ?_
              have zim1 : ((-1) : Int32).toInt = -1 := by decide
              exact W.iret (v := (-1)) hx hb hr (fun t ht hW => ⟨⟨(((-1)), ws, T, g), rfl, ⟨TLe.rf, hT, KF.rf, KF.rf⟩, CB.mk ht hP hD⟩, hS.F ht⟩) hS.2.2 dX10_world_92
          · obtain rfl : u76 = 0 := i_is c81 (by decide)
            have zi0 : (0 : Int32).toInt = 0 := by decide
            refine W.eq (g2 := F0 m 51 ls [.int 0]) rfl ?_
            refine lv_if_eq (tgt := 58) hx hb dX10_world_51 (by decide) (fun c207 => ?_) (fun c207 => ?_)
            rotate_left
            · exact absurd c207 (by decide)
            refine lv_iconst (v := 0) hx hb dX10_world_58 (by decide) ?_
            refine lv_istore (lv' := [(8, .int 0), (7, .int 1), (0, .ref p0), (1, .int p1), (2, .int p2), (3, .int p3), (4, .int p4), (5, .int p5), (6, .int p6)]) hx hb dX10_world_59 hl (by decide) rfl (fun ls hl => ?_)
            refine lv_aload_n hx hb dX10_world_61 rfl (lv_at hl 2 rfl) ?_
            refine lv_iload_n hx hb dX10_world_62 rfl (lv_at hl 3 rfl) ?_
            obtain ⟨p249, _, hk250, a208, a209, a210, a211, a212, x213, x214, x215, a216, a217, a218, a219, a220, a221, a222, a223, a224, x225, a226, a227, rfl, h228, h229, h230, h231, h232, h233, h234, h235, h236, h237, h238, h239, h240, h241, h242, h243, h244, h245, h246, h247, h248⟩ := op1 hT ht0
            refine cga (rn_V (As := [.int p1]) (rest := []) (b := p0) (x_X10_isStar l D Y Z H.size ws T g q p0 p1 hT ht0) ⟨hx, hb, hml, hown, hg⟩ lk_X10_137 ⟨CPC.blind, va_recv hKN.1 hP (ci := 10) (q0 := p249) rfl hk250, CPC.at hP hKN hD hSZ hS hA⟩ ⟨⟨rfl, rfl⟩, ⟨Nat.le_of_ble_eq_true rfl, Nat.le_of_ble_eq_true rfl⟩, ⟨(Nat.le_of_ble_eq_true rfl), (Nat.le_of_ble_eq_true rfl)⟩⟩ hl.1 rfl (Nat.le_of_ble_eq_true rfl) dX10_world_63) hP hD hS hA (fun u251 H locs hw252 hP hD hS => ?_)
            obtain ⟨hw254, hw255⟩ : (0 ≤ u251.toInt ∧ u251.toInt ≤ 1) ∧ (u251.toInt = 1 → (0 ≤ p1.toInt ∧ p1.toInt ≤ 11)) := hw252
            refine W.eq (g2 := F0 m 66 ls [.int u251]) rfl ?_
            rcases (show u251.toInt = 1 ∨ u251.toInt = 0 by omega) with c256 | c256
            · obtain rfl : u251 = 1 := i_is c256 (by decide)
              replace hw255 := hw255 (by decide)
              refine W.eq (g2 := F0 m 66 ls [.int 1]) rfl ?_
              refine lv_if_eq (tgt := 91) hx hb dX10_world_66 (by decide) (fun c257 => ?_) (fun c257 => ?_)
              · exact absurd c257 (by decide)
              refine lv_iload hx hb dX10_world_69 (lv_at hl 1 rfl) ?_
              refine lv_if_eq (tgt := 91) hx hb dX10_world_71 (by decide) (fun c258 => ?_) (fun c258 => ?_)
              · exact absurd c258 (by decide)
              refine lv_iload hx hb dX10_world_74 (lv_at hl 0 rfl) ?_
              refine lv_if_eq (tgt := 91) hx hb dX10_world_76 (by decide) (fun c259 => ?_) (fun c259 => ?_)
              rotate_left
              · exact absurd c259 (by decide)
              refine lv_iconst (v := (-1)) hx hb dX10_world_91 (by decide) ?_
              refine W.widen (k := 1) (n := 6) (Nat.le_of_ble_eq_true rfl) (Nat.le_of_ble_eq_true rfl) ?_
              have zim1 : ((-1) : Int32).toInt = -1 := by decide
              exact W.iret (v := (-1)) hx hb hr (fun t ht hW => ⟨⟨(((-1)), ws, T, g), rfl, ⟨TLe.rf, hT, KF.rf, KF.rf⟩, CB.mk ht hP hD⟩, hS.F ht⟩) hS.2.2 dX10_world_92
            · obtain rfl : u251 = 0 := i_is c256 (by decide)
              clear hw255
              refine W.eq (g2 := F0 m 66 ls [.int 0]) rfl ?_
              refine lv_if_eq (tgt := 91) hx hb dX10_world_66 (by decide) (fun c260 => ?_) (fun c260 => ?_)
              rotate_left
              · exact absurd c260 (by decide)
              refine lv_iconst (v := (-1)) hx hb dX10_world_91 (by decide) ?_
              refine W.widen (k := 1) (n := 6) (Nat.le_of_ble_eq_true rfl) (Nat.le_of_ble_eq_true rfl) ?_
              have zim1 : ((-1) : Int32).toInt = -1 := by decide
              exact W.iret (v := (-1)) hx hb hr (fun t ht hW => ⟨⟨(((-1)), ws, T, g), rfl, ⟨TLe.rf, hT, KF.rf, KF.rf⟩, CB.mk ht hP hD⟩, hS.F ht⟩) hS.2.2 dX10_world_92
      · obtain rfl : u15 = 0 := i_is c20 (by decide)
        have zi0 : (0 : Int32).toInt = 0 := by decide
        refine W.eq (g2 := F0 m 33 ls [.int 0]) rfl ?_
        refine lv_if_eq (tgt := 58) hx hb dX10_world_33 (by decide) (fun c261 => ?_) (fun c261 => ?_)
        rotate_left
        · exact absurd c261 (by decide)
        refine lv_iconst (v := 0) hx hb dX10_world_58 (by decide) ?_
        refine lv_istore (lv' := [(8, .int 0), (7, .int 1), (0, .ref p0), (1, .int p1), (2, .int p2), (3, .int p3), (4, .int p4), (5, .int p5), (6, .int p6)]) hx hb dX10_world_59 hl (by decide) rfl (fun ls hl => ?_)
        refine lv_aload_n hx hb dX10_world_61 rfl (lv_at hl 2 rfl) ?_
        refine lv_iload_n hx hb dX10_world_62 rfl (lv_at hl 3 rfl) ?_
        obtain ⟨p303, _, hk304, a262, a263, a264, a265, a266, x267, x268, x269, a270, a271, a272, a273, a274, a275, a276, a277, a278, x279, a280, a281, rfl, h282, h283, h284, h285, h286, h287, h288, h289, h290, h291, h292, h293, h294, h295, h296, h297, h298, h299, h300, h301, h302⟩ := op1 hT ht0
        refine cga (rn_V (As := [.int p1]) (rest := []) (b := p0) (x_X10_isStar l D Y Z H.size ws T g q p0 p1 hT ht0) ⟨hx, hb, hml, hown, hg⟩ lk_X10_137 ⟨CPC.blind, va_recv hKN.1 hP (ci := 10) (q0 := p303) rfl hk304, CPC.at hP hKN hD hSZ hS hA⟩ ⟨⟨rfl, rfl⟩, ⟨Nat.le_of_ble_eq_true rfl, Nat.le_of_ble_eq_true rfl⟩, ⟨(Nat.le_of_ble_eq_true rfl), (Nat.le_of_ble_eq_true rfl)⟩⟩ hl.1 rfl (Nat.le_of_ble_eq_true rfl) dX10_world_63) hP hD hS hA (fun u305 H locs hw306 hP hD hS => ?_)
        obtain ⟨hw308, hw309⟩ : (0 ≤ u305.toInt ∧ u305.toInt ≤ 1) ∧ (u305.toInt = 1 → (0 ≤ p1.toInt ∧ p1.toInt ≤ 11)) := hw306
        refine W.eq (g2 := F0 m 66 ls [.int u305]) rfl ?_
        rcases (show u305.toInt = 1 ∨ u305.toInt = 0 by omega) with c310 | c310
        · obtain rfl : u305 = 1 := i_is c310 (by decide)
          replace hw309 := hw309 (by decide)
          refine W.eq (g2 := F0 m 66 ls [.int 1]) rfl ?_
          refine lv_if_eq (tgt := 91) hx hb dX10_world_66 (by decide) (fun c311 => ?_) (fun c311 => ?_)
          · exact absurd c311 (by decide)
          refine lv_iload hx hb dX10_world_69 (lv_at hl 1 rfl) ?_
          refine lv_if_eq (tgt := 91) hx hb dX10_world_71 (by decide) (fun c312 => ?_) (fun c312 => ?_)
          · exact absurd c312 (by decide)
          refine lv_iload hx hb dX10_world_74 (lv_at hl 0 rfl) ?_
          refine lv_if_eq (tgt := 91) hx hb dX10_world_76 (by decide) (fun c313 => ?_) (fun c313 => ?_)
          rotate_left
          · exact absurd c313 (by decide)
          refine lv_iconst (v := (-1)) hx hb dX10_world_91 (by decide) ?_
          refine W.widen (k := 1) (n := 6) (Nat.le_of_ble_eq_true rfl) (Nat.le_of_ble_eq_true rfl) ?_
          have zim1 : ((-1) : Int32).toInt = -1 := by decide
          exact W.iret (v := (-1)) hx hb hr (fun t ht hW => ⟨⟨(((-1)), ws, T, g), rfl, ⟨TLe.rf, hT, KF.rf, KF.rf⟩, CB.mk ht hP hD⟩, hS.F ht⟩) hS.2.2 dX10_world_92
        · obtain rfl : u305 = 0 := i_is c310 (by decide)
          clear hw309
          refine W.eq (g2 := F0 m 66 ls [.int 0]) rfl ?_
          refine lv_if_eq (tgt := 91) hx hb dX10_world_66 (by decide) (fun c314 => ?_) (fun c314 => ?_)
          rotate_left
          · exact absurd c314 (by decide)
          refine lv_iconst (v := (-1)) hx hb dX10_world_91 (by decide) ?_
          refine W.widen (k := 1) (n := 6) (Nat.le_of_ble_eq_true rfl) (Nat.le_of_ble_eq_true rfl) ?_
          have zim1 : ((-1) : Int32).toInt = -1 := by decide
          exact W.iret (v := (-1)) hx hb hr (fun t ht hW => ⟨⟨(((-1)), ws, T, g), rfl, ⟨TLe.rf, hT, KF.rf, KF.rf⟩, CB.mk ht hP hD⟩, hS.F ht⟩) hS.2.2 dX10_world_92
    · obtain rfl : u8 = 0 := i_is c13 (by decide)
      have zi0 : (0 : Int32).toInt = 0 := by decide
      refine W.eq (g2 := F0 m 15 ls [.int 0]) rfl ?_
      refine lv_if_eq (tgt := 22) hx hb dX10_world_15 (by decide) (fun c315 => ?_) (fun c315 => ?_)
      rotate_left
      · exact absurd c315 (by decide)
      refine lv_iconst (v := 0) hx hb dX10_world_22 (by decide) ?_
      refine lv_istore (lv' := [(7, .int 0), (0, .ref p0), (1, .int p1), (2, .int p2), (3, .int p3), (4, .int p4), (5, .int p5), (6, .int p6)]) hx hb dX10_world_23 hl (by decide) rfl (fun ls hl => ?_)
      refine lv_iload hx hb dX10_world_25 (lv_at hl 5 rfl) ?_
      refine lv_iconst (v := 1) hx hb dX10_world_27 (by decide) ?_
      refine lv_bipush (v := 30) hx hb dX10_world_28 (by decide) ?_
      have zi30 : (30 : Int32).toInt = 30 := by decide
      refine cg0 (rn_S (As := [.int p4, .int 1, .int 30]) (rest := []) (x_X10_isWithin l D Y Z H.size p4 1 30) ⟨hx, hb, hml, hown, hg⟩ lk_X10_100 ⟨CP.blind, CP.at nilP hKN (nilD (A := fun _ => True))⟩ ⟨⟨rfl, rfl⟩, ⟨Nat.le_of_ble_eq_true rfl, Nat.le_of_ble_eq_true rfl⟩, ⟨(Nat.le_of_ble_eq_true rfl), (Nat.le_of_ble_eq_true rfl)⟩⟩ hl.1 rfl (Nat.le_of_ble_eq_true rfl) dX10_world_30) hP hS hA (fun u316 H locs hw317 hP hS => ?_)
      obtain ⟨hw319, hw320⟩ : (((1 : Int32).toInt ≤ p4.toInt ∧ p4.toInt ≤ (30 : Int32).toInt ∧ u316.toInt = 1) ∨ (¬ ((1 : Int32).toInt ≤ p4.toInt ∧ p4.toInt ≤ (30 : Int32).toInt) ∧ u316.toInt = 0)) ∧ (0 ≤ u316.toInt ∧ u316.toInt ≤ 1) := hw317
      refine W.eq (g2 := F0 m 33 ls [.int u316]) rfl ?_
      rcases (show u316.toInt = 1 ∨ u316.toInt = 0 by omega) with c321 | c321
      · obtain rfl : u316 = 1 := i_is c321 (by decide)
        refine W.eq (g2 := F0 m 33 ls [.int 1]) rfl ?_
        refine lv_if_eq (tgt := 58) hx hb dX10_world_33 (by decide) (fun c322 => ?_) (fun c322 => ?_)
        · exact absurd c322 (by decide)
        refine lv_iload hx hb dX10_world_36 (lv_at hl 5 rfl) ?_
        refine lv_iload_n hx hb dX10_world_38 rfl (lv_at hl 3 rfl) ?_
        refine lv_icmp_ge (tgt := 58) hx hb dX10_world_39 (by decide) (fun c323 => ?_) (fun c323 => ?_)
        · skip
          have c323 := i_le (Eq.refl p2.toInt) (Eq.refl p4.toInt) c323
          refine lv_iconst (v := 0) hx hb dX10_world_58 (by decide) ?_
          refine lv_istore (lv' := [(8, .int 0), (7, .int 0), (0, .ref p0), (1, .int p1), (2, .int p2), (3, .int p3), (4, .int p4), (5, .int p5), (6, .int p6)]) hx hb dX10_world_59 hl (by decide) rfl (fun ls hl => ?_)
          refine lv_aload_n hx hb dX10_world_61 rfl (lv_at hl 2 rfl) ?_
          refine lv_iload_n hx hb dX10_world_62 rfl (lv_at hl 3 rfl) ?_
          obtain ⟨p365, _, hk366, a324, a325, a326, a327, a328, x329, x330, x331, a332, a333, a334, a335, a336, a337, a338, a339, a340, x341, a342, a343, rfl, h344, h345, h346, h347, h348, h349, h350, h351, h352, h353, h354, h355, h356, h357, h358, h359, h360, h361, h362, h363, h364⟩ := op1 hT ht0
          refine cga (rn_V (As := [.int p1]) (rest := []) (b := p0) (x_X10_isStar l D Y Z H.size ws T g q p0 p1 hT ht0) ⟨hx, hb, hml, hown, hg⟩ lk_X10_137 ⟨CPC.blind, va_recv hKN.1 hP (ci := 10) (q0 := p365) rfl hk366, CPC.at hP hKN hD hSZ hS hA⟩ ⟨⟨rfl, rfl⟩, ⟨Nat.le_of_ble_eq_true rfl, Nat.le_of_ble_eq_true rfl⟩, ⟨(Nat.le_of_ble_eq_true rfl), (Nat.le_of_ble_eq_true rfl)⟩⟩ hl.1 rfl (Nat.le_of_ble_eq_true rfl) dX10_world_63) hP hD hS hA (fun u367 H locs hw368 hP hD hS => ?_)
          obtain ⟨hw370, hw371⟩ : (0 ≤ u367.toInt ∧ u367.toInt ≤ 1) ∧ (u367.toInt = 1 → (0 ≤ p1.toInt ∧ p1.toInt ≤ 11)) := hw368
          refine W.eq (g2 := F0 m 66 ls [.int u367]) rfl ?_
          rcases (show u367.toInt = 1 ∨ u367.toInt = 0 by omega) with c372 | c372
          · obtain rfl : u367 = 1 := i_is c372 (by decide)
            replace hw371 := hw371 (by decide)
            refine W.eq (g2 := F0 m 66 ls [.int 1]) rfl ?_
            refine lv_if_eq (tgt := 91) hx hb dX10_world_66 (by decide) (fun c373 => ?_) (fun c373 => ?_)
            · exact absurd c373 (by decide)
            refine lv_iload hx hb dX10_world_69 (lv_at hl 1 rfl) ?_
            refine lv_if_eq (tgt := 91) hx hb dX10_world_71 (by decide) (fun c374 => ?_) (fun c374 => ?_)
            rotate_left
            · exact absurd c374 (by decide)
            refine lv_iconst (v := (-1)) hx hb dX10_world_91 (by decide) ?_
            refine W.widen (k := 1) (n := 6) (Nat.le_of_ble_eq_true rfl) (Nat.le_of_ble_eq_true rfl) ?_
            have zim1 : ((-1) : Int32).toInt = -1 := by decide
            exact W.iret (v := (-1)) hx hb hr (fun t ht hW => ⟨⟨(((-1)), ws, T, g), rfl, ⟨TLe.rf, hT, KF.rf, KF.rf⟩, CB.mk ht hP hD⟩, hS.F ht⟩) hS.2.2 dX10_world_92
          · obtain rfl : u367 = 0 := i_is c372 (by decide)
            clear hw371
            refine W.eq (g2 := F0 m 66 ls [.int 0]) rfl ?_
            refine lv_if_eq (tgt := 91) hx hb dX10_world_66 (by decide) (fun c375 => ?_) (fun c375 => ?_)
            rotate_left
            · exact absurd c375 (by decide)
            refine lv_iconst (v := (-1)) hx hb dX10_world_91 (by decide) ?_
            refine W.widen (k := 1) (n := 6) (Nat.le_of_ble_eq_true rfl) (Nat.le_of_ble_eq_true rfl) ?_
            have zim1 : ((-1) : Int32).toInt = -1 := by decide
            exact W.iret (v := (-1)) hx hb hr (fun t ht hW => ⟨⟨(((-1)), ws, T, g), rfl, ⟨TLe.rf, hT, KF.rf, KF.rf⟩, CB.mk ht hP hD⟩, hS.F ht⟩) hS.2.2 dX10_world_92
        · skip
          have c323 := i_nle (Eq.refl p2.toInt) (Eq.refl p4.toInt) c323
          refine lv_iload hx hb dX10_world_42 (lv_at hl 6 rfl) ?_
          refine lv_iconst (v := 1) hx hb dX10_world_44 (by decide) ?_
          refine lv_sipush (v := 30000) hx hb dX10_world_45 (by decide) ?_
          have zi30000 : (30000 : Int32).toInt = 30000 := by decide
          refine cg0 (rn_S (As := [.int p5, .int 1, .int 30000]) (rest := []) (x_X10_isWithin l D Y Z H.size p5 1 30000) ⟨hx, hb, hml, hown, hg⟩ lk_X10_100 ⟨CP.blind, CP.at nilP hKN (nilD (A := fun _ => True))⟩ ⟨⟨rfl, rfl⟩, ⟨Nat.le_of_ble_eq_true rfl, Nat.le_of_ble_eq_true rfl⟩, ⟨(Nat.le_of_ble_eq_true rfl), (Nat.le_of_ble_eq_true rfl)⟩⟩ hl.1 rfl (Nat.le_of_ble_eq_true rfl) dX10_world_48) hP hS hA (fun u376 H locs hw377 hP hS => ?_)
          obtain ⟨hw379, hw380⟩ : (((1 : Int32).toInt ≤ p5.toInt ∧ p5.toInt ≤ (30000 : Int32).toInt ∧ u376.toInt = 1) ∨ (¬ ((1 : Int32).toInt ≤ p5.toInt ∧ p5.toInt ≤ (30000 : Int32).toInt) ∧ u376.toInt = 0)) ∧ (0 ≤ u376.toInt ∧ u376.toInt ≤ 1) := hw377
          refine W.eq (g2 := F0 m 51 ls [.int u376]) rfl ?_
          rcases (show u376.toInt = 1 ∨ u376.toInt = 0 by omega) with c381 | c381
          · obtain rfl : u376 = 1 := i_is c381 (by decide)
            refine W.eq (g2 := F0 m 51 ls [.int 1]) rfl ?_
            refine lv_if_eq (tgt := 58) hx hb dX10_world_51 (by decide) (fun c382 => ?_) (fun c382 => ?_)
            · exact absurd c382 (by decide)
            refine lv_iconst (v := 1) hx hb dX10_world_54 (by decide) ?_
            refine lv_goto (tgt := 59) hx hb dX10_world_55 (by decide) ?_
            refine lv_istore (lv' := [(8, .int 1), (7, .int 0), (0, .ref p0), (1, .int p1), (2, .int p2), (3, .int p3), (4, .int p4), (5, .int p5), (6, .int p6)]) hx hb dX10_world_59 hl (by decide) rfl (fun ls hl => ?_)
            refine lv_aload_n hx hb dX10_world_61 rfl (lv_at hl 2 rfl) ?_
            refine lv_iload_n hx hb dX10_world_62 rfl (lv_at hl 3 rfl) ?_
            obtain ⟨p424, _, hk425, a383, a384, a385, a386, a387, x388, x389, x390, a391, a392, a393, a394, a395, a396, a397, a398, a399, x400, a401, a402, rfl, h403, h404, h405, h406, h407, h408, h409, h410, h411, h412, h413, h414, h415, h416, h417, h418, h419, h420, h421, h422, h423⟩ := op1 hT ht0
            refine cga (rn_V (As := [.int p1]) (rest := []) (b := p0) (x_X10_isStar l D Y Z H.size ws T g q p0 p1 hT ht0) ⟨hx, hb, hml, hown, hg⟩ lk_X10_137 ⟨CPC.blind, va_recv hKN.1 hP (ci := 10) (q0 := p424) rfl hk425, CPC.at hP hKN hD hSZ hS hA⟩ ⟨⟨rfl, rfl⟩, ⟨Nat.le_of_ble_eq_true rfl, Nat.le_of_ble_eq_true rfl⟩, ⟨(Nat.le_of_ble_eq_true rfl), (Nat.le_of_ble_eq_true rfl)⟩⟩ hl.1 rfl (Nat.le_of_ble_eq_true rfl) dX10_world_63) hP hD hS hA (fun u426 H locs hw427 hP hD hS => ?_)
            obtain ⟨hw429, hw430⟩ : (0 ≤ u426.toInt ∧ u426.toInt ≤ 1) ∧ (u426.toInt = 1 → (0 ≤ p1.toInt ∧ p1.toInt ≤ 11)) := hw427
            refine W.eq (g2 := F0 m 66 ls [.int u426]) rfl ?_
            rcases (show u426.toInt = 1 ∨ u426.toInt = 0 by omega) with c431 | c431
            · obtain rfl : u426 = 1 := i_is c431 (by decide)
              replace hw430 := hw430 (by decide)
              refine W.eq (g2 := F0 m 66 ls [.int 1]) rfl ?_
              refine lv_if_eq (tgt := 91) hx hb dX10_world_66 (by decide) (fun c432 => ?_) (fun c432 => ?_)
              · exact absurd c432 (by decide)
              refine lv_iload hx hb dX10_world_69 (lv_at hl 1 rfl) ?_
              refine lv_if_eq (tgt := 91) hx hb dX10_world_71 (by decide) (fun c433 => ?_) (fun c433 => ?_)
              rotate_left
              · exact absurd c433 (by decide)
              refine lv_iconst (v := (-1)) hx hb dX10_world_91 (by decide) ?_
              refine W.widen (k := 1) (n := 6) (Nat.le_of_ble_eq_true rfl) (Nat.le_of_ble_eq_true rfl) ?_
              have zim1 : ((-1) : Int32).toInt = -1 := by decide
              exact W.iret (v := (-1)) hx hb hr (fun t ht hW => ⟨⟨(((-1)), ws, T, g), rfl, ⟨TLe.rf, hT, KF.rf, KF.rf⟩, CB.mk ht hP hD⟩, hS.F ht⟩) hS.2.2 dX10_world_92
            · obtain rfl : u426 = 0 := i_is c431 (by decide)
              clear hw430
              refine W.eq (g2 := F0 m 66 ls [.int 0]) rfl ?_
              refine lv_if_eq (tgt := 91) hx hb dX10_world_66 (by decide) (fun c434 => ?_) (fun c434 => ?_)
              rotate_left
              · exact absurd c434 (by decide)
              refine lv_iconst (v := (-1)) hx hb dX10_world_91 (by decide) ?_
              refine W.widen (k := 1) (n := 6) (Nat.le_of_ble_eq_true rfl) (Nat.le_of_ble_eq_true rfl) ?_
              have zim1 : ((-1) : Int32).toInt = -1 := by decide
              exact W.iret (v := (-1)) hx hb hr (fun t ht hW => ⟨⟨(((-1)), ws, T, g), rfl, ⟨TLe.rf, hT, KF.rf, KF.rf⟩, CB.mk ht hP hD⟩, hS.F ht⟩) hS.2.2 dX10_world_92
          · obtain rfl : u376 = 0 := i_is c381 (by decide)
            refine W.eq (g2 := F0 m 51 ls [.int 0]) rfl ?_
            refine lv_if_eq (tgt := 58) hx hb dX10_world_51 (by decide) (fun c435 => ?_) (fun c435 => ?_)
            rotate_left
            · exact absurd c435 (by decide)
            refine lv_iconst (v := 0) hx hb dX10_world_58 (by decide) ?_
            refine lv_istore (lv' := [(8, .int 0), (7, .int 0), (0, .ref p0), (1, .int p1), (2, .int p2), (3, .int p3), (4, .int p4), (5, .int p5), (6, .int p6)]) hx hb dX10_world_59 hl (by decide) rfl (fun ls hl => ?_)
            refine lv_aload_n hx hb dX10_world_61 rfl (lv_at hl 2 rfl) ?_
            refine lv_iload_n hx hb dX10_world_62 rfl (lv_at hl 3 rfl) ?_
            obtain ⟨p477, _, hk478, a436, a437, a438, a439, a440, x441, x442, x443, a444, a445, a446, a447, a448, a449, a450, a451, a452, x453, a454, a455, rfl, h456, h457, h458, h459, h460, h461, h462, h463, h464, h465, h466, h467, h468, h469, h470, h471, h472, h473, h474, h475, h476⟩ := op1 hT ht0
            refine cga (rn_V (As := [.int p1]) (rest := []) (b := p0) (x_X10_isStar l D Y Z H.size ws T g q p0 p1 hT ht0) ⟨hx, hb, hml, hown, hg⟩ lk_X10_137 ⟨CPC.blind, va_recv hKN.1 hP (ci := 10) (q0 := p477) rfl hk478, CPC.at hP hKN hD hSZ hS hA⟩ ⟨⟨rfl, rfl⟩, ⟨Nat.le_of_ble_eq_true rfl, Nat.le_of_ble_eq_true rfl⟩, ⟨(Nat.le_of_ble_eq_true rfl), (Nat.le_of_ble_eq_true rfl)⟩⟩ hl.1 rfl (Nat.le_of_ble_eq_true rfl) dX10_world_63) hP hD hS hA (fun u479 H locs hw480 hP hD hS => ?_)
            obtain ⟨hw482, hw483⟩ : (0 ≤ u479.toInt ∧ u479.toInt ≤ 1) ∧ (u479.toInt = 1 → (0 ≤ p1.toInt ∧ p1.toInt ≤ 11)) := hw480
            refine W.eq (g2 := F0 m 66 ls [.int u479]) rfl ?_
            rcases (show u479.toInt = 1 ∨ u479.toInt = 0 by omega) with c484 | c484
            · obtain rfl : u479 = 1 := i_is c484 (by decide)
              replace hw483 := hw483 (by decide)
              refine W.eq (g2 := F0 m 66 ls [.int 1]) rfl ?_
              refine lv_if_eq (tgt := 91) hx hb dX10_world_66 (by decide) (fun c485 => ?_) (fun c485 => ?_)
              · exact absurd c485 (by decide)
              refine lv_iload hx hb dX10_world_69 (lv_at hl 1 rfl) ?_
              refine lv_if_eq (tgt := 91) hx hb dX10_world_71 (by decide) (fun c486 => ?_) (fun c486 => ?_)
              rotate_left
              · exact absurd c486 (by decide)
              refine lv_iconst (v := (-1)) hx hb dX10_world_91 (by decide) ?_
              refine W.widen (k := 1) (n := 6) (Nat.le_of_ble_eq_true rfl) (Nat.le_of_ble_eq_true rfl) ?_
              have zim1 : ((-1) : Int32).toInt = -1 := by decide
              exact W.iret (v := (-1)) hx hb hr (fun t ht hW => ⟨⟨(((-1)), ws, T, g), rfl, ⟨TLe.rf, hT, KF.rf, KF.rf⟩, CB.mk ht hP hD⟩, hS.F ht⟩) hS.2.2 dX10_world_92
            · obtain rfl : u479 = 0 := i_is c484 (by decide)
              clear hw483
              refine W.eq (g2 := F0 m 66 ls [.int 0]) rfl ?_
              refine lv_if_eq (tgt := 91) hx hb dX10_world_66 (by decide) (fun c487 => ?_) (fun c487 => ?_)
              rotate_left
              · exact absurd c487 (by decide)
              refine lv_iconst (v := (-1)) hx hb dX10_world_91 (by decide) ?_
              refine W.widen (k := 1) (n := 6) (Nat.le_of_ble_eq_true rfl) (Nat.le_of_ble_eq_true rfl) ?_
              have zim1 : ((-1) : Int32).toInt = -1 := by decide
              exact W.iret (v := (-1)) hx hb hr (fun t ht hW => ⟨⟨(((-1)), ws, T, g), rfl, ⟨TLe.rf, hT, KF.rf, KF.rf⟩, CB.mk ht hP hD⟩, hS.F ht⟩) hS.2.2 dX10_world_92
      · obtain rfl : u316 = 0 := i_is c321 (by decide)
        refine W.eq (g2 := F0 m 33 ls [.int 0]) rfl ?_
        refine lv_if_eq (tgt := 58) hx hb dX10_world_33 (by decide) (fun c488 => ?_) (fun c488 => ?_)
        rotate_left
        · exact absurd c488 (by decide)
        refine lv_iconst (v := 0) hx hb dX10_world_58 (by decide) ?_
        refine lv_istore (lv' := [(8, .int 0), (7, .int 0), (0, .ref p0), (1, .int p1), (2, .int p2), (3, .int p3), (4, .int p4), (5, .int p5), (6, .int p6)]) hx hb dX10_world_59 hl (by decide) rfl (fun ls hl => ?_)
        refine lv_aload_n hx hb dX10_world_61 rfl (lv_at hl 2 rfl) ?_
        refine lv_iload_n hx hb dX10_world_62 rfl (lv_at hl 3 rfl) ?_
        obtain ⟨p530, _, hk531, a489, a490, a491, a492, a493, x494, x495, x496, a497, a498, a499, a500, a501, a502, a503, a504, a505, x506, a507, a508, rfl, h509, h510, h511, h512, h513, h514, h515, h516, h517, h518, h519, h520, h521, h522, h523, h524, h525, h526, h527, h528, h529⟩ := op1 hT ht0
        refine cga (rn_V (As := [.int p1]) (rest := []) (b := p0) (x_X10_isStar l D Y Z H.size ws T g q p0 p1 hT ht0) ⟨hx, hb, hml, hown, hg⟩ lk_X10_137 ⟨CPC.blind, va_recv hKN.1 hP (ci := 10) (q0 := p530) rfl hk531, CPC.at hP hKN hD hSZ hS hA⟩ ⟨⟨rfl, rfl⟩, ⟨Nat.le_of_ble_eq_true rfl, Nat.le_of_ble_eq_true rfl⟩, ⟨(Nat.le_of_ble_eq_true rfl), (Nat.le_of_ble_eq_true rfl)⟩⟩ hl.1 rfl (Nat.le_of_ble_eq_true rfl) dX10_world_63) hP hD hS hA (fun u532 H locs hw533 hP hD hS => ?_)
        obtain ⟨hw535, hw536⟩ : (0 ≤ u532.toInt ∧ u532.toInt ≤ 1) ∧ (u532.toInt = 1 → (0 ≤ p1.toInt ∧ p1.toInt ≤ 11)) := hw533
        refine W.eq (g2 := F0 m 66 ls [.int u532]) rfl ?_
        rcases (show u532.toInt = 1 ∨ u532.toInt = 0 by omega) with c537 | c537
        · obtain rfl : u532 = 1 := i_is c537 (by decide)
          replace hw536 := hw536 (by decide)
          refine W.eq (g2 := F0 m 66 ls [.int 1]) rfl ?_
          refine lv_if_eq (tgt := 91) hx hb dX10_world_66 (by decide) (fun c538 => ?_) (fun c538 => ?_)
          · exact absurd c538 (by decide)
          refine lv_iload hx hb dX10_world_69 (lv_at hl 1 rfl) ?_
          refine lv_if_eq (tgt := 91) hx hb dX10_world_71 (by decide) (fun c539 => ?_) (fun c539 => ?_)
          rotate_left
          · exact absurd c539 (by decide)
          refine lv_iconst (v := (-1)) hx hb dX10_world_91 (by decide) ?_
          refine W.widen (k := 1) (n := 6) (Nat.le_of_ble_eq_true rfl) (Nat.le_of_ble_eq_true rfl) ?_
          have zim1 : ((-1) : Int32).toInt = -1 := by decide
          exact W.iret (v := (-1)) hx hb hr (fun t ht hW => ⟨⟨(((-1)), ws, T, g), rfl, ⟨TLe.rf, hT, KF.rf, KF.rf⟩, CB.mk ht hP hD⟩, hS.F ht⟩) hS.2.2 dX10_world_92
        · obtain rfl : u532 = 0 := i_is c537 (by decide)
          clear hw536
          refine W.eq (g2 := F0 m 66 ls [.int 0]) rfl ?_
          refine lv_if_eq (tgt := 91) hx hb dX10_world_66 (by decide) (fun c540 => ?_) (fun c540 => ?_)
          rotate_left
          · exact absurd c540 (by decide)
          refine lv_iconst (v := (-1)) hx hb dX10_world_91 (by decide) ?_
          refine W.widen (k := 1) (n := 6) (Nat.le_of_ble_eq_true rfl) (Nat.le_of_ble_eq_true rfl) ?_
          have zim1 : ((-1) : Int32).toInt = -1 := by decide
          exact W.iret (v := (-1)) hx hb hr (fun t ht hW => ⟨⟨(((-1)), ws, T, g), rfl, ⟨TLe.rf, hT, KF.rf, KF.rf⟩, CB.mk ht hP hD⟩, hS.F ht⟩) hS.2.2 dX10_world_92
  · obtain rfl : u1 = 0 := i_is c6 (by decide)
    have zi0 : (0 : Int32).toInt = 0 := by decide
    refine W.eq (g2 := F0 m 8 ls [.int 0]) rfl ?_
    refine lv_if_eq (tgt := 22) hx hb dX10_world_8 (by decide) (fun c541 => ?_) (fun c541 => ?_)
    rotate_left
    · exact absurd c541 (by decide)
    refine lv_iconst (v := 0) hx hb dX10_world_22 (by decide) ?_
    refine lv_istore (lv' := [(7, .int 0), (0, .ref p0), (1, .int p1), (2, .int p2), (3, .int p3), (4, .int p4), (5, .int p5), (6, .int p6)]) hx hb dX10_world_23 hl (by decide) rfl (fun ls hl => ?_)
    refine lv_iload hx hb dX10_world_25 (lv_at hl 5 rfl) ?_
    refine lv_iconst (v := 1) hx hb dX10_world_27 (by decide) ?_
    refine lv_bipush (v := 30) hx hb dX10_world_28 (by decide) ?_
    have zi1 : (1 : Int32).toInt = 1 := by decide
    have zi30 : (30 : Int32).toInt = 30 := by decide
    refine cg0 (rn_S (As := [.int p4, .int 1, .int 30]) (rest := []) (x_X10_isWithin l D Y Z H.size p4 1 30) ⟨hx, hb, hml, hown, hg⟩ lk_X10_100 ⟨CP.blind, CP.at nilP hKN (nilD (A := fun _ => True))⟩ ⟨⟨rfl, rfl⟩, ⟨Nat.le_of_ble_eq_true rfl, Nat.le_of_ble_eq_true rfl⟩, ⟨(Nat.le_of_ble_eq_true rfl), (Nat.le_of_ble_eq_true rfl)⟩⟩ hl.1 rfl (Nat.le_of_ble_eq_true rfl) dX10_world_30) hP hS hA (fun u542 H locs hw543 hP hS => ?_)
    obtain ⟨hw545, hw546⟩ : (((1 : Int32).toInt ≤ p4.toInt ∧ p4.toInt ≤ (30 : Int32).toInt ∧ u542.toInt = 1) ∨ (¬ ((1 : Int32).toInt ≤ p4.toInt ∧ p4.toInt ≤ (30 : Int32).toInt) ∧ u542.toInt = 0)) ∧ (0 ≤ u542.toInt ∧ u542.toInt ≤ 1) := hw543
    refine W.eq (g2 := F0 m 33 ls [.int u542]) rfl ?_
    rcases (show u542.toInt = 1 ∨ u542.toInt = 0 by omega) with c547 | c547
    · obtain rfl : u542 = 1 := i_is c547 (by decide)
      refine W.eq (g2 := F0 m 33 ls [.int 1]) rfl ?_
      refine lv_if_eq (tgt := 58) hx hb dX10_world_33 (by decide) (fun c548 => ?_) (fun c548 => ?_)
      · exact absurd c548 (by decide)
      refine lv_iload hx hb dX10_world_36 (lv_at hl 5 rfl) ?_
      refine lv_iload_n hx hb dX10_world_38 rfl (lv_at hl 3 rfl) ?_
      have j549 := rgI p2
      refine lv_icmp_ge (tgt := 58) hx hb dX10_world_39 (by decide) (fun c550 => ?_) (fun c550 => ?_)
      · skip
        have c550 := i_le (Eq.refl p2.toInt) (Eq.refl p4.toInt) c550
        refine lv_iconst (v := 0) hx hb dX10_world_58 (by decide) ?_
        refine lv_istore (lv' := [(8, .int 0), (7, .int 0), (0, .ref p0), (1, .int p1), (2, .int p2), (3, .int p3), (4, .int p4), (5, .int p5), (6, .int p6)]) hx hb dX10_world_59 hl (by decide) rfl (fun ls hl => ?_)
        refine lv_aload_n hx hb dX10_world_61 rfl (lv_at hl 2 rfl) ?_
        refine lv_iload_n hx hb dX10_world_62 rfl (lv_at hl 3 rfl) ?_
        obtain ⟨p592, _, hk593, a551, a552, a553, a554, a555, x556, x557, x558, a559, a560, a561, a562, a563, a564, a565, a566, a567, x568, a569, a570, rfl, h571, h572, h573, h574, h575, h576, h577, h578, h579, h580, h581, h582, h583, h584, h585, h586, h587, h588, h589, h590, h591⟩ := op1 hT ht0
        refine cga (rn_V (As := [.int p1]) (rest := []) (b := p0) (x_X10_isStar l D Y Z H.size ws T g q p0 p1 hT ht0) ⟨hx, hb, hml, hown, hg⟩ lk_X10_137 ⟨CPC.blind, va_recv hKN.1 hP (ci := 10) (q0 := p592) rfl hk593, CPC.at hP hKN hD hSZ hS hA⟩ ⟨⟨rfl, rfl⟩, ⟨Nat.le_of_ble_eq_true rfl, Nat.le_of_ble_eq_true rfl⟩, ⟨(Nat.le_of_ble_eq_true rfl), (Nat.le_of_ble_eq_true rfl)⟩⟩ hl.1 rfl (Nat.le_of_ble_eq_true rfl) dX10_world_63) hP hD hS hA (fun u594 H locs hw595 hP hD hS => ?_)
        obtain ⟨hw597, hw598⟩ : (0 ≤ u594.toInt ∧ u594.toInt ≤ 1) ∧ (u594.toInt = 1 → (0 ≤ p1.toInt ∧ p1.toInt ≤ 11)) := hw595
        refine W.eq (g2 := F0 m 66 ls [.int u594]) rfl ?_
        rcases (show u594.toInt = 1 ∨ u594.toInt = 0 by omega) with c599 | c599
        · obtain rfl : u594 = 1 := i_is c599 (by decide)
          replace hw598 := hw598 (by decide)
          refine W.eq (g2 := F0 m 66 ls [.int 1]) rfl ?_
          refine lv_if_eq (tgt := 91) hx hb dX10_world_66 (by decide) (fun c600 => ?_) (fun c600 => ?_)
          · exact absurd c600 (by decide)
          refine lv_iload hx hb dX10_world_69 (lv_at hl 1 rfl) ?_
          refine lv_if_eq (tgt := 91) hx hb dX10_world_71 (by decide) (fun c601 => ?_) (fun c601 => ?_)
          rotate_left
          · exact absurd c601 (by decide)
          refine lv_iconst (v := (-1)) hx hb dX10_world_91 (by decide) ?_
          refine W.widen (k := 1) (n := 6) (Nat.le_of_ble_eq_true rfl) (Nat.le_of_ble_eq_true rfl) ?_
          have zim1 : ((-1) : Int32).toInt = -1 := by decide
          exact W.iret (v := (-1)) hx hb hr (fun t ht hW => ⟨⟨(((-1)), ws, T, g), rfl, ⟨TLe.rf, hT, KF.rf, KF.rf⟩, CB.mk ht hP hD⟩, hS.F ht⟩) hS.2.2 dX10_world_92
        · obtain rfl : u594 = 0 := i_is c599 (by decide)
          clear hw598
          refine W.eq (g2 := F0 m 66 ls [.int 0]) rfl ?_
          refine lv_if_eq (tgt := 91) hx hb dX10_world_66 (by decide) (fun c602 => ?_) (fun c602 => ?_)
          rotate_left
          · exact absurd c602 (by decide)
          refine lv_iconst (v := (-1)) hx hb dX10_world_91 (by decide) ?_
          refine W.widen (k := 1) (n := 6) (Nat.le_of_ble_eq_true rfl) (Nat.le_of_ble_eq_true rfl) ?_
          have zim1 : ((-1) : Int32).toInt = -1 := by decide
          exact W.iret (v := (-1)) hx hb hr (fun t ht hW => ⟨⟨(((-1)), ws, T, g), rfl, ⟨TLe.rf, hT, KF.rf, KF.rf⟩, CB.mk ht hP hD⟩, hS.F ht⟩) hS.2.2 dX10_world_92
      · skip
        have c550 := i_nle (Eq.refl p2.toInt) (Eq.refl p4.toInt) c550
        refine lv_iload hx hb dX10_world_42 (lv_at hl 6 rfl) ?_
        refine lv_iconst (v := 1) hx hb dX10_world_44 (by decide) ?_
        refine lv_sipush (v := 30000) hx hb dX10_world_45 (by decide) ?_
        have zi30000 : (30000 : Int32).toInt = 30000 := by decide
        refine cg0 (rn_S (As := [.int p5, .int 1, .int 30000]) (rest := []) (x_X10_isWithin l D Y Z H.size p5 1 30000) ⟨hx, hb, hml, hown, hg⟩ lk_X10_100 ⟨CP.blind, CP.at nilP hKN (nilD (A := fun _ => True))⟩ ⟨⟨rfl, rfl⟩, ⟨Nat.le_of_ble_eq_true rfl, Nat.le_of_ble_eq_true rfl⟩, ⟨(Nat.le_of_ble_eq_true rfl), (Nat.le_of_ble_eq_true rfl)⟩⟩ hl.1 rfl (Nat.le_of_ble_eq_true rfl) dX10_world_48) hP hS hA (fun u603 H locs hw604 hP hS => ?_)
        obtain ⟨hw606, hw607⟩ : (((1 : Int32).toInt ≤ p5.toInt ∧ p5.toInt ≤ (30000 : Int32).toInt ∧ u603.toInt = 1) ∨ (¬ ((1 : Int32).toInt ≤ p5.toInt ∧ p5.toInt ≤ (30000 : Int32).toInt) ∧ u603.toInt = 0)) ∧ (0 ≤ u603.toInt ∧ u603.toInt ≤ 1) := hw604
        refine W.eq (g2 := F0 m 51 ls [.int u603]) rfl ?_
        rcases (show u603.toInt = 1 ∨ u603.toInt = 0 by omega) with c608 | c608
        · obtain rfl : u603 = 1 := i_is c608 (by decide)
          refine W.eq (g2 := F0 m 51 ls [.int 1]) rfl ?_
          refine lv_if_eq (tgt := 58) hx hb dX10_world_51 (by decide) (fun c609 => ?_) (fun c609 => ?_)
          · exact absurd c609 (by decide)
          refine lv_iconst (v := 1) hx hb dX10_world_54 (by decide) ?_
          refine lv_goto (tgt := 59) hx hb dX10_world_55 (by decide) ?_
          refine lv_istore (lv' := [(8, .int 1), (7, .int 0), (0, .ref p0), (1, .int p1), (2, .int p2), (3, .int p3), (4, .int p4), (5, .int p5), (6, .int p6)]) hx hb dX10_world_59 hl (by decide) rfl (fun ls hl => ?_)
          refine lv_aload_n hx hb dX10_world_61 rfl (lv_at hl 2 rfl) ?_
          refine lv_iload_n hx hb dX10_world_62 rfl (lv_at hl 3 rfl) ?_
          obtain ⟨p651, _, hk652, a610, a611, a612, a613, a614, x615, x616, x617, a618, a619, a620, a621, a622, a623, a624, a625, a626, x627, a628, a629, rfl, h630, h631, h632, h633, h634, h635, h636, h637, h638, h639, h640, h641, h642, h643, h644, h645, h646, h647, h648, h649, h650⟩ := op1 hT ht0
          refine cga (rn_V (As := [.int p1]) (rest := []) (b := p0) (x_X10_isStar l D Y Z H.size ws T g q p0 p1 hT ht0) ⟨hx, hb, hml, hown, hg⟩ lk_X10_137 ⟨CPC.blind, va_recv hKN.1 hP (ci := 10) (q0 := p651) rfl hk652, CPC.at hP hKN hD hSZ hS hA⟩ ⟨⟨rfl, rfl⟩, ⟨Nat.le_of_ble_eq_true rfl, Nat.le_of_ble_eq_true rfl⟩, ⟨(Nat.le_of_ble_eq_true rfl), (Nat.le_of_ble_eq_true rfl)⟩⟩ hl.1 rfl (Nat.le_of_ble_eq_true rfl) dX10_world_63) hP hD hS hA (fun u653 H locs hw654 hP hD hS => ?_)
          obtain ⟨hw656, hw657⟩ : (0 ≤ u653.toInt ∧ u653.toInt ≤ 1) ∧ (u653.toInt = 1 → (0 ≤ p1.toInt ∧ p1.toInt ≤ 11)) := hw654
          refine W.eq (g2 := F0 m 66 ls [.int u653]) rfl ?_
          rcases (show u653.toInt = 1 ∨ u653.toInt = 0 by omega) with c658 | c658
          · obtain rfl : u653 = 1 := i_is c658 (by decide)
            replace hw657 := hw657 (by decide)
            refine W.eq (g2 := F0 m 66 ls [.int 1]) rfl ?_
            refine lv_if_eq (tgt := 91) hx hb dX10_world_66 (by decide) (fun c659 => ?_) (fun c659 => ?_)
            · exact absurd c659 (by decide)
            refine lv_iload hx hb dX10_world_69 (lv_at hl 1 rfl) ?_
            refine lv_if_eq (tgt := 91) hx hb dX10_world_71 (by decide) (fun c660 => ?_) (fun c660 => ?_)
            rotate_left
            · exact absurd c660 (by decide)
            refine lv_iconst (v := (-1)) hx hb dX10_world_91 (by decide) ?_
            refine W.widen (k := 1) (n := 6) (Nat.le_of_ble_eq_true rfl) (Nat.le_of_ble_eq_true rfl) ?_
            have zim1 : ((-1) : Int32).toInt = -1 := by decide
            exact W.iret (v := (-1)) hx hb hr (fun t ht hW => ⟨⟨(((-1)), ws, T, g), rfl, ⟨TLe.rf, hT, KF.rf, KF.rf⟩, CB.mk ht hP hD⟩, hS.F ht⟩) hS.2.2 dX10_world_92
          · obtain rfl : u653 = 0 := i_is c658 (by decide)
            clear hw657
            refine W.eq (g2 := F0 m 66 ls [.int 0]) rfl ?_
            refine lv_if_eq (tgt := 91) hx hb dX10_world_66 (by decide) (fun c661 => ?_) (fun c661 => ?_)
            rotate_left
            · exact absurd c661 (by decide)
            refine lv_iconst (v := (-1)) hx hb dX10_world_91 (by decide) ?_
            refine W.widen (k := 1) (n := 6) (Nat.le_of_ble_eq_true rfl) (Nat.le_of_ble_eq_true rfl) ?_
            have zim1 : ((-1) : Int32).toInt = -1 := by decide
            exact W.iret (v := (-1)) hx hb hr (fun t ht hW => ⟨⟨(((-1)), ws, T, g), rfl, ⟨TLe.rf, hT, KF.rf, KF.rf⟩, CB.mk ht hP hD⟩, hS.F ht⟩) hS.2.2 dX10_world_92
        · obtain rfl : u603 = 0 := i_is c608 (by decide)
          refine W.eq (g2 := F0 m 51 ls [.int 0]) rfl ?_
          refine lv_if_eq (tgt := 58) hx hb dX10_world_51 (by decide) (fun c662 => ?_) (fun c662 => ?_)
          rotate_left
          · exact absurd c662 (by decide)
          refine lv_iconst (v := 0) hx hb dX10_world_58 (by decide) ?_
          refine lv_istore (lv' := [(8, .int 0), (7, .int 0), (0, .ref p0), (1, .int p1), (2, .int p2), (3, .int p3), (4, .int p4), (5, .int p5), (6, .int p6)]) hx hb dX10_world_59 hl (by decide) rfl (fun ls hl => ?_)
          refine lv_aload_n hx hb dX10_world_61 rfl (lv_at hl 2 rfl) ?_
          refine lv_iload_n hx hb dX10_world_62 rfl (lv_at hl 3 rfl) ?_
          obtain ⟨p704, _, hk705, a663, a664, a665, a666, a667, x668, x669, x670, a671, a672, a673, a674, a675, a676, a677, a678, a679, x680, a681, a682, rfl, h683, h684, h685, h686, h687, h688, h689, h690, h691, h692, h693, h694, h695, h696, h697, h698, h699, h700, h701, h702, h703⟩ := op1 hT ht0
          refine cga (rn_V (As := [.int p1]) (rest := []) (b := p0) (x_X10_isStar l D Y Z H.size ws T g q p0 p1 hT ht0) ⟨hx, hb, hml, hown, hg⟩ lk_X10_137 ⟨CPC.blind, va_recv hKN.1 hP (ci := 10) (q0 := p704) rfl hk705, CPC.at hP hKN hD hSZ hS hA⟩ ⟨⟨rfl, rfl⟩, ⟨Nat.le_of_ble_eq_true rfl, Nat.le_of_ble_eq_true rfl⟩, ⟨(Nat.le_of_ble_eq_true rfl), (Nat.le_of_ble_eq_true rfl)⟩⟩ hl.1 rfl (Nat.le_of_ble_eq_true rfl) dX10_world_63) hP hD hS hA (fun u706 H locs hw707 hP hD hS => ?_)
          obtain ⟨hw709, hw710⟩ : (0 ≤ u706.toInt ∧ u706.toInt ≤ 1) ∧ (u706.toInt = 1 → (0 ≤ p1.toInt ∧ p1.toInt ≤ 11)) := hw707
          refine W.eq (g2 := F0 m 66 ls [.int u706]) rfl ?_
          rcases (show u706.toInt = 1 ∨ u706.toInt = 0 by omega) with c711 | c711
          · obtain rfl : u706 = 1 := i_is c711 (by decide)
            replace hw710 := hw710 (by decide)
            refine W.eq (g2 := F0 m 66 ls [.int 1]) rfl ?_
            refine lv_if_eq (tgt := 91) hx hb dX10_world_66 (by decide) (fun c712 => ?_) (fun c712 => ?_)
            · exact absurd c712 (by decide)
            refine lv_iload hx hb dX10_world_69 (lv_at hl 1 rfl) ?_
            refine lv_if_eq (tgt := 91) hx hb dX10_world_71 (by decide) (fun c713 => ?_) (fun c713 => ?_)
            rotate_left
            · exact absurd c713 (by decide)
            refine lv_iconst (v := (-1)) hx hb dX10_world_91 (by decide) ?_
            refine W.widen (k := 1) (n := 6) (Nat.le_of_ble_eq_true rfl) (Nat.le_of_ble_eq_true rfl) ?_
            have zim1 : ((-1) : Int32).toInt = -1 := by decide
            exact W.iret (v := (-1)) hx hb hr (fun t ht hW => ⟨⟨(((-1)), ws, T, g), rfl, ⟨TLe.rf, hT, KF.rf, KF.rf⟩, CB.mk ht hP hD⟩, hS.F ht⟩) hS.2.2 dX10_world_92
          · obtain rfl : u706 = 0 := i_is c711 (by decide)
            clear hw710
            refine W.eq (g2 := F0 m 66 ls [.int 0]) rfl ?_
            refine lv_if_eq (tgt := 91) hx hb dX10_world_66 (by decide) (fun c714 => ?_) (fun c714 => ?_)
            rotate_left
            · exact absurd c714 (by decide)
            refine lv_iconst (v := (-1)) hx hb dX10_world_91 (by decide) ?_
            refine W.widen (k := 1) (n := 6) (Nat.le_of_ble_eq_true rfl) (Nat.le_of_ble_eq_true rfl) ?_
            have zim1 : ((-1) : Int32).toInt = -1 := by decide
            exact W.iret (v := (-1)) hx hb hr (fun t ht hW => ⟨⟨(((-1)), ws, T, g), rfl, ⟨TLe.rf, hT, KF.rf, KF.rf⟩, CB.mk ht hP hD⟩, hS.F ht⟩) hS.2.2 dX10_world_92
    · obtain rfl : u542 = 0 := i_is c547 (by decide)
      refine W.eq (g2 := F0 m 33 ls [.int 0]) rfl ?_
      refine lv_if_eq (tgt := 58) hx hb dX10_world_33 (by decide) (fun c715 => ?_) (fun c715 => ?_)
      rotate_left
      · exact absurd c715 (by decide)
      refine lv_iconst (v := 0) hx hb dX10_world_58 (by decide) ?_
      refine lv_istore (lv' := [(8, .int 0), (7, .int 0), (0, .ref p0), (1, .int p1), (2, .int p2), (3, .int p3), (4, .int p4), (5, .int p5), (6, .int p6)]) hx hb dX10_world_59 hl (by decide) rfl (fun ls hl => ?_)
      refine lv_aload_n hx hb dX10_world_61 rfl (lv_at hl 2 rfl) ?_
      refine lv_iload_n hx hb dX10_world_62 rfl (lv_at hl 3 rfl) ?_
      obtain ⟨p757, _, hk758, a716, a717, a718, a719, a720, x721, x722, x723, a724, a725, a726, a727, a728, a729, a730, a731, a732, x733, a734, a735, rfl, h736, h737, h738, h739, h740, h741, h742, h743, h744, h745, h746, h747, h748, h749, h750, h751, h752, h753, h754, h755, h756⟩ := op1 hT ht0
      refine cga (rn_V (As := [.int p1]) (rest := []) (b := p0) (x_X10_isStar l D Y Z H.size ws T g q p0 p1 hT ht0) ⟨hx, hb, hml, hown, hg⟩ lk_X10_137 ⟨CPC.blind, va_recv hKN.1 hP (ci := 10) (q0 := p757) rfl hk758, CPC.at hP hKN hD hSZ hS hA⟩ ⟨⟨rfl, rfl⟩, ⟨Nat.le_of_ble_eq_true rfl, Nat.le_of_ble_eq_true rfl⟩, ⟨(Nat.le_of_ble_eq_true rfl), (Nat.le_of_ble_eq_true rfl)⟩⟩ hl.1 rfl (Nat.le_of_ble_eq_true rfl) dX10_world_63) hP hD hS hA (fun u759 H locs hw760 hP hD hS => ?_)
      obtain ⟨hw762, hw763⟩ : (0 ≤ u759.toInt ∧ u759.toInt ≤ 1) ∧ (u759.toInt = 1 → (0 ≤ p1.toInt ∧ p1.toInt ≤ 11)) := hw760
      refine W.eq (g2 := F0 m 66 ls [.int u759]) rfl ?_
      rcases (show u759.toInt = 1 ∨ u759.toInt = 0 by omega) with c764 | c764
      · obtain rfl : u759 = 1 := i_is c764 (by decide)
        replace hw763 := hw763 (by decide)
        refine W.eq (g2 := F0 m 66 ls [.int 1]) rfl ?_
        refine lv_if_eq (tgt := 91) hx hb dX10_world_66 (by decide) (fun c765 => ?_) (fun c765 => ?_)
        · exact absurd c765 (by decide)
        refine lv_iload hx hb dX10_world_69 (lv_at hl 1 rfl) ?_
        refine lv_if_eq (tgt := 91) hx hb dX10_world_71 (by decide) (fun c766 => ?_) (fun c766 => ?_)
        rotate_left
        · exact absurd c766 (by decide)
        refine lv_iconst (v := (-1)) hx hb dX10_world_91 (by decide) ?_
        refine W.widen (k := 1) (n := 6) (Nat.le_of_ble_eq_true rfl) (Nat.le_of_ble_eq_true rfl) ?_
        have zim1 : ((-1) : Int32).toInt = -1 := by decide
        exact W.iret (v := (-1)) hx hb hr (fun t ht hW => ⟨⟨(((-1)), ws, T, g), rfl, ⟨TLe.rf, hT, KF.rf, KF.rf⟩, CB.mk ht hP hD⟩, hS.F ht⟩) hS.2.2 dX10_world_92
      · obtain rfl : u759 = 0 := i_is c764 (by decide)
        clear hw763
        refine W.eq (g2 := F0 m 66 ls [.int 0]) rfl ?_
        refine lv_if_eq (tgt := 91) hx hb dX10_world_66 (by decide) (fun c767 => ?_) (fun c767 => ?_)
        rotate_left
        · exact absurd c767 (by decide)
        refine lv_iconst (v := (-1)) hx hb dX10_world_91 (by decide) ?_
        refine W.widen (k := 1) (n := 6) (Nat.le_of_ble_eq_true rfl) (Nat.le_of_ble_eq_true rfl) ?_
        have zim1 : ((-1) : Int32).toInt = -1 := by decide
        exact W.iret (v := (-1)) hx hb hr (fun t ht hW => ⟨⟨(((-1)), ws, T, g), rfl, ⟨TLe.rf, hT, KF.rf, KF.rf⟩, CB.mk ht hP hD⟩, hS.F ht⟩) hS.2.2 dX10_world_92
