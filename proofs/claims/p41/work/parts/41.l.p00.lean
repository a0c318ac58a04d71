set_option maxHeartbeats 4000000 in
set_option maxRecDepth 100000 in
theorem x_wideE (l : Launch) (D : va_G) (Y : Nat → ClassId) (Z : Nat → Nat) (sz : Nat) (ws : va_W) (T : RT) (g : GN) (q : GQ)  (p0 : Nat) (p1 : Int32) (hT : TW Y Z T g q ws) (ht0 : T p0 = (1, 0, 0)) : Met l yX10_wide (.code yX10_wide cX10_wide 3 (some .int) :: GW) ({ frames := 1, cells := 0, slots := 0, locals := 22 }) (va_Pc [.ref p0, .int p1] (CPC D Y Z ws sz)) (QG (S := Int32 × va_W × GN) (fun u => some (.int u.1)) (fun u => TW Y Z T u.2.2 q u.2.1 ∧ KF 6 T ws u.2.1 ∧ (∀ s0, q p0 0 = some s0 → ((0 ≤ p1.toInt ∧ p1.toInt ≤ 50) ∧ u.1 = g s0 7 ∧ GS T g u.2.2 s0 7 p1) ∨ (¬ (0 ≤ p1.toInt ∧ p1.toInt ≤ 50) ∧ u.1.toInt = -1 ∧ u.2.2 = g))) (fun u => CB D u.2.1 (va_A ws sz)) (va_A ws sz)) 0 0 (va_A ws sz) := by
  refine Met.ofW (cc := cX10_wide) (maxL := 3) (ret := (some .int)) (by decide) rfl ?_
  intro p e s m args below meth c s₁ B hml hv
  obtain ⟨rfl, ⟨hsz, hP, hKN, hD0⟩, hSZ⟩ := hv
  have hx := B.exec
  have hb := B.bytes
  have hr := B.returns
  have hts := atoms_spec (ws := .code yX10_wide cX10_wide 3 (some .int) :: GW) B.pre
  have hg : ∀ w ∈ GW, w.before _ s = true := fun w h => hts w (List.mem_cons_of_mem _ h)
  have hown : s.vm.findClass RX10 = some m.cls := findClass_of_methodNamed B.named
  have hlocks := B.notSynchronized
  subst hsz
  have hD := hD0.self (sz := s.heap.size)
  generalize hAe : va_A ws s.heap.size = A at hD hSZ ⊢
  have hA : ∀ q : Nat, s.heap.size ≤ q → A q := fun q h => by rw [← hAe]; exact Or.inr h
  clear hAe hD0 hts B
  have hl := lv_entry ([.ref p0, .int p1]) (n := 3) (Nat.le_of_ble_eq_true rfl)
  rw [lg_entry_eq]
  generalize (lg_sl ([.ref p0, .int p1]) ++ List.replicate (3 - (lg_sl ([.ref p0, .int p1])).length) Slot.unset).toArray = ls at hl ⊢
  have hl : lv_has ls 3 [(0, .ref p0), (1, .int p1)] := hl
  refine w_start (A0 := A) hP (fun H locs hP hS => ?_)
  refine lv_iload_n hx hb dX10_wide_0 rfl (lv_at hl 1 rfl) ?_
  refine lv_iconst (v := 0) hx hb dX10_wide_1 (by decide) ?_
  refine lv_bipush (v := 50) hx hb dX10_wide_2 (by decide) ?_
  have zi0 : (0 : Int32).toInt = 0 := by decide
  have zi50 : (50 : Int32).toInt = 50 := by decide
  refine cg0 (rn_S (As := [.int p1, .int 0, .int 50]) (rest := []) (x_X10_isWithin l D Y Z H.size p1 0 50) ⟨hx, hb, hml, hown, hg⟩ lk_X10_100 ⟨CP.blind, CP.at nilP hKN (nilD (A := fun _ => True))⟩ ⟨⟨rfl, rfl⟩, ⟨Nat.le_of_ble_eq_true rfl, Nat.le_of_ble_eq_true rfl⟩, ⟨(Nat.le_of_ble_eq_true rfl), (Nat.le_of_ble_eq_true rfl)⟩⟩ hl.1 rfl (Nat.le_of_ble_eq_true rfl) dX10_wide_4) hP hS hA (fun u1 H locs hw2 hP hS => ?_)
  obtain ⟨hw4, hw5⟩ : (((0 : Int32).toInt ≤ p1.toInt ∧ p1.toInt ≤ (50 : Int32).toInt ∧ u1.toInt = 1) ∨ (¬ ((0 : Int32).toInt ≤ p1.toInt ∧ p1.toInt ≤ (50 : Int32).toInt) ∧ u1.toInt = 0)) ∧ (0 ≤ u1.toInt ∧ u1.toInt ≤ 1) := hw2
  refine W.eq (g2 := F0 m 7 ls [.int u1]) rfl ?_
  rcases (show u1.toInt = 1 ∨ u1.toInt = 0 by omega) with c6 | c6
  · obtain rfl : u1 = 1 := i_is c6 (by decide)
    have zi1 : (1 : Int32).toInt = 1 := by decide
    refine W.eq (g2 := F0 m 7 ls [.int 1]) rfl ?_
    refine lv_if_ne (tgt := 12) hx hb dX10_wide_7 (by decide) (fun c7 => ?_) (fun c7 => ?_)
    rotate_left
    · exact absurd c7 (by decide)
    refine lv_aload_n hx hb dX10_wide_12 rfl (lv_at hl 0 rfl) ?_
    refine ok1 hT ht0 (fun p49 a8 a9 a10 a11 a12 x13 x14 x15 a16 a17 a18 a19 a20 a21 a22 a23 a24 x25 a26 a27 hk50 h28 h29 h30 h31 h32 h33 h34 h35 h36 h37 h38 h39 h40 h41 h42 h43 h44 h45 h46 h47 h48 => ?_)
    refine ok2 hT h28 (fun p85 x51 a52 x53 a54 x55 a56 a57 x58 a59 a60 x61 a62 x63 hk86 h64 h65 h66 h67 h68 h69 h70 h71 h72 h73 h74 h75 h76 h77 h78 h79 h80 h81 h82 h83 h84 => ?_)
    refine va_get (D := D) (ci := 10) (v := .ref a8) (C := RX10) (T := TX10) (N := 20) hx hb hg inGX10 hown hKN.1 hP p49 hk50 rfl 0 (by decide) (hg _ kw_349) (fun _ h9 => h9) rfl dX10_wide_13 ?_
    refine va_getN (D := D) (ci := 6) (v := .int x58) (C := RX6) (T := TX6) (N := 13) hx hb hg inGX6 hown hKN.1 hP p85 hk86 rfl 7 (by decide) (va_Nw.use rfl (hKN.2.1 _ kn_55 rfl)) (fun _ h9 => h9) rfl dX10_wide_16 ?_
    refine lv_istore_n (lv' := [(2, .int x58), (0, .ref p0), (1, .int p1)]) hx hb dX10_wide_19 rfl hl (by decide) rfl (fun ls hl => ?_)
    refine lv_aload_n hx hb dX10_wide_20 rfl (lv_at hl 1 rfl) ?_
    refine va_get (D := D) (ci := 10) (v := .ref a8) (C := RX10) (T := TX10) (N := 20) hx hb hg inGX10 hown hKN.1 hP p49 hk50 rfl 0 (by decide) (hg _ kw_349) (fun _ h9 => h9) rfl dX10_wide_21 ?_
    refine lv_iload_n hx hb dX10_wide_24 rfl (lv_at hl 2 rfl) ?_
    refine va_putN (D := D) (ci := 6) (v := .int p1) (ty := .int) (C := RX6) (T := TX6) (N := 13) hx hb hg inGX6 tyX6 tyX6_ok nmX6 hown hKN.1 hP hD hS p85 hk86 rfl 7 (by decide) (va_Nw.use rfl (hKN.2.1 _ kn_55 rfl)) (fun _ h9 => h9) rfl (by decide +kernel) rfl rfl (Nat.le_of_ble_eq_true rfl) dX10_wide_25 (fun H locs hP hD2 hS => ?_)
    obtain ⟨w87, g90, eg90, hP, hD, hT, hk89, kp88⟩ : ∃ wz gz, gz = gset g a8 7 p1 ∧ va_P D vwCl wz H ∧ va_D A wz ∧ TW Y Z T gz q wz ∧ wz[p85]? = some (a8, .inr (6, (.int x51 :: .ref a52 :: .int x53 :: .ref a54 :: .int x55 :: .ref a56 :: .ref a57 :: .int p1 :: .ref a59 :: .ref a60 :: .int x61 :: .ref a62 :: .int x63 :: []))) ∧ Kp a8 ws wz := ⟨_, _, rfl, hP, hD2, tw_sg (k := 2) (g2 := gset g a8 7 p1) (q2 := q) hT hD hk86 h28 (fun _ hc => gset_ne hc) (fun _ _ => rfl) (show Sh2 Y Z T ((gset g a8 7 p1) a8) (q a8) 0 0 _ from ⟨x51, a52, x53, a54, x55, a56, a57, p1, a59, a60, x61, a62, x63, rfl, by omega, ((gs_ne (by decide)).trans h65), h66, h67, by omega, ((gs_ne (by decide)).trans h69), h70, by omega, ((gs_ne (by decide)).trans h72), h73, h74, h75, h76, by omega, gs_eq, h79, h80, by omega, ((gs_ne (by decide)).trans h82), h83, by omega⟩), sw_eq hk86, sw_kp hk86⟩
    have hg91 : g90 a8 0 = x51 := by rw [eg90]; exact ((gs_ne (by decide)).trans h65)
    have hg92 : g90 a8 2 = x53 := by rw [eg90]; exact ((gs_ne (by decide)).trans h69)
    have hg93 : g90 a8 4 = x55 := by rw [eg90]; exact ((gs_ne (by decide)).trans h72)
    have hg94 : g90 a8 7 = p1 := by rw [eg90]; exact gs_eq
    have hg95 : g90 a8 10 = x61 := by rw [eg90]; exact ((gs_ne (by decide)).trans h82)
    have ke96 : KF 6 T ws w87 := KF.tr KF.rf (KF.kp kp88 h28 (by decide))
    have hk97 := kp88 _ _ hk50 (rne ht0 h28 (by decide))
    refine lv_aload_n hx hb dX10_wide_28 rfl (lv_at hl 1 rfl) ?_
    refine lv_dup hx hb dX10_wide_29 rfl ?_
    refine va_get (D := D) (ci := 10) (v := .int x25) (C := RX10) (T := TX10) (N := 20) hx hb hg inGX10 hown hKN.1 hP p49 hk97 rfl 17 (by decide) (hg _ kw_366) (fun _ h9 => h9) rfl dX10_wide_30 ?_
    refine lv_iconst (v := 1) hx hb dX10_wide_33 (by decide) ?_
    refine lv_iadd hx hb dX10_wide_34 ?_
    refine lv_topi (fun v98 ev98 => ?_)
    refine va_put (D := D) (ci := 10) (v := .int v98) (ty := .int) (C := RX10) (T := TX10) (N := 20) hx hb hg inGX10 tyX10 tyX10_ok nmX10 hown hKN.1 hP hD hS p49 hk97 rfl 17 (by decide) (hg _ kw_366) (fun _ h9 => h9) rfl (by decide +kernel) rfl rfl (Nat.le_of_ble_eq_true rfl) dX10_wide_35 (fun H locs hP hD2 hS => ?_)
    obtain ⟨w99, hP, hD, hT, hk101, kp100⟩ : ∃ wz, va_P D vwCl wz H ∧ va_D A wz ∧ TW Y Z T g90 q wz ∧ wz[p49]? = some (p0, .inr (10, (.ref a8 :: .ref a9 :: .ref a10 :: .ref a11 :: .ref a12 :: .int x13 :: .int x14 :: .int x15 :: .ref a16 :: .ref a17 :: .ref a18 :: .ref a19 :: .ref a20 :: .ref a21 :: .ref a22 :: .ref a23 :: .ref a24 :: .int v98 :: .ref a26 :: .ref a27 :: []))) ∧ Kp p0 w87 wz := ⟨_, hP, hD2, st1 hT hD hk97 ht0 ⟨a8, a9, a10, a11, a12, x13, x14, x15, a16, a17, a18, a19, a20, a21, a22, a23, a24, v98, a26, a27, rfl, h28, h29, h30, h31, h32, h33, h34, by omega, by omega, by omega, h38, h39, h40, h41, h42, h43, h44, h45, h46, h47, h48⟩, sw_eq hk97, sw_kp hk97⟩
    have ke102 : KF 6 T ws w99 := KF.tr ke96 (KF.kp kp100 ht0 (by decide))
    have hk103 := kp100 _ _ hk89 (rne h28 ht0 (by decide))
    refine lv_iload_n hx hb dX10_wide_38 rfl (lv_at hl 0 rfl) ?_
    refine W.widen (k := 0) (n := 0) (Nat.le_of_ble_eq_true rfl) (Nat.le_of_ble_eq_true rfl) ?_
    exact W.iret (v := x58) hx hb hr (fun t ht hW => ⟨⟨(x58, w99, g90), rfl, ⟨hT, ke102, (show ∀ s0, q p0 0 = some s0 → ((0 ≤ p1.toInt ∧ p1.toInt ≤ 50) ∧ x58 = g s0 7 ∧ GS T g g90 s0 7 p1) ∨ (¬ (0 ≤ p1.toInt ∧ p1.toInt ≤ 50) ∧ x58.toInt = -1 ∧ g90 = g) from (fun s0 hs => by obtain rfl : s0 = a8 := Option.some.inj (hs.symm.trans h29); exact Or.inl ⟨⟨by omega, by omega⟩, h78.symm, GS.of GA.rf eg90 h28⟩))⟩, CB.mk ht hP hD⟩, hS.F ht⟩) hS.2.2 dX10_wide_39
  · obtain rfl : u1 = 0 := i_is c6 (by decide)
    refine W.eq (g2 := F0 m 7 ls [.int 0]) rfl ?_
    refine lv_if_ne (tgt := 12) hx hb dX10_wide_7 (by decide) (fun c104 => ?_) (fun c104 => ?_)
    · exact absurd c104 (by decide)
    refine lv_iconst (v := (-1)) hx hb dX10_wide_10 (by decide) ?_
    refine W.widen (k := 0) (n := 0) (Nat.le_of_ble_eq_true rfl) (Nat.le_of_ble_eq_true rfl) ?_
    have zim1 : ((-1) : Int32).toInt = -1 := by decide
    exact W.iret (v := (-1)) hx hb hr (fun t ht hW => ⟨⟨(((-1)), ws, g), rfl, ⟨hT, KF.rf, (show ∀ s0, q p0 0 = some s0 → ((0 ≤ p1.toInt ∧ p1.toInt ≤ 50) ∧ (-1) = g s0 7 ∧ GS T g g s0 7 p1) ∨ (¬ (0 ≤ p1.toInt ∧ p1.toInt ≤ 50) ∧ ((-1) : Int32).toInt = -1 ∧ g = g) from (fun s0 hs => Or.inr ⟨by omega, by decide, rfl⟩))⟩, CB.mk ht hP hD⟩, hS.F ht⟩) hS.2.2 dX10_wide_11
set_option maxHeartbeats 4000000 in
set_option maxRecDepth 100000 in
theorem x_orderE (l : Launch) (D : va_G) (Y : Nat → ClassId) (Z : Nat → Nat) (sz : Nat) (ws : va_W) (T : RT) (g : GN) (q : GQ)  (p0 : Nat) (p1 : Int32) (hT : TW Y Z T g q ws) (ht0 : T p0 = (1, 0, 0)) : Met l yX10_order (.code yX10_order cX10_order 3 (some .int) :: GW) ({ frames := 1, cells := 0, slots := 0, locals := 22 }) (va_Pc [.ref p0, .int p1] (CPC D Y Z ws sz)) (QG (S := Int32 × va_W × GN) (fun u => some (.int u.1)) (fun u => TW Y Z T u.2.2 q u.2.1 ∧ KF 6 T ws u.2.1 ∧ (∀ s0, q p0 0 = some s0 → ((0 ≤ p1.toInt ∧ p1.toInt ≤ 23) ∧ u.1 = g s0 10 ∧ GS T g u.2.2 s0 10 p1) ∨ (¬ (0 ≤ p1.toInt ∧ p1.toInt ≤ 23) ∧ u.1.toInt = -1 ∧ u.2.2 = g))) (fun u => CB D u.2.1 (va_A ws sz)) (va_A ws sz)) 0 0 (va_A ws sz) := by
  refine Met.ofW (cc := cX10_order) (maxL := 3) (ret := (some .int)) (by decide) rfl ?_
  intro p e s m args below meth c s₁ B hml hv
  obtain ⟨rfl, ⟨hsz, hP, hKN, hD0⟩, hSZ⟩ := hv
  have hx := B.exec
  have hb := B.bytes
  have hr := B.returns
  have hts := atoms_spec (ws := .code yX10_order cX10_order 3 (some .int) :: GW) B.pre
  have hg : ∀ w ∈ GW, w.before _ s = true := fun w h => hts w (List.mem_cons_of_mem _ h)
  have hown : s.vm.findClass RX10 = some m.cls := findClass_of_methodNamed B.named
  have hlocks := B.notSynchronized
  subst hsz
  have hD := hD0.self (sz := s.heap.size)
  generalize hAe : va_A ws s.heap.size = A at hD hSZ ⊢
  have hA : ∀ q : Nat, s.heap.size ≤ q → A q := fun q h => by rw [← hAe]; exact Or.inr h
  clear hAe hD0 hts B
  have hl := lv_entry ([.ref p0, .int p1]) (n := 3) (Nat.le_of_ble_eq_true rfl)
  rw [lg_entry_eq]
  generalize (lg_sl ([.ref p0, .int p1]) ++ List.replicate (3 - (lg_sl ([.ref p0, .int p1])).length) Slot.unset).toArray = ls at hl ⊢
  have hl : lv_has ls 3 [(0, .ref p0), (1, .int p1)] := hl
  refine w_start (A0 := A) hP (fun H locs hP hS => ?_)
  refine lv_iload_n hx hb dX10_order_0 rfl (lv_at hl 1 rfl) ?_
  refine lv_iconst (v := 0) hx hb dX10_order_1 (by decide) ?_
  refine lv_bipush (v := 23) hx hb dX10_order_2 (by decide) ?_
  have zi0 : (0 : Int32).toInt = 0 := by decide
  have zi23 : (23 : Int32).toInt = 23 := by decide
  refine cg0 (rn_S (As := [.int p1, .int 0, .int 23]) (rest := []) (x_X10_isWithin l D Y Z H.size p1 0 23) ⟨hx, hb, hml, hown, hg⟩ lk_X10_100 ⟨CP.blind, CP.at nilP hKN (nilD (A := fun _ => True))⟩ ⟨⟨rfl, rfl⟩, ⟨Nat.le_of_ble_eq_true rfl, Nat.le_of_ble_eq_true rfl⟩, ⟨(Nat.le_of_ble_eq_true rfl), (Nat.le_of_ble_eq_true rfl)⟩⟩ hl.1 rfl (Nat.le_of_ble_eq_true rfl) dX10_order_4) hP hS hA (fun u1 H locs hw2 hP hS => ?_)
  obtain ⟨hw4, hw5⟩ : (((0 : Int32).toInt ≤ p1.toInt ∧ p1.toInt ≤ (23 : Int32).toInt ∧ u1.toInt = 1) ∨ (¬ ((0 : Int32).toInt ≤ p1.toInt ∧ p1.toInt ≤ (23 : Int32).toInt) ∧ u1.toInt = 0)) ∧ (0 ≤ u1.toInt ∧ u1.toInt ≤ 1) := hw2
  refine W.eq (g2 := F0 m 7 ls [.int u1]) rfl ?_
  rcases (show u1.toInt = 1 ∨ u1.toInt = 0 by omega) with c6 | c6
  · obtain rfl : u1 = 1 := i_is c6 (by decide)
    have zi1 : (1 : Int32).toInt = 1 := by decide
    refine W.eq (g2 := F0 m 7 ls [.int 1]) rfl ?_
    refine lv_if_ne (tgt := 12) hx hb dX10_order_7 (by decide) (fun c7 => ?_) (fun c7 => ?_)
    rotate_left
    · exact absurd c7 (by decide)
    refine lv_aload_n hx hb dX10_order_12 rfl (lv_at hl 0 rfl) ?_
    refine ok1 hT ht0 (fun p49 a8 a9 a10 a11 a12 x13 x14 x15 a16 a17 a18 a19 a20 a21 a22 a23 a24 x25 a26 a27 hk50 h28 h29 h30 h31 h32 h33 h34 h35 h36 h37 h38 h39 h40 h41 h42 h43 h44 h45 h46 h47 h48 => ?_)
    refine ok2 hT h28 (fun p85 x51 a52 x53 a54 x55 a56 a57 x58 a59 a60 x61 a62 x63 hk86 h64 h65 h66 h67 h68 h69 h70 h71 h72 h73 h74 h75 h76 h77 h78 h79 h80 h81 h82 h83 h84 => ?_)
    refine va_get (D := D) (ci := 10) (v := .ref a8) (C := RX10) (T := TX10) (N := 20) hx hb hg inGX10 hown hKN.1 hP p49 hk50 rfl 0 (by decide) (hg _ kw_349) (fun _ h9 => h9) rfl dX10_order_13 ?_
    refine va_getN (D := D) (ci := 6) (v := .int x61) (C := RX6) (T := TX6) (N := 13) hx hb hg inGX6 hown hKN.1 hP p85 hk86 rfl 10 (by decide) (va_Nw.use rfl (hKN.2.1 _ kn_63 rfl)) (fun _ h9 => h9) rfl dX10_order_16 ?_
    refine lv_istore_n (lv' := [(2, .int x61), (0, .ref p0), (1, .int p1)]) hx hb dX10_order_19 rfl hl (by decide) rfl (fun ls hl => ?_)
    refine lv_aload_n hx hb dX10_order_20 rfl (lv_at hl 1 rfl) ?_
    refine va_get (D := D) (ci := 10) (v := .ref a8) (C := RX10) (T := TX10) (N := 20) hx hb hg inGX10 hown hKN.1 hP p49 hk50 rfl 0 (by decide) (hg _ kw_349) (fun _ h9 => h9) rfl dX10_order_21 ?_
    refine lv_iload_n hx hb dX10_order_24 rfl (lv_at hl 2 rfl) ?_
    refine va_putN (D := D) (ci := 6) (v := .int p1) (ty := .int) (C := RX6) (T := TX6) (N := 13) hx hb hg inGX6 tyX6 tyX6_ok nmX6 hown hKN.1 hP hD hS p85 hk86 rfl 10 (by decide) (va_Nw.use rfl (hKN.2.1 _ kn_63 rfl)) (fun _ h9 => h9) rfl (by decide +kernel) rfl rfl (Nat.le_of_ble_eq_true rfl) dX10_order_25 (fun H locs hP hD2 hS => ?_)
    obtain ⟨w87, g90, eg90, hP, hD, hT, hk89, kp88⟩ : ∃ wz gz, gz = gset g a8 10 p1 ∧ va_P D vwCl wz H ∧ va_D A wz ∧ TW Y Z T gz q wz ∧ wz[p85]? = some (a8, .inr (6, (.int x51 :: .ref a52 :: .int x53 :: .ref a54 :: .int x55 :: .ref a56 :: .ref a57 :: .int x58 :: .ref a59 :: .ref a60 :: .int p1 :: .ref a62 :: .int x63 :: []))) ∧ Kp a8 ws wz := ⟨_, _, rfl, hP, hD2, tw_sg (k := 2) (g2 := gset g a8 10 p1) (q2 := q) hT hD hk86 h28 (fun _ hc => gset_ne hc) (fun _ _ => rfl) (show Sh2 Y Z T ((gset g a8 10 p1) a8) (q a8) 0 0 _ from ⟨x51, a52, x53, a54, x55, a56, a57, x58, a59, a60, p1, a62, x63, rfl, by omega, ((gs_ne (by decide)).trans h65), h66, h67, by omega, ((gs_ne (by decide)).trans h69), h70, by omega, ((gs_ne (by decide)).trans h72), h73, h74, h75, h76, by omega, ((gs_ne (by decide)).trans h78), h79, h80, by omega, gs_eq, h83, by omega⟩), sw_eq hk86, sw_kp hk86⟩
    have hg91 : g90 a8 0 = x51 := by rw [eg90]; exact ((gs_ne (by decide)).trans h65)
    have hg92 : g90 a8 2 = x53 := by rw [eg90]; exact ((gs_ne (by decide)).trans h69)
    have hg93 : g90 a8 4 = x55 := by rw [eg90]; exact ((gs_ne (by decide)).trans h72)
    have hg94 : g90 a8 7 = x58 := by rw [eg90]; exact ((gs_ne (by decide)).trans h78)
    have hg95 : g90 a8 10 = p1 := by rw [eg90]; exact gs_eq
    have ke96 : KF 6 T ws w87 := KF.tr KF.rf (KF.kp kp88 h28 (by decide))
    have hk97 := kp88 _ _ hk50 (rne ht0 h28 (by decide))
    refine lv_aload_n hx hb dX10_order_28 rfl (lv_at hl 1 rfl) ?_
    refine lv_dup hx hb dX10_order_29 rfl ?_
    refine va_get (D := D) (ci := 10) (v := .int x25) (C := RX10) (T := TX10) (N := 20) hx hb hg inGX10 hown hKN.1 hP p49 hk97 rfl 17 (by decide) (hg _ kw_366) (fun _ h9 => h9) rfl dX10_order_30 ?_
    refine lv_iconst (v := 1) hx hb dX10_order_33 (by decide) ?_
    refine lv_iadd hx hb dX10_order_34 ?_
    refine lv_topi (fun v98 ev98 => ?_)
    refine va_put (D := D) (ci := 10) (v := .int v98) (ty := .int) (C := RX10) (T := TX10) (N := 20) hx hb hg inGX10 tyX10 tyX10_ok nmX10 hown hKN.1 hP hD hS p49 hk97 rfl 17 (by decide) (hg _ kw_366) (fun _ h9 => h9) rfl (by decide +kernel) rfl rfl (Nat.le_of_ble_eq_true rfl) dX10_order_35 (fun H locs hP hD2 hS => ?_)
    obtain ⟨w99, hP, hD, hT, hk101, kp100⟩ : ∃ wz, va_P D vwCl wz H ∧ va_D A wz ∧ TW Y Z T g90 q wz ∧ wz[p49]? = some (p0, .inr (10, (.ref a8 :: .ref a9 :: .ref a10 :: .ref a11 :: .ref a12 :: .int x13 :: .int x14 :: .int x15 :: .ref a16 :: .ref a17 :: .ref a18 :: .ref a19 :: .ref a20 :: .ref a21 :: .ref a22 :: .ref a23 :: .ref a24 :: .int v98 :: .ref a26 :: .ref a27 :: []))) ∧ Kp p0 w87 wz := ⟨_, hP, hD2, st1 hT hD hk97 ht0 ⟨a8, a9, a10, a11, a12, x13, x14, x15, a16, a17, a18, a19, a20, a21, a22, a23, a24, v98, a26, a27, rfl, h28, h29, h30, h31, h32, h33, h34, by omega, by omega, by omega, h38, h39, h40, h41, h42, h43, h44, h45, h46, h47, h48⟩, sw_eq hk97, sw_kp hk97⟩
    have ke102 : KF 6 T ws w99 := KF.tr ke96 (KF.kp kp100 ht0 (by decide))
    have hk103 := kp100 _ _ hk89 (rne h28 ht0 (by decide))
    refine lv_iload_n hx hb dX10_order_38 rfl (lv_at hl 0 rfl) ?_
    refine W.widen (k := 0) (n := 0) (Nat.le_of_ble_eq_true rfl) (Nat.le_of_ble_eq_true rfl) ?_
    exact W.iret (v := x61) hx hb hr (fun t ht hW => ⟨⟨(x61, w99, g90), rfl, ⟨hT, ke102, (show ∀ s0, q p0 0 = some s0 → ((0 ≤ p1.toInt ∧ p1.toInt ≤ 23) ∧ x61 = g s0 10 ∧ GS T g g90 s0 10 p1) ∨ (¬ (0 ≤ p1.toInt ∧ p1.toInt ≤ 23) ∧ x61.toInt = -1 ∧ g90 = g) from (fun s0 hs => by obtain rfl : s0 = a8 := Option.some.inj (hs.symm.trans h29); exact Or.inl ⟨⟨by omega, by omega⟩, h82.symm, GS.of GA.rf eg90 h28⟩))⟩, CB.mk ht hP hD⟩, hS.F ht⟩) hS.2.2 dX10_order_39
  · obtain rfl : u1 = 0 := i_is c6 (by decide)
    refine W.eq (g2 := F0 m 7 ls [.int 0]) rfl ?_
    refine lv_if_ne (tgt := 12) hx hb dX10_order_7 (by decide) (fun c104 => ?_) (fun c104 => ?_)
    · exact absurd c104 (by decide)
    refine lv_iconst (v := (-1)) hx hb dX10_order_10 (by decide) ?_
    refine W.widen (k := 0) (n := 0) (Nat.le_of_ble_eq_true rfl) (Nat.le_of_ble_eq_true rfl) ?_
    have zim1 : ((-1) : Int32).toInt = -1 := by decide
    exact W.iret (v := (-1)) hx hb hr (fun t ht hW => ⟨⟨(((-1)), ws, g), rfl, ⟨hT, KF.rf, (show ∀ s0, q p0 0 = some s0 → ((0 ≤ p1.toInt ∧ p1.toInt ≤ 23) ∧ (-1) = g s0 10 ∧ GS T g g s0 10 p1) ∨ (¬ (0 ≤ p1.toInt ∧ p1.toInt ≤ 23) ∧ ((-1) : Int32).toInt = -1 ∧ g = g) from (fun s0 hs => Or.inr ⟨by omega, by decide, rfl⟩))⟩, CB.mk ht hP hD⟩, hS.F ht⟩) hS.2.2 dX10_order_11
set_option maxHeartbeats 4000000 in
set_option maxRecDepth 100000 in
theorem x_placeForE (l : Launch) (D : va_G) (Y : Nat → ClassId) (Z : Nat → Nat) (sz : Nat) (ws : va_W) (T : RT) (g : GN) (q : GQ) (j : Nat) (p0 : Nat) (p1 : Int32) (hT : TW Y Z T g q ws) (ht0 : T p0 = (2, j, 0)) (hp0 : (0 ≤ p1.toInt ∧ p1.toInt ≤ 11)) : Met l yX6_placeFor (.code yX6_placeFor cX6_placeFor 3 (some (.object "DimStars$Star")) :: GW) ({ frames := 2, cells := 2, slots := 604, locals := 40 }) (va_Pc [.ref p0, .int p1] (CPC D Y Z ws sz)) (QG (S := Nat × va_W × RT × GN × GQ) (fun u => some (.ref u.1)) (fun u => TLe T u.2.2.1 ∧ TW Y Z u.2.2.1 u.2.2.2.1 u.2.2.2.2 u.2.1 ∧ KF 1 T ws u.2.1 ∧ KF 6 T ws u.2.1 ∧ GE T g u.2.2.2.1 ∧ QE T q u.2.2.2.2 ∧ u.2.2.1 u.1 = (3, j, p1.toNatClampNeg)) (fun u => CB D u.2.1 (va_A ws sz)) (va_A ws sz)) 2 604 (va_A ws sz) := by
  refine Met.ofW (cc := cX6_placeFor) (maxL := 3) (ret := (some (.object "DimStars$Star"))) (by decide) rfl ?_
  intro p e s m args below meth c s₁ B hml hv
  obtain ⟨rfl, ⟨hsz, hP, hKN, hD0⟩, hSZ⟩ := hv
  have hx := B.exec
  have hb := B.bytes
  have hr := B.returns
  have hts := atoms_spec (ws := .code yX6_placeFor cX6_placeFor 3 (some (.object "DimStars$Star")) :: GW) B.pre
  have hg : ∀ w ∈ GW, w.before _ s = true := fun w h => hts w (List.mem_cons_of_mem _ h)
  have hown : s.vm.findClass RX6 = some m.cls := findClass_of_methodNamed B.named
  have hlocks := B.notSynchronized
  subst hsz
  have hD := hD0.self (sz := s.heap.size)
  generalize hAe : va_A ws s.heap.size = A at hD hSZ ⊢
  have hA : ∀ q : Nat, s.heap.size ≤ q → A q := fun q h => by rw [← hAe]; exact Or.inr h
  clear hAe hD0 hts B
  have hl := lv_entry ([.ref p0, .int p1]) (n := 3) (Nat.le_of_ble_eq_true rfl)
  rw [lg_entry_eq]
  generalize (lg_sl ([.ref p0, .int p1]) ++ List.replicate (3 - (lg_sl ([.ref p0, .int p1])).length) Slot.unset).toArray = ls at hl ⊢
  have hl : lv_has ls 3 [(0, .ref p0), (1, .int p1)] := hl
  refine w_start (A0 := A) hP (fun H locs hP hS => ?_)
  refine lv_aload_n hx hb dX6_placeFor_0 rfl (lv_at hl 0 rfl) ?_
  refine ok2 hT ht0 (fun p35 x1 a2 x3 a4 x5 a6 a7 x8 a9 a10 x11 a12 x13 hk36 h14 h15 h16 h17 h18 h19 h20 h21 h22 h23 h24 h25 h26 h27 h28 h29 h30 h31 h32 h33 h34 => ?_)
  refine va_get (D := D) (ci := 6) (v := .ref a2) (C := RX6) (T := TX6) (N := 13) hx hb hg inGX6 hown hKN.1 hP p35 hk36 rfl 1 (by decide) (hg _ kw_42) (fun _ h9 => h9) rfl dX6_placeFor_1 ?_
  refine lv_iload_n hx hb dX6_placeFor_4 rfl (lv_at hl 1 rfl) ?_
  refine tr_ld17 hx hb hKN hP hT h16 (vp_in_iff.mpr ⟨by omega, by omega⟩) dX6_placeFor_5 (fun r37 hr37 qr37 => ?_)
  refine W.eq (g2 := F0 m 6 ls [va_rf r37]) rfl ?_
  rcases r37 with _ | b38
  · skip
    refine W.eq (g2 := F0 m 6 ls [.null]) rfl ?_
    refine lv_astore_nN (lv' := [(2, .null), (0, .ref p0), (1, .int p1)]) hx hb dX6_placeFor_6 rfl hl (by decide) rfl (fun ls hl => ?_)
    refine lv_aload_nN hx hb dX6_placeFor_7 rfl (lv_at hl 0 rfl) ?_
    refine lv_ifnonnullN hx hb dX6_placeFor_8 ?_
    refine va_new (ci := 7) (fs := [.int 0, .int 0, .int 0, .null]) (C := RX7) (T := TX7) (N := 4) hx hb hg inGX7 tyX7 tyX7_ok hown (hg _ kw_35) (hg _ kw_428) (hg _ kw_11) hKN.1 hP hD hS hA rfl (fun j hj => by rcases (show j = 0 ∨ j = 1 ∨ j = 2 ∨ j = 3 by omega) with rfl | rfl | rfl | rfl <;> rfl) (Nat.le_of_ble_eq_true rfl) (Nat.le_of_ble_eq_true rfl) dX6_placeFor_11 (fun b39 H hP hD hS => ?_)
    refine W.widen (k := 1) (n := 4) (Nat.le_of_ble_eq_true rfl) (Nat.le_of_ble_eq_true rfl) ?_
    refine lv_dup hx hb dX6_placeFor_14 rfl ?_
    have hP40 : va_P D vwCl [(b39, .inr (7, [.int 0, .int 0, .int 0, .null]))] H := va_P.last hP
    have hD41 : va_D A [(b39, .inr (7, [.int 0, .int 0, .int 0, .null]))] := va_D.last hD
    refine cgn (rn_NI (As := []) (rest := [.ref b39]) (b := b39) (c_X7 l D Y Z H.size b39  ) ⟨hx, hb, hml, hown, hg⟩ hKN lk_X6_75 ⟨CP.blind, CP.at hP40 hKN hD41⟩ ⟨⟨rfl, rfl⟩, ⟨Nat.le_of_ble_eq_true rfl, Nat.le_of_ble_eq_true rfl⟩, ⟨(Nat.le_of_ble_eq_true rfl), (Nat.le_of_ble_eq_true rfl)⟩⟩ hl.1 rfl (Nat.le_of_ble_eq_true rfl) dX6_placeFor_15) hP hD hS hA (fun u42 H locs hw43 hP hD hS => ?_)
    refine W.widen (k := 2) (n := 604) (Nat.le_of_ble_eq_true rfl) (Nat.le_of_ble_eq_true rfl) ?_
    refine W.eq (g2 := F0 m 18 ls [.ref b39]) rfl ?_
    obtain ⟨w45, T44, g48, hP, hD, hT, le46, ht47, ex49⟩ := nw_X7 j p1.toNatClampNeg hT hP hD
    have ke50 : KF 1 T ws w45 := KF.tr KF.rf (KF.ex ex49.1)
    have ke51 : KF 6 T ws w45 := KF.tr KF.rf (KF.ex ex49.1)
    have hk52 := ex49.1 _ _ hk36
    have hg53 := (congrFun (ex49.2.1 p0 (by rw [ht0]; exact Nat.succ_ne_zero _)) 0).trans h15
    have hg54 := (congrFun (ex49.2.1 p0 (by rw [ht0]; exact Nat.succ_ne_zero _)) 2).trans h19
    have hg55 := (congrFun (ex49.2.1 p0 (by rw [ht0]; exact Nat.succ_ne_zero _)) 4).trans h22
    have hg56 := (congrFun (ex49.2.1 p0 (by rw [ht0]; exact Nat.succ_ne_zero _)) 7).trans h28
    have hg57 := (congrFun (ex49.2.1 p0 (by rw [ht0]; exact Nat.succ_ne_zero _)) 10).trans h32
    have ge58 : GE T g g48 := GE.tr GE.rf (GE.ex ex49.2.1)
    refine lv_astore_n (lv' := [(2, .ref b39), (0, .ref p0), (1, .int p1)]) hx hb dX6_placeFor_18 rfl hl (by decide) rfl (fun ls hl => ?_)
    refine lv_aload_n hx hb dX6_placeFor_19 rfl (lv_at hl 1 rfl) ?_
    refine va_get (D := D) (ci := 6) (v := .ref a2) (C := RX6) (T := TX6) (N := 13) hx hb hg inGX6 hown hKN.1 hP p35 hk52 rfl 1 (by decide) (hg _ kw_42) (fun _ h9 => h9) rfl dX6_placeFor_20 ?_
    refine lv_iload_n hx hb dX6_placeFor_23 rfl (lv_at hl 2 rfl) ?_
    refine lv_aload_n hx hb dX6_placeFor_24 rfl (lv_at hl 0 rfl) ?_
    refine tr_st17 hx hb hKN hP hD hS hT (le46.up h16) ht47 (vp_in_iff.mpr ⟨by omega, by omega⟩) dX6_placeFor_25 (fun w59 H locs hP hD hS hT kp60 => ?_)
    have ke61 : KF 1 T ws w59 := KF.tr ke50 (KF.le (by decide) le46 (KF.kp kp60 (le46.up h16) (by decide)))
    have ke62 : KF 6 T ws w59 := KF.tr ke51 (KF.le (by decide) le46 (KF.kp kp60 (le46.up h16) (by decide)))
    have hk63 := kp60 _ _ hk52 (rne (le46.up ht0) (le46.up h16) (by decide))
    obtain ⟨q64, eq64, hT⟩ : ∃ qz, qz = qset q a2 p1.toNatClampNeg (some b39) ∧ TW Y Z T44 g48 qz w59 := ⟨_, rfl, hT⟩
    have qe65 : QE T q q64 := QE.tr QE.rf (QE.le le46 (QE.st eq64 (le46.up h16)))
    have hg66 : q64 p0 1 = some a2 := by rw [eq64, qset_ne (rne (le46.up ht0) (le46.up h16) (by decide))]; exact h17
    have hg67 : q64 p0 5 = some a6 := by rw [eq64, qset_ne (rne (le46.up ht0) (le46.up h16) (by decide))]; exact h24
    have hg68 : q64 p0 6 = some a7 := by rw [eq64, qset_ne (rne (le46.up ht0) (le46.up h16) (by decide))]; exact h26
    refine lv_aload_n hx hb dX6_placeFor_26 rfl (lv_at hl 0 rfl) ?_
    refine W.widen (k := 2) (n := 604) (Nat.le_of_ble_eq_true rfl) (Nat.le_of_ble_eq_true rfl) ?_
    exact W.aret (v := .ref b39) hx hb hr (Or.inl ⟨_, rfl⟩) (Or.inr ⟨_, rfl⟩) (fun t ht hW => ⟨⟨(b39, w59, T44, g48, q64), rfl, ⟨le46, hT, ke61, ke62, ge58, qe65, ht47⟩, CB.mk ht hP hD⟩, hS.F ht⟩) hS.2.2 dX6_placeFor_27
  · skip
    have ht69 := hr37 b38 rfl
    refine W.eq (g2 := F0 m 6 ls [.ref b38]) rfl ?_
    refine lv_astore_n (lv' := [(2, .ref b38), (0, .ref p0), (1, .int p1)]) hx hb dX6_placeFor_6 rfl hl (by decide) rfl (fun ls hl => ?_)
    refine lv_aload_n hx hb dX6_placeFor_7 rfl (lv_at hl 0 rfl) ?_
    refine lv_ifnonnull (tgt := 26) hx hb dX6_placeFor_8 (by decide) ?_
    refine lv_aload_n hx hb dX6_placeFor_26 rfl (lv_at hl 0 rfl) ?_
    refine W.widen (k := 2) (n := 604) (Nat.le_of_ble_eq_true rfl) (Nat.le_of_ble_eq_true rfl) ?_
    exact W.aret (v := .ref b38) hx hb hr (Or.inl ⟨_, rfl⟩) (Or.inr ⟨_, rfl⟩) (fun t ht hW => ⟨⟨(b38, ws, T, g, q), rfl, ⟨TLe.rf, hT, KF.rf, KF.rf, GE.rf, QE.rf, ht69⟩, CB.mk ht hP hD⟩, hS.F ht⟩) hS.2.2 dX6_placeFor_27
set_option maxHeartbeats 4000000 in
set_option maxRecDepth 100000 in
theorem x_addStarE (l : Launch) (D : va_G) (Y : Nat → ClassId) (Z : Nat → Nat) (sz : Nat) (ws : va_W) (T : RT) (g : GN) (q : GQ) (j : Nat) (p0 : Nat) (p1 : Int32) (p2 : Int32) (p3 : Int32) (hT : TW Y Z T g q ws) (ht0 : T p0 = (2, j, 0)) : Met l yX6_addStar (.code yX6_addStar cX6_addStar 5 (some .int) :: GW) ({ frames := 3, cells := 2, slots := 604, locals := 62 }) (va_Pc [.ref p0, .int p1, .int p2, .int p3] (CPC D Y Z ws sz)) (QG (S := Int32 × va_W × RT × GN × GQ) (fun u => some (.int u.1)) (fun u => TLe T u.2.2.1 ∧ TW Y Z u.2.2.1 u.2.2.2.1 u.2.2.2.2 u.2.1 ∧ KF 1 T ws u.2.1 ∧ KF 6 T ws u.2.1 ∧ QE T q u.2.2.2.2 ∧ ((u.1.toInt = -1 ∧ 12 ≤ (g p0 0).toInt ∧ GE T g u.2.2.2.1) ∨ ((g p0 0).toInt < 12 ∧ u.1.toInt = (g p0 0).toInt ∧ GP T g u.2.2.2.1 p0))) (fun u => CB D u.2.1 (va_A ws sz)) (va_A ws sz)) 2 604 (va_A ws sz) := by
  refine Met.ofW (cc := cX6_addStar) (maxL := 5) (ret := (some .int)) (by decide) rfl ?_
  intro p e s m args below meth c s₁ B hml hv
  obtain ⟨rfl, ⟨hsz, hP, hKN, hD0⟩, hSZ⟩ := hv
  have hx := B.exec
  have hb := B.bytes
  have hr := B.returns
  have hts := atoms_spec (ws := .code yX6_addStar cX6_addStar 5 (some .int) :: GW) B.pre
  have hg : ∀ w ∈ GW, w.before _ s = true := fun w h => hts w (List.mem_cons_of_mem _ h)
  have hown : s.vm.findClass RX6 = some m.cls := findClass_of_methodNamed B.named
  have hlocks := B.notSynchronized
  subst hsz
  have hD := hD0.self (sz := s.heap.size)
  generalize hAe : va_A ws s.heap.size = A at hD hSZ ⊢
  have hA : ∀ q : Nat, s.heap.size ≤ q → A q := fun q h => by rw [← hAe]; exact Or.inr h
  clear hAe hD0 hts B
  have hl := lv_entry ([.ref p0, .int p1, .int p2, .int p3]) (n := 5) (Nat.le_of_ble_eq_true rfl)
  rw [lg_entry_eq]
  generalize (lg_sl ([.ref p0, .int p1, .int p2, .int p3]) ++ List.replicate (5 - (lg_sl ([.ref p0, .int p1, .int p2, .int p3])).length) Slot.unset).toArray = ls at hl ⊢
  have hl : lv_has ls 5 [(0, .ref p0), (1, .int p1), (2, .int p2), (3, .int p3)] := hl
  refine w_start (A0 := A) hP (fun H locs hP hS => ?_)
  refine ok2 hT ht0 (fun p35 x1 a2 x3 a4 x5 a6 a7 x8 a9 a10 x11 a12 x13 hk36 h14 h15 h16 h17 h18 h19 h20 h21 h22 h23 h24 h25 h26 h27 h28 h29 h30 h31 h32 h33 h34 => ?_)
  refine lv_aload_n hx hb dX6_addStar_0 rfl (lv_at hl 0 rfl) ?_
  refine va_get (D := D) (ci := 6) (v := .int x1) (C := RX6) (T := TX6) (N := 13) hx hb hg inGX6 hown hKN.1 hP p35 hk36 rfl 0 (by decide) (hg _ kw_39) (fun _ h9 => h9) rfl dX6_addStar_1 ?_
  refine lv_bipush (v := 12) hx hb dX6_addStar_4 (by decide) ?_
  refine lv_icmp_lt (tgt := 11) hx hb dX6_addStar_6 (by decide) (fun c37 => ?_) (fun c37 => ?_)
  · skip
    have c37 := i_lt (Eq.refl x1.toInt) (show (12 : Int32).toInt = 12 by decide) c37
    refine lv_aload_n hx hb dX6_addStar_11 rfl (lv_at hl 0 rfl) ?_
    refine lv_aload_n hx hb dX6_addStar_12 rfl (lv_at hl 0 rfl) ?_
    refine va_get (D := D) (ci := 6) (v := .int x1) (C := RX6) (T := TX6) (N := 13) hx hb hg inGX6 hown hKN.1 hP p35 hk36 rfl 0 (by decide) (hg _ kw_39) (fun _ h9 => h9) rfl dX6_addStar_13 ?_
    refine cga (rn_V (As := [.int x1]) (rest := []) (b := p0) (x_placeForE l D Y Z H.size ws T g q j p0 x1 hT ht0 (show (0 ≤ x1.toInt ∧ x1.toInt ≤ 11) by omega)) ⟨hx, hb, hml, hown, hg⟩ lk_X6_68 ⟨CPC.blind, va_recv hKN.1 hP (ci := 6) (q0 := p35) rfl hk36, CPC.at hP hKN hD hSZ hS hA⟩ ⟨⟨rfl, rfl⟩, ⟨Nat.le_of_ble_eq_true rfl, Nat.le_of_ble_eq_true rfl⟩, ⟨(Nat.le_of_ble_eq_true rfl), (Nat.le_of_ble_eq_true rfl)⟩⟩ hl.1 rfl (Nat.le_of_ble_eq_true rfl) dX6_addStar_16) hP hD hS hA (fun u38 H locs hw39 hP hD hS => ?_)
    refine W.widen (k := 2) (n := 604) (Nat.le_of_ble_eq_true rfl) (Nat.le_of_ble_eq_true rfl) ?_
    obtain ⟨b40, w41, T42, g43, q44⟩ := u38
    obtain ⟨le45, hT, ke46, ke47, ge48, qe49, ht50⟩ : TLe T T42 ∧ TW Y Z T42 g43 q44 w41 ∧ KF 1 T ws w41 ∧ KF 6 T ws w41 ∧ GE T g g43 ∧ QE T q q44 ∧ T42 b40 = (3, j, x1.toNatClampNeg) := hw39
    have ke51 : KF 1 T ws w41 := KF.tr KF.rf ke46
    have ke52 : KF 6 T ws w41 := KF.tr KF.rf ke47
    have ge53 : GE T g g43 := GE.tr GE.rf ge48
    have qe54 : QE T q q44 := QE.tr QE.rf qe49
    refine W.eq (g2 := F0 m 19 ls [.ref b40]) rfl ?_
    refine lv_astore (lv' := [(4, .ref b40), (0, .ref p0), (1, .int p1), (2, .int p2), (3, .int p3)]) hx hb dX6_addStar_19 hl (by decide) rfl (fun ls hl => ?_)
    refine lv_aload hx hb dX6_addStar_21 (lv_at hl 0 rfl) ?_
    refine lv_iload_n hx hb dX6_addStar_23 rfl (lv_at hl 2 rfl) ?_
    refine lv_iload_n hx hb dX6_addStar_24 rfl (lv_at hl 3 rfl) ?_
    refine lv_iload_n hx hb dX6_addStar_25 rfl (lv_at hl 4 rfl) ?_
    refine ok3 hT ht50 (fun p61 x55 x56 x57 a58 hk62 h59 h60 => ?_)
    refine cga (rn_NV (As := [.int p1, .int p2, .int p3]) (rest := []) (b := b40) (x_X7_begin l D Y Z H.size w41 T42 g43 q44 j x1.toNatClampNeg b40 p1 p2 p3 hT ht50) ⟨hx, hb, hml, hown, hg⟩ hKN lk_X6_71 ⟨CPC.blind, va_recv hKN.1 hP (ci := 7) (q0 := p61) rfl hk62, CPC.at hP hKN hD hSZ hS hA⟩ ⟨⟨rfl, rfl⟩, ⟨Nat.le_of_ble_eq_true rfl, Nat.le_of_ble_eq_true rfl⟩, ⟨(Nat.le_of_ble_eq_true rfl), (Nat.le_of_ble_eq_true rfl)⟩⟩ hl.1 rfl (Nat.le_of_ble_eq_true rfl) dX6_addStar_26) hP hD hS hA (fun u63 H locs hw64 hP hD hS => ?_)
    obtain ⟨w65, g66⟩ := u63
    obtain ⟨hT, ke67, ke68, ge69⟩ : TW Y Z T42 g66 q44 w65 ∧ KF 1 T42 w41 w65 ∧ KF 6 T42 w41 w65 ∧ GE T42 g43 g66 := hw64
    have ke70 : KF 1 T ws w65 := KF.tr ke51 (KF.le (by decide) le45 ke67)
    have ke71 : KF 6 T ws w65 := KF.tr ke52 (KF.le (by decide) le45 ke68)
    have ge72 : GE T g g66 := GE.tr ge53 (GE.le le45 ge69)
    refine W.eq (g2 := F0 m 29 ls []) rfl ?_
    refine ok2 hT (le45.up ht0) (fun p107 x73 a74 x75 a76 x77 a78 a79 x80 a81 a82 x83 a84 x85 hk108 h86 h87 h88 h89 h90 h91 h92 h93 h94 h95 h96 h97 h98 h99 h100 h101 h102 h103 h104 h105 h106 => ?_)
    have e109 : x73 = x1 := by have e1 := congrFun (ge72 p0 (by rw [ht0]; show (2 : Nat) ≠ 0; decide) (by rw [ht0]; show (2 : Nat) ≠ 3; decide)) 0; rw [← h87, e1, h15]
    have e1092 := congrArg Int32.toInt e109
    refine lv_aload_n hx hb dX6_addStar_29 rfl (lv_at hl 1 rfl) ?_
    refine lv_dup hx hb dX6_addStar_30 rfl ?_
    refine va_get (D := D) (ci := 6) (v := .int x73) (C := RX6) (T := TX6) (N := 13) hx hb hg inGX6 hown hKN.1 hP p107 hk108 rfl 0 (by decide) (hg _ kw_39) (fun _ h9 => h9) rfl dX6_addStar_31 ?_
    refine lv_iconst (v := 1) hx hb dX6_addStar_34 (by decide) ?_
    refine lv_iadd hx hb dX6_addStar_35 ?_
    refine lv_topi (fun v110 ev110 => ?_)
    have hv110 := i_add (Eq.refl x73.toInt) (show (1 : Int32).toInt = 1 by decide) ev110 (by omega) (by omega)
    refine va_put (D := D) (ci := 6) (v := .int v110) (ty := .int) (C := RX6) (T := TX6) (N := 13) hx hb hg inGX6 tyX6 tyX6_ok nmX6 hown hKN.1 hP hD hS p107 hk108 rfl 0 (by decide) (hg _ kw_39) (fun _ h9 => h9) rfl (by decide +kernel) rfl rfl (Nat.le_of_ble_eq_true rfl) dX6_addStar_36 (fun H locs hP hD2 hS => ?_)
    obtain ⟨w111, g114, eg114, hP, hD, hT, hk113, kp112⟩ : ∃ wz gz, gz = gset g66 p0 0 v110 ∧ va_P D vwCl wz H ∧ va_D A wz ∧ TW Y Z T42 gz q44 wz ∧ wz[p107]? = some (p0, .inr (6, (.int v110 :: .ref a74 :: .int x75 :: .ref a76 :: .int x77 :: .ref a78 :: .ref a79 :: .int x80 :: .ref a81 :: .ref a82 :: .int x83 :: .ref a84 :: .int x85 :: []))) ∧ Kp p0 w65 wz := ⟨_, _, rfl, hP, hD2, tw_sg (k := 2) (g2 := gset g66 p0 0 v110) (q2 := q44) hT hD hk108 (le45.up ht0) (fun _ hc => gset_ne hc) (fun _ _ => rfl) (show Sh2 Y Z T42 ((gset g66 p0 0 v110) p0) (q44 p0) j 0 _ from ⟨v110, a74, x75, a76, x77, a78, a79, x80, a81, a82, x83, a84, x85, rfl, by omega, gs_eq, h88, h89, by omega, ((gs_ne (by decide)).trans h91), h92, by omega, ((gs_ne (by decide)).trans h94), h95, h96, h97, h98, by omega, ((gs_ne (by decide)).trans h100), h101, h102, by omega, ((gs_ne (by decide)).trans h104), h105, by omega⟩), sw_eq hk108, sw_kp hk108⟩
    have hg115 : g114 p0 0 = v110 := by rw [eg114]; exact gs_eq
    have hg116 : g114 p0 2 = x75 := by rw [eg114]; exact ((gs_ne (by decide)).trans h91)
    have hg117 : g114 p0 4 = x77 := by rw [eg114]; exact ((gs_ne (by decide)).trans h94)
    have hg118 : g114 p0 7 = x80 := by rw [eg114]; exact ((gs_ne (by decide)).trans h100)
    have hg119 : g114 p0 10 = x83 := by rw [eg114]; exact ((gs_ne (by decide)).trans h104)
    have ke120 : KF 1 T ws w111 := KF.tr ke70 (KF.le (by decide) le45 (KF.kp kp112 (le45.up ht0) (by decide)))
    have ke121 : KF 6 T ws w111 := KF.tr ke71 (KF.le (by decide) le45 (KF.kp kp112 (le45.up ht0) (by decide)))
    refine lv_aload_n hx hb dX6_addStar_39 rfl (lv_at hl 1 rfl) ?_
    refine va_get (D := D) (ci := 6) (v := .int v110) (C := RX6) (T := TX6) (N := 13) hx hb hg inGX6 hown hKN.1 hP p107 hk113 rfl 0 (by decide) (hg _ kw_39) (fun _ h9 => h9) rfl dX6_addStar_40 ?_
    refine lv_iconst (v := 1) hx hb dX6_addStar_43 (by decide) ?_
    refine lv_isub hx hb dX6_addStar_44 ?_
    refine lv_topi (fun v122 ev122 => ?_)
    have hv122 := i_sub (Eq.refl v110.toInt) (show (1 : Int32).toInt = 1 by decide) ev122 (by omega) (by omega)
    refine W.widen (k := 2) (n := 604) (Nat.le_of_ble_eq_true rfl) (Nat.le_of_ble_eq_true rfl) ?_
    exact W.iret (v := v122) hx hb hr (fun t ht hW => ⟨⟨(v122, w111, T42, g114, q44), rfl, ⟨le45, hT, ke120, ke121, qe54, (show (v122.toInt = -1 ∧ 12 ≤ (g p0 0).toInt ∧ GE T g g114) ∨ ((g p0 0).toInt < 12 ∧ v122.toInt = (g p0 0).toInt ∧ GP T g g114 p0) from (Or.inr ⟨by rw [h15]; omega, by rw [h15]; omega, (⟨v110, by rw [h15]; omega, GS.of (GA.ge ge72) eg114 ht0⟩ : GP _ _ _ _)⟩))⟩, CB.mk ht hP hD⟩, hS.F ht⟩) hS.2.2 dX6_addStar_45
  · skip
    have c37 := i_nlt (Eq.refl x1.toInt) (show (12 : Int32).toInt = 12 by decide) c37
    refine lv_iconst (v := (-1)) hx hb dX6_addStar_9 (by decide) ?_
    refine W.widen (k := 2) (n := 604) (Nat.le_of_ble_eq_true rfl) (Nat.le_of_ble_eq_true rfl) ?_
    have zim1 : ((-1) : Int32).toInt = -1 := by decide
    exact W.iret (v := (-1)) hx hb hr (fun t ht hW => ⟨⟨(((-1)), ws, T, g, q), rfl, ⟨TLe.rf, hT, KF.rf, KF.rf, QE.rf, (show (((-1) : Int32).toInt = -1 ∧ 12 ≤ (g p0 0).toInt ∧ GE T g g) ∨ ((g p0 0).toInt < 12 ∧ ((-1) : Int32).toInt = (g p0 0).toInt ∧ GP T g g p0) from (Or.inl ⟨by decide, by rw [h15]; omega, GE.rf⟩))⟩, CB.mk ht hP hD⟩, hS.F ht⟩) hS.2.2 dX6_addStar_10
set_option maxHeartbeats 4000000 in
set_option maxRecDepth 100000 in
theorem x_starE (l : Launch) (D : va_G) (Y : Nat → ClassId) (Z : Nat → Nat) (sz : Nat) (ws : va_W) (T : RT) (g : GN) (q : GQ)  (p0 : Nat) (p1 : Int32) (p2 : Int32) (p3 : Int32) (hT : TW Y Z T g q ws) (ht0 : T p0 = (1, 0, 0)) : Met l yX10_star (.code yX10_star cX10_star 4 (some .int) :: GW) ({ frames := 4, cells := 2, slots := 604, locals := 86 }) (va_Pc [.ref p0, .int p1, .int p2, .int p3] (CPC D Y Z ws sz)) (QG (S := Int32 × va_W × RT × GN × GQ) (fun u => some (.int u.1)) (fun u => TLe T u.2.2.1 ∧ TW Y Z u.2.2.1 u.2.2.2.1 u.2.2.2.2 u.2.1 ∧ KF 1 T ws u.2.1 ∧ KF 6 T ws u.2.1 ∧ QE T q u.2.2.2.2 ∧ (∀ s0, q p0 0 = some s0 → (((1 ≤ p1.toInt ∧ p1.toInt ≤ 999) ∧ (0 ≤ p2.toInt ∧ p2.toInt ≤ 7) ∧ (1 ≤ p3.toInt ∧ p3.toInt ≤ 1000)) ∧ ((u.1.toInt = -1 ∧ 12 ≤ (g s0 0).toInt ∧ GE T g u.2.2.2.1) ∨ ((g s0 0).toInt < 12 ∧ u.1.toInt = (g s0 0).toInt ∧ GP T g u.2.2.2.1 s0))) ∨ (¬ ((1 ≤ p1.toInt ∧ p1.toInt ≤ 999) ∧ (0 ≤ p2.toInt ∧ p2.toInt ≤ 7) ∧ (1 ≤ p3.toInt ∧ p3.toInt ≤ 1000)) ∧ u.1.toInt = -1 ∧ u.2.2.2.1 = g))) (fun u => CB D u.2.1 (va_A ws sz)) (va_A ws sz)) 2 604 (va_A ws sz) := by
  refine Met.ofW (cc := cX10_star) (maxL := 4) (ret := (some .int)) (by decide) rfl ?_
  intro p e s m args below meth c s₁ B hml hv
  obtain ⟨rfl, ⟨hsz, hP, hKN, hD0⟩, hSZ⟩ := hv
  have hx := B.exec
  have hb := B.bytes
  have hr := B.returns
  have hts := atoms_spec (ws := .code yX10_star cX10_star 4 (some .int) :: GW) B.pre
  have hg : ∀ w ∈ GW, w.before _ s = true := fun w h => hts w (List.mem_cons_of_mem _ h)
  have hown : s.vm.findClass RX10 = some m.cls := findClass_of_methodNamed B.named
  have hlocks := B.notSynchronized
  subst hsz
  have hD := hD0.self (sz := s.heap.size)
  generalize hAe : va_A ws s.heap.size = A at hD hSZ ⊢
  have hA : ∀ q : Nat, s.heap.size ≤ q → A q := fun q h => by rw [← hAe]; exact Or.inr h
  clear hAe hD0 hts B
  have hl := lv_entry ([.ref p0, .int p1, .int p2, .int p3]) (n := 4) (Nat.le_of_ble_eq_true rfl)
  rw [lg_entry_eq]
  generalize (lg_sl ([.ref p0, .int p1, .int p2, .int p3]) ++ List.replicate (4 - (lg_sl ([.ref p0, .int p1, .int p2, .int p3])).length) Slot.unset).toArray = ls at hl ⊢
  have hl : lv_has ls 4 [(0, .ref p0), (1, .int p1), (2, .int p2), (3, .int p3)] := hl
  refine w_start (A0 := A) hP (fun H locs hP hS => ?_)
  refine ok1 hT ht0 (fun p42 a1 a2 a3 a4 a5 x6 x7 x8 a9 a10 a11 a12 a13 a14 a15 a16 a17 x18 a19 a20 hk43 h21 h22 h23 h24 h25 h26 h27 h28 h29 h30 h31 h32 h33 h34 h35 h36 h37 h38 h39 h40 h41 => ?_)
  refine lv_iload_n hx hb dX10_star_0 rfl (lv_at hl 1 rfl) ?_
  refine cg0 (rn_S (As := [.int p1]) (rest := []) (x_X10_isSize l D Y Z H.size p1) ⟨hx, hb, hml, hown, hg⟩ lk_X10_96 ⟨CP.blind, CP.at nilP hKN (nilD (A := fun _ => True))⟩ ⟨⟨rfl, rfl⟩, ⟨Nat.le_of_ble_eq_true rfl, Nat.le_of_ble_eq_true rfl⟩, ⟨(Nat.le_of_ble_eq_true rfl), (Nat.le_of_ble_eq_true rfl)⟩⟩ hl.1 rfl (Nat.le_of_ble_eq_true rfl) dX10_star_1) hP hS hA (fun u44 H locs hw45 hP hS => ?_)
  obtain ⟨hw47, hw48⟩ : ((1 ≤ p1.toInt ∧ p1.toInt ≤ 999 ∧ u44.toInt = 1) ∨ (¬ (1 ≤ p1.toInt ∧ p1.toInt ≤ 999) ∧ u44.toInt = 0)) ∧ (0 ≤ u44.toInt ∧ u44.toInt ≤ 1) := hw45
  refine W.eq (g2 := F0 m 4 ls [.int u44]) rfl ?_
  rcases (show u44.toInt = 1 ∨ u44.toInt = 0 by omega) with c49 | c49
  · obtain rfl : u44 = 1 := i_is c49 (by decide)
    have zi1 : (1 : Int32).toInt = 1 := by decide
    refine W.eq (g2 := F0 m 4 ls [.int 1]) rfl ?_
    refine lv_if_eq (tgt := 28) hx hb dX10_star_4 (by decide) (fun c50 => ?_) (fun c50 => ?_)
    · exact absurd c50 (by decide)
    refine lv_iload_n hx hb dX10_star_7 rfl (lv_at hl 2 rfl) ?_
    refine lv_iconst (v := 0) hx hb dX10_star_8 (by decide) ?_
    refine lv_bipush (v := 7) hx hb dX10_star_9 (by decide) ?_
    have zi0 : (0 : Int32).toInt = 0 := by decide
    have zi7 : (7 : Int32).toInt = 7 := by decide
    refine cg0 (rn_S (As := [.int p2, .int 0, .int 7]) (rest := []) (x_X10_isWithin l D Y Z H.size p2 0 7) ⟨hx, hb, hml, hown, hg⟩ lk_X10_100 ⟨CP.blind, CP.at nilP hKN (nilD (A := fun _ => True))⟩ ⟨⟨rfl, rfl⟩, ⟨Nat.le_of_ble_eq_true rfl, Nat.le_of_ble_eq_true rfl⟩, ⟨(Nat.le_of_ble_eq_true rfl), (Nat.le_of_ble_eq_true rfl)⟩⟩ hl.1 rfl (Nat.le_of_ble_eq_true rfl) dX10_star_11) hP hS hA (fun u51 H locs hw52 hP hS => ?_)
    obtain ⟨hw54, hw55⟩ : (((0 : Int32).toInt ≤ p2.toInt ∧ p2.toInt ≤ (7 : Int32).toInt ∧ u51.toInt = 1) ∨ (¬ ((0 : Int32).toInt ≤ p2.toInt ∧ p2.toInt ≤ (7 : Int32).toInt) ∧ u51.toInt = 0)) ∧ (0 ≤ u51.toInt ∧ u51.toInt ≤ 1) := hw52
    refine W.eq (g2 := F0 m 14 ls [.int u51]) rfl ?_
    rcases (show u51.toInt = 1 ∨ u51.toInt = 0 by omega) with c56 | c56
    · obtain rfl : u51 = 1 := i_is c56 (by decide)
      refine W.eq (g2 := F0 m 14 ls [.int 1]) rfl ?_
      refine lv_if_eq (tgt := 28) hx hb dX10_star_14 (by decide) (fun c57 => ?_) (fun c57 => ?_)
      · exact absurd c57 (by decide)
      refine lv_iload_n hx hb dX10_star_17 rfl (lv_at hl 3 rfl) ?_
      refine lv_iconst (v := 1) hx hb dX10_star_18 (by decide) ?_
      refine lv_sipush (v := 1000) hx hb dX10_star_19 (by decide) ?_
      have zi1000 : (1000 : Int32).toInt = 1000 := by decide
      refine cg0 (rn_S (As := [.int p3, .int 1, .int 1000]) (rest := []) (x_X10_isWithin l D Y Z H.size p3 1 1000) ⟨hx, hb, hml, hown, hg⟩ lk_X10_100 ⟨CP.blind, CP.at nilP hKN (nilD (A := fun _ => True))⟩ ⟨⟨rfl, rfl⟩, ⟨Nat.le_of_ble_eq_true rfl, Nat.le_of_ble_eq_true rfl⟩, ⟨(Nat.le_of_ble_eq_true rfl), (Nat.le_of_ble_eq_true rfl)⟩⟩ hl.1 rfl (Nat.le_of_ble_eq_true rfl) dX10_star_22) hP hS hA (fun u58 H locs hw59 hP hS => ?_)
      obtain ⟨hw61, hw62⟩ : (((1 : Int32).toInt ≤ p3.toInt ∧ p3.toInt ≤ (1000 : Int32).toInt ∧ u58.toInt = 1) ∨ (¬ ((1 : Int32).toInt ≤ p3.toInt ∧ p3.toInt ≤ (1000 : Int32).toInt) ∧ u58.toInt = 0)) ∧ (0 ≤ u58.toInt ∧ u58.toInt ≤ 1) := hw59
      refine W.eq (g2 := F0 m 25 ls [.int u58]) rfl ?_
      rcases (show u58.toInt = 1 ∨ u58.toInt = 0 by omega) with c63 | c63
      · obtain rfl : u58 = 1 := i_is c63 (by decide)
        refine W.eq (g2 := F0 m 25 ls [.int 1]) rfl ?_
        refine lv_if_ne (tgt := 30) hx hb dX10_star_25 (by decide) (fun c64 => ?_) (fun c64 => ?_)
        rotate_left
        · exact absurd c64 (by decide)
        refine lv_aload_n hx hb dX10_star_30 rfl (lv_at hl 0 rfl) ?_
        refine va_get (D := D) (ci := 10) (v := .ref a1) (C := RX10) (T := TX10) (N := 20) hx hb hg inGX10 hown hKN.1 hP p42 hk43 rfl 0 (by decide) (hg _ kw_349) (fun _ h9 => h9) rfl dX10_star_31 ?_
        refine lv_iload_n hx hb dX10_star_34 rfl (lv_at hl 1 rfl) ?_
        refine lv_iload_n hx hb dX10_star_35 rfl (lv_at hl 2 rfl) ?_
        refine lv_iload_n hx hb dX10_star_36 rfl (lv_at hl 3 rfl) ?_
        refine ok2 hT h21 (fun p99 x65 a66 x67 a68 x69 a70 a71 x72 a73 a74 x75 a76 x77 hk100 h78 h79 h80 h81 h82 h83 h84 h85 h86 h87 h88 h89 h90 h91 h92 h93 h94 h95 h96 h97 h98 => ?_)
        refine cga (rn_NV (As := [.int p1, .int p2, .int p3]) (rest := []) (b := a1) (x_addStarE l D Y Z H.size ws T g q 0 a1 p1 p2 p3 hT h21) ⟨hx, hb, hml, hown, hg⟩ hKN lk_X10_104 ⟨CPC.blind, va_recv hKN.1 hP (ci := 6) (q0 := p99) rfl hk100, CPC.at hP hKN hD hSZ hS hA⟩ ⟨⟨rfl, rfl⟩, ⟨Nat.le_of_ble_eq_true rfl, Nat.le_of_ble_eq_true rfl⟩, ⟨(Nat.le_of_ble_eq_true rfl), (Nat.le_of_ble_eq_true rfl)⟩⟩ hl.1 rfl (Nat.le_of_ble_eq_true rfl) dX10_star_37) hP hD hS hA (fun u101 H locs hw102 hP hD hS => ?_)
        refine W.widen (k := 2) (n := 604) (Nat.le_of_ble_eq_true rfl) (Nat.le_of_ble_eq_true rfl) ?_
        obtain ⟨u103, w104, T105, g106, q107⟩ := u101
        obtain ⟨le108, hT, ke109, ke110, qe111, hw112⟩ : TLe T T105 ∧ TW Y Z T105 g106 q107 w104 ∧ KF 1 T ws w104 ∧ KF 6 T ws w104 ∧ QE T q q107 ∧ ((u103.toInt = -1 ∧ 12 ≤ (g a1 0).toInt ∧ GE T g g106) ∨ ((g a1 0).toInt < 12 ∧ u103.toInt = (g a1 0).toInt ∧ GP T g g106 a1)) := hw102
        have hk113 := ke109 _ _ hk43 (show (T p0).1 = 1 by rw [ht0])
        have ke114 : KF 1 T ws w104 := KF.tr KF.rf ke109
        have ke115 : KF 6 T ws w104 := KF.tr KF.rf ke110
        have qe116 : QE T q q107 := QE.tr QE.rf qe111
        refine W.eq (g2 := F0 m 40 ls [.int u103]) rfl ?_
        refine W.widen (k := 2) (n := 604) (Nat.le_of_ble_eq_true rfl) (Nat.le_of_ble_eq_true rfl) ?_
        exact W.iret (v := u103) hx hb hr (fun t ht hW => ⟨⟨(u103, w104, T105, g106, q107), rfl, ⟨le108, hT, ke114, ke115, qe116, (show ∀ s0, q p0 0 = some s0 → (((1 ≤ p1.toInt ∧ p1.toInt ≤ 999) ∧ (0 ≤ p2.toInt ∧ p2.toInt ≤ 7) ∧ (1 ≤ p3.toInt ∧ p3.toInt ≤ 1000)) ∧ ((u103.toInt = -1 ∧ 12 ≤ (g s0 0).toInt ∧ GE T g g106) ∨ ((g s0 0).toInt < 12 ∧ u103.toInt = (g s0 0).toInt ∧ GP T g g106 s0))) ∨ (¬ ((1 ≤ p1.toInt ∧ p1.toInt ≤ 999) ∧ (0 ≤ p2.toInt ∧ p2.toInt ≤ 7) ∧ (1 ≤ p3.toInt ∧ p3.toInt ≤ 1000)) ∧ u103.toInt = -1 ∧ g106 = g) from (fun s0 hs => by obtain rfl : s0 = a1 := Option.some.inj (hs.symm.trans h22); exact Or.inl ⟨by omega, hw112⟩))⟩, CB.mk ht hP hD⟩, hS.F ht⟩) hS.2.2 dX10_star_40
      · obtain rfl : u58 = 0 := i_is c63 (by decide)
        refine W.eq (g2 := F0 m 25 ls [.int 0]) rfl ?_
        refine lv_if_ne (tgt := 30) hx hb dX10_star_25 (by decide) (fun c117 => ?_) (fun c117 => ?_)
        · exact absurd c117 (by decide)
        refine lv_iconst (v := (-1)) hx hb dX10_star_28 (by decide) ?_
        refine W.widen (k := 2) (n := 604) (Nat.le_of_ble_eq_true rfl) (Nat.le_of_ble_eq_true rfl) ?_
        have zim1 : ((-1) : Int32).toInt = -1 := by decide
        exact W.iret (v := (-1)) hx hb hr (fun t ht hW => ⟨⟨(((-1)), ws, T, g, q), rfl, ⟨TLe.rf, hT, KF.rf, KF.rf, QE.rf, (show ∀ s0, q p0 0 = some s0 → (((1 ≤ p1.toInt ∧ p1.toInt ≤ 999) ∧ (0 ≤ p2.toInt ∧ p2.toInt ≤ 7) ∧ (1 ≤ p3.toInt ∧ p3.toInt ≤ 1000)) ∧ ((((-1) : Int32).toInt = -1 ∧ 12 ≤ (g s0 0).toInt ∧ GE T g g) ∨ ((g s0 0).toInt < 12 ∧ ((-1) : Int32).toInt = (g s0 0).toInt ∧ GP T g g s0))) ∨ (¬ ((1 ≤ p1.toInt ∧ p1.toInt ≤ 999) ∧ (0 ≤ p2.toInt ∧ p2.toInt ≤ 7) ∧ (1 ≤ p3.toInt ∧ p3.toInt ≤ 1000)) ∧ ((-1) : Int32).toInt = -1 ∧ g = g) from (fun s0 hs => Or.inr ⟨by omega, by decide, rfl⟩))⟩, CB.mk ht hP hD⟩, hS.F ht⟩) hS.2.2 dX10_star_29
    · obtain rfl : u51 = 0 := i_is c56 (by decide)
      refine W.eq (g2 := F0 m 14 ls [.int 0]) rfl ?_
      refine lv_if_eq (tgt := 28) hx hb dX10_star_14 (by decide) (fun c118 => ?_) (fun c118 => ?_)
      rotate_left
      · exact absurd c118 (by decide)
      refine lv_iconst (v := (-1)) hx hb dX10_star_28 (by decide) ?_
      refine W.widen (k := 2) (n := 604) (Nat.le_of_ble_eq_true rfl) (Nat.le_of_ble_eq_true rfl) ?_
      have zim1 : ((-1) : Int32).toInt = -1 := by decide
      exact W.iret (v := (-1)) hx hb hr (fun t ht hW => ⟨⟨(((-1)), ws, T, g, q), rfl, ⟨TLe.rf, hT, KF.rf, KF.rf, QE.rf, (show ∀ s0, q p0 0 = some s0 → (((1 ≤ p1.toInt ∧ p1.toInt ≤ 999) ∧ (0 ≤ p2.toInt ∧ p2.toInt ≤ 7) ∧ (1 ≤ p3.toInt ∧ p3.toInt ≤ 1000)) ∧ ((((-1) : Int32).toInt = -1 ∧ 12 ≤ (g s0 0).toInt ∧ GE T g g) ∨ ((g s0 0).toInt < 12 ∧ ((-1) : Int32).toInt = (g s0 0).toInt ∧ GP T g g s0))) ∨ (¬ ((1 ≤ p1.toInt ∧ p1.toInt ≤ 999) ∧ (0 ≤ p2.toInt ∧ p2.toInt ≤ 7) ∧ (1 ≤ p3.toInt ∧ p3.toInt ≤ 1000)) ∧ ((-1) : Int32).toInt = -1 ∧ g = g) from (fun s0 hs => Or.inr ⟨by omega, by decide, rfl⟩))⟩, CB.mk ht hP hD⟩, hS.F ht⟩) hS.2.2 dX10_star_29
  · obtain rfl : u44 = 0 := i_is c49 (by decide)
    have zi0 : (0 : Int32).toInt = 0 := by decide
    refine W.eq (g2 := F0 m 4 ls [.int 0]) rfl ?_
    refine lv_if_eq (tgt := 28) hx hb dX10_star_4 (by decide) (fun c119 => ?_) (fun c119 => ?_)
    rotate_left
    · exact absurd c119 (by decide)
    refine lv_iconst (v := (-1)) hx hb dX10_star_28 (by decide) ?_
    refine W.widen (k := 2) (n := 604) (Nat.le_of_ble_eq_true rfl) (Nat.le_of_ble_eq_true rfl) ?_
    have zim1 : ((-1) : Int32).toInt = -1 := by decide
    exact W.iret (v := (-1)) hx hb hr (fun t ht hW => ⟨⟨(((-1)), ws, T, g, q), rfl, ⟨TLe.rf, hT, KF.rf, KF.rf, QE.rf, (show ∀ s0, q p0 0 = some s0 → (((1 ≤ p1.toInt ∧ p1.toInt ≤ 999) ∧ (0 ≤ p2.toInt ∧ p2.toInt ≤ 7) ∧ (1 ≤ p3.toInt ∧ p3.toInt ≤ 1000)) ∧ ((((-1) : Int32).toInt = -1 ∧ 12 ≤ (g s0 0).toInt ∧ GE T g g) ∨ ((g s0 0).toInt < 12 ∧ ((-1) : Int32).toInt = (g s0 0).toInt ∧ GP T g g s0))) ∨ (¬ ((1 ≤ p1.toInt ∧ p1.toInt ≤ 999) ∧ (0 ≤ p2.toInt ∧ p2.toInt ≤ 7) ∧ (1 ≤ p3.toInt ∧ p3.toInt ≤ 1000)) ∧ ((-1) : Int32).toInt = -1 ∧ g = g) from (fun s0 hs => Or.inr ⟨by omega, by decide, rfl⟩))⟩, CB.mk ht hP hD⟩, hS.F ht⟩) hS.2.2 dX10_star_29
set_option maxHeartbeats 4000000 in
set_option maxRecDepth 100000 in
theorem x_becomeE (l : Launch) (D : va_G) (Y : Nat → ClassId) (Z : Nat → Nat) (sz : Nat) (ws : va_W) (T : RT) (g : GN) (q : GQ) (j : Nat) (j2 : Nat) (p0 : Nat) (p1 : Nat) (hT : TW Y Z T g q ws) (ht0 : T p0 = (2, j, 0)) (ht1 : T p1 = (2, j2, 0)) (hne : p1 ≠ p0) : Met l yX6_become (.code yX6_become cX6_become 4 none :: GW) ({ frames := 3, cells := 24, slots := 7248, locals := 62 }) (va_Pc [.ref p0, .ref p1] (CPC D Y Z ws sz)) (QG (S := va_W × RT × GN × GQ) (fun _ => none) (fun u => TLe T u.2.1 ∧ TW Y Z u.2.1 u.2.2.1 u.2.2.2 u.1 ∧ KF 1 T ws u.1 ∧ KF 6 T ws u.1 ∧ QE T q u.2.2.2 ∧ (BE5 g u.2.2.1 p0 p1 ∧ G2 T p0 g u.2.2.1)) (fun u => CB D u.1 (va_A ws sz)) (va_A ws sz)) 24 7248 (va_A ws sz) := by
  refine Met.ofW (cc := cX6_become) (maxL := 4) (ret := none) (by decide) rfl ?_
  intro p e s m args below meth c s₁ B hml hv
  obtain ⟨rfl, ⟨hsz, hP, hKN, hD0⟩, hSZ⟩ := hv
  have hx := B.exec
  have hb := B.bytes
  have hr := B.returns
  have hts := atoms_spec (ws := .code yX6_become cX6_become 4 none :: GW) B.pre
  have hg : ∀ w ∈ GW, w.before _ s = true := fun w h => hts w (List.mem_cons_of_mem _ h)
  have hown : s.vm.findClass RX6 = some m.cls := findClass_of_methodNamed B.named
  have hlocks := B.notSynchronized
  subst hsz
  have hD := hD0.self (sz := s.heap.size)
  generalize hAe : va_A ws s.heap.size = A at hD hSZ ⊢
  have hA : ∀ q : Nat, s.heap.size ≤ q → A q := fun q h => by rw [← hAe]; exact Or.inr h
  clear hAe hD0 hts B
  have hl := lv_entry ([.ref p0, .ref p1]) (n := 4) (Nat.le_of_ble_eq_true rfl)
  rw [lg_entry_eq]
  generalize (lg_sl ([.ref p0, .ref p1]) ++ List.replicate (4 - (lg_sl ([.ref p0, .ref p1])).length) Slot.unset).toArray = ls at hl ⊢
  have hl : lv_has ls 4 [(0, .ref p0), (1, .ref p1)] := hl
  refine w_start (A0 := A) hP (fun H locs hP hS => ?_)
  refine lv_iconst (v := 0) hx hb dX6_become_0 (by decide) ?_
  refine lv_istore_n (lv' := [(2, .int 0), (0, .ref p0), (1, .ref p1)]) hx hb dX6_become_1 rfl hl (by decide) rfl (fun ls hl => ?_)
  have zi0 : (0 : Int32).toInt = 0 := by decide
  refine w_loopC (σ := Int32 × va_W × RT × GN × GQ) (al := 2) (sl := 604) (M := 12) (fun xx H locs ls => match xx with | (v122, w123, T124, g125, q126) => va_P D vwCl w123 H ∧ va_D A w123 ∧ va_S A s.heap H locs ∧ lv_has ls 4 [(2, .int v122), (0, .ref p0), (1, .ref p1)] ∧ TW Y Z T124 g125 q126 w123 ∧ TLe T T124 ∧ KF 1 T ws w123 ∧ KF 6 T ws w123 ∧ GE T g g125 ∧ QE T q q126 ∧ G2 T p0 g g125 ∧ g125 p1 = g p1 ∧ (0 ≤ v122.toInt ∧ v122.toInt ≤ 12)) (fun xx => match xx with | (v122, w123, T124, g125, q126) => (12 - v122.toInt).toNat) (0, ws, T, g, q) ⟨hP, hD, hS, lv_sub hl [0, 1, 2] rfl, hT, TLe.rf, KF.rf, KF.rf, GE.rf, QE.rf, G2.rf, rfl, by omega⟩ (by show (12 - (0 : Int32).toInt).toNat ≤ 12; omega) (fun xx bd250 sd251 H locs ls hI hbbd250 ih => ?_)
  obtain ⟨v122, w123, T124, g125, q126⟩ := xx
  obtain ⟨hP, hD, hS, hl, hT, le253, ke254, ke255, ge256, qe257, go258, ho259, hq252⟩ := hI
  have hbbd250 : bd250 + 2 * ((12 - v122.toInt).toNat) ≤ 0 + 2 * 12 ∧ sd251 + 604 * ((12 - v122.toInt).toNat) ≤ 0 + 604 * 12 := hbbd250
  have ih260 := ih
  refine lv_iload_n hx hb dX6_become_2 rfl (lv_at hl 0 rfl) ?_
  refine lv_aload_n hx hb dX6_become_3 rfl (lv_at hl 2 rfl) ?_
  refine ok2 hT (le253.up ht1) (fun p295 x261 a262 x263 a264 x265 a266 a267 x268 a269 a270 x271 a272 x273 hk296 h274 h275 h276 h277 h278 h279 h280 h281 h282 h283 h284 h285 h286 h287 h288 h289 h290 h291 h292 h293 h294 => ?_)
  refine va_get (D := D) (ci := 6) (v := .int x261) (C := RX6) (T := TX6) (N := 13) hx hb hg inGX6 hown hKN.1 hP p295 hk296 rfl 0 (by decide) (hg _ kw_39) (fun _ h9 => h9) rfl dX6_become_4 ?_
  refine lv_icmp_ge (tgt := 41) hx hb dX6_become_7 (by decide) (fun c297 => ?_) (fun c297 => ?_)
  · skip
    have c297 := i_le (Eq.refl x261.toInt) (Eq.refl v122.toInt) c297
    refine lv_iconst (v := 0) hx hb dX6_become_41 (by decide) ?_
    refine lv_istore_n (lv' := [(2, .int 0), (0, .ref p0), (1, .ref p1)]) hx hb dX6_become_42 rfl hl (by decide) rfl (fun ls hl => ?_)
    have zi0 : (0 : Int32).toInt = 0 := by decide
    refine w_loop (σ := Int32 × va_W) (fun xx H locs ls => match xx with | (v351, w352) => va_P D vwCl w352 H ∧ va_D A w352 ∧ va_S A s.heap H locs ∧ lv_has ls 4 [(2, .int v351), (0, .ref p0), (1, .ref p1)] ∧ TW Y Z T124 g125 q126 w352 ∧ KF 1 T ws w352 ∧ KF 6 T ws w352 ∧ (0 ≤ v351.toInt ∧ v351.toInt ≤ 40)) (fun xx => match xx with | (v351, w352) => (40 - v351.toInt).toNat) (0, w123) ⟨hP, hD, hS, lv_sub hl [0, 1, 2] rfl, hT, ke254, ke255, by omega⟩ (fun xx H locs ls hI ih => ?_)
    obtain ⟨v351, w352⟩ := xx
    obtain ⟨hP, hD, hS, hl, hT, ke445, ke446, hq444⟩ := hI
    have ih447 := ih
    refine lv_iload_n hx hb dX6_become_43 rfl (lv_at hl 0 rfl) ?_
    refine lv_aload_n hx hb dX6_become_44 rfl (lv_at hl 2 rfl) ?_
    refine ok2 hT (le253.up ht1) (fun p482 x448 a449 x450 a451 x452 a453 a454 x455 a456 a457 x458 a459 x460 hk483 h461 h462 h463 h464 h465 h466 h467 h468 h469 h470 h471 h472 h473 h474 h475 h476 h477 h478 h479 h480 h481 => ?_)
    refine va_get (D := D) (ci := 6) (v := .int x450) (C := RX6) (T := TX6) (N := 13) hx hb hg inGX6 hown hKN.1 hP p482 hk483 rfl 2 (by decide) (hg _ kw_43) (fun _ h9 => h9) rfl dX6_become_45 ?_
    refine lv_icmp_ge (tgt := 75) hx hb dX6_become_48 (by decide) (fun c484 => ?_) (fun c484 => ?_)
    · skip
      have c484 := i_le (Eq.refl x450.toInt) (Eq.refl v351.toInt) c484
      refine lv_aload_n hx hb dX6_become_75 rfl (lv_at hl 1 rfl) ?_
      refine lv_aload_n hx hb dX6_become_76 rfl (lv_at hl 2 rfl) ?_
      refine va_get (D := D) (ci := 6) (v := .int x448) (C := RX6) (T := TX6) (N := 13) hx hb hg inGX6 hown hKN.1 hP p482 hk483 rfl 0 (by decide) (hg _ kw_39) (fun _ h9 => h9) rfl dX6_become_77 ?_
      have hb485 : g p1 0 = x448 := (congrFun ho259 0).symm.trans h462
      refine ok2 hT (le253.up ht0) (fun p520 x486 a487 x488 a489 x490 a491 a492 x493 a494 a495 x496 a497 x498 hk521 h499 h500 h501 h502 h503 h504 h505 h506 h507 h508 h509 h510 h511 h512 h513 h514 h515 h516 h517 h518 h519 => ?_)
      refine va_put (D := D) (ci := 6) (v := .int x448) (ty := .int) (C := RX6) (T := TX6) (N := 13) hx hb hg inGX6 tyX6 tyX6_ok nmX6 hown hKN.1 hP hD hS p520 hk521 rfl 0 (by decide) (hg _ kw_39) (fun _ h9 => h9) rfl (by decide +kernel) rfl rfl (Nat.le_of_ble_eq_true rfl) dX6_become_80 (fun H locs hP hD2 hS => ?_)
      obtain ⟨w522, g525, eg525, hP, hD, hT, hk524, kp523⟩ : ∃ wz gz, gz = gset g125 p0 0 x448 ∧ va_P D vwCl wz H ∧ va_D A wz ∧ TW Y Z T124 gz q126 wz ∧ wz[p520]? = some (p0, .inr (6, (.int x448 :: .ref a487 :: .int x488 :: .ref a489 :: .int x490 :: .ref a491 :: .ref a492 :: .int x493 :: .ref a494 :: .ref a495 :: .int x496 :: .ref a497 :: .int x498 :: []))) ∧ Kp p0 w352 wz := ⟨_, _, rfl, hP, hD2, tw_sg (k := 2) (g2 := gset g125 p0 0 x448) (q2 := q126) hT hD hk521 (le253.up ht0) (fun _ hc => gset_ne hc) (fun _ _ => rfl) (show Sh2 Y Z T124 ((gset g125 p0 0 x448) p0) (q126 p0) j 0 _ from ⟨x448, a487, x488, a489, x490, a491, a492, x493, a494, a495, x496, a497, x498, rfl, by omega, gs_eq, h501, h502, by omega, ((gs_ne (by decide)).trans h504), h505, by omega, ((gs_ne (by decide)).trans h507), h508, h509, h510, h511, by omega, ((gs_ne (by decide)).trans h513), h514, h515, by omega, ((gs_ne (by decide)).trans h517), h518, by omega⟩), sw_eq hk521, sw_kp hk521⟩
      have hg526 : g525 p0 0 = x448 := by rw [eg525]; exact gs_eq
      have hg527 : g525 p0 2 = x488 := by rw [eg525]; exact ((gs_ne (by decide)).trans h504)
      have hg528 : g525 p0 4 = x490 := by rw [eg525]; exact ((gs_ne (by decide)).trans h507)
      have hg529 : g525 p0 7 = x493 := by rw [eg525]; exact ((gs_ne (by decide)).trans h513)
      have hg530 : g525 p0 10 = x496 := by rw [eg525]; exact ((gs_ne (by decide)).trans h517)
      have ho531 : g525 p1 = g p1 := Eq.trans (b := g125 p1) (by rw [eg525, gset_ne hne]) ho259
      have go532 : G2 T p0 g g525 := G2.tr go258 (G2.le le253 (G2.st eg525))
      have ke533 : KF 1 T ws w522 := KF.tr ke445 (KF.le (by decide) le253 (KF.kp kp523 (le253.up ht0) (by decide)))
      have ke534 : KF 6 T ws w522 := KF.tr ke446 (KF.le (by decide) le253 (KF.kp kp523 (le253.up ht0) (by decide)))
      refine lv_aload_n hx hb dX6_become_83 rfl (lv_at hl 1 rfl) ?_
      refine lv_aload_n hx hb dX6_become_84 rfl (lv_at hl 2 rfl) ?_
      refine ok2 hT (le253.up ht1) (fun p569 x535 a536 x537 a538 x539 a540 a541 x542 a543 a544 x545 a546 x547 hk570 h548 h549 h550 h551 h552 h553 h554 h555 h556 h557 h558 h559 h560 h561 h562 h563 h564 h565 h566 h567 h568 => ?_)
      refine va_get (D := D) (ci := 6) (v := .int x537) (C := RX6) (T := TX6) (N := 13) hx hb hg inGX6 hown hKN.1 hP p569 hk570 rfl 2 (by decide) (hg _ kw_43) (fun _ h9 => h9) rfl dX6_become_85 ?_
      have hb571 : g p1 2 = x537 := (congrFun ho531 2).symm.trans h553
      refine va_put (D := D) (ci := 6) (v := .int x537) (ty := .int) (C := RX6) (T := TX6) (N := 13) hx hb hg inGX6 tyX6 tyX6_ok nmX6 hown hKN.1 hP hD hS p520 hk524 rfl 2 (by decide) (hg _ kw_43) (fun _ h9 => h9) rfl (by decide +kernel) rfl rfl (Nat.le_of_ble_eq_true rfl) dX6_become_88 (fun H locs hP hD2 hS => ?_)
      obtain ⟨w572, g575, eg575, hP, hD, hT, hk574, kp573⟩ : ∃ wz gz, gz = gset g525 p0 2 x537 ∧ va_P D vwCl wz H ∧ va_D A wz ∧ TW Y Z T124 gz q126 wz ∧ wz[p520]? = some (p0, .inr (6, (.int x448 :: .ref a487 :: .int x537 :: .ref a489 :: .int x490 :: .ref a491 :: .ref a492 :: .int x493 :: .ref a494 :: .ref a495 :: .int x496 :: .ref a497 :: .int x498 :: []))) ∧ Kp p0 w522 wz := ⟨_, _, rfl, hP, hD2, tw_sg (k := 2) (g2 := gset g525 p0 2 x537) (q2 := q126) hT hD hk524 (le253.up ht0) (fun _ hc => gset_ne hc) (fun _ _ => rfl) (show Sh2 Y Z T124 ((gset g525 p0 2 x537) p0) (q126 p0) j 0 _ from ⟨x448, a487, x537, a489, x490, a491, a492, x493, a494, a495, x496, a497, x498, rfl, by omega, ((gs_ne (by decide)).trans hg526), h501, h502, by omega, gs_eq, h505, by omega, ((gs_ne (by decide)).trans hg528), h508, h509, h510, h511, by omega, ((gs_ne (by decide)).trans hg529), h514, h515, by omega, ((gs_ne (by decide)).trans hg530), h518, by omega⟩), sw_eq hk524, sw_kp hk524⟩
      have hg576 : g575 p0 0 = x448 := by rw [eg575]; exact ((gs_ne (by decide)).trans hg526)
      have hg577 : g575 p0 2 = x537 := by rw [eg575]; exact gs_eq
      have hg578 : g575 p0 4 = x490 := by rw [eg575]; exact ((gs_ne (by decide)).trans hg528)
      have hg579 : g575 p0 7 = x493 := by rw [eg575]; exact ((gs_ne (by decide)).trans hg529)
      have hg580 : g575 p0 10 = x496 := by rw [eg575]; exact ((gs_ne (by decide)).trans hg530)
      have ho581 : g575 p1 = g p1 := Eq.trans (b := g525 p1) (by rw [eg575, gset_ne hne]) ho531
      have go582 : G2 T p0 g g575 := G2.tr go532 (G2.le le253 (G2.st eg575))
      have ke583 : KF 1 T ws w572 := KF.tr ke533 (KF.le (by decide) le253 (KF.kp kp573 (le253.up ht0) (by decide)))
      have ke584 : KF 6 T ws w572 := KF.tr ke534 (KF.le (by decide) le253 (KF.kp kp573 (le253.up ht0) (by decide)))
      refine lv_aload_n hx hb dX6_become_91 rfl (lv_at hl 1 rfl) ?_
      refine lv_aload_n hx hb dX6_become_92 rfl (lv_at hl 2 rfl) ?_
      refine ok2 hT (le253.up ht1) (fun p619 x585 a586 x587 a588 x589 a590 a591 x592 a593 a594 x595 a596 x597 hk620 h598 h599 h600 h601 h602 h603 h604 h605 h606 h607 h608 h609 h610 h611 h612 h613 h614 h615 h616 h617 h618 => ?_)
      refine va_get (D := D) (ci := 6) (v := .int x589) (C := RX6) (T := TX6) (N := 13) hx hb hg inGX6 hown hKN.1 hP p619 hk620 rfl 4 (by decide) (hg _ kw_47) (fun _ h9 => h9) rfl dX6_become_93 ?_
      have hb621 : g p1 4 = x589 := (congrFun ho581 4).symm.trans h606
      refine va_put (D := D) (ci := 6) (v := .int x589) (ty := .int) (C := RX6) (T := TX6) (N := 13) hx hb hg inGX6 tyX6 tyX6_ok nmX6 hown hKN.1 hP hD hS p520 hk574 rfl 4 (by decide) (hg _ kw_47) (fun _ h9 => h9) rfl (by decide +kernel) rfl rfl (Nat.le_of_ble_eq_true rfl) dX6_become_96 (fun H locs hP hD2 hS => ?_)
      obtain ⟨w622, g625, eg625, hP, hD, hT, hk624, kp623⟩ : ∃ wz gz, gz = gset g575 p0 4 x589 ∧ va_P D vwCl wz H ∧ va_D A wz ∧ TW Y Z T124 gz q126 wz ∧ wz[p520]? = some (p0, .inr (6, (.int x448 :: .ref a487 :: .int x537 :: .ref a489 :: .int x589 :: .ref a491 :: .ref a492 :: .int x493 :: .ref a494 :: .ref a495 :: .int x496 :: .ref a497 :: .int x498 :: []))) ∧ Kp p0 w572 wz := ⟨_, _, rfl, hP, hD2, tw_sg (k := 2) (g2 := gset g575 p0 4 x589) (q2 := q126) hT hD hk574 (le253.up ht0) (fun _ hc => gset_ne hc) (fun _ _ => rfl) (show Sh2 Y Z T124 ((gset g575 p0 4 x589) p0) (q126 p0) j 0 _ from ⟨x448, a487, x537, a489, x589, a491, a492, x493, a494, a495, x496, a497, x498, rfl, by omega, ((gs_ne (by decide)).trans hg576), h501, h502, by omega, ((gs_ne (by decide)).trans hg577), h505, by omega, gs_eq, h508, h509, h510, h511, by omega, ((gs_ne (by decide)).trans hg579), h514, h515, by omega, ((gs_ne (by decide)).trans hg580), h518, by omega⟩), sw_eq hk574, sw_kp hk574⟩
      have hg626 : g625 p0 0 = x448 := by rw [eg625]; exact ((gs_ne (by decide)).trans hg576)
      have hg627 : g625 p0 2 = x537 := by rw [eg625]; exact ((gs_ne (by decide)).trans hg577)
      have hg628 : g625 p0 4 = x589 := by rw [eg625]; exact gs_eq
      have hg629 : g625 p0 7 = x493 := by rw [eg625]; exact ((gs_ne (by decide)).trans hg579)
      have hg630 : g625 p0 10 = x496 := by rw [eg625]; exact ((gs_ne (by decide)).trans hg580)
      have ho631 : g625 p1 = g p1 := Eq.trans (b := g575 p1) (by rw [eg625, gset_ne hne]) ho581
      have go632 : G2 T p0 g g625 := G2.tr go582 (G2.le le253 (G2.st eg625))
      have ke633 : KF 1 T ws w622 := KF.tr ke583 (KF.le (by decide) le253 (KF.kp kp623 (le253.up ht0) (by decide)))
      have ke634 : KF 6 T ws w622 := KF.tr ke584 (KF.le (by decide) le253 (KF.kp kp623 (le253.up ht0) (by decide)))
      refine lv_aload_n hx hb dX6_become_99 rfl (lv_at hl 1 rfl) ?_
      refine lv_aload_n hx hb dX6_become_100 rfl (lv_at hl 2 rfl) ?_
      refine ok2 hT (le253.up ht1) (fun p669 x635 a636 x637 a638 x639 a640 a641 x642 a643 a644 x645 a646 x647 hk670 h648 h649 h650 h651 h652 h653 h654 h655 h656 h657 h658 h659 h660 h661 h662 h663 h664 h665 h666 h667 h668 => ?_)
      refine va_get (D := D) (ci := 6) (v := .int x642) (C := RX6) (T := TX6) (N := 13) hx hb hg inGX6 hown hKN.1 hP p669 hk670 rfl 7 (by decide) (hg _ kw_53) (fun _ h9 => h9) rfl dX6_become_101 ?_
      have hb671 : g p1 7 = x642 := (congrFun ho631 7).symm.trans h662
      refine va_put (D := D) (ci := 6) (v := .int x642) (ty := .int) (C := RX6) (T := TX6) (N := 13) hx hb hg inGX6 tyX6 tyX6_ok nmX6 hown hKN.1 hP hD hS p520 hk624 rfl 7 (by decide) (hg _ kw_53) (fun _ h9 => h9) rfl (by decide +kernel) rfl rfl (Nat.le_of_ble_eq_true rfl) dX6_become_104 (fun H locs hP hD2 hS => ?_)
      obtain ⟨w672, g675, eg675, hP, hD, hT, hk674, kp673⟩ : ∃ wz gz, gz = gset g625 p0 7 x642 ∧ va_P D vwCl wz H ∧ va_D A wz ∧ TW Y Z T124 gz q126 wz ∧ wz[p520]? = some (p0, .inr (6, (.int x448 :: .ref a487 :: .int x537 :: .ref a489 :: .int x589 :: .ref a491 :: .ref a492 :: .int x642 :: .ref a494 :: .ref a495 :: .int x496 :: .ref a497 :: .int x498 :: []))) ∧ Kp p0 w622 wz := ⟨_, _, rfl, hP, hD2, tw_sg (k := 2) (g2 := gset g625 p0 7 x642) (q2 := q126) hT hD hk624 (le253.up ht0) (fun _ hc => gset_ne hc) (fun _ _ => rfl) (show Sh2 Y Z T124 ((gset g625 p0 7 x642) p0) (q126 p0) j 0 _ from ⟨x448, a487, x537, a489, x589, a491, a492, x642, a494, a495, x496, a497, x498, rfl, by omega, ((gs_ne (by decide)).trans hg626), h501, h502, by omega, ((gs_ne (by decide)).trans hg627), h505, by omega, ((gs_ne (by decide)).trans hg628), h508, h509, h510, h511, by omega, gs_eq, h514, h515, by omega, ((gs_ne (by decide)).trans hg630), h518, by omega⟩), sw_eq hk624, sw_kp hk624⟩
      have hg676 : g675 p0 0 = x448 := by rw [eg675]; exact ((gs_ne (by decide)).trans hg626)
      have hg677 : g675 p0 2 = x537 := by rw [eg675]; exact ((gs_ne (by decide)).trans hg627)
      have hg678 : g675 p0 4 = x589 := by rw [eg675]; exact ((gs_ne (by decide)).trans hg628)
      have hg679 : g675 p0 7 = x642 := by rw [eg675]; exact gs_eq
      have hg680 : g675 p0 10 = x496 := by rw [eg675]; exact ((gs_ne (by decide)).trans hg630)
      have ho681 : g675 p1 = g p1 := Eq.trans (b := g625 p1) (by rw [eg675, gset_ne hne]) ho631
      have go682 : G2 T p0 g g675 := G2.tr go632 (G2.le le253 (G2.st eg675))
      have ke683 : KF 1 T ws w672 := KF.tr ke633 (KF.le (by decide) le253 (KF.kp kp673 (le253.up ht0) (by decide)))
      have ke684 : KF 6 T ws w672 := KF.tr ke634 (KF.le (by decide) le253 (KF.kp kp673 (le253.up ht0) (by decide)))
      refine lv_aload_n hx hb dX6_become_107 rfl (lv_at hl 1 rfl) ?_
      refine lv_aload_n hx hb dX6_become_108 rfl (lv_at hl 2 rfl) ?_
      refine ok2 hT (le253.up ht1) (fun p719 x685 a686 x687 a688 x689 a690 a691 x692 a693 a694 x695 a696 x697 hk720 h698 h699 h700 h701 h702 h703 h704 h705 h706 h707 h708 h709 h710 h711 h712 h713 h714 h715 h716 h717 h718 => ?_)
      refine va_get (D := D) (ci := 6) (v := .int x695) (C := RX6) (T := TX6) (N := 13) hx hb hg inGX6 hown hKN.1 hP p719 hk720 rfl 10 (by decide) (hg _ kw_64) (fun _ h9 => h9) rfl dX6_become_109 ?_
      have hb721 : g p1 10 = x695 := (congrFun ho681 10).symm.trans h716
      refine va_put (D := D) (ci := 6) (v := .int x695) (ty := .int) (C := RX6) (T := TX6) (N := 13) hx hb hg inGX6 tyX6 tyX6_ok nmX6 hown hKN.1 hP hD hS p520 hk674 rfl 10 (by decide) (hg _ kw_64) (fun _ h9 => h9) rfl (by decide +kernel) rfl rfl (Nat.le_of_ble_eq_true rfl) dX6_become_112 (fun H locs hP hD2 hS => ?_)
      obtain ⟨w722, g725, eg725, hP, hD, hT, hk724, kp723⟩ : ∃ wz gz, gz = gset g675 p0 10 x695 ∧ va_P D vwCl wz H ∧ va_D A wz ∧ TW Y Z T124 gz q126 wz ∧ wz[p520]? = some (p0, .inr (6, (.int x448 :: .ref a487 :: .int x537 :: .ref a489 :: .int x589 :: .ref a491 :: .ref a492 :: .int x642 :: .ref a494 :: .ref a495 :: .int x695 :: .ref a497 :: .int x498 :: []))) ∧ Kp p0 w672 wz := ⟨_, _, rfl, hP, hD2, tw_sg (k := 2) (g2 := gset g675 p0 10 x695) (q2 := q126) hT hD hk674 (le253.up ht0) (fun _ hc => gset_ne hc) (fun _ _ => rfl) (show Sh2 Y Z T124 ((gset g675 p0 10 x695) p0) (q126 p0) j 0 _ from ⟨x448, a487, x537, a489, x589, a491, a492, x642, a494, a495, x695, a497, x498, rfl, by omega, ((gs_ne (by decide)).trans hg676), h501, h502, by omega, ((gs_ne (by decide)).trans hg677), h505, by omega, ((gs_ne (by decide)).trans hg678), h508, h509, h510, h511, by omega, ((gs_ne (by decide)).trans hg679), h514, h515, by omega, gs_eq, h518, by omega⟩), sw_eq hk674, sw_kp hk674⟩
      have hg726 : g725 p0 0 = x448 := by rw [eg725]; exact ((gs_ne (by decide)).trans hg676)
      have hg727 : g725 p0 2 = x537 := by rw [eg725]; exact ((gs_ne (by decide)).trans hg677)
      have hg728 : g725 p0 4 = x589 := by rw [eg725]; exact ((gs_ne (by decide)).trans hg678)
      have hg729 : g725 p0 7 = x642 := by rw [eg725]; exact ((gs_ne (by decide)).trans hg679)
      have hg730 : g725 p0 10 = x695 := by rw [eg725]; exact gs_eq
      have ho731 : g725 p1 = g p1 := Eq.trans (b := g675 p1) (by rw [eg725, gset_ne hne]) ho681
      have go732 : G2 T p0 g g725 := G2.tr go682 (G2.le le253 (G2.st eg725))
      have ke733 : KF 1 T ws w722 := KF.tr ke683 (KF.le (by decide) le253 (KF.kp kp723 (le253.up ht0) (by decide)))
      have ke734 : KF 6 T ws w722 := KF.tr ke684 (KF.le (by decide) le253 (KF.kp kp723 (le253.up ht0) (by decide)))
      refine lv_aload_n hx hb dX6_become_115 rfl (lv_at hl 1 rfl) ?_
      refine lv_aload_n hx hb dX6_become_116 rfl (lv_at hl 2 rfl) ?_
      refine ok2 hT (le253.up ht1) (fun p769 x735 a736 x737 a738 x739 a740 a741 x742 a743 a744 x745 a746 x747 hk770 h748 h749 h750 h751 h752 h753 h754 h755 h756 h757 h758 h759 h760 h761 h762 h763 h764 h765 h766 h767 h768 => ?_)
      refine va_get (D := D) (ci := 6) (v := .int x747) (C := RX6) (T := TX6) (N := 13) hx hb hg inGX6 hown hKN.1 hP p769 hk770 rfl 12 (by decide) (hg _ kw_67) (fun _ h9 => h9) rfl dX6_become_117 ?_
      refine va_put (D := D) (ci := 6) (v := .int x747) (ty := .int) (C := RX6) (T := TX6) (N := 13) hx hb hg inGX6 tyX6 tyX6_ok nmX6 hown hKN.1 hP hD hS p520 hk724 rfl 12 (by decide) (hg _ kw_67) (fun _ h9 => h9) rfl (by decide +kernel) rfl rfl (Nat.le_of_ble_eq_true rfl) dX6_become_120 (fun H locs hP hD2 hS => ?_)
      obtain ⟨w771, hP, hD, hT, hk773, kp772⟩ : ∃ wz, va_P D vwCl wz H ∧ va_D A wz ∧ TW Y Z T124 g725 q126 wz ∧ wz[p520]? = some (p0, .inr (6, (.int x448 :: .ref a487 :: .int x537 :: .ref a489 :: .int x589 :: .ref a491 :: .ref a492 :: .int x642 :: .ref a494 :: .ref a495 :: .int x695 :: .ref a497 :: .int x747 :: []))) ∧ Kp p0 w722 wz := ⟨_, hP, hD2, st2 hT hD hk724 (le253.up ht0) ⟨x448, a487, x537, a489, x589, a491, a492, x642, a494, a495, x695, a497, x747, rfl, by omega, hg726, h501, h502, by omega, hg727, h505, by omega, hg728, h508, h509, h510, h511, by omega, hg729, h514, h515, by omega, hg730, h518, by omega⟩, sw_eq hk724, sw_kp hk724⟩
      have ke774 : KF 1 T ws w771 := KF.tr ke733 (KF.le (by decide) le253 (KF.kp kp772 (le253.up ht0) (by decide)))
      have ke775 : KF 6 T ws w771 := KF.tr ke734 (KF.le (by decide) le253 (KF.kp kp772 (le253.up ht0) (by decide)))
      refine lv_aload_n hx hb dX6_become_123 rfl (lv_at hl 2 rfl) ?_
      refine ok2 hT (le253.up ht1) (fun p810 x776 a777 x778 a779 x780 a781 a782 x783 a784 a785 x786 a787 x788 hk811 h789 h790 h791 h792 h793 h794 h795 h796 h797 h798 h799 h800 h801 h802 h803 h804 h805 h806 h807 h808 h809 => ?_)
      refine va_get (D := D) (ci := 6) (v := .ref a781) (C := RX6) (T := TX6) (N := 13) hx hb hg inGX6 hown hKN.1 hP p810 hk811 rfl 5 (by decide) (hg _ kw_49) (fun _ h9 => h9) rfl dX6_become_124 ?_
      refine lv_iconst (v := 0) hx hb dX6_become_127 (by decide) ?_
      refine lv_aload_n hx hb dX6_become_128 rfl (lv_at hl 1 rfl) ?_
      refine va_get (D := D) (ci := 6) (v := .ref a491) (C := RX6) (T := TX6) (N := 13) hx hb hg inGX6 hown hKN.1 hP p520 hk773 rfl 5 (by decide) (hg _ kw_49) (fun _ h9 => h9) rfl dX6_become_129 ?_
      refine lv_iconst (v := 0) hx hb dX6_become_132 (by decide) ?_
      refine lv_bipush (v := 12) hx hb dX6_become_133 (by decide) ?_
      have zi12 : (12 : Int32).toInt = 12 := by decide
      have zi0 : (0 : Int32).toInt = 0 := by decide
      refine tr_cp14 hx hb (hml.trans hl.1.symm) hown (hg _ kw_1197) (hg _ kw_520) (hg _ kw_519) (hg _ kw_13) hKN hP hD hS hT h798 h508 (by decide) (by decide) (by decide) (by decide) (by decide) (Nat.le_of_ble_eq_true rfl) (Nat.le_of_ble_eq_true rfl) dX6_become_135 (fun w812 H locs hP hD hS hT kp813 => ?_)
      have ke814 : KF 1 T ws w812 := KF.tr ke774 (KF.le (by decide) le253 (KF.kp kp813 h508 (by decide)))
      have ke815 : KF 6 T ws w812 := KF.tr ke775 (KF.le (by decide) le253 (KF.kp kp813 h508 (by decide)))
      have hk816 := kp813 _ _ hk773 (rne (le253.up ht0) h508 (by decide))
      have hk817 := kp813 _ _ hk811 (rne (le253.up ht1) h508 (by decide))
      obtain ⟨g818, eg818, hT⟩ : ∃ gz, gz = gcpy g725 a781 a491 0 0 12 ∧ TW Y Z T124 gz q126 w812 := ⟨_, rfl, hT⟩
      have ho819 : g818 p1 = g p1 := Eq.trans (b := g725 p1) (by rw [eg818, gcpy_ne (rne (le253.up ht1) h508 (by decide))]) ho731
      have go820 : G2 T p0 g g818 := G2.tr go732 (G2.le le253 (G2.cp eg818 h508))
      have hg821 : g818 p0 0 = x448 := by rw [eg818, gcpy_ne (rne (le253.up ht0) h508 (by decide))]; exact hg726
      have hg822 : g818 p0 2 = x537 := by rw [eg818, gcpy_ne (rne (le253.up ht0) h508 (by decide))]; exact hg727
      have hg823 : g818 p0 4 = x589 := by rw [eg818, gcpy_ne (rne (le253.up ht0) h508 (by decide))]; exact hg728
      have hg824 : g818 p0 7 = x642 := by rw [eg818, gcpy_ne (rne (le253.up ht0) h508 (by decide))]; exact hg729
      have hg825 : g818 p0 10 = x695 := by rw [eg818, gcpy_ne (rne (le253.up ht0) h508 (by decide))]; exact hg730
      have hg826 : g818 p1 0 = x776 := by rw [eg818, gcpy_ne (rne (le253.up ht1) h508 (by decide))]; exact h790
      have hg827 : g818 p1 2 = x778 := by rw [eg818, gcpy_ne (rne (le253.up ht1) h508 (by decide))]; exact h794
      have hg828 : g818 p1 4 = x780 := by rw [eg818, gcpy_ne (rne (le253.up ht1) h508 (by decide))]; exact h797
      have hg829 : g818 p1 7 = x783 := by rw [eg818, gcpy_ne (rne (le253.up ht1) h508 (by decide))]; exact h803
      have hg830 : g818 p1 10 = x786 := by rw [eg818, gcpy_ne (rne (le253.up ht1) h508 (by decide))]; exact h807
      refine lv_aload_n hx hb dX6_become_138 rfl (lv_at hl 2 rfl) ?_
      refine va_get (D := D) (ci := 6) (v := .ref a782) (C := RX6) (T := TX6) (N := 13) hx hb hg inGX6 hown hKN.1 hP p810 hk817 rfl 6 (by decide) (hg _ kw_51) (fun _ h9 => h9) rfl dX6_become_139 ?_
      refine lv_iconst (v := 0) hx hb dX6_become_142 (by decide) ?_
      refine lv_aload_n hx hb dX6_become_143 rfl (lv_at hl 1 rfl) ?_
      refine va_get (D := D) (ci := 6) (v := .ref a492) (C := RX6) (T := TX6) (N := 13) hx hb hg inGX6 hown hKN.1 hP p520 hk816 rfl 6 (by decide) (hg _ kw_51) (fun _ h9 => h9) rfl dX6_become_144 ?_
      refine lv_iconst (v := 0) hx hb dX6_become_147 (by decide) ?_
      refine lv_bipush (v := 12) hx hb dX6_become_148 (by decide) ?_
      refine tr_cp14 hx hb (hml.trans hl.1.symm) hown (hg _ kw_1197) (hg _ kw_520) (hg _ kw_519) (hg _ kw_13) hKN hP hD hS hT h800 h510 (by decide) (by decide) (by decide) (by decide) (by decide) (Nat.le_of_ble_eq_true rfl) (Nat.le_of_ble_eq_true rfl) dX6_become_150 (fun w831 H locs hP hD hS hT kp832 => ?_)
      have ke833 : KF 1 T ws w831 := KF.tr ke814 (KF.le (by decide) le253 (KF.kp kp832 h510 (by decide)))
      have ke834 : KF 6 T ws w831 := KF.tr ke815 (KF.le (by decide) le253 (KF.kp kp832 h510 (by decide)))
      have hk835 := kp832 _ _ hk816 (rne (le253.up ht0) h510 (by decide))
      have hk836 := kp832 _ _ hk817 (rne (le253.up ht1) h510 (by decide))
      obtain ⟨g837, eg837, hT⟩ : ∃ gz, gz = gcpy g818 a782 a492 0 0 12 ∧ TW Y Z T124 gz q126 w831 := ⟨_, rfl, hT⟩
      have ho838 : g837 p1 = g p1 := Eq.trans (b := g818 p1) (by rw [eg837, gcpy_ne (rne (le253.up ht1) h510 (by decide))]) ho819
      have go839 : G2 T p0 g g837 := G2.tr go820 (G2.le le253 (G2.cp eg837 h510))
      have hg840 : g837 p0 0 = x448 := by rw [eg837, gcpy_ne (rne (le253.up ht0) h510 (by decide))]; exact hg821
      have hg841 : g837 p0 2 = x537 := by rw [eg837, gcpy_ne (rne (le253.up ht0) h510 (by decide))]; exact hg822
      have hg842 : g837 p0 4 = x589 := by rw [eg837, gcpy_ne (rne (le253.up ht0) h510 (by decide))]; exact hg823
      have hg843 : g837 p0 7 = x642 := by rw [eg837, gcpy_ne (rne (le253.up ht0) h510 (by decide))]; exact hg824
      have hg844 : g837 p0 10 = x695 := by rw [eg837, gcpy_ne (rne (le253.up ht0) h510 (by decide))]; exact hg825
      have hg845 : g837 p1 0 = x776 := by rw [eg837, gcpy_ne (rne (le253.up ht1) h510 (by decide))]; exact hg826
      have hg846 : g837 p1 2 = x778 := by rw [eg837, gcpy_ne (rne (le253.up ht1) h510 (by decide))]; exact hg827
      have hg847 : g837 p1 4 = x780 := by rw [eg837, gcpy_ne (rne (le253.up ht1) h510 (by decide))]; exact hg828
      have hg848 : g837 p1 7 = x783 := by rw [eg837, gcpy_ne (rne (le253.up ht1) h510 (by decide))]; exact hg829
      have hg849 : g837 p1 10 = x786 := by rw [eg837, gcpy_ne (rne (le253.up ht1) h510 (by decide))]; exact hg830
      refine lv_aload_n hx hb dX6_become_153 rfl (lv_at hl 2 rfl) ?_
      refine va_get (D := D) (ci := 6) (v := .ref a784) (C := RX6) (T := TX6) (N := 13) hx hb hg inGX6 hown hKN.1 hP p810 hk836 rfl 8 (by decide) (hg _ kw_56) (fun _ h9 => h9) rfl dX6_become_154 ?_
      refine lv_iconst (v := 0) hx hb dX6_become_157 (by decide) ?_
      refine lv_aload_n hx hb dX6_become_158 rfl (lv_at hl 1 rfl) ?_
      refine va_get (D := D) (ci := 6) (v := .ref a494) (C := RX6) (T := TX6) (N := 13) hx hb hg inGX6 hown hKN.1 hP p520 hk835 rfl 8 (by decide) (hg _ kw_56) (fun _ h9 => h9) rfl dX6_become_159 ?_
      refine lv_iconst (v := 0) hx hb dX6_become_162 (by decide) ?_
      refine lv_bipush (v := 8) hx hb dX6_become_163 (by decide) ?_
      have zi8 : (8 : Int32).toInt = 8 := by decide
      refine tr_cp12 hx hb (hml.trans hl.1.symm) hown (hg _ kw_1197) (hg _ kw_520) (hg _ kw_519) (hg _ kw_13) hKN hP hD hS hT h804 h514 (by decide) (by decide) (by decide) (by decide) (by decide) (Nat.le_of_ble_eq_true rfl) (Nat.le_of_ble_eq_true rfl) dX6_become_165 (fun w850 H locs hP hD hS hT kp851 => ?_)
      have ke852 : KF 1 T ws w850 := KF.tr ke833 (KF.le (by decide) le253 (KF.kp kp851 h514 (by decide)))
      have ke853 : KF 6 T ws w850 := KF.tr ke834 (KF.le (by decide) le253 (KF.kp kp851 h514 (by decide)))
      have hk854 := kp851 _ _ hk835 (rne (le253.up ht0) h514 (by decide))
      have hk855 := kp851 _ _ hk836 (rne (le253.up ht1) h514 (by decide))
      refine lv_aload_n hx hb dX6_become_168 rfl (lv_at hl 2 rfl) ?_
      refine va_get (D := D) (ci := 6) (v := .ref a785) (C := RX6) (T := TX6) (N := 13) hx hb hg inGX6 hown hKN.1 hP p810 hk855 rfl 9 (by decide) (hg _ kw_59) (fun _ h9 => h9) rfl dX6_become_169 ?_
      refine lv_iconst (v := 0) hx hb dX6_become_172 (by decide) ?_
      refine lv_aload_n hx hb dX6_become_173 rfl (lv_at hl 1 rfl) ?_
      refine va_get (D := D) (ci := 6) (v := .ref a495) (C := RX6) (T := TX6) (N := 13) hx hb hg inGX6 hown hKN.1 hP p520 hk854 rfl 9 (by decide) (hg _ kw_59) (fun _ h9 => h9) rfl dX6_become_174 ?_
      refine lv_iconst (v := 0) hx hb dX6_become_177 (by decide) ?_
      refine lv_bipush (v := 8) hx hb dX6_become_178 (by decide) ?_
      refine tr_cp12 hx hb (hml.trans hl.1.symm) hown (hg _ kw_1197) (hg _ kw_520) (hg _ kw_519) (hg _ kw_13) hKN hP hD hS hT h805 h515 (by decide) (by decide) (by decide) (by decide) (by decide) (Nat.le_of_ble_eq_true rfl) (Nat.le_of_ble_eq_true rfl) dX6_become_180 (fun w856 H locs hP hD hS hT kp857 => ?_)
      have ke858 : KF 1 T ws w856 := KF.tr ke852 (KF.le (by decide) le253 (KF.kp kp857 h515 (by decide)))
      have ke859 : KF 6 T ws w856 := KF.tr ke853 (KF.le (by decide) le253 (KF.kp kp857 h515 (by decide)))
      have hk860 := kp857 _ _ hk854 (rne (le253.up ht0) h515 (by decide))
      have hk861 := kp857 _ _ hk855 (rne (le253.up ht1) h515 (by decide))
      refine lv_aload_n hx hb dX6_become_183 rfl (lv_at hl 2 rfl) ?_
      refine va_get (D := D) (ci := 6) (v := .ref a787) (C := RX6) (T := TX6) (N := 13) hx hb hg inGX6 hown hKN.1 hP p810 hk861 rfl 11 (by decide) (hg _ kw_65) (fun _ h9 => h9) rfl dX6_become_184 ?_
      refine lv_iconst (v := 0) hx hb dX6_become_187 (by decide) ?_
      refine lv_aload_n hx hb dX6_become_188 rfl (lv_at hl 1 rfl) ?_
      refine va_get (D := D) (ci := 6) (v := .ref a497) (C := RX6) (T := TX6) (N := 13) hx hb hg inGX6 hown hKN.1 hP p520 hk860 rfl 11 (by decide) (hg _ kw_65) (fun _ h9 => h9) rfl dX6_become_189 ?_
      refine lv_iconst (v := 0) hx hb dX6_become_192 (by decide) ?_
      refine lv_sipush (v := 400) hx hb dX6_become_193 (by decide) ?_
      have zi400 : (400 : Int32).toInt = 400 := by decide
      refine tr_cp16 hx hb (hml.trans hl.1.symm) hown (hg _ kw_1197) (hg _ kw_520) (hg _ kw_519) (hg _ kw_13) hKN hP hD hS hT h808 h518 (by decide) (by decide) (by decide) (by decide) (by decide) (Nat.le_of_ble_eq_true rfl) (Nat.le_of_ble_eq_true rfl) dX6_become_196 (fun w862 H locs hP hD hS hT kp863 => ?_)
      have ke864 : KF 1 T ws w862 := KF.tr ke858 (KF.le (by decide) le253 (KF.kp kp863 h518 (by decide)))
      have ke865 : KF 6 T ws w862 := KF.tr ke859 (KF.le (by decide) le253 (KF.kp kp863 h518 (by decide)))
      have hk866 := kp863 _ _ hk860 (rne (le253.up ht0) h518 (by decide))
      have hk867 := kp863 _ _ hk861 (rne (le253.up ht1) h518 (by decide))
      refine W.widen (k := 24) (n := 7248) (by omega) (by omega) ?_
      exact W.vret hx hb hr (fun t ht hW => ⟨⟨(w862, T124, g837, q126), rfl, ⟨le253, hT, ke864, ke865, qe257, (show BE5 g g837 p0 p1 ∧ G2 T p0 g g837 from ⟨⟨(hg840).trans hb485.symm, (hg841).trans hb571.symm, (hg842).trans hb621.symm, (hg843).trans hb671.symm, (hg844).trans hb721.symm⟩, go839⟩)⟩, CB.mk ht hP hD⟩, hS.F ht⟩) hS.2.2 dX6_become_199
    · skip
      have c484 := i_nle (Eq.refl x450.toInt) (Eq.refl v351.toInt) c484
      refine lv_iload_n hx hb dX6_become_51 rfl (lv_at hl 0 rfl) ?_
      refine lv_bipush (v := 40) hx hb dX6_become_52 (by decide) ?_
      refine lv_icmp_ge (tgt := 75) hx hb dX6_become_54 (by decide) (fun c868 => ?_) (fun c868 => ?_)
      · have c868 := i_le (show (40 : Int32).toInt = 40 by decide) (Eq.refl v351.toInt) c868; exfalso; omega
      have c868 := i_nle (show (40 : Int32).toInt = 40 by decide) (Eq.refl v351.toInt) c868
      refine lv_aload_n hx hb dX6_become_57 rfl (lv_at hl 1 rfl) ?_
      refine ok2 hT (le253.up ht0) (fun p903 x869 a870 x871 a872 x873 a874 a875 x876 a877 a878 x879 a880 x881 hk904 h882 h883 h884 h885 h886 h887 h888 h889 h890 h891 h892 h893 h894 h895 h896 h897 h898 h899 h900 h901 h902 => ?_)
      refine va_get (D := D) (ci := 6) (v := .ref a872) (C := RX6) (T := TX6) (N := 13) hx hb hg inGX6 hown hKN.1 hP p903 hk904 rfl 3 (by decide) (hg _ kw_45) (fun _ h9 => h9) rfl dX6_become_58 ?_
      refine lv_iload_n hx hb dX6_become_61 rfl (lv_at hl 0 rfl) ?_
      refine lv_aload_n hx hb dX6_become_62 rfl (lv_at hl 2 rfl) ?_
      refine va_get (D := D) (ci := 6) (v := .ref a451) (C := RX6) (T := TX6) (N := 13) hx hb hg inGX6 hown hKN.1 hP p482 hk483 rfl 3 (by decide) (hg _ kw_45) (fun _ h9 => h9) rfl dX6_become_63 ?_
      refine lv_iload_n hx hb dX6_become_66 rfl (lv_at hl 0 rfl) ?_
      refine tr_ld18 hx hb hKN hP hT h467 (vp_in_iff.mpr ⟨by omega, by omega⟩) dX6_become_67 (fun r905 hr905 => ?_)
      refine W.eq (g2 := F0 m 68 ls [va_rf r905, .int v351, .ref a872]) rfl ?_
      rcases r905 with _ | b906
      · skip
        refine W.eq (g2 := F0 m 68 ls [.null, .int v351, .ref a872]) rfl ?_
        refine tr_st18N hx hb hKN hP hD hS hT h888 (vp_in_iff.mpr ⟨by omega, by omega⟩) dX6_become_68 (fun w907 H locs hP hD hS hT kp908 => ?_)
        have ke909 : KF 1 T ws w907 := KF.tr ke445 (KF.le (by decide) le253 (KF.kp kp908 h888 (by decide)))
        have ke910 : KF 6 T ws w907 := KF.tr ke446 (KF.le (by decide) le253 (KF.kp kp908 h888 (by decide)))
        have hk911 := kp908 _ _ hk483 (rne (le253.up ht1) h888 (by decide))
        have hk912 := kp908 _ _ hk904 (rne (le253.up ht0) h888 (by decide))
        obtain ⟨v913, ev913⟩ : ∃ y : Int32, y = v351 + 1 := ⟨_, rfl⟩
        have hv913 := i_add (Eq.refl v351.toInt) (show (1 : Int32).toInt = 1 by decide) ev913 (by omega) (by omega)
        refine lv_iinc (v := v913) (lv' := [(2, .int v913), (0, .ref p0), (1, .ref p1)]) hx hb dX6_become_69 hl (k := 0) rfl (by rw [ev913]; rfl) (by decide) rfl (fun ls hl => ?_)
        refine lv_goto (tgt := 43) hx hb dX6_become_72 (by decide) ?_
        exact ih447 (v913, w907) H locs ls (by show (40 - v913.toInt).toNat < (40 - v351.toInt).toNat; omega) ⟨hP, hD, hS, lv_sub hl [0, 1, 2] rfl, hT, ke909, ke910, by omega⟩
      · skip
        have ht914 := hr905 b906 rfl
        refine W.eq (g2 := F0 m 68 ls [.ref b906, .int v351, .ref a872]) rfl ?_
        refine tr_st18 hx hb hKN hP hD hS hT h888 ht914 (vp_in_iff.mpr ⟨by omega, by omega⟩) dX6_become_68 (fun w915 H locs hP hD hS hT kp916 => ?_)
        have ke917 : KF 1 T ws w915 := KF.tr ke445 (KF.le (by decide) le253 (KF.kp kp916 h888 (by decide)))
        have ke918 : KF 6 T ws w915 := KF.tr ke446 (KF.le (by decide) le253 (KF.kp kp916 h888 (by decide)))
        have hk919 := kp916 _ _ hk483 (rne (le253.up ht1) h888 (by decide))
        have hk920 := kp916 _ _ hk904 (rne (le253.up ht0) h888 (by decide))
        obtain ⟨v921, ev921⟩ : ∃ y : Int32, y = v351 + 1 := ⟨_, rfl⟩
        have hv921 := i_add (Eq.refl v351.toInt) (show (1 : Int32).toInt = 1 by decide) ev921 (by omega) (by omega)
        refine lv_iinc (v := v921) (lv' := [(2, .int v921), (0, .ref p0), (1, .ref p1)]) hx hb dX6_become_69 hl (k := 0) rfl (by rw [ev921]; rfl) (by decide) rfl (fun ls hl => ?_)
        refine lv_goto (tgt := 43) hx hb dX6_become_72 (by decide) ?_
        exact ih447 (v921, w915) H locs ls (by show (40 - v921.toInt).toNat < (40 - v351.toInt).toNat; omega) ⟨hP, hD, hS, lv_sub hl [0, 1, 2] rfl, hT, ke917, ke918, by omega⟩
  · skip
    have c297 := i_nle (Eq.refl x261.toInt) (Eq.refl v122.toInt) c297
    refine lv_iload_n hx hb dX6_become_10 rfl (lv_at hl 0 rfl) ?_
    refine lv_bipush (v := 12) hx hb dX6_become_11 (by decide) ?_
    refine lv_icmp_ge (tgt := 41) hx hb dX6_become_13 (by decide) (fun c922 => ?_) (fun c922 => ?_)
    · have c922 := i_le (show (12 : Int32).toInt = 12 by decide) (Eq.refl v122.toInt) c922; exfalso; omega
    have c922 := i_nle (show (12 : Int32).toInt = 12 by decide) (Eq.refl v122.toInt) c922
    refine lv_aload_n hx hb dX6_become_16 rfl (lv_at hl 2 rfl) ?_
    refine lv_iload_n hx hb dX6_become_17 rfl (lv_at hl 0 rfl) ?_
    refine cga (rn_V (As := [.int v122]) (rest := []) (b := p1) (x_X6_starAt l D Y Z H.size w123 T124 g125 q126 j2 p1 v122 hT (le253.up ht1)) ⟨hx, hb, hml, hown, hg⟩ lk_X6_58 ⟨CPC.blind, va_recv hKN.1 hP (ci := 6) (q0 := p295) rfl hk296, CPC.at hP hKN hD hSZ hS hA⟩ ⟨⟨rfl, rfl⟩, ⟨Nat.le_of_ble_eq_true rfl, Nat.le_of_ble_eq_true rfl⟩, ⟨(show _ ≤ (24 : Nat) by omega), (show _ ≤ (7248 : Nat) by omega)⟩⟩ hl.1 rfl (Nat.le_of_ble_eq_true rfl) dX6_become_18) hP hD hS hA (fun u923 H locs hw924 hP hD hS => ?_)
    obtain ⟨ht926, hw927⟩ : (∀ b, u923 = some b → T124 b = (3, j2, v122.toNatClampNeg)) ∧ (∀ b, u923 = some b → 0 ≤ v122.toInt ∧ v122.toInt ≤ 11) := hw924
    refine W.eq (g2 := F0 m 21 ls [va_rf u923]) rfl ?_
    rcases u923 with _ | b928
    · skip
      refine W.eq (g2 := F0 m 21 ls [.null]) rfl ?_
      refine lv_astore_nN (lv' := [(3, .null), (2, .int v122), (0, .ref p0), (1, .ref p1)]) hx hb dX6_become_21 rfl hl (by decide) rfl (fun ls hl => ?_)
      refine lv_aload_nN hx hb dX6_become_22 rfl (lv_at hl 0 rfl) ?_
      refine lv_ifnullN (tgt := 35) hx hb dX6_become_23 (by decide) ?_
      obtain ⟨v929, ev929⟩ : ∃ y : Int32, y = v122 + 1 := ⟨_, rfl⟩
      have hv929 := i_add (Eq.refl v122.toInt) (show (1 : Int32).toInt = 1 by decide) ev929 (by omega) (by omega)
      refine lv_iinc (v := v929) (lv' := [(2, .int v929), (3, .null), (0, .ref p0), (1, .ref p1)]) hx hb dX6_become_35 hl (k := 1) rfl (by rw [ev929]; rfl) (by decide) rfl (fun ls hl => ?_)
      refine lv_goto (tgt := 2) hx hb dX6_become_38 (by decide) ?_
      exact ih260 (v929, w123, T124, g125, q126) _ _ H locs ls (by show (12 - v929.toInt).toNat < (12 - v122.toInt).toNat; omega) (by show (bd250 + 0) + 2 * ((12 - v929.toInt).toNat) ≤ 0 + 2 * 12 ∧ (sd251 + 0) + 604 * ((12 - v929.toInt).toNat) ≤ 0 + 604 * 12; omega) ⟨hP, hD, hS, lv_sub hl [0, 2, 3] rfl, hT, le253, ke254, ke255, ge256, qe257, go258, ho259, by omega⟩
    · skip
      have ht930 := ht926 b928 rfl
      have h931 := hw927 b928 rfl
      refine W.eq (g2 := F0 m 21 ls [.ref b928]) rfl ?_
      refine lv_astore_n (lv' := [(3, .ref b928), (2, .int v122), (0, .ref p0), (1, .ref p1)]) hx hb dX6_become_21 rfl hl (by decide) rfl (fun ls hl => ?_)
      refine lv_aload_n hx hb dX6_become_22 rfl (lv_at hl 0 rfl) ?_
      refine lv_ifnull hx hb dX6_become_23 ?_
      refine lv_aload_n hx hb dX6_become_26 rfl (lv_at hl 2 rfl) ?_
      refine lv_iload_n hx hb dX6_become_27 rfl (lv_at hl 1 rfl) ?_
      refine ok2 hT (le253.up ht0) (fun p966 x932 a933 x934 a935 x936 a937 a938 x939 a940 a941 x942 a943 x944 hk967 h945 h946 h947 h948 h949 h950 h951 h952 h953 h954 h955 h956 h957 h958 h959 h960 h961 h962 h963 h964 h965 => ?_)
      refine cga (rn_V (As := [.int v122]) (rest := []) (b := p0) (x_placeForE l D Y Z H.size w123 T124 g125 q126 j p0 v122 hT (le253.up ht0) (show (0 ≤ v122.toInt ∧ v122.toInt ≤ 11) by omega)) ⟨hx, hb, hml, hown, hg⟩ lk_X6_68 ⟨CPC.blind, va_recv hKN.1 hP (ci := 6) (q0 := p966) rfl hk967, CPC.at hP hKN hD hSZ hS hA⟩ ⟨⟨rfl, rfl⟩, ⟨Nat.le_of_ble_eq_true rfl, Nat.le_of_ble_eq_true rfl⟩, ⟨(show _ ≤ (24 : Nat) by omega), (show _ ≤ (7248 : Nat) by omega)⟩⟩ hl.1 rfl (Nat.le_of_ble_eq_true rfl) dX6_become_28) hP hD hS hA (fun u968 H locs hw969 hP hD hS => ?_)
      refine W.widen (k := (bd250 + 2)) (n := (sd251 + 604)) (by omega) (by omega) ?_
      obtain ⟨b970, w971, T972, g973, q974⟩ := u968
      obtain ⟨le975, hT, ke976, ke977, ge978, qe979, ht980⟩ : TLe T124 T972 ∧ TW Y Z T972 g973 q974 w971 ∧ KF 1 T124 w123 w971 ∧ KF 6 T124 w123 w971 ∧ GE T124 g125 g973 ∧ QE T124 q126 q974 ∧ T972 b970 = (3, j, v122.toNatClampNeg) := hw969
      have ke981 : KF 1 T ws w971 := KF.tr ke254 (KF.le (by decide) le253 ke976)
      have ke982 : KF 6 T ws w971 := KF.tr ke255 (KF.le (by decide) le253 ke977)
      have ho983 : g973 p1 = g p1 := Eq.trans (b := g125 p1) (ge978 p1 (by rw [(le253.up ht1)]; exact Nat.succ_ne_zero _) (by rw [(le253.up ht1)]; show (2 : Nat) ≠ 3; decide)) ho259
      have go984 : G2 T p0 g g973 := G2.tr go258 (G2.ge (GE.le le253 ge978))
      have ge985 : GE T g g973 := GE.tr ge256 (GE.le le253 ge978)
      have qe986 : QE T q q974 := QE.tr qe257 (QE.le le253 qe979)
      refine W.eq (g2 := F0 m 31 ls [.ref b970]) rfl ?_
      refine lv_aload_n hx hb dX6_become_31 rfl (lv_at hl 0 rfl) ?_
      refine ok3 hT ht980 (fun p993 x987 x988 x989 a990 hk994 h991 h992 => ?_)
      refine cga (rn_NV (As := [.ref b928]) (rest := []) (b := b970) (x_X7_become l D Y Z H.size w971 T972 g973 q974 j v122.toNatClampNeg j2 v122.toNatClampNeg b970 b928 hT ht980 (le975.up ht930)) ⟨hx, hb, hml, hown, hg⟩ hKN lk_X6_99 ⟨CPC.blind, va_recv hKN.1 hP (ci := 7) (q0 := p993) rfl hk994, CPC.at hP hKN hD hSZ hS hA⟩ ⟨⟨rfl, rfl⟩, ⟨Nat.le_of_ble_eq_true rfl, Nat.le_of_ble_eq_true rfl⟩, ⟨(show _ ≤ (24 : Nat) by omega), (show _ ≤ (7248 : Nat) by omega)⟩⟩ hl.1 rfl (Nat.le_of_ble_eq_true rfl) dX6_become_32) hP hD hS hA (fun u995 H locs hw996 hP hD hS => ?_)
      obtain ⟨w997, g998⟩ := u995
      obtain ⟨hT, ke999, ke1000, ge1001⟩ : TW Y Z T972 g998 q974 w997 ∧ KF 1 T972 w971 w997 ∧ KF 6 T972 w971 w997 ∧ GE T972 g973 g998 := hw996
      have ke1002 : KF 1 T ws w997 := KF.tr ke981 (KF.le (by decide) (le253.tr le975) ke999)
      have ke1003 : KF 6 T ws w997 := KF.tr ke982 (KF.le (by decide) (le253.tr le975) ke1000)
      have ho1004 : g998 p1 = g p1 := Eq.trans (b := g973 p1) (ge1001 p1 (by rw [(le975.up (le253.up ht1))]; exact Nat.succ_ne_zero _) (by rw [(le975.up (le253.up ht1))]; show (2 : Nat) ≠ 3; decide)) ho983
      have go1005 : G2 T p0 g g998 := G2.tr go984 (G2.ge (GE.le (le253.tr le975) ge1001))
      have ge1006 : GE T g g998 := GE.tr ge985 (GE.le (le253.tr le975) ge1001)
      refine W.eq (g2 := F0 m 35 ls []) rfl ?_
      obtain ⟨v1007, ev1007⟩ : ∃ y : Int32, y = v122 + 1 := ⟨_, rfl⟩
      have hv1007 := i_add (Eq.refl v122.toInt) (show (1 : Int32).toInt = 1 by decide) ev1007 (by omega) (by omega)
      refine lv_iinc (v := v1007) (lv' := [(2, .int v1007), (3, .ref b928), (0, .ref p0), (1, .ref p1)]) hx hb dX6_become_35 hl (k := 1) rfl (by rw [ev1007]; rfl) (by decide) rfl (fun ls hl => ?_)
      refine lv_goto (tgt := 2) hx hb dX6_become_38 (by decide) ?_
      exact ih260 (v1007, w997, T972, g998, q974) _ _ H locs ls (by show (12 - v1007.toInt).toNat < (12 - v122.toInt).toNat; omega) (by show (bd250 + 2) + 2 * ((12 - v1007.toInt).toNat) ≤ 0 + 2 * 12 ∧ (sd251 + 604) + 604 * ((12 - v1007.toInt).toNat) ≤ 0 + 604 * 12; omega) ⟨hP, hD, hS, lv_sub hl [0, 2, 3] rfl, hT, (le253.tr le975), ke1002, ke1003, ge1006, qe986, go1005, ho1004, by omega⟩
