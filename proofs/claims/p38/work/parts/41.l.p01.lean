set_option maxHeartbeats 4000000 in
set_option maxRecDepth 100000 in
theorem x_wideS (l : Launch) (D : va_G) (Y : Nat → ClassId) (Z : Nat → Nat) (sz : Nat) (ws : va_W) (T : RT) (g : GN) (q : GQ)  (p0 : Nat) (p1 : Int32) (hT : TW Y Z T g q ws) (ht0 : T p0 = (1, 0, 0)) : Met l yX10_wide (.code yX10_wide cX10_wide 3 (some .int) :: GW) ({ frames := 1, cells := 0, slots := 0, locals := 22 }) (va_Pc [.ref p0, .int p1] (CPC D Y Z ws sz)) (QG (S := Int32 × va_W × GN) (fun u => some (.int u.1)) (fun u => TW Y Z T u.2.2 q u.2.1 ∧ KF 6 T ws u.2.1 ∧ GJ T 0 g u.2.2 ∧ (∀ s0, q p0 0 = some s0 → GQE g u.2.2 s0 7) ∧ (∀ s0, q p0 0 = some s0 → UPE T g u.2.2 s0 7)) (fun u => CB D u.2.1 (va_A ws sz)) (va_A ws sz)) 0 0 (va_A ws sz) := by
  refine Met.ofW (cc := cX10_wide) (maxL := 3) (ret := (some .int)) (by decide) rfl ?_
  intro p e s m args below meth c s₁ B hml hv
  obtain ⟨rfl, ⟨hsz, hP, hKN, hD0⟩, hSZ⟩ := hv
  have hx := B.exec
  have hb := B.bytes
  have hr := B.returns
  have hts := atoms_spec (ws := .code yX10_wide cX10_wide 3 (some .int) :: GW) B.pre
  have hg : ∀ w ∈ GW, w.before _ s = true := fun w h => hts w (List.mem_cons_of_mem _ h)
  have hown : s.vm.findClass RX10 = some m.cls := findClass_of_methodNamed B.named
  have hlocks := B.notSynchronized
  subst hsz
  have hD := hD0.self (sz := s.heap.size)
  generalize hAe : va_A ws s.heap.size = A at hD hSZ ⊢
  have hA : ∀ q : Nat, s.heap.size ≤ q → A q := fun q h => by rw [← hAe]; exact Or.inr h
  clear hAe hD0 hts B
  have hl := lv_entry ([.ref p0, .int p1]) (n := 3) (Nat.le_of_ble_eq_true rfl)
  rw [lg_entry_eq]
  generalize (lg_sl ([.ref p0, .int p1]) ++ List.replicate (3 - (lg_sl ([.ref p0, .int p1])).length) Slot.unset).toArray = ls at hl ⊢
  have hl : lv_has ls 3 [(0, .ref p0), (1, .int p1)] := hl
  refine w_start (A0 := A) hP (fun H locs hP hS => ?_)
  refine ok1 hT ht0 (fun p42 a1 a2 a3 a4 a5 x6 x7 x8 a9 a10 a11 a12 a13 a14 a15 a16 a17 x18 a19 a20 hk43 h21 h22 h23 h24 h25 h26 h27 h28 h29 h30 h31 h32 h33 h34 h35 h36 h37 h38 h39 h40 h41 => ?_)
  have hT0 := hT
  refine lv_iload_n hx hb dX10_wide_0 rfl (lv_at hl 1 rfl) ?_
  refine lv_iconst (v := 0) hx hb dX10_wide_1 (by decide) ?_
  refine lv_bipush (v := 50) hx hb dX10_wide_2 (by decide) ?_
  have zi0 : (0 : Int32).toInt = 0 := by decide
  have zi50 : (50 : Int32).toInt = 50 := by decide
  refine cg0 (rn_S (As := [.int p1, .int 0, .int 50]) (rest := []) (x_X10_isWithin l D Y Z H.size p1 0 50) ⟨hx, hb, hml, hown, hg⟩ lk_X10_100 ⟨CP.blind, CP.at nilP hKN (nilD (A := fun _ => True))⟩ ⟨⟨rfl, rfl⟩, ⟨Nat.le_of_ble_eq_true rfl, Nat.le_of_ble_eq_true rfl⟩, ⟨(Nat.le_of_ble_eq_true rfl), (Nat.le_of_ble_eq_true rfl)⟩⟩ hl.1 rfl (Nat.le_of_ble_eq_true rfl) dX10_wide_4) hP hS hA (fun u44 H locs hw45 hP hS => ?_)
  obtain ⟨hw47, hw48⟩ : (((0 : Int32).toInt ≤ p1.toInt ∧ p1.toInt ≤ (50 : Int32).toInt ∧ u44.toInt = 1) ∨ (¬ ((0 : Int32).toInt ≤ p1.toInt ∧ p1.toInt ≤ (50 : Int32).toInt) ∧ u44.toInt = 0)) ∧ (0 ≤ u44.toInt ∧ u44.toInt ≤ 1) := hw45
  refine W.eq (g2 := F0 m 7 ls [.int u44]) rfl ?_
  rcases (show u44.toInt = 1 ∨ u44.toInt = 0 by omega) with c49 | c49
  · obtain rfl : u44 = 1 := i_is c49 (by decide)
    have zi1 : (1 : Int32).toInt = 1 := by decide
    refine W.eq (g2 := F0 m 7 ls [.int 1]) rfl ?_
    refine lv_if_ne (tgt := 12) hx hb dX10_wide_7 (by decide) (fun c50 => ?_) (fun c50 => ?_)
    rotate_left
    · exact absurd c50 (by decide)
    refine lv_aload_n hx hb dX10_wide_12 rfl (lv_at hl 0 rfl) ?_
    refine va_get (D := D) (ci := 10) (v := .ref a1) (C := RX10) (T := TX10) (N := 20) hx hb hg inGX10 hown hKN.1 hP p42 hk43 rfl 0 (by decide) (hg _ kw_349) (fun _ h9 => h9) rfl dX10_wide_13 ?_
    refine ok2 hT h21 (fun p85 x51 a52 x53 a54 x55 a56 a57 x58 a59 a60 x61 a62 x63 hk86 h64 h65 h66 h67 h68 h69 h70 h71 h72 h73 h74 h75 h76 h77 h78 h79 h80 h81 h82 h83 h84 => ?_)
    refine va_getN (D := D) (ci := 6) (v := .int x58) (C := RX6) (T := TX6) (N := 13) hx hb hg inGX6 hown hKN.1 hP p85 hk86 rfl 7 (by decide) (va_Nw.use rfl (hKN.2.1 _ kn_55 rfl)) (fun _ h9 => h9) rfl dX10_wide_16 ?_
    refine lv_istore_n (lv' := [(2, .int x58), (0, .ref p0), (1, .int p1)]) hx hb dX10_wide_19 rfl hl (by decide) rfl (fun ls hl => ?_)
    refine lv_aload_n hx hb dX10_wide_20 rfl (lv_at hl 1 rfl) ?_
    refine va_get (D := D) (ci := 10) (v := .ref a1) (C := RX10) (T := TX10) (N := 20) hx hb hg inGX10 hown hKN.1 hP p42 hk43 rfl 0 (by decide) (hg _ kw_349) (fun _ h9 => h9) rfl dX10_wide_21 ?_
    refine lv_iload_n hx hb dX10_wide_24 rfl (lv_at hl 2 rfl) ?_
    refine va_putN (D := D) (ci := 6) (v := .int p1) (ty := .int) (C := RX6) (T := TX6) (N := 13) hx hb hg inGX6 tyX6 tyX6_ok nmX6 hown hKN.1 hP hD hS p85 hk86 rfl 7 (by decide) (va_Nw.use rfl (hKN.2.1 _ kn_55 rfl)) (fun _ h9 => h9) rfl (by decide +kernel) rfl rfl (Nat.le_of_ble_eq_true rfl) dX10_wide_25 (fun H locs hP hD2 hS => ?_)
    obtain ⟨w87, g90, eg90, hP, hD, hT, hk89, kp88⟩ : ∃ wz gz, gz = gset g a1 7 p1 ∧ va_P D vwCl wz H ∧ va_D A wz ∧ TW Y Z T gz q wz ∧ wz[p85]? = some (a1, .inr (6, (.int x51 :: .ref a52 :: .int x53 :: .ref a54 :: .int x55 :: .ref a56 :: .ref a57 :: .int p1 :: .ref a59 :: .ref a60 :: .int x61 :: .ref a62 :: .int x63 :: []))) ∧ Kp a1 ws wz := ⟨_, _, rfl, hP, hD2, tw_sg (k := 2) (g2 := gset g a1 7 p1) (q2 := q) hT hD hk86 h21 (fun _ hc => gset_ne hc) (fun _ _ => rfl) (show Sh2 Y Z T ((gset g a1 7 p1) a1) (q a1) 0 0 _ from ⟨x51, a52, x53, a54, x55, a56, a57, p1, a59, a60, x61, a62, x63, rfl, by omega, ((gs_ne (by decide)).trans h65), h66, h67, by omega, ((gs_ne (by decide)).trans h69), h70, by omega, ((gs_ne (by decide)).trans h72), h73, h74, h75, h76, by omega, gs_eq, h79, h80, by omega, ((gs_ne (by decide)).trans h82), h83, by omega⟩), sw_eq hk86, sw_kp hk86⟩
    have hg91 : g90 a1 0 = x51 := by rw [eg90]; exact ((gs_ne (by decide)).trans h65)
    have hg92 : g90 a1 2 = x53 := by rw [eg90]; exact ((gs_ne (by decide)).trans h69)
    have hg93 : g90 a1 4 = x55 := by rw [eg90]; exact ((gs_ne (by decide)).trans h72)
    have hg94 : g90 a1 7 = p1 := by rw [eg90]; exact gs_eq
    have hg95 : g90 a1 10 = x61 := by rw [eg90]; exact ((gs_ne (by decide)).trans h82)
    have gj96 : GJ T 0 g g90 := GJ.tr GJ.rf (GJ.st eg90 h21)
    have ke97 : KF 6 T ws w87 := KF.tr KF.rf (KF.kp kp88 h21 (by decide))
    have hk98 := kp88 _ _ hk43 (rne ht0 h21 (by decide))
    refine lv_aload_n hx hb dX10_wide_28 rfl (lv_at hl 1 rfl) ?_
    refine lv_dup hx hb dX10_wide_29 rfl ?_
    refine va_get (D := D) (ci := 10) (v := .int x18) (C := RX10) (T := TX10) (N := 20) hx hb hg inGX10 hown hKN.1 hP p42 hk98 rfl 17 (by decide) (hg _ kw_366) (fun _ h9 => h9) rfl dX10_wide_30 ?_
    refine lv_iconst (v := 1) hx hb dX10_wide_33 (by decide) ?_
    refine lv_iadd hx hb dX10_wide_34 ?_
    refine lv_topi (fun v99 ev99 => ?_)
    refine va_put (D := D) (ci := 10) (v := .int v99) (ty := .int) (C := RX10) (T := TX10) (N := 20) hx hb hg inGX10 tyX10 tyX10_ok nmX10 hown hKN.1 hP hD hS p42 hk98 rfl 17 (by decide) (hg _ kw_366) (fun _ h9 => h9) rfl (by decide +kernel) rfl rfl (Nat.le_of_ble_eq_true rfl) dX10_wide_35 (fun H locs hP hD2 hS => ?_)
    obtain ⟨w100, hP, hD, hT, hk102, kp101⟩ : ∃ wz, va_P D vwCl wz H ∧ va_D A wz ∧ TW Y Z T g90 q wz ∧ wz[p42]? = some (p0, .inr (10, (.ref a1 :: .ref a2 :: .ref a3 :: .ref a4 :: .ref a5 :: .int x6 :: .int x7 :: .int x8 :: .ref a9 :: .ref a10 :: .ref a11 :: .ref a12 :: .ref a13 :: .ref a14 :: .ref a15 :: .ref a16 :: .ref a17 :: .int v99 :: .ref a19 :: .ref a20 :: []))) ∧ Kp p0 w87 wz := ⟨_, hP, hD2, st1 hT hD hk98 ht0 ⟨a1, a2, a3, a4, a5, x6, x7, x8, a9, a10, a11, a12, a13, a14, a15, a16, a17, v99, a19, a20, rfl, h21, h22, h23, h24, h25, h26, h27, by omega, by omega, by omega, h31, h32, h33, h34, h35, h36, h37, h38, h39, h40, h41⟩, sw_eq hk98, sw_kp hk98⟩
    have ke103 : KF 6 T ws w100 := KF.tr ke97 (KF.kp kp101 ht0 (by decide))
    have hk104 := kp101 _ _ hk89 (rne h21 ht0 (by decide))
    refine lv_iload_n hx hb dX10_wide_38 rfl (lv_at hl 0 rfl) ?_
    refine W.widen (k := 0) (n := 0) (Nat.le_of_ble_eq_true rfl) (Nat.le_of_ble_eq_true rfl) ?_
    exact W.iret (v := x58) hx hb hr (fun t ht hW => ⟨⟨(x58, w100, g90), rfl, ⟨hT, ke103, gj96, (show ∀ s0, q p0 0 = some s0 → GQE g g90 s0 7 from (fun s0 hs => by obtain rfl : s0 = a1 := Option.some.inj (hs.symm.trans h22); exact Or.inr ⟨_, eg90⟩)), (show ∀ s0, q p0 0 = some s0 → UPE T g g90 s0 7 from (fun s0 hs => by obtain rfl : s0 = a1 := Option.some.inj (hs.symm.trans h22); exact ⟨_, UPS.of G14.rf eg90 h21⟩))⟩, CB.mk ht hP hD⟩, hS.F ht⟩) hS.2.2 dX10_wide_39
  · obtain rfl : u44 = 0 := i_is c49 (by decide)
    refine W.eq (g2 := F0 m 7 ls [.int 0]) rfl ?_
    refine lv_if_ne (tgt := 12) hx hb dX10_wide_7 (by decide) (fun c105 => ?_) (fun c105 => ?_)
    · exact absurd c105 (by decide)
    refine lv_iconst (v := (-1)) hx hb dX10_wide_10 (by decide) ?_
    refine W.widen (k := 0) (n := 0) (Nat.le_of_ble_eq_true rfl) (Nat.le_of_ble_eq_true rfl) ?_
    have zim1 : ((-1) : Int32).toInt = -1 := by decide
    exact W.iret (v := (-1)) hx hb hr (fun t ht hW => ⟨⟨(((-1)), ws, g), rfl, ⟨hT, KF.rf, GJ.rf, (show ∀ s0, q p0 0 = some s0 → GQE g g s0 7 from (fun s0 _ => Or.inl rfl)), (show ∀ s0, q p0 0 = some s0 → UPE T g g s0 7 from (fun s0 _ => ⟨_, UPS.rf⟩))⟩, CB.mk ht hP hD⟩, hS.F ht⟩) hS.2.2 dX10_wide_11
set_option maxHeartbeats 4000000 in
set_option maxRecDepth 100000 in
theorem x_orderS (l : Launch) (D : va_G) (Y : Nat → ClassId) (Z : Nat → Nat) (sz : Nat) (ws : va_W) (T : RT) (g : GN) (q : GQ)  (p0 : Nat) (p1 : Int32) (hT : TW Y Z T g q ws) (ht0 : T p0 = (1, 0, 0)) : Met l yX10_order (.code yX10_order cX10_order 3 (some .int) :: GW) ({ frames := 1, cells := 0, slots := 0, locals := 22 }) (va_Pc [.ref p0, .int p1] (CPC D Y Z ws sz)) (QG (S := Int32 × va_W × GN) (fun u => some (.int u.1)) (fun u => TW Y Z T u.2.2 q u.2.1 ∧ KF 6 T ws u.2.1 ∧ GJ T 0 g u.2.2 ∧ (∀ s0, q p0 0 = some s0 → GQE g u.2.2 s0 10) ∧ (∀ s0, q p0 0 = some s0 → UPE T g u.2.2 s0 10)) (fun u => CB D u.2.1 (va_A ws sz)) (va_A ws sz)) 0 0 (va_A ws sz) := by
  refine Met.ofW (cc := cX10_order) (maxL := 3) (ret := (some .int)) (by decide) rfl ?_
  intro p e s m args below meth c s₁ B hml hv
  obtain ⟨rfl, ⟨hsz, hP, hKN, hD0⟩, hSZ⟩ := hv
  have hx := B.exec
  have hb := B.bytes
  have hr := B.returns
  have hts := atoms_spec (ws := .code yX10_order cX10_order 3 (some .int) :: GW) B.pre
  have hg : ∀ w ∈ GW, w.before _ s = true := fun w h => hts w (List.mem_cons_of_mem _ h)
  have hown : s.vm.findClass RX10 = some m.cls := findClass_of_methodNamed B.named
  have hlocks := B.notSynchronized
  subst hsz
  have hD := hD0.self (sz := s.heap.size)
  generalize hAe : va_A ws s.heap.size = A at hD hSZ ⊢
  have hA : ∀ q : Nat, s.heap.size ≤ q → A q := fun q h => by rw [← hAe]; exact Or.inr h
  clear hAe hD0 hts B
  have hl := lv_entry ([.ref p0, .int p1]) (n := 3) (Nat.le_of_ble_eq_true rfl)
  rw [lg_entry_eq]
  generalize (lg_sl ([.ref p0, .int p1]) ++ List.replicate (3 - (lg_sl ([.ref p0, .int p1])).length) Slot.unset).toArray = ls at hl ⊢
  have hl : lv_has ls 3 [(0, .ref p0), (1, .int p1)] := hl
  refine w_start (A0 := A) hP (fun H locs hP hS => ?_)
  refine ok1 hT ht0 (fun p42 a1 a2 a3 a4 a5 x6 x7 x8 a9 a10 a11 a12 a13 a14 a15 a16 a17 x18 a19 a20 hk43 h21 h22 h23 h24 h25 h26 h27 h28 h29 h30 h31 h32 h33 h34 h35 h36 h37 h38 h39 h40 h41 => ?_)
  have hT0 := hT
  refine lv_iload_n hx hb dX10_order_0 rfl (lv_at hl 1 rfl) ?_
  refine lv_iconst (v := 0) hx hb dX10_order_1 (by decide) ?_
  refine lv_bipush (v := 23) hx hb dX10_order_2 (by decide) ?_
  have zi0 : (0 : Int32).toInt = 0 := by decide
  have zi23 : (23 : Int32).toInt = 23 := by decide
  refine cg0 (rn_S (As := [.int p1, .int 0, .int 23]) (rest := []) (x_X10_isWithin l D Y Z H.size p1 0 23) ⟨hx, hb, hml, hown, hg⟩ lk_X10_100 ⟨CP.blind, CP.at nilP hKN (nilD (A := fun _ => True))⟩ ⟨⟨rfl, rfl⟩, ⟨Nat.le_of_ble_eq_true rfl, Nat.le_of_ble_eq_true rfl⟩, ⟨(Nat.le_of_ble_eq_true rfl), (Nat.le_of_ble_eq_true rfl)⟩⟩ hl.1 rfl (Nat.le_of_ble_eq_true rfl) dX10_order_4) hP hS hA (fun u44 H locs hw45 hP hS => ?_)
  obtain ⟨hw47, hw48⟩ : (((0 : Int32).toInt ≤ p1.toInt ∧ p1.toInt ≤ (23 : Int32).toInt ∧ u44.toInt = 1) ∨ (¬ ((0 : Int32).toInt ≤ p1.toInt ∧ p1.toInt ≤ (23 : Int32).toInt) ∧ u44.toInt = 0)) ∧ (0 ≤ u44.toInt ∧ u44.toInt ≤ 1) := hw45
  refine W.eq (g2 := F0 m 7 ls [.int u44]) rfl ?_
  rcases (show u44.toInt = 1 ∨ u44.toInt = 0 by omega) with c49 | c49
  · obtain rfl : u44 = 1 := i_is c49 (by decide)
    have zi1 : (1 : Int32).toInt = 1 := by decide
    refine W.eq (g2 := F0 m 7 ls [.int 1]) rfl ?_
    refine lv_if_ne (tgt := 12) hx hb dX10_order_7 (by decide) (fun c50 => ?_) (fun c50 => ?_)
    rotate_left
    · exact absurd c50 (by decide)
    refine lv_aload_n hx hb dX10_order_12 rfl (lv_at hl 0 rfl) ?_
    refine va_get (D := D) (ci := 10) (v := .ref a1) (C := RX10) (T := TX10) (N := 20) hx hb hg inGX10 hown hKN.1 hP p42 hk43 rfl 0 (by decide) (hg _ kw_349) (fun _ h9 => h9) rfl dX10_order_13 ?_
    refine ok2 hT h21 (fun p85 x51 a52 x53 a54 x55 a56 a57 x58 a59 a60 x61 a62 x63 hk86 h64 h65 h66 h67 h68 h69 h70 h71 h72 h73 h74 h75 h76 h77 h78 h79 h80 h81 h82 h83 h84 => ?_)
    refine va_getN (D := D) (ci := 6) (v := .int x61) (C := RX6) (T := TX6) (N := 13) hx hb hg inGX6 hown hKN.1 hP p85 hk86 rfl 10 (by decide) (va_Nw.use rfl (hKN.2.1 _ kn_63 rfl)) (fun _ h9 => h9) rfl dX10_order_16 ?_
    refine lv_istore_n (lv' := [(2, .int x61), (0, .ref p0), (1, .int p1)]) hx hb dX10_order_19 rfl hl (by decide) rfl (fun ls hl => ?_)
    refine lv_aload_n hx hb dX10_order_20 rfl (lv_at hl 1 rfl) ?_
    refine va_get (D := D) (ci := 10) (v := .ref a1) (C := RX10) (T := TX10) (N := 20) hx hb hg inGX10 hown hKN.1 hP p42 hk43 rfl 0 (by decide) (hg _ kw_349) (fun _ h9 => h9) rfl dX10_order_21 ?_
    refine lv_iload_n hx hb dX10_order_24 rfl (lv_at hl 2 rfl) ?_
    refine va_putN (D := D) (ci := 6) (v := .int p1) (ty := .int) (C := RX6) (T := TX6) (N := 13) hx hb hg inGX6 tyX6 tyX6_ok nmX6 hown hKN.1 hP hD hS p85 hk86 rfl 10 (by decide) (va_Nw.use rfl (hKN.2.1 _ kn_63 rfl)) (fun _ h9 => h9) rfl (by decide +kernel) rfl rfl (Nat.le_of_ble_eq_true rfl) dX10_order_25 (fun H locs hP hD2 hS => ?_)
    obtain ⟨w87, g90, eg90, hP, hD, hT, hk89, kp88⟩ : ∃ wz gz, gz = gset g a1 10 p1 ∧ va_P D vwCl wz H ∧ va_D A wz ∧ TW Y Z T gz q wz ∧ wz[p85]? = some (a1, .inr (6, (.int x51 :: .ref a52 :: .int x53 :: .ref a54 :: .int x55 :: .ref a56 :: .ref a57 :: .int x58 :: .ref a59 :: .ref a60 :: .int p1 :: .ref a62 :: .int x63 :: []))) ∧ Kp a1 ws wz := ⟨_, _, rfl, hP, hD2, tw_sg (k := 2) (g2 := gset g a1 10 p1) (q2 := q) hT hD hk86 h21 (fun _ hc => gset_ne hc) (fun _ _ => rfl) (show Sh2 Y Z T ((gset g a1 10 p1) a1) (q a1) 0 0 _ from ⟨x51, a52, x53, a54, x55, a56, a57, x58, a59, a60, p1, a62, x63, rfl, by omega, ((gs_ne (by decide)).trans h65), h66, h67, by omega, ((gs_ne (by decide)).trans h69), h70, by omega, ((gs_ne (by decide)).trans h72), h73, h74, h75, h76, by omega, ((gs_ne (by decide)).trans h78), h79, h80, by omega, gs_eq, h83, by omega⟩), sw_eq hk86, sw_kp hk86⟩
    have hg91 : g90 a1 0 = x51 := by rw [eg90]; exact ((gs_ne (by decide)).trans h65)
    have hg92 : g90 a1 2 = x53 := by rw [eg90]; exact ((gs_ne (by decide)).trans h69)
    have hg93 : g90 a1 4 = x55 := by rw [eg90]; exact ((gs_ne (by decide)).trans h72)
    have hg94 : g90 a1 7 = x58 := by rw [eg90]; exact ((gs_ne (by decide)).trans h78)
    have hg95 : g90 a1 10 = p1 := by rw [eg90]; exact gs_eq
    have gj96 : GJ T 0 g g90 := GJ.tr GJ.rf (GJ.st eg90 h21)
    have ke97 : KF 6 T ws w87 := KF.tr KF.rf (KF.kp kp88 h21 (by decide))
    have hk98 := kp88 _ _ hk43 (rne ht0 h21 (by decide))
    refine lv_aload_n hx hb dX10_order_28 rfl (lv_at hl 1 rfl) ?_
    refine lv_dup hx hb dX10_order_29 rfl ?_
    refine va_get (D := D) (ci := 10) (v := .int x18) (C := RX10) (T := TX10) (N := 20) hx hb hg inGX10 hown hKN.1 hP p42 hk98 rfl 17 (by decide) (hg _ kw_366) (fun _ h9 => h9) rfl dX10_order_30 ?_
    refine lv_iconst (v := 1) hx hb dX10_order_33 (by decide) ?_
    refine lv_iadd hx hb dX10_order_34 ?_
    refine lv_topi (fun v99 ev99 => ?_)
    refine va_put (D := D) (ci := 10) (v := .int v99) (ty := .int) (C := RX10) (T := TX10) (N := 20) hx hb hg inGX10 tyX10 tyX10_ok nmX10 hown hKN.1 hP hD hS p42 hk98 rfl 17 (by decide) (hg _ kw_366) (fun _ h9 => h9) rfl (by decide +kernel) rfl rfl (Nat.le_of_ble_eq_true rfl) dX10_order_35 (fun H locs hP hD2 hS => ?_)
    obtain ⟨w100, hP, hD, hT, hk102, kp101⟩ : ∃ wz, va_P D vwCl wz H ∧ va_D A wz ∧ TW Y Z T g90 q wz ∧ wz[p42]? = some (p0, .inr (10, (.ref a1 :: .ref a2 :: .ref a3 :: .ref a4 :: .ref a5 :: .int x6 :: .int x7 :: .int x8 :: .ref a9 :: .ref a10 :: .ref a11 :: .ref a12 :: .ref a13 :: .ref a14 :: .ref a15 :: .ref a16 :: .ref a17 :: .int v99 :: .ref a19 :: .ref a20 :: []))) ∧ Kp p0 w87 wz := ⟨_, hP, hD2, st1 hT hD hk98 ht0 ⟨a1, a2, a3, a4, a5, x6, x7, x8, a9, a10, a11, a12, a13, a14, a15, a16, a17, v99, a19, a20, rfl, h21, h22, h23, h24, h25, h26, h27, by omega, by omega, by omega, h31, h32, h33, h34, h35, h36, h37, h38, h39, h40, h41⟩, sw_eq hk98, sw_kp hk98⟩
    have ke103 : KF 6 T ws w100 := KF.tr ke97 (KF.kp kp101 ht0 (by decide))
    have hk104 := kp101 _ _ hk89 (rne h21 ht0 (by decide))
    refine lv_iload_n hx hb dX10_order_38 rfl (lv_at hl 0 rfl) ?_
    refine W.widen (k := 0) (n := 0) (Nat.le_of_ble_eq_true rfl) (Nat.le_of_ble_eq_true rfl) ?_
    exact W.iret (v := x61) hx hb hr (fun t ht hW => ⟨⟨(x61, w100, g90), rfl, ⟨hT, ke103, gj96, (show ∀ s0, q p0 0 = some s0 → GQE g g90 s0 10 from (fun s0 hs => by obtain rfl : s0 = a1 := Option.some.inj (hs.symm.trans h22); exact Or.inr ⟨_, eg90⟩)), (show ∀ s0, q p0 0 = some s0 → UPE T g g90 s0 10 from (fun s0 hs => by obtain rfl : s0 = a1 := Option.some.inj (hs.symm.trans h22); exact ⟨_, UPS.of G14.rf eg90 h21⟩))⟩, CB.mk ht hP hD⟩, hS.F ht⟩) hS.2.2 dX10_order_39
  · obtain rfl : u44 = 0 := i_is c49 (by decide)
    refine W.eq (g2 := F0 m 7 ls [.int 0]) rfl ?_
    refine lv_if_ne (tgt := 12) hx hb dX10_order_7 (by decide) (fun c105 => ?_) (fun c105 => ?_)
    · exact absurd c105 (by decide)
    refine lv_iconst (v := (-1)) hx hb dX10_order_10 (by decide) ?_
    refine W.widen (k := 0) (n := 0) (Nat.le_of_ble_eq_true rfl) (Nat.le_of_ble_eq_true rfl) ?_
    have zim1 : ((-1) : Int32).toInt = -1 := by decide
    exact W.iret (v := (-1)) hx hb hr (fun t ht hW => ⟨⟨(((-1)), ws, g), rfl, ⟨hT, KF.rf, GJ.rf, (show ∀ s0, q p0 0 = some s0 → GQE g g s0 10 from (fun s0 _ => Or.inl rfl)), (show ∀ s0, q p0 0 = some s0 → UPE T g g s0 10 from (fun s0 _ => ⟨_, UPS.rf⟩))⟩, CB.mk ht hP hD⟩, hS.F ht⟩) hS.2.2 dX10_order_11
set_option maxHeartbeats 4000000 in
set_option maxRecDepth 100000 in
theorem x_worldS (l : Launch) (D : va_G) (Y : Nat → ClassId) (Z : Nat → Nat) (sz : Nat) (ws : va_W) (T : RT) (g : GN) (q : GQ)  (p0 : Nat) (p1 : Int32) (p2 : Int32) (p3 : Int32) (p4 : Int32) (p5 : Int32) (p6 : Int32) (hT : TW Y Z T g q ws) (ht0 : T p0 = (1, 0, 0)) (hp0 : (0 ≤ p6.toInt ∧ p6.toInt ≤ 1)) : Met l yX10_world (.code yX10_world cX10_world 9 (some .int) :: GW) ({ frames := 2, cells := 1, slots := 6, locals := 46 }) (va_Pc [.ref p0, .int p1, .int p2, .int p3, .int p4, .int p5, .int p6] (CPC D Y Z ws sz)) (QG (S := Int32 × va_W × RT × GN) (fun u => some (.int u.1)) (fun u => TLe T u.2.2.1 ∧ TW Y Z u.2.2.1 u.2.2.2 q u.2.1 ∧ KF 1 T ws u.2.1 ∧ KF 6 T ws u.2.1 ∧ GJ T 0 g u.2.2.2 ∧ (∀ s0, q p0 0 = some s0 → GQE g u.2.2.2 s0 2) ∧ (∀ s0 sr, q p0 0 = some s0 → q s0 1 = some sr → NNL g q s0 sr → ((((2 ≤ p2.toInt ∧ p2.toInt ≤ 599) ∧ (0 ≤ p3.toInt ∧ p3.toInt ≤ 599) ∧ (1 ≤ p4.toInt ∧ p4.toInt ≤ 30) ∧ p4.toInt < p2.toInt ∧ (1 ≤ p5.toInt ∧ p5.toInt ≤ 30000)) ∧ (0 ≤ p1.toInt ∧ p1.toInt < (g s0 0).toInt) ∧ (g s0 2).toInt < 40) ∧ u.1.toInt = (g s0 2).toInt ∧ UPP T g u.2.2.2 s0 2) ∨ (¬ (((2 ≤ p2.toInt ∧ p2.toInt ≤ 599) ∧ (0 ≤ p3.toInt ∧ p3.toInt ≤ 599) ∧ (1 ≤ p4.toInt ∧ p4.toInt ≤ 30) ∧ p4.toInt < p2.toInt ∧ (1 ≤ p5.toInt ∧ p5.toInt ≤ 30000)) ∧ (0 ≤ p1.toInt ∧ p1.toInt < (g s0 0).toInt) ∧ (g s0 2).toInt < 40) ∧ u.1.toInt = -1 ∧ u.2.2.2 = g))) (fun u => CB D u.2.1 (va_A ws sz)) (va_A ws sz)) 1 6 (va_A ws sz) := by
  refine Met.ofW (cc := cX10_world) (maxL := 9) (ret := (some .int)) (by decide) rfl ?_
  intro p e s m args below meth c s₁ B hml hv
  obtain ⟨rfl, ⟨hsz, hP, hKN, hD0⟩, hSZ⟩ := hv
  have hx := B.exec
  have hb := B.bytes
  have hr := B.returns
  have hts := atoms_spec (ws := .code yX10_world cX10_world 9 (some .int) :: GW) B.pre
  have hg : ∀ w ∈ GW, w.before _ s = true := fun w h => hts w (List.mem_cons_of_mem _ h)
  have hown : s.vm.findClass RX10 = some m.cls := findClass_of_methodNamed B.named
  have hlocks := B.notSynchronized
  subst hsz
  have hD := hD0.self (sz := s.heap.size)
  generalize hAe : va_A ws s.heap.size = A at hD hSZ ⊢
  have hA : ∀ q : Nat, s.heap.size ≤ q → A q := fun q h => by rw [← hAe]; exact Or.inr h
  clear hAe hD0 hts B
  have hl := lv_entry ([.ref p0, .int p1, .int p2, .int p3, .int p4, .int p5, .int p6]) (n := 9) (Nat.le_of_ble_eq_true rfl)
  rw [lg_entry_eq]
  generalize (lg_sl ([.ref p0, .int p1, .int p2, .int p3, .int p4, .int p5, .int p6]) ++ List.replicate (9 - (lg_sl ([.ref p0, .int p1, .int p2, .int p3, .int p4, .int p5, .int p6])).length) Slot.unset).toArray = ls at hl ⊢
  have hl : lv_has ls 9 [(0, .ref p0), (1, .int p1), (2, .int p2), (3, .int p3), (4, .int p4), (5, .int p5), (6, .int p6)] := hl
  refine w_start (A0 := A) hP (fun H locs hP hS => ?_)
  refine ok1 hT ht0 (fun p42 a1 a2 a3 a4 a5 x6 x7 x8 a9 a10 a11 a12 a13 a14 a15 a16 a17 x18 a19 a20 hk43 h21 h22 h23 h24 h25 h26 h27 h28 h29 h30 h31 h32 h33 h34 h35 h36 h37 h38 h39 h40 h41 => ?_)
  have hT0 := hT
  refine lv_iload_n hx hb dX10_world_0 rfl (lv_at hl 2 rfl) ?_
  refine lv_iconst (v := 2) hx hb dX10_world_1 (by decide) ?_
  refine lv_sipush (v := 599) hx hb dX10_world_2 (by decide) ?_
  have zi2 : (2 : Int32).toInt = 2 := by decide
  have zi599 : (599 : Int32).toInt = 599 := by decide
  refine cg0 (rn_S (As := [.int p2, .int 2, .int 599]) (rest := []) (x_X10_isWithin l D Y Z H.size p2 2 599) ⟨hx, hb, hml, hown, hg⟩ lk_X10_100 ⟨CP.blind, CP.at nilP hKN (nilD (A := fun _ => True))⟩ ⟨⟨rfl, rfl⟩, ⟨Nat.le_of_ble_eq_true rfl, Nat.le_of_ble_eq_true rfl⟩, ⟨(Nat.le_of_ble_eq_true rfl), (Nat.le_of_ble_eq_true rfl)⟩⟩ hl.1 rfl (Nat.le_of_ble_eq_true rfl) dX10_world_5) hP hS hA (fun u44 H locs hw45 hP hS => ?_)
  obtain ⟨hw47, hw48⟩ : (((2 : Int32).toInt ≤ p2.toInt ∧ p2.toInt ≤ (599 : Int32).toInt ∧ u44.toInt = 1) ∨ (¬ ((2 : Int32).toInt ≤ p2.toInt ∧ p2.toInt ≤ (599 : Int32).toInt) ∧ u44.toInt = 0)) ∧ (0 ≤ u44.toInt ∧ u44.toInt ≤ 1) := hw45
  refine W.eq (g2 := F0 m 8 ls [.int u44]) rfl ?_
  rcases (show u44.toInt = 1 ∨ u44.toInt = 0 by omega) with c49 | c49
  · obtain rfl : u44 = 1 := i_is c49 (by decide)
    have zi1 : (1 : Int32).toInt = 1 := by decide
    refine W.eq (g2 := F0 m 8 ls [.int 1]) rfl ?_
    refine lv_if_eq (tgt := 22) hx hb dX10_world_8 (by decide) (fun c50 => ?_) (fun c50 => ?_)
    · exact absurd c50 (by decide)
    refine lv_iload_n hx hb dX10_world_11 rfl (lv_at hl 3 rfl) ?_
    refine cg0 (rn_S (As := [.int p3]) (rest := []) (x_X10_isHour l D Y Z H.size p3) ⟨hx, hb, hml, hown, hg⟩ lk_X10_113 ⟨CP.blind, CP.at nilP hKN (nilD (A := fun _ => True))⟩ ⟨⟨rfl, rfl⟩, ⟨Nat.le_of_ble_eq_true rfl, Nat.le_of_ble_eq_true rfl⟩, ⟨(Nat.le_of_ble_eq_true rfl), (Nat.le_of_ble_eq_true rfl)⟩⟩ hl.1 rfl (Nat.le_of_ble_eq_true rfl) dX10_world_12) hP hS hA (fun u51 H locs hw52 hP hS => ?_)
    obtain ⟨hw54, hw55⟩ : ((0 ≤ p3.toInt ∧ p3.toInt ≤ 599 ∧ u51.toInt = 1) ∨ (¬ (0 ≤ p3.toInt ∧ p3.toInt ≤ 599) ∧ u51.toInt = 0)) ∧ (0 ≤ u51.toInt ∧ u51.toInt ≤ 1) := hw52
    refine W.eq (g2 := F0 m 15 ls [.int u51]) rfl ?_
    rcases (show u51.toInt = 1 ∨ u51.toInt = 0 by omega) with c56 | c56
    · obtain rfl : u51 = 1 := i_is c56 (by decide)
      refine W.eq (g2 := F0 m 15 ls [.int 1]) rfl ?_
      refine lv_if_eq (tgt := 22) hx hb dX10_world_15 (by decide) (fun c57 => ?_) (fun c57 => ?_)
      · exact absurd c57 (by decide)
      refine lv_iconst (v := 1) hx hb dX10_world_18 (by decide) ?_
      refine lv_goto (tgt := 23) hx hb dX10_world_19 (by decide) ?_
      refine lv_istore (lv' := [(7, .int 1), (0, .ref p0), (1, .int p1), (2, .int p2), (3, .int p3), (4, .int p4), (5, .int p5), (6, .int p6)]) hx hb dX10_world_23 hl (by decide) rfl (fun ls hl => ?_)
      refine lv_iload hx hb dX10_world_25 (lv_at hl 5 rfl) ?_
      refine lv_iconst (v := 1) hx hb dX10_world_27 (by decide) ?_
      refine lv_bipush (v := 30) hx hb dX10_world_28 (by decide) ?_
      have zi30 : (30 : Int32).toInt = 30 := by decide
      refine cg0 (rn_S (As := [.int p4, .int 1, .int 30]) (rest := []) (x_X10_isWithin l D Y Z H.size p4 1 30) ⟨hx, hb, hml, hown, hg⟩ lk_X10_100 ⟨CP.blind, CP.at nilP hKN (nilD (A := fun _ => True))⟩ ⟨⟨rfl, rfl⟩, ⟨Nat.le_of_ble_eq_true rfl, Nat.le_of_ble_eq_true rfl⟩, ⟨(Nat.le_of_ble_eq_true rfl), (Nat.le_of_ble_eq_true rfl)⟩⟩ hl.1 rfl (Nat.le_of_ble_eq_true rfl) dX10_world_30) hP hS hA (fun u58 H locs hw59 hP hS => ?_)
      obtain ⟨hw61, hw62⟩ : (((1 : Int32).toInt ≤ p4.toInt ∧ p4.toInt ≤ (30 : Int32).toInt ∧ u58.toInt = 1) ∨ (¬ ((1 : Int32).toInt ≤ p4.toInt ∧ p4.toInt ≤ (30 : Int32).toInt) ∧ u58.toInt = 0)) ∧ (0 ≤ u58.toInt ∧ u58.toInt ≤ 1) := hw59
      refine W.eq (g2 := F0 m 33 ls [.int u58]) rfl ?_
      rcases (show u58.toInt = 1 ∨ u58.toInt = 0 by omega) with c63 | c63
      · obtain rfl : u58 = 1 := i_is c63 (by decide)
        refine W.eq (g2 := F0 m 33 ls [.int 1]) rfl ?_
        refine lv_if_eq (tgt := 58) hx hb dX10_world_33 (by decide) (fun c64 => ?_) (fun c64 => ?_)
        · exact absurd c64 (by decide)
        refine lv_iload hx hb dX10_world_36 (lv_at hl 5 rfl) ?_
        refine lv_iload_n hx hb dX10_world_38 rfl (lv_at hl 3 rfl) ?_
        refine lv_icmp_ge (tgt := 58) hx hb dX10_world_39 (by decide) (fun c65 => ?_) (fun c65 => ?_)
        · skip
          have c65 := i_le (Eq.refl p2.toInt) (Eq.refl p4.toInt) c65
          refine lv_iconst (v := 0) hx hb dX10_world_58 (by decide) ?_
          refine lv_istore (lv' := [(8, .int 0), (7, .int 1), (0, .ref p0), (1, .int p1), (2, .int p2), (3, .int p3), (4, .int p4), (5, .int p5), (6, .int p6)]) hx hb dX10_world_59 hl (by decide) rfl (fun ls hl => ?_)
          refine lv_aload_n hx hb dX10_world_61 rfl (lv_at hl 2 rfl) ?_
          refine lv_iload_n hx hb dX10_world_62 rfl (lv_at hl 3 rfl) ?_
          refine cga (rn_V (As := [.int p1]) (rest := []) (b := p0) (x_isStarS l D Y Z H.size ws T g q p0 p1 hT ht0) ⟨hx, hb, hml, hown, hg⟩ lk_X10_137 ⟨CPC.blind, va_recv hKN.1 hP (ci := 10) (q0 := p42) rfl hk43, CPC.at hP hKN hD hSZ hS hA⟩ ⟨⟨rfl, rfl⟩, ⟨Nat.le_of_ble_eq_true rfl, Nat.le_of_ble_eq_true rfl⟩, ⟨(Nat.le_of_ble_eq_true rfl), (Nat.le_of_ble_eq_true rfl)⟩⟩ hl.1 rfl (Nat.le_of_ble_eq_true rfl) dX10_world_63) hP hD hS hA (fun u66 H locs hw67 hP hD hS => ?_)
          obtain ⟨hw69, hw70, hw71⟩ : (0 ≤ u66.toInt ∧ u66.toInt ≤ 1) ∧ (u66.toInt = 1 → (0 ≤ p1.toInt ∧ p1.toInt ≤ 11)) ∧ (∀ s0 sr, q p0 0 = some s0 → q s0 1 = some sr → NNL g q s0 sr → (u66.toInt = 1 ↔ (0 ≤ p1.toInt ∧ p1.toInt < (g s0 0).toInt))) := hw67
          refine W.eq (g2 := F0 m 66 ls [.int u66]) rfl ?_
          rcases (show u66.toInt = 1 ∨ u66.toInt = 0 by omega) with c72 | c72
          · obtain rfl : u66 = 1 := i_is c72 (by decide)
            replace hw70 := hw70 (by decide)
            refine W.eq (g2 := F0 m 66 ls [.int 1]) rfl ?_
            refine lv_if_eq (tgt := 91) hx hb dX10_world_66 (by decide) (fun c73 => ?_) (fun c73 => ?_)
            · exact absurd c73 (by decide)
            refine lv_iload hx hb dX10_world_69 (lv_at hl 1 rfl) ?_
            refine lv_if_eq (tgt := 91) hx hb dX10_world_71 (by decide) (fun c74 => ?_) (fun c74 => ?_)
            · exact absurd c74 (by decide)
            refine lv_iload hx hb dX10_world_74 (lv_at hl 0 rfl) ?_
            refine lv_if_eq (tgt := 91) hx hb dX10_world_76 (by decide) (fun c75 => ?_) (fun c75 => ?_)
            rotate_left
            · exact absurd c75 (by decide)
            refine lv_iconst (v := (-1)) hx hb dX10_world_91 (by decide) ?_
            refine W.widen (k := 1) (n := 6) (Nat.le_of_ble_eq_true rfl) (Nat.le_of_ble_eq_true rfl) ?_
            have zim1 : ((-1) : Int32).toInt = -1 := by decide
            have zi0 : (0 : Int32).toInt = 0 := by decide
            exact W.iret (v := (-1)) hx hb hr (fun t ht hW => ⟨⟨(((-1)), ws, T, g), rfl, ⟨TLe.rf, hT, KF.rf, KF.rf, GJ.rf, (show ∀ s0, q p0 0 = some s0 → GQE g g s0 2 from (fun s0 _ => Or.inl rfl)), (show ∀ s0 sr, q p0 0 = some s0 → q s0 1 = some sr → NNL g q s0 sr → ((((2 ≤ p2.toInt ∧ p2.toInt ≤ 599) ∧ (0 ≤ p3.toInt ∧ p3.toInt ≤ 599) ∧ (1 ≤ p4.toInt ∧ p4.toInt ≤ 30) ∧ p4.toInt < p2.toInt ∧ (1 ≤ p5.toInt ∧ p5.toInt ≤ 30000)) ∧ (0 ≤ p1.toInt ∧ p1.toInt < (g s0 0).toInt) ∧ (g s0 2).toInt < 40) ∧ ((-1) : Int32).toInt = (g s0 2).toInt ∧ UPP T g g s0 2) ∨ (¬ (((2 ≤ p2.toInt ∧ p2.toInt ≤ 599) ∧ (0 ≤ p3.toInt ∧ p3.toInt ≤ 599) ∧ (1 ≤ p4.toInt ∧ p4.toInt ≤ 30) ∧ p4.toInt < p2.toInt ∧ (1 ≤ p5.toInt ∧ p5.toInt ≤ 30000)) ∧ (0 ≤ p1.toInt ∧ p1.toInt < (g s0 0).toInt) ∧ (g s0 2).toInt < 40) ∧ ((-1) : Int32).toInt = -1 ∧ g = g) from (fun s0 sr hs hq hn => by obtain rfl : s0 = a1 := Option.some.inj (hs.symm.trans h22); have k9 := hw71 _ sr hs hq hn; exact Or.inr ⟨by omega, by decide, rfl⟩))⟩, CB.mk ht hP hD⟩, hS.F ht⟩) hS.2.2 dX10_world_92
          · obtain rfl : u66 = 0 := i_is c72 (by decide)
            have zi0 : (0 : Int32).toInt = 0 := by decide
            clear hw70
            refine W.eq (g2 := F0 m 66 ls [.int 0]) rfl ?_
            refine lv_if_eq (tgt := 91) hx hb dX10_world_66 (by decide) (fun c76 => ?_) (fun c76 => ?_)
            rotate_left
            · exact absurd c76 (by decide)
            refine lv_iconst (v := (-1)) hx hb dX10_world_91 (by decide) ?_
            refine W.widen (k := 1) (n := 6) (Nat.le_of_ble_eq_true rfl) (Nat.le_of_ble_eq_true rfl) ?_
            have zim1 : ((-1) : Int32).toInt = -1 := by decide
            exact W.iret (v := (-1)) hx hb hr (fun t ht hW => ⟨⟨(((-1)), ws, T, g), rfl, ⟨TLe.rf, hT, KF.rf, KF.rf, GJ.rf, (show ∀ s0, q p0 0 = some s0 → GQE g g s0 2 from (fun s0 _ => Or.inl rfl)), (show ∀ s0 sr, q p0 0 = some s0 → q s0 1 = some sr → NNL g q s0 sr → ((((2 ≤ p2.toInt ∧ p2.toInt ≤ 599) ∧ (0 ≤ p3.toInt ∧ p3.toInt ≤ 599) ∧ (1 ≤ p4.toInt ∧ p4.toInt ≤ 30) ∧ p4.toInt < p2.toInt ∧ (1 ≤ p5.toInt ∧ p5.toInt ≤ 30000)) ∧ (0 ≤ p1.toInt ∧ p1.toInt < (g s0 0).toInt) ∧ (g s0 2).toInt < 40) ∧ ((-1) : Int32).toInt = (g s0 2).toInt ∧ UPP T g g s0 2) ∨ (¬ (((2 ≤ p2.toInt ∧ p2.toInt ≤ 599) ∧ (0 ≤ p3.toInt ∧ p3.toInt ≤ 599) ∧ (1 ≤ p4.toInt ∧ p4.toInt ≤ 30) ∧ p4.toInt < p2.toInt ∧ (1 ≤ p5.toInt ∧ p5.toInt ≤ 30000)) ∧ (0 ≤ p1.toInt ∧ p1.toInt < (g s0 0).toInt) ∧ (g s0 2).toInt < 40) ∧ ((-1) : Int32).toInt = -1 ∧ g = g) from (fun s0 sr hs hq hn => by obtain rfl : s0 = a1 := Option.some.inj (hs.symm.trans h22); have k9 := hw71 _ sr hs hq hn; exact Or.inr ⟨by omega, by decide, rfl⟩))⟩, CB.mk ht hP hD⟩, hS.F ht⟩) hS.2.2 dX10_world_92
        · skip
          have c65 := i_nle (Eq.refl p2.toInt) (Eq.refl p4.toInt) c65
          refine lv_iload hx hb dX10_world_42 (lv_at hl 6 rfl) ?_
          refine lv_iconst (v := 1) hx hb dX10_world_44 (by decide) ?_
          refine lv_sipush (v := 30000) hx hb dX10_world_45 (by decide) ?_
          have zi30000 : (30000 : Int32).toInt = 30000 := by decide
          refine cg0 (rn_S (As := [.int p5, .int 1, .int 30000]) (rest := []) (x_X10_isWithin l D Y Z H.size p5 1 30000) ⟨hx, hb, hml, hown, hg⟩ lk_X10_100 ⟨CP.blind, CP.at nilP hKN (nilD (A := fun _ => True))⟩ ⟨⟨rfl, rfl⟩, ⟨Nat.le_of_ble_eq_true rfl, Nat.le_of_ble_eq_true rfl⟩, ⟨(Nat.le_of_ble_eq_true rfl), (Nat.le_of_ble_eq_true rfl)⟩⟩ hl.1 rfl (Nat.le_of_ble_eq_true rfl) dX10_world_48) hP hS hA (fun u77 H locs hw78 hP hS => ?_)
          obtain ⟨hw80, hw81⟩ : (((1 : Int32).toInt ≤ p5.toInt ∧ p5.toInt ≤ (30000 : Int32).toInt ∧ u77.toInt = 1) ∨ (¬ ((1 : Int32).toInt ≤ p5.toInt ∧ p5.toInt ≤ (30000 : Int32).toInt) ∧ u77.toInt = 0)) ∧ (0 ≤ u77.toInt ∧ u77.toInt ≤ 1) := hw78
          refine W.eq (g2 := F0 m 51 ls [.int u77]) rfl ?_
          rcases (show u77.toInt = 1 ∨ u77.toInt = 0 by omega) with c82 | c82
          · obtain rfl : u77 = 1 := i_is c82 (by decide)
            refine W.eq (g2 := F0 m 51 ls [.int 1]) rfl ?_
            refine lv_if_eq (tgt := 58) hx hb dX10_world_51 (by decide) (fun c83 => ?_) (fun c83 => ?_)
            · exact absurd c83 (by decide)
            refine lv_iconst (v := 1) hx hb dX10_world_54 (by decide) ?_
            refine lv_goto (tgt := 59) hx hb dX10_world_55 (by decide) ?_
            refine lv_istore (lv' := [(8, .int 1), (7, .int 1), (0, .ref p0), (1, .int p1), (2, .int p2), (3, .int p3), (4, .int p4), (5, .int p5), (6, .int p6)]) hx hb dX10_world_59 hl (by decide) rfl (fun ls hl => ?_)
            refine lv_aload_n hx hb dX10_world_61 rfl (lv_at hl 2 rfl) ?_
            refine lv_iload_n hx hb dX10_world_62 rfl (lv_at hl 3 rfl) ?_
            refine cga (rn_V (As := [.int p1]) (rest := []) (b := p0) (x_isStarS l D Y Z H.size ws T g q p0 p1 hT ht0) ⟨hx, hb, hml, hown, hg⟩ lk_X10_137 ⟨CPC.blind, va_recv hKN.1 hP (ci := 10) (q0 := p42) rfl hk43, CPC.at hP hKN hD hSZ hS hA⟩ ⟨⟨rfl, rfl⟩, ⟨Nat.le_of_ble_eq_true rfl, Nat.le_of_ble_eq_true rfl⟩, ⟨(Nat.le_of_ble_eq_true rfl), (Nat.le_of_ble_eq_true rfl)⟩⟩ hl.1 rfl (Nat.le_of_ble_eq_true rfl) dX10_world_63) hP hD hS hA (fun u84 H locs hw85 hP hD hS => ?_)
            obtain ⟨hw87, hw88, hw89⟩ : (0 ≤ u84.toInt ∧ u84.toInt ≤ 1) ∧ (u84.toInt = 1 → (0 ≤ p1.toInt ∧ p1.toInt ≤ 11)) ∧ (∀ s0 sr, q p0 0 = some s0 → q s0 1 = some sr → NNL g q s0 sr → (u84.toInt = 1 ↔ (0 ≤ p1.toInt ∧ p1.toInt < (g s0 0).toInt))) := hw85
            refine W.eq (g2 := F0 m 66 ls [.int u84]) rfl ?_
            rcases (show u84.toInt = 1 ∨ u84.toInt = 0 by omega) with c90 | c90
            · obtain rfl : u84 = 1 := i_is c90 (by decide)
              replace hw88 := hw88 (by decide)
              refine W.eq (g2 := F0 m 66 ls [.int 1]) rfl ?_
              refine lv_if_eq (tgt := 91) hx hb dX10_world_66 (by decide) (fun c91 => ?_) (fun c91 => ?_)
              · exact absurd c91 (by decide)
              refine lv_iload hx hb dX10_world_69 (lv_at hl 1 rfl) ?_
              refine lv_if_eq (tgt := 91) hx hb dX10_world_71 (by decide) (fun c92 => ?_) (fun c92 => ?_)
              · exact absurd c92 (by decide)
              refine lv_iload hx hb dX10_world_74 (lv_at hl 0 rfl) ?_
              refine lv_if_eq (tgt := 91) hx hb dX10_world_76 (by decide) (fun c93 => ?_) (fun c93 => ?_)
              · exact absurd c93 (by decide)
              refine lv_aload_n hx hb dX10_world_79 rfl (lv_at hl 2 rfl) ?_
              refine va_get (D := D) (ci := 10) (v := .ref a1) (C := RX10) (T := TX10) (N := 20) hx hb hg inGX10 hown hKN.1 hP p42 hk43 rfl 0 (by decide) (hg _ kw_349) (fun _ h9 => h9) rfl dX10_world_80 ?_
              refine ok2 hT h21 (fun p128 x94 a95 x96 a97 x98 a99 a100 x101 a102 a103 x104 a105 x106 hk129 h107 h108 h109 h110 h111 h112 h113 h114 h115 h116 h117 h118 h119 h120 h121 h122 h123 h124 h125 h126 h127 => ?_)
              refine va_getN (D := D) (ci := 6) (v := .int x96) (C := RX6) (T := TX6) (N := 13) hx hb hg inGX6 hown hKN.1 hP p128 hk129 rfl 2 (by decide) (va_Nw.use rfl (hKN.2.1 _ kn_44 rfl)) (fun _ h9 => h9) rfl dX10_world_83 ?_
              refine lv_bipush (v := 40) hx hb dX10_world_86 (by decide) ?_
              refine lv_icmp_lt (tgt := 93) hx hb dX10_world_88 (by decide) (fun c130 => ?_) (fun c130 => ?_)
              · skip
                have c130 := i_lt (Eq.refl x96.toInt) (show (40 : Int32).toInt = 40 by decide) c130
                refine lv_aload_n hx hb dX10_world_93 rfl (lv_at hl 2 rfl) ?_
                refine va_get (D := D) (ci := 10) (v := .ref a1) (C := RX10) (T := TX10) (N := 20) hx hb hg inGX10 hown hKN.1 hP p42 hk43 rfl 0 (by decide) (hg _ kw_349) (fun _ h9 => h9) rfl dX10_world_94 ?_
                refine va_getN (D := D) (ci := 6) (v := .ref a97) (C := RX6) (T := TX6) (N := 13) hx hb hg inGX6 hown hKN.1 hP p128 hk129 rfl 3 (by decide) (va_Nw.use rfl (hKN.2.1 _ kn_46 rfl)) (fun _ h9 => h9) rfl dX10_world_97 ?_
                refine lv_aload_n hx hb dX10_world_100 rfl (lv_at hl 2 rfl) ?_
                refine va_get (D := D) (ci := 10) (v := .ref a1) (C := RX10) (T := TX10) (N := 20) hx hb hg inGX10 hown hKN.1 hP p42 hk43 rfl 0 (by decide) (hg _ kw_349) (fun _ h9 => h9) rfl dX10_world_101 ?_
                refine va_getN (D := D) (ci := 6) (v := .int x96) (C := RX6) (T := TX6) (N := 13) hx hb hg inGX6 hown hKN.1 hP p128 hk129 rfl 2 (by decide) (va_Nw.use rfl (hKN.2.1 _ kn_44 rfl)) (fun _ h9 => h9) rfl dX10_world_104 ?_
                refine va_new (ci := 9) (fs := [.int 0, .int 0, .int 0, .int 0, .int 0, .int 0]) (C := RX9) (T := TX9) (N := 6) hx hb hg inGX9 tyX9 tyX9_ok hown (hg _ kw_562) (hg _ kw_563) (hg _ kw_15) hKN.1 hP hD hS hA rfl (fun j hj => by rcases (show j = 0 ∨ j = 1 ∨ j = 2 ∨ j = 3 ∨ j = 4 ∨ j = 5 by omega) with rfl | rfl | rfl | rfl | rfl | rfl <;> rfl) (Nat.le_of_ble_eq_true rfl) (Nat.le_of_ble_eq_true rfl) dX10_world_107 (fun b131 H hP hD hS => ?_)
                refine W.widen (k := 1) (n := 6) (Nat.le_of_ble_eq_true rfl) (Nat.le_of_ble_eq_true rfl) ?_
                refine lv_dup hx hb dX10_world_110 rfl ?_
                refine lv_iload_n hx hb dX10_world_111 rfl (lv_at hl 3 rfl) ?_
                refine lv_iload_n hx hb dX10_world_112 rfl (lv_at hl 4 rfl) ?_
                refine lv_iload_n hx hb dX10_world_113 rfl (lv_at hl 5 rfl) ?_
                refine lv_iload hx hb dX10_world_114 (lv_at hl 6 rfl) ?_
                refine lv_iload hx hb dX10_world_116 (lv_at hl 7 rfl) ?_
                refine lv_iload hx hb dX10_world_118 (lv_at hl 8 rfl) ?_
                have hP132 : va_P D vwCl [(b131, .inr (9, [.int 0, .int 0, .int 0, .int 0, .int 0, .int 0]))] H := va_P.last hP
                have hD133 : va_D A [(b131, .inr (9, [.int 0, .int 0, .int 0, .int 0, .int 0, .int 0]))] := va_D.last hD
                refine cgn (rn_NI (As := [.int p1, .int p2, .int p3, .int p4, .int p5, .int p6]) (rest := [.ref b131, .int x96, .ref a97]) (b := b131) (c_X9 l D Y Z H.size b131 p1 p2 p3 p4 p5 p6 (show (0 ≤ p6.toInt ∧ p6.toInt ≤ 1) by omega)) ⟨hx, hb, hml, hown, hg⟩ hKN lk_X10_159 ⟨CP.blind, CP.at hP132 hKN hD133⟩ ⟨⟨rfl, rfl⟩, ⟨Nat.le_of_ble_eq_true rfl, Nat.le_of_ble_eq_true rfl⟩, ⟨(Nat.le_of_ble_eq_true rfl), (Nat.le_of_ble_eq_true rfl)⟩⟩ hl.1 rfl (Nat.le_of_ble_eq_true rfl) dX10_world_120) hP hD hS hA (fun u134 H locs hw135 hP hD hS => ?_)
                refine W.eq (g2 := F0 m 123 ls [.ref b131, .int x96, .ref a97]) rfl ?_
                obtain ⟨w137, T136, hP, hD, hT, le138, ht139, ex140⟩ := nw_X9 ⟨by omega, by omega⟩ hT hP hD
                have ke141 : KF 1 T ws w137 := KF.tr KF.rf (KF.ex ex140.1)
                have ke142 : KF 6 T ws w137 := KF.tr KF.rf (KF.ex ex140.1)
                have hk143 := ex140.1 _ _ hk43
                have hk144 := ex140.1 _ _ hk129
                refine tr_st18 hx hb hKN hP hD hS hT (le138.up h113) ht139 (vp_in_iff.mpr ⟨by omega, by omega⟩) dX10_world_123 (fun w145 H locs hP hD hS hT kp146 => ?_)
                have ke147 : KF 1 T ws w145 := KF.tr ke141 (KF.le (by decide) le138 (KF.kp kp146 (le138.up h113) (by decide)))
                have ke148 : KF 6 T ws w145 := KF.tr ke142 (KF.le (by decide) le138 (KF.kp kp146 (le138.up h113) (by decide)))
                have hk149 := kp146 _ _ hk143 (rne (le138.up ht0) (le138.up h113) (by decide))
                have hk150 := kp146 _ _ hk144 (rne (le138.up h21) (le138.up h113) (by decide))
                refine lv_aload_n hx hb dX10_world_124 rfl (lv_at hl 2 rfl) ?_
                refine va_get (D := D) (ci := 10) (v := .ref a1) (C := RX10) (T := TX10) (N := 20) hx hb hg inGX10 hown hKN.1 hP p42 hk149 rfl 0 (by decide) (hg _ kw_349) (fun _ h9 => h9) rfl dX10_world_125 ?_
                refine lv_dup hx hb dX10_world_128 rfl ?_
                refine va_getN (D := D) (ci := 6) (v := .int x96) (C := RX6) (T := TX6) (N := 13) hx hb hg inGX6 hown hKN.1 hP p128 hk150 rfl 2 (by decide) (va_Nw.use rfl (hKN.2.1 _ kn_44 rfl)) (fun _ h9 => h9) rfl dX10_world_129 ?_
                refine lv_iconst (v := 1) hx hb dX10_world_132 (by decide) ?_
                refine lv_iadd hx hb dX10_world_133 ?_
                refine lv_topi (fun v151 ev151 => ?_)
                have hv151 := i_add (Eq.refl x96.toInt) (show (1 : Int32).toInt = 1 by decide) ev151 (by omega) (by omega)
                refine va_putN (D := D) (ci := 6) (v := .int v151) (ty := .int) (C := RX6) (T := TX6) (N := 13) hx hb hg inGX6 tyX6 tyX6_ok nmX6 hown hKN.1 hP hD hS p128 hk150 rfl 2 (by decide) (va_Nw.use rfl (hKN.2.1 _ kn_44 rfl)) (fun _ h9 => h9) rfl (by decide +kernel) rfl rfl (Nat.le_of_ble_eq_true rfl) dX10_world_134 (fun H locs hP hD2 hS => ?_)
                obtain ⟨w152, g155, eg155, hP, hD, hT, hk154, kp153⟩ : ∃ wz gz, gz = gset g a1 2 v151 ∧ va_P D vwCl wz H ∧ va_D A wz ∧ TW Y Z T136 gz q wz ∧ wz[p128]? = some (a1, .inr (6, (.int x94 :: .ref a95 :: .int v151 :: .ref a97 :: .int x98 :: .ref a99 :: .ref a100 :: .int x101 :: .ref a102 :: .ref a103 :: .int x104 :: .ref a105 :: .int x106 :: []))) ∧ Kp a1 w145 wz := ⟨_, _, rfl, hP, hD2, tw_sg (k := 2) (g2 := gset g a1 2 v151) (q2 := q) hT hD hk150 (le138.up h21) (fun _ hc => gset_ne hc) (fun _ _ => rfl) (show Sh2 Y Z T136 ((gset g a1 2 v151) a1) (q a1) 0 0 _ from ⟨x94, a95, v151, a97, x98, a99, a100, x101, a102, a103, x104, a105, x106, rfl, by omega, ((gs_ne (by decide)).trans h108), (le138.up h109), h110, by omega, gs_eq, (le138.up h113), by omega, ((gs_ne (by decide)).trans h115), (le138.up h116), h117, (le138.up h118), h119, by omega, ((gs_ne (by decide)).trans h121), (le138.up h122), (le138.up h123), by omega, ((gs_ne (by decide)).trans h125), (le138.up h126), by omega⟩), sw_eq hk150, sw_kp hk150⟩
                have hg156 : g155 a1 0 = x94 := by rw [eg155]; exact ((gs_ne (by decide)).trans h108)
                have hg157 : g155 a1 2 = v151 := by rw [eg155]; exact gs_eq
                have hg158 : g155 a1 4 = x98 := by rw [eg155]; exact ((gs_ne (by decide)).trans h115)
                have hg159 : g155 a1 7 = x101 := by rw [eg155]; exact ((gs_ne (by decide)).trans h121)
                have hg160 : g155 a1 10 = x104 := by rw [eg155]; exact ((gs_ne (by decide)).trans h125)
                have gj161 : GJ T 0 g g155 := GJ.tr GJ.rf (GJ.le le138 (GJ.st eg155 (le138.up h21)))
                have ke162 : KF 1 T ws w152 := KF.tr ke147 (KF.le (by decide) le138 (KF.kp kp153 (le138.up h21) (by decide)))
                have ke163 : KF 6 T ws w152 := KF.tr ke148 (KF.le (by decide) le138 (KF.kp kp153 (le138.up h21) (by decide)))
                have hk164 := kp153 _ _ hk149 (rne (le138.up ht0) (le138.up h21) (by decide))
                refine lv_aload_n hx hb dX10_world_137 rfl (lv_at hl 2 rfl) ?_
                refine va_get (D := D) (ci := 10) (v := .ref a1) (C := RX10) (T := TX10) (N := 20) hx hb hg inGX10 hown hKN.1 hP p42 hk164 rfl 0 (by decide) (hg _ kw_349) (fun _ h9 => h9) rfl dX10_world_138 ?_
                refine va_getN (D := D) (ci := 6) (v := .int v151) (C := RX6) (T := TX6) (N := 13) hx hb hg inGX6 hown hKN.1 hP p128 hk154 rfl 2 (by decide) (va_Nw.use rfl (hKN.2.1 _ kn_44 rfl)) (fun _ h9 => h9) rfl dX10_world_141 ?_
                refine lv_iconst (v := 1) hx hb dX10_world_144 (by decide) ?_
                refine lv_isub hx hb dX10_world_145 ?_
                refine lv_topi (fun v165 ev165 => ?_)
                have hv165 := i_sub (Eq.refl v151.toInt) (show (1 : Int32).toInt = 1 by decide) ev165 (by omega) (by omega)
                refine W.widen (k := 1) (n := 6) (Nat.le_of_ble_eq_true rfl) (Nat.le_of_ble_eq_true rfl) ?_
                exact W.iret (v := v165) hx hb hr (fun t ht hW => ⟨⟨(v165, w152, T136, g155), rfl, ⟨le138, hT, ke162, ke163, gj161, (show ∀ s0, q p0 0 = some s0 → GQE g g155 s0 2 from (fun s0 hs => by obtain rfl : s0 = a1 := Option.some.inj (hs.symm.trans h22); exact Or.inr ⟨_, eg155⟩)), (show ∀ s0 sr, q p0 0 = some s0 → q s0 1 = some sr → NNL g q s0 sr → ((((2 ≤ p2.toInt ∧ p2.toInt ≤ 599) ∧ (0 ≤ p3.toInt ∧ p3.toInt ≤ 599) ∧ (1 ≤ p4.toInt ∧ p4.toInt ≤ 30) ∧ p4.toInt < p2.toInt ∧ (1 ≤ p5.toInt ∧ p5.toInt ≤ 30000)) ∧ (0 ≤ p1.toInt ∧ p1.toInt < (g s0 0).toInt) ∧ (g s0 2).toInt < 40) ∧ v165.toInt = (g s0 2).toInt ∧ UPP T g g155 s0 2) ∨ (¬ (((2 ≤ p2.toInt ∧ p2.toInt ≤ 599) ∧ (0 ≤ p3.toInt ∧ p3.toInt ≤ 599) ∧ (1 ≤ p4.toInt ∧ p4.toInt ≤ 30) ∧ p4.toInt < p2.toInt ∧ (1 ≤ p5.toInt ∧ p5.toInt ≤ 30000)) ∧ (0 ≤ p1.toInt ∧ p1.toInt < (g s0 0).toInt) ∧ (g s0 2).toInt < 40) ∧ v165.toInt = -1 ∧ g155 = g) from (fun s0 sr hs hq hn => by obtain rfl : s0 = a1 := Option.some.inj (hs.symm.trans h22); have k9 := hw89 _ sr hs hq hn; have c9 := congrArg Int32.toInt h112; exact Or.inl ⟨by omega, by omega, (⟨v151, by omega, UPS.of G14.rf eg155 h21⟩ : UPP _ _ _ _ _)⟩))⟩, CB.mk ht hP hD⟩, hS.F ht⟩) hS.2.2 dX10_world_146
              · skip
                have c130 := i_nlt (Eq.refl x96.toInt) (show (40 : Int32).toInt = 40 by decide) c130
                refine lv_iconst (v := (-1)) hx hb dX10_world_91 (by decide) ?_
                refine W.widen (k := 1) (n := 6) (Nat.le_of_ble_eq_true rfl) (Nat.le_of_ble_eq_true rfl) ?_
                have zim1 : ((-1) : Int32).toInt = -1 := by decide
                exact W.iret (v := (-1)) hx hb hr (fun t ht hW => ⟨⟨(((-1)), ws, T, g), rfl, ⟨TLe.rf, hT, KF.rf, KF.rf, GJ.rf, (show ∀ s0, q p0 0 = some s0 → GQE g g s0 2 from (fun s0 _ => Or.inl rfl)), (show ∀ s0 sr, q p0 0 = some s0 → q s0 1 = some sr → NNL g q s0 sr → ((((2 ≤ p2.toInt ∧ p2.toInt ≤ 599) ∧ (0 ≤ p3.toInt ∧ p3.toInt ≤ 599) ∧ (1 ≤ p4.toInt ∧ p4.toInt ≤ 30) ∧ p4.toInt < p2.toInt ∧ (1 ≤ p5.toInt ∧ p5.toInt ≤ 30000)) ∧ (0 ≤ p1.toInt ∧ p1.toInt < (g s0 0).toInt) ∧ (g s0 2).toInt < 40) ∧ ((-1) : Int32).toInt = (g s0 2).toInt ∧ UPP T g g s0 2) ∨ (¬ (((2 ≤ p2.toInt ∧ p2.toInt ≤ 599) ∧ (0 ≤ p3.toInt ∧ p3.toInt ≤ 599) ∧ (1 ≤ p4.toInt ∧ p4.toInt ≤ 30) ∧ p4.toInt < p2.toInt ∧ (1 ≤ p5.toInt ∧ p5.toInt ≤ 30000)) ∧ (0 ≤ p1.toInt ∧ p1.toInt < (g s0 0).toInt) ∧ (g s0 2).toInt < 40) ∧ ((-1) : Int32).toInt = -1 ∧ g = g) from (fun s0 sr hs hq hn => by obtain rfl : s0 = a1 := Option.some.inj (hs.symm.trans h22); have k9 := hw89 _ sr hs hq hn; have c9 := congrArg Int32.toInt h112; exact Or.inr ⟨by omega, by decide, rfl⟩))⟩, CB.mk ht hP hD⟩, hS.F ht⟩) hS.2.2 dX10_world_92
            · obtain rfl : u84 = 0 := i_is c90 (by decide)
              have zi0 : (0 : Int32).toInt = 0 := by decide
              clear hw88
              refine W.eq (g2 := F0 m 66 ls [.int 0]) rfl ?_
              refine lv_if_eq (tgt := 91) hx hb dX10_world_66 (by decide) (fun c166 => ?_) (fun c166 => ?_)
              rotate_left
              · exact absurd c166 (by decide)
              refine lv_iconst (v := (-1)) hx hb dX10_world_91 (by decide) ?_
              refine W.widen (k := 1) (n := 6) (Nat.le_of_ble_eq_true rfl) (Nat.le_of_ble_eq_true rfl) ?_
              have zim1 : ((-1) : Int32).toInt = -1 := by decide
              exact W.iret (v := (-1)) hx hb hr (fun t ht hW => ⟨⟨(((-1)), ws, T, g), rfl, ⟨TLe.rf, hT, KF.rf, KF.rf, GJ.rf, (show ∀ s0, q p0 0 = some s0 → GQE g g s0 2 from (fun s0 _ => Or.inl rfl)), (show ∀ s0 sr, q p0 0 = some s0 → q s0 1 = some sr → NNL g q s0 sr → ((((2 ≤ p2.toInt ∧ p2.toInt ≤ 599) ∧ (0 ≤ p3.toInt ∧ p3.toInt ≤ 599) ∧ (1 ≤ p4.toInt ∧ p4.toInt ≤ 30) ∧ p4.toInt < p2.toInt ∧ (1 ≤ p5.toInt ∧ p5.toInt ≤ 30000)) ∧ (0 ≤ p1.toInt ∧ p1.toInt < (g s0 0).toInt) ∧ (g s0 2).toInt < 40) ∧ ((-1) : Int32).toInt = (g s0 2).toInt ∧ UPP T g g s0 2) ∨ (¬ (((2 ≤ p2.toInt ∧ p2.toInt ≤ 599) ∧ (0 ≤ p3.toInt ∧ p3.toInt ≤ 599) ∧ (1 ≤ p4.toInt ∧ p4.toInt ≤ 30) ∧ p4.toInt < p2.toInt ∧ (1 ≤ p5.toInt ∧ p5.toInt ≤ 30000)) ∧ (0 ≤ p1.toInt ∧ p1.toInt < (g s0 0).toInt) ∧ (g s0 2).toInt < 40) ∧ ((-1) : Int32).toInt = -1 ∧ g = g) from (fun s0 sr hs hq hn => by obtain rfl : s0 = a1 := Option.some.inj (hs.symm.trans h22); have k9 := hw89 _ sr hs hq hn; exact Or.inr ⟨by omega, by decide, rfl⟩))⟩, CB.mk ht hP hD⟩, hS.F ht⟩) hS.2.2 dX10_world_92
          · obtain rfl : u77 = 0 := i_is c82 (by decide)
            have zi0 : (0 : Int32).toInt = 0 := by decide
            refine W.eq (g2 := F0 m 51 ls [.int 0]) rfl ?_
            refine lv_if_eq (tgt := 58) hx hb dX10_world_51 (by decide) (fun c167 => ?_) (fun c167 => ?_)
            rotate_left
            · exact absurd c167 (by decide)
            refine lv_iconst (v := 0) hx hb dX10_world_58 (by decide) ?_
            refine lv_istore (lv' := [(8, .int 0), (7, .int 1), (0, .ref p0), (1, .int p1), (2, .int p2), (3, .int p3), (4, .int p4), (5, .int p5), (6, .int p6)]) hx hb dX10_world_59 hl (by decide) rfl (fun ls hl => ?_)
            refine lv_aload_n hx hb dX10_world_61 rfl (lv_at hl 2 rfl) ?_
            refine lv_iload_n hx hb dX10_world_62 rfl (lv_at hl 3 rfl) ?_
            refine cga (rn_V (As := [.int p1]) (rest := []) (b := p0) (x_isStarS l D Y Z H.size ws T g q p0 p1 hT ht0) ⟨hx, hb, hml, hown, hg⟩ lk_X10_137 ⟨CPC.blind, va_recv hKN.1 hP (ci := 10) (q0 := p42) rfl hk43, CPC.at hP hKN hD hSZ hS hA⟩ ⟨⟨rfl, rfl⟩, ⟨Nat.le_of_ble_eq_true rfl, Nat.le_of_ble_eq_true rfl⟩, ⟨(Nat.le_of_ble_eq_true rfl), (Nat.le_of_ble_eq_true rfl)⟩⟩ hl.1 rfl (Nat.le_of_ble_eq_true rfl) dX10_world_63) hP hD hS hA (fun u168 H locs hw169 hP hD hS => ?_)
            obtain ⟨hw171, hw172, hw173⟩ : (0 ≤ u168.toInt ∧ u168.toInt ≤ 1) ∧ (u168.toInt = 1 → (0 ≤ p1.toInt ∧ p1.toInt ≤ 11)) ∧ (∀ s0 sr, q p0 0 = some s0 → q s0 1 = some sr → NNL g q s0 sr → (u168.toInt = 1 ↔ (0 ≤ p1.toInt ∧ p1.toInt < (g s0 0).toInt))) := hw169
            refine W.eq (g2 := F0 m 66 ls [.int u168]) rfl ?_
            rcases (show u168.toInt = 1 ∨ u168.toInt = 0 by omega) with c174 | c174
            · obtain rfl : u168 = 1 := i_is c174 (by decide)
              replace hw172 := hw172 (by decide)
              refine W.eq (g2 := F0 m 66 ls [.int 1]) rfl ?_
              refine lv_if_eq (tgt := 91) hx hb dX10_world_66 (by decide) (fun c175 => ?_) (fun c175 => ?_)
              · exact absurd c175 (by decide)
              refine lv_iload hx hb dX10_world_69 (lv_at hl 1 rfl) ?_
              refine lv_if_eq (tgt := 91) hx hb dX10_world_71 (by decide) (fun c176 => ?_) (fun c176 => ?_)
              · exact absurd c176 (by decide)
              refine lv_iload hx hb dX10_world_74 (lv_at hl 0 rfl) ?_
              refine lv_if_eq (tgt := 91) hx hb dX10_world_76 (by decide) (fun c177 => ?_) (fun c177 => ?_)
              rotate_left
              · exact absurd c177 (by decide)
              refine lv_iconst (v := (-1)) hx hb dX10_world_91 (by decide) ?_
              refine W.widen (k := 1) (n := 6) (Nat.le_of_ble_eq_true rfl) (Nat.le_of_ble_eq_true rfl) ?_
              have zim1 : ((-1) : Int32).toInt = -1 := by decide
              exact W.iret (v := (-1)) hx hb hr (fun t ht hW => ⟨⟨(((-1)), ws, T, g), rfl, ⟨TLe.rf, hT, KF.rf, KF.rf, GJ.rf, (show ∀ s0, q p0 0 = some s0 → GQE g g s0 2 from (fun s0 _ => Or.inl rfl)), (show ∀ s0 sr, q p0 0 = some s0 → q s0 1 = some sr → NNL g q s0 sr → ((((2 ≤ p2.toInt ∧ p2.toInt ≤ 599) ∧ (0 ≤ p3.toInt ∧ p3.toInt ≤ 599) ∧ (1 ≤ p4.toInt ∧ p4.toInt ≤ 30) ∧ p4.toInt < p2.toInt ∧ (1 ≤ p5.toInt ∧ p5.toInt ≤ 30000)) ∧ (0 ≤ p1.toInt ∧ p1.toInt < (g s0 0).toInt) ∧ (g s0 2).toInt < 40) ∧ ((-1) : Int32).toInt = (g s0 2).toInt ∧ UPP T g g s0 2) ∨ (¬ (((2 ≤ p2.toInt ∧ p2.toInt ≤ 599) ∧ (0 ≤ p3.toInt ∧ p3.toInt ≤ 599) ∧ (1 ≤ p4.toInt ∧ p4.toInt ≤ 30) ∧ p4.toInt < p2.toInt ∧ (1 ≤ p5.toInt ∧ p5.toInt ≤ 30000)) ∧ (0 ≤ p1.toInt ∧ p1.toInt < (g s0 0).toInt) ∧ (g s0 2).toInt < 40) ∧ ((-1) : Int32).toInt = -1 ∧ g = g) from (fun s0 sr hs hq hn => by obtain rfl : s0 = a1 := Option.some.inj (hs.symm.trans h22); have k9 := hw173 _ sr hs hq hn; exact Or.inr ⟨by omega, by decide, rfl⟩))⟩, CB.mk ht hP hD⟩, hS.F ht⟩) hS.2.2 dX10_world_92
            · obtain rfl : u168 = 0 := i_is c174 (by decide)
              clear hw172
              refine W.eq (g2 := F0 m 66 ls [.int 0]) rfl ?_
              refine lv_if_eq (tgt := 91) hx hb dX10_world_66 (by decide) (fun c178 => ?_) (fun c178 => ?_)
              rotate_left
              · exact absurd c178 (by decide)
              refine lv_iconst (v := (-1)) hx hb dX10_world_91 (by decide) ?_
              refine W.widen (k := 1) (n := 6) (Nat.le_of_ble_eq_true rfl) (Nat.le_of_ble_eq_true rfl) ?_
              have zim1 : ((-1) : Int32).toInt = -1 := by decide
              exact W.iret (v := (-1)) hx hb hr (fun t ht hW => ⟨⟨(((-1)), ws, T, g), rfl, ⟨TLe.rf, hT, KF.rf, KF.rf, GJ.rf, (show ∀ s0, q p0 0 = some s0 → GQE g g s0 2 from (fun s0 _ => Or.inl rfl)), (show ∀ s0 sr, q p0 0 = some s0 → q s0 1 = some sr → NNL g q s0 sr → ((((2 ≤ p2.toInt ∧ p2.toInt ≤ 599) ∧ (0 ≤ p3.toInt ∧ p3.toInt ≤ 599) ∧ (1 ≤ p4.toInt ∧ p4.toInt ≤ 30) ∧ p4.toInt < p2.toInt ∧ (1 ≤ p5.toInt ∧ p5.toInt ≤ 30000)) ∧ (0 ≤ p1.toInt ∧ p1.toInt < (g s0 0).toInt) ∧ (g s0 2).toInt < 40) ∧ ((-1) : Int32).toInt = (g s0 2).toInt ∧ UPP T g g s0 2) ∨ (¬ (((2 ≤ p2.toInt ∧ p2.toInt ≤ 599) ∧ (0 ≤ p3.toInt ∧ p3.toInt ≤ 599) ∧ (1 ≤ p4.toInt ∧ p4.toInt ≤ 30) ∧ p4.toInt < p2.toInt ∧ (1 ≤ p5.toInt ∧ p5.toInt ≤ 30000)) ∧ (0 ≤ p1.toInt ∧ p1.toInt < (g s0 0).toInt) ∧ (g s0 2).toInt < 40) ∧ ((-1) : Int32).toInt = -1 ∧ g = g) from (fun s0 sr hs hq hn => by obtain rfl : s0 = a1 := Option.some.inj (hs.symm.trans h22); have k9 := hw173 _ sr hs hq hn; exact Or.inr ⟨by omega, by decide, rfl⟩))⟩, CB.mk ht hP hD⟩, hS.F ht⟩) hS.2.2 dX10_world_92
      · obtain rfl : u58 = 0 := i_is c63 (by decide)
        have zi0 : (0 : Int32).toInt = 0 := by decide
        refine W.eq (g2 := F0 m 33 ls [.int 0]) rfl ?_
        refine lv_if_eq (tgt := 58) hx hb dX10_world_33 (by decide) (fun c179 => ?_) (fun c179 => ?_)
        rotate_left
        · exact absurd c179 (by decide)
        refine lv_iconst (v := 0) hx hb dX10_world_58 (by decide) ?_
        refine lv_istore (lv' := [(8, .int 0), (7, .int 1), (0, .ref p0), (1, .int p1), (2, .int p2), (3, .int p3), (4, .int p4), (5, .int p5), (6, .int p6)]) hx hb dX10_world_59 hl (by decide) rfl (fun ls hl => ?_)
        refine lv_aload_n hx hb dX10_world_61 rfl (lv_at hl 2 rfl) ?_
        refine lv_iload_n hx hb dX10_world_62 rfl (lv_at hl 3 rfl) ?_
        refine cga (rn_V (As := [.int p1]) (rest := []) (b := p0) (x_isStarS l D Y Z H.size ws T g q p0 p1 hT ht0) ⟨hx, hb, hml, hown, hg⟩ lk_X10_137 ⟨CPC.blind, va_recv hKN.1 hP (ci := 10) (q0 := p42) rfl hk43, CPC.at hP hKN hD hSZ hS hA⟩ ⟨⟨rfl, rfl⟩, ⟨Nat.le_of_ble_eq_true rfl, Nat.le_of_ble_eq_true rfl⟩, ⟨(Nat.le_of_ble_eq_true rfl), (Nat.le_of_ble_eq_true rfl)⟩⟩ hl.1 rfl (Nat.le_of_ble_eq_true rfl) dX10_world_63) hP hD hS hA (fun u180 H locs hw181 hP hD hS => ?_)
        obtain ⟨hw183, hw184, hw185⟩ : (0 ≤ u180.toInt ∧ u180.toInt ≤ 1) ∧ (u180.toInt = 1 → (0 ≤ p1.toInt ∧ p1.toInt ≤ 11)) ∧ (∀ s0 sr, q p0 0 = some s0 → q s0 1 = some sr → NNL g q s0 sr → (u180.toInt = 1 ↔ (0 ≤ p1.toInt ∧ p1.toInt < (g s0 0).toInt))) := hw181
        refine W.eq (g2 := F0 m 66 ls [.int u180]) rfl ?_
        rcases (show u180.toInt = 1 ∨ u180.toInt = 0 by omega) with c186 | c186
        · obtain rfl : u180 = 1 := i_is c186 (by decide)
          replace hw184 := hw184 (by decide)
          refine W.eq (g2 := F0 m 66 ls [.int 1]) rfl ?_
          refine lv_if_eq (tgt := 91) hx hb dX10_world_66 (by decide) (fun c187 => ?_) (fun c187 => ?_)
          · exact absurd c187 (by decide)
          refine lv_iload hx hb dX10_world_69 (lv_at hl 1 rfl) ?_
          refine lv_if_eq (tgt := 91) hx hb dX10_world_71 (by decide) (fun c188 => ?_) (fun c188 => ?_)
          · exact absurd c188 (by decide)
          refine lv_iload hx hb dX10_world_74 (lv_at hl 0 rfl) ?_
          refine lv_if_eq (tgt := 91) hx hb dX10_world_76 (by decide) (fun c189 => ?_) (fun c189 => ?_)
          rotate_left
          · exact absurd c189 (by decide)
          refine lv_iconst (v := (-1)) hx hb dX10_world_91 (by decide) ?_
          refine W.widen (k := 1) (n := 6) (Nat.le_of_ble_eq_true rfl) (Nat.le_of_ble_eq_true rfl) ?_
          have zim1 : ((-1) : Int32).toInt = -1 := by decide
          exact W.iret (v := (-1)) hx hb hr (fun t ht hW => ⟨⟨(((-1)), ws, T, g), rfl, ⟨TLe.rf, hT, KF.rf, KF.rf, GJ.rf, (show ∀ s0, q p0 0 = some s0 → GQE g g s0 2 from (fun s0 _ => Or.inl rfl)), (show ∀ s0 sr, q p0 0 = some s0 → q s0 1 = some sr → NNL g q s0 sr → ((((2 ≤ p2.toInt ∧ p2.toInt ≤ 599) ∧ (0 ≤ p3.toInt ∧ p3.toInt ≤ 599) ∧ (1 ≤ p4.toInt ∧ p4.toInt ≤ 30) ∧ p4.toInt < p2.toInt ∧ (1 ≤ p5.toInt ∧ p5.toInt ≤ 30000)) ∧ (0 ≤ p1.toInt ∧ p1.toInt < (g s0 0).toInt) ∧ (g s0 2).toInt < 40) ∧ ((-1) : Int32).toInt = (g s0 2).toInt ∧ UPP T g g s0 2) ∨ (¬ (((2 ≤ p2.toInt ∧ p2.toInt ≤ 599) ∧ (0 ≤ p3.toInt ∧ p3.toInt ≤ 599) ∧ (1 ≤ p4.toInt ∧ p4.toInt ≤ 30) ∧ p4.toInt < p2.toInt ∧ (1 ≤ p5.toInt ∧ p5.toInt ≤ 30000)) ∧ (0 ≤ p1.toInt ∧ p1.toInt < (g s0 0).toInt) ∧ (g s0 2).toInt < 40) ∧ ((-1) : Int32).toInt = -1 ∧ g = g) from (fun s0 sr hs hq hn => by obtain rfl : s0 = a1 := Option.some.inj (hs.symm.trans h22); have k9 := hw185 _ sr hs hq hn; exact Or.inr ⟨by omega, by decide, rfl⟩))⟩, CB.mk ht hP hD⟩, hS.F ht⟩) hS.2.2 dX10_world_92
        · obtain rfl : u180 = 0 := i_is c186 (by decide)
          clear hw184
          refine W.eq (g2 := F0 m 66 ls [.int 0]) rfl ?_
          refine lv_if_eq (tgt := 91) hx hb dX10_world_66 (by decide) (fun c190 => ?_) (fun c190 => ?_)
          rotate_left
          · exact absurd c190 (by decide)
          refine lv_iconst (v := (-1)) hx hb dX10_world_91 (by decide) ?_
          refine W.widen (k := 1) (n := 6) (Nat.le_of_ble_eq_true rfl) (Nat.le_of_ble_eq_true rfl) ?_
          have zim1 : ((-1) : Int32).toInt = -1 := by decide
          exact W.iret (v := (-1)) hx hb hr (fun t ht hW => ⟨⟨(((-1)), ws, T, g), rfl, ⟨TLe.rf, hT, KF.rf, KF.rf, GJ.rf, (show ∀ s0, q p0 0 = some s0 → GQE g g s0 2 from (fun s0 _ => Or.inl rfl)), (show ∀ s0 sr, q p0 0 = some s0 → q s0 1 = some sr → NNL g q s0 sr → ((((2 ≤ p2.toInt ∧ p2.toInt ≤ 599) ∧ (0 ≤ p3.toInt ∧ p3.toInt ≤ 599) ∧ (1 ≤ p4.toInt ∧ p4.toInt ≤ 30) ∧ p4.toInt < p2.toInt ∧ (1 ≤ p5.toInt ∧ p5.toInt ≤ 30000)) ∧ (0 ≤ p1.toInt ∧ p1.toInt < (g s0 0).toInt) ∧ (g s0 2).toInt < 40) ∧ ((-1) : Int32).toInt = (g s0 2).toInt ∧ UPP T g g s0 2) ∨ (¬ (((2 ≤ p2.toInt ∧ p2.toInt ≤ 599) ∧ (0 ≤ p3.toInt ∧ p3.toInt ≤ 599) ∧ (1 ≤ p4.toInt ∧ p4.toInt ≤ 30) ∧ p4.toInt < p2.toInt ∧ (1 ≤ p5.toInt ∧ p5.toInt ≤ 30000)) ∧ (0 ≤ p1.toInt ∧ p1.toInt < (g s0 0).toInt) ∧ (g s0 2).toInt < 40) ∧ ((-1) : Int32).toInt = -1 ∧ g = g) from (fun s0 sr hs hq hn => by obtain rfl : s0 = a1 := Option.some.inj (hs.symm.trans h22); have k9 := hw185 _ sr hs hq hn; exact Or.inr ⟨by omega, by decide, rfl⟩))⟩, CB.mk ht hP hD⟩, hS.F ht⟩) hS.2.2 dX10_world_92
    · obtain rfl : u51 = 0 := i_is c56 (by decide)
      have zi0 : (0 : Int32).toInt = 0 := by decide
      refine W.eq (g2 := F0 m 15 ls [.int 0]) rfl ?_
      refine lv_if_eq (tgt := 22) hx hb dX10_world_15 (by decide) (fun c191 => ?_) (fun c191 => ?_)
      rotate_left
      · exact absurd c191 (by decide)
      refine lv_iconst (v := 0) hx hb dX10_world_22 (by decide) ?_
      refine lv_istore (lv' := [(7, .int 0), (0, .ref p0), (1, .int p1), (2, .int p2), (3, .int p3), (4, .int p4), (5, .int p5), (6, .int p6)]) hx hb dX10_world_23 hl (by decide) rfl (fun ls hl => ?_)
      refine lv_iload hx hb dX10_world_25 (lv_at hl 5 rfl) ?_
      refine lv_iconst (v := 1) hx hb dX10_world_27 (by decide) ?_
      refine lv_bipush (v := 30) hx hb dX10_world_28 (by decide) ?_
      have zi30 : (30 : Int32).toInt = 30 := by decide
      refine cg0 (rn_S (As := [.int p4, .int 1, .int 30]) (rest := []) (x_X10_isWithin l D Y Z H.size p4 1 30) ⟨hx, hb, hml, hown, hg⟩ lk_X10_100 ⟨CP.blind, CP.at nilP hKN (nilD (A := fun _ => True))⟩ ⟨⟨rfl, rfl⟩, ⟨Nat.le_of_ble_eq_true rfl, Nat.le_of_ble_eq_true rfl⟩, ⟨(Nat.le_of_ble_eq_true rfl), (Nat.le_of_ble_eq_true rfl)⟩⟩ hl.1 rfl (Nat.le_of_ble_eq_true rfl) dX10_world_30) hP hS hA (fun u192 H locs hw193 hP hS => ?_)
      obtain ⟨hw195, hw196⟩ : (((1 : Int32).toInt ≤ p4.toInt ∧ p4.toInt ≤ (30 : Int32).toInt ∧ u192.toInt = 1) ∨ (¬ ((1 : Int32).toInt ≤ p4.toInt ∧ p4.toInt ≤ (30 : Int32).toInt) ∧ u192.toInt = 0)) ∧ (0 ≤ u192.toInt ∧ u192.toInt ≤ 1) := hw193
      refine W.eq (g2 := F0 m 33 ls [.int u192]) rfl ?_
      rcases (show u192.toInt = 1 ∨ u192.toInt = 0 by omega) with c197 | c197
      · obtain rfl : u192 = 1 := i_is c197 (by decide)
        refine W.eq (g2 := F0 m 33 ls [.int 1]) rfl ?_
        refine lv_if_eq (tgt := 58) hx hb dX10_world_33 (by decide) (fun c198 => ?_) (fun c198 => ?_)
        · exact absurd c198 (by decide)
        refine lv_iload hx hb dX10_world_36 (lv_at hl 5 rfl) ?_
        refine lv_iload_n hx hb dX10_world_38 rfl (lv_at hl 3 rfl) ?_
        refine lv_icmp_ge (tgt := 58) hx hb dX10_world_39 (by decide) (fun c199 => ?_) (fun c199 => ?_)
        · skip
          have c199 := i_le (Eq.refl p2.toInt) (Eq.refl p4.toInt) c199
          refine lv_iconst (v := 0) hx hb dX10_world_58 (by decide) ?_
          refine lv_istore (lv' := [(8, .int 0), (7, .int 0), (0, .ref p0), (1, .int p1), (2, .int p2), (3, .int p3), (4, .int p4), (5, .int p5), (6, .int p6)]) hx hb dX10_world_59 hl (by decide) rfl (fun ls hl => ?_)
          refine lv_aload_n hx hb dX10_world_61 rfl (lv_at hl 2 rfl) ?_
          refine lv_iload_n hx hb dX10_world_62 rfl (lv_at hl 3 rfl) ?_
          refine cga (rn_V (As := [.int p1]) (rest := []) (b := p0) (x_isStarS l D Y Z H.size ws T g q p0 p1 hT ht0) ⟨hx, hb, hml, hown, hg⟩ lk_X10_137 ⟨CPC.blind, va_recv hKN.1 hP (ci := 10) (q0 := p42) rfl hk43, CPC.at hP hKN hD hSZ hS hA⟩ ⟨⟨rfl, rfl⟩, ⟨Nat.le_of_ble_eq_true rfl, Nat.le_of_ble_eq_true rfl⟩, ⟨(Nat.le_of_ble_eq_true rfl), (Nat.le_of_ble_eq_true rfl)⟩⟩ hl.1 rfl (Nat.le_of_ble_eq_true rfl) dX10_world_63) hP hD hS hA (fun u200 H locs hw201 hP hD hS => ?_)
          obtain ⟨hw203, hw204, hw205⟩ : (0 ≤ u200.toInt ∧ u200.toInt ≤ 1) ∧ (u200.toInt = 1 → (0 ≤ p1.toInt ∧ p1.toInt ≤ 11)) ∧ (∀ s0 sr, q p0 0 = some s0 → q s0 1 = some sr → NNL g q s0 sr → (u200.toInt = 1 ↔ (0 ≤ p1.toInt ∧ p1.toInt < (g s0 0).toInt))) := hw201
          refine W.eq (g2 := F0 m 66 ls [.int u200]) rfl ?_
          rcases (show u200.toInt = 1 ∨ u200.toInt = 0 by omega) with c206 | c206
          · obtain rfl : u200 = 1 := i_is c206 (by decide)
            replace hw204 := hw204 (by decide)
            refine W.eq (g2 := F0 m 66 ls [.int 1]) rfl ?_
            refine lv_if_eq (tgt := 91) hx hb dX10_world_66 (by decide) (fun c207 => ?_) (fun c207 => ?_)
            · exact absurd c207 (by decide)
            refine lv_iload hx hb dX10_world_69 (lv_at hl 1 rfl) ?_
            refine lv_if_eq (tgt := 91) hx hb dX10_world_71 (by decide) (fun c208 => ?_) (fun c208 => ?_)
            rotate_left
            · exact absurd c208 (by decide)
            refine lv_iconst (v := (-1)) hx hb dX10_world_91 (by decide) ?_
            refine W.widen (k := 1) (n := 6) (Nat.le_of_ble_eq_true rfl) (Nat.le_of_ble_eq_true rfl) ?_
            have zim1 : ((-1) : Int32).toInt = -1 := by decide
            exact W.iret (v := (-1)) hx hb hr (fun t ht hW => ⟨⟨(((-1)), ws, T, g), rfl, ⟨TLe.rf, hT, KF.rf, KF.rf, GJ.rf, (show ∀ s0, q p0 0 = some s0 → GQE g g s0 2 from (fun s0 _ => Or.inl rfl)), (show ∀ s0 sr, q p0 0 = some s0 → q s0 1 = some sr → NNL g q s0 sr → ((((2 ≤ p2.toInt ∧ p2.toInt ≤ 599) ∧ (0 ≤ p3.toInt ∧ p3.toInt ≤ 599) ∧ (1 ≤ p4.toInt ∧ p4.toInt ≤ 30) ∧ p4.toInt < p2.toInt ∧ (1 ≤ p5.toInt ∧ p5.toInt ≤ 30000)) ∧ (0 ≤ p1.toInt ∧ p1.toInt < (g s0 0).toInt) ∧ (g s0 2).toInt < 40) ∧ ((-1) : Int32).toInt = (g s0 2).toInt ∧ UPP T g g s0 2) ∨ (¬ (((2 ≤ p2.toInt ∧ p2.toInt ≤ 599) ∧ (0 ≤ p3.toInt ∧ p3.toInt ≤ 599) ∧ (1 ≤ p4.toInt ∧ p4.toInt ≤ 30) ∧ p4.toInt < p2.toInt ∧ (1 ≤ p5.toInt ∧ p5.toInt ≤ 30000)) ∧ (0 ≤ p1.toInt ∧ p1.toInt < (g s0 0).toInt) ∧ (g s0 2).toInt < 40) ∧ ((-1) : Int32).toInt = -1 ∧ g = g) from (fun s0 sr hs hq hn => by obtain rfl : s0 = a1 := Option.some.inj (hs.symm.trans h22); have k9 := hw205 _ sr hs hq hn; exact Or.inr ⟨by omega, by decide, rfl⟩))⟩, CB.mk ht hP hD⟩, hS.F ht⟩) hS.2.2 dX10_world_92
          · obtain rfl : u200 = 0 := i_is c206 (by decide)
            clear hw204
            refine W.eq (g2 := F0 m 66 ls [.int 0]) rfl ?_
            refine lv_if_eq (tgt := 91) hx hb dX10_world_66 (by decide) (fun c209 => ?_) (fun c209 => ?_)
            rotate_left
            · exact absurd c209 (by decide)
            refine lv_iconst (v := (-1)) hx hb dX10_world_91 (by decide) ?_
            refine W.widen (k := 1) (n := 6) (Nat.le_of_ble_eq_true rfl) (Nat.le_of_ble_eq_true rfl) ?_
            have zim1 : ((-1) : Int32).toInt = -1 := by decide
            exact W.iret (v := (-1)) hx hb hr (fun t ht hW => ⟨⟨(((-1)), ws, T, g), rfl, ⟨TLe.rf, hT, KF.rf, KF.rf, GJ.rf, (show ∀ s0, q p0 0 = some s0 → GQE g g s0 2 from (fun s0 _ => Or.inl rfl)), (show ∀ s0 sr, q p0 0 = some s0 → q s0 1 = some sr → NNL g q s0 sr → ((((2 ≤ p2.toInt ∧ p2.toInt ≤ 599) ∧ (0 ≤ p3.toInt ∧ p3.toInt ≤ 599) ∧ (1 ≤ p4.toInt ∧ p4.toInt ≤ 30) ∧ p4.toInt < p2.toInt ∧ (1 ≤ p5.toInt ∧ p5.toInt ≤ 30000)) ∧ (0 ≤ p1.toInt ∧ p1.toInt < (g s0 0).toInt) ∧ (g s0 2).toInt < 40) ∧ ((-1) : Int32).toInt = (g s0 2).toInt ∧ UPP T g g s0 2) ∨ (¬ (((2 ≤ p2.toInt ∧ p2.toInt ≤ 599) ∧ (0 ≤ p3.toInt ∧ p3.toInt ≤ 599) ∧ (1 ≤ p4.toInt ∧ p4.toInt ≤ 30) ∧ p4.toInt < p2.toInt ∧ (1 ≤ p5.toInt ∧ p5.toInt ≤ 30000)) ∧ (0 ≤ p1.toInt ∧ p1.toInt < (g s0 0).toInt) ∧ (g s0 2).toInt < 40) ∧ ((-1) : Int32).toInt = -1 ∧ g = g) from (fun s0 sr hs hq hn => by obtain rfl : s0 = a1 := Option.some.inj (hs.symm.trans h22); have k9 := hw205 _ sr hs hq hn; exact Or.inr ⟨by omega, by decide, rfl⟩))⟩, CB.mk ht hP hD⟩, hS.F ht⟩) hS.2.2 dX10_world_92
        · skip
          have c199 := i_nle (Eq.refl p2.toInt) (Eq.refl p4.toInt) c199
          refine lv_iload hx hb dX10_world_42 (lv_at hl 6 rfl) ?_
          refine lv_iconst (v := 1) hx hb dX10_world_44 (by decide) ?_
          refine lv_sipush (v := 30000) hx hb dX10_world_45 (by decide) ?_
          have zi30000 : (30000 : Int32).toInt = 30000 := by decide
          refine cg0 (rn_S (As := [.int p5, .int 1, .int 30000]) (rest := []) (x_X10_isWithin l D Y Z H.size p5 1 30000) ⟨hx, hb, hml, hown, hg⟩ lk_X10_100 ⟨CP.blind, CP.at nilP hKN (nilD (A := fun _ => True))⟩ ⟨⟨rfl, rfl⟩, ⟨Nat.le_of_ble_eq_true rfl, Nat.le_of_ble_eq_true rfl⟩, ⟨(Nat.le_of_ble_eq_true rfl), (Nat.le_of_ble_eq_true rfl)⟩⟩ hl.1 rfl (Nat.le_of_ble_eq_true rfl) dX10_world_48) hP hS hA (fun u210 H locs hw211 hP hS => ?_)
          obtain ⟨hw213, hw214⟩ : (((1 : Int32).toInt ≤ p5.toInt ∧ p5.toInt ≤ (30000 : Int32).toInt ∧ u210.toInt = 1) ∨ (¬ ((1 : Int32).toInt ≤ p5.toInt ∧ p5.toInt ≤ (30000 : Int32).toInt) ∧ u210.toInt = 0)) ∧ (0 ≤ u210.toInt ∧ u210.toInt ≤ 1) := hw211
          refine W.eq (g2 := F0 m 51 ls [.int u210]) rfl ?_
          rcases (show u210.toInt = 1 ∨ u210.toInt = 0 by omega) with c215 | c215
          · obtain rfl : u210 = 1 := i_is c215 (by decide)
            refine W.eq (g2 := F0 m 51 ls [.int 1]) rfl ?_
            refine lv_if_eq (tgt := 58) hx hb dX10_world_51 (by decide) (fun c216 => ?_) (fun c216 => ?_)
            · exact absurd c216 (by decide)
            refine lv_iconst (v := 1) hx hb dX10_world_54 (by decide) ?_
            refine lv_goto (tgt := 59) hx hb dX10_world_55 (by decide) ?_
            refine lv_istore (lv' := [(8, .int 1), (7, .int 0), (0, .ref p0), (1, .int p1), (2, .int p2), (3, .int p3), (4, .int p4), (5, .int p5), (6, .int p6)]) hx hb dX10_world_59 hl (by decide) rfl (fun ls hl => ?_)
            refine lv_aload_n hx hb dX10_world_61 rfl (lv_at hl 2 rfl) ?_
            refine lv_iload_n hx hb dX10_world_62 rfl (lv_at hl 3 rfl) ?_
            refine cga (rn_V (As := [.int p1]) (rest := []) (b := p0) (x_isStarS l D Y Z H.size ws T g q p0 p1 hT ht0) ⟨hx, hb, hml, hown, hg⟩ lk_X10_137 ⟨CPC.blind, va_recv hKN.1 hP (ci := 10) (q0 := p42) rfl hk43, CPC.at hP hKN hD hSZ hS hA⟩ ⟨⟨rfl, rfl⟩, ⟨Nat.le_of_ble_eq_true rfl, Nat.le_of_ble_eq_true rfl⟩, ⟨(Nat.le_of_ble_eq_true rfl), (Nat.le_of_ble_eq_true rfl)⟩⟩ hl.1 rfl (Nat.le_of_ble_eq_true rfl) dX10_world_63) hP hD hS hA (fun u217 H locs hw218 hP hD hS => ?_)
            obtain ⟨hw220, hw221, hw222⟩ : (0 ≤ u217.toInt ∧ u217.toInt ≤ 1) ∧ (u217.toInt = 1 → (0 ≤ p1.toInt ∧ p1.toInt ≤ 11)) ∧ (∀ s0 sr, q p0 0 = some s0 → q s0 1 = some sr → NNL g q s0 sr → (u217.toInt = 1 ↔ (0 ≤ p1.toInt ∧ p1.toInt < (g s0 0).toInt))) := hw218
            refine W.eq (g2 := F0 m 66 ls [.int u217]) rfl ?_
            rcases (show u217.toInt = 1 ∨ u217.toInt = 0 by omega) with c223 | c223
            · obtain rfl : u217 = 1 := i_is c223 (by decide)
              replace hw221 := hw221 (by decide)
              refine W.eq (g2 := F0 m 66 ls [.int 1]) rfl ?_
              refine lv_if_eq (tgt := 91) hx hb dX10_world_66 (by decide) (fun c224 => ?_) (fun c224 => ?_)
              · exact absurd c224 (by decide)
              refine lv_iload hx hb dX10_world_69 (lv_at hl 1 rfl) ?_
              refine lv_if_eq (tgt := 91) hx hb dX10_world_71 (by decide) (fun c225 => ?_) (fun c225 => ?_)
              rotate_left
              · exact absurd c225 (by decide)
              refine lv_iconst (v := (-1)) hx hb dX10_world_91 (by decide) ?_
              refine W.widen (k := 1) (n := 6) (Nat.le_of_ble_eq_true rfl) (Nat.le_of_ble_eq_true rfl) ?_
              have zim1 : ((-1) : Int32).toInt = -1 := by decide
              exact W.iret (v := (-1)) hx hb hr (fun t ht hW => ⟨⟨(((-1)), ws, T, g), rfl, ⟨TLe.rf, hT, KF.rf, KF.rf, GJ.rf, (show ∀ s0, q p0 0 = some s0 → GQE g g s0 2 from (fun s0 _ => Or.inl rfl)), (show ∀ s0 sr, q p0 0 = some s0 → q s0 1 = some sr → NNL g q s0 sr → ((((2 ≤ p2.toInt ∧ p2.toInt ≤ 599) ∧ (0 ≤ p3.toInt ∧ p3.toInt ≤ 599) ∧ (1 ≤ p4.toInt ∧ p4.toInt ≤ 30) ∧ p4.toInt < p2.toInt ∧ (1 ≤ p5.toInt ∧ p5.toInt ≤ 30000)) ∧ (0 ≤ p1.toInt ∧ p1.toInt < (g s0 0).toInt) ∧ (g s0 2).toInt < 40) ∧ ((-1) : Int32).toInt = (g s0 2).toInt ∧ UPP T g g s0 2) ∨ (¬ (((2 ≤ p2.toInt ∧ p2.toInt ≤ 599) ∧ (0 ≤ p3.toInt ∧ p3.toInt ≤ 599) ∧ (1 ≤ p4.toInt ∧ p4.toInt ≤ 30) ∧ p4.toInt < p2.toInt ∧ (1 ≤ p5.toInt ∧ p5.toInt ≤ 30000)) ∧ (0 ≤ p1.toInt ∧ p1.toInt < (g s0 0).toInt) ∧ (g s0 2).toInt < 40) ∧ ((-1) : Int32).toInt = -1 ∧ g = g) from (fun s0 sr hs hq hn => by obtain rfl : s0 = a1 := Option.some.inj (hs.symm.trans h22); have k9 := hw222 _ sr hs hq hn; exact Or.inr ⟨by omega, by decide, rfl⟩))⟩, CB.mk ht hP hD⟩, hS.F ht⟩) hS.2.2 dX10_world_92
            · obtain rfl : u217 = 0 := i_is c223 (by decide)
              clear hw221
              refine W.eq (g2 := F0 m 66 ls [.int 0]) rfl ?_
              refine lv_if_eq (tgt := 91) hx hb dX10_world_66 (by decide) (fun c226 => ?_) (fun c226 => ?_)
              rotate_left
              · exact absurd c226 (by decide)
              refine lv_iconst (v := (-1)) hx hb dX10_world_91 (by decide) ?_
              refine W.widen (k := 1) (n := 6) (Nat.le_of_ble_eq_true rfl) (Nat.le_of_ble_eq_true rfl) ?_
              have zim1 : ((-1) : Int32).toInt = -1 := by decide
              exact W.iret (v := (-1)) hx hb hr (fun t ht hW => ⟨⟨(((-1)), ws, T, g), rfl, ⟨TLe.rf, hT, KF.rf, KF.rf, GJ.rf, (show ∀ s0, q p0 0 = some s0 → GQE g g s0 2 from (fun s0 _ => Or.inl rfl)), (show ∀ s0 sr, q p0 0 = some s0 → q s0 1 = some sr → NNL g q s0 sr → ((((2 ≤ p2.toInt ∧ p2.toInt ≤ 599) ∧ (0 ≤ p3.toInt ∧ p3.toInt ≤ 599) ∧ (1 ≤ p4.toInt ∧ p4.toInt ≤ 30) ∧ p4.toInt < p2.toInt ∧ (1 ≤ p5.toInt ∧ p5.toInt ≤ 30000)) ∧ (0 ≤ p1.toInt ∧ p1.toInt < (g s0 0).toInt) ∧ (g s0 2).toInt < 40) ∧ ((-1) : Int32).toInt = (g s0 2).toInt ∧ UPP T g g s0 2) ∨ (¬ (((2 ≤ p2.toInt ∧ p2.toInt ≤ 599) ∧ (0 ≤ p3.toInt ∧ p3.toInt ≤ 599) ∧ (1 ≤ p4.toInt ∧ p4.toInt ≤ 30) ∧ p4.toInt < p2.toInt ∧ (1 ≤ p5.toInt ∧ p5.toInt ≤ 30000)) ∧ (0 ≤ p1.toInt ∧ p1.toInt < (g s0 0).toInt) ∧ (g s0 2).toInt < 40) ∧ ((-1) : Int32).toInt = -1 ∧ g = g) from (fun s0 sr hs hq hn => by obtain rfl : s0 = a1 := Option.some.inj (hs.symm.trans h22); have k9 := hw222 _ sr hs hq hn; exact Or.inr ⟨by omega, by decide, rfl⟩))⟩, CB.mk ht hP hD⟩, hS.F ht⟩) hS.2.2 dX10_world_92
          · obtain rfl : u210 = 0 := i_is c215 (by decide)
            refine W.eq (g2 := F0 m 51 ls [.int 0]) rfl ?_
            refine lv_if_eq (tgt := 58) hx hb dX10_world_51 (by decide) (fun c227 => ?_) (fun c227 => ?_)
            rotate_left
            · exact absurd c227 (by decide)
            refine lv_iconst (v := 0) hx hb dX10_world_58 (by decide) ?_
            refine lv_istore (lv' := [(8, .int 0), (7, .int 0), (0, .ref p0), (1, .int p1), (2, .int p2), (3, .int p3), (4, .int p4), (5, .int p5), (6, .int p6)]) hx hb dX10_world_59 hl (by decide) rfl (fun ls hl => ?_)
            refine lv_aload_n hx hb dX10_world_61 rfl (lv_at hl 2 rfl) ?_
            refine lv_iload_n hx hb dX10_world_62 rfl (lv_at hl 3 rfl) ?_
            refine cga (rn_V (As := [.int p1]) (rest := []) (b := p0) (x_isStarS l D Y Z H.size ws T g q p0 p1 hT ht0) ⟨hx, hb, hml, hown, hg⟩ lk_X10_137 ⟨CPC.blind, va_recv hKN.1 hP (ci := 10) (q0 := p42) rfl hk43, CPC.at hP hKN hD hSZ hS hA⟩ ⟨⟨rfl, rfl⟩, ⟨Nat.le_of_ble_eq_true rfl, Nat.le_of_ble_eq_true rfl⟩, ⟨(Nat.le_of_ble_eq_true rfl), (Nat.le_of_ble_eq_true rfl)⟩⟩ hl.1 rfl (Nat.le_of_ble_eq_true rfl) dX10_world_63) hP hD hS hA (fun u228 H locs hw229 hP hD hS => ?_)
            obtain ⟨hw231, hw232, hw233⟩ : (0 ≤ u228.toInt ∧ u228.toInt ≤ 1) ∧ (u228.toInt = 1 → (0 ≤ p1.toInt ∧ p1.toInt ≤ 11)) ∧ (∀ s0 sr, q p0 0 = some s0 → q s0 1 = some sr → NNL g q s0 sr → (u228.toInt = 1 ↔ (0 ≤ p1.toInt ∧ p1.toInt < (g s0 0).toInt))) := hw229
            refine W.eq (g2 := F0 m 66 ls [.int u228]) rfl ?_
            rcases (show u228.toInt = 1 ∨ u228.toInt = 0 by omega) with c234 | c234
            · obtain rfl : u228 = 1 := i_is c234 (by decide)
              replace hw232 := hw232 (by decide)
              refine W.eq (g2 := F0 m 66 ls [.int 1]) rfl ?_
              refine lv_if_eq (tgt := 91) hx hb dX10_world_66 (by decide) (fun c235 => ?_) (fun c235 => ?_)
              · exact absurd c235 (by decide)
              refine lv_iload hx hb dX10_world_69 (lv_at hl 1 rfl) ?_
              refine lv_if_eq (tgt := 91) hx hb dX10_world_71 (by decide) (fun c236 => ?_) (fun c236 => ?_)
              rotate_left
              · exact absurd c236 (by decide)
              refine lv_iconst (v := (-1)) hx hb dX10_world_91 (by decide) ?_
              refine W.widen (k := 1) (n := 6) (Nat.le_of_ble_eq_true rfl) (Nat.le_of_ble_eq_true rfl) ?_
              have zim1 : ((-1) : Int32).toInt = -1 := by decide
              exact W.iret (v := (-1)) hx hb hr (fun t ht hW => ⟨⟨(((-1)), ws, T, g), rfl, ⟨TLe.rf, hT, KF.rf, KF.rf, GJ.rf, (show ∀ s0, q p0 0 = some s0 → GQE g g s0 2 from (fun s0 _ => Or.inl rfl)), (show ∀ s0 sr, q p0 0 = some s0 → q s0 1 = some sr → NNL g q s0 sr → ((((2 ≤ p2.toInt ∧ p2.toInt ≤ 599) ∧ (0 ≤ p3.toInt ∧ p3.toInt ≤ 599) ∧ (1 ≤ p4.toInt ∧ p4.toInt ≤ 30) ∧ p4.toInt < p2.toInt ∧ (1 ≤ p5.toInt ∧ p5.toInt ≤ 30000)) ∧ (0 ≤ p1.toInt ∧ p1.toInt < (g s0 0).toInt) ∧ (g s0 2).toInt < 40) ∧ ((-1) : Int32).toInt = (g s0 2).toInt ∧ UPP T g g s0 2) ∨ (¬ (((2 ≤ p2.toInt ∧ p2.toInt ≤ 599) ∧ (0 ≤ p3.toInt ∧ p3.toInt ≤ 599) ∧ (1 ≤ p4.toInt ∧ p4.toInt ≤ 30) ∧ p4.toInt < p2.toInt ∧ (1 ≤ p5.toInt ∧ p5.toInt ≤ 30000)) ∧ (0 ≤ p1.toInt ∧ p1.toInt < (g s0 0).toInt) ∧ (g s0 2).toInt < 40) ∧ ((-1) : Int32).toInt = -1 ∧ g = g) from (fun s0 sr hs hq hn => by obtain rfl : s0 = a1 := Option.some.inj (hs.symm.trans h22); have k9 := hw233 _ sr hs hq hn; exact Or.inr ⟨by omega, by decide, rfl⟩))⟩, CB.mk ht hP hD⟩, hS.F ht⟩) hS.2.2 dX10_world_92
            · obtain rfl : u228 = 0 := i_is c234 (by decide)
              clear hw232
              refine W.eq (g2 := F0 m 66 ls [.int 0]) rfl ?_
              refine lv_if_eq (tgt := 91) hx hb dX10_world_66 (by decide) (fun c237 => ?_) (fun c237 => ?_)
              rotate_left
              · exact absurd c237 (by decide)
              refine lv_iconst (v := (-1)) hx hb dX10_world_91 (by decide) ?_
              refine W.widen (k := 1) (n := 6) (Nat.le_of_ble_eq_true rfl) (Nat.le_of_ble_eq_true rfl) ?_
              have zim1 : ((-1) : Int32).toInt = -1 := by decide
              exact W.iret (v := (-1)) hx hb hr (fun t ht hW => ⟨⟨(((-1)), ws, T, g), rfl, ⟨TLe.rf, hT, KF.rf, KF.rf, GJ.rf, (show ∀ s0, q p0 0 = some s0 → GQE g g s0 2 from (fun s0 _ => Or.inl rfl)), (show ∀ s0 sr, q p0 0 = some s0 → q s0 1 = some sr → NNL g q s0 sr → ((((2 ≤ p2.toInt ∧ p2.toInt ≤ 599) ∧ (0 ≤ p3.toInt ∧ p3.toInt ≤ 599) ∧ (1 ≤ p4.toInt ∧ p4.toInt ≤ 30) ∧ p4.toInt < p2.toInt ∧ (1 ≤ p5.toInt ∧ p5.toInt ≤ 30000)) ∧ (0 ≤ p1.toInt ∧ p1.toInt < (g s0 0).toInt) ∧ (g s0 2).toInt < 40) ∧ ((-1) : Int32).toInt = (g s0 2).toInt ∧ UPP T g g s0 2) ∨ (¬ (((2 ≤ p2.toInt ∧ p2.toInt ≤ 599) ∧ (0 ≤ p3.toInt ∧ p3.toInt ≤ 599) ∧ (1 ≤ p4.toInt ∧ p4.toInt ≤ 30) ∧ p4.toInt < p2.toInt ∧ (1 ≤ p5.toInt ∧ p5.toInt ≤ 30000)) ∧ (0 ≤ p1.toInt ∧ p1.toInt < (g s0 0).toInt) ∧ (g s0 2).toInt < 40) ∧ ((-1) : Int32).toInt = -1 ∧ g = g) from (fun s0 sr hs hq hn => by obtain rfl : s0 = a1 := Option.some.inj (hs.symm.trans h22); have k9 := hw233 _ sr hs hq hn; exact Or.inr ⟨by omega, by decide, rfl⟩))⟩, CB.mk ht hP hD⟩, hS.F ht⟩) hS.2.2 dX10_world_92
      · obtain rfl : u192 = 0 := i_is c197 (by decide)
        refine W.eq (g2 := F0 m 33 ls [.int 0]) rfl ?_
        refine lv_if_eq (tgt := 58) hx hb dX10_world_33 (by decide) (fun c238 => ?_) (fun c238 => ?_)
        rotate_left
        · exact absurd c238 (by decide)
        refine lv_iconst (v := 0) hx hb dX10_world_58 (by decide) ?_
        refine lv_istore (lv' := [(8, .int 0), (7, .int 0), (0, .ref p0), (1, .int p1), (2, .int p2), (3, .int p3), (4, .int p4), (5, .int p5), (6, .int p6)]) hx hb dX10_world_59 hl (by decide) rfl (fun ls hl => ?_)
        refine lv_aload_n hx hb dX10_world_61 rfl (lv_at hl 2 rfl) ?_
        refine lv_iload_n hx hb dX10_world_62 rfl (lv_at hl 3 rfl) ?_
        refine cga (rn_V (As := [.int p1]) (rest := []) (b := p0) (x_isStarS l D Y Z H.size ws T g q p0 p1 hT ht0) ⟨hx, hb, hml, hown, hg⟩ lk_X10_137 ⟨CPC.blind, va_recv hKN.1 hP (ci := 10) (q0 := p42) rfl hk43, CPC.at hP hKN hD hSZ hS hA⟩ ⟨⟨rfl, rfl⟩, ⟨Nat.le_of_ble_eq_true rfl, Nat.le_of_ble_eq_true rfl⟩, ⟨(Nat.le_of_ble_eq_true rfl), (Nat.le_of_ble_eq_true rfl)⟩⟩ hl.1 rfl (Nat.le_of_ble_eq_true rfl) dX10_world_63) hP hD hS hA (fun u239 H locs hw240 hP hD hS => ?_)
        obtain ⟨hw242, hw243, hw244⟩ : (0 ≤ u239.toInt ∧ u239.toInt ≤ 1) ∧ (u239.toInt = 1 → (0 ≤ p1.toInt ∧ p1.toInt ≤ 11)) ∧ (∀ s0 sr, q p0 0 = some s0 → q s0 1 = some sr → NNL g q s0 sr → (u239.toInt = 1 ↔ (0 ≤ p1.toInt ∧ p1.toInt < (g s0 0).toInt))) := hw240
        refine W.eq (g2 := F0 m 66 ls [.int u239]) rfl ?_
        rcases (show u239.toInt = 1 ∨ u239.toInt = 0 by omega) with c245 | c245
        · obtain rfl : u239 = 1 := i_is c245 (by decide)
          replace hw243 := hw243 (by decide)
          refine W.eq (g2 := F0 m 66 ls [.int 1]) rfl ?_
          refine lv_if_eq (tgt := 91) hx hb dX10_world_66 (by decide) (fun c246 => ?_) (fun c246 => ?_)
          · exact absurd c246 (by decide)
          refine lv_iload hx hb dX10_world_69 (lv_at hl 1 rfl) ?_
          refine lv_if_eq (tgt := 91) hx hb dX10_world_71 (by decide) (fun c247 => ?_) (fun c247 => ?_)
          rotate_left
          · exact absurd c247 (by decide)
          refine lv_iconst (v := (-1)) hx hb dX10_world_91 (by decide) ?_
          refine W.widen (k := 1) (n := 6) (Nat.le_of_ble_eq_true rfl) (Nat.le_of_ble_eq_true rfl) ?_
          have zim1 : ((-1) : Int32).toInt = -1 := by decide
          exact W.iret (v := (-1)) hx hb hr (fun t ht hW => ⟨⟨(((-1)), ws, T, g), rfl, ⟨TLe.rf, hT, KF.rf, KF.rf, GJ.rf, (show ∀ s0, q p0 0 = some s0 → GQE g g s0 2 from (fun s0 _ => Or.inl rfl)), (show ∀ s0 sr, q p0 0 = some s0 → q s0 1 = some sr → NNL g q s0 sr → ((((2 ≤ p2.toInt ∧ p2.toInt ≤ 599) ∧ (0 ≤ p3.toInt ∧ p3.toInt ≤ 599) ∧ (1 ≤ p4.toInt ∧ p4.toInt ≤ 30) ∧ p4.toInt < p2.toInt ∧ (1 ≤ p5.toInt ∧ p5.toInt ≤ 30000)) ∧ (0 ≤ p1.toInt ∧ p1.toInt < (g s0 0).toInt) ∧ (g s0 2).toInt < 40) ∧ ((-1) : Int32).toInt = (g s0 2).toInt ∧ UPP T g g s0 2) ∨ (¬ (((2 ≤ p2.toInt ∧ p2.toInt ≤ 599) ∧ (0 ≤ p3.toInt ∧ p3.toInt ≤ 599) ∧ (1 ≤ p4.toInt ∧ p4.toInt ≤ 30) ∧ p4.toInt < p2.toInt ∧ (1 ≤ p5.toInt ∧ p5.toInt ≤ 30000)) ∧ (0 ≤ p1.toInt ∧ p1.toInt < (g s0 0).toInt) ∧ (g s0 2).toInt < 40) ∧ ((-1) : Int32).toInt = -1 ∧ g = g) from (fun s0 sr hs hq hn => by obtain rfl : s0 = a1 := Option.some.inj (hs.symm.trans h22); have k9 := hw244 _ sr hs hq hn; exact Or.inr ⟨by omega, by decide, rfl⟩))⟩, CB.mk ht hP hD⟩, hS.F ht⟩) hS.2.2 dX10_world_92
        · obtain rfl : u239 = 0 := i_is c245 (by decide)
          clear hw243
          refine W.eq (g2 := F0 m 66 ls [.int 0]) rfl ?_
          refine lv_if_eq (tgt := 91) hx hb dX10_world_66 (by decide) (fun c248 => ?_) (fun c248 => ?_)
          rotate_left
          · exact absurd c248 (by decide)
          refine lv_iconst (v := (-1)) hx hb dX10_world_91 (by decide) ?_
          refine W.widen (k := 1) (n := 6) (Nat.le_of_ble_eq_true rfl) (Nat.le_of_ble_eq_true rfl) ?_
          have zim1 : ((-1) : Int32).toInt = -1 := by decide
          exact W.iret (v := (-1)) hx hb hr (fun t ht hW => ⟨⟨(((-1)), ws, T, g), rfl, ⟨TLe.rf, hT, KF.rf, KF.rf, GJ.rf, (show ∀ s0, q p0 0 = some s0 → GQE g g s0 2 from (fun s0 _ => Or.inl rfl)), (show ∀ s0 sr, q p0 0 = some s0 → q s0 1 = some sr → NNL g q s0 sr → ((((2 ≤ p2.toInt ∧ p2.toInt ≤ 599) ∧ (0 ≤ p3.toInt ∧ p3.toInt ≤ 599) ∧ (1 ≤ p4.toInt ∧ p4.toInt ≤ 30) ∧ p4.toInt < p2.toInt ∧ (1 ≤ p5.toInt ∧ p5.toInt ≤ 30000)) ∧ (0 ≤ p1.toInt ∧ p1.toInt < (g s0 0).toInt) ∧ (g s0 2).toInt < 40) ∧ ((-1) : Int32).toInt = (g s0 2).toInt ∧ UPP T g g s0 2) ∨ (¬ (((2 ≤ p2.toInt ∧ p2.toInt ≤ 599) ∧ (0 ≤ p3.toInt ∧ p3.toInt ≤ 599) ∧ (1 ≤ p4.toInt ∧ p4.toInt ≤ 30) ∧ p4.toInt < p2.toInt ∧ (1 ≤ p5.toInt ∧ p5.toInt ≤ 30000)) ∧ (0 ≤ p1.toInt ∧ p1.toInt < (g s0 0).toInt) ∧ (g s0 2).toInt < 40) ∧ ((-1) : Int32).toInt = -1 ∧ g = g) from (fun s0 sr hs hq hn => by obtain rfl : s0 = a1 := Option.some.inj (hs.symm.trans h22); have k9 := hw244 _ sr hs hq hn; exact Or.inr ⟨by omega, by decide, rfl⟩))⟩, CB.mk ht hP hD⟩, hS.F ht⟩) hS.2.2 dX10_world_92
  · obtain rfl : u44 = 0 := i_is c49 (by decide)
    have zi0 : (0 : Int32).toInt = 0 := by decide
    refine W.eq (g2 := F0 m 8 ls [.int 0]) rfl ?_
    refine lv_if_eq (tgt := 22) hx hb dX10_world_8 (by decide) (fun c249 => ?_) (fun c249 => ?_)
    rotate_left
    · exact absurd c249 (by decide)
    refine lv_iconst (v := 0) hx hb dX10_world_22 (by decide) ?_
    refine lv_istore (lv' := [(7, .int 0), (0, .ref p0), (1, .int p1), (2, .int p2), (3, .int p3), (4, .int p4), (5, .int p5), (6, .int p6)]) hx hb dX10_world_23 hl (by decide) rfl (fun ls hl => ?_)
    refine lv_iload hx hb dX10_world_25 (lv_at hl 5 rfl) ?_
    refine lv_iconst (v := 1) hx hb dX10_world_27 (by decide) ?_
    refine lv_bipush (v := 30) hx hb dX10_world_28 (by decide) ?_
    have zi1 : (1 : Int32).toInt = 1 := by decide
    have zi30 : (30 : Int32).toInt = 30 := by decide
    refine cg0 (rn_S (As := [.int p4, .int 1, .int 30]) (rest := []) (x_X10_isWithin l D Y Z H.size p4 1 30) ⟨hx, hb, hml, hown, hg⟩ lk_X10_100 ⟨CP.blind, CP.at nilP hKN (nilD (A := fun _ => True))⟩ ⟨⟨rfl, rfl⟩, ⟨Nat.le_of_ble_eq_true rfl, Nat.le_of_ble_eq_true rfl⟩, ⟨(Nat.le_of_ble_eq_true rfl), (Nat.le_of_ble_eq_true rfl)⟩⟩ hl.1 rfl (Nat.le_of_ble_eq_true rfl) dX10_world_30) hP hS hA (fun u250 H locs hw251 hP hS => ?_)
    obtain ⟨hw253, hw254⟩ : (((1 : Int32).toInt ≤ p4.toInt ∧ p4.toInt ≤ (30 : Int32).toInt ∧ u250.toInt = 1) ∨ (¬ ((1 : Int32).toInt ≤ p4.toInt ∧ p4.toInt ≤ (30 : Int32).toInt) ∧ u250.toInt = 0)) ∧ (0 ≤ u250.toInt ∧ u250.toInt ≤ 1) := hw251
    refine W.eq (g2 := F0 m 33 ls [.int u250]) rfl ?_
    rcases (show u250.toInt = 1 ∨ u250.toInt = 0 by omega) with c255 | c255
    · obtain rfl : u250 = 1 := i_is c255 (by decide)
      refine W.eq (g2 := F0 m 33 ls [.int 1]) rfl ?_
      refine lv_if_eq (tgt := 58) hx hb dX10_world_33 (by decide) (fun c256 => ?_) (fun c256 => ?_)
      · exact absurd c256 (by decide)
      refine lv_iload hx hb dX10_world_36 (lv_at hl 5 rfl) ?_
      refine lv_iload_n hx hb dX10_world_38 rfl (lv_at hl 3 rfl) ?_
      have j257 := rgI p2
      refine lv_icmp_ge (tgt := 58) hx hb dX10_world_39 (by decide) (fun c258 => ?_) (fun c258 => ?_)
      · skip
        have c258 := i_le (Eq.refl p2.toInt) (Eq.refl p4.toInt) c258
        refine lv_iconst (v := 0) hx hb dX10_world_58 (by decide) ?_
        refine lv_istore (lv' := [(8, .int 0), (7, .int 0), (0, .ref p0), (1, .int p1), (2, .int p2), (3, .int p3), (4, .int p4), (5, .int p5), (6, .int p6)]) hx hb dX10_world_59 hl (by decide) rfl (fun ls hl => ?_)
        refine lv_aload_n hx hb dX10_world_61 rfl (lv_at hl 2 rfl) ?_
        refine lv_iload_n hx hb dX10_world_62 rfl (lv_at hl 3 rfl) ?_
        refine cga (rn_V (As := [.int p1]) (rest := []) (b := p0) (x_isStarS l D Y Z H.size ws T g q p0 p1 hT ht0) ⟨hx, hb, hml, hown, hg⟩ lk_X10_137 ⟨CPC.blind, va_recv hKN.1 hP (ci := 10) (q0 := p42) rfl hk43, CPC.at hP hKN hD hSZ hS hA⟩ ⟨⟨rfl, rfl⟩, ⟨Nat.le_of_ble_eq_true rfl, Nat.le_of_ble_eq_true rfl⟩, ⟨(Nat.le_of_ble_eq_true rfl), (Nat.le_of_ble_eq_true rfl)⟩⟩ hl.1 rfl (Nat.le_of_ble_eq_true rfl) dX10_world_63) hP hD hS hA (fun u259 H locs hw260 hP hD hS => ?_)
        obtain ⟨hw262, hw263, hw264⟩ : (0 ≤ u259.toInt ∧ u259.toInt ≤ 1) ∧ (u259.toInt = 1 → (0 ≤ p1.toInt ∧ p1.toInt ≤ 11)) ∧ (∀ s0 sr, q p0 0 = some s0 → q s0 1 = some sr → NNL g q s0 sr → (u259.toInt = 1 ↔ (0 ≤ p1.toInt ∧ p1.toInt < (g s0 0).toInt))) := hw260
        refine W.eq (g2 := F0 m 66 ls [.int u259]) rfl ?_
        rcases (show u259.toInt = 1 ∨ u259.toInt = 0 by omega) with c265 | c265
        · obtain rfl : u259 = 1 := i_is c265 (by decide)
          replace hw263 := hw263 (by decide)
          refine W.eq (g2 := F0 m 66 ls [.int 1]) rfl ?_
          refine lv_if_eq (tgt := 91) hx hb dX10_world_66 (by decide) (fun c266 => ?_) (fun c266 => ?_)
          · exact absurd c266 (by decide)
          refine lv_iload hx hb dX10_world_69 (lv_at hl 1 rfl) ?_
          refine lv_if_eq (tgt := 91) hx hb dX10_world_71 (by decide) (fun c267 => ?_) (fun c267 => ?_)
          rotate_left
          · exact absurd c267 (by decide)
          refine lv_iconst (v := (-1)) hx hb dX10_world_91 (by decide) ?_
          refine W.widen (k := 1) (n := 6) (Nat.le_of_ble_eq_true rfl) (Nat.le_of_ble_eq_true rfl) ?_
          have zim1 : ((-1) : Int32).toInt = -1 := by decide
          exact W.iret (v := (-1)) hx hb hr (fun t ht hW => ⟨⟨(((-1)), ws, T, g), rfl, ⟨TLe.rf, hT, KF.rf, KF.rf, GJ.rf, (show ∀ s0, q p0 0 = some s0 → GQE g g s0 2 from (fun s0 _ => Or.inl rfl)), (show ∀ s0 sr, q p0 0 = some s0 → q s0 1 = some sr → NNL g q s0 sr → ((((2 ≤ p2.toInt ∧ p2.toInt ≤ 599) ∧ (0 ≤ p3.toInt ∧ p3.toInt ≤ 599) ∧ (1 ≤ p4.toInt ∧ p4.toInt ≤ 30) ∧ p4.toInt < p2.toInt ∧ (1 ≤ p5.toInt ∧ p5.toInt ≤ 30000)) ∧ (0 ≤ p1.toInt ∧ p1.toInt < (g s0 0).toInt) ∧ (g s0 2).toInt < 40) ∧ ((-1) : Int32).toInt = (g s0 2).toInt ∧ UPP T g g s0 2) ∨ (¬ (((2 ≤ p2.toInt ∧ p2.toInt ≤ 599) ∧ (0 ≤ p3.toInt ∧ p3.toInt ≤ 599) ∧ (1 ≤ p4.toInt ∧ p4.toInt ≤ 30) ∧ p4.toInt < p2.toInt ∧ (1 ≤ p5.toInt ∧ p5.toInt ≤ 30000)) ∧ (0 ≤ p1.toInt ∧ p1.toInt < (g s0 0).toInt) ∧ (g s0 2).toInt < 40) ∧ ((-1) : Int32).toInt = -1 ∧ g = g) from (fun s0 sr hs hq hn => by obtain rfl : s0 = a1 := Option.some.inj (hs.symm.trans h22); have k9 := hw264 _ sr hs hq hn; exact Or.inr ⟨by omega, by decide, rfl⟩))⟩, CB.mk ht hP hD⟩, hS.F ht⟩) hS.2.2 dX10_world_92
        · obtain rfl : u259 = 0 := i_is c265 (by decide)
          clear hw263
          refine W.eq (g2 := F0 m 66 ls [.int 0]) rfl ?_
          refine lv_if_eq (tgt := 91) hx hb dX10_world_66 (by decide) (fun c268 => ?_) (fun c268 => ?_)
          rotate_left
          · exact absurd c268 (by decide)
          refine lv_iconst (v := (-1)) hx hb dX10_world_91 (by decide) ?_
          refine W.widen (k := 1) (n := 6) (Nat.le_of_ble_eq_true rfl) (Nat.le_of_ble_eq_true rfl) ?_
          have zim1 : ((-1) : Int32).toInt = -1 := by decide
          exact W.iret (v := (-1)) hx hb hr (fun t ht hW => ⟨⟨(((-1)), ws, T, g), rfl, ⟨TLe.rf, hT, KF.rf, KF.rf, GJ.rf, (show ∀ s0, q p0 0 = some s0 → GQE g g s0 2 from (fun s0 _ => Or.inl rfl)), (show ∀ s0 sr, q p0 0 = some s0 → q s0 1 = some sr → NNL g q s0 sr → ((((2 ≤ p2.toInt ∧ p2.toInt ≤ 599) ∧ (0 ≤ p3.toInt ∧ p3.toInt ≤ 599) ∧ (1 ≤ p4.toInt ∧ p4.toInt ≤ 30) ∧ p4.toInt < p2.toInt ∧ (1 ≤ p5.toInt ∧ p5.toInt ≤ 30000)) ∧ (0 ≤ p1.toInt ∧ p1.toInt < (g s0 0).toInt) ∧ (g s0 2).toInt < 40) ∧ ((-1) : Int32).toInt = (g s0 2).toInt ∧ UPP T g g s0 2) ∨ (¬ (((2 ≤ p2.toInt ∧ p2.toInt ≤ 599) ∧ (0 ≤ p3.toInt ∧ p3.toInt ≤ 599) ∧ (1 ≤ p4.toInt ∧ p4.toInt ≤ 30) ∧ p4.toInt < p2.toInt ∧ (1 ≤ p5.toInt ∧ p5.toInt ≤ 30000)) ∧ (0 ≤ p1.toInt ∧ p1.toInt < (g s0 0).toInt) ∧ (g s0 2).toInt < 40) ∧ ((-1) : Int32).toInt = -1 ∧ g = g) from (fun s0 sr hs hq hn => by obtain rfl : s0 = a1 := Option.some.inj (hs.symm.trans h22); have k9 := hw264 _ sr hs hq hn; exact Or.inr ⟨by omega, by decide, rfl⟩))⟩, CB.mk ht hP hD⟩, hS.F ht⟩) hS.2.2 dX10_world_92
      · skip
        have c258 := i_nle (Eq.refl p2.toInt) (Eq.refl p4.toInt) c258
        refine lv_iload hx hb dX10_world_42 (lv_at hl 6 rfl) ?_
        refine lv_iconst (v := 1) hx hb dX10_world_44 (by decide) ?_
        refine lv_sipush (v := 30000) hx hb dX10_world_45 (by decide) ?_
        have zi30000 : (30000 : Int32).toInt = 30000 := by decide
        refine cg0 (rn_S (As := [.int p5, .int 1, .int 30000]) (rest := []) (x_X10_isWithin l D Y Z H.size p5 1 30000) ⟨hx, hb, hml, hown, hg⟩ lk_X10_100 ⟨CP.blind, CP.at nilP hKN (nilD (A := fun _ => True))⟩ ⟨⟨rfl, rfl⟩, ⟨Nat.le_of_ble_eq_true rfl, Nat.le_of_ble_eq_true rfl⟩, ⟨(Nat.le_of_ble_eq_true rfl), (Nat.le_of_ble_eq_true rfl)⟩⟩ hl.1 rfl (Nat.le_of_ble_eq_true rfl) dX10_world_48) hP hS hA (fun u269 H locs hw270 hP hS => ?_)
        obtain ⟨hw272, hw273⟩ : (((1 : Int32).toInt ≤ p5.toInt ∧ p5.toInt ≤ (30000 : Int32).toInt ∧ u269.toInt = 1) ∨ (¬ ((1 : Int32).toInt ≤ p5.toInt ∧ p5.toInt ≤ (30000 : Int32).toInt) ∧ u269.toInt = 0)) ∧ (0 ≤ u269.toInt ∧ u269.toInt ≤ 1) := hw270
        refine W.eq (g2 := F0 m 51 ls [.int u269]) rfl ?_
        rcases (show u269.toInt = 1 ∨ u269.toInt = 0 by omega) with c274 | c274
        · obtain rfl : u269 = 1 := i_is c274 (by decide)
          refine W.eq (g2 := F0 m 51 ls [.int 1]) rfl ?_
          refine lv_if_eq (tgt := 58) hx hb dX10_world_51 (by decide) (fun c275 => ?_) (fun c275 => ?_)
          · exact absurd c275 (by decide)
          refine lv_iconst (v := 1) hx hb dX10_world_54 (by decide) ?_
          refine lv_goto (tgt := 59) hx hb dX10_world_55 (by decide) ?_
          refine lv_istore (lv' := [(8, .int 1), (7, .int 0), (0, .ref p0), (1, .int p1), (2, .int p2), (3, .int p3), (4, .int p4), (5, .int p5), (6, .int p6)]) hx hb dX10_world_59 hl (by decide) rfl (fun ls hl => ?_)
          refine lv_aload_n hx hb dX10_world_61 rfl (lv_at hl 2 rfl) ?_
          refine lv_iload_n hx hb dX10_world_62 rfl (lv_at hl 3 rfl) ?_
          refine cga (rn_V (As := [.int p1]) (rest := []) (b := p0) (x_isStarS l D Y Z H.size ws T g q p0 p1 hT ht0) ⟨hx, hb, hml, hown, hg⟩ lk_X10_137 ⟨CPC.blind, va_recv hKN.1 hP (ci := 10) (q0 := p42) rfl hk43, CPC.at hP hKN hD hSZ hS hA⟩ ⟨⟨rfl, rfl⟩, ⟨Nat.le_of_ble_eq_true rfl, Nat.le_of_ble_eq_true rfl⟩, ⟨(Nat.le_of_ble_eq_true rfl), (Nat.le_of_ble_eq_true rfl)⟩⟩ hl.1 rfl (Nat.le_of_ble_eq_true rfl) dX10_world_63) hP hD hS hA (fun u276 H locs hw277 hP hD hS => ?_)
          obtain ⟨hw279, hw280, hw281⟩ : (0 ≤ u276.toInt ∧ u276.toInt ≤ 1) ∧ (u276.toInt = 1 → (0 ≤ p1.toInt ∧ p1.toInt ≤ 11)) ∧ (∀ s0 sr, q p0 0 = some s0 → q s0 1 = some sr → NNL g q s0 sr → (u276.toInt = 1 ↔ (0 ≤ p1.toInt ∧ p1.toInt < (g s0 0).toInt))) := hw277
          refine W.eq (g2 := F0 m 66 ls [.int u276]) rfl ?_
          rcases (show u276.toInt = 1 ∨ u276.toInt = 0 by omega) with c282 | c282
          · obtain rfl : u276 = 1 := i_is c282 (by decide)
            replace hw280 := hw280 (by decide)
            refine W.eq (g2 := F0 m 66 ls [.int 1]) rfl ?_
            refine lv_if_eq (tgt := 91) hx hb dX10_world_66 (by decide) (fun c283 => ?_) (fun c283 => ?_)
            · exact absurd c283 (by decide)
            refine lv_iload hx hb dX10_world_69 (lv_at hl 1 rfl) ?_
            refine lv_if_eq (tgt := 91) hx hb dX10_world_71 (by decide) (fun c284 => ?_) (fun c284 => ?_)
            rotate_left
            · exact absurd c284 (by decide)
            refine lv_iconst (v := (-1)) hx hb dX10_world_91 (by decide) ?_
            refine W.widen (k := 1) (n := 6) (Nat.le_of_ble_eq_true rfl) (Nat.le_of_ble_eq_true rfl) ?_
            have zim1 : ((-1) : Int32).toInt = -1 := by decide
            exact W.iret (v := (-1)) hx hb hr (fun t ht hW => ⟨⟨(((-1)), ws, T, g), rfl, ⟨TLe.rf, hT, KF.rf, KF.rf, GJ.rf, (show ∀ s0, q p0 0 = some s0 → GQE g g s0 2 from (fun s0 _ => Or.inl rfl)), (show ∀ s0 sr, q p0 0 = some s0 → q s0 1 = some sr → NNL g q s0 sr → ((((2 ≤ p2.toInt ∧ p2.toInt ≤ 599) ∧ (0 ≤ p3.toInt ∧ p3.toInt ≤ 599) ∧ (1 ≤ p4.toInt ∧ p4.toInt ≤ 30) ∧ p4.toInt < p2.toInt ∧ (1 ≤ p5.toInt ∧ p5.toInt ≤ 30000)) ∧ (0 ≤ p1.toInt ∧ p1.toInt < (g s0 0).toInt) ∧ (g s0 2).toInt < 40) ∧ ((-1) : Int32).toInt = (g s0 2).toInt ∧ UPP T g g s0 2) ∨ (¬ (((2 ≤ p2.toInt ∧ p2.toInt ≤ 599) ∧ (0 ≤ p3.toInt ∧ p3.toInt ≤ 599) ∧ (1 ≤ p4.toInt ∧ p4.toInt ≤ 30) ∧ p4.toInt < p2.toInt ∧ (1 ≤ p5.toInt ∧ p5.toInt ≤ 30000)) ∧ (0 ≤ p1.toInt ∧ p1.toInt < (g s0 0).toInt) ∧ (g s0 2).toInt < 40) ∧ ((-1) : Int32).toInt = -1 ∧ g = g) from (fun s0 sr hs hq hn => by obtain rfl : s0 = a1 := Option.some.inj (hs.symm.trans h22); have k9 := hw281 _ sr hs hq hn; exact Or.inr ⟨by omega, by decide, rfl⟩))⟩, CB.mk ht hP hD⟩, hS.F ht⟩) hS.2.2 dX10_world_92
          · obtain rfl : u276 = 0 := i_is c282 (by decide)
            clear hw280
            refine W.eq (g2 := F0 m 66 ls [.int 0]) rfl ?_
            refine lv_if_eq (tgt := 91) hx hb dX10_world_66 (by decide) (fun c285 => ?_) (fun c285 => ?_)
            rotate_left
            · exact absurd c285 (by decide)
            refine lv_iconst (v := (-1)) hx hb dX10_world_91 (by decide) ?_
            refine W.widen (k := 1) (n := 6) (Nat.le_of_ble_eq_true rfl) (Nat.le_of_ble_eq_true rfl) ?_
            have zim1 : ((-1) : Int32).toInt = -1 := by decide
            exact W.iret (v := (-1)) hx hb hr (fun t ht hW => ⟨⟨(((-1)), ws, T, g), rfl, ⟨TLe.rf, hT, KF.rf, KF.rf, GJ.rf, (show ∀ s0, q p0 0 = some s0 → GQE g g s0 2 from (fun s0 _ => Or.inl rfl)), (show ∀ s0 sr, q p0 0 = some s0 → q s0 1 = some sr → NNL g q s0 sr → ((((2 ≤ p2.toInt ∧ p2.toInt ≤ 599) ∧ (0 ≤ p3.toInt ∧ p3.toInt ≤ 599) ∧ (1 ≤ p4.toInt ∧ p4.toInt ≤ 30) ∧ p4.toInt < p2.toInt ∧ (1 ≤ p5.toInt ∧ p5.toInt ≤ 30000)) ∧ (0 ≤ p1.toInt ∧ p1.toInt < (g s0 0).toInt) ∧ (g s0 2).toInt < 40) ∧ ((-1) : Int32).toInt = (g s0 2).toInt ∧ UPP T g g s0 2) ∨ (¬ (((2 ≤ p2.toInt ∧ p2.toInt ≤ 599) ∧ (0 ≤ p3.toInt ∧ p3.toInt ≤ 599) ∧ (1 ≤ p4.toInt ∧ p4.toInt ≤ 30) ∧ p4.toInt < p2.toInt ∧ (1 ≤ p5.toInt ∧ p5.toInt ≤ 30000)) ∧ (0 ≤ p1.toInt ∧ p1.toInt < (g s0 0).toInt) ∧ (g s0 2).toInt < 40) ∧ ((-1) : Int32).toInt = -1 ∧ g = g) from (fun s0 sr hs hq hn => by obtain rfl : s0 = a1 := Option.some.inj (hs.symm.trans h22); have k9 := hw281 _ sr hs hq hn; exact Or.inr ⟨by omega, by decide, rfl⟩))⟩, CB.mk ht hP hD⟩, hS.F ht⟩) hS.2.2 dX10_world_92
        · obtain rfl : u269 = 0 := i_is c274 (by decide)
          refine W.eq (g2 := F0 m 51 ls [.int 0]) rfl ?_
          refine lv_if_eq (tgt := 58) hx hb dX10_world_51 (by decide) (fun c286 => ?_) (fun c286 => ?_)
          rotate_left
          · exact absurd c286 (by decide)
          refine lv_iconst (v := 0) hx hb dX10_world_58 (by decide) ?_
          refine lv_istore (lv' := [(8, .int 0), (7, .int 0), (0, .ref p0), (1, .int p1), (2, .int p2), (3, .int p3), (4, .int p4), (5, .int p5), (6, .int p6)]) hx hb dX10_world_59 hl (by decide) rfl (fun ls hl => ?_)
          refine lv_aload_n hx hb dX10_world_61 rfl (lv_at hl 2 rfl) ?_
          refine lv_iload_n hx hb dX10_world_62 rfl (lv_at hl 3 rfl) ?_
          refine cga (rn_V (As := [.int p1]) (rest := []) (b := p0) (x_isStarS l D Y Z H.size ws T g q p0 p1 hT ht0) ⟨hx, hb, hml, hown, hg⟩ lk_X10_137 ⟨CPC.blind, va_recv hKN.1 hP (ci := 10) (q0 := p42) rfl hk43, CPC.at hP hKN hD hSZ hS hA⟩ ⟨⟨rfl, rfl⟩, ⟨Nat.le_of_ble_eq_true rfl, Nat.le_of_ble_eq_true rfl⟩, ⟨(Nat.le_of_ble_eq_true rfl), (Nat.le_of_ble_eq_true rfl)⟩⟩ hl.1 rfl (Nat.le_of_ble_eq_true rfl) dX10_world_63) hP hD hS hA (fun u287 H locs hw288 hP hD hS => ?_)
          obtain ⟨hw290, hw291, hw292⟩ : (0 ≤ u287.toInt ∧ u287.toInt ≤ 1) ∧ (u287.toInt = 1 → (0 ≤ p1.toInt ∧ p1.toInt ≤ 11)) ∧ (∀ s0 sr, q p0 0 = some s0 → q s0 1 = some sr → NNL g q s0 sr → (u287.toInt = 1 ↔ (0 ≤ p1.toInt ∧ p1.toInt < (g s0 0).toInt))) := hw288
          refine W.eq (g2 := F0 m 66 ls [.int u287]) rfl ?_
          rcases (show u287.toInt = 1 ∨ u287.toInt = 0 by omega) with c293 | c293
          · obtain rfl : u287 = 1 := i_is c293 (by decide)
            replace hw291 := hw291 (by decide)
            refine W.eq (g2 := F0 m 66 ls [.int 1]) rfl ?_
            refine lv_if_eq (tgt := 91) hx hb dX10_world_66 (by decide) (fun c294 => ?_) (fun c294 => ?_)
            · exact absurd c294 (by decide)
            refine lv_iload hx hb dX10_world_69 (lv_at hl 1 rfl) ?_
            refine lv_if_eq (tgt := 91) hx hb dX10_world_71 (by decide) (fun c295 => ?_) (fun c295 => ?_)
            rotate_left
            · exact absurd c295 (by decide)
            refine lv_iconst (v := (-1)) hx hb dX10_world_91 (by decide) ?_
            refine W.widen (k := 1) (n := 6) (Nat.le_of_ble_eq_true rfl) (Nat.le_of_ble_eq_true rfl) ?_
            have zim1 : ((-1) : Int32).toInt = -1 := by decide
            exact W.iret (v := (-1)) hx hb hr (fun t ht hW => ⟨⟨(((-1)), ws, T, g), rfl, ⟨TLe.rf, hT, KF.rf, KF.rf, GJ.rf, (show ∀ s0, q p0 0 = some s0 → GQE g g s0 2 from (fun s0 _ => Or.inl rfl)), (show ∀ s0 sr, q p0 0 = some s0 → q s0 1 = some sr → NNL g q s0 sr → ((((2 ≤ p2.toInt ∧ p2.toInt ≤ 599) ∧ (0 ≤ p3.toInt ∧ p3.toInt ≤ 599) ∧ (1 ≤ p4.toInt ∧ p4.toInt ≤ 30) ∧ p4.toInt < p2.toInt ∧ (1 ≤ p5.toInt ∧ p5.toInt ≤ 30000)) ∧ (0 ≤ p1.toInt ∧ p1.toInt < (g s0 0).toInt) ∧ (g s0 2).toInt < 40) ∧ ((-1) : Int32).toInt = (g s0 2).toInt ∧ UPP T g g s0 2) ∨ (¬ (((2 ≤ p2.toInt ∧ p2.toInt ≤ 599) ∧ (0 ≤ p3.toInt ∧ p3.toInt ≤ 599) ∧ (1 ≤ p4.toInt ∧ p4.toInt ≤ 30) ∧ p4.toInt < p2.toInt ∧ (1 ≤ p5.toInt ∧ p5.toInt ≤ 30000)) ∧ (0 ≤ p1.toInt ∧ p1.toInt < (g s0 0).toInt) ∧ (g s0 2).toInt < 40) ∧ ((-1) : Int32).toInt = -1 ∧ g = g) from (fun s0 sr hs hq hn => by obtain rfl : s0 = a1 := Option.some.inj (hs.symm.trans h22); have k9 := hw292 _ sr hs hq hn; exact Or.inr ⟨by omega, by decide, rfl⟩))⟩, CB.mk ht hP hD⟩, hS.F ht⟩) hS.2.2 dX10_world_92
          · obtain rfl : u287 = 0 := i_is c293 (by decide)
            clear hw291
            refine W.eq (g2 := F0 m 66 ls [.int 0]) rfl ?_
            refine lv_if_eq (tgt := 91) hx hb dX10_world_66 (by decide) (fun c296 => ?_) (fun c296 => ?_)
            rotate_left
            · exact absurd c296 (by decide)
            refine lv_iconst (v := (-1)) hx hb dX10_world_91 (by decide) ?_
            refine W.widen (k := 1) (n := 6) (Nat.le_of_ble_eq_true rfl) (Nat.le_of_ble_eq_true rfl) ?_
            have zim1 : ((-1) : Int32).toInt = -1 := by decide
            exact W.iret (v := (-1)) hx hb hr (fun t ht hW => ⟨⟨(((-1)), ws, T, g), rfl, ⟨TLe.rf, hT, KF.rf, KF.rf, GJ.rf, (show ∀ s0, q p0 0 = some s0 → GQE g g s0 2 from (fun s0 _ => Or.inl rfl)), (show ∀ s0 sr, q p0 0 = some s0 → q s0 1 = some sr → NNL g q s0 sr → ((((2 ≤ p2.toInt ∧ p2.toInt ≤ 599) ∧ (0 ≤ p3.toInt ∧ p3.toInt ≤ 599) ∧ (1 ≤ p4.toInt ∧ p4.toInt ≤ 30) ∧ p4.toInt < p2.toInt ∧ (1 ≤ p5.toInt ∧ p5.toInt ≤ 30000)) ∧ (0 ≤ p1.toInt ∧ p1.toInt < (g s0 0).toInt) ∧ (g s0 2).toInt < 40) ∧ ((-1) : Int32).toInt = (g s0 2).toInt ∧ UPP T g g s0 2) ∨ (¬ (((2 ≤ p2.toInt ∧ p2.toInt ≤ 599) ∧ (0 ≤ p3.toInt ∧ p3.toInt ≤ 599) ∧ (1 ≤ p4.toInt ∧ p4.toInt ≤ 30) ∧ p4.toInt < p2.toInt ∧ (1 ≤ p5.toInt ∧ p5.toInt ≤ 30000)) ∧ (0 ≤ p1.toInt ∧ p1.toInt < (g s0 0).toInt) ∧ (g s0 2).toInt < 40) ∧ ((-1) : Int32).toInt = -1 ∧ g = g) from (fun s0 sr hs hq hn => by obtain rfl : s0 = a1 := Option.some.inj (hs.symm.trans h22); have k9 := hw292 _ sr hs hq hn; exact Or.inr ⟨by omega, by decide, rfl⟩))⟩, CB.mk ht hP hD⟩, hS.F ht⟩) hS.2.2 dX10_world_92
    · obtain rfl : u250 = 0 := i_is c255 (by decide)
      refine W.eq (g2 := F0 m 33 ls [.int 0]) rfl ?_
      refine lv_if_eq (tgt := 58) hx hb dX10_world_33 (by decide) (fun c297 => ?_) (fun c297 => ?_)
      rotate_left
      · exact absurd c297 (by decide)
      refine lv_iconst (v := 0) hx hb dX10_world_58 (by decide) ?_
      refine lv_istore (lv' := [(8, .int 0), (7, .int 0), (0, .ref p0), (1, .int p1), (2, .int p2), (3, .int p3), (4, .int p4), (5, .int p5), (6, .int p6)]) hx hb dX10_world_59 hl (by decide) rfl (fun ls hl => ?_)
      refine lv_aload_n hx hb dX10_world_61 rfl (lv_at hl 2 rfl) ?_
      refine lv_iload_n hx hb dX10_world_62 rfl (lv_at hl 3 rfl) ?_
      refine cga (rn_V (As := [.int p1]) (rest := []) (b := p0) (x_isStarS l D Y Z H.size ws T g q p0 p1 hT ht0) ⟨hx, hb, hml, hown, hg⟩ lk_X10_137 ⟨CPC.blind, va_recv hKN.1 hP (ci := 10) (q0 := p42) rfl hk43, CPC.at hP hKN hD hSZ hS hA⟩ ⟨⟨rfl, rfl⟩, ⟨Nat.le_of_ble_eq_true rfl, Nat.le_of_ble_eq_true rfl⟩, ⟨(Nat.le_of_ble_eq_true rfl), (Nat.le_of_ble_eq_true rfl)⟩⟩ hl.1 rfl (Nat.le_of_ble_eq_true rfl) dX10_world_63) hP hD hS hA (fun u298 H locs hw299 hP hD hS => ?_)
      obtain ⟨hw301, hw302, hw303⟩ : (0 ≤ u298.toInt ∧ u298.toInt ≤ 1) ∧ (u298.toInt = 1 → (0 ≤ p1.toInt ∧ p1.toInt ≤ 11)) ∧ (∀ s0 sr, q p0 0 = some s0 → q s0 1 = some sr → NNL g q s0 sr → (u298.toInt = 1 ↔ (0 ≤ p1.toInt ∧ p1.toInt < (g s0 0).toInt))) := hw299
      refine W.eq (g2 := F0 m 66 ls [.int u298]) rfl ?_
      rcases (show u298.toInt = 1 ∨ u298.toInt = 0 by omega) with c304 | c304
      · obtain rfl : u298 = 1 := i_is c304 (by decide)
        replace hw302 := hw302 (by decide)
        refine W.eq (g2 := F0 m 66 ls [.int 1]) rfl ?_
        refine lv_if_eq (tgt := 91) hx hb dX10_world_66 (by decide) (fun c305 => ?_) (fun c305 => ?_)
        · exact absurd c305 (by decide)
        refine lv_iload hx hb dX10_world_69 (lv_at hl 1 rfl) ?_
        refine lv_if_eq (tgt := 91) hx hb dX10_world_71 (by decide) (fun c306 => ?_) (fun c306 => ?_)
        rotate_left
        · exact absurd c306 (by decide)
        refine lv_iconst (v := (-1)) hx hb dX10_world_91 (by decide) ?_
        refine W.widen (k := 1) (n := 6) (Nat.le_of_ble_eq_true rfl) (Nat.le_of_ble_eq_true rfl) ?_
        have zim1 : ((-1) : Int32).toInt = -1 := by decide
        exact W.iret (v := (-1)) hx hb hr (fun t ht hW => ⟨⟨(((-1)), ws, T, g), rfl, ⟨TLe.rf, hT, KF.rf, KF.rf, GJ.rf, (show ∀ s0, q p0 0 = some s0 → GQE g g s0 2 from (fun s0 _ => Or.inl rfl)), (show ∀ s0 sr, q p0 0 = some s0 → q s0 1 = some sr → NNL g q s0 sr → ((((2 ≤ p2.toInt ∧ p2.toInt ≤ 599) ∧ (0 ≤ p3.toInt ∧ p3.toInt ≤ 599) ∧ (1 ≤ p4.toInt ∧ p4.toInt ≤ 30) ∧ p4.toInt < p2.toInt ∧ (1 ≤ p5.toInt ∧ p5.toInt ≤ 30000)) ∧ (0 ≤ p1.toInt ∧ p1.toInt < (g s0 0).toInt) ∧ (g s0 2).toInt < 40) ∧ ((-1) : Int32).toInt = (g s0 2).toInt ∧ UPP T g g s0 2) ∨ (¬ (((2 ≤ p2.toInt ∧ p2.toInt ≤ 599) ∧ (0 ≤ p3.toInt ∧ p3.toInt ≤ 599) ∧ (1 ≤ p4.toInt ∧ p4.toInt ≤ 30) ∧ p4.toInt < p2.toInt ∧ (1 ≤ p5.toInt ∧ p5.toInt ≤ 30000)) ∧ (0 ≤ p1.toInt ∧ p1.toInt < (g s0 0).toInt) ∧ (g s0 2).toInt < 40) ∧ ((-1) : Int32).toInt = -1 ∧ g = g) from (fun s0 sr hs hq hn => by obtain rfl : s0 = a1 := Option.some.inj (hs.symm.trans h22); have k9 := hw303 _ sr hs hq hn; exact Or.inr ⟨by omega, by decide, rfl⟩))⟩, CB.mk ht hP hD⟩, hS.F ht⟩) hS.2.2 dX10_world_92
      · obtain rfl : u298 = 0 := i_is c304 (by decide)
        clear hw302
        refine W.eq (g2 := F0 m 66 ls [.int 0]) rfl ?_
        refine lv_if_eq (tgt := 91) hx hb dX10_world_66 (by decide) (fun c307 => ?_) (fun c307 => ?_)
        rotate_left
        · exact absurd c307 (by decide)
        refine lv_iconst (v := (-1)) hx hb dX10_world_91 (by decide) ?_
        refine W.widen (k := 1) (n := 6) (Nat.le_of_ble_eq_true rfl) (Nat.le_of_ble_eq_true rfl) ?_
        have zim1 : ((-1) : Int32).toInt = -1 := by decide
        exact W.iret (v := (-1)) hx hb hr (fun t ht hW => ⟨⟨(((-1)), ws, T, g), rfl, ⟨TLe.rf, hT, KF.rf, KF.rf, GJ.rf, (show ∀ s0, q p0 0 = some s0 → GQE g g s0 2 from (fun s0 _ => Or.inl rfl)), (show ∀ s0 sr, q p0 0 = some s0 → q s0 1 = some sr → NNL g q s0 sr → ((((2 ≤ p2.toInt ∧ p2.toInt ≤ 599) ∧ (0 ≤ p3.toInt ∧ p3.toInt ≤ 599) ∧ (1 ≤ p4.toInt ∧ p4.toInt ≤ 30) ∧ p4.toInt < p2.toInt ∧ (1 ≤ p5.toInt ∧ p5.toInt ≤ 30000)) ∧ (0 ≤ p1.toInt ∧ p1.toInt < (g s0 0).toInt) ∧ (g s0 2).toInt < 40) ∧ ((-1) : Int32).toInt = (g s0 2).toInt ∧ UPP T g g s0 2) ∨ (¬ (((2 ≤ p2.toInt ∧ p2.toInt ≤ 599) ∧ (0 ≤ p3.toInt ∧ p3.toInt ≤ 599) ∧ (1 ≤ p4.toInt ∧ p4.toInt ≤ 30) ∧ p4.toInt < p2.toInt ∧ (1 ≤ p5.toInt ∧ p5.toInt ≤ 30000)) ∧ (0 ≤ p1.toInt ∧ p1.toInt < (g s0 0).toInt) ∧ (g s0 2).toInt < 40) ∧ ((-1) : Int32).toInt = -1 ∧ g = g) from (fun s0 sr hs hq hn => by obtain rfl : s0 = a1 := Option.some.inj (hs.symm.trans h22); have k9 := hw303 _ sr hs hq hn; exact Or.inr ⟨by omega, by decide, rfl⟩))⟩, CB.mk ht hP hD⟩, hS.F ht⟩) hS.2.2 dX10_world_92
