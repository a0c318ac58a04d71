set_option maxHeartbeats 4000000 in
set_option maxRecDepth 100000 in
theorem x_X5_addHours (l : Launch) (D : va_G) (Y : Nat → ClassId) (Z : Nat → Nat) (sz : Nat) (ws : va_W) (T : RT) (g : GN) (q : GQ)  (p0 : Nat) (p1 : Nat) (p2 : Nat) (pp2 : Nat) (o2_0 : Int32) (o2_1 : Int32) (o2_2 : Int32) (o2_3 : Int32) (o2_4 : Int32) (o2_5 : Int64) (o2_6 : Int64) (hT : TW Y Z T g q ws) (ht0 : T p0 = (11, 0, 0)) (ht1 : T p1 = (9, 0, 0)) (ht2 : T p2 = (6, 0, 0)) (hk2 : ws[pp2]? = some (p2, .inr (1, [.int o2_0, .int o2_1, .int o2_2, .int o2_3, .int o2_4, .long o2_5, .long o2_6]))) (hp0 : (1 ≤ o2_1.toInt)) : Met l yX5_addHours (.code yX5_addHours cX5_addHours 10 none :: GW) ({ frames := 1, cells := 0, slots := 0, locals := 22 }) (va_Pc [.ref p0, .ref p1, .ref p2] (CPC D Y Z ws sz)) (QG (S := va_W) (fun _ => none) (fun u => TW Y Z T g q u ∧ KF 1 T ws u ∧ KF 6 T ws u) (fun u => CB D u (va_A ws sz)) (va_A ws sz)) 0 0 (va_A ws sz) := by
  refine Met.ofW (cc := cX5_addHours) (maxL := 10) (ret := none) (by decide) rfl ?_
  intro p e s m args below meth c s₁ B hml hv
  obtain ⟨rfl, ⟨hsz, hP, hKN, hD0⟩, hSZ⟩ := hv
  have hx := B.exec
  have hb := B.bytes
  have hr := B.returns
  have hts := atoms_spec (ws := .code yX5_addHours cX5_addHours 10 none :: GW) B.pre
  have hg : ∀ w ∈ GW, w.before _ s = true := fun w h => hts w (List.mem_cons_of_mem _ h)
  have hown : s.vm.findClass RX5 = some m.cls := findClass_of_methodNamed B.named
  have hlocks := B.notSynchronized
  subst hsz
  have hD := hD0.self (sz := s.heap.size)
  generalize hAe : va_A ws s.heap.size = A at hD hSZ ⊢
  have hA : ∀ q : Nat, s.heap.size ≤ q → A q := fun q h => by rw [← hAe]; exact Or.inr h
  clear hAe hD0 hts B
  have hl := lv_entry ([.ref p0, .ref p1, .ref p2]) (n := 10) (Nat.le_of_ble_eq_true rfl)
  rw [lg_entry_eq]
  generalize (lg_sl ([.ref p0, .ref p1, .ref p2]) ++ List.replicate (10 - (lg_sl ([.ref p0, .ref p1, .ref p2])).length) Slot.unset).toArray = ls at hl ⊢
  have hl : lv_has ls 10 [(0, .ref p0), (1, .ref p1), (2, .ref p2)] := hl
  refine w_start (A0 := A) hP (fun H locs hP hS => ?_)
  obtain ⟨x9_0, x9_1, x9_2, x9_3, x9_4, x9_5, x9_6, he9, ho2_1rng⟩ := (tw_at (k := 6) hT hk2 ht2 : Sh6 Y Z T (g p2) (q p2) 0 0 _)
  cases he9
  refine lv_aload_n hx hb dX5_addHours_0 rfl (lv_at hl 2 rfl) ?_
  refine va_getN (D := D) (ci := 1) (v := .int o2_2) (C := RX1) (T := TX1) (N := 7) hx hb hg inGX1 hown hKN.1 hP pp2 hk2 rfl 2 (by decide) (va_Nw.use rfl (hKN.2.1 _ kn_315 rfl)) (fun _ h9 => h9) rfl dX5_addHours_1 ?_
  refine lv_iconst (v := 3) hx hb dX5_addHours_4 (by decide) ?_
  have zi3 : (3 : Int32).toInt = 3 := by decide
  refine lv_idiv hx hb dX5_addHours_5 (i_nz (show (3 : Int32).toInt = 3 by decide) (by omega)) ?_
  refine lv_topi (fun v1 ev1 => ?_)
  have hv1 := i_divS (Eq.refl o2_2.toInt) (show (3 : Int32).toInt = 3 by decide) ev1 (by omega)
  refine lv_istore_n (lv' := [(3, .int v1), (0, .ref p0), (1, .ref p1), (2, .ref p2)]) hx hb dX5_addHours_6 rfl hl (by decide) rfl (fun ls hl => ?_)
  refine lv_iconst (v := 0) hx hb dX5_addHours_7 (by decide) ?_
  refine lv_istore (lv' := [(4, .int 0), (3, .int v1), (0, .ref p0), (1, .ref p1), (2, .ref p2)]) hx hb dX5_addHours_8 hl (by decide) rfl (fun ls hl => ?_)
  have zi0 : (0 : Int32).toInt = 0 := by decide
  refine w_loop (σ := Int32 × va_W) (fun xx H locs ls => match xx with | (v242, w243) => va_P D vwCl w243 H ∧ va_D A w243 ∧ va_S A s.heap H locs ∧ lv_has ls 10 [(4, .int v242), (3, .int v1), (0, .ref p0), (1, .ref p1), (2, .ref p2)] ∧ TW Y Z T g q w243 ∧ KF 1 T ws w243 ∧ KF 6 T ws w243 ∧ (0 ≤ v242.toInt ∧ v242.toInt ≤ 600)) (fun xx => match xx with | (v242, w243) => (600 - v242.toInt).toNat) (0, ws) ⟨hP, hD, hS, lv_sub hl [0, 1, 2, 3, 4] rfl, hT, KF.rf, KF.rf, by omega⟩ (fun xx H locs ls hI ih => ?_)
  obtain ⟨v242, w243⟩ := xx
  obtain ⟨hP, hD, hS, hl, hT, ke502, ke503, hq501⟩ := hI
  have hk504 := ke503 _ _ hk2 (show (T p2).1 = 6 by rw [ht2])
  have ih505 := ih
  refine lv_iload hx hb dX5_addHours_10 (lv_at hl 0 rfl) ?_
  refine lv_aload_n hx hb dX5_addHours_12 rfl (lv_at hl 3 rfl) ?_
  refine ok9 hT ht1 (fun p518 a506 a507 a508 x509 y510 y511 x512 y513 hk519 h514 h515 h516 h517 => ?_)
  refine va_getN (D := D) (ci := 2) (v := .int x509) (C := RX2) (T := TX2) (N := 8) hx hb hg inGX2 hown hKN.1 hP p518 hk519 rfl 3 (by decide) (va_Nw.use rfl (hKN.2.1 _ kn_241 rfl)) (fun _ h9 => h9) rfl dX5_addHours_13 ?_
  refine lv_icmp_ge (tgt := 156) hx hb dX5_addHours_16 (by decide) (fun c520 => ?_) (fun c520 => ?_)
  · skip
    have c520 := i_le (Eq.refl x509.toInt) (Eq.refl v242.toInt) c520
    refine W.widen (k := 0) (n := 0) (Nat.le_of_ble_eq_true rfl) (Nat.le_of_ble_eq_true rfl) ?_
    exact W.vret hx hb hr (fun t ht hW => ⟨⟨w243, rfl, ⟨hT, ke502, ke503⟩, CB.mk ht hP hD⟩, hS.F ht⟩) hS.2.2 dX5_addHours_156
  · skip
    have c520 := i_nle (Eq.refl x509.toInt) (Eq.refl v242.toInt) c520
    refine lv_aload_n hx hb dX5_addHours_19 rfl (lv_at hl 3 rfl) ?_
    refine va_getN (D := D) (ci := 2) (v := .ref a507) (C := RX2) (T := TX2) (N := 8) hx hb hg inGX2 hown hKN.1 hP p518 hk519 rfl 1 (by decide) (va_Nw.use rfl (hKN.2.1 _ kn_237 rfl)) (fun _ h9 => h9) rfl dX5_addHours_20 ?_
    refine lv_iload hx hb dX5_addHours_23 (lv_at hl 0 rfl) ?_
    refine tr_ld13 hx hb hKN hP hT h515 (vp_in_iff.mpr ⟨by omega, by omega⟩) dX5_addHours_25 (fun v521 hv521 => ?_)
    refine lv_istore (lv' := [(5, .int v521), (4, .int v242), (3, .int v1), (0, .ref p0), (1, .ref p1), (2, .ref p2)]) hx hb dX5_addHours_26 hl (by decide) rfl (fun ls hl => ?_)
    refine lv_aload_n hx hb dX5_addHours_28 rfl (lv_at hl 4 rfl) ?_
    refine va_getN (D := D) (ci := 2) (v := .ref a506) (C := RX2) (T := TX2) (N := 8) hx hb hg inGX2 hown hKN.1 hP p518 hk519 rfl 0 (by decide) (va_Nw.use rfl (hKN.2.1 _ kn_233 rfl)) (fun _ h9 => h9) rfl dX5_addHours_29 ?_
    refine lv_iload hx hb dX5_addHours_32 (lv_at hl 0 rfl) ?_
    refine tr_ld12 hx hb hKN hP hT h514 (vp_in_iff.mpr ⟨by omega, by omega⟩) dX5_addHours_34 (fun v522 => ?_)
    refine lv_istore (lv' := [(6, .int v522), (5, .int v521), (4, .int v242), (3, .int v1), (0, .ref p0), (1, .ref p1), (2, .ref p2)]) hx hb dX5_addHours_35 hl (by decide) rfl (fun ls hl => ?_)
    refine lv_iload hx hb dX5_addHours_37 (lv_at hl 1 rfl) ?_
    refine lv_aload_n hx hb dX5_addHours_39 rfl (lv_at hl 6 rfl) ?_
    refine va_getN (D := D) (ci := 1) (v := .int o2_3) (C := RX1) (T := TX1) (N := 7) hx hb hg inGX1 hown hKN.1 hP pp2 hk504 rfl 3 (by decide) (va_Nw.use rfl (hKN.2.1 _ kn_320 rfl)) (fun _ h9 => h9) rfl dX5_addHours_40 ?_
    refine lv_isub hx hb dX5_addHours_43 ?_
    refine lv_topi (fun v523 ev523 => ?_)
    refine lv_aload_n hx hb dX5_addHours_44 rfl (lv_at hl 6 rfl) ?_
    refine va_getN (D := D) (ci := 1) (v := .int o2_1) (C := RX1) (T := TX1) (N := 7) hx hb hg inGX1 hown hKN.1 hP pp2 hk504 rfl 1 (by decide) (va_Nw.use rfl (hKN.2.1 _ kn_311 rfl)) (fun _ h9 => h9) rfl dX5_addHours_45 ?_
    refine cg0 (rn_S (As := [.int v523, .int o2_1]) (rest := []) (x_J9_floorMod_7cf53 l D Y Z H.size v523 o2_1 (show (o2_1.toInt ≠ 0) by omega)) ⟨hx, hb, hml, hown, hg⟩ lk_X5_68 ⟨CP.blind, CP.at nilP hKN (nilD (A := fun _ => True))⟩ ⟨⟨rfl, rfl⟩, ⟨Nat.le_of_ble_eq_true rfl, Nat.le_of_ble_eq_true rfl⟩, ⟨(Nat.le_of_ble_eq_true rfl), (Nat.le_of_ble_eq_true rfl)⟩⟩ hl.1 rfl (Nat.le_of_ble_eq_true rfl) dX5_addHours_48) hP hS hA (fun u524 H locs hw525 hP hS => ?_)
    refine W.eq (g2 := F0 m 51 ls [.int u524]) rfl ?_
    refine lv_istore (lv' := [(7, .int u524), (6, .int v522), (5, .int v521), (4, .int v242), (3, .int v1), (0, .ref p0), (1, .ref p1), (2, .ref p2)]) hx hb dX5_addHours_51 hl (by decide) rfl (fun ls hl => ?_)
    refine lv_iload hx hb dX5_addHours_53 (lv_at hl 0 rfl) ?_
    refine lv_aload_n hx hb dX5_addHours_55 rfl (lv_at hl 7 rfl) ?_
    refine va_getN (D := D) (ci := 1) (v := .int o2_2) (C := RX1) (T := TX1) (N := 7) hx hb hg inGX1 hown hKN.1 hP pp2 hk504 rfl 2 (by decide) (va_Nw.use rfl (hKN.2.1 _ kn_315 rfl)) (fun _ h9 => h9) rfl dX5_addHours_56 ?_
    have j527 := rgI u524
    have j528 := rgI o2_2
    refine lv_icmp_lt (tgt := 72) hx hb dX5_addHours_59 (by decide) (fun c529 => ?_) (fun c529 => ?_)
    · skip
      have c529 := i_lt (Eq.refl u524.toInt) (Eq.refl o2_2.toInt) c529
      refine lv_iload hx hb dX5_addHours_72 (lv_at hl 0 rfl) ?_
      refine lv_iload_n hx hb dX5_addHours_74 rfl (lv_at hl 4 rfl) ?_
      have j530 := rgI v1
      refine lv_icmp_lt (tgt := 95) hx hb dX5_addHours_75 (by decide) (fun c531 => ?_) (fun c531 => ?_)
      · skip
        have c531 := i_lt (Eq.refl u524.toInt) (Eq.refl v1.toInt) c531
        refine lv_iconst (v := 0) hx hb dX5_addHours_95 (by decide) ?_
        refine lv_istore (lv' := [(8, .int 0), (7, .int u524), (6, .int v522), (5, .int v521), (4, .int v242), (3, .int v1), (0, .ref p0), (1, .ref p1), (2, .ref p2)]) hx hb dX5_addHours_96 hl (by decide) rfl (fun ls hl => ?_)
        refine lv_aload_n hx hb dX5_addHours_98 rfl (lv_at hl 6 rfl) ?_
        refine lv_iload hx hb dX5_addHours_99 (lv_at hl 0 rfl) ?_
        refine lv_if_eq (tgt := 108) hx hb dX5_addHours_101 (by decide) (fun c532 => ?_) (fun c532 => ?_)
        rotate_left
        · exact absurd c532 (by decide)
        refine lv_iconst (v := 4) hx hb dX5_addHours_108 (by decide) ?_
        refine lv_iload hx hb dX5_addHours_109 (lv_at hl 2 rfl) ?_
        have zi4 : (4 : Int32).toInt = 4 := by decide
        refine ok11 hT ht0 (fun p541 a533 a534 a535 a536 hk542 h537 h538 h539 h540 => ?_)
        refine cga (rn_V (As := [.int 4, .int v522]) (rest := []) (b := p0) (x_X5_add l D Y Z H.size w243 T g q p0 4 v522 hT ht0 (show (0 ≤ (4 : Int32).toInt ∧ (4 : Int32).toInt ≤ 4) by omega)) ⟨hx, hb, hml, hown, hg⟩ lk_X5_74 ⟨CPC.blind, va_recv hKN.1 hP (ci := 5) (q0 := p541) rfl hk542, CPC.at hP hKN hD hSZ hS hA⟩ ⟨⟨rfl, rfl⟩, ⟨Nat.le_of_ble_eq_true rfl, Nat.le_of_ble_eq_true rfl⟩, ⟨(Nat.le_of_ble_eq_true rfl), (Nat.le_of_ble_eq_true rfl)⟩⟩ hl.1 rfl (Nat.le_of_ble_eq_true rfl) dX5_addHours_111) hP hD hS hA (fun u543 H locs hw544 hP hD hS => ?_)
        obtain ⟨hT, ke546, ke547⟩ : TW Y Z T g q u543 ∧ KF 1 T w243 u543 ∧ KF 6 T w243 u543 := hw544
        have hk548 := ke547 _ _ hk504 (show (T p2).1 = 6 by rw [ht2])
        have ke549 : KF 1 T ws u543 := KF.tr ke502 ke546
        have ke550 : KF 6 T ws u543 := KF.tr ke503 ke547
        refine W.eq (g2 := F0 m 114 ls []) rfl ?_
        refine lv_iload hx hb dX5_addHours_114 (lv_at hl 3 rfl) ?_
        refine lv_aload_n hx hb dX5_addHours_116 rfl (lv_at hl 8 rfl) ?_
        refine va_getN (D := D) (ci := 1) (v := .int o2_3) (C := RX1) (T := TX1) (N := 7) hx hb hg inGX1 hown hKN.1 hP pp2 hk548 rfl 3 (by decide) (va_Nw.use rfl (hKN.2.1 _ kn_320 rfl)) (fun _ h9 => h9) rfl dX5_addHours_117 ?_
        refine lv_isub hx hb dX5_addHours_120 ?_
        refine lv_topi (fun v551 ev551 => ?_)
        refine lv_aload_n hx hb dX5_addHours_121 rfl (lv_at hl 8 rfl) ?_
        refine va_getN (D := D) (ci := 1) (v := .int o2_1) (C := RX1) (T := TX1) (N := 7) hx hb hg inGX1 hown hKN.1 hP pp2 hk548 rfl 1 (by decide) (va_Nw.use rfl (hKN.2.1 _ kn_311 rfl)) (fun _ h9 => h9) rfl dX5_addHours_122 ?_
        refine cg0 (rn_S (As := [.int v551, .int o2_1]) (rest := []) (x_J9_floorDiv_7cf53 l D Y Z H.size v551 o2_1 (show (o2_1.toInt ≠ 0) by omega)) ⟨hx, hb, hml, hown, hg⟩ lk_X5_78 ⟨CP.blind, CP.at nilP hKN (nilD (A := fun _ => True))⟩ ⟨⟨rfl, rfl⟩, ⟨Nat.le_of_ble_eq_true rfl, Nat.le_of_ble_eq_true rfl⟩, ⟨(Nat.le_of_ble_eq_true rfl), (Nat.le_of_ble_eq_true rfl)⟩⟩ hl.1 rfl (Nat.le_of_ble_eq_true rfl) dX5_addHours_125) hP hS hA (fun u552 H locs hw553 hP hS => ?_)
        refine W.eq (g2 := F0 m 128 ls [.int u552]) rfl ?_
        refine lv_istore (lv' := [(9, .int u552), (8, .int 0), (7, .int u524), (6, .int v522), (5, .int v521), (4, .int v242), (3, .int v1), (0, .ref p0), (1, .ref p1), (2, .ref p2)]) hx hb dX5_addHours_128 hl (by decide) rfl (fun ls hl => ?_)
        refine lv_aload_n hx hb dX5_addHours_130 rfl (lv_at hl 7 rfl) ?_
        refine lv_iload hx hb dX5_addHours_131 (lv_at hl 0 rfl) ?_
        refine lv_iconst (v := 2) hx hb dX5_addHours_133 (by decide) ?_
        have zi2 : (2 : Int32).toInt = 2 := by decide
        refine cg0 (rn_S (As := [.int u552, .int 2]) (rest := [.ref p0]) (x_J9_floorMod_7cf53 l D Y Z H.size u552 2 (show ((2 : Int32).toInt ≠ 0) by omega)) ⟨hx, hb, hml, hown, hg⟩ lk_X5_68 ⟨CP.blind, CP.at nilP hKN (nilD (A := fun _ => True))⟩ ⟨⟨rfl, rfl⟩, ⟨Nat.le_of_ble_eq_true rfl, Nat.le_of_ble_eq_true rfl⟩, ⟨(Nat.le_of_ble_eq_true rfl), (Nat.le_of_ble_eq_true rfl)⟩⟩ hl.1 rfl (Nat.le_of_ble_eq_true rfl) dX5_addHours_134) hP hS hA (fun u555 H locs hw556 hP hS => ?_)
        refine W.eq (g2 := F0 m 137 ls [.int u555, .ref p0]) rfl ?_
        have j558 := rgI u555
        refine lv_if_ne (tgt := 144) hx hb dX5_addHours_137 (by decide) (fun c559 => ?_) (fun c559 => ?_)
        · skip
          have c559 := i_ne (Eq.refl u555.toInt) (show (0 : Int32).toInt = 0 by decide) c559
          refine lv_iconst (v := 2) hx hb dX5_addHours_144 (by decide) ?_
          refine lv_iload hx hb dX5_addHours_145 (lv_at hl 3 rfl) ?_
          refine ok11 hT ht0 (fun p568 a560 a561 a562 a563 hk569 h564 h565 h566 h567 => ?_)
          refine cga (rn_V (As := [.int 2, .int v522]) (rest := []) (b := p0) (x_X5_add l D Y Z H.size u543 T g q p0 2 v522 hT ht0 (show (0 ≤ (2 : Int32).toInt ∧ (2 : Int32).toInt ≤ 4) by omega)) ⟨hx, hb, hml, hown, hg⟩ lk_X5_74 ⟨CPC.blind, va_recv hKN.1 hP (ci := 5) (q0 := p568) rfl hk569, CPC.at hP hKN hD hSZ hS hA⟩ ⟨⟨rfl, rfl⟩, ⟨Nat.le_of_ble_eq_true rfl, Nat.le_of_ble_eq_true rfl⟩, ⟨(Nat.le_of_ble_eq_true rfl), (Nat.le_of_ble_eq_true rfl)⟩⟩ hl.1 rfl (Nat.le_of_ble_eq_true rfl) dX5_addHours_147) hP hD hS hA (fun u570 H locs hw571 hP hD hS => ?_)
          obtain ⟨hT, ke573, ke574⟩ : TW Y Z T g q u570 ∧ KF 1 T u543 u570 ∧ KF 6 T u543 u570 := hw571
          have hk575 := ke574 _ _ hk548 (show (T p2).1 = 6 by rw [ht2])
          have ke576 : KF 1 T ws u570 := KF.tr ke549 ke573
          have ke577 : KF 6 T ws u570 := KF.tr ke550 ke574
          refine W.eq (g2 := F0 m 150 ls []) rfl ?_
          obtain ⟨v578, ev578⟩ : ∃ y : Int32, y = v242 + 1 := ⟨_, rfl⟩
          have hv578 := i_add (Eq.refl v242.toInt) (show (1 : Int32).toInt = 1 by decide) ev578 (by omega) (by omega)
          refine lv_iinc (v := v578) (lv' := [(4, .int v578), (9, .int u552), (8, .int 0), (7, .int u524), (6, .int v522), (5, .int v521), (3, .int v1), (0, .ref p0), (1, .ref p1), (2, .ref p2)]) hx hb dX5_addHours_150 hl (k := 5) rfl (by rw [ev578]; rfl) (by decide) rfl (fun ls hl => ?_)
          refine lv_goto (tgt := 10) hx hb dX5_addHours_153 (by decide) ?_
          have zi0 : (0 : Int32).toInt = 0 := by decide
          exact ih505 (v578, u570) H locs ls (by show (600 - v578.toInt).toNat < (600 - v242.toInt).toNat; omega) ⟨hP, hD, hS, lv_sub hl [0, 6, 7, 8, 9] rfl, hT, ke576, ke577, by omega⟩
        · skip
          have c559 := i_eq (Eq.refl u555.toInt) (show (0 : Int32).toInt = 0 by decide) c559
          refine lv_iconst (v := 1) hx hb dX5_addHours_140 (by decide) ?_
          refine lv_goto (tgt := 145) hx hb dX5_addHours_141 (by decide) ?_
          refine lv_iload hx hb dX5_addHours_145 (lv_at hl 3 rfl) ?_
          have zi1 : (1 : Int32).toInt = 1 := by decide
          refine ok11 hT ht0 (fun p587 a579 a580 a581 a582 hk588 h583 h584 h585 h586 => ?_)
          refine cga (rn_V (As := [.int 1, .int v522]) (rest := []) (b := p0) (x_X5_add l D Y Z H.size u543 T g q p0 1 v522 hT ht0 (show (0 ≤ (1 : Int32).toInt ∧ (1 : Int32).toInt ≤ 4) by omega)) ⟨hx, hb, hml, hown, hg⟩ lk_X5_74 ⟨CPC.blind, va_recv hKN.1 hP (ci := 5) (q0 := p587) rfl hk588, CPC.at hP hKN hD hSZ hS hA⟩ ⟨⟨rfl, rfl⟩, ⟨Nat.le_of_ble_eq_true rfl, Nat.le_of_ble_eq_true rfl⟩, ⟨(Nat.le_of_ble_eq_true rfl), (Nat.le_of_ble_eq_true rfl)⟩⟩ hl.1 rfl (Nat.le_of_ble_eq_true rfl) dX5_addHours_147) hP hD hS hA (fun u589 H locs hw590 hP hD hS => ?_)
          obtain ⟨hT, ke592, ke593⟩ : TW Y Z T g q u589 ∧ KF 1 T u543 u589 ∧ KF 6 T u543 u589 := hw590
          have hk594 := ke593 _ _ hk548 (show (T p2).1 = 6 by rw [ht2])
          have ke595 : KF 1 T ws u589 := KF.tr ke549 ke592
          have ke596 : KF 6 T ws u589 := KF.tr ke550 ke593
          refine W.eq (g2 := F0 m 150 ls []) rfl ?_
          obtain ⟨v597, ev597⟩ : ∃ y : Int32, y = v242 + 1 := ⟨_, rfl⟩
          have hv597 := i_add (Eq.refl v242.toInt) (show (1 : Int32).toInt = 1 by decide) ev597 (by omega) (by omega)
          refine lv_iinc (v := v597) (lv' := [(4, .int v597), (9, .int u552), (8, .int 0), (7, .int u524), (6, .int v522), (5, .int v521), (3, .int v1), (0, .ref p0), (1, .ref p1), (2, .ref p2)]) hx hb dX5_addHours_150 hl (k := 5) rfl (by rw [ev597]; rfl) (by decide) rfl (fun ls hl => ?_)
          refine lv_goto (tgt := 10) hx hb dX5_addHours_153 (by decide) ?_
          have zi0 : (0 : Int32).toInt = 0 := by decide
          exact ih505 (v597, u589) H locs ls (by show (600 - v597.toInt).toNat < (600 - v242.toInt).toNat; omega) ⟨hP, hD, hS, lv_sub hl [0, 6, 7, 8, 9] rfl, hT, ke595, ke596, by omega⟩
      · skip
        have c531 := i_nlt (Eq.refl u524.toInt) (Eq.refl v1.toInt) c531
        refine lv_iload hx hb dX5_addHours_78 (lv_at hl 0 rfl) ?_
        refine lv_aload_n hx hb dX5_addHours_80 rfl (lv_at hl 7 rfl) ?_
        refine va_getN (D := D) (ci := 1) (v := .int o2_2) (C := RX1) (T := TX1) (N := 7) hx hb hg inGX1 hown hKN.1 hP pp2 hk504 rfl 2 (by decide) (va_Nw.use rfl (hKN.2.1 _ kn_315 rfl)) (fun _ h9 => h9) rfl dX5_addHours_81 ?_
        refine lv_iconst (v := 1) hx hb dX5_addHours_84 (by decide) ?_
        refine lv_isub hx hb dX5_addHours_85 ?_
        refine lv_topi (fun v598 ev598 => ?_)
        have hv598 := i_sub (Eq.refl o2_2.toInt) (show (1 : Int32).toInt = 1 by decide) ev598 (by omega) (by omega)
        refine lv_iload_n hx hb dX5_addHours_86 rfl (lv_at hl 4 rfl) ?_
        refine lv_isub hx hb dX5_addHours_87 ?_
        refine lv_topi (fun v599 ev599 => ?_)
        have j600 := rgI v599
        refine lv_icmp_gt (tgt := 95) hx hb dX5_addHours_88 (by decide) (fun c601 => ?_) (fun c601 => ?_)
        · skip
          have c601 := i_lt (Eq.refl v599.toInt) (Eq.refl u524.toInt) c601
          refine lv_iconst (v := 0) hx hb dX5_addHours_95 (by decide) ?_
          refine lv_istore (lv' := [(8, .int 0), (7, .int u524), (6, .int v522), (5, .int v521), (4, .int v242), (3, .int v1), (0, .ref p0), (1, .ref p1), (2, .ref p2)]) hx hb dX5_addHours_96 hl (by decide) rfl (fun ls hl => ?_)
          refine lv_aload_n hx hb dX5_addHours_98 rfl (lv_at hl 6 rfl) ?_
          refine lv_iload hx hb dX5_addHours_99 (lv_at hl 0 rfl) ?_
          refine lv_if_eq (tgt := 108) hx hb dX5_addHours_101 (by decide) (fun c602 => ?_) (fun c602 => ?_)
          rotate_left
          · exact absurd c602 (by decide)
          refine lv_iconst (v := 4) hx hb dX5_addHours_108 (by decide) ?_
          refine lv_iload hx hb dX5_addHours_109 (lv_at hl 2 rfl) ?_
          have zi4 : (4 : Int32).toInt = 4 := by decide
          refine ok11 hT ht0 (fun p611 a603 a604 a605 a606 hk612 h607 h608 h609 h610 => ?_)
          refine cga (rn_V (As := [.int 4, .int v522]) (rest := []) (b := p0) (x_X5_add l D Y Z H.size w243 T g q p0 4 v522 hT ht0 (show (0 ≤ (4 : Int32).toInt ∧ (4 : Int32).toInt ≤ 4) by omega)) ⟨hx, hb, hml, hown, hg⟩ lk_X5_74 ⟨CPC.blind, va_recv hKN.1 hP (ci := 5) (q0 := p611) rfl hk612, CPC.at hP hKN hD hSZ hS hA⟩ ⟨⟨rfl, rfl⟩, ⟨Nat.le_of_ble_eq_true rfl, Nat.le_of_ble_eq_true rfl⟩, ⟨(Nat.le_of_ble_eq_true rfl), (Nat.le_of_ble_eq_true rfl)⟩⟩ hl.1 rfl (Nat.le_of_ble_eq_true rfl) dX5_addHours_111) hP hD hS hA (fun u613 H locs hw614 hP hD hS => ?_)
          obtain ⟨hT, ke616, ke617⟩ : TW Y Z T g q u613 ∧ KF 1 T w243 u613 ∧ KF 6 T w243 u613 := hw614
          have hk618 := ke617 _ _ hk504 (show (T p2).1 = 6 by rw [ht2])
          have ke619 : KF 1 T ws u613 := KF.tr ke502 ke616
          have ke620 : KF 6 T ws u613 := KF.tr ke503 ke617
          refine W.eq (g2 := F0 m 114 ls []) rfl ?_
          refine lv_iload hx hb dX5_addHours_114 (lv_at hl 3 rfl) ?_
          refine lv_aload_n hx hb dX5_addHours_116 rfl (lv_at hl 8 rfl) ?_
          refine va_getN (D := D) (ci := 1) (v := .int o2_3) (C := RX1) (T := TX1) (N := 7) hx hb hg inGX1 hown hKN.1 hP pp2 hk618 rfl 3 (by decide) (va_Nw.use rfl (hKN.2.1 _ kn_320 rfl)) (fun _ h9 => h9) rfl dX5_addHours_117 ?_
          refine lv_isub hx hb dX5_addHours_120 ?_
          refine lv_topi (fun v621 ev621 => ?_)
          refine lv_aload_n hx hb dX5_addHours_121 rfl (lv_at hl 8 rfl) ?_
          refine va_getN (D := D) (ci := 1) (v := .int o2_1) (C := RX1) (T := TX1) (N := 7) hx hb hg inGX1 hown hKN.1 hP pp2 hk618 rfl 1 (by decide) (va_Nw.use rfl (hKN.2.1 _ kn_311 rfl)) (fun _ h9 => h9) rfl dX5_addHours_122 ?_
          refine cg0 (rn_S (As := [.int v621, .int o2_1]) (rest := []) (x_J9_floorDiv_7cf53 l D Y Z H.size v621 o2_1 (show (o2_1.toInt ≠ 0) by omega)) ⟨hx, hb, hml, hown, hg⟩ lk_X5_78 ⟨CP.blind, CP.at nilP hKN (nilD (A := fun _ => True))⟩ ⟨⟨rfl, rfl⟩, ⟨Nat.le_of_ble_eq_true rfl, Nat.le_of_ble_eq_true rfl⟩, ⟨(Nat.le_of_ble_eq_true rfl), (Nat.le_of_ble_eq_true rfl)⟩⟩ hl.1 rfl (Nat.le_of_ble_eq_true rfl) dX5_addHours_125) hP hS hA (fun u622 H locs hw623 hP hS => ?_)
          refine W.eq (g2 := F0 m 128 ls [.int u622]) rfl ?_
          refine lv_istore (lv' := [(9, .int u622), (8, .int 0), (7, .int u524), (6, .int v522), (5, .int v521), (4, .int v242), (3, .int v1), (0, .ref p0), (1, .ref p1), (2, .ref p2)]) hx hb dX5_addHours_128 hl (by decide) rfl (fun ls hl => ?_)
          refine lv_aload_n hx hb dX5_addHours_130 rfl (lv_at hl 7 rfl) ?_
          refine lv_iload hx hb dX5_addHours_131 (lv_at hl 0 rfl) ?_
          refine lv_iconst (v := 2) hx hb dX5_addHours_133 (by decide) ?_
          have zi2 : (2 : Int32).toInt = 2 := by decide
          refine cg0 (rn_S (As := [.int u622, .int 2]) (rest := [.ref p0]) (x_J9_floorMod_7cf53 l D Y Z H.size u622 2 (show ((2 : Int32).toInt ≠ 0) by omega)) ⟨hx, hb, hml, hown, hg⟩ lk_X5_68 ⟨CP.blind, CP.at nilP hKN (nilD (A := fun _ => True))⟩ ⟨⟨rfl, rfl⟩, ⟨Nat.le_of_ble_eq_true rfl, Nat.le_of_ble_eq_true rfl⟩, ⟨(Nat.le_of_ble_eq_true rfl), (Nat.le_of_ble_eq_true rfl)⟩⟩ hl.1 rfl (Nat.le_of_ble_eq_true rfl) dX5_addHours_134) hP hS hA (fun u625 H locs hw626 hP hS => ?_)
          refine W.eq (g2 := F0 m 137 ls [.int u625, .ref p0]) rfl ?_
          have j628 := rgI u625
          refine lv_if_ne (tgt := 144) hx hb dX5_addHours_137 (by decide) (fun c629 => ?_) (fun c629 => ?_)
          · skip
            have c629 := i_ne (Eq.refl u625.toInt) (show (0 : Int32).toInt = 0 by decide) c629
            refine lv_iconst (v := 2) hx hb dX5_addHours_144 (by decide) ?_
            refine lv_iload hx hb dX5_addHours_145 (lv_at hl 3 rfl) ?_
            refine ok11 hT ht0 (fun p638 a630 a631 a632 a633 hk639 h634 h635 h636 h637 => ?_)
            refine cga (rn_V (As := [.int 2, .int v522]) (rest := []) (b := p0) (x_X5_add l D Y Z H.size u613 T g q p0 2 v522 hT ht0 (show (0 ≤ (2 : Int32).toInt ∧ (2 : Int32).toInt ≤ 4) by omega)) ⟨hx, hb, hml, hown, hg⟩ lk_X5_74 ⟨CPC.blind, va_recv hKN.1 hP (ci := 5) (q0 := p638) rfl hk639, CPC.at hP hKN hD hSZ hS hA⟩ ⟨⟨rfl, rfl⟩, ⟨Nat.le_of_ble_eq_true rfl, Nat.le_of_ble_eq_true rfl⟩, ⟨(Nat.le_of_ble_eq_true rfl), (Nat.le_of_ble_eq_true rfl)⟩⟩ hl.1 rfl (Nat.le_of_ble_eq_true rfl) dX5_addHours_147) hP hD hS hA (fun u640 H locs hw641 hP hD hS => ?_)
            obtain ⟨hT, ke643, ke644⟩ : TW Y Z T g q u640 ∧ KF 1 T u613 u640 ∧ KF 6 T u613 u640 := hw641
            have hk645 := ke644 _ _ hk618 (show (T p2).1 = 6 by rw [ht2])
            have ke646 : KF 1 T ws u640 := KF.tr ke619 ke643
            have ke647 : KF 6 T ws u640 := KF.tr ke620 ke644
            refine W.eq (g2 := F0 m 150 ls []) rfl ?_
            obtain ⟨v648, ev648⟩ : ∃ y : Int32, y = v242 + 1 := ⟨_, rfl⟩
            have hv648 := i_add (Eq.refl v242.toInt) (show (1 : Int32).toInt = 1 by decide) ev648 (by omega) (by omega)
            refine lv_iinc (v := v648) (lv' := [(4, .int v648), (9, .int u622), (8, .int 0), (7, .int u524), (6, .int v522), (5, .int v521), (3, .int v1), (0, .ref p0), (1, .ref p1), (2, .ref p2)]) hx hb dX5_addHours_150 hl (k := 5) rfl (by rw [ev648]; rfl) (by decide) rfl (fun ls hl => ?_)
            refine lv_goto (tgt := 10) hx hb dX5_addHours_153 (by decide) ?_
            have zi0 : (0 : Int32).toInt = 0 := by decide
            exact ih505 (v648, u640) H locs ls (by show (600 - v648.toInt).toNat < (600 - v242.toInt).toNat; omega) ⟨hP, hD, hS, lv_sub hl [0, 6, 7, 8, 9] rfl, hT, ke646, ke647, by omega⟩
          · skip
            have c629 := i_eq (Eq.refl u625.toInt) (show (0 : Int32).toInt = 0 by decide) c629
            refine lv_iconst (v := 1) hx hb dX5_addHours_140 (by decide) ?_
            refine lv_goto (tgt := 145) hx hb dX5_addHours_141 (by decide) ?_
            refine lv_iload hx hb dX5_addHours_145 (lv_at hl 3 rfl) ?_
            have zi1 : (1 : Int32).toInt = 1 := by decide
            refine ok11 hT ht0 (fun p657 a649 a650 a651 a652 hk658 h653 h654 h655 h656 => ?_)
            refine cga (rn_V (As := [.int 1, .int v522]) (rest := []) (b := p0) (x_X5_add l D Y Z H.size u613 T g q p0 1 v522 hT ht0 (show (0 ≤ (1 : Int32).toInt ∧ (1 : Int32).toInt ≤ 4) by omega)) ⟨hx, hb, hml, hown, hg⟩ lk_X5_74 ⟨CPC.blind, va_recv hKN.1 hP (ci := 5) (q0 := p657) rfl hk658, CPC.at hP hKN hD hSZ hS hA⟩ ⟨⟨rfl, rfl⟩, ⟨Nat.le_of_ble_eq_true rfl, Nat.le_of_ble_eq_true rfl⟩, ⟨(Nat.le_of_ble_eq_true rfl), (Nat.le_of_ble_eq_true rfl)⟩⟩ hl.1 rfl (Nat.le_of_ble_eq_true rfl) dX5_addHours_147) hP hD hS hA (fun u659 H locs hw660 hP hD hS => ?_)
            obtain ⟨hT, ke662, ke663⟩ : TW Y Z T g q u659 ∧ KF 1 T u613 u659 ∧ KF 6 T u613 u659 := hw660
            have hk664 := ke663 _ _ hk618 (show (T p2).1 = 6 by rw [ht2])
            have ke665 : KF 1 T ws u659 := KF.tr ke619 ke662
            have ke666 : KF 6 T ws u659 := KF.tr ke620 ke663
            refine W.eq (g2 := F0 m 150 ls []) rfl ?_
            obtain ⟨v667, ev667⟩ : ∃ y : Int32, y = v242 + 1 := ⟨_, rfl⟩
            have hv667 := i_add (Eq.refl v242.toInt) (show (1 : Int32).toInt = 1 by decide) ev667 (by omega) (by omega)
            refine lv_iinc (v := v667) (lv' := [(4, .int v667), (9, .int u622), (8, .int 0), (7, .int u524), (6, .int v522), (5, .int v521), (3, .int v1), (0, .ref p0), (1, .ref p1), (2, .ref p2)]) hx hb dX5_addHours_150 hl (k := 5) rfl (by rw [ev667]; rfl) (by decide) rfl (fun ls hl => ?_)
            refine lv_goto (tgt := 10) hx hb dX5_addHours_153 (by decide) ?_
            have zi0 : (0 : Int32).toInt = 0 := by decide
            exact ih505 (v667, u659) H locs ls (by show (600 - v667.toInt).toNat < (600 - v242.toInt).toNat; omega) ⟨hP, hD, hS, lv_sub hl [0, 6, 7, 8, 9] rfl, hT, ke665, ke666, by omega⟩
        · skip
          have c601 := i_nlt (Eq.refl v599.toInt) (Eq.refl u524.toInt) c601
          refine lv_iconst (v := 1) hx hb dX5_addHours_91 (by decide) ?_
          refine lv_goto (tgt := 96) hx hb dX5_addHours_92 (by decide) ?_
          refine lv_istore (lv' := [(8, .int 1), (7, .int u524), (6, .int v522), (5, .int v521), (4, .int v242), (3, .int v1), (0, .ref p0), (1, .ref p1), (2, .ref p2)]) hx hb dX5_addHours_96 hl (by decide) rfl (fun ls hl => ?_)
          refine lv_aload_n hx hb dX5_addHours_98 rfl (lv_at hl 6 rfl) ?_
          refine lv_iload hx hb dX5_addHours_99 (lv_at hl 0 rfl) ?_
          refine lv_if_eq (tgt := 108) hx hb dX5_addHours_101 (by decide) (fun c668 => ?_) (fun c668 => ?_)
          · exact absurd c668 (by decide)
          refine lv_iconst (v := 3) hx hb dX5_addHours_104 (by decide) ?_
          refine lv_goto (tgt := 109) hx hb dX5_addHours_105 (by decide) ?_
          refine lv_iload hx hb dX5_addHours_109 (lv_at hl 2 rfl) ?_
          refine ok11 hT ht0 (fun p677 a669 a670 a671 a672 hk678 h673 h674 h675 h676 => ?_)
          refine cga (rn_V (As := [.int 3, .int v522]) (rest := []) (b := p0) (x_X5_add l D Y Z H.size w243 T g q p0 3 v522 hT ht0 (show (0 ≤ (3 : Int32).toInt ∧ (3 : Int32).toInt ≤ 4) by omega)) ⟨hx, hb, hml, hown, hg⟩ lk_X5_74 ⟨CPC.blind, va_recv hKN.1 hP (ci := 5) (q0 := p677) rfl hk678, CPC.at hP hKN hD hSZ hS hA⟩ ⟨⟨rfl, rfl⟩, ⟨Nat.le_of_ble_eq_true rfl, Nat.le_of_ble_eq_true rfl⟩, ⟨(Nat.le_of_ble_eq_true rfl), (Nat.le_of_ble_eq_true rfl)⟩⟩ hl.1 rfl (Nat.le_of_ble_eq_true rfl) dX5_addHours_111) hP hD hS hA (fun u679 H locs hw680 hP hD hS => ?_)
          obtain ⟨hT, ke682, ke683⟩ : TW Y Z T g q u679 ∧ KF 1 T w243 u679 ∧ KF 6 T w243 u679 := hw680
          have hk684 := ke683 _ _ hk504 (show (T p2).1 = 6 by rw [ht2])
          have ke685 : KF 1 T ws u679 := KF.tr ke502 ke682
          have ke686 : KF 6 T ws u679 := KF.tr ke503 ke683
          refine W.eq (g2 := F0 m 114 ls []) rfl ?_
          refine lv_iload hx hb dX5_addHours_114 (lv_at hl 3 rfl) ?_
          refine lv_aload_n hx hb dX5_addHours_116 rfl (lv_at hl 8 rfl) ?_
          refine va_getN (D := D) (ci := 1) (v := .int o2_3) (C := RX1) (T := TX1) (N := 7) hx hb hg inGX1 hown hKN.1 hP pp2 hk684 rfl 3 (by decide) (va_Nw.use rfl (hKN.2.1 _ kn_320 rfl)) (fun _ h9 => h9) rfl dX5_addHours_117 ?_
          refine lv_isub hx hb dX5_addHours_120 ?_
          refine lv_topi (fun v687 ev687 => ?_)
          refine lv_aload_n hx hb dX5_addHours_121 rfl (lv_at hl 8 rfl) ?_
          refine va_getN (D := D) (ci := 1) (v := .int o2_1) (C := RX1) (T := TX1) (N := 7) hx hb hg inGX1 hown hKN.1 hP pp2 hk684 rfl 1 (by decide) (va_Nw.use rfl (hKN.2.1 _ kn_311 rfl)) (fun _ h9 => h9) rfl dX5_addHours_122 ?_
          refine cg0 (rn_S (As := [.int v687, .int o2_1]) (rest := []) (x_J9_floorDiv_7cf53 l D Y Z H.size v687 o2_1 (show (o2_1.toInt ≠ 0) by omega)) ⟨hx, hb, hml, hown, hg⟩ lk_X5_78 ⟨CP.blind, CP.at nilP hKN (nilD (A := fun _ => True))⟩ ⟨⟨rfl, rfl⟩, ⟨Nat.le_of_ble_eq_true rfl, Nat.le_of_ble_eq_true rfl⟩, ⟨(Nat.le_of_ble_eq_true rfl), (Nat.le_of_ble_eq_true rfl)⟩⟩ hl.1 rfl (Nat.le_of_ble_eq_true rfl) dX5_addHours_125) hP hS hA (fun u688 H locs hw689 hP hS => ?_)
          refine W.eq (g2 := F0 m 128 ls [.int u688]) rfl ?_
          refine lv_istore (lv' := [(9, .int u688), (8, .int 1), (7, .int u524), (6, .int v522), (5, .int v521), (4, .int v242), (3, .int v1), (0, .ref p0), (1, .ref p1), (2, .ref p2)]) hx hb dX5_addHours_128 hl (by decide) rfl (fun ls hl => ?_)
          refine lv_aload_n hx hb dX5_addHours_130 rfl (lv_at hl 7 rfl) ?_
          refine lv_iload hx hb dX5_addHours_131 (lv_at hl 0 rfl) ?_
          refine lv_iconst (v := 2) hx hb dX5_addHours_133 (by decide) ?_
          have zi2 : (2 : Int32).toInt = 2 := by decide
          refine cg0 (rn_S (As := [.int u688, .int 2]) (rest := [.ref p0]) (x_J9_floorMod_7cf53 l D Y Z H.size u688 2 (show ((2 : Int32).toInt ≠ 0) by omega)) ⟨hx, hb, hml, hown, hg⟩ lk_X5_68 ⟨CP.blind, CP.at nilP hKN (nilD (A := fun _ => True))⟩ ⟨⟨rfl, rfl⟩, ⟨Nat.le_of_ble_eq_true rfl, Nat.le_of_ble_eq_true rfl⟩, ⟨(Nat.le_of_ble_eq_true rfl), (Nat.le_of_ble_eq_true rfl)⟩⟩ hl.1 rfl (Nat.le_of_ble_eq_true rfl) dX5_addHours_134) hP hS hA (fun u691 H locs hw692 hP hS => ?_)
          refine W.eq (g2 := F0 m 137 ls [.int u691, .ref p0]) rfl ?_
          have j694 := rgI u691
          refine lv_if_ne (tgt := 144) hx hb dX5_addHours_137 (by decide) (fun c695 => ?_) (fun c695 => ?_)
          · skip
            have c695 := i_ne (Eq.refl u691.toInt) (show (0 : Int32).toInt = 0 by decide) c695
            refine lv_iconst (v := 2) hx hb dX5_addHours_144 (by decide) ?_
            refine lv_iload hx hb dX5_addHours_145 (lv_at hl 3 rfl) ?_
            refine ok11 hT ht0 (fun p704 a696 a697 a698 a699 hk705 h700 h701 h702 h703 => ?_)
            refine cga (rn_V (As := [.int 2, .int v522]) (rest := []) (b := p0) (x_X5_add l D Y Z H.size u679 T g q p0 2 v522 hT ht0 (show (0 ≤ (2 : Int32).toInt ∧ (2 : Int32).toInt ≤ 4) by omega)) ⟨hx, hb, hml, hown, hg⟩ lk_X5_74 ⟨CPC.blind, va_recv hKN.1 hP (ci := 5) (q0 := p704) rfl hk705, CPC.at hP hKN hD hSZ hS hA⟩ ⟨⟨rfl, rfl⟩, ⟨Nat.le_of_ble_eq_true rfl, Nat.le_of_ble_eq_true rfl⟩, ⟨(Nat.le_of_ble_eq_true rfl), (Nat.le_of_ble_eq_true rfl)⟩⟩ hl.1 rfl (Nat.le_of_ble_eq_true rfl) dX5_addHours_147) hP hD hS hA (fun u706 H locs hw707 hP hD hS => ?_)
            obtain ⟨hT, ke709, ke710⟩ : TW Y Z T g q u706 ∧ KF 1 T u679 u706 ∧ KF 6 T u679 u706 := hw707
            have hk711 := ke710 _ _ hk684 (show (T p2).1 = 6 by rw [ht2])
            have ke712 : KF 1 T ws u706 := KF.tr ke685 ke709
            have ke713 : KF 6 T ws u706 := KF.tr ke686 ke710
            refine W.eq (g2 := F0 m 150 ls []) rfl ?_
            obtain ⟨v714, ev714⟩ : ∃ y : Int32, y = v242 + 1 := ⟨_, rfl⟩
            have hv714 := i_add (Eq.refl v242.toInt) (show (1 : Int32).toInt = 1 by decide) ev714 (by omega) (by omega)
            refine lv_iinc (v := v714) (lv' := [(4, .int v714), (9, .int u688), (8, .int 1), (7, .int u524), (6, .int v522), (5, .int v521), (3, .int v1), (0, .ref p0), (1, .ref p1), (2, .ref p2)]) hx hb dX5_addHours_150 hl (k := 5) rfl (by rw [ev714]; rfl) (by decide) rfl (fun ls hl => ?_)
            refine lv_goto (tgt := 10) hx hb dX5_addHours_153 (by decide) ?_
            have zi1 : (1 : Int32).toInt = 1 := by decide
            exact ih505 (v714, u706) H locs ls (by show (600 - v714.toInt).toNat < (600 - v242.toInt).toNat; omega) ⟨hP, hD, hS, lv_sub hl [0, 6, 7, 8, 9] rfl, hT, ke712, ke713, by omega⟩
          · skip
            have c695 := i_eq (Eq.refl u691.toInt) (show (0 : Int32).toInt = 0 by decide) c695
            refine lv_iconst (v := 1) hx hb dX5_addHours_140 (by decide) ?_
            refine lv_goto (tgt := 145) hx hb dX5_addHours_141 (by decide) ?_
            refine lv_iload hx hb dX5_addHours_145 (lv_at hl 3 rfl) ?_
            have zi1 : (1 : Int32).toInt = 1 := by decide
            refine ok11 hT ht0 (fun p723 a715 a716 a717 a718 hk724 h719 h720 h721 h722 => ?_)
            refine cga (rn_V (As := [.int 1, .int v522]) (rest := []) (b := p0) (x_X5_add l D Y Z H.size u679 T g q p0 1 v522 hT ht0 (show (0 ≤ (1 : Int32).toInt ∧ (1 : Int32).toInt ≤ 4) by omega)) ⟨hx, hb, hml, hown, hg⟩ lk_X5_74 ⟨CPC.blind, va_recv hKN.1 hP (ci := 5) (q0 := p723) rfl hk724, CPC.at hP hKN hD hSZ hS hA⟩ ⟨⟨rfl, rfl⟩, ⟨Nat.le_of_ble_eq_true rfl, Nat.le_of_ble_eq_true rfl⟩, ⟨(Nat.le_of_ble_eq_true rfl), (Nat.le_of_ble_eq_true rfl)⟩⟩ hl.1 rfl (Nat.le_of_ble_eq_true rfl) dX5_addHours_147) hP hD hS hA (fun u725 H locs hw726 hP hD hS => ?_)
            obtain ⟨hT, ke728, ke729⟩ : TW Y Z T g q u725 ∧ KF 1 T u679 u725 ∧ KF 6 T u679 u725 := hw726
            have hk730 := ke729 _ _ hk684 (show (T p2).1 = 6 by rw [ht2])
            have ke731 : KF 1 T ws u725 := KF.tr ke685 ke728
            have ke732 : KF 6 T ws u725 := KF.tr ke686 ke729
            refine W.eq (g2 := F0 m 150 ls []) rfl ?_
            obtain ⟨v733, ev733⟩ : ∃ y : Int32, y = v242 + 1 := ⟨_, rfl⟩
            have hv733 := i_add (Eq.refl v242.toInt) (show (1 : Int32).toInt = 1 by decide) ev733 (by omega) (by omega)
            refine lv_iinc (v := v733) (lv' := [(4, .int v733), (9, .int u688), (8, .int 1), (7, .int u524), (6, .int v522), (5, .int v521), (3, .int v1), (0, .ref p0), (1, .ref p1), (2, .ref p2)]) hx hb dX5_addHours_150 hl (k := 5) rfl (by rw [ev733]; rfl) (by decide) rfl (fun ls hl => ?_)
            refine lv_goto (tgt := 10) hx hb dX5_addHours_153 (by decide) ?_
            exact ih505 (v733, u725) H locs ls (by show (600 - v733.toInt).toNat < (600 - v242.toInt).toNat; omega) ⟨hP, hD, hS, lv_sub hl [0, 6, 7, 8, 9] rfl, hT, ke731, ke732, by omega⟩
    · skip
      have c529 := i_nlt (Eq.refl u524.toInt) (Eq.refl o2_2.toInt) c529
      refine lv_aload_n hx hb dX5_addHours_62 rfl (lv_at hl 5 rfl) ?_
      refine lv_iconst (v := 0) hx hb dX5_addHours_63 (by decide) ?_
      refine lv_iload hx hb dX5_addHours_64 (lv_at hl 1 rfl) ?_
      have zi0 : (0 : Int32).toInt = 0 := by decide
      refine ok11 hT ht0 (fun p742 a734 a735 a736 a737 hk743 h738 h739 h740 h741 => ?_)
      refine cga (rn_V (As := [.int 0, .int v522]) (rest := []) (b := p0) (x_X5_add l D Y Z H.size w243 T g q p0 0 v522 hT ht0 (show (0 ≤ (0 : Int32).toInt ∧ (0 : Int32).toInt ≤ 4) by omega)) ⟨hx, hb, hml, hown, hg⟩ lk_X5_74 ⟨CPC.blind, va_recv hKN.1 hP (ci := 5) (q0 := p742) rfl hk743, CPC.at hP hKN hD hSZ hS hA⟩ ⟨⟨rfl, rfl⟩, ⟨Nat.le_of_ble_eq_true rfl, Nat.le_of_ble_eq_true rfl⟩, ⟨(Nat.le_of_ble_eq_true rfl), (Nat.le_of_ble_eq_true rfl)⟩⟩ hl.1 rfl (Nat.le_of_ble_eq_true rfl) dX5_addHours_66) hP hD hS hA (fun u744 H locs hw745 hP hD hS => ?_)
      obtain ⟨hT, ke747, ke748⟩ : TW Y Z T g q u744 ∧ KF 1 T w243 u744 ∧ KF 6 T w243 u744 := hw745
      have hk749 := ke748 _ _ hk504 (show (T p2).1 = 6 by rw [ht2])
      have ke750 : KF 1 T ws u744 := KF.tr ke502 ke747
      have ke751 : KF 6 T ws u744 := KF.tr ke503 ke748
      refine W.eq (g2 := F0 m 69 ls []) rfl ?_
      refine lv_goto (tgt := 150) hx hb dX5_addHours_69 (by decide) ?_
      obtain ⟨v752, ev752⟩ : ∃ y : Int32, y = v242 + 1 := ⟨_, rfl⟩
      have hv752 := i_add (Eq.refl v242.toInt) (show (1 : Int32).toInt = 1 by decide) ev752 (by omega) (by omega)
      refine lv_iinc (v := v752) (lv' := [(4, .int v752), (7, .int u524), (6, .int v522), (5, .int v521), (3, .int v1), (0, .ref p0), (1, .ref p1), (2, .ref p2)]) hx hb dX5_addHours_150 hl (k := 3) rfl (by rw [ev752]; rfl) (by decide) rfl (fun ls hl => ?_)
      refine lv_goto (tgt := 10) hx hb dX5_addHours_153 (by decide) ?_
      exact ih505 (v752, u744) H locs ls (by show (600 - v752.toInt).toNat < (600 - v242.toInt).toNat; omega) ⟨hP, hD, hS, lv_sub hl [0, 4, 5, 6, 7] rfl, hT, ke750, ke751, by omega⟩
set_option maxHeartbeats 4000000 in
set_option maxRecDepth 100000 in
theorem x_X5_read (l : Launch) (D : va_G) (Y : Nat → ClassId) (Z : Nat → Nat) (sz : Nat) (ws : va_W) (T : RT) (g : GN) (q : GQ)  (p0 : Nat) (p1 : Nat) (p2 : Nat) (hT : TW Y Z T g q ws) (ht0 : T p0 = (11, 0, 0)) (ht1 : T p1 = (9, 0, 0)) (ht2 : T p2 = (6, 0, 0)) : Met l yX5_read (.code yX5_read cX5_read 4 none :: GW) ({ frames := 3, cells := 0, slots := 0, locals := 81 }) (va_Pc [.ref p0, .ref p1, .ref p2] (CPC D Y Z ws sz)) (QG (S := va_W) (fun _ => none) (fun u => TW Y Z T g q u ∧ KF 1 T ws u ∧ KF 6 T ws u) (fun u => CB D u (va_A ws sz)) (va_A ws sz)) 0 0 (va_A ws sz) := by
  refine Met.ofW (cc := cX5_read) (maxL := 4) (ret := none) (by decide) rfl ?_
  intro p e s m args below meth c s₁ B hml hv
  obtain ⟨rfl, ⟨hsz, hP, hKN, hD0⟩, hSZ⟩ := hv
  have hx := B.exec
  have hb := B.bytes
  have hr := B.returns
  have hts := atoms_spec (ws := .code yX5_read cX5_read 4 none :: GW) B.pre
  have hg : ∀ w ∈ GW, w.before _ s = true := fun w h => hts w (List.mem_cons_of_mem _ h)
  have hown : s.vm.findClass RX5 = some m.cls := findClass_of_methodNamed B.named
  have hlocks := B.notSynchronized
  subst hsz
  have hD := hD0.self (sz := s.heap.size)
  generalize hAe : va_A ws s.heap.size = A at hD hSZ ⊢
  have hA : ∀ q : Nat, s.heap.size ≤ q → A q := fun q h => by rw [← hAe]; exact Or.inr h
  clear hAe hD0 hts B
  have hl := lv_entry ([.ref p0, .ref p1, .ref p2]) (n := 4) (Nat.le_of_ble_eq_true rfl)
  rw [lg_entry_eq]
  generalize (lg_sl ([.ref p0, .ref p1, .ref p2]) ++ List.replicate (4 - (lg_sl ([.ref p0, .ref p1, .ref p2])).length) Slot.unset).toArray = ls at hl ⊢
  have hl : lv_has ls 4 [(0, .ref p0), (1, .ref p1), (2, .ref p2)] := hl
  refine w_start (A0 := A) hP (fun H locs hP hS => ?_)
  refine lv_aload_n hx hb dX5_read_0 rfl (lv_at hl 0 rfl) ?_
  refine ok11 hT ht0 (fun p9 a1 a2 a3 a4 hk10 h5 h6 h7 h8 => ?_)
  refine va_get (D := D) (ci := 5) (v := .ref a1) (C := RX5) (T := TX5) (N := 4) hx hb hg inGX5 hown hKN.1 hP p9 hk10 rfl 0 (by decide) (hg _ kw_289) (fun _ h9 => h9) rfl dX5_read_1 ?_
  refine lv_iconst (v := 0) hx hb dX5_read_4 (by decide) ?_
  have zi0 : (0 : Int32).toInt = 0 := by decide
  refine cga (rn_S (As := [.ref a1, .int 0]) (rest := []) (x_J7_fill_53178 l D Y Z H.size ws T g q 5 a1 0 hT h5 (show ((5 : Int) ≤ 600) by omega)) ⟨hx, hb, hml, hown, hg⟩ lk_X5_25 ⟨CPC.blind, CPC.at hP hKN hD hSZ hS hA⟩ ⟨⟨rfl, rfl⟩, ⟨Nat.le_of_ble_eq_true rfl, Nat.le_of_ble_eq_true rfl⟩, ⟨(Nat.le_of_ble_eq_true rfl), (Nat.le_of_ble_eq_true rfl)⟩⟩ hl.1 rfl (Nat.le_of_ble_eq_true rfl) dX5_read_5) hP hD hS hA (fun u11 H locs hw12 hP hD hS => ?_)
  obtain ⟨hT, ke14, ke15⟩ : TW Y Z T g q u11 ∧ KF 1 T ws u11 ∧ KF 6 T ws u11 := hw12
  have ke16 : KF 1 T ws u11 := KF.tr KF.rf ke14
  have ke17 : KF 6 T ws u11 := KF.tr KF.rf ke15
  refine W.eq (g2 := F0 m 8 ls []) rfl ?_
  refine lv_aload_n hx hb dX5_read_8 rfl (lv_at hl 0 rfl) ?_
  refine ok11 hT ht0 (fun p26 a18 a19 a20 a21 hk27 h22 h23 h24 h25 => ?_)
  refine va_get (D := D) (ci := 5) (v := .ref a19) (C := RX5) (T := TX5) (N := 4) hx hb hg inGX5 hown hKN.1 hP p26 hk27 rfl 1 (by decide) (hg _ kw_290) (fun _ h9 => h9) rfl dX5_read_9 ?_
  refine lv_lconst (v := 0) hx hb dX5_read_12 (by decide) ?_
  have zl0 : (0 : Int64).toInt = 0 := by decide
  refine cga (rn_S (As := [.ref a19, .long 0]) (rest := []) (x_J7_fill_d0a16 l D Y Z H.size u11 T g q 5 a19 0 hT h23 (show ((5 : Int) ≤ 600) by omega)) ⟨hx, hb, hml, hown, hg⟩ lk_X5_31 ⟨CPC.blind, CPC.at hP hKN hD hSZ hS hA⟩ ⟨⟨rfl, rfl⟩, ⟨Nat.le_of_ble_eq_true rfl, Nat.le_of_ble_eq_true rfl⟩, ⟨(Nat.le_of_ble_eq_true rfl), (Nat.le_of_ble_eq_true rfl)⟩⟩ hl.1 rfl (Nat.le_of_ble_eq_true rfl) dX5_read_13) hP hD hS hA (fun u28 H locs hw29 hP hD hS => ?_)
  obtain ⟨hT, ke31, ke32⟩ : TW Y Z T g q u28 ∧ KF 1 T u11 u28 ∧ KF 6 T u11 u28 := hw29
  have ke33 : KF 1 T ws u28 := KF.tr ke16 ke31
  have ke34 : KF 6 T ws u28 := KF.tr ke17 ke32
  refine W.eq (g2 := F0 m 16 ls []) rfl ?_
  refine lv_aload_n hx hb dX5_read_16 rfl (lv_at hl 2 rfl) ?_
  refine ok6 hT ht2 (fun p43 x35 x36 x37 x38 x39 y40 y41 hk44 h42 => ?_)
  refine va_getN (D := D) (ci := 1) (v := .int x36) (C := RX1) (T := TX1) (N := 7) hx hb hg inGX1 hown hKN.1 hP p43 hk44 rfl 1 (by decide) (va_Nw.use rfl (hKN.2.1 _ kn_311 rfl)) (fun _ h9 => h9) rfl dX5_read_17 ?_
  refine lv_if_le (tgt := 29) hx hb dX5_read_20 (by decide) (fun c45 => ?_) (fun c45 => ?_)
  · skip
    have c45 := i_le (Eq.refl x36.toInt) (show (0 : Int32).toInt = 0 by decide) c45
    refine lv_iconst (v := 0) hx hb dX5_read_29 (by decide) ?_
    refine lv_istore_n (lv' := [(3, .int 0), (0, .ref p0), (1, .ref p1), (2, .ref p2)]) hx hb dX5_read_30 rfl hl (by decide) rfl (fun ls hl => ?_)
    refine w_loop (σ := Int32 × va_W) (fun xx H locs ls => match xx with | (v71, w72) => va_P D vwCl w72 H ∧ va_D A w72 ∧ va_S A s.heap H locs ∧ lv_has ls 4 [(3, .int v71), (0, .ref p0), (1, .ref p1), (2, .ref p2)] ∧ TW Y Z T g q w72 ∧ KF 1 T ws w72 ∧ KF 6 T ws w72 ∧ (0 ≤ v71.toInt ∧ v71.toInt ≤ 5)) (fun xx => match xx with | (v71, w72) => (5 - v71.toInt).toNat) (0, u28) ⟨hP, hD, hS, lv_sub hl [0, 1, 2, 3] rfl, hT, ke33, ke34, by omega⟩ (fun xx H locs ls hI ih => ?_)
    obtain ⟨v71, w72⟩ := xx
    obtain ⟨hP, hD, hS, hl, hT, ke99, ke100, hq98⟩ := hI
    have ih101 := ih
    refine lv_iload_n hx hb dX5_read_31 rfl (lv_at hl 0 rfl) ?_
    refine lv_aload_n hx hb dX5_read_32 rfl (lv_at hl 1 rfl) ?_
    refine ok11 hT ht0 (fun p110 a102 a103 a104 a105 hk111 h106 h107 h108 h109 => ?_)
    refine va_get (D := D) (ci := 5) (v := .ref a104) (C := RX5) (T := TX5) (N := 4) hx hb hg inGX5 hown hKN.1 hP p110 hk111 rfl 2 (by decide) (hg _ kw_291) (fun _ h9 => h9) rfl dX5_read_33 ?_
    refine tr_len12 (v := 5) hx hb hKN hP hT h108 rfl dX5_read_36 ?_
    refine lv_icmp_ge (tgt := 80) hx hb dX5_read_37 (by decide) (fun c112 => ?_) (fun c112 => ?_)
    · skip
      have c112 := i_le (show (5 : Int32).toInt = 5 by decide) (Eq.refl v71.toInt) c112
      refine lv_aload_n hx hb dX5_read_80 rfl (lv_at hl 1 rfl) ?_
      refine lv_aload_n hx hb dX5_read_81 rfl (lv_at hl 2 rfl) ?_
      refine lv_aload_n hx hb dX5_read_82 rfl (lv_at hl 3 rfl) ?_
      refine cga (rn_V (As := [.ref p1, .ref p2]) (rest := []) (b := p0) (x_X5_readShifts l D Y Z H.size w72 T g q p0 p1 p2 hT ht0 ht1 ht2) ⟨hx, hb, hml, hown, hg⟩ lk_X5_50 ⟨CPC.blind, va_recv hKN.1 hP (ci := 5) (q0 := p110) rfl hk111, CPC.at hP hKN hD hSZ hS hA⟩ ⟨⟨rfl, rfl⟩, ⟨Nat.le_of_ble_eq_true rfl, Nat.le_of_ble_eq_true rfl⟩, ⟨(Nat.le_of_ble_eq_true rfl), (Nat.le_of_ble_eq_true rfl)⟩⟩ hl.1 rfl (Nat.le_of_ble_eq_true rfl) dX5_read_83) hP hD hS hA (fun u113 H locs hw114 hP hD hS => ?_)
      obtain ⟨hT, ke116, ke117⟩ : TW Y Z T g q u113 ∧ KF 1 T w72 u113 ∧ KF 6 T w72 u113 := hw114
      have ke118 : KF 1 T ws u113 := KF.tr ke99 ke116
      have ke119 : KF 6 T ws u113 := KF.tr ke100 ke117
      refine W.eq (g2 := F0 m 86 ls []) rfl ?_
      refine W.widen (k := 0) (n := 0) (Nat.le_of_ble_eq_true rfl) (Nat.le_of_ble_eq_true rfl) ?_
      exact W.vret hx hb hr (fun t ht hW => ⟨⟨u113, rfl, ⟨hT, ke118, ke119⟩, CB.mk ht hP hD⟩, hS.F ht⟩) hS.2.2 dX5_read_86
    · skip
      have c112 := i_nle (show (5 : Int32).toInt = 5 by decide) (Eq.refl v71.toInt) c112
      refine lv_aload_n hx hb dX5_read_40 rfl (lv_at hl 1 rfl) ?_
      refine va_get (D := D) (ci := 5) (v := .ref a104) (C := RX5) (T := TX5) (N := 4) hx hb hg inGX5 hown hKN.1 hP p110 hk111 rfl 2 (by decide) (hg _ kw_291) (fun _ h9 => h9) rfl dX5_read_41 ?_
      refine lv_iload_n hx hb dX5_read_44 rfl (lv_at hl 0 rfl) ?_
      refine lv_aload_n hx hb dX5_read_45 rfl (lv_at hl 1 rfl) ?_
      refine va_get (D := D) (ci := 5) (v := .ref a102) (C := RX5) (T := TX5) (N := 4) hx hb hg inGX5 hown hKN.1 hP p110 hk111 rfl 0 (by decide) (hg _ kw_289) (fun _ h9 => h9) rfl dX5_read_46 ?_
      refine lv_iconst (v := 0) hx hb dX5_read_49 (by decide) ?_
      refine tr_ld12 hx hb hKN hP hT h106 (show ¬ ((0 : Int32) < 0 ∨ 5 ≤ (0 : Int32).toNatClampNeg) by decide) dX5_read_50 (fun v120 => ?_)
      refine lv_aload_n hx hb dX5_read_51 rfl (lv_at hl 1 rfl) ?_
      refine va_get (D := D) (ci := 5) (v := .ref a103) (C := RX5) (T := TX5) (N := 4) hx hb hg inGX5 hown hKN.1 hP p110 hk111 rfl 1 (by decide) (hg _ kw_290) (fun _ h9 => h9) rfl dX5_read_52 ?_
      refine lv_iconst (v := 0) hx hb dX5_read_55 (by decide) ?_
      refine tr_ld15 hx hb hKN hP hT h107 (show ¬ ((0 : Int32) < 0 ∨ 5 ≤ (0 : Int32).toNatClampNeg) by decide) dX5_read_56 (fun v121 => ?_)
      refine lv_aload_n hx hb dX5_read_57 rfl (lv_at hl 1 rfl) ?_
      refine va_get (D := D) (ci := 5) (v := .ref a102) (C := RX5) (T := TX5) (N := 4) hx hb hg inGX5 hown hKN.1 hP p110 hk111 rfl 0 (by decide) (hg _ kw_289) (fun _ h9 => h9) rfl dX5_read_58 ?_
      refine lv_iload_n hx hb dX5_read_61 rfl (lv_at hl 0 rfl) ?_
      refine tr_ld12 hx hb hKN hP hT h106 (vp_in_iff.mpr ⟨by omega, by omega⟩) dX5_read_62 (fun v122 => ?_)
      refine lv_aload_n hx hb dX5_read_63 rfl (lv_at hl 1 rfl) ?_
      refine va_get (D := D) (ci := 5) (v := .ref a103) (C := RX5) (T := TX5) (N := 4) hx hb hg inGX5 hown hKN.1 hP p110 hk111 rfl 1 (by decide) (hg _ kw_290) (fun _ h9 => h9) rfl dX5_read_64 ?_
      refine lv_iload_n hx hb dX5_read_67 rfl (lv_at hl 0 rfl) ?_
      refine tr_ld15 hx hb hKN hP hT h107 (vp_in_iff.mpr ⟨by omega, by omega⟩) dX5_read_68 (fun v123 => ?_)
      refine cg0 (rn_NS (As := [.int v120, .long v121, .int v122, .long v123]) (rest := [.int v71, .ref a104]) (x_X2_deepBetween l D Y Z H.size v120 v121 v122 v123) ⟨hx, hb, hml, hown, hg⟩ hKN lk_X5_44 ⟨CP.blind, CP.at nilP hKN (nilD (A := fun _ => True))⟩ ⟨⟨rfl, rfl⟩, ⟨Nat.le_of_ble_eq_true rfl, Nat.le_of_ble_eq_true rfl⟩, ⟨(Nat.le_of_ble_eq_true rfl), (Nat.le_of_ble_eq_true rfl)⟩⟩ hl.1 rfl (Nat.le_of_ble_eq_true rfl) dX5_read_69) hP hS hA (fun u124 H locs hw125 hP hS => ?_)
      refine W.eq (g2 := F0 m 72 ls [.long u124, .int v71, .ref a104]) rfl ?_
      refine lv_l2i (v := u124.toInt32) hx hb dX5_read_72 rfl ?_
      refine lv_topi (fun v127 ev127 => ?_)
      refine tr_st12 hx hb hKN hP hD hS hT h108 (vp_in_iff.mpr ⟨by omega, by omega⟩) dX5_read_73 (fun w128 H locs hP hD hS hT kp129 => ?_)
      have ke130 : KF 1 T ws w128 := KF.tr ke99 (KF.kp kp129 h108 (by decide))
      have ke131 : KF 6 T ws w128 := KF.tr ke100 (KF.kp kp129 h108 (by decide))
      have hk132 := kp129 _ _ hk111 (rne ht0 h108 (by decide))
      obtain ⟨v133, ev133⟩ : ∃ y : Int32, y = v71 + 1 := ⟨_, rfl⟩
      have hv133 := i_add (Eq.refl v71.toInt) (show (1 : Int32).toInt = 1 by decide) ev133 (by omega) (by omega)
      refine lv_iinc (v := v133) (lv' := [(3, .int v133), (0, .ref p0), (1, .ref p1), (2, .ref p2)]) hx hb dX5_read_74 hl (k := 0) rfl (by rw [ev133]; rfl) (by decide) rfl (fun ls hl => ?_)
      refine lv_goto (tgt := 31) hx hb dX5_read_77 (by decide) ?_
      exact ih101 (v133, w128) H locs ls (by show (5 - v133.toInt).toNat < (5 - v71.toInt).toNat; omega) ⟨hP, hD, hS, lv_sub hl [0, 1, 2, 3] rfl, hT, ke130, ke131, by omega⟩
  · skip
    have c45 := i_nle (Eq.refl x36.toInt) (show (0 : Int32).toInt = 0 by decide) c45
    refine lv_aload_n hx hb dX5_read_23 rfl (lv_at hl 0 rfl) ?_
    refine lv_aload_n hx hb dX5_read_24 rfl (lv_at hl 1 rfl) ?_
    refine lv_aload_n hx hb dX5_read_25 rfl (lv_at hl 2 rfl) ?_
    refine ok11 hT ht0 (fun p142 a134 a135 a136 a137 hk143 h138 h139 h140 h141 => ?_)
    refine cga (rn_V (As := [.ref p1, .ref p2]) (rest := []) (b := p0) (x_X5_addHours l D Y Z H.size u28 T g q p0 p1 p2 p43 x35 x36 x37 x38 x39 y40 y41 hT ht0 ht1 ht2 hk44 (show (1 ≤ x36.toInt) by omega)) ⟨hx, hb, hml, hown, hg⟩ lk_X5_40 ⟨CPC.blind, va_recv hKN.1 hP (ci := 5) (q0 := p142) rfl hk143, CPC.at hP hKN hD hSZ hS hA⟩ ⟨⟨rfl, rfl⟩, ⟨Nat.le_of_ble_eq_true rfl, Nat.le_of_ble_eq_true rfl⟩, ⟨(Nat.le_of_ble_eq_true rfl), (Nat.le_of_ble_eq_true rfl)⟩⟩ hl.1 rfl (Nat.le_of_ble_eq_true rfl) dX5_read_26) hP hD hS hA (fun u144 H locs hw145 hP hD hS => ?_)
    obtain ⟨hT, ke147, ke148⟩ : TW Y Z T g q u144 ∧ KF 1 T u28 u144 ∧ KF 6 T u28 u144 := hw145
    have hk149 := ke148 _ _ hk44 (show (T p2).1 = 6 by rw [ht2])
    have ke150 : KF 1 T ws u144 := KF.tr ke33 ke147
    have ke151 : KF 6 T ws u144 := KF.tr ke34 ke148
    refine W.eq (g2 := F0 m 29 ls []) rfl ?_
    refine lv_iconst (v := 0) hx hb dX5_read_29 (by decide) ?_
    refine lv_istore_n (lv' := [(3, .int 0), (0, .ref p0), (1, .ref p1), (2, .ref p2)]) hx hb dX5_read_30 rfl hl (by decide) rfl (fun ls hl => ?_)
    refine w_loop (σ := Int32 × va_W) (fun xx H locs ls => match xx with | (v177, w178) => va_P D vwCl w178 H ∧ va_D A w178 ∧ va_S A s.heap H locs ∧ lv_has ls 4 [(3, .int v177), (0, .ref p0), (1, .ref p1), (2, .ref p2)] ∧ TW Y Z T g q w178 ∧ KF 1 T ws w178 ∧ KF 6 T ws w178 ∧ (0 ≤ v177.toInt ∧ v177.toInt ≤ 5)) (fun xx => match xx with | (v177, w178) => (5 - v177.toInt).toNat) (0, u144) ⟨hP, hD, hS, lv_sub hl [0, 1, 2, 3] rfl, hT, ke150, ke151, by omega⟩ (fun xx H locs ls hI ih => ?_)
    obtain ⟨v177, w178⟩ := xx
    obtain ⟨hP, hD, hS, hl, hT, ke205, ke206, hq204⟩ := hI
    have ih207 := ih
    refine lv_iload_n hx hb dX5_read_31 rfl (lv_at hl 0 rfl) ?_
    refine lv_aload_n hx hb dX5_read_32 rfl (lv_at hl 1 rfl) ?_
    refine ok11 hT ht0 (fun p216 a208 a209 a210 a211 hk217 h212 h213 h214 h215 => ?_)
    refine va_get (D := D) (ci := 5) (v := .ref a210) (C := RX5) (T := TX5) (N := 4) hx hb hg inGX5 hown hKN.1 hP p216 hk217 rfl 2 (by decide) (hg _ kw_291) (fun _ h9 => h9) rfl dX5_read_33 ?_
    refine tr_len12 (v := 5) hx hb hKN hP hT h214 rfl dX5_read_36 ?_
    refine lv_icmp_ge (tgt := 80) hx hb dX5_read_37 (by decide) (fun c218 => ?_) (fun c218 => ?_)
    · skip
      have c218 := i_le (show (5 : Int32).toInt = 5 by decide) (Eq.refl v177.toInt) c218
      refine lv_aload_n hx hb dX5_read_80 rfl (lv_at hl 1 rfl) ?_
      refine lv_aload_n hx hb dX5_read_81 rfl (lv_at hl 2 rfl) ?_
      refine lv_aload_n hx hb dX5_read_82 rfl (lv_at hl 3 rfl) ?_
      refine cga (rn_V (As := [.ref p1, .ref p2]) (rest := []) (b := p0) (x_X5_readShifts l D Y Z H.size w178 T g q p0 p1 p2 hT ht0 ht1 ht2) ⟨hx, hb, hml, hown, hg⟩ lk_X5_50 ⟨CPC.blind, va_recv hKN.1 hP (ci := 5) (q0 := p216) rfl hk217, CPC.at hP hKN hD hSZ hS hA⟩ ⟨⟨rfl, rfl⟩, ⟨Nat.le_of_ble_eq_true rfl, Nat.le_of_ble_eq_true rfl⟩, ⟨(Nat.le_of_ble_eq_true rfl), (Nat.le_of_ble_eq_true rfl)⟩⟩ hl.1 rfl (Nat.le_of_ble_eq_true rfl) dX5_read_83) hP hD hS hA (fun u219 H locs hw220 hP hD hS => ?_)
      obtain ⟨hT, ke222, ke223⟩ : TW Y Z T g q u219 ∧ KF 1 T w178 u219 ∧ KF 6 T w178 u219 := hw220
      have ke224 : KF 1 T ws u219 := KF.tr ke205 ke222
      have ke225 : KF 6 T ws u219 := KF.tr ke206 ke223
      refine W.eq (g2 := F0 m 86 ls []) rfl ?_
      refine W.widen (k := 0) (n := 0) (Nat.le_of_ble_eq_true rfl) (Nat.le_of_ble_eq_true rfl) ?_
      exact W.vret hx hb hr (fun t ht hW => ⟨⟨u219, rfl, ⟨hT, ke224, ke225⟩, CB.mk ht hP hD⟩, hS.F ht⟩) hS.2.2 dX5_read_86
    · skip
      have c218 := i_nle (show (5 : Int32).toInt = 5 by decide) (Eq.refl v177.toInt) c218
      refine lv_aload_n hx hb dX5_read_40 rfl (lv_at hl 1 rfl) ?_
      refine va_get (D := D) (ci := 5) (v := .ref a210) (C := RX5) (T := TX5) (N := 4) hx hb hg inGX5 hown hKN.1 hP p216 hk217 rfl 2 (by decide) (hg _ kw_291) (fun _ h9 => h9) rfl dX5_read_41 ?_
      refine lv_iload_n hx hb dX5_read_44 rfl (lv_at hl 0 rfl) ?_
      refine lv_aload_n hx hb dX5_read_45 rfl (lv_at hl 1 rfl) ?_
      refine va_get (D := D) (ci := 5) (v := .ref a208) (C := RX5) (T := TX5) (N := 4) hx hb hg inGX5 hown hKN.1 hP p216 hk217 rfl 0 (by decide) (hg _ kw_289) (fun _ h9 => h9) rfl dX5_read_46 ?_
      refine lv_iconst (v := 0) hx hb dX5_read_49 (by decide) ?_
      refine tr_ld12 hx hb hKN hP hT h212 (show ¬ ((0 : Int32) < 0 ∨ 5 ≤ (0 : Int32).toNatClampNeg) by decide) dX5_read_50 (fun v226 => ?_)
      refine lv_aload_n hx hb dX5_read_51 rfl (lv_at hl 1 rfl) ?_
      refine va_get (D := D) (ci := 5) (v := .ref a209) (C := RX5) (T := TX5) (N := 4) hx hb hg inGX5 hown hKN.1 hP p216 hk217 rfl 1 (by decide) (hg _ kw_290) (fun _ h9 => h9) rfl dX5_read_52 ?_
      refine lv_iconst (v := 0) hx hb dX5_read_55 (by decide) ?_
      refine tr_ld15 hx hb hKN hP hT h213 (show ¬ ((0 : Int32) < 0 ∨ 5 ≤ (0 : Int32).toNatClampNeg) by decide) dX5_read_56 (fun v227 => ?_)
      refine lv_aload_n hx hb dX5_read_57 rfl (lv_at hl 1 rfl) ?_
      refine va_get (D := D) (ci := 5) (v := .ref a208) (C := RX5) (T := TX5) (N := 4) hx hb hg inGX5 hown hKN.1 hP p216 hk217 rfl 0 (by decide) (hg _ kw_289) (fun _ h9 => h9) rfl dX5_read_58 ?_
      refine lv_iload_n hx hb dX5_read_61 rfl (lv_at hl 0 rfl) ?_
      refine tr_ld12 hx hb hKN hP hT h212 (vp_in_iff.mpr ⟨by omega, by omega⟩) dX5_read_62 (fun v228 => ?_)
      refine lv_aload_n hx hb dX5_read_63 rfl (lv_at hl 1 rfl) ?_
      refine va_get (D := D) (ci := 5) (v := .ref a209) (C := RX5) (T := TX5) (N := 4) hx hb hg inGX5 hown hKN.1 hP p216 hk217 rfl 1 (by decide) (hg _ kw_290) (fun _ h9 => h9) rfl dX5_read_64 ?_
      refine lv_iload_n hx hb dX5_read_67 rfl (lv_at hl 0 rfl) ?_
      refine tr_ld15 hx hb hKN hP hT h213 (vp_in_iff.mpr ⟨by omega, by omega⟩) dX5_read_68 (fun v229 => ?_)
      refine cg0 (rn_NS (As := [.int v226, .long v227, .int v228, .long v229]) (rest := [.int v177, .ref a210]) (x_X2_deepBetween l D Y Z H.size v226 v227 v228 v229) ⟨hx, hb, hml, hown, hg⟩ hKN lk_X5_44 ⟨CP.blind, CP.at nilP hKN (nilD (A := fun _ => True))⟩ ⟨⟨rfl, rfl⟩, ⟨Nat.le_of_ble_eq_true rfl, Nat.le_of_ble_eq_true rfl⟩, ⟨(Nat.le_of_ble_eq_true rfl), (Nat.le_of_ble_eq_true rfl)⟩⟩ hl.1 rfl (Nat.le_of_ble_eq_true rfl) dX5_read_69) hP hS hA (fun u230 H locs hw231 hP hS => ?_)
      refine W.eq (g2 := F0 m 72 ls [.long u230, .int v177, .ref a210]) rfl ?_
      refine lv_l2i (v := u230.toInt32) hx hb dX5_read_72 rfl ?_
      refine lv_topi (fun v233 ev233 => ?_)
      refine tr_st12 hx hb hKN hP hD hS hT h214 (vp_in_iff.mpr ⟨by omega, by omega⟩) dX5_read_73 (fun w234 H locs hP hD hS hT kp235 => ?_)
      have ke236 : KF 1 T ws w234 := KF.tr ke205 (KF.kp kp235 h214 (by decide))
      have ke237 : KF 6 T ws w234 := KF.tr ke206 (KF.kp kp235 h214 (by decide))
      have hk238 := kp235 _ _ hk217 (rne ht0 h214 (by decide))
      obtain ⟨v239, ev239⟩ : ∃ y : Int32, y = v177 + 1 := ⟨_, rfl⟩
      have hv239 := i_add (Eq.refl v177.toInt) (show (1 : Int32).toInt = 1 by decide) ev239 (by omega) (by omega)
      refine lv_iinc (v := v239) (lv' := [(3, .int v239), (0, .ref p0), (1, .ref p1), (2, .ref p2)]) hx hb dX5_read_74 hl (k := 0) rfl (by rw [ev239]; rfl) (by decide) rfl (fun ls hl => ?_)
      refine lv_goto (tgt := 31) hx hb dX5_read_77 (by decide) ?_
      exact ih207 (v239, w234) H locs ls (by show (5 - v239.toInt).toNat < (5 - v177.toInt).toNat; omega) ⟨hP, hD, hS, lv_sub hl [0, 1, 2, 3] rfl, hT, ke236, ke237, by omega⟩
set_option maxHeartbeats 4000000 in
set_option maxRecDepth 100000 in
theorem x_X0_foldBy (l : Launch) (D : va_G) (Y : Nat → ClassId) (Z : Nat → Nat) (sz : Nat) (ws : va_W) (T : RT) (g : GN) (q : GQ)  (p0 : Nat) (p1 : Nat) (p2 : Int32) (hT : TW Y Z T g q ws) (ht0 : T p0 = (10, 0, 0)) (ht1 : T p1 = (9, 0, 0)) : Met l yX0_foldBy (.code yX0_foldBy cX0_foldBy 6 none :: GW) ({ frames := 0, cells := 0, slots := 0, locals := 0 }) (va_Pc [.ref p0, .ref p1, .int p2] (CPC D Y Z ws sz)) (QG (S := va_W) (fun _ => none) (fun u => TW Y Z T g q u ∧ KF 1 T ws u ∧ KF 6 T ws u) (fun u => CB D u (va_A ws sz)) (va_A ws sz)) 0 0 (va_A ws sz) := by
  refine Met.ofW (cc := cX0_foldBy) (maxL := 6) (ret := none) (by decide) rfl ?_
  intro p e s m args below meth c s₁ B hml hv
  obtain ⟨rfl, ⟨hsz, hP, hKN, hD0⟩, hSZ⟩ := hv
  have hx := B.exec
  have hb := B.bytes
  have hr := B.returns
  have hts := atoms_spec (ws := .code yX0_foldBy cX0_foldBy 6 none :: GW) B.pre
  have hg : ∀ w ∈ GW, w.before _ s = true := fun w h => hts w (List.mem_cons_of_mem _ h)
  have hown : s.vm.findClass RX0 = some m.cls := findClass_of_methodNamed B.named
  have hlocks := B.notSynchronized
  subst hsz
  have hD := hD0.self (sz := s.heap.size)
  generalize hAe : va_A ws s.heap.size = A at hD hSZ ⊢
  have hA : ∀ q : Nat, s.heap.size ≤ q → A q := fun q h => by rw [← hAe]; exact Or.inr h
  clear hAe hD0 hts B
  have hl := lv_entry ([.ref p0, .ref p1, .int p2]) (n := 6) (Nat.le_of_ble_eq_true rfl)
  rw [lg_entry_eq]
  generalize (lg_sl ([.ref p0, .ref p1, .int p2]) ++ List.replicate (6 - (lg_sl ([.ref p0, .ref p1, .int p2])).length) Slot.unset).toArray = ls at hl ⊢
  have hl : lv_has ls 6 [(0, .ref p0), (1, .ref p1), (2, .int p2)] := hl
  refine w_start (A0 := A) hP (fun H locs hP hS => ?_)
  refine lv_iconst (v := 0) hx hb dX0_foldBy_0 (by decide) ?_
  refine lv_istore_n (lv' := [(3, .int 0), (0, .ref p0), (1, .ref p1), (2, .int p2)]) hx hb dX0_foldBy_1 rfl hl (by decide) rfl (fun ls hl => ?_)
  have zi0 : (0 : Int32).toInt = 0 := by decide
  refine w_loop (σ := Int32 × va_W) (fun xx H locs ls => match xx with | (v20, w21) => va_P D vwCl w21 H ∧ va_D A w21 ∧ va_S A s.heap H locs ∧ lv_has ls 6 [(3, .int v20), (0, .ref p0), (1, .ref p1), (2, .int p2)] ∧ TW Y Z T g q w21 ∧ KF 1 T ws w21 ∧ KF 6 T ws w21 ∧ (0 ≤ v20.toInt ∧ v20.toInt ≤ 200)) (fun xx => match xx with | (v20, w21) => (200 - v20.toInt).toNat) (0, ws) ⟨hP, hD, hS, lv_sub hl [0, 1, 2, 3] rfl, hT, KF.rf, KF.rf, by omega⟩ (fun xx H locs ls hI ih => ?_)
  obtain ⟨v20, w21⟩ := xx
  obtain ⟨hP, hD, hS, hl, hT, ke43, ke44, hq42⟩ := hI
  have ih45 := ih
  refine lv_iload_n hx hb dX0_foldBy_2 rfl (lv_at hl 0 rfl) ?_
  refine lv_iload_n hx hb dX0_foldBy_3 rfl (lv_at hl 3 rfl) ?_
  have j46 := rgI p2
  refine lv_icmp_ge (tgt := 34) hx hb dX0_foldBy_4 (by decide) (fun c47 => ?_) (fun c47 => ?_)
  · skip
    have c47 := i_le (Eq.refl p2.toInt) (Eq.refl v20.toInt) c47
    refine lv_iconst (v := 0) hx hb dX0_foldBy_34 (by decide) ?_
    refine lv_istore_n (lv' := [(3, .int 0), (0, .ref p0), (1, .ref p1), (2, .int p2)]) hx hb dX0_foldBy_35 rfl hl (by decide) rfl (fun ls hl => ?_)
    have zi0 : (0 : Int32).toInt = 0 := by decide
    refine w_loop (σ := Int32 × va_W) (fun xx H locs ls => match xx with | (v118, w119) => va_P D vwCl w119 H ∧ va_D A w119 ∧ va_S A s.heap H locs ∧ lv_has ls 6 [(3, .int v118), (0, .ref p0), (1, .ref p1), (2, .int p2)] ∧ TW Y Z T g q w119 ∧ KF 1 T ws w119 ∧ KF 6 T ws w119 ∧ (0 ≤ v118.toInt ∧ v118.toInt ≤ 600)) (fun xx => match xx with | (v118, w119) => (600 - v118.toInt).toNat) (0, w21) ⟨hP, hD, hS, lv_sub hl [0, 1, 2, 3] rfl, hT, ke43, ke44, by omega⟩ (fun xx H locs ls hI ih => ?_)
    obtain ⟨v118, w119⟩ := xx
    obtain ⟨hP, hD, hS, hl, hT, ke193, ke194, hq192⟩ := hI
    have ih195 := ih
    refine lv_iload_n hx hb dX0_foldBy_36 rfl (lv_at hl 0 rfl) ?_
    refine lv_aload_n hx hb dX0_foldBy_37 rfl (lv_at hl 2 rfl) ?_
    refine ok9 hT ht1 (fun p208 a196 a197 a198 x199 y200 y201 x202 y203 hk209 h204 h205 h206 h207 => ?_)
    refine va_getN (D := D) (ci := 2) (v := .int x199) (C := RX2) (T := TX2) (N := 8) hx hb hg inGX2 hown hKN.1 hP p208 hk209 rfl 3 (by decide) (va_Nw.use rfl (hKN.2.1 _ kn_240 rfl)) (fun _ h9 => h9) rfl dX0_foldBy_38 ?_
    refine lv_icmp_ge (tgt := 109) hx hb dX0_foldBy_41 (by decide) (fun c210 => ?_) (fun c210 => ?_)
    · skip
      have c210 := i_le (Eq.refl x199.toInt) (Eq.refl v118.toInt) c210
      refine W.widen (k := 0) (n := 0) (Nat.le_of_ble_eq_true rfl) (Nat.le_of_ble_eq_true rfl) ?_
      exact W.vret hx hb hr (fun t ht hW => ⟨⟨w119, rfl, ⟨hT, ke193, ke194⟩, CB.mk ht hP hD⟩, hS.F ht⟩) hS.2.2 dX0_foldBy_109
    · skip
      have c210 := i_nle (Eq.refl x199.toInt) (Eq.refl v118.toInt) c210
      refine lv_aload_n hx hb dX0_foldBy_44 rfl (lv_at hl 2 rfl) ?_
      refine va_getN (D := D) (ci := 2) (v := .ref a197) (C := RX2) (T := TX2) (N := 8) hx hb hg inGX2 hown hKN.1 hP p208 hk209 rfl 1 (by decide) (va_Nw.use rfl (hKN.2.1 _ kn_238 rfl)) (fun _ h9 => h9) rfl dX0_foldBy_45 ?_
      refine lv_iload_n hx hb dX0_foldBy_48 rfl (lv_at hl 0 rfl) ?_
      refine tr_ld13 hx hb hKN hP hT h205 (vp_in_iff.mpr ⟨by omega, by omega⟩) dX0_foldBy_49 (fun v211 hv211 => ?_)
      refine lv_istore (lv' := [(4, .int v211), (3, .int v118), (0, .ref p0), (1, .ref p1), (2, .int p2)]) hx hb dX0_foldBy_50 hl (by decide) rfl (fun ls hl => ?_)
      refine lv_iload_n hx hb dX0_foldBy_52 rfl (lv_at hl 4 rfl) ?_
      refine lv_if_le (tgt := 63) hx hb dX0_foldBy_53 (by decide) (fun c212 => ?_) (fun c212 => ?_)
      · skip
        have c212 := i_le (Eq.refl p2.toInt) (show (0 : Int32).toInt = 0 by decide) c212
        refine lv_iconst (v := 0) hx hb dX0_foldBy_63 (by decide) ?_
        refine lv_istore (lv' := [(5, .int 0), (4, .int v211), (3, .int v118), (0, .ref p0), (1, .ref p1), (2, .int p2)]) hx hb dX0_foldBy_64 hl (by decide) rfl (fun ls hl => ?_)
        refine lv_iload hx hb dX0_foldBy_66 (lv_at hl 0 rfl) ?_
        refine lv_sipush (v := 200) hx hb dX0_foldBy_68 (by decide) ?_
        refine lv_icmp_ge (tgt := 103) hx hb dX0_foldBy_71 (by decide) (fun c213 => ?_) (fun c213 => ?_)
        · exact absurd c213 (by decide)
        refine lv_aload_n hx hb dX0_foldBy_74 rfl (lv_at hl 3 rfl) ?_
        refine ok10 hT ht0 (fun p218 a214 a215 hk219 h216 h217 => ?_)
        refine va_get (D := D) (ci := 0) (v := .ref a214) (C := RX0) (T := TX0) (N := 2) hx hb hg inGX0 hown hKN.1 hP p218 hk219 rfl 0 (by decide) (hg _ kw_276) (fun _ h9 => h9) rfl dX0_foldBy_75 ?_
        refine lv_iload hx hb dX0_foldBy_78 (lv_at hl 0 rfl) ?_
        refine lv_dup2_11 hx hb dX0_foldBy_80 rfl rfl ?_
        refine tr_ld12 hx hb hKN hP hT h216 (show ¬ ((0 : Int32) < 0 ∨ 200 ≤ (0 : Int32).toNatClampNeg) by decide) dX0_foldBy_81 (fun v220 => ?_)
        refine lv_iconst (v := 1) hx hb dX0_foldBy_82 (by decide) ?_
        refine lv_iadd hx hb dX0_foldBy_83 ?_
        refine lv_topi (fun v221 ev221 => ?_)
        refine tr_st12 hx hb hKN hP hD hS hT h216 (show ¬ ((0 : Int32) < 0 ∨ 200 ≤ (0 : Int32).toNatClampNeg) by decide) dX0_foldBy_84 (fun w222 H locs hP hD hS hT kp223 => ?_)
        have ke224 : KF 1 T ws w222 := KF.tr ke193 (KF.kp kp223 h216 (by decide))
        have ke225 : KF 6 T ws w222 := KF.tr ke194 (KF.kp kp223 h216 (by decide))
        have hk226 := kp223 _ _ hk209 (rne ht1 h216 (by decide))
        have hk227 := kp223 _ _ hk219 (rne ht0 h216 (by decide))
        refine lv_aload_n hx hb dX0_foldBy_85 rfl (lv_at hl 3 rfl) ?_
        refine va_get (D := D) (ci := 0) (v := .ref a215) (C := RX0) (T := TX0) (N := 2) hx hb hg inGX0 hown hKN.1 hP p218 hk227 rfl 1 (by decide) (hg _ kw_277) (fun _ h9 => h9) rfl dX0_foldBy_86 ?_
        refine lv_iload hx hb dX0_foldBy_89 (lv_at hl 0 rfl) ?_
        refine lv_dup2_11 hx hb dX0_foldBy_91 rfl rfl ?_
        refine tr_ld15 hx hb hKN hP hT h217 (show ¬ ((0 : Int32) < 0 ∨ 200 ≤ (0 : Int32).toNatClampNeg) by decide) dX0_foldBy_92 (fun v228 => ?_)
        refine lv_aload_n hx hb dX0_foldBy_93 rfl (lv_at hl 4 rfl) ?_
        refine va_getN (D := D) (ci := 2) (v := .ref a196) (C := RX2) (T := TX2) (N := 8) hx hb hg inGX2 hown hKN.1 hP p208 hk226 rfl 0 (by decide) (va_Nw.use rfl (hKN.2.1 _ kn_234 rfl)) (fun _ h9 => h9) rfl dX0_foldBy_94 ?_
        refine lv_iload hx hb dX0_foldBy_97 (lv_at hl 1 rfl) ?_
        refine tr_ld12 hx hb hKN hP hT h204 (vp_in_iff.mpr ⟨by omega, by omega⟩) dX0_foldBy_99 (fun v229 => ?_)
        have j230 := rgI v229
        have j231 := Int32.toInt_toInt64 v229
        refine lv_i2l (v := v229.toInt64) hx hb dX0_foldBy_100 (rfl) ?_
        refine lv_ladd hx hb dX0_foldBy_101 ?_
        refine lv_topl (fun v232 ev232 => ?_)
        refine tr_st15 hx hb hKN hP hD hS hT h217 (show ¬ ((0 : Int32) < 0 ∨ 200 ≤ (0 : Int32).toNatClampNeg) by decide) dX0_foldBy_102 (fun w233 H locs hP hD hS hT kp234 => ?_)
        have ke235 : KF 1 T ws w233 := KF.tr ke224 (KF.kp kp234 h217 (by decide))
        have ke236 : KF 6 T ws w233 := KF.tr ke225 (KF.kp kp234 h217 (by decide))
        have hk237 := kp234 _ _ hk226 (rne ht1 h217 (by decide))
        have hk238 := kp234 _ _ hk227 (rne ht0 h217 (by decide))
        obtain ⟨v239, ev239⟩ : ∃ y : Int32, y = v118 + 1 := ⟨_, rfl⟩
        have hv239 := i_add (Eq.refl v118.toInt) (show (1 : Int32).toInt = 1 by decide) ev239 (by omega) (by omega)
        refine lv_iinc (v := v239) (lv' := [(3, .int v239), (5, .int 0), (4, .int v211), (0, .ref p0), (1, .ref p1), (2, .int p2)]) hx hb dX0_foldBy_103 hl (k := 2) rfl (by rw [ev239]; rfl) (by decide) rfl (fun ls hl => ?_)
        refine lv_goto (tgt := 36) hx hb dX0_foldBy_106 (by decide) ?_
        have zi0 : (0 : Int32).toInt = 0 := by decide
        exact ih195 (v239, w233) H locs ls (by show (600 - v239.toInt).toNat < (600 - v118.toInt).toNat; omega) ⟨hP, hD, hS, lv_sub hl [0, 3, 4, 5] rfl, hT, ke235, ke236, by omega⟩
      · skip
        have c212 := i_nle (Eq.refl p2.toInt) (show (0 : Int32).toInt = 0 by decide) c212
        refine lv_iload hx hb dX0_foldBy_56 (lv_at hl 0 rfl) ?_
        refine lv_iload_n hx hb dX0_foldBy_58 rfl (lv_at hl 4 rfl) ?_
        refine lv_irem hx hb dX0_foldBy_59 (i_nz (Eq.refl p2.toInt) (by omega)) ?_
        refine lv_topi (fun v240 ev240 => ?_)
        have hv240 := i_rem (Eq.refl v211.toInt) (Eq.refl p2.toInt) ev240 (by omega) (by omega)
        refine lv_goto (tgt := 64) hx hb dX0_foldBy_60 (by decide) ?_
        refine lv_istore (lv' := [(5, .int v240), (4, .int v211), (3, .int v118), (0, .ref p0), (1, .ref p1), (2, .int p2)]) hx hb dX0_foldBy_64 hl (by decide) rfl (fun ls hl => ?_)
        refine lv_iload hx hb dX0_foldBy_66 (lv_at hl 0 rfl) ?_
        refine lv_sipush (v := 200) hx hb dX0_foldBy_68 (by decide) ?_
        refine lv_icmp_ge (tgt := 103) hx hb dX0_foldBy_71 (by decide) (fun c241 => ?_) (fun c241 => ?_)
        · have c241 := i_le (show (200 : Int32).toInt = 200 by decide) (Eq.refl v240.toInt) c241; exfalso; omega
        have c241 := i_nle (show (200 : Int32).toInt = 200 by decide) (Eq.refl v240.toInt) c241
        refine lv_aload_n hx hb dX0_foldBy_74 rfl (lv_at hl 3 rfl) ?_
        refine ok10 hT ht0 (fun p246 a242 a243 hk247 h244 h245 => ?_)
        refine va_get (D := D) (ci := 0) (v := .ref a242) (C := RX0) (T := TX0) (N := 2) hx hb hg inGX0 hown hKN.1 hP p246 hk247 rfl 0 (by decide) (hg _ kw_276) (fun _ h9 => h9) rfl dX0_foldBy_75 ?_
        refine lv_iload hx hb dX0_foldBy_78 (lv_at hl 0 rfl) ?_
        refine lv_dup2_11 hx hb dX0_foldBy_80 rfl rfl ?_
        refine tr_ld12 hx hb hKN hP hT h244 (vp_in_iff.mpr ⟨by omega, by omega⟩) dX0_foldBy_81 (fun v248 => ?_)
        refine lv_iconst (v := 1) hx hb dX0_foldBy_82 (by decide) ?_
        refine lv_iadd hx hb dX0_foldBy_83 ?_
        refine lv_topi (fun v249 ev249 => ?_)
        refine tr_st12 hx hb hKN hP hD hS hT h244 (vp_in_iff.mpr ⟨by omega, by omega⟩) dX0_foldBy_84 (fun w250 H locs hP hD hS hT kp251 => ?_)
        have ke252 : KF 1 T ws w250 := KF.tr ke193 (KF.kp kp251 h244 (by decide))
        have ke253 : KF 6 T ws w250 := KF.tr ke194 (KF.kp kp251 h244 (by decide))
        have hk254 := kp251 _ _ hk209 (rne ht1 h244 (by decide))
        have hk255 := kp251 _ _ hk247 (rne ht0 h244 (by decide))
        refine lv_aload_n hx hb dX0_foldBy_85 rfl (lv_at hl 3 rfl) ?_
        refine va_get (D := D) (ci := 0) (v := .ref a243) (C := RX0) (T := TX0) (N := 2) hx hb hg inGX0 hown hKN.1 hP p246 hk255 rfl 1 (by decide) (hg _ kw_277) (fun _ h9 => h9) rfl dX0_foldBy_86 ?_
        refine lv_iload hx hb dX0_foldBy_89 (lv_at hl 0 rfl) ?_
        refine lv_dup2_11 hx hb dX0_foldBy_91 rfl rfl ?_
        refine tr_ld15 hx hb hKN hP hT h245 (vp_in_iff.mpr ⟨by omega, by omega⟩) dX0_foldBy_92 (fun v256 => ?_)
        refine lv_aload_n hx hb dX0_foldBy_93 rfl (lv_at hl 4 rfl) ?_
        refine va_getN (D := D) (ci := 2) (v := .ref a196) (C := RX2) (T := TX2) (N := 8) hx hb hg inGX2 hown hKN.1 hP p208 hk254 rfl 0 (by decide) (va_Nw.use rfl (hKN.2.1 _ kn_234 rfl)) (fun _ h9 => h9) rfl dX0_foldBy_94 ?_
        refine lv_iload hx hb dX0_foldBy_97 (lv_at hl 1 rfl) ?_
        refine tr_ld12 hx hb hKN hP hT h204 (vp_in_iff.mpr ⟨by omega, by omega⟩) dX0_foldBy_99 (fun v257 => ?_)
        have j258 := rgI v257
        have j259 := Int32.toInt_toInt64 v257
        refine lv_i2l (v := v257.toInt64) hx hb dX0_foldBy_100 (rfl) ?_
        refine lv_ladd hx hb dX0_foldBy_101 ?_
        refine lv_topl (fun v260 ev260 => ?_)
        refine tr_st15 hx hb hKN hP hD hS hT h245 (vp_in_iff.mpr ⟨by omega, by omega⟩) dX0_foldBy_102 (fun w261 H locs hP hD hS hT kp262 => ?_)
        have ke263 : KF 1 T ws w261 := KF.tr ke252 (KF.kp kp262 h245 (by decide))
        have ke264 : KF 6 T ws w261 := KF.tr ke253 (KF.kp kp262 h245 (by decide))
        have hk265 := kp262 _ _ hk254 (rne ht1 h245 (by decide))
        have hk266 := kp262 _ _ hk255 (rne ht0 h245 (by decide))
        obtain ⟨v267, ev267⟩ : ∃ y : Int32, y = v118 + 1 := ⟨_, rfl⟩
        have hv267 := i_add (Eq.refl v118.toInt) (show (1 : Int32).toInt = 1 by decide) ev267 (by omega) (by omega)
        refine lv_iinc (v := v267) (lv' := [(3, .int v267), (5, .int v240), (4, .int v211), (0, .ref p0), (1, .ref p1), (2, .int p2)]) hx hb dX0_foldBy_103 hl (k := 2) rfl (by rw [ev267]; rfl) (by decide) rfl (fun ls hl => ?_)
        refine lv_goto (tgt := 36) hx hb dX0_foldBy_106 (by decide) ?_
        exact ih195 (v267, w261) H locs ls (by show (600 - v267.toInt).toNat < (600 - v118.toInt).toNat; omega) ⟨hP, hD, hS, lv_sub hl [0, 3, 4, 5] rfl, hT, ke263, ke264, by omega⟩
  · skip
    have c47 := i_nle (Eq.refl p2.toInt) (Eq.refl v20.toInt) c47
    refine lv_iload_n hx hb dX0_foldBy_7 rfl (lv_at hl 0 rfl) ?_
    refine lv_sipush (v := 200) hx hb dX0_foldBy_8 (by decide) ?_
    refine lv_icmp_ge (tgt := 34) hx hb dX0_foldBy_11 (by decide) (fun c268 => ?_) (fun c268 => ?_)
    · skip
      have c268 := i_le (show (200 : Int32).toInt = 200 by decide) (Eq.refl v20.toInt) c268
      refine lv_iconst (v := 0) hx hb dX0_foldBy_34 (by decide) ?_
      refine lv_istore_n (lv' := [(3, .int 0), (0, .ref p0), (1, .ref p1), (2, .int p2)]) hx hb dX0_foldBy_35 rfl hl (by decide) rfl (fun ls hl => ?_)
      have zi0 : (0 : Int32).toInt = 0 := by decide
      refine w_loop (σ := Int32 × va_W) (fun xx H locs ls => match xx with | (v313, w314) => va_P D vwCl w314 H ∧ va_D A w314 ∧ va_S A s.heap H locs ∧ lv_has ls 6 [(3, .int v313), (0, .ref p0), (1, .ref p1), (2, .int p2)] ∧ TW Y Z T g q w314 ∧ KF 1 T ws w314 ∧ KF 6 T ws w314 ∧ (0 ≤ v313.toInt ∧ v313.toInt ≤ 600)) (fun xx => match xx with | (v313, w314) => (600 - v313.toInt).toNat) (0, w21) ⟨hP, hD, hS, lv_sub hl [0, 1, 2, 3] rfl, hT, ke43, ke44, by omega⟩ (fun xx H locs ls hI ih => ?_)
      obtain ⟨v313, w314⟩ := xx
      obtain ⟨hP, hD, hS, hl, hT, ke362, ke363, hq361⟩ := hI
      have ih364 := ih
      refine lv_iload_n hx hb dX0_foldBy_36 rfl (lv_at hl 0 rfl) ?_
      refine lv_aload_n hx hb dX0_foldBy_37 rfl (lv_at hl 2 rfl) ?_
      refine ok9 hT ht1 (fun p377 a365 a366 a367 x368 y369 y370 x371 y372 hk378 h373 h374 h375 h376 => ?_)
      refine va_getN (D := D) (ci := 2) (v := .int x368) (C := RX2) (T := TX2) (N := 8) hx hb hg inGX2 hown hKN.1 hP p377 hk378 rfl 3 (by decide) (va_Nw.use rfl (hKN.2.1 _ kn_240 rfl)) (fun _ h9 => h9) rfl dX0_foldBy_38 ?_
      refine lv_icmp_ge (tgt := 109) hx hb dX0_foldBy_41 (by decide) (fun c379 => ?_) (fun c379 => ?_)
      · skip
        have c379 := i_le (Eq.refl x368.toInt) (Eq.refl v313.toInt) c379
        refine W.widen (k := 0) (n := 0) (Nat.le_of_ble_eq_true rfl) (Nat.le_of_ble_eq_true rfl) ?_
        exact W.vret hx hb hr (fun t ht hW => ⟨⟨w314, rfl, ⟨hT, ke362, ke363⟩, CB.mk ht hP hD⟩, hS.F ht⟩) hS.2.2 dX0_foldBy_109
      · skip
        have c379 := i_nle (Eq.refl x368.toInt) (Eq.refl v313.toInt) c379
        refine lv_aload_n hx hb dX0_foldBy_44 rfl (lv_at hl 2 rfl) ?_
        refine va_getN (D := D) (ci := 2) (v := .ref a366) (C := RX2) (T := TX2) (N := 8) hx hb hg inGX2 hown hKN.1 hP p377 hk378 rfl 1 (by decide) (va_Nw.use rfl (hKN.2.1 _ kn_238 rfl)) (fun _ h9 => h9) rfl dX0_foldBy_45 ?_
        refine lv_iload_n hx hb dX0_foldBy_48 rfl (lv_at hl 0 rfl) ?_
        refine tr_ld13 hx hb hKN hP hT h374 (vp_in_iff.mpr ⟨by omega, by omega⟩) dX0_foldBy_49 (fun v380 hv380 => ?_)
        refine lv_istore (lv' := [(4, .int v380), (3, .int v313), (0, .ref p0), (1, .ref p1), (2, .int p2)]) hx hb dX0_foldBy_50 hl (by decide) rfl (fun ls hl => ?_)
        refine lv_iload_n hx hb dX0_foldBy_52 rfl (lv_at hl 4 rfl) ?_
        refine lv_if_le (tgt := 63) hx hb dX0_foldBy_53 (by decide) (fun c381 => ?_) (fun c381 => ?_)
        · have c381 := i_le (Eq.refl p2.toInt) (show (0 : Int32).toInt = 0 by decide) c381; exfalso; omega
        have c381 := i_nle (Eq.refl p2.toInt) (show (0 : Int32).toInt = 0 by decide) c381
        refine lv_iload hx hb dX0_foldBy_56 (lv_at hl 0 rfl) ?_
        refine lv_iload_n hx hb dX0_foldBy_58 rfl (lv_at hl 4 rfl) ?_
        refine lv_irem hx hb dX0_foldBy_59 (i_nz (Eq.refl p2.toInt) (by omega)) ?_
        refine lv_topi (fun v382 ev382 => ?_)
        have hv382 := i_rem (Eq.refl v380.toInt) (Eq.refl p2.toInt) ev382 (by omega) (by omega)
        refine lv_goto (tgt := 64) hx hb dX0_foldBy_60 (by decide) ?_
        refine lv_istore (lv' := [(5, .int v382), (4, .int v380), (3, .int v313), (0, .ref p0), (1, .ref p1), (2, .int p2)]) hx hb dX0_foldBy_64 hl (by decide) rfl (fun ls hl => ?_)
        refine lv_iload hx hb dX0_foldBy_66 (lv_at hl 0 rfl) ?_
        refine lv_sipush (v := 200) hx hb dX0_foldBy_68 (by decide) ?_
        refine lv_icmp_ge (tgt := 103) hx hb dX0_foldBy_71 (by decide) (fun c383 => ?_) (fun c383 => ?_)
        · skip
          have c383 := i_le (show (200 : Int32).toInt = 200 by decide) (Eq.refl v382.toInt) c383
          obtain ⟨v384, ev384⟩ : ∃ y : Int32, y = v313 + 1 := ⟨_, rfl⟩
          have hv384 := i_add (Eq.refl v313.toInt) (show (1 : Int32).toInt = 1 by decide) ev384 (by omega) (by omega)
          refine lv_iinc (v := v384) (lv' := [(3, .int v384), (5, .int v382), (4, .int v380), (0, .ref p0), (1, .ref p1), (2, .int p2)]) hx hb dX0_foldBy_103 hl (k := 2) rfl (by rw [ev384]; rfl) (by decide) rfl (fun ls hl => ?_)
          refine lv_goto (tgt := 36) hx hb dX0_foldBy_106 (by decide) ?_
          exact ih364 (v384, w314) H locs ls (by show (600 - v384.toInt).toNat < (600 - v313.toInt).toNat; omega) ⟨hP, hD, hS, lv_sub hl [0, 3, 4, 5] rfl, hT, ke362, ke363, by omega⟩
        · skip
          have c383 := i_nle (show (200 : Int32).toInt = 200 by decide) (Eq.refl v382.toInt) c383
          refine lv_aload_n hx hb dX0_foldBy_74 rfl (lv_at hl 3 rfl) ?_
          refine ok10 hT ht0 (fun p389 a385 a386 hk390 h387 h388 => ?_)
          refine va_get (D := D) (ci := 0) (v := .ref a385) (C := RX0) (T := TX0) (N := 2) hx hb hg inGX0 hown hKN.1 hP p389 hk390 rfl 0 (by decide) (hg _ kw_276) (fun _ h9 => h9) rfl dX0_foldBy_75 ?_
          refine lv_iload hx hb dX0_foldBy_78 (lv_at hl 0 rfl) ?_
          refine lv_dup2_11 hx hb dX0_foldBy_80 rfl rfl ?_
          refine tr_ld12 hx hb hKN hP hT h387 (vp_in_iff.mpr ⟨by omega, by omega⟩) dX0_foldBy_81 (fun v391 => ?_)
          refine lv_iconst (v := 1) hx hb dX0_foldBy_82 (by decide) ?_
          refine lv_iadd hx hb dX0_foldBy_83 ?_
          refine lv_topi (fun v392 ev392 => ?_)
          refine tr_st12 hx hb hKN hP hD hS hT h387 (vp_in_iff.mpr ⟨by omega, by omega⟩) dX0_foldBy_84 (fun w393 H locs hP hD hS hT kp394 => ?_)
          have ke395 : KF 1 T ws w393 := KF.tr ke362 (KF.kp kp394 h387 (by decide))
          have ke396 : KF 6 T ws w393 := KF.tr ke363 (KF.kp kp394 h387 (by decide))
          have hk397 := kp394 _ _ hk378 (rne ht1 h387 (by decide))
          have hk398 := kp394 _ _ hk390 (rne ht0 h387 (by decide))
          refine lv_aload_n hx hb dX0_foldBy_85 rfl (lv_at hl 3 rfl) ?_
          refine va_get (D := D) (ci := 0) (v := .ref a386) (C := RX0) (T := TX0) (N := 2) hx hb hg inGX0 hown hKN.1 hP p389 hk398 rfl 1 (by decide) (hg _ kw_277) (fun _ h9 => h9) rfl dX0_foldBy_86 ?_
          refine lv_iload hx hb dX0_foldBy_89 (lv_at hl 0 rfl) ?_
          refine lv_dup2_11 hx hb dX0_foldBy_91 rfl rfl ?_
          refine tr_ld15 hx hb hKN hP hT h388 (vp_in_iff.mpr ⟨by omega, by omega⟩) dX0_foldBy_92 (fun v399 => ?_)
          refine lv_aload_n hx hb dX0_foldBy_93 rfl (lv_at hl 4 rfl) ?_
          refine va_getN (D := D) (ci := 2) (v := .ref a365) (C := RX2) (T := TX2) (N := 8) hx hb hg inGX2 hown hKN.1 hP p377 hk397 rfl 0 (by decide) (va_Nw.use rfl (hKN.2.1 _ kn_234 rfl)) (fun _ h9 => h9) rfl dX0_foldBy_94 ?_
          refine lv_iload hx hb dX0_foldBy_97 (lv_at hl 1 rfl) ?_
          refine tr_ld12 hx hb hKN hP hT h373 (vp_in_iff.mpr ⟨by omega, by omega⟩) dX0_foldBy_99 (fun v400 => ?_)
          have j401 := rgI v400
          have j402 := Int32.toInt_toInt64 v400
          refine lv_i2l (v := v400.toInt64) hx hb dX0_foldBy_100 (rfl) ?_
          refine lv_ladd hx hb dX0_foldBy_101 ?_
          refine lv_topl (fun v403 ev403 => ?_)
          refine tr_st15 hx hb hKN hP hD hS hT h388 (vp_in_iff.mpr ⟨by omega, by omega⟩) dX0_foldBy_102 (fun w404 H locs hP hD hS hT kp405 => ?_)
          have ke406 : KF 1 T ws w404 := KF.tr ke395 (KF.kp kp405 h388 (by decide))
          have ke407 : KF 6 T ws w404 := KF.tr ke396 (KF.kp kp405 h388 (by decide))
          have hk408 := kp405 _ _ hk397 (rne ht1 h388 (by decide))
          have hk409 := kp405 _ _ hk398 (rne ht0 h388 (by decide))
          obtain ⟨v410, ev410⟩ : ∃ y : Int32, y = v313 + 1 := ⟨_, rfl⟩
          have hv410 := i_add (Eq.refl v313.toInt) (show (1 : Int32).toInt = 1 by decide) ev410 (by omega) (by omega)
          refine lv_iinc (v := v410) (lv' := [(3, .int v410), (5, .int v382), (4, .int v380), (0, .ref p0), (1, .ref p1), (2, .int p2)]) hx hb dX0_foldBy_103 hl (k := 2) rfl (by rw [ev410]; rfl) (by decide) rfl (fun ls hl => ?_)
          refine lv_goto (tgt := 36) hx hb dX0_foldBy_106 (by decide) ?_
          exact ih364 (v410, w404) H locs ls (by show (600 - v410.toInt).toNat < (600 - v313.toInt).toNat; omega) ⟨hP, hD, hS, lv_sub hl [0, 3, 4, 5] rfl, hT, ke406, ke407, by omega⟩
    · skip
      have c268 := i_nle (show (200 : Int32).toInt = 200 by decide) (Eq.refl v20.toInt) c268
      refine lv_aload_n hx hb dX0_foldBy_14 rfl (lv_at hl 1 rfl) ?_
      refine ok10 hT ht0 (fun p415 a411 a412 hk416 h413 h414 => ?_)
      refine va_get (D := D) (ci := 0) (v := .ref a411) (C := RX0) (T := TX0) (N := 2) hx hb hg inGX0 hown hKN.1 hP p415 hk416 rfl 0 (by decide) (hg _ kw_276) (fun _ h9 => h9) rfl dX0_foldBy_15 ?_
      refine lv_iload_n hx hb dX0_foldBy_18 rfl (lv_at hl 0 rfl) ?_
      refine lv_iconst (v := 0) hx hb dX0_foldBy_19 (by decide) ?_
      have zi0 : (0 : Int32).toInt = 0 := by decide
      refine tr_st12 hx hb hKN hP hD hS hT h413 (vp_in_iff.mpr ⟨by omega, by omega⟩) dX0_foldBy_20 (fun w417 H locs hP hD hS hT kp418 => ?_)
      have ke419 : KF 1 T ws w417 := KF.tr ke43 (KF.kp kp418 h413 (by decide))
      have ke420 : KF 6 T ws w417 := KF.tr ke44 (KF.kp kp418 h413 (by decide))
      have hk421 := kp418 _ _ hk416 (rne ht0 h413 (by decide))
      refine lv_aload_n hx hb dX0_foldBy_21 rfl (lv_at hl 1 rfl) ?_
      refine va_get (D := D) (ci := 0) (v := .ref a412) (C := RX0) (T := TX0) (N := 2) hx hb hg inGX0 hown hKN.1 hP p415 hk421 rfl 1 (by decide) (hg _ kw_277) (fun _ h9 => h9) rfl dX0_foldBy_22 ?_
      refine lv_iload_n hx hb dX0_foldBy_25 rfl (lv_at hl 0 rfl) ?_
      refine lv_lconst (v := 0) hx hb dX0_foldBy_26 (by decide) ?_
      have zl0 : (0 : Int64).toInt = 0 := by decide
      refine tr_st15 hx hb hKN hP hD hS hT h414 (vp_in_iff.mpr ⟨by omega, by omega⟩) dX0_foldBy_27 (fun w422 H locs hP hD hS hT kp423 => ?_)
      have ke424 : KF 1 T ws w422 := KF.tr ke419 (KF.kp kp423 h414 (by decide))
      have ke425 : KF 6 T ws w422 := KF.tr ke420 (KF.kp kp423 h414 (by decide))
      have hk426 := kp423 _ _ hk421 (rne ht0 h414 (by decide))
      obtain ⟨v427, ev427⟩ : ∃ y : Int32, y = v20 + 1 := ⟨_, rfl⟩
      have hv427 := i_add (Eq.refl v20.toInt) (show (1 : Int32).toInt = 1 by decide) ev427 (by omega) (by omega)
      refine lv_iinc (v := v427) (lv' := [(3, .int v427), (0, .ref p0), (1, .ref p1), (2, .int p2)]) hx hb dX0_foldBy_28 hl (k := 0) rfl (by rw [ev427]; rfl) (by decide) rfl (fun ls hl => ?_)
      refine lv_goto (tgt := 2) hx hb dX0_foldBy_31 (by decide) ?_
      exact ih45 (v427, w422) H locs ls (by show (200 - v427.toInt).toNat < (200 - v20.toInt).toNat; omega) ⟨hP, hD, hS, lv_sub hl [0, 1, 2, 3] rfl, hT, ke424, ke425, by omega⟩
set_option maxHeartbeats 4000000 in
set_option maxRecDepth 100000 in
theorem x_X0_tryBeat (l : Launch) (D : va_G) (Y : Nat → ClassId) (Z : Nat → Nat) (sz : Nat) (ws : va_W) (T : RT) (g : GN) (q : GQ)  (p0 : Nat) (p1 : Nat) (p2 : Nat) (p4 : Nat) (p3 : Int32) (hT : TW Y Z T g q ws) (ht0 : T p0 = (10, 0, 0)) (ht1 : T p1 = (9, 0, 0)) (ht2 : T p2 = (5, 0, 0)) (ht4 : T p4 = (6, 0, 0)) (hp0 : (2 ≤ p3.toInt ∧ p3.toInt ≤ 200)) : Met l yX0_tryBeat (.code yX0_tryBeat cX0_tryBeat 14 none :: GW) ({ frames := 2, cells := 0, slots := 0, locals := 48 }) (va_Pc [.ref p0, .ref p1, .ref p2, .int p3, .ref p4] (CPC D Y Z ws sz)) (QG (S := va_W) (fun _ => none) (fun u => TW Y Z T g q u ∧ KF 1 T ws u) (fun u => CB D u (va_A ws sz)) (va_A ws sz)) 0 0 (va_A ws sz) := by
  refine Met.ofW (cc := cX0_tryBeat) (maxL := 14) (ret := none) (by decide) rfl ?_
  intro p e s m args below meth c s₁ B hml hv
  obtain ⟨rfl, ⟨hsz, hP, hKN, hD0⟩, hSZ⟩ := hv
  have hx := B.exec
  have hb := B.bytes
  have hr := B.returns
  have hts := atoms_spec (ws := .code yX0_tryBeat cX0_tryBeat 14 none :: GW) B.pre
  have hg : ∀ w ∈ GW, w.before _ s = true := fun w h => hts w (List.mem_cons_of_mem _ h)
  have hown : s.vm.findClass RX0 = some m.cls := findClass_of_methodNamed B.named
  have hlocks := B.notSynchronized
  subst hsz
  have hD := hD0.self (sz := s.heap.size)
  generalize hAe : va_A ws s.heap.size = A at hD hSZ ⊢
  have hA : ∀ q : Nat, s.heap.size ≤ q → A q := fun q h => by rw [← hAe]; exact Or.inr h
  clear hAe hD0 hts B
  have hl := lv_entry ([.ref p0, .ref p1, .ref p2, .int p3, .ref p4]) (n := 14) (Nat.le_of_ble_eq_true rfl)
  rw [lg_entry_eq]
  generalize (lg_sl ([.ref p0, .ref p1, .ref p2, .int p3, .ref p4]) ++ List.replicate (14 - (lg_sl ([.ref p0, .ref p1, .ref p2, .int p3, .ref p4])).length) Slot.unset).toArray = ls at hl ⊢
  have hl : lv_has ls 14 [(0, .ref p0), (1, .ref p1), (2, .ref p2), (3, .int p3), (4, .ref p4)] := hl
  refine w_start (A0 := A) hP (fun H locs hP hS => ?_)
  refine lv_aload_n hx hb dX0_tryBeat_0 rfl (lv_at hl 2 rfl) ?_
  refine ok5 hT ht2 (fun p22 x1 x2 x3 x4 x5 x6 x7 x8 a9 a10 a11 a12 a13 x14 hk23 h15 h16 h17 h18 h19 h20 h21 => ?_)
  refine va_getN (D := D) (ci := 8) (v := .int x5) (C := RX8) (T := TX8) (N := 14) hx hb hg inGX8 hown hKN.1 hP p22 hk23 rfl 4 (by decide) (va_Nw.use rfl (hKN.2.1 _ kn_127 rfl)) (fun _ h9 => h9) rfl dX0_tryBeat_1 ?_
  refine lv_iload_n hx hb dX0_tryBeat_4 rfl (lv_at hl 3 rfl) ?_
  refine lv_iconst (v := 1) hx hb dX0_tryBeat_5 (by decide) ?_
  refine lv_isub hx hb dX0_tryBeat_6 ?_
  refine lv_topi (fun v24 ev24 => ?_)
  have hv24 := i_sub (Eq.refl p3.toInt) (show (1 : Int32).toInt = 1 by decide) ev24 (by omega) (by omega)
  refine cg0 (rn_S (As := [.int x5, .int v24]) (rest := []) (x_J9_min_7cf53 l D Y Z H.size x5 v24) ⟨hx, hb, hml, hown, hg⟩ lk_X0_37 ⟨CP.blind, CP.at nilP hKN (nilD (A := fun _ => True))⟩ ⟨⟨rfl, rfl⟩, ⟨Nat.le_of_ble_eq_true rfl, Nat.le_of_ble_eq_true rfl⟩, ⟨(Nat.le_of_ble_eq_true rfl), (Nat.le_of_ble_eq_true rfl)⟩⟩ hl.1 rfl (Nat.le_of_ble_eq_true rfl) dX0_tryBeat_7) hP hS hA (fun u25 H locs hw26 hP hS => ?_)
  obtain ⟨hw28, hw29⟩ : (u25.toInt ≤ x5.toInt ∧ u25.toInt ≤ v24.toInt) ∧ (u25.toInt = x5.toInt ∨ u25.toInt = v24.toInt) := hw26
  refine W.eq (g2 := F0 m 10 ls [.int u25]) rfl ?_
  refine lv_istore (lv' := [(5, .int u25), (0, .ref p0), (1, .ref p1), (2, .ref p2), (3, .int p3), (4, .ref p4)]) hx hb dX0_tryBeat_10 hl (by decide) rfl (fun ls hl => ?_)
  refine lv_iconst (v := 1) hx hb dX0_tryBeat_12 (by decide) ?_
  refine lv_aload_n hx hb dX0_tryBeat_13 rfl (lv_at hl 3 rfl) ?_
  refine va_getN (D := D) (ci := 8) (v := .int x4) (C := RX8) (T := TX8) (N := 14) hx hb hg inGX8 hown hKN.1 hP p22 hk23 rfl 3 (by decide) (va_Nw.use rfl (hKN.2.1 _ kn_124 rfl)) (fun _ h9 => h9) rfl dX0_tryBeat_14 ?_
  have zi1 : (1 : Int32).toInt = 1 := by decide
  refine cg0 (rn_S (As := [.int 1, .int x4]) (rest := []) (x_J9_max_7cf53 l D Y Z H.size 1 x4) ⟨hx, hb, hml, hown, hg⟩ lk_X0_46 ⟨CP.blind, CP.at nilP hKN (nilD (A := fun _ => True))⟩ ⟨⟨rfl, rfl⟩, ⟨Nat.le_of_ble_eq_true rfl, Nat.le_of_ble_eq_true rfl⟩, ⟨(Nat.le_of_ble_eq_true rfl), (Nat.le_of_ble_eq_true rfl)⟩⟩ hl.1 rfl (Nat.le_of_ble_eq_true rfl) dX0_tryBeat_17) hP hS hA (fun u30 H locs hw31 hP hS => ?_)
  obtain ⟨hw33, hw34⟩ : ((1 : Int32).toInt ≤ u30.toInt ∧ x4.toInt ≤ u30.toInt) ∧ (u30.toInt = (1 : Int32).toInt ∨ u30.toInt = x4.toInt) := hw31
  refine W.eq (g2 := F0 m 20 ls [.int u30]) rfl ?_
  refine lv_istore (lv' := [(6, .int u30), (5, .int u25), (0, .ref p0), (1, .ref p1), (2, .ref p2), (3, .int p3), (4, .ref p4)]) hx hb dX0_tryBeat_20 hl (by decide) rfl (fun ls hl => ?_)
  refine w_loop (σ := Int32 × va_W) (fun xx H locs ls => match xx with | (v4289, w4290) => va_P D vwCl w4290 H ∧ va_D A w4290 ∧ va_S A s.heap H locs ∧ lv_has ls 14 [(6, .int v4289), (5, .int u25), (0, .ref p0), (1, .ref p1), (2, .ref p2), (3, .int p3), (4, .ref p4)] ∧ TW Y Z T g q w4290 ∧ KF 1 T ws w4290 ∧ (1 ≤ v4289.toInt)) (fun xx => match xx with | (v4289, w4290) => (200 - v4289.toInt).toNat) (u30, ws) ⟨hP, hD, hS, lv_sub hl [0, 1, 2, 3, 4, 5, 6] rfl, hT, KF.rf, by omega⟩ (fun xx H locs ls hI ih => ?_)
  obtain ⟨v4289, w4290⟩ := xx
  obtain ⟨hP, hD, hS, hl, hT, ke8898, hq8897⟩ := hI
  have ih8899 := ih
  refine lv_iload hx hb dX0_tryBeat_22 (lv_at hl 0 rfl) ?_
  refine lv_iload hx hb dX0_tryBeat_24 (lv_at hl 1 rfl) ?_
  have j11203 := rgI v4289
  have j11204 := rgI u25
  refine lv_icmp_gt (tgt := 252) hx hb dX0_tryBeat_26 (by decide) (fun c11205 => ?_) (fun c11205 => ?_)
  · skip
    have c11205 := i_lt (Eq.refl u25.toInt) (Eq.refl v4289.toInt) c11205
    refine W.widen (k := 0) (n := 0) (Nat.le_of_ble_eq_true rfl) (Nat.le_of_ble_eq_true rfl) ?_
    exact W.vret hx hb hr (fun t ht hW => ⟨⟨w4290, rfl, ⟨hT, ke8898⟩, CB.mk ht hP hD⟩, hS.F ht⟩) hS.2.2 dX0_tryBeat_252
  · skip
    have c11205 := i_nlt (Eq.refl u25.toInt) (Eq.refl v4289.toInt) c11205
    refine lv_iconst (v := 0) hx hb dX0_tryBeat_29 (by decide) ?_
    refine lv_istore (lv' := [(7, .int 0), (6, .int v4289), (5, .int u25), (0, .ref p0), (1, .ref p1), (2, .ref p2), (3, .int p3), (4, .ref p4)]) hx hb dX0_tryBeat_30 hl (by decide) rfl (fun ls hl => ?_)
    refine lv_lconst (v := 0) hx hb dX0_tryBeat_32 (by decide) ?_
    refine lv_lstore (lv' := [(8, .long 0), (7, .int 0), (6, .int v4289), (5, .int u25), (0, .ref p0), (1, .ref p1), (2, .ref p2), (3, .int p3), (4, .ref p4)]) hx hb dX0_tryBeat_33 hl (by decide) rfl (fun ls hl => ?_)
    refine lv_iconst (v := 0) hx hb dX0_tryBeat_35 (by decide) ?_
    refine lv_istore (lv' := [(10, .int 0), (8, .long 0), (7, .int 0), (6, .int v4289), (5, .int u25), (0, .ref p0), (1, .ref p1), (2, .ref p2), (3, .int p3), (4, .ref p4)]) hx hb dX0_tryBeat_36 hl (by decide) rfl (fun ls hl => ?_)
    have zi0 : (0 : Int32).toInt = 0 := by decide
    have zl0 : (0 : Int64).toInt = 0 := by decide
    refine w_loop (σ := Int32 × Int64 × Int32) (fun xx H locs ls => match xx with | (v11233, v11234, v11235) => va_P D vwCl w4290 H ∧ va_D A w4290 ∧ va_S A s.heap H locs ∧ lv_has ls 14 [(10, .int v11233), (8, .long v11234), (7, .int v11235), (6, .int v4289), (5, .int u25), (0, .ref p0), (1, .ref p1), (2, .ref p2), (3, .int p3), (4, .ref p4)] ∧ TW Y Z T g q w4290 ∧ (0 ≤ v11233.toInt ∧ v11233.toInt ≤ 200)) (fun xx => match xx with | (v11233, v11234, v11235) => (200 - v11233.toInt).toNat) (0, 0, 0) ⟨hP, hD, hS, lv_sub hl [0, 1, 2, 3, 4, 5, 6, 7, 8, 9] rfl, hT, by omega⟩ (fun xx H locs ls hI ih => ?_)
    obtain ⟨v11233, v11234, v11235⟩ := xx
    obtain ⟨hP, hD, hS, hl, hT, hq11261⟩ := hI
    have ih11262 := ih
    refine lv_iload hx hb dX0_tryBeat_38 (lv_at hl 0 rfl) ?_
    refine lv_iload hx hb dX0_tryBeat_40 (lv_at hl 3 rfl) ?_
    refine lv_iconst (v := 1) hx hb dX0_tryBeat_42 (by decide) ?_
    refine lv_isub hx hb dX0_tryBeat_43 ?_
    refine lv_topi (fun v11263 ev11263 => ?_)
    have hv11263 := i_sub (Eq.refl v4289.toInt) (show (1 : Int32).toInt = 1 by decide) ev11263 (by omega) (by omega)
    refine lv_icmp_ge (tgt := 77) hx hb dX0_tryBeat_44 (by decide) (fun c11276 => ?_) (fun c11276 => ?_)
    · skip
      have c11276 := i_le (Eq.refl v11263.toInt) (Eq.refl v11233.toInt) c11276
      refine lv_iconst (v := 0) hx hb dX0_tryBeat_77 (by decide) ?_
      refine lv_istore (lv' := [(10, .int 0), (8, .long v11234), (7, .int v11235), (6, .int v4289), (5, .int u25), (0, .ref p0), (1, .ref p1), (2, .ref p2), (3, .int p3), (4, .ref p4)]) hx hb dX0_tryBeat_78 hl (by decide) rfl (fun ls hl => ?_)
      have zi0 : (0 : Int32).toInt = 0 := by decide
      refine w_loop (σ := Int32 × Int64 × Int32 × va_W) (fun xx H locs ls => match xx with | (v12011, v12012, v12013, w12014) => va_P D vwCl w12014 H ∧ va_D A w12014 ∧ va_S A s.heap H locs ∧ lv_has ls 14 [(10, .int v12011), (8, .long v12012), (7, .int v12013), (6, .int v4289), (5, .int u25), (0, .ref p0), (1, .ref p1), (2, .ref p2), (3, .int p3), (4, .ref p4)] ∧ TW Y Z T g q w12014 ∧ KF 1 T ws w12014 ∧ (0 ≤ v12011.toInt ∧ v12011.toInt ≤ 200)) (fun xx => match xx with | (v12011, v12012, v12013, w12014) => (200 - v12011.toInt).toNat) (0, v11234, v11235, w4290) ⟨hP, hD, hS, lv_sub hl [0, 1, 2, 3, 4, 5, 6, 7, 8, 9] rfl, hT, ke8898, by omega⟩ (fun xx H locs ls hI ih => ?_)
      obtain ⟨v12011, v12012, v12013, w12014⟩ := xx
      obtain ⟨hP, hD, hS, hl, hT, ke12754, hq12753⟩ := hI
      have ih12755 := ih
      refine lv_iload hx hb dX0_tryBeat_80 (lv_at hl 0 rfl) ?_
      refine lv_iload_n hx hb dX0_tryBeat_82 rfl (lv_at hl 8 rfl) ?_
      refine lv_icmp_ge (tgt := 246) hx hb dX0_tryBeat_83 (by decide) (fun c13125 => ?_) (fun c13125 => ?_)
      · skip
        have c13125 := i_le (Eq.refl p3.toInt) (Eq.refl v12011.toInt) c13125
        obtain ⟨v13126, ev13126⟩ : ∃ y : Int32, y = v4289 + 1 := ⟨_, rfl⟩
        have hv13126 := i_add (Eq.refl v4289.toInt) (show (1 : Int32).toInt = 1 by decide) ev13126 (by omega) (by omega)
        refine lv_iinc (v := v13126) (lv' := [(6, .int v13126), (10, .int v12011), (8, .long v12012), (7, .int v12013), (5, .int u25), (0, .ref p0), (1, .ref p1), (2, .ref p2), (3, .int p3), (4, .ref p4)]) hx hb dX0_tryBeat_246 hl (k := 3) rfl (by rw [ev13126]; rfl) (by decide) rfl (fun ls hl => ?_)
        refine lv_goto (tgt := 22) hx hb dX0_tryBeat_249 (by decide) ?_
        exact ih8899 (v13126, w12014) H locs ls (by show (200 - v13126.toInt).toNat < (200 - v4289.toInt).toNat; omega) ⟨hP, hD, hS, lv_sub hl [0, 4, 5, 6, 7, 8, 9] rfl, hT, ke12754, by omega⟩
      · skip
        have c13125 := i_nle (Eq.refl p3.toInt) (Eq.refl v12011.toInt) c13125
        refine lv_iload hx hb dX0_tryBeat_86 (lv_at hl 0 rfl) ?_
        refine lv_iload hx hb dX0_tryBeat_88 (lv_at hl 3 rfl) ?_
        refine lv_iadd hx hb dX0_tryBeat_90 ?_
        refine lv_topi (fun v13127 ev13127 => ?_)
        have hv13127 := i_add (Eq.refl v12011.toInt) (Eq.refl v4289.toInt) ev13127 (by omega) (by omega)
        refine lv_iconst (v := 1) hx hb dX0_tryBeat_91 (by decide) ?_
        refine lv_isub hx hb dX0_tryBeat_92 ?_
        refine lv_topi (fun v13128 ev13128 => ?_)
        have hv13128 := i_sub (Eq.refl v13127.toInt) (show (1 : Int32).toInt = 1 by decide) ev13128 (by omega) (by omega)
        refine lv_istore (lv' := [(11, .int v13128), (10, .int v12011), (8, .long v12012), (7, .int v12013), (6, .int v4289), (5, .int u25), (0, .ref p0), (1, .ref p1), (2, .ref p2), (3, .int p3), (4, .ref p4)]) hx hb dX0_tryBeat_93 hl (by decide) rfl (fun ls hl => ?_)
        refine lv_iload hx hb dX0_tryBeat_95 (lv_at hl 0 rfl) ?_
        refine lv_iload hx hb dX0_tryBeat_97 (lv_at hl 0 rfl) ?_
        refine lv_iload_n hx hb dX0_tryBeat_99 rfl (lv_at hl 9 rfl) ?_
        refine lv_icmp_lt (tgt := 107) hx hb dX0_tryBeat_100 (by decide) (fun c13130 => ?_) (fun c13130 => ?_)
        · skip
          have c13130 := i_lt (Eq.refl v13128.toInt) (Eq.refl p3.toInt) c13130
          refine lv_iconst (v := 0) hx hb dX0_tryBeat_107 (by decide) ?_
          refine lv_isub hx hb dX0_tryBeat_108 ?_
          refine lv_topi (fun v13131 ev13131 => ?_)
          have hv13131 := i_sub (Eq.refl v13128.toInt) (show (0 : Int32).toInt = 0 by decide) ev13131 (by omega) (by omega)
          refine lv_istore (lv' := [(11, .int v13131), (10, .int v12011), (8, .long v12012), (7, .int v12013), (6, .int v4289), (5, .int u25), (0, .ref p0), (1, .ref p1), (2, .ref p2), (3, .int p3), (4, .ref p4)]) hx hb dX0_tryBeat_109 hl (by decide) rfl (fun ls hl => ?_)
          refine lv_iload hx hb dX0_tryBeat_111 (lv_at hl 3 rfl) ?_
          refine lv_aload_n hx hb dX0_tryBeat_113 rfl (lv_at hl 6 rfl) ?_
          refine ok10 hT ht0 (fun p13136 a13132 a13133 hk13137 h13134 h13135 => ?_)
          refine va_get (D := D) (ci := 0) (v := .ref a13132) (C := RX0) (T := TX0) (N := 2) hx hb hg inGX0 hown hKN.1 hP p13136 hk13137 rfl 0 (by decide) (hg _ kw_276) (fun _ h9 => h9) rfl dX0_tryBeat_114 ?_
          refine lv_iload hx hb dX0_tryBeat_117 (lv_at hl 0 rfl) ?_
          refine tr_ld12 hx hb hKN hP hT h13134 (vp_in_iff.mpr ⟨by omega, by omega⟩) dX0_tryBeat_119 (fun v13138 => ?_)
          refine lv_iadd hx hb dX0_tryBeat_120 ?_
          refine lv_topi (fun v13139 ev13139 => ?_)
          refine lv_istore (lv' := [(7, .int v13139), (11, .int v13131), (10, .int v12011), (8, .long v12012), (6, .int v4289), (5, .int u25), (0, .ref p0), (1, .ref p1), (2, .ref p2), (3, .int p3), (4, .ref p4)]) hx hb dX0_tryBeat_121 hl (by decide) rfl (fun ls hl => ?_)
          refine lv_lload hx hb dX0_tryBeat_123 (lv_at hl 3 rfl) ?_
          refine lv_aload_n hx hb dX0_tryBeat_125 rfl (lv_at hl 6 rfl) ?_
          refine va_get (D := D) (ci := 0) (v := .ref a13133) (C := RX0) (T := TX0) (N := 2) hx hb hg inGX0 hown hKN.1 hP p13136 hk13137 rfl 1 (by decide) (hg _ kw_277) (fun _ h9 => h9) rfl dX0_tryBeat_126 ?_
          refine lv_iload hx hb dX0_tryBeat_129 (lv_at hl 1 rfl) ?_
          refine tr_ld15 hx hb hKN hP hT h13135 (vp_in_iff.mpr ⟨by omega, by omega⟩) dX0_tryBeat_131 (fun v13140 => ?_)
          refine lv_ladd hx hb dX0_tryBeat_132 ?_
          refine lv_topl (fun v13141 ev13141 => ?_)
          refine lv_lstore (lv' := [(8, .long v13141), (7, .int v13139), (11, .int v13131), (10, .int v12011), (6, .int v4289), (5, .int u25), (0, .ref p0), (1, .ref p1), (2, .ref p2), (3, .int p3), (4, .ref p4)]) hx hb dX0_tryBeat_133 hl (by decide) rfl (fun ls hl => ?_)
          refine lv_aload_n hx hb dX0_tryBeat_135 rfl (lv_at hl 7 rfl) ?_
          refine lv_iload hx hb dX0_tryBeat_136 (lv_at hl 1 rfl) ?_
          refine ok9 hT ht1 (fun p13154 a13142 a13143 a13144 x13145 y13146 y13147 x13148 y13149 hk13155 h13150 h13151 h13152 h13153 => ?_)
          refine va_putN (D := D) (ci := 2) (v := .int v13139) (ty := .int) (C := RX2) (T := TX2) (N := 8) hx hb hg inGX2 tyX2 tyX2_ok nmX2 hown hKN.1 hP hD hS p13154 hk13155 rfl 6 (by decide) (va_Nw.use rfl (hKN.2.1 _ kn_247 rfl)) (fun _ h9 => h9) rfl (by decide +kernel) rfl rfl (Nat.le_of_ble_eq_true rfl) dX0_tryBeat_138 (fun H locs hP hD2 hS => ?_)
          obtain ⟨w13156, hP, hD, hT, hk13158, kp13157⟩ : ∃ wz, va_P D vwCl wz H ∧ va_D A wz ∧ TW Y Z T g q wz ∧ wz[p13154]? = some (p1, .inr (2, [.ref a13142, .ref a13143, .ref a13144, .int x13145, .long y13146, .long y13147, .int v13139, .long y13149])) ∧ Kp p1 w12014 wz := ⟨_, hP, hD2, st9 hT hD hk13155 ht1 ⟨a13142, a13143, a13144, x13145, y13146, y13147, v13139, y13149, rfl, h13150, h13151, h13152, by omega⟩, sw_eq hk13155, sw_kp hk13155⟩
          have ke13159 : KF 1 T ws w13156 := KF.tr ke12754 (KF.kp kp13157 ht1 (by decide))
          have hk13160 := kp13157 _ _ hk13137 (rne ht0 ht1 (by decide))
          refine lv_aload_n hx hb dX0_tryBeat_141 rfl (lv_at hl 7 rfl) ?_
          refine lv_lload hx hb dX0_tryBeat_142 (lv_at hl 0 rfl) ?_
          refine va_putN (D := D) (ci := 2) (v := .long v13141) (ty := .long) (C := RX2) (T := TX2) (N := 8) hx hb hg inGX2 tyX2 tyX2_ok nmX2 hown hKN.1 hP hD hS p13154 hk13158 rfl 7 (by decide) (va_Nw.use rfl (hKN.2.1 _ kn_250 rfl)) (fun _ h9 => h9) rfl (by decide +kernel) rfl rfl (Nat.le_of_ble_eq_true rfl) dX0_tryBeat_144 (fun H locs hP hD2 hS => ?_)
          obtain ⟨w13161, hP, hD, hT, hk13163, kp13162⟩ : ∃ wz, va_P D vwCl wz H ∧ va_D A wz ∧ TW Y Z T g q wz ∧ wz[p13154]? = some (p1, .inr (2, [.ref a13142, .ref a13143, .ref a13144, .int x13145, .long y13146, .long y13147, .int v13139, .long v13141])) ∧ Kp p1 w13156 wz := ⟨_, hP, hD2, st9 hT hD hk13158 ht1 ⟨a13142, a13143, a13144, x13145, y13146, y13147, v13139, v13141, rfl, h13150, h13151, h13152, by omega⟩, sw_eq hk13158, sw_kp hk13158⟩
          have ke13164 : KF 1 T ws w13161 := KF.tr ke13159 (KF.kp kp13162 ht1 (by decide))
          have hk13165 := kp13162 _ _ hk13160 (rne ht0 ht1 (by decide))
          refine lv_aload_n hx hb dX0_tryBeat_147 rfl (lv_at hl 7 rfl) ?_
          refine cga (rn_NV (As := []) (rest := []) (b := p1) (x_X2_score l D Y Z H.size w13161 T g q p1 hT ht1) ⟨hx, hb, hml, hown, hg⟩ hKN lk_X0_106 ⟨CPC.blind, va_recv hKN.1 hP (ci := 2) (q0 := p13154) rfl hk13163, CPC.at hP hKN hD hSZ hS hA⟩ ⟨⟨rfl, rfl⟩, ⟨Nat.le_of_ble_eq_true rfl, Nat.le_of_ble_eq_true rfl⟩, ⟨(Nat.le_of_ble_eq_true rfl), (Nat.le_of_ble_eq_true rfl)⟩⟩ hl.1 rfl (Nat.le_of_ble_eq_true rfl) dX0_tryBeat_148) hP hD hS hA (fun u13166 H locs hw13167 hP hD hS => ?_)
          refine W.eq (g2 := F0 m 151 ls [.long u13166]) rfl ?_
          refine lv_lstore (lv' := [(12, .long u13166), (8, .long v13141), (7, .int v13139), (11, .int v13131), (10, .int v12011), (6, .int v4289), (5, .int u25), (0, .ref p0), (1, .ref p1), (2, .ref p2), (3, .int p3), (4, .ref p4)]) hx hb dX0_tryBeat_151 hl (by decide) rfl (fun ls hl => ?_)
          refine lv_lload hx hb dX0_tryBeat_153 (lv_at hl 0 rfl) ?_
          refine lv_aload hx hb dX0_tryBeat_155 (lv_at hl 11 rfl) ?_
          refine ok6 hT ht4 (fun p13177 x13169 x13170 x13171 x13172 x13173 y13174 y13175 hk13178 h13176 => ?_)
          refine va_getN (D := D) (ci := 1) (v := .long y13175) (C := RX1) (T := TX1) (N := 7) hx hb hg inGX1 hown hKN.1 hP p13177 hk13178 rfl 6 (by decide) (va_Nw.use rfl (hKN.2.1 _ kn_331 rfl)) (fun _ h9 => h9) rfl dX0_tryBeat_157 ?_
          refine w_join (σ := va_W) (pcJ := 216) (kJ := 0) (nJ := 0) (stk := fun xx => match xx with | w13239 => []) (fun xx H locs ls => match xx with | w13239 => va_P D vwCl w13239 H ∧ va_D A w13239 ∧ va_S A s.heap H locs ∧ lv_has ls 14 [(12, .long u13166), (8, .long v13141), (7, .int v13139), (11, .int v13131), (10, .int v12011), (6, .int v4289), (5, .int u25), (0, .ref p0), (1, .ref p1), (2, .ref p2), (3, .int p3), (4, .ref p4)] ∧ TW Y Z T g q w13239 ∧ KF 1 T ws w13239) (fun xx H locs ls hI => ?_) (fun jn13240 => ?_)
          · skip
            revert hI
            generalize xx = w13239
            intro hI
            obtain ⟨hP, hD, hS, hl, hT, ke13241⟩ := hI
            refine W.eq (g2 := F0 m 216 ls []) rfl ?_
            refine lv_iload hx hb dX0_tryBeat_216 (lv_at hl 2 rfl) ?_
            refine lv_aload_n hx hb dX0_tryBeat_218 rfl (lv_at hl 7 rfl) ?_
            refine ok10 hT ht0 (fun p13246 a13242 a13243 hk13247 h13244 h13245 => ?_)
            refine va_get (D := D) (ci := 0) (v := .ref a13242) (C := RX0) (T := TX0) (N := 2) hx hb hg inGX0 hown hKN.1 hP p13246 hk13247 rfl 0 (by decide) (hg _ kw_276) (fun _ h9 => h9) rfl dX0_tryBeat_219 ?_
            refine lv_iload hx hb dX0_tryBeat_222 (lv_at hl 4 rfl) ?_
            refine tr_ld12 hx hb hKN hP hT h13244 (vp_in_iff.mpr ⟨by omega, by omega⟩) dX0_tryBeat_224 (fun v13248 => ?_)
            refine lv_isub hx hb dX0_tryBeat_225 ?_
            refine lv_topi (fun v13249 ev13249 => ?_)
            refine lv_istore (lv' := [(7, .int v13249), (12, .long u13166), (8, .long v13141), (11, .int v13131), (10, .int v12011), (6, .int v4289), (5, .int u25), (0, .ref p0), (1, .ref p1), (2, .ref p2), (3, .int p3), (4, .ref p4)]) hx hb dX0_tryBeat_226 hl (by decide) rfl (fun ls hl => ?_)
            refine lv_lload hx hb dX0_tryBeat_228 (lv_at hl 2 rfl) ?_
            refine lv_aload_n hx hb dX0_tryBeat_230 rfl (lv_at hl 7 rfl) ?_
            refine va_get (D := D) (ci := 0) (v := .ref a13243) (C := RX0) (T := TX0) (N := 2) hx hb hg inGX0 hown hKN.1 hP p13246 hk13247 rfl 1 (by decide) (hg _ kw_277) (fun _ h9 => h9) rfl dX0_tryBeat_231 ?_
            refine lv_iload hx hb dX0_tryBeat_234 (lv_at hl 4 rfl) ?_
            refine tr_ld15 hx hb hKN hP hT h13245 (vp_in_iff.mpr ⟨by omega, by omega⟩) dX0_tryBeat_236 (fun v13250 => ?_)
            refine lv_lsub hx hb dX0_tryBeat_237 ?_
            refine lv_topl (fun v13251 ev13251 => ?_)
            refine lv_lstore (lv' := [(8, .long v13251), (7, .int v13249), (12, .long u13166), (11, .int v13131), (10, .int v12011), (6, .int v4289), (5, .int u25), (0, .ref p0), (1, .ref p1), (2, .ref p2), (3, .int p3), (4, .ref p4)]) hx hb dX0_tryBeat_238 hl (by decide) rfl (fun ls hl => ?_)
            obtain ⟨v13252, ev13252⟩ : ∃ y : Int32, y = v12011 + 1 := ⟨_, rfl⟩
            have hv13252 := i_add (Eq.refl v12011.toInt) (show (1 : Int32).toInt = 1 by decide) ev13252 (by omega) (by omega)
            refine lv_iinc (v := v13252) (lv' := [(10, .int v13252), (8, .long v13251), (7, .int v13249), (12, .long u13166), (11, .int v13131), (6, .int v4289), (5, .int u25), (0, .ref p0), (1, .ref p1), (2, .ref p2), (3, .int p3), (4, .ref p4)]) hx hb dX0_tryBeat_240 hl (k := 4) rfl (by rw [ev13252]; rfl) (by decide) rfl (fun ls hl => ?_)
            refine lv_goto (tgt := 80) hx hb dX0_tryBeat_243 (by decide) ?_
            exact ih12755 (v13252, v13251, v13249, w13239) H locs ls (by show (200 - v13252.toInt).toNat < (200 - v12011.toInt).toNat; omega) ⟨hP, hD, hS, lv_sub hl [0, 1, 2, 5, 6, 7, 8, 9, 10, 11] rfl, hT, ke13241, by omega⟩
          · skip
            refine W.lcmp hx hb dX0_tryBeat_160 ?_
            refine lv_if_le (tgt := 216) hx hb dX0_tryBeat_161 (by decide) (fun c13253 => ?_) (fun c13253 => ?_)
            · skip
              have c13253 := l_le (Eq.refl u13166.toInt) (Eq.refl y13175.toInt) c13253
              refine W.widen (k := 0) (n := 0) (Nat.le_of_ble_eq_true rfl) (Nat.le_of_ble_eq_true rfl) ?_
              exact jn13240 (w13161) H locs ls ⟨hP, hD, hS, lv_sub hl [0, 1, 2, 3, 4, 5, 6, 7, 8, 9, 10, 11] rfl, hT, ke13164⟩
            · skip
              have c13253 := l_nle (Eq.refl u13166.toInt) (Eq.refl y13175.toInt) c13253
              refine lv_iload hx hb dX0_tryBeat_164 (lv_at hl 2 rfl) ?_
              refine lv_aload_n hx hb dX0_tryBeat_166 rfl (lv_at hl 9 rfl) ?_
              refine ok5 hT ht2 (fun p13275 x13254 x13255 x13256 x13257 x13258 x13259 x13260 x13261 a13262 a13263 a13264 a13265 a13266 x13267 hk13276 h13268 h13269 h13270 h13271 h13272 h13273 h13274 => ?_)
              refine va_getN (D := D) (ci := 8) (v := .int x13259) (C := RX8) (T := TX8) (N := 14) hx hb hg inGX8 hown hKN.1 hP p13275 hk13276 rfl 5 (by decide) (va_Nw.use rfl (hKN.2.1 _ kn_130 rfl)) (fun _ h9 => h9) rfl dX0_tryBeat_167 ?_
              have j13277 := rgI v13139
              have j13278 := rgI x13259
              refine lv_icmp_lt (tgt := 216) hx hb dX0_tryBeat_170 (by decide) (fun c13279 => ?_) (fun c13279 => ?_)
              · skip
                have c13279 := i_lt (Eq.refl v13139.toInt) (Eq.refl x13259.toInt) c13279
                refine W.widen (k := 0) (n := 0) (Nat.le_of_ble_eq_true rfl) (Nat.le_of_ble_eq_true rfl) ?_
                exact jn13240 (w13161) H locs ls ⟨hP, hD, hS, lv_sub hl [0, 1, 2, 3, 4, 5, 6, 7, 8, 9, 10, 11] rfl, hT, ke13164⟩
              · skip
                have c13279 := i_nlt (Eq.refl v13139.toInt) (Eq.refl x13259.toInt) c13279
                refine lv_aload_n hx hb dX0_tryBeat_173 rfl (lv_at hl 8 rfl) ?_
                refine lv_iload_n hx hb dX0_tryBeat_174 rfl (lv_at hl 10 rfl) ?_
                refine lv_iload hx hb dX0_tryBeat_175 (lv_at hl 5 rfl) ?_
                refine lv_iload hx hb dX0_tryBeat_177 (lv_at hl 4 rfl) ?_
                refine cga (rn_NV (As := [.int p3, .int v4289, .int v12011]) (rest := []) (b := p1) (x_X2_dips l D Y Z H.size w13161 T g q p1 p3 v4289 v12011 hT ht1 (show (p3.toInt ≤ 200) by omega)) ⟨hx, hb, hml, hown, hg⟩ hKN lk_X0_85 ⟨CPC.blind, va_recv hKN.1 hP (ci := 2) (q0 := p13154) rfl hk13163, CPC.at hP hKN hD hSZ hS hA⟩ ⟨⟨rfl, rfl⟩, ⟨Nat.le_of_ble_eq_true rfl, Nat.le_of_ble_eq_true rfl⟩, ⟨(Nat.le_of_ble_eq_true rfl), (Nat.le_of_ble_eq_true rfl)⟩⟩ hl.1 rfl (Nat.le_of_ble_eq_true rfl) dX0_tryBeat_179) hP hD hS hA (fun u13280 H locs hw13281 hP hD hS => ?_)
                refine W.eq (g2 := F0 m 182 ls [.int u13280]) rfl ?_
                refine lv_aload_n hx hb dX0_tryBeat_182 rfl (lv_at hl 9 rfl) ?_
                refine va_getN (D := D) (ci := 8) (v := .int x13259) (C := RX8) (T := TX8) (N := 14) hx hb hg inGX8 hown hKN.1 hP p13275 hk13276 rfl 5 (by decide) (va_Nw.use rfl (hKN.2.1 _ kn_130 rfl)) (fun _ h9 => h9) rfl dX0_tryBeat_183 ?_
                have j13283 := rgI u13280
                refine lv_icmp_lt (tgt := 216) hx hb dX0_tryBeat_186 (by decide) (fun c13284 => ?_) (fun c13284 => ?_)
                · skip
                  have c13284 := i_lt (Eq.refl u13280.toInt) (Eq.refl x13259.toInt) c13284
                  refine W.widen (k := 0) (n := 0) (Nat.le_of_ble_eq_true rfl) (Nat.le_of_ble_eq_true rfl) ?_
                  exact jn13240 (w13161) H locs ls ⟨hP, hD, hS, lv_sub hl [0, 1, 2, 3, 4, 5, 6, 7, 8, 9, 10, 11] rfl, hT, ke13164⟩
                · skip
                  have c13284 := i_nlt (Eq.refl u13280.toInt) (Eq.refl x13259.toInt) c13284
                  refine lv_aload hx hb dX0_tryBeat_189 (lv_at hl 11 rfl) ?_
                  refine lv_iload_n hx hb dX0_tryBeat_191 rfl (lv_at hl 10 rfl) ?_
                  refine va_putN (D := D) (ci := 1) (v := .int p3) (ty := .int) (C := RX1) (T := TX1) (N := 7) hx hb hg inGX1 tyX1 tyX1_ok nmX1 hown hKN.1 hP hD hS p13177 hk13178 rfl 1 (by decide) (va_Nw.use rfl (hKN.2.1 _ kn_309 rfl)) (fun _ h9 => h9) rfl (by decide +kernel) rfl rfl (Nat.le_of_ble_eq_true rfl) dX0_tryBeat_192 (fun H locs hP hD2 hS => ?_)
                  obtain ⟨w13285, hP, hD, hT, hk13287, kp13286⟩ : ∃ wz, va_P D vwCl wz H ∧ va_D A wz ∧ TW Y Z T g q wz ∧ wz[p13177]? = some (p4, .inr (1, [.int x13169, .int p3, .int x13171, .int x13172, .int x13173, .long y13174, .long y13175])) ∧ Kp p4 w13161 wz := ⟨_, hP, hD2, st6 hT hD hk13178 ht4 ⟨x13169, p3, x13171, x13172, x13173, y13174, y13175, rfl, by omega⟩, sw_eq hk13178, sw_kp hk13178⟩
                  have ke13288 : KF 1 T ws w13285 := KF.tr ke13164 (KF.kp kp13286 ht4 (by decide))
                  have hk13289 := kp13286 _ _ hk13165 (rne ht0 ht4 (by decide))
                  have hk13290 := kp13286 _ _ hk13163 (rne ht1 ht4 (by decide))
                  have hk13291 := kp13286 _ _ hk13276 (rne ht2 ht4 (by decide))
                  refine lv_aload hx hb dX0_tryBeat_195 (lv_at hl 11 rfl) ?_
                  refine lv_iload hx hb dX0_tryBeat_197 (lv_at hl 5 rfl) ?_
                  refine va_putN (D := D) (ci := 1) (v := .int v4289) (ty := .int) (C := RX1) (T := TX1) (N := 7) hx hb hg inGX1 tyX1 tyX1_ok nmX1 hown hKN.1 hP hD hS p13177 hk13287 rfl 2 (by decide) (va_Nw.use rfl (hKN.2.1 _ kn_314 rfl)) (fun _ h9 => h9) rfl (by decide +kernel) rfl rfl (Nat.le_of_ble_eq_true rfl) dX0_tryBeat_199 (fun H locs hP hD2 hS => ?_)
                  obtain ⟨w13292, hP, hD, hT, hk13294, kp13293⟩ : ∃ wz, va_P D vwCl wz H ∧ va_D A wz ∧ TW Y Z T g q wz ∧ wz[p13177]? = some (p4, .inr (1, [.int x13169, .int p3, .int v4289, .int x13172, .int x13173, .long y13174, .long y13175])) ∧ Kp p4 w13285 wz := ⟨_, hP, hD2, st6 hT hD hk13287 ht4 ⟨x13169, p3, v4289, x13172, x13173, y13174, y13175, rfl, by omega⟩, sw_eq hk13287, sw_kp hk13287⟩
                  have ke13295 : KF 1 T ws w13292 := KF.tr ke13288 (KF.kp kp13293 ht4 (by decide))
                  have hk13296 := kp13293 _ _ hk13289 (rne ht0 ht4 (by decide))
                  have hk13297 := kp13293 _ _ hk13290 (rne ht1 ht4 (by decide))
                  have hk13298 := kp13293 _ _ hk13291 (rne ht2 ht4 (by decide))
                  refine lv_aload hx hb dX0_tryBeat_202 (lv_at hl 11 rfl) ?_
                  refine lv_iload hx hb dX0_tryBeat_204 (lv_at hl 4 rfl) ?_
                  refine va_putN (D := D) (ci := 1) (v := .int v12011) (ty := .int) (C := RX1) (T := TX1) (N := 7) hx hb hg inGX1 tyX1 tyX1_ok nmX1 hown hKN.1 hP hD hS p13177 hk13294 rfl 3 (by decide) (va_Nw.use rfl (hKN.2.1 _ kn_319 rfl)) (fun _ h9 => h9) rfl (by decide +kernel) rfl rfl (Nat.le_of_ble_eq_true rfl) dX0_tryBeat_206 (fun H locs hP hD2 hS => ?_)
                  obtain ⟨w13299, hP, hD, hT, hk13301, kp13300⟩ : ∃ wz, va_P D vwCl wz H ∧ va_D A wz ∧ TW Y Z T g q wz ∧ wz[p13177]? = some (p4, .inr (1, [.int x13169, .int p3, .int v4289, .int v12011, .int x13173, .long y13174, .long y13175])) ∧ Kp p4 w13292 wz := ⟨_, hP, hD2, st6 hT hD hk13294 ht4 ⟨x13169, p3, v4289, v12011, x13173, y13174, y13175, rfl, by omega⟩, sw_eq hk13294, sw_kp hk13294⟩
                  have ke13302 : KF 1 T ws w13299 := KF.tr ke13295 (KF.kp kp13300 ht4 (by decide))
                  have hk13303 := kp13300 _ _ hk13296 (rne ht0 ht4 (by decide))
                  have hk13304 := kp13300 _ _ hk13297 (rne ht1 ht4 (by decide))
                  have hk13305 := kp13300 _ _ hk13298 (rne ht2 ht4 (by decide))
                  refine lv_aload hx hb dX0_tryBeat_209 (lv_at hl 11 rfl) ?_
                  refine lv_lload hx hb dX0_tryBeat_211 (lv_at hl 0 rfl) ?_
                  refine va_putN (D := D) (ci := 1) (v := .long u13166) (ty := .long) (C := RX1) (T := TX1) (N := 7) hx hb hg inGX1 tyX1 tyX1_ok nmX1 hown hKN.1 hP hD hS p13177 hk13301 rfl 6 (by decide) (va_Nw.use rfl (hKN.2.1 _ kn_331 rfl)) (fun _ h9 => h9) rfl (by decide +kernel) rfl rfl (Nat.le_of_ble_eq_true rfl) dX0_tryBeat_213 (fun H locs hP hD2 hS => ?_)
                  obtain ⟨w13306, hP, hD, hT, hk13308, kp13307⟩ : ∃ wz, va_P D vwCl wz H ∧ va_D A wz ∧ TW Y Z T g q wz ∧ wz[p13177]? = some (p4, .inr (1, [.int x13169, .int p3, .int v4289, .int v12011, .int x13173, .long y13174, .long u13166])) ∧ Kp p4 w13299 wz := ⟨_, hP, hD2, st6 hT hD hk13301 ht4 ⟨x13169, p3, v4289, v12011, x13173, y13174, u13166, rfl, by omega⟩, sw_eq hk13301, sw_kp hk13301⟩
                  have ke13309 : KF 1 T ws w13306 := KF.tr ke13302 (KF.kp kp13307 ht4 (by decide))
                  have hk13310 := kp13307 _ _ hk13303 (rne ht0 ht4 (by decide))
                  have hk13311 := kp13307 _ _ hk13304 (rne ht1 ht4 (by decide))
                  have hk13312 := kp13307 _ _ hk13305 (rne ht2 ht4 (by decide))
                  refine W.widen (k := 0) (n := 0) (Nat.le_of_ble_eq_true rfl) (Nat.le_of_ble_eq_true rfl) ?_
                  exact jn13240 (w13306) H locs ls ⟨hP, hD, hS, lv_sub hl [0, 1, 2, 3, 4, 5, 6, 7, 8, 9, 10, 11] rfl, hT, ke13309⟩
        · skip
          have c13130 := i_nlt (Eq.refl v13128.toInt) (Eq.refl p3.toInt) c13130
          refine lv_iload_n hx hb dX0_tryBeat_103 rfl (lv_at hl 9 rfl) ?_
          refine lv_goto (tgt := 108) hx hb dX0_tryBeat_104 (by decide) ?_
          refine lv_isub hx hb dX0_tryBeat_108 ?_
          refine lv_topi (fun v13313 ev13313 => ?_)
          have hv13313 := i_sub (Eq.refl v13128.toInt) (Eq.refl p3.toInt) ev13313 (by omega) (by omega)
          refine lv_istore (lv' := [(11, .int v13313), (10, .int v12011), (8, .long v12012), (7, .int v12013), (6, .int v4289), (5, .int u25), (0, .ref p0), (1, .ref p1), (2, .ref p2), (3, .int p3), (4, .ref p4)]) hx hb dX0_tryBeat_109 hl (by decide) rfl (fun ls hl => ?_)
          refine lv_iload hx hb dX0_tryBeat_111 (lv_at hl 3 rfl) ?_
          refine lv_aload_n hx hb dX0_tryBeat_113 rfl (lv_at hl 6 rfl) ?_
          refine ok10 hT ht0 (fun p13318 a13314 a13315 hk13319 h13316 h13317 => ?_)
          refine va_get (D := D) (ci := 0) (v := .ref a13314) (C := RX0) (T := TX0) (N := 2) hx hb hg inGX0 hown hKN.1 hP p13318 hk13319 rfl 0 (by decide) (hg _ kw_276) (fun _ h9 => h9) rfl dX0_tryBeat_114 ?_
          refine lv_iload hx hb dX0_tryBeat_117 (lv_at hl 0 rfl) ?_
          refine tr_ld12 hx hb hKN hP hT h13316 (vp_in_iff.mpr ⟨by omega, by omega⟩) dX0_tryBeat_119 (fun v13320 => ?_)
          refine lv_iadd hx hb dX0_tryBeat_120 ?_
          refine lv_topi (fun v13321 ev13321 => ?_)
          refine lv_istore (lv' := [(7, .int v13321), (11, .int v13313), (10, .int v12011), (8, .long v12012), (6, .int v4289), (5, .int u25), (0, .ref p0), (1, .ref p1), (2, .ref p2), (3, .int p3), (4, .ref p4)]) hx hb dX0_tryBeat_121 hl (by decide) rfl (fun ls hl => ?_)
          refine lv_lload hx hb dX0_tryBeat_123 (lv_at hl 3 rfl) ?_
          refine lv_aload_n hx hb dX0_tryBeat_125 rfl (lv_at hl 6 rfl) ?_
          refine va_get (D := D) (ci := 0) (v := .ref a13315) (C := RX0) (T := TX0) (N := 2) hx hb hg inGX0 hown hKN.1 hP p13318 hk13319 rfl 1 (by decide) (hg _ kw_277) (fun _ h9 => h9) rfl dX0_tryBeat_126 ?_
          refine lv_iload hx hb dX0_tryBeat_129 (lv_at hl 1 rfl) ?_
          refine tr_ld15 hx hb hKN hP hT h13317 (vp_in_iff.mpr ⟨by omega, by omega⟩) dX0_tryBeat_131 (fun v13322 => ?_)
          refine lv_ladd hx hb dX0_tryBeat_132 ?_
          refine lv_topl (fun v13323 ev13323 => ?_)
          refine lv_lstore (lv' := [(8, .long v13323), (7, .int v13321), (11, .int v13313), (10, .int v12011), (6, .int v4289), (5, .int u25), (0, .ref p0), (1, .ref p1), (2, .ref p2), (3, .int p3), (4, .ref p4)]) hx hb dX0_tryBeat_133 hl (by decide) rfl (fun ls hl => ?_)
          refine lv_aload_n hx hb dX0_tryBeat_135 rfl (lv_at hl 7 rfl) ?_
          refine lv_iload hx hb dX0_tryBeat_136 (lv_at hl 1 rfl) ?_
          refine ok9 hT ht1 (fun p13336 a13324 a13325 a13326 x13327 y13328 y13329 x13330 y13331 hk13337 h13332 h13333 h13334 h13335 => ?_)
          refine va_putN (D := D) (ci := 2) (v := .int v13321) (ty := .int) (C := RX2) (T := TX2) (N := 8) hx hb hg inGX2 tyX2 tyX2_ok nmX2 hown hKN.1 hP hD hS p13336 hk13337 rfl 6 (by decide) (va_Nw.use rfl (hKN.2.1 _ kn_247 rfl)) (fun _ h9 => h9) rfl (by decide +kernel) rfl rfl (Nat.le_of_ble_eq_true rfl) dX0_tryBeat_138 (fun H locs hP hD2 hS => ?_)
          obtain ⟨w13338, hP, hD, hT, hk13340, kp13339⟩ : ∃ wz, va_P D vwCl wz H ∧ va_D A wz ∧ TW Y Z T g q wz ∧ wz[p13336]? = some (p1, .inr (2, [.ref a13324, .ref a13325, .ref a13326, .int x13327, .long y13328, .long y13329, .int v13321, .long y13331])) ∧ Kp p1 w12014 wz := ⟨_, hP, hD2, st9 hT hD hk13337 ht1 ⟨a13324, a13325, a13326, x13327, y13328, y13329, v13321, y13331, rfl, h13332, h13333, h13334, by omega⟩, sw_eq hk13337, sw_kp hk13337⟩
          have ke13341 : KF 1 T ws w13338 := KF.tr ke12754 (KF.kp kp13339 ht1 (by decide))
          have hk13342 := kp13339 _ _ hk13319 (rne ht0 ht1 (by decide))
          refine lv_aload_n hx hb dX0_tryBeat_141 rfl (lv_at hl 7 rfl) ?_
          refine lv_lload hx hb dX0_tryBeat_142 (lv_at hl 0 rfl) ?_
          refine va_putN (D := D) (ci := 2) (v := .long v13323) (ty := .long) (C := RX2) (T := TX2) (N := 8) hx hb hg inGX2 tyX2 tyX2_ok nmX2 hown hKN.1 hP hD hS p13336 hk13340 rfl 7 (by decide) (va_Nw.use rfl (hKN.2.1 _ kn_250 rfl)) (fun _ h9 => h9) rfl (by decide +kernel) rfl rfl (Nat.le_of_ble_eq_true rfl) dX0_tryBeat_144 (fun H locs hP hD2 hS => ?_)
          obtain ⟨w13343, hP, hD, hT, hk13345, kp13344⟩ : ∃ wz, va_P D vwCl wz H ∧ va_D A wz ∧ TW Y Z T g q wz ∧ wz[p13336]? = some (p1, .inr (2, [.ref a13324, .ref a13325, .ref a13326, .int x13327, .long y13328, .long y13329, .int v13321, .long v13323])) ∧ Kp p1 w13338 wz := ⟨_, hP, hD2, st9 hT hD hk13340 ht1 ⟨a13324, a13325, a13326, x13327, y13328, y13329, v13321, v13323, rfl, h13332, h13333, h13334, by omega⟩, sw_eq hk13340, sw_kp hk13340⟩
          have ke13346 : KF 1 T ws w13343 := KF.tr ke13341 (KF.kp kp13344 ht1 (by decide))
          have hk13347 := kp13344 _ _ hk13342 (rne ht0 ht1 (by decide))
          refine lv_aload_n hx hb dX0_tryBeat_147 rfl (lv_at hl 7 rfl) ?_
          refine cga (rn_NV (As := []) (rest := []) (b := p1) (x_X2_score l D Y Z H.size w13343 T g q p1 hT ht1) ⟨hx, hb, hml, hown, hg⟩ hKN lk_X0_106 ⟨CPC.blind, va_recv hKN.1 hP (ci := 2) (q0 := p13336) rfl hk13345, CPC.at hP hKN hD hSZ hS hA⟩ ⟨⟨rfl, rfl⟩, ⟨Nat.le_of_ble_eq_true rfl, Nat.le_of_ble_eq_true rfl⟩, ⟨(Nat.le_of_ble_eq_true rfl), (Nat.le_of_ble_eq_true rfl)⟩⟩ hl.1 rfl (Nat.le_of_ble_eq_true rfl) dX0_tryBeat_148) hP hD hS hA (fun u13348 H locs hw13349 hP hD hS => ?_)
          refine W.eq (g2 := F0 m 151 ls [.long u13348]) rfl ?_
          refine lv_lstore (lv' := [(12, .long u13348), (8, .long v13323), (7, .int v13321), (11, .int v13313), (10, .int v12011), (6, .int v4289), (5, .int u25), (0, .ref p0), (1, .ref p1), (2, .ref p2), (3, .int p3), (4, .ref p4)]) hx hb dX0_tryBeat_151 hl (by decide) rfl (fun ls hl => ?_)
          refine lv_lload hx hb dX0_tryBeat_153 (lv_at hl 0 rfl) ?_
          refine lv_aload hx hb dX0_tryBeat_155 (lv_at hl 11 rfl) ?_
          refine ok6 hT ht4 (fun p13359 x13351 x13352 x13353 x13354 x13355 y13356 y13357 hk13360 h13358 => ?_)
          refine va_getN (D := D) (ci := 1) (v := .long y13357) (C := RX1) (T := TX1) (N := 7) hx hb hg inGX1 hown hKN.1 hP p13359 hk13360 rfl 6 (by decide) (va_Nw.use rfl (hKN.2.1 _ kn_331 rfl)) (fun _ h9 => h9) rfl dX0_tryBeat_157 ?_
          refine w_join (σ := va_W) (pcJ := 216) (kJ := 0) (nJ := 0) (stk := fun xx => match xx with | w13421 => []) (fun xx H locs ls => match xx with | w13421 => va_P D vwCl w13421 H ∧ va_D A w13421 ∧ va_S A s.heap H locs ∧ lv_has ls 14 [(12, .long u13348), (8, .long v13323), (7, .int v13321), (11, .int v13313), (10, .int v12011), (6, .int v4289), (5, .int u25), (0, .ref p0), (1, .ref p1), (2, .ref p2), (3, .int p3), (4, .ref p4)] ∧ TW Y Z T g q w13421 ∧ KF 1 T ws w13421) (fun xx H locs ls hI => ?_) (fun jn13422 => ?_)
          · skip
            revert hI
            generalize xx = w13421
            intro hI
            obtain ⟨hP, hD, hS, hl, hT, ke13423⟩ := hI
            refine W.eq (g2 := F0 m 216 ls []) rfl ?_
            refine lv_iload hx hb dX0_tryBeat_216 (lv_at hl 2 rfl) ?_
            refine lv_aload_n hx hb dX0_tryBeat_218 rfl (lv_at hl 7 rfl) ?_
            refine ok10 hT ht0 (fun p13428 a13424 a13425 hk13429 h13426 h13427 => ?_)
            refine va_get (D := D) (ci := 0) (v := .ref a13424) (C := RX0) (T := TX0) (N := 2) hx hb hg inGX0 hown hKN.1 hP p13428 hk13429 rfl 0 (by decide) (hg _ kw_276) (fun _ h9 => h9) rfl dX0_tryBeat_219 ?_
            refine lv_iload hx hb dX0_tryBeat_222 (lv_at hl 4 rfl) ?_
            refine tr_ld12 hx hb hKN hP hT h13426 (vp_in_iff.mpr ⟨by omega, by omega⟩) dX0_tryBeat_224 (fun v13430 => ?_)
            refine lv_isub hx hb dX0_tryBeat_225 ?_
            refine lv_topi (fun v13431 ev13431 => ?_)
            refine lv_istore (lv' := [(7, .int v13431), (12, .long u13348), (8, .long v13323), (11, .int v13313), (10, .int v12011), (6, .int v4289), (5, .int u25), (0, .ref p0), (1, .ref p1), (2, .ref p2), (3, .int p3), (4, .ref p4)]) hx hb dX0_tryBeat_226 hl (by decide) rfl (fun ls hl => ?_)
            refine lv_lload hx hb dX0_tryBeat_228 (lv_at hl 2 rfl) ?_
            refine lv_aload_n hx hb dX0_tryBeat_230 rfl (lv_at hl 7 rfl) ?_
            refine va_get (D := D) (ci := 0) (v := .ref a13425) (C := RX0) (T := TX0) (N := 2) hx hb hg inGX0 hown hKN.1 hP p13428 hk13429 rfl 1 (by decide) (hg _ kw_277) (fun _ h9 => h9) rfl dX0_tryBeat_231 ?_
            refine lv_iload hx hb dX0_tryBeat_234 (lv_at hl 4 rfl) ?_
            refine tr_ld15 hx hb hKN hP hT h13427 (vp_in_iff.mpr ⟨by omega, by omega⟩) dX0_tryBeat_236 (fun v13432 => ?_)
            refine lv_lsub hx hb dX0_tryBeat_237 ?_
            refine lv_topl (fun v13433 ev13433 => ?_)
            refine lv_lstore (lv' := [(8, .long v13433), (7, .int v13431), (12, .long u13348), (11, .int v13313), (10, .int v12011), (6, .int v4289), (5, .int u25), (0, .ref p0), (1, .ref p1), (2, .ref p2), (3, .int p3), (4, .ref p4)]) hx hb dX0_tryBeat_238 hl (by decide) rfl (fun ls hl => ?_)
            obtain ⟨v13434, ev13434⟩ : ∃ y : Int32, y = v12011 + 1 := ⟨_, rfl⟩
            have hv13434 := i_add (Eq.refl v12011.toInt) (show (1 : Int32).toInt = 1 by decide) ev13434 (by omega) (by omega)
            refine lv_iinc (v := v13434) (lv' := [(10, .int v13434), (8, .long v13433), (7, .int v13431), (12, .long u13348), (11, .int v13313), (6, .int v4289), (5, .int u25), (0, .ref p0), (1, .ref p1), (2, .ref p2), (3, .int p3), (4, .ref p4)]) hx hb dX0_tryBeat_240 hl (k := 4) rfl (by rw [ev13434]; rfl) (by decide) rfl (fun ls hl => ?_)
            refine lv_goto (tgt := 80) hx hb dX0_tryBeat_243 (by decide) ?_
            exact ih12755 (v13434, v13433, v13431, w13421) H locs ls (by show (200 - v13434.toInt).toNat < (200 - v12011.toInt).toNat; omega) ⟨hP, hD, hS, lv_sub hl [0, 1, 2, 5, 6, 7, 8, 9, 10, 11] rfl, hT, ke13423, by omega⟩
          · skip
            refine W.lcmp hx hb dX0_tryBeat_160 ?_
            refine lv_if_le (tgt := 216) hx hb dX0_tryBeat_161 (by decide) (fun c13435 => ?_) (fun c13435 => ?_)
            · skip
              have c13435 := l_le (Eq.refl u13348.toInt) (Eq.refl y13357.toInt) c13435
              refine W.widen (k := 0) (n := 0) (Nat.le_of_ble_eq_true rfl) (Nat.le_of_ble_eq_true rfl) ?_
              exact jn13422 (w13343) H locs ls ⟨hP, hD, hS, lv_sub hl [0, 1, 2, 3, 4, 5, 6, 7, 8, 9, 10, 11] rfl, hT, ke13346⟩
            · skip
              have c13435 := l_nle (Eq.refl u13348.toInt) (Eq.refl y13357.toInt) c13435
              refine lv_iload hx hb dX0_tryBeat_164 (lv_at hl 2 rfl) ?_
              refine lv_aload_n hx hb dX0_tryBeat_166 rfl (lv_at hl 9 rfl) ?_
              refine ok5 hT ht2 (fun p13457 x13436 x13437 x13438 x13439 x13440 x13441 x13442 x13443 a13444 a13445 a13446 a13447 a13448 x13449 hk13458 h13450 h13451 h13452 h13453 h13454 h13455 h13456 => ?_)
              refine va_getN (D := D) (ci := 8) (v := .int x13441) (C := RX8) (T := TX8) (N := 14) hx hb hg inGX8 hown hKN.1 hP p13457 hk13458 rfl 5 (by decide) (va_Nw.use rfl (hKN.2.1 _ kn_130 rfl)) (fun _ h9 => h9) rfl dX0_tryBeat_167 ?_
              have j13459 := rgI v13321
              have j13460 := rgI x13441
              refine lv_icmp_lt (tgt := 216) hx hb dX0_tryBeat_170 (by decide) (fun c13461 => ?_) (fun c13461 => ?_)
              · skip
                have c13461 := i_lt (Eq.refl v13321.toInt) (Eq.refl x13441.toInt) c13461
                refine W.widen (k := 0) (n := 0) (Nat.le_of_ble_eq_true rfl) (Nat.le_of_ble_eq_true rfl) ?_
                exact jn13422 (w13343) H locs ls ⟨hP, hD, hS, lv_sub hl [0, 1, 2, 3, 4, 5, 6, 7, 8, 9, 10, 11] rfl, hT, ke13346⟩
              · skip
                have c13461 := i_nlt (Eq.refl v13321.toInt) (Eq.refl x13441.toInt) c13461
                refine lv_aload_n hx hb dX0_tryBeat_173 rfl (lv_at hl 8 rfl) ?_
                refine lv_iload_n hx hb dX0_tryBeat_174 rfl (lv_at hl 10 rfl) ?_
                refine lv_iload hx hb dX0_tryBeat_175 (lv_at hl 5 rfl) ?_
                refine lv_iload hx hb dX0_tryBeat_177 (lv_at hl 4 rfl) ?_
                refine cga (rn_NV (As := [.int p3, .int v4289, .int v12011]) (rest := []) (b := p1) (x_X2_dips l D Y Z H.size w13343 T g q p1 p3 v4289 v12011 hT ht1 (show (p3.toInt ≤ 200) by omega)) ⟨hx, hb, hml, hown, hg⟩ hKN lk_X0_85 ⟨CPC.blind, va_recv hKN.1 hP (ci := 2) (q0 := p13336) rfl hk13345, CPC.at hP hKN hD hSZ hS hA⟩ ⟨⟨rfl, rfl⟩, ⟨Nat.le_of_ble_eq_true rfl, Nat.le_of_ble_eq_true rfl⟩, ⟨(Nat.le_of_ble_eq_true rfl), (Nat.le_of_ble_eq_true rfl)⟩⟩ hl.1 rfl (Nat.le_of_ble_eq_true rfl) dX0_tryBeat_179) hP hD hS hA (fun u13462 H locs hw13463 hP hD hS => ?_)
                refine W.eq (g2 := F0 m 182 ls [.int u13462]) rfl ?_
                refine lv_aload_n hx hb dX0_tryBeat_182 rfl (lv_at hl 9 rfl) ?_
                refine va_getN (D := D) (ci := 8) (v := .int x13441) (C := RX8) (T := TX8) (N := 14) hx hb hg inGX8 hown hKN.1 hP p13457 hk13458 rfl 5 (by decide) (va_Nw.use rfl (hKN.2.1 _ kn_130 rfl)) (fun _ h9 => h9) rfl dX0_tryBeat_183 ?_
                have j13465 := rgI u13462
                refine lv_icmp_lt (tgt := 216) hx hb dX0_tryBeat_186 (by decide) (fun c13466 => ?_) (fun c13466 => ?_)
                · skip
                  have c13466 := i_lt (Eq.refl u13462.toInt) (Eq.refl x13441.toInt) c13466
                  refine W.widen (k := 0) (n := 0) (Nat.le_of_ble_eq_true rfl) (Nat.le_of_ble_eq_true rfl) ?_
                  exact jn13422 (w13343) H locs ls ⟨hP, hD, hS, lv_sub hl [0, 1, 2, 3, 4, 5, 6, 7, 8, 9, 10, 11] rfl, hT, ke13346⟩
                · skip
                  have c13466 := i_nlt (Eq.refl u13462.toInt) (Eq.refl x13441.toInt) c13466
                  refine lv_aload hx hb dX0_tryBeat_189 (lv_at hl 11 rfl) ?_
                  refine lv_iload_n hx hb dX0_tryBeat_191 rfl (lv_at hl 10 rfl) ?_
                  refine va_putN (D := D) (ci := 1) (v := .int p3) (ty := .int) (C := RX1) (T := TX1) (N := 7) hx hb hg inGX1 tyX1 tyX1_ok nmX1 hown hKN.1 hP hD hS p13359 hk13360 rfl 1 (by decide) (va_Nw.use rfl (hKN.2.1 _ kn_309 rfl)) (fun _ h9 => h9) rfl (by decide +kernel) rfl rfl (Nat.le_of_ble_eq_true rfl) dX0_tryBeat_192 (fun H locs hP hD2 hS => ?_)
                  obtain ⟨w13467, hP, hD, hT, hk13469, kp13468⟩ : ∃ wz, va_P D vwCl wz H ∧ va_D A wz ∧ TW Y Z T g q wz ∧ wz[p13359]? = some (p4, .inr (1, [.int x13351, .int p3, .int x13353, .int x13354, .int x13355, .long y13356, .long y13357])) ∧ Kp p4 w13343 wz := ⟨_, hP, hD2, st6 hT hD hk13360 ht4 ⟨x13351, p3, x13353, x13354, x13355, y13356, y13357, rfl, by omega⟩, sw_eq hk13360, sw_kp hk13360⟩
                  have ke13470 : KF 1 T ws w13467 := KF.tr ke13346 (KF.kp kp13468 ht4 (by decide))
                  have hk13471 := kp13468 _ _ hk13347 (rne ht0 ht4 (by decide))
                  have hk13472 := kp13468 _ _ hk13345 (rne ht1 ht4 (by decide))
                  have hk13473 := kp13468 _ _ hk13458 (rne ht2 ht4 (by decide))
                  refine lv_aload hx hb dX0_tryBeat_195 (lv_at hl 11 rfl) ?_
                  refine lv_iload hx hb dX0_tryBeat_197 (lv_at hl 5 rfl) ?_
                  refine va_putN (D := D) (ci := 1) (v := .int v4289) (ty := .int) (C := RX1) (T := TX1) (N := 7) hx hb hg inGX1 tyX1 tyX1_ok nmX1 hown hKN.1 hP hD hS p13359 hk13469 rfl 2 (by decide) (va_Nw.use rfl (hKN.2.1 _ kn_314 rfl)) (fun _ h9 => h9) rfl (by decide +kernel) rfl rfl (Nat.le_of_ble_eq_true rfl) dX0_tryBeat_199 (fun H locs hP hD2 hS => ?_)
                  obtain ⟨w13474, hP, hD, hT, hk13476, kp13475⟩ : ∃ wz, va_P D vwCl wz H ∧ va_D A wz ∧ TW Y Z T g q wz ∧ wz[p13359]? = some (p4, .inr (1, [.int x13351, .int p3, .int v4289, .int x13354, .int x13355, .long y13356, .long y13357])) ∧ Kp p4 w13467 wz := ⟨_, hP, hD2, st6 hT hD hk13469 ht4 ⟨x13351, p3, v4289, x13354, x13355, y13356, y13357, rfl, by omega⟩, sw_eq hk13469, sw_kp hk13469⟩
                  have ke13477 : KF 1 T ws w13474 := KF.tr ke13470 (KF.kp kp13475 ht4 (by decide))
                  have hk13478 := kp13475 _ _ hk13471 (rne ht0 ht4 (by decide))
                  have hk13479 := kp13475 _ _ hk13472 (rne ht1 ht4 (by decide))
                  have hk13480 := kp13475 _ _ hk13473 (rne ht2 ht4 (by decide))
                  refine lv_aload hx hb dX0_tryBeat_202 (lv_at hl 11 rfl) ?_
                  refine lv_iload hx hb dX0_tryBeat_204 (lv_at hl 4 rfl) ?_
                  refine va_putN (D := D) (ci := 1) (v := .int v12011) (ty := .int) (C := RX1) (T := TX1) (N := 7) hx hb hg inGX1 tyX1 tyX1_ok nmX1 hown hKN.1 hP hD hS p13359 hk13476 rfl 3 (by decide) (va_Nw.use rfl (hKN.2.1 _ kn_319 rfl)) (fun _ h9 => h9) rfl (by decide +kernel) rfl rfl (Nat.le_of_ble_eq_true rfl) dX0_tryBeat_206 (fun H locs hP hD2 hS => ?_)
                  obtain ⟨w13481, hP, hD, hT, hk13483, kp13482⟩ : ∃ wz, va_P D vwCl wz H ∧ va_D A wz ∧ TW Y Z T g q wz ∧ wz[p13359]? = some (p4, .inr (1, [.int x13351, .int p3, .int v4289, .int v12011, .int x13355, .long y13356, .long y13357])) ∧ Kp p4 w13474 wz := ⟨_, hP, hD2, st6 hT hD hk13476 ht4 ⟨x13351, p3, v4289, v12011, x13355, y13356, y13357, rfl, by omega⟩, sw_eq hk13476, sw_kp hk13476⟩
                  have ke13484 : KF 1 T ws w13481 := KF.tr ke13477 (KF.kp kp13482 ht4 (by decide))
                  have hk13485 := kp13482 _ _ hk13478 (rne ht0 ht4 (by decide))
                  have hk13486 := kp13482 _ _ hk13479 (rne ht1 ht4 (by decide))
                  have hk13487 := kp13482 _ _ hk13480 (rne ht2 ht4 (by decide))
                  refine lv_aload hx hb dX0_tryBeat_209 (lv_at hl 11 rfl) ?_
                  refine lv_lload hx hb dX0_tryBeat_211 (lv_at hl 0 rfl) ?_
                  refine va_putN (D := D) (ci := 1) (v := .long u13348) (ty := .long) (C := RX1) (T := TX1) (N := 7) hx hb hg inGX1 tyX1 tyX1_ok nmX1 hown hKN.1 hP hD hS p13359 hk13483 rfl 6 (by decide) (va_Nw.use rfl (hKN.2.1 _ kn_331 rfl)) (fun _ h9 => h9) rfl (by decide +kernel) rfl rfl (Nat.le_of_ble_eq_true rfl) dX0_tryBeat_213 (fun H locs hP hD2 hS => ?_)
                  obtain ⟨w13488, hP, hD, hT, hk13490, kp13489⟩ : ∃ wz, va_P D vwCl wz H ∧ va_D A wz ∧ TW Y Z T g q wz ∧ wz[p13359]? = some (p4, .inr (1, [.int x13351, .int p3, .int v4289, .int v12011, .int x13355, .long y13356, .long u13348])) ∧ Kp p4 w13481 wz := ⟨_, hP, hD2, st6 hT hD hk13483 ht4 ⟨x13351, p3, v4289, v12011, x13355, y13356, u13348, rfl, by omega⟩, sw_eq hk13483, sw_kp hk13483⟩
                  have ke13491 : KF 1 T ws w13488 := KF.tr ke13484 (KF.kp kp13489 ht4 (by decide))
                  have hk13492 := kp13489 _ _ hk13485 (rne ht0 ht4 (by decide))
                  have hk13493 := kp13489 _ _ hk13486 (rne ht1 ht4 (by decide))
                  have hk13494 := kp13489 _ _ hk13487 (rne ht2 ht4 (by decide))
                  refine W.widen (k := 0) (n := 0) (Nat.le_of_ble_eq_true rfl) (Nat.le_of_ble_eq_true rfl) ?_
                  exact jn13422 (w13488) H locs ls ⟨hP, hD, hS, lv_sub hl [0, 1, 2, 3, 4, 5, 6, 7, 8, 9, 10, 11] rfl, hT, ke13491⟩
    · skip
      have c11276 := i_nle (Eq.refl v11263.toInt) (Eq.refl v11233.toInt) c11276
      refine lv_iload hx hb dX0_tryBeat_47 (lv_at hl 2 rfl) ?_
      refine lv_aload_n hx hb dX0_tryBeat_49 rfl (lv_at hl 5 rfl) ?_
      refine ok10 hT ht0 (fun p13499 a13495 a13496 hk13500 h13497 h13498 => ?_)
      refine va_get (D := D) (ci := 0) (v := .ref a13495) (C := RX0) (T := TX0) (N := 2) hx hb hg inGX0 hown hKN.1 hP p13499 hk13500 rfl 0 (by decide) (hg _ kw_276) (fun _ h9 => h9) rfl dX0_tryBeat_50 ?_
      refine lv_iload hx hb dX0_tryBeat_53 (lv_at hl 0 rfl) ?_
      refine tr_ld12 hx hb hKN hP hT h13497 (vp_in_iff.mpr ⟨by omega, by omega⟩) dX0_tryBeat_55 (fun v13501 => ?_)
      refine lv_iadd hx hb dX0_tryBeat_56 ?_
      refine lv_topi (fun v13502 ev13502 => ?_)
      refine lv_istore (lv' := [(7, .int v13502), (10, .int v11233), (8, .long v11234), (6, .int v4289), (5, .int u25), (0, .ref p0), (1, .ref p1), (2, .ref p2), (3, .int p3), (4, .ref p4)]) hx hb dX0_tryBeat_57 hl (by decide) rfl (fun ls hl => ?_)
      refine lv_lload hx hb dX0_tryBeat_59 (lv_at hl 2 rfl) ?_
      refine lv_aload_n hx hb dX0_tryBeat_61 rfl (lv_at hl 5 rfl) ?_
      refine va_get (D := D) (ci := 0) (v := .ref a13496) (C := RX0) (T := TX0) (N := 2) hx hb hg inGX0 hown hKN.1 hP p13499 hk13500 rfl 1 (by decide) (hg _ kw_277) (fun _ h9 => h9) rfl dX0_tryBeat_62 ?_
      refine lv_iload hx hb dX0_tryBeat_65 (lv_at hl 1 rfl) ?_
      refine tr_ld15 hx hb hKN hP hT h13498 (vp_in_iff.mpr ⟨by omega, by omega⟩) dX0_tryBeat_67 (fun v13503 => ?_)
      refine lv_ladd hx hb dX0_tryBeat_68 ?_
      refine lv_topl (fun v13504 ev13504 => ?_)
      refine lv_lstore (lv' := [(8, .long v13504), (7, .int v13502), (10, .int v11233), (6, .int v4289), (5, .int u25), (0, .ref p0), (1, .ref p1), (2, .ref p2), (3, .int p3), (4, .ref p4)]) hx hb dX0_tryBeat_69 hl (by decide) rfl (fun ls hl => ?_)
      obtain ⟨v13505, ev13505⟩ : ∃ y : Int32, y = v11233 + 1 := ⟨_, rfl⟩
      have hv13505 := i_add (Eq.refl v11233.toInt) (show (1 : Int32).toInt = 1 by decide) ev13505 (by omega) (by omega)
      refine lv_iinc (v := v13505) (lv' := [(10, .int v13505), (8, .long v13504), (7, .int v13502), (6, .int v4289), (5, .int u25), (0, .ref p0), (1, .ref p1), (2, .ref p2), (3, .int p3), (4, .ref p4)]) hx hb dX0_tryBeat_71 hl (k := 2) rfl (by rw [ev13505]; rfl) (by decide) rfl (fun ls hl => ?_)
      refine lv_goto (tgt := 38) hx hb dX0_tryBeat_74 (by decide) ?_
      exact ih11262 (v13505, v13504, v13502) H locs ls (by show (200 - v13505.toInt).toNat < (200 - v11233.toInt).toNat; omega) ⟨hP, hD, hS, lv_sub hl [0, 1, 2, 3, 4, 5, 6, 7, 8, 9] rfl, hT, by omega⟩
