set_option maxHeartbeats 4000000 in
set_option maxRecDepth 100000 in
theorem x_X4_holds (l : Launch) (D : va_G) (Y : Nat → ClassId) (Z : Nat → Nat) (sz : Nat) (ws : va_W) (T : RT) (g : GN) (q : GQ)  (p0 : Nat) (p1 : Nat) (p3 : Nat) (p2 : Int32) (hT : TW Y Z T g q ws) (ht0 : T p0 = (8, 0, 0)) (ht1 : T p1 = (5, 0, 0)) (ht3 : T p3 = (15, 10, 0)) (hp0 : (0 ≤ p2.toInt ∧ p2.toInt ≤ 11)) : Met l yX4_holds (.code yX4_holds cX4_holds 6 (some .boolean) :: GW) ({ frames := 2, cells := 0, slots := 0, locals := 51 }) (va_Pc [.ref p0, .ref p1, .int p2, .ref p3] (CPC D Y Z ws sz)) (QG (S := Int32 × va_W) (fun u => some (.int u.1)) (fun u => TW Y Z T g q u.2 ∧ KF 1 T ws u.2 ∧ KF 6 T ws u.2 ∧ (0 ≤ u.1.toInt ∧ u.1.toInt ≤ 1)) (fun u => CB D u.2 (va_A ws sz)) (va_A ws sz)) 0 0 (va_A ws sz) := by
  refine Met.ofW (cc := cX4_holds) (maxL := 6) (ret := (some .boolean)) (by decide) rfl ?_
  intro p e s m args below meth c s₁ B hml hv
  obtain ⟨rfl, ⟨hsz, hP, hKN, hD0⟩, hSZ⟩ := hv
  have hx := B.exec
  have hb := B.bytes
  have hr := B.returns
  have hts := atoms_spec (ws := .code yX4_holds cX4_holds 6 (some .boolean) :: GW) B.pre
  have hg : ∀ w ∈ GW, w.before _ s = true := fun w h => hts w (List.mem_cons_of_mem _ h)
  have hown : s.vm.findClass RX4 = some m.cls := findClass_of_methodNamed B.named
  have hlocks := B.notSynchronized
  subst hsz
  have hD := hD0.self (sz := s.heap.size)
  generalize hAe : va_A ws s.heap.size = A at hD hSZ ⊢
  have hA : ∀ q : Nat, s.heap.size ≤ q → A q := fun q h => by rw [← hAe]; exact Or.inr h
  clear hAe hD0 hts B
  have hl := lv_entry ([.ref p0, .ref p1, .int p2, .ref p3]) (n := 6) (Nat.le_of_ble_eq_true rfl)
  rw [lg_entry_eq]
  generalize (lg_sl ([.ref p0, .ref p1, .int p2, .ref p3]) ++ List.replicate (6 - (lg_sl ([.ref p0, .ref p1, .int p2, .ref p3])).length) Slot.unset).toArray = ls at hl ⊢
  have hl : lv_has ls 6 [(0, .ref p0), (1, .ref p1), (2, .int p2), (3, .ref p3)] := hl
  refine w_start (A0 := A) hP (fun H locs hP hS => ?_)
  refine lv_aload_n hx hb dX4_holds_0 rfl (lv_at hl 1 rfl) ?_
  refine ok5 hT ht1 (fun p22 x1 x2 x3 x4 x5 x6 x7 x8 a9 a10 a11 a12 a13 x14 hk23 h15 h16 h17 h18 h19 h20 h21 => ?_)
  refine va_getN (D := D) (ci := 8) (v := .ref a11) (C := RX8) (T := TX8) (N := 14) hx hb hg inGX8 hown hKN.1 hP p22 hk23 rfl 10 (by decide) (va_Nw.use rfl (hKN.2.1 _ kn_143 rfl)) (fun _ h9 => h9) rfl dX4_holds_1 ?_
  refine lv_iload_n hx hb dX4_holds_4 rfl (lv_at hl 2 rfl) ?_
  refine tr_ld12 hx hb hKN hP hT h18 (vp_in_iff.mpr ⟨by omega, by omega⟩) dX4_holds_5 (fun v24 => ?_)
  refine lv_istore (lv' := [(4, .int v24), (0, .ref p0), (1, .ref p1), (2, .int p2), (3, .ref p3)]) hx hb dX4_holds_6 hl (by decide) rfl (fun ls hl => ?_)
  refine lv_aload_n hx hb dX4_holds_8 rfl (lv_at hl 2 rfl) ?_
  refine va_getN (D := D) (ci := 8) (v := .ref a12) (C := RX8) (T := TX8) (N := 14) hx hb hg inGX8 hown hKN.1 hP p22 hk23 rfl 11 (by decide) (va_Nw.use rfl (hKN.2.1 _ kn_145 rfl)) (fun _ h9 => h9) rfl dX4_holds_9 ?_
  refine lv_iload_n hx hb dX4_holds_12 rfl (lv_at hl 3 rfl) ?_
  refine tr_ld12 hx hb hKN hP hT h19 (vp_in_iff.mpr ⟨by omega, by omega⟩) dX4_holds_13 (fun v25 => ?_)
  refine lv_istore (lv' := [(5, .int v25), (4, .int v24), (0, .ref p0), (1, .ref p1), (2, .int p2), (3, .ref p3)]) hx hb dX4_holds_14 hl (by decide) rfl (fun ls hl => ?_)
  refine lv_iload hx hb dX4_holds_16 (lv_at hl 1 rfl) ?_
  refine lv_iload hx hb dX4_holds_18 (lv_at hl 0 rfl) ?_
  have j26 := rgI v24
  have j27 := rgI v25
  refine lv_icmp_eq (tgt := 38) hx hb dX4_holds_20 (by decide) (fun c28 => ?_) (fun c28 => ?_)
  · skip
    have c28 := i_eq (Eq.refl v24.toInt) (Eq.refl v25.toInt) c28
    refine lv_iconst (v := 1) hx hb dX4_holds_38 (by decide) ?_
    refine lv_goto (tgt := 43) hx hb dX4_holds_39 (by decide) ?_
    refine W.widen (k := 0) (n := 0) (Nat.le_of_ble_eq_true rfl) (Nat.le_of_ble_eq_true rfl) ?_
    have zi1 : (1 : Int32).toInt = 1 := by decide
    exact W.zret (v := 1) hx hb hr (by decide) (fun t ht hW => ⟨⟨((1), ws), rfl, ⟨hT, KF.rf, KF.rf, (show (0 ≤ (1 : Int32).toInt ∧ (1 : Int32).toInt ≤ 1) by omega)⟩, CB.mk ht hP hD⟩, hS.F ht⟩) hS.2.2 dX4_holds_43
  · skip
    have c28 := i_ne (Eq.refl v24.toInt) (Eq.refl v25.toInt) c28
    refine lv_aload_n hx hb dX4_holds_23 rfl (lv_at hl 2 rfl) ?_
    refine lv_aload_n hx hb dX4_holds_24 rfl (lv_at hl 3 rfl) ?_
    refine lv_iload hx hb dX4_holds_25 (lv_at hl 1 rfl) ?_
    refine lv_iload hx hb dX4_holds_27 (lv_at hl 0 rfl) ?_
    refine lv_aload_n hx hb dX4_holds_29 rfl (lv_at hl 5 rfl) ?_
    refine ok8 hT ht0 (fun p31 a29 hk32 h30 => ?_)
    refine cga (rn_V (As := [.ref p1, .int v24, .int v25, .ref p3]) (rest := []) (b := p0) (x_X4_run l D Y Z H.size ws T g q p0 p1 p3 v24 v25 hT ht0 ht1 ht3) ⟨hx, hb, hml, hown, hg⟩ lk_X4_32 ⟨CPC.blind, va_recv hKN.1 hP (ci := 4) (q0 := p31) rfl hk32, CPC.at hP hKN hD hSZ hS hA⟩ ⟨⟨rfl, rfl⟩, ⟨Nat.le_of_ble_eq_true rfl, Nat.le_of_ble_eq_true rfl⟩, ⟨(Nat.le_of_ble_eq_true rfl), (Nat.le_of_ble_eq_true rfl)⟩⟩ hl.1 rfl (Nat.le_of_ble_eq_true rfl) dX4_holds_30) hP hD hS hA (fun u33 H locs hw34 hP hD hS => ?_)
    obtain ⟨u35, w36⟩ := u33
    obtain ⟨hT, ke37, ke38⟩ : TW Y Z T g q w36 ∧ KF 1 T ws w36 ∧ KF 6 T ws w36 := hw34
    have ke39 : KF 1 T ws w36 := KF.tr KF.rf ke37
    have ke40 : KF 6 T ws w36 := KF.tr KF.rf ke38
    refine W.eq (g2 := F0 m 33 ls [.long u35]) rfl ?_
    refine lv_lconst (v := 0) hx hb dX4_holds_33 (by decide) ?_
    refine W.lcmp hx hb dX4_holds_34 ?_
    refine lv_if_eq (tgt := 42) hx hb dX4_holds_35 (by decide) (fun c41 => ?_) (fun c41 => ?_)
    · skip
      have c41 := l_eq (Eq.refl u35.toInt) (show (0 : Int64).toInt = 0 by decide) c41
      refine lv_iconst (v := 0) hx hb dX4_holds_42 (by decide) ?_
      refine W.widen (k := 0) (n := 0) (Nat.le_of_ble_eq_true rfl) (Nat.le_of_ble_eq_true rfl) ?_
      have zi0 : (0 : Int32).toInt = 0 := by decide
      exact W.zret (v := 0) hx hb hr (by decide) (fun t ht hW => ⟨⟨((0), w36), rfl, ⟨hT, ke39, ke40, (show (0 ≤ (0 : Int32).toInt ∧ (0 : Int32).toInt ≤ 1) by omega)⟩, CB.mk ht hP hD⟩, hS.F ht⟩) hS.2.2 dX4_holds_43
    · skip
      have c41 := l_ne (Eq.refl u35.toInt) (show (0 : Int64).toInt = 0 by decide) c41
      refine lv_iconst (v := 1) hx hb dX4_holds_38 (by decide) ?_
      refine lv_goto (tgt := 43) hx hb dX4_holds_39 (by decide) ?_
      refine W.widen (k := 0) (n := 0) (Nat.le_of_ble_eq_true rfl) (Nat.le_of_ble_eq_true rfl) ?_
      have zi1 : (1 : Int32).toInt = 1 := by decide
      exact W.zret (v := 1) hx hb hr (by decide) (fun t ht hW => ⟨⟨((1), w36), rfl, ⟨hT, ke39, ke40, (show (0 ≤ (1 : Int32).toInt ∧ (1 : Int32).toInt ≤ 1) by omega)⟩, CB.mk ht hP hD⟩, hS.F ht⟩) hS.2.2 dX4_holds_43
set_option maxHeartbeats 4000000 in
set_option maxRecDepth 100000 in
theorem x_X4_brightness (l : Launch) (D : va_G) (Y : Nat → ClassId) (Z : Nat → Nat) (sz : Nat) (ws : va_W) (T : RT) (g : GN) (q : GQ)  (p0 : Nat) (p1 : Nat) (p2 : Nat) (hT : TW Y Z T g q ws) (ht0 : T p0 = (8, 0, 0)) (ht1 : T p1 = (5, 0, 0)) (ht2 : T p2 = (15, 10, 0)) : Met l yX4_brightness (.code yX4_brightness cX4_brightness 4 (some .long) :: GW) ({ frames := 3, cells := 0, slots := 0, locals := 76 }) (va_Pc [.ref p0, .ref p1, .ref p2] (CPC D Y Z ws sz)) (QG (S := Int64 × va_W) (fun u => some (.long u.1)) (fun u => TW Y Z T g q u.2 ∧ KF 1 T ws u.2 ∧ KF 6 T ws u.2) (fun u => CB D u.2 (va_A ws sz)) (va_A ws sz)) 0 0 (va_A ws sz) := by
  refine Met.ofW (cc := cX4_brightness) (maxL := 4) (ret := (some .long)) (by decide) rfl ?_
  intro p e s m args below meth c s₁ B hml hv
  obtain ⟨rfl, ⟨hsz, hP, hKN, hD0⟩, hSZ⟩ := hv
  have hx := B.exec
  have hb := B.bytes
  have hr := B.returns
  have hts := atoms_spec (ws := .code yX4_brightness cX4_brightness 4 (some .long) :: GW) B.pre
  have hg : ∀ w ∈ GW, w.before _ s = true := fun w h => hts w (List.mem_cons_of_mem _ h)
  have hown : s.vm.findClass RX4 = some m.cls := findClass_of_methodNamed B.named
  have hlocks := B.notSynchronized
  subst hsz
  have hD := hD0.self (sz := s.heap.size)
  generalize hAe : va_A ws s.heap.size = A at hD hSZ ⊢
  have hA : ∀ q : Nat, s.heap.size ≤ q → A q := fun q h => by rw [← hAe]; exact Or.inr h
  clear hAe hD0 hts B
  have hl := lv_entry ([.ref p0, .ref p1, .ref p2]) (n := 4) (Nat.le_of_ble_eq_true rfl)
  rw [lg_entry_eq]
  generalize (lg_sl ([.ref p0, .ref p1, .ref p2]) ++ List.replicate (4 - (lg_sl ([.ref p0, .ref p1, .ref p2])).length) Slot.unset).toArray = ls at hl ⊢
  have hl : lv_has ls 4 [(0, .ref p0), (1, .ref p1), (2, .ref p2)] := hl
  refine w_start (A0 := A) hP (fun H locs hP hS => ?_)
  refine lv_iconst (v := 0) hx hb dX4_brightness_0 (by decide) ?_
  refine lv_istore_n (lv' := [(3, .int 0), (0, .ref p0), (1, .ref p1), (2, .ref p2)]) hx hb dX4_brightness_1 rfl hl (by decide) rfl (fun ls hl => ?_)
  have zi0 : (0 : Int32).toInt = 0 := by decide
  refine w_loop (σ := Int32 × va_W) (fun xx H locs ls => match xx with | (v42, w43) => va_P D vwCl w43 H ∧ va_D A w43 ∧ va_S A s.heap H locs ∧ lv_has ls 4 [(3, .int v42), (0, .ref p0), (1, .ref p1), (2, .ref p2)] ∧ TW Y Z T g q w43 ∧ KF 1 T ws w43 ∧ KF 6 T ws w43 ∧ (0 ≤ v42.toInt ∧ v42.toInt ≤ 12)) (fun xx => match xx with | (v42, w43) => (12 - v42.toInt).toNat) (0, ws) ⟨hP, hD, hS, lv_sub hl [0, 1, 2, 3] rfl, hT, KF.rf, KF.rf, by omega⟩ (fun xx H locs ls hI ih => ?_)
  obtain ⟨v42, w43⟩ := xx
  obtain ⟨hP, hD, hS, hl, hT, ke87, ke88, hq86⟩ := hI
  have ih89 := ih
  refine lv_iload_n hx hb dX4_brightness_2 rfl (lv_at hl 0 rfl) ?_
  refine lv_aload_n hx hb dX4_brightness_3 rfl (lv_at hl 2 rfl) ?_
  refine ok5 hT ht1 (fun p111 x90 x91 x92 x93 x94 x95 x96 x97 a98 a99 a100 a101 a102 x103 hk112 h104 h105 h106 h107 h108 h109 h110 => ?_)
  refine va_getN (D := D) (ci := 8) (v := .int x97) (C := RX8) (T := TX8) (N := 14) hx hb hg inGX8 hown hKN.1 hP p111 hk112 rfl 7 (by decide) (va_Nw.use rfl (hKN.2.1 _ kn_136 rfl)) (fun _ h9 => h9) rfl dX4_brightness_4 ?_
  refine lv_icmp_ge (tgt := 51) hx hb dX4_brightness_7 (by decide) (fun c113 => ?_) (fun c113 => ?_)
  · skip
    have c113 := i_le (Eq.refl x97.toInt) (Eq.refl v42.toInt) c113
    refine lv_lconst (v := 0) hx hb dX4_brightness_51 (by decide) ?_
    refine W.widen (k := 0) (n := 0) (Nat.le_of_ble_eq_true rfl) (Nat.le_of_ble_eq_true rfl) ?_
    have zl0 : (0 : Int64).toInt = 0 := by decide
    exact W.lret (v := 0) hx hb hr (fun t ht hW => ⟨⟨((0), w43), rfl, ⟨hT, ke87, ke88⟩, CB.mk ht hP hD⟩, hS.F ht⟩) hS.2.2 dX4_brightness_52
  · skip
    have c113 := i_nle (Eq.refl x97.toInt) (Eq.refl v42.toInt) c113
    refine lv_iload_n hx hb dX4_brightness_10 rfl (lv_at hl 0 rfl) ?_
    refine lv_bipush (v := 12) hx hb dX4_brightness_11 (by decide) ?_
    refine lv_icmp_ge (tgt := 51) hx hb dX4_brightness_13 (by decide) (fun c114 => ?_) (fun c114 => ?_)
    · have c114 := i_le (show (12 : Int32).toInt = 12 by decide) (Eq.refl v42.toInt) c114; exfalso; omega
    have c114 := i_nle (show (12 : Int32).toInt = 12 by decide) (Eq.refl v42.toInt) c114
    refine lv_aload_n hx hb dX4_brightness_16 rfl (lv_at hl 1 rfl) ?_
    refine lv_aload_n hx hb dX4_brightness_17 rfl (lv_at hl 2 rfl) ?_
    refine lv_iload_n hx hb dX4_brightness_18 rfl (lv_at hl 0 rfl) ?_
    refine lv_aload_n hx hb dX4_brightness_19 rfl (lv_at hl 3 rfl) ?_
    refine ok8 hT ht0 (fun p117 a115 hk118 h116 => ?_)
    refine cga (rn_V (As := [.ref p1, .int v42, .ref p2]) (rest := []) (b := p0) (x_X4_holds l D Y Z H.size w43 T g q p0 p1 p2 v42 hT ht0 ht1 ht2 (show (0 ≤ v42.toInt ∧ v42.toInt ≤ 11) by omega)) ⟨hx, hb, hml, hown, hg⟩ lk_X4_21 ⟨CPC.blind, va_recv hKN.1 hP (ci := 4) (q0 := p117) rfl hk118, CPC.at hP hKN hD hSZ hS hA⟩ ⟨⟨rfl, rfl⟩, ⟨Nat.le_of_ble_eq_true rfl, Nat.le_of_ble_eq_true rfl⟩, ⟨(Nat.le_of_ble_eq_true rfl), (Nat.le_of_ble_eq_true rfl)⟩⟩ hl.1 rfl (Nat.le_of_ble_eq_true rfl) dX4_brightness_20) hP hD hS hA (fun u119 H locs hw120 hP hD hS => ?_)
    obtain ⟨u121, w122⟩ := u119
    obtain ⟨hT, ke123, ke124, hw125⟩ : TW Y Z T g q w122 ∧ KF 1 T w43 w122 ∧ KF 6 T w43 w122 ∧ (0 ≤ u121.toInt ∧ u121.toInt ≤ 1) := hw120
    have ke126 : KF 1 T ws w122 := KF.tr ke87 ke123
    have ke127 : KF 6 T ws w122 := KF.tr ke88 ke124
    refine W.eq (g2 := F0 m 23 ls [.int u121]) rfl ?_
    rcases (show u121.toInt = 1 ∨ u121.toInt = 0 by omega) with c128 | c128
    · obtain rfl : u121 = 1 := i_is c128 (by decide)
      have zi1 : (1 : Int32).toInt = 1 := by decide
      refine W.eq (g2 := F0 m 23 ls [.int 1]) rfl ?_
      refine lv_if_eq (tgt := 45) hx hb dX4_brightness_23 (by decide) (fun c129 => ?_) (fun c129 => ?_)
      · exact absurd c129 (by decide)
      refine lv_aload_n hx hb dX4_brightness_26 rfl (lv_at hl 1 rfl) ?_
      refine lv_aload_n hx hb dX4_brightness_27 rfl (lv_at hl 2 rfl) ?_
      refine lv_aload_n hx hb dX4_brightness_28 rfl (lv_at hl 2 rfl) ?_
      refine ok5 hT ht1 (fun p151 x130 x131 x132 x133 x134 x135 x136 x137 a138 a139 a140 a141 a142 x143 hk152 h144 h145 h146 h147 h148 h149 h150 => ?_)
      refine va_getN (D := D) (ci := 8) (v := .ref a139) (C := RX8) (T := TX8) (N := 14) hx hb hg inGX8 hown hKN.1 hP p151 hk152 rfl 9 (by decide) (va_Nw.use rfl (hKN.2.1 _ kn_141 rfl)) (fun _ h9 => h9) rfl dX4_brightness_29 ?_
      refine lv_iload_n hx hb dX4_brightness_32 rfl (lv_at hl 0 rfl) ?_
      refine tr_ld12 hx hb hKN hP hT h146 (vp_in_iff.mpr ⟨by omega, by omega⟩) dX4_brightness_33 (fun v153 => ?_)
      refine lv_aload_n hx hb dX4_brightness_34 rfl (lv_at hl 2 rfl) ?_
      refine va_getN (D := D) (ci := 8) (v := .ref a140) (C := RX8) (T := TX8) (N := 14) hx hb hg inGX8 hown hKN.1 hP p151 hk152 rfl 10 (by decide) (va_Nw.use rfl (hKN.2.1 _ kn_143 rfl)) (fun _ h9 => h9) rfl dX4_brightness_35 ?_
      refine lv_iload_n hx hb dX4_brightness_38 rfl (lv_at hl 0 rfl) ?_
      refine tr_ld12 hx hb hKN hP hT h147 (vp_in_iff.mpr ⟨by omega, by omega⟩) dX4_brightness_39 (fun v154 => ?_)
      refine lv_aload_n hx hb dX4_brightness_40 rfl (lv_at hl 3 rfl) ?_
      refine ok8 hT ht0 (fun p157 a155 hk158 h156 => ?_)
      refine cga (rn_V (As := [.ref p1, .int v153, .int v154, .ref p2]) (rest := []) (b := p0) (x_X4_run l D Y Z H.size w122 T g q p0 p1 p2 v153 v154 hT ht0 ht1 ht2) ⟨hx, hb, hml, hown, hg⟩ lk_X4_32 ⟨CPC.blind, va_recv hKN.1 hP (ci := 4) (q0 := p157) rfl hk158, CPC.at hP hKN hD hSZ hS hA⟩ ⟨⟨rfl, rfl⟩, ⟨Nat.le_of_ble_eq_true rfl, Nat.le_of_ble_eq_true rfl⟩, ⟨(Nat.le_of_ble_eq_true rfl), (Nat.le_of_ble_eq_true rfl)⟩⟩ hl.1 rfl (Nat.le_of_ble_eq_true rfl) dX4_brightness_41) hP hD hS hA (fun u159 H locs hw160 hP hD hS => ?_)
      obtain ⟨u161, w162⟩ := u159
      obtain ⟨hT, ke163, ke164⟩ : TW Y Z T g q w162 ∧ KF 1 T w122 w162 ∧ KF 6 T w122 w162 := hw160
      have ke165 : KF 1 T ws w162 := KF.tr ke126 ke163
      have ke166 : KF 6 T ws w162 := KF.tr ke127 ke164
      refine W.eq (g2 := F0 m 44 ls [.long u161]) rfl ?_
      refine W.widen (k := 0) (n := 0) (Nat.le_of_ble_eq_true rfl) (Nat.le_of_ble_eq_true rfl) ?_
      exact W.lret (v := u161) hx hb hr (fun t ht hW => ⟨⟨(u161, w162), rfl, ⟨hT, ke165, ke166⟩, CB.mk ht hP hD⟩, hS.F ht⟩) hS.2.2 dX4_brightness_44
    · obtain rfl : u121 = 0 := i_is c128 (by decide)
      have zi0 : (0 : Int32).toInt = 0 := by decide
      refine W.eq (g2 := F0 m 23 ls [.int 0]) rfl ?_
      refine lv_if_eq (tgt := 45) hx hb dX4_brightness_23 (by decide) (fun c167 => ?_) (fun c167 => ?_)
      rotate_left
      · exact absurd c167 (by decide)
      obtain ⟨v168, ev168⟩ : ∃ y : Int32, y = v42 + 1 := ⟨_, rfl⟩
      have hv168 := i_add (Eq.refl v42.toInt) (show (1 : Int32).toInt = 1 by decide) ev168 (by omega) (by omega)
      refine lv_iinc (v := v168) (lv' := [(3, .int v168), (0, .ref p0), (1, .ref p1), (2, .ref p2)]) hx hb dX4_brightness_45 hl (k := 0) rfl (by rw [ev168]; rfl) (by decide) rfl (fun ls hl => ?_)
      refine lv_goto (tgt := 2) hx hb dX4_brightness_48 (by decide) ?_
      exact ih89 (v168, w122) H locs ls (by show (12 - v168.toInt).toNat < (12 - v42.toInt).toNat; omega) ⟨hP, hD, hS, lv_sub hl [0, 1, 2, 3] rfl, hT, ke126, ke127, by omega⟩
set_option maxHeartbeats 4000000 in
set_option maxRecDepth 100000 in
theorem x_X4_weigh (l : Launch) (D : va_G) (Y : Nat → ClassId) (Z : Nat → Nat) (sz : Nat) (ws : va_W) (T : RT) (g : GN) (q : GQ)  (p0 : Nat) (p1 : Nat) (p3 : Nat) (p2 : Int32) (hT : TW Y Z T g q ws) (ht0 : T p0 = (8, 0, 0)) (ht1 : T p1 = (5, 0, 0)) (ht3 : T p3 = (15, 10, 0)) : Met l yX4_weigh (.code yX4_weigh cX4_weigh 7 (some .long) :: GW) ({ frames := 3, cells := 0, slots := 0, locals := 76 }) (va_Pc [.ref p0, .ref p1, .int p2, .ref p3] (CPC D Y Z ws sz)) (QG (S := Int64 × va_W) (fun u => some (.long u.1)) (fun u => TW Y Z T g q u.2 ∧ KF 1 T ws u.2 ∧ KF 6 T ws u.2) (fun u => CB D u.2 (va_A ws sz)) (va_A ws sz)) 0 0 (va_A ws sz) := by
  refine Met.ofW (cc := cX4_weigh) (maxL := 7) (ret := (some .long)) (by decide) rfl ?_
  intro p e s m args below meth c s₁ B hml hv
  obtain ⟨rfl, ⟨hsz, hP, hKN, hD0⟩, hSZ⟩ := hv
  have hx := B.exec
  have hb := B.bytes
  have hr := B.returns
  have hts := atoms_spec (ws := .code yX4_weigh cX4_weigh 7 (some .long) :: GW) B.pre
  have hg : ∀ w ∈ GW, w.before _ s = true := fun w h => hts w (List.mem_cons_of_mem _ h)
  have hown : s.vm.findClass RX4 = some m.cls := findClass_of_methodNamed B.named
  have hlocks := B.notSynchronized
  subst hsz
  have hD := hD0.self (sz := s.heap.size)
  generalize hAe : va_A ws s.heap.size = A at hD hSZ ⊢
  have hA : ∀ q : Nat, s.heap.size ≤ q → A q := fun q h => by rw [← hAe]; exact Or.inr h
  clear hAe hD0 hts B
  have hl := lv_entry ([.ref p0, .ref p1, .int p2, .ref p3]) (n := 7) (Nat.le_of_ble_eq_true rfl)
  rw [lg_entry_eq]
  generalize (lg_sl ([.ref p0, .ref p1, .int p2, .ref p3]) ++ List.replicate (7 - (lg_sl ([.ref p0, .ref p1, .int p2, .ref p3])).length) Slot.unset).toArray = ls at hl ⊢
  have hl : lv_has ls 7 [(0, .ref p0), (1, .ref p1), (2, .int p2), (3, .ref p3)] := hl
  refine w_start (A0 := A) hP (fun H locs hP hS => ?_)
  refine lv_lconst (v := 0) hx hb dX4_weigh_0 (by decide) ?_
  refine lv_lstore (lv' := [(4, .long 0), (0, .ref p0), (1, .ref p1), (2, .int p2), (3, .ref p3)]) hx hb dX4_weigh_1 hl (by decide) rfl (fun ls hl => ?_)
  refine lv_iconst (v := 0) hx hb dX4_weigh_3 (by decide) ?_
  refine lv_istore (lv' := [(6, .int 0), (4, .long 0), (0, .ref p0), (1, .ref p1), (2, .int p2), (3, .ref p3)]) hx hb dX4_weigh_4 hl (by decide) rfl (fun ls hl => ?_)
  have zi0 : (0 : Int32).toInt = 0 := by decide
  have zl0 : (0 : Int64).toInt = 0 := by decide
  refine w_loop (σ := Int32 × Int64 × va_W) (fun xx H locs ls => match xx with | (v85, v86, w87) => va_P D vwCl w87 H ∧ va_D A w87 ∧ va_S A s.heap H locs ∧ lv_has ls 7 [(6, .int v85), (4, .long v86), (0, .ref p0), (1, .ref p1), (2, .int p2), (3, .ref p3)] ∧ TW Y Z T g q w87 ∧ KF 1 T ws w87 ∧ KF 6 T ws w87 ∧ (0 ≤ v85.toInt ∧ v85.toInt ≤ 12)) (fun xx => match xx with | (v85, v86, w87) => (12 - v85.toInt).toNat) (0, 0, ws) ⟨hP, hD, hS, lv_sub hl [0, 1, 2, 3, 4, 5] rfl, hT, KF.rf, KF.rf, by omega⟩ (fun xx H locs ls hI ih => ?_)
  obtain ⟨v85, v86, w87⟩ := xx
  obtain ⟨hP, hD, hS, hl, hT, ke175, ke176, hq174⟩ := hI
  have ih177 := ih
  refine lv_iload hx hb dX4_weigh_6 (lv_at hl 0 rfl) ?_
  refine lv_aload_n hx hb dX4_weigh_8 rfl (lv_at hl 3 rfl) ?_
  refine ok5 hT ht1 (fun p199 x178 x179 x180 x181 x182 x183 x184 x185 a186 a187 a188 a189 a190 x191 hk200 h192 h193 h194 h195 h196 h197 h198 => ?_)
  refine va_getN (D := D) (ci := 8) (v := .int x185) (C := RX8) (T := TX8) (N := 14) hx hb hg inGX8 hown hKN.1 hP p199 hk200 rfl 7 (by decide) (va_Nw.use rfl (hKN.2.1 _ kn_136 rfl)) (fun _ h9 => h9) rfl dX4_weigh_9 ?_
  refine lv_icmp_ge (tgt := 75) hx hb dX4_weigh_12 (by decide) (fun c201 => ?_) (fun c201 => ?_)
  · skip
    have c201 := i_le (Eq.refl x185.toInt) (Eq.refl v85.toInt) c201
    refine lv_lload hx hb dX4_weigh_75 (lv_at hl 1 rfl) ?_
    refine W.widen (k := 0) (n := 0) (Nat.le_of_ble_eq_true rfl) (Nat.le_of_ble_eq_true rfl) ?_
    exact W.lret (v := v86) hx hb hr (fun t ht hW => ⟨⟨(v86, w87), rfl, ⟨hT, ke175, ke176⟩, CB.mk ht hP hD⟩, hS.F ht⟩) hS.2.2 dX4_weigh_77
  · skip
    have c201 := i_nle (Eq.refl x185.toInt) (Eq.refl v85.toInt) c201
    refine lv_iload hx hb dX4_weigh_15 (lv_at hl 0 rfl) ?_
    refine lv_bipush (v := 12) hx hb dX4_weigh_17 (by decide) ?_
    refine lv_icmp_ge (tgt := 75) hx hb dX4_weigh_19 (by decide) (fun c202 => ?_) (fun c202 => ?_)
    · have c202 := i_le (show (12 : Int32).toInt = 12 by decide) (Eq.refl v85.toInt) c202; exfalso; omega
    have c202 := i_nle (show (12 : Int32).toInt = 12 by decide) (Eq.refl v85.toInt) c202
    refine lv_aload_n hx hb dX4_weigh_22 rfl (lv_at hl 3 rfl) ?_
    refine va_getN (D := D) (ci := 8) (v := .ref a186) (C := RX8) (T := TX8) (N := 14) hx hb hg inGX8 hown hKN.1 hP p199 hk200 rfl 8 (by decide) (va_Nw.use rfl (hKN.2.1 _ kn_139 rfl)) (fun _ h9 => h9) rfl dX4_weigh_23 ?_
    refine lv_iload hx hb dX4_weigh_26 (lv_at hl 0 rfl) ?_
    refine tr_ld12 hx hb hKN hP hT h193 (vp_in_iff.mpr ⟨by omega, by omega⟩) dX4_weigh_28 (fun v203 => ?_)
    refine lv_iload_n hx hb dX4_weigh_29 rfl (lv_at hl 4 rfl) ?_
    have j204 := rgI v203
    have j205 := rgI p2
    refine lv_icmp_ne (tgt := 69) hx hb dX4_weigh_30 (by decide) (fun c206 => ?_) (fun c206 => ?_)
    · skip
      have c206 := i_ne (Eq.refl v203.toInt) (Eq.refl p2.toInt) c206
      obtain ⟨v207, ev207⟩ : ∃ y : Int32, y = v85 + 1 := ⟨_, rfl⟩
      have hv207 := i_add (Eq.refl v85.toInt) (show (1 : Int32).toInt = 1 by decide) ev207 (by omega) (by omega)
      refine lv_iinc (v := v207) (lv' := [(6, .int v207), (4, .long v86), (0, .ref p0), (1, .ref p1), (2, .int p2), (3, .ref p3)]) hx hb dX4_weigh_69 hl (k := 0) rfl (by rw [ev207]; rfl) (by decide) rfl (fun ls hl => ?_)
      refine lv_goto (tgt := 6) hx hb dX4_weigh_72 (by decide) ?_
      exact ih177 (v207, v86, w87) H locs ls (by show (12 - v207.toInt).toNat < (12 - v85.toInt).toNat; omega) ⟨hP, hD, hS, lv_sub hl [0, 1, 2, 3, 4, 5] rfl, hT, ke175, ke176, by omega⟩
    · skip
      have c206 := i_eq (Eq.refl v203.toInt) (Eq.refl p2.toInt) c206
      refine lv_aload_n hx hb dX4_weigh_33 rfl (lv_at hl 2 rfl) ?_
      refine lv_aload_n hx hb dX4_weigh_34 rfl (lv_at hl 3 rfl) ?_
      refine lv_iload hx hb dX4_weigh_35 (lv_at hl 0 rfl) ?_
      refine lv_aload_n hx hb dX4_weigh_37 rfl (lv_at hl 5 rfl) ?_
      refine ok8 hT ht0 (fun p210 a208 hk211 h209 => ?_)
      refine cga (rn_V (As := [.ref p1, .int v85, .ref p3]) (rest := []) (b := p0) (x_X4_holds l D Y Z H.size w87 T g q p0 p1 p3 v85 hT ht0 ht1 ht3 (show (0 ≤ v85.toInt ∧ v85.toInt ≤ 11) by omega)) ⟨hx, hb, hml, hown, hg⟩ lk_X4_21 ⟨CPC.blind, va_recv hKN.1 hP (ci := 4) (q0 := p210) rfl hk211, CPC.at hP hKN hD hSZ hS hA⟩ ⟨⟨rfl, rfl⟩, ⟨Nat.le_of_ble_eq_true rfl, Nat.le_of_ble_eq_true rfl⟩, ⟨(Nat.le_of_ble_eq_true rfl), (Nat.le_of_ble_eq_true rfl)⟩⟩ hl.1 rfl (Nat.le_of_ble_eq_true rfl) dX4_weigh_38) hP hD hS hA (fun u212 H locs hw213 hP hD hS => ?_)
      obtain ⟨u214, w215⟩ := u212
      obtain ⟨hT, ke216, ke217, hw218⟩ : TW Y Z T g q w215 ∧ KF 1 T w87 w215 ∧ KF 6 T w87 w215 ∧ (0 ≤ u214.toInt ∧ u214.toInt ≤ 1) := hw213
      have ke219 : KF 1 T ws w215 := KF.tr ke175 ke216
      have ke220 : KF 6 T ws w215 := KF.tr ke176 ke217
      refine W.eq (g2 := F0 m 41 ls [.int u214]) rfl ?_
      rcases (show u214.toInt = 1 ∨ u214.toInt = 0 by omega) with c221 | c221
      · obtain rfl : u214 = 1 := i_is c221 (by decide)
        have zi1 : (1 : Int32).toInt = 1 := by decide
        refine W.eq (g2 := F0 m 41 ls [.int 1]) rfl ?_
        refine lv_if_eq (tgt := 69) hx hb dX4_weigh_41 (by decide) (fun c222 => ?_) (fun c222 => ?_)
        · exact absurd c222 (by decide)
        refine lv_lload hx hb dX4_weigh_44 (lv_at hl 1 rfl) ?_
        refine lv_aload_n hx hb dX4_weigh_46 rfl (lv_at hl 2 rfl) ?_
        refine lv_aload_n hx hb dX4_weigh_47 rfl (lv_at hl 3 rfl) ?_
        refine lv_aload_n hx hb dX4_weigh_48 rfl (lv_at hl 3 rfl) ?_
        refine ok5 hT ht1 (fun p244 x223 x224 x225 x226 x227 x228 x229 x230 a231 a232 a233 a234 a235 x236 hk245 h237 h238 h239 h240 h241 h242 h243 => ?_)
        refine va_getN (D := D) (ci := 8) (v := .ref a232) (C := RX8) (T := TX8) (N := 14) hx hb hg inGX8 hown hKN.1 hP p244 hk245 rfl 9 (by decide) (va_Nw.use rfl (hKN.2.1 _ kn_141 rfl)) (fun _ h9 => h9) rfl dX4_weigh_49 ?_
        refine lv_iload hx hb dX4_weigh_52 (lv_at hl 0 rfl) ?_
        refine tr_ld12 hx hb hKN hP hT h239 (vp_in_iff.mpr ⟨by omega, by omega⟩) dX4_weigh_54 (fun v246 => ?_)
        refine lv_aload_n hx hb dX4_weigh_55 rfl (lv_at hl 3 rfl) ?_
        refine va_getN (D := D) (ci := 8) (v := .ref a233) (C := RX8) (T := TX8) (N := 14) hx hb hg inGX8 hown hKN.1 hP p244 hk245 rfl 10 (by decide) (va_Nw.use rfl (hKN.2.1 _ kn_143 rfl)) (fun _ h9 => h9) rfl dX4_weigh_56 ?_
        refine lv_iload hx hb dX4_weigh_59 (lv_at hl 0 rfl) ?_
        refine tr_ld12 hx hb hKN hP hT h240 (vp_in_iff.mpr ⟨by omega, by omega⟩) dX4_weigh_61 (fun v247 => ?_)
        refine lv_aload_n hx hb dX4_weigh_62 rfl (lv_at hl 5 rfl) ?_
        refine ok8 hT ht0 (fun p250 a248 hk251 h249 => ?_)
        refine cga (rn_V (As := [.ref p1, .int v246, .int v247, .ref p3]) (rest := [.long v86]) (b := p0) (x_X4_run l D Y Z H.size w215 T g q p0 p1 p3 v246 v247 hT ht0 ht1 ht3) ⟨hx, hb, hml, hown, hg⟩ lk_X4_32 ⟨CPC.blind, va_recv hKN.1 hP (ci := 4) (q0 := p250) rfl hk251, CPC.at hP hKN hD hSZ hS hA⟩ ⟨⟨rfl, rfl⟩, ⟨Nat.le_of_ble_eq_true rfl, Nat.le_of_ble_eq_true rfl⟩, ⟨(Nat.le_of_ble_eq_true rfl), (Nat.le_of_ble_eq_true rfl)⟩⟩ hl.1 rfl (Nat.le_of_ble_eq_true rfl) dX4_weigh_63) hP hD hS hA (fun u252 H locs hw253 hP hD hS => ?_)
        obtain ⟨u254, w255⟩ := u252
        obtain ⟨hT, ke256, ke257⟩ : TW Y Z T g q w255 ∧ KF 1 T w215 w255 ∧ KF 6 T w215 w255 := hw253
        have ke258 : KF 1 T ws w255 := KF.tr ke219 ke256
        have ke259 : KF 6 T ws w255 := KF.tr ke220 ke257
        refine W.eq (g2 := F0 m 66 ls [.long u254, .long v86]) rfl ?_
        refine lv_ladd hx hb dX4_weigh_66 ?_
        refine lv_topl (fun v260 ev260 => ?_)
        refine lv_lstore (lv' := [(4, .long v260), (6, .int v85), (0, .ref p0), (1, .ref p1), (2, .int p2), (3, .ref p3)]) hx hb dX4_weigh_67 hl (by decide) rfl (fun ls hl => ?_)
        obtain ⟨v261, ev261⟩ : ∃ y : Int32, y = v85 + 1 := ⟨_, rfl⟩
        have hv261 := i_add (Eq.refl v85.toInt) (show (1 : Int32).toInt = 1 by decide) ev261 (by omega) (by omega)
        refine lv_iinc (v := v261) (lv' := [(6, .int v261), (4, .long v260), (0, .ref p0), (1, .ref p1), (2, .int p2), (3, .ref p3)]) hx hb dX4_weigh_69 hl (k := 1) rfl (by rw [ev261]; rfl) (by decide) rfl (fun ls hl => ?_)
        refine lv_goto (tgt := 6) hx hb dX4_weigh_72 (by decide) ?_
        exact ih177 (v261, v260, w255) H locs ls (by show (12 - v261.toInt).toNat < (12 - v85.toInt).toNat; omega) ⟨hP, hD, hS, lv_sub hl [0, 1, 2, 3, 4, 5] rfl, hT, ke258, ke259, by omega⟩
      · obtain rfl : u214 = 0 := i_is c221 (by decide)
        have zi0 : (0 : Int32).toInt = 0 := by decide
        refine W.eq (g2 := F0 m 41 ls [.int 0]) rfl ?_
        refine lv_if_eq (tgt := 69) hx hb dX4_weigh_41 (by decide) (fun c262 => ?_) (fun c262 => ?_)
        rotate_left
        · exact absurd c262 (by decide)
        obtain ⟨v263, ev263⟩ : ∃ y : Int32, y = v85 + 1 := ⟨_, rfl⟩
        have hv263 := i_add (Eq.refl v85.toInt) (show (1 : Int32).toInt = 1 by decide) ev263 (by omega) (by omega)
        refine lv_iinc (v := v263) (lv' := [(6, .int v263), (4, .long v86), (0, .ref p0), (1, .ref p1), (2, .int p2), (3, .ref p3)]) hx hb dX4_weigh_69 hl (k := 0) rfl (by rw [ev263]; rfl) (by decide) rfl (fun ls hl => ?_)
        refine lv_goto (tgt := 6) hx hb dX4_weigh_72 (by decide) ?_
        exact ih177 (v263, v86, w215) H locs ls (by show (12 - v263.toInt).toNat < (12 - v85.toInt).toNat; omega) ⟨hP, hD, hS, lv_sub hl [0, 1, 2, 3, 4, 5] rfl, hT, ke219, ke220, by omega⟩
set_option maxHeartbeats 4000000 in
set_option maxRecDepth 100000 in
theorem x_X5_add (l : Launch) (D : va_G) (Y : Nat → ClassId) (Z : Nat → Nat) (sz : Nat) (ws : va_W) (T : RT) (g : GN) (q : GQ)  (p0 : Nat) (p1 : Int32) (p2 : Int32) (hT : TW Y Z T g q ws) (ht0 : T p0 = (11, 0, 0)) (hp0 : (0 ≤ p1.toInt ∧ p1.toInt ≤ 4)) : Met l yX5_add (.code yX5_add cX5_add 3 none :: GW) ({ frames := 0, cells := 0, slots := 0, locals := 0 }) (va_Pc [.ref p0, .int p1, .int p2] (CPC D Y Z ws sz)) (QG (S := va_W) (fun _ => none) (fun u => TW Y Z T g q u ∧ KF 1 T ws u ∧ KF 6 T ws u) (fun u => CB D u (va_A ws sz)) (va_A ws sz)) 0 0 (va_A ws sz) := by
  refine Met.ofW (cc := cX5_add) (maxL := 3) (ret := none) (by decide) rfl ?_
  intro p e s m args below meth c s₁ B hml hv
  obtain ⟨rfl, ⟨hsz, hP, hKN, hD0⟩, hSZ⟩ := hv
  have hx := B.exec
  have hb := B.bytes
  have hr := B.returns
  have hts := atoms_spec (ws := .code yX5_add cX5_add 3 none :: GW) B.pre
  have hg : ∀ w ∈ GW, w.before _ s = true := fun w h => hts w (List.mem_cons_of_mem _ h)
  have hown : s.vm.findClass RX5 = some m.cls := findClass_of_methodNamed B.named
  have hlocks := B.notSynchronized
  subst hsz
  have hD := hD0.self (sz := s.heap.size)
  generalize hAe : va_A ws s.heap.size = A at hD hSZ ⊢
  have hA : ∀ q : Nat, s.heap.size ≤ q → A q := fun q h => by rw [← hAe]; exact Or.inr h
  clear hAe hD0 hts B
  have hl := lv_entry ([.ref p0, .int p1, .int p2]) (n := 3) (Nat.le_of_ble_eq_true rfl)
  rw [lg_entry_eq]
  generalize (lg_sl ([.ref p0, .int p1, .int p2]) ++ List.replicate (3 - (lg_sl ([.ref p0, .int p1, .int p2])).length) Slot.unset).toArray = ls at hl ⊢
  have hl : lv_has ls 3 [(0, .ref p0), (1, .int p1), (2, .int p2)] := hl
  refine w_start (A0 := A) hP (fun H locs hP hS => ?_)
  refine lv_aload_n hx hb dX5_add_0 rfl (lv_at hl 0 rfl) ?_
  refine ok11 hT ht0 (fun p9 a1 a2 a3 a4 hk10 h5 h6 h7 h8 => ?_)
  refine va_get (D := D) (ci := 5) (v := .ref a1) (C := RX5) (T := TX5) (N := 4) hx hb hg inGX5 hown hKN.1 hP p9 hk10 rfl 0 (by decide) (hg _ kw_289) (fun _ h9 => h9) rfl dX5_add_1 ?_
  refine lv_iload_n hx hb dX5_add_4 rfl (lv_at hl 1 rfl) ?_
  refine lv_dup2_11 hx hb dX5_add_5 rfl rfl ?_
  refine tr_ld12 hx hb hKN hP hT h5 (vp_in_iff.mpr ⟨by omega, by omega⟩) dX5_add_6 (fun v11 => ?_)
  refine lv_iconst (v := 1) hx hb dX5_add_7 (by decide) ?_
  refine lv_iadd hx hb dX5_add_8 ?_
  refine lv_topi (fun v12 ev12 => ?_)
  refine tr_st12 hx hb hKN hP hD hS hT h5 (vp_in_iff.mpr ⟨by omega, by omega⟩) dX5_add_9 (fun w13 H locs hP hD hS hT kp14 => ?_)
  have ke15 : KF 1 T ws w13 := KF.tr KF.rf (KF.kp kp14 h5 (by decide))
  have ke16 : KF 6 T ws w13 := KF.tr KF.rf (KF.kp kp14 h5 (by decide))
  have hk17 := kp14 _ _ hk10 (rne ht0 h5 (by decide))
  refine lv_aload_n hx hb dX5_add_10 rfl (lv_at hl 0 rfl) ?_
  refine va_get (D := D) (ci := 5) (v := .ref a2) (C := RX5) (T := TX5) (N := 4) hx hb hg inGX5 hown hKN.1 hP p9 hk17 rfl 1 (by decide) (hg _ kw_290) (fun _ h9 => h9) rfl dX5_add_11 ?_
  refine lv_iload_n hx hb dX5_add_14 rfl (lv_at hl 1 rfl) ?_
  refine lv_dup2_11 hx hb dX5_add_15 rfl rfl ?_
  refine tr_ld15 hx hb hKN hP hT h6 (vp_in_iff.mpr ⟨by omega, by omega⟩) dX5_add_16 (fun v18 => ?_)
  refine lv_iload_n hx hb dX5_add_17 rfl (lv_at hl 2 rfl) ?_
  have j19 := rgI p2
  have j20 := Int32.toInt_toInt64 p2
  refine lv_i2l (v := p2.toInt64) hx hb dX5_add_18 (rfl) ?_
  refine lv_ladd hx hb dX5_add_19 ?_
  refine lv_topl (fun v21 ev21 => ?_)
  refine tr_st15 hx hb hKN hP hD hS hT h6 (vp_in_iff.mpr ⟨by omega, by omega⟩) dX5_add_20 (fun w22 H locs hP hD hS hT kp23 => ?_)
  have ke24 : KF 1 T ws w22 := KF.tr ke15 (KF.kp kp23 h6 (by decide))
  have ke25 : KF 6 T ws w22 := KF.tr ke16 (KF.kp kp23 h6 (by decide))
  have hk26 := kp23 _ _ hk17 (rne ht0 h6 (by decide))
  refine W.widen (k := 0) (n := 0) (Nat.le_of_ble_eq_true rfl) (Nat.le_of_ble_eq_true rfl) ?_
  exact W.vret hx hb hr (fun t ht hW => ⟨⟨w22, rfl, ⟨hT, ke24, ke25⟩, CB.mk ht hP hD⟩, hS.F ht⟩) hS.2.2 dX5_add_21
set_option maxHeartbeats 4000000 in
set_option maxRecDepth 100000 in
theorem x_X5_gap (l : Launch) (D : va_G) (Y : Nat → ClassId) (Z : Nat → Nat) (sz : Nat) (ws : va_W) (T : RT) (g : GN) (q : GQ)  (p0 : Nat) (p1 : Int32) (p2 : Int32) (hT : TW Y Z T g q ws) (ht0 : T p0 = (11, 0, 0)) (hp0 : (0 ≤ p1.toInt ∧ p1.toInt ≤ 4)) (hp1 : (0 ≤ p2.toInt ∧ p2.toInt ≤ 4)) : Met l yX5_gap (.code yX5_gap cX5_gap 3 (some .int) :: GW) ({ frames := 0, cells := 0, slots := 0, locals := 0 }) (va_Pc [.ref p0, .int p1, .int p2] (CPC D Y Z ws sz)) (QG (S := Int32) (fun u => some (.int u)) (fun u => True) (fun u => CB D ws (va_A ws sz)) (va_A ws sz)) 0 0 (va_A ws sz) := by
  refine Met.ofW (cc := cX5_gap) (maxL := 3) (ret := (some .int)) (by decide) rfl ?_
  intro p e s m args below meth c s₁ B hml hv
  obtain ⟨rfl, ⟨hsz, hP, hKN, hD0⟩, hSZ⟩ := hv
  have hx := B.exec
  have hb := B.bytes
  have hr := B.returns
  have hts := atoms_spec (ws := .code yX5_gap cX5_gap 3 (some .int) :: GW) B.pre
  have hg : ∀ w ∈ GW, w.before _ s = true := fun w h => hts w (List.mem_cons_of_mem _ h)
  have hown : s.vm.findClass RX5 = some m.cls := findClass_of_methodNamed B.named
  have hlocks := B.notSynchronized
  subst hsz
  have hD := hD0.self (sz := s.heap.size)
  generalize hAe : va_A ws s.heap.size = A at hD hSZ ⊢
  have hA : ∀ q : Nat, s.heap.size ≤ q → A q := fun q h => by rw [← hAe]; exact Or.inr h
  clear hAe hD0 hts B
  have hl := lv_entry ([.ref p0, .int p1, .int p2]) (n := 3) (Nat.le_of_ble_eq_true rfl)
  rw [lg_entry_eq]
  generalize (lg_sl ([.ref p0, .int p1, .int p2]) ++ List.replicate (3 - (lg_sl ([.ref p0, .int p1, .int p2])).length) Slot.unset).toArray = ls at hl ⊢
  have hl : lv_has ls 3 [(0, .ref p0), (1, .int p1), (2, .int p2)] := hl
  refine w_start (A0 := A) hP (fun H locs hP hS => ?_)
  refine lv_aload_n hx hb dX5_gap_0 rfl (lv_at hl 0 rfl) ?_
  refine ok11 hT ht0 (fun p9 a1 a2 a3 a4 hk10 h5 h6 h7 h8 => ?_)
  refine va_get (D := D) (ci := 5) (v := .ref a1) (C := RX5) (T := TX5) (N := 4) hx hb hg inGX5 hown hKN.1 hP p9 hk10 rfl 0 (by decide) (hg _ kw_289) (fun _ h9 => h9) rfl dX5_gap_1 ?_
  refine lv_iload_n hx hb dX5_gap_4 rfl (lv_at hl 1 rfl) ?_
  refine tr_ld12 hx hb hKN hP hT h5 (vp_in_iff.mpr ⟨by omega, by omega⟩) dX5_gap_5 (fun v11 => ?_)
  have j12 := rgI v11
  refine lv_if_eq (tgt := 18) hx hb dX5_gap_6 (by decide) (fun c13 => ?_) (fun c13 => ?_)
  · skip
    have c13 := i_eq (Eq.refl v11.toInt) (show (0 : Int32).toInt = 0 by decide) c13
    refine lv_iconst (v := 0) hx hb dX5_gap_18 (by decide) ?_
    refine lv_goto (tgt := 35) hx hb dX5_gap_19 (by decide) ?_
    refine W.widen (k := 0) (n := 0) (Nat.le_of_ble_eq_true rfl) (Nat.le_of_ble_eq_true rfl) ?_
    have zi0 : (0 : Int32).toInt = 0 := by decide
    exact W.iret (v := 0) hx hb hr (fun t ht hW => ⟨⟨(0), rfl, trivial, CB.mk ht hP hD⟩, hS.F ht⟩) hS.2.2 dX5_gap_35
  · skip
    have c13 := i_ne (Eq.refl v11.toInt) (show (0 : Int32).toInt = 0 by decide) c13
    refine lv_aload_n hx hb dX5_gap_9 rfl (lv_at hl 0 rfl) ?_
    refine va_get (D := D) (ci := 5) (v := .ref a1) (C := RX5) (T := TX5) (N := 4) hx hb hg inGX5 hown hKN.1 hP p9 hk10 rfl 0 (by decide) (hg _ kw_289) (fun _ h9 => h9) rfl dX5_gap_10 ?_
    refine lv_iload_n hx hb dX5_gap_13 rfl (lv_at hl 2 rfl) ?_
    refine tr_ld12 hx hb hKN hP hT h5 (vp_in_iff.mpr ⟨by omega, by omega⟩) dX5_gap_14 (fun v14 => ?_)
    have j15 := rgI v14
    refine lv_if_ne (tgt := 22) hx hb dX5_gap_15 (by decide) (fun c16 => ?_) (fun c16 => ?_)
    · skip
      have c16 := i_ne (Eq.refl v14.toInt) (show (0 : Int32).toInt = 0 by decide) c16
      refine lv_aload_n hx hb dX5_gap_22 rfl (lv_at hl 0 rfl) ?_
      refine va_get (D := D) (ci := 5) (v := .ref a3) (C := RX5) (T := TX5) (N := 4) hx hb hg inGX5 hown hKN.1 hP p9 hk10 rfl 2 (by decide) (hg _ kw_291) (fun _ h9 => h9) rfl dX5_gap_23 ?_
      refine lv_iload_n hx hb dX5_gap_26 rfl (lv_at hl 1 rfl) ?_
      refine tr_ld12 hx hb hKN hP hT h7 (vp_in_iff.mpr ⟨by omega, by omega⟩) dX5_gap_27 (fun v17 => ?_)
      refine lv_aload_n hx hb dX5_gap_28 rfl (lv_at hl 0 rfl) ?_
      refine va_get (D := D) (ci := 5) (v := .ref a3) (C := RX5) (T := TX5) (N := 4) hx hb hg inGX5 hown hKN.1 hP p9 hk10 rfl 2 (by decide) (hg _ kw_291) (fun _ h9 => h9) rfl dX5_gap_29 ?_
      refine lv_iload_n hx hb dX5_gap_32 rfl (lv_at hl 2 rfl) ?_
      refine tr_ld12 hx hb hKN hP hT h7 (vp_in_iff.mpr ⟨by omega, by omega⟩) dX5_gap_33 (fun v18 => ?_)
      refine lv_isub hx hb dX5_gap_34 ?_
      refine lv_topi (fun v19 ev19 => ?_)
      refine W.widen (k := 0) (n := 0) (Nat.le_of_ble_eq_true rfl) (Nat.le_of_ble_eq_true rfl) ?_
      exact W.iret (v := v19) hx hb hr (fun t ht hW => ⟨⟨v19, rfl, trivial, CB.mk ht hP hD⟩, hS.F ht⟩) hS.2.2 dX5_gap_35
    · skip
      have c16 := i_eq (Eq.refl v14.toInt) (show (0 : Int32).toInt = 0 by decide) c16
      refine lv_iconst (v := 0) hx hb dX5_gap_18 (by decide) ?_
      refine lv_goto (tgt := 35) hx hb dX5_gap_19 (by decide) ?_
      refine W.widen (k := 0) (n := 0) (Nat.le_of_ble_eq_true rfl) (Nat.le_of_ble_eq_true rfl) ?_
      have zi0 : (0 : Int32).toInt = 0 := by decide
      exact W.iret (v := 0) hx hb hr (fun t ht hW => ⟨⟨(0), rfl, trivial, CB.mk ht hP hD⟩, hS.F ht⟩) hS.2.2 dX5_gap_35
set_option maxHeartbeats 4000000 in
set_option maxRecDepth 100000 in
theorem x_X5_late (l : Launch) (D : va_G) (Y : Nat → ClassId) (Z : Nat → Nat) (sz : Nat) (ws : va_W) (T : RT) (g : GN) (q : GQ)  (p0 : Nat) (hT : TW Y Z T g q ws) (ht0 : T p0 = (11, 0, 0)) : Met l yX5_late (.code yX5_late cX5_late 4 (some .int) :: GW) ({ frames := 1, cells := 0, slots := 0, locals := 21 }) (va_Pc [.ref p0] (CPC D Y Z ws sz)) (QG (S := Int32) (fun u => some (.int u)) (fun u => True) (fun u => CB D ws (va_A ws sz)) (va_A ws sz)) 0 0 (va_A ws sz) := by
  refine Met.ofW (cc := cX5_late) (maxL := 4) (ret := (some .int)) (by decide) rfl ?_
  intro p e s m args below meth c s₁ B hml hv
  obtain ⟨rfl, ⟨hsz, hP, hKN, hD0⟩, hSZ⟩ := hv
  have hx := B.exec
  have hb := B.bytes
  have hr := B.returns
  have hts := atoms_spec (ws := .code yX5_late cX5_late 4 (some .int) :: GW) B.pre
  have hg : ∀ w ∈ GW, w.before _ s = true := fun w h => hts w (List.mem_cons_of_mem _ h)
  have hown : s.vm.findClass RX5 = some m.cls := findClass_of_methodNamed B.named
  have hlocks := B.notSynchronized
  subst hsz
  have hD := hD0.self (sz := s.heap.size)
  generalize hAe : va_A ws s.heap.size = A at hD hSZ ⊢
  have hA : ∀ q : Nat, s.heap.size ≤ q → A q := fun q h => by rw [← hAe]; exact Or.inr h
  clear hAe hD0 hts B
  have hl := lv_entry ([.ref p0]) (n := 4) (Nat.le_of_ble_eq_true rfl)
  rw [lg_entry_eq]
  generalize (lg_sl ([.ref p0]) ++ List.replicate (4 - (lg_sl ([.ref p0])).length) Slot.unset).toArray = ls at hl ⊢
  have hl : lv_has ls 4 [(0, .ref p0)] := hl
  refine w_start (A0 := A) hP (fun H locs hP hS => ?_)
  refine lv_bipush (v := (-100)) hx hb dX5_late_0 (by decide) ?_
  refine lv_istore_n (lv' := [(1, .int (-100)), (0, .ref p0)]) hx hb dX5_late_2 rfl hl (by decide) rfl (fun ls hl => ?_)
  refine lv_bipush (v := (-100)) hx hb dX5_late_3 (by decide) ?_
  refine lv_istore_n (lv' := [(2, .int (-100)), (1, .int (-100)), (0, .ref p0)]) hx hb dX5_late_5 rfl hl (by decide) rfl (fun ls hl => ?_)
  refine lv_iconst (v := 0) hx hb dX5_late_6 (by decide) ?_
  refine lv_istore_n (lv' := [(3, .int 0), (2, .int (-100)), (1, .int (-100)), (0, .ref p0)]) hx hb dX5_late_7 rfl hl (by decide) rfl (fun ls hl => ?_)
  have zi0 : (0 : Int32).toInt = 0 := by decide
  have zim100 : ((-100) : Int32).toInt = -100 := by decide
  refine w_loop (σ := Int32 × Int32 × Int32) (fun xx H locs ls => match xx with | (v71, v72, v73) => va_P D vwCl ws H ∧ va_D A ws ∧ va_S A s.heap H locs ∧ lv_has ls 4 [(3, .int v71), (2, .int v72), (1, .int v73), (0, .ref p0)] ∧ TW Y Z T g q ws ∧ (0 ≤ v71.toInt ∧ v71.toInt ≤ 302)) (fun xx => match xx with | (v71, v72, v73) => (302 - v71.toInt).toNat) (0, (-100), (-100)) ⟨hP, hD, hS, lv_sub hl [0, 1, 2, 3] rfl, hT, by omega⟩ (fun xx H locs ls hI ih => ?_)
  obtain ⟨v71, v72, v73⟩ := xx
  obtain ⟨hP, hD, hS, hl, hT, hq208⟩ := hI
  have ih209 := ih
  refine lv_iload_n hx hb dX5_late_8 rfl (lv_at hl 0 rfl) ?_
  refine lv_aload_n hx hb dX5_late_9 rfl (lv_at hl 3 rfl) ?_
  refine ok11 hT ht0 (fun p218 a210 a211 a212 a213 hk219 h214 h215 h216 h217 => ?_)
  refine va_get (D := D) (ci := 5) (v := .ref a213) (C := RX5) (T := TX5) (N := 4) hx hb hg inGX5 hown hKN.1 hP p218 hk219 rfl 3 (by decide) (hg _ kw_292) (fun _ h9 => h9) rfl dX5_late_10 ?_
  refine tr_len12 (v := 302) hx hb hKN hP hT h217 rfl dX5_late_13 ?_
  refine lv_icmp_ge (tgt := 71) hx hb dX5_late_14 (by decide) (fun c282 => ?_) (fun c282 => ?_)
  · skip
    have c282 := i_le (show (302 : Int32).toInt = 302 by decide) (Eq.refl v71.toInt) c282
    refine lv_iload_n hx hb dX5_late_71 rfl (lv_at hl 1 rfl) ?_
    refine lv_iload_n hx hb dX5_late_72 rfl (lv_at hl 2 rfl) ?_
    refine lv_isub hx hb dX5_late_73 ?_
    refine lv_topi (fun v283 ev283 => ?_)
    refine W.widen (k := 0) (n := 0) (Nat.le_of_ble_eq_true rfl) (Nat.le_of_ble_eq_true rfl) ?_
    exact W.iret (v := v283) hx hb hr (fun t ht hW => ⟨⟨v283, rfl, trivial, CB.mk ht hP hD⟩, hS.F ht⟩) hS.2.2 dX5_late_74
  · skip
    have c282 := i_nle (show (302 : Int32).toInt = 302 by decide) (Eq.refl v71.toInt) c282
    refine lv_aload_n hx hb dX5_late_17 rfl (lv_at hl 3 rfl) ?_
    refine va_get (D := D) (ci := 5) (v := .ref a213) (C := RX5) (T := TX5) (N := 4) hx hb hg inGX5 hown hKN.1 hP p218 hk219 rfl 3 (by decide) (hg _ kw_292) (fun _ h9 => h9) rfl dX5_late_18 ?_
    refine lv_iload_n hx hb dX5_late_21 rfl (lv_at hl 0 rfl) ?_
    refine tr_ld12 hx hb hKN hP hT h217 (vp_in_iff.mpr ⟨by omega, by omega⟩) dX5_late_22 (fun v284 => ?_)
    refine lv_bipush (v := (-100)) hx hb dX5_late_23 (by decide) ?_
    refine w_join (σ := Int32 × Int32) (pcJ := 65) (kJ := 0) (nJ := 0) (stk := fun xx => match xx with | (v313, v314) => []) (fun xx H locs ls => match xx with | (v313, v314) => va_P D vwCl ws H ∧ va_D A ws ∧ va_S A s.heap H locs ∧ lv_has ls 4 [(3, .int v71), (2, .int v313), (1, .int v314), (0, .ref p0)] ∧ TW Y Z T g q ws) (fun xx H locs ls hI => ?_) (fun jn315 => ?_)
    · skip
      obtain ⟨v313, v314⟩ := xx
      obtain ⟨hP, hD, hS, hl, hT⟩ := hI
      refine W.eq (g2 := F0 m 65 ls []) rfl ?_
      obtain ⟨v316, ev316⟩ : ∃ y : Int32, y = v71 + 1 := ⟨_, rfl⟩
      have hv316 := i_add (Eq.refl v71.toInt) (show (1 : Int32).toInt = 1 by decide) ev316 (by omega) (by omega)
      refine lv_iinc (v := v316) (lv' := [(3, .int v316), (2, .int v313), (1, .int v314), (0, .ref p0)]) hx hb dX5_late_65 hl (k := 0) rfl (by rw [ev316]; rfl) (by decide) rfl (fun ls hl => ?_)
      refine lv_goto (tgt := 8) hx hb dX5_late_68 (by decide) ?_
      exact ih209 (v316, v313, v314) H locs ls (by show (302 - v316.toInt).toNat < (302 - v71.toInt).toNat; omega) ⟨hP, hD, hS, lv_sub hl [0, 1, 2, 3] rfl, hT, by omega⟩
    · skip
      have j317 := rgI v284
      refine lv_icmp_eq (tgt := 65) hx hb dX5_late_25 (by decide) (fun c318 => ?_) (fun c318 => ?_)
      · skip
        have c318 := i_eq (Eq.refl v284.toInt) (show ((-100) : Int32).toInt = -100 by decide) c318
        refine W.widen (k := 0) (n := 0) (Nat.le_of_ble_eq_true rfl) (Nat.le_of_ble_eq_true rfl) ?_
        exact jn315 (v72, v73) H locs ls ⟨hP, hD, hS, lv_sub hl [0, 1, 2, 3] rfl, hT⟩
      · skip
        have c318 := i_ne (Eq.refl v284.toInt) (show ((-100) : Int32).toInt = -100 by decide) c318
        refine lv_iload_n hx hb dX5_late_28 rfl (lv_at hl 2 rfl) ?_
        refine lv_bipush (v := (-100)) hx hb dX5_late_29 (by decide) ?_
        refine w_join (σ := Int32) (pcJ := 53) (kJ := 0) (nJ := 0) (stk := fun xx => match xx with | v328 => [.int v328]) (fun xx H locs ls => match xx with | v328 => va_P D vwCl ws H ∧ va_D A ws ∧ va_S A s.heap H locs ∧ lv_has ls 4 [(3, .int v71), (2, .int v72), (1, .int v73), (0, .ref p0)] ∧ TW Y Z T g q ws) (fun xx H locs ls hI => ?_) (fun jn329 => ?_)
        · skip
          revert hI
          generalize xx = v328
          intro hI
          obtain ⟨hP, hD, hS, hl, hT⟩ := hI
          refine W.eq (g2 := F0 m 53 ls [.int v328]) rfl ?_
          refine lv_istore_n (lv' := [(1, .int v328), (3, .int v71), (2, .int v72), (0, .ref p0)]) hx hb dX5_late_53 rfl hl (by decide) rfl (fun ls hl => ?_)
          refine lv_iload_n hx hb dX5_late_54 rfl (lv_at hl 2 rfl) ?_
          refine lv_aload_n hx hb dX5_late_55 rfl (lv_at hl 3 rfl) ?_
          refine va_get (D := D) (ci := 5) (v := .ref a213) (C := RX5) (T := TX5) (N := 4) hx hb hg inGX5 hown hKN.1 hP p218 hk219 rfl 3 (by decide) (hg _ kw_292) (fun _ h9 => h9) rfl dX5_late_56 ?_
          refine lv_iload_n hx hb dX5_late_59 rfl (lv_at hl 1 rfl) ?_
          refine tr_ld12 hx hb hKN hP hT h217 (vp_in_iff.mpr ⟨by omega, by omega⟩) dX5_late_60 (fun v330 => ?_)
          refine cg0 (rn_S (As := [.int v72, .int v330]) (rest := []) (x_J9_max_7cf53 l D Y Z H.size v72 v330) ⟨hx, hb, hml, hown, hg⟩ lk_X5_102 ⟨CP.blind, CP.at nilP hKN (nilD (A := fun _ => True))⟩ ⟨⟨rfl, rfl⟩, ⟨Nat.le_of_ble_eq_true rfl, Nat.le_of_ble_eq_true rfl⟩, ⟨(Nat.le_of_ble_eq_true rfl), (Nat.le_of_ble_eq_true rfl)⟩⟩ hl.1 rfl (Nat.le_of_ble_eq_true rfl) dX5_late_61) hP hS hA (fun u331 H locs hw332 hP hS => ?_)
          obtain ⟨hw334, hw335⟩ : (v72.toInt ≤ u331.toInt ∧ v330.toInt ≤ u331.toInt) ∧ (u331.toInt = v72.toInt ∨ u331.toInt = v330.toInt) := hw332
          refine W.eq (g2 := F0 m 64 ls [.int u331]) rfl ?_
          refine lv_istore_n (lv' := [(2, .int u331), (1, .int v328), (3, .int v71), (0, .ref p0)]) hx hb dX5_late_64 rfl hl (by decide) rfl (fun ls hl => ?_)
          refine W.widen (k := 0) (n := 0) (Nat.le_of_ble_eq_true rfl) (Nat.le_of_ble_eq_true rfl) ?_
          exact jn315 (u331, v328) H locs ls ⟨hP, hD, hS, lv_sub hl [2, 0, 1, 3] rfl, hT⟩
        · skip
          have j336 := rgI v73
          refine lv_icmp_ne (tgt := 43) hx hb dX5_late_31 (by decide) (fun c337 => ?_) (fun c337 => ?_)
          · skip
            have c337 := i_ne (Eq.refl v73.toInt) (show ((-100) : Int32).toInt = -100 by decide) c337
            refine lv_iload_n hx hb dX5_late_43 rfl (lv_at hl 2 rfl) ?_
            refine lv_aload_n hx hb dX5_late_44 rfl (lv_at hl 3 rfl) ?_
            refine va_get (D := D) (ci := 5) (v := .ref a213) (C := RX5) (T := TX5) (N := 4) hx hb hg inGX5 hown hKN.1 hP p218 hk219 rfl 3 (by decide) (hg _ kw_292) (fun _ h9 => h9) rfl dX5_late_45 ?_
            refine lv_iload_n hx hb dX5_late_48 rfl (lv_at hl 0 rfl) ?_
            refine tr_ld12 hx hb hKN hP hT h217 (vp_in_iff.mpr ⟨by omega, by omega⟩) dX5_late_49 (fun v338 => ?_)
            refine cg0 (rn_S (As := [.int v73, .int v338]) (rest := []) (x_J9_min_7cf53 l D Y Z H.size v73 v338) ⟨hx, hb, hml, hown, hg⟩ lk_X5_99 ⟨CP.blind, CP.at nilP hKN (nilD (A := fun _ => True))⟩ ⟨⟨rfl, rfl⟩, ⟨Nat.le_of_ble_eq_true rfl, Nat.le_of_ble_eq_true rfl⟩, ⟨(Nat.le_of_ble_eq_true rfl), (Nat.le_of_ble_eq_true rfl)⟩⟩ hl.1 rfl (Nat.le_of_ble_eq_true rfl) dX5_late_50) hP hS hA (fun u339 H locs hw340 hP hS => ?_)
            obtain ⟨hw342, hw343⟩ : (u339.toInt ≤ v73.toInt ∧ u339.toInt ≤ v338.toInt) ∧ (u339.toInt = v73.toInt ∨ u339.toInt = v338.toInt) := hw340
            refine W.eq (g2 := F0 m 53 ls [.int u339]) rfl ?_
            refine W.widen (k := 0) (n := 0) (Nat.le_of_ble_eq_true rfl) (Nat.le_of_ble_eq_true rfl) ?_
            exact jn329 (u339) H locs ls ⟨hP, hD, hS, lv_sub hl [0, 1, 2, 3] rfl, hT⟩
          · skip
            have c337 := i_eq (Eq.refl v73.toInt) (show ((-100) : Int32).toInt = -100 by decide) c337
            refine lv_aload_n hx hb dX5_late_34 rfl (lv_at hl 3 rfl) ?_
            refine va_get (D := D) (ci := 5) (v := .ref a213) (C := RX5) (T := TX5) (N := 4) hx hb hg inGX5 hown hKN.1 hP p218 hk219 rfl 3 (by decide) (hg _ kw_292) (fun _ h9 => h9) rfl dX5_late_35 ?_
            refine lv_iload_n hx hb dX5_late_38 rfl (lv_at hl 0 rfl) ?_
            refine tr_ld12 hx hb hKN hP hT h217 (vp_in_iff.mpr ⟨by omega, by omega⟩) dX5_late_39 (fun v344 => ?_)
            refine lv_goto (tgt := 53) hx hb dX5_late_40 (by decide) ?_
            refine W.widen (k := 0) (n := 0) (Nat.le_of_ble_eq_true rfl) (Nat.le_of_ble_eq_true rfl) ?_
            exact jn329 (v344) H locs ls ⟨hP, hD, hS, lv_sub hl [0, 1, 2, 3] rfl, hT⟩
set_option maxHeartbeats 4000000 in
set_option maxRecDepth 100000 in
theorem x_X5_shifted (l : Launch) (D : va_G) (Y : Nat → ClassId) (Z : Nat → Nat) (sz : Nat) (ws : va_W) (T : RT) (g : GN) (q : GQ)  (p0 : Nat) (hT : TW Y Z T g q ws) (ht0 : T p0 = (11, 0, 0)) : Met l yX5_shifted (.code yX5_shifted cX5_shifted 3 (some .int) :: GW) ({ frames := 0, cells := 0, slots := 0, locals := 0 }) (va_Pc [.ref p0] (CPC D Y Z ws sz)) (QG (S := Int32) (fun u => some (.int u)) (fun u => True) (fun u => CB D ws (va_A ws sz)) (va_A ws sz)) 0 0 (va_A ws sz) := by
  refine Met.ofW (cc := cX5_shifted) (maxL := 3) (ret := (some .int)) (by decide) rfl ?_
  intro p e s m args below meth c s₁ B hml hv
  obtain ⟨rfl, ⟨hsz, hP, hKN, hD0⟩, hSZ⟩ := hv
  have hx := B.exec
  have hb := B.bytes
  have hr := B.returns
  have hts := atoms_spec (ws := .code yX5_shifted cX5_shifted 3 (some .int) :: GW) B.pre
  have hg : ∀ w ∈ GW, w.before _ s = true := fun w h => hts w (List.mem_cons_of_mem _ h)
  have hown : s.vm.findClass RX5 = some m.cls := findClass_of_methodNamed B.named
  have hlocks := B.notSynchronized
  subst hsz
  have hD := hD0.self (sz := s.heap.size)
  generalize hAe : va_A ws s.heap.size = A at hD hSZ ⊢
  have hA : ∀ q : Nat, s.heap.size ≤ q → A q := fun q h => by rw [← hAe]; exact Or.inr h
  clear hAe hD0 hts B
  have hl := lv_entry ([.ref p0]) (n := 3) (Nat.le_of_ble_eq_true rfl)
  rw [lg_entry_eq]
  generalize (lg_sl ([.ref p0]) ++ List.replicate (3 - (lg_sl ([.ref p0])).length) Slot.unset).toArray = ls at hl ⊢
  have hl : lv_has ls 3 [(0, .ref p0)] := hl
  refine w_start (A0 := A) hP (fun H locs hP hS => ?_)
  refine lv_iconst (v := 0) hx hb dX5_shifted_0 (by decide) ?_
  refine lv_istore_n (lv' := [(1, .int 0), (0, .ref p0)]) hx hb dX5_shifted_1 rfl hl (by decide) rfl (fun ls hl => ?_)
  refine lv_iconst (v := 0) hx hb dX5_shifted_2 (by decide) ?_
  refine lv_istore_n (lv' := [(2, .int 0), (1, .int 0), (0, .ref p0)]) hx hb dX5_shifted_3 rfl hl (by decide) rfl (fun ls hl => ?_)
  have zi0 : (0 : Int32).toInt = 0 := by decide
  refine w_loop (σ := Int32 × Int32) (fun xx H locs ls => match xx with | (v43, v44) => va_P D vwCl ws H ∧ va_D A ws ∧ va_S A s.heap H locs ∧ lv_has ls 3 [(2, .int v43), (1, .int v44), (0, .ref p0)] ∧ TW Y Z T g q ws ∧ (0 ≤ v43.toInt ∧ v43.toInt ≤ 302)) (fun xx => match xx with | (v43, v44) => (302 - v43.toInt).toNat) (0, 0) ⟨hP, hD, hS, lv_sub hl [0, 1, 2] rfl, hT, by omega⟩ (fun xx H locs ls hI ih => ?_)
  obtain ⟨v43, v44⟩ := xx
  obtain ⟨hP, hD, hS, hl, hT, hq89⟩ := hI
  have ih90 := ih
  refine lv_iload_n hx hb dX5_shifted_4 rfl (lv_at hl 0 rfl) ?_
  refine lv_aload_n hx hb dX5_shifted_5 rfl (lv_at hl 2 rfl) ?_
  refine ok11 hT ht0 (fun p99 a91 a92 a93 a94 hk100 h95 h96 h97 h98 => ?_)
  refine va_get (D := D) (ci := 5) (v := .ref a94) (C := RX5) (T := TX5) (N := 4) hx hb hg inGX5 hown hKN.1 hP p99 hk100 rfl 3 (by decide) (hg _ kw_292) (fun _ h9 => h9) rfl dX5_shifted_6 ?_
  refine tr_len12 (v := 302) hx hb hKN hP hT h98 rfl dX5_shifted_9 ?_
  refine lv_icmp_ge (tgt := 47) hx hb dX5_shifted_10 (by decide) (fun c118 => ?_) (fun c118 => ?_)
  · skip
    have c118 := i_le (show (302 : Int32).toInt = 302 by decide) (Eq.refl v43.toInt) c118
    refine lv_iload_n hx hb dX5_shifted_47 rfl (lv_at hl 1 rfl) ?_
    refine W.widen (k := 0) (n := 0) (Nat.le_of_ble_eq_true rfl) (Nat.le_of_ble_eq_true rfl) ?_
    exact W.iret (v := v44) hx hb hr (fun t ht hW => ⟨⟨v44, rfl, trivial, CB.mk ht hP hD⟩, hS.F ht⟩) hS.2.2 dX5_shifted_48
  · skip
    have c118 := i_nle (show (302 : Int32).toInt = 302 by decide) (Eq.refl v43.toInt) c118
    refine lv_iload_n hx hb dX5_shifted_13 rfl (lv_at hl 1 rfl) ?_
    refine lv_aload_n hx hb dX5_shifted_14 rfl (lv_at hl 2 rfl) ?_
    refine va_get (D := D) (ci := 5) (v := .ref a94) (C := RX5) (T := TX5) (N := 4) hx hb hg inGX5 hown hKN.1 hP p99 hk100 rfl 3 (by decide) (hg _ kw_292) (fun _ h9 => h9) rfl dX5_shifted_15 ?_
    refine lv_iload_n hx hb dX5_shifted_18 rfl (lv_at hl 0 rfl) ?_
    refine tr_ld12 hx hb hKN hP hT h98 (vp_in_iff.mpr ⟨by omega, by omega⟩) dX5_shifted_19 (fun v119 => ?_)
    refine lv_bipush (v := (-100)) hx hb dX5_shifted_20 (by decide) ?_
    refine w_join (σ := Int32) (pcJ := 39) (kJ := 0) (nJ := 0) (stk := fun xx => match xx with | v125 => [.int v125, .int v44]) (fun xx H locs ls => match xx with | v125 => va_P D vwCl ws H ∧ va_D A ws ∧ va_S A s.heap H locs ∧ lv_has ls 3 [(2, .int v43), (1, .int v44), (0, .ref p0)] ∧ TW Y Z T g q ws ∧ (0 ≤ v125.toInt ∧ v125.toInt ≤ 1)) (fun xx H locs ls hI => ?_) (fun jn126 => ?_)
    · skip
      revert hI
      generalize xx = v125
      intro hI
      obtain ⟨hP, hD, hS, hl, hT, hq127⟩ := hI
      refine W.eq (g2 := F0 m 39 ls [.int v125, .int v44]) rfl ?_
      refine lv_iadd hx hb dX5_shifted_39 ?_
      refine lv_topi (fun v128 ev128 => ?_)
      refine lv_istore_n (lv' := [(1, .int v128), (2, .int v43), (0, .ref p0)]) hx hb dX5_shifted_40 rfl hl (by decide) rfl (fun ls hl => ?_)
      obtain ⟨v129, ev129⟩ : ∃ y : Int32, y = v43 + 1 := ⟨_, rfl⟩
      have hv129 := i_add (Eq.refl v43.toInt) (show (1 : Int32).toInt = 1 by decide) ev129 (by omega) (by omega)
      refine lv_iinc (v := v129) (lv' := [(2, .int v129), (1, .int v128), (0, .ref p0)]) hx hb dX5_shifted_41 hl (k := 1) rfl (by rw [ev129]; rfl) (by decide) rfl (fun ls hl => ?_)
      refine lv_goto (tgt := 4) hx hb dX5_shifted_44 (by decide) ?_
      exact ih90 (v129, v128) H locs ls (by show (302 - v129.toInt).toNat < (302 - v43.toInt).toNat; omega) ⟨hP, hD, hS, lv_sub hl [0, 1, 2] rfl, hT, by omega⟩
    · skip
      have j130 := rgI v119
      refine lv_icmp_eq (tgt := 38) hx hb dX5_shifted_22 (by decide) (fun c131 => ?_) (fun c131 => ?_)
      · skip
        have c131 := i_eq (Eq.refl v119.toInt) (show ((-100) : Int32).toInt = -100 by decide) c131
        refine lv_iconst (v := 0) hx hb dX5_shifted_38 (by decide) ?_
        have zi0 : (0 : Int32).toInt = 0 := by decide
        refine W.widen (k := 0) (n := 0) (Nat.le_of_ble_eq_true rfl) (Nat.le_of_ble_eq_true rfl) ?_
        exact jn126 (0) H locs ls ⟨hP, hD, hS, lv_sub hl [0, 1, 2] rfl, hT, by omega⟩
      · skip
        have c131 := i_ne (Eq.refl v119.toInt) (show ((-100) : Int32).toInt = -100 by decide) c131
        refine lv_aload_n hx hb dX5_shifted_25 rfl (lv_at hl 2 rfl) ?_
        refine va_get (D := D) (ci := 5) (v := .ref a94) (C := RX5) (T := TX5) (N := 4) hx hb hg inGX5 hown hKN.1 hP p99 hk100 rfl 3 (by decide) (hg _ kw_292) (fun _ h9 => h9) rfl dX5_shifted_26 ?_
        refine lv_iload_n hx hb dX5_shifted_29 rfl (lv_at hl 0 rfl) ?_
        refine tr_ld12 hx hb hKN hP hT h98 (vp_in_iff.mpr ⟨by omega, by omega⟩) dX5_shifted_30 (fun v132 => ?_)
        have j133 := rgI v132
        refine lv_if_eq (tgt := 38) hx hb dX5_shifted_31 (by decide) (fun c134 => ?_) (fun c134 => ?_)
        · skip
          have c134 := i_eq (Eq.refl v132.toInt) (show (0 : Int32).toInt = 0 by decide) c134
          refine lv_iconst (v := 0) hx hb dX5_shifted_38 (by decide) ?_
          have zi0 : (0 : Int32).toInt = 0 := by decide
          refine W.widen (k := 0) (n := 0) (Nat.le_of_ble_eq_true rfl) (Nat.le_of_ble_eq_true rfl) ?_
          exact jn126 (0) H locs ls ⟨hP, hD, hS, lv_sub hl [0, 1, 2] rfl, hT, by omega⟩
        · skip
          have c134 := i_ne (Eq.refl v132.toInt) (show (0 : Int32).toInt = 0 by decide) c134
          refine lv_iconst (v := 1) hx hb dX5_shifted_34 (by decide) ?_
          refine lv_goto (tgt := 39) hx hb dX5_shifted_35 (by decide) ?_
          have zi1 : (1 : Int32).toInt = 1 := by decide
          refine W.widen (k := 0) (n := 0) (Nat.le_of_ble_eq_true rfl) (Nat.le_of_ble_eq_true rfl) ?_
          exact jn126 (1) H locs ls ⟨hP, hD, hS, lv_sub hl [0, 1, 2] rfl, hT, by omega⟩
set_option maxHeartbeats 4000000 in
set_option maxRecDepth 100000 in
theorem x_X5_isRound (l : Launch) (D : va_G) (Y : Nat → ClassId) (Z : Nat → Nat) (sz : Nat) (ws : va_W) (T : RT) (g : GN) (q : GQ)  (p0 : Nat) (p1 : Int32) (hT : TW Y Z T g q ws) (ht0 : T p0 = (11, 0, 0)) (hp0 : (1 ≤ p1.toInt ∧ p1.toInt ≤ 20)) : Met l yX5_isRound (.code yX5_isRound cX5_isRound 5 (some .boolean) :: GW) ({ frames := 0, cells := 0, slots := 0, locals := 0 }) (va_Pc [.ref p0, .int p1] (CPC D Y Z ws sz)) (QG (S := Int32) (fun u => some (.int u)) (fun u => (0 ≤ u.toInt ∧ u.toInt ≤ 1)) (fun u => CB D ws (va_A ws sz)) (va_A ws sz)) 0 0 (va_A ws sz) := by
  refine Met.ofW (cc := cX5_isRound) (maxL := 5) (ret := (some .boolean)) (by decide) rfl ?_
  intro p e s m args below meth c s₁ B hml hv
  obtain ⟨rfl, ⟨hsz, hP, hKN, hD0⟩, hSZ⟩ := hv
  have hx := B.exec
  have hb := B.bytes
  have hr := B.returns
  have hts := atoms_spec (ws := .code yX5_isRound cX5_isRound 5 (some .boolean) :: GW) B.pre
  have hg : ∀ w ∈ GW, w.before _ s = true := fun w h => hts w (List.mem_cons_of_mem _ h)
  have hown : s.vm.findClass RX5 = some m.cls := findClass_of_methodNamed B.named
  have hlocks := B.notSynchronized
  subst hsz
  have hD := hD0.self (sz := s.heap.size)
  generalize hAe : va_A ws s.heap.size = A at hD hSZ ⊢
  have hA : ∀ q : Nat, s.heap.size ≤ q → A q := fun q h => by rw [← hAe]; exact Or.inr h
  clear hAe hD0 hts B
  have hl := lv_entry ([.ref p0, .int p1]) (n := 5) (Nat.le_of_ble_eq_true rfl)
  rw [lg_entry_eq]
  generalize (lg_sl ([.ref p0, .int p1]) ++ List.replicate (5 - (lg_sl ([.ref p0, .int p1])).length) Slot.unset).toArray = ls at hl ⊢
  have hl : lv_has ls 5 [(0, .ref p0), (1, .int p1)] := hl
  refine w_start (A0 := A) hP (fun H locs hP hS => ?_)
  refine lv_iconst (v := 0) hx hb dX5_isRound_0 (by decide) ?_
  refine lv_istore_n (lv' := [(2, .int 0), (0, .ref p0), (1, .int p1)]) hx hb dX5_isRound_1 rfl hl (by decide) rfl (fun ls hl => ?_)
  refine lv_iconst (v := 0) hx hb dX5_isRound_2 (by decide) ?_
  refine lv_istore_n (lv' := [(3, .int 0), (2, .int 0), (0, .ref p0), (1, .int p1)]) hx hb dX5_isRound_3 rfl hl (by decide) rfl (fun ls hl => ?_)
  have zi0 : (0 : Int32).toInt = 0 := by decide
  refine w_loop (σ := Int32 × Int32) (fun xx H locs ls => match xx with | (v35, v36) => va_P D vwCl ws H ∧ va_D A ws ∧ va_S A s.heap H locs ∧ lv_has ls 5 [(3, .int v35), (2, .int v36), (0, .ref p0), (1, .int p1)] ∧ TW Y Z T g q ws ∧ (0 ≤ v35.toInt ∧ v35.toInt ≤ 302) ∧ (0 ≤ v36.toInt ∧ v36.toInt ≤ 1)) (fun xx => match xx with | (v35, v36) => (302 - v35.toInt).toNat) (0, 0) ⟨hP, hD, hS, lv_sub hl [0, 1, 2, 3] rfl, hT, by omega, by omega⟩ (fun xx H locs ls hI ih => ?_)
  obtain ⟨v35, v36⟩ := xx
  obtain ⟨hP, hD, hS, hl, hT, hq77, hq78⟩ := hI
  have ih79 := ih
  refine lv_iload_n hx hb dX5_isRound_4 rfl (lv_at hl 0 rfl) ?_
  refine lv_iload_n hx hb dX5_isRound_5 rfl (lv_at hl 3 rfl) ?_
  refine lv_iadd hx hb dX5_isRound_6 ?_
  refine lv_topi (fun v80 ev80 => ?_)
  have hv80 := i_add (Eq.refl v35.toInt) (Eq.refl p1.toInt) ev80 (by omega) (by omega)
  refine lv_aload_n hx hb dX5_isRound_7 rfl (lv_at hl 2 rfl) ?_
  refine ok11 hT ht0 (fun p89 a81 a82 a83 a84 hk90 h85 h86 h87 h88 => ?_)
  refine va_get (D := D) (ci := 5) (v := .ref a84) (C := RX5) (T := TX5) (N := 4) hx hb hg inGX5 hown hKN.1 hP p89 hk90 rfl 3 (by decide) (hg _ kw_292) (fun _ h9 => h9) rfl dX5_isRound_8 ?_
  refine tr_len12 (v := 302) hx hb hKN hP hT h88 rfl dX5_isRound_11 ?_
  refine lv_icmp_ge (tgt := 91) hx hb dX5_isRound_12 (by decide) (fun c91 => ?_) (fun c91 => ?_)
  · skip
    have c91 := i_le (show (302 : Int32).toInt = 302 by decide) (Eq.refl v80.toInt) c91
    refine lv_iload_n hx hb dX5_isRound_91 rfl (lv_at hl 1 rfl) ?_
    refine W.widen (k := 0) (n := 0) (Nat.le_of_ble_eq_true rfl) (Nat.le_of_ble_eq_true rfl) ?_
    exact W.zret (v := v36) hx hb hr (z_nar (by omega)) (fun t ht hW => ⟨⟨v36, rfl, ((show (0 ≤ v36.toInt ∧ v36.toInt ≤ 1) by omega)), CB.mk ht hP hD⟩, hS.F ht⟩) hS.2.2 dX5_isRound_92
  · skip
    have c91 := i_nle (show (302 : Int32).toInt = 302 by decide) (Eq.refl v80.toInt) c91
    refine lv_aload_n hx hb dX5_isRound_15 rfl (lv_at hl 2 rfl) ?_
    refine va_get (D := D) (ci := 5) (v := .ref a84) (C := RX5) (T := TX5) (N := 4) hx hb hg inGX5 hown hKN.1 hP p89 hk90 rfl 3 (by decide) (hg _ kw_292) (fun _ h9 => h9) rfl dX5_isRound_16 ?_
    refine lv_iload_n hx hb dX5_isRound_19 rfl (lv_at hl 0 rfl) ?_
    refine tr_ld12 hx hb hKN hP hT h88 (vp_in_iff.mpr ⟨by omega, by omega⟩) dX5_isRound_20 (fun v92 => ?_)
    refine lv_bipush (v := (-100)) hx hb dX5_isRound_21 (by decide) ?_
    have j93 := rgI v92
    refine lv_icmp_eq (tgt := 43) hx hb dX5_isRound_23 (by decide) (fun c94 => ?_) (fun c94 => ?_)
    · skip
      have c94 := i_eq (Eq.refl v92.toInt) (show ((-100) : Int32).toInt = -100 by decide) c94
      refine lv_iconst (v := 0) hx hb dX5_isRound_43 (by decide) ?_
      refine lv_istore (lv' := [(4, .int 0), (3, .int v35), (2, .int v36), (0, .ref p0), (1, .int p1)]) hx hb dX5_isRound_44 hl (by decide) rfl (fun ls hl => ?_)
      refine lv_iload hx hb dX5_isRound_46 (lv_at hl 0 rfl) ?_
      refine lv_if_eq (tgt := 70) hx hb dX5_isRound_48 (by decide) (fun c95 => ?_) (fun c95 => ?_)
      rotate_left
      · exact absurd c95 (by decide)
      refine lv_iload_n hx hb dX5_isRound_70 rfl (lv_at hl 2 rfl) ?_
      refine lv_if_ne (tgt := 79) hx hb dX5_isRound_71 (by decide) (fun c96 => ?_) (fun c96 => ?_)
      · skip
        have c96 := i_ne (Eq.refl v36.toInt) (show (0 : Int32).toInt = 0 by decide) c96
        refine lv_iconst (v := 1) hx hb dX5_isRound_79 (by decide) ?_
        refine lv_goto (tgt := 84) hx hb dX5_isRound_80 (by decide) ?_
        refine lv_istore_n (lv' := [(2, .int 1), (4, .int 0), (3, .int v35), (0, .ref p0), (1, .int p1)]) hx hb dX5_isRound_84 rfl hl (by decide) rfl (fun ls hl => ?_)
        obtain ⟨v97, ev97⟩ : ∃ y : Int32, y = v35 + 1 := ⟨_, rfl⟩
        have hv97 := i_add (Eq.refl v35.toInt) (show (1 : Int32).toInt = 1 by decide) ev97 (by omega) (by omega)
        refine lv_iinc (v := v97) (lv' := [(3, .int v97), (2, .int 1), (4, .int 0), (0, .ref p0), (1, .int p1)]) hx hb dX5_isRound_85 hl (k := 2) rfl (by rw [ev97]; rfl) (by decide) rfl (fun ls hl => ?_)
        refine lv_goto (tgt := 4) hx hb dX5_isRound_88 (by decide) ?_
        have zi1 : (1 : Int32).toInt = 1 := by decide
        have zi0 : (0 : Int32).toInt = 0 := by decide
        exact ih79 (v97, 1) H locs ls (by show (302 - v97.toInt).toNat < (302 - v35.toInt).toNat; omega) ⟨hP, hD, hS, lv_sub hl [0, 1, 3, 4] rfl, hT, by omega, by omega⟩
      · skip
        have c96 := i_eq (Eq.refl v36.toInt) (show (0 : Int32).toInt = 0 by decide) c96
        refine lv_iload hx hb dX5_isRound_74 (lv_at hl 0 rfl) ?_
        refine lv_if_eq (tgt := 83) hx hb dX5_isRound_76 (by decide) (fun c98 => ?_) (fun c98 => ?_)
        rotate_left
        · exact absurd c98 (by decide)
        refine lv_iconst (v := 0) hx hb dX5_isRound_83 (by decide) ?_
        refine lv_istore_n (lv' := [(2, .int 0), (4, .int 0), (3, .int v35), (0, .ref p0), (1, .int p1)]) hx hb dX5_isRound_84 rfl hl (by decide) rfl (fun ls hl => ?_)
        obtain ⟨v99, ev99⟩ : ∃ y : Int32, y = v35 + 1 := ⟨_, rfl⟩
        have hv99 := i_add (Eq.refl v35.toInt) (show (1 : Int32).toInt = 1 by decide) ev99 (by omega) (by omega)
        refine lv_iinc (v := v99) (lv' := [(3, .int v99), (2, .int 0), (4, .int 0), (0, .ref p0), (1, .int p1)]) hx hb dX5_isRound_85 hl (k := 2) rfl (by rw [ev99]; rfl) (by decide) rfl (fun ls hl => ?_)
        refine lv_goto (tgt := 4) hx hb dX5_isRound_88 (by decide) ?_
        have zi0 : (0 : Int32).toInt = 0 := by decide
        exact ih79 (v99, 0) H locs ls (by show (302 - v99.toInt).toNat < (302 - v35.toInt).toNat; omega) ⟨hP, hD, hS, lv_sub hl [0, 1, 3, 4] rfl, hT, by omega, by omega⟩
    · skip
      have c94 := i_ne (Eq.refl v92.toInt) (show ((-100) : Int32).toInt = -100 by decide) c94
      refine lv_aload_n hx hb dX5_isRound_26 rfl (lv_at hl 2 rfl) ?_
      refine va_get (D := D) (ci := 5) (v := .ref a84) (C := RX5) (T := TX5) (N := 4) hx hb hg inGX5 hown hKN.1 hP p89 hk90 rfl 3 (by decide) (hg _ kw_292) (fun _ h9 => h9) rfl dX5_isRound_27 ?_
      refine lv_iload_n hx hb dX5_isRound_30 rfl (lv_at hl 0 rfl) ?_
      refine lv_iload_n hx hb dX5_isRound_31 rfl (lv_at hl 3 rfl) ?_
      refine lv_iadd hx hb dX5_isRound_32 ?_
      refine lv_topi (fun v100 ev100 => ?_)
      have hv100 := i_add (Eq.refl v35.toInt) (Eq.refl p1.toInt) ev100 (by omega) (by omega)
      refine tr_ld12 hx hb hKN hP hT h88 (vp_in_iff.mpr ⟨by omega, by omega⟩) dX5_isRound_33 (fun v101 => ?_)
      refine lv_bipush (v := (-100)) hx hb dX5_isRound_34 (by decide) ?_
      have j102 := rgI v101
      refine lv_icmp_eq (tgt := 43) hx hb dX5_isRound_36 (by decide) (fun c103 => ?_) (fun c103 => ?_)
      · skip
        have c103 := i_eq (Eq.refl v101.toInt) (show ((-100) : Int32).toInt = -100 by decide) c103
        refine lv_iconst (v := 0) hx hb dX5_isRound_43 (by decide) ?_
        refine lv_istore (lv' := [(4, .int 0), (3, .int v35), (2, .int v36), (0, .ref p0), (1, .int p1)]) hx hb dX5_isRound_44 hl (by decide) rfl (fun ls hl => ?_)
        refine lv_iload hx hb dX5_isRound_46 (lv_at hl 0 rfl) ?_
        refine lv_if_eq (tgt := 70) hx hb dX5_isRound_48 (by decide) (fun c104 => ?_) (fun c104 => ?_)
        rotate_left
        · exact absurd c104 (by decide)
        refine lv_iload_n hx hb dX5_isRound_70 rfl (lv_at hl 2 rfl) ?_
        refine lv_if_ne (tgt := 79) hx hb dX5_isRound_71 (by decide) (fun c105 => ?_) (fun c105 => ?_)
        · skip
          have c105 := i_ne (Eq.refl v36.toInt) (show (0 : Int32).toInt = 0 by decide) c105
          refine lv_iconst (v := 1) hx hb dX5_isRound_79 (by decide) ?_
          refine lv_goto (tgt := 84) hx hb dX5_isRound_80 (by decide) ?_
          refine lv_istore_n (lv' := [(2, .int 1), (4, .int 0), (3, .int v35), (0, .ref p0), (1, .int p1)]) hx hb dX5_isRound_84 rfl hl (by decide) rfl (fun ls hl => ?_)
          obtain ⟨v106, ev106⟩ : ∃ y : Int32, y = v35 + 1 := ⟨_, rfl⟩
          have hv106 := i_add (Eq.refl v35.toInt) (show (1 : Int32).toInt = 1 by decide) ev106 (by omega) (by omega)
          refine lv_iinc (v := v106) (lv' := [(3, .int v106), (2, .int 1), (4, .int 0), (0, .ref p0), (1, .int p1)]) hx hb dX5_isRound_85 hl (k := 2) rfl (by rw [ev106]; rfl) (by decide) rfl (fun ls hl => ?_)
          refine lv_goto (tgt := 4) hx hb dX5_isRound_88 (by decide) ?_
          have zi1 : (1 : Int32).toInt = 1 := by decide
          have zi0 : (0 : Int32).toInt = 0 := by decide
          exact ih79 (v106, 1) H locs ls (by show (302 - v106.toInt).toNat < (302 - v35.toInt).toNat; omega) ⟨hP, hD, hS, lv_sub hl [0, 1, 3, 4] rfl, hT, by omega, by omega⟩
        · skip
          have c105 := i_eq (Eq.refl v36.toInt) (show (0 : Int32).toInt = 0 by decide) c105
          refine lv_iload hx hb dX5_isRound_74 (lv_at hl 0 rfl) ?_
          refine lv_if_eq (tgt := 83) hx hb dX5_isRound_76 (by decide) (fun c107 => ?_) (fun c107 => ?_)
          rotate_left
          · exact absurd c107 (by decide)
          refine lv_iconst (v := 0) hx hb dX5_isRound_83 (by decide) ?_
          refine lv_istore_n (lv' := [(2, .int 0), (4, .int 0), (3, .int v35), (0, .ref p0), (1, .int p1)]) hx hb dX5_isRound_84 rfl hl (by decide) rfl (fun ls hl => ?_)
          obtain ⟨v108, ev108⟩ : ∃ y : Int32, y = v35 + 1 := ⟨_, rfl⟩
          have hv108 := i_add (Eq.refl v35.toInt) (show (1 : Int32).toInt = 1 by decide) ev108 (by omega) (by omega)
          refine lv_iinc (v := v108) (lv' := [(3, .int v108), (2, .int 0), (4, .int 0), (0, .ref p0), (1, .int p1)]) hx hb dX5_isRound_85 hl (k := 2) rfl (by rw [ev108]; rfl) (by decide) rfl (fun ls hl => ?_)
          refine lv_goto (tgt := 4) hx hb dX5_isRound_88 (by decide) ?_
          have zi0 : (0 : Int32).toInt = 0 := by decide
          exact ih79 (v108, 0) H locs ls (by show (302 - v108.toInt).toNat < (302 - v35.toInt).toNat; omega) ⟨hP, hD, hS, lv_sub hl [0, 1, 3, 4] rfl, hT, by omega, by omega⟩
      · skip
        have c103 := i_ne (Eq.refl v101.toInt) (show ((-100) : Int32).toInt = -100 by decide) c103
        refine lv_iconst (v := 1) hx hb dX5_isRound_39 (by decide) ?_
        refine lv_goto (tgt := 44) hx hb dX5_isRound_40 (by decide) ?_
        refine lv_istore (lv' := [(4, .int 1), (3, .int v35), (2, .int v36), (0, .ref p0), (1, .int p1)]) hx hb dX5_isRound_44 hl (by decide) rfl (fun ls hl => ?_)
        refine lv_iload hx hb dX5_isRound_46 (lv_at hl 0 rfl) ?_
        refine lv_if_eq (tgt := 70) hx hb dX5_isRound_48 (by decide) (fun c109 => ?_) (fun c109 => ?_)
        · exact absurd c109 (by decide)
        refine lv_aload_n hx hb dX5_isRound_51 rfl (lv_at hl 3 rfl) ?_
        refine va_get (D := D) (ci := 5) (v := .ref a84) (C := RX5) (T := TX5) (N := 4) hx hb hg inGX5 hown hKN.1 hP p89 hk90 rfl 3 (by decide) (hg _ kw_292) (fun _ h9 => h9) rfl dX5_isRound_52 ?_
        refine lv_iload_n hx hb dX5_isRound_55 rfl (lv_at hl 1 rfl) ?_
        refine tr_ld12 hx hb hKN hP hT h88 (vp_in_iff.mpr ⟨by omega, by omega⟩) dX5_isRound_56 (fun v110 => ?_)
        refine lv_aload_n hx hb dX5_isRound_57 rfl (lv_at hl 3 rfl) ?_
        refine va_get (D := D) (ci := 5) (v := .ref a84) (C := RX5) (T := TX5) (N := 4) hx hb hg inGX5 hown hKN.1 hP p89 hk90 rfl 3 (by decide) (hg _ kw_292) (fun _ h9 => h9) rfl dX5_isRound_58 ?_
        refine lv_iload_n hx hb dX5_isRound_61 rfl (lv_at hl 1 rfl) ?_
        refine lv_iload_n hx hb dX5_isRound_62 rfl (lv_at hl 4 rfl) ?_
        refine lv_iadd hx hb dX5_isRound_63 ?_
        refine lv_topi (fun v111 ev111 => ?_)
        have hv111 := i_add (Eq.refl v35.toInt) (Eq.refl p1.toInt) ev111 (by omega) (by omega)
        refine tr_ld12 hx hb hKN hP hT h88 (vp_in_iff.mpr ⟨by omega, by omega⟩) dX5_isRound_64 (fun v112 => ?_)
        have j113 := rgI v110
        have j114 := rgI v112
        refine lv_icmp_eq (tgt := 70) hx hb dX5_isRound_65 (by decide) (fun c115 => ?_) (fun c115 => ?_)
        · skip
          have c115 := i_eq (Eq.refl v110.toInt) (Eq.refl v112.toInt) c115
          refine lv_iload_n hx hb dX5_isRound_70 rfl (lv_at hl 2 rfl) ?_
          refine lv_if_ne (tgt := 79) hx hb dX5_isRound_71 (by decide) (fun c116 => ?_) (fun c116 => ?_)
          · skip
            have c116 := i_ne (Eq.refl v36.toInt) (show (0 : Int32).toInt = 0 by decide) c116
            refine lv_iconst (v := 1) hx hb dX5_isRound_79 (by decide) ?_
            refine lv_goto (tgt := 84) hx hb dX5_isRound_80 (by decide) ?_
            refine lv_istore_n (lv' := [(2, .int 1), (4, .int 1), (3, .int v35), (0, .ref p0), (1, .int p1)]) hx hb dX5_isRound_84 rfl hl (by decide) rfl (fun ls hl => ?_)
            obtain ⟨v117, ev117⟩ : ∃ y : Int32, y = v35 + 1 := ⟨_, rfl⟩
            have hv117 := i_add (Eq.refl v35.toInt) (show (1 : Int32).toInt = 1 by decide) ev117 (by omega) (by omega)
            refine lv_iinc (v := v117) (lv' := [(3, .int v117), (2, .int 1), (4, .int 1), (0, .ref p0), (1, .int p1)]) hx hb dX5_isRound_85 hl (k := 2) rfl (by rw [ev117]; rfl) (by decide) rfl (fun ls hl => ?_)
            refine lv_goto (tgt := 4) hx hb dX5_isRound_88 (by decide) ?_
            have zi1 : (1 : Int32).toInt = 1 := by decide
            exact ih79 (v117, 1) H locs ls (by show (302 - v117.toInt).toNat < (302 - v35.toInt).toNat; omega) ⟨hP, hD, hS, lv_sub hl [0, 1, 3, 4] rfl, hT, by omega, by omega⟩
          · skip
            have c116 := i_eq (Eq.refl v36.toInt) (show (0 : Int32).toInt = 0 by decide) c116
            refine lv_iload hx hb dX5_isRound_74 (lv_at hl 0 rfl) ?_
            refine lv_if_eq (tgt := 83) hx hb dX5_isRound_76 (by decide) (fun c118 => ?_) (fun c118 => ?_)
            · exact absurd c118 (by decide)
            refine lv_iconst (v := 1) hx hb dX5_isRound_79 (by decide) ?_
            refine lv_goto (tgt := 84) hx hb dX5_isRound_80 (by decide) ?_
            refine lv_istore_n (lv' := [(2, .int 1), (4, .int 1), (3, .int v35), (0, .ref p0), (1, .int p1)]) hx hb dX5_isRound_84 rfl hl (by decide) rfl (fun ls hl => ?_)
            obtain ⟨v119, ev119⟩ : ∃ y : Int32, y = v35 + 1 := ⟨_, rfl⟩
            have hv119 := i_add (Eq.refl v35.toInt) (show (1 : Int32).toInt = 1 by decide) ev119 (by omega) (by omega)
            refine lv_iinc (v := v119) (lv' := [(3, .int v119), (2, .int 1), (4, .int 1), (0, .ref p0), (1, .int p1)]) hx hb dX5_isRound_85 hl (k := 2) rfl (by rw [ev119]; rfl) (by decide) rfl (fun ls hl => ?_)
            refine lv_goto (tgt := 4) hx hb dX5_isRound_88 (by decide) ?_
            have zi1 : (1 : Int32).toInt = 1 := by decide
            exact ih79 (v119, 1) H locs ls (by show (302 - v119.toInt).toNat < (302 - v35.toInt).toNat; omega) ⟨hP, hD, hS, lv_sub hl [0, 1, 3, 4] rfl, hT, by omega, by omega⟩
        · skip
          have c115 := i_ne (Eq.refl v110.toInt) (Eq.refl v112.toInt) c115
          refine lv_iconst (v := 0) hx hb dX5_isRound_68 (by decide) ?_
          refine W.widen (k := 0) (n := 0) (Nat.le_of_ble_eq_true rfl) (Nat.le_of_ble_eq_true rfl) ?_
          have zi0 : (0 : Int32).toInt = 0 := by decide
          have zi1 : (1 : Int32).toInt = 1 := by decide
          exact W.zret (v := 0) hx hb hr (by decide) (fun t ht hW => ⟨⟨(0), rfl, ((show (0 ≤ (0 : Int32).toInt ∧ (0 : Int32).toInt ≤ 1) by omega)), CB.mk ht hP hD⟩, hS.F ht⟩) hS.2.2 dX5_isRound_69
set_option maxHeartbeats 4000000 in
set_option maxRecDepth 100000 in
theorem x_X5_round (l : Launch) (D : va_G) (Y : Nat → ClassId) (Z : Nat → Nat) (sz : Nat) (ws : va_W) (T : RT) (g : GN) (q : GQ)  (p0 : Nat) (hT : TW Y Z T g q ws) (ht0 : T p0 = (11, 0, 0)) : Met l yX5_round (.code yX5_round cX5_round 2 (some .int) :: GW) ({ frames := 1, cells := 0, slots := 0, locals := 24 }) (va_Pc [.ref p0] (CPC D Y Z ws sz)) (QG (S := Int32) (fun u => some (.int u)) (fun u => True) (fun u => CB D ws (va_A ws sz)) (va_A ws sz)) 0 0 (va_A ws sz) := by
  refine Met.ofW (cc := cX5_round) (maxL := 2) (ret := (some .int)) (by decide) rfl ?_
  intro p e s m args below meth c s₁ B hml hv
  obtain ⟨rfl, ⟨hsz, hP, hKN, hD0⟩, hSZ⟩ := hv
  have hx := B.exec
  have hb := B.bytes
  have hr := B.returns
  have hts := atoms_spec (ws := .code yX5_round cX5_round 2 (some .int) :: GW) B.pre
  have hg : ∀ w ∈ GW, w.before _ s = true := fun w h => hts w (List.mem_cons_of_mem _ h)
  have hown : s.vm.findClass RX5 = some m.cls := findClass_of_methodNamed B.named
  have hlocks := B.notSynchronized
  subst hsz
  have hD := hD0.self (sz := s.heap.size)
  generalize hAe : va_A ws s.heap.size = A at hD hSZ ⊢
  have hA : ∀ q : Nat, s.heap.size ≤ q → A q := fun q h => by rw [← hAe]; exact Or.inr h
  clear hAe hD0 hts B
  have hl := lv_entry ([.ref p0]) (n := 2) (Nat.le_of_ble_eq_true rfl)
  rw [lg_entry_eq]
  generalize (lg_sl ([.ref p0]) ++ List.replicate (2 - (lg_sl ([.ref p0])).length) Slot.unset).toArray = ls at hl ⊢
  have hl : lv_has ls 2 [(0, .ref p0)] := hl
  refine w_start (A0 := A) hP (fun H locs hP hS => ?_)
  refine lv_iconst (v := 1) hx hb dX5_round_0 (by decide) ?_
  refine lv_istore_n (lv' := [(1, .int 1), (0, .ref p0)]) hx hb dX5_round_1 rfl hl (by decide) rfl (fun ls hl => ?_)
  have zi1 : (1 : Int32).toInt = 1 := by decide
  refine w_loop (σ := Int32) (fun xx H locs ls => match xx with | v19 => va_P D vwCl ws H ∧ va_D A ws ∧ va_S A s.heap H locs ∧ lv_has ls 2 [(1, .int v19), (0, .ref p0)] ∧ TW Y Z T g q ws ∧ (1 ≤ v19.toInt ∧ v19.toInt ≤ 21)) (fun xx => match xx with | v19 => (21 - v19.toInt).toNat) (1) ⟨hP, hD, hS, lv_sub hl [0, 1] rfl, hT, by omega⟩ (fun xx H locs ls hI ih => ?_)
  revert hI ih
  generalize xx = v19
  intro hI ih
  obtain ⟨hP, hD, hS, hl, hT, hq39⟩ := hI
  have ih40 := ih
  refine lv_iload_n hx hb dX5_round_2 rfl (lv_at hl 0 rfl) ?_
  refine lv_bipush (v := 20) hx hb dX5_round_3 (by decide) ?_
  refine lv_icmp_gt (tgt := 24) hx hb dX5_round_5 (by decide) (fun c41 => ?_) (fun c41 => ?_)
  · skip
    have c41 := i_lt (show (20 : Int32).toInt = 20 by decide) (Eq.refl v19.toInt) c41
    refine lv_iconst (v := (-1)) hx hb dX5_round_24 (by decide) ?_
    refine W.widen (k := 0) (n := 0) (Nat.le_of_ble_eq_true rfl) (Nat.le_of_ble_eq_true rfl) ?_
    have zim1 : ((-1) : Int32).toInt = -1 := by decide
    exact W.iret (v := (-1)) hx hb hr (fun t ht hW => ⟨⟨((-1)), rfl, trivial, CB.mk ht hP hD⟩, hS.F ht⟩) hS.2.2 dX5_round_25
  · skip
    have c41 := i_nlt (show (20 : Int32).toInt = 20 by decide) (Eq.refl v19.toInt) c41
    refine lv_aload_n hx hb dX5_round_8 rfl (lv_at hl 1 rfl) ?_
    refine lv_iload_n hx hb dX5_round_9 rfl (lv_at hl 0 rfl) ?_
    refine ok11 hT ht0 (fun p50 a42 a43 a44 a45 hk51 h46 h47 h48 h49 => ?_)
    refine cga (rn_V (As := [.int v19]) (rest := []) (b := p0) (x_X5_isRound l D Y Z H.size ws T g q p0 v19 hT ht0 (show (1 ≤ v19.toInt ∧ v19.toInt ≤ 20) by omega)) ⟨hx, hb, hml, hown, hg⟩ lk_X5_105 ⟨CPC.blind, va_recv hKN.1 hP (ci := 5) (q0 := p50) rfl hk51, CPC.at hP hKN hD hSZ hS hA⟩ ⟨⟨rfl, rfl⟩, ⟨Nat.le_of_ble_eq_true rfl, Nat.le_of_ble_eq_true rfl⟩, ⟨(Nat.le_of_ble_eq_true rfl), (Nat.le_of_ble_eq_true rfl)⟩⟩ hl.1 rfl (Nat.le_of_ble_eq_true rfl) dX5_round_10) hP hD hS hA (fun u52 H locs hw53 hP hD hS => ?_)
    have hw55 : (0 ≤ u52.toInt ∧ u52.toInt ≤ 1) := hw53
    refine W.eq (g2 := F0 m 13 ls [.int u52]) rfl ?_
    rcases (show u52.toInt = 1 ∨ u52.toInt = 0 by omega) with c56 | c56
    · obtain rfl : u52 = 1 := i_is c56 (by decide)
      have zi1 : (1 : Int32).toInt = 1 := by decide
      refine W.eq (g2 := F0 m 13 ls [.int 1]) rfl ?_
      refine lv_if_eq (tgt := 18) hx hb dX5_round_13 (by decide) (fun c57 => ?_) (fun c57 => ?_)
      · exact absurd c57 (by decide)
      refine lv_iload_n hx hb dX5_round_16 rfl (lv_at hl 0 rfl) ?_
      refine W.widen (k := 0) (n := 0) (Nat.le_of_ble_eq_true rfl) (Nat.le_of_ble_eq_true rfl) ?_
      exact W.iret (v := v19) hx hb hr (fun t ht hW => ⟨⟨v19, rfl, trivial, CB.mk ht hP hD⟩, hS.F ht⟩) hS.2.2 dX5_round_17
    · obtain rfl : u52 = 0 := i_is c56 (by decide)
      have zi0 : (0 : Int32).toInt = 0 := by decide
      refine W.eq (g2 := F0 m 13 ls [.int 0]) rfl ?_
      refine lv_if_eq (tgt := 18) hx hb dX5_round_13 (by decide) (fun c58 => ?_) (fun c58 => ?_)
      rotate_left
      · exact absurd c58 (by decide)
      obtain ⟨v59, ev59⟩ : ∃ y : Int32, y = v19 + 1 := ⟨_, rfl⟩
      have hv59 := i_add (Eq.refl v19.toInt) (show (1 : Int32).toInt = 1 by decide) ev59 (by omega) (by omega)
      refine lv_iinc (v := v59) (lv' := [(1, .int v59), (0, .ref p0)]) hx hb dX5_round_18 hl (k := 0) rfl (by rw [ev59]; rfl) (by decide) rfl (fun ls hl => ?_)
      refine lv_goto (tgt := 2) hx hb dX5_round_21 (by decide) ?_
      exact ih40 (v59) H locs ls (by show (21 - v59.toInt).toNat < (21 - v19.toInt).toNat; omega) ⟨hP, hD, hS, lv_sub hl [0, 1] rfl, hT, by omega⟩
set_option maxHeartbeats 4000000 in
set_option maxRecDepth 100000 in
theorem x_X5_part (l : Launch) (D : va_G) (Y : Nat → ClassId) (Z : Nat → Nat) (sz : Nat) (ws : va_W) (T : RT) (g : GN) (q : GQ)  (p0 : Nat) (p1 : Int32) (hT : TW Y Z T g q ws) (ht0 : T p0 = (11, 0, 0)) : Met l yX5_part (.code yX5_part cX5_part 2 (some .int) :: GW) ({ frames := 2, cells := 0, slots := 0, locals := 44 }) (va_Pc [.ref p0, .int p1] (CPC D Y Z ws sz)) (QG (S := Int32) (fun u => some (.int u)) (fun u => True) (fun u => CB D ws (va_A ws sz)) (va_A ws sz)) 0 0 (va_A ws sz) := by
  refine Met.ofW (cc := cX5_part) (maxL := 2) (ret := (some .int)) (by decide) rfl ?_
  intro p e s m args below meth c s₁ B hml hv
  obtain ⟨rfl, ⟨hsz, hP, hKN, hD0⟩, hSZ⟩ := hv
  have hx := B.exec
  have hb := B.bytes
  have hr := B.returns
  have hts := atoms_spec (ws := .code yX5_part cX5_part 2 (some .int) :: GW) B.pre
  have hg : ∀ w ∈ GW, w.before _ s = true := fun w h => hts w (List.mem_cons_of_mem _ h)
  have hown : s.vm.findClass RX5 = some m.cls := findClass_of_methodNamed B.named
  have hlocks := B.notSynchronized
  subst hsz
  have hD := hD0.self (sz := s.heap.size)
  generalize hAe : va_A ws s.heap.size = A at hD hSZ ⊢
  have hA : ∀ q : Nat, s.heap.size ≤ q → A q := fun q h => by rw [← hAe]; exact Or.inr h
  clear hAe hD0 hts B
  have hl := lv_entry ([.ref p0, .int p1]) (n := 2) (Nat.le_of_ble_eq_true rfl)
  rw [lg_entry_eq]
  generalize (lg_sl ([.ref p0, .int p1]) ++ List.replicate (2 - (lg_sl ([.ref p0, .int p1])).length) Slot.unset).toArray = ls at hl ⊢
  have hl : lv_has ls 2 [(0, .ref p0), (1, .int p1)] := hl
  refine w_start (A0 := A) hP (fun H locs hP hS => ?_)
  refine lv_iload_n hx hb dX5_part_0 rfl (lv_at hl 1 rfl) ?_
  rcases (show p1.toInt < 0 ∨ 3 < p1.toInt ∨ p1.toInt = 0 ∨ p1.toInt = 1 ∨ p1.toInt = 2 ∨ p1.toInt = 3 by omega) with c1 | c1 | c1 | c1 | c1 | c1
  · refine lv_tableOut (tgt := 63) hx hb dX5_part_1 (Or.inl c1) (by decide) ?_
    refine lv_aload_n hx hb dX5_part_63 rfl (lv_at hl 0 rfl) ?_
    refine ok11 hT ht0 (fun p10 a2 a3 a4 a5 hk11 h6 h7 h8 h9 => ?_)
    refine cga (rn_V (As := []) (rest := []) (b := p0) (x_X5_late l D Y Z H.size ws T g q p0 hT ht0) ⟨hx, hb, hml, hown, hg⟩ lk_X5_88 ⟨CPC.blind, va_recv hKN.1 hP (ci := 5) (q0 := p10) rfl hk11, CPC.at hP hKN hD hSZ hS hA⟩ ⟨⟨rfl, rfl⟩, ⟨Nat.le_of_ble_eq_true rfl, Nat.le_of_ble_eq_true rfl⟩, ⟨(Nat.le_of_ble_eq_true rfl), (Nat.le_of_ble_eq_true rfl)⟩⟩ hl.1 rfl (Nat.le_of_ble_eq_true rfl) dX5_part_64) hP hD hS hA (fun u12 H locs hw13 hP hD hS => ?_)
    refine W.eq (g2 := F0 m 67 ls [.int u12]) rfl ?_
    refine W.widen (k := 0) (n := 0) (Nat.le_of_ble_eq_true rfl) (Nat.le_of_ble_eq_true rfl) ?_
    exact W.iret (v := u12) hx hb hr (fun t ht hW => ⟨⟨u12, rfl, trivial, CB.mk ht hP hD⟩, hS.F ht⟩) hS.2.2 dX5_part_67
  · refine lv_tableOut (tgt := 63) hx hb dX5_part_1 (Or.inr c1) (by decide) ?_
    refine lv_aload_n hx hb dX5_part_63 rfl (lv_at hl 0 rfl) ?_
    refine ok11 hT ht0 (fun p23 a15 a16 a17 a18 hk24 h19 h20 h21 h22 => ?_)
    refine cga (rn_V (As := []) (rest := []) (b := p0) (x_X5_late l D Y Z H.size ws T g q p0 hT ht0) ⟨hx, hb, hml, hown, hg⟩ lk_X5_88 ⟨CPC.blind, va_recv hKN.1 hP (ci := 5) (q0 := p23) rfl hk24, CPC.at hP hKN hD hSZ hS hA⟩ ⟨⟨rfl, rfl⟩, ⟨Nat.le_of_ble_eq_true rfl, Nat.le_of_ble_eq_true rfl⟩, ⟨(Nat.le_of_ble_eq_true rfl), (Nat.le_of_ble_eq_true rfl)⟩⟩ hl.1 rfl (Nat.le_of_ble_eq_true rfl) dX5_part_64) hP hD hS hA (fun u25 H locs hw26 hP hD hS => ?_)
    refine W.eq (g2 := F0 m 67 ls [.int u25]) rfl ?_
    refine W.widen (k := 0) (n := 0) (Nat.le_of_ble_eq_true rfl) (Nat.le_of_ble_eq_true rfl) ?_
    exact W.iret (v := u25) hx hb hr (fun t ht hW => ⟨⟨u25, rfl, trivial, CB.mk ht hP hD⟩, hS.F ht⟩) hS.2.2 dX5_part_67
  · refine lv_tableIn (off := 31) (tgt := 32) hx hb dX5_part_1 (by rw [c1]; decide) (by rw [c1]; decide) (by rw [c1]; rfl) (by decide) ?_
    refine lv_aload_n hx hb dX5_part_32 rfl (lv_at hl 0 rfl) ?_
    refine ok11 hT ht0 (fun p36 a28 a29 a30 a31 hk37 h32 h33 h34 h35 => ?_)
    refine va_get (D := D) (ci := 5) (v := .ref a30) (C := RX5) (T := TX5) (N := 4) hx hb hg inGX5 hown hKN.1 hP p36 hk37 rfl 2 (by decide) (hg _ kw_291) (fun _ h9 => h9) rfl dX5_part_33 ?_
    refine lv_iconst (v := 1) hx hb dX5_part_36 (by decide) ?_
    refine tr_ld12 hx hb hKN hP hT h34 (show ¬ ((1 : Int32) < 0 ∨ 5 ≤ (1 : Int32).toNatClampNeg) by decide) dX5_part_37 (fun v38 => ?_)
    refine W.widen (k := 0) (n := 0) (Nat.le_of_ble_eq_true rfl) (Nat.le_of_ble_eq_true rfl) ?_
    exact W.iret (v := v38) hx hb hr (fun t ht hW => ⟨⟨v38, rfl, trivial, CB.mk ht hP hD⟩, hS.F ht⟩) hS.2.2 dX5_part_38
  · refine lv_tableIn (off := 38) (tgt := 39) hx hb dX5_part_1 (by rw [c1]; decide) (by rw [c1]; decide) (by rw [c1]; rfl) (by decide) ?_
    refine lv_aload_n hx hb dX5_part_39 rfl (lv_at hl 0 rfl) ?_
    refine ok11 hT ht0 (fun p47 a39 a40 a41 a42 hk48 h43 h44 h45 h46 => ?_)
    refine va_get (D := D) (ci := 5) (v := .ref a41) (C := RX5) (T := TX5) (N := 4) hx hb hg inGX5 hown hKN.1 hP p47 hk48 rfl 2 (by decide) (hg _ kw_291) (fun _ h9 => h9) rfl dX5_part_40 ?_
    refine lv_iconst (v := 2) hx hb dX5_part_43 (by decide) ?_
    refine tr_ld12 hx hb hKN hP hT h45 (show ¬ ((2 : Int32) < 0 ∨ 5 ≤ (2 : Int32).toNatClampNeg) by decide) dX5_part_44 (fun v49 => ?_)
    refine W.widen (k := 0) (n := 0) (Nat.le_of_ble_eq_true rfl) (Nat.le_of_ble_eq_true rfl) ?_
    exact W.iret (v := v49) hx hb hr (fun t ht hW => ⟨⟨v49, rfl, trivial, CB.mk ht hP hD⟩, hS.F ht⟩) hS.2.2 dX5_part_45
  · refine lv_tableIn (off := 45) (tgt := 46) hx hb dX5_part_1 (by rw [c1]; decide) (by rw [c1]; decide) (by rw [c1]; rfl) (by decide) ?_
    refine lv_aload_n hx hb dX5_part_46 rfl (lv_at hl 0 rfl) ?_
    refine lv_iconst (v := 1) hx hb dX5_part_47 (by decide) ?_
    refine lv_iconst (v := 2) hx hb dX5_part_48 (by decide) ?_
    have zi1 : (1 : Int32).toInt = 1 := by decide
    have zi2 : (2 : Int32).toInt = 2 := by decide
    refine ok11 hT ht0 (fun p58 a50 a51 a52 a53 hk59 h54 h55 h56 h57 => ?_)
    refine cga (rn_V (As := [.int 1, .int 2]) (rest := []) (b := p0) (x_X5_gap l D Y Z H.size ws T g q p0 1 2 hT ht0 (show (0 ≤ (1 : Int32).toInt ∧ (1 : Int32).toInt ≤ 4) by omega) (show (0 ≤ (2 : Int32).toInt ∧ (2 : Int32).toInt ≤ 4) by omega)) ⟨hx, hb, hml, hown, hg⟩ lk_X5_81 ⟨CPC.blind, va_recv hKN.1 hP (ci := 5) (q0 := p58) rfl hk59, CPC.at hP hKN hD hSZ hS hA⟩ ⟨⟨rfl, rfl⟩, ⟨Nat.le_of_ble_eq_true rfl, Nat.le_of_ble_eq_true rfl⟩, ⟨(Nat.le_of_ble_eq_true rfl), (Nat.le_of_ble_eq_true rfl)⟩⟩ hl.1 rfl (Nat.le_of_ble_eq_true rfl) dX5_part_49) hP hD hS hA (fun u60 H locs hw61 hP hD hS => ?_)
    refine W.eq (g2 := F0 m 52 ls [.int u60]) rfl ?_
    refine cg0 (rn_S (As := [.int u60]) (rest := []) (x_J9_abs_0f7a4 l D Y Z H.size u60) ⟨hx, hb, hml, hown, hg⟩ lk_X5_84 ⟨CP.blind, CP.at nilP hKN (nilD (A := fun _ => True))⟩ ⟨⟨rfl, rfl⟩, ⟨Nat.le_of_ble_eq_true rfl, Nat.le_of_ble_eq_true rfl⟩, ⟨(Nat.le_of_ble_eq_true rfl), (Nat.le_of_ble_eq_true rfl)⟩⟩ hl.1 rfl (Nat.le_of_ble_eq_true rfl) dX5_part_52) hP hS hA (fun u63 H locs hw64 hP hS => ?_)
    refine W.eq (g2 := F0 m 55 ls [.int u63]) rfl ?_
    refine W.widen (k := 0) (n := 0) (Nat.le_of_ble_eq_true rfl) (Nat.le_of_ble_eq_true rfl) ?_
    exact W.iret (v := u63) hx hb hr (fun t ht hW => ⟨⟨u63, rfl, trivial, CB.mk ht hP hD⟩, hS.F ht⟩) hS.2.2 dX5_part_55
  · refine lv_tableIn (off := 55) (tgt := 56) hx hb dX5_part_1 (by rw [c1]; decide) (by rw [c1]; decide) (by rw [c1]; rfl) (by decide) ?_
    refine lv_aload_n hx hb dX5_part_56 rfl (lv_at hl 0 rfl) ?_
    refine lv_iconst (v := 3) hx hb dX5_part_57 (by decide) ?_
    refine lv_iconst (v := 4) hx hb dX5_part_58 (by decide) ?_
    have zi3 : (3 : Int32).toInt = 3 := by decide
    have zi4 : (4 : Int32).toInt = 4 := by decide
    refine ok11 hT ht0 (fun p74 a66 a67 a68 a69 hk75 h70 h71 h72 h73 => ?_)
    refine cga (rn_V (As := [.int 3, .int 4]) (rest := []) (b := p0) (x_X5_gap l D Y Z H.size ws T g q p0 3 4 hT ht0 (show (0 ≤ (3 : Int32).toInt ∧ (3 : Int32).toInt ≤ 4) by omega) (show (0 ≤ (4 : Int32).toInt ∧ (4 : Int32).toInt ≤ 4) by omega)) ⟨hx, hb, hml, hown, hg⟩ lk_X5_81 ⟨CPC.blind, va_recv hKN.1 hP (ci := 5) (q0 := p74) rfl hk75, CPC.at hP hKN hD hSZ hS hA⟩ ⟨⟨rfl, rfl⟩, ⟨Nat.le_of_ble_eq_true rfl, Nat.le_of_ble_eq_true rfl⟩, ⟨(Nat.le_of_ble_eq_true rfl), (Nat.le_of_ble_eq_true rfl)⟩⟩ hl.1 rfl (Nat.le_of_ble_eq_true rfl) dX5_part_59) hP hD hS hA (fun u76 H locs hw77 hP hD hS => ?_)
    refine W.eq (g2 := F0 m 62 ls [.int u76]) rfl ?_
    refine W.widen (k := 0) (n := 0) (Nat.le_of_ble_eq_true rfl) (Nat.le_of_ble_eq_true rfl) ?_
    exact W.iret (v := u76) hx hb hr (fun t ht hW => ⟨⟨u76, rfl, trivial, CB.mk ht hP hD⟩, hS.F ht⟩) hS.2.2 dX5_part_62
set_option maxHeartbeats 4000000 in
set_option maxRecDepth 100000 in
theorem x_X5_readShifts (l : Launch) (D : va_G) (Y : Nat → ClassId) (Z : Nat → Nat) (sz : Nat) (ws : va_W) (T : RT) (g : GN) (q : GQ)  (p0 : Nat) (p1 : Nat) (p2 : Nat) (hT : TW Y Z T g q ws) (ht0 : T p0 = (11, 0, 0)) (ht1 : T p1 = (9, 0, 0)) (ht2 : T p2 = (6, 0, 0)) : Met l yX5_readShifts (.code yX5_readShifts cX5_readShifts 6 none :: GW) ({ frames := 2, cells := 0, slots := 0, locals := 56 }) (va_Pc [.ref p0, .ref p1, .ref p2] (CPC D Y Z ws sz)) (QG (S := va_W) (fun _ => none) (fun u => TW Y Z T g q u ∧ KF 1 T ws u ∧ KF 6 T ws u) (fun u => CB D u (va_A ws sz)) (va_A ws sz)) 0 0 (va_A ws sz) := by
  refine Met.ofW (cc := cX5_readShifts) (maxL := 6) (ret := none) (by decide) rfl ?_
  intro p e s m args below meth c s₁ B hml hv
  obtain ⟨rfl, ⟨hsz, hP, hKN, hD0⟩, hSZ⟩ := hv
  have hx := B.exec
  have hb := B.bytes
  have hr := B.returns
  have hts := atoms_spec (ws := .code yX5_readShifts cX5_readShifts 6 none :: GW) B.pre
  have hg : ∀ w ∈ GW, w.before _ s = true := fun w h => hts w (List.mem_cons_of_mem _ h)
  have hown : s.vm.findClass RX5 = some m.cls := findClass_of_methodNamed B.named
  have hlocks := B.notSynchronized
  subst hsz
  have hD := hD0.self (sz := s.heap.size)
  generalize hAe : va_A ws s.heap.size = A at hD hSZ ⊢
  have hA : ∀ q : Nat, s.heap.size ≤ q → A q := fun q h => by rw [← hAe]; exact Or.inr h
  clear hAe hD0 hts B
  have hl := lv_entry ([.ref p0, .ref p1, .ref p2]) (n := 6) (Nat.le_of_ble_eq_true rfl)
  rw [lg_entry_eq]
  generalize (lg_sl ([.ref p0, .ref p1, .ref p2]) ++ List.replicate (6 - (lg_sl ([.ref p0, .ref p1, .ref p2])).length) Slot.unset).toArray = ls at hl ⊢
  have hl : lv_has ls 6 [(0, .ref p0), (1, .ref p1), (2, .ref p2)] := hl
  refine w_start (A0 := A) hP (fun H locs hP hS => ?_)
  refine lv_iconst (v := 0) hx hb dX5_readShifts_0 (by decide) ?_
  refine lv_istore_n (lv' := [(3, .int 0), (0, .ref p0), (1, .ref p1), (2, .ref p2)]) hx hb dX5_readShifts_1 rfl hl (by decide) rfl (fun ls hl => ?_)
  have zi0 : (0 : Int32).toInt = 0 := by decide
  refine w_loop (σ := Int32 × va_W) (fun xx H locs ls => match xx with | (v61, w62) => va_P D vwCl w62 H ∧ va_D A w62 ∧ va_S A s.heap H locs ∧ lv_has ls 6 [(3, .int v61), (0, .ref p0), (1, .ref p1), (2, .ref p2)] ∧ TW Y Z T g q w62 ∧ KF 1 T ws w62 ∧ KF 6 T ws w62 ∧ (0 ≤ v61.toInt ∧ v61.toInt ≤ 302)) (fun xx => match xx with | (v61, w62) => (302 - v61.toInt).toNat) (0, ws) ⟨hP, hD, hS, lv_sub hl [0, 1, 2, 3] rfl, hT, KF.rf, KF.rf, by omega⟩ (fun xx H locs ls hI ih => ?_)
  obtain ⟨v61, w62⟩ := xx
  obtain ⟨hP, hD, hS, hl, hT, ke126, ke127, hq125⟩ := hI
  have ih128 := ih
  refine lv_iload_n hx hb dX5_readShifts_2 rfl (lv_at hl 0 rfl) ?_
  refine lv_aload_n hx hb dX5_readShifts_3 rfl (lv_at hl 1 rfl) ?_
  refine ok11 hT ht0 (fun p137 a129 a130 a131 a132 hk138 h133 h134 h135 h136 => ?_)
  refine va_get (D := D) (ci := 5) (v := .ref a132) (C := RX5) (T := TX5) (N := 4) hx hb hg inGX5 hown hKN.1 hP p137 hk138 rfl 3 (by decide) (hg _ kw_292) (fun _ h9 => h9) rfl dX5_readShifts_4 ?_
  refine tr_len12 (v := 302) hx hb hKN hP hT h136 rfl dX5_readShifts_7 ?_
  refine lv_icmp_ge (tgt := 70) hx hb dX5_readShifts_8 (by decide) (fun c139 => ?_) (fun c139 => ?_)
  · skip
    have c139 := i_le (show (302 : Int32).toInt = 302 by decide) (Eq.refl v61.toInt) c139
    refine W.widen (k := 0) (n := 0) (Nat.le_of_ble_eq_true rfl) (Nat.le_of_ble_eq_true rfl) ?_
    exact W.vret hx hb hr (fun t ht hW => ⟨⟨w62, rfl, ⟨hT, ke126, ke127⟩, CB.mk ht hP hD⟩, hS.F ht⟩) hS.2.2 dX5_readShifts_70
  · skip
    have c139 := i_nle (show (302 : Int32).toInt = 302 by decide) (Eq.refl v61.toInt) c139
    refine lv_aload_n hx hb dX5_readShifts_11 rfl (lv_at hl 3 rfl) ?_
    refine ok6 hT ht2 (fun p148 x140 x141 x142 x143 x144 y145 y146 hk149 h147 => ?_)
    refine va_getN (D := D) (ci := 1) (v := .int x143) (C := RX1) (T := TX1) (N := 7) hx hb hg inGX1 hown hKN.1 hP p148 hk149 rfl 3 (by decide) (va_Nw.use rfl (hKN.2.1 _ kn_320 rfl)) (fun _ h9 => h9) rfl dX5_readShifts_12 ?_
    refine lv_iload_n hx hb dX5_readShifts_15 rfl (lv_at hl 0 rfl) ?_
    refine lv_iconst (v := 1) hx hb dX5_readShifts_16 (by decide) ?_
    refine lv_isub hx hb dX5_readShifts_17 ?_
    refine lv_topi (fun v150 ev150 => ?_)
    have hv150 := i_sub (Eq.refl v61.toInt) (show (1 : Int32).toInt = 1 by decide) ev150 (by omega) (by omega)
    refine lv_aload_n hx hb dX5_readShifts_18 rfl (lv_at hl 3 rfl) ?_
    refine va_getN (D := D) (ci := 1) (v := .int x141) (C := RX1) (T := TX1) (N := 7) hx hb hg inGX1 hown hKN.1 hP p148 hk149 rfl 1 (by decide) (va_Nw.use rfl (hKN.2.1 _ kn_311 rfl)) (fun _ h9 => h9) rfl dX5_readShifts_19 ?_
    refine lv_imul hx hb dX5_readShifts_22 ?_
    refine lv_topi (fun v151 ev151 => ?_)
    have hv151 := i_mulR (a := -1) (b := 300) (c := 0) (d := 200) (lo := -200) (hi := 60000) (Eq.refl v150.toInt) (Eq.refl x141.toInt) ev151 (by omega) (by omega) (by decide) (by decide)
    refine lv_iadd hx hb dX5_readShifts_23 ?_
    refine lv_topi (fun v152 ev152 => ?_)
    refine lv_istore (lv' := [(4, .int v152), (3, .int v61), (0, .ref p0), (1, .ref p1), (2, .ref p2)]) hx hb dX5_readShifts_24 hl (by decide) rfl (fun ls hl => ?_)
    refine lv_aload_n hx hb dX5_readShifts_26 rfl (lv_at hl 3 rfl) ?_
    refine lv_iload hx hb dX5_readShifts_27 (lv_at hl 0 rfl) ?_
    refine lv_aload_n hx hb dX5_readShifts_29 rfl (lv_at hl 4 rfl) ?_
    refine va_getN (D := D) (ci := 1) (v := .int x142) (C := RX1) (T := TX1) (N := 7) hx hb hg inGX1 hown hKN.1 hP p148 hk149 rfl 2 (by decide) (va_Nw.use rfl (hKN.2.1 _ kn_315 rfl)) (fun _ h9 => h9) rfl dX5_readShifts_30 ?_
    refine ok9 hT ht1 (fun p165 a153 a154 a155 x156 y157 y158 x159 y160 hk166 h161 h162 h163 h164 => ?_)
    refine cga (rn_NV (As := [.int v152, .int x142]) (rest := []) (b := p1) (x_X2_hasNumber l D Y Z H.size w62 T g q p1 v152 x142 hT ht1) ⟨hx, hb, hml, hown, hg⟩ hKN lk_X5_92 ⟨CPC.blind, va_recv hKN.1 hP (ci := 2) (q0 := p165) rfl hk166, CPC.at hP hKN hD hSZ hS hA⟩ ⟨⟨rfl, rfl⟩, ⟨Nat.le_of_ble_eq_true rfl, Nat.le_of_ble_eq_true rfl⟩, ⟨(Nat.le_of_ble_eq_true rfl), (Nat.le_of_ble_eq_true rfl)⟩⟩ hl.1 rfl (Nat.le_of_ble_eq_true rfl) dX5_readShifts_33) hP hD hS hA (fun u167 H locs hw168 hP hD hS => ?_)
    have hw170 : (0 ≤ u167.toInt ∧ u167.toInt ≤ 1) := hw168
    refine W.eq (g2 := F0 m 36 ls [.int u167]) rfl ?_
    refine lv_istore (lv' := [(5, .int u167), (4, .int v152), (3, .int v61), (0, .ref p0), (1, .ref p1), (2, .ref p2)]) hx hb dX5_readShifts_36 hl (by decide) rfl (fun ls hl => ?_)
    refine lv_aload_n hx hb dX5_readShifts_38 rfl (lv_at hl 3 rfl) ?_
    refine va_get (D := D) (ci := 5) (v := .ref a132) (C := RX5) (T := TX5) (N := 4) hx hb hg inGX5 hown hKN.1 hP p137 hk138 rfl 3 (by decide) (hg _ kw_292) (fun _ h9 => h9) rfl dX5_readShifts_39 ?_
    refine lv_iload_n hx hb dX5_readShifts_42 rfl (lv_at hl 2 rfl) ?_
    refine lv_iload hx hb dX5_readShifts_43 (lv_at hl 0 rfl) ?_
    refine lv_if_eq (tgt := 61) hx hb dX5_readShifts_45 (by decide) (fun c171 => ?_) (fun c171 => ?_)
    · skip
      have c171 := i_eq (Eq.refl u167.toInt) (show (0 : Int32).toInt = 0 by decide) c171
      refine lv_bipush (v := (-100)) hx hb dX5_readShifts_61 (by decide) ?_
      have zim100 : ((-100) : Int32).toInt = -100 := by decide
      refine tr_st12 hx hb hKN hP hD hS hT h136 (vp_in_iff.mpr ⟨by omega, by omega⟩) dX5_readShifts_63 (fun w172 H locs hP hD hS hT kp173 => ?_)
      have ke174 : KF 1 T ws w172 := KF.tr ke126 (KF.kp kp173 h136 (by decide))
      have ke175 : KF 6 T ws w172 := KF.tr ke127 (KF.kp kp173 h136 (by decide))
      have hk176 := kp173 _ _ hk138 (rne ht0 h136 (by decide))
      have hk177 := kp173 _ _ hk149 (rne ht2 h136 (by decide))
      have hk178 := kp173 _ _ hk166 (rne ht1 h136 (by decide))
      obtain ⟨v179, ev179⟩ : ∃ y : Int32, y = v61 + 1 := ⟨_, rfl⟩
      have hv179 := i_add (Eq.refl v61.toInt) (show (1 : Int32).toInt = 1 by decide) ev179 (by omega) (by omega)
      refine lv_iinc (v := v179) (lv' := [(3, .int v179), (5, .int u167), (4, .int v152), (0, .ref p0), (1, .ref p1), (2, .ref p2)]) hx hb dX5_readShifts_64 hl (k := 2) rfl (by rw [ev179]; rfl) (by decide) rfl (fun ls hl => ?_)
      refine lv_goto (tgt := 2) hx hb dX5_readShifts_67 (by decide) ?_
      exact ih128 (v179, w172) H locs ls (by show (302 - v179.toInt).toNat < (302 - v61.toInt).toNat; omega) ⟨hP, hD, hS, lv_sub hl [0, 3, 4, 5] rfl, hT, ke174, ke175, by omega⟩
    · skip
      have c171 := i_ne (Eq.refl u167.toInt) (show (0 : Int32).toInt = 0 by decide) c171
      refine lv_aload_n hx hb dX5_readShifts_48 rfl (lv_at hl 4 rfl) ?_
      refine lv_iload hx hb dX5_readShifts_49 (lv_at hl 1 rfl) ?_
      refine lv_aload_n hx hb dX5_readShifts_51 rfl (lv_at hl 5 rfl) ?_
      refine va_getN (D := D) (ci := 1) (v := .int x142) (C := RX1) (T := TX1) (N := 7) hx hb hg inGX1 hown hKN.1 hP p148 hk149 rfl 2 (by decide) (va_Nw.use rfl (hKN.2.1 _ kn_315 rfl)) (fun _ h9 => h9) rfl dX5_readShifts_52 ?_
      refine cga (rn_NV (As := [.int v152, .int x142]) (rest := [.int v61, .ref a132]) (b := p1) (x_X2_shiftOf l D Y Z H.size w62 T g q p1 v152 x142 hT ht1) ⟨hx, hb, hml, hown, hg⟩ hKN lk_X5_96 ⟨CPC.blind, va_recv hKN.1 hP (ci := 2) (q0 := p165) rfl hk166, CPC.at hP hKN hD hSZ hS hA⟩ ⟨⟨rfl, rfl⟩, ⟨Nat.le_of_ble_eq_true rfl, Nat.le_of_ble_eq_true rfl⟩, ⟨(Nat.le_of_ble_eq_true rfl), (Nat.le_of_ble_eq_true rfl)⟩⟩ hl.1 rfl (Nat.le_of_ble_eq_true rfl) dX5_readShifts_55) hP hD hS hA (fun u180 H locs hw181 hP hD hS => ?_)
      refine W.eq (g2 := F0 m 58 ls [.int u180, .int v61, .ref a132]) rfl ?_
      refine lv_goto (tgt := 63) hx hb dX5_readShifts_58 (by decide) ?_
      refine tr_st12 hx hb hKN hP hD hS hT h136 (vp_in_iff.mpr ⟨by omega, by omega⟩) dX5_readShifts_63 (fun w183 H locs hP hD hS hT kp184 => ?_)
      have ke185 : KF 1 T ws w183 := KF.tr ke126 (KF.kp kp184 h136 (by decide))
      have ke186 : KF 6 T ws w183 := KF.tr ke127 (KF.kp kp184 h136 (by decide))
      have hk187 := kp184 _ _ hk138 (rne ht0 h136 (by decide))
      have hk188 := kp184 _ _ hk149 (rne ht2 h136 (by decide))
      have hk189 := kp184 _ _ hk166 (rne ht1 h136 (by decide))
      obtain ⟨v190, ev190⟩ : ∃ y : Int32, y = v61 + 1 := ⟨_, rfl⟩
      have hv190 := i_add (Eq.refl v61.toInt) (show (1 : Int32).toInt = 1 by decide) ev190 (by omega) (by omega)
      refine lv_iinc (v := v190) (lv' := [(3, .int v190), (5, .int u167), (4, .int v152), (0, .ref p0), (1, .ref p1), (2, .ref p2)]) hx hb dX5_readShifts_64 hl (k := 2) rfl (by rw [ev190]; rfl) (by decide) rfl (fun ls hl => ?_)
      refine lv_goto (tgt := 2) hx hb dX5_readShifts_67 (by decide) ?_
      exact ih128 (v190, w183) H locs ls (by show (302 - v190.toInt).toNat < (302 - v61.toInt).toNat; omega) ⟨hP, hD, hS, lv_sub hl [0, 3, 4, 5] rfl, hT, ke185, ke186, by omega⟩
