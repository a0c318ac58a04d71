set_option maxHeartbeats 4000000 in
set_option maxRecDepth 100000 in
theorem x_X3_read (l : Launch) (D : va_G) (Y : Nat → ClassId) (Z : Nat → Nat) (sz : Nat) (ws : va_W) (T : RT) (g : GN) (q : GQ)  (p0 : Nat) (p1 : Nat) (p2 : Int32) (p3 : Int32) (hT : TW Y Z T g q ws) (ht0 : T p0 = (7, 0, 0)) (ht1 : T p1 = (16, 400, 0)) : Met l yX3_read (.code yX3_read cX3_read 5 (some .int) :: GW) ({ frames := 30, cells := 6, slots := 462, locals := 699 }) (va_Pc [.ref p0, .ref p1, .int p2, .int p3] (CPC D Y Z ws sz)) (QG (S := Int32 × va_W × RT) (fun u => some (.int u.1)) (fun u => TLe T u.2.2 ∧ TW Y Z u.2.2 g q u.2.1 ∧ KF 1 T ws u.2.1 ∧ KF 6 T ws u.2.1) (fun u => CB D u.2.1 (va_A ws sz)) (va_A ws sz)) 6 462 (va_A ws sz) := by
  refine Met.ofW (cc := cX3_read) (maxL := 5) (ret := (some .int)) (by decide) rfl ?_
  intro p e s m args below meth c s₁ B hml hv
  obtain ⟨rfl, ⟨hsz, hP, hKN, hD0⟩, hSZ⟩ := hv
  have hx := B.exec
  have hb := B.bytes
  have hr := B.returns
  have hts := atoms_spec (ws := .code yX3_read cX3_read 5 (some .int) :: GW) B.pre
  have hg : ∀ w ∈ GW, w.before _ s = true := fun w h => hts w (List.mem_cons_of_mem _ h)
  have hown : s.vm.findClass RX3 = some m.cls := findClass_of_methodNamed B.named
  have hlocks := B.notSynchronized
  subst hsz
  have hD := hD0.self (sz := s.heap.size)
  generalize hAe : va_A ws s.heap.size = A at hD hSZ ⊢
  have hA : ∀ q : Nat, s.heap.size ≤ q → A q := fun q h => by rw [← hAe]; exact Or.inr h
  clear hAe hD0 hts B
  have hl := lv_entry ([.ref p0, .ref p1, .int p2, .int p3]) (n := 5) (Nat.le_of_ble_eq_true rfl)
  rw [lg_entry_eq]
  generalize (lg_sl ([.ref p0, .ref p1, .int p2, .int p3]) ++ List.replicate (5 - (lg_sl ([.ref p0, .ref p1, .int p2, .int p3])).length) Slot.unset).toArray = ls at hl ⊢
  have hl : lv_has ls 5 [(0, .ref p0), (1, .ref p1), (2, .int p2), (3, .int p3)] := hl
  refine w_start (A0 := A) hP (fun H locs hP hS => ?_)
  refine lv_aload_n hx hb dX3_read_0 rfl (lv_at hl 0 rfl) ?_
  refine lv_aload_n hx hb dX3_read_1 rfl (lv_at hl 1 rfl) ?_
  refine ok7 hT ht0 (fun p21 n1 a2 x3 x4 x5 x6 x7 x8 x9 x10 a11 a12 x13 hk22 h14 h15 h16 h17 h18 h19 h20 => ?_)
  refine va_put (D := D) (ci := 3) (v := .ref p1) (ty := .array .byte) (C := RX3) (T := TX3) (N := 12) hx hb hg inGX3 tyX3 tyX3_ok nmX3 hown hKN.1 hP hD hS p21 hk22 rfl 0 (by decide) (hg _ kw_178) (fun _ h9 => h9) rfl (by decide +kernel) rfl rfl (Nat.le_of_ble_eq_true rfl) dX3_read_2 (fun H locs hP hD2 hS => ?_)
  obtain ⟨w23, hP, hD, hT, hk25, kp24⟩ : ∃ wz, va_P D vwCl wz H ∧ va_D A wz ∧ TW Y Z T g q wz ∧ wz[p21]? = some (p0, .inr (3, [.ref p1, .int x3, .int x4, .int x5, .int x6, .int x7, .int x8, .int x9, .int x10, .ref (Z a11), .ref a12, .int x13])) ∧ Kp p0 ws wz := ⟨_, hP, hD2, st7 hT hD hk22 ht0 ⟨400, p1, x3, x4, x5, x6, x7, x8, x9, x10, a11, a12, x13, rfl, ht1, by omega, by omega, h17, h18, by omega, (by decide)⟩, sw_eq hk22, sw_kp hk22⟩
  have ke26 : KF 1 T ws w23 := KF.tr KF.rf (KF.kp kp24 ht0 (by decide))
  have ke27 : KF 6 T ws w23 := KF.tr KF.rf (KF.kp kp24 ht0 (by decide))
  refine lv_aload_n hx hb dX3_read_5 rfl (lv_at hl 0 rfl) ?_
  refine lv_iload_n hx hb dX3_read_6 rfl (lv_at hl 2 rfl) ?_
  refine lv_aload_n hx hb dX3_read_7 rfl (lv_at hl 1 rfl) ?_
  refine tr_len16 (v := 400) hx hb hKN hP hT ht1 rfl dX3_read_8 ?_
  have zi400 : (400 : Int32).toInt = 400 := by decide
  refine cg0 (rn_S (As := [.int p2, .int 400]) (rest := [.ref p0]) (x_J9_min_7cf53 l D Y Z H.size p2 400) ⟨hx, hb, hml, hown, hg⟩ lk_X3_28 ⟨CP.blind, CP.at nilP hKN (nilD (A := fun _ => True))⟩ ⟨⟨rfl, rfl⟩, ⟨Nat.le_of_ble_eq_true rfl, Nat.le_of_ble_eq_true rfl⟩, ⟨(Nat.le_of_ble_eq_true rfl), (Nat.le_of_ble_eq_true rfl)⟩⟩ hl.1 rfl (Nat.le_of_ble_eq_true rfl) dX3_read_9) hP hS hA (fun u28 H locs hw29 hP hS => ?_)
  obtain ⟨hw31, hw32⟩ : (u28.toInt ≤ p2.toInt ∧ u28.toInt ≤ (400 : Int32).toInt) ∧ (u28.toInt = p2.toInt ∨ u28.toInt = (400 : Int32).toInt) := hw29
  refine W.eq (g2 := F0 m 12 ls [.int u28, .ref p0]) rfl ?_
  refine va_put (D := D) (ci := 3) (v := .int u28) (ty := .int) (C := RX3) (T := TX3) (N := 12) hx hb hg inGX3 tyX3 tyX3_ok nmX3 hown hKN.1 hP hD hS p21 hk25 rfl 1 (by decide) (hg _ kw_179) (fun _ h9 => h9) rfl (by decide +kernel) rfl rfl (Nat.le_of_ble_eq_true rfl) dX3_read_12 (fun H locs hP hD2 hS => ?_)
  obtain ⟨w33, hP, hD, hT, hk35, kp34⟩ : ∃ wz, va_P D vwCl wz H ∧ va_D A wz ∧ TW Y Z T g q wz ∧ wz[p21]? = some (p0, .inr (3, [.ref p1, .int u28, .int x4, .int x5, .int x6, .int x7, .int x8, .int x9, .int x10, .ref (Z a11), .ref a12, .int x13])) ∧ Kp p0 w23 wz := ⟨_, hP, hD2, st7 hT hD hk25 ht0 ⟨400, p1, u28, x4, x5, x6, x7, x8, x9, x10, a11, a12, x13, rfl, ht1, by omega, by omega, h17, h18, by omega, (by decide)⟩, sw_eq hk25, sw_kp hk25⟩
  have ke36 : KF 1 T ws w33 := KF.tr ke26 (KF.kp kp34 ht0 (by decide))
  have ke37 : KF 6 T ws w33 := KF.tr ke27 (KF.kp kp34 ht0 (by decide))
  refine lv_aload_n hx hb dX3_read_15 rfl (lv_at hl 0 rfl) ?_
  refine lv_iconst (v := 0) hx hb dX3_read_16 (by decide) ?_
  refine va_put (D := D) (ci := 3) (v := .int 0) (ty := .int) (C := RX3) (T := TX3) (N := 12) hx hb hg inGX3 tyX3 tyX3_ok nmX3 hown hKN.1 hP hD hS p21 hk35 rfl 2 (by decide) (hg _ kw_180) (fun _ h9 => h9) rfl (by decide +kernel) rfl rfl (Nat.le_of_ble_eq_true rfl) dX3_read_17 (fun H locs hP hD2 hS => ?_)
  have zi0 : (0 : Int32).toInt = 0 := by decide
  obtain ⟨w38, hP, hD, hT, hk40, kp39⟩ : ∃ wz, va_P D vwCl wz H ∧ va_D A wz ∧ TW Y Z T g q wz ∧ wz[p21]? = some (p0, .inr (3, [.ref p1, .int u28, .int 0, .int x5, .int x6, .int x7, .int x8, .int x9, .int x10, .ref (Z a11), .ref a12, .int x13])) ∧ Kp p0 w33 wz := ⟨_, hP, hD2, st7 hT hD hk35 ht0 ⟨400, p1, u28, (0), x5, x6, x7, x8, x9, x10, a11, a12, x13, rfl, ht1, by omega, by omega, h17, h18, by omega, (by decide)⟩, sw_eq hk35, sw_kp hk35⟩
  have ke41 : KF 1 T ws w38 := KF.tr ke36 (KF.kp kp39 ht0 (by decide))
  have ke42 : KF 6 T ws w38 := KF.tr ke37 (KF.kp kp39 ht0 (by decide))
  refine lv_aload_n hx hb dX3_read_20 rfl (lv_at hl 0 rfl) ?_
  refine lv_iconst (v := 0) hx hb dX3_read_21 (by decide) ?_
  refine va_put (D := D) (ci := 3) (v := .int 0) (ty := .int) (C := RX3) (T := TX3) (N := 12) hx hb hg inGX3 tyX3 tyX3_ok nmX3 hown hKN.1 hP hD hS p21 hk40 rfl 6 (by decide) (hg _ kw_184) (fun _ h9 => h9) rfl (by decide +kernel) rfl rfl (Nat.le_of_ble_eq_true rfl) dX3_read_22 (fun H locs hP hD2 hS => ?_)
  obtain ⟨w43, hP, hD, hT, hk45, kp44⟩ : ∃ wz, va_P D vwCl wz H ∧ va_D A wz ∧ TW Y Z T g q wz ∧ wz[p21]? = some (p0, .inr (3, [.ref p1, .int u28, .int 0, .int x5, .int x6, .int x7, .int 0, .int x9, .int x10, .ref (Z a11), .ref a12, .int x13])) ∧ Kp p0 w38 wz := ⟨_, hP, hD2, st7 hT hD hk40 ht0 ⟨400, p1, u28, (0), x5, x6, x7, (0), x9, x10, a11, a12, x13, rfl, ht1, by omega, by omega, h17, h18, by omega, (by decide)⟩, sw_eq hk40, sw_kp hk40⟩
  have ke46 : KF 1 T ws w43 := KF.tr ke41 (KF.kp kp44 ht0 (by decide))
  have ke47 : KF 6 T ws w43 := KF.tr ke42 (KF.kp kp44 ht0 (by decide))
  refine lv_aload_n hx hb dX3_read_25 rfl (lv_at hl 0 rfl) ?_
  refine lv_iconst (v := 0) hx hb dX3_read_26 (by decide) ?_
  refine va_put (D := D) (ci := 3) (v := .int 0) (ty := .int) (C := RX3) (T := TX3) (N := 12) hx hb hg inGX3 tyX3 tyX3_ok nmX3 hown hKN.1 hP hD hS p21 hk45 rfl 7 (by decide) (hg _ kw_185) (fun _ h9 => h9) rfl (by decide +kernel) rfl rfl (Nat.le_of_ble_eq_true rfl) dX3_read_27 (fun H locs hP hD2 hS => ?_)
  obtain ⟨w48, hP, hD, hT, hk50, kp49⟩ : ∃ wz, va_P D vwCl wz H ∧ va_D A wz ∧ TW Y Z T g q wz ∧ wz[p21]? = some (p0, .inr (3, [.ref p1, .int u28, .int 0, .int x5, .int x6, .int x7, .int 0, .int 0, .int x10, .ref (Z a11), .ref a12, .int x13])) ∧ Kp p0 w43 wz := ⟨_, hP, hD2, st7 hT hD hk45 ht0 ⟨400, p1, u28, (0), x5, x6, x7, (0), (0), x10, a11, a12, x13, rfl, ht1, by omega, by omega, h17, h18, by omega, (by decide)⟩, sw_eq hk45, sw_kp hk45⟩
  have ke51 : KF 1 T ws w48 := KF.tr ke46 (KF.kp kp49 ht0 (by decide))
  have ke52 : KF 6 T ws w48 := KF.tr ke47 (KF.kp kp49 ht0 (by decide))
  refine lv_aload_n hx hb dX3_read_30 rfl (lv_at hl 0 rfl) ?_
  refine lv_iconst (v := 0) hx hb dX3_read_31 (by decide) ?_
  refine va_put (D := D) (ci := 3) (v := .int 0) (ty := .int) (C := RX3) (T := TX3) (N := 12) hx hb hg inGX3 tyX3 tyX3_ok nmX3 hown hKN.1 hP hD hS p21 hk50 rfl 8 (by decide) (hg _ kw_186) (fun _ h9 => h9) rfl (by decide +kernel) rfl rfl (Nat.le_of_ble_eq_true rfl) dX3_read_32 (fun H locs hP hD2 hS => ?_)
  obtain ⟨w53, hP, hD, hT, hk55, kp54⟩ : ∃ wz, va_P D vwCl wz H ∧ va_D A wz ∧ TW Y Z T g q wz ∧ wz[p21]? = some (p0, .inr (3, [.ref p1, .int u28, .int 0, .int x5, .int x6, .int x7, .int 0, .int 0, .int 0, .ref (Z a11), .ref a12, .int x13])) ∧ Kp p0 w48 wz := ⟨_, hP, hD2, st7 hT hD hk50 ht0 ⟨400, p1, u28, (0), x5, x6, x7, (0), (0), (0), a11, a12, x13, rfl, ht1, by omega, by omega, h17, h18, by omega, (by decide)⟩, sw_eq hk50, sw_kp hk50⟩
  have ke56 : KF 1 T ws w53 := KF.tr ke51 (KF.kp kp54 ht0 (by decide))
  have ke57 : KF 6 T ws w53 := KF.tr ke52 (KF.kp kp54 ht0 (by decide))
  refine lv_aload_n hx hb dX3_read_35 rfl (lv_at hl 0 rfl) ?_
  refine lv_iload_n hx hb dX3_read_36 rfl (lv_at hl 3 rfl) ?_
  have j58 := rgI p3
  refine lv_if_ne (tgt := 45) hx hb dX3_read_37 (by decide) (fun c59 => ?_) (fun c59 => ?_)
  · skip
    have c59 := i_ne (Eq.refl p3.toInt) (show (0 : Int32).toInt = 0 by decide) c59
    refine va_ldcS (q := Z 2) hx hb hown (hKN.2.2.2 2 (RX3, 52, "beat long deep score dips odd shape same late size") rfl) dX3_read_45 ?_
    refine va_put (D := D) (ci := 3) (v := .ref (Z 2)) (ty := .object "java/lang/String") (C := RX3) (T := TX3) (N := 12) hx hb hg inGX3 tyX3 tyX3_ok nmX3 hown hKN.1 hP hD hS p21 hk55 rfl 9 (by decide) (hg _ kw_187) (fun _ h9 => h9) rfl (by decide +kernel) rfl rfl (Nat.le_of_ble_eq_true rfl) dX3_read_47 (fun H locs hP hD2 hS => ?_)
    obtain ⟨w60, hP, hD, hT, hk62, kp61⟩ : ∃ wz, va_P D vwCl wz H ∧ va_D A wz ∧ TW Y Z T g q wz ∧ wz[p21]? = some (p0, .inr (3, [.ref p1, .int u28, .int 0, .int x5, .int x6, .int x7, .int 0, .int 0, .int 0, .ref (Z 2), .ref a12, .int x13])) ∧ Kp p0 w53 wz := ⟨_, hP, hD2, st7 hT hD hk55 ht0 ⟨400, p1, u28, (0), x5, x6, x7, (0), (0), (0), 2, a12, x13, rfl, ht1, by omega, by omega, (by decide), h18, by omega, (by decide)⟩, sw_eq hk55, sw_kp hk55⟩
    have ke63 : KF 1 T ws w60 := KF.tr ke56 (KF.kp kp61 ht0 (by decide))
    have ke64 : KF 6 T ws w60 := KF.tr ke57 (KF.kp kp61 ht0 (by decide))
    refine lv_aload_n hx hb dX3_read_50 rfl (lv_at hl 0 rfl) ?_
    refine va_get (D := D) (ci := 3) (v := .int x13) (C := RX3) (T := TX3) (N := 12) hx hb hg inGX3 hown hKN.1 hP p21 hk62 rfl 11 (by decide) (hg _ kw_189) (fun _ h9 => h9) rfl dX3_read_51 ?_
    refine lv_if_eq (tgt := 73) hx hb dX3_read_54 (by decide) (fun c65 => ?_) (fun c65 => ?_)
    · skip
      have c65 := i_eq (Eq.refl x13.toInt) (show (0 : Int32).toInt = 0 by decide) c65
      refine lv_aload_n hx hb dX3_read_73 rfl (lv_at hl 0 rfl) ?_
      refine va_get (D := D) (ci := 3) (v := .ref a12) (C := RX3) (T := TX3) (N := 12) hx hb hg inGX3 hown hKN.1 hP p21 hk62 rfl 10 (by decide) (hg _ kw_188) (fun _ h9 => h9) rfl dX3_read_74 ?_
      refine ok5 hT h18 (fun p87 x66 x67 x68 x69 x70 x71 x72 x73 a74 a75 a76 a77 a78 x79 hk88 h80 h81 h82 h83 h84 h85 h86 => ?_)
      refine cga (rn_NV (As := []) (rest := []) (b := a12) (x_X8_begin l D Y Z H.size w60 T g q a12 hT h18) ⟨hx, hb, hml, hown, hg⟩ hKN lk_X3_58 ⟨CPC.blind, va_recv hKN.1 hP (ci := 8) (q0 := p87) rfl hk88, CPC.at hP hKN hD hSZ hS hA⟩ ⟨⟨rfl, rfl⟩, ⟨Nat.le_of_ble_eq_true rfl, Nat.le_of_ble_eq_true rfl⟩, ⟨(Nat.le_of_ble_eq_true rfl), (Nat.le_of_ble_eq_true rfl)⟩⟩ hl.1 rfl (Nat.le_of_ble_eq_true rfl) dX3_read_77) hP hD hS hA (fun u89 H locs hw90 hP hD hS => ?_)
      obtain ⟨hT, ke92, ke93⟩ : TW Y Z T g q u89 ∧ KF 1 T w60 u89 ∧ KF 6 T w60 u89 := hw90
      have ke94 : KF 1 T ws u89 := KF.tr ke63 ke92
      have ke95 : KF 6 T ws u89 := KF.tr ke64 ke93
      refine W.eq (g2 := F0 m 80 ls []) rfl ?_
      refine lv_aload_n hx hb dX3_read_80 rfl (lv_at hl 0 rfl) ?_
      refine ok7 hT ht0 (fun p116 n96 a97 x98 x99 x100 x101 x102 x103 x104 x105 a106 a107 x108 hk117 h109 h110 h111 h112 h113 h114 h115 => ?_)
      refine cga (rn_V (As := []) (rest := []) (b := p0) (x_X3_step l D Y Z H.size u89 T g q p0 hT ht0) ⟨hx, hb, hml, hown, hg⟩ lk_X3_61 ⟨CPC.blind, va_recv hKN.1 hP (ci := 3) (q0 := p116) rfl hk117, CPC.at hP hKN hD hSZ hS hA⟩ ⟨⟨rfl, rfl⟩, ⟨Nat.le_of_ble_eq_true rfl, Nat.le_of_ble_eq_true rfl⟩, ⟨(Nat.le_of_ble_eq_true rfl), (Nat.le_of_ble_eq_true rfl)⟩⟩ hl.1 rfl (Nat.le_of_ble_eq_true rfl) dX3_read_81) hP hD hS hA (fun u118 H locs hw119 hP hD hS => ?_)
      obtain ⟨hT, ke121, ke122⟩ : TW Y Z T g q u118 ∧ KF 1 T u89 u118 ∧ KF 6 T u89 u118 := hw119
      have ke123 : KF 1 T ws u118 := KF.tr ke94 ke121
      have ke124 : KF 6 T ws u118 := KF.tr ke95 ke122
      refine W.eq (g2 := F0 m 84 ls []) rfl ?_
      refine lv_iconst (v := 0) hx hb dX3_read_84 (by decide) ?_
      refine lv_istore (lv' := [(4, .int 0), (0, .ref p0), (1, .ref p1), (2, .int p2), (3, .int p3)]) hx hb dX3_read_85 hl (by decide) rfl (fun ls hl => ?_)
      refine w_loop (σ := Int32 × va_W) (fun xx H locs ls => match xx with | (v190, w191) => va_P D vwCl w191 H ∧ va_D A w191 ∧ va_S A s.heap H locs ∧ lv_has ls 5 [(4, .int v190), (0, .ref p0), (1, .ref p1), (2, .int p2), (3, .int p3)] ∧ TW Y Z T g q w191 ∧ KF 1 T ws w191 ∧ KF 6 T ws w191 ∧ (0 ≤ v190.toInt ∧ v190.toInt ≤ 401)) (fun xx => match xx with | (v190, w191) => (401 - v190.toInt).toNat) (0, u118) ⟨hP, hD, hS, lv_sub hl [0, 1, 2, 3, 4] rfl, hT, ke123, ke124, by omega⟩ (fun xx H locs ls hI ih => ?_)
      obtain ⟨v190, w191⟩ := xx
      obtain ⟨hP, hD, hS, hl, hT, ke259, ke260, hq258⟩ := hI
      have ih261 := ih
      refine lv_iload hx hb dX3_read_87 (lv_at hl 0 rfl) ?_
      refine lv_sipush (v := 400) hx hb dX3_read_89 (by decide) ?_
      refine lv_icmp_gt (tgt := 141) hx hb dX3_read_92 (by decide) (fun c262 => ?_) (fun c262 => ?_)
      · skip
        have c262 := i_lt (show (400 : Int32).toInt = 400 by decide) (Eq.refl v190.toInt) c262
        refine lv_aload_n hx hb dX3_read_141 rfl (lv_at hl 1 rfl) ?_
        refine ok7 hT ht0 (fun p283 n263 a264 x265 x266 x267 x268 x269 x270 x271 x272 a273 a274 x275 hk284 h276 h277 h278 h279 h280 h281 h282 => ?_)
        refine va_get (D := D) (ci := 3) (v := .int x270) (C := RX3) (T := TX3) (N := 12) hx hb hg inGX3 hown hKN.1 hP p283 hk284 rfl 6 (by decide) (hg _ kw_184) (fun _ h9 => h9) rfl dX3_read_142 ?_
        refine W.widen (k := 6) (n := 462) (Nat.le_of_ble_eq_true rfl) (Nat.le_of_ble_eq_true rfl) ?_
        exact W.iret (v := x270) hx hb hr (fun t ht hW => ⟨⟨(x270, w191, T), rfl, ⟨TLe.rf, hT, ke259, ke260⟩, CB.mk ht hP hD⟩, hS.F ht⟩) hS.2.2 dX3_read_145
      · skip
        have c262 := i_nlt (show (400 : Int32).toInt = 400 by decide) (Eq.refl v190.toInt) c262
        refine lv_aload_n hx hb dX3_read_95 rfl (lv_at hl 1 rfl) ?_
        refine ok7 hT ht0 (fun p305 n285 a286 x287 x288 x289 x290 x291 x292 x293 x294 a295 a296 x297 hk306 h298 h299 h300 h301 h302 h303 h304 => ?_)
        refine va_get (D := D) (ci := 3) (v := .int x292) (C := RX3) (T := TX3) (N := 12) hx hb hg inGX3 hown hKN.1 hP p305 hk306 rfl 6 (by decide) (hg _ kw_184) (fun _ h9 => h9) rfl dX3_read_96 ?_
        have j307 := rgI x292
        refine lv_if_ne (tgt := 141) hx hb dX3_read_99 (by decide) (fun c308 => ?_) (fun c308 => ?_)
        · skip
          have c308 := i_ne (Eq.refl x292.toInt) (show (0 : Int32).toInt = 0 by decide) c308
          refine lv_aload_n hx hb dX3_read_141 rfl (lv_at hl 1 rfl) ?_
          refine va_get (D := D) (ci := 3) (v := .int x292) (C := RX3) (T := TX3) (N := 12) hx hb hg inGX3 hown hKN.1 hP p305 hk306 rfl 6 (by decide) (hg _ kw_184) (fun _ h9 => h9) rfl dX3_read_142 ?_
          refine W.widen (k := 6) (n := 462) (Nat.le_of_ble_eq_true rfl) (Nat.le_of_ble_eq_true rfl) ?_
          exact W.iret (v := x292) hx hb hr (fun t ht hW => ⟨⟨(x292, w191, T), rfl, ⟨TLe.rf, hT, ke259, ke260⟩, CB.mk ht hP hD⟩, hS.F ht⟩) hS.2.2 dX3_read_145
        · skip
          have c308 := i_eq (Eq.refl x292.toInt) (show (0 : Int32).toInt = 0 by decide) c308
          refine lv_aload_n hx hb dX3_read_102 rfl (lv_at hl 1 rfl) ?_
          refine lv_iload_n hx hb dX3_read_103 rfl (lv_at hl 4 rfl) ?_
          refine lv_iload hx hb dX3_read_104 (lv_at hl 0 rfl) ?_
          refine cga (rn_V (As := [.int p3, .int v190]) (rest := []) (b := p0) (x_X3_readClause l D Y Z H.size w191 T g q p0 p3 v190 hT ht0) ⟨hx, hb, hml, hown, hg⟩ lk_X3_64 ⟨CPC.blind, va_recv hKN.1 hP (ci := 3) (q0 := p305) rfl hk306, CPC.at hP hKN hD hSZ hS hA⟩ ⟨⟨rfl, rfl⟩, ⟨Nat.le_of_ble_eq_true rfl, Nat.le_of_ble_eq_true rfl⟩, ⟨(Nat.le_of_ble_eq_true rfl), (Nat.le_of_ble_eq_true rfl)⟩⟩ hl.1 rfl (Nat.le_of_ble_eq_true rfl) dX3_read_106) hP hD hS hA (fun u309 H locs hw310 hP hD hS => ?_)
          obtain ⟨hT, ke312, ke313⟩ : TW Y Z T g q u309 ∧ KF 1 T w191 u309 ∧ KF 6 T w191 u309 := hw310
          have ke314 : KF 1 T ws u309 := KF.tr ke259 ke312
          have ke315 : KF 6 T ws u309 := KF.tr ke260 ke313
          refine W.eq (g2 := F0 m 109 ls []) rfl ?_
          refine lv_aload_n hx hb dX3_read_109 rfl (lv_at hl 1 rfl) ?_
          refine ok7 hT ht0 (fun p336 n316 a317 x318 x319 x320 x321 x322 x323 x324 x325 a326 a327 x328 hk337 h329 h330 h331 h332 h333 h334 h335 => ?_)
          refine va_get (D := D) (ci := 3) (v := .int x323) (C := RX3) (T := TX3) (N := 12) hx hb hg inGX3 hown hKN.1 hP p336 hk337 rfl 6 (by decide) (hg _ kw_184) (fun _ h9 => h9) rfl dX3_read_110 ?_
          have j338 := rgI x323
          refine lv_if_ne (tgt := 141) hx hb dX3_read_113 (by decide) (fun c339 => ?_) (fun c339 => ?_)
          · skip
            have c339 := i_ne (Eq.refl x323.toInt) (show (0 : Int32).toInt = 0 by decide) c339
            refine lv_aload_n hx hb dX3_read_141 rfl (lv_at hl 1 rfl) ?_
            refine va_get (D := D) (ci := 3) (v := .int x323) (C := RX3) (T := TX3) (N := 12) hx hb hg inGX3 hown hKN.1 hP p336 hk337 rfl 6 (by decide) (hg _ kw_184) (fun _ h9 => h9) rfl dX3_read_142 ?_
            refine W.widen (k := 6) (n := 462) (Nat.le_of_ble_eq_true rfl) (Nat.le_of_ble_eq_true rfl) ?_
            exact W.iret (v := x323) hx hb hr (fun t ht hW => ⟨⟨(x323, u309, T), rfl, ⟨TLe.rf, hT, ke314, ke315⟩, CB.mk ht hP hD⟩, hS.F ht⟩) hS.2.2 dX3_read_145
          · skip
            have c339 := i_eq (Eq.refl x323.toInt) (show (0 : Int32).toInt = 0 by decide) c339
            refine lv_aload_n hx hb dX3_read_116 rfl (lv_at hl 1 rfl) ?_
            refine va_get (D := D) (ci := 3) (v := .int x320) (C := RX3) (T := TX3) (N := 12) hx hb hg inGX3 hown hKN.1 hP p336 hk337 rfl 3 (by decide) (hg _ kw_181) (fun _ h9 => h9) rfl dX3_read_117 ?_
            refine lv_sipush (v := 256) hx hb dX3_read_120 (by decide) ?_
            have j340 := rgI x320
            refine lv_icmp_ne (tgt := 129) hx hb dX3_read_123 (by decide) (fun c341 => ?_) (fun c341 => ?_)
            · skip
              have c341 := i_ne (Eq.refl x320.toInt) (show (256 : Int32).toInt = 256 by decide) c341
              refine lv_aload_n hx hb dX3_read_129 rfl (lv_at hl 1 rfl) ?_
              refine lv_bipush (v := 59) hx hb dX3_read_130 (by decide) ?_
              have zi59 : (59 : Int32).toInt = 59 := by decide
              refine cga (rn_V (As := [.int 59]) (rest := []) (b := p0) (x_X3_expect l D Y Z H.size u309 T g q p0 59 hT ht0) ⟨hx, hb, hml, hown, hg⟩ lk_X3_71 ⟨CPC.blind, va_recv hKN.1 hP (ci := 3) (q0 := p336) rfl hk337, CPC.at hP hKN hD hSZ hS hA⟩ ⟨⟨rfl, rfl⟩, ⟨Nat.le_of_ble_eq_true rfl, Nat.le_of_ble_eq_true rfl⟩, ⟨(Nat.le_of_ble_eq_true rfl), (Nat.le_of_ble_eq_true rfl)⟩⟩ hl.1 rfl (Nat.le_of_ble_eq_true rfl) dX3_read_132) hP hD hS hA (fun u342 H locs hw343 hP hD hS => ?_)
              obtain ⟨hT, ke345, ke346⟩ : TW Y Z T g q u342 ∧ KF 1 T u309 u342 ∧ KF 6 T u309 u342 := hw343
              have ke347 : KF 1 T ws u342 := KF.tr ke314 ke345
              have ke348 : KF 6 T ws u342 := KF.tr ke315 ke346
              refine W.eq (g2 := F0 m 135 ls []) rfl ?_
              obtain ⟨v349, ev349⟩ : ∃ y : Int32, y = v190 + 1 := ⟨_, rfl⟩
              have hv349 := i_add (Eq.refl v190.toInt) (show (1 : Int32).toInt = 1 by decide) ev349 (by omega) (by omega)
              refine lv_iinc (v := v349) (lv' := [(4, .int v349), (0, .ref p0), (1, .ref p1), (2, .int p2), (3, .int p3)]) hx hb dX3_read_135 hl (k := 0) rfl (by rw [ev349]; rfl) (by decide) rfl (fun ls hl => ?_)
              refine lv_goto (tgt := 87) hx hb dX3_read_138 (by decide) ?_
              exact ih261 (v349, u342) H locs ls (by show (401 - v349.toInt).toNat < (401 - v190.toInt).toNat; omega) ⟨hP, hD, hS, lv_sub hl [0, 1, 2, 3, 4] rfl, hT, ke347, ke348, by omega⟩
            · skip
              have c341 := i_eq (Eq.refl x320.toInt) (show (256 : Int32).toInt = 256 by decide) c341
              refine lv_goto (tgt := 141) hx hb dX3_read_126 (by decide) ?_
              refine lv_aload_n hx hb dX3_read_141 rfl (lv_at hl 1 rfl) ?_
              refine va_get (D := D) (ci := 3) (v := .int x323) (C := RX3) (T := TX3) (N := 12) hx hb hg inGX3 hown hKN.1 hP p336 hk337 rfl 6 (by decide) (hg _ kw_184) (fun _ h9 => h9) rfl dX3_read_142 ?_
              refine W.widen (k := 6) (n := 462) (Nat.le_of_ble_eq_true rfl) (Nat.le_of_ble_eq_true rfl) ?_
              exact W.iret (v := x323) hx hb hr (fun t ht hW => ⟨⟨(x323, u309, T), rfl, ⟨TLe.rf, hT, ke314, ke315⟩, CB.mk ht hP hD⟩, hS.F ht⟩) hS.2.2 dX3_read_145
    · skip
      have c65 := i_ne (Eq.refl x13.toInt) (show (0 : Int32).toInt = 0 by decide) c65
      refine lv_aload_n hx hb dX3_read_57 rfl (lv_at hl 0 rfl) ?_
      refine va_new (ci := 8) (fs := (.int 0 :: .int 0 :: .int 0 :: .int 0 :: .int 0 :: .int 0 :: .int 0 :: .int 0 :: .null :: .null :: .null :: .null :: .null :: .int 0 :: [])) (C := RX8) (T := TX8) (N := 14) hx hb hg inGX8 tyX8 tyX8_ok hown (hg _ kw_108) (hg _ kw_109) (hg _ kw_4) hKN.1 hP hD hS hA rfl (fun j hj => by rcases (show j = 0 ∨ j = 1 ∨ j = 2 ∨ j = 3 ∨ j = 4 ∨ j = 5 ∨ j = 6 ∨ j = 7 ∨ j = 8 ∨ j = 9 ∨ j = 10 ∨ j = 11 ∨ j = 12 ∨ j = 13 by omega) with rfl | rfl | rfl | rfl | rfl | rfl | rfl | rfl | rfl | rfl | rfl | rfl | rfl | rfl <;> rfl) (Nat.le_of_ble_eq_true rfl) (Nat.le_of_ble_eq_true rfl) dX3_read_58 (fun b350 H hP hD hS => ?_)
      refine W.widen (k := 1) (n := 14) (Nat.le_of_ble_eq_true rfl) (Nat.le_of_ble_eq_true rfl) ?_
      refine lv_dup hx hb dX3_read_61 rfl ?_
      have hP351 : va_P D vwCl [(b350, .inr (8, (.int 0 :: .int 0 :: .int 0 :: .int 0 :: .int 0 :: .int 0 :: .int 0 :: .int 0 :: .null :: .null :: .null :: .null :: .null :: .int 0 :: [])))] H := va_P.last hP
      have hD352 : va_D A [(b350, .inr (8, (.int 0 :: .int 0 :: .int 0 :: .int 0 :: .int 0 :: .int 0 :: .int 0 :: .int 0 :: .null :: .null :: .null :: .null :: .null :: .int 0 :: [])))] := va_D.last hD
      refine cgn (rn_NI (As := []) (rest := [.ref b350, .ref p0]) (b := b350) (c_X8 l D Y Z H.size b350  ) ⟨hx, hb, hml, hown, hg⟩ hKN lk_X3_23 ⟨CP.blind, CP.at hP351 hKN hD352⟩ ⟨⟨rfl, rfl⟩, ⟨Nat.le_of_ble_eq_true rfl, Nat.le_of_ble_eq_true rfl⟩, ⟨(Nat.le_of_ble_eq_true rfl), (Nat.le_of_ble_eq_true rfl)⟩⟩ hl.1 rfl (Nat.le_of_ble_eq_true rfl) dX3_read_62) hP hD hS hA (fun u353 H locs hw354 hP hD hS => ?_)
      refine W.widen (k := 6) (n := 462) (Nat.le_of_ble_eq_true rfl) (Nat.le_of_ble_eq_true rfl) ?_
      refine W.eq (g2 := F0 m 65 ls [.ref b350, .ref p0]) rfl ?_
      obtain ⟨w356, T355, hP, hD, hT, le357, ht358, ex359⟩ := nw_X8  hT hP hD
      have ke360 : KF 1 T ws w356 := KF.tr ke63 (KF.ex ex359.1)
      have ke361 : KF 6 T ws w356 := KF.tr ke64 (KF.ex ex359.1)
      have hk362 := ex359.1 _ _ hk62
      refine va_put (D := D) (ci := 3) (v := .ref b350) (ty := .object "DimStars$Text") (C := RX3) (T := TX3) (N := 12) hx hb hg inGX3 tyX3 tyX3_ok nmX3 hown hKN.1 hP hD hS p21 hk362 rfl 10 (by decide) (hg _ kw_188) (fun _ h9 => h9) rfl (by decide +kernel) rfl rfl (Nat.le_of_ble_eq_true rfl) dX3_read_65 (fun H locs hP hD2 hS => ?_)
      obtain ⟨w363, hP, hD, hT, hk365, kp364⟩ : ∃ wz, va_P D vwCl wz H ∧ va_D A wz ∧ TW Y Z T355 g q wz ∧ wz[p21]? = some (p0, .inr (3, [.ref p1, .int u28, .int 0, .int x5, .int x6, .int x7, .int 0, .int 0, .int 0, .ref (Z 2), .ref b350, .int x13])) ∧ Kp p0 w356 wz := ⟨_, hP, hD2, st7 hT hD hk362 (le357.up ht0) ⟨400, p1, u28, (0), x5, x6, x7, (0), (0), (0), 2, b350, x13, rfl, (le357.up ht1), by omega, by omega, (by decide), ht358, by omega, (by decide)⟩, sw_eq hk362, sw_kp hk362⟩
      have ke366 : KF 1 T ws w363 := KF.tr ke360 (KF.le (by decide) le357 (KF.kp kp364 (le357.up ht0) (by decide)))
      have ke367 : KF 6 T ws w363 := KF.tr ke361 (KF.le (by decide) le357 (KF.kp kp364 (le357.up ht0) (by decide)))
      refine lv_aload_n hx hb dX3_read_68 rfl (lv_at hl 0 rfl) ?_
      refine lv_iconst (v := 0) hx hb dX3_read_69 (by decide) ?_
      refine va_put (D := D) (ci := 3) (v := .int 0) (ty := .boolean) (C := RX3) (T := TX3) (N := 12) hx hb hg inGX3 tyX3 tyX3_ok nmX3 hown hKN.1 hP hD hS p21 hk365 rfl 11 (by decide) (hg _ kw_189) (fun _ h9 => h9) rfl (by decide +kernel) rfl rfl (Nat.le_of_ble_eq_true rfl) dX3_read_70 (fun H locs hP hD2 hS => ?_)
      obtain ⟨w368, hP, hD, hT, hk370, kp369⟩ : ∃ wz, va_P D vwCl wz H ∧ va_D A wz ∧ TW Y Z T355 g q wz ∧ wz[p21]? = some (p0, .inr (3, [.ref p1, .int u28, .int 0, .int x5, .int x6, .int x7, .int 0, .int 0, .int 0, .ref (Z 2), .ref b350, .int 0])) ∧ Kp p0 w363 wz := ⟨_, hP, hD2, st7 hT hD hk365 (le357.up ht0) ⟨400, p1, u28, (0), x5, x6, x7, (0), (0), (0), 2, b350, (0), rfl, (le357.up ht1), by omega, by omega, (by decide), ht358, by omega, (by decide)⟩, sw_eq hk365, sw_kp hk365⟩
      have ke371 : KF 1 T ws w368 := KF.tr ke366 (KF.le (by decide) le357 (KF.kp kp369 (le357.up ht0) (by decide)))
      have ke372 : KF 6 T ws w368 := KF.tr ke367 (KF.le (by decide) le357 (KF.kp kp369 (le357.up ht0) (by decide)))
      refine lv_aload_n hx hb dX3_read_73 rfl (lv_at hl 0 rfl) ?_
      refine va_get (D := D) (ci := 3) (v := .ref b350) (C := RX3) (T := TX3) (N := 12) hx hb hg inGX3 hown hKN.1 hP p21 hk370 rfl 10 (by decide) (hg _ kw_188) (fun _ h9 => h9) rfl dX3_read_74 ?_
      refine ok5 hT ht358 (fun p394 x373 x374 x375 x376 x377 x378 x379 x380 a381 a382 a383 a384 a385 x386 hk395 h387 h388 h389 h390 h391 h392 h393 => ?_)
      refine cga (rn_NV (As := []) (rest := []) (b := b350) (x_X8_begin l D Y Z H.size w368 T355 g q b350 hT ht358) ⟨hx, hb, hml, hown, hg⟩ hKN lk_X3_58 ⟨CPC.blind, va_recv hKN.1 hP (ci := 8) (q0 := p394) rfl hk395, CPC.at hP hKN hD hSZ hS hA⟩ ⟨⟨rfl, rfl⟩, ⟨Nat.le_of_ble_eq_true rfl, Nat.le_of_ble_eq_true rfl⟩, ⟨(Nat.le_of_ble_eq_true rfl), (Nat.le_of_ble_eq_true rfl)⟩⟩ hl.1 rfl (Nat.le_of_ble_eq_true rfl) dX3_read_77) hP hD hS hA (fun u396 H locs hw397 hP hD hS => ?_)
      obtain ⟨hT, ke399, ke400⟩ : TW Y Z T355 g q u396 ∧ KF 1 T355 w368 u396 ∧ KF 6 T355 w368 u396 := hw397
      have ke401 : KF 1 T ws u396 := KF.tr ke371 (KF.le (by decide) le357 ke399)
      have ke402 : KF 6 T ws u396 := KF.tr ke372 (KF.le (by decide) le357 ke400)
      refine W.eq (g2 := F0 m 80 ls []) rfl ?_
      refine lv_aload_n hx hb dX3_read_80 rfl (lv_at hl 0 rfl) ?_
      refine ok7 hT (le357.up ht0) (fun p423 n403 a404 x405 x406 x407 x408 x409 x410 x411 x412 a413 a414 x415 hk424 h416 h417 h418 h419 h420 h421 h422 => ?_)
      refine cga (rn_V (As := []) (rest := []) (b := p0) (x_X3_step l D Y Z H.size u396 T355 g q p0 hT (le357.up ht0)) ⟨hx, hb, hml, hown, hg⟩ lk_X3_61 ⟨CPC.blind, va_recv hKN.1 hP (ci := 3) (q0 := p423) rfl hk424, CPC.at hP hKN hD hSZ hS hA⟩ ⟨⟨rfl, rfl⟩, ⟨Nat.le_of_ble_eq_true rfl, Nat.le_of_ble_eq_true rfl⟩, ⟨(Nat.le_of_ble_eq_true rfl), (Nat.le_of_ble_eq_true rfl)⟩⟩ hl.1 rfl (Nat.le_of_ble_eq_true rfl) dX3_read_81) hP hD hS hA (fun u425 H locs hw426 hP hD hS => ?_)
      obtain ⟨hT, ke428, ke429⟩ : TW Y Z T355 g q u425 ∧ KF 1 T355 u396 u425 ∧ KF 6 T355 u396 u425 := hw426
      have ke430 : KF 1 T ws u425 := KF.tr ke401 (KF.le (by decide) le357 ke428)
      have ke431 : KF 6 T ws u425 := KF.tr ke402 (KF.le (by decide) le357 ke429)
      refine W.eq (g2 := F0 m 84 ls []) rfl ?_
      refine lv_iconst (v := 0) hx hb dX3_read_84 (by decide) ?_
      refine lv_istore (lv' := [(4, .int 0), (0, .ref p0), (1, .ref p1), (2, .int p2), (3, .int p3)]) hx hb dX3_read_85 hl (by decide) rfl (fun ls hl => ?_)
      refine w_loop (σ := Int32 × va_W) (fun xx H locs ls => match xx with | (v497, w498) => va_P D vwCl w498 H ∧ va_D A w498 ∧ va_S A s.heap H locs ∧ lv_has ls 5 [(4, .int v497), (0, .ref p0), (1, .ref p1), (2, .int p2), (3, .int p3)] ∧ TW Y Z T355 g q w498 ∧ KF 1 T ws w498 ∧ KF 6 T ws w498 ∧ (0 ≤ v497.toInt ∧ v497.toInt ≤ 401)) (fun xx => match xx with | (v497, w498) => (401 - v497.toInt).toNat) (0, u425) ⟨hP, hD, hS, lv_sub hl [0, 1, 2, 3, 4] rfl, hT, ke430, ke431, by omega⟩ (fun xx H locs ls hI ih => ?_)
      obtain ⟨v497, w498⟩ := xx
      obtain ⟨hP, hD, hS, hl, hT, ke566, ke567, hq565⟩ := hI
      have ih568 := ih
      refine lv_iload hx hb dX3_read_87 (lv_at hl 0 rfl) ?_
      refine lv_sipush (v := 400) hx hb dX3_read_89 (by decide) ?_
      refine lv_icmp_gt (tgt := 141) hx hb dX3_read_92 (by decide) (fun c569 => ?_) (fun c569 => ?_)
      · skip
        have c569 := i_lt (show (400 : Int32).toInt = 400 by decide) (Eq.refl v497.toInt) c569
        refine lv_aload_n hx hb dX3_read_141 rfl (lv_at hl 1 rfl) ?_
        refine ok7 hT (le357.up ht0) (fun p590 n570 a571 x572 x573 x574 x575 x576 x577 x578 x579 a580 a581 x582 hk591 h583 h584 h585 h586 h587 h588 h589 => ?_)
        refine va_get (D := D) (ci := 3) (v := .int x577) (C := RX3) (T := TX3) (N := 12) hx hb hg inGX3 hown hKN.1 hP p590 hk591 rfl 6 (by decide) (hg _ kw_184) (fun _ h9 => h9) rfl dX3_read_142 ?_
        refine W.widen (k := 6) (n := 462) (Nat.le_of_ble_eq_true rfl) (Nat.le_of_ble_eq_true rfl) ?_
        exact W.iret (v := x577) hx hb hr (fun t ht hW => ⟨⟨(x577, w498, T355), rfl, ⟨le357, hT, ke566, ke567⟩, CB.mk ht hP hD⟩, hS.F ht⟩) hS.2.2 dX3_read_145
      · skip
        have c569 := i_nlt (show (400 : Int32).toInt = 400 by decide) (Eq.refl v497.toInt) c569
        refine lv_aload_n hx hb dX3_read_95 rfl (lv_at hl 1 rfl) ?_
        refine ok7 hT (le357.up ht0) (fun p612 n592 a593 x594 x595 x596 x597 x598 x599 x600 x601 a602 a603 x604 hk613 h605 h606 h607 h608 h609 h610 h611 => ?_)
        refine va_get (D := D) (ci := 3) (v := .int x599) (C := RX3) (T := TX3) (N := 12) hx hb hg inGX3 hown hKN.1 hP p612 hk613 rfl 6 (by decide) (hg _ kw_184) (fun _ h9 => h9) rfl dX3_read_96 ?_
        have j614 := rgI x599
        refine lv_if_ne (tgt := 141) hx hb dX3_read_99 (by decide) (fun c615 => ?_) (fun c615 => ?_)
        · skip
          have c615 := i_ne (Eq.refl x599.toInt) (show (0 : Int32).toInt = 0 by decide) c615
          refine lv_aload_n hx hb dX3_read_141 rfl (lv_at hl 1 rfl) ?_
          refine va_get (D := D) (ci := 3) (v := .int x599) (C := RX3) (T := TX3) (N := 12) hx hb hg inGX3 hown hKN.1 hP p612 hk613 rfl 6 (by decide) (hg _ kw_184) (fun _ h9 => h9) rfl dX3_read_142 ?_
          refine W.widen (k := 6) (n := 462) (Nat.le_of_ble_eq_true rfl) (Nat.le_of_ble_eq_true rfl) ?_
          exact W.iret (v := x599) hx hb hr (fun t ht hW => ⟨⟨(x599, w498, T355), rfl, ⟨le357, hT, ke566, ke567⟩, CB.mk ht hP hD⟩, hS.F ht⟩) hS.2.2 dX3_read_145
        · skip
          have c615 := i_eq (Eq.refl x599.toInt) (show (0 : Int32).toInt = 0 by decide) c615
          refine lv_aload_n hx hb dX3_read_102 rfl (lv_at hl 1 rfl) ?_
          refine lv_iload_n hx hb dX3_read_103 rfl (lv_at hl 4 rfl) ?_
          refine lv_iload hx hb dX3_read_104 (lv_at hl 0 rfl) ?_
          refine cga (rn_V (As := [.int p3, .int v497]) (rest := []) (b := p0) (x_X3_readClause l D Y Z H.size w498 T355 g q p0 p3 v497 hT (le357.up ht0)) ⟨hx, hb, hml, hown, hg⟩ lk_X3_64 ⟨CPC.blind, va_recv hKN.1 hP (ci := 3) (q0 := p612) rfl hk613, CPC.at hP hKN hD hSZ hS hA⟩ ⟨⟨rfl, rfl⟩, ⟨Nat.le_of_ble_eq_true rfl, Nat.le_of_ble_eq_true rfl⟩, ⟨(Nat.le_of_ble_eq_true rfl), (Nat.le_of_ble_eq_true rfl)⟩⟩ hl.1 rfl (Nat.le_of_ble_eq_true rfl) dX3_read_106) hP hD hS hA (fun u616 H locs hw617 hP hD hS => ?_)
          obtain ⟨hT, ke619, ke620⟩ : TW Y Z T355 g q u616 ∧ KF 1 T355 w498 u616 ∧ KF 6 T355 w498 u616 := hw617
          have ke621 : KF 1 T ws u616 := KF.tr ke566 (KF.le (by decide) le357 ke619)
          have ke622 : KF 6 T ws u616 := KF.tr ke567 (KF.le (by decide) le357 ke620)
          refine W.eq (g2 := F0 m 109 ls []) rfl ?_
          refine lv_aload_n hx hb dX3_read_109 rfl (lv_at hl 1 rfl) ?_
          refine ok7 hT (le357.up ht0) (fun p643 n623 a624 x625 x626 x627 x628 x629 x630 x631 x632 a633 a634 x635 hk644 h636 h637 h638 h639 h640 h641 h642 => ?_)
          refine va_get (D := D) (ci := 3) (v := .int x630) (C := RX3) (T := TX3) (N := 12) hx hb hg inGX3 hown hKN.1 hP p643 hk644 rfl 6 (by decide) (hg _ kw_184) (fun _ h9 => h9) rfl dX3_read_110 ?_
          have j645 := rgI x630
          refine lv_if_ne (tgt := 141) hx hb dX3_read_113 (by decide) (fun c646 => ?_) (fun c646 => ?_)
          · skip
            have c646 := i_ne (Eq.refl x630.toInt) (show (0 : Int32).toInt = 0 by decide) c646
            refine lv_aload_n hx hb dX3_read_141 rfl (lv_at hl 1 rfl) ?_
            refine va_get (D := D) (ci := 3) (v := .int x630) (C := RX3) (T := TX3) (N := 12) hx hb hg inGX3 hown hKN.1 hP p643 hk644 rfl 6 (by decide) (hg _ kw_184) (fun _ h9 => h9) rfl dX3_read_142 ?_
            refine W.widen (k := 6) (n := 462) (Nat.le_of_ble_eq_true rfl) (Nat.le_of_ble_eq_true rfl) ?_
            exact W.iret (v := x630) hx hb hr (fun t ht hW => ⟨⟨(x630, u616, T355), rfl, ⟨le357, hT, ke621, ke622⟩, CB.mk ht hP hD⟩, hS.F ht⟩) hS.2.2 dX3_read_145
          · skip
            have c646 := i_eq (Eq.refl x630.toInt) (show (0 : Int32).toInt = 0 by decide) c646
            refine lv_aload_n hx hb dX3_read_116 rfl (lv_at hl 1 rfl) ?_
            refine va_get (D := D) (ci := 3) (v := .int x627) (C := RX3) (T := TX3) (N := 12) hx hb hg inGX3 hown hKN.1 hP p643 hk644 rfl 3 (by decide) (hg _ kw_181) (fun _ h9 => h9) rfl dX3_read_117 ?_
            refine lv_sipush (v := 256) hx hb dX3_read_120 (by decide) ?_
            have j647 := rgI x627
            refine lv_icmp_ne (tgt := 129) hx hb dX3_read_123 (by decide) (fun c648 => ?_) (fun c648 => ?_)
            · skip
              have c648 := i_ne (Eq.refl x627.toInt) (show (256 : Int32).toInt = 256 by decide) c648
              refine lv_aload_n hx hb dX3_read_129 rfl (lv_at hl 1 rfl) ?_
              refine lv_bipush (v := 59) hx hb dX3_read_130 (by decide) ?_
              have zi59 : (59 : Int32).toInt = 59 := by decide
              refine cga (rn_V (As := [.int 59]) (rest := []) (b := p0) (x_X3_expect l D Y Z H.size u616 T355 g q p0 59 hT (le357.up ht0)) ⟨hx, hb, hml, hown, hg⟩ lk_X3_71 ⟨CPC.blind, va_recv hKN.1 hP (ci := 3) (q0 := p643) rfl hk644, CPC.at hP hKN hD hSZ hS hA⟩ ⟨⟨rfl, rfl⟩, ⟨Nat.le_of_ble_eq_true rfl, Nat.le_of_ble_eq_true rfl⟩, ⟨(Nat.le_of_ble_eq_true rfl), (Nat.le_of_ble_eq_true rfl)⟩⟩ hl.1 rfl (Nat.le_of_ble_eq_true rfl) dX3_read_132) hP hD hS hA (fun u649 H locs hw650 hP hD hS => ?_)
              obtain ⟨hT, ke652, ke653⟩ : TW Y Z T355 g q u649 ∧ KF 1 T355 u616 u649 ∧ KF 6 T355 u616 u649 := hw650
              have ke654 : KF 1 T ws u649 := KF.tr ke621 (KF.le (by decide) le357 ke652)
              have ke655 : KF 6 T ws u649 := KF.tr ke622 (KF.le (by decide) le357 ke653)
              refine W.eq (g2 := F0 m 135 ls []) rfl ?_
              obtain ⟨v656, ev656⟩ : ∃ y : Int32, y = v497 + 1 := ⟨_, rfl⟩
              have hv656 := i_add (Eq.refl v497.toInt) (show (1 : Int32).toInt = 1 by decide) ev656 (by omega) (by omega)
              refine lv_iinc (v := v656) (lv' := [(4, .int v656), (0, .ref p0), (1, .ref p1), (2, .int p2), (3, .int p3)]) hx hb dX3_read_135 hl (k := 0) rfl (by rw [ev656]; rfl) (by decide) rfl (fun ls hl => ?_)
              refine lv_goto (tgt := 87) hx hb dX3_read_138 (by decide) ?_
              exact ih568 (v656, u649) H locs ls (by show (401 - v656.toInt).toNat < (401 - v497.toInt).toNat; omega) ⟨hP, hD, hS, lv_sub hl [0, 1, 2, 3, 4] rfl, hT, ke654, ke655, by omega⟩
            · skip
              have c648 := i_eq (Eq.refl x627.toInt) (show (256 : Int32).toInt = 256 by decide) c648
              refine lv_goto (tgt := 141) hx hb dX3_read_126 (by decide) ?_
              refine lv_aload_n hx hb dX3_read_141 rfl (lv_at hl 1 rfl) ?_
              refine va_get (D := D) (ci := 3) (v := .int x630) (C := RX3) (T := TX3) (N := 12) hx hb hg inGX3 hown hKN.1 hP p643 hk644 rfl 6 (by decide) (hg _ kw_184) (fun _ h9 => h9) rfl dX3_read_142 ?_
              refine W.widen (k := 6) (n := 462) (Nat.le_of_ble_eq_true rfl) (Nat.le_of_ble_eq_true rfl) ?_
              exact W.iret (v := x630) hx hb hr (fun t ht hW => ⟨⟨(x630, u616, T355), rfl, ⟨le357, hT, ke621, ke622⟩, CB.mk ht hP hD⟩, hS.F ht⟩) hS.2.2 dX3_read_145
  · skip
    have c59 := i_eq (Eq.refl p3.toInt) (show (0 : Int32).toInt = 0 by decide) c59
    refine va_ldcS (q := Z 1) hx hb hown (hKN.2.2.2 1 (RX3, 50, "hour season star cell size") rfl) dX3_read_40 ?_
    refine lv_goto (tgt := 47) hx hb dX3_read_42 (by decide) ?_
    refine va_put (D := D) (ci := 3) (v := .ref (Z 1)) (ty := .object "java/lang/String") (C := RX3) (T := TX3) (N := 12) hx hb hg inGX3 tyX3 tyX3_ok nmX3 hown hKN.1 hP hD hS p21 hk55 rfl 9 (by decide) (hg _ kw_187) (fun _ h9 => h9) rfl (by decide +kernel) rfl rfl (Nat.le_of_ble_eq_true rfl) dX3_read_47 (fun H locs hP hD2 hS => ?_)
    obtain ⟨w657, hP, hD, hT, hk659, kp658⟩ : ∃ wz, va_P D vwCl wz H ∧ va_D A wz ∧ TW Y Z T g q wz ∧ wz[p21]? = some (p0, .inr (3, [.ref p1, .int u28, .int 0, .int x5, .int x6, .int x7, .int 0, .int 0, .int 0, .ref (Z 1), .ref a12, .int x13])) ∧ Kp p0 w53 wz := ⟨_, hP, hD2, st7 hT hD hk55 ht0 ⟨400, p1, u28, (0), x5, x6, x7, (0), (0), (0), 1, a12, x13, rfl, ht1, by omega, by omega, (by decide), h18, by omega, (by decide)⟩, sw_eq hk55, sw_kp hk55⟩
    have ke660 : KF 1 T ws w657 := KF.tr ke56 (KF.kp kp658 ht0 (by decide))
    have ke661 : KF 6 T ws w657 := KF.tr ke57 (KF.kp kp658 ht0 (by decide))
    refine lv_aload_n hx hb dX3_read_50 rfl (lv_at hl 0 rfl) ?_
    refine va_get (D := D) (ci := 3) (v := .int x13) (C := RX3) (T := TX3) (N := 12) hx hb hg inGX3 hown hKN.1 hP p21 hk659 rfl 11 (by decide) (hg _ kw_189) (fun _ h9 => h9) rfl dX3_read_51 ?_
    refine lv_if_eq (tgt := 73) hx hb dX3_read_54 (by decide) (fun c662 => ?_) (fun c662 => ?_)
    · skip
      have c662 := i_eq (Eq.refl x13.toInt) (show (0 : Int32).toInt = 0 by decide) c662
      refine lv_aload_n hx hb dX3_read_73 rfl (lv_at hl 0 rfl) ?_
      refine va_get (D := D) (ci := 3) (v := .ref a12) (C := RX3) (T := TX3) (N := 12) hx hb hg inGX3 hown hKN.1 hP p21 hk659 rfl 10 (by decide) (hg _ kw_188) (fun _ h9 => h9) rfl dX3_read_74 ?_
      refine ok5 hT h18 (fun p684 x663 x664 x665 x666 x667 x668 x669 x670 a671 a672 a673 a674 a675 x676 hk685 h677 h678 h679 h680 h681 h682 h683 => ?_)
      refine cga (rn_NV (As := []) (rest := []) (b := a12) (x_X8_begin l D Y Z H.size w657 T g q a12 hT h18) ⟨hx, hb, hml, hown, hg⟩ hKN lk_X3_58 ⟨CPC.blind, va_recv hKN.1 hP (ci := 8) (q0 := p684) rfl hk685, CPC.at hP hKN hD hSZ hS hA⟩ ⟨⟨rfl, rfl⟩, ⟨Nat.le_of_ble_eq_true rfl, Nat.le_of_ble_eq_true rfl⟩, ⟨(Nat.le_of_ble_eq_true rfl), (Nat.le_of_ble_eq_true rfl)⟩⟩ hl.1 rfl (Nat.le_of_ble_eq_true rfl) dX3_read_77) hP hD hS hA (fun u686 H locs hw687 hP hD hS => ?_)
      obtain ⟨hT, ke689, ke690⟩ : TW Y Z T g q u686 ∧ KF 1 T w657 u686 ∧ KF 6 T w657 u686 := hw687
      have ke691 : KF 1 T ws u686 := KF.tr ke660 ke689
      have ke692 : KF 6 T ws u686 := KF.tr ke661 ke690
      refine W.eq (g2 := F0 m 80 ls []) rfl ?_
      refine lv_aload_n hx hb dX3_read_80 rfl (lv_at hl 0 rfl) ?_
      refine ok7 hT ht0 (fun p713 n693 a694 x695 x696 x697 x698 x699 x700 x701 x702 a703 a704 x705 hk714 h706 h707 h708 h709 h710 h711 h712 => ?_)
      refine cga (rn_V (As := []) (rest := []) (b := p0) (x_X3_step l D Y Z H.size u686 T g q p0 hT ht0) ⟨hx, hb, hml, hown, hg⟩ lk_X3_61 ⟨CPC.blind, va_recv hKN.1 hP (ci := 3) (q0 := p713) rfl hk714, CPC.at hP hKN hD hSZ hS hA⟩ ⟨⟨rfl, rfl⟩, ⟨Nat.le_of_ble_eq_true rfl, Nat.le_of_ble_eq_true rfl⟩, ⟨(Nat.le_of_ble_eq_true rfl), (Nat.le_of_ble_eq_true rfl)⟩⟩ hl.1 rfl (Nat.le_of_ble_eq_true rfl) dX3_read_81) hP hD hS hA (fun u715 H locs hw716 hP hD hS => ?_)
      obtain ⟨hT, ke718, ke719⟩ : TW Y Z T g q u715 ∧ KF 1 T u686 u715 ∧ KF 6 T u686 u715 := hw716
      have ke720 : KF 1 T ws u715 := KF.tr ke691 ke718
      have ke721 : KF 6 T ws u715 := KF.tr ke692 ke719
      refine W.eq (g2 := F0 m 84 ls []) rfl ?_
      refine lv_iconst (v := 0) hx hb dX3_read_84 (by decide) ?_
      refine lv_istore (lv' := [(4, .int 0), (0, .ref p0), (1, .ref p1), (2, .int p2), (3, .int p3)]) hx hb dX3_read_85 hl (by decide) rfl (fun ls hl => ?_)
      refine w_loop (σ := Int32 × va_W) (fun xx H locs ls => match xx with | (v787, w788) => va_P D vwCl w788 H ∧ va_D A w788 ∧ va_S A s.heap H locs ∧ lv_has ls 5 [(4, .int v787), (0, .ref p0), (1, .ref p1), (2, .int p2), (3, .int p3)] ∧ TW Y Z T g q w788 ∧ KF 1 T ws w788 ∧ KF 6 T ws w788 ∧ (0 ≤ v787.toInt ∧ v787.toInt ≤ 401)) (fun xx => match xx with | (v787, w788) => (401 - v787.toInt).toNat) (0, u715) ⟨hP, hD, hS, lv_sub hl [0, 1, 2, 3, 4] rfl, hT, ke720, ke721, by omega⟩ (fun xx H locs ls hI ih => ?_)
      obtain ⟨v787, w788⟩ := xx
      obtain ⟨hP, hD, hS, hl, hT, ke856, ke857, hq855⟩ := hI
      have ih858 := ih
      refine lv_iload hx hb dX3_read_87 (lv_at hl 0 rfl) ?_
      refine lv_sipush (v := 400) hx hb dX3_read_89 (by decide) ?_
      refine lv_icmp_gt (tgt := 141) hx hb dX3_read_92 (by decide) (fun c859 => ?_) (fun c859 => ?_)
      · skip
        have c859 := i_lt (show (400 : Int32).toInt = 400 by decide) (Eq.refl v787.toInt) c859
        refine lv_aload_n hx hb dX3_read_141 rfl (lv_at hl 1 rfl) ?_
        refine ok7 hT ht0 (fun p880 n860 a861 x862 x863 x864 x865 x866 x867 x868 x869 a870 a871 x872 hk881 h873 h874 h875 h876 h877 h878 h879 => ?_)
        refine va_get (D := D) (ci := 3) (v := .int x867) (C := RX3) (T := TX3) (N := 12) hx hb hg inGX3 hown hKN.1 hP p880 hk881 rfl 6 (by decide) (hg _ kw_184) (fun _ h9 => h9) rfl dX3_read_142 ?_
        refine W.widen (k := 6) (n := 462) (Nat.le_of_ble_eq_true rfl) (Nat.le_of_ble_eq_true rfl) ?_
        exact W.iret (v := x867) hx hb hr (fun t ht hW => ⟨⟨(x867, w788, T), rfl, ⟨TLe.rf, hT, ke856, ke857⟩, CB.mk ht hP hD⟩, hS.F ht⟩) hS.2.2 dX3_read_145
      · skip
        have c859 := i_nlt (show (400 : Int32).toInt = 400 by decide) (Eq.refl v787.toInt) c859
        refine lv_aload_n hx hb dX3_read_95 rfl (lv_at hl 1 rfl) ?_
        refine ok7 hT ht0 (fun p902 n882 a883 x884 x885 x886 x887 x888 x889 x890 x891 a892 a893 x894 hk903 h895 h896 h897 h898 h899 h900 h901 => ?_)
        refine va_get (D := D) (ci := 3) (v := .int x889) (C := RX3) (T := TX3) (N := 12) hx hb hg inGX3 hown hKN.1 hP p902 hk903 rfl 6 (by decide) (hg _ kw_184) (fun _ h9 => h9) rfl dX3_read_96 ?_
        have j904 := rgI x889
        refine lv_if_ne (tgt := 141) hx hb dX3_read_99 (by decide) (fun c905 => ?_) (fun c905 => ?_)
        · skip
          have c905 := i_ne (Eq.refl x889.toInt) (show (0 : Int32).toInt = 0 by decide) c905
          refine lv_aload_n hx hb dX3_read_141 rfl (lv_at hl 1 rfl) ?_
          refine va_get (D := D) (ci := 3) (v := .int x889) (C := RX3) (T := TX3) (N := 12) hx hb hg inGX3 hown hKN.1 hP p902 hk903 rfl 6 (by decide) (hg _ kw_184) (fun _ h9 => h9) rfl dX3_read_142 ?_
          refine W.widen (k := 6) (n := 462) (Nat.le_of_ble_eq_true rfl) (Nat.le_of_ble_eq_true rfl) ?_
          exact W.iret (v := x889) hx hb hr (fun t ht hW => ⟨⟨(x889, w788, T), rfl, ⟨TLe.rf, hT, ke856, ke857⟩, CB.mk ht hP hD⟩, hS.F ht⟩) hS.2.2 dX3_read_145
        · skip
          have c905 := i_eq (Eq.refl x889.toInt) (show (0 : Int32).toInt = 0 by decide) c905
          refine lv_aload_n hx hb dX3_read_102 rfl (lv_at hl 1 rfl) ?_
          refine lv_iload_n hx hb dX3_read_103 rfl (lv_at hl 4 rfl) ?_
          refine lv_iload hx hb dX3_read_104 (lv_at hl 0 rfl) ?_
          refine cga (rn_V (As := [.int p3, .int v787]) (rest := []) (b := p0) (x_X3_readClause l D Y Z H.size w788 T g q p0 p3 v787 hT ht0) ⟨hx, hb, hml, hown, hg⟩ lk_X3_64 ⟨CPC.blind, va_recv hKN.1 hP (ci := 3) (q0 := p902) rfl hk903, CPC.at hP hKN hD hSZ hS hA⟩ ⟨⟨rfl, rfl⟩, ⟨Nat.le_of_ble_eq_true rfl, Nat.le_of_ble_eq_true rfl⟩, ⟨(Nat.le_of_ble_eq_true rfl), (Nat.le_of_ble_eq_true rfl)⟩⟩ hl.1 rfl (Nat.le_of_ble_eq_true rfl) dX3_read_106) hP hD hS hA (fun u906 H locs hw907 hP hD hS => ?_)
          obtain ⟨hT, ke909, ke910⟩ : TW Y Z T g q u906 ∧ KF 1 T w788 u906 ∧ KF 6 T w788 u906 := hw907
          have ke911 : KF 1 T ws u906 := KF.tr ke856 ke909
          have ke912 : KF 6 T ws u906 := KF.tr ke857 ke910
          refine W.eq (g2 := F0 m 109 ls []) rfl ?_
          refine lv_aload_n hx hb dX3_read_109 rfl (lv_at hl 1 rfl) ?_
          refine ok7 hT ht0 (fun p933 n913 a914 x915 x916 x917 x918 x919 x920 x921 x922 a923 a924 x925 hk934 h926 h927 h928 h929 h930 h931 h932 => ?_)
          refine va_get (D := D) (ci := 3) (v := .int x920) (C := RX3) (T := TX3) (N := 12) hx hb hg inGX3 hown hKN.1 hP p933 hk934 rfl 6 (by decide) (hg _ kw_184) (fun _ h9 => h9) rfl dX3_read_110 ?_
          have j935 := rgI x920
          refine lv_if_ne (tgt := 141) hx hb dX3_read_113 (by decide) (fun c936 => ?_) (fun c936 => ?_)
          · skip
            have c936 := i_ne (Eq.refl x920.toInt) (show (0 : Int32).toInt = 0 by decide) c936
            refine lv_aload_n hx hb dX3_read_141 rfl (lv_at hl 1 rfl) ?_
            refine va_get (D := D) (ci := 3) (v := .int x920) (C := RX3) (T := TX3) (N := 12) hx hb hg inGX3 hown hKN.1 hP p933 hk934 rfl 6 (by decide) (hg _ kw_184) (fun _ h9 => h9) rfl dX3_read_142 ?_
            refine W.widen (k := 6) (n := 462) (Nat.le_of_ble_eq_true rfl) (Nat.le_of_ble_eq_true rfl) ?_
            exact W.iret (v := x920) hx hb hr (fun t ht hW => ⟨⟨(x920, u906, T), rfl, ⟨TLe.rf, hT, ke911, ke912⟩, CB.mk ht hP hD⟩, hS.F ht⟩) hS.2.2 dX3_read_145
          · skip
            have c936 := i_eq (Eq.refl x920.toInt) (show (0 : Int32).toInt = 0 by decide) c936
            refine lv_aload_n hx hb dX3_read_116 rfl (lv_at hl 1 rfl) ?_
            refine va_get (D := D) (ci := 3) (v := .int x917) (C := RX3) (T := TX3) (N := 12) hx hb hg inGX3 hown hKN.1 hP p933 hk934 rfl 3 (by decide) (hg _ kw_181) (fun _ h9 => h9) rfl dX3_read_117 ?_
            refine lv_sipush (v := 256) hx hb dX3_read_120 (by decide) ?_
            have j937 := rgI x917
            refine lv_icmp_ne (tgt := 129) hx hb dX3_read_123 (by decide) (fun c938 => ?_) (fun c938 => ?_)
            · skip
              have c938 := i_ne (Eq.refl x917.toInt) (show (256 : Int32).toInt = 256 by decide) c938
              refine lv_aload_n hx hb dX3_read_129 rfl (lv_at hl 1 rfl) ?_
              refine lv_bipush (v := 59) hx hb dX3_read_130 (by decide) ?_
              have zi59 : (59 : Int32).toInt = 59 := by decide
              refine cga (rn_V (As := [.int 59]) (rest := []) (b := p0) (x_X3_expect l D Y Z H.size u906 T g q p0 59 hT ht0) ⟨hx, hb, hml, hown, hg⟩ lk_X3_71 ⟨CPC.blind, va_recv hKN.1 hP (ci := 3) (q0 := p933) rfl hk934, CPC.at hP hKN hD hSZ hS hA⟩ ⟨⟨rfl, rfl⟩, ⟨Nat.le_of_ble_eq_true rfl, Nat.le_of_ble_eq_true rfl⟩, ⟨(Nat.le_of_ble_eq_true rfl), (Nat.le_of_ble_eq_true rfl)⟩⟩ hl.1 rfl (Nat.le_of_ble_eq_true rfl) dX3_read_132) hP hD hS hA (fun u939 H locs hw940 hP hD hS => ?_)
              obtain ⟨hT, ke942, ke943⟩ : TW Y Z T g q u939 ∧ KF 1 T u906 u939 ∧ KF 6 T u906 u939 := hw940
              have ke944 : KF 1 T ws u939 := KF.tr ke911 ke942
              have ke945 : KF 6 T ws u939 := KF.tr ke912 ke943
              refine W.eq (g2 := F0 m 135 ls []) rfl ?_
              obtain ⟨v946, ev946⟩ : ∃ y : Int32, y = v787 + 1 := ⟨_, rfl⟩
              have hv946 := i_add (Eq.refl v787.toInt) (show (1 : Int32).toInt = 1 by decide) ev946 (by omega) (by omega)
              refine lv_iinc (v := v946) (lv' := [(4, .int v946), (0, .ref p0), (1, .ref p1), (2, .int p2), (3, .int p3)]) hx hb dX3_read_135 hl (k := 0) rfl (by rw [ev946]; rfl) (by decide) rfl (fun ls hl => ?_)
              refine lv_goto (tgt := 87) hx hb dX3_read_138 (by decide) ?_
              exact ih858 (v946, u939) H locs ls (by show (401 - v946.toInt).toNat < (401 - v787.toInt).toNat; omega) ⟨hP, hD, hS, lv_sub hl [0, 1, 2, 3, 4] rfl, hT, ke944, ke945, by omega⟩
            · skip
              have c938 := i_eq (Eq.refl x917.toInt) (show (256 : Int32).toInt = 256 by decide) c938
              refine lv_goto (tgt := 141) hx hb dX3_read_126 (by decide) ?_
              refine lv_aload_n hx hb dX3_read_141 rfl (lv_at hl 1 rfl) ?_
              refine va_get (D := D) (ci := 3) (v := .int x920) (C := RX3) (T := TX3) (N := 12) hx hb hg inGX3 hown hKN.1 hP p933 hk934 rfl 6 (by decide) (hg _ kw_184) (fun _ h9 => h9) rfl dX3_read_142 ?_
              refine W.widen (k := 6) (n := 462) (Nat.le_of_ble_eq_true rfl) (Nat.le_of_ble_eq_true rfl) ?_
              exact W.iret (v := x920) hx hb hr (fun t ht hW => ⟨⟨(x920, u906, T), rfl, ⟨TLe.rf, hT, ke911, ke912⟩, CB.mk ht hP hD⟩, hS.F ht⟩) hS.2.2 dX3_read_145
    · skip
      have c662 := i_ne (Eq.refl x13.toInt) (show (0 : Int32).toInt = 0 by decide) c662
      refine lv_aload_n hx hb dX3_read_57 rfl (lv_at hl 0 rfl) ?_
      refine va_new (ci := 8) (fs := (.int 0 :: .int 0 :: .int 0 :: .int 0 :: .int 0 :: .int 0 :: .int 0 :: .int 0 :: .null :: .null :: .null :: .null :: .null :: .int 0 :: [])) (C := RX8) (T := TX8) (N := 14) hx hb hg inGX8 tyX8 tyX8_ok hown (hg _ kw_108) (hg _ kw_109) (hg _ kw_4) hKN.1 hP hD hS hA rfl (fun j hj => by rcases (show j = 0 ∨ j = 1 ∨ j = 2 ∨ j = 3 ∨ j = 4 ∨ j = 5 ∨ j = 6 ∨ j = 7 ∨ j = 8 ∨ j = 9 ∨ j = 10 ∨ j = 11 ∨ j = 12 ∨ j = 13 by omega) with rfl | rfl | rfl | rfl | rfl | rfl | rfl | rfl | rfl | rfl | rfl | rfl | rfl | rfl <;> rfl) (Nat.le_of_ble_eq_true rfl) (Nat.le_of_ble_eq_true rfl) dX3_read_58 (fun b947 H hP hD hS => ?_)
      refine W.widen (k := 1) (n := 14) (Nat.le_of_ble_eq_true rfl) (Nat.le_of_ble_eq_true rfl) ?_
      refine lv_dup hx hb dX3_read_61 rfl ?_
      have hP948 : va_P D vwCl [(b947, .inr (8, (.int 0 :: .int 0 :: .int 0 :: .int 0 :: .int 0 :: .int 0 :: .int 0 :: .int 0 :: .null :: .null :: .null :: .null :: .null :: .int 0 :: [])))] H := va_P.last hP
      have hD949 : va_D A [(b947, .inr (8, (.int 0 :: .int 0 :: .int 0 :: .int 0 :: .int 0 :: .int 0 :: .int 0 :: .int 0 :: .null :: .null :: .null :: .null :: .null :: .int 0 :: [])))] := va_D.last hD
      refine cgn (rn_NI (As := []) (rest := [.ref b947, .ref p0]) (b := b947) (c_X8 l D Y Z H.size b947  ) ⟨hx, hb, hml, hown, hg⟩ hKN lk_X3_23 ⟨CP.blind, CP.at hP948 hKN hD949⟩ ⟨⟨rfl, rfl⟩, ⟨Nat.le_of_ble_eq_true rfl, Nat.le_of_ble_eq_true rfl⟩, ⟨(Nat.le_of_ble_eq_true rfl), (Nat.le_of_ble_eq_true rfl)⟩⟩ hl.1 rfl (Nat.le_of_ble_eq_true rfl) dX3_read_62) hP hD hS hA (fun u950 H locs hw951 hP hD hS => ?_)
      refine W.widen (k := 6) (n := 462) (Nat.le_of_ble_eq_true rfl) (Nat.le_of_ble_eq_true rfl) ?_
      refine W.eq (g2 := F0 m 65 ls [.ref b947, .ref p0]) rfl ?_
      obtain ⟨w953, T952, hP, hD, hT, le954, ht955, ex956⟩ := nw_X8  hT hP hD
      have ke957 : KF 1 T ws w953 := KF.tr ke660 (KF.ex ex956.1)
      have ke958 : KF 6 T ws w953 := KF.tr ke661 (KF.ex ex956.1)
      have hk959 := ex956.1 _ _ hk659
      refine va_put (D := D) (ci := 3) (v := .ref b947) (ty := .object "DimStars$Text") (C := RX3) (T := TX3) (N := 12) hx hb hg inGX3 tyX3 tyX3_ok nmX3 hown hKN.1 hP hD hS p21 hk959 rfl 10 (by decide) (hg _ kw_188) (fun _ h9 => h9) rfl (by decide +kernel) rfl rfl (Nat.le_of_ble_eq_true rfl) dX3_read_65 (fun H locs hP hD2 hS => ?_)
      obtain ⟨w960, hP, hD, hT, hk962, kp961⟩ : ∃ wz, va_P D vwCl wz H ∧ va_D A wz ∧ TW Y Z T952 g q wz ∧ wz[p21]? = some (p0, .inr (3, [.ref p1, .int u28, .int 0, .int x5, .int x6, .int x7, .int 0, .int 0, .int 0, .ref (Z 1), .ref b947, .int x13])) ∧ Kp p0 w953 wz := ⟨_, hP, hD2, st7 hT hD hk959 (le954.up ht0) ⟨400, p1, u28, (0), x5, x6, x7, (0), (0), (0), 1, b947, x13, rfl, (le954.up ht1), by omega, by omega, (by decide), ht955, by omega, (by decide)⟩, sw_eq hk959, sw_kp hk959⟩
      have ke963 : KF 1 T ws w960 := KF.tr ke957 (KF.le (by decide) le954 (KF.kp kp961 (le954.up ht0) (by decide)))
      have ke964 : KF 6 T ws w960 := KF.tr ke958 (KF.le (by decide) le954 (KF.kp kp961 (le954.up ht0) (by decide)))
      refine lv_aload_n hx hb dX3_read_68 rfl (lv_at hl 0 rfl) ?_
      refine lv_iconst (v := 0) hx hb dX3_read_69 (by decide) ?_
      refine va_put (D := D) (ci := 3) (v := .int 0) (ty := .boolean) (C := RX3) (T := TX3) (N := 12) hx hb hg inGX3 tyX3 tyX3_ok nmX3 hown hKN.1 hP hD hS p21 hk962 rfl 11 (by decide) (hg _ kw_189) (fun _ h9 => h9) rfl (by decide +kernel) rfl rfl (Nat.le_of_ble_eq_true rfl) dX3_read_70 (fun H locs hP hD2 hS => ?_)
      obtain ⟨w965, hP, hD, hT, hk967, kp966⟩ : ∃ wz, va_P D vwCl wz H ∧ va_D A wz ∧ TW Y Z T952 g q wz ∧ wz[p21]? = some (p0, .inr (3, [.ref p1, .int u28, .int 0, .int x5, .int x6, .int x7, .int 0, .int 0, .int 0, .ref (Z 1), .ref b947, .int 0])) ∧ Kp p0 w960 wz := ⟨_, hP, hD2, st7 hT hD hk962 (le954.up ht0) ⟨400, p1, u28, (0), x5, x6, x7, (0), (0), (0), 1, b947, (0), rfl, (le954.up ht1), by omega, by omega, (by decide), ht955, by omega, (by decide)⟩, sw_eq hk962, sw_kp hk962⟩
      have ke968 : KF 1 T ws w965 := KF.tr ke963 (KF.le (by decide) le954 (KF.kp kp966 (le954.up ht0) (by decide)))
      have ke969 : KF 6 T ws w965 := KF.tr ke964 (KF.le (by decide) le954 (KF.kp kp966 (le954.up ht0) (by decide)))
      refine lv_aload_n hx hb dX3_read_73 rfl (lv_at hl 0 rfl) ?_
      refine va_get (D := D) (ci := 3) (v := .ref b947) (C := RX3) (T := TX3) (N := 12) hx hb hg inGX3 hown hKN.1 hP p21 hk967 rfl 10 (by decide) (hg _ kw_188) (fun _ h9 => h9) rfl dX3_read_74 ?_
      refine ok5 hT ht955 (fun p991 x970 x971 x972 x973 x974 x975 x976 x977 a978 a979 a980 a981 a982 x983 hk992 h984 h985 h986 h987 h988 h989 h990 => ?_)
      refine cga (rn_NV (As := []) (rest := []) (b := b947) (x_X8_begin l D Y Z H.size w965 T952 g q b947 hT ht955) ⟨hx, hb, hml, hown, hg⟩ hKN lk_X3_58 ⟨CPC.blind, va_recv hKN.1 hP (ci := 8) (q0 := p991) rfl hk992, CPC.at hP hKN hD hSZ hS hA⟩ ⟨⟨rfl, rfl⟩, ⟨Nat.le_of_ble_eq_true rfl, Nat.le_of_ble_eq_true rfl⟩, ⟨(Nat.le_of_ble_eq_true rfl), (Nat.le_of_ble_eq_true rfl)⟩⟩ hl.1 rfl (Nat.le_of_ble_eq_true rfl) dX3_read_77) hP hD hS hA (fun u993 H locs hw994 hP hD hS => ?_)
      obtain ⟨hT, ke996, ke997⟩ : TW Y Z T952 g q u993 ∧ KF 1 T952 w965 u993 ∧ KF 6 T952 w965 u993 := hw994
      have ke998 : KF 1 T ws u993 := KF.tr ke968 (KF.le (by decide) le954 ke996)
      have ke999 : KF 6 T ws u993 := KF.tr ke969 (KF.le (by decide) le954 ke997)
      refine W.eq (g2 := F0 m 80 ls []) rfl ?_
      refine lv_aload_n hx hb dX3_read_80 rfl (lv_at hl 0 rfl) ?_
      refine ok7 hT (le954.up ht0) (fun p1020 n1000 a1001 x1002 x1003 x1004 x1005 x1006 x1007 x1008 x1009 a1010 a1011 x1012 hk1021 h1013 h1014 h1015 h1016 h1017 h1018 h1019 => ?_)
      refine cga (rn_V (As := []) (rest := []) (b := p0) (x_X3_step l D Y Z H.size u993 T952 g q p0 hT (le954.up ht0)) ⟨hx, hb, hml, hown, hg⟩ lk_X3_61 ⟨CPC.blind, va_recv hKN.1 hP (ci := 3) (q0 := p1020) rfl hk1021, CPC.at hP hKN hD hSZ hS hA⟩ ⟨⟨rfl, rfl⟩, ⟨Nat.le_of_ble_eq_true rfl, Nat.le_of_ble_eq_true rfl⟩, ⟨(Nat.le_of_ble_eq_true rfl), (Nat.le_of_ble_eq_true rfl)⟩⟩ hl.1 rfl (Nat.le_of_ble_eq_true rfl) dX3_read_81) hP hD hS hA (fun u1022 H locs hw1023 hP hD hS => ?_)
      obtain ⟨hT, ke1025, ke1026⟩ : TW Y Z T952 g q u1022 ∧ KF 1 T952 u993 u1022 ∧ KF 6 T952 u993 u1022 := hw1023
      have ke1027 : KF 1 T ws u1022 := KF.tr ke998 (KF.le (by decide) le954 ke1025)
      have ke1028 : KF 6 T ws u1022 := KF.tr ke999 (KF.le (by decide) le954 ke1026)
      refine W.eq (g2 := F0 m 84 ls []) rfl ?_
      refine lv_iconst (v := 0) hx hb dX3_read_84 (by decide) ?_
      refine lv_istore (lv' := [(4, .int 0), (0, .ref p0), (1, .ref p1), (2, .int p2), (3, .int p3)]) hx hb dX3_read_85 hl (by decide) rfl (fun ls hl => ?_)
      refine w_loop (σ := Int32 × va_W) (fun xx H locs ls => match xx with | (v1094, w1095) => va_P D vwCl w1095 H ∧ va_D A w1095 ∧ va_S A s.heap H locs ∧ lv_has ls 5 [(4, .int v1094), (0, .ref p0), (1, .ref p1), (2, .int p2), (3, .int p3)] ∧ TW Y Z T952 g q w1095 ∧ KF 1 T ws w1095 ∧ KF 6 T ws w1095 ∧ (0 ≤ v1094.toInt ∧ v1094.toInt ≤ 401)) (fun xx => match xx with | (v1094, w1095) => (401 - v1094.toInt).toNat) (0, u1022) ⟨hP, hD, hS, lv_sub hl [0, 1, 2, 3, 4] rfl, hT, ke1027, ke1028, by omega⟩ (fun xx H locs ls hI ih => ?_)
      obtain ⟨v1094, w1095⟩ := xx
      obtain ⟨hP, hD, hS, hl, hT, ke1163, ke1164, hq1162⟩ := hI
      have ih1165 := ih
      refine lv_iload hx hb dX3_read_87 (lv_at hl 0 rfl) ?_
      refine lv_sipush (v := 400) hx hb dX3_read_89 (by decide) ?_
      refine lv_icmp_gt (tgt := 141) hx hb dX3_read_92 (by decide) (fun c1166 => ?_) (fun c1166 => ?_)
      · skip
        have c1166 := i_lt (show (400 : Int32).toInt = 400 by decide) (Eq.refl v1094.toInt) c1166
        refine lv_aload_n hx hb dX3_read_141 rfl (lv_at hl 1 rfl) ?_
        refine ok7 hT (le954.up ht0) (fun p1187 n1167 a1168 x1169 x1170 x1171 x1172 x1173 x1174 x1175 x1176 a1177 a1178 x1179 hk1188 h1180 h1181 h1182 h1183 h1184 h1185 h1186 => ?_)
        refine va_get (D := D) (ci := 3) (v := .int x1174) (C := RX3) (T := TX3) (N := 12) hx hb hg inGX3 hown hKN.1 hP p1187 hk1188 rfl 6 (by decide) (hg _ kw_184) (fun _ h9 => h9) rfl dX3_read_142 ?_
        refine W.widen (k := 6) (n := 462) (Nat.le_of_ble_eq_true rfl) (Nat.le_of_ble_eq_true rfl) ?_
        exact W.iret (v := x1174) hx hb hr (fun t ht hW => ⟨⟨(x1174, w1095, T952), rfl, ⟨le954, hT, ke1163, ke1164⟩, CB.mk ht hP hD⟩, hS.F ht⟩) hS.2.2 dX3_read_145
      · skip
        have c1166 := i_nlt (show (400 : Int32).toInt = 400 by decide) (Eq.refl v1094.toInt) c1166
        refine lv_aload_n hx hb dX3_read_95 rfl (lv_at hl 1 rfl) ?_
        refine ok7 hT (le954.up ht0) (fun p1209 n1189 a1190 x1191 x1192 x1193 x1194 x1195 x1196 x1197 x1198 a1199 a1200 x1201 hk1210 h1202 h1203 h1204 h1205 h1206 h1207 h1208 => ?_)
        refine va_get (D := D) (ci := 3) (v := .int x1196) (C := RX3) (T := TX3) (N := 12) hx hb hg inGX3 hown hKN.1 hP p1209 hk1210 rfl 6 (by decide) (hg _ kw_184) (fun _ h9 => h9) rfl dX3_read_96 ?_
        have j1211 := rgI x1196
        refine lv_if_ne (tgt := 141) hx hb dX3_read_99 (by decide) (fun c1212 => ?_) (fun c1212 => ?_)
        · skip
          have c1212 := i_ne (Eq.refl x1196.toInt) (show (0 : Int32).toInt = 0 by decide) c1212
          refine lv_aload_n hx hb dX3_read_141 rfl (lv_at hl 1 rfl) ?_
          refine va_get (D := D) (ci := 3) (v := .int x1196) (C := RX3) (T := TX3) (N := 12) hx hb hg inGX3 hown hKN.1 hP p1209 hk1210 rfl 6 (by decide) (hg _ kw_184) (fun _ h9 => h9) rfl dX3_read_142 ?_
          refine W.widen (k := 6) (n := 462) (Nat.le_of_ble_eq_true rfl) (Nat.le_of_ble_eq_true rfl) ?_
          exact W.iret (v := x1196) hx hb hr (fun t ht hW => ⟨⟨(x1196, w1095, T952), rfl, ⟨le954, hT, ke1163, ke1164⟩, CB.mk ht hP hD⟩, hS.F ht⟩) hS.2.2 dX3_read_145
        · skip
          have c1212 := i_eq (Eq.refl x1196.toInt) (show (0 : Int32).toInt = 0 by decide) c1212
          refine lv_aload_n hx hb dX3_read_102 rfl (lv_at hl 1 rfl) ?_
          refine lv_iload_n hx hb dX3_read_103 rfl (lv_at hl 4 rfl) ?_
          refine lv_iload hx hb dX3_read_104 (lv_at hl 0 rfl) ?_
          refine cga (rn_V (As := [.int p3, .int v1094]) (rest := []) (b := p0) (x_X3_readClause l D Y Z H.size w1095 T952 g q p0 p3 v1094 hT (le954.up ht0)) ⟨hx, hb, hml, hown, hg⟩ lk_X3_64 ⟨CPC.blind, va_recv hKN.1 hP (ci := 3) (q0 := p1209) rfl hk1210, CPC.at hP hKN hD hSZ hS hA⟩ ⟨⟨rfl, rfl⟩, ⟨Nat.le_of_ble_eq_true rfl, Nat.le_of_ble_eq_true rfl⟩, ⟨(Nat.le_of_ble_eq_true rfl), (Nat.le_of_ble_eq_true rfl)⟩⟩ hl.1 rfl (Nat.le_of_ble_eq_true rfl) dX3_read_106) hP hD hS hA (fun u1213 H locs hw1214 hP hD hS => ?_)
          obtain ⟨hT, ke1216, ke1217⟩ : TW Y Z T952 g q u1213 ∧ KF 1 T952 w1095 u1213 ∧ KF 6 T952 w1095 u1213 := hw1214
          have ke1218 : KF 1 T ws u1213 := KF.tr ke1163 (KF.le (by decide) le954 ke1216)
          have ke1219 : KF 6 T ws u1213 := KF.tr ke1164 (KF.le (by decide) le954 ke1217)
          refine W.eq (g2 := F0 m 109 ls []) rfl ?_
          refine lv_aload_n hx hb dX3_read_109 rfl (lv_at hl 1 rfl) ?_
          refine ok7 hT (le954.up ht0) (fun p1240 n1220 a1221 x1222 x1223 x1224 x1225 x1226 x1227 x1228 x1229 a1230 a1231 x1232 hk1241 h1233 h1234 h1235 h1236 h1237 h1238 h1239 => ?_)
          refine va_get (D := D) (ci := 3) (v := .int x1227) (C := RX3) (T := TX3) (N := 12) hx hb hg inGX3 hown hKN.1 hP p1240 hk1241 rfl 6 (by decide) (hg _ kw_184) (fun _ h9 => h9) rfl dX3_read_110 ?_
          have j1242 := rgI x1227
          refine lv_if_ne (tgt := 141) hx hb dX3_read_113 (by decide) (fun c1243 => ?_) (fun c1243 => ?_)
          · skip
            have c1243 := i_ne (Eq.refl x1227.toInt) (show (0 : Int32).toInt = 0 by decide) c1243
            refine lv_aload_n hx hb dX3_read_141 rfl (lv_at hl 1 rfl) ?_
            refine va_get (D := D) (ci := 3) (v := .int x1227) (C := RX3) (T := TX3) (N := 12) hx hb hg inGX3 hown hKN.1 hP p1240 hk1241 rfl 6 (by decide) (hg _ kw_184) (fun _ h9 => h9) rfl dX3_read_142 ?_
            refine W.widen (k := 6) (n := 462) (Nat.le_of_ble_eq_true rfl) (Nat.le_of_ble_eq_true rfl) ?_
            exact W.iret (v := x1227) hx hb hr (fun t ht hW => ⟨⟨(x1227, u1213, T952), rfl, ⟨le954, hT, ke1218, ke1219⟩, CB.mk ht hP hD⟩, hS.F ht⟩) hS.2.2 dX3_read_145
          · skip
            have c1243 := i_eq (Eq.refl x1227.toInt) (show (0 : Int32).toInt = 0 by decide) c1243
            refine lv_aload_n hx hb dX3_read_116 rfl (lv_at hl 1 rfl) ?_
            refine va_get (D := D) (ci := 3) (v := .int x1224) (C := RX3) (T := TX3) (N := 12) hx hb hg inGX3 hown hKN.1 hP p1240 hk1241 rfl 3 (by decide) (hg _ kw_181) (fun _ h9 => h9) rfl dX3_read_117 ?_
            refine lv_sipush (v := 256) hx hb dX3_read_120 (by decide) ?_
            have j1244 := rgI x1224
            refine lv_icmp_ne (tgt := 129) hx hb dX3_read_123 (by decide) (fun c1245 => ?_) (fun c1245 => ?_)
            · skip
              have c1245 := i_ne (Eq.refl x1224.toInt) (show (256 : Int32).toInt = 256 by decide) c1245
              refine lv_aload_n hx hb dX3_read_129 rfl (lv_at hl 1 rfl) ?_
              refine lv_bipush (v := 59) hx hb dX3_read_130 (by decide) ?_
              have zi59 : (59 : Int32).toInt = 59 := by decide
              refine cga (rn_V (As := [.int 59]) (rest := []) (b := p0) (x_X3_expect l D Y Z H.size u1213 T952 g q p0 59 hT (le954.up ht0)) ⟨hx, hb, hml, hown, hg⟩ lk_X3_71 ⟨CPC.blind, va_recv hKN.1 hP (ci := 3) (q0 := p1240) rfl hk1241, CPC.at hP hKN hD hSZ hS hA⟩ ⟨⟨rfl, rfl⟩, ⟨Nat.le_of_ble_eq_true rfl, Nat.le_of_ble_eq_true rfl⟩, ⟨(Nat.le_of_ble_eq_true rfl), (Nat.le_of_ble_eq_true rfl)⟩⟩ hl.1 rfl (Nat.le_of_ble_eq_true rfl) dX3_read_132) hP hD hS hA (fun u1246 H locs hw1247 hP hD hS => ?_)
              obtain ⟨hT, ke1249, ke1250⟩ : TW Y Z T952 g q u1246 ∧ KF 1 T952 u1213 u1246 ∧ KF 6 T952 u1213 u1246 := hw1247
              have ke1251 : KF 1 T ws u1246 := KF.tr ke1218 (KF.le (by decide) le954 ke1249)
              have ke1252 : KF 6 T ws u1246 := KF.tr ke1219 (KF.le (by decide) le954 ke1250)
              refine W.eq (g2 := F0 m 135 ls []) rfl ?_
              obtain ⟨v1253, ev1253⟩ : ∃ y : Int32, y = v1094 + 1 := ⟨_, rfl⟩
              have hv1253 := i_add (Eq.refl v1094.toInt) (show (1 : Int32).toInt = 1 by decide) ev1253 (by omega) (by omega)
              refine lv_iinc (v := v1253) (lv' := [(4, .int v1253), (0, .ref p0), (1, .ref p1), (2, .int p2), (3, .int p3)]) hx hb dX3_read_135 hl (k := 0) rfl (by rw [ev1253]; rfl) (by decide) rfl (fun ls hl => ?_)
              refine lv_goto (tgt := 87) hx hb dX3_read_138 (by decide) ?_
              exact ih1165 (v1253, u1246) H locs ls (by show (401 - v1253.toInt).toNat < (401 - v1094.toInt).toNat; omega) ⟨hP, hD, hS, lv_sub hl [0, 1, 2, 3, 4] rfl, hT, ke1251, ke1252, by omega⟩
            · skip
              have c1245 := i_eq (Eq.refl x1224.toInt) (show (256 : Int32).toInt = 256 by decide) c1245
              refine lv_goto (tgt := 141) hx hb dX3_read_126 (by decide) ?_
              refine lv_aload_n hx hb dX3_read_141 rfl (lv_at hl 1 rfl) ?_
              refine va_get (D := D) (ci := 3) (v := .int x1227) (C := RX3) (T := TX3) (N := 12) hx hb hg inGX3 hown hKN.1 hP p1240 hk1241 rfl 6 (by decide) (hg _ kw_184) (fun _ h9 => h9) rfl dX3_read_142 ?_
              refine W.widen (k := 6) (n := 462) (Nat.le_of_ble_eq_true rfl) (Nat.le_of_ble_eq_true rfl) ?_
              exact W.iret (v := x1227) hx hb hr (fun t ht hW => ⟨⟨(x1227, u1213, T952), rfl, ⟨le954, hT, ke1218, ke1219⟩, CB.mk ht hP hD⟩, hS.F ht⟩) hS.2.2 dX3_read_145
set_option maxHeartbeats 4000000 in
set_option maxRecDepth 100000 in
theorem x_X3_handOver (l : Launch) (D : va_G) (Y : Nat → ClassId) (Z : Nat → Nat) (sz : Nat) (ws : va_W) (T : RT) (g : GN) (q : GQ)  (p0 : Nat) (hT : TW Y Z T g q ws) (ht0 : T p0 = (7, 0, 0)) : Met l yX3_handOver (.code yX3_handOver cX3_handOver 1 (some (.object "DimStars$Text")) :: GW) ({ frames := 0, cells := 0, slots := 0, locals := 0 }) (va_Pc [.ref p0] (CPC D Y Z ws sz)) (QG (S := Nat × va_W) (fun u => some (.ref u.1)) (fun u => TW Y Z T g q u.2 ∧ KF 1 T ws u.2 ∧ KF 6 T ws u.2 ∧ T u.1 = (5, 0, 0)) (fun u => CB D u.2 (va_A ws sz)) (va_A ws sz)) 0 0 (va_A ws sz) := by
  refine Met.ofW (cc := cX3_handOver) (maxL := 1) (ret := (some (.object "DimStars$Text"))) (by decide) rfl ?_
  intro p e s m args below meth c s₁ B hml hv
  obtain ⟨rfl, ⟨hsz, hP, hKN, hD0⟩, hSZ⟩ := hv
  have hx := B.exec
  have hb := B.bytes
  have hr := B.returns
  have hts := atoms_spec (ws := .code yX3_handOver cX3_handOver 1 (some (.object "DimStars$Text")) :: GW) B.pre
  have hg : ∀ w ∈ GW, w.before _ s = true := fun w h => hts w (List.mem_cons_of_mem _ h)
  have hown : s.vm.findClass RX3 = some m.cls := findClass_of_methodNamed B.named
  have hlocks := B.notSynchronized
  subst hsz
  have hD := hD0.self (sz := s.heap.size)
  generalize hAe : va_A ws s.heap.size = A at hD hSZ ⊢
  have hA : ∀ q : Nat, s.heap.size ≤ q → A q := fun q h => by rw [← hAe]; exact Or.inr h
  clear hAe hD0 hts B
  have hl := lv_entry ([.ref p0]) (n := 1) (Nat.le_of_ble_eq_true rfl)
  rw [lg_entry_eq]
  generalize (lg_sl ([.ref p0]) ++ List.replicate (1 - (lg_sl ([.ref p0])).length) Slot.unset).toArray = ls at hl ⊢
  have hl : lv_has ls 1 [(0, .ref p0)] := hl
  refine w_start (A0 := A) hP (fun H locs hP hS => ?_)
  refine lv_aload_n hx hb dX3_handOver_0 rfl (lv_at hl 0 rfl) ?_
  refine lv_iconst (v := 1) hx hb dX3_handOver_1 (by decide) ?_
  refine ok7 hT ht0 (fun p21 n1 a2 x3 x4 x5 x6 x7 x8 x9 x10 a11 a12 x13 hk22 h14 h15 h16 h17 h18 h19 h20 => ?_)
  refine va_put (D := D) (ci := 3) (v := .int 1) (ty := .boolean) (C := RX3) (T := TX3) (N := 12) hx hb hg inGX3 tyX3 tyX3_ok nmX3 hown hKN.1 hP hD hS p21 hk22 rfl 11 (by decide) (hg _ kw_189) (fun _ h9 => h9) rfl (by decide +kernel) rfl rfl (Nat.le_of_ble_eq_true rfl) dX3_handOver_2 (fun H locs hP hD2 hS => ?_)
  have zi1 : (1 : Int32).toInt = 1 := by decide
  obtain ⟨w23, hP, hD, hT, hk25, kp24⟩ : ∃ wz, va_P D vwCl wz H ∧ va_D A wz ∧ TW Y Z T g q wz ∧ wz[p21]? = some (p0, .inr (3, [.ref a2, .int x3, .int x4, .int x5, .int x6, .int x7, .int x8, .int x9, .int x10, .ref (Z a11), .ref a12, .int 1])) ∧ Kp p0 ws wz := ⟨_, hP, hD2, st7 hT hD hk22 ht0 ⟨n1, a2, x3, x4, x5, x6, x7, x8, x9, x10, a11, a12, (1), rfl, h14, by omega, by omega, h17, h18, by omega, h20⟩, sw_eq hk22, sw_kp hk22⟩
  have ke26 : KF 1 T ws w23 := KF.tr KF.rf (KF.kp kp24 ht0 (by decide))
  have ke27 : KF 6 T ws w23 := KF.tr KF.rf (KF.kp kp24 ht0 (by decide))
  refine lv_aload_n hx hb dX3_handOver_5 rfl (lv_at hl 0 rfl) ?_
  refine va_get (D := D) (ci := 3) (v := .ref a12) (C := RX3) (T := TX3) (N := 12) hx hb hg inGX3 hown hKN.1 hP p21 hk25 rfl 10 (by decide) (hg _ kw_188) (fun _ h9 => h9) rfl dX3_handOver_6 ?_
  refine W.widen (k := 0) (n := 0) (Nat.le_of_ble_eq_true rfl) (Nat.le_of_ble_eq_true rfl) ?_
  exact W.aret (v := .ref a12) hx hb hr (Or.inl ⟨_, rfl⟩) (Or.inr ⟨_, rfl⟩) (fun t ht hW => ⟨⟨(a12, w23), rfl, ⟨hT, ke26, ke27, h18⟩, CB.mk ht hP hD⟩, hS.F ht⟩) hS.2.2 dX3_handOver_9
