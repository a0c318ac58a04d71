set_option maxHeartbeats 4000000 in
set_option maxRecDepth 100000 in
theorem x_X10_shift (l : Launch) (D : va_G) (Y : Nat → ClassId) (Z : Nat → Nat) (sz : Nat) (ws : va_W) (T : RT) (g : GN) (q : GQ)  (p0 : Nat) (p1 : Int32) (p2 : Int32) (p3 : Int32) (hT : TW Y Z T g q ws) (ht0 : T p0 = (1, 0, 0)) : Met l yX10_shift (.code yX10_shift cX10_shift 5 (some .int) :: GW) ({ frames := 5, cells := 1, slots := 7, locals := 133 }) (va_Pc [.ref p0, .int p1, .int p2, .int p3] (CPC D Y Z ws sz)) (QG (S := Int32 × va_W × RT) (fun u => some (.int u.1)) (fun u => TLe T u.2.2 ∧ TW Y Z u.2.2 g q u.2.1 ∧ KF 1 T ws u.2.1) (fun u => CB D u.2.1 (va_A ws sz)) (va_A ws sz)) 1 7 (va_A ws sz) := by
  refine Met.ofW (cc := cX10_shift) (maxL := 5) (ret := (some .int)) (by decide) rfl ?_
  intro p e s m args below meth c s₁ B hml hv
  obtain ⟨rfl, ⟨hsz, hP, hKN, hD0⟩, hSZ⟩ := hv
  have hx := B.exec
  have hb := B.bytes
  have hr := B.returns
  have hts := atoms_spec (ws := .code yX10_shift cX10_shift 5 (some .int) :: GW) B.pre
  have hg : ∀ w ∈ GW, w.before _ s = true := fun w h => hts w (List.mem_cons_of_mem _ h)
  have hown : s.vm.findClass RX10 = some m.cls := findClass_of_methodNamed B.named
  have hlocks := B.notSynchronized
  subst hsz
  have hD := hD0.self (sz := s.heap.size)
  generalize hAe : va_A ws s.heap.size = A at hD hSZ ⊢
  have hA : ∀ q : Nat, s.heap.size ≤ q → A q := fun q h => by rw [← hAe]; exact Or.inr h
  clear hAe hD0 hts B
  have hl := lv_entry ([.ref p0, .int p1, .int p2, .int p3]) (n := 5) (Nat.le_of_ble_eq_true rfl)
  rw [lg_entry_eq]
  generalize (lg_sl ([.ref p0, .int p1, .int p2, .int p3]) ++ List.replicate (5 - (lg_sl ([.ref p0, .int p1, .int p2, .int p3])).length) Slot.unset).toArray = ls at hl ⊢
  have hl : lv_has ls 5 [(0, .ref p0), (1, .int p1), (2, .int p2), (3, .int p3)] := hl
  refine w_start (A0 := A) hP (fun H locs hP hS => ?_)
  refine lv_aload_n hx hb dX10_shift_0 rfl (lv_at hl 0 rfl) ?_
  refine lv_iload_n hx hb dX10_shift_1 rfl (lv_at hl 1 rfl) ?_
  refine ok1 hT ht0 (fun p42 a1 a2 a3 a4 a5 x6 x7 x8 a9 a10 a11 a12 a13 a14 a15 a16 a17 x18 a19 a20 hk43 h21 h22 h23 h24 h25 h26 h27 h28 h29 h30 h31 h32 h33 h34 h35 h36 h37 h38 h39 h40 h41 => ?_)
  refine cga (rn_V (As := [.int p1]) (rest := []) (b := p0) (x_X10_searchAt l D Y Z H.size ws T g q p0 p1 hT ht0) ⟨hx, hb, hml, hown, hg⟩ lk_X10_259 ⟨CPC.blind, va_recv hKN.1 hP (ci := 10) (q0 := p42) rfl hk43, CPC.at hP hKN hD hSZ hS hA⟩ ⟨⟨rfl, rfl⟩, ⟨Nat.le_of_ble_eq_true rfl, Nat.le_of_ble_eq_true rfl⟩, ⟨(Nat.le_of_ble_eq_true rfl), (Nat.le_of_ble_eq_true rfl)⟩⟩ hl.1 rfl (Nat.le_of_ble_eq_true rfl) dX10_shift_2) hP hD hS hA (fun u44 H locs hw45 hP hD hS => ?_)
  obtain ⟨ht47, hw48⟩ : (∀ b, u44 = some b → T b = (5, 0, 0)) ∧ (∀ b, u44 = some b → 0 ≤ p1.toInt ∧ p1.toInt ≤ 5) := hw45
  refine W.eq (g2 := F0 m 5 ls [va_rf u44]) rfl ?_
  rcases u44 with _ | b49
  · skip
    refine W.eq (g2 := F0 m 5 ls [.null]) rfl ?_
    refine lv_ifnullN (tgt := 27) hx hb dX10_shift_5 (by decide) ?_
    refine lv_sipush (v := (-200)) hx hb dX10_shift_27 (by decide) ?_
    refine W.widen (k := 1) (n := 7) (Nat.le_of_ble_eq_true rfl) (Nat.le_of_ble_eq_true rfl) ?_
    have zim200 : ((-200) : Int32).toInt = -200 := by decide
    exact W.iret (v := (-200)) hx hb hr (fun t ht hW => ⟨⟨(((-200)), ws, T), rfl, ⟨TLe.rf, hT, KF.rf⟩, CB.mk ht hP hD⟩, hS.F ht⟩) hS.2.2 dX10_shift_30
  · skip
    have ht50 := ht47 b49 rfl
    have h51 := hw48 b49 rfl
    refine W.eq (g2 := F0 m 5 ls [.ref b49]) rfl ?_
    refine lv_ifnull hx hb dX10_shift_5 ?_
    refine lv_aload_n hx hb dX10_shift_8 rfl (lv_at hl 0 rfl) ?_
    refine lv_iload_n hx hb dX10_shift_9 rfl (lv_at hl 2 rfl) ?_
    refine cga (rn_V (As := [.int p2]) (rest := []) (b := p0) (x_X10_isStar l D Y Z H.size ws T g q p0 p2 hT ht0) ⟨hx, hb, hml, hown, hg⟩ lk_X10_137 ⟨CPC.blind, va_recv hKN.1 hP (ci := 10) (q0 := p42) rfl hk43, CPC.at hP hKN hD hSZ hS hA⟩ ⟨⟨rfl, rfl⟩, ⟨Nat.le_of_ble_eq_true rfl, Nat.le_of_ble_eq_true rfl⟩, ⟨(Nat.le_of_ble_eq_true rfl), (Nat.le_of_ble_eq_true rfl)⟩⟩ hl.1 rfl (Nat.le_of_ble_eq_true rfl) dX10_shift_10) hP hD hS hA (fun u52 H locs hw53 hP hD hS => ?_)
    obtain ⟨hw55, hw56⟩ : (0 ≤ u52.toInt ∧ u52.toInt ≤ 1) ∧ (u52.toInt = 1 → (0 ≤ p2.toInt ∧ p2.toInt ≤ 11)) := hw53
    refine W.eq (g2 := F0 m 13 ls [.int u52]) rfl ?_
    rcases (show u52.toInt = 1 ∨ u52.toInt = 0 by omega) with c57 | c57
    · obtain rfl : u52 = 1 := i_is c57 (by decide)
      have zi1 : (1 : Int32).toInt = 1 := by decide
      replace hw56 := hw56 (by decide)
      refine W.eq (g2 := F0 m 13 ls [.int 1]) rfl ?_
      refine lv_if_eq (tgt := 27) hx hb dX10_shift_13 (by decide) (fun c58 => ?_) (fun c58 => ?_)
      · exact absurd c58 (by decide)
      refine lv_iload_n hx hb dX10_shift_16 rfl (lv_at hl 3 rfl) ?_
      refine lv_iconst (v := (-1)) hx hb dX10_shift_17 (by decide) ?_
      refine lv_sipush (v := 300) hx hb dX10_shift_18 (by decide) ?_
      have zim1 : ((-1) : Int32).toInt = -1 := by decide
      have zi300 : (300 : Int32).toInt = 300 := by decide
      refine cg0 (rn_S (As := [.int p3, .int (-1), .int 300]) (rest := []) (x_X10_isWithin l D Y Z H.size p3 (-1) 300) ⟨hx, hb, hml, hown, hg⟩ lk_X10_100 ⟨CP.blind, CP.at nilP hKN (nilD (A := fun _ => True))⟩ ⟨⟨rfl, rfl⟩, ⟨Nat.le_of_ble_eq_true rfl, Nat.le_of_ble_eq_true rfl⟩, ⟨(Nat.le_of_ble_eq_true rfl), (Nat.le_of_ble_eq_true rfl)⟩⟩ hl.1 rfl (Nat.le_of_ble_eq_true rfl) dX10_shift_21) hP hS hA (fun u59 H locs hw60 hP hS => ?_)
      obtain ⟨hw62, hw63⟩ : ((((-1) : Int32).toInt ≤ p3.toInt ∧ p3.toInt ≤ (300 : Int32).toInt ∧ u59.toInt = 1) ∨ (¬ (((-1) : Int32).toInt ≤ p3.toInt ∧ p3.toInt ≤ (300 : Int32).toInt) ∧ u59.toInt = 0)) ∧ (0 ≤ u59.toInt ∧ u59.toInt ≤ 1) := hw60
      refine W.eq (g2 := F0 m 24 ls [.int u59]) rfl ?_
      rcases (show u59.toInt = 1 ∨ u59.toInt = 0 by omega) with c64 | c64
      · obtain rfl : u59 = 1 := i_is c64 (by decide)
        refine W.eq (g2 := F0 m 24 ls [.int 1]) rfl ?_
        refine lv_if_ne (tgt := 31) hx hb dX10_shift_24 (by decide) (fun c65 => ?_) (fun c65 => ?_)
        rotate_left
        · exact absurd c65 (by decide)
        refine lv_aload_n hx hb dX10_shift_31 rfl (lv_at hl 0 rfl) ?_
        refine lv_iload_n hx hb dX10_shift_32 rfl (lv_at hl 1 rfl) ?_
        refine lv_iload_n hx hb dX10_shift_33 rfl (lv_at hl 2 rfl) ?_
        refine lv_iconst (v := 0) hx hb dX10_shift_34 (by decide) ?_
        have zi0 : (0 : Int32).toInt = 0 := by decide
        refine cga (rn_V (As := [.int p1, .int p2, .int 0]) (rest := []) (b := p0) (x_X10_findingOf l D Y Z H.size ws T g q p0 p1 p2 0 hT ht0) ⟨hx, hb, hml, hown, hg⟩ lk_X10_264 ⟨CPC.blind, va_recv hKN.1 hP (ci := 10) (q0 := p42) rfl hk43, CPC.at hP hKN hD hSZ hS hA⟩ ⟨⟨rfl, rfl⟩, ⟨Nat.le_of_ble_eq_true rfl, Nat.le_of_ble_eq_true rfl⟩, ⟨(Nat.le_of_ble_eq_true rfl), (Nat.le_of_ble_eq_true rfl)⟩⟩ hl.1 rfl (Nat.le_of_ble_eq_true rfl) dX10_shift_35) hP hD hS hA (fun u66 H locs hw67 hP hD hS => ?_)
        refine W.widen (k := 1) (n := 7) (Nat.le_of_ble_eq_true rfl) (Nat.le_of_ble_eq_true rfl) ?_
        obtain ⟨b68, w69, T70⟩ := u66
        obtain ⟨le71, hT, ke72, ht73⟩ : TLe T T70 ∧ TW Y Z T70 g q w69 ∧ KF 1 T ws w69 ∧ T70 b68 = (6, 0, 0) := hw67
        have hk74 := ke72 _ _ hk43 (show (T p0).1 = 1 by rw [ht0])
        have ke75 : KF 1 T ws w69 := KF.tr KF.rf ke72
        refine W.eq (g2 := F0 m 38 ls [.ref b68]) rfl ?_
        refine lv_astore (lv' := [(4, .ref b68), (0, .ref p0), (1, .int p1), (2, .int p2), (3, .int p3)]) hx hb dX10_shift_38 hl (by decide) rfl (fun ls hl => ?_)
        refine lv_aload hx hb dX10_shift_40 (lv_at hl 0 rfl) ?_
        refine ok6 hT ht73 (fun p84 x76 x77 x78 x79 x80 y81 y82 hk85 h83 => ?_)
        refine cga (rn_NV (As := []) (rest := []) (b := b68) (x_X1_isNone l D Y Z H.size w69 T70 g q b68 p84 x76 x77 x78 x79 x80 y81 y82 hT ht73 hk85) ⟨hx, hb, hml, hown, hg⟩ hKN lk_X10_315 ⟨CPC.blind, va_recv hKN.1 hP (ci := 1) (q0 := p84) rfl hk85, CPC.at hP hKN hD hSZ hS hA⟩ ⟨⟨rfl, rfl⟩, ⟨Nat.le_of_ble_eq_true rfl, Nat.le_of_ble_eq_true rfl⟩, ⟨(Nat.le_of_ble_eq_true rfl), (Nat.le_of_ble_eq_true rfl)⟩⟩ hl.1 rfl (Nat.le_of_ble_eq_true rfl) dX10_shift_42) hP hD hS hA (fun u86 H locs hw87 hP hD hS => ?_)
        obtain ⟨hw89, hw90⟩ : (0 ≤ u86.toInt ∧ u86.toInt ≤ 1) ∧ (u86.toInt = 0 → 1 ≤ x77.toInt) := hw87
        refine W.eq (g2 := F0 m 45 ls [.int u86]) rfl ?_
        rcases (show u86.toInt = 1 ∨ u86.toInt = 0 by omega) with c91 | c91
        · obtain rfl : u86 = 1 := i_is c91 (by decide)
          clear hw90
          refine W.eq (g2 := F0 m 45 ls [.int 1]) rfl ?_
          refine lv_if_eq (tgt := 52) hx hb dX10_shift_45 (by decide) (fun c92 => ?_) (fun c92 => ?_)
          · exact absurd c92 (by decide)
          refine lv_sipush (v := (-200)) hx hb dX10_shift_48 (by decide) ?_
          refine W.widen (k := 1) (n := 7) (Nat.le_of_ble_eq_true rfl) (Nat.le_of_ble_eq_true rfl) ?_
          have zim200 : ((-200) : Int32).toInt = -200 := by decide
          exact W.iret (v := (-200)) hx hb hr (fun t ht hW => ⟨⟨(((-200)), w69, T70), rfl, ⟨le71, hT, ke75⟩, CB.mk ht hP hD⟩, hS.F ht⟩) hS.2.2 dX10_shift_51
        · obtain rfl : u86 = 0 := i_is c91 (by decide)
          replace hw90 := hw90 (by decide)
          refine W.eq (g2 := F0 m 45 ls [.int 0]) rfl ?_
          refine lv_if_eq (tgt := 52) hx hb dX10_shift_45 (by decide) (fun c93 => ?_) (fun c93 => ?_)
          rotate_left
          · exact absurd c93 (by decide)
          refine lv_aload_n hx hb dX10_shift_52 rfl (lv_at hl 1 rfl) ?_
          refine va_get (D := D) (ci := 10) (v := .ref a11) (C := RX10) (T := TX10) (N := 20) hx hb hg inGX10 hown hKN.1 hP p42 hk74 rfl 10 (by decide) (hg _ kw_359) (fun _ h9 => h9) rfl dX10_shift_53 ?_
          refine lv_aload_n hx hb dX10_shift_56 rfl (lv_at hl 1 rfl) ?_
          refine va_get (D := D) (ci := 10) (v := .ref a1) (C := RX10) (T := TX10) (N := 20) hx hb hg inGX10 hown hKN.1 hP p42 hk74 rfl 0 (by decide) (hg _ kw_349) (fun _ h9 => h9) rfl dX10_shift_57 ?_
          refine lv_iload_n hx hb dX10_shift_60 rfl (lv_at hl 3 rfl) ?_
          refine lv_iconst (v := 0) hx hb dX10_shift_61 (by decide) ?_
          refine ok9 hT (le71.up h33) (fun p106 a94 a95 a96 x97 y98 y99 x100 y101 hk107 h102 h103 h104 h105 => ?_)
          refine cga (rn_NV (As := [.ref a1, .int p2, .int 0]) (rest := []) (b := a11) (x_X2_see l D Y Z H.size w69 T70 g q 0 a11 a1 p2 0 hT (le71.up h33) (le71.up h21)) ⟨hx, hb, hml, hown, hg⟩ hKN lk_X10_143 ⟨CPC.blind, va_recv hKN.1 hP (ci := 2) (q0 := p106) rfl hk107, CPC.at hP hKN hD hSZ hS hA⟩ ⟨⟨rfl, rfl⟩, ⟨Nat.le_of_ble_eq_true rfl, Nat.le_of_ble_eq_true rfl⟩, ⟨(Nat.le_of_ble_eq_true rfl), (Nat.le_of_ble_eq_true rfl)⟩⟩ hl.1 rfl (Nat.le_of_ble_eq_true rfl) dX10_shift_62) hP hD hS hA (fun u108 H locs hw109 hP hD hS => ?_)
          obtain ⟨hT, ke111, ke112⟩ : TW Y Z T70 g q u108 ∧ KF 1 T70 w69 u108 ∧ KF 6 T70 w69 u108 := hw109
          have hk113 := ke111 _ _ hk74 (show (T70 p0).1 = 1 by rw [(le71.up ht0)])
          have hk114 := ke112 _ _ hk85 (show (T70 b68).1 = 6 by rw [ht73])
          have ke115 : KF 1 T ws u108 := KF.tr ke75 (KF.le (by decide) le71 ke111)
          refine W.eq (g2 := F0 m 65 ls []) rfl ?_
          refine lv_aload_n hx hb dX10_shift_65 rfl (lv_at hl 1 rfl) ?_
          refine va_get (D := D) (ci := 10) (v := .ref a11) (C := RX10) (T := TX10) (N := 20) hx hb hg inGX10 hown hKN.1 hP p42 hk113 rfl 10 (by decide) (hg _ kw_359) (fun _ h9 => h9) rfl dX10_shift_66 ?_
          refine lv_aload hx hb dX10_shift_69 (lv_at hl 0 rfl) ?_
          refine va_getN (D := D) (ci := 1) (v := .int x79) (C := RX1) (T := TX1) (N := 7) hx hb hg inGX1 hown hKN.1 hP p84 hk114 rfl 3 (by decide) (va_Nw.use rfl (hKN.2.1 _ kn_323 rfl)) (fun _ h9 => h9) rfl dX10_shift_71 ?_
          refine lv_iload_n hx hb dX10_shift_74 rfl (lv_at hl 4 rfl) ?_
          refine lv_aload hx hb dX10_shift_75 (lv_at hl 0 rfl) ?_
          refine va_getN (D := D) (ci := 1) (v := .int x77) (C := RX1) (T := TX1) (N := 7) hx hb hg inGX1 hown hKN.1 hP p84 hk114 rfl 1 (by decide) (va_Nw.use rfl (hKN.2.1 _ kn_313 rfl)) (fun _ h9 => h9) rfl dX10_shift_77 ?_
          refine lv_imul hx hb dX10_shift_80 ?_
          refine lv_topi (fun v116 ev116 => ?_)
          have hv116 := i_mulR (a := -1) (b := 300) (c := 1) (d := 200) (lo := -200) (hi := 60000) (Eq.refl p3.toInt) (Eq.refl x77.toInt) ev116 (by omega) (by omega) (by decide) (by decide)
          refine lv_iadd hx hb dX10_shift_81 ?_
          refine lv_topi (fun v117 ev117 => ?_)
          refine lv_aload hx hb dX10_shift_82 (lv_at hl 0 rfl) ?_
          refine va_getN (D := D) (ci := 1) (v := .int x78) (C := RX1) (T := TX1) (N := 7) hx hb hg inGX1 hown hKN.1 hP p84 hk114 rfl 2 (by decide) (va_Nw.use rfl (hKN.2.1 _ kn_318 rfl)) (fun _ h9 => h9) rfl dX10_shift_84 ?_
          refine ok9 hT (le71.up h33) (fun p130 a118 a119 a120 x121 y122 y123 x124 y125 hk131 h126 h127 h128 h129 => ?_)
          refine cga (rn_NV (As := [.int v117, .int x78]) (rest := []) (b := a11) (x_X2_shiftOf l D Y Z H.size u108 T70 g q a11 v117 x78 hT (le71.up h33)) ⟨hx, hb, hml, hown, hg⟩ hKN lk_X10_340 ⟨CPC.blind, va_recv hKN.1 hP (ci := 2) (q0 := p130) rfl hk131, CPC.at hP hKN hD hSZ hS hA⟩ ⟨⟨rfl, rfl⟩, ⟨Nat.le_of_ble_eq_true rfl, Nat.le_of_ble_eq_true rfl⟩, ⟨(Nat.le_of_ble_eq_true rfl), (Nat.le_of_ble_eq_true rfl)⟩⟩ hl.1 rfl (Nat.le_of_ble_eq_true rfl) dX10_shift_87) hP hD hS hA (fun u132 H locs hw133 hP hD hS => ?_)
          refine W.eq (g2 := F0 m 90 ls [.int u132]) rfl ?_
          refine W.widen (k := 1) (n := 7) (Nat.le_of_ble_eq_true rfl) (Nat.le_of_ble_eq_true rfl) ?_
          exact W.iret (v := u132) hx hb hr (fun t ht hW => ⟨⟨(u132, u108, T70), rfl, ⟨le71, hT, ke115⟩, CB.mk ht hP hD⟩, hS.F ht⟩) hS.2.2 dX10_shift_90
      · obtain rfl : u59 = 0 := i_is c64 (by decide)
        have zi0 : (0 : Int32).toInt = 0 := by decide
        refine W.eq (g2 := F0 m 24 ls [.int 0]) rfl ?_
        refine lv_if_ne (tgt := 31) hx hb dX10_shift_24 (by decide) (fun c135 => ?_) (fun c135 => ?_)
        · exact absurd c135 (by decide)
        refine lv_sipush (v := (-200)) hx hb dX10_shift_27 (by decide) ?_
        refine W.widen (k := 1) (n := 7) (Nat.le_of_ble_eq_true rfl) (Nat.le_of_ble_eq_true rfl) ?_
        have zim200 : ((-200) : Int32).toInt = -200 := by decide
        exact W.iret (v := (-200)) hx hb hr (fun t ht hW => ⟨⟨(((-200)), ws, T), rfl, ⟨TLe.rf, hT, KF.rf⟩, CB.mk ht hP hD⟩, hS.F ht⟩) hS.2.2 dX10_shift_30
    · obtain rfl : u52 = 0 := i_is c57 (by decide)
      have zi0 : (0 : Int32).toInt = 0 := by decide
      clear hw56
      refine W.eq (g2 := F0 m 13 ls [.int 0]) rfl ?_
      refine lv_if_eq (tgt := 27) hx hb dX10_shift_13 (by decide) (fun c136 => ?_) (fun c136 => ?_)
      rotate_left
      · exact absurd c136 (by decide)
      refine lv_sipush (v := (-200)) hx hb dX10_shift_27 (by decide) ?_
      refine W.widen (k := 1) (n := 7) (Nat.le_of_ble_eq_true rfl) (Nat.le_of_ble_eq_true rfl) ?_
      have zim200 : ((-200) : Int32).toInt = -200 := by decide
      exact W.iret (v := (-200)) hx hb hr (fun t ht hW => ⟨⟨(((-200)), ws, T), rfl, ⟨TLe.rf, hT, KF.rf⟩, CB.mk ht hP hD⟩, hS.F ht⟩) hS.2.2 dX10_shift_30
set_option maxHeartbeats 4000000 in
set_option maxRecDepth 100000 in
theorem x_X10_weight (l : Launch) (D : va_G) (Y : Nat → ClassId) (Z : Nat → Nat) (sz : Nat) (ws : va_W) (T : RT) (g : GN) (q : GQ)  (p0 : Nat) (p1 : Int32) (p2 : Int32) (p3 : Int32) (p4 : Int32) (hT : TW Y Z T g q ws) (ht0 : T p0 = (1, 0, 0)) : Met l yX10_weight (.code yX10_weight cX10_weight 5 (some .int) :: GW) ({ frames := 7, cells := 13, slots := 91, locals := 179 }) (va_Pc [.ref p0, .int p1, .int p2, .int p3, .int p4] (CPC D Y Z ws sz)) (QG (S := Int32 × va_W × RT) (fun u => some (.int u.1)) (fun u => TLe T u.2.2 ∧ TW Y Z u.2.2 g q u.2.1 ∧ KF 1 T ws u.2.1) (fun u => CB D u.2.1 (va_A ws sz)) (va_A ws sz)) 13 91 (va_A ws sz) := by
  refine Met.ofW (cc := cX10_weight) (maxL := 5) (ret := (some .int)) (by decide) rfl ?_
  intro p e s m args below meth c s₁ B hml hv
  obtain ⟨rfl, ⟨hsz, hP, hKN, hD0⟩, hSZ⟩ := hv
  have hx := B.exec
  have hb := B.bytes
  have hr := B.returns
  have hts := atoms_spec (ws := .code yX10_weight cX10_weight 5 (some .int) :: GW) B.pre
  have hg : ∀ w ∈ GW, w.before _ s = true := fun w h => hts w (List.mem_cons_of_mem _ h)
  have hown : s.vm.findClass RX10 = some m.cls := findClass_of_methodNamed B.named
  have hlocks := B.notSynchronized
  subst hsz
  have hD := hD0.self (sz := s.heap.size)
  generalize hAe : va_A ws s.heap.size = A at hD hSZ ⊢
  have hA : ∀ q : Nat, s.heap.size ≤ q → A q := fun q h => by rw [← hAe]; exact Or.inr h
  clear hAe hD0 hts B
  have hl := lv_entry ([.ref p0, .int p1, .int p2, .int p3, .int p4]) (n := 5) (Nat.le_of_ble_eq_true rfl)
  rw [lg_entry_eq]
  generalize (lg_sl ([.ref p0, .int p1, .int p2, .int p3, .int p4]) ++ List.replicate (5 - (lg_sl ([.ref p0, .int p1, .int p2, .int p3, .int p4])).length) Slot.unset).toArray = ls at hl ⊢
  have hl : lv_has ls 5 [(0, .ref p0), (1, .int p1), (2, .int p2), (3, .int p3), (4, .int p4)] := hl
  refine w_start (A0 := A) hP (fun H locs hP hS => ?_)
  refine lv_iload hx hb dX10_weight_0 (lv_at hl 4 rfl) ?_
  refine lv_iconst (v := 0) hx hb dX10_weight_2 (by decide) ?_
  refine lv_iconst (v := 4) hx hb dX10_weight_3 (by decide) ?_
  have zi0 : (0 : Int32).toInt = 0 := by decide
  have zi4 : (4 : Int32).toInt = 4 := by decide
  refine cg0 (rn_S (As := [.int p4, .int 0, .int 4]) (rest := []) (x_X10_isWithin l D Y Z H.size p4 0 4) ⟨hx, hb, hml, hown, hg⟩ lk_X10_100 ⟨CP.blind, CP.at nilP hKN (nilD (A := fun _ => True))⟩ ⟨⟨rfl, rfl⟩, ⟨Nat.le_of_ble_eq_true rfl, Nat.le_of_ble_eq_true rfl⟩, ⟨(Nat.le_of_ble_eq_true rfl), (Nat.le_of_ble_eq_true rfl)⟩⟩ hl.1 rfl (Nat.le_of_ble_eq_true rfl) dX10_weight_4) hP hS hA (fun u1 H locs hw2 hP hS => ?_)
  obtain ⟨hw4, hw5⟩ : (((0 : Int32).toInt ≤ p4.toInt ∧ p4.toInt ≤ (4 : Int32).toInt ∧ u1.toInt = 1) ∨ (¬ ((0 : Int32).toInt ≤ p4.toInt ∧ p4.toInt ≤ (4 : Int32).toInt) ∧ u1.toInt = 0)) ∧ (0 ≤ u1.toInt ∧ u1.toInt ≤ 1) := hw2
  refine W.eq (g2 := F0 m 7 ls [.int u1]) rfl ?_
  rcases (show u1.toInt = 1 ∨ u1.toInt = 0 by omega) with c6 | c6
  · obtain rfl : u1 = 1 := i_is c6 (by decide)
    have zi1 : (1 : Int32).toInt = 1 := by decide
    refine W.eq (g2 := F0 m 7 ls [.int 1]) rfl ?_
    refine lv_if_eq (tgt := 20) hx hb dX10_weight_7 (by decide) (fun c7 => ?_) (fun c7 => ?_)
    · exact absurd c7 (by decide)
    refine lv_aload_n hx hb dX10_weight_10 rfl (lv_at hl 0 rfl) ?_
    refine lv_iload_n hx hb dX10_weight_11 rfl (lv_at hl 1 rfl) ?_
    refine lv_iload_n hx hb dX10_weight_12 rfl (lv_at hl 2 rfl) ?_
    refine lv_iload_n hx hb dX10_weight_13 rfl (lv_at hl 3 rfl) ?_
    refine ok1 hT ht0 (fun p49 a8 a9 a10 a11 a12 x13 x14 x15 a16 a17 a18 a19 a20 a21 a22 a23 a24 x25 a26 a27 hk50 h28 h29 h30 h31 h32 h33 h34 h35 h36 h37 h38 h39 h40 h41 h42 h43 h44 h45 h46 h47 h48 => ?_)
    refine cga (rn_V (As := [.int p1, .int p2, .int p3]) (rest := []) (b := p0) (x_X10_isWeighed l D Y Z H.size ws T g q p0 p1 p2 p3 hT ht0) ⟨hx, hb, hml, hown, hg⟩ lk_X10_343 ⟨CPC.blind, va_recv hKN.1 hP (ci := 10) (q0 := p49) rfl hk50, CPC.at hP hKN hD hSZ hS hA⟩ ⟨⟨rfl, rfl⟩, ⟨Nat.le_of_ble_eq_true rfl, Nat.le_of_ble_eq_true rfl⟩, ⟨(Nat.le_of_ble_eq_true rfl), (Nat.le_of_ble_eq_true rfl)⟩⟩ hl.1 rfl (Nat.le_of_ble_eq_true rfl) dX10_weight_14) hP hD hS hA (fun u51 H locs hw52 hP hD hS => ?_)
    refine W.widen (k := 13) (n := 91) (Nat.le_of_ble_eq_true rfl) (Nat.le_of_ble_eq_true rfl) ?_
    obtain ⟨u53, w54, T55⟩ := u51
    obtain ⟨le56, hT, ke57, hw58⟩ : TLe T T55 ∧ TW Y Z T55 g q w54 ∧ KF 1 T ws w54 ∧ (0 ≤ u53.toInt ∧ u53.toInt ≤ 1) := hw52
    have hk59 := ke57 _ _ hk50 (show (T p0).1 = 1 by rw [ht0])
    have ke60 : KF 1 T ws w54 := KF.tr KF.rf ke57
    refine W.eq (g2 := F0 m 17 ls [.int u53]) rfl ?_
    rcases (show u53.toInt = 1 ∨ u53.toInt = 0 by omega) with c61 | c61
    · obtain rfl : u53 = 1 := i_is c61 (by decide)
      refine W.eq (g2 := F0 m 17 ls [.int 1]) rfl ?_
      refine lv_if_ne (tgt := 22) hx hb dX10_weight_17 (by decide) (fun c62 => ?_) (fun c62 => ?_)
      rotate_left
      · exact absurd c62 (by decide)
      refine lv_aload_n hx hb dX10_weight_22 rfl (lv_at hl 0 rfl) ?_
      refine va_get (D := D) (ci := 10) (v := .ref a27) (C := RX10) (T := TX10) (N := 20) hx hb hg inGX10 hown hKN.1 hP p49 hk59 rfl 19 (by decide) (hg _ kw_368) (fun _ h9 => h9) rfl dX10_weight_23 ?_
      refine lv_iload hx hb dX10_weight_26 (lv_at hl 4 rfl) ?_
      refine tr_ld12 hx hb hKN hP hT (le56.up h48) (vp_in_iff.mpr ⟨by omega, by omega⟩) dX10_weight_28 (fun v63 => ?_)
      refine W.widen (k := 13) (n := 91) (Nat.le_of_ble_eq_true rfl) (Nat.le_of_ble_eq_true rfl) ?_
      exact W.iret (v := v63) hx hb hr (fun t ht hW => ⟨⟨(v63, w54, T55), rfl, ⟨le56, hT, ke60⟩, CB.mk ht hP hD⟩, hS.F ht⟩) hS.2.2 dX10_weight_29
    · obtain rfl : u53 = 0 := i_is c61 (by decide)
      refine W.eq (g2 := F0 m 17 ls [.int 0]) rfl ?_
      refine lv_if_ne (tgt := 22) hx hb dX10_weight_17 (by decide) (fun c64 => ?_) (fun c64 => ?_)
      · exact absurd c64 (by decide)
      refine lv_iconst (v := (-1)) hx hb dX10_weight_20 (by decide) ?_
      refine W.widen (k := 13) (n := 91) (Nat.le_of_ble_eq_true rfl) (Nat.le_of_ble_eq_true rfl) ?_
      have zim1 : ((-1) : Int32).toInt = -1 := by decide
      exact W.iret (v := (-1)) hx hb hr (fun t ht hW => ⟨⟨(((-1)), w54, T55), rfl, ⟨le56, hT, ke60⟩, CB.mk ht hP hD⟩, hS.F ht⟩) hS.2.2 dX10_weight_21
  · obtain rfl : u1 = 0 := i_is c6 (by decide)
    refine W.eq (g2 := F0 m 7 ls [.int 0]) rfl ?_
    refine lv_if_eq (tgt := 20) hx hb dX10_weight_7 (by decide) (fun c65 => ?_) (fun c65 => ?_)
    rotate_left
    · exact absurd c65 (by decide)
    refine lv_iconst (v := (-1)) hx hb dX10_weight_20 (by decide) ?_
    refine W.widen (k := 13) (n := 91) (Nat.le_of_ble_eq_true rfl) (Nat.le_of_ble_eq_true rfl) ?_
    have zim1 : ((-1) : Int32).toInt = -1 := by decide
    exact W.iret (v := (-1)) hx hb hr (fun t ht hW => ⟨⟨(((-1)), ws, T), rfl, ⟨TLe.rf, hT, KF.rf⟩, CB.mk ht hP hD⟩, hS.F ht⟩) hS.2.2 dX10_weight_21
set_option maxHeartbeats 4000000 in
set_option maxRecDepth 100000 in
theorem x_X10_sorted (l : Launch) (D : va_G) (Y : Nat → ClassId) (Z : Nat → Nat) (sz : Nat) (ws : va_W) (T : RT) (g : GN) (q : GQ)  (p0 : Nat) (p1 : Int32) (p2 : Int32) (p3 : Int32) (hT : TW Y Z T g q ws) (ht0 : T p0 = (1, 0, 0)) : Met l yX10_sorted (.code yX10_sorted cX10_sorted 4 (some .int) :: GW) ({ frames := 7, cells := 13, slots := 91, locals := 179 }) (va_Pc [.ref p0, .int p1, .int p2, .int p3] (CPC D Y Z ws sz)) (QG (S := Int32 × va_W × RT) (fun u => some (.int u.1)) (fun u => TLe T u.2.2 ∧ TW Y Z u.2.2 g q u.2.1 ∧ KF 1 T ws u.2.1) (fun u => CB D u.2.1 (va_A ws sz)) (va_A ws sz)) 13 91 (va_A ws sz) := by
  refine Met.ofW (cc := cX10_sorted) (maxL := 4) (ret := (some .int)) (by decide) rfl ?_
  intro p e s m args below meth c s₁ B hml hv
  obtain ⟨rfl, ⟨hsz, hP, hKN, hD0⟩, hSZ⟩ := hv
  have hx := B.exec
  have hb := B.bytes
  have hr := B.returns
  have hts := atoms_spec (ws := .code yX10_sorted cX10_sorted 4 (some .int) :: GW) B.pre
  have hg : ∀ w ∈ GW, w.before _ s = true := fun w h => hts w (List.mem_cons_of_mem _ h)
  have hown : s.vm.findClass RX10 = some m.cls := findClass_of_methodNamed B.named
  have hlocks := B.notSynchronized
  subst hsz
  have hD := hD0.self (sz := s.heap.size)
  generalize hAe : va_A ws s.heap.size = A at hD hSZ ⊢
  have hA : ∀ q : Nat, s.heap.size ≤ q → A q := fun q h => by rw [← hAe]; exact Or.inr h
  clear hAe hD0 hts B
  have hl := lv_entry ([.ref p0, .int p1, .int p2, .int p3]) (n := 4) (Nat.le_of_ble_eq_true rfl)
  rw [lg_entry_eq]
  generalize (lg_sl ([.ref p0, .int p1, .int p2, .int p3]) ++ List.replicate (4 - (lg_sl ([.ref p0, .int p1, .int p2, .int p3])).length) Slot.unset).toArray = ls at hl ⊢
  have hl : lv_has ls 4 [(0, .ref p0), (1, .int p1), (2, .int p2), (3, .int p3)] := hl
  refine w_start (A0 := A) hP (fun H locs hP hS => ?_)
  refine lv_aload_n hx hb dX10_sorted_0 rfl (lv_at hl 0 rfl) ?_
  refine lv_iload_n hx hb dX10_sorted_1 rfl (lv_at hl 1 rfl) ?_
  refine lv_iload_n hx hb dX10_sorted_2 rfl (lv_at hl 2 rfl) ?_
  refine lv_iload_n hx hb dX10_sorted_3 rfl (lv_at hl 3 rfl) ?_
  refine ok1 hT ht0 (fun p42 a1 a2 a3 a4 a5 x6 x7 x8 a9 a10 a11 a12 a13 a14 a15 a16 a17 x18 a19 a20 hk43 h21 h22 h23 h24 h25 h26 h27 h28 h29 h30 h31 h32 h33 h34 h35 h36 h37 h38 h39 h40 h41 => ?_)
  refine cga (rn_V (As := [.int p1, .int p2, .int p3]) (rest := []) (b := p0) (x_X10_isWeighed l D Y Z H.size ws T g q p0 p1 p2 p3 hT ht0) ⟨hx, hb, hml, hown, hg⟩ lk_X10_343 ⟨CPC.blind, va_recv hKN.1 hP (ci := 10) (q0 := p42) rfl hk43, CPC.at hP hKN hD hSZ hS hA⟩ ⟨⟨rfl, rfl⟩, ⟨Nat.le_of_ble_eq_true rfl, Nat.le_of_ble_eq_true rfl⟩, ⟨(Nat.le_of_ble_eq_true rfl), (Nat.le_of_ble_eq_true rfl)⟩⟩ hl.1 rfl (Nat.le_of_ble_eq_true rfl) dX10_sorted_4) hP hD hS hA (fun u44 H locs hw45 hP hD hS => ?_)
  refine W.widen (k := 13) (n := 91) (Nat.le_of_ble_eq_true rfl) (Nat.le_of_ble_eq_true rfl) ?_
  obtain ⟨u46, w47, T48⟩ := u44
  obtain ⟨le49, hT, ke50, hw51⟩ : TLe T T48 ∧ TW Y Z T48 g q w47 ∧ KF 1 T ws w47 ∧ (0 ≤ u46.toInt ∧ u46.toInt ≤ 1) := hw45
  have hk52 := ke50 _ _ hk43 (show (T p0).1 = 1 by rw [ht0])
  have ke53 : KF 1 T ws w47 := KF.tr KF.rf ke50
  refine W.eq (g2 := F0 m 7 ls [.int u46]) rfl ?_
  rcases (show u46.toInt = 1 ∨ u46.toInt = 0 by omega) with c54 | c54
  · obtain rfl : u46 = 1 := i_is c54 (by decide)
    have zi1 : (1 : Int32).toInt = 1 := by decide
    refine W.eq (g2 := F0 m 7 ls [.int 1]) rfl ?_
    refine lv_if_ne (tgt := 12) hx hb dX10_sorted_7 (by decide) (fun c55 => ?_) (fun c55 => ?_)
    rotate_left
    · exact absurd c55 (by decide)
    refine lv_aload_n hx hb dX10_sorted_12 rfl (lv_at hl 0 rfl) ?_
    refine cga (rn_V (As := []) (rest := []) (b := p0) (x_X10_heaviest l D Y Z H.size w47 T48 g q p0 hT (le49.up ht0)) ⟨hx, hb, hml, hown, hg⟩ lk_X10_346 ⟨CPC.blind, va_recv hKN.1 hP (ci := 10) (q0 := p42) rfl hk52, CPC.at hP hKN hD hSZ hS hA⟩ ⟨⟨rfl, rfl⟩, ⟨Nat.le_of_ble_eq_true rfl, Nat.le_of_ble_eq_true rfl⟩, ⟨(Nat.le_of_ble_eq_true rfl), (Nat.le_of_ble_eq_true rfl)⟩⟩ hl.1 rfl (Nat.le_of_ble_eq_true rfl) dX10_sorted_13) hP hD hS hA (fun u56 H locs hw57 hP hD hS => ?_)
    refine W.eq (g2 := F0 m 16 ls [.int u56]) rfl ?_
    refine W.widen (k := 13) (n := 91) (Nat.le_of_ble_eq_true rfl) (Nat.le_of_ble_eq_true rfl) ?_
    exact W.iret (v := u56) hx hb hr (fun t ht hW => ⟨⟨(u56, w47, T48), rfl, ⟨le49, hT, ke53⟩, CB.mk ht hP hD⟩, hS.F ht⟩) hS.2.2 dX10_sorted_16
  · obtain rfl : u46 = 0 := i_is c54 (by decide)
    have zi0 : (0 : Int32).toInt = 0 := by decide
    refine W.eq (g2 := F0 m 7 ls [.int 0]) rfl ?_
    refine lv_if_ne (tgt := 12) hx hb dX10_sorted_7 (by decide) (fun c59 => ?_) (fun c59 => ?_)
    · exact absurd c59 (by decide)
    refine lv_iconst (v := (-1)) hx hb dX10_sorted_10 (by decide) ?_
    refine W.widen (k := 13) (n := 91) (Nat.le_of_ble_eq_true rfl) (Nat.le_of_ble_eq_true rfl) ?_
    have zim1 : ((-1) : Int32).toInt = -1 := by decide
    exact W.iret (v := (-1)) hx hb hr (fun t ht hW => ⟨⟨(((-1)), w47, T48), rfl, ⟨le49, hT, ke53⟩, CB.mk ht hP hD⟩, hS.F ht⟩) hS.2.2 dX10_sorted_11
set_option maxHeartbeats 4000000 in
set_option maxRecDepth 100000 in
theorem x_X10_odds (l : Launch) (D : va_G) (Y : Nat → ClassId) (Z : Nat → Nat) (sz : Nat) (ws : va_W) (T : RT) (g : GN) (q : GQ)  (p0 : Nat) (p1 : Int32) (p2 : Int32) (p3 : Int32) (p4 : Int32) (p5 : Int32) (hT : TW Y Z T g q ws) (ht0 : T p0 = (1, 0, 0)) : Met l yX10_odds (.code yX10_odds cX10_odds 9 (some .int) :: GW) ({ frames := 7, cells := 13, slots := 91, locals := 179 }) (va_Pc [.ref p0, .int p1, .int p2, .int p3, .int p4, .int p5] (CPC D Y Z ws sz)) (QG (S := Int32 × va_W × RT) (fun u => some (.int u.1)) (fun u => TLe T u.2.2 ∧ TW Y Z u.2.2 g q u.2.1 ∧ KF 1 T ws u.2.1) (fun u => CB D u.2.1 (va_A ws sz)) (va_A ws sz)) 13 91 (va_A ws sz) := by
  refine Met.ofW (cc := cX10_odds) (maxL := 9) (ret := (some .int)) (by decide) rfl ?_
  intro p e s m args below meth c s₁ B hml hv
  obtain ⟨rfl, ⟨hsz, hP, hKN, hD0⟩, hSZ⟩ := hv
  have hx := B.exec
  have hb := B.bytes
  have hr := B.returns
  have hts := atoms_spec (ws := .code yX10_odds cX10_odds 9 (some .int) :: GW) B.pre
  have hg : ∀ w ∈ GW, w.before _ s = true := fun w h => hts w (List.mem_cons_of_mem _ h)
  have hown : s.vm.findClass RX10 = some m.cls := findClass_of_methodNamed B.named
  have hlocks := B.notSynchronized
  subst hsz
  have hD := hD0.self (sz := s.heap.size)
  generalize hAe : va_A ws s.heap.size = A at hD hSZ ⊢
  have hA : ∀ q : Nat, s.heap.size ≤ q → A q := fun q h => by rw [← hAe]; exact Or.inr h
  clear hAe hD0 hts B
  have hl := lv_entry ([.ref p0, .int p1, .int p2, .int p3, .int p4, .int p5]) (n := 9) (Nat.le_of_ble_eq_true rfl)
  rw [lg_entry_eq]
  generalize (lg_sl ([.ref p0, .int p1, .int p2, .int p3, .int p4, .int p5]) ++ List.replicate (9 - (lg_sl ([.ref p0, .int p1, .int p2, .int p3, .int p4, .int p5])).length) Slot.unset).toArray = ls at hl ⊢
  have hl : lv_has ls 9 [(0, .ref p0), (1, .int p1), (2, .int p2), (3, .int p3), (4, .int p4), (5, .int p5)] := hl
  refine w_start (A0 := A) hP (fun H locs hP hS => ?_)
  refine lv_iload hx hb dX10_odds_0 (lv_at hl 4 rfl) ?_
  refine lv_iconst (v := 0) hx hb dX10_odds_2 (by decide) ?_
  refine lv_iconst (v := 4) hx hb dX10_odds_3 (by decide) ?_
  have zi0 : (0 : Int32).toInt = 0 := by decide
  have zi4 : (4 : Int32).toInt = 4 := by decide
  refine cg0 (rn_S (As := [.int p4, .int 0, .int 4]) (rest := []) (x_X10_isWithin l D Y Z H.size p4 0 4) ⟨hx, hb, hml, hown, hg⟩ lk_X10_100 ⟨CP.blind, CP.at nilP hKN (nilD (A := fun _ => True))⟩ ⟨⟨rfl, rfl⟩, ⟨Nat.le_of_ble_eq_true rfl, Nat.le_of_ble_eq_true rfl⟩, ⟨(Nat.le_of_ble_eq_true rfl), (Nat.le_of_ble_eq_true rfl)⟩⟩ hl.1 rfl (Nat.le_of_ble_eq_true rfl) dX10_odds_4) hP hS hA (fun u1 H locs hw2 hP hS => ?_)
  obtain ⟨hw4, hw5⟩ : (((0 : Int32).toInt ≤ p4.toInt ∧ p4.toInt ≤ (4 : Int32).toInt ∧ u1.toInt = 1) ∨ (¬ ((0 : Int32).toInt ≤ p4.toInt ∧ p4.toInt ≤ (4 : Int32).toInt) ∧ u1.toInt = 0)) ∧ (0 ≤ u1.toInt ∧ u1.toInt ≤ 1) := hw2
  refine W.eq (g2 := F0 m 7 ls [.int u1]) rfl ?_
  rcases (show u1.toInt = 1 ∨ u1.toInt = 0 by omega) with c6 | c6
  · obtain rfl : u1 = 1 := i_is c6 (by decide)
    have zi1 : (1 : Int32).toInt = 1 := by decide
    refine W.eq (g2 := F0 m 7 ls [.int 1]) rfl ?_
    refine lv_if_eq (tgt := 24) hx hb dX10_odds_7 (by decide) (fun c7 => ?_) (fun c7 => ?_)
    · exact absurd c7 (by decide)
    refine lv_iload hx hb dX10_odds_10 (lv_at hl 5 rfl) ?_
    refine lv_iconst (v := 0) hx hb dX10_odds_12 (by decide) ?_
    refine lv_iconst (v := 1) hx hb dX10_odds_13 (by decide) ?_
    refine cg0 (rn_S (As := [.int p5, .int 0, .int 1]) (rest := []) (x_X10_isWithin l D Y Z H.size p5 0 1) ⟨hx, hb, hml, hown, hg⟩ lk_X10_100 ⟨CP.blind, CP.at nilP hKN (nilD (A := fun _ => True))⟩ ⟨⟨rfl, rfl⟩, ⟨Nat.le_of_ble_eq_true rfl, Nat.le_of_ble_eq_true rfl⟩, ⟨(Nat.le_of_ble_eq_true rfl), (Nat.le_of_ble_eq_true rfl)⟩⟩ hl.1 rfl (Nat.le_of_ble_eq_true rfl) dX10_odds_14) hP hS hA (fun u8 H locs hw9 hP hS => ?_)
    obtain ⟨hw11, hw12⟩ : (((0 : Int32).toInt ≤ p5.toInt ∧ p5.toInt ≤ (1 : Int32).toInt ∧ u8.toInt = 1) ∨ (¬ ((0 : Int32).toInt ≤ p5.toInt ∧ p5.toInt ≤ (1 : Int32).toInt) ∧ u8.toInt = 0)) ∧ (0 ≤ u8.toInt ∧ u8.toInt ≤ 1) := hw9
    refine W.eq (g2 := F0 m 17 ls [.int u8]) rfl ?_
    rcases (show u8.toInt = 1 ∨ u8.toInt = 0 by omega) with c13 | c13
    · obtain rfl : u8 = 1 := i_is c13 (by decide)
      refine W.eq (g2 := F0 m 17 ls [.int 1]) rfl ?_
      refine lv_if_eq (tgt := 24) hx hb dX10_odds_17 (by decide) (fun c14 => ?_) (fun c14 => ?_)
      · exact absurd c14 (by decide)
      refine lv_iconst (v := 1) hx hb dX10_odds_20 (by decide) ?_
      refine lv_goto (tgt := 25) hx hb dX10_odds_21 (by decide) ?_
      refine lv_istore (lv' := [(6, .int 1), (0, .ref p0), (1, .int p1), (2, .int p2), (3, .int p3), (4, .int p4), (5, .int p5)]) hx hb dX10_odds_25 hl (by decide) rfl (fun ls hl => ?_)
      refine lv_iload hx hb dX10_odds_27 (lv_at hl 0 rfl) ?_
      refine lv_if_eq (tgt := 42) hx hb dX10_odds_29 (by decide) (fun c15 => ?_) (fun c15 => ?_)
      · exact absurd c15 (by decide)
      refine lv_aload_n hx hb dX10_odds_32 rfl (lv_at hl 1 rfl) ?_
      refine lv_iload_n hx hb dX10_odds_33 rfl (lv_at hl 2 rfl) ?_
      refine lv_iload_n hx hb dX10_odds_34 rfl (lv_at hl 3 rfl) ?_
      refine lv_iload_n hx hb dX10_odds_35 rfl (lv_at hl 4 rfl) ?_
      refine ok1 hT ht0 (fun p57 a16 a17 a18 a19 a20 x21 x22 x23 a24 a25 a26 a27 a28 a29 a30 a31 a32 x33 a34 a35 hk58 h36 h37 h38 h39 h40 h41 h42 h43 h44 h45 h46 h47 h48 h49 h50 h51 h52 h53 h54 h55 h56 => ?_)
      refine cga (rn_V (As := [.int p1, .int p2, .int p3]) (rest := []) (b := p0) (x_X10_isWeighed l D Y Z H.size ws T g q p0 p1 p2 p3 hT ht0) ⟨hx, hb, hml, hown, hg⟩ lk_X10_343 ⟨CPC.blind, va_recv hKN.1 hP (ci := 10) (q0 := p57) rfl hk58, CPC.at hP hKN hD hSZ hS hA⟩ ⟨⟨rfl, rfl⟩, ⟨Nat.le_of_ble_eq_true rfl, Nat.le_of_ble_eq_true rfl⟩, ⟨(Nat.le_of_ble_eq_true rfl), (Nat.le_of_ble_eq_true rfl)⟩⟩ hl.1 rfl (Nat.le_of_ble_eq_true rfl) dX10_odds_36) hP hD hS hA (fun u59 H locs hw60 hP hD hS => ?_)
      refine W.widen (k := 13) (n := 91) (Nat.le_of_ble_eq_true rfl) (Nat.le_of_ble_eq_true rfl) ?_
      obtain ⟨u61, w62, T63⟩ := u59
      obtain ⟨le64, hT, ke65, hw66⟩ : TLe T T63 ∧ TW Y Z T63 g q w62 ∧ KF 1 T ws w62 ∧ (0 ≤ u61.toInt ∧ u61.toInt ≤ 1) := hw60
      have hk67 := ke65 _ _ hk58 (show (T p0).1 = 1 by rw [ht0])
      have ke68 : KF 1 T ws w62 := KF.tr KF.rf ke65
      refine W.eq (g2 := F0 m 39 ls [.int u61]) rfl ?_
      rcases (show u61.toInt = 1 ∨ u61.toInt = 0 by omega) with c69 | c69
      · obtain rfl : u61 = 1 := i_is c69 (by decide)
        refine W.eq (g2 := F0 m 39 ls [.int 1]) rfl ?_
        refine lv_if_ne (tgt := 44) hx hb dX10_odds_39 (by decide) (fun c70 => ?_) (fun c70 => ?_)
        rotate_left
        · exact absurd c70 (by decide)
        refine lv_iconst (v := 0) hx hb dX10_odds_44 (by decide) ?_
        refine lv_istore (lv' := [(7, .int 0), (6, .int 1), (0, .ref p0), (1, .int p1), (2, .int p2), (3, .int p3), (4, .int p4), (5, .int p5)]) hx hb dX10_odds_45 hl (by decide) rfl (fun ls hl => ?_)
        refine lv_iconst (v := 0) hx hb dX10_odds_47 (by decide) ?_
        refine lv_istore (lv' := [(8, .int 0), (7, .int 0), (6, .int 1), (0, .ref p0), (1, .int p1), (2, .int p2), (3, .int p3), (4, .int p4), (5, .int p5)]) hx hb dX10_odds_48 hl (by decide) rfl (fun ls hl => ?_)
        refine w_loop (σ := Int32 × Int32) (fun xx H locs ls => match xx with | (v75, v76) => va_P D vwCl w62 H ∧ va_D A w62 ∧ va_S A s.heap H locs ∧ lv_has ls 9 [(8, .int v75), (7, .int v76), (6, .int 1), (0, .ref p0), (1, .int p1), (2, .int p2), (3, .int p3), (4, .int p4), (5, .int p5)] ∧ TW Y Z T63 g q w62 ∧ (0 ≤ v75.toInt ∧ v75.toInt ≤ 5)) (fun xx => match xx with | (v75, v76) => (5 - v75.toInt).toNat) (0, 0) ⟨hP, hD, hS, lv_sub hl [0, 1, 2, 3, 4, 5, 6, 7, 8] rfl, hT, by omega⟩ (fun xx H locs ls hI ih => ?_)
        obtain ⟨v75, v76⟩ := xx
        obtain ⟨hP, hD, hS, hl, hT, hq81⟩ := hI
        have ih82 := ih
        refine lv_iload hx hb dX10_odds_50 (lv_at hl 0 rfl) ?_
        refine lv_iconst (v := 5) hx hb dX10_odds_52 (by decide) ?_
        refine lv_icmp_ge (tgt := 74) hx hb dX10_odds_53 (by decide) (fun c83 => ?_) (fun c83 => ?_)
        · skip
          have c83 := i_le (show (5 : Int32).toInt = 5 by decide) (Eq.refl v75.toInt) c83
          refine lv_aload_n hx hb dX10_odds_74 rfl (lv_at hl 3 rfl) ?_
          refine va_get (D := D) (ci := 10) (v := .ref a35) (C := RX10) (T := TX10) (N := 20) hx hb hg inGX10 hown hKN.1 hP p57 hk67 rfl 19 (by decide) (hg _ kw_368) (fun _ h9 => h9) rfl dX10_odds_75 ?_
          refine lv_iload hx hb dX10_odds_78 (lv_at hl 7 rfl) ?_
          refine tr_ld12 hx hb hKN hP hT (le64.up h56) (vp_in_iff.mpr ⟨by omega, by omega⟩) dX10_odds_80 (fun v84 => ?_)
          refine lv_iload hx hb dX10_odds_81 (lv_at hl 1 rfl) ?_
          refine lv_iload hx hb dX10_odds_83 (lv_at hl 8 rfl) ?_
          refine cg0 (rn_S (As := [.int v84, .int v76, .int p5]) (rest := []) (x_X10_partOf l D Y Z H.size v84 v76 p5) ⟨hx, hb, hml, hown, hg⟩ lk_X10_307 ⟨CP.blind, CP.at nilP hKN (nilD (A := fun _ => True))⟩ ⟨⟨rfl, rfl⟩, ⟨Nat.le_of_ble_eq_true rfl, Nat.le_of_ble_eq_true rfl⟩, ⟨(Nat.le_of_ble_eq_true rfl), (Nat.le_of_ble_eq_true rfl)⟩⟩ hl.1 rfl (Nat.le_of_ble_eq_true rfl) dX10_odds_85) hP hS hA (fun u85 H locs hw86 hP hS => ?_)
          refine W.eq (g2 := F0 m 88 ls [.int u85]) rfl ?_
          refine W.widen (k := 13) (n := 91) (Nat.le_of_ble_eq_true rfl) (Nat.le_of_ble_eq_true rfl) ?_
          exact W.iret (v := u85) hx hb hr (fun t ht hW => ⟨⟨(u85, w62, T63), rfl, ⟨le64, hT, ke68⟩, CB.mk ht hP hD⟩, hS.F ht⟩) hS.2.2 dX10_odds_88
        · skip
          have c83 := i_nle (show (5 : Int32).toInt = 5 by decide) (Eq.refl v75.toInt) c83
          refine lv_iload hx hb dX10_odds_56 (lv_at hl 1 rfl) ?_
          refine lv_aload_n hx hb dX10_odds_58 rfl (lv_at hl 3 rfl) ?_
          refine va_get (D := D) (ci := 10) (v := .ref a35) (C := RX10) (T := TX10) (N := 20) hx hb hg inGX10 hown hKN.1 hP p57 hk67 rfl 19 (by decide) (hg _ kw_368) (fun _ h9 => h9) rfl dX10_odds_59 ?_
          refine lv_iload hx hb dX10_odds_62 (lv_at hl 0 rfl) ?_
          refine tr_ld12 hx hb hKN hP hT (le64.up h56) (vp_in_iff.mpr ⟨by omega, by omega⟩) dX10_odds_64 (fun v88 => ?_)
          refine lv_iadd hx hb dX10_odds_65 ?_
          refine lv_topi (fun v89 ev89 => ?_)
          refine lv_istore (lv' := [(7, .int v89), (8, .int v75), (6, .int 1), (0, .ref p0), (1, .int p1), (2, .int p2), (3, .int p3), (4, .int p4), (5, .int p5)]) hx hb dX10_odds_66 hl (by decide) rfl (fun ls hl => ?_)
          obtain ⟨v90, ev90⟩ : ∃ y : Int32, y = v75 + 1 := ⟨_, rfl⟩
          have hv90 := i_add (Eq.refl v75.toInt) (show (1 : Int32).toInt = 1 by decide) ev90 (by omega) (by omega)
          refine lv_iinc (v := v90) (lv' := [(8, .int v90), (7, .int v89), (6, .int 1), (0, .ref p0), (1, .int p1), (2, .int p2), (3, .int p3), (4, .int p4), (5, .int p5)]) hx hb dX10_odds_68 hl (k := 1) rfl (by rw [ev90]; rfl) (by decide) rfl (fun ls hl => ?_)
          refine lv_goto (tgt := 50) hx hb dX10_odds_71 (by decide) ?_
          exact ih82 (v90, v89) H locs ls (by show (5 - v90.toInt).toNat < (5 - v75.toInt).toNat; omega) ⟨hP, hD, hS, lv_sub hl [0, 1, 2, 3, 4, 5, 6, 7, 8] rfl, hT, by omega⟩
      · obtain rfl : u61 = 0 := i_is c69 (by decide)
        refine W.eq (g2 := F0 m 39 ls [.int 0]) rfl ?_
        refine lv_if_ne (tgt := 44) hx hb dX10_odds_39 (by decide) (fun c91 => ?_) (fun c91 => ?_)
        · exact absurd c91 (by decide)
        refine lv_iconst (v := (-1)) hx hb dX10_odds_42 (by decide) ?_
        refine W.widen (k := 13) (n := 91) (Nat.le_of_ble_eq_true rfl) (Nat.le_of_ble_eq_true rfl) ?_
        have zim1 : ((-1) : Int32).toInt = -1 := by decide
        exact W.iret (v := (-1)) hx hb hr (fun t ht hW => ⟨⟨(((-1)), w62, T63), rfl, ⟨le64, hT, ke68⟩, CB.mk ht hP hD⟩, hS.F ht⟩) hS.2.2 dX10_odds_43
    · obtain rfl : u8 = 0 := i_is c13 (by decide)
      refine W.eq (g2 := F0 m 17 ls [.int 0]) rfl ?_
      refine lv_if_eq (tgt := 24) hx hb dX10_odds_17 (by decide) (fun c92 => ?_) (fun c92 => ?_)
      rotate_left
      · exact absurd c92 (by decide)
      refine lv_iconst (v := 0) hx hb dX10_odds_24 (by decide) ?_
      refine lv_istore (lv' := [(6, .int 0), (0, .ref p0), (1, .int p1), (2, .int p2), (3, .int p3), (4, .int p4), (5, .int p5)]) hx hb dX10_odds_25 hl (by decide) rfl (fun ls hl => ?_)
      refine lv_iload hx hb dX10_odds_27 (lv_at hl 0 rfl) ?_
      refine lv_if_eq (tgt := 42) hx hb dX10_odds_29 (by decide) (fun c93 => ?_) (fun c93 => ?_)
      rotate_left
      · exact absurd c93 (by decide)
      refine lv_iconst (v := (-1)) hx hb dX10_odds_42 (by decide) ?_
      refine W.widen (k := 13) (n := 91) (Nat.le_of_ble_eq_true rfl) (Nat.le_of_ble_eq_true rfl) ?_
      have zim1 : ((-1) : Int32).toInt = -1 := by decide
      exact W.iret (v := (-1)) hx hb hr (fun t ht hW => ⟨⟨(((-1)), ws, T), rfl, ⟨TLe.rf, hT, KF.rf⟩, CB.mk ht hP hD⟩, hS.F ht⟩) hS.2.2 dX10_odds_43
  · obtain rfl : u1 = 0 := i_is c6 (by decide)
    refine W.eq (g2 := F0 m 7 ls [.int 0]) rfl ?_
    refine lv_if_eq (tgt := 24) hx hb dX10_odds_7 (by decide) (fun c94 => ?_) (fun c94 => ?_)
    rotate_left
    · exact absurd c94 (by decide)
    refine lv_iconst (v := 0) hx hb dX10_odds_24 (by decide) ?_
    refine lv_istore (lv' := [(6, .int 0), (0, .ref p0), (1, .int p1), (2, .int p2), (3, .int p3), (4, .int p4), (5, .int p5)]) hx hb dX10_odds_25 hl (by decide) rfl (fun ls hl => ?_)
    refine lv_iload hx hb dX10_odds_27 (lv_at hl 0 rfl) ?_
    refine lv_if_eq (tgt := 42) hx hb dX10_odds_29 (by decide) (fun c95 => ?_) (fun c95 => ?_)
    rotate_left
    · exact absurd c95 (by decide)
    refine lv_iconst (v := (-1)) hx hb dX10_odds_42 (by decide) ?_
    refine W.widen (k := 13) (n := 91) (Nat.le_of_ble_eq_true rfl) (Nat.le_of_ble_eq_true rfl) ?_
    have zim1 : ((-1) : Int32).toInt = -1 := by decide
    exact W.iret (v := (-1)) hx hb hr (fun t ht hW => ⟨⟨(((-1)), ws, T), rfl, ⟨TLe.rf, hT, KF.rf⟩, CB.mk ht hP hD⟩, hS.F ht⟩) hS.2.2 dX10_odds_43
set_option maxHeartbeats 4000000 in
set_option maxRecDepth 100000 in
theorem x_X10_truly (l : Launch) (D : va_G) (Y : Nat → ClassId) (Z : Nat → Nat) (sz : Nat) (ws : va_W) (T : RT) (g : GN) (q : GQ)  (p0 : Nat) (p1 : Int32) (p2 : Int32) (hT : TW Y Z T g q ws) (ht0 : T p0 = (1, 0, 0)) : Met l yX10_truly (.code yX10_truly cX10_truly 13 (some .long) :: GW) ({ frames := 7, cells := 52, slots := 364, locals := 176 }) (va_Pc [.ref p0, .int p1, .int p2] (CPC D Y Z ws sz)) (QG (S := Int64 × va_W × RT) (fun u => some (.long u.1)) (fun u => TLe T u.2.2 ∧ TW Y Z u.2.2 g q u.2.1 ∧ KF 1 T ws u.2.1) (fun u => CB D u.2.1 (va_A ws sz)) (va_A ws sz)) 52 364 (va_A ws sz) := by
  refine Met.ofW (cc := cX10_truly) (maxL := 13) (ret := (some .long)) (by decide) rfl ?_
  intro p e s m args below meth c s₁ B hml hv
  obtain ⟨rfl, ⟨hsz, hP, hKN, hD0⟩, hSZ⟩ := hv
  have hx := B.exec
  have hb := B.bytes
  have hr := B.returns
  have hts := atoms_spec (ws := .code yX10_truly cX10_truly 13 (some .long) :: GW) B.pre
  have hg : ∀ w ∈ GW, w.before _ s = true := fun w h => hts w (List.mem_cons_of_mem _ h)
  have hown : s.vm.findClass RX10 = some m.cls := findClass_of_methodNamed B.named
  have hlocks := B.notSynchronized
  subst hsz
  have hD := hD0.self (sz := s.heap.size)
  generalize hAe : va_A ws s.heap.size = A at hD hSZ ⊢
  have hA : ∀ q : Nat, s.heap.size ≤ q → A q := fun q h => by rw [← hAe]; exact Or.inr h
  clear hAe hD0 hts B
  have hl := lv_entry ([.ref p0, .int p1, .int p2]) (n := 13) (Nat.le_of_ble_eq_true rfl)
  rw [lg_entry_eq]
  generalize (lg_sl ([.ref p0, .int p1, .int p2]) ++ List.replicate (13 - (lg_sl ([.ref p0, .int p1, .int p2])).length) Slot.unset).toArray = ls at hl ⊢
  have hl : lv_has ls 13 [(0, .ref p0), (1, .int p1), (2, .int p2)] := hl
  refine w_start (A0 := A) hP (fun H locs hP hS => ?_)
  refine lv_aload_n hx hb dX10_truly_0 rfl (lv_at hl 0 rfl) ?_
  refine lv_iload_n hx hb dX10_truly_1 rfl (lv_at hl 1 rfl) ?_
  refine ok1 hT ht0 (fun p42 a1 a2 a3 a4 a5 x6 x7 x8 a9 a10 a11 a12 a13 a14 a15 a16 a17 x18 a19 a20 hk43 h21 h22 h23 h24 h25 h26 h27 h28 h29 h30 h31 h32 h33 h34 h35 h36 h37 h38 h39 h40 h41 => ?_)
  refine cga (rn_V (As := [.int p1]) (rest := []) (b := p0) (x_X10_searchAt l D Y Z H.size ws T g q p0 p1 hT ht0) ⟨hx, hb, hml, hown, hg⟩ lk_X10_259 ⟨CPC.blind, va_recv hKN.1 hP (ci := 10) (q0 := p42) rfl hk43, CPC.at hP hKN hD hSZ hS hA⟩ ⟨⟨rfl, rfl⟩, ⟨Nat.le_of_ble_eq_true rfl, Nat.le_of_ble_eq_true rfl⟩, ⟨(Nat.le_of_ble_eq_true rfl), (Nat.le_of_ble_eq_true rfl)⟩⟩ hl.1 rfl (Nat.le_of_ble_eq_true rfl) dX10_truly_2) hP hD hS hA (fun u44 H locs hw45 hP hD hS => ?_)
  obtain ⟨ht47, hw48⟩ : (∀ b, u44 = some b → T b = (5, 0, 0)) ∧ (∀ b, u44 = some b → 0 ≤ p1.toInt ∧ p1.toInt ≤ 5) := hw45
  refine W.eq (g2 := F0 m 5 ls [va_rf u44]) rfl ?_
  rcases u44 with _ | b49
  · skip
    refine W.eq (g2 := F0 m 5 ls [.null]) rfl ?_
    refine lv_astore_nN (lv' := [(3, .null), (0, .ref p0), (1, .int p1), (2, .int p2)]) hx hb dX10_truly_5 rfl hl (by decide) rfl (fun ls hl => ?_)
    refine lv_aload_nN hx hb dX10_truly_6 rfl (lv_at hl 0 rfl) ?_
    refine lv_ifnullN (tgt := 18) hx hb dX10_truly_7 (by decide) ?_
    refine lv_ldc2 (v := (-1)) hx hb hown (hg _ kw_899) dX10_truly_18 ?_
    refine W.widen (k := 52) (n := 364) (Nat.le_of_ble_eq_true rfl) (Nat.le_of_ble_eq_true rfl) ?_
    have zlm1 : ((-1) : Int64).toInt = -1 := by decide
    exact W.lret (v := (-1)) hx hb hr (fun t ht hW => ⟨⟨(((-1)), ws, T), rfl, ⟨TLe.rf, hT, KF.rf⟩, CB.mk ht hP hD⟩, hS.F ht⟩) hS.2.2 dX10_truly_21
  · skip
    have ht50 := ht47 b49 rfl
    have h51 := hw48 b49 rfl
    refine W.eq (g2 := F0 m 5 ls [.ref b49]) rfl ?_
    refine lv_astore_n (lv' := [(3, .ref b49), (0, .ref p0), (1, .int p1), (2, .int p2)]) hx hb dX10_truly_5 rfl hl (by decide) rfl (fun ls hl => ?_)
    refine lv_aload_n hx hb dX10_truly_6 rfl (lv_at hl 0 rfl) ?_
    refine lv_ifnull hx hb dX10_truly_7 ?_
    refine lv_aload_n hx hb dX10_truly_10 rfl (lv_at hl 1 rfl) ?_
    refine lv_iload_n hx hb dX10_truly_11 rfl (lv_at hl 3 rfl) ?_
    refine cga (rn_V (As := [.int p2]) (rest := []) (b := p0) (x_X10_sorterAt l D Y Z H.size ws T g q p0 p2 hT ht0) ⟨hx, hb, hml, hown, hg⟩ lk_X10_349 ⟨CPC.blind, va_recv hKN.1 hP (ci := 10) (q0 := p42) rfl hk43, CPC.at hP hKN hD hSZ hS hA⟩ ⟨⟨rfl, rfl⟩, ⟨Nat.le_of_ble_eq_true rfl, Nat.le_of_ble_eq_true rfl⟩, ⟨(Nat.le_of_ble_eq_true rfl), (Nat.le_of_ble_eq_true rfl)⟩⟩ hl.1 rfl (Nat.le_of_ble_eq_true rfl) dX10_truly_12) hP hD hS hA (fun u52 H locs hw53 hP hD hS => ?_)
    obtain ⟨ht55, hw56⟩ : (∀ b, u52 = some b → T b = (5, 0, 0)) ∧ (∀ b, u52 = some b → 0 ≤ p2.toInt ∧ p2.toInt ≤ 5) := hw53
    refine W.eq (g2 := F0 m 15 ls [va_rf u52]) rfl ?_
    rcases u52 with _ | b57
    · skip
      refine W.eq (g2 := F0 m 15 ls [.null]) rfl ?_
      refine lv_ifnonnullN hx hb dX10_truly_15 ?_
      refine lv_ldc2 (v := (-1)) hx hb hown (hg _ kw_899) dX10_truly_18 ?_
      refine W.widen (k := 52) (n := 364) (Nat.le_of_ble_eq_true rfl) (Nat.le_of_ble_eq_true rfl) ?_
      have zlm1 : ((-1) : Int64).toInt = -1 := by decide
      exact W.lret (v := (-1)) hx hb hr (fun t ht hW => ⟨⟨(((-1)), ws, T), rfl, ⟨TLe.rf, hT, KF.rf⟩, CB.mk ht hP hD⟩, hS.F ht⟩) hS.2.2 dX10_truly_21
    · skip
      have ht58 := ht55 b57 rfl
      have h59 := hw56 b57 rfl
      refine W.eq (g2 := F0 m 15 ls [.ref b57]) rfl ?_
      refine lv_ifnonnull (tgt := 22) hx hb dX10_truly_15 (by decide) ?_
      refine lv_aload_n hx hb dX10_truly_22 rfl (lv_at hl 1 rfl) ?_
      refine lv_iload_n hx hb dX10_truly_23 rfl (lv_at hl 2 rfl) ?_
      refine lv_aload_n hx hb dX10_truly_24 rfl (lv_at hl 0 rfl) ?_
      refine ok5 hT ht50 (fun p81 x60 x61 x62 x63 x64 x65 x66 x67 a68 a69 a70 a71 a72 x73 hk82 h74 h75 h76 h77 h78 h79 h80 => ?_)
      refine va_getN (D := D) (ci := 8) (v := .int x66) (C := RX8) (T := TX8) (N := 14) hx hb hg inGX8 hown hKN.1 hP p81 hk82 rfl 6 (by decide) (va_Nw.use rfl (hKN.2.1 _ kn_135 rfl)) (fun _ h9 => h9) rfl dX10_truly_25 ?_
      refine cga (rn_V (As := [.int p1, .int x66]) (rest := []) (b := p0) (x_X10_caughtFrom l D Y Z H.size ws T g q p0 p1 x66 hT ht0) ⟨hx, hb, hml, hown, hg⟩ lk_X10_299 ⟨CPC.blind, va_recv hKN.1 hP (ci := 10) (q0 := p42) rfl hk43, CPC.at hP hKN hD hSZ hS hA⟩ ⟨⟨rfl, rfl⟩, ⟨Nat.le_of_ble_eq_true rfl, Nat.le_of_ble_eq_true rfl⟩, ⟨(Nat.le_of_ble_eq_true rfl), (Nat.le_of_ble_eq_true rfl)⟩⟩ hl.1 rfl (Nat.le_of_ble_eq_true rfl) dX10_truly_28) hP hD hS hA (fun u83 H locs hw84 hP hD hS => ?_)
      refine W.widen (k := 40) (n := 280) (Nat.le_of_ble_eq_true rfl) (Nat.le_of_ble_eq_true rfl) ?_
      obtain ⟨u85, w86, T87⟩ := u83
      obtain ⟨le88, hT, ke89⟩ : TLe T T87 ∧ TW Y Z T87 g q w86 ∧ KF 1 T ws w86 := hw84
      have hk90 := ke89 _ _ hk43 (show (T p0).1 = 1 by rw [ht0])
      have ke91 : KF 1 T ws w86 := KF.tr KF.rf ke89
      refine W.eq (g2 := F0 m 31 ls [.int u85]) rfl ?_
      have j92 := rgI u85
      have j93 := Int32.toInt_toInt64 u85
      refine lv_i2l (v := u85.toInt64) hx hb dX10_truly_31 (rfl) ?_
      refine lv_lstore (lv' := [(4, .long u85.toInt64), (3, .ref b49), (0, .ref p0), (1, .int p1), (2, .int p2)]) hx hb dX10_truly_32 hl (by decide) rfl (fun ls hl => ?_)
      refine lv_aload_n hx hb dX10_truly_34 rfl (lv_at hl 2 rfl) ?_
      refine va_get (D := D) (ci := 10) (v := .ref a1) (C := RX10) (T := TX10) (N := 20) hx hb hg inGX10 hown hKN.1 hP p42 hk90 rfl 0 (by decide) (hg _ kw_349) (fun _ h9 => h9) rfl dX10_truly_35 ?_
      refine ok2 hT (le88.up h21) (fun p128 x94 a95 x96 a97 x98 a99 a100 x101 a102 a103 x104 a105 x106 hk129 h107 h108 h109 h110 h111 h112 h113 h114 h115 h116 h117 h118 h119 h120 h121 h122 h123 h124 h125 h126 h127 => ?_)
      refine cga (rn_NV (As := []) (rest := []) (b := a1) (x_X6_putIn l D Y Z H.size w86 T87 g q 0 a1 hT (le88.up h21)) ⟨hx, hb, hml, hown, hg⟩ hKN lk_X10_303 ⟨CPC.blind, va_recv hKN.1 hP (ci := 6) (q0 := p128) rfl hk129, CPC.at hP hKN hD hSZ hS hA⟩ ⟨⟨rfl, rfl⟩, ⟨Nat.le_of_ble_eq_true rfl, Nat.le_of_ble_eq_true rfl⟩, ⟨(Nat.le_of_ble_eq_true rfl), (Nat.le_of_ble_eq_true rfl)⟩⟩ hl.1 rfl (Nat.le_of_ble_eq_true rfl) dX10_truly_38) hP hD hS hA (fun u130 H locs hw131 hP hD hS => ?_)
      refine W.eq (g2 := F0 m 41 ls [.int u130]) rfl ?_
      have j133 := rgI u130
      have j134 := Int32.toInt_toInt64 u130
      refine lv_i2l (v := u130.toInt64) hx hb dX10_truly_41 (rfl) ?_
      refine lv_lstore (lv' := [(6, .long u130.toInt64), (4, .long u85.toInt64), (3, .ref b49), (0, .ref p0), (1, .int p1), (2, .int p2)]) hx hb dX10_truly_42 hl (by decide) rfl (fun ls hl => ?_)
      refine lv_lload hx hb dX10_truly_44 (lv_at hl 1 rfl) ?_
      refine lv_lconst (v := 0) hx hb dX10_truly_46 (by decide) ?_
      refine W.lcmp hx hb dX10_truly_47 ?_
      refine lv_if_ne (tgt := 55) hx hb dX10_truly_48 (by decide) (fun c135 => ?_) (fun c135 => ?_)
      · skip
        have c135 := l_ne (Int32.toInt_toInt64 u85) (show (0 : Int64).toInt = 0 by decide) c135
        refine lv_aload_n hx hb dX10_truly_55 rfl (lv_at hl 3 rfl) ?_
        refine lv_iload_n hx hb dX10_truly_56 rfl (lv_at hl 4 rfl) ?_
        refine lv_iconst (v := 0) hx hb dX10_truly_57 (by decide) ?_
        have zi0 : (0 : Int32).toInt = 0 := by decide
        refine cga (rn_V (As := [.int p1, .int 0]) (rest := []) (b := p0) (x_X10_findAll l D Y Z H.size w86 T87 g q p0 p1 0 hT (le88.up ht0)) ⟨hx, hb, hml, hown, hg⟩ lk_X10_319 ⟨CPC.blind, va_recv hKN.1 hP (ci := 10) (q0 := p42) rfl hk90, CPC.at hP hKN hD hSZ hS hA⟩ ⟨⟨rfl, rfl⟩, ⟨Nat.le_of_ble_eq_true rfl, Nat.le_of_ble_eq_true rfl⟩, ⟨(Nat.le_of_ble_eq_true rfl), (Nat.le_of_ble_eq_true rfl)⟩⟩ hl.1 rfl (Nat.le_of_ble_eq_true rfl) dX10_truly_58) hP hD hS hA (fun u136 H locs hw137 hP hD hS => ?_)
        refine W.widen (k := 52) (n := 364) (Nat.le_of_ble_eq_true rfl) (Nat.le_of_ble_eq_true rfl) ?_
        obtain ⟨w138, T139⟩ := u136
        obtain ⟨le140, hT, ke141⟩ : TLe T87 T139 ∧ TW Y Z T139 g q w138 ∧ KF 1 T87 w86 w138 := hw137
        have hk142 := ke141 _ _ hk90 (show (T87 p0).1 = 1 by rw [(le88.up ht0)])
        have ke143 : KF 1 T ws w138 := KF.tr ke91 (KF.le (by decide) le88 ke141)
        refine W.eq (g2 := F0 m 61 ls []) rfl ?_
        refine lv_lconst (v := 0) hx hb dX10_truly_61 (by decide) ?_
        refine lv_lstore (lv' := [(8, .long 0), (6, .long u130.toInt64), (4, .long u85.toInt64), (3, .ref b49), (0, .ref p0), (1, .int p1), (2, .int p2)]) hx hb dX10_truly_62 hl (by decide) rfl (fun ls hl => ?_)
        refine lv_iconst (v := 0) hx hb dX10_truly_64 (by decide) ?_
        refine lv_istore (lv' := [(10, .int 0), (8, .long 0), (6, .long u130.toInt64), (4, .long u85.toInt64), (3, .ref b49), (0, .ref p0), (1, .int p1), (2, .int p2)]) hx hb dX10_truly_65 hl (by decide) rfl (fun ls hl => ?_)
        have zl0 : (0 : Int64).toInt = 0 := by decide
        refine w_loop (σ := Int32 × Int64 × va_W) (fun xx H locs ls => match xx with | (v201, v202, w203) => va_P D vwCl w203 H ∧ va_D A w203 ∧ va_S A s.heap H locs ∧ lv_has ls 13 [(10, .int v201), (8, .long v202), (6, .long u130.toInt64), (4, .long u85.toInt64), (3, .ref b49), (0, .ref p0), (1, .int p1), (2, .int p2)] ∧ TW Y Z T139 g q w203 ∧ KF 1 T ws w203 ∧ (0 ≤ v201.toInt ∧ v201.toInt ≤ 12)) (fun xx => match xx with | (v201, v202, w203) => (12 - v201.toInt).toNat) (0, 0, w138) ⟨hP, hD, hS, lv_sub hl [0, 1, 2, 3, 4, 5, 6, 7] rfl, hT, ke143, by omega⟩ (fun xx H locs ls hI ih => ?_)
        obtain ⟨v201, v202, w203⟩ := xx
        obtain ⟨hP, hD, hS, hl, hT, ke308, hq307⟩ := hI
        have ih309 := ih
        refine lv_iload hx hb dX10_truly_67 (lv_at hl 0 rfl) ?_
        refine lv_aload_n hx hb dX10_truly_69 rfl (lv_at hl 5 rfl) ?_
        refine ok1 hT (le140.up (le88.up ht0)) (fun p351 a310 a311 a312 a313 a314 x315 x316 x317 a318 a319 a320 a321 a322 a323 a324 a325 a326 x327 a328 a329 hk352 h330 h331 h332 h333 h334 h335 h336 h337 h338 h339 h340 h341 h342 h343 h344 h345 h346 h347 h348 h349 h350 => ?_)
        refine va_get (D := D) (ci := 10) (v := .ref a310) (C := RX10) (T := TX10) (N := 20) hx hb hg inGX10 hown hKN.1 hP p351 hk352 rfl 0 (by decide) (hg _ kw_349) (fun _ h9 => h9) rfl dX10_truly_70 ?_
        refine ok2 hT h330 (fun p387 x353 a354 x355 a356 x357 a358 a359 x360 a361 a362 x363 a364 x365 hk388 h366 h367 h368 h369 h370 h371 h372 h373 h374 h375 h376 h377 h378 h379 h380 h381 h382 h383 h384 h385 h386 => ?_)
        refine va_getN (D := D) (ci := 6) (v := .int x353) (C := RX6) (T := TX6) (N := 13) hx hb hg inGX6 hown hKN.1 hP p387 hk388 rfl 0 (by decide) (va_Nw.use rfl (hKN.2.1 _ kn_41 rfl)) (fun _ h9 => h9) rfl dX10_truly_73 ?_
        refine lv_icmp_ge (tgt := 131) hx hb dX10_truly_76 (by decide) (fun c389 => ?_) (fun c389 => ?_)
        · skip
          have c389 := i_le (Eq.refl x353.toInt) (Eq.refl v201.toInt) c389
          refine lv_lload hx hb dX10_truly_131 (lv_at hl 1 rfl) ?_
          refine W.widen (k := 52) (n := 364) (Nat.le_of_ble_eq_true rfl) (Nat.le_of_ble_eq_true rfl) ?_
          exact W.lret (v := v202) hx hb hr (fun t ht hW => ⟨⟨(v202, w203, T139), rfl, ⟨(le88.tr le140), hT, ke308⟩, CB.mk ht hP hD⟩, hS.F ht⟩) hS.2.2 dX10_truly_133
        · skip
          have c389 := i_nle (Eq.refl x353.toInt) (Eq.refl v201.toInt) c389
          refine lv_aload_n hx hb dX10_truly_79 rfl (lv_at hl 5 rfl) ?_
          refine va_get (D := D) (ci := 10) (v := .ref a310) (C := RX10) (T := TX10) (N := 20) hx hb hg inGX10 hown hKN.1 hP p351 hk352 rfl 0 (by decide) (hg _ kw_349) (fun _ h9 => h9) rfl dX10_truly_80 ?_
          refine lv_iload hx hb dX10_truly_83 (lv_at hl 0 rfl) ?_
          refine cga (rn_NV (As := [.int v201]) (rest := []) (b := a310) (x_X6_luckOf l D Y Z H.size w203 T139 g q 0 a310 v201 hT h330) ⟨hx, hb, hml, hown, hg⟩ hKN lk_X10_355 ⟨CPC.blind, va_recv hKN.1 hP (ci := 6) (q0 := p387) rfl hk388, CPC.at hP hKN hD hSZ hS hA⟩ ⟨⟨rfl, rfl⟩, ⟨Nat.le_of_ble_eq_true rfl, Nat.le_of_ble_eq_true rfl⟩, ⟨(Nat.le_of_ble_eq_true rfl), (Nat.le_of_ble_eq_true rfl)⟩⟩ hl.1 rfl (Nat.le_of_ble_eq_true rfl) dX10_truly_85) hP hD hS hA (fun u390 H locs hw391 hP hD hS => ?_)
          refine W.eq (g2 := F0 m 88 ls [.long u390]) rfl ?_
          refine lv_lload hx hb dX10_truly_88 (lv_at hl 3 rfl) ?_
          refine lv_lmul hx hb dX10_truly_90 ?_
          refine lv_topl (fun v393 ev393 => ?_)
          refine lv_lstore (lv' := [(11, .long v393), (10, .int v201), (8, .long v202), (6, .long u130.toInt64), (4, .long u85.toInt64), (3, .ref b49), (0, .ref p0), (1, .int p1), (2, .int p2)]) hx hb dX10_truly_91 hl (by decide) rfl (fun ls hl => ?_)
          refine lv_lload hx hb dX10_truly_93 (lv_at hl 0 rfl) ?_
          refine lv_lconst (v := 0) hx hb dX10_truly_95 (by decide) ?_
          refine W.lcmp hx hb dX10_truly_96 ?_
          refine lv_if_le (tgt := 125) hx hb dX10_truly_97 (by decide) (fun c394 => ?_) (fun c394 => ?_)
          · skip
            have c394 := l_le (Eq.refl v393.toInt) (show (0 : Int64).toInt = 0 by decide) c394
            obtain ⟨v395, ev395⟩ : ∃ y : Int32, y = v201 + 1 := ⟨_, rfl⟩
            have hv395 := i_add (Eq.refl v201.toInt) (show (1 : Int32).toInt = 1 by decide) ev395 (by omega) (by omega)
            refine lv_iinc (v := v395) (lv' := [(10, .int v395), (11, .long v393), (8, .long v202), (6, .long u130.toInt64), (4, .long u85.toInt64), (3, .ref b49), (0, .ref p0), (1, .int p1), (2, .int p2)]) hx hb dX10_truly_125 hl (k := 1) rfl (by rw [ev395]; rfl) (by decide) rfl (fun ls hl => ?_)
            refine lv_goto (tgt := 67) hx hb dX10_truly_128 (by decide) ?_
            exact ih309 (v395, v202, w203) H locs ls (by show (12 - v395.toInt).toNat < (12 - v201.toInt).toNat; omega) ⟨hP, hD, hS, lv_sub hl [0, 2, 3, 4, 5, 6, 7, 8] rfl, hT, ke308, by omega⟩
          · skip
            have c394 := l_nle (Eq.refl v393.toInt) (show (0 : Int64).toInt = 0 by decide) c394
            refine lv_aload_n hx hb dX10_truly_100 rfl (lv_at hl 6 rfl) ?_
            refine lv_iload_n hx hb dX10_truly_101 rfl (lv_at hl 7 rfl) ?_
            refine lv_iload_n hx hb dX10_truly_102 rfl (lv_at hl 8 rfl) ?_
            refine lv_iload hx hb dX10_truly_103 (lv_at hl 1 rfl) ?_
            refine cga (rn_V (As := [.int p1, .int p2, .int v201]) (rest := []) (b := p0) (x_X10_isSeenWorld l D Y Z H.size w203 T139 g q p0 p1 p2 v201 hT (le140.up (le88.up ht0))) ⟨hx, hb, hml, hown, hg⟩ lk_X10_359 ⟨CPC.blind, va_recv hKN.1 hP (ci := 10) (q0 := p351) rfl hk352, CPC.at hP hKN hD hSZ hS hA⟩ ⟨⟨rfl, rfl⟩, ⟨Nat.le_of_ble_eq_true rfl, Nat.le_of_ble_eq_true rfl⟩, ⟨(Nat.le_of_ble_eq_true rfl), (Nat.le_of_ble_eq_true rfl)⟩⟩ hl.1 rfl (Nat.le_of_ble_eq_true rfl) dX10_truly_105) hP hD hS hA (fun u396 H locs hw397 hP hD hS => ?_)
            obtain ⟨u398, w399⟩ := u396
            obtain ⟨hT, ke400, ke401, hw402⟩ : TW Y Z T139 g q w399 ∧ KF 1 T139 w203 w399 ∧ KF 6 T139 w203 w399 ∧ (0 ≤ u398.toInt ∧ u398.toInt ≤ 1) := hw397
            have hk403 := ke400 _ _ hk352 (show (T139 p0).1 = 1 by rw [(le140.up (le88.up ht0))])
            have ke404 : KF 1 T ws w399 := KF.tr ke308 (KF.le (by decide) (le88.tr le140) ke400)
            refine W.eq (g2 := F0 m 108 ls [.int u398]) rfl ?_
            rcases (show u398.toInt = 1 ∨ u398.toInt = 0 by omega) with c405 | c405
            · obtain rfl : u398 = 1 := i_is c405 (by decide)
              have zi1 : (1 : Int32).toInt = 1 := by decide
              refine W.eq (g2 := F0 m 108 ls [.int 1]) rfl ?_
              refine lv_if_eq (tgt := 125) hx hb dX10_truly_108 (by decide) (fun c406 => ?_) (fun c406 => ?_)
              · exact absurd c406 (by decide)
              refine lv_lload hx hb dX10_truly_111 (lv_at hl 2 rfl) ?_
              refine lv_ldc2 (v := 1000000) hx hb hown (hg _ kw_1075) dX10_truly_113 ?_
              refine lv_lload hx hb dX10_truly_116 (lv_at hl 3 rfl) ?_
              refine lv_lmul hx hb dX10_truly_118 ?_
              refine lv_topl (fun v407 ev407 => ?_)
              have hv407 := l_mul (show (1000000 : Int64).toInt = 1000000 by decide) (Int32.toInt_toInt64 u130) ev407 (by omega) (by omega)
              refine lv_lload hx hb dX10_truly_119 (lv_at hl 0 rfl) ?_
              refine lv_ldiv hx hb dX10_truly_121 (l_nz (Eq.refl v393.toInt) (by omega)) ?_
              refine lv_topl (fun v408 ev408 => ?_)
              have hv408 := l_divS (Eq.refl v407.toInt) (Eq.refl v393.toInt) ev408 (by omega)
              refine lv_ladd hx hb dX10_truly_122 ?_
              refine lv_topl (fun v409 ev409 => ?_)
              refine lv_lstore (lv' := [(8, .long v409), (11, .long v393), (10, .int v201), (6, .long u130.toInt64), (4, .long u85.toInt64), (3, .ref b49), (0, .ref p0), (1, .int p1), (2, .int p2)]) hx hb dX10_truly_123 hl (by decide) rfl (fun ls hl => ?_)
              obtain ⟨v410, ev410⟩ : ∃ y : Int32, y = v201 + 1 := ⟨_, rfl⟩
              have hv410 := i_add (Eq.refl v201.toInt) (show (1 : Int32).toInt = 1 by decide) ev410 (by omega) (by omega)
              refine lv_iinc (v := v410) (lv' := [(10, .int v410), (8, .long v409), (11, .long v393), (6, .long u130.toInt64), (4, .long u85.toInt64), (3, .ref b49), (0, .ref p0), (1, .int p1), (2, .int p2)]) hx hb dX10_truly_125 hl (k := 2) rfl (by rw [ev410]; rfl) (by decide) rfl (fun ls hl => ?_)
              refine lv_goto (tgt := 67) hx hb dX10_truly_128 (by decide) ?_
              exact ih309 (v410, v409, w399) H locs ls (by show (12 - v410.toInt).toNat < (12 - v201.toInt).toNat; omega) ⟨hP, hD, hS, lv_sub hl [0, 1, 3, 4, 5, 6, 7, 8] rfl, hT, ke404, by omega⟩
            · obtain rfl : u398 = 0 := i_is c405 (by decide)
              refine W.eq (g2 := F0 m 108 ls [.int 0]) rfl ?_
              refine lv_if_eq (tgt := 125) hx hb dX10_truly_108 (by decide) (fun c411 => ?_) (fun c411 => ?_)
              rotate_left
              · exact absurd c411 (by decide)
              obtain ⟨v412, ev412⟩ : ∃ y : Int32, y = v201 + 1 := ⟨_, rfl⟩
              have hv412 := i_add (Eq.refl v201.toInt) (show (1 : Int32).toInt = 1 by decide) ev412 (by omega) (by omega)
              refine lv_iinc (v := v412) (lv' := [(10, .int v412), (11, .long v393), (8, .long v202), (6, .long u130.toInt64), (4, .long u85.toInt64), (3, .ref b49), (0, .ref p0), (1, .int p1), (2, .int p2)]) hx hb dX10_truly_125 hl (k := 1) rfl (by rw [ev412]; rfl) (by decide) rfl (fun ls hl => ?_)
              refine lv_goto (tgt := 67) hx hb dX10_truly_128 (by decide) ?_
              exact ih309 (v412, v202, w399) H locs ls (by show (12 - v412.toInt).toNat < (12 - v201.toInt).toNat; omega) ⟨hP, hD, hS, lv_sub hl [0, 2, 3, 4, 5, 6, 7, 8] rfl, hT, ke404, by omega⟩
      · skip
        have c135 := l_eq (Int32.toInt_toInt64 u85) (show (0 : Int64).toInt = 0 by decide) c135
        refine lv_ldc2 (v := (-2)) hx hb hown (hg _ kw_852) dX10_truly_51 ?_
        refine W.widen (k := 52) (n := 364) (Nat.le_of_ble_eq_true rfl) (Nat.le_of_ble_eq_true rfl) ?_
        have zlm2 : ((-2) : Int64).toInt = -2 := by decide
        exact W.lret (v := (-2)) hx hb hr (fun t ht hW => ⟨⟨(((-2)), w86, T87), rfl, ⟨le88, hT, ke91⟩, CB.mk ht hP hD⟩, hS.F ht⟩) hS.2.2 dX10_truly_54
set_option maxHeartbeats 4000000 in
set_option maxRecDepth 100000 in
theorem x_X10_bound (l : Launch) (D : va_G) (Y : Nat → ClassId) (Z : Nat → Nat) (sz : Nat) (ws : va_W) (T : RT) (g : GN) (q : GQ)  (p0 : Nat) (p1 : Int32) (p2 : Int32) (hT : TW Y Z T g q ws) (ht0 : T p0 = (1, 0, 0)) : Met l yX10_bound (.code yX10_bound cX10_bound 10 (some .int) :: GW) ({ frames := 6, cells := 40, slots := 280, locals := 157 }) (va_Pc [.ref p0, .int p1, .int p2] (CPC D Y Z ws sz)) (QG (S := Int32 × va_W × RT) (fun u => some (.int u.1)) (fun u => TLe T u.2.2 ∧ TW Y Z u.2.2 g q u.2.1 ∧ KF 1 T ws u.2.1) (fun u => CB D u.2.1 (va_A ws sz)) (va_A ws sz)) 40 280 (va_A ws sz) := by
  refine Met.ofW (cc := cX10_bound) (maxL := 10) (ret := (some .int)) (by decide) rfl ?_
  intro p e s m args below meth c s₁ B hml hv
  obtain ⟨rfl, ⟨hsz, hP, hKN, hD0⟩, hSZ⟩ := hv
  have hx := B.exec
  have hb := B.bytes
  have hr := B.returns
  have hts := atoms_spec (ws := .code yX10_bound cX10_bound 10 (some .int) :: GW) B.pre
  have hg : ∀ w ∈ GW, w.before _ s = true := fun w h => hts w (List.mem_cons_of_mem _ h)
  have hown : s.vm.findClass RX10 = some m.cls := findClass_of_methodNamed B.named
  have hlocks := B.notSynchronized
  subst hsz
  have hD := hD0.self (sz := s.heap.size)
  generalize hAe : va_A ws s.heap.size = A at hD hSZ ⊢
  have hA : ∀ q : Nat, s.heap.size ≤ q → A q := fun q h => by rw [← hAe]; exact Or.inr h
  clear hAe hD0 hts B
  have hl := lv_entry ([.ref p0, .int p1, .int p2]) (n := 10) (Nat.le_of_ble_eq_true rfl)
  rw [lg_entry_eq]
  generalize (lg_sl ([.ref p0, .int p1, .int p2]) ++ List.replicate (10 - (lg_sl ([.ref p0, .int p1, .int p2])).length) Slot.unset).toArray = ls at hl ⊢
  have hl : lv_has ls 10 [(0, .ref p0), (1, .int p1), (2, .int p2)] := hl
  refine w_start (A0 := A) hP (fun H locs hP hS => ?_)
  refine lv_aload_n hx hb dX10_bound_0 rfl (lv_at hl 0 rfl) ?_
  refine lv_iload_n hx hb dX10_bound_1 rfl (lv_at hl 1 rfl) ?_
  refine ok1 hT ht0 (fun p42 a1 a2 a3 a4 a5 x6 x7 x8 a9 a10 a11 a12 a13 a14 a15 a16 a17 x18 a19 a20 hk43 h21 h22 h23 h24 h25 h26 h27 h28 h29 h30 h31 h32 h33 h34 h35 h36 h37 h38 h39 h40 h41 => ?_)
  refine cga (rn_V (As := [.int p1]) (rest := []) (b := p0) (x_X10_searchAt l D Y Z H.size ws T g q p0 p1 hT ht0) ⟨hx, hb, hml, hown, hg⟩ lk_X10_259 ⟨CPC.blind, va_recv hKN.1 hP (ci := 10) (q0 := p42) rfl hk43, CPC.at hP hKN hD hSZ hS hA⟩ ⟨⟨rfl, rfl⟩, ⟨Nat.le_of_ble_eq_true rfl, Nat.le_of_ble_eq_true rfl⟩, ⟨(Nat.le_of_ble_eq_true rfl), (Nat.le_of_ble_eq_true rfl)⟩⟩ hl.1 rfl (Nat.le_of_ble_eq_true rfl) dX10_bound_2) hP hD hS hA (fun u44 H locs hw45 hP hD hS => ?_)
  obtain ⟨ht47, hw48⟩ : (∀ b, u44 = some b → T b = (5, 0, 0)) ∧ (∀ b, u44 = some b → 0 ≤ p1.toInt ∧ p1.toInt ≤ 5) := hw45
  refine W.eq (g2 := F0 m 5 ls [va_rf u44]) rfl ?_
  rcases u44 with _ | b49
  · skip
    refine W.eq (g2 := F0 m 5 ls [.null]) rfl ?_
    refine lv_astore_nN (lv' := [(3, .null), (0, .ref p0), (1, .int p1), (2, .int p2)]) hx hb dX10_bound_5 rfl hl (by decide) rfl (fun ls hl => ?_)
    refine lv_aload_nN hx hb dX10_bound_6 rfl (lv_at hl 0 rfl) ?_
    refine lv_ifnullN (tgt := 21) hx hb dX10_bound_7 (by decide) ?_
    refine lv_iconst (v := (-1)) hx hb dX10_bound_21 (by decide) ?_
    refine W.widen (k := 40) (n := 280) (Nat.le_of_ble_eq_true rfl) (Nat.le_of_ble_eq_true rfl) ?_
    have zim1 : ((-1) : Int32).toInt = -1 := by decide
    exact W.iret (v := (-1)) hx hb hr (fun t ht hW => ⟨⟨(((-1)), ws, T), rfl, ⟨TLe.rf, hT, KF.rf⟩, CB.mk ht hP hD⟩, hS.F ht⟩) hS.2.2 dX10_bound_22
  · skip
    have ht50 := ht47 b49 rfl
    have h51 := hw48 b49 rfl
    refine W.eq (g2 := F0 m 5 ls [.ref b49]) rfl ?_
    refine lv_astore_n (lv' := [(3, .ref b49), (0, .ref p0), (1, .int p1), (2, .int p2)]) hx hb dX10_bound_5 rfl hl (by decide) rfl (fun ls hl => ?_)
    refine lv_aload_n hx hb dX10_bound_6 rfl (lv_at hl 0 rfl) ?_
    refine lv_ifnull hx hb dX10_bound_7 ?_
    refine lv_iload_n hx hb dX10_bound_10 rfl (lv_at hl 3 rfl) ?_
    refine lv_iconst (v := 1) hx hb dX10_bound_11 (by decide) ?_
    refine lv_sipush (v := 1000) hx hb dX10_bound_12 (by decide) ?_
    have zi1 : (1 : Int32).toInt = 1 := by decide
    have zi1000 : (1000 : Int32).toInt = 1000 := by decide
    refine cg0 (rn_S (As := [.int p2, .int 1, .int 1000]) (rest := []) (x_X10_isWithin l D Y Z H.size p2 1 1000) ⟨hx, hb, hml, hown, hg⟩ lk_X10_100 ⟨CP.blind, CP.at nilP hKN (nilD (A := fun _ => True))⟩ ⟨⟨rfl, rfl⟩, ⟨Nat.le_of_ble_eq_true rfl, Nat.le_of_ble_eq_true rfl⟩, ⟨(Nat.le_of_ble_eq_true rfl), (Nat.le_of_ble_eq_true rfl)⟩⟩ hl.1 rfl (Nat.le_of_ble_eq_true rfl) dX10_bound_15) hP hS hA (fun u52 H locs hw53 hP hS => ?_)
    obtain ⟨hw55, hw56⟩ : (((1 : Int32).toInt ≤ p2.toInt ∧ p2.toInt ≤ (1000 : Int32).toInt ∧ u52.toInt = 1) ∨ (¬ ((1 : Int32).toInt ≤ p2.toInt ∧ p2.toInt ≤ (1000 : Int32).toInt) ∧ u52.toInt = 0)) ∧ (0 ≤ u52.toInt ∧ u52.toInt ≤ 1) := hw53
    refine W.eq (g2 := F0 m 18 ls [.int u52]) rfl ?_
    rcases (show u52.toInt = 1 ∨ u52.toInt = 0 by omega) with c57 | c57
    · obtain rfl : u52 = 1 := i_is c57 (by decide)
      refine W.eq (g2 := F0 m 18 ls [.int 1]) rfl ?_
      refine lv_if_ne (tgt := 23) hx hb dX10_bound_18 (by decide) (fun c58 => ?_) (fun c58 => ?_)
      rotate_left
      · exact absurd c58 (by decide)
      refine lv_aload_n hx hb dX10_bound_23 rfl (lv_at hl 1 rfl) ?_
      refine va_get (D := D) (ci := 10) (v := .ref a1) (C := RX10) (T := TX10) (N := 20) hx hb hg inGX10 hown hKN.1 hP p42 hk43 rfl 0 (by decide) (hg _ kw_349) (fun _ h9 => h9) rfl dX10_bound_24 ?_
      refine ok2 hT h21 (fun p93 x59 a60 x61 a62 x63 a64 a65 x66 a67 a68 x69 a70 x71 hk94 h72 h73 h74 h75 h76 h77 h78 h79 h80 h81 h82 h83 h84 h85 h86 h87 h88 h89 h90 h91 h92 => ?_)
      refine cga (rn_NV (As := []) (rest := []) (b := a1) (x_X6_putIn l D Y Z H.size ws T g q 0 a1 hT h21) ⟨hx, hb, hml, hown, hg⟩ hKN lk_X10_303 ⟨CPC.blind, va_recv hKN.1 hP (ci := 6) (q0 := p93) rfl hk94, CPC.at hP hKN hD hSZ hS hA⟩ ⟨⟨rfl, rfl⟩, ⟨Nat.le_of_ble_eq_true rfl, Nat.le_of_ble_eq_true rfl⟩, ⟨(Nat.le_of_ble_eq_true rfl), (Nat.le_of_ble_eq_true rfl)⟩⟩ hl.1 rfl (Nat.le_of_ble_eq_true rfl) dX10_bound_27) hP hD hS hA (fun u95 H locs hw96 hP hD hS => ?_)
      refine W.eq (g2 := F0 m 30 ls [.int u95]) rfl ?_
      refine lv_istore (lv' := [(4, .int u95), (3, .ref b49), (0, .ref p0), (1, .int p1), (2, .int p2)]) hx hb dX10_bound_30 hl (by decide) rfl (fun ls hl => ?_)
      refine lv_iload hx hb dX10_bound_32 (lv_at hl 0 rfl) ?_
      have j98 := rgI u95
      refine lv_if_ne (tgt := 41) hx hb dX10_bound_34 (by decide) (fun c99 => ?_) (fun c99 => ?_)
      · skip
        have c99 := i_ne (Eq.refl u95.toInt) (show (0 : Int32).toInt = 0 by decide) c99
        refine lv_iload_n hx hb dX10_bound_41 rfl (lv_at hl 4 rfl) ?_
        have j100 := Int32.toInt_toInt64 p2
        refine lv_i2l (v := p2.toInt64) hx hb dX10_bound_42 (rfl) ?_
        refine lv_aload_n hx hb dX10_bound_43 rfl (lv_at hl 2 rfl) ?_
        refine lv_iload_n hx hb dX10_bound_44 rfl (lv_at hl 3 rfl) ?_
        refine lv_aload_n hx hb dX10_bound_45 rfl (lv_at hl 1 rfl) ?_
        refine ok5 hT ht50 (fun p122 x101 x102 x103 x104 x105 x106 x107 x108 a109 a110 a111 a112 a113 x114 hk123 h115 h116 h117 h118 h119 h120 h121 => ?_)
        refine va_getN (D := D) (ci := 8) (v := .int x107) (C := RX8) (T := TX8) (N := 14) hx hb hg inGX8 hown hKN.1 hP p122 hk123 rfl 6 (by decide) (va_Nw.use rfl (hKN.2.1 _ kn_135 rfl)) (fun _ h9 => h9) rfl dX10_bound_46 ?_
        refine cga (rn_V (As := [.int p1, .int x107]) (rest := [.long p2.toInt64]) (b := p0) (x_X10_caughtFrom l D Y Z H.size ws T g q p0 p1 x107 hT ht0) ⟨hx, hb, hml, hown, hg⟩ lk_X10_299 ⟨CPC.blind, va_recv hKN.1 hP (ci := 10) (q0 := p42) rfl hk43, CPC.at hP hKN hD hSZ hS hA⟩ ⟨⟨rfl, rfl⟩, ⟨Nat.le_of_ble_eq_true rfl, Nat.le_of_ble_eq_true rfl⟩, ⟨(Nat.le_of_ble_eq_true rfl), (Nat.le_of_ble_eq_true rfl)⟩⟩ hl.1 rfl (Nat.le_of_ble_eq_true rfl) dX10_bound_49) hP hD hS hA (fun u124 H locs hw125 hP hD hS => ?_)
        refine W.widen (k := 40) (n := 280) (Nat.le_of_ble_eq_true rfl) (Nat.le_of_ble_eq_true rfl) ?_
        obtain ⟨u126, w127, T128⟩ := u124
        obtain ⟨le129, hT, ke130⟩ : TLe T T128 ∧ TW Y Z T128 g q w127 ∧ KF 1 T ws w127 := hw125
        have hk131 := ke130 _ _ hk43 (show (T p0).1 = 1 by rw [ht0])
        have ke132 : KF 1 T ws w127 := KF.tr KF.rf ke130
        refine W.eq (g2 := F0 m 52 ls [.int u126, .long p2.toInt64]) rfl ?_
        have j133 := rgI u126
        have j134 := Int32.toInt_toInt64 u126
        refine lv_i2l (v := u126.toInt64) hx hb dX10_bound_52 (rfl) ?_
        refine lv_lmul hx hb dX10_bound_53 ?_
        refine lv_topl (fun v135 ev135 => ?_)
        have hv135 := l_mulR (a := 1) (b := 1000) (c := -2147483648) (d := 2147483647) (lo := -2147483648000) (hi := 2147483647000) (Int32.toInt_toInt64 p2) (Int32.toInt_toInt64 u126) ev135 (by omega) (by omega) (by decide) (by decide)
        refine lv_iload hx hb dX10_bound_54 (lv_at hl 0 rfl) ?_
        have j136 := Int32.toInt_toInt64 u95
        refine lv_i2l (v := u95.toInt64) hx hb dX10_bound_56 (rfl) ?_
        refine lv_ldiv hx hb dX10_bound_57 (l_nz (Int32.toInt_toInt64 u95) (by omega)) ?_
        refine lv_topl (fun v137 ev137 => ?_)
        have hv137 := l_divA (Eq.refl v135.toInt) (Int32.toInt_toInt64 u95) ev137 (by omega) (by omega) (by omega)
        refine lv_lstore (lv' := [(5, .long v137), (4, .int u95), (3, .ref b49), (0, .ref p0), (1, .int p1), (2, .int p2)]) hx hb dX10_bound_58 hl (by decide) rfl (fun ls hl => ?_)
        refine lv_lload hx hb dX10_bound_60 (lv_at hl 0 rfl) ?_
        refine lv_lconst (v := 0) hx hb dX10_bound_62 (by decide) ?_
        refine W.lcmp hx hb dX10_bound_63 ?_
        refine lv_if_ne (tgt := 70) hx hb dX10_bound_64 (by decide) (fun c138 => ?_) (fun c138 => ?_)
        · skip
          have c138 := l_ne (Eq.refl v137.toInt) (show (0 : Int64).toInt = 0 by decide) c138
          refine lv_ldc2 (v := 1000000) hx hb hown (hg _ kw_1075) dX10_bound_70 ?_
          refine lv_lstore (lv' := [(7, .long 1000000), (5, .long v137), (4, .int u95), (3, .ref b49), (0, .ref p0), (1, .int p1), (2, .int p2)]) hx hb dX10_bound_73 hl (by decide) rfl (fun ls hl => ?_)
          refine lv_iconst (v := 0) hx hb dX10_bound_75 (by decide) ?_
          refine lv_istore (lv' := [(9, .int 0), (7, .long 1000000), (5, .long v137), (4, .int u95), (3, .ref b49), (0, .ref p0), (1, .int p1), (2, .int p2)]) hx hb dX10_bound_76 hl (by decide) rfl (fun ls hl => ?_)
          have zi0 : (0 : Int32).toInt = 0 := by decide
          have zl1000000 : (1000000 : Int64).toInt = 1000000 := by decide
          refine w_loop (σ := Int32 × Int64) (fun xx H locs ls => match xx with | (v145, v146) => va_P D vwCl w127 H ∧ va_D A w127 ∧ va_S A s.heap H locs ∧ lv_has ls 10 [(9, .int v145), (7, .long v146), (5, .long v137), (4, .int u95), (3, .ref b49), (0, .ref p0), (1, .int p1), (2, .int p2)] ∧ TW Y Z T128 g q w127 ∧ (0 ≤ v145.toInt ∧ v145.toInt ≤ 1000000)) (fun xx => match xx with | (v145, v146) => (1000000 - v145.toInt).toNat) (0, 1000000) ⟨hP, hD, hS, lv_sub hl [0, 1, 2, 3, 4, 5, 6, 7] rfl, hT, by omega⟩ (fun xx H locs ls hI ih => ?_)
          obtain ⟨v145, v146⟩ := xx
          obtain ⟨hP, hD, hS, hl, hT, hq154⟩ := hI
          have ih155 := ih
          refine lv_ldc2 (v := 20) hx hb hown (hg _ kw_1080) dX10_bound_78 ?_
          refine lv_lload hx hb dX10_bound_81 (lv_at hl 1 rfl) ?_
          refine lv_lmul hx hb dX10_bound_83 ?_
          refine lv_topl (fun v156 ev156 => ?_)
          refine lv_ldc2 (v := 1000000) hx hb hown (hg _ kw_1075) dX10_bound_84 ?_
          refine W.lcmp hx hb dX10_bound_87 ?_
          refine lv_if_lt (tgt := 120) hx hb dX10_bound_88 (by decide) (fun c157 => ?_) (fun c157 => ?_)
          · skip
            have c157 := l_lt (Eq.refl v156.toInt) (show (1000000 : Int64).toInt = 1000000 by decide) c157
            refine lv_iload hx hb dX10_bound_120 (lv_at hl 0 rfl) ?_
            refine W.widen (k := 40) (n := 280) (Nat.le_of_ble_eq_true rfl) (Nat.le_of_ble_eq_true rfl) ?_
            exact W.iret (v := v145) hx hb hr (fun t ht hW => ⟨⟨(v145, w127, T128), rfl, ⟨le129, hT, ke132⟩, CB.mk ht hP hD⟩, hS.F ht⟩) hS.2.2 dX10_bound_122
          · skip
            have c157 := l_nlt (Eq.refl v156.toInt) (show (1000000 : Int64).toInt = 1000000 by decide) c157
            refine lv_iload hx hb dX10_bound_91 (lv_at hl 0 rfl) ?_
            refine lv_ldcw (v := 1000000) hx hb hown (hg _ kw_1081) dX10_bound_93 ?_
            refine lv_icmp_ge (tgt := 120) hx hb dX10_bound_96 (by decide) (fun c158 => ?_) (fun c158 => ?_)
            · skip
              have c158 := i_le (show (1000000 : Int32).toInt = 1000000 by decide) (Eq.refl v145.toInt) c158
              refine lv_iload hx hb dX10_bound_120 (lv_at hl 0 rfl) ?_
              refine W.widen (k := 40) (n := 280) (Nat.le_of_ble_eq_true rfl) (Nat.le_of_ble_eq_true rfl) ?_
              exact W.iret (v := v145) hx hb hr (fun t ht hW => ⟨⟨(v145, w127, T128), rfl, ⟨le129, hT, ke132⟩, CB.mk ht hP hD⟩, hS.F ht⟩) hS.2.2 dX10_bound_122
            · skip
              have c158 := i_nle (show (1000000 : Int32).toInt = 1000000 by decide) (Eq.refl v145.toInt) c158
              refine lv_lload hx hb dX10_bound_99 (lv_at hl 1 rfl) ?_
              refine lv_ldc2 (v := 1000) hx hb hown (hg _ kw_1082) dX10_bound_101 ?_
              refine lv_lload hx hb dX10_bound_104 (lv_at hl 2 rfl) ?_
              refine lv_lsub hx hb dX10_bound_106 ?_
              refine lv_topl (fun v159 ev159 => ?_)
              have hv159 := l_sub (show (1000 : Int64).toInt = 1000 by decide) (Eq.refl v137.toInt) ev159 (by omega) (by omega)
              refine lv_lmul hx hb dX10_bound_107 ?_
              refine lv_topl (fun v160 ev160 => ?_)
              refine lv_ldc2 (v := 1000) hx hb hown (hg _ kw_1082) dX10_bound_108 ?_
              have zl1000 : (1000 : Int64).toInt = 1000 := by decide
              refine lv_ldiv hx hb dX10_bound_111 (l_nz (show (1000 : Int64).toInt = 1000 by decide) (by omega)) ?_
              refine lv_topl (fun v161 ev161 => ?_)
              have hv161 := l_divS (Eq.refl v160.toInt) (show (1000 : Int64).toInt = 1000 by decide) ev161 (by omega)
              refine lv_lstore (lv' := [(7, .long v161), (9, .int v145), (5, .long v137), (4, .int u95), (3, .ref b49), (0, .ref p0), (1, .int p1), (2, .int p2)]) hx hb dX10_bound_112 hl (by decide) rfl (fun ls hl => ?_)
              obtain ⟨v162, ev162⟩ : ∃ y : Int32, y = v145 + 1 := ⟨_, rfl⟩
              have hv162 := i_add (Eq.refl v145.toInt) (show (1 : Int32).toInt = 1 by decide) ev162 (by omega) (by omega)
              refine lv_iinc (v := v162) (lv' := [(9, .int v162), (7, .long v161), (5, .long v137), (4, .int u95), (3, .ref b49), (0, .ref p0), (1, .int p1), (2, .int p2)]) hx hb dX10_bound_114 hl (k := 1) rfl (by rw [ev162]; rfl) (by decide) rfl (fun ls hl => ?_)
              refine lv_goto (tgt := 78) hx hb dX10_bound_117 (by decide) ?_
              exact ih155 (v162, v161) H locs ls (by show (1000000 - v162.toInt).toNat < (1000000 - v145.toInt).toNat; omega) ⟨hP, hD, hS, lv_sub hl [0, 1, 2, 3, 4, 5, 6, 7] rfl, hT, by omega⟩
        · skip
          have c138 := l_eq (Eq.refl v137.toInt) (show (0 : Int64).toInt = 0 by decide) c138
          refine lv_bipush (v := (-2)) hx hb dX10_bound_67 (by decide) ?_
          refine W.widen (k := 40) (n := 280) (Nat.le_of_ble_eq_true rfl) (Nat.le_of_ble_eq_true rfl) ?_
          have zim2 : ((-2) : Int32).toInt = -2 := by decide
          exact W.iret (v := (-2)) hx hb hr (fun t ht hW => ⟨⟨(((-2)), w127, T128), rfl, ⟨le129, hT, ke132⟩, CB.mk ht hP hD⟩, hS.F ht⟩) hS.2.2 dX10_bound_69
      · skip
        have c99 := i_eq (Eq.refl u95.toInt) (show (0 : Int32).toInt = 0 by decide) c99
        refine lv_lconst (v := 0) hx hb dX10_bound_37 (by decide) ?_
        refine lv_goto (tgt := 58) hx hb dX10_bound_38 (by decide) ?_
        refine lv_lstore (lv' := [(5, .long 0), (4, .int u95), (3, .ref b49), (0, .ref p0), (1, .int p1), (2, .int p2)]) hx hb dX10_bound_58 hl (by decide) rfl (fun ls hl => ?_)
        refine lv_lload hx hb dX10_bound_60 (lv_at hl 0 rfl) ?_
        refine lv_lconst (v := 0) hx hb dX10_bound_62 (by decide) ?_
        refine W.lcmp hx hb dX10_bound_63 ?_
        refine lv_if_ne (tgt := 70) hx hb dX10_bound_64 (by decide) (fun c163 => ?_) (fun c163 => ?_)
        · exact absurd c163 (by decide)
        refine lv_bipush (v := (-2)) hx hb dX10_bound_67 (by decide) ?_
        refine W.widen (k := 40) (n := 280) (Nat.le_of_ble_eq_true rfl) (Nat.le_of_ble_eq_true rfl) ?_
        have zim2 : ((-2) : Int32).toInt = -2 := by decide
        have zl0 : (0 : Int64).toInt = 0 := by decide
        exact W.iret (v := (-2)) hx hb hr (fun t ht hW => ⟨⟨(((-2)), ws, T), rfl, ⟨TLe.rf, hT, KF.rf⟩, CB.mk ht hP hD⟩, hS.F ht⟩) hS.2.2 dX10_bound_69
    · obtain rfl : u52 = 0 := i_is c57 (by decide)
      have zi0 : (0 : Int32).toInt = 0 := by decide
      refine W.eq (g2 := F0 m 18 ls [.int 0]) rfl ?_
      refine lv_if_ne (tgt := 23) hx hb dX10_bound_18 (by decide) (fun c164 => ?_) (fun c164 => ?_)
      · exact absurd c164 (by decide)
      refine lv_iconst (v := (-1)) hx hb dX10_bound_21 (by decide) ?_
      refine W.widen (k := 40) (n := 280) (Nat.le_of_ble_eq_true rfl) (Nat.le_of_ble_eq_true rfl) ?_
      have zim1 : ((-1) : Int32).toInt = -1 := by decide
      exact W.iret (v := (-1)) hx hb hr (fun t ht hW => ⟨⟨(((-1)), ws, T), rfl, ⟨TLe.rf, hT, KF.rf⟩, CB.mk ht hP hD⟩, hS.F ht⟩) hS.2.2 dX10_bound_22
set_option maxHeartbeats 4000000 in
set_option maxRecDepth 100000 in
theorem x_X10_second (l : Launch) (D : va_G) (Y : Nat → ClassId) (Z : Nat → Nat) (sz : Nat) (ws : va_W) (T : RT) (g : GN) (q : GQ)  (p0 : Nat) (p1 : Int32) (p2 : Int32) (p3 : Int32) (hT : TW Y Z T g q ws) (ht0 : T p0 = (1, 0, 0)) : Met l yX10_second (.code yX10_second cX10_second 6 (some .long) :: GW) ({ frames := 5, cells := 1, slots := 7, locals := 133 }) (va_Pc [.ref p0, .int p1, .int p2, .int p3] (CPC D Y Z ws sz)) (QG (S := Int64 × va_W × RT) (fun u => some (.long u.1)) (fun u => TLe T u.2.2 ∧ TW Y Z u.2.2 g q u.2.1 ∧ KF 1 T ws u.2.1) (fun u => CB D u.2.1 (va_A ws sz)) (va_A ws sz)) 1 7 (va_A ws sz) := by
  refine Met.ofW (cc := cX10_second) (maxL := 6) (ret := (some .long)) (by decide) rfl ?_
  intro p e s m args below meth c s₁ B hml hv
  obtain ⟨rfl, ⟨hsz, hP, hKN, hD0⟩, hSZ⟩ := hv
  have hx := B.exec
  have hb := B.bytes
  have hr := B.returns
  have hts := atoms_spec (ws := .code yX10_second cX10_second 6 (some .long) :: GW) B.pre
  have hg : ∀ w ∈ GW, w.before _ s = true := fun w h => hts w (List.mem_cons_of_mem _ h)
  have hown : s.vm.findClass RX10 = some m.cls := findClass_of_methodNamed B.named
  have hlocks := B.notSynchronized
  subst hsz
  have hD := hD0.self (sz := s.heap.size)
  generalize hAe : va_A ws s.heap.size = A at hD hSZ ⊢
  have hA : ∀ q : Nat, s.heap.size ≤ q → A q := fun q h => by rw [← hAe]; exact Or.inr h
  clear hAe hD0 hts B
  have hl := lv_entry ([.ref p0, .int p1, .int p2, .int p3]) (n := 6) (Nat.le_of_ble_eq_true rfl)
  rw [lg_entry_eq]
  generalize (lg_sl ([.ref p0, .int p1, .int p2, .int p3]) ++ List.replicate (6 - (lg_sl ([.ref p0, .int p1, .int p2, .int p3])).length) Slot.unset).toArray = ls at hl ⊢
  have hl : lv_has ls 6 [(0, .ref p0), (1, .int p1), (2, .int p2), (3, .int p3)] := hl
  refine w_start (A0 := A) hP (fun H locs hP hS => ?_)
  refine lv_aload_n hx hb dX10_second_0 rfl (lv_at hl 0 rfl) ?_
  refine lv_iload_n hx hb dX10_second_1 rfl (lv_at hl 1 rfl) ?_
  refine ok1 hT ht0 (fun p42 a1 a2 a3 a4 a5 x6 x7 x8 a9 a10 a11 a12 a13 a14 a15 a16 a17 x18 a19 a20 hk43 h21 h22 h23 h24 h25 h26 h27 h28 h29 h30 h31 h32 h33 h34 h35 h36 h37 h38 h39 h40 h41 => ?_)
  refine cga (rn_V (As := [.int p1]) (rest := []) (b := p0) (x_X10_searchAt l D Y Z H.size ws T g q p0 p1 hT ht0) ⟨hx, hb, hml, hown, hg⟩ lk_X10_259 ⟨CPC.blind, va_recv hKN.1 hP (ci := 10) (q0 := p42) rfl hk43, CPC.at hP hKN hD hSZ hS hA⟩ ⟨⟨rfl, rfl⟩, ⟨Nat.le_of_ble_eq_true rfl, Nat.le_of_ble_eq_true rfl⟩, ⟨(Nat.le_of_ble_eq_true rfl), (Nat.le_of_ble_eq_true rfl)⟩⟩ hl.1 rfl (Nat.le_of_ble_eq_true rfl) dX10_second_2) hP hD hS hA (fun u44 H locs hw45 hP hD hS => ?_)
  obtain ⟨ht47, hw48⟩ : (∀ b, u44 = some b → T b = (5, 0, 0)) ∧ (∀ b, u44 = some b → 0 ≤ p1.toInt ∧ p1.toInt ≤ 5) := hw45
  refine W.eq (g2 := F0 m 5 ls [va_rf u44]) rfl ?_
  rcases u44 with _ | b49
  · skip
    refine W.eq (g2 := F0 m 5 ls [.null]) rfl ?_
    refine lv_astoreN (lv' := [(4, .null), (0, .ref p0), (1, .int p1), (2, .int p2), (3, .int p3)]) hx hb dX10_second_5 hl (by decide) rfl (fun ls hl => ?_)
    refine lv_aloadN hx hb dX10_second_7 (lv_at hl 0 rfl) ?_
    refine lv_ifnullN (tgt := 30) hx hb dX10_second_9 (by decide) ?_
    refine lv_ldc2 (v := (-2)) hx hb hown (hg _ kw_852) dX10_second_30 ?_
    refine W.widen (k := 1) (n := 7) (Nat.le_of_ble_eq_true rfl) (Nat.le_of_ble_eq_true rfl) ?_
    have zlm2 : ((-2) : Int64).toInt = -2 := by decide
    exact W.lret (v := (-2)) hx hb hr (fun t ht hW => ⟨⟨(((-2)), ws, T), rfl, ⟨TLe.rf, hT, KF.rf⟩, CB.mk ht hP hD⟩, hS.F ht⟩) hS.2.2 dX10_second_33
  · skip
    have ht50 := ht47 b49 rfl
    have h51 := hw48 b49 rfl
    refine W.eq (g2 := F0 m 5 ls [.ref b49]) rfl ?_
    refine lv_astore (lv' := [(4, .ref b49), (0, .ref p0), (1, .int p1), (2, .int p2), (3, .int p3)]) hx hb dX10_second_5 hl (by decide) rfl (fun ls hl => ?_)
    refine lv_aload hx hb dX10_second_7 (lv_at hl 0 rfl) ?_
    refine lv_ifnull hx hb dX10_second_9 ?_
    refine lv_aload_n hx hb dX10_second_12 rfl (lv_at hl 1 rfl) ?_
    refine lv_iload_n hx hb dX10_second_13 rfl (lv_at hl 3 rfl) ?_
    refine cga (rn_V (As := [.int p2]) (rest := []) (b := p0) (x_X10_isStar l D Y Z H.size ws T g q p0 p2 hT ht0) ⟨hx, hb, hml, hown, hg⟩ lk_X10_137 ⟨CPC.blind, va_recv hKN.1 hP (ci := 10) (q0 := p42) rfl hk43, CPC.at hP hKN hD hSZ hS hA⟩ ⟨⟨rfl, rfl⟩, ⟨Nat.le_of_ble_eq_true rfl, Nat.le_of_ble_eq_true rfl⟩, ⟨(Nat.le_of_ble_eq_true rfl), (Nat.le_of_ble_eq_true rfl)⟩⟩ hl.1 rfl (Nat.le_of_ble_eq_true rfl) dX10_second_14) hP hD hS hA (fun u52 H locs hw53 hP hD hS => ?_)
    obtain ⟨hw55, hw56⟩ : (0 ≤ u52.toInt ∧ u52.toInt ≤ 1) ∧ (u52.toInt = 1 → (0 ≤ p2.toInt ∧ p2.toInt ≤ 11)) := hw53
    refine W.eq (g2 := F0 m 17 ls [.int u52]) rfl ?_
    rcases (show u52.toInt = 1 ∨ u52.toInt = 0 by omega) with c57 | c57
    · obtain rfl : u52 = 1 := i_is c57 (by decide)
      have zi1 : (1 : Int32).toInt = 1 := by decide
      replace hw56 := hw56 (by decide)
      refine W.eq (g2 := F0 m 17 ls [.int 1]) rfl ?_
      refine lv_if_eq (tgt := 30) hx hb dX10_second_17 (by decide) (fun c58 => ?_) (fun c58 => ?_)
      · exact absurd c58 (by decide)
      refine lv_iload_n hx hb dX10_second_20 rfl (lv_at hl 4 rfl) ?_
      refine lv_iconst (v := 0) hx hb dX10_second_21 (by decide) ?_
      refine lv_bipush (v := 6) hx hb dX10_second_22 (by decide) ?_
      have zi0 : (0 : Int32).toInt = 0 := by decide
      have zi6 : (6 : Int32).toInt = 6 := by decide
      refine cg0 (rn_S (As := [.int p3, .int 0, .int 6]) (rest := []) (x_X10_isWithin l D Y Z H.size p3 0 6) ⟨hx, hb, hml, hown, hg⟩ lk_X10_100 ⟨CP.blind, CP.at nilP hKN (nilD (A := fun _ => True))⟩ ⟨⟨rfl, rfl⟩, ⟨Nat.le_of_ble_eq_true rfl, Nat.le_of_ble_eq_true rfl⟩, ⟨(Nat.le_of_ble_eq_true rfl), (Nat.le_of_ble_eq_true rfl)⟩⟩ hl.1 rfl (Nat.le_of_ble_eq_true rfl) dX10_second_24) hP hS hA (fun u59 H locs hw60 hP hS => ?_)
      obtain ⟨hw62, hw63⟩ : (((0 : Int32).toInt ≤ p3.toInt ∧ p3.toInt ≤ (6 : Int32).toInt ∧ u59.toInt = 1) ∨ (¬ ((0 : Int32).toInt ≤ p3.toInt ∧ p3.toInt ≤ (6 : Int32).toInt) ∧ u59.toInt = 0)) ∧ (0 ≤ u59.toInt ∧ u59.toInt ≤ 1) := hw60
      refine W.eq (g2 := F0 m 27 ls [.int u59]) rfl ?_
      rcases (show u59.toInt = 1 ∨ u59.toInt = 0 by omega) with c64 | c64
      · obtain rfl : u59 = 1 := i_is c64 (by decide)
        refine W.eq (g2 := F0 m 27 ls [.int 1]) rfl ?_
        refine lv_if_ne (tgt := 34) hx hb dX10_second_27 (by decide) (fun c65 => ?_) (fun c65 => ?_)
        rotate_left
        · exact absurd c65 (by decide)
        refine lv_aload_n hx hb dX10_second_34 rfl (lv_at hl 1 rfl) ?_
        refine lv_iload_n hx hb dX10_second_35 rfl (lv_at hl 2 rfl) ?_
        refine lv_iload_n hx hb dX10_second_36 rfl (lv_at hl 3 rfl) ?_
        refine lv_iconst (v := 0) hx hb dX10_second_37 (by decide) ?_
        refine cga (rn_V (As := [.int p1, .int p2, .int 0]) (rest := []) (b := p0) (x_X10_findingOf l D Y Z H.size ws T g q p0 p1 p2 0 hT ht0) ⟨hx, hb, hml, hown, hg⟩ lk_X10_264 ⟨CPC.blind, va_recv hKN.1 hP (ci := 10) (q0 := p42) rfl hk43, CPC.at hP hKN hD hSZ hS hA⟩ ⟨⟨rfl, rfl⟩, ⟨Nat.le_of_ble_eq_true rfl, Nat.le_of_ble_eq_true rfl⟩, ⟨(Nat.le_of_ble_eq_true rfl), (Nat.le_of_ble_eq_true rfl)⟩⟩ hl.1 rfl (Nat.le_of_ble_eq_true rfl) dX10_second_38) hP hD hS hA (fun u66 H locs hw67 hP hD hS => ?_)
        refine W.widen (k := 1) (n := 7) (Nat.le_of_ble_eq_true rfl) (Nat.le_of_ble_eq_true rfl) ?_
        obtain ⟨b68, w69, T70⟩ := u66
        obtain ⟨le71, hT, ke72, ht73⟩ : TLe T T70 ∧ TW Y Z T70 g q w69 ∧ KF 1 T ws w69 ∧ T70 b68 = (6, 0, 0) := hw67
        have hk74 := ke72 _ _ hk43 (show (T p0).1 = 1 by rw [ht0])
        have ke75 : KF 1 T ws w69 := KF.tr KF.rf ke72
        refine W.eq (g2 := F0 m 41 ls [.ref b68]) rfl ?_
        refine lv_astore (lv' := [(5, .ref b68), (4, .ref b49), (0, .ref p0), (1, .int p1), (2, .int p2), (3, .int p3)]) hx hb dX10_second_41 hl (by decide) rfl (fun ls hl => ?_)
        refine lv_aload hx hb dX10_second_43 (lv_at hl 0 rfl) ?_
        refine ok6 hT ht73 (fun p84 x76 x77 x78 x79 x80 y81 y82 hk85 h83 => ?_)
        refine cga (rn_NV (As := []) (rest := []) (b := b68) (x_X1_isNone l D Y Z H.size w69 T70 g q b68 p84 x76 x77 x78 x79 x80 y81 y82 hT ht73 hk85) ⟨hx, hb, hml, hown, hg⟩ hKN lk_X10_315 ⟨CPC.blind, va_recv hKN.1 hP (ci := 1) (q0 := p84) rfl hk85, CPC.at hP hKN hD hSZ hS hA⟩ ⟨⟨rfl, rfl⟩, ⟨Nat.le_of_ble_eq_true rfl, Nat.le_of_ble_eq_true rfl⟩, ⟨(Nat.le_of_ble_eq_true rfl), (Nat.le_of_ble_eq_true rfl)⟩⟩ hl.1 rfl (Nat.le_of_ble_eq_true rfl) dX10_second_45) hP hD hS hA (fun u86 H locs hw87 hP hD hS => ?_)
        obtain ⟨hw89, hw90⟩ : (0 ≤ u86.toInt ∧ u86.toInt ≤ 1) ∧ (u86.toInt = 0 → 1 ≤ x77.toInt) := hw87
        refine W.eq (g2 := F0 m 48 ls [.int u86]) rfl ?_
        rcases (show u86.toInt = 1 ∨ u86.toInt = 0 by omega) with c91 | c91
        · obtain rfl : u86 = 1 := i_is c91 (by decide)
          clear hw90
          refine W.eq (g2 := F0 m 48 ls [.int 1]) rfl ?_
          refine lv_if_eq (tgt := 55) hx hb dX10_second_48 (by decide) (fun c92 => ?_) (fun c92 => ?_)
          · exact absurd c92 (by decide)
          refine lv_ldc2 (v := (-2)) hx hb hown (hg _ kw_852) dX10_second_51 ?_
          refine W.widen (k := 1) (n := 7) (Nat.le_of_ble_eq_true rfl) (Nat.le_of_ble_eq_true rfl) ?_
          have zlm2 : ((-2) : Int64).toInt = -2 := by decide
          exact W.lret (v := (-2)) hx hb hr (fun t ht hW => ⟨⟨(((-2)), w69, T70), rfl, ⟨le71, hT, ke75⟩, CB.mk ht hP hD⟩, hS.F ht⟩) hS.2.2 dX10_second_54
        · obtain rfl : u86 = 0 := i_is c91 (by decide)
          replace hw90 := hw90 (by decide)
          refine W.eq (g2 := F0 m 48 ls [.int 0]) rfl ?_
          refine lv_if_eq (tgt := 55) hx hb dX10_second_48 (by decide) (fun c93 => ?_) (fun c93 => ?_)
          rotate_left
          · exact absurd c93 (by decide)
          refine lv_aload_n hx hb dX10_second_55 rfl (lv_at hl 2 rfl) ?_
          refine va_get (D := D) (ci := 10) (v := .ref a11) (C := RX10) (T := TX10) (N := 20) hx hb hg inGX10 hown hKN.1 hP p42 hk74 rfl 10 (by decide) (hg _ kw_359) (fun _ h9 => h9) rfl dX10_second_56 ?_
          refine lv_aload_n hx hb dX10_second_59 rfl (lv_at hl 2 rfl) ?_
          refine va_get (D := D) (ci := 10) (v := .ref a1) (C := RX10) (T := TX10) (N := 20) hx hb hg inGX10 hown hKN.1 hP p42 hk74 rfl 0 (by decide) (hg _ kw_349) (fun _ h9 => h9) rfl dX10_second_60 ?_
          refine lv_iload_n hx hb dX10_second_63 rfl (lv_at hl 4 rfl) ?_
          refine lv_iconst (v := 0) hx hb dX10_second_64 (by decide) ?_
          refine ok9 hT (le71.up h33) (fun p106 a94 a95 a96 x97 y98 y99 x100 y101 hk107 h102 h103 h104 h105 => ?_)
          refine cga (rn_NV (As := [.ref a1, .int p2, .int 0]) (rest := []) (b := a11) (x_X2_see l D Y Z H.size w69 T70 g q 0 a11 a1 p2 0 hT (le71.up h33) (le71.up h21)) ⟨hx, hb, hml, hown, hg⟩ hKN lk_X10_143 ⟨CPC.blind, va_recv hKN.1 hP (ci := 2) (q0 := p106) rfl hk107, CPC.at hP hKN hD hSZ hS hA⟩ ⟨⟨rfl, rfl⟩, ⟨Nat.le_of_ble_eq_true rfl, Nat.le_of_ble_eq_true rfl⟩, ⟨(Nat.le_of_ble_eq_true rfl), (Nat.le_of_ble_eq_true rfl)⟩⟩ hl.1 rfl (Nat.le_of_ble_eq_true rfl) dX10_second_65) hP hD hS hA (fun u108 H locs hw109 hP hD hS => ?_)
          obtain ⟨hT, ke111, ke112⟩ : TW Y Z T70 g q u108 ∧ KF 1 T70 w69 u108 ∧ KF 6 T70 w69 u108 := hw109
          have hk113 := ke111 _ _ hk74 (show (T70 p0).1 = 1 by rw [(le71.up ht0)])
          have hk114 := ke112 _ _ hk85 (show (T70 b68).1 = 6 by rw [ht73])
          have ke115 : KF 1 T ws u108 := KF.tr ke75 (KF.le (by decide) le71 ke111)
          refine W.eq (g2 := F0 m 68 ls []) rfl ?_
          refine lv_aload_n hx hb dX10_second_68 rfl (lv_at hl 2 rfl) ?_
          refine va_get (D := D) (ci := 10) (v := .ref a11) (C := RX10) (T := TX10) (N := 20) hx hb hg inGX10 hown hKN.1 hP p42 hk113 rfl 10 (by decide) (hg _ kw_359) (fun _ h9 => h9) rfl dX10_second_69 ?_
          refine lv_aload hx hb dX10_second_72 (lv_at hl 0 rfl) ?_
          refine va_getN (D := D) (ci := 1) (v := .int x77) (C := RX1) (T := TX1) (N := 7) hx hb hg inGX1 hown hKN.1 hP p84 hk114 rfl 1 (by decide) (va_Nw.use rfl (hKN.2.1 _ kn_313 rfl)) (fun _ h9 => h9) rfl dX10_second_74 ?_
          refine lv_aload hx hb dX10_second_77 (lv_at hl 0 rfl) ?_
          refine va_getN (D := D) (ci := 1) (v := .int x78) (C := RX1) (T := TX1) (N := 7) hx hb hg inGX1 hown hKN.1 hP p84 hk114 rfl 2 (by decide) (va_Nw.use rfl (hKN.2.1 _ kn_318 rfl)) (fun _ h9 => h9) rfl dX10_second_79 ?_
          refine lv_aload hx hb dX10_second_82 (lv_at hl 0 rfl) ?_
          refine va_getN (D := D) (ci := 1) (v := .int x79) (C := RX1) (T := TX1) (N := 7) hx hb hg inGX1 hown hKN.1 hP p84 hk114 rfl 3 (by decide) (va_Nw.use rfl (hKN.2.1 _ kn_323 rfl)) (fun _ h9 => h9) rfl dX10_second_84 ?_
          refine ok9 hT (le71.up h33) (fun p128 a116 a117 a118 x119 y120 y121 x122 y123 hk129 h124 h125 h126 h127 => ?_)
          refine cga (rn_NV (As := [.int x77, .int x78, .int x79]) (rest := []) (b := a11) (x_X2_dropDips l D Y Z H.size u108 T70 g q a11 x77 x78 x79 hT (le71.up h33)) ⟨hx, hb, hml, hown, hg⟩ hKN lk_X10_369 ⟨CPC.blind, va_recv hKN.1 hP (ci := 2) (q0 := p128) rfl hk129, CPC.at hP hKN hD hSZ hS hA⟩ ⟨⟨rfl, rfl⟩, ⟨Nat.le_of_ble_eq_true rfl, Nat.le_of_ble_eq_true rfl⟩, ⟨(Nat.le_of_ble_eq_true rfl), (Nat.le_of_ble_eq_true rfl)⟩⟩ hl.1 rfl (Nat.le_of_ble_eq_true rfl) dX10_second_87) hP hD hS hA (fun u130 H locs hw131 hP hD hS => ?_)
          obtain ⟨hT, ke133, ke134⟩ : TW Y Z T70 g q u130 ∧ KF 1 T70 u108 u130 ∧ KF 6 T70 u108 u130 := hw131
          have hk135 := ke133 _ _ hk113 (show (T70 p0).1 = 1 by rw [(le71.up ht0)])
          have hk136 := ke134 _ _ hk114 (show (T70 b68).1 = 6 by rw [ht73])
          have ke137 : KF 1 T ws u130 := KF.tr ke115 (KF.le (by decide) le71 ke133)
          refine W.eq (g2 := F0 m 90 ls []) rfl ?_
          refine lv_aload_n hx hb dX10_second_90 rfl (lv_at hl 2 rfl) ?_
          refine va_get (D := D) (ci := 10) (v := .ref a12) (C := RX10) (T := TX10) (N := 20) hx hb hg inGX10 hown hKN.1 hP p42 hk135 rfl 11 (by decide) (hg _ kw_360) (fun _ h9 => h9) rfl dX10_second_91 ?_
          refine lv_aload_n hx hb dX10_second_94 rfl (lv_at hl 2 rfl) ?_
          refine va_get (D := D) (ci := 10) (v := .ref a11) (C := RX10) (T := TX10) (N := 20) hx hb hg inGX10 hown hKN.1 hP p42 hk135 rfl 10 (by decide) (hg _ kw_359) (fun _ h9 => h9) rfl dX10_second_95 ?_
          refine lv_aload hx hb dX10_second_98 (lv_at hl 1 rfl) ?_
          refine lv_aload_n hx hb dX10_second_100 rfl (lv_at hl 2 rfl) ?_
          refine va_get (D := D) (ci := 10) (v := .ref a15) (C := RX10) (T := TX10) (N := 20) hx hb hg inGX10 hown hKN.1 hP p42 hk135 rfl 14 (by decide) (hg _ kw_363) (fun _ h9 => h9) rfl dX10_second_101 ?_
          refine ok10 hT (le71.up h34) (fun p142 a138 a139 hk143 h140 h141 => ?_)
          refine cga (rn_NV (As := [.ref a11, .ref b49, .ref a15]) (rest := []) (b := a12) (x_X0_find l D Y Z H.size u130 T70 g q a12 a11 b49 a15 hT (le71.up h34) (le71.up h33) (le71.up ht50) (le71.up h37)) ⟨hx, hb, hml, hown, hg⟩ hKN lk_X10_372 ⟨CPC.blind, va_recv hKN.1 hP (ci := 0) (q0 := p142) rfl hk143, CPC.at hP hKN hD hSZ hS hA⟩ ⟨⟨rfl, rfl⟩, ⟨Nat.le_of_ble_eq_true rfl, Nat.le_of_ble_eq_true rfl⟩, ⟨(Nat.le_of_ble_eq_true rfl), (Nat.le_of_ble_eq_true rfl)⟩⟩ hl.1 rfl (Nat.le_of_ble_eq_true rfl) dX10_second_104) hP hD hS hA (fun u144 H locs hw145 hP hD hS => ?_)
          obtain ⟨hT, ke147⟩ : TW Y Z T70 g q u144 ∧ KF 1 T70 u130 u144 := hw145
          have hk148 := ke147 _ _ hk135 (show (T70 p0).1 = 1 by rw [(le71.up ht0)])
          have ke149 : KF 1 T ws u144 := KF.tr ke137 (KF.le (by decide) le71 ke147)
          refine W.eq (g2 := F0 m 107 ls []) rfl ?_
          refine lv_aload_n hx hb dX10_second_107 rfl (lv_at hl 2 rfl) ?_
          refine va_get (D := D) (ci := 10) (v := .ref a15) (C := RX10) (T := TX10) (N := 20) hx hb hg inGX10 hown hKN.1 hP p42 hk148 rfl 14 (by decide) (hg _ kw_363) (fun _ h9 => h9) rfl dX10_second_108 ?_
          refine lv_iload_n hx hb dX10_second_111 rfl (lv_at hl 5 rfl) ?_
          refine lv_aload hx hb dX10_second_112 (lv_at hl 1 rfl) ?_
          refine ok5 hT (le71.up ht50) (fun p171 x150 x151 x152 x153 x154 x155 x156 x157 a158 a159 a160 a161 a162 x163 hk172 h164 h165 h166 h167 h168 h169 h170 => ?_)
          refine va_getN (D := D) (ci := 8) (v := .int x156) (C := RX8) (T := TX8) (N := 14) hx hb hg inGX8 hown hKN.1 hP p171 hk172 rfl 6 (by decide) (va_Nw.use rfl (hKN.2.1 _ kn_135 rfl)) (fun _ h9 => h9) rfl dX10_second_114 ?_
          refine ok6 hT (le71.up h37) (fun p181 x173 x174 x175 x176 x177 y178 y179 hk182 h180 => ?_)
          refine cga (rn_NV (As := [.int p3, .int x156]) (rest := []) (b := a15) (x_X1_part l D Y Z H.size u144 T70 g q a15 p3 x156 hT (le71.up h37)) ⟨hx, hb, hml, hown, hg⟩ hKN lk_X10_271 ⟨CPC.blind, va_recv hKN.1 hP (ci := 1) (q0 := p181) rfl hk182, CPC.at hP hKN hD hSZ hS hA⟩ ⟨⟨rfl, rfl⟩, ⟨Nat.le_of_ble_eq_true rfl, Nat.le_of_ble_eq_true rfl⟩, ⟨(Nat.le_of_ble_eq_true rfl), (Nat.le_of_ble_eq_true rfl)⟩⟩ hl.1 rfl (Nat.le_of_ble_eq_true rfl) dX10_second_117) hP hD hS hA (fun u183 H locs hw184 hP hD hS => ?_)
          refine W.eq (g2 := F0 m 120 ls [.long u183]) rfl ?_
          refine W.widen (k := 1) (n := 7) (Nat.le_of_ble_eq_true rfl) (Nat.le_of_ble_eq_true rfl) ?_
          exact W.lret (v := u183) hx hb hr (fun t ht hW => ⟨⟨(u183, u144, T70), rfl, ⟨le71, hT, ke149⟩, CB.mk ht hP hD⟩, hS.F ht⟩) hS.2.2 dX10_second_120
      · obtain rfl : u59 = 0 := i_is c64 (by decide)
        refine W.eq (g2 := F0 m 27 ls [.int 0]) rfl ?_
        refine lv_if_ne (tgt := 34) hx hb dX10_second_27 (by decide) (fun c186 => ?_) (fun c186 => ?_)
        · exact absurd c186 (by decide)
        refine lv_ldc2 (v := (-2)) hx hb hown (hg _ kw_852) dX10_second_30 ?_
        refine W.widen (k := 1) (n := 7) (Nat.le_of_ble_eq_true rfl) (Nat.le_of_ble_eq_true rfl) ?_
        have zlm2 : ((-2) : Int64).toInt = -2 := by decide
        exact W.lret (v := (-2)) hx hb hr (fun t ht hW => ⟨⟨(((-2)), ws, T), rfl, ⟨TLe.rf, hT, KF.rf⟩, CB.mk ht hP hD⟩, hS.F ht⟩) hS.2.2 dX10_second_33
    · obtain rfl : u52 = 0 := i_is c57 (by decide)
      have zi0 : (0 : Int32).toInt = 0 := by decide
      clear hw56
      refine W.eq (g2 := F0 m 17 ls [.int 0]) rfl ?_
      refine lv_if_eq (tgt := 30) hx hb dX10_second_17 (by decide) (fun c187 => ?_) (fun c187 => ?_)
      rotate_left
      · exact absurd c187 (by decide)
      refine lv_ldc2 (v := (-2)) hx hb hown (hg _ kw_852) dX10_second_30 ?_
      refine W.widen (k := 1) (n := 7) (Nat.le_of_ble_eq_true rfl) (Nat.le_of_ble_eq_true rfl) ?_
      have zlm2 : ((-2) : Int64).toInt = -2 := by decide
      exact W.lret (v := (-2)) hx hb hr (fun t ht hW => ⟨⟨(((-2)), ws, T), rfl, ⟨TLe.rf, hT, KF.rf⟩, CB.mk ht hP hD⟩, hS.F ht⟩) hS.2.2 dX10_second_33
