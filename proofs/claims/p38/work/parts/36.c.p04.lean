set_option maxHeartbeats 4000000 in
set_option maxRecDepth 100000 in
theorem x_X10_end (l : Launch) (D : va_G) (Y : Nat → ClassId) (Z : Nat → Nat) (sz : Nat) (ws : va_W) (T : RT) (g : GN) (q : GQ)  (p0 : Nat) (p1 : Int32) (hT : TW Y Z T g q ws) (ht0 : T p0 = (1, 0, 0)) : Met l yX10_end (.code yX10_end cX10_end 2 (some .int) :: GW) ({ frames := 1, cells := 0, slots := 0, locals := 22 }) (va_Pc [.ref p0, .int p1] (CPC D Y Z ws sz)) (QG (S := Int32 × va_W) (fun u => some (.int u.1)) (fun u => TW Y Z T g q u.2 ∧ KF 1 T ws u.2 ∧ KF 6 T ws u.2) (fun u => CB D u.2 (va_A ws sz)) (va_A ws sz)) 0 0 (va_A ws sz) := by
  refine Met.ofW (cc := cX10_end) (maxL := 2) (ret := (some .int)) (by decide) rfl ?_
  intro p e s m args below meth c s₁ B hml hv
  obtain ⟨rfl, ⟨hsz, hP, hKN, hD0⟩, hSZ⟩ := hv
  have hx := B.exec
  have hb := B.bytes
  have hr := B.returns
  have hts := atoms_spec (ws := .code yX10_end cX10_end 2 (some .int) :: GW) B.pre
  have hg : ∀ w ∈ GW, w.before _ s = true := fun w h => hts w (List.mem_cons_of_mem _ h)
  have hown : s.vm.findClass RX10 = some m.cls := findClass_of_methodNamed B.named
  have hlocks := B.notSynchronized
  subst hsz
  have hD := hD0.self (sz := s.heap.size)
  generalize hAe : va_A ws s.heap.size = A at hD hSZ ⊢
  have hA : ∀ q : Nat, s.heap.size ≤ q → A q := fun q h => by rw [← hAe]; exact Or.inr h
  clear hAe hD0 hts B
  have hl := lv_entry ([.ref p0, .int p1]) (n := 2) (Nat.le_of_ble_eq_true rfl)
  rw [lg_entry_eq]
  generalize (lg_sl ([.ref p0, .int p1]) ++ List.replicate (2 - (lg_sl ([.ref p0, .int p1])).length) Slot.unset).toArray = ls at hl ⊢
  have hl : lv_has ls 2 [(0, .ref p0), (1, .int p1)] := hl
  refine w_start (A0 := A) hP (fun H locs hP hS => ?_)
  refine lv_iload_n hx hb dX10_end_0 rfl (lv_at hl 1 rfl) ?_
  refine lv_iconst (v := 0) hx hb dX10_end_1 (by decide) ?_
  refine lv_aload_n hx hb dX10_end_2 rfl (lv_at hl 0 rfl) ?_
  refine ok1 hT ht0 (fun p42 a1 a2 a3 a4 a5 x6 x7 x8 a9 a10 a11 a12 a13 a14 a15 a16 a17 x18 a19 a20 hk43 h21 h22 h23 h24 h25 h26 h27 h28 h29 h30 h31 h32 h33 h34 h35 h36 h37 h38 h39 h40 h41 => ?_)
  refine va_get (D := D) (ci := 10) (v := .ref a1) (C := RX10) (T := TX10) (N := 20) hx hb hg inGX10 hown hKN.1 hP p42 hk43 rfl 0 (by decide) (hg _ kw_349) (fun _ h9 => h9) rfl dX10_end_3 ?_
  refine ok2 hT h21 (fun p78 x44 a45 x46 a47 x48 a49 a50 x51 a52 a53 x54 a55 x56 hk79 h57 h58 h59 h60 h61 h62 h63 h64 h65 h66 h67 h68 h69 h70 h71 h72 h73 h74 h75 h76 h77 => ?_)
  refine va_getN (D := D) (ci := 6) (v := .int x56) (C := RX6) (T := TX6) (N := 13) hx hb hg inGX6 hown hKN.1 hP p78 hk79 rfl 12 (by decide) (va_Nw.use rfl (hKN.2.1 _ kn_68 rfl)) (fun _ h9 => h9) rfl dX10_end_6 ?_
  have zi0 : (0 : Int32).toInt = 0 := by decide
  refine cg0 (rn_S (As := [.int p1, .int 0, .int x56]) (rest := []) (x_X10_isWithin l D Y Z H.size p1 0 x56) ⟨hx, hb, hml, hown, hg⟩ lk_X10_100 ⟨CP.blind, CP.at nilP hKN (nilD (A := fun _ => True))⟩ ⟨⟨rfl, rfl⟩, ⟨Nat.le_of_ble_eq_true rfl, Nat.le_of_ble_eq_true rfl⟩, ⟨(Nat.le_of_ble_eq_true rfl), (Nat.le_of_ble_eq_true rfl)⟩⟩ hl.1 rfl (Nat.le_of_ble_eq_true rfl) dX10_end_9) hP hS hA (fun u80 H locs hw81 hP hS => ?_)
  obtain ⟨hw83, hw84⟩ : (((0 : Int32).toInt ≤ p1.toInt ∧ p1.toInt ≤ x56.toInt ∧ u80.toInt = 1) ∨ (¬ ((0 : Int32).toInt ≤ p1.toInt ∧ p1.toInt ≤ x56.toInt) ∧ u80.toInt = 0)) ∧ (0 ≤ u80.toInt ∧ u80.toInt ≤ 1) := hw81
  refine W.eq (g2 := F0 m 12 ls [.int u80]) rfl ?_
  rcases (show u80.toInt = 1 ∨ u80.toInt = 0 by omega) with c85 | c85
  · obtain rfl : u80 = 1 := i_is c85 (by decide)
    have zi1 : (1 : Int32).toInt = 1 := by decide
    refine W.eq (g2 := F0 m 12 ls [.int 1]) rfl ?_
    refine lv_if_ne (tgt := 17) hx hb dX10_end_12 (by decide) (fun c86 => ?_) (fun c86 => ?_)
    rotate_left
    · exact absurd c86 (by decide)
    refine lv_aload_n hx hb dX10_end_17 rfl (lv_at hl 0 rfl) ?_
    refine va_get (D := D) (ci := 10) (v := .ref a1) (C := RX10) (T := TX10) (N := 20) hx hb hg inGX10 hown hKN.1 hP p42 hk43 rfl 0 (by decide) (hg _ kw_349) (fun _ h9 => h9) rfl dX10_end_18 ?_
    refine lv_iload_n hx hb dX10_end_21 rfl (lv_at hl 1 rfl) ?_
    refine va_putN (D := D) (ci := 6) (v := .int p1) (ty := .int) (C := RX6) (T := TX6) (N := 13) hx hb hg inGX6 tyX6 tyX6_ok nmX6 hown hKN.1 hP hD hS p78 hk79 rfl 12 (by decide) (va_Nw.use rfl (hKN.2.1 _ kn_68 rfl)) (fun _ h9 => h9) rfl (by decide +kernel) rfl rfl (Nat.le_of_ble_eq_true rfl) dX10_end_22 (fun H locs hP hD2 hS => ?_)
    obtain ⟨w87, hP, hD, hT, hk89, kp88⟩ : ∃ wz, va_P D vwCl wz H ∧ va_D A wz ∧ TW Y Z T g q wz ∧ wz[p78]? = some (a1, .inr (6, (.int x44 :: .ref a45 :: .int x46 :: .ref a47 :: .int x48 :: .ref a49 :: .ref a50 :: .int x51 :: .ref a52 :: .ref a53 :: .int x54 :: .ref a55 :: .int p1 :: []))) ∧ Kp a1 ws wz := ⟨_, hP, hD2, st2 hT hD hk79 h21 ⟨x44, a45, x46, a47, x48, a49, a50, x51, a52, a53, x54, a55, p1, rfl, by omega, h58, h59, h60, by omega, h62, h63, by omega, h65, h66, h67, h68, h69, by omega, h71, h72, h73, by omega, h75, h76, by omega⟩, sw_eq hk79, sw_kp hk79⟩
    have ke90 : KF 1 T ws w87 := KF.tr KF.rf (KF.kp kp88 h21 (by decide))
    have ke91 : KF 6 T ws w87 := KF.tr KF.rf (KF.kp kp88 h21 (by decide))
    have hk92 := kp88 _ _ hk43 (rne ht0 h21 (by decide))
    refine lv_iload_n hx hb dX10_end_25 rfl (lv_at hl 1 rfl) ?_
    refine W.widen (k := 0) (n := 0) (Nat.le_of_ble_eq_true rfl) (Nat.le_of_ble_eq_true rfl) ?_
    exact W.iret (v := p1) hx hb hr (fun t ht hW => ⟨⟨(p1, w87), rfl, ⟨hT, ke90, ke91⟩, CB.mk ht hP hD⟩, hS.F ht⟩) hS.2.2 dX10_end_26
  · obtain rfl : u80 = 0 := i_is c85 (by decide)
    refine W.eq (g2 := F0 m 12 ls [.int 0]) rfl ?_
    refine lv_if_ne (tgt := 17) hx hb dX10_end_12 (by decide) (fun c93 => ?_) (fun c93 => ?_)
    · exact absurd c93 (by decide)
    refine lv_iconst (v := (-1)) hx hb dX10_end_15 (by decide) ?_
    refine W.widen (k := 0) (n := 0) (Nat.le_of_ble_eq_true rfl) (Nat.le_of_ble_eq_true rfl) ?_
    have zim1 : ((-1) : Int32).toInt = -1 := by decide
    exact W.iret (v := (-1)) hx hb hr (fun t ht hW => ⟨⟨(((-1)), ws), rfl, ⟨hT, KF.rf, KF.rf⟩, CB.mk ht hP hD⟩, hS.F ht⟩) hS.2.2 dX10_end_16
set_option maxHeartbeats 4000000 in
set_option maxRecDepth 100000 in
theorem x_X10_text (l : Launch) (D : va_G) (Y : Nat → ClassId) (Z : Nat → Nat) (sz : Nat) (ws : va_W) (T : RT) (g : GN) (q : GQ)  (p0 : Nat) (p1 : Int32) (hT : TW Y Z T g q ws) (ht0 : T p0 = (1, 0, 0)) : Met l yX10_text (.code yX10_text cX10_text 4 (some .int) :: GW) ({ frames := 31, cells := 6, slots := 462, locals := 723 }) (va_Pc [.ref p0, .int p1] (CPC D Y Z ws sz)) (QG (S := Int32 × va_W × RT) (fun u => some (.int u.1)) (fun u => TLe T u.2.2 ∧ TW Y Z u.2.2 g q u.2.1 ∧ KF 6 T ws u.2.1) (fun u => CB D u.2.1 (va_A ws sz)) (va_A ws sz)) 6 462 (va_A ws sz) := by
  refine Met.ofW (cc := cX10_text) (maxL := 4) (ret := (some .int)) (by decide) rfl ?_
  intro p e s m args below meth c s₁ B hml hv
  obtain ⟨rfl, ⟨hsz, hP, hKN, hD0⟩, hSZ⟩ := hv
  have hx := B.exec
  have hb := B.bytes
  have hr := B.returns
  have hts := atoms_spec (ws := .code yX10_text cX10_text 4 (some .int) :: GW) B.pre
  have hg : ∀ w ∈ GW, w.before _ s = true := fun w h => hts w (List.mem_cons_of_mem _ h)
  have hown : s.vm.findClass RX10 = some m.cls := findClass_of_methodNamed B.named
  have hlocks := B.notSynchronized
  subst hsz
  have hD := hD0.self (sz := s.heap.size)
  generalize hAe : va_A ws s.heap.size = A at hD hSZ ⊢
  have hA : ∀ q : Nat, s.heap.size ≤ q → A q := fun q h => by rw [← hAe]; exact Or.inr h
  clear hAe hD0 hts B
  have hl := lv_entry ([.ref p0, .int p1]) (n := 4) (Nat.le_of_ble_eq_true rfl)
  rw [lg_entry_eq]
  generalize (lg_sl ([.ref p0, .int p1]) ++ List.replicate (4 - (lg_sl ([.ref p0, .int p1])).length) Slot.unset).toArray = ls at hl ⊢
  have hl : lv_has ls 4 [(0, .ref p0), (1, .int p1)] := hl
  refine w_start (A0 := A) hP (fun H locs hP hS => ?_)
  refine lv_iload_n hx hb dX10_text_0 rfl (lv_at hl 1 rfl) ?_
  have j1 := rgI p1
  refine lv_if_ne (tgt := 11) hx hb dX10_text_1 (by decide) (fun c2 => ?_) (fun c2 => ?_)
  · skip
    have c2 := i_ne (Eq.refl p1.toInt) (show (0 : Int32).toInt = 0 by decide) c2
    refine lv_iload_n hx hb dX10_text_11 rfl (lv_at hl 1 rfl) ?_
    refine lv_iconst (v := 1) hx hb dX10_text_12 (by decide) ?_
    refine lv_icmp_ne (tgt := 23) hx hb dX10_text_13 (by decide) (fun c3 => ?_) (fun c3 => ?_)
    · skip
      have c3 := i_ne (Eq.refl p1.toInt) (show (1 : Int32).toInt = 1 by decide) c3
      refine lv_aload_n hx hb dX10_text_23 rfl (lv_at hl 0 rfl) ?_
      refine ok1 hT ht0 (fun p45 a4 a5 a6 a7 a8 x9 x10 x11 a12 a13 a14 a15 a16 a17 a18 a19 a20 x21 a22 a23 hk46 h24 h25 h26 h27 h28 h29 h30 h31 h32 h33 h34 h35 h36 h37 h38 h39 h40 h41 h42 h43 h44 => ?_)
      refine va_get (D := D) (ci := 10) (v := .int x11) (C := RX10) (T := TX10) (N := 20) hx hb hg inGX10 hown hKN.1 hP p45 hk46 rfl 7 (by decide) (hg _ kw_356) (fun _ h9 => h9) rfl dX10_text_24 ?_
      refine lv_istore_n (lv' := [(2, .int x11), (0, .ref p0), (1, .int p1)]) hx hb dX10_text_27 rfl hl (by decide) rfl (fun ls hl => ?_)
      refine lv_iload_n hx hb dX10_text_28 rfl (lv_at hl 2 rfl) ?_
      refine lv_iconst (v := 0) hx hb dX10_text_29 (by decide) ?_
      refine lv_iconst (v := 2) hx hb dX10_text_30 (by decide) ?_
      have zi0 : (0 : Int32).toInt = 0 := by decide
      have zi2 : (2 : Int32).toInt = 2 := by decide
      refine cg0 (rn_S (As := [.int p1, .int 0, .int 2]) (rest := []) (x_X10_isWithin l D Y Z H.size p1 0 2) ⟨hx, hb, hml, hown, hg⟩ lk_X10_100 ⟨CP.blind, CP.at nilP hKN (nilD (A := fun _ => True))⟩ ⟨⟨rfl, rfl⟩, ⟨Nat.le_of_ble_eq_true rfl, Nat.le_of_ble_eq_true rfl⟩, ⟨(Nat.le_of_ble_eq_true rfl), (Nat.le_of_ble_eq_true rfl)⟩⟩ hl.1 rfl (Nat.le_of_ble_eq_true rfl) dX10_text_31) hP hS hA (fun u47 H locs hw48 hP hS => ?_)
      obtain ⟨hw50, hw51⟩ : (((0 : Int32).toInt ≤ p1.toInt ∧ p1.toInt ≤ (2 : Int32).toInt ∧ u47.toInt = 1) ∨ (¬ ((0 : Int32).toInt ≤ p1.toInt ∧ p1.toInt ≤ (2 : Int32).toInt) ∧ u47.toInt = 0)) ∧ (0 ≤ u47.toInt ∧ u47.toInt ≤ 1) := hw48
      refine W.eq (g2 := F0 m 34 ls [.int u47]) rfl ?_
      rcases (show u47.toInt = 1 ∨ u47.toInt = 0 by omega) with c52 | c52
      · obtain rfl : u47 = 1 := i_is c52 (by decide)
        have zi1 : (1 : Int32).toInt = 1 := by decide
        refine W.eq (g2 := F0 m 34 ls [.int 1]) rfl ?_
        refine lv_if_eq (tgt := 43) hx hb dX10_text_34 (by decide) (fun c53 => ?_) (fun c53 => ?_)
        · exact absurd c53 (by decide)
        refine lv_iload_n hx hb dX10_text_37 rfl (lv_at hl 0 rfl) ?_
        refine lv_bipush (v := 6) hx hb dX10_text_38 (by decide) ?_
        refine lv_icmp_lt (tgt := 45) hx hb dX10_text_40 (by decide) (fun c54 => ?_) (fun c54 => ?_)
        · skip
          have c54 := i_lt (Eq.refl x11.toInt) (show (6 : Int32).toInt = 6 by decide) c54
          refine lv_aload_n hx hb dX10_text_45 rfl (lv_at hl 1 rfl) ?_
          refine va_get (D := D) (ci := 10) (v := .ref a12) (C := RX10) (T := TX10) (N := 20) hx hb hg inGX10 hown hKN.1 hP p45 hk46 rfl 8 (by decide) (hg _ kw_357) (fun _ h9 => h9) rfl dX10_text_46 ?_
          refine lv_aload_n hx hb dX10_text_49 rfl (lv_at hl 1 rfl) ?_
          refine va_get (D := D) (ci := 10) (v := .ref a4) (C := RX10) (T := TX10) (N := 20) hx hb hg inGX10 hown hKN.1 hP p45 hk46 rfl 0 (by decide) (hg _ kw_349) (fun _ h9 => h9) rfl dX10_text_50 ?_
          refine ok2 hT h24 (fun p89 x55 a56 x57 a58 x59 a60 a61 x62 a63 a64 x65 a66 x67 hk90 h68 h69 h70 h71 h72 h73 h74 h75 h76 h77 h78 h79 h80 h81 h82 h83 h84 h85 h86 h87 h88 => ?_)
          refine va_getN (D := D) (ci := 6) (v := .ref a66) (C := RX6) (T := TX6) (N := 13) hx hb hg inGX6 hown hKN.1 hP p89 hk90 rfl 11 (by decide) (va_Nw.use rfl (hKN.2.1 _ kn_66 rfl)) (fun _ h9 => h9) rfl dX10_text_53 ?_
          refine lv_aload_n hx hb dX10_text_56 rfl (lv_at hl 1 rfl) ?_
          refine va_get (D := D) (ci := 10) (v := .ref a4) (C := RX10) (T := TX10) (N := 20) hx hb hg inGX10 hown hKN.1 hP p45 hk46 rfl 0 (by decide) (hg _ kw_349) (fun _ h9 => h9) rfl dX10_text_57 ?_
          refine va_getN (D := D) (ci := 6) (v := .int x67) (C := RX6) (T := TX6) (N := 13) hx hb hg inGX6 hown hKN.1 hP p89 hk90 rfl 12 (by decide) (va_Nw.use rfl (hKN.2.1 _ kn_68 rfl)) (fun _ h9 => h9) rfl dX10_text_60 ?_
          refine lv_iload_n hx hb dX10_text_63 rfl (lv_at hl 2 rfl) ?_
          refine ok7 hT h34 (fun p111 n91 a92 x93 x94 x95 x96 x97 x98 x99 x100 a101 a102 x103 hk112 h104 h105 h106 h107 h108 h109 h110 => ?_)
          refine cga (rn_NV (As := [.ref a66, .int x67, .int p1]) (rest := []) (b := a12) (x_X3_read l D Y Z H.size ws T g q a12 a66 x67 p1 hT h34 h87) ⟨hx, hb, hml, hown, hg⟩ hKN lk_X10_182 ⟨CPC.blind, va_recv hKN.1 hP (ci := 3) (q0 := p111) rfl hk112, CPC.at hP hKN hD hSZ hS hA⟩ ⟨⟨rfl, rfl⟩, ⟨Nat.le_of_ble_eq_true rfl, Nat.le_of_ble_eq_true rfl⟩, ⟨(Nat.le_of_ble_eq_true rfl), (Nat.le_of_ble_eq_true rfl)⟩⟩ hl.1 rfl (Nat.le_of_ble_eq_true rfl) dX10_text_64) hP hD hS hA (fun u113 H locs hw114 hP hD hS => ?_)
          refine W.widen (k := 6) (n := 462) (Nat.le_of_ble_eq_true rfl) (Nat.le_of_ble_eq_true rfl) ?_
          obtain ⟨u115, w116, T117⟩ := u113
          obtain ⟨le118, hT, ke119, ke120⟩ : TLe T T117 ∧ TW Y Z T117 g q w116 ∧ KF 1 T ws w116 ∧ KF 6 T ws w116 := hw114
          have hk121 := ke119 _ _ hk46 (show (T p0).1 = 1 by rw [ht0])
          have ke122 : KF 6 T ws w116 := KF.tr KF.rf ke120
          refine W.eq (g2 := F0 m 67 ls [.int u115]) rfl ?_
          refine lv_istore_n (lv' := [(3, .int u115), (2, .int x11), (0, .ref p0), (1, .int p1)]) hx hb dX10_text_67 rfl hl (by decide) rfl (fun ls hl => ?_)
          refine lv_aload_n hx hb dX10_text_68 rfl (lv_at hl 2 rfl) ?_
          refine va_get (D := D) (ci := 10) (v := .ref a4) (C := RX10) (T := TX10) (N := 20) hx hb hg inGX10 hown hKN.1 hP p45 hk121 rfl 0 (by decide) (hg _ kw_349) (fun _ h9 => h9) rfl dX10_text_69 ?_
          refine lv_iconst (v := 0) hx hb dX10_text_72 (by decide) ?_
          refine ok2 hT (le118.up h24) (fun p157 x123 a124 x125 a126 x127 a128 a129 x130 a131 a132 x133 a134 x135 hk158 h136 h137 h138 h139 h140 h141 h142 h143 h144 h145 h146 h147 h148 h149 h150 h151 h152 h153 h154 h155 h156 => ?_)
          refine va_putN (D := D) (ci := 6) (v := .int 0) (ty := .int) (C := RX6) (T := TX6) (N := 13) hx hb hg inGX6 tyX6 tyX6_ok nmX6 hown hKN.1 hP hD hS p157 hk158 rfl 12 (by decide) (va_Nw.use rfl (hKN.2.1 _ kn_68 rfl)) (fun _ h9 => h9) rfl (by decide +kernel) rfl rfl (Nat.le_of_ble_eq_true rfl) dX10_text_73 (fun H locs hP hD2 hS => ?_)
          obtain ⟨w159, hP, hD, hT, hk161, kp160⟩ : ∃ wz, va_P D vwCl wz H ∧ va_D A wz ∧ TW Y Z T117 g q wz ∧ wz[p157]? = some (a4, .inr (6, (.int x123 :: .ref a124 :: .int x125 :: .ref a126 :: .int x127 :: .ref a128 :: .ref a129 :: .int x130 :: .ref a131 :: .ref a132 :: .int x133 :: .ref a134 :: .int 0 :: []))) ∧ Kp a4 w116 wz := ⟨_, hP, hD2, st2 hT hD hk158 (le118.up h24) ⟨x123, a124, x125, a126, x127, a128, a129, x130, a131, a132, x133, a134, (0), rfl, by omega, h137, h138, h139, by omega, h141, h142, by omega, h144, h145, h146, h147, h148, by omega, h150, h151, h152, by omega, h154, h155, by omega⟩, sw_eq hk158, sw_kp hk158⟩
          have ke162 : KF 6 T ws w159 := KF.tr ke122 (KF.le (by decide) le118 (KF.kp kp160 (le118.up h24) (by decide)))
          have hk163 := kp160 _ _ hk121 (rne (le118.up ht0) (le118.up h24) (by decide))
          refine lv_iload_n hx hb dX10_text_76 rfl (lv_at hl 0 rfl) ?_
          have j164 := rgI u115
          refine lv_if_eq (tgt := 85) hx hb dX10_text_77 (by decide) (fun c165 => ?_) (fun c165 => ?_)
          · skip
            have c165 := i_eq (Eq.refl u115.toInt) (show (0 : Int32).toInt = 0 by decide) c165
            refine lv_aload_n hx hb dX10_text_85 rfl (lv_at hl 2 rfl) ?_
            refine lv_iload_n hx hb dX10_text_86 rfl (lv_at hl 3 rfl) ?_
            refine lv_iload_n hx hb dX10_text_87 rfl (lv_at hl 1 rfl) ?_
            refine lv_aload_n hx hb dX10_text_88 rfl (lv_at hl 2 rfl) ?_
            refine va_get (D := D) (ci := 10) (v := .ref a12) (C := RX10) (T := TX10) (N := 20) hx hb hg inGX10 hown hKN.1 hP p45 hk163 rfl 8 (by decide) (hg _ kw_357) (fun _ h9 => h9) rfl dX10_text_89 ?_
            refine ok7 hT (le118.up h34) (fun p186 n166 a167 x168 x169 x170 x171 x172 x173 x174 x175 a176 a177 x178 hk187 h179 h180 h181 h182 h183 h184 h185 => ?_)
            refine cga (rn_NV (As := []) (rest := [.int x11, .int p1, .ref p0]) (b := a12) (x_X3_handOver l D Y Z H.size w159 T117 g q a12 hT (le118.up h34)) ⟨hx, hb, hml, hown, hg⟩ hKN lk_X10_186 ⟨CPC.blind, va_recv hKN.1 hP (ci := 3) (q0 := p186) rfl hk187, CPC.at hP hKN hD hSZ hS hA⟩ ⟨⟨rfl, rfl⟩, ⟨Nat.le_of_ble_eq_true rfl, Nat.le_of_ble_eq_true rfl⟩, ⟨(Nat.le_of_ble_eq_true rfl), (Nat.le_of_ble_eq_true rfl)⟩⟩ hl.1 rfl (Nat.le_of_ble_eq_true rfl) dX10_text_92) hP hD hS hA (fun u188 H locs hw189 hP hD hS => ?_)
            obtain ⟨b190, w191⟩ := u188
            obtain ⟨hT, ke192, ke193, ht194⟩ : TW Y Z T117 g q w191 ∧ KF 1 T117 w159 w191 ∧ KF 6 T117 w159 w191 ∧ T117 b190 = (5, 0, 0) := hw189
            have hk195 := ke192 _ _ hk163 (show (T117 p0).1 = 1 by rw [(le118.up ht0)])
            have ke196 : KF 6 T ws w191 := KF.tr ke162 (KF.le (by decide) le118 ke193)
            refine W.eq (g2 := F0 m 95 ls [.ref b190, .int x11, .int p1, .ref p0]) rfl ?_
            refine cga (rn_V (As := [.int p1, .int x11, .ref b190]) (rest := []) (b := p0) (x_X10_keepText l D Y Z H.size w191 T117 g q p0 b190 p45 a4 a5 a6 a7 a8 x9 x10 x11 a12 a13 a14 a15 a16 a17 a18 a19 a20 x21 a22 a23 p1 x11 hT (le118.up ht0) ht194 hk195 (show (p1.toInt = 0 → x11.toInt = x9.toInt) by omega) (show (p1.toInt = 1 → x11.toInt = x10.toInt) by omega) (show ((p1.toInt ≠ 0 ∧ p1.toInt ≠ 1) → x11.toInt = x11.toInt) by omega)) ⟨hx, hb, hml, hown, hg⟩ lk_X10_190 ⟨CPC.blind, va_recv hKN.1 hP (ci := 10) (q0 := p45) rfl hk195, CPC.at hP hKN hD hSZ hS hA⟩ ⟨⟨rfl, rfl⟩, ⟨Nat.le_of_ble_eq_true rfl, Nat.le_of_ble_eq_true rfl⟩, ⟨(Nat.le_of_ble_eq_true rfl), (Nat.le_of_ble_eq_true rfl)⟩⟩ hl.1 rfl (Nat.le_of_ble_eq_true rfl) dX10_text_95) hP hD hS hA (fun u197 H locs hw198 hP hD hS => ?_)
            obtain ⟨hT, ke200⟩ : TW Y Z T117 g q u197 ∧ KF 6 T117 w191 u197 := hw198
            have ke201 : KF 6 T ws u197 := KF.tr ke196 (KF.le (by decide) le118 ke200)
            refine W.eq (g2 := F0 m 98 ls []) rfl ?_
            refine lv_iload_n hx hb dX10_text_98 rfl (lv_at hl 1 rfl) ?_
            refine W.widen (k := 6) (n := 462) (Nat.le_of_ble_eq_true rfl) (Nat.le_of_ble_eq_true rfl) ?_
            exact W.iret (v := x11) hx hb hr (fun t ht hW => ⟨⟨(x11, u197, T117), rfl, ⟨le118, hT, ke201⟩, CB.mk ht hP hD⟩, hS.F ht⟩) hS.2.2 dX10_text_99
          · skip
            have c165 := i_ne (Eq.refl u115.toInt) (show (0 : Int32).toInt = 0 by decide) c165
            refine lv_bipush (v := (-2)) hx hb dX10_text_80 (by decide) ?_
            refine lv_iload_n hx hb dX10_text_82 rfl (lv_at hl 0 rfl) ?_
            refine lv_isub hx hb dX10_text_83 ?_
            refine lv_topi (fun v202 ev202 => ?_)
            refine W.widen (k := 6) (n := 462) (Nat.le_of_ble_eq_true rfl) (Nat.le_of_ble_eq_true rfl) ?_
            exact W.iret (v := v202) hx hb hr (fun t ht hW => ⟨⟨(v202, w159, T117), rfl, ⟨le118, hT, ke162⟩, CB.mk ht hP hD⟩, hS.F ht⟩) hS.2.2 dX10_text_84
        · skip
          have c54 := i_nlt (Eq.refl x11.toInt) (show (6 : Int32).toInt = 6 by decide) c54
          refine lv_iconst (v := (-1)) hx hb dX10_text_43 (by decide) ?_
          refine W.widen (k := 6) (n := 462) (Nat.le_of_ble_eq_true rfl) (Nat.le_of_ble_eq_true rfl) ?_
          have zim1 : ((-1) : Int32).toInt = -1 := by decide
          exact W.iret (v := (-1)) hx hb hr (fun t ht hW => ⟨⟨(((-1)), ws, T), rfl, ⟨TLe.rf, hT, KF.rf⟩, CB.mk ht hP hD⟩, hS.F ht⟩) hS.2.2 dX10_text_44
      · obtain rfl : u47 = 0 := i_is c52 (by decide)
        refine W.eq (g2 := F0 m 34 ls [.int 0]) rfl ?_
        refine lv_if_eq (tgt := 43) hx hb dX10_text_34 (by decide) (fun c203 => ?_) (fun c203 => ?_)
        rotate_left
        · exact absurd c203 (by decide)
        refine lv_iconst (v := (-1)) hx hb dX10_text_43 (by decide) ?_
        refine W.widen (k := 6) (n := 462) (Nat.le_of_ble_eq_true rfl) (Nat.le_of_ble_eq_true rfl) ?_
        have zim1 : ((-1) : Int32).toInt = -1 := by decide
        exact W.iret (v := (-1)) hx hb hr (fun t ht hW => ⟨⟨(((-1)), ws, T), rfl, ⟨TLe.rf, hT, KF.rf⟩, CB.mk ht hP hD⟩, hS.F ht⟩) hS.2.2 dX10_text_44
    · skip
      have c3 := i_eq (Eq.refl p1.toInt) (show (1 : Int32).toInt = 1 by decide) c3
      refine lv_aload_n hx hb dX10_text_16 rfl (lv_at hl 0 rfl) ?_
      refine ok1 hT ht0 (fun p245 a204 a205 a206 a207 a208 x209 x210 x211 a212 a213 a214 a215 a216 a217 a218 a219 a220 x221 a222 a223 hk246 h224 h225 h226 h227 h228 h229 h230 h231 h232 h233 h234 h235 h236 h237 h238 h239 h240 h241 h242 h243 h244 => ?_)
      refine va_get (D := D) (ci := 10) (v := .int x210) (C := RX10) (T := TX10) (N := 20) hx hb hg inGX10 hown hKN.1 hP p245 hk246 rfl 6 (by decide) (hg _ kw_355) (fun _ h9 => h9) rfl dX10_text_17 ?_
      refine lv_goto (tgt := 27) hx hb dX10_text_20 (by decide) ?_
      refine lv_istore_n (lv' := [(2, .int x210), (0, .ref p0), (1, .int p1)]) hx hb dX10_text_27 rfl hl (by decide) rfl (fun ls hl => ?_)
      refine lv_iload_n hx hb dX10_text_28 rfl (lv_at hl 2 rfl) ?_
      refine lv_iconst (v := 0) hx hb dX10_text_29 (by decide) ?_
      refine lv_iconst (v := 2) hx hb dX10_text_30 (by decide) ?_
      have zi0 : (0 : Int32).toInt = 0 := by decide
      have zi2 : (2 : Int32).toInt = 2 := by decide
      refine cg0 (rn_S (As := [.int p1, .int 0, .int 2]) (rest := []) (x_X10_isWithin l D Y Z H.size p1 0 2) ⟨hx, hb, hml, hown, hg⟩ lk_X10_100 ⟨CP.blind, CP.at nilP hKN (nilD (A := fun _ => True))⟩ ⟨⟨rfl, rfl⟩, ⟨Nat.le_of_ble_eq_true rfl, Nat.le_of_ble_eq_true rfl⟩, ⟨(Nat.le_of_ble_eq_true rfl), (Nat.le_of_ble_eq_true rfl)⟩⟩ hl.1 rfl (Nat.le_of_ble_eq_true rfl) dX10_text_31) hP hS hA (fun u247 H locs hw248 hP hS => ?_)
      obtain ⟨hw250, hw251⟩ : (((0 : Int32).toInt ≤ p1.toInt ∧ p1.toInt ≤ (2 : Int32).toInt ∧ u247.toInt = 1) ∨ (¬ ((0 : Int32).toInt ≤ p1.toInt ∧ p1.toInt ≤ (2 : Int32).toInt) ∧ u247.toInt = 0)) ∧ (0 ≤ u247.toInt ∧ u247.toInt ≤ 1) := hw248
      refine W.eq (g2 := F0 m 34 ls [.int u247]) rfl ?_
      rcases (show u247.toInt = 1 ∨ u247.toInt = 0 by omega) with c252 | c252
      · obtain rfl : u247 = 1 := i_is c252 (by decide)
        have zi1 : (1 : Int32).toInt = 1 := by decide
        refine W.eq (g2 := F0 m 34 ls [.int 1]) rfl ?_
        refine lv_if_eq (tgt := 43) hx hb dX10_text_34 (by decide) (fun c253 => ?_) (fun c253 => ?_)
        · exact absurd c253 (by decide)
        refine lv_iload_n hx hb dX10_text_37 rfl (lv_at hl 0 rfl) ?_
        refine lv_bipush (v := 6) hx hb dX10_text_38 (by decide) ?_
        refine lv_icmp_lt (tgt := 45) hx hb dX10_text_40 (by decide) (fun c254 => ?_) (fun c254 => ?_)
        · skip
          have c254 := i_lt (Eq.refl x210.toInt) (show (6 : Int32).toInt = 6 by decide) c254
          refine lv_aload_n hx hb dX10_text_45 rfl (lv_at hl 1 rfl) ?_
          refine va_get (D := D) (ci := 10) (v := .ref a212) (C := RX10) (T := TX10) (N := 20) hx hb hg inGX10 hown hKN.1 hP p245 hk246 rfl 8 (by decide) (hg _ kw_357) (fun _ h9 => h9) rfl dX10_text_46 ?_
          refine lv_aload_n hx hb dX10_text_49 rfl (lv_at hl 1 rfl) ?_
          refine va_get (D := D) (ci := 10) (v := .ref a204) (C := RX10) (T := TX10) (N := 20) hx hb hg inGX10 hown hKN.1 hP p245 hk246 rfl 0 (by decide) (hg _ kw_349) (fun _ h9 => h9) rfl dX10_text_50 ?_
          refine ok2 hT h224 (fun p289 x255 a256 x257 a258 x259 a260 a261 x262 a263 a264 x265 a266 x267 hk290 h268 h269 h270 h271 h272 h273 h274 h275 h276 h277 h278 h279 h280 h281 h282 h283 h284 h285 h286 h287 h288 => ?_)
          refine va_getN (D := D) (ci := 6) (v := .ref a266) (C := RX6) (T := TX6) (N := 13) hx hb hg inGX6 hown hKN.1 hP p289 hk290 rfl 11 (by decide) (va_Nw.use rfl (hKN.2.1 _ kn_66 rfl)) (fun _ h9 => h9) rfl dX10_text_53 ?_
          refine lv_aload_n hx hb dX10_text_56 rfl (lv_at hl 1 rfl) ?_
          refine va_get (D := D) (ci := 10) (v := .ref a204) (C := RX10) (T := TX10) (N := 20) hx hb hg inGX10 hown hKN.1 hP p245 hk246 rfl 0 (by decide) (hg _ kw_349) (fun _ h9 => h9) rfl dX10_text_57 ?_
          refine va_getN (D := D) (ci := 6) (v := .int x267) (C := RX6) (T := TX6) (N := 13) hx hb hg inGX6 hown hKN.1 hP p289 hk290 rfl 12 (by decide) (va_Nw.use rfl (hKN.2.1 _ kn_68 rfl)) (fun _ h9 => h9) rfl dX10_text_60 ?_
          refine lv_iload_n hx hb dX10_text_63 rfl (lv_at hl 2 rfl) ?_
          refine ok7 hT h234 (fun p311 n291 a292 x293 x294 x295 x296 x297 x298 x299 x300 a301 a302 x303 hk312 h304 h305 h306 h307 h308 h309 h310 => ?_)
          refine cga (rn_NV (As := [.ref a266, .int x267, .int p1]) (rest := []) (b := a212) (x_X3_read l D Y Z H.size ws T g q a212 a266 x267 p1 hT h234 h287) ⟨hx, hb, hml, hown, hg⟩ hKN lk_X10_182 ⟨CPC.blind, va_recv hKN.1 hP (ci := 3) (q0 := p311) rfl hk312, CPC.at hP hKN hD hSZ hS hA⟩ ⟨⟨rfl, rfl⟩, ⟨Nat.le_of_ble_eq_true rfl, Nat.le_of_ble_eq_true rfl⟩, ⟨(Nat.le_of_ble_eq_true rfl), (Nat.le_of_ble_eq_true rfl)⟩⟩ hl.1 rfl (Nat.le_of_ble_eq_true rfl) dX10_text_64) hP hD hS hA (fun u313 H locs hw314 hP hD hS => ?_)
          refine W.widen (k := 6) (n := 462) (Nat.le_of_ble_eq_true rfl) (Nat.le_of_ble_eq_true rfl) ?_
          obtain ⟨u315, w316, T317⟩ := u313
          obtain ⟨le318, hT, ke319, ke320⟩ : TLe T T317 ∧ TW Y Z T317 g q w316 ∧ KF 1 T ws w316 ∧ KF 6 T ws w316 := hw314
          have hk321 := ke319 _ _ hk246 (show (T p0).1 = 1 by rw [ht0])
          have ke322 : KF 6 T ws w316 := KF.tr KF.rf ke320
          refine W.eq (g2 := F0 m 67 ls [.int u315]) rfl ?_
          refine lv_istore_n (lv' := [(3, .int u315), (2, .int x210), (0, .ref p0), (1, .int p1)]) hx hb dX10_text_67 rfl hl (by decide) rfl (fun ls hl => ?_)
          refine lv_aload_n hx hb dX10_text_68 rfl (lv_at hl 2 rfl) ?_
          refine va_get (D := D) (ci := 10) (v := .ref a204) (C := RX10) (T := TX10) (N := 20) hx hb hg inGX10 hown hKN.1 hP p245 hk321 rfl 0 (by decide) (hg _ kw_349) (fun _ h9 => h9) rfl dX10_text_69 ?_
          refine lv_iconst (v := 0) hx hb dX10_text_72 (by decide) ?_
          refine ok2 hT (le318.up h224) (fun p357 x323 a324 x325 a326 x327 a328 a329 x330 a331 a332 x333 a334 x335 hk358 h336 h337 h338 h339 h340 h341 h342 h343 h344 h345 h346 h347 h348 h349 h350 h351 h352 h353 h354 h355 h356 => ?_)
          refine va_putN (D := D) (ci := 6) (v := .int 0) (ty := .int) (C := RX6) (T := TX6) (N := 13) hx hb hg inGX6 tyX6 tyX6_ok nmX6 hown hKN.1 hP hD hS p357 hk358 rfl 12 (by decide) (va_Nw.use rfl (hKN.2.1 _ kn_68 rfl)) (fun _ h9 => h9) rfl (by decide +kernel) rfl rfl (Nat.le_of_ble_eq_true rfl) dX10_text_73 (fun H locs hP hD2 hS => ?_)
          obtain ⟨w359, hP, hD, hT, hk361, kp360⟩ : ∃ wz, va_P D vwCl wz H ∧ va_D A wz ∧ TW Y Z T317 g q wz ∧ wz[p357]? = some (a204, .inr (6, (.int x323 :: .ref a324 :: .int x325 :: .ref a326 :: .int x327 :: .ref a328 :: .ref a329 :: .int x330 :: .ref a331 :: .ref a332 :: .int x333 :: .ref a334 :: .int 0 :: []))) ∧ Kp a204 w316 wz := ⟨_, hP, hD2, st2 hT hD hk358 (le318.up h224) ⟨x323, a324, x325, a326, x327, a328, a329, x330, a331, a332, x333, a334, (0), rfl, by omega, h337, h338, h339, by omega, h341, h342, by omega, h344, h345, h346, h347, h348, by omega, h350, h351, h352, by omega, h354, h355, by omega⟩, sw_eq hk358, sw_kp hk358⟩
          have ke362 : KF 6 T ws w359 := KF.tr ke322 (KF.le (by decide) le318 (KF.kp kp360 (le318.up h224) (by decide)))
          have hk363 := kp360 _ _ hk321 (rne (le318.up ht0) (le318.up h224) (by decide))
          refine lv_iload_n hx hb dX10_text_76 rfl (lv_at hl 0 rfl) ?_
          have j364 := rgI u315
          refine lv_if_eq (tgt := 85) hx hb dX10_text_77 (by decide) (fun c365 => ?_) (fun c365 => ?_)
          · skip
            have c365 := i_eq (Eq.refl u315.toInt) (show (0 : Int32).toInt = 0 by decide) c365
            refine lv_aload_n hx hb dX10_text_85 rfl (lv_at hl 2 rfl) ?_
            refine lv_iload_n hx hb dX10_text_86 rfl (lv_at hl 3 rfl) ?_
            refine lv_iload_n hx hb dX10_text_87 rfl (lv_at hl 1 rfl) ?_
            refine lv_aload_n hx hb dX10_text_88 rfl (lv_at hl 2 rfl) ?_
            refine va_get (D := D) (ci := 10) (v := .ref a212) (C := RX10) (T := TX10) (N := 20) hx hb hg inGX10 hown hKN.1 hP p245 hk363 rfl 8 (by decide) (hg _ kw_357) (fun _ h9 => h9) rfl dX10_text_89 ?_
            refine ok7 hT (le318.up h234) (fun p386 n366 a367 x368 x369 x370 x371 x372 x373 x374 x375 a376 a377 x378 hk387 h379 h380 h381 h382 h383 h384 h385 => ?_)
            refine cga (rn_NV (As := []) (rest := [.int x210, .int p1, .ref p0]) (b := a212) (x_X3_handOver l D Y Z H.size w359 T317 g q a212 hT (le318.up h234)) ⟨hx, hb, hml, hown, hg⟩ hKN lk_X10_186 ⟨CPC.blind, va_recv hKN.1 hP (ci := 3) (q0 := p386) rfl hk387, CPC.at hP hKN hD hSZ hS hA⟩ ⟨⟨rfl, rfl⟩, ⟨Nat.le_of_ble_eq_true rfl, Nat.le_of_ble_eq_true rfl⟩, ⟨(Nat.le_of_ble_eq_true rfl), (Nat.le_of_ble_eq_true rfl)⟩⟩ hl.1 rfl (Nat.le_of_ble_eq_true rfl) dX10_text_92) hP hD hS hA (fun u388 H locs hw389 hP hD hS => ?_)
            obtain ⟨b390, w391⟩ := u388
            obtain ⟨hT, ke392, ke393, ht394⟩ : TW Y Z T317 g q w391 ∧ KF 1 T317 w359 w391 ∧ KF 6 T317 w359 w391 ∧ T317 b390 = (5, 0, 0) := hw389
            have hk395 := ke392 _ _ hk363 (show (T317 p0).1 = 1 by rw [(le318.up ht0)])
            have ke396 : KF 6 T ws w391 := KF.tr ke362 (KF.le (by decide) le318 ke393)
            refine W.eq (g2 := F0 m 95 ls [.ref b390, .int x210, .int p1, .ref p0]) rfl ?_
            refine cga (rn_V (As := [.int p1, .int x210, .ref b390]) (rest := []) (b := p0) (x_X10_keepText l D Y Z H.size w391 T317 g q p0 b390 p245 a204 a205 a206 a207 a208 x209 x210 x211 a212 a213 a214 a215 a216 a217 a218 a219 a220 x221 a222 a223 p1 x210 hT (le318.up ht0) ht394 hk395 (show (p1.toInt = 0 → x210.toInt = x209.toInt) by omega) (show (p1.toInt = 1 → x210.toInt = x210.toInt) by omega) (show ((p1.toInt ≠ 0 ∧ p1.toInt ≠ 1) → x210.toInt = x211.toInt) by omega)) ⟨hx, hb, hml, hown, hg⟩ lk_X10_190 ⟨CPC.blind, va_recv hKN.1 hP (ci := 10) (q0 := p245) rfl hk395, CPC.at hP hKN hD hSZ hS hA⟩ ⟨⟨rfl, rfl⟩, ⟨Nat.le_of_ble_eq_true rfl, Nat.le_of_ble_eq_true rfl⟩, ⟨(Nat.le_of_ble_eq_true rfl), (Nat.le_of_ble_eq_true rfl)⟩⟩ hl.1 rfl (Nat.le_of_ble_eq_true rfl) dX10_text_95) hP hD hS hA (fun u397 H locs hw398 hP hD hS => ?_)
            obtain ⟨hT, ke400⟩ : TW Y Z T317 g q u397 ∧ KF 6 T317 w391 u397 := hw398
            have ke401 : KF 6 T ws u397 := KF.tr ke396 (KF.le (by decide) le318 ke400)
            refine W.eq (g2 := F0 m 98 ls []) rfl ?_
            refine lv_iload_n hx hb dX10_text_98 rfl (lv_at hl 1 rfl) ?_
            refine W.widen (k := 6) (n := 462) (Nat.le_of_ble_eq_true rfl) (Nat.le_of_ble_eq_true rfl) ?_
            exact W.iret (v := x210) hx hb hr (fun t ht hW => ⟨⟨(x210, u397, T317), rfl, ⟨le318, hT, ke401⟩, CB.mk ht hP hD⟩, hS.F ht⟩) hS.2.2 dX10_text_99
          · skip
            have c365 := i_ne (Eq.refl u315.toInt) (show (0 : Int32).toInt = 0 by decide) c365
            refine lv_bipush (v := (-2)) hx hb dX10_text_80 (by decide) ?_
            refine lv_iload_n hx hb dX10_text_82 rfl (lv_at hl 0 rfl) ?_
            refine lv_isub hx hb dX10_text_83 ?_
            refine lv_topi (fun v402 ev402 => ?_)
            refine W.widen (k := 6) (n := 462) (Nat.le_of_ble_eq_true rfl) (Nat.le_of_ble_eq_true rfl) ?_
            exact W.iret (v := v402) hx hb hr (fun t ht hW => ⟨⟨(v402, w359, T317), rfl, ⟨le318, hT, ke362⟩, CB.mk ht hP hD⟩, hS.F ht⟩) hS.2.2 dX10_text_84
        · skip
          have c254 := i_nlt (Eq.refl x210.toInt) (show (6 : Int32).toInt = 6 by decide) c254
          refine lv_iconst (v := (-1)) hx hb dX10_text_43 (by decide) ?_
          refine W.widen (k := 6) (n := 462) (Nat.le_of_ble_eq_true rfl) (Nat.le_of_ble_eq_true rfl) ?_
          have zim1 : ((-1) : Int32).toInt = -1 := by decide
          exact W.iret (v := (-1)) hx hb hr (fun t ht hW => ⟨⟨(((-1)), ws, T), rfl, ⟨TLe.rf, hT, KF.rf⟩, CB.mk ht hP hD⟩, hS.F ht⟩) hS.2.2 dX10_text_44
      · obtain rfl : u247 = 0 := i_is c252 (by decide)
        refine W.eq (g2 := F0 m 34 ls [.int 0]) rfl ?_
        refine lv_if_eq (tgt := 43) hx hb dX10_text_34 (by decide) (fun c403 => ?_) (fun c403 => ?_)
        rotate_left
        · exact absurd c403 (by decide)
        refine lv_iconst (v := (-1)) hx hb dX10_text_43 (by decide) ?_
        refine W.widen (k := 6) (n := 462) (Nat.le_of_ble_eq_true rfl) (Nat.le_of_ble_eq_true rfl) ?_
        have zim1 : ((-1) : Int32).toInt = -1 := by decide
        exact W.iret (v := (-1)) hx hb hr (fun t ht hW => ⟨⟨(((-1)), ws, T), rfl, ⟨TLe.rf, hT, KF.rf⟩, CB.mk ht hP hD⟩, hS.F ht⟩) hS.2.2 dX10_text_44
  · skip
    have c2 := i_eq (Eq.refl p1.toInt) (show (0 : Int32).toInt = 0 by decide) c2
    refine lv_aload_n hx hb dX10_text_4 rfl (lv_at hl 0 rfl) ?_
    refine ok1 hT ht0 (fun p445 a404 a405 a406 a407 a408 x409 x410 x411 a412 a413 a414 a415 a416 a417 a418 a419 a420 x421 a422 a423 hk446 h424 h425 h426 h427 h428 h429 h430 h431 h432 h433 h434 h435 h436 h437 h438 h439 h440 h441 h442 h443 h444 => ?_)
    refine va_get (D := D) (ci := 10) (v := .int x409) (C := RX10) (T := TX10) (N := 20) hx hb hg inGX10 hown hKN.1 hP p445 hk446 rfl 5 (by decide) (hg _ kw_354) (fun _ h9 => h9) rfl dX10_text_5 ?_
    refine lv_goto (tgt := 27) hx hb dX10_text_8 (by decide) ?_
    refine lv_istore_n (lv' := [(2, .int x409), (0, .ref p0), (1, .int p1)]) hx hb dX10_text_27 rfl hl (by decide) rfl (fun ls hl => ?_)
    refine lv_iload_n hx hb dX10_text_28 rfl (lv_at hl 2 rfl) ?_
    refine lv_iconst (v := 0) hx hb dX10_text_29 (by decide) ?_
    refine lv_iconst (v := 2) hx hb dX10_text_30 (by decide) ?_
    have zi0 : (0 : Int32).toInt = 0 := by decide
    have zi2 : (2 : Int32).toInt = 2 := by decide
    refine cg0 (rn_S (As := [.int p1, .int 0, .int 2]) (rest := []) (x_X10_isWithin l D Y Z H.size p1 0 2) ⟨hx, hb, hml, hown, hg⟩ lk_X10_100 ⟨CP.blind, CP.at nilP hKN (nilD (A := fun _ => True))⟩ ⟨⟨rfl, rfl⟩, ⟨Nat.le_of_ble_eq_true rfl, Nat.le_of_ble_eq_true rfl⟩, ⟨(Nat.le_of_ble_eq_true rfl), (Nat.le_of_ble_eq_true rfl)⟩⟩ hl.1 rfl (Nat.le_of_ble_eq_true rfl) dX10_text_31) hP hS hA (fun u447 H locs hw448 hP hS => ?_)
    obtain ⟨hw450, hw451⟩ : (((0 : Int32).toInt ≤ p1.toInt ∧ p1.toInt ≤ (2 : Int32).toInt ∧ u447.toInt = 1) ∨ (¬ ((0 : Int32).toInt ≤ p1.toInt ∧ p1.toInt ≤ (2 : Int32).toInt) ∧ u447.toInt = 0)) ∧ (0 ≤ u447.toInt ∧ u447.toInt ≤ 1) := hw448
    refine W.eq (g2 := F0 m 34 ls [.int u447]) rfl ?_
    rcases (show u447.toInt = 1 ∨ u447.toInt = 0 by omega) with c452 | c452
    · obtain rfl : u447 = 1 := i_is c452 (by decide)
      have zi1 : (1 : Int32).toInt = 1 := by decide
      refine W.eq (g2 := F0 m 34 ls [.int 1]) rfl ?_
      refine lv_if_eq (tgt := 43) hx hb dX10_text_34 (by decide) (fun c453 => ?_) (fun c453 => ?_)
      · exact absurd c453 (by decide)
      refine lv_iload_n hx hb dX10_text_37 rfl (lv_at hl 0 rfl) ?_
      refine lv_bipush (v := 6) hx hb dX10_text_38 (by decide) ?_
      refine lv_icmp_lt (tgt := 45) hx hb dX10_text_40 (by decide) (fun c454 => ?_) (fun c454 => ?_)
      · skip
        have c454 := i_lt (Eq.refl x409.toInt) (show (6 : Int32).toInt = 6 by decide) c454
        refine lv_aload_n hx hb dX10_text_45 rfl (lv_at hl 1 rfl) ?_
        refine va_get (D := D) (ci := 10) (v := .ref a412) (C := RX10) (T := TX10) (N := 20) hx hb hg inGX10 hown hKN.1 hP p445 hk446 rfl 8 (by decide) (hg _ kw_357) (fun _ h9 => h9) rfl dX10_text_46 ?_
        refine lv_aload_n hx hb dX10_text_49 rfl (lv_at hl 1 rfl) ?_
        refine va_get (D := D) (ci := 10) (v := .ref a404) (C := RX10) (T := TX10) (N := 20) hx hb hg inGX10 hown hKN.1 hP p445 hk446 rfl 0 (by decide) (hg _ kw_349) (fun _ h9 => h9) rfl dX10_text_50 ?_
        refine ok2 hT h424 (fun p489 x455 a456 x457 a458 x459 a460 a461 x462 a463 a464 x465 a466 x467 hk490 h468 h469 h470 h471 h472 h473 h474 h475 h476 h477 h478 h479 h480 h481 h482 h483 h484 h485 h486 h487 h488 => ?_)
        refine va_getN (D := D) (ci := 6) (v := .ref a466) (C := RX6) (T := TX6) (N := 13) hx hb hg inGX6 hown hKN.1 hP p489 hk490 rfl 11 (by decide) (va_Nw.use rfl (hKN.2.1 _ kn_66 rfl)) (fun _ h9 => h9) rfl dX10_text_53 ?_
        refine lv_aload_n hx hb dX10_text_56 rfl (lv_at hl 1 rfl) ?_
        refine va_get (D := D) (ci := 10) (v := .ref a404) (C := RX10) (T := TX10) (N := 20) hx hb hg inGX10 hown hKN.1 hP p445 hk446 rfl 0 (by decide) (hg _ kw_349) (fun _ h9 => h9) rfl dX10_text_57 ?_
        refine va_getN (D := D) (ci := 6) (v := .int x467) (C := RX6) (T := TX6) (N := 13) hx hb hg inGX6 hown hKN.1 hP p489 hk490 rfl 12 (by decide) (va_Nw.use rfl (hKN.2.1 _ kn_68 rfl)) (fun _ h9 => h9) rfl dX10_text_60 ?_
        refine lv_iload_n hx hb dX10_text_63 rfl (lv_at hl 2 rfl) ?_
        refine ok7 hT h434 (fun p511 n491 a492 x493 x494 x495 x496 x497 x498 x499 x500 a501 a502 x503 hk512 h504 h505 h506 h507 h508 h509 h510 => ?_)
        refine cga (rn_NV (As := [.ref a466, .int x467, .int p1]) (rest := []) (b := a412) (x_X3_read l D Y Z H.size ws T g q a412 a466 x467 p1 hT h434 h487) ⟨hx, hb, hml, hown, hg⟩ hKN lk_X10_182 ⟨CPC.blind, va_recv hKN.1 hP (ci := 3) (q0 := p511) rfl hk512, CPC.at hP hKN hD hSZ hS hA⟩ ⟨⟨rfl, rfl⟩, ⟨Nat.le_of_ble_eq_true rfl, Nat.le_of_ble_eq_true rfl⟩, ⟨(Nat.le_of_ble_eq_true rfl), (Nat.le_of_ble_eq_true rfl)⟩⟩ hl.1 rfl (Nat.le_of_ble_eq_true rfl) dX10_text_64) hP hD hS hA (fun u513 H locs hw514 hP hD hS => ?_)
        refine W.widen (k := 6) (n := 462) (Nat.le_of_ble_eq_true rfl) (Nat.le_of_ble_eq_true rfl) ?_
        obtain ⟨u515, w516, T517⟩ := u513
        obtain ⟨le518, hT, ke519, ke520⟩ : TLe T T517 ∧ TW Y Z T517 g q w516 ∧ KF 1 T ws w516 ∧ KF 6 T ws w516 := hw514
        have hk521 := ke519 _ _ hk446 (show (T p0).1 = 1 by rw [ht0])
        have ke522 : KF 6 T ws w516 := KF.tr KF.rf ke520
        refine W.eq (g2 := F0 m 67 ls [.int u515]) rfl ?_
        refine lv_istore_n (lv' := [(3, .int u515), (2, .int x409), (0, .ref p0), (1, .int p1)]) hx hb dX10_text_67 rfl hl (by decide) rfl (fun ls hl => ?_)
        refine lv_aload_n hx hb dX10_text_68 rfl (lv_at hl 2 rfl) ?_
        refine va_get (D := D) (ci := 10) (v := .ref a404) (C := RX10) (T := TX10) (N := 20) hx hb hg inGX10 hown hKN.1 hP p445 hk521 rfl 0 (by decide) (hg _ kw_349) (fun _ h9 => h9) rfl dX10_text_69 ?_
        refine lv_iconst (v := 0) hx hb dX10_text_72 (by decide) ?_
        refine ok2 hT (le518.up h424) (fun p557 x523 a524 x525 a526 x527 a528 a529 x530 a531 a532 x533 a534 x535 hk558 h536 h537 h538 h539 h540 h541 h542 h543 h544 h545 h546 h547 h548 h549 h550 h551 h552 h553 h554 h555 h556 => ?_)
        refine va_putN (D := D) (ci := 6) (v := .int 0) (ty := .int) (C := RX6) (T := TX6) (N := 13) hx hb hg inGX6 tyX6 tyX6_ok nmX6 hown hKN.1 hP hD hS p557 hk558 rfl 12 (by decide) (va_Nw.use rfl (hKN.2.1 _ kn_68 rfl)) (fun _ h9 => h9) rfl (by decide +kernel) rfl rfl (Nat.le_of_ble_eq_true rfl) dX10_text_73 (fun H locs hP hD2 hS => ?_)
        obtain ⟨w559, hP, hD, hT, hk561, kp560⟩ : ∃ wz, va_P D vwCl wz H ∧ va_D A wz ∧ TW Y Z T517 g q wz ∧ wz[p557]? = some (a404, .inr (6, (.int x523 :: .ref a524 :: .int x525 :: .ref a526 :: .int x527 :: .ref a528 :: .ref a529 :: .int x530 :: .ref a531 :: .ref a532 :: .int x533 :: .ref a534 :: .int 0 :: []))) ∧ Kp a404 w516 wz := ⟨_, hP, hD2, st2 hT hD hk558 (le518.up h424) ⟨x523, a524, x525, a526, x527, a528, a529, x530, a531, a532, x533, a534, (0), rfl, by omega, h537, h538, h539, by omega, h541, h542, by omega, h544, h545, h546, h547, h548, by omega, h550, h551, h552, by omega, h554, h555, by omega⟩, sw_eq hk558, sw_kp hk558⟩
        have ke562 : KF 6 T ws w559 := KF.tr ke522 (KF.le (by decide) le518 (KF.kp kp560 (le518.up h424) (by decide)))
        have hk563 := kp560 _ _ hk521 (rne (le518.up ht0) (le518.up h424) (by decide))
        refine lv_iload_n hx hb dX10_text_76 rfl (lv_at hl 0 rfl) ?_
        have j564 := rgI u515
        refine lv_if_eq (tgt := 85) hx hb dX10_text_77 (by decide) (fun c565 => ?_) (fun c565 => ?_)
        · skip
          have c565 := i_eq (Eq.refl u515.toInt) (show (0 : Int32).toInt = 0 by decide) c565
          refine lv_aload_n hx hb dX10_text_85 rfl (lv_at hl 2 rfl) ?_
          refine lv_iload_n hx hb dX10_text_86 rfl (lv_at hl 3 rfl) ?_
          refine lv_iload_n hx hb dX10_text_87 rfl (lv_at hl 1 rfl) ?_
          refine lv_aload_n hx hb dX10_text_88 rfl (lv_at hl 2 rfl) ?_
          refine va_get (D := D) (ci := 10) (v := .ref a412) (C := RX10) (T := TX10) (N := 20) hx hb hg inGX10 hown hKN.1 hP p445 hk563 rfl 8 (by decide) (hg _ kw_357) (fun _ h9 => h9) rfl dX10_text_89 ?_
          refine ok7 hT (le518.up h434) (fun p586 n566 a567 x568 x569 x570 x571 x572 x573 x574 x575 a576 a577 x578 hk587 h579 h580 h581 h582 h583 h584 h585 => ?_)
          refine cga (rn_NV (As := []) (rest := [.int x409, .int p1, .ref p0]) (b := a412) (x_X3_handOver l D Y Z H.size w559 T517 g q a412 hT (le518.up h434)) ⟨hx, hb, hml, hown, hg⟩ hKN lk_X10_186 ⟨CPC.blind, va_recv hKN.1 hP (ci := 3) (q0 := p586) rfl hk587, CPC.at hP hKN hD hSZ hS hA⟩ ⟨⟨rfl, rfl⟩, ⟨Nat.le_of_ble_eq_true rfl, Nat.le_of_ble_eq_true rfl⟩, ⟨(Nat.le_of_ble_eq_true rfl), (Nat.le_of_ble_eq_true rfl)⟩⟩ hl.1 rfl (Nat.le_of_ble_eq_true rfl) dX10_text_92) hP hD hS hA (fun u588 H locs hw589 hP hD hS => ?_)
          obtain ⟨b590, w591⟩ := u588
          obtain ⟨hT, ke592, ke593, ht594⟩ : TW Y Z T517 g q w591 ∧ KF 1 T517 w559 w591 ∧ KF 6 T517 w559 w591 ∧ T517 b590 = (5, 0, 0) := hw589
          have hk595 := ke592 _ _ hk563 (show (T517 p0).1 = 1 by rw [(le518.up ht0)])
          have ke596 : KF 6 T ws w591 := KF.tr ke562 (KF.le (by decide) le518 ke593)
          refine W.eq (g2 := F0 m 95 ls [.ref b590, .int x409, .int p1, .ref p0]) rfl ?_
          refine cga (rn_V (As := [.int p1, .int x409, .ref b590]) (rest := []) (b := p0) (x_X10_keepText l D Y Z H.size w591 T517 g q p0 b590 p445 a404 a405 a406 a407 a408 x409 x410 x411 a412 a413 a414 a415 a416 a417 a418 a419 a420 x421 a422 a423 p1 x409 hT (le518.up ht0) ht594 hk595 (show (p1.toInt = 0 → x409.toInt = x409.toInt) by omega) (show (p1.toInt = 1 → x409.toInt = x410.toInt) by omega) (show ((p1.toInt ≠ 0 ∧ p1.toInt ≠ 1) → x409.toInt = x411.toInt) by omega)) ⟨hx, hb, hml, hown, hg⟩ lk_X10_190 ⟨CPC.blind, va_recv hKN.1 hP (ci := 10) (q0 := p445) rfl hk595, CPC.at hP hKN hD hSZ hS hA⟩ ⟨⟨rfl, rfl⟩, ⟨Nat.le_of_ble_eq_true rfl, Nat.le_of_ble_eq_true rfl⟩, ⟨(Nat.le_of_ble_eq_true rfl), (Nat.le_of_ble_eq_true rfl)⟩⟩ hl.1 rfl (Nat.le_of_ble_eq_true rfl) dX10_text_95) hP hD hS hA (fun u597 H locs hw598 hP hD hS => ?_)
          obtain ⟨hT, ke600⟩ : TW Y Z T517 g q u597 ∧ KF 6 T517 w591 u597 := hw598
          have ke601 : KF 6 T ws u597 := KF.tr ke596 (KF.le (by decide) le518 ke600)
          refine W.eq (g2 := F0 m 98 ls []) rfl ?_
          refine lv_iload_n hx hb dX10_text_98 rfl (lv_at hl 1 rfl) ?_
          refine W.widen (k := 6) (n := 462) (Nat.le_of_ble_eq_true rfl) (Nat.le_of_ble_eq_true rfl) ?_
          exact W.iret (v := x409) hx hb hr (fun t ht hW => ⟨⟨(x409, u597, T517), rfl, ⟨le518, hT, ke601⟩, CB.mk ht hP hD⟩, hS.F ht⟩) hS.2.2 dX10_text_99
        · skip
          have c565 := i_ne (Eq.refl u515.toInt) (show (0 : Int32).toInt = 0 by decide) c565
          refine lv_bipush (v := (-2)) hx hb dX10_text_80 (by decide) ?_
          refine lv_iload_n hx hb dX10_text_82 rfl (lv_at hl 0 rfl) ?_
          refine lv_isub hx hb dX10_text_83 ?_
          refine lv_topi (fun v602 ev602 => ?_)
          refine W.widen (k := 6) (n := 462) (Nat.le_of_ble_eq_true rfl) (Nat.le_of_ble_eq_true rfl) ?_
          exact W.iret (v := v602) hx hb hr (fun t ht hW => ⟨⟨(v602, w559, T517), rfl, ⟨le518, hT, ke562⟩, CB.mk ht hP hD⟩, hS.F ht⟩) hS.2.2 dX10_text_84
      · skip
        have c454 := i_nlt (Eq.refl x409.toInt) (show (6 : Int32).toInt = 6 by decide) c454
        refine lv_iconst (v := (-1)) hx hb dX10_text_43 (by decide) ?_
        refine W.widen (k := 6) (n := 462) (Nat.le_of_ble_eq_true rfl) (Nat.le_of_ble_eq_true rfl) ?_
        have zim1 : ((-1) : Int32).toInt = -1 := by decide
        exact W.iret (v := (-1)) hx hb hr (fun t ht hW => ⟨⟨(((-1)), ws, T), rfl, ⟨TLe.rf, hT, KF.rf⟩, CB.mk ht hP hD⟩, hS.F ht⟩) hS.2.2 dX10_text_44
    · obtain rfl : u447 = 0 := i_is c452 (by decide)
      refine W.eq (g2 := F0 m 34 ls [.int 0]) rfl ?_
      refine lv_if_eq (tgt := 43) hx hb dX10_text_34 (by decide) (fun c603 => ?_) (fun c603 => ?_)
      rotate_left
      · exact absurd c603 (by decide)
      refine lv_iconst (v := (-1)) hx hb dX10_text_43 (by decide) ?_
      refine W.widen (k := 6) (n := 462) (Nat.le_of_ble_eq_true rfl) (Nat.le_of_ble_eq_true rfl) ?_
      have zim1 : ((-1) : Int32).toInt = -1 := by decide
      exact W.iret (v := (-1)) hx hb hr (fun t ht hW => ⟨⟨(((-1)), ws, T), rfl, ⟨TLe.rf, hT, KF.rf⟩, CB.mk ht hP hD⟩, hS.F ht⟩) hS.2.2 dX10_text_44
set_option maxHeartbeats 4000000 in
set_option maxRecDepth 100000 in
theorem x_X10_make (l : Launch) (D : va_G) (Y : Nat → ClassId) (Z : Nat → Nat) (sz : Nat) (ws : va_W) (T : RT) (g : GN) (q : GQ)  (p0 : Nat) (p1 : Int32) (p2 : Int32) (p3 : Int32) (p4 : Int32) (p5 : Int32) (hT : TW Y Z T g q ws) (ht0 : T p0 = (1, 0, 0)) : Met l yX10_make (.code yX10_make cX10_make 15 (some .int) :: GW) ({ frames := 4, cells := 0, slots := 0, locals := 99 }) (va_Pc [.ref p0, .int p1, .int p2, .int p3, .int p4, .int p5] (CPC D Y Z ws sz)) (QG (S := Int32 × va_W) (fun u => some (.int u.1)) (fun u => TW Y Z T g q u.2 ∧ KF 6 T ws u.2) (fun u => CB D u.2 (va_A ws sz)) (va_A ws sz)) 0 0 (va_A ws sz) := by
  refine Met.ofW (cc := cX10_make) (maxL := 15) (ret := (some .int)) (by decide) rfl ?_
  intro p e s m args below meth c s₁ B hml hv
  obtain ⟨rfl, ⟨hsz, hP, hKN, hD0⟩, hSZ⟩ := hv
  have hx := B.exec
  have hb := B.bytes
  have hr := B.returns
  have hts := atoms_spec (ws := .code yX10_make cX10_make 15 (some .int) :: GW) B.pre
  have hg : ∀ w ∈ GW, w.before _ s = true := fun w h => hts w (List.mem_cons_of_mem _ h)
  have hown : s.vm.findClass RX10 = some m.cls := findClass_of_methodNamed B.named
  have hlocks := B.notSynchronized
  subst hsz
  have hD := hD0.self (sz := s.heap.size)
  generalize hAe : va_A ws s.heap.size = A at hD hSZ ⊢
  have hA : ∀ q : Nat, s.heap.size ≤ q → A q := fun q h => by rw [← hAe]; exact Or.inr h
  clear hAe hD0 hts B
  have hl := lv_entry ([.ref p0, .int p1, .int p2, .int p3, .int p4, .int p5]) (n := 15) (Nat.le_of_ble_eq_true rfl)
  rw [lg_entry_eq]
  generalize (lg_sl ([.ref p0, .int p1, .int p2, .int p3, .int p4, .int p5]) ++ List.replicate (15 - (lg_sl ([.ref p0, .int p1, .int p2, .int p3, .int p4, .int p5])).length) Slot.unset).toArray = ls at hl ⊢
  have hl : lv_has ls 15 [(0, .ref p0), (1, .int p1), (2, .int p2), (3, .int p3), (4, .int p4), (5, .int p5)] := hl
  refine w_start (A0 := A) hP (fun H locs hP hS => ?_)
  refine lv_aload_n hx hb dX10_make_0 rfl (lv_at hl 0 rfl) ?_
  refine lv_iload_n hx hb dX10_make_1 rfl (lv_at hl 1 rfl) ?_
  refine ok1 hT ht0 (fun p42 a1 a2 a3 a4 a5 x6 x7 x8 a9 a10 a11 a12 a13 a14 a15 a16 a17 x18 a19 a20 hk43 h21 h22 h23 h24 h25 h26 h27 h28 h29 h30 h31 h32 h33 h34 h35 h36 h37 h38 h39 h40 h41 => ?_)
  refine cga (rn_V (As := [.int p1]) (rest := []) (b := p0) (x_X10_lawAt l D Y Z H.size ws T g q p0 p1 hT ht0) ⟨hx, hb, hml, hown, hg⟩ lk_X10_194 ⟨CPC.blind, va_recv hKN.1 hP (ci := 10) (q0 := p42) rfl hk43, CPC.at hP hKN hD hSZ hS hA⟩ ⟨⟨rfl, rfl⟩, ⟨Nat.le_of_ble_eq_true rfl, Nat.le_of_ble_eq_true rfl⟩, ⟨(Nat.le_of_ble_eq_true rfl), (Nat.le_of_ble_eq_true rfl)⟩⟩ hl.1 rfl (Nat.le_of_ble_eq_true rfl) dX10_make_2) hP hD hS hA (fun u44 H locs hw45 hP hD hS => ?_)
  obtain ⟨ht47, hw48⟩ : (∀ b, u44 = some b → T b = (5, 0, 0)) ∧ (∀ b, u44 = some b → 0 ≤ p1.toInt ∧ p1.toInt ≤ 5) := hw45
  refine W.eq (g2 := F0 m 5 ls [va_rf u44]) rfl ?_
  rcases u44 with _ | b49
  · skip
    refine W.eq (g2 := F0 m 5 ls [.null]) rfl ?_
    refine lv_astoreN (lv' := [(6, .null), (0, .ref p0), (1, .int p1), (2, .int p2), (3, .int p3), (4, .int p4), (5, .int p5)]) hx hb dX10_make_5 hl (by decide) rfl (fun ls hl => ?_)
    refine lv_aload_n hx hb dX10_make_7 rfl (lv_at hl 1 rfl) ?_
    refine va_get (D := D) (ci := 10) (v := .ref a1) (C := RX10) (T := TX10) (N := 20) hx hb hg inGX10 hown hKN.1 hP p42 hk43 rfl 0 (by decide) (hg _ kw_349) (fun _ h9 => h9) rfl dX10_make_8 ?_
    refine lv_iload_n hx hb dX10_make_11 rfl (lv_at hl 3 rfl) ?_
    refine ok2 hT h21 (fun p84 x50 a51 x52 a53 x54 a55 a56 x57 a58 a59 x60 a61 x62 hk85 h63 h64 h65 h66 h67 h68 h69 h70 h71 h72 h73 h74 h75 h76 h77 h78 h79 h80 h81 h82 h83 => ?_)
    refine cga (rn_NV (As := [.int p2]) (rest := []) (b := a1) (x_X6_starAt l D Y Z H.size ws T g q 0 a1 p2 hT h21) ⟨hx, hb, hml, hown, hg⟩ hKN lk_X10_108 ⟨CPC.blind, va_recv hKN.1 hP (ci := 6) (q0 := p84) rfl hk85, CPC.at hP hKN hD hSZ hS hA⟩ ⟨⟨rfl, rfl⟩, ⟨Nat.le_of_ble_eq_true rfl, Nat.le_of_ble_eq_true rfl⟩, ⟨(Nat.le_of_ble_eq_true rfl), (Nat.le_of_ble_eq_true rfl)⟩⟩ hl.1 rfl (Nat.le_of_ble_eq_true rfl) dX10_make_12) hP hD hS hA (fun u86 H locs hw87 hP hD hS => ?_)
    obtain ⟨ht89, hw90⟩ : (∀ b, u86 = some b → T b = (3, 0, p2.toNatClampNeg)) ∧ (∀ b, u86 = some b → 0 ≤ p2.toInt ∧ p2.toInt ≤ 11) := hw87
    refine W.eq (g2 := F0 m 15 ls [va_rf u86]) rfl ?_
    rcases u86 with _ | b91
    · skip
      refine W.eq (g2 := F0 m 15 ls [.null]) rfl ?_
      refine lv_astoreN (lv' := [(7, .null), (6, .null), (0, .ref p0), (1, .int p1), (2, .int p2), (3, .int p3), (4, .int p4), (5, .int p5)]) hx hb dX10_make_15 hl (by decide) rfl (fun ls hl => ?_)
      refine lv_aloadN hx hb dX10_make_17 (lv_at hl 1 rfl) ?_
      refine lv_ifnullN (tgt := 54) hx hb dX10_make_19 (by decide) ?_
      refine lv_iconst (v := (-1)) hx hb dX10_make_54 (by decide) ?_
      refine W.widen (k := 0) (n := 0) (Nat.le_of_ble_eq_true rfl) (Nat.le_of_ble_eq_true rfl) ?_
      have zim1 : ((-1) : Int32).toInt = -1 := by decide
      exact W.iret (v := (-1)) hx hb hr (fun t ht hW => ⟨⟨(((-1)), ws), rfl, ⟨hT, KF.rf⟩, CB.mk ht hP hD⟩, hS.F ht⟩) hS.2.2 dX10_make_55
    · skip
      have ht92 := ht89 b91 rfl
      have h93 := hw90 b91 rfl
      refine W.eq (g2 := F0 m 15 ls [.ref b91]) rfl ?_
      refine lv_astore (lv' := [(7, .ref b91), (6, .null), (0, .ref p0), (1, .int p1), (2, .int p2), (3, .int p3), (4, .int p4), (5, .int p5)]) hx hb dX10_make_15 hl (by decide) rfl (fun ls hl => ?_)
      refine lv_aloadN hx hb dX10_make_17 (lv_at hl 1 rfl) ?_
      refine lv_ifnullN (tgt := 54) hx hb dX10_make_19 (by decide) ?_
      refine lv_iconst (v := (-1)) hx hb dX10_make_54 (by decide) ?_
      refine W.widen (k := 0) (n := 0) (Nat.le_of_ble_eq_true rfl) (Nat.le_of_ble_eq_true rfl) ?_
      have zim1 : ((-1) : Int32).toInt = -1 := by decide
      exact W.iret (v := (-1)) hx hb hr (fun t ht hW => ⟨⟨(((-1)), ws), rfl, ⟨hT, KF.rf⟩, CB.mk ht hP hD⟩, hS.F ht⟩) hS.2.2 dX10_make_55
  · skip
    have ht94 := ht47 b49 rfl
    have h95 := hw48 b49 rfl
    refine W.eq (g2 := F0 m 5 ls [.ref b49]) rfl ?_
    refine lv_astore (lv' := [(6, .ref b49), (0, .ref p0), (1, .int p1), (2, .int p2), (3, .int p3), (4, .int p4), (5, .int p5)]) hx hb dX10_make_5 hl (by decide) rfl (fun ls hl => ?_)
    refine lv_aload_n hx hb dX10_make_7 rfl (lv_at hl 1 rfl) ?_
    refine va_get (D := D) (ci := 10) (v := .ref a1) (C := RX10) (T := TX10) (N := 20) hx hb hg inGX10 hown hKN.1 hP p42 hk43 rfl 0 (by decide) (hg _ kw_349) (fun _ h9 => h9) rfl dX10_make_8 ?_
    refine lv_iload_n hx hb dX10_make_11 rfl (lv_at hl 3 rfl) ?_
    refine ok2 hT h21 (fun p130 x96 a97 x98 a99 x100 a101 a102 x103 a104 a105 x106 a107 x108 hk131 h109 h110 h111 h112 h113 h114 h115 h116 h117 h118 h119 h120 h121 h122 h123 h124 h125 h126 h127 h128 h129 => ?_)
    refine cga (rn_NV (As := [.int p2]) (rest := []) (b := a1) (x_X6_starAt l D Y Z H.size ws T g q 0 a1 p2 hT h21) ⟨hx, hb, hml, hown, hg⟩ hKN lk_X10_108 ⟨CPC.blind, va_recv hKN.1 hP (ci := 6) (q0 := p130) rfl hk131, CPC.at hP hKN hD hSZ hS hA⟩ ⟨⟨rfl, rfl⟩, ⟨Nat.le_of_ble_eq_true rfl, Nat.le_of_ble_eq_true rfl⟩, ⟨(Nat.le_of_ble_eq_true rfl), (Nat.le_of_ble_eq_true rfl)⟩⟩ hl.1 rfl (Nat.le_of_ble_eq_true rfl) dX10_make_12) hP hD hS hA (fun u132 H locs hw133 hP hD hS => ?_)
    obtain ⟨ht135, hw136⟩ : (∀ b, u132 = some b → T b = (3, 0, p2.toNatClampNeg)) ∧ (∀ b, u132 = some b → 0 ≤ p2.toInt ∧ p2.toInt ≤ 11) := hw133
    refine W.eq (g2 := F0 m 15 ls [va_rf u132]) rfl ?_
    rcases u132 with _ | b137
    · skip
      refine W.eq (g2 := F0 m 15 ls [.null]) rfl ?_
      refine lv_astoreN (lv' := [(7, .null), (6, .ref b49), (0, .ref p0), (1, .int p1), (2, .int p2), (3, .int p3), (4, .int p4), (5, .int p5)]) hx hb dX10_make_15 hl (by decide) rfl (fun ls hl => ?_)
      refine lv_aload hx hb dX10_make_17 (lv_at hl 1 rfl) ?_
      refine lv_ifnull hx hb dX10_make_19 ?_
      refine lv_aloadN hx hb dX10_make_22 (lv_at hl 0 rfl) ?_
      refine lv_ifnullN (tgt := 54) hx hb dX10_make_24 (by decide) ?_
      refine lv_iconst (v := (-1)) hx hb dX10_make_54 (by decide) ?_
      refine W.widen (k := 0) (n := 0) (Nat.le_of_ble_eq_true rfl) (Nat.le_of_ble_eq_true rfl) ?_
      have zim1 : ((-1) : Int32).toInt = -1 := by decide
      exact W.iret (v := (-1)) hx hb hr (fun t ht hW => ⟨⟨(((-1)), ws), rfl, ⟨hT, KF.rf⟩, CB.mk ht hP hD⟩, hS.F ht⟩) hS.2.2 dX10_make_55
    · skip
      have ht138 := ht135 b137 rfl
      have h139 := hw136 b137 rfl
      refine W.eq (g2 := F0 m 15 ls [.ref b137]) rfl ?_
      refine lv_astore (lv' := [(7, .ref b137), (6, .ref b49), (0, .ref p0), (1, .int p1), (2, .int p2), (3, .int p3), (4, .int p4), (5, .int p5)]) hx hb dX10_make_15 hl (by decide) rfl (fun ls hl => ?_)
      refine lv_aload hx hb dX10_make_17 (lv_at hl 1 rfl) ?_
      refine lv_ifnull hx hb dX10_make_19 ?_
      refine lv_aload hx hb dX10_make_22 (lv_at hl 0 rfl) ?_
      refine lv_ifnull hx hb dX10_make_24 ?_
      refine lv_iload_n hx hb dX10_make_27 rfl (lv_at hl 5 rfl) ?_
      have j140 := rgI p3
      refine lv_if_lt (tgt := 54) hx hb dX10_make_28 (by decide) (fun c141 => ?_) (fun c141 => ?_)
      · skip
        have c141 := i_lt (Eq.refl p3.toInt) (show (0 : Int32).toInt = 0 by decide) c141
        refine lv_iconst (v := (-1)) hx hb dX10_make_54 (by decide) ?_
        refine W.widen (k := 0) (n := 0) (Nat.le_of_ble_eq_true rfl) (Nat.le_of_ble_eq_true rfl) ?_
        have zim1 : ((-1) : Int32).toInt = -1 := by decide
        exact W.iret (v := (-1)) hx hb hr (fun t ht hW => ⟨⟨(((-1)), ws), rfl, ⟨hT, KF.rf⟩, CB.mk ht hP hD⟩, hS.F ht⟩) hS.2.2 dX10_make_55
      · skip
        have c141 := i_nlt (Eq.refl p3.toInt) (show (0 : Int32).toInt = 0 by decide) c141
        refine lv_iload hx hb dX10_make_31 (lv_at hl 6 rfl) ?_
        refine cg0 (rn_S (As := [.int p4]) (rest := []) (x_X10_isHour l D Y Z H.size p4) ⟨hx, hb, hml, hown, hg⟩ lk_X10_113 ⟨CP.blind, CP.at nilP hKN (nilD (A := fun _ => True))⟩ ⟨⟨rfl, rfl⟩, ⟨Nat.le_of_ble_eq_true rfl, Nat.le_of_ble_eq_true rfl⟩, ⟨(Nat.le_of_ble_eq_true rfl), (Nat.le_of_ble_eq_true rfl)⟩⟩ hl.1 rfl (Nat.le_of_ble_eq_true rfl) dX10_make_33) hP hS hA (fun u142 H locs hw143 hP hS => ?_)
        obtain ⟨hw145, hw146⟩ : ((0 ≤ p4.toInt ∧ p4.toInt ≤ 599 ∧ u142.toInt = 1) ∨ (¬ (0 ≤ p4.toInt ∧ p4.toInt ≤ 599) ∧ u142.toInt = 0)) ∧ (0 ≤ u142.toInt ∧ u142.toInt ≤ 1) := hw143
        refine W.eq (g2 := F0 m 36 ls [.int u142]) rfl ?_
        rcases (show u142.toInt = 1 ∨ u142.toInt = 0 by omega) with c147 | c147
        · obtain rfl : u142 = 1 := i_is c147 (by decide)
          have zi1 : (1 : Int32).toInt = 1 := by decide
          refine W.eq (g2 := F0 m 36 ls [.int 1]) rfl ?_
          refine lv_if_eq (tgt := 54) hx hb dX10_make_36 (by decide) (fun c148 => ?_) (fun c148 => ?_)
          · exact absurd c148 (by decide)
          refine lv_iload hx hb dX10_make_39 (lv_at hl 7 rfl) ?_
          refine cg0 (rn_S (As := [.int p5]) (rest := []) (x_X10_isHour l D Y Z H.size p5) ⟨hx, hb, hml, hown, hg⟩ lk_X10_113 ⟨CP.blind, CP.at nilP hKN (nilD (A := fun _ => True))⟩ ⟨⟨rfl, rfl⟩, ⟨Nat.le_of_ble_eq_true rfl, Nat.le_of_ble_eq_true rfl⟩, ⟨(Nat.le_of_ble_eq_true rfl), (Nat.le_of_ble_eq_true rfl)⟩⟩ hl.1 rfl (Nat.le_of_ble_eq_true rfl) dX10_make_41) hP hS hA (fun u149 H locs hw150 hP hS => ?_)
          obtain ⟨hw152, hw153⟩ : ((0 ≤ p5.toInt ∧ p5.toInt ≤ 599 ∧ u149.toInt = 1) ∨ (¬ (0 ≤ p5.toInt ∧ p5.toInt ≤ 599) ∧ u149.toInt = 0)) ∧ (0 ≤ u149.toInt ∧ u149.toInt ≤ 1) := hw150
          refine W.eq (g2 := F0 m 44 ls [.int u149]) rfl ?_
          rcases (show u149.toInt = 1 ∨ u149.toInt = 0 by omega) with c154 | c154
          · obtain rfl : u149 = 1 := i_is c154 (by decide)
            refine W.eq (g2 := F0 m 44 ls [.int 1]) rfl ?_
            refine lv_if_eq (tgt := 54) hx hb dX10_make_44 (by decide) (fun c155 => ?_) (fun c155 => ?_)
            · exact absurd c155 (by decide)
            refine lv_iload hx hb dX10_make_47 (lv_at hl 6 rfl) ?_
            refine lv_iload hx hb dX10_make_49 (lv_at hl 7 rfl) ?_
            refine lv_icmp_le (tgt := 56) hx hb dX10_make_51 (by decide) (fun c156 => ?_) (fun c156 => ?_)
            · skip
              have c156 := i_le (Eq.refl p4.toInt) (Eq.refl p5.toInt) c156
              refine lv_iload_n hx hb dX10_make_56 rfl (lv_at hl 5 rfl) ?_
              have j157 := Int32.toInt_toInt64 p3
              refine lv_i2l (v := p3.toInt64) hx hb dX10_make_57 (rfl) ?_
              refine lv_lstore (lv' := [(8, .long p3.toInt64), (7, .ref b137), (6, .ref b49), (0, .ref p0), (1, .int p1), (2, .int p2), (3, .int p3), (4, .int p4), (5, .int p5)]) hx hb dX10_make_58 hl (by decide) rfl (fun ls hl => ?_)
              refine lv_aload_n hx hb dX10_make_60 rfl (lv_at hl 3 rfl) ?_
              refine va_get (D := D) (ci := 10) (v := .ref a19) (C := RX10) (T := TX10) (N := 20) hx hb hg inGX10 hown hKN.1 hP p42 hk43 rfl 18 (by decide) (hg _ kw_367) (fun _ h9 => h9) rfl dX10_make_61 ?_
              refine lv_iconst (v := 2) hx hb dX10_make_64 (by decide) ?_
              refine lv_iload_n hx hb dX10_make_65 rfl (lv_at hl 5 rfl) ?_
              have j158 := Int32.toInt_toInt64 p2
              refine lv_i2l (v := p2.toInt64) hx hb dX10_make_66 (rfl) ?_
              refine tr_st15 hx hb hKN hP hD hS hT h40 (show ¬ ((2 : Int32) < 0 ∨ 10 ≤ (2 : Int32).toNatClampNeg) by decide) dX10_make_67 (fun w159 H locs hP hD hS hT kp160 => ?_)
              have ke161 : KF 6 T ws w159 := KF.tr KF.rf (KF.kp kp160 h40 (by decide))
              have hk162 := kp160 _ _ hk43 (rne ht0 h40 (by decide))
              have hk163 := kp160 _ _ hk131 (rne h21 h40 (by decide))
              refine lv_aload_n hx hb dX10_make_68 rfl (lv_at hl 3 rfl) ?_
              refine va_get (D := D) (ci := 10) (v := .ref a19) (C := RX10) (T := TX10) (N := 20) hx hb hg inGX10 hown hKN.1 hP p42 hk162 rfl 18 (by decide) (hg _ kw_367) (fun _ h9 => h9) rfl dX10_make_69 ?_
              refine lv_iconst (v := 3) hx hb dX10_make_72 (by decide) ?_
              refine lv_aload hx hb dX10_make_73 (lv_at hl 1 rfl) ?_
              refine ok3 hT ht138 (fun p170 x164 x165 x166 a167 hk171 h168 h169 => ?_)
              refine va_getN (D := D) (ci := 7) (v := .int x165) (C := RX7) (T := TX7) (N := 4) hx hb hg inGX7 hown hKN.1 hP p170 hk171 rfl 1 (by decide) (va_Nw.use rfl (hKN.2.1 _ kn_438 rfl)) (fun _ h9 => h9) rfl dX10_make_75 ?_
              have j172 := rgI x165
              have j173 := Int32.toInt_toInt64 x165
              refine lv_i2l (v := x165.toInt64) hx hb dX10_make_78 (rfl) ?_
              refine tr_st15 hx hb hKN hP hD hS hT h40 (show ¬ ((3 : Int32) < 0 ∨ 10 ≤ (3 : Int32).toNatClampNeg) by decide) dX10_make_79 (fun w174 H locs hP hD hS hT kp175 => ?_)
              have ke176 : KF 6 T ws w174 := KF.tr ke161 (KF.kp kp175 h40 (by decide))
              have hk177 := kp175 _ _ hk162 (rne ht0 h40 (by decide))
              have hk178 := kp175 _ _ hk163 (rne h21 h40 (by decide))
              have hk179 := kp175 _ _ hk171 (rne ht138 h40 (by decide))
              refine lv_aload_n hx hb dX10_make_80 rfl (lv_at hl 3 rfl) ?_
              refine va_get (D := D) (ci := 10) (v := .ref a19) (C := RX10) (T := TX10) (N := 20) hx hb hg inGX10 hown hKN.1 hP p42 hk177 rfl 18 (by decide) (hg _ kw_367) (fun _ h9 => h9) rfl dX10_make_81 ?_
              refine lv_iconst (v := 4) hx hb dX10_make_84 (by decide) ?_
              refine lv_aload hx hb dX10_make_85 (lv_at hl 1 rfl) ?_
              refine va_getN (D := D) (ci := 7) (v := .int x164) (C := RX7) (T := TX7) (N := 4) hx hb hg inGX7 hown hKN.1 hP p170 hk179 rfl 0 (by decide) (va_Nw.use rfl (hKN.2.1 _ kn_434 rfl)) (fun _ h9 => h9) rfl dX10_make_87 ?_
              have j180 := rgI x164
              have j181 := Int32.toInt_toInt64 x164
              refine lv_i2l (v := x164.toInt64) hx hb dX10_make_90 (rfl) ?_
              refine tr_st15 hx hb hKN hP hD hS hT h40 (show ¬ ((4 : Int32) < 0 ∨ 10 ≤ (4 : Int32).toNatClampNeg) by decide) dX10_make_91 (fun w182 H locs hP hD hS hT kp183 => ?_)
              have ke184 : KF 6 T ws w182 := KF.tr ke176 (KF.kp kp183 h40 (by decide))
              have hk185 := kp183 _ _ hk177 (rne ht0 h40 (by decide))
              have hk186 := kp183 _ _ hk178 (rne h21 h40 (by decide))
              have hk187 := kp183 _ _ hk179 (rne ht138 h40 (by decide))
              refine lv_iload hx hb dX10_make_92 (lv_at hl 7 rfl) ?_
              refine lv_istore (lv' := [(10, .int p4), (8, .long p3.toInt64), (7, .ref b137), (6, .ref b49), (0, .ref p0), (1, .int p1), (2, .int p2), (3, .int p3), (4, .int p4), (5, .int p5)]) hx hb dX10_make_94 hl (by decide) rfl (fun ls hl => ?_)
              refine w_loop (σ := Int32 × Int64 × va_W) (fun xx H locs ls => match xx with | (v315, v316, w317) => va_P D vwCl w317 H ∧ va_D A w317 ∧ va_S A s.heap H locs ∧ lv_has ls 15 [(10, .int v315), (8, .long v316), (7, .ref b137), (6, .ref b49), (0, .ref p0), (1, .int p1), (2, .int p2), (3, .int p3), (4, .int p4), (5, .int p5)] ∧ TW Y Z T g q w317 ∧ KF 6 T ws w317 ∧ (0 ≤ v315.toInt ∧ v315.toInt ≤ 600)) (fun xx => match xx with | (v315, v316, w317) => (600 - v315.toInt).toNat) (p4, p3.toInt64, w182) ⟨hP, hD, hS, lv_sub hl [0, 1, 2, 3, 4, 5, 6, 7, 8, 9] rfl, hT, ke184, by omega⟩ (fun xx H locs ls hI ih => ?_)
              obtain ⟨v315, v316, w317⟩ := xx
              obtain ⟨hP, hD, hS, hl, hT, ke485, hq484⟩ := hI
              have ih486 := ih
              refine lv_iload hx hb dX10_make_96 (lv_at hl 0 rfl) ?_
              refine lv_iload hx hb dX10_make_98 (lv_at hl 9 rfl) ?_
              refine lv_icmp_gt (tgt := 233) hx hb dX10_make_100 (by decide) (fun c487 => ?_) (fun c487 => ?_)
              · skip
                have c487 := i_lt (Eq.refl p5.toInt) (Eq.refl v315.toInt) c487
                refine lv_aload_n hx hb dX10_make_233 rfl (lv_at hl 4 rfl) ?_
                refine lv_dup hx hb dX10_make_234 rfl ?_
                refine ok1 hT ht0 (fun p529 a488 a489 a490 a491 a492 x493 x494 x495 a496 a497 a498 a499 a500 a501 a502 a503 a504 x505 a506 a507 hk530 h508 h509 h510 h511 h512 h513 h514 h515 h516 h517 h518 h519 h520 h521 h522 h523 h524 h525 h526 h527 h528 => ?_)
                refine va_get (D := D) (ci := 10) (v := .int x505) (C := RX10) (T := TX10) (N := 20) hx hb hg inGX10 hown hKN.1 hP p529 hk530 rfl 17 (by decide) (hg _ kw_366) (fun _ h9 => h9) rfl dX10_make_235 ?_
                refine lv_iconst (v := 1) hx hb dX10_make_238 (by decide) ?_
                refine lv_iadd hx hb dX10_make_239 ?_
                refine lv_topi (fun v531 ev531 => ?_)
                refine va_put (D := D) (ci := 10) (v := .int v531) (ty := .int) (C := RX10) (T := TX10) (N := 20) hx hb hg inGX10 tyX10 tyX10_ok nmX10 hown hKN.1 hP hD hS p529 hk530 rfl 17 (by decide) (hg _ kw_366) (fun _ h9 => h9) rfl (by decide +kernel) rfl rfl (Nat.le_of_ble_eq_true rfl) dX10_make_240 (fun H locs hP hD2 hS => ?_)
                obtain ⟨w532, hP, hD, hT, hk534, kp533⟩ : ∃ wz, va_P D vwCl wz H ∧ va_D A wz ∧ TW Y Z T g q wz ∧ wz[p529]? = some (p0, .inr (10, (.ref a488 :: .ref a489 :: .ref a490 :: .ref a491 :: .ref a492 :: .int x493 :: .int x494 :: .int x495 :: .ref a496 :: .ref a497 :: .ref a498 :: .ref a499 :: .ref a500 :: .ref a501 :: .ref a502 :: .ref a503 :: .ref a504 :: .int v531 :: .ref a506 :: .ref a507 :: []))) ∧ Kp p0 w317 wz := ⟨_, hP, hD2, st1 hT hD hk530 ht0 ⟨a488, a489, a490, a491, a492, x493, x494, x495, a496, a497, a498, a499, a500, a501, a502, a503, a504, v531, a506, a507, rfl, h508, h509, h510, h511, h512, h513, h514, by omega, by omega, by omega, h518, h519, h520, h521, h522, h523, h524, h525, h526, h527, h528⟩, sw_eq hk530, sw_kp hk530⟩
                have ke535 : KF 6 T ws w532 := KF.tr ke485 (KF.kp kp533 ht0 (by decide))
                refine lv_iload hx hb dX10_make_243 (lv_at hl 9 rfl) ?_
                refine lv_iload hx hb dX10_make_245 (lv_at hl 8 rfl) ?_
                refine lv_isub hx hb dX10_make_247 ?_
                refine lv_topi (fun v536 ev536 => ?_)
                have hv536 := i_sub (Eq.refl p5.toInt) (Eq.refl p4.toInt) ev536 (by omega) (by omega)
                refine lv_iconst (v := 1) hx hb dX10_make_248 (by decide) ?_
                refine lv_iadd hx hb dX10_make_249 ?_
                refine lv_topi (fun v537 ev537 => ?_)
                have hv537 := i_add (Eq.refl v536.toInt) (show (1 : Int32).toInt = 1 by decide) ev537 (by omega) (by omega)
                refine W.widen (k := 0) (n := 0) (Nat.le_of_ble_eq_true rfl) (Nat.le_of_ble_eq_true rfl) ?_
                exact W.iret (v := v537) hx hb hr (fun t ht hW => ⟨⟨(v537, w532), rfl, ⟨hT, ke535⟩, CB.mk ht hP hD⟩, hS.F ht⟩) hS.2.2 dX10_make_250
              · skip
                have c487 := i_nlt (Eq.refl p5.toInt) (Eq.refl v315.toInt) c487
                refine lv_aload_n hx hb dX10_make_103 rfl (lv_at hl 4 rfl) ?_
                refine ok1 hT ht0 (fun p579 a538 a539 a540 a541 a542 x543 x544 x545 a546 a547 a548 a549 a550 a551 a552 a553 a554 x555 a556 a557 hk580 h558 h559 h560 h561 h562 h563 h564 h565 h566 h567 h568 h569 h570 h571 h572 h573 h574 h575 h576 h577 h578 => ?_)
                refine va_get (D := D) (ci := 10) (v := .ref a556) (C := RX10) (T := TX10) (N := 20) hx hb hg inGX10 hown hKN.1 hP p579 hk580 rfl 18 (by decide) (hg _ kw_367) (fun _ h9 => h9) rfl dX10_make_104 ?_
                refine lv_iconst (v := 0) hx hb dX10_make_107 (by decide) ?_
                refine lv_iload hx hb dX10_make_108 (lv_at hl 0 rfl) ?_
                have j581 := Int32.toInt_toInt64 v315
                refine lv_i2l (v := v315.toInt64) hx hb dX10_make_110 (rfl) ?_
                refine tr_st15 hx hb hKN hP hD hS hT h577 (show ¬ ((0 : Int32) < 0 ∨ 10 ≤ (0 : Int32).toNatClampNeg) by decide) dX10_make_111 (fun w582 H locs hP hD hS hT kp583 => ?_)
                have ke584 : KF 6 T ws w582 := KF.tr ke485 (KF.kp kp583 h577 (by decide))
                have hk585 := kp583 _ _ hk580 (rne ht0 h577 (by decide))
                refine lv_aload_n hx hb dX10_make_112 rfl (lv_at hl 4 rfl) ?_
                refine va_get (D := D) (ci := 10) (v := .ref a556) (C := RX10) (T := TX10) (N := 20) hx hb hg inGX10 hown hKN.1 hP p579 hk585 rfl 18 (by decide) (hg _ kw_367) (fun _ h9 => h9) rfl dX10_make_113 ?_
                refine lv_iconst (v := 1) hx hb dX10_make_116 (by decide) ?_
                refine lv_iload hx hb dX10_make_117 (lv_at hl 0 rfl) ?_
                refine lv_sipush (v := 150) hx hb dX10_make_119 (by decide) ?_
                have zi150 : (150 : Int32).toInt = 150 := by decide
                refine lv_idiv hx hb dX10_make_122 (i_nz (show (150 : Int32).toInt = 150 by decide) (by omega)) ?_
                refine lv_topi (fun v586 ev586 => ?_)
                have hv586 := i_div (Eq.refl v315.toInt) (show (150 : Int32).toInt = 150 by decide) ev586 (by omega) (by omega)
                have j587 := Int32.toInt_toInt64 v586
                refine lv_i2l (v := v586.toInt64) hx hb dX10_make_123 (rfl) ?_
                refine tr_st15 hx hb hKN hP hD hS hT h577 (show ¬ ((1 : Int32) < 0 ∨ 10 ≤ (1 : Int32).toNatClampNeg) by decide) dX10_make_124 (fun w588 H locs hP hD hS hT kp589 => ?_)
                have ke590 : KF 6 T ws w588 := KF.tr ke584 (KF.kp kp589 h577 (by decide))
                have hk591 := kp589 _ _ hk585 (rne ht0 h577 (by decide))
                refine lv_aload_n hx hb dX10_make_125 rfl (lv_at hl 4 rfl) ?_
                refine va_get (D := D) (ci := 10) (v := .ref a547) (C := RX10) (T := TX10) (N := 20) hx hb hg inGX10 hown hKN.1 hP p579 hk591 rfl 9 (by decide) (hg _ kw_358) (fun _ h9 => h9) rfl dX10_make_126 ?_
                refine lv_aload hx hb dX10_make_129 (lv_at hl 3 rfl) ?_
                refine lv_aload_n hx hb dX10_make_131 rfl (lv_at hl 4 rfl) ?_
                refine va_get (D := D) (ci := 10) (v := .ref a556) (C := RX10) (T := TX10) (N := 20) hx hb hg inGX10 hown hKN.1 hP p579 hk591 rfl 18 (by decide) (hg _ kw_367) (fun _ h9 => h9) rfl dX10_make_132 ?_
                refine ok8 hT h569 (fun p594 a592 hk595 h593 => ?_)
                refine cga (rn_NV (As := [.ref b49, .ref a556]) (rest := []) (b := a547) (x_X4_brightness l D Y Z H.size w588 T g q a547 b49 a556 hT h569 ht94 h577) ⟨hx, hb, hml, hown, hg⟩ hKN lk_X10_201 ⟨CPC.blind, va_recv hKN.1 hP (ci := 4) (q0 := p594) rfl hk595, CPC.at hP hKN hD hSZ hS hA⟩ ⟨⟨rfl, rfl⟩, ⟨Nat.le_of_ble_eq_true rfl, Nat.le_of_ble_eq_true rfl⟩, ⟨(Nat.le_of_ble_eq_true rfl), (Nat.le_of_ble_eq_true rfl)⟩⟩ hl.1 rfl (Nat.le_of_ble_eq_true rfl) dX10_make_135) hP hD hS hA (fun u596 H locs hw597 hP hD hS => ?_)
                obtain ⟨u598, w599⟩ := u596
                obtain ⟨hT, ke600, ke601⟩ : TW Y Z T g q w599 ∧ KF 1 T w588 w599 ∧ KF 6 T w588 w599 := hw597
                have hk602 := ke600 _ _ hk591 (show (T p0).1 = 1 by rw [ht0])
                have ke603 : KF 6 T ws w599 := KF.tr ke590 ke601
                refine W.eq (g2 := F0 m 138 ls [.long u598]) rfl ?_
                refine lv_ldc2 (v := (-20000)) hx hb hown (hg _ kw_788) dX10_make_138 ?_
                refine lv_ldc2 (v := 20000) hx hb hown (hg _ kw_789) dX10_make_141 ?_
                have zlm20000 : ((-20000) : Int64).toInt = -20000 := by decide
                have zl20000 : (20000 : Int64).toInt = 20000 := by decide
                refine cg0 (rn_S (As := [.long u598, .long (-20000), .long 20000]) (rest := []) (x_X10_held l D Y Z H.size u598 (-20000) 20000) ⟨hx, hb, hml, hown, hg⟩ lk_X10_209 ⟨CP.blind, CP.at nilP hKN (nilD (A := fun _ => True))⟩ ⟨⟨rfl, rfl⟩, ⟨Nat.le_of_ble_eq_true rfl, Nat.le_of_ble_eq_true rfl⟩, ⟨(Nat.le_of_ble_eq_true rfl), (Nat.le_of_ble_eq_true rfl)⟩⟩ hl.1 rfl (Nat.le_of_ble_eq_true rfl) dX10_make_144) hP hS hA (fun u604 H locs hw605 hP hS => ?_)
                have hw607 : (((-20000) : Int64).toInt ≤ (20000 : Int64).toInt → (((-20000) : Int64).toInt ≤ u604.toInt ∧ u604.toInt ≤ (20000 : Int64).toInt)) := hw605
                refine W.eq (g2 := F0 m 147 ls [.long u604]) rfl ?_
                refine lv_lstore (lv' := [(11, .long u604), (10, .int v315), (8, .long v316), (7, .ref b137), (6, .ref b49), (0, .ref p0), (1, .int p1), (2, .int p2), (3, .int p3), (4, .int p4), (5, .int p5)]) hx hb dX10_make_147 hl (by decide) rfl (fun ls hl => ?_)
                refine lv_lload hx hb dX10_make_149 (lv_at hl 2 rfl) ?_
                refine lv_ldc2 (v := 1103515245) hx hb hown (hg _ kw_791) dX10_make_151 ?_
                refine lv_lmul hx hb dX10_make_154 ?_
                refine lv_topl (fun v608 ev608 => ?_)
                refine lv_ldc2 (v := 12345) hx hb hown (hg _ kw_792) dX10_make_155 ?_
                refine lv_ladd hx hb dX10_make_158 ?_
                refine lv_topl (fun v609 ev609 => ?_)
                refine lv_ldc2 (v := 2147483648) hx hb hown (hg _ kw_793) dX10_make_159 ?_
                have zl2147483648 : (2147483648 : Int64).toInt = 2147483648 := by decide
                refine lv_lrem hx hb dX10_make_162 (l_nz (show (2147483648 : Int64).toInt = 2147483648 by decide) (by omega)) ?_
                refine lv_topl (fun v610 ev610 => ?_)
                have hv610 := l_remS (Eq.refl v609.toInt) (show (2147483648 : Int64).toInt = 2147483648 by decide) ev610 (by omega)
                refine lv_lstore (lv' := [(8, .long v610), (11, .long u604), (10, .int v315), (7, .ref b137), (6, .ref b49), (0, .ref p0), (1, .int p1), (2, .int p2), (3, .int p3), (4, .int p4), (5, .int p5)]) hx hb dX10_make_163 hl (by decide) rfl (fun ls hl => ?_)
                refine lv_lload hx hb dX10_make_165 (lv_at hl 0 rfl) ?_
                refine lv_ldc2 (v := 65536) hx hb hown (hg _ kw_794) dX10_make_167 ?_
                have zl65536 : (65536 : Int64).toInt = 65536 := by decide
                refine lv_ldiv hx hb dX10_make_170 (l_nz (show (65536 : Int64).toInt = 65536 by decide) (by omega)) ?_
                refine lv_topl (fun v611 ev611 => ?_)
                have hv611 := l_divS (Eq.refl v610.toInt) (show (65536 : Int64).toInt = 65536 by decide) ev611 (by omega)
                refine lv_ldc2 (v := 2) hx hb hown (hg _ kw_795) dX10_make_171 ?_
                refine lv_aload hx hb dX10_make_174 (lv_at hl 4 rfl) ?_
                refine ok5 hT ht94 (fun p633 x612 x613 x614 x615 x616 x617 x618 x619 a620 a621 a622 a623 a624 x625 hk634 h626 h627 h628 h629 h630 h631 h632 => ?_)
                refine va_getN (D := D) (ci := 8) (v := .int x612) (C := RX8) (T := TX8) (N := 14) hx hb hg inGX8 hown hKN.1 hP p633 hk634 rfl 0 (by decide) (va_Nw.use rfl (hKN.2.1 _ kn_116 rfl)) (fun _ h9 => h9) rfl dX10_make_176 ?_
                have j635 := rgI x612
                have j636 := Int32.toInt_toInt64 x612
                refine lv_i2l (v := x612.toInt64) hx hb dX10_make_179 (rfl) ?_
                refine lv_lmul hx hb dX10_make_180 ?_
                refine lv_topl (fun v637 ev637 => ?_)
                have hv637 := l_mul (show (2 : Int64).toInt = 2 by decide) (Int32.toInt_toInt64 x612) ev637 (by omega) (by omega)
                refine lv_lconst (v := 1) hx hb dX10_make_181 (by decide) ?_
                refine lv_ladd hx hb dX10_make_182 ?_
                refine lv_topl (fun v638 ev638 => ?_)
                have hv638 := l_add (Eq.refl v637.toInt) (show (1 : Int64).toInt = 1 by decide) ev638 (by omega) (by omega)
                refine lv_lrem hx hb dX10_make_183 (l_nz (Eq.refl v638.toInt) (by omega)) ?_
                refine lv_topl (fun v639 ev639 => ?_)
                refine lv_aload hx hb dX10_make_184 (lv_at hl 4 rfl) ?_
                refine va_getN (D := D) (ci := 8) (v := .int x612) (C := RX8) (T := TX8) (N := 14) hx hb hg inGX8 hown hKN.1 hP p633 hk634 rfl 0 (by decide) (va_Nw.use rfl (hKN.2.1 _ kn_116 rfl)) (fun _ h9 => h9) rfl dX10_make_186 ?_
                refine lv_i2l (v := x612.toInt64) hx hb dX10_make_189 (rfl) ?_
                refine lv_lsub hx hb dX10_make_190 ?_
                refine lv_topl (fun v640 ev640 => ?_)
                refine lv_lstore (lv' := [(13, .long v640), (8, .long v610), (11, .long u604), (10, .int v315), (7, .ref b137), (6, .ref b49), (0, .ref p0), (1, .int p1), (2, .int p2), (3, .int p3), (4, .int p4), (5, .int p5)]) hx hb dX10_make_191 hl (by decide) rfl (fun ls hl => ?_)
                refine lv_aload hx hb dX10_make_193 (lv_at hl 4 rfl) ?_
                refine ok3 hT ht138 (fun p647 x641 x642 x643 a644 hk648 h645 h646 => ?_)
                refine va_getN (D := D) (ci := 7) (v := .ref a644) (C := RX7) (T := TX7) (N := 4) hx hb hg inGX7 hown hKN.1 hP p647 hk648 rfl 3 (by decide) (va_Nw.use rfl (hKN.2.1 _ kn_443 rfl)) (fun _ h9 => h9) rfl dX10_make_195 ?_
                refine lv_iload hx hb dX10_make_198 (lv_at hl 3 rfl) ?_
                refine lv_lload hx hb dX10_make_200 (lv_at hl 2 rfl) ?_
                refine lv_aload_n hx hb dX10_make_202 rfl (lv_at hl 6 rfl) ?_
                refine va_get (D := D) (ci := 10) (v := .ref a538) (C := RX10) (T := TX10) (N := 20) hx hb hg inGX10 hown hKN.1 hP p579 hk602 rfl 0 (by decide) (hg _ kw_349) (fun _ h9 => h9) rfl dX10_make_203 ?_
                refine lv_iload_n hx hb dX10_make_206 rfl (lv_at hl 8 rfl) ?_
                refine lv_iload hx hb dX10_make_207 (lv_at hl 3 rfl) ?_
                refine ok2 hT h558 (fun p683 x649 a650 x651 a652 x653 a654 a655 x656 a657 a658 x659 a660 x661 hk684 h662 h663 h664 h665 h666 h667 h668 h669 h670 h671 h672 h673 h674 h675 h676 h677 h678 h679 h680 h681 h682 => ?_)
                refine cga (rn_NV (As := [.int p2, .int v315]) (rest := [.long u604, .int v315, .ref a644]) (b := a538) (x_X6_dimming l D Y Z H.size w599 T g q 0 a538 p2 v315 hT h558) ⟨hx, hb, hml, hown, hg⟩ hKN lk_X10_226 ⟨CPC.blind, va_recv hKN.1 hP (ci := 6) (q0 := p683) rfl hk684, CPC.at hP hKN hD hSZ hS hA⟩ ⟨⟨rfl, rfl⟩, ⟨Nat.le_of_ble_eq_true rfl, Nat.le_of_ble_eq_true rfl⟩, ⟨(Nat.le_of_ble_eq_true rfl), (Nat.le_of_ble_eq_true rfl)⟩⟩ hl.1 rfl (Nat.le_of_ble_eq_true rfl) dX10_make_209) hP hD hS hA (fun u685 H locs hw686 hP hD hS => ?_)
                refine W.eq (g2 := F0 m 212 ls [.long u685, .long u604, .int v315, .ref a644]) rfl ?_
                refine lv_lsub hx hb dX10_make_212 ?_
                refine lv_topl (fun v688 ev688 => ?_)
                refine lv_lload hx hb dX10_make_213 (lv_at hl 0 rfl) ?_
                refine lv_ladd hx hb dX10_make_215 ?_
                refine lv_topl (fun v689 ev689 => ?_)
                refine lv_ldc2 (v := (-30000)) hx hb hown (hg _ kw_808) dX10_make_216 ?_
                refine lv_ldc2 (v := 30000) hx hb hown (hg _ kw_809) dX10_make_219 ?_
                have zlm30000 : ((-30000) : Int64).toInt = -30000 := by decide
                have zl30000 : (30000 : Int64).toInt = 30000 := by decide
                refine cg0 (rn_S (As := [.long v689, .long (-30000), .long 30000]) (rest := [.int v315, .ref a644]) (x_X10_held l D Y Z H.size v689 (-30000) 30000) ⟨hx, hb, hml, hown, hg⟩ lk_X10_209 ⟨CP.blind, CP.at nilP hKN (nilD (A := fun _ => True))⟩ ⟨⟨rfl, rfl⟩, ⟨Nat.le_of_ble_eq_true rfl, Nat.le_of_ble_eq_true rfl⟩, ⟨(Nat.le_of_ble_eq_true rfl), (Nat.le_of_ble_eq_true rfl)⟩⟩ hl.1 rfl (Nat.le_of_ble_eq_true rfl) dX10_make_222) hP hS hA (fun u690 H locs hw691 hP hS => ?_)
                have hw693 : (((-30000) : Int64).toInt ≤ (30000 : Int64).toInt → (((-30000) : Int64).toInt ≤ u690.toInt ∧ u690.toInt ≤ (30000 : Int64).toInt)) := hw691
                refine W.eq (g2 := F0 m 225 ls [.long u690, .int v315, .ref a644]) rfl ?_
                refine lv_l2i (v := u690.toInt32) hx hb dX10_make_225 rfl ?_
                refine lv_topi (fun v694 ev694 => ?_)
                have hv694 := l_i (Eq.refl u690.toInt) ev694 (by omega) (by omega)
                refine tr_st12 hx hb hKN hP hD hS hT h646 (vp_in_iff.mpr ⟨by omega, by omega⟩) dX10_make_226 (fun w695 H locs hP hD hS hT kp696 => ?_)
                have ke697 : KF 6 T ws w695 := KF.tr ke603 (KF.kp kp696 h646 (by decide))
                have hk698 := kp696 _ _ hk602 (rne ht0 h646 (by decide))
                have hk699 := kp696 _ _ hk634 (rne ht94 h646 (by decide))
                have hk700 := kp696 _ _ hk648 (rne ht138 h646 (by decide))
                have hk701 := kp696 _ _ hk684 (rne h558 h646 (by decide))
                obtain ⟨v702, ev702⟩ : ∃ y : Int32, y = v315 + 1 := ⟨_, rfl⟩
                have hv702 := i_add (Eq.refl v315.toInt) (show (1 : Int32).toInt = 1 by decide) ev702 (by omega) (by omega)
                refine lv_iinc (v := v702) (lv' := [(10, .int v702), (13, .long v640), (8, .long v610), (11, .long u604), (7, .ref b137), (6, .ref b49), (0, .ref p0), (1, .int p1), (2, .int p2), (3, .int p3), (4, .int p4), (5, .int p5)]) hx hb dX10_make_227 hl (k := 3) rfl (by rw [ev702]; rfl) (by decide) rfl (fun ls hl => ?_)
                refine lv_goto (tgt := 96) hx hb dX10_make_230 (by decide) ?_
                exact ih486 (v702, v610, w695) H locs ls (by show (600 - v702.toInt).toNat < (600 - v315.toInt).toNat; omega) ⟨hP, hD, hS, lv_sub hl [0, 2, 4, 5, 6, 7, 8, 9, 10, 11] rfl, hT, ke697, by omega⟩
            · skip
              have c156 := i_nle (Eq.refl p4.toInt) (Eq.refl p5.toInt) c156
              refine lv_iconst (v := (-1)) hx hb dX10_make_54 (by decide) ?_
              refine W.widen (k := 0) (n := 0) (Nat.le_of_ble_eq_true rfl) (Nat.le_of_ble_eq_true rfl) ?_
              have zim1 : ((-1) : Int32).toInt = -1 := by decide
              exact W.iret (v := (-1)) hx hb hr (fun t ht hW => ⟨⟨(((-1)), ws), rfl, ⟨hT, KF.rf⟩, CB.mk ht hP hD⟩, hS.F ht⟩) hS.2.2 dX10_make_55
          · obtain rfl : u149 = 0 := i_is c154 (by decide)
            have zi0 : (0 : Int32).toInt = 0 := by decide
            refine W.eq (g2 := F0 m 44 ls [.int 0]) rfl ?_
            refine lv_if_eq (tgt := 54) hx hb dX10_make_44 (by decide) (fun c703 => ?_) (fun c703 => ?_)
            rotate_left
            · exact absurd c703 (by decide)
            refine lv_iconst (v := (-1)) hx hb dX10_make_54 (by decide) ?_
            refine W.widen (k := 0) (n := 0) (Nat.le_of_ble_eq_true rfl) (Nat.le_of_ble_eq_true rfl) ?_
            have zim1 : ((-1) : Int32).toInt = -1 := by decide
            exact W.iret (v := (-1)) hx hb hr (fun t ht hW => ⟨⟨(((-1)), ws), rfl, ⟨hT, KF.rf⟩, CB.mk ht hP hD⟩, hS.F ht⟩) hS.2.2 dX10_make_55
        · obtain rfl : u142 = 0 := i_is c147 (by decide)
          have zi0 : (0 : Int32).toInt = 0 := by decide
          refine W.eq (g2 := F0 m 36 ls [.int 0]) rfl ?_
          refine lv_if_eq (tgt := 54) hx hb dX10_make_36 (by decide) (fun c704 => ?_) (fun c704 => ?_)
          rotate_left
          · exact absurd c704 (by decide)
          refine lv_iconst (v := (-1)) hx hb dX10_make_54 (by decide) ?_
          refine W.widen (k := 0) (n := 0) (Nat.le_of_ble_eq_true rfl) (Nat.le_of_ble_eq_true rfl) ?_
          have zim1 : ((-1) : Int32).toInt = -1 := by decide
          exact W.iret (v := (-1)) hx hb hr (fun t ht hW => ⟨⟨(((-1)), ws), rfl, ⟨hT, KF.rf⟩, CB.mk ht hP hD⟩, hS.F ht⟩) hS.2.2 dX10_make_55
set_option maxHeartbeats 4000000 in
set_option maxRecDepth 100000 in
theorem x_X10_tried (l : Launch) (D : va_G) (Y : Nat → ClassId) (Z : Nat → Nat) (sz : Nat) (ws : va_W) (T : RT) (g : GN) (q : GQ)  (p0 : Nat) (p1 : Int32) (p2 : Int32) (p3 : Int32) (p4 : Int32) (p5 : Int32) (p6 : Int32) (hT : TW Y Z T g q ws) (ht0 : T p0 = (1, 0, 0)) : Met l yX10_tried (.code yX10_tried cX10_tried 8 (some .long) :: GW) ({ frames := 4, cells := 0, slots := 0, locals := 101 }) (va_Pc [.ref p0, .int p1, .int p2, .int p3, .int p4, .int p5, .int p6] (CPC D Y Z ws sz)) (QG (S := Int64 × va_W) (fun u => some (.long u.1)) (fun u => TW Y Z T g q u.2 ∧ KF 1 T ws u.2 ∧ KF 6 T ws u.2) (fun u => CB D u.2 (va_A ws sz)) (va_A ws sz)) 0 0 (va_A ws sz) := by
  refine Met.ofW (cc := cX10_tried) (maxL := 8) (ret := (some .long)) (by decide) rfl ?_
  intro p e s m args below meth c s₁ B hml hv
  obtain ⟨rfl, ⟨hsz, hP, hKN, hD0⟩, hSZ⟩ := hv
  have hx := B.exec
  have hb := B.bytes
  have hr := B.returns
  have hts := atoms_spec (ws := .code yX10_tried cX10_tried 8 (some .long) :: GW) B.pre
  have hg : ∀ w ∈ GW, w.before _ s = true := fun w h => hts w (List.mem_cons_of_mem _ h)
  have hown : s.vm.findClass RX10 = some m.cls := findClass_of_methodNamed B.named
  have hlocks := B.notSynchronized
  subst hsz
  have hD := hD0.self (sz := s.heap.size)
  generalize hAe : va_A ws s.heap.size = A at hD hSZ ⊢
  have hA : ∀ q : Nat, s.heap.size ≤ q → A q := fun q h => by rw [← hAe]; exact Or.inr h
  clear hAe hD0 hts B
  have hl := lv_entry ([.ref p0, .int p1, .int p2, .int p3, .int p4, .int p5, .int p6]) (n := 8) (Nat.le_of_ble_eq_true rfl)
  rw [lg_entry_eq]
  generalize (lg_sl ([.ref p0, .int p1, .int p2, .int p3, .int p4, .int p5, .int p6]) ++ List.replicate (8 - (lg_sl ([.ref p0, .int p1, .int p2, .int p3, .int p4, .int p5, .int p6])).length) Slot.unset).toArray = ls at hl ⊢
  have hl : lv_has ls 8 [(0, .ref p0), (1, .int p1), (2, .int p2), (3, .int p3), (4, .int p4), (5, .int p5), (6, .int p6)] := hl
  refine w_start (A0 := A) hP (fun H locs hP hS => ?_)
  refine lv_iload_n hx hb dX10_tried_0 rfl (lv_at hl 3 rfl) ?_
  refine cg0 (rn_S (As := [.int p3]) (rest := []) (x_X10_isBeat l D Y Z H.size p3) ⟨hx, hb, hml, hown, hg⟩ lk_X10_234 ⟨CP.blind, CP.at nilP hKN (nilD (A := fun _ => True))⟩ ⟨⟨rfl, rfl⟩, ⟨Nat.le_of_ble_eq_true rfl, Nat.le_of_ble_eq_true rfl⟩, ⟨(Nat.le_of_ble_eq_true rfl), (Nat.le_of_ble_eq_true rfl)⟩⟩ hl.1 rfl (Nat.le_of_ble_eq_true rfl) dX10_tried_1) hP hS hA (fun u1 H locs hw2 hP hS => ?_)
  obtain ⟨hw4, hw5⟩ : ((2 ≤ p3.toInt ∧ p3.toInt ≤ 200 ∧ u1.toInt = 1) ∨ (¬ (2 ≤ p3.toInt ∧ p3.toInt ≤ 200) ∧ u1.toInt = 0)) ∧ (0 ≤ u1.toInt ∧ u1.toInt ≤ 1) := hw2
  refine W.eq (g2 := F0 m 4 ls [.int u1]) rfl ?_
  rcases (show u1.toInt = 1 ∨ u1.toInt = 0 by omega) with c6 | c6
  · obtain rfl : u1 = 1 := i_is c6 (by decide)
    have zi1 : (1 : Int32).toInt = 1 := by decide
    refine W.eq (g2 := F0 m 4 ls [.int 1]) rfl ?_
    refine lv_if_eq (tgt := 40) hx hb dX10_tried_4 (by decide) (fun c7 => ?_) (fun c7 => ?_)
    · exact absurd c7 (by decide)
    refine lv_iload hx hb dX10_tried_7 (lv_at hl 4 rfl) ?_
    refine lv_iconst (v := 1) hx hb dX10_tried_9 (by decide) ?_
    refine lv_bipush (v := 10) hx hb dX10_tried_10 (by decide) ?_
    have zi10 : (10 : Int32).toInt = 10 := by decide
    refine cg0 (rn_S (As := [.int p4, .int 1, .int 10]) (rest := []) (x_X10_isWithin l D Y Z H.size p4 1 10) ⟨hx, hb, hml, hown, hg⟩ lk_X10_100 ⟨CP.blind, CP.at nilP hKN (nilD (A := fun _ => True))⟩ ⟨⟨rfl, rfl⟩, ⟨Nat.le_of_ble_eq_true rfl, Nat.le_of_ble_eq_true rfl⟩, ⟨(Nat.le_of_ble_eq_true rfl), (Nat.le_of_ble_eq_true rfl)⟩⟩ hl.1 rfl (Nat.le_of_ble_eq_true rfl) dX10_tried_12) hP hS hA (fun u8 H locs hw9 hP hS => ?_)
    obtain ⟨hw11, hw12⟩ : (((1 : Int32).toInt ≤ p4.toInt ∧ p4.toInt ≤ (10 : Int32).toInt ∧ u8.toInt = 1) ∨ (¬ ((1 : Int32).toInt ≤ p4.toInt ∧ p4.toInt ≤ (10 : Int32).toInt) ∧ u8.toInt = 0)) ∧ (0 ≤ u8.toInt ∧ u8.toInt ≤ 1) := hw9
    refine W.eq (g2 := F0 m 15 ls [.int u8]) rfl ?_
    rcases (show u8.toInt = 1 ∨ u8.toInt = 0 by omega) with c13 | c13
    · obtain rfl : u8 = 1 := i_is c13 (by decide)
      refine W.eq (g2 := F0 m 15 ls [.int 1]) rfl ?_
      refine lv_if_eq (tgt := 40) hx hb dX10_tried_15 (by decide) (fun c14 => ?_) (fun c14 => ?_)
      · exact absurd c14 (by decide)
      refine lv_iload hx hb dX10_tried_18 (lv_at hl 4 rfl) ?_
      refine lv_iload_n hx hb dX10_tried_20 rfl (lv_at hl 3 rfl) ?_
      refine lv_icmp_ge (tgt := 40) hx hb dX10_tried_21 (by decide) (fun c15 => ?_) (fun c15 => ?_)
      · skip
        have c15 := i_le (Eq.refl p3.toInt) (Eq.refl p4.toInt) c15
        refine lv_iconst (v := 0) hx hb dX10_tried_40 (by decide) ?_
        refine lv_istore (lv' := [(7, .int 0), (0, .ref p0), (1, .int p1), (2, .int p2), (3, .int p3), (4, .int p4), (5, .int p5), (6, .int p6)]) hx hb dX10_tried_41 hl (by decide) rfl (fun ls hl => ?_)
        refine lv_aload_n hx hb dX10_tried_43 rfl (lv_at hl 1 rfl) ?_
        refine lv_iload_n hx hb dX10_tried_44 rfl (lv_at hl 2 rfl) ?_
        refine ok1 hT ht0 (fun p57 a16 a17 a18 a19 a20 x21 x22 x23 a24 a25 a26 a27 a28 a29 a30 a31 a32 x33 a34 a35 hk58 h36 h37 h38 h39 h40 h41 h42 h43 h44 h45 h46 h47 h48 h49 h50 h51 h52 h53 h54 h55 h56 => ?_)
        refine cga (rn_V (As := [.int p1]) (rest := []) (b := p0) (x_X10_isStar l D Y Z H.size ws T g q p0 p1 hT ht0) ⟨hx, hb, hml, hown, hg⟩ lk_X10_137 ⟨CPC.blind, va_recv hKN.1 hP (ci := 10) (q0 := p57) rfl hk58, CPC.at hP hKN hD hSZ hS hA⟩ ⟨⟨rfl, rfl⟩, ⟨Nat.le_of_ble_eq_true rfl, Nat.le_of_ble_eq_true rfl⟩, ⟨(Nat.le_of_ble_eq_true rfl), (Nat.le_of_ble_eq_true rfl)⟩⟩ hl.1 rfl (Nat.le_of_ble_eq_true rfl) dX10_tried_45) hP hD hS hA (fun u59 H locs hw60 hP hD hS => ?_)
        obtain ⟨hw62, hw63⟩ : (0 ≤ u59.toInt ∧ u59.toInt ≤ 1) ∧ (u59.toInt = 1 → (0 ≤ p1.toInt ∧ p1.toInt ≤ 11)) := hw60
        refine W.eq (g2 := F0 m 48 ls [.int u59]) rfl ?_
        rcases (show u59.toInt = 1 ∨ u59.toInt = 0 by omega) with c64 | c64
        · obtain rfl : u59 = 1 := i_is c64 (by decide)
          replace hw63 := hw63 (by decide)
          refine W.eq (g2 := F0 m 48 ls [.int 1]) rfl ?_
          refine lv_if_eq (tgt := 73) hx hb dX10_tried_48 (by decide) (fun c65 => ?_) (fun c65 => ?_)
          · exact absurd c65 (by decide)
          refine lv_iload_n hx hb dX10_tried_51 rfl (lv_at hl 3 rfl) ?_
          refine cg0 (rn_S (As := [.int p2]) (rest := []) (x_X10_isWay l D Y Z H.size p2) ⟨hx, hb, hml, hown, hg⟩ lk_X10_140 ⟨CP.blind, CP.at nilP hKN (nilD (A := fun _ => True))⟩ ⟨⟨rfl, rfl⟩, ⟨Nat.le_of_ble_eq_true rfl, Nat.le_of_ble_eq_true rfl⟩, ⟨(Nat.le_of_ble_eq_true rfl), (Nat.le_of_ble_eq_true rfl)⟩⟩ hl.1 rfl (Nat.le_of_ble_eq_true rfl) dX10_tried_52) hP hS hA (fun u66 H locs hw67 hP hS => ?_)
          obtain ⟨hw69, hw70⟩ : ((0 ≤ p2.toInt ∧ p2.toInt ≤ 5 ∧ u66.toInt = 1) ∨ (¬ (0 ≤ p2.toInt ∧ p2.toInt ≤ 5) ∧ u66.toInt = 0)) ∧ (0 ≤ u66.toInt ∧ u66.toInt ≤ 1) := hw67
          refine W.eq (g2 := F0 m 55 ls [.int u66]) rfl ?_
          rcases (show u66.toInt = 1 ∨ u66.toInt = 0 by omega) with c71 | c71
          · obtain rfl : u66 = 1 := i_is c71 (by decide)
            refine W.eq (g2 := F0 m 55 ls [.int 1]) rfl ?_
            refine lv_if_eq (tgt := 73) hx hb dX10_tried_55 (by decide) (fun c72 => ?_) (fun c72 => ?_)
            · exact absurd c72 (by decide)
            refine lv_iload hx hb dX10_tried_58 (lv_at hl 0 rfl) ?_
            refine lv_if_eq (tgt := 73) hx hb dX10_tried_60 (by decide) (fun c73 => ?_) (fun c73 => ?_)
            rotate_left
            · exact absurd c73 (by decide)
            refine lv_ldc2 (v := (-200000)) hx hb hown (hg _ kw_817) dX10_tried_73 ?_
            refine W.widen (k := 0) (n := 0) (Nat.le_of_ble_eq_true rfl) (Nat.le_of_ble_eq_true rfl) ?_
            have zlm200000 : ((-200000) : Int64).toInt = -200000 := by decide
            have zi0 : (0 : Int32).toInt = 0 := by decide
            exact W.lret (v := (-200000)) hx hb hr (fun t ht hW => ⟨⟨(((-200000)), ws), rfl, ⟨hT, KF.rf, KF.rf⟩, CB.mk ht hP hD⟩, hS.F ht⟩) hS.2.2 dX10_tried_76
          · obtain rfl : u66 = 0 := i_is c71 (by decide)
            have zi0 : (0 : Int32).toInt = 0 := by decide
            refine W.eq (g2 := F0 m 55 ls [.int 0]) rfl ?_
            refine lv_if_eq (tgt := 73) hx hb dX10_tried_55 (by decide) (fun c74 => ?_) (fun c74 => ?_)
            rotate_left
            · exact absurd c74 (by decide)
            refine lv_ldc2 (v := (-200000)) hx hb hown (hg _ kw_817) dX10_tried_73 ?_
            refine W.widen (k := 0) (n := 0) (Nat.le_of_ble_eq_true rfl) (Nat.le_of_ble_eq_true rfl) ?_
            have zlm200000 : ((-200000) : Int64).toInt = -200000 := by decide
            exact W.lret (v := (-200000)) hx hb hr (fun t ht hW => ⟨⟨(((-200000)), ws), rfl, ⟨hT, KF.rf, KF.rf⟩, CB.mk ht hP hD⟩, hS.F ht⟩) hS.2.2 dX10_tried_76
        · obtain rfl : u59 = 0 := i_is c64 (by decide)
          have zi0 : (0 : Int32).toInt = 0 := by decide
          clear hw63
          refine W.eq (g2 := F0 m 48 ls [.int 0]) rfl ?_
          refine lv_if_eq (tgt := 73) hx hb dX10_tried_48 (by decide) (fun c75 => ?_) (fun c75 => ?_)
          rotate_left
          · exact absurd c75 (by decide)
          refine lv_ldc2 (v := (-200000)) hx hb hown (hg _ kw_817) dX10_tried_73 ?_
          refine W.widen (k := 0) (n := 0) (Nat.le_of_ble_eq_true rfl) (Nat.le_of_ble_eq_true rfl) ?_
          have zlm200000 : ((-200000) : Int64).toInt = -200000 := by decide
          exact W.lret (v := (-200000)) hx hb hr (fun t ht hW => ⟨⟨(((-200000)), ws), rfl, ⟨hT, KF.rf, KF.rf⟩, CB.mk ht hP hD⟩, hS.F ht⟩) hS.2.2 dX10_tried_76
      · skip
        have c15 := i_nle (Eq.refl p3.toInt) (Eq.refl p4.toInt) c15
        refine lv_iload hx hb dX10_tried_24 (lv_at hl 5 rfl) ?_
        refine lv_iconst (v := 0) hx hb dX10_tried_26 (by decide) ?_
        refine lv_iload_n hx hb dX10_tried_27 rfl (lv_at hl 3 rfl) ?_
        refine lv_iconst (v := 1) hx hb dX10_tried_28 (by decide) ?_
        refine lv_isub hx hb dX10_tried_29 ?_
        refine lv_topi (fun v76 ev76 => ?_)
        have hv76 := i_sub (Eq.refl p3.toInt) (show (1 : Int32).toInt = 1 by decide) ev76 (by omega) (by omega)
        have zi0 : (0 : Int32).toInt = 0 := by decide
        refine cg0 (rn_S (As := [.int p5, .int 0, .int v76]) (rest := []) (x_X10_isWithin l D Y Z H.size p5 0 v76) ⟨hx, hb, hml, hown, hg⟩ lk_X10_100 ⟨CP.blind, CP.at nilP hKN (nilD (A := fun _ => True))⟩ ⟨⟨rfl, rfl⟩, ⟨Nat.le_of_ble_eq_true rfl, Nat.le_of_ble_eq_true rfl⟩, ⟨(Nat.le_of_ble_eq_true rfl), (Nat.le_of_ble_eq_true rfl)⟩⟩ hl.1 rfl (Nat.le_of_ble_eq_true rfl) dX10_tried_30) hP hS hA (fun u77 H locs hw78 hP hS => ?_)
        obtain ⟨hw80, hw81⟩ : (((0 : Int32).toInt ≤ p5.toInt ∧ p5.toInt ≤ v76.toInt ∧ u77.toInt = 1) ∨ (¬ ((0 : Int32).toInt ≤ p5.toInt ∧ p5.toInt ≤ v76.toInt) ∧ u77.toInt = 0)) ∧ (0 ≤ u77.toInt ∧ u77.toInt ≤ 1) := hw78
        refine W.eq (g2 := F0 m 33 ls [.int u77]) rfl ?_
        rcases (show u77.toInt = 1 ∨ u77.toInt = 0 by omega) with c82 | c82
        · obtain rfl : u77 = 1 := i_is c82 (by decide)
          refine W.eq (g2 := F0 m 33 ls [.int 1]) rfl ?_
          refine lv_if_eq (tgt := 40) hx hb dX10_tried_33 (by decide) (fun c83 => ?_) (fun c83 => ?_)
          · exact absurd c83 (by decide)
          refine lv_iconst (v := 1) hx hb dX10_tried_36 (by decide) ?_
          refine lv_goto (tgt := 41) hx hb dX10_tried_37 (by decide) ?_
          refine lv_istore (lv' := [(7, .int 1), (0, .ref p0), (1, .int p1), (2, .int p2), (3, .int p3), (4, .int p4), (5, .int p5), (6, .int p6)]) hx hb dX10_tried_41 hl (by decide) rfl (fun ls hl => ?_)
          refine lv_aload_n hx hb dX10_tried_43 rfl (lv_at hl 1 rfl) ?_
          refine lv_iload_n hx hb dX10_tried_44 rfl (lv_at hl 2 rfl) ?_
          refine ok1 hT ht0 (fun p125 a84 a85 a86 a87 a88 x89 x90 x91 a92 a93 a94 a95 a96 a97 a98 a99 a100 x101 a102 a103 hk126 h104 h105 h106 h107 h108 h109 h110 h111 h112 h113 h114 h115 h116 h117 h118 h119 h120 h121 h122 h123 h124 => ?_)
          refine cga (rn_V (As := [.int p1]) (rest := []) (b := p0) (x_X10_isStar l D Y Z H.size ws T g q p0 p1 hT ht0) ⟨hx, hb, hml, hown, hg⟩ lk_X10_137 ⟨CPC.blind, va_recv hKN.1 hP (ci := 10) (q0 := p125) rfl hk126, CPC.at hP hKN hD hSZ hS hA⟩ ⟨⟨rfl, rfl⟩, ⟨Nat.le_of_ble_eq_true rfl, Nat.le_of_ble_eq_true rfl⟩, ⟨(Nat.le_of_ble_eq_true rfl), (Nat.le_of_ble_eq_true rfl)⟩⟩ hl.1 rfl (Nat.le_of_ble_eq_true rfl) dX10_tried_45) hP hD hS hA (fun u127 H locs hw128 hP hD hS => ?_)
          obtain ⟨hw130, hw131⟩ : (0 ≤ u127.toInt ∧ u127.toInt ≤ 1) ∧ (u127.toInt = 1 → (0 ≤ p1.toInt ∧ p1.toInt ≤ 11)) := hw128
          refine W.eq (g2 := F0 m 48 ls [.int u127]) rfl ?_
          rcases (show u127.toInt = 1 ∨ u127.toInt = 0 by omega) with c132 | c132
          · obtain rfl : u127 = 1 := i_is c132 (by decide)
            replace hw131 := hw131 (by decide)
            refine W.eq (g2 := F0 m 48 ls [.int 1]) rfl ?_
            refine lv_if_eq (tgt := 73) hx hb dX10_tried_48 (by decide) (fun c133 => ?_) (fun c133 => ?_)
            · exact absurd c133 (by decide)
            refine lv_iload_n hx hb dX10_tried_51 rfl (lv_at hl 3 rfl) ?_
            refine cg0 (rn_S (As := [.int p2]) (rest := []) (x_X10_isWay l D Y Z H.size p2) ⟨hx, hb, hml, hown, hg⟩ lk_X10_140 ⟨CP.blind, CP.at nilP hKN (nilD (A := fun _ => True))⟩ ⟨⟨rfl, rfl⟩, ⟨Nat.le_of_ble_eq_true rfl, Nat.le_of_ble_eq_true rfl⟩, ⟨(Nat.le_of_ble_eq_true rfl), (Nat.le_of_ble_eq_true rfl)⟩⟩ hl.1 rfl (Nat.le_of_ble_eq_true rfl) dX10_tried_52) hP hS hA (fun u134 H locs hw135 hP hS => ?_)
            obtain ⟨hw137, hw138⟩ : ((0 ≤ p2.toInt ∧ p2.toInt ≤ 5 ∧ u134.toInt = 1) ∨ (¬ (0 ≤ p2.toInt ∧ p2.toInt ≤ 5) ∧ u134.toInt = 0)) ∧ (0 ≤ u134.toInt ∧ u134.toInt ≤ 1) := hw135
            refine W.eq (g2 := F0 m 55 ls [.int u134]) rfl ?_
            rcases (show u134.toInt = 1 ∨ u134.toInt = 0 by omega) with c139 | c139
            · obtain rfl : u134 = 1 := i_is c139 (by decide)
              refine W.eq (g2 := F0 m 55 ls [.int 1]) rfl ?_
              refine lv_if_eq (tgt := 73) hx hb dX10_tried_55 (by decide) (fun c140 => ?_) (fun c140 => ?_)
              · exact absurd c140 (by decide)
              refine lv_iload hx hb dX10_tried_58 (lv_at hl 0 rfl) ?_
              refine lv_if_eq (tgt := 73) hx hb dX10_tried_60 (by decide) (fun c141 => ?_) (fun c141 => ?_)
              · exact absurd c141 (by decide)
              refine lv_iload hx hb dX10_tried_63 (lv_at hl 7 rfl) ?_
              refine lv_iconst (v := 0) hx hb dX10_tried_65 (by decide) ?_
              refine lv_iconst (v := 4) hx hb dX10_tried_66 (by decide) ?_
              have zi4 : (4 : Int32).toInt = 4 := by decide
              refine cg0 (rn_S (As := [.int p6, .int 0, .int 4]) (rest := []) (x_X10_isWithin l D Y Z H.size p6 0 4) ⟨hx, hb, hml, hown, hg⟩ lk_X10_100 ⟨CP.blind, CP.at nilP hKN (nilD (A := fun _ => True))⟩ ⟨⟨rfl, rfl⟩, ⟨Nat.le_of_ble_eq_true rfl, Nat.le_of_ble_eq_true rfl⟩, ⟨(Nat.le_of_ble_eq_true rfl), (Nat.le_of_ble_eq_true rfl)⟩⟩ hl.1 rfl (Nat.le_of_ble_eq_true rfl) dX10_tried_67) hP hS hA (fun u142 H locs hw143 hP hS => ?_)
              obtain ⟨hw145, hw146⟩ : (((0 : Int32).toInt ≤ p6.toInt ∧ p6.toInt ≤ (4 : Int32).toInt ∧ u142.toInt = 1) ∨ (¬ ((0 : Int32).toInt ≤ p6.toInt ∧ p6.toInt ≤ (4 : Int32).toInt) ∧ u142.toInt = 0)) ∧ (0 ≤ u142.toInt ∧ u142.toInt ≤ 1) := hw143
              refine W.eq (g2 := F0 m 70 ls [.int u142]) rfl ?_
              rcases (show u142.toInt = 1 ∨ u142.toInt = 0 by omega) with c147 | c147
              · obtain rfl : u142 = 1 := i_is c147 (by decide)
                refine W.eq (g2 := F0 m 70 ls [.int 1]) rfl ?_
                refine lv_if_ne (tgt := 77) hx hb dX10_tried_70 (by decide) (fun c148 => ?_) (fun c148 => ?_)
                rotate_left
                · exact absurd c148 (by decide)
                refine lv_aload_n hx hb dX10_tried_77 rfl (lv_at hl 1 rfl) ?_
                refine va_get (D := D) (ci := 10) (v := .ref a94) (C := RX10) (T := TX10) (N := 20) hx hb hg inGX10 hown hKN.1 hP p125 hk126 rfl 10 (by decide) (hg _ kw_359) (fun _ h9 => h9) rfl dX10_tried_78 ?_
                refine lv_aload_n hx hb dX10_tried_81 rfl (lv_at hl 1 rfl) ?_
                refine va_get (D := D) (ci := 10) (v := .ref a84) (C := RX10) (T := TX10) (N := 20) hx hb hg inGX10 hown hKN.1 hP p125 hk126 rfl 0 (by decide) (hg _ kw_349) (fun _ h9 => h9) rfl dX10_tried_82 ?_
                refine lv_iload_n hx hb dX10_tried_85 rfl (lv_at hl 2 rfl) ?_
                refine lv_iload_n hx hb dX10_tried_86 rfl (lv_at hl 3 rfl) ?_
                refine ok9 hT h116 (fun p161 a149 a150 a151 x152 y153 y154 x155 y156 hk162 h157 h158 h159 h160 => ?_)
                refine cga (rn_NV (As := [.ref a84, .int p1, .int p2]) (rest := []) (b := a94) (x_X2_see l D Y Z H.size ws T g q 0 a94 a84 p1 p2 hT h116 h104) ⟨hx, hb, hml, hown, hg⟩ hKN lk_X10_143 ⟨CPC.blind, va_recv hKN.1 hP (ci := 2) (q0 := p161) rfl hk162, CPC.at hP hKN hD hSZ hS hA⟩ ⟨⟨rfl, rfl⟩, ⟨Nat.le_of_ble_eq_true rfl, Nat.le_of_ble_eq_true rfl⟩, ⟨(Nat.le_of_ble_eq_true rfl), (Nat.le_of_ble_eq_true rfl)⟩⟩ hl.1 rfl (Nat.le_of_ble_eq_true rfl) dX10_tried_87) hP hD hS hA (fun u163 H locs hw164 hP hD hS => ?_)
                obtain ⟨hT, ke166, ke167⟩ : TW Y Z T g q u163 ∧ KF 1 T ws u163 ∧ KF 6 T ws u163 := hw164
                have hk168 := ke166 _ _ hk126 (show (T p0).1 = 1 by rw [ht0])
                have ke169 : KF 1 T ws u163 := KF.tr KF.rf ke166
                have ke170 : KF 6 T ws u163 := KF.tr KF.rf ke167
                refine W.eq (g2 := F0 m 90 ls []) rfl ?_
                refine lv_aload_n hx hb dX10_tried_90 rfl (lv_at hl 1 rfl) ?_
                refine va_get (D := D) (ci := 10) (v := .ref a94) (C := RX10) (T := TX10) (N := 20) hx hb hg inGX10 hown hKN.1 hP p125 hk168 rfl 10 (by decide) (hg _ kw_359) (fun _ h9 => h9) rfl dX10_tried_91 ?_
                refine lv_iload_n hx hb dX10_tried_94 rfl (lv_at hl 4 rfl) ?_
                refine lv_iload hx hb dX10_tried_95 (lv_at hl 5 rfl) ?_
                refine lv_iload hx hb dX10_tried_97 (lv_at hl 6 rfl) ?_
                refine ok9 hT h116 (fun p183 a171 a172 a173 x174 y175 y176 x177 y178 hk184 h179 h180 h181 h182 => ?_)
                refine cga (rn_NV (As := [.int p3, .int p4, .int p5]) (rest := []) (b := a94) (x_X2_tally l D Y Z H.size u163 T g q a94 p3 p4 p5 hT h116) ⟨hx, hb, hml, hown, hg⟩ hKN lk_X10_239 ⟨CPC.blind, va_recv hKN.1 hP (ci := 2) (q0 := p183) rfl hk184, CPC.at hP hKN hD hSZ hS hA⟩ ⟨⟨rfl, rfl⟩, ⟨Nat.le_of_ble_eq_true rfl, Nat.le_of_ble_eq_true rfl⟩, ⟨(Nat.le_of_ble_eq_true rfl), (Nat.le_of_ble_eq_true rfl)⟩⟩ hl.1 rfl (Nat.le_of_ble_eq_true rfl) dX10_tried_99) hP hD hS hA (fun u185 H locs hw186 hP hD hS => ?_)
                obtain ⟨hT, ke188, ke189⟩ : TW Y Z T g q u185 ∧ KF 1 T u163 u185 ∧ KF 6 T u163 u185 := hw186
                have hk190 := ke188 _ _ hk168 (show (T p0).1 = 1 by rw [ht0])
                have ke191 : KF 1 T ws u185 := KF.tr ke169 ke188
                have ke192 : KF 6 T ws u185 := KF.tr ke170 ke189
                refine W.eq (g2 := F0 m 102 ls []) rfl ?_
                refine lv_iload hx hb dX10_tried_102 (lv_at hl 7 rfl) ?_
                rcases (show 3 < p6.toInt ∨ p6.toInt = 0 ∨ p6.toInt = 1 ∨ p6.toInt = 2 ∨ p6.toInt = 3 by omega) with c193 | c193 | c193 | c193 | c193
                · refine lv_tableOut (tgt := 184) hx hb dX10_tried_104 (Or.inr c193) (by decide) ?_
                  refine lv_aload_n hx hb dX10_tried_184 rfl (lv_at hl 1 rfl) ?_
                  refine va_get (D := D) (ci := 10) (v := .ref a94) (C := RX10) (T := TX10) (N := 20) hx hb hg inGX10 hown hKN.1 hP p125 hk190 rfl 10 (by decide) (hg _ kw_359) (fun _ h9 => h9) rfl dX10_tried_185 ?_
                  refine ok9 hT h116 (fun p206 a194 a195 a196 x197 y198 y199 x200 y201 hk207 h202 h203 h204 h205 => ?_)
                  refine cga (rn_NV (As := []) (rest := []) (b := a94) (x_X2_score l D Y Z H.size u185 T g q a94 hT h116) ⟨hx, hb, hml, hown, hg⟩ hKN lk_X10_256 ⟨CPC.blind, va_recv hKN.1 hP (ci := 2) (q0 := p206) rfl hk207, CPC.at hP hKN hD hSZ hS hA⟩ ⟨⟨rfl, rfl⟩, ⟨Nat.le_of_ble_eq_true rfl, Nat.le_of_ble_eq_true rfl⟩, ⟨(Nat.le_of_ble_eq_true rfl), (Nat.le_of_ble_eq_true rfl)⟩⟩ hl.1 rfl (Nat.le_of_ble_eq_true rfl) dX10_tried_188) hP hD hS hA (fun u208 H locs hw209 hP hD hS => ?_)
                  refine W.eq (g2 := F0 m 191 ls [.long u208]) rfl ?_
                  refine W.widen (k := 0) (n := 0) (Nat.le_of_ble_eq_true rfl) (Nat.le_of_ble_eq_true rfl) ?_
                  exact W.lret (v := u208) hx hb hr (fun t ht hW => ⟨⟨(u208, u185), rfl, ⟨hT, ke191, ke192⟩, CB.mk ht hP hD⟩, hS.F ht⟩) hS.2.2 dX10_tried_191
                · refine lv_tableIn (off := 32) (tgt := 136) hx hb dX10_tried_104 (by rw [c193]; decide) (by rw [c193]; decide) (by rw [c193]; rfl) (by decide) ?_
                  refine lv_aload_n hx hb dX10_tried_136 rfl (lv_at hl 1 rfl) ?_
                  refine va_get (D := D) (ci := 10) (v := .ref a94) (C := RX10) (T := TX10) (N := 20) hx hb hg inGX10 hown hKN.1 hP p125 hk190 rfl 10 (by decide) (hg _ kw_359) (fun _ h9 => h9) rfl dX10_tried_137 ?_
                  refine ok9 hT h116 (fun p223 a211 a212 a213 x214 y215 y216 x217 y218 hk224 h219 h220 h221 h222 => ?_)
                  refine va_getN (D := D) (ci := 2) (v := .int x217) (C := RX2) (T := TX2) (N := 8) hx hb hg inGX2 hown hKN.1 hP p223 hk224 rfl 6 (by decide) (va_Nw.use rfl (hKN.2.1 _ kn_249 rfl)) (fun _ h9 => h9) rfl dX10_tried_140 ?_
                  have j225 := rgI x217
                  have j226 := Int32.toInt_toInt64 x217
                  refine lv_i2l (v := x217.toInt64) hx hb dX10_tried_143 (rfl) ?_
                  refine W.widen (k := 0) (n := 0) (Nat.le_of_ble_eq_true rfl) (Nat.le_of_ble_eq_true rfl) ?_
                  exact W.lret (v := x217.toInt64) hx hb hr (fun t ht hW => ⟨⟨(x217.toInt64, u185), rfl, ⟨hT, ke191, ke192⟩, CB.mk ht hP hD⟩, hS.F ht⟩) hS.2.2 dX10_tried_144
                · refine lv_tableIn (off := 41) (tgt := 145) hx hb dX10_tried_104 (by rw [c193]; decide) (by rw [c193]; decide) (by rw [c193]; rfl) (by decide) ?_
                  refine lv_aload_n hx hb dX10_tried_145 rfl (lv_at hl 1 rfl) ?_
                  refine va_get (D := D) (ci := 10) (v := .ref a94) (C := RX10) (T := TX10) (N := 20) hx hb hg inGX10 hown hKN.1 hP p125 hk190 rfl 10 (by decide) (hg _ kw_359) (fun _ h9 => h9) rfl dX10_tried_146 ?_
                  refine ok9 hT h116 (fun p239 a227 a228 a229 x230 y231 y232 x233 y234 hk240 h235 h236 h237 h238 => ?_)
                  refine va_getN (D := D) (ci := 2) (v := .int x230) (C := RX2) (T := TX2) (N := 8) hx hb hg inGX2 hown hKN.1 hP p239 hk240 rfl 3 (by decide) (va_Nw.use rfl (hKN.2.1 _ kn_243 rfl)) (fun _ h9 => h9) rfl dX10_tried_149 ?_
                  refine lv_aload_n hx hb dX10_tried_152 rfl (lv_at hl 1 rfl) ?_
                  refine va_get (D := D) (ci := 10) (v := .ref a94) (C := RX10) (T := TX10) (N := 20) hx hb hg inGX10 hown hKN.1 hP p125 hk190 rfl 10 (by decide) (hg _ kw_359) (fun _ h9 => h9) rfl dX10_tried_153 ?_
                  refine va_getN (D := D) (ci := 2) (v := .int x233) (C := RX2) (T := TX2) (N := 8) hx hb hg inGX2 hown hKN.1 hP p239 hk240 rfl 6 (by decide) (va_Nw.use rfl (hKN.2.1 _ kn_249 rfl)) (fun _ h9 => h9) rfl dX10_tried_156 ?_
                  refine lv_isub hx hb dX10_tried_159 ?_
                  refine lv_topi (fun v241 ev241 => ?_)
                  have j242 := rgI v241
                  have j243 := Int32.toInt_toInt64 v241
                  refine lv_i2l (v := v241.toInt64) hx hb dX10_tried_160 (rfl) ?_
                  refine W.widen (k := 0) (n := 0) (Nat.le_of_ble_eq_true rfl) (Nat.le_of_ble_eq_true rfl) ?_
                  exact W.lret (v := v241.toInt64) hx hb hr (fun t ht hW => ⟨⟨(v241.toInt64, u185), rfl, ⟨hT, ke191, ke192⟩, CB.mk ht hP hD⟩, hS.F ht⟩) hS.2.2 dX10_tried_161
                · refine lv_tableIn (off := 58) (tgt := 162) hx hb dX10_tried_104 (by rw [c193]; decide) (by rw [c193]; decide) (by rw [c193]; rfl) (by decide) ?_
                  refine lv_aload_n hx hb dX10_tried_162 rfl (lv_at hl 1 rfl) ?_
                  refine va_get (D := D) (ci := 10) (v := .ref a94) (C := RX10) (T := TX10) (N := 20) hx hb hg inGX10 hown hKN.1 hP p125 hk190 rfl 10 (by decide) (hg _ kw_359) (fun _ h9 => h9) rfl dX10_tried_163 ?_
                  refine ok9 hT h116 (fun p256 a244 a245 a246 x247 y248 y249 x250 y251 hk257 h252 h253 h254 h255 => ?_)
                  refine cga (rn_NV (As := []) (rest := []) (b := a94) (x_X2_deep l D Y Z H.size u185 T g q a94 hT h116) ⟨hx, hb, hml, hown, hg⟩ hKN lk_X10_249 ⟨CPC.blind, va_recv hKN.1 hP (ci := 2) (q0 := p256) rfl hk257, CPC.at hP hKN hD hSZ hS hA⟩ ⟨⟨rfl, rfl⟩, ⟨Nat.le_of_ble_eq_true rfl, Nat.le_of_ble_eq_true rfl⟩, ⟨(Nat.le_of_ble_eq_true rfl), (Nat.le_of_ble_eq_true rfl)⟩⟩ hl.1 rfl (Nat.le_of_ble_eq_true rfl) dX10_tried_166) hP hD hS hA (fun u258 H locs hw259 hP hD hS => ?_)
                  refine W.eq (g2 := F0 m 169 ls [.long u258]) rfl ?_
                  refine W.widen (k := 0) (n := 0) (Nat.le_of_ble_eq_true rfl) (Nat.le_of_ble_eq_true rfl) ?_
                  exact W.lret (v := u258) hx hb hr (fun t ht hW => ⟨⟨(u258, u185), rfl, ⟨hT, ke191, ke192⟩, CB.mk ht hP hD⟩, hS.F ht⟩) hS.2.2 dX10_tried_169
                · refine lv_tableIn (off := 66) (tgt := 170) hx hb dX10_tried_104 (by rw [c193]; decide) (by rw [c193]; decide) (by rw [c193]; rfl) (by decide) ?_
                  refine lv_aload_n hx hb dX10_tried_170 rfl (lv_at hl 1 rfl) ?_
                  refine va_get (D := D) (ci := 10) (v := .ref a94) (C := RX10) (T := TX10) (N := 20) hx hb hg inGX10 hown hKN.1 hP p125 hk190 rfl 10 (by decide) (hg _ kw_359) (fun _ h9 => h9) rfl dX10_tried_171 ?_
                  refine lv_iload_n hx hb dX10_tried_174 rfl (lv_at hl 4 rfl) ?_
                  refine lv_iload hx hb dX10_tried_175 (lv_at hl 5 rfl) ?_
                  refine lv_iload hx hb dX10_tried_177 (lv_at hl 6 rfl) ?_
                  refine ok9 hT h116 (fun p273 a261 a262 a263 x264 y265 y266 x267 y268 hk274 h269 h270 h271 h272 => ?_)
                  refine cga (rn_NV (As := [.int p3, .int p4, .int p5]) (rest := []) (b := a94) (x_X2_dips l D Y Z H.size u185 T g q a94 p3 p4 p5 hT h116 (show (p3.toInt ≤ 200) by omega)) ⟨hx, hb, hml, hown, hg⟩ hKN lk_X10_253 ⟨CPC.blind, va_recv hKN.1 hP (ci := 2) (q0 := p273) rfl hk274, CPC.at hP hKN hD hSZ hS hA⟩ ⟨⟨rfl, rfl⟩, ⟨Nat.le_of_ble_eq_true rfl, Nat.le_of_ble_eq_true rfl⟩, ⟨(Nat.le_of_ble_eq_true rfl), (Nat.le_of_ble_eq_true rfl)⟩⟩ hl.1 rfl (Nat.le_of_ble_eq_true rfl) dX10_tried_179) hP hD hS hA (fun u275 H locs hw276 hP hD hS => ?_)
                  refine W.eq (g2 := F0 m 182 ls [.int u275]) rfl ?_
                  have j278 := rgI u275
                  have j279 := Int32.toInt_toInt64 u275
                  refine lv_i2l (v := u275.toInt64) hx hb dX10_tried_182 (rfl) ?_
                  refine W.widen (k := 0) (n := 0) (Nat.le_of_ble_eq_true rfl) (Nat.le_of_ble_eq_true rfl) ?_
                  exact W.lret (v := u275.toInt64) hx hb hr (fun t ht hW => ⟨⟨(u275.toInt64, u185), rfl, ⟨hT, ke191, ke192⟩, CB.mk ht hP hD⟩, hS.F ht⟩) hS.2.2 dX10_tried_183
              · obtain rfl : u142 = 0 := i_is c147 (by decide)
                refine W.eq (g2 := F0 m 70 ls [.int 0]) rfl ?_
                refine lv_if_ne (tgt := 77) hx hb dX10_tried_70 (by decide) (fun c280 => ?_) (fun c280 => ?_)
                · exact absurd c280 (by decide)
                refine lv_ldc2 (v := (-200000)) hx hb hown (hg _ kw_817) dX10_tried_73 ?_
                refine W.widen (k := 0) (n := 0) (Nat.le_of_ble_eq_true rfl) (Nat.le_of_ble_eq_true rfl) ?_
                have zlm200000 : ((-200000) : Int64).toInt = -200000 := by decide
                exact W.lret (v := (-200000)) hx hb hr (fun t ht hW => ⟨⟨(((-200000)), ws), rfl, ⟨hT, KF.rf, KF.rf⟩, CB.mk ht hP hD⟩, hS.F ht⟩) hS.2.2 dX10_tried_76
            · obtain rfl : u134 = 0 := i_is c139 (by decide)
              refine W.eq (g2 := F0 m 55 ls [.int 0]) rfl ?_
              refine lv_if_eq (tgt := 73) hx hb dX10_tried_55 (by decide) (fun c281 => ?_) (fun c281 => ?_)
              rotate_left
              · exact absurd c281 (by decide)
              refine lv_ldc2 (v := (-200000)) hx hb hown (hg _ kw_817) dX10_tried_73 ?_
              refine W.widen (k := 0) (n := 0) (Nat.le_of_ble_eq_true rfl) (Nat.le_of_ble_eq_true rfl) ?_
              have zlm200000 : ((-200000) : Int64).toInt = -200000 := by decide
              exact W.lret (v := (-200000)) hx hb hr (fun t ht hW => ⟨⟨(((-200000)), ws), rfl, ⟨hT, KF.rf, KF.rf⟩, CB.mk ht hP hD⟩, hS.F ht⟩) hS.2.2 dX10_tried_76
          · obtain rfl : u127 = 0 := i_is c132 (by decide)
            clear hw131
            refine W.eq (g2 := F0 m 48 ls [.int 0]) rfl ?_
            refine lv_if_eq (tgt := 73) hx hb dX10_tried_48 (by decide) (fun c282 => ?_) (fun c282 => ?_)
            rotate_left
            · exact absurd c282 (by decide)
            refine lv_ldc2 (v := (-200000)) hx hb hown (hg _ kw_817) dX10_tried_73 ?_
            refine W.widen (k := 0) (n := 0) (Nat.le_of_ble_eq_true rfl) (Nat.le_of_ble_eq_true rfl) ?_
            have zlm200000 : ((-200000) : Int64).toInt = -200000 := by decide
            exact W.lret (v := (-200000)) hx hb hr (fun t ht hW => ⟨⟨(((-200000)), ws), rfl, ⟨hT, KF.rf, KF.rf⟩, CB.mk ht hP hD⟩, hS.F ht⟩) hS.2.2 dX10_tried_76
        · obtain rfl : u77 = 0 := i_is c82 (by decide)
          refine W.eq (g2 := F0 m 33 ls [.int 0]) rfl ?_
          refine lv_if_eq (tgt := 40) hx hb dX10_tried_33 (by decide) (fun c283 => ?_) (fun c283 => ?_)
          rotate_left
          · exact absurd c283 (by decide)
          refine lv_iconst (v := 0) hx hb dX10_tried_40 (by decide) ?_
          refine lv_istore (lv' := [(7, .int 0), (0, .ref p0), (1, .int p1), (2, .int p2), (3, .int p3), (4, .int p4), (5, .int p5), (6, .int p6)]) hx hb dX10_tried_41 hl (by decide) rfl (fun ls hl => ?_)
          refine lv_aload_n hx hb dX10_tried_43 rfl (lv_at hl 1 rfl) ?_
          refine lv_iload_n hx hb dX10_tried_44 rfl (lv_at hl 2 rfl) ?_
          refine ok1 hT ht0 (fun p325 a284 a285 a286 a287 a288 x289 x290 x291 a292 a293 a294 a295 a296 a297 a298 a299 a300 x301 a302 a303 hk326 h304 h305 h306 h307 h308 h309 h310 h311 h312 h313 h314 h315 h316 h317 h318 h319 h320 h321 h322 h323 h324 => ?_)
          refine cga (rn_V (As := [.int p1]) (rest := []) (b := p0) (x_X10_isStar l D Y Z H.size ws T g q p0 p1 hT ht0) ⟨hx, hb, hml, hown, hg⟩ lk_X10_137 ⟨CPC.blind, va_recv hKN.1 hP (ci := 10) (q0 := p325) rfl hk326, CPC.at hP hKN hD hSZ hS hA⟩ ⟨⟨rfl, rfl⟩, ⟨Nat.le_of_ble_eq_true rfl, Nat.le_of_ble_eq_true rfl⟩, ⟨(Nat.le_of_ble_eq_true rfl), (Nat.le_of_ble_eq_true rfl)⟩⟩ hl.1 rfl (Nat.le_of_ble_eq_true rfl) dX10_tried_45) hP hD hS hA (fun u327 H locs hw328 hP hD hS => ?_)
          obtain ⟨hw330, hw331⟩ : (0 ≤ u327.toInt ∧ u327.toInt ≤ 1) ∧ (u327.toInt = 1 → (0 ≤ p1.toInt ∧ p1.toInt ≤ 11)) := hw328
          refine W.eq (g2 := F0 m 48 ls [.int u327]) rfl ?_
          rcases (show u327.toInt = 1 ∨ u327.toInt = 0 by omega) with c332 | c332
          · obtain rfl : u327 = 1 := i_is c332 (by decide)
            replace hw331 := hw331 (by decide)
            refine W.eq (g2 := F0 m 48 ls [.int 1]) rfl ?_
            refine lv_if_eq (tgt := 73) hx hb dX10_tried_48 (by decide) (fun c333 => ?_) (fun c333 => ?_)
            · exact absurd c333 (by decide)
            refine lv_iload_n hx hb dX10_tried_51 rfl (lv_at hl 3 rfl) ?_
            refine cg0 (rn_S (As := [.int p2]) (rest := []) (x_X10_isWay l D Y Z H.size p2) ⟨hx, hb, hml, hown, hg⟩ lk_X10_140 ⟨CP.blind, CP.at nilP hKN (nilD (A := fun _ => True))⟩ ⟨⟨rfl, rfl⟩, ⟨Nat.le_of_ble_eq_true rfl, Nat.le_of_ble_eq_true rfl⟩, ⟨(Nat.le_of_ble_eq_true rfl), (Nat.le_of_ble_eq_true rfl)⟩⟩ hl.1 rfl (Nat.le_of_ble_eq_true rfl) dX10_tried_52) hP hS hA (fun u334 H locs hw335 hP hS => ?_)
            obtain ⟨hw337, hw338⟩ : ((0 ≤ p2.toInt ∧ p2.toInt ≤ 5 ∧ u334.toInt = 1) ∨ (¬ (0 ≤ p2.toInt ∧ p2.toInt ≤ 5) ∧ u334.toInt = 0)) ∧ (0 ≤ u334.toInt ∧ u334.toInt ≤ 1) := hw335
            refine W.eq (g2 := F0 m 55 ls [.int u334]) rfl ?_
            rcases (show u334.toInt = 1 ∨ u334.toInt = 0 by omega) with c339 | c339
            · obtain rfl : u334 = 1 := i_is c339 (by decide)
              refine W.eq (g2 := F0 m 55 ls [.int 1]) rfl ?_
              refine lv_if_eq (tgt := 73) hx hb dX10_tried_55 (by decide) (fun c340 => ?_) (fun c340 => ?_)
              · exact absurd c340 (by decide)
              refine lv_iload hx hb dX10_tried_58 (lv_at hl 0 rfl) ?_
              refine lv_if_eq (tgt := 73) hx hb dX10_tried_60 (by decide) (fun c341 => ?_) (fun c341 => ?_)
              rotate_left
              · exact absurd c341 (by decide)
              refine lv_ldc2 (v := (-200000)) hx hb hown (hg _ kw_817) dX10_tried_73 ?_
              refine W.widen (k := 0) (n := 0) (Nat.le_of_ble_eq_true rfl) (Nat.le_of_ble_eq_true rfl) ?_
              have zlm200000 : ((-200000) : Int64).toInt = -200000 := by decide
              exact W.lret (v := (-200000)) hx hb hr (fun t ht hW => ⟨⟨(((-200000)), ws), rfl, ⟨hT, KF.rf, KF.rf⟩, CB.mk ht hP hD⟩, hS.F ht⟩) hS.2.2 dX10_tried_76
            · obtain rfl : u334 = 0 := i_is c339 (by decide)
              refine W.eq (g2 := F0 m 55 ls [.int 0]) rfl ?_
              refine lv_if_eq (tgt := 73) hx hb dX10_tried_55 (by decide) (fun c342 => ?_) (fun c342 => ?_)
              rotate_left
              · exact absurd c342 (by decide)
              refine lv_ldc2 (v := (-200000)) hx hb hown (hg _ kw_817) dX10_tried_73 ?_
              refine W.widen (k := 0) (n := 0) (Nat.le_of_ble_eq_true rfl) (Nat.le_of_ble_eq_true rfl) ?_
              have zlm200000 : ((-200000) : Int64).toInt = -200000 := by decide
              exact W.lret (v := (-200000)) hx hb hr (fun t ht hW => ⟨⟨(((-200000)), ws), rfl, ⟨hT, KF.rf, KF.rf⟩, CB.mk ht hP hD⟩, hS.F ht⟩) hS.2.2 dX10_tried_76
          · obtain rfl : u327 = 0 := i_is c332 (by decide)
            clear hw331
            refine W.eq (g2 := F0 m 48 ls [.int 0]) rfl ?_
            refine lv_if_eq (tgt := 73) hx hb dX10_tried_48 (by decide) (fun c343 => ?_) (fun c343 => ?_)
            rotate_left
            · exact absurd c343 (by decide)
            refine lv_ldc2 (v := (-200000)) hx hb hown (hg _ kw_817) dX10_tried_73 ?_
            refine W.widen (k := 0) (n := 0) (Nat.le_of_ble_eq_true rfl) (Nat.le_of_ble_eq_true rfl) ?_
            have zlm200000 : ((-200000) : Int64).toInt = -200000 := by decide
            exact W.lret (v := (-200000)) hx hb hr (fun t ht hW => ⟨⟨(((-200000)), ws), rfl, ⟨hT, KF.rf, KF.rf⟩, CB.mk ht hP hD⟩, hS.F ht⟩) hS.2.2 dX10_tried_76
    · obtain rfl : u8 = 0 := i_is c13 (by decide)
      have zi0 : (0 : Int32).toInt = 0 := by decide
      refine W.eq (g2 := F0 m 15 ls [.int 0]) rfl ?_
      refine lv_if_eq (tgt := 40) hx hb dX10_tried_15 (by decide) (fun c344 => ?_) (fun c344 => ?_)
      rotate_left
      · exact absurd c344 (by decide)
      refine lv_iconst (v := 0) hx hb dX10_tried_40 (by decide) ?_
      refine lv_istore (lv' := [(7, .int 0), (0, .ref p0), (1, .int p1), (2, .int p2), (3, .int p3), (4, .int p4), (5, .int p5), (6, .int p6)]) hx hb dX10_tried_41 hl (by decide) rfl (fun ls hl => ?_)
      refine lv_aload_n hx hb dX10_tried_43 rfl (lv_at hl 1 rfl) ?_
      refine lv_iload_n hx hb dX10_tried_44 rfl (lv_at hl 2 rfl) ?_
      refine ok1 hT ht0 (fun p386 a345 a346 a347 a348 a349 x350 x351 x352 a353 a354 a355 a356 a357 a358 a359 a360 a361 x362 a363 a364 hk387 h365 h366 h367 h368 h369 h370 h371 h372 h373 h374 h375 h376 h377 h378 h379 h380 h381 h382 h383 h384 h385 => ?_)
      refine cga (rn_V (As := [.int p1]) (rest := []) (b := p0) (x_X10_isStar l D Y Z H.size ws T g q p0 p1 hT ht0) ⟨hx, hb, hml, hown, hg⟩ lk_X10_137 ⟨CPC.blind, va_recv hKN.1 hP (ci := 10) (q0 := p386) rfl hk387, CPC.at hP hKN hD hSZ hS hA⟩ ⟨⟨rfl, rfl⟩, ⟨Nat.le_of_ble_eq_true rfl, Nat.le_of_ble_eq_true rfl⟩, ⟨(Nat.le_of_ble_eq_true rfl), (Nat.le_of_ble_eq_true rfl)⟩⟩ hl.1 rfl (Nat.le_of_ble_eq_true rfl) dX10_tried_45) hP hD hS hA (fun u388 H locs hw389 hP hD hS => ?_)
      obtain ⟨hw391, hw392⟩ : (0 ≤ u388.toInt ∧ u388.toInt ≤ 1) ∧ (u388.toInt = 1 → (0 ≤ p1.toInt ∧ p1.toInt ≤ 11)) := hw389
      refine W.eq (g2 := F0 m 48 ls [.int u388]) rfl ?_
      rcases (show u388.toInt = 1 ∨ u388.toInt = 0 by omega) with c393 | c393
      · obtain rfl : u388 = 1 := i_is c393 (by decide)
        replace hw392 := hw392 (by decide)
        refine W.eq (g2 := F0 m 48 ls [.int 1]) rfl ?_
        refine lv_if_eq (tgt := 73) hx hb dX10_tried_48 (by decide) (fun c394 => ?_) (fun c394 => ?_)
        · exact absurd c394 (by decide)
        refine lv_iload_n hx hb dX10_tried_51 rfl (lv_at hl 3 rfl) ?_
        refine cg0 (rn_S (As := [.int p2]) (rest := []) (x_X10_isWay l D Y Z H.size p2) ⟨hx, hb, hml, hown, hg⟩ lk_X10_140 ⟨CP.blind, CP.at nilP hKN (nilD (A := fun _ => True))⟩ ⟨⟨rfl, rfl⟩, ⟨Nat.le_of_ble_eq_true rfl, Nat.le_of_ble_eq_true rfl⟩, ⟨(Nat.le_of_ble_eq_true rfl), (Nat.le_of_ble_eq_true rfl)⟩⟩ hl.1 rfl (Nat.le_of_ble_eq_true rfl) dX10_tried_52) hP hS hA (fun u395 H locs hw396 hP hS => ?_)
        obtain ⟨hw398, hw399⟩ : ((0 ≤ p2.toInt ∧ p2.toInt ≤ 5 ∧ u395.toInt = 1) ∨ (¬ (0 ≤ p2.toInt ∧ p2.toInt ≤ 5) ∧ u395.toInt = 0)) ∧ (0 ≤ u395.toInt ∧ u395.toInt ≤ 1) := hw396
        refine W.eq (g2 := F0 m 55 ls [.int u395]) rfl ?_
        rcases (show u395.toInt = 1 ∨ u395.toInt = 0 by omega) with c400 | c400
        · obtain rfl : u395 = 1 := i_is c400 (by decide)
          refine W.eq (g2 := F0 m 55 ls [.int 1]) rfl ?_
          refine lv_if_eq (tgt := 73) hx hb dX10_tried_55 (by decide) (fun c401 => ?_) (fun c401 => ?_)
          · exact absurd c401 (by decide)
          refine lv_iload hx hb dX10_tried_58 (lv_at hl 0 rfl) ?_
          refine lv_if_eq (tgt := 73) hx hb dX10_tried_60 (by decide) (fun c402 => ?_) (fun c402 => ?_)
          rotate_left
          · exact absurd c402 (by decide)
          refine lv_ldc2 (v := (-200000)) hx hb hown (hg _ kw_817) dX10_tried_73 ?_
          refine W.widen (k := 0) (n := 0) (Nat.le_of_ble_eq_true rfl) (Nat.le_of_ble_eq_true rfl) ?_
          have zlm200000 : ((-200000) : Int64).toInt = -200000 := by decide
          exact W.lret (v := (-200000)) hx hb hr (fun t ht hW => ⟨⟨(((-200000)), ws), rfl, ⟨hT, KF.rf, KF.rf⟩, CB.mk ht hP hD⟩, hS.F ht⟩) hS.2.2 dX10_tried_76
        · obtain rfl : u395 = 0 := i_is c400 (by decide)
          refine W.eq (g2 := F0 m 55 ls [.int 0]) rfl ?_
          refine lv_if_eq (tgt := 73) hx hb dX10_tried_55 (by decide) (fun c403 => ?_) (fun c403 => ?_)
          rotate_left
          · exact absurd c403 (by decide)
          refine lv_ldc2 (v := (-200000)) hx hb hown (hg _ kw_817) dX10_tried_73 ?_
          refine W.widen (k := 0) (n := 0) (Nat.le_of_ble_eq_true rfl) (Nat.le_of_ble_eq_true rfl) ?_
          have zlm200000 : ((-200000) : Int64).toInt = -200000 := by decide
          exact W.lret (v := (-200000)) hx hb hr (fun t ht hW => ⟨⟨(((-200000)), ws), rfl, ⟨hT, KF.rf, KF.rf⟩, CB.mk ht hP hD⟩, hS.F ht⟩) hS.2.2 dX10_tried_76
      · obtain rfl : u388 = 0 := i_is c393 (by decide)
        clear hw392
        refine W.eq (g2 := F0 m 48 ls [.int 0]) rfl ?_
        refine lv_if_eq (tgt := 73) hx hb dX10_tried_48 (by decide) (fun c404 => ?_) (fun c404 => ?_)
        rotate_left
        · exact absurd c404 (by decide)
        refine lv_ldc2 (v := (-200000)) hx hb hown (hg _ kw_817) dX10_tried_73 ?_
        refine W.widen (k := 0) (n := 0) (Nat.le_of_ble_eq_true rfl) (Nat.le_of_ble_eq_true rfl) ?_
        have zlm200000 : ((-200000) : Int64).toInt = -200000 := by decide
        exact W.lret (v := (-200000)) hx hb hr (fun t ht hW => ⟨⟨(((-200000)), ws), rfl, ⟨hT, KF.rf, KF.rf⟩, CB.mk ht hP hD⟩, hS.F ht⟩) hS.2.2 dX10_tried_76
  · obtain rfl : u1 = 0 := i_is c6 (by decide)
    have zi0 : (0 : Int32).toInt = 0 := by decide
    refine W.eq (g2 := F0 m 4 ls [.int 0]) rfl ?_
    refine lv_if_eq (tgt := 40) hx hb dX10_tried_4 (by decide) (fun c405 => ?_) (fun c405 => ?_)
    rotate_left
    · exact absurd c405 (by decide)
    refine lv_iconst (v := 0) hx hb dX10_tried_40 (by decide) ?_
    refine lv_istore (lv' := [(7, .int 0), (0, .ref p0), (1, .int p1), (2, .int p2), (3, .int p3), (4, .int p4), (5, .int p5), (6, .int p6)]) hx hb dX10_tried_41 hl (by decide) rfl (fun ls hl => ?_)
    refine lv_aload_n hx hb dX10_tried_43 rfl (lv_at hl 1 rfl) ?_
    refine lv_iload_n hx hb dX10_tried_44 rfl (lv_at hl 2 rfl) ?_
    refine ok1 hT ht0 (fun p447 a406 a407 a408 a409 a410 x411 x412 x413 a414 a415 a416 a417 a418 a419 a420 a421 a422 x423 a424 a425 hk448 h426 h427 h428 h429 h430 h431 h432 h433 h434 h435 h436 h437 h438 h439 h440 h441 h442 h443 h444 h445 h446 => ?_)
    refine cga (rn_V (As := [.int p1]) (rest := []) (b := p0) (x_X10_isStar l D Y Z H.size ws T g q p0 p1 hT ht0) ⟨hx, hb, hml, hown, hg⟩ lk_X10_137 ⟨CPC.blind, va_recv hKN.1 hP (ci := 10) (q0 := p447) rfl hk448, CPC.at hP hKN hD hSZ hS hA⟩ ⟨⟨rfl, rfl⟩, ⟨Nat.le_of_ble_eq_true rfl, Nat.le_of_ble_eq_true rfl⟩, ⟨(Nat.le_of_ble_eq_true rfl), (Nat.le_of_ble_eq_true rfl)⟩⟩ hl.1 rfl (Nat.le_of_ble_eq_true rfl) dX10_tried_45) hP hD hS hA (fun u449 H locs hw450 hP hD hS => ?_)
    obtain ⟨hw452, hw453⟩ : (0 ≤ u449.toInt ∧ u449.toInt ≤ 1) ∧ (u449.toInt = 1 → (0 ≤ p1.toInt ∧ p1.toInt ≤ 11)) := hw450
    refine W.eq (g2 := F0 m 48 ls [.int u449]) rfl ?_
    rcases (show u449.toInt = 1 ∨ u449.toInt = 0 by omega) with c454 | c454
    · obtain rfl : u449 = 1 := i_is c454 (by decide)
      have zi1 : (1 : Int32).toInt = 1 := by decide
      replace hw453 := hw453 (by decide)
      refine W.eq (g2 := F0 m 48 ls [.int 1]) rfl ?_
      refine lv_if_eq (tgt := 73) hx hb dX10_tried_48 (by decide) (fun c455 => ?_) (fun c455 => ?_)
      · exact absurd c455 (by decide)
      refine lv_iload_n hx hb dX10_tried_51 rfl (lv_at hl 3 rfl) ?_
      refine cg0 (rn_S (As := [.int p2]) (rest := []) (x_X10_isWay l D Y Z H.size p2) ⟨hx, hb, hml, hown, hg⟩ lk_X10_140 ⟨CP.blind, CP.at nilP hKN (nilD (A := fun _ => True))⟩ ⟨⟨rfl, rfl⟩, ⟨Nat.le_of_ble_eq_true rfl, Nat.le_of_ble_eq_true rfl⟩, ⟨(Nat.le_of_ble_eq_true rfl), (Nat.le_of_ble_eq_true rfl)⟩⟩ hl.1 rfl (Nat.le_of_ble_eq_true rfl) dX10_tried_52) hP hS hA (fun u456 H locs hw457 hP hS => ?_)
      obtain ⟨hw459, hw460⟩ : ((0 ≤ p2.toInt ∧ p2.toInt ≤ 5 ∧ u456.toInt = 1) ∨ (¬ (0 ≤ p2.toInt ∧ p2.toInt ≤ 5) ∧ u456.toInt = 0)) ∧ (0 ≤ u456.toInt ∧ u456.toInt ≤ 1) := hw457
      refine W.eq (g2 := F0 m 55 ls [.int u456]) rfl ?_
      rcases (show u456.toInt = 1 ∨ u456.toInt = 0 by omega) with c461 | c461
      · obtain rfl : u456 = 1 := i_is c461 (by decide)
        refine W.eq (g2 := F0 m 55 ls [.int 1]) rfl ?_
        refine lv_if_eq (tgt := 73) hx hb dX10_tried_55 (by decide) (fun c462 => ?_) (fun c462 => ?_)
        · exact absurd c462 (by decide)
        refine lv_iload hx hb dX10_tried_58 (lv_at hl 0 rfl) ?_
        refine lv_if_eq (tgt := 73) hx hb dX10_tried_60 (by decide) (fun c463 => ?_) (fun c463 => ?_)
        rotate_left
        · exact absurd c463 (by decide)
        refine lv_ldc2 (v := (-200000)) hx hb hown (hg _ kw_817) dX10_tried_73 ?_
        refine W.widen (k := 0) (n := 0) (Nat.le_of_ble_eq_true rfl) (Nat.le_of_ble_eq_true rfl) ?_
        have zlm200000 : ((-200000) : Int64).toInt = -200000 := by decide
        exact W.lret (v := (-200000)) hx hb hr (fun t ht hW => ⟨⟨(((-200000)), ws), rfl, ⟨hT, KF.rf, KF.rf⟩, CB.mk ht hP hD⟩, hS.F ht⟩) hS.2.2 dX10_tried_76
      · obtain rfl : u456 = 0 := i_is c461 (by decide)
        refine W.eq (g2 := F0 m 55 ls [.int 0]) rfl ?_
        refine lv_if_eq (tgt := 73) hx hb dX10_tried_55 (by decide) (fun c464 => ?_) (fun c464 => ?_)
        rotate_left
        · exact absurd c464 (by decide)
        refine lv_ldc2 (v := (-200000)) hx hb hown (hg _ kw_817) dX10_tried_73 ?_
        refine W.widen (k := 0) (n := 0) (Nat.le_of_ble_eq_true rfl) (Nat.le_of_ble_eq_true rfl) ?_
        have zlm200000 : ((-200000) : Int64).toInt = -200000 := by decide
        exact W.lret (v := (-200000)) hx hb hr (fun t ht hW => ⟨⟨(((-200000)), ws), rfl, ⟨hT, KF.rf, KF.rf⟩, CB.mk ht hP hD⟩, hS.F ht⟩) hS.2.2 dX10_tried_76
    · obtain rfl : u449 = 0 := i_is c454 (by decide)
      clear hw453
      refine W.eq (g2 := F0 m 48 ls [.int 0]) rfl ?_
      refine lv_if_eq (tgt := 73) hx hb dX10_tried_48 (by decide) (fun c465 => ?_) (fun c465 => ?_)
      rotate_left
      · exact absurd c465 (by decide)
      refine lv_ldc2 (v := (-200000)) hx hb hown (hg _ kw_817) dX10_tried_73 ?_
      refine W.widen (k := 0) (n := 0) (Nat.le_of_ble_eq_true rfl) (Nat.le_of_ble_eq_true rfl) ?_
      have zlm200000 : ((-200000) : Int64).toInt = -200000 := by decide
      exact W.lret (v := (-200000)) hx hb hr (fun t ht hW => ⟨⟨(((-200000)), ws), rfl, ⟨hT, KF.rf, KF.rf⟩, CB.mk ht hP hD⟩, hS.F ht⟩) hS.2.2 dX10_tried_76
