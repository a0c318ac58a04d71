set_option maxHeartbeats 4000000 in
set_option maxRecDepth 100000 in
theorem x_X10_at (l : Launch) (D : va_G) (Y : Nat → ClassId) (Z : Nat → Nat) (sz : Nat) (ws : va_W) (T : RT) (g : GN) (q : GQ)  (p0 : Nat) (p1 : Int32) (p2 : Int32) (p3 : Int32) (hT : TW Y Z T g q ws) (ht0 : T p0 = (1, 0, 0)) : Met l yX10_at (.code yX10_at cX10_at 4 (some .int) :: GW) ({ frames := 4, cells := 0, slots := 0, locals := 101 }) (va_Pc [.ref p0, .int p1, .int p2, .int p3] (CPC D Y Z ws sz)) (QG (S := Int32 × va_W) (fun u => some (.int u.1)) (fun u => TW Y Z T g q u.2 ∧ KF 1 T ws u.2 ∧ KF 6 T ws u.2) (fun u => CB D u.2 (va_A ws sz)) (va_A ws sz)) 0 0 (va_A ws sz) := by
  refine Met.ofW (cc := cX10_at) (maxL := 4) (ret := (some .int)) (by decide) rfl ?_
  intro p e s m args below meth c s₁ B hml hv
  obtain ⟨rfl, ⟨hsz, hP, hKN, hD0⟩, hSZ⟩ := hv
  have hx := B.exec
  have hb := B.bytes
  have hr := B.returns
  have hts := atoms_spec (ws := .code yX10_at cX10_at 4 (some .int) :: GW) B.pre
  have hg : ∀ w ∈ GW, w.before _ s = true := fun w h => hts w (List.mem_cons_of_mem _ h)
  have hown : s.vm.findClass RX10 = some m.cls := findClass_of_methodNamed B.named
  have hlocks := B.notSynchronized
  subst hsz
  have hD := hD0.self (sz := s.heap.size)
  generalize hAe : va_A ws s.heap.size = A at hD hSZ ⊢
  have hA : ∀ q : Nat, s.heap.size ≤ q → A q := fun q h => by rw [← hAe]; exact Or.inr h
  clear hAe hD0 hts B
  have hl := lv_entry ([.ref p0, .int p1, .int p2, .int p3]) (n := 4) (Nat.le_of_ble_eq_true rfl)
  rw [lg_entry_eq]
  generalize (lg_sl ([.ref p0, .int p1, .int p2, .int p3]) ++ List.replicate (4 - (lg_sl ([.ref p0, .int p1, .int p2, .int p3])).length) Slot.unset).toArray = ls at hl ⊢
  have hl : lv_has ls 4 [(0, .ref p0), (1, .int p1), (2, .int p2), (3, .int p3)] := hl
  refine w_start (A0 := A) hP (fun H locs hP hS => ?_)
  refine lv_aload_n hx hb dX10_at_0 rfl (lv_at hl 0 rfl) ?_
  refine lv_iload_n hx hb dX10_at_1 rfl (lv_at hl 1 rfl) ?_
  refine ok1 hT ht0 (fun p42 a1 a2 a3 a4 a5 x6 x7 x8 a9 a10 a11 a12 a13 a14 a15 a16 a17 x18 a19 a20 hk43 h21 h22 h23 h24 h25 h26 h27 h28 h29 h30 h31 h32 h33 h34 h35 h36 h37 h38 h39 h40 h41 => ?_)
  refine cga (rn_V (As := [.int p1]) (rest := []) (b := p0) (x_X10_isStar l D Y Z H.size ws T g q p0 p1 hT ht0) ⟨hx, hb, hml, hown, hg⟩ lk_X10_137 ⟨CPC.blind, va_recv hKN.1 hP (ci := 10) (q0 := p42) rfl hk43, CPC.at hP hKN hD hSZ hS hA⟩ ⟨⟨rfl, rfl⟩, ⟨Nat.le_of_ble_eq_true rfl, Nat.le_of_ble_eq_true rfl⟩, ⟨(Nat.le_of_ble_eq_true rfl), (Nat.le_of_ble_eq_true rfl)⟩⟩ hl.1 rfl (Nat.le_of_ble_eq_true rfl) dX10_at_2) hP hD hS hA (fun u44 H locs hw45 hP hD hS => ?_)
  obtain ⟨hw47, hw48⟩ : (0 ≤ u44.toInt ∧ u44.toInt ≤ 1) ∧ (u44.toInt = 1 → (0 ≤ p1.toInt ∧ p1.toInt ≤ 11)) := hw45
  refine W.eq (g2 := F0 m 5 ls [.int u44]) rfl ?_
  rcases (show u44.toInt = 1 ∨ u44.toInt = 0 by omega) with c49 | c49
  · obtain rfl : u44 = 1 := i_is c49 (by decide)
    have zi1 : (1 : Int32).toInt = 1 := by decide
    replace hw48 := hw48 (by decide)
    refine W.eq (g2 := F0 m 5 ls [.int 1]) rfl ?_
    refine lv_if_eq (tgt := 22) hx hb dX10_at_5 (by decide) (fun c50 => ?_) (fun c50 => ?_)
    · exact absurd c50 (by decide)
    refine lv_iload_n hx hb dX10_at_8 rfl (lv_at hl 2 rfl) ?_
    refine cg0 (rn_S (As := [.int p2]) (rest := []) (x_X10_isHour l D Y Z H.size p2) ⟨hx, hb, hml, hown, hg⟩ lk_X10_113 ⟨CP.blind, CP.at nilP hKN (nilD (A := fun _ => True))⟩ ⟨⟨rfl, rfl⟩, ⟨Nat.le_of_ble_eq_true rfl, Nat.le_of_ble_eq_true rfl⟩, ⟨(Nat.le_of_ble_eq_true rfl), (Nat.le_of_ble_eq_true rfl)⟩⟩ hl.1 rfl (Nat.le_of_ble_eq_true rfl) dX10_at_9) hP hS hA (fun u51 H locs hw52 hP hS => ?_)
    obtain ⟨hw54, hw55⟩ : ((0 ≤ p2.toInt ∧ p2.toInt ≤ 599 ∧ u51.toInt = 1) ∨ (¬ (0 ≤ p2.toInt ∧ p2.toInt ≤ 599) ∧ u51.toInt = 0)) ∧ (0 ≤ u51.toInt ∧ u51.toInt ≤ 1) := hw52
    refine W.eq (g2 := F0 m 12 ls [.int u51]) rfl ?_
    rcases (show u51.toInt = 1 ∨ u51.toInt = 0 by omega) with c56 | c56
    · obtain rfl : u51 = 1 := i_is c56 (by decide)
      refine W.eq (g2 := F0 m 12 ls [.int 1]) rfl ?_
      refine lv_if_eq (tgt := 22) hx hb dX10_at_12 (by decide) (fun c57 => ?_) (fun c57 => ?_)
      · exact absurd c57 (by decide)
      refine lv_iload_n hx hb dX10_at_15 rfl (lv_at hl 3 rfl) ?_
      refine cg0 (rn_S (As := [.int p3]) (rest := []) (x_X10_isWay l D Y Z H.size p3) ⟨hx, hb, hml, hown, hg⟩ lk_X10_140 ⟨CP.blind, CP.at nilP hKN (nilD (A := fun _ => True))⟩ ⟨⟨rfl, rfl⟩, ⟨Nat.le_of_ble_eq_true rfl, Nat.le_of_ble_eq_true rfl⟩, ⟨(Nat.le_of_ble_eq_true rfl), (Nat.le_of_ble_eq_true rfl)⟩⟩ hl.1 rfl (Nat.le_of_ble_eq_true rfl) dX10_at_16) hP hS hA (fun u58 H locs hw59 hP hS => ?_)
      obtain ⟨hw61, hw62⟩ : ((0 ≤ p3.toInt ∧ p3.toInt ≤ 5 ∧ u58.toInt = 1) ∨ (¬ (0 ≤ p3.toInt ∧ p3.toInt ≤ 5) ∧ u58.toInt = 0)) ∧ (0 ≤ u58.toInt ∧ u58.toInt ≤ 1) := hw59
      refine W.eq (g2 := F0 m 19 ls [.int u58]) rfl ?_
      rcases (show u58.toInt = 1 ∨ u58.toInt = 0 by omega) with c63 | c63
      · obtain rfl : u58 = 1 := i_is c63 (by decide)
        refine W.eq (g2 := F0 m 19 ls [.int 1]) rfl ?_
        refine lv_if_ne (tgt := 25) hx hb dX10_at_19 (by decide) (fun c64 => ?_) (fun c64 => ?_)
        rotate_left
        · exact absurd c64 (by decide)
        refine lv_aload_n hx hb dX10_at_25 rfl (lv_at hl 0 rfl) ?_
        refine va_get (D := D) (ci := 10) (v := .ref a11) (C := RX10) (T := TX10) (N := 20) hx hb hg inGX10 hown hKN.1 hP p42 hk43 rfl 10 (by decide) (hg _ kw_359) (fun _ h9 => h9) rfl dX10_at_26 ?_
        refine lv_aload_n hx hb dX10_at_29 rfl (lv_at hl 0 rfl) ?_
        refine va_get (D := D) (ci := 10) (v := .ref a1) (C := RX10) (T := TX10) (N := 20) hx hb hg inGX10 hown hKN.1 hP p42 hk43 rfl 0 (by decide) (hg _ kw_349) (fun _ h9 => h9) rfl dX10_at_30 ?_
        refine lv_iload_n hx hb dX10_at_33 rfl (lv_at hl 1 rfl) ?_
        refine lv_iload_n hx hb dX10_at_34 rfl (lv_at hl 3 rfl) ?_
        refine ok9 hT h33 (fun p77 a65 a66 a67 x68 y69 y70 x71 y72 hk78 h73 h74 h75 h76 => ?_)
        refine cga (rn_NV (As := [.ref a1, .int p1, .int p3]) (rest := []) (b := a11) (x_X2_see l D Y Z H.size ws T g q 0 a11 a1 p1 p3 hT h33 h21) ⟨hx, hb, hml, hown, hg⟩ hKN lk_X10_143 ⟨CPC.blind, va_recv hKN.1 hP (ci := 2) (q0 := p77) rfl hk78, CPC.at hP hKN hD hSZ hS hA⟩ ⟨⟨rfl, rfl⟩, ⟨Nat.le_of_ble_eq_true rfl, Nat.le_of_ble_eq_true rfl⟩, ⟨(Nat.le_of_ble_eq_true rfl), (Nat.le_of_ble_eq_true rfl)⟩⟩ hl.1 rfl (Nat.le_of_ble_eq_true rfl) dX10_at_35) hP hD hS hA (fun u79 H locs hw80 hP hD hS => ?_)
        obtain ⟨hT, ke82, ke83⟩ : TW Y Z T g q u79 ∧ KF 1 T ws u79 ∧ KF 6 T ws u79 := hw80
        have hk84 := ke82 _ _ hk43 (show (T p0).1 = 1 by rw [ht0])
        have ke85 : KF 1 T ws u79 := KF.tr KF.rf ke82
        have ke86 : KF 6 T ws u79 := KF.tr KF.rf ke83
        refine W.eq (g2 := F0 m 38 ls []) rfl ?_
        refine lv_aload_n hx hb dX10_at_38 rfl (lv_at hl 0 rfl) ?_
        refine va_get (D := D) (ci := 10) (v := .ref a11) (C := RX10) (T := TX10) (N := 20) hx hb hg inGX10 hown hKN.1 hP p42 hk84 rfl 10 (by decide) (hg _ kw_359) (fun _ h9 => h9) rfl dX10_at_39 ?_
        refine ok9 hT h33 (fun p99 a87 a88 a89 x90 y91 y92 x93 y94 hk100 h95 h96 h97 h98 => ?_)
        refine va_getN (D := D) (ci := 2) (v := .ref a87) (C := RX2) (T := TX2) (N := 8) hx hb hg inGX2 hown hKN.1 hP p99 hk100 rfl 0 (by decide) (va_Nw.use rfl (hKN.2.1 _ kn_235 rfl)) (fun _ h9 => h9) rfl dX10_at_42 ?_
        refine lv_iload_n hx hb dX10_at_45 rfl (lv_at hl 2 rfl) ?_
        refine tr_ld12 hx hb hKN hP hT h95 (vp_in_iff.mpr ⟨by omega, by omega⟩) dX10_at_46 (fun v101 => ?_)
        refine W.widen (k := 0) (n := 0) (Nat.le_of_ble_eq_true rfl) (Nat.le_of_ble_eq_true rfl) ?_
        exact W.iret (v := v101) hx hb hr (fun t ht hW => ⟨⟨(v101, u79), rfl, ⟨hT, ke85, ke86⟩, CB.mk ht hP hD⟩, hS.F ht⟩) hS.2.2 dX10_at_47
      · obtain rfl : u58 = 0 := i_is c63 (by decide)
        have zi0 : (0 : Int32).toInt = 0 := by decide
        refine W.eq (g2 := F0 m 19 ls [.int 0]) rfl ?_
        refine lv_if_ne (tgt := 25) hx hb dX10_at_19 (by decide) (fun c102 => ?_) (fun c102 => ?_)
        · exact absurd c102 (by decide)
        refine lv_ldc (v := (-200000)) hx hb hown (hg _ kw_473) dX10_at_22 ?_
        refine W.widen (k := 0) (n := 0) (Nat.le_of_ble_eq_true rfl) (Nat.le_of_ble_eq_true rfl) ?_
        have zim200000 : ((-200000) : Int32).toInt = -200000 := by decide
        exact W.iret (v := (-200000)) hx hb hr (fun t ht hW => ⟨⟨(((-200000)), ws), rfl, ⟨hT, KF.rf, KF.rf⟩, CB.mk ht hP hD⟩, hS.F ht⟩) hS.2.2 dX10_at_24
    · obtain rfl : u51 = 0 := i_is c56 (by decide)
      have zi0 : (0 : Int32).toInt = 0 := by decide
      refine W.eq (g2 := F0 m 12 ls [.int 0]) rfl ?_
      refine lv_if_eq (tgt := 22) hx hb dX10_at_12 (by decide) (fun c103 => ?_) (fun c103 => ?_)
      rotate_left
      · exact absurd c103 (by decide)
      refine lv_ldc (v := (-200000)) hx hb hown (hg _ kw_473) dX10_at_22 ?_
      refine W.widen (k := 0) (n := 0) (Nat.le_of_ble_eq_true rfl) (Nat.le_of_ble_eq_true rfl) ?_
      have zim200000 : ((-200000) : Int32).toInt = -200000 := by decide
      exact W.iret (v := (-200000)) hx hb hr (fun t ht hW => ⟨⟨(((-200000)), ws), rfl, ⟨hT, KF.rf, KF.rf⟩, CB.mk ht hP hD⟩, hS.F ht⟩) hS.2.2 dX10_at_24
  · obtain rfl : u44 = 0 := i_is c49 (by decide)
    have zi0 : (0 : Int32).toInt = 0 := by decide
    clear hw48
    refine W.eq (g2 := F0 m 5 ls [.int 0]) rfl ?_
    refine lv_if_eq (tgt := 22) hx hb dX10_at_5 (by decide) (fun c104 => ?_) (fun c104 => ?_)
    rotate_left
    · exact absurd c104 (by decide)
    refine lv_ldc (v := (-200000)) hx hb hown (hg _ kw_473) dX10_at_22 ?_
    refine W.widen (k := 0) (n := 0) (Nat.le_of_ble_eq_true rfl) (Nat.le_of_ble_eq_true rfl) ?_
    have zim200000 : ((-200000) : Int32).toInt = -200000 := by decide
    exact W.iret (v := (-200000)) hx hb hr (fun t ht hW => ⟨⟨(((-200000)), ws), rfl, ⟨hT, KF.rf, KF.rf⟩, CB.mk ht hP hD⟩, hS.F ht⟩) hS.2.2 dX10_at_24
set_option maxHeartbeats 4000000 in
set_option maxRecDepth 100000 in
theorem x_X10_feed (l : Launch) (D : va_G) (Y : Nat → ClassId) (Z : Nat → Nat) (sz : Nat) (ws : va_W) (T : RT) (g : GN) (q : GQ)  (p0 : Nat) (p1 : Int32) (p2 : Int32) (p3 : Int32) (p4 : Int32) (p5 : Int32) (hT : TW Y Z T g q ws) (ht0 : T p0 = (1, 0, 0)) : Met l yX10_feed (.code yX10_feed cX10_feed 6 (some .int) :: GW) ({ frames := 1, cells := 0, slots := 0, locals := 22 }) (va_Pc [.ref p0, .int p1, .int p2, .int p3, .int p4, .int p5] (CPC D Y Z ws sz)) (QG (S := Int32 × va_W) (fun u => some (.int u.1)) (fun u => TW Y Z T g q u.2 ∧ KF 1 T ws u.2 ∧ KF 6 T ws u.2) (fun u => CB D u.2 (va_A ws sz)) (va_A ws sz)) 0 0 (va_A ws sz) := by
  refine Met.ofW (cc := cX10_feed) (maxL := 6) (ret := (some .int)) (by decide) rfl ?_
  intro p e s m args below meth c s₁ B hml hv
  obtain ⟨rfl, ⟨hsz, hP, hKN, hD0⟩, hSZ⟩ := hv
  have hx := B.exec
  have hb := B.bytes
  have hr := B.returns
  have hts := atoms_spec (ws := .code yX10_feed cX10_feed 6 (some .int) :: GW) B.pre
  have hg : ∀ w ∈ GW, w.before _ s = true := fun w h => hts w (List.mem_cons_of_mem _ h)
  have hown : s.vm.findClass RX10 = some m.cls := findClass_of_methodNamed B.named
  have hlocks := B.notSynchronized
  subst hsz
  have hD := hD0.self (sz := s.heap.size)
  generalize hAe : va_A ws s.heap.size = A at hD hSZ ⊢
  have hA : ∀ q : Nat, s.heap.size ≤ q → A q := fun q h => by rw [← hAe]; exact Or.inr h
  clear hAe hD0 hts B
  have hl := lv_entry ([.ref p0, .int p1, .int p2, .int p3, .int p4, .int p5]) (n := 6) (Nat.le_of_ble_eq_true rfl)
  rw [lg_entry_eq]
  generalize (lg_sl ([.ref p0, .int p1, .int p2, .int p3, .int p4, .int p5]) ++ List.replicate (6 - (lg_sl ([.ref p0, .int p1, .int p2, .int p3, .int p4, .int p5])).length) Slot.unset).toArray = ls at hl ⊢
  have hl : lv_has ls 6 [(0, .ref p0), (1, .int p1), (2, .int p2), (3, .int p3), (4, .int p4), (5, .int p5)] := hl
  refine w_start (A0 := A) hP (fun H locs hP hS => ?_)
  refine lv_aload_n hx hb dX10_feed_0 rfl (lv_at hl 0 rfl) ?_
  refine ok1 hT ht0 (fun p42 a1 a2 a3 a4 a5 x6 x7 x8 a9 a10 a11 a12 a13 a14 a15 a16 a17 x18 a19 a20 hk43 h21 h22 h23 h24 h25 h26 h27 h28 h29 h30 h31 h32 h33 h34 h35 h36 h37 h38 h39 h40 h41 => ?_)
  refine va_get (D := D) (ci := 10) (v := .ref a1) (C := RX10) (T := TX10) (N := 20) hx hb hg inGX10 hown hKN.1 hP p42 hk43 rfl 0 (by decide) (hg _ kw_349) (fun _ h9 => h9) rfl dX10_feed_1 ?_
  refine ok2 hT h21 (fun p78 x44 a45 x46 a47 x48 a49 a50 x51 a52 a53 x54 a55 x56 hk79 h57 h58 h59 h60 h61 h62 h63 h64 h65 h66 h67 h68 h69 h70 h71 h72 h73 h74 h75 h76 h77 => ?_)
  refine va_getN (D := D) (ci := 6) (v := .int x56) (C := RX6) (T := TX6) (N := 13) hx hb hg inGX6 hown hKN.1 hP p78 hk79 rfl 12 (by decide) (va_Nw.use rfl (hKN.2.1 _ kn_68 rfl)) (fun _ h9 => h9) rfl dX10_feed_4 ?_
  refine lv_bipush (v := 20) hx hb dX10_feed_7 (by decide) ?_
  refine lv_iadd hx hb dX10_feed_9 ?_
  refine lv_topi (fun v80 ev80 => ?_)
  have hv80 := i_add (Eq.refl x56.toInt) (show (20 : Int32).toInt = 20 by decide) ev80 (by omega) (by omega)
  refine lv_sipush (v := 400) hx hb dX10_feed_10 (by decide) ?_
  refine lv_icmp_le (tgt := 18) hx hb dX10_feed_13 (by decide) (fun c81 => ?_) (fun c81 => ?_)
  · skip
    have c81 := i_le (Eq.refl v80.toInt) (show (400 : Int32).toInt = 400 by decide) c81
    refine lv_aload_n hx hb dX10_feed_18 rfl (lv_at hl 0 rfl) ?_
    refine va_get (D := D) (ci := 10) (v := .ref a1) (C := RX10) (T := TX10) (N := 20) hx hb hg inGX10 hown hKN.1 hP p42 hk43 rfl 0 (by decide) (hg _ kw_349) (fun _ h9 => h9) rfl dX10_feed_19 ?_
    refine lv_iload_n hx hb dX10_feed_22 rfl (lv_at hl 1 rfl) ?_
    refine cga (rn_NV (As := [.int p1]) (rest := []) (b := a1) (x_X6_addBytes l D Y Z H.size ws T g q 0 a1 p1 hT h21) ⟨hx, hb, hml, hown, hg⟩ hKN lk_X10_165 ⟨CPC.blind, va_recv hKN.1 hP (ci := 6) (q0 := p78) rfl hk79, CPC.at hP hKN hD hSZ hS hA⟩ ⟨⟨rfl, rfl⟩, ⟨Nat.le_of_ble_eq_true rfl, Nat.le_of_ble_eq_true rfl⟩, ⟨(Nat.le_of_ble_eq_true rfl), (Nat.le_of_ble_eq_true rfl)⟩⟩ hl.1 rfl (Nat.le_of_ble_eq_true rfl) dX10_feed_23) hP hD hS hA (fun u82 H locs hw83 hP hD hS => ?_)
    obtain ⟨hT, ke85, ke86⟩ : TW Y Z T g q u82 ∧ KF 1 T ws u82 ∧ KF 6 T ws u82 := hw83
    have hk87 := ke85 _ _ hk43 (show (T p0).1 = 1 by rw [ht0])
    have ke88 : KF 1 T ws u82 := KF.tr KF.rf ke85
    have ke89 : KF 6 T ws u82 := KF.tr KF.rf ke86
    refine W.eq (g2 := F0 m 26 ls []) rfl ?_
    refine lv_aload_n hx hb dX10_feed_26 rfl (lv_at hl 0 rfl) ?_
    refine va_get (D := D) (ci := 10) (v := .ref a1) (C := RX10) (T := TX10) (N := 20) hx hb hg inGX10 hown hKN.1 hP p42 hk87 rfl 0 (by decide) (hg _ kw_349) (fun _ h9 => h9) rfl dX10_feed_27 ?_
    refine lv_iload_n hx hb dX10_feed_30 rfl (lv_at hl 2 rfl) ?_
    refine ok2 hT h21 (fun p124 x90 a91 x92 a93 x94 a95 a96 x97 a98 a99 x100 a101 x102 hk125 h103 h104 h105 h106 h107 h108 h109 h110 h111 h112 h113 h114 h115 h116 h117 h118 h119 h120 h121 h122 h123 => ?_)
    refine cga (rn_NV (As := [.int p2]) (rest := []) (b := a1) (x_X6_addBytes l D Y Z H.size u82 T g q 0 a1 p2 hT h21) ⟨hx, hb, hml, hown, hg⟩ hKN lk_X10_165 ⟨CPC.blind, va_recv hKN.1 hP (ci := 6) (q0 := p124) rfl hk125, CPC.at hP hKN hD hSZ hS hA⟩ ⟨⟨rfl, rfl⟩, ⟨Nat.le_of_ble_eq_true rfl, Nat.le_of_ble_eq_true rfl⟩, ⟨(Nat.le_of_ble_eq_true rfl), (Nat.le_of_ble_eq_true rfl)⟩⟩ hl.1 rfl (Nat.le_of_ble_eq_true rfl) dX10_feed_31) hP hD hS hA (fun u126 H locs hw127 hP hD hS => ?_)
    obtain ⟨hT, ke129, ke130⟩ : TW Y Z T g q u126 ∧ KF 1 T u82 u126 ∧ KF 6 T u82 u126 := hw127
    have hk131 := ke129 _ _ hk87 (show (T p0).1 = 1 by rw [ht0])
    have ke132 : KF 1 T ws u126 := KF.tr ke88 ke129
    have ke133 : KF 6 T ws u126 := KF.tr ke89 ke130
    refine W.eq (g2 := F0 m 34 ls []) rfl ?_
    refine lv_aload_n hx hb dX10_feed_34 rfl (lv_at hl 0 rfl) ?_
    refine va_get (D := D) (ci := 10) (v := .ref a1) (C := RX10) (T := TX10) (N := 20) hx hb hg inGX10 hown hKN.1 hP p42 hk131 rfl 0 (by decide) (hg _ kw_349) (fun _ h9 => h9) rfl dX10_feed_35 ?_
    refine lv_iload_n hx hb dX10_feed_38 rfl (lv_at hl 3 rfl) ?_
    refine ok2 hT h21 (fun p168 x134 a135 x136 a137 x138 a139 a140 x141 a142 a143 x144 a145 x146 hk169 h147 h148 h149 h150 h151 h152 h153 h154 h155 h156 h157 h158 h159 h160 h161 h162 h163 h164 h165 h166 h167 => ?_)
    refine cga (rn_NV (As := [.int p3]) (rest := []) (b := a1) (x_X6_addBytes l D Y Z H.size u126 T g q 0 a1 p3 hT h21) ⟨hx, hb, hml, hown, hg⟩ hKN lk_X10_165 ⟨CPC.blind, va_recv hKN.1 hP (ci := 6) (q0 := p168) rfl hk169, CPC.at hP hKN hD hSZ hS hA⟩ ⟨⟨rfl, rfl⟩, ⟨Nat.le_of_ble_eq_true rfl, Nat.le_of_ble_eq_true rfl⟩, ⟨(Nat.le_of_ble_eq_true rfl), (Nat.le_of_ble_eq_true rfl)⟩⟩ hl.1 rfl (Nat.le_of_ble_eq_true rfl) dX10_feed_39) hP hD hS hA (fun u170 H locs hw171 hP hD hS => ?_)
    obtain ⟨hT, ke173, ke174⟩ : TW Y Z T g q u170 ∧ KF 1 T u126 u170 ∧ KF 6 T u126 u170 := hw171
    have hk175 := ke173 _ _ hk131 (show (T p0).1 = 1 by rw [ht0])
    have ke176 : KF 1 T ws u170 := KF.tr ke132 ke173
    have ke177 : KF 6 T ws u170 := KF.tr ke133 ke174
    refine W.eq (g2 := F0 m 42 ls []) rfl ?_
    refine lv_aload_n hx hb dX10_feed_42 rfl (lv_at hl 0 rfl) ?_
    refine va_get (D := D) (ci := 10) (v := .ref a1) (C := RX10) (T := TX10) (N := 20) hx hb hg inGX10 hown hKN.1 hP p42 hk175 rfl 0 (by decide) (hg _ kw_349) (fun _ h9 => h9) rfl dX10_feed_43 ?_
    refine lv_iload hx hb dX10_feed_46 (lv_at hl 4 rfl) ?_
    refine ok2 hT h21 (fun p212 x178 a179 x180 a181 x182 a183 a184 x185 a186 a187 x188 a189 x190 hk213 h191 h192 h193 h194 h195 h196 h197 h198 h199 h200 h201 h202 h203 h204 h205 h206 h207 h208 h209 h210 h211 => ?_)
    refine cga (rn_NV (As := [.int p4]) (rest := []) (b := a1) (x_X6_addBytes l D Y Z H.size u170 T g q 0 a1 p4 hT h21) ⟨hx, hb, hml, hown, hg⟩ hKN lk_X10_165 ⟨CPC.blind, va_recv hKN.1 hP (ci := 6) (q0 := p212) rfl hk213, CPC.at hP hKN hD hSZ hS hA⟩ ⟨⟨rfl, rfl⟩, ⟨Nat.le_of_ble_eq_true rfl, Nat.le_of_ble_eq_true rfl⟩, ⟨(Nat.le_of_ble_eq_true rfl), (Nat.le_of_ble_eq_true rfl)⟩⟩ hl.1 rfl (Nat.le_of_ble_eq_true rfl) dX10_feed_48) hP hD hS hA (fun u214 H locs hw215 hP hD hS => ?_)
    obtain ⟨hT, ke217, ke218⟩ : TW Y Z T g q u214 ∧ KF 1 T u170 u214 ∧ KF 6 T u170 u214 := hw215
    have hk219 := ke217 _ _ hk175 (show (T p0).1 = 1 by rw [ht0])
    have ke220 : KF 1 T ws u214 := KF.tr ke176 ke217
    have ke221 : KF 6 T ws u214 := KF.tr ke177 ke218
    refine W.eq (g2 := F0 m 51 ls []) rfl ?_
    refine lv_aload_n hx hb dX10_feed_51 rfl (lv_at hl 0 rfl) ?_
    refine va_get (D := D) (ci := 10) (v := .ref a1) (C := RX10) (T := TX10) (N := 20) hx hb hg inGX10 hown hKN.1 hP p42 hk219 rfl 0 (by decide) (hg _ kw_349) (fun _ h9 => h9) rfl dX10_feed_52 ?_
    refine lv_iload hx hb dX10_feed_55 (lv_at hl 5 rfl) ?_
    refine ok2 hT h21 (fun p256 x222 a223 x224 a225 x226 a227 a228 x229 a230 a231 x232 a233 x234 hk257 h235 h236 h237 h238 h239 h240 h241 h242 h243 h244 h245 h246 h247 h248 h249 h250 h251 h252 h253 h254 h255 => ?_)
    refine cga (rn_NV (As := [.int p5]) (rest := []) (b := a1) (x_X6_addBytes l D Y Z H.size u214 T g q 0 a1 p5 hT h21) ⟨hx, hb, hml, hown, hg⟩ hKN lk_X10_165 ⟨CPC.blind, va_recv hKN.1 hP (ci := 6) (q0 := p256) rfl hk257, CPC.at hP hKN hD hSZ hS hA⟩ ⟨⟨rfl, rfl⟩, ⟨Nat.le_of_ble_eq_true rfl, Nat.le_of_ble_eq_true rfl⟩, ⟨(Nat.le_of_ble_eq_true rfl), (Nat.le_of_ble_eq_true rfl)⟩⟩ hl.1 rfl (Nat.le_of_ble_eq_true rfl) dX10_feed_57) hP hD hS hA (fun u258 H locs hw259 hP hD hS => ?_)
    obtain ⟨hT, ke261, ke262⟩ : TW Y Z T g q u258 ∧ KF 1 T u214 u258 ∧ KF 6 T u214 u258 := hw259
    have hk263 := ke261 _ _ hk219 (show (T p0).1 = 1 by rw [ht0])
    have ke264 : KF 1 T ws u258 := KF.tr ke220 ke261
    have ke265 : KF 6 T ws u258 := KF.tr ke221 ke262
    refine W.eq (g2 := F0 m 60 ls []) rfl ?_
    refine lv_aload_n hx hb dX10_feed_60 rfl (lv_at hl 0 rfl) ?_
    refine va_get (D := D) (ci := 10) (v := .ref a1) (C := RX10) (T := TX10) (N := 20) hx hb hg inGX10 hown hKN.1 hP p42 hk263 rfl 0 (by decide) (hg _ kw_349) (fun _ h9 => h9) rfl dX10_feed_61 ?_
    refine ok2 hT h21 (fun p300 x266 a267 x268 a269 x270 a271 a272 x273 a274 a275 x276 a277 x278 hk301 h279 h280 h281 h282 h283 h284 h285 h286 h287 h288 h289 h290 h291 h292 h293 h294 h295 h296 h297 h298 h299 => ?_)
    refine va_getN (D := D) (ci := 6) (v := .int x278) (C := RX6) (T := TX6) (N := 13) hx hb hg inGX6 hown hKN.1 hP p300 hk301 rfl 12 (by decide) (va_Nw.use rfl (hKN.2.1 _ kn_68 rfl)) (fun _ h9 => h9) rfl dX10_feed_64 ?_
    refine W.widen (k := 0) (n := 0) (Nat.le_of_ble_eq_true rfl) (Nat.le_of_ble_eq_true rfl) ?_
    exact W.iret (v := x278) hx hb hr (fun t ht hW => ⟨⟨(x278, u258), rfl, ⟨hT, ke264, ke265⟩, CB.mk ht hP hD⟩, hS.F ht⟩) hS.2.2 dX10_feed_67
  · skip
    have c81 := i_nle (Eq.refl v80.toInt) (show (400 : Int32).toInt = 400 by decide) c81
    refine lv_iconst (v := (-1)) hx hb dX10_feed_16 (by decide) ?_
    refine W.widen (k := 0) (n := 0) (Nat.le_of_ble_eq_true rfl) (Nat.le_of_ble_eq_true rfl) ?_
    have zim1 : ((-1) : Int32).toInt = -1 := by decide
    exact W.iret (v := (-1)) hx hb hr (fun t ht hW => ⟨⟨(((-1)), ws), rfl, ⟨hT, KF.rf, KF.rf⟩, CB.mk ht hP hD⟩, hS.F ht⟩) hS.2.2 dX10_feed_17
