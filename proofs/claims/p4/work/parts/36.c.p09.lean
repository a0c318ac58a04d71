set_option maxHeartbeats 4000000 in
set_option maxRecDepth 100000 in
theorem x_X10_nights (l : Launch) (D : va_G) (Y : Nat → ClassId) (Z : Nat → Nat) (sz : Nat) (ws : va_W) (T : RT) (g : GN) (q : GQ)  (p0 : Nat) (p1 : Int32) (p2 : Int32) (hT : TW Y Z T g q ws) (ht0 : T p0 = (1, 0, 0)) : Met l yX10_nights (.code yX10_nights cX10_nights 10 (some .int) :: GW) ({ frames := 2, cells := 0, slots := 0, locals := 46 }) (va_Pc [.ref p0, .int p1, .int p2] (CPC D Y Z ws sz)) (QG (S := Int32) (fun u => some (.int u)) (fun u => True) (fun u => CB D ws (va_A ws sz)) (va_A ws sz)) 0 0 (va_A ws sz) := by
  refine Met.ofW (cc := cX10_nights) (maxL := 10) (ret := (some .int)) (by decide) rfl ?_
  intro p e s m args below meth c s₁ B hml hv
  obtain ⟨rfl, ⟨hsz, hP, hKN, hD0⟩, hSZ⟩ := hv
  have hx := B.exec
  have hb := B.bytes
  have hr := B.returns
  have hts := atoms_spec (ws := .code yX10_nights cX10_nights 10 (some .int) :: GW) B.pre
  have hg : ∀ w ∈ GW, w.before _ s = true := fun w h => hts w (List.mem_cons_of_mem _ h)
  have hown : s.vm.findClass RX10 = some m.cls := findClass_of_methodNamed B.named
  have hlocks := B.notSynchronized
  subst hsz
  have hD := hD0.self (sz := s.heap.size)
  generalize hAe : va_A ws s.heap.size = A at hD hSZ ⊢
  have hA : ∀ q : Nat, s.heap.size ≤ q → A q := fun q h => by rw [← hAe]; exact Or.inr h
  clear hAe hD0 hts B
  have hl := lv_entry ([.ref p0, .int p1, .int p2]) (n := 10) (Nat.le_of_ble_eq_true rfl)
  rw [lg_entry_eq]
  generalize (lg_sl ([.ref p0, .int p1, .int p2]) ++ List.replicate (10 - (lg_sl ([.ref p0, .int p1, .int p2])).length) Slot.unset).toArray = ls at hl ⊢
  have hl : lv_has ls 10 [(0, .ref p0), (1, .int p1), (2, .int p2)] := hl
  refine w_start (A0 := A) hP (fun H locs hP hS => ?_)
  refine lv_iload_n hx hb dX10_nights_0 rfl (lv_at hl 1 rfl) ?_
  refine lv_iconst (v := 0) hx hb dX10_nights_1 (by decide) ?_
  refine lv_sipush (v := 9999) hx hb dX10_nights_2 (by decide) ?_
  have zi0 : (0 : Int32).toInt = 0 := by decide
  have zi9999 : (9999 : Int32).toInt = 9999 := by decide
  refine cg0 (rn_S (As := [.int p1, .int 0, .int 9999]) (rest := []) (x_X10_isWithin l D Y Z H.size p1 0 9999) ⟨hx, hb, hml, hown, hg⟩ lk_X10_100 ⟨CP.blind, CP.at nilP hKN (nilD (A := fun _ => True))⟩ ⟨⟨rfl, rfl⟩, ⟨Nat.le_of_ble_eq_true rfl, Nat.le_of_ble_eq_true rfl⟩, ⟨(Nat.le_of_ble_eq_true rfl), (Nat.le_of_ble_eq_true rfl)⟩⟩ hl.1 rfl (Nat.le_of_ble_eq_true rfl) dX10_nights_5) hP hS hA (fun u1 H locs hw2 hP hS => ?_)
  obtain ⟨hw4, hw5⟩ : (((0 : Int32).toInt ≤ p1.toInt ∧ p1.toInt ≤ (9999 : Int32).toInt ∧ u1.toInt = 1) ∨ (¬ ((0 : Int32).toInt ≤ p1.toInt ∧ p1.toInt ≤ (9999 : Int32).toInt) ∧ u1.toInt = 0)) ∧ (0 ≤ u1.toInt ∧ u1.toInt ≤ 1) := hw2
  refine W.eq (g2 := F0 m 8 ls [.int u1]) rfl ?_
  rcases (show u1.toInt = 1 ∨ u1.toInt = 0 by omega) with c6 | c6
  · obtain rfl : u1 = 1 := i_is c6 (by decide)
    have zi1 : (1 : Int32).toInt = 1 := by decide
    refine W.eq (g2 := F0 m 8 ls [.int 1]) rfl ?_
    refine lv_if_eq (tgt := 20) hx hb dX10_nights_8 (by decide) (fun c7 => ?_) (fun c7 => ?_)
    · exact absurd c7 (by decide)
    refine lv_iload_n hx hb dX10_nights_11 rfl (lv_at hl 2 rfl) ?_
    refine lv_iconst (v := 0) hx hb dX10_nights_12 (by decide) ?_
    refine lv_iconst (v := 1) hx hb dX10_nights_13 (by decide) ?_
    refine cg0 (rn_S (As := [.int p2, .int 0, .int 1]) (rest := []) (x_X10_isWithin l D Y Z H.size p2 0 1) ⟨hx, hb, hml, hown, hg⟩ lk_X10_100 ⟨CP.blind, CP.at nilP hKN (nilD (A := fun _ => True))⟩ ⟨⟨rfl, rfl⟩, ⟨Nat.le_of_ble_eq_true rfl, Nat.le_of_ble_eq_true rfl⟩, ⟨(Nat.le_of_ble_eq_true rfl), (Nat.le_of_ble_eq_true rfl)⟩⟩ hl.1 rfl (Nat.le_of_ble_eq_true rfl) dX10_nights_14) hP hS hA (fun u8 H locs hw9 hP hS => ?_)
    obtain ⟨hw11, hw12⟩ : (((0 : Int32).toInt ≤ p2.toInt ∧ p2.toInt ≤ (1 : Int32).toInt ∧ u8.toInt = 1) ∨ (¬ ((0 : Int32).toInt ≤ p2.toInt ∧ p2.toInt ≤ (1 : Int32).toInt) ∧ u8.toInt = 0)) ∧ (0 ≤ u8.toInt ∧ u8.toInt ≤ 1) := hw9
    refine W.eq (g2 := F0 m 17 ls [.int u8]) rfl ?_
    rcases (show u8.toInt = 1 ∨ u8.toInt = 0 by omega) with c13 | c13
    · obtain rfl : u8 = 1 := i_is c13 (by decide)
      refine W.eq (g2 := F0 m 17 ls [.int 1]) rfl ?_
      refine lv_if_ne (tgt := 22) hx hb dX10_nights_17 (by decide) (fun c14 => ?_) (fun c14 => ?_)
      rotate_left
      · exact absurd c14 (by decide)
      refine lv_iconst (v := 0) hx hb dX10_nights_22 (by decide) ?_
      refine lv_istore_n (lv' := [(3, .int 0), (0, .ref p0), (1, .int p1), (2, .int p2)]) hx hb dX10_nights_23 rfl hl (by decide) rfl (fun ls hl => ?_)
      refine lv_iconst (v := 0) hx hb dX10_nights_24 (by decide) ?_
      refine lv_istore (lv' := [(4, .int 0), (3, .int 0), (0, .ref p0), (1, .int p1), (2, .int p2)]) hx hb dX10_nights_25 hl (by decide) rfl (fun ls hl => ?_)
      refine lv_iconst (v := 0) hx hb dX10_nights_27 (by decide) ?_
      refine lv_istore (lv' := [(5, .int 0), (4, .int 0), (3, .int 0), (0, .ref p0), (1, .int p1), (2, .int p2)]) hx hb dX10_nights_28 hl (by decide) rfl (fun ls hl => ?_)
      refine lv_iconst (v := 0) hx hb dX10_nights_30 (by decide) ?_
      refine lv_istore (lv' := [(6, .int 0), (5, .int 0), (4, .int 0), (3, .int 0), (0, .ref p0), (1, .int p1), (2, .int p2)]) hx hb dX10_nights_31 hl (by decide) rfl (fun ls hl => ?_)
      refine lv_iconst (v := 0) hx hb dX10_nights_33 (by decide) ?_
      refine lv_istore (lv' := [(7, .int 0), (6, .int 0), (5, .int 0), (4, .int 0), (3, .int 0), (0, .ref p0), (1, .int p1), (2, .int p2)]) hx hb dX10_nights_34 hl (by decide) rfl (fun ls hl => ?_)
      refine lv_iconst (v := 1) hx hb dX10_nights_36 (by decide) ?_
      refine lv_istore (lv' := [(8, .int 1), (7, .int 0), (6, .int 0), (5, .int 0), (4, .int 0), (3, .int 0), (0, .ref p0), (1, .int p1), (2, .int p2)]) hx hb dX10_nights_37 hl (by decide) rfl (fun ls hl => ?_)
      refine w_loop (σ := Int32 × Int32 × Int32 × Int32 × Int32 × Int32) (fun xx H locs ls => match xx with | (v209, v210, v211, v212, v213, v214) => va_P D vwCl ws H ∧ va_D A ws ∧ va_S A s.heap H locs ∧ lv_has ls 10 [(8, .int v209), (7, .int v210), (6, .int v211), (5, .int v212), (4, .int v213), (3, .int v214), (0, .ref p0), (1, .int p1), (2, .int p2)] ∧ TW Y Z T g q ws ∧ (1 ≤ v209.toInt)) (fun xx => match xx with | (v209, v210, v211, v212, v213, v214) => (2147483647 - v209.toInt).toNat) (1, 0, 0, 0, 0, 0) ⟨hP, hD, hS, lv_sub hl [0, 1, 2, 3, 4, 5, 6, 7, 8] rfl, hT, by omega⟩ (fun xx H locs ls hI ih => ?_)
      obtain ⟨v209, v210, v211, v212, v213, v214⟩ := xx
      obtain ⟨hP, hD, hS, hl, hT, hq427⟩ := hI
      have ih428 := ih
      refine lv_iload hx hb dX10_nights_39 (lv_at hl 0 rfl) ?_
      refine lv_iconst (v := 1) hx hb dX10_nights_41 (by decide) ?_
      refine lv_aload_n hx hb dX10_nights_42 rfl (lv_at hl 6 rfl) ?_
      refine ok1 hT ht0 (fun p470 a429 a430 a431 a432 a433 x434 x435 x436 a437 a438 a439 a440 a441 a442 a443 a444 a445 x446 a447 a448 hk471 h449 h450 h451 h452 h453 h454 h455 h456 h457 h458 h459 h460 h461 h462 h463 h464 h465 h466 h467 h468 h469 => ?_)
      refine va_get (D := D) (ci := 10) (v := .ref a429) (C := RX10) (T := TX10) (N := 20) hx hb hg inGX10 hown hKN.1 hP p470 hk471 rfl 0 (by decide) (hg _ kw_349) (fun _ h9 => h9) rfl dX10_nights_43 ?_
      refine ok2 hT h449 (fun p506 x472 a473 x474 a475 x476 a477 a478 x479 a480 a481 x482 a483 x484 hk507 h485 h486 h487 h488 h489 h490 h491 h492 h493 h494 h495 h496 h497 h498 h499 h500 h501 h502 h503 h504 h505 => ?_)
      refine va_getN (D := D) (ci := 6) (v := .int x476) (C := RX6) (T := TX6) (N := 13) hx hb hg inGX6 hown hKN.1 hP p506 hk507 rfl 4 (by decide) (va_Nw.use rfl (hKN.2.1 _ kn_48 rfl)) (fun _ h9 => h9) rfl dX10_nights_46 ?_
      refine lv_ishl hx hb dX10_nights_49 ?_
      refine lv_topi (fun v508 ev508 => ?_)
      have j575 := rgI v209
      have j576 := rgI v508
      refine lv_icmp_ge (tgt := 151) hx hb dX10_nights_50 (by decide) (fun c577 => ?_) (fun c577 => ?_)
      · skip
        have c577 := i_le (Eq.refl v508.toInt) (Eq.refl v209.toInt) c577
        refine lv_iload_n hx hb dX10_nights_151 rfl (lv_at hl 8 rfl) ?_
        refine lv_if_ne (tgt := 159) hx hb dX10_nights_152 (by decide) (fun c579 => ?_) (fun c579 => ?_)
        · skip
          have c579 := i_ne (Eq.refl p2.toInt) (show (0 : Int32).toInt = 0 by decide) c579
          refine lv_iload hx hb dX10_nights_159 (lv_at hl 4 rfl) ?_
          refine W.widen (k := 0) (n := 0) (Nat.le_of_ble_eq_true rfl) (Nat.le_of_ble_eq_true rfl) ?_
          exact W.iret (v := v213) hx hb hr (fun t ht hW => ⟨⟨v213, rfl, trivial, CB.mk ht hP hD⟩, hS.F ht⟩) hS.2.2 dX10_nights_161
        · skip
          have c579 := i_eq (Eq.refl p2.toInt) (show (0 : Int32).toInt = 0 by decide) c579
          refine lv_iload_n hx hb dX10_nights_155 rfl (lv_at hl 5 rfl) ?_
          refine lv_goto (tgt := 161) hx hb dX10_nights_156 (by decide) ?_
          refine W.widen (k := 0) (n := 0) (Nat.le_of_ble_eq_true rfl) (Nat.le_of_ble_eq_true rfl) ?_
          exact W.iret (v := v214) hx hb hr (fun t ht hW => ⟨⟨v214, rfl, trivial, CB.mk ht hP hD⟩, hS.F ht⟩) hS.2.2 dX10_nights_161
      · skip
        have c577 := i_nle (Eq.refl v508.toInt) (Eq.refl v209.toInt) c577
        refine lv_iload hx hb dX10_nights_53 (lv_at hl 2 rfl) ?_
        refine lv_aload_n hx hb dX10_nights_55 rfl (lv_at hl 6 rfl) ?_
        refine va_get (D := D) (ci := 10) (v := .ref a429) (C := RX10) (T := TX10) (N := 20) hx hb hg inGX10 hown hKN.1 hP p470 hk471 rfl 0 (by decide) (hg _ kw_349) (fun _ h9 => h9) rfl dX10_nights_56 ?_
        refine lv_aload_n hx hb dX10_nights_59 rfl (lv_at hl 6 rfl) ?_
        refine va_get (D := D) (ci := 10) (v := .ref a429) (C := RX10) (T := TX10) (N := 20) hx hb hg inGX10 hown hKN.1 hP p470 hk471 rfl 0 (by decide) (hg _ kw_349) (fun _ h9 => h9) rfl dX10_nights_60 ?_
        refine va_getN (D := D) (ci := 6) (v := .ref a477) (C := RX6) (T := TX6) (N := 13) hx hb hg inGX6 hown hKN.1 hP p506 hk507 rfl 5 (by decide) (va_Nw.use rfl (hKN.2.1 _ kn_50 rfl)) (fun _ h9 => h9) rfl dX10_nights_63 ?_
        refine lv_iload hx hb dX10_nights_66 (lv_at hl 0 rfl) ?_
        refine cga (rn_NV (As := [.ref a477, .int v209]) (rest := [.int v211]) (b := a429) (x_X6_stepUp l D Y Z H.size ws T g q 0 0 0 a429 a477 v209 hT h449 h494) ⟨hx, hb, hml, hown, hg⟩ hKN lk_X10_422 ⟨CPC.blind, va_recv hKN.1 hP (ci := 6) (q0 := p506) rfl hk507, CPC.at hP hKN hD hSZ hS hA⟩ ⟨⟨rfl, rfl⟩, ⟨Nat.le_of_ble_eq_true rfl, Nat.le_of_ble_eq_true rfl⟩, ⟨(Nat.le_of_ble_eq_true rfl), (Nat.le_of_ble_eq_true rfl)⟩⟩ hl.1 rfl (Nat.le_of_ble_eq_true rfl) dX10_nights_68) hP hD hS hA (fun u580 H locs hw581 hP hD hS => ?_)
        refine W.eq (g2 := F0 m 71 ls [.int u580, .int v211]) rfl ?_
        refine lv_iadd hx hb dX10_nights_71 ?_
        refine lv_topi (fun v583 ev583 => ?_)
        refine lv_istore (lv' := [(6, .int v583), (8, .int v209), (7, .int v210), (5, .int v212), (4, .int v213), (3, .int v214), (0, .ref p0), (1, .int p1), (2, .int p2)]) hx hb dX10_nights_72 hl (by decide) rfl (fun ls hl => ?_)
        refine lv_iload hx hb dX10_nights_74 (lv_at hl 2 rfl) ?_
        refine lv_aload_n hx hb dX10_nights_76 rfl (lv_at hl 6 rfl) ?_
        refine va_get (D := D) (ci := 10) (v := .ref a429) (C := RX10) (T := TX10) (N := 20) hx hb hg inGX10 hown hKN.1 hP p470 hk471 rfl 0 (by decide) (hg _ kw_349) (fun _ h9 => h9) rfl dX10_nights_77 ?_
        refine lv_aload_n hx hb dX10_nights_80 rfl (lv_at hl 6 rfl) ?_
        refine va_get (D := D) (ci := 10) (v := .ref a429) (C := RX10) (T := TX10) (N := 20) hx hb hg inGX10 hown hKN.1 hP p470 hk471 rfl 0 (by decide) (hg _ kw_349) (fun _ h9 => h9) rfl dX10_nights_81 ?_
        refine va_getN (D := D) (ci := 6) (v := .ref a478) (C := RX6) (T := TX6) (N := 13) hx hb hg inGX6 hown hKN.1 hP p506 hk507 rfl 6 (by decide) (va_Nw.use rfl (hKN.2.1 _ kn_52 rfl)) (fun _ h9 => h9) rfl dX10_nights_84 ?_
        refine lv_iload hx hb dX10_nights_87 (lv_at hl 1 rfl) ?_
        refine cga (rn_NV (As := [.ref a478, .int v209]) (rest := [.int v210]) (b := a429) (x_X6_stepUp l D Y Z H.size ws T g q 0 0 1 a429 a478 v209 hT h449 h496) ⟨hx, hb, hml, hown, hg⟩ hKN lk_X10_422 ⟨CPC.blind, va_recv hKN.1 hP (ci := 6) (q0 := p506) rfl hk507, CPC.at hP hKN hD hSZ hS hA⟩ ⟨⟨rfl, rfl⟩, ⟨Nat.le_of_ble_eq_true rfl, Nat.le_of_ble_eq_true rfl⟩, ⟨(Nat.le_of_ble_eq_true rfl), (Nat.le_of_ble_eq_true rfl)⟩⟩ hl.1 rfl (Nat.le_of_ble_eq_true rfl) dX10_nights_89) hP hD hS hA (fun u584 H locs hw585 hP hD hS => ?_)
        refine W.eq (g2 := F0 m 92 ls [.int u584, .int v210]) rfl ?_
        refine lv_iadd hx hb dX10_nights_92 ?_
        refine lv_topi (fun v587 ev587 => ?_)
        refine lv_istore (lv' := [(7, .int v587), (6, .int v583), (8, .int v209), (5, .int v212), (4, .int v213), (3, .int v214), (0, .ref p0), (1, .int p1), (2, .int p2)]) hx hb dX10_nights_93 hl (by decide) rfl (fun ls hl => ?_)
        refine lv_iload hx hb dX10_nights_95 (lv_at hl 0 rfl) ?_
        refine lv_iload hx hb dX10_nights_97 (lv_at hl 4 rfl) ?_
        have j595 := rgI v587
        have j596 := rgI v213
        refine lv_icmp_gt (tgt := 116) hx hb dX10_nights_99 (by decide) (fun c597 => ?_) (fun c597 => ?_)
        · skip
          have c597 := i_lt (Eq.refl v213.toInt) (Eq.refl v587.toInt) c597
          refine lv_iconst (v := 1) hx hb dX10_nights_116 (by decide) ?_
          refine lv_goto (tgt := 121) hx hb dX10_nights_117 (by decide) ?_
          refine lv_istore (lv' := [(9, .int 1), (7, .int v587), (6, .int v583), (8, .int v209), (5, .int v212), (4, .int v213), (3, .int v214), (0, .ref p0), (1, .int p1), (2, .int p2)]) hx hb dX10_nights_121 hl (by decide) rfl (fun ls hl => ?_)
          refine lv_iload hx hb dX10_nights_123 (lv_at hl 2 rfl) ?_
          refine lv_iload_n hx hb dX10_nights_125 rfl (lv_at hl 8 rfl) ?_
          refine w_join (σ := Int32 × Int32 × Int32) (pcJ := 145) (kJ := 0) (nJ := 0) (stk := fun xx => match xx with | (v601, v602, v603) => []) (fun xx H locs ls => match xx with | (v601, v602, v603) => va_P D vwCl ws H ∧ va_D A ws ∧ va_S A s.heap H locs ∧ lv_has ls 10 [(9, .int 1), (7, .int v587), (6, .int v583), (8, .int v209), (5, .int v601), (4, .int v602), (3, .int v603), (0, .ref p0), (1, .int p1), (2, .int p2)] ∧ TW Y Z T g q ws) (fun xx H locs ls hI => ?_) (fun jn604 => ?_)
          · skip
            obtain ⟨v601, v602, v603⟩ := xx
            obtain ⟨hP, hD, hS, hl, hT⟩ := hI
            refine W.eq (g2 := F0 m 145 ls []) rfl ?_
            obtain ⟨v605, ev605⟩ : ∃ y : Int32, y = v209 + 1 := ⟨_, rfl⟩
            have hv605 := i_add (Eq.refl v209.toInt) (show (1 : Int32).toInt = 1 by decide) ev605 (by omega) (by omega)
            refine lv_iinc (v := v605) (lv' := [(8, .int v605), (9, .int 1), (7, .int v587), (6, .int v583), (5, .int v601), (4, .int v602), (3, .int v603), (0, .ref p0), (1, .int p1), (2, .int p2)]) hx hb dX10_nights_145 hl (k := 3) rfl (by rw [ev605]; rfl) (by decide) rfl (fun ls hl => ?_)
            refine lv_goto (tgt := 39) hx hb dX10_nights_148 (by decide) ?_
            exact ih428 (v605, v587, v583, v601, v602, v603) H locs ls (by show (2147483647 - v605.toInt).toNat < (2147483647 - v209.toInt).toNat; omega) ⟨hP, hD, hS, lv_sub hl [0, 2, 3, 4, 5, 6, 7, 8, 9] rfl, hT, by omega⟩
          · skip
            have j606 := rgI v583
            refine lv_icmp_gt (tgt := 145) hx hb dX10_nights_126 (by decide) (fun c607 => ?_) (fun c607 => ?_)
            · skip
              have c607 := i_lt (Eq.refl p1.toInt) (Eq.refl v583.toInt) c607
              refine W.widen (k := 0) (n := 0) (Nat.le_of_ble_eq_true rfl) (Nat.le_of_ble_eq_true rfl) ?_
              exact jn604 (v212, v213, v214) H locs ls ⟨hP, hD, hS, lv_sub hl [0, 1, 2, 3, 4, 5, 6, 7, 8, 9] rfl, hT⟩
            · skip
              have c607 := i_nlt (Eq.refl p1.toInt) (Eq.refl v583.toInt) c607
              refine lv_iload hx hb dX10_nights_129 (lv_at hl 0 rfl) ?_
              refine lv_if_eq (tgt := 145) hx hb dX10_nights_131 (by decide) (fun c608 => ?_) (fun c608 => ?_)
              · exact absurd c608 (by decide)
              refine lv_iload hx hb dX10_nights_134 (lv_at hl 3 rfl) ?_
              refine lv_istore_n (lv' := [(3, .int v209), (9, .int 1), (7, .int v587), (6, .int v583), (8, .int v209), (5, .int v212), (4, .int v213), (0, .ref p0), (1, .int p1), (2, .int p2)]) hx hb dX10_nights_136 rfl hl (by decide) rfl (fun ls hl => ?_)
              refine lv_iload hx hb dX10_nights_137 (lv_at hl 2 rfl) ?_
              refine lv_istore (lv' := [(4, .int v587), (3, .int v209), (9, .int 1), (7, .int v587), (6, .int v583), (8, .int v209), (5, .int v212), (0, .ref p0), (1, .int p1), (2, .int p2)]) hx hb dX10_nights_139 hl (by decide) rfl (fun ls hl => ?_)
              refine lv_iload hx hb dX10_nights_141 (lv_at hl 4 rfl) ?_
              refine lv_istore (lv' := [(5, .int v583), (4, .int v587), (3, .int v209), (9, .int 1), (7, .int v587), (6, .int v583), (8, .int v209), (0, .ref p0), (1, .int p1), (2, .int p2)]) hx hb dX10_nights_143 hl (by decide) rfl (fun ls hl => ?_)
              refine W.widen (k := 0) (n := 0) (Nat.le_of_ble_eq_true rfl) (Nat.le_of_ble_eq_true rfl) ?_
              exact jn604 (v583, v587, v209) H locs ls ⟨hP, hD, hS, lv_sub hl [3, 4, 5, 6, 0, 1, 2, 7, 8, 9] rfl, hT⟩
        · skip
          have c597 := i_nlt (Eq.refl v213.toInt) (Eq.refl v587.toInt) c597
          refine lv_iload hx hb dX10_nights_102 (lv_at hl 0 rfl) ?_
          refine lv_iload hx hb dX10_nights_104 (lv_at hl 4 rfl) ?_
          refine lv_icmp_ne (tgt := 120) hx hb dX10_nights_106 (by decide) (fun c613 => ?_) (fun c613 => ?_)
          · skip
            have c613 := i_ne (Eq.refl v587.toInt) (Eq.refl v213.toInt) c613
            refine lv_iconst (v := 0) hx hb dX10_nights_120 (by decide) ?_
            refine lv_istore (lv' := [(9, .int 0), (7, .int v587), (6, .int v583), (8, .int v209), (5, .int v212), (4, .int v213), (3, .int v214), (0, .ref p0), (1, .int p1), (2, .int p2)]) hx hb dX10_nights_121 hl (by decide) rfl (fun ls hl => ?_)
            refine lv_iload hx hb dX10_nights_123 (lv_at hl 2 rfl) ?_
            refine lv_iload_n hx hb dX10_nights_125 rfl (lv_at hl 8 rfl) ?_
            refine w_join (σ := Unit) (pcJ := 145) (kJ := 0) (nJ := 0) (stk := fun xx => match xx with | _ => []) (fun xx H locs ls => match xx with | _ => va_P D vwCl ws H ∧ va_D A ws ∧ va_S A s.heap H locs ∧ lv_has ls 10 [(9, .int 0), (7, .int v587), (6, .int v583), (8, .int v209), (5, .int v212), (4, .int v213), (3, .int v214), (0, .ref p0), (1, .int p1), (2, .int p2)] ∧ TW Y Z T g q ws) (fun xx H locs ls hI => ?_) (fun jn617 => ?_)
            · skip
              obtain ⟨hP, hD, hS, hl, hT⟩ := hI
              refine W.eq (g2 := F0 m 145 ls []) rfl ?_
              obtain ⟨v618, ev618⟩ : ∃ y : Int32, y = v209 + 1 := ⟨_, rfl⟩
              have hv618 := i_add (Eq.refl v209.toInt) (show (1 : Int32).toInt = 1 by decide) ev618 (by omega) (by omega)
              refine lv_iinc (v := v618) (lv' := [(8, .int v618), (9, .int 0), (7, .int v587), (6, .int v583), (5, .int v212), (4, .int v213), (3, .int v214), (0, .ref p0), (1, .int p1), (2, .int p2)]) hx hb dX10_nights_145 hl (k := 3) rfl (by rw [ev618]; rfl) (by decide) rfl (fun ls hl => ?_)
              refine lv_goto (tgt := 39) hx hb dX10_nights_148 (by decide) ?_
              exact ih428 (v618, v587, v583, v212, v213, v214) H locs ls (by show (2147483647 - v618.toInt).toNat < (2147483647 - v209.toInt).toNat; omega) ⟨hP, hD, hS, lv_sub hl [0, 2, 3, 4, 5, 6, 7, 8, 9] rfl, hT, by omega⟩
            · skip
              have j619 := rgI v583
              refine lv_icmp_gt (tgt := 145) hx hb dX10_nights_126 (by decide) (fun c620 => ?_) (fun c620 => ?_)
              · skip
                have c620 := i_lt (Eq.refl p1.toInt) (Eq.refl v583.toInt) c620
                refine W.widen (k := 0) (n := 0) (Nat.le_of_ble_eq_true rfl) (Nat.le_of_ble_eq_true rfl) ?_
                exact jn617 (()) H locs ls ⟨hP, hD, hS, lv_sub hl [0, 1, 2, 3, 4, 5, 6, 7, 8, 9] rfl, hT⟩
              · skip
                have c620 := i_nlt (Eq.refl p1.toInt) (Eq.refl v583.toInt) c620
                refine lv_iload hx hb dX10_nights_129 (lv_at hl 0 rfl) ?_
                refine lv_if_eq (tgt := 145) hx hb dX10_nights_131 (by decide) (fun c621 => ?_) (fun c621 => ?_)
                rotate_left
                · exact absurd c621 (by decide)
                refine W.widen (k := 0) (n := 0) (Nat.le_of_ble_eq_true rfl) (Nat.le_of_ble_eq_true rfl) ?_
                exact jn617 (()) H locs ls ⟨hP, hD, hS, lv_sub hl [0, 1, 2, 3, 4, 5, 6, 7, 8, 9] rfl, hT⟩
          · skip
            have c613 := i_eq (Eq.refl v587.toInt) (Eq.refl v213.toInt) c613
            refine lv_iload hx hb dX10_nights_109 (lv_at hl 1 rfl) ?_
            refine lv_iload hx hb dX10_nights_111 (lv_at hl 3 rfl) ?_
            have j625 := rgI v583
            have j626 := rgI v212
            refine lv_icmp_ge (tgt := 120) hx hb dX10_nights_113 (by decide) (fun c627 => ?_) (fun c627 => ?_)
            · skip
              have c627 := i_le (Eq.refl v212.toInt) (Eq.refl v583.toInt) c627
              refine lv_iconst (v := 0) hx hb dX10_nights_120 (by decide) ?_
              refine lv_istore (lv' := [(9, .int 0), (7, .int v587), (6, .int v583), (8, .int v209), (5, .int v212), (4, .int v213), (3, .int v214), (0, .ref p0), (1, .int p1), (2, .int p2)]) hx hb dX10_nights_121 hl (by decide) rfl (fun ls hl => ?_)
              refine lv_iload hx hb dX10_nights_123 (lv_at hl 2 rfl) ?_
              refine lv_iload_n hx hb dX10_nights_125 rfl (lv_at hl 8 rfl) ?_
              refine w_join (σ := Unit) (pcJ := 145) (kJ := 0) (nJ := 0) (stk := fun xx => match xx with | _ => []) (fun xx H locs ls => match xx with | _ => va_P D vwCl ws H ∧ va_D A ws ∧ va_S A s.heap H locs ∧ lv_has ls 10 [(9, .int 0), (7, .int v587), (6, .int v583), (8, .int v209), (5, .int v212), (4, .int v213), (3, .int v214), (0, .ref p0), (1, .int p1), (2, .int p2)] ∧ TW Y Z T g q ws) (fun xx H locs ls hI => ?_) (fun jn630 => ?_)
              · skip
                obtain ⟨hP, hD, hS, hl, hT⟩ := hI
                refine W.eq (g2 := F0 m 145 ls []) rfl ?_
                obtain ⟨v631, ev631⟩ : ∃ y : Int32, y = v209 + 1 := ⟨_, rfl⟩
                have hv631 := i_add (Eq.refl v209.toInt) (show (1 : Int32).toInt = 1 by decide) ev631 (by omega) (by omega)
                refine lv_iinc (v := v631) (lv' := [(8, .int v631), (9, .int 0), (7, .int v587), (6, .int v583), (5, .int v212), (4, .int v213), (3, .int v214), (0, .ref p0), (1, .int p1), (2, .int p2)]) hx hb dX10_nights_145 hl (k := 3) rfl (by rw [ev631]; rfl) (by decide) rfl (fun ls hl => ?_)
                refine lv_goto (tgt := 39) hx hb dX10_nights_148 (by decide) ?_
                exact ih428 (v631, v587, v583, v212, v213, v214) H locs ls (by show (2147483647 - v631.toInt).toNat < (2147483647 - v209.toInt).toNat; omega) ⟨hP, hD, hS, lv_sub hl [0, 2, 3, 4, 5, 6, 7, 8, 9] rfl, hT, by omega⟩
              · skip
                refine lv_icmp_gt (tgt := 145) hx hb dX10_nights_126 (by decide) (fun c632 => ?_) (fun c632 => ?_)
                · skip
                  have c632 := i_lt (Eq.refl p1.toInt) (Eq.refl v583.toInt) c632
                  refine W.widen (k := 0) (n := 0) (Nat.le_of_ble_eq_true rfl) (Nat.le_of_ble_eq_true rfl) ?_
                  exact jn630 (()) H locs ls ⟨hP, hD, hS, lv_sub hl [0, 1, 2, 3, 4, 5, 6, 7, 8, 9] rfl, hT⟩
                · skip
                  have c632 := i_nlt (Eq.refl p1.toInt) (Eq.refl v583.toInt) c632
                  refine lv_iload hx hb dX10_nights_129 (lv_at hl 0 rfl) ?_
                  refine lv_if_eq (tgt := 145) hx hb dX10_nights_131 (by decide) (fun c633 => ?_) (fun c633 => ?_)
                  rotate_left
                  · exact absurd c633 (by decide)
                  refine W.widen (k := 0) (n := 0) (Nat.le_of_ble_eq_true rfl) (Nat.le_of_ble_eq_true rfl) ?_
                  exact jn630 (()) H locs ls ⟨hP, hD, hS, lv_sub hl [0, 1, 2, 3, 4, 5, 6, 7, 8, 9] rfl, hT⟩
            · skip
              have c627 := i_nle (Eq.refl v212.toInt) (Eq.refl v583.toInt) c627
              refine lv_iconst (v := 1) hx hb dX10_nights_116 (by decide) ?_
              refine lv_goto (tgt := 121) hx hb dX10_nights_117 (by decide) ?_
              refine lv_istore (lv' := [(9, .int 1), (7, .int v587), (6, .int v583), (8, .int v209), (5, .int v212), (4, .int v213), (3, .int v214), (0, .ref p0), (1, .int p1), (2, .int p2)]) hx hb dX10_nights_121 hl (by decide) rfl (fun ls hl => ?_)
              refine lv_iload hx hb dX10_nights_123 (lv_at hl 2 rfl) ?_
              refine lv_iload_n hx hb dX10_nights_125 rfl (lv_at hl 8 rfl) ?_
              refine w_join (σ := Int32 × Int32 × Int32) (pcJ := 145) (kJ := 0) (nJ := 0) (stk := fun xx => match xx with | (v636, v637, v638) => []) (fun xx H locs ls => match xx with | (v636, v637, v638) => va_P D vwCl ws H ∧ va_D A ws ∧ va_S A s.heap H locs ∧ lv_has ls 10 [(9, .int 1), (7, .int v587), (6, .int v583), (8, .int v209), (5, .int v636), (4, .int v637), (3, .int v638), (0, .ref p0), (1, .int p1), (2, .int p2)] ∧ TW Y Z T g q ws) (fun xx H locs ls hI => ?_) (fun jn639 => ?_)
              · skip
                obtain ⟨v636, v637, v638⟩ := xx
                obtain ⟨hP, hD, hS, hl, hT⟩ := hI
                refine W.eq (g2 := F0 m 145 ls []) rfl ?_
                obtain ⟨v640, ev640⟩ : ∃ y : Int32, y = v209 + 1 := ⟨_, rfl⟩
                have hv640 := i_add (Eq.refl v209.toInt) (show (1 : Int32).toInt = 1 by decide) ev640 (by omega) (by omega)
                refine lv_iinc (v := v640) (lv' := [(8, .int v640), (9, .int 1), (7, .int v587), (6, .int v583), (5, .int v636), (4, .int v637), (3, .int v638), (0, .ref p0), (1, .int p1), (2, .int p2)]) hx hb dX10_nights_145 hl (k := 3) rfl (by rw [ev640]; rfl) (by decide) rfl (fun ls hl => ?_)
                refine lv_goto (tgt := 39) hx hb dX10_nights_148 (by decide) ?_
                exact ih428 (v640, v587, v583, v636, v637, v638) H locs ls (by show (2147483647 - v640.toInt).toNat < (2147483647 - v209.toInt).toNat; omega) ⟨hP, hD, hS, lv_sub hl [0, 2, 3, 4, 5, 6, 7, 8, 9] rfl, hT, by omega⟩
              · skip
                refine lv_icmp_gt (tgt := 145) hx hb dX10_nights_126 (by decide) (fun c641 => ?_) (fun c641 => ?_)
                · skip
                  have c641 := i_lt (Eq.refl p1.toInt) (Eq.refl v583.toInt) c641
                  refine W.widen (k := 0) (n := 0) (Nat.le_of_ble_eq_true rfl) (Nat.le_of_ble_eq_true rfl) ?_
                  exact jn639 (v212, v213, v214) H locs ls ⟨hP, hD, hS, lv_sub hl [0, 1, 2, 3, 4, 5, 6, 7, 8, 9] rfl, hT⟩
                · skip
                  have c641 := i_nlt (Eq.refl p1.toInt) (Eq.refl v583.toInt) c641
                  refine lv_iload hx hb dX10_nights_129 (lv_at hl 0 rfl) ?_
                  refine lv_if_eq (tgt := 145) hx hb dX10_nights_131 (by decide) (fun c642 => ?_) (fun c642 => ?_)
                  · exact absurd c642 (by decide)
                  refine lv_iload hx hb dX10_nights_134 (lv_at hl 3 rfl) ?_
                  refine lv_istore_n (lv' := [(3, .int v209), (9, .int 1), (7, .int v587), (6, .int v583), (8, .int v209), (5, .int v212), (4, .int v213), (0, .ref p0), (1, .int p1), (2, .int p2)]) hx hb dX10_nights_136 rfl hl (by decide) rfl (fun ls hl => ?_)
                  refine lv_iload hx hb dX10_nights_137 (lv_at hl 2 rfl) ?_
                  refine lv_istore (lv' := [(4, .int v587), (3, .int v209), (9, .int 1), (7, .int v587), (6, .int v583), (8, .int v209), (5, .int v212), (0, .ref p0), (1, .int p1), (2, .int p2)]) hx hb dX10_nights_139 hl (by decide) rfl (fun ls hl => ?_)
                  refine lv_iload hx hb dX10_nights_141 (lv_at hl 4 rfl) ?_
                  refine lv_istore (lv' := [(5, .int v583), (4, .int v587), (3, .int v209), (9, .int 1), (7, .int v587), (6, .int v583), (8, .int v209), (0, .ref p0), (1, .int p1), (2, .int p2)]) hx hb dX10_nights_143 hl (by decide) rfl (fun ls hl => ?_)
                  refine W.widen (k := 0) (n := 0) (Nat.le_of_ble_eq_true rfl) (Nat.le_of_ble_eq_true rfl) ?_
                  exact jn639 (v583, v587, v209) H locs ls ⟨hP, hD, hS, lv_sub hl [3, 4, 5, 6, 0, 1, 2, 7, 8, 9] rfl, hT⟩
    · obtain rfl : u8 = 0 := i_is c13 (by decide)
      refine W.eq (g2 := F0 m 17 ls [.int 0]) rfl ?_
      refine lv_if_ne (tgt := 22) hx hb dX10_nights_17 (by decide) (fun c643 => ?_) (fun c643 => ?_)
      · exact absurd c643 (by decide)
      refine lv_iconst (v := (-1)) hx hb dX10_nights_20 (by decide) ?_
      refine W.widen (k := 0) (n := 0) (Nat.le_of_ble_eq_true rfl) (Nat.le_of_ble_eq_true rfl) ?_
      have zim1 : ((-1) : Int32).toInt = -1 := by decide
      exact W.iret (v := (-1)) hx hb hr (fun t ht hW => ⟨⟨((-1)), rfl, trivial, CB.mk ht hP hD⟩, hS.F ht⟩) hS.2.2 dX10_nights_21
  · obtain rfl : u1 = 0 := i_is c6 (by decide)
    refine W.eq (g2 := F0 m 8 ls [.int 0]) rfl ?_
    refine lv_if_eq (tgt := 20) hx hb dX10_nights_8 (by decide) (fun c644 => ?_) (fun c644 => ?_)
    rotate_left
    · exact absurd c644 (by decide)
    refine lv_iconst (v := (-1)) hx hb dX10_nights_20 (by decide) ?_
    refine W.widen (k := 0) (n := 0) (Nat.le_of_ble_eq_true rfl) (Nat.le_of_ble_eq_true rfl) ?_
    have zim1 : ((-1) : Int32).toInt = -1 := by decide
    exact W.iret (v := (-1)) hx hb hr (fun t ht hW => ⟨⟨((-1)), rfl, trivial, CB.mk ht hP hD⟩, hS.F ht⟩) hS.2.2 dX10_nights_21
set_option maxHeartbeats 4000000 in
set_option maxRecDepth 100000 in
theorem x_X10_count (l : Launch) (D : va_G) (Y : Nat → ClassId) (Z : Nat → Nat) (sz : Nat) (ws : va_W) (T : RT) (g : GN) (q : GQ)  (p0 : Nat) (p1 : Int32) (hT : TW Y Z T g q ws) (ht0 : T p0 = (1, 0, 0)) : Met l yX10_count (.code yX10_count cX10_count 2 (some .int) :: GW) ({ frames := 2, cells := 0, slots := 0, locals := 45 }) (va_Pc [.ref p0, .int p1] (CPC D Y Z ws sz)) (QG (S := Int32) (fun u => some (.int u)) (fun u => True) (fun u => CB D ws (va_A ws sz)) (va_A ws sz)) 0 0 (va_A ws sz) := by
  refine Met.ofW (cc := cX10_count) (maxL := 2) (ret := (some .int)) (by decide) rfl ?_
  intro p e s m args below meth c s₁ B hml hv
  obtain ⟨rfl, ⟨hsz, hP, hKN, hD0⟩, hSZ⟩ := hv
  have hx := B.exec
  have hb := B.bytes
  have hr := B.returns
  have hts := atoms_spec (ws := .code yX10_count cX10_count 2 (some .int) :: GW) B.pre
  have hg : ∀ w ∈ GW, w.before _ s = true := fun w h => hts w (List.mem_cons_of_mem _ h)
  have hown : s.vm.findClass RX10 = some m.cls := findClass_of_methodNamed B.named
  have hlocks := B.notSynchronized
  subst hsz
  have hD := hD0.self (sz := s.heap.size)
  generalize hAe : va_A ws s.heap.size = A at hD hSZ ⊢
  have hA : ∀ q : Nat, s.heap.size ≤ q → A q := fun q h => by rw [← hAe]; exact Or.inr h
  clear hAe hD0 hts B
  have hl := lv_entry ([.ref p0, .int p1]) (n := 2) (Nat.le_of_ble_eq_true rfl)
  rw [lg_entry_eq]
  generalize (lg_sl ([.ref p0, .int p1]) ++ List.replicate (2 - (lg_sl ([.ref p0, .int p1])).length) Slot.unset).toArray = ls at hl ⊢
  have hl : lv_has ls 2 [(0, .ref p0), (1, .int p1)] := hl
  refine w_start (A0 := A) hP (fun H locs hP hS => ?_)
  refine lv_iload_n hx hb dX10_count_0 rfl (lv_at hl 1 rfl) ?_
  rcases (show p1.toInt < 0 ∨ 7 < p1.toInt ∨ p1.toInt = 0 ∨ p1.toInt = 1 ∨ p1.toInt = 2 ∨ p1.toInt = 3 ∨ p1.toInt = 4 ∨ p1.toInt = 5 ∨ p1.toInt = 6 ∨ p1.toInt = 7 by omega) with c1 | c1 | c1 | c1 | c1 | c1 | c1 | c1 | c1 | c1
  · refine lv_tableOut (tgt := 103) hx hb dX10_count_1 (Or.inl c1) (by decide) ?_
    refine lv_iconst (v := (-1)) hx hb dX10_count_103 (by decide) ?_
    refine W.widen (k := 0) (n := 0) (Nat.le_of_ble_eq_true rfl) (Nat.le_of_ble_eq_true rfl) ?_
    have zim1 : ((-1) : Int32).toInt = -1 := by decide
    exact W.iret (v := (-1)) hx hb hr (fun t ht hW => ⟨⟨((-1)), rfl, trivial, CB.mk ht hP hD⟩, hS.F ht⟩) hS.2.2 dX10_count_104
  · refine lv_tableOut (tgt := 103) hx hb dX10_count_1 (Or.inr c1) (by decide) ?_
    refine lv_iconst (v := (-1)) hx hb dX10_count_103 (by decide) ?_
    refine W.widen (k := 0) (n := 0) (Nat.le_of_ble_eq_true rfl) (Nat.le_of_ble_eq_true rfl) ?_
    have zim1 : ((-1) : Int32).toInt = -1 := by decide
    exact W.iret (v := (-1)) hx hb hr (fun t ht hW => ⟨⟨((-1)), rfl, trivial, CB.mk ht hP hD⟩, hS.F ht⟩) hS.2.2 dX10_count_104
  · refine lv_tableIn (off := 47) (tgt := 48) hx hb dX10_count_1 (by rw [c1]; decide) (by rw [c1]; decide) (by rw [c1]; rfl) (by decide) ?_
    refine lv_aload_n hx hb dX10_count_48 rfl (lv_at hl 0 rfl) ?_
    refine ok1 hT ht0 (fun p43 a2 a3 a4 a5 a6 x7 x8 x9 a10 a11 a12 a13 a14 a15 a16 a17 a18 x19 a20 a21 hk44 h22 h23 h24 h25 h26 h27 h28 h29 h30 h31 h32 h33 h34 h35 h36 h37 h38 h39 h40 h41 h42 => ?_)
    refine va_get (D := D) (ci := 10) (v := .ref a2) (C := RX10) (T := TX10) (N := 20) hx hb hg inGX10 hown hKN.1 hP p43 hk44 rfl 0 (by decide) (hg _ kw_349) (fun _ h9 => h9) rfl dX10_count_49 ?_
    refine ok2 hT h22 (fun p79 x45 a46 x47 a48 x49 a50 a51 x52 a53 a54 x55 a56 x57 hk80 h58 h59 h60 h61 h62 h63 h64 h65 h66 h67 h68 h69 h70 h71 h72 h73 h74 h75 h76 h77 h78 => ?_)
    refine va_getN (D := D) (ci := 6) (v := .int x45) (C := RX6) (T := TX6) (N := 13) hx hb hg inGX6 hown hKN.1 hP p79 hk80 rfl 0 (by decide) (va_Nw.use rfl (hKN.2.1 _ kn_41 rfl)) (fun _ h9 => h9) rfl dX10_count_52 ?_
    refine W.widen (k := 0) (n := 0) (Nat.le_of_ble_eq_true rfl) (Nat.le_of_ble_eq_true rfl) ?_
    exact W.iret (v := x45) hx hb hr (fun t ht hW => ⟨⟨x45, rfl, trivial, CB.mk ht hP hD⟩, hS.F ht⟩) hS.2.2 dX10_count_55
  · refine lv_tableIn (off := 55) (tgt := 56) hx hb dX10_count_1 (by rw [c1]; decide) (by rw [c1]; decide) (by rw [c1]; rfl) (by decide) ?_
    refine lv_aload_n hx hb dX10_count_56 rfl (lv_at hl 0 rfl) ?_
    refine ok1 hT ht0 (fun p122 a81 a82 a83 a84 a85 x86 x87 x88 a89 a90 a91 a92 a93 a94 a95 a96 a97 x98 a99 a100 hk123 h101 h102 h103 h104 h105 h106 h107 h108 h109 h110 h111 h112 h113 h114 h115 h116 h117 h118 h119 h120 h121 => ?_)
    refine va_get (D := D) (ci := 10) (v := .ref a81) (C := RX10) (T := TX10) (N := 20) hx hb hg inGX10 hown hKN.1 hP p122 hk123 rfl 0 (by decide) (hg _ kw_349) (fun _ h9 => h9) rfl dX10_count_57 ?_
    refine ok2 hT h101 (fun p158 x124 a125 x126 a127 x128 a129 a130 x131 a132 a133 x134 a135 x136 hk159 h137 h138 h139 h140 h141 h142 h143 h144 h145 h146 h147 h148 h149 h150 h151 h152 h153 h154 h155 h156 h157 => ?_)
    refine va_getN (D := D) (ci := 6) (v := .int x126) (C := RX6) (T := TX6) (N := 13) hx hb hg inGX6 hown hKN.1 hP p158 hk159 rfl 2 (by decide) (va_Nw.use rfl (hKN.2.1 _ kn_44 rfl)) (fun _ h9 => h9) rfl dX10_count_60 ?_
    refine W.widen (k := 0) (n := 0) (Nat.le_of_ble_eq_true rfl) (Nat.le_of_ble_eq_true rfl) ?_
    exact W.iret (v := x126) hx hb hr (fun t ht hW => ⟨⟨x126, rfl, trivial, CB.mk ht hP hD⟩, hS.F ht⟩) hS.2.2 dX10_count_63
  · refine lv_tableIn (off := 63) (tgt := 64) hx hb dX10_count_1 (by rw [c1]; decide) (by rw [c1]; decide) (by rw [c1]; rfl) (by decide) ?_
    refine lv_aload_n hx hb dX10_count_64 rfl (lv_at hl 0 rfl) ?_
    refine ok1 hT ht0 (fun p201 a160 a161 a162 a163 a164 x165 x166 x167 a168 a169 a170 a171 a172 a173 a174 a175 a176 x177 a178 a179 hk202 h180 h181 h182 h183 h184 h185 h186 h187 h188 h189 h190 h191 h192 h193 h194 h195 h196 h197 h198 h199 h200 => ?_)
    refine va_get (D := D) (ci := 10) (v := .int x165) (C := RX10) (T := TX10) (N := 20) hx hb hg inGX10 hown hKN.1 hP p201 hk202 rfl 5 (by decide) (hg _ kw_354) (fun _ h9 => h9) rfl dX10_count_65 ?_
    refine W.widen (k := 0) (n := 0) (Nat.le_of_ble_eq_true rfl) (Nat.le_of_ble_eq_true rfl) ?_
    exact W.iret (v := x165) hx hb hr (fun t ht hW => ⟨⟨x165, rfl, trivial, CB.mk ht hP hD⟩, hS.F ht⟩) hS.2.2 dX10_count_68
  · refine lv_tableIn (off := 68) (tgt := 69) hx hb dX10_count_1 (by rw [c1]; decide) (by rw [c1]; decide) (by rw [c1]; rfl) (by decide) ?_
    refine lv_aload_n hx hb dX10_count_69 rfl (lv_at hl 0 rfl) ?_
    refine ok1 hT ht0 (fun p244 a203 a204 a205 a206 a207 x208 x209 x210 a211 a212 a213 a214 a215 a216 a217 a218 a219 x220 a221 a222 hk245 h223 h224 h225 h226 h227 h228 h229 h230 h231 h232 h233 h234 h235 h236 h237 h238 h239 h240 h241 h242 h243 => ?_)
    refine va_get (D := D) (ci := 10) (v := .int x209) (C := RX10) (T := TX10) (N := 20) hx hb hg inGX10 hown hKN.1 hP p244 hk245 rfl 6 (by decide) (hg _ kw_355) (fun _ h9 => h9) rfl dX10_count_70 ?_
    refine W.widen (k := 0) (n := 0) (Nat.le_of_ble_eq_true rfl) (Nat.le_of_ble_eq_true rfl) ?_
    exact W.iret (v := x209) hx hb hr (fun t ht hW => ⟨⟨x209, rfl, trivial, CB.mk ht hP hD⟩, hS.F ht⟩) hS.2.2 dX10_count_73
  · refine lv_tableIn (off := 73) (tgt := 74) hx hb dX10_count_1 (by rw [c1]; decide) (by rw [c1]; decide) (by rw [c1]; rfl) (by decide) ?_
    refine lv_aload_n hx hb dX10_count_74 rfl (lv_at hl 0 rfl) ?_
    refine ok1 hT ht0 (fun p287 a246 a247 a248 a249 a250 x251 x252 x253 a254 a255 a256 a257 a258 a259 a260 a261 a262 x263 a264 a265 hk288 h266 h267 h268 h269 h270 h271 h272 h273 h274 h275 h276 h277 h278 h279 h280 h281 h282 h283 h284 h285 h286 => ?_)
    refine va_get (D := D) (ci := 10) (v := .int x253) (C := RX10) (T := TX10) (N := 20) hx hb hg inGX10 hown hKN.1 hP p287 hk288 rfl 7 (by decide) (hg _ kw_356) (fun _ h9 => h9) rfl dX10_count_75 ?_
    refine W.widen (k := 0) (n := 0) (Nat.le_of_ble_eq_true rfl) (Nat.le_of_ble_eq_true rfl) ?_
    exact W.iret (v := x253) hx hb hr (fun t ht hW => ⟨⟨x253, rfl, trivial, CB.mk ht hP hD⟩, hS.F ht⟩) hS.2.2 dX10_count_78
  · refine lv_tableIn (off := 78) (tgt := 79) hx hb dX10_count_1 (by rw [c1]; decide) (by rw [c1]; decide) (by rw [c1]; rfl) (by decide) ?_
    refine lv_aload_n hx hb dX10_count_79 rfl (lv_at hl 0 rfl) ?_
    refine ok1 hT ht0 (fun p330 a289 a290 a291 a292 a293 x294 x295 x296 a297 a298 a299 a300 a301 a302 a303 a304 a305 x306 a307 a308 hk331 h309 h310 h311 h312 h313 h314 h315 h316 h317 h318 h319 h320 h321 h322 h323 h324 h325 h326 h327 h328 h329 => ?_)
    refine va_get (D := D) (ci := 10) (v := .ref a289) (C := RX10) (T := TX10) (N := 20) hx hb hg inGX10 hown hKN.1 hP p330 hk331 rfl 0 (by decide) (hg _ kw_349) (fun _ h9 => h9) rfl dX10_count_80 ?_
    refine ok2 hT h309 (fun p366 x332 a333 x334 a335 x336 a337 a338 x339 a340 a341 x342 a343 x344 hk367 h345 h346 h347 h348 h349 h350 h351 h352 h353 h354 h355 h356 h357 h358 h359 h360 h361 h362 h363 h364 h365 => ?_)
    refine va_getN (D := D) (ci := 6) (v := .int x336) (C := RX6) (T := TX6) (N := 13) hx hb hg inGX6 hown hKN.1 hP p366 hk367 rfl 4 (by decide) (va_Nw.use rfl (hKN.2.1 _ kn_48 rfl)) (fun _ h9 => h9) rfl dX10_count_83 ?_
    refine W.widen (k := 0) (n := 0) (Nat.le_of_ble_eq_true rfl) (Nat.le_of_ble_eq_true rfl) ?_
    exact W.iret (v := x336) hx hb hr (fun t ht hW => ⟨⟨x336, rfl, trivial, CB.mk ht hP hD⟩, hS.F ht⟩) hS.2.2 dX10_count_86
  · refine lv_tableIn (off := 86) (tgt := 87) hx hb dX10_count_1 (by rw [c1]; decide) (by rw [c1]; decide) (by rw [c1]; rfl) (by decide) ?_
    refine lv_aload_n hx hb dX10_count_87 rfl (lv_at hl 0 rfl) ?_
    refine ok1 hT ht0 (fun p409 a368 a369 a370 a371 a372 x373 x374 x375 a376 a377 a378 a379 a380 a381 a382 a383 a384 x385 a386 a387 hk410 h388 h389 h390 h391 h392 h393 h394 h395 h396 h397 h398 h399 h400 h401 h402 h403 h404 h405 h406 h407 h408 => ?_)
    refine va_get (D := D) (ci := 10) (v := .ref a368) (C := RX10) (T := TX10) (N := 20) hx hb hg inGX10 hown hKN.1 hP p409 hk410 rfl 0 (by decide) (hg _ kw_349) (fun _ h9 => h9) rfl dX10_count_88 ?_
    refine ok2 hT h388 (fun p445 x411 a412 x413 a414 x415 a416 a417 x418 a419 a420 x421 a422 x423 hk446 h424 h425 h426 h427 h428 h429 h430 h431 h432 h433 h434 h435 h436 h437 h438 h439 h440 h441 h442 h443 h444 => ?_)
    refine cga (rn_NV (As := []) (rest := []) (b := a368) (x_X6_numbers l D Y Z H.size ws T g q 0 a368 hT h388) ⟨hx, hb, hml, hown, hg⟩ hKN lk_X10_426 ⟨CPC.blind, va_recv hKN.1 hP (ci := 6) (q0 := p445) rfl hk446, CPC.at hP hKN hD hSZ hS hA⟩ ⟨⟨rfl, rfl⟩, ⟨Nat.le_of_ble_eq_true rfl, Nat.le_of_ble_eq_true rfl⟩, ⟨(Nat.le_of_ble_eq_true rfl), (Nat.le_of_ble_eq_true rfl)⟩⟩ hl.1 rfl (Nat.le_of_ble_eq_true rfl) dX10_count_91) hP hD hS hA (fun u447 H locs hw448 hP hD hS => ?_)
    refine W.eq (g2 := F0 m 94 ls [.int u447]) rfl ?_
    refine W.widen (k := 0) (n := 0) (Nat.le_of_ble_eq_true rfl) (Nat.le_of_ble_eq_true rfl) ?_
    exact W.iret (v := u447) hx hb hr (fun t ht hW => ⟨⟨u447, rfl, trivial, CB.mk ht hP hD⟩, hS.F ht⟩) hS.2.2 dX10_count_94
  · refine lv_tableIn (off := 94) (tgt := 95) hx hb dX10_count_1 (by rw [c1]; decide) (by rw [c1]; decide) (by rw [c1]; rfl) (by decide) ?_
    refine lv_aload_n hx hb dX10_count_95 rfl (lv_at hl 0 rfl) ?_
    refine ok1 hT ht0 (fun p491 a450 a451 a452 a453 a454 x455 x456 x457 a458 a459 a460 a461 a462 a463 a464 a465 a466 x467 a468 a469 hk492 h470 h471 h472 h473 h474 h475 h476 h477 h478 h479 h480 h481 h482 h483 h484 h485 h486 h487 h488 h489 h490 => ?_)
    refine va_get (D := D) (ci := 10) (v := .ref a450) (C := RX10) (T := TX10) (N := 20) hx hb hg inGX10 hown hKN.1 hP p491 hk492 rfl 0 (by decide) (hg _ kw_349) (fun _ h9 => h9) rfl dX10_count_96 ?_
    refine ok2 hT h470 (fun p527 x493 a494 x495 a496 x497 a498 a499 x500 a501 a502 x503 a504 x505 hk528 h506 h507 h508 h509 h510 h511 h512 h513 h514 h515 h516 h517 h518 h519 h520 h521 h522 h523 h524 h525 h526 => ?_)
    refine va_getN (D := D) (ci := 6) (v := .int x505) (C := RX6) (T := TX6) (N := 13) hx hb hg inGX6 hown hKN.1 hP p527 hk528 rfl 12 (by decide) (va_Nw.use rfl (hKN.2.1 _ kn_68 rfl)) (fun _ h9 => h9) rfl dX10_count_99 ?_
    refine W.widen (k := 0) (n := 0) (Nat.le_of_ble_eq_true rfl) (Nat.le_of_ble_eq_true rfl) ?_
    exact W.iret (v := x505) hx hb hr (fun t ht hW => ⟨⟨x505, rfl, trivial, CB.mk ht hP hD⟩, hS.F ht⟩) hS.2.2 dX10_count_102

