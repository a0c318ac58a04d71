set_option maxHeartbeats 4000000 in
set_option maxRecDepth 100000 in
theorem x_X10_next (l : Launch) (D : va_G) (Y : Nat → ClassId) (Z : Nat → Nat) (sz : Nat) (ws : va_W) (T : RT) (g : GN) (q : GQ)  (p0 : Nat) (p1 : Int32) (p2 : Int32) (p3 : Int32) (hT : TW Y Z T g q ws) (ht0 : T p0 = (1, 0, 0)) : Met l yX10_next (.code yX10_next cX10_next 6 (some .int) :: GW) ({ frames := 5, cells := 1, slots := 7, locals := 133 }) (va_Pc [.ref p0, .int p1, .int p2, .int p3] (CPC D Y Z ws sz)) (QG (S := Int32 × va_W × RT) (fun u => some (.int u.1)) (fun u => TLe T u.2.2 ∧ TW Y Z u.2.2 g q u.2.1 ∧ KF 1 T ws u.2.1) (fun u => CB D u.2.1 (va_A ws sz)) (va_A ws sz)) 1 7 (va_A ws sz) := by
  refine Met.ofW (cc := cX10_next) (maxL := 6) (ret := (some .int)) (by decide) rfl ?_
  intro p e s m args below meth c s₁ B hml hv
  obtain ⟨rfl, ⟨hsz, hP, hKN, hD0⟩, hSZ⟩ := hv
  have hx := B.exec
  have hb := B.bytes
  have hr := B.returns
  have hts := atoms_spec (ws := .code yX10_next cX10_next 6 (some .int) :: GW) B.pre
  have hg : ∀ w ∈ GW, w.before _ s = true := fun w h => hts w (List.mem_cons_of_mem _ h)
  have hown : s.vm.findClass RX10 = some m.cls := findClass_of_methodNamed B.named
  have hlocks := B.notSynchronized
  subst hsz
  have hD := hD0.self (sz := s.heap.size)
  generalize hAe : va_A ws s.heap.size = A at hD hSZ ⊢
  have hA : ∀ q : Nat, s.heap.size ≤ q → A q := fun q h => by rw [← hAe]; exact Or.inr h
  clear hAe hD0 hts B
  have hl := lv_entry ([.ref p0, .int p1, .int p2, .int p3]) (n := 6) (Nat.le_of_ble_eq_true rfl)
  rw [lg_entry_eq]
  generalize (lg_sl ([.ref p0, .int p1, .int p2, .int p3]) ++ List.replicate (6 - (lg_sl ([.ref p0, .int p1, .int p2, .int p3])).length) Slot.unset).toArray = ls at hl ⊢
  have hl : lv_has ls 6 [(0, .ref p0), (1, .int p1), (2, .int p2), (3, .int p3)] := hl
  refine w_start (A0 := A) hP (fun H locs hP hS => ?_)
  refine lv_aload_n hx hb dX10_next_0 rfl (lv_at hl 0 rfl) ?_
  refine lv_iload_n hx hb dX10_next_1 rfl (lv_at hl 1 rfl) ?_
  refine ok1 hT ht0 (fun p42 a1 a2 a3 a4 a5 x6 x7 x8 a9 a10 a11 a12 a13 a14 a15 a16 a17 x18 a19 a20 hk43 h21 h22 h23 h24 h25 h26 h27 h28 h29 h30 h31 h32 h33 h34 h35 h36 h37 h38 h39 h40 h41 => ?_)
  refine cga (rn_V (As := [.int p1]) (rest := []) (b := p0) (x_X10_searchAt l D Y Z H.size ws T g q p0 p1 hT ht0) ⟨hx, hb, hml, hown, hg⟩ lk_X10_259 ⟨CPC.blind, va_recv hKN.1 hP (ci := 10) (q0 := p42) rfl hk43, CPC.at hP hKN hD hSZ hS hA⟩ ⟨⟨rfl, rfl⟩, ⟨Nat.le_of_ble_eq_true rfl, Nat.le_of_ble_eq_true rfl⟩, ⟨(Nat.le_of_ble_eq_true rfl), (Nat.le_of_ble_eq_true rfl)⟩⟩ hl.1 rfl (Nat.le_of_ble_eq_true rfl) dX10_next_2) hP hD hS hA (fun u44 H locs hw45 hP hD hS => ?_)
  obtain ⟨ht47, hw48⟩ : (∀ b, u44 = some b → T b = (5, 0, 0)) ∧ (∀ b, u44 = some b → 0 ≤ p1.toInt ∧ p1.toInt ≤ 5) := hw45
  refine W.eq (g2 := F0 m 5 ls [va_rf u44]) rfl ?_
  rcases u44 with _ | b49
  · skip
    refine W.eq (g2 := F0 m 5 ls [.null]) rfl ?_
    refine lv_ifnullN (tgt := 27) hx hb dX10_next_5 (by decide) ?_
    refine lv_iconst (v := (-1)) hx hb dX10_next_27 (by decide) ?_
    refine W.widen (k := 1) (n := 7) (Nat.le_of_ble_eq_true rfl) (Nat.le_of_ble_eq_true rfl) ?_
    have zim1 : ((-1) : Int32).toInt = -1 := by decide
    exact W.iret (v := (-1)) hx hb hr (fun t ht hW => ⟨⟨(((-1)), ws, T), rfl, ⟨TLe.rf, hT, KF.rf⟩, CB.mk ht hP hD⟩, hS.F ht⟩) hS.2.2 dX10_next_28
  · skip
    have ht50 := ht47 b49 rfl
    have h51 := hw48 b49 rfl
    refine W.eq (g2 := F0 m 5 ls [.ref b49]) rfl ?_
    refine lv_ifnull hx hb dX10_next_5 ?_
    refine lv_aload_n hx hb dX10_next_8 rfl (lv_at hl 0 rfl) ?_
    refine lv_iload_n hx hb dX10_next_9 rfl (lv_at hl 2 rfl) ?_
    refine cga (rn_V (As := [.int p2]) (rest := []) (b := p0) (x_X10_isStar l D Y Z H.size ws T g q p0 p2 hT ht0) ⟨hx, hb, hml, hown, hg⟩ lk_X10_137 ⟨CPC.blind, va_recv hKN.1 hP (ci := 10) (q0 := p42) rfl hk43, CPC.at hP hKN hD hSZ hS hA⟩ ⟨⟨rfl, rfl⟩, ⟨Nat.le_of_ble_eq_true rfl, Nat.le_of_ble_eq_true rfl⟩, ⟨(Nat.le_of_ble_eq_true rfl), (Nat.le_of_ble_eq_true rfl)⟩⟩ hl.1 rfl (Nat.le_of_ble_eq_true rfl) dX10_next_10) hP hD hS hA (fun u52 H locs hw53 hP hD hS => ?_)
    obtain ⟨hw55, hw56⟩ : (0 ≤ u52.toInt ∧ u52.toInt ≤ 1) ∧ (u52.toInt = 1 → (0 ≤ p2.toInt ∧ p2.toInt ≤ 11)) := hw53
    refine W.eq (g2 := F0 m 13 ls [.int u52]) rfl ?_
    rcases (show u52.toInt = 1 ∨ u52.toInt = 0 by omega) with c57 | c57
    · obtain rfl : u52 = 1 := i_is c57 (by decide)
      have zi1 : (1 : Int32).toInt = 1 := by decide
      replace hw56 := hw56 (by decide)
      refine W.eq (g2 := F0 m 13 ls [.int 1]) rfl ?_
      refine lv_if_eq (tgt := 27) hx hb dX10_next_13 (by decide) (fun c58 => ?_) (fun c58 => ?_)
      · exact absurd c58 (by decide)
      refine lv_iload_n hx hb dX10_next_16 rfl (lv_at hl 3 rfl) ?_
      refine lv_iconst (v := 0) hx hb dX10_next_17 (by decide) ?_
      refine lv_ldcw (v := 99999) hx hb hown (hg _ kw_948) dX10_next_18 ?_
      have zi0 : (0 : Int32).toInt = 0 := by decide
      have zi99999 : (99999 : Int32).toInt = 99999 := by decide
      refine cg0 (rn_S (As := [.int p3, .int 0, .int 99999]) (rest := []) (x_X10_isWithin l D Y Z H.size p3 0 99999) ⟨hx, hb, hml, hown, hg⟩ lk_X10_100 ⟨CP.blind, CP.at nilP hKN (nilD (A := fun _ => True))⟩ ⟨⟨rfl, rfl⟩, ⟨Nat.le_of_ble_eq_true rfl, Nat.le_of_ble_eq_true rfl⟩, ⟨(Nat.le_of_ble_eq_true rfl), (Nat.le_of_ble_eq_true rfl)⟩⟩ hl.1 rfl (Nat.le_of_ble_eq_true rfl) dX10_next_21) hP hS hA (fun u59 H locs hw60 hP hS => ?_)
      obtain ⟨hw62, hw63⟩ : (((0 : Int32).toInt ≤ p3.toInt ∧ p3.toInt ≤ (99999 : Int32).toInt ∧ u59.toInt = 1) ∨ (¬ ((0 : Int32).toInt ≤ p3.toInt ∧ p3.toInt ≤ (99999 : Int32).toInt) ∧ u59.toInt = 0)) ∧ (0 ≤ u59.toInt ∧ u59.toInt ≤ 1) := hw60
      refine W.eq (g2 := F0 m 24 ls [.int u59]) rfl ?_
      rcases (show u59.toInt = 1 ∨ u59.toInt = 0 by omega) with c64 | c64
      · obtain rfl : u59 = 1 := i_is c64 (by decide)
        refine W.eq (g2 := F0 m 24 ls [.int 1]) rfl ?_
        refine lv_if_ne (tgt := 29) hx hb dX10_next_24 (by decide) (fun c65 => ?_) (fun c65 => ?_)
        rotate_left
        · exact absurd c65 (by decide)
        refine lv_aload_n hx hb dX10_next_29 rfl (lv_at hl 0 rfl) ?_
        refine lv_iload_n hx hb dX10_next_30 rfl (lv_at hl 1 rfl) ?_
        refine lv_iload_n hx hb dX10_next_31 rfl (lv_at hl 2 rfl) ?_
        refine lv_iconst (v := 0) hx hb dX10_next_32 (by decide) ?_
        refine cga (rn_V (As := [.int p1, .int p2, .int 0]) (rest := []) (b := p0) (x_X10_findingOf l D Y Z H.size ws T g q p0 p1 p2 0 hT ht0) ⟨hx, hb, hml, hown, hg⟩ lk_X10_264 ⟨CPC.blind, va_recv hKN.1 hP (ci := 10) (q0 := p42) rfl hk43, CPC.at hP hKN hD hSZ hS hA⟩ ⟨⟨rfl, rfl⟩, ⟨Nat.le_of_ble_eq_true rfl, Nat.le_of_ble_eq_true rfl⟩, ⟨(Nat.le_of_ble_eq_true rfl), (Nat.le_of_ble_eq_true rfl)⟩⟩ hl.1 rfl (Nat.le_of_ble_eq_true rfl) dX10_next_33) hP hD hS hA (fun u66 H locs hw67 hP hD hS => ?_)
        refine W.widen (k := 1) (n := 7) (Nat.le_of_ble_eq_true rfl) (Nat.le_of_ble_eq_true rfl) ?_
        obtain ⟨b68, w69, T70⟩ := u66
        obtain ⟨le71, hT, ke72, ht73⟩ : TLe T T70 ∧ TW Y Z T70 g q w69 ∧ KF 1 T ws w69 ∧ T70 b68 = (6, 0, 0) := hw67
        have hk74 := ke72 _ _ hk43 (show (T p0).1 = 1 by rw [ht0])
        have ke75 : KF 1 T ws w69 := KF.tr KF.rf ke72
        refine W.eq (g2 := F0 m 36 ls [.ref b68]) rfl ?_
        refine lv_astore (lv' := [(4, .ref b68), (0, .ref p0), (1, .int p1), (2, .int p2), (3, .int p3)]) hx hb dX10_next_36 hl (by decide) rfl (fun ls hl => ?_)
        refine lv_aload hx hb dX10_next_38 (lv_at hl 0 rfl) ?_
        refine ok6 hT ht73 (fun p84 x76 x77 x78 x79 x80 y81 y82 hk85 h83 => ?_)
        refine cga (rn_NV (As := []) (rest := []) (b := b68) (x_X1_isNone l D Y Z H.size w69 T70 g q b68 p84 x76 x77 x78 x79 x80 y81 y82 hT ht73 hk85) ⟨hx, hb, hml, hown, hg⟩ hKN lk_X10_315 ⟨CPC.blind, va_recv hKN.1 hP (ci := 1) (q0 := p84) rfl hk85, CPC.at hP hKN hD hSZ hS hA⟩ ⟨⟨rfl, rfl⟩, ⟨Nat.le_of_ble_eq_true rfl, Nat.le_of_ble_eq_true rfl⟩, ⟨(Nat.le_of_ble_eq_true rfl), (Nat.le_of_ble_eq_true rfl)⟩⟩ hl.1 rfl (Nat.le_of_ble_eq_true rfl) dX10_next_40) hP hD hS hA (fun u86 H locs hw87 hP hD hS => ?_)
        obtain ⟨hw89, hw90⟩ : (0 ≤ u86.toInt ∧ u86.toInt ≤ 1) ∧ (u86.toInt = 0 → 1 ≤ x77.toInt) := hw87
        refine W.eq (g2 := F0 m 43 ls [.int u86]) rfl ?_
        rcases (show u86.toInt = 1 ∨ u86.toInt = 0 by omega) with c91 | c91
        · obtain rfl : u86 = 1 := i_is c91 (by decide)
          clear hw90
          refine W.eq (g2 := F0 m 43 ls [.int 1]) rfl ?_
          refine lv_if_eq (tgt := 49) hx hb dX10_next_43 (by decide) (fun c92 => ?_) (fun c92 => ?_)
          · exact absurd c92 (by decide)
          refine lv_bipush (v := (-2)) hx hb dX10_next_46 (by decide) ?_
          refine W.widen (k := 1) (n := 7) (Nat.le_of_ble_eq_true rfl) (Nat.le_of_ble_eq_true rfl) ?_
          have zim2 : ((-2) : Int32).toInt = -2 := by decide
          exact W.iret (v := (-2)) hx hb hr (fun t ht hW => ⟨⟨(((-2)), w69, T70), rfl, ⟨le71, hT, ke75⟩, CB.mk ht hP hD⟩, hS.F ht⟩) hS.2.2 dX10_next_48
        · obtain rfl : u86 = 0 := i_is c91 (by decide)
          replace hw90 := hw90 (by decide)
          refine W.eq (g2 := F0 m 43 ls [.int 0]) rfl ?_
          refine lv_if_eq (tgt := 49) hx hb dX10_next_43 (by decide) (fun c93 => ?_) (fun c93 => ?_)
          rotate_left
          · exact absurd c93 (by decide)
          refine lv_iload_n hx hb dX10_next_49 rfl (lv_at hl 4 rfl) ?_
          refine lv_aload hx hb dX10_next_50 (lv_at hl 0 rfl) ?_
          refine va_getN (D := D) (ci := 1) (v := .int x79) (C := RX1) (T := TX1) (N := 7) hx hb hg inGX1 hown hKN.1 hP p84 hk85 rfl 3 (by decide) (va_Nw.use rfl (hKN.2.1 _ kn_323 rfl)) (fun _ h9 => h9) rfl dX10_next_52 ?_
          have j94 := rgI x79
          refine lv_icmp_gt (tgt := 64) hx hb dX10_next_55 (by decide) (fun c95 => ?_) (fun c95 => ?_)
          · skip
            have c95 := i_lt (Eq.refl x79.toInt) (Eq.refl p3.toInt) c95
            refine lv_iload_n hx hb dX10_next_64 rfl (lv_at hl 4 rfl) ?_
            refine lv_aload hx hb dX10_next_65 (lv_at hl 0 rfl) ?_
            refine va_getN (D := D) (ci := 1) (v := .int x79) (C := RX1) (T := TX1) (N := 7) hx hb hg inGX1 hown hKN.1 hP p84 hk85 rfl 3 (by decide) (va_Nw.use rfl (hKN.2.1 _ kn_323 rfl)) (fun _ h9 => h9) rfl dX10_next_67 ?_
            refine lv_isub hx hb dX10_next_70 ?_
            refine lv_topi (fun v96 ev96 => ?_)
            refine lv_aload hx hb dX10_next_71 (lv_at hl 0 rfl) ?_
            refine va_getN (D := D) (ci := 1) (v := .int x77) (C := RX1) (T := TX1) (N := 7) hx hb hg inGX1 hown hKN.1 hP p84 hk85 rfl 1 (by decide) (va_Nw.use rfl (hKN.2.1 _ kn_313 rfl)) (fun _ h9 => h9) rfl dX10_next_73 ?_
            refine lv_iadd hx hb dX10_next_76 ?_
            refine lv_topi (fun v97 ev97 => ?_)
            refine lv_iconst (v := 1) hx hb dX10_next_77 (by decide) ?_
            refine lv_isub hx hb dX10_next_78 ?_
            refine lv_topi (fun v98 ev98 => ?_)
            refine lv_aload hx hb dX10_next_79 (lv_at hl 0 rfl) ?_
            refine va_getN (D := D) (ci := 1) (v := .int x77) (C := RX1) (T := TX1) (N := 7) hx hb hg inGX1 hown hKN.1 hP p84 hk85 rfl 1 (by decide) (va_Nw.use rfl (hKN.2.1 _ kn_313 rfl)) (fun _ h9 => h9) rfl dX10_next_81 ?_
            refine lv_idiv hx hb dX10_next_84 (i_nz (Eq.refl x77.toInt) (by omega)) ?_
            refine lv_topi (fun v99 ev99 => ?_)
            have hv99 := i_divS (Eq.refl v98.toInt) (Eq.refl x77.toInt) ev99 (by omega)
            refine lv_istore (lv' := [(5, .int v99), (4, .ref b68), (0, .ref p0), (1, .int p1), (2, .int p2), (3, .int p3)]) hx hb dX10_next_85 hl (by decide) rfl (fun ls hl => ?_)
            refine lv_aload hx hb dX10_next_87 (lv_at hl 1 rfl) ?_
            refine va_getN (D := D) (ci := 1) (v := .int x79) (C := RX1) (T := TX1) (N := 7) hx hb hg inGX1 hown hKN.1 hP p84 hk85 rfl 3 (by decide) (va_Nw.use rfl (hKN.2.1 _ kn_323 rfl)) (fun _ h9 => h9) rfl dX10_next_89 ?_
            refine lv_iload hx hb dX10_next_92 (lv_at hl 0 rfl) ?_
            refine lv_aload hx hb dX10_next_94 (lv_at hl 1 rfl) ?_
            refine va_getN (D := D) (ci := 1) (v := .int x77) (C := RX1) (T := TX1) (N := 7) hx hb hg inGX1 hown hKN.1 hP p84 hk85 rfl 1 (by decide) (va_Nw.use rfl (hKN.2.1 _ kn_313 rfl)) (fun _ h9 => h9) rfl dX10_next_96 ?_
            refine lv_imul hx hb dX10_next_99 ?_
            refine lv_topi (fun v100 ev100 => ?_)
            refine lv_iadd hx hb dX10_next_100 ?_
            refine lv_topi (fun v101 ev101 => ?_)
            refine W.widen (k := 1) (n := 7) (Nat.le_of_ble_eq_true rfl) (Nat.le_of_ble_eq_true rfl) ?_
            exact W.iret (v := v101) hx hb hr (fun t ht hW => ⟨⟨(v101, w69, T70), rfl, ⟨le71, hT, ke75⟩, CB.mk ht hP hD⟩, hS.F ht⟩) hS.2.2 dX10_next_101
          · skip
            have c95 := i_nlt (Eq.refl x79.toInt) (Eq.refl p3.toInt) c95
            refine lv_aload hx hb dX10_next_58 (lv_at hl 0 rfl) ?_
            refine va_getN (D := D) (ci := 1) (v := .int x79) (C := RX1) (T := TX1) (N := 7) hx hb hg inGX1 hown hKN.1 hP p84 hk85 rfl 3 (by decide) (va_Nw.use rfl (hKN.2.1 _ kn_323 rfl)) (fun _ h9 => h9) rfl dX10_next_60 ?_
            refine W.widen (k := 1) (n := 7) (Nat.le_of_ble_eq_true rfl) (Nat.le_of_ble_eq_true rfl) ?_
            exact W.iret (v := x79) hx hb hr (fun t ht hW => ⟨⟨(x79, w69, T70), rfl, ⟨le71, hT, ke75⟩, CB.mk ht hP hD⟩, hS.F ht⟩) hS.2.2 dX10_next_63
      · obtain rfl : u59 = 0 := i_is c64 (by decide)
        refine W.eq (g2 := F0 m 24 ls [.int 0]) rfl ?_
        refine lv_if_ne (tgt := 29) hx hb dX10_next_24 (by decide) (fun c102 => ?_) (fun c102 => ?_)
        · exact absurd c102 (by decide)
        refine lv_iconst (v := (-1)) hx hb dX10_next_27 (by decide) ?_
        refine W.widen (k := 1) (n := 7) (Nat.le_of_ble_eq_true rfl) (Nat.le_of_ble_eq_true rfl) ?_
        have zim1 : ((-1) : Int32).toInt = -1 := by decide
        exact W.iret (v := (-1)) hx hb hr (fun t ht hW => ⟨⟨(((-1)), ws, T), rfl, ⟨TLe.rf, hT, KF.rf⟩, CB.mk ht hP hD⟩, hS.F ht⟩) hS.2.2 dX10_next_28
    · obtain rfl : u52 = 0 := i_is c57 (by decide)
      have zi0 : (0 : Int32).toInt = 0 := by decide
      clear hw56
      refine W.eq (g2 := F0 m 13 ls [.int 0]) rfl ?_
      refine lv_if_eq (tgt := 27) hx hb dX10_next_13 (by decide) (fun c103 => ?_) (fun c103 => ?_)
      rotate_left
      · exact absurd c103 (by decide)
      refine lv_iconst (v := (-1)) hx hb dX10_next_27 (by decide) ?_
      refine W.widen (k := 1) (n := 7) (Nat.le_of_ble_eq_true rfl) (Nat.le_of_ble_eq_true rfl) ?_
      have zim1 : ((-1) : Int32).toInt = -1 := by decide
      exact W.iret (v := (-1)) hx hb hr (fun t ht hW => ⟨⟨(((-1)), ws, T), rfl, ⟨TLe.rf, hT, KF.rf⟩, CB.mk ht hP hD⟩, hS.F ht⟩) hS.2.2 dX10_next_28
set_option maxHeartbeats 4000000 in
set_option maxRecDepth 100000 in
theorem x_X10_alias (l : Launch) (D : va_G) (Y : Nat → ClassId) (Z : Nat → Nat) (sz : Nat) (ws : va_W) (T : RT) (g : GN) (q : GQ)  (p0 : Nat) (p1 : Int32) (p2 : Int32) (p3 : Int32) (hT : TW Y Z T g q ws) (ht0 : T p0 = (1, 0, 0)) : Met l yX10_alias (.code yX10_alias cX10_alias 9 (some .long) :: GW) ({ frames := 5, cells := 1, slots := 7, locals := 133 }) (va_Pc [.ref p0, .int p1, .int p2, .int p3] (CPC D Y Z ws sz)) (QG (S := Int64 × va_W × RT) (fun u => some (.long u.1)) (fun u => TLe T u.2.2 ∧ TW Y Z u.2.2 g q u.2.1 ∧ KF 1 T ws u.2.1) (fun u => CB D u.2.1 (va_A ws sz)) (va_A ws sz)) 1 7 (va_A ws sz) := by
  refine Met.ofW (cc := cX10_alias) (maxL := 9) (ret := (some .long)) (by decide) rfl ?_
  intro p e s m args below meth c s₁ B hml hv
  obtain ⟨rfl, ⟨hsz, hP, hKN, hD0⟩, hSZ⟩ := hv
  have hx := B.exec
  have hb := B.bytes
  have hr := B.returns
  have hts := atoms_spec (ws := .code yX10_alias cX10_alias 9 (some .long) :: GW) B.pre
  have hg : ∀ w ∈ GW, w.before _ s = true := fun w h => hts w (List.mem_cons_of_mem _ h)
  have hown : s.vm.findClass RX10 = some m.cls := findClass_of_methodNamed B.named
  have hlocks := B.notSynchronized
  subst hsz
  have hD := hD0.self (sz := s.heap.size)
  generalize hAe : va_A ws s.heap.size = A at hD hSZ ⊢
  have hA : ∀ q : Nat, s.heap.size ≤ q → A q := fun q h => by rw [← hAe]; exact Or.inr h
  clear hAe hD0 hts B
  have hl := lv_entry ([.ref p0, .int p1, .int p2, .int p3]) (n := 9) (Nat.le_of_ble_eq_true rfl)
  rw [lg_entry_eq]
  generalize (lg_sl ([.ref p0, .int p1, .int p2, .int p3]) ++ List.replicate (9 - (lg_sl ([.ref p0, .int p1, .int p2, .int p3])).length) Slot.unset).toArray = ls at hl ⊢
  have hl : lv_has ls 9 [(0, .ref p0), (1, .int p1), (2, .int p2), (3, .int p3)] := hl
  refine w_start (A0 := A) hP (fun H locs hP hS => ?_)
  refine lv_aload_n hx hb dX10_alias_0 rfl (lv_at hl 0 rfl) ?_
  refine lv_iload_n hx hb dX10_alias_1 rfl (lv_at hl 1 rfl) ?_
  refine ok1 hT ht0 (fun p42 a1 a2 a3 a4 a5 x6 x7 x8 a9 a10 a11 a12 a13 a14 a15 a16 a17 x18 a19 a20 hk43 h21 h22 h23 h24 h25 h26 h27 h28 h29 h30 h31 h32 h33 h34 h35 h36 h37 h38 h39 h40 h41 => ?_)
  refine cga (rn_V (As := [.int p1]) (rest := []) (b := p0) (x_X10_searchAt l D Y Z H.size ws T g q p0 p1 hT ht0) ⟨hx, hb, hml, hown, hg⟩ lk_X10_259 ⟨CPC.blind, va_recv hKN.1 hP (ci := 10) (q0 := p42) rfl hk43, CPC.at hP hKN hD hSZ hS hA⟩ ⟨⟨rfl, rfl⟩, ⟨Nat.le_of_ble_eq_true rfl, Nat.le_of_ble_eq_true rfl⟩, ⟨(Nat.le_of_ble_eq_true rfl), (Nat.le_of_ble_eq_true rfl)⟩⟩ hl.1 rfl (Nat.le_of_ble_eq_true rfl) dX10_alias_2) hP hD hS hA (fun u44 H locs hw45 hP hD hS => ?_)
  obtain ⟨ht47, hw48⟩ : (∀ b, u44 = some b → T b = (5, 0, 0)) ∧ (∀ b, u44 = some b → 0 ≤ p1.toInt ∧ p1.toInt ≤ 5) := hw45
  refine W.eq (g2 := F0 m 5 ls [va_rf u44]) rfl ?_
  rcases u44 with _ | b49
  · skip
    refine W.eq (g2 := F0 m 5 ls [.null]) rfl ?_
    refine lv_ifnullN (tgt := 25) hx hb dX10_alias_5 (by decide) ?_
    refine lv_ldc2 (v := (-1)) hx hb hown (hg _ kw_899) dX10_alias_25 ?_
    refine W.widen (k := 1) (n := 7) (Nat.le_of_ble_eq_true rfl) (Nat.le_of_ble_eq_true rfl) ?_
    have zlm1 : ((-1) : Int64).toInt = -1 := by decide
    exact W.lret (v := (-1)) hx hb hr (fun t ht hW => ⟨⟨(((-1)), ws, T), rfl, ⟨TLe.rf, hT, KF.rf⟩, CB.mk ht hP hD⟩, hS.F ht⟩) hS.2.2 dX10_alias_28
  · skip
    have ht50 := ht47 b49 rfl
    have h51 := hw48 b49 rfl
    refine W.eq (g2 := F0 m 5 ls [.ref b49]) rfl ?_
    refine lv_ifnull hx hb dX10_alias_5 ?_
    refine lv_aload_n hx hb dX10_alias_8 rfl (lv_at hl 0 rfl) ?_
    refine lv_iload_n hx hb dX10_alias_9 rfl (lv_at hl 2 rfl) ?_
    refine cga (rn_V (As := [.int p2]) (rest := []) (b := p0) (x_X10_isStar l D Y Z H.size ws T g q p0 p2 hT ht0) ⟨hx, hb, hml, hown, hg⟩ lk_X10_137 ⟨CPC.blind, va_recv hKN.1 hP (ci := 10) (q0 := p42) rfl hk43, CPC.at hP hKN hD hSZ hS hA⟩ ⟨⟨rfl, rfl⟩, ⟨Nat.le_of_ble_eq_true rfl, Nat.le_of_ble_eq_true rfl⟩, ⟨(Nat.le_of_ble_eq_true rfl), (Nat.le_of_ble_eq_true rfl)⟩⟩ hl.1 rfl (Nat.le_of_ble_eq_true rfl) dX10_alias_10) hP hD hS hA (fun u52 H locs hw53 hP hD hS => ?_)
    obtain ⟨hw55, hw56⟩ : (0 ≤ u52.toInt ∧ u52.toInt ≤ 1) ∧ (u52.toInt = 1 → (0 ≤ p2.toInt ∧ p2.toInt ≤ 11)) := hw53
    refine W.eq (g2 := F0 m 13 ls [.int u52]) rfl ?_
    rcases (show u52.toInt = 1 ∨ u52.toInt = 0 by omega) with c57 | c57
    · obtain rfl : u52 = 1 := i_is c57 (by decide)
      have zi1 : (1 : Int32).toInt = 1 := by decide
      replace hw56 := hw56 (by decide)
      refine W.eq (g2 := F0 m 13 ls [.int 1]) rfl ?_
      refine lv_if_eq (tgt := 25) hx hb dX10_alias_13 (by decide) (fun c58 => ?_) (fun c58 => ?_)
      · exact absurd c58 (by decide)
      refine lv_iload_n hx hb dX10_alias_16 rfl (lv_at hl 3 rfl) ?_
      refine lv_iconst (v := 0) hx hb dX10_alias_17 (by decide) ?_
      refine lv_iconst (v := 2) hx hb dX10_alias_18 (by decide) ?_
      have zi0 : (0 : Int32).toInt = 0 := by decide
      have zi2 : (2 : Int32).toInt = 2 := by decide
      refine cg0 (rn_S (As := [.int p3, .int 0, .int 2]) (rest := []) (x_X10_isWithin l D Y Z H.size p3 0 2) ⟨hx, hb, hml, hown, hg⟩ lk_X10_100 ⟨CP.blind, CP.at nilP hKN (nilD (A := fun _ => True))⟩ ⟨⟨rfl, rfl⟩, ⟨Nat.le_of_ble_eq_true rfl, Nat.le_of_ble_eq_true rfl⟩, ⟨(Nat.le_of_ble_eq_true rfl), (Nat.le_of_ble_eq_true rfl)⟩⟩ hl.1 rfl (Nat.le_of_ble_eq_true rfl) dX10_alias_19) hP hS hA (fun u59 H locs hw60 hP hS => ?_)
      obtain ⟨hw62, hw63⟩ : (((0 : Int32).toInt ≤ p3.toInt ∧ p3.toInt ≤ (2 : Int32).toInt ∧ u59.toInt = 1) ∨ (¬ ((0 : Int32).toInt ≤ p3.toInt ∧ p3.toInt ≤ (2 : Int32).toInt) ∧ u59.toInt = 0)) ∧ (0 ≤ u59.toInt ∧ u59.toInt ≤ 1) := hw60
      refine W.eq (g2 := F0 m 22 ls [.int u59]) rfl ?_
      rcases (show u59.toInt = 1 ∨ u59.toInt = 0 by omega) with c64 | c64
      · obtain rfl : u59 = 1 := i_is c64 (by decide)
        refine W.eq (g2 := F0 m 22 ls [.int 1]) rfl ?_
        refine lv_if_ne (tgt := 29) hx hb dX10_alias_22 (by decide) (fun c65 => ?_) (fun c65 => ?_)
        rotate_left
        · exact absurd c65 (by decide)
        refine lv_aload_n hx hb dX10_alias_29 rfl (lv_at hl 0 rfl) ?_
        refine lv_iload_n hx hb dX10_alias_30 rfl (lv_at hl 1 rfl) ?_
        refine lv_iload_n hx hb dX10_alias_31 rfl (lv_at hl 2 rfl) ?_
        refine lv_iconst (v := 0) hx hb dX10_alias_32 (by decide) ?_
        refine cga (rn_V (As := [.int p1, .int p2, .int 0]) (rest := []) (b := p0) (x_X10_findingOf l D Y Z H.size ws T g q p0 p1 p2 0 hT ht0) ⟨hx, hb, hml, hown, hg⟩ lk_X10_264 ⟨CPC.blind, va_recv hKN.1 hP (ci := 10) (q0 := p42) rfl hk43, CPC.at hP hKN hD hSZ hS hA⟩ ⟨⟨rfl, rfl⟩, ⟨Nat.le_of_ble_eq_true rfl, Nat.le_of_ble_eq_true rfl⟩, ⟨(Nat.le_of_ble_eq_true rfl), (Nat.le_of_ble_eq_true rfl)⟩⟩ hl.1 rfl (Nat.le_of_ble_eq_true rfl) dX10_alias_33) hP hD hS hA (fun u66 H locs hw67 hP hD hS => ?_)
        refine W.widen (k := 1) (n := 7) (Nat.le_of_ble_eq_true rfl) (Nat.le_of_ble_eq_true rfl) ?_
        obtain ⟨b68, w69, T70⟩ := u66
        obtain ⟨le71, hT, ke72, ht73⟩ : TLe T T70 ∧ TW Y Z T70 g q w69 ∧ KF 1 T ws w69 ∧ T70 b68 = (6, 0, 0) := hw67
        have hk74 := ke72 _ _ hk43 (show (T p0).1 = 1 by rw [ht0])
        have ke75 : KF 1 T ws w69 := KF.tr KF.rf ke72
        refine W.eq (g2 := F0 m 36 ls [.ref b68]) rfl ?_
        refine lv_astore (lv' := [(4, .ref b68), (0, .ref p0), (1, .int p1), (2, .int p2), (3, .int p3)]) hx hb dX10_alias_36 hl (by decide) rfl (fun ls hl => ?_)
        refine lv_aload hx hb dX10_alias_38 (lv_at hl 0 rfl) ?_
        refine ok6 hT ht73 (fun p84 x76 x77 x78 x79 x80 y81 y82 hk85 h83 => ?_)
        refine cga (rn_NV (As := []) (rest := []) (b := b68) (x_X1_isNone l D Y Z H.size w69 T70 g q b68 p84 x76 x77 x78 x79 x80 y81 y82 hT ht73 hk85) ⟨hx, hb, hml, hown, hg⟩ hKN lk_X10_315 ⟨CPC.blind, va_recv hKN.1 hP (ci := 1) (q0 := p84) rfl hk85, CPC.at hP hKN hD hSZ hS hA⟩ ⟨⟨rfl, rfl⟩, ⟨Nat.le_of_ble_eq_true rfl, Nat.le_of_ble_eq_true rfl⟩, ⟨(Nat.le_of_ble_eq_true rfl), (Nat.le_of_ble_eq_true rfl)⟩⟩ hl.1 rfl (Nat.le_of_ble_eq_true rfl) dX10_alias_40) hP hD hS hA (fun u86 H locs hw87 hP hD hS => ?_)
        obtain ⟨hw89, hw90⟩ : (0 ≤ u86.toInt ∧ u86.toInt ≤ 1) ∧ (u86.toInt = 0 → 1 ≤ x77.toInt) := hw87
        refine W.eq (g2 := F0 m 43 ls [.int u86]) rfl ?_
        rcases (show u86.toInt = 1 ∨ u86.toInt = 0 by omega) with c91 | c91
        · obtain rfl : u86 = 1 := i_is c91 (by decide)
          clear hw90
          refine W.eq (g2 := F0 m 43 ls [.int 1]) rfl ?_
          refine lv_if_eq (tgt := 50) hx hb dX10_alias_43 (by decide) (fun c92 => ?_) (fun c92 => ?_)
          · exact absurd c92 (by decide)
          refine lv_ldc2 (v := (-2)) hx hb hown (hg _ kw_852) dX10_alias_46 ?_
          refine W.widen (k := 1) (n := 7) (Nat.le_of_ble_eq_true rfl) (Nat.le_of_ble_eq_true rfl) ?_
          have zlm2 : ((-2) : Int64).toInt = -2 := by decide
          exact W.lret (v := (-2)) hx hb hr (fun t ht hW => ⟨⟨(((-2)), w69, T70), rfl, ⟨le71, hT, ke75⟩, CB.mk ht hP hD⟩, hS.F ht⟩) hS.2.2 dX10_alias_49
        · obtain rfl : u86 = 0 := i_is c91 (by decide)
          replace hw90 := hw90 (by decide)
          refine W.eq (g2 := F0 m 43 ls [.int 0]) rfl ?_
          refine lv_if_eq (tgt := 50) hx hb dX10_alias_43 (by decide) (fun c93 => ?_) (fun c93 => ?_)
          rotate_left
          · exact absurd c93 (by decide)
          refine lv_aload_n hx hb dX10_alias_50 rfl (lv_at hl 1 rfl) ?_
          refine va_get (D := D) (ci := 10) (v := .ref a11) (C := RX10) (T := TX10) (N := 20) hx hb hg inGX10 hown hKN.1 hP p42 hk74 rfl 10 (by decide) (hg _ kw_359) (fun _ h9 => h9) rfl dX10_alias_51 ?_
          refine lv_aload_n hx hb dX10_alias_54 rfl (lv_at hl 1 rfl) ?_
          refine va_get (D := D) (ci := 10) (v := .ref a1) (C := RX10) (T := TX10) (N := 20) hx hb hg inGX10 hown hKN.1 hP p42 hk74 rfl 0 (by decide) (hg _ kw_349) (fun _ h9 => h9) rfl dX10_alias_55 ?_
          refine lv_iload_n hx hb dX10_alias_58 rfl (lv_at hl 3 rfl) ?_
          refine lv_iconst (v := 0) hx hb dX10_alias_59 (by decide) ?_
          refine ok9 hT (le71.up h33) (fun p106 a94 a95 a96 x97 y98 y99 x100 y101 hk107 h102 h103 h104 h105 => ?_)
          refine cga (rn_NV (As := [.ref a1, .int p2, .int 0]) (rest := []) (b := a11) (x_X2_see l D Y Z H.size w69 T70 g q 0 a11 a1 p2 0 hT (le71.up h33) (le71.up h21)) ⟨hx, hb, hml, hown, hg⟩ hKN lk_X10_143 ⟨CPC.blind, va_recv hKN.1 hP (ci := 2) (q0 := p106) rfl hk107, CPC.at hP hKN hD hSZ hS hA⟩ ⟨⟨rfl, rfl⟩, ⟨Nat.le_of_ble_eq_true rfl, Nat.le_of_ble_eq_true rfl⟩, ⟨(Nat.le_of_ble_eq_true rfl), (Nat.le_of_ble_eq_true rfl)⟩⟩ hl.1 rfl (Nat.le_of_ble_eq_true rfl) dX10_alias_60) hP hD hS hA (fun u108 H locs hw109 hP hD hS => ?_)
          obtain ⟨hT, ke111, ke112⟩ : TW Y Z T70 g q u108 ∧ KF 1 T70 w69 u108 ∧ KF 6 T70 w69 u108 := hw109
          have hk113 := ke111 _ _ hk74 (show (T70 p0).1 = 1 by rw [(le71.up ht0)])
          have hk114 := ke112 _ _ hk85 (show (T70 b68).1 = 6 by rw [ht73])
          have ke115 : KF 1 T ws u108 := KF.tr ke75 (KF.le (by decide) le71 ke111)
          refine W.eq (g2 := F0 m 63 ls []) rfl ?_
          refine lv_aload_n hx hb dX10_alias_63 rfl (lv_at hl 1 rfl) ?_
          refine va_get (D := D) (ci := 10) (v := .ref a11) (C := RX10) (T := TX10) (N := 20) hx hb hg inGX10 hown hKN.1 hP p42 hk113 rfl 10 (by decide) (hg _ kw_359) (fun _ h9 => h9) rfl dX10_alias_64 ?_
          refine lv_aload hx hb dX10_alias_67 (lv_at hl 0 rfl) ?_
          refine ok9 hT (le71.up h33) (fun p128 a116 a117 a118 x119 y120 y121 x122 y123 hk129 h124 h125 h126 h127 => ?_)
          refine cga (rn_NV (As := [.ref b68]) (rest := []) (b := a11) (x_X2_scoreTwice l D Y Z H.size u108 T70 g q a11 b68 hT (le71.up h33) ht73) ⟨hx, hb, hml, hown, hg⟩ hKN lk_X10_376 ⟨CPC.blind, va_recv hKN.1 hP (ci := 2) (q0 := p128) rfl hk129, CPC.at hP hKN hD hSZ hS hA⟩ ⟨⟨rfl, rfl⟩, ⟨Nat.le_of_ble_eq_true rfl, Nat.le_of_ble_eq_true rfl⟩, ⟨(Nat.le_of_ble_eq_true rfl), (Nat.le_of_ble_eq_true rfl)⟩⟩ hl.1 rfl (Nat.le_of_ble_eq_true rfl) dX10_alias_69) hP hD hS hA (fun u130 H locs hw131 hP hD hS => ?_)
          obtain ⟨u132, w133⟩ := u130
          obtain ⟨hT, ke134, ke135⟩ : TW Y Z T70 g q w133 ∧ KF 1 T70 u108 w133 ∧ KF 6 T70 u108 w133 := hw131
          have hk136 := ke134 _ _ hk113 (show (T70 p0).1 = 1 by rw [(le71.up ht0)])
          have hk137 := ke135 _ _ hk114 (show (T70 b68).1 = 6 by rw [ht73])
          have ke138 : KF 1 T ws w133 := KF.tr ke115 (KF.le (by decide) le71 ke134)
          refine W.eq (g2 := F0 m 72 ls [.long u132]) rfl ?_
          refine lv_lstore (lv' := [(5, .long u132), (4, .ref b68), (0, .ref p0), (1, .int p1), (2, .int p2), (3, .int p3)]) hx hb dX10_alias_72 hl (by decide) rfl (fun ls hl => ?_)
          refine lv_aload_n hx hb dX10_alias_74 rfl (lv_at hl 2 rfl) ?_
          refine va_get (D := D) (ci := 10) (v := .ref a11) (C := RX10) (T := TX10) (N := 20) hx hb hg inGX10 hown hKN.1 hP p42 hk136 rfl 10 (by decide) (hg _ kw_359) (fun _ h9 => h9) rfl dX10_alias_75 ?_
          refine lv_aload hx hb dX10_alias_78 (lv_at hl 1 rfl) ?_
          refine ok9 hT (le71.up h33) (fun p151 a139 a140 a141 x142 y143 y144 x145 y146 hk152 h147 h148 h149 h150 => ?_)
          refine cga (rn_NV (As := [.ref b68]) (rest := []) (b := a11) (x_X2_scoreHalf l D Y Z H.size w133 T70 g q a11 b68 hT (le71.up h33) ht73) ⟨hx, hb, hml, hown, hg⟩ hKN lk_X10_380 ⟨CPC.blind, va_recv hKN.1 hP (ci := 2) (q0 := p151) rfl hk152, CPC.at hP hKN hD hSZ hS hA⟩ ⟨⟨rfl, rfl⟩, ⟨Nat.le_of_ble_eq_true rfl, Nat.le_of_ble_eq_true rfl⟩, ⟨(Nat.le_of_ble_eq_true rfl), (Nat.le_of_ble_eq_true rfl)⟩⟩ hl.1 rfl (Nat.le_of_ble_eq_true rfl) dX10_alias_80) hP hD hS hA (fun u153 H locs hw154 hP hD hS => ?_)
          obtain ⟨u155, w156⟩ := u153
          obtain ⟨hT, ke157, ke158⟩ : TW Y Z T70 g q w156 ∧ KF 1 T70 w133 w156 ∧ KF 6 T70 w133 w156 := hw154
          have hk159 := ke157 _ _ hk136 (show (T70 p0).1 = 1 by rw [(le71.up ht0)])
          have hk160 := ke158 _ _ hk137 (show (T70 b68).1 = 6 by rw [ht73])
          have ke161 : KF 1 T ws w156 := KF.tr ke138 (KF.le (by decide) le71 ke157)
          refine W.eq (g2 := F0 m 83 ls [.long u155]) rfl ?_
          refine lv_lstore (lv' := [(7, .long u155), (5, .long u132), (4, .ref b68), (0, .ref p0), (1, .int p1), (2, .int p2), (3, .int p3)]) hx hb dX10_alias_83 hl (by decide) rfl (fun ls hl => ?_)
          refine lv_iload_n hx hb dX10_alias_85 rfl (lv_at hl 6 rfl) ?_
          refine lv_if_eq (tgt := 102) hx hb dX10_alias_86 (by decide) (fun c162 => ?_) (fun c162 => ?_)
          · skip
            have c162 := i_eq (Eq.refl p3.toInt) (show (0 : Int32).toInt = 0 by decide) c162
            refine lv_aload hx hb dX10_alias_102 (lv_at hl 2 rfl) ?_
            refine va_getN (D := D) (ci := 1) (v := .long y82) (C := RX1) (T := TX1) (N := 7) hx hb hg inGX1 hown hKN.1 hP p84 hk160 rfl 6 (by decide) (va_Nw.use rfl (hKN.2.1 _ kn_332 rfl)) (fun _ h9 => h9) rfl dX10_alias_104 ?_
            refine lv_lload hx hb dX10_alias_107 (lv_at hl 1 rfl) ?_
            refine W.lcmp hx hb dX10_alias_109 ?_
            refine lv_if_lt (tgt := 126) hx hb dX10_alias_110 (by decide) (fun c163 => ?_) (fun c163 => ?_)
            · skip
              have c163 := l_lt (Eq.refl y82.toInt) (Eq.refl u132.toInt) c163
              refine lv_lload hx hb dX10_alias_126 (lv_at hl 1 rfl) ?_
              refine lv_lload hx hb dX10_alias_128 (lv_at hl 0 rfl) ?_
              refine W.lcmp hx hb dX10_alias_130 ?_
              refine lv_if_lt (tgt := 138) hx hb dX10_alias_131 (by decide) (fun c164 => ?_) (fun c164 => ?_)
              · skip
                have c164 := l_lt (Eq.refl u132.toInt) (Eq.refl u155.toInt) c164
                refine lv_ldc2 (v := 2) hx hb hown (hg _ kw_795) dX10_alias_138 ?_
                refine W.widen (k := 1) (n := 7) (Nat.le_of_ble_eq_true rfl) (Nat.le_of_ble_eq_true rfl) ?_
                have zl2 : (2 : Int64).toInt = 2 := by decide
                exact W.lret (v := 2) hx hb hr (fun t ht hW => ⟨⟨((2), w156, T70), rfl, ⟨le71, hT, ke161⟩, CB.mk ht hP hD⟩, hS.F ht⟩) hS.2.2 dX10_alias_141
              · skip
                have c164 := l_nlt (Eq.refl u132.toInt) (Eq.refl u155.toInt) c164
                refine lv_lconst (v := 1) hx hb dX10_alias_134 (by decide) ?_
                refine lv_goto (tgt := 141) hx hb dX10_alias_135 (by decide) ?_
                refine W.widen (k := 1) (n := 7) (Nat.le_of_ble_eq_true rfl) (Nat.le_of_ble_eq_true rfl) ?_
                have zl1 : (1 : Int64).toInt = 1 := by decide
                exact W.lret (v := 1) hx hb hr (fun t ht hW => ⟨⟨((1), w156, T70), rfl, ⟨le71, hT, ke161⟩, CB.mk ht hP hD⟩, hS.F ht⟩) hS.2.2 dX10_alias_141
            · skip
              have c163 := l_nlt (Eq.refl y82.toInt) (Eq.refl u132.toInt) c163
              refine lv_aload hx hb dX10_alias_113 (lv_at hl 2 rfl) ?_
              refine va_getN (D := D) (ci := 1) (v := .long y82) (C := RX1) (T := TX1) (N := 7) hx hb hg inGX1 hown hKN.1 hP p84 hk160 rfl 6 (by decide) (va_Nw.use rfl (hKN.2.1 _ kn_332 rfl)) (fun _ h9 => h9) rfl dX10_alias_115 ?_
              refine lv_lload hx hb dX10_alias_118 (lv_at hl 0 rfl) ?_
              refine W.lcmp hx hb dX10_alias_120 ?_
              refine lv_if_lt (tgt := 126) hx hb dX10_alias_121 (by decide) (fun c165 => ?_) (fun c165 => ?_)
              · skip
                have c165 := l_lt (Eq.refl y82.toInt) (Eq.refl u155.toInt) c165
                refine lv_lload hx hb dX10_alias_126 (lv_at hl 1 rfl) ?_
                refine lv_lload hx hb dX10_alias_128 (lv_at hl 0 rfl) ?_
                refine W.lcmp hx hb dX10_alias_130 ?_
                refine lv_if_lt (tgt := 138) hx hb dX10_alias_131 (by decide) (fun c166 => ?_) (fun c166 => ?_)
                · skip
                  have c166 := l_lt (Eq.refl u132.toInt) (Eq.refl u155.toInt) c166
                  refine lv_ldc2 (v := 2) hx hb hown (hg _ kw_795) dX10_alias_138 ?_
                  refine W.widen (k := 1) (n := 7) (Nat.le_of_ble_eq_true rfl) (Nat.le_of_ble_eq_true rfl) ?_
                  have zl2 : (2 : Int64).toInt = 2 := by decide
                  exact W.lret (v := 2) hx hb hr (fun t ht hW => ⟨⟨((2), w156, T70), rfl, ⟨le71, hT, ke161⟩, CB.mk ht hP hD⟩, hS.F ht⟩) hS.2.2 dX10_alias_141
                · skip
                  have c166 := l_nlt (Eq.refl u132.toInt) (Eq.refl u155.toInt) c166
                  refine lv_lconst (v := 1) hx hb dX10_alias_134 (by decide) ?_
                  refine lv_goto (tgt := 141) hx hb dX10_alias_135 (by decide) ?_
                  refine W.widen (k := 1) (n := 7) (Nat.le_of_ble_eq_true rfl) (Nat.le_of_ble_eq_true rfl) ?_
                  have zl1 : (1 : Int64).toInt = 1 := by decide
                  exact W.lret (v := 1) hx hb hr (fun t ht hW => ⟨⟨((1), w156, T70), rfl, ⟨le71, hT, ke161⟩, CB.mk ht hP hD⟩, hS.F ht⟩) hS.2.2 dX10_alias_141
              · skip
                have c165 := l_nlt (Eq.refl y82.toInt) (Eq.refl u155.toInt) c165
                refine lv_lconst (v := 0) hx hb dX10_alias_124 (by decide) ?_
                refine W.widen (k := 1) (n := 7) (Nat.le_of_ble_eq_true rfl) (Nat.le_of_ble_eq_true rfl) ?_
                have zl0 : (0 : Int64).toInt = 0 := by decide
                exact W.lret (v := 0) hx hb hr (fun t ht hW => ⟨⟨((0), w156, T70), rfl, ⟨le71, hT, ke161⟩, CB.mk ht hP hD⟩, hS.F ht⟩) hS.2.2 dX10_alias_125
          · skip
            have c162 := i_ne (Eq.refl p3.toInt) (show (0 : Int32).toInt = 0 by decide) c162
            refine lv_iload_n hx hb dX10_alias_89 rfl (lv_at hl 6 rfl) ?_
            refine lv_iconst (v := 1) hx hb dX10_alias_90 (by decide) ?_
            refine lv_icmp_ne (tgt := 99) hx hb dX10_alias_91 (by decide) (fun c167 => ?_) (fun c167 => ?_)
            · skip
              have c167 := i_ne (Eq.refl p3.toInt) (show (1 : Int32).toInt = 1 by decide) c167
              refine lv_lload hx hb dX10_alias_99 (lv_at hl 0 rfl) ?_
              refine W.widen (k := 1) (n := 7) (Nat.le_of_ble_eq_true rfl) (Nat.le_of_ble_eq_true rfl) ?_
              exact W.lret (v := u155) hx hb hr (fun t ht hW => ⟨⟨(u155, w156, T70), rfl, ⟨le71, hT, ke161⟩, CB.mk ht hP hD⟩, hS.F ht⟩) hS.2.2 dX10_alias_101
            · skip
              have c167 := i_eq (Eq.refl p3.toInt) (show (1 : Int32).toInt = 1 by decide) c167
              refine lv_lload hx hb dX10_alias_94 (lv_at hl 1 rfl) ?_
              refine lv_goto (tgt := 101) hx hb dX10_alias_96 (by decide) ?_
              refine W.widen (k := 1) (n := 7) (Nat.le_of_ble_eq_true rfl) (Nat.le_of_ble_eq_true rfl) ?_
              exact W.lret (v := u132) hx hb hr (fun t ht hW => ⟨⟨(u132, w156, T70), rfl, ⟨le71, hT, ke161⟩, CB.mk ht hP hD⟩, hS.F ht⟩) hS.2.2 dX10_alias_101
      · obtain rfl : u59 = 0 := i_is c64 (by decide)
        refine W.eq (g2 := F0 m 22 ls [.int 0]) rfl ?_
        refine lv_if_ne (tgt := 29) hx hb dX10_alias_22 (by decide) (fun c168 => ?_) (fun c168 => ?_)
        · exact absurd c168 (by decide)
        refine lv_ldc2 (v := (-1)) hx hb hown (hg _ kw_899) dX10_alias_25 ?_
        refine W.widen (k := 1) (n := 7) (Nat.le_of_ble_eq_true rfl) (Nat.le_of_ble_eq_true rfl) ?_
        have zlm1 : ((-1) : Int64).toInt = -1 := by decide
        exact W.lret (v := (-1)) hx hb hr (fun t ht hW => ⟨⟨(((-1)), ws, T), rfl, ⟨TLe.rf, hT, KF.rf⟩, CB.mk ht hP hD⟩, hS.F ht⟩) hS.2.2 dX10_alias_28
    · obtain rfl : u52 = 0 := i_is c57 (by decide)
      have zi0 : (0 : Int32).toInt = 0 := by decide
      clear hw56
      refine W.eq (g2 := F0 m 13 ls [.int 0]) rfl ?_
      refine lv_if_eq (tgt := 25) hx hb dX10_alias_13 (by decide) (fun c169 => ?_) (fun c169 => ?_)
      rotate_left
      · exact absurd c169 (by decide)
      refine lv_ldc2 (v := (-1)) hx hb hown (hg _ kw_899) dX10_alias_25 ?_
      refine W.widen (k := 1) (n := 7) (Nat.le_of_ble_eq_true rfl) (Nat.le_of_ble_eq_true rfl) ?_
      have zlm1 : ((-1) : Int64).toInt = -1 := by decide
      exact W.lret (v := (-1)) hx hb hr (fun t ht hW => ⟨⟨(((-1)), ws, T), rfl, ⟨TLe.rf, hT, KF.rf⟩, CB.mk ht hP hD⟩, hS.F ht⟩) hS.2.2 dX10_alias_28
set_option maxHeartbeats 4000000 in
set_option maxRecDepth 100000 in
theorem x_X10_radius (l : Launch) (D : va_G) (Y : Nat → ClassId) (Z : Nat → Nat) (sz : Nat) (ws : va_W) (T : RT) (g : GN) (q : GQ)  (p0 : Nat) (p1 : Int32) (p2 : Int32) (hT : TW Y Z T g q ws) (ht0 : T p0 = (1, 0, 0)) : Met l yX10_radius (.code yX10_radius cX10_radius 4 (some .int) :: GW) ({ frames := 5, cells := 1, slots := 7, locals := 133 }) (va_Pc [.ref p0, .int p1, .int p2] (CPC D Y Z ws sz)) (QG (S := Int32 × va_W × RT) (fun u => some (.int u.1)) (fun u => TLe T u.2.2 ∧ TW Y Z u.2.2 g q u.2.1 ∧ KF 1 T ws u.2.1) (fun u => CB D u.2.1 (va_A ws sz)) (va_A ws sz)) 1 7 (va_A ws sz) := by
  refine Met.ofW (cc := cX10_radius) (maxL := 4) (ret := (some .int)) (by decide) rfl ?_
  intro p e s m args below meth c s₁ B hml hv
  obtain ⟨rfl, ⟨hsz, hP, hKN, hD0⟩, hSZ⟩ := hv
  have hx := B.exec
  have hb := B.bytes
  have hr := B.returns
  have hts := atoms_spec (ws := .code yX10_radius cX10_radius 4 (some .int) :: GW) B.pre
  have hg : ∀ w ∈ GW, w.before _ s = true := fun w h => hts w (List.mem_cons_of_mem _ h)
  have hown : s.vm.findClass RX10 = some m.cls := findClass_of_methodNamed B.named
  have hlocks := B.notSynchronized
  subst hsz
  have hD := hD0.self (sz := s.heap.size)
  generalize hAe : va_A ws s.heap.size = A at hD hSZ ⊢
  have hA : ∀ q : Nat, s.heap.size ≤ q → A q := fun q h => by rw [← hAe]; exact Or.inr h
  clear hAe hD0 hts B
  have hl := lv_entry ([.ref p0, .int p1, .int p2]) (n := 4) (Nat.le_of_ble_eq_true rfl)
  rw [lg_entry_eq]
  generalize (lg_sl ([.ref p0, .int p1, .int p2]) ++ List.replicate (4 - (lg_sl ([.ref p0, .int p1, .int p2])).length) Slot.unset).toArray = ls at hl ⊢
  have hl : lv_has ls 4 [(0, .ref p0), (1, .int p1), (2, .int p2)] := hl
  refine w_start (A0 := A) hP (fun H locs hP hS => ?_)
  refine lv_aload_n hx hb dX10_radius_0 rfl (lv_at hl 0 rfl) ?_
  refine lv_iload_n hx hb dX10_radius_1 rfl (lv_at hl 1 rfl) ?_
  refine ok1 hT ht0 (fun p42 a1 a2 a3 a4 a5 x6 x7 x8 a9 a10 a11 a12 a13 a14 a15 a16 a17 x18 a19 a20 hk43 h21 h22 h23 h24 h25 h26 h27 h28 h29 h30 h31 h32 h33 h34 h35 h36 h37 h38 h39 h40 h41 => ?_)
  refine cga (rn_V (As := [.int p1]) (rest := []) (b := p0) (x_X10_searchAt l D Y Z H.size ws T g q p0 p1 hT ht0) ⟨hx, hb, hml, hown, hg⟩ lk_X10_259 ⟨CPC.blind, va_recv hKN.1 hP (ci := 10) (q0 := p42) rfl hk43, CPC.at hP hKN hD hSZ hS hA⟩ ⟨⟨rfl, rfl⟩, ⟨Nat.le_of_ble_eq_true rfl, Nat.le_of_ble_eq_true rfl⟩, ⟨(Nat.le_of_ble_eq_true rfl), (Nat.le_of_ble_eq_true rfl)⟩⟩ hl.1 rfl (Nat.le_of_ble_eq_true rfl) dX10_radius_2) hP hD hS hA (fun u44 H locs hw45 hP hD hS => ?_)
  obtain ⟨ht47, hw48⟩ : (∀ b, u44 = some b → T b = (5, 0, 0)) ∧ (∀ b, u44 = some b → 0 ≤ p1.toInt ∧ p1.toInt ≤ 5) := hw45
  refine W.eq (g2 := F0 m 5 ls [va_rf u44]) rfl ?_
  rcases u44 with _ | b49
  · skip
    refine W.eq (g2 := F0 m 5 ls [.null]) rfl ?_
    refine lv_ifnullN (tgt := 16) hx hb dX10_radius_5 (by decide) ?_
    refine lv_iconst (v := (-1)) hx hb dX10_radius_16 (by decide) ?_
    refine W.widen (k := 1) (n := 7) (Nat.le_of_ble_eq_true rfl) (Nat.le_of_ble_eq_true rfl) ?_
    have zim1 : ((-1) : Int32).toInt = -1 := by decide
    exact W.iret (v := (-1)) hx hb hr (fun t ht hW => ⟨⟨(((-1)), ws, T), rfl, ⟨TLe.rf, hT, KF.rf⟩, CB.mk ht hP hD⟩, hS.F ht⟩) hS.2.2 dX10_radius_17
  · skip
    have ht50 := ht47 b49 rfl
    have h51 := hw48 b49 rfl
    refine W.eq (g2 := F0 m 5 ls [.ref b49]) rfl ?_
    refine lv_ifnull hx hb dX10_radius_5 ?_
    refine lv_aload_n hx hb dX10_radius_8 rfl (lv_at hl 0 rfl) ?_
    refine lv_iload_n hx hb dX10_radius_9 rfl (lv_at hl 2 rfl) ?_
    refine cga (rn_V (As := [.int p2]) (rest := []) (b := p0) (x_X10_isStar l D Y Z H.size ws T g q p0 p2 hT ht0) ⟨hx, hb, hml, hown, hg⟩ lk_X10_137 ⟨CPC.blind, va_recv hKN.1 hP (ci := 10) (q0 := p42) rfl hk43, CPC.at hP hKN hD hSZ hS hA⟩ ⟨⟨rfl, rfl⟩, ⟨Nat.le_of_ble_eq_true rfl, Nat.le_of_ble_eq_true rfl⟩, ⟨(Nat.le_of_ble_eq_true rfl), (Nat.le_of_ble_eq_true rfl)⟩⟩ hl.1 rfl (Nat.le_of_ble_eq_true rfl) dX10_radius_10) hP hD hS hA (fun u52 H locs hw53 hP hD hS => ?_)
    obtain ⟨hw55, hw56⟩ : (0 ≤ u52.toInt ∧ u52.toInt ≤ 1) ∧ (u52.toInt = 1 → (0 ≤ p2.toInt ∧ p2.toInt ≤ 11)) := hw53
    refine W.eq (g2 := F0 m 13 ls [.int u52]) rfl ?_
    rcases (show u52.toInt = 1 ∨ u52.toInt = 0 by omega) with c57 | c57
    · obtain rfl : u52 = 1 := i_is c57 (by decide)
      have zi1 : (1 : Int32).toInt = 1 := by decide
      replace hw56 := hw56 (by decide)
      refine W.eq (g2 := F0 m 13 ls [.int 1]) rfl ?_
      refine lv_if_ne (tgt := 18) hx hb dX10_radius_13 (by decide) (fun c58 => ?_) (fun c58 => ?_)
      rotate_left
      · exact absurd c58 (by decide)
      refine lv_aload_n hx hb dX10_radius_18 rfl (lv_at hl 0 rfl) ?_
      refine lv_iload_n hx hb dX10_radius_19 rfl (lv_at hl 1 rfl) ?_
      refine lv_iload_n hx hb dX10_radius_20 rfl (lv_at hl 2 rfl) ?_
      refine lv_iconst (v := 0) hx hb dX10_radius_21 (by decide) ?_
      have zi0 : (0 : Int32).toInt = 0 := by decide
      refine cga (rn_V (As := [.int p1, .int p2, .int 0]) (rest := []) (b := p0) (x_X10_findingOf l D Y Z H.size ws T g q p0 p1 p2 0 hT ht0) ⟨hx, hb, hml, hown, hg⟩ lk_X10_264 ⟨CPC.blind, va_recv hKN.1 hP (ci := 10) (q0 := p42) rfl hk43, CPC.at hP hKN hD hSZ hS hA⟩ ⟨⟨rfl, rfl⟩, ⟨Nat.le_of_ble_eq_true rfl, Nat.le_of_ble_eq_true rfl⟩, ⟨(Nat.le_of_ble_eq_true rfl), (Nat.le_of_ble_eq_true rfl)⟩⟩ hl.1 rfl (Nat.le_of_ble_eq_true rfl) dX10_radius_22) hP hD hS hA (fun u59 H locs hw60 hP hD hS => ?_)
      refine W.widen (k := 1) (n := 7) (Nat.le_of_ble_eq_true rfl) (Nat.le_of_ble_eq_true rfl) ?_
      obtain ⟨b61, w62, T63⟩ := u59
      obtain ⟨le64, hT, ke65, ht66⟩ : TLe T T63 ∧ TW Y Z T63 g q w62 ∧ KF 1 T ws w62 ∧ T63 b61 = (6, 0, 0) := hw60
      have hk67 := ke65 _ _ hk43 (show (T p0).1 = 1 by rw [ht0])
      have ke68 : KF 1 T ws w62 := KF.tr KF.rf ke65
      refine W.eq (g2 := F0 m 25 ls [.ref b61]) rfl ?_
      refine lv_astore_n (lv' := [(3, .ref b61), (0, .ref p0), (1, .int p1), (2, .int p2)]) hx hb dX10_radius_25 rfl hl (by decide) rfl (fun ls hl => ?_)
      refine lv_aload_n hx hb dX10_radius_26 rfl (lv_at hl 0 rfl) ?_
      refine ok6 hT ht66 (fun p77 x69 x70 x71 x72 x73 y74 y75 hk78 h76 => ?_)
      refine cga (rn_NV (As := []) (rest := []) (b := b61) (x_X1_isNone l D Y Z H.size w62 T63 g q b61 p77 x69 x70 x71 x72 x73 y74 y75 hT ht66 hk78) ⟨hx, hb, hml, hown, hg⟩ hKN lk_X10_315 ⟨CPC.blind, va_recv hKN.1 hP (ci := 1) (q0 := p77) rfl hk78, CPC.at hP hKN hD hSZ hS hA⟩ ⟨⟨rfl, rfl⟩, ⟨Nat.le_of_ble_eq_true rfl, Nat.le_of_ble_eq_true rfl⟩, ⟨(Nat.le_of_ble_eq_true rfl), (Nat.le_of_ble_eq_true rfl)⟩⟩ hl.1 rfl (Nat.le_of_ble_eq_true rfl) dX10_radius_27) hP hD hS hA (fun u79 H locs hw80 hP hD hS => ?_)
      obtain ⟨hw82, hw83⟩ : (0 ≤ u79.toInt ∧ u79.toInt ≤ 1) ∧ (u79.toInt = 0 → 1 ≤ x70.toInt) := hw80
      refine W.eq (g2 := F0 m 30 ls [.int u79]) rfl ?_
      rcases (show u79.toInt = 1 ∨ u79.toInt = 0 by omega) with c84 | c84
      · obtain rfl : u79 = 1 := i_is c84 (by decide)
        clear hw83
        refine W.eq (g2 := F0 m 30 ls [.int 1]) rfl ?_
        refine lv_if_eq (tgt := 38) hx hb dX10_radius_30 (by decide) (fun c85 => ?_) (fun c85 => ?_)
        · exact absurd c85 (by decide)
        refine lv_bipush (v := (-2)) hx hb dX10_radius_33 (by decide) ?_
        refine lv_goto (tgt := 44) hx hb dX10_radius_35 (by decide) ?_
        refine W.widen (k := 1) (n := 7) (Nat.le_of_ble_eq_true rfl) (Nat.le_of_ble_eq_true rfl) ?_
        have zim2 : ((-2) : Int32).toInt = -2 := by decide
        exact W.iret (v := (-2)) hx hb hr (fun t ht hW => ⟨⟨(((-2)), w62, T63), rfl, ⟨le64, hT, ke68⟩, CB.mk ht hP hD⟩, hS.F ht⟩) hS.2.2 dX10_radius_44
      · obtain rfl : u79 = 0 := i_is c84 (by decide)
        replace hw83 := hw83 (by decide)
        refine W.eq (g2 := F0 m 30 ls [.int 0]) rfl ?_
        refine lv_if_eq (tgt := 38) hx hb dX10_radius_30 (by decide) (fun c86 => ?_) (fun c86 => ?_)
        rotate_left
        · exact absurd c86 (by decide)
        refine lv_aload_n hx hb dX10_radius_38 rfl (lv_at hl 1 rfl) ?_
        refine lv_aload_n hx hb dX10_radius_39 rfl (lv_at hl 0 rfl) ?_
        refine lv_iload_n hx hb dX10_radius_40 rfl (lv_at hl 3 rfl) ?_
        refine cga (rn_V (As := [.ref b61, .int p2]) (rest := []) (b := p0) (x_X10_radiusOf l D Y Z H.size w62 T63 g q p0 b61 p2 hT (le64.up ht0) ht66) ⟨hx, hb, hml, hown, hg⟩ lk_X10_385 ⟨CPC.blind, va_recv hKN.1 hP (ci := 10) (q0 := p42) rfl hk67, CPC.at hP hKN hD hSZ hS hA⟩ ⟨⟨rfl, rfl⟩, ⟨Nat.le_of_ble_eq_true rfl, Nat.le_of_ble_eq_true rfl⟩, ⟨(Nat.le_of_ble_eq_true rfl), (Nat.le_of_ble_eq_true rfl)⟩⟩ hl.1 rfl (Nat.le_of_ble_eq_true rfl) dX10_radius_41) hP hD hS hA (fun u87 H locs hw88 hP hD hS => ?_)
        refine W.eq (g2 := F0 m 44 ls [.int u87]) rfl ?_
        refine W.widen (k := 1) (n := 7) (Nat.le_of_ble_eq_true rfl) (Nat.le_of_ble_eq_true rfl) ?_
        exact W.iret (v := u87) hx hb hr (fun t ht hW => ⟨⟨(u87, w62, T63), rfl, ⟨le64, hT, ke68⟩, CB.mk ht hP hD⟩, hS.F ht⟩) hS.2.2 dX10_radius_44
    · obtain rfl : u52 = 0 := i_is c57 (by decide)
      have zi0 : (0 : Int32).toInt = 0 := by decide
      clear hw56
      refine W.eq (g2 := F0 m 13 ls [.int 0]) rfl ?_
      refine lv_if_ne (tgt := 18) hx hb dX10_radius_13 (by decide) (fun c90 => ?_) (fun c90 => ?_)
      · exact absurd c90 (by decide)
      refine lv_iconst (v := (-1)) hx hb dX10_radius_16 (by decide) ?_
      refine W.widen (k := 1) (n := 7) (Nat.le_of_ble_eq_true rfl) (Nat.le_of_ble_eq_true rfl) ?_
      have zim1 : ((-1) : Int32).toInt = -1 := by decide
      exact W.iret (v := (-1)) hx hb hr (fun t ht hW => ⟨⟨(((-1)), ws, T), rfl, ⟨TLe.rf, hT, KF.rf⟩, CB.mk ht hP hD⟩, hS.F ht⟩) hS.2.2 dX10_radius_17
set_option maxHeartbeats 4000000 in
set_option maxRecDepth 100000 in
theorem x_X10_many (l : Launch) (D : va_G) (Y : Nat → ClassId) (Z : Nat → Nat) (sz : Nat) (ws : va_W) (T : RT) (g : GN) (q : GQ)  (p0 : Nat) (p1 : Int32) (p2 : Int32) (p3 : Int32) (p4 : Int32) (p5 : Int32) (hT : TW Y Z T g q ws) (ht0 : T p0 = (1, 0, 0)) : Met l yX10_many (.code yX10_many cX10_many 12 (some .int) :: GW) ({ frames := 7, cells := 12, slots := 84, locals := 176 }) (va_Pc [.ref p0, .int p1, .int p2, .int p3, .int p4, .int p5] (CPC D Y Z ws sz)) (QG (S := Int32 × va_W × RT) (fun u => some (.int u.1)) (fun u => TLe T u.2.2 ∧ TW Y Z u.2.2 g q u.2.1 ∧ KF 1 T ws u.2.1) (fun u => CB D u.2.1 (va_A ws sz)) (va_A ws sz)) 12 84 (va_A ws sz) := by
  refine Met.ofW (cc := cX10_many) (maxL := 12) (ret := (some .int)) (by decide) rfl ?_
  intro p e s m args below meth c s₁ B hml hv
  obtain ⟨rfl, ⟨hsz, hP, hKN, hD0⟩, hSZ⟩ := hv
  have hx := B.exec
  have hb := B.bytes
  have hr := B.returns
  have hts := atoms_spec (ws := .code yX10_many cX10_many 12 (some .int) :: GW) B.pre
  have hg : ∀ w ∈ GW, w.before _ s = true := fun w h => hts w (List.mem_cons_of_mem _ h)
  have hown : s.vm.findClass RX10 = some m.cls := findClass_of_methodNamed B.named
  have hlocks := B.notSynchronized
  subst hsz
  have hD := hD0.self (sz := s.heap.size)
  generalize hAe : va_A ws s.heap.size = A at hD hSZ ⊢
  have hA : ∀ q : Nat, s.heap.size ≤ q → A q := fun q h => by rw [← hAe]; exact Or.inr h
  clear hAe hD0 hts B
  have hl := lv_entry ([.ref p0, .int p1, .int p2, .int p3, .int p4, .int p5]) (n := 12) (Nat.le_of_ble_eq_true rfl)
  rw [lg_entry_eq]
  generalize (lg_sl ([.ref p0, .int p1, .int p2, .int p3, .int p4, .int p5]) ++ List.replicate (12 - (lg_sl ([.ref p0, .int p1, .int p2, .int p3, .int p4, .int p5])).length) Slot.unset).toArray = ls at hl ⊢
  have hl : lv_has ls 12 [(0, .ref p0), (1, .int p1), (2, .int p2), (3, .int p3), (4, .int p4), (5, .int p5)] := hl
  refine w_start (A0 := A) hP (fun H locs hP hS => ?_)
  refine lv_aload_n hx hb dX10_many_0 rfl (lv_at hl 0 rfl) ?_
  refine lv_iload_n hx hb dX10_many_1 rfl (lv_at hl 1 rfl) ?_
  refine ok1 hT ht0 (fun p42 a1 a2 a3 a4 a5 x6 x7 x8 a9 a10 a11 a12 a13 a14 a15 a16 a17 x18 a19 a20 hk43 h21 h22 h23 h24 h25 h26 h27 h28 h29 h30 h31 h32 h33 h34 h35 h36 h37 h38 h39 h40 h41 => ?_)
  refine cga (rn_V (As := [.int p1]) (rest := []) (b := p0) (x_X10_searchAt l D Y Z H.size ws T g q p0 p1 hT ht0) ⟨hx, hb, hml, hown, hg⟩ lk_X10_259 ⟨CPC.blind, va_recv hKN.1 hP (ci := 10) (q0 := p42) rfl hk43, CPC.at hP hKN hD hSZ hS hA⟩ ⟨⟨rfl, rfl⟩, ⟨Nat.le_of_ble_eq_true rfl, Nat.le_of_ble_eq_true rfl⟩, ⟨(Nat.le_of_ble_eq_true rfl), (Nat.le_of_ble_eq_true rfl)⟩⟩ hl.1 rfl (Nat.le_of_ble_eq_true rfl) dX10_many_2) hP hD hS hA (fun u44 H locs hw45 hP hD hS => ?_)
  obtain ⟨ht47, hw48⟩ : (∀ b, u44 = some b → T b = (5, 0, 0)) ∧ (∀ b, u44 = some b → 0 ≤ p1.toInt ∧ p1.toInt ≤ 5) := hw45
  refine W.eq (g2 := F0 m 5 ls [va_rf u44]) rfl ?_
  rcases u44 with _ | b49
  · skip
    refine W.eq (g2 := F0 m 5 ls [.null]) rfl ?_
    refine lv_astoreN (lv' := [(6, .null), (0, .ref p0), (1, .int p1), (2, .int p2), (3, .int p3), (4, .int p4), (5, .int p5)]) hx hb dX10_many_5 hl (by decide) rfl (fun ls hl => ?_)
    refine lv_iload_n hx hb dX10_many_7 rfl (lv_at hl 4 rfl) ?_
    have j50 := rgI p3
    refine lv_if_lt (tgt := 31) hx hb dX10_many_8 (by decide) (fun c51 => ?_) (fun c51 => ?_)
    · skip
      have c51 := i_lt (Eq.refl p3.toInt) (show (0 : Int32).toInt = 0 by decide) c51
      refine lv_iconst (v := 0) hx hb dX10_many_31 (by decide) ?_
      refine lv_istore (lv' := [(7, .int 0), (6, .null), (0, .ref p0), (1, .int p1), (2, .int p2), (3, .int p3), (4, .int p4), (5, .int p5)]) hx hb dX10_many_32 hl (by decide) rfl (fun ls hl => ?_)
      refine lv_aloadN hx hb dX10_many_34 (lv_at hl 1 rfl) ?_
      refine lv_ifnullN (tgt := 52) hx hb dX10_many_36 (by decide) ?_
      refine lv_iconst (v := (-1)) hx hb dX10_many_52 (by decide) ?_
      refine W.widen (k := 12) (n := 84) (Nat.le_of_ble_eq_true rfl) (Nat.le_of_ble_eq_true rfl) ?_
      have zim1 : ((-1) : Int32).toInt = -1 := by decide
      have zi0 : (0 : Int32).toInt = 0 := by decide
      exact W.iret (v := (-1)) hx hb hr (fun t ht hW => ⟨⟨(((-1)), ws, T), rfl, ⟨TLe.rf, hT, KF.rf⟩, CB.mk ht hP hD⟩, hS.F ht⟩) hS.2.2 dX10_many_53
    · skip
      have c51 := i_nlt (Eq.refl p3.toInt) (show (0 : Int32).toInt = 0 by decide) c51
      refine lv_iload_n hx hb dX10_many_11 rfl (lv_at hl 4 rfl) ?_
      refine lv_iload hx hb dX10_many_12 (lv_at hl 5 rfl) ?_
      have j52 := rgI p4
      refine lv_icmp_gt (tgt := 31) hx hb dX10_many_14 (by decide) (fun c53 => ?_) (fun c53 => ?_)
      · skip
        have c53 := i_lt (Eq.refl p4.toInt) (Eq.refl p3.toInt) c53
        refine lv_iconst (v := 0) hx hb dX10_many_31 (by decide) ?_
        refine lv_istore (lv' := [(7, .int 0), (6, .null), (0, .ref p0), (1, .int p1), (2, .int p2), (3, .int p3), (4, .int p4), (5, .int p5)]) hx hb dX10_many_32 hl (by decide) rfl (fun ls hl => ?_)
        refine lv_aloadN hx hb dX10_many_34 (lv_at hl 1 rfl) ?_
        refine lv_ifnullN (tgt := 52) hx hb dX10_many_36 (by decide) ?_
        refine lv_iconst (v := (-1)) hx hb dX10_many_52 (by decide) ?_
        refine W.widen (k := 12) (n := 84) (Nat.le_of_ble_eq_true rfl) (Nat.le_of_ble_eq_true rfl) ?_
        have zim1 : ((-1) : Int32).toInt = -1 := by decide
        have zi0 : (0 : Int32).toInt = 0 := by decide
        exact W.iret (v := (-1)) hx hb hr (fun t ht hW => ⟨⟨(((-1)), ws, T), rfl, ⟨TLe.rf, hT, KF.rf⟩, CB.mk ht hP hD⟩, hS.F ht⟩) hS.2.2 dX10_many_53
      · skip
        have c53 := i_nlt (Eq.refl p4.toInt) (Eq.refl p3.toInt) c53
        refine lv_iload hx hb dX10_many_17 (lv_at hl 6 rfl) ?_
        refine lv_iconst (v := 0) hx hb dX10_many_19 (by decide) ?_
        refine lv_iconst (v := 1) hx hb dX10_many_20 (by decide) ?_
        have zi0 : (0 : Int32).toInt = 0 := by decide
        have zi1 : (1 : Int32).toInt = 1 := by decide
        refine cg0 (rn_S (As := [.int p5, .int 0, .int 1]) (rest := []) (x_X10_isWithin l D Y Z H.size p5 0 1) ⟨hx, hb, hml, hown, hg⟩ lk_X10_100 ⟨CP.blind, CP.at nilP hKN (nilD (A := fun _ => True))⟩ ⟨⟨rfl, rfl⟩, ⟨Nat.le_of_ble_eq_true rfl, Nat.le_of_ble_eq_true rfl⟩, ⟨(Nat.le_of_ble_eq_true rfl), (Nat.le_of_ble_eq_true rfl)⟩⟩ hl.1 rfl (Nat.le_of_ble_eq_true rfl) dX10_many_21) hP hS hA (fun u54 H locs hw55 hP hS => ?_)
        obtain ⟨hw57, hw58⟩ : (((0 : Int32).toInt ≤ p5.toInt ∧ p5.toInt ≤ (1 : Int32).toInt ∧ u54.toInt = 1) ∨ (¬ ((0 : Int32).toInt ≤ p5.toInt ∧ p5.toInt ≤ (1 : Int32).toInt) ∧ u54.toInt = 0)) ∧ (0 ≤ u54.toInt ∧ u54.toInt ≤ 1) := hw55
        refine W.eq (g2 := F0 m 24 ls [.int u54]) rfl ?_
        rcases (show u54.toInt = 1 ∨ u54.toInt = 0 by omega) with c59 | c59
        · obtain rfl : u54 = 1 := i_is c59 (by decide)
          refine W.eq (g2 := F0 m 24 ls [.int 1]) rfl ?_
          refine lv_if_eq (tgt := 31) hx hb dX10_many_24 (by decide) (fun c60 => ?_) (fun c60 => ?_)
          · exact absurd c60 (by decide)
          refine lv_iconst (v := 1) hx hb dX10_many_27 (by decide) ?_
          refine lv_goto (tgt := 32) hx hb dX10_many_28 (by decide) ?_
          refine lv_istore (lv' := [(7, .int 1), (6, .null), (0, .ref p0), (1, .int p1), (2, .int p2), (3, .int p3), (4, .int p4), (5, .int p5)]) hx hb dX10_many_32 hl (by decide) rfl (fun ls hl => ?_)
          refine lv_aloadN hx hb dX10_many_34 (lv_at hl 1 rfl) ?_
          refine lv_ifnullN (tgt := 52) hx hb dX10_many_36 (by decide) ?_
          refine lv_iconst (v := (-1)) hx hb dX10_many_52 (by decide) ?_
          refine W.widen (k := 12) (n := 84) (Nat.le_of_ble_eq_true rfl) (Nat.le_of_ble_eq_true rfl) ?_
          have zim1 : ((-1) : Int32).toInt = -1 := by decide
          exact W.iret (v := (-1)) hx hb hr (fun t ht hW => ⟨⟨(((-1)), ws, T), rfl, ⟨TLe.rf, hT, KF.rf⟩, CB.mk ht hP hD⟩, hS.F ht⟩) hS.2.2 dX10_many_53
        · obtain rfl : u54 = 0 := i_is c59 (by decide)
          refine W.eq (g2 := F0 m 24 ls [.int 0]) rfl ?_
          refine lv_if_eq (tgt := 31) hx hb dX10_many_24 (by decide) (fun c61 => ?_) (fun c61 => ?_)
          rotate_left
          · exact absurd c61 (by decide)
          refine lv_iconst (v := 0) hx hb dX10_many_31 (by decide) ?_
          refine lv_istore (lv' := [(7, .int 0), (6, .null), (0, .ref p0), (1, .int p1), (2, .int p2), (3, .int p3), (4, .int p4), (5, .int p5)]) hx hb dX10_many_32 hl (by decide) rfl (fun ls hl => ?_)
          refine lv_aloadN hx hb dX10_many_34 (lv_at hl 1 rfl) ?_
          refine lv_ifnullN (tgt := 52) hx hb dX10_many_36 (by decide) ?_
          refine lv_iconst (v := (-1)) hx hb dX10_many_52 (by decide) ?_
          refine W.widen (k := 12) (n := 84) (Nat.le_of_ble_eq_true rfl) (Nat.le_of_ble_eq_true rfl) ?_
          have zim1 : ((-1) : Int32).toInt = -1 := by decide
          exact W.iret (v := (-1)) hx hb hr (fun t ht hW => ⟨⟨(((-1)), ws, T), rfl, ⟨TLe.rf, hT, KF.rf⟩, CB.mk ht hP hD⟩, hS.F ht⟩) hS.2.2 dX10_many_53
  · skip
    have ht62 := ht47 b49 rfl
    have h63 := hw48 b49 rfl
    refine W.eq (g2 := F0 m 5 ls [.ref b49]) rfl ?_
    refine lv_astore (lv' := [(6, .ref b49), (0, .ref p0), (1, .int p1), (2, .int p2), (3, .int p3), (4, .int p4), (5, .int p5)]) hx hb dX10_many_5 hl (by decide) rfl (fun ls hl => ?_)
    refine lv_iload_n hx hb dX10_many_7 rfl (lv_at hl 4 rfl) ?_
    have j64 := rgI p3
    refine lv_if_lt (tgt := 31) hx hb dX10_many_8 (by decide) (fun c65 => ?_) (fun c65 => ?_)
    · skip
      have c65 := i_lt (Eq.refl p3.toInt) (show (0 : Int32).toInt = 0 by decide) c65
      refine lv_iconst (v := 0) hx hb dX10_many_31 (by decide) ?_
      refine lv_istore (lv' := [(7, .int 0), (6, .ref b49), (0, .ref p0), (1, .int p1), (2, .int p2), (3, .int p3), (4, .int p4), (5, .int p5)]) hx hb dX10_many_32 hl (by decide) rfl (fun ls hl => ?_)
      refine lv_aload hx hb dX10_many_34 (lv_at hl 1 rfl) ?_
      refine lv_ifnull hx hb dX10_many_36 ?_
      refine lv_aload_n hx hb dX10_many_39 rfl (lv_at hl 2 rfl) ?_
      refine lv_iload_n hx hb dX10_many_40 rfl (lv_at hl 4 rfl) ?_
      refine cga (rn_V (As := [.int p2]) (rest := []) (b := p0) (x_X10_sorterAt l D Y Z H.size ws T g q p0 p2 hT ht0) ⟨hx, hb, hml, hown, hg⟩ lk_X10_349 ⟨CPC.blind, va_recv hKN.1 hP (ci := 10) (q0 := p42) rfl hk43, CPC.at hP hKN hD hSZ hS hA⟩ ⟨⟨rfl, rfl⟩, ⟨Nat.le_of_ble_eq_true rfl, Nat.le_of_ble_eq_true rfl⟩, ⟨(Nat.le_of_ble_eq_true rfl), (Nat.le_of_ble_eq_true rfl)⟩⟩ hl.1 rfl (Nat.le_of_ble_eq_true rfl) dX10_many_41) hP hD hS hA (fun u66 H locs hw67 hP hD hS => ?_)
      obtain ⟨ht69, hw70⟩ : (∀ b, u66 = some b → T b = (5, 0, 0)) ∧ (∀ b, u66 = some b → 0 ≤ p2.toInt ∧ p2.toInt ≤ 5) := hw67
      refine W.eq (g2 := F0 m 44 ls [va_rf u66]) rfl ?_
      rcases u66 with _ | b71
      · skip
        refine W.eq (g2 := F0 m 44 ls [.null]) rfl ?_
        refine lv_ifnullN (tgt := 52) hx hb dX10_many_44 (by decide) ?_
        refine lv_iconst (v := (-1)) hx hb dX10_many_52 (by decide) ?_
        refine W.widen (k := 12) (n := 84) (Nat.le_of_ble_eq_true rfl) (Nat.le_of_ble_eq_true rfl) ?_
        have zim1 : ((-1) : Int32).toInt = -1 := by decide
        have zi0 : (0 : Int32).toInt = 0 := by decide
        exact W.iret (v := (-1)) hx hb hr (fun t ht hW => ⟨⟨(((-1)), ws, T), rfl, ⟨TLe.rf, hT, KF.rf⟩, CB.mk ht hP hD⟩, hS.F ht⟩) hS.2.2 dX10_many_53
      · skip
        have ht72 := ht69 b71 rfl
        have h73 := hw70 b71 rfl
        refine W.eq (g2 := F0 m 44 ls [.ref b71]) rfl ?_
        refine lv_ifnull hx hb dX10_many_44 ?_
        refine lv_iload hx hb dX10_many_47 (lv_at hl 0 rfl) ?_
        refine lv_if_ne (tgt := 54) hx hb dX10_many_49 (by decide) (fun c74 => ?_) (fun c74 => ?_)
        · exact absurd c74 (by decide)
        refine lv_iconst (v := (-1)) hx hb dX10_many_52 (by decide) ?_
        refine W.widen (k := 12) (n := 84) (Nat.le_of_ble_eq_true rfl) (Nat.le_of_ble_eq_true rfl) ?_
        have zim1 : ((-1) : Int32).toInt = -1 := by decide
        have zi0 : (0 : Int32).toInt = 0 := by decide
        exact W.iret (v := (-1)) hx hb hr (fun t ht hW => ⟨⟨(((-1)), ws, T), rfl, ⟨TLe.rf, hT, KF.rf⟩, CB.mk ht hP hD⟩, hS.F ht⟩) hS.2.2 dX10_many_53
    · skip
      have c65 := i_nlt (Eq.refl p3.toInt) (show (0 : Int32).toInt = 0 by decide) c65
      refine lv_iload_n hx hb dX10_many_11 rfl (lv_at hl 4 rfl) ?_
      refine lv_iload hx hb dX10_many_12 (lv_at hl 5 rfl) ?_
      have j75 := rgI p4
      refine lv_icmp_gt (tgt := 31) hx hb dX10_many_14 (by decide) (fun c76 => ?_) (fun c76 => ?_)
      · skip
        have c76 := i_lt (Eq.refl p4.toInt) (Eq.refl p3.toInt) c76
        refine lv_iconst (v := 0) hx hb dX10_many_31 (by decide) ?_
        refine lv_istore (lv' := [(7, .int 0), (6, .ref b49), (0, .ref p0), (1, .int p1), (2, .int p2), (3, .int p3), (4, .int p4), (5, .int p5)]) hx hb dX10_many_32 hl (by decide) rfl (fun ls hl => ?_)
        refine lv_aload hx hb dX10_many_34 (lv_at hl 1 rfl) ?_
        refine lv_ifnull hx hb dX10_many_36 ?_
        refine lv_aload_n hx hb dX10_many_39 rfl (lv_at hl 2 rfl) ?_
        refine lv_iload_n hx hb dX10_many_40 rfl (lv_at hl 4 rfl) ?_
        refine cga (rn_V (As := [.int p2]) (rest := []) (b := p0) (x_X10_sorterAt l D Y Z H.size ws T g q p0 p2 hT ht0) ⟨hx, hb, hml, hown, hg⟩ lk_X10_349 ⟨CPC.blind, va_recv hKN.1 hP (ci := 10) (q0 := p42) rfl hk43, CPC.at hP hKN hD hSZ hS hA⟩ ⟨⟨rfl, rfl⟩, ⟨Nat.le_of_ble_eq_true rfl, Nat.le_of_ble_eq_true rfl⟩, ⟨(Nat.le_of_ble_eq_true rfl), (Nat.le_of_ble_eq_true rfl)⟩⟩ hl.1 rfl (Nat.le_of_ble_eq_true rfl) dX10_many_41) hP hD hS hA (fun u77 H locs hw78 hP hD hS => ?_)
        obtain ⟨ht80, hw81⟩ : (∀ b, u77 = some b → T b = (5, 0, 0)) ∧ (∀ b, u77 = some b → 0 ≤ p2.toInt ∧ p2.toInt ≤ 5) := hw78
        refine W.eq (g2 := F0 m 44 ls [va_rf u77]) rfl ?_
        rcases u77 with _ | b82
        · skip
          refine W.eq (g2 := F0 m 44 ls [.null]) rfl ?_
          refine lv_ifnullN (tgt := 52) hx hb dX10_many_44 (by decide) ?_
          refine lv_iconst (v := (-1)) hx hb dX10_many_52 (by decide) ?_
          refine W.widen (k := 12) (n := 84) (Nat.le_of_ble_eq_true rfl) (Nat.le_of_ble_eq_true rfl) ?_
          have zim1 : ((-1) : Int32).toInt = -1 := by decide
          have zi0 : (0 : Int32).toInt = 0 := by decide
          exact W.iret (v := (-1)) hx hb hr (fun t ht hW => ⟨⟨(((-1)), ws, T), rfl, ⟨TLe.rf, hT, KF.rf⟩, CB.mk ht hP hD⟩, hS.F ht⟩) hS.2.2 dX10_many_53
        · skip
          have ht83 := ht80 b82 rfl
          have h84 := hw81 b82 rfl
          refine W.eq (g2 := F0 m 44 ls [.ref b82]) rfl ?_
          refine lv_ifnull hx hb dX10_many_44 ?_
          refine lv_iload hx hb dX10_many_47 (lv_at hl 0 rfl) ?_
          refine lv_if_ne (tgt := 54) hx hb dX10_many_49 (by decide) (fun c85 => ?_) (fun c85 => ?_)
          · exact absurd c85 (by decide)
          refine lv_iconst (v := (-1)) hx hb dX10_many_52 (by decide) ?_
          refine W.widen (k := 12) (n := 84) (Nat.le_of_ble_eq_true rfl) (Nat.le_of_ble_eq_true rfl) ?_
          have zim1 : ((-1) : Int32).toInt = -1 := by decide
          have zi0 : (0 : Int32).toInt = 0 := by decide
          exact W.iret (v := (-1)) hx hb hr (fun t ht hW => ⟨⟨(((-1)), ws, T), rfl, ⟨TLe.rf, hT, KF.rf⟩, CB.mk ht hP hD⟩, hS.F ht⟩) hS.2.2 dX10_many_53
      · skip
        have c76 := i_nlt (Eq.refl p4.toInt) (Eq.refl p3.toInt) c76
        refine lv_iload hx hb dX10_many_17 (lv_at hl 6 rfl) ?_
        refine lv_iconst (v := 0) hx hb dX10_many_19 (by decide) ?_
        refine lv_iconst (v := 1) hx hb dX10_many_20 (by decide) ?_
        have zi0 : (0 : Int32).toInt = 0 := by decide
        have zi1 : (1 : Int32).toInt = 1 := by decide
        refine cg0 (rn_S (As := [.int p5, .int 0, .int 1]) (rest := []) (x_X10_isWithin l D Y Z H.size p5 0 1) ⟨hx, hb, hml, hown, hg⟩ lk_X10_100 ⟨CP.blind, CP.at nilP hKN (nilD (A := fun _ => True))⟩ ⟨⟨rfl, rfl⟩, ⟨Nat.le_of_ble_eq_true rfl, Nat.le_of_ble_eq_true rfl⟩, ⟨(Nat.le_of_ble_eq_true rfl), (Nat.le_of_ble_eq_true rfl)⟩⟩ hl.1 rfl (Nat.le_of_ble_eq_true rfl) dX10_many_21) hP hS hA (fun u86 H locs hw87 hP hS => ?_)
        obtain ⟨hw89, hw90⟩ : (((0 : Int32).toInt ≤ p5.toInt ∧ p5.toInt ≤ (1 : Int32).toInt ∧ u86.toInt = 1) ∨ (¬ ((0 : Int32).toInt ≤ p5.toInt ∧ p5.toInt ≤ (1 : Int32).toInt) ∧ u86.toInt = 0)) ∧ (0 ≤ u86.toInt ∧ u86.toInt ≤ 1) := hw87
        refine W.eq (g2 := F0 m 24 ls [.int u86]) rfl ?_
        rcases (show u86.toInt = 1 ∨ u86.toInt = 0 by omega) with c91 | c91
        · obtain rfl : u86 = 1 := i_is c91 (by decide)
          refine W.eq (g2 := F0 m 24 ls [.int 1]) rfl ?_
          refine lv_if_eq (tgt := 31) hx hb dX10_many_24 (by decide) (fun c92 => ?_) (fun c92 => ?_)
          · exact absurd c92 (by decide)
          refine lv_iconst (v := 1) hx hb dX10_many_27 (by decide) ?_
          refine lv_goto (tgt := 32) hx hb dX10_many_28 (by decide) ?_
          refine lv_istore (lv' := [(7, .int 1), (6, .ref b49), (0, .ref p0), (1, .int p1), (2, .int p2), (3, .int p3), (4, .int p4), (5, .int p5)]) hx hb dX10_many_32 hl (by decide) rfl (fun ls hl => ?_)
          refine lv_aload hx hb dX10_many_34 (lv_at hl 1 rfl) ?_
          refine lv_ifnull hx hb dX10_many_36 ?_
          refine lv_aload_n hx hb dX10_many_39 rfl (lv_at hl 2 rfl) ?_
          refine lv_iload_n hx hb dX10_many_40 rfl (lv_at hl 4 rfl) ?_
          refine cga (rn_V (As := [.int p2]) (rest := []) (b := p0) (x_X10_sorterAt l D Y Z H.size ws T g q p0 p2 hT ht0) ⟨hx, hb, hml, hown, hg⟩ lk_X10_349 ⟨CPC.blind, va_recv hKN.1 hP (ci := 10) (q0 := p42) rfl hk43, CPC.at hP hKN hD hSZ hS hA⟩ ⟨⟨rfl, rfl⟩, ⟨Nat.le_of_ble_eq_true rfl, Nat.le_of_ble_eq_true rfl⟩, ⟨(Nat.le_of_ble_eq_true rfl), (Nat.le_of_ble_eq_true rfl)⟩⟩ hl.1 rfl (Nat.le_of_ble_eq_true rfl) dX10_many_41) hP hD hS hA (fun u93 H locs hw94 hP hD hS => ?_)
          obtain ⟨ht96, hw97⟩ : (∀ b, u93 = some b → T b = (5, 0, 0)) ∧ (∀ b, u93 = some b → 0 ≤ p2.toInt ∧ p2.toInt ≤ 5) := hw94
          refine W.eq (g2 := F0 m 44 ls [va_rf u93]) rfl ?_
          rcases u93 with _ | b98
          · skip
            refine W.eq (g2 := F0 m 44 ls [.null]) rfl ?_
            refine lv_ifnullN (tgt := 52) hx hb dX10_many_44 (by decide) ?_
            refine lv_iconst (v := (-1)) hx hb dX10_many_52 (by decide) ?_
            refine W.widen (k := 12) (n := 84) (Nat.le_of_ble_eq_true rfl) (Nat.le_of_ble_eq_true rfl) ?_
            have zim1 : ((-1) : Int32).toInt = -1 := by decide
            exact W.iret (v := (-1)) hx hb hr (fun t ht hW => ⟨⟨(((-1)), ws, T), rfl, ⟨TLe.rf, hT, KF.rf⟩, CB.mk ht hP hD⟩, hS.F ht⟩) hS.2.2 dX10_many_53
          · skip
            have ht99 := ht96 b98 rfl
            have h100 := hw97 b98 rfl
            refine W.eq (g2 := F0 m 44 ls [.ref b98]) rfl ?_
            refine lv_ifnull hx hb dX10_many_44 ?_
            refine lv_iload hx hb dX10_many_47 (lv_at hl 0 rfl) ?_
            refine lv_if_ne (tgt := 54) hx hb dX10_many_49 (by decide) (fun c101 => ?_) (fun c101 => ?_)
            rotate_left
            · exact absurd c101 (by decide)
            refine lv_iload hx hb dX10_many_54 (lv_at hl 7 rfl) ?_
            refine lv_if_ne (tgt := 63) hx hb dX10_many_56 (by decide) (fun c102 => ?_) (fun c102 => ?_)
            · skip
              have c102 := i_ne (Eq.refl p5.toInt) (show (0 : Int32).toInt = 0 by decide) c102
              refine lv_iconst (v := 1) hx hb dX10_many_63 (by decide) ?_
              refine lv_istore (lv' := [(8, .int 1), (7, .int 1), (6, .ref b49), (0, .ref p0), (1, .int p1), (2, .int p2), (3, .int p3), (4, .int p4), (5, .int p5)]) hx hb dX10_many_64 hl (by decide) rfl (fun ls hl => ?_)
              refine lv_aload_n hx hb dX10_many_66 rfl (lv_at hl 3 rfl) ?_
              refine lv_iload_n hx hb dX10_many_67 rfl (lv_at hl 4 rfl) ?_
              refine lv_iload hx hb dX10_many_68 (lv_at hl 0 rfl) ?_
              refine cga (rn_V (As := [.int p1, .int 1]) (rest := []) (b := p0) (x_X10_findAll l D Y Z H.size ws T g q p0 p1 1 hT ht0) ⟨hx, hb, hml, hown, hg⟩ lk_X10_319 ⟨CPC.blind, va_recv hKN.1 hP (ci := 10) (q0 := p42) rfl hk43, CPC.at hP hKN hD hSZ hS hA⟩ ⟨⟨rfl, rfl⟩, ⟨Nat.le_of_ble_eq_true rfl, Nat.le_of_ble_eq_true rfl⟩, ⟨(Nat.le_of_ble_eq_true rfl), (Nat.le_of_ble_eq_true rfl)⟩⟩ hl.1 rfl (Nat.le_of_ble_eq_true rfl) dX10_many_70) hP hD hS hA (fun u103 H locs hw104 hP hD hS => ?_)
              refine W.widen (k := 12) (n := 84) (Nat.le_of_ble_eq_true rfl) (Nat.le_of_ble_eq_true rfl) ?_
              obtain ⟨w105, T106⟩ := u103
              obtain ⟨le107, hT, ke108⟩ : TLe T T106 ∧ TW Y Z T106 g q w105 ∧ KF 1 T ws w105 := hw104
              have hk109 := ke108 _ _ hk43 (show (T p0).1 = 1 by rw [ht0])
              have ke110 : KF 1 T ws w105 := KF.tr KF.rf ke108
              refine W.eq (g2 := F0 m 73 ls []) rfl ?_
              refine lv_iconst (v := 0) hx hb dX10_many_73 (by decide) ?_
              refine lv_istore (lv' := [(9, .int 0), (8, .int 1), (7, .int 1), (6, .ref b49), (0, .ref p0), (1, .int p1), (2, .int p2), (3, .int p3), (4, .int p4), (5, .int p5)]) hx hb dX10_many_74 hl (by decide) rfl (fun ls hl => ?_)
              refine lv_iconst (v := 0) hx hb dX10_many_76 (by decide) ?_
              refine lv_istore (lv' := [(10, .int 0), (9, .int 0), (8, .int 1), (7, .int 1), (6, .ref b49), (0, .ref p0), (1, .int p1), (2, .int p2), (3, .int p3), (4, .int p4), (5, .int p5)]) hx hb dX10_many_77 hl (by decide) rfl (fun ls hl => ?_)
              refine w_loop (σ := Int32 × Int32) (fun xx H locs ls => match xx with | (v204, v205) => va_P D vwCl w105 H ∧ va_D A w105 ∧ va_S A s.heap H locs ∧ lv_has ls 12 [(10, .int v204), (9, .int v205), (8, .int 1), (7, .int 1), (6, .ref b49), (0, .ref p0), (1, .int p1), (2, .int p2), (3, .int p3), (4, .int p4), (5, .int p5)] ∧ TW Y Z T106 g q w105 ∧ (0 ≤ v204.toInt ∧ v204.toInt ≤ 12)) (fun xx => match xx with | (v204, v205) => (12 - v204.toInt).toNat) (0, 0) ⟨hP, hD, hS, lv_sub hl [0, 1, 2, 3, 4, 5, 6, 7, 8, 9, 10] rfl, hT, by omega⟩ (fun xx H locs ls hI ih => ?_)
              obtain ⟨v204, v205⟩ := xx
              obtain ⟨hP, hD, hS, hl, hT, hq303⟩ := hI
              have ih304 := ih
              refine lv_iload hx hb dX10_many_79 (lv_at hl 0 rfl) ?_
              refine lv_aload_n hx hb dX10_many_81 rfl (lv_at hl 5 rfl) ?_
              refine va_get (D := D) (ci := 10) (v := .ref a1) (C := RX10) (T := TX10) (N := 20) hx hb hg inGX10 hown hKN.1 hP p42 hk109 rfl 0 (by decide) (hg _ kw_349) (fun _ h9 => h9) rfl dX10_many_82 ?_
              refine ok2 hT (le107.up h21) (fun p339 x305 a306 x307 a308 x309 a310 a311 x312 a313 a314 x315 a316 x317 hk340 h318 h319 h320 h321 h322 h323 h324 h325 h326 h327 h328 h329 h330 h331 h332 h333 h334 h335 h336 h337 h338 => ?_)
              refine va_getN (D := D) (ci := 6) (v := .int x305) (C := RX6) (T := TX6) (N := 13) hx hb hg inGX6 hown hKN.1 hP p339 hk340 rfl 0 (by decide) (va_Nw.use rfl (hKN.2.1 _ kn_41 rfl)) (fun _ h9 => h9) rfl dX10_many_85 ?_
              refine lv_icmp_ge (tgt := 158) hx hb dX10_many_88 (by decide) (fun c341 => ?_) (fun c341 => ?_)
              · skip
                have c341 := i_le (Eq.refl x305.toInt) (Eq.refl v204.toInt) c341
                refine lv_iload hx hb dX10_many_158 (lv_at hl 1 rfl) ?_
                refine W.widen (k := 12) (n := 84) (Nat.le_of_ble_eq_true rfl) (Nat.le_of_ble_eq_true rfl) ?_
                exact W.iret (v := v205) hx hb hr (fun t ht hW => ⟨⟨(v205, w105, T106), rfl, ⟨le107, hT, ke110⟩, CB.mk ht hP hD⟩, hS.F ht⟩) hS.2.2 dX10_many_160
              · skip
                have c341 := i_nle (Eq.refl x305.toInt) (Eq.refl v204.toInt) c341
                refine lv_aload_n hx hb dX10_many_91 rfl (lv_at hl 5 rfl) ?_
                refine lv_iload_n hx hb dX10_many_92 rfl (lv_at hl 6 rfl) ?_
                refine lv_iload hx hb dX10_many_93 (lv_at hl 0 rfl) ?_
                refine lv_iload hx hb dX10_many_95 (lv_at hl 2 rfl) ?_
                refine cga (rn_V (As := [.int p1, .int v204, .int 1]) (rest := []) (b := p0) (x_X10_knownOf l D Y Z H.size w105 T106 g q p0 p1 v204 1 hT (le107.up ht0)) ⟨hx, hb, hml, hown, hg⟩ lk_X10_389 ⟨CPC.blind, va_recv hKN.1 hP (ci := 10) (q0 := p42) rfl hk109, CPC.at hP hKN hD hSZ hS hA⟩ ⟨⟨rfl, rfl⟩, ⟨Nat.le_of_ble_eq_true rfl, Nat.le_of_ble_eq_true rfl⟩, ⟨(Nat.le_of_ble_eq_true rfl), (Nat.le_of_ble_eq_true rfl)⟩⟩ hl.1 rfl (Nat.le_of_ble_eq_true rfl) dX10_many_97) hP hD hS hA (fun u342 H locs hw343 hP hD hS => ?_)
                have ht345 : T106 u342 = (6, 0, 0) := hw343
                refine W.eq (g2 := F0 m 100 ls [.ref u342]) rfl ?_
                refine lv_astore (lv' := [(11, .ref u342), (10, .int v204), (9, .int v205), (8, .int 1), (7, .int 1), (6, .ref b49), (0, .ref p0), (1, .int p1), (2, .int p2), (3, .int p3), (4, .int p4), (5, .int p5)]) hx hb dX10_many_100 hl (by decide) rfl (fun ls hl => ?_)
                refine lv_aload hx hb dX10_many_102 (lv_at hl 0 rfl) ?_
                refine lv_aload hx hb dX10_many_104 (lv_at hl 5 rfl) ?_
                refine ok5 hT (le107.up ht62) (fun p367 x346 x347 x348 x349 x350 x351 x352 x353 a354 a355 a356 a357 a358 x359 hk368 h360 h361 h362 h363 h364 h365 h366 => ?_)
                refine va_getN (D := D) (ci := 8) (v := .int x352) (C := RX8) (T := TX8) (N := 14) hx hb hg inGX8 hown hKN.1 hP p367 hk368 rfl 6 (by decide) (va_Nw.use rfl (hKN.2.1 _ kn_135 rfl)) (fun _ h9 => h9) rfl dX10_many_106 ?_
                refine ok6 hT ht345 (fun p377 x369 x370 x371 x372 x373 y374 y375 hk378 h376 => ?_)
                refine cga (rn_NV (As := [.int x352]) (rest := []) (b := u342) (x_X1_isSeen l D Y Z H.size w105 T106 g q u342 x352 hT ht345) ⟨hx, hb, hml, hown, hg⟩ hKN lk_X10_392 ⟨CPC.blind, va_recv hKN.1 hP (ci := 1) (q0 := p377) rfl hk378, CPC.at hP hKN hD hSZ hS hA⟩ ⟨⟨rfl, rfl⟩, ⟨Nat.le_of_ble_eq_true rfl, Nat.le_of_ble_eq_true rfl⟩, ⟨(Nat.le_of_ble_eq_true rfl), (Nat.le_of_ble_eq_true rfl)⟩⟩ hl.1 rfl (Nat.le_of_ble_eq_true rfl) dX10_many_109) hP hD hS hA (fun u379 H locs hw380 hP hD hS => ?_)
                have hw382 : (0 ≤ u379.toInt ∧ u379.toInt ≤ 1) := hw380
                refine W.eq (g2 := F0 m 112 ls [.int u379]) rfl ?_
                rcases (show u379.toInt = 1 ∨ u379.toInt = 0 by omega) with c383 | c383
                · obtain rfl : u379 = 1 := i_is c383 (by decide)
                  refine W.eq (g2 := F0 m 112 ls [.int 1]) rfl ?_
                  refine lv_if_eq (tgt := 152) hx hb dX10_many_112 (by decide) (fun c384 => ?_) (fun c384 => ?_)
                  · exact absurd c384 (by decide)
                  refine lv_aload_n hx hb dX10_many_115 rfl (lv_at hl 6 rfl) ?_
                  refine lv_aload hx hb dX10_many_116 (lv_at hl 0 rfl) ?_
                  refine lv_iload hx hb dX10_many_118 (lv_at hl 1 rfl) ?_
                  refine cga (rn_V (As := [.ref u342, .int v204]) (rest := []) (b := p0) (x_X10_radiusOf l D Y Z H.size w105 T106 g q p0 u342 v204 hT (le107.up ht0) ht345) ⟨hx, hb, hml, hown, hg⟩ lk_X10_385 ⟨CPC.blind, va_recv hKN.1 hP (ci := 10) (q0 := p42) rfl hk109, CPC.at hP hKN hD hSZ hS hA⟩ ⟨⟨rfl, rfl⟩, ⟨Nat.le_of_ble_eq_true rfl, Nat.le_of_ble_eq_true rfl⟩, ⟨(Nat.le_of_ble_eq_true rfl), (Nat.le_of_ble_eq_true rfl)⟩⟩ hl.1 rfl (Nat.le_of_ble_eq_true rfl) dX10_many_120) hP hD hS hA (fun u385 H locs hw386 hP hD hS => ?_)
                  refine W.eq (g2 := F0 m 123 ls [.int u385]) rfl ?_
                  refine lv_iload_n hx hb dX10_many_123 rfl (lv_at hl 9 rfl) ?_
                  refine lv_iload hx hb dX10_many_124 (lv_at hl 10 rfl) ?_
                  refine cg0 (rn_S (As := [.int u385, .int p3, .int p4]) (rest := []) (x_X10_isWithin l D Y Z H.size u385 p3 p4) ⟨hx, hb, hml, hown, hg⟩ lk_X10_100 ⟨CP.blind, CP.at nilP hKN (nilD (A := fun _ => True))⟩ ⟨⟨rfl, rfl⟩, ⟨Nat.le_of_ble_eq_true rfl, Nat.le_of_ble_eq_true rfl⟩, ⟨(Nat.le_of_ble_eq_true rfl), (Nat.le_of_ble_eq_true rfl)⟩⟩ hl.1 rfl (Nat.le_of_ble_eq_true rfl) dX10_many_126) hP hS hA (fun u388 H locs hw389 hP hS => ?_)
                  obtain ⟨hw391, hw392⟩ : ((p3.toInt ≤ u385.toInt ∧ u385.toInt ≤ p4.toInt ∧ u388.toInt = 1) ∨ (¬ (p3.toInt ≤ u385.toInt ∧ u385.toInt ≤ p4.toInt) ∧ u388.toInt = 0)) ∧ (0 ≤ u388.toInt ∧ u388.toInt ≤ 1) := hw389
                  refine W.eq (g2 := F0 m 129 ls [.int u388]) rfl ?_
                  rcases (show u388.toInt = 1 ∨ u388.toInt = 0 by omega) with c393 | c393
                  · obtain rfl : u388 = 1 := i_is c393 (by decide)
                    refine W.eq (g2 := F0 m 129 ls [.int 1]) rfl ?_
                    refine lv_if_eq (tgt := 152) hx hb dX10_many_129 (by decide) (fun c394 => ?_) (fun c394 => ?_)
                    · exact absurd c394 (by decide)
                    refine lv_iload hx hb dX10_many_132 (lv_at hl 11 rfl) ?_
                    refine lv_iconst (v := 1) hx hb dX10_many_134 (by decide) ?_
                    refine lv_icmp_eq (tgt := 149) hx hb dX10_many_135 (by decide) (fun c395 => ?_) (fun c395 => ?_)
                    rotate_left
                    · have c395 := i_ne (Eq.refl p5.toInt) (show (1 : Int32).toInt = 1 by decide) c395; exfalso; omega
                    have c395 := i_eq (Eq.refl p5.toInt) (show (1 : Int32).toInt = 1 by decide) c395
                    obtain ⟨v396, ev396⟩ : ∃ y : Int32, y = v205 + 1 := ⟨_, rfl⟩
                    refine lv_iinc (v := v396) (lv' := [(9, .int v396), (11, .ref u342), (10, .int v204), (8, .int 1), (7, .int 1), (6, .ref b49), (0, .ref p0), (1, .int p1), (2, .int p2), (3, .int p3), (4, .int p4), (5, .int p5)]) hx hb dX10_many_149 hl (k := 2) rfl (by rw [ev396]; rfl) (by decide) rfl (fun ls hl => ?_)
                    obtain ⟨v397, ev397⟩ : ∃ y : Int32, y = v204 + 1 := ⟨_, rfl⟩
                    have hv397 := i_add (Eq.refl v204.toInt) (show (1 : Int32).toInt = 1 by decide) ev397 (by omega) (by omega)
                    refine lv_iinc (v := v397) (lv' := [(10, .int v397), (9, .int v396), (11, .ref u342), (8, .int 1), (7, .int 1), (6, .ref b49), (0, .ref p0), (1, .int p1), (2, .int p2), (3, .int p3), (4, .int p4), (5, .int p5)]) hx hb dX10_many_152 hl (k := 2) rfl (by rw [ev397]; rfl) (by decide) rfl (fun ls hl => ?_)
                    refine lv_goto (tgt := 79) hx hb dX10_many_155 (by decide) ?_
                    exact ih304 (v397, v396) H locs ls (by show (12 - v397.toInt).toNat < (12 - v204.toInt).toNat; omega) ⟨hP, hD, hS, lv_sub hl [0, 1, 3, 4, 5, 6, 7, 8, 9, 10, 11] rfl, hT, by omega⟩
                  · obtain rfl : u388 = 0 := i_is c393 (by decide)
                    refine W.eq (g2 := F0 m 129 ls [.int 0]) rfl ?_
                    refine lv_if_eq (tgt := 152) hx hb dX10_many_129 (by decide) (fun c398 => ?_) (fun c398 => ?_)
                    rotate_left
                    · exact absurd c398 (by decide)
                    obtain ⟨v399, ev399⟩ : ∃ y : Int32, y = v204 + 1 := ⟨_, rfl⟩
                    have hv399 := i_add (Eq.refl v204.toInt) (show (1 : Int32).toInt = 1 by decide) ev399 (by omega) (by omega)
                    refine lv_iinc (v := v399) (lv' := [(10, .int v399), (11, .ref u342), (9, .int v205), (8, .int 1), (7, .int 1), (6, .ref b49), (0, .ref p0), (1, .int p1), (2, .int p2), (3, .int p3), (4, .int p4), (5, .int p5)]) hx hb dX10_many_152 hl (k := 1) rfl (by rw [ev399]; rfl) (by decide) rfl (fun ls hl => ?_)
                    refine lv_goto (tgt := 79) hx hb dX10_many_155 (by decide) ?_
                    exact ih304 (v399, v205) H locs ls (by show (12 - v399.toInt).toNat < (12 - v204.toInt).toNat; omega) ⟨hP, hD, hS, lv_sub hl [0, 2, 3, 4, 5, 6, 7, 8, 9, 10, 11] rfl, hT, by omega⟩
                · obtain rfl : u379 = 0 := i_is c383 (by decide)
                  refine W.eq (g2 := F0 m 112 ls [.int 0]) rfl ?_
                  refine lv_if_eq (tgt := 152) hx hb dX10_many_112 (by decide) (fun c400 => ?_) (fun c400 => ?_)
                  rotate_left
                  · exact absurd c400 (by decide)
                  obtain ⟨v401, ev401⟩ : ∃ y : Int32, y = v204 + 1 := ⟨_, rfl⟩
                  have hv401 := i_add (Eq.refl v204.toInt) (show (1 : Int32).toInt = 1 by decide) ev401 (by omega) (by omega)
                  refine lv_iinc (v := v401) (lv' := [(10, .int v401), (11, .ref u342), (9, .int v205), (8, .int 1), (7, .int 1), (6, .ref b49), (0, .ref p0), (1, .int p1), (2, .int p2), (3, .int p3), (4, .int p4), (5, .int p5)]) hx hb dX10_many_152 hl (k := 1) rfl (by rw [ev401]; rfl) (by decide) rfl (fun ls hl => ?_)
                  refine lv_goto (tgt := 79) hx hb dX10_many_155 (by decide) ?_
                  exact ih304 (v401, v205) H locs ls (by show (12 - v401.toInt).toNat < (12 - v204.toInt).toNat; omega) ⟨hP, hD, hS, lv_sub hl [0, 2, 3, 4, 5, 6, 7, 8, 9, 10, 11] rfl, hT, by omega⟩
            · skip
              have c102 := i_eq (Eq.refl p5.toInt) (show (0 : Int32).toInt = 0 by decide) c102
              refine lv_iconst (v := 0) hx hb dX10_many_59 (by decide) ?_
              refine lv_goto (tgt := 64) hx hb dX10_many_60 (by decide) ?_
              refine lv_istore (lv' := [(8, .int 0), (7, .int 1), (6, .ref b49), (0, .ref p0), (1, .int p1), (2, .int p2), (3, .int p3), (4, .int p4), (5, .int p5)]) hx hb dX10_many_64 hl (by decide) rfl (fun ls hl => ?_)
              refine lv_aload_n hx hb dX10_many_66 rfl (lv_at hl 3 rfl) ?_
              refine lv_iload_n hx hb dX10_many_67 rfl (lv_at hl 4 rfl) ?_
              refine lv_iload hx hb dX10_many_68 (lv_at hl 0 rfl) ?_
              refine cga (rn_V (As := [.int p1, .int 0]) (rest := []) (b := p0) (x_X10_findAll l D Y Z H.size ws T g q p0 p1 0 hT ht0) ⟨hx, hb, hml, hown, hg⟩ lk_X10_319 ⟨CPC.blind, va_recv hKN.1 hP (ci := 10) (q0 := p42) rfl hk43, CPC.at hP hKN hD hSZ hS hA⟩ ⟨⟨rfl, rfl⟩, ⟨Nat.le_of_ble_eq_true rfl, Nat.le_of_ble_eq_true rfl⟩, ⟨(Nat.le_of_ble_eq_true rfl), (Nat.le_of_ble_eq_true rfl)⟩⟩ hl.1 rfl (Nat.le_of_ble_eq_true rfl) dX10_many_70) hP hD hS hA (fun u402 H locs hw403 hP hD hS => ?_)
              refine W.widen (k := 12) (n := 84) (Nat.le_of_ble_eq_true rfl) (Nat.le_of_ble_eq_true rfl) ?_
              obtain ⟨w404, T405⟩ := u402
              obtain ⟨le406, hT, ke407⟩ : TLe T T405 ∧ TW Y Z T405 g q w404 ∧ KF 1 T ws w404 := hw403
              have hk408 := ke407 _ _ hk43 (show (T p0).1 = 1 by rw [ht0])
              have ke409 : KF 1 T ws w404 := KF.tr KF.rf ke407
              refine W.eq (g2 := F0 m 73 ls []) rfl ?_
              refine lv_iconst (v := 0) hx hb dX10_many_73 (by decide) ?_
              refine lv_istore (lv' := [(9, .int 0), (8, .int 0), (7, .int 1), (6, .ref b49), (0, .ref p0), (1, .int p1), (2, .int p2), (3, .int p3), (4, .int p4), (5, .int p5)]) hx hb dX10_many_74 hl (by decide) rfl (fun ls hl => ?_)
              refine lv_iconst (v := 0) hx hb dX10_many_76 (by decide) ?_
              refine lv_istore (lv' := [(10, .int 0), (9, .int 0), (8, .int 0), (7, .int 1), (6, .ref b49), (0, .ref p0), (1, .int p1), (2, .int p2), (3, .int p3), (4, .int p4), (5, .int p5)]) hx hb dX10_many_77 hl (by decide) rfl (fun ls hl => ?_)
              refine w_loop (σ := Int32 × Int32 × va_W) (fun xx H locs ls => match xx with | (v516, v517, w518) => va_P D vwCl w518 H ∧ va_D A w518 ∧ va_S A s.heap H locs ∧ lv_has ls 12 [(10, .int v516), (9, .int v517), (8, .int 0), (7, .int 1), (6, .ref b49), (0, .ref p0), (1, .int p1), (2, .int p2), (3, .int p3), (4, .int p4), (5, .int p5)] ∧ TW Y Z T405 g q w518 ∧ KF 1 T ws w518 ∧ (0 ≤ v516.toInt ∧ v516.toInt ≤ 12)) (fun xx => match xx with | (v516, v517, w518) => (12 - v516.toInt).toNat) (0, 0, w404) ⟨hP, hD, hS, lv_sub hl [0, 1, 2, 3, 4, 5, 6, 7, 8, 9, 10] rfl, hT, ke409, by omega⟩ (fun xx H locs ls hI ih => ?_)
              obtain ⟨v516, v517, w518⟩ := xx
              obtain ⟨hP, hD, hS, hl, hT, ke674, hq673⟩ := hI
              have ih675 := ih
              refine lv_iload hx hb dX10_many_79 (lv_at hl 0 rfl) ?_
              refine lv_aload_n hx hb dX10_many_81 rfl (lv_at hl 5 rfl) ?_
              refine ok1 hT (le406.up ht0) (fun p717 a676 a677 a678 a679 a680 x681 x682 x683 a684 a685 a686 a687 a688 a689 a690 a691 a692 x693 a694 a695 hk718 h696 h697 h698 h699 h700 h701 h702 h703 h704 h705 h706 h707 h708 h709 h710 h711 h712 h713 h714 h715 h716 => ?_)
              refine va_get (D := D) (ci := 10) (v := .ref a676) (C := RX10) (T := TX10) (N := 20) hx hb hg inGX10 hown hKN.1 hP p717 hk718 rfl 0 (by decide) (hg _ kw_349) (fun _ h9 => h9) rfl dX10_many_82 ?_
              refine ok2 hT h696 (fun p753 x719 a720 x721 a722 x723 a724 a725 x726 a727 a728 x729 a730 x731 hk754 h732 h733 h734 h735 h736 h737 h738 h739 h740 h741 h742 h743 h744 h745 h746 h747 h748 h749 h750 h751 h752 => ?_)
              refine va_getN (D := D) (ci := 6) (v := .int x719) (C := RX6) (T := TX6) (N := 13) hx hb hg inGX6 hown hKN.1 hP p753 hk754 rfl 0 (by decide) (va_Nw.use rfl (hKN.2.1 _ kn_41 rfl)) (fun _ h9 => h9) rfl dX10_many_85 ?_
              refine lv_icmp_ge (tgt := 158) hx hb dX10_many_88 (by decide) (fun c755 => ?_) (fun c755 => ?_)
              · skip
                have c755 := i_le (Eq.refl x719.toInt) (Eq.refl v516.toInt) c755
                refine lv_iload hx hb dX10_many_158 (lv_at hl 1 rfl) ?_
                refine W.widen (k := 12) (n := 84) (Nat.le_of_ble_eq_true rfl) (Nat.le_of_ble_eq_true rfl) ?_
                exact W.iret (v := v517) hx hb hr (fun t ht hW => ⟨⟨(v517, w518, T405), rfl, ⟨le406, hT, ke674⟩, CB.mk ht hP hD⟩, hS.F ht⟩) hS.2.2 dX10_many_160
              · skip
                have c755 := i_nle (Eq.refl x719.toInt) (Eq.refl v516.toInt) c755
                refine lv_aload_n hx hb dX10_many_91 rfl (lv_at hl 5 rfl) ?_
                refine lv_iload_n hx hb dX10_many_92 rfl (lv_at hl 6 rfl) ?_
                refine lv_iload hx hb dX10_many_93 (lv_at hl 0 rfl) ?_
                refine lv_iload hx hb dX10_many_95 (lv_at hl 2 rfl) ?_
                refine cga (rn_V (As := [.int p1, .int v516, .int 0]) (rest := []) (b := p0) (x_X10_knownOf l D Y Z H.size w518 T405 g q p0 p1 v516 0 hT (le406.up ht0)) ⟨hx, hb, hml, hown, hg⟩ lk_X10_389 ⟨CPC.blind, va_recv hKN.1 hP (ci := 10) (q0 := p717) rfl hk718, CPC.at hP hKN hD hSZ hS hA⟩ ⟨⟨rfl, rfl⟩, ⟨Nat.le_of_ble_eq_true rfl, Nat.le_of_ble_eq_true rfl⟩, ⟨(Nat.le_of_ble_eq_true rfl), (Nat.le_of_ble_eq_true rfl)⟩⟩ hl.1 rfl (Nat.le_of_ble_eq_true rfl) dX10_many_97) hP hD hS hA (fun u756 H locs hw757 hP hD hS => ?_)
                have ht759 : T405 u756 = (6, 0, 0) := hw757
                refine W.eq (g2 := F0 m 100 ls [.ref u756]) rfl ?_
                refine lv_astore (lv' := [(11, .ref u756), (10, .int v516), (9, .int v517), (8, .int 0), (7, .int 1), (6, .ref b49), (0, .ref p0), (1, .int p1), (2, .int p2), (3, .int p3), (4, .int p4), (5, .int p5)]) hx hb dX10_many_100 hl (by decide) rfl (fun ls hl => ?_)
                refine lv_aload hx hb dX10_many_102 (lv_at hl 0 rfl) ?_
                refine lv_aload hx hb dX10_many_104 (lv_at hl 5 rfl) ?_
                refine ok5 hT (le406.up ht62) (fun p781 x760 x761 x762 x763 x764 x765 x766 x767 a768 a769 a770 a771 a772 x773 hk782 h774 h775 h776 h777 h778 h779 h780 => ?_)
                refine va_getN (D := D) (ci := 8) (v := .int x766) (C := RX8) (T := TX8) (N := 14) hx hb hg inGX8 hown hKN.1 hP p781 hk782 rfl 6 (by decide) (va_Nw.use rfl (hKN.2.1 _ kn_135 rfl)) (fun _ h9 => h9) rfl dX10_many_106 ?_
                refine ok6 hT ht759 (fun p791 x783 x784 x785 x786 x787 y788 y789 hk792 h790 => ?_)
                refine cga (rn_NV (As := [.int x766]) (rest := []) (b := u756) (x_X1_isSeen l D Y Z H.size w518 T405 g q u756 x766 hT ht759) ⟨hx, hb, hml, hown, hg⟩ hKN lk_X10_392 ⟨CPC.blind, va_recv hKN.1 hP (ci := 1) (q0 := p791) rfl hk792, CPC.at hP hKN hD hSZ hS hA⟩ ⟨⟨rfl, rfl⟩, ⟨Nat.le_of_ble_eq_true rfl, Nat.le_of_ble_eq_true rfl⟩, ⟨(Nat.le_of_ble_eq_true rfl), (Nat.le_of_ble_eq_true rfl)⟩⟩ hl.1 rfl (Nat.le_of_ble_eq_true rfl) dX10_many_109) hP hD hS hA (fun u793 H locs hw794 hP hD hS => ?_)
                have hw796 : (0 ≤ u793.toInt ∧ u793.toInt ≤ 1) := hw794
                refine W.eq (g2 := F0 m 112 ls [.int u793]) rfl ?_
                rcases (show u793.toInt = 1 ∨ u793.toInt = 0 by omega) with c797 | c797
                · obtain rfl : u793 = 1 := i_is c797 (by decide)
                  refine W.eq (g2 := F0 m 112 ls [.int 1]) rfl ?_
                  refine lv_if_eq (tgt := 152) hx hb dX10_many_112 (by decide) (fun c798 => ?_) (fun c798 => ?_)
                  · exact absurd c798 (by decide)
                  refine lv_aload_n hx hb dX10_many_115 rfl (lv_at hl 6 rfl) ?_
                  refine lv_aload hx hb dX10_many_116 (lv_at hl 0 rfl) ?_
                  refine lv_iload hx hb dX10_many_118 (lv_at hl 1 rfl) ?_
                  refine cga (rn_V (As := [.ref u756, .int v516]) (rest := []) (b := p0) (x_X10_radiusOf l D Y Z H.size w518 T405 g q p0 u756 v516 hT (le406.up ht0) ht759) ⟨hx, hb, hml, hown, hg⟩ lk_X10_385 ⟨CPC.blind, va_recv hKN.1 hP (ci := 10) (q0 := p717) rfl hk718, CPC.at hP hKN hD hSZ hS hA⟩ ⟨⟨rfl, rfl⟩, ⟨Nat.le_of_ble_eq_true rfl, Nat.le_of_ble_eq_true rfl⟩, ⟨(Nat.le_of_ble_eq_true rfl), (Nat.le_of_ble_eq_true rfl)⟩⟩ hl.1 rfl (Nat.le_of_ble_eq_true rfl) dX10_many_120) hP hD hS hA (fun u799 H locs hw800 hP hD hS => ?_)
                  refine W.eq (g2 := F0 m 123 ls [.int u799]) rfl ?_
                  refine lv_iload_n hx hb dX10_many_123 rfl (lv_at hl 9 rfl) ?_
                  refine lv_iload hx hb dX10_many_124 (lv_at hl 10 rfl) ?_
                  refine cg0 (rn_S (As := [.int u799, .int p3, .int p4]) (rest := []) (x_X10_isWithin l D Y Z H.size u799 p3 p4) ⟨hx, hb, hml, hown, hg⟩ lk_X10_100 ⟨CP.blind, CP.at nilP hKN (nilD (A := fun _ => True))⟩ ⟨⟨rfl, rfl⟩, ⟨Nat.le_of_ble_eq_true rfl, Nat.le_of_ble_eq_true rfl⟩, ⟨(Nat.le_of_ble_eq_true rfl), (Nat.le_of_ble_eq_true rfl)⟩⟩ hl.1 rfl (Nat.le_of_ble_eq_true rfl) dX10_many_126) hP hS hA (fun u802 H locs hw803 hP hS => ?_)
                  obtain ⟨hw805, hw806⟩ : ((p3.toInt ≤ u799.toInt ∧ u799.toInt ≤ p4.toInt ∧ u802.toInt = 1) ∨ (¬ (p3.toInt ≤ u799.toInt ∧ u799.toInt ≤ p4.toInt) ∧ u802.toInt = 0)) ∧ (0 ≤ u802.toInt ∧ u802.toInt ≤ 1) := hw803
                  refine W.eq (g2 := F0 m 129 ls [.int u802]) rfl ?_
                  rcases (show u802.toInt = 1 ∨ u802.toInt = 0 by omega) with c807 | c807
                  · obtain rfl : u802 = 1 := i_is c807 (by decide)
                    refine W.eq (g2 := F0 m 129 ls [.int 1]) rfl ?_
                    refine lv_if_eq (tgt := 152) hx hb dX10_many_129 (by decide) (fun c808 => ?_) (fun c808 => ?_)
                    · exact absurd c808 (by decide)
                    refine lv_iload hx hb dX10_many_132 (lv_at hl 11 rfl) ?_
                    refine lv_iconst (v := 1) hx hb dX10_many_134 (by decide) ?_
                    refine lv_icmp_eq (tgt := 149) hx hb dX10_many_135 (by decide) (fun c809 => ?_) (fun c809 => ?_)
                    · have c809 := i_eq (Eq.refl p5.toInt) (show (1 : Int32).toInt = 1 by decide) c809; exfalso; omega
                    have c809 := i_ne (Eq.refl p5.toInt) (show (1 : Int32).toInt = 1 by decide) c809
                    refine lv_aload_n hx hb dX10_many_138 rfl (lv_at hl 6 rfl) ?_
                    refine lv_iload_n hx hb dX10_many_139 rfl (lv_at hl 7 rfl) ?_
                    refine lv_iload_n hx hb dX10_many_140 rfl (lv_at hl 8 rfl) ?_
                    refine lv_iload hx hb dX10_many_141 (lv_at hl 1 rfl) ?_
                    refine cga (rn_V (As := [.int p1, .int p2, .int v516]) (rest := []) (b := p0) (x_X10_isSeenWorld l D Y Z H.size w518 T405 g q p0 p1 p2 v516 hT (le406.up ht0)) ⟨hx, hb, hml, hown, hg⟩ lk_X10_359 ⟨CPC.blind, va_recv hKN.1 hP (ci := 10) (q0 := p717) rfl hk718, CPC.at hP hKN hD hSZ hS hA⟩ ⟨⟨rfl, rfl⟩, ⟨Nat.le_of_ble_eq_true rfl, Nat.le_of_ble_eq_true rfl⟩, ⟨(Nat.le_of_ble_eq_true rfl), (Nat.le_of_ble_eq_true rfl)⟩⟩ hl.1 rfl (Nat.le_of_ble_eq_true rfl) dX10_many_143) hP hD hS hA (fun u810 H locs hw811 hP hD hS => ?_)
                    obtain ⟨u812, w813⟩ := u810
                    obtain ⟨hT, ke814, ke815, hw816⟩ : TW Y Z T405 g q w813 ∧ KF 1 T405 w518 w813 ∧ KF 6 T405 w518 w813 ∧ (0 ≤ u812.toInt ∧ u812.toInt ≤ 1) := hw811
                    have hk817 := ke814 _ _ hk718 (show (T405 p0).1 = 1 by rw [(le406.up ht0)])
                    have hk818 := ke815 _ _ hk792 (show (T405 u756).1 = 6 by rw [ht759])
                    have ke819 : KF 1 T ws w813 := KF.tr ke674 (KF.le (by decide) le406 ke814)
                    refine W.eq (g2 := F0 m 146 ls [.int u812]) rfl ?_
                    rcases (show u812.toInt = 1 ∨ u812.toInt = 0 by omega) with c820 | c820
                    · obtain rfl : u812 = 1 := i_is c820 (by decide)
                      refine W.eq (g2 := F0 m 146 ls [.int 1]) rfl ?_
                      refine lv_if_eq (tgt := 152) hx hb dX10_many_146 (by decide) (fun c821 => ?_) (fun c821 => ?_)
                      · exact absurd c821 (by decide)
                      obtain ⟨v822, ev822⟩ : ∃ y : Int32, y = v517 + 1 := ⟨_, rfl⟩
                      refine lv_iinc (v := v822) (lv' := [(9, .int v822), (11, .ref u756), (10, .int v516), (8, .int 0), (7, .int 1), (6, .ref b49), (0, .ref p0), (1, .int p1), (2, .int p2), (3, .int p3), (4, .int p4), (5, .int p5)]) hx hb dX10_many_149 hl (k := 2) rfl (by rw [ev822]; rfl) (by decide) rfl (fun ls hl => ?_)
                      obtain ⟨v823, ev823⟩ : ∃ y : Int32, y = v516 + 1 := ⟨_, rfl⟩
                      have hv823 := i_add (Eq.refl v516.toInt) (show (1 : Int32).toInt = 1 by decide) ev823 (by omega) (by omega)
                      refine lv_iinc (v := v823) (lv' := [(10, .int v823), (9, .int v822), (11, .ref u756), (8, .int 0), (7, .int 1), (6, .ref b49), (0, .ref p0), (1, .int p1), (2, .int p2), (3, .int p3), (4, .int p4), (5, .int p5)]) hx hb dX10_many_152 hl (k := 2) rfl (by rw [ev823]; rfl) (by decide) rfl (fun ls hl => ?_)
                      refine lv_goto (tgt := 79) hx hb dX10_many_155 (by decide) ?_
                      exact ih675 (v823, v822, w813) H locs ls (by show (12 - v823.toInt).toNat < (12 - v516.toInt).toNat; omega) ⟨hP, hD, hS, lv_sub hl [0, 1, 3, 4, 5, 6, 7, 8, 9, 10, 11] rfl, hT, ke819, by omega⟩
                    · obtain rfl : u812 = 0 := i_is c820 (by decide)
                      refine W.eq (g2 := F0 m 146 ls [.int 0]) rfl ?_
                      refine lv_if_eq (tgt := 152) hx hb dX10_many_146 (by decide) (fun c824 => ?_) (fun c824 => ?_)
                      rotate_left
                      · exact absurd c824 (by decide)
                      obtain ⟨v825, ev825⟩ : ∃ y : Int32, y = v516 + 1 := ⟨_, rfl⟩
                      have hv825 := i_add (Eq.refl v516.toInt) (show (1 : Int32).toInt = 1 by decide) ev825 (by omega) (by omega)
                      refine lv_iinc (v := v825) (lv' := [(10, .int v825), (11, .ref u756), (9, .int v517), (8, .int 0), (7, .int 1), (6, .ref b49), (0, .ref p0), (1, .int p1), (2, .int p2), (3, .int p3), (4, .int p4), (5, .int p5)]) hx hb dX10_many_152 hl (k := 1) rfl (by rw [ev825]; rfl) (by decide) rfl (fun ls hl => ?_)
                      refine lv_goto (tgt := 79) hx hb dX10_many_155 (by decide) ?_
                      exact ih675 (v825, v517, w813) H locs ls (by show (12 - v825.toInt).toNat < (12 - v516.toInt).toNat; omega) ⟨hP, hD, hS, lv_sub hl [0, 2, 3, 4, 5, 6, 7, 8, 9, 10, 11] rfl, hT, ke819, by omega⟩
                  · obtain rfl : u802 = 0 := i_is c807 (by decide)
                    refine W.eq (g2 := F0 m 129 ls [.int 0]) rfl ?_
                    refine lv_if_eq (tgt := 152) hx hb dX10_many_129 (by decide) (fun c826 => ?_) (fun c826 => ?_)
                    rotate_left
                    · exact absurd c826 (by decide)
                    obtain ⟨v827, ev827⟩ : ∃ y : Int32, y = v516 + 1 := ⟨_, rfl⟩
                    have hv827 := i_add (Eq.refl v516.toInt) (show (1 : Int32).toInt = 1 by decide) ev827 (by omega) (by omega)
                    refine lv_iinc (v := v827) (lv' := [(10, .int v827), (11, .ref u756), (9, .int v517), (8, .int 0), (7, .int 1), (6, .ref b49), (0, .ref p0), (1, .int p1), (2, .int p2), (3, .int p3), (4, .int p4), (5, .int p5)]) hx hb dX10_many_152 hl (k := 1) rfl (by rw [ev827]; rfl) (by decide) rfl (fun ls hl => ?_)
                    refine lv_goto (tgt := 79) hx hb dX10_many_155 (by decide) ?_
                    exact ih675 (v827, v517, w518) H locs ls (by show (12 - v827.toInt).toNat < (12 - v516.toInt).toNat; omega) ⟨hP, hD, hS, lv_sub hl [0, 2, 3, 4, 5, 6, 7, 8, 9, 10, 11] rfl, hT, ke674, by omega⟩
                · obtain rfl : u793 = 0 := i_is c797 (by decide)
                  refine W.eq (g2 := F0 m 112 ls [.int 0]) rfl ?_
                  refine lv_if_eq (tgt := 152) hx hb dX10_many_112 (by decide) (fun c828 => ?_) (fun c828 => ?_)
                  rotate_left
                  · exact absurd c828 (by decide)
                  obtain ⟨v829, ev829⟩ : ∃ y : Int32, y = v516 + 1 := ⟨_, rfl⟩
                  have hv829 := i_add (Eq.refl v516.toInt) (show (1 : Int32).toInt = 1 by decide) ev829 (by omega) (by omega)
                  refine lv_iinc (v := v829) (lv' := [(10, .int v829), (11, .ref u756), (9, .int v517), (8, .int 0), (7, .int 1), (6, .ref b49), (0, .ref p0), (1, .int p1), (2, .int p2), (3, .int p3), (4, .int p4), (5, .int p5)]) hx hb dX10_many_152 hl (k := 1) rfl (by rw [ev829]; rfl) (by decide) rfl (fun ls hl => ?_)
                  refine lv_goto (tgt := 79) hx hb dX10_many_155 (by decide) ?_
                  exact ih675 (v829, v517, w518) H locs ls (by show (12 - v829.toInt).toNat < (12 - v516.toInt).toNat; omega) ⟨hP, hD, hS, lv_sub hl [0, 2, 3, 4, 5, 6, 7, 8, 9, 10, 11] rfl, hT, ke674, by omega⟩
        · obtain rfl : u86 = 0 := i_is c91 (by decide)
          refine W.eq (g2 := F0 m 24 ls [.int 0]) rfl ?_
          refine lv_if_eq (tgt := 31) hx hb dX10_many_24 (by decide) (fun c830 => ?_) (fun c830 => ?_)
          rotate_left
          · exact absurd c830 (by decide)
          refine lv_iconst (v := 0) hx hb dX10_many_31 (by decide) ?_
          refine lv_istore (lv' := [(7, .int 0), (6, .ref b49), (0, .ref p0), (1, .int p1), (2, .int p2), (3, .int p3), (4, .int p4), (5, .int p5)]) hx hb dX10_many_32 hl (by decide) rfl (fun ls hl => ?_)
          refine lv_aload hx hb dX10_many_34 (lv_at hl 1 rfl) ?_
          refine lv_ifnull hx hb dX10_many_36 ?_
          refine lv_aload_n hx hb dX10_many_39 rfl (lv_at hl 2 rfl) ?_
          refine lv_iload_n hx hb dX10_many_40 rfl (lv_at hl 4 rfl) ?_
          refine cga (rn_V (As := [.int p2]) (rest := []) (b := p0) (x_X10_sorterAt l D Y Z H.size ws T g q p0 p2 hT ht0) ⟨hx, hb, hml, hown, hg⟩ lk_X10_349 ⟨CPC.blind, va_recv hKN.1 hP (ci := 10) (q0 := p42) rfl hk43, CPC.at hP hKN hD hSZ hS hA⟩ ⟨⟨rfl, rfl⟩, ⟨Nat.le_of_ble_eq_true rfl, Nat.le_of_ble_eq_true rfl⟩, ⟨(Nat.le_of_ble_eq_true rfl), (Nat.le_of_ble_eq_true rfl)⟩⟩ hl.1 rfl (Nat.le_of_ble_eq_true rfl) dX10_many_41) hP hD hS hA (fun u831 H locs hw832 hP hD hS => ?_)
          obtain ⟨ht834, hw835⟩ : (∀ b, u831 = some b → T b = (5, 0, 0)) ∧ (∀ b, u831 = some b → 0 ≤ p2.toInt ∧ p2.toInt ≤ 5) := hw832
          refine W.eq (g2 := F0 m 44 ls [va_rf u831]) rfl ?_
          rcases u831 with _ | b836
          · skip
            refine W.eq (g2 := F0 m 44 ls [.null]) rfl ?_
            refine lv_ifnullN (tgt := 52) hx hb dX10_many_44 (by decide) ?_
            refine lv_iconst (v := (-1)) hx hb dX10_many_52 (by decide) ?_
            refine W.widen (k := 12) (n := 84) (Nat.le_of_ble_eq_true rfl) (Nat.le_of_ble_eq_true rfl) ?_
            have zim1 : ((-1) : Int32).toInt = -1 := by decide
            exact W.iret (v := (-1)) hx hb hr (fun t ht hW => ⟨⟨(((-1)), ws, T), rfl, ⟨TLe.rf, hT, KF.rf⟩, CB.mk ht hP hD⟩, hS.F ht⟩) hS.2.2 dX10_many_53
          · skip
            have ht837 := ht834 b836 rfl
            have h838 := hw835 b836 rfl
            refine W.eq (g2 := F0 m 44 ls [.ref b836]) rfl ?_
            refine lv_ifnull hx hb dX10_many_44 ?_
            refine lv_iload hx hb dX10_many_47 (lv_at hl 0 rfl) ?_
            refine lv_if_ne (tgt := 54) hx hb dX10_many_49 (by decide) (fun c839 => ?_) (fun c839 => ?_)
            · exact absurd c839 (by decide)
            refine lv_iconst (v := (-1)) hx hb dX10_many_52 (by decide) ?_
            refine W.widen (k := 12) (n := 84) (Nat.le_of_ble_eq_true rfl) (Nat.le_of_ble_eq_true rfl) ?_
            have zim1 : ((-1) : Int32).toInt = -1 := by decide
            exact W.iret (v := (-1)) hx hb hr (fun t ht hW => ⟨⟨(((-1)), ws, T), rfl, ⟨TLe.rf, hT, KF.rf⟩, CB.mk ht hP hD⟩, hS.F ht⟩) hS.2.2 dX10_many_53
