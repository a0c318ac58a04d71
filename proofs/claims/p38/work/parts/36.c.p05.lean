set_option maxHeartbeats 4000000 in
set_option maxRecDepth 100000 in
theorem x_X10_found (l : Launch) (D : va_G) (Y : Nat → ClassId) (Z : Nat → Nat) (sz : Nat) (ws : va_W) (T : RT) (g : GN) (q : GQ)  (p0 : Nat) (p1 : Int32) (p2 : Int32) (p3 : Int32) (p4 : Int32) (hT : TW Y Z T g q ws) (ht0 : T p0 = (1, 0, 0)) : Met l yX10_found (.code yX10_found cX10_found 6 (some .long) :: GW) ({ frames := 5, cells := 1, slots := 7, locals := 133 }) (va_Pc [.ref p0, .int p1, .int p2, .int p3, .int p4] (CPC D Y Z ws sz)) (QG (S := Int64 × va_W × RT) (fun u => some (.long u.1)) (fun u => TLe T u.2.2 ∧ TW Y Z u.2.2 g q u.2.1 ∧ KF 1 T ws u.2.1) (fun u => CB D u.2.1 (va_A ws sz)) (va_A ws sz)) 1 7 (va_A ws sz) := by
  refine Met.ofW (cc := cX10_found) (maxL := 6) (ret := (some .long)) (by decide) rfl ?_
  intro p e s m args below meth c s₁ B hml hv
  obtain ⟨rfl, ⟨hsz, hP, hKN, hD0⟩, hSZ⟩ := hv
  have hx := B.exec
  have hb := B.bytes
  have hr := B.returns
  have hts := atoms_spec (ws := .code yX10_found cX10_found 6 (some .long) :: GW) B.pre
  have hg : ∀ w ∈ GW, w.before _ s = true := fun w h => hts w (List.mem_cons_of_mem _ h)
  have hown : s.vm.findClass RX10 = some m.cls := findClass_of_methodNamed B.named
  have hlocks := B.notSynchronized
  subst hsz
  have hD := hD0.self (sz := s.heap.size)
  generalize hAe : va_A ws s.heap.size = A at hD hSZ ⊢
  have hA : ∀ q : Nat, s.heap.size ≤ q → A q := fun q h => by rw [← hAe]; exact Or.inr h
  clear hAe hD0 hts B
  have hl := lv_entry ([.ref p0, .int p1, .int p2, .int p3, .int p4]) (n := 6) (Nat.le_of_ble_eq_true rfl)
  rw [lg_entry_eq]
  generalize (lg_sl ([.ref p0, .int p1, .int p2, .int p3, .int p4]) ++ List.replicate (6 - (lg_sl ([.ref p0, .int p1, .int p2, .int p3, .int p4])).length) Slot.unset).toArray = ls at hl ⊢
  have hl : lv_has ls 6 [(0, .ref p0), (1, .int p1), (2, .int p2), (3, .int p3), (4, .int p4)] := hl
  refine w_start (A0 := A) hP (fun H locs hP hS => ?_)
  refine lv_aload_n hx hb dX10_found_0 rfl (lv_at hl 0 rfl) ?_
  refine lv_iload_n hx hb dX10_found_1 rfl (lv_at hl 1 rfl) ?_
  refine ok1 hT ht0 (fun p42 a1 a2 a3 a4 a5 x6 x7 x8 a9 a10 a11 a12 a13 a14 a15 a16 a17 x18 a19 a20 hk43 h21 h22 h23 h24 h25 h26 h27 h28 h29 h30 h31 h32 h33 h34 h35 h36 h37 h38 h39 h40 h41 => ?_)
  refine cga (rn_V (As := [.int p1]) (rest := []) (b := p0) (x_X10_searchAt l D Y Z H.size ws T g q p0 p1 hT ht0) ⟨hx, hb, hml, hown, hg⟩ lk_X10_259 ⟨CPC.blind, va_recv hKN.1 hP (ci := 10) (q0 := p42) rfl hk43, CPC.at hP hKN hD hSZ hS hA⟩ ⟨⟨rfl, rfl⟩, ⟨Nat.le_of_ble_eq_true rfl, Nat.le_of_ble_eq_true rfl⟩, ⟨(Nat.le_of_ble_eq_true rfl), (Nat.le_of_ble_eq_true rfl)⟩⟩ hl.1 rfl (Nat.le_of_ble_eq_true rfl) dX10_found_2) hP hD hS hA (fun u44 H locs hw45 hP hD hS => ?_)
  obtain ⟨ht47, hw48⟩ : (∀ b, u44 = some b → T b = (5, 0, 0)) ∧ (∀ b, u44 = some b → 0 ≤ p1.toInt ∧ p1.toInt ≤ 5) := hw45
  refine W.eq (g2 := F0 m 5 ls [va_rf u44]) rfl ?_
  rcases u44 with _ | b49
  · skip
    refine W.eq (g2 := F0 m 5 ls [.null]) rfl ?_
    refine lv_astoreN (lv' := [(5, .null), (0, .ref p0), (1, .int p1), (2, .int p2), (3, .int p3), (4, .int p4)]) hx hb dX10_found_5 hl (by decide) rfl (fun ls hl => ?_)
    refine lv_aloadN hx hb dX10_found_7 (lv_at hl 0 rfl) ?_
    refine lv_ifnullN (tgt := 38) hx hb dX10_found_9 (by decide) ?_
    refine lv_ldc2 (v := (-2)) hx hb hown (hg _ kw_852) dX10_found_38 ?_
    refine W.widen (k := 1) (n := 7) (Nat.le_of_ble_eq_true rfl) (Nat.le_of_ble_eq_true rfl) ?_
    have zlm2 : ((-2) : Int64).toInt = -2 := by decide
    exact W.lret (v := (-2)) hx hb hr (fun t ht hW => ⟨⟨(((-2)), ws, T), rfl, ⟨TLe.rf, hT, KF.rf⟩, CB.mk ht hP hD⟩, hS.F ht⟩) hS.2.2 dX10_found_41
  · skip
    have ht50 := ht47 b49 rfl
    have h51 := hw48 b49 rfl
    refine W.eq (g2 := F0 m 5 ls [.ref b49]) rfl ?_
    refine lv_astore (lv' := [(5, .ref b49), (0, .ref p0), (1, .int p1), (2, .int p2), (3, .int p3), (4, .int p4)]) hx hb dX10_found_5 hl (by decide) rfl (fun ls hl => ?_)
    refine lv_aload hx hb dX10_found_7 (lv_at hl 0 rfl) ?_
    refine lv_ifnull hx hb dX10_found_9 ?_
    refine lv_aload_n hx hb dX10_found_12 rfl (lv_at hl 1 rfl) ?_
    refine lv_iload_n hx hb dX10_found_13 rfl (lv_at hl 3 rfl) ?_
    refine cga (rn_V (As := [.int p2]) (rest := []) (b := p0) (x_X10_isStar l D Y Z H.size ws T g q p0 p2 hT ht0) ⟨hx, hb, hml, hown, hg⟩ lk_X10_137 ⟨CPC.blind, va_recv hKN.1 hP (ci := 10) (q0 := p42) rfl hk43, CPC.at hP hKN hD hSZ hS hA⟩ ⟨⟨rfl, rfl⟩, ⟨Nat.le_of_ble_eq_true rfl, Nat.le_of_ble_eq_true rfl⟩, ⟨(Nat.le_of_ble_eq_true rfl), (Nat.le_of_ble_eq_true rfl)⟩⟩ hl.1 rfl (Nat.le_of_ble_eq_true rfl) dX10_found_14) hP hD hS hA (fun u52 H locs hw53 hP hD hS => ?_)
    obtain ⟨hw55, hw56⟩ : (0 ≤ u52.toInt ∧ u52.toInt ≤ 1) ∧ (u52.toInt = 1 → (0 ≤ p2.toInt ∧ p2.toInt ≤ 11)) := hw53
    refine W.eq (g2 := F0 m 17 ls [.int u52]) rfl ?_
    rcases (show u52.toInt = 1 ∨ u52.toInt = 0 by omega) with c57 | c57
    · obtain rfl : u52 = 1 := i_is c57 (by decide)
      have zi1 : (1 : Int32).toInt = 1 := by decide
      replace hw56 := hw56 (by decide)
      refine W.eq (g2 := F0 m 17 ls [.int 1]) rfl ?_
      refine lv_if_eq (tgt := 38) hx hb dX10_found_17 (by decide) (fun c58 => ?_) (fun c58 => ?_)
      · exact absurd c58 (by decide)
      refine lv_iload_n hx hb dX10_found_20 rfl (lv_at hl 4 rfl) ?_
      refine cg0 (rn_S (As := [.int p3]) (rest := []) (x_X10_isWay l D Y Z H.size p3) ⟨hx, hb, hml, hown, hg⟩ lk_X10_140 ⟨CP.blind, CP.at nilP hKN (nilD (A := fun _ => True))⟩ ⟨⟨rfl, rfl⟩, ⟨Nat.le_of_ble_eq_true rfl, Nat.le_of_ble_eq_true rfl⟩, ⟨(Nat.le_of_ble_eq_true rfl), (Nat.le_of_ble_eq_true rfl)⟩⟩ hl.1 rfl (Nat.le_of_ble_eq_true rfl) dX10_found_21) hP hS hA (fun u59 H locs hw60 hP hS => ?_)
      obtain ⟨hw62, hw63⟩ : ((0 ≤ p3.toInt ∧ p3.toInt ≤ 5 ∧ u59.toInt = 1) ∨ (¬ (0 ≤ p3.toInt ∧ p3.toInt ≤ 5) ∧ u59.toInt = 0)) ∧ (0 ≤ u59.toInt ∧ u59.toInt ≤ 1) := hw60
      refine W.eq (g2 := F0 m 24 ls [.int u59]) rfl ?_
      rcases (show u59.toInt = 1 ∨ u59.toInt = 0 by omega) with c64 | c64
      · obtain rfl : u59 = 1 := i_is c64 (by decide)
        refine W.eq (g2 := F0 m 24 ls [.int 1]) rfl ?_
        refine lv_if_eq (tgt := 38) hx hb dX10_found_24 (by decide) (fun c65 => ?_) (fun c65 => ?_)
        · exact absurd c65 (by decide)
        refine lv_iload hx hb dX10_found_27 (lv_at hl 5 rfl) ?_
        refine lv_iconst (v := 0) hx hb dX10_found_29 (by decide) ?_
        refine lv_bipush (v := 6) hx hb dX10_found_30 (by decide) ?_
        have zi0 : (0 : Int32).toInt = 0 := by decide
        have zi6 : (6 : Int32).toInt = 6 := by decide
        refine cg0 (rn_S (As := [.int p4, .int 0, .int 6]) (rest := []) (x_X10_isWithin l D Y Z H.size p4 0 6) ⟨hx, hb, hml, hown, hg⟩ lk_X10_100 ⟨CP.blind, CP.at nilP hKN (nilD (A := fun _ => True))⟩ ⟨⟨rfl, rfl⟩, ⟨Nat.le_of_ble_eq_true rfl, Nat.le_of_ble_eq_true rfl⟩, ⟨(Nat.le_of_ble_eq_true rfl), (Nat.le_of_ble_eq_true rfl)⟩⟩ hl.1 rfl (Nat.le_of_ble_eq_true rfl) dX10_found_32) hP hS hA (fun u66 H locs hw67 hP hS => ?_)
        obtain ⟨hw69, hw70⟩ : (((0 : Int32).toInt ≤ p4.toInt ∧ p4.toInt ≤ (6 : Int32).toInt ∧ u66.toInt = 1) ∨ (¬ ((0 : Int32).toInt ≤ p4.toInt ∧ p4.toInt ≤ (6 : Int32).toInt) ∧ u66.toInt = 0)) ∧ (0 ≤ u66.toInt ∧ u66.toInt ≤ 1) := hw67
        refine W.eq (g2 := F0 m 35 ls [.int u66]) rfl ?_
        rcases (show u66.toInt = 1 ∨ u66.toInt = 0 by omega) with c71 | c71
        · obtain rfl : u66 = 1 := i_is c71 (by decide)
          refine W.eq (g2 := F0 m 35 ls [.int 1]) rfl ?_
          refine lv_if_ne (tgt := 42) hx hb dX10_found_35 (by decide) (fun c72 => ?_) (fun c72 => ?_)
          rotate_left
          · exact absurd c72 (by decide)
          refine lv_aload_n hx hb dX10_found_42 rfl (lv_at hl 1 rfl) ?_
          refine lv_iload_n hx hb dX10_found_43 rfl (lv_at hl 2 rfl) ?_
          refine lv_iload_n hx hb dX10_found_44 rfl (lv_at hl 3 rfl) ?_
          refine lv_iload_n hx hb dX10_found_45 rfl (lv_at hl 4 rfl) ?_
          refine cga (rn_V (As := [.int p1, .int p2, .int p3]) (rest := []) (b := p0) (x_X10_findingOf l D Y Z H.size ws T g q p0 p1 p2 p3 hT ht0) ⟨hx, hb, hml, hown, hg⟩ lk_X10_264 ⟨CPC.blind, va_recv hKN.1 hP (ci := 10) (q0 := p42) rfl hk43, CPC.at hP hKN hD hSZ hS hA⟩ ⟨⟨rfl, rfl⟩, ⟨Nat.le_of_ble_eq_true rfl, Nat.le_of_ble_eq_true rfl⟩, ⟨(Nat.le_of_ble_eq_true rfl), (Nat.le_of_ble_eq_true rfl)⟩⟩ hl.1 rfl (Nat.le_of_ble_eq_true rfl) dX10_found_46) hP hD hS hA (fun u73 H locs hw74 hP hD hS => ?_)
          refine W.widen (k := 1) (n := 7) (Nat.le_of_ble_eq_true rfl) (Nat.le_of_ble_eq_true rfl) ?_
          obtain ⟨b75, w76, T77⟩ := u73
          obtain ⟨le78, hT, ke79, ht80⟩ : TLe T T77 ∧ TW Y Z T77 g q w76 ∧ KF 1 T ws w76 ∧ T77 b75 = (6, 0, 0) := hw74
          have hk81 := ke79 _ _ hk43 (show (T p0).1 = 1 by rw [ht0])
          have ke82 : KF 1 T ws w76 := KF.tr KF.rf ke79
          refine W.eq (g2 := F0 m 49 ls [.ref b75]) rfl ?_
          refine lv_iload hx hb dX10_found_49 (lv_at hl 5 rfl) ?_
          refine lv_aload hx hb dX10_found_51 (lv_at hl 0 rfl) ?_
          refine ok5 hT (le78.up ht50) (fun p104 x83 x84 x85 x86 x87 x88 x89 x90 a91 a92 a93 a94 a95 x96 hk105 h97 h98 h99 h100 h101 h102 h103 => ?_)
          refine va_getN (D := D) (ci := 8) (v := .int x89) (C := RX8) (T := TX8) (N := 14) hx hb hg inGX8 hown hKN.1 hP p104 hk105 rfl 6 (by decide) (va_Nw.use rfl (hKN.2.1 _ kn_135 rfl)) (fun _ h9 => h9) rfl dX10_found_53 ?_
          refine ok6 hT ht80 (fun p114 x106 x107 x108 x109 x110 y111 y112 hk115 h113 => ?_)
          refine cga (rn_NV (As := [.int p4, .int x89]) (rest := []) (b := b75) (x_X1_part l D Y Z H.size w76 T77 g q b75 p4 x89 hT ht80) ⟨hx, hb, hml, hown, hg⟩ hKN lk_X10_271 ⟨CPC.blind, va_recv hKN.1 hP (ci := 1) (q0 := p114) rfl hk115, CPC.at hP hKN hD hSZ hS hA⟩ ⟨⟨rfl, rfl⟩, ⟨Nat.le_of_ble_eq_true rfl, Nat.le_of_ble_eq_true rfl⟩, ⟨(Nat.le_of_ble_eq_true rfl), (Nat.le_of_ble_eq_true rfl)⟩⟩ hl.1 rfl (Nat.le_of_ble_eq_true rfl) dX10_found_56) hP hD hS hA (fun u116 H locs hw117 hP hD hS => ?_)
          refine W.eq (g2 := F0 m 59 ls [.long u116]) rfl ?_
          refine W.widen (k := 1) (n := 7) (Nat.le_of_ble_eq_true rfl) (Nat.le_of_ble_eq_true rfl) ?_
          exact W.lret (v := u116) hx hb hr (fun t ht hW => ⟨⟨(u116, w76, T77), rfl, ⟨le78, hT, ke82⟩, CB.mk ht hP hD⟩, hS.F ht⟩) hS.2.2 dX10_found_59
        · obtain rfl : u66 = 0 := i_is c71 (by decide)
          refine W.eq (g2 := F0 m 35 ls [.int 0]) rfl ?_
          refine lv_if_ne (tgt := 42) hx hb dX10_found_35 (by decide) (fun c119 => ?_) (fun c119 => ?_)
          · exact absurd c119 (by decide)
          refine lv_ldc2 (v := (-2)) hx hb hown (hg _ kw_852) dX10_found_38 ?_
          refine W.widen (k := 1) (n := 7) (Nat.le_of_ble_eq_true rfl) (Nat.le_of_ble_eq_true rfl) ?_
          have zlm2 : ((-2) : Int64).toInt = -2 := by decide
          exact W.lret (v := (-2)) hx hb hr (fun t ht hW => ⟨⟨(((-2)), ws, T), rfl, ⟨TLe.rf, hT, KF.rf⟩, CB.mk ht hP hD⟩, hS.F ht⟩) hS.2.2 dX10_found_41
      · obtain rfl : u59 = 0 := i_is c64 (by decide)
        have zi0 : (0 : Int32).toInt = 0 := by decide
        refine W.eq (g2 := F0 m 24 ls [.int 0]) rfl ?_
        refine lv_if_eq (tgt := 38) hx hb dX10_found_24 (by decide) (fun c120 => ?_) (fun c120 => ?_)
        rotate_left
        · exact absurd c120 (by decide)
        refine lv_ldc2 (v := (-2)) hx hb hown (hg _ kw_852) dX10_found_38 ?_
        refine W.widen (k := 1) (n := 7) (Nat.le_of_ble_eq_true rfl) (Nat.le_of_ble_eq_true rfl) ?_
        have zlm2 : ((-2) : Int64).toInt = -2 := by decide
        exact W.lret (v := (-2)) hx hb hr (fun t ht hW => ⟨⟨(((-2)), ws, T), rfl, ⟨TLe.rf, hT, KF.rf⟩, CB.mk ht hP hD⟩, hS.F ht⟩) hS.2.2 dX10_found_41
    · obtain rfl : u52 = 0 := i_is c57 (by decide)
      have zi0 : (0 : Int32).toInt = 0 := by decide
      clear hw56
      refine W.eq (g2 := F0 m 17 ls [.int 0]) rfl ?_
      refine lv_if_eq (tgt := 38) hx hb dX10_found_17 (by decide) (fun c121 => ?_) (fun c121 => ?_)
      rotate_left
      · exact absurd c121 (by decide)
      refine lv_ldc2 (v := (-2)) hx hb hown (hg _ kw_852) dX10_found_38 ?_
      refine W.widen (k := 1) (n := 7) (Nat.le_of_ble_eq_true rfl) (Nat.le_of_ble_eq_true rfl) ?_
      have zlm2 : ((-2) : Int64).toInt = -2 := by decide
      exact W.lret (v := (-2)) hx hb hr (fun t ht hW => ⟨⟨(((-2)), ws, T), rfl, ⟨TLe.rf, hT, KF.rf⟩, CB.mk ht hP hD⟩, hS.F ht⟩) hS.2.2 dX10_found_41
set_option maxHeartbeats 4000000 in
set_option maxRecDepth 100000 in
theorem x_X10_spread (l : Launch) (D : va_G) (Y : Nat → ClassId) (Z : Nat → Nat) (sz : Nat) (ws : va_W) (T : RT) (g : GN) (q : GQ)  (p0 : Nat) (p1 : Int32) (hT : TW Y Z T g q ws) (ht0 : T p0 = (1, 0, 0)) : Met l yX10_spread (.code yX10_spread cX10_spread 2 (some .long) :: GW) ({ frames := 4, cells := 0, slots := 0, locals := 101 }) (va_Pc [.ref p0, .int p1] (CPC D Y Z ws sz)) (QG (S := Int64 × va_W) (fun u => some (.long u.1)) (fun u => TW Y Z T g q u.2 ∧ KF 1 T ws u.2 ∧ KF 6 T ws u.2) (fun u => CB D u.2 (va_A ws sz)) (va_A ws sz)) 0 0 (va_A ws sz) := by
  refine Met.ofW (cc := cX10_spread) (maxL := 2) (ret := (some .long)) (by decide) rfl ?_
  intro p e s m args below meth c s₁ B hml hv
  obtain ⟨rfl, ⟨hsz, hP, hKN, hD0⟩, hSZ⟩ := hv
  have hx := B.exec
  have hb := B.bytes
  have hr := B.returns
  have hts := atoms_spec (ws := .code yX10_spread cX10_spread 2 (some .long) :: GW) B.pre
  have hg : ∀ w ∈ GW, w.before _ s = true := fun w h => hts w (List.mem_cons_of_mem _ h)
  have hown : s.vm.findClass RX10 = some m.cls := findClass_of_methodNamed B.named
  have hlocks := B.notSynchronized
  subst hsz
  have hD := hD0.self (sz := s.heap.size)
  generalize hAe : va_A ws s.heap.size = A at hD hSZ ⊢
  have hA : ∀ q : Nat, s.heap.size ≤ q → A q := fun q h => by rw [← hAe]; exact Or.inr h
  clear hAe hD0 hts B
  have hl := lv_entry ([.ref p0, .int p1]) (n := 2) (Nat.le_of_ble_eq_true rfl)
  rw [lg_entry_eq]
  generalize (lg_sl ([.ref p0, .int p1]) ++ List.replicate (2 - (lg_sl ([.ref p0, .int p1])).length) Slot.unset).toArray = ls at hl ⊢
  have hl : lv_has ls 2 [(0, .ref p0), (1, .int p1)] := hl
  refine w_start (A0 := A) hP (fun H locs hP hS => ?_)
  refine lv_aload_n hx hb dX10_spread_0 rfl (lv_at hl 0 rfl) ?_
  refine lv_iload_n hx hb dX10_spread_1 rfl (lv_at hl 1 rfl) ?_
  refine ok1 hT ht0 (fun p42 a1 a2 a3 a4 a5 x6 x7 x8 a9 a10 a11 a12 a13 a14 a15 a16 a17 x18 a19 a20 hk43 h21 h22 h23 h24 h25 h26 h27 h28 h29 h30 h31 h32 h33 h34 h35 h36 h37 h38 h39 h40 h41 => ?_)
  refine cga (rn_V (As := [.int p1]) (rest := []) (b := p0) (x_X10_isStar l D Y Z H.size ws T g q p0 p1 hT ht0) ⟨hx, hb, hml, hown, hg⟩ lk_X10_137 ⟨CPC.blind, va_recv hKN.1 hP (ci := 10) (q0 := p42) rfl hk43, CPC.at hP hKN hD hSZ hS hA⟩ ⟨⟨rfl, rfl⟩, ⟨Nat.le_of_ble_eq_true rfl, Nat.le_of_ble_eq_true rfl⟩, ⟨(Nat.le_of_ble_eq_true rfl), (Nat.le_of_ble_eq_true rfl)⟩⟩ hl.1 rfl (Nat.le_of_ble_eq_true rfl) dX10_spread_2) hP hD hS hA (fun u44 H locs hw45 hP hD hS => ?_)
  obtain ⟨hw47, hw48⟩ : (0 ≤ u44.toInt ∧ u44.toInt ≤ 1) ∧ (u44.toInt = 1 → (0 ≤ p1.toInt ∧ p1.toInt ≤ 11)) := hw45
  refine W.eq (g2 := F0 m 5 ls [.int u44]) rfl ?_
  rcases (show u44.toInt = 1 ∨ u44.toInt = 0 by omega) with c49 | c49
  · obtain rfl : u44 = 1 := i_is c49 (by decide)
    have zi1 : (1 : Int32).toInt = 1 := by decide
    replace hw48 := hw48 (by decide)
    refine W.eq (g2 := F0 m 5 ls [.int 1]) rfl ?_
    refine lv_if_ne (tgt := 12) hx hb dX10_spread_5 (by decide) (fun c50 => ?_) (fun c50 => ?_)
    rotate_left
    · exact absurd c50 (by decide)
    refine lv_aload_n hx hb dX10_spread_12 rfl (lv_at hl 0 rfl) ?_
    refine va_get (D := D) (ci := 10) (v := .ref a11) (C := RX10) (T := TX10) (N := 20) hx hb hg inGX10 hown hKN.1 hP p42 hk43 rfl 10 (by decide) (hg _ kw_359) (fun _ h9 => h9) rfl dX10_spread_13 ?_
    refine lv_aload_n hx hb dX10_spread_16 rfl (lv_at hl 0 rfl) ?_
    refine va_get (D := D) (ci := 10) (v := .ref a1) (C := RX10) (T := TX10) (N := 20) hx hb hg inGX10 hown hKN.1 hP p42 hk43 rfl 0 (by decide) (hg _ kw_349) (fun _ h9 => h9) rfl dX10_spread_17 ?_
    refine lv_iload_n hx hb dX10_spread_20 rfl (lv_at hl 1 rfl) ?_
    refine lv_iconst (v := 0) hx hb dX10_spread_21 (by decide) ?_
    have zi0 : (0 : Int32).toInt = 0 := by decide
    refine ok9 hT h33 (fun p63 a51 a52 a53 x54 y55 y56 x57 y58 hk64 h59 h60 h61 h62 => ?_)
    refine cga (rn_NV (As := [.ref a1, .int p1, .int 0]) (rest := []) (b := a11) (x_X2_see l D Y Z H.size ws T g q 0 a11 a1 p1 0 hT h33 h21) ⟨hx, hb, hml, hown, hg⟩ hKN lk_X10_143 ⟨CPC.blind, va_recv hKN.1 hP (ci := 2) (q0 := p63) rfl hk64, CPC.at hP hKN hD hSZ hS hA⟩ ⟨⟨rfl, rfl⟩, ⟨Nat.le_of_ble_eq_true rfl, Nat.le_of_ble_eq_true rfl⟩, ⟨(Nat.le_of_ble_eq_true rfl), (Nat.le_of_ble_eq_true rfl)⟩⟩ hl.1 rfl (Nat.le_of_ble_eq_true rfl) dX10_spread_22) hP hD hS hA (fun u65 H locs hw66 hP hD hS => ?_)
    obtain ⟨hT, ke68, ke69⟩ : TW Y Z T g q u65 ∧ KF 1 T ws u65 ∧ KF 6 T ws u65 := hw66
    have hk70 := ke68 _ _ hk43 (show (T p0).1 = 1 by rw [ht0])
    have ke71 : KF 1 T ws u65 := KF.tr KF.rf ke68
    have ke72 : KF 6 T ws u65 := KF.tr KF.rf ke69
    refine W.eq (g2 := F0 m 25 ls []) rfl ?_
    refine lv_aload_n hx hb dX10_spread_25 rfl (lv_at hl 0 rfl) ?_
    refine va_get (D := D) (ci := 10) (v := .ref a11) (C := RX10) (T := TX10) (N := 20) hx hb hg inGX10 hown hKN.1 hP p42 hk70 rfl 10 (by decide) (hg _ kw_359) (fun _ h9 => h9) rfl dX10_spread_26 ?_
    refine ok9 hT h33 (fun p85 a73 a74 a75 x76 y77 y78 x79 y80 hk86 h81 h82 h83 h84 => ?_)
    refine va_getN (D := D) (ci := 2) (v := .int x76) (C := RX2) (T := TX2) (N := 8) hx hb hg inGX2 hown hKN.1 hP p85 hk86 rfl 3 (by decide) (va_Nw.use rfl (hKN.2.1 _ kn_243 rfl)) (fun _ h9 => h9) rfl dX10_spread_29 ?_
    refine lv_if_ne (tgt := 41) hx hb dX10_spread_32 (by decide) (fun c87 => ?_) (fun c87 => ?_)
    · skip
      have c87 := i_ne (Eq.refl x76.toInt) (show (0 : Int32).toInt = 0 by decide) c87
      refine lv_aload_n hx hb dX10_spread_41 rfl (lv_at hl 0 rfl) ?_
      refine va_get (D := D) (ci := 10) (v := .ref a11) (C := RX10) (T := TX10) (N := 20) hx hb hg inGX10 hown hKN.1 hP p42 hk70 rfl 10 (by decide) (hg _ kw_359) (fun _ h9 => h9) rfl dX10_spread_42 ?_
      refine va_getN (D := D) (ci := 2) (v := .long y78) (C := RX2) (T := TX2) (N := 8) hx hb hg inGX2 hown hKN.1 hP p85 hk86 rfl 5 (by decide) (va_Nw.use rfl (hKN.2.1 _ kn_246 rfl)) (fun _ h9 => h9) rfl dX10_spread_45 ?_
      refine W.widen (k := 0) (n := 0) (Nat.le_of_ble_eq_true rfl) (Nat.le_of_ble_eq_true rfl) ?_
      exact W.lret (v := y78) hx hb hr (fun t ht hW => ⟨⟨(y78, u65), rfl, ⟨hT, ke71, ke72⟩, CB.mk ht hP hD⟩, hS.F ht⟩) hS.2.2 dX10_spread_48
    · skip
      have c87 := i_eq (Eq.refl x76.toInt) (show (0 : Int32).toInt = 0 by decide) c87
      refine lv_ldc2 (v := (-1)) hx hb hown (hg _ kw_899) dX10_spread_35 ?_
      refine lv_goto (tgt := 48) hx hb dX10_spread_38 (by decide) ?_
      refine W.widen (k := 0) (n := 0) (Nat.le_of_ble_eq_true rfl) (Nat.le_of_ble_eq_true rfl) ?_
      have zlm1 : ((-1) : Int64).toInt = -1 := by decide
      exact W.lret (v := (-1)) hx hb hr (fun t ht hW => ⟨⟨(((-1)), u65), rfl, ⟨hT, ke71, ke72⟩, CB.mk ht hP hD⟩, hS.F ht⟩) hS.2.2 dX10_spread_48
  · obtain rfl : u44 = 0 := i_is c49 (by decide)
    have zi0 : (0 : Int32).toInt = 0 := by decide
    clear hw48
    refine W.eq (g2 := F0 m 5 ls [.int 0]) rfl ?_
    refine lv_if_ne (tgt := 12) hx hb dX10_spread_5 (by decide) (fun c88 => ?_) (fun c88 => ?_)
    · exact absurd c88 (by decide)
    refine lv_ldc2 (v := (-1)) hx hb hown (hg _ kw_899) dX10_spread_8 ?_
    refine W.widen (k := 0) (n := 0) (Nat.le_of_ble_eq_true rfl) (Nat.le_of_ble_eq_true rfl) ?_
    have zlm1 : ((-1) : Int64).toInt = -1 := by decide
    exact W.lret (v := (-1)) hx hb hr (fun t ht hW => ⟨⟨(((-1)), ws), rfl, ⟨hT, KF.rf, KF.rf⟩, CB.mk ht hP hD⟩, hS.F ht⟩) hS.2.2 dX10_spread_11
set_option maxHeartbeats 4000000 in
set_option maxRecDepth 100000 in
theorem x_X10_catches (l : Launch) (D : va_G) (Y : Nat → ClassId) (Z : Nat → Nat) (sz : Nat) (ws : va_W) (T : RT) (g : GN) (q : GQ)  (p0 : Nat) (p1 : Int32) (p2 : Int32) (hT : TW Y Z T g q ws) (ht0 : T p0 = (1, 0, 0)) : Met l yX10_catches (.code yX10_catches cX10_catches 5 (some .int) :: GW) ({ frames := 5, cells := 1, slots := 7, locals := 132 }) (va_Pc [.ref p0, .int p1, .int p2] (CPC D Y Z ws sz)) (QG (S := Int32 × va_W × RT) (fun u => some (.int u.1)) (fun u => TLe T u.2.2 ∧ TW Y Z u.2.2 g q u.2.1 ∧ KF 1 T ws u.2.1) (fun u => CB D u.2.1 (va_A ws sz)) (va_A ws sz)) 1 7 (va_A ws sz) := by
  refine Met.ofW (cc := cX10_catches) (maxL := 5) (ret := (some .int)) (by decide) rfl ?_
  intro p e s m args below meth c s₁ B hml hv
  obtain ⟨rfl, ⟨hsz, hP, hKN, hD0⟩, hSZ⟩ := hv
  have hx := B.exec
  have hb := B.bytes
  have hr := B.returns
  have hts := atoms_spec (ws := .code yX10_catches cX10_catches 5 (some .int) :: GW) B.pre
  have hg : ∀ w ∈ GW, w.before _ s = true := fun w h => hts w (List.mem_cons_of_mem _ h)
  have hown : s.vm.findClass RX10 = some m.cls := findClass_of_methodNamed B.named
  have hlocks := B.notSynchronized
  subst hsz
  have hD := hD0.self (sz := s.heap.size)
  generalize hAe : va_A ws s.heap.size = A at hD hSZ ⊢
  have hA : ∀ q : Nat, s.heap.size ≤ q → A q := fun q h => by rw [← hAe]; exact Or.inr h
  clear hAe hD0 hts B
  have hl := lv_entry ([.ref p0, .int p1, .int p2]) (n := 5) (Nat.le_of_ble_eq_true rfl)
  rw [lg_entry_eq]
  generalize (lg_sl ([.ref p0, .int p1, .int p2]) ++ List.replicate (5 - (lg_sl ([.ref p0, .int p1, .int p2])).length) Slot.unset).toArray = ls at hl ⊢
  have hl : lv_has ls 5 [(0, .ref p0), (1, .int p1), (2, .int p2)] := hl
  refine w_start (A0 := A) hP (fun H locs hP hS => ?_)
  refine lv_aload_n hx hb dX10_catches_0 rfl (lv_at hl 0 rfl) ?_
  refine lv_iload_n hx hb dX10_catches_1 rfl (lv_at hl 1 rfl) ?_
  refine ok1 hT ht0 (fun p42 a1 a2 a3 a4 a5 x6 x7 x8 a9 a10 a11 a12 a13 a14 a15 a16 a17 x18 a19 a20 hk43 h21 h22 h23 h24 h25 h26 h27 h28 h29 h30 h31 h32 h33 h34 h35 h36 h37 h38 h39 h40 h41 => ?_)
  refine cga (rn_V (As := [.int p1]) (rest := []) (b := p0) (x_X10_searchAt l D Y Z H.size ws T g q p0 p1 hT ht0) ⟨hx, hb, hml, hown, hg⟩ lk_X10_259 ⟨CPC.blind, va_recv hKN.1 hP (ci := 10) (q0 := p42) rfl hk43, CPC.at hP hKN hD hSZ hS hA⟩ ⟨⟨rfl, rfl⟩, ⟨Nat.le_of_ble_eq_true rfl, Nat.le_of_ble_eq_true rfl⟩, ⟨(Nat.le_of_ble_eq_true rfl), (Nat.le_of_ble_eq_true rfl)⟩⟩ hl.1 rfl (Nat.le_of_ble_eq_true rfl) dX10_catches_2) hP hD hS hA (fun u44 H locs hw45 hP hD hS => ?_)
  obtain ⟨ht47, hw48⟩ : (∀ b, u44 = some b → T b = (5, 0, 0)) ∧ (∀ b, u44 = some b → 0 ≤ p1.toInt ∧ p1.toInt ≤ 5) := hw45
  refine W.eq (g2 := F0 m 5 ls [va_rf u44]) rfl ?_
  rcases u44 with _ | b49
  · skip
    refine W.eq (g2 := F0 m 5 ls [.null]) rfl ?_
    refine lv_astore_nN (lv' := [(3, .null), (0, .ref p0), (1, .int p1), (2, .int p2)]) hx hb dX10_catches_5 rfl hl (by decide) rfl (fun ls hl => ?_)
    refine lv_aload_n hx hb dX10_catches_6 rfl (lv_at hl 1 rfl) ?_
    refine va_get (D := D) (ci := 10) (v := .ref a1) (C := RX10) (T := TX10) (N := 20) hx hb hg inGX10 hown hKN.1 hP p42 hk43 rfl 0 (by decide) (hg _ kw_349) (fun _ h9 => h9) rfl dX10_catches_7 ?_
    refine lv_iload_n hx hb dX10_catches_10 rfl (lv_at hl 3 rfl) ?_
    refine ok2 hT h21 (fun p84 x50 a51 x52 a53 x54 a55 a56 x57 a58 a59 x60 a61 x62 hk85 h63 h64 h65 h66 h67 h68 h69 h70 h71 h72 h73 h74 h75 h76 h77 h78 h79 h80 h81 h82 h83 => ?_)
    refine cga (rn_NV (As := [.int p2]) (rest := []) (b := a1) (x_X6_worldAt l D Y Z H.size ws T g q 0 a1 p2 hT h21) ⟨hx, hb, hml, hown, hg⟩ hKN lk_X10_280 ⟨CPC.blind, va_recv hKN.1 hP (ci := 6) (q0 := p84) rfl hk85, CPC.at hP hKN hD hSZ hS hA⟩ ⟨⟨rfl, rfl⟩, ⟨Nat.le_of_ble_eq_true rfl, Nat.le_of_ble_eq_true rfl⟩, ⟨(Nat.le_of_ble_eq_true rfl), (Nat.le_of_ble_eq_true rfl)⟩⟩ hl.1 rfl (Nat.le_of_ble_eq_true rfl) dX10_catches_11) hP hD hS hA (fun u86 H locs hw87 hP hD hS => ?_)
    obtain ⟨ht89, hw90⟩ : (∀ b, u86 = some b → T b = (4, 0, 0)) ∧ (∀ b, u86 = some b → 0 ≤ p2.toInt ∧ p2.toInt ≤ 39) := hw87
    refine W.eq (g2 := F0 m 14 ls [va_rf u86]) rfl ?_
    rcases u86 with _ | b91
    · skip
      refine W.eq (g2 := F0 m 14 ls [.null]) rfl ?_
      refine lv_astoreN (lv' := [(4, .null), (3, .null), (0, .ref p0), (1, .int p1), (2, .int p2)]) hx hb dX10_catches_14 hl (by decide) rfl (fun ls hl => ?_)
      refine lv_aload_nN hx hb dX10_catches_16 rfl (lv_at hl 1 rfl) ?_
      refine lv_ifnullN (tgt := 33) hx hb dX10_catches_17 (by decide) ?_
      refine lv_iconst (v := (-1)) hx hb dX10_catches_33 (by decide) ?_
      refine W.widen (k := 1) (n := 7) (Nat.le_of_ble_eq_true rfl) (Nat.le_of_ble_eq_true rfl) ?_
      have zim1 : ((-1) : Int32).toInt = -1 := by decide
      exact W.iret (v := (-1)) hx hb hr (fun t ht hW => ⟨⟨(((-1)), ws, T), rfl, ⟨TLe.rf, hT, KF.rf⟩, CB.mk ht hP hD⟩, hS.F ht⟩) hS.2.2 dX10_catches_34
    · skip
      have ht92 := ht89 b91 rfl
      have h93 := hw90 b91 rfl
      refine W.eq (g2 := F0 m 14 ls [.ref b91]) rfl ?_
      refine lv_astore (lv' := [(4, .ref b91), (3, .null), (0, .ref p0), (1, .int p1), (2, .int p2)]) hx hb dX10_catches_14 hl (by decide) rfl (fun ls hl => ?_)
      refine lv_aload_nN hx hb dX10_catches_16 rfl (lv_at hl 1 rfl) ?_
      refine lv_ifnullN (tgt := 33) hx hb dX10_catches_17 (by decide) ?_
      refine lv_iconst (v := (-1)) hx hb dX10_catches_33 (by decide) ?_
      refine W.widen (k := 1) (n := 7) (Nat.le_of_ble_eq_true rfl) (Nat.le_of_ble_eq_true rfl) ?_
      have zim1 : ((-1) : Int32).toInt = -1 := by decide
      exact W.iret (v := (-1)) hx hb hr (fun t ht hW => ⟨⟨(((-1)), ws, T), rfl, ⟨TLe.rf, hT, KF.rf⟩, CB.mk ht hP hD⟩, hS.F ht⟩) hS.2.2 dX10_catches_34
  · skip
    have ht94 := ht47 b49 rfl
    have h95 := hw48 b49 rfl
    refine W.eq (g2 := F0 m 5 ls [.ref b49]) rfl ?_
    refine lv_astore_n (lv' := [(3, .ref b49), (0, .ref p0), (1, .int p1), (2, .int p2)]) hx hb dX10_catches_5 rfl hl (by decide) rfl (fun ls hl => ?_)
    refine lv_aload_n hx hb dX10_catches_6 rfl (lv_at hl 1 rfl) ?_
    refine va_get (D := D) (ci := 10) (v := .ref a1) (C := RX10) (T := TX10) (N := 20) hx hb hg inGX10 hown hKN.1 hP p42 hk43 rfl 0 (by decide) (hg _ kw_349) (fun _ h9 => h9) rfl dX10_catches_7 ?_
    refine lv_iload_n hx hb dX10_catches_10 rfl (lv_at hl 3 rfl) ?_
    refine ok2 hT h21 (fun p130 x96 a97 x98 a99 x100 a101 a102 x103 a104 a105 x106 a107 x108 hk131 h109 h110 h111 h112 h113 h114 h115 h116 h117 h118 h119 h120 h121 h122 h123 h124 h125 h126 h127 h128 h129 => ?_)
    refine cga (rn_NV (As := [.int p2]) (rest := []) (b := a1) (x_X6_worldAt l D Y Z H.size ws T g q 0 a1 p2 hT h21) ⟨hx, hb, hml, hown, hg⟩ hKN lk_X10_280 ⟨CPC.blind, va_recv hKN.1 hP (ci := 6) (q0 := p130) rfl hk131, CPC.at hP hKN hD hSZ hS hA⟩ ⟨⟨rfl, rfl⟩, ⟨Nat.le_of_ble_eq_true rfl, Nat.le_of_ble_eq_true rfl⟩, ⟨(Nat.le_of_ble_eq_true rfl), (Nat.le_of_ble_eq_true rfl)⟩⟩ hl.1 rfl (Nat.le_of_ble_eq_true rfl) dX10_catches_11) hP hD hS hA (fun u132 H locs hw133 hP hD hS => ?_)
    obtain ⟨ht135, hw136⟩ : (∀ b, u132 = some b → T b = (4, 0, 0)) ∧ (∀ b, u132 = some b → 0 ≤ p2.toInt ∧ p2.toInt ≤ 39) := hw133
    refine W.eq (g2 := F0 m 14 ls [va_rf u132]) rfl ?_
    rcases u132 with _ | b137
    · skip
      refine W.eq (g2 := F0 m 14 ls [.null]) rfl ?_
      refine lv_astoreN (lv' := [(4, .null), (3, .ref b49), (0, .ref p0), (1, .int p1), (2, .int p2)]) hx hb dX10_catches_14 hl (by decide) rfl (fun ls hl => ?_)
      refine lv_aload_n hx hb dX10_catches_16 rfl (lv_at hl 1 rfl) ?_
      refine lv_ifnull hx hb dX10_catches_17 ?_
      refine lv_aloadN hx hb dX10_catches_20 (lv_at hl 0 rfl) ?_
      refine lv_ifnullN (tgt := 33) hx hb dX10_catches_22 (by decide) ?_
      refine lv_iconst (v := (-1)) hx hb dX10_catches_33 (by decide) ?_
      refine W.widen (k := 1) (n := 7) (Nat.le_of_ble_eq_true rfl) (Nat.le_of_ble_eq_true rfl) ?_
      have zim1 : ((-1) : Int32).toInt = -1 := by decide
      exact W.iret (v := (-1)) hx hb hr (fun t ht hW => ⟨⟨(((-1)), ws, T), rfl, ⟨TLe.rf, hT, KF.rf⟩, CB.mk ht hP hD⟩, hS.F ht⟩) hS.2.2 dX10_catches_34
    · skip
      have ht138 := ht135 b137 rfl
      have h139 := hw136 b137 rfl
      refine W.eq (g2 := F0 m 14 ls [.ref b137]) rfl ?_
      refine lv_astore (lv' := [(4, .ref b137), (3, .ref b49), (0, .ref p0), (1, .int p1), (2, .int p2)]) hx hb dX10_catches_14 hl (by decide) rfl (fun ls hl => ?_)
      refine lv_aload_n hx hb dX10_catches_16 rfl (lv_at hl 1 rfl) ?_
      refine lv_ifnull hx hb dX10_catches_17 ?_
      refine lv_aload hx hb dX10_catches_20 (lv_at hl 0 rfl) ?_
      refine lv_ifnull hx hb dX10_catches_22 ?_
      refine lv_aload hx hb dX10_catches_25 (lv_at hl 0 rfl) ?_
      refine ok4 hT ht138 (fun p147 x140 x141 x142 x143 x144 x145 hk148 h146 => ?_)
      refine va_getN (D := D) (ci := 9) (v := .int x145) (C := RX9) (T := TX9) (N := 6) hx hb hg inGX9 hown hKN.1 hP p147 hk148 rfl 5 (by decide) (va_Nw.use rfl (hKN.2.1 _ kn_581 rfl)) (fun _ h9 => h9) rfl dX10_catches_27 ?_
      refine lv_if_ne (tgt := 35) hx hb dX10_catches_30 (by decide) (fun c149 => ?_) (fun c149 => ?_)
      · skip
        have c149 := i_ne (Eq.refl x145.toInt) (show (0 : Int32).toInt = 0 by decide) c149
        refine lv_aload_n hx hb dX10_catches_35 rfl (lv_at hl 2 rfl) ?_
        refine lv_iload_n hx hb dX10_catches_36 rfl (lv_at hl 3 rfl) ?_
        refine lv_iload_n hx hb dX10_catches_37 rfl (lv_at hl 4 rfl) ?_
        refine cga (rn_V (As := [.int p1, .int p2]) (rest := []) (b := p0) (x_X10_findingWith l D Y Z H.size ws T g q p0 p1 p2 hT ht0) ⟨hx, hb, hml, hown, hg⟩ lk_X10_288 ⟨CPC.blind, va_recv hKN.1 hP (ci := 10) (q0 := p42) rfl hk43, CPC.at hP hKN hD hSZ hS hA⟩ ⟨⟨rfl, rfl⟩, ⟨Nat.le_of_ble_eq_true rfl, Nat.le_of_ble_eq_true rfl⟩, ⟨(Nat.le_of_ble_eq_true rfl), (Nat.le_of_ble_eq_true rfl)⟩⟩ hl.1 rfl (Nat.le_of_ble_eq_true rfl) dX10_catches_38) hP hD hS hA (fun u150 H locs hw151 hP hD hS => ?_)
        refine W.widen (k := 1) (n := 7) (Nat.le_of_ble_eq_true rfl) (Nat.le_of_ble_eq_true rfl) ?_
        obtain ⟨b152, w153, T154⟩ := u150
        obtain ⟨le155, hT, ke156, ht157⟩ : TLe T T154 ∧ TW Y Z T154 g q w153 ∧ KF 1 T ws w153 ∧ T154 b152 = (6, 0, 0) := hw151
        have hk158 := ke156 _ _ hk43 (show (T p0).1 = 1 by rw [ht0])
        have ke159 : KF 1 T ws w153 := KF.tr KF.rf ke156
        refine W.eq (g2 := F0 m 41 ls [.ref b152]) rfl ?_
        refine lv_aload hx hb dX10_catches_41 (lv_at hl 0 rfl) ?_
        refine ok4 hT (le155.up ht138) (fun p167 x160 x161 x162 x163 x164 x165 hk168 h166 => ?_)
        refine va_getN (D := D) (ci := 9) (v := .int x161) (C := RX9) (T := TX9) (N := 6) hx hb hg inGX9 hown hKN.1 hP p167 hk168 rfl 1 (by decide) (va_Nw.use rfl (hKN.2.1 _ kn_572 rfl)) (fun _ h9 => h9) rfl dX10_catches_43 ?_
        refine lv_aload_n hx hb dX10_catches_46 rfl (lv_at hl 1 rfl) ?_
        refine ok5 hT (le155.up ht94) (fun p190 x169 x170 x171 x172 x173 x174 x175 x176 a177 a178 a179 a180 a181 x182 hk191 h183 h184 h185 h186 h187 h188 h189 => ?_)
        refine va_getN (D := D) (ci := 8) (v := .int x175) (C := RX8) (T := TX8) (N := 14) hx hb hg inGX8 hown hKN.1 hP p190 hk191 rfl 6 (by decide) (va_Nw.use rfl (hKN.2.1 _ kn_135 rfl)) (fun _ h9 => h9) rfl dX10_catches_47 ?_
        refine ok6 hT ht157 (fun p200 x192 x193 x194 x195 x196 y197 y198 hk201 h199 => ?_)
        refine cga (rn_NV (As := [.int x161, .int x175]) (rest := []) (b := b152) (x_X1_isSeenWith l D Y Z H.size w153 T154 g q b152 x161 x175 hT ht157) ⟨hx, hb, hml, hown, hg⟩ hKN lk_X10_295 ⟨CPC.blind, va_recv hKN.1 hP (ci := 1) (q0 := p200) rfl hk201, CPC.at hP hKN hD hSZ hS hA⟩ ⟨⟨rfl, rfl⟩, ⟨Nat.le_of_ble_eq_true rfl, Nat.le_of_ble_eq_true rfl⟩, ⟨(Nat.le_of_ble_eq_true rfl), (Nat.le_of_ble_eq_true rfl)⟩⟩ hl.1 rfl (Nat.le_of_ble_eq_true rfl) dX10_catches_50) hP hD hS hA (fun u202 H locs hw203 hP hD hS => ?_)
        have hw205 : (0 ≤ u202.toInt ∧ u202.toInt ≤ 1) := hw203
        refine W.eq (g2 := F0 m 53 ls [.int u202]) rfl ?_
        rcases (show u202.toInt = 1 ∨ u202.toInt = 0 by omega) with c206 | c206
        · obtain rfl : u202 = 1 := i_is c206 (by decide)
          have zi1 : (1 : Int32).toInt = 1 := by decide
          refine W.eq (g2 := F0 m 53 ls [.int 1]) rfl ?_
          refine lv_if_eq (tgt := 60) hx hb dX10_catches_53 (by decide) (fun c207 => ?_) (fun c207 => ?_)
          · exact absurd c207 (by decide)
          refine lv_iconst (v := 1) hx hb dX10_catches_56 (by decide) ?_
          refine lv_goto (tgt := 61) hx hb dX10_catches_57 (by decide) ?_
          refine W.widen (k := 1) (n := 7) (Nat.le_of_ble_eq_true rfl) (Nat.le_of_ble_eq_true rfl) ?_
          exact W.iret (v := 1) hx hb hr (fun t ht hW => ⟨⟨((1), w153, T154), rfl, ⟨le155, hT, ke159⟩, CB.mk ht hP hD⟩, hS.F ht⟩) hS.2.2 dX10_catches_61
        · obtain rfl : u202 = 0 := i_is c206 (by decide)
          have zi0 : (0 : Int32).toInt = 0 := by decide
          refine W.eq (g2 := F0 m 53 ls [.int 0]) rfl ?_
          refine lv_if_eq (tgt := 60) hx hb dX10_catches_53 (by decide) (fun c208 => ?_) (fun c208 => ?_)
          rotate_left
          · exact absurd c208 (by decide)
          refine lv_iconst (v := 0) hx hb dX10_catches_60 (by decide) ?_
          refine W.widen (k := 1) (n := 7) (Nat.le_of_ble_eq_true rfl) (Nat.le_of_ble_eq_true rfl) ?_
          exact W.iret (v := 0) hx hb hr (fun t ht hW => ⟨⟨((0), w153, T154), rfl, ⟨le155, hT, ke159⟩, CB.mk ht hP hD⟩, hS.F ht⟩) hS.2.2 dX10_catches_61
      · skip
        have c149 := i_eq (Eq.refl x145.toInt) (show (0 : Int32).toInt = 0 by decide) c149
        refine lv_iconst (v := (-1)) hx hb dX10_catches_33 (by decide) ?_
        refine W.widen (k := 1) (n := 7) (Nat.le_of_ble_eq_true rfl) (Nat.le_of_ble_eq_true rfl) ?_
        have zim1 : ((-1) : Int32).toInt = -1 := by decide
        exact W.iret (v := (-1)) hx hb hr (fun t ht hW => ⟨⟨(((-1)), ws, T), rfl, ⟨TLe.rf, hT, KF.rf⟩, CB.mk ht hP hD⟩, hS.F ht⟩) hS.2.2 dX10_catches_34
set_option maxHeartbeats 4000000 in
set_option maxRecDepth 100000 in
theorem x_X10_share (l : Launch) (D : va_G) (Y : Nat → ClassId) (Z : Nat → Nat) (sz : Nat) (ws : va_W) (T : RT) (g : GN) (q : GQ)  (p0 : Nat) (p1 : Int32) (p2 : Int32) (hT : TW Y Z T g q ws) (ht0 : T p0 = (1, 0, 0)) : Met l yX10_share (.code yX10_share cX10_share 4 (some .int) :: GW) ({ frames := 6, cells := 40, slots := 280, locals := 157 }) (va_Pc [.ref p0, .int p1, .int p2] (CPC D Y Z ws sz)) (QG (S := Int32 × va_W × RT) (fun u => some (.int u.1)) (fun u => TLe T u.2.2 ∧ TW Y Z u.2.2 g q u.2.1 ∧ KF 1 T ws u.2.1) (fun u => CB D u.2.1 (va_A ws sz)) (va_A ws sz)) 40 280 (va_A ws sz) := by
  refine Met.ofW (cc := cX10_share) (maxL := 4) (ret := (some .int)) (by decide) rfl ?_
  intro p e s m args below meth c s₁ B hml hv
  obtain ⟨rfl, ⟨hsz, hP, hKN, hD0⟩, hSZ⟩ := hv
  have hx := B.exec
  have hb := B.bytes
  have hr := B.returns
  have hts := atoms_spec (ws := .code yX10_share cX10_share 4 (some .int) :: GW) B.pre
  have hg : ∀ w ∈ GW, w.before _ s = true := fun w h => hts w (List.mem_cons_of_mem _ h)
  have hown : s.vm.findClass RX10 = some m.cls := findClass_of_methodNamed B.named
  have hlocks := B.notSynchronized
  subst hsz
  have hD := hD0.self (sz := s.heap.size)
  generalize hAe : va_A ws s.heap.size = A at hD hSZ ⊢
  have hA : ∀ q : Nat, s.heap.size ≤ q → A q := fun q h => by rw [← hAe]; exact Or.inr h
  clear hAe hD0 hts B
  have hl := lv_entry ([.ref p0, .int p1, .int p2]) (n := 4) (Nat.le_of_ble_eq_true rfl)
  rw [lg_entry_eq]
  generalize (lg_sl ([.ref p0, .int p1, .int p2]) ++ List.replicate (4 - (lg_sl ([.ref p0, .int p1, .int p2])).length) Slot.unset).toArray = ls at hl ⊢
  have hl : lv_has ls 4 [(0, .ref p0), (1, .int p1), (2, .int p2)] := hl
  refine w_start (A0 := A) hP (fun H locs hP hS => ?_)
  refine lv_aload_n hx hb dX10_share_0 rfl (lv_at hl 0 rfl) ?_
  refine lv_iload_n hx hb dX10_share_1 rfl (lv_at hl 1 rfl) ?_
  refine ok1 hT ht0 (fun p42 a1 a2 a3 a4 a5 x6 x7 x8 a9 a10 a11 a12 a13 a14 a15 a16 a17 x18 a19 a20 hk43 h21 h22 h23 h24 h25 h26 h27 h28 h29 h30 h31 h32 h33 h34 h35 h36 h37 h38 h39 h40 h41 => ?_)
  refine cga (rn_V (As := [.int p1]) (rest := []) (b := p0) (x_X10_searchAt l D Y Z H.size ws T g q p0 p1 hT ht0) ⟨hx, hb, hml, hown, hg⟩ lk_X10_259 ⟨CPC.blind, va_recv hKN.1 hP (ci := 10) (q0 := p42) rfl hk43, CPC.at hP hKN hD hSZ hS hA⟩ ⟨⟨rfl, rfl⟩, ⟨Nat.le_of_ble_eq_true rfl, Nat.le_of_ble_eq_true rfl⟩, ⟨(Nat.le_of_ble_eq_true rfl), (Nat.le_of_ble_eq_true rfl)⟩⟩ hl.1 rfl (Nat.le_of_ble_eq_true rfl) dX10_share_2) hP hD hS hA (fun u44 H locs hw45 hP hD hS => ?_)
  obtain ⟨ht47, hw48⟩ : (∀ b, u44 = some b → T b = (5, 0, 0)) ∧ (∀ b, u44 = some b → 0 ≤ p1.toInt ∧ p1.toInt ≤ 5) := hw45
  refine W.eq (g2 := F0 m 5 ls [va_rf u44]) rfl ?_
  rcases u44 with _ | b49
  · skip
    refine W.eq (g2 := F0 m 5 ls [.null]) rfl ?_
    refine lv_astore_nN (lv' := [(3, .null), (0, .ref p0), (1, .int p1), (2, .int p2)]) hx hb dX10_share_5 rfl hl (by decide) rfl (fun ls hl => ?_)
    refine lv_aload_nN hx hb dX10_share_6 rfl (lv_at hl 0 rfl) ?_
    refine lv_ifnullN (tgt := 19) hx hb dX10_share_7 (by decide) ?_
    refine lv_iconst (v := (-1)) hx hb dX10_share_19 (by decide) ?_
    refine W.widen (k := 40) (n := 280) (Nat.le_of_ble_eq_true rfl) (Nat.le_of_ble_eq_true rfl) ?_
    have zim1 : ((-1) : Int32).toInt = -1 := by decide
    exact W.iret (v := (-1)) hx hb hr (fun t ht hW => ⟨⟨(((-1)), ws, T), rfl, ⟨TLe.rf, hT, KF.rf⟩, CB.mk ht hP hD⟩, hS.F ht⟩) hS.2.2 dX10_share_20
  · skip
    have ht50 := ht47 b49 rfl
    have h51 := hw48 b49 rfl
    refine W.eq (g2 := F0 m 5 ls [.ref b49]) rfl ?_
    refine lv_astore_n (lv' := [(3, .ref b49), (0, .ref p0), (1, .int p1), (2, .int p2)]) hx hb dX10_share_5 rfl hl (by decide) rfl (fun ls hl => ?_)
    refine lv_aload_n hx hb dX10_share_6 rfl (lv_at hl 0 rfl) ?_
    refine lv_ifnull hx hb dX10_share_7 ?_
    refine lv_iload_n hx hb dX10_share_10 rfl (lv_at hl 3 rfl) ?_
    refine lv_iconst (v := 0) hx hb dX10_share_11 (by decide) ?_
    refine lv_iconst (v := 1) hx hb dX10_share_12 (by decide) ?_
    have zi0 : (0 : Int32).toInt = 0 := by decide
    have zi1 : (1 : Int32).toInt = 1 := by decide
    refine cg0 (rn_S (As := [.int p2, .int 0, .int 1]) (rest := []) (x_X10_isWithin l D Y Z H.size p2 0 1) ⟨hx, hb, hml, hown, hg⟩ lk_X10_100 ⟨CP.blind, CP.at nilP hKN (nilD (A := fun _ => True))⟩ ⟨⟨rfl, rfl⟩, ⟨Nat.le_of_ble_eq_true rfl, Nat.le_of_ble_eq_true rfl⟩, ⟨(Nat.le_of_ble_eq_true rfl), (Nat.le_of_ble_eq_true rfl)⟩⟩ hl.1 rfl (Nat.le_of_ble_eq_true rfl) dX10_share_13) hP hS hA (fun u52 H locs hw53 hP hS => ?_)
    obtain ⟨hw55, hw56⟩ : (((0 : Int32).toInt ≤ p2.toInt ∧ p2.toInt ≤ (1 : Int32).toInt ∧ u52.toInt = 1) ∨ (¬ ((0 : Int32).toInt ≤ p2.toInt ∧ p2.toInt ≤ (1 : Int32).toInt) ∧ u52.toInt = 0)) ∧ (0 ≤ u52.toInt ∧ u52.toInt ≤ 1) := hw53
    refine W.eq (g2 := F0 m 16 ls [.int u52]) rfl ?_
    rcases (show u52.toInt = 1 ∨ u52.toInt = 0 by omega) with c57 | c57
    · obtain rfl : u52 = 1 := i_is c57 (by decide)
      refine W.eq (g2 := F0 m 16 ls [.int 1]) rfl ?_
      refine lv_if_ne (tgt := 21) hx hb dX10_share_16 (by decide) (fun c58 => ?_) (fun c58 => ?_)
      rotate_left
      · exact absurd c58 (by decide)
      refine lv_aload_n hx hb dX10_share_21 rfl (lv_at hl 1 rfl) ?_
      refine lv_iload_n hx hb dX10_share_22 rfl (lv_at hl 2 rfl) ?_
      refine lv_aload_n hx hb dX10_share_23 rfl (lv_at hl 0 rfl) ?_
      refine ok5 hT ht50 (fun p80 x59 x60 x61 x62 x63 x64 x65 x66 a67 a68 a69 a70 a71 x72 hk81 h73 h74 h75 h76 h77 h78 h79 => ?_)
      refine va_getN (D := D) (ci := 8) (v := .int x65) (C := RX8) (T := TX8) (N := 14) hx hb hg inGX8 hown hKN.1 hP p80 hk81 rfl 6 (by decide) (va_Nw.use rfl (hKN.2.1 _ kn_135 rfl)) (fun _ h9 => h9) rfl dX10_share_24 ?_
      refine cga (rn_V (As := [.int p1, .int x65]) (rest := []) (b := p0) (x_X10_caughtFrom l D Y Z H.size ws T g q p0 p1 x65 hT ht0) ⟨hx, hb, hml, hown, hg⟩ lk_X10_299 ⟨CPC.blind, va_recv hKN.1 hP (ci := 10) (q0 := p42) rfl hk43, CPC.at hP hKN hD hSZ hS hA⟩ ⟨⟨rfl, rfl⟩, ⟨Nat.le_of_ble_eq_true rfl, Nat.le_of_ble_eq_true rfl⟩, ⟨(Nat.le_of_ble_eq_true rfl), (Nat.le_of_ble_eq_true rfl)⟩⟩ hl.1 rfl (Nat.le_of_ble_eq_true rfl) dX10_share_27) hP hD hS hA (fun u82 H locs hw83 hP hD hS => ?_)
      refine W.widen (k := 40) (n := 280) (Nat.le_of_ble_eq_true rfl) (Nat.le_of_ble_eq_true rfl) ?_
      obtain ⟨u84, w85, T86⟩ := u82
      obtain ⟨le87, hT, ke88⟩ : TLe T T86 ∧ TW Y Z T86 g q w85 ∧ KF 1 T ws w85 := hw83
      have hk89 := ke88 _ _ hk43 (show (T p0).1 = 1 by rw [ht0])
      have ke90 : KF 1 T ws w85 := KF.tr KF.rf ke88
      refine W.eq (g2 := F0 m 30 ls [.int u84]) rfl ?_
      refine lv_aload_n hx hb dX10_share_30 rfl (lv_at hl 1 rfl) ?_
      refine va_get (D := D) (ci := 10) (v := .ref a1) (C := RX10) (T := TX10) (N := 20) hx hb hg inGX10 hown hKN.1 hP p42 hk89 rfl 0 (by decide) (hg _ kw_349) (fun _ h9 => h9) rfl dX10_share_31 ?_
      refine ok2 hT (le87.up h21) (fun p125 x91 a92 x93 a94 x95 a96 a97 x98 a99 a100 x101 a102 x103 hk126 h104 h105 h106 h107 h108 h109 h110 h111 h112 h113 h114 h115 h116 h117 h118 h119 h120 h121 h122 h123 h124 => ?_)
      refine cga (rn_NV (As := []) (rest := [.int u84]) (b := a1) (x_X6_putIn l D Y Z H.size w85 T86 g q 0 a1 hT (le87.up h21)) ⟨hx, hb, hml, hown, hg⟩ hKN lk_X10_303 ⟨CPC.blind, va_recv hKN.1 hP (ci := 6) (q0 := p125) rfl hk126, CPC.at hP hKN hD hSZ hS hA⟩ ⟨⟨rfl, rfl⟩, ⟨Nat.le_of_ble_eq_true rfl, Nat.le_of_ble_eq_true rfl⟩, ⟨(Nat.le_of_ble_eq_true rfl), (Nat.le_of_ble_eq_true rfl)⟩⟩ hl.1 rfl (Nat.le_of_ble_eq_true rfl) dX10_share_34) hP hD hS hA (fun u127 H locs hw128 hP hD hS => ?_)
      refine W.eq (g2 := F0 m 37 ls [.int u127, .int u84]) rfl ?_
      refine lv_iload_n hx hb dX10_share_37 rfl (lv_at hl 3 rfl) ?_
      refine cg0 (rn_S (As := [.int u84, .int u127, .int p2]) (rest := []) (x_X10_partOf l D Y Z H.size u84 u127 p2) ⟨hx, hb, hml, hown, hg⟩ lk_X10_307 ⟨CP.blind, CP.at nilP hKN (nilD (A := fun _ => True))⟩ ⟨⟨rfl, rfl⟩, ⟨Nat.le_of_ble_eq_true rfl, Nat.le_of_ble_eq_true rfl⟩, ⟨(Nat.le_of_ble_eq_true rfl), (Nat.le_of_ble_eq_true rfl)⟩⟩ hl.1 rfl (Nat.le_of_ble_eq_true rfl) dX10_share_38) hP hS hA (fun u130 H locs hw131 hP hS => ?_)
      refine W.eq (g2 := F0 m 41 ls [.int u130]) rfl ?_
      refine W.widen (k := 40) (n := 280) (Nat.le_of_ble_eq_true rfl) (Nat.le_of_ble_eq_true rfl) ?_
      exact W.iret (v := u130) hx hb hr (fun t ht hW => ⟨⟨(u130, w85, T86), rfl, ⟨le87, hT, ke90⟩, CB.mk ht hP hD⟩, hS.F ht⟩) hS.2.2 dX10_share_41
    · obtain rfl : u52 = 0 := i_is c57 (by decide)
      refine W.eq (g2 := F0 m 16 ls [.int 0]) rfl ?_
      refine lv_if_ne (tgt := 21) hx hb dX10_share_16 (by decide) (fun c133 => ?_) (fun c133 => ?_)
      · exact absurd c133 (by decide)
      refine lv_iconst (v := (-1)) hx hb dX10_share_19 (by decide) ?_
      refine W.widen (k := 40) (n := 280) (Nat.le_of_ble_eq_true rfl) (Nat.le_of_ble_eq_true rfl) ?_
      have zim1 : ((-1) : Int32).toInt = -1 := by decide
      exact W.iret (v := (-1)) hx hb hr (fun t ht hW => ⟨⟨(((-1)), ws, T), rfl, ⟨TLe.rf, hT, KF.rf⟩, CB.mk ht hP hD⟩, hS.F ht⟩) hS.2.2 dX10_share_20
set_option maxHeartbeats 4000000 in
set_option maxRecDepth 100000 in
theorem x_X10_chance (l : Launch) (D : va_G) (Y : Nat → ClassId) (Z : Nat → Nat) (sz : Nat) (ws : va_W) (T : RT) (g : GN) (q : GQ)  (p0 : Nat) (p1 : Int32) (p2 : Int32) (p3 : Int32) (hT : TW Y Z T g q ws) (ht0 : T p0 = (1, 0, 0)) : Met l yX10_chance (.code yX10_chance cX10_chance 4 (some .int) :: GW) ({ frames := 6, cells := 12, slots := 84, locals := 158 }) (va_Pc [.ref p0, .int p1, .int p2, .int p3] (CPC D Y Z ws sz)) (QG (S := Int32 × va_W × RT) (fun u => some (.int u.1)) (fun u => TLe T u.2.2 ∧ TW Y Z u.2.2 g q u.2.1 ∧ KF 1 T ws u.2.1) (fun u => CB D u.2.1 (va_A ws sz)) (va_A ws sz)) 12 84 (va_A ws sz) := by
  refine Met.ofW (cc := cX10_chance) (maxL := 4) (ret := (some .int)) (by decide) rfl ?_
  intro p e s m args below meth c s₁ B hml hv
  obtain ⟨rfl, ⟨hsz, hP, hKN, hD0⟩, hSZ⟩ := hv
  have hx := B.exec
  have hb := B.bytes
  have hr := B.returns
  have hts := atoms_spec (ws := .code yX10_chance cX10_chance 4 (some .int) :: GW) B.pre
  have hg : ∀ w ∈ GW, w.before _ s = true := fun w h => hts w (List.mem_cons_of_mem _ h)
  have hown : s.vm.findClass RX10 = some m.cls := findClass_of_methodNamed B.named
  have hlocks := B.notSynchronized
  subst hsz
  have hD := hD0.self (sz := s.heap.size)
  generalize hAe : va_A ws s.heap.size = A at hD hSZ ⊢
  have hA : ∀ q : Nat, s.heap.size ≤ q → A q := fun q h => by rw [← hAe]; exact Or.inr h
  clear hAe hD0 hts B
  have hl := lv_entry ([.ref p0, .int p1, .int p2, .int p3]) (n := 4) (Nat.le_of_ble_eq_true rfl)
  rw [lg_entry_eq]
  generalize (lg_sl ([.ref p0, .int p1, .int p2, .int p3]) ++ List.replicate (4 - (lg_sl ([.ref p0, .int p1, .int p2, .int p3])).length) Slot.unset).toArray = ls at hl ⊢
  have hl : lv_has ls 4 [(0, .ref p0), (1, .int p1), (2, .int p2), (3, .int p3)] := hl
  refine w_start (A0 := A) hP (fun H locs hP hS => ?_)
  refine lv_aload_n hx hb dX10_chance_0 rfl (lv_at hl 0 rfl) ?_
  refine lv_iload_n hx hb dX10_chance_1 rfl (lv_at hl 1 rfl) ?_
  refine ok1 hT ht0 (fun p42 a1 a2 a3 a4 a5 x6 x7 x8 a9 a10 a11 a12 a13 a14 a15 a16 a17 x18 a19 a20 hk43 h21 h22 h23 h24 h25 h26 h27 h28 h29 h30 h31 h32 h33 h34 h35 h36 h37 h38 h39 h40 h41 => ?_)
  refine cga (rn_V (As := [.int p1]) (rest := []) (b := p0) (x_X10_searchAt l D Y Z H.size ws T g q p0 p1 hT ht0) ⟨hx, hb, hml, hown, hg⟩ lk_X10_259 ⟨CPC.blind, va_recv hKN.1 hP (ci := 10) (q0 := p42) rfl hk43, CPC.at hP hKN hD hSZ hS hA⟩ ⟨⟨rfl, rfl⟩, ⟨Nat.le_of_ble_eq_true rfl, Nat.le_of_ble_eq_true rfl⟩, ⟨(Nat.le_of_ble_eq_true rfl), (Nat.le_of_ble_eq_true rfl)⟩⟩ hl.1 rfl (Nat.le_of_ble_eq_true rfl) dX10_chance_2) hP hD hS hA (fun u44 H locs hw45 hP hD hS => ?_)
  obtain ⟨ht47, hw48⟩ : (∀ b, u44 = some b → T b = (5, 0, 0)) ∧ (∀ b, u44 = some b → 0 ≤ p1.toInt ∧ p1.toInt ≤ 5) := hw45
  refine W.eq (g2 := F0 m 5 ls [va_rf u44]) rfl ?_
  rcases u44 with _ | b49
  · skip
    refine W.eq (g2 := F0 m 5 ls [.null]) rfl ?_
    refine lv_ifnullN (tgt := 26) hx hb dX10_chance_5 (by decide) ?_
    refine lv_iconst (v := (-1)) hx hb dX10_chance_26 (by decide) ?_
    refine W.widen (k := 12) (n := 84) (Nat.le_of_ble_eq_true rfl) (Nat.le_of_ble_eq_true rfl) ?_
    have zim1 : ((-1) : Int32).toInt = -1 := by decide
    exact W.iret (v := (-1)) hx hb hr (fun t ht hW => ⟨⟨(((-1)), ws, T), rfl, ⟨TLe.rf, hT, KF.rf⟩, CB.mk ht hP hD⟩, hS.F ht⟩) hS.2.2 dX10_chance_27
  · skip
    have ht50 := ht47 b49 rfl
    have h51 := hw48 b49 rfl
    refine W.eq (g2 := F0 m 5 ls [.ref b49]) rfl ?_
    refine lv_ifnull hx hb dX10_chance_5 ?_
    refine lv_iload_n hx hb dX10_chance_8 rfl (lv_at hl 2 rfl) ?_
    refine lv_iconst (v := 0) hx hb dX10_chance_9 (by decide) ?_
    refine lv_ldcw (v := 999999) hx hb hown (hg _ kw_938) dX10_chance_10 ?_
    have zi0 : (0 : Int32).toInt = 0 := by decide
    have zi999999 : (999999 : Int32).toInt = 999999 := by decide
    refine cg0 (rn_S (As := [.int p2, .int 0, .int 999999]) (rest := []) (x_X10_isWithin l D Y Z H.size p2 0 999999) ⟨hx, hb, hml, hown, hg⟩ lk_X10_100 ⟨CP.blind, CP.at nilP hKN (nilD (A := fun _ => True))⟩ ⟨⟨rfl, rfl⟩, ⟨Nat.le_of_ble_eq_true rfl, Nat.le_of_ble_eq_true rfl⟩, ⟨(Nat.le_of_ble_eq_true rfl), (Nat.le_of_ble_eq_true rfl)⟩⟩ hl.1 rfl (Nat.le_of_ble_eq_true rfl) dX10_chance_13) hP hS hA (fun u52 H locs hw53 hP hS => ?_)
    obtain ⟨hw55, hw56⟩ : (((0 : Int32).toInt ≤ p2.toInt ∧ p2.toInt ≤ (999999 : Int32).toInt ∧ u52.toInt = 1) ∨ (¬ ((0 : Int32).toInt ≤ p2.toInt ∧ p2.toInt ≤ (999999 : Int32).toInt) ∧ u52.toInt = 0)) ∧ (0 ≤ u52.toInt ∧ u52.toInt ≤ 1) := hw53
    refine W.eq (g2 := F0 m 16 ls [.int u52]) rfl ?_
    rcases (show u52.toInt = 1 ∨ u52.toInt = 0 by omega) with c57 | c57
    · obtain rfl : u52 = 1 := i_is c57 (by decide)
      have zi1 : (1 : Int32).toInt = 1 := by decide
      refine W.eq (g2 := F0 m 16 ls [.int 1]) rfl ?_
      refine lv_if_eq (tgt := 26) hx hb dX10_chance_16 (by decide) (fun c58 => ?_) (fun c58 => ?_)
      · exact absurd c58 (by decide)
      refine lv_iload_n hx hb dX10_chance_19 rfl (lv_at hl 3 rfl) ?_
      refine cg0 (rn_S (As := [.int p3]) (rest := []) (x_X10_isWay l D Y Z H.size p3) ⟨hx, hb, hml, hown, hg⟩ lk_X10_140 ⟨CP.blind, CP.at nilP hKN (nilD (A := fun _ => True))⟩ ⟨⟨rfl, rfl⟩, ⟨Nat.le_of_ble_eq_true rfl, Nat.le_of_ble_eq_true rfl⟩, ⟨(Nat.le_of_ble_eq_true rfl), (Nat.le_of_ble_eq_true rfl)⟩⟩ hl.1 rfl (Nat.le_of_ble_eq_true rfl) dX10_chance_20) hP hS hA (fun u59 H locs hw60 hP hS => ?_)
      obtain ⟨hw62, hw63⟩ : ((0 ≤ p3.toInt ∧ p3.toInt ≤ 5 ∧ u59.toInt = 1) ∨ (¬ (0 ≤ p3.toInt ∧ p3.toInt ≤ 5) ∧ u59.toInt = 0)) ∧ (0 ≤ u59.toInt ∧ u59.toInt ≤ 1) := hw60
      refine W.eq (g2 := F0 m 23 ls [.int u59]) rfl ?_
      rcases (show u59.toInt = 1 ∨ u59.toInt = 0 by omega) with c64 | c64
      · obtain rfl : u59 = 1 := i_is c64 (by decide)
        refine W.eq (g2 := F0 m 23 ls [.int 1]) rfl ?_
        refine lv_if_ne (tgt := 28) hx hb dX10_chance_23 (by decide) (fun c65 => ?_) (fun c65 => ?_)
        rotate_left
        · exact absurd c65 (by decide)
        refine lv_aload_n hx hb dX10_chance_28 rfl (lv_at hl 0 rfl) ?_
        refine lv_iload_n hx hb dX10_chance_29 rfl (lv_at hl 1 rfl) ?_
        refine lv_iload_n hx hb dX10_chance_30 rfl (lv_at hl 3 rfl) ?_
        refine lv_iload_n hx hb dX10_chance_31 rfl (lv_at hl 2 rfl) ?_
        refine cga (rn_V (As := [.int p1, .int p3, .int p2]) (rest := []) (b := p0) (x_X10_foundFrom l D Y Z H.size ws T g q p0 p1 p3 p2 hT ht0) ⟨hx, hb, hml, hown, hg⟩ lk_X10_311 ⟨CPC.blind, va_recv hKN.1 hP (ci := 10) (q0 := p42) rfl hk43, CPC.at hP hKN hD hSZ hS hA⟩ ⟨⟨rfl, rfl⟩, ⟨Nat.le_of_ble_eq_true rfl, Nat.le_of_ble_eq_true rfl⟩, ⟨(Nat.le_of_ble_eq_true rfl), (Nat.le_of_ble_eq_true rfl)⟩⟩ hl.1 rfl (Nat.le_of_ble_eq_true rfl) dX10_chance_32) hP hD hS hA (fun u66 H locs hw67 hP hD hS => ?_)
        refine W.widen (k := 12) (n := 84) (Nat.le_of_ble_eq_true rfl) (Nat.le_of_ble_eq_true rfl) ?_
        obtain ⟨u68, w69, T70⟩ := u66
        obtain ⟨le71, hT, ke72⟩ : TLe T T70 ∧ TW Y Z T70 g q w69 ∧ KF 1 T ws w69 := hw67
        have hk73 := ke72 _ _ hk43 (show (T p0).1 = 1 by rw [ht0])
        have ke74 : KF 1 T ws w69 := KF.tr KF.rf ke72
        refine W.eq (g2 := F0 m 35 ls [.int u68]) rfl ?_
        refine W.widen (k := 12) (n := 84) (Nat.le_of_ble_eq_true rfl) (Nat.le_of_ble_eq_true rfl) ?_
        exact W.iret (v := u68) hx hb hr (fun t ht hW => ⟨⟨(u68, w69, T70), rfl, ⟨le71, hT, ke74⟩, CB.mk ht hP hD⟩, hS.F ht⟩) hS.2.2 dX10_chance_35
      · obtain rfl : u59 = 0 := i_is c64 (by decide)
        refine W.eq (g2 := F0 m 23 ls [.int 0]) rfl ?_
        refine lv_if_ne (tgt := 28) hx hb dX10_chance_23 (by decide) (fun c75 => ?_) (fun c75 => ?_)
        · exact absurd c75 (by decide)
        refine lv_iconst (v := (-1)) hx hb dX10_chance_26 (by decide) ?_
        refine W.widen (k := 12) (n := 84) (Nat.le_of_ble_eq_true rfl) (Nat.le_of_ble_eq_true rfl) ?_
        have zim1 : ((-1) : Int32).toInt = -1 := by decide
        exact W.iret (v := (-1)) hx hb hr (fun t ht hW => ⟨⟨(((-1)), ws, T), rfl, ⟨TLe.rf, hT, KF.rf⟩, CB.mk ht hP hD⟩, hS.F ht⟩) hS.2.2 dX10_chance_27
    · obtain rfl : u52 = 0 := i_is c57 (by decide)
      refine W.eq (g2 := F0 m 16 ls [.int 0]) rfl ?_
      refine lv_if_eq (tgt := 26) hx hb dX10_chance_16 (by decide) (fun c76 => ?_) (fun c76 => ?_)
      rotate_left
      · exact absurd c76 (by decide)
      refine lv_iconst (v := (-1)) hx hb dX10_chance_26 (by decide) ?_
      refine W.widen (k := 12) (n := 84) (Nat.le_of_ble_eq_true rfl) (Nat.le_of_ble_eq_true rfl) ?_
      have zim1 : ((-1) : Int32).toInt = -1 := by decide
      exact W.iret (v := (-1)) hx hb hr (fun t ht hW => ⟨⟨(((-1)), ws, T), rfl, ⟨TLe.rf, hT, KF.rf⟩, CB.mk ht hP hD⟩, hS.F ht⟩) hS.2.2 dX10_chance_27
set_option maxHeartbeats 4000000 in
set_option maxRecDepth 100000 in
theorem x_X10_line (l : Launch) (D : va_G) (Y : Nat → ClassId) (Z : Nat → Nat) (sz : Nat) (ws : va_W) (T : RT) (g : GN) (q : GQ)  (p0 : Nat) (p1 : Int32) (p2 : Int32) (p3 : Int32) (p4 : Int32) (p5 : Int32) (hT : TW Y Z T g q ws) (ht0 : T p0 = (1, 0, 0)) : Met l yX10_line (.code yX10_line cX10_line 13 (some .int) :: GW) ({ frames := 6, cells := 1092, slots := 7644, locals := 158 }) (va_Pc [.ref p0, .int p1, .int p2, .int p3, .int p4, .int p5] (CPC D Y Z ws sz)) (QG (S := Int32 × va_W × RT) (fun u => some (.int u.1)) (fun u => TLe T u.2.2 ∧ TW Y Z u.2.2 g q u.2.1 ∧ KF 1 T ws u.2.1) (fun u => CB D u.2.1 (va_A ws sz)) (va_A ws sz)) 1092 7644 (va_A ws sz) := by
  refine Met.ofW (cc := cX10_line) (maxL := 13) (ret := (some .int)) (by decide) rfl ?_
  intro p e s m args below meth c s₁ B hml hv
  obtain ⟨rfl, ⟨hsz, hP, hKN, hD0⟩, hSZ⟩ := hv
  have hx := B.exec
  have hb := B.bytes
  have hr := B.returns
  have hts := atoms_spec (ws := .code yX10_line cX10_line 13 (some .int) :: GW) B.pre
  have hg : ∀ w ∈ GW, w.before _ s = true := fun w h => hts w (List.mem_cons_of_mem _ h)
  have hown : s.vm.findClass RX10 = some m.cls := findClass_of_methodNamed B.named
  have hlocks := B.notSynchronized
  subst hsz
  have hD := hD0.self (sz := s.heap.size)
  generalize hAe : va_A ws s.heap.size = A at hD hSZ ⊢
  have hA : ∀ q : Nat, s.heap.size ≤ q → A q := fun q h => by rw [← hAe]; exact Or.inr h
  clear hAe hD0 hts B
  have hl := lv_entry ([.ref p0, .int p1, .int p2, .int p3, .int p4, .int p5]) (n := 13) (Nat.le_of_ble_eq_true rfl)
  rw [lg_entry_eq]
  generalize (lg_sl ([.ref p0, .int p1, .int p2, .int p3, .int p4, .int p5]) ++ List.replicate (13 - (lg_sl ([.ref p0, .int p1, .int p2, .int p3, .int p4, .int p5])).length) Slot.unset).toArray = ls at hl ⊢
  have hl : lv_has ls 13 [(0, .ref p0), (1, .int p1), (2, .int p2), (3, .int p3), (4, .int p4), (5, .int p5)] := hl
  refine w_start (A0 := A) hP (fun H locs hP hS => ?_)
  refine lv_iload_n hx hb dX10_line_0 rfl (lv_at hl 3 rfl) ?_
  refine lv_iconst (v := 0) hx hb dX10_line_1 (by decide) ?_
  refine lv_sipush (v := 999) hx hb dX10_line_2 (by decide) ?_
  have zi0 : (0 : Int32).toInt = 0 := by decide
  have zi999 : (999 : Int32).toInt = 999 := by decide
  refine cg0 (rn_S (As := [.int p3, .int 0, .int 999]) (rest := []) (x_X10_isWithin l D Y Z H.size p3 0 999) ⟨hx, hb, hml, hown, hg⟩ lk_X10_100 ⟨CP.blind, CP.at nilP hKN (nilD (A := fun _ => True))⟩ ⟨⟨rfl, rfl⟩, ⟨Nat.le_of_ble_eq_true rfl, Nat.le_of_ble_eq_true rfl⟩, ⟨(Nat.le_of_ble_eq_true rfl), (Nat.le_of_ble_eq_true rfl)⟩⟩ hl.1 rfl (Nat.le_of_ble_eq_true rfl) dX10_line_5) hP hS hA (fun u1 H locs hw2 hP hS => ?_)
  obtain ⟨hw4, hw5⟩ : (((0 : Int32).toInt ≤ p3.toInt ∧ p3.toInt ≤ (999 : Int32).toInt ∧ u1.toInt = 1) ∨ (¬ ((0 : Int32).toInt ≤ p3.toInt ∧ p3.toInt ≤ (999 : Int32).toInt) ∧ u1.toInt = 0)) ∧ (0 ≤ u1.toInt ∧ u1.toInt ≤ 1) := hw2
  refine W.eq (g2 := F0 m 8 ls [.int u1]) rfl ?_
  rcases (show u1.toInt = 1 ∨ u1.toInt = 0 by omega) with c6 | c6
  · obtain rfl : u1 = 1 := i_is c6 (by decide)
    have zi1 : (1 : Int32).toInt = 1 := by decide
    refine W.eq (g2 := F0 m 8 ls [.int 1]) rfl ?_
    refine lv_if_eq (tgt := 27) hx hb dX10_line_8 (by decide) (fun c7 => ?_) (fun c7 => ?_)
    · exact absurd c7 (by decide)
    refine lv_iload hx hb dX10_line_11 (lv_at hl 4 rfl) ?_
    refine lv_iconst (v := 0) hx hb dX10_line_13 (by decide) ?_
    refine lv_sipush (v := 999) hx hb dX10_line_14 (by decide) ?_
    refine cg0 (rn_S (As := [.int p4, .int 0, .int 999]) (rest := []) (x_X10_isWithin l D Y Z H.size p4 0 999) ⟨hx, hb, hml, hown, hg⟩ lk_X10_100 ⟨CP.blind, CP.at nilP hKN (nilD (A := fun _ => True))⟩ ⟨⟨rfl, rfl⟩, ⟨Nat.le_of_ble_eq_true rfl, Nat.le_of_ble_eq_true rfl⟩, ⟨(Nat.le_of_ble_eq_true rfl), (Nat.le_of_ble_eq_true rfl)⟩⟩ hl.1 rfl (Nat.le_of_ble_eq_true rfl) dX10_line_17) hP hS hA (fun u8 H locs hw9 hP hS => ?_)
    obtain ⟨hw11, hw12⟩ : (((0 : Int32).toInt ≤ p4.toInt ∧ p4.toInt ≤ (999 : Int32).toInt ∧ u8.toInt = 1) ∨ (¬ ((0 : Int32).toInt ≤ p4.toInt ∧ p4.toInt ≤ (999 : Int32).toInt) ∧ u8.toInt = 0)) ∧ (0 ≤ u8.toInt ∧ u8.toInt ≤ 1) := hw9
    refine W.eq (g2 := F0 m 20 ls [.int u8]) rfl ?_
    rcases (show u8.toInt = 1 ∨ u8.toInt = 0 by omega) with c13 | c13
    · obtain rfl : u8 = 1 := i_is c13 (by decide)
      refine W.eq (g2 := F0 m 20 ls [.int 1]) rfl ?_
      refine lv_if_eq (tgt := 27) hx hb dX10_line_20 (by decide) (fun c14 => ?_) (fun c14 => ?_)
      · exact absurd c14 (by decide)
      refine lv_iconst (v := 1) hx hb dX10_line_23 (by decide) ?_
      refine lv_goto (tgt := 28) hx hb dX10_line_24 (by decide) ?_
      refine lv_istore (lv' := [(6, .int 1), (0, .ref p0), (1, .int p1), (2, .int p2), (3, .int p3), (4, .int p4), (5, .int p5)]) hx hb dX10_line_28 hl (by decide) rfl (fun ls hl => ?_)
      refine lv_aload_n hx hb dX10_line_30 rfl (lv_at hl 1 rfl) ?_
      refine lv_iload_n hx hb dX10_line_31 rfl (lv_at hl 2 rfl) ?_
      refine ok1 hT ht0 (fun p56 a15 a16 a17 a18 a19 x20 x21 x22 a23 a24 a25 a26 a27 a28 a29 a30 a31 x32 a33 a34 hk57 h35 h36 h37 h38 h39 h40 h41 h42 h43 h44 h45 h46 h47 h48 h49 h50 h51 h52 h53 h54 h55 => ?_)
      refine cga (rn_V (As := [.int p1]) (rest := []) (b := p0) (x_X10_searchAt l D Y Z H.size ws T g q p0 p1 hT ht0) ⟨hx, hb, hml, hown, hg⟩ lk_X10_259 ⟨CPC.blind, va_recv hKN.1 hP (ci := 10) (q0 := p56) rfl hk57, CPC.at hP hKN hD hSZ hS hA⟩ ⟨⟨rfl, rfl⟩, ⟨Nat.le_of_ble_eq_true rfl, Nat.le_of_ble_eq_true rfl⟩, ⟨(Nat.le_of_ble_eq_true rfl), (Nat.le_of_ble_eq_true rfl)⟩⟩ hl.1 rfl (Nat.le_of_ble_eq_true rfl) dX10_line_32) hP hD hS hA (fun u58 H locs hw59 hP hD hS => ?_)
      obtain ⟨ht61, hw62⟩ : (∀ b, u58 = some b → T b = (5, 0, 0)) ∧ (∀ b, u58 = some b → 0 ≤ p1.toInt ∧ p1.toInt ≤ 5) := hw59
      refine W.eq (g2 := F0 m 35 ls [va_rf u58]) rfl ?_
      rcases u58 with _ | b63
      · skip
        refine W.eq (g2 := F0 m 35 ls [.null]) rfl ?_
        refine lv_ifnullN (tgt := 64) hx hb dX10_line_35 (by decide) ?_
        refine lv_iconst (v := (-1)) hx hb dX10_line_64 (by decide) ?_
        refine W.widen (k := 1092) (n := 7644) (Nat.le_of_ble_eq_true rfl) (Nat.le_of_ble_eq_true rfl) ?_
        have zim1 : ((-1) : Int32).toInt = -1 := by decide
        exact W.iret (v := (-1)) hx hb hr (fun t ht hW => ⟨⟨(((-1)), ws, T), rfl, ⟨TLe.rf, hT, KF.rf⟩, CB.mk ht hP hD⟩, hS.F ht⟩) hS.2.2 dX10_line_65
      · skip
        have ht64 := ht61 b63 rfl
        have h65 := hw62 b63 rfl
        refine W.eq (g2 := F0 m 35 ls [.ref b63]) rfl ?_
        refine lv_ifnull hx hb dX10_line_35 ?_
        refine lv_iload_n hx hb dX10_line_38 rfl (lv_at hl 3 rfl) ?_
        refine lv_iconst (v := 1) hx hb dX10_line_39 (by decide) ?_
        refine lv_ldcw (v := 99999) hx hb hown (hg _ kw_948) dX10_line_40 ?_
        have zi99999 : (99999 : Int32).toInt = 99999 := by decide
        refine cg0 (rn_S (As := [.int p2, .int 1, .int 99999]) (rest := []) (x_X10_isWithin l D Y Z H.size p2 1 99999) ⟨hx, hb, hml, hown, hg⟩ lk_X10_100 ⟨CP.blind, CP.at nilP hKN (nilD (A := fun _ => True))⟩ ⟨⟨rfl, rfl⟩, ⟨Nat.le_of_ble_eq_true rfl, Nat.le_of_ble_eq_true rfl⟩, ⟨(Nat.le_of_ble_eq_true rfl), (Nat.le_of_ble_eq_true rfl)⟩⟩ hl.1 rfl (Nat.le_of_ble_eq_true rfl) dX10_line_43) hP hS hA (fun u66 H locs hw67 hP hS => ?_)
        obtain ⟨hw69, hw70⟩ : (((1 : Int32).toInt ≤ p2.toInt ∧ p2.toInt ≤ (99999 : Int32).toInt ∧ u66.toInt = 1) ∨ (¬ ((1 : Int32).toInt ≤ p2.toInt ∧ p2.toInt ≤ (99999 : Int32).toInt) ∧ u66.toInt = 0)) ∧ (0 ≤ u66.toInt ∧ u66.toInt ≤ 1) := hw67
        refine W.eq (g2 := F0 m 46 ls [.int u66]) rfl ?_
        rcases (show u66.toInt = 1 ∨ u66.toInt = 0 by omega) with c71 | c71
        · obtain rfl : u66 = 1 := i_is c71 (by decide)
          refine W.eq (g2 := F0 m 46 ls [.int 1]) rfl ?_
          refine lv_if_eq (tgt := 64) hx hb dX10_line_46 (by decide) (fun c72 => ?_) (fun c72 => ?_)
          · exact absurd c72 (by decide)
          refine lv_iload hx hb dX10_line_49 (lv_at hl 0 rfl) ?_
          refine lv_if_eq (tgt := 64) hx hb dX10_line_51 (by decide) (fun c73 => ?_) (fun c73 => ?_)
          · exact absurd c73 (by decide)
          refine lv_iload hx hb dX10_line_54 (lv_at hl 6 rfl) ?_
          refine lv_iconst (v := 0) hx hb dX10_line_56 (by decide) ?_
          refine lv_iconst (v := 1) hx hb dX10_line_57 (by decide) ?_
          refine cg0 (rn_S (As := [.int p5, .int 0, .int 1]) (rest := []) (x_X10_isWithin l D Y Z H.size p5 0 1) ⟨hx, hb, hml, hown, hg⟩ lk_X10_100 ⟨CP.blind, CP.at nilP hKN (nilD (A := fun _ => True))⟩ ⟨⟨rfl, rfl⟩, ⟨Nat.le_of_ble_eq_true rfl, Nat.le_of_ble_eq_true rfl⟩, ⟨(Nat.le_of_ble_eq_true rfl), (Nat.le_of_ble_eq_true rfl)⟩⟩ hl.1 rfl (Nat.le_of_ble_eq_true rfl) dX10_line_58) hP hS hA (fun u74 H locs hw75 hP hS => ?_)
          obtain ⟨hw77, hw78⟩ : (((0 : Int32).toInt ≤ p5.toInt ∧ p5.toInt ≤ (1 : Int32).toInt ∧ u74.toInt = 1) ∨ (¬ ((0 : Int32).toInt ≤ p5.toInt ∧ p5.toInt ≤ (1 : Int32).toInt) ∧ u74.toInt = 0)) ∧ (0 ≤ u74.toInt ∧ u74.toInt ≤ 1) := hw75
          refine W.eq (g2 := F0 m 61 ls [.int u74]) rfl ?_
          rcases (show u74.toInt = 1 ∨ u74.toInt = 0 by omega) with c79 | c79
          · obtain rfl : u74 = 1 := i_is c79 (by decide)
            refine W.eq (g2 := F0 m 61 ls [.int 1]) rfl ?_
            refine lv_if_ne (tgt := 66) hx hb dX10_line_61 (by decide) (fun c80 => ?_) (fun c80 => ?_)
            rotate_left
            · exact absurd c80 (by decide)
            refine lv_aload_n hx hb dX10_line_66 rfl (lv_at hl 1 rfl) ?_
            refine va_get (D := D) (ci := 10) (v := .ref a15) (C := RX10) (T := TX10) (N := 20) hx hb hg inGX10 hown hKN.1 hP p56 hk57 rfl 0 (by decide) (hg _ kw_349) (fun _ h9 => h9) rfl dX10_line_67 ?_
            refine ok2 hT h35 (fun p115 x81 a82 x83 a84 x85 a86 a87 x88 a89 a90 x91 a92 x93 hk116 h94 h95 h96 h97 h98 h99 h100 h101 h102 h103 h104 h105 h106 h107 h108 h109 h110 h111 h112 h113 h114 => ?_)
            refine cga (rn_NV (As := []) (rest := []) (b := a15) (x_X6_putIn l D Y Z H.size ws T g q 0 a15 hT h35) ⟨hx, hb, hml, hown, hg⟩ hKN lk_X10_303 ⟨CPC.blind, va_recv hKN.1 hP (ci := 6) (q0 := p115) rfl hk116, CPC.at hP hKN hD hSZ hS hA⟩ ⟨⟨rfl, rfl⟩, ⟨Nat.le_of_ble_eq_true rfl, Nat.le_of_ble_eq_true rfl⟩, ⟨(Nat.le_of_ble_eq_true rfl), (Nat.le_of_ble_eq_true rfl)⟩⟩ hl.1 rfl (Nat.le_of_ble_eq_true rfl) dX10_line_70) hP hD hS hA (fun u117 H locs hw118 hP hD hS => ?_)
            refine W.eq (g2 := F0 m 73 ls [.int u117]) rfl ?_
            refine lv_istore (lv' := [(7, .int u117), (6, .int 1), (0, .ref p0), (1, .int p1), (2, .int p2), (3, .int p3), (4, .int p4), (5, .int p5)]) hx hb dX10_line_73 hl (by decide) rfl (fun ls hl => ?_)
            refine lv_iconst (v := 0) hx hb dX10_line_75 (by decide) ?_
            refine lv_istore (lv' := [(8, .int 0), (7, .int u117), (6, .int 1), (0, .ref p0), (1, .int p1), (2, .int p2), (3, .int p3), (4, .int p4), (5, .int p5)]) hx hb dX10_line_76 hl (by decide) rfl (fun ls hl => ?_)
            refine lv_iconst (v := 0) hx hb dX10_line_78 (by decide) ?_
            refine lv_istore (lv' := [(9, .int 0), (8, .int 0), (7, .int u117), (6, .int 1), (0, .ref p0), (1, .int p1), (2, .int p2), (3, .int p3), (4, .int p4), (5, .int p5)]) hx hb dX10_line_79 hl (by decide) rfl (fun ls hl => ?_)
            refine lv_iconst (v := 0) hx hb dX10_line_81 (by decide) ?_
            refine lv_istore (lv' := [(10, .int 0), (9, .int 0), (8, .int 0), (7, .int u117), (6, .int 1), (0, .ref p0), (1, .int p1), (2, .int p2), (3, .int p3), (4, .int p4), (5, .int p5)]) hx hb dX10_line_82 hl (by decide) rfl (fun ls hl => ?_)
            refine w_loopC (σ := Int32 × Int32 × Int32 × va_W × RT) (al := 52) (sl := 364) (M := 21) (fun xx H locs ls => match xx with | (v147, v148, v149, w150, T151) => va_P D vwCl w150 H ∧ va_D A w150 ∧ va_S A s.heap H locs ∧ lv_has ls 13 [(10, .int v147), (9, .int v148), (8, .int v149), (7, .int u117), (6, .int 1), (0, .ref p0), (1, .int p1), (2, .int p2), (3, .int p3), (4, .int p4), (5, .int p5)] ∧ TW Y Z T151 g q w150 ∧ TLe T T151 ∧ KF 1 T ws w150 ∧ (0 ≤ v147.toInt ∧ v147.toInt ≤ 21)) (fun xx => match xx with | (v147, v148, v149, w150, T151) => (21 - v147.toInt).toNat) (0, 0, 0, ws, T) ⟨hP, hD, hS, lv_sub hl [0, 1, 2, 3, 4, 5, 6, 7, 8, 9, 10] rfl, hT, TLe.rf, KF.rf, by omega⟩ (by show (21 - (0 : Int32).toInt).toNat ≤ 21; omega) (fun xx bd229 sd230 H locs ls hI hbbd229 ih => ?_)
            obtain ⟨v147, v148, v149, w150, T151⟩ := xx
            obtain ⟨hP, hD, hS, hl, hT, le232, ke233, hq231⟩ := hI
            have hbbd229 : bd229 + 52 * ((21 - v147.toInt).toNat) ≤ 0 + 52 * 21 ∧ sd230 + 364 * ((21 - v147.toInt).toNat) ≤ 0 + 364 * 21 := hbbd229
            have ih234 := ih
            refine lv_iload hx hb dX10_line_84 (lv_at hl 0 rfl) ?_
            refine lv_bipush (v := 21) hx hb dX10_line_86 (by decide) ?_
            refine lv_icmp_ge (tgt := 153) hx hb dX10_line_88 (by decide) (fun c235 => ?_) (fun c235 => ?_)
            · skip
              have c235 := i_le (show (21 : Int32).toInt = 21 by decide) (Eq.refl v147.toInt) c235
              refine lv_iload hx hb dX10_line_153 (lv_at hl 10 rfl) ?_
              refine lv_if_ne (tgt := 163) hx hb dX10_line_155 (by decide) (fun c236 => ?_) (fun c236 => ?_)
              · skip
                have c236 := i_ne (Eq.refl p5.toInt) (show (0 : Int32).toInt = 0 by decide) c236
                refine lv_iload hx hb dX10_line_163 (lv_at hl 1 rfl) ?_
                refine W.widen (k := 1092) (n := 7644) (by omega) (by omega) ?_
                exact W.iret (v := v148) hx hb hr (fun t ht hW => ⟨⟨(v148, w150, T151), rfl, ⟨le232, hT, ke233⟩, CB.mk ht hP hD⟩, hS.F ht⟩) hS.2.2 dX10_line_165
              · skip
                have c236 := i_eq (Eq.refl p5.toInt) (show (0 : Int32).toInt = 0 by decide) c236
                refine lv_iload hx hb dX10_line_158 (lv_at hl 2 rfl) ?_
                refine lv_goto (tgt := 165) hx hb dX10_line_160 (by decide) ?_
                refine W.widen (k := 1092) (n := 7644) (by omega) (by omega) ?_
                exact W.iret (v := v149) hx hb hr (fun t ht hW => ⟨⟨(v149, w150, T151), rfl, ⟨le232, hT, ke233⟩, CB.mk ht hP hD⟩, hS.F ht⟩) hS.2.2 dX10_line_165
            · skip
              have c235 := i_nle (show (21 : Int32).toInt = 21 by decide) (Eq.refl v147.toInt) c235
              refine lv_iload hx hb dX10_line_91 (lv_at hl 3 rfl) ?_
              refine lv_aload_n hx hb dX10_line_93 rfl (lv_at hl 5 rfl) ?_
              refine lv_iload_n hx hb dX10_line_94 rfl (lv_at hl 6 rfl) ?_
              refine lv_iload hx hb dX10_line_95 (lv_at hl 0 rfl) ?_
              refine lv_iload_n hx hb dX10_line_97 rfl (lv_at hl 7 rfl) ?_
              refine lv_imul hx hb dX10_line_98 ?_
              refine lv_topi (fun v237 ev237 => ?_)
              have hv237 := i_mulR (a := 0) (b := 20) (c := 1) (d := 99999) (lo := 0) (hi := 1999980) (Eq.refl v147.toInt) (Eq.refl p2.toInt) ev237 (by omega) (by omega) (by decide) (by decide)
              refine ok1 hT (le232.up ht0) (fun p279 a238 a239 a240 a241 a242 x243 x244 x245 a246 a247 a248 a249 a250 a251 a252 a253 a254 x255 a256 a257 hk280 h258 h259 h260 h261 h262 h263 h264 h265 h266 h267 h268 h269 h270 h271 h272 h273 h274 h275 h276 h277 h278 => ?_)
              refine cga (rn_V (As := [.int p1, .int v237]) (rest := [.int u117]) (b := p0) (x_X10_caughtFrom l D Y Z H.size w150 T151 g q p0 p1 v237 hT (le232.up ht0)) ⟨hx, hb, hml, hown, hg⟩ lk_X10_299 ⟨CPC.blind, va_recv hKN.1 hP (ci := 10) (q0 := p279) rfl hk280, CPC.at hP hKN hD hSZ hS hA⟩ ⟨⟨rfl, rfl⟩, ⟨Nat.le_of_ble_eq_true rfl, Nat.le_of_ble_eq_true rfl⟩, ⟨(show _ ≤ (1092 : Nat) by omega), (show _ ≤ (7644 : Nat) by omega)⟩⟩ hl.1 rfl (Nat.le_of_ble_eq_true rfl) dX10_line_99) hP hD hS hA (fun u281 H locs hw282 hP hD hS => ?_)
              refine W.widen (k := (bd229 + 40)) (n := (sd230 + 280)) (by omega) (by omega) ?_
              obtain ⟨u283, w284, T285⟩ := u281
              obtain ⟨le286, hT, ke287⟩ : TLe T151 T285 ∧ TW Y Z T285 g q w284 ∧ KF 1 T151 w150 w284 := hw282
              have hk288 := ke287 _ _ hk280 (show (T151 p0).1 = 1 by rw [(le232.up ht0)])
              have ke289 : KF 1 T ws w284 := KF.tr ke233 (KF.le (by decide) le232 ke287)
              refine W.eq (g2 := F0 m 102 ls [.int u283, .int u117]) rfl ?_
              refine lv_isub hx hb dX10_line_102 ?_
              refine lv_topi (fun v290 ev290 => ?_)
              refine lv_istore (lv' := [(11, .int v290), (10, .int v147), (9, .int v148), (8, .int v149), (7, .int u117), (6, .int 1), (0, .ref p0), (1, .int p1), (2, .int p2), (3, .int p3), (4, .int p4), (5, .int p5)]) hx hb dX10_line_103 hl (by decide) rfl (fun ls hl => ?_)
              refine lv_iload hx hb dX10_line_105 (lv_at hl 0 rfl) ?_
              refine lv_iload_n hx hb dX10_line_107 rfl (lv_at hl 9 rfl) ?_
              refine lv_imul hx hb dX10_line_108 ?_
              refine lv_topi (fun v291 ev291 => ?_)
              refine lv_aload_n hx hb dX10_line_109 rfl (lv_at hl 6 rfl) ?_
              refine lv_iload_n hx hb dX10_line_110 rfl (lv_at hl 7 rfl) ?_
              refine lv_iconst (v := 1) hx hb dX10_line_111 (by decide) ?_
              refine lv_iload hx hb dX10_line_112 (lv_at hl 1 rfl) ?_
              refine lv_iload_n hx hb dX10_line_114 rfl (lv_at hl 8 rfl) ?_
              refine lv_imul hx hb dX10_line_115 ?_
              refine lv_topi (fun v292 ev292 => ?_)
              have hv292 := i_mulR (a := 0) (b := 20) (c := 1) (d := 99999) (lo := 0) (hi := 1999980) (Eq.refl v147.toInt) (Eq.refl p2.toInt) ev292 (by omega) (by omega) (by decide) (by decide)
              refine cga (rn_V (As := [.int p1, .int 1, .int v292]) (rest := [.int v291]) (b := p0) (x_X10_foundFrom l D Y Z H.size w284 T285 g q p0 p1 1 v292 hT (le286.up (le232.up ht0))) ⟨hx, hb, hml, hown, hg⟩ lk_X10_311 ⟨CPC.blind, va_recv hKN.1 hP (ci := 10) (q0 := p279) rfl hk288, CPC.at hP hKN hD hSZ hS hA⟩ ⟨⟨rfl, rfl⟩, ⟨Nat.le_of_ble_eq_true rfl, Nat.le_of_ble_eq_true rfl⟩, ⟨(show _ ≤ (1092 : Nat) by omega), (show _ ≤ (7644 : Nat) by omega)⟩⟩ hl.1 rfl (Nat.le_of_ble_eq_true rfl) dX10_line_116) hP hD hS hA (fun u293 H locs hw294 hP hD hS => ?_)
              refine W.widen (k := (bd229 + 52)) (n := (sd230 + 364)) (by omega) (by omega) ?_
              obtain ⟨u295, w296, T297⟩ := u293
              obtain ⟨le298, hT, ke299⟩ : TLe T285 T297 ∧ TW Y Z T297 g q w296 ∧ KF 1 T285 w284 w296 := hw294
              have hk300 := ke299 _ _ hk288 (show (T285 p0).1 = 1 by rw [(le286.up (le232.up ht0))])
              have ke301 : KF 1 T ws w296 := KF.tr ke289 (KF.le (by decide) (le232.tr le286) ke299)
              refine W.eq (g2 := F0 m 119 ls [.int u295, .int v291]) rfl ?_
              refine lv_iload hx hb dX10_line_119 (lv_at hl 10 rfl) ?_
              refine lv_imul hx hb dX10_line_121 ?_
              refine lv_topi (fun v302 ev302 => ?_)
              refine lv_iadd hx hb dX10_line_122 ?_
              refine lv_topi (fun v303 ev303 => ?_)
              refine lv_istore (lv' := [(12, .int v303), (11, .int v290), (10, .int v147), (9, .int v148), (8, .int v149), (7, .int u117), (6, .int 1), (0, .ref p0), (1, .int p1), (2, .int p2), (3, .int p3), (4, .int p4), (5, .int p5)]) hx hb dX10_line_123 hl (by decide) rfl (fun ls hl => ?_)
              refine lv_iload hx hb dX10_line_125 (lv_at hl 2 rfl) ?_
              refine lv_if_eq (tgt := 137) hx hb dX10_line_127 (by decide) (fun c304 => ?_) (fun c304 => ?_)
              · skip
                have c304 := i_eq (Eq.refl v147.toInt) (show (0 : Int32).toInt = 0 by decide) c304
                refine lv_iload hx hb dX10_line_137 (lv_at hl 2 rfl) ?_
                refine lv_iload_n hx hb dX10_line_139 rfl (lv_at hl 9 rfl) ?_
                refine lv_imul hx hb dX10_line_140 ?_
                refine lv_topi (fun v305 ev305 => ?_)
                have hv305 := i_mulR (a := 0) (b := 0) (c := 1) (d := 99999) (lo := 0) (hi := 0) (Eq.refl v147.toInt) (Eq.refl p2.toInt) ev305 (by omega) (by omega) (by decide) (by decide)
                refine lv_istore (lv' := [(8, .int v305), (12, .int v303), (11, .int v290), (10, .int v147), (9, .int v148), (7, .int u117), (6, .int 1), (0, .ref p0), (1, .int p1), (2, .int p2), (3, .int p3), (4, .int p4), (5, .int p5)]) hx hb dX10_line_141 hl (by decide) rfl (fun ls hl => ?_)
                refine lv_iload hx hb dX10_line_143 (lv_at hl 1 rfl) ?_
                refine lv_istore (lv' := [(9, .int v303), (8, .int v305), (12, .int v303), (11, .int v290), (10, .int v147), (7, .int u117), (6, .int 1), (0, .ref p0), (1, .int p1), (2, .int p2), (3, .int p3), (4, .int p4), (5, .int p5)]) hx hb dX10_line_145 hl (by decide) rfl (fun ls hl => ?_)
                obtain ⟨v306, ev306⟩ : ∃ y : Int32, y = v147 + 1 := ⟨_, rfl⟩
                have hv306 := i_add (Eq.refl v147.toInt) (show (1 : Int32).toInt = 1 by decide) ev306 (by omega) (by omega)
                refine lv_iinc (v := v306) (lv' := [(10, .int v306), (9, .int v303), (8, .int v305), (12, .int v303), (11, .int v290), (7, .int u117), (6, .int 1), (0, .ref p0), (1, .int p1), (2, .int p2), (3, .int p3), (4, .int p4), (5, .int p5)]) hx hb dX10_line_147 hl (k := 4) rfl (by rw [ev306]; rfl) (by decide) rfl (fun ls hl => ?_)
                refine lv_goto (tgt := 84) hx hb dX10_line_150 (by decide) ?_
                exact ih234 (v306, v303, v305, w296, T297) _ _ H locs ls (by show (21 - v306.toInt).toNat < (21 - v147.toInt).toNat; omega) (by show (bd229 + 52) + 52 * ((21 - v306.toInt).toNat) ≤ 0 + 52 * 21 ∧ (sd230 + 364) + 364 * ((21 - v306.toInt).toNat) ≤ 0 + 364 * 21; omega) ⟨hP, hD, hS, lv_sub hl [0, 1, 2, 5, 6, 7, 8, 9, 10, 11, 12] rfl, hT, ((le232.tr le286).tr le298), ke301, by omega⟩
              · skip
                have c304 := i_ne (Eq.refl v147.toInt) (show (0 : Int32).toInt = 0 by decide) c304
                refine lv_iload hx hb dX10_line_130 (lv_at hl 0 rfl) ?_
                refine lv_iload hx hb dX10_line_132 (lv_at hl 3 rfl) ?_
                have j307 := rgI v303
                have j308 := rgI v148
                refine lv_icmp_ge (tgt := 147) hx hb dX10_line_134 (by decide) (fun c309 => ?_) (fun c309 => ?_)
                · skip
                  have c309 := i_le (Eq.refl v148.toInt) (Eq.refl v303.toInt) c309
                  obtain ⟨v310, ev310⟩ : ∃ y : Int32, y = v147 + 1 := ⟨_, rfl⟩
                  have hv310 := i_add (Eq.refl v147.toInt) (show (1 : Int32).toInt = 1 by decide) ev310 (by omega) (by omega)
                  refine lv_iinc (v := v310) (lv' := [(10, .int v310), (12, .int v303), (11, .int v290), (9, .int v148), (8, .int v149), (7, .int u117), (6, .int 1), (0, .ref p0), (1, .int p1), (2, .int p2), (3, .int p3), (4, .int p4), (5, .int p5)]) hx hb dX10_line_147 hl (k := 2) rfl (by rw [ev310]; rfl) (by decide) rfl (fun ls hl => ?_)
                  refine lv_goto (tgt := 84) hx hb dX10_line_150 (by decide) ?_
                  exact ih234 (v310, v148, v149, w296, T297) _ _ H locs ls (by show (21 - v310.toInt).toNat < (21 - v147.toInt).toNat; omega) (by show (bd229 + 52) + 52 * ((21 - v310.toInt).toNat) ≤ 0 + 52 * 21 ∧ (sd230 + 364) + 364 * ((21 - v310.toInt).toNat) ≤ 0 + 364 * 21; omega) ⟨hP, hD, hS, lv_sub hl [0, 3, 4, 5, 6, 7, 8, 9, 10, 11, 12] rfl, hT, ((le232.tr le286).tr le298), ke301, by omega⟩
                · skip
                  have c309 := i_nle (Eq.refl v148.toInt) (Eq.refl v303.toInt) c309
                  refine lv_iload hx hb dX10_line_137 (lv_at hl 2 rfl) ?_
                  refine lv_iload_n hx hb dX10_line_139 rfl (lv_at hl 9 rfl) ?_
                  refine lv_imul hx hb dX10_line_140 ?_
                  refine lv_topi (fun v311 ev311 => ?_)
                  have hv311 := i_mulR (a := 1) (b := 20) (c := 1) (d := 99999) (lo := 1) (hi := 1999980) (Eq.refl v147.toInt) (Eq.refl p2.toInt) ev311 (by omega) (by omega) (by decide) (by decide)
                  refine lv_istore (lv' := [(8, .int v311), (12, .int v303), (11, .int v290), (10, .int v147), (9, .int v148), (7, .int u117), (6, .int 1), (0, .ref p0), (1, .int p1), (2, .int p2), (3, .int p3), (4, .int p4), (5, .int p5)]) hx hb dX10_line_141 hl (by decide) rfl (fun ls hl => ?_)
                  refine lv_iload hx hb dX10_line_143 (lv_at hl 1 rfl) ?_
                  refine lv_istore (lv' := [(9, .int v303), (8, .int v311), (12, .int v303), (11, .int v290), (10, .int v147), (7, .int u117), (6, .int 1), (0, .ref p0), (1, .int p1), (2, .int p2), (3, .int p3), (4, .int p4), (5, .int p5)]) hx hb dX10_line_145 hl (by decide) rfl (fun ls hl => ?_)
                  obtain ⟨v312, ev312⟩ : ∃ y : Int32, y = v147 + 1 := ⟨_, rfl⟩
                  have hv312 := i_add (Eq.refl v147.toInt) (show (1 : Int32).toInt = 1 by decide) ev312 (by omega) (by omega)
                  refine lv_iinc (v := v312) (lv' := [(10, .int v312), (9, .int v303), (8, .int v311), (12, .int v303), (11, .int v290), (7, .int u117), (6, .int 1), (0, .ref p0), (1, .int p1), (2, .int p2), (3, .int p3), (4, .int p4), (5, .int p5)]) hx hb dX10_line_147 hl (k := 4) rfl (by rw [ev312]; rfl) (by decide) rfl (fun ls hl => ?_)
                  refine lv_goto (tgt := 84) hx hb dX10_line_150 (by decide) ?_
                  exact ih234 (v312, v303, v311, w296, T297) _ _ H locs ls (by show (21 - v312.toInt).toNat < (21 - v147.toInt).toNat; omega) (by show (bd229 + 52) + 52 * ((21 - v312.toInt).toNat) ≤ 0 + 52 * 21 ∧ (sd230 + 364) + 364 * ((21 - v312.toInt).toNat) ≤ 0 + 364 * 21; omega) ⟨hP, hD, hS, lv_sub hl [0, 1, 2, 5, 6, 7, 8, 9, 10, 11, 12] rfl, hT, ((le232.tr le286).tr le298), ke301, by omega⟩
          · obtain rfl : u74 = 0 := i_is c79 (by decide)
            refine W.eq (g2 := F0 m 61 ls [.int 0]) rfl ?_
            refine lv_if_ne (tgt := 66) hx hb dX10_line_61 (by decide) (fun c313 => ?_) (fun c313 => ?_)
            · exact absurd c313 (by decide)
            refine lv_iconst (v := (-1)) hx hb dX10_line_64 (by decide) ?_
            refine W.widen (k := 1092) (n := 7644) (Nat.le_of_ble_eq_true rfl) (Nat.le_of_ble_eq_true rfl) ?_
            have zim1 : ((-1) : Int32).toInt = -1 := by decide
            exact W.iret (v := (-1)) hx hb hr (fun t ht hW => ⟨⟨(((-1)), ws, T), rfl, ⟨TLe.rf, hT, KF.rf⟩, CB.mk ht hP hD⟩, hS.F ht⟩) hS.2.2 dX10_line_65
        · obtain rfl : u66 = 0 := i_is c71 (by decide)
          refine W.eq (g2 := F0 m 46 ls [.int 0]) rfl ?_
          refine lv_if_eq (tgt := 64) hx hb dX10_line_46 (by decide) (fun c314 => ?_) (fun c314 => ?_)
          rotate_left
          · exact absurd c314 (by decide)
          refine lv_iconst (v := (-1)) hx hb dX10_line_64 (by decide) ?_
          refine W.widen (k := 1092) (n := 7644) (Nat.le_of_ble_eq_true rfl) (Nat.le_of_ble_eq_true rfl) ?_
          have zim1 : ((-1) : Int32).toInt = -1 := by decide
          exact W.iret (v := (-1)) hx hb hr (fun t ht hW => ⟨⟨(((-1)), ws, T), rfl, ⟨TLe.rf, hT, KF.rf⟩, CB.mk ht hP hD⟩, hS.F ht⟩) hS.2.2 dX10_line_65
    · obtain rfl : u8 = 0 := i_is c13 (by decide)
      refine W.eq (g2 := F0 m 20 ls [.int 0]) rfl ?_
      refine lv_if_eq (tgt := 27) hx hb dX10_line_20 (by decide) (fun c315 => ?_) (fun c315 => ?_)
      rotate_left
      · exact absurd c315 (by decide)
      refine lv_iconst (v := 0) hx hb dX10_line_27 (by decide) ?_
      refine lv_istore (lv' := [(6, .int 0), (0, .ref p0), (1, .int p1), (2, .int p2), (3, .int p3), (4, .int p4), (5, .int p5)]) hx hb dX10_line_28 hl (by decide) rfl (fun ls hl => ?_)
      refine lv_aload_n hx hb dX10_line_30 rfl (lv_at hl 1 rfl) ?_
      refine lv_iload_n hx hb dX10_line_31 rfl (lv_at hl 2 rfl) ?_
      refine ok1 hT ht0 (fun p357 a316 a317 a318 a319 a320 x321 x322 x323 a324 a325 a326 a327 a328 a329 a330 a331 a332 x333 a334 a335 hk358 h336 h337 h338 h339 h340 h341 h342 h343 h344 h345 h346 h347 h348 h349 h350 h351 h352 h353 h354 h355 h356 => ?_)
      refine cga (rn_V (As := [.int p1]) (rest := []) (b := p0) (x_X10_searchAt l D Y Z H.size ws T g q p0 p1 hT ht0) ⟨hx, hb, hml, hown, hg⟩ lk_X10_259 ⟨CPC.blind, va_recv hKN.1 hP (ci := 10) (q0 := p357) rfl hk358, CPC.at hP hKN hD hSZ hS hA⟩ ⟨⟨rfl, rfl⟩, ⟨Nat.le_of_ble_eq_true rfl, Nat.le_of_ble_eq_true rfl⟩, ⟨(Nat.le_of_ble_eq_true rfl), (Nat.le_of_ble_eq_true rfl)⟩⟩ hl.1 rfl (Nat.le_of_ble_eq_true rfl) dX10_line_32) hP hD hS hA (fun u359 H locs hw360 hP hD hS => ?_)
      obtain ⟨ht362, hw363⟩ : (∀ b, u359 = some b → T b = (5, 0, 0)) ∧ (∀ b, u359 = some b → 0 ≤ p1.toInt ∧ p1.toInt ≤ 5) := hw360
      refine W.eq (g2 := F0 m 35 ls [va_rf u359]) rfl ?_
      rcases u359 with _ | b364
      · skip
        refine W.eq (g2 := F0 m 35 ls [.null]) rfl ?_
        refine lv_ifnullN (tgt := 64) hx hb dX10_line_35 (by decide) ?_
        refine lv_iconst (v := (-1)) hx hb dX10_line_64 (by decide) ?_
        refine W.widen (k := 1092) (n := 7644) (Nat.le_of_ble_eq_true rfl) (Nat.le_of_ble_eq_true rfl) ?_
        have zim1 : ((-1) : Int32).toInt = -1 := by decide
        exact W.iret (v := (-1)) hx hb hr (fun t ht hW => ⟨⟨(((-1)), ws, T), rfl, ⟨TLe.rf, hT, KF.rf⟩, CB.mk ht hP hD⟩, hS.F ht⟩) hS.2.2 dX10_line_65
      · skip
        have ht365 := ht362 b364 rfl
        have h366 := hw363 b364 rfl
        refine W.eq (g2 := F0 m 35 ls [.ref b364]) rfl ?_
        refine lv_ifnull hx hb dX10_line_35 ?_
        refine lv_iload_n hx hb dX10_line_38 rfl (lv_at hl 3 rfl) ?_
        refine lv_iconst (v := 1) hx hb dX10_line_39 (by decide) ?_
        refine lv_ldcw (v := 99999) hx hb hown (hg _ kw_948) dX10_line_40 ?_
        have zi99999 : (99999 : Int32).toInt = 99999 := by decide
        refine cg0 (rn_S (As := [.int p2, .int 1, .int 99999]) (rest := []) (x_X10_isWithin l D Y Z H.size p2 1 99999) ⟨hx, hb, hml, hown, hg⟩ lk_X10_100 ⟨CP.blind, CP.at nilP hKN (nilD (A := fun _ => True))⟩ ⟨⟨rfl, rfl⟩, ⟨Nat.le_of_ble_eq_true rfl, Nat.le_of_ble_eq_true rfl⟩, ⟨(Nat.le_of_ble_eq_true rfl), (Nat.le_of_ble_eq_true rfl)⟩⟩ hl.1 rfl (Nat.le_of_ble_eq_true rfl) dX10_line_43) hP hS hA (fun u367 H locs hw368 hP hS => ?_)
        obtain ⟨hw370, hw371⟩ : (((1 : Int32).toInt ≤ p2.toInt ∧ p2.toInt ≤ (99999 : Int32).toInt ∧ u367.toInt = 1) ∨ (¬ ((1 : Int32).toInt ≤ p2.toInt ∧ p2.toInt ≤ (99999 : Int32).toInt) ∧ u367.toInt = 0)) ∧ (0 ≤ u367.toInt ∧ u367.toInt ≤ 1) := hw368
        refine W.eq (g2 := F0 m 46 ls [.int u367]) rfl ?_
        rcases (show u367.toInt = 1 ∨ u367.toInt = 0 by omega) with c372 | c372
        · obtain rfl : u367 = 1 := i_is c372 (by decide)
          refine W.eq (g2 := F0 m 46 ls [.int 1]) rfl ?_
          refine lv_if_eq (tgt := 64) hx hb dX10_line_46 (by decide) (fun c373 => ?_) (fun c373 => ?_)
          · exact absurd c373 (by decide)
          refine lv_iload hx hb dX10_line_49 (lv_at hl 0 rfl) ?_
          refine lv_if_eq (tgt := 64) hx hb dX10_line_51 (by decide) (fun c374 => ?_) (fun c374 => ?_)
          rotate_left
          · exact absurd c374 (by decide)
          refine lv_iconst (v := (-1)) hx hb dX10_line_64 (by decide) ?_
          refine W.widen (k := 1092) (n := 7644) (Nat.le_of_ble_eq_true rfl) (Nat.le_of_ble_eq_true rfl) ?_
          have zim1 : ((-1) : Int32).toInt = -1 := by decide
          exact W.iret (v := (-1)) hx hb hr (fun t ht hW => ⟨⟨(((-1)), ws, T), rfl, ⟨TLe.rf, hT, KF.rf⟩, CB.mk ht hP hD⟩, hS.F ht⟩) hS.2.2 dX10_line_65
        · obtain rfl : u367 = 0 := i_is c372 (by decide)
          refine W.eq (g2 := F0 m 46 ls [.int 0]) rfl ?_
          refine lv_if_eq (tgt := 64) hx hb dX10_line_46 (by decide) (fun c375 => ?_) (fun c375 => ?_)
          rotate_left
          · exact absurd c375 (by decide)
          refine lv_iconst (v := (-1)) hx hb dX10_line_64 (by decide) ?_
          refine W.widen (k := 1092) (n := 7644) (Nat.le_of_ble_eq_true rfl) (Nat.le_of_ble_eq_true rfl) ?_
          have zim1 : ((-1) : Int32).toInt = -1 := by decide
          exact W.iret (v := (-1)) hx hb hr (fun t ht hW => ⟨⟨(((-1)), ws, T), rfl, ⟨TLe.rf, hT, KF.rf⟩, CB.mk ht hP hD⟩, hS.F ht⟩) hS.2.2 dX10_line_65
  · obtain rfl : u1 = 0 := i_is c6 (by decide)
    refine W.eq (g2 := F0 m 8 ls [.int 0]) rfl ?_
    refine lv_if_eq (tgt := 27) hx hb dX10_line_8 (by decide) (fun c376 => ?_) (fun c376 => ?_)
    rotate_left
    · exact absurd c376 (by decide)
    refine lv_iconst (v := 0) hx hb dX10_line_27 (by decide) ?_
    refine lv_istore (lv' := [(6, .int 0), (0, .ref p0), (1, .int p1), (2, .int p2), (3, .int p3), (4, .int p4), (5, .int p5)]) hx hb dX10_line_28 hl (by decide) rfl (fun ls hl => ?_)
    refine lv_aload_n hx hb dX10_line_30 rfl (lv_at hl 1 rfl) ?_
    refine lv_iload_n hx hb dX10_line_31 rfl (lv_at hl 2 rfl) ?_
    refine ok1 hT ht0 (fun p418 a377 a378 a379 a380 a381 x382 x383 x384 a385 a386 a387 a388 a389 a390 a391 a392 a393 x394 a395 a396 hk419 h397 h398 h399 h400 h401 h402 h403 h404 h405 h406 h407 h408 h409 h410 h411 h412 h413 h414 h415 h416 h417 => ?_)
    refine cga (rn_V (As := [.int p1]) (rest := []) (b := p0) (x_X10_searchAt l D Y Z H.size ws T g q p0 p1 hT ht0) ⟨hx, hb, hml, hown, hg⟩ lk_X10_259 ⟨CPC.blind, va_recv hKN.1 hP (ci := 10) (q0 := p418) rfl hk419, CPC.at hP hKN hD hSZ hS hA⟩ ⟨⟨rfl, rfl⟩, ⟨Nat.le_of_ble_eq_true rfl, Nat.le_of_ble_eq_true rfl⟩, ⟨(Nat.le_of_ble_eq_true rfl), (Nat.le_of_ble_eq_true rfl)⟩⟩ hl.1 rfl (Nat.le_of_ble_eq_true rfl) dX10_line_32) hP hD hS hA (fun u420 H locs hw421 hP hD hS => ?_)
    obtain ⟨ht423, hw424⟩ : (∀ b, u420 = some b → T b = (5, 0, 0)) ∧ (∀ b, u420 = some b → 0 ≤ p1.toInt ∧ p1.toInt ≤ 5) := hw421
    refine W.eq (g2 := F0 m 35 ls [va_rf u420]) rfl ?_
    rcases u420 with _ | b425
    · skip
      refine W.eq (g2 := F0 m 35 ls [.null]) rfl ?_
      refine lv_ifnullN (tgt := 64) hx hb dX10_line_35 (by decide) ?_
      refine lv_iconst (v := (-1)) hx hb dX10_line_64 (by decide) ?_
      refine W.widen (k := 1092) (n := 7644) (Nat.le_of_ble_eq_true rfl) (Nat.le_of_ble_eq_true rfl) ?_
      have zim1 : ((-1) : Int32).toInt = -1 := by decide
      exact W.iret (v := (-1)) hx hb hr (fun t ht hW => ⟨⟨(((-1)), ws, T), rfl, ⟨TLe.rf, hT, KF.rf⟩, CB.mk ht hP hD⟩, hS.F ht⟩) hS.2.2 dX10_line_65
    · skip
      have ht426 := ht423 b425 rfl
      have h427 := hw424 b425 rfl
      refine W.eq (g2 := F0 m 35 ls [.ref b425]) rfl ?_
      refine lv_ifnull hx hb dX10_line_35 ?_
      refine lv_iload_n hx hb dX10_line_38 rfl (lv_at hl 3 rfl) ?_
      refine lv_iconst (v := 1) hx hb dX10_line_39 (by decide) ?_
      refine lv_ldcw (v := 99999) hx hb hown (hg _ kw_948) dX10_line_40 ?_
      have zi1 : (1 : Int32).toInt = 1 := by decide
      have zi99999 : (99999 : Int32).toInt = 99999 := by decide
      refine cg0 (rn_S (As := [.int p2, .int 1, .int 99999]) (rest := []) (x_X10_isWithin l D Y Z H.size p2 1 99999) ⟨hx, hb, hml, hown, hg⟩ lk_X10_100 ⟨CP.blind, CP.at nilP hKN (nilD (A := fun _ => True))⟩ ⟨⟨rfl, rfl⟩, ⟨Nat.le_of_ble_eq_true rfl, Nat.le_of_ble_eq_true rfl⟩, ⟨(Nat.le_of_ble_eq_true rfl), (Nat.le_of_ble_eq_true rfl)⟩⟩ hl.1 rfl (Nat.le_of_ble_eq_true rfl) dX10_line_43) hP hS hA (fun u428 H locs hw429 hP hS => ?_)
      obtain ⟨hw431, hw432⟩ : (((1 : Int32).toInt ≤ p2.toInt ∧ p2.toInt ≤ (99999 : Int32).toInt ∧ u428.toInt = 1) ∨ (¬ ((1 : Int32).toInt ≤ p2.toInt ∧ p2.toInt ≤ (99999 : Int32).toInt) ∧ u428.toInt = 0)) ∧ (0 ≤ u428.toInt ∧ u428.toInt ≤ 1) := hw429
      refine W.eq (g2 := F0 m 46 ls [.int u428]) rfl ?_
      rcases (show u428.toInt = 1 ∨ u428.toInt = 0 by omega) with c433 | c433
      · obtain rfl : u428 = 1 := i_is c433 (by decide)
        refine W.eq (g2 := F0 m 46 ls [.int 1]) rfl ?_
        refine lv_if_eq (tgt := 64) hx hb dX10_line_46 (by decide) (fun c434 => ?_) (fun c434 => ?_)
        · exact absurd c434 (by decide)
        refine lv_iload hx hb dX10_line_49 (lv_at hl 0 rfl) ?_
        refine lv_if_eq (tgt := 64) hx hb dX10_line_51 (by decide) (fun c435 => ?_) (fun c435 => ?_)
        rotate_left
        · exact absurd c435 (by decide)
        refine lv_iconst (v := (-1)) hx hb dX10_line_64 (by decide) ?_
        refine W.widen (k := 1092) (n := 7644) (Nat.le_of_ble_eq_true rfl) (Nat.le_of_ble_eq_true rfl) ?_
        have zim1 : ((-1) : Int32).toInt = -1 := by decide
        exact W.iret (v := (-1)) hx hb hr (fun t ht hW => ⟨⟨(((-1)), ws, T), rfl, ⟨TLe.rf, hT, KF.rf⟩, CB.mk ht hP hD⟩, hS.F ht⟩) hS.2.2 dX10_line_65
      · obtain rfl : u428 = 0 := i_is c433 (by decide)
        refine W.eq (g2 := F0 m 46 ls [.int 0]) rfl ?_
        refine lv_if_eq (tgt := 64) hx hb dX10_line_46 (by decide) (fun c436 => ?_) (fun c436 => ?_)
        rotate_left
        · exact absurd c436 (by decide)
        refine lv_iconst (v := (-1)) hx hb dX10_line_64 (by decide) ?_
        refine W.widen (k := 1092) (n := 7644) (Nat.le_of_ble_eq_true rfl) (Nat.le_of_ble_eq_true rfl) ?_
        have zim1 : ((-1) : Int32).toInt = -1 := by decide
        exact W.iret (v := (-1)) hx hb hr (fun t ht hW => ⟨⟨(((-1)), ws, T), rfl, ⟨TLe.rf, hT, KF.rf⟩, CB.mk ht hP hD⟩, hS.F ht⟩) hS.2.2 dX10_line_65
set_option maxHeartbeats 4000000 in
set_option maxRecDepth 100000 in
theorem x_X10_sign (l : Launch) (D : va_G) (Y : Nat → ClassId) (Z : Nat → Nat) (sz : Nat) (ws : va_W) (T : RT) (g : GN) (q : GQ)  (p0 : Nat) (p1 : Int32) (p2 : Int32) (p3 : Int32) (hT : TW Y Z T g q ws) (ht0 : T p0 = (1, 0, 0)) : Met l yX10_sign (.code yX10_sign cX10_sign 5 (some .int) :: GW) ({ frames := 6, cells := 13, slots := 91, locals := 156 }) (va_Pc [.ref p0, .int p1, .int p2, .int p3] (CPC D Y Z ws sz)) (QG (S := Int32 × va_W × RT) (fun u => some (.int u.1)) (fun u => TLe T u.2.2 ∧ TW Y Z u.2.2 g q u.2.1 ∧ KF 1 T ws u.2.1) (fun u => CB D u.2.1 (va_A ws sz)) (va_A ws sz)) 13 91 (va_A ws sz) := by
  refine Met.ofW (cc := cX10_sign) (maxL := 5) (ret := (some .int)) (by decide) rfl ?_
  intro p e s m args below meth c s₁ B hml hv
  obtain ⟨rfl, ⟨hsz, hP, hKN, hD0⟩, hSZ⟩ := hv
  have hx := B.exec
  have hb := B.bytes
  have hr := B.returns
  have hts := atoms_spec (ws := .code yX10_sign cX10_sign 5 (some .int) :: GW) B.pre
  have hg : ∀ w ∈ GW, w.before _ s = true := fun w h => hts w (List.mem_cons_of_mem _ h)
  have hown : s.vm.findClass RX10 = some m.cls := findClass_of_methodNamed B.named
  have hlocks := B.notSynchronized
  subst hsz
  have hD := hD0.self (sz := s.heap.size)
  generalize hAe : va_A ws s.heap.size = A at hD hSZ ⊢
  have hA : ∀ q : Nat, s.heap.size ≤ q → A q := fun q h => by rw [← hAe]; exact Or.inr h
  clear hAe hD0 hts B
  have hl := lv_entry ([.ref p0, .int p1, .int p2, .int p3]) (n := 5) (Nat.le_of_ble_eq_true rfl)
  rw [lg_entry_eq]
  generalize (lg_sl ([.ref p0, .int p1, .int p2, .int p3]) ++ List.replicate (5 - (lg_sl ([.ref p0, .int p1, .int p2, .int p3])).length) Slot.unset).toArray = ls at hl ⊢
  have hl : lv_has ls 5 [(0, .ref p0), (1, .int p1), (2, .int p2), (3, .int p3)] := hl
  refine w_start (A0 := A) hP (fun H locs hP hS => ?_)
  refine lv_aload_n hx hb dX10_sign_0 rfl (lv_at hl 0 rfl) ?_
  refine lv_iload_n hx hb dX10_sign_1 rfl (lv_at hl 1 rfl) ?_
  refine ok1 hT ht0 (fun p42 a1 a2 a3 a4 a5 x6 x7 x8 a9 a10 a11 a12 a13 a14 a15 a16 a17 x18 a19 a20 hk43 h21 h22 h23 h24 h25 h26 h27 h28 h29 h30 h31 h32 h33 h34 h35 h36 h37 h38 h39 h40 h41 => ?_)
  refine cga (rn_V (As := [.int p1]) (rest := []) (b := p0) (x_X10_searchAt l D Y Z H.size ws T g q p0 p1 hT ht0) ⟨hx, hb, hml, hown, hg⟩ lk_X10_259 ⟨CPC.blind, va_recv hKN.1 hP (ci := 10) (q0 := p42) rfl hk43, CPC.at hP hKN hD hSZ hS hA⟩ ⟨⟨rfl, rfl⟩, ⟨Nat.le_of_ble_eq_true rfl, Nat.le_of_ble_eq_true rfl⟩, ⟨(Nat.le_of_ble_eq_true rfl), (Nat.le_of_ble_eq_true rfl)⟩⟩ hl.1 rfl (Nat.le_of_ble_eq_true rfl) dX10_sign_2) hP hD hS hA (fun u44 H locs hw45 hP hD hS => ?_)
  obtain ⟨ht47, hw48⟩ : (∀ b, u44 = some b → T b = (5, 0, 0)) ∧ (∀ b, u44 = some b → 0 ≤ p1.toInt ∧ p1.toInt ≤ 5) := hw45
  refine W.eq (g2 := F0 m 5 ls [va_rf u44]) rfl ?_
  rcases u44 with _ | b49
  · skip
    refine W.eq (g2 := F0 m 5 ls [.null]) rfl ?_
    refine lv_ifnullN (tgt := 25) hx hb dX10_sign_5 (by decide) ?_
    refine lv_ldc (v := (-200000)) hx hb hown (hg _ kw_473) dX10_sign_25 ?_
    refine W.widen (k := 13) (n := 91) (Nat.le_of_ble_eq_true rfl) (Nat.le_of_ble_eq_true rfl) ?_
    have zim200000 : ((-200000) : Int32).toInt = -200000 := by decide
    exact W.iret (v := (-200000)) hx hb hr (fun t ht hW => ⟨⟨(((-200000)), ws, T), rfl, ⟨TLe.rf, hT, KF.rf⟩, CB.mk ht hP hD⟩, hS.F ht⟩) hS.2.2 dX10_sign_27
  · skip
    have ht50 := ht47 b49 rfl
    have h51 := hw48 b49 rfl
    refine W.eq (g2 := F0 m 5 ls [.ref b49]) rfl ?_
    refine lv_ifnull hx hb dX10_sign_5 ?_
    refine lv_aload_n hx hb dX10_sign_8 rfl (lv_at hl 0 rfl) ?_
    refine lv_iload_n hx hb dX10_sign_9 rfl (lv_at hl 2 rfl) ?_
    refine cga (rn_V (As := [.int p2]) (rest := []) (b := p0) (x_X10_isStar l D Y Z H.size ws T g q p0 p2 hT ht0) ⟨hx, hb, hml, hown, hg⟩ lk_X10_137 ⟨CPC.blind, va_recv hKN.1 hP (ci := 10) (q0 := p42) rfl hk43, CPC.at hP hKN hD hSZ hS hA⟩ ⟨⟨rfl, rfl⟩, ⟨Nat.le_of_ble_eq_true rfl, Nat.le_of_ble_eq_true rfl⟩, ⟨(Nat.le_of_ble_eq_true rfl), (Nat.le_of_ble_eq_true rfl)⟩⟩ hl.1 rfl (Nat.le_of_ble_eq_true rfl) dX10_sign_10) hP hD hS hA (fun u52 H locs hw53 hP hD hS => ?_)
    obtain ⟨hw55, hw56⟩ : (0 ≤ u52.toInt ∧ u52.toInt ≤ 1) ∧ (u52.toInt = 1 → (0 ≤ p2.toInt ∧ p2.toInt ≤ 11)) := hw53
    refine W.eq (g2 := F0 m 13 ls [.int u52]) rfl ?_
    rcases (show u52.toInt = 1 ∨ u52.toInt = 0 by omega) with c57 | c57
    · obtain rfl : u52 = 1 := i_is c57 (by decide)
      have zi1 : (1 : Int32).toInt = 1 := by decide
      replace hw56 := hw56 (by decide)
      refine W.eq (g2 := F0 m 13 ls [.int 1]) rfl ?_
      refine lv_if_eq (tgt := 25) hx hb dX10_sign_13 (by decide) (fun c58 => ?_) (fun c58 => ?_)
      · exact absurd c58 (by decide)
      refine lv_iload_n hx hb dX10_sign_16 rfl (lv_at hl 3 rfl) ?_
      refine lv_iconst (v := 0) hx hb dX10_sign_17 (by decide) ?_
      refine lv_iconst (v := 5) hx hb dX10_sign_18 (by decide) ?_
      have zi0 : (0 : Int32).toInt = 0 := by decide
      have zi5 : (5 : Int32).toInt = 5 := by decide
      refine cg0 (rn_S (As := [.int p3, .int 0, .int 5]) (rest := []) (x_X10_isWithin l D Y Z H.size p3 0 5) ⟨hx, hb, hml, hown, hg⟩ lk_X10_100 ⟨CP.blind, CP.at nilP hKN (nilD (A := fun _ => True))⟩ ⟨⟨rfl, rfl⟩, ⟨Nat.le_of_ble_eq_true rfl, Nat.le_of_ble_eq_true rfl⟩, ⟨(Nat.le_of_ble_eq_true rfl), (Nat.le_of_ble_eq_true rfl)⟩⟩ hl.1 rfl (Nat.le_of_ble_eq_true rfl) dX10_sign_19) hP hS hA (fun u59 H locs hw60 hP hS => ?_)
      obtain ⟨hw62, hw63⟩ : (((0 : Int32).toInt ≤ p3.toInt ∧ p3.toInt ≤ (5 : Int32).toInt ∧ u59.toInt = 1) ∨ (¬ ((0 : Int32).toInt ≤ p3.toInt ∧ p3.toInt ≤ (5 : Int32).toInt) ∧ u59.toInt = 0)) ∧ (0 ≤ u59.toInt ∧ u59.toInt ≤ 1) := hw60
      refine W.eq (g2 := F0 m 22 ls [.int u59]) rfl ?_
      rcases (show u59.toInt = 1 ∨ u59.toInt = 0 by omega) with c64 | c64
      · obtain rfl : u59 = 1 := i_is c64 (by decide)
        refine W.eq (g2 := F0 m 22 ls [.int 1]) rfl ?_
        refine lv_if_ne (tgt := 28) hx hb dX10_sign_22 (by decide) (fun c65 => ?_) (fun c65 => ?_)
        rotate_left
        · exact absurd c65 (by decide)
        refine lv_aload_n hx hb dX10_sign_28 rfl (lv_at hl 0 rfl) ?_
        refine lv_iload_n hx hb dX10_sign_29 rfl (lv_at hl 1 rfl) ?_
        refine lv_iload_n hx hb dX10_sign_30 rfl (lv_at hl 2 rfl) ?_
        refine lv_iconst (v := 0) hx hb dX10_sign_31 (by decide) ?_
        refine cga (rn_V (As := [.int p1, .int p2, .int 0]) (rest := []) (b := p0) (x_X10_findingOf l D Y Z H.size ws T g q p0 p1 p2 0 hT ht0) ⟨hx, hb, hml, hown, hg⟩ lk_X10_264 ⟨CPC.blind, va_recv hKN.1 hP (ci := 10) (q0 := p42) rfl hk43, CPC.at hP hKN hD hSZ hS hA⟩ ⟨⟨rfl, rfl⟩, ⟨Nat.le_of_ble_eq_true rfl, Nat.le_of_ble_eq_true rfl⟩, ⟨(Nat.le_of_ble_eq_true rfl), (Nat.le_of_ble_eq_true rfl)⟩⟩ hl.1 rfl (Nat.le_of_ble_eq_true rfl) dX10_sign_32) hP hD hS hA (fun u66 H locs hw67 hP hD hS => ?_)
        refine W.widen (k := 1) (n := 7) (Nat.le_of_ble_eq_true rfl) (Nat.le_of_ble_eq_true rfl) ?_
        obtain ⟨b68, w69, T70⟩ := u66
        obtain ⟨le71, hT, ke72, ht73⟩ : TLe T T70 ∧ TW Y Z T70 g q w69 ∧ KF 1 T ws w69 ∧ T70 b68 = (6, 0, 0) := hw67
        have hk74 := ke72 _ _ hk43 (show (T p0).1 = 1 by rw [ht0])
        have ke75 : KF 1 T ws w69 := KF.tr KF.rf ke72
        refine W.eq (g2 := F0 m 35 ls [.ref b68]) rfl ?_
        refine lv_astore (lv' := [(4, .ref b68), (0, .ref p0), (1, .int p1), (2, .int p2), (3, .int p3)]) hx hb dX10_sign_35 hl (by decide) rfl (fun ls hl => ?_)
        refine lv_aload hx hb dX10_sign_37 (lv_at hl 0 rfl) ?_
        refine ok6 hT ht73 (fun p84 x76 x77 x78 x79 x80 y81 y82 hk85 h83 => ?_)
        refine cga (rn_NV (As := []) (rest := []) (b := b68) (x_X1_isNone l D Y Z H.size w69 T70 g q b68 p84 x76 x77 x78 x79 x80 y81 y82 hT ht73 hk85) ⟨hx, hb, hml, hown, hg⟩ hKN lk_X10_315 ⟨CPC.blind, va_recv hKN.1 hP (ci := 1) (q0 := p84) rfl hk85, CPC.at hP hKN hD hSZ hS hA⟩ ⟨⟨rfl, rfl⟩, ⟨Nat.le_of_ble_eq_true rfl, Nat.le_of_ble_eq_true rfl⟩, ⟨(Nat.le_of_ble_eq_true rfl), (Nat.le_of_ble_eq_true rfl)⟩⟩ hl.1 rfl (Nat.le_of_ble_eq_true rfl) dX10_sign_39) hP hD hS hA (fun u86 H locs hw87 hP hD hS => ?_)
        obtain ⟨hw89, hw90⟩ : (0 ≤ u86.toInt ∧ u86.toInt ≤ 1) ∧ (u86.toInt = 0 → 1 ≤ x77.toInt) := hw87
        refine W.eq (g2 := F0 m 42 ls [.int u86]) rfl ?_
        rcases (show u86.toInt = 1 ∨ u86.toInt = 0 by omega) with c91 | c91
        · obtain rfl : u86 = 1 := i_is c91 (by decide)
          clear hw90
          refine W.eq (g2 := F0 m 42 ls [.int 1]) rfl ?_
          refine lv_if_eq (tgt := 48) hx hb dX10_sign_42 (by decide) (fun c92 => ?_) (fun c92 => ?_)
          · exact absurd c92 (by decide)
          refine lv_ldc (v := (-200000)) hx hb hown (hg _ kw_473) dX10_sign_45 ?_
          refine W.widen (k := 13) (n := 91) (Nat.le_of_ble_eq_true rfl) (Nat.le_of_ble_eq_true rfl) ?_
          have zim200000 : ((-200000) : Int32).toInt = -200000 := by decide
          exact W.iret (v := (-200000)) hx hb hr (fun t ht hW => ⟨⟨(((-200000)), w69, T70), rfl, ⟨le71, hT, ke75⟩, CB.mk ht hP hD⟩, hS.F ht⟩) hS.2.2 dX10_sign_47
        · obtain rfl : u86 = 0 := i_is c91 (by decide)
          replace hw90 := hw90 (by decide)
          refine W.eq (g2 := F0 m 42 ls [.int 0]) rfl ?_
          refine lv_if_eq (tgt := 48) hx hb dX10_sign_42 (by decide) (fun c93 => ?_) (fun c93 => ?_)
          rotate_left
          · exact absurd c93 (by decide)
          refine lv_iload_n hx hb dX10_sign_48 rfl (lv_at hl 4 rfl) ?_
          refine lv_iconst (v := 4) hx hb dX10_sign_49 (by decide) ?_
          refine lv_icmp_ne (tgt := 68) hx hb dX10_sign_50 (by decide) (fun c94 => ?_) (fun c94 => ?_)
          · skip
            have c94 := i_ne (Eq.refl p3.toInt) (show (4 : Int32).toInt = 4 by decide) c94
            refine lv_aload_n hx hb dX10_sign_68 rfl (lv_at hl 1 rfl) ?_
            refine va_get (D := D) (ci := 10) (v := .ref a11) (C := RX10) (T := TX10) (N := 20) hx hb hg inGX10 hown hKN.1 hP p42 hk74 rfl 10 (by decide) (hg _ kw_359) (fun _ h9 => h9) rfl dX10_sign_69 ?_
            refine lv_aload_n hx hb dX10_sign_72 rfl (lv_at hl 1 rfl) ?_
            refine va_get (D := D) (ci := 10) (v := .ref a1) (C := RX10) (T := TX10) (N := 20) hx hb hg inGX10 hown hKN.1 hP p42 hk74 rfl 0 (by decide) (hg _ kw_349) (fun _ h9 => h9) rfl dX10_sign_73 ?_
            refine lv_iload_n hx hb dX10_sign_76 rfl (lv_at hl 3 rfl) ?_
            refine lv_iconst (v := 0) hx hb dX10_sign_77 (by decide) ?_
            refine ok9 hT (le71.up h33) (fun p107 a95 a96 a97 x98 y99 y100 x101 y102 hk108 h103 h104 h105 h106 => ?_)
            refine cga (rn_NV (As := [.ref a1, .int p2, .int 0]) (rest := []) (b := a11) (x_X2_see l D Y Z H.size w69 T70 g q 0 a11 a1 p2 0 hT (le71.up h33) (le71.up h21)) ⟨hx, hb, hml, hown, hg⟩ hKN lk_X10_143 ⟨CPC.blind, va_recv hKN.1 hP (ci := 2) (q0 := p107) rfl hk108, CPC.at hP hKN hD hSZ hS hA⟩ ⟨⟨rfl, rfl⟩, ⟨Nat.le_of_ble_eq_true rfl, Nat.le_of_ble_eq_true rfl⟩, ⟨(Nat.le_of_ble_eq_true rfl), (Nat.le_of_ble_eq_true rfl)⟩⟩ hl.1 rfl (Nat.le_of_ble_eq_true rfl) dX10_sign_78) hP hD hS hA (fun u109 H locs hw110 hP hD hS => ?_)
            obtain ⟨hT, ke112, ke113⟩ : TW Y Z T70 g q u109 ∧ KF 1 T70 w69 u109 ∧ KF 6 T70 w69 u109 := hw110
            have hk114 := ke112 _ _ hk74 (show (T70 p0).1 = 1 by rw [(le71.up ht0)])
            have hk115 := ke113 _ _ hk85 (show (T70 b68).1 = 6 by rw [ht73])
            have ke116 : KF 1 T ws u109 := KF.tr ke75 (KF.le (by decide) le71 ke112)
            refine W.eq (g2 := F0 m 81 ls []) rfl ?_
            refine lv_aload_n hx hb dX10_sign_81 rfl (lv_at hl 1 rfl) ?_
            refine va_get (D := D) (ci := 10) (v := .ref a13) (C := RX10) (T := TX10) (N := 20) hx hb hg inGX10 hown hKN.1 hP p42 hk114 rfl 12 (by decide) (hg _ kw_361) (fun _ h9 => h9) rfl dX10_sign_82 ?_
            refine lv_aload_n hx hb dX10_sign_85 rfl (lv_at hl 1 rfl) ?_
            refine va_get (D := D) (ci := 10) (v := .ref a11) (C := RX10) (T := TX10) (N := 20) hx hb hg inGX10 hown hKN.1 hP p42 hk114 rfl 10 (by decide) (hg _ kw_359) (fun _ h9 => h9) rfl dX10_sign_86 ?_
            refine lv_aload hx hb dX10_sign_89 (lv_at hl 0 rfl) ?_
            refine ok11 hT (le71.up h35) (fun p125 a117 a118 a119 a120 hk126 h121 h122 h123 h124 => ?_)
            refine cga (rn_NV (As := [.ref a11, .ref b68]) (rest := []) (b := a13) (x_X5_read l D Y Z H.size u109 T70 g q a13 a11 b68 hT (le71.up h35) (le71.up h33) ht73) ⟨hx, hb, hml, hown, hg⟩ hKN lk_X10_327 ⟨CPC.blind, va_recv hKN.1 hP (ci := 5) (q0 := p125) rfl hk126, CPC.at hP hKN hD hSZ hS hA⟩ ⟨⟨rfl, rfl⟩, ⟨Nat.le_of_ble_eq_true rfl, Nat.le_of_ble_eq_true rfl⟩, ⟨(Nat.le_of_ble_eq_true rfl), (Nat.le_of_ble_eq_true rfl)⟩⟩ hl.1 rfl (Nat.le_of_ble_eq_true rfl) dX10_sign_91) hP hD hS hA (fun u127 H locs hw128 hP hD hS => ?_)
            obtain ⟨hT, ke130, ke131⟩ : TW Y Z T70 g q u127 ∧ KF 1 T70 u109 u127 ∧ KF 6 T70 u109 u127 := hw128
            have hk132 := ke130 _ _ hk114 (show (T70 p0).1 = 1 by rw [(le71.up ht0)])
            have hk133 := ke131 _ _ hk115 (show (T70 b68).1 = 6 by rw [ht73])
            have ke134 : KF 1 T ws u127 := KF.tr ke116 (KF.le (by decide) le71 ke130)
            refine W.eq (g2 := F0 m 94 ls []) rfl ?_
            refine lv_aload_n hx hb dX10_sign_94 rfl (lv_at hl 1 rfl) ?_
            refine va_get (D := D) (ci := 10) (v := .ref a13) (C := RX10) (T := TX10) (N := 20) hx hb hg inGX10 hown hKN.1 hP p42 hk132 rfl 12 (by decide) (hg _ kw_361) (fun _ h9 => h9) rfl dX10_sign_95 ?_
            refine lv_iload_n hx hb dX10_sign_98 rfl (lv_at hl 4 rfl) ?_
            refine ok11 hT (le71.up h35) (fun p143 a135 a136 a137 a138 hk144 h139 h140 h141 h142 => ?_)
            refine cga (rn_NV (As := [.int p3]) (rest := []) (b := a13) (x_X5_part l D Y Z H.size u127 T70 g q a13 p3 hT (le71.up h35)) ⟨hx, hb, hml, hown, hg⟩ hKN lk_X10_330 ⟨CPC.blind, va_recv hKN.1 hP (ci := 5) (q0 := p143) rfl hk144, CPC.at hP hKN hD hSZ hS hA⟩ ⟨⟨rfl, rfl⟩, ⟨Nat.le_of_ble_eq_true rfl, Nat.le_of_ble_eq_true rfl⟩, ⟨(Nat.le_of_ble_eq_true rfl), (Nat.le_of_ble_eq_true rfl)⟩⟩ hl.1 rfl (Nat.le_of_ble_eq_true rfl) dX10_sign_99) hP hD hS hA (fun u145 H locs hw146 hP hD hS => ?_)
            refine W.eq (g2 := F0 m 102 ls [.int u145]) rfl ?_
            refine W.widen (k := 13) (n := 91) (Nat.le_of_ble_eq_true rfl) (Nat.le_of_ble_eq_true rfl) ?_
            exact W.iret (v := u145) hx hb hr (fun t ht hW => ⟨⟨(u145, u127, T70), rfl, ⟨le71, hT, ke134⟩, CB.mk ht hP hD⟩, hS.F ht⟩) hS.2.2 dX10_sign_102
          · skip
            have c94 := i_eq (Eq.refl p3.toInt) (show (4 : Int32).toInt = 4 by decide) c94
            refine lv_aload_n hx hb dX10_sign_53 rfl (lv_at hl 1 rfl) ?_
            refine lv_iload_n hx hb dX10_sign_54 rfl (lv_at hl 2 rfl) ?_
            refine lv_iconst (v := 0) hx hb dX10_sign_55 (by decide) ?_
            refine cga (rn_V (As := [.int p1, .int 0]) (rest := []) (b := p0) (x_X10_findAll l D Y Z H.size w69 T70 g q p0 p1 0 hT (le71.up ht0)) ⟨hx, hb, hml, hown, hg⟩ lk_X10_319 ⟨CPC.blind, va_recv hKN.1 hP (ci := 10) (q0 := p42) rfl hk74, CPC.at hP hKN hD hSZ hS hA⟩ ⟨⟨rfl, rfl⟩, ⟨Nat.le_of_ble_eq_true rfl, Nat.le_of_ble_eq_true rfl⟩, ⟨(Nat.le_of_ble_eq_true rfl), (Nat.le_of_ble_eq_true rfl)⟩⟩ hl.1 rfl (Nat.le_of_ble_eq_true rfl) dX10_sign_56) hP hD hS hA (fun u148 H locs hw149 hP hD hS => ?_)
            refine W.widen (k := 13) (n := 91) (Nat.le_of_ble_eq_true rfl) (Nat.le_of_ble_eq_true rfl) ?_
            obtain ⟨w150, T151⟩ := u148
            obtain ⟨le152, hT, ke153⟩ : TLe T70 T151 ∧ TW Y Z T151 g q w150 ∧ KF 1 T70 w69 w150 := hw149
            have hk154 := ke153 _ _ hk74 (show (T70 p0).1 = 1 by rw [(le71.up ht0)])
            have ke155 : KF 1 T ws w150 := KF.tr ke75 (KF.le (by decide) le71 ke153)
            refine W.eq (g2 := F0 m 59 ls []) rfl ?_
            refine lv_aload_n hx hb dX10_sign_59 rfl (lv_at hl 1 rfl) ?_
            refine lv_iload_n hx hb dX10_sign_60 rfl (lv_at hl 2 rfl) ?_
            refine lv_iload_n hx hb dX10_sign_61 rfl (lv_at hl 3 rfl) ?_
            refine lv_aload hx hb dX10_sign_62 (lv_at hl 0 rfl) ?_
            refine cga (rn_V (As := [.int p1, .int p2, .ref b68]) (rest := []) (b := p0) (x_X10_sameAs l D Y Z H.size w150 T151 g q p0 b68 p1 p2 hT (le152.up (le71.up ht0)) (le152.up ht73)) ⟨hx, hb, hml, hown, hg⟩ lk_X10_323 ⟨CPC.blind, va_recv hKN.1 hP (ci := 10) (q0 := p42) rfl hk154, CPC.at hP hKN hD hSZ hS hA⟩ ⟨⟨rfl, rfl⟩, ⟨Nat.le_of_ble_eq_true rfl, Nat.le_of_ble_eq_true rfl⟩, ⟨(Nat.le_of_ble_eq_true rfl), (Nat.le_of_ble_eq_true rfl)⟩⟩ hl.1 rfl (Nat.le_of_ble_eq_true rfl) dX10_sign_64) hP hD hS hA (fun u156 H locs hw157 hP hD hS => ?_)
            refine W.eq (g2 := F0 m 67 ls [.int u156]) rfl ?_
            refine W.widen (k := 13) (n := 91) (Nat.le_of_ble_eq_true rfl) (Nat.le_of_ble_eq_true rfl) ?_
            exact W.iret (v := u156) hx hb hr (fun t ht hW => ⟨⟨(u156, w150, T151), rfl, ⟨(le71.tr le152), hT, ke155⟩, CB.mk ht hP hD⟩, hS.F ht⟩) hS.2.2 dX10_sign_67
      · obtain rfl : u59 = 0 := i_is c64 (by decide)
        refine W.eq (g2 := F0 m 22 ls [.int 0]) rfl ?_
        refine lv_if_ne (tgt := 28) hx hb dX10_sign_22 (by decide) (fun c159 => ?_) (fun c159 => ?_)
        · exact absurd c159 (by decide)
        refine lv_ldc (v := (-200000)) hx hb hown (hg _ kw_473) dX10_sign_25 ?_
        refine W.widen (k := 13) (n := 91) (Nat.le_of_ble_eq_true rfl) (Nat.le_of_ble_eq_true rfl) ?_
        have zim200000 : ((-200000) : Int32).toInt = -200000 := by decide
        exact W.iret (v := (-200000)) hx hb hr (fun t ht hW => ⟨⟨(((-200000)), ws, T), rfl, ⟨TLe.rf, hT, KF.rf⟩, CB.mk ht hP hD⟩, hS.F ht⟩) hS.2.2 dX10_sign_27
    · obtain rfl : u52 = 0 := i_is c57 (by decide)
      have zi0 : (0 : Int32).toInt = 0 := by decide
      clear hw56
      refine W.eq (g2 := F0 m 13 ls [.int 0]) rfl ?_
      refine lv_if_eq (tgt := 25) hx hb dX10_sign_13 (by decide) (fun c160 => ?_) (fun c160 => ?_)
      rotate_left
      · exact absurd c160 (by decide)
      refine lv_ldc (v := (-200000)) hx hb hown (hg _ kw_473) dX10_sign_25 ?_
      refine W.widen (k := 13) (n := 91) (Nat.le_of_ble_eq_true rfl) (Nat.le_of_ble_eq_true rfl) ?_
      have zim200000 : ((-200000) : Int32).toInt = -200000 := by decide
      exact W.iret (v := (-200000)) hx hb hr (fun t ht hW => ⟨⟨(((-200000)), ws, T), rfl, ⟨TLe.rf, hT, KF.rf⟩, CB.mk ht hP hD⟩, hS.F ht⟩) hS.2.2 dX10_sign_27
