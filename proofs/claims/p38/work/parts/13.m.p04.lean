set_option maxHeartbeats 4000000 in
set_option maxRecDepth 100000 in
theorem m_shift (l : Launch) (D : va_G) (Y : Nat → ClassId) (Z : Nat → Nat) (sz : Nat) (o : Nat) (a : Nat → Nat) (I : Nat → Int32) (J : Nat → Int64) (F : Nat → Nat → Int32) (G : Nat → Nat → Int64) (p1 : Int32) (p2 : Int32) (p3 : Int32) (hk0 : TO (F 0)) (hk1 : LB (F 28)) (hk2 : TX (F 4) (F 9) (F 10) (F 11) (F 12) (F 13)) : Met l yX11_shift (.code yX11_shift cX11_shift 4 (some .int) :: GW) ({ frames := 7, cells := 0, slots := 0, locals := 169 }) (va_Pc [.ref o, .int p1, .int p2, .int p3] (CP D Y Z (MW Y o a I J F G) sz)) (QG (S := Int32 × Int32 × Int32 × Int32 × Int32 × Int64 × Int64 × Int32 × Int64 × Int64 × (Nat → Int32) × (Nat → Int32) × (Nat → Int64) × (Nat → Int32) × (Nat → Int64) × (Nat → Int32)) (fun u => some (.int u.1)) (fun u => LB u.2.2.2.2.2.2.2.2.2.2.2.1) (fun u => CB D (MW Y o a (upd (upd (upd (upd (upd I 29 u.2.2.2.2.2.2.2.1) 34 u.2.1) 35 u.2.2.1) 36 u.2.2.2.1) 39 u.2.2.2.2.1) (vp_updL (vp_updL (vp_updL (vp_updL J 30 u.2.2.2.2.2.2.2.2.1) 31 u.2.2.2.2.2.2.2.2.2.1) 37 u.2.2.2.2.2.1) 38 u.2.2.2.2.2.2.1) (vf_upd (vf_upd (vf_upd (vf_upd F 1 u.2.2.2.2.2.2.2.2.2.2.1) 28 u.2.2.2.2.2.2.2.2.2.2.2.1) 41 u.2.2.2.2.2.2.2.2.2.2.2.2.2.1) 43 u.2.2.2.2.2.2.2.2.2.2.2.2.2.2.2) (vf_upd (vf_upd G 40 u.2.2.2.2.2.2.2.2.2.2.2.2.1) 42 u.2.2.2.2.2.2.2.2.2.2.2.2.2.2.1)) (va_A (MW Y o a I J F G) sz)) (va_A (MW Y o a I J F G) sz)) 0 0 (va_A (MW Y o a I J F G) sz) := by
  refine Met.ofW (cc := cX11_shift) (maxL := 4) (ret := (some .int)) (by decide) rfl ?_
  intro p e s m args below meth c s₁ B hml hv
  obtain ⟨rfl, hsz, hP, hKN, hD0⟩ := hv
  have hx := B.exec
  have hb := B.bytes
  have hr := B.returns
  have hts := atoms_spec (ws := .code yX11_shift cX11_shift 4 (some .int) :: GW) B.pre
  have hg : ∀ w ∈ GW, w.before _ s = true := fun w h => hts w (List.mem_cons_of_mem _ h)
  have hown : s.vm.findClass RX11 = some m.cls := findClass_of_methodNamed B.named
  have hlocks := B.notSynchronized
  subst hsz
  have hD := hD0.self (sz := s.heap.size)
  generalize hAe : va_A (MW Y o a I J F G) s.heap.size = A at hD ⊢
  have hA : ∀ q : Nat, s.heap.size ≤ q → A q := fun q h => by rw [← hAe]; exact Or.inr h
  clear hAe hD0 hts B
  have hl := lv_entry ([.ref o, .int p1, .int p2, .int p3]) (n := 4) (Nat.le_of_ble_eq_true rfl)
  rw [lg_entry_eq]
  generalize (lg_sl ([.ref o, .int p1, .int p2, .int p3]) ++ List.replicate (4 - (lg_sl ([.ref o, .int p1, .int p2, .int p3])).length) Slot.unset).toArray = ls at hl ⊢
  have hl : lv_has ls 4 [(0, .ref o), (1, .int p1), (2, .int p2), (3, .int p3)] := hl
  refine w_start (A0 := A) hP (fun H locs hP hS => ?_)
  refine lv_aload_n hx hb dX11_shift_0 rfl (lv_at hl 0 rfl) ?_
  refine lv_iconst (v := 1) hx hb dX11_shift_1 (by decide) ?_
  refine lv_iload_n hx hb dX11_shift_2 rfl (lv_at hl 1 rfl) ?_
  have zi1 : (1 : Int32).toInt = 1 := by decide
  refine cga (rn_V (As := [.int 1, .int p1]) (rest := []) (b := o) (m_isText1 l D Y Z H.size o a I J F G  p1 hk2) ⟨hx, hb, hml, hown, hg⟩ lk_X11_366 ⟨CP.blind, va_recv hKN.1 hP (ci := 11) (q0 := 0) rfl rfl, CP.at hP hKN hD⟩ ⟨⟨rfl, rfl⟩, ⟨Nat.le_of_ble_eq_true rfl, Nat.le_of_ble_eq_true rfl⟩, ⟨Nat.le_of_ble_eq_true rfl, Nat.le_of_ble_eq_true rfl⟩⟩ hl.1 rfl (Nat.le_of_ble_eq_true rfl) dX11_shift_3) hP hD hS hA (fun u1 H locs w2 hP hD hS => ?_)
  have w2 : ((0 ≤ p1.toInt ∧ p1.toInt ≤ 5 ∧ p1.toInt < ((F 4) 1).toInt ∧ u1.toInt = 1) ∨ u1.toInt = 0) ∧ (0 ≤ u1.toInt ∧ u1.toInt ≤ 1) := w2
  obtain ⟨hw4, hw5⟩ := w2
  refine W.eq (g2 := F0 m 6 ls [.int u1]) rfl ?_
  have hP : va_P D vwCl (MW Y o a I J F G) H := hP
  have hD : va_D A (MW Y o a I J F G) := hD
  rcases (show u1.toInt = 1 ∨ u1.toInt = 0 by omega) with c6 | c6
  · obtain rfl : u1 = 1 := i_is c6 (by decide)
    refine W.eq (g2 := F0 m 6 ls [.int 1]) rfl ?_
    refine lv_if_eq (tgt := 49) hx hb dX11_shift_6 (by decide) (fun c57 => ?_) (fun c57 => ?_)
    · exact absurd c57 (by decide)
    refine lv_aload_n hx hb dX11_shift_9 rfl (lv_at hl 0 rfl) ?_
    refine lv_iload_n hx hb dX11_shift_10 rfl (lv_at hl 2 rfl) ?_
    refine cga (rn_V (As := [.int p2]) (rest := []) (b := o) (m_isStar l D Y Z H.size o a I J F G  p2 hk0) ⟨hx, hb, hml, hown, hg⟩ lk_X11_108 ⟨CP.blind, va_recv hKN.1 hP (ci := 11) (q0 := 0) rfl rfl, CP.at hP hKN hD⟩ ⟨⟨rfl, rfl⟩, ⟨Nat.le_of_ble_eq_true rfl, Nat.le_of_ble_eq_true rfl⟩, ⟨Nat.le_of_ble_eq_true rfl, Nat.le_of_ble_eq_true rfl⟩⟩ hl.1 rfl (Nat.le_of_ble_eq_true rfl) dX11_shift_11) hP hD hS hA (fun u58 H locs w59 hP hD hS => ?_)
    have w59 : ((0 ≤ p2.toInt ∧ p2.toInt ≤ 11 ∧ p2.toInt < ((F 0) 0).toInt ∧ u58.toInt = 1) ∨ (¬ (0 ≤ p2.toInt ∧ p2.toInt < ((F 0) 0).toInt) ∧ u58.toInt = 0)) ∧ (0 ≤ u58.toInt ∧ u58.toInt ≤ 1) := w59
    obtain ⟨hw61, hw62⟩ := w59
    refine W.eq (g2 := F0 m 14 ls [.int u58]) rfl ?_
    have hP : va_P D vwCl (MW Y o a I J F G) H := hP
    have hD : va_D A (MW Y o a I J F G) := hD
    rcases (show u58.toInt = 1 ∨ u58.toInt = 0 by omega) with c63 | c63
    · obtain rfl : u58 = 1 := i_is c63 (by decide)
      refine W.eq (g2 := F0 m 14 ls [.int 1]) rfl ?_
      refine lv_if_eq (tgt := 49) hx hb dX11_shift_14 (by decide) (fun c106 => ?_) (fun c106 => ?_)
      · exact absurd c106 (by decide)
      refine lv_iload_n hx hb dX11_shift_17 rfl (lv_at hl 3 rfl) ?_
      have j107 := rgI p3
      have j108 := Int32.toInt_toInt64 p3
      refine lv_i2l (v := p3.toInt64) hx hb dX11_shift_18 (rfl) ?_
      refine lv_ldc2 (v := (-1)) hx hb hown (hg _ kw_1650) dX11_shift_19 ?_
      refine lv_ldc2 (v := 300) hx hb hown (hg _ kw_1809) dX11_shift_22 ?_
      have zlm1 : ((-1) : Int64).toInt = -1 := by decide
      have zl300 : (300 : Int64).toInt = 300 := by decide
      refine cg0 (rn_S (As := [.long p3.toInt64, .long (-1), .long 300]) (rest := []) (m_in l D Y Z H.size   p3.toInt64 (-1) 300 ) ⟨hx, hb, hml, hown, hg⟩ lk_X11_99 ⟨CP.blind, CP.at nilP hKN (nilD (A := fun _ => True))⟩ ⟨⟨rfl, rfl⟩, ⟨Nat.le_of_ble_eq_true rfl, Nat.le_of_ble_eq_true rfl⟩, ⟨Nat.le_of_ble_eq_true rfl, Nat.le_of_ble_eq_true rfl⟩⟩ hl.1 rfl (Nat.le_of_ble_eq_true rfl) dX11_shift_25) hP hS hA (fun u109 H locs w110 hP hS => ?_)
      have w110 : ((((-1) : Int64).toInt ≤ p3.toInt64.toInt ∧ p3.toInt64.toInt ≤ (300 : Int64).toInt ∧ u109.toInt = 1) ∨ (¬ (((-1) : Int64).toInt ≤ p3.toInt64.toInt ∧ p3.toInt64.toInt ≤ (300 : Int64).toInt) ∧ u109.toInt = 0)) ∧ (0 ≤ u109.toInt ∧ u109.toInt ≤ 1) := w110
      obtain ⟨hw112, hw113⟩ := w110
      refine W.eq (g2 := F0 m 28 ls [.int u109]) rfl ?_
      rcases (show u109.toInt = 1 ∨ u109.toInt = 0 by omega) with c114 | c114
      · obtain rfl : u109 = 1 := i_is c114 (by decide)
        refine W.eq (g2 := F0 m 28 ls [.int 1]) rfl ?_
        refine lv_if_eq (tgt := 49) hx hb dX11_shift_28 (by decide) (fun c147 => ?_) (fun c147 => ?_)
        · exact absurd c147 (by decide)
        refine lv_aload_n hx hb dX11_shift_31 rfl (lv_at hl 0 rfl) ?_
        refine lv_iload_n hx hb dX11_shift_32 rfl (lv_at hl 1 rfl) ?_
        refine lv_iload_n hx hb dX11_shift_33 rfl (lv_at hl 2 rfl) ?_
        refine lv_iconst (v := 0) hx hb dX11_shift_34 (by decide) ?_
        have zi0 : (0 : Int32).toInt = 0 := by decide
        refine cga (rn_V (As := [.int p1, .int p2, .int 0]) (rest := []) (b := o) (m_finds l D Y Z H.size o a I J F G  p1 p2 0 (show (0 ≤ p1.toInt ∧ p1.toInt ≤ 5) by omega) (show (p1.toInt < ((F 4) 1).toInt) by omega) (show (0 ≤ p2.toInt ∧ p2.toInt ≤ 11) by omega) (show (0 ≤ (0 : Int32).toInt ∧ (0 : Int32).toInt ≤ 5) by omega) hk0 hk1 hk2) ⟨hx, hb, hml, hown, hg⟩ lk_X11_487 ⟨CP.blind, va_recv hKN.1 hP (ci := 11) (q0 := 0) rfl rfl, CP.at hP hKN hD⟩ ⟨⟨rfl, rfl⟩, ⟨Nat.le_of_ble_eq_true rfl, Nat.le_of_ble_eq_true rfl⟩, ⟨Nat.le_of_ble_eq_true rfl, Nat.le_of_ble_eq_true rfl⟩⟩ hl.1 rfl (Nat.le_of_ble_eq_true rfl) dX11_shift_35) hP hD hS hA (fun u148 H locs w149 hP hD hS => ?_)
        obtain ⟨u150, u151, u152, u153, u154, u155, u156, u157, u158, u159, f160, f161, f162, f163, f164, f165⟩ := u148
        have w149 : ((u150.toInt = 1 ∧ 1 ≤ u156.toInt ∧ 2 ≤ u151.toInt ∧ u151.toInt ≤ 200 ∧ 1 ≤ u152.toInt ∧ u152.toInt ≤ 10 ∧ 0 ≤ u153.toInt ∧ u153.toInt < u151.toInt ∧ -9000000000000 ≤ u155.toInt ∧ u155.toInt ≤ 9000000000000 ∧ (cin f161 (u151.toInt).toNat (u152.toInt).toNat (u153.toInt).toNat 600 : Int) ≠ u157.toInt) ∨ u150.toInt = 0) ∧ (0 ≤ u150.toInt ∧ u150.toInt ≤ 1) ∧ (0 ≤ u157.toInt ∧ u157.toInt ≤ 600) ∧ (-60000000 ≤ u158.toInt ∧ u158.toInt ≤ 60000000) ∧ (1 ≤ u159.toInt) ∧ LB f161 := w149
        obtain ⟨hw166, hw167, hw168, hw169, hw170, hw171⟩ := w149
        refine W.eq (g2 := F0 m 38 ls [.int u150]) rfl ?_
        have hP : va_P D vwCl (MW Y o a (upd (upd (upd (upd (upd I 29 u157) 34 u151) 35 u152) 36 u153) 39 u154) (vp_updL (vp_updL (vp_updL (vp_updL J 30 u158) 31 u159) 37 u155) 38 u156) (vf_upd (vf_upd (vf_upd (vf_upd F 1 f160) 28 f161) 41 f163) 43 f165) (vf_upd (vf_upd G 40 f162) 42 f164)) H := hP
        have hD : va_D A (MW Y o a (upd (upd (upd (upd (upd I 29 u157) 34 u151) 35 u152) 36 u153) 39 u154) (vp_updL (vp_updL (vp_updL (vp_updL J 30 u158) 31 u159) 37 u155) 38 u156) (vf_upd (vf_upd (vf_upd (vf_upd F 1 f160) 28 f161) 41 f163) 43 f165) (vf_upd (vf_upd G 40 f162) 42 f164)) := hD
        rcases (show u150.toInt = 1 ∨ u150.toInt = 0 by omega) with c172 | c172
        · obtain rfl : u150 = 1 := i_is c172 (by decide)
          refine W.eq (g2 := F0 m 38 ls [.int 1]) rfl ?_
          refine lv_if_eq (tgt := 49) hx hb dX11_shift_38 (by decide) (fun c178 => ?_) (fun c178 => ?_)
          · exact absurd c178 (by decide)
          refine lv_aload_n hx hb dX11_shift_41 rfl (lv_at hl 0 rfl) ?_
          refine lv_iload_n hx hb dX11_shift_42 rfl (lv_at hl 3 rfl) ?_
          refine cga (rn_V (As := [.int p3]) (rest := []) (b := o) (m_shiftOf l D Y Z H.size o a (upd (upd (upd (upd (upd I 29 u157) 34 u151) 35 u152) 36 u153) 39 u154) (vp_updL (vp_updL (vp_updL (vp_updL J 30 u158) 31 u159) 37 u155) 38 u156) (vf_upd (vf_upd (vf_upd (vf_upd F 1 f160) 28 f161) 41 f163) 43 f165) (vf_upd (vf_upd G 40 f162) 42 f164)  p3 (show (2 ≤ u151.toInt ∧ u151.toInt ≤ 200) by omega) (show (1 ≤ u152.toInt ∧ u152.toInt ≤ 10) by omega) (show (0 ≤ u153.toInt ∧ u153.toInt ≤ 199) by omega) (show (u153.toInt < u151.toInt) by omega) (show (-1 ≤ p3.toInt ∧ p3.toInt ≤ 640) by omega)) ⟨hx, hb, hml, hown, hg⟩ lk_X11_526 ⟨CP.blind, va_recv hKN.1 hP (ci := 11) (q0 := 0) rfl rfl, CP.at hP hKN hD⟩ ⟨⟨rfl, rfl⟩, ⟨Nat.le_of_ble_eq_true rfl, Nat.le_of_ble_eq_true rfl⟩, ⟨Nat.le_of_ble_eq_true rfl, Nat.le_of_ble_eq_true rfl⟩⟩ hl.1 rfl (Nat.le_of_ble_eq_true rfl) dX11_shift_43) hP hD hS hA (fun u179 H locs w180 hP hD hS => ?_)
          have w180 : (-100 ≤ u179.toInt ∧ u179.toInt ≤ 3) := w180
          have hw182 := w180
          refine W.eq (g2 := F0 m 46 ls [.int u179]) rfl ?_
          have hP : va_P D vwCl (MW Y o a (upd (upd (upd (upd (upd I 29 u157) 34 u151) 35 u152) 36 u153) 39 u154) (vp_updL (vp_updL (vp_updL (vp_updL J 30 u158) 31 u159) 37 u155) 38 u156) (vf_upd (vf_upd (vf_upd (vf_upd F 1 f160) 28 f161) 41 f163) 43 f165) (vf_upd (vf_upd G 40 f162) 42 f164)) H := hP
          have hD : va_D A (MW Y o a (upd (upd (upd (upd (upd I 29 u157) 34 u151) 35 u152) 36 u153) 39 u154) (vp_updL (vp_updL (vp_updL (vp_updL J 30 u158) 31 u159) 37 u155) 38 u156) (vf_upd (vf_upd (vf_upd (vf_upd F 1 f160) 28 f161) 41 f163) 43 f165) (vf_upd (vf_upd G 40 f162) 42 f164)) := hD
          refine lv_goto (tgt := 52) hx hb dX11_shift_46 (by decide) ?_
          refine W.widen (k := 0) (n := 0) (Nat.le_of_ble_eq_true rfl) (Nat.le_of_ble_eq_true rfl) ?_
          exact W.iret (v := u179) hx hb hr (fun t ht hW => ⟨⟨(u179, u151, u152, u153, u154, u155, u156, u157, u158, u159, f160, f161, f162, f163, f164, f165), rfl, (hw171), CB.mk ht hP hD⟩, hS.F ht⟩) hS.2.2 dX11_shift_52
        · obtain rfl : u150 = 0 := i_is c172 (by decide)
          refine W.eq (g2 := F0 m 38 ls [.int 0]) rfl ?_
          refine lv_if_eq (tgt := 49) hx hb dX11_shift_38 (by decide) (fun c184 => ?_) (fun c184 => ?_)
          rotate_left
          · exact absurd c184 (by decide)
          refine lv_sipush (v := (-200)) hx hb dX11_shift_49 (by decide) ?_
          refine W.widen (k := 0) (n := 0) (Nat.le_of_ble_eq_true rfl) (Nat.le_of_ble_eq_true rfl) ?_
          have zim200 : ((-200) : Int32).toInt = -200 := by decide
          exact W.iret (v := (-200)) hx hb hr (fun t ht hW => ⟨⟨((-200), u151, u152, u153, u154, u155, u156, u157, u158, u159, f160, f161, f162, f163, f164, f165), rfl, (hw171), CB.mk ht hP hD⟩, hS.F ht⟩) hS.2.2 dX11_shift_52
      · obtain rfl : u109 = 0 := i_is c114 (by decide)
        have zi0 : (0 : Int32).toInt = 0 := by decide
        refine W.eq (g2 := F0 m 28 ls [.int 0]) rfl ?_
        refine lv_if_eq (tgt := 49) hx hb dX11_shift_28 (by decide) (fun c186 => ?_) (fun c186 => ?_)
        rotate_left
        · exact absurd c186 (by decide)
        refine lv_sipush (v := (-200)) hx hb dX11_shift_49 (by decide) ?_
        refine W.widen (k := 0) (n := 0) (Nat.le_of_ble_eq_true rfl) (Nat.le_of_ble_eq_true rfl) ?_
        have zim200 : ((-200) : Int32).toInt = -200 := by decide
        exact W.iret (v := (-200)) hx hb hr (fun t ht hW => ⟨⟨((-200), (I 34), (I 35), (I 36), (I 39), (J 37), (J 38), (I 29), (J 30), (J 31), (F 1), (F 28), (G 40), (F 41), (G 42), (F 43)), rfl, (hk1), CB.mk ht hP hD⟩, hS.F ht⟩) hS.2.2 dX11_shift_52
    · obtain rfl : u58 = 0 := i_is c63 (by decide)
      have zi0 : (0 : Int32).toInt = 0 := by decide
      refine W.eq (g2 := F0 m 14 ls [.int 0]) rfl ?_
      refine lv_if_eq (tgt := 49) hx hb dX11_shift_14 (by decide) (fun c188 => ?_) (fun c188 => ?_)
      rotate_left
      · exact absurd c188 (by decide)
      refine lv_sipush (v := (-200)) hx hb dX11_shift_49 (by decide) ?_
      refine W.widen (k := 0) (n := 0) (Nat.le_of_ble_eq_true rfl) (Nat.le_of_ble_eq_true rfl) ?_
      have zim200 : ((-200) : Int32).toInt = -200 := by decide
      exact W.iret (v := (-200)) hx hb hr (fun t ht hW => ⟨⟨((-200), (I 34), (I 35), (I 36), (I 39), (J 37), (J 38), (I 29), (J 30), (J 31), (F 1), (F 28), (G 40), (F 41), (G 42), (F 43)), rfl, (hk1), CB.mk ht hP hD⟩, hS.F ht⟩) hS.2.2 dX11_shift_52
  · obtain rfl : u1 = 0 := i_is c6 (by decide)
    have zi0 : (0 : Int32).toInt = 0 := by decide
    refine W.eq (g2 := F0 m 6 ls [.int 0]) rfl ?_
    refine lv_if_eq (tgt := 49) hx hb dX11_shift_6 (by decide) (fun c190 => ?_) (fun c190 => ?_)
    rotate_left
    · exact absurd c190 (by decide)
    refine lv_sipush (v := (-200)) hx hb dX11_shift_49 (by decide) ?_
    refine W.widen (k := 0) (n := 0) (Nat.le_of_ble_eq_true rfl) (Nat.le_of_ble_eq_true rfl) ?_
    have zim200 : ((-200) : Int32).toInt = -200 := by decide
    exact W.iret (v := (-200)) hx hb hr (fun t ht hW => ⟨⟨((-200), (I 34), (I 35), (I 36), (I 39), (J 37), (J 38), (I 29), (J 30), (J 31), (F 1), (F 28), (G 40), (F 41), (G 42), (F 43)), rfl, (hk1), CB.mk ht hP hD⟩, hS.F ht⟩) hS.2.2 dX11_shift_52
set_option maxHeartbeats 4000000 in
set_option maxRecDepth 100000 in
theorem m_heaviest (l : Launch) (D : va_G) (Y : Nat → ClassId) (Z : Nat → Nat) (sz : Nat) (o : Nat) (a : Nat → Nat) (I : Nat → Int32) (J : Nat → Int64) (F : Nat → Nat → Int32) (G : Nat → Nat → Int64) : Met l yX11_heaviest (.code yX11_heaviest cX11_heaviest 3 (some .int) :: GW) ({ frames := 0, cells := 0, slots := 0, locals := 0 }) (va_Pc [.ref o] (CP D Y Z (MW Y o a I J F G) sz)) (QG (S := Int32) (fun u => some (.int u)) (fun u => True) (fun u => CB D (MW Y o a I J F G) (va_A (MW Y o a I J F G) sz)) (va_A (MW Y o a I J F G) sz)) 0 0 (va_A (MW Y o a I J F G) sz) := by
  refine Met.ofW (cc := cX11_heaviest) (maxL := 3) (ret := (some .int)) (by decide) rfl ?_
  intro p e s m args below meth c s₁ B hml hv
  obtain ⟨rfl, hsz, hP, hKN, hD0⟩ := hv
  have hx := B.exec
  have hb := B.bytes
  have hr := B.returns
  have hts := atoms_spec (ws := .code yX11_heaviest cX11_heaviest 3 (some .int) :: GW) B.pre
  have hg : ∀ w ∈ GW, w.before _ s = true := fun w h => hts w (List.mem_cons_of_mem _ h)
  have hown : s.vm.findClass RX11 = some m.cls := findClass_of_methodNamed B.named
  have hlocks := B.notSynchronized
  subst hsz
  have hD := hD0.self (sz := s.heap.size)
  generalize hAe : va_A (MW Y o a I J F G) s.heap.size = A at hD ⊢
  have hA : ∀ q : Nat, s.heap.size ≤ q → A q := fun q h => by rw [← hAe]; exact Or.inr h
  clear hAe hD0 hts B
  have hl := lv_entry ([.ref o]) (n := 3) (Nat.le_of_ble_eq_true rfl)
  rw [lg_entry_eq]
  generalize (lg_sl ([.ref o]) ++ List.replicate (3 - (lg_sl ([.ref o])).length) Slot.unset).toArray = ls at hl ⊢
  have hl : lv_has ls 3 [(0, .ref o)] := hl
  refine w_start (A0 := A) hP (fun H locs hP hS => ?_)
  refine lv_iconst (v := 0) hx hb dX11_heaviest_0 (by decide) ?_
  refine lv_istore_n (lv' := [(1, .int 0), (0, .ref o)]) hx hb dX11_heaviest_1 rfl hl (by decide) rfl (fun ls hl => ?_)
  refine lv_iconst (v := 1) hx hb dX11_heaviest_2 (by decide) ?_
  refine lv_istore_n (lv' := [(2, .int 1), (1, .int 0), (0, .ref o)]) hx hb dX11_heaviest_3 rfl hl (by decide) rfl (fun ls hl => ?_)
  have zi1 : (1 : Int32).toInt = 1 := by decide
  have zi0 : (0 : Int32).toInt = 0 := by decide
  refine w_loop (σ := Int32 × Int32) (fun xx H locs ls => match xx with | (g19, g20) => va_P D vwCl (MW Y o a I J F G) H ∧ va_D A (MW Y o a I J F G) ∧ va_S A s.heap H locs ∧ lv_has ls 3 [(2, .int g19), (1, .int g20), (0, .ref o)] ∧ (1 ≤ g19.toInt ∧ g19.toInt ≤ 5) ∧ (0 ≤ g20.toInt ∧ g20.toInt ≤ 4)) (fun xx => match xx with | (g19, g20) => (5 - g19.toInt).toNat) (1, 0) ⟨hP, hD, hS, lv_sub hl [0, 1, 2] rfl, by omega, by omega⟩ (fun xx H locs ls hI ih => ?_)
  obtain ⟨g19, g20⟩ := xx
  obtain ⟨hP, hD, hS, hl, hq47, hq48⟩ := hI
  have ih49 := ih
  refine lv_iload_n hx hb dX11_heaviest_4 rfl (lv_at hl 0 rfl) ?_
  refine lv_iconst (v := 5) hx hb dX11_heaviest_5 (by decide) ?_
  refine lv_icmp_ge (tgt := 36) hx hb dX11_heaviest_6 (by decide) (fun c63 => ?_) (fun c63 => ?_)
  · skip
    have c63 := i_le (show (5 : Int32).toInt = 5 by decide) (Eq.refl g19.toInt) c63
    refine lv_aload_n hx hb dX11_heaviest_36 rfl (lv_at hl 2 rfl) ?_
    refine va_get (D := D) (ci := 11) (v := .ref (a 46)) (C := RX11) (T := TX11) (N := 49) hx hb hg inGX11 hown hKN.1 hP 0 rfl rfl 46 (by decide) (hg _ kw_1254) (fun _ h9 => h9) rfl dX11_heaviest_37 ?_
    refine lv_iload_n hx hb dX11_heaviest_40 rfl (lv_at hl 1 rfl) ?_
    refine va_iald hx hb hKN.1 hP 26 0 rfl rfl (vp_in_iff.mpr ⟨by omega, by omega⟩) dX11_heaviest_41 ?_
    refine lv_topi (fun v64 ev64 => ?_)
    have ev64 : v64 = (F 46) g20.toNatClampNeg := ev64
    have j67 := rgI v64
    refine lv_if_ne (tgt := 50) hx hb dX11_heaviest_42 (by decide) (fun c68 => ?_) (fun c68 => ?_)
    · skip
      have c68 := i_ne (Eq.refl v64.toInt) (show (0 : Int32).toInt = 0 by decide) c68
      refine lv_iload_n hx hb dX11_heaviest_50 rfl (lv_at hl 1 rfl) ?_
      refine W.widen (k := 0) (n := 0) (Nat.le_of_ble_eq_true rfl) (Nat.le_of_ble_eq_true rfl) ?_
      exact W.iret (v := g20) hx hb hr (fun t ht hW => ⟨⟨g20, rfl, trivial, CB.mk ht hP hD⟩, hS.F ht⟩) hS.2.2 dX11_heaviest_51
    · skip
      have c68 := i_eq (Eq.refl v64.toInt) (show (0 : Int32).toInt = 0 by decide) c68
      refine lv_bipush (v := (-2)) hx hb dX11_heaviest_45 (by decide) ?_
      refine lv_goto (tgt := 51) hx hb dX11_heaviest_47 (by decide) ?_
      refine W.widen (k := 0) (n := 0) (Nat.le_of_ble_eq_true rfl) (Nat.le_of_ble_eq_true rfl) ?_
      have zim2 : ((-2) : Int32).toInt = -2 := by decide
      exact W.iret (v := (-2)) hx hb hr (fun t ht hW => ⟨⟨(-2), rfl, trivial, CB.mk ht hP hD⟩, hS.F ht⟩) hS.2.2 dX11_heaviest_51
  · skip
    have c63 := i_nle (show (5 : Int32).toInt = 5 by decide) (Eq.refl g19.toInt) c63
    refine lv_aload_n hx hb dX11_heaviest_9 rfl (lv_at hl 2 rfl) ?_
    refine va_get (D := D) (ci := 11) (v := .ref (a 46)) (C := RX11) (T := TX11) (N := 49) hx hb hg inGX11 hown hKN.1 hP 0 rfl rfl 46 (by decide) (hg _ kw_1254) (fun _ h9 => h9) rfl dX11_heaviest_10 ?_
    refine lv_iload_n hx hb dX11_heaviest_13 rfl (lv_at hl 0 rfl) ?_
    refine va_iald hx hb hKN.1 hP 26 0 rfl rfl (vp_in_iff.mpr ⟨by omega, by omega⟩) dX11_heaviest_14 ?_
    refine lv_topi (fun v69 ev69 => ?_)
    have ev69 : v69 = (F 46) g19.toNatClampNeg := ev69
    refine lv_aload_n hx hb dX11_heaviest_15 rfl (lv_at hl 2 rfl) ?_
    refine va_get (D := D) (ci := 11) (v := .ref (a 46)) (C := RX11) (T := TX11) (N := 49) hx hb hg inGX11 hown hKN.1 hP 0 rfl rfl 46 (by decide) (hg _ kw_1254) (fun _ h9 => h9) rfl dX11_heaviest_16 ?_
    refine lv_iload_n hx hb dX11_heaviest_19 rfl (lv_at hl 1 rfl) ?_
    refine va_iald hx hb hKN.1 hP 26 0 rfl rfl (vp_in_iff.mpr ⟨by omega, by omega⟩) dX11_heaviest_20 ?_
    refine lv_topi (fun v70 ev70 => ?_)
    have ev70 : v70 = (F 46) g20.toNatClampNeg := ev70
    refine w_join (σ := Int32) (pcJ := 29) (kJ := 0) (nJ := 0) (stk := fun xx => match xx with | g74 => [.int g74]) (fun xx H locs ls => match xx with | g74 => va_P D vwCl (MW Y o a I J F G) H ∧ va_D A (MW Y o a I J F G) ∧ va_S A s.heap H locs ∧ lv_has ls 3 [(2, .int g19), (1, .int g20), (0, .ref o)] ∧ (0 ≤ g74.toInt ∧ g74.toInt ≤ 4)) (fun xx H locs ls hI => ?_) (fun jn75 => ?_)
    · skip
      revert hI
      generalize xx = g74
      intro hI
      obtain ⟨hP, hD, hS, hl, hq76⟩ := hI
      refine W.eq (g2 := F0 m 29 ls [.int g74]) rfl ?_
      refine lv_istore_n (lv' := [(1, .int g74), (2, .int g19), (0, .ref o)]) hx hb dX11_heaviest_29 rfl hl (by decide) rfl (fun ls hl => ?_)
      obtain ⟨v77, ev77⟩ : ∃ y : Int32, y = g19 + 1 := ⟨_, rfl⟩
      have hv77 := i_add (Eq.refl g19.toInt) (show (1 : Int32).toInt = 1 by decide) ev77 (by omega) (by omega)
      refine lv_iinc (v := v77) (lv' := [(2, .int v77), (1, .int g74), (0, .ref o)]) hx hb dX11_heaviest_30 hl (k := 1) rfl (by rw [ev77]; rfl) (by decide) rfl (fun ls hl => ?_)
      refine lv_goto (tgt := 4) hx hb dX11_heaviest_33 (by decide) ?_
      exact ih49 (v77, g74) H locs ls (by show (5 - v77.toInt).toNat < (5 - g19.toInt).toNat; omega) ⟨hP, hD, hS, lv_sub hl [0, 1, 2] rfl, by omega, by omega⟩
    · skip
      have j78 := rgI v69
      have j79 := rgI v70
      refine lv_icmp_le (tgt := 28) hx hb dX11_heaviest_21 (by decide) (fun c80 => ?_) (fun c80 => ?_)
      · skip
        have c80 := i_le (Eq.refl v69.toInt) (Eq.refl v70.toInt) c80
        refine lv_iload_n hx hb dX11_heaviest_28 rfl (lv_at hl 1 rfl) ?_
        refine W.widen (k := 0) (n := 0) (Nat.le_of_ble_eq_true rfl) (Nat.le_of_ble_eq_true rfl) ?_
        exact jn75 (g20) H locs ls ⟨hP, hD, hS, lv_sub hl [0, 1, 2] rfl, by omega⟩
      · skip
        have c80 := i_nle (Eq.refl v69.toInt) (Eq.refl v70.toInt) c80
        refine lv_iload_n hx hb dX11_heaviest_24 rfl (lv_at hl 0 rfl) ?_
        refine lv_goto (tgt := 29) hx hb dX11_heaviest_25 (by decide) ?_
        refine W.widen (k := 0) (n := 0) (Nat.le_of_ble_eq_true rfl) (Nat.le_of_ble_eq_true rfl) ?_
        exact jn75 (g19) H locs ls ⟨hP, hD, hS, lv_sub hl [0, 1, 2] rfl, by omega⟩
set_option maxHeartbeats 4000000 in
set_option maxRecDepth 100000 in
theorem m_scoreTried (l : Launch) (D : va_G) (Y : Nat → ClassId) (Z : Nat → Nat) (sz : Nat) (o : Nat) (a : Nat → Nat) (I : Nat → Int32) (J : Nat → Int64) (F : Nat → Nat → Int32) (G : Nat → Nat → Int64) (p1 : Int32) (p2 : Int32) (p3 : Int32) (hk_0 : (0 ≤ (I 29).toInt ∧ (I 29).toInt ≤ 600)) (hk_1 : (1 ≤ p1.toInt ∧ p1.toInt ≤ 400)) (hk_2 : (0 ≤ p3.toInt ∧ p3.toInt ≤ 400)) (hk_3 : (p3.toInt ≤ p1.toInt)) (hk_4 : (1 ≤ (J 31).toInt)) : Met l yX11_scoreTried (.code yX11_scoreTried cX11_scoreTried 4 (some .long) :: GW) ({ frames := 3, cells := 0, slots := 0, locals := 68 }) (va_Pc [.ref o, .int p1, .int p2, .int p3] (CP D Y Z (MW Y o a I J F G) sz)) (QG (S := Int64 × Int32 × Int64) (fun u => some (.long u.1)) (fun u => True) (fun u => CB D (MW Y o a (upd I 32 u.2.1) (vp_updL J 33 u.2.2) F G) (va_A (MW Y o a I J F G) sz)) (va_A (MW Y o a I J F G) sz)) 0 0 (va_A (MW Y o a I J F G) sz) := by
  refine Met.ofW (cc := cX11_scoreTried) (maxL := 4) (ret := (some .long)) (by decide) rfl ?_
  intro p e s m args below meth c s₁ B hml hv
  obtain ⟨rfl, hsz, hP, hKN, hD0⟩ := hv
  have hx := B.exec
  have hb := B.bytes
  have hr := B.returns
  have hts := atoms_spec (ws := .code yX11_scoreTried cX11_scoreTried 4 (some .long) :: GW) B.pre
  have hg : ∀ w ∈ GW, w.before _ s = true := fun w h => hts w (List.mem_cons_of_mem _ h)
  have hown : s.vm.findClass RX11 = some m.cls := findClass_of_methodNamed B.named
  have hlocks := B.notSynchronized
  subst hsz
  have hD := hD0.self (sz := s.heap.size)
  generalize hAe : va_A (MW Y o a I J F G) s.heap.size = A at hD ⊢
  have hA : ∀ q : Nat, s.heap.size ≤ q → A q := fun q h => by rw [← hAe]; exact Or.inr h
  clear hAe hD0 hts B
  have hl := lv_entry ([.ref o, .int p1, .int p2, .int p3]) (n := 4) (Nat.le_of_ble_eq_true rfl)
  rw [lg_entry_eq]
  generalize (lg_sl ([.ref o, .int p1, .int p2, .int p3]) ++ List.replicate (4 - (lg_sl ([.ref o, .int p1, .int p2, .int p3])).length) Slot.unset).toArray = ls at hl ⊢
  have hl : lv_has ls 4 [(0, .ref o), (1, .int p1), (2, .int p2), (3, .int p3)] := hl
  refine w_start (A0 := A) hP (fun H locs hP hS => ?_)
  refine lv_aload_n hx hb dX11_scoreTried_0 rfl (lv_at hl 0 rfl) ?_
  refine lv_iload_n hx hb dX11_scoreTried_1 rfl (lv_at hl 1 rfl) ?_
  refine lv_iload_n hx hb dX11_scoreTried_2 rfl (lv_at hl 2 rfl) ?_
  refine lv_iload_n hx hb dX11_scoreTried_3 rfl (lv_at hl 3 rfl) ?_
  refine cga (rn_V (As := [.int p1, .int p2, .int p3]) (rest := []) (b := o) (m_takesIn l D Y Z H.size o a I J F G  p1 p2 p3 (show (1 ≤ p1.toInt ∧ p1.toInt ≤ 400) by omega) (show (0 ≤ p3.toInt ∧ p3.toInt ≤ 400) by omega) (show (p3.toInt ≤ p1.toInt) by omega)) ⟨hx, hb, hml, hown, hg⟩ lk_X11_426 ⟨CP.blind, va_recv hKN.1 hP (ci := 11) (q0 := 0) rfl rfl, CP.at hP hKN hD⟩ ⟨⟨rfl, rfl⟩, ⟨Nat.le_of_ble_eq_true rfl, Nat.le_of_ble_eq_true rfl⟩, ⟨Nat.le_of_ble_eq_true rfl, Nat.le_of_ble_eq_true rfl⟩⟩ hl.1 rfl (Nat.le_of_ble_eq_true rfl) dX11_scoreTried_4) hP hD hS hA (fun u1 H locs w2 hP hD hS => ?_)
  obtain ⟨u3, u4⟩ := u1
  have w2 : (0 ≤ u3.toInt ∧ u3.toInt ≤ 600) := w2
  have hw5 := w2
  refine W.eq (g2 := F0 m 7 ls []) rfl ?_
  have hP : va_P D vwCl (MW Y o a (upd I 32 u3) (vp_updL J 33 u4) F G) H := hP
  have hD : va_D A (MW Y o a (upd I 32 u3) (vp_updL J 33 u4) F G) := hD
  refine lv_aload_n hx hb dX11_scoreTried_7 rfl (lv_at hl 0 rfl) ?_
  refine va_get (D := D) (ci := 11) (v := .int u3) (C := RX11) (T := TX11) (N := 49) hx hb hg inGX11 hown hKN.1 hP 0 rfl rfl 32 (by decide) (hg _ kw_1240) (fun _ h9 => h9) rfl dX11_scoreTried_8 ?_
  refine lv_if_eq (tgt := 25) hx hb dX11_scoreTried_11 (by decide) (fun c6 => ?_) (fun c6 => ?_)
  · skip
    have c6 := i_eq (Eq.refl u3.toInt) (show (0 : Int32).toInt = 0 by decide) c6
    refine lv_lconst (v := 0) hx hb dX11_scoreTried_25 (by decide) ?_
    refine W.widen (k := 0) (n := 0) (Nat.le_of_ble_eq_true rfl) (Nat.le_of_ble_eq_true rfl) ?_
    have zl0 : (0 : Int64).toInt = 0 := by decide
    exact W.lret (v := 0) hx hb hr (fun t ht hW => ⟨⟨(0, u3, u4), rfl, trivial, CB.mk ht hP hD⟩, hS.F ht⟩) hS.2.2 dX11_scoreTried_26
  · skip
    have c6 := i_ne (Eq.refl u3.toInt) (show (0 : Int32).toInt = 0 by decide) c6
    refine lv_aload_n hx hb dX11_scoreTried_14 rfl (lv_at hl 0 rfl) ?_
    refine va_get (D := D) (ci := 11) (v := .int u3) (C := RX11) (T := TX11) (N := 49) hx hb hg inGX11 hown hKN.1 hP 0 rfl rfl 32 (by decide) (hg _ kw_1240) (fun _ h9 => h9) rfl dX11_scoreTried_15 ?_
    refine lv_aload_n hx hb dX11_scoreTried_18 rfl (lv_at hl 0 rfl) ?_
    refine va_get (D := D) (ci := 11) (v := .int (I 29)) (C := RX11) (T := TX11) (N := 49) hx hb hg inGX11 hown hKN.1 hP 0 rfl rfl 29 (by decide) (hg _ kw_1237) (fun _ h9 => h9) rfl dX11_scoreTried_19 ?_
    refine lv_icmp_ne (tgt := 27) hx hb dX11_scoreTried_22 (by decide) (fun c7 => ?_) (fun c7 => ?_)
    · skip
      have c7 := i_ne (Eq.refl u3.toInt) (Eq.refl (I 29).toInt) c7
      refine lv_aload_n hx hb dX11_scoreTried_27 rfl (lv_at hl 0 rfl) ?_
      refine lv_aload_n hx hb dX11_scoreTried_28 rfl (lv_at hl 0 rfl) ?_
      refine lv_aload_n hx hb dX11_scoreTried_29 rfl (lv_at hl 0 rfl) ?_
      refine va_get (D := D) (ci := 11) (v := .long (J 30)) (C := RX11) (T := TX11) (N := 49) hx hb hg inGX11 hown hKN.1 hP 0 rfl rfl 30 (by decide) (hg _ kw_1238) (fun _ h9 => h9) rfl dX11_scoreTried_30 ?_
      refine lv_aload_n hx hb dX11_scoreTried_33 rfl (lv_at hl 0 rfl) ?_
      refine va_get (D := D) (ci := 11) (v := .long u4) (C := RX11) (T := TX11) (N := 49) hx hb hg inGX11 hown hKN.1 hP 0 rfl rfl 33 (by decide) (hg _ kw_1241) (fun _ h9 => h9) rfl dX11_scoreTried_34 ?_
      refine lv_lsub hx hb dX11_scoreTried_37 ?_
      refine lv_topl (fun v8 ev8 => ?_)
      refine lv_aload_n hx hb dX11_scoreTried_38 rfl (lv_at hl 0 rfl) ?_
      refine va_get (D := D) (ci := 11) (v := .int (I 29)) (C := RX11) (T := TX11) (N := 49) hx hb hg inGX11 hown hKN.1 hP 0 rfl rfl 29 (by decide) (hg _ kw_1237) (fun _ h9 => h9) rfl dX11_scoreTried_39 ?_
      refine lv_aload_n hx hb dX11_scoreTried_42 rfl (lv_at hl 0 rfl) ?_
      refine va_get (D := D) (ci := 11) (v := .int u3) (C := RX11) (T := TX11) (N := 49) hx hb hg inGX11 hown hKN.1 hP 0 rfl rfl 32 (by decide) (hg _ kw_1240) (fun _ h9 => h9) rfl dX11_scoreTried_43 ?_
      refine lv_isub hx hb dX11_scoreTried_46 ?_
      refine lv_topi (fun v9 ev9 => ?_)
      have hv9 := i_sub (Eq.refl (I 29).toInt) (Eq.refl u3.toInt) ev9 (by omega) (by omega)
      refine lv_aload_n hx hb dX11_scoreTried_47 rfl (lv_at hl 0 rfl) ?_
      refine va_get (D := D) (ci := 11) (v := .long u4) (C := RX11) (T := TX11) (N := 49) hx hb hg inGX11 hown hKN.1 hP 0 rfl rfl 33 (by decide) (hg _ kw_1241) (fun _ h9 => h9) rfl dX11_scoreTried_48 ?_
      refine lv_aload_n hx hb dX11_scoreTried_51 rfl (lv_at hl 0 rfl) ?_
      refine va_get (D := D) (ci := 11) (v := .int u3) (C := RX11) (T := TX11) (N := 49) hx hb hg inGX11 hown hKN.1 hP 0 rfl rfl 32 (by decide) (hg _ kw_1240) (fun _ h9 => h9) rfl dX11_scoreTried_52 ?_
      refine cga (rn_V (As := [.long v8, .int v9, .long u4, .int u3]) (rest := [.ref o]) (b := o) (m_deepBy l D Y Z H.size o a (upd I 32 u3) (vp_updL J 33 u4) F G  v8 v9 u4 u3 (show (v9.toInt ≠ 0) by omega) (show (u3.toInt ≠ 0) by omega)) ⟨hx, hb, hml, hown, hg⟩ lk_X11_441 ⟨CP.blind, va_recv hKN.1 hP (ci := 11) (q0 := 0) rfl rfl, CP.at hP hKN hD⟩ ⟨⟨rfl, rfl⟩, ⟨Nat.le_of_ble_eq_true rfl, Nat.le_of_ble_eq_true rfl⟩, ⟨Nat.le_of_ble_eq_true rfl, Nat.le_of_ble_eq_true rfl⟩⟩ hl.1 rfl (Nat.le_of_ble_eq_true rfl) dX11_scoreTried_55) hP hD hS hA (fun u10 H locs w11 hP hD hS => ?_)
      refine W.eq (g2 := F0 m 58 ls [.long u10, .ref o]) rfl ?_
      have hP : va_P D vwCl (MW Y o a (upd I 32 u3) (vp_updL J 33 u4) F G) H := hP
      have hD : va_D A (MW Y o a (upd I 32 u3) (vp_updL J 33 u4) F G) := hD
      refine lv_aload_n hx hb dX11_scoreTried_58 rfl (lv_at hl 0 rfl) ?_
      refine va_get (D := D) (ci := 11) (v := .int u3) (C := RX11) (T := TX11) (N := 49) hx hb hg inGX11 hown hKN.1 hP 0 rfl rfl 32 (by decide) (hg _ kw_1240) (fun _ h9 => h9) rfl dX11_scoreTried_59 ?_
      refine cga (rn_V (As := [.long u10, .int u3]) (rest := []) (b := o) (m_scoreOf l D Y Z H.size o a (upd I 32 u3) (vp_updL J 33 u4) F G  u10 u3 (show (1 ≤ (J 31).toInt) by omega)) ⟨hx, hb, hml, hown, hg⟩ lk_X11_451 ⟨CP.blind, va_recv hKN.1 hP (ci := 11) (q0 := 0) rfl rfl, CP.at hP hKN hD⟩ ⟨⟨rfl, rfl⟩, ⟨Nat.le_of_ble_eq_true rfl, Nat.le_of_ble_eq_true rfl⟩, ⟨Nat.le_of_ble_eq_true rfl, Nat.le_of_ble_eq_true rfl⟩⟩ hl.1 rfl (Nat.le_of_ble_eq_true rfl) dX11_scoreTried_62) hP hD hS hA (fun u13 H locs w14 hP hD hS => ?_)
      refine W.eq (g2 := F0 m 65 ls [.long u13]) rfl ?_
      have hP : va_P D vwCl (MW Y o a (upd I 32 u3) (vp_updL J 33 u4) F G) H := hP
      have hD : va_D A (MW Y o a (upd I 32 u3) (vp_updL J 33 u4) F G) := hD
      refine W.widen (k := 0) (n := 0) (Nat.le_of_ble_eq_true rfl) (Nat.le_of_ble_eq_true rfl) ?_
      exact W.lret (v := u13) hx hb hr (fun t ht hW => ⟨⟨(u13, u3, u4), rfl, trivial, CB.mk ht hP hD⟩, hS.F ht⟩) hS.2.2 dX11_scoreTried_65
    · skip
      have c7 := i_eq (Eq.refl u3.toInt) (Eq.refl (I 29).toInt) c7
      refine lv_lconst (v := 0) hx hb dX11_scoreTried_25 (by decide) ?_
      refine W.widen (k := 0) (n := 0) (Nat.le_of_ble_eq_true rfl) (Nat.le_of_ble_eq_true rfl) ?_
      have zl0 : (0 : Int64).toInt = 0 := by decide
      exact W.lret (v := 0) hx hb hr (fun t ht hW => ⟨⟨(0, u3, u4), rfl, trivial, CB.mk ht hP hD⟩, hS.F ht⟩) hS.2.2 dX11_scoreTried_26
set_option maxHeartbeats 4000000 in
set_option maxRecDepth 100000 in
theorem m_tried (l : Launch) (D : va_G) (Y : Nat → ClassId) (Z : Nat → Nat) (sz : Nat) (o : Nat) (a : Nat → Nat) (I : Nat → Int32) (J : Nat → Int64) (F : Nat → Nat → Int32) (G : Nat → Nat → Int64) (p1 : Int32) (p2 : Int32) (p3 : Int32) (p4 : Int32) (p5 : Int32) (p6 : Int32) (hk0 : TO (F 0)) (hk1 : LB (F 28)) : Met l yX11_tried (.code yX11_tried cX11_tried 7 (some .long) :: GW) ({ frames := 4, cells := 0, slots := 0, locals := 100 }) (va_Pc [.ref o, .int p1, .int p2, .int p3, .int p4, .int p5, .int p6] (CP D Y Z (MW Y o a I J F G) sz)) (QG (S := Int64 × Int32 × Int64 × Int64 × Int32 × Int64 × (Nat → Int32) × (Nat → Int32)) (fun u => some (.long u.1)) (fun u => LB u.2.2.2.2.2.2.2) (fun u => CB D (MW Y o a (upd (upd I 29 u.2.1) 32 u.2.2.2.2.1) (vp_updL (vp_updL (vp_updL J 30 u.2.2.1) 31 u.2.2.2.1) 33 u.2.2.2.2.2.1) (vf_upd (vf_upd F 1 u.2.2.2.2.2.2.1) 28 u.2.2.2.2.2.2.2) G) (va_A (MW Y o a I J F G) sz)) (va_A (MW Y o a I J F G) sz)) 0 0 (va_A (MW Y o a I J F G) sz) := by
  refine Met.ofW (cc := cX11_tried) (maxL := 7) (ret := (some .long)) (by decide) rfl ?_
  intro p e s m args below meth c s₁ B hml hv
  obtain ⟨rfl, hsz, hP, hKN, hD0⟩ := hv
  have hx := B.exec
  have hb := B.bytes
  have hr := B.returns
  have hts := atoms_spec (ws := .code yX11_tried cX11_tried 7 (some .long) :: GW) B.pre
  have hg : ∀ w ∈ GW, w.before _ s = true := fun w h => hts w (List.mem_cons_of_mem _ h)
  have hown : s.vm.findClass RX11 = some m.cls := findClass_of_methodNamed B.named
  have hlocks := B.notSynchronized
  subst hsz
  have hD := hD0.self (sz := s.heap.size)
  generalize hAe : va_A (MW Y o a I J F G) s.heap.size = A at hD ⊢
  have hA : ∀ q : Nat, s.heap.size ≤ q → A q := fun q h => by rw [← hAe]; exact Or.inr h
  clear hAe hD0 hts B
  have hl := lv_entry ([.ref o, .int p1, .int p2, .int p3, .int p4, .int p5, .int p6]) (n := 7) (Nat.le_of_ble_eq_true rfl)
  rw [lg_entry_eq]
  generalize (lg_sl ([.ref o, .int p1, .int p2, .int p3, .int p4, .int p5, .int p6]) ++ List.replicate (7 - (lg_sl ([.ref o, .int p1, .int p2, .int p3, .int p4, .int p5, .int p6])).length) Slot.unset).toArray = ls at hl ⊢
  have hl : lv_has ls 7 [(0, .ref o), (1, .int p1), (2, .int p2), (3, .int p3), (4, .int p4), (5, .int p5), (6, .int p6)] := hl
  refine w_start (A0 := A) hP (fun H locs hP hS => ?_)
  refine lv_aload_n hx hb dX11_tried_0 rfl (lv_at hl 0 rfl) ?_
  refine lv_iload_n hx hb dX11_tried_1 rfl (lv_at hl 1 rfl) ?_
  refine cga (rn_V (As := [.int p1]) (rest := []) (b := o) (m_isStar l D Y Z H.size o a I J F G  p1 hk0) ⟨hx, hb, hml, hown, hg⟩ lk_X11_108 ⟨CP.blind, va_recv hKN.1 hP (ci := 11) (q0 := 0) rfl rfl, CP.at hP hKN hD⟩ ⟨⟨rfl, rfl⟩, ⟨Nat.le_of_ble_eq_true rfl, Nat.le_of_ble_eq_true rfl⟩, ⟨Nat.le_of_ble_eq_true rfl, Nat.le_of_ble_eq_true rfl⟩⟩ hl.1 rfl (Nat.le_of_ble_eq_true rfl) dX11_tried_2) hP hD hS hA (fun u1 H locs w2 hP hD hS => ?_)
  have w2 : ((0 ≤ p1.toInt ∧ p1.toInt ≤ 11 ∧ p1.toInt < ((F 0) 0).toInt ∧ u1.toInt = 1) ∨ (¬ (0 ≤ p1.toInt ∧ p1.toInt < ((F 0) 0).toInt) ∧ u1.toInt = 0)) ∧ (0 ≤ u1.toInt ∧ u1.toInt ≤ 1) := w2
  obtain ⟨hw4, hw5⟩ := w2
  refine W.eq (g2 := F0 m 5 ls [.int u1]) rfl ?_
  have hP : va_P D vwCl (MW Y o a I J F G) H := hP
  have hD : va_D A (MW Y o a I J F G) := hD
  rcases (show u1.toInt = 1 ∨ u1.toInt = 0 by omega) with c6 | c6
  · obtain rfl : u1 = 1 := i_is c6 (by decide)
    have zi1 : (1 : Int32).toInt = 1 := by decide
    refine W.eq (g2 := F0 m 5 ls [.int 1]) rfl ?_
    refine lv_if_eq (tgt := 80) hx hb dX11_tried_5 (by decide) (fun c7 => ?_) (fun c7 => ?_)
    · exact absurd c7 (by decide)
    refine lv_iload_n hx hb dX11_tried_8 rfl (lv_at hl 2 rfl) ?_
    have j8 := rgI p2
    have j9 := Int32.toInt_toInt64 p2
    refine lv_i2l (v := p2.toInt64) hx hb dX11_tried_9 (rfl) ?_
    refine lv_lconst (v := 0) hx hb dX11_tried_10 (by decide) ?_
    refine lv_ldc2 (v := 5) hx hb hown (hg _ kw_1409) dX11_tried_11 ?_
    have zl0 : (0 : Int64).toInt = 0 := by decide
    have zl5 : (5 : Int64).toInt = 5 := by decide
    refine cg0 (rn_S (As := [.long p2.toInt64, .long 0, .long 5]) (rest := []) (m_in l D Y Z H.size   p2.toInt64 0 5 ) ⟨hx, hb, hml, hown, hg⟩ lk_X11_99 ⟨CP.blind, CP.at nilP hKN (nilD (A := fun _ => True))⟩ ⟨⟨rfl, rfl⟩, ⟨Nat.le_of_ble_eq_true rfl, Nat.le_of_ble_eq_true rfl⟩, ⟨Nat.le_of_ble_eq_true rfl, Nat.le_of_ble_eq_true rfl⟩⟩ hl.1 rfl (Nat.le_of_ble_eq_true rfl) dX11_tried_14) hP hS hA (fun u10 H locs w11 hP hS => ?_)
    have w11 : (((0 : Int64).toInt ≤ p2.toInt64.toInt ∧ p2.toInt64.toInt ≤ (5 : Int64).toInt ∧ u10.toInt = 1) ∨ (¬ ((0 : Int64).toInt ≤ p2.toInt64.toInt ∧ p2.toInt64.toInt ≤ (5 : Int64).toInt) ∧ u10.toInt = 0)) ∧ (0 ≤ u10.toInt ∧ u10.toInt ≤ 1) := w11
    obtain ⟨hw13, hw14⟩ := w11
    refine W.eq (g2 := F0 m 17 ls [.int u10]) rfl ?_
    rcases (show u10.toInt = 1 ∨ u10.toInt = 0 by omega) with c15 | c15
    · obtain rfl : u10 = 1 := i_is c15 (by decide)
      refine W.eq (g2 := F0 m 17 ls [.int 1]) rfl ?_
      refine lv_if_eq (tgt := 80) hx hb dX11_tried_17 (by decide) (fun c16 => ?_) (fun c16 => ?_)
      · exact absurd c16 (by decide)
      refine lv_iload_n hx hb dX11_tried_20 rfl (lv_at hl 3 rfl) ?_
      have j17 := rgI p3
      have j18 := Int32.toInt_toInt64 p3
      refine lv_i2l (v := p3.toInt64) hx hb dX11_tried_21 (rfl) ?_
      refine lv_ldc2 (v := 2) hx hb hown (hg _ kw_1443) dX11_tried_22 ?_
      refine lv_ldc2 (v := 200) hx hb hown (hg _ kw_1663) dX11_tried_25 ?_
      have zl2 : (2 : Int64).toInt = 2 := by decide
      have zl200 : (200 : Int64).toInt = 200 := by decide
      refine cg0 (rn_S (As := [.long p3.toInt64, .long 2, .long 200]) (rest := []) (m_in l D Y Z H.size   p3.toInt64 2 200 ) ⟨hx, hb, hml, hown, hg⟩ lk_X11_99 ⟨CP.blind, CP.at nilP hKN (nilD (A := fun _ => True))⟩ ⟨⟨rfl, rfl⟩, ⟨Nat.le_of_ble_eq_true rfl, Nat.le_of_ble_eq_true rfl⟩, ⟨Nat.le_of_ble_eq_true rfl, Nat.le_of_ble_eq_true rfl⟩⟩ hl.1 rfl (Nat.le_of_ble_eq_true rfl) dX11_tried_28) hP hS hA (fun u19 H locs w20 hP hS => ?_)
      have w20 : (((2 : Int64).toInt ≤ p3.toInt64.toInt ∧ p3.toInt64.toInt ≤ (200 : Int64).toInt ∧ u19.toInt = 1) ∨ (¬ ((2 : Int64).toInt ≤ p3.toInt64.toInt ∧ p3.toInt64.toInt ≤ (200 : Int64).toInt) ∧ u19.toInt = 0)) ∧ (0 ≤ u19.toInt ∧ u19.toInt ≤ 1) := w20
      obtain ⟨hw22, hw23⟩ := w20
      refine W.eq (g2 := F0 m 31 ls [.int u19]) rfl ?_
      rcases (show u19.toInt = 1 ∨ u19.toInt = 0 by omega) with c24 | c24
      · obtain rfl : u19 = 1 := i_is c24 (by decide)
        refine W.eq (g2 := F0 m 31 ls [.int 1]) rfl ?_
        refine lv_if_eq (tgt := 80) hx hb dX11_tried_31 (by decide) (fun c25 => ?_) (fun c25 => ?_)
        · exact absurd c25 (by decide)
        refine lv_iload hx hb dX11_tried_34 (lv_at hl 4 rfl) ?_
        have j26 := rgI p4
        have j27 := Int32.toInt_toInt64 p4
        refine lv_i2l (v := p4.toInt64) hx hb dX11_tried_36 (rfl) ?_
        refine lv_lconst (v := 1) hx hb dX11_tried_37 (by decide) ?_
        refine lv_ldc2 (v := 10) hx hb hown (hg _ kw_1664) dX11_tried_38 ?_
        have zl1 : (1 : Int64).toInt = 1 := by decide
        have zl10 : (10 : Int64).toInt = 10 := by decide
        refine cg0 (rn_S (As := [.long p4.toInt64, .long 1, .long 10]) (rest := []) (m_in l D Y Z H.size   p4.toInt64 1 10 ) ⟨hx, hb, hml, hown, hg⟩ lk_X11_99 ⟨CP.blind, CP.at nilP hKN (nilD (A := fun _ => True))⟩ ⟨⟨rfl, rfl⟩, ⟨Nat.le_of_ble_eq_true rfl, Nat.le_of_ble_eq_true rfl⟩, ⟨Nat.le_of_ble_eq_true rfl, Nat.le_of_ble_eq_true rfl⟩⟩ hl.1 rfl (Nat.le_of_ble_eq_true rfl) dX11_tried_41) hP hS hA (fun u28 H locs w29 hP hS => ?_)
        have w29 : (((1 : Int64).toInt ≤ p4.toInt64.toInt ∧ p4.toInt64.toInt ≤ (10 : Int64).toInt ∧ u28.toInt = 1) ∨ (¬ ((1 : Int64).toInt ≤ p4.toInt64.toInt ∧ p4.toInt64.toInt ≤ (10 : Int64).toInt) ∧ u28.toInt = 0)) ∧ (0 ≤ u28.toInt ∧ u28.toInt ≤ 1) := w29
        obtain ⟨hw31, hw32⟩ := w29
        refine W.eq (g2 := F0 m 44 ls [.int u28]) rfl ?_
        rcases (show u28.toInt = 1 ∨ u28.toInt = 0 by omega) with c33 | c33
        · obtain rfl : u28 = 1 := i_is c33 (by decide)
          refine W.eq (g2 := F0 m 44 ls [.int 1]) rfl ?_
          refine lv_if_eq (tgt := 80) hx hb dX11_tried_44 (by decide) (fun c34 => ?_) (fun c34 => ?_)
          · exact absurd c34 (by decide)
          refine lv_iload hx hb dX11_tried_47 (lv_at hl 4 rfl) ?_
          refine lv_iload_n hx hb dX11_tried_49 rfl (lv_at hl 3 rfl) ?_
          refine lv_icmp_ge (tgt := 80) hx hb dX11_tried_50 (by decide) (fun c35 => ?_) (fun c35 => ?_)
          · skip
            have c35 := i_le (Eq.refl p3.toInt) (Eq.refl p4.toInt) c35
            refine lv_ldc2 (v := (-200000)) hx hb hown (hg _ kw_1666) dX11_tried_80 ?_
            refine W.widen (k := 0) (n := 0) (Nat.le_of_ble_eq_true rfl) (Nat.le_of_ble_eq_true rfl) ?_
            have zlm200000 : ((-200000) : Int64).toInt = -200000 := by decide
            exact W.lret (v := (-200000)) hx hb hr (fun t ht hW => ⟨⟨((-200000), (I 29), (J 30), (J 31), (I 32), (J 33), (F 1), (F 28)), rfl, (hk1), CB.mk ht hP hD⟩, hS.F ht⟩) hS.2.2 dX11_tried_83
          · skip
            have c35 := i_nle (Eq.refl p3.toInt) (Eq.refl p4.toInt) c35
            refine lv_iload hx hb dX11_tried_53 (lv_at hl 5 rfl) ?_
            have j36 := rgI p5
            have j37 := Int32.toInt_toInt64 p5
            refine lv_i2l (v := p5.toInt64) hx hb dX11_tried_55 (rfl) ?_
            refine lv_lconst (v := 0) hx hb dX11_tried_56 (by decide) ?_
            refine lv_iload_n hx hb dX11_tried_57 rfl (lv_at hl 3 rfl) ?_
            refine lv_iconst (v := 1) hx hb dX11_tried_58 (by decide) ?_
            refine lv_isub hx hb dX11_tried_59 ?_
            refine lv_topi (fun v38 ev38 => ?_)
            have hv38 := i_sub (Eq.refl p3.toInt) (show (1 : Int32).toInt = 1 by decide) ev38 (by omega) (by omega)
            have j39 := Int32.toInt_toInt64 v38
            refine lv_i2l (v := v38.toInt64) hx hb dX11_tried_60 (rfl) ?_
            refine cg0 (rn_S (As := [.long p5.toInt64, .long 0, .long v38.toInt64]) (rest := []) (m_in l D Y Z H.size   p5.toInt64 0 v38.toInt64 ) ⟨hx, hb, hml, hown, hg⟩ lk_X11_99 ⟨CP.blind, CP.at nilP hKN (nilD (A := fun _ => True))⟩ ⟨⟨rfl, rfl⟩, ⟨Nat.le_of_ble_eq_true rfl, Nat.le_of_ble_eq_true rfl⟩, ⟨Nat.le_of_ble_eq_true rfl, Nat.le_of_ble_eq_true rfl⟩⟩ hl.1 rfl (Nat.le_of_ble_eq_true rfl) dX11_tried_61) hP hS hA (fun u40 H locs w41 hP hS => ?_)
            have w41 : (((0 : Int64).toInt ≤ p5.toInt64.toInt ∧ p5.toInt64.toInt ≤ v38.toInt64.toInt ∧ u40.toInt = 1) ∨ (¬ ((0 : Int64).toInt ≤ p5.toInt64.toInt ∧ p5.toInt64.toInt ≤ v38.toInt64.toInt) ∧ u40.toInt = 0)) ∧ (0 ≤ u40.toInt ∧ u40.toInt ≤ 1) := w41
            obtain ⟨hw43, hw44⟩ := w41
            refine W.eq (g2 := F0 m 64 ls [.int u40]) rfl ?_
            rcases (show u40.toInt = 1 ∨ u40.toInt = 0 by omega) with c45 | c45
            · obtain rfl : u40 = 1 := i_is c45 (by decide)
              refine W.eq (g2 := F0 m 64 ls [.int 1]) rfl ?_
              refine lv_if_eq (tgt := 80) hx hb dX11_tried_64 (by decide) (fun c46 => ?_) (fun c46 => ?_)
              · exact absurd c46 (by decide)
              refine lv_iload hx hb dX11_tried_67 (lv_at hl 6 rfl) ?_
              have j47 := rgI p6
              have j48 := Int32.toInt_toInt64 p6
              refine lv_i2l (v := p6.toInt64) hx hb dX11_tried_69 (rfl) ?_
              refine lv_lconst (v := 0) hx hb dX11_tried_70 (by decide) ?_
              refine lv_ldc2 (v := 4) hx hb hown (hg _ kw_1665) dX11_tried_71 ?_
              have zl4 : (4 : Int64).toInt = 4 := by decide
              refine cg0 (rn_S (As := [.long p6.toInt64, .long 0, .long 4]) (rest := []) (m_in l D Y Z H.size   p6.toInt64 0 4 ) ⟨hx, hb, hml, hown, hg⟩ lk_X11_99 ⟨CP.blind, CP.at nilP hKN (nilD (A := fun _ => True))⟩ ⟨⟨rfl, rfl⟩, ⟨Nat.le_of_ble_eq_true rfl, Nat.le_of_ble_eq_true rfl⟩, ⟨Nat.le_of_ble_eq_true rfl, Nat.le_of_ble_eq_true rfl⟩⟩ hl.1 rfl (Nat.le_of_ble_eq_true rfl) dX11_tried_74) hP hS hA (fun u49 H locs w50 hP hS => ?_)
              have w50 : (((0 : Int64).toInt ≤ p6.toInt64.toInt ∧ p6.toInt64.toInt ≤ (4 : Int64).toInt ∧ u49.toInt = 1) ∨ (¬ ((0 : Int64).toInt ≤ p6.toInt64.toInt ∧ p6.toInt64.toInt ≤ (4 : Int64).toInt) ∧ u49.toInt = 0)) ∧ (0 ≤ u49.toInt ∧ u49.toInt ≤ 1) := w50
              obtain ⟨hw52, hw53⟩ := w50
              refine W.eq (g2 := F0 m 77 ls [.int u49]) rfl ?_
              rcases (show u49.toInt = 1 ∨ u49.toInt = 0 by omega) with c54 | c54
              · obtain rfl : u49 = 1 := i_is c54 (by decide)
                refine W.eq (g2 := F0 m 77 ls [.int 1]) rfl ?_
                refine lv_if_ne (tgt := 84) hx hb dX11_tried_77 (by decide) (fun c55 => ?_) (fun c55 => ?_)
                rotate_left
                · exact absurd c55 (by decide)
                refine lv_aload_n hx hb dX11_tried_84 rfl (lv_at hl 0 rfl) ?_
                refine lv_iload_n hx hb dX11_tried_85 rfl (lv_at hl 1 rfl) ?_
                refine lv_iload_n hx hb dX11_tried_86 rfl (lv_at hl 2 rfl) ?_
                refine cga (rn_V (As := [.int p1, .int p2]) (rest := []) (b := o) (m_lifts l D Y Z H.size o a I J F G  p1 p2 (show (0 ≤ p1.toInt ∧ p1.toInt ≤ 11) by omega) (show (0 ≤ p2.toInt ∧ p2.toInt ≤ 5) by omega) hk0 hk1) ⟨hx, hb, hml, hown, hg⟩ lk_X11_406 ⟨CP.blind, va_recv hKN.1 hP (ci := 11) (q0 := 0) rfl rfl, CP.at hP hKN hD⟩ ⟨⟨rfl, rfl⟩, ⟨Nat.le_of_ble_eq_true rfl, Nat.le_of_ble_eq_true rfl⟩, ⟨Nat.le_of_ble_eq_true rfl, Nat.le_of_ble_eq_true rfl⟩⟩ hl.1 rfl (Nat.le_of_ble_eq_true rfl) dX11_tried_87) hP hD hS hA (fun u56 H locs w57 hP hD hS => ?_)
                obtain ⟨u58, u59, u60, f61, f62⟩ := u56
                have w57 : (0 ≤ u58.toInt ∧ u58.toInt ≤ 600) ∧ (-60000000 ≤ u59.toInt ∧ u59.toInt ≤ 60000000) ∧ (1 ≤ u60.toInt) ∧ LB f62 := w57
                obtain ⟨hw63, hw64, hw65, hw66⟩ := w57
                refine W.eq (g2 := F0 m 90 ls []) rfl ?_
                have hP : va_P D vwCl (MW Y o a (upd I 29 u58) (vp_updL (vp_updL J 30 u59) 31 u60) (vf_upd (vf_upd F 1 f61) 28 f62) G) H := hP
                have hD : va_D A (MW Y o a (upd I 29 u58) (vp_updL (vp_updL J 30 u59) 31 u60) (vf_upd (vf_upd F 1 f61) 28 f62) G) := hD
                refine lv_aload_n hx hb dX11_tried_90 rfl (lv_at hl 0 rfl) ?_
                refine lv_iload_n hx hb dX11_tried_91 rfl (lv_at hl 3 rfl) ?_
                refine lv_iload hx hb dX11_tried_92 (lv_at hl 4 rfl) ?_
                refine lv_iload hx hb dX11_tried_94 (lv_at hl 5 rfl) ?_
                refine cga (rn_V (As := [.int p3, .int p4, .int p5]) (rest := []) (b := o) (m_takesIn l D Y Z H.size o a (upd I 29 u58) (vp_updL (vp_updL J 30 u59) 31 u60) (vf_upd (vf_upd F 1 f61) 28 f62) G  p3 p4 p5 (show (1 ≤ p3.toInt ∧ p3.toInt ≤ 400) by omega) (show (0 ≤ p5.toInt ∧ p5.toInt ≤ 400) by omega) (show (p5.toInt ≤ p3.toInt) by omega)) ⟨hx, hb, hml, hown, hg⟩ lk_X11_426 ⟨CP.blind, va_recv hKN.1 hP (ci := 11) (q0 := 0) rfl rfl, CP.at hP hKN hD⟩ ⟨⟨rfl, rfl⟩, ⟨Nat.le_of_ble_eq_true rfl, Nat.le_of_ble_eq_true rfl⟩, ⟨Nat.le_of_ble_eq_true rfl, Nat.le_of_ble_eq_true rfl⟩⟩ hl.1 rfl (Nat.le_of_ble_eq_true rfl) dX11_tried_96) hP hD hS hA (fun u67 H locs w68 hP hD hS => ?_)
                obtain ⟨u69, u70⟩ := u67
                have w68 : (0 ≤ u69.toInt ∧ u69.toInt ≤ 600) := w68
                have hw71 := w68
                refine W.eq (g2 := F0 m 99 ls []) rfl ?_
                have hP : va_P D vwCl (MW Y o a (upd (upd I 29 u58) 32 u69) (vp_updL (vp_updL (vp_updL J 30 u59) 31 u60) 33 u70) (vf_upd (vf_upd F 1 f61) 28 f62) G) H := hP
                have hD : va_D A (MW Y o a (upd (upd I 29 u58) 32 u69) (vp_updL (vp_updL (vp_updL J 30 u59) 31 u60) 33 u70) (vf_upd (vf_upd F 1 f61) 28 f62) G) := hD
                refine lv_iload hx hb dX11_tried_99 (lv_at hl 6 rfl) ?_
                refine lv_if_ne (tgt := 110) hx hb dX11_tried_101 (by decide) (fun c72 => ?_) (fun c72 => ?_)
                · skip
                  have c72 := i_ne (Eq.refl p6.toInt) (show (0 : Int32).toInt = 0 by decide) c72
                  refine lv_iload hx hb dX11_tried_110 (lv_at hl 6 rfl) ?_
                  refine lv_iconst (v := 1) hx hb dX11_tried_112 (by decide) ?_
                  refine lv_icmp_ne (tgt := 127) hx hb dX11_tried_113 (by decide) (fun c73 => ?_) (fun c73 => ?_)
                  · skip
                    have c73 := i_ne (Eq.refl p6.toInt) (show (1 : Int32).toInt = 1 by decide) c73
                    refine lv_iload hx hb dX11_tried_127 (lv_at hl 6 rfl) ?_
                    refine lv_iconst (v := 3) hx hb dX11_tried_129 (by decide) ?_
                    refine lv_icmp_ne (tgt := 144) hx hb dX11_tried_130 (by decide) (fun c74 => ?_) (fun c74 => ?_)
                    · skip
                      have c74 := i_ne (Eq.refl p6.toInt) (show (3 : Int32).toInt = 3 by decide) c74
                      refine lv_aload_n hx hb dX11_tried_144 rfl (lv_at hl 0 rfl) ?_
                      refine va_get (D := D) (ci := 11) (v := .int u69) (C := RX11) (T := TX11) (N := 49) hx hb hg inGX11 hown hKN.1 hP 0 rfl rfl 32 (by decide) (hg _ kw_1240) (fun _ h9 => h9) rfl dX11_tried_145 ?_
                      refine lv_if_eq (tgt := 162) hx hb dX11_tried_148 (by decide) (fun c75 => ?_) (fun c75 => ?_)
                      · skip
                        have c75 := i_eq (Eq.refl u69.toInt) (show (0 : Int32).toInt = 0 by decide) c75
                        refine lv_iload hx hb dX11_tried_162 (lv_at hl 6 rfl) ?_
                        refine lv_iconst (v := 2) hx hb dX11_tried_164 (by decide) ?_
                        refine lv_icmp_ne (tgt := 174) hx hb dX11_tried_165 (by decide) (fun c77 => ?_) (fun c77 => ?_)
                        · skip
                          have c77 := i_ne (Eq.refl p6.toInt) (show (2 : Int32).toInt = 2 by decide) c77
                          refine lv_lconst (v := 0) hx hb dX11_tried_174 (by decide) ?_
                          refine W.widen (k := 0) (n := 0) (Nat.le_of_ble_eq_true rfl) (Nat.le_of_ble_eq_true rfl) ?_
                          exact W.lret (v := 0) hx hb hr (fun t ht hW => ⟨⟨(0, u58, u59, u60, u69, u70, f61, f62), rfl, (hw66), CB.mk ht hP hD⟩, hS.F ht⟩) hS.2.2 dX11_tried_175
                        · skip
                          have c77 := i_eq (Eq.refl p6.toInt) (show (2 : Int32).toInt = 2 by decide) c77
                          refine lv_ldc2 (v := (-100000)) hx hb hown (hg _ kw_1689) dX11_tried_168 ?_
                          refine lv_goto (tgt := 175) hx hb dX11_tried_171 (by decide) ?_
                          refine W.widen (k := 0) (n := 0) (Nat.le_of_ble_eq_true rfl) (Nat.le_of_ble_eq_true rfl) ?_
                          have zlm100000 : ((-100000) : Int64).toInt = -100000 := by decide
                          exact W.lret (v := (-100000)) hx hb hr (fun t ht hW => ⟨⟨((-100000), u58, u59, u60, u69, u70, f61, f62), rfl, (hw66), CB.mk ht hP hD⟩, hS.F ht⟩) hS.2.2 dX11_tried_175
                      · skip
                        have c75 := i_ne (Eq.refl u69.toInt) (show (0 : Int32).toInt = 0 by decide) c75
                        refine lv_aload_n hx hb dX11_tried_151 rfl (lv_at hl 0 rfl) ?_
                        refine va_get (D := D) (ci := 11) (v := .int u69) (C := RX11) (T := TX11) (N := 49) hx hb hg inGX11 hown hKN.1 hP 0 rfl rfl 32 (by decide) (hg _ kw_1240) (fun _ h9 => h9) rfl dX11_tried_152 ?_
                        refine lv_aload_n hx hb dX11_tried_155 rfl (lv_at hl 0 rfl) ?_
                        refine va_get (D := D) (ci := 11) (v := .int u58) (C := RX11) (T := TX11) (N := 49) hx hb hg inGX11 hown hKN.1 hP 0 rfl rfl 29 (by decide) (hg _ kw_1237) (fun _ h9 => h9) rfl dX11_tried_156 ?_
                        refine lv_icmp_ne (tgt := 176) hx hb dX11_tried_159 (by decide) (fun c78 => ?_) (fun c78 => ?_)
                        · skip
                          have c78 := i_ne (Eq.refl u69.toInt) (Eq.refl u58.toInt) c78
                          refine lv_iload hx hb dX11_tried_176 (lv_at hl 6 rfl) ?_
                          refine lv_iconst (v := 2) hx hb dX11_tried_178 (by decide) ?_
                          refine lv_icmp_ne (tgt := 215) hx hb dX11_tried_179 (by decide) (fun c90 => ?_) (fun c90 => ?_)
                          · skip
                            have c90 := i_ne (Eq.refl p6.toInt) (show (2 : Int32).toInt = 2 by decide) c90
                            refine lv_aload_n hx hb dX11_tried_215 rfl (lv_at hl 0 rfl) ?_
                            refine lv_iload_n hx hb dX11_tried_216 rfl (lv_at hl 3 rfl) ?_
                            refine lv_iload hx hb dX11_tried_217 (lv_at hl 4 rfl) ?_
                            refine lv_iload hx hb dX11_tried_219 (lv_at hl 5 rfl) ?_
                            refine cga (rn_V (As := [.int p3, .int p4, .int p5]) (rest := []) (b := o) (m_scoreTried l D Y Z H.size o a (upd (upd I 29 u58) 32 u69) (vp_updL (vp_updL (vp_updL J 30 u59) 31 u60) 33 u70) (vf_upd (vf_upd F 1 f61) 28 f62) G  p3 p4 p5 (show (0 ≤ u58.toInt ∧ u58.toInt ≤ 600) by omega) (show (1 ≤ p3.toInt ∧ p3.toInt ≤ 400) by omega) (show (0 ≤ p5.toInt ∧ p5.toInt ≤ 400) by omega) (show (p5.toInt ≤ p3.toInt) by omega) (show (1 ≤ u60.toInt) by omega)) ⟨hx, hb, hml, hown, hg⟩ lk_X11_445 ⟨CP.blind, va_recv hKN.1 hP (ci := 11) (q0 := 0) rfl rfl, CP.at hP hKN hD⟩ ⟨⟨rfl, rfl⟩, ⟨Nat.le_of_ble_eq_true rfl, Nat.le_of_ble_eq_true rfl⟩, ⟨Nat.le_of_ble_eq_true rfl, Nat.le_of_ble_eq_true rfl⟩⟩ hl.1 rfl (Nat.le_of_ble_eq_true rfl) dX11_tried_221) hP hD hS hA (fun u91 H locs w92 hP hD hS => ?_)
                            obtain ⟨u93, u94, u95⟩ := u91
                            refine W.eq (g2 := F0 m 224 ls [.long u93]) rfl ?_
                            have hP : va_P D vwCl (MW Y o a (upd (upd I 29 u58) 32 u94) (vp_updL (vp_updL (vp_updL J 30 u59) 31 u60) 33 u95) (vf_upd (vf_upd F 1 f61) 28 f62) G) H := hP
                            have hD : va_D A (MW Y o a (upd (upd I 29 u58) 32 u94) (vp_updL (vp_updL (vp_updL J 30 u59) 31 u60) 33 u95) (vf_upd (vf_upd F 1 f61) 28 f62) G) := hD
                            refine W.widen (k := 0) (n := 0) (Nat.le_of_ble_eq_true rfl) (Nat.le_of_ble_eq_true rfl) ?_
                            exact W.lret (v := u93) hx hb hr (fun t ht hW => ⟨⟨(u93, u58, u59, u60, u94, u95, f61, f62), rfl, (hw66), CB.mk ht hP hD⟩, hS.F ht⟩) hS.2.2 dX11_tried_224
                          · skip
                            have c90 := i_eq (Eq.refl p6.toInt) (show (2 : Int32).toInt = 2 by decide) c90
                            refine lv_aload_n hx hb dX11_tried_182 rfl (lv_at hl 0 rfl) ?_
                            refine lv_aload_n hx hb dX11_tried_183 rfl (lv_at hl 0 rfl) ?_
                            refine va_get (D := D) (ci := 11) (v := .long u59) (C := RX11) (T := TX11) (N := 49) hx hb hg inGX11 hown hKN.1 hP 0 rfl rfl 30 (by decide) (hg _ kw_1238) (fun _ h9 => h9) rfl dX11_tried_184 ?_
                            refine lv_aload_n hx hb dX11_tried_187 rfl (lv_at hl 0 rfl) ?_
                            refine va_get (D := D) (ci := 11) (v := .long u70) (C := RX11) (T := TX11) (N := 49) hx hb hg inGX11 hown hKN.1 hP 0 rfl rfl 33 (by decide) (hg _ kw_1241) (fun _ h9 => h9) rfl dX11_tried_188 ?_
                            refine lv_lsub hx hb dX11_tried_191 ?_
                            refine lv_topl (fun v96 ev96 => ?_)
                            refine lv_aload_n hx hb dX11_tried_192 rfl (lv_at hl 0 rfl) ?_
                            refine va_get (D := D) (ci := 11) (v := .int u58) (C := RX11) (T := TX11) (N := 49) hx hb hg inGX11 hown hKN.1 hP 0 rfl rfl 29 (by decide) (hg _ kw_1237) (fun _ h9 => h9) rfl dX11_tried_193 ?_
                            refine lv_aload_n hx hb dX11_tried_196 rfl (lv_at hl 0 rfl) ?_
                            refine va_get (D := D) (ci := 11) (v := .int u69) (C := RX11) (T := TX11) (N := 49) hx hb hg inGX11 hown hKN.1 hP 0 rfl rfl 32 (by decide) (hg _ kw_1240) (fun _ h9 => h9) rfl dX11_tried_197 ?_
                            refine lv_isub hx hb dX11_tried_200 ?_
                            refine lv_topi (fun v97 ev97 => ?_)
                            have hv97 := i_sub (Eq.refl u58.toInt) (Eq.refl u69.toInt) ev97 (by omega) (by omega)
                            refine lv_aload_n hx hb dX11_tried_201 rfl (lv_at hl 0 rfl) ?_
                            refine va_get (D := D) (ci := 11) (v := .long u70) (C := RX11) (T := TX11) (N := 49) hx hb hg inGX11 hown hKN.1 hP 0 rfl rfl 33 (by decide) (hg _ kw_1241) (fun _ h9 => h9) rfl dX11_tried_202 ?_
                            refine lv_aload_n hx hb dX11_tried_205 rfl (lv_at hl 0 rfl) ?_
                            refine va_get (D := D) (ci := 11) (v := .int u69) (C := RX11) (T := TX11) (N := 49) hx hb hg inGX11 hown hKN.1 hP 0 rfl rfl 32 (by decide) (hg _ kw_1240) (fun _ h9 => h9) rfl dX11_tried_206 ?_
                            refine cga (rn_V (As := [.long v96, .int v97, .long u70, .int u69]) (rest := []) (b := o) (m_deepBy l D Y Z H.size o a (upd (upd I 29 u58) 32 u69) (vp_updL (vp_updL (vp_updL J 30 u59) 31 u60) 33 u70) (vf_upd (vf_upd F 1 f61) 28 f62) G  v96 v97 u70 u69 (show (v97.toInt ≠ 0) by omega) (show (u69.toInt ≠ 0) by omega)) ⟨hx, hb, hml, hown, hg⟩ lk_X11_441 ⟨CP.blind, va_recv hKN.1 hP (ci := 11) (q0 := 0) rfl rfl, CP.at hP hKN hD⟩ ⟨⟨rfl, rfl⟩, ⟨Nat.le_of_ble_eq_true rfl, Nat.le_of_ble_eq_true rfl⟩, ⟨Nat.le_of_ble_eq_true rfl, Nat.le_of_ble_eq_true rfl⟩⟩ hl.1 rfl (Nat.le_of_ble_eq_true rfl) dX11_tried_209) hP hD hS hA (fun u98 H locs w99 hP hD hS => ?_)
                            refine W.eq (g2 := F0 m 212 ls [.long u98]) rfl ?_
                            have hP : va_P D vwCl (MW Y o a (upd (upd I 29 u58) 32 u69) (vp_updL (vp_updL (vp_updL J 30 u59) 31 u60) 33 u70) (vf_upd (vf_upd F 1 f61) 28 f62) G) H := hP
                            have hD : va_D A (MW Y o a (upd (upd I 29 u58) 32 u69) (vp_updL (vp_updL (vp_updL J 30 u59) 31 u60) 33 u70) (vf_upd (vf_upd F 1 f61) 28 f62) G) := hD
                            refine lv_goto (tgt := 224) hx hb dX11_tried_212 (by decide) ?_
                            refine W.widen (k := 0) (n := 0) (Nat.le_of_ble_eq_true rfl) (Nat.le_of_ble_eq_true rfl) ?_
                            exact W.lret (v := u98) hx hb hr (fun t ht hW => ⟨⟨(u98, u58, u59, u60, u69, u70, f61, f62), rfl, (hw66), CB.mk ht hP hD⟩, hS.F ht⟩) hS.2.2 dX11_tried_224
                        · skip
                          have c78 := i_eq (Eq.refl u69.toInt) (Eq.refl u58.toInt) c78
                          refine lv_iload hx hb dX11_tried_162 (lv_at hl 6 rfl) ?_
                          refine lv_iconst (v := 2) hx hb dX11_tried_164 (by decide) ?_
                          refine lv_icmp_ne (tgt := 174) hx hb dX11_tried_165 (by decide) (fun c102 => ?_) (fun c102 => ?_)
                          · skip
                            have c102 := i_ne (Eq.refl p6.toInt) (show (2 : Int32).toInt = 2 by decide) c102
                            refine lv_lconst (v := 0) hx hb dX11_tried_174 (by decide) ?_
                            refine W.widen (k := 0) (n := 0) (Nat.le_of_ble_eq_true rfl) (Nat.le_of_ble_eq_true rfl) ?_
                            exact W.lret (v := 0) hx hb hr (fun t ht hW => ⟨⟨(0, u58, u59, u60, u69, u70, f61, f62), rfl, (hw66), CB.mk ht hP hD⟩, hS.F ht⟩) hS.2.2 dX11_tried_175
                          · skip
                            have c102 := i_eq (Eq.refl p6.toInt) (show (2 : Int32).toInt = 2 by decide) c102
                            refine lv_ldc2 (v := (-100000)) hx hb hown (hg _ kw_1689) dX11_tried_168 ?_
                            refine lv_goto (tgt := 175) hx hb dX11_tried_171 (by decide) ?_
                            refine W.widen (k := 0) (n := 0) (Nat.le_of_ble_eq_true rfl) (Nat.le_of_ble_eq_true rfl) ?_
                            have zlm100000 : ((-100000) : Int64).toInt = -100000 := by decide
                            exact W.lret (v := (-100000)) hx hb hr (fun t ht hW => ⟨⟨((-100000), u58, u59, u60, u69, u70, f61, f62), rfl, (hw66), CB.mk ht hP hD⟩, hS.F ht⟩) hS.2.2 dX11_tried_175
                    · skip
                      have c74 := i_eq (Eq.refl p6.toInt) (show (3 : Int32).toInt = 3 by decide) c74
                      refine lv_aload_n hx hb dX11_tried_133 rfl (lv_at hl 0 rfl) ?_
                      refine lv_iload_n hx hb dX11_tried_134 rfl (lv_at hl 3 rfl) ?_
                      refine lv_iload hx hb dX11_tried_135 (lv_at hl 4 rfl) ?_
                      refine lv_iload hx hb dX11_tried_137 (lv_at hl 5 rfl) ?_
                      refine cga (rn_V (As := [.int p3, .int p4, .int p5]) (rest := []) (b := o) (m_dipsOf l D Y Z H.size o a (upd (upd I 29 u58) 32 u69) (vp_updL (vp_updL (vp_updL J 30 u59) 31 u60) 33 u70) (vf_upd (vf_upd F 1 f61) 28 f62) G  p3 p4 p5 (show (1 ≤ p3.toInt ∧ p3.toInt ≤ 400) by omega) (show (0 ≤ p4.toInt ∧ p4.toInt ≤ 30) by omega) (show (0 ≤ p5.toInt ∧ p5.toInt ≤ 400) by omega)) ⟨hx, hb, hml, hown, hg⟩ lk_X11_433 ⟨CP.blind, va_recv hKN.1 hP (ci := 11) (q0 := 0) rfl rfl, CP.at hP hKN hD⟩ ⟨⟨rfl, rfl⟩, ⟨Nat.le_of_ble_eq_true rfl, Nat.le_of_ble_eq_true rfl⟩, ⟨Nat.le_of_ble_eq_true rfl, Nat.le_of_ble_eq_true rfl⟩⟩ hl.1 rfl (Nat.le_of_ble_eq_true rfl) dX11_tried_139) hP hD hS hA (fun u103 H locs w104 hP hD hS => ?_)
                      refine W.eq (g2 := F0 m 142 ls [.int u103]) rfl ?_
                      have hP : va_P D vwCl (MW Y o a (upd (upd I 29 u58) 32 u69) (vp_updL (vp_updL (vp_updL J 30 u59) 31 u60) 33 u70) (vf_upd (vf_upd F 1 f61) 28 f62) G) H := hP
                      have hD : va_D A (MW Y o a (upd (upd I 29 u58) 32 u69) (vp_updL (vp_updL (vp_updL J 30 u59) 31 u60) 33 u70) (vf_upd (vf_upd F 1 f61) 28 f62) G) := hD
                      have j106 := rgI u103
                      have j107 := Int32.toInt_toInt64 u103
                      refine lv_i2l (v := u103.toInt64) hx hb dX11_tried_142 (rfl) ?_
                      refine W.widen (k := 0) (n := 0) (Nat.le_of_ble_eq_true rfl) (Nat.le_of_ble_eq_true rfl) ?_
                      exact W.lret (v := u103.toInt64) hx hb hr (fun t ht hW => ⟨⟨(u103.toInt64, u58, u59, u60, u69, u70, f61, f62), rfl, (hw66), CB.mk ht hP hD⟩, hS.F ht⟩) hS.2.2 dX11_tried_143
                  · skip
                    have c73 := i_eq (Eq.refl p6.toInt) (show (1 : Int32).toInt = 1 by decide) c73
                    refine lv_aload_n hx hb dX11_tried_116 rfl (lv_at hl 0 rfl) ?_
                    refine va_get (D := D) (ci := 11) (v := .int u58) (C := RX11) (T := TX11) (N := 49) hx hb hg inGX11 hown hKN.1 hP 0 rfl rfl 29 (by decide) (hg _ kw_1237) (fun _ h9 => h9) rfl dX11_tried_117 ?_
                    refine lv_aload_n hx hb dX11_tried_120 rfl (lv_at hl 0 rfl) ?_
                    refine va_get (D := D) (ci := 11) (v := .int u69) (C := RX11) (T := TX11) (N := 49) hx hb hg inGX11 hown hKN.1 hP 0 rfl rfl 32 (by decide) (hg _ kw_1240) (fun _ h9 => h9) rfl dX11_tried_121 ?_
                    refine lv_isub hx hb dX11_tried_124 ?_
                    refine lv_topi (fun v108 ev108 => ?_)
                    have hv108 := i_sub (Eq.refl u58.toInt) (Eq.refl u69.toInt) ev108 (by omega) (by omega)
                    have j109 := Int32.toInt_toInt64 v108
                    refine lv_i2l (v := v108.toInt64) hx hb dX11_tried_125 (rfl) ?_
                    refine W.widen (k := 0) (n := 0) (Nat.le_of_ble_eq_true rfl) (Nat.le_of_ble_eq_true rfl) ?_
                    exact W.lret (v := v108.toInt64) hx hb hr (fun t ht hW => ⟨⟨(v108.toInt64, u58, u59, u60, u69, u70, f61, f62), rfl, (hw66), CB.mk ht hP hD⟩, hS.F ht⟩) hS.2.2 dX11_tried_126
                · skip
                  have c72 := i_eq (Eq.refl p6.toInt) (show (0 : Int32).toInt = 0 by decide) c72
                  refine lv_aload_n hx hb dX11_tried_104 rfl (lv_at hl 0 rfl) ?_
                  refine va_get (D := D) (ci := 11) (v := .int u69) (C := RX11) (T := TX11) (N := 49) hx hb hg inGX11 hown hKN.1 hP 0 rfl rfl 32 (by decide) (hg _ kw_1240) (fun _ h9 => h9) rfl dX11_tried_105 ?_
                  have j110 := Int32.toInt_toInt64 u69
                  refine lv_i2l (v := u69.toInt64) hx hb dX11_tried_108 (rfl) ?_
                  refine W.widen (k := 0) (n := 0) (Nat.le_of_ble_eq_true rfl) (Nat.le_of_ble_eq_true rfl) ?_
                  exact W.lret (v := u69.toInt64) hx hb hr (fun t ht hW => ⟨⟨(u69.toInt64, u58, u59, u60, u69, u70, f61, f62), rfl, (hw66), CB.mk ht hP hD⟩, hS.F ht⟩) hS.2.2 dX11_tried_109
              · obtain rfl : u49 = 0 := i_is c54 (by decide)
                have zi0 : (0 : Int32).toInt = 0 := by decide
                refine W.eq (g2 := F0 m 77 ls [.int 0]) rfl ?_
                refine lv_if_ne (tgt := 84) hx hb dX11_tried_77 (by decide) (fun c111 => ?_) (fun c111 => ?_)
                · exact absurd c111 (by decide)
                refine lv_ldc2 (v := (-200000)) hx hb hown (hg _ kw_1666) dX11_tried_80 ?_
                refine W.widen (k := 0) (n := 0) (Nat.le_of_ble_eq_true rfl) (Nat.le_of_ble_eq_true rfl) ?_
                have zlm200000 : ((-200000) : Int64).toInt = -200000 := by decide
                exact W.lret (v := (-200000)) hx hb hr (fun t ht hW => ⟨⟨((-200000), (I 29), (J 30), (J 31), (I 32), (J 33), (F 1), (F 28)), rfl, (hk1), CB.mk ht hP hD⟩, hS.F ht⟩) hS.2.2 dX11_tried_83
            · obtain rfl : u40 = 0 := i_is c45 (by decide)
              have zi0 : (0 : Int32).toInt = 0 := by decide
              refine W.eq (g2 := F0 m 64 ls [.int 0]) rfl ?_
              refine lv_if_eq (tgt := 80) hx hb dX11_tried_64 (by decide) (fun c112 => ?_) (fun c112 => ?_)
              rotate_left
              · exact absurd c112 (by decide)
              refine lv_ldc2 (v := (-200000)) hx hb hown (hg _ kw_1666) dX11_tried_80 ?_
              refine W.widen (k := 0) (n := 0) (Nat.le_of_ble_eq_true rfl) (Nat.le_of_ble_eq_true rfl) ?_
              have zlm200000 : ((-200000) : Int64).toInt = -200000 := by decide
              exact W.lret (v := (-200000)) hx hb hr (fun t ht hW => ⟨⟨((-200000), (I 29), (J 30), (J 31), (I 32), (J 33), (F 1), (F 28)), rfl, (hk1), CB.mk ht hP hD⟩, hS.F ht⟩) hS.2.2 dX11_tried_83
        · obtain rfl : u28 = 0 := i_is c33 (by decide)
          have zi0 : (0 : Int32).toInt = 0 := by decide
          refine W.eq (g2 := F0 m 44 ls [.int 0]) rfl ?_
          refine lv_if_eq (tgt := 80) hx hb dX11_tried_44 (by decide) (fun c113 => ?_) (fun c113 => ?_)
          rotate_left
          · exact absurd c113 (by decide)
          refine lv_ldc2 (v := (-200000)) hx hb hown (hg _ kw_1666) dX11_tried_80 ?_
          refine W.widen (k := 0) (n := 0) (Nat.le_of_ble_eq_true rfl) (Nat.le_of_ble_eq_true rfl) ?_
          have zlm200000 : ((-200000) : Int64).toInt = -200000 := by decide
          exact W.lret (v := (-200000)) hx hb hr (fun t ht hW => ⟨⟨((-200000), (I 29), (J 30), (J 31), (I 32), (J 33), (F 1), (F 28)), rfl, (hk1), CB.mk ht hP hD⟩, hS.F ht⟩) hS.2.2 dX11_tried_83
      · obtain rfl : u19 = 0 := i_is c24 (by decide)
        have zi0 : (0 : Int32).toInt = 0 := by decide
        refine W.eq (g2 := F0 m 31 ls [.int 0]) rfl ?_
        refine lv_if_eq (tgt := 80) hx hb dX11_tried_31 (by decide) (fun c114 => ?_) (fun c114 => ?_)
        rotate_left
        · exact absurd c114 (by decide)
        refine lv_ldc2 (v := (-200000)) hx hb hown (hg _ kw_1666) dX11_tried_80 ?_
        refine W.widen (k := 0) (n := 0) (Nat.le_of_ble_eq_true rfl) (Nat.le_of_ble_eq_true rfl) ?_
        have zlm200000 : ((-200000) : Int64).toInt = -200000 := by decide
        exact W.lret (v := (-200000)) hx hb hr (fun t ht hW => ⟨⟨((-200000), (I 29), (J 30), (J 31), (I 32), (J 33), (F 1), (F 28)), rfl, (hk1), CB.mk ht hP hD⟩, hS.F ht⟩) hS.2.2 dX11_tried_83
    · obtain rfl : u10 = 0 := i_is c15 (by decide)
      have zi0 : (0 : Int32).toInt = 0 := by decide
      refine W.eq (g2 := F0 m 17 ls [.int 0]) rfl ?_
      refine lv_if_eq (tgt := 80) hx hb dX11_tried_17 (by decide) (fun c115 => ?_) (fun c115 => ?_)
      rotate_left
      · exact absurd c115 (by decide)
      refine lv_ldc2 (v := (-200000)) hx hb hown (hg _ kw_1666) dX11_tried_80 ?_
      refine W.widen (k := 0) (n := 0) (Nat.le_of_ble_eq_true rfl) (Nat.le_of_ble_eq_true rfl) ?_
      have zlm200000 : ((-200000) : Int64).toInt = -200000 := by decide
      exact W.lret (v := (-200000)) hx hb hr (fun t ht hW => ⟨⟨((-200000), (I 29), (J 30), (J 31), (I 32), (J 33), (F 1), (F 28)), rfl, (hk1), CB.mk ht hP hD⟩, hS.F ht⟩) hS.2.2 dX11_tried_83
  · obtain rfl : u1 = 0 := i_is c6 (by decide)
    have zi0 : (0 : Int32).toInt = 0 := by decide
    refine W.eq (g2 := F0 m 5 ls [.int 0]) rfl ?_
    refine lv_if_eq (tgt := 80) hx hb dX11_tried_5 (by decide) (fun c116 => ?_) (fun c116 => ?_)
    rotate_left
    · exact absurd c116 (by decide)
    refine lv_ldc2 (v := (-200000)) hx hb hown (hg _ kw_1666) dX11_tried_80 ?_
    refine W.widen (k := 0) (n := 0) (Nat.le_of_ble_eq_true rfl) (Nat.le_of_ble_eq_true rfl) ?_
    have zlm200000 : ((-200000) : Int64).toInt = -200000 := by decide
    exact W.lret (v := (-200000)) hx hb hr (fun t ht hW => ⟨⟨((-200000), (I 29), (J 30), (J 31), (I 32), (J 33), (F 1), (F 28)), rfl, (hk1), CB.mk ht hP hD⟩, hS.F ht⟩) hS.2.2 dX11_tried_83
set_option maxHeartbeats 4000000 in
set_option maxRecDepth 100000 in
theorem m_bound (l : Launch) (D : va_G) (Y : Nat → ClassId) (Z : Nat → Nat) (sz : Nat) (o : Nat) (a : Nat → Nat) (I : Nat → Int32) (J : Nat → Int64) (F : Nat → Nat → Int32) (G : Nat → Nat → Int64) (p1 : Int32) (p2 : Int32) (hk0 : TO (F 0)) (hk1 : LB (F 28)) (hk2 : TX (F 4) (F 9) (F 10) (F 11) (F 12) (F 13)) : Met l yX11_bound (.code yX11_bound cX11_bound 8 (some .int) :: GW) ({ frames := 9, cells := 0, slots := 0, locals := 214 }) (va_Pc [.ref o, .int p1, .int p2] (CP D Y Z (MW Y o a I J F G) sz)) (QG (S := Int32 × Int32 × Int32 × Int32 × Int32 × Int64 × Int64 × Int32 × Int64 × Int64 × (Nat → Int32) × (Nat → Int64) × (Nat → Int32) × (Nat → Int64) × (Nat → Int32)) (fun u => some (.int u.1)) (fun u => LB u.2.2.2.2.2.2.2.2.2.2.1) (fun u => CB D (MW Y o a (upd (upd (upd (upd (upd I 29 u.2.2.2.2.2.2.2.1) 34 u.2.1) 35 u.2.2.1) 36 u.2.2.2.1) 39 u.2.2.2.2.1) (vp_updL (vp_updL (vp_updL (vp_updL J 30 u.2.2.2.2.2.2.2.2.1) 31 u.2.2.2.2.2.2.2.2.2.1) 37 u.2.2.2.2.2.1) 38 u.2.2.2.2.2.2.1) (vf_upd (vf_upd (vf_upd F 28 u.2.2.2.2.2.2.2.2.2.2.1) 41 u.2.2.2.2.2.2.2.2.2.2.2.2.1) 43 u.2.2.2.2.2.2.2.2.2.2.2.2.2.2) (vf_upd (vf_upd G 40 u.2.2.2.2.2.2.2.2.2.2.2.1) 42 u.2.2.2.2.2.2.2.2.2.2.2.2.2.1)) (va_A (MW Y o a I J F G) sz)) (va_A (MW Y o a I J F G) sz)) 0 0 (va_A (MW Y o a I J F G) sz) := by
  refine Met.ofW (cc := cX11_bound) (maxL := 8) (ret := (some .int)) (by decide) rfl ?_
  intro p e s m args below meth c s₁ B hml hv
  obtain ⟨rfl, hsz, hP, hKN, hD0⟩ := hv
  have hx := B.exec
  have hb := B.bytes
  have hr := B.returns
  have hts := atoms_spec (ws := .code yX11_bound cX11_bound 8 (some .int) :: GW) B.pre
  have hg : ∀ w ∈ GW, w.before _ s = true := fun w h => hts w (List.mem_cons_of_mem _ h)
  have hown : s.vm.findClass RX11 = some m.cls := findClass_of_methodNamed B.named
  have hlocks := B.notSynchronized
  subst hsz
  have hD := hD0.self (sz := s.heap.size)
  generalize hAe : va_A (MW Y o a I J F G) s.heap.size = A at hD ⊢
  have hA : ∀ q : Nat, s.heap.size ≤ q → A q := fun q h => by rw [← hAe]; exact Or.inr h
  clear hAe hD0 hts B
  have hl := lv_entry ([.ref o, .int p1, .int p2]) (n := 8) (Nat.le_of_ble_eq_true rfl)
  rw [lg_entry_eq]
  generalize (lg_sl ([.ref o, .int p1, .int p2]) ++ List.replicate (8 - (lg_sl ([.ref o, .int p1, .int p2])).length) Slot.unset).toArray = ls at hl ⊢
  have hl : lv_has ls 8 [(0, .ref o), (1, .int p1), (2, .int p2)] := hl
  refine w_start (A0 := A) hP (fun H locs hP hS => ?_)
  refine lv_aload_n hx hb dX11_bound_0 rfl (lv_at hl 0 rfl) ?_
  refine lv_iconst (v := 1) hx hb dX11_bound_1 (by decide) ?_
  refine lv_iload_n hx hb dX11_bound_2 rfl (lv_at hl 1 rfl) ?_
  have zi1 : (1 : Int32).toInt = 1 := by decide
  refine cga (rn_V (As := [.int 1, .int p1]) (rest := []) (b := o) (m_isText1 l D Y Z H.size o a I J F G  p1 hk2) ⟨hx, hb, hml, hown, hg⟩ lk_X11_366 ⟨CP.blind, va_recv hKN.1 hP (ci := 11) (q0 := 0) rfl rfl, CP.at hP hKN hD⟩ ⟨⟨rfl, rfl⟩, ⟨Nat.le_of_ble_eq_true rfl, Nat.le_of_ble_eq_true rfl⟩, ⟨Nat.le_of_ble_eq_true rfl, Nat.le_of_ble_eq_true rfl⟩⟩ hl.1 rfl (Nat.le_of_ble_eq_true rfl) dX11_bound_3) hP hD hS hA (fun u1 H locs w2 hP hD hS => ?_)
  have w2 : ((0 ≤ p1.toInt ∧ p1.toInt ≤ 5 ∧ p1.toInt < ((F 4) 1).toInt ∧ u1.toInt = 1) ∨ u1.toInt = 0) ∧ (0 ≤ u1.toInt ∧ u1.toInt ≤ 1) := w2
  obtain ⟨hw4, hw5⟩ := w2
  refine W.eq (g2 := F0 m 6 ls [.int u1]) rfl ?_
  have hP : va_P D vwCl (MW Y o a I J F G) H := hP
  have hD : va_D A (MW Y o a I J F G) := hD
  rcases (show u1.toInt = 1 ∨ u1.toInt = 0 by omega) with c6 | c6
  · obtain rfl : u1 = 1 := i_is c6 (by decide)
    refine W.eq (g2 := F0 m 6 ls [.int 1]) rfl ?_
    refine lv_if_eq (tgt := 21) hx hb dX11_bound_6 (by decide) (fun c7 => ?_) (fun c7 => ?_)
    · exact absurd c7 (by decide)
    refine lv_iload_n hx hb dX11_bound_9 rfl (lv_at hl 2 rfl) ?_
    have j8 := rgI p2
    have j9 := Int32.toInt_toInt64 p2
    refine lv_i2l (v := p2.toInt64) hx hb dX11_bound_10 (rfl) ?_
    refine lv_lconst (v := 1) hx hb dX11_bound_11 (by decide) ?_
    refine lv_ldc2 (v := 1000) hx hb hown (hg _ kw_1366) dX11_bound_12 ?_
    have zl1 : (1 : Int64).toInt = 1 := by decide
    have zl1000 : (1000 : Int64).toInt = 1000 := by decide
    refine cg0 (rn_S (As := [.long p2.toInt64, .long 1, .long 1000]) (rest := []) (m_in l D Y Z H.size   p2.toInt64 1 1000 ) ⟨hx, hb, hml, hown, hg⟩ lk_X11_99 ⟨CP.blind, CP.at nilP hKN (nilD (A := fun _ => True))⟩ ⟨⟨rfl, rfl⟩, ⟨Nat.le_of_ble_eq_true rfl, Nat.le_of_ble_eq_true rfl⟩, ⟨Nat.le_of_ble_eq_true rfl, Nat.le_of_ble_eq_true rfl⟩⟩ hl.1 rfl (Nat.le_of_ble_eq_true rfl) dX11_bound_15) hP hS hA (fun u10 H locs w11 hP hS => ?_)
    have w11 : (((1 : Int64).toInt ≤ p2.toInt64.toInt ∧ p2.toInt64.toInt ≤ (1000 : Int64).toInt ∧ u10.toInt = 1) ∨ (¬ ((1 : Int64).toInt ≤ p2.toInt64.toInt ∧ p2.toInt64.toInt ≤ (1000 : Int64).toInt) ∧ u10.toInt = 0)) ∧ (0 ≤ u10.toInt ∧ u10.toInt ≤ 1) := w11
    obtain ⟨hw13, hw14⟩ := w11
    refine W.eq (g2 := F0 m 18 ls [.int u10]) rfl ?_
    rcases (show u10.toInt = 1 ∨ u10.toInt = 0 by omega) with c15 | c15
    · obtain rfl : u10 = 1 := i_is c15 (by decide)
      refine W.eq (g2 := F0 m 18 ls [.int 1]) rfl ?_
      refine lv_if_ne (tgt := 23) hx hb dX11_bound_18 (by decide) (fun c16 => ?_) (fun c16 => ?_)
      rotate_left
      · exact absurd c16 (by decide)
      refine lv_aload_n hx hb dX11_bound_23 rfl (lv_at hl 0 rfl) ?_
      refine cga (rn_V (As := []) (rest := []) (b := o) (m_putIn l D Y Z H.size o a I J F G   hk0) ⟨hx, hb, hml, hown, hg⟩ lk_X11_506 ⟨CP.blind, va_recv hKN.1 hP (ci := 11) (q0 := 0) rfl rfl, CP.at hP hKN hD⟩ ⟨⟨rfl, rfl⟩, ⟨Nat.le_of_ble_eq_true rfl, Nat.le_of_ble_eq_true rfl⟩, ⟨Nat.le_of_ble_eq_true rfl, Nat.le_of_ble_eq_true rfl⟩⟩ hl.1 rfl (Nat.le_of_ble_eq_true rfl) dX11_bound_24) hP hD hS hA (fun u17 H locs w18 hP hD hS => ?_)
      have w18 : (0 ≤ u17.toInt ∧ u17.toInt ≤ 40) := w18
      have hw20 := w18
      refine W.eq (g2 := F0 m 27 ls [.int u17]) rfl ?_
      have hP : va_P D vwCl (MW Y o a I J F G) H := hP
      have hD : va_D A (MW Y o a I J F G) := hD
      refine lv_istore_n (lv' := [(3, .int u17), (0, .ref o), (1, .int p1), (2, .int p2)]) hx hb dX11_bound_27 rfl hl (by decide) rfl (fun ls hl => ?_)
      refine lv_iload_n hx hb dX11_bound_28 rfl (lv_at hl 0 rfl) ?_
      refine w_join (σ := Int32 × Int32 × Int64 × Int64 × Int32 × Int32 × Int32 × Int64 × Int64 × Int32 × (Nat → Int32) × (Nat → Int64) × (Nat → Int32) × (Nat → Int64) × (Nat → Int32)) (pcJ := 45) (kJ := 0) (nJ := 0) (stk := fun xx => match xx with | (g43, g44, g45, g46, g47, g48, g49, g50, g51, g52, f53, f54, f55, f56, f57) => [.int g43]) (fun xx H locs ls => match xx with | (g43, g44, g45, g46, g47, g48, g49, g50, g51, g52, f53, f54, f55, f56, f57) => va_P D vwCl (MW Y o a (upd (upd (upd (upd (upd I 29 g44) 34 g47) 35 g48) 36 g49) 39 g52) (vp_updL (vp_updL (vp_updL (vp_updL J 30 g45) 31 g46) 37 g50) 38 g51) (vf_upd (vf_upd (vf_upd F 28 f53) 41 f55) 43 f57) (vf_upd (vf_upd G 40 f54) 42 f56)) H ∧ va_D A (MW Y o a (upd (upd (upd (upd (upd I 29 g44) 34 g47) 35 g48) 36 g49) 39 g52) (vp_updL (vp_updL (vp_updL (vp_updL J 30 g45) 31 g46) 37 g50) 38 g51) (vf_upd (vf_upd (vf_upd F 28 f53) 41 f55) 43 f57) (vf_upd (vf_upd G 40 f54) 42 f56)) ∧ va_S A s.heap H locs ∧ lv_has ls 8 [(3, .int u17), (0, .ref o), (1, .int p1), (2, .int p2)] ∧ (0 ≤ g43.toInt ∧ g43.toInt ≤ 40000) ∧ LB f53) (fun xx H locs ls hI => ?_) (fun jn58 => ?_)
      · skip
        obtain ⟨g43, g44, g45, g46, g47, g48, g49, g50, g51, g52, f53, f54, f55, f56, f57⟩ := xx
        obtain ⟨hP, hD, hS, hl, hq59, hp60⟩ := hI
        refine W.eq (g2 := F0 m 45 ls [.int g43]) rfl ?_
        refine lv_istore (lv' := [(4, .int g43), (3, .int u17), (0, .ref o), (1, .int p1), (2, .int p2)]) hx hb dX11_bound_45 hl (by decide) rfl (fun ls hl => ?_)
        refine lv_iload hx hb dX11_bound_47 (lv_at hl 0 rfl) ?_
        refine lv_if_ne (tgt := 55) hx hb dX11_bound_49 (by decide) (fun c61 => ?_) (fun c61 => ?_)
        · skip
          have c61 := i_ne (Eq.refl g43.toInt) (show (0 : Int32).toInt = 0 by decide) c61
          refine lv_ldc2 (v := 1000000) hx hb hown (hg _ kw_1838) dX11_bound_55 ?_
          refine lv_lstore (lv' := [(5, .long 1000000), (4, .int g43), (3, .int u17), (0, .ref o), (1, .int p1), (2, .int p2)]) hx hb dX11_bound_58 hl (by decide) rfl (fun ls hl => ?_)
          refine lv_iconst (v := 0) hx hb dX11_bound_60 (by decide) ?_
          refine lv_istore (lv' := [(7, .int 0), (5, .long 1000000), (4, .int g43), (3, .int u17), (0, .ref o), (1, .int p1), (2, .int p2)]) hx hb dX11_bound_61 hl (by decide) rfl (fun ls hl => ?_)
          have zi0 : (0 : Int32).toInt = 0 := by decide
          have zl1000000 : (1000000 : Int64).toInt = 1000000 := by decide
          refine w_loop (σ := Int32 × Int64) (fun xx H locs ls => match xx with | (g73, g74) => va_P D vwCl (MW Y o a (upd (upd (upd (upd (upd I 29 g44) 34 g47) 35 g48) 36 g49) 39 g52) (vp_updL (vp_updL (vp_updL (vp_updL J 30 g45) 31 g46) 37 g50) 38 g51) (vf_upd (vf_upd (vf_upd F 28 f53) 41 f55) 43 f57) (vf_upd (vf_upd G 40 f54) 42 f56)) H ∧ va_D A (MW Y o a (upd (upd (upd (upd (upd I 29 g44) 34 g47) 35 g48) 36 g49) 39 g52) (vp_updL (vp_updL (vp_updL (vp_updL J 30 g45) 31 g46) 37 g50) 38 g51) (vf_upd (vf_upd (vf_upd F 28 f53) 41 f55) 43 f57) (vf_upd (vf_upd G 40 f54) 42 f56)) ∧ va_S A s.heap H locs ∧ lv_has ls 8 [(7, .int g73), (5, .long g74), (4, .int g43), (3, .int u17), (0, .ref o), (1, .int p1), (2, .int p2)] ∧ (-40000000000 ≤ g74.toInt ∧ g74.toInt ≤ 1000000)) (fun xx => match xx with | (g73, g74) => (g74.toInt + 40000000000).toNat) (0, 1000000) ⟨hP, hD, hS, lv_sub hl [0, 1, 2, 3, 4, 5, 6] rfl, by omega⟩ (fun xx H locs ls hI ih => ?_)
          obtain ⟨g73, g74⟩ := xx
          obtain ⟨hP, hD, hS, hl, hq88⟩ := hI
          have ih89 := ih
          refine lv_ldc2 (v := 20) hx hb hown (hg _ kw_1843) dX11_bound_63 ?_
          refine lv_lload hx hb dX11_bound_66 (lv_at hl 1 rfl) ?_
          refine lv_lmul hx hb dX11_bound_68 ?_
          refine lv_topl (fun v90 ev90 => ?_)
          have hv90 := l_mul (show (20 : Int64).toInt = 20 by decide) (Eq.refl g74.toInt) ev90 (by omega) (by omega)
          refine lv_ldc2 (v := 1000000) hx hb hown (hg _ kw_1838) dX11_bound_69 ?_
          refine W.lcmp hx hb dX11_bound_72 ?_
          refine lv_if_lt (tgt := 98) hx hb dX11_bound_73 (by decide) (fun c97 => ?_) (fun c97 => ?_)
          · skip
            have c97 := l_lt (Eq.refl v90.toInt) (show (1000000 : Int64).toInt = 1000000 by decide) c97
            refine lv_iload hx hb dX11_bound_98 (lv_at hl 0 rfl) ?_
            refine W.widen (k := 0) (n := 0) (Nat.le_of_ble_eq_true rfl) (Nat.le_of_ble_eq_true rfl) ?_
            exact W.iret (v := g73) hx hb hr (fun t ht hW => ⟨⟨(g73, g47, g48, g49, g52, g50, g51, g44, g45, g46, f53, f54, f55, f56, f57), rfl, (hp60), CB.mk ht hP hD⟩, hS.F ht⟩) hS.2.2 dX11_bound_100
          · skip
            have c97 := l_nlt (Eq.refl v90.toInt) (show (1000000 : Int64).toInt = 1000000 by decide) c97
            refine lv_lload hx hb dX11_bound_76 (lv_at hl 1 rfl) ?_
            refine lv_sipush (v := 1000) hx hb dX11_bound_78 (by decide) ?_
            refine lv_iload hx hb dX11_bound_81 (lv_at hl 2 rfl) ?_
            refine lv_isub hx hb dX11_bound_83 ?_
            refine lv_topi (fun v98 ev98 => ?_)
            have hv98 := i_sub (show (1000 : Int32).toInt = 1000 by decide) (Eq.refl g43.toInt) ev98 (by omega) (by omega)
            have j99 := Int32.toInt_toInt64 v98
            refine lv_i2l (v := v98.toInt64) hx hb dX11_bound_84 (rfl) ?_
            refine lv_lmul hx hb dX11_bound_85 ?_
            refine lv_topl (fun v100 ev100 => ?_)
            have hv100 := l_mulR (a := -40000000000) (b := 1000000) (c := -39000) (d := 999) (lo := -39960000000000) (hi := 1560000000000000) (Eq.refl g74.toInt) (Int32.toInt_toInt64 v98) ev100 (by omega) (by omega) (by decide) (by decide)
            refine lv_ldc2 (v := 1000) hx hb hown (hg _ kw_1366) dX11_bound_86 ?_
            refine lv_ldiv hx hb dX11_bound_89 (l_nz (show (1000 : Int64).toInt = 1000 by decide) (by omega)) ?_
            refine lv_topl (fun v101 ev101 => ?_)
            have hv101 := l_divS (Eq.refl v100.toInt) (show (1000 : Int64).toInt = 1000 by decide) ev101 (by omega)
            refine lv_lstore (lv' := [(5, .long v101), (7, .int g73), (4, .int g43), (3, .int u17), (0, .ref o), (1, .int p1), (2, .int p2)]) hx hb dX11_bound_90 hl (by decide) rfl (fun ls hl => ?_)
            obtain ⟨v102, ev102⟩ : ∃ y : Int32, y = g73 + 1 := ⟨_, rfl⟩
            refine lv_iinc (v := v102) (lv' := [(7, .int v102), (5, .long v101), (4, .int g43), (3, .int u17), (0, .ref o), (1, .int p1), (2, .int p2)]) hx hb dX11_bound_92 hl (k := 1) rfl (by rw [ev102]; rfl) (by decide) rfl (fun ls hl => ?_)
            refine lv_goto (tgt := 63) hx hb dX11_bound_95 (by decide) ?_
            exact ih89 (v102, v101) H locs ls (by show (v101.toInt + 40000000000).toNat < (g74.toInt + 40000000000).toNat; omega) ⟨hP, hD, hS, lv_sub hl [0, 1, 2, 3, 4, 5, 6] rfl, by omega⟩
        · skip
          have c61 := i_eq (Eq.refl g43.toInt) (show (0 : Int32).toInt = 0 by decide) c61
          refine lv_bipush (v := (-2)) hx hb dX11_bound_52 (by decide) ?_
          refine W.widen (k := 0) (n := 0) (Nat.le_of_ble_eq_true rfl) (Nat.le_of_ble_eq_true rfl) ?_
          have zim2 : ((-2) : Int32).toInt = -2 := by decide
          exact W.iret (v := (-2)) hx hb hr (fun t ht hW => ⟨⟨((-2), g47, g48, g49, g52, g50, g51, g44, g45, g46, f53, f54, f55, f56, f57), rfl, (hp60), CB.mk ht hP hD⟩, hS.F ht⟩) hS.2.2 dX11_bound_54
      · skip
        refine lv_if_ne (tgt := 36) hx hb dX11_bound_29 (by decide) (fun c103 => ?_) (fun c103 => ?_)
        · skip
          have c103 := i_ne (Eq.refl u17.toInt) (show (0 : Int32).toInt = 0 by decide) c103
          refine lv_iload_n hx hb dX11_bound_36 rfl (lv_at hl 3 rfl) ?_
          refine lv_aload_n hx hb dX11_bound_37 rfl (lv_at hl 1 rfl) ?_
          refine lv_iload_n hx hb dX11_bound_38 rfl (lv_at hl 2 rfl) ?_
          refine cga (rn_V (As := [.int p1]) (rest := [.int p2]) (b := o) (m_caughtBy l D Y Z H.size o a I J F G  p1 (show (0 ≤ p1.toInt ∧ p1.toInt ≤ 5) by omega) (show (p1.toInt < ((F 4) 1).toInt) by omega) hk0 hk1 hk2) ⟨hx, hb, hml, hown, hg⟩ lk_X11_509 ⟨CP.blind, va_recv hKN.1 hP (ci := 11) (q0 := 0) rfl rfl, CP.at hP hKN hD⟩ ⟨⟨rfl, rfl⟩, ⟨Nat.le_of_ble_eq_true rfl, Nat.le_of_ble_eq_true rfl⟩, ⟨Nat.le_of_ble_eq_true rfl, Nat.le_of_ble_eq_true rfl⟩⟩ hl.1 rfl (Nat.le_of_ble_eq_true rfl) dX11_bound_39) hP hD hS hA (fun u104 H locs w105 hP hD hS => ?_)
          obtain ⟨u106, u107, u108, u109, u110, u111, u112, u113, u114, u115, f116, f117, f118, f119, f120⟩ := u104
          have w105 : (0 ≤ u106.toInt ∧ u106.toInt ≤ 40) ∧ LB f116 := w105
          obtain ⟨hw121, hw122⟩ := w105
          refine W.eq (g2 := F0 m 42 ls [.int u106, .int p2]) rfl ?_
          have hP : va_P D vwCl (MW Y o a (upd (upd (upd (upd (upd I 29 u113) 34 u107) 35 u108) 36 u109) 39 u110) (vp_updL (vp_updL (vp_updL (vp_updL J 30 u114) 31 u115) 37 u111) 38 u112) (vf_upd (vf_upd (vf_upd F 28 f116) 41 f118) 43 f120) (vf_upd (vf_upd G 40 f117) 42 f119)) H := hP
          have hD : va_D A (MW Y o a (upd (upd (upd (upd (upd I 29 u113) 34 u107) 35 u108) 36 u109) 39 u110) (vp_updL (vp_updL (vp_updL (vp_updL J 30 u114) 31 u115) 37 u111) 38 u112) (vf_upd (vf_upd (vf_upd F 28 f116) 41 f118) 43 f120) (vf_upd (vf_upd G 40 f117) 42 f119)) := hD
          refine lv_imul hx hb dX11_bound_42 ?_
          refine lv_topi (fun v123 ev123 => ?_)
          have hv123 := i_mulR (a := 1) (b := 1000) (c := 0) (d := 40) (lo := 0) (hi := 40000) (Eq.refl p2.toInt) (Eq.refl u106.toInt) ev123 (by omega) (by omega) (by decide) (by decide)
          refine lv_iload_n hx hb dX11_bound_43 rfl (lv_at hl 0 rfl) ?_
          refine lv_idiv hx hb dX11_bound_44 (i_nz (Eq.refl u17.toInt) (by omega)) ?_
          refine lv_topi (fun v124 ev124 => ?_)
          have hv124 := i_div (Eq.refl v123.toInt) (Eq.refl u17.toInt) ev124 (by omega) (by omega)
          refine W.widen (k := 0) (n := 0) (Nat.le_of_ble_eq_true rfl) (Nat.le_of_ble_eq_true rfl) ?_
          exact jn58 (v124, u113, u114, u115, u107, u108, u109, u111, u112, u110, f116, f117, f118, f119, f120) H locs ls ⟨hP, hD, hS, lv_sub hl [0, 1, 2, 3] rfl, by omega, hw122⟩
        · skip
          have c103 := i_eq (Eq.refl u17.toInt) (show (0 : Int32).toInt = 0 by decide) c103
          refine lv_iconst (v := 0) hx hb dX11_bound_32 (by decide) ?_
          refine lv_goto (tgt := 45) hx hb dX11_bound_33 (by decide) ?_
          have zi0 : (0 : Int32).toInt = 0 := by decide
          refine W.widen (k := 0) (n := 0) (Nat.le_of_ble_eq_true rfl) (Nat.le_of_ble_eq_true rfl) ?_
          exact jn58 (0, (I 29), (J 30), (J 31), (I 34), (I 35), (I 36), (J 37), (J 38), (I 39), (F 28), (G 40), (F 41), (G 42), (F 43)) H locs ls ⟨hP, hD, hS, lv_sub hl [0, 1, 2, 3] rfl, by omega, hk1⟩
    · obtain rfl : u10 = 0 := i_is c15 (by decide)
      have zi0 : (0 : Int32).toInt = 0 := by decide
      refine W.eq (g2 := F0 m 18 ls [.int 0]) rfl ?_
      refine lv_if_ne (tgt := 23) hx hb dX11_bound_18 (by decide) (fun c125 => ?_) (fun c125 => ?_)
      · exact absurd c125 (by decide)
      refine lv_iconst (v := (-1)) hx hb dX11_bound_21 (by decide) ?_
      refine W.widen (k := 0) (n := 0) (Nat.le_of_ble_eq_true rfl) (Nat.le_of_ble_eq_true rfl) ?_
      have zim1 : ((-1) : Int32).toInt = -1 := by decide
      exact W.iret (v := (-1)) hx hb hr (fun t ht hW => ⟨⟨((-1), (I 34), (I 35), (I 36), (I 39), (J 37), (J 38), (I 29), (J 30), (J 31), (F 28), (G 40), (F 41), (G 42), (F 43)), rfl, (hk1), CB.mk ht hP hD⟩, hS.F ht⟩) hS.2.2 dX11_bound_22
  · obtain rfl : u1 = 0 := i_is c6 (by decide)
    have zi0 : (0 : Int32).toInt = 0 := by decide
    refine W.eq (g2 := F0 m 6 ls [.int 0]) rfl ?_
    refine lv_if_eq (tgt := 21) hx hb dX11_bound_6 (by decide) (fun c126 => ?_) (fun c126 => ?_)
    rotate_left
    · exact absurd c126 (by decide)
    refine lv_iconst (v := (-1)) hx hb dX11_bound_21 (by decide) ?_
    refine W.widen (k := 0) (n := 0) (Nat.le_of_ble_eq_true rfl) (Nat.le_of_ble_eq_true rfl) ?_
    have zim1 : ((-1) : Int32).toInt = -1 := by decide
    exact W.iret (v := (-1)) hx hb hr (fun t ht hW => ⟨⟨((-1), (I 34), (I 35), (I 36), (I 39), (J 37), (J 38), (I 29), (J 30), (J 31), (F 28), (G 40), (F 41), (G 42), (F 43)), rfl, (hk1), CB.mk ht hP hD⟩, hS.F ht⟩) hS.2.2 dX11_bound_22
set_option maxHeartbeats 4000000 in
set_option maxRecDepth 100000 in
theorem m_second (l : Launch) (D : va_G) (Y : Nat → ClassId) (Z : Nat → Nat) (sz : Nat) (o : Nat) (a : Nat → Nat) (I : Nat → Int32) (J : Nat → Int64) (F : Nat → Nat → Int32) (G : Nat → Nat → Int64) (p1 : Int32) (p2 : Int32) (p3 : Int32) (hk0 : TO (F 0)) (hk1 : LB (F 28)) (hk2 : TX (F 4) (F 9) (F 10) (F 11) (F 12) (F 13)) : Met l yX11_second (.code yX11_second cX11_second 5 (some .long) :: GW) ({ frames := 7, cells := 0, slots := 0, locals := 169 }) (va_Pc [.ref o, .int p1, .int p2, .int p3] (CP D Y Z (MW Y o a I J F G) sz)) (QG (S := Int64 × Int32 × Int32 × Int32 × Int32 × Int64 × Int64 × Int32 × Int64 × Int64 × (Nat → Int32) × (Nat → Int32) × (Nat → Int64) × (Nat → Int32) × (Nat → Int64) × (Nat → Int32)) (fun u => some (.long u.1)) (fun u => LB u.2.2.2.2.2.2.2.2.2.2.2.1) (fun u => CB D (MW Y o a (upd (upd (upd (upd (upd I 29 u.2.2.2.2.2.2.2.1) 34 u.2.1) 35 u.2.2.1) 36 u.2.2.2.1) 39 u.2.2.2.2.1) (vp_updL (vp_updL (vp_updL (vp_updL J 30 u.2.2.2.2.2.2.2.2.1) 31 u.2.2.2.2.2.2.2.2.2.1) 37 u.2.2.2.2.2.1) 38 u.2.2.2.2.2.2.1) (vf_upd (vf_upd (vf_upd (vf_upd F 1 u.2.2.2.2.2.2.2.2.2.2.1) 28 u.2.2.2.2.2.2.2.2.2.2.2.1) 41 u.2.2.2.2.2.2.2.2.2.2.2.2.2.1) 43 u.2.2.2.2.2.2.2.2.2.2.2.2.2.2.2) (vf_upd (vf_upd G 40 u.2.2.2.2.2.2.2.2.2.2.2.2.1) 42 u.2.2.2.2.2.2.2.2.2.2.2.2.2.2.1)) (va_A (MW Y o a I J F G) sz)) (va_A (MW Y o a I J F G) sz)) 0 0 (va_A (MW Y o a I J F G) sz) := by
  refine Met.ofW (cc := cX11_second) (maxL := 5) (ret := (some .long)) (by decide) rfl ?_
  intro p e s m args below meth c s₁ B hml hv
  obtain ⟨rfl, hsz, hP, hKN, hD0⟩ := hv
  have hx := B.exec
  have hb := B.bytes
  have hr := B.returns
  have hts := atoms_spec (ws := .code yX11_second cX11_second 5 (some .long) :: GW) B.pre
  have hg : ∀ w ∈ GW, w.before _ s = true := fun w h => hts w (List.mem_cons_of_mem _ h)
  have hown : s.vm.findClass RX11 = some m.cls := findClass_of_methodNamed B.named
  have hlocks := B.notSynchronized
  subst hsz
  have hD := hD0.self (sz := s.heap.size)
  generalize hAe : va_A (MW Y o a I J F G) s.heap.size = A at hD ⊢
  have hA : ∀ q : Nat, s.heap.size ≤ q → A q := fun q h => by rw [← hAe]; exact Or.inr h
  clear hAe hD0 hts B
  have hl := lv_entry ([.ref o, .int p1, .int p2, .int p3]) (n := 5) (Nat.le_of_ble_eq_true rfl)
  rw [lg_entry_eq]
  generalize (lg_sl ([.ref o, .int p1, .int p2, .int p3]) ++ List.replicate (5 - (lg_sl ([.ref o, .int p1, .int p2, .int p3])).length) Slot.unset).toArray = ls at hl ⊢
  have hl : lv_has ls 5 [(0, .ref o), (1, .int p1), (2, .int p2), (3, .int p3)] := hl
  refine w_start (A0 := A) hP (fun H locs hP hS => ?_)
  refine lv_aload_n hx hb dX11_second_0 rfl (lv_at hl 0 rfl) ?_
  refine lv_iconst (v := 1) hx hb dX11_second_1 (by decide) ?_
  refine lv_iload_n hx hb dX11_second_2 rfl (lv_at hl 1 rfl) ?_
  have zi1 : (1 : Int32).toInt = 1 := by decide
  refine cga (rn_V (As := [.int 1, .int p1]) (rest := []) (b := o) (m_isText1 l D Y Z H.size o a I J F G  p1 hk2) ⟨hx, hb, hml, hown, hg⟩ lk_X11_366 ⟨CP.blind, va_recv hKN.1 hP (ci := 11) (q0 := 0) rfl rfl, CP.at hP hKN hD⟩ ⟨⟨rfl, rfl⟩, ⟨Nat.le_of_ble_eq_true rfl, Nat.le_of_ble_eq_true rfl⟩, ⟨Nat.le_of_ble_eq_true rfl, Nat.le_of_ble_eq_true rfl⟩⟩ hl.1 rfl (Nat.le_of_ble_eq_true rfl) dX11_second_3) hP hD hS hA (fun u1 H locs w2 hP hD hS => ?_)
  have w2 : ((0 ≤ p1.toInt ∧ p1.toInt ≤ 5 ∧ p1.toInt < ((F 4) 1).toInt ∧ u1.toInt = 1) ∨ u1.toInt = 0) ∧ (0 ≤ u1.toInt ∧ u1.toInt ≤ 1) := w2
  obtain ⟨hw4, hw5⟩ := w2
  refine W.eq (g2 := F0 m 6 ls [.int u1]) rfl ?_
  have hP : va_P D vwCl (MW Y o a I J F G) H := hP
  have hD : va_D A (MW Y o a I J F G) := hD
  rcases (show u1.toInt = 1 ∨ u1.toInt = 0 by omega) with c6 | c6
  · obtain rfl : u1 = 1 := i_is c6 (by decide)
    refine W.eq (g2 := F0 m 6 ls [.int 1]) rfl ?_
    refine lv_if_eq (tgt := 39) hx hb dX11_second_6 (by decide) (fun c7 => ?_) (fun c7 => ?_)
    · exact absurd c7 (by decide)
    refine lv_aload_n hx hb dX11_second_9 rfl (lv_at hl 0 rfl) ?_
    refine lv_iload_n hx hb dX11_second_10 rfl (lv_at hl 2 rfl) ?_
    refine cga (rn_V (As := [.int p2]) (rest := []) (b := o) (m_isStar l D Y Z H.size o a I J F G  p2 hk0) ⟨hx, hb, hml, hown, hg⟩ lk_X11_108 ⟨CP.blind, va_recv hKN.1 hP (ci := 11) (q0 := 0) rfl rfl, CP.at hP hKN hD⟩ ⟨⟨rfl, rfl⟩, ⟨Nat.le_of_ble_eq_true rfl, Nat.le_of_ble_eq_true rfl⟩, ⟨Nat.le_of_ble_eq_true rfl, Nat.le_of_ble_eq_true rfl⟩⟩ hl.1 rfl (Nat.le_of_ble_eq_true rfl) dX11_second_11) hP hD hS hA (fun u8 H locs w9 hP hD hS => ?_)
    have w9 : ((0 ≤ p2.toInt ∧ p2.toInt ≤ 11 ∧ p2.toInt < ((F 0) 0).toInt ∧ u8.toInt = 1) ∨ (¬ (0 ≤ p2.toInt ∧ p2.toInt < ((F 0) 0).toInt) ∧ u8.toInt = 0)) ∧ (0 ≤ u8.toInt ∧ u8.toInt ≤ 1) := w9
    obtain ⟨hw11, hw12⟩ := w9
    refine W.eq (g2 := F0 m 14 ls [.int u8]) rfl ?_
    have hP : va_P D vwCl (MW Y o a I J F G) H := hP
    have hD : va_D A (MW Y o a I J F G) := hD
    rcases (show u8.toInt = 1 ∨ u8.toInt = 0 by omega) with c13 | c13
    · obtain rfl : u8 = 1 := i_is c13 (by decide)
      refine W.eq (g2 := F0 m 14 ls [.int 1]) rfl ?_
      refine lv_if_eq (tgt := 39) hx hb dX11_second_14 (by decide) (fun c14 => ?_) (fun c14 => ?_)
      · exact absurd c14 (by decide)
      refine lv_iload_n hx hb dX11_second_17 rfl (lv_at hl 3 rfl) ?_
      have j15 := rgI p3
      have j16 := Int32.toInt_toInt64 p3
      refine lv_i2l (v := p3.toInt64) hx hb dX11_second_18 (rfl) ?_
      refine lv_lconst (v := 0) hx hb dX11_second_19 (by decide) ?_
      refine lv_ldc2 (v := 6) hx hb hown (hg _ kw_1706) dX11_second_20 ?_
      have zl0 : (0 : Int64).toInt = 0 := by decide
      have zl6 : (6 : Int64).toInt = 6 := by decide
      refine cg0 (rn_S (As := [.long p3.toInt64, .long 0, .long 6]) (rest := []) (m_in l D Y Z H.size   p3.toInt64 0 6 ) ⟨hx, hb, hml, hown, hg⟩ lk_X11_99 ⟨CP.blind, CP.at nilP hKN (nilD (A := fun _ => True))⟩ ⟨⟨rfl, rfl⟩, ⟨Nat.le_of_ble_eq_true rfl, Nat.le_of_ble_eq_true rfl⟩, ⟨Nat.le_of_ble_eq_true rfl, Nat.le_of_ble_eq_true rfl⟩⟩ hl.1 rfl (Nat.le_of_ble_eq_true rfl) dX11_second_23) hP hS hA (fun u17 H locs w18 hP hS => ?_)
      have w18 : (((0 : Int64).toInt ≤ p3.toInt64.toInt ∧ p3.toInt64.toInt ≤ (6 : Int64).toInt ∧ u17.toInt = 1) ∨ (¬ ((0 : Int64).toInt ≤ p3.toInt64.toInt ∧ p3.toInt64.toInt ≤ (6 : Int64).toInt) ∧ u17.toInt = 0)) ∧ (0 ≤ u17.toInt ∧ u17.toInt ≤ 1) := w18
      obtain ⟨hw20, hw21⟩ := w18
      refine W.eq (g2 := F0 m 26 ls [.int u17]) rfl ?_
      rcases (show u17.toInt = 1 ∨ u17.toInt = 0 by omega) with c22 | c22
      · obtain rfl : u17 = 1 := i_is c22 (by decide)
        refine W.eq (g2 := F0 m 26 ls [.int 1]) rfl ?_
        refine lv_if_eq (tgt := 39) hx hb dX11_second_26 (by decide) (fun c23 => ?_) (fun c23 => ?_)
        · exact absurd c23 (by decide)
        refine lv_aload_n hx hb dX11_second_29 rfl (lv_at hl 0 rfl) ?_
        refine lv_iload_n hx hb dX11_second_30 rfl (lv_at hl 1 rfl) ?_
        refine lv_iload_n hx hb dX11_second_31 rfl (lv_at hl 2 rfl) ?_
        refine lv_iconst (v := 0) hx hb dX11_second_32 (by decide) ?_
        have zi0 : (0 : Int32).toInt = 0 := by decide
        refine cga (rn_V (As := [.int p1, .int p2, .int 0]) (rest := []) (b := o) (m_finds l D Y Z H.size o a I J F G  p1 p2 0 (show (0 ≤ p1.toInt ∧ p1.toInt ≤ 5) by omega) (show (p1.toInt < ((F 4) 1).toInt) by omega) (show (0 ≤ p2.toInt ∧ p2.toInt ≤ 11) by omega) (show (0 ≤ (0 : Int32).toInt ∧ (0 : Int32).toInt ≤ 5) by omega) hk0 hk1 hk2) ⟨hx, hb, hml, hown, hg⟩ lk_X11_487 ⟨CP.blind, va_recv hKN.1 hP (ci := 11) (q0 := 0) rfl rfl, CP.at hP hKN hD⟩ ⟨⟨rfl, rfl⟩, ⟨Nat.le_of_ble_eq_true rfl, Nat.le_of_ble_eq_true rfl⟩, ⟨Nat.le_of_ble_eq_true rfl, Nat.le_of_ble_eq_true rfl⟩⟩ hl.1 rfl (Nat.le_of_ble_eq_true rfl) dX11_second_33) hP hD hS hA (fun u24 H locs w25 hP hD hS => ?_)
        obtain ⟨u26, u27, u28, u29, u30, u31, u32, u33, u34, u35, f36, f37, f38, f39, f40, f41⟩ := u24
        have w25 : ((u26.toInt = 1 ∧ 1 ≤ u32.toInt ∧ 2 ≤ u27.toInt ∧ u27.toInt ≤ 200 ∧ 1 ≤ u28.toInt ∧ u28.toInt ≤ 10 ∧ 0 ≤ u29.toInt ∧ u29.toInt < u27.toInt ∧ -9000000000000 ≤ u31.toInt ∧ u31.toInt ≤ 9000000000000 ∧ (cin f37 (u27.toInt).toNat (u28.toInt).toNat (u29.toInt).toNat 600 : Int) ≠ u33.toInt) ∨ u26.toInt = 0) ∧ (0 ≤ u26.toInt ∧ u26.toInt ≤ 1) ∧ (0 ≤ u33.toInt ∧ u33.toInt ≤ 600) ∧ (-60000000 ≤ u34.toInt ∧ u34.toInt ≤ 60000000) ∧ (1 ≤ u35.toInt) ∧ LB f37 := w25
        obtain ⟨hw42, hw43, hw44, hw45, hw46, hw47⟩ := w25
        refine W.eq (g2 := F0 m 36 ls [.int u26]) rfl ?_
        have hP : va_P D vwCl (MW Y o a (upd (upd (upd (upd (upd I 29 u33) 34 u27) 35 u28) 36 u29) 39 u30) (vp_updL (vp_updL (vp_updL (vp_updL J 30 u34) 31 u35) 37 u31) 38 u32) (vf_upd (vf_upd (vf_upd (vf_upd F 1 f36) 28 f37) 41 f39) 43 f41) (vf_upd (vf_upd G 40 f38) 42 f40)) H := hP
        have hD : va_D A (MW Y o a (upd (upd (upd (upd (upd I 29 u33) 34 u27) 35 u28) 36 u29) 39 u30) (vp_updL (vp_updL (vp_updL (vp_updL J 30 u34) 31 u35) 37 u31) 38 u32) (vf_upd (vf_upd (vf_upd (vf_upd F 1 f36) 28 f37) 41 f39) 43 f41) (vf_upd (vf_upd G 40 f38) 42 f40)) := hD
        rcases (show u26.toInt = 1 ∨ u26.toInt = 0 by omega) with c48 | c48
        · obtain rfl : u26 = 1 := i_is c48 (by decide)
          refine W.eq (g2 := F0 m 36 ls [.int 1]) rfl ?_
          refine lv_if_ne (tgt := 43) hx hb dX11_second_36 (by decide) (fun c49 => ?_) (fun c49 => ?_)
          rotate_left
          · exact absurd c49 (by decide)
          refine lv_iconst (v := 0) hx hb dX11_second_43 (by decide) ?_
          refine lv_istore (lv' := [(4, .int 0), (0, .ref o), (1, .int p1), (2, .int p2), (3, .int p3)]) hx hb dX11_second_44 hl (by decide) rfl (fun ls hl => ?_)
          refine w_loop (σ := Int32 × (Nat → Int32)) (fun xx H locs ls => match xx with | (g82, f83) => va_P D vwCl (MW Y o a (upd (upd (upd (upd (upd I 29 u33) 34 u27) 35 u28) 36 u29) 39 u30) (vp_updL (vp_updL (vp_updL (vp_updL J 30 u34) 31 u35) 37 u31) 38 u32) (vf_upd (vf_upd (vf_upd (vf_upd F 1 f36) 28 f83) 41 f39) 43 f41) (vf_upd (vf_upd G 40 f38) 42 f40)) H ∧ va_D A (MW Y o a (upd (upd (upd (upd (upd I 29 u33) 34 u27) 35 u28) 36 u29) 39 u30) (vp_updL (vp_updL (vp_updL (vp_updL J 30 u34) 31 u35) 37 u31) 38 u32) (vf_upd (vf_upd (vf_upd (vf_upd F 1 f36) 28 f83) 41 f39) 43 f41) (vf_upd (vf_upd G 40 f38) 42 f40)) ∧ va_S A s.heap H locs ∧ lv_has ls 5 [(4, .int g82), (0, .ref o), (1, .int p1), (2, .int p2), (3, .int p3)] ∧ (0 ≤ g82.toInt ∧ g82.toInt ≤ 600) ∧ LB f83) (fun xx => match xx with | (g82, f83) => (600 - g82.toInt).toNat) (0, f37) ⟨hP, hD, hS, lv_sub hl [0, 1, 2, 3, 4] rfl, by omega, hw47⟩ (fun xx H locs ls hI ih => ?_)
          obtain ⟨g82, f83⟩ := xx
          obtain ⟨hP, hD, hS, hl, hq118, hp119⟩ := hI
          have ih120 := ih
          refine lv_iload hx hb dX11_second_46 (lv_at hl 0 rfl) ?_
          refine lv_sipush (v := 600) hx hb dX11_second_48 (by decide) ?_
          refine lv_icmp_ge (tgt := 89) hx hb dX11_second_51 (by decide) (fun c138 => ?_) (fun c138 => ?_)
          · skip
            have c138 := i_le (show (600 : Int32).toInt = 600 by decide) (Eq.refl g82.toInt) c138
            refine lv_aload_n hx hb dX11_second_89 rfl (lv_at hl 1 rfl) ?_
            refine cga (rn_V (As := []) (rest := []) (b := o) (m_counts l D Y Z H.size o a (upd (upd (upd (upd (upd I 29 u33) 34 u27) 35 u28) 36 u29) 39 u30) (vp_updL (vp_updL (vp_updL (vp_updL J 30 u34) 31 u35) 37 u31) 38 u32) (vf_upd (vf_upd (vf_upd (vf_upd F 1 f36) 28 f83) 41 f39) 43 f41) (vf_upd (vf_upd G 40 f38) 42 f40)   hp119) ⟨hx, hb, hml, hown, hg⟩ lk_X11_391 ⟨CP.blind, va_recv hKN.1 hP (ci := 11) (q0 := 0) rfl rfl, CP.at hP hKN hD⟩ ⟨⟨rfl, rfl⟩, ⟨Nat.le_of_ble_eq_true rfl, Nat.le_of_ble_eq_true rfl⟩, ⟨Nat.le_of_ble_eq_true rfl, Nat.le_of_ble_eq_true rfl⟩⟩ hl.1 rfl (Nat.le_of_ble_eq_true rfl) dX11_second_90) hP hD hS hA (fun u139 H locs w140 hP hD hS => ?_)
            obtain ⟨u141, u142, u143⟩ := u139
            have w140 : (0 ≤ u141.toInt ∧ u141.toInt ≤ 600) ∧ (-60000000 ≤ u142.toInt ∧ u142.toInt ≤ 60000000) ∧ (1 ≤ u143.toInt) := w140
            obtain ⟨hw144, hw145, hw146⟩ := w140
            refine W.eq (g2 := F0 m 93 ls []) rfl ?_
            have hP : va_P D vwCl (MW Y o a (upd (upd (upd (upd (upd I 29 u141) 34 u27) 35 u28) 36 u29) 39 u30) (vp_updL (vp_updL (vp_updL (vp_updL J 30 u142) 31 u143) 37 u31) 38 u32) (vf_upd (vf_upd (vf_upd (vf_upd F 1 f36) 28 f83) 41 f39) 43 f41) (vf_upd (vf_upd G 40 f38) 42 f40)) H := hP
            have hD : va_D A (MW Y o a (upd (upd (upd (upd (upd I 29 u141) 34 u27) 35 u28) 36 u29) 39 u30) (vp_updL (vp_updL (vp_updL (vp_updL J 30 u142) 31 u143) 37 u31) 38 u32) (vf_upd (vf_upd (vf_upd (vf_upd F 1 f36) 28 f83) 41 f39) 43 f41) (vf_upd (vf_upd G 40 f38) 42 f40)) := hD
            refine lv_aload_n hx hb dX11_second_93 rfl (lv_at hl 1 rfl) ?_
            refine lv_iload_n hx hb dX11_second_94 rfl (lv_at hl 2 rfl) ?_
            refine cga (rn_V (As := [.int p1]) (rest := []) (b := o) (m_seeks l D Y Z H.size o a (upd (upd (upd (upd (upd I 29 u141) 34 u27) 35 u28) 36 u29) 39 u30) (vp_updL (vp_updL (vp_updL (vp_updL J 30 u142) 31 u143) 37 u31) 38 u32) (vf_upd (vf_upd (vf_upd (vf_upd F 1 f36) 28 f83) 41 f39) 43 f41) (vf_upd (vf_upd G 40 f38) 42 f40)  p1 (show (0 ≤ p1.toInt ∧ p1.toInt ≤ 5) by omega) (show (p1.toInt < ((F 4) 1).toInt) by omega) (show (0 ≤ u141.toInt ∧ u141.toInt ≤ 600) by omega) (show (-60000000 ≤ u142.toInt ∧ u142.toInt ≤ 60000000) by omega) (show (1 ≤ u143.toInt) by omega) hp119 hk2) ⟨hx, hb, hml, hown, hg⟩ lk_X11_480 ⟨CP.blind, va_recv hKN.1 hP (ci := 11) (q0 := 0) rfl rfl, CP.at hP hKN hD⟩ ⟨⟨rfl, rfl⟩, ⟨Nat.le_of_ble_eq_true rfl, Nat.le_of_ble_eq_true rfl⟩, ⟨Nat.le_of_ble_eq_true rfl, Nat.le_of_ble_eq_true rfl⟩⟩ hl.1 rfl (Nat.le_of_ble_eq_true rfl) dX11_second_95) hP hD hS hA (fun u147 H locs w148 hP hD hS => ?_)
            obtain ⟨u149, u150, u151, u152, u153, u154, u155, f156, f157, f158, f159⟩ := u147
            have w148 : ((u149.toInt = 1 ∧ 1 ≤ u155.toInt ∧ 2 ≤ u150.toInt ∧ u150.toInt ≤ 200 ∧ 1 ≤ u151.toInt ∧ u151.toInt ≤ 10 ∧ 0 ≤ u152.toInt ∧ u152.toInt < u150.toInt ∧ -9000000000000 ≤ u154.toInt ∧ u154.toInt ≤ 9000000000000 ∧ (cin f83 (u150.toInt).toNat (u151.toInt).toNat (u152.toInt).toNat 600 : Int) ≠ u141.toInt) ∨ u149.toInt = 0) ∧ (0 ≤ u149.toInt ∧ u149.toInt ≤ 1) := w148
            obtain ⟨hw160, hw161⟩ := w148
            refine W.eq (g2 := F0 m 98 ls [.int u149]) rfl ?_
            have hP : va_P D vwCl (MW Y o a (upd (upd (upd (upd (upd I 29 u141) 34 u150) 35 u151) 36 u152) 39 u153) (vp_updL (vp_updL (vp_updL (vp_updL J 30 u142) 31 u143) 37 u154) 38 u155) (vf_upd (vf_upd (vf_upd (vf_upd F 1 f36) 28 f83) 41 f157) 43 f159) (vf_upd (vf_upd G 40 f156) 42 f158)) H := hP
            have hD : va_D A (MW Y o a (upd (upd (upd (upd (upd I 29 u141) 34 u150) 35 u151) 36 u152) 39 u153) (vp_updL (vp_updL (vp_updL (vp_updL J 30 u142) 31 u143) 37 u154) 38 u155) (vf_upd (vf_upd (vf_upd (vf_upd F 1 f36) 28 f83) 41 f157) 43 f159) (vf_upd (vf_upd G 40 f156) 42 f158)) := hD
            rcases (show u149.toInt = 1 ∨ u149.toInt = 0 by omega) with c162 | c162
            · obtain rfl : u149 = 1 := i_is c162 (by decide)
              refine W.eq (g2 := F0 m 98 ls [.int 1]) rfl ?_
              refine lv_if_eq (tgt := 110) hx hb dX11_second_98 (by decide) (fun c167 => ?_) (fun c167 => ?_)
              · exact absurd c167 (by decide)
              refine lv_aload_n hx hb dX11_second_101 rfl (lv_at hl 1 rfl) ?_
              refine lv_iload_n hx hb dX11_second_102 rfl (lv_at hl 2 rfl) ?_
              refine lv_iload_n hx hb dX11_second_103 rfl (lv_at hl 4 rfl) ?_
              refine cga (rn_V (As := [.int p1, .int p3]) (rest := []) (b := o) (m_tells l D Y Z H.size o a (upd (upd (upd (upd (upd I 29 u141) 34 u150) 35 u151) 36 u152) 39 u153) (vp_updL (vp_updL (vp_updL (vp_updL J 30 u142) 31 u143) 37 u154) 38 u155) (vf_upd (vf_upd (vf_upd (vf_upd F 1 f36) 28 f83) 41 f157) 43 f159) (vf_upd (vf_upd G 40 f156) 42 f158)  p1 p3 (show (0 ≤ p1.toInt ∧ p1.toInt ≤ 5) by omega)) ⟨hx, hb, hml, hown, hg⟩ lk_X11_491 ⟨CP.blind, va_recv hKN.1 hP (ci := 11) (q0 := 0) rfl rfl, CP.at hP hKN hD⟩ ⟨⟨rfl, rfl⟩, ⟨Nat.le_of_ble_eq_true rfl, Nat.le_of_ble_eq_true rfl⟩, ⟨Nat.le_of_ble_eq_true rfl, Nat.le_of_ble_eq_true rfl⟩⟩ hl.1 rfl (Nat.le_of_ble_eq_true rfl) dX11_second_104) hP hD hS hA (fun u168 H locs w169 hP hD hS => ?_)
              refine W.eq (g2 := F0 m 107 ls [.long u168]) rfl ?_
              have hP : va_P D vwCl (MW Y o a (upd (upd (upd (upd (upd I 29 u141) 34 u150) 35 u151) 36 u152) 39 u153) (vp_updL (vp_updL (vp_updL (vp_updL J 30 u142) 31 u143) 37 u154) 38 u155) (vf_upd (vf_upd (vf_upd (vf_upd F 1 f36) 28 f83) 41 f157) 43 f159) (vf_upd (vf_upd G 40 f156) 42 f158)) H := hP
              have hD : va_D A (MW Y o a (upd (upd (upd (upd (upd I 29 u141) 34 u150) 35 u151) 36 u152) 39 u153) (vp_updL (vp_updL (vp_updL (vp_updL J 30 u142) 31 u143) 37 u154) 38 u155) (vf_upd (vf_upd (vf_upd (vf_upd F 1 f36) 28 f83) 41 f157) 43 f159) (vf_upd (vf_upd G 40 f156) 42 f158)) := hD
              refine lv_goto (tgt := 123) hx hb dX11_second_107 (by decide) ?_
              refine W.widen (k := 0) (n := 0) (Nat.le_of_ble_eq_true rfl) (Nat.le_of_ble_eq_true rfl) ?_
              exact W.lret (v := u168) hx hb hr (fun t ht hW => ⟨⟨(u168, u150, u151, u152, u153, u154, u155, u141, u142, u143, f36, f83, f156, f157, f158, f159), rfl, (hp119), CB.mk ht hP hD⟩, hS.F ht⟩) hS.2.2 dX11_second_123
            · obtain rfl : u149 = 0 := i_is c162 (by decide)
              refine W.eq (g2 := F0 m 98 ls [.int 0]) rfl ?_
              refine lv_if_eq (tgt := 110) hx hb dX11_second_98 (by decide) (fun c173 => ?_) (fun c173 => ?_)
              rotate_left
              · exact absurd c173 (by decide)
              refine lv_iload_n hx hb dX11_second_110 rfl (lv_at hl 4 rfl) ?_
              refine lv_bipush (v := 6) hx hb dX11_second_111 (by decide) ?_
              refine lv_icmp_ne (tgt := 120) hx hb dX11_second_113 (by decide) (fun c175 => ?_) (fun c175 => ?_)
              · skip
                have c175 := i_ne (Eq.refl p3.toInt) (show (6 : Int32).toInt = 6 by decide) c175
                refine lv_ldc2 (v := (-1)) hx hb hown (hg _ kw_1650) dX11_second_120 ?_
                refine W.widen (k := 0) (n := 0) (Nat.le_of_ble_eq_true rfl) (Nat.le_of_ble_eq_true rfl) ?_
                have zlm1 : ((-1) : Int64).toInt = -1 := by decide
                exact W.lret (v := (-1)) hx hb hr (fun t ht hW => ⟨⟨((-1), u150, u151, u152, u153, u154, u155, u141, u142, u143, f36, f83, f156, f157, f158, f159), rfl, (hp119), CB.mk ht hP hD⟩, hS.F ht⟩) hS.2.2 dX11_second_123
              · skip
                have c175 := i_eq (Eq.refl p3.toInt) (show (6 : Int32).toInt = 6 by decide) c175
                refine lv_lconst (v := 0) hx hb dX11_second_116 (by decide) ?_
                refine lv_goto (tgt := 123) hx hb dX11_second_117 (by decide) ?_
                refine W.widen (k := 0) (n := 0) (Nat.le_of_ble_eq_true rfl) (Nat.le_of_ble_eq_true rfl) ?_
                exact W.lret (v := 0) hx hb hr (fun t ht hW => ⟨⟨(0, u150, u151, u152, u153, u154, u155, u141, u142, u143, f36, f83, f156, f157, f158, f159), rfl, (hp119), CB.mk ht hP hD⟩, hS.F ht⟩) hS.2.2 dX11_second_123
          · skip
            have c138 := i_nle (show (600 : Int32).toInt = 600 by decide) (Eq.refl g82.toInt) c138
            refine lv_iload hx hb dX11_second_54 (lv_at hl 0 rfl) ?_
            refine lv_aload_n hx hb dX11_second_56 rfl (lv_at hl 1 rfl) ?_
            refine va_get (D := D) (ci := 11) (v := .int u27) (C := RX11) (T := TX11) (N := 49) hx hb hg inGX11 hown hKN.1 hP 0 rfl rfl 34 (by decide) (hg _ kw_1242) (fun _ h9 => h9) rfl dX11_second_57 ?_
            refine lv_aload_n hx hb dX11_second_60 rfl (lv_at hl 1 rfl) ?_
            refine va_get (D := D) (ci := 11) (v := .int u29) (C := RX11) (T := TX11) (N := 49) hx hb hg inGX11 hown hKN.1 hP 0 rfl rfl 36 (by decide) (hg _ kw_1244) (fun _ h9 => h9) rfl dX11_second_61 ?_
            refine cg0 (rn_S (As := [.int g82, .int u27, .int u29]) (rest := []) (m_placeAt l D Y Z H.size   g82 u27 u29 (show (0 ≤ g82.toInt ∧ g82.toInt ≤ 599) by omega) (show (1 ≤ u27.toInt ∧ u27.toInt ≤ 400) by omega) (show (0 ≤ u29.toInt ∧ u29.toInt ≤ 400) by omega) (show (u29.toInt ≤ u27.toInt) by omega)) ⟨hx, hb, hml, hown, hg⟩ lk_X11_448 ⟨CP.blind, CP.at nilP hKN (nilD (A := fun _ => True))⟩ ⟨⟨rfl, rfl⟩, ⟨Nat.le_of_ble_eq_true rfl, Nat.le_of_ble_eq_true rfl⟩, ⟨Nat.le_of_ble_eq_true rfl, Nat.le_of_ble_eq_true rfl⟩⟩ hl.1 rfl (Nat.le_of_ble_eq_true rfl) dX11_second_64) hP hS hA (fun u176 H locs w177 hP hS => ?_)
            have w177 : (u176.toInt = (plc (u27.toInt).toNat (u29.toInt).toNat (g82.toInt).toNat : Int)) := w177
            have hw179 := w177
            refine W.eq (g2 := F0 m 67 ls [.int u176]) rfl ?_
            refine lv_aload_n hx hb dX11_second_67 rfl (lv_at hl 1 rfl) ?_
            refine va_get (D := D) (ci := 11) (v := .int u28) (C := RX11) (T := TX11) (N := 49) hx hb hg inGX11 hown hKN.1 hP 0 rfl rfl 35 (by decide) (hg _ kw_1243) (fun _ h9 => h9) rfl dX11_second_68 ?_
            refine w_join (σ := (Nat → Int32)) (pcJ := 83) (kJ := 0) (nJ := 0) (stk := fun xx => match xx with | f184 => []) (fun xx H locs ls => match xx with | f184 => va_P D vwCl (MW Y o a (upd (upd (upd (upd (upd I 29 u33) 34 u27) 35 u28) 36 u29) 39 u30) (vp_updL (vp_updL (vp_updL (vp_updL J 30 u34) 31 u35) 37 u31) 38 u32) (vf_upd (vf_upd (vf_upd (vf_upd F 1 f36) 28 f184) 41 f39) 43 f41) (vf_upd (vf_upd G 40 f38) 42 f40)) H ∧ va_D A (MW Y o a (upd (upd (upd (upd (upd I 29 u33) 34 u27) 35 u28) 36 u29) 39 u30) (vp_updL (vp_updL (vp_updL (vp_updL J 30 u34) 31 u35) 37 u31) 38 u32) (vf_upd (vf_upd (vf_upd (vf_upd F 1 f36) 28 f184) 41 f39) 43 f41) (vf_upd (vf_upd G 40 f38) 42 f40)) ∧ va_S A s.heap H locs ∧ lv_has ls 5 [(4, .int g82), (0, .ref o), (1, .int p1), (2, .int p2), (3, .int p3)] ∧ LB f184) (fun xx H locs ls hI => ?_) (fun jn185 => ?_)
            · skip
              revert hI
              generalize xx = f184
              intro hI
              obtain ⟨hP, hD, hS, hl, hp186⟩ := hI
              refine W.eq (g2 := F0 m 83 ls []) rfl ?_
              obtain ⟨v187, ev187⟩ : ∃ y : Int32, y = g82 + 1 := ⟨_, rfl⟩
              have hv187 := i_add (Eq.refl g82.toInt) (show (1 : Int32).toInt = 1 by decide) ev187 (by omega) (by omega)
              refine lv_iinc (v := v187) (lv' := [(4, .int v187), (0, .ref o), (1, .int p1), (2, .int p2), (3, .int p3)]) hx hb dX11_second_83 hl (k := 0) rfl (by rw [ev187]; rfl) (by decide) rfl (fun ls hl => ?_)
              refine lv_goto (tgt := 46) hx hb dX11_second_86 (by decide) ?_
              exact ih120 (v187, f184) H locs ls (by show (600 - v187.toInt).toNat < (600 - g82.toInt).toNat; omega) ⟨hP, hD, hS, lv_sub hl [0, 1, 2, 3, 4] rfl, by omega, hp186⟩
            · skip
              have j188 := rgI u176
              refine lv_icmp_ge (tgt := 83) hx hb dX11_second_71 (by decide) (fun c189 => ?_) (fun c189 => ?_)
              · skip
                have c189 := i_le (Eq.refl u28.toInt) (Eq.refl u176.toInt) c189
                refine W.widen (k := 0) (n := 0) (Nat.le_of_ble_eq_true rfl) (Nat.le_of_ble_eq_true rfl) ?_
                exact jn185 (f83) H locs ls ⟨hP, hD, hS, lv_sub hl [0, 1, 2, 3, 4] rfl, hp119⟩
              · skip
                have c189 := i_nle (Eq.refl u28.toInt) (Eq.refl u176.toInt) c189
                refine lv_aload_n hx hb dX11_second_74 rfl (lv_at hl 1 rfl) ?_
                refine va_get (D := D) (ci := 11) (v := .ref (a 28)) (C := RX11) (T := TX11) (N := 49) hx hb hg inGX11 hown hKN.1 hP 0 rfl rfl 28 (by decide) (hg _ kw_1236) (fun _ h9 => h9) rfl dX11_second_75 ?_
                refine lv_iload hx hb dX11_second_78 (lv_at hl 0 rfl) ?_
                refine lv_ldc (v := (-100000)) hx hb hown (hg _ kw_1367) dX11_second_80 ?_
                refine va_iast hx hb hKN.1 hP hD hS 19 0 rfl rfl (vp_in_iff.mpr ⟨by omega, by omega⟩) dX11_second_82 (fun H locs hP hD hS => ?_)
                obtain ⟨f190, ef190, hP, hD⟩ : ∃ f190 : Nat → Int32, f190 = upd f83 g82.toNatClampNeg (-100000) ∧ va_P D vwCl (MW Y o a (upd (upd (upd (upd (upd I 29 u33) 34 u27) 35 u28) 36 u29) 39 u30) (vp_updL (vp_updL (vp_updL (vp_updL J 30 u34) 31 u35) 37 u31) 38 u32) (vf_upd (vf_upd (vf_upd (vf_upd F 1 f36) 28 f190) 41 f39) 43 f41) (vf_upd (vf_upd G 40 f38) 42 f40)) H ∧ va_D A (MW Y o a (upd (upd (upd (upd (upd I 29 u33) 34 u27) 35 u28) 36 u29) 39 u30) (vp_updL (vp_updL (vp_updL (vp_updL J 30 u34) 31 u35) 37 u31) 38 u32) (vf_upd (vf_upd (vf_upd (vf_upd F 1 f36) 28 f190) 41 f39) 43 f41) (vf_upd (vf_upd G 40 f38) 42 f40)) := ⟨_, rfl, hP, hD⟩
                have zim100000 : ((-100000) : Int32).toInt = -100000 := by decide
                have t191 : LB f190 := by rw [ef190]; exact LB_set hp119 (by omega)
                refine W.widen (k := 0) (n := 0) (Nat.le_of_ble_eq_true rfl) (Nat.le_of_ble_eq_true rfl) ?_
                exact jn185 (f190) H locs ls ⟨hP, hD, hS, lv_sub hl [0, 1, 2, 3, 4] rfl, t191⟩
        · obtain rfl : u26 = 0 := i_is c48 (by decide)
          refine W.eq (g2 := F0 m 36 ls [.int 0]) rfl ?_
          refine lv_if_ne (tgt := 43) hx hb dX11_second_36 (by decide) (fun c192 => ?_) (fun c192 => ?_)
          · exact absurd c192 (by decide)
          refine lv_ldc2 (v := (-2)) hx hb hown (hg _ kw_1707) dX11_second_39 ?_
          refine W.widen (k := 0) (n := 0) (Nat.le_of_ble_eq_true rfl) (Nat.le_of_ble_eq_true rfl) ?_
          have zlm2 : ((-2) : Int64).toInt = -2 := by decide
          exact W.lret (v := (-2)) hx hb hr (fun t ht hW => ⟨⟨((-2), u27, u28, u29, u30, u31, u32, u33, u34, u35, f36, f37, f38, f39, f40, f41), rfl, (hw47), CB.mk ht hP hD⟩, hS.F ht⟩) hS.2.2 dX11_second_42
      · obtain rfl : u17 = 0 := i_is c22 (by decide)
        have zi0 : (0 : Int32).toInt = 0 := by decide
        refine W.eq (g2 := F0 m 26 ls [.int 0]) rfl ?_
        refine lv_if_eq (tgt := 39) hx hb dX11_second_26 (by decide) (fun c193 => ?_) (fun c193 => ?_)
        rotate_left
        · exact absurd c193 (by decide)
        refine lv_ldc2 (v := (-2)) hx hb hown (hg _ kw_1707) dX11_second_39 ?_
        refine W.widen (k := 0) (n := 0) (Nat.le_of_ble_eq_true rfl) (Nat.le_of_ble_eq_true rfl) ?_
        have zlm2 : ((-2) : Int64).toInt = -2 := by decide
        exact W.lret (v := (-2)) hx hb hr (fun t ht hW => ⟨⟨((-2), (I 34), (I 35), (I 36), (I 39), (J 37), (J 38), (I 29), (J 30), (J 31), (F 1), (F 28), (G 40), (F 41), (G 42), (F 43)), rfl, (hk1), CB.mk ht hP hD⟩, hS.F ht⟩) hS.2.2 dX11_second_42
    · obtain rfl : u8 = 0 := i_is c13 (by decide)
      have zi0 : (0 : Int32).toInt = 0 := by decide
      refine W.eq (g2 := F0 m 14 ls [.int 0]) rfl ?_
      refine lv_if_eq (tgt := 39) hx hb dX11_second_14 (by decide) (fun c194 => ?_) (fun c194 => ?_)
      rotate_left
      · exact absurd c194 (by decide)
      refine lv_ldc2 (v := (-2)) hx hb hown (hg _ kw_1707) dX11_second_39 ?_
      refine W.widen (k := 0) (n := 0) (Nat.le_of_ble_eq_true rfl) (Nat.le_of_ble_eq_true rfl) ?_
      have zlm2 : ((-2) : Int64).toInt = -2 := by decide
      exact W.lret (v := (-2)) hx hb hr (fun t ht hW => ⟨⟨((-2), (I 34), (I 35), (I 36), (I 39), (J 37), (J 38), (I 29), (J 30), (J 31), (F 1), (F 28), (G 40), (F 41), (G 42), (F 43)), rfl, (hk1), CB.mk ht hP hD⟩, hS.F ht⟩) hS.2.2 dX11_second_42
  · obtain rfl : u1 = 0 := i_is c6 (by decide)
    have zi0 : (0 : Int32).toInt = 0 := by decide
    refine W.eq (g2 := F0 m 6 ls [.int 0]) rfl ?_
    refine lv_if_eq (tgt := 39) hx hb dX11_second_6 (by decide) (fun c195 => ?_) (fun c195 => ?_)
    rotate_left
    · exact absurd c195 (by decide)
    refine lv_ldc2 (v := (-2)) hx hb hown (hg _ kw_1707) dX11_second_39 ?_
    refine W.widen (k := 0) (n := 0) (Nat.le_of_ble_eq_true rfl) (Nat.le_of_ble_eq_true rfl) ?_
    have zlm2 : ((-2) : Int64).toInt = -2 := by decide
    exact W.lret (v := (-2)) hx hb hr (fun t ht hW => ⟨⟨((-2), (I 34), (I 35), (I 36), (I 39), (J 37), (J 38), (I 29), (J 30), (J 31), (F 1), (F 28), (G 40), (F 41), (G 42), (F 43)), rfl, (hk1), CB.mk ht hP hD⟩, hS.F ht⟩) hS.2.2 dX11_second_42
