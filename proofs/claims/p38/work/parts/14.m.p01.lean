set_option maxHeartbeats 4000000 in
set_option maxRecDepth 100000 in
theorem m_wordHere (l : Launch) (D : va_G) (Y : Nat → ClassId) (Z : Nat → Nat) (sz : Nat) (o : Nat) (a : Nat → Nat) (I : Nat → Int32) (J : Nat → Int64) (F : Nat → Nat → Int32) (G : Nat → Nat → Int64) (hk_0 : (0 ≤ (I 16).toInt ∧ (I 16).toInt ≤ 400)) (hk_1 : (0 ≤ (I 3).toInt ∧ (I 3).toInt ≤ 400)) (hk_2 : ((I 16).toInt ≤ (I 3).toInt)) (hk_3 : (0 ≤ (I 19).toInt ∧ (I 19).toInt ≤ 17)) : Met l yX11_wordHere (.code yX11_wordHere cX11_wordHere 1 (some .int) :: GW) ({ frames := 2, cells := 0, slots := 0, locals := 46 }) (va_Pc [.ref o] (CP D Y Z (MW Y o a I J F G) sz)) (QG (S := Int32 × Int32) (fun u => some (.int u.1)) (fun u => (0 ≤ u.2.toInt ∧ u.2.toInt ≤ 400) ∧ ((I 16).toInt ≤ u.2.toInt) ∧ (u.2.toInt ≤ (I 3).toInt) ∧ (-1 ≤ u.1.toInt ∧ u.1.toInt ≤ 9) ∧ (0 ≤ u.1.toInt → (u.2.toInt < (I 3).toInt ∧ 97 ≤ ((F 2) u.2.toNatClampNeg).toInt ∧ ((F 2) u.2.toNatClampNeg).toInt ≤ 122))) (fun u => CB D (MW Y o a (upd I 16 u.2) J F G) (va_A (MW Y o a I J F G) sz)) (va_A (MW Y o a I J F G) sz)) 0 0 (va_A (MW Y o a I J F G) sz) := by
  refine Met.ofW (cc := cX11_wordHere) (maxL := 1) (ret := (some .int)) (by decide) rfl ?_
  intro p e s m args below meth c s₁ B hml hv
  obtain ⟨rfl, hsz, hP, hKN, hD0⟩ := hv
  have hx := B.exec
  have hb := B.bytes
  have hr := B.returns
  have hts := atoms_spec (ws := .code yX11_wordHere cX11_wordHere 1 (some .int) :: GW) B.pre
  have hg : ∀ w ∈ GW, w.before _ s = true := fun w h => hts w (List.mem_cons_of_mem _ h)
  have hown : s.vm.findClass RX11 = some m.cls := findClass_of_methodNamed B.named
  have hlocks := B.notSynchronized
  subst hsz
  have hD := hD0.self (sz := s.heap.size)
  generalize hAe : va_A (MW Y o a I J F G) s.heap.size = A at hD ⊢
  have hA : ∀ q : Nat, s.heap.size ≤ q → A q := fun q h => by rw [← hAe]; exact Or.inr h
  clear hAe hD0 hts B
  have hl := lv_entry ([.ref o]) (n := 1) (Nat.le_of_ble_eq_true rfl)
  rw [lg_entry_eq]
  generalize (lg_sl ([.ref o]) ++ List.replicate (1 - (lg_sl ([.ref o])).length) Slot.unset).toArray = ls at hl ⊢
  have hl : lv_has ls 1 [(0, .ref o)] := hl
  refine w_start (A0 := A) hP (fun H locs hP hS => ?_)
  refine lv_aload_n hx hb dX11_wordHere_0 rfl (lv_at hl 0 rfl) ?_
  refine va_get (D := D) (ci := 11) (v := .int (I 19)) (C := RX11) (T := TX11) (N := 49) hx hb hg inGX11 hown hKN.1 hP 0 rfl rfl 19 (by decide) (hg _ kw_1227) (fun _ h9 => h9) rfl dX11_wordHere_1 ?_
  refine lv_bipush (v := 6) hx hb dX11_wordHere_4 (by decide) ?_
  refine lv_icmp_ge (tgt := 81) hx hb dX11_wordHere_6 (by decide) (fun c1 => ?_) (fun c1 => ?_)
  · skip
    have c1 := i_le (show (6 : Int32).toInt = 6 by decide) (Eq.refl (I 19).toInt) c1
    refine lv_aload_n hx hb dX11_wordHere_81 rfl (lv_at hl 0 rfl) ?_
    refine lv_ldc2 (v := 1650811252) hx hb hown (hg _ kw_1485) dX11_wordHere_82 ?_
    have zl1650811252 : (1650811252 : Int64).toInt = 1650811252 := by decide
    refine cga (rn_V (As := [.long 1650811252]) (rest := []) (b := o) (m_isWord l D Y Z H.size o a I J F G  1650811252 (show (0 ≤ (I 16).toInt ∧ (I 16).toInt ≤ 400) by omega) (show (0 ≤ (I 3).toInt ∧ (I 3).toInt ≤ 400) by omega) (show ((I 16).toInt ≤ (I 3).toInt) by omega)) ⟨hx, hb, hml, hown, hg⟩ lk_X11_190 ⟨CP.blind, va_recv hKN.1 hP (ci := 11) (q0 := 0) rfl rfl, CP.at hP hKN hD⟩ ⟨⟨rfl, rfl⟩, ⟨Nat.le_of_ble_eq_true rfl, Nat.le_of_ble_eq_true rfl⟩, ⟨Nat.le_of_ble_eq_true rfl, Nat.le_of_ble_eq_true rfl⟩⟩ hl.1 rfl (Nat.le_of_ble_eq_true rfl) dX11_wordHere_85) hP hD hS hA (fun u2 H locs w3 hP hD hS => ?_)
    obtain ⟨u4, u5⟩ := u2
    obtain ⟨hw6, hw7, hw8, hw9, hw10⟩ : (0 ≤ u5.toInt ∧ u5.toInt ≤ 400) ∧ ((I 16).toInt ≤ u5.toInt) ∧ (u5.toInt ≤ (I 3).toInt) ∧ (0 ≤ u4.toInt ∧ u4.toInt ≤ 1) ∧ (u4.toInt = 1 → (u5.toInt < (I 3).toInt ∧ 97 ≤ ((F 2) u5.toNatClampNeg).toInt ∧ ((F 2) u5.toNatClampNeg).toInt ≤ 122)) := w3
    refine W.eq (g2 := F0 m 88 ls [.int u4]) rfl ?_
    have hP : va_P D vwCl (MW Y o a (upd I 16 u5) J F G) H := hP
    have hD : va_D A (MW Y o a (upd I 16 u5) J F G) := hD
    rcases (show u4.toInt = 1 ∨ u4.toInt = 0 by omega) with c11 | c11
    · obtain rfl : u4 = 1 := i_is c11 (by decide)
      have zi1 : (1 : Int32).toInt = 1 := by decide
      replace hw10 := hw10 (by decide)
      refine W.eq (g2 := F0 m 88 ls [.int 1]) rfl ?_
      refine lv_if_eq (tgt := 93) hx hb dX11_wordHere_88 (by decide) (fun c12 => ?_) (fun c12 => ?_)
      · exact absurd c12 (by decide)
      refine lv_iconst (v := 0) hx hb dX11_wordHere_91 (by decide) ?_
      refine W.widen (k := 0) (n := 0) (Nat.le_of_ble_eq_true rfl) (Nat.le_of_ble_eq_true rfl) ?_
      have zi0 : (0 : Int32).toInt = 0 := by decide
      exact W.iret (v := 0) hx hb hr (fun t ht hW => ⟨⟨(0, u5), rfl, ⟨(show (0 ≤ u5.toInt ∧ u5.toInt ≤ 400) by omega), (show ((I 16).toInt ≤ u5.toInt) by omega), (show (u5.toInt ≤ (I 3).toInt) by omega), (show (-1 ≤ (0 : Int32).toInt ∧ (0 : Int32).toInt ≤ 9) by omega), (show (0 ≤ (0 : Int32).toInt → (u5.toInt < (I 3).toInt ∧ 97 ≤ ((F 2) u5.toNatClampNeg).toInt ∧ ((F 2) u5.toNatClampNeg).toInt ≤ 122)) by omega)⟩, CB.mk ht hP hD⟩, hS.F ht⟩) hS.2.2 dX11_wordHere_92
    · obtain rfl : u4 = 0 := i_is c11 (by decide)
      have zi0 : (0 : Int32).toInt = 0 := by decide
      clear hw10
      refine W.eq (g2 := F0 m 88 ls [.int 0]) rfl ?_
      refine lv_if_eq (tgt := 93) hx hb dX11_wordHere_88 (by decide) (fun c13 => ?_) (fun c13 => ?_)
      rotate_left
      · exact absurd c13 (by decide)
      refine lv_aload_n hx hb dX11_wordHere_93 rfl (lv_at hl 0 rfl) ?_
      refine lv_ldc2 (v := 1819242087) hx hb hown (hg _ kw_1486) dX11_wordHere_94 ?_
      have zl1819242087 : (1819242087 : Int64).toInt = 1819242087 := by decide
      refine cga (rn_V (As := [.long 1819242087]) (rest := []) (b := o) (m_isWord l D Y Z H.size o a (upd I 16 u5) J F G  1819242087 (show (0 ≤ u5.toInt ∧ u5.toInt ≤ 400) by omega) (show (0 ≤ (I 3).toInt ∧ (I 3).toInt ≤ 400) by omega) (show (u5.toInt ≤ (I 3).toInt) by omega)) ⟨hx, hb, hml, hown, hg⟩ lk_X11_190 ⟨CP.blind, va_recv hKN.1 hP (ci := 11) (q0 := 0) rfl rfl, CP.at hP hKN hD⟩ ⟨⟨rfl, rfl⟩, ⟨Nat.le_of_ble_eq_true rfl, Nat.le_of_ble_eq_true rfl⟩, ⟨Nat.le_of_ble_eq_true rfl, Nat.le_of_ble_eq_true rfl⟩⟩ hl.1 rfl (Nat.le_of_ble_eq_true rfl) dX11_wordHere_97) hP hD hS hA (fun u14 H locs w15 hP hD hS => ?_)
      obtain ⟨u16, u17⟩ := u14
      obtain ⟨hw18, hw19, hw20, hw21, hw22⟩ : (0 ≤ u17.toInt ∧ u17.toInt ≤ 400) ∧ (u5.toInt ≤ u17.toInt) ∧ (u17.toInt ≤ (I 3).toInt) ∧ (0 ≤ u16.toInt ∧ u16.toInt ≤ 1) ∧ (u16.toInt = 1 → (u17.toInt < (I 3).toInt ∧ 97 ≤ ((F 2) u17.toNatClampNeg).toInt ∧ ((F 2) u17.toNatClampNeg).toInt ≤ 122)) := w15
      refine W.eq (g2 := F0 m 100 ls [.int u16]) rfl ?_
      have hP : va_P D vwCl (MW Y o a (upd I 16 u17) J F G) H := hP
      have hD : va_D A (MW Y o a (upd I 16 u17) J F G) := hD
      rcases (show u16.toInt = 1 ∨ u16.toInt = 0 by omega) with c23 | c23
      · obtain rfl : u16 = 1 := i_is c23 (by decide)
        have zi1 : (1 : Int32).toInt = 1 := by decide
        replace hw22 := hw22 (by decide)
        refine W.eq (g2 := F0 m 100 ls [.int 1]) rfl ?_
        refine lv_if_eq (tgt := 105) hx hb dX11_wordHere_100 (by decide) (fun c24 => ?_) (fun c24 => ?_)
        · exact absurd c24 (by decide)
        refine lv_iconst (v := 1) hx hb dX11_wordHere_103 (by decide) ?_
        refine W.widen (k := 0) (n := 0) (Nat.le_of_ble_eq_true rfl) (Nat.le_of_ble_eq_true rfl) ?_
        exact W.iret (v := 1) hx hb hr (fun t ht hW => ⟨⟨(1, u17), rfl, ⟨(show (0 ≤ u17.toInt ∧ u17.toInt ≤ 400) by omega), (show ((I 16).toInt ≤ u17.toInt) by omega), (show (u17.toInt ≤ (I 3).toInt) by omega), (show (-1 ≤ (1 : Int32).toInt ∧ (1 : Int32).toInt ≤ 9) by omega), (show (0 ≤ (1 : Int32).toInt → (u17.toInt < (I 3).toInt ∧ 97 ≤ ((F 2) u17.toNatClampNeg).toInt ∧ ((F 2) u17.toNatClampNeg).toInt ≤ 122)) by omega)⟩, CB.mk ht hP hD⟩, hS.F ht⟩) hS.2.2 dX11_wordHere_104
      · obtain rfl : u16 = 0 := i_is c23 (by decide)
        clear hw22
        refine W.eq (g2 := F0 m 100 ls [.int 0]) rfl ?_
        refine lv_if_eq (tgt := 105) hx hb dX11_wordHere_100 (by decide) (fun c25 => ?_) (fun c25 => ?_)
        rotate_left
        · exact absurd c25 (by decide)
        refine lv_aload_n hx hb dX11_wordHere_105 rfl (lv_at hl 0 rfl) ?_
        refine lv_ldc2 (v := 1684366704) hx hb hown (hg _ kw_1543) dX11_wordHere_106 ?_
        have zl1684366704 : (1684366704 : Int64).toInt = 1684366704 := by decide
        refine cga (rn_V (As := [.long 1684366704]) (rest := []) (b := o) (m_isWord l D Y Z H.size o a (upd I 16 u17) J F G  1684366704 (show (0 ≤ u17.toInt ∧ u17.toInt ≤ 400) by omega) (show (0 ≤ (I 3).toInt ∧ (I 3).toInt ≤ 400) by omega) (show (u17.toInt ≤ (I 3).toInt) by omega)) ⟨hx, hb, hml, hown, hg⟩ lk_X11_190 ⟨CP.blind, va_recv hKN.1 hP (ci := 11) (q0 := 0) rfl rfl, CP.at hP hKN hD⟩ ⟨⟨rfl, rfl⟩, ⟨Nat.le_of_ble_eq_true rfl, Nat.le_of_ble_eq_true rfl⟩, ⟨Nat.le_of_ble_eq_true rfl, Nat.le_of_ble_eq_true rfl⟩⟩ hl.1 rfl (Nat.le_of_ble_eq_true rfl) dX11_wordHere_109) hP hD hS hA (fun u26 H locs w27 hP hD hS => ?_)
        obtain ⟨u28, u29⟩ := u26
        obtain ⟨hw30, hw31, hw32, hw33, hw34⟩ : (0 ≤ u29.toInt ∧ u29.toInt ≤ 400) ∧ (u17.toInt ≤ u29.toInt) ∧ (u29.toInt ≤ (I 3).toInt) ∧ (0 ≤ u28.toInt ∧ u28.toInt ≤ 1) ∧ (u28.toInt = 1 → (u29.toInt < (I 3).toInt ∧ 97 ≤ ((F 2) u29.toNatClampNeg).toInt ∧ ((F 2) u29.toNatClampNeg).toInt ≤ 122)) := w27
        refine W.eq (g2 := F0 m 112 ls [.int u28]) rfl ?_
        have hP : va_P D vwCl (MW Y o a (upd I 16 u29) J F G) H := hP
        have hD : va_D A (MW Y o a (upd I 16 u29) J F G) := hD
        rcases (show u28.toInt = 1 ∨ u28.toInt = 0 by omega) with c35 | c35
        · obtain rfl : u28 = 1 := i_is c35 (by decide)
          have zi1 : (1 : Int32).toInt = 1 := by decide
          replace hw34 := hw34 (by decide)
          refine W.eq (g2 := F0 m 112 ls [.int 1]) rfl ?_
          refine lv_if_eq (tgt := 117) hx hb dX11_wordHere_112 (by decide) (fun c36 => ?_) (fun c36 => ?_)
          · exact absurd c36 (by decide)
          refine lv_iconst (v := 2) hx hb dX11_wordHere_115 (by decide) ?_
          refine W.widen (k := 0) (n := 0) (Nat.le_of_ble_eq_true rfl) (Nat.le_of_ble_eq_true rfl) ?_
          have zi2 : (2 : Int32).toInt = 2 := by decide
          exact W.iret (v := 2) hx hb hr (fun t ht hW => ⟨⟨(2, u29), rfl, ⟨(show (0 ≤ u29.toInt ∧ u29.toInt ≤ 400) by omega), (show ((I 16).toInt ≤ u29.toInt) by omega), (show (u29.toInt ≤ (I 3).toInt) by omega), (show (-1 ≤ (2 : Int32).toInt ∧ (2 : Int32).toInt ≤ 9) by omega), (show (0 ≤ (2 : Int32).toInt → (u29.toInt < (I 3).toInt ∧ 97 ≤ ((F 2) u29.toNatClampNeg).toInt ∧ ((F 2) u29.toNatClampNeg).toInt ≤ 122)) by omega)⟩, CB.mk ht hP hD⟩, hS.F ht⟩) hS.2.2 dX11_wordHere_116
        · obtain rfl : u28 = 0 := i_is c35 (by decide)
          clear hw34
          refine W.eq (g2 := F0 m 112 ls [.int 0]) rfl ?_
          refine lv_if_eq (tgt := 117) hx hb dX11_wordHere_112 (by decide) (fun c37 => ?_) (fun c37 => ?_)
          rotate_left
          · exact absurd c37 (by decide)
          refine lv_aload_n hx hb dX11_wordHere_117 rfl (lv_at hl 0 rfl) ?_
          refine lv_ldc2 (v := 495589487205) hx hb hown (hg _ kw_1544) dX11_wordHere_118 ?_
          have zl495589487205 : (495589487205 : Int64).toInt = 495589487205 := by decide
          refine cga (rn_V (As := [.long 495589487205]) (rest := []) (b := o) (m_isWord l D Y Z H.size o a (upd I 16 u29) J F G  495589487205 (show (0 ≤ u29.toInt ∧ u29.toInt ≤ 400) by omega) (show (0 ≤ (I 3).toInt ∧ (I 3).toInt ≤ 400) by omega) (show (u29.toInt ≤ (I 3).toInt) by omega)) ⟨hx, hb, hml, hown, hg⟩ lk_X11_190 ⟨CP.blind, va_recv hKN.1 hP (ci := 11) (q0 := 0) rfl rfl, CP.at hP hKN hD⟩ ⟨⟨rfl, rfl⟩, ⟨Nat.le_of_ble_eq_true rfl, Nat.le_of_ble_eq_true rfl⟩, ⟨Nat.le_of_ble_eq_true rfl, Nat.le_of_ble_eq_true rfl⟩⟩ hl.1 rfl (Nat.le_of_ble_eq_true rfl) dX11_wordHere_121) hP hD hS hA (fun u38 H locs w39 hP hD hS => ?_)
          obtain ⟨u40, u41⟩ := u38
          obtain ⟨hw42, hw43, hw44, hw45, hw46⟩ : (0 ≤ u41.toInt ∧ u41.toInt ≤ 400) ∧ (u29.toInt ≤ u41.toInt) ∧ (u41.toInt ≤ (I 3).toInt) ∧ (0 ≤ u40.toInt ∧ u40.toInt ≤ 1) ∧ (u40.toInt = 1 → (u41.toInt < (I 3).toInt ∧ 97 ≤ ((F 2) u41.toNatClampNeg).toInt ∧ ((F 2) u41.toNatClampNeg).toInt ≤ 122)) := w39
          refine W.eq (g2 := F0 m 124 ls [.int u40]) rfl ?_
          have hP : va_P D vwCl (MW Y o a (upd I 16 u41) J F G) H := hP
          have hD : va_D A (MW Y o a (upd I 16 u41) J F G) := hD
          rcases (show u40.toInt = 1 ∨ u40.toInt = 0 by omega) with c47 | c47
          · obtain rfl : u40 = 1 := i_is c47 (by decide)
            have zi1 : (1 : Int32).toInt = 1 := by decide
            replace hw46 := hw46 (by decide)
            refine W.eq (g2 := F0 m 124 ls [.int 1]) rfl ?_
            refine lv_if_eq (tgt := 129) hx hb dX11_wordHere_124 (by decide) (fun c48 => ?_) (fun c48 => ?_)
            · exact absurd c48 (by decide)
            refine lv_iconst (v := 3) hx hb dX11_wordHere_127 (by decide) ?_
            refine W.widen (k := 0) (n := 0) (Nat.le_of_ble_eq_true rfl) (Nat.le_of_ble_eq_true rfl) ?_
            have zi3 : (3 : Int32).toInt = 3 := by decide
            exact W.iret (v := 3) hx hb hr (fun t ht hW => ⟨⟨(3, u41), rfl, ⟨(show (0 ≤ u41.toInt ∧ u41.toInt ≤ 400) by omega), (show ((I 16).toInt ≤ u41.toInt) by omega), (show (u41.toInt ≤ (I 3).toInt) by omega), (show (-1 ≤ (3 : Int32).toInt ∧ (3 : Int32).toInt ≤ 9) by omega), (show (0 ≤ (3 : Int32).toInt → (u41.toInt < (I 3).toInt ∧ 97 ≤ ((F 2) u41.toNatClampNeg).toInt ∧ ((F 2) u41.toNatClampNeg).toInt ≤ 122)) by omega)⟩, CB.mk ht hP hD⟩, hS.F ht⟩) hS.2.2 dX11_wordHere_128
          · obtain rfl : u40 = 0 := i_is c47 (by decide)
            clear hw46
            refine W.eq (g2 := F0 m 124 ls [.int 0]) rfl ?_
            refine lv_if_eq (tgt := 129) hx hb dX11_wordHere_124 (by decide) (fun c49 => ?_) (fun c49 => ?_)
            rotate_left
            · exact absurd c49 (by decide)
            refine lv_aload_n hx hb dX11_wordHere_129 rfl (lv_at hl 0 rfl) ?_
            refine lv_ldc2 (v := 1684631667) hx hb hown (hg _ kw_1545) dX11_wordHere_130 ?_
            have zl1684631667 : (1684631667 : Int64).toInt = 1684631667 := by decide
            refine cga (rn_V (As := [.long 1684631667]) (rest := []) (b := o) (m_isWord l D Y Z H.size o a (upd I 16 u41) J F G  1684631667 (show (0 ≤ u41.toInt ∧ u41.toInt ≤ 400) by omega) (show (0 ≤ (I 3).toInt ∧ (I 3).toInt ≤ 400) by omega) (show (u41.toInt ≤ (I 3).toInt) by omega)) ⟨hx, hb, hml, hown, hg⟩ lk_X11_190 ⟨CP.blind, va_recv hKN.1 hP (ci := 11) (q0 := 0) rfl rfl, CP.at hP hKN hD⟩ ⟨⟨rfl, rfl⟩, ⟨Nat.le_of_ble_eq_true rfl, Nat.le_of_ble_eq_true rfl⟩, ⟨Nat.le_of_ble_eq_true rfl, Nat.le_of_ble_eq_true rfl⟩⟩ hl.1 rfl (Nat.le_of_ble_eq_true rfl) dX11_wordHere_133) hP hD hS hA (fun u50 H locs w51 hP hD hS => ?_)
            obtain ⟨u52, u53⟩ := u50
            obtain ⟨hw54, hw55, hw56, hw57, hw58⟩ : (0 ≤ u53.toInt ∧ u53.toInt ≤ 400) ∧ (u41.toInt ≤ u53.toInt) ∧ (u53.toInt ≤ (I 3).toInt) ∧ (0 ≤ u52.toInt ∧ u52.toInt ≤ 1) ∧ (u52.toInt = 1 → (u53.toInt < (I 3).toInt ∧ 97 ≤ ((F 2) u53.toNatClampNeg).toInt ∧ ((F 2) u53.toNatClampNeg).toInt ≤ 122)) := w51
            refine W.eq (g2 := F0 m 136 ls [.int u52]) rfl ?_
            have hP : va_P D vwCl (MW Y o a (upd I 16 u53) J F G) H := hP
            have hD : va_D A (MW Y o a (upd I 16 u53) J F G) := hD
            rcases (show u52.toInt = 1 ∨ u52.toInt = 0 by omega) with c59 | c59
            · obtain rfl : u52 = 1 := i_is c59 (by decide)
              have zi1 : (1 : Int32).toInt = 1 := by decide
              replace hw58 := hw58 (by decide)
              refine W.eq (g2 := F0 m 136 ls [.int 1]) rfl ?_
              refine lv_if_eq (tgt := 141) hx hb dX11_wordHere_136 (by decide) (fun c60 => ?_) (fun c60 => ?_)
              · exact absurd c60 (by decide)
              refine lv_iconst (v := 4) hx hb dX11_wordHere_139 (by decide) ?_
              refine W.widen (k := 0) (n := 0) (Nat.le_of_ble_eq_true rfl) (Nat.le_of_ble_eq_true rfl) ?_
              have zi4 : (4 : Int32).toInt = 4 := by decide
              exact W.iret (v := 4) hx hb hr (fun t ht hW => ⟨⟨(4, u53), rfl, ⟨(show (0 ≤ u53.toInt ∧ u53.toInt ≤ 400) by omega), (show ((I 16).toInt ≤ u53.toInt) by omega), (show (u53.toInt ≤ (I 3).toInt) by omega), (show (-1 ≤ (4 : Int32).toInt ∧ (4 : Int32).toInt ≤ 9) by omega), (show (0 ≤ (4 : Int32).toInt → (u53.toInt < (I 3).toInt ∧ 97 ≤ ((F 2) u53.toNatClampNeg).toInt ∧ ((F 2) u53.toNatClampNeg).toInt ≤ 122)) by omega)⟩, CB.mk ht hP hD⟩, hS.F ht⟩) hS.2.2 dX11_wordHere_140
            · obtain rfl : u52 = 0 := i_is c59 (by decide)
              clear hw58
              refine W.eq (g2 := F0 m 136 ls [.int 0]) rfl ?_
              refine lv_if_eq (tgt := 141) hx hb dX11_wordHere_136 (by decide) (fun c61 => ?_) (fun c61 => ?_)
              rotate_left
              · exact absurd c61 (by decide)
              refine lv_aload_n hx hb dX11_wordHere_141 rfl (lv_at hl 0 rfl) ?_
              refine lv_ldc2 (v := 7300196) hx hb hown (hg _ kw_1546) dX11_wordHere_142 ?_
              have zl7300196 : (7300196 : Int64).toInt = 7300196 := by decide
              refine cga (rn_V (As := [.long 7300196]) (rest := []) (b := o) (m_isWord l D Y Z H.size o a (upd I 16 u53) J F G  7300196 (show (0 ≤ u53.toInt ∧ u53.toInt ≤ 400) by omega) (show (0 ≤ (I 3).toInt ∧ (I 3).toInt ≤ 400) by omega) (show (u53.toInt ≤ (I 3).toInt) by omega)) ⟨hx, hb, hml, hown, hg⟩ lk_X11_190 ⟨CP.blind, va_recv hKN.1 hP (ci := 11) (q0 := 0) rfl rfl, CP.at hP hKN hD⟩ ⟨⟨rfl, rfl⟩, ⟨Nat.le_of_ble_eq_true rfl, Nat.le_of_ble_eq_true rfl⟩, ⟨Nat.le_of_ble_eq_true rfl, Nat.le_of_ble_eq_true rfl⟩⟩ hl.1 rfl (Nat.le_of_ble_eq_true rfl) dX11_wordHere_145) hP hD hS hA (fun u62 H locs w63 hP hD hS => ?_)
              obtain ⟨u64, u65⟩ := u62
              obtain ⟨hw66, hw67, hw68, hw69, hw70⟩ : (0 ≤ u65.toInt ∧ u65.toInt ≤ 400) ∧ (u53.toInt ≤ u65.toInt) ∧ (u65.toInt ≤ (I 3).toInt) ∧ (0 ≤ u64.toInt ∧ u64.toInt ≤ 1) ∧ (u64.toInt = 1 → (u65.toInt < (I 3).toInt ∧ 97 ≤ ((F 2) u65.toNatClampNeg).toInt ∧ ((F 2) u65.toNatClampNeg).toInt ≤ 122)) := w63
              refine W.eq (g2 := F0 m 148 ls [.int u64]) rfl ?_
              have hP : va_P D vwCl (MW Y o a (upd I 16 u65) J F G) H := hP
              have hD : va_D A (MW Y o a (upd I 16 u65) J F G) := hD
              rcases (show u64.toInt = 1 ∨ u64.toInt = 0 by omega) with c71 | c71
              · obtain rfl : u64 = 1 := i_is c71 (by decide)
                have zi1 : (1 : Int32).toInt = 1 := by decide
                replace hw70 := hw70 (by decide)
                refine W.eq (g2 := F0 m 148 ls [.int 1]) rfl ?_
                refine lv_if_eq (tgt := 153) hx hb dX11_wordHere_148 (by decide) (fun c72 => ?_) (fun c72 => ?_)
                · exact absurd c72 (by decide)
                refine lv_iconst (v := 5) hx hb dX11_wordHere_151 (by decide) ?_
                refine W.widen (k := 0) (n := 0) (Nat.le_of_ble_eq_true rfl) (Nat.le_of_ble_eq_true rfl) ?_
                have zi5 : (5 : Int32).toInt = 5 := by decide
                exact W.iret (v := 5) hx hb hr (fun t ht hW => ⟨⟨(5, u65), rfl, ⟨(show (0 ≤ u65.toInt ∧ u65.toInt ≤ 400) by omega), (show ((I 16).toInt ≤ u65.toInt) by omega), (show (u65.toInt ≤ (I 3).toInt) by omega), (show (-1 ≤ (5 : Int32).toInt ∧ (5 : Int32).toInt ≤ 9) by omega), (show (0 ≤ (5 : Int32).toInt → (u65.toInt < (I 3).toInt ∧ 97 ≤ ((F 2) u65.toNatClampNeg).toInt ∧ ((F 2) u65.toNatClampNeg).toInt ≤ 122)) by omega)⟩, CB.mk ht hP hD⟩, hS.F ht⟩) hS.2.2 dX11_wordHere_152
              · obtain rfl : u64 = 0 := i_is c71 (by decide)
                clear hw70
                refine W.eq (g2 := F0 m 148 ls [.int 0]) rfl ?_
                refine lv_if_eq (tgt := 153) hx hb dX11_wordHere_148 (by decide) (fun c73 => ?_) (fun c73 => ?_)
                rotate_left
                · exact absurd c73 (by decide)
                refine lv_aload_n hx hb dX11_wordHere_153 rfl (lv_at hl 0 rfl) ?_
                refine lv_ldc2 (v := 495672455269) hx hb hown (hg _ kw_1547) dX11_wordHere_154 ?_
                have zl495672455269 : (495672455269 : Int64).toInt = 495672455269 := by decide
                refine cga (rn_V (As := [.long 495672455269]) (rest := []) (b := o) (m_isWord l D Y Z H.size o a (upd I 16 u65) J F G  495672455269 (show (0 ≤ u65.toInt ∧ u65.toInt ≤ 400) by omega) (show (0 ≤ (I 3).toInt ∧ (I 3).toInt ≤ 400) by omega) (show (u65.toInt ≤ (I 3).toInt) by omega)) ⟨hx, hb, hml, hown, hg⟩ lk_X11_190 ⟨CP.blind, va_recv hKN.1 hP (ci := 11) (q0 := 0) rfl rfl, CP.at hP hKN hD⟩ ⟨⟨rfl, rfl⟩, ⟨Nat.le_of_ble_eq_true rfl, Nat.le_of_ble_eq_true rfl⟩, ⟨Nat.le_of_ble_eq_true rfl, Nat.le_of_ble_eq_true rfl⟩⟩ hl.1 rfl (Nat.le_of_ble_eq_true rfl) dX11_wordHere_157) hP hD hS hA (fun u74 H locs w75 hP hD hS => ?_)
                obtain ⟨u76, u77⟩ := u74
                obtain ⟨hw78, hw79, hw80, hw81, hw82⟩ : (0 ≤ u77.toInt ∧ u77.toInt ≤ 400) ∧ (u65.toInt ≤ u77.toInt) ∧ (u77.toInt ≤ (I 3).toInt) ∧ (0 ≤ u76.toInt ∧ u76.toInt ≤ 1) ∧ (u76.toInt = 1 → (u77.toInt < (I 3).toInt ∧ 97 ≤ ((F 2) u77.toNatClampNeg).toInt ∧ ((F 2) u77.toNatClampNeg).toInt ≤ 122)) := w75
                refine W.eq (g2 := F0 m 160 ls [.int u76]) rfl ?_
                have hP : va_P D vwCl (MW Y o a (upd I 16 u77) J F G) H := hP
                have hD : va_D A (MW Y o a (upd I 16 u77) J F G) := hD
                rcases (show u76.toInt = 1 ∨ u76.toInt = 0 by omega) with c83 | c83
                · obtain rfl : u76 = 1 := i_is c83 (by decide)
                  have zi1 : (1 : Int32).toInt = 1 := by decide
                  replace hw82 := hw82 (by decide)
                  refine W.eq (g2 := F0 m 160 ls [.int 1]) rfl ?_
                  refine lv_if_eq (tgt := 166) hx hb dX11_wordHere_160 (by decide) (fun c84 => ?_) (fun c84 => ?_)
                  · exact absurd c84 (by decide)
                  refine lv_bipush (v := 6) hx hb dX11_wordHere_163 (by decide) ?_
                  refine W.widen (k := 0) (n := 0) (Nat.le_of_ble_eq_true rfl) (Nat.le_of_ble_eq_true rfl) ?_
                  have zi6 : (6 : Int32).toInt = 6 := by decide
                  exact W.iret (v := 6) hx hb hr (fun t ht hW => ⟨⟨(6, u77), rfl, ⟨(show (0 ≤ u77.toInt ∧ u77.toInt ≤ 400) by omega), (show ((I 16).toInt ≤ u77.toInt) by omega), (show (u77.toInt ≤ (I 3).toInt) by omega), (show (-1 ≤ (6 : Int32).toInt ∧ (6 : Int32).toInt ≤ 9) by omega), (show (0 ≤ (6 : Int32).toInt → (u77.toInt < (I 3).toInt ∧ 97 ≤ ((F 2) u77.toNatClampNeg).toInt ∧ ((F 2) u77.toNatClampNeg).toInt ≤ 122)) by omega)⟩, CB.mk ht hP hD⟩, hS.F ht⟩) hS.2.2 dX11_wordHere_165
                · obtain rfl : u76 = 0 := i_is c83 (by decide)
                  clear hw82
                  refine W.eq (g2 := F0 m 160 ls [.int 0]) rfl ?_
                  refine lv_if_eq (tgt := 166) hx hb dX11_wordHere_160 (by decide) (fun c85 => ?_) (fun c85 => ?_)
                  rotate_left
                  · exact absurd c85 (by decide)
                  refine lv_aload_n hx hb dX11_wordHere_166 rfl (lv_at hl 0 rfl) ?_
                  refine lv_ldc2 (v := 1935764837) hx hb hown (hg _ kw_1548) dX11_wordHere_167 ?_
                  have zl1935764837 : (1935764837 : Int64).toInt = 1935764837 := by decide
                  refine cga (rn_V (As := [.long 1935764837]) (rest := []) (b := o) (m_isWord l D Y Z H.size o a (upd I 16 u77) J F G  1935764837 (show (0 ≤ u77.toInt ∧ u77.toInt ≤ 400) by omega) (show (0 ≤ (I 3).toInt ∧ (I 3).toInt ≤ 400) by omega) (show (u77.toInt ≤ (I 3).toInt) by omega)) ⟨hx, hb, hml, hown, hg⟩ lk_X11_190 ⟨CP.blind, va_recv hKN.1 hP (ci := 11) (q0 := 0) rfl rfl, CP.at hP hKN hD⟩ ⟨⟨rfl, rfl⟩, ⟨Nat.le_of_ble_eq_true rfl, Nat.le_of_ble_eq_true rfl⟩, ⟨Nat.le_of_ble_eq_true rfl, Nat.le_of_ble_eq_true rfl⟩⟩ hl.1 rfl (Nat.le_of_ble_eq_true rfl) dX11_wordHere_170) hP hD hS hA (fun u86 H locs w87 hP hD hS => ?_)
                  obtain ⟨u88, u89⟩ := u86
                  obtain ⟨hw90, hw91, hw92, hw93, hw94⟩ : (0 ≤ u89.toInt ∧ u89.toInt ≤ 400) ∧ (u77.toInt ≤ u89.toInt) ∧ (u89.toInt ≤ (I 3).toInt) ∧ (0 ≤ u88.toInt ∧ u88.toInt ≤ 1) ∧ (u88.toInt = 1 → (u89.toInt < (I 3).toInt ∧ 97 ≤ ((F 2) u89.toNatClampNeg).toInt ∧ ((F 2) u89.toNatClampNeg).toInt ≤ 122)) := w87
                  refine W.eq (g2 := F0 m 173 ls [.int u88]) rfl ?_
                  have hP : va_P D vwCl (MW Y o a (upd I 16 u89) J F G) H := hP
                  have hD : va_D A (MW Y o a (upd I 16 u89) J F G) := hD
                  rcases (show u88.toInt = 1 ∨ u88.toInt = 0 by omega) with c95 | c95
                  · obtain rfl : u88 = 1 := i_is c95 (by decide)
                    have zi1 : (1 : Int32).toInt = 1 := by decide
                    replace hw94 := hw94 (by decide)
                    refine W.eq (g2 := F0 m 173 ls [.int 1]) rfl ?_
                    refine lv_if_eq (tgt := 179) hx hb dX11_wordHere_173 (by decide) (fun c96 => ?_) (fun c96 => ?_)
                    · exact absurd c96 (by decide)
                    refine lv_bipush (v := 7) hx hb dX11_wordHere_176 (by decide) ?_
                    refine W.widen (k := 0) (n := 0) (Nat.le_of_ble_eq_true rfl) (Nat.le_of_ble_eq_true rfl) ?_
                    have zi7 : (7 : Int32).toInt = 7 := by decide
                    exact W.iret (v := 7) hx hb hr (fun t ht hW => ⟨⟨(7, u89), rfl, ⟨(show (0 ≤ u89.toInt ∧ u89.toInt ≤ 400) by omega), (show ((I 16).toInt ≤ u89.toInt) by omega), (show (u89.toInt ≤ (I 3).toInt) by omega), (show (-1 ≤ (7 : Int32).toInt ∧ (7 : Int32).toInt ≤ 9) by omega), (show (0 ≤ (7 : Int32).toInt → (u89.toInt < (I 3).toInt ∧ 97 ≤ ((F 2) u89.toNatClampNeg).toInt ∧ ((F 2) u89.toNatClampNeg).toInt ≤ 122)) by omega)⟩, CB.mk ht hP hD⟩, hS.F ht⟩) hS.2.2 dX11_wordHere_178
                  · obtain rfl : u88 = 0 := i_is c95 (by decide)
                    clear hw94
                    refine W.eq (g2 := F0 m 173 ls [.int 0]) rfl ?_
                    refine lv_if_eq (tgt := 179) hx hb dX11_wordHere_173 (by decide) (fun c97 => ?_) (fun c97 => ?_)
                    rotate_left
                    · exact absurd c97 (by decide)
                    refine lv_aload_n hx hb dX11_wordHere_179 rfl (lv_at hl 0 rfl) ?_
                    refine lv_ldc2 (v := 1818326117) hx hb hown (hg _ kw_1549) dX11_wordHere_180 ?_
                    have zl1818326117 : (1818326117 : Int64).toInt = 1818326117 := by decide
                    refine cga (rn_V (As := [.long 1818326117]) (rest := []) (b := o) (m_isWord l D Y Z H.size o a (upd I 16 u89) J F G  1818326117 (show (0 ≤ u89.toInt ∧ u89.toInt ≤ 400) by omega) (show (0 ≤ (I 3).toInt ∧ (I 3).toInt ≤ 400) by omega) (show (u89.toInt ≤ (I 3).toInt) by omega)) ⟨hx, hb, hml, hown, hg⟩ lk_X11_190 ⟨CP.blind, va_recv hKN.1 hP (ci := 11) (q0 := 0) rfl rfl, CP.at hP hKN hD⟩ ⟨⟨rfl, rfl⟩, ⟨Nat.le_of_ble_eq_true rfl, Nat.le_of_ble_eq_true rfl⟩, ⟨Nat.le_of_ble_eq_true rfl, Nat.le_of_ble_eq_true rfl⟩⟩ hl.1 rfl (Nat.le_of_ble_eq_true rfl) dX11_wordHere_183) hP hD hS hA (fun u98 H locs w99 hP hD hS => ?_)
                    obtain ⟨u100, u101⟩ := u98
                    obtain ⟨hw102, hw103, hw104, hw105, hw106⟩ : (0 ≤ u101.toInt ∧ u101.toInt ≤ 400) ∧ (u89.toInt ≤ u101.toInt) ∧ (u101.toInt ≤ (I 3).toInt) ∧ (0 ≤ u100.toInt ∧ u100.toInt ≤ 1) ∧ (u100.toInt = 1 → (u101.toInt < (I 3).toInt ∧ 97 ≤ ((F 2) u101.toNatClampNeg).toInt ∧ ((F 2) u101.toNatClampNeg).toInt ≤ 122)) := w99
                    refine W.eq (g2 := F0 m 186 ls [.int u100]) rfl ?_
                    have hP : va_P D vwCl (MW Y o a (upd I 16 u101) J F G) H := hP
                    have hD : va_D A (MW Y o a (upd I 16 u101) J F G) := hD
                    rcases (show u100.toInt = 1 ∨ u100.toInt = 0 by omega) with c107 | c107
                    · obtain rfl : u100 = 1 := i_is c107 (by decide)
                      have zi1 : (1 : Int32).toInt = 1 := by decide
                      replace hw106 := hw106 (by decide)
                      refine W.eq (g2 := F0 m 186 ls [.int 1]) rfl ?_
                      refine lv_if_eq (tgt := 192) hx hb dX11_wordHere_186 (by decide) (fun c108 => ?_) (fun c108 => ?_)
                      · exact absurd c108 (by decide)
                      refine lv_bipush (v := 8) hx hb dX11_wordHere_189 (by decide) ?_
                      refine W.widen (k := 0) (n := 0) (Nat.le_of_ble_eq_true rfl) (Nat.le_of_ble_eq_true rfl) ?_
                      have zi8 : (8 : Int32).toInt = 8 := by decide
                      exact W.iret (v := 8) hx hb hr (fun t ht hW => ⟨⟨(8, u101), rfl, ⟨(show (0 ≤ u101.toInt ∧ u101.toInt ≤ 400) by omega), (show ((I 16).toInt ≤ u101.toInt) by omega), (show (u101.toInt ≤ (I 3).toInt) by omega), (show (-1 ≤ (8 : Int32).toInt ∧ (8 : Int32).toInt ≤ 9) by omega), (show (0 ≤ (8 : Int32).toInt → (u101.toInt < (I 3).toInt ∧ 97 ≤ ((F 2) u101.toNatClampNeg).toInt ∧ ((F 2) u101.toNatClampNeg).toInt ≤ 122)) by omega)⟩, CB.mk ht hP hD⟩, hS.F ht⟩) hS.2.2 dX11_wordHere_191
                    · obtain rfl : u100 = 0 := i_is c107 (by decide)
                      clear hw106
                      refine W.eq (g2 := F0 m 186 ls [.int 0]) rfl ?_
                      refine lv_if_eq (tgt := 192) hx hb dX11_wordHere_186 (by decide) (fun c109 => ?_) (fun c109 => ?_)
                      rotate_left
                      · exact absurd c109 (by decide)
                      refine lv_aload_n hx hb dX11_wordHere_192 rfl (lv_at hl 0 rfl) ?_
                      refine lv_ldc2 (v := 1936292453) hx hb hown (hg _ kw_1542) dX11_wordHere_193 ?_
                      have zl1936292453 : (1936292453 : Int64).toInt = 1936292453 := by decide
                      refine cga (rn_V (As := [.long 1936292453]) (rest := []) (b := o) (m_isWord l D Y Z H.size o a (upd I 16 u101) J F G  1936292453 (show (0 ≤ u101.toInt ∧ u101.toInt ≤ 400) by omega) (show (0 ≤ (I 3).toInt ∧ (I 3).toInt ≤ 400) by omega) (show (u101.toInt ≤ (I 3).toInt) by omega)) ⟨hx, hb, hml, hown, hg⟩ lk_X11_190 ⟨CP.blind, va_recv hKN.1 hP (ci := 11) (q0 := 0) rfl rfl, CP.at hP hKN hD⟩ ⟨⟨rfl, rfl⟩, ⟨Nat.le_of_ble_eq_true rfl, Nat.le_of_ble_eq_true rfl⟩, ⟨Nat.le_of_ble_eq_true rfl, Nat.le_of_ble_eq_true rfl⟩⟩ hl.1 rfl (Nat.le_of_ble_eq_true rfl) dX11_wordHere_196) hP hD hS hA (fun u110 H locs w111 hP hD hS => ?_)
                      obtain ⟨u112, u113⟩ := u110
                      obtain ⟨hw114, hw115, hw116, hw117, hw118⟩ : (0 ≤ u113.toInt ∧ u113.toInt ≤ 400) ∧ (u101.toInt ≤ u113.toInt) ∧ (u113.toInt ≤ (I 3).toInt) ∧ (0 ≤ u112.toInt ∧ u112.toInt ≤ 1) ∧ (u112.toInt = 1 → (u113.toInt < (I 3).toInt ∧ 97 ≤ ((F 2) u113.toNatClampNeg).toInt ∧ ((F 2) u113.toNatClampNeg).toInt ≤ 122)) := w111
                      refine W.eq (g2 := F0 m 199 ls [.int u112]) rfl ?_
                      have hP : va_P D vwCl (MW Y o a (upd I 16 u113) J F G) H := hP
                      have hD : va_D A (MW Y o a (upd I 16 u113) J F G) := hD
                      rcases (show u112.toInt = 1 ∨ u112.toInt = 0 by omega) with c119 | c119
                      · obtain rfl : u112 = 1 := i_is c119 (by decide)
                        have zi1 : (1 : Int32).toInt = 1 := by decide
                        replace hw118 := hw118 (by decide)
                        refine W.eq (g2 := F0 m 199 ls [.int 1]) rfl ?_
                        refine lv_if_eq (tgt := 207) hx hb dX11_wordHere_199 (by decide) (fun c121 => ?_) (fun c121 => ?_)
                        · exact absurd c121 (by decide)
                        refine lv_bipush (v := 9) hx hb dX11_wordHere_202 (by decide) ?_
                        refine lv_goto (tgt := 208) hx hb dX11_wordHere_204 (by decide) ?_
                        refine W.widen (k := 0) (n := 0) (Nat.le_of_ble_eq_true rfl) (Nat.le_of_ble_eq_true rfl) ?_
                        have zi9 : (9 : Int32).toInt = 9 := by decide
                        exact W.iret (v := 9) hx hb hr (fun t ht hW => ⟨⟨(9, u113), rfl, ⟨(show (0 ≤ u113.toInt ∧ u113.toInt ≤ 400) by omega), (show ((I 16).toInt ≤ u113.toInt) by omega), (show (u113.toInt ≤ (I 3).toInt) by omega), (show (-1 ≤ (9 : Int32).toInt ∧ (9 : Int32).toInt ≤ 9) by omega), (show (0 ≤ (9 : Int32).toInt → (u113.toInt < (I 3).toInt ∧ 97 ≤ ((F 2) u113.toNatClampNeg).toInt ∧ ((F 2) u113.toNatClampNeg).toInt ≤ 122)) by omega)⟩, CB.mk ht hP hD⟩, hS.F ht⟩) hS.2.2 dX11_wordHere_208
                      · obtain rfl : u112 = 0 := i_is c119 (by decide)
                        clear hw118
                        refine W.eq (g2 := F0 m 199 ls [.int 0]) rfl ?_
                        refine lv_if_eq (tgt := 207) hx hb dX11_wordHere_199 (by decide) (fun c123 => ?_) (fun c123 => ?_)
                        rotate_left
                        · exact absurd c123 (by decide)
                        refine lv_iconst (v := (-1)) hx hb dX11_wordHere_207 (by decide) ?_
                        refine W.widen (k := 0) (n := 0) (Nat.le_of_ble_eq_true rfl) (Nat.le_of_ble_eq_true rfl) ?_
                        have zim1 : ((-1) : Int32).toInt = -1 := by decide
                        exact W.iret (v := (-1)) hx hb hr (fun t ht hW => ⟨⟨((-1), u113), rfl, ⟨(show (0 ≤ u113.toInt ∧ u113.toInt ≤ 400) by omega), (show ((I 16).toInt ≤ u113.toInt) by omega), (show (u113.toInt ≤ (I 3).toInt) by omega), (show (-1 ≤ ((-1) : Int32).toInt ∧ ((-1) : Int32).toInt ≤ 9) by omega), (show (0 ≤ ((-1) : Int32).toInt → (u113.toInt < (I 3).toInt ∧ 97 ≤ ((F 2) u113.toNatClampNeg).toInt ∧ ((F 2) u113.toNatClampNeg).toInt ≤ 122)) by omega)⟩, CB.mk ht hP hD⟩, hS.F ht⟩) hS.2.2 dX11_wordHere_208
  · skip
    have c1 := i_nle (show (6 : Int32).toInt = 6 by decide) (Eq.refl (I 19).toInt) c1
    refine lv_aload_n hx hb dX11_wordHere_9 rfl (lv_at hl 0 rfl) ?_
    refine lv_ldc2 (v := 1752135026) hx hb hown (hg _ kw_1538) dX11_wordHere_10 ?_
    have zl1752135026 : (1752135026 : Int64).toInt = 1752135026 := by decide
    refine cga (rn_V (As := [.long 1752135026]) (rest := []) (b := o) (m_isWord l D Y Z H.size o a I J F G  1752135026 (show (0 ≤ (I 16).toInt ∧ (I 16).toInt ≤ 400) by omega) (show (0 ≤ (I 3).toInt ∧ (I 3).toInt ≤ 400) by omega) (show ((I 16).toInt ≤ (I 3).toInt) by omega)) ⟨hx, hb, hml, hown, hg⟩ lk_X11_190 ⟨CP.blind, va_recv hKN.1 hP (ci := 11) (q0 := 0) rfl rfl, CP.at hP hKN hD⟩ ⟨⟨rfl, rfl⟩, ⟨Nat.le_of_ble_eq_true rfl, Nat.le_of_ble_eq_true rfl⟩, ⟨Nat.le_of_ble_eq_true rfl, Nat.le_of_ble_eq_true rfl⟩⟩ hl.1 rfl (Nat.le_of_ble_eq_true rfl) dX11_wordHere_13) hP hD hS hA (fun u124 H locs w125 hP hD hS => ?_)
    obtain ⟨u126, u127⟩ := u124
    obtain ⟨hw128, hw129, hw130, hw131, hw132⟩ : (0 ≤ u127.toInt ∧ u127.toInt ≤ 400) ∧ ((I 16).toInt ≤ u127.toInt) ∧ (u127.toInt ≤ (I 3).toInt) ∧ (0 ≤ u126.toInt ∧ u126.toInt ≤ 1) ∧ (u126.toInt = 1 → (u127.toInt < (I 3).toInt ∧ 97 ≤ ((F 2) u127.toNatClampNeg).toInt ∧ ((F 2) u127.toNatClampNeg).toInt ≤ 122)) := w125
    refine W.eq (g2 := F0 m 16 ls [.int u126]) rfl ?_
    have hP : va_P D vwCl (MW Y o a (upd I 16 u127) J F G) H := hP
    have hD : va_D A (MW Y o a (upd I 16 u127) J F G) := hD
    rcases (show u126.toInt = 1 ∨ u126.toInt = 0 by omega) with c133 | c133
    · obtain rfl : u126 = 1 := i_is c133 (by decide)
      have zi1 : (1 : Int32).toInt = 1 := by decide
      replace hw132 := hw132 (by decide)
      refine W.eq (g2 := F0 m 16 ls [.int 1]) rfl ?_
      refine lv_if_eq (tgt := 23) hx hb dX11_wordHere_16 (by decide) (fun c135 => ?_) (fun c135 => ?_)
      · exact absurd c135 (by decide)
      refine lv_iconst (v := 0) hx hb dX11_wordHere_19 (by decide) ?_
      refine lv_goto (tgt := 80) hx hb dX11_wordHere_20 (by decide) ?_
      refine W.widen (k := 0) (n := 0) (Nat.le_of_ble_eq_true rfl) (Nat.le_of_ble_eq_true rfl) ?_
      have zi0 : (0 : Int32).toInt = 0 := by decide
      exact W.iret (v := 0) hx hb hr (fun t ht hW => ⟨⟨(0, u127), rfl, ⟨(show (0 ≤ u127.toInt ∧ u127.toInt ≤ 400) by omega), (show ((I 16).toInt ≤ u127.toInt) by omega), (show (u127.toInt ≤ (I 3).toInt) by omega), (show (-1 ≤ (0 : Int32).toInt ∧ (0 : Int32).toInt ≤ 9) by omega), (show (0 ≤ (0 : Int32).toInt → (u127.toInt < (I 3).toInt ∧ 97 ≤ ((F 2) u127.toNatClampNeg).toInt ∧ ((F 2) u127.toNatClampNeg).toInt ≤ 122)) by omega)⟩, CB.mk ht hP hD⟩, hS.F ht⟩) hS.2.2 dX11_wordHere_80
    · obtain rfl : u126 = 0 := i_is c133 (by decide)
      have zi0 : (0 : Int32).toInt = 0 := by decide
      clear hw132
      refine W.eq (g2 := F0 m 16 ls [.int 0]) rfl ?_
      refine lv_if_eq (tgt := 23) hx hb dX11_wordHere_16 (by decide) (fun c185 => ?_) (fun c185 => ?_)
      rotate_left
      · exact absurd c185 (by decide)
      refine lv_aload_n hx hb dX11_wordHere_23 rfl (lv_at hl 0 rfl) ?_
      refine lv_ldc2 (v := 126879263846254) hx hb hown (hg _ kw_1539) dX11_wordHere_24 ?_
      have zl126879263846254 : (126879263846254 : Int64).toInt = 126879263846254 := by decide
      refine cga (rn_V (As := [.long 126879263846254]) (rest := []) (b := o) (m_isWord l D Y Z H.size o a (upd I 16 u127) J F G  126879263846254 (show (0 ≤ u127.toInt ∧ u127.toInt ≤ 400) by omega) (show (0 ≤ (I 3).toInt ∧ (I 3).toInt ≤ 400) by omega) (show (u127.toInt ≤ (I 3).toInt) by omega)) ⟨hx, hb, hml, hown, hg⟩ lk_X11_190 ⟨CP.blind, va_recv hKN.1 hP (ci := 11) (q0 := 0) rfl rfl, CP.at hP hKN hD⟩ ⟨⟨rfl, rfl⟩, ⟨Nat.le_of_ble_eq_true rfl, Nat.le_of_ble_eq_true rfl⟩, ⟨Nat.le_of_ble_eq_true rfl, Nat.le_of_ble_eq_true rfl⟩⟩ hl.1 rfl (Nat.le_of_ble_eq_true rfl) dX11_wordHere_27) hP hD hS hA (fun u186 H locs w187 hP hD hS => ?_)
      obtain ⟨u188, u189⟩ := u186
      obtain ⟨hw190, hw191, hw192, hw193, hw194⟩ : (0 ≤ u189.toInt ∧ u189.toInt ≤ 400) ∧ (u127.toInt ≤ u189.toInt) ∧ (u189.toInt ≤ (I 3).toInt) ∧ (0 ≤ u188.toInt ∧ u188.toInt ≤ 1) ∧ (u188.toInt = 1 → (u189.toInt < (I 3).toInt ∧ 97 ≤ ((F 2) u189.toNatClampNeg).toInt ∧ ((F 2) u189.toNatClampNeg).toInt ≤ 122)) := w187
      refine W.eq (g2 := F0 m 30 ls [.int u188]) rfl ?_
      have hP : va_P D vwCl (MW Y o a (upd I 16 u189) J F G) H := hP
      have hD : va_D A (MW Y o a (upd I 16 u189) J F G) := hD
      rcases (show u188.toInt = 1 ∨ u188.toInt = 0 by omega) with c195 | c195
      · obtain rfl : u188 = 1 := i_is c195 (by decide)
        have zi1 : (1 : Int32).toInt = 1 := by decide
        replace hw194 := hw194 (by decide)
        refine W.eq (g2 := F0 m 30 ls [.int 1]) rfl ?_
        refine lv_if_eq (tgt := 37) hx hb dX11_wordHere_30 (by decide) (fun c197 => ?_) (fun c197 => ?_)
        · exact absurd c197 (by decide)
        refine lv_iconst (v := 1) hx hb dX11_wordHere_33 (by decide) ?_
        refine lv_goto (tgt := 80) hx hb dX11_wordHere_34 (by decide) ?_
        refine W.widen (k := 0) (n := 0) (Nat.le_of_ble_eq_true rfl) (Nat.le_of_ble_eq_true rfl) ?_
        exact W.iret (v := 1) hx hb hr (fun t ht hW => ⟨⟨(1, u189), rfl, ⟨(show (0 ≤ u189.toInt ∧ u189.toInt ≤ 400) by omega), (show ((I 16).toInt ≤ u189.toInt) by omega), (show (u189.toInt ≤ (I 3).toInt) by omega), (show (-1 ≤ (1 : Int32).toInt ∧ (1 : Int32).toInt ≤ 9) by omega), (show (0 ≤ (1 : Int32).toInt → (u189.toInt < (I 3).toInt ∧ 97 ≤ ((F 2) u189.toNatClampNeg).toInt ∧ ((F 2) u189.toNatClampNeg).toInt ≤ 122)) by omega)⟩, CB.mk ht hP hD⟩, hS.F ht⟩) hS.2.2 dX11_wordHere_80
      · obtain rfl : u188 = 0 := i_is c195 (by decide)
        clear hw194
        refine W.eq (g2 := F0 m 30 ls [.int 0]) rfl ?_
        refine lv_if_eq (tgt := 37) hx hb dX11_wordHere_30 (by decide) (fun c235 => ?_) (fun c235 => ?_)
        rotate_left
        · exact absurd c235 (by decide)
        refine lv_aload_n hx hb dX11_wordHere_37 rfl (lv_at hl 0 rfl) ?_
        refine lv_ldc2 (v := 1937006962) hx hb hown (hg _ kw_1540) dX11_wordHere_38 ?_
        have zl1937006962 : (1937006962 : Int64).toInt = 1937006962 := by decide
        refine cga (rn_V (As := [.long 1937006962]) (rest := []) (b := o) (m_isWord l D Y Z H.size o a (upd I 16 u189) J F G  1937006962 (show (0 ≤ u189.toInt ∧ u189.toInt ≤ 400) by omega) (show (0 ≤ (I 3).toInt ∧ (I 3).toInt ≤ 400) by omega) (show (u189.toInt ≤ (I 3).toInt) by omega)) ⟨hx, hb, hml, hown, hg⟩ lk_X11_190 ⟨CP.blind, va_recv hKN.1 hP (ci := 11) (q0 := 0) rfl rfl, CP.at hP hKN hD⟩ ⟨⟨rfl, rfl⟩, ⟨Nat.le_of_ble_eq_true rfl, Nat.le_of_ble_eq_true rfl⟩, ⟨Nat.le_of_ble_eq_true rfl, Nat.le_of_ble_eq_true rfl⟩⟩ hl.1 rfl (Nat.le_of_ble_eq_true rfl) dX11_wordHere_41) hP hD hS hA (fun u236 H locs w237 hP hD hS => ?_)
        obtain ⟨u238, u239⟩ := u236
        obtain ⟨hw240, hw241, hw242, hw243, hw244⟩ : (0 ≤ u239.toInt ∧ u239.toInt ≤ 400) ∧ (u189.toInt ≤ u239.toInt) ∧ (u239.toInt ≤ (I 3).toInt) ∧ (0 ≤ u238.toInt ∧ u238.toInt ≤ 1) ∧ (u238.toInt = 1 → (u239.toInt < (I 3).toInt ∧ 97 ≤ ((F 2) u239.toNatClampNeg).toInt ∧ ((F 2) u239.toNatClampNeg).toInt ≤ 122)) := w237
        refine W.eq (g2 := F0 m 44 ls [.int u238]) rfl ?_
        have hP : va_P D vwCl (MW Y o a (upd I 16 u239) J F G) H := hP
        have hD : va_D A (MW Y o a (upd I 16 u239) J F G) := hD
        rcases (show u238.toInt = 1 ∨ u238.toInt = 0 by omega) with c245 | c245
        · obtain rfl : u238 = 1 := i_is c245 (by decide)
          have zi1 : (1 : Int32).toInt = 1 := by decide
          replace hw244 := hw244 (by decide)
          refine W.eq (g2 := F0 m 44 ls [.int 1]) rfl ?_
          refine lv_if_eq (tgt := 51) hx hb dX11_wordHere_44 (by decide) (fun c247 => ?_) (fun c247 => ?_)
          · exact absurd c247 (by decide)
          refine lv_iconst (v := 2) hx hb dX11_wordHere_47 (by decide) ?_
          refine lv_goto (tgt := 80) hx hb dX11_wordHere_48 (by decide) ?_
          refine W.widen (k := 0) (n := 0) (Nat.le_of_ble_eq_true rfl) (Nat.le_of_ble_eq_true rfl) ?_
          have zi2 : (2 : Int32).toInt = 2 := by decide
          exact W.iret (v := 2) hx hb hr (fun t ht hW => ⟨⟨(2, u239), rfl, ⟨(show (0 ≤ u239.toInt ∧ u239.toInt ≤ 400) by omega), (show ((I 16).toInt ≤ u239.toInt) by omega), (show (u239.toInt ≤ (I 3).toInt) by omega), (show (-1 ≤ (2 : Int32).toInt ∧ (2 : Int32).toInt ≤ 9) by omega), (show (0 ≤ (2 : Int32).toInt → (u239.toInt < (I 3).toInt ∧ 97 ≤ ((F 2) u239.toNatClampNeg).toInt ∧ ((F 2) u239.toNatClampNeg).toInt ≤ 122)) by omega)⟩, CB.mk ht hP hD⟩, hS.F ht⟩) hS.2.2 dX11_wordHere_80
        · obtain rfl : u238 = 0 := i_is c245 (by decide)
          clear hw244
          refine W.eq (g2 := F0 m 44 ls [.int 0]) rfl ?_
          refine lv_if_eq (tgt := 51) hx hb dX11_wordHere_44 (by decide) (fun c273 => ?_) (fun c273 => ?_)
          rotate_left
          · exact absurd c273 (by decide)
          refine lv_aload_n hx hb dX11_wordHere_51 rfl (lv_at hl 0 rfl) ?_
          refine lv_ldc2 (v := 1667591276) hx hb hown (hg _ kw_1541) dX11_wordHere_52 ?_
          have zl1667591276 : (1667591276 : Int64).toInt = 1667591276 := by decide
          refine cga (rn_V (As := [.long 1667591276]) (rest := []) (b := o) (m_isWord l D Y Z H.size o a (upd I 16 u239) J F G  1667591276 (show (0 ≤ u239.toInt ∧ u239.toInt ≤ 400) by omega) (show (0 ≤ (I 3).toInt ∧ (I 3).toInt ≤ 400) by omega) (show (u239.toInt ≤ (I 3).toInt) by omega)) ⟨hx, hb, hml, hown, hg⟩ lk_X11_190 ⟨CP.blind, va_recv hKN.1 hP (ci := 11) (q0 := 0) rfl rfl, CP.at hP hKN hD⟩ ⟨⟨rfl, rfl⟩, ⟨Nat.le_of_ble_eq_true rfl, Nat.le_of_ble_eq_true rfl⟩, ⟨Nat.le_of_ble_eq_true rfl, Nat.le_of_ble_eq_true rfl⟩⟩ hl.1 rfl (Nat.le_of_ble_eq_true rfl) dX11_wordHere_55) hP hD hS hA (fun u274 H locs w275 hP hD hS => ?_)
          obtain ⟨u276, u277⟩ := u274
          obtain ⟨hw278, hw279, hw280, hw281, hw282⟩ : (0 ≤ u277.toInt ∧ u277.toInt ≤ 400) ∧ (u239.toInt ≤ u277.toInt) ∧ (u277.toInt ≤ (I 3).toInt) ∧ (0 ≤ u276.toInt ∧ u276.toInt ≤ 1) ∧ (u276.toInt = 1 → (u277.toInt < (I 3).toInt ∧ 97 ≤ ((F 2) u277.toNatClampNeg).toInt ∧ ((F 2) u277.toNatClampNeg).toInt ≤ 122)) := w275
          refine W.eq (g2 := F0 m 58 ls [.int u276]) rfl ?_
          have hP : va_P D vwCl (MW Y o a (upd I 16 u277) J F G) H := hP
          have hD : va_D A (MW Y o a (upd I 16 u277) J F G) := hD
          rcases (show u276.toInt = 1 ∨ u276.toInt = 0 by omega) with c283 | c283
          · obtain rfl : u276 = 1 := i_is c283 (by decide)
            have zi1 : (1 : Int32).toInt = 1 := by decide
            replace hw282 := hw282 (by decide)
            refine W.eq (g2 := F0 m 58 ls [.int 1]) rfl ?_
            refine lv_if_eq (tgt := 65) hx hb dX11_wordHere_58 (by decide) (fun c285 => ?_) (fun c285 => ?_)
            · exact absurd c285 (by decide)
            refine lv_iconst (v := 3) hx hb dX11_wordHere_61 (by decide) ?_
            refine lv_goto (tgt := 80) hx hb dX11_wordHere_62 (by decide) ?_
            refine W.widen (k := 0) (n := 0) (Nat.le_of_ble_eq_true rfl) (Nat.le_of_ble_eq_true rfl) ?_
            have zi3 : (3 : Int32).toInt = 3 := by decide
            exact W.iret (v := 3) hx hb hr (fun t ht hW => ⟨⟨(3, u277), rfl, ⟨(show (0 ≤ u277.toInt ∧ u277.toInt ≤ 400) by omega), (show ((I 16).toInt ≤ u277.toInt) by omega), (show (u277.toInt ≤ (I 3).toInt) by omega), (show (-1 ≤ (3 : Int32).toInt ∧ (3 : Int32).toInt ≤ 9) by omega), (show (0 ≤ (3 : Int32).toInt → (u277.toInt < (I 3).toInt ∧ 97 ≤ ((F 2) u277.toNatClampNeg).toInt ∧ ((F 2) u277.toNatClampNeg).toInt ≤ 122)) by omega)⟩, CB.mk ht hP hD⟩, hS.F ht⟩) hS.2.2 dX11_wordHere_80
          · obtain rfl : u276 = 0 := i_is c283 (by decide)
            clear hw282
            refine W.eq (g2 := F0 m 58 ls [.int 0]) rfl ?_
            refine lv_if_eq (tgt := 65) hx hb dX11_wordHere_58 (by decide) (fun c299 => ?_) (fun c299 => ?_)
            rotate_left
            · exact absurd c299 (by decide)
            refine lv_aload_n hx hb dX11_wordHere_65 rfl (lv_at hl 0 rfl) ?_
            refine lv_ldc2 (v := 1936292453) hx hb hown (hg _ kw_1542) dX11_wordHere_66 ?_
            have zl1936292453 : (1936292453 : Int64).toInt = 1936292453 := by decide
            refine cga (rn_V (As := [.long 1936292453]) (rest := []) (b := o) (m_isWord l D Y Z H.size o a (upd I 16 u277) J F G  1936292453 (show (0 ≤ u277.toInt ∧ u277.toInt ≤ 400) by omega) (show (0 ≤ (I 3).toInt ∧ (I 3).toInt ≤ 400) by omega) (show (u277.toInt ≤ (I 3).toInt) by omega)) ⟨hx, hb, hml, hown, hg⟩ lk_X11_190 ⟨CP.blind, va_recv hKN.1 hP (ci := 11) (q0 := 0) rfl rfl, CP.at hP hKN hD⟩ ⟨⟨rfl, rfl⟩, ⟨Nat.le_of_ble_eq_true rfl, Nat.le_of_ble_eq_true rfl⟩, ⟨Nat.le_of_ble_eq_true rfl, Nat.le_of_ble_eq_true rfl⟩⟩ hl.1 rfl (Nat.le_of_ble_eq_true rfl) dX11_wordHere_69) hP hD hS hA (fun u300 H locs w301 hP hD hS => ?_)
            obtain ⟨u302, u303⟩ := u300
            obtain ⟨hw304, hw305, hw306, hw307, hw308⟩ : (0 ≤ u303.toInt ∧ u303.toInt ≤ 400) ∧ (u277.toInt ≤ u303.toInt) ∧ (u303.toInt ≤ (I 3).toInt) ∧ (0 ≤ u302.toInt ∧ u302.toInt ≤ 1) ∧ (u302.toInt = 1 → (u303.toInt < (I 3).toInt ∧ 97 ≤ ((F 2) u303.toNatClampNeg).toInt ∧ ((F 2) u303.toNatClampNeg).toInt ≤ 122)) := w301
            refine W.eq (g2 := F0 m 72 ls [.int u302]) rfl ?_
            have hP : va_P D vwCl (MW Y o a (upd I 16 u303) J F G) H := hP
            have hD : va_D A (MW Y o a (upd I 16 u303) J F G) := hD
            rcases (show u302.toInt = 1 ∨ u302.toInt = 0 by omega) with c309 | c309
            · obtain rfl : u302 = 1 := i_is c309 (by decide)
              have zi1 : (1 : Int32).toInt = 1 := by decide
              replace hw308 := hw308 (by decide)
              refine W.eq (g2 := F0 m 72 ls [.int 1]) rfl ?_
              refine lv_if_eq (tgt := 79) hx hb dX11_wordHere_72 (by decide) (fun c311 => ?_) (fun c311 => ?_)
              · exact absurd c311 (by decide)
              refine lv_iconst (v := 4) hx hb dX11_wordHere_75 (by decide) ?_
              refine lv_goto (tgt := 80) hx hb dX11_wordHere_76 (by decide) ?_
              refine W.widen (k := 0) (n := 0) (Nat.le_of_ble_eq_true rfl) (Nat.le_of_ble_eq_true rfl) ?_
              have zi4 : (4 : Int32).toInt = 4 := by decide
              exact W.iret (v := 4) hx hb hr (fun t ht hW => ⟨⟨(4, u303), rfl, ⟨(show (0 ≤ u303.toInt ∧ u303.toInt ≤ 400) by omega), (show ((I 16).toInt ≤ u303.toInt) by omega), (show (u303.toInt ≤ (I 3).toInt) by omega), (show (-1 ≤ (4 : Int32).toInt ∧ (4 : Int32).toInt ≤ 9) by omega), (show (0 ≤ (4 : Int32).toInt → (u303.toInt < (I 3).toInt ∧ 97 ≤ ((F 2) u303.toNatClampNeg).toInt ∧ ((F 2) u303.toNatClampNeg).toInt ≤ 122)) by omega)⟩, CB.mk ht hP hD⟩, hS.F ht⟩) hS.2.2 dX11_wordHere_80
            · obtain rfl : u302 = 0 := i_is c309 (by decide)
              clear hw308
              refine W.eq (g2 := F0 m 72 ls [.int 0]) rfl ?_
              refine lv_if_eq (tgt := 79) hx hb dX11_wordHere_72 (by decide) (fun c313 => ?_) (fun c313 => ?_)
              rotate_left
              · exact absurd c313 (by decide)
              refine lv_iconst (v := (-1)) hx hb dX11_wordHere_79 (by decide) ?_
              refine W.widen (k := 0) (n := 0) (Nat.le_of_ble_eq_true rfl) (Nat.le_of_ble_eq_true rfl) ?_
              have zim1 : ((-1) : Int32).toInt = -1 := by decide
              exact W.iret (v := (-1)) hx hb hr (fun t ht hW => ⟨⟨((-1), u303), rfl, ⟨(show (0 ≤ u303.toInt ∧ u303.toInt ≤ 400) by omega), (show ((I 16).toInt ≤ u303.toInt) by omega), (show (u303.toInt ≤ (I 3).toInt) by omega), (show (-1 ≤ ((-1) : Int32).toInt ∧ ((-1) : Int32).toInt ≤ 9) by omega), (show (0 ≤ ((-1) : Int32).toInt → (u303.toInt < (I 3).toInt ∧ 97 ≤ ((F 2) u303.toNatClampNeg).toInt ∧ ((F 2) u303.toNatClampNeg).toInt ≤ 122)) by omega)⟩, CB.mk ht hP hD⟩, hS.F ht⟩) hS.2.2 dX11_wordHere_80
set_option maxHeartbeats 4000000 in
set_option maxRecDepth 100000 in
theorem m_makes (l : Launch) (D : va_G) (Y : Nat → ClassId) (Z : Nat → Nat) (sz : Nat) (o : Nat) (a : Nat → Nat) (I : Nat → Int32) (J : Nat → Int64) (F : Nat → Nat → Int32) (G : Nat → Nat → Int64) (p1 : Int32) (hk_0 : (0 ≤ (I 20).toInt ∧ (I 20).toInt ≤ 60)) (hk_1 : (0 ≤ p1.toInt ∧ p1.toInt ≤ 400)) (hk_2 : (0 ≤ (I 17).toInt ∧ (I 17).toInt ≤ 4000)) : Met l yX11_makes (.code yX11_makes cX11_makes 2 (some .boolean) :: GW) ({ frames := 1, cells := 0, slots := 0, locals := 22 }) (va_Pc [.ref o, .int p1] (CP D Y Z (MW Y o a I J F G) sz)) (QG (S := Int32 × Int32 × Int32) (fun u => some (.int u.1)) (fun u => (0 ≤ u.2.2.toInt ∧ u.2.2.toInt ≤ 60) ∧ (0 ≤ u.2.1.toInt ∧ u.2.1.toInt ≤ 4000) ∧ (u.1.toInt = 1 → u.2.2.toInt = (I 20).toInt + 1) ∧ (u.1.toInt = 0 → (1 ≤ u.2.1.toInt ∧ u.2.2.toInt = (I 20).toInt)) ∧ (0 ≤ u.1.toInt ∧ u.1.toInt ≤ 1)) (fun u => CB D (MW Y o a (upd (upd I 17 u.2.1) 20 u.2.2) J F G) (va_A (MW Y o a I J F G) sz)) (va_A (MW Y o a I J F G) sz)) 0 0 (va_A (MW Y o a I J F G) sz) := by
  refine Met.ofW (cc := cX11_makes) (maxL := 2) (ret := (some .boolean)) (by decide) rfl ?_
  intro p e s m args below meth c s₁ B hml hv
  obtain ⟨rfl, hsz, hP, hKN, hD0⟩ := hv
  have hx := B.exec
  have hb := B.bytes
  have hr := B.returns
  have hts := atoms_spec (ws := .code yX11_makes cX11_makes 2 (some .boolean) :: GW) B.pre
  have hg : ∀ w ∈ GW, w.before _ s = true := fun w h => hts w (List.mem_cons_of_mem _ h)
  have hown : s.vm.findClass RX11 = some m.cls := findClass_of_methodNamed B.named
  have hlocks := B.notSynchronized
  subst hsz
  have hD := hD0.self (sz := s.heap.size)
  generalize hAe : va_A (MW Y o a I J F G) s.heap.size = A at hD ⊢
  have hA : ∀ q : Nat, s.heap.size ≤ q → A q := fun q h => by rw [← hAe]; exact Or.inr h
  clear hAe hD0 hts B
  have hl := lv_entry ([.ref o, .int p1]) (n := 2) (Nat.le_of_ble_eq_true rfl)
  rw [lg_entry_eq]
  generalize (lg_sl ([.ref o, .int p1]) ++ List.replicate (2 - (lg_sl ([.ref o, .int p1])).length) Slot.unset).toArray = ls at hl ⊢
  have hl : lv_has ls 2 [(0, .ref o), (1, .int p1)] := hl
  refine w_start (A0 := A) hP (fun H locs hP hS => ?_)
  refine lv_aload_n hx hb dX11_makes_0 rfl (lv_at hl 0 rfl) ?_
  refine va_get (D := D) (ci := 11) (v := .int (I 20)) (C := RX11) (T := TX11) (N := 49) hx hb hg inGX11 hown hKN.1 hP 0 rfl rfl 20 (by decide) (hg _ kw_1228) (fun _ h9 => h9) rfl dX11_makes_1 ?_
  refine lv_bipush (v := 60) hx hb dX11_makes_4 (by decide) ?_
  refine lv_icmp_ne (tgt := 16) hx hb dX11_makes_6 (by decide) (fun c1 => ?_) (fun c1 => ?_)
  · skip
    have c1 := i_ne (Eq.refl (I 20).toInt) (show (60 : Int32).toInt = 60 by decide) c1
    refine lv_aload_n hx hb dX11_makes_16 rfl (lv_at hl 0 rfl) ?_
    refine lv_dup hx hb dX11_makes_17 rfl ?_
    refine va_get (D := D) (ci := 11) (v := .int (I 20)) (C := RX11) (T := TX11) (N := 49) hx hb hg inGX11 hown hKN.1 hP 0 rfl rfl 20 (by decide) (hg _ kw_1228) (fun _ h9 => h9) rfl dX11_makes_18 ?_
    refine lv_iconst (v := 1) hx hb dX11_makes_21 (by decide) ?_
    refine lv_iadd hx hb dX11_makes_22 ?_
    refine lv_topi (fun v2 ev2 => ?_)
    have hv2 := i_add (Eq.refl (I 20).toInt) (show (1 : Int32).toInt = 1 by decide) ev2 (by omega) (by omega)
    refine va_put (D := D) (ci := 11) (v := .int v2) (ty := .int) (C := RX11) (T := TX11) (N := 49) hx hb hg inGX11 tyX11 tyX11_ok nmX11 hown hKN.1 hP hD hS 0 rfl rfl 20 (by decide) (hg _ kw_1228) (fun _ h9 => h9) rfl (by decide +kernel) rfl rfl (Nat.le_of_ble_eq_true rfl) dX11_makes_23 (fun H locs hP hD hS => ?_)
    have hP : va_P D vwCl (MW Y o a (upd I 20 v2) J F G) H := hP
    have hD : va_D A (MW Y o a (upd I 20 v2) J F G) := hD
    refine lv_iconst (v := 1) hx hb dX11_makes_26 (by decide) ?_
    refine W.widen (k := 0) (n := 0) (Nat.le_of_ble_eq_true rfl) (Nat.le_of_ble_eq_true rfl) ?_
    have zi1 : (1 : Int32).toInt = 1 := by decide
    exact W.zret (v := 1) hx hb hr (by decide) (fun t ht hW => ⟨⟨(1, (I 17), v2), rfl, ⟨(show (0 ≤ v2.toInt ∧ v2.toInt ≤ 60) by omega), (show (0 ≤ (I 17).toInt ∧ (I 17).toInt ≤ 4000) by omega), (show ((1 : Int32).toInt = 1 → v2.toInt = (I 20).toInt + 1) by omega), (show ((1 : Int32).toInt = 0 → (1 ≤ (I 17).toInt ∧ v2.toInt = (I 20).toInt)) by omega), (show (0 ≤ (1 : Int32).toInt ∧ (1 : Int32).toInt ≤ 1) by omega)⟩, CB.mk ht hP hD⟩, hS.F ht⟩) hS.2.2 dX11_makes_27
  · skip
    have c1 := i_eq (Eq.refl (I 20).toInt) (show (60 : Int32).toInt = 60 by decide) c1
    refine lv_aload_n hx hb dX11_makes_9 rfl (lv_at hl 0 rfl) ?_
    refine lv_iconst (v := 3) hx hb dX11_makes_10 (by decide) ?_
    refine lv_iload_n hx hb dX11_makes_11 rfl (lv_at hl 1 rfl) ?_
    have zi3 : (3 : Int32).toInt = 3 := by decide
    refine cga (rn_V (As := [.int 3, .int p1]) (rest := []) (b := o) (m_fails l D Y Z H.size o a I J F G  3 p1 (show (0 ≤ (3 : Int32).toInt ∧ (3 : Int32).toInt ≤ 4) by omega) (show (0 ≤ p1.toInt ∧ p1.toInt ≤ 400) by omega) (show (0 ≤ (I 17).toInt ∧ (I 17).toInt ≤ 4000) by omega)) ⟨hx, hb, hml, hown, hg⟩ lk_X11_200 ⟨CP.blind, va_recv hKN.1 hP (ci := 11) (q0 := 0) rfl rfl, CP.at hP hKN hD⟩ ⟨⟨rfl, rfl⟩, ⟨Nat.le_of_ble_eq_true rfl, Nat.le_of_ble_eq_true rfl⟩, ⟨Nat.le_of_ble_eq_true rfl, Nat.le_of_ble_eq_true rfl⟩⟩ hl.1 rfl (Nat.le_of_ble_eq_true rfl) dX11_makes_12) hP hD hS hA (fun u3 H locs w4 hP hD hS => ?_)
    obtain ⟨u5, u6⟩ := u3
    obtain ⟨hw7, hw8⟩ : (u5.toInt = 0) ∧ (1 ≤ u6.toInt ∧ u6.toInt ≤ 4000) := w4
    refine W.eq (g2 := F0 m 15 ls [.int u5]) rfl ?_
    have hP : va_P D vwCl (MW Y o a (upd I 17 u6) J F G) H := hP
    have hD : va_D A (MW Y o a (upd I 17 u6) J F G) := hD
    obtain rfl : u5 = 0 := i_is (X := 0) (by omega) (by decide)
    refine W.eq (g2 := F0 m 15 ls [.int 0]) rfl ?_
    refine W.widen (k := 0) (n := 0) (Nat.le_of_ble_eq_true rfl) (Nat.le_of_ble_eq_true rfl) ?_
    have zi0 : (0 : Int32).toInt = 0 := by decide
    exact W.zret (v := 0) hx hb hr (by decide) (fun t ht hW => ⟨⟨(0, u6, (I 20)), rfl, ⟨(show (0 ≤ (I 20).toInt ∧ (I 20).toInt ≤ 60) by omega), (show (0 ≤ u6.toInt ∧ u6.toInt ≤ 4000) by omega), (show ((0 : Int32).toInt = 1 → (I 20).toInt = (I 20).toInt + 1) by omega), (show ((0 : Int32).toInt = 0 → (1 ≤ u6.toInt ∧ (I 20).toInt = (I 20).toInt)) by omega), (show (0 ≤ (0 : Int32).toInt ∧ (0 : Int32).toInt ≤ 1) by omega)⟩, CB.mk ht hP hD⟩, hS.F ht⟩) hS.2.2 dX11_makes_15
set_option maxHeartbeats 4000000 in
set_option maxRecDepth 100000 in
theorem m_puts (l : Launch) (D : va_G) (Y : Nat → ClassId) (Z : Nat → Nat) (sz : Nat) (o : Nat) (a : Nat → Nat) (I : Nat → Int32) (J : Nat → Int64) (F : Nat → Nat → Int32) (G : Nat → Nat → Int64) (p1 : Int32) (p2 : Int32) (hk_0 : (0 ≤ (I 19).toInt ∧ (I 19).toInt ≤ 17)) (hk_1 : (0 ≤ p1.toInt ∧ p1.toInt ≤ 15)) (hk_2 : (0 ≤ p2.toInt ∧ p2.toInt ≤ 99999)) (hk_3 : (0 ≤ ((F 6) (I 19).toNatClampNeg).toInt ∧ ((F 6) (I 19).toNatClampNeg).toInt ≤ 399)) : Met l yX11_puts (.code yX11_puts cX11_puts 3 none :: GW) ({ frames := 0, cells := 0, slots := 0, locals := 0 }) (va_Pc [.ref o, .int p1, .int p2] (CP D Y Z (MW Y o a I J F G) sz)) (QG (S := (Nat → Int32) × (Nat → Int32)) (fun _ => none) (fun u => PU (F 5) u.1 (F 6) u.2 (I 19).toNatClampNeg p1.toInt p2.toInt) (fun u => CB D (MW Y o a I J (vf_upd (vf_upd F 5 u.1) 6 u.2) G) (va_A (MW Y o a I J F G) sz)) (va_A (MW Y o a I J F G) sz)) 0 0 (va_A (MW Y o a I J F G) sz) := by
  refine Met.ofW (cc := cX11_puts) (maxL := 3) (ret := none) (by decide) rfl ?_
  intro p e s m args below meth c s₁ B hml hv
  obtain ⟨rfl, hsz, hP, hKN, hD0⟩ := hv
  have hx := B.exec
  have hb := B.bytes
  have hr := B.returns
  have hts := atoms_spec (ws := .code yX11_puts cX11_puts 3 none :: GW) B.pre
  have hg : ∀ w ∈ GW, w.before _ s = true := fun w h => hts w (List.mem_cons_of_mem _ h)
  have hown : s.vm.findClass RX11 = some m.cls := findClass_of_methodNamed B.named
  have hlocks := B.notSynchronized
  subst hsz
  have hD := hD0.self (sz := s.heap.size)
  generalize hAe : va_A (MW Y o a I J F G) s.heap.size = A at hD ⊢
  have hA : ∀ q : Nat, s.heap.size ≤ q → A q := fun q h => by rw [← hAe]; exact Or.inr h
  clear hAe hD0 hts B
  have hl := lv_entry ([.ref o, .int p1, .int p2]) (n := 3) (Nat.le_of_ble_eq_true rfl)
  rw [lg_entry_eq]
  generalize (lg_sl ([.ref o, .int p1, .int p2]) ++ List.replicate (3 - (lg_sl ([.ref o, .int p1, .int p2])).length) Slot.unset).toArray = ls at hl ⊢
  have hl : lv_has ls 3 [(0, .ref o), (1, .int p1), (2, .int p2)] := hl
  refine w_start (A0 := A) hP (fun H locs hP hS => ?_)
  refine lv_aload_n hx hb dX11_puts_0 rfl (lv_at hl 0 rfl) ?_
  refine va_get (D := D) (ci := 11) (v := .ref (a 5)) (C := RX11) (T := TX11) (N := 49) hx hb hg inGX11 hown hKN.1 hP 0 rfl rfl 5 (by decide) (hg _ kw_1213) (fun _ h9 => h9) rfl dX11_puts_1 ?_
  refine lv_sipush (v := 400) hx hb dX11_puts_4 (by decide) ?_
  refine lv_aload_n hx hb dX11_puts_7 rfl (lv_at hl 0 rfl) ?_
  refine va_get (D := D) (ci := 11) (v := .int (I 19)) (C := RX11) (T := TX11) (N := 49) hx hb hg inGX11 hown hKN.1 hP 0 rfl rfl 19 (by decide) (hg _ kw_1227) (fun _ h9 => h9) rfl dX11_puts_8 ?_
  refine lv_imul hx hb dX11_puts_11 ?_
  refine lv_topi (fun v1 ev1 => ?_)
  have hv1 := i_mul (show (400 : Int32).toInt = 400 by decide) (Eq.refl (I 19).toInt) ev1 (by omega) (by omega)
  refine lv_aload_n hx hb dX11_puts_12 rfl (lv_at hl 0 rfl) ?_
  refine va_get (D := D) (ci := 11) (v := .ref (a 6)) (C := RX11) (T := TX11) (N := 49) hx hb hg inGX11 hown hKN.1 hP 0 rfl rfl 6 (by decide) (hg _ kw_1214) (fun _ h9 => h9) rfl dX11_puts_13 ?_
  refine lv_aload_n hx hb dX11_puts_16 rfl (lv_at hl 0 rfl) ?_
  refine va_get (D := D) (ci := 11) (v := .int (I 19)) (C := RX11) (T := TX11) (N := 49) hx hb hg inGX11 hown hKN.1 hP 0 rfl rfl 19 (by decide) (hg _ kw_1227) (fun _ h9 => h9) rfl dX11_puts_17 ?_
  refine va_iald hx hb hKN.1 hP 6 0 rfl rfl (vp_in_iff.mpr ⟨by omega, by omega⟩) dX11_puts_20 ?_
  refine lv_topi (fun v2 ev2 => ?_)
  have ev2 : v2 = (F 6) (I 19).toNatClampNeg := ev2
  have qv2 := congrArg Int32.toInt ev2
  refine lv_iadd hx hb dX11_puts_21 ?_
  refine lv_topi (fun v3 ev3 => ?_)
  have hv3 := i_add (Eq.refl v1.toInt) (Eq.refl v2.toInt) ev3 (by omega) (by omega)
  refine lv_iload_n hx hb dX11_puts_22 rfl (lv_at hl 1 rfl) ?_
  refine lv_bipush (v := 16) hx hb dX11_puts_23 (by decide) ?_
  refine lv_iload_n hx hb dX11_puts_25 rfl (lv_at hl 2 rfl) ?_
  refine lv_imul hx hb dX11_puts_26 ?_
  refine lv_topi (fun v4 ev4 => ?_)
  have hv4 := i_mul (show (16 : Int32).toInt = 16 by decide) (Eq.refl p2.toInt) ev4 (by omega) (by omega)
  refine lv_iadd hx hb dX11_puts_27 ?_
  refine lv_topi (fun v5 ev5 => ?_)
  have hv5 := i_add (Eq.refl p1.toInt) (Eq.refl v4.toInt) ev5 (by omega) (by omega)
  refine va_iast hx hb hKN.1 hP hD hS 5 0 rfl rfl (vp_in_iff.mpr ⟨by omega, by omega⟩) dX11_puts_28 (fun H locs hP hD hS => ?_)
  obtain ⟨f6, ef6, hP, hD⟩ : ∃ f6 : Nat → Int32, f6 = upd (F 5) v3.toNatClampNeg v5 ∧ va_P D vwCl (MW Y o a I J (vf_upd F 5 f6) G) H ∧ va_D A (MW Y o a I J (vf_upd F 5 f6) G) := ⟨_, rfl, hP, hD⟩
  have i1 : v3.toNatClampNeg = 400 * (I 19).toNatClampNeg + (F 6 (I 19).toNatClampNeg).toInt.toNat := by have c1 := clampI (x := v3) (by omega); have c2 := clampI (x := I 19) (by omega); omega
  rw [i1] at ef6
  refine lv_aload_n hx hb dX11_puts_29 rfl (lv_at hl 0 rfl) ?_
  refine va_get (D := D) (ci := 11) (v := .ref (a 6)) (C := RX11) (T := TX11) (N := 49) hx hb hg inGX11 hown hKN.1 hP 0 rfl rfl 6 (by decide) (hg _ kw_1214) (fun _ h9 => h9) rfl dX11_puts_30 ?_
  refine lv_aload_n hx hb dX11_puts_33 rfl (lv_at hl 0 rfl) ?_
  refine va_get (D := D) (ci := 11) (v := .int (I 19)) (C := RX11) (T := TX11) (N := 49) hx hb hg inGX11 hown hKN.1 hP 0 rfl rfl 19 (by decide) (hg _ kw_1227) (fun _ h9 => h9) rfl dX11_puts_34 ?_
  refine lv_dup2_11 hx hb dX11_puts_37 rfl rfl ?_
  refine va_iald hx hb hKN.1 hP 6 0 rfl rfl (vp_in_iff.mpr ⟨by omega, by omega⟩) dX11_puts_38 ?_
  refine lv_topi (fun v7 ev7 => ?_)
  have ev7 : v7 = (F 6) (I 19).toNatClampNeg := ev7
  have qv7 := congrArg Int32.toInt ev7
  refine lv_iconst (v := 1) hx hb dX11_puts_39 (by decide) ?_
  refine lv_iadd hx hb dX11_puts_40 ?_
  refine lv_topi (fun v8 ev8 => ?_)
  have hv8 := i_add (Eq.refl v7.toInt) (show (1 : Int32).toInt = 1 by decide) ev8 (by omega) (by omega)
  refine va_iast hx hb hKN.1 hP hD hS 6 0 rfl rfl (vp_in_iff.mpr ⟨by omega, by omega⟩) dX11_puts_41 (fun H locs hP hD hS => ?_)
  obtain ⟨f9, ef9, hP, hD⟩ : ∃ f9 : Nat → Int32, f9 = upd (F 6) ((I 19).toNatClampNeg) v8 ∧ va_P D vwCl (MW Y o a I J (vf_upd (vf_upd F 5 f6) 6 f9) G) H ∧ va_D A (MW Y o a I J (vf_upd (vf_upd F 5 f6) 6 f9) G) := ⟨_, rfl, hP, hD⟩
  refine W.widen (k := 0) (n := 0) (Nat.le_of_ble_eq_true rfl) (Nat.le_of_ble_eq_true rfl) ?_
  exact W.vret hx hb hr (fun t ht hW => ⟨⟨(f6, f9), rfl, ((show PU (F 5) f6 (F 6) f9 (I 19).toNatClampNeg p1.toInt p2.toInt from ⟨v5, v8, by omega, ef6, by omega, ef9⟩)), CB.mk ht hP hD⟩, hS.F ht⟩) hS.2.2 dX11_puts_42
set_option maxHeartbeats 4000000 in
set_option maxRecDepth 100000 in
theorem m_value (l : Launch) (D : va_G) (Y : Nat → ClassId) (Z : Nat → Nat) (sz : Nat) (o : Nat) (a : Nat → Nat) (I : Nat → Int32) (J : Nat → Int64) (F : Nat → Nat → Int32) (G : Nat → Nat → Int64) (gs : Nat → Int32) (gb : Nat) (gd : Nat) (hk_0 : (0 ≤ (I 16).toInt ∧ (I 16).toInt ≤ 400)) (hk_1 : (0 ≤ (I 3).toInt ∧ (I 3).toInt ≤ 400)) (hk_2 : ((I 16).toInt ≤ (I 3).toInt)) (hk_3 : (0 ≤ (I 17).toInt ∧ (I 17).toInt ≤ 4000)) (hk_4 : (0 ≤ (I 20).toInt ∧ (I 20).toInt ≤ 60)) (hk_5 : (0 ≤ (I 19).toInt ∧ (I 19).toInt ≤ 17)) (hk_6 : (((F 6) (I 19).toNatClampNeg).toInt ≤ (I 16).toInt)) (hr_PS : PSg (F 4) (F 8) (F 7) (F 5) (F 6) gs (I 19).toNatClampNeg gb (gd) ((I 20).toInt).toNat) : Met l yX11_value (.code yX11_value cX11_value 3 (some .boolean) :: GW) ({ frames := 3, cells := 0, slots := 0, locals := 66 }) (va_Pc [.ref o] (CP D Y Z (MW Y o a I J F G) sz)) (QG (S := Int32 × Int32 × Int32 × Int32 × Int32 × (Nat → Int32) × (Nat → Int32)) (fun u => some (.int u.1)) (fun u => (0 ≤ u.2.1.toInt ∧ u.2.1.toInt ≤ 400) ∧ ((I 16).toInt ≤ u.2.1.toInt) ∧ (u.2.1.toInt ≤ (I 3).toInt) ∧ (0 ≤ u.2.2.1.toInt ∧ u.2.2.1.toInt ≤ 4000) ∧ (0 ≤ u.2.2.2.2.1.toInt ∧ u.2.2.2.2.1.toInt ≤ 60) ∧ ((I 20).toInt ≤ u.2.2.2.2.1.toInt) ∧ (0 ≤ u.1.toInt ∧ u.1.toInt ≤ 1) ∧ (u.1.toInt = 0 → 1 ≤ u.2.2.1.toInt) ∧ (u.1.toInt = 1 → (u.2.2.2.2.2.2 (I 19).toNatClampNeg).toInt = ((F 6) (I 19).toNatClampNeg).toInt + 1 ∧ (I 16).toInt + 1 ≤ u.2.1.toInt) ∧ (u.1.toInt = 1 → PSg (F 4) (F 8) (F 7) u.2.2.2.2.2.1 u.2.2.2.2.2.2 gs (I 19).toNatClampNeg gb (gd + 1) (u.2.2.2.2.1.toInt).toNat) ∧ TC (F 4) (F 8) (F 7) u.2.2.2.2.2.1) (fun u => CB D (MW Y o a (upd (upd (upd (upd I 16 u.2.1) 17 u.2.2.1) 18 u.2.2.2.1) 20 u.2.2.2.2.1) J (vf_upd (vf_upd F 5 u.2.2.2.2.2.1) 6 u.2.2.2.2.2.2) G) (va_A (MW Y o a I J F G) sz)) (va_A (MW Y o a I J F G) sz)) 0 0 (va_A (MW Y o a I J F G) sz) := by
  refine Met.ofW (cc := cX11_value) (maxL := 3) (ret := (some .boolean)) (by decide) rfl ?_
  intro p e s m args below meth c s₁ B hml hv
  obtain ⟨rfl, hsz, hP, hKN, hD0⟩ := hv
  have hx := B.exec
  have hb := B.bytes
  have hr := B.returns
  have hts := atoms_spec (ws := .code yX11_value cX11_value 3 (some .boolean) :: GW) B.pre
  have hg : ∀ w ∈ GW, w.before _ s = true := fun w h => hts w (List.mem_cons_of_mem _ h)
  have hown : s.vm.findClass RX11 = some m.cls := findClass_of_methodNamed B.named
  have hlocks := B.notSynchronized
  subst hsz
  have hD := hD0.self (sz := s.heap.size)
  generalize hAe : va_A (MW Y o a I J F G) s.heap.size = A at hD ⊢
  have hA : ∀ q : Nat, s.heap.size ≤ q → A q := fun q h => by rw [← hAe]; exact Or.inr h
  clear hAe hD0 hts B
  have hl := lv_entry ([.ref o]) (n := 3) (Nat.le_of_ble_eq_true rfl)
  rw [lg_entry_eq]
  generalize (lg_sl ([.ref o]) ++ List.replicate (3 - (lg_sl ([.ref o])).length) Slot.unset).toArray = ls at hl ⊢
  have hl : lv_has ls 3 [(0, .ref o)] := hl
  refine w_start (A0 := A) hP (fun H locs hP hS => ?_)
  have hd0 := PG_dep hr_PS
  have hl0 := PG_len hr_PS
  refine lv_aload_n hx hb dX11_value_0 rfl (lv_at hl 0 rfl) ?_
  refine cga (rn_V (As := []) (rest := []) (b := o) (m_see l D Y Z H.size o a I J F G   (show (0 ≤ (I 16).toInt ∧ (I 16).toInt ≤ 400) by omega) (show (0 ≤ (I 3).toInt ∧ (I 3).toInt ≤ 400) by omega) (show ((I 16).toInt ≤ (I 3).toInt) by omega)) ⟨hx, hb, hml, hown, hg⟩ lk_X11_183 ⟨CP.blind, va_recv hKN.1 hP (ci := 11) (q0 := 0) rfl rfl, CP.at hP hKN hD⟩ ⟨⟨rfl, rfl⟩, ⟨Nat.le_of_ble_eq_true rfl, Nat.le_of_ble_eq_true rfl⟩, ⟨Nat.le_of_ble_eq_true rfl, Nat.le_of_ble_eq_true rfl⟩⟩ hl.1 rfl (Nat.le_of_ble_eq_true rfl) dX11_value_1) hP hD hS hA (fun u1 H locs w2 hP hD hS => ?_)
  obtain ⟨u3, u4⟩ := u1
  obtain ⟨hw5, hw6, hw7, hw8, hw9⟩ : (0 ≤ u4.toInt ∧ u4.toInt ≤ 400) ∧ ((I 16).toInt ≤ u4.toInt) ∧ (u4.toInt ≤ (I 3).toInt) ∧ ((u3.toInt = -1 ∧ u4.toInt = (I 3).toInt) ∨ (0 ≤ u3.toInt ∧ u3.toInt ≤ 255 ∧ u4.toInt < (I 3).toInt ∧ ((F 2) u4.toNatClampNeg).toInt ≠ 32)) ∧ (-1 ≤ u3.toInt ∧ u3.toInt ≤ 255) := w2
  refine W.eq (g2 := F0 m 4 ls [.int u3]) rfl ?_
  have hP : va_P D vwCl (MW Y o a (upd I 16 u4) J F G) H := hP
  have hD : va_D A (MW Y o a (upd I 16 u4) J F G) := hD
  refine lv_pop hx hb dX11_value_4 rfl ?_
  refine lv_aload_n hx hb dX11_value_5 rfl (lv_at hl 0 rfl) ?_
  refine va_get (D := D) (ci := 11) (v := .int u4) (C := RX11) (T := TX11) (N := 49) hx hb hg inGX11 hown hKN.1 hP 0 rfl rfl 16 (by decide) (hg _ kw_1224) (fun _ h9 => h9) rfl dX11_value_6 ?_
  refine lv_istore_n (lv' := [(1, .int u4), (0, .ref o)]) hx hb dX11_value_9 rfl hl (by decide) rfl (fun ls hl => ?_)
  refine lv_aload_n hx hb dX11_value_10 rfl (lv_at hl 1 rfl) ?_
  refine lv_aload_n hx hb dX11_value_11 rfl (lv_at hl 1 rfl) ?_
  refine va_get (D := D) (ci := 11) (v := .int u4) (C := RX11) (T := TX11) (N := 49) hx hb hg inGX11 hown hKN.1 hP 0 rfl rfl 16 (by decide) (hg _ kw_1224) (fun _ h9 => h9) rfl dX11_value_12 ?_
  refine cga (rn_V (As := [.int u4]) (rest := []) (b := o) (m_isDigit l D Y Z H.size o a (upd I 16 u4) J F G  u4 (show (0 ≤ u4.toInt ∧ u4.toInt ≤ 800) by omega) (show (0 ≤ (I 3).toInt ∧ (I 3).toInt ≤ 400) by omega)) ⟨hx, hb, hml, hown, hg⟩ lk_X11_197 ⟨CP.blind, va_recv hKN.1 hP (ci := 11) (q0 := 0) rfl rfl, CP.at hP hKN hD⟩ ⟨⟨rfl, rfl⟩, ⟨Nat.le_of_ble_eq_true rfl, Nat.le_of_ble_eq_true rfl⟩, ⟨Nat.le_of_ble_eq_true rfl, Nat.le_of_ble_eq_true rfl⟩⟩ hl.1 rfl (Nat.le_of_ble_eq_true rfl) dX11_value_15) hP hD hS hA (fun u10 H locs w11 hP hD hS => ?_)
  obtain ⟨hw13, hw14, hw15⟩ : (0 ≤ u10.toInt ∧ u10.toInt ≤ 1) ∧ (u10.toInt = 1 → (u4.toInt < (I 3).toInt ∧ 48 ≤ ((F 2) u4.toNatClampNeg).toInt ∧ ((F 2) u4.toNatClampNeg).toInt ≤ 57)) ∧ (u10.toInt = 0 → ¬ (u4.toInt < (I 3).toInt ∧ 48 ≤ ((F 2) u4.toNatClampNeg).toInt ∧ ((F 2) u4.toNatClampNeg).toInt ≤ 57)) := w11
  refine W.eq (g2 := F0 m 18 ls [.int u10]) rfl ?_
  have hP : va_P D vwCl (MW Y o a (upd I 16 u4) J F G) H := hP
  have hD : va_D A (MW Y o a (upd I 16 u4) J F G) := hD
  rcases (show u10.toInt = 1 ∨ u10.toInt = 0 by omega) with c16 | c16
  · obtain rfl : u10 = 1 := i_is c16 (by decide)
    have zi1 : (1 : Int32).toInt = 1 := by decide
    replace hw14 := hw14 (by decide)
    clear hw15
    refine W.eq (g2 := F0 m 18 ls [.int 1]) rfl ?_
    refine lv_if_eq (tgt := 52) hx hb dX11_value_18 (by decide) (fun c17 => ?_) (fun c17 => ?_)
    · exact absurd c17 (by decide)
    refine lv_aload_n hx hb dX11_value_21 rfl (lv_at hl 1 rfl) ?_
    refine lv_iconst (v := 0) hx hb dX11_value_22 (by decide) ?_
    refine lv_ldc (v := 99999) hx hb hown (hg _ kw_1521) dX11_value_23 ?_
    have zi0 : (0 : Int32).toInt = 0 := by decide
    have zi99999 : (99999 : Int32).toInt = 99999 := by decide
    refine cga (rn_V (As := [.int 0, .int 99999]) (rest := []) (b := o) (m_number l D Y Z H.size o a (upd I 16 u4) J F G  0 99999 (show (0 ≤ u4.toInt ∧ u4.toInt ≤ 400) by omega) (show (0 ≤ (I 3).toInt ∧ (I 3).toInt ≤ 400) by omega) (show (u4.toInt ≤ (I 3).toInt) by omega) (show (0 ≤ (I 17).toInt ∧ (I 17).toInt ≤ 4000) by omega) (show (-1 ≤ (0 : Int32).toInt ∧ (0 : Int32).toInt ≤ 100000) by omega) (show (-1 ≤ (99999 : Int32).toInt ∧ (99999 : Int32).toInt ≤ 100000) by omega)) ⟨hx, hb, hml, hown, hg⟩ lk_X11_255 ⟨CP.blind, va_recv hKN.1 hP (ci := 11) (q0 := 0) rfl rfl, CP.at hP hKN hD⟩ ⟨⟨rfl, rfl⟩, ⟨Nat.le_of_ble_eq_true rfl, Nat.le_of_ble_eq_true rfl⟩, ⟨Nat.le_of_ble_eq_true rfl, Nat.le_of_ble_eq_true rfl⟩⟩ hl.1 rfl (Nat.le_of_ble_eq_true rfl) dX11_value_25) hP hD hS hA (fun u18 H locs w19 hP hD hS => ?_)
    obtain ⟨u20, u21, u22, u23⟩ := u18
    obtain ⟨hw24, hw25, hw26, hw27, hw28, hw29, hw30⟩ : (0 ≤ u21.toInt ∧ u21.toInt ≤ 400) ∧ (u4.toInt ≤ u21.toInt) ∧ (u21.toInt ≤ (I 3).toInt) ∧ (0 ≤ u22.toInt ∧ u22.toInt ≤ 4000) ∧ (u20.toInt = 1 → ((0 : Int32).toInt ≤ u23.toInt ∧ u23.toInt ≤ (99999 : Int32).toInt ∧ u4.toInt + 1 ≤ u21.toInt)) ∧ (u20.toInt = 0 → 1 ≤ u22.toInt) ∧ (0 ≤ u20.toInt ∧ u20.toInt ≤ 1) := w19
    refine W.eq (g2 := F0 m 28 ls [.int u20]) rfl ?_
    have hP : va_P D vwCl (MW Y o a (upd (upd (upd I 16 u21) 17 u22) 18 u23) J F G) H := hP
    have hD : va_D A (MW Y o a (upd (upd (upd I 16 u21) 17 u22) 18 u23) J F G) := hD
    rcases (show u20.toInt = 1 ∨ u20.toInt = 0 by omega) with c31 | c31
    · obtain rfl : u20 = 1 := i_is c31 (by decide)
      replace hw28 := hw28 (by decide)
      clear hw29
      refine W.eq (g2 := F0 m 28 ls [.int 1]) rfl ?_
      refine lv_if_eq (tgt := 39) hx hb dX11_value_28 (by decide) (fun c32 => ?_) (fun c32 => ?_)
      · exact absurd c32 (by decide)
      refine lv_aload_n hx hb dX11_value_31 rfl (lv_at hl 1 rfl) ?_
      refine lv_iload_n hx hb dX11_value_32 rfl (lv_at hl 0 rfl) ?_
      refine cga (rn_V (As := [.int u4]) (rest := []) (b := o) (m_makes l D Y Z H.size o a (upd (upd (upd I 16 u21) 17 u22) 18 u23) J F G  u4 (show (0 ≤ (I 20).toInt ∧ (I 20).toInt ≤ 60) by omega) (show (0 ≤ u4.toInt ∧ u4.toInt ≤ 400) by omega) (show (0 ≤ u22.toInt ∧ u22.toInt ≤ 4000) by omega)) ⟨hx, hb, hml, hown, hg⟩ lk_X11_258 ⟨CP.blind, va_recv hKN.1 hP (ci := 11) (q0 := 0) rfl rfl, CP.at hP hKN hD⟩ ⟨⟨rfl, rfl⟩, ⟨Nat.le_of_ble_eq_true rfl, Nat.le_of_ble_eq_true rfl⟩, ⟨Nat.le_of_ble_eq_true rfl, Nat.le_of_ble_eq_true rfl⟩⟩ hl.1 rfl (Nat.le_of_ble_eq_true rfl) dX11_value_33) hP hD hS hA (fun u33 H locs w34 hP hD hS => ?_)
      obtain ⟨u35, u36, u37⟩ := u33
      obtain ⟨hw38, hw39, hw40, hw41, hw42⟩ : (0 ≤ u37.toInt ∧ u37.toInt ≤ 60) ∧ (0 ≤ u36.toInt ∧ u36.toInt ≤ 4000) ∧ (u35.toInt = 1 → u37.toInt = (I 20).toInt + 1) ∧ (u35.toInt = 0 → (1 ≤ u36.toInt ∧ u37.toInt = (I 20).toInt)) ∧ (0 ≤ u35.toInt ∧ u35.toInt ≤ 1) := w34
      refine W.eq (g2 := F0 m 36 ls [.int u35]) rfl ?_
      have hP : va_P D vwCl (MW Y o a (upd (upd (upd (upd I 16 u21) 17 u36) 18 u23) 20 u37) J F G) H := hP
      have hD : va_D A (MW Y o a (upd (upd (upd (upd I 16 u21) 17 u36) 18 u23) 20 u37) J F G) := hD
      rcases (show u35.toInt = 1 ∨ u35.toInt = 0 by omega) with c43 | c43
      · obtain rfl : u35 = 1 := i_is c43 (by decide)
        replace hw40 := hw40 (by decide)
        clear hw41
        refine W.eq (g2 := F0 m 36 ls [.int 1]) rfl ?_
        refine lv_if_ne (tgt := 41) hx hb dX11_value_36 (by decide) (fun c44 => ?_) (fun c44 => ?_)
        rotate_left
        · exact absurd c44 (by decide)
        refine lv_aload_n hx hb dX11_value_41 rfl (lv_at hl 1 rfl) ?_
        refine lv_iconst (v := 0) hx hb dX11_value_42 (by decide) ?_
        refine lv_aload_n hx hb dX11_value_43 rfl (lv_at hl 1 rfl) ?_
        refine va_get (D := D) (ci := 11) (v := .int u23) (C := RX11) (T := TX11) (N := 49) hx hb hg inGX11 hown hKN.1 hP 0 rfl rfl 18 (by decide) (hg _ kw_1226) (fun _ h9 => h9) rfl dX11_value_44 ?_
        refine cga (rn_V (As := [.int 0, .int u23]) (rest := []) (b := o) (m_puts l D Y Z H.size o a (upd (upd (upd (upd I 16 u21) 17 u36) 18 u23) 20 u37) J F G  0 u23 (show (0 ≤ (I 19).toInt ∧ (I 19).toInt ≤ 17) by omega) (show (0 ≤ (0 : Int32).toInt ∧ (0 : Int32).toInt ≤ 15) by omega) (show (0 ≤ u23.toInt ∧ u23.toInt ≤ 99999) by omega) (show (0 ≤ ((F 6) (I 19).toNatClampNeg).toInt ∧ ((F 6) (I 19).toNatClampNeg).toInt ≤ 399) by omega)) ⟨hx, hb, hml, hown, hg⟩ lk_X11_250 ⟨CP.blind, va_recv hKN.1 hP (ci := 11) (q0 := 0) rfl rfl, CP.at hP hKN hD⟩ ⟨⟨rfl, rfl⟩, ⟨Nat.le_of_ble_eq_true rfl, Nat.le_of_ble_eq_true rfl⟩, ⟨Nat.le_of_ble_eq_true rfl, Nat.le_of_ble_eq_true rfl⟩⟩ hl.1 rfl (Nat.le_of_ble_eq_true rfl) dX11_value_47) hP hD hS hA (fun u45 H locs w46 hP hD hS => ?_)
        obtain ⟨f47, f48⟩ := u45
        have hw49 : PU (F 5) f47 (F 6) f48 (I 19).toNatClampNeg (0 : Int32).toInt u23.toInt := w46
        clear w46
        refine W.eq (g2 := F0 m 50 ls []) rfl ?_
        have hP : va_P D vwCl (MW Y o a (upd (upd (upd (upd I 16 u21) 17 u36) 18 u23) 20 u37) J (vf_upd (vf_upd F 5 f47) 6 f48) G) H := hP
        have hD : va_D A (MW Y o a (upd (upd (upd (upd I 16 u21) 17 u36) 18 u23) 20 u37) J (vf_upd (vf_upd F 5 f47) 6 f48) G) := hD
        have t50 := PG_pu (e := (gd + 1)) (PG_to (md2 := u37.toInt.toNat) hr_PS rfl rfl (by omega) (by omega)) hw49 (fun x hx => stp_num hx (by omega) (by omega) (by omega) (by omega) rfl) (by omega) (by omega)
        obtain ⟨t50p, t50l⟩ := t50
        refine lv_iconst (v := 1) hx hb dX11_value_50 (by decide) ?_
        refine W.widen (k := 0) (n := 0) (Nat.le_of_ble_eq_true rfl) (Nat.le_of_ble_eq_true rfl) ?_
        exact W.zret (v := 1) hx hb hr (by decide) (fun t ht hW => ⟨⟨(1, u21, u36, u23, u37, f47, f48), rfl, ⟨(show (0 ≤ u21.toInt ∧ u21.toInt ≤ 400) by omega), (show ((I 16).toInt ≤ u21.toInt) by omega), (show (u21.toInt ≤ (I 3).toInt) by omega), (show (0 ≤ u36.toInt ∧ u36.toInt ≤ 4000) by omega), (show (0 ≤ u37.toInt ∧ u37.toInt ≤ 60) by omega), (show ((I 20).toInt ≤ u37.toInt) by omega), (show (0 ≤ (1 : Int32).toInt ∧ (1 : Int32).toInt ≤ 1) by omega), (show ((1 : Int32).toInt = 0 → 1 ≤ u36.toInt) by omega), (show ((1 : Int32).toInt = 1 → (f48 (I 19).toNatClampNeg).toInt = ((F 6) (I 19).toNatClampNeg).toInt + 1 ∧ (I 16).toInt + 1 ≤ u21.toInt) by omega), (show ((1 : Int32).toInt = 1 → PSg (F 4) (F 8) (F 7) f47 f48 gs (I 19).toNatClampNeg gb (gd + 1) (u37.toInt).toNat) from (fun _ => (PG_to t50p rfl (by omega) (by omega) (by omega)))), (show TC (F 4) (F 8) (F 7) f47 from (PG_tc t50p))⟩, CB.mk ht hP hD⟩, hS.F ht⟩) hS.2.2 dX11_value_51
      · obtain rfl : u35 = 0 := i_is c43 (by decide)
        clear hw40
        replace hw41 := hw41 (by decide)
        refine W.eq (g2 := F0 m 36 ls [.int 0]) rfl ?_
        refine lv_if_ne (tgt := 41) hx hb dX11_value_36 (by decide) (fun c51 => ?_) (fun c51 => ?_)
        · exact absurd c51 (by decide)
        refine lv_iconst (v := 0) hx hb dX11_value_39 (by decide) ?_
        refine W.widen (k := 0) (n := 0) (Nat.le_of_ble_eq_true rfl) (Nat.le_of_ble_eq_true rfl) ?_
        exact W.zret (v := 0) hx hb hr (by decide) (fun t ht hW => ⟨⟨(0, u21, u36, u23, u37, (F 5), (F 6)), rfl, ⟨(show (0 ≤ u21.toInt ∧ u21.toInt ≤ 400) by omega), (show ((I 16).toInt ≤ u21.toInt) by omega), (show (u21.toInt ≤ (I 3).toInt) by omega), (show (0 ≤ u36.toInt ∧ u36.toInt ≤ 4000) by omega), (show (0 ≤ u37.toInt ∧ u37.toInt ≤ 60) by omega), (show ((I 20).toInt ≤ u37.toInt) by omega), (show (0 ≤ (0 : Int32).toInt ∧ (0 : Int32).toInt ≤ 1) by omega), (show ((0 : Int32).toInt = 0 → 1 ≤ u36.toInt) by omega), (show ((0 : Int32).toInt = 1 → ((F 6) (I 19).toNatClampNeg).toInt = ((F 6) (I 19).toNatClampNeg).toInt + 1 ∧ (I 16).toInt + 1 ≤ u21.toInt) by omega), (show ((0 : Int32).toInt = 1 → PSg (F 4) (F 8) (F 7) (F 5) (F 6) gs (I 19).toNatClampNeg gb (gd + 1) (u37.toInt).toNat) from (fun h => absurd h (by decide))), (show TC (F 4) (F 8) (F 7) (F 5) from (PG_tc hr_PS))⟩, CB.mk ht hP hD⟩, hS.F ht⟩) hS.2.2 dX11_value_40
    · obtain rfl : u20 = 0 := i_is c31 (by decide)
      clear hw28
      replace hw29 := hw29 (by decide)
      refine W.eq (g2 := F0 m 28 ls [.int 0]) rfl ?_
      refine lv_if_eq (tgt := 39) hx hb dX11_value_28 (by decide) (fun c52 => ?_) (fun c52 => ?_)
      rotate_left
      · exact absurd c52 (by decide)
      refine lv_iconst (v := 0) hx hb dX11_value_39 (by decide) ?_
      refine W.widen (k := 0) (n := 0) (Nat.le_of_ble_eq_true rfl) (Nat.le_of_ble_eq_true rfl) ?_
      exact W.zret (v := 0) hx hb hr (by decide) (fun t ht hW => ⟨⟨(0, u21, u22, u23, (I 20), (F 5), (F 6)), rfl, ⟨(show (0 ≤ u21.toInt ∧ u21.toInt ≤ 400) by omega), (show ((I 16).toInt ≤ u21.toInt) by omega), (show (u21.toInt ≤ (I 3).toInt) by omega), (show (0 ≤ u22.toInt ∧ u22.toInt ≤ 4000) by omega), (show (0 ≤ (I 20).toInt ∧ (I 20).toInt ≤ 60) by omega), (show ((I 20).toInt ≤ (I 20).toInt) by omega), (show (0 ≤ (0 : Int32).toInt ∧ (0 : Int32).toInt ≤ 1) by omega), (show ((0 : Int32).toInt = 0 → 1 ≤ u22.toInt) by omega), (show ((0 : Int32).toInt = 1 → ((F 6) (I 19).toNatClampNeg).toInt = ((F 6) (I 19).toNatClampNeg).toInt + 1 ∧ (I 16).toInt + 1 ≤ u21.toInt) by omega), (show ((0 : Int32).toInt = 1 → PSg (F 4) (F 8) (F 7) (F 5) (F 6) gs (I 19).toNatClampNeg gb (gd + 1) ((I 20).toInt).toNat) from (fun h => absurd h (by decide))), (show TC (F 4) (F 8) (F 7) (F 5) from (PG_tc hr_PS))⟩, CB.mk ht hP hD⟩, hS.F ht⟩) hS.2.2 dX11_value_40
  · obtain rfl : u10 = 0 := i_is c16 (by decide)
    have zi0 : (0 : Int32).toInt = 0 := by decide
    clear hw14
    replace hw15 := hw15 (by decide)
    refine W.eq (g2 := F0 m 18 ls [.int 0]) rfl ?_
    refine lv_if_eq (tgt := 52) hx hb dX11_value_18 (by decide) (fun c53 => ?_) (fun c53 => ?_)
    rotate_left
    · exact absurd c53 (by decide)
    refine lv_aload_n hx hb dX11_value_52 rfl (lv_at hl 1 rfl) ?_
    refine cga (rn_V (As := []) (rest := []) (b := o) (m_wordHere l D Y Z H.size o a (upd I 16 u4) J F G   (show (0 ≤ u4.toInt ∧ u4.toInt ≤ 400) by omega) (show (0 ≤ (I 3).toInt ∧ (I 3).toInt ≤ 400) by omega) (show (u4.toInt ≤ (I 3).toInt) by omega) (show (0 ≤ (I 19).toInt ∧ (I 19).toInt ≤ 17) by omega)) ⟨hx, hb, hml, hown, hg⟩ lk_X11_261 ⟨CP.blind, va_recv hKN.1 hP (ci := 11) (q0 := 0) rfl rfl, CP.at hP hKN hD⟩ ⟨⟨rfl, rfl⟩, ⟨Nat.le_of_ble_eq_true rfl, Nat.le_of_ble_eq_true rfl⟩, ⟨Nat.le_of_ble_eq_true rfl, Nat.le_of_ble_eq_true rfl⟩⟩ hl.1 rfl (Nat.le_of_ble_eq_true rfl) dX11_value_53) hP hD hS hA (fun u54 H locs w55 hP hD hS => ?_)
    obtain ⟨u56, u57⟩ := u54
    obtain ⟨hw58, hw59, hw60, hw61, hw62⟩ : (0 ≤ u57.toInt ∧ u57.toInt ≤ 400) ∧ (u4.toInt ≤ u57.toInt) ∧ (u57.toInt ≤ (I 3).toInt) ∧ (-1 ≤ u56.toInt ∧ u56.toInt ≤ 9) ∧ (0 ≤ u56.toInt → (u57.toInt < (I 3).toInt ∧ 97 ≤ ((F 2) u57.toNatClampNeg).toInt ∧ ((F 2) u57.toNatClampNeg).toInt ≤ 122)) := w55
    refine W.eq (g2 := F0 m 56 ls [.int u56]) rfl ?_
    have hP : va_P D vwCl (MW Y o a (upd I 16 u57) J F G) H := hP
    have hD : va_D A (MW Y o a (upd I 16 u57) J F G) := hD
    refine lv_istore_n (lv' := [(2, .int u56), (1, .int u4), (0, .ref o)]) hx hb dX11_value_56 rfl hl (by decide) rfl (fun ls hl => ?_)
    refine lv_iload_n hx hb dX11_value_57 rfl (lv_at hl 0 rfl) ?_
    refine lv_if_ge (tgt := 68) hx hb dX11_value_58 (by decide) (fun c63 => ?_) (fun c63 => ?_)
    · skip
      have c63 := i_le (show (0 : Int32).toInt = 0 by decide) (Eq.refl u56.toInt) c63
      refine lv_aload_n hx hb dX11_value_68 rfl (lv_at hl 2 rfl) ?_
      refine lv_iload_n hx hb dX11_value_69 rfl (lv_at hl 1 rfl) ?_
      refine cga (rn_V (As := [.int u4]) (rest := []) (b := o) (m_makes l D Y Z H.size o a (upd I 16 u57) J F G  u4 (show (0 ≤ (I 20).toInt ∧ (I 20).toInt ≤ 60) by omega) (show (0 ≤ u4.toInt ∧ u4.toInt ≤ 400) by omega) (show (0 ≤ (I 17).toInt ∧ (I 17).toInt ≤ 4000) by omega)) ⟨hx, hb, hml, hown, hg⟩ lk_X11_258 ⟨CP.blind, va_recv hKN.1 hP (ci := 11) (q0 := 0) rfl rfl, CP.at hP hKN hD⟩ ⟨⟨rfl, rfl⟩, ⟨Nat.le_of_ble_eq_true rfl, Nat.le_of_ble_eq_true rfl⟩, ⟨Nat.le_of_ble_eq_true rfl, Nat.le_of_ble_eq_true rfl⟩⟩ hl.1 rfl (Nat.le_of_ble_eq_true rfl) dX11_value_70) hP hD hS hA (fun u64 H locs w65 hP hD hS => ?_)
      obtain ⟨u66, u67, u68⟩ := u64
      obtain ⟨hw69, hw70, hw71, hw72, hw73⟩ : (0 ≤ u68.toInt ∧ u68.toInt ≤ 60) ∧ (0 ≤ u67.toInt ∧ u67.toInt ≤ 4000) ∧ (u66.toInt = 1 → u68.toInt = (I 20).toInt + 1) ∧ (u66.toInt = 0 → (1 ≤ u67.toInt ∧ u68.toInt = (I 20).toInt)) ∧ (0 ≤ u66.toInt ∧ u66.toInt ≤ 1) := w65
      refine W.eq (g2 := F0 m 73 ls [.int u66]) rfl ?_
      have hP : va_P D vwCl (MW Y o a (upd (upd (upd I 16 u57) 17 u67) 20 u68) J F G) H := hP
      have hD : va_D A (MW Y o a (upd (upd (upd I 16 u57) 17 u67) 20 u68) J F G) := hD
      rcases (show u66.toInt = 1 ∨ u66.toInt = 0 by omega) with c74 | c74
      · obtain rfl : u66 = 1 := i_is c74 (by decide)
        have zi1 : (1 : Int32).toInt = 1 := by decide
        replace hw71 := hw71 (by decide)
        clear hw72
        refine W.eq (g2 := F0 m 73 ls [.int 1]) rfl ?_
        refine lv_if_ne (tgt := 78) hx hb dX11_value_73 (by decide) (fun c75 => ?_) (fun c75 => ?_)
        rotate_left
        · exact absurd c75 (by decide)
        refine lv_aload_n hx hb dX11_value_78 rfl (lv_at hl 2 rfl) ?_
        refine cga (rn_V (As := []) (rest := []) (b := o) (m_passWord l D Y Z H.size o a (upd (upd (upd I 16 u57) 17 u67) 20 u68) J F G   (show (0 ≤ u57.toInt ∧ u57.toInt ≤ 400) by omega) (show (0 ≤ (I 3).toInt ∧ (I 3).toInt ≤ 400) by omega) (show (u57.toInt ≤ (I 3).toInt) by omega)) ⟨hx, hb, hml, hown, hg⟩ lk_X11_194 ⟨CP.blind, va_recv hKN.1 hP (ci := 11) (q0 := 0) rfl rfl, CP.at hP hKN hD⟩ ⟨⟨rfl, rfl⟩, ⟨Nat.le_of_ble_eq_true rfl, Nat.le_of_ble_eq_true rfl⟩, ⟨Nat.le_of_ble_eq_true rfl, Nat.le_of_ble_eq_true rfl⟩⟩ hl.1 rfl (Nat.le_of_ble_eq_true rfl) dX11_value_79) hP hD hS hA (fun u76 H locs w77 hP hD hS => ?_)
        obtain ⟨hw79, hw80, hw81, hw82⟩ : (0 ≤ u76.toInt ∧ u76.toInt ≤ 400) ∧ (u57.toInt ≤ u76.toInt) ∧ (u76.toInt ≤ (I 3).toInt) ∧ ((97 ≤ ((F 2) u57.toNatClampNeg).toInt ∧ ((F 2) u57.toNatClampNeg).toInt ≤ 122 ∧ u57.toInt < (I 3).toInt) → u57.toInt + 1 ≤ u76.toInt) := w77
        refine W.eq (g2 := F0 m 82 ls []) rfl ?_
        have hP : va_P D vwCl (MW Y o a (upd (upd (upd I 16 u76) 17 u67) 20 u68) J F G) H := hP
        have hD : va_D A (MW Y o a (upd (upd (upd I 16 u76) 17 u67) 20 u68) J F G) := hD
        refine lv_aload_n hx hb dX11_value_82 rfl (lv_at hl 2 rfl) ?_
        refine lv_iconst (v := 1) hx hb dX11_value_83 (by decide) ?_
        refine lv_iload_n hx hb dX11_value_84 rfl (lv_at hl 0 rfl) ?_
        refine cga (rn_V (As := [.int 1, .int u56]) (rest := []) (b := o) (m_puts l D Y Z H.size o a (upd (upd (upd I 16 u76) 17 u67) 20 u68) J F G  1 u56 (show (0 ≤ (I 19).toInt ∧ (I 19).toInt ≤ 17) by omega) (show (0 ≤ (1 : Int32).toInt ∧ (1 : Int32).toInt ≤ 15) by omega) (show (0 ≤ u56.toInt ∧ u56.toInt ≤ 99999) by omega) (show (0 ≤ ((F 6) (I 19).toNatClampNeg).toInt ∧ ((F 6) (I 19).toNatClampNeg).toInt ≤ 399) by omega)) ⟨hx, hb, hml, hown, hg⟩ lk_X11_250 ⟨CP.blind, va_recv hKN.1 hP (ci := 11) (q0 := 0) rfl rfl, CP.at hP hKN hD⟩ ⟨⟨rfl, rfl⟩, ⟨Nat.le_of_ble_eq_true rfl, Nat.le_of_ble_eq_true rfl⟩, ⟨Nat.le_of_ble_eq_true rfl, Nat.le_of_ble_eq_true rfl⟩⟩ hl.1 rfl (Nat.le_of_ble_eq_true rfl) dX11_value_85) hP hD hS hA (fun u83 H locs w84 hP hD hS => ?_)
        obtain ⟨f85, f86⟩ := u83
        have hw87 : PU (F 5) f85 (F 6) f86 (I 19).toNatClampNeg (1 : Int32).toInt u56.toInt := w84
        clear w84
        refine W.eq (g2 := F0 m 88 ls []) rfl ?_
        have hP : va_P D vwCl (MW Y o a (upd (upd (upd I 16 u76) 17 u67) 20 u68) J (vf_upd (vf_upd F 5 f85) 6 f86) G) H := hP
        have hD : va_D A (MW Y o a (upd (upd (upd I 16 u76) 17 u67) 20 u68) J (vf_upd (vf_upd F 5 f85) 6 f86) G) := hD
        have t88 := PG_pu (e := (gd + 1)) (PG_to (md2 := u68.toInt.toNat) hr_PS rfl rfl (by omega) (by omega)) hw87 (fun x hx => stp_word hx (by omega) (by omega) (by omega) (by omega) rfl) (by omega) (by omega)
        obtain ⟨t88p, t88l⟩ := t88
        refine lv_iconst (v := 1) hx hb dX11_value_88 (by decide) ?_
        refine W.widen (k := 0) (n := 0) (Nat.le_of_ble_eq_true rfl) (Nat.le_of_ble_eq_true rfl) ?_
        exact W.zret (v := 1) hx hb hr (by decide) (fun t ht hW => ⟨⟨(1, u76, u67, (I 18), u68, f85, f86), rfl, ⟨(show (0 ≤ u76.toInt ∧ u76.toInt ≤ 400) by omega), (show ((I 16).toInt ≤ u76.toInt) by omega), (show (u76.toInt ≤ (I 3).toInt) by omega), (show (0 ≤ u67.toInt ∧ u67.toInt ≤ 4000) by omega), (show (0 ≤ u68.toInt ∧ u68.toInt ≤ 60) by omega), (show ((I 20).toInt ≤ u68.toInt) by omega), (show (0 ≤ (1 : Int32).toInt ∧ (1 : Int32).toInt ≤ 1) by omega), (show ((1 : Int32).toInt = 0 → 1 ≤ u67.toInt) by omega), (show ((1 : Int32).toInt = 1 → (f86 (I 19).toNatClampNeg).toInt = ((F 6) (I 19).toNatClampNeg).toInt + 1 ∧ (I 16).toInt + 1 ≤ u76.toInt) by omega), (show ((1 : Int32).toInt = 1 → PSg (F 4) (F 8) (F 7) f85 f86 gs (I 19).toNatClampNeg gb (gd + 1) (u68.toInt).toNat) from (fun _ => (PG_to t88p rfl (by omega) (by omega) (by omega)))), (show TC (F 4) (F 8) (F 7) f85 from (PG_tc t88p))⟩, CB.mk ht hP hD⟩, hS.F ht⟩) hS.2.2 dX11_value_89
      · obtain rfl : u66 = 0 := i_is c74 (by decide)
        clear hw71
        replace hw72 := hw72 (by decide)
        refine W.eq (g2 := F0 m 73 ls [.int 0]) rfl ?_
        refine lv_if_ne (tgt := 78) hx hb dX11_value_73 (by decide) (fun c89 => ?_) (fun c89 => ?_)
        · exact absurd c89 (by decide)
        refine lv_iconst (v := 0) hx hb dX11_value_76 (by decide) ?_
        refine W.widen (k := 0) (n := 0) (Nat.le_of_ble_eq_true rfl) (Nat.le_of_ble_eq_true rfl) ?_
        exact W.zret (v := 0) hx hb hr (by decide) (fun t ht hW => ⟨⟨(0, u57, u67, (I 18), u68, (F 5), (F 6)), rfl, ⟨(show (0 ≤ u57.toInt ∧ u57.toInt ≤ 400) by omega), (show ((I 16).toInt ≤ u57.toInt) by omega), (show (u57.toInt ≤ (I 3).toInt) by omega), (show (0 ≤ u67.toInt ∧ u67.toInt ≤ 4000) by omega), (show (0 ≤ u68.toInt ∧ u68.toInt ≤ 60) by omega), (show ((I 20).toInt ≤ u68.toInt) by omega), (show (0 ≤ (0 : Int32).toInt ∧ (0 : Int32).toInt ≤ 1) by omega), (show ((0 : Int32).toInt = 0 → 1 ≤ u67.toInt) by omega), (show ((0 : Int32).toInt = 1 → ((F 6) (I 19).toNatClampNeg).toInt = ((F 6) (I 19).toNatClampNeg).toInt + 1 ∧ (I 16).toInt + 1 ≤ u57.toInt) by omega), (show ((0 : Int32).toInt = 1 → PSg (F 4) (F 8) (F 7) (F 5) (F 6) gs (I 19).toNatClampNeg gb (gd + 1) (u68.toInt).toNat) from (fun h => absurd h (by decide))), (show TC (F 4) (F 8) (F 7) (F 5) from (PG_tc hr_PS))⟩, CB.mk ht hP hD⟩, hS.F ht⟩) hS.2.2 dX11_value_77
    · skip
      have c63 := i_nle (show (0 : Int32).toInt = 0 by decide) (Eq.refl u56.toInt) c63
      refine lv_aload_n hx hb dX11_value_61 rfl (lv_at hl 2 rfl) ?_
      refine lv_iconst (v := 0) hx hb dX11_value_62 (by decide) ?_
      refine lv_iload_n hx hb dX11_value_63 rfl (lv_at hl 1 rfl) ?_
      refine cga (rn_V (As := [.int 0, .int u4]) (rest := []) (b := o) (m_fails l D Y Z H.size o a (upd I 16 u57) J F G  0 u4 (show (0 ≤ (0 : Int32).toInt ∧ (0 : Int32).toInt ≤ 4) by omega) (show (0 ≤ u4.toInt ∧ u4.toInt ≤ 400) by omega) (show (0 ≤ (I 17).toInt ∧ (I 17).toInt ≤ 4000) by omega)) ⟨hx, hb, hml, hown, hg⟩ lk_X11_200 ⟨CP.blind, va_recv hKN.1 hP (ci := 11) (q0 := 0) rfl rfl, CP.at hP hKN hD⟩ ⟨⟨rfl, rfl⟩, ⟨Nat.le_of_ble_eq_true rfl, Nat.le_of_ble_eq_true rfl⟩, ⟨Nat.le_of_ble_eq_true rfl, Nat.le_of_ble_eq_true rfl⟩⟩ hl.1 rfl (Nat.le_of_ble_eq_true rfl) dX11_value_64) hP hD hS hA (fun u90 H locs w91 hP hD hS => ?_)
      obtain ⟨u92, u93⟩ := u90
      obtain ⟨hw94, hw95⟩ : (u92.toInt = 0) ∧ (1 ≤ u93.toInt ∧ u93.toInt ≤ 4000) := w91
      refine W.eq (g2 := F0 m 67 ls [.int u92]) rfl ?_
      have hP : va_P D vwCl (MW Y o a (upd (upd I 16 u57) 17 u93) J F G) H := hP
      have hD : va_D A (MW Y o a (upd (upd I 16 u57) 17 u93) J F G) := hD
      obtain rfl : u92 = 0 := i_is (X := 0) (by omega) (by decide)
      refine W.eq (g2 := F0 m 67 ls [.int 0]) rfl ?_
      refine W.widen (k := 0) (n := 0) (Nat.le_of_ble_eq_true rfl) (Nat.le_of_ble_eq_true rfl) ?_
      exact W.zret (v := 0) hx hb hr (by decide) (fun t ht hW => ⟨⟨(0, u57, u93, (I 18), (I 20), (F 5), (F 6)), rfl, ⟨(show (0 ≤ u57.toInt ∧ u57.toInt ≤ 400) by omega), (show ((I 16).toInt ≤ u57.toInt) by omega), (show (u57.toInt ≤ (I 3).toInt) by omega), (show (0 ≤ u93.toInt ∧ u93.toInt ≤ 4000) by omega), (show (0 ≤ (I 20).toInt ∧ (I 20).toInt ≤ 60) by omega), (show ((I 20).toInt ≤ (I 20).toInt) by omega), (show (0 ≤ (0 : Int32).toInt ∧ (0 : Int32).toInt ≤ 1) by omega), (show ((0 : Int32).toInt = 0 → 1 ≤ u93.toInt) by omega), (show ((0 : Int32).toInt = 1 → ((F 6) (I 19).toNatClampNeg).toInt = ((F 6) (I 19).toNatClampNeg).toInt + 1 ∧ (I 16).toInt + 1 ≤ u57.toInt) by omega), (show ((0 : Int32).toInt = 1 → PSg (F 4) (F 8) (F 7) (F 5) (F 6) gs (I 19).toNatClampNeg gb (gd + 1) ((I 20).toInt).toNat) from (fun h => absurd h (by decide))), (show TC (F 4) (F 8) (F 7) (F 5) from (PG_tc hr_PS))⟩, CB.mk ht hP hD⟩, hS.F ht⟩) hS.2.2 dX11_value_67
set_option maxHeartbeats 4000000 in
set_option maxRecDepth 100000 in
theorem m_term (l : Launch) (D : va_G) (Y : Nat → ClassId) (Z : Nat → Nat) (sz : Nat) (o : Nat) (a : Nat → Nat) (I : Nat → Int32) (J : Nat → Int64) (F : Nat → Nat → Int32) (G : Nat → Nat → Int64) (gs : Nat → Int32) (gb : Nat) (gd : Nat) (hk_0 : (0 ≤ (I 16).toInt ∧ (I 16).toInt ≤ 400)) (hk_1 : (0 ≤ (I 3).toInt ∧ (I 3).toInt ≤ 400)) (hk_2 : ((I 16).toInt ≤ (I 3).toInt)) (hk_3 : (0 ≤ (I 17).toInt ∧ (I 17).toInt ≤ 4000)) (hk_4 : (0 ≤ (I 20).toInt ∧ (I 20).toInt ≤ 60)) (hk_5 : (0 ≤ (I 19).toInt ∧ (I 19).toInt ≤ 17)) (hk_6 : (((F 6) (I 19).toNatClampNeg).toInt ≤ (I 16).toInt)) (hr_PS : PSg (F 4) (F 8) (F 7) (F 5) (F 6) gs (I 19).toNatClampNeg gb (gd) ((I 20).toInt).toNat) : Met l yX11_term (.code yX11_term cX11_term 2 (some .boolean) :: GW) ({ frames := 4, cells := 0, slots := 0, locals := 88 }) (va_Pc [.ref o] (CP D Y Z (MW Y o a I J F G) sz)) (QG (S := Int32 × Int32 × Int32 × Int32 × Int32 × (Nat → Int32) × (Nat → Int32)) (fun u => some (.int u.1)) (fun u => (0 ≤ u.2.1.toInt ∧ u.2.1.toInt ≤ 400) ∧ ((I 16).toInt ≤ u.2.1.toInt) ∧ (u.2.1.toInt ≤ (I 3).toInt) ∧ (0 ≤ u.2.2.1.toInt ∧ u.2.2.1.toInt ≤ 4000) ∧ (0 ≤ u.2.2.2.2.1.toInt ∧ u.2.2.2.2.1.toInt ≤ 60) ∧ ((I 20).toInt ≤ u.2.2.2.2.1.toInt) ∧ (0 ≤ u.1.toInt ∧ u.1.toInt ≤ 1) ∧ (u.1.toInt = 0 → 1 ≤ u.2.2.1.toInt) ∧ (u.1.toInt = 1 → (u.2.2.2.2.2.2 (I 19).toNatClampNeg).toInt + (I 16).toInt ≤ ((F 6) (I 19).toNatClampNeg).toInt + u.2.1.toInt) ∧ (u.1.toInt = 1 → PSg (F 4) (F 8) (F 7) u.2.2.2.2.2.1 u.2.2.2.2.2.2 gs (I 19).toNatClampNeg gb (gd + 1) (u.2.2.2.2.1.toInt).toNat) ∧ TC (F 4) (F 8) (F 7) u.2.2.2.2.2.1) (fun u => CB D (MW Y o a (upd (upd (upd (upd I 16 u.2.1) 17 u.2.2.1) 18 u.2.2.2.1) 20 u.2.2.2.2.1) J (vf_upd (vf_upd F 5 u.2.2.2.2.2.1) 6 u.2.2.2.2.2.2) G) (va_A (MW Y o a I J F G) sz)) (va_A (MW Y o a I J F G) sz)) 0 0 (va_A (MW Y o a I J F G) sz) := by
  refine Met.ofW (cc := cX11_term) (maxL := 2) (ret := (some .boolean)) (by decide) rfl ?_
  intro p e s m args below meth c s₁ B hml hv
  obtain ⟨rfl, hsz, hP, hKN, hD0⟩ := hv
  have hx := B.exec
  have hb := B.bytes
  have hr := B.returns
  have hts := atoms_spec (ws := .code yX11_term cX11_term 2 (some .boolean) :: GW) B.pre
  have hg : ∀ w ∈ GW, w.before _ s = true := fun w h => hts w (List.mem_cons_of_mem _ h)
  have hown : s.vm.findClass RX11 = some m.cls := findClass_of_methodNamed B.named
  have hlocks := B.notSynchronized
  subst hsz
  have hD := hD0.self (sz := s.heap.size)
  generalize hAe : va_A (MW Y o a I J F G) s.heap.size = A at hD ⊢
  have hA : ∀ q : Nat, s.heap.size ≤ q → A q := fun q h => by rw [← hAe]; exact Or.inr h
  clear hAe hD0 hts B
  have hl := lv_entry ([.ref o]) (n := 2) (Nat.le_of_ble_eq_true rfl)
  rw [lg_entry_eq]
  generalize (lg_sl ([.ref o]) ++ List.replicate (2 - (lg_sl ([.ref o])).length) Slot.unset).toArray = ls at hl ⊢
  have hl : lv_has ls 2 [(0, .ref o)] := hl
  refine w_start (A0 := A) hP (fun H locs hP hS => ?_)
  have hd0 := PG_dep hr_PS
  have hl0 := PG_len hr_PS
  refine lv_aload_n hx hb dX11_term_0 rfl (lv_at hl 0 rfl) ?_
  refine cga (rn_V (As := []) (rest := []) (b := o) (m_value l D Y Z H.size o a I J F G gs gb gd  (show (0 ≤ (I 16).toInt ∧ (I 16).toInt ≤ 400) by omega) (show (0 ≤ (I 3).toInt ∧ (I 3).toInt ≤ 400) by omega) (show ((I 16).toInt ≤ (I 3).toInt) by omega) (show (0 ≤ (I 17).toInt ∧ (I 17).toInt ≤ 4000) by omega) (show (0 ≤ (I 20).toInt ∧ (I 20).toInt ≤ 60) by omega) (show (0 ≤ (I 19).toInt ∧ (I 19).toInt ≤ 17) by omega) (show (((F 6) (I 19).toNatClampNeg).toInt ≤ (I 16).toInt) by omega) (show PSg (F 4) (F 8) (F 7) (F 5) (F 6) gs (I 19).toNatClampNeg gb (gd) ((I 20).toInt).toNat from (PG_to hr_PS rfl (by omega) (by omega) (by omega)))) ⟨hx, hb, hml, hown, hg⟩ lk_X11_264 ⟨CP.blind, va_recv hKN.1 hP (ci := 11) (q0 := 0) rfl rfl, CP.at hP hKN hD⟩ ⟨⟨rfl, rfl⟩, ⟨Nat.le_of_ble_eq_true rfl, Nat.le_of_ble_eq_true rfl⟩, ⟨Nat.le_of_ble_eq_true rfl, Nat.le_of_ble_eq_true rfl⟩⟩ hl.1 rfl (Nat.le_of_ble_eq_true rfl) dX11_term_1) hP hD hS hA (fun u1 H locs w2 hP hD hS => ?_)
  obtain ⟨u3, u4, u5, u6, u7, f8, f9⟩ := u1
  obtain ⟨hw10, hw11, hw12, hw13, hw14, hw15, hw16, hw17, hw18, hw19, hw20⟩ : (0 ≤ u4.toInt ∧ u4.toInt ≤ 400) ∧ ((I 16).toInt ≤ u4.toInt) ∧ (u4.toInt ≤ (I 3).toInt) ∧ (0 ≤ u5.toInt ∧ u5.toInt ≤ 4000) ∧ (0 ≤ u7.toInt ∧ u7.toInt ≤ 60) ∧ ((I 20).toInt ≤ u7.toInt) ∧ (0 ≤ u3.toInt ∧ u3.toInt ≤ 1) ∧ (u3.toInt = 0 → 1 ≤ u5.toInt) ∧ (u3.toInt = 1 → (f9 (I 19).toNatClampNeg).toInt = ((F 6) (I 19).toNatClampNeg).toInt + 1 ∧ (I 16).toInt + 1 ≤ u4.toInt) ∧ (u3.toInt = 1 → PSg (F 4) (F 8) (F 7) f8 f9 gs (I 19).toNatClampNeg gb (gd + 1) (u7.toInt).toNat) ∧ TC (F 4) (F 8) (F 7) f8 := w2
  refine W.eq (g2 := F0 m 4 ls [.int u3]) rfl ?_
  have hP : va_P D vwCl (MW Y o a (upd (upd (upd (upd I 16 u4) 17 u5) 18 u6) 20 u7) J (vf_upd (vf_upd F 5 f8) 6 f9) G) H := hP
  have hD : va_D A (MW Y o a (upd (upd (upd (upd I 16 u4) 17 u5) 18 u6) 20 u7) J (vf_upd (vf_upd F 5 f8) 6 f9) G) := hD
  rcases (show u3.toInt = 1 ∨ u3.toInt = 0 by omega) with c21 | c21
  · obtain rfl : u3 = 1 := i_is c21 (by decide)
    have zi1 : (1 : Int32).toInt = 1 := by decide
    clear hw17
    replace hw18 := hw18 (by decide)
    have t22 := hw19 (by decide)
    have t22l := PG_len t22
    have t22d := PG_dep t22
    refine W.eq (g2 := F0 m 4 ls [.int 1]) rfl ?_
    refine lv_if_ne (tgt := 9) hx hb dX11_term_4 (by decide) (fun c23 => ?_) (fun c23 => ?_)
    rotate_left
    · exact absurd c23 (by decide)
    refine w_loop (σ := Int32 × Int32 × Int32 × Int32 × (Nat → Int32) × (Nat → Int32)) (fun xx H locs ls => match xx with | (g176, g177, g178, g179, f180, f181) => va_P D vwCl (MW Y o a (upd (upd (upd (upd I 16 g176) 17 g177) 18 g178) 20 g179) J (vf_upd (vf_upd F 5 f180) 6 f181) G) H ∧ va_D A (MW Y o a (upd (upd (upd (upd I 16 g176) 17 g177) 18 g178) 20 g179) J (vf_upd (vf_upd F 5 f180) 6 f181) G) ∧ va_S A s.heap H locs ∧ lv_has ls 2 [(0, .ref o)] ∧ (0 ≤ g176.toInt ∧ g176.toInt ≤ 400) ∧ (g176.toInt ≤ (I 3).toInt) ∧ (0 ≤ g177.toInt ∧ g177.toInt ≤ 4000) ∧ (0 ≤ g179.toInt ∧ g179.toInt ≤ 60) ∧ ((I 20).toInt ≤ g179.toInt) ∧ ((I 16).toInt ≤ g176.toInt) ∧ ((f181 (I 19).toNatClampNeg).toInt + (I 16).toInt ≤ (F 6 (I 19).toNatClampNeg).toInt + g176.toInt) ∧ PSg (F 4) (F 8) (F 7) f180 f181 gs (I 19).toNatClampNeg gb (gd + 1) (g179.toInt).toNat) (fun xx => match xx with | (g176, g177, g178, g179, f180, f181) => (400 - g176.toInt).toNat) (u4, u5, u6, u7, f8, f9) ⟨hP, hD, hS, lv_sub hl [0] rfl, by omega, by omega, by omega, by omega, by omega, by omega, by omega, (PG_to t22 rfl (by omega) (by omega) (by omega))⟩ (fun xx H locs ls hI ih => ?_)
    obtain ⟨g176, g177, g178, g179, f180, f181⟩ := xx
    obtain ⟨hP, hD, hS, hl, hq334, hq335, hq336, hq337, hq338, hq339, hq340, hr341⟩ := hI
    have ih342 := ih
    refine lv_aload_n hx hb dX11_term_9 rfl (lv_at hl 0 rfl) ?_
    have t343 := PG_len hr341
    have t344 := PG_dep hr341
    refine cga (rn_V (As := []) (rest := []) (b := o) (m_see l D Y Z H.size o a (upd (upd (upd (upd I 16 g176) 17 g177) 18 g178) 20 g179) J (vf_upd (vf_upd F 5 f180) 6 f181) G   (show (0 ≤ g176.toInt ∧ g176.toInt ≤ 400) by omega) (show (0 ≤ (I 3).toInt ∧ (I 3).toInt ≤ 400) by omega) (show (g176.toInt ≤ (I 3).toInt) by omega)) ⟨hx, hb, hml, hown, hg⟩ lk_X11_183 ⟨CP.blind, va_recv hKN.1 hP (ci := 11) (q0 := 0) rfl rfl, CP.at hP hKN hD⟩ ⟨⟨rfl, rfl⟩, ⟨Nat.le_of_ble_eq_true rfl, Nat.le_of_ble_eq_true rfl⟩, ⟨Nat.le_of_ble_eq_true rfl, Nat.le_of_ble_eq_true rfl⟩⟩ hl.1 rfl (Nat.le_of_ble_eq_true rfl) dX11_term_10) hP hD hS hA (fun u345 H locs w346 hP hD hS => ?_)
    obtain ⟨u347, u348⟩ := u345
    obtain ⟨hw349, hw350, hw351, hw352, hw353⟩ : (0 ≤ u348.toInt ∧ u348.toInt ≤ 400) ∧ (g176.toInt ≤ u348.toInt) ∧ (u348.toInt ≤ (I 3).toInt) ∧ ((u347.toInt = -1 ∧ u348.toInt = (I 3).toInt) ∨ (0 ≤ u347.toInt ∧ u347.toInt ≤ 255 ∧ u348.toInt < (I 3).toInt ∧ ((F 2) u348.toNatClampNeg).toInt ≠ 32)) ∧ (-1 ≤ u347.toInt ∧ u347.toInt ≤ 255) := w346
    refine W.eq (g2 := F0 m 13 ls [.int u347]) rfl ?_
    have hP : va_P D vwCl (MW Y o a (upd (upd (upd (upd I 16 u348) 17 g177) 18 g178) 20 g179) J (vf_upd (vf_upd F 5 f180) 6 f181) G) H := hP
    have hD : va_D A (MW Y o a (upd (upd (upd (upd I 16 u348) 17 g177) 18 g178) 20 g179) J (vf_upd (vf_upd F 5 f180) 6 f181) G) := hD
    refine lv_bipush (v := 42) hx hb dX11_term_13 (by decide) ?_
    refine lv_icmp_eq (tgt := 27) hx hb dX11_term_15 (by decide) (fun c354 => ?_) (fun c354 => ?_)
    · skip
      have c354 := i_eq (Eq.refl u347.toInt) (show (42 : Int32).toInt = 42 by decide) c354
      refine lv_aload_n hx hb dX11_term_27 rfl (lv_at hl 0 rfl) ?_
      refine va_get (D := D) (ci := 11) (v := .ref (a 2)) (C := RX11) (T := TX11) (N := 49) hx hb hg inGX11 hown hKN.1 hP 0 rfl rfl 2 (by decide) (hg _ kw_1210) (fun _ h9 => h9) rfl dX11_term_28 ?_
      refine lv_aload_n hx hb dX11_term_31 rfl (lv_at hl 0 rfl) ?_
      refine va_get (D := D) (ci := 11) (v := .int u348) (C := RX11) (T := TX11) (N := 49) hx hb hg inGX11 hown hKN.1 hP 0 rfl rfl 16 (by decide) (hg _ kw_1224) (fun _ h9 => h9) rfl dX11_term_32 ?_
      refine va_bald hx hb hKN.1 hP 3 2 rfl rfl (vp_in_iff.mpr ⟨by omega, by omega⟩) dX11_term_35 ?_
      refine lv_topi (fun v355 ev355 => ?_)
      have ev355 : v355 = (F 2) u348.toNatClampNeg := ev355
      have qv355 := congrArg Int32.toInt ev355
      refine lv_bipush (v := 42) hx hb dX11_term_36 (by decide) ?_
      have j356 := rgI v355
      refine lv_icmp_ne (tgt := 45) hx hb dX11_term_38 (by decide) (fun c357 => ?_) (fun c357 => ?_)
      · skip
        have c357 := i_ne (Eq.refl v355.toInt) (show (42 : Int32).toInt = 42 by decide) c357
        refine lv_iconst (v := 5) hx hb dX11_term_45 (by decide) ?_
        refine lv_istore_n (lv' := [(1, .int 5), (0, .ref o)]) hx hb dX11_term_46 rfl hl (by decide) rfl (fun ls hl => ?_)
        refine lv_aload_n hx hb dX11_term_47 rfl (lv_at hl 1 rfl) ?_
        refine lv_dup hx hb dX11_term_48 rfl ?_
        refine va_get (D := D) (ci := 11) (v := .int u348) (C := RX11) (T := TX11) (N := 49) hx hb hg inGX11 hown hKN.1 hP 0 rfl rfl 16 (by decide) (hg _ kw_1224) (fun _ h9 => h9) rfl dX11_term_49 ?_
        refine lv_iconst (v := 1) hx hb dX11_term_52 (by decide) ?_
        refine lv_iadd hx hb dX11_term_53 ?_
        refine lv_topi (fun v358 ev358 => ?_)
        have hv358 := i_add (Eq.refl u348.toInt) (show (1 : Int32).toInt = 1 by decide) ev358 (by omega) (by omega)
        refine va_put (D := D) (ci := 11) (v := .int v358) (ty := .int) (C := RX11) (T := TX11) (N := 49) hx hb hg inGX11 tyX11 tyX11_ok nmX11 hown hKN.1 hP hD hS 0 rfl rfl 16 (by decide) (hg _ kw_1224) (fun _ h9 => h9) rfl (by decide +kernel) rfl rfl (Nat.le_of_ble_eq_true rfl) dX11_term_54 (fun H locs hP hD hS => ?_)
        have hP : va_P D vwCl (MW Y o a (upd (upd (upd (upd I 16 v358) 17 g177) 18 g178) 20 g179) J (vf_upd (vf_upd F 5 f180) 6 f181) G) H := hP
        have hD : va_D A (MW Y o a (upd (upd (upd (upd I 16 v358) 17 g177) 18 g178) 20 g179) J (vf_upd (vf_upd F 5 f180) 6 f181) G) := hD
        refine lv_aload_n hx hb dX11_term_57 rfl (lv_at hl 1 rfl) ?_
        refine cga (rn_V (As := []) (rest := []) (b := o) (m_value l D Y Z H.size o a (upd (upd (upd (upd I 16 v358) 17 g177) 18 g178) 20 g179) J (vf_upd (vf_upd F 5 f180) 6 f181) G gs gb (gd + 1)  (show (0 ≤ v358.toInt ∧ v358.toInt ≤ 400) by omega) (show (0 ≤ (I 3).toInt ∧ (I 3).toInt ≤ 400) by omega) (show (v358.toInt ≤ (I 3).toInt) by omega) (show (0 ≤ g177.toInt ∧ g177.toInt ≤ 4000) by omega) (show (0 ≤ g179.toInt ∧ g179.toInt ≤ 60) by omega) (show (0 ≤ (I 19).toInt ∧ (I 19).toInt ≤ 17) by omega) (show ((f181 (I 19).toNatClampNeg).toInt ≤ v358.toInt) by omega) (show PSg (F 4) (F 8) (F 7) f180 f181 gs (I 19).toNatClampNeg gb ((gd + 1)) (g179.toInt).toNat from (PG_to hr341 rfl (by omega) (by omega) (by omega)))) ⟨hx, hb, hml, hown, hg⟩ lk_X11_264 ⟨CP.blind, va_recv hKN.1 hP (ci := 11) (q0 := 0) rfl rfl, CP.at hP hKN hD⟩ ⟨⟨rfl, rfl⟩, ⟨Nat.le_of_ble_eq_true rfl, Nat.le_of_ble_eq_true rfl⟩, ⟨Nat.le_of_ble_eq_true rfl, Nat.le_of_ble_eq_true rfl⟩⟩ hl.1 rfl (Nat.le_of_ble_eq_true rfl) dX11_term_58) hP hD hS hA (fun u359 H locs w360 hP hD hS => ?_)
        obtain ⟨u361, u362, u363, u364, u365, f366, f367⟩ := u359
        obtain ⟨hw368, hw369, hw370, hw371, hw372, hw373, hw374, hw375, hw376, hw377, hw378⟩ : (0 ≤ u362.toInt ∧ u362.toInt ≤ 400) ∧ (v358.toInt ≤ u362.toInt) ∧ (u362.toInt ≤ (I 3).toInt) ∧ (0 ≤ u363.toInt ∧ u363.toInt ≤ 4000) ∧ (0 ≤ u365.toInt ∧ u365.toInt ≤ 60) ∧ (g179.toInt ≤ u365.toInt) ∧ (0 ≤ u361.toInt ∧ u361.toInt ≤ 1) ∧ (u361.toInt = 0 → 1 ≤ u363.toInt) ∧ (u361.toInt = 1 → (f367 (I 19).toNatClampNeg).toInt = (f181 (I 19).toNatClampNeg).toInt + 1 ∧ v358.toInt + 1 ≤ u362.toInt) ∧ (u361.toInt = 1 → PSg (F 4) (F 8) (F 7) f366 f367 gs (I 19).toNatClampNeg gb ((gd + 1) + 1) (u365.toInt).toNat) ∧ TC (F 4) (F 8) (F 7) f366 := w360
        refine W.eq (g2 := F0 m 61 ls [.int u361]) rfl ?_
        have hP : va_P D vwCl (MW Y o a (upd (upd (upd (upd I 16 u362) 17 u363) 18 u364) 20 u365) J (vf_upd (vf_upd F 5 f366) 6 f367) G) H := hP
        have hD : va_D A (MW Y o a (upd (upd (upd (upd I 16 u362) 17 u363) 18 u364) 20 u365) J (vf_upd (vf_upd F 5 f366) 6 f367) G) := hD
        rcases (show u361.toInt = 1 ∨ u361.toInt = 0 by omega) with c379 | c379
        · obtain rfl : u361 = 1 := i_is c379 (by decide)
          clear hw375
          replace hw376 := hw376 (by decide)
          have t380 := hw377 (by decide)
          have t380l := PG_len t380
          have t380d := PG_dep t380
          refine W.eq (g2 := F0 m 61 ls [.int 1]) rfl ?_
          refine lv_if_ne (tgt := 66) hx hb dX11_term_61 (by decide) (fun c381 => ?_) (fun c381 => ?_)
          rotate_left
          · exact absurd c381 (by decide)
          refine lv_aload_n hx hb dX11_term_66 rfl (lv_at hl 1 rfl) ?_
          refine lv_iload_n hx hb dX11_term_67 rfl (lv_at hl 0 rfl) ?_
          refine lv_iconst (v := 0) hx hb dX11_term_68 (by decide) ?_
          have zi5 : (5 : Int32).toInt = 5 := by decide
          have zi0 : (0 : Int32).toInt = 0 := by decide
          refine cga (rn_V (As := [.int 5, .int 0]) (rest := []) (b := o) (m_puts l D Y Z H.size o a (upd (upd (upd (upd I 16 u362) 17 u363) 18 u364) 20 u365) J (vf_upd (vf_upd F 5 f366) 6 f367) G  5 0 (show (0 ≤ (I 19).toInt ∧ (I 19).toInt ≤ 17) by omega) (show (0 ≤ (5 : Int32).toInt ∧ (5 : Int32).toInt ≤ 15) by omega) (show (0 ≤ (0 : Int32).toInt ∧ (0 : Int32).toInt ≤ 99999) by omega) (show (0 ≤ (f367 (I 19).toNatClampNeg).toInt ∧ (f367 (I 19).toNatClampNeg).toInt ≤ 399) by omega)) ⟨hx, hb, hml, hown, hg⟩ lk_X11_250 ⟨CP.blind, va_recv hKN.1 hP (ci := 11) (q0 := 0) rfl rfl, CP.at hP hKN hD⟩ ⟨⟨rfl, rfl⟩, ⟨Nat.le_of_ble_eq_true rfl, Nat.le_of_ble_eq_true rfl⟩, ⟨Nat.le_of_ble_eq_true rfl, Nat.le_of_ble_eq_true rfl⟩⟩ hl.1 rfl (Nat.le_of_ble_eq_true rfl) dX11_term_69) hP hD hS hA (fun u382 H locs w383 hP hD hS => ?_)
          obtain ⟨f384, f385⟩ := u382
          have hw386 : PU f366 f384 f367 f385 (I 19).toNatClampNeg (5 : Int32).toInt (0 : Int32).toInt := w383
          clear w383
          refine W.eq (g2 := F0 m 72 ls []) rfl ?_
          have hP : va_P D vwCl (MW Y o a (upd (upd (upd (upd I 16 u362) 17 u363) 18 u364) 20 u365) J (vf_upd (vf_upd F 5 f384) 6 f385) G) H := hP
          have hD : va_D A (MW Y o a (upd (upd (upd (upd I 16 u362) 17 u363) 18 u364) 20 u365) J (vf_upd (vf_upd F 5 f384) 6 f385) G) := hD
          have t387 := PG_pu (e := (((gd + 1) + 1) - 1)) (PG_to (md2 := u365.toInt.toNat) t380 rfl rfl (by omega) (by omega)) hw386 (fun x hx => stp_bin hx (by omega) (by omega) (by omega) (by omega) (by omega) (by omega) rfl) (by omega) (by omega)
          obtain ⟨t387p, t387l⟩ := t387
          refine lv_goto (tgt := 9) hx hb dX11_term_72 (by decide) ?_
          exact ih342 (u362, u363, u364, u365, f384, f385) H locs ls (by show (400 - u362.toInt).toNat < (400 - g176.toInt).toNat; omega) ⟨hP, hD, hS, lv_sub hl [1] rfl, by omega, by omega, by omega, by omega, by omega, by omega, by omega, (PG_to t387p rfl (by omega) (by omega) (by omega))⟩
        · obtain rfl : u361 = 0 := i_is c379 (by decide)
          have zi0 : (0 : Int32).toInt = 0 := by decide
          replace hw375 := hw375 (by decide)
          clear hw376
          refine W.eq (g2 := F0 m 61 ls [.int 0]) rfl ?_
          refine lv_if_ne (tgt := 66) hx hb dX11_term_61 (by decide) (fun c388 => ?_) (fun c388 => ?_)
          · exact absurd c388 (by decide)
          refine lv_iconst (v := 0) hx hb dX11_term_64 (by decide) ?_
          refine W.widen (k := 0) (n := 0) (Nat.le_of_ble_eq_true rfl) (Nat.le_of_ble_eq_true rfl) ?_
          exact W.zret (v := 0) hx hb hr (by decide) (fun t ht hW => ⟨⟨(0, u362, u363, u364, u365, f366, f367), rfl, ⟨(show (0 ≤ u362.toInt ∧ u362.toInt ≤ 400) by omega), (show ((I 16).toInt ≤ u362.toInt) by omega), (show (u362.toInt ≤ (I 3).toInt) by omega), (show (0 ≤ u363.toInt ∧ u363.toInt ≤ 4000) by omega), (show (0 ≤ u365.toInt ∧ u365.toInt ≤ 60) by omega), (show ((I 20).toInt ≤ u365.toInt) by omega), (show (0 ≤ (0 : Int32).toInt ∧ (0 : Int32).toInt ≤ 1) by omega), (show ((0 : Int32).toInt = 0 → 1 ≤ u363.toInt) by omega), (show ((0 : Int32).toInt = 1 → (f367 (I 19).toNatClampNeg).toInt + (I 16).toInt ≤ ((F 6) (I 19).toNatClampNeg).toInt + u362.toInt) by omega), (show ((0 : Int32).toInt = 1 → PSg (F 4) (F 8) (F 7) f366 f367 gs (I 19).toNatClampNeg gb (gd + 1) (u365.toInt).toNat) from (fun h => absurd h (by decide))), (show TC (F 4) (F 8) (F 7) f366 from hw378)⟩, CB.mk ht hP hD⟩, hS.F ht⟩) hS.2.2 dX11_term_65
      · skip
        have c357 := i_eq (Eq.refl v355.toInt) (show (42 : Int32).toInt = 42 by decide) c357
        refine lv_iconst (v := 4) hx hb dX11_term_41 (by decide) ?_
        refine lv_goto (tgt := 46) hx hb dX11_term_42 (by decide) ?_
        refine lv_istore_n (lv' := [(1, .int 4), (0, .ref o)]) hx hb dX11_term_46 rfl hl (by decide) rfl (fun ls hl => ?_)
        refine lv_aload_n hx hb dX11_term_47 rfl (lv_at hl 1 rfl) ?_
        refine lv_dup hx hb dX11_term_48 rfl ?_
        refine va_get (D := D) (ci := 11) (v := .int u348) (C := RX11) (T := TX11) (N := 49) hx hb hg inGX11 hown hKN.1 hP 0 rfl rfl 16 (by decide) (hg _ kw_1224) (fun _ h9 => h9) rfl dX11_term_49 ?_
        refine lv_iconst (v := 1) hx hb dX11_term_52 (by decide) ?_
        refine lv_iadd hx hb dX11_term_53 ?_
        refine lv_topi (fun v389 ev389 => ?_)
        have hv389 := i_add (Eq.refl u348.toInt) (show (1 : Int32).toInt = 1 by decide) ev389 (by omega) (by omega)
        refine va_put (D := D) (ci := 11) (v := .int v389) (ty := .int) (C := RX11) (T := TX11) (N := 49) hx hb hg inGX11 tyX11 tyX11_ok nmX11 hown hKN.1 hP hD hS 0 rfl rfl 16 (by decide) (hg _ kw_1224) (fun _ h9 => h9) rfl (by decide +kernel) rfl rfl (Nat.le_of_ble_eq_true rfl) dX11_term_54 (fun H locs hP hD hS => ?_)
        have hP : va_P D vwCl (MW Y o a (upd (upd (upd (upd I 16 v389) 17 g177) 18 g178) 20 g179) J (vf_upd (vf_upd F 5 f180) 6 f181) G) H := hP
        have hD : va_D A (MW Y o a (upd (upd (upd (upd I 16 v389) 17 g177) 18 g178) 20 g179) J (vf_upd (vf_upd F 5 f180) 6 f181) G) := hD
        refine lv_aload_n hx hb dX11_term_57 rfl (lv_at hl 1 rfl) ?_
        refine cga (rn_V (As := []) (rest := []) (b := o) (m_value l D Y Z H.size o a (upd (upd (upd (upd I 16 v389) 17 g177) 18 g178) 20 g179) J (vf_upd (vf_upd F 5 f180) 6 f181) G gs gb (gd + 1)  (show (0 ≤ v389.toInt ∧ v389.toInt ≤ 400) by omega) (show (0 ≤ (I 3).toInt ∧ (I 3).toInt ≤ 400) by omega) (show (v389.toInt ≤ (I 3).toInt) by omega) (show (0 ≤ g177.toInt ∧ g177.toInt ≤ 4000) by omega) (show (0 ≤ g179.toInt ∧ g179.toInt ≤ 60) by omega) (show (0 ≤ (I 19).toInt ∧ (I 19).toInt ≤ 17) by omega) (show ((f181 (I 19).toNatClampNeg).toInt ≤ v389.toInt) by omega) (show PSg (F 4) (F 8) (F 7) f180 f181 gs (I 19).toNatClampNeg gb ((gd + 1)) (g179.toInt).toNat from (PG_to hr341 rfl (by omega) (by omega) (by omega)))) ⟨hx, hb, hml, hown, hg⟩ lk_X11_264 ⟨CP.blind, va_recv hKN.1 hP (ci := 11) (q0 := 0) rfl rfl, CP.at hP hKN hD⟩ ⟨⟨rfl, rfl⟩, ⟨Nat.le_of_ble_eq_true rfl, Nat.le_of_ble_eq_true rfl⟩, ⟨Nat.le_of_ble_eq_true rfl, Nat.le_of_ble_eq_true rfl⟩⟩ hl.1 rfl (Nat.le_of_ble_eq_true rfl) dX11_term_58) hP hD hS hA (fun u390 H locs w391 hP hD hS => ?_)
        obtain ⟨u392, u393, u394, u395, u396, f397, f398⟩ := u390
        obtain ⟨hw399, hw400, hw401, hw402, hw403, hw404, hw405, hw406, hw407, hw408, hw409⟩ : (0 ≤ u393.toInt ∧ u393.toInt ≤ 400) ∧ (v389.toInt ≤ u393.toInt) ∧ (u393.toInt ≤ (I 3).toInt) ∧ (0 ≤ u394.toInt ∧ u394.toInt ≤ 4000) ∧ (0 ≤ u396.toInt ∧ u396.toInt ≤ 60) ∧ (g179.toInt ≤ u396.toInt) ∧ (0 ≤ u392.toInt ∧ u392.toInt ≤ 1) ∧ (u392.toInt = 0 → 1 ≤ u394.toInt) ∧ (u392.toInt = 1 → (f398 (I 19).toNatClampNeg).toInt = (f181 (I 19).toNatClampNeg).toInt + 1 ∧ v389.toInt + 1 ≤ u393.toInt) ∧ (u392.toInt = 1 → PSg (F 4) (F 8) (F 7) f397 f398 gs (I 19).toNatClampNeg gb ((gd + 1) + 1) (u396.toInt).toNat) ∧ TC (F 4) (F 8) (F 7) f397 := w391
        refine W.eq (g2 := F0 m 61 ls [.int u392]) rfl ?_
        have hP : va_P D vwCl (MW Y o a (upd (upd (upd (upd I 16 u393) 17 u394) 18 u395) 20 u396) J (vf_upd (vf_upd F 5 f397) 6 f398) G) H := hP
        have hD : va_D A (MW Y o a (upd (upd (upd (upd I 16 u393) 17 u394) 18 u395) 20 u396) J (vf_upd (vf_upd F 5 f397) 6 f398) G) := hD
        rcases (show u392.toInt = 1 ∨ u392.toInt = 0 by omega) with c410 | c410
        · obtain rfl : u392 = 1 := i_is c410 (by decide)
          clear hw406
          replace hw407 := hw407 (by decide)
          have t411 := hw408 (by decide)
          have t411l := PG_len t411
          have t411d := PG_dep t411
          refine W.eq (g2 := F0 m 61 ls [.int 1]) rfl ?_
          refine lv_if_ne (tgt := 66) hx hb dX11_term_61 (by decide) (fun c412 => ?_) (fun c412 => ?_)
          rotate_left
          · exact absurd c412 (by decide)
          refine lv_aload_n hx hb dX11_term_66 rfl (lv_at hl 1 rfl) ?_
          refine lv_iload_n hx hb dX11_term_67 rfl (lv_at hl 0 rfl) ?_
          refine lv_iconst (v := 0) hx hb dX11_term_68 (by decide) ?_
          have zi4 : (4 : Int32).toInt = 4 := by decide
          have zi0 : (0 : Int32).toInt = 0 := by decide
          refine cga (rn_V (As := [.int 4, .int 0]) (rest := []) (b := o) (m_puts l D Y Z H.size o a (upd (upd (upd (upd I 16 u393) 17 u394) 18 u395) 20 u396) J (vf_upd (vf_upd F 5 f397) 6 f398) G  4 0 (show (0 ≤ (I 19).toInt ∧ (I 19).toInt ≤ 17) by omega) (show (0 ≤ (4 : Int32).toInt ∧ (4 : Int32).toInt ≤ 15) by omega) (show (0 ≤ (0 : Int32).toInt ∧ (0 : Int32).toInt ≤ 99999) by omega) (show (0 ≤ (f398 (I 19).toNatClampNeg).toInt ∧ (f398 (I 19).toNatClampNeg).toInt ≤ 399) by omega)) ⟨hx, hb, hml, hown, hg⟩ lk_X11_250 ⟨CP.blind, va_recv hKN.1 hP (ci := 11) (q0 := 0) rfl rfl, CP.at hP hKN hD⟩ ⟨⟨rfl, rfl⟩, ⟨Nat.le_of_ble_eq_true rfl, Nat.le_of_ble_eq_true rfl⟩, ⟨Nat.le_of_ble_eq_true rfl, Nat.le_of_ble_eq_true rfl⟩⟩ hl.1 rfl (Nat.le_of_ble_eq_true rfl) dX11_term_69) hP hD hS hA (fun u413 H locs w414 hP hD hS => ?_)
          obtain ⟨f415, f416⟩ := u413
          have hw417 : PU f397 f415 f398 f416 (I 19).toNatClampNeg (4 : Int32).toInt (0 : Int32).toInt := w414
          clear w414
          refine W.eq (g2 := F0 m 72 ls []) rfl ?_
          have hP : va_P D vwCl (MW Y o a (upd (upd (upd (upd I 16 u393) 17 u394) 18 u395) 20 u396) J (vf_upd (vf_upd F 5 f415) 6 f416) G) H := hP
          have hD : va_D A (MW Y o a (upd (upd (upd (upd I 16 u393) 17 u394) 18 u395) 20 u396) J (vf_upd (vf_upd F 5 f415) 6 f416) G) := hD
          have t418 := PG_pu (e := (((gd + 1) + 1) - 1)) (PG_to (md2 := u396.toInt.toNat) t411 rfl rfl (by omega) (by omega)) hw417 (fun x hx => stp_bin hx (by omega) (by omega) (by omega) (by omega) (by omega) (by omega) rfl) (by omega) (by omega)
          obtain ⟨t418p, t418l⟩ := t418
          refine lv_goto (tgt := 9) hx hb dX11_term_72 (by decide) ?_
          exact ih342 (u393, u394, u395, u396, f415, f416) H locs ls (by show (400 - u393.toInt).toNat < (400 - g176.toInt).toNat; omega) ⟨hP, hD, hS, lv_sub hl [1] rfl, by omega, by omega, by omega, by omega, by omega, by omega, by omega, (PG_to t418p rfl (by omega) (by omega) (by omega))⟩
        · obtain rfl : u392 = 0 := i_is c410 (by decide)
          have zi0 : (0 : Int32).toInt = 0 := by decide
          replace hw406 := hw406 (by decide)
          clear hw407
          refine W.eq (g2 := F0 m 61 ls [.int 0]) rfl ?_
          refine lv_if_ne (tgt := 66) hx hb dX11_term_61 (by decide) (fun c419 => ?_) (fun c419 => ?_)
          · exact absurd c419 (by decide)
          refine lv_iconst (v := 0) hx hb dX11_term_64 (by decide) ?_
          refine W.widen (k := 0) (n := 0) (Nat.le_of_ble_eq_true rfl) (Nat.le_of_ble_eq_true rfl) ?_
          exact W.zret (v := 0) hx hb hr (by decide) (fun t ht hW => ⟨⟨(0, u393, u394, u395, u396, f397, f398), rfl, ⟨(show (0 ≤ u393.toInt ∧ u393.toInt ≤ 400) by omega), (show ((I 16).toInt ≤ u393.toInt) by omega), (show (u393.toInt ≤ (I 3).toInt) by omega), (show (0 ≤ u394.toInt ∧ u394.toInt ≤ 4000) by omega), (show (0 ≤ u396.toInt ∧ u396.toInt ≤ 60) by omega), (show ((I 20).toInt ≤ u396.toInt) by omega), (show (0 ≤ (0 : Int32).toInt ∧ (0 : Int32).toInt ≤ 1) by omega), (show ((0 : Int32).toInt = 0 → 1 ≤ u394.toInt) by omega), (show ((0 : Int32).toInt = 1 → (f398 (I 19).toNatClampNeg).toInt + (I 16).toInt ≤ ((F 6) (I 19).toNatClampNeg).toInt + u393.toInt) by omega), (show ((0 : Int32).toInt = 1 → PSg (F 4) (F 8) (F 7) f397 f398 gs (I 19).toNatClampNeg gb (gd + 1) (u396.toInt).toNat) from (fun h => absurd h (by decide))), (show TC (F 4) (F 8) (F 7) f397 from hw409)⟩, CB.mk ht hP hD⟩, hS.F ht⟩) hS.2.2 dX11_term_65
    · skip
      have c354 := i_ne (Eq.refl u347.toInt) (show (42 : Int32).toInt = 42 by decide) c354
      refine lv_aload_n hx hb dX11_term_18 rfl (lv_at hl 0 rfl) ?_
      refine cga (rn_V (As := []) (rest := []) (b := o) (m_see l D Y Z H.size o a (upd (upd (upd (upd I 16 u348) 17 g177) 18 g178) 20 g179) J (vf_upd (vf_upd F 5 f180) 6 f181) G   (show (0 ≤ u348.toInt ∧ u348.toInt ≤ 400) by omega) (show (0 ≤ (I 3).toInt ∧ (I 3).toInt ≤ 400) by omega) (show (u348.toInt ≤ (I 3).toInt) by omega)) ⟨hx, hb, hml, hown, hg⟩ lk_X11_183 ⟨CP.blind, va_recv hKN.1 hP (ci := 11) (q0 := 0) rfl rfl, CP.at hP hKN hD⟩ ⟨⟨rfl, rfl⟩, ⟨Nat.le_of_ble_eq_true rfl, Nat.le_of_ble_eq_true rfl⟩, ⟨Nat.le_of_ble_eq_true rfl, Nat.le_of_ble_eq_true rfl⟩⟩ hl.1 rfl (Nat.le_of_ble_eq_true rfl) dX11_term_19) hP hD hS hA (fun u420 H locs w421 hP hD hS => ?_)
      obtain ⟨u422, u423⟩ := u420
      obtain ⟨hw424, hw425, hw426, hw427, hw428⟩ : (0 ≤ u423.toInt ∧ u423.toInt ≤ 400) ∧ (u348.toInt ≤ u423.toInt) ∧ (u423.toInt ≤ (I 3).toInt) ∧ ((u422.toInt = -1 ∧ u423.toInt = (I 3).toInt) ∨ (0 ≤ u422.toInt ∧ u422.toInt ≤ 255 ∧ u423.toInt < (I 3).toInt ∧ ((F 2) u423.toNatClampNeg).toInt ≠ 32)) ∧ (-1 ≤ u422.toInt ∧ u422.toInt ≤ 255) := w421
      refine W.eq (g2 := F0 m 22 ls [.int u422]) rfl ?_
      have hP : va_P D vwCl (MW Y o a (upd (upd (upd (upd I 16 u423) 17 g177) 18 g178) 20 g179) J (vf_upd (vf_upd F 5 f180) 6 f181) G) H := hP
      have hD : va_D A (MW Y o a (upd (upd (upd (upd I 16 u423) 17 g177) 18 g178) 20 g179) J (vf_upd (vf_upd F 5 f180) 6 f181) G) := hD
      refine lv_bipush (v := 47) hx hb dX11_term_22 (by decide) ?_
      refine lv_icmp_ne (tgt := 75) hx hb dX11_term_24 (by decide) (fun c429 => ?_) (fun c429 => ?_)
      · skip
        have c429 := i_ne (Eq.refl u422.toInt) (show (47 : Int32).toInt = 47 by decide) c429
        refine lv_iconst (v := 1) hx hb dX11_term_75 (by decide) ?_
        refine W.widen (k := 0) (n := 0) (Nat.le_of_ble_eq_true rfl) (Nat.le_of_ble_eq_true rfl) ?_
        exact W.zret (v := 1) hx hb hr (by decide) (fun t ht hW => ⟨⟨(1, u423, g177, g178, g179, f180, f181), rfl, ⟨(show (0 ≤ u423.toInt ∧ u423.toInt ≤ 400) by omega), (show ((I 16).toInt ≤ u423.toInt) by omega), (show (u423.toInt ≤ (I 3).toInt) by omega), (show (0 ≤ g177.toInt ∧ g177.toInt ≤ 4000) by omega), (show (0 ≤ g179.toInt ∧ g179.toInt ≤ 60) by omega), (show ((I 20).toInt ≤ g179.toInt) by omega), (show (0 ≤ (1 : Int32).toInt ∧ (1 : Int32).toInt ≤ 1) by omega), (show ((1 : Int32).toInt = 0 → 1 ≤ g177.toInt) by omega), (show ((1 : Int32).toInt = 1 → (f181 (I 19).toNatClampNeg).toInt + (I 16).toInt ≤ ((F 6) (I 19).toNatClampNeg).toInt + u423.toInt) by omega), (show ((1 : Int32).toInt = 1 → PSg (F 4) (F 8) (F 7) f180 f181 gs (I 19).toNatClampNeg gb (gd + 1) (g179.toInt).toNat) from (fun _ => (PG_to hr341 rfl (by omega) (by omega) (by omega)))), (show TC (F 4) (F 8) (F 7) f180 from (PG_tc hr341))⟩, CB.mk ht hP hD⟩, hS.F ht⟩) hS.2.2 dX11_term_76
      · skip
        have c429 := i_eq (Eq.refl u422.toInt) (show (47 : Int32).toInt = 47 by decide) c429
        refine lv_aload_n hx hb dX11_term_27 rfl (lv_at hl 0 rfl) ?_
        refine va_get (D := D) (ci := 11) (v := .ref (a 2)) (C := RX11) (T := TX11) (N := 49) hx hb hg inGX11 hown hKN.1 hP 0 rfl rfl 2 (by decide) (hg _ kw_1210) (fun _ h9 => h9) rfl dX11_term_28 ?_
        refine lv_aload_n hx hb dX11_term_31 rfl (lv_at hl 0 rfl) ?_
        refine va_get (D := D) (ci := 11) (v := .int u423) (C := RX11) (T := TX11) (N := 49) hx hb hg inGX11 hown hKN.1 hP 0 rfl rfl 16 (by decide) (hg _ kw_1224) (fun _ h9 => h9) rfl dX11_term_32 ?_
        refine va_bald hx hb hKN.1 hP 3 2 rfl rfl (vp_in_iff.mpr ⟨by omega, by omega⟩) dX11_term_35 ?_
        refine lv_topi (fun v430 ev430 => ?_)
        have ev430 : v430 = (F 2) u423.toNatClampNeg := ev430
        have qv430 := congrArg Int32.toInt ev430
        refine lv_bipush (v := 42) hx hb dX11_term_36 (by decide) ?_
        have j431 := rgI v430
        refine lv_icmp_ne (tgt := 45) hx hb dX11_term_38 (by decide) (fun c432 => ?_) (fun c432 => ?_)
        · skip
          have c432 := i_ne (Eq.refl v430.toInt) (show (42 : Int32).toInt = 42 by decide) c432
          refine lv_iconst (v := 5) hx hb dX11_term_45 (by decide) ?_
          refine lv_istore_n (lv' := [(1, .int 5), (0, .ref o)]) hx hb dX11_term_46 rfl hl (by decide) rfl (fun ls hl => ?_)
          refine lv_aload_n hx hb dX11_term_47 rfl (lv_at hl 1 rfl) ?_
          refine lv_dup hx hb dX11_term_48 rfl ?_
          refine va_get (D := D) (ci := 11) (v := .int u423) (C := RX11) (T := TX11) (N := 49) hx hb hg inGX11 hown hKN.1 hP 0 rfl rfl 16 (by decide) (hg _ kw_1224) (fun _ h9 => h9) rfl dX11_term_49 ?_
          refine lv_iconst (v := 1) hx hb dX11_term_52 (by decide) ?_
          refine lv_iadd hx hb dX11_term_53 ?_
          refine lv_topi (fun v433 ev433 => ?_)
          have hv433 := i_add (Eq.refl u423.toInt) (show (1 : Int32).toInt = 1 by decide) ev433 (by omega) (by omega)
          refine va_put (D := D) (ci := 11) (v := .int v433) (ty := .int) (C := RX11) (T := TX11) (N := 49) hx hb hg inGX11 tyX11 tyX11_ok nmX11 hown hKN.1 hP hD hS 0 rfl rfl 16 (by decide) (hg _ kw_1224) (fun _ h9 => h9) rfl (by decide +kernel) rfl rfl (Nat.le_of_ble_eq_true rfl) dX11_term_54 (fun H locs hP hD hS => ?_)
          have hP : va_P D vwCl (MW Y o a (upd (upd (upd (upd I 16 v433) 17 g177) 18 g178) 20 g179) J (vf_upd (vf_upd F 5 f180) 6 f181) G) H := hP
          have hD : va_D A (MW Y o a (upd (upd (upd (upd I 16 v433) 17 g177) 18 g178) 20 g179) J (vf_upd (vf_upd F 5 f180) 6 f181) G) := hD
          refine lv_aload_n hx hb dX11_term_57 rfl (lv_at hl 1 rfl) ?_
          refine cga (rn_V (As := []) (rest := []) (b := o) (m_value l D Y Z H.size o a (upd (upd (upd (upd I 16 v433) 17 g177) 18 g178) 20 g179) J (vf_upd (vf_upd F 5 f180) 6 f181) G gs gb (gd + 1)  (show (0 ≤ v433.toInt ∧ v433.toInt ≤ 400) by omega) (show (0 ≤ (I 3).toInt ∧ (I 3).toInt ≤ 400) by omega) (show (v433.toInt ≤ (I 3).toInt) by omega) (show (0 ≤ g177.toInt ∧ g177.toInt ≤ 4000) by omega) (show (0 ≤ g179.toInt ∧ g179.toInt ≤ 60) by omega) (show (0 ≤ (I 19).toInt ∧ (I 19).toInt ≤ 17) by omega) (show ((f181 (I 19).toNatClampNeg).toInt ≤ v433.toInt) by omega) (show PSg (F 4) (F 8) (F 7) f180 f181 gs (I 19).toNatClampNeg gb ((gd + 1)) (g179.toInt).toNat from (PG_to hr341 rfl (by omega) (by omega) (by omega)))) ⟨hx, hb, hml, hown, hg⟩ lk_X11_264 ⟨CP.blind, va_recv hKN.1 hP (ci := 11) (q0 := 0) rfl rfl, CP.at hP hKN hD⟩ ⟨⟨rfl, rfl⟩, ⟨Nat.le_of_ble_eq_true rfl, Nat.le_of_ble_eq_true rfl⟩, ⟨Nat.le_of_ble_eq_true rfl, Nat.le_of_ble_eq_true rfl⟩⟩ hl.1 rfl (Nat.le_of_ble_eq_true rfl) dX11_term_58) hP hD hS hA (fun u434 H locs w435 hP hD hS => ?_)
          obtain ⟨u436, u437, u438, u439, u440, f441, f442⟩ := u434
          obtain ⟨hw443, hw444, hw445, hw446, hw447, hw448, hw449, hw450, hw451, hw452, hw453⟩ : (0 ≤ u437.toInt ∧ u437.toInt ≤ 400) ∧ (v433.toInt ≤ u437.toInt) ∧ (u437.toInt ≤ (I 3).toInt) ∧ (0 ≤ u438.toInt ∧ u438.toInt ≤ 4000) ∧ (0 ≤ u440.toInt ∧ u440.toInt ≤ 60) ∧ (g179.toInt ≤ u440.toInt) ∧ (0 ≤ u436.toInt ∧ u436.toInt ≤ 1) ∧ (u436.toInt = 0 → 1 ≤ u438.toInt) ∧ (u436.toInt = 1 → (f442 (I 19).toNatClampNeg).toInt = (f181 (I 19).toNatClampNeg).toInt + 1 ∧ v433.toInt + 1 ≤ u437.toInt) ∧ (u436.toInt = 1 → PSg (F 4) (F 8) (F 7) f441 f442 gs (I 19).toNatClampNeg gb ((gd + 1) + 1) (u440.toInt).toNat) ∧ TC (F 4) (F 8) (F 7) f441 := w435
          refine W.eq (g2 := F0 m 61 ls [.int u436]) rfl ?_
          have hP : va_P D vwCl (MW Y o a (upd (upd (upd (upd I 16 u437) 17 u438) 18 u439) 20 u440) J (vf_upd (vf_upd F 5 f441) 6 f442) G) H := hP
          have hD : va_D A (MW Y o a (upd (upd (upd (upd I 16 u437) 17 u438) 18 u439) 20 u440) J (vf_upd (vf_upd F 5 f441) 6 f442) G) := hD
          rcases (show u436.toInt = 1 ∨ u436.toInt = 0 by omega) with c454 | c454
          · obtain rfl : u436 = 1 := i_is c454 (by decide)
            clear hw450
            replace hw451 := hw451 (by decide)
            have t455 := hw452 (by decide)
            have t455l := PG_len t455
            have t455d := PG_dep t455
            refine W.eq (g2 := F0 m 61 ls [.int 1]) rfl ?_
            refine lv_if_ne (tgt := 66) hx hb dX11_term_61 (by decide) (fun c456 => ?_) (fun c456 => ?_)
            rotate_left
            · exact absurd c456 (by decide)
            refine lv_aload_n hx hb dX11_term_66 rfl (lv_at hl 1 rfl) ?_
            refine lv_iload_n hx hb dX11_term_67 rfl (lv_at hl 0 rfl) ?_
            refine lv_iconst (v := 0) hx hb dX11_term_68 (by decide) ?_
            have zi5 : (5 : Int32).toInt = 5 := by decide
            have zi0 : (0 : Int32).toInt = 0 := by decide
            refine cga (rn_V (As := [.int 5, .int 0]) (rest := []) (b := o) (m_puts l D Y Z H.size o a (upd (upd (upd (upd I 16 u437) 17 u438) 18 u439) 20 u440) J (vf_upd (vf_upd F 5 f441) 6 f442) G  5 0 (show (0 ≤ (I 19).toInt ∧ (I 19).toInt ≤ 17) by omega) (show (0 ≤ (5 : Int32).toInt ∧ (5 : Int32).toInt ≤ 15) by omega) (show (0 ≤ (0 : Int32).toInt ∧ (0 : Int32).toInt ≤ 99999) by omega) (show (0 ≤ (f442 (I 19).toNatClampNeg).toInt ∧ (f442 (I 19).toNatClampNeg).toInt ≤ 399) by omega)) ⟨hx, hb, hml, hown, hg⟩ lk_X11_250 ⟨CP.blind, va_recv hKN.1 hP (ci := 11) (q0 := 0) rfl rfl, CP.at hP hKN hD⟩ ⟨⟨rfl, rfl⟩, ⟨Nat.le_of_ble_eq_true rfl, Nat.le_of_ble_eq_true rfl⟩, ⟨Nat.le_of_ble_eq_true rfl, Nat.le_of_ble_eq_true rfl⟩⟩ hl.1 rfl (Nat.le_of_ble_eq_true rfl) dX11_term_69) hP hD hS hA (fun u457 H locs w458 hP hD hS => ?_)
            obtain ⟨f459, f460⟩ := u457
            have hw461 : PU f441 f459 f442 f460 (I 19).toNatClampNeg (5 : Int32).toInt (0 : Int32).toInt := w458
            clear w458
            refine W.eq (g2 := F0 m 72 ls []) rfl ?_
            have hP : va_P D vwCl (MW Y o a (upd (upd (upd (upd I 16 u437) 17 u438) 18 u439) 20 u440) J (vf_upd (vf_upd F 5 f459) 6 f460) G) H := hP
            have hD : va_D A (MW Y o a (upd (upd (upd (upd I 16 u437) 17 u438) 18 u439) 20 u440) J (vf_upd (vf_upd F 5 f459) 6 f460) G) := hD
            have t462 := PG_pu (e := (((gd + 1) + 1) - 1)) (PG_to (md2 := u440.toInt.toNat) t455 rfl rfl (by omega) (by omega)) hw461 (fun x hx => stp_bin hx (by omega) (by omega) (by omega) (by omega) (by omega) (by omega) rfl) (by omega) (by omega)
            obtain ⟨t462p, t462l⟩ := t462
            refine lv_goto (tgt := 9) hx hb dX11_term_72 (by decide) ?_
            exact ih342 (u437, u438, u439, u440, f459, f460) H locs ls (by show (400 - u437.toInt).toNat < (400 - g176.toInt).toNat; omega) ⟨hP, hD, hS, lv_sub hl [1] rfl, by omega, by omega, by omega, by omega, by omega, by omega, by omega, (PG_to t462p rfl (by omega) (by omega) (by omega))⟩
          · obtain rfl : u436 = 0 := i_is c454 (by decide)
            have zi0 : (0 : Int32).toInt = 0 := by decide
            replace hw450 := hw450 (by decide)
            clear hw451
            refine W.eq (g2 := F0 m 61 ls [.int 0]) rfl ?_
            refine lv_if_ne (tgt := 66) hx hb dX11_term_61 (by decide) (fun c463 => ?_) (fun c463 => ?_)
            · exact absurd c463 (by decide)
            refine lv_iconst (v := 0) hx hb dX11_term_64 (by decide) ?_
            refine W.widen (k := 0) (n := 0) (Nat.le_of_ble_eq_true rfl) (Nat.le_of_ble_eq_true rfl) ?_
            exact W.zret (v := 0) hx hb hr (by decide) (fun t ht hW => ⟨⟨(0, u437, u438, u439, u440, f441, f442), rfl, ⟨(show (0 ≤ u437.toInt ∧ u437.toInt ≤ 400) by omega), (show ((I 16).toInt ≤ u437.toInt) by omega), (show (u437.toInt ≤ (I 3).toInt) by omega), (show (0 ≤ u438.toInt ∧ u438.toInt ≤ 4000) by omega), (show (0 ≤ u440.toInt ∧ u440.toInt ≤ 60) by omega), (show ((I 20).toInt ≤ u440.toInt) by omega), (show (0 ≤ (0 : Int32).toInt ∧ (0 : Int32).toInt ≤ 1) by omega), (show ((0 : Int32).toInt = 0 → 1 ≤ u438.toInt) by omega), (show ((0 : Int32).toInt = 1 → (f442 (I 19).toNatClampNeg).toInt + (I 16).toInt ≤ ((F 6) (I 19).toNatClampNeg).toInt + u437.toInt) by omega), (show ((0 : Int32).toInt = 1 → PSg (F 4) (F 8) (F 7) f441 f442 gs (I 19).toNatClampNeg gb (gd + 1) (u440.toInt).toNat) from (fun h => absurd h (by decide))), (show TC (F 4) (F 8) (F 7) f441 from hw453)⟩, CB.mk ht hP hD⟩, hS.F ht⟩) hS.2.2 dX11_term_65
        · skip
          have c432 := i_eq (Eq.refl v430.toInt) (show (42 : Int32).toInt = 42 by decide) c432
          refine lv_iconst (v := 4) hx hb dX11_term_41 (by decide) ?_
          refine lv_goto (tgt := 46) hx hb dX11_term_42 (by decide) ?_
          refine lv_istore_n (lv' := [(1, .int 4), (0, .ref o)]) hx hb dX11_term_46 rfl hl (by decide) rfl (fun ls hl => ?_)
          refine lv_aload_n hx hb dX11_term_47 rfl (lv_at hl 1 rfl) ?_
          refine lv_dup hx hb dX11_term_48 rfl ?_
          refine va_get (D := D) (ci := 11) (v := .int u423) (C := RX11) (T := TX11) (N := 49) hx hb hg inGX11 hown hKN.1 hP 0 rfl rfl 16 (by decide) (hg _ kw_1224) (fun _ h9 => h9) rfl dX11_term_49 ?_
          refine lv_iconst (v := 1) hx hb dX11_term_52 (by decide) ?_
          refine lv_iadd hx hb dX11_term_53 ?_
          refine lv_topi (fun v464 ev464 => ?_)
          have hv464 := i_add (Eq.refl u423.toInt) (show (1 : Int32).toInt = 1 by decide) ev464 (by omega) (by omega)
          refine va_put (D := D) (ci := 11) (v := .int v464) (ty := .int) (C := RX11) (T := TX11) (N := 49) hx hb hg inGX11 tyX11 tyX11_ok nmX11 hown hKN.1 hP hD hS 0 rfl rfl 16 (by decide) (hg _ kw_1224) (fun _ h9 => h9) rfl (by decide +kernel) rfl rfl (Nat.le_of_ble_eq_true rfl) dX11_term_54 (fun H locs hP hD hS => ?_)
          have hP : va_P D vwCl (MW Y o a (upd (upd (upd (upd I 16 v464) 17 g177) 18 g178) 20 g179) J (vf_upd (vf_upd F 5 f180) 6 f181) G) H := hP
          have hD : va_D A (MW Y o a (upd (upd (upd (upd I 16 v464) 17 g177) 18 g178) 20 g179) J (vf_upd (vf_upd F 5 f180) 6 f181) G) := hD
          refine lv_aload_n hx hb dX11_term_57 rfl (lv_at hl 1 rfl) ?_
          refine cga (rn_V (As := []) (rest := []) (b := o) (m_value l D Y Z H.size o a (upd (upd (upd (upd I 16 v464) 17 g177) 18 g178) 20 g179) J (vf_upd (vf_upd F 5 f180) 6 f181) G gs gb (gd + 1)  (show (0 ≤ v464.toInt ∧ v464.toInt ≤ 400) by omega) (show (0 ≤ (I 3).toInt ∧ (I 3).toInt ≤ 400) by omega) (show (v464.toInt ≤ (I 3).toInt) by omega) (show (0 ≤ g177.toInt ∧ g177.toInt ≤ 4000) by omega) (show (0 ≤ g179.toInt ∧ g179.toInt ≤ 60) by omega) (show (0 ≤ (I 19).toInt ∧ (I 19).toInt ≤ 17) by omega) (show ((f181 (I 19).toNatClampNeg).toInt ≤ v464.toInt) by omega) (show PSg (F 4) (F 8) (F 7) f180 f181 gs (I 19).toNatClampNeg gb ((gd + 1)) (g179.toInt).toNat from (PG_to hr341 rfl (by omega) (by omega) (by omega)))) ⟨hx, hb, hml, hown, hg⟩ lk_X11_264 ⟨CP.blind, va_recv hKN.1 hP (ci := 11) (q0 := 0) rfl rfl, CP.at hP hKN hD⟩ ⟨⟨rfl, rfl⟩, ⟨Nat.le_of_ble_eq_true rfl, Nat.le_of_ble_eq_true rfl⟩, ⟨Nat.le_of_ble_eq_true rfl, Nat.le_of_ble_eq_true rfl⟩⟩ hl.1 rfl (Nat.le_of_ble_eq_true rfl) dX11_term_58) hP hD hS hA (fun u465 H locs w466 hP hD hS => ?_)
          obtain ⟨u467, u468, u469, u470, u471, f472, f473⟩ := u465
          obtain ⟨hw474, hw475, hw476, hw477, hw478, hw479, hw480, hw481, hw482, hw483, hw484⟩ : (0 ≤ u468.toInt ∧ u468.toInt ≤ 400) ∧ (v464.toInt ≤ u468.toInt) ∧ (u468.toInt ≤ (I 3).toInt) ∧ (0 ≤ u469.toInt ∧ u469.toInt ≤ 4000) ∧ (0 ≤ u471.toInt ∧ u471.toInt ≤ 60) ∧ (g179.toInt ≤ u471.toInt) ∧ (0 ≤ u467.toInt ∧ u467.toInt ≤ 1) ∧ (u467.toInt = 0 → 1 ≤ u469.toInt) ∧ (u467.toInt = 1 → (f473 (I 19).toNatClampNeg).toInt = (f181 (I 19).toNatClampNeg).toInt + 1 ∧ v464.toInt + 1 ≤ u468.toInt) ∧ (u467.toInt = 1 → PSg (F 4) (F 8) (F 7) f472 f473 gs (I 19).toNatClampNeg gb ((gd + 1) + 1) (u471.toInt).toNat) ∧ TC (F 4) (F 8) (F 7) f472 := w466
          refine W.eq (g2 := F0 m 61 ls [.int u467]) rfl ?_
          have hP : va_P D vwCl (MW Y o a (upd (upd (upd (upd I 16 u468) 17 u469) 18 u470) 20 u471) J (vf_upd (vf_upd F 5 f472) 6 f473) G) H := hP
          have hD : va_D A (MW Y o a (upd (upd (upd (upd I 16 u468) 17 u469) 18 u470) 20 u471) J (vf_upd (vf_upd F 5 f472) 6 f473) G) := hD
          rcases (show u467.toInt = 1 ∨ u467.toInt = 0 by omega) with c485 | c485
          · obtain rfl : u467 = 1 := i_is c485 (by decide)
            clear hw481
            replace hw482 := hw482 (by decide)
            have t486 := hw483 (by decide)
            have t486l := PG_len t486
            have t486d := PG_dep t486
            refine W.eq (g2 := F0 m 61 ls [.int 1]) rfl ?_
            refine lv_if_ne (tgt := 66) hx hb dX11_term_61 (by decide) (fun c487 => ?_) (fun c487 => ?_)
            rotate_left
            · exact absurd c487 (by decide)
            refine lv_aload_n hx hb dX11_term_66 rfl (lv_at hl 1 rfl) ?_
            refine lv_iload_n hx hb dX11_term_67 rfl (lv_at hl 0 rfl) ?_
            refine lv_iconst (v := 0) hx hb dX11_term_68 (by decide) ?_
            have zi4 : (4 : Int32).toInt = 4 := by decide
            have zi0 : (0 : Int32).toInt = 0 := by decide
            refine cga (rn_V (As := [.int 4, .int 0]) (rest := []) (b := o) (m_puts l D Y Z H.size o a (upd (upd (upd (upd I 16 u468) 17 u469) 18 u470) 20 u471) J (vf_upd (vf_upd F 5 f472) 6 f473) G  4 0 (show (0 ≤ (I 19).toInt ∧ (I 19).toInt ≤ 17) by omega) (show (0 ≤ (4 : Int32).toInt ∧ (4 : Int32).toInt ≤ 15) by omega) (show (0 ≤ (0 : Int32).toInt ∧ (0 : Int32).toInt ≤ 99999) by omega) (show (0 ≤ (f473 (I 19).toNatClampNeg).toInt ∧ (f473 (I 19).toNatClampNeg).toInt ≤ 399) by omega)) ⟨hx, hb, hml, hown, hg⟩ lk_X11_250 ⟨CP.blind, va_recv hKN.1 hP (ci := 11) (q0 := 0) rfl rfl, CP.at hP hKN hD⟩ ⟨⟨rfl, rfl⟩, ⟨Nat.le_of_ble_eq_true rfl, Nat.le_of_ble_eq_true rfl⟩, ⟨Nat.le_of_ble_eq_true rfl, Nat.le_of_ble_eq_true rfl⟩⟩ hl.1 rfl (Nat.le_of_ble_eq_true rfl) dX11_term_69) hP hD hS hA (fun u488 H locs w489 hP hD hS => ?_)
            obtain ⟨f490, f491⟩ := u488
            have hw492 : PU f472 f490 f473 f491 (I 19).toNatClampNeg (4 : Int32).toInt (0 : Int32).toInt := w489
            clear w489
            refine W.eq (g2 := F0 m 72 ls []) rfl ?_
            have hP : va_P D vwCl (MW Y o a (upd (upd (upd (upd I 16 u468) 17 u469) 18 u470) 20 u471) J (vf_upd (vf_upd F 5 f490) 6 f491) G) H := hP
            have hD : va_D A (MW Y o a (upd (upd (upd (upd I 16 u468) 17 u469) 18 u470) 20 u471) J (vf_upd (vf_upd F 5 f490) 6 f491) G) := hD
            have t493 := PG_pu (e := (((gd + 1) + 1) - 1)) (PG_to (md2 := u471.toInt.toNat) t486 rfl rfl (by omega) (by omega)) hw492 (fun x hx => stp_bin hx (by omega) (by omega) (by omega) (by omega) (by omega) (by omega) rfl) (by omega) (by omega)
            obtain ⟨t493p, t493l⟩ := t493
            refine lv_goto (tgt := 9) hx hb dX11_term_72 (by decide) ?_
            exact ih342 (u468, u469, u470, u471, f490, f491) H locs ls (by show (400 - u468.toInt).toNat < (400 - g176.toInt).toNat; omega) ⟨hP, hD, hS, lv_sub hl [1] rfl, by omega, by omega, by omega, by omega, by omega, by omega, by omega, (PG_to t493p rfl (by omega) (by omega) (by omega))⟩
          · obtain rfl : u467 = 0 := i_is c485 (by decide)
            have zi0 : (0 : Int32).toInt = 0 := by decide
            replace hw481 := hw481 (by decide)
            clear hw482
            refine W.eq (g2 := F0 m 61 ls [.int 0]) rfl ?_
            refine lv_if_ne (tgt := 66) hx hb dX11_term_61 (by decide) (fun c494 => ?_) (fun c494 => ?_)
            · exact absurd c494 (by decide)
            refine lv_iconst (v := 0) hx hb dX11_term_64 (by decide) ?_
            refine W.widen (k := 0) (n := 0) (Nat.le_of_ble_eq_true rfl) (Nat.le_of_ble_eq_true rfl) ?_
            exact W.zret (v := 0) hx hb hr (by decide) (fun t ht hW => ⟨⟨(0, u468, u469, u470, u471, f472, f473), rfl, ⟨(show (0 ≤ u468.toInt ∧ u468.toInt ≤ 400) by omega), (show ((I 16).toInt ≤ u468.toInt) by omega), (show (u468.toInt ≤ (I 3).toInt) by omega), (show (0 ≤ u469.toInt ∧ u469.toInt ≤ 4000) by omega), (show (0 ≤ u471.toInt ∧ u471.toInt ≤ 60) by omega), (show ((I 20).toInt ≤ u471.toInt) by omega), (show (0 ≤ (0 : Int32).toInt ∧ (0 : Int32).toInt ≤ 1) by omega), (show ((0 : Int32).toInt = 0 → 1 ≤ u469.toInt) by omega), (show ((0 : Int32).toInt = 1 → (f473 (I 19).toNatClampNeg).toInt + (I 16).toInt ≤ ((F 6) (I 19).toNatClampNeg).toInt + u468.toInt) by omega), (show ((0 : Int32).toInt = 1 → PSg (F 4) (F 8) (F 7) f472 f473 gs (I 19).toNatClampNeg gb (gd + 1) (u471.toInt).toNat) from (fun h => absurd h (by decide))), (show TC (F 4) (F 8) (F 7) f472 from hw484)⟩, CB.mk ht hP hD⟩, hS.F ht⟩) hS.2.2 dX11_term_65
  · obtain rfl : u3 = 0 := i_is c21 (by decide)
    have zi0 : (0 : Int32).toInt = 0 := by decide
    replace hw17 := hw17 (by decide)
    clear hw18
    refine W.eq (g2 := F0 m 4 ls [.int 0]) rfl ?_
    refine lv_if_ne (tgt := 9) hx hb dX11_term_4 (by decide) (fun c495 => ?_) (fun c495 => ?_)
    · exact absurd c495 (by decide)
    refine lv_iconst (v := 0) hx hb dX11_term_7 (by decide) ?_
    refine W.widen (k := 0) (n := 0) (Nat.le_of_ble_eq_true rfl) (Nat.le_of_ble_eq_true rfl) ?_
    exact W.zret (v := 0) hx hb hr (by decide) (fun t ht hW => ⟨⟨(0, u4, u5, u6, u7, f8, f9), rfl, ⟨(show (0 ≤ u4.toInt ∧ u4.toInt ≤ 400) by omega), (show ((I 16).toInt ≤ u4.toInt) by omega), (show (u4.toInt ≤ (I 3).toInt) by omega), (show (0 ≤ u5.toInt ∧ u5.toInt ≤ 4000) by omega), (show (0 ≤ u7.toInt ∧ u7.toInt ≤ 60) by omega), (show ((I 20).toInt ≤ u7.toInt) by omega), (show (0 ≤ (0 : Int32).toInt ∧ (0 : Int32).toInt ≤ 1) by omega), (show ((0 : Int32).toInt = 0 → 1 ≤ u5.toInt) by omega), (show ((0 : Int32).toInt = 1 → (f9 (I 19).toNatClampNeg).toInt + (I 16).toInt ≤ ((F 6) (I 19).toNatClampNeg).toInt + u4.toInt) by omega), (show ((0 : Int32).toInt = 1 → PSg (F 4) (F 8) (F 7) f8 f9 gs (I 19).toNatClampNeg gb (gd + 1) (u7.toInt).toNat) from (fun h => absurd h (by decide))), (show TC (F 4) (F 8) (F 7) f8 from hw20)⟩, CB.mk ht hP hD⟩, hS.F ht⟩) hS.2.2 dX11_term_8
