set_option maxHeartbeats 4000000 in
set_option maxRecDepth 100000 in
theorem m_heldF (l : Launch) (D : va_G) (Y : Nat → ClassId) (Z : Nat → Nat) (sz : Nat)  (p0 : Int64) : Met l yX11_held (.code yX11_held cX11_held 6 (some .long) :: GW) ({ frames := 0, cells := 0, slots := 0, locals := 0 }) (va_Pc [.long p0, .long (-30000), .long 30000] (CP D Y Z [] sz)) (QG (S := Int64) (fun u => some (.long u)) (fun u => (-30000 ≤ u.toInt ∧ u.toInt ≤ 30000)) (fun u => CB D [] (va_A [] sz)) (va_A [] sz)) 0 0 (va_A [] sz) := by
  refine Met.ofW (cc := cX11_held) (maxL := 6) (ret := (some .long)) (by decide) rfl ?_
  intro p e s m args below meth c s₁ B hml hv
  obtain ⟨rfl, hsz, hP, hKN, hD0⟩ := hv
  have hx := B.exec
  have hb := B.bytes
  have hr := B.returns
  have hts := atoms_spec (ws := .code yX11_held cX11_held 6 (some .long) :: GW) B.pre
  have hg : ∀ w ∈ GW, w.before _ s = true := fun w h => hts w (List.mem_cons_of_mem _ h)
  have hown : s.vm.findClass RX11 = some m.cls := findClass_of_methodNamed B.named
  have hlocks := B.notSynchronized
  subst hsz
  have hD := hD0.self (sz := s.heap.size)
  generalize hAe : va_A [] s.heap.size = A at hD ⊢
  have hA : ∀ q : Nat, s.heap.size ≤ q → A q := fun q h => by rw [← hAe]; exact Or.inr h
  clear hAe hD0 hts B
  have hl := lv_entry ([.long p0, .long (-30000), .long 30000]) (n := 6) (Nat.le_of_ble_eq_true rfl)
  rw [lg_entry_eq]
  generalize (lg_sl ([.long p0, .long (-30000), .long 30000]) ++ List.replicate (6 - (lg_sl ([.long p0, .long (-30000), .long 30000])).length) Slot.unset).toArray = ls at hl ⊢
  have hl : lv_has ls 6 [(0, .long p0), (2, .long (-30000)), (4, .long 30000)] := hl
  refine w_start (A0 := A) hP (fun H locs hP hS => ?_)
  refine lv_lload_n hx hb dX11_held_0 rfl (lv_at hl 0 rfl) ?_
  refine lv_lload_n hx hb dX11_held_1 rfl (lv_at hl 1 rfl) ?_
  refine W.lcmp hx hb dX11_held_2 ?_
  refine lv_if_ge (tgt := 10) hx hb dX11_held_3 (by decide) (fun c3 => ?_) (fun c3 => ?_)
  · skip
    have c3 := l_ge (Eq.refl p0.toInt) (show ((-30000) : Int64).toInt = -30000 by decide) c3
    refine lv_lload_n hx hb dX11_held_10 rfl (lv_at hl 0 rfl) ?_
    refine lv_lload hx hb dX11_held_11 (lv_at hl 2 rfl) ?_
    refine W.lcmp hx hb dX11_held_13 ?_
    refine lv_if_le (tgt := 22) hx hb dX11_held_14 (by decide) (fun c5 => ?_) (fun c5 => ?_)
    · skip
      have c5 := l_le (Eq.refl p0.toInt) (show (30000 : Int64).toInt = 30000 by decide) c5
      refine lv_lload_n hx hb dX11_held_22 rfl (lv_at hl 0 rfl) ?_
      refine W.widen (k := 0) (n := 0) (Nat.le_of_ble_eq_true rfl) (Nat.le_of_ble_eq_true rfl) ?_
      have zlm30000 : ((-30000) : Int64).toInt = -30000 := by decide
      have zl30000 : (30000 : Int64).toInt = 30000 := by decide
      exact W.lret (v := p0) hx hb hr (fun t ht hW => ⟨⟨p0, rfl, ((show (-30000 ≤ p0.toInt ∧ p0.toInt ≤ 30000) by omega)), CB.nil⟩, hS.F ht⟩) hS.2.2 dX11_held_23
    · skip
      have c5 := l_nle (Eq.refl p0.toInt) (show (30000 : Int64).toInt = 30000 by decide) c5
      refine lv_lload hx hb dX11_held_17 (lv_at hl 2 rfl) ?_
      refine lv_goto (tgt := 23) hx hb dX11_held_19 (by decide) ?_
      refine W.widen (k := 0) (n := 0) (Nat.le_of_ble_eq_true rfl) (Nat.le_of_ble_eq_true rfl) ?_
      have zlm30000 : ((-30000) : Int64).toInt = -30000 := by decide
      have zl30000 : (30000 : Int64).toInt = 30000 := by decide
      exact W.lret (v := 30000) hx hb hr (fun t ht hW => ⟨⟨30000, rfl, ((show (-30000 ≤ (30000 : Int64).toInt ∧ (30000 : Int64).toInt ≤ 30000) by omega)), CB.nil⟩, hS.F ht⟩) hS.2.2 dX11_held_23
  · skip
    have c3 := l_nge (Eq.refl p0.toInt) (show ((-30000) : Int64).toInt = -30000 by decide) c3
    refine lv_lload_n hx hb dX11_held_6 rfl (lv_at hl 1 rfl) ?_
    refine lv_goto (tgt := 23) hx hb dX11_held_7 (by decide) ?_
    refine W.widen (k := 0) (n := 0) (Nat.le_of_ble_eq_true rfl) (Nat.le_of_ble_eq_true rfl) ?_
    have zlm30000 : ((-30000) : Int64).toInt = -30000 := by decide
    have zl30000 : (30000 : Int64).toInt = 30000 := by decide
    exact W.lret (v := (-30000)) hx hb hr (fun t ht hW => ⟨⟨(-30000), rfl, ((show (-30000 ≤ ((-30000) : Int64).toInt ∧ ((-30000) : Int64).toInt ≤ 30000) by omega)), CB.nil⟩, hS.F ht⟩) hS.2.2 dX11_held_23
set_option maxHeartbeats 4000000 in
set_option maxRecDepth 100000 in
theorem m_heldW (l : Launch) (D : va_G) (Y : Nat → ClassId) (Z : Nat → Nat) (sz : Nat)  (p0 : Int64) : Met l yX11_held (.code yX11_held cX11_held 6 (some .long) :: GW) ({ frames := 0, cells := 0, slots := 0, locals := 0 }) (va_Pc [.long p0, .long 0, .long 99999] (CP D Y Z [] sz)) (QG (S := Int64) (fun u => some (.long u)) (fun u => (0 ≤ u.toInt ∧ u.toInt ≤ 99999)) (fun u => CB D [] (va_A [] sz)) (va_A [] sz)) 0 0 (va_A [] sz) := by
  refine Met.ofW (cc := cX11_held) (maxL := 6) (ret := (some .long)) (by decide) rfl ?_
  intro p e s m args below meth c s₁ B hml hv
  obtain ⟨rfl, hsz, hP, hKN, hD0⟩ := hv
  have hx := B.exec
  have hb := B.bytes
  have hr := B.returns
  have hts := atoms_spec (ws := .code yX11_held cX11_held 6 (some .long) :: GW) B.pre
  have hg : ∀ w ∈ GW, w.before _ s = true := fun w h => hts w (List.mem_cons_of_mem _ h)
  have hown : s.vm.findClass RX11 = some m.cls := findClass_of_methodNamed B.named
  have hlocks := B.notSynchronized
  subst hsz
  have hD := hD0.self (sz := s.heap.size)
  generalize hAe : va_A [] s.heap.size = A at hD ⊢
  have hA : ∀ q : Nat, s.heap.size ≤ q → A q := fun q h => by rw [← hAe]; exact Or.inr h
  clear hAe hD0 hts B
  have hl := lv_entry ([.long p0, .long 0, .long 99999]) (n := 6) (Nat.le_of_ble_eq_true rfl)
  rw [lg_entry_eq]
  generalize (lg_sl ([.long p0, .long 0, .long 99999]) ++ List.replicate (6 - (lg_sl ([.long p0, .long 0, .long 99999])).length) Slot.unset).toArray = ls at hl ⊢
  have hl : lv_has ls 6 [(0, .long p0), (2, .long 0), (4, .long 99999)] := hl
  refine w_start (A0 := A) hP (fun H locs hP hS => ?_)
  refine lv_lload_n hx hb dX11_held_0 rfl (lv_at hl 0 rfl) ?_
  refine lv_lload_n hx hb dX11_held_1 rfl (lv_at hl 1 rfl) ?_
  refine W.lcmp hx hb dX11_held_2 ?_
  refine lv_if_ge (tgt := 10) hx hb dX11_held_3 (by decide) (fun c3 => ?_) (fun c3 => ?_)
  · skip
    have c3 := l_ge (Eq.refl p0.toInt) (show (0 : Int64).toInt = 0 by decide) c3
    refine lv_lload_n hx hb dX11_held_10 rfl (lv_at hl 0 rfl) ?_
    refine lv_lload hx hb dX11_held_11 (lv_at hl 2 rfl) ?_
    refine W.lcmp hx hb dX11_held_13 ?_
    refine lv_if_le (tgt := 22) hx hb dX11_held_14 (by decide) (fun c5 => ?_) (fun c5 => ?_)
    · skip
      have c5 := l_le (Eq.refl p0.toInt) (show (99999 : Int64).toInt = 99999 by decide) c5
      refine lv_lload_n hx hb dX11_held_22 rfl (lv_at hl 0 rfl) ?_
      refine W.widen (k := 0) (n := 0) (Nat.le_of_ble_eq_true rfl) (Nat.le_of_ble_eq_true rfl) ?_
      have zl0 : (0 : Int64).toInt = 0 := by decide
      have zl99999 : (99999 : Int64).toInt = 99999 := by decide
      exact W.lret (v := p0) hx hb hr (fun t ht hW => ⟨⟨p0, rfl, ((show (0 ≤ p0.toInt ∧ p0.toInt ≤ 99999) by omega)), CB.nil⟩, hS.F ht⟩) hS.2.2 dX11_held_23
    · skip
      have c5 := l_nle (Eq.refl p0.toInt) (show (99999 : Int64).toInt = 99999 by decide) c5
      refine lv_lload hx hb dX11_held_17 (lv_at hl 2 rfl) ?_
      refine lv_goto (tgt := 23) hx hb dX11_held_19 (by decide) ?_
      refine W.widen (k := 0) (n := 0) (Nat.le_of_ble_eq_true rfl) (Nat.le_of_ble_eq_true rfl) ?_
      have zl0 : (0 : Int64).toInt = 0 := by decide
      have zl99999 : (99999 : Int64).toInt = 99999 := by decide
      exact W.lret (v := 99999) hx hb hr (fun t ht hW => ⟨⟨99999, rfl, ((show (0 ≤ (99999 : Int64).toInt ∧ (99999 : Int64).toInt ≤ 99999) by omega)), CB.nil⟩, hS.F ht⟩) hS.2.2 dX11_held_23
  · skip
    have c3 := l_nge (Eq.refl p0.toInt) (show (0 : Int64).toInt = 0 by decide) c3
    refine lv_lload_n hx hb dX11_held_6 rfl (lv_at hl 1 rfl) ?_
    refine lv_goto (tgt := 23) hx hb dX11_held_7 (by decide) ?_
    refine W.widen (k := 0) (n := 0) (Nat.le_of_ble_eq_true rfl) (Nat.le_of_ble_eq_true rfl) ?_
    have zl0 : (0 : Int64).toInt = 0 := by decide
    have zl99999 : (99999 : Int64).toInt = 99999 := by decide
    exact W.lret (v := 0) hx hb hr (fun t ht hW => ⟨⟨0, rfl, ((show (0 ≤ (0 : Int64).toInt ∧ (0 : Int64).toInt ≤ 99999) by omega)), CB.nil⟩, hS.F ht⟩) hS.2.2 dX11_held_23
set_option maxHeartbeats 4000000 in
set_option maxRecDepth 100000 in
theorem m_make (l : Launch) (D : va_G) (Y : Nat → ClassId) (Z : Nat → Nat) (sz : Nat) (o : Nat) (a : Nat → Nat) (I : Nat → Int32) (J : Nat → Int64) (F : Nat → Nat → Int32) (G : Nat → Nat → Int64) (p1 : Int32) (p2 : Int32) (p3 : Int32) (p4 : Int32) (p5 : Int32) (hk0 : TO (F 0)) (hk1 : TX (F 4) (F 9) (F 10) (F 11) (F 12) (F 13)) (hk2 : TC (F 4) (F 8) (F 7) (F 5)) : Met l yX11_make (.code yX11_make cX11_make 13 (some .int) :: GW) ({ frames := 3, cells := 0, slots := 0, locals := 77 }) (va_Pc [.ref o, .int p1, .int p2, .int p3, .int p4, .int p5] (CP D Y Z (MW Y o a I J F G) sz)) (QG (S := Int32 × Int32 × (Nat → Int64) × (Nat → Int64) × (Nat → Int32)) (fun u => some (.int u.1)) (fun u => TO u.2.2.2.2) (fun u => CB D (MW Y o a (upd I 26 u.2.1) J (vf_upd F 0 u.2.2.2.2) (vf_upd (vf_upd G 25 u.2.2.1) 27 u.2.2.2.1)) (va_A (MW Y o a I J F G) sz)) (va_A (MW Y o a I J F G) sz)) 0 0 (va_A (MW Y o a I J F G) sz) := by
  refine Met.ofW (cc := cX11_make) (maxL := 13) (ret := (some .int)) (by decide) rfl ?_
  intro p e s m args below meth c s₁ B hml hv
  obtain ⟨rfl, hsz, hP, hKN, hD0⟩ := hv
  have hx := B.exec
  have hb := B.bytes
  have hr := B.returns
  have hts := atoms_spec (ws := .code yX11_make cX11_make 13 (some .int) :: GW) B.pre
  have hg : ∀ w ∈ GW, w.before _ s = true := fun w h => hts w (List.mem_cons_of_mem _ h)
  have hown : s.vm.findClass RX11 = some m.cls := findClass_of_methodNamed B.named
  have hlocks := B.notSynchronized
  subst hsz
  have hD := hD0.self (sz := s.heap.size)
  generalize hAe : va_A (MW Y o a I J F G) s.heap.size = A at hD ⊢
  have hA : ∀ q : Nat, s.heap.size ≤ q → A q := fun q h => by rw [← hAe]; exact Or.inr h
  clear hAe hD0 hts B
  have hl := lv_entry ([.ref o, .int p1, .int p2, .int p3, .int p4, .int p5]) (n := 13) (Nat.le_of_ble_eq_true rfl)
  rw [lg_entry_eq]
  generalize (lg_sl ([.ref o, .int p1, .int p2, .int p3, .int p4, .int p5]) ++ List.replicate (13 - (lg_sl ([.ref o, .int p1, .int p2, .int p3, .int p4, .int p5])).length) Slot.unset).toArray = ls at hl ⊢
  have hl : lv_has ls 13 [(0, .ref o), (1, .int p1), (2, .int p2), (3, .int p3), (4, .int p4), (5, .int p5)] := hl
  refine w_start (A0 := A) hP (fun H locs hP hS => ?_)
  refine lv_aload_n hx hb dX11_make_0 rfl (lv_at hl 0 rfl) ?_
  refine lv_iconst (v := 0) hx hb dX11_make_1 (by decide) ?_
  refine lv_iload_n hx hb dX11_make_2 rfl (lv_at hl 1 rfl) ?_
  have zi0 : (0 : Int32).toInt = 0 := by decide
  refine cga (rn_V (As := [.int 0, .int p1]) (rest := []) (b := o) (m_isText0 l D Y Z H.size o a I J F G  p1 hk1) ⟨hx, hb, hml, hown, hg⟩ lk_X11_366 ⟨CP.blind, va_recv hKN.1 hP (ci := 11) (q0 := 0) rfl rfl, CP.at hP hKN hD⟩ ⟨⟨rfl, rfl⟩, ⟨Nat.le_of_ble_eq_true rfl, Nat.le_of_ble_eq_true rfl⟩, ⟨Nat.le_of_ble_eq_true rfl, Nat.le_of_ble_eq_true rfl⟩⟩ hl.1 rfl (Nat.le_of_ble_eq_true rfl) dX11_make_3) hP hD hS hA (fun u1 H locs w2 hP hD hS => ?_)
  obtain ⟨hw4, hw5⟩ : ((0 ≤ p1.toInt ∧ p1.toInt ≤ 5 ∧ p1.toInt < ((F 4) 0).toInt ∧ u1.toInt = 1) ∨ u1.toInt = 0) ∧ (0 ≤ u1.toInt ∧ u1.toInt ≤ 1) := w2
  refine W.eq (g2 := F0 m 6 ls [.int u1]) rfl ?_
  have hP : va_P D vwCl (MW Y o a I J F G) H := hP
  have hD : va_D A (MW Y o a I J F G) := hD
  rcases (show u1.toInt = 1 ∨ u1.toInt = 0 by omega) with c6 | c6
  · obtain rfl : u1 = 1 := i_is c6 (by decide)
    have zi1 : (1 : Int32).toInt = 1 := by decide
    refine W.eq (g2 := F0 m 6 ls [.int 1]) rfl ?_
    refine lv_if_eq (tgt := 44) hx hb dX11_make_6 (by decide) (fun c7 => ?_) (fun c7 => ?_)
    · exact absurd c7 (by decide)
    refine lv_aload_n hx hb dX11_make_9 rfl (lv_at hl 0 rfl) ?_
    refine lv_iload_n hx hb dX11_make_10 rfl (lv_at hl 2 rfl) ?_
    refine cga (rn_V (As := [.int p2]) (rest := []) (b := o) (m_isStar l D Y Z H.size o a I J F G  p2 hk0) ⟨hx, hb, hml, hown, hg⟩ lk_X11_108 ⟨CP.blind, va_recv hKN.1 hP (ci := 11) (q0 := 0) rfl rfl, CP.at hP hKN hD⟩ ⟨⟨rfl, rfl⟩, ⟨Nat.le_of_ble_eq_true rfl, Nat.le_of_ble_eq_true rfl⟩, ⟨Nat.le_of_ble_eq_true rfl, Nat.le_of_ble_eq_true rfl⟩⟩ hl.1 rfl (Nat.le_of_ble_eq_true rfl) dX11_make_11) hP hD hS hA (fun u8 H locs w9 hP hD hS => ?_)
    obtain ⟨hw11, hw12⟩ : ((0 ≤ p2.toInt ∧ p2.toInt ≤ 11 ∧ p2.toInt < ((F 0) 0).toInt ∧ u8.toInt = 1) ∨ (¬ (0 ≤ p2.toInt ∧ p2.toInt < ((F 0) 0).toInt) ∧ u8.toInt = 0)) ∧ (0 ≤ u8.toInt ∧ u8.toInt ≤ 1) := w9
    refine W.eq (g2 := F0 m 14 ls [.int u8]) rfl ?_
    have hP : va_P D vwCl (MW Y o a I J F G) H := hP
    have hD : va_D A (MW Y o a I J F G) := hD
    rcases (show u8.toInt = 1 ∨ u8.toInt = 0 by omega) with c13 | c13
    · obtain rfl : u8 = 1 := i_is c13 (by decide)
      refine W.eq (g2 := F0 m 14 ls [.int 1]) rfl ?_
      refine lv_if_eq (tgt := 44) hx hb dX11_make_14 (by decide) (fun c14 => ?_) (fun c14 => ?_)
      · exact absurd c14 (by decide)
      refine lv_iload_n hx hb dX11_make_17 rfl (lv_at hl 3 rfl) ?_
      have j15 := rgI p3
      refine lv_if_lt (tgt := 44) hx hb dX11_make_18 (by decide) (fun c16 => ?_) (fun c16 => ?_)
      · skip
        have c16 := i_lt (Eq.refl p3.toInt) (show (0 : Int32).toInt = 0 by decide) c16
        refine lv_iconst (v := (-1)) hx hb dX11_make_44 (by decide) ?_
        refine W.widen (k := 0) (n := 0) (Nat.le_of_ble_eq_true rfl) (Nat.le_of_ble_eq_true rfl) ?_
        have zim1 : ((-1) : Int32).toInt = -1 := by decide
        exact W.iret (v := (-1)) hx hb hr (fun t ht hW => ⟨⟨((-1), (I 26), (G 25), (G 27), (F 0)), rfl, (hk0), CB.mk ht hP hD⟩, hS.F ht⟩) hS.2.2 dX11_make_45
      · skip
        have c16 := i_nlt (Eq.refl p3.toInt) (show (0 : Int32).toInt = 0 by decide) c16
        refine lv_iload hx hb dX11_make_21 (lv_at hl 4 rfl) ?_
        refine cg0 (rn_S (As := [.int p4]) (rest := []) (m_isHour l D Y Z H.size   p4 ) ⟨hx, hb, hml, hown, hg⟩ lk_X11_112 ⟨CP.blind, CP.at nilP hKN (nilD (A := fun _ => True))⟩ ⟨⟨rfl, rfl⟩, ⟨Nat.le_of_ble_eq_true rfl, Nat.le_of_ble_eq_true rfl⟩, ⟨Nat.le_of_ble_eq_true rfl, Nat.le_of_ble_eq_true rfl⟩⟩ hl.1 rfl (Nat.le_of_ble_eq_true rfl) dX11_make_23) hP hS hA (fun u17 H locs w18 hP hS => ?_)
        obtain ⟨hw20, hw21⟩ : ((0 ≤ p4.toInt ∧ p4.toInt ≤ 599 ∧ u17.toInt = 1) ∨ (¬ (0 ≤ p4.toInt ∧ p4.toInt ≤ 599) ∧ u17.toInt = 0)) ∧ (0 ≤ u17.toInt ∧ u17.toInt ≤ 1) := w18
        refine W.eq (g2 := F0 m 26 ls [.int u17]) rfl ?_
        rcases (show u17.toInt = 1 ∨ u17.toInt = 0 by omega) with c22 | c22
        · obtain rfl : u17 = 1 := i_is c22 (by decide)
          refine W.eq (g2 := F0 m 26 ls [.int 1]) rfl ?_
          refine lv_if_eq (tgt := 44) hx hb dX11_make_26 (by decide) (fun c23 => ?_) (fun c23 => ?_)
          · exact absurd c23 (by decide)
          refine lv_iload hx hb dX11_make_29 (lv_at hl 5 rfl) ?_
          refine cg0 (rn_S (As := [.int p5]) (rest := []) (m_isHour l D Y Z H.size   p5 ) ⟨hx, hb, hml, hown, hg⟩ lk_X11_112 ⟨CP.blind, CP.at nilP hKN (nilD (A := fun _ => True))⟩ ⟨⟨rfl, rfl⟩, ⟨Nat.le_of_ble_eq_true rfl, Nat.le_of_ble_eq_true rfl⟩, ⟨Nat.le_of_ble_eq_true rfl, Nat.le_of_ble_eq_true rfl⟩⟩ hl.1 rfl (Nat.le_of_ble_eq_true rfl) dX11_make_31) hP hS hA (fun u24 H locs w25 hP hS => ?_)
          obtain ⟨hw27, hw28⟩ : ((0 ≤ p5.toInt ∧ p5.toInt ≤ 599 ∧ u24.toInt = 1) ∨ (¬ (0 ≤ p5.toInt ∧ p5.toInt ≤ 599) ∧ u24.toInt = 0)) ∧ (0 ≤ u24.toInt ∧ u24.toInt ≤ 1) := w25
          refine W.eq (g2 := F0 m 34 ls [.int u24]) rfl ?_
          rcases (show u24.toInt = 1 ∨ u24.toInt = 0 by omega) with c29 | c29
          · obtain rfl : u24 = 1 := i_is c29 (by decide)
            refine W.eq (g2 := F0 m 34 ls [.int 1]) rfl ?_
            refine lv_if_eq (tgt := 44) hx hb dX11_make_34 (by decide) (fun c30 => ?_) (fun c30 => ?_)
            · exact absurd c30 (by decide)
            refine lv_iload hx hb dX11_make_37 (lv_at hl 5 rfl) ?_
            refine lv_iload hx hb dX11_make_39 (lv_at hl 4 rfl) ?_
            refine lv_icmp_ge (tgt := 46) hx hb dX11_make_41 (by decide) (fun c31 => ?_) (fun c31 => ?_)
            · skip
              have c31 := i_le (Eq.refl p4.toInt) (Eq.refl p5.toInt) c31
              refine lv_iload_n hx hb dX11_make_46 rfl (lv_at hl 3 rfl) ?_
              have j32 := Int32.toInt_toInt64 p3
              refine lv_i2l (v := p3.toInt64) hx hb dX11_make_47 (rfl) ?_
              refine lv_lstore (lv' := [(6, .long p3.toInt64), (0, .ref o), (1, .int p1), (2, .int p2), (3, .int p3), (4, .int p4), (5, .int p5)]) hx hb dX11_make_48 hl (by decide) rfl (fun ls hl => ?_)
              refine lv_iload hx hb dX11_make_50 (lv_at hl 5 rfl) ?_
              refine lv_istore (lv' := [(8, .int p4), (6, .long p3.toInt64), (0, .ref o), (1, .int p1), (2, .int p2), (3, .int p3), (4, .int p4), (5, .int p5)]) hx hb dX11_make_52 hl (by decide) rfl (fun ls hl => ?_)
              refine w_loop (σ := Int32 × Int64 × Int32 × (Nat → Int32) × (Nat → Int64) × (Nat → Int64)) (fun xx H locs ls => match xx with | (g895, g896, g897, f898, f899, f900) => va_P D vwCl (MW Y o a (upd I 26 g897) J (vf_upd F 0 f898) (vf_upd (vf_upd G 25 f899) 27 f900)) H ∧ va_D A (MW Y o a (upd I 26 g897) J (vf_upd F 0 f898) (vf_upd (vf_upd G 25 f899) 27 f900)) ∧ va_S A s.heap H locs ∧ lv_has ls 13 [(8, .int g895), (6, .long g896), (0, .ref o), (1, .int p1), (2, .int p2), (3, .int p3), (4, .int p4), (5, .int p5)] ∧ (0 ≤ g895.toInt ∧ g895.toInt ≤ 600) ∧ TO f898) (fun xx => match xx with | (g895, g896, g897, f898, f899, f900) => (600 - g895.toInt).toNat) (p4, p3.toInt64, (I 26), (F 0), (G 25), (G 27)) ⟨hP, hD, hS, lv_sub hl [0, 1, 2, 3, 4, 5, 6, 7] rfl, by omega, hk0⟩ (fun xx H locs ls hI ih => ?_)
              obtain ⟨g895, g896, g897, f898, f899, f900⟩ := xx
              obtain ⟨hP, hD, hS, hl, hq1763, hp1764⟩ := hI
              have ih1765 := ih
              refine lv_iload hx hb dX11_make_54 (lv_at hl 0 rfl) ?_
              refine lv_iload hx hb dX11_make_56 (lv_at hl 7 rfl) ?_
              refine lv_icmp_gt (tgt := 328) hx hb dX11_make_58 (by decide) (fun c2197 => ?_) (fun c2197 => ?_)
              · skip
                have c2197 := i_lt (Eq.refl p5.toInt) (Eq.refl g895.toInt) c2197
                refine lv_iload hx hb dX11_make_328 (lv_at hl 7 rfl) ?_
                refine lv_iload hx hb dX11_make_330 (lv_at hl 6 rfl) ?_
                refine lv_isub hx hb dX11_make_332 ?_
                refine lv_topi (fun v2198 ev2198 => ?_)
                have hv2198 := i_sub (Eq.refl p5.toInt) (Eq.refl p4.toInt) ev2198 (by omega) (by omega)
                refine lv_iconst (v := 1) hx hb dX11_make_333 (by decide) ?_
                refine lv_iadd hx hb dX11_make_334 ?_
                refine lv_topi (fun v2199 ev2199 => ?_)
                have hv2199 := i_add (Eq.refl v2198.toInt) (show (1 : Int32).toInt = 1 by decide) ev2199 (by omega) (by omega)
                refine W.widen (k := 0) (n := 0) (Nat.le_of_ble_eq_true rfl) (Nat.le_of_ble_eq_true rfl) ?_
                exact W.iret (v := v2199) hx hb hr (fun t ht hW => ⟨⟨(v2199, g897, f899, f900, f898), rfl, (hp1764), CB.mk ht hP hD⟩, hS.F ht⟩) hS.2.2 dX11_make_335
              · skip
                have c2197 := i_nlt (Eq.refl p5.toInt) (Eq.refl g895.toInt) c2197
                refine lv_aload_n hx hb dX11_make_61 rfl (lv_at hl 2 rfl) ?_
                refine va_get (D := D) (ci := 11) (v := .ref (a 27)) (C := RX11) (T := TX11) (N := 49) hx hb hg inGX11 hown hKN.1 hP 0 rfl rfl 27 (by decide) (hg _ kw_1235) (fun _ h9 => h9) rfl dX11_make_62 ?_
                refine lv_iconst (v := 0) hx hb dX11_make_65 (by decide) ?_
                refine lv_iload hx hb dX11_make_66 (lv_at hl 0 rfl) ?_
                have j2200 := Int32.toInt_toInt64 g895
                refine lv_i2l (v := g895.toInt64) hx hb dX11_make_68 (rfl) ?_
                refine va_last hx hb hKN.1 hP hD hS 18 1 rfl rfl (show ¬ ((0 : Int32) < 0 ∨ 10 ≤ (0 : Int32).toNatClampNeg) by decide) dX11_make_69 (fun H locs hP hD hS => ?_)
                obtain ⟨f2201, ef2201, hP, hD⟩ : ∃ f2201 : Nat → Int64, f2201 = vp_updL f900 0 g895.toInt64 ∧ va_P D vwCl (MW Y o a (upd I 26 g897) J (vf_upd F 0 f898) (vf_upd (vf_upd G 25 f899) 27 f2201)) H ∧ va_D A (MW Y o a (upd I 26 g897) J (vf_upd F 0 f898) (vf_upd (vf_upd G 25 f899) 27 f2201)) := ⟨_, rfl, hP, hD⟩
                refine lv_aload_n hx hb dX11_make_70 rfl (lv_at hl 2 rfl) ?_
                refine va_get (D := D) (ci := 11) (v := .ref (a 27)) (C := RX11) (T := TX11) (N := 49) hx hb hg inGX11 hown hKN.1 hP 0 rfl rfl 27 (by decide) (hg _ kw_1235) (fun _ h9 => h9) rfl dX11_make_71 ?_
                refine lv_iconst (v := 1) hx hb dX11_make_74 (by decide) ?_
                refine lv_iload hx hb dX11_make_75 (lv_at hl 0 rfl) ?_
                refine lv_sipush (v := 150) hx hb dX11_make_77 (by decide) ?_
                have zi150 : (150 : Int32).toInt = 150 := by decide
                refine lv_idiv hx hb dX11_make_80 (i_nz (show (150 : Int32).toInt = 150 by decide) (by omega)) ?_
                refine lv_topi (fun v2202 ev2202 => ?_)
                have hv2202 := i_div (Eq.refl g895.toInt) (show (150 : Int32).toInt = 150 by decide) ev2202 (by omega) (by omega)
                have j2203 := Int32.toInt_toInt64 v2202
                refine lv_i2l (v := v2202.toInt64) hx hb dX11_make_81 (rfl) ?_
                refine va_last hx hb hKN.1 hP hD hS 18 1 rfl rfl (show ¬ ((1 : Int32) < 0 ∨ 10 ≤ (1 : Int32).toNatClampNeg) by decide) dX11_make_82 (fun H locs hP hD hS => ?_)
                obtain ⟨f2204, ef2204, hP, hD⟩ : ∃ f2204 : Nat → Int64, f2204 = vp_updL f2201 1 v2202.toInt64 ∧ va_P D vwCl (MW Y o a (upd I 26 g897) J (vf_upd F 0 f898) (vf_upd (vf_upd G 25 f899) 27 f2204)) H ∧ va_D A (MW Y o a (upd I 26 g897) J (vf_upd F 0 f898) (vf_upd (vf_upd G 25 f899) 27 f2204)) := ⟨_, rfl, hP, hD⟩
                refine lv_aload_n hx hb dX11_make_83 rfl (lv_at hl 2 rfl) ?_
                refine va_get (D := D) (ci := 11) (v := .ref (a 27)) (C := RX11) (T := TX11) (N := 49) hx hb hg inGX11 hown hKN.1 hP 0 rfl rfl 27 (by decide) (hg _ kw_1235) (fun _ h9 => h9) rfl dX11_make_84 ?_
                refine lv_iconst (v := 2) hx hb dX11_make_87 (by decide) ?_
                refine lv_iload_n hx hb dX11_make_88 rfl (lv_at hl 4 rfl) ?_
                have j2205 := Int32.toInt_toInt64 p2
                refine lv_i2l (v := p2.toInt64) hx hb dX11_make_89 (rfl) ?_
                refine va_last hx hb hKN.1 hP hD hS 18 1 rfl rfl (show ¬ ((2 : Int32) < 0 ∨ 10 ≤ (2 : Int32).toNatClampNeg) by decide) dX11_make_90 (fun H locs hP hD hS => ?_)
                obtain ⟨f2206, ef2206, hP, hD⟩ : ∃ f2206 : Nat → Int64, f2206 = vp_updL f2204 2 p2.toInt64 ∧ va_P D vwCl (MW Y o a (upd I 26 g897) J (vf_upd F 0 f898) (vf_upd (vf_upd G 25 f899) 27 f2206)) H ∧ va_D A (MW Y o a (upd I 26 g897) J (vf_upd F 0 f898) (vf_upd (vf_upd G 25 f899) 27 f2206)) := ⟨_, rfl, hP, hD⟩
                refine lv_aload_n hx hb dX11_make_91 rfl (lv_at hl 2 rfl) ?_
                refine va_get (D := D) (ci := 11) (v := .ref (a 27)) (C := RX11) (T := TX11) (N := 49) hx hb hg inGX11 hown hKN.1 hP 0 rfl rfl 27 (by decide) (hg _ kw_1235) (fun _ h9 => h9) rfl dX11_make_92 ?_
                refine lv_iconst (v := 3) hx hb dX11_make_95 (by decide) ?_
                refine lv_aload_n hx hb dX11_make_96 rfl (lv_at hl 2 rfl) ?_
                refine lv_iload_n hx hb dX11_make_97 rfl (lv_at hl 4 rfl) ?_
                refine lv_iconst (v := 1) hx hb dX11_make_98 (by decide) ?_
                refine cga (rn_V (As := [.int p2, .int 1]) (rest := [.int 3, .ref (a 27)]) (b := o) (m_starOf1 l D Y Z H.size o a (upd I 26 g897) J (vf_upd F 0 f898) (vf_upd (vf_upd G 25 f899) 27 f2206)  p2 (show (0 ≤ p2.toInt ∧ p2.toInt ≤ 11) by omega) hp1764) ⟨hx, hb, hml, hown, hg⟩ lk_X11_120 ⟨CP.blind, va_recv hKN.1 hP (ci := 11) (q0 := 0) rfl rfl, CP.at hP hKN hD⟩ ⟨⟨rfl, rfl⟩, ⟨Nat.le_of_ble_eq_true rfl, Nat.le_of_ble_eq_true rfl⟩, ⟨Nat.le_of_ble_eq_true rfl, Nat.le_of_ble_eq_true rfl⟩⟩ hl.1 rfl (Nat.le_of_ble_eq_true rfl) dX11_make_99) hP hD hS hA (fun u2207 H locs w2208 hP hD hS => ?_)
                have hw2210 : (0 ≤ u2207.toInt ∧ u2207.toInt ≤ 7) := w2208
                clear w2208
                refine W.eq (g2 := F0 m 102 ls [.int u2207, .int 3, .ref (a 27)]) rfl ?_
                have hP : va_P D vwCl (MW Y o a (upd I 26 g897) J (vf_upd F 0 f898) (vf_upd (vf_upd G 25 f899) 27 f2206)) H := hP
                have hD : va_D A (MW Y o a (upd I 26 g897) J (vf_upd F 0 f898) (vf_upd (vf_upd G 25 f899) 27 f2206)) := hD
                have j2211 := Int32.toInt_toInt64 u2207
                refine lv_i2l (v := u2207.toInt64) hx hb dX11_make_102 (rfl) ?_
                refine va_last hx hb hKN.1 hP hD hS 18 1 rfl rfl (show ¬ ((3 : Int32) < 0 ∨ 10 ≤ (3 : Int32).toNatClampNeg) by decide) dX11_make_103 (fun H locs hP hD hS => ?_)
                obtain ⟨f2212, ef2212, hP, hD⟩ : ∃ f2212 : Nat → Int64, f2212 = vp_updL f2206 3 u2207.toInt64 ∧ va_P D vwCl (MW Y o a (upd I 26 g897) J (vf_upd F 0 f898) (vf_upd (vf_upd G 25 f899) 27 f2212)) H ∧ va_D A (MW Y o a (upd I 26 g897) J (vf_upd F 0 f898) (vf_upd (vf_upd G 25 f899) 27 f2212)) := ⟨_, rfl, hP, hD⟩
                refine lv_aload_n hx hb dX11_make_104 rfl (lv_at hl 2 rfl) ?_
                refine va_get (D := D) (ci := 11) (v := .ref (a 27)) (C := RX11) (T := TX11) (N := 49) hx hb hg inGX11 hown hKN.1 hP 0 rfl rfl 27 (by decide) (hg _ kw_1235) (fun _ h9 => h9) rfl dX11_make_105 ?_
                refine lv_iconst (v := 4) hx hb dX11_make_108 (by decide) ?_
                refine lv_aload_n hx hb dX11_make_109 rfl (lv_at hl 2 rfl) ?_
                refine lv_iload_n hx hb dX11_make_110 rfl (lv_at hl 4 rfl) ?_
                refine lv_iconst (v := 0) hx hb dX11_make_111 (by decide) ?_
                refine cga (rn_V (As := [.int p2, .int 0]) (rest := [.int 4, .ref (a 27)]) (b := o) (m_starOf0 l D Y Z H.size o a (upd I 26 g897) J (vf_upd F 0 f898) (vf_upd (vf_upd G 25 f899) 27 f2212)  p2 (show (0 ≤ p2.toInt ∧ p2.toInt ≤ 11) by omega) hp1764) ⟨hx, hb, hml, hown, hg⟩ lk_X11_120 ⟨CP.blind, va_recv hKN.1 hP (ci := 11) (q0 := 0) rfl rfl, CP.at hP hKN hD⟩ ⟨⟨rfl, rfl⟩, ⟨Nat.le_of_ble_eq_true rfl, Nat.le_of_ble_eq_true rfl⟩, ⟨Nat.le_of_ble_eq_true rfl, Nat.le_of_ble_eq_true rfl⟩⟩ hl.1 rfl (Nat.le_of_ble_eq_true rfl) dX11_make_112) hP hD hS hA (fun u2213 H locs w2214 hP hD hS => ?_)
                have hw2216 : (0 ≤ u2213.toInt ∧ u2213.toInt ≤ 999) := w2214
                clear w2214
                refine W.eq (g2 := F0 m 115 ls [.int u2213, .int 4, .ref (a 27)]) rfl ?_
                have hP : va_P D vwCl (MW Y o a (upd I 26 g897) J (vf_upd F 0 f898) (vf_upd (vf_upd G 25 f899) 27 f2212)) H := hP
                have hD : va_D A (MW Y o a (upd I 26 g897) J (vf_upd F 0 f898) (vf_upd (vf_upd G 25 f899) 27 f2212)) := hD
                have j2217 := Int32.toInt_toInt64 u2213
                refine lv_i2l (v := u2213.toInt64) hx hb dX11_make_115 (rfl) ?_
                refine va_last hx hb hKN.1 hP hD hS 18 1 rfl rfl (show ¬ ((4 : Int32) < 0 ∨ 10 ≤ (4 : Int32).toNatClampNeg) by decide) dX11_make_116 (fun H locs hP hD hS => ?_)
                obtain ⟨f2218, ef2218, hP, hD⟩ : ∃ f2218 : Nat → Int64, f2218 = vp_updL f2212 4 u2213.toInt64 ∧ va_P D vwCl (MW Y o a (upd I 26 g897) J (vf_upd F 0 f898) (vf_upd (vf_upd G 25 f899) 27 f2218)) H ∧ va_D A (MW Y o a (upd I 26 g897) J (vf_upd F 0 f898) (vf_upd (vf_upd G 25 f899) 27 f2218)) := ⟨_, rfl, hP, hD⟩
                refine lv_lconst (v := 0) hx hb dX11_make_117 (by decide) ?_
                refine lv_lstore (lv' := [(9, .long 0), (8, .int g895), (6, .long g896), (0, .ref o), (1, .int p1), (2, .int p2), (3, .int p3), (4, .int p4), (5, .int p5)]) hx hb dX11_make_118 hl (by decide) rfl (fun ls hl => ?_)
                refine lv_iconst (v := 0) hx hb dX11_make_120 (by decide) ?_
                refine lv_istore (lv' := [(11, .int 0), (9, .long 0), (8, .int g895), (6, .long g896), (0, .ref o), (1, .int p1), (2, .int p2), (3, .int p3), (4, .int p4), (5, .int p5)]) hx hb dX11_make_121 hl (by decide) rfl (fun ls hl => ?_)
                have zl0 : (0 : Int64).toInt = 0 := by decide
                refine w_loop (σ := Int32 × Int32 × (Nat → Int64)) (fun xx H locs ls => match xx with | (g2243, g2244, f2245) => va_P D vwCl (MW Y o a (upd I 26 g2244) J (vf_upd F 0 f898) (vf_upd (vf_upd G 25 f2245) 27 f2218)) H ∧ va_D A (MW Y o a (upd I 26 g2244) J (vf_upd F 0 f898) (vf_upd (vf_upd G 25 f2245) 27 f2218)) ∧ va_S A s.heap H locs ∧ lv_has ls 13 [(11, .int g2243), (9, .long 0), (8, .int g895), (6, .long g896), (0, .ref o), (1, .int p1), (2, .int p2), (3, .int p3), (4, .int p4), (5, .int p5)] ∧ (0 ≤ g2243.toInt ∧ g2243.toInt ≤ 12)) (fun xx => match xx with | (g2243, g2244, f2245) => (12 - g2243.toInt).toNat) (0, g897, f899) ⟨hP, hD, hS, lv_sub hl [0, 1, 2, 3, 4, 5, 6, 7, 8, 9] rfl, by omega⟩ (fun xx H locs ls hI ih => ?_)
                obtain ⟨g2243, g2244, f2245⟩ := xx
                obtain ⟨hP, hD, hS, hl, hq2272⟩ := hI
                have ih2273 := ih
                refine lv_iload hx hb dX11_make_123 (lv_at hl 0 rfl) ?_
                refine lv_aload_n hx hb dX11_make_125 rfl (lv_at hl 4 rfl) ?_
                refine va_get (D := D) (ci := 11) (v := .ref (a 8)) (C := RX11) (T := TX11) (N := 49) hx hb hg inGX11 hown hKN.1 hP 0 rfl rfl 8 (by decide) (hg _ kw_1216) (fun _ h9 => h9) rfl dX11_make_126 ?_
                refine lv_iload_n hx hb dX11_make_129 rfl (lv_at hl 5 rfl) ?_
                refine va_iald hx hb hKN.1 hP 8 0 rfl rfl (vp_in_iff.mpr ⟨by omega, by omega⟩) dX11_make_130 ?_
                refine lv_topi (fun v2274 ev2274 => ?_)
                have ev2274 : v2274 = (F 8) p1.toNatClampNeg := ev2274
                have qv2274 := congrArg Int32.toInt ev2274
                have kv2274 := TC_c hk2 (t := p1.toNatClampNeg) (by have c := clampI (x := p1) (by omega); omega) (Or.inl (by have c := clampI (x := p1) (by omega); omega))
                obtain ⟨kv22741, kv22742⟩ := kv2274
                refine w_join (σ := Int32 × (Nat → Int64)) (pcJ := 150) (kJ := 0) (nJ := 0) (stk := fun xx => match xx with | (g2286, f2287) => []) (fun xx H locs ls => match xx with | (g2286, f2287) => va_P D vwCl (MW Y o a (upd I 26 g2286) J (vf_upd F 0 f898) (vf_upd (vf_upd G 25 f2287) 27 f2218)) H ∧ va_D A (MW Y o a (upd I 26 g2286) J (vf_upd F 0 f898) (vf_upd (vf_upd G 25 f2287) 27 f2218)) ∧ va_S A s.heap H locs ∧ lv_has ls 13 [(11, .int g2243), (9, .long 0), (8, .int g895), (6, .long g896), (0, .ref o), (1, .int p1), (2, .int p2), (3, .int p3), (4, .int p4), (5, .int p5)]) (fun xx H locs ls hI => ?_) (fun jn2288 => ?_)
                · skip
                  obtain ⟨g2286, f2287⟩ := xx
                  obtain ⟨hP, hD, hS, hl⟩ := hI
                  refine W.eq (g2 := F0 m 150 ls []) rfl ?_
                  refine lv_iload hx hb dX11_make_150 (lv_at hl 0 rfl) ?_
                  refine lv_aload_n hx hb dX11_make_152 rfl (lv_at hl 4 rfl) ?_
                  refine va_get (D := D) (ci := 11) (v := .ref (a 8)) (C := RX11) (T := TX11) (N := 49) hx hb hg inGX11 hown hKN.1 hP 0 rfl rfl 8 (by decide) (hg _ kw_1216) (fun _ h9 => h9) rfl dX11_make_153 ?_
                  refine lv_iload_n hx hb dX11_make_156 rfl (lv_at hl 5 rfl) ?_
                  refine va_iald hx hb hKN.1 hP 8 0 rfl rfl (vp_in_iff.mpr ⟨by omega, by omega⟩) dX11_make_157 ?_
                  refine lv_topi (fun v2289 ev2289 => ?_)
                  have ev2289 : v2289 = (F 8) p1.toNatClampNeg := ev2289
                  have qv2289 := congrArg Int32.toInt ev2289
                  have kv2289 := TC_c hk2 (t := p1.toNatClampNeg) (by have c := clampI (x := p1) (by omega); omega) (Or.inl (by have c := clampI (x := p1) (by omega); omega))
                  obtain ⟨kv22891, kv22892⟩ := kv2289
                  refine w_join (σ := Int64 × Int32 × (Nat → Int64)) (pcJ := 179) (kJ := 0) (nJ := 0) (stk := fun xx => match xx with | (g2300, g2301, f2302) => []) (fun xx H locs ls => match xx with | (g2300, g2301, f2302) => va_P D vwCl (MW Y o a (upd I 26 g2301) J (vf_upd F 0 f898) (vf_upd (vf_upd G 25 f2302) 27 f2218)) H ∧ va_D A (MW Y o a (upd I 26 g2301) J (vf_upd F 0 f898) (vf_upd (vf_upd G 25 f2302) 27 f2218)) ∧ va_S A s.heap H locs ∧ lv_has ls 13 [(11, .int g2243), (9, .long g2300), (8, .int g895), (6, .long g896), (0, .ref o), (1, .int p1), (2, .int p2), (3, .int p3), (4, .int p4), (5, .int p5)]) (fun xx H locs ls hI => ?_) (fun jn2303 => ?_)
                  · skip
                    obtain ⟨g2300, g2301, f2302⟩ := xx
                    obtain ⟨hP, hD, hS, hl⟩ := hI
                    refine W.eq (g2 := F0 m 179 ls []) rfl ?_
                    refine lv_iconst (v := 0) hx hb dX11_make_179 (by decide) ?_
                    refine lv_istore (lv' := [(12, .int 0), (11, .int g2243), (9, .long g2300), (8, .int g895), (6, .long g896), (0, .ref o), (1, .int p1), (2, .int p2), (3, .int p3), (4, .int p4), (5, .int p5)]) hx hb dX11_make_180 hl (by decide) rfl (fun ls hl => ?_)
                    refine w_loop (σ := Int32 × Int64) (fun xx H locs ls => match xx with | (g2395, g2396) => va_P D vwCl (MW Y o a (upd I 26 g2301) J (vf_upd F 0 f898) (vf_upd (vf_upd G 25 f2302) 27 f2218)) H ∧ va_D A (MW Y o a (upd I 26 g2301) J (vf_upd F 0 f898) (vf_upd (vf_upd G 25 f2302) 27 f2218)) ∧ va_S A s.heap H locs ∧ lv_has ls 13 [(12, .int g2395), (11, .int g2243), (9, .long g2396), (8, .int g895), (6, .long g896), (0, .ref o), (1, .int p1), (2, .int p2), (3, .int p3), (4, .int p4), (5, .int p5)] ∧ (0 ≤ g2395.toInt ∧ g2395.toInt ≤ 40)) (fun xx => match xx with | (g2395, g2396) => (40 - g2395.toInt).toNat) (0, g2300) ⟨hP, hD, hS, lv_sub hl [0, 1, 2, 3, 4, 5, 6, 7, 8, 9, 10] rfl, by omega⟩ (fun xx H locs ls hI ih => ?_)
                    obtain ⟨g2395, g2396⟩ := xx
                    obtain ⟨hP, hD, hS, hl, hq2490⟩ := hI
                    have ih2491 := ih
                    refine lv_iload hx hb dX11_make_182 (lv_at hl 0 rfl) ?_
                    refine lv_aload_n hx hb dX11_make_184 rfl (lv_at hl 5 rfl) ?_
                    refine va_get (D := D) (ci := 11) (v := .ref (a 0)) (C := RX11) (T := TX11) (N := 49) hx hb hg inGX11 hown hKN.1 hP 0 rfl rfl 0 (by decide) (hg _ kw_1208) (fun _ h9 => h9) rfl dX11_make_185 ?_
                    refine lv_iconst (v := 1) hx hb dX11_make_188 (by decide) ?_
                    refine va_iald hx hb hKN.1 hP 1 0 rfl rfl (show ¬ ((1 : Int32) < 0 ∨ 7533 ≤ (1 : Int32).toNatClampNeg) by decide) dX11_make_189 ?_
                    refine lv_topi (fun v2492 ev2492 => ?_)
                    have ev2492 : v2492 = f898 1 := ev2492
                    have kv2492 := TO_1 hp1764
                    rw [← ev2492] at kv2492
                    have qv2492 := congrArg Int32.toInt ev2492
                    refine lv_icmp_ge (tgt := 244) hx hb dX11_make_190 (by decide) (fun c2539 => ?_) (fun c2539 => ?_)
                    · skip
                      have c2539 := i_le (Eq.refl v2492.toInt) (Eq.refl g2395.toInt) c2539
                      refine lv_lload hx hb dX11_make_244 (lv_at hl 4 rfl) ?_
                      refine lv_ldc2 (v := 1103515245) hx hb hown (hg _ kw_1642) dX11_make_246 ?_
                      refine lv_lmul hx hb dX11_make_249 ?_
                      refine lv_topl (fun v2540 ev2540 => ?_)
                      refine lv_ldc2 (v := 12345) hx hb hown (hg _ kw_1643) dX11_make_250 ?_
                      refine lv_ladd hx hb dX11_make_253 ?_
                      refine lv_topl (fun v2541 ev2541 => ?_)
                      refine lv_ldc2 (v := 2147483648) hx hb hown (hg _ kw_1644) dX11_make_254 ?_
                      have zl2147483648 : (2147483648 : Int64).toInt = 2147483648 := by decide
                      refine lv_lrem hx hb dX11_make_257 (l_nz (show (2147483648 : Int64).toInt = 2147483648 by decide) (by omega)) ?_
                      refine lv_topl (fun v2542 ev2542 => ?_)
                      have hv2542 := l_remS (Eq.refl v2541.toInt) (show (2147483648 : Int64).toInt = 2147483648 by decide) ev2542 (by omega)
                      refine lv_lstore (lv' := [(6, .long v2542), (12, .int g2395), (11, .int g2243), (9, .long g2396), (8, .int g895), (0, .ref o), (1, .int p1), (2, .int p2), (3, .int p3), (4, .int p4), (5, .int p5)]) hx hb dX11_make_258 hl (by decide) rfl (fun ls hl => ?_)
                      refine lv_lload hx hb dX11_make_260 (lv_at hl 3 rfl) ?_
                      refine lv_lload hx hb dX11_make_262 (lv_at hl 0 rfl) ?_
                      refine lv_ldc2 (v := 65536) hx hb hown (hg _ kw_1645) dX11_make_264 ?_
                      have zl65536 : (65536 : Int64).toInt = 65536 := by decide
                      refine lv_ldiv hx hb dX11_make_267 (l_nz (show (65536 : Int64).toInt = 65536 by decide) (by omega)) ?_
                      refine lv_topl (fun v2543 ev2543 => ?_)
                      have hv2543 := l_divS (Eq.refl v2542.toInt) (show (65536 : Int64).toInt = 65536 by decide) ev2543 (by omega)
                      refine lv_ldc2 (v := 2) hx hb hown (hg _ kw_1443) dX11_make_268 ?_
                      refine lv_aload_n hx hb dX11_make_271 rfl (lv_at hl 5 rfl) ?_
                      refine va_get (D := D) (ci := 11) (v := .ref (a 9)) (C := RX11) (T := TX11) (N := 49) hx hb hg inGX11 hown hKN.1 hP 0 rfl rfl 9 (by decide) (hg _ kw_1217) (fun _ h9 => h9) rfl dX11_make_272 ?_
                      refine lv_iload_n hx hb dX11_make_275 rfl (lv_at hl 6 rfl) ?_
                      refine va_iald hx hb hKN.1 hP 9 0 rfl rfl (vp_in_iff.mpr ⟨by omega, by omega⟩) dX11_make_276 ?_
                      refine lv_topi (fun v2544 ev2544 => ?_)
                      have ev2544 : v2544 = (F 9) p1.toNatClampNeg := ev2544
                      have qv2544 := congrArg Int32.toInt ev2544
                      have kv2544 := TX_no hk1 (i := p1) (by omega) (by omega)
                      have j2545 := Int32.toInt_toInt64 v2544
                      refine lv_i2l (v := v2544.toInt64) hx hb dX11_make_277 (rfl) ?_
                      refine lv_lmul hx hb dX11_make_278 ?_
                      refine lv_topl (fun v2546 ev2546 => ?_)
                      have hv2546 := l_mul (show (2 : Int64).toInt = 2 by decide) (Int32.toInt_toInt64 v2544) ev2546 (by omega) (by omega)
                      refine lv_lconst (v := 1) hx hb dX11_make_279 (by decide) ?_
                      refine lv_ladd hx hb dX11_make_280 ?_
                      refine lv_topl (fun v2547 ev2547 => ?_)
                      have hv2547 := l_add (Eq.refl v2546.toInt) (show (1 : Int64).toInt = 1 by decide) ev2547 (by omega) (by omega)
                      refine lv_lrem hx hb dX11_make_281 (l_nz (Eq.refl v2547.toInt) (by omega)) ?_
                      refine lv_topl (fun v2548 ev2548 => ?_)
                      have hv2548 := l_remS (Eq.refl v2543.toInt) (Eq.refl v2547.toInt) ev2548 (by omega)
                      refine lv_aload_n hx hb dX11_make_282 rfl (lv_at hl 5 rfl) ?_
                      refine va_get (D := D) (ci := 11) (v := .ref (a 9)) (C := RX11) (T := TX11) (N := 49) hx hb hg inGX11 hown hKN.1 hP 0 rfl rfl 9 (by decide) (hg _ kw_1217) (fun _ h9 => h9) rfl dX11_make_283 ?_
                      refine lv_iload_n hx hb dX11_make_286 rfl (lv_at hl 6 rfl) ?_
                      refine va_iald hx hb hKN.1 hP 9 0 rfl rfl (vp_in_iff.mpr ⟨by omega, by omega⟩) dX11_make_287 ?_
                      refine lv_topi (fun v2549 ev2549 => ?_)
                      have ev2549 : v2549 = (F 9) p1.toNatClampNeg := ev2549
                      have qv2549 := congrArg Int32.toInt ev2549
                      have kv2549 := TX_no hk1 (i := p1) (by omega) (by omega)
                      have j2550 := Int32.toInt_toInt64 v2549
                      refine lv_i2l (v := v2549.toInt64) hx hb dX11_make_288 (rfl) ?_
                      refine lv_lsub hx hb dX11_make_289 ?_
                      refine lv_topl (fun v2551 ev2551 => ?_)
                      have hv2551 := l_sub (Eq.refl v2548.toInt) (Int32.toInt_toInt64 v2549) ev2551 (by omega) (by omega)
                      refine lv_ladd hx hb dX11_make_290 ?_
                      refine lv_topl (fun v2552 ev2552 => ?_)
                      refine lv_lstore (lv' := [(9, .long v2552), (6, .long v2542), (12, .int g2395), (11, .int g2243), (8, .int g895), (0, .ref o), (1, .int p1), (2, .int p2), (3, .int p3), (4, .int p4), (5, .int p5)]) hx hb dX11_make_291 hl (by decide) rfl (fun ls hl => ?_)
                      refine lv_aload_n hx hb dX11_make_293 rfl (lv_at hl 5 rfl) ?_
                      refine va_get (D := D) (ci := 11) (v := .ref (a 0)) (C := RX11) (T := TX11) (N := 49) hx hb hg inGX11 hown hKN.1 hP 0 rfl rfl 0 (by decide) (hg _ kw_1208) (fun _ h9 => h9) rfl dX11_make_294 ?_
                      refine lv_sipush (v := 315) hx hb dX11_make_297 (by decide) ?_
                      refine lv_sipush (v := 600) hx hb dX11_make_300 (by decide) ?_
                      refine lv_iload_n hx hb dX11_make_303 rfl (lv_at hl 7 rfl) ?_
                      refine lv_imul hx hb dX11_make_304 ?_
                      refine lv_topi (fun v2553 ev2553 => ?_)
                      have hv2553 := i_mul (show (600 : Int32).toInt = 600 by decide) (Eq.refl p2.toInt) ev2553 (by omega) (by omega)
                      refine lv_iadd hx hb dX11_make_305 ?_
                      refine lv_topi (fun v2554 ev2554 => ?_)
                      have hv2554 := i_add (show (315 : Int32).toInt = 315 by decide) (Eq.refl v2553.toInt) ev2554 (by omega) (by omega)
                      refine lv_iload hx hb dX11_make_306 (lv_at hl 4 rfl) ?_
                      refine lv_iadd hx hb dX11_make_308 ?_
                      refine lv_topi (fun v2555 ev2555 => ?_)
                      have hv2555 := i_add (Eq.refl v2554.toInt) (Eq.refl g895.toInt) ev2555 (by omega) (by omega)
                      refine lv_lload hx hb dX11_make_309 (lv_at hl 0 rfl) ?_
                      refine lv_ldc2 (v := (-30000)) hx hb hown (hg _ kw_1379) dX11_make_311 ?_
                      refine lv_ldc2 (v := 30000) hx hb hown (hg _ kw_1380) dX11_make_314 ?_
                      have zlm30000 : ((-30000) : Int64).toInt = -30000 := by decide
                      have zl30000 : (30000 : Int64).toInt = 30000 := by decide
                      refine cg0 (rn_S (As := [.long v2552, .long (-30000), .long 30000]) (rest := [.int v2555, .ref (a 0)]) (m_heldF l D Y Z H.size   v2552 ) ⟨hx, hb, hml, hown, hg⟩ lk_X11_148 ⟨CP.blind, CP.at nilP hKN (nilD (A := fun _ => True))⟩ ⟨⟨rfl, rfl⟩, ⟨Nat.le_of_ble_eq_true rfl, Nat.le_of_ble_eq_true rfl⟩, ⟨Nat.le_of_ble_eq_true rfl, Nat.le_of_ble_eq_true rfl⟩⟩ hl.1 rfl (Nat.le_of_ble_eq_true rfl) dX11_make_317) hP hS hA (fun u2556 H locs w2557 hP hS => ?_)
                      have hw2559 : (-30000 ≤ u2556.toInt ∧ u2556.toInt ≤ 30000) := w2557
                      clear w2557
                      refine W.eq (g2 := F0 m 320 ls [.long u2556, .int v2555, .ref (a 0)]) rfl ?_
                      refine lv_l2i (v := u2556.toInt32) hx hb dX11_make_320 rfl ?_
                      refine lv_topi (fun v2560 ev2560 => ?_)
                      have hv2560 := l_i (Eq.refl u2556.toInt) ev2560 (by omega) (by omega)
                      refine va_iast hx hb hKN.1 hP hD hS 1 0 rfl rfl (vp_in_iff.mpr ⟨by omega, by omega⟩) dX11_make_321 (fun H locs hP hD hS => ?_)
                      obtain ⟨f2561, ef2561, hP, hD⟩ : ∃ f2561 : Nat → Int32, f2561 = upd f898 v2555.toNatClampNeg v2560 ∧ va_P D vwCl (MW Y o a (upd I 26 g2301) J (vf_upd F 0 f2561) (vf_upd (vf_upd G 25 f2302) 27 f2218)) H ∧ va_D A (MW Y o a (upd I 26 g2301) J (vf_upd F 0 f2561) (vf_upd (vf_upd G 25 f2302) 27 f2218)) := ⟨_, rfl, hP, hD⟩
                      have ct2562 := clampI (x := v2555) (by omega)
                      have t2562 : TO f2561 := by rw [ef2561]; exact TO_set hp1764 (by unfold trow; omega) (by omega) (by omega) (by omega) (by omega)
                      obtain ⟨v2563, ev2563⟩ : ∃ y : Int32, y = g895 + 1 := ⟨_, rfl⟩
                      have hv2563 := i_add (Eq.refl g895.toInt) (show (1 : Int32).toInt = 1 by decide) ev2563 (by omega) (by omega)
                      refine lv_iinc (v := v2563) (lv' := [(8, .int v2563), (9, .long v2552), (6, .long v2542), (12, .int g2395), (11, .int g2243), (0, .ref o), (1, .int p1), (2, .int p2), (3, .int p3), (4, .int p4), (5, .int p5)]) hx hb dX11_make_322 hl (k := 4) rfl (by rw [ev2563]; rfl) (by decide) rfl (fun ls hl => ?_)
                      refine lv_goto (tgt := 54) hx hb dX11_make_325 (by decide) ?_
                      exact ih1765 (v2563, v2542, g2301, f2561, f2302, f2218) H locs ls (by show (600 - v2563.toInt).toNat < (600 - g895.toInt).toNat; omega) ⟨hP, hD, hS, lv_sub hl [0, 2, 5, 6, 7, 8, 9, 10] rfl, by omega, t2562⟩
                    · skip
                      have c2539 := i_nle (Eq.refl v2492.toInt) (Eq.refl g2395.toInt) c2539
                      refine lv_aload_n hx hb dX11_make_193 rfl (lv_at hl 5 rfl) ?_
                      refine lv_iload hx hb dX11_make_194 (lv_at hl 0 rfl) ?_
                      refine lv_iconst (v := 0) hx hb dX11_make_196 (by decide) ?_
                      refine cga (rn_V (As := [.int g2395, .int 0]) (rest := []) (b := o) (m_worldOf0 l D Y Z H.size o a (upd I 26 g2301) J (vf_upd F 0 f898) (vf_upd (vf_upd G 25 f2302) 27 f2218)  g2395 (show (0 ≤ g2395.toInt ∧ g2395.toInt ≤ 39) by omega) hp1764) ⟨hx, hb, hml, hown, hg⟩ lk_X11_166 ⟨CP.blind, va_recv hKN.1 hP (ci := 11) (q0 := 0) rfl rfl, CP.at hP hKN hD⟩ ⟨⟨rfl, rfl⟩, ⟨Nat.le_of_ble_eq_true rfl, Nat.le_of_ble_eq_true rfl⟩, ⟨Nat.le_of_ble_eq_true rfl, Nat.le_of_ble_eq_true rfl⟩⟩ hl.1 rfl (Nat.le_of_ble_eq_true rfl) dX11_make_197) hP hD hS hA (fun u2564 H locs w2565 hP hD hS => ?_)
                      have hw2567 : (0 ≤ u2564.toInt ∧ u2564.toInt ≤ 11) := w2565
                      clear w2565
                      refine W.eq (g2 := F0 m 200 ls [.int u2564]) rfl ?_
                      have hP : va_P D vwCl (MW Y o a (upd I 26 g2301) J (vf_upd F 0 f898) (vf_upd (vf_upd G 25 f2302) 27 f2218)) H := hP
                      have hD : va_D A (MW Y o a (upd I 26 g2301) J (vf_upd F 0 f898) (vf_upd (vf_upd G 25 f2302) 27 f2218)) := hD
                      refine lv_iload_n hx hb dX11_make_200 rfl (lv_at hl 7 rfl) ?_
                      refine w_join (σ := Int64) (pcJ := 238) (kJ := 0) (nJ := 0) (stk := fun xx => match xx with | g2587 => []) (fun xx H locs ls => match xx with | g2587 => va_P D vwCl (MW Y o a (upd I 26 g2301) J (vf_upd F 0 f898) (vf_upd (vf_upd G 25 f2302) 27 f2218)) H ∧ va_D A (MW Y o a (upd I 26 g2301) J (vf_upd F 0 f898) (vf_upd (vf_upd G 25 f2302) 27 f2218)) ∧ va_S A s.heap H locs ∧ lv_has ls 13 [(12, .int g2395), (11, .int g2243), (9, .long g2587), (8, .int g895), (6, .long g896), (0, .ref o), (1, .int p1), (2, .int p2), (3, .int p3), (4, .int p4), (5, .int p5)]) (fun xx H locs ls hI => ?_) (fun jn2588 => ?_)
                      · skip
                        revert hI
                        generalize xx = g2587
                        intro hI
                        obtain ⟨hP, hD, hS, hl⟩ := hI
                        refine W.eq (g2 := F0 m 238 ls []) rfl ?_
                        obtain ⟨v2589, ev2589⟩ : ∃ y : Int32, y = g2395 + 1 := ⟨_, rfl⟩
                        have hv2589 := i_add (Eq.refl g2395.toInt) (show (1 : Int32).toInt = 1 by decide) ev2589 (by omega) (by omega)
                        refine lv_iinc (v := v2589) (lv' := [(12, .int v2589), (11, .int g2243), (9, .long g2587), (8, .int g895), (6, .long g896), (0, .ref o), (1, .int p1), (2, .int p2), (3, .int p3), (4, .int p4), (5, .int p5)]) hx hb dX11_make_238 hl (k := 0) rfl (by rw [ev2589]; rfl) (by decide) rfl (fun ls hl => ?_)
                        refine lv_goto (tgt := 182) hx hb dX11_make_241 (by decide) ?_
                        exact ih2491 (v2589, g2587) H locs ls (by show (40 - v2589.toInt).toNat < (40 - g2395.toInt).toNat; omega) ⟨hP, hD, hS, lv_sub hl [0, 1, 2, 3, 4, 5, 6, 7, 8, 9, 10] rfl, by omega⟩
                      · skip
                        refine lv_icmp_ne (tgt := 238) hx hb dX11_make_201 (by decide) (fun c2590 => ?_) (fun c2590 => ?_)
                        · skip
                          have c2590 := i_ne (Eq.refl u2564.toInt) (Eq.refl p2.toInt) c2590
                          refine W.widen (k := 0) (n := 0) (Nat.le_of_ble_eq_true rfl) (Nat.le_of_ble_eq_true rfl) ?_
                          exact jn2588 (g2396) H locs ls ⟨hP, hD, hS, lv_sub hl [0, 1, 2, 3, 4, 5, 6, 7, 8, 9, 10] rfl⟩
                        · skip
                          have c2590 := i_eq (Eq.refl u2564.toInt) (Eq.refl p2.toInt) c2590
                          refine lv_aload_n hx hb dX11_make_204 rfl (lv_at hl 5 rfl) ?_
                          refine lv_iload hx hb dX11_make_205 (lv_at hl 0 rfl) ?_
                          refine lv_iconst (v := 5) hx hb dX11_make_207 (by decide) ?_
                          have zi5 : (5 : Int32).toInt = 5 := by decide
                          refine cga (rn_V (As := [.int g2395, .int 5]) (rest := []) (b := o) (m_worldOf5 l D Y Z H.size o a (upd I 26 g2301) J (vf_upd F 0 f898) (vf_upd (vf_upd G 25 f2302) 27 f2218)  g2395 (show (0 ≤ g2395.toInt ∧ g2395.toInt ≤ 39) by omega) hp1764) ⟨hx, hb, hml, hown, hg⟩ lk_X11_166 ⟨CP.blind, va_recv hKN.1 hP (ci := 11) (q0 := 0) rfl rfl, CP.at hP hKN hD⟩ ⟨⟨rfl, rfl⟩, ⟨Nat.le_of_ble_eq_true rfl, Nat.le_of_ble_eq_true rfl⟩, ⟨Nat.le_of_ble_eq_true rfl, Nat.le_of_ble_eq_true rfl⟩⟩ hl.1 rfl (Nat.le_of_ble_eq_true rfl) dX11_make_208) hP hD hS hA (fun u2591 H locs w2592 hP hD hS => ?_)
                          have hw2594 : (0 ≤ u2591.toInt ∧ u2591.toInt ≤ 30000) := w2592
                          clear w2592
                          refine W.eq (g2 := F0 m 211 ls [.int u2591]) rfl ?_
                          have hP : va_P D vwCl (MW Y o a (upd I 26 g2301) J (vf_upd F 0 f898) (vf_upd (vf_upd G 25 f2302) 27 f2218)) H := hP
                          have hD : va_D A (MW Y o a (upd I 26 g2301) J (vf_upd F 0 f898) (vf_upd (vf_upd G 25 f2302) 27 f2218)) := hD
                          refine lv_if_ne (tgt := 238) hx hb dX11_make_211 (by decide) (fun c2595 => ?_) (fun c2595 => ?_)
                          · skip
                            have c2595 := i_ne (Eq.refl u2591.toInt) (show (0 : Int32).toInt = 0 by decide) c2595
                            refine W.widen (k := 0) (n := 0) (Nat.le_of_ble_eq_true rfl) (Nat.le_of_ble_eq_true rfl) ?_
                            exact jn2588 (g2396) H locs ls ⟨hP, hD, hS, lv_sub hl [0, 1, 2, 3, 4, 5, 6, 7, 8, 9, 10] rfl⟩
                          · skip
                            have c2595 := i_eq (Eq.refl u2591.toInt) (show (0 : Int32).toInt = 0 by decide) c2595
                            refine lv_aload_n hx hb dX11_make_214 rfl (lv_at hl 5 rfl) ?_
                            refine lv_iload hx hb dX11_make_215 (lv_at hl 0 rfl) ?_
                            refine lv_iload hx hb dX11_make_217 (lv_at hl 3 rfl) ?_
                            refine cga (rn_V (As := [.int g2395, .int g895]) (rest := []) (b := o) (m_isDip l D Y Z H.size o a (upd I 26 g2301) J (vf_upd F 0 f898) (vf_upd (vf_upd G 25 f2302) 27 f2218)  g2395 g895 (show (0 ≤ g2395.toInt ∧ g2395.toInt ≤ 39) by omega) (show (0 ≤ g895.toInt ∧ g895.toInt ≤ 599) by omega) (show (g2395.toInt < (f898 1).toInt) by omega) hp1764) ⟨hx, hb, hml, hown, hg⟩ lk_X11_380 ⟨CP.blind, va_recv hKN.1 hP (ci := 11) (q0 := 0) rfl rfl, CP.at hP hKN hD⟩ ⟨⟨rfl, rfl⟩, ⟨Nat.le_of_ble_eq_true rfl, Nat.le_of_ble_eq_true rfl⟩, ⟨Nat.le_of_ble_eq_true rfl, Nat.le_of_ble_eq_true rfl⟩⟩ hl.1 rfl (Nat.le_of_ble_eq_true rfl) dX11_make_219) hP hD hS hA (fun u2596 H locs w2597 hP hD hS => ?_)
                            have hw2599 : (0 ≤ u2596.toInt ∧ u2596.toInt ≤ 1) := w2597
                            clear w2597
                            refine W.eq (g2 := F0 m 222 ls [.int u2596]) rfl ?_
                            have hP : va_P D vwCl (MW Y o a (upd I 26 g2301) J (vf_upd F 0 f898) (vf_upd (vf_upd G 25 f2302) 27 f2218)) H := hP
                            have hD : va_D A (MW Y o a (upd I 26 g2301) J (vf_upd F 0 f898) (vf_upd (vf_upd G 25 f2302) 27 f2218)) := hD
                            rcases (show u2596.toInt = 1 ∨ u2596.toInt = 0 by omega) with c2600 | c2600
                            · obtain rfl : u2596 = 1 := i_is c2600 (by decide)
                              refine W.eq (g2 := F0 m 222 ls [.int 1]) rfl ?_
                              refine lv_if_eq (tgt := 238) hx hb dX11_make_222 (by decide) (fun c2601 => ?_) (fun c2601 => ?_)
                              · exact absurd c2601 (by decide)
                              refine lv_lload hx hb dX11_make_225 (lv_at hl 2 rfl) ?_
                              refine lv_aload_n hx hb dX11_make_227 rfl (lv_at hl 5 rfl) ?_
                              refine lv_iload hx hb dX11_make_228 (lv_at hl 0 rfl) ?_
                              refine lv_iconst (v := 4) hx hb dX11_make_230 (by decide) ?_
                              have zi4 : (4 : Int32).toInt = 4 := by decide
                              refine cga (rn_V (As := [.int g2395, .int 4]) (rest := [.long g2396]) (b := o) (m_worldOf4 l D Y Z H.size o a (upd I 26 g2301) J (vf_upd F 0 f898) (vf_upd (vf_upd G 25 f2302) 27 f2218)  g2395 (show (0 ≤ g2395.toInt ∧ g2395.toInt ≤ 39) by omega) hp1764) ⟨hx, hb, hml, hown, hg⟩ lk_X11_166 ⟨CP.blind, va_recv hKN.1 hP (ci := 11) (q0 := 0) rfl rfl, CP.at hP hKN hD⟩ ⟨⟨rfl, rfl⟩, ⟨Nat.le_of_ble_eq_true rfl, Nat.le_of_ble_eq_true rfl⟩, ⟨Nat.le_of_ble_eq_true rfl, Nat.le_of_ble_eq_true rfl⟩⟩ hl.1 rfl (Nat.le_of_ble_eq_true rfl) dX11_make_231) hP hD hS hA (fun u2602 H locs w2603 hP hD hS => ?_)
                              have hw2605 : (0 ≤ u2602.toInt ∧ u2602.toInt ≤ 30000) := w2603
                              clear w2603
                              refine W.eq (g2 := F0 m 234 ls [.int u2602, .long g2396]) rfl ?_
                              have hP : va_P D vwCl (MW Y o a (upd I 26 g2301) J (vf_upd F 0 f898) (vf_upd (vf_upd G 25 f2302) 27 f2218)) H := hP
                              have hD : va_D A (MW Y o a (upd I 26 g2301) J (vf_upd F 0 f898) (vf_upd (vf_upd G 25 f2302) 27 f2218)) := hD
                              have j2606 := Int32.toInt_toInt64 u2602
                              refine lv_i2l (v := u2602.toInt64) hx hb dX11_make_234 (rfl) ?_
                              refine lv_lsub hx hb dX11_make_235 ?_
                              refine lv_topl (fun v2607 ev2607 => ?_)
                              refine lv_lstore (lv' := [(9, .long v2607), (12, .int g2395), (11, .int g2243), (8, .int g895), (6, .long g896), (0, .ref o), (1, .int p1), (2, .int p2), (3, .int p3), (4, .int p4), (5, .int p5)]) hx hb dX11_make_236 hl (by decide) rfl (fun ls hl => ?_)
                              refine W.widen (k := 0) (n := 0) (Nat.le_of_ble_eq_true rfl) (Nat.le_of_ble_eq_true rfl) ?_
                              exact jn2588 (v2607) H locs ls ⟨hP, hD, hS, lv_sub hl [1, 2, 0, 3, 4, 5, 6, 7, 8, 9, 10] rfl⟩
                            · obtain rfl : u2596 = 0 := i_is c2600 (by decide)
                              refine W.eq (g2 := F0 m 222 ls [.int 0]) rfl ?_
                              refine lv_if_eq (tgt := 238) hx hb dX11_make_222 (by decide) (fun c2608 => ?_) (fun c2608 => ?_)
                              rotate_left
                              · exact absurd c2608 (by decide)
                              refine W.widen (k := 0) (n := 0) (Nat.le_of_ble_eq_true rfl) (Nat.le_of_ble_eq_true rfl) ?_
                              exact jn2588 (g2396) H locs ls ⟨hP, hD, hS, lv_sub hl [0, 1, 2, 3, 4, 5, 6, 7, 8, 9, 10] rfl⟩
                  · skip
                    refine lv_icmp_ge (tgt := 179) hx hb dX11_make_158 (by decide) (fun c2609 => ?_) (fun c2609 => ?_)
                    · skip
                      have c2609 := i_le (Eq.refl v2289.toInt) (Eq.refl g2243.toInt) c2609
                      have zl0 : (0 : Int64).toInt = 0 := by decide
                      refine W.widen (k := 0) (n := 0) (Nat.le_of_ble_eq_true rfl) (Nat.le_of_ble_eq_true rfl) ?_
                      exact jn2303 (0, g2286, f2287) H locs ls ⟨hP, hD, hS, lv_sub hl [0, 1, 2, 3, 4, 5, 6, 7, 8, 9] rfl⟩
                    · skip
                      have c2609 := i_nle (Eq.refl v2289.toInt) (Eq.refl g2243.toInt) c2609
                      refine lv_aload_n hx hb dX11_make_161 rfl (lv_at hl 4 rfl) ?_
                      refine lv_iload_n hx hb dX11_make_162 rfl (lv_at hl 5 rfl) ?_
                      refine lv_iload hx hb dX11_make_163 (lv_at hl 0 rfl) ?_
                      refine cga (rn_V (As := [.int p1, .int g2243]) (rest := []) (b := o) (m_summed l D Y Z H.size o a (upd I 26 g2286) J (vf_upd F 0 f898) (vf_upd (vf_upd G 25 f2287) 27 f2218)  p1 g2243 (show (0 ≤ p1.toInt ∧ p1.toInt ≤ 17) by omega) (show (0 ≤ g2243.toInt ∧ g2243.toInt ≤ 11) by omega) (show CLok (F 7) (F 5) (p1.toInt).toNat (g2243.toInt).toNat 400 from (kv22892 g2243.toInt.toNat (by omega)))) ⟨hx, hb, hml, hown, hg⟩ lk_X11_372 ⟨CP.blind, va_recv hKN.1 hP (ci := 11) (q0 := 0) rfl rfl, CP.at hP hKN hD⟩ ⟨⟨rfl, rfl⟩, ⟨Nat.le_of_ble_eq_true rfl, Nat.le_of_ble_eq_true rfl⟩, ⟨Nat.le_of_ble_eq_true rfl, Nat.le_of_ble_eq_true rfl⟩⟩ hl.1 rfl (Nat.le_of_ble_eq_true rfl) dX11_make_165) hP hD hS hA (fun u2610 H locs w2611 hP hD hS => ?_)
                      obtain ⟨u2612, u2613, f2614⟩ := u2610
                      refine W.eq (g2 := F0 m 168 ls [.long u2612]) rfl ?_
                      have hP : va_P D vwCl (MW Y o a (upd I 26 u2613) J (vf_upd F 0 f898) (vf_upd (vf_upd G 25 f2614) 27 f2218)) H := hP
                      have hD : va_D A (MW Y o a (upd I 26 u2613) J (vf_upd F 0 f898) (vf_upd (vf_upd G 25 f2614) 27 f2218)) := hD
                      refine lv_ldc2 (v := (-20000)) hx hb hown (hg _ kw_1632) dX11_make_168 ?_
                      refine lv_ldc2 (v := 20000) hx hb hown (hg _ kw_1633) dX11_make_171 ?_
                      have zlm20000 : ((-20000) : Int64).toInt = -20000 := by decide
                      have zl20000 : (20000 : Int64).toInt = 20000 := by decide
                      refine cg0 (rn_S (As := [.long u2612, .long (-20000), .long 20000]) (rest := []) (m_held l D Y Z H.size   u2612 (-20000) 20000 (show (((-20000) : Int64).toInt ≤ (20000 : Int64).toInt) by omega)) ⟨hx, hb, hml, hown, hg⟩ lk_X11_148 ⟨CP.blind, CP.at nilP hKN (nilD (A := fun _ => True))⟩ ⟨⟨rfl, rfl⟩, ⟨Nat.le_of_ble_eq_true rfl, Nat.le_of_ble_eq_true rfl⟩, ⟨Nat.le_of_ble_eq_true rfl, Nat.le_of_ble_eq_true rfl⟩⟩ hl.1 rfl (Nat.le_of_ble_eq_true rfl) dX11_make_174) hP hS hA (fun u2615 H locs w2616 hP hS => ?_)
                      have hw2618 : (((-20000) : Int64).toInt ≤ u2615.toInt ∧ u2615.toInt ≤ (20000 : Int64).toInt) := w2616
                      clear w2616
                      refine W.eq (g2 := F0 m 177 ls [.long u2615]) rfl ?_
                      refine lv_lstore (lv' := [(9, .long u2615), (11, .int g2243), (8, .int g895), (6, .long g896), (0, .ref o), (1, .int p1), (2, .int p2), (3, .int p3), (4, .int p4), (5, .int p5)]) hx hb dX11_make_177 hl (by decide) rfl (fun ls hl => ?_)
                      refine W.widen (k := 0) (n := 0) (Nat.le_of_ble_eq_true rfl) (Nat.le_of_ble_eq_true rfl) ?_
                      exact jn2303 (u2615, u2613, f2614) H locs ls ⟨hP, hD, hS, lv_sub hl [1, 0, 2, 3, 4, 5, 6, 7, 8, 9] rfl⟩
                · skip
                  refine lv_icmp_ge (tgt := 150) hx hb dX11_make_131 (by decide) (fun c2619 => ?_) (fun c2619 => ?_)
                  · skip
                    have c2619 := i_le (Eq.refl v2274.toInt) (Eq.refl g2243.toInt) c2619
                    have zl0 : (0 : Int64).toInt = 0 := by decide
                    refine W.widen (k := 0) (n := 0) (Nat.le_of_ble_eq_true rfl) (Nat.le_of_ble_eq_true rfl) ?_
                    exact jn2288 (g2244, f2245) H locs ls ⟨hP, hD, hS, lv_sub hl [0, 1, 2, 3, 4, 5, 6, 7, 8, 9] rfl⟩
                  · skip
                    have c2619 := i_nle (Eq.refl v2274.toInt) (Eq.refl g2243.toInt) c2619
                    refine lv_aload_n hx hb dX11_make_134 rfl (lv_at hl 4 rfl) ?_
                    refine lv_iload_n hx hb dX11_make_135 rfl (lv_at hl 5 rfl) ?_
                    refine lv_iload hx hb dX11_make_136 (lv_at hl 0 rfl) ?_
                    refine cga (rn_V (As := [.int p1, .int g2243]) (rest := []) (b := o) (m_isHolding l D Y Z H.size o a (upd I 26 g2244) J (vf_upd F 0 f898) (vf_upd (vf_upd G 25 f2245) 27 f2218)  p1 g2243 (show (0 ≤ p1.toInt ∧ p1.toInt ≤ 17) by omega) (show (0 ≤ g2243.toInt ∧ g2243.toInt ≤ 11) by omega) (show CLok (F 7) (F 5) (p1.toInt).toNat (g2243.toInt).toNat 400 from (kv22742 g2243.toInt.toNat (by omega)))) ⟨hx, hb, hml, hown, hg⟩ lk_X11_369 ⟨CP.blind, va_recv hKN.1 hP (ci := 11) (q0 := 0) rfl rfl, CP.at hP hKN hD⟩ ⟨⟨rfl, rfl⟩, ⟨Nat.le_of_ble_eq_true rfl, Nat.le_of_ble_eq_true rfl⟩, ⟨Nat.le_of_ble_eq_true rfl, Nat.le_of_ble_eq_true rfl⟩⟩ hl.1 rfl (Nat.le_of_ble_eq_true rfl) dX11_make_138) hP hD hS hA (fun u2620 H locs w2621 hP hD hS => ?_)
                    obtain ⟨u2622, u2623, f2624⟩ := u2620
                    have hw2625 : (0 ≤ u2622.toInt ∧ u2622.toInt ≤ 1) := w2621
                    clear w2621
                    refine W.eq (g2 := F0 m 141 ls [.int u2622]) rfl ?_
                    have hP : va_P D vwCl (MW Y o a (upd I 26 u2623) J (vf_upd F 0 f898) (vf_upd (vf_upd G 25 f2624) 27 f2218)) H := hP
                    have hD : va_D A (MW Y o a (upd I 26 u2623) J (vf_upd F 0 f898) (vf_upd (vf_upd G 25 f2624) 27 f2218)) := hD
                    rcases (show u2622.toInt = 1 ∨ u2622.toInt = 0 by omega) with c2626 | c2626
                    · obtain rfl : u2622 = 1 := i_is c2626 (by decide)
                      refine W.eq (g2 := F0 m 141 ls [.int 1]) rfl ?_
                      refine lv_if_ne (tgt := 150) hx hb dX11_make_141 (by decide) (fun c2627 => ?_) (fun c2627 => ?_)
                      rotate_left
                      · exact absurd c2627 (by decide)
                      have zl0 : (0 : Int64).toInt = 0 := by decide
                      refine W.widen (k := 0) (n := 0) (Nat.le_of_ble_eq_true rfl) (Nat.le_of_ble_eq_true rfl) ?_
                      exact jn2288 (u2623, f2624) H locs ls ⟨hP, hD, hS, lv_sub hl [0, 1, 2, 3, 4, 5, 6, 7, 8, 9] rfl⟩
                    · obtain rfl : u2622 = 0 := i_is c2626 (by decide)
                      refine W.eq (g2 := F0 m 141 ls [.int 0]) rfl ?_
                      refine lv_if_ne (tgt := 150) hx hb dX11_make_141 (by decide) (fun c2628 => ?_) (fun c2628 => ?_)
                      · exact absurd c2628 (by decide)
                      obtain ⟨v2629, ev2629⟩ : ∃ y : Int32, y = g2243 + 1 := ⟨_, rfl⟩
                      have hv2629 := i_add (Eq.refl g2243.toInt) (show (1 : Int32).toInt = 1 by decide) ev2629 (by omega) (by omega)
                      refine lv_iinc (v := v2629) (lv' := [(11, .int v2629), (9, .long 0), (8, .int g895), (6, .long g896), (0, .ref o), (1, .int p1), (2, .int p2), (3, .int p3), (4, .int p4), (5, .int p5)]) hx hb dX11_make_144 hl (k := 0) rfl (by rw [ev2629]; rfl) (by decide) rfl (fun ls hl => ?_)
                      refine lv_goto (tgt := 123) hx hb dX11_make_147 (by decide) ?_
                      have zl0 : (0 : Int64).toInt = 0 := by decide
                      exact ih2273 (v2629, u2623, f2624) H locs ls (by show (12 - v2629.toInt).toNat < (12 - g2243.toInt).toNat; omega) ⟨hP, hD, hS, lv_sub hl [0, 1, 2, 3, 4, 5, 6, 7, 8, 9] rfl, by omega⟩
            · skip
              have c31 := i_nle (Eq.refl p4.toInt) (Eq.refl p5.toInt) c31
              refine lv_iconst (v := (-1)) hx hb dX11_make_44 (by decide) ?_
              refine W.widen (k := 0) (n := 0) (Nat.le_of_ble_eq_true rfl) (Nat.le_of_ble_eq_true rfl) ?_
              have zim1 : ((-1) : Int32).toInt = -1 := by decide
              exact W.iret (v := (-1)) hx hb hr (fun t ht hW => ⟨⟨((-1), (I 26), (G 25), (G 27), (F 0)), rfl, (hk0), CB.mk ht hP hD⟩, hS.F ht⟩) hS.2.2 dX11_make_45
          · obtain rfl : u24 = 0 := i_is c29 (by decide)
            refine W.eq (g2 := F0 m 34 ls [.int 0]) rfl ?_
            refine lv_if_eq (tgt := 44) hx hb dX11_make_34 (by decide) (fun c2630 => ?_) (fun c2630 => ?_)
            rotate_left
            · exact absurd c2630 (by decide)
            refine lv_iconst (v := (-1)) hx hb dX11_make_44 (by decide) ?_
            refine W.widen (k := 0) (n := 0) (Nat.le_of_ble_eq_true rfl) (Nat.le_of_ble_eq_true rfl) ?_
            have zim1 : ((-1) : Int32).toInt = -1 := by decide
            exact W.iret (v := (-1)) hx hb hr (fun t ht hW => ⟨⟨((-1), (I 26), (G 25), (G 27), (F 0)), rfl, (hk0), CB.mk ht hP hD⟩, hS.F ht⟩) hS.2.2 dX11_make_45
        · obtain rfl : u17 = 0 := i_is c22 (by decide)
          refine W.eq (g2 := F0 m 26 ls [.int 0]) rfl ?_
          refine lv_if_eq (tgt := 44) hx hb dX11_make_26 (by decide) (fun c2631 => ?_) (fun c2631 => ?_)
          rotate_left
          · exact absurd c2631 (by decide)
          refine lv_iconst (v := (-1)) hx hb dX11_make_44 (by decide) ?_
          refine W.widen (k := 0) (n := 0) (Nat.le_of_ble_eq_true rfl) (Nat.le_of_ble_eq_true rfl) ?_
          have zim1 : ((-1) : Int32).toInt = -1 := by decide
          exact W.iret (v := (-1)) hx hb hr (fun t ht hW => ⟨⟨((-1), (I 26), (G 25), (G 27), (F 0)), rfl, (hk0), CB.mk ht hP hD⟩, hS.F ht⟩) hS.2.2 dX11_make_45
    · obtain rfl : u8 = 0 := i_is c13 (by decide)
      refine W.eq (g2 := F0 m 14 ls [.int 0]) rfl ?_
      refine lv_if_eq (tgt := 44) hx hb dX11_make_14 (by decide) (fun c2632 => ?_) (fun c2632 => ?_)
      rotate_left
      · exact absurd c2632 (by decide)
      refine lv_iconst (v := (-1)) hx hb dX11_make_44 (by decide) ?_
      refine W.widen (k := 0) (n := 0) (Nat.le_of_ble_eq_true rfl) (Nat.le_of_ble_eq_true rfl) ?_
      have zim1 : ((-1) : Int32).toInt = -1 := by decide
      exact W.iret (v := (-1)) hx hb hr (fun t ht hW => ⟨⟨((-1), (I 26), (G 25), (G 27), (F 0)), rfl, (hk0), CB.mk ht hP hD⟩, hS.F ht⟩) hS.2.2 dX11_make_45
  · obtain rfl : u1 = 0 := i_is c6 (by decide)
    refine W.eq (g2 := F0 m 6 ls [.int 0]) rfl ?_
    refine lv_if_eq (tgt := 44) hx hb dX11_make_6 (by decide) (fun c2633 => ?_) (fun c2633 => ?_)
    rotate_left
    · exact absurd c2633 (by decide)
    refine lv_iconst (v := (-1)) hx hb dX11_make_44 (by decide) ?_
    refine W.widen (k := 0) (n := 0) (Nat.le_of_ble_eq_true rfl) (Nat.le_of_ble_eq_true rfl) ?_
    have zim1 : ((-1) : Int32).toInt = -1 := by decide
    exact W.iret (v := (-1)) hx hb hr (fun t ht hW => ⟨⟨((-1), (I 26), (G 25), (G 27), (F 0)), rfl, (hk0), CB.mk ht hP hD⟩, hS.F ht⟩) hS.2.2 dX11_make_45
set_option maxHeartbeats 4000000 in
set_option maxRecDepth 100000 in
theorem m_weighs (l : Launch) (D : va_G) (Y : Nat → ClassId) (Z : Nat → Nat) (sz : Nat) (o : Nat) (a : Nat → Nat) (I : Nat → Int32) (J : Nat → Int64) (F : Nat → Nat → Int32) (G : Nat → Nat → Int64) (p1 : Int32) (p2 : Int32) (p3 : Int32) (hk_0 : (0 ≤ p1.toInt ∧ p1.toInt ≤ 5)) (hk_1 : (p1.toInt < ((F 4) 2).toInt)) (hk_2 : (0 ≤ p2.toInt ∧ p2.toInt ≤ 5)) (hk_3 : (p2.toInt < ((F 4) 1).toInt)) (hk_4 : (0 ≤ p3.toInt ∧ p3.toInt ≤ 11)) (hk0 : TO (F 0)) (hk1 : LB (F 28)) (hk2 : TX (F 4) (F 9) (F 10) (F 11) (F 12) (F 13)) (hk3 : TC (F 4) (F 8) (F 7) (F 5)) (hk4 : WG (F 46)) : Met l yX11_weighs (.code yX11_weighs cX11_weighs 9 (some .boolean) :: GW) ({ frames := 8, cells := 0, slots := 0, locals := 195 }) (va_Pc [.ref o, .int p1, .int p2, .int p3] (CP D Y Z (MW Y o a I J F G) sz)) (QG (S := Int32 × Int32 × Int32 × Int32 × Int32 × Int64 × Int64 × Int32 × Int64 × Int64 × Int32 × Int64 × Int32 × (Nat → Int32) × (Nat → Int32) × (Nat → Int64) × (Nat → Int32) × (Nat → Int64) × (Nat → Int32) × (Nat → Int64) × (Nat → Int64) × (Nat → Int32)) (fun u => some (.int u.1)) (fun u => (0 ≤ u.1.toInt ∧ u.1.toInt ≤ 1) ∧ LB u.2.2.2.2.2.2.2.2.2.2.2.2.2.2.1 ∧ WG u.2.2.2.2.2.2.2.2.2.2.2.2.2.2.2.2.2.2.2.2.2) (fun u => CB D (MW Y o a (upd (upd (upd (upd (upd (upd (upd I 26 u.2.2.2.2.2.2.2.2.2.2.2.2.1) 29 u.2.2.2.2.2.2.2.1) 32 u.2.2.2.2.2.2.2.2.2.2.1) 34 u.2.1) 35 u.2.2.1) 36 u.2.2.2.1) 39 u.2.2.2.2.1) (vp_updL (vp_updL (vp_updL (vp_updL (vp_updL J 30 u.2.2.2.2.2.2.2.2.1) 31 u.2.2.2.2.2.2.2.2.2.1) 33 u.2.2.2.2.2.2.2.2.2.2.2.1) 37 u.2.2.2.2.2.1) 38 u.2.2.2.2.2.2.1) (vf_upd (vf_upd (vf_upd (vf_upd (vf_upd F 1 u.2.2.2.2.2.2.2.2.2.2.2.2.2.1) 28 u.2.2.2.2.2.2.2.2.2.2.2.2.2.2.1) 41 u.2.2.2.2.2.2.2.2.2.2.2.2.2.2.2.2.1) 43 u.2.2.2.2.2.2.2.2.2.2.2.2.2.2.2.2.2.2.1) 46 u.2.2.2.2.2.2.2.2.2.2.2.2.2.2.2.2.2.2.2.2.2) (vf_upd (vf_upd (vf_upd (vf_upd G 25 u.2.2.2.2.2.2.2.2.2.2.2.2.2.2.2.2.2.2.2.2.1) 27 u.2.2.2.2.2.2.2.2.2.2.2.2.2.2.2.2.2.2.2.1) 40 u.2.2.2.2.2.2.2.2.2.2.2.2.2.2.2.1) 42 u.2.2.2.2.2.2.2.2.2.2.2.2.2.2.2.2.2.1)) (va_A (MW Y o a I J F G) sz)) (va_A (MW Y o a I J F G) sz)) 0 0 (va_A (MW Y o a I J F G) sz) := by
  refine Met.ofW (cc := cX11_weighs) (maxL := 9) (ret := (some .boolean)) (by decide) rfl ?_
  intro p e s m args below meth c s₁ B hml hv
  obtain ⟨rfl, hsz, hP, hKN, hD0⟩ := hv
  have hx := B.exec
  have hb := B.bytes
  have hr := B.returns
  have hts := atoms_spec (ws := .code yX11_weighs cX11_weighs 9 (some .boolean) :: GW) B.pre
  have hg : ∀ w ∈ GW, w.before _ s = true := fun w h => hts w (List.mem_cons_of_mem _ h)
  have hown : s.vm.findClass RX11 = some m.cls := findClass_of_methodNamed B.named
  have hlocks := B.notSynchronized
  subst hsz
  have hD := hD0.self (sz := s.heap.size)
  generalize hAe : va_A (MW Y o a I J F G) s.heap.size = A at hD ⊢
  have hA : ∀ q : Nat, s.heap.size ≤ q → A q := fun q h => by rw [← hAe]; exact Or.inr h
  clear hAe hD0 hts B
  have hl := lv_entry ([.ref o, .int p1, .int p2, .int p3]) (n := 9) (Nat.le_of_ble_eq_true rfl)
  rw [lg_entry_eq]
  generalize (lg_sl ([.ref o, .int p1, .int p2, .int p3]) ++ List.replicate (9 - (lg_sl ([.ref o, .int p1, .int p2, .int p3])).length) Slot.unset).toArray = ls at hl ⊢
  have hl : lv_has ls 9 [(0, .ref o), (1, .int p1), (2, .int p2), (3, .int p3)] := hl
  refine w_start (A0 := A) hP (fun H locs hP hS => ?_)
  refine lv_aload_n hx hb dX11_weighs_0 rfl (lv_at hl 0 rfl) ?_
  refine lv_iload_n hx hb dX11_weighs_1 rfl (lv_at hl 2 rfl) ?_
  refine lv_iload_n hx hb dX11_weighs_2 rfl (lv_at hl 3 rfl) ?_
  refine lv_iconst (v := 0) hx hb dX11_weighs_3 (by decide) ?_
  have zi0 : (0 : Int32).toInt = 0 := by decide
  refine cga (rn_V (As := [.int p2, .int p3, .int 0]) (rest := []) (b := o) (m_finds l D Y Z H.size o a I J F G  p2 p3 0 (show (0 ≤ p2.toInt ∧ p2.toInt ≤ 5) by omega) (show (p2.toInt < ((F 4) 1).toInt) by omega) (show (0 ≤ p3.toInt ∧ p3.toInt ≤ 11) by omega) (show (0 ≤ (0 : Int32).toInt ∧ (0 : Int32).toInt ≤ 5) by omega) hk0 hk1 hk2) ⟨hx, hb, hml, hown, hg⟩ lk_X11_487 ⟨CP.blind, va_recv hKN.1 hP (ci := 11) (q0 := 0) rfl rfl, CP.at hP hKN hD⟩ ⟨⟨rfl, rfl⟩, ⟨Nat.le_of_ble_eq_true rfl, Nat.le_of_ble_eq_true rfl⟩, ⟨Nat.le_of_ble_eq_true rfl, Nat.le_of_ble_eq_true rfl⟩⟩ hl.1 rfl (Nat.le_of_ble_eq_true rfl) dX11_weighs_4) hP hD hS hA (fun u1 H locs w2 hP hD hS => ?_)
  obtain ⟨u3, u4, u5, u6, u7, u8, u9, u10, u11, u12, f13, f14, f15, f16, f17, f18⟩ := u1
  obtain ⟨hw19, hw20, hw21, hw22, hw23, hw24⟩ : ((u3.toInt = 1 ∧ 1 ≤ u9.toInt ∧ 2 ≤ u4.toInt ∧ u4.toInt ≤ 200 ∧ 1 ≤ u5.toInt ∧ u5.toInt ≤ 10 ∧ 0 ≤ u6.toInt ∧ u6.toInt < u4.toInt ∧ -9000000000000 ≤ u8.toInt ∧ u8.toInt ≤ 9000000000000 ∧ (cin f14 (u4.toInt).toNat (u5.toInt).toNat (u6.toInt).toNat 600 : Int) ≠ u10.toInt) ∨ u3.toInt = 0) ∧ (0 ≤ u3.toInt ∧ u3.toInt ≤ 1) ∧ (0 ≤ u10.toInt ∧ u10.toInt ≤ 600) ∧ (-60000000 ≤ u11.toInt ∧ u11.toInt ≤ 60000000) ∧ (1 ≤ u12.toInt) ∧ LB f14 := w2
  refine W.eq (g2 := F0 m 7 ls [.int u3]) rfl ?_
  have hP : va_P D vwCl (MW Y o a (upd (upd (upd (upd (upd I 29 u10) 34 u4) 35 u5) 36 u6) 39 u7) (vp_updL (vp_updL (vp_updL (vp_updL J 30 u11) 31 u12) 37 u8) 38 u9) (vf_upd (vf_upd (vf_upd (vf_upd F 1 f13) 28 f14) 41 f16) 43 f18) (vf_upd (vf_upd G 40 f15) 42 f17)) H := hP
  have hD : va_D A (MW Y o a (upd (upd (upd (upd (upd I 29 u10) 34 u4) 35 u5) 36 u6) 39 u7) (vp_updL (vp_updL (vp_updL (vp_updL J 30 u11) 31 u12) 37 u8) 38 u9) (vf_upd (vf_upd (vf_upd (vf_upd F 1 f13) 28 f14) 41 f16) 43 f18) (vf_upd (vf_upd G 40 f15) 42 f17)) := hD
  rcases (show u3.toInt = 1 ∨ u3.toInt = 0 by omega) with c25 | c25
  · obtain rfl : u3 = 1 := i_is c25 (by decide)
    have zi1 : (1 : Int32).toInt = 1 := by decide
    refine W.eq (g2 := F0 m 7 ls [.int 1]) rfl ?_
    refine lv_if_ne (tgt := 12) hx hb dX11_weighs_7 (by decide) (fun c26 => ?_) (fun c26 => ?_)
    rotate_left
    · exact absurd c26 (by decide)
    refine lv_aload_n hx hb dX11_weighs_12 rfl (lv_at hl 0 rfl) ?_
    refine va_get (D := D) (ci := 11) (v := .ref (a 27)) (C := RX11) (T := TX11) (N := 49) hx hb hg inGX11 hown hKN.1 hP 0 rfl rfl 27 (by decide) (hg _ kw_1235) (fun _ h9 => h9) rfl dX11_weighs_13 ?_
    refine lv_iconst (v := 0) hx hb dX11_weighs_16 (by decide) ?_
    refine lv_aload_n hx hb dX11_weighs_17 rfl (lv_at hl 0 rfl) ?_
    refine va_get (D := D) (ci := 11) (v := .int u4) (C := RX11) (T := TX11) (N := 49) hx hb hg inGX11 hown hKN.1 hP 0 rfl rfl 34 (by decide) (hg _ kw_1242) (fun _ h9 => h9) rfl dX11_weighs_18 ?_
    have j27 := Int32.toInt_toInt64 u4
    refine lv_i2l (v := u4.toInt64) hx hb dX11_weighs_21 (rfl) ?_
    refine va_last hx hb hKN.1 hP hD hS 18 1 rfl rfl (show ¬ ((0 : Int32) < 0 ∨ 10 ≤ (0 : Int32).toNatClampNeg) by decide) dX11_weighs_22 (fun H locs hP hD hS => ?_)
    obtain ⟨f28, ef28, hP, hD⟩ : ∃ f28 : Nat → Int64, f28 = vp_updL (G 27) 0 u4.toInt64 ∧ va_P D vwCl (MW Y o a (upd (upd (upd (upd (upd I 29 u10) 34 u4) 35 u5) 36 u6) 39 u7) (vp_updL (vp_updL (vp_updL (vp_updL J 30 u11) 31 u12) 37 u8) 38 u9) (vf_upd (vf_upd (vf_upd (vf_upd F 1 f13) 28 f14) 41 f16) 43 f18) (vf_upd (vf_upd (vf_upd G 27 f28) 40 f15) 42 f17)) H ∧ va_D A (MW Y o a (upd (upd (upd (upd (upd I 29 u10) 34 u4) 35 u5) 36 u6) 39 u7) (vp_updL (vp_updL (vp_updL (vp_updL J 30 u11) 31 u12) 37 u8) 38 u9) (vf_upd (vf_upd (vf_upd (vf_upd F 1 f13) 28 f14) 41 f16) 43 f18) (vf_upd (vf_upd (vf_upd G 27 f28) 40 f15) 42 f17)) := ⟨_, rfl, hP, hD⟩
    refine lv_aload_n hx hb dX11_weighs_23 rfl (lv_at hl 0 rfl) ?_
    refine va_get (D := D) (ci := 11) (v := .ref (a 27)) (C := RX11) (T := TX11) (N := 49) hx hb hg inGX11 hown hKN.1 hP 0 rfl rfl 27 (by decide) (hg _ kw_1235) (fun _ h9 => h9) rfl dX11_weighs_24 ?_
    refine lv_iconst (v := 1) hx hb dX11_weighs_27 (by decide) ?_
    refine lv_aload_n hx hb dX11_weighs_28 rfl (lv_at hl 0 rfl) ?_
    refine va_get (D := D) (ci := 11) (v := .int u5) (C := RX11) (T := TX11) (N := 49) hx hb hg inGX11 hown hKN.1 hP 0 rfl rfl 35 (by decide) (hg _ kw_1243) (fun _ h9 => h9) rfl dX11_weighs_29 ?_
    have j29 := Int32.toInt_toInt64 u5
    refine lv_i2l (v := u5.toInt64) hx hb dX11_weighs_32 (rfl) ?_
    refine va_last hx hb hKN.1 hP hD hS 18 1 rfl rfl (show ¬ ((1 : Int32) < 0 ∨ 10 ≤ (1 : Int32).toNatClampNeg) by decide) dX11_weighs_33 (fun H locs hP hD hS => ?_)
    obtain ⟨f30, ef30, hP, hD⟩ : ∃ f30 : Nat → Int64, f30 = vp_updL f28 1 u5.toInt64 ∧ va_P D vwCl (MW Y o a (upd (upd (upd (upd (upd I 29 u10) 34 u4) 35 u5) 36 u6) 39 u7) (vp_updL (vp_updL (vp_updL (vp_updL J 30 u11) 31 u12) 37 u8) 38 u9) (vf_upd (vf_upd (vf_upd (vf_upd F 1 f13) 28 f14) 41 f16) 43 f18) (vf_upd (vf_upd (vf_upd G 27 f30) 40 f15) 42 f17)) H ∧ va_D A (MW Y o a (upd (upd (upd (upd (upd I 29 u10) 34 u4) 35 u5) 36 u6) 39 u7) (vp_updL (vp_updL (vp_updL (vp_updL J 30 u11) 31 u12) 37 u8) 38 u9) (vf_upd (vf_upd (vf_upd (vf_upd F 1 f13) 28 f14) 41 f16) 43 f18) (vf_upd (vf_upd (vf_upd G 27 f30) 40 f15) 42 f17)) := ⟨_, rfl, hP, hD⟩
    refine lv_aload_n hx hb dX11_weighs_34 rfl (lv_at hl 0 rfl) ?_
    refine va_get (D := D) (ci := 11) (v := .ref (a 27)) (C := RX11) (T := TX11) (N := 49) hx hb hg inGX11 hown hKN.1 hP 0 rfl rfl 27 (by decide) (hg _ kw_1235) (fun _ h9 => h9) rfl dX11_weighs_35 ?_
    refine lv_iconst (v := 2) hx hb dX11_weighs_38 (by decide) ?_
    refine lv_aload_n hx hb dX11_weighs_39 rfl (lv_at hl 0 rfl) ?_
    refine va_get (D := D) (ci := 11) (v := .long u8) (C := RX11) (T := TX11) (N := 49) hx hb hg inGX11 hown hKN.1 hP 0 rfl rfl 37 (by decide) (hg _ kw_1245) (fun _ h9 => h9) rfl dX11_weighs_40 ?_
    refine va_last hx hb hKN.1 hP hD hS 18 1 rfl rfl (show ¬ ((2 : Int32) < 0 ∨ 10 ≤ (2 : Int32).toNatClampNeg) by decide) dX11_weighs_43 (fun H locs hP hD hS => ?_)
    obtain ⟨f31, ef31, hP, hD⟩ : ∃ f31 : Nat → Int64, f31 = vp_updL f30 2 u8 ∧ va_P D vwCl (MW Y o a (upd (upd (upd (upd (upd I 29 u10) 34 u4) 35 u5) 36 u6) 39 u7) (vp_updL (vp_updL (vp_updL (vp_updL J 30 u11) 31 u12) 37 u8) 38 u9) (vf_upd (vf_upd (vf_upd (vf_upd F 1 f13) 28 f14) 41 f16) 43 f18) (vf_upd (vf_upd (vf_upd G 27 f31) 40 f15) 42 f17)) H ∧ va_D A (MW Y o a (upd (upd (upd (upd (upd I 29 u10) 34 u4) 35 u5) 36 u6) 39 u7) (vp_updL (vp_updL (vp_updL (vp_updL J 30 u11) 31 u12) 37 u8) 38 u9) (vf_upd (vf_upd (vf_upd (vf_upd F 1 f13) 28 f14) 41 f16) 43 f18) (vf_upd (vf_upd (vf_upd G 27 f31) 40 f15) 42 f17)) := ⟨_, rfl, hP, hD⟩
    refine lv_aload_n hx hb dX11_weighs_44 rfl (lv_at hl 0 rfl) ?_
    refine va_get (D := D) (ci := 11) (v := .ref (a 27)) (C := RX11) (T := TX11) (N := 49) hx hb hg inGX11 hown hKN.1 hP 0 rfl rfl 27 (by decide) (hg _ kw_1235) (fun _ h9 => h9) rfl dX11_weighs_45 ?_
    refine lv_iconst (v := 3) hx hb dX11_weighs_48 (by decide) ?_
    refine lv_aload_n hx hb dX11_weighs_49 rfl (lv_at hl 0 rfl) ?_
    refine va_get (D := D) (ci := 11) (v := .long u9) (C := RX11) (T := TX11) (N := 49) hx hb hg inGX11 hown hKN.1 hP 0 rfl rfl 38 (by decide) (hg _ kw_1246) (fun _ h9 => h9) rfl dX11_weighs_50 ?_
    refine va_last hx hb hKN.1 hP hD hS 18 1 rfl rfl (show ¬ ((3 : Int32) < 0 ∨ 10 ≤ (3 : Int32).toNatClampNeg) by decide) dX11_weighs_53 (fun H locs hP hD hS => ?_)
    obtain ⟨f32, ef32, hP, hD⟩ : ∃ f32 : Nat → Int64, f32 = vp_updL f31 3 u9 ∧ va_P D vwCl (MW Y o a (upd (upd (upd (upd (upd I 29 u10) 34 u4) 35 u5) 36 u6) 39 u7) (vp_updL (vp_updL (vp_updL (vp_updL J 30 u11) 31 u12) 37 u8) 38 u9) (vf_upd (vf_upd (vf_upd (vf_upd F 1 f13) 28 f14) 41 f16) 43 f18) (vf_upd (vf_upd (vf_upd G 27 f32) 40 f15) 42 f17)) H ∧ va_D A (MW Y o a (upd (upd (upd (upd (upd I 29 u10) 34 u4) 35 u5) 36 u6) 39 u7) (vp_updL (vp_updL (vp_updL (vp_updL J 30 u11) 31 u12) 37 u8) 38 u9) (vf_upd (vf_upd (vf_upd (vf_upd F 1 f13) 28 f14) 41 f16) 43 f18) (vf_upd (vf_upd (vf_upd G 27 f32) 40 f15) 42 f17)) := ⟨_, rfl, hP, hD⟩
    refine lv_aload_n hx hb dX11_weighs_54 rfl (lv_at hl 0 rfl) ?_
    refine va_get (D := D) (ci := 11) (v := .ref (a 27)) (C := RX11) (T := TX11) (N := 49) hx hb hg inGX11 hown hKN.1 hP 0 rfl rfl 27 (by decide) (hg _ kw_1235) (fun _ h9 => h9) rfl dX11_weighs_55 ?_
    refine lv_iconst (v := 4) hx hb dX11_weighs_58 (by decide) ?_
    refine lv_aload_n hx hb dX11_weighs_59 rfl (lv_at hl 0 rfl) ?_
    refine va_get (D := D) (ci := 11) (v := .int u7) (C := RX11) (T := TX11) (N := 49) hx hb hg inGX11 hown hKN.1 hP 0 rfl rfl 39 (by decide) (hg _ kw_1247) (fun _ h9 => h9) rfl dX11_weighs_60 ?_
    have j33 := rgI u7
    have j34 := Int32.toInt_toInt64 u7
    refine lv_i2l (v := u7.toInt64) hx hb dX11_weighs_63 (rfl) ?_
    refine va_last hx hb hKN.1 hP hD hS 18 1 rfl rfl (show ¬ ((4 : Int32) < 0 ∨ 10 ≤ (4 : Int32).toNatClampNeg) by decide) dX11_weighs_64 (fun H locs hP hD hS => ?_)
    obtain ⟨f35, ef35, hP, hD⟩ : ∃ f35 : Nat → Int64, f35 = vp_updL f32 4 u7.toInt64 ∧ va_P D vwCl (MW Y o a (upd (upd (upd (upd (upd I 29 u10) 34 u4) 35 u5) 36 u6) 39 u7) (vp_updL (vp_updL (vp_updL (vp_updL J 30 u11) 31 u12) 37 u8) 38 u9) (vf_upd (vf_upd (vf_upd (vf_upd F 1 f13) 28 f14) 41 f16) 43 f18) (vf_upd (vf_upd (vf_upd G 27 f35) 40 f15) 42 f17)) H ∧ va_D A (MW Y o a (upd (upd (upd (upd (upd I 29 u10) 34 u4) 35 u5) 36 u6) 39 u7) (vp_updL (vp_updL (vp_updL (vp_updL J 30 u11) 31 u12) 37 u8) 38 u9) (vf_upd (vf_upd (vf_upd (vf_upd F 1 f13) 28 f14) 41 f16) 43 f18) (vf_upd (vf_upd (vf_upd G 27 f35) 40 f15) 42 f17)) := ⟨_, rfl, hP, hD⟩
    refine lv_aload_n hx hb dX11_weighs_65 rfl (lv_at hl 0 rfl) ?_
    refine va_get (D := D) (ci := 11) (v := .ref (a 27)) (C := RX11) (T := TX11) (N := 49) hx hb hg inGX11 hown hKN.1 hP 0 rfl rfl 27 (by decide) (hg _ kw_1235) (fun _ h9 => h9) rfl dX11_weighs_66 ?_
    refine lv_iconst (v := 5) hx hb dX11_weighs_69 (by decide) ?_
    refine lv_aload_n hx hb dX11_weighs_70 rfl (lv_at hl 0 rfl) ?_
    refine cga (rn_V (As := []) (rest := [.int 5, .ref (a 27)]) (b := o) (m_oddness l D Y Z H.size o a (upd (upd (upd (upd (upd I 29 u10) 34 u4) 35 u5) 36 u6) 39 u7) (vp_updL (vp_updL (vp_updL (vp_updL J 30 u11) 31 u12) 37 u8) 38 u9) (vf_upd (vf_upd (vf_upd (vf_upd F 1 f13) 28 f14) 41 f16) 43 f18) (vf_upd (vf_upd (vf_upd G 27 f35) 40 f15) 42 f17)   (show (2 ≤ u4.toInt ∧ u4.toInt ≤ 200) by omega) (show (1 ≤ u5.toInt ∧ u5.toInt ≤ 10) by omega) (show (0 ≤ u6.toInt ∧ u6.toInt ≤ 199) by omega) (show (u6.toInt < u4.toInt) by omega) (show (0 ≤ u10.toInt ∧ u10.toInt ≤ 600) by omega) (show ((cin f14 (u4.toInt).toNat (u5.toInt).toNat (u6.toInt).toNat 600 : Int) ≠ u10.toInt) by omega)) ⟨hx, hb, hml, hown, hg⟩ lk_X11_529 ⟨CP.blind, va_recv hKN.1 hP (ci := 11) (q0 := 0) rfl rfl, CP.at hP hKN hD⟩ ⟨⟨rfl, rfl⟩, ⟨Nat.le_of_ble_eq_true rfl, Nat.le_of_ble_eq_true rfl⟩, ⟨Nat.le_of_ble_eq_true rfl, Nat.le_of_ble_eq_true rfl⟩⟩ hl.1 rfl (Nat.le_of_ble_eq_true rfl) dX11_weighs_71) hP hD hS hA (fun u36 H locs w37 hP hD hS => ?_)
    obtain ⟨u38, u39, u40⟩ := u36
    refine W.eq (g2 := F0 m 74 ls [.long u38, .int 5, .ref (a 27)]) rfl ?_
    have hP : va_P D vwCl (MW Y o a (upd (upd (upd (upd (upd (upd I 29 u10) 32 u39) 34 u4) 35 u5) 36 u6) 39 u7) (vp_updL (vp_updL (vp_updL (vp_updL (vp_updL J 30 u11) 31 u12) 33 u40) 37 u8) 38 u9) (vf_upd (vf_upd (vf_upd (vf_upd F 1 f13) 28 f14) 41 f16) 43 f18) (vf_upd (vf_upd (vf_upd G 27 f35) 40 f15) 42 f17)) H := hP
    have hD : va_D A (MW Y o a (upd (upd (upd (upd (upd (upd I 29 u10) 32 u39) 34 u4) 35 u5) 36 u6) 39 u7) (vp_updL (vp_updL (vp_updL (vp_updL (vp_updL J 30 u11) 31 u12) 33 u40) 37 u8) 38 u9) (vf_upd (vf_upd (vf_upd (vf_upd F 1 f13) 28 f14) 41 f16) 43 f18) (vf_upd (vf_upd (vf_upd G 27 f35) 40 f15) 42 f17)) := hD
    refine va_last hx hb hKN.1 hP hD hS 18 1 rfl rfl (show ¬ ((5 : Int32) < 0 ∨ 10 ≤ (5 : Int32).toNatClampNeg) by decide) dX11_weighs_74 (fun H locs hP hD hS => ?_)
    obtain ⟨f41, ef41, hP, hD⟩ : ∃ f41 : Nat → Int64, f41 = vp_updL f35 5 u38 ∧ va_P D vwCl (MW Y o a (upd (upd (upd (upd (upd (upd I 29 u10) 32 u39) 34 u4) 35 u5) 36 u6) 39 u7) (vp_updL (vp_updL (vp_updL (vp_updL (vp_updL J 30 u11) 31 u12) 33 u40) 37 u8) 38 u9) (vf_upd (vf_upd (vf_upd (vf_upd F 1 f13) 28 f14) 41 f16) 43 f18) (vf_upd (vf_upd (vf_upd G 27 f41) 40 f15) 42 f17)) H ∧ va_D A (MW Y o a (upd (upd (upd (upd (upd (upd I 29 u10) 32 u39) 34 u4) 35 u5) 36 u6) 39 u7) (vp_updL (vp_updL (vp_updL (vp_updL (vp_updL J 30 u11) 31 u12) 33 u40) 37 u8) 38 u9) (vf_upd (vf_upd (vf_upd (vf_upd F 1 f13) 28 f14) 41 f16) 43 f18) (vf_upd (vf_upd (vf_upd G 27 f41) 40 f15) 42 f17)) := ⟨_, rfl, hP, hD⟩
    refine lv_aload_n hx hb dX11_weighs_75 rfl (lv_at hl 0 rfl) ?_
    refine va_get (D := D) (ci := 11) (v := .ref (a 27)) (C := RX11) (T := TX11) (N := 49) hx hb hg inGX11 hown hKN.1 hP 0 rfl rfl 27 (by decide) (hg _ kw_1235) (fun _ h9 => h9) rfl dX11_weighs_76 ?_
    refine lv_bipush (v := 6) hx hb dX11_weighs_79 (by decide) ?_
    refine lv_aload_n hx hb dX11_weighs_81 rfl (lv_at hl 0 rfl) ?_
    refine cga (rn_V (As := []) (rest := [.int 6, .ref (a 27)]) (b := o) (m_shapeOf l D Y Z H.size o a (upd (upd (upd (upd (upd (upd I 29 u10) 32 u39) 34 u4) 35 u5) 36 u6) 39 u7) (vp_updL (vp_updL (vp_updL (vp_updL (vp_updL J 30 u11) 31 u12) 33 u40) 37 u8) 38 u9) (vf_upd (vf_upd (vf_upd (vf_upd F 1 f13) 28 f14) 41 f16) 43 f18) (vf_upd (vf_upd (vf_upd G 27 f41) 40 f15) 42 f17)   (show (2 ≤ u4.toInt ∧ u4.toInt ≤ 200) by omega) (show (1 ≤ u5.toInt ∧ u5.toInt ≤ 10) by omega) (show (0 ≤ u6.toInt ∧ u6.toInt ≤ 199) by omega) (show (u6.toInt < u4.toInt) by omega) (show (0 ≤ u10.toInt ∧ u10.toInt ≤ 600) by omega) (show ((cin f14 (u4.toInt).toNat (u5.toInt).toNat (u6.toInt).toNat 600 : Int) ≠ u10.toInt) by omega)) ⟨hx, hb, hml, hown, hg⟩ lk_X11_532 ⟨CP.blind, va_recv hKN.1 hP (ci := 11) (q0 := 0) rfl rfl, CP.at hP hKN hD⟩ ⟨⟨rfl, rfl⟩, ⟨Nat.le_of_ble_eq_true rfl, Nat.le_of_ble_eq_true rfl⟩, ⟨Nat.le_of_ble_eq_true rfl, Nat.le_of_ble_eq_true rfl⟩⟩ hl.1 rfl (Nat.le_of_ble_eq_true rfl) dX11_weighs_82) hP hD hS hA (fun u42 H locs w43 hP hD hS => ?_)
    obtain ⟨u44, u45, u46⟩ := u42
    refine W.eq (g2 := F0 m 85 ls [.long u44, .int 6, .ref (a 27)]) rfl ?_
    have hP : va_P D vwCl (MW Y o a (upd (upd (upd (upd (upd (upd I 29 u10) 32 u45) 34 u4) 35 u5) 36 u6) 39 u7) (vp_updL (vp_updL (vp_updL (vp_updL (vp_updL J 30 u11) 31 u12) 33 u46) 37 u8) 38 u9) (vf_upd (vf_upd (vf_upd (vf_upd F 1 f13) 28 f14) 41 f16) 43 f18) (vf_upd (vf_upd (vf_upd G 27 f41) 40 f15) 42 f17)) H := hP
    have hD : va_D A (MW Y o a (upd (upd (upd (upd (upd (upd I 29 u10) 32 u45) 34 u4) 35 u5) 36 u6) 39 u7) (vp_updL (vp_updL (vp_updL (vp_updL (vp_updL J 30 u11) 31 u12) 33 u46) 37 u8) 38 u9) (vf_upd (vf_upd (vf_upd (vf_upd F 1 f13) 28 f14) 41 f16) 43 f18) (vf_upd (vf_upd (vf_upd G 27 f41) 40 f15) 42 f17)) := hD
    refine va_last hx hb hKN.1 hP hD hS 18 1 rfl rfl (show ¬ ((6 : Int32) < 0 ∨ 10 ≤ (6 : Int32).toNatClampNeg) by decide) dX11_weighs_85 (fun H locs hP hD hS => ?_)
    obtain ⟨f47, ef47, hP, hD⟩ : ∃ f47 : Nat → Int64, f47 = vp_updL f41 6 u44 ∧ va_P D vwCl (MW Y o a (upd (upd (upd (upd (upd (upd I 29 u10) 32 u45) 34 u4) 35 u5) 36 u6) 39 u7) (vp_updL (vp_updL (vp_updL (vp_updL (vp_updL J 30 u11) 31 u12) 33 u46) 37 u8) 38 u9) (vf_upd (vf_upd (vf_upd (vf_upd F 1 f13) 28 f14) 41 f16) 43 f18) (vf_upd (vf_upd (vf_upd G 27 f47) 40 f15) 42 f17)) H ∧ va_D A (MW Y o a (upd (upd (upd (upd (upd (upd I 29 u10) 32 u45) 34 u4) 35 u5) 36 u6) 39 u7) (vp_updL (vp_updL (vp_updL (vp_updL (vp_updL J 30 u11) 31 u12) 33 u46) 37 u8) 38 u9) (vf_upd (vf_upd (vf_upd (vf_upd F 1 f13) 28 f14) 41 f16) 43 f18) (vf_upd (vf_upd (vf_upd G 27 f47) 40 f15) 42 f17)) := ⟨_, rfl, hP, hD⟩
    refine lv_aload_n hx hb dX11_weighs_86 rfl (lv_at hl 0 rfl) ?_
    refine va_get (D := D) (ci := 11) (v := .ref (a 27)) (C := RX11) (T := TX11) (N := 49) hx hb hg inGX11 hown hKN.1 hP 0 rfl rfl 27 (by decide) (hg _ kw_1235) (fun _ h9 => h9) rfl dX11_weighs_87 ?_
    refine lv_bipush (v := 8) hx hb dX11_weighs_90 (by decide) ?_
    refine lv_aload_n hx hb dX11_weighs_92 rfl (lv_at hl 0 rfl) ?_
    refine cga (rn_V (As := []) (rest := [.int 8, .ref (a 27)]) (b := o) (m_lateness l D Y Z H.size o a (upd (upd (upd (upd (upd (upd I 29 u10) 32 u45) 34 u4) 35 u5) 36 u6) 39 u7) (vp_updL (vp_updL (vp_updL (vp_updL (vp_updL J 30 u11) 31 u12) 33 u46) 37 u8) 38 u9) (vf_upd (vf_upd (vf_upd (vf_upd F 1 f13) 28 f14) 41 f16) 43 f18) (vf_upd (vf_upd (vf_upd G 27 f47) 40 f15) 42 f17)   (show (2 ≤ u4.toInt ∧ u4.toInt ≤ 200) by omega) (show (1 ≤ u5.toInt ∧ u5.toInt ≤ 10) by omega) (show (0 ≤ u6.toInt ∧ u6.toInt ≤ 199) by omega) (show (u6.toInt < u4.toInt) by omega)) ⟨hx, hb, hml, hown, hg⟩ lk_X11_538 ⟨CP.blind, va_recv hKN.1 hP (ci := 11) (q0 := 0) rfl rfl, CP.at hP hKN hD⟩ ⟨⟨rfl, rfl⟩, ⟨Nat.le_of_ble_eq_true rfl, Nat.le_of_ble_eq_true rfl⟩, ⟨Nat.le_of_ble_eq_true rfl, Nat.le_of_ble_eq_true rfl⟩⟩ hl.1 rfl (Nat.le_of_ble_eq_true rfl) dX11_weighs_93) hP hD hS hA (fun u48 H locs w49 hP hD hS => ?_)
    refine W.eq (g2 := F0 m 96 ls [.int u48, .int 8, .ref (a 27)]) rfl ?_
    have hP : va_P D vwCl (MW Y o a (upd (upd (upd (upd (upd (upd I 29 u10) 32 u45) 34 u4) 35 u5) 36 u6) 39 u7) (vp_updL (vp_updL (vp_updL (vp_updL (vp_updL J 30 u11) 31 u12) 33 u46) 37 u8) 38 u9) (vf_upd (vf_upd (vf_upd (vf_upd F 1 f13) 28 f14) 41 f16) 43 f18) (vf_upd (vf_upd (vf_upd G 27 f47) 40 f15) 42 f17)) H := hP
    have hD : va_D A (MW Y o a (upd (upd (upd (upd (upd (upd I 29 u10) 32 u45) 34 u4) 35 u5) 36 u6) 39 u7) (vp_updL (vp_updL (vp_updL (vp_updL (vp_updL J 30 u11) 31 u12) 33 u46) 37 u8) 38 u9) (vf_upd (vf_upd (vf_upd (vf_upd F 1 f13) 28 f14) 41 f16) 43 f18) (vf_upd (vf_upd (vf_upd G 27 f47) 40 f15) 42 f17)) := hD
    have j51 := rgI u48
    have j52 := Int32.toInt_toInt64 u48
    refine lv_i2l (v := u48.toInt64) hx hb dX11_weighs_96 (rfl) ?_
    refine va_last hx hb hKN.1 hP hD hS 18 1 rfl rfl (show ¬ ((8 : Int32) < 0 ∨ 10 ≤ (8 : Int32).toNatClampNeg) by decide) dX11_weighs_97 (fun H locs hP hD hS => ?_)
    obtain ⟨f53, ef53, hP, hD⟩ : ∃ f53 : Nat → Int64, f53 = vp_updL f47 8 u48.toInt64 ∧ va_P D vwCl (MW Y o a (upd (upd (upd (upd (upd (upd I 29 u10) 32 u45) 34 u4) 35 u5) 36 u6) 39 u7) (vp_updL (vp_updL (vp_updL (vp_updL (vp_updL J 30 u11) 31 u12) 33 u46) 37 u8) 38 u9) (vf_upd (vf_upd (vf_upd (vf_upd F 1 f13) 28 f14) 41 f16) 43 f18) (vf_upd (vf_upd (vf_upd G 27 f53) 40 f15) 42 f17)) H ∧ va_D A (MW Y o a (upd (upd (upd (upd (upd (upd I 29 u10) 32 u45) 34 u4) 35 u5) 36 u6) 39 u7) (vp_updL (vp_updL (vp_updL (vp_updL (vp_updL J 30 u11) 31 u12) 33 u46) 37 u8) 38 u9) (vf_upd (vf_upd (vf_upd (vf_upd F 1 f13) 28 f14) 41 f16) 43 f18) (vf_upd (vf_upd (vf_upd G 27 f53) 40 f15) 42 f17)) := ⟨_, rfl, hP, hD⟩
    refine lv_aload_n hx hb dX11_weighs_98 rfl (lv_at hl 0 rfl) ?_
    refine va_get (D := D) (ci := 11) (v := .ref (a 27)) (C := RX11) (T := TX11) (N := 49) hx hb hg inGX11 hown hKN.1 hP 0 rfl rfl 27 (by decide) (hg _ kw_1235) (fun _ h9 => h9) rfl dX11_weighs_99 ?_
    refine lv_bipush (v := 7) hx hb dX11_weighs_102 (by decide) ?_
    refine lv_aload_n hx hb dX11_weighs_104 rfl (lv_at hl 0 rfl) ?_
    refine lv_iload_n hx hb dX11_weighs_105 rfl (lv_at hl 2 rfl) ?_
    refine lv_iload_n hx hb dX11_weighs_106 rfl (lv_at hl 3 rfl) ?_
    refine cga (rn_V (As := [.int p2, .int p3]) (rest := [.int 7, .ref (a 27)]) (b := o) (m_sames l D Y Z H.size o a (upd (upd (upd (upd (upd (upd I 29 u10) 32 u45) 34 u4) 35 u5) 36 u6) 39 u7) (vp_updL (vp_updL (vp_updL (vp_updL (vp_updL J 30 u11) 31 u12) 33 u46) 37 u8) 38 u9) (vf_upd (vf_upd (vf_upd (vf_upd F 1 f13) 28 f14) 41 f16) 43 f18) (vf_upd (vf_upd (vf_upd G 27 f53) 40 f15) 42 f17)  p2 p3 (show (0 ≤ p2.toInt ∧ p2.toInt ≤ 5) by omega) (show (p2.toInt < ((F 4) 1).toInt) by omega) (show (0 ≤ p3.toInt ∧ p3.toInt ≤ 11) by omega) hk0 hw24 hk2) ⟨hx, hb, hml, hown, hg⟩ lk_X11_535 ⟨CP.blind, va_recv hKN.1 hP (ci := 11) (q0 := 0) rfl rfl, CP.at hP hKN hD⟩ ⟨⟨rfl, rfl⟩, ⟨Nat.le_of_ble_eq_true rfl, Nat.le_of_ble_eq_true rfl⟩, ⟨Nat.le_of_ble_eq_true rfl, Nat.le_of_ble_eq_true rfl⟩⟩ hl.1 rfl (Nat.le_of_ble_eq_true rfl) dX11_weighs_107) hP hD hS hA (fun u54 H locs w55 hP hD hS => ?_)
    obtain ⟨u56, u57, u58, u59, u60, u61, u62, u63, u64, u65, f66, f67, f68, f69, f70, f71⟩ := u54
    have hw72 : LB f67 := w55
    clear w55
    refine W.eq (g2 := F0 m 110 ls [.int u56, .int 7, .ref (a 27)]) rfl ?_
    have hP : va_P D vwCl (MW Y o a (upd (upd (upd (upd (upd (upd I 29 u63) 32 u45) 34 u57) 35 u58) 36 u59) 39 u60) (vp_updL (vp_updL (vp_updL (vp_updL (vp_updL J 30 u64) 31 u65) 33 u46) 37 u61) 38 u62) (vf_upd (vf_upd (vf_upd (vf_upd F 1 f66) 28 f67) 41 f69) 43 f71) (vf_upd (vf_upd (vf_upd G 27 f53) 40 f68) 42 f70)) H := hP
    have hD : va_D A (MW Y o a (upd (upd (upd (upd (upd (upd I 29 u63) 32 u45) 34 u57) 35 u58) 36 u59) 39 u60) (vp_updL (vp_updL (vp_updL (vp_updL (vp_updL J 30 u64) 31 u65) 33 u46) 37 u61) 38 u62) (vf_upd (vf_upd (vf_upd (vf_upd F 1 f66) 28 f67) 41 f69) 43 f71) (vf_upd (vf_upd (vf_upd G 27 f53) 40 f68) 42 f70)) := hD
    have j73 := rgI u56
    have j74 := Int32.toInt_toInt64 u56
    refine lv_i2l (v := u56.toInt64) hx hb dX11_weighs_110 (rfl) ?_
    refine va_last hx hb hKN.1 hP hD hS 18 1 rfl rfl (show ¬ ((7 : Int32) < 0 ∨ 10 ≤ (7 : Int32).toNatClampNeg) by decide) dX11_weighs_111 (fun H locs hP hD hS => ?_)
    obtain ⟨f75, ef75, hP, hD⟩ : ∃ f75 : Nat → Int64, f75 = vp_updL f53 7 u56.toInt64 ∧ va_P D vwCl (MW Y o a (upd (upd (upd (upd (upd (upd I 29 u63) 32 u45) 34 u57) 35 u58) 36 u59) 39 u60) (vp_updL (vp_updL (vp_updL (vp_updL (vp_updL J 30 u64) 31 u65) 33 u46) 37 u61) 38 u62) (vf_upd (vf_upd (vf_upd (vf_upd F 1 f66) 28 f67) 41 f69) 43 f71) (vf_upd (vf_upd (vf_upd G 27 f75) 40 f68) 42 f70)) H ∧ va_D A (MW Y o a (upd (upd (upd (upd (upd (upd I 29 u63) 32 u45) 34 u57) 35 u58) 36 u59) 39 u60) (vp_updL (vp_updL (vp_updL (vp_updL (vp_updL J 30 u64) 31 u65) 33 u46) 37 u61) 38 u62) (vf_upd (vf_upd (vf_upd (vf_upd F 1 f66) 28 f67) 41 f69) 43 f71) (vf_upd (vf_upd (vf_upd G 27 f75) 40 f68) 42 f70)) := ⟨_, rfl, hP, hD⟩
    refine lv_aload_n hx hb dX11_weighs_112 rfl (lv_at hl 0 rfl) ?_
    refine va_get (D := D) (ci := 11) (v := .ref (a 27)) (C := RX11) (T := TX11) (N := 49) hx hb hg inGX11 hown hKN.1 hP 0 rfl rfl 27 (by decide) (hg _ kw_1235) (fun _ h9 => h9) rfl dX11_weighs_113 ?_
    refine lv_bipush (v := 9) hx hb dX11_weighs_116 (by decide) ?_
    refine lv_aload_n hx hb dX11_weighs_118 rfl (lv_at hl 0 rfl) ?_
    refine lv_iload_n hx hb dX11_weighs_119 rfl (lv_at hl 3 rfl) ?_
    refine lv_iconst (v := 0) hx hb dX11_weighs_120 (by decide) ?_
    refine cga (rn_V (As := [.int p3, .int 0]) (rest := [.int 9, .ref (a 27)]) (b := o) (m_starOf0 l D Y Z H.size o a (upd (upd (upd (upd (upd (upd I 29 u63) 32 u45) 34 u57) 35 u58) 36 u59) 39 u60) (vp_updL (vp_updL (vp_updL (vp_updL (vp_updL J 30 u64) 31 u65) 33 u46) 37 u61) 38 u62) (vf_upd (vf_upd (vf_upd (vf_upd F 1 f66) 28 f67) 41 f69) 43 f71) (vf_upd (vf_upd (vf_upd G 27 f75) 40 f68) 42 f70)  p3 (show (0 ≤ p3.toInt ∧ p3.toInt ≤ 11) by omega) hk0) ⟨hx, hb, hml, hown, hg⟩ lk_X11_120 ⟨CP.blind, va_recv hKN.1 hP (ci := 11) (q0 := 0) rfl rfl, CP.at hP hKN hD⟩ ⟨⟨rfl, rfl⟩, ⟨Nat.le_of_ble_eq_true rfl, Nat.le_of_ble_eq_true rfl⟩, ⟨Nat.le_of_ble_eq_true rfl, Nat.le_of_ble_eq_true rfl⟩⟩ hl.1 rfl (Nat.le_of_ble_eq_true rfl) dX11_weighs_121) hP hD hS hA (fun u76 H locs w77 hP hD hS => ?_)
    have hw79 : (0 ≤ u76.toInt ∧ u76.toInt ≤ 999) := w77
    clear w77
    refine W.eq (g2 := F0 m 124 ls [.int u76, .int 9, .ref (a 27)]) rfl ?_
    have hP : va_P D vwCl (MW Y o a (upd (upd (upd (upd (upd (upd I 29 u63) 32 u45) 34 u57) 35 u58) 36 u59) 39 u60) (vp_updL (vp_updL (vp_updL (vp_updL (vp_updL J 30 u64) 31 u65) 33 u46) 37 u61) 38 u62) (vf_upd (vf_upd (vf_upd (vf_upd F 1 f66) 28 f67) 41 f69) 43 f71) (vf_upd (vf_upd (vf_upd G 27 f75) 40 f68) 42 f70)) H := hP
    have hD : va_D A (MW Y o a (upd (upd (upd (upd (upd (upd I 29 u63) 32 u45) 34 u57) 35 u58) 36 u59) 39 u60) (vp_updL (vp_updL (vp_updL (vp_updL (vp_updL J 30 u64) 31 u65) 33 u46) 37 u61) 38 u62) (vf_upd (vf_upd (vf_upd (vf_upd F 1 f66) 28 f67) 41 f69) 43 f71) (vf_upd (vf_upd (vf_upd G 27 f75) 40 f68) 42 f70)) := hD
    have j80 := Int32.toInt_toInt64 u76
    refine lv_i2l (v := u76.toInt64) hx hb dX11_weighs_124 (rfl) ?_
    refine va_last hx hb hKN.1 hP hD hS 18 1 rfl rfl (show ¬ ((9 : Int32) < 0 ∨ 10 ≤ (9 : Int32).toNatClampNeg) by decide) dX11_weighs_125 (fun H locs hP hD hS => ?_)
    obtain ⟨f81, ef81, hP, hD⟩ : ∃ f81 : Nat → Int64, f81 = vp_updL f75 9 u76.toInt64 ∧ va_P D vwCl (MW Y o a (upd (upd (upd (upd (upd (upd I 29 u63) 32 u45) 34 u57) 35 u58) 36 u59) 39 u60) (vp_updL (vp_updL (vp_updL (vp_updL (vp_updL J 30 u64) 31 u65) 33 u46) 37 u61) 38 u62) (vf_upd (vf_upd (vf_upd (vf_upd F 1 f66) 28 f67) 41 f69) 43 f71) (vf_upd (vf_upd (vf_upd G 27 f81) 40 f68) 42 f70)) H ∧ va_D A (MW Y o a (upd (upd (upd (upd (upd (upd I 29 u63) 32 u45) 34 u57) 35 u58) 36 u59) 39 u60) (vp_updL (vp_updL (vp_updL (vp_updL (vp_updL J 30 u64) 31 u65) 33 u46) 37 u61) 38 u62) (vf_upd (vf_upd (vf_upd (vf_upd F 1 f66) 28 f67) 41 f69) 43 f71) (vf_upd (vf_upd (vf_upd G 27 f81) 40 f68) 42 f70)) := ⟨_, rfl, hP, hD⟩
    refine lv_bipush (v := 12) hx hb dX11_weighs_126 (by decide) ?_
    refine lv_iload_n hx hb dX11_weighs_128 rfl (lv_at hl 1 rfl) ?_
    refine lv_iadd hx hb dX11_weighs_129 ?_
    refine lv_topi (fun v82 ev82 => ?_)
    have hv82 := i_add (show (12 : Int32).toInt = 12 by decide) (Eq.refl p1.toInt) ev82 (by omega) (by omega)
    refine lv_istore (lv' := [(4, .int v82), (0, .ref o), (1, .int p1), (2, .int p2), (3, .int p3)]) hx hb dX11_weighs_130 hl (by decide) rfl (fun ls hl => ?_)
    refine lv_iconst (v := 0) hx hb dX11_weighs_132 (by decide) ?_
    refine lv_istore (lv' := [(5, .int 0), (4, .int v82), (0, .ref o), (1, .int p1), (2, .int p2), (3, .int p3)]) hx hb dX11_weighs_133 hl (by decide) rfl (fun ls hl => ?_)
    refine w_loop (σ := Int32 × Int32 × (Nat → Int64) × (Nat → Int32)) (fun xx H locs ls => match xx with | (g649, g650, f651, f652) => va_P D vwCl (MW Y o a (upd (upd (upd (upd (upd (upd (upd I 26 g650) 29 u63) 32 u45) 34 u57) 35 u58) 36 u59) 39 u60) (vp_updL (vp_updL (vp_updL (vp_updL (vp_updL J 30 u64) 31 u65) 33 u46) 37 u61) 38 u62) (vf_upd (vf_upd (vf_upd (vf_upd (vf_upd F 1 f66) 28 f67) 41 f69) 43 f71) 46 f652) (vf_upd (vf_upd (vf_upd (vf_upd G 25 f651) 27 f81) 40 f68) 42 f70)) H ∧ va_D A (MW Y o a (upd (upd (upd (upd (upd (upd (upd I 26 g650) 29 u63) 32 u45) 34 u57) 35 u58) 36 u59) 39 u60) (vp_updL (vp_updL (vp_updL (vp_updL (vp_updL J 30 u64) 31 u65) 33 u46) 37 u61) 38 u62) (vf_upd (vf_upd (vf_upd (vf_upd (vf_upd F 1 f66) 28 f67) 41 f69) 43 f71) 46 f652) (vf_upd (vf_upd (vf_upd (vf_upd G 25 f651) 27 f81) 40 f68) 42 f70)) ∧ va_S A s.heap H locs ∧ lv_has ls 9 [(5, .int g649), (4, .int v82), (0, .ref o), (1, .int p1), (2, .int p2), (3, .int p3)] ∧ (0 ≤ g649.toInt ∧ g649.toInt ≤ 5) ∧ WG f652) (fun xx => match xx with | (g649, g650, f651, f652) => (5 - g649.toInt).toNat) (0, (I 26), (G 25), (F 46)) ⟨hP, hD, hS, lv_sub hl [0, 1, 2, 3, 4, 5] rfl, by omega, hk4⟩ (fun xx H locs ls hI ih => ?_)
    obtain ⟨g649, g650, f651, f652⟩ := xx
    obtain ⟨hP, hD, hS, hl, hq1221, hp1222⟩ := hI
    have ih1223 := ih
    refine lv_iload hx hb dX11_weighs_135 (lv_at hl 0 rfl) ?_
    refine lv_iconst (v := 5) hx hb dX11_weighs_137 (by decide) ?_
    refine lv_icmp_ge (tgt := 232) hx hb dX11_weighs_138 (by decide) (fun c1508 => ?_) (fun c1508 => ?_)
    · skip
      have c1508 := i_le (show (5 : Int32).toInt = 5 by decide) (Eq.refl g649.toInt) c1508
      refine lv_iconst (v := 1) hx hb dX11_weighs_232 (by decide) ?_
      refine W.widen (k := 0) (n := 0) (Nat.le_of_ble_eq_true rfl) (Nat.le_of_ble_eq_true rfl) ?_
      exact W.zret (v := 1) hx hb hr (by decide) (fun t ht hW => ⟨⟨(1, u57, u58, u59, u60, u61, u62, u63, u64, u65, u45, u46, g650, f66, f67, f68, f69, f70, f71, f81, f651, f652), rfl, ⟨(show (0 ≤ (1 : Int32).toInt ∧ (1 : Int32).toInt ≤ 1) by omega), hw72, hp1222⟩, CB.mk ht hP hD⟩, hS.F ht⟩) hS.2.2 dX11_weighs_233
    · skip
      have c1508 := i_nle (show (5 : Int32).toInt = 5 by decide) (Eq.refl g649.toInt) c1508
      refine lv_lconst (v := 0) hx hb dX11_weighs_141 (by decide) ?_
      refine lv_lstore (lv' := [(6, .long 0), (5, .int g649), (4, .int v82), (0, .ref o), (1, .int p1), (2, .int p2), (3, .int p3)]) hx hb dX11_weighs_142 hl (by decide) rfl (fun ls hl => ?_)
      refine lv_iconst (v := 0) hx hb dX11_weighs_144 (by decide) ?_
      refine lv_istore (lv' := [(8, .int 0), (6, .long 0), (5, .int g649), (4, .int v82), (0, .ref o), (1, .int p1), (2, .int p2), (3, .int p3)]) hx hb dX11_weighs_145 hl (by decide) rfl (fun ls hl => ?_)
      have zl0 : (0 : Int64).toInt = 0 := by decide
      refine w_loop (σ := Int32 × Int64 × Int32 × (Nat → Int64)) (fun xx H locs ls => match xx with | (g1600, g1601, g1602, f1603) => va_P D vwCl (MW Y o a (upd (upd (upd (upd (upd (upd (upd I 26 g1602) 29 u63) 32 u45) 34 u57) 35 u58) 36 u59) 39 u60) (vp_updL (vp_updL (vp_updL (vp_updL (vp_updL J 30 u64) 31 u65) 33 u46) 37 u61) 38 u62) (vf_upd (vf_upd (vf_upd (vf_upd (vf_upd F 1 f66) 28 f67) 41 f69) 43 f71) 46 f652) (vf_upd (vf_upd (vf_upd (vf_upd G 25 f1603) 27 f81) 40 f68) 42 f70)) H ∧ va_D A (MW Y o a (upd (upd (upd (upd (upd (upd (upd I 26 g1602) 29 u63) 32 u45) 34 u57) 35 u58) 36 u59) 39 u60) (vp_updL (vp_updL (vp_updL (vp_updL (vp_updL J 30 u64) 31 u65) 33 u46) 37 u61) 38 u62) (vf_upd (vf_upd (vf_upd (vf_upd (vf_upd F 1 f66) 28 f67) 41 f69) 43 f71) 46 f652) (vf_upd (vf_upd (vf_upd (vf_upd G 25 f1603) 27 f81) 40 f68) 42 f70)) ∧ va_S A s.heap H locs ∧ lv_has ls 9 [(8, .int g1600), (6, .long g1601), (5, .int g649), (4, .int v82), (0, .ref o), (1, .int p1), (2, .int p2), (3, .int p3)] ∧ (0 ≤ g1600.toInt ∧ g1600.toInt ≤ 12)) (fun xx => match xx with | (g1600, g1601, g1602, f1603) => (12 - g1600.toInt).toNat) (0, 0, g650, f651) ⟨hP, hD, hS, lv_sub hl [0, 1, 2, 3, 4, 5, 6, 7] rfl, by omega⟩ (fun xx H locs ls hI ih => ?_)
      obtain ⟨g1600, g1601, g1602, f1603⟩ := xx
      obtain ⟨hP, hD, hS, hl, hq1693⟩ := hI
      have ih1694 := ih
      refine lv_iload hx hb dX11_weighs_147 (lv_at hl 0 rfl) ?_
      refine lv_aload_n hx hb dX11_weighs_149 rfl (lv_at hl 4 rfl) ?_
      refine va_get (D := D) (ci := 11) (v := .ref (a 8)) (C := RX11) (T := TX11) (N := 49) hx hb hg inGX11 hown hKN.1 hP 0 rfl rfl 8 (by decide) (hg _ kw_1216) (fun _ h9 => h9) rfl dX11_weighs_150 ?_
      refine lv_iload hx hb dX11_weighs_153 (lv_at hl 3 rfl) ?_
      refine va_iald hx hb hKN.1 hP 8 0 rfl rfl (vp_in_iff.mpr ⟨by omega, by omega⟩) dX11_weighs_155 ?_
      refine lv_topi (fun v1695 ev1695 => ?_)
      have ev1695 : v1695 = (F 8) v82.toNatClampNeg := ev1695
      have qv1695 := congrArg Int32.toInt ev1695
      have kv1695 := TC_c hk3 (t := v82.toNatClampNeg) (by have c := clampI (x := v82) (by omega); omega) (Or.inr ⟨by have c := clampI (x := v82) (by omega); omega, by have c := clampI (x := v82) (by omega); omega⟩)
      obtain ⟨kv16951, kv16952⟩ := kv1695
      refine lv_icmp_ge (tgt := 209) hx hb dX11_weighs_156 (by decide) (fun c1740 => ?_) (fun c1740 => ?_)
      · skip
        have c1740 := i_le (Eq.refl v1695.toInt) (Eq.refl g1600.toInt) c1740
        refine lv_aload_n hx hb dX11_weighs_209 rfl (lv_at hl 4 rfl) ?_
        refine va_get (D := D) (ci := 11) (v := .ref (a 46)) (C := RX11) (T := TX11) (N := 49) hx hb hg inGX11 hown hKN.1 hP 0 rfl rfl 46 (by decide) (hg _ kw_1254) (fun _ h9 => h9) rfl dX11_weighs_210 ?_
        refine lv_iload hx hb dX11_weighs_213 (lv_at hl 2 rfl) ?_
        refine lv_lload hx hb dX11_weighs_215 (lv_at hl 1 rfl) ?_
        refine lv_lconst (v := 0) hx hb dX11_weighs_217 (by decide) ?_
        refine lv_ldc2 (v := 99999) hx hb hown (hg _ kw_1772) dX11_weighs_218 ?_
        have zl0 : (0 : Int64).toInt = 0 := by decide
        have zl99999 : (99999 : Int64).toInt = 99999 := by decide
        refine cg0 (rn_S (As := [.long g1601, .long 0, .long 99999]) (rest := [.int g649, .ref (a 46)]) (m_heldW l D Y Z H.size   g1601 ) ⟨hx, hb, hml, hown, hg⟩ lk_X11_148 ⟨CP.blind, CP.at nilP hKN (nilD (A := fun _ => True))⟩ ⟨⟨rfl, rfl⟩, ⟨Nat.le_of_ble_eq_true rfl, Nat.le_of_ble_eq_true rfl⟩, ⟨Nat.le_of_ble_eq_true rfl, Nat.le_of_ble_eq_true rfl⟩⟩ hl.1 rfl (Nat.le_of_ble_eq_true rfl) dX11_weighs_221) hP hS hA (fun u1741 H locs w1742 hP hS => ?_)
        have hw1744 : (0 ≤ u1741.toInt ∧ u1741.toInt ≤ 99999) := w1742
        clear w1742
        refine W.eq (g2 := F0 m 224 ls [.long u1741, .int g649, .ref (a 46)]) rfl ?_
        refine lv_l2i (v := u1741.toInt32) hx hb dX11_weighs_224 rfl ?_
        refine lv_topi (fun v1745 ev1745 => ?_)
        have hv1745 := l_i (Eq.refl u1741.toInt) ev1745 (by omega) (by omega)
        refine va_iast hx hb hKN.1 hP hD hS 26 0 rfl rfl (vp_in_iff.mpr ⟨by omega, by omega⟩) dX11_weighs_225 (fun H locs hP hD hS => ?_)
        obtain ⟨f1746, ef1746, hP, hD⟩ : ∃ f1746 : Nat → Int32, f1746 = upd f652 g649.toNatClampNeg v1745 ∧ va_P D vwCl (MW Y o a (upd (upd (upd (upd (upd (upd (upd I 26 g1602) 29 u63) 32 u45) 34 u57) 35 u58) 36 u59) 39 u60) (vp_updL (vp_updL (vp_updL (vp_updL (vp_updL J 30 u64) 31 u65) 33 u46) 37 u61) 38 u62) (vf_upd (vf_upd (vf_upd (vf_upd (vf_upd F 1 f66) 28 f67) 41 f69) 43 f71) 46 f1746) (vf_upd (vf_upd (vf_upd (vf_upd G 25 f1603) 27 f81) 40 f68) 42 f70)) H ∧ va_D A (MW Y o a (upd (upd (upd (upd (upd (upd (upd I 26 g1602) 29 u63) 32 u45) 34 u57) 35 u58) 36 u59) 39 u60) (vp_updL (vp_updL (vp_updL (vp_updL (vp_updL J 30 u64) 31 u65) 33 u46) 37 u61) 38 u62) (vf_upd (vf_upd (vf_upd (vf_upd (vf_upd F 1 f66) 28 f67) 41 f69) 43 f71) 46 f1746) (vf_upd (vf_upd (vf_upd (vf_upd G 25 f1603) 27 f81) 40 f68) 42 f70)) := ⟨_, rfl, hP, hD⟩
        have t1747 : WG f1746 := by rw [ef1746]; exact WG_set hp1222 (by omega)
        obtain ⟨v1748, ev1748⟩ : ∃ y : Int32, y = g649 + 1 := ⟨_, rfl⟩
        have hv1748 := i_add (Eq.refl g649.toInt) (show (1 : Int32).toInt = 1 by decide) ev1748 (by omega) (by omega)
        refine lv_iinc (v := v1748) (lv' := [(5, .int v1748), (8, .int g1600), (6, .long g1601), (4, .int v82), (0, .ref o), (1, .int p1), (2, .int p2), (3, .int p3)]) hx hb dX11_weighs_226 hl (k := 2) rfl (by rw [ev1748]; rfl) (by decide) rfl (fun ls hl => ?_)
        refine lv_goto (tgt := 135) hx hb dX11_weighs_229 (by decide) ?_
        exact ih1223 (v1748, g1602, f1603, f1746) H locs ls (by show (5 - v1748.toInt).toNat < (5 - g649.toInt).toNat; omega) ⟨hP, hD, hS, lv_sub hl [0, 3, 4, 5, 6, 7] rfl, by omega, t1747⟩
      · skip
        have c1740 := i_nle (Eq.refl v1695.toInt) (Eq.refl g1600.toInt) c1740
        refine lv_aload_n hx hb dX11_weighs_159 rfl (lv_at hl 4 rfl) ?_
        refine va_get (D := D) (ci := 11) (v := .ref (a 7)) (C := RX11) (T := TX11) (N := 49) hx hb hg inGX11 hown hKN.1 hP 0 rfl rfl 7 (by decide) (hg _ kw_1215) (fun _ h9 => h9) rfl dX11_weighs_160 ?_
        refine lv_bipush (v := 60) hx hb dX11_weighs_163 (by decide) ?_
        refine lv_iload hx hb dX11_weighs_165 (lv_at hl 3 rfl) ?_
        refine lv_imul hx hb dX11_weighs_167 ?_
        refine lv_topi (fun v1749 ev1749 => ?_)
        have hv1749 := i_mul (show (60 : Int32).toInt = 60 by decide) (Eq.refl v82.toInt) ev1749 (by omega) (by omega)
        refine lv_iconst (v := 5) hx hb dX11_weighs_168 (by decide) ?_
        refine lv_iload hx hb dX11_weighs_169 (lv_at hl 0 rfl) ?_
        refine lv_imul hx hb dX11_weighs_171 ?_
        refine lv_topi (fun v1750 ev1750 => ?_)
        have hv1750 := i_mul (show (5 : Int32).toInt = 5 by decide) (Eq.refl g1600.toInt) ev1750 (by omega) (by omega)
        refine lv_iadd hx hb dX11_weighs_172 ?_
        refine lv_topi (fun v1751 ev1751 => ?_)
        have hv1751 := i_add (Eq.refl v1749.toInt) (Eq.refl v1750.toInt) ev1751 (by omega) (by omega)
        refine va_iald hx hb hKN.1 hP 7 0 rfl rfl (vp_in_iff.mpr ⟨by omega, by omega⟩) dX11_weighs_173 ?_
        refine lv_topi (fun v1752 ev1752 => ?_)
        have ev1752 : v1752 = (F 7) v1751.toNatClampNeg := ev1752
        have qv1752 := congrArg Int32.toInt ev1752
        refine lv_iload hx hb dX11_weighs_174 (lv_at hl 2 rfl) ?_
        refine w_join (σ := Int64 × Int32 × (Nat → Int64)) (pcJ := 203) (kJ := 0) (nJ := 0) (stk := fun xx => match xx with | (g1770, g1771, f1772) => []) (fun xx H locs ls => match xx with | (g1770, g1771, f1772) => va_P D vwCl (MW Y o a (upd (upd (upd (upd (upd (upd (upd I 26 g1771) 29 u63) 32 u45) 34 u57) 35 u58) 36 u59) 39 u60) (vp_updL (vp_updL (vp_updL (vp_updL (vp_updL J 30 u64) 31 u65) 33 u46) 37 u61) 38 u62) (vf_upd (vf_upd (vf_upd (vf_upd (vf_upd F 1 f66) 28 f67) 41 f69) 43 f71) 46 f652) (vf_upd (vf_upd (vf_upd (vf_upd G 25 f1772) 27 f81) 40 f68) 42 f70)) H ∧ va_D A (MW Y o a (upd (upd (upd (upd (upd (upd (upd I 26 g1771) 29 u63) 32 u45) 34 u57) 35 u58) 36 u59) 39 u60) (vp_updL (vp_updL (vp_updL (vp_updL (vp_updL J 30 u64) 31 u65) 33 u46) 37 u61) 38 u62) (vf_upd (vf_upd (vf_upd (vf_upd (vf_upd F 1 f66) 28 f67) 41 f69) 43 f71) 46 f652) (vf_upd (vf_upd (vf_upd (vf_upd G 25 f1772) 27 f81) 40 f68) 42 f70)) ∧ va_S A s.heap H locs ∧ lv_has ls 9 [(8, .int g1600), (6, .long g1770), (5, .int g649), (4, .int v82), (0, .ref o), (1, .int p1), (2, .int p2), (3, .int p3)]) (fun xx H locs ls hI => ?_) (fun jn1773 => ?_)
        · skip
          obtain ⟨g1770, g1771, f1772⟩ := xx
          obtain ⟨hP, hD, hS, hl⟩ := hI
          refine W.eq (g2 := F0 m 203 ls []) rfl ?_
          obtain ⟨v1774, ev1774⟩ : ∃ y : Int32, y = g1600 + 1 := ⟨_, rfl⟩
          have hv1774 := i_add (Eq.refl g1600.toInt) (show (1 : Int32).toInt = 1 by decide) ev1774 (by omega) (by omega)
          refine lv_iinc (v := v1774) (lv' := [(8, .int v1774), (6, .long g1770), (5, .int g649), (4, .int v82), (0, .ref o), (1, .int p1), (2, .int p2), (3, .int p3)]) hx hb dX11_weighs_203 hl (k := 0) rfl (by rw [ev1774]; rfl) (by decide) rfl (fun ls hl => ?_)
          refine lv_goto (tgt := 147) hx hb dX11_weighs_206 (by decide) ?_
          exact ih1694 (v1774, g1770, g1771, f1772) H locs ls (by show (12 - v1774.toInt).toNat < (12 - g1600.toInt).toNat; omega) ⟨hP, hD, hS, lv_sub hl [0, 1, 2, 3, 4, 5, 6, 7] rfl, by omega⟩
        · skip
          have j1775 := rgI v1752
          refine lv_icmp_ne (tgt := 203) hx hb dX11_weighs_176 (by decide) (fun c1776 => ?_) (fun c1776 => ?_)
          · skip
            have c1776 := i_ne (Eq.refl v1752.toInt) (Eq.refl g649.toInt) c1776
            refine W.widen (k := 0) (n := 0) (Nat.le_of_ble_eq_true rfl) (Nat.le_of_ble_eq_true rfl) ?_
            exact jn1773 (g1601, g1602, f1603) H locs ls ⟨hP, hD, hS, lv_sub hl [0, 1, 2, 3, 4, 5, 6, 7] rfl⟩
          · skip
            have c1776 := i_eq (Eq.refl v1752.toInt) (Eq.refl g649.toInt) c1776
            refine lv_aload_n hx hb dX11_weighs_179 rfl (lv_at hl 4 rfl) ?_
            refine lv_iload hx hb dX11_weighs_180 (lv_at hl 3 rfl) ?_
            refine lv_iload hx hb dX11_weighs_182 (lv_at hl 0 rfl) ?_
            refine cga (rn_V (As := [.int v82, .int g1600]) (rest := []) (b := o) (m_isHolding l D Y Z H.size o a (upd (upd (upd (upd (upd (upd (upd I 26 g1602) 29 u63) 32 u45) 34 u57) 35 u58) 36 u59) 39 u60) (vp_updL (vp_updL (vp_updL (vp_updL (vp_updL J 30 u64) 31 u65) 33 u46) 37 u61) 38 u62) (vf_upd (vf_upd (vf_upd (vf_upd (vf_upd F 1 f66) 28 f67) 41 f69) 43 f71) 46 f652) (vf_upd (vf_upd (vf_upd (vf_upd G 25 f1603) 27 f81) 40 f68) 42 f70)  v82 g1600 (show (0 ≤ v82.toInt ∧ v82.toInt ≤ 17) by omega) (show (0 ≤ g1600.toInt ∧ g1600.toInt ≤ 11) by omega) (show CLok (F 7) (F 5) (v82.toInt).toNat (g1600.toInt).toNat 400 from (kv16952 g1600.toInt.toNat (by omega)))) ⟨hx, hb, hml, hown, hg⟩ lk_X11_369 ⟨CP.blind, va_recv hKN.1 hP (ci := 11) (q0 := 0) rfl rfl, CP.at hP hKN hD⟩ ⟨⟨rfl, rfl⟩, ⟨Nat.le_of_ble_eq_true rfl, Nat.le_of_ble_eq_true rfl⟩, ⟨Nat.le_of_ble_eq_true rfl, Nat.le_of_ble_eq_true rfl⟩⟩ hl.1 rfl (Nat.le_of_ble_eq_true rfl) dX11_weighs_184) hP hD hS hA (fun u1777 H locs w1778 hP hD hS => ?_)
            obtain ⟨u1779, u1780, f1781⟩ := u1777
            have hw1782 : (0 ≤ u1779.toInt ∧ u1779.toInt ≤ 1) := w1778
            clear w1778
            refine W.eq (g2 := F0 m 187 ls [.int u1779]) rfl ?_
            have hP : va_P D vwCl (MW Y o a (upd (upd (upd (upd (upd (upd (upd I 26 u1780) 29 u63) 32 u45) 34 u57) 35 u58) 36 u59) 39 u60) (vp_updL (vp_updL (vp_updL (vp_updL (vp_updL J 30 u64) 31 u65) 33 u46) 37 u61) 38 u62) (vf_upd (vf_upd (vf_upd (vf_upd (vf_upd F 1 f66) 28 f67) 41 f69) 43 f71) 46 f652) (vf_upd (vf_upd (vf_upd (vf_upd G 25 f1781) 27 f81) 40 f68) 42 f70)) H := hP
            have hD : va_D A (MW Y o a (upd (upd (upd (upd (upd (upd (upd I 26 u1780) 29 u63) 32 u45) 34 u57) 35 u58) 36 u59) 39 u60) (vp_updL (vp_updL (vp_updL (vp_updL (vp_updL J 30 u64) 31 u65) 33 u46) 37 u61) 38 u62) (vf_upd (vf_upd (vf_upd (vf_upd (vf_upd F 1 f66) 28 f67) 41 f69) 43 f71) 46 f652) (vf_upd (vf_upd (vf_upd (vf_upd G 25 f1781) 27 f81) 40 f68) 42 f70)) := hD
            rcases (show u1779.toInt = 1 ∨ u1779.toInt = 0 by omega) with c1783 | c1783
            · obtain rfl : u1779 = 1 := i_is c1783 (by decide)
              refine W.eq (g2 := F0 m 187 ls [.int 1]) rfl ?_
              refine lv_if_eq (tgt := 203) hx hb dX11_weighs_187 (by decide) (fun c1784 => ?_) (fun c1784 => ?_)
              · exact absurd c1784 (by decide)
              refine lv_lload hx hb dX11_weighs_190 (lv_at hl 1 rfl) ?_
              refine lv_aload_n hx hb dX11_weighs_192 rfl (lv_at hl 4 rfl) ?_
              refine lv_iload hx hb dX11_weighs_193 (lv_at hl 3 rfl) ?_
              refine lv_iload hx hb dX11_weighs_195 (lv_at hl 0 rfl) ?_
              refine cga (rn_V (As := [.int v82, .int g1600]) (rest := [.long g1601]) (b := o) (m_summed l D Y Z H.size o a (upd (upd (upd (upd (upd (upd (upd I 26 u1780) 29 u63) 32 u45) 34 u57) 35 u58) 36 u59) 39 u60) (vp_updL (vp_updL (vp_updL (vp_updL (vp_updL J 30 u64) 31 u65) 33 u46) 37 u61) 38 u62) (vf_upd (vf_upd (vf_upd (vf_upd (vf_upd F 1 f66) 28 f67) 41 f69) 43 f71) 46 f652) (vf_upd (vf_upd (vf_upd (vf_upd G 25 f1781) 27 f81) 40 f68) 42 f70)  v82 g1600 (show (0 ≤ v82.toInt ∧ v82.toInt ≤ 17) by omega) (show (0 ≤ g1600.toInt ∧ g1600.toInt ≤ 11) by omega) (show CLok (F 7) (F 5) (v82.toInt).toNat (g1600.toInt).toNat 400 from (kv16952 g1600.toInt.toNat (by omega)))) ⟨hx, hb, hml, hown, hg⟩ lk_X11_372 ⟨CP.blind, va_recv hKN.1 hP (ci := 11) (q0 := 0) rfl rfl, CP.at hP hKN hD⟩ ⟨⟨rfl, rfl⟩, ⟨Nat.le_of_ble_eq_true rfl, Nat.le_of_ble_eq_true rfl⟩, ⟨Nat.le_of_ble_eq_true rfl, Nat.le_of_ble_eq_true rfl⟩⟩ hl.1 rfl (Nat.le_of_ble_eq_true rfl) dX11_weighs_197) hP hD hS hA (fun u1785 H locs w1786 hP hD hS => ?_)
              obtain ⟨u1787, u1788, f1789⟩ := u1785
              refine W.eq (g2 := F0 m 200 ls [.long u1787, .long g1601]) rfl ?_
              have hP : va_P D vwCl (MW Y o a (upd (upd (upd (upd (upd (upd (upd I 26 u1788) 29 u63) 32 u45) 34 u57) 35 u58) 36 u59) 39 u60) (vp_updL (vp_updL (vp_updL (vp_updL (vp_updL J 30 u64) 31 u65) 33 u46) 37 u61) 38 u62) (vf_upd (vf_upd (vf_upd (vf_upd (vf_upd F 1 f66) 28 f67) 41 f69) 43 f71) 46 f652) (vf_upd (vf_upd (vf_upd (vf_upd G 25 f1789) 27 f81) 40 f68) 42 f70)) H := hP
              have hD : va_D A (MW Y o a (upd (upd (upd (upd (upd (upd (upd I 26 u1788) 29 u63) 32 u45) 34 u57) 35 u58) 36 u59) 39 u60) (vp_updL (vp_updL (vp_updL (vp_updL (vp_updL J 30 u64) 31 u65) 33 u46) 37 u61) 38 u62) (vf_upd (vf_upd (vf_upd (vf_upd (vf_upd F 1 f66) 28 f67) 41 f69) 43 f71) 46 f652) (vf_upd (vf_upd (vf_upd (vf_upd G 25 f1789) 27 f81) 40 f68) 42 f70)) := hD
              refine lv_ladd hx hb dX11_weighs_200 ?_
              refine lv_topl (fun v1790 ev1790 => ?_)
              refine lv_lstore (lv' := [(6, .long v1790), (8, .int g1600), (5, .int g649), (4, .int v82), (0, .ref o), (1, .int p1), (2, .int p2), (3, .int p3)]) hx hb dX11_weighs_201 hl (by decide) rfl (fun ls hl => ?_)
              refine W.widen (k := 0) (n := 0) (Nat.le_of_ble_eq_true rfl) (Nat.le_of_ble_eq_true rfl) ?_
              exact jn1773 (v1790, u1788, f1789) H locs ls ⟨hP, hD, hS, lv_sub hl [1, 0, 2, 3, 4, 5, 6, 7] rfl⟩
            · obtain rfl : u1779 = 0 := i_is c1783 (by decide)
              refine W.eq (g2 := F0 m 187 ls [.int 0]) rfl ?_
              refine lv_if_eq (tgt := 203) hx hb dX11_weighs_187 (by decide) (fun c1791 => ?_) (fun c1791 => ?_)
              rotate_left
              · exact absurd c1791 (by decide)
              refine W.widen (k := 0) (n := 0) (Nat.le_of_ble_eq_true rfl) (Nat.le_of_ble_eq_true rfl) ?_
              exact jn1773 (g1601, u1780, f1781) H locs ls ⟨hP, hD, hS, lv_sub hl [0, 1, 2, 3, 4, 5, 6, 7] rfl⟩
  · obtain rfl : u3 = 0 := i_is c25 (by decide)
    refine W.eq (g2 := F0 m 7 ls [.int 0]) rfl ?_
    refine lv_if_ne (tgt := 12) hx hb dX11_weighs_7 (by decide) (fun c1792 => ?_) (fun c1792 => ?_)
    · exact absurd c1792 (by decide)
    refine lv_iconst (v := 0) hx hb dX11_weighs_10 (by decide) ?_
    refine W.widen (k := 0) (n := 0) (Nat.le_of_ble_eq_true rfl) (Nat.le_of_ble_eq_true rfl) ?_
    exact W.zret (v := 0) hx hb hr (by decide) (fun t ht hW => ⟨⟨(0, u4, u5, u6, u7, u8, u9, u10, u11, u12, (I 32), (J 33), (I 26), f13, f14, f15, f16, f17, f18, (G 27), (G 25), (F 46)), rfl, ⟨(show (0 ≤ (0 : Int32).toInt ∧ (0 : Int32).toInt ≤ 1) by omega), hw24, hk4⟩, CB.mk ht hP hD⟩, hS.F ht⟩) hS.2.2 dX11_weighs_11
