set_option maxHeartbeats 4000000 in
set_option maxRecDepth 100000 in
theorem m_heldF (l : Launch) (D : va_G) (Y : Nat → ClassId) (Z : Nat → Nat) (sz : Nat)  (p0 : Int64) : Met l yX11_held (.code yX11_held cX11_held 6 (some .long) :: GW) ({ frames := 0, cells := 0, slots := 0, locals := 0 }) (va_Pc [.long p0, .long (-30000), .long 30000] (CP D Y Z [] sz)) (QG (S := Int64) (fun u => some (.long u)) (fun u => (-30000 ≤ u.toInt ∧ u.toInt ≤ 30000)) (fun u => CB D [] (va_A [] sz)) (va_A [] sz)) 0 0 (va_A [] sz) := by
  refine Met.ofW (cc := cX11_held) (maxL := 6) (ret := (some .long)) (by decide) rfl ?_
  intro p e s m args below meth c s₁ B hml hv
  obtain ⟨rfl, hsz, hP, hKN, hD0⟩ := hv
  have hx := B.exec
  have hb := B.bytes
  have hr := B.returns
  have hts := atoms_spec (ws := .code yX11_held cX11_held 6 (some .long) :: GW) B.pre
  have hg : ∀ w ∈ GW, w.before _ s = true := fun w h => hts w (List.mem_cons_of_mem _ h)
  have hown : s.vm.findClass RX11 = some m.cls := findClass_of_methodNamed B.named
  have hlocks := B.notSynchronized
  subst hsz
  have hD := hD0.self (sz := s.heap.size)
  generalize hAe : va_A [] s.heap.size = A at hD ⊢
  have hA : ∀ q : Nat, s.heap.size ≤ q → A q := fun q h => by rw [← hAe]; exact Or.inr h
  clear hAe hD0 hts B
  have hl := lv_entry ([.long p0, .long (-30000), .long 30000]) (n := 6) (Nat.le_of_ble_eq_true rfl)
  rw [lg_entry_eq]
  generalize (lg_sl ([.long p0, .long (-30000), .long 30000]) ++ List.replicate (6 - (lg_sl ([.long p0, .long (-30000), .long 30000])).length) Slot.unset).toArray = ls at hl ⊢
  have hl : lv_has ls 6 [(0, .long p0), (2, .long (-30000)), (4, .long 30000)] := hl
  refine w_start (A0 := A) hP (fun H locs hP hS => ?_)
  refine lv_lload_n hx hb dX11_held_0 rfl (lv_at hl 0 rfl) ?_
  refine lv_lload_n hx hb dX11_held_1 rfl (lv_at hl 1 rfl) ?_
  refine W.lcmp hx hb dX11_held_2 ?_
  refine lv_if_ge (tgt := 10) hx hb dX11_held_3 (by decide) (fun c3 => ?_) (fun c3 => ?_)
  · skip
    have c3 := l_ge (Eq.refl p0.toInt) (show ((-30000) : Int64).toInt = -30000 by decide) c3
    refine lv_lload_n hx hb dX11_held_10 rfl (lv_at hl 0 rfl) ?_
    refine lv_lload hx hb dX11_held_11 (lv_at hl 2 rfl) ?_
    refine W.lcmp hx hb dX11_held_13 ?_
    refine lv_if_le (tgt := 22) hx hb dX11_held_14 (by decide) (fun c5 => ?_) (fun c5 => ?_)
    · skip
      have c5 := l_le (Eq.refl p0.toInt) (show (30000 : Int64).toInt = 30000 by decide) c5
      refine lv_lload_n hx hb dX11_held_22 rfl (lv_at hl 0 rfl) ?_
      refine W.widen (k := 0) (n := 0) (Nat.le_of_ble_eq_true rfl) (Nat.le_of_ble_eq_true rfl) ?_
      have zlm30000 : ((-30000) : Int64).toInt = -30000 := by decide
      have zl30000 : (30000 : Int64).toInt = 30000 := by decide
      exact W.lret (v := p0) hx hb hr (fun t ht hW => ⟨⟨p0, rfl, ((show (-30000 ≤ p0.toInt ∧ p0.toInt ≤ 30000) by omega)), CB.nil⟩, hS.F ht⟩) hS.2.2 dX11_held_23
    · skip
      have c5 := l_nle (Eq.refl p0.toInt) (show (30000 : Int64).toInt = 30000 by decide) c5
      refine lv_lload hx hb dX11_held_17 (lv_at hl 2 rfl) ?_
      refine lv_goto (tgt := 23) hx hb dX11_held_19 (by decide) ?_
      refine W.widen (k := 0) (n := 0) (Nat.le_of_ble_eq_true rfl) (Nat.le_of_ble_eq_true rfl) ?_
      have zlm30000 : ((-30000) : Int64).toInt = -30000 := by decide
      have zl30000 : (30000 : Int64).toInt = 30000 := by decide
      exact W.lret (v := 30000) hx hb hr (fun t ht hW => ⟨⟨30000, rfl, ((show (-30000 ≤ (30000 : Int64).toInt ∧ (30000 : Int64).toInt ≤ 30000) by omega)), CB.nil⟩, hS.F ht⟩) hS.2.2 dX11_held_23
  · skip
    have c3 := l_nge (Eq.refl p0.toInt) (show ((-30000) : Int64).toInt = -30000 by decide) c3
    refine lv_lload_n hx hb dX11_held_6 rfl (lv_at hl 1 rfl) ?_
    refine lv_goto (tgt := 23) hx hb dX11_held_7 (by decide) ?_
    refine W.widen (k := 0) (n := 0) (Nat.le_of_ble_eq_true rfl) (Nat.le_of_ble_eq_true rfl) ?_
    have zlm30000 : ((-30000) : Int64).toInt = -30000 := by decide
    have zl30000 : (30000 : Int64).toInt = 30000 := by decide
    exact W.lret (v := (-30000)) hx hb hr (fun t ht hW => ⟨⟨(-30000), rfl, ((show (-30000 ≤ ((-30000) : Int64).toInt ∧ ((-30000) : Int64).toInt ≤ 30000) by omega)), CB.nil⟩, hS.F ht⟩) hS.2.2 dX11_held_23
set_option maxHeartbeats 4000000 in
set_option maxRecDepth 100000 in
theorem m_heldW (l : Launch) (D : va_G) (Y : Nat → ClassId) (Z : Nat → Nat) (sz : Nat)  (p0 : Int64) : Met l yX11_held (.code yX11_held cX11_held 6 (some .long) :: GW) ({ frames := 0, cells := 0, slots := 0, locals := 0 }) (va_Pc [.long p0, .long 0, .long 99999] (CP D Y Z [] sz)) (QG (S := Int64) (fun u => some (.long u)) (fun u => (0 ≤ u.toInt ∧ u.toInt ≤ 99999)) (fun u => CB D [] (va_A [] sz)) (va_A [] sz)) 0 0 (va_A [] sz) := by
  refine Met.ofW (cc := cX11_held) (maxL := 6) (ret := (some .long)) (by decide) rfl ?_
  intro p e s m args below meth c s₁ B hml hv
  obtain ⟨rfl, hsz, hP, hKN, hD0⟩ := hv
  have hx := B.exec
  have hb := B.bytes
  have hr := B.returns
  have hts := atoms_spec (ws := .code yX11_held cX11_held 6 (some .long) :: GW) B.pre
  have hg : ∀ w ∈ GW, w.before _ s = true := fun w h => hts w (List.mem_cons_of_mem _ h)
  have hown : s.vm.findClass RX11 = some m.cls := findClass_of_methodNamed B.named
  have hlocks := B.notSynchronized
  subst hsz
  have hD := hD0.self (sz := s.heap.size)
  generalize hAe : va_A [] s.heap.size = A at hD ⊢
  have hA : ∀ q : Nat, s.heap.size ≤ q → A q := fun q h => by rw [← hAe]; exact Or.inr h
  clear hAe hD0 hts B
  have hl := lv_entry ([.long p0, .long 0, .long 99999]) (n := 6) (Nat.le_of_ble_eq_true rfl)
  rw [lg_entry_eq]
  generalize (lg_sl ([.long p0, .long 0, .long 99999]) ++ List.replicate (6 - (lg_sl ([.long p0, .long 0, .long 99999])).length) Slot.unset).toArray = ls at hl ⊢
  have hl : lv_has ls 6 [(0, .long p0), (2, .long 0), (4, .long 99999)] := hl
  refine w_start (A0 := A) hP (fun H locs hP hS => ?_)
  refine lv_lload_n hx hb dX11_held_0 rfl (lv_at hl 0 rfl) ?_
  refine lv_lload_n hx hb dX11_held_1 rfl (lv_at hl 1 rfl) ?_
  refine W.lcmp hx hb dX11_held_2 ?_
  refine lv_if_ge (tgt := 10) hx hb dX11_held_3 (by decide) (fun c3 => ?_) (fun c3 => ?_)
  · skip
    have c3 := l_ge (Eq.refl p0.toInt) (show (0 : Int64).toInt = 0 by decide) c3
    refine lv_lload_n hx hb dX11_held_10 rfl (lv_at hl 0 rfl) ?_
    refine lv_lload hx hb dX11_held_11 (lv_at hl 2 rfl) ?_
    refine W.lcmp hx hb dX11_held_13 ?_
    refine lv_if_le (tgt := 22) hx hb dX11_held_14 (by decide) (fun c5 => ?_) (fun c5 => ?_)
    · skip
      have c5 := l_le (Eq.refl p0.toInt) (show (99999 : Int64).toInt = 99999 by decide) c5
      refine lv_lload_n hx hb dX11_held_22 rfl (lv_at hl 0 rfl) ?_
      refine W.widen (k := 0) (n := 0) (Nat.le_of_ble_eq_true rfl) (Nat.le_of_ble_eq_true rfl) ?_
      have zl0 : (0 : Int64).toInt = 0 := by decide
      have zl99999 : (99999 : Int64).toInt = 99999 := by decide
      exact W.lret (v := p0) hx hb hr (fun t ht hW => ⟨⟨p0, rfl, ((show (0 ≤ p0.toInt ∧ p0.toInt ≤ 99999) by omega)), CB.nil⟩, hS.F ht⟩) hS.2.2 dX11_held_23
    · skip
      have c5 := l_nle (Eq.refl p0.toInt) (show (99999 : Int64).toInt = 99999 by decide) c5
      refine lv_lload hx hb dX11_held_17 (lv_at hl 2 rfl) ?_
      refine lv_goto (tgt := 23) hx hb dX11_held_19 (by decide) ?_
      refine W.widen (k := 0) (n := 0) (Nat.le_of_ble_eq_true rfl) (Nat.le_of_ble_eq_true rfl) ?_
      have zl0 : (0 : Int64).toInt = 0 := by decide
      have zl99999 : (99999 : Int64).toInt = 99999 := by decide
      exact W.lret (v := 99999) hx hb hr (fun t ht hW => ⟨⟨99999, rfl, ((show (0 ≤ (99999 : Int64).toInt ∧ (99999 : Int64).toInt ≤ 99999) by omega)), CB.nil⟩, hS.F ht⟩) hS.2.2 dX11_held_23
  · skip
    have c3 := l_nge (Eq.refl p0.toInt) (show (0 : Int64).toInt = 0 by decide) c3
    refine lv_lload_n hx hb dX11_held_6 rfl (lv_at hl 1 rfl) ?_
    refine lv_goto (tgt := 23) hx hb dX11_held_7 (by decide) ?_
    refine W.widen (k := 0) (n := 0) (Nat.le_of_ble_eq_true rfl) (Nat.le_of_ble_eq_true rfl) ?_
    have zl0 : (0 : Int64).toInt = 0 := by decide
    have zl99999 : (99999 : Int64).toInt = 99999 := by decide
    exact W.lret (v := 0) hx hb hr (fun t ht hW => ⟨⟨0, rfl, ((show (0 ≤ (0 : Int64).toInt ∧ (0 : Int64).toInt ≤ 99999) by omega)), CB.nil⟩, hS.F ht⟩) hS.2.2 dX11_held_23
set_option maxHeartbeats 4000000 in
set_option maxRecDepth 100000 in
theorem m_weighs (l : Launch) (D : va_G) (Y : Nat → ClassId) (Z : Nat → Nat) (sz : Nat) (o : Nat) (a : Nat → Nat) (I : Nat → Int32) (J : Nat → Int64) (F : Nat → Nat → Int32) (G : Nat → Nat → Int64) (p1 : Int32) (p2 : Int32) (p3 : Int32) (hk_0 : (0 ≤ p1.toInt ∧ p1.toInt ≤ 5)) (hk_1 : (p1.toInt < ((F 4) 2).toInt)) (hk_2 : (0 ≤ p2.toInt ∧ p2.toInt ≤ 5)) (hk_3 : (p2.toInt < ((F 4) 1).toInt)) (hk_4 : (0 ≤ p3.toInt ∧ p3.toInt ≤ 11)) (hk0 : TO (F 0)) (hk1 : LB (F 28)) (hk2 : TX (F 4) (F 9) (F 10) (F 11) (F 12) (F 13)) (hk3 : TC (F 4) (F 8) (F 7) (F 5)) (hk4 : WG (F 46)) : Met l yX11_weighs (.code yX11_weighs cX11_weighs 9 (some .boolean) :: GW) ({ frames := 8, cells := 0, slots := 0, locals := 195 }) (va_Pc [.ref o, .int p1, .int p2, .int p3] (CP D Y Z (MW Y o a I J F G) sz)) (QG (S := Int32 × Int32 × Int32 × Int32 × Int32 × Int64 × Int64 × Int32 × Int64 × Int64 × Int32 × Int64 × Int32 × (Nat → Int32) × (Nat → Int32) × (Nat → Int64) × (Nat → Int32) × (Nat → Int64) × (Nat → Int32) × (Nat → Int64) × (Nat → Int64) × (Nat → Int32)) (fun u => some (.int u.1)) (fun u => (0 ≤ u.1.toInt ∧ u.1.toInt ≤ 1) ∧ LB u.2.2.2.2.2.2.2.2.2.2.2.2.2.2.1 ∧ WG u.2.2.2.2.2.2.2.2.2.2.2.2.2.2.2.2.2.2.2.2.2) (fun u => CB D (MW Y o a (upd (upd (upd (upd (upd (upd (upd I 26 u.2.2.2.2.2.2.2.2.2.2.2.2.1) 29 u.2.2.2.2.2.2.2.1) 32 u.2.2.2.2.2.2.2.2.2.2.1) 34 u.2.1) 35 u.2.2.1) 36 u.2.2.2.1) 39 u.2.2.2.2.1) (vp_updL (vp_updL (vp_updL (vp_updL (vp_updL J 30 u.2.2.2.2.2.2.2.2.1) 31 u.2.2.2.2.2.2.2.2.2.1) 33 u.2.2.2.2.2.2.2.2.2.2.2.1) 37 u.2.2.2.2.2.1) 38 u.2.2.2.2.2.2.1) (vf_upd (vf_upd (vf_upd (vf_upd (vf_upd F 1 u.2.2.2.2.2.2.2.2.2.2.2.2.2.1) 28 u.2.2.2.2.2.2.2.2.2.2.2.2.2.2.1) 41 u.2.2.2.2.2.2.2.2.2.2.2.2.2.2.2.2.1) 43 u.2.2.2.2.2.2.2.2.2.2.2.2.2.2.2.2.2.2.1) 46 u.2.2.2.2.2.2.2.2.2.2.2.2.2.2.2.2.2.2.2.2.2) (vf_upd (vf_upd (vf_upd (vf_upd G 25 u.2.2.2.2.2.2.2.2.2.2.2.2.2.2.2.2.2.2.2.2.1) 27 u.2.2.2.2.2.2.2.2.2.2.2.2.2.2.2.2.2.2.2.1) 40 u.2.2.2.2.2.2.2.2.2.2.2.2.2.2.2.1) 42 u.2.2.2.2.2.2.2.2.2.2.2.2.2.2.2.2.2.1)) (va_A (MW Y o a I J F G) sz)) (va_A (MW Y o a I J F G) sz)) 0 0 (va_A (MW Y o a I J F G) sz) := by
  refine Met.ofW (cc := cX11_weighs) (maxL := 9) (ret := (some .boolean)) (by decide) rfl ?_
  intro p e s m args below meth c s₁ B hml hv
  obtain ⟨rfl, hsz, hP, hKN, hD0⟩ := hv
  have hx := B.exec
  have hb := B.bytes
  have hr := B.returns
  have hts := atoms_spec (ws := .code yX11_weighs cX11_weighs 9 (some .boolean) :: GW) B.pre
  have hg : ∀ w ∈ GW, w.before _ s = true := fun w h => hts w (List.mem_cons_of_mem _ h)
  have hown : s.vm.findClass RX11 = some m.cls := findClass_of_methodNamed B.named
  have hlocks := B.notSynchronized
  subst hsz
  have hD := hD0.self (sz := s.heap.size)
  generalize hAe : va_A (MW Y o a I J F G) s.heap.size = A at hD ⊢
  have hA : ∀ q : Nat, s.heap.size ≤ q → A q := fun q h => by rw [← hAe]; exact Or.inr h
  clear hAe hD0 hts B
  have hl := lv_entry ([.ref o, .int p1, .int p2, .int p3]) (n := 9) (Nat.le_of_ble_eq_true rfl)
  rw [lg_entry_eq]
  generalize (lg_sl ([.ref o, .int p1, .int p2, .int p3]) ++ List.replicate (9 - (lg_sl ([.ref o, .int p1, .int p2, .int p3])).length) Slot.unset).toArray = ls at hl ⊢
  have hl : lv_has ls 9 [(0, .ref o), (1, .int p1), (2, .int p2), (3, .int p3)] := hl
  refine w_start (A0 := A) hP (fun H locs hP hS => ?_)
  refine lv_aload_n hx hb dX11_weighs_0 rfl (lv_at hl 0 rfl) ?_
  refine lv_iload_n hx hb dX11_weighs_1 rfl (lv_at hl 2 rfl) ?_
  refine lv_iload_n hx hb dX11_weighs_2 rfl (lv_at hl 3 rfl) ?_
  refine lv_iconst (v := 0) hx hb dX11_weighs_3 (by decide) ?_
  have zi0 : (0 : Int32).toInt = 0 := by decide
  refine cga (rn_V (As := [.int p2, .int p3, .int 0]) (rest := []) (b := o) (m_finds l D Y Z H.size o a I J F G  p2 p3 0 (show (0 ≤ p2.toInt ∧ p2.toInt ≤ 5) by omega) (show (p2.toInt < ((F 4) 1).toInt) by omega) (show (0 ≤ p3.toInt ∧ p3.toInt ≤ 11) by omega) (show (0 ≤ (0 : Int32).toInt ∧ (0 : Int32).toInt ≤ 5) by omega) hk0 hk1 hk2) ⟨hx, hb, hml, hown, hg⟩ lk_X11_487 ⟨CP.blind, va_recv hKN.1 hP (ci := 11) (q0 := 0) rfl rfl, CP.at hP hKN hD⟩ ⟨⟨rfl, rfl⟩, ⟨Nat.le_of_ble_eq_true rfl, Nat.le_of_ble_eq_true rfl⟩, ⟨Nat.le_of_ble_eq_true rfl, Nat.le_of_ble_eq_true rfl⟩⟩ hl.1 rfl (Nat.le_of_ble_eq_true rfl) dX11_weighs_4) hP hD hS hA (fun u1 H locs w2 hP hD hS => ?_)
  obtain ⟨u3, u4, u5, u6, u7, u8, u9, u10, u11, u12, f13, f14, f15, f16, f17, f18⟩ := u1
  obtain ⟨hw19, hw20, hw21, hw22, hw23, hw24⟩ : ((u3.toInt = 1 ∧ 1 ≤ u9.toInt ∧ 2 ≤ u4.toInt ∧ u4.toInt ≤ 200 ∧ 1 ≤ u5.toInt ∧ u5.toInt ≤ 10 ∧ 0 ≤ u6.toInt ∧ u6.toInt < u4.toInt ∧ -9000000000000 ≤ u8.toInt ∧ u8.toInt ≤ 9000000000000 ∧ (cin f14 (u4.toInt).toNat (u5.toInt).toNat (u6.toInt).toNat 600 : Int) ≠ u10.toInt) ∨ u3.toInt = 0) ∧ (0 ≤ u3.toInt ∧ u3.toInt ≤ 1) ∧ (0 ≤ u10.toInt ∧ u10.toInt ≤ 600) ∧ (-60000000 ≤ u11.toInt ∧ u11.toInt ≤ 60000000) ∧ (1 ≤ u12.toInt) ∧ LB f14 := w2
  refine W.eq (g2 := F0 m 7 ls [.int u3]) rfl ?_
  have hP : va_P D vwCl (MW Y o a (upd (upd (upd (upd (upd I 29 u10) 34 u4) 35 u5) 36 u6) 39 u7) (vp_updL (vp_updL (vp_updL (vp_updL J 30 u11) 31 u12) 37 u8) 38 u9) (vf_upd (vf_upd (vf_upd (vf_upd F 1 f13) 28 f14) 41 f16) 43 f18) (vf_upd (vf_upd G 40 f15) 42 f17)) H := hP
  have hD : va_D A (MW Y o a (upd (upd (upd (upd (upd I 29 u10) 34 u4) 35 u5) 36 u6) 39 u7) (vp_updL (vp_updL (vp_updL (vp_updL J 30 u11) 31 u12) 37 u8) 38 u9) (vf_upd (vf_upd (vf_upd (vf_upd F 1 f13) 28 f14) 41 f16) 43 f18) (vf_upd (vf_upd G 40 f15) 42 f17)) := hD
  rcases (show u3.toInt = 1 ∨ u3.toInt = 0 by omega) with c25 | c25
  · obtain rfl : u3 = 1 := i_is c25 (by decide)
    have zi1 : (1 : Int32).toInt = 1 := by decide
    refine W.eq (g2 := F0 m 7 ls [.int 1]) rfl ?_
    refine lv_if_ne (tgt := 12) hx hb dX11_weighs_7 (by decide) (fun c26 => ?_) (fun c26 => ?_)
    rotate_left
    · exact absurd c26 (by decide)
    refine lv_aload_n hx hb dX11_weighs_12 rfl (lv_at hl 0 rfl) ?_
    refine va_get (D := D) (ci := 11) (v := .ref (a 27)) (C := RX11) (T := TX11) (N := 49) hx hb hg inGX11 hown hKN.1 hP 0 rfl rfl 27 (by decide) (hg _ kw_1235) (fun _ h9 => h9) rfl dX11_weighs_13 ?_
    refine lv_iconst (v := 0) hx hb dX11_weighs_16 (by decide) ?_
    refine lv_aload_n hx hb dX11_weighs_17 rfl (lv_at hl 0 rfl) ?_
    refine va_get (D := D) (ci := 11) (v := .int u4) (C := RX11) (T := TX11) (N := 49) hx hb hg inGX11 hown hKN.1 hP 0 rfl rfl 34 (by decide) (hg _ kw_1242) (fun _ h9 => h9) rfl dX11_weighs_18 ?_
    have j27 := Int32.toInt_toInt64 u4
    refine lv_i2l (v := u4.toInt64) hx hb dX11_weighs_21 (rfl) ?_
    refine va_last hx hb hKN.1 hP hD hS 18 1 rfl rfl (show ¬ ((0 : Int32) < 0 ∨ 10 ≤ (0 : Int32).toNatClampNeg) by decide) dX11_weighs_22 (fun H locs hP hD hS => ?_)
    obtain ⟨f28, ef28, hP, hD⟩ : ∃ f28 : Nat → Int64, f28 = vp_updL (G 27) 0 u4.toInt64 ∧ va_P D vwCl (MW Y o a (upd (upd (upd (upd (upd I 29 u10) 34 u4) 35 u5) 36 u6) 39 u7) (vp_updL (vp_updL (vp_updL (vp_updL J 30 u11) 31 u12) 37 u8) 38 u9) (vf_upd (vf_upd (vf_upd (vf_upd F 1 f13) 28 f14) 41 f16) 43 f18) (vf_upd (vf_upd (vf_upd G 27 f28) 40 f15) 42 f17)) H ∧ va_D A (MW Y o a (upd (upd (upd (upd (upd I 29 u10) 34 u4) 35 u5) 36 u6) 39 u7) (vp_updL (vp_updL (vp_updL (vp_updL J 30 u11) 31 u12) 37 u8) 38 u9) (vf_upd (vf_upd (vf_upd (vf_upd F 1 f13) 28 f14) 41 f16) 43 f18) (vf_upd (vf_upd (vf_upd G 27 f28) 40 f15) 42 f17)) := ⟨_, rfl, hP, hD⟩
    refine lv_aload_n hx hb dX11_weighs_23 rfl (lv_at hl 0 rfl) ?_
    refine va_get (D := D) (ci := 11) (v := .ref (a 27)) (C := RX11) (T := TX11) (N := 49) hx hb hg inGX11 hown hKN.1 hP 0 rfl rfl 27 (by decide) (hg _ kw_1235) (fun _ h9 => h9) rfl dX11_weighs_24 ?_
    refine lv_iconst (v := 1) hx hb dX11_weighs_27 (by decide) ?_
    refine lv_aload_n hx hb dX11_weighs_28 rfl (lv_at hl 0 rfl) ?_
    refine va_get (D := D) (ci := 11) (v := .int u5) (C := RX11) (T := TX11) (N := 49) hx hb hg inGX11 hown hKN.1 hP 0 rfl rfl 35 (by decide) (hg _ kw_1243) (fun _ h9 => h9) rfl dX11_weighs_29 ?_
    have j29 := Int32.toInt_toInt64 u5
    refine lv_i2l (v := u5.toInt64) hx hb dX11_weighs_32 (rfl) ?_
    refine va_last hx hb hKN.1 hP hD hS 18 1 rfl rfl (show ¬ ((1 : Int32) < 0 ∨ 10 ≤ (1 : Int32).toNatClampNeg) by decide) dX11_weighs_33 (fun H locs hP hD hS => ?_)
    obtain ⟨f30, ef30, hP, hD⟩ : ∃ f30 : Nat → Int64, f30 = vp_updL f28 1 u5.toInt64 ∧ va_P D vwCl (MW Y o a (upd (upd (upd (upd (upd I 29 u10) 34 u4) 35 u5) 36 u6) 39 u7) (vp_updL (vp_updL (vp_updL (vp_updL J 30 u11) 31 u12) 37 u8) 38 u9) (vf_upd (vf_upd (vf_upd (vf_upd F 1 f13) 28 f14) 41 f16) 43 f18) (vf_upd (vf_upd (vf_upd G 27 f30) 40 f15) 42 f17)) H ∧ va_D A (MW Y o a (upd (upd (upd (upd (upd I 29 u10) 34 u4) 35 u5) 36 u6) 39 u7) (vp_updL (vp_updL (vp_updL (vp_updL J 30 u11) 31 u12) 37 u8) 38 u9) (vf_upd (vf_upd (vf_upd (vf_upd F 1 f13) 28 f14) 41 f16) 43 f18) (vf_upd (vf_upd (vf_upd G 27 f30) 40 f15) 42 f17)) := ⟨_, rfl, hP, hD⟩
    refine lv_aload_n hx hb dX11_weighs_34 rfl (lv_at hl 0 rfl) ?_
    refine va_get (D := D) (ci := 11) (v := .ref (a 27)) (C := RX11) (T := TX11) (N := 49) hx hb hg inGX11 hown hKN.1 hP 0 rfl rfl 27 (by decide) (hg _ kw_1235) (fun _ h9 => h9) rfl dX11_weighs_35 ?_
    refine lv_iconst (v := 2) hx hb dX11_weighs_38 (by decide) ?_
    refine lv_aload_n hx hb dX11_weighs_39 rfl (lv_at hl 0 rfl) ?_
    refine va_get (D := D) (ci := 11) (v := .long u8) (C := RX11) (T := TX11) (N := 49) hx hb hg inGX11 hown hKN.1 hP 0 rfl rfl 37 (by decide) (hg _ kw_1245) (fun _ h9 => h9) rfl dX11_weighs_40 ?_
    refine va_last hx hb hKN.1 hP hD hS 18 1 rfl rfl (show ¬ ((2 : Int32) < 0 ∨ 10 ≤ (2 : Int32).toNatClampNeg) by decide) dX11_weighs_43 (fun H locs hP hD hS => ?_)
    obtain ⟨f31, ef31, hP, hD⟩ : ∃ f31 : Nat → Int64, f31 = vp_updL f30 2 u8 ∧ va_P D vwCl (MW Y o a (upd (upd (upd (upd (upd I 29 u10) 34 u4) 35 u5) 36 u6) 39 u7) (vp_updL (vp_updL (vp_updL (vp_updL J 30 u11) 31 u12) 37 u8) 38 u9) (vf_upd (vf_upd (vf_upd (vf_upd F 1 f13) 28 f14) 41 f16) 43 f18) (vf_upd (vf_upd (vf_upd G 27 f31) 40 f15) 42 f17)) H ∧ va_D A (MW Y o a (upd (upd (upd (upd (upd I 29 u10) 34 u4) 35 u5) 36 u6) 39 u7) (vp_updL (vp_updL (vp_updL (vp_updL J 30 u11) 31 u12) 37 u8) 38 u9) (vf_upd (vf_upd (vf_upd (vf_upd F 1 f13) 28 f14) 41 f16) 43 f18) (vf_upd (vf_upd (vf_upd G 27 f31) 40 f15) 42 f17)) := ⟨_, rfl, hP, hD⟩
    refine lv_aload_n hx hb dX11_weighs_44 rfl (lv_at hl 0 rfl) ?_
    refine va_get (D := D) (ci := 11) (v := .ref (a 27)) (C := RX11) (T := TX11) (N := 49) hx hb hg inGX11 hown hKN.1 hP 0 rfl rfl 27 (by decide) (hg _ kw_1235) (fun _ h9 => h9) rfl dX11_weighs_45 ?_
    refine lv_iconst (v := 3) hx hb dX11_weighs_48 (by decide) ?_
    refine lv_aload_n hx hb dX11_weighs_49 rfl (lv_at hl 0 rfl) ?_
    refine va_get (D := D) (ci := 11) (v := .long u9) (C := RX11) (T := TX11) (N := 49) hx hb hg inGX11 hown hKN.1 hP 0 rfl rfl 38 (by decide) (hg _ kw_1246) (fun _ h9 => h9) rfl dX11_weighs_50 ?_
    refine va_last hx hb hKN.1 hP hD hS 18 1 rfl rfl (show ¬ ((3 : Int32) < 0 ∨ 10 ≤ (3 : Int32).toNatClampNeg) by decide) dX11_weighs_53 (fun H locs hP hD hS => ?_)
    obtain ⟨f32, ef32, hP, hD⟩ : ∃ f32 : Nat → Int64, f32 = vp_updL f31 3 u9 ∧ va_P D vwCl (MW Y o a (upd (upd (upd (upd (upd I 29 u10) 34 u4) 35 u5) 36 u6) 39 u7) (vp_updL (vp_updL (vp_updL (vp_updL J 30 u11) 31 u12) 37 u8) 38 u9) (vf_upd (vf_upd (vf_upd (vf_upd F 1 f13) 28 f14) 41 f16) 43 f18) (vf_upd (vf_upd (vf_upd G 27 f32) 40 f15) 42 f17)) H ∧ va_D A (MW Y o a (upd (upd (upd (upd (upd I 29 u10) 34 u4) 35 u5) 36 u6) 39 u7) (vp_updL (vp_updL (vp_updL (vp_updL J 30 u11) 31 u12) 37 u8) 38 u9) (vf_upd (vf_upd (vf_upd (vf_upd F 1 f13) 28 f14) 41 f16) 43 f18) (vf_upd (vf_upd (vf_upd G 27 f32) 40 f15) 42 f17)) := ⟨_, rfl, hP, hD⟩
    refine lv_aload_n hx hb dX11_weighs_54 rfl (lv_at hl 0 rfl) ?_
    refine va_get (D := D) (ci := 11) (v := .ref (a 27)) (C := RX11) (T := TX11) (N := 49) hx hb hg inGX11 hown hKN.1 hP 0 rfl rfl 27 (by decide) (hg _ kw_1235) (fun _ h9 => h9) rfl dX11_weighs_55 ?_
    refine lv_iconst (v := 4) hx hb dX11_weighs_58 (by decide) ?_
    refine lv_aload_n hx hb dX11_weighs_59 rfl (lv_at hl 0 rfl) ?_
    refine va_get (D := D) (ci := 11) (v := .int u7) (C := RX11) (T := TX11) (N := 49) hx hb hg inGX11 hown hKN.1 hP 0 rfl rfl 39 (by decide) (hg _ kw_1247) (fun _ h9 => h9) rfl dX11_weighs_60 ?_
    have j33 := rgI u7
    have j34 := Int32.toInt_toInt64 u7
    refine lv_i2l (v := u7.toInt64) hx hb dX11_weighs_63 (rfl) ?_
    refine va_last hx hb hKN.1 hP hD hS 18 1 rfl rfl (show ¬ ((4 : Int32) < 0 ∨ 10 ≤ (4 : Int32).toNatClampNeg) by decide) dX11_weighs_64 (fun H locs hP hD hS => ?_)
    obtain ⟨f35, ef35, hP, hD⟩ : ∃ f35 : Nat → Int64, f35 = vp_updL f32 4 u7.toInt64 ∧ va_P D vwCl (MW Y o a (upd (upd (upd (upd (upd I 29 u10) 34 u4) 35 u5) 36 u6) 39 u7) (vp_updL (vp_updL (vp_updL (vp_updL J 30 u11) 31 u12) 37 u8) 38 u9) (vf_upd (vf_upd (vf_upd (vf_upd F 1 f13) 28 f14) 41 f16) 43 f18) (vf_upd (vf_upd (vf_upd G 27 f35) 40 f15) 42 f17)) H ∧ va_D A (MW Y o a (upd (upd (upd (upd (upd I 29 u10) 34 u4) 35 u5) 36 u6) 39 u7) (vp_updL (vp_updL (vp_updL (vp_updL J 30 u11) 31 u12) 37 u8) 38 u9) (vf_upd (vf_upd (vf_upd (vf_upd F 1 f13) 28 f14) 41 f16) 43 f18) (vf_upd (vf_upd (vf_upd G 27 f35) 40 f15) 42 f17)) := ⟨_, rfl, hP, hD⟩
    refine lv_aload_n hx hb dX11_weighs_65 rfl (lv_at hl 0 rfl) ?_
    refine va_get (D := D) (ci := 11) (v := .ref (a 27)) (C := RX11) (T := TX11) (N := 49) hx hb hg inGX11 hown hKN.1 hP 0 rfl rfl 27 (by decide) (hg _ kw_1235) (fun _ h9 => h9) rfl dX11_weighs_66 ?_
    refine lv_iconst (v := 5) hx hb dX11_weighs_69 (by decide) ?_
    refine lv_aload_n hx hb dX11_weighs_70 rfl (lv_at hl 0 rfl) ?_
    refine cga (rn_V (As := []) (rest := [.int 5, .ref (a 27)]) (b := o) (m_oddness l D Y Z H.size o a (upd (upd (upd (upd (upd I 29 u10) 34 u4) 35 u5) 36 u6) 39 u7) (vp_updL (vp_updL (vp_updL (vp_updL J 30 u11) 31 u12) 37 u8) 38 u9) (vf_upd (vf_upd (vf_upd (vf_upd F 1 f13) 28 f14) 41 f16) 43 f18) (vf_upd (vf_upd (vf_upd G 27 f35) 40 f15) 42 f17)   (show (2 ≤ u4.toInt ∧ u4.toInt ≤ 200) by omega) (show (1 ≤ u5.toInt ∧ u5.toInt ≤ 10) by omega) (show (0 ≤ u6.toInt ∧ u6.toInt ≤ 199) by omega) (show (u6.toInt < u4.toInt) by omega) (show (0 ≤ u10.toInt ∧ u10.toInt ≤ 600) by omega) (show ((cin f14 (u4.toInt).toNat (u5.toInt).toNat (u6.toInt).toNat 600 : Int) ≠ u10.toInt) by omega)) ⟨hx, hb, hml, hown, hg⟩ lk_X11_529 ⟨CP.blind, va_recv hKN.1 hP (ci := 11) (q0 := 0) rfl rfl, CP.at hP hKN hD⟩ ⟨⟨rfl, rfl⟩, ⟨Nat.le_of_ble_eq_true rfl, Nat.le_of_ble_eq_true rfl⟩, ⟨Nat.le_of_ble_eq_true rfl, Nat.le_of_ble_eq_true rfl⟩⟩ hl.1 rfl (Nat.le_of_ble_eq_true rfl) dX11_weighs_71) hP hD hS hA (fun u36 H locs w37 hP hD hS => ?_)
    obtain ⟨u38, u39, u40⟩ := u36
    refine W.eq (g2 := F0 m 74 ls [.long u38, .int 5, .ref (a 27)]) rfl ?_
    have hP : va_P D vwCl (MW Y o a (upd (upd (upd (upd (upd (upd I 29 u10) 32 u39) 34 u4) 35 u5) 36 u6) 39 u7) (vp_updL (vp_updL (vp_updL (vp_updL (vp_updL J 30 u11) 31 u12) 33 u40) 37 u8) 38 u9) (vf_upd (vf_upd (vf_upd (vf_upd F 1 f13) 28 f14) 41 f16) 43 f18) (vf_upd (vf_upd (vf_upd G 27 f35) 40 f15) 42 f17)) H := hP
    have hD : va_D A (MW Y o a (upd (upd (upd (upd (upd (upd I 29 u10) 32 u39) 34 u4) 35 u5) 36 u6) 39 u7) (vp_updL (vp_updL (vp_updL (vp_updL (vp_updL J 30 u11) 31 u12) 33 u40) 37 u8) 38 u9) (vf_upd (vf_upd (vf_upd (vf_upd F 1 f13) 28 f14) 41 f16) 43 f18) (vf_upd (vf_upd (vf_upd G 27 f35) 40 f15) 42 f17)) := hD
    refine va_last hx hb hKN.1 hP hD hS 18 1 rfl rfl (show ¬ ((5 : Int32) < 0 ∨ 10 ≤ (5 : Int32).toNatClampNeg) by decide) dX11_weighs_74 (fun H locs hP hD hS => ?_)
    obtain ⟨f41, ef41, hP, hD⟩ : ∃ f41 : Nat → Int64, f41 = vp_updL f35 5 u38 ∧ va_P D vwCl (MW Y o a (upd (upd (upd (upd (upd (upd I 29 u10) 32 u39) 34 u4) 35 u5) 36 u6) 39 u7) (vp_updL (vp_updL (vp_updL (vp_updL (vp_updL J 30 u11) 31 u12) 33 u40) 37 u8) 38 u9) (vf_upd (vf_upd (vf_upd (vf_upd F 1 f13) 28 f14) 41 f16) 43 f18) (vf_upd (vf_upd (vf_upd G 27 f41) 40 f15) 42 f17)) H ∧ va_D A (MW Y o a (upd (upd (upd (upd (upd (upd I 29 u10) 32 u39) 34 u4) 35 u5) 36 u6) 39 u7) (vp_updL (vp_updL (vp_updL (vp_updL (vp_updL J 30 u11) 31 u12) 33 u40) 37 u8) 38 u9) (vf_upd (vf_upd (vf_upd (vf_upd F 1 f13) 28 f14) 41 f16) 43 f18) (vf_upd (vf_upd (vf_upd G 27 f41) 40 f15) 42 f17)) := ⟨_, rfl, hP, hD⟩
    refine lv_aload_n hx hb dX11_weighs_75 rfl (lv_at hl 0 rfl) ?_
    refine va_get (D := D) (ci := 11) (v := .ref (a 27)) (C := RX11) (T := TX11) (N := 49) hx hb hg inGX11 hown hKN.1 hP 0 rfl rfl 27 (by decide) (hg _ kw_1235) (fun _ h9 => h9) rfl dX11_weighs_76 ?_
    refine lv_bipush (v := 6) hx hb dX11_weighs_79 (by decide) ?_
    refine lv_aload_n hx hb dX11_weighs_81 rfl (lv_at hl 0 rfl) ?_
    refine cga (rn_V (As := []) (rest := [.int 6, .ref (a 27)]) (b := o) (m_shapeOf l D Y Z H.size o a (upd (upd (upd (upd (upd (upd I 29 u10) 32 u39) 34 u4) 35 u5) 36 u6) 39 u7) (vp_updL (vp_updL (vp_updL (vp_updL (vp_updL J 30 u11) 31 u12) 33 u40) 37 u8) 38 u9) (vf_upd (vf_upd (vf_upd (vf_upd F 1 f13) 28 f14) 41 f16) 43 f18) (vf_upd (vf_upd (vf_upd G 27 f41) 40 f15) 42 f17)   (show (2 ≤ u4.toInt ∧ u4.toInt ≤ 200) by omega) (show (1 ≤ u5.toInt ∧ u5.toInt ≤ 10) by omega) (show (0 ≤ u6.toInt ∧ u6.toInt ≤ 199) by omega) (show (u6.toInt < u4.toInt) by omega) (show (0 ≤ u10.toInt ∧ u10.toInt ≤ 600) by omega) (show ((cin f14 (u4.toInt).toNat (u5.toInt).toNat (u6.toInt).toNat 600 : Int) ≠ u10.toInt) by omega)) ⟨hx, hb, hml, hown, hg⟩ lk_X11_532 ⟨CP.blind, va_recv hKN.1 hP (ci := 11) (q0 := 0) rfl rfl, CP.at hP hKN hD⟩ ⟨⟨rfl, rfl⟩, ⟨Nat.le_of_ble_eq_true rfl, Nat.le_of_ble_eq_true rfl⟩, ⟨Nat.le_of_ble_eq_true rfl, Nat.le_of_ble_eq_true rfl⟩⟩ hl.1 rfl (Nat.le_of_ble_eq_true rfl) dX11_weighs_82) hP hD hS hA (fun u42 H locs w43 hP hD hS => ?_)
    obtain ⟨u44, u45, u46⟩ := u42
    refine W.eq (g2 := F0 m 85 ls [.long u44, .int 6, .ref (a 27)]) rfl ?_
    have hP : va_P D vwCl (MW Y o a (upd (upd (upd (upd (upd (upd I 29 u10) 32 u45) 34 u4) 35 u5) 36 u6) 39 u7) (vp_updL (vp_updL (vp_updL (vp_updL (vp_updL J 30 u11) 31 u12) 33 u46) 37 u8) 38 u9) (vf_upd (vf_upd (vf_upd (vf_upd F 1 f13) 28 f14) 41 f16) 43 f18) (vf_upd (vf_upd (vf_upd G 27 f41) 40 f15) 42 f17)) H := hP
    have hD : va_D A (MW Y o a (upd (upd (upd (upd (upd (upd I 29 u10) 32 u45) 34 u4) 35 u5) 36 u6) 39 u7) (vp_updL (vp_updL (vp_updL (vp_updL (vp_updL J 30 u11) 31 u12) 33 u46) 37 u8) 38 u9) (vf_upd (vf_upd (vf_upd (vf_upd F 1 f13) 28 f14) 41 f16) 43 f18) (vf_upd (vf_upd (vf_upd G 27 f41) 40 f15) 42 f17)) := hD
    refine va_last hx hb hKN.1 hP hD hS 18 1 rfl rfl (show ¬ ((6 : Int32) < 0 ∨ 10 ≤ (6 : Int32).toNatClampNeg) by decide) dX11_weighs_85 (fun H locs hP hD hS => ?_)
    obtain ⟨f47, ef47, hP, hD⟩ : ∃ f47 : Nat → Int64, f47 = vp_updL f41 6 u44 ∧ va_P D vwCl (MW Y o a (upd (upd (upd (upd (upd (upd I 29 u10) 32 u45) 34 u4) 35 u5) 36 u6) 39 u7) (vp_updL (vp_updL (vp_updL (vp_updL (vp_updL J 30 u11) 31 u12) 33 u46) 37 u8) 38 u9) (vf_upd (vf_upd (vf_upd (vf_upd F 1 f13) 28 f14) 41 f16) 43 f18) (vf_upd (vf_upd (vf_upd G 27 f47) 40 f15) 42 f17)) H ∧ va_D A (MW Y o a (upd (upd (upd (upd (upd (upd I 29 u10) 32 u45) 34 u4) 35 u5) 36 u6) 39 u7) (vp_updL (vp_updL (vp_updL (vp_updL (vp_updL J 30 u11) 31 u12) 33 u46) 37 u8) 38 u9) (vf_upd (vf_upd (vf_upd (vf_upd F 1 f13) 28 f14) 41 f16) 43 f18) (vf_upd (vf_upd (vf_upd G 27 f47) 40 f15) 42 f17)) := ⟨_, rfl, hP, hD⟩
    refine lv_aload_n hx hb dX11_weighs_86 rfl (lv_at hl 0 rfl) ?_
    refine va_get (D := D) (ci := 11) (v := .ref (a 27)) (C := RX11) (T := TX11) (N := 49) hx hb hg inGX11 hown hKN.1 hP 0 rfl rfl 27 (by decide) (hg _ kw_1235) (fun _ h9 => h9) rfl dX11_weighs_87 ?_
    refine lv_bipush (v := 8) hx hb dX11_weighs_90 (by decide) ?_
    refine lv_aload_n hx hb dX11_weighs_92 rfl (lv_at hl 0 rfl) ?_
    refine cga (rn_V (As := []) (rest := [.int 8, .ref (a 27)]) (b := o) (m_lateness l D Y Z H.size o a (upd (upd (upd (upd (upd (upd I 29 u10) 32 u45) 34 u4) 35 u5) 36 u6) 39 u7) (vp_updL (vp_updL (vp_updL (vp_updL (vp_updL J 30 u11) 31 u12) 33 u46) 37 u8) 38 u9) (vf_upd (vf_upd (vf_upd (vf_upd F 1 f13) 28 f14) 41 f16) 43 f18) (vf_upd (vf_upd (vf_upd G 27 f47) 40 f15) 42 f17)   (show (2 ≤ u4.toInt ∧ u4.toInt ≤ 200) by omega) (show (1 ≤ u5.toInt ∧ u5.toInt ≤ 10) by omega) (show (0 ≤ u6.toInt ∧ u6.toInt ≤ 199) by omega) (show (u6.toInt < u4.toInt) by omega)) ⟨hx, hb, hml, hown, hg⟩ lk_X11_538 ⟨CP.blind, va_recv hKN.1 hP (ci := 11) (q0 := 0) rfl rfl, CP.at hP hKN hD⟩ ⟨⟨rfl, rfl⟩, ⟨Nat.le_of_ble_eq_true rfl, Nat.le_of_ble_eq_true rfl⟩, ⟨Nat.le_of_ble_eq_true rfl, Nat.le_of_ble_eq_true rfl⟩⟩ hl.1 rfl (Nat.le_of_ble_eq_true rfl) dX11_weighs_93) hP hD hS hA (fun u48 H locs w49 hP hD hS => ?_)
    refine W.eq (g2 := F0 m 96 ls [.int u48, .int 8, .ref (a 27)]) rfl ?_
    have hP : va_P D vwCl (MW Y o a (upd (upd (upd (upd (upd (upd I 29 u10) 32 u45) 34 u4) 35 u5) 36 u6) 39 u7) (vp_updL (vp_updL (vp_updL (vp_updL (vp_updL J 30 u11) 31 u12) 33 u46) 37 u8) 38 u9) (vf_upd (vf_upd (vf_upd (vf_upd F 1 f13) 28 f14) 41 f16) 43 f18) (vf_upd (vf_upd (vf_upd G 27 f47) 40 f15) 42 f17)) H := hP
    have hD : va_D A (MW Y o a (upd (upd (upd (upd (upd (upd I 29 u10) 32 u45) 34 u4) 35 u5) 36 u6) 39 u7) (vp_updL (vp_updL (vp_updL (vp_updL (vp_updL J 30 u11) 31 u12) 33 u46) 37 u8) 38 u9) (vf_upd (vf_upd (vf_upd (vf_upd F 1 f13) 28 f14) 41 f16) 43 f18) (vf_upd (vf_upd (vf_upd G 27 f47) 40 f15) 42 f17)) := hD
    have j51 := rgI u48
    have j52 := Int32.toInt_toInt64 u48
    refine lv_i2l (v := u48.toInt64) hx hb dX11_weighs_96 (rfl) ?_
    refine va_last hx hb hKN.1 hP hD hS 18 1 rfl rfl (show ¬ ((8 : Int32) < 0 ∨ 10 ≤ (8 : Int32).toNatClampNeg) by decide) dX11_weighs_97 (fun H locs hP hD hS => ?_)
    obtain ⟨f53, ef53, hP, hD⟩ : ∃ f53 : Nat → Int64, f53 = vp_updL f47 8 u48.toInt64 ∧ va_P D vwCl (MW Y o a (upd (upd (upd (upd (upd (upd I 29 u10) 32 u45) 34 u4) 35 u5) 36 u6) 39 u7) (vp_updL (vp_updL (vp_updL (vp_updL (vp_updL J 30 u11) 31 u12) 33 u46) 37 u8) 38 u9) (vf_upd (vf_upd (vf_upd (vf_upd F 1 f13) 28 f14) 41 f16) 43 f18) (vf_upd (vf_upd (vf_upd G 27 f53) 40 f15) 42 f17)) H ∧ va_D A (MW Y o a (upd (upd (upd (upd (upd (upd I 29 u10) 32 u45) 34 u4) 35 u5) 36 u6) 39 u7) (vp_updL (vp_updL (vp_updL (vp_updL (vp_updL J 30 u11) 31 u12) 33 u46) 37 u8) 38 u9) (vf_upd (vf_upd (vf_upd (vf_upd F 1 f13) 28 f14) 41 f16) 43 f18) (vf_upd (vf_upd (vf_upd G 27 f53) 40 f15) 42 f17)) := ⟨_, rfl, hP, hD⟩
    refine lv_aload_n hx hb dX11_weighs_98 rfl (lv_at hl 0 rfl) ?_
    refine va_get (D := D) (ci := 11) (v := .ref (a 27)) (C := RX11) (T := TX11) (N := 49) hx hb hg inGX11 hown hKN.1 hP 0 rfl rfl 27 (by decide) (hg _ kw_1235) (fun _ h9 => h9) rfl dX11_weighs_99 ?_
    refine lv_bipush (v := 7) hx hb dX11_weighs_102 (by decide) ?_
    refine lv_aload_n hx hb dX11_weighs_104 rfl (lv_at hl 0 rfl) ?_
    refine lv_iload_n hx hb dX11_weighs_105 rfl (lv_at hl 2 rfl) ?_
    refine lv_iload_n hx hb dX11_weighs_106 rfl (lv_at hl 3 rfl) ?_
    refine cga (rn_V (As := [.int p2, .int p3]) (rest := [.int 7, .ref (a 27)]) (b := o) (m_sames l D Y Z H.size o a (upd (upd (upd (upd (upd (upd I 29 u10) 32 u45) 34 u4) 35 u5) 36 u6) 39 u7) (vp_updL (vp_updL (vp_updL (vp_updL (vp_updL J 30 u11) 31 u12) 33 u46) 37 u8) 38 u9) (vf_upd (vf_upd (vf_upd (vf_upd F 1 f13) 28 f14) 41 f16) 43 f18) (vf_upd (vf_upd (vf_upd G 27 f53) 40 f15) 42 f17)  p2 p3 (show (0 ≤ p2.toInt ∧ p2.toInt ≤ 5) by omega) (show (p2.toInt < ((F 4) 1).toInt) by omega) (show (0 ≤ p3.toInt ∧ p3.toInt ≤ 11) by omega) hk0 hw24 hk2) ⟨hx, hb, hml, hown, hg⟩ lk_X11_535 ⟨CP.blind, va_recv hKN.1 hP (ci := 11) (q0 := 0) rfl rfl, CP.at hP hKN hD⟩ ⟨⟨rfl, rfl⟩, ⟨Nat.le_of_ble_eq_true rfl, Nat.le_of_ble_eq_true rfl⟩, ⟨Nat.le_of_ble_eq_true rfl, Nat.le_of_ble_eq_true rfl⟩⟩ hl.1 rfl (Nat.le_of_ble_eq_true rfl) dX11_weighs_107) hP hD hS hA (fun u54 H locs w55 hP hD hS => ?_)
    obtain ⟨u56, u57, u58, u59, u60, u61, u62, u63, u64, u65, f66, f67, f68, f69, f70, f71⟩ := u54
    have hw72 : LB f67 := w55
    clear w55
    refine W.eq (g2 := F0 m 110 ls [.int u56, .int 7, .ref (a 27)]) rfl ?_
    have hP : va_P D vwCl (MW Y o a (upd (upd (upd (upd (upd (upd I 29 u63) 32 u45) 34 u57) 35 u58) 36 u59) 39 u60) (vp_updL (vp_updL (vp_updL (vp_updL (vp_updL J 30 u64) 31 u65) 33 u46) 37 u61) 38 u62) (vf_upd (vf_upd (vf_upd (vf_upd F 1 f66) 28 f67) 41 f69) 43 f71) (vf_upd (vf_upd (vf_upd G 27 f53) 40 f68) 42 f70)) H := hP
    have hD : va_D A (MW Y o a (upd (upd (upd (upd (upd (upd I 29 u63) 32 u45) 34 u57) 35 u58) 36 u59) 39 u60) (vp_updL (vp_updL (vp_updL (vp_updL (vp_updL J 30 u64) 31 u65) 33 u46) 37 u61) 38 u62) (vf_upd (vf_upd (vf_upd (vf_upd F 1 f66) 28 f67) 41 f69) 43 f71) (vf_upd (vf_upd (vf_upd G 27 f53) 40 f68) 42 f70)) := hD
    have j73 := rgI u56
    have j74 := Int32.toInt_toInt64 u56
    refine lv_i2l (v := u56.toInt64) hx hb dX11_weighs_110 (rfl) ?_
    refine va_last hx hb hKN.1 hP hD hS 18 1 rfl rfl (show ¬ ((7 : Int32) < 0 ∨ 10 ≤ (7 : Int32).toNatClampNeg) by decide) dX11_weighs_111 (fun H locs hP hD hS => ?_)
    obtain ⟨f75, ef75, hP, hD⟩ : ∃ f75 : Nat → Int64, f75 = vp_updL f53 7 u56.toInt64 ∧ va_P D vwCl (MW Y o a (upd (upd (upd (upd (upd (upd I 29 u63) 32 u45) 34 u57) 35 u58) 36 u59) 39 u60) (vp_updL (vp_updL (vp_updL (vp_updL (vp_updL J 30 u64) 31 u65) 33 u46) 37 u61) 38 u62) (vf_upd (vf_upd (vf_upd (vf_upd F 1 f66) 28 f67) 41 f69) 43 f71) (vf_upd (vf_upd (vf_upd G 27 f75) 40 f68) 42 f70)) H ∧ va_D A (MW Y o a (upd (upd (upd (upd (upd (upd I 29 u63) 32 u45) 34 u57) 35 u58) 36 u59) 39 u60) (vp_updL (vp_updL (vp_updL (vp_updL (vp_updL J 30 u64) 31 u65) 33 u46) 37 u61) 38 u62) (vf_upd (vf_upd (vf_upd (vf_upd F 1 f66) 28 f67) 41 f69) 43 f71) (vf_upd (vf_upd (vf_upd G 27 f75) 40 f68) 42 f70)) := ⟨_, rfl, hP, hD⟩
    refine lv_aload_n hx hb dX11_weighs_112 rfl (lv_at hl 0 rfl) ?_
    refine va_get (D := D) (ci := 11) (v := .ref (a 27)) (C := RX11) (T := TX11) (N := 49) hx hb hg inGX11 hown hKN.1 hP 0 rfl rfl 27 (by decide) (hg _ kw_1235) (fun _ h9 => h9) rfl dX11_weighs_113 ?_
    refine lv_bipush (v := 9) hx hb dX11_weighs_116 (by decide) ?_
    refine lv_aload_n hx hb dX11_weighs_118 rfl (lv_at hl 0 rfl) ?_
    refine lv_iload_n hx hb dX11_weighs_119 rfl (lv_at hl 3 rfl) ?_
    refine lv_iconst (v := 0) hx hb dX11_weighs_120 (by decide) ?_
    refine cga (rn_V (As := [.int p3, .int 0]) (rest := [.int 9, .ref (a 27)]) (b := o) (m_starOf0 l D Y Z H.size o a (upd (upd (upd (upd (upd (upd I 29 u63) 32 u45) 34 u57) 35 u58) 36 u59) 39 u60) (vp_updL (vp_updL (vp_updL (vp_updL (vp_updL J 30 u64) 31 u65) 33 u46) 37 u61) 38 u62) (vf_upd (vf_upd (vf_upd (vf_upd F 1 f66) 28 f67) 41 f69) 43 f71) (vf_upd (vf_upd (vf_upd G 27 f75) 40 f68) 42 f70)  p3 (show (0 ≤ p3.toInt ∧ p3.toInt ≤ 11) by omega) hk0) ⟨hx, hb, hml, hown, hg⟩ lk_X11_120 ⟨CP.blind, va_recv hKN.1 hP (ci := 11) (q0 := 0) rfl rfl, CP.at hP hKN hD⟩ ⟨⟨rfl, rfl⟩, ⟨Nat.le_of_ble_eq_true rfl, Nat.le_of_ble_eq_true rfl⟩, ⟨Nat.le_of_ble_eq_true rfl, Nat.le_of_ble_eq_true rfl⟩⟩ hl.1 rfl (Nat.le_of_ble_eq_true rfl) dX11_weighs_121) hP hD hS hA (fun u76 H locs w77 hP hD hS => ?_)
    have hw79 : (0 ≤ u76.toInt ∧ u76.toInt ≤ 999) := w77
    clear w77
    refine W.eq (g2 := F0 m 124 ls [.int u76, .int 9, .ref (a 27)]) rfl ?_
    have hP : va_P D vwCl (MW Y o a (upd (upd (upd (upd (upd (upd I 29 u63) 32 u45) 34 u57) 35 u58) 36 u59) 39 u60) (vp_updL (vp_updL (vp_updL (vp_updL (vp_updL J 30 u64) 31 u65) 33 u46) 37 u61) 38 u62) (vf_upd (vf_upd (vf_upd (vf_upd F 1 f66) 28 f67) 41 f69) 43 f71) (vf_upd (vf_upd (vf_upd G 27 f75) 40 f68) 42 f70)) H := hP
    have hD : va_D A (MW Y o a (upd (upd (upd (upd (upd (upd I 29 u63) 32 u45) 34 u57) 35 u58) 36 u59) 39 u60) (vp_updL (vp_updL (vp_updL (vp_updL (vp_updL J 30 u64) 31 u65) 33 u46) 37 u61) 38 u62) (vf_upd (vf_upd (vf_upd (vf_upd F 1 f66) 28 f67) 41 f69) 43 f71) (vf_upd (vf_upd (vf_upd G 27 f75) 40 f68) 42 f70)) := hD
    have j80 := Int32.toInt_toInt64 u76
    refine lv_i2l (v := u76.toInt64) hx hb dX11_weighs_124 (rfl) ?_
    refine va_last hx hb hKN.1 hP hD hS 18 1 rfl rfl (show ¬ ((9 : Int32) < 0 ∨ 10 ≤ (9 : Int32).toNatClampNeg) by decide) dX11_weighs_125 (fun H locs hP hD hS => ?_)
    obtain ⟨f81, ef81, hP, hD⟩ : ∃ f81 : Nat → Int64, f81 = vp_updL f75 9 u76.toInt64 ∧ va_P D vwCl (MW Y o a (upd (upd (upd (upd (upd (upd I 29 u63) 32 u45) 34 u57) 35 u58) 36 u59) 39 u60) (vp_updL (vp_updL (vp_updL (vp_updL (vp_updL J 30 u64) 31 u65) 33 u46) 37 u61) 38 u62) (vf_upd (vf_upd (vf_upd (vf_upd F 1 f66) 28 f67) 41 f69) 43 f71) (vf_upd (vf_upd (vf_upd G 27 f81) 40 f68) 42 f70)) H ∧ va_D A (MW Y o a (upd (upd (upd (upd (upd (upd I 29 u63) 32 u45) 34 u57) 35 u58) 36 u59) 39 u60) (vp_updL (vp_updL (vp_updL (vp_updL (vp_updL J 30 u64) 31 u65) 33 u46) 37 u61) 38 u62) (vf_upd (vf_upd (vf_upd (vf_upd F 1 f66) 28 f67) 41 f69) 43 f71) (vf_upd (vf_upd (vf_upd G 27 f81) 40 f68) 42 f70)) := ⟨_, rfl, hP, hD⟩
    refine lv_bipush (v := 12) hx hb dX11_weighs_126 (by decide) ?_
    refine lv_iload_n hx hb dX11_weighs_128 rfl (lv_at hl 1 rfl) ?_
    refine lv_iadd hx hb dX11_weighs_129 ?_
    refine lv_topi (fun v82 ev82 => ?_)
    have hv82 := i_add (show (12 : Int32).toInt = 12 by decide) (Eq.refl p1.toInt) ev82 (by omega) (by omega)
    refine lv_istore (lv' := [(4, .int v82), (0, .ref o), (1, .int p1), (2, .int p2), (3, .int p3)]) hx hb dX11_weighs_130 hl (by decide) rfl (fun ls hl => ?_)
    refine lv_iconst (v := 0) hx hb dX11_weighs_132 (by decide) ?_
    refine lv_istore (lv' := [(5, .int 0), (4, .int v82), (0, .ref o), (1, .int p1), (2, .int p2), (3, .int p3)]) hx hb dX11_weighs_133 hl (by decide) rfl (fun ls hl => ?_)
    refine w_loop (σ := Int32 × Int32 × (Nat → Int64) × (Nat → Int32)) (fun xx H locs ls => match xx with | (g649, g650, f651, f652) => va_P D vwCl (MW Y o a (upd (upd (upd (upd (upd (upd (upd I 26 g650) 29 u63) 32 u45) 34 u57) 35 u58) 36 u59) 39 u60) (vp_updL (vp_updL (vp_updL (vp_updL (vp_updL J 30 u64) 31 u65) 33 u46) 37 u61) 38 u62) (vf_upd (vf_upd (vf_upd (vf_upd (vf_upd F 1 f66) 28 f67) 41 f69) 43 f71) 46 f652) (vf_upd (vf_upd (vf_upd (vf_upd G 25 f651) 27 f81) 40 f68) 42 f70)) H ∧ va_D A (MW Y o a (upd (upd (upd (upd (upd (upd (upd I 26 g650) 29 u63) 32 u45) 34 u57) 35 u58) 36 u59) 39 u60) (vp_updL (vp_updL (vp_updL (vp_updL (vp_updL J 30 u64) 31 u65) 33 u46) 37 u61) 38 u62) (vf_upd (vf_upd (vf_upd (vf_upd (vf_upd F 1 f66) 28 f67) 41 f69) 43 f71) 46 f652) (vf_upd (vf_upd (vf_upd (vf_upd G 25 f651) 27 f81) 40 f68) 42 f70)) ∧ va_S A s.heap H locs ∧ lv_has ls 9 [(5, .int g649), (4, .int v82), (0, .ref o), (1, .int p1), (2, .int p2), (3, .int p3)] ∧ (0 ≤ g649.toInt ∧ g649.toInt ≤ 5) ∧ WG f652) (fun xx => match xx with | (g649, g650, f651, f652) => (5 - g649.toInt).toNat) (0, (I 26), (G 25), (F 46)) ⟨hP, hD, hS, lv_sub hl [0, 1, 2, 3, 4, 5] rfl, by omega, hk4⟩ (fun xx H locs ls hI ih => ?_)
    obtain ⟨g649, g650, f651, f652⟩ := xx
    obtain ⟨hP, hD, hS, hl, hq1221, hp1222⟩ := hI
    have ih1223 := ih
    refine lv_iload hx hb dX11_weighs_135 (lv_at hl 0 rfl) ?_
    refine lv_iconst (v := 5) hx hb dX11_weighs_137 (by decide) ?_
    refine lv_icmp_ge (tgt := 232) hx hb dX11_weighs_138 (by decide) (fun c1508 => ?_) (fun c1508 => ?_)
    · skip
      have c1508 := i_le (show (5 : Int32).toInt = 5 by decide) (Eq.refl g649.toInt) c1508
      refine lv_iconst (v := 1) hx hb dX11_weighs_232 (by decide) ?_
      refine W.widen (k := 0) (n := 0) (Nat.le_of_ble_eq_true rfl) (Nat.le_of_ble_eq_true rfl) ?_
      exact W.zret (v := 1) hx hb hr (by decide) (fun t ht hW => ⟨⟨(1, u57, u58, u59, u60, u61, u62, u63, u64, u65, u45, u46, g650, f66, f67, f68, f69, f70, f71, f81, f651, f652), rfl, ⟨(show (0 ≤ (1 : Int32).toInt ∧ (1 : Int32).toInt ≤ 1) by omega), hw72, hp1222⟩, CB.mk ht hP hD⟩, hS.F ht⟩) hS.2.2 dX11_weighs_233
    · skip
      have c1508 := i_nle (show (5 : Int32).toInt = 5 by decide) (Eq.refl g649.toInt) c1508
      refine lv_lconst (v := 0) hx hb dX11_weighs_141 (by decide) ?_
      refine lv_lstore (lv' := [(6, .long 0), (5, .int g649), (4, .int v82), (0, .ref o), (1, .int p1), (2, .int p2), (3, .int p3)]) hx hb dX11_weighs_142 hl (by decide) rfl (fun ls hl => ?_)
      refine lv_iconst (v := 0) hx hb dX11_weighs_144 (by decide) ?_
      refine lv_istore (lv' := [(8, .int 0), (6, .long 0), (5, .int g649), (4, .int v82), (0, .ref o), (1, .int p1), (2, .int p2), (3, .int p3)]) hx hb dX11_weighs_145 hl (by decide) rfl (fun ls hl => ?_)
      have zl0 : (0 : Int64).toInt = 0 := by decide
      refine w_loop (σ := Int32 × Int64 × Int32 × (Nat → Int64)) (fun xx H locs ls => match xx with | (g1600, g1601, g1602, f1603) => va_P D vwCl (MW Y o a (upd (upd (upd (upd (upd (upd (upd I 26 g1602) 29 u63) 32 u45) 34 u57) 35 u58) 36 u59) 39 u60) (vp_updL (vp_updL (vp_updL (vp_updL (vp_updL J 30 u64) 31 u65) 33 u46) 37 u61) 38 u62) (vf_upd (vf_upd (vf_upd (vf_upd (vf_upd F 1 f66) 28 f67) 41 f69) 43 f71) 46 f652) (vf_upd (vf_upd (vf_upd (vf_upd G 25 f1603) 27 f81) 40 f68) 42 f70)) H ∧ va_D A (MW Y o a (upd (upd (upd (upd (upd (upd (upd I 26 g1602) 29 u63) 32 u45) 34 u57) 35 u58) 36 u59) 39 u60) (vp_updL (vp_updL (vp_updL (vp_updL (vp_updL J 30 u64) 31 u65) 33 u46) 37 u61) 38 u62) (vf_upd (vf_upd (vf_upd (vf_upd (vf_upd F 1 f66) 28 f67) 41 f69) 43 f71) 46 f652) (vf_upd (vf_upd (vf_upd (vf_upd G 25 f1603) 27 f81) 40 f68) 42 f70)) ∧ va_S A s.heap H locs ∧ lv_has ls 9 [(8, .int g1600), (6, .long g1601), (5, .int g649), (4, .int v82), (0, .ref o), (1, .int p1), (2, .int p2), (3, .int p3)] ∧ (0 ≤ g1600.toInt ∧ g1600.toInt ≤ 12)) (fun xx => match xx with | (g1600, g1601, g1602, f1603) => (12 - g1600.toInt).toNat) (0, 0, g650, f651) ⟨hP, hD, hS, lv_sub hl [0, 1, 2, 3, 4, 5, 6, 7] rfl, by omega⟩ (fun xx H locs ls hI ih => ?_)
      obtain ⟨g1600, g1601, g1602, f1603⟩ := xx
      obtain ⟨hP, hD, hS, hl, hq1693⟩ := hI
      have ih1694 := ih
      refine lv_iload hx hb dX11_weighs_147 (lv_at hl 0 rfl) ?_
      refine lv_aload_n hx hb dX11_weighs_149 rfl (lv_at hl 4 rfl) ?_
      refine va_get (D := D) (ci := 11) (v := .ref (a 8)) (C := RX11) (T := TX11) (N := 49) hx hb hg inGX11 hown hKN.1 hP 0 rfl rfl 8 (by decide) (hg _ kw_1216) (fun _ h9 => h9) rfl dX11_weighs_150 ?_
      refine lv_iload hx hb dX11_weighs_153 (lv_at hl 3 rfl) ?_
      refine va_iald hx hb hKN.1 hP 8 0 rfl rfl (vp_in_iff.mpr ⟨by omega, by omega⟩) dX11_weighs_155 ?_
      refine lv_topi (fun v1695 ev1695 => ?_)
      have ev1695 : v1695 = (F 8) v82.toNatClampNeg := ev1695
      have qv1695 := congrArg Int32.toInt ev1695
      have kv1695 := TC_c hk3 (t := v82.toNatClampNeg) (by have c := clampI (x := v82) (by omega); omega) (Or.inr ⟨by have c := clampI (x := v82) (by omega); omega, by have c := clampI (x := v82) (by omega); omega⟩)
      obtain ⟨kv16951, kv16952⟩ := kv1695
      refine lv_icmp_ge (tgt := 209) hx hb dX11_weighs_156 (by decide) (fun c1740 => ?_) (fun c1740 => ?_)
      · skip
        have c1740 := i_le (Eq.refl v1695.toInt) (Eq.refl g1600.toInt) c1740
        refine lv_aload_n hx hb dX11_weighs_209 rfl (lv_at hl 4 rfl) ?_
        refine va_get (D := D) (ci := 11) (v := .ref (a 46)) (C := RX11) (T := TX11) (N := 49) hx hb hg inGX11 hown hKN.1 hP 0 rfl rfl 46 (by decide) (hg _ kw_1254) (fun _ h9 => h9) rfl dX11_weighs_210 ?_
        refine lv_iload hx hb dX11_weighs_213 (lv_at hl 2 rfl) ?_
        refine lv_lload hx hb dX11_weighs_215 (lv_at hl 1 rfl) ?_
        refine lv_lconst (v := 0) hx hb dX11_weighs_217 (by decide) ?_
        refine lv_ldc2 (v := 99999) hx hb hown (hg _ kw_1772) dX11_weighs_218 ?_
        have zl0 : (0 : Int64).toInt = 0 := by decide
        have zl99999 : (99999 : Int64).toInt = 99999 := by decide
        refine cg0 (rn_S (As := [.long g1601, .long 0, .long 99999]) (rest := [.int g649, .ref (a 46)]) (m_heldW l D Y Z H.size   g1601 ) ⟨hx, hb, hml, hown, hg⟩ lk_X11_148 ⟨CP.blind, CP.at nilP hKN (nilD (A := fun _ => True))⟩ ⟨⟨rfl, rfl⟩, ⟨Nat.le_of_ble_eq_true rfl, Nat.le_of_ble_eq_true rfl⟩, ⟨Nat.le_of_ble_eq_true rfl, Nat.le_of_ble_eq_true rfl⟩⟩ hl.1 rfl (Nat.le_of_ble_eq_true rfl) dX11_weighs_221) hP hS hA (fun u1741 H locs w1742 hP hS => ?_)
        have hw1744 : (0 ≤ u1741.toInt ∧ u1741.toInt ≤ 99999) := w1742
        clear w1742
        refine W.eq (g2 := F0 m 224 ls [.long u1741, .int g649, .ref (a 46)]) rfl ?_
        refine lv_l2i (v := u1741.toInt32) hx hb dX11_weighs_224 rfl ?_
        refine lv_topi (fun v1745 ev1745 => ?_)
        have hv1745 := l_i (Eq.refl u1741.toInt) ev1745 (by omega) (by omega)
        refine va_iast hx hb hKN.1 hP hD hS 26 0 rfl rfl (vp_in_iff.mpr ⟨by omega, by omega⟩) dX11_weighs_225 (fun H locs hP hD hS => ?_)
        obtain ⟨f1746, ef1746, hP, hD⟩ : ∃ f1746 : Nat → Int32, f1746 = upd f652 g649.toNatClampNeg v1745 ∧ va_P D vwCl (MW Y o a (upd (upd (upd (upd (upd (upd (upd I 26 g1602) 29 u63) 32 u45) 34 u57) 35 u58) 36 u59) 39 u60) (vp_updL (vp_updL (vp_updL (vp_updL (vp_updL J 30 u64) 31 u65) 33 u46) 37 u61) 38 u62) (vf_upd (vf_upd (vf_upd (vf_upd (vf_upd F 1 f66) 28 f67) 41 f69) 43 f71) 46 f1746) (vf_upd (vf_upd (vf_upd (vf_upd G 25 f1603) 27 f81) 40 f68) 42 f70)) H ∧ va_D A (MW Y o a (upd (upd (upd (upd (upd (upd (upd I 26 g1602) 29 u63) 32 u45) 34 u57) 35 u58) 36 u59) 39 u60) (vp_updL (vp_updL (vp_updL (vp_updL (vp_updL J 30 u64) 31 u65) 33 u46) 37 u61) 38 u62) (vf_upd (vf_upd (vf_upd (vf_upd (vf_upd F 1 f66) 28 f67) 41 f69) 43 f71) 46 f1746) (vf_upd (vf_upd (vf_upd (vf_upd G 25 f1603) 27 f81) 40 f68) 42 f70)) := ⟨_, rfl, hP, hD⟩
        have t1747 : WG f1746 := by rw [ef1746]; exact WG_set hp1222 (by omega)
        obtain ⟨v1748, ev1748⟩ : ∃ y : Int32, y = g649 + 1 := ⟨_, rfl⟩
        have hv1748 := i_add (Eq.refl g649.toInt) (show (1 : Int32).toInt = 1 by decide) ev1748 (by omega) (by omega)
        refine lv_iinc (v := v1748) (lv' := [(5, .int v1748), (8, .int g1600), (6, .long g1601), (4, .int v82), (0, .ref o), (1, .int p1), (2, .int p2), (3, .int p3)]) hx hb dX11_weighs_226 hl (k := 2) rfl (by rw [ev1748]; rfl) (by decide) rfl (fun ls hl => ?_)
        refine lv_goto (tgt := 135) hx hb dX11_weighs_229 (by decide) ?_
        exact ih1223 (v1748, g1602, f1603, f1746) H locs ls (by show (5 - v1748.toInt).toNat < (5 - g649.toInt).toNat; omega) ⟨hP, hD, hS, lv_sub hl [0, 3, 4, 5, 6, 7] rfl, by omega, t1747⟩
      · skip
        have c1740 := i_nle (Eq.refl v1695.toInt) (Eq.refl g1600.toInt) c1740
        refine lv_aload_n hx hb dX11_weighs_159 rfl (lv_at hl 4 rfl) ?_
        refine va_get (D := D) (ci := 11) (v := .ref (a 7)) (C := RX11) (T := TX11) (N := 49) hx hb hg inGX11 hown hKN.1 hP 0 rfl rfl 7 (by decide) (hg _ kw_1215) (fun _ h9 => h9) rfl dX11_weighs_160 ?_
        refine lv_bipush (v := 60) hx hb dX11_weighs_163 (by decide) ?_
        refine lv_iload hx hb dX11_weighs_165 (lv_at hl 3 rfl) ?_
        refine lv_imul hx hb dX11_weighs_167 ?_
        refine lv_topi (fun v1749 ev1749 => ?_)
        have hv1749 := i_mul (show (60 : Int32).toInt = 60 by decide) (Eq.refl v82.toInt) ev1749 (by omega) (by omega)
        refine lv_iconst (v := 5) hx hb dX11_weighs_168 (by decide) ?_
        refine lv_iload hx hb dX11_weighs_169 (lv_at hl 0 rfl) ?_
        refine lv_imul hx hb dX11_weighs_171 ?_
        refine lv_topi (fun v1750 ev1750 => ?_)
        have hv1750 := i_mul (show (5 : Int32).toInt = 5 by decide) (Eq.refl g1600.toInt) ev1750 (by omega) (by omega)
        refine lv_iadd hx hb dX11_weighs_172 ?_
        refine lv_topi (fun v1751 ev1751 => ?_)
        have hv1751 := i_add (Eq.refl v1749.toInt) (Eq.refl v1750.toInt) ev1751 (by omega) (by omega)
        refine va_iald hx hb hKN.1 hP 7 0 rfl rfl (vp_in_iff.mpr ⟨by omega, by omega⟩) dX11_weighs_173 ?_
        refine lv_topi (fun v1752 ev1752 => ?_)
        have ev1752 : v1752 = (F 7) v1751.toNatClampNeg := ev1752
        have qv1752 := congrArg Int32.toInt ev1752
        refine lv_iload hx hb dX11_weighs_174 (lv_at hl 2 rfl) ?_
        refine w_join (σ := Int64 × Int32 × (Nat → Int64)) (pcJ := 203) (kJ := 0) (nJ := 0) (stk := fun xx => match xx with | (g1770, g1771, f1772) => []) (fun xx H locs ls => match xx with | (g1770, g1771, f1772) => va_P D vwCl (MW Y o a (upd (upd (upd (upd (upd (upd (upd I 26 g1771) 29 u63) 32 u45) 34 u57) 35 u58) 36 u59) 39 u60) (vp_updL (vp_updL (vp_updL (vp_updL (vp_updL J 30 u64) 31 u65) 33 u46) 37 u61) 38 u62) (vf_upd (vf_upd (vf_upd (vf_upd (vf_upd F 1 f66) 28 f67) 41 f69) 43 f71) 46 f652) (vf_upd (vf_upd (vf_upd (vf_upd G 25 f1772) 27 f81) 40 f68) 42 f70)) H ∧ va_D A (MW Y o a (upd (upd (upd (upd (upd (upd (upd I 26 g1771) 29 u63) 32 u45) 34 u57) 35 u58) 36 u59) 39 u60) (vp_updL (vp_updL (vp_updL (vp_updL (vp_updL J 30 u64) 31 u65) 33 u46) 37 u61) 38 u62) (vf_upd (vf_upd (vf_upd (vf_upd (vf_upd F 1 f66) 28 f67) 41 f69) 43 f71) 46 f652) (vf_upd (vf_upd (vf_upd (vf_upd G 25 f1772) 27 f81) 40 f68) 42 f70)) ∧ va_S A s.heap H locs ∧ lv_has ls 9 [(8, .int g1600), (6, .long g1770), (5, .int g649), (4, .int v82), (0, .ref o), (1, .int p1), (2, .int p2), (3, .int p3)]) (fun xx H locs ls hI => ?_) (fun jn1773 => ?_)
        · skip
          obtain ⟨g1770, g1771, f1772⟩ := xx
          obtain ⟨hP, hD, hS, hl⟩ := hI
          refine W.eq (g2 := F0 m 203 ls []) rfl ?_
          obtain ⟨v1774, ev1774⟩ : ∃ y : Int32, y = g1600 + 1 := ⟨_, rfl⟩
          have hv1774 := i_add (Eq.refl g1600.toInt) (show (1 : Int32).toInt = 1 by decide) ev1774 (by omega) (by omega)
          refine lv_iinc (v := v1774) (lv' := [(8, .int v1774), (6, .long g1770), (5, .int g649), (4, .int v82), (0, .ref o), (1, .int p1), (2, .int p2), (3, .int p3)]) hx hb dX11_weighs_203 hl (k := 0) rfl (by rw [ev1774]; rfl) (by decide) rfl (fun ls hl => ?_)
          refine lv_goto (tgt := 147) hx hb dX11_weighs_206 (by decide) ?_
          exact ih1694 (v1774, g1770, g1771, f1772) H locs ls (by show (12 - v1774.toInt).toNat < (12 - g1600.toInt).toNat; omega) ⟨hP, hD, hS, lv_sub hl [0, 1, 2, 3, 4, 5, 6, 7] rfl, by omega⟩
        · skip
          have j1775 := rgI v1752
          refine lv_icmp_ne (tgt := 203) hx hb dX11_weighs_176 (by decide) (fun c1776 => ?_) (fun c1776 => ?_)
          · skip
            have c1776 := i_ne (Eq.refl v1752.toInt) (Eq.refl g649.toInt) c1776
            refine W.widen (k := 0) (n := 0) (Nat.le_of_ble_eq_true rfl) (Nat.le_of_ble_eq_true rfl) ?_
            exact jn1773 (g1601, g1602, f1603) H locs ls ⟨hP, hD, hS, lv_sub hl [0, 1, 2, 3, 4, 5, 6, 7] rfl⟩
          · skip
            have c1776 := i_eq (Eq.refl v1752.toInt) (Eq.refl g649.toInt) c1776
            refine lv_aload_n hx hb dX11_weighs_179 rfl (lv_at hl 4 rfl) ?_
            refine lv_iload hx hb dX11_weighs_180 (lv_at hl 3 rfl) ?_
            refine lv_iload hx hb dX11_weighs_182 (lv_at hl 0 rfl) ?_
            refine cga (rn_V (As := [.int v82, .int g1600]) (rest := []) (b := o) (m_isHolding l D Y Z H.size o a (upd (upd (upd (upd (upd (upd (upd I 26 g1602) 29 u63) 32 u45) 34 u57) 35 u58) 36 u59) 39 u60) (vp_updL (vp_updL (vp_updL (vp_updL (vp_updL J 30 u64) 31 u65) 33 u46) 37 u61) 38 u62) (vf_upd (vf_upd (vf_upd (vf_upd (vf_upd F 1 f66) 28 f67) 41 f69) 43 f71) 46 f652) (vf_upd (vf_upd (vf_upd (vf_upd G 25 f1603) 27 f81) 40 f68) 42 f70)  v82 g1600 (show (0 ≤ v82.toInt ∧ v82.toInt ≤ 17) by omega) (show (0 ≤ g1600.toInt ∧ g1600.toInt ≤ 11) by omega) (show CLok (F 7) (F 5) (v82.toInt).toNat (g1600.toInt).toNat 400 from (kv16952 g1600.toInt.toNat (by omega)))) ⟨hx, hb, hml, hown, hg⟩ lk_X11_369 ⟨CP.blind, va_recv hKN.1 hP (ci := 11) (q0 := 0) rfl rfl, CP.at hP hKN hD⟩ ⟨⟨rfl, rfl⟩, ⟨Nat.le_of_ble_eq_true rfl, Nat.le_of_ble_eq_true rfl⟩, ⟨Nat.le_of_ble_eq_true rfl, Nat.le_of_ble_eq_true rfl⟩⟩ hl.1 rfl (Nat.le_of_ble_eq_true rfl) dX11_weighs_184) hP hD hS hA (fun u1777 H locs w1778 hP hD hS => ?_)
            obtain ⟨u1779, u1780, f1781⟩ := u1777
            have hw1782 : (0 ≤ u1779.toInt ∧ u1779.toInt ≤ 1) := w1778
            clear w1778
            refine W.eq (g2 := F0 m 187 ls [.int u1779]) rfl ?_
            have hP : va_P D vwCl (MW Y o a (upd (upd (upd (upd (upd (upd (upd I 26 u1780) 29 u63) 32 u45) 34 u57) 35 u58) 36 u59) 39 u60) (vp_updL (vp_updL (vp_updL (vp_updL (vp_updL J 30 u64) 31 u65) 33 u46) 37 u61) 38 u62) (vf_upd (vf_upd (vf_upd (vf_upd (vf_upd F 1 f66) 28 f67) 41 f69) 43 f71) 46 f652) (vf_upd (vf_upd (vf_upd (vf_upd G 25 f1781) 27 f81) 40 f68) 42 f70)) H := hP
            have hD : va_D A (MW Y o a (upd (upd (upd (upd (upd (upd (upd I 26 u1780) 29 u63) 32 u45) 34 u57) 35 u58) 36 u59) 39 u60) (vp_updL (vp_updL (vp_updL (vp_updL (vp_updL J 30 u64) 31 u65) 33 u46) 37 u61) 38 u62) (vf_upd (vf_upd (vf_upd (vf_upd (vf_upd F 1 f66) 28 f67) 41 f69) 43 f71) 46 f652) (vf_upd (vf_upd (vf_upd (vf_upd G 25 f1781) 27 f81) 40 f68) 42 f70)) := hD
            rcases (show u1779.toInt = 1 ∨ u1779.toInt = 0 by omega) with c1783 | c1783
            · obtain rfl : u1779 = 1 := i_is c1783 (by decide)
              refine W.eq (g2 := F0 m 187 ls [.int 1]) rfl ?_
              refine lv_if_eq (tgt := 203) hx hb dX11_weighs_187 (by decide) (fun c1784 => ?_) (fun c1784 => ?_)
              · exact absurd c1784 (by decide)
              refine lv_lload hx hb dX11_weighs_190 (lv_at hl 1 rfl) ?_
              refine lv_aload_n hx hb dX11_weighs_192 rfl (lv_at hl 4 rfl) ?_
              refine lv_iload hx hb dX11_weighs_193 (lv_at hl 3 rfl) ?_
              refine lv_iload hx hb dX11_weighs_195 (lv_at hl 0 rfl) ?_
              refine cga (rn_V (As := [.int v82, .int g1600]) (rest := [.long g1601]) (b := o) (m_summed l D Y Z H.size o a (upd (upd (upd (upd (upd (upd (upd I 26 u1780) 29 u63) 32 u45) 34 u57) 35 u58) 36 u59) 39 u60) (vp_updL (vp_updL (vp_updL (vp_updL (vp_updL J 30 u64) 31 u65) 33 u46) 37 u61) 38 u62) (vf_upd (vf_upd (vf_upd (vf_upd (vf_upd F 1 f66) 28 f67) 41 f69) 43 f71) 46 f652) (vf_upd (vf_upd (vf_upd (vf_upd G 25 f1781) 27 f81) 40 f68) 42 f70)  v82 g1600 (show (0 ≤ v82.toInt ∧ v82.toInt ≤ 17) by omega) (show (0 ≤ g1600.toInt ∧ g1600.toInt ≤ 11) by omega) (show CLok (F 7) (F 5) (v82.toInt).toNat (g1600.toInt).toNat 400 from (kv16952 g1600.toInt.toNat (by omega)))) ⟨hx, hb, hml, hown, hg⟩ lk_X11_372 ⟨CP.blind, va_recv hKN.1 hP (ci := 11) (q0 := 0) rfl rfl, CP.at hP hKN hD⟩ ⟨⟨rfl, rfl⟩, ⟨Nat.le_of_ble_eq_true rfl, Nat.le_of_ble_eq_true rfl⟩, ⟨Nat.le_of_ble_eq_true rfl, Nat.le_of_ble_eq_true rfl⟩⟩ hl.1 rfl (Nat.le_of_ble_eq_true rfl) dX11_weighs_197) hP hD hS hA (fun u1785 H locs w1786 hP hD hS => ?_)
              obtain ⟨u1787, u1788, f1789⟩ := u1785
              refine W.eq (g2 := F0 m 200 ls [.long u1787, .long g1601]) rfl ?_
              have hP : va_P D vwCl (MW Y o a (upd (upd (upd (upd (upd (upd (upd I 26 u1788) 29 u63) 32 u45) 34 u57) 35 u58) 36 u59) 39 u60) (vp_updL (vp_updL (vp_updL (vp_updL (vp_updL J 30 u64) 31 u65) 33 u46) 37 u61) 38 u62) (vf_upd (vf_upd (vf_upd (vf_upd (vf_upd F 1 f66) 28 f67) 41 f69) 43 f71) 46 f652) (vf_upd (vf_upd (vf_upd (vf_upd G 25 f1789) 27 f81) 40 f68) 42 f70)) H := hP
              have hD : va_D A (MW Y o a (upd (upd (upd (upd (upd (upd (upd I 26 u1788) 29 u63) 32 u45) 34 u57) 35 u58) 36 u59) 39 u60) (vp_updL (vp_updL (vp_updL (vp_updL (vp_updL J 30 u64) 31 u65) 33 u46) 37 u61) 38 u62) (vf_upd (vf_upd (vf_upd (vf_upd (vf_upd F 1 f66) 28 f67) 41 f69) 43 f71) 46 f652) (vf_upd (vf_upd (vf_upd (vf_upd G 25 f1789) 27 f81) 40 f68) 42 f70)) := hD
              refine lv_ladd hx hb dX11_weighs_200 ?_
              refine lv_topl (fun v1790 ev1790 => ?_)
              refine lv_lstore (lv' := [(6, .long v1790), (8, .int g1600), (5, .int g649), (4, .int v82), (0, .ref o), (1, .int p1), (2, .int p2), (3, .int p3)]) hx hb dX11_weighs_201 hl (by decide) rfl (fun ls hl => ?_)
              refine W.widen (k := 0) (n := 0) (Nat.le_of_ble_eq_true rfl) (Nat.le_of_ble_eq_true rfl) ?_
              exact jn1773 (v1790, u1788, f1789) H locs ls ⟨hP, hD, hS, lv_sub hl [1, 0, 2, 3, 4, 5, 6, 7] rfl⟩
            · obtain rfl : u1779 = 0 := i_is c1783 (by decide)
              refine W.eq (g2 := F0 m 187 ls [.int 0]) rfl ?_
              refine lv_if_eq (tgt := 203) hx hb dX11_weighs_187 (by decide) (fun c1791 => ?_) (fun c1791 => ?_)
              rotate_left
              · exact absurd c1791 (by decide)
              refine W.widen (k := 0) (n := 0) (Nat.le_of_ble_eq_true rfl) (Nat.le_of_ble_eq_true rfl) ?_
              exact jn1773 (g1601, u1780, f1781) H locs ls ⟨hP, hD, hS, lv_sub hl [0, 1, 2, 3, 4, 5, 6, 7] rfl⟩
  · obtain rfl : u3 = 0 := i_is c25 (by decide)
    refine W.eq (g2 := F0 m 7 ls [.int 0]) rfl ?_
    refine lv_if_ne (tgt := 12) hx hb dX11_weighs_7 (by decide) (fun c1792 => ?_) (fun c1792 => ?_)
    · exact absurd c1792 (by decide)
    refine lv_iconst (v := 0) hx hb dX11_weighs_10 (by decide) ?_
    refine W.widen (k := 0) (n := 0) (Nat.le_of_ble_eq_true rfl) (Nat.le_of_ble_eq_true rfl) ?_
    exact W.zret (v := 0) hx hb hr (by decide) (fun t ht hW => ⟨⟨(0, u4, u5, u6, u7, u8, u9, u10, u11, u12, (I 32), (J 33), (I 26), f13, f14, f15, f16, f17, f18, (G 27), (G 25), (F 46)), rfl, ⟨(show (0 ≤ (0 : Int32).toInt ∧ (0 : Int32).toInt ≤ 1) by omega), hw24, hk4⟩, CB.mk ht hP hD⟩, hS.F ht⟩) hS.2.2 dX11_weighs_11
