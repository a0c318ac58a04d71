set_option maxHeartbeats 4000000 in
set_option maxRecDepth 100000 in
theorem x_sorted (l : Launch) (D : va_G) (Y : Nat → ClassId) (Z : Nat → Nat) (sz : Nat) (o : Nat) (b : Nat → Nat) (p0 p1 p2 : Int32) : Met l yX10_sorted (.code yX10_sorted cX10_sorted 4 (some .int) :: GW) ({ frames := 3, cells := 0, slots := 0, locals := 66 }) (va_Pc [.ref o, .int p0, .int p1, .int p2] (CP D Y Z [(o, .inr (10, (dsF b))), ((b 0), .inr (6, (skF b)))] sz)) (QG (S := Unit) (fun _ => some (.int (-1))) (fun _ => True) (fun u => CB D ((fun _ => []) u) (va_A [(o, .inr (10, (dsF b))), ((b 0), .inr (6, (skF b)))] sz)) (va_A [(o, .inr (10, (dsF b))), ((b 0), .inr (6, (skF b)))] sz)) 0 0 (va_A [(o, .inr (10, (dsF b))), ((b 0), .inr (6, (skF b)))] sz) := by
  refine Met.ofW (cc := cX10_sorted) (maxL := 4) (ret := (some .int)) (by decide) rfl ?_
  intro p e s m args below meth c s₁ B hml hv
  obtain ⟨rfl, hsz, hP, hKN, hD0⟩ := hv
  have hx := B.exec
  have hb := B.bytes
  have hr := B.returns
  have hts := atoms_spec (ws := .code yX10_sorted cX10_sorted 4 (some .int) :: GW) B.pre
  have hg : ∀ w ∈ GW, w.before _ s = true := fun w h => hts w (List.mem_cons_of_mem _ h)
  have hown : s.vm.findClass RX10 = some m.cls := findClass_of_methodNamed B.named
  have hlocks := B.notSynchronized
  subst hsz
  have hD := hD0.self (sz := s.heap.size)
  generalize hAe : va_A [(o, .inr (10, (dsF b))), ((b 0), .inr (6, (skF b)))] s.heap.size = A at hD ⊢
  have hA : ∀ q : Nat, s.heap.size ≤ q → A q := fun q h => by rw [← hAe]; exact Or.inr h
  have hl := lv_entry ([.ref o, .int p0, .int p1, .int p2]) (n := 4) (Nat.le_of_ble_eq_true rfl)
  rw [lg_entry_eq]
  generalize (lg_sl ([.ref o, .int p0, .int p1, .int p2]) ++ List.replicate (4 - (lg_sl ([.ref o, .int p0, .int p1, .int p2])).length) Slot.unset).toArray = ls at hl ⊢
  have hl : lv_has ls 4 [(0, .ref o), (1, .int p0), (2, .int p1), (3, .int p2)] := hl
  refine w_start (A0 := A) hP (fun H locs hP hS => ?_)
  refine lv_aload_n hx hb dX10_sorted_0 rfl (lv_at hl 0 rfl) ?_
  refine lv_iload_n hx hb dX10_sorted_1 rfl (lv_at hl 1 rfl) ?_
  refine lv_iload_n hx hb dX10_sorted_2 rfl (lv_at hl 2 rfl) ?_
  refine lv_iload_n hx hb dX10_sorted_3 rfl (lv_at hl 3 rfl) ?_
  refine cg (wc := [(o, .inr (10, (dsF b))), ((b 0), .inr (6, (skF b)))]) (wr := []) [0, 1] [] (rn_V (As := [.int p0, .int p1, .int p2]) (rest := []) (b := o) (c_isWeighed l D Y Z H.size o b p0 p1 p2) ⟨hx, hb, hml, hown, hg⟩ lk_X10_343 ⟨CP.blind, va_recv hKN.1 hP (ci := 10) (q0 := 0) rfl rfl, CP.at (hP.sub [0, 1] rfl) hKN (hD.sub [0, 1] (by decide) rfl)⟩ ⟨⟨rfl, rfl⟩, ⟨Nat.le_of_ble_eq_true rfl, Nat.le_of_ble_eq_true rfl⟩, ⟨Nat.le_of_ble_eq_true rfl, Nat.le_of_ble_eq_true rfl⟩⟩ hl.1 rfl (Nat.le_of_ble_eq_true rfl) dX10_sorted_4) hP hD hS hA rfl rfl (by decide) (by decide) (fun u1 H locs w2 hP hD hS => ?_)
  refine W.eq (g2 := F0 m 7 ls [.int 0]) rfl ?_
  have hP : va_P D vwCl [(o, .inr (10, (dsF b))), ((b 0), .inr (6, (skF b)))] H := hP
  have hD : va_D A [(o, .inr (10, (dsF b))), ((b 0), .inr (6, (skF b)))] := hD
  refine lv_if_ne (tgt := 12) hx hb dX10_sorted_7 (by decide) (fun c3 => ?_) (fun c3 => ?_)
  · exact absurd c3 (by decide)
  refine lv_iconst (v := (-1)) hx hb dX10_sorted_10 (by decide) ?_
  refine W.widen (k := 0) (n := 0) (Nat.le_of_ble_eq_true rfl) (Nat.le_of_ble_eq_true rfl) ?_
  exact W.iret (v := (-1)) hx hb hr (fun t ht hW => ⟨⟨(), rfl, trivial, CB.nil⟩, hS.F ht⟩) hS.2.2 dX10_sorted_11
set_option maxHeartbeats 4000000 in
set_option maxRecDepth 100000 in
theorem y_sorted (l : Launch) (D : va_G) (Y : Nat → ClassId) (Z : Nat → Nat) (sz : Nat) (o : Nat) (a : Nat → Nat) (p0 p1 p2 : Int32) : Met l yX11_sorted (.code yX11_sorted cX11_sorted 4 (some .int) :: GW) ({ frames := 2, cells := 0, slots := 0, locals := 45 }) (va_Pc [.ref o, .int p0, .int p1, .int p2] (CP D Y Z [(o, .inr (11, (moF a))), ((a 3), .inl (Y 0, 3, .inl (fun _ => 0)))] sz)) (QG (S := Unit) (fun _ => some (.int (-1))) (fun _ => True) (fun u => CB D ((fun _ => []) u) (va_A [(o, .inr (11, (moF a))), ((a 3), .inl (Y 0, 3, .inl (fun _ => 0)))] sz)) (va_A [(o, .inr (11, (moF a))), ((a 3), .inl (Y 0, 3, .inl (fun _ => 0)))] sz)) 0 0 (va_A [(o, .inr (11, (moF a))), ((a 3), .inl (Y 0, 3, .inl (fun _ => 0)))] sz) := by
  refine Met.ofW (cc := cX11_sorted) (maxL := 4) (ret := (some .int)) (by decide) rfl ?_
  intro p e s m args below meth c s₁ B hml hv
  obtain ⟨rfl, hsz, hP, hKN, hD0⟩ := hv
  have hx := B.exec
  have hb := B.bytes
  have hr := B.returns
  have hts := atoms_spec (ws := .code yX11_sorted cX11_sorted 4 (some .int) :: GW) B.pre
  have hg : ∀ w ∈ GW, w.before _ s = true := fun w h => hts w (List.mem_cons_of_mem _ h)
  have hown : s.vm.findClass RX11 = some m.cls := findClass_of_methodNamed B.named
  have hlocks := B.notSynchronized
  subst hsz
  have hD := hD0.self (sz := s.heap.size)
  generalize hAe : va_A [(o, .inr (11, (moF a))), ((a 3), .inl (Y 0, 3, .inl (fun _ => 0)))] s.heap.size = A at hD ⊢
  have hA : ∀ q : Nat, s.heap.size ≤ q → A q := fun q h => by rw [← hAe]; exact Or.inr h
  have hl := lv_entry ([.ref o, .int p0, .int p1, .int p2]) (n := 4) (Nat.le_of_ble_eq_true rfl)
  rw [lg_entry_eq]
  generalize (lg_sl ([.ref o, .int p0, .int p1, .int p2]) ++ List.replicate (4 - (lg_sl ([.ref o, .int p0, .int p1, .int p2])).length) Slot.unset).toArray = ls at hl ⊢
  have hl : lv_has ls 4 [(0, .ref o), (1, .int p0), (2, .int p1), (3, .int p2)] := hl
  refine w_start (A0 := A) hP (fun H locs hP hS => ?_)
  refine lv_aload_n hx hb dX11_sorted_0 rfl (lv_at hl 0 rfl) ?_
  refine lv_iload_n hx hb dX11_sorted_1 rfl (lv_at hl 1 rfl) ?_
  refine lv_iload_n hx hb dX11_sorted_2 rfl (lv_at hl 2 rfl) ?_
  refine lv_iload_n hx hb dX11_sorted_3 rfl (lv_at hl 3 rfl) ?_
  refine cg (wc := [(o, .inr (11, (moF a))), ((a 3), .inl (Y 0, 3, .inl (fun _ => 0)))]) (wr := []) [0, 1] [] (rn_V (As := [.int p0, .int p1, .int p2]) (rest := []) (b := o) (m_canWeigh l D Y Z H.size o a p0 p1 p2) ⟨hx, hb, hml, hown, hg⟩ lk_X11_546 ⟨CP.blind, va_recv hKN.1 hP (ci := 11) (q0 := 0) rfl rfl, CP.at (hP.sub [0, 1] rfl) hKN (hD.sub [0, 1] (by decide) rfl)⟩ ⟨⟨rfl, rfl⟩, ⟨Nat.le_of_ble_eq_true rfl, Nat.le_of_ble_eq_true rfl⟩, ⟨Nat.le_of_ble_eq_true rfl, Nat.le_of_ble_eq_true rfl⟩⟩ hl.1 rfl (Nat.le_of_ble_eq_true rfl) dX11_sorted_4) hP hD hS hA rfl rfl (by decide) (by decide) (fun u1 H locs w2 hP hD hS => ?_)
  refine W.eq (g2 := F0 m 7 ls [.int 0]) rfl ?_
  have hP : va_P D vwCl [(o, .inr (11, (moF a))), ((a 3), .inl (Y 0, 3, .inl (fun _ => 0)))] H := hP
  have hD : va_D A [(o, .inr (11, (moF a))), ((a 3), .inl (Y 0, 3, .inl (fun _ => 0)))] := hD
  refine lv_if_eq (tgt := 17) hx hb dX11_sorted_7 (by decide) (fun c3 => ?_) (fun c3 => ?_)
  rotate_left
  · exact absurd c3 (by decide)
  refine lv_iconst (v := (-1)) hx hb dX11_sorted_17 (by decide) ?_
  refine W.widen (k := 0) (n := 0) (Nat.le_of_ble_eq_true rfl) (Nat.le_of_ble_eq_true rfl) ?_
  exact W.iret (v := (-1)) hx hb hr (fun t ht hW => ⟨⟨(), rfl, trivial, CB.nil⟩, hS.F ht⟩) hS.2.2 dX11_sorted_18
set_option maxHeartbeats 4000000 in
set_option maxRecDepth 100000 in
theorem x_odds (l : Launch) (D : va_G) (Y : Nat → ClassId) (Z : Nat → Nat) (sz : Nat) (o : Nat) (b : Nat → Nat) (p0 p1 p2 p3 p4 : Int32) : Met l yX10_odds (.code yX10_odds cX10_odds 9 (some .int) :: GW) ({ frames := 3, cells := 0, slots := 0, locals := 66 }) (va_Pc [.ref o, .int p0, .int p1, .int p2, .int p3, .int p4] (CP D Y Z [(o, .inr (10, (dsF b))), ((b 0), .inr (6, (skF b)))] sz)) (QG (S := Unit) (fun _ => some (.int (-1))) (fun _ => True) (fun u => CB D ((fun _ => []) u) (va_A [(o, .inr (10, (dsF b))), ((b 0), .inr (6, (skF b)))] sz)) (va_A [(o, .inr (10, (dsF b))), ((b 0), .inr (6, (skF b)))] sz)) 0 0 (va_A [(o, .inr (10, (dsF b))), ((b 0), .inr (6, (skF b)))] sz) := by
  refine Met.ofW (cc := cX10_odds) (maxL := 9) (ret := (some .int)) (by decide) rfl ?_
  intro p e s m args below meth c s₁ B hml hv
  obtain ⟨rfl, hsz, hP, hKN, hD0⟩ := hv
  have hx := B.exec
  have hb := B.bytes
  have hr := B.returns
  have hts := atoms_spec (ws := .code yX10_odds cX10_odds 9 (some .int) :: GW) B.pre
  have hg : ∀ w ∈ GW, w.before _ s = true := fun w h => hts w (List.mem_cons_of_mem _ h)
  have hown : s.vm.findClass RX10 = some m.cls := findClass_of_methodNamed B.named
  have hlocks := B.notSynchronized
  subst hsz
  have hD := hD0.self (sz := s.heap.size)
  generalize hAe : va_A [(o, .inr (10, (dsF b))), ((b 0), .inr (6, (skF b)))] s.heap.size = A at hD ⊢
  have hA : ∀ q : Nat, s.heap.size ≤ q → A q := fun q h => by rw [← hAe]; exact Or.inr h
  have hl := lv_entry ([.ref o, .int p0, .int p1, .int p2, .int p3, .int p4]) (n := 9) (Nat.le_of_ble_eq_true rfl)
  rw [lg_entry_eq]
  generalize (lg_sl ([.ref o, .int p0, .int p1, .int p2, .int p3, .int p4]) ++ List.replicate (9 - (lg_sl ([.ref o, .int p0, .int p1, .int p2, .int p3, .int p4])).length) Slot.unset).toArray = ls at hl ⊢
  have hl : lv_has ls 9 [(0, .ref o), (1, .int p0), (2, .int p1), (3, .int p2), (4, .int p3), (5, .int p4)] := hl
  refine w_start (A0 := A) hP (fun H locs hP hS => ?_)
  refine lv_iload hx hb dX10_odds_0 (lv_at hl 4 rfl) ?_
  refine lv_iconst (v := 0) hx hb dX10_odds_2 (by decide) ?_
  refine lv_iconst (v := 4) hx hb dX10_odds_3 (by decide) ?_
  refine cg0 (rn_S (As := [.int p3, .int 0, .int 4]) (rest := []) (c_isWithin l D Y Z H.size p3 0 4 (0) (4) (by decide) (by decide)) ⟨hx, hb, hml, hown, hg⟩ lk_X10_100 ⟨CP.blind, CP.at nilP hKN (nilD (A := fun _ => True))⟩ ⟨⟨rfl, rfl⟩, ⟨Nat.le_of_ble_eq_true rfl, Nat.le_of_ble_eq_true rfl⟩, ⟨Nat.le_of_ble_eq_true rfl, Nat.le_of_ble_eq_true rfl⟩⟩ hl.1 rfl (Nat.le_of_ble_eq_true rfl) dX10_odds_4) hP hS hA (fun u1 H locs w2 hP hS => ?_)
  rcases w2 with ⟨w2, rfl⟩ | ⟨w2, rfl⟩
  · skip
    refine W.eq (g2 := F0 m 7 ls [.int 1]) rfl ?_
    refine lv_if_eq (tgt := 24) hx hb dX10_odds_7 (by decide) (fun c3 => ?_) (fun c3 => ?_)
    · exact absurd c3 (by decide)
    refine lv_iload hx hb dX10_odds_10 (lv_at hl 5 rfl) ?_
    refine lv_iconst (v := 0) hx hb dX10_odds_12 (by decide) ?_
    refine lv_iconst (v := 1) hx hb dX10_odds_13 (by decide) ?_
    refine cg0 (rn_S (As := [.int p4, .int 0, .int 1]) (rest := []) (c_isWithin l D Y Z H.size p4 0 1 (0) (1) (by decide) (by decide)) ⟨hx, hb, hml, hown, hg⟩ lk_X10_100 ⟨CP.blind, CP.at nilP hKN (nilD (A := fun _ => True))⟩ ⟨⟨rfl, rfl⟩, ⟨Nat.le_of_ble_eq_true rfl, Nat.le_of_ble_eq_true rfl⟩, ⟨Nat.le_of_ble_eq_true rfl, Nat.le_of_ble_eq_true rfl⟩⟩ hl.1 rfl (Nat.le_of_ble_eq_true rfl) dX10_odds_14) hP hS hA (fun u4 H locs w5 hP hS => ?_)
    rcases w5 with ⟨w5, rfl⟩ | ⟨w5, rfl⟩
    · skip
      refine W.eq (g2 := F0 m 17 ls [.int 1]) rfl ?_
      refine lv_if_eq (tgt := 24) hx hb dX10_odds_17 (by decide) (fun c6 => ?_) (fun c6 => ?_)
      · exact absurd c6 (by decide)
      refine lv_iconst (v := 1) hx hb dX10_odds_20 (by decide) ?_
      refine lv_goto (tgt := 25) hx hb dX10_odds_21 (by decide) ?_
      refine lv_istore (lv' := [(6, .int 1), (0, .ref o), (1, .int p0), (2, .int p1), (3, .int p2), (4, .int p3), (5, .int p4)]) hx hb dX10_odds_25 hl (by decide) rfl (fun ls hl => ?_)
      refine lv_iload hx hb dX10_odds_27 (lv_at hl 0 rfl) ?_
      refine lv_if_eq (tgt := 42) hx hb dX10_odds_29 (by decide) (fun c7 => ?_) (fun c7 => ?_)
      · exact absurd c7 (by decide)
      refine lv_aload_n hx hb dX10_odds_32 rfl (lv_at hl 1 rfl) ?_
      refine lv_iload_n hx hb dX10_odds_33 rfl (lv_at hl 2 rfl) ?_
      refine lv_iload_n hx hb dX10_odds_34 rfl (lv_at hl 3 rfl) ?_
      refine lv_iload_n hx hb dX10_odds_35 rfl (lv_at hl 4 rfl) ?_
      refine cg (wc := [(o, .inr (10, (dsF b))), ((b 0), .inr (6, (skF b)))]) (wr := []) [0, 1] [] (rn_V (As := [.int p0, .int p1, .int p2]) (rest := []) (b := o) (c_isWeighed l D Y Z H.size o b p0 p1 p2) ⟨hx, hb, hml, hown, hg⟩ lk_X10_343 ⟨CP.blind, va_recv hKN.1 hP (ci := 10) (q0 := 0) rfl rfl, CP.at (hP.sub [0, 1] rfl) hKN (hD.sub [0, 1] (by decide) rfl)⟩ ⟨⟨rfl, rfl⟩, ⟨Nat.le_of_ble_eq_true rfl, Nat.le_of_ble_eq_true rfl⟩, ⟨Nat.le_of_ble_eq_true rfl, Nat.le_of_ble_eq_true rfl⟩⟩ hl.1 rfl (Nat.le_of_ble_eq_true rfl) dX10_odds_36) hP hD hS hA rfl rfl (by decide) (by decide) (fun u8 H locs w9 hP hD hS => ?_)
      refine W.eq (g2 := F0 m 39 ls [.int 0]) rfl ?_
      have hP : va_P D vwCl [(o, .inr (10, (dsF b))), ((b 0), .inr (6, (skF b)))] H := hP
      have hD : va_D A [(o, .inr (10, (dsF b))), ((b 0), .inr (6, (skF b)))] := hD
      refine lv_if_ne (tgt := 44) hx hb dX10_odds_39 (by decide) (fun c10 => ?_) (fun c10 => ?_)
      · exact absurd c10 (by decide)
      refine lv_iconst (v := (-1)) hx hb dX10_odds_42 (by decide) ?_
      refine W.widen (k := 0) (n := 0) (Nat.le_of_ble_eq_true rfl) (Nat.le_of_ble_eq_true rfl) ?_
      exact W.iret (v := (-1)) hx hb hr (fun t ht hW => ⟨⟨(), rfl, trivial, CB.nil⟩, hS.F ht⟩) hS.2.2 dX10_odds_43
    · skip
      refine W.eq (g2 := F0 m 17 ls [.int 0]) rfl ?_
      refine lv_if_eq (tgt := 24) hx hb dX10_odds_17 (by decide) (fun c11 => ?_) (fun c11 => ?_)
      rotate_left
      · exact absurd c11 (by decide)
      refine lv_iconst (v := 0) hx hb dX10_odds_24 (by decide) ?_
      refine lv_istore (lv' := [(6, .int 0), (0, .ref o), (1, .int p0), (2, .int p1), (3, .int p2), (4, .int p3), (5, .int p4)]) hx hb dX10_odds_25 hl (by decide) rfl (fun ls hl => ?_)
      refine lv_iload hx hb dX10_odds_27 (lv_at hl 0 rfl) ?_
      refine lv_if_eq (tgt := 42) hx hb dX10_odds_29 (by decide) (fun c12 => ?_) (fun c12 => ?_)
      rotate_left
      · exact absurd c12 (by decide)
      refine lv_iconst (v := (-1)) hx hb dX10_odds_42 (by decide) ?_
      refine W.widen (k := 0) (n := 0) (Nat.le_of_ble_eq_true rfl) (Nat.le_of_ble_eq_true rfl) ?_
      exact W.iret (v := (-1)) hx hb hr (fun t ht hW => ⟨⟨(), rfl, trivial, CB.nil⟩, hS.F ht⟩) hS.2.2 dX10_odds_43
  · skip
    refine W.eq (g2 := F0 m 7 ls [.int 0]) rfl ?_
    refine lv_if_eq (tgt := 24) hx hb dX10_odds_7 (by decide) (fun c13 => ?_) (fun c13 => ?_)
    rotate_left
    · exact absurd c13 (by decide)
    refine lv_iconst (v := 0) hx hb dX10_odds_24 (by decide) ?_
    refine lv_istore (lv' := [(6, .int 0), (0, .ref o), (1, .int p0), (2, .int p1), (3, .int p2), (4, .int p3), (5, .int p4)]) hx hb dX10_odds_25 hl (by decide) rfl (fun ls hl => ?_)
    refine lv_iload hx hb dX10_odds_27 (lv_at hl 0 rfl) ?_
    refine lv_if_eq (tgt := 42) hx hb dX10_odds_29 (by decide) (fun c14 => ?_) (fun c14 => ?_)
    rotate_left
    · exact absurd c14 (by decide)
    refine lv_iconst (v := (-1)) hx hb dX10_odds_42 (by decide) ?_
    refine W.widen (k := 0) (n := 0) (Nat.le_of_ble_eq_true rfl) (Nat.le_of_ble_eq_true rfl) ?_
    exact W.iret (v := (-1)) hx hb hr (fun t ht hW => ⟨⟨(), rfl, trivial, CB.nil⟩, hS.F ht⟩) hS.2.2 dX10_odds_43
set_option maxHeartbeats 4000000 in
set_option maxRecDepth 100000 in
theorem y_odds (l : Launch) (D : va_G) (Y : Nat → ClassId) (Z : Nat → Nat) (sz : Nat) (o : Nat) (a : Nat → Nat) (p0 p1 p2 p3 p4 : Int32) : Met l yX11_odds (.code yX11_odds cX11_odds 8 (some .int) :: GW) ({ frames := 2, cells := 0, slots := 0, locals := 45 }) (va_Pc [.ref o, .int p0, .int p1, .int p2, .int p3, .int p4] (CP D Y Z [(o, .inr (11, (moF a))), ((a 3), .inl (Y 0, 3, .inl (fun _ => 0)))] sz)) (QG (S := Unit) (fun _ => some (.int (-1))) (fun _ => True) (fun u => CB D ((fun _ => []) u) (va_A [(o, .inr (11, (moF a))), ((a 3), .inl (Y 0, 3, .inl (fun _ => 0)))] sz)) (va_A [(o, .inr (11, (moF a))), ((a 3), .inl (Y 0, 3, .inl (fun _ => 0)))] sz)) 0 0 (va_A [(o, .inr (11, (moF a))), ((a 3), .inl (Y 0, 3, .inl (fun _ => 0)))] sz) := by
  refine Met.ofW (cc := cX11_odds) (maxL := 8) (ret := (some .int)) (by decide) rfl ?_
  intro p e s m args below meth c s₁ B hml hv
  obtain ⟨rfl, hsz, hP, hKN, hD0⟩ := hv
  have hx := B.exec
  have hb := B.bytes
  have hr := B.returns
  have hts := atoms_spec (ws := .code yX11_odds cX11_odds 8 (some .int) :: GW) B.pre
  have hg : ∀ w ∈ GW, w.before _ s = true := fun w h => hts w (List.mem_cons_of_mem _ h)
  have hown : s.vm.findClass RX11 = some m.cls := findClass_of_methodNamed B.named
  have hlocks := B.notSynchronized
  subst hsz
  have hD := hD0.self (sz := s.heap.size)
  generalize hAe : va_A [(o, .inr (11, (moF a))), ((a 3), .inl (Y 0, 3, .inl (fun _ => 0)))] s.heap.size = A at hD ⊢
  have hA : ∀ q : Nat, s.heap.size ≤ q → A q := fun q h => by rw [← hAe]; exact Or.inr h
  have hl := lv_entry ([.ref o, .int p0, .int p1, .int p2, .int p3, .int p4]) (n := 8) (Nat.le_of_ble_eq_true rfl)
  rw [lg_entry_eq]
  generalize (lg_sl ([.ref o, .int p0, .int p1, .int p2, .int p3, .int p4]) ++ List.replicate (8 - (lg_sl ([.ref o, .int p0, .int p1, .int p2, .int p3, .int p4])).length) Slot.unset).toArray = ls at hl ⊢
  have hl : lv_has ls 8 [(0, .ref o), (1, .int p0), (2, .int p1), (3, .int p2), (4, .int p3), (5, .int p4)] := hl
  refine w_start (A0 := A) hP (fun H locs hP hS => ?_)
  refine lv_iload hx hb dX11_odds_0 (lv_at hl 4 rfl) ?_
  refine lv_i2l (v := p3.toInt64) hx hb dX11_odds_2 (rfl) ?_
  refine lv_lconst (v := 0) hx hb dX11_odds_3 (by decide) ?_
  refine lv_ldc2 (v := 4) hx hb hown (hg _ kw_1665) dX11_odds_4 ?_
  refine cg0 (rn_S (As := [.long p3.toInt64, .long 0, .long 4]) (rest := []) (c_in l D Y Z H.size p3.toInt64 0 4 (p3).toInt (0) (4) (Int32.toInt_toInt64 _) (by decide) (by decide) ) ⟨hx, hb, hml, hown, hg⟩ lk_X11_99 ⟨CP.blind, CP.at nilP hKN (nilD (A := fun _ => True))⟩ ⟨⟨rfl, rfl⟩, ⟨Nat.le_of_ble_eq_true rfl, Nat.le_of_ble_eq_true rfl⟩, ⟨Nat.le_of_ble_eq_true rfl, Nat.le_of_ble_eq_true rfl⟩⟩ hl.1 rfl (Nat.le_of_ble_eq_true rfl) dX11_odds_7) hP hS hA (fun u1 H locs w2 hP hS => ?_)
  rcases w2 with ⟨w2, rfl⟩ | ⟨w2, rfl⟩
  · skip
    refine W.eq (g2 := F0 m 10 ls [.int 1]) rfl ?_
    refine lv_if_eq (tgt := 34) hx hb dX11_odds_10 (by decide) (fun c3 => ?_) (fun c3 => ?_)
    · exact absurd c3 (by decide)
    refine lv_iload hx hb dX11_odds_13 (lv_at hl 5 rfl) ?_
    refine lv_i2l (v := p4.toInt64) hx hb dX11_odds_15 (rfl) ?_
    refine lv_lconst (v := 0) hx hb dX11_odds_16 (by decide) ?_
    refine lv_lconst (v := 1) hx hb dX11_odds_17 (by decide) ?_
    refine cg0 (rn_S (As := [.long p4.toInt64, .long 0, .long 1]) (rest := []) (c_in l D Y Z H.size p4.toInt64 0 1 (p4).toInt (0) (1) (Int32.toInt_toInt64 _) (by decide) (by decide) ) ⟨hx, hb, hml, hown, hg⟩ lk_X11_99 ⟨CP.blind, CP.at nilP hKN (nilD (A := fun _ => True))⟩ ⟨⟨rfl, rfl⟩, ⟨Nat.le_of_ble_eq_true rfl, Nat.le_of_ble_eq_true rfl⟩, ⟨Nat.le_of_ble_eq_true rfl, Nat.le_of_ble_eq_true rfl⟩⟩ hl.1 rfl (Nat.le_of_ble_eq_true rfl) dX11_odds_18) hP hS hA (fun u4 H locs w5 hP hS => ?_)
    rcases w5 with ⟨w5, rfl⟩ | ⟨w5, rfl⟩
    · skip
      refine W.eq (g2 := F0 m 21 ls [.int 1]) rfl ?_
      refine lv_if_eq (tgt := 34) hx hb dX11_odds_21 (by decide) (fun c6 => ?_) (fun c6 => ?_)
      · exact absurd c6 (by decide)
      refine lv_aload_n hx hb dX11_odds_24 rfl (lv_at hl 0 rfl) ?_
      refine lv_iload_n hx hb dX11_odds_25 rfl (lv_at hl 1 rfl) ?_
      refine lv_iload_n hx hb dX11_odds_26 rfl (lv_at hl 2 rfl) ?_
      refine lv_iload_n hx hb dX11_odds_27 rfl (lv_at hl 3 rfl) ?_
      refine cg (wc := [(o, .inr (11, (moF a))), ((a 3), .inl (Y 0, 3, .inl (fun _ => 0)))]) (wr := []) [0, 1] [] (rn_V (As := [.int p0, .int p1, .int p2]) (rest := []) (b := o) (m_canWeigh l D Y Z H.size o a p0 p1 p2) ⟨hx, hb, hml, hown, hg⟩ lk_X11_546 ⟨CP.blind, va_recv hKN.1 hP (ci := 11) (q0 := 0) rfl rfl, CP.at (hP.sub [0, 1] rfl) hKN (hD.sub [0, 1] (by decide) rfl)⟩ ⟨⟨rfl, rfl⟩, ⟨Nat.le_of_ble_eq_true rfl, Nat.le_of_ble_eq_true rfl⟩, ⟨Nat.le_of_ble_eq_true rfl, Nat.le_of_ble_eq_true rfl⟩⟩ hl.1 rfl (Nat.le_of_ble_eq_true rfl) dX11_odds_28) hP hD hS hA rfl rfl (by decide) (by decide) (fun u7 H locs w8 hP hD hS => ?_)
      refine W.eq (g2 := F0 m 31 ls [.int 0]) rfl ?_
      have hP : va_P D vwCl [(o, .inr (11, (moF a))), ((a 3), .inl (Y 0, 3, .inl (fun _ => 0)))] H := hP
      have hD : va_D A [(o, .inr (11, (moF a))), ((a 3), .inl (Y 0, 3, .inl (fun _ => 0)))] := hD
      refine lv_if_ne (tgt := 36) hx hb dX11_odds_31 (by decide) (fun c9 => ?_) (fun c9 => ?_)
      · exact absurd c9 (by decide)
      refine lv_iconst (v := (-1)) hx hb dX11_odds_34 (by decide) ?_
      refine W.widen (k := 0) (n := 0) (Nat.le_of_ble_eq_true rfl) (Nat.le_of_ble_eq_true rfl) ?_
      exact W.iret (v := (-1)) hx hb hr (fun t ht hW => ⟨⟨(), rfl, trivial, CB.nil⟩, hS.F ht⟩) hS.2.2 dX11_odds_35
    · skip
      refine W.eq (g2 := F0 m 21 ls [.int 0]) rfl ?_
      refine lv_if_eq (tgt := 34) hx hb dX11_odds_21 (by decide) (fun c10 => ?_) (fun c10 => ?_)
      rotate_left
      · exact absurd c10 (by decide)
      refine lv_iconst (v := (-1)) hx hb dX11_odds_34 (by decide) ?_
      refine W.widen (k := 0) (n := 0) (Nat.le_of_ble_eq_true rfl) (Nat.le_of_ble_eq_true rfl) ?_
      exact W.iret (v := (-1)) hx hb hr (fun t ht hW => ⟨⟨(), rfl, trivial, CB.nil⟩, hS.F ht⟩) hS.2.2 dX11_odds_35
  · skip
    refine W.eq (g2 := F0 m 10 ls [.int 0]) rfl ?_
    refine lv_if_eq (tgt := 34) hx hb dX11_odds_10 (by decide) (fun c11 => ?_) (fun c11 => ?_)
    rotate_left
    · exact absurd c11 (by decide)
    refine lv_iconst (v := (-1)) hx hb dX11_odds_34 (by decide) ?_
    refine W.widen (k := 0) (n := 0) (Nat.le_of_ble_eq_true rfl) (Nat.le_of_ble_eq_true rfl) ?_
    exact W.iret (v := (-1)) hx hb hr (fun t ht hW => ⟨⟨(), rfl, trivial, CB.nil⟩, hS.F ht⟩) hS.2.2 dX11_odds_35
set_option maxHeartbeats 4000000 in
set_option maxRecDepth 100000 in
theorem x_truly (l : Launch) (D : va_G) (Y : Nat → ClassId) (Z : Nat → Nat) (sz : Nat) (o : Nat) (b : Nat → Nat) (p0 p1 : Int32) : Met l yX10_truly (.code yX10_truly cX10_truly 13 (some .long) :: GW) ({ frames := 2, cells := 0, slots := 0, locals := 43 }) (va_Pc [.ref o, .int p0, .int p1] (CP D Y Z [(o, .inr (10, (dsF b)))] sz)) (QG (S := Unit) (fun _ => some (.long (-1))) (fun _ => True) (fun u => CB D ((fun _ => []) u) (va_A [(o, .inr (10, (dsF b)))] sz)) (va_A [(o, .inr (10, (dsF b)))] sz)) 0 0 (va_A [(o, .inr (10, (dsF b)))] sz) := by
  refine Met.ofW (cc := cX10_truly) (maxL := 13) (ret := (some .long)) (by decide) rfl ?_
  intro p e s m args below meth c s₁ B hml hv
  obtain ⟨rfl, hsz, hP, hKN, hD0⟩ := hv
  have hx := B.exec
  have hb := B.bytes
  have hr := B.returns
  have hts := atoms_spec (ws := .code yX10_truly cX10_truly 13 (some .long) :: GW) B.pre
  have hg : ∀ w ∈ GW, w.before _ s = true := fun w h => hts w (List.mem_cons_of_mem _ h)
  have hown : s.vm.findClass RX10 = some m.cls := findClass_of_methodNamed B.named
  have hlocks := B.notSynchronized
  subst hsz
  have hD := hD0.self (sz := s.heap.size)
  generalize hAe : va_A [(o, .inr (10, (dsF b)))] s.heap.size = A at hD ⊢
  have hA : ∀ q : Nat, s.heap.size ≤ q → A q := fun q h => by rw [← hAe]; exact Or.inr h
  have hl := lv_entry ([.ref o, .int p0, .int p1]) (n := 13) (Nat.le_of_ble_eq_true rfl)
  rw [lg_entry_eq]
  generalize (lg_sl ([.ref o, .int p0, .int p1]) ++ List.replicate (13 - (lg_sl ([.ref o, .int p0, .int p1])).length) Slot.unset).toArray = ls at hl ⊢
  have hl : lv_has ls 13 [(0, .ref o), (1, .int p0), (2, .int p1)] := hl
  refine w_start (A0 := A) hP (fun H locs hP hS => ?_)
  refine lv_aload_n hx hb dX10_truly_0 rfl (lv_at hl 0 rfl) ?_
  refine lv_iload_n hx hb dX10_truly_1 rfl (lv_at hl 1 rfl) ?_
  refine cg (wc := [(o, .inr (10, (dsF b)))]) (wr := []) [0] [] (rn_V (As := [.int p0]) (rest := []) (b := o) (c_searchAt l D Y Z H.size o b p0) ⟨hx, hb, hml, hown, hg⟩ lk_X10_259 ⟨CP.blind, va_recv hKN.1 hP (ci := 10) (q0 := 0) rfl rfl, CP.at (hP.sub [0] rfl) hKN (hD.sub [0] (by decide) rfl)⟩ ⟨⟨rfl, rfl⟩, ⟨Nat.le_of_ble_eq_true rfl, Nat.le_of_ble_eq_true rfl⟩, ⟨Nat.le_of_ble_eq_true rfl, Nat.le_of_ble_eq_true rfl⟩⟩ hl.1 rfl (Nat.le_of_ble_eq_true rfl) dX10_truly_2) hP hD hS hA rfl rfl (by decide) (by decide) (fun u1 H locs w2 hP hD hS => ?_)
  refine W.eq (g2 := F0 m 5 ls [.null]) rfl ?_
  have hP : va_P D vwCl [(o, .inr (10, (dsF b)))] H := hP
  have hD : va_D A [(o, .inr (10, (dsF b)))] := hD
  refine lv_astore_nN (lv' := [(3, .null), (0, .ref o), (1, .int p0), (2, .int p1)]) hx hb dX10_truly_5 rfl hl (by decide) rfl (fun ls hl => ?_)
  refine lv_aload_nN hx hb dX10_truly_6 rfl (lv_at hl 0 rfl) ?_
  refine lv_ifnullN (tgt := 18) hx hb dX10_truly_7 (by decide) ?_
  refine lv_ldc2 (v := (-1)) hx hb hown (hg _ kw_899) dX10_truly_18 ?_
  refine W.widen (k := 0) (n := 0) (Nat.le_of_ble_eq_true rfl) (Nat.le_of_ble_eq_true rfl) ?_
  exact W.lret (v := (-1)) hx hb hr (fun t ht hW => ⟨⟨(), rfl, trivial, CB.nil⟩, hS.F ht⟩) hS.2.2 dX10_truly_21
set_option maxHeartbeats 4000000 in
set_option maxRecDepth 100000 in
theorem y_truly (l : Launch) (D : va_G) (Y : Nat → ClassId) (Z : Nat → Nat) (sz : Nat) (o : Nat) (a : Nat → Nat) (p0 p1 : Int32) : Met l yX11_truly (.code yX11_truly cX11_truly 9 (some .long) :: GW) ({ frames := 1, cells := 0, slots := 0, locals := 22 }) (va_Pc [.ref o, .int p0, .int p1] (CP D Y Z [(o, .inr (11, (moF a))), ((a 3), .inl (Y 0, 3, .inl (fun _ => 0)))] sz)) (QG (S := Unit) (fun _ => some (.long (-1))) (fun _ => True) (fun u => CB D ((fun _ => []) u) (va_A [(o, .inr (11, (moF a))), ((a 3), .inl (Y 0, 3, .inl (fun _ => 0)))] sz)) (va_A [(o, .inr (11, (moF a))), ((a 3), .inl (Y 0, 3, .inl (fun _ => 0)))] sz)) 0 0 (va_A [(o, .inr (11, (moF a))), ((a 3), .inl (Y 0, 3, .inl (fun _ => 0)))] sz) := by
  refine Met.ofW (cc := cX11_truly) (maxL := 9) (ret := (some .long)) (by decide) rfl ?_
  intro p e s m args below meth c s₁ B hml hv
  obtain ⟨rfl, hsz, hP, hKN, hD0⟩ := hv
  have hx := B.exec
  have hb := B.bytes
  have hr := B.returns
  have hts := atoms_spec (ws := .code yX11_truly cX11_truly 9 (some .long) :: GW) B.pre
  have hg : ∀ w ∈ GW, w.before _ s = true := fun w h => hts w (List.mem_cons_of_mem _ h)
  have hown : s.vm.findClass RX11 = some m.cls := findClass_of_methodNamed B.named
  have hlocks := B.notSynchronized
  subst hsz
  have hD := hD0.self (sz := s.heap.size)
  generalize hAe : va_A [(o, .inr (11, (moF a))), ((a 3), .inl (Y 0, 3, .inl (fun _ => 0)))] s.heap.size = A at hD ⊢
  have hA : ∀ q : Nat, s.heap.size ≤ q → A q := fun q h => by rw [← hAe]; exact Or.inr h
  have hl := lv_entry ([.ref o, .int p0, .int p1]) (n := 9) (Nat.le_of_ble_eq_true rfl)
  rw [lg_entry_eq]
  generalize (lg_sl ([.ref o, .int p0, .int p1]) ++ List.replicate (9 - (lg_sl ([.ref o, .int p0, .int p1])).length) Slot.unset).toArray = ls at hl ⊢
  have hl : lv_has ls 9 [(0, .ref o), (1, .int p0), (2, .int p1)] := hl
  refine w_start (A0 := A) hP (fun H locs hP hS => ?_)
  refine lv_aload_n hx hb dX11_truly_0 rfl (lv_at hl 0 rfl) ?_
  refine lv_iconst (v := 1) hx hb dX11_truly_1 (by decide) ?_
  refine lv_iload_n hx hb dX11_truly_2 rfl (lv_at hl 1 rfl) ?_
  refine cg (wc := [(o, .inr (11, (moF a))), ((a 3), .inl (Y 0, 3, .inl (fun _ => 0)))]) (wr := []) [0, 1] [] (rn_V (As := [.int 1, .int p0]) (rest := []) (b := o) (m_isText1 l D Y Z H.size o a p0) ⟨hx, hb, hml, hown, hg⟩ lk_X11_366 ⟨CP.blind, va_recv hKN.1 hP (ci := 11) (q0 := 0) rfl rfl, CP.at (hP.sub [0, 1] rfl) hKN (hD.sub [0, 1] (by decide) rfl)⟩ ⟨⟨rfl, rfl⟩, ⟨Nat.le_of_ble_eq_true rfl, Nat.le_of_ble_eq_true rfl⟩, ⟨Nat.le_of_ble_eq_true rfl, Nat.le_of_ble_eq_true rfl⟩⟩ hl.1 rfl (Nat.le_of_ble_eq_true rfl) dX11_truly_3) hP hD hS hA rfl rfl (by decide) (by decide) (fun u1 H locs w2 hP hD hS => ?_)
  refine W.eq (g2 := F0 m 6 ls [.int 0]) rfl ?_
  have hP : va_P D vwCl [(o, .inr (11, (moF a))), ((a 3), .inl (Y 0, 3, .inl (fun _ => 0)))] H := hP
  have hD : va_D A [(o, .inr (11, (moF a))), ((a 3), .inl (Y 0, 3, .inl (fun _ => 0)))] := hD
  refine lv_if_eq (tgt := 18) hx hb dX11_truly_6 (by decide) (fun c3 => ?_) (fun c3 => ?_)
  rotate_left
  · exact absurd c3 (by decide)
  refine lv_ldc2 (v := (-1)) hx hb hown (hg _ kw_1650) dX11_truly_18 ?_
  refine W.widen (k := 0) (n := 0) (Nat.le_of_ble_eq_true rfl) (Nat.le_of_ble_eq_true rfl) ?_
  exact W.lret (v := (-1)) hx hb hr (fun t ht hW => ⟨⟨(), rfl, trivial, CB.nil⟩, hS.F ht⟩) hS.2.2 dX11_truly_21
set_option maxHeartbeats 4000000 in
set_option maxRecDepth 100000 in
theorem x_bound (l : Launch) (D : va_G) (Y : Nat → ClassId) (Z : Nat → Nat) (sz : Nat) (o : Nat) (b : Nat → Nat) (p0 p1 : Int32) : Met l yX10_bound (.code yX10_bound cX10_bound 10 (some .int) :: GW) ({ frames := 2, cells := 0, slots := 0, locals := 43 }) (va_Pc [.ref o, .int p0, .int p1] (CP D Y Z [(o, .inr (10, (dsF b)))] sz)) (QG (S := Unit) (fun _ => some (.int (-1))) (fun _ => True) (fun u => CB D ((fun _ => []) u) (va_A [(o, .inr (10, (dsF b)))] sz)) (va_A [(o, .inr (10, (dsF b)))] sz)) 0 0 (va_A [(o, .inr (10, (dsF b)))] sz) := by
  refine Met.ofW (cc := cX10_bound) (maxL := 10) (ret := (some .int)) (by decide) rfl ?_
  intro p e s m args below meth c s₁ B hml hv
  obtain ⟨rfl, hsz, hP, hKN, hD0⟩ := hv
  have hx := B.exec
  have hb := B.bytes
  have hr := B.returns
  have hts := atoms_spec (ws := .code yX10_bound cX10_bound 10 (some .int) :: GW) B.pre
  have hg : ∀ w ∈ GW, w.before _ s = true := fun w h => hts w (List.mem_cons_of_mem _ h)
  have hown : s.vm.findClass RX10 = some m.cls := findClass_of_methodNamed B.named
  have hlocks := B.notSynchronized
  subst hsz
  have hD := hD0.self (sz := s.heap.size)
  generalize hAe : va_A [(o, .inr (10, (dsF b)))] s.heap.size = A at hD ⊢
  have hA : ∀ q : Nat, s.heap.size ≤ q → A q := fun q h => by rw [← hAe]; exact Or.inr h
  have hl := lv_entry ([.ref o, .int p0, .int p1]) (n := 10) (Nat.le_of_ble_eq_true rfl)
  rw [lg_entry_eq]
  generalize (lg_sl ([.ref o, .int p0, .int p1]) ++ List.replicate (10 - (lg_sl ([.ref o, .int p0, .int p1])).length) Slot.unset).toArray = ls at hl ⊢
  have hl : lv_has ls 10 [(0, .ref o), (1, .int p0), (2, .int p1)] := hl
  refine w_start (A0 := A) hP (fun H locs hP hS => ?_)
  refine lv_aload_n hx hb dX10_bound_0 rfl (lv_at hl 0 rfl) ?_
  refine lv_iload_n hx hb dX10_bound_1 rfl (lv_at hl 1 rfl) ?_
  refine cg (wc := [(o, .inr (10, (dsF b)))]) (wr := []) [0] [] (rn_V (As := [.int p0]) (rest := []) (b := o) (c_searchAt l D Y Z H.size o b p0) ⟨hx, hb, hml, hown, hg⟩ lk_X10_259 ⟨CP.blind, va_recv hKN.1 hP (ci := 10) (q0 := 0) rfl rfl, CP.at (hP.sub [0] rfl) hKN (hD.sub [0] (by decide) rfl)⟩ ⟨⟨rfl, rfl⟩, ⟨Nat.le_of_ble_eq_true rfl, Nat.le_of_ble_eq_true rfl⟩, ⟨Nat.le_of_ble_eq_true rfl, Nat.le_of_ble_eq_true rfl⟩⟩ hl.1 rfl (Nat.le_of_ble_eq_true rfl) dX10_bound_2) hP hD hS hA rfl rfl (by decide) (by decide) (fun u1 H locs w2 hP hD hS => ?_)
  refine W.eq (g2 := F0 m 5 ls [.null]) rfl ?_
  have hP : va_P D vwCl [(o, .inr (10, (dsF b)))] H := hP
  have hD : va_D A [(o, .inr (10, (dsF b)))] := hD
  refine lv_astore_nN (lv' := [(3, .null), (0, .ref o), (1, .int p0), (2, .int p1)]) hx hb dX10_bound_5 rfl hl (by decide) rfl (fun ls hl => ?_)
  refine lv_aload_nN hx hb dX10_bound_6 rfl (lv_at hl 0 rfl) ?_
  refine lv_ifnullN (tgt := 21) hx hb dX10_bound_7 (by decide) ?_
  refine lv_iconst (v := (-1)) hx hb dX10_bound_21 (by decide) ?_
  refine W.widen (k := 0) (n := 0) (Nat.le_of_ble_eq_true rfl) (Nat.le_of_ble_eq_true rfl) ?_
  exact W.iret (v := (-1)) hx hb hr (fun t ht hW => ⟨⟨(), rfl, trivial, CB.nil⟩, hS.F ht⟩) hS.2.2 dX10_bound_22
set_option maxHeartbeats 4000000 in
set_option maxRecDepth 100000 in
theorem y_bound (l : Launch) (D : va_G) (Y : Nat → ClassId) (Z : Nat → Nat) (sz : Nat) (o : Nat) (a : Nat → Nat) (p0 p1 : Int32) : Met l yX11_bound (.code yX11_bound cX11_bound 8 (some .int) :: GW) ({ frames := 1, cells := 0, slots := 0, locals := 22 }) (va_Pc [.ref o, .int p0, .int p1] (CP D Y Z [(o, .inr (11, (moF a))), ((a 3), .inl (Y 0, 3, .inl (fun _ => 0)))] sz)) (QG (S := Unit) (fun _ => some (.int (-1))) (fun _ => True) (fun u => CB D ((fun _ => []) u) (va_A [(o, .inr (11, (moF a))), ((a 3), .inl (Y 0, 3, .inl (fun _ => 0)))] sz)) (va_A [(o, .inr (11, (moF a))), ((a 3), .inl (Y 0, 3, .inl (fun _ => 0)))] sz)) 0 0 (va_A [(o, .inr (11, (moF a))), ((a 3), .inl (Y 0, 3, .inl (fun _ => 0)))] sz) := by
  refine Met.ofW (cc := cX11_bound) (maxL := 8) (ret := (some .int)) (by decide) rfl ?_
  intro p e s m args below meth c s₁ B hml hv
  obtain ⟨rfl, hsz, hP, hKN, hD0⟩ := hv
  have hx := B.exec
  have hb := B.bytes
  have hr := B.returns
  have hts := atoms_spec (ws := .code yX11_bound cX11_bound 8 (some .int) :: GW) B.pre
  have hg : ∀ w ∈ GW, w.before _ s = true := fun w h => hts w (List.mem_cons_of_mem _ h)
  have hown : s.vm.findClass RX11 = some m.cls := findClass_of_methodNamed B.named
  have hlocks := B.notSynchronized
  subst hsz
  have hD := hD0.self (sz := s.heap.size)
  generalize hAe : va_A [(o, .inr (11, (moF a))), ((a 3), .inl (Y 0, 3, .inl (fun _ => 0)))] s.heap.size = A at hD ⊢
  have hA : ∀ q : Nat, s.heap.size ≤ q → A q := fun q h => by rw [← hAe]; exact Or.inr h
  have hl := lv_entry ([.ref o, .int p0, .int p1]) (n := 8) (Nat.le_of_ble_eq_true rfl)
  rw [lg_entry_eq]
  generalize (lg_sl ([.ref o, .int p0, .int p1]) ++ List.replicate (8 - (lg_sl ([.ref o, .int p0, .int p1])).length) Slot.unset).toArray = ls at hl ⊢
  have hl : lv_has ls 8 [(0, .ref o), (1, .int p0), (2, .int p1)] := hl
  refine w_start (A0 := A) hP (fun H locs hP hS => ?_)
  refine lv_aload_n hx hb dX11_bound_0 rfl (lv_at hl 0 rfl) ?_
  refine lv_iconst (v := 1) hx hb dX11_bound_1 (by decide) ?_
  refine lv_iload_n hx hb dX11_bound_2 rfl (lv_at hl 1 rfl) ?_
  refine cg (wc := [(o, .inr (11, (moF a))), ((a 3), .inl (Y 0, 3, .inl (fun _ => 0)))]) (wr := []) [0, 1] [] (rn_V (As := [.int 1, .int p0]) (rest := []) (b := o) (m_isText1 l D Y Z H.size o a p0) ⟨hx, hb, hml, hown, hg⟩ lk_X11_366 ⟨CP.blind, va_recv hKN.1 hP (ci := 11) (q0 := 0) rfl rfl, CP.at (hP.sub [0, 1] rfl) hKN (hD.sub [0, 1] (by decide) rfl)⟩ ⟨⟨rfl, rfl⟩, ⟨Nat.le_of_ble_eq_true rfl, Nat.le_of_ble_eq_true rfl⟩, ⟨Nat.le_of_ble_eq_true rfl, Nat.le_of_ble_eq_true rfl⟩⟩ hl.1 rfl (Nat.le_of_ble_eq_true rfl) dX11_bound_3) hP hD hS hA rfl rfl (by decide) (by decide) (fun u1 H locs w2 hP hD hS => ?_)
  refine W.eq (g2 := F0 m 6 ls [.int 0]) rfl ?_
  have hP : va_P D vwCl [(o, .inr (11, (moF a))), ((a 3), .inl (Y 0, 3, .inl (fun _ => 0)))] H := hP
  have hD : va_D A [(o, .inr (11, (moF a))), ((a 3), .inl (Y 0, 3, .inl (fun _ => 0)))] := hD
  refine lv_if_eq (tgt := 21) hx hb dX11_bound_6 (by decide) (fun c3 => ?_) (fun c3 => ?_)
  rotate_left
  · exact absurd c3 (by decide)
  refine lv_iconst (v := (-1)) hx hb dX11_bound_21 (by decide) ?_
  refine W.widen (k := 0) (n := 0) (Nat.le_of_ble_eq_true rfl) (Nat.le_of_ble_eq_true rfl) ?_
  exact W.iret (v := (-1)) hx hb hr (fun t ht hW => ⟨⟨(), rfl, trivial, CB.nil⟩, hS.F ht⟩) hS.2.2 dX11_bound_22
set_option maxHeartbeats 4000000 in
set_option maxRecDepth 100000 in
theorem x_second (l : Launch) (D : va_G) (Y : Nat → ClassId) (Z : Nat → Nat) (sz : Nat) (o : Nat) (b : Nat → Nat) (p0 p1 p2 : Int32) : Met l yX10_second (.code yX10_second cX10_second 6 (some .long) :: GW) ({ frames := 2, cells := 0, slots := 0, locals := 43 }) (va_Pc [.ref o, .int p0, .int p1, .int p2] (CP D Y Z [(o, .inr (10, (dsF b)))] sz)) (QG (S := Unit) (fun _ => some (.long (-2))) (fun _ => True) (fun u => CB D ((fun _ => []) u) (va_A [(o, .inr (10, (dsF b)))] sz)) (va_A [(o, .inr (10, (dsF b)))] sz)) 0 0 (va_A [(o, .inr (10, (dsF b)))] sz) := by
  refine Met.ofW (cc := cX10_second) (maxL := 6) (ret := (some .long)) (by decide) rfl ?_
  intro p e s m args below meth c s₁ B hml hv
  obtain ⟨rfl, hsz, hP, hKN, hD0⟩ := hv
  have hx := B.exec
  have hb := B.bytes
  have hr := B.returns
  have hts := atoms_spec (ws := .code yX10_second cX10_second 6 (some .long) :: GW) B.pre
  have hg : ∀ w ∈ GW, w.before _ s = true := fun w h => hts w (List.mem_cons_of_mem _ h)
  have hown : s.vm.findClass RX10 = some m.cls := findClass_of_methodNamed B.named
  have hlocks := B.notSynchronized
  subst hsz
  have hD := hD0.self (sz := s.heap.size)
  generalize hAe : va_A [(o, .inr (10, (dsF b)))] s.heap.size = A at hD ⊢
  have hA : ∀ q : Nat, s.heap.size ≤ q → A q := fun q h => by rw [← hAe]; exact Or.inr h
  have hl := lv_entry ([.ref o, .int p0, .int p1, .int p2]) (n := 6) (Nat.le_of_ble_eq_true rfl)
  rw [lg_entry_eq]
  generalize (lg_sl ([.ref o, .int p0, .int p1, .int p2]) ++ List.replicate (6 - (lg_sl ([.ref o, .int p0, .int p1, .int p2])).length) Slot.unset).toArray = ls at hl ⊢
  have hl : lv_has ls 6 [(0, .ref o), (1, .int p0), (2, .int p1), (3, .int p2)] := hl
  refine w_start (A0 := A) hP (fun H locs hP hS => ?_)
  refine lv_aload_n hx hb dX10_second_0 rfl (lv_at hl 0 rfl) ?_
  refine lv_iload_n hx hb dX10_second_1 rfl (lv_at hl 1 rfl) ?_
  refine cg (wc := [(o, .inr (10, (dsF b)))]) (wr := []) [0] [] (rn_V (As := [.int p0]) (rest := []) (b := o) (c_searchAt l D Y Z H.size o b p0) ⟨hx, hb, hml, hown, hg⟩ lk_X10_259 ⟨CP.blind, va_recv hKN.1 hP (ci := 10) (q0 := 0) rfl rfl, CP.at (hP.sub [0] rfl) hKN (hD.sub [0] (by decide) rfl)⟩ ⟨⟨rfl, rfl⟩, ⟨Nat.le_of_ble_eq_true rfl, Nat.le_of_ble_eq_true rfl⟩, ⟨Nat.le_of_ble_eq_true rfl, Nat.le_of_ble_eq_true rfl⟩⟩ hl.1 rfl (Nat.le_of_ble_eq_true rfl) dX10_second_2) hP hD hS hA rfl rfl (by decide) (by decide) (fun u1 H locs w2 hP hD hS => ?_)
  refine W.eq (g2 := F0 m 5 ls [.null]) rfl ?_
  have hP : va_P D vwCl [(o, .inr (10, (dsF b)))] H := hP
  have hD : va_D A [(o, .inr (10, (dsF b)))] := hD
  refine lv_astoreN (lv' := [(4, .null), (0, .ref o), (1, .int p0), (2, .int p1), (3, .int p2)]) hx hb dX10_second_5 hl (by decide) rfl (fun ls hl => ?_)
  refine lv_aloadN hx hb dX10_second_7 (lv_at hl 0 rfl) ?_
  refine lv_ifnullN (tgt := 30) hx hb dX10_second_9 (by decide) ?_
  refine lv_ldc2 (v := (-2)) hx hb hown (hg _ kw_852) dX10_second_30 ?_
  refine W.widen (k := 0) (n := 0) (Nat.le_of_ble_eq_true rfl) (Nat.le_of_ble_eq_true rfl) ?_
  exact W.lret (v := (-2)) hx hb hr (fun t ht hW => ⟨⟨(), rfl, trivial, CB.nil⟩, hS.F ht⟩) hS.2.2 dX10_second_33
set_option maxHeartbeats 4000000 in
set_option maxRecDepth 100000 in
theorem y_second (l : Launch) (D : va_G) (Y : Nat → ClassId) (Z : Nat → Nat) (sz : Nat) (o : Nat) (a : Nat → Nat) (p0 p1 p2 : Int32) : Met l yX11_second (.code yX11_second cX11_second 5 (some .long) :: GW) ({ frames := 1, cells := 0, slots := 0, locals := 22 }) (va_Pc [.ref o, .int p0, .int p1, .int p2] (CP D Y Z [(o, .inr (11, (moF a))), ((a 3), .inl (Y 0, 3, .inl (fun _ => 0)))] sz)) (QG (S := Unit) (fun _ => some (.long (-2))) (fun _ => True) (fun u => CB D ((fun _ => []) u) (va_A [(o, .inr (11, (moF a))), ((a 3), .inl (Y 0, 3, .inl (fun _ => 0)))] sz)) (va_A [(o, .inr (11, (moF a))), ((a 3), .inl (Y 0, 3, .inl (fun _ => 0)))] sz)) 0 0 (va_A [(o, .inr (11, (moF a))), ((a 3), .inl (Y 0, 3, .inl (fun _ => 0)))] sz) := by
  refine Met.ofW (cc := cX11_second) (maxL := 5) (ret := (some .long)) (by decide) rfl ?_
  intro p e s m args below meth c s₁ B hml hv
  obtain ⟨rfl, hsz, hP, hKN, hD0⟩ := hv
  have hx := B.exec
  have hb := B.bytes
  have hr := B.returns
  have hts := atoms_spec (ws := .code yX11_second cX11_second 5 (some .long) :: GW) B.pre
  have hg : ∀ w ∈ GW, w.before _ s = true := fun w h => hts w (List.mem_cons_of_mem _ h)
  have hown : s.vm.findClass RX11 = some m.cls := findClass_of_methodNamed B.named
  have hlocks := B.notSynchronized
  subst hsz
  have hD := hD0.self (sz := s.heap.size)
  generalize hAe : va_A [(o, .inr (11, (moF a))), ((a 3), .inl (Y 0, 3, .inl (fun _ => 0)))] s.heap.size = A at hD ⊢
  have hA : ∀ q : Nat, s.heap.size ≤ q → A q := fun q h => by rw [← hAe]; exact Or.inr h
  have hl := lv_entry ([.ref o, .int p0, .int p1, .int p2]) (n := 5) (Nat.le_of_ble_eq_true rfl)
  rw [lg_entry_eq]
  generalize (lg_sl ([.ref o, .int p0, .int p1, .int p2]) ++ List.replicate (5 - (lg_sl ([.ref o, .int p0, .int p1, .int p2])).length) Slot.unset).toArray = ls at hl ⊢
  have hl : lv_has ls 5 [(0, .ref o), (1, .int p0), (2, .int p1), (3, .int p2)] := hl
  refine w_start (A0 := A) hP (fun H locs hP hS => ?_)
  refine lv_aload_n hx hb dX11_second_0 rfl (lv_at hl 0 rfl) ?_
  refine lv_iconst (v := 1) hx hb dX11_second_1 (by decide) ?_
  refine lv_iload_n hx hb dX11_second_2 rfl (lv_at hl 1 rfl) ?_
  refine cg (wc := [(o, .inr (11, (moF a))), ((a 3), .inl (Y 0, 3, .inl (fun _ => 0)))]) (wr := []) [0, 1] [] (rn_V (As := [.int 1, .int p0]) (rest := []) (b := o) (m_isText1 l D Y Z H.size o a p0) ⟨hx, hb, hml, hown, hg⟩ lk_X11_366 ⟨CP.blind, va_recv hKN.1 hP (ci := 11) (q0 := 0) rfl rfl, CP.at (hP.sub [0, 1] rfl) hKN (hD.sub [0, 1] (by decide) rfl)⟩ ⟨⟨rfl, rfl⟩, ⟨Nat.le_of_ble_eq_true rfl, Nat.le_of_ble_eq_true rfl⟩, ⟨Nat.le_of_ble_eq_true rfl, Nat.le_of_ble_eq_true rfl⟩⟩ hl.1 rfl (Nat.le_of_ble_eq_true rfl) dX11_second_3) hP hD hS hA rfl rfl (by decide) (by decide) (fun u1 H locs w2 hP hD hS => ?_)
  refine W.eq (g2 := F0 m 6 ls [.int 0]) rfl ?_
  have hP : va_P D vwCl [(o, .inr (11, (moF a))), ((a 3), .inl (Y 0, 3, .inl (fun _ => 0)))] H := hP
  have hD : va_D A [(o, .inr (11, (moF a))), ((a 3), .inl (Y 0, 3, .inl (fun _ => 0)))] := hD
  refine lv_if_eq (tgt := 39) hx hb dX11_second_6 (by decide) (fun c3 => ?_) (fun c3 => ?_)
  rotate_left
  · exact absurd c3 (by decide)
  refine lv_ldc2 (v := (-2)) hx hb hown (hg _ kw_1707) dX11_second_39 ?_
  refine W.widen (k := 0) (n := 0) (Nat.le_of_ble_eq_true rfl) (Nat.le_of_ble_eq_true rfl) ?_
  exact W.lret (v := (-2)) hx hb hr (fun t ht hW => ⟨⟨(), rfl, trivial, CB.nil⟩, hS.F ht⟩) hS.2.2 dX11_second_42
set_option maxHeartbeats 4000000 in
set_option maxRecDepth 100000 in
theorem x_next (l : Launch) (D : va_G) (Y : Nat → ClassId) (Z : Nat → Nat) (sz : Nat) (o : Nat) (b : Nat → Nat) (p0 p1 p2 : Int32) : Met l yX10_next (.code yX10_next cX10_next 6 (some .int) :: GW) ({ frames := 2, cells := 0, slots := 0, locals := 43 }) (va_Pc [.ref o, .int p0, .int p1, .int p2] (CP D Y Z [(o, .inr (10, (dsF b)))] sz)) (QG (S := Unit) (fun _ => some (.int (-1))) (fun _ => True) (fun u => CB D ((fun _ => []) u) (va_A [(o, .inr (10, (dsF b)))] sz)) (va_A [(o, .inr (10, (dsF b)))] sz)) 0 0 (va_A [(o, .inr (10, (dsF b)))] sz) := by
  refine Met.ofW (cc := cX10_next) (maxL := 6) (ret := (some .int)) (by decide) rfl ?_
  intro p e s m args below meth c s₁ B hml hv
  obtain ⟨rfl, hsz, hP, hKN, hD0⟩ := hv
  have hx := B.exec
  have hb := B.bytes
  have hr := B.returns
  have hts := atoms_spec (ws := .code yX10_next cX10_next 6 (some .int) :: GW) B.pre
  have hg : ∀ w ∈ GW, w.before _ s = true := fun w h => hts w (List.mem_cons_of_mem _ h)
  have hown : s.vm.findClass RX10 = some m.cls := findClass_of_methodNamed B.named
  have hlocks := B.notSynchronized
  subst hsz
  have hD := hD0.self (sz := s.heap.size)
  generalize hAe : va_A [(o, .inr (10, (dsF b)))] s.heap.size = A at hD ⊢
  have hA : ∀ q : Nat, s.heap.size ≤ q → A q := fun q h => by rw [← hAe]; exact Or.inr h
  have hl := lv_entry ([.ref o, .int p0, .int p1, .int p2]) (n := 6) (Nat.le_of_ble_eq_true rfl)
  rw [lg_entry_eq]
  generalize (lg_sl ([.ref o, .int p0, .int p1, .int p2]) ++ List.replicate (6 - (lg_sl ([.ref o, .int p0, .int p1, .int p2])).length) Slot.unset).toArray = ls at hl ⊢
  have hl : lv_has ls 6 [(0, .ref o), (1, .int p0), (2, .int p1), (3, .int p2)] := hl
  refine w_start (A0 := A) hP (fun H locs hP hS => ?_)
  refine lv_aload_n hx hb dX10_next_0 rfl (lv_at hl 0 rfl) ?_
  refine lv_iload_n hx hb dX10_next_1 rfl (lv_at hl 1 rfl) ?_
  refine cg (wc := [(o, .inr (10, (dsF b)))]) (wr := []) [0] [] (rn_V (As := [.int p0]) (rest := []) (b := o) (c_searchAt l D Y Z H.size o b p0) ⟨hx, hb, hml, hown, hg⟩ lk_X10_259 ⟨CP.blind, va_recv hKN.1 hP (ci := 10) (q0 := 0) rfl rfl, CP.at (hP.sub [0] rfl) hKN (hD.sub [0] (by decide) rfl)⟩ ⟨⟨rfl, rfl⟩, ⟨Nat.le_of_ble_eq_true rfl, Nat.le_of_ble_eq_true rfl⟩, ⟨Nat.le_of_ble_eq_true rfl, Nat.le_of_ble_eq_true rfl⟩⟩ hl.1 rfl (Nat.le_of_ble_eq_true rfl) dX10_next_2) hP hD hS hA rfl rfl (by decide) (by decide) (fun u1 H locs w2 hP hD hS => ?_)
  refine W.eq (g2 := F0 m 5 ls [.null]) rfl ?_
  have hP : va_P D vwCl [(o, .inr (10, (dsF b)))] H := hP
  have hD : va_D A [(o, .inr (10, (dsF b)))] := hD
  refine lv_ifnullN (tgt := 27) hx hb dX10_next_5 (by decide) ?_
  refine lv_iconst (v := (-1)) hx hb dX10_next_27 (by decide) ?_
  refine W.widen (k := 0) (n := 0) (Nat.le_of_ble_eq_true rfl) (Nat.le_of_ble_eq_true rfl) ?_
  exact W.iret (v := (-1)) hx hb hr (fun t ht hW => ⟨⟨(), rfl, trivial, CB.nil⟩, hS.F ht⟩) hS.2.2 dX10_next_28
set_option maxHeartbeats 4000000 in
set_option maxRecDepth 100000 in
theorem y_next (l : Launch) (D : va_G) (Y : Nat → ClassId) (Z : Nat → Nat) (sz : Nat) (o : Nat) (a : Nat → Nat) (p0 p1 p2 : Int32) : Met l yX11_next (.code yX11_next cX11_next 5 (some .int) :: GW) ({ frames := 1, cells := 0, slots := 0, locals := 22 }) (va_Pc [.ref o, .int p0, .int p1, .int p2] (CP D Y Z [(o, .inr (11, (moF a))), ((a 3), .inl (Y 0, 3, .inl (fun _ => 0)))] sz)) (QG (S := Unit) (fun _ => some (.int (-1))) (fun _ => True) (fun u => CB D ((fun _ => []) u) (va_A [(o, .inr (11, (moF a))), ((a 3), .inl (Y 0, 3, .inl (fun _ => 0)))] sz)) (va_A [(o, .inr (11, (moF a))), ((a 3), .inl (Y 0, 3, .inl (fun _ => 0)))] sz)) 0 0 (va_A [(o, .inr (11, (moF a))), ((a 3), .inl (Y 0, 3, .inl (fun _ => 0)))] sz) := by
  refine Met.ofW (cc := cX11_next) (maxL := 5) (ret := (some .int)) (by decide) rfl ?_
  intro p e s m args below meth c s₁ B hml hv
  obtain ⟨rfl, hsz, hP, hKN, hD0⟩ := hv
  have hx := B.exec
  have hb := B.bytes
  have hr := B.returns
  have hts := atoms_spec (ws := .code yX11_next cX11_next 5 (some .int) :: GW) B.pre
  have hg : ∀ w ∈ GW, w.before _ s = true := fun w h => hts w (List.mem_cons_of_mem _ h)
  have hown : s.vm.findClass RX11 = some m.cls := findClass_of_methodNamed B.named
  have hlocks := B.notSynchronized
  subst hsz
  have hD := hD0.self (sz := s.heap.size)
  generalize hAe : va_A [(o, .inr (11, (moF a))), ((a 3), .inl (Y 0, 3, .inl (fun _ => 0)))] s.heap.size = A at hD ⊢
  have hA : ∀ q : Nat, s.heap.size ≤ q → A q := fun q h => by rw [← hAe]; exact Or.inr h
  have hl := lv_entry ([.ref o, .int p0, .int p1, .int p2]) (n := 5) (Nat.le_of_ble_eq_true rfl)
  rw [lg_entry_eq]
  generalize (lg_sl ([.ref o, .int p0, .int p1, .int p2]) ++ List.replicate (5 - (lg_sl ([.ref o, .int p0, .int p1, .int p2])).length) Slot.unset).toArray = ls at hl ⊢
  have hl : lv_has ls 5 [(0, .ref o), (1, .int p0), (2, .int p1), (3, .int p2)] := hl
  refine w_start (A0 := A) hP (fun H locs hP hS => ?_)
  refine lv_aload_n hx hb dX11_next_0 rfl (lv_at hl 0 rfl) ?_
  refine lv_iconst (v := 1) hx hb dX11_next_1 (by decide) ?_
  refine lv_iload_n hx hb dX11_next_2 rfl (lv_at hl 1 rfl) ?_
  refine cg (wc := [(o, .inr (11, (moF a))), ((a 3), .inl (Y 0, 3, .inl (fun _ => 0)))]) (wr := []) [0, 1] [] (rn_V (As := [.int 1, .int p0]) (rest := []) (b := o) (m_isText1 l D Y Z H.size o a p0) ⟨hx, hb, hml, hown, hg⟩ lk_X11_366 ⟨CP.blind, va_recv hKN.1 hP (ci := 11) (q0 := 0) rfl rfl, CP.at (hP.sub [0, 1] rfl) hKN (hD.sub [0, 1] (by decide) rfl)⟩ ⟨⟨rfl, rfl⟩, ⟨Nat.le_of_ble_eq_true rfl, Nat.le_of_ble_eq_true rfl⟩, ⟨Nat.le_of_ble_eq_true rfl, Nat.le_of_ble_eq_true rfl⟩⟩ hl.1 rfl (Nat.le_of_ble_eq_true rfl) dX11_next_3) hP hD hS hA rfl rfl (by decide) (by decide) (fun u1 H locs w2 hP hD hS => ?_)
  refine W.eq (g2 := F0 m 6 ls [.int 0]) rfl ?_
  have hP : va_P D vwCl [(o, .inr (11, (moF a))), ((a 3), .inl (Y 0, 3, .inl (fun _ => 0)))] H := hP
  have hD : va_D A [(o, .inr (11, (moF a))), ((a 3), .inl (Y 0, 3, .inl (fun _ => 0)))] := hD
  refine lv_if_eq (tgt := 29) hx hb dX11_next_6 (by decide) (fun c3 => ?_) (fun c3 => ?_)
  rotate_left
  · exact absurd c3 (by decide)
  refine lv_iconst (v := (-1)) hx hb dX11_next_29 (by decide) ?_
  refine W.widen (k := 0) (n := 0) (Nat.le_of_ble_eq_true rfl) (Nat.le_of_ble_eq_true rfl) ?_
  exact W.iret (v := (-1)) hx hb hr (fun t ht hW => ⟨⟨(), rfl, trivial, CB.nil⟩, hS.F ht⟩) hS.2.2 dX11_next_30
set_option maxHeartbeats 4000000 in
set_option maxRecDepth 100000 in
theorem x_alias (l : Launch) (D : va_G) (Y : Nat → ClassId) (Z : Nat → Nat) (sz : Nat) (o : Nat) (b : Nat → Nat) (p0 p1 p2 : Int32) : Met l yX10_alias (.code yX10_alias cX10_alias 9 (some .long) :: GW) ({ frames := 2, cells := 0, slots := 0, locals := 43 }) (va_Pc [.ref o, .int p0, .int p1, .int p2] (CP D Y Z [(o, .inr (10, (dsF b)))] sz)) (QG (S := Unit) (fun _ => some (.long (-1))) (fun _ => True) (fun u => CB D ((fun _ => []) u) (va_A [(o, .inr (10, (dsF b)))] sz)) (va_A [(o, .inr (10, (dsF b)))] sz)) 0 0 (va_A [(o, .inr (10, (dsF b)))] sz) := by
  refine Met.ofW (cc := cX10_alias) (maxL := 9) (ret := (some .long)) (by decide) rfl ?_
  intro p e s m args below meth c s₁ B hml hv
  obtain ⟨rfl, hsz, hP, hKN, hD0⟩ := hv
  have hx := B.exec
  have hb := B.bytes
  have hr := B.returns
  have hts := atoms_spec (ws := .code yX10_alias cX10_alias 9 (some .long) :: GW) B.pre
  have hg : ∀ w ∈ GW, w.before _ s = true := fun w h => hts w (List.mem_cons_of_mem _ h)
  have hown : s.vm.findClass RX10 = some m.cls := findClass_of_methodNamed B.named
  have hlocks := B.notSynchronized
  subst hsz
  have hD := hD0.self (sz := s.heap.size)
  generalize hAe : va_A [(o, .inr (10, (dsF b)))] s.heap.size = A at hD ⊢
  have hA : ∀ q : Nat, s.heap.size ≤ q → A q := fun q h => by rw [← hAe]; exact Or.inr h
  have hl := lv_entry ([.ref o, .int p0, .int p1, .int p2]) (n := 9) (Nat.le_of_ble_eq_true rfl)
  rw [lg_entry_eq]
  generalize (lg_sl ([.ref o, .int p0, .int p1, .int p2]) ++ List.replicate (9 - (lg_sl ([.ref o, .int p0, .int p1, .int p2])).length) Slot.unset).toArray = ls at hl ⊢
  have hl : lv_has ls 9 [(0, .ref o), (1, .int p0), (2, .int p1), (3, .int p2)] := hl
  refine w_start (A0 := A) hP (fun H locs hP hS => ?_)
  refine lv_aload_n hx hb dX10_alias_0 rfl (lv_at hl 0 rfl) ?_
  refine lv_iload_n hx hb dX10_alias_1 rfl (lv_at hl 1 rfl) ?_
  refine cg (wc := [(o, .inr (10, (dsF b)))]) (wr := []) [0] [] (rn_V (As := [.int p0]) (rest := []) (b := o) (c_searchAt l D Y Z H.size o b p0) ⟨hx, hb, hml, hown, hg⟩ lk_X10_259 ⟨CP.blind, va_recv hKN.1 hP (ci := 10) (q0 := 0) rfl rfl, CP.at (hP.sub [0] rfl) hKN (hD.sub [0] (by decide) rfl)⟩ ⟨⟨rfl, rfl⟩, ⟨Nat.le_of_ble_eq_true rfl, Nat.le_of_ble_eq_true rfl⟩, ⟨Nat.le_of_ble_eq_true rfl, Nat.le_of_ble_eq_true rfl⟩⟩ hl.1 rfl (Nat.le_of_ble_eq_true rfl) dX10_alias_2) hP hD hS hA rfl rfl (by decide) (by decide) (fun u1 H locs w2 hP hD hS => ?_)
  refine W.eq (g2 := F0 m 5 ls [.null]) rfl ?_
  have hP : va_P D vwCl [(o, .inr (10, (dsF b)))] H := hP
  have hD : va_D A [(o, .inr (10, (dsF b)))] := hD
  refine lv_ifnullN (tgt := 25) hx hb dX10_alias_5 (by decide) ?_
  refine lv_ldc2 (v := (-1)) hx hb hown (hg _ kw_899) dX10_alias_25 ?_
  refine W.widen (k := 0) (n := 0) (Nat.le_of_ble_eq_true rfl) (Nat.le_of_ble_eq_true rfl) ?_
  exact W.lret (v := (-1)) hx hb hr (fun t ht hW => ⟨⟨(), rfl, trivial, CB.nil⟩, hS.F ht⟩) hS.2.2 dX10_alias_28
set_option maxHeartbeats 4000000 in
set_option maxRecDepth 100000 in
theorem y_alias (l : Launch) (D : va_G) (Y : Nat → ClassId) (Z : Nat → Nat) (sz : Nat) (o : Nat) (a : Nat → Nat) (p0 p1 p2 : Int32) : Met l yX11_alias (.code yX11_alias cX11_alias 10 (some .long) :: GW) ({ frames := 1, cells := 0, slots := 0, locals := 22 }) (va_Pc [.ref o, .int p0, .int p1, .int p2] (CP D Y Z [(o, .inr (11, (moF a))), ((a 3), .inl (Y 0, 3, .inl (fun _ => 0)))] sz)) (QG (S := Unit) (fun _ => some (.long (-1))) (fun _ => True) (fun u => CB D ((fun _ => []) u) (va_A [(o, .inr (11, (moF a))), ((a 3), .inl (Y 0, 3, .inl (fun _ => 0)))] sz)) (va_A [(o, .inr (11, (moF a))), ((a 3), .inl (Y 0, 3, .inl (fun _ => 0)))] sz)) 0 0 (va_A [(o, .inr (11, (moF a))), ((a 3), .inl (Y 0, 3, .inl (fun _ => 0)))] sz) := by
  refine Met.ofW (cc := cX11_alias) (maxL := 10) (ret := (some .long)) (by decide) rfl ?_
  intro p e s m args below meth c s₁ B hml hv
  obtain ⟨rfl, hsz, hP, hKN, hD0⟩ := hv
  have hx := B.exec
  have hb := B.bytes
  have hr := B.returns
  have hts := atoms_spec (ws := .code yX11_alias cX11_alias 10 (some .long) :: GW) B.pre
  have hg : ∀ w ∈ GW, w.before _ s = true := fun w h => hts w (List.mem_cons_of_mem _ h)
  have hown : s.vm.findClass RX11 = some m.cls := findClass_of_methodNamed B.named
  have hlocks := B.notSynchronized
  subst hsz
  have hD := hD0.self (sz := s.heap.size)
  generalize hAe : va_A [(o, .inr (11, (moF a))), ((a 3), .inl (Y 0, 3, .inl (fun _ => 0)))] s.heap.size = A at hD ⊢
  have hA : ∀ q : Nat, s.heap.size ≤ q → A q := fun q h => by rw [← hAe]; exact Or.inr h
  have hl := lv_entry ([.ref o, .int p0, .int p1, .int p2]) (n := 10) (Nat.le_of_ble_eq_true rfl)
  rw [lg_entry_eq]
  generalize (lg_sl ([.ref o, .int p0, .int p1, .int p2]) ++ List.replicate (10 - (lg_sl ([.ref o, .int p0, .int p1, .int p2])).length) Slot.unset).toArray = ls at hl ⊢
  have hl : lv_has ls 10 [(0, .ref o), (1, .int p0), (2, .int p1), (3, .int p2)] := hl
  refine w_start (A0 := A) hP (fun H locs hP hS => ?_)
  refine lv_aload_n hx hb dX11_alias_0 rfl (lv_at hl 0 rfl) ?_
  refine lv_iconst (v := 1) hx hb dX11_alias_1 (by decide) ?_
  refine lv_iload_n hx hb dX11_alias_2 rfl (lv_at hl 1 rfl) ?_
  refine cg (wc := [(o, .inr (11, (moF a))), ((a 3), .inl (Y 0, 3, .inl (fun _ => 0)))]) (wr := []) [0, 1] [] (rn_V (As := [.int 1, .int p0]) (rest := []) (b := o) (m_isText1 l D Y Z H.size o a p0) ⟨hx, hb, hml, hown, hg⟩ lk_X11_366 ⟨CP.blind, va_recv hKN.1 hP (ci := 11) (q0 := 0) rfl rfl, CP.at (hP.sub [0, 1] rfl) hKN (hD.sub [0, 1] (by decide) rfl)⟩ ⟨⟨rfl, rfl⟩, ⟨Nat.le_of_ble_eq_true rfl, Nat.le_of_ble_eq_true rfl⟩, ⟨Nat.le_of_ble_eq_true rfl, Nat.le_of_ble_eq_true rfl⟩⟩ hl.1 rfl (Nat.le_of_ble_eq_true rfl) dX11_alias_3) hP hD hS hA rfl rfl (by decide) (by decide) (fun u1 H locs w2 hP hD hS => ?_)
  refine W.eq (g2 := F0 m 6 ls [.int 0]) rfl ?_
  have hP : va_P D vwCl [(o, .inr (11, (moF a))), ((a 3), .inl (Y 0, 3, .inl (fun _ => 0)))] H := hP
  have hD : va_D A [(o, .inr (11, (moF a))), ((a 3), .inl (Y 0, 3, .inl (fun _ => 0)))] := hD
  refine lv_if_eq (tgt := 29) hx hb dX11_alias_6 (by decide) (fun c3 => ?_) (fun c3 => ?_)
  rotate_left
  · exact absurd c3 (by decide)
  refine lv_ldc2 (v := (-1)) hx hb hown (hg _ kw_1650) dX11_alias_29 ?_
  refine W.widen (k := 0) (n := 0) (Nat.le_of_ble_eq_true rfl) (Nat.le_of_ble_eq_true rfl) ?_
  exact W.lret (v := (-1)) hx hb hr (fun t ht hW => ⟨⟨(), rfl, trivial, CB.nil⟩, hS.F ht⟩) hS.2.2 dX11_alias_32
set_option maxHeartbeats 4000000 in
set_option maxRecDepth 100000 in
theorem x_radius (l : Launch) (D : va_G) (Y : Nat → ClassId) (Z : Nat → Nat) (sz : Nat) (o : Nat) (b : Nat → Nat) (p0 p1 : Int32) : Met l yX10_radius (.code yX10_radius cX10_radius 4 (some .int) :: GW) ({ frames := 2, cells := 0, slots := 0, locals := 43 }) (va_Pc [.ref o, .int p0, .int p1] (CP D Y Z [(o, .inr (10, (dsF b)))] sz)) (QG (S := Unit) (fun _ => some (.int (-1))) (fun _ => True) (fun u => CB D ((fun _ => []) u) (va_A [(o, .inr (10, (dsF b)))] sz)) (va_A [(o, .inr (10, (dsF b)))] sz)) 0 0 (va_A [(o, .inr (10, (dsF b)))] sz) := by
  refine Met.ofW (cc := cX10_radius) (maxL := 4) (ret := (some .int)) (by decide) rfl ?_
  intro p e s m args below meth c s₁ B hml hv
  obtain ⟨rfl, hsz, hP, hKN, hD0⟩ := hv
  have hx := B.exec
  have hb := B.bytes
  have hr := B.returns
  have hts := atoms_spec (ws := .code yX10_radius cX10_radius 4 (some .int) :: GW) B.pre
  have hg : ∀ w ∈ GW, w.before _ s = true := fun w h => hts w (List.mem_cons_of_mem _ h)
  have hown : s.vm.findClass RX10 = some m.cls := findClass_of_methodNamed B.named
  have hlocks := B.notSynchronized
  subst hsz
  have hD := hD0.self (sz := s.heap.size)
  generalize hAe : va_A [(o, .inr (10, (dsF b)))] s.heap.size = A at hD ⊢
  have hA : ∀ q : Nat, s.heap.size ≤ q → A q := fun q h => by rw [← hAe]; exact Or.inr h
  have hl := lv_entry ([.ref o, .int p0, .int p1]) (n := 4) (Nat.le_of_ble_eq_true rfl)
  rw [lg_entry_eq]
  generalize (lg_sl ([.ref o, .int p0, .int p1]) ++ List.replicate (4 - (lg_sl ([.ref o, .int p0, .int p1])).length) Slot.unset).toArray = ls at hl ⊢
  have hl : lv_has ls 4 [(0, .ref o), (1, .int p0), (2, .int p1)] := hl
  refine w_start (A0 := A) hP (fun H locs hP hS => ?_)
  refine lv_aload_n hx hb dX10_radius_0 rfl (lv_at hl 0 rfl) ?_
  refine lv_iload_n hx hb dX10_radius_1 rfl (lv_at hl 1 rfl) ?_
  refine cg (wc := [(o, .inr (10, (dsF b)))]) (wr := []) [0] [] (rn_V (As := [.int p0]) (rest := []) (b := o) (c_searchAt l D Y Z H.size o b p0) ⟨hx, hb, hml, hown, hg⟩ lk_X10_259 ⟨CP.blind, va_recv hKN.1 hP (ci := 10) (q0 := 0) rfl rfl, CP.at (hP.sub [0] rfl) hKN (hD.sub [0] (by decide) rfl)⟩ ⟨⟨rfl, rfl⟩, ⟨Nat.le_of_ble_eq_true rfl, Nat.le_of_ble_eq_true rfl⟩, ⟨Nat.le_of_ble_eq_true rfl, Nat.le_of_ble_eq_true rfl⟩⟩ hl.1 rfl (Nat.le_of_ble_eq_true rfl) dX10_radius_2) hP hD hS hA rfl rfl (by decide) (by decide) (fun u1 H locs w2 hP hD hS => ?_)
  refine W.eq (g2 := F0 m 5 ls [.null]) rfl ?_
  have hP : va_P D vwCl [(o, .inr (10, (dsF b)))] H := hP
  have hD : va_D A [(o, .inr (10, (dsF b)))] := hD
  refine lv_ifnullN (tgt := 16) hx hb dX10_radius_5 (by decide) ?_
  refine lv_iconst (v := (-1)) hx hb dX10_radius_16 (by decide) ?_
  refine W.widen (k := 0) (n := 0) (Nat.le_of_ble_eq_true rfl) (Nat.le_of_ble_eq_true rfl) ?_
  exact W.iret (v := (-1)) hx hb hr (fun t ht hW => ⟨⟨(), rfl, trivial, CB.nil⟩, hS.F ht⟩) hS.2.2 dX10_radius_17
set_option maxHeartbeats 4000000 in
set_option maxRecDepth 100000 in
theorem y_radius (l : Launch) (D : va_G) (Y : Nat → ClassId) (Z : Nat → Nat) (sz : Nat) (o : Nat) (a : Nat → Nat) (p0 p1 : Int32) : Met l yX11_radius (.code yX11_radius cX11_radius 3 (some .int) :: GW) ({ frames := 1, cells := 0, slots := 0, locals := 22 }) (va_Pc [.ref o, .int p0, .int p1] (CP D Y Z [(o, .inr (11, (moF a))), ((a 3), .inl (Y 0, 3, .inl (fun _ => 0)))] sz)) (QG (S := Unit) (fun _ => some (.int (-1))) (fun _ => True) (fun u => CB D ((fun _ => []) u) (va_A [(o, .inr (11, (moF a))), ((a 3), .inl (Y 0, 3, .inl (fun _ => 0)))] sz)) (va_A [(o, .inr (11, (moF a))), ((a 3), .inl (Y 0, 3, .inl (fun _ => 0)))] sz)) 0 0 (va_A [(o, .inr (11, (moF a))), ((a 3), .inl (Y 0, 3, .inl (fun _ => 0)))] sz) := by
  refine Met.ofW (cc := cX11_radius) (maxL := 3) (ret := (some .int)) (by decide) rfl ?_
  intro p e s m args below meth c s₁ B hml hv
  obtain ⟨rfl, hsz, hP, hKN, hD0⟩ := hv
  have hx := B.exec
  have hb := B.bytes
  have hr := B.returns
  have hts := atoms_spec (ws := .code yX11_radius cX11_radius 3 (some .int) :: GW) B.pre
  have hg : ∀ w ∈ GW, w.before _ s = true := fun w h => hts w (List.mem_cons_of_mem _ h)
  have hown : s.vm.findClass RX11 = some m.cls := findClass_of_methodNamed B.named
  have hlocks := B.notSynchronized
  subst hsz
  have hD := hD0.self (sz := s.heap.size)
  generalize hAe : va_A [(o, .inr (11, (moF a))), ((a 3), .inl (Y 0, 3, .inl (fun _ => 0)))] s.heap.size = A at hD ⊢
  have hA : ∀ q : Nat, s.heap.size ≤ q → A q := fun q h => by rw [← hAe]; exact Or.inr h
  have hl := lv_entry ([.ref o, .int p0, .int p1]) (n := 3) (Nat.le_of_ble_eq_true rfl)
  rw [lg_entry_eq]
  generalize (lg_sl ([.ref o, .int p0, .int p1]) ++ List.replicate (3 - (lg_sl ([.ref o, .int p0, .int p1])).length) Slot.unset).toArray = ls at hl ⊢
  have hl : lv_has ls 3 [(0, .ref o), (1, .int p0), (2, .int p1)] := hl
  refine w_start (A0 := A) hP (fun H locs hP hS => ?_)
  refine lv_aload_n hx hb dX11_radius_0 rfl (lv_at hl 0 rfl) ?_
  refine lv_iconst (v := 1) hx hb dX11_radius_1 (by decide) ?_
  refine lv_iload_n hx hb dX11_radius_2 rfl (lv_at hl 1 rfl) ?_
  refine cg (wc := [(o, .inr (11, (moF a))), ((a 3), .inl (Y 0, 3, .inl (fun _ => 0)))]) (wr := []) [0, 1] [] (rn_V (As := [.int 1, .int p0]) (rest := []) (b := o) (m_isText1 l D Y Z H.size o a p0) ⟨hx, hb, hml, hown, hg⟩ lk_X11_366 ⟨CP.blind, va_recv hKN.1 hP (ci := 11) (q0 := 0) rfl rfl, CP.at (hP.sub [0, 1] rfl) hKN (hD.sub [0, 1] (by decide) rfl)⟩ ⟨⟨rfl, rfl⟩, ⟨Nat.le_of_ble_eq_true rfl, Nat.le_of_ble_eq_true rfl⟩, ⟨Nat.le_of_ble_eq_true rfl, Nat.le_of_ble_eq_true rfl⟩⟩ hl.1 rfl (Nat.le_of_ble_eq_true rfl) dX11_radius_3) hP hD hS hA rfl rfl (by decide) (by decide) (fun u1 H locs w2 hP hD hS => ?_)
  refine W.eq (g2 := F0 m 6 ls [.int 0]) rfl ?_
  have hP : va_P D vwCl [(o, .inr (11, (moF a))), ((a 3), .inl (Y 0, 3, .inl (fun _ => 0)))] H := hP
  have hD : va_D A [(o, .inr (11, (moF a))), ((a 3), .inl (Y 0, 3, .inl (fun _ => 0)))] := hD
  refine lv_if_eq (tgt := 17) hx hb dX11_radius_6 (by decide) (fun c3 => ?_) (fun c3 => ?_)
  rotate_left
  · exact absurd c3 (by decide)
  refine lv_iconst (v := (-1)) hx hb dX11_radius_17 (by decide) ?_
  refine W.widen (k := 0) (n := 0) (Nat.le_of_ble_eq_true rfl) (Nat.le_of_ble_eq_true rfl) ?_
  exact W.iret (v := (-1)) hx hb hr (fun t ht hW => ⟨⟨(), rfl, trivial, CB.nil⟩, hS.F ht⟩) hS.2.2 dX11_radius_18
set_option maxHeartbeats 4000000 in
set_option maxRecDepth 100000 in
theorem x_many (l : Launch) (D : va_G) (Y : Nat → ClassId) (Z : Nat → Nat) (sz : Nat) (o : Nat) (b : Nat → Nat) (p0 p1 p2 p3 p4 : Int32) : Met l yX10_many (.code yX10_many cX10_many 12 (some .int) :: GW) ({ frames := 2, cells := 0, slots := 0, locals := 43 }) (va_Pc [.ref o, .int p0, .int p1, .int p2, .int p3, .int p4] (CP D Y Z [(o, .inr (10, (dsF b)))] sz)) (QG (S := Unit) (fun _ => some (.int (-1))) (fun _ => True) (fun u => CB D ((fun _ => []) u) (va_A [(o, .inr (10, (dsF b)))] sz)) (va_A [(o, .inr (10, (dsF b)))] sz)) 0 0 (va_A [(o, .inr (10, (dsF b)))] sz) := by
  refine Met.ofW (cc := cX10_many) (maxL := 12) (ret := (some .int)) (by decide) rfl ?_
  intro p e s m args below meth c s₁ B hml hv
  obtain ⟨rfl, hsz, hP, hKN, hD0⟩ := hv
  have hx := B.exec
  have hb := B.bytes
  have hr := B.returns
  have hts := atoms_spec (ws := .code yX10_many cX10_many 12 (some .int) :: GW) B.pre
  have hg : ∀ w ∈ GW, w.before _ s = true := fun w h => hts w (List.mem_cons_of_mem _ h)
  have hown : s.vm.findClass RX10 = some m.cls := findClass_of_methodNamed B.named
  have hlocks := B.notSynchronized
  subst hsz
  have hD := hD0.self (sz := s.heap.size)
  generalize hAe : va_A [(o, .inr (10, (dsF b)))] s.heap.size = A at hD ⊢
  have hA : ∀ q : Nat, s.heap.size ≤ q → A q := fun q h => by rw [← hAe]; exact Or.inr h
  have hl := lv_entry ([.ref o, .int p0, .int p1, .int p2, .int p3, .int p4]) (n := 12) (Nat.le_of_ble_eq_true rfl)
  rw [lg_entry_eq]
  generalize (lg_sl ([.ref o, .int p0, .int p1, .int p2, .int p3, .int p4]) ++ List.replicate (12 - (lg_sl ([.ref o, .int p0, .int p1, .int p2, .int p3, .int p4])).length) Slot.unset).toArray = ls at hl ⊢
  have hl : lv_has ls 12 [(0, .ref o), (1, .int p0), (2, .int p1), (3, .int p2), (4, .int p3), (5, .int p4)] := hl
  refine w_start (A0 := A) hP (fun H locs hP hS => ?_)
  refine lv_aload_n hx hb dX10_many_0 rfl (lv_at hl 0 rfl) ?_
  refine lv_iload_n hx hb dX10_many_1 rfl (lv_at hl 1 rfl) ?_
  refine cg (wc := [(o, .inr (10, (dsF b)))]) (wr := []) [0] [] (rn_V (As := [.int p0]) (rest := []) (b := o) (c_searchAt l D Y Z H.size o b p0) ⟨hx, hb, hml, hown, hg⟩ lk_X10_259 ⟨CP.blind, va_recv hKN.1 hP (ci := 10) (q0 := 0) rfl rfl, CP.at (hP.sub [0] rfl) hKN (hD.sub [0] (by decide) rfl)⟩ ⟨⟨rfl, rfl⟩, ⟨Nat.le_of_ble_eq_true rfl, Nat.le_of_ble_eq_true rfl⟩, ⟨Nat.le_of_ble_eq_true rfl, Nat.le_of_ble_eq_true rfl⟩⟩ hl.1 rfl (Nat.le_of_ble_eq_true rfl) dX10_many_2) hP hD hS hA rfl rfl (by decide) (by decide) (fun u1 H locs w2 hP hD hS => ?_)
  refine W.eq (g2 := F0 m 5 ls [.null]) rfl ?_
  have hP : va_P D vwCl [(o, .inr (10, (dsF b)))] H := hP
  have hD : va_D A [(o, .inr (10, (dsF b)))] := hD
  refine lv_astoreN (lv' := [(6, .null), (0, .ref o), (1, .int p0), (2, .int p1), (3, .int p2), (4, .int p3), (5, .int p4)]) hx hb dX10_many_5 hl (by decide) rfl (fun ls hl => ?_)
  refine lv_iload_n hx hb dX10_many_7 rfl (lv_at hl 4 rfl) ?_
  refine lv_if_lt (tgt := 31) hx hb dX10_many_8 (by decide) (fun c3 => ?_) (fun c3 => ?_)
  · skip
    have c3 := i_lt (Eq.refl (p2).toInt) (show (0 : Int32).toInt = 0 by decide) c3
    refine lv_iconst (v := 0) hx hb dX10_many_31 (by decide) ?_
    refine lv_istore (lv' := [(7, .int 0), (6, .null), (0, .ref o), (1, .int p0), (2, .int p1), (3, .int p2), (4, .int p3), (5, .int p4)]) hx hb dX10_many_32 hl (by decide) rfl (fun ls hl => ?_)
    refine lv_aloadN hx hb dX10_many_34 (lv_at hl 1 rfl) ?_
    refine lv_ifnullN (tgt := 52) hx hb dX10_many_36 (by decide) ?_
    refine lv_iconst (v := (-1)) hx hb dX10_many_52 (by decide) ?_
    refine W.widen (k := 0) (n := 0) (Nat.le_of_ble_eq_true rfl) (Nat.le_of_ble_eq_true rfl) ?_
    exact W.iret (v := (-1)) hx hb hr (fun t ht hW => ⟨⟨(), rfl, trivial, CB.nil⟩, hS.F ht⟩) hS.2.2 dX10_many_53
  · skip
    have c3 := i_nlt (Eq.refl (p2).toInt) (show (0 : Int32).toInt = 0 by decide) c3
    refine lv_iload_n hx hb dX10_many_11 rfl (lv_at hl 4 rfl) ?_
    refine lv_iload hx hb dX10_many_12 (lv_at hl 5 rfl) ?_
    refine lv_icmp_gt (tgt := 31) hx hb dX10_many_14 (by decide) (fun c4 => ?_) (fun c4 => ?_)
    · skip
      have c4 := i_lt (Eq.refl (p3).toInt) (Eq.refl (p2).toInt) c4
      refine lv_iconst (v := 0) hx hb dX10_many_31 (by decide) ?_
      refine lv_istore (lv' := [(7, .int 0), (6, .null), (0, .ref o), (1, .int p0), (2, .int p1), (3, .int p2), (4, .int p3), (5, .int p4)]) hx hb dX10_many_32 hl (by decide) rfl (fun ls hl => ?_)
      refine lv_aloadN hx hb dX10_many_34 (lv_at hl 1 rfl) ?_
      refine lv_ifnullN (tgt := 52) hx hb dX10_many_36 (by decide) ?_
      refine lv_iconst (v := (-1)) hx hb dX10_many_52 (by decide) ?_
      refine W.widen (k := 0) (n := 0) (Nat.le_of_ble_eq_true rfl) (Nat.le_of_ble_eq_true rfl) ?_
      exact W.iret (v := (-1)) hx hb hr (fun t ht hW => ⟨⟨(), rfl, trivial, CB.nil⟩, hS.F ht⟩) hS.2.2 dX10_many_53
    · skip
      have c4 := i_nlt (Eq.refl (p3).toInt) (Eq.refl (p2).toInt) c4
      refine lv_iload hx hb dX10_many_17 (lv_at hl 6 rfl) ?_
      refine lv_iconst (v := 0) hx hb dX10_many_19 (by decide) ?_
      refine lv_iconst (v := 1) hx hb dX10_many_20 (by decide) ?_
      refine cg0 (rn_S (As := [.int p4, .int 0, .int 1]) (rest := []) (c_isWithin l D Y Z H.size p4 0 1 (0) (1) (by decide) (by decide)) ⟨hx, hb, hml, hown, hg⟩ lk_X10_100 ⟨CP.blind, CP.at nilP hKN (nilD (A := fun _ => True))⟩ ⟨⟨rfl, rfl⟩, ⟨Nat.le_of_ble_eq_true rfl, Nat.le_of_ble_eq_true rfl⟩, ⟨Nat.le_of_ble_eq_true rfl, Nat.le_of_ble_eq_true rfl⟩⟩ hl.1 rfl (Nat.le_of_ble_eq_true rfl) dX10_many_21) hP hS hA (fun u5 H locs w6 hP hS => ?_)
      rcases w6 with ⟨w6, rfl⟩ | ⟨w6, rfl⟩
      · skip
        refine W.eq (g2 := F0 m 24 ls [.int 1]) rfl ?_
        refine lv_if_eq (tgt := 31) hx hb dX10_many_24 (by decide) (fun c7 => ?_) (fun c7 => ?_)
        · exact absurd c7 (by decide)
        refine lv_iconst (v := 1) hx hb dX10_many_27 (by decide) ?_
        refine lv_goto (tgt := 32) hx hb dX10_many_28 (by decide) ?_
        refine lv_istore (lv' := [(7, .int 1), (6, .null), (0, .ref o), (1, .int p0), (2, .int p1), (3, .int p2), (4, .int p3), (5, .int p4)]) hx hb dX10_many_32 hl (by decide) rfl (fun ls hl => ?_)
        refine lv_aloadN hx hb dX10_many_34 (lv_at hl 1 rfl) ?_
        refine lv_ifnullN (tgt := 52) hx hb dX10_many_36 (by decide) ?_
        refine lv_iconst (v := (-1)) hx hb dX10_many_52 (by decide) ?_
        refine W.widen (k := 0) (n := 0) (Nat.le_of_ble_eq_true rfl) (Nat.le_of_ble_eq_true rfl) ?_
        exact W.iret (v := (-1)) hx hb hr (fun t ht hW => ⟨⟨(), rfl, trivial, CB.nil⟩, hS.F ht⟩) hS.2.2 dX10_many_53
      · skip
        refine W.eq (g2 := F0 m 24 ls [.int 0]) rfl ?_
        refine lv_if_eq (tgt := 31) hx hb dX10_many_24 (by decide) (fun c8 => ?_) (fun c8 => ?_)
        rotate_left
        · exact absurd c8 (by decide)
        refine lv_iconst (v := 0) hx hb dX10_many_31 (by decide) ?_
        refine lv_istore (lv' := [(7, .int 0), (6, .null), (0, .ref o), (1, .int p0), (2, .int p1), (3, .int p2), (4, .int p3), (5, .int p4)]) hx hb dX10_many_32 hl (by decide) rfl (fun ls hl => ?_)
        refine lv_aloadN hx hb dX10_many_34 (lv_at hl 1 rfl) ?_
        refine lv_ifnullN (tgt := 52) hx hb dX10_many_36 (by decide) ?_
        refine lv_iconst (v := (-1)) hx hb dX10_many_52 (by decide) ?_
        refine W.widen (k := 0) (n := 0) (Nat.le_of_ble_eq_true rfl) (Nat.le_of_ble_eq_true rfl) ?_
        exact W.iret (v := (-1)) hx hb hr (fun t ht hW => ⟨⟨(), rfl, trivial, CB.nil⟩, hS.F ht⟩) hS.2.2 dX10_many_53
set_option maxHeartbeats 4000000 in
set_option maxRecDepth 100000 in
theorem y_many (l : Launch) (D : va_G) (Y : Nat → ClassId) (Z : Nat → Nat) (sz : Nat) (o : Nat) (a : Nat → Nat) (p0 p1 p2 p3 p4 : Int32) : Met l yX11_many (.code yX11_many cX11_many 8 (some .int) :: GW) ({ frames := 1, cells := 0, slots := 0, locals := 22 }) (va_Pc [.ref o, .int p0, .int p1, .int p2, .int p3, .int p4] (CP D Y Z [(o, .inr (11, (moF a))), ((a 3), .inl (Y 0, 3, .inl (fun _ => 0)))] sz)) (QG (S := Unit) (fun _ => some (.int (-1))) (fun _ => True) (fun u => CB D ((fun _ => []) u) (va_A [(o, .inr (11, (moF a))), ((a 3), .inl (Y 0, 3, .inl (fun _ => 0)))] sz)) (va_A [(o, .inr (11, (moF a))), ((a 3), .inl (Y 0, 3, .inl (fun _ => 0)))] sz)) 0 0 (va_A [(o, .inr (11, (moF a))), ((a 3), .inl (Y 0, 3, .inl (fun _ => 0)))] sz) := by
  refine Met.ofW (cc := cX11_many) (maxL := 8) (ret := (some .int)) (by decide) rfl ?_
  intro p e s m args below meth c s₁ B hml hv
  obtain ⟨rfl, hsz, hP, hKN, hD0⟩ := hv
  have hx := B.exec
  have hb := B.bytes
  have hr := B.returns
  have hts := atoms_spec (ws := .code yX11_many cX11_many 8 (some .int) :: GW) B.pre
  have hg : ∀ w ∈ GW, w.before _ s = true := fun w h => hts w (List.mem_cons_of_mem _ h)
  have hown : s.vm.findClass RX11 = some m.cls := findClass_of_methodNamed B.named
  have hlocks := B.notSynchronized
  subst hsz
  have hD := hD0.self (sz := s.heap.size)
  generalize hAe : va_A [(o, .inr (11, (moF a))), ((a 3), .inl (Y 0, 3, .inl (fun _ => 0)))] s.heap.size = A at hD ⊢
  have hA : ∀ q : Nat, s.heap.size ≤ q → A q := fun q h => by rw [← hAe]; exact Or.inr h
  have hl := lv_entry ([.ref o, .int p0, .int p1, .int p2, .int p3, .int p4]) (n := 8) (Nat.le_of_ble_eq_true rfl)
  rw [lg_entry_eq]
  generalize (lg_sl ([.ref o, .int p0, .int p1, .int p2, .int p3, .int p4]) ++ List.replicate (8 - (lg_sl ([.ref o, .int p0, .int p1, .int p2, .int p3, .int p4])).length) Slot.unset).toArray = ls at hl ⊢
  have hl : lv_has ls 8 [(0, .ref o), (1, .int p0), (2, .int p1), (3, .int p2), (4, .int p3), (5, .int p4)] := hl
  refine w_start (A0 := A) hP (fun H locs hP hS => ?_)
  refine lv_aload_n hx hb dX11_many_0 rfl (lv_at hl 0 rfl) ?_
  refine lv_iconst (v := 1) hx hb dX11_many_1 (by decide) ?_
  refine lv_iload_n hx hb dX11_many_2 rfl (lv_at hl 1 rfl) ?_
  refine cg (wc := [(o, .inr (11, (moF a))), ((a 3), .inl (Y 0, 3, .inl (fun _ => 0)))]) (wr := []) [0, 1] [] (rn_V (As := [.int 1, .int p0]) (rest := []) (b := o) (m_isText1 l D Y Z H.size o a p0) ⟨hx, hb, hml, hown, hg⟩ lk_X11_366 ⟨CP.blind, va_recv hKN.1 hP (ci := 11) (q0 := 0) rfl rfl, CP.at (hP.sub [0, 1] rfl) hKN (hD.sub [0, 1] (by decide) rfl)⟩ ⟨⟨rfl, rfl⟩, ⟨Nat.le_of_ble_eq_true rfl, Nat.le_of_ble_eq_true rfl⟩, ⟨Nat.le_of_ble_eq_true rfl, Nat.le_of_ble_eq_true rfl⟩⟩ hl.1 rfl (Nat.le_of_ble_eq_true rfl) dX11_many_3) hP hD hS hA rfl rfl (by decide) (by decide) (fun u1 H locs w2 hP hD hS => ?_)
  refine W.eq (g2 := F0 m 6 ls [.int 0]) rfl ?_
  have hP : va_P D vwCl [(o, .inr (11, (moF a))), ((a 3), .inl (Y 0, 3, .inl (fun _ => 0)))] H := hP
  have hD : va_D A [(o, .inr (11, (moF a))), ((a 3), .inl (Y 0, 3, .inl (fun _ => 0)))] := hD
  refine lv_if_eq (tgt := 39) hx hb dX11_many_6 (by decide) (fun c3 => ?_) (fun c3 => ?_)
  rotate_left
  · exact absurd c3 (by decide)
  refine lv_iconst (v := (-1)) hx hb dX11_many_39 (by decide) ?_
  refine W.widen (k := 0) (n := 0) (Nat.le_of_ble_eq_true rfl) (Nat.le_of_ble_eq_true rfl) ?_
  exact W.iret (v := (-1)) hx hb hr (fun t ht hW => ⟨⟨(), rfl, trivial, CB.nil⟩, hS.F ht⟩) hS.2.2 dX11_many_40
set_option maxHeartbeats 4000000 in
set_option maxRecDepth 100000 in
theorem x_finest (l : Launch) (D : va_G) (Y : Nat → ClassId) (Z : Nat → Nat) (sz : Nat) (o : Nat) (b : Nat → Nat) : Met l yX10_finest (.code yX10_finest cX10_finest 9 (some .int) :: GW) ({ frames := 0, cells := 0, slots := 0, locals := 0 }) (va_Pc [.ref o] (CP D Y Z [(o, .inr (10, (dsF b)))] sz)) (QG (S := Unit) (fun _ => some (.int (-1))) (fun _ => True) (fun u => CB D ((fun _ => []) u) (va_A [(o, .inr (10, (dsF b)))] sz)) (va_A [(o, .inr (10, (dsF b)))] sz)) 0 0 (va_A [(o, .inr (10, (dsF b)))] sz) := by
  refine Met.ofW (cc := cX10_finest) (maxL := 9) (ret := (some .int)) (by decide) rfl ?_
  intro p e s m args below meth c s₁ B hml hv
  obtain ⟨rfl, hsz, hP, hKN, hD0⟩ := hv
  have hx := B.exec
  have hb := B.bytes
  have hr := B.returns
  have hts := atoms_spec (ws := .code yX10_finest cX10_finest 9 (some .int) :: GW) B.pre
  have hg : ∀ w ∈ GW, w.before _ s = true := fun w h => hts w (List.mem_cons_of_mem _ h)
  have hown : s.vm.findClass RX10 = some m.cls := findClass_of_methodNamed B.named
  have hlocks := B.notSynchronized
  subst hsz
  have hD := hD0.self (sz := s.heap.size)
  generalize hAe : va_A [(o, .inr (10, (dsF b)))] s.heap.size = A at hD ⊢
  have hA : ∀ q : Nat, s.heap.size ≤ q → A q := fun q h => by rw [← hAe]; exact Or.inr h
  have hl := lv_entry ([.ref o]) (n := 9) (Nat.le_of_ble_eq_true rfl)
  rw [lg_entry_eq]
  generalize (lg_sl ([.ref o]) ++ List.replicate (9 - (lg_sl ([.ref o])).length) Slot.unset).toArray = ls at hl ⊢
  have hl : lv_has ls 9 [(0, .ref o)] := hl
  refine w_start (A0 := A) hP (fun H locs hP hS => ?_)
  refine lv_iconst (v := (-1)) hx hb dX10_finest_0 (by decide) ?_
  refine lv_istore_n (lv' := [(1, .int (-1)), (0, .ref o)]) hx hb dX10_finest_1 rfl hl (by decide) rfl (fun ls hl => ?_)
  refine lv_iconst (v := 0) hx hb dX10_finest_2 (by decide) ?_
  refine lv_istore_n (lv' := [(2, .int 0), (1, .int (-1)), (0, .ref o)]) hx hb dX10_finest_3 rfl hl (by decide) rfl (fun ls hl => ?_)
  refine lv_iconst (v := 0) hx hb dX10_finest_4 (by decide) ?_
  refine lv_istore_n (lv' := [(3, .int 0), (2, .int 0), (1, .int (-1)), (0, .ref o)]) hx hb dX10_finest_5 rfl hl (by decide) rfl (fun ls hl => ?_)
  refine lv_iconst (v := 0) hx hb dX10_finest_6 (by decide) ?_
  refine lv_istore (lv' := [(4, .int 0), (3, .int 0), (2, .int 0), (1, .int (-1)), (0, .ref o)]) hx hb dX10_finest_7 hl (by decide) rfl (fun ls hl => ?_)
  refine lv_iload hx hb dX10_finest_9 (lv_at hl 0 rfl) ?_
  refine lv_aload_n hx hb dX10_finest_11 rfl (lv_at hl 4 rfl) ?_
  refine va_get (D := D) (ci := 10) (v := .int 0) (C := RX10) (T := TX10) (N := 20) hx hb hg inGX10 hown hKN.1 hP 0 rfl rfl 6 (by decide) (hg _ kw_355) (fun _ h9 => h9) rfl dX10_finest_12 ?_
  refine lv_icmp_ge (tgt := 101) hx hb dX10_finest_15 (by decide) (fun c1 => ?_) (fun c1 => ?_)
  rotate_left
  · exact absurd c1 (by decide)
  refine lv_iload_n hx hb dX10_finest_101 rfl (lv_at hl 3 rfl) ?_
  refine W.widen (k := 0) (n := 0) (Nat.le_of_ble_eq_true rfl) (Nat.le_of_ble_eq_true rfl) ?_
  exact W.iret (v := (-1)) hx hb hr (fun t ht hW => ⟨⟨(), rfl, trivial, CB.nil⟩, hS.F ht⟩) hS.2.2 dX10_finest_102
set_option maxHeartbeats 4000000 in
set_option maxRecDepth 100000 in
theorem y_finest (l : Launch) (D : va_G) (Y : Nat → ClassId) (Z : Nat → Nat) (sz : Nat) (o : Nat) (a : Nat → Nat) : Met l yX11_finest (.code yX11_finest cX11_finest 8 (some .int) :: GW) ({ frames := 0, cells := 0, slots := 0, locals := 0 }) (va_Pc [.ref o] (CP D Y Z [(o, .inr (11, (moF a))), ((a 3), .inl (Y 0, 3, .inl (fun _ => 0)))] sz)) (QG (S := Unit) (fun _ => some (.int (-1))) (fun _ => True) (fun u => CB D ((fun _ => []) u) (va_A [(o, .inr (11, (moF a))), ((a 3), .inl (Y 0, 3, .inl (fun _ => 0)))] sz)) (va_A [(o, .inr (11, (moF a))), ((a 3), .inl (Y 0, 3, .inl (fun _ => 0)))] sz)) 0 0 (va_A [(o, .inr (11, (moF a))), ((a 3), .inl (Y 0, 3, .inl (fun _ => 0)))] sz) := by
  refine Met.ofW (cc := cX11_finest) (maxL := 8) (ret := (some .int)) (by decide) rfl ?_
  intro p e s m args below meth c s₁ B hml hv
  obtain ⟨rfl, hsz, hP, hKN, hD0⟩ := hv
  have hx := B.exec
  have hb := B.bytes
  have hr := B.returns
  have hts := atoms_spec (ws := .code yX11_finest cX11_finest 8 (some .int) :: GW) B.pre
  have hg : ∀ w ∈ GW, w.before _ s = true := fun w h => hts w (List.mem_cons_of_mem _ h)
  have hown : s.vm.findClass RX11 = some m.cls := findClass_of_methodNamed B.named
  have hlocks := B.notSynchronized
  subst hsz
  have hD := hD0.self (sz := s.heap.size)
  generalize hAe : va_A [(o, .inr (11, (moF a))), ((a 3), .inl (Y 0, 3, .inl (fun _ => 0)))] s.heap.size = A at hD ⊢
  have hA : ∀ q : Nat, s.heap.size ≤ q → A q := fun q h => by rw [← hAe]; exact Or.inr h
  have hl := lv_entry ([.ref o]) (n := 8) (Nat.le_of_ble_eq_true rfl)
  rw [lg_entry_eq]
  generalize (lg_sl ([.ref o]) ++ List.replicate (8 - (lg_sl ([.ref o])).length) Slot.unset).toArray = ls at hl ⊢
  have hl : lv_has ls 8 [(0, .ref o)] := hl
  refine w_start (A0 := A) hP (fun H locs hP hS => ?_)
  refine lv_iconst (v := (-1)) hx hb dX11_finest_0 (by decide) ?_
  refine lv_istore_n (lv' := [(1, .int (-1)), (0, .ref o)]) hx hb dX11_finest_1 rfl hl (by decide) rfl (fun ls hl => ?_)
  refine lv_iconst (v := 0) hx hb dX11_finest_2 (by decide) ?_
  refine lv_istore_n (lv' := [(2, .int 0), (1, .int (-1)), (0, .ref o)]) hx hb dX11_finest_3 rfl hl (by decide) rfl (fun ls hl => ?_)
  refine lv_iconst (v := 0) hx hb dX11_finest_4 (by decide) ?_
  refine lv_istore_n (lv' := [(3, .int 0), (2, .int 0), (1, .int (-1)), (0, .ref o)]) hx hb dX11_finest_5 rfl hl (by decide) rfl (fun ls hl => ?_)
  refine lv_iconst (v := 0) hx hb dX11_finest_6 (by decide) ?_
  refine lv_istore (lv' := [(4, .int 0), (3, .int 0), (2, .int 0), (1, .int (-1)), (0, .ref o)]) hx hb dX11_finest_7 hl (by decide) rfl (fun ls hl => ?_)
  refine lv_iload hx hb dX11_finest_9 (lv_at hl 0 rfl) ?_
  refine lv_aload_n hx hb dX11_finest_11 rfl (lv_at hl 4 rfl) ?_
  refine va_get (D := D) (ci := 11) (v := .ref (a 3)) (C := RX11) (T := TX11) (N := 49) hx hb hg inGX11 hown hKN.1 hP 0 rfl rfl 4 (by decide) (hg _ kw_1212) (fun _ h9 => h9) rfl dX11_finest_12 ?_
  refine lv_iconst (v := 1) hx hb dX11_finest_15 (by decide) ?_
  refine va_iald hx hb hKN.1 hP 1 0 rfl rfl (show ¬ ((1 : Int32) < 0 ∨ 3 ≤ (1 : Int32).toNatClampNeg) by decide) dX11_finest_16 ?_
  refine lv_topi (fun z1 ez1 => ?_)
  obtain rfl : z1 = 0 := ez1.trans (by rfl)
  refine lv_icmp_ge (tgt := 122) hx hb dX11_finest_17 (by decide) (fun c2 => ?_) (fun c2 => ?_)
  rotate_left
  · exact absurd c2 (by decide)
  refine lv_iload_n hx hb dX11_finest_122 rfl (lv_at hl 3 rfl) ?_
  refine W.widen (k := 0) (n := 0) (Nat.le_of_ble_eq_true rfl) (Nat.le_of_ble_eq_true rfl) ?_
  exact W.iret (v := (-1)) hx hb hr (fun t ht hW => ⟨⟨(), rfl, trivial, CB.nil⟩, hS.F ht⟩) hS.2.2 dX11_finest_123
set_option maxHeartbeats 4000000 in
set_option maxRecDepth 100000 in
theorem x_room (l : Launch) (D : va_G) (Y : Nat → ClassId) (Z : Nat → Nat) (sz : Nat) (o : Nat) (b : Nat → Nat) (p0 p1 : Int32) : Met l yX10_room (.code yX10_room cX10_room 5 (some .int) :: GW) ({ frames := 2, cells := 0, slots := 0, locals := 43 }) (va_Pc [.ref o, .int p0, .int p1] (CP D Y Z [(o, .inr (10, (dsF b))), ((b 0), .inr (6, (skF b)))] sz)) (QG (S := Unit) (fun _ => some (.int (-1))) (fun _ => True) (fun u => CB D ((fun _ => []) u) (va_A [(o, .inr (10, (dsF b))), ((b 0), .inr (6, (skF b)))] sz)) (va_A [(o, .inr (10, (dsF b))), ((b 0), .inr (6, (skF b)))] sz)) 0 0 (va_A [(o, .inr (10, (dsF b))), ((b 0), .inr (6, (skF b)))] sz) := by
  refine Met.ofW (cc := cX10_room) (maxL := 5) (ret := (some .int)) (by decide) rfl ?_
  intro p e s m args below meth c s₁ B hml hv
  obtain ⟨rfl, hsz, hP, hKN, hD0⟩ := hv
  have hx := B.exec
  have hb := B.bytes
  have hr := B.returns
  have hts := atoms_spec (ws := .code yX10_room cX10_room 5 (some .int) :: GW) B.pre
  have hg : ∀ w ∈ GW, w.before _ s = true := fun w h => hts w (List.mem_cons_of_mem _ h)
  have hown : s.vm.findClass RX10 = some m.cls := findClass_of_methodNamed B.named
  have hlocks := B.notSynchronized
  subst hsz
  have hD := hD0.self (sz := s.heap.size)
  generalize hAe : va_A [(o, .inr (10, (dsF b))), ((b 0), .inr (6, (skF b)))] s.heap.size = A at hD ⊢
  have hA : ∀ q : Nat, s.heap.size ≤ q → A q := fun q h => by rw [← hAe]; exact Or.inr h
  have hl := lv_entry ([.ref o, .int p0, .int p1]) (n := 5) (Nat.le_of_ble_eq_true rfl)
  rw [lg_entry_eq]
  generalize (lg_sl ([.ref o, .int p0, .int p1]) ++ List.replicate (5 - (lg_sl ([.ref o, .int p0, .int p1])).length) Slot.unset).toArray = ls at hl ⊢
  have hl : lv_has ls 5 [(0, .ref o), (1, .int p0), (2, .int p1)] := hl
  refine w_start (A0 := A) hP (fun H locs hP hS => ?_)
  refine lv_aload_n hx hb dX10_room_0 rfl (lv_at hl 0 rfl) ?_
  refine lv_iload_n hx hb dX10_room_1 rfl (lv_at hl 1 rfl) ?_
  refine cg (wc := [(o, .inr (10, (dsF b)))]) (wr := [((b 0), .inr (6, (skF b)))]) [0] [1] (rn_V (As := [.int p0]) (rest := []) (b := o) (c_searchAt l D Y Z H.size o b p0) ⟨hx, hb, hml, hown, hg⟩ lk_X10_259 ⟨CP.blind, va_recv hKN.1 hP (ci := 10) (q0 := 0) rfl rfl, CP.at (hP.sub [0] rfl) hKN (hD.sub [0] (by decide) rfl)⟩ ⟨⟨rfl, rfl⟩, ⟨Nat.le_of_ble_eq_true rfl, Nat.le_of_ble_eq_true rfl⟩, ⟨Nat.le_of_ble_eq_true rfl, Nat.le_of_ble_eq_true rfl⟩⟩ hl.1 rfl (Nat.le_of_ble_eq_true rfl) dX10_room_2) hP hD hS hA rfl rfl (by decide) (by decide) (fun u1 H locs w2 hP hD hS => ?_)
  refine W.eq (g2 := F0 m 5 ls [.null]) rfl ?_
  have hP : va_P D vwCl [((b 0), .inr (6, (skF b))), (o, .inr (10, (dsF b)))] H := hP
  have hD : va_D A [((b 0), .inr (6, (skF b))), (o, .inr (10, (dsF b)))] := hD
  refine lv_astore_nN (lv' := [(3, .null), (0, .ref o), (1, .int p0), (2, .int p1)]) hx hb dX10_room_5 rfl hl (by decide) rfl (fun ls hl => ?_)
  refine lv_aload_n hx hb dX10_room_6 rfl (lv_at hl 1 rfl) ?_
  refine va_get (D := D) (ci := 10) (v := .ref (b 0)) (C := RX10) (T := TX10) (N := 20) hx hb hg inGX10 hown hKN.1 hP 1 rfl rfl 0 (by decide) (hg _ kw_349) (fun _ h9 => h9) rfl dX10_room_7 ?_
  refine lv_iload_n hx hb dX10_room_10 rfl (lv_at hl 3 rfl) ?_
  refine cg (wc := [((b 0), .inr (6, (skF b)))]) (wr := [(o, .inr (10, (dsF b)))]) [0] [1] (rn_NV (As := [.int p1]) (rest := []) (b := (b 0)) (c_worldAt l D Y Z H.size (b 0) b p1) ⟨hx, hb, hml, hown, hg⟩ hKN lk_X10_280 ⟨CP.blind, va_recv hKN.1 hP (ci := 6) (q0 := 0) rfl rfl, CP.at (hP.sub [0] rfl) hKN (hD.sub [0] (by decide) rfl)⟩ ⟨⟨rfl, rfl⟩, ⟨Nat.le_of_ble_eq_true rfl, Nat.le_of_ble_eq_true rfl⟩, ⟨Nat.le_of_ble_eq_true rfl, Nat.le_of_ble_eq_true rfl⟩⟩ hl.1 rfl (Nat.le_of_ble_eq_true rfl) dX10_room_11) hP hD hS hA rfl rfl (by decide) (by decide) (fun u3 H locs w4 hP hD hS => ?_)
  refine W.eq (g2 := F0 m 14 ls [.null]) rfl ?_
  have hP : va_P D vwCl [(o, .inr (10, (dsF b))), ((b 0), .inr (6, (skF b)))] H := hP
  have hD : va_D A [(o, .inr (10, (dsF b))), ((b 0), .inr (6, (skF b)))] := hD
  refine lv_astoreN (lv' := [(4, .null), (3, .null), (0, .ref o), (1, .int p0), (2, .int p1)]) hx hb dX10_room_14 hl (by decide) rfl (fun ls hl => ?_)
  refine lv_aload_nN hx hb dX10_room_16 rfl (lv_at hl 1 rfl) ?_
  refine lv_ifnullN (tgt := 25) hx hb dX10_room_17 (by decide) ?_
  refine lv_iconst (v := (-1)) hx hb dX10_room_25 (by decide) ?_
  refine W.widen (k := 0) (n := 0) (Nat.le_of_ble_eq_true rfl) (Nat.le_of_ble_eq_true rfl) ?_
  exact W.iret (v := (-1)) hx hb hr (fun t ht hW => ⟨⟨(), rfl, trivial, CB.nil⟩, hS.F ht⟩) hS.2.2 dX10_room_26
set_option maxHeartbeats 4000000 in
set_option maxRecDepth 100000 in
theorem y_room (l : Launch) (D : va_G) (Y : Nat → ClassId) (Z : Nat → Nat) (sz : Nat) (o : Nat) (a : Nat → Nat) (p0 p1 : Int32) : Met l yX11_room (.code yX11_room cX11_room 3 (some .int) :: GW) ({ frames := 1, cells := 0, slots := 0, locals := 22 }) (va_Pc [.ref o, .int p0, .int p1] (CP D Y Z [(o, .inr (11, (moF a))), ((a 3), .inl (Y 0, 3, .inl (fun _ => 0)))] sz)) (QG (S := Unit) (fun _ => some (.int (-1))) (fun _ => True) (fun u => CB D ((fun _ => []) u) (va_A [(o, .inr (11, (moF a))), ((a 3), .inl (Y 0, 3, .inl (fun _ => 0)))] sz)) (va_A [(o, .inr (11, (moF a))), ((a 3), .inl (Y 0, 3, .inl (fun _ => 0)))] sz)) 0 0 (va_A [(o, .inr (11, (moF a))), ((a 3), .inl (Y 0, 3, .inl (fun _ => 0)))] sz) := by
  refine Met.ofW (cc := cX11_room) (maxL := 3) (ret := (some .int)) (by decide) rfl ?_
  intro p e s m args below meth c s₁ B hml hv
  obtain ⟨rfl, hsz, hP, hKN, hD0⟩ := hv
  have hx := B.exec
  have hb := B.bytes
  have hr := B.returns
  have hts := atoms_spec (ws := .code yX11_room cX11_room 3 (some .int) :: GW) B.pre
  have hg : ∀ w ∈ GW, w.before _ s = true := fun w h => hts w (List.mem_cons_of_mem _ h)
  have hown : s.vm.findClass RX11 = some m.cls := findClass_of_methodNamed B.named
  have hlocks := B.notSynchronized
  subst hsz
  have hD := hD0.self (sz := s.heap.size)
  generalize hAe : va_A [(o, .inr (11, (moF a))), ((a 3), .inl (Y 0, 3, .inl (fun _ => 0)))] s.heap.size = A at hD ⊢
  have hA : ∀ q : Nat, s.heap.size ≤ q → A q := fun q h => by rw [← hAe]; exact Or.inr h
  have hl := lv_entry ([.ref o, .int p0, .int p1]) (n := 3) (Nat.le_of_ble_eq_true rfl)
  rw [lg_entry_eq]
  generalize (lg_sl ([.ref o, .int p0, .int p1]) ++ List.replicate (3 - (lg_sl ([.ref o, .int p0, .int p1])).length) Slot.unset).toArray = ls at hl ⊢
  have hl : lv_has ls 3 [(0, .ref o), (1, .int p0), (2, .int p1)] := hl
  refine w_start (A0 := A) hP (fun H locs hP hS => ?_)
  refine lv_aload_n hx hb dX11_room_0 rfl (lv_at hl 0 rfl) ?_
  refine lv_iconst (v := 1) hx hb dX11_room_1 (by decide) ?_
  refine lv_iload_n hx hb dX11_room_2 rfl (lv_at hl 1 rfl) ?_
  refine cg (wc := [(o, .inr (11, (moF a))), ((a 3), .inl (Y 0, 3, .inl (fun _ => 0)))]) (wr := []) [0, 1] [] (rn_V (As := [.int 1, .int p0]) (rest := []) (b := o) (m_isText1 l D Y Z H.size o a p0) ⟨hx, hb, hml, hown, hg⟩ lk_X11_366 ⟨CP.blind, va_recv hKN.1 hP (ci := 11) (q0 := 0) rfl rfl, CP.at (hP.sub [0, 1] rfl) hKN (hD.sub [0, 1] (by decide) rfl)⟩ ⟨⟨rfl, rfl⟩, ⟨Nat.le_of_ble_eq_true rfl, Nat.le_of_ble_eq_true rfl⟩, ⟨Nat.le_of_ble_eq_true rfl, Nat.le_of_ble_eq_true rfl⟩⟩ hl.1 rfl (Nat.le_of_ble_eq_true rfl) dX11_room_3) hP hD hS hA rfl rfl (by decide) (by decide) (fun u1 H locs w2 hP hD hS => ?_)
  refine W.eq (g2 := F0 m 6 ls [.int 0]) rfl ?_
  have hP : va_P D vwCl [(o, .inr (11, (moF a))), ((a 3), .inl (Y 0, 3, .inl (fun _ => 0)))] H := hP
  have hD : va_D A [(o, .inr (11, (moF a))), ((a 3), .inl (Y 0, 3, .inl (fun _ => 0)))] := hD
  refine lv_if_eq (tgt := 57) hx hb dX11_room_6 (by decide) (fun c3 => ?_) (fun c3 => ?_)
  rotate_left
  · exact absurd c3 (by decide)
  refine lv_iconst (v := (-1)) hx hb dX11_room_57 (by decide) ?_
  refine W.widen (k := 0) (n := 0) (Nat.le_of_ble_eq_true rfl) (Nat.le_of_ble_eq_true rfl) ?_
  exact W.iret (v := (-1)) hx hb hr (fun t ht hW => ⟨⟨(), rfl, trivial, CB.nil⟩, hS.F ht⟩) hS.2.2 dX11_room_58
set_option maxHeartbeats 4000000 in
set_option maxRecDepth 100000 in
theorem x_other (l : Launch) (D : va_G) (Y : Nat → ClassId) (Z : Nat → Nat) (sz : Nat) (o : Nat) (b : Nat → Nat) (p0 p1 p2 : Int32) : Met l yX10_other (.code yX10_other cX10_other 5 (some .int) :: GW) ({ frames := 2, cells := 0, slots := 0, locals := 43 }) (va_Pc [.ref o, .int p0, .int p1, .int p2] (CP D Y Z [(o, .inr (10, (dsF b)))] sz)) (QG (S := Unit) (fun _ => some (.int (-3))) (fun _ => True) (fun u => CB D ((fun _ => []) u) (va_A [(o, .inr (10, (dsF b)))] sz)) (va_A [(o, .inr (10, (dsF b)))] sz)) 0 0 (va_A [(o, .inr (10, (dsF b)))] sz) := by
  refine Met.ofW (cc := cX10_other) (maxL := 5) (ret := (some .int)) (by decide) rfl ?_
  intro p e s m args below meth c s₁ B hml hv
  obtain ⟨rfl, hsz, hP, hKN, hD0⟩ := hv
  have hx := B.exec
  have hb := B.bytes
  have hr := B.returns
  have hts := atoms_spec (ws := .code yX10_other cX10_other 5 (some .int) :: GW) B.pre
  have hg : ∀ w ∈ GW, w.before _ s = true := fun w h => hts w (List.mem_cons_of_mem _ h)
  have hown : s.vm.findClass RX10 = some m.cls := findClass_of_methodNamed B.named
  have hlocks := B.notSynchronized
  subst hsz
  have hD := hD0.self (sz := s.heap.size)
  generalize hAe : va_A [(o, .inr (10, (dsF b)))] s.heap.size = A at hD ⊢
  have hA : ∀ q : Nat, s.heap.size ≤ q → A q := fun q h => by rw [← hAe]; exact Or.inr h
  have hl := lv_entry ([.ref o, .int p0, .int p1, .int p2]) (n := 5) (Nat.le_of_ble_eq_true rfl)
  rw [lg_entry_eq]
  generalize (lg_sl ([.ref o, .int p0, .int p1, .int p2]) ++ List.replicate (5 - (lg_sl ([.ref o, .int p0, .int p1, .int p2])).length) Slot.unset).toArray = ls at hl ⊢
  have hl : lv_has ls 5 [(0, .ref o), (1, .int p0), (2, .int p1), (3, .int p2)] := hl
  refine w_start (A0 := A) hP (fun H locs hP hS => ?_)
  refine lv_aload_n hx hb dX10_other_0 rfl (lv_at hl 0 rfl) ?_
  refine lv_iload_n hx hb dX10_other_1 rfl (lv_at hl 1 rfl) ?_
  refine cg (wc := [(o, .inr (10, (dsF b)))]) (wr := []) [0] [] (rn_V (As := [.int p0]) (rest := []) (b := o) (c_searchAt l D Y Z H.size o b p0) ⟨hx, hb, hml, hown, hg⟩ lk_X10_259 ⟨CP.blind, va_recv hKN.1 hP (ci := 10) (q0 := 0) rfl rfl, CP.at (hP.sub [0] rfl) hKN (hD.sub [0] (by decide) rfl)⟩ ⟨⟨rfl, rfl⟩, ⟨Nat.le_of_ble_eq_true rfl, Nat.le_of_ble_eq_true rfl⟩, ⟨Nat.le_of_ble_eq_true rfl, Nat.le_of_ble_eq_true rfl⟩⟩ hl.1 rfl (Nat.le_of_ble_eq_true rfl) dX10_other_2) hP hD hS hA rfl rfl (by decide) (by decide) (fun u1 H locs w2 hP hD hS => ?_)
  refine W.eq (g2 := F0 m 5 ls [.null]) rfl ?_
  have hP : va_P D vwCl [(o, .inr (10, (dsF b)))] H := hP
  have hD : va_D A [(o, .inr (10, (dsF b)))] := hD
  refine lv_ifnullN (tgt := 25) hx hb dX10_other_5 (by decide) ?_
  refine lv_bipush (v := (-3)) hx hb dX10_other_25 (by decide) ?_
  refine W.widen (k := 0) (n := 0) (Nat.le_of_ble_eq_true rfl) (Nat.le_of_ble_eq_true rfl) ?_
  exact W.iret (v := (-3)) hx hb hr (fun t ht hW => ⟨⟨(), rfl, trivial, CB.nil⟩, hS.F ht⟩) hS.2.2 dX10_other_27
set_option maxHeartbeats 4000000 in
set_option maxRecDepth 100000 in
theorem y_other (l : Launch) (D : va_G) (Y : Nat → ClassId) (Z : Nat → Nat) (sz : Nat) (o : Nat) (a : Nat → Nat) (p0 p1 p2 : Int32) : Met l yX11_other (.code yX11_other cX11_other 6 (some .int) :: GW) ({ frames := 1, cells := 0, slots := 0, locals := 22 }) (va_Pc [.ref o, .int p0, .int p1, .int p2] (CP D Y Z [(o, .inr (11, (moF a))), ((a 3), .inl (Y 0, 3, .inl (fun _ => 0)))] sz)) (QG (S := Unit) (fun _ => some (.int (-3))) (fun _ => True) (fun u => CB D ((fun _ => []) u) (va_A [(o, .inr (11, (moF a))), ((a 3), .inl (Y 0, 3, .inl (fun _ => 0)))] sz)) (va_A [(o, .inr (11, (moF a))), ((a 3), .inl (Y 0, 3, .inl (fun _ => 0)))] sz)) 0 0 (va_A [(o, .inr (11, (moF a))), ((a 3), .inl (Y 0, 3, .inl (fun _ => 0)))] sz) := by
  refine Met.ofW (cc := cX11_other) (maxL := 6) (ret := (some .int)) (by decide) rfl ?_
  intro p e s m args below meth c s₁ B hml hv
  obtain ⟨rfl, hsz, hP, hKN, hD0⟩ := hv
  have hx := B.exec
  have hb := B.bytes
  have hr := B.returns
  have hts := atoms_spec (ws := .code yX11_other cX11_other 6 (some .int) :: GW) B.pre
  have hg : ∀ w ∈ GW, w.before _ s = true := fun w h => hts w (List.mem_cons_of_mem _ h)
  have hown : s.vm.findClass RX11 = some m.cls := findClass_of_methodNamed B.named
  have hlocks := B.notSynchronized
  subst hsz
  have hD := hD0.self (sz := s.heap.size)
  generalize hAe : va_A [(o, .inr (11, (moF a))), ((a 3), .inl (Y 0, 3, .inl (fun _ => 0)))] s.heap.size = A at hD ⊢
  have hA : ∀ q : Nat, s.heap.size ≤ q → A q := fun q h => by rw [← hAe]; exact Or.inr h
  have hl := lv_entry ([.ref o, .int p0, .int p1, .int p2]) (n := 6) (Nat.le_of_ble_eq_true rfl)
  rw [lg_entry_eq]
  generalize (lg_sl ([.ref o, .int p0, .int p1, .int p2]) ++ List.replicate (6 - (lg_sl ([.ref o, .int p0, .int p1, .int p2])).length) Slot.unset).toArray = ls at hl ⊢
  have hl : lv_has ls 6 [(0, .ref o), (1, .int p0), (2, .int p1), (3, .int p2)] := hl
  refine w_start (A0 := A) hP (fun H locs hP hS => ?_)
  refine lv_aload_n hx hb dX11_other_0 rfl (lv_at hl 0 rfl) ?_
  refine lv_iconst (v := 1) hx hb dX11_other_1 (by decide) ?_
  refine lv_iload_n hx hb dX11_other_2 rfl (lv_at hl 1 rfl) ?_
  refine cg (wc := [(o, .inr (11, (moF a))), ((a 3), .inl (Y 0, 3, .inl (fun _ => 0)))]) (wr := []) [0, 1] [] (rn_V (As := [.int 1, .int p0]) (rest := []) (b := o) (m_isText1 l D Y Z H.size o a p0) ⟨hx, hb, hml, hown, hg⟩ lk_X11_366 ⟨CP.blind, va_recv hKN.1 hP (ci := 11) (q0 := 0) rfl rfl, CP.at (hP.sub [0, 1] rfl) hKN (hD.sub [0, 1] (by decide) rfl)⟩ ⟨⟨rfl, rfl⟩, ⟨Nat.le_of_ble_eq_true rfl, Nat.le_of_ble_eq_true rfl⟩, ⟨Nat.le_of_ble_eq_true rfl, Nat.le_of_ble_eq_true rfl⟩⟩ hl.1 rfl (Nat.le_of_ble_eq_true rfl) dX11_other_3) hP hD hS hA rfl rfl (by decide) (by decide) (fun u1 H locs w2 hP hD hS => ?_)
  refine W.eq (g2 := F0 m 6 ls [.int 0]) rfl ?_
  have hP : va_P D vwCl [(o, .inr (11, (moF a))), ((a 3), .inl (Y 0, 3, .inl (fun _ => 0)))] H := hP
  have hD : va_D A [(o, .inr (11, (moF a))), ((a 3), .inl (Y 0, 3, .inl (fun _ => 0)))] := hD
  refine lv_if_eq (tgt := 27) hx hb dX11_other_6 (by decide) (fun c3 => ?_) (fun c3 => ?_)
  rotate_left
  · exact absurd c3 (by decide)
  refine lv_bipush (v := (-3)) hx hb dX11_other_27 (by decide) ?_
  refine W.widen (k := 0) (n := 0) (Nat.le_of_ble_eq_true rfl) (Nat.le_of_ble_eq_true rfl) ?_
  exact W.iret (v := (-3)) hx hb hr (fun t ht hW => ⟨⟨(), rfl, trivial, CB.nil⟩, hS.F ht⟩) hS.2.2 dX11_other_29
set_option maxHeartbeats 4000000 in
set_option maxRecDepth 100000 in
theorem x_fold (l : Launch) (D : va_G) (Y : Nat → ClassId) (Z : Nat → Nat) (sz : Nat) (o : Nat) (b : Nat → Nat) (p0 p1 p2 p3 p4 : Int32) : Met l yX10_fold (.code yX10_fold cX10_fold 7 (some .long) :: GW) ({ frames := 2, cells := 0, slots := 0, locals := 42 }) (va_Pc [.ref o, .int p0, .int p1, .int p2, .int p3, .int p4] (CP D Y Z [(o, .inr (10, (dsF b))), ((b 0), .inr (6, (skF b)))] sz)) (QG (S := Unit) (fun _ => some (.long (-1000000000))) (fun _ => True) (fun u => CB D ((fun _ => []) u) (va_A [(o, .inr (10, (dsF b))), ((b 0), .inr (6, (skF b)))] sz)) (va_A [(o, .inr (10, (dsF b))), ((b 0), .inr (6, (skF b)))] sz)) 0 0 (va_A [(o, .inr (10, (dsF b))), ((b 0), .inr (6, (skF b)))] sz) := by
  refine Met.ofW (cc := cX10_fold) (maxL := 7) (ret := (some .long)) (by decide) rfl ?_
  intro p e s m args below meth c s₁ B hml hv
  obtain ⟨rfl, hsz, hP, hKN, hD0⟩ := hv
  have hx := B.exec
  have hb := B.bytes
  have hr := B.returns
  have hts := atoms_spec (ws := .code yX10_fold cX10_fold 7 (some .long) :: GW) B.pre
  have hg : ∀ w ∈ GW, w.before _ s = true := fun w h => hts w (List.mem_cons_of_mem _ h)
  have hown : s.vm.findClass RX10 = some m.cls := findClass_of_methodNamed B.named
  have hlocks := B.notSynchronized
  subst hsz
  have hD := hD0.self (sz := s.heap.size)
  generalize hAe : va_A [(o, .inr (10, (dsF b))), ((b 0), .inr (6, (skF b)))] s.heap.size = A at hD ⊢
  have hA : ∀ q : Nat, s.heap.size ≤ q → A q := fun q h => by rw [← hAe]; exact Or.inr h
  have hl := lv_entry ([.ref o, .int p0, .int p1, .int p2, .int p3, .int p4]) (n := 7) (Nat.le_of_ble_eq_true rfl)
  rw [lg_entry_eq]
  generalize (lg_sl ([.ref o, .int p0, .int p1, .int p2, .int p3, .int p4]) ++ List.replicate (7 - (lg_sl ([.ref o, .int p0, .int p1, .int p2, .int p3, .int p4])).length) Slot.unset).toArray = ls at hl ⊢
  have hl : lv_has ls 7 [(0, .ref o), (1, .int p0), (2, .int p1), (3, .int p2), (4, .int p3), (5, .int p4)] := hl
  refine w_start (A0 := A) hP (fun H locs hP hS => ?_)
  refine lv_iload_n hx hb dX10_fold_0 rfl (lv_at hl 3 rfl) ?_
  refine cg0 (rn_S (As := [.int p2]) (rest := []) (c_isBeat l D Y Z H.size p2) ⟨hx, hb, hml, hown, hg⟩ lk_X10_234 ⟨CP.blind, CP.at nilP hKN (nilD (A := fun _ => True))⟩ ⟨⟨rfl, rfl⟩, ⟨Nat.le_of_ble_eq_true rfl, Nat.le_of_ble_eq_true rfl⟩, ⟨Nat.le_of_ble_eq_true rfl, Nat.le_of_ble_eq_true rfl⟩⟩ hl.1 rfl (Nat.le_of_ble_eq_true rfl) dX10_fold_1) hP hS hA (fun u1 H locs w2 hP hS => ?_)
  rcases w2 with ⟨w2, rfl⟩ | ⟨w2, rfl⟩
  · skip
    refine W.eq (g2 := F0 m 4 ls [.int 1]) rfl ?_
    refine lv_if_eq (tgt := 23) hx hb dX10_fold_4 (by decide) (fun c3 => ?_) (fun c3 => ?_)
    · exact absurd c3 (by decide)
    refine lv_iload hx hb dX10_fold_7 (lv_at hl 4 rfl) ?_
    refine lv_iconst (v := 0) hx hb dX10_fold_9 (by decide) ?_
    refine lv_iload_n hx hb dX10_fold_10 rfl (lv_at hl 3 rfl) ?_
    refine lv_iconst (v := 1) hx hb dX10_fold_11 (by decide) ?_
    refine lv_isub hx hb dX10_fold_12 ?_
    refine lv_topi (fun v4 ev4 => ?_)
    have hv4 := i_sub (Eq.refl (p2).toInt) (show (1 : Int32).toInt = 1 by decide) ev4 (by omega) (by omega)
    refine cg0 (rn_S (As := [.int p3, .int 0, .int v4]) (rest := []) (c_isWithin l D Y Z H.size p3 0 v4 (0) (v4).toInt (by decide) rfl) ⟨hx, hb, hml, hown, hg⟩ lk_X10_100 ⟨CP.blind, CP.at nilP hKN (nilD (A := fun _ => True))⟩ ⟨⟨rfl, rfl⟩, ⟨Nat.le_of_ble_eq_true rfl, Nat.le_of_ble_eq_true rfl⟩, ⟨Nat.le_of_ble_eq_true rfl, Nat.le_of_ble_eq_true rfl⟩⟩ hl.1 rfl (Nat.le_of_ble_eq_true rfl) dX10_fold_13) hP hS hA (fun u5 H locs w6 hP hS => ?_)
    rcases w6 with ⟨w6, rfl⟩ | ⟨w6, rfl⟩
    · skip
      refine W.eq (g2 := F0 m 16 ls [.int 1]) rfl ?_
      refine lv_if_eq (tgt := 23) hx hb dX10_fold_16 (by decide) (fun c7 => ?_) (fun c7 => ?_)
      · exact absurd c7 (by decide)
      refine lv_iconst (v := 1) hx hb dX10_fold_19 (by decide) ?_
      refine lv_goto (tgt := 24) hx hb dX10_fold_20 (by decide) ?_
      refine lv_istore (lv' := [(6, .int 1), (0, .ref o), (1, .int p0), (2, .int p1), (3, .int p2), (4, .int p3), (5, .int p4)]) hx hb dX10_fold_24 hl (by decide) rfl (fun ls hl => ?_)
      refine lv_aload_n hx hb dX10_fold_26 rfl (lv_at hl 1 rfl) ?_
      refine lv_iload_n hx hb dX10_fold_27 rfl (lv_at hl 2 rfl) ?_
      refine cg (wc := [(o, .inr (10, (dsF b))), ((b 0), .inr (6, (skF b)))]) (wr := []) [0, 1] [] (rn_V (As := [.int p0]) (rest := []) (b := o) (c_isStar l D Y Z H.size o b p0) ⟨hx, hb, hml, hown, hg⟩ lk_X10_137 ⟨CP.blind, va_recv hKN.1 hP (ci := 10) (q0 := 0) rfl rfl, CP.at (hP.sub [0, 1] rfl) hKN (hD.sub [0, 1] (by decide) rfl)⟩ ⟨⟨rfl, rfl⟩, ⟨Nat.le_of_ble_eq_true rfl, Nat.le_of_ble_eq_true rfl⟩, ⟨Nat.le_of_ble_eq_true rfl, Nat.le_of_ble_eq_true rfl⟩⟩ hl.1 rfl (Nat.le_of_ble_eq_true rfl) dX10_fold_28) hP hD hS hA rfl rfl (by decide) (by decide) (fun u8 H locs w9 hP hD hS => ?_)
      refine W.eq (g2 := F0 m 31 ls [.int 0]) rfl ?_
      have hP : va_P D vwCl [(o, .inr (10, (dsF b))), ((b 0), .inr (6, (skF b)))] H := hP
      have hD : va_D A [(o, .inr (10, (dsF b))), ((b 0), .inr (6, (skF b)))] := hD
      refine lv_if_eq (tgt := 56) hx hb dX10_fold_31 (by decide) (fun c10 => ?_) (fun c10 => ?_)
      rotate_left
      · exact absurd c10 (by decide)
      refine lv_ldc2 (v := (-1000000000)) hx hb hown (hg _ kw_1155) dX10_fold_56 ?_
      refine W.widen (k := 0) (n := 0) (Nat.le_of_ble_eq_true rfl) (Nat.le_of_ble_eq_true rfl) ?_
      exact W.lret (v := (-1000000000)) hx hb hr (fun t ht hW => ⟨⟨(), rfl, trivial, CB.nil⟩, hS.F ht⟩) hS.2.2 dX10_fold_59
    · skip
      refine W.eq (g2 := F0 m 16 ls [.int 0]) rfl ?_
      refine lv_if_eq (tgt := 23) hx hb dX10_fold_16 (by decide) (fun c11 => ?_) (fun c11 => ?_)
      rotate_left
      · exact absurd c11 (by decide)
      refine lv_iconst (v := 0) hx hb dX10_fold_23 (by decide) ?_
      refine lv_istore (lv' := [(6, .int 0), (0, .ref o), (1, .int p0), (2, .int p1), (3, .int p2), (4, .int p3), (5, .int p4)]) hx hb dX10_fold_24 hl (by decide) rfl (fun ls hl => ?_)
      refine lv_aload_n hx hb dX10_fold_26 rfl (lv_at hl 1 rfl) ?_
      refine lv_iload_n hx hb dX10_fold_27 rfl (lv_at hl 2 rfl) ?_
      refine cg (wc := [(o, .inr (10, (dsF b))), ((b 0), .inr (6, (skF b)))]) (wr := []) [0, 1] [] (rn_V (As := [.int p0]) (rest := []) (b := o) (c_isStar l D Y Z H.size o b p0) ⟨hx, hb, hml, hown, hg⟩ lk_X10_137 ⟨CP.blind, va_recv hKN.1 hP (ci := 10) (q0 := 0) rfl rfl, CP.at (hP.sub [0, 1] rfl) hKN (hD.sub [0, 1] (by decide) rfl)⟩ ⟨⟨rfl, rfl⟩, ⟨Nat.le_of_ble_eq_true rfl, Nat.le_of_ble_eq_true rfl⟩, ⟨Nat.le_of_ble_eq_true rfl, Nat.le_of_ble_eq_true rfl⟩⟩ hl.1 rfl (Nat.le_of_ble_eq_true rfl) dX10_fold_28) hP hD hS hA rfl rfl (by decide) (by decide) (fun u12 H locs w13 hP hD hS => ?_)
      refine W.eq (g2 := F0 m 31 ls [.int 0]) rfl ?_
      have hP : va_P D vwCl [(o, .inr (10, (dsF b))), ((b 0), .inr (6, (skF b)))] H := hP
      have hD : va_D A [(o, .inr (10, (dsF b))), ((b 0), .inr (6, (skF b)))] := hD
      refine lv_if_eq (tgt := 56) hx hb dX10_fold_31 (by decide) (fun c14 => ?_) (fun c14 => ?_)
      rotate_left
      · exact absurd c14 (by decide)
      refine lv_ldc2 (v := (-1000000000)) hx hb hown (hg _ kw_1155) dX10_fold_56 ?_
      refine W.widen (k := 0) (n := 0) (Nat.le_of_ble_eq_true rfl) (Nat.le_of_ble_eq_true rfl) ?_
      exact W.lret (v := (-1000000000)) hx hb hr (fun t ht hW => ⟨⟨(), rfl, trivial, CB.nil⟩, hS.F ht⟩) hS.2.2 dX10_fold_59
  · skip
    refine W.eq (g2 := F0 m 4 ls [.int 0]) rfl ?_
    refine lv_if_eq (tgt := 23) hx hb dX10_fold_4 (by decide) (fun c15 => ?_) (fun c15 => ?_)
    rotate_left
    · exact absurd c15 (by decide)
    refine lv_iconst (v := 0) hx hb dX10_fold_23 (by decide) ?_
    refine lv_istore (lv' := [(6, .int 0), (0, .ref o), (1, .int p0), (2, .int p1), (3, .int p2), (4, .int p3), (5, .int p4)]) hx hb dX10_fold_24 hl (by decide) rfl (fun ls hl => ?_)
    refine lv_aload_n hx hb dX10_fold_26 rfl (lv_at hl 1 rfl) ?_
    refine lv_iload_n hx hb dX10_fold_27 rfl (lv_at hl 2 rfl) ?_
    refine cg (wc := [(o, .inr (10, (dsF b))), ((b 0), .inr (6, (skF b)))]) (wr := []) [0, 1] [] (rn_V (As := [.int p0]) (rest := []) (b := o) (c_isStar l D Y Z H.size o b p0) ⟨hx, hb, hml, hown, hg⟩ lk_X10_137 ⟨CP.blind, va_recv hKN.1 hP (ci := 10) (q0 := 0) rfl rfl, CP.at (hP.sub [0, 1] rfl) hKN (hD.sub [0, 1] (by decide) rfl)⟩ ⟨⟨rfl, rfl⟩, ⟨Nat.le_of_ble_eq_true rfl, Nat.le_of_ble_eq_true rfl⟩, ⟨Nat.le_of_ble_eq_true rfl, Nat.le_of_ble_eq_true rfl⟩⟩ hl.1 rfl (Nat.le_of_ble_eq_true rfl) dX10_fold_28) hP hD hS hA rfl rfl (by decide) (by decide) (fun u16 H locs w17 hP hD hS => ?_)
    refine W.eq (g2 := F0 m 31 ls [.int 0]) rfl ?_
    have hP : va_P D vwCl [(o, .inr (10, (dsF b))), ((b 0), .inr (6, (skF b)))] H := hP
    have hD : va_D A [(o, .inr (10, (dsF b))), ((b 0), .inr (6, (skF b)))] := hD
    refine lv_if_eq (tgt := 56) hx hb dX10_fold_31 (by decide) (fun c18 => ?_) (fun c18 => ?_)
    rotate_left
    · exact absurd c18 (by decide)
    refine lv_ldc2 (v := (-1000000000)) hx hb hown (hg _ kw_1155) dX10_fold_56 ?_
    refine W.widen (k := 0) (n := 0) (Nat.le_of_ble_eq_true rfl) (Nat.le_of_ble_eq_true rfl) ?_
    exact W.lret (v := (-1000000000)) hx hb hr (fun t ht hW => ⟨⟨(), rfl, trivial, CB.nil⟩, hS.F ht⟩) hS.2.2 dX10_fold_59
