set_option maxHeartbeats 4000000 in
set_option maxRecDepth 100000 in
theorem y_at (l : Launch) (D : va_G) (Y : Nat → ClassId) (Z : Nat → Nat) (sz : Nat) (o : Nat) (a : Nat → Nat) (p0 p1 p2 : Int32) : Met l yX11_at (.code yX11_at cX11_at 4 (some .int) :: GW) ({ frames := 1, cells := 0, slots := 0, locals := 21 }) (va_Pc [.ref o, .int p0, .int p1, .int p2] (CP D Y Z [(o, .inr (11, (moF a))), ((a 0), .inl (Y 0, 7533, .inl tolF))] sz)) (QG (S := Unit) (fun _ => some (.int (-200000))) (fun _ => True) (fun u => CB D ((fun _ => []) u) (va_A [(o, .inr (11, (moF a))), ((a 0), .inl (Y 0, 7533, .inl tolF))] sz)) (va_A [(o, .inr (11, (moF a))), ((a 0), .inl (Y 0, 7533, .inl tolF))] sz)) 0 0 (va_A [(o, .inr (11, (moF a))), ((a 0), .inl (Y 0, 7533, .inl tolF))] sz) := by
  refine Met.ofW (cc := cX11_at) (maxL := 4) (ret := (some .int)) (by decide) rfl ?_
  intro p e s m args below meth c s₁ B hml hv
  obtain ⟨rfl, hsz, hP, hKN, hD0⟩ := hv
  have hx := B.exec
  have hb := B.bytes
  have hr := B.returns
  have hts := atoms_spec (ws := .code yX11_at cX11_at 4 (some .int) :: GW) B.pre
  have hg : ∀ w ∈ GW, w.before _ s = true := fun w h => hts w (List.mem_cons_of_mem _ h)
  have hown : s.vm.findClass RX11 = some m.cls := findClass_of_methodNamed B.named
  have hlocks := B.notSynchronized
  subst hsz
  have hD := hD0.self (sz := s.heap.size)
  generalize hAe : va_A [(o, .inr (11, (moF a))), ((a 0), .inl (Y 0, 7533, .inl tolF))] s.heap.size = A at hD ⊢
  have hA : ∀ q : Nat, s.heap.size ≤ q → A q := fun q h => by rw [← hAe]; exact Or.inr h
  have hl := lv_entry ([.ref o, .int p0, .int p1, .int p2]) (n := 4) (Nat.le_of_ble_eq_true rfl)
  rw [lg_entry_eq]
  generalize (lg_sl ([.ref o, .int p0, .int p1, .int p2]) ++ List.replicate (4 - (lg_sl ([.ref o, .int p0, .int p1, .int p2])).length) Slot.unset).toArray = ls at hl ⊢
  have hl : lv_has ls 4 [(0, .ref o), (1, .int p0), (2, .int p1), (3, .int p2)] := hl
  refine w_start (A0 := A) hP (fun H locs hP hS => ?_)
  refine lv_aload_n hx hb dX11_at_0 rfl (lv_at hl 0 rfl) ?_
  refine lv_iload_n hx hb dX11_at_1 rfl (lv_at hl 1 rfl) ?_
  refine cg (wc := [(o, .inr (11, (moF a))), ((a 0), .inl (Y 0, 7533, .inl tolF))]) (wr := []) [0, 1] [] (rn_V (As := [.int p0]) (rest := []) (b := o) (m_isStar l D Y Z H.size o a p0) ⟨hx, hb, hml, hown, hg⟩ lk_X11_108 ⟨CP.blind, va_recv hKN.1 hP (ci := 11) (q0 := 0) rfl rfl, CP.at (hP.sub [0, 1] rfl) hKN (hD.sub [0, 1] (by decide) rfl)⟩ ⟨⟨rfl, rfl⟩, ⟨Nat.le_of_ble_eq_true rfl, Nat.le_of_ble_eq_true rfl⟩, ⟨Nat.le_of_ble_eq_true rfl, Nat.le_of_ble_eq_true rfl⟩⟩ hl.1 rfl (Nat.le_of_ble_eq_true rfl) dX11_at_2) hP hD hS hA rfl rfl (by decide) (by decide) (fun u1 H locs w2 hP hD hS => ?_)
  refine W.eq (g2 := F0 m 5 ls [.int 0]) rfl ?_
  have hP : va_P D vwCl [(o, .inr (11, (moF a))), ((a 0), .inl (Y 0, 7533, .inl tolF))] H := hP
  have hD : va_D A [(o, .inr (11, (moF a))), ((a 0), .inl (Y 0, 7533, .inl tolF))] := hD
  refine lv_if_eq (tgt := 27) hx hb dX11_at_5 (by decide) (fun c3 => ?_) (fun c3 => ?_)
  rotate_left
  · exact absurd c3 (by decide)
  refine lv_ldc (v := (-200000)) hx hb hown (hg _ kw_1381) dX11_at_27 ?_
  refine W.widen (k := 0) (n := 0) (Nat.le_of_ble_eq_true rfl) (Nat.le_of_ble_eq_true rfl) ?_
  exact W.iret (v := (-200000)) hx hb hr (fun t ht hW => ⟨⟨(), rfl, trivial, CB.nil⟩, hS.F ht⟩) hS.2.2 dX11_at_29
set_option maxHeartbeats 4000000 in
set_option maxRecDepth 100000 in
theorem x_world (l : Launch) (D : va_G) (Y : Nat → ClassId) (Z : Nat → Nat) (sz : Nat) (o : Nat) (b : Nat → Nat) (p0 p1 p2 p3 p4 p5 : Int32) : Met l yX10_world (.code yX10_world cX10_world 9 (some .int) :: GW) ({ frames := 2, cells := 0, slots := 0, locals := 42 }) (va_Pc [.ref o, .int p0, .int p1, .int p2, .int p3, .int p4, .int p5] (CP D Y Z [(o, .inr (10, (dsF b))), ((b 0), .inr (6, (skF b)))] sz)) (QG (S := Unit) (fun _ => some (.int (-1))) (fun _ => True) (fun u => CB D ((fun _ => []) u) (va_A [(o, .inr (10, (dsF b))), ((b 0), .inr (6, (skF b)))] sz)) (va_A [(o, .inr (10, (dsF b))), ((b 0), .inr (6, (skF b)))] sz)) 0 0 (va_A [(o, .inr (10, (dsF b))), ((b 0), .inr (6, (skF b)))] sz) := by
  refine Met.ofW (cc := cX10_world) (maxL := 9) (ret := (some .int)) (by decide) rfl ?_
  intro p e s m args below meth c s₁ B hml hv
  obtain ⟨rfl, hsz, hP, hKN, hD0⟩ := hv
  have hx := B.exec
  have hb := B.bytes
  have hr := B.returns
  have hts := atoms_spec (ws := .code yX10_world cX10_world 9 (some .int) :: GW) B.pre
  have hg : ∀ w ∈ GW, w.before _ s = true := fun w h => hts w (List.mem_cons_of_mem _ h)
  have hown : s.vm.findClass RX10 = some m.cls := findClass_of_methodNamed B.named
  have hlocks := B.notSynchronized
  subst hsz
  have hD := hD0.self (sz := s.heap.size)
  generalize hAe : va_A [(o, .inr (10, (dsF b))), ((b 0), .inr (6, (skF b)))] s.heap.size = A at hD ⊢
  have hA : ∀ q : Nat, s.heap.size ≤ q → A q := fun q h => by rw [← hAe]; exact Or.inr h
  have hl := lv_entry ([.ref o, .int p0, .int p1, .int p2, .int p3, .int p4, .int p5]) (n := 9) (Nat.le_of_ble_eq_true rfl)
  rw [lg_entry_eq]
  generalize (lg_sl ([.ref o, .int p0, .int p1, .int p2, .int p3, .int p4, .int p5]) ++ List.replicate (9 - (lg_sl ([.ref o, .int p0, .int p1, .int p2, .int p3, .int p4, .int p5])).length) Slot.unset).toArray = ls at hl ⊢
  have hl : lv_has ls 9 [(0, .ref o), (1, .int p0), (2, .int p1), (3, .int p2), (4, .int p3), (5, .int p4), (6, .int p5)] := hl
  refine w_start (A0 := A) hP (fun H locs hP hS => ?_)
  refine lv_iload_n hx hb dX10_world_0 rfl (lv_at hl 2 rfl) ?_
  refine lv_iconst (v := 2) hx hb dX10_world_1 (by decide) ?_
  refine lv_sipush (v := 599) hx hb dX10_world_2 (by decide) ?_
  refine cg0 (rn_S (As := [.int p1, .int 2, .int 599]) (rest := []) (c_isWithin l D Y Z H.size p1 2 599 (2) (599) (by decide) (by decide)) ⟨hx, hb, hml, hown, hg⟩ lk_X10_100 ⟨CP.blind, CP.at nilP hKN (nilD (A := fun _ => True))⟩ ⟨⟨rfl, rfl⟩, ⟨Nat.le_of_ble_eq_true rfl, Nat.le_of_ble_eq_true rfl⟩, ⟨Nat.le_of_ble_eq_true rfl, Nat.le_of_ble_eq_true rfl⟩⟩ hl.1 rfl (Nat.le_of_ble_eq_true rfl) dX10_world_5) hP hS hA (fun u1 H locs w2 hP hS => ?_)
  rcases w2 with ⟨w2, rfl⟩ | ⟨w2, rfl⟩
  · skip
    refine W.eq (g2 := F0 m 8 ls [.int 1]) rfl ?_
    refine lv_if_eq (tgt := 22) hx hb dX10_world_8 (by decide) (fun c3 => ?_) (fun c3 => ?_)
    · exact absurd c3 (by decide)
    refine lv_iload_n hx hb dX10_world_11 rfl (lv_at hl 3 rfl) ?_
    refine cg0 (rn_S (As := [.int p2]) (rest := []) (c_isHour l D Y Z H.size p2) ⟨hx, hb, hml, hown, hg⟩ lk_X10_113 ⟨CP.blind, CP.at nilP hKN (nilD (A := fun _ => True))⟩ ⟨⟨rfl, rfl⟩, ⟨Nat.le_of_ble_eq_true rfl, Nat.le_of_ble_eq_true rfl⟩, ⟨Nat.le_of_ble_eq_true rfl, Nat.le_of_ble_eq_true rfl⟩⟩ hl.1 rfl (Nat.le_of_ble_eq_true rfl) dX10_world_12) hP hS hA (fun u4 H locs w5 hP hS => ?_)
    rcases w5 with ⟨w5, rfl⟩ | ⟨w5, rfl⟩
    · skip
      refine W.eq (g2 := F0 m 15 ls [.int 1]) rfl ?_
      refine lv_if_eq (tgt := 22) hx hb dX10_world_15 (by decide) (fun c6 => ?_) (fun c6 => ?_)
      · exact absurd c6 (by decide)
      refine lv_iconst (v := 1) hx hb dX10_world_18 (by decide) ?_
      refine lv_goto (tgt := 23) hx hb dX10_world_19 (by decide) ?_
      refine lv_istore (lv' := [(7, .int 1), (0, .ref o), (1, .int p0), (2, .int p1), (3, .int p2), (4, .int p3), (5, .int p4), (6, .int p5)]) hx hb dX10_world_23 hl (by decide) rfl (fun ls hl => ?_)
      refine lv_iload hx hb dX10_world_25 (lv_at hl 5 rfl) ?_
      refine lv_iconst (v := 1) hx hb dX10_world_27 (by decide) ?_
      refine lv_bipush (v := 30) hx hb dX10_world_28 (by decide) ?_
      refine cg0 (rn_S (As := [.int p3, .int 1, .int 30]) (rest := []) (c_isWithin l D Y Z H.size p3 1 30 (1) (30) (by decide) (by decide)) ⟨hx, hb, hml, hown, hg⟩ lk_X10_100 ⟨CP.blind, CP.at nilP hKN (nilD (A := fun _ => True))⟩ ⟨⟨rfl, rfl⟩, ⟨Nat.le_of_ble_eq_true rfl, Nat.le_of_ble_eq_true rfl⟩, ⟨Nat.le_of_ble_eq_true rfl, Nat.le_of_ble_eq_true rfl⟩⟩ hl.1 rfl (Nat.le_of_ble_eq_true rfl) dX10_world_30) hP hS hA (fun u7 H locs w8 hP hS => ?_)
      rcases w8 with ⟨w8, rfl⟩ | ⟨w8, rfl⟩
      · skip
        refine W.eq (g2 := F0 m 33 ls [.int 1]) rfl ?_
        refine lv_if_eq (tgt := 58) hx hb dX10_world_33 (by decide) (fun c9 => ?_) (fun c9 => ?_)
        · exact absurd c9 (by decide)
        refine lv_iload hx hb dX10_world_36 (lv_at hl 5 rfl) ?_
        refine lv_iload_n hx hb dX10_world_38 rfl (lv_at hl 3 rfl) ?_
        refine lv_icmp_ge (tgt := 58) hx hb dX10_world_39 (by decide) (fun c10 => ?_) (fun c10 => ?_)
        · skip
          have c10 := i_le (Eq.refl (p1).toInt) (Eq.refl (p3).toInt) c10
          refine lv_iconst (v := 0) hx hb dX10_world_58 (by decide) ?_
          refine lv_istore (lv' := [(8, .int 0), (7, .int 1), (0, .ref o), (1, .int p0), (2, .int p1), (3, .int p2), (4, .int p3), (5, .int p4), (6, .int p5)]) hx hb dX10_world_59 hl (by decide) rfl (fun ls hl => ?_)
          refine lv_aload_n hx hb dX10_world_61 rfl (lv_at hl 2 rfl) ?_
          refine lv_iload_n hx hb dX10_world_62 rfl (lv_at hl 3 rfl) ?_
          refine cg (wc := [(o, .inr (10, (dsF b))), ((b 0), .inr (6, (skF b)))]) (wr := []) [0, 1] [] (rn_V (As := [.int p0]) (rest := []) (b := o) (c_isStar l D Y Z H.size o b p0) ⟨hx, hb, hml, hown, hg⟩ lk_X10_137 ⟨CP.blind, va_recv hKN.1 hP (ci := 10) (q0 := 0) rfl rfl, CP.at (hP.sub [0, 1] rfl) hKN (hD.sub [0, 1] (by decide) rfl)⟩ ⟨⟨rfl, rfl⟩, ⟨Nat.le_of_ble_eq_true rfl, Nat.le_of_ble_eq_true rfl⟩, ⟨Nat.le_of_ble_eq_true rfl, Nat.le_of_ble_eq_true rfl⟩⟩ hl.1 rfl (Nat.le_of_ble_eq_true rfl) dX10_world_63) hP hD hS hA rfl rfl (by decide) (by decide) (fun u11 H locs w12 hP hD hS => ?_)
          refine W.eq (g2 := F0 m 66 ls [.int 0]) rfl ?_
          have hP : va_P D vwCl [(o, .inr (10, (dsF b))), ((b 0), .inr (6, (skF b)))] H := hP
          have hD : va_D A [(o, .inr (10, (dsF b))), ((b 0), .inr (6, (skF b)))] := hD
          refine lv_if_eq (tgt := 91) hx hb dX10_world_66 (by decide) (fun c13 => ?_) (fun c13 => ?_)
          rotate_left
          · exact absurd c13 (by decide)
          refine lv_iconst (v := (-1)) hx hb dX10_world_91 (by decide) ?_
          refine W.widen (k := 0) (n := 0) (Nat.le_of_ble_eq_true rfl) (Nat.le_of_ble_eq_true rfl) ?_
          exact W.iret (v := (-1)) hx hb hr (fun t ht hW => ⟨⟨(), rfl, trivial, CB.nil⟩, hS.F ht⟩) hS.2.2 dX10_world_92
        · skip
          have c10 := i_nle (Eq.refl (p1).toInt) (Eq.refl (p3).toInt) c10
          refine lv_iload hx hb dX10_world_42 (lv_at hl 6 rfl) ?_
          refine lv_iconst (v := 1) hx hb dX10_world_44 (by decide) ?_
          refine lv_sipush (v := 30000) hx hb dX10_world_45 (by decide) ?_
          refine cg0 (rn_S (As := [.int p4, .int 1, .int 30000]) (rest := []) (c_isWithin l D Y Z H.size p4 1 30000 (1) (30000) (by decide) (by decide)) ⟨hx, hb, hml, hown, hg⟩ lk_X10_100 ⟨CP.blind, CP.at nilP hKN (nilD (A := fun _ => True))⟩ ⟨⟨rfl, rfl⟩, ⟨Nat.le_of_ble_eq_true rfl, Nat.le_of_ble_eq_true rfl⟩, ⟨Nat.le_of_ble_eq_true rfl, Nat.le_of_ble_eq_true rfl⟩⟩ hl.1 rfl (Nat.le_of_ble_eq_true rfl) dX10_world_48) hP hS hA (fun u14 H locs w15 hP hS => ?_)
          rcases w15 with ⟨w15, rfl⟩ | ⟨w15, rfl⟩
          · skip
            refine W.eq (g2 := F0 m 51 ls [.int 1]) rfl ?_
            refine lv_if_eq (tgt := 58) hx hb dX10_world_51 (by decide) (fun c16 => ?_) (fun c16 => ?_)
            · exact absurd c16 (by decide)
            refine lv_iconst (v := 1) hx hb dX10_world_54 (by decide) ?_
            refine lv_goto (tgt := 59) hx hb dX10_world_55 (by decide) ?_
            refine lv_istore (lv' := [(8, .int 1), (7, .int 1), (0, .ref o), (1, .int p0), (2, .int p1), (3, .int p2), (4, .int p3), (5, .int p4), (6, .int p5)]) hx hb dX10_world_59 hl (by decide) rfl (fun ls hl => ?_)
            refine lv_aload_n hx hb dX10_world_61 rfl (lv_at hl 2 rfl) ?_
            refine lv_iload_n hx hb dX10_world_62 rfl (lv_at hl 3 rfl) ?_
            refine cg (wc := [(o, .inr (10, (dsF b))), ((b 0), .inr (6, (skF b)))]) (wr := []) [0, 1] [] (rn_V (As := [.int p0]) (rest := []) (b := o) (c_isStar l D Y Z H.size o b p0) ⟨hx, hb, hml, hown, hg⟩ lk_X10_137 ⟨CP.blind, va_recv hKN.1 hP (ci := 10) (q0 := 0) rfl rfl, CP.at (hP.sub [0, 1] rfl) hKN (hD.sub [0, 1] (by decide) rfl)⟩ ⟨⟨rfl, rfl⟩, ⟨Nat.le_of_ble_eq_true rfl, Nat.le_of_ble_eq_true rfl⟩, ⟨Nat.le_of_ble_eq_true rfl, Nat.le_of_ble_eq_true rfl⟩⟩ hl.1 rfl (Nat.le_of_ble_eq_true rfl) dX10_world_63) hP hD hS hA rfl rfl (by decide) (by decide) (fun u17 H locs w18 hP hD hS => ?_)
            refine W.eq (g2 := F0 m 66 ls [.int 0]) rfl ?_
            have hP : va_P D vwCl [(o, .inr (10, (dsF b))), ((b 0), .inr (6, (skF b)))] H := hP
            have hD : va_D A [(o, .inr (10, (dsF b))), ((b 0), .inr (6, (skF b)))] := hD
            refine lv_if_eq (tgt := 91) hx hb dX10_world_66 (by decide) (fun c19 => ?_) (fun c19 => ?_)
            rotate_left
            · exact absurd c19 (by decide)
            refine lv_iconst (v := (-1)) hx hb dX10_world_91 (by decide) ?_
            refine W.widen (k := 0) (n := 0) (Nat.le_of_ble_eq_true rfl) (Nat.le_of_ble_eq_true rfl) ?_
            exact W.iret (v := (-1)) hx hb hr (fun t ht hW => ⟨⟨(), rfl, trivial, CB.nil⟩, hS.F ht⟩) hS.2.2 dX10_world_92
          · skip
            refine W.eq (g2 := F0 m 51 ls [.int 0]) rfl ?_
            refine lv_if_eq (tgt := 58) hx hb dX10_world_51 (by decide) (fun c20 => ?_) (fun c20 => ?_)
            rotate_left
            · exact absurd c20 (by decide)
            refine lv_iconst (v := 0) hx hb dX10_world_58 (by decide) ?_
            refine lv_istore (lv' := [(8, .int 0), (7, .int 1), (0, .ref o), (1, .int p0), (2, .int p1), (3, .int p2), (4, .int p3), (5, .int p4), (6, .int p5)]) hx hb dX10_world_59 hl (by decide) rfl (fun ls hl => ?_)
            refine lv_aload_n hx hb dX10_world_61 rfl (lv_at hl 2 rfl) ?_
            refine lv_iload_n hx hb dX10_world_62 rfl (lv_at hl 3 rfl) ?_
            refine cg (wc := [(o, .inr (10, (dsF b))), ((b 0), .inr (6, (skF b)))]) (wr := []) [0, 1] [] (rn_V (As := [.int p0]) (rest := []) (b := o) (c_isStar l D Y Z H.size o b p0) ⟨hx, hb, hml, hown, hg⟩ lk_X10_137 ⟨CP.blind, va_recv hKN.1 hP (ci := 10) (q0 := 0) rfl rfl, CP.at (hP.sub [0, 1] rfl) hKN (hD.sub [0, 1] (by decide) rfl)⟩ ⟨⟨rfl, rfl⟩, ⟨Nat.le_of_ble_eq_true rfl, Nat.le_of_ble_eq_true rfl⟩, ⟨Nat.le_of_ble_eq_true rfl, Nat.le_of_ble_eq_true rfl⟩⟩ hl.1 rfl (Nat.le_of_ble_eq_true rfl) dX10_world_63) hP hD hS hA rfl rfl (by decide) (by decide) (fun u21 H locs w22 hP hD hS => ?_)
            refine W.eq (g2 := F0 m 66 ls [.int 0]) rfl ?_
            have hP : va_P D vwCl [(o, .inr (10, (dsF b))), ((b 0), .inr (6, (skF b)))] H := hP
            have hD : va_D A [(o, .inr (10, (dsF b))), ((b 0), .inr (6, (skF b)))] := hD
            refine lv_if_eq (tgt := 91) hx hb dX10_world_66 (by decide) (fun c23 => ?_) (fun c23 => ?_)
            rotate_left
            · exact absurd c23 (by decide)
            refine lv_iconst (v := (-1)) hx hb dX10_world_91 (by decide) ?_
            refine W.widen (k := 0) (n := 0) (Nat.le_of_ble_eq_true rfl) (Nat.le_of_ble_eq_true rfl) ?_
            exact W.iret (v := (-1)) hx hb hr (fun t ht hW => ⟨⟨(), rfl, trivial, CB.nil⟩, hS.F ht⟩) hS.2.2 dX10_world_92
      · skip
        refine W.eq (g2 := F0 m 33 ls [.int 0]) rfl ?_
        refine lv_if_eq (tgt := 58) hx hb dX10_world_33 (by decide) (fun c24 => ?_) (fun c24 => ?_)
        rotate_left
        · exact absurd c24 (by decide)
        refine lv_iconst (v := 0) hx hb dX10_world_58 (by decide) ?_
        refine lv_istore (lv' := [(8, .int 0), (7, .int 1), (0, .ref o), (1, .int p0), (2, .int p1), (3, .int p2), (4, .int p3), (5, .int p4), (6, .int p5)]) hx hb dX10_world_59 hl (by decide) rfl (fun ls hl => ?_)
        refine lv_aload_n hx hb dX10_world_61 rfl (lv_at hl 2 rfl) ?_
        refine lv_iload_n hx hb dX10_world_62 rfl (lv_at hl 3 rfl) ?_
        refine cg (wc := [(o, .inr (10, (dsF b))), ((b 0), .inr (6, (skF b)))]) (wr := []) [0, 1] [] (rn_V (As := [.int p0]) (rest := []) (b := o) (c_isStar l D Y Z H.size o b p0) ⟨hx, hb, hml, hown, hg⟩ lk_X10_137 ⟨CP.blind, va_recv hKN.1 hP (ci := 10) (q0 := 0) rfl rfl, CP.at (hP.sub [0, 1] rfl) hKN (hD.sub [0, 1] (by decide) rfl)⟩ ⟨⟨rfl, rfl⟩, ⟨Nat.le_of_ble_eq_true rfl, Nat.le_of_ble_eq_true rfl⟩, ⟨Nat.le_of_ble_eq_true rfl, Nat.le_of_ble_eq_true rfl⟩⟩ hl.1 rfl (Nat.le_of_ble_eq_true rfl) dX10_world_63) hP hD hS hA rfl rfl (by decide) (by decide) (fun u25 H locs w26 hP hD hS => ?_)
        refine W.eq (g2 := F0 m 66 ls [.int 0]) rfl ?_
        have hP : va_P D vwCl [(o, .inr (10, (dsF b))), ((b 0), .inr (6, (skF b)))] H := hP
        have hD : va_D A [(o, .inr (10, (dsF b))), ((b 0), .inr (6, (skF b)))] := hD
        refine lv_if_eq (tgt := 91) hx hb dX10_world_66 (by decide) (fun c27 => ?_) (fun c27 => ?_)
        rotate_left
        · exact absurd c27 (by decide)
        refine lv_iconst (v := (-1)) hx hb dX10_world_91 (by decide) ?_
        refine W.widen (k := 0) (n := 0) (Nat.le_of_ble_eq_true rfl) (Nat.le_of_ble_eq_true rfl) ?_
        exact W.iret (v := (-1)) hx hb hr (fun t ht hW => ⟨⟨(), rfl, trivial, CB.nil⟩, hS.F ht⟩) hS.2.2 dX10_world_92
    · skip
      refine W.eq (g2 := F0 m 15 ls [.int 0]) rfl ?_
      refine lv_if_eq (tgt := 22) hx hb dX10_world_15 (by decide) (fun c28 => ?_) (fun c28 => ?_)
      rotate_left
      · exact absurd c28 (by decide)
      refine lv_iconst (v := 0) hx hb dX10_world_22 (by decide) ?_
      refine lv_istore (lv' := [(7, .int 0), (0, .ref o), (1, .int p0), (2, .int p1), (3, .int p2), (4, .int p3), (5, .int p4), (6, .int p5)]) hx hb dX10_world_23 hl (by decide) rfl (fun ls hl => ?_)
      refine lv_iload hx hb dX10_world_25 (lv_at hl 5 rfl) ?_
      refine lv_iconst (v := 1) hx hb dX10_world_27 (by decide) ?_
      refine lv_bipush (v := 30) hx hb dX10_world_28 (by decide) ?_
      refine cg0 (rn_S (As := [.int p3, .int 1, .int 30]) (rest := []) (c_isWithin l D Y Z H.size p3 1 30 (1) (30) (by decide) (by decide)) ⟨hx, hb, hml, hown, hg⟩ lk_X10_100 ⟨CP.blind, CP.at nilP hKN (nilD (A := fun _ => True))⟩ ⟨⟨rfl, rfl⟩, ⟨Nat.le_of_ble_eq_true rfl, Nat.le_of_ble_eq_true rfl⟩, ⟨Nat.le_of_ble_eq_true rfl, Nat.le_of_ble_eq_true rfl⟩⟩ hl.1 rfl (Nat.le_of_ble_eq_true rfl) dX10_world_30) hP hS hA (fun u29 H locs w30 hP hS => ?_)
      rcases w30 with ⟨w30, rfl⟩ | ⟨w30, rfl⟩
      · skip
        refine W.eq (g2 := F0 m 33 ls [.int 1]) rfl ?_
        refine lv_if_eq (tgt := 58) hx hb dX10_world_33 (by decide) (fun c31 => ?_) (fun c31 => ?_)
        · exact absurd c31 (by decide)
        refine lv_iload hx hb dX10_world_36 (lv_at hl 5 rfl) ?_
        refine lv_iload_n hx hb dX10_world_38 rfl (lv_at hl 3 rfl) ?_
        refine lv_icmp_ge (tgt := 58) hx hb dX10_world_39 (by decide) (fun c32 => ?_) (fun c32 => ?_)
        · skip
          have c32 := i_le (Eq.refl (p1).toInt) (Eq.refl (p3).toInt) c32
          refine lv_iconst (v := 0) hx hb dX10_world_58 (by decide) ?_
          refine lv_istore (lv' := [(8, .int 0), (7, .int 0), (0, .ref o), (1, .int p0), (2, .int p1), (3, .int p2), (4, .int p3), (5, .int p4), (6, .int p5)]) hx hb dX10_world_59 hl (by decide) rfl (fun ls hl => ?_)
          refine lv_aload_n hx hb dX10_world_61 rfl (lv_at hl 2 rfl) ?_
          refine lv_iload_n hx hb dX10_world_62 rfl (lv_at hl 3 rfl) ?_
          refine cg (wc := [(o, .inr (10, (dsF b))), ((b 0), .inr (6, (skF b)))]) (wr := []) [0, 1] [] (rn_V (As := [.int p0]) (rest := []) (b := o) (c_isStar l D Y Z H.size o b p0) ⟨hx, hb, hml, hown, hg⟩ lk_X10_137 ⟨CP.blind, va_recv hKN.1 hP (ci := 10) (q0 := 0) rfl rfl, CP.at (hP.sub [0, 1] rfl) hKN (hD.sub [0, 1] (by decide) rfl)⟩ ⟨⟨rfl, rfl⟩, ⟨Nat.le_of_ble_eq_true rfl, Nat.le_of_ble_eq_true rfl⟩, ⟨Nat.le_of_ble_eq_true rfl, Nat.le_of_ble_eq_true rfl⟩⟩ hl.1 rfl (Nat.le_of_ble_eq_true rfl) dX10_world_63) hP hD hS hA rfl rfl (by decide) (by decide) (fun u33 H locs w34 hP hD hS => ?_)
          refine W.eq (g2 := F0 m 66 ls [.int 0]) rfl ?_
          have hP : va_P D vwCl [(o, .inr (10, (dsF b))), ((b 0), .inr (6, (skF b)))] H := hP
          have hD : va_D A [(o, .inr (10, (dsF b))), ((b 0), .inr (6, (skF b)))] := hD
          refine lv_if_eq (tgt := 91) hx hb dX10_world_66 (by decide) (fun c35 => ?_) (fun c35 => ?_)
          rotate_left
          · exact absurd c35 (by decide)
          refine lv_iconst (v := (-1)) hx hb dX10_world_91 (by decide) ?_
          refine W.widen (k := 0) (n := 0) (Nat.le_of_ble_eq_true rfl) (Nat.le_of_ble_eq_true rfl) ?_
          exact W.iret (v := (-1)) hx hb hr (fun t ht hW => ⟨⟨(), rfl, trivial, CB.nil⟩, hS.F ht⟩) hS.2.2 dX10_world_92
        · skip
          have c32 := i_nle (Eq.refl (p1).toInt) (Eq.refl (p3).toInt) c32
          refine lv_iload hx hb dX10_world_42 (lv_at hl 6 rfl) ?_
          refine lv_iconst (v := 1) hx hb dX10_world_44 (by decide) ?_
          refine lv_sipush (v := 30000) hx hb dX10_world_45 (by decide) ?_
          refine cg0 (rn_S (As := [.int p4, .int 1, .int 30000]) (rest := []) (c_isWithin l D Y Z H.size p4 1 30000 (1) (30000) (by decide) (by decide)) ⟨hx, hb, hml, hown, hg⟩ lk_X10_100 ⟨CP.blind, CP.at nilP hKN (nilD (A := fun _ => True))⟩ ⟨⟨rfl, rfl⟩, ⟨Nat.le_of_ble_eq_true rfl, Nat.le_of_ble_eq_true rfl⟩, ⟨Nat.le_of_ble_eq_true rfl, Nat.le_of_ble_eq_true rfl⟩⟩ hl.1 rfl (Nat.le_of_ble_eq_true rfl) dX10_world_48) hP hS hA (fun u36 H locs w37 hP hS => ?_)
          rcases w37 with ⟨w37, rfl⟩ | ⟨w37, rfl⟩
          · skip
            refine W.eq (g2 := F0 m 51 ls [.int 1]) rfl ?_
            refine lv_if_eq (tgt := 58) hx hb dX10_world_51 (by decide) (fun c38 => ?_) (fun c38 => ?_)
            · exact absurd c38 (by decide)
            refine lv_iconst (v := 1) hx hb dX10_world_54 (by decide) ?_
            refine lv_goto (tgt := 59) hx hb dX10_world_55 (by decide) ?_
            refine lv_istore (lv' := [(8, .int 1), (7, .int 0), (0, .ref o), (1, .int p0), (2, .int p1), (3, .int p2), (4, .int p3), (5, .int p4), (6, .int p5)]) hx hb dX10_world_59 hl (by decide) rfl (fun ls hl => ?_)
            refine lv_aload_n hx hb dX10_world_61 rfl (lv_at hl 2 rfl) ?_
            refine lv_iload_n hx hb dX10_world_62 rfl (lv_at hl 3 rfl) ?_
            refine cg (wc := [(o, .inr (10, (dsF b))), ((b 0), .inr (6, (skF b)))]) (wr := []) [0, 1] [] (rn_V (As := [.int p0]) (rest := []) (b := o) (c_isStar l D Y Z H.size o b p0) ⟨hx, hb, hml, hown, hg⟩ lk_X10_137 ⟨CP.blind, va_recv hKN.1 hP (ci := 10) (q0 := 0) rfl rfl, CP.at (hP.sub [0, 1] rfl) hKN (hD.sub [0, 1] (by decide) rfl)⟩ ⟨⟨rfl, rfl⟩, ⟨Nat.le_of_ble_eq_true rfl, Nat.le_of_ble_eq_true rfl⟩, ⟨Nat.le_of_ble_eq_true rfl, Nat.le_of_ble_eq_true rfl⟩⟩ hl.1 rfl (Nat.le_of_ble_eq_true rfl) dX10_world_63) hP hD hS hA rfl rfl (by decide) (by decide) (fun u39 H locs w40 hP hD hS => ?_)
            refine W.eq (g2 := F0 m 66 ls [.int 0]) rfl ?_
            have hP : va_P D vwCl [(o, .inr (10, (dsF b))), ((b 0), .inr (6, (skF b)))] H := hP
            have hD : va_D A [(o, .inr (10, (dsF b))), ((b 0), .inr (6, (skF b)))] := hD
            refine lv_if_eq (tgt := 91) hx hb dX10_world_66 (by decide) (fun c41 => ?_) (fun c41 => ?_)
            rotate_left
            · exact absurd c41 (by decide)
            refine lv_iconst (v := (-1)) hx hb dX10_world_91 (by decide) ?_
            refine W.widen (k := 0) (n := 0) (Nat.le_of_ble_eq_true rfl) (Nat.le_of_ble_eq_true rfl) ?_
            exact W.iret (v := (-1)) hx hb hr (fun t ht hW => ⟨⟨(), rfl, trivial, CB.nil⟩, hS.F ht⟩) hS.2.2 dX10_world_92
          · skip
            refine W.eq (g2 := F0 m 51 ls [.int 0]) rfl ?_
            refine lv_if_eq (tgt := 58) hx hb dX10_world_51 (by decide) (fun c42 => ?_) (fun c42 => ?_)
            rotate_left
            · exact absurd c42 (by decide)
            refine lv_iconst (v := 0) hx hb dX10_world_58 (by decide) ?_
            refine lv_istore (lv' := [(8, .int 0), (7, .int 0), (0, .ref o), (1, .int p0), (2, .int p1), (3, .int p2), (4, .int p3), (5, .int p4), (6, .int p5)]) hx hb dX10_world_59 hl (by decide) rfl (fun ls hl => ?_)
            refine lv_aload_n hx hb dX10_world_61 rfl (lv_at hl 2 rfl) ?_
            refine lv_iload_n hx hb dX10_world_62 rfl (lv_at hl 3 rfl) ?_
            refine cg (wc := [(o, .inr (10, (dsF b))), ((b 0), .inr (6, (skF b)))]) (wr := []) [0, 1] [] (rn_V (As := [.int p0]) (rest := []) (b := o) (c_isStar l D Y Z H.size o b p0) ⟨hx, hb, hml, hown, hg⟩ lk_X10_137 ⟨CP.blind, va_recv hKN.1 hP (ci := 10) (q0 := 0) rfl rfl, CP.at (hP.sub [0, 1] rfl) hKN (hD.sub [0, 1] (by decide) rfl)⟩ ⟨⟨rfl, rfl⟩, ⟨Nat.le_of_ble_eq_true rfl, Nat.le_of_ble_eq_true rfl⟩, ⟨Nat.le_of_ble_eq_true rfl, Nat.le_of_ble_eq_true rfl⟩⟩ hl.1 rfl (Nat.le_of_ble_eq_true rfl) dX10_world_63) hP hD hS hA rfl rfl (by decide) (by decide) (fun u43 H locs w44 hP hD hS => ?_)
            refine W.eq (g2 := F0 m 66 ls [.int 0]) rfl ?_
            have hP : va_P D vwCl [(o, .inr (10, (dsF b))), ((b 0), .inr (6, (skF b)))] H := hP
            have hD : va_D A [(o, .inr (10, (dsF b))), ((b 0), .inr (6, (skF b)))] := hD
            refine lv_if_eq (tgt := 91) hx hb dX10_world_66 (by decide) (fun c45 => ?_) (fun c45 => ?_)
            rotate_left
            · exact absurd c45 (by decide)
            refine lv_iconst (v := (-1)) hx hb dX10_world_91 (by decide) ?_
            refine W.widen (k := 0) (n := 0) (Nat.le_of_ble_eq_true rfl) (Nat.le_of_ble_eq_true rfl) ?_
            exact W.iret (v := (-1)) hx hb hr (fun t ht hW => ⟨⟨(), rfl, trivial, CB.nil⟩, hS.F ht⟩) hS.2.2 dX10_world_92
      · skip
        refine W.eq (g2 := F0 m 33 ls [.int 0]) rfl ?_
        refine lv_if_eq (tgt := 58) hx hb dX10_world_33 (by decide) (fun c46 => ?_) (fun c46 => ?_)
        rotate_left
        · exact absurd c46 (by decide)
        refine lv_iconst (v := 0) hx hb dX10_world_58 (by decide) ?_
        refine lv_istore (lv' := [(8, .int 0), (7, .int 0), (0, .ref o), (1, .int p0), (2, .int p1), (3, .int p2), (4, .int p3), (5, .int p4), (6, .int p5)]) hx hb dX10_world_59 hl (by decide) rfl (fun ls hl => ?_)
        refine lv_aload_n hx hb dX10_world_61 rfl (lv_at hl 2 rfl) ?_
        refine lv_iload_n hx hb dX10_world_62 rfl (lv_at hl 3 rfl) ?_
        refine cg (wc := [(o, .inr (10, (dsF b))), ((b 0), .inr (6, (skF b)))]) (wr := []) [0, 1] [] (rn_V (As := [.int p0]) (rest := []) (b := o) (c_isStar l D Y Z H.size o b p0) ⟨hx, hb, hml, hown, hg⟩ lk_X10_137 ⟨CP.blind, va_recv hKN.1 hP (ci := 10) (q0 := 0) rfl rfl, CP.at (hP.sub [0, 1] rfl) hKN (hD.sub [0, 1] (by decide) rfl)⟩ ⟨⟨rfl, rfl⟩, ⟨Nat.le_of_ble_eq_true rfl, Nat.le_of_ble_eq_true rfl⟩, ⟨Nat.le_of_ble_eq_true rfl, Nat.le_of_ble_eq_true rfl⟩⟩ hl.1 rfl (Nat.le_of_ble_eq_true rfl) dX10_world_63) hP hD hS hA rfl rfl (by decide) (by decide) (fun u47 H locs w48 hP hD hS => ?_)
        refine W.eq (g2 := F0 m 66 ls [.int 0]) rfl ?_
        have hP : va_P D vwCl [(o, .inr (10, (dsF b))), ((b 0), .inr (6, (skF b)))] H := hP
        have hD : va_D A [(o, .inr (10, (dsF b))), ((b 0), .inr (6, (skF b)))] := hD
        refine lv_if_eq (tgt := 91) hx hb dX10_world_66 (by decide) (fun c49 => ?_) (fun c49 => ?_)
        rotate_left
        · exact absurd c49 (by decide)
        refine lv_iconst (v := (-1)) hx hb dX10_world_91 (by decide) ?_
        refine W.widen (k := 0) (n := 0) (Nat.le_of_ble_eq_true rfl) (Nat.le_of_ble_eq_true rfl) ?_
        exact W.iret (v := (-1)) hx hb hr (fun t ht hW => ⟨⟨(), rfl, trivial, CB.nil⟩, hS.F ht⟩) hS.2.2 dX10_world_92
  · skip
    refine W.eq (g2 := F0 m 8 ls [.int 0]) rfl ?_
    refine lv_if_eq (tgt := 22) hx hb dX10_world_8 (by decide) (fun c50 => ?_) (fun c50 => ?_)
    rotate_left
    · exact absurd c50 (by decide)
    refine lv_iconst (v := 0) hx hb dX10_world_22 (by decide) ?_
    refine lv_istore (lv' := [(7, .int 0), (0, .ref o), (1, .int p0), (2, .int p1), (3, .int p2), (4, .int p3), (5, .int p4), (6, .int p5)]) hx hb dX10_world_23 hl (by decide) rfl (fun ls hl => ?_)
    refine lv_iload hx hb dX10_world_25 (lv_at hl 5 rfl) ?_
    refine lv_iconst (v := 1) hx hb dX10_world_27 (by decide) ?_
    refine lv_bipush (v := 30) hx hb dX10_world_28 (by decide) ?_
    refine cg0 (rn_S (As := [.int p3, .int 1, .int 30]) (rest := []) (c_isWithin l D Y Z H.size p3 1 30 (1) (30) (by decide) (by decide)) ⟨hx, hb, hml, hown, hg⟩ lk_X10_100 ⟨CP.blind, CP.at nilP hKN (nilD (A := fun _ => True))⟩ ⟨⟨rfl, rfl⟩, ⟨Nat.le_of_ble_eq_true rfl, Nat.le_of_ble_eq_true rfl⟩, ⟨Nat.le_of_ble_eq_true rfl, Nat.le_of_ble_eq_true rfl⟩⟩ hl.1 rfl (Nat.le_of_ble_eq_true rfl) dX10_world_30) hP hS hA (fun u51 H locs w52 hP hS => ?_)
    rcases w52 with ⟨w52, rfl⟩ | ⟨w52, rfl⟩
    · skip
      refine W.eq (g2 := F0 m 33 ls [.int 1]) rfl ?_
      refine lv_if_eq (tgt := 58) hx hb dX10_world_33 (by decide) (fun c53 => ?_) (fun c53 => ?_)
      · exact absurd c53 (by decide)
      refine lv_iload hx hb dX10_world_36 (lv_at hl 5 rfl) ?_
      refine lv_iload_n hx hb dX10_world_38 rfl (lv_at hl 3 rfl) ?_
      refine lv_icmp_ge (tgt := 58) hx hb dX10_world_39 (by decide) (fun c54 => ?_) (fun c54 => ?_)
      · skip
        have c54 := i_le (Eq.refl (p1).toInt) (Eq.refl (p3).toInt) c54
        refine lv_iconst (v := 0) hx hb dX10_world_58 (by decide) ?_
        refine lv_istore (lv' := [(8, .int 0), (7, .int 0), (0, .ref o), (1, .int p0), (2, .int p1), (3, .int p2), (4, .int p3), (5, .int p4), (6, .int p5)]) hx hb dX10_world_59 hl (by decide) rfl (fun ls hl => ?_)
        refine lv_aload_n hx hb dX10_world_61 rfl (lv_at hl 2 rfl) ?_
        refine lv_iload_n hx hb dX10_world_62 rfl (lv_at hl 3 rfl) ?_
        refine cg (wc := [(o, .inr (10, (dsF b))), ((b 0), .inr (6, (skF b)))]) (wr := []) [0, 1] [] (rn_V (As := [.int p0]) (rest := []) (b := o) (c_isStar l D Y Z H.size o b p0) ⟨hx, hb, hml, hown, hg⟩ lk_X10_137 ⟨CP.blind, va_recv hKN.1 hP (ci := 10) (q0 := 0) rfl rfl, CP.at (hP.sub [0, 1] rfl) hKN (hD.sub [0, 1] (by decide) rfl)⟩ ⟨⟨rfl, rfl⟩, ⟨Nat.le_of_ble_eq_true rfl, Nat.le_of_ble_eq_true rfl⟩, ⟨Nat.le_of_ble_eq_true rfl, Nat.le_of_ble_eq_true rfl⟩⟩ hl.1 rfl (Nat.le_of_ble_eq_true rfl) dX10_world_63) hP hD hS hA rfl rfl (by decide) (by decide) (fun u55 H locs w56 hP hD hS => ?_)
        refine W.eq (g2 := F0 m 66 ls [.int 0]) rfl ?_
        have hP : va_P D vwCl [(o, .inr (10, (dsF b))), ((b 0), .inr (6, (skF b)))] H := hP
        have hD : va_D A [(o, .inr (10, (dsF b))), ((b 0), .inr (6, (skF b)))] := hD
        refine lv_if_eq (tgt := 91) hx hb dX10_world_66 (by decide) (fun c57 => ?_) (fun c57 => ?_)
        rotate_left
        · exact absurd c57 (by decide)
        refine lv_iconst (v := (-1)) hx hb dX10_world_91 (by decide) ?_
        refine W.widen (k := 0) (n := 0) (Nat.le_of_ble_eq_true rfl) (Nat.le_of_ble_eq_true rfl) ?_
        exact W.iret (v := (-1)) hx hb hr (fun t ht hW => ⟨⟨(), rfl, trivial, CB.nil⟩, hS.F ht⟩) hS.2.2 dX10_world_92
      · skip
        have c54 := i_nle (Eq.refl (p1).toInt) (Eq.refl (p3).toInt) c54
        refine lv_iload hx hb dX10_world_42 (lv_at hl 6 rfl) ?_
        refine lv_iconst (v := 1) hx hb dX10_world_44 (by decide) ?_
        refine lv_sipush (v := 30000) hx hb dX10_world_45 (by decide) ?_
        refine cg0 (rn_S (As := [.int p4, .int 1, .int 30000]) (rest := []) (c_isWithin l D Y Z H.size p4 1 30000 (1) (30000) (by decide) (by decide)) ⟨hx, hb, hml, hown, hg⟩ lk_X10_100 ⟨CP.blind, CP.at nilP hKN (nilD (A := fun _ => True))⟩ ⟨⟨rfl, rfl⟩, ⟨Nat.le_of_ble_eq_true rfl, Nat.le_of_ble_eq_true rfl⟩, ⟨Nat.le_of_ble_eq_true rfl, Nat.le_of_ble_eq_true rfl⟩⟩ hl.1 rfl (Nat.le_of_ble_eq_true rfl) dX10_world_48) hP hS hA (fun u58 H locs w59 hP hS => ?_)
        rcases w59 with ⟨w59, rfl⟩ | ⟨w59, rfl⟩
        · skip
          refine W.eq (g2 := F0 m 51 ls [.int 1]) rfl ?_
          refine lv_if_eq (tgt := 58) hx hb dX10_world_51 (by decide) (fun c60 => ?_) (fun c60 => ?_)
          · exact absurd c60 (by decide)
          refine lv_iconst (v := 1) hx hb dX10_world_54 (by decide) ?_
          refine lv_goto (tgt := 59) hx hb dX10_world_55 (by decide) ?_
          refine lv_istore (lv' := [(8, .int 1), (7, .int 0), (0, .ref o), (1, .int p0), (2, .int p1), (3, .int p2), (4, .int p3), (5, .int p4), (6, .int p5)]) hx hb dX10_world_59 hl (by decide) rfl (fun ls hl => ?_)
          refine lv_aload_n hx hb dX10_world_61 rfl (lv_at hl 2 rfl) ?_
          refine lv_iload_n hx hb dX10_world_62 rfl (lv_at hl 3 rfl) ?_
          refine cg (wc := [(o, .inr (10, (dsF b))), ((b 0), .inr (6, (skF b)))]) (wr := []) [0, 1] [] (rn_V (As := [.int p0]) (rest := []) (b := o) (c_isStar l D Y Z H.size o b p0) ⟨hx, hb, hml, hown, hg⟩ lk_X10_137 ⟨CP.blind, va_recv hKN.1 hP (ci := 10) (q0 := 0) rfl rfl, CP.at (hP.sub [0, 1] rfl) hKN (hD.sub [0, 1] (by decide) rfl)⟩ ⟨⟨rfl, rfl⟩, ⟨Nat.le_of_ble_eq_true rfl, Nat.le_of_ble_eq_true rfl⟩, ⟨Nat.le_of_ble_eq_true rfl, Nat.le_of_ble_eq_true rfl⟩⟩ hl.1 rfl (Nat.le_of_ble_eq_true rfl) dX10_world_63) hP hD hS hA rfl rfl (by decide) (by decide) (fun u61 H locs w62 hP hD hS => ?_)
          refine W.eq (g2 := F0 m 66 ls [.int 0]) rfl ?_
          have hP : va_P D vwCl [(o, .inr (10, (dsF b))), ((b 0), .inr (6, (skF b)))] H := hP
          have hD : va_D A [(o, .inr (10, (dsF b))), ((b 0), .inr (6, (skF b)))] := hD
          refine lv_if_eq (tgt := 91) hx hb dX10_world_66 (by decide) (fun c63 => ?_) (fun c63 => ?_)
          rotate_left
          · exact absurd c63 (by decide)
          refine lv_iconst (v := (-1)) hx hb dX10_world_91 (by decide) ?_
          refine W.widen (k := 0) (n := 0) (Nat.le_of_ble_eq_true rfl) (Nat.le_of_ble_eq_true rfl) ?_
          exact W.iret (v := (-1)) hx hb hr (fun t ht hW => ⟨⟨(), rfl, trivial, CB.nil⟩, hS.F ht⟩) hS.2.2 dX10_world_92
        · skip
          refine W.eq (g2 := F0 m 51 ls [.int 0]) rfl ?_
          refine lv_if_eq (tgt := 58) hx hb dX10_world_51 (by decide) (fun c64 => ?_) (fun c64 => ?_)
          rotate_left
          · exact absurd c64 (by decide)
          refine lv_iconst (v := 0) hx hb dX10_world_58 (by decide) ?_
          refine lv_istore (lv' := [(8, .int 0), (7, .int 0), (0, .ref o), (1, .int p0), (2, .int p1), (3, .int p2), (4, .int p3), (5, .int p4), (6, .int p5)]) hx hb dX10_world_59 hl (by decide) rfl (fun ls hl => ?_)
          refine lv_aload_n hx hb dX10_world_61 rfl (lv_at hl 2 rfl) ?_
          refine lv_iload_n hx hb dX10_world_62 rfl (lv_at hl 3 rfl) ?_
          refine cg (wc := [(o, .inr (10, (dsF b))), ((b 0), .inr (6, (skF b)))]) (wr := []) [0, 1] [] (rn_V (As := [.int p0]) (rest := []) (b := o) (c_isStar l D Y Z H.size o b p0) ⟨hx, hb, hml, hown, hg⟩ lk_X10_137 ⟨CP.blind, va_recv hKN.1 hP (ci := 10) (q0 := 0) rfl rfl, CP.at (hP.sub [0, 1] rfl) hKN (hD.sub [0, 1] (by decide) rfl)⟩ ⟨⟨rfl, rfl⟩, ⟨Nat.le_of_ble_eq_true rfl, Nat.le_of_ble_eq_true rfl⟩, ⟨Nat.le_of_ble_eq_true rfl, Nat.le_of_ble_eq_true rfl⟩⟩ hl.1 rfl (Nat.le_of_ble_eq_true rfl) dX10_world_63) hP hD hS hA rfl rfl (by decide) (by decide) (fun u65 H locs w66 hP hD hS => ?_)
          refine W.eq (g2 := F0 m 66 ls [.int 0]) rfl ?_
          have hP : va_P D vwCl [(o, .inr (10, (dsF b))), ((b 0), .inr (6, (skF b)))] H := hP
          have hD : va_D A [(o, .inr (10, (dsF b))), ((b 0), .inr (6, (skF b)))] := hD
          refine lv_if_eq (tgt := 91) hx hb dX10_world_66 (by decide) (fun c67 => ?_) (fun c67 => ?_)
          rotate_left
          · exact absurd c67 (by decide)
          refine lv_iconst (v := (-1)) hx hb dX10_world_91 (by decide) ?_
          refine W.widen (k := 0) (n := 0) (Nat.le_of_ble_eq_true rfl) (Nat.le_of_ble_eq_true rfl) ?_
          exact W.iret (v := (-1)) hx hb hr (fun t ht hW => ⟨⟨(), rfl, trivial, CB.nil⟩, hS.F ht⟩) hS.2.2 dX10_world_92
    · skip
      refine W.eq (g2 := F0 m 33 ls [.int 0]) rfl ?_
      refine lv_if_eq (tgt := 58) hx hb dX10_world_33 (by decide) (fun c68 => ?_) (fun c68 => ?_)
      rotate_left
      · exact absurd c68 (by decide)
      refine lv_iconst (v := 0) hx hb dX10_world_58 (by decide) ?_
      refine lv_istore (lv' := [(8, .int 0), (7, .int 0), (0, .ref o), (1, .int p0), (2, .int p1), (3, .int p2), (4, .int p3), (5, .int p4), (6, .int p5)]) hx hb dX10_world_59 hl (by decide) rfl (fun ls hl => ?_)
      refine lv_aload_n hx hb dX10_world_61 rfl (lv_at hl 2 rfl) ?_
      refine lv_iload_n hx hb dX10_world_62 rfl (lv_at hl 3 rfl) ?_
      refine cg (wc := [(o, .inr (10, (dsF b))), ((b 0), .inr (6, (skF b)))]) (wr := []) [0, 1] [] (rn_V (As := [.int p0]) (rest := []) (b := o) (c_isStar l D Y Z H.size o b p0) ⟨hx, hb, hml, hown, hg⟩ lk_X10_137 ⟨CP.blind, va_recv hKN.1 hP (ci := 10) (q0 := 0) rfl rfl, CP.at (hP.sub [0, 1] rfl) hKN (hD.sub [0, 1] (by decide) rfl)⟩ ⟨⟨rfl, rfl⟩, ⟨Nat.le_of_ble_eq_true rfl, Nat.le_of_ble_eq_true rfl⟩, ⟨Nat.le_of_ble_eq_true rfl, Nat.le_of_ble_eq_true rfl⟩⟩ hl.1 rfl (Nat.le_of_ble_eq_true rfl) dX10_world_63) hP hD hS hA rfl rfl (by decide) (by decide) (fun u69 H locs w70 hP hD hS => ?_)
      refine W.eq (g2 := F0 m 66 ls [.int 0]) rfl ?_
      have hP : va_P D vwCl [(o, .inr (10, (dsF b))), ((b 0), .inr (6, (skF b)))] H := hP
      have hD : va_D A [(o, .inr (10, (dsF b))), ((b 0), .inr (6, (skF b)))] := hD
      refine lv_if_eq (tgt := 91) hx hb dX10_world_66 (by decide) (fun c71 => ?_) (fun c71 => ?_)
      rotate_left
      · exact absurd c71 (by decide)
      refine lv_iconst (v := (-1)) hx hb dX10_world_91 (by decide) ?_
      refine W.widen (k := 0) (n := 0) (Nat.le_of_ble_eq_true rfl) (Nat.le_of_ble_eq_true rfl) ?_
      exact W.iret (v := (-1)) hx hb hr (fun t ht hW => ⟨⟨(), rfl, trivial, CB.nil⟩, hS.F ht⟩) hS.2.2 dX10_world_92
set_option maxHeartbeats 4000000 in
set_option maxRecDepth 100000 in
theorem y_world (l : Launch) (D : va_G) (Y : Nat → ClassId) (Z : Nat → Nat) (sz : Nat) (o : Nat) (a : Nat → Nat) (p0 p1 p2 p3 p4 p5 : Int32) : Met l yX11_world (.code yX11_world cX11_world 8 (some .int) :: GW) ({ frames := 1, cells := 0, slots := 0, locals := 21 }) (va_Pc [.ref o, .int p0, .int p1, .int p2, .int p3, .int p4, .int p5] (CP D Y Z [(o, .inr (11, (moF a))), ((a 0), .inl (Y 0, 7533, .inl tolF))] sz)) (QG (S := Unit) (fun _ => some (.int (-1))) (fun _ => True) (fun u => CB D ((fun _ => []) u) (va_A [(o, .inr (11, (moF a))), ((a 0), .inl (Y 0, 7533, .inl tolF))] sz)) (va_A [(o, .inr (11, (moF a))), ((a 0), .inl (Y 0, 7533, .inl tolF))] sz)) 0 0 (va_A [(o, .inr (11, (moF a))), ((a 0), .inl (Y 0, 7533, .inl tolF))] sz) := by
  refine Met.ofW (cc := cX11_world) (maxL := 8) (ret := (some .int)) (by decide) rfl ?_
  intro p e s m args below meth c s₁ B hml hv
  obtain ⟨rfl, hsz, hP, hKN, hD0⟩ := hv
  have hx := B.exec
  have hb := B.bytes
  have hr := B.returns
  have hts := atoms_spec (ws := .code yX11_world cX11_world 8 (some .int) :: GW) B.pre
  have hg : ∀ w ∈ GW, w.before _ s = true := fun w h => hts w (List.mem_cons_of_mem _ h)
  have hown : s.vm.findClass RX11 = some m.cls := findClass_of_methodNamed B.named
  have hlocks := B.notSynchronized
  subst hsz
  have hD := hD0.self (sz := s.heap.size)
  generalize hAe : va_A [(o, .inr (11, (moF a))), ((a 0), .inl (Y 0, 7533, .inl tolF))] s.heap.size = A at hD ⊢
  have hA : ∀ q : Nat, s.heap.size ≤ q → A q := fun q h => by rw [← hAe]; exact Or.inr h
  have hl := lv_entry ([.ref o, .int p0, .int p1, .int p2, .int p3, .int p4, .int p5]) (n := 8) (Nat.le_of_ble_eq_true rfl)
  rw [lg_entry_eq]
  generalize (lg_sl ([.ref o, .int p0, .int p1, .int p2, .int p3, .int p4, .int p5]) ++ List.replicate (8 - (lg_sl ([.ref o, .int p0, .int p1, .int p2, .int p3, .int p4, .int p5])).length) Slot.unset).toArray = ls at hl ⊢
  have hl : lv_has ls 8 [(0, .ref o), (1, .int p0), (2, .int p1), (3, .int p2), (4, .int p3), (5, .int p4), (6, .int p5)] := hl
  refine w_start (A0 := A) hP (fun H locs hP hS => ?_)
  refine lv_aload_n hx hb dX11_world_0 rfl (lv_at hl 0 rfl) ?_
  refine va_get (D := D) (ci := 11) (v := .ref (a 0)) (C := RX11) (T := TX11) (N := 49) hx hb hg inGX11 hown hKN.1 hP 0 rfl rfl 0 (by decide) (hg _ kw_1208) (fun _ h9 => h9) rfl dX11_world_1 ?_
  refine lv_iconst (v := 1) hx hb dX11_world_4 (by decide) ?_
  refine va_iald hx hb hKN.1 hP 1 0 rfl rfl (show ¬ ((1 : Int32) < 0 ∨ 7533 ≤ (1 : Int32).toNatClampNeg) by decide) dX11_world_5 ?_
  refine lv_topi (fun z1 ez1 => ?_)
  obtain rfl : z1 = 0 := ez1.trans (by decide)
  refine lv_bipush (v := 40) hx hb dX11_world_6 (by decide) ?_
  refine lv_icmp_eq (tgt := 77) hx hb dX11_world_8 (by decide) (fun c2 => ?_) (fun c2 => ?_)
  · exact absurd c2 (by decide)
  refine lv_aload_n hx hb dX11_world_11 rfl (lv_at hl 0 rfl) ?_
  refine lv_iload_n hx hb dX11_world_12 rfl (lv_at hl 1 rfl) ?_
  refine cg (wc := [(o, .inr (11, (moF a))), ((a 0), .inl (Y 0, 7533, .inl tolF))]) (wr := []) [0, 1] [] (rn_V (As := [.int p0]) (rest := []) (b := o) (m_isStar l D Y Z H.size o a p0) ⟨hx, hb, hml, hown, hg⟩ lk_X11_108 ⟨CP.blind, va_recv hKN.1 hP (ci := 11) (q0 := 0) rfl rfl, CP.at (hP.sub [0, 1] rfl) hKN (hD.sub [0, 1] (by decide) rfl)⟩ ⟨⟨rfl, rfl⟩, ⟨Nat.le_of_ble_eq_true rfl, Nat.le_of_ble_eq_true rfl⟩, ⟨Nat.le_of_ble_eq_true rfl, Nat.le_of_ble_eq_true rfl⟩⟩ hl.1 rfl (Nat.le_of_ble_eq_true rfl) dX11_world_13) hP hD hS hA rfl rfl (by decide) (by decide) (fun u3 H locs w4 hP hD hS => ?_)
  refine W.eq (g2 := F0 m 16 ls [.int 0]) rfl ?_
  have hP : va_P D vwCl [(o, .inr (11, (moF a))), ((a 0), .inl (Y 0, 7533, .inl tolF))] H := hP
  have hD : va_D A [(o, .inr (11, (moF a))), ((a 0), .inl (Y 0, 7533, .inl tolF))] := hD
  refine lv_if_eq (tgt := 77) hx hb dX11_world_16 (by decide) (fun c5 => ?_) (fun c5 => ?_)
  rotate_left
  · exact absurd c5 (by decide)
  refine lv_iconst (v := (-1)) hx hb dX11_world_77 (by decide) ?_
  refine W.widen (k := 0) (n := 0) (Nat.le_of_ble_eq_true rfl) (Nat.le_of_ble_eq_true rfl) ?_
  exact W.iret (v := (-1)) hx hb hr (fun t ht hW => ⟨⟨(), rfl, trivial, CB.nil⟩, hS.F ht⟩) hS.2.2 dX11_world_78
set_option maxHeartbeats 4000000 in
set_option maxRecDepth 100000 in
theorem x_make (l : Launch) (D : va_G) (Y : Nat → ClassId) (Z : Nat → Nat) (sz : Nat) (o : Nat) (b : Nat → Nat) (p0 p1 p2 p3 p4 : Int32) : Met l yX10_make (.code yX10_make cX10_make 15 (some .int) :: GW) ({ frames := 2, cells := 0, slots := 0, locals := 43 }) (va_Pc [.ref o, .int p0, .int p1, .int p2, .int p3, .int p4] (CP D Y Z [(o, .inr (10, (dsF b))), ((b 0), .inr (6, (skF b)))] sz)) (QG (S := Unit) (fun _ => some (.int (-1))) (fun _ => True) (fun u => CB D ((fun _ => []) u) (va_A [(o, .inr (10, (dsF b))), ((b 0), .inr (6, (skF b)))] sz)) (va_A [(o, .inr (10, (dsF b))), ((b 0), .inr (6, (skF b)))] sz)) 0 0 (va_A [(o, .inr (10, (dsF b))), ((b 0), .inr (6, (skF b)))] sz) := by
  refine Met.ofW (cc := cX10_make) (maxL := 15) (ret := (some .int)) (by decide) rfl ?_
  intro p e s m args below meth c s₁ B hml hv
  obtain ⟨rfl, hsz, hP, hKN, hD0⟩ := hv
  have hx := B.exec
  have hb := B.bytes
  have hr := B.returns
  have hts := atoms_spec (ws := .code yX10_make cX10_make 15 (some .int) :: GW) B.pre
  have hg : ∀ w ∈ GW, w.before _ s = true := fun w h => hts w (List.mem_cons_of_mem _ h)
  have hown : s.vm.findClass RX10 = some m.cls := findClass_of_methodNamed B.named
  have hlocks := B.notSynchronized
  subst hsz
  have hD := hD0.self (sz := s.heap.size)
  generalize hAe : va_A [(o, .inr (10, (dsF b))), ((b 0), .inr (6, (skF b)))] s.heap.size = A at hD ⊢
  have hA : ∀ q : Nat, s.heap.size ≤ q → A q := fun q h => by rw [← hAe]; exact Or.inr h
  have hl := lv_entry ([.ref o, .int p0, .int p1, .int p2, .int p3, .int p4]) (n := 15) (Nat.le_of_ble_eq_true rfl)
  rw [lg_entry_eq]
  generalize (lg_sl ([.ref o, .int p0, .int p1, .int p2, .int p3, .int p4]) ++ List.replicate (15 - (lg_sl ([.ref o, .int p0, .int p1, .int p2, .int p3, .int p4])).length) Slot.unset).toArray = ls at hl ⊢
  have hl : lv_has ls 15 [(0, .ref o), (1, .int p0), (2, .int p1), (3, .int p2), (4, .int p3), (5, .int p4)] := hl
  refine w_start (A0 := A) hP (fun H locs hP hS => ?_)
  refine lv_aload_n hx hb dX10_make_0 rfl (lv_at hl 0 rfl) ?_
  refine lv_iload_n hx hb dX10_make_1 rfl (lv_at hl 1 rfl) ?_
  refine cg (wc := [(o, .inr (10, (dsF b)))]) (wr := [((b 0), .inr (6, (skF b)))]) [0] [1] (rn_V (As := [.int p0]) (rest := []) (b := o) (c_lawAt l D Y Z H.size o b p0) ⟨hx, hb, hml, hown, hg⟩ lk_X10_194 ⟨CP.blind, va_recv hKN.1 hP (ci := 10) (q0 := 0) rfl rfl, CP.at (hP.sub [0] rfl) hKN (hD.sub [0] (by decide) rfl)⟩ ⟨⟨rfl, rfl⟩, ⟨Nat.le_of_ble_eq_true rfl, Nat.le_of_ble_eq_true rfl⟩, ⟨Nat.le_of_ble_eq_true rfl, Nat.le_of_ble_eq_true rfl⟩⟩ hl.1 rfl (Nat.le_of_ble_eq_true rfl) dX10_make_2) hP hD hS hA rfl rfl (by decide) (by decide) (fun u1 H locs w2 hP hD hS => ?_)
  refine W.eq (g2 := F0 m 5 ls [.null]) rfl ?_
  have hP : va_P D vwCl [((b 0), .inr (6, (skF b))), (o, .inr (10, (dsF b)))] H := hP
  have hD : va_D A [((b 0), .inr (6, (skF b))), (o, .inr (10, (dsF b)))] := hD
  refine lv_astoreN (lv' := [(6, .null), (0, .ref o), (1, .int p0), (2, .int p1), (3, .int p2), (4, .int p3), (5, .int p4)]) hx hb dX10_make_5 hl (by decide) rfl (fun ls hl => ?_)
  refine lv_aload_n hx hb dX10_make_7 rfl (lv_at hl 1 rfl) ?_
  refine va_get (D := D) (ci := 10) (v := .ref (b 0)) (C := RX10) (T := TX10) (N := 20) hx hb hg inGX10 hown hKN.1 hP 1 rfl rfl 0 (by decide) (hg _ kw_349) (fun _ h9 => h9) rfl dX10_make_8 ?_
  refine lv_iload_n hx hb dX10_make_11 rfl (lv_at hl 3 rfl) ?_
  refine cg (wc := [((b 0), .inr (6, (skF b)))]) (wr := [(o, .inr (10, (dsF b)))]) [0] [1] (rn_NV (As := [.int p1]) (rest := []) (b := (b 0)) (c_starAt l D Y Z H.size (b 0) b p1) ⟨hx, hb, hml, hown, hg⟩ hKN lk_X10_108 ⟨CP.blind, va_recv hKN.1 hP (ci := 6) (q0 := 0) rfl rfl, CP.at (hP.sub [0] rfl) hKN (hD.sub [0] (by decide) rfl)⟩ ⟨⟨rfl, rfl⟩, ⟨Nat.le_of_ble_eq_true rfl, Nat.le_of_ble_eq_true rfl⟩, ⟨Nat.le_of_ble_eq_true rfl, Nat.le_of_ble_eq_true rfl⟩⟩ hl.1 rfl (Nat.le_of_ble_eq_true rfl) dX10_make_12) hP hD hS hA rfl rfl (by decide) (by decide) (fun u3 H locs w4 hP hD hS => ?_)
  refine W.eq (g2 := F0 m 15 ls [.null]) rfl ?_
  have hP : va_P D vwCl [(o, .inr (10, (dsF b))), ((b 0), .inr (6, (skF b)))] H := hP
  have hD : va_D A [(o, .inr (10, (dsF b))), ((b 0), .inr (6, (skF b)))] := hD
  refine lv_astoreN (lv' := [(7, .null), (6, .null), (0, .ref o), (1, .int p0), (2, .int p1), (3, .int p2), (4, .int p3), (5, .int p4)]) hx hb dX10_make_15 hl (by decide) rfl (fun ls hl => ?_)
  refine lv_aloadN hx hb dX10_make_17 (lv_at hl 1 rfl) ?_
  refine lv_ifnullN (tgt := 54) hx hb dX10_make_19 (by decide) ?_
  refine lv_iconst (v := (-1)) hx hb dX10_make_54 (by decide) ?_
  refine W.widen (k := 0) (n := 0) (Nat.le_of_ble_eq_true rfl) (Nat.le_of_ble_eq_true rfl) ?_
  exact W.iret (v := (-1)) hx hb hr (fun t ht hW => ⟨⟨(), rfl, trivial, CB.nil⟩, hS.F ht⟩) hS.2.2 dX10_make_55
set_option maxHeartbeats 4000000 in
set_option maxRecDepth 100000 in
theorem y_make (l : Launch) (D : va_G) (Y : Nat → ClassId) (Z : Nat → Nat) (sz : Nat) (o : Nat) (a : Nat → Nat) (p0 p1 p2 p3 p4 : Int32) : Met l yX11_make (.code yX11_make cX11_make 13 (some .int) :: GW) ({ frames := 1, cells := 0, slots := 0, locals := 22 }) (va_Pc [.ref o, .int p0, .int p1, .int p2, .int p3, .int p4] (CP D Y Z [(o, .inr (11, (moF a))), ((a 3), .inl (Y 0, 3, .inl (fun _ => 0)))] sz)) (QG (S := Unit) (fun _ => some (.int (-1))) (fun _ => True) (fun u => CB D ((fun _ => []) u) (va_A [(o, .inr (11, (moF a))), ((a 3), .inl (Y 0, 3, .inl (fun _ => 0)))] sz)) (va_A [(o, .inr (11, (moF a))), ((a 3), .inl (Y 0, 3, .inl (fun _ => 0)))] sz)) 0 0 (va_A [(o, .inr (11, (moF a))), ((a 3), .inl (Y 0, 3, .inl (fun _ => 0)))] sz) := by
  refine Met.ofW (cc := cX11_make) (maxL := 13) (ret := (some .int)) (by decide) rfl ?_
  intro p e s m args below meth c s₁ B hml hv
  obtain ⟨rfl, hsz, hP, hKN, hD0⟩ := hv
  have hx := B.exec
  have hb := B.bytes
  have hr := B.returns
  have hts := atoms_spec (ws := .code yX11_make cX11_make 13 (some .int) :: GW) B.pre
  have hg : ∀ w ∈ GW, w.before _ s = true := fun w h => hts w (List.mem_cons_of_mem _ h)
  have hown : s.vm.findClass RX11 = some m.cls := findClass_of_methodNamed B.named
  have hlocks := B.notSynchronized
  subst hsz
  have hD := hD0.self (sz := s.heap.size)
  generalize hAe : va_A [(o, .inr (11, (moF a))), ((a 3), .inl (Y 0, 3, .inl (fun _ => 0)))] s.heap.size = A at hD ⊢
  have hA : ∀ q : Nat, s.heap.size ≤ q → A q := fun q h => by rw [← hAe]; exact Or.inr h
  have hl := lv_entry ([.ref o, .int p0, .int p1, .int p2, .int p3, .int p4]) (n := 13) (Nat.le_of_ble_eq_true rfl)
  rw [lg_entry_eq]
  generalize (lg_sl ([.ref o, .int p0, .int p1, .int p2, .int p3, .int p4]) ++ List.replicate (13 - (lg_sl ([.ref o, .int p0, .int p1, .int p2, .int p3, .int p4])).length) Slot.unset).toArray = ls at hl ⊢
  have hl : lv_has ls 13 [(0, .ref o), (1, .int p0), (2, .int p1), (3, .int p2), (4, .int p3), (5, .int p4)] := hl
  refine w_start (A0 := A) hP (fun H locs hP hS => ?_)
  refine lv_aload_n hx hb dX11_make_0 rfl (lv_at hl 0 rfl) ?_
  refine lv_iconst (v := 0) hx hb dX11_make_1 (by decide) ?_
  refine lv_iload_n hx hb dX11_make_2 rfl (lv_at hl 1 rfl) ?_
  refine cg (wc := [(o, .inr (11, (moF a))), ((a 3), .inl (Y 0, 3, .inl (fun _ => 0)))]) (wr := []) [0, 1] [] (rn_V (As := [.int 0, .int p0]) (rest := []) (b := o) (m_isText0 l D Y Z H.size o a p0) ⟨hx, hb, hml, hown, hg⟩ lk_X11_366 ⟨CP.blind, va_recv hKN.1 hP (ci := 11) (q0 := 0) rfl rfl, CP.at (hP.sub [0, 1] rfl) hKN (hD.sub [0, 1] (by decide) rfl)⟩ ⟨⟨rfl, rfl⟩, ⟨Nat.le_of_ble_eq_true rfl, Nat.le_of_ble_eq_true rfl⟩, ⟨Nat.le_of_ble_eq_true rfl, Nat.le_of_ble_eq_true rfl⟩⟩ hl.1 rfl (Nat.le_of_ble_eq_true rfl) dX11_make_3) hP hD hS hA rfl rfl (by decide) (by decide) (fun u1 H locs w2 hP hD hS => ?_)
  refine W.eq (g2 := F0 m 6 ls [.int 0]) rfl ?_
  have hP : va_P D vwCl [(o, .inr (11, (moF a))), ((a 3), .inl (Y 0, 3, .inl (fun _ => 0)))] H := hP
  have hD : va_D A [(o, .inr (11, (moF a))), ((a 3), .inl (Y 0, 3, .inl (fun _ => 0)))] := hD
  refine lv_if_eq (tgt := 44) hx hb dX11_make_6 (by decide) (fun c3 => ?_) (fun c3 => ?_)
  rotate_left
  · exact absurd c3 (by decide)
  refine lv_iconst (v := (-1)) hx hb dX11_make_44 (by decide) ?_
  refine W.widen (k := 0) (n := 0) (Nat.le_of_ble_eq_true rfl) (Nat.le_of_ble_eq_true rfl) ?_
  exact W.iret (v := (-1)) hx hb hr (fun t ht hW => ⟨⟨(), rfl, trivial, CB.nil⟩, hS.F ht⟩) hS.2.2 dX11_make_45
set_option maxHeartbeats 4000000 in
set_option maxRecDepth 100000 in
theorem x_tried (l : Launch) (D : va_G) (Y : Nat → ClassId) (Z : Nat → Nat) (sz : Nat) (o : Nat) (b : Nat → Nat) (p0 p1 p2 p3 p4 p5 : Int32) : Met l yX10_tried (.code yX10_tried cX10_tried 8 (some .long) :: GW) ({ frames := 2, cells := 0, slots := 0, locals := 42 }) (va_Pc [.ref o, .int p0, .int p1, .int p2, .int p3, .int p4, .int p5] (CP D Y Z [(o, .inr (10, (dsF b))), ((b 0), .inr (6, (skF b)))] sz)) (QG (S := Unit) (fun _ => some (.long (-200000))) (fun _ => True) (fun u => CB D ((fun _ => []) u) (va_A [(o, .inr (10, (dsF b))), ((b 0), .inr (6, (skF b)))] sz)) (va_A [(o, .inr (10, (dsF b))), ((b 0), .inr (6, (skF b)))] sz)) 0 0 (va_A [(o, .inr (10, (dsF b))), ((b 0), .inr (6, (skF b)))] sz) := by
  refine Met.ofW (cc := cX10_tried) (maxL := 8) (ret := (some .long)) (by decide) rfl ?_
  intro p e s m args below meth c s₁ B hml hv
  obtain ⟨rfl, hsz, hP, hKN, hD0⟩ := hv
  have hx := B.exec
  have hb := B.bytes
  have hr := B.returns
  have hts := atoms_spec (ws := .code yX10_tried cX10_tried 8 (some .long) :: GW) B.pre
  have hg : ∀ w ∈ GW, w.before _ s = true := fun w h => hts w (List.mem_cons_of_mem _ h)
  have hown : s.vm.findClass RX10 = some m.cls := findClass_of_methodNamed B.named
  have hlocks := B.notSynchronized
  subst hsz
  have hD := hD0.self (sz := s.heap.size)
  generalize hAe : va_A [(o, .inr (10, (dsF b))), ((b 0), .inr (6, (skF b)))] s.heap.size = A at hD ⊢
  have hA : ∀ q : Nat, s.heap.size ≤ q → A q := fun q h => by rw [← hAe]; exact Or.inr h
  have hl := lv_entry ([.ref o, .int p0, .int p1, .int p2, .int p3, .int p4, .int p5]) (n := 8) (Nat.le_of_ble_eq_true rfl)
  rw [lg_entry_eq]
  generalize (lg_sl ([.ref o, .int p0, .int p1, .int p2, .int p3, .int p4, .int p5]) ++ List.replicate (8 - (lg_sl ([.ref o, .int p0, .int p1, .int p2, .int p3, .int p4, .int p5])).length) Slot.unset).toArray = ls at hl ⊢
  have hl : lv_has ls 8 [(0, .ref o), (1, .int p0), (2, .int p1), (3, .int p2), (4, .int p3), (5, .int p4), (6, .int p5)] := hl
  refine w_start (A0 := A) hP (fun H locs hP hS => ?_)
  refine lv_iload_n hx hb dX10_tried_0 rfl (lv_at hl 3 rfl) ?_
  refine cg0 (rn_S (As := [.int p2]) (rest := []) (c_isBeat l D Y Z H.size p2) ⟨hx, hb, hml, hown, hg⟩ lk_X10_234 ⟨CP.blind, CP.at nilP hKN (nilD (A := fun _ => True))⟩ ⟨⟨rfl, rfl⟩, ⟨Nat.le_of_ble_eq_true rfl, Nat.le_of_ble_eq_true rfl⟩, ⟨Nat.le_of_ble_eq_true rfl, Nat.le_of_ble_eq_true rfl⟩⟩ hl.1 rfl (Nat.le_of_ble_eq_true rfl) dX10_tried_1) hP hS hA (fun u1 H locs w2 hP hS => ?_)
  rcases w2 with ⟨w2, rfl⟩ | ⟨w2, rfl⟩
  · skip
    refine W.eq (g2 := F0 m 4 ls [.int 1]) rfl ?_
    refine lv_if_eq (tgt := 40) hx hb dX10_tried_4 (by decide) (fun c3 => ?_) (fun c3 => ?_)
    · exact absurd c3 (by decide)
    refine lv_iload hx hb dX10_tried_7 (lv_at hl 4 rfl) ?_
    refine lv_iconst (v := 1) hx hb dX10_tried_9 (by decide) ?_
    refine lv_bipush (v := 10) hx hb dX10_tried_10 (by decide) ?_
    refine cg0 (rn_S (As := [.int p3, .int 1, .int 10]) (rest := []) (c_isWithin l D Y Z H.size p3 1 10 (1) (10) (by decide) (by decide)) ⟨hx, hb, hml, hown, hg⟩ lk_X10_100 ⟨CP.blind, CP.at nilP hKN (nilD (A := fun _ => True))⟩ ⟨⟨rfl, rfl⟩, ⟨Nat.le_of_ble_eq_true rfl, Nat.le_of_ble_eq_true rfl⟩, ⟨Nat.le_of_ble_eq_true rfl, Nat.le_of_ble_eq_true rfl⟩⟩ hl.1 rfl (Nat.le_of_ble_eq_true rfl) dX10_tried_12) hP hS hA (fun u4 H locs w5 hP hS => ?_)
    rcases w5 with ⟨w5, rfl⟩ | ⟨w5, rfl⟩
    · skip
      refine W.eq (g2 := F0 m 15 ls [.int 1]) rfl ?_
      refine lv_if_eq (tgt := 40) hx hb dX10_tried_15 (by decide) (fun c6 => ?_) (fun c6 => ?_)
      · exact absurd c6 (by decide)
      refine lv_iload hx hb dX10_tried_18 (lv_at hl 4 rfl) ?_
      refine lv_iload_n hx hb dX10_tried_20 rfl (lv_at hl 3 rfl) ?_
      refine lv_icmp_ge (tgt := 40) hx hb dX10_tried_21 (by decide) (fun c7 => ?_) (fun c7 => ?_)
      · skip
        have c7 := i_le (Eq.refl (p2).toInt) (Eq.refl (p3).toInt) c7
        refine lv_iconst (v := 0) hx hb dX10_tried_40 (by decide) ?_
        refine lv_istore (lv' := [(7, .int 0), (0, .ref o), (1, .int p0), (2, .int p1), (3, .int p2), (4, .int p3), (5, .int p4), (6, .int p5)]) hx hb dX10_tried_41 hl (by decide) rfl (fun ls hl => ?_)
        refine lv_aload_n hx hb dX10_tried_43 rfl (lv_at hl 1 rfl) ?_
        refine lv_iload_n hx hb dX10_tried_44 rfl (lv_at hl 2 rfl) ?_
        refine cg (wc := [(o, .inr (10, (dsF b))), ((b 0), .inr (6, (skF b)))]) (wr := []) [0, 1] [] (rn_V (As := [.int p0]) (rest := []) (b := o) (c_isStar l D Y Z H.size o b p0) ⟨hx, hb, hml, hown, hg⟩ lk_X10_137 ⟨CP.blind, va_recv hKN.1 hP (ci := 10) (q0 := 0) rfl rfl, CP.at (hP.sub [0, 1] rfl) hKN (hD.sub [0, 1] (by decide) rfl)⟩ ⟨⟨rfl, rfl⟩, ⟨Nat.le_of_ble_eq_true rfl, Nat.le_of_ble_eq_true rfl⟩, ⟨Nat.le_of_ble_eq_true rfl, Nat.le_of_ble_eq_true rfl⟩⟩ hl.1 rfl (Nat.le_of_ble_eq_true rfl) dX10_tried_45) hP hD hS hA rfl rfl (by decide) (by decide) (fun u8 H locs w9 hP hD hS => ?_)
        refine W.eq (g2 := F0 m 48 ls [.int 0]) rfl ?_
        have hP : va_P D vwCl [(o, .inr (10, (dsF b))), ((b 0), .inr (6, (skF b)))] H := hP
        have hD : va_D A [(o, .inr (10, (dsF b))), ((b 0), .inr (6, (skF b)))] := hD
        refine lv_if_eq (tgt := 73) hx hb dX10_tried_48 (by decide) (fun c10 => ?_) (fun c10 => ?_)
        rotate_left
        · exact absurd c10 (by decide)
        refine lv_ldc2 (v := (-200000)) hx hb hown (hg _ kw_817) dX10_tried_73 ?_
        refine W.widen (k := 0) (n := 0) (Nat.le_of_ble_eq_true rfl) (Nat.le_of_ble_eq_true rfl) ?_
        exact W.lret (v := (-200000)) hx hb hr (fun t ht hW => ⟨⟨(), rfl, trivial, CB.nil⟩, hS.F ht⟩) hS.2.2 dX10_tried_76
      · skip
        have c7 := i_nle (Eq.refl (p2).toInt) (Eq.refl (p3).toInt) c7
        refine lv_iload hx hb dX10_tried_24 (lv_at hl 5 rfl) ?_
        refine lv_iconst (v := 0) hx hb dX10_tried_26 (by decide) ?_
        refine lv_iload_n hx hb dX10_tried_27 rfl (lv_at hl 3 rfl) ?_
        refine lv_iconst (v := 1) hx hb dX10_tried_28 (by decide) ?_
        refine lv_isub hx hb dX10_tried_29 ?_
        refine lv_topi (fun v11 ev11 => ?_)
        have hv11 := i_sub (Eq.refl (p2).toInt) (show (1 : Int32).toInt = 1 by decide) ev11 (by omega) (by omega)
        refine cg0 (rn_S (As := [.int p4, .int 0, .int v11]) (rest := []) (c_isWithin l D Y Z H.size p4 0 v11 (0) (v11).toInt (by decide) rfl) ⟨hx, hb, hml, hown, hg⟩ lk_X10_100 ⟨CP.blind, CP.at nilP hKN (nilD (A := fun _ => True))⟩ ⟨⟨rfl, rfl⟩, ⟨Nat.le_of_ble_eq_true rfl, Nat.le_of_ble_eq_true rfl⟩, ⟨Nat.le_of_ble_eq_true rfl, Nat.le_of_ble_eq_true rfl⟩⟩ hl.1 rfl (Nat.le_of_ble_eq_true rfl) dX10_tried_30) hP hS hA (fun u12 H locs w13 hP hS => ?_)
        rcases w13 with ⟨w13, rfl⟩ | ⟨w13, rfl⟩
        · skip
          refine W.eq (g2 := F0 m 33 ls [.int 1]) rfl ?_
          refine lv_if_eq (tgt := 40) hx hb dX10_tried_33 (by decide) (fun c14 => ?_) (fun c14 => ?_)
          · exact absurd c14 (by decide)
          refine lv_iconst (v := 1) hx hb dX10_tried_36 (by decide) ?_
          refine lv_goto (tgt := 41) hx hb dX10_tried_37 (by decide) ?_
          refine lv_istore (lv' := [(7, .int 1), (0, .ref o), (1, .int p0), (2, .int p1), (3, .int p2), (4, .int p3), (5, .int p4), (6, .int p5)]) hx hb dX10_tried_41 hl (by decide) rfl (fun ls hl => ?_)
          refine lv_aload_n hx hb dX10_tried_43 rfl (lv_at hl 1 rfl) ?_
          refine lv_iload_n hx hb dX10_tried_44 rfl (lv_at hl 2 rfl) ?_
          refine cg (wc := [(o, .inr (10, (dsF b))), ((b 0), .inr (6, (skF b)))]) (wr := []) [0, 1] [] (rn_V (As := [.int p0]) (rest := []) (b := o) (c_isStar l D Y Z H.size o b p0) ⟨hx, hb, hml, hown, hg⟩ lk_X10_137 ⟨CP.blind, va_recv hKN.1 hP (ci := 10) (q0 := 0) rfl rfl, CP.at (hP.sub [0, 1] rfl) hKN (hD.sub [0, 1] (by decide) rfl)⟩ ⟨⟨rfl, rfl⟩, ⟨Nat.le_of_ble_eq_true rfl, Nat.le_of_ble_eq_true rfl⟩, ⟨Nat.le_of_ble_eq_true rfl, Nat.le_of_ble_eq_true rfl⟩⟩ hl.1 rfl (Nat.le_of_ble_eq_true rfl) dX10_tried_45) hP hD hS hA rfl rfl (by decide) (by decide) (fun u15 H locs w16 hP hD hS => ?_)
          refine W.eq (g2 := F0 m 48 ls [.int 0]) rfl ?_
          have hP : va_P D vwCl [(o, .inr (10, (dsF b))), ((b 0), .inr (6, (skF b)))] H := hP
          have hD : va_D A [(o, .inr (10, (dsF b))), ((b 0), .inr (6, (skF b)))] := hD
          refine lv_if_eq (tgt := 73) hx hb dX10_tried_48 (by decide) (fun c17 => ?_) (fun c17 => ?_)
          rotate_left
          · exact absurd c17 (by decide)
          refine lv_ldc2 (v := (-200000)) hx hb hown (hg _ kw_817) dX10_tried_73 ?_
          refine W.widen (k := 0) (n := 0) (Nat.le_of_ble_eq_true rfl) (Nat.le_of_ble_eq_true rfl) ?_
          exact W.lret (v := (-200000)) hx hb hr (fun t ht hW => ⟨⟨(), rfl, trivial, CB.nil⟩, hS.F ht⟩) hS.2.2 dX10_tried_76
        · skip
          refine W.eq (g2 := F0 m 33 ls [.int 0]) rfl ?_
          refine lv_if_eq (tgt := 40) hx hb dX10_tried_33 (by decide) (fun c18 => ?_) (fun c18 => ?_)
          rotate_left
          · exact absurd c18 (by decide)
          refine lv_iconst (v := 0) hx hb dX10_tried_40 (by decide) ?_
          refine lv_istore (lv' := [(7, .int 0), (0, .ref o), (1, .int p0), (2, .int p1), (3, .int p2), (4, .int p3), (5, .int p4), (6, .int p5)]) hx hb dX10_tried_41 hl (by decide) rfl (fun ls hl => ?_)
          refine lv_aload_n hx hb dX10_tried_43 rfl (lv_at hl 1 rfl) ?_
          refine lv_iload_n hx hb dX10_tried_44 rfl (lv_at hl 2 rfl) ?_
          refine cg (wc := [(o, .inr (10, (dsF b))), ((b 0), .inr (6, (skF b)))]) (wr := []) [0, 1] [] (rn_V (As := [.int p0]) (rest := []) (b := o) (c_isStar l D Y Z H.size o b p0) ⟨hx, hb, hml, hown, hg⟩ lk_X10_137 ⟨CP.blind, va_recv hKN.1 hP (ci := 10) (q0 := 0) rfl rfl, CP.at (hP.sub [0, 1] rfl) hKN (hD.sub [0, 1] (by decide) rfl)⟩ ⟨⟨rfl, rfl⟩, ⟨Nat.le_of_ble_eq_true rfl, Nat.le_of_ble_eq_true rfl⟩, ⟨Nat.le_of_ble_eq_true rfl, Nat.le_of_ble_eq_true rfl⟩⟩ hl.1 rfl (Nat.le_of_ble_eq_true rfl) dX10_tried_45) hP hD hS hA rfl rfl (by decide) (by decide) (fun u19 H locs w20 hP hD hS => ?_)
          refine W.eq (g2 := F0 m 48 ls [.int 0]) rfl ?_
          have hP : va_P D vwCl [(o, .inr (10, (dsF b))), ((b 0), .inr (6, (skF b)))] H := hP
          have hD : va_D A [(o, .inr (10, (dsF b))), ((b 0), .inr (6, (skF b)))] := hD
          refine lv_if_eq (tgt := 73) hx hb dX10_tried_48 (by decide) (fun c21 => ?_) (fun c21 => ?_)
          rotate_left
          · exact absurd c21 (by decide)
          refine lv_ldc2 (v := (-200000)) hx hb hown (hg _ kw_817) dX10_tried_73 ?_
          refine W.widen (k := 0) (n := 0) (Nat.le_of_ble_eq_true rfl) (Nat.le_of_ble_eq_true rfl) ?_
          exact W.lret (v := (-200000)) hx hb hr (fun t ht hW => ⟨⟨(), rfl, trivial, CB.nil⟩, hS.F ht⟩) hS.2.2 dX10_tried_76
    · skip
      refine W.eq (g2 := F0 m 15 ls [.int 0]) rfl ?_
      refine lv_if_eq (tgt := 40) hx hb dX10_tried_15 (by decide) (fun c22 => ?_) (fun c22 => ?_)
      rotate_left
      · exact absurd c22 (by decide)
      refine lv_iconst (v := 0) hx hb dX10_tried_40 (by decide) ?_
      refine lv_istore (lv' := [(7, .int 0), (0, .ref o), (1, .int p0), (2, .int p1), (3, .int p2), (4, .int p3), (5, .int p4), (6, .int p5)]) hx hb dX10_tried_41 hl (by decide) rfl (fun ls hl => ?_)
      refine lv_aload_n hx hb dX10_tried_43 rfl (lv_at hl 1 rfl) ?_
      refine lv_iload_n hx hb dX10_tried_44 rfl (lv_at hl 2 rfl) ?_
      refine cg (wc := [(o, .inr (10, (dsF b))), ((b 0), .inr (6, (skF b)))]) (wr := []) [0, 1] [] (rn_V (As := [.int p0]) (rest := []) (b := o) (c_isStar l D Y Z H.size o b p0) ⟨hx, hb, hml, hown, hg⟩ lk_X10_137 ⟨CP.blind, va_recv hKN.1 hP (ci := 10) (q0 := 0) rfl rfl, CP.at (hP.sub [0, 1] rfl) hKN (hD.sub [0, 1] (by decide) rfl)⟩ ⟨⟨rfl, rfl⟩, ⟨Nat.le_of_ble_eq_true rfl, Nat.le_of_ble_eq_true rfl⟩, ⟨Nat.le_of_ble_eq_true rfl, Nat.le_of_ble_eq_true rfl⟩⟩ hl.1 rfl (Nat.le_of_ble_eq_true rfl) dX10_tried_45) hP hD hS hA rfl rfl (by decide) (by decide) (fun u23 H locs w24 hP hD hS => ?_)
      refine W.eq (g2 := F0 m 48 ls [.int 0]) rfl ?_
      have hP : va_P D vwCl [(o, .inr (10, (dsF b))), ((b 0), .inr (6, (skF b)))] H := hP
      have hD : va_D A [(o, .inr (10, (dsF b))), ((b 0), .inr (6, (skF b)))] := hD
      refine lv_if_eq (tgt := 73) hx hb dX10_tried_48 (by decide) (fun c25 => ?_) (fun c25 => ?_)
      rotate_left
      · exact absurd c25 (by decide)
      refine lv_ldc2 (v := (-200000)) hx hb hown (hg _ kw_817) dX10_tried_73 ?_
      refine W.widen (k := 0) (n := 0) (Nat.le_of_ble_eq_true rfl) (Nat.le_of_ble_eq_true rfl) ?_
      exact W.lret (v := (-200000)) hx hb hr (fun t ht hW => ⟨⟨(), rfl, trivial, CB.nil⟩, hS.F ht⟩) hS.2.2 dX10_tried_76
  · skip
    refine W.eq (g2 := F0 m 4 ls [.int 0]) rfl ?_
    refine lv_if_eq (tgt := 40) hx hb dX10_tried_4 (by decide) (fun c26 => ?_) (fun c26 => ?_)
    rotate_left
    · exact absurd c26 (by decide)
    refine lv_iconst (v := 0) hx hb dX10_tried_40 (by decide) ?_
    refine lv_istore (lv' := [(7, .int 0), (0, .ref o), (1, .int p0), (2, .int p1), (3, .int p2), (4, .int p3), (5, .int p4), (6, .int p5)]) hx hb dX10_tried_41 hl (by decide) rfl (fun ls hl => ?_)
    refine lv_aload_n hx hb dX10_tried_43 rfl (lv_at hl 1 rfl) ?_
    refine lv_iload_n hx hb dX10_tried_44 rfl (lv_at hl 2 rfl) ?_
    refine cg (wc := [(o, .inr (10, (dsF b))), ((b 0), .inr (6, (skF b)))]) (wr := []) [0, 1] [] (rn_V (As := [.int p0]) (rest := []) (b := o) (c_isStar l D Y Z H.size o b p0) ⟨hx, hb, hml, hown, hg⟩ lk_X10_137 ⟨CP.blind, va_recv hKN.1 hP (ci := 10) (q0 := 0) rfl rfl, CP.at (hP.sub [0, 1] rfl) hKN (hD.sub [0, 1] (by decide) rfl)⟩ ⟨⟨rfl, rfl⟩, ⟨Nat.le_of_ble_eq_true rfl, Nat.le_of_ble_eq_true rfl⟩, ⟨Nat.le_of_ble_eq_true rfl, Nat.le_of_ble_eq_true rfl⟩⟩ hl.1 rfl (Nat.le_of_ble_eq_true rfl) dX10_tried_45) hP hD hS hA rfl rfl (by decide) (by decide) (fun u27 H locs w28 hP hD hS => ?_)
    refine W.eq (g2 := F0 m 48 ls [.int 0]) rfl ?_
    have hP : va_P D vwCl [(o, .inr (10, (dsF b))), ((b 0), .inr (6, (skF b)))] H := hP
    have hD : va_D A [(o, .inr (10, (dsF b))), ((b 0), .inr (6, (skF b)))] := hD
    refine lv_if_eq (tgt := 73) hx hb dX10_tried_48 (by decide) (fun c29 => ?_) (fun c29 => ?_)
    rotate_left
    · exact absurd c29 (by decide)
    refine lv_ldc2 (v := (-200000)) hx hb hown (hg _ kw_817) dX10_tried_73 ?_
    refine W.widen (k := 0) (n := 0) (Nat.le_of_ble_eq_true rfl) (Nat.le_of_ble_eq_true rfl) ?_
    exact W.lret (v := (-200000)) hx hb hr (fun t ht hW => ⟨⟨(), rfl, trivial, CB.nil⟩, hS.F ht⟩) hS.2.2 dX10_tried_76
set_option maxHeartbeats 4000000 in
set_option maxRecDepth 100000 in
theorem y_tried (l : Launch) (D : va_G) (Y : Nat → ClassId) (Z : Nat → Nat) (sz : Nat) (o : Nat) (a : Nat → Nat) (p0 p1 p2 p3 p4 p5 : Int32) : Met l yX11_tried (.code yX11_tried cX11_tried 7 (some .long) :: GW) ({ frames := 1, cells := 0, slots := 0, locals := 21 }) (va_Pc [.ref o, .int p0, .int p1, .int p2, .int p3, .int p4, .int p5] (CP D Y Z [(o, .inr (11, (moF a))), ((a 0), .inl (Y 0, 7533, .inl tolF))] sz)) (QG (S := Unit) (fun _ => some (.long (-200000))) (fun _ => True) (fun u => CB D ((fun _ => []) u) (va_A [(o, .inr (11, (moF a))), ((a 0), .inl (Y 0, 7533, .inl tolF))] sz)) (va_A [(o, .inr (11, (moF a))), ((a 0), .inl (Y 0, 7533, .inl tolF))] sz)) 0 0 (va_A [(o, .inr (11, (moF a))), ((a 0), .inl (Y 0, 7533, .inl tolF))] sz) := by
  refine Met.ofW (cc := cX11_tried) (maxL := 7) (ret := (some .long)) (by decide) rfl ?_
  intro p e s m args below meth c s₁ B hml hv
  obtain ⟨rfl, hsz, hP, hKN, hD0⟩ := hv
  have hx := B.exec
  have hb := B.bytes
  have hr := B.returns
  have hts := atoms_spec (ws := .code yX11_tried cX11_tried 7 (some .long) :: GW) B.pre
  have hg : ∀ w ∈ GW, w.before _ s = true := fun w h => hts w (List.mem_cons_of_mem _ h)
  have hown : s.vm.findClass RX11 = some m.cls := findClass_of_methodNamed B.named
  have hlocks := B.notSynchronized
  subst hsz
  have hD := hD0.self (sz := s.heap.size)
  generalize hAe : va_A [(o, .inr (11, (moF a))), ((a 0), .inl (Y 0, 7533, .inl tolF))] s.heap.size = A at hD ⊢
  have hA : ∀ q : Nat, s.heap.size ≤ q → A q := fun q h => by rw [← hAe]; exact Or.inr h
  have hl := lv_entry ([.ref o, .int p0, .int p1, .int p2, .int p3, .int p4, .int p5]) (n := 7) (Nat.le_of_ble_eq_true rfl)
  rw [lg_entry_eq]
  generalize (lg_sl ([.ref o, .int p0, .int p1, .int p2, .int p3, .int p4, .int p5]) ++ List.replicate (7 - (lg_sl ([.ref o, .int p0, .int p1, .int p2, .int p3, .int p4, .int p5])).length) Slot.unset).toArray = ls at hl ⊢
  have hl : lv_has ls 7 [(0, .ref o), (1, .int p0), (2, .int p1), (3, .int p2), (4, .int p3), (5, .int p4), (6, .int p5)] := hl
  refine w_start (A0 := A) hP (fun H locs hP hS => ?_)
  refine lv_aload_n hx hb dX11_tried_0 rfl (lv_at hl 0 rfl) ?_
  refine lv_iload_n hx hb dX11_tried_1 rfl (lv_at hl 1 rfl) ?_
  refine cg (wc := [(o, .inr (11, (moF a))), ((a 0), .inl (Y 0, 7533, .inl tolF))]) (wr := []) [0, 1] [] (rn_V (As := [.int p0]) (rest := []) (b := o) (m_isStar l D Y Z H.size o a p0) ⟨hx, hb, hml, hown, hg⟩ lk_X11_108 ⟨CP.blind, va_recv hKN.1 hP (ci := 11) (q0 := 0) rfl rfl, CP.at (hP.sub [0, 1] rfl) hKN (hD.sub [0, 1] (by decide) rfl)⟩ ⟨⟨rfl, rfl⟩, ⟨Nat.le_of_ble_eq_true rfl, Nat.le_of_ble_eq_true rfl⟩, ⟨Nat.le_of_ble_eq_true rfl, Nat.le_of_ble_eq_true rfl⟩⟩ hl.1 rfl (Nat.le_of_ble_eq_true rfl) dX11_tried_2) hP hD hS hA rfl rfl (by decide) (by decide) (fun u1 H locs w2 hP hD hS => ?_)
  refine W.eq (g2 := F0 m 5 ls [.int 0]) rfl ?_
  have hP : va_P D vwCl [(o, .inr (11, (moF a))), ((a 0), .inl (Y 0, 7533, .inl tolF))] H := hP
  have hD : va_D A [(o, .inr (11, (moF a))), ((a 0), .inl (Y 0, 7533, .inl tolF))] := hD
  refine lv_if_eq (tgt := 80) hx hb dX11_tried_5 (by decide) (fun c3 => ?_) (fun c3 => ?_)
  rotate_left
  · exact absurd c3 (by decide)
  refine lv_ldc2 (v := (-200000)) hx hb hown (hg _ kw_1666) dX11_tried_80 ?_
  refine W.widen (k := 0) (n := 0) (Nat.le_of_ble_eq_true rfl) (Nat.le_of_ble_eq_true rfl) ?_
  exact W.lret (v := (-200000)) hx hb hr (fun t ht hW => ⟨⟨(), rfl, trivial, CB.nil⟩, hS.F ht⟩) hS.2.2 dX11_tried_83
set_option maxHeartbeats 4000000 in
set_option maxRecDepth 100000 in
theorem x_found (l : Launch) (D : va_G) (Y : Nat → ClassId) (Z : Nat → Nat) (sz : Nat) (o : Nat) (b : Nat → Nat) (p0 p1 p2 p3 : Int32) : Met l yX10_found (.code yX10_found cX10_found 6 (some .long) :: GW) ({ frames := 2, cells := 0, slots := 0, locals := 43 }) (va_Pc [.ref o, .int p0, .int p1, .int p2, .int p3] (CP D Y Z [(o, .inr (10, (dsF b)))] sz)) (QG (S := Unit) (fun _ => some (.long (-2))) (fun _ => True) (fun u => CB D ((fun _ => []) u) (va_A [(o, .inr (10, (dsF b)))] sz)) (va_A [(o, .inr (10, (dsF b)))] sz)) 0 0 (va_A [(o, .inr (10, (dsF b)))] sz) := by
  refine Met.ofW (cc := cX10_found) (maxL := 6) (ret := (some .long)) (by decide) rfl ?_
  intro p e s m args below meth c s₁ B hml hv
  obtain ⟨rfl, hsz, hP, hKN, hD0⟩ := hv
  have hx := B.exec
  have hb := B.bytes
  have hr := B.returns
  have hts := atoms_spec (ws := .code yX10_found cX10_found 6 (some .long) :: GW) B.pre
  have hg : ∀ w ∈ GW, w.before _ s = true := fun w h => hts w (List.mem_cons_of_mem _ h)
  have hown : s.vm.findClass RX10 = some m.cls := findClass_of_methodNamed B.named
  have hlocks := B.notSynchronized
  subst hsz
  have hD := hD0.self (sz := s.heap.size)
  generalize hAe : va_A [(o, .inr (10, (dsF b)))] s.heap.size = A at hD ⊢
  have hA : ∀ q : Nat, s.heap.size ≤ q → A q := fun q h => by rw [← hAe]; exact Or.inr h
  have hl := lv_entry ([.ref o, .int p0, .int p1, .int p2, .int p3]) (n := 6) (Nat.le_of_ble_eq_true rfl)
  rw [lg_entry_eq]
  generalize (lg_sl ([.ref o, .int p0, .int p1, .int p2, .int p3]) ++ List.replicate (6 - (lg_sl ([.ref o, .int p0, .int p1, .int p2, .int p3])).length) Slot.unset).toArray = ls at hl ⊢
  have hl : lv_has ls 6 [(0, .ref o), (1, .int p0), (2, .int p1), (3, .int p2), (4, .int p3)] := hl
  refine w_start (A0 := A) hP (fun H locs hP hS => ?_)
  refine lv_aload_n hx hb dX10_found_0 rfl (lv_at hl 0 rfl) ?_
  refine lv_iload_n hx hb dX10_found_1 rfl (lv_at hl 1 rfl) ?_
  refine cg (wc := [(o, .inr (10, (dsF b)))]) (wr := []) [0] [] (rn_V (As := [.int p0]) (rest := []) (b := o) (c_searchAt l D Y Z H.size o b p0) ⟨hx, hb, hml, hown, hg⟩ lk_X10_259 ⟨CP.blind, va_recv hKN.1 hP (ci := 10) (q0 := 0) rfl rfl, CP.at (hP.sub [0] rfl) hKN (hD.sub [0] (by decide) rfl)⟩ ⟨⟨rfl, rfl⟩, ⟨Nat.le_of_ble_eq_true rfl, Nat.le_of_ble_eq_true rfl⟩, ⟨Nat.le_of_ble_eq_true rfl, Nat.le_of_ble_eq_true rfl⟩⟩ hl.1 rfl (Nat.le_of_ble_eq_true rfl) dX10_found_2) hP hD hS hA rfl rfl (by decide) (by decide) (fun u1 H locs w2 hP hD hS => ?_)
  refine W.eq (g2 := F0 m 5 ls [.null]) rfl ?_
  have hP : va_P D vwCl [(o, .inr (10, (dsF b)))] H := hP
  have hD : va_D A [(o, .inr (10, (dsF b)))] := hD
  refine lv_astoreN (lv' := [(5, .null), (0, .ref o), (1, .int p0), (2, .int p1), (3, .int p2), (4, .int p3)]) hx hb dX10_found_5 hl (by decide) rfl (fun ls hl => ?_)
  refine lv_aloadN hx hb dX10_found_7 (lv_at hl 0 rfl) ?_
  refine lv_ifnullN (tgt := 38) hx hb dX10_found_9 (by decide) ?_
  refine lv_ldc2 (v := (-2)) hx hb hown (hg _ kw_852) dX10_found_38 ?_
  refine W.widen (k := 0) (n := 0) (Nat.le_of_ble_eq_true rfl) (Nat.le_of_ble_eq_true rfl) ?_
  exact W.lret (v := (-2)) hx hb hr (fun t ht hW => ⟨⟨(), rfl, trivial, CB.nil⟩, hS.F ht⟩) hS.2.2 dX10_found_41
set_option maxHeartbeats 4000000 in
set_option maxRecDepth 100000 in
theorem y_found (l : Launch) (D : va_G) (Y : Nat → ClassId) (Z : Nat → Nat) (sz : Nat) (o : Nat) (a : Nat → Nat) (p0 p1 p2 p3 : Int32) : Met l yX11_found (.code yX11_found cX11_found 5 (some .long) :: GW) ({ frames := 1, cells := 0, slots := 0, locals := 22 }) (va_Pc [.ref o, .int p0, .int p1, .int p2, .int p3] (CP D Y Z [(o, .inr (11, (moF a))), ((a 3), .inl (Y 0, 3, .inl (fun _ => 0)))] sz)) (QG (S := Unit) (fun _ => some (.long (-2))) (fun _ => True) (fun u => CB D ((fun _ => []) u) (va_A [(o, .inr (11, (moF a))), ((a 3), .inl (Y 0, 3, .inl (fun _ => 0)))] sz)) (va_A [(o, .inr (11, (moF a))), ((a 3), .inl (Y 0, 3, .inl (fun _ => 0)))] sz)) 0 0 (va_A [(o, .inr (11, (moF a))), ((a 3), .inl (Y 0, 3, .inl (fun _ => 0)))] sz) := by
  refine Met.ofW (cc := cX11_found) (maxL := 5) (ret := (some .long)) (by decide) rfl ?_
  intro p e s m args below meth c s₁ B hml hv
  obtain ⟨rfl, hsz, hP, hKN, hD0⟩ := hv
  have hx := B.exec
  have hb := B.bytes
  have hr := B.returns
  have hts := atoms_spec (ws := .code yX11_found cX11_found 5 (some .long) :: GW) B.pre
  have hg : ∀ w ∈ GW, w.before _ s = true := fun w h => hts w (List.mem_cons_of_mem _ h)
  have hown : s.vm.findClass RX11 = some m.cls := findClass_of_methodNamed B.named
  have hlocks := B.notSynchronized
  subst hsz
  have hD := hD0.self (sz := s.heap.size)
  generalize hAe : va_A [(o, .inr (11, (moF a))), ((a 3), .inl (Y 0, 3, .inl (fun _ => 0)))] s.heap.size = A at hD ⊢
  have hA : ∀ q : Nat, s.heap.size ≤ q → A q := fun q h => by rw [← hAe]; exact Or.inr h
  have hl := lv_entry ([.ref o, .int p0, .int p1, .int p2, .int p3]) (n := 5) (Nat.le_of_ble_eq_true rfl)
  rw [lg_entry_eq]
  generalize (lg_sl ([.ref o, .int p0, .int p1, .int p2, .int p3]) ++ List.replicate (5 - (lg_sl ([.ref o, .int p0, .int p1, .int p2, .int p3])).length) Slot.unset).toArray = ls at hl ⊢
  have hl : lv_has ls 5 [(0, .ref o), (1, .int p0), (2, .int p1), (3, .int p2), (4, .int p3)] := hl
  refine w_start (A0 := A) hP (fun H locs hP hS => ?_)
  refine lv_aload_n hx hb dX11_found_0 rfl (lv_at hl 0 rfl) ?_
  refine lv_iconst (v := 1) hx hb dX11_found_1 (by decide) ?_
  refine lv_iload_n hx hb dX11_found_2 rfl (lv_at hl 1 rfl) ?_
  refine cg (wc := [(o, .inr (11, (moF a))), ((a 3), .inl (Y 0, 3, .inl (fun _ => 0)))]) (wr := []) [0, 1] [] (rn_V (As := [.int 1, .int p0]) (rest := []) (b := o) (m_isText1 l D Y Z H.size o a p0) ⟨hx, hb, hml, hown, hg⟩ lk_X11_366 ⟨CP.blind, va_recv hKN.1 hP (ci := 11) (q0 := 0) rfl rfl, CP.at (hP.sub [0, 1] rfl) hKN (hD.sub [0, 1] (by decide) rfl)⟩ ⟨⟨rfl, rfl⟩, ⟨Nat.le_of_ble_eq_true rfl, Nat.le_of_ble_eq_true rfl⟩, ⟨Nat.le_of_ble_eq_true rfl, Nat.le_of_ble_eq_true rfl⟩⟩ hl.1 rfl (Nat.le_of_ble_eq_true rfl) dX11_found_3) hP hD hS hA rfl rfl (by decide) (by decide) (fun u1 H locs w2 hP hD hS => ?_)
  refine W.eq (g2 := F0 m 6 ls [.int 0]) rfl ?_
  have hP : va_P D vwCl [(o, .inr (11, (moF a))), ((a 3), .inl (Y 0, 3, .inl (fun _ => 0)))] H := hP
  have hD : va_D A [(o, .inr (11, (moF a))), ((a 3), .inl (Y 0, 3, .inl (fun _ => 0)))] := hD
  refine lv_if_eq (tgt := 42) hx hb dX11_found_6 (by decide) (fun c3 => ?_) (fun c3 => ?_)
  rotate_left
  · exact absurd c3 (by decide)
  refine lv_ldc2 (v := (-2)) hx hb hown (hg _ kw_1707) dX11_found_42 ?_
  refine W.widen (k := 0) (n := 0) (Nat.le_of_ble_eq_true rfl) (Nat.le_of_ble_eq_true rfl) ?_
  exact W.lret (v := (-2)) hx hb hr (fun t ht hW => ⟨⟨(), rfl, trivial, CB.nil⟩, hS.F ht⟩) hS.2.2 dX11_found_45
set_option maxHeartbeats 4000000 in
set_option maxRecDepth 100000 in
theorem x_spread (l : Launch) (D : va_G) (Y : Nat → ClassId) (Z : Nat → Nat) (sz : Nat) (o : Nat) (b : Nat → Nat) (p0 : Int32) : Met l yX10_spread (.code yX10_spread cX10_spread 2 (some .long) :: GW) ({ frames := 2, cells := 0, slots := 0, locals := 42 }) (va_Pc [.ref o, .int p0] (CP D Y Z [(o, .inr (10, (dsF b))), ((b 0), .inr (6, (skF b)))] sz)) (QG (S := Unit) (fun _ => some (.long (-1))) (fun _ => True) (fun u => CB D ((fun _ => []) u) (va_A [(o, .inr (10, (dsF b))), ((b 0), .inr (6, (skF b)))] sz)) (va_A [(o, .inr (10, (dsF b))), ((b 0), .inr (6, (skF b)))] sz)) 0 0 (va_A [(o, .inr (10, (dsF b))), ((b 0), .inr (6, (skF b)))] sz) := by
  refine Met.ofW (cc := cX10_spread) (maxL := 2) (ret := (some .long)) (by decide) rfl ?_
  intro p e s m args below meth c s₁ B hml hv
  obtain ⟨rfl, hsz, hP, hKN, hD0⟩ := hv
  have hx := B.exec
  have hb := B.bytes
  have hr := B.returns
  have hts := atoms_spec (ws := .code yX10_spread cX10_spread 2 (some .long) :: GW) B.pre
  have hg : ∀ w ∈ GW, w.before _ s = true := fun w h => hts w (List.mem_cons_of_mem _ h)
  have hown : s.vm.findClass RX10 = some m.cls := findClass_of_methodNamed B.named
  have hlocks := B.notSynchronized
  subst hsz
  have hD := hD0.self (sz := s.heap.size)
  generalize hAe : va_A [(o, .inr (10, (dsF b))), ((b 0), .inr (6, (skF b)))] s.heap.size = A at hD ⊢
  have hA : ∀ q : Nat, s.heap.size ≤ q → A q := fun q h => by rw [← hAe]; exact Or.inr h
  have hl := lv_entry ([.ref o, .int p0]) (n := 2) (Nat.le_of_ble_eq_true rfl)
  rw [lg_entry_eq]
  generalize (lg_sl ([.ref o, .int p0]) ++ List.replicate (2 - (lg_sl ([.ref o, .int p0])).length) Slot.unset).toArray = ls at hl ⊢
  have hl : lv_has ls 2 [(0, .ref o), (1, .int p0)] := hl
  refine w_start (A0 := A) hP (fun H locs hP hS => ?_)
  refine lv_aload_n hx hb dX10_spread_0 rfl (lv_at hl 0 rfl) ?_
  refine lv_iload_n hx hb dX10_spread_1 rfl (lv_at hl 1 rfl) ?_
  refine cg (wc := [(o, .inr (10, (dsF b))), ((b 0), .inr (6, (skF b)))]) (wr := []) [0, 1] [] (rn_V (As := [.int p0]) (rest := []) (b := o) (c_isStar l D Y Z H.size o b p0) ⟨hx, hb, hml, hown, hg⟩ lk_X10_137 ⟨CP.blind, va_recv hKN.1 hP (ci := 10) (q0 := 0) rfl rfl, CP.at (hP.sub [0, 1] rfl) hKN (hD.sub [0, 1] (by decide) rfl)⟩ ⟨⟨rfl, rfl⟩, ⟨Nat.le_of_ble_eq_true rfl, Nat.le_of_ble_eq_true rfl⟩, ⟨Nat.le_of_ble_eq_true rfl, Nat.le_of_ble_eq_true rfl⟩⟩ hl.1 rfl (Nat.le_of_ble_eq_true rfl) dX10_spread_2) hP hD hS hA rfl rfl (by decide) (by decide) (fun u1 H locs w2 hP hD hS => ?_)
  refine W.eq (g2 := F0 m 5 ls [.int 0]) rfl ?_
  have hP : va_P D vwCl [(o, .inr (10, (dsF b))), ((b 0), .inr (6, (skF b)))] H := hP
  have hD : va_D A [(o, .inr (10, (dsF b))), ((b 0), .inr (6, (skF b)))] := hD
  refine lv_if_ne (tgt := 12) hx hb dX10_spread_5 (by decide) (fun c3 => ?_) (fun c3 => ?_)
  · exact absurd c3 (by decide)
  refine lv_ldc2 (v := (-1)) hx hb hown (hg _ kw_899) dX10_spread_8 ?_
  refine W.widen (k := 0) (n := 0) (Nat.le_of_ble_eq_true rfl) (Nat.le_of_ble_eq_true rfl) ?_
  exact W.lret (v := (-1)) hx hb hr (fun t ht hW => ⟨⟨(), rfl, trivial, CB.nil⟩, hS.F ht⟩) hS.2.2 dX10_spread_11
set_option maxHeartbeats 4000000 in
set_option maxRecDepth 100000 in
theorem y_spread (l : Launch) (D : va_G) (Y : Nat → ClassId) (Z : Nat → Nat) (sz : Nat) (o : Nat) (a : Nat → Nat) (p0 : Int32) : Met l yX11_spread (.code yX11_spread cX11_spread 2 (some .long) :: GW) ({ frames := 1, cells := 0, slots := 0, locals := 21 }) (va_Pc [.ref o, .int p0] (CP D Y Z [(o, .inr (11, (moF a))), ((a 0), .inl (Y 0, 7533, .inl tolF))] sz)) (QG (S := Unit) (fun _ => some (.long (-1))) (fun _ => True) (fun u => CB D ((fun _ => []) u) (va_A [(o, .inr (11, (moF a))), ((a 0), .inl (Y 0, 7533, .inl tolF))] sz)) (va_A [(o, .inr (11, (moF a))), ((a 0), .inl (Y 0, 7533, .inl tolF))] sz)) 0 0 (va_A [(o, .inr (11, (moF a))), ((a 0), .inl (Y 0, 7533, .inl tolF))] sz) := by
  refine Met.ofW (cc := cX11_spread) (maxL := 2) (ret := (some .long)) (by decide) rfl ?_
  intro p e s m args below meth c s₁ B hml hv
  obtain ⟨rfl, hsz, hP, hKN, hD0⟩ := hv
  have hx := B.exec
  have hb := B.bytes
  have hr := B.returns
  have hts := atoms_spec (ws := .code yX11_spread cX11_spread 2 (some .long) :: GW) B.pre
  have hg : ∀ w ∈ GW, w.before _ s = true := fun w h => hts w (List.mem_cons_of_mem _ h)
  have hown : s.vm.findClass RX11 = some m.cls := findClass_of_methodNamed B.named
  have hlocks := B.notSynchronized
  subst hsz
  have hD := hD0.self (sz := s.heap.size)
  generalize hAe : va_A [(o, .inr (11, (moF a))), ((a 0), .inl (Y 0, 7533, .inl tolF))] s.heap.size = A at hD ⊢
  have hA : ∀ q : Nat, s.heap.size ≤ q → A q := fun q h => by rw [← hAe]; exact Or.inr h
  have hl := lv_entry ([.ref o, .int p0]) (n := 2) (Nat.le_of_ble_eq_true rfl)
  rw [lg_entry_eq]
  generalize (lg_sl ([.ref o, .int p0]) ++ List.replicate (2 - (lg_sl ([.ref o, .int p0])).length) Slot.unset).toArray = ls at hl ⊢
  have hl : lv_has ls 2 [(0, .ref o), (1, .int p0)] := hl
  refine w_start (A0 := A) hP (fun H locs hP hS => ?_)
  refine lv_aload_n hx hb dX11_spread_0 rfl (lv_at hl 0 rfl) ?_
  refine lv_iload_n hx hb dX11_spread_1 rfl (lv_at hl 1 rfl) ?_
  refine cg (wc := [(o, .inr (11, (moF a))), ((a 0), .inl (Y 0, 7533, .inl tolF))]) (wr := []) [0, 1] [] (rn_V (As := [.int p0]) (rest := []) (b := o) (m_isStar l D Y Z H.size o a p0) ⟨hx, hb, hml, hown, hg⟩ lk_X11_108 ⟨CP.blind, va_recv hKN.1 hP (ci := 11) (q0 := 0) rfl rfl, CP.at (hP.sub [0, 1] rfl) hKN (hD.sub [0, 1] (by decide) rfl)⟩ ⟨⟨rfl, rfl⟩, ⟨Nat.le_of_ble_eq_true rfl, Nat.le_of_ble_eq_true rfl⟩, ⟨Nat.le_of_ble_eq_true rfl, Nat.le_of_ble_eq_true rfl⟩⟩ hl.1 rfl (Nat.le_of_ble_eq_true rfl) dX11_spread_2) hP hD hS hA rfl rfl (by decide) (by decide) (fun u1 H locs w2 hP hD hS => ?_)
  refine W.eq (g2 := F0 m 5 ls [.int 0]) rfl ?_
  have hP : va_P D vwCl [(o, .inr (11, (moF a))), ((a 0), .inl (Y 0, 7533, .inl tolF))] H := hP
  have hD : va_D A [(o, .inr (11, (moF a))), ((a 0), .inl (Y 0, 7533, .inl tolF))] := hD
  refine lv_if_ne (tgt := 12) hx hb dX11_spread_5 (by decide) (fun c3 => ?_) (fun c3 => ?_)
  · exact absurd c3 (by decide)
  refine lv_ldc2 (v := (-1)) hx hb hown (hg _ kw_1650) dX11_spread_8 ?_
  refine W.widen (k := 0) (n := 0) (Nat.le_of_ble_eq_true rfl) (Nat.le_of_ble_eq_true rfl) ?_
  exact W.lret (v := (-1)) hx hb hr (fun t ht hW => ⟨⟨(), rfl, trivial, CB.nil⟩, hS.F ht⟩) hS.2.2 dX11_spread_11
set_option maxHeartbeats 4000000 in
set_option maxRecDepth 100000 in
theorem x_catches (l : Launch) (D : va_G) (Y : Nat → ClassId) (Z : Nat → Nat) (sz : Nat) (o : Nat) (b : Nat → Nat) (p0 p1 : Int32) : Met l yX10_catches (.code yX10_catches cX10_catches 5 (some .int) :: GW) ({ frames := 2, cells := 0, slots := 0, locals := 43 }) (va_Pc [.ref o, .int p0, .int p1] (CP D Y Z [(o, .inr (10, (dsF b))), ((b 0), .inr (6, (skF b)))] sz)) (QG (S := Unit) (fun _ => some (.int (-1))) (fun _ => True) (fun u => CB D ((fun _ => []) u) (va_A [(o, .inr (10, (dsF b))), ((b 0), .inr (6, (skF b)))] sz)) (va_A [(o, .inr (10, (dsF b))), ((b 0), .inr (6, (skF b)))] sz)) 0 0 (va_A [(o, .inr (10, (dsF b))), ((b 0), .inr (6, (skF b)))] sz) := by
  refine Met.ofW (cc := cX10_catches) (maxL := 5) (ret := (some .int)) (by decide) rfl ?_
  intro p e s m args below meth c s₁ B hml hv
  obtain ⟨rfl, hsz, hP, hKN, hD0⟩ := hv
  have hx := B.exec
  have hb := B.bytes
  have hr := B.returns
  have hts := atoms_spec (ws := .code yX10_catches cX10_catches 5 (some .int) :: GW) B.pre
  have hg : ∀ w ∈ GW, w.before _ s = true := fun w h => hts w (List.mem_cons_of_mem _ h)
  have hown : s.vm.findClass RX10 = some m.cls := findClass_of_methodNamed B.named
  have hlocks := B.notSynchronized
  subst hsz
  have hD := hD0.self (sz := s.heap.size)
  generalize hAe : va_A [(o, .inr (10, (dsF b))), ((b 0), .inr (6, (skF b)))] s.heap.size = A at hD ⊢
  have hA : ∀ q : Nat, s.heap.size ≤ q → A q := fun q h => by rw [← hAe]; exact Or.inr h
  have hl := lv_entry ([.ref o, .int p0, .int p1]) (n := 5) (Nat.le_of_ble_eq_true rfl)
  rw [lg_entry_eq]
  generalize (lg_sl ([.ref o, .int p0, .int p1]) ++ List.replicate (5 - (lg_sl ([.ref o, .int p0, .int p1])).length) Slot.unset).toArray = ls at hl ⊢
  have hl : lv_has ls 5 [(0, .ref o), (1, .int p0), (2, .int p1)] := hl
  refine w_start (A0 := A) hP (fun H locs hP hS => ?_)
  refine lv_aload_n hx hb dX10_catches_0 rfl (lv_at hl 0 rfl) ?_
  refine lv_iload_n hx hb dX10_catches_1 rfl (lv_at hl 1 rfl) ?_
  refine cg (wc := [(o, .inr (10, (dsF b)))]) (wr := [((b 0), .inr (6, (skF b)))]) [0] [1] (rn_V (As := [.int p0]) (rest := []) (b := o) (c_searchAt l D Y Z H.size o b p0) ⟨hx, hb, hml, hown, hg⟩ lk_X10_259 ⟨CP.blind, va_recv hKN.1 hP (ci := 10) (q0 := 0) rfl rfl, CP.at (hP.sub [0] rfl) hKN (hD.sub [0] (by decide) rfl)⟩ ⟨⟨rfl, rfl⟩, ⟨Nat.le_of_ble_eq_true rfl, Nat.le_of_ble_eq_true rfl⟩, ⟨Nat.le_of_ble_eq_true rfl, Nat.le_of_ble_eq_true rfl⟩⟩ hl.1 rfl (Nat.le_of_ble_eq_true rfl) dX10_catches_2) hP hD hS hA rfl rfl (by decide) (by decide) (fun u1 H locs w2 hP hD hS => ?_)
  refine W.eq (g2 := F0 m 5 ls [.null]) rfl ?_
  have hP : va_P D vwCl [((b 0), .inr (6, (skF b))), (o, .inr (10, (dsF b)))] H := hP
  have hD : va_D A [((b 0), .inr (6, (skF b))), (o, .inr (10, (dsF b)))] := hD
  refine lv_astore_nN (lv' := [(3, .null), (0, .ref o), (1, .int p0), (2, .int p1)]) hx hb dX10_catches_5 rfl hl (by decide) rfl (fun ls hl => ?_)
  refine lv_aload_n hx hb dX10_catches_6 rfl (lv_at hl 1 rfl) ?_
  refine va_get (D := D) (ci := 10) (v := .ref (b 0)) (C := RX10) (T := TX10) (N := 20) hx hb hg inGX10 hown hKN.1 hP 1 rfl rfl 0 (by decide) (hg _ kw_349) (fun _ h9 => h9) rfl dX10_catches_7 ?_
  refine lv_iload_n hx hb dX10_catches_10 rfl (lv_at hl 3 rfl) ?_
  refine cg (wc := [((b 0), .inr (6, (skF b)))]) (wr := [(o, .inr (10, (dsF b)))]) [0] [1] (rn_NV (As := [.int p1]) (rest := []) (b := (b 0)) (c_worldAt l D Y Z H.size (b 0) b p1) ⟨hx, hb, hml, hown, hg⟩ hKN lk_X10_280 ⟨CP.blind, va_recv hKN.1 hP (ci := 6) (q0 := 0) rfl rfl, CP.at (hP.sub [0] rfl) hKN (hD.sub [0] (by decide) rfl)⟩ ⟨⟨rfl, rfl⟩, ⟨Nat.le_of_ble_eq_true rfl, Nat.le_of_ble_eq_true rfl⟩, ⟨Nat.le_of_ble_eq_true rfl, Nat.le_of_ble_eq_true rfl⟩⟩ hl.1 rfl (Nat.le_of_ble_eq_true rfl) dX10_catches_11) hP hD hS hA rfl rfl (by decide) (by decide) (fun u3 H locs w4 hP hD hS => ?_)
  refine W.eq (g2 := F0 m 14 ls [.null]) rfl ?_
  have hP : va_P D vwCl [(o, .inr (10, (dsF b))), ((b 0), .inr (6, (skF b)))] H := hP
  have hD : va_D A [(o, .inr (10, (dsF b))), ((b 0), .inr (6, (skF b)))] := hD
  refine lv_astoreN (lv' := [(4, .null), (3, .null), (0, .ref o), (1, .int p0), (2, .int p1)]) hx hb dX10_catches_14 hl (by decide) rfl (fun ls hl => ?_)
  refine lv_aload_nN hx hb dX10_catches_16 rfl (lv_at hl 1 rfl) ?_
  refine lv_ifnullN (tgt := 33) hx hb dX10_catches_17 (by decide) ?_
  refine lv_iconst (v := (-1)) hx hb dX10_catches_33 (by decide) ?_
  refine W.widen (k := 0) (n := 0) (Nat.le_of_ble_eq_true rfl) (Nat.le_of_ble_eq_true rfl) ?_
  exact W.iret (v := (-1)) hx hb hr (fun t ht hW => ⟨⟨(), rfl, trivial, CB.nil⟩, hS.F ht⟩) hS.2.2 dX10_catches_34
set_option maxHeartbeats 4000000 in
set_option maxRecDepth 100000 in
theorem y_catches (l : Launch) (D : va_G) (Y : Nat → ClassId) (Z : Nat → Nat) (sz : Nat) (o : Nat) (a : Nat → Nat) (p0 p1 : Int32) : Met l yX11_catches (.code yX11_catches cX11_catches 3 (some .int) :: GW) ({ frames := 1, cells := 0, slots := 0, locals := 22 }) (va_Pc [.ref o, .int p0, .int p1] (CP D Y Z [(o, .inr (11, (moF a))), ((a 3), .inl (Y 0, 3, .inl (fun _ => 0)))] sz)) (QG (S := Unit) (fun _ => some (.int (-1))) (fun _ => True) (fun u => CB D ((fun _ => []) u) (va_A [(o, .inr (11, (moF a))), ((a 3), .inl (Y 0, 3, .inl (fun _ => 0)))] sz)) (va_A [(o, .inr (11, (moF a))), ((a 3), .inl (Y 0, 3, .inl (fun _ => 0)))] sz)) 0 0 (va_A [(o, .inr (11, (moF a))), ((a 3), .inl (Y 0, 3, .inl (fun _ => 0)))] sz) := by
  refine Met.ofW (cc := cX11_catches) (maxL := 3) (ret := (some .int)) (by decide) rfl ?_
  intro p e s m args below meth c s₁ B hml hv
  obtain ⟨rfl, hsz, hP, hKN, hD0⟩ := hv
  have hx := B.exec
  have hb := B.bytes
  have hr := B.returns
  have hts := atoms_spec (ws := .code yX11_catches cX11_catches 3 (some .int) :: GW) B.pre
  have hg : ∀ w ∈ GW, w.before _ s = true := fun w h => hts w (List.mem_cons_of_mem _ h)
  have hown : s.vm.findClass RX11 = some m.cls := findClass_of_methodNamed B.named
  have hlocks := B.notSynchronized
  subst hsz
  have hD := hD0.self (sz := s.heap.size)
  generalize hAe : va_A [(o, .inr (11, (moF a))), ((a 3), .inl (Y 0, 3, .inl (fun _ => 0)))] s.heap.size = A at hD ⊢
  have hA : ∀ q : Nat, s.heap.size ≤ q → A q := fun q h => by rw [← hAe]; exact Or.inr h
  have hl := lv_entry ([.ref o, .int p0, .int p1]) (n := 3) (Nat.le_of_ble_eq_true rfl)
  rw [lg_entry_eq]
  generalize (lg_sl ([.ref o, .int p0, .int p1]) ++ List.replicate (3 - (lg_sl ([.ref o, .int p0, .int p1])).length) Slot.unset).toArray = ls at hl ⊢
  have hl : lv_has ls 3 [(0, .ref o), (1, .int p0), (2, .int p1)] := hl
  refine w_start (A0 := A) hP (fun H locs hP hS => ?_)
  refine lv_aload_n hx hb dX11_catches_0 rfl (lv_at hl 0 rfl) ?_
  refine lv_iconst (v := 1) hx hb dX11_catches_1 (by decide) ?_
  refine lv_iload_n hx hb dX11_catches_2 rfl (lv_at hl 1 rfl) ?_
  refine cg (wc := [(o, .inr (11, (moF a))), ((a 3), .inl (Y 0, 3, .inl (fun _ => 0)))]) (wr := []) [0, 1] [] (rn_V (As := [.int 1, .int p0]) (rest := []) (b := o) (m_isText1 l D Y Z H.size o a p0) ⟨hx, hb, hml, hown, hg⟩ lk_X11_366 ⟨CP.blind, va_recv hKN.1 hP (ci := 11) (q0 := 0) rfl rfl, CP.at (hP.sub [0, 1] rfl) hKN (hD.sub [0, 1] (by decide) rfl)⟩ ⟨⟨rfl, rfl⟩, ⟨Nat.le_of_ble_eq_true rfl, Nat.le_of_ble_eq_true rfl⟩, ⟨Nat.le_of_ble_eq_true rfl, Nat.le_of_ble_eq_true rfl⟩⟩ hl.1 rfl (Nat.le_of_ble_eq_true rfl) dX11_catches_3) hP hD hS hA rfl rfl (by decide) (by decide) (fun u1 H locs w2 hP hD hS => ?_)
  refine W.eq (g2 := F0 m 6 ls [.int 0]) rfl ?_
  have hP : va_P D vwCl [(o, .inr (11, (moF a))), ((a 3), .inl (Y 0, 3, .inl (fun _ => 0)))] H := hP
  have hD : va_D A [(o, .inr (11, (moF a))), ((a 3), .inl (Y 0, 3, .inl (fun _ => 0)))] := hD
  refine lv_if_eq (tgt := 17) hx hb dX11_catches_6 (by decide) (fun c3 => ?_) (fun c3 => ?_)
  rotate_left
  · exact absurd c3 (by decide)
  refine lv_iconst (v := (-1)) hx hb dX11_catches_17 (by decide) ?_
  refine lv_goto (tgt := 35) hx hb dX11_catches_18 (by decide) ?_
  refine W.widen (k := 0) (n := 0) (Nat.le_of_ble_eq_true rfl) (Nat.le_of_ble_eq_true rfl) ?_
  exact W.iret (v := (-1)) hx hb hr (fun t ht hW => ⟨⟨(), rfl, trivial, CB.nil⟩, hS.F ht⟩) hS.2.2 dX11_catches_35
set_option maxHeartbeats 4000000 in
set_option maxRecDepth 100000 in
theorem x_share (l : Launch) (D : va_G) (Y : Nat → ClassId) (Z : Nat → Nat) (sz : Nat) (o : Nat) (b : Nat → Nat) (p0 p1 : Int32) : Met l yX10_share (.code yX10_share cX10_share 4 (some .int) :: GW) ({ frames := 2, cells := 0, slots := 0, locals := 43 }) (va_Pc [.ref o, .int p0, .int p1] (CP D Y Z [(o, .inr (10, (dsF b)))] sz)) (QG (S := Unit) (fun _ => some (.int (-1))) (fun _ => True) (fun u => CB D ((fun _ => []) u) (va_A [(o, .inr (10, (dsF b)))] sz)) (va_A [(o, .inr (10, (dsF b)))] sz)) 0 0 (va_A [(o, .inr (10, (dsF b)))] sz) := by
  refine Met.ofW (cc := cX10_share) (maxL := 4) (ret := (some .int)) (by decide) rfl ?_
  intro p e s m args below meth c s₁ B hml hv
  obtain ⟨rfl, hsz, hP, hKN, hD0⟩ := hv
  have hx := B.exec
  have hb := B.bytes
  have hr := B.returns
  have hts := atoms_spec (ws := .code yX10_share cX10_share 4 (some .int) :: GW) B.pre
  have hg : ∀ w ∈ GW, w.before _ s = true := fun w h => hts w (List.mem_cons_of_mem _ h)
  have hown : s.vm.findClass RX10 = some m.cls := findClass_of_methodNamed B.named
  have hlocks := B.notSynchronized
  subst hsz
  have hD := hD0.self (sz := s.heap.size)
  generalize hAe : va_A [(o, .inr (10, (dsF b)))] s.heap.size = A at hD ⊢
  have hA : ∀ q : Nat, s.heap.size ≤ q → A q := fun q h => by rw [← hAe]; exact Or.inr h
  have hl := lv_entry ([.ref o, .int p0, .int p1]) (n := 4) (Nat.le_of_ble_eq_true rfl)
  rw [lg_entry_eq]
  generalize (lg_sl ([.ref o, .int p0, .int p1]) ++ List.replicate (4 - (lg_sl ([.ref o, .int p0, .int p1])).length) Slot.unset).toArray = ls at hl ⊢
  have hl : lv_has ls 4 [(0, .ref o), (1, .int p0), (2, .int p1)] := hl
  refine w_start (A0 := A) hP (fun H locs hP hS => ?_)
  refine lv_aload_n hx hb dX10_share_0 rfl (lv_at hl 0 rfl) ?_
  refine lv_iload_n hx hb dX10_share_1 rfl (lv_at hl 1 rfl) ?_
  refine cg (wc := [(o, .inr (10, (dsF b)))]) (wr := []) [0] [] (rn_V (As := [.int p0]) (rest := []) (b := o) (c_searchAt l D Y Z H.size o b p0) ⟨hx, hb, hml, hown, hg⟩ lk_X10_259 ⟨CP.blind, va_recv hKN.1 hP (ci := 10) (q0 := 0) rfl rfl, CP.at (hP.sub [0] rfl) hKN (hD.sub [0] (by decide) rfl)⟩ ⟨⟨rfl, rfl⟩, ⟨Nat.le_of_ble_eq_true rfl, Nat.le_of_ble_eq_true rfl⟩, ⟨Nat.le_of_ble_eq_true rfl, Nat.le_of_ble_eq_true rfl⟩⟩ hl.1 rfl (Nat.le_of_ble_eq_true rfl) dX10_share_2) hP hD hS hA rfl rfl (by decide) (by decide) (fun u1 H locs w2 hP hD hS => ?_)
  refine W.eq (g2 := F0 m 5 ls [.null]) rfl ?_
  have hP : va_P D vwCl [(o, .inr (10, (dsF b)))] H := hP
  have hD : va_D A [(o, .inr (10, (dsF b)))] := hD
  refine lv_astore_nN (lv' := [(3, .null), (0, .ref o), (1, .int p0), (2, .int p1)]) hx hb dX10_share_5 rfl hl (by decide) rfl (fun ls hl => ?_)
  refine lv_aload_nN hx hb dX10_share_6 rfl (lv_at hl 0 rfl) ?_
  refine lv_ifnullN (tgt := 19) hx hb dX10_share_7 (by decide) ?_
  refine lv_iconst (v := (-1)) hx hb dX10_share_19 (by decide) ?_
  refine W.widen (k := 0) (n := 0) (Nat.le_of_ble_eq_true rfl) (Nat.le_of_ble_eq_true rfl) ?_
  exact W.iret (v := (-1)) hx hb hr (fun t ht hW => ⟨⟨(), rfl, trivial, CB.nil⟩, hS.F ht⟩) hS.2.2 dX10_share_20
set_option maxHeartbeats 4000000 in
set_option maxRecDepth 100000 in
theorem y_share (l : Launch) (D : va_G) (Y : Nat → ClassId) (Z : Nat → Nat) (sz : Nat) (o : Nat) (a : Nat → Nat) (p0 p1 : Int32) : Met l yX11_share (.code yX11_share cX11_share 6 (some .int) :: GW) ({ frames := 1, cells := 0, slots := 0, locals := 22 }) (va_Pc [.ref o, .int p0, .int p1] (CP D Y Z [(o, .inr (11, (moF a))), ((a 3), .inl (Y 0, 3, .inl (fun _ => 0)))] sz)) (QG (S := Unit) (fun _ => some (.int (-1))) (fun _ => True) (fun u => CB D ((fun _ => []) u) (va_A [(o, .inr (11, (moF a))), ((a 3), .inl (Y 0, 3, .inl (fun _ => 0)))] sz)) (va_A [(o, .inr (11, (moF a))), ((a 3), .inl (Y 0, 3, .inl (fun _ => 0)))] sz)) 0 0 (va_A [(o, .inr (11, (moF a))), ((a 3), .inl (Y 0, 3, .inl (fun _ => 0)))] sz) := by
  refine Met.ofW (cc := cX11_share) (maxL := 6) (ret := (some .int)) (by decide) rfl ?_
  intro p e s m args below meth c s₁ B hml hv
  obtain ⟨rfl, hsz, hP, hKN, hD0⟩ := hv
  have hx := B.exec
  have hb := B.bytes
  have hr := B.returns
  have hts := atoms_spec (ws := .code yX11_share cX11_share 6 (some .int) :: GW) B.pre
  have hg : ∀ w ∈ GW, w.before _ s = true := fun w h => hts w (List.mem_cons_of_mem _ h)
  have hown : s.vm.findClass RX11 = some m.cls := findClass_of_methodNamed B.named
  have hlocks := B.notSynchronized
  subst hsz
  have hD := hD0.self (sz := s.heap.size)
  generalize hAe : va_A [(o, .inr (11, (moF a))), ((a 3), .inl (Y 0, 3, .inl (fun _ => 0)))] s.heap.size = A at hD ⊢
  have hA : ∀ q : Nat, s.heap.size ≤ q → A q := fun q h => by rw [← hAe]; exact Or.inr h
  have hl := lv_entry ([.ref o, .int p0, .int p1]) (n := 6) (Nat.le_of_ble_eq_true rfl)
  rw [lg_entry_eq]
  generalize (lg_sl ([.ref o, .int p0, .int p1]) ++ List.replicate (6 - (lg_sl ([.ref o, .int p0, .int p1])).length) Slot.unset).toArray = ls at hl ⊢
  have hl : lv_has ls 6 [(0, .ref o), (1, .int p0), (2, .int p1)] := hl
  refine w_start (A0 := A) hP (fun H locs hP hS => ?_)
  refine lv_aload_n hx hb dX11_share_0 rfl (lv_at hl 0 rfl) ?_
  refine lv_iconst (v := 1) hx hb dX11_share_1 (by decide) ?_
  refine lv_iload_n hx hb dX11_share_2 rfl (lv_at hl 1 rfl) ?_
  refine cg (wc := [(o, .inr (11, (moF a))), ((a 3), .inl (Y 0, 3, .inl (fun _ => 0)))]) (wr := []) [0, 1] [] (rn_V (As := [.int 1, .int p0]) (rest := []) (b := o) (m_isText1 l D Y Z H.size o a p0) ⟨hx, hb, hml, hown, hg⟩ lk_X11_366 ⟨CP.blind, va_recv hKN.1 hP (ci := 11) (q0 := 0) rfl rfl, CP.at (hP.sub [0, 1] rfl) hKN (hD.sub [0, 1] (by decide) rfl)⟩ ⟨⟨rfl, rfl⟩, ⟨Nat.le_of_ble_eq_true rfl, Nat.le_of_ble_eq_true rfl⟩, ⟨Nat.le_of_ble_eq_true rfl, Nat.le_of_ble_eq_true rfl⟩⟩ hl.1 rfl (Nat.le_of_ble_eq_true rfl) dX11_share_3) hP hD hS hA rfl rfl (by decide) (by decide) (fun u1 H locs w2 hP hD hS => ?_)
  refine W.eq (g2 := F0 m 6 ls [.int 0]) rfl ?_
  have hP : va_P D vwCl [(o, .inr (11, (moF a))), ((a 3), .inl (Y 0, 3, .inl (fun _ => 0)))] H := hP
  have hD : va_D A [(o, .inr (11, (moF a))), ((a 3), .inl (Y 0, 3, .inl (fun _ => 0)))] := hD
  refine lv_if_eq (tgt := 19) hx hb dX11_share_6 (by decide) (fun c3 => ?_) (fun c3 => ?_)
  rotate_left
  · exact absurd c3 (by decide)
  refine lv_iconst (v := (-1)) hx hb dX11_share_19 (by decide) ?_
  refine W.widen (k := 0) (n := 0) (Nat.le_of_ble_eq_true rfl) (Nat.le_of_ble_eq_true rfl) ?_
  exact W.iret (v := (-1)) hx hb hr (fun t ht hW => ⟨⟨(), rfl, trivial, CB.nil⟩, hS.F ht⟩) hS.2.2 dX11_share_20
set_option maxHeartbeats 4000000 in
set_option maxRecDepth 100000 in
theorem x_chance (l : Launch) (D : va_G) (Y : Nat → ClassId) (Z : Nat → Nat) (sz : Nat) (o : Nat) (b : Nat → Nat) (p0 p1 p2 : Int32) : Met l yX10_chance (.code yX10_chance cX10_chance 4 (some .int) :: GW) ({ frames := 2, cells := 0, slots := 0, locals := 43 }) (va_Pc [.ref o, .int p0, .int p1, .int p2] (CP D Y Z [(o, .inr (10, (dsF b)))] sz)) (QG (S := Unit) (fun _ => some (.int (-1))) (fun _ => True) (fun u => CB D ((fun _ => []) u) (va_A [(o, .inr (10, (dsF b)))] sz)) (va_A [(o, .inr (10, (dsF b)))] sz)) 0 0 (va_A [(o, .inr (10, (dsF b)))] sz) := by
  refine Met.ofW (cc := cX10_chance) (maxL := 4) (ret := (some .int)) (by decide) rfl ?_
  intro p e s m args below meth c s₁ B hml hv
  obtain ⟨rfl, hsz, hP, hKN, hD0⟩ := hv
  have hx := B.exec
  have hb := B.bytes
  have hr := B.returns
  have hts := atoms_spec (ws := .code yX10_chance cX10_chance 4 (some .int) :: GW) B.pre
  have hg : ∀ w ∈ GW, w.before _ s = true := fun w h => hts w (List.mem_cons_of_mem _ h)
  have hown : s.vm.findClass RX10 = some m.cls := findClass_of_methodNamed B.named
  have hlocks := B.notSynchronized
  subst hsz
  have hD := hD0.self (sz := s.heap.size)
  generalize hAe : va_A [(o, .inr (10, (dsF b)))] s.heap.size = A at hD ⊢
  have hA : ∀ q : Nat, s.heap.size ≤ q → A q := fun q h => by rw [← hAe]; exact Or.inr h
  have hl := lv_entry ([.ref o, .int p0, .int p1, .int p2]) (n := 4) (Nat.le_of_ble_eq_true rfl)
  rw [lg_entry_eq]
  generalize (lg_sl ([.ref o, .int p0, .int p1, .int p2]) ++ List.replicate (4 - (lg_sl ([.ref o, .int p0, .int p1, .int p2])).length) Slot.unset).toArray = ls at hl ⊢
  have hl : lv_has ls 4 [(0, .ref o), (1, .int p0), (2, .int p1), (3, .int p2)] := hl
  refine w_start (A0 := A) hP (fun H locs hP hS => ?_)
  refine lv_aload_n hx hb dX10_chance_0 rfl (lv_at hl 0 rfl) ?_
  refine lv_iload_n hx hb dX10_chance_1 rfl (lv_at hl 1 rfl) ?_
  refine cg (wc := [(o, .inr (10, (dsF b)))]) (wr := []) [0] [] (rn_V (As := [.int p0]) (rest := []) (b := o) (c_searchAt l D Y Z H.size o b p0) ⟨hx, hb, hml, hown, hg⟩ lk_X10_259 ⟨CP.blind, va_recv hKN.1 hP (ci := 10) (q0 := 0) rfl rfl, CP.at (hP.sub [0] rfl) hKN (hD.sub [0] (by decide) rfl)⟩ ⟨⟨rfl, rfl⟩, ⟨Nat.le_of_ble_eq_true rfl, Nat.le_of_ble_eq_true rfl⟩, ⟨Nat.le_of_ble_eq_true rfl, Nat.le_of_ble_eq_true rfl⟩⟩ hl.1 rfl (Nat.le_of_ble_eq_true rfl) dX10_chance_2) hP hD hS hA rfl rfl (by decide) (by decide) (fun u1 H locs w2 hP hD hS => ?_)
  refine W.eq (g2 := F0 m 5 ls [.null]) rfl ?_
  have hP : va_P D vwCl [(o, .inr (10, (dsF b)))] H := hP
  have hD : va_D A [(o, .inr (10, (dsF b)))] := hD
  refine lv_ifnullN (tgt := 26) hx hb dX10_chance_5 (by decide) ?_
  refine lv_iconst (v := (-1)) hx hb dX10_chance_26 (by decide) ?_
  refine W.widen (k := 0) (n := 0) (Nat.le_of_ble_eq_true rfl) (Nat.le_of_ble_eq_true rfl) ?_
  exact W.iret (v := (-1)) hx hb hr (fun t ht hW => ⟨⟨(), rfl, trivial, CB.nil⟩, hS.F ht⟩) hS.2.2 dX10_chance_27
set_option maxHeartbeats 4000000 in
set_option maxRecDepth 100000 in
theorem y_chance (l : Launch) (D : va_G) (Y : Nat → ClassId) (Z : Nat → Nat) (sz : Nat) (o : Nat) (a : Nat → Nat) (p0 p1 p2 : Int32) : Met l yX11_chance (.code yX11_chance cX11_chance 6 (some .int) :: GW) ({ frames := 1, cells := 0, slots := 0, locals := 22 }) (va_Pc [.ref o, .int p0, .int p1, .int p2] (CP D Y Z [(o, .inr (11, (moF a))), ((a 3), .inl (Y 0, 3, .inl (fun _ => 0)))] sz)) (QG (S := Unit) (fun _ => some (.int (-1))) (fun _ => True) (fun u => CB D ((fun _ => []) u) (va_A [(o, .inr (11, (moF a))), ((a 3), .inl (Y 0, 3, .inl (fun _ => 0)))] sz)) (va_A [(o, .inr (11, (moF a))), ((a 3), .inl (Y 0, 3, .inl (fun _ => 0)))] sz)) 0 0 (va_A [(o, .inr (11, (moF a))), ((a 3), .inl (Y 0, 3, .inl (fun _ => 0)))] sz) := by
  refine Met.ofW (cc := cX11_chance) (maxL := 6) (ret := (some .int)) (by decide) rfl ?_
  intro p e s m args below meth c s₁ B hml hv
  obtain ⟨rfl, hsz, hP, hKN, hD0⟩ := hv
  have hx := B.exec
  have hb := B.bytes
  have hr := B.returns
  have hts := atoms_spec (ws := .code yX11_chance cX11_chance 6 (some .int) :: GW) B.pre
  have hg : ∀ w ∈ GW, w.before _ s = true := fun w h => hts w (List.mem_cons_of_mem _ h)
  have hown : s.vm.findClass RX11 = some m.cls := findClass_of_methodNamed B.named
  have hlocks := B.notSynchronized
  subst hsz
  have hD := hD0.self (sz := s.heap.size)
  generalize hAe : va_A [(o, .inr (11, (moF a))), ((a 3), .inl (Y 0, 3, .inl (fun _ => 0)))] s.heap.size = A at hD ⊢
  have hA : ∀ q : Nat, s.heap.size ≤ q → A q := fun q h => by rw [← hAe]; exact Or.inr h
  have hl := lv_entry ([.ref o, .int p0, .int p1, .int p2]) (n := 6) (Nat.le_of_ble_eq_true rfl)
  rw [lg_entry_eq]
  generalize (lg_sl ([.ref o, .int p0, .int p1, .int p2]) ++ List.replicate (6 - (lg_sl ([.ref o, .int p0, .int p1, .int p2])).length) Slot.unset).toArray = ls at hl ⊢
  have hl : lv_has ls 6 [(0, .ref o), (1, .int p0), (2, .int p1), (3, .int p2)] := hl
  refine w_start (A0 := A) hP (fun H locs hP hS => ?_)
  refine lv_aload_n hx hb dX11_chance_0 rfl (lv_at hl 0 rfl) ?_
  refine lv_iconst (v := 1) hx hb dX11_chance_1 (by decide) ?_
  refine lv_iload_n hx hb dX11_chance_2 rfl (lv_at hl 1 rfl) ?_
  refine cg (wc := [(o, .inr (11, (moF a))), ((a 3), .inl (Y 0, 3, .inl (fun _ => 0)))]) (wr := []) [0, 1] [] (rn_V (As := [.int 1, .int p0]) (rest := []) (b := o) (m_isText1 l D Y Z H.size o a p0) ⟨hx, hb, hml, hown, hg⟩ lk_X11_366 ⟨CP.blind, va_recv hKN.1 hP (ci := 11) (q0 := 0) rfl rfl, CP.at (hP.sub [0, 1] rfl) hKN (hD.sub [0, 1] (by decide) rfl)⟩ ⟨⟨rfl, rfl⟩, ⟨Nat.le_of_ble_eq_true rfl, Nat.le_of_ble_eq_true rfl⟩, ⟨Nat.le_of_ble_eq_true rfl, Nat.le_of_ble_eq_true rfl⟩⟩ hl.1 rfl (Nat.le_of_ble_eq_true rfl) dX11_chance_3) hP hD hS hA rfl rfl (by decide) (by decide) (fun u1 H locs w2 hP hD hS => ?_)
  refine W.eq (g2 := F0 m 6 ls [.int 0]) rfl ?_
  have hP : va_P D vwCl [(o, .inr (11, (moF a))), ((a 3), .inl (Y 0, 3, .inl (fun _ => 0)))] H := hP
  have hD : va_D A [(o, .inr (11, (moF a))), ((a 3), .inl (Y 0, 3, .inl (fun _ => 0)))] := hD
  refine lv_if_eq (tgt := 33) hx hb dX11_chance_6 (by decide) (fun c3 => ?_) (fun c3 => ?_)
  rotate_left
  · exact absurd c3 (by decide)
  refine lv_iconst (v := (-1)) hx hb dX11_chance_33 (by decide) ?_
  refine W.widen (k := 0) (n := 0) (Nat.le_of_ble_eq_true rfl) (Nat.le_of_ble_eq_true rfl) ?_
  exact W.iret (v := (-1)) hx hb hr (fun t ht hW => ⟨⟨(), rfl, trivial, CB.nil⟩, hS.F ht⟩) hS.2.2 dX11_chance_34
set_option maxHeartbeats 4000000 in
set_option maxRecDepth 100000 in
theorem x_line (l : Launch) (D : va_G) (Y : Nat → ClassId) (Z : Nat → Nat) (sz : Nat) (o : Nat) (b : Nat → Nat) (p0 p1 p2 p3 p4 : Int32) : Met l yX10_line (.code yX10_line cX10_line 13 (some .int) :: GW) ({ frames := 2, cells := 0, slots := 0, locals := 43 }) (va_Pc [.ref o, .int p0, .int p1, .int p2, .int p3, .int p4] (CP D Y Z [(o, .inr (10, (dsF b)))] sz)) (QG (S := Unit) (fun _ => some (.int (-1))) (fun _ => True) (fun u => CB D ((fun _ => []) u) (va_A [(o, .inr (10, (dsF b)))] sz)) (va_A [(o, .inr (10, (dsF b)))] sz)) 0 0 (va_A [(o, .inr (10, (dsF b)))] sz) := by
  refine Met.ofW (cc := cX10_line) (maxL := 13) (ret := (some .int)) (by decide) rfl ?_
  intro p e s m args below meth c s₁ B hml hv
  obtain ⟨rfl, hsz, hP, hKN, hD0⟩ := hv
  have hx := B.exec
  have hb := B.bytes
  have hr := B.returns
  have hts := atoms_spec (ws := .code yX10_line cX10_line 13 (some .int) :: GW) B.pre
  have hg : ∀ w ∈ GW, w.before _ s = true := fun w h => hts w (List.mem_cons_of_mem _ h)
  have hown : s.vm.findClass RX10 = some m.cls := findClass_of_methodNamed B.named
  have hlocks := B.notSynchronized
  subst hsz
  have hD := hD0.self (sz := s.heap.size)
  generalize hAe : va_A [(o, .inr (10, (dsF b)))] s.heap.size = A at hD ⊢
  have hA : ∀ q : Nat, s.heap.size ≤ q → A q := fun q h => by rw [← hAe]; exact Or.inr h
  have hl := lv_entry ([.ref o, .int p0, .int p1, .int p2, .int p3, .int p4]) (n := 13) (Nat.le_of_ble_eq_true rfl)
  rw [lg_entry_eq]
  generalize (lg_sl ([.ref o, .int p0, .int p1, .int p2, .int p3, .int p4]) ++ List.replicate (13 - (lg_sl ([.ref o, .int p0, .int p1, .int p2, .int p3, .int p4])).length) Slot.unset).toArray = ls at hl ⊢
  have hl : lv_has ls 13 [(0, .ref o), (1, .int p0), (2, .int p1), (3, .int p2), (4, .int p3), (5, .int p4)] := hl
  refine w_start (A0 := A) hP (fun H locs hP hS => ?_)
  refine lv_iload_n hx hb dX10_line_0 rfl (lv_at hl 3 rfl) ?_
  refine lv_iconst (v := 0) hx hb dX10_line_1 (by decide) ?_
  refine lv_sipush (v := 999) hx hb dX10_line_2 (by decide) ?_
  refine cg0 (rn_S (As := [.int p2, .int 0, .int 999]) (rest := []) (c_isWithin l D Y Z H.size p2 0 999 (0) (999) (by decide) (by decide)) ⟨hx, hb, hml, hown, hg⟩ lk_X10_100 ⟨CP.blind, CP.at nilP hKN (nilD (A := fun _ => True))⟩ ⟨⟨rfl, rfl⟩, ⟨Nat.le_of_ble_eq_true rfl, Nat.le_of_ble_eq_true rfl⟩, ⟨Nat.le_of_ble_eq_true rfl, Nat.le_of_ble_eq_true rfl⟩⟩ hl.1 rfl (Nat.le_of_ble_eq_true rfl) dX10_line_5) hP hS hA (fun u1 H locs w2 hP hS => ?_)
  rcases w2 with ⟨w2, rfl⟩ | ⟨w2, rfl⟩
  · skip
    refine W.eq (g2 := F0 m 8 ls [.int 1]) rfl ?_
    refine lv_if_eq (tgt := 27) hx hb dX10_line_8 (by decide) (fun c3 => ?_) (fun c3 => ?_)
    · exact absurd c3 (by decide)
    refine lv_iload hx hb dX10_line_11 (lv_at hl 4 rfl) ?_
    refine lv_iconst (v := 0) hx hb dX10_line_13 (by decide) ?_
    refine lv_sipush (v := 999) hx hb dX10_line_14 (by decide) ?_
    refine cg0 (rn_S (As := [.int p3, .int 0, .int 999]) (rest := []) (c_isWithin l D Y Z H.size p3 0 999 (0) (999) (by decide) (by decide)) ⟨hx, hb, hml, hown, hg⟩ lk_X10_100 ⟨CP.blind, CP.at nilP hKN (nilD (A := fun _ => True))⟩ ⟨⟨rfl, rfl⟩, ⟨Nat.le_of_ble_eq_true rfl, Nat.le_of_ble_eq_true rfl⟩, ⟨Nat.le_of_ble_eq_true rfl, Nat.le_of_ble_eq_true rfl⟩⟩ hl.1 rfl (Nat.le_of_ble_eq_true rfl) dX10_line_17) hP hS hA (fun u4 H locs w5 hP hS => ?_)
    rcases w5 with ⟨w5, rfl⟩ | ⟨w5, rfl⟩
    · skip
      refine W.eq (g2 := F0 m 20 ls [.int 1]) rfl ?_
      refine lv_if_eq (tgt := 27) hx hb dX10_line_20 (by decide) (fun c6 => ?_) (fun c6 => ?_)
      · exact absurd c6 (by decide)
      refine lv_iconst (v := 1) hx hb dX10_line_23 (by decide) ?_
      refine lv_goto (tgt := 28) hx hb dX10_line_24 (by decide) ?_
      refine lv_istore (lv' := [(6, .int 1), (0, .ref o), (1, .int p0), (2, .int p1), (3, .int p2), (4, .int p3), (5, .int p4)]) hx hb dX10_line_28 hl (by decide) rfl (fun ls hl => ?_)
      refine lv_aload_n hx hb dX10_line_30 rfl (lv_at hl 1 rfl) ?_
      refine lv_iload_n hx hb dX10_line_31 rfl (lv_at hl 2 rfl) ?_
      refine cg (wc := [(o, .inr (10, (dsF b)))]) (wr := []) [0] [] (rn_V (As := [.int p0]) (rest := []) (b := o) (c_searchAt l D Y Z H.size o b p0) ⟨hx, hb, hml, hown, hg⟩ lk_X10_259 ⟨CP.blind, va_recv hKN.1 hP (ci := 10) (q0 := 0) rfl rfl, CP.at (hP.sub [0] rfl) hKN (hD.sub [0] (by decide) rfl)⟩ ⟨⟨rfl, rfl⟩, ⟨Nat.le_of_ble_eq_true rfl, Nat.le_of_ble_eq_true rfl⟩, ⟨Nat.le_of_ble_eq_true rfl, Nat.le_of_ble_eq_true rfl⟩⟩ hl.1 rfl (Nat.le_of_ble_eq_true rfl) dX10_line_32) hP hD hS hA rfl rfl (by decide) (by decide) (fun u7 H locs w8 hP hD hS => ?_)
      refine W.eq (g2 := F0 m 35 ls [.null]) rfl ?_
      have hP : va_P D vwCl [(o, .inr (10, (dsF b)))] H := hP
      have hD : va_D A [(o, .inr (10, (dsF b)))] := hD
      refine lv_ifnullN (tgt := 64) hx hb dX10_line_35 (by decide) ?_
      refine lv_iconst (v := (-1)) hx hb dX10_line_64 (by decide) ?_
      refine W.widen (k := 0) (n := 0) (Nat.le_of_ble_eq_true rfl) (Nat.le_of_ble_eq_true rfl) ?_
      exact W.iret (v := (-1)) hx hb hr (fun t ht hW => ⟨⟨(), rfl, trivial, CB.nil⟩, hS.F ht⟩) hS.2.2 dX10_line_65
    · skip
      refine W.eq (g2 := F0 m 20 ls [.int 0]) rfl ?_
      refine lv_if_eq (tgt := 27) hx hb dX10_line_20 (by decide) (fun c9 => ?_) (fun c9 => ?_)
      rotate_left
      · exact absurd c9 (by decide)
      refine lv_iconst (v := 0) hx hb dX10_line_27 (by decide) ?_
      refine lv_istore (lv' := [(6, .int 0), (0, .ref o), (1, .int p0), (2, .int p1), (3, .int p2), (4, .int p3), (5, .int p4)]) hx hb dX10_line_28 hl (by decide) rfl (fun ls hl => ?_)
      refine lv_aload_n hx hb dX10_line_30 rfl (lv_at hl 1 rfl) ?_
      refine lv_iload_n hx hb dX10_line_31 rfl (lv_at hl 2 rfl) ?_
      refine cg (wc := [(o, .inr (10, (dsF b)))]) (wr := []) [0] [] (rn_V (As := [.int p0]) (rest := []) (b := o) (c_searchAt l D Y Z H.size o b p0) ⟨hx, hb, hml, hown, hg⟩ lk_X10_259 ⟨CP.blind, va_recv hKN.1 hP (ci := 10) (q0 := 0) rfl rfl, CP.at (hP.sub [0] rfl) hKN (hD.sub [0] (by decide) rfl)⟩ ⟨⟨rfl, rfl⟩, ⟨Nat.le_of_ble_eq_true rfl, Nat.le_of_ble_eq_true rfl⟩, ⟨Nat.le_of_ble_eq_true rfl, Nat.le_of_ble_eq_true rfl⟩⟩ hl.1 rfl (Nat.le_of_ble_eq_true rfl) dX10_line_32) hP hD hS hA rfl rfl (by decide) (by decide) (fun u10 H locs w11 hP hD hS => ?_)
      refine W.eq (g2 := F0 m 35 ls [.null]) rfl ?_
      have hP : va_P D vwCl [(o, .inr (10, (dsF b)))] H := hP
      have hD : va_D A [(o, .inr (10, (dsF b)))] := hD
      refine lv_ifnullN (tgt := 64) hx hb dX10_line_35 (by decide) ?_
      refine lv_iconst (v := (-1)) hx hb dX10_line_64 (by decide) ?_
      refine W.widen (k := 0) (n := 0) (Nat.le_of_ble_eq_true rfl) (Nat.le_of_ble_eq_true rfl) ?_
      exact W.iret (v := (-1)) hx hb hr (fun t ht hW => ⟨⟨(), rfl, trivial, CB.nil⟩, hS.F ht⟩) hS.2.2 dX10_line_65
  · skip
    refine W.eq (g2 := F0 m 8 ls [.int 0]) rfl ?_
    refine lv_if_eq (tgt := 27) hx hb dX10_line_8 (by decide) (fun c12 => ?_) (fun c12 => ?_)
    rotate_left
    · exact absurd c12 (by decide)
    refine lv_iconst (v := 0) hx hb dX10_line_27 (by decide) ?_
    refine lv_istore (lv' := [(6, .int 0), (0, .ref o), (1, .int p0), (2, .int p1), (3, .int p2), (4, .int p3), (5, .int p4)]) hx hb dX10_line_28 hl (by decide) rfl (fun ls hl => ?_)
    refine lv_aload_n hx hb dX10_line_30 rfl (lv_at hl 1 rfl) ?_
    refine lv_iload_n hx hb dX10_line_31 rfl (lv_at hl 2 rfl) ?_
    refine cg (wc := [(o, .inr (10, (dsF b)))]) (wr := []) [0] [] (rn_V (As := [.int p0]) (rest := []) (b := o) (c_searchAt l D Y Z H.size o b p0) ⟨hx, hb, hml, hown, hg⟩ lk_X10_259 ⟨CP.blind, va_recv hKN.1 hP (ci := 10) (q0 := 0) rfl rfl, CP.at (hP.sub [0] rfl) hKN (hD.sub [0] (by decide) rfl)⟩ ⟨⟨rfl, rfl⟩, ⟨Nat.le_of_ble_eq_true rfl, Nat.le_of_ble_eq_true rfl⟩, ⟨Nat.le_of_ble_eq_true rfl, Nat.le_of_ble_eq_true rfl⟩⟩ hl.1 rfl (Nat.le_of_ble_eq_true rfl) dX10_line_32) hP hD hS hA rfl rfl (by decide) (by decide) (fun u13 H locs w14 hP hD hS => ?_)
    refine W.eq (g2 := F0 m 35 ls [.null]) rfl ?_
    have hP : va_P D vwCl [(o, .inr (10, (dsF b)))] H := hP
    have hD : va_D A [(o, .inr (10, (dsF b)))] := hD
    refine lv_ifnullN (tgt := 64) hx hb dX10_line_35 (by decide) ?_
    refine lv_iconst (v := (-1)) hx hb dX10_line_64 (by decide) ?_
    refine W.widen (k := 0) (n := 0) (Nat.le_of_ble_eq_true rfl) (Nat.le_of_ble_eq_true rfl) ?_
    exact W.iret (v := (-1)) hx hb hr (fun t ht hW => ⟨⟨(), rfl, trivial, CB.nil⟩, hS.F ht⟩) hS.2.2 dX10_line_65
set_option maxHeartbeats 4000000 in
set_option maxRecDepth 100000 in
theorem y_line (l : Launch) (D : va_G) (Y : Nat → ClassId) (Z : Nat → Nat) (sz : Nat) (o : Nat) (a : Nat → Nat) (p0 p1 p2 p3 p4 : Int32) : Met l yX11_line (.code yX11_line cX11_line 11 (some .int) :: GW) ({ frames := 1, cells := 0, slots := 0, locals := 22 }) (va_Pc [.ref o, .int p0, .int p1, .int p2, .int p3, .int p4] (CP D Y Z [(o, .inr (11, (moF a))), ((a 3), .inl (Y 0, 3, .inl (fun _ => 0)))] sz)) (QG (S := Unit) (fun _ => some (.int (-1))) (fun _ => True) (fun u => CB D ((fun _ => []) u) (va_A [(o, .inr (11, (moF a))), ((a 3), .inl (Y 0, 3, .inl (fun _ => 0)))] sz)) (va_A [(o, .inr (11, (moF a))), ((a 3), .inl (Y 0, 3, .inl (fun _ => 0)))] sz)) 0 0 (va_A [(o, .inr (11, (moF a))), ((a 3), .inl (Y 0, 3, .inl (fun _ => 0)))] sz) := by
  refine Met.ofW (cc := cX11_line) (maxL := 11) (ret := (some .int)) (by decide) rfl ?_
  intro p e s m args below meth c s₁ B hml hv
  obtain ⟨rfl, hsz, hP, hKN, hD0⟩ := hv
  have hx := B.exec
  have hb := B.bytes
  have hr := B.returns
  have hts := atoms_spec (ws := .code yX11_line cX11_line 11 (some .int) :: GW) B.pre
  have hg : ∀ w ∈ GW, w.before _ s = true := fun w h => hts w (List.mem_cons_of_mem _ h)
  have hown : s.vm.findClass RX11 = some m.cls := findClass_of_methodNamed B.named
  have hlocks := B.notSynchronized
  subst hsz
  have hD := hD0.self (sz := s.heap.size)
  generalize hAe : va_A [(o, .inr (11, (moF a))), ((a 3), .inl (Y 0, 3, .inl (fun _ => 0)))] s.heap.size = A at hD ⊢
  have hA : ∀ q : Nat, s.heap.size ≤ q → A q := fun q h => by rw [← hAe]; exact Or.inr h
  have hl := lv_entry ([.ref o, .int p0, .int p1, .int p2, .int p3, .int p4]) (n := 11) (Nat.le_of_ble_eq_true rfl)
  rw [lg_entry_eq]
  generalize (lg_sl ([.ref o, .int p0, .int p1, .int p2, .int p3, .int p4]) ++ List.replicate (11 - (lg_sl ([.ref o, .int p0, .int p1, .int p2, .int p3, .int p4])).length) Slot.unset).toArray = ls at hl ⊢
  have hl : lv_has ls 11 [(0, .ref o), (1, .int p0), (2, .int p1), (3, .int p2), (4, .int p3), (5, .int p4)] := hl
  refine w_start (A0 := A) hP (fun H locs hP hS => ?_)
  refine lv_aload_n hx hb dX11_line_0 rfl (lv_at hl 0 rfl) ?_
  refine lv_iconst (v := 1) hx hb dX11_line_1 (by decide) ?_
  refine lv_iload_n hx hb dX11_line_2 rfl (lv_at hl 1 rfl) ?_
  refine cg (wc := [(o, .inr (11, (moF a))), ((a 3), .inl (Y 0, 3, .inl (fun _ => 0)))]) (wr := []) [0, 1] [] (rn_V (As := [.int 1, .int p0]) (rest := []) (b := o) (m_isText1 l D Y Z H.size o a p0) ⟨hx, hb, hml, hown, hg⟩ lk_X11_366 ⟨CP.blind, va_recv hKN.1 hP (ci := 11) (q0 := 0) rfl rfl, CP.at (hP.sub [0, 1] rfl) hKN (hD.sub [0, 1] (by decide) rfl)⟩ ⟨⟨rfl, rfl⟩, ⟨Nat.le_of_ble_eq_true rfl, Nat.le_of_ble_eq_true rfl⟩, ⟨Nat.le_of_ble_eq_true rfl, Nat.le_of_ble_eq_true rfl⟩⟩ hl.1 rfl (Nat.le_of_ble_eq_true rfl) dX11_line_3) hP hD hS hA rfl rfl (by decide) (by decide) (fun u1 H locs w2 hP hD hS => ?_)
  refine W.eq (g2 := F0 m 6 ls [.int 0]) rfl ?_
  have hP : va_P D vwCl [(o, .inr (11, (moF a))), ((a 3), .inl (Y 0, 3, .inl (fun _ => 0)))] H := hP
  have hD : va_D A [(o, .inr (11, (moF a))), ((a 3), .inl (Y 0, 3, .inl (fun _ => 0)))] := hD
  refine lv_if_eq (tgt := 57) hx hb dX11_line_6 (by decide) (fun c3 => ?_) (fun c3 => ?_)
  rotate_left
  · exact absurd c3 (by decide)
  refine lv_iconst (v := (-1)) hx hb dX11_line_57 (by decide) ?_
  refine W.widen (k := 0) (n := 0) (Nat.le_of_ble_eq_true rfl) (Nat.le_of_ble_eq_true rfl) ?_
  exact W.iret (v := (-1)) hx hb hr (fun t ht hW => ⟨⟨(), rfl, trivial, CB.nil⟩, hS.F ht⟩) hS.2.2 dX11_line_58
set_option maxHeartbeats 4000000 in
set_option maxRecDepth 100000 in
theorem x_sign (l : Launch) (D : va_G) (Y : Nat → ClassId) (Z : Nat → Nat) (sz : Nat) (o : Nat) (b : Nat → Nat) (p0 p1 p2 : Int32) : Met l yX10_sign (.code yX10_sign cX10_sign 5 (some .int) :: GW) ({ frames := 2, cells := 0, slots := 0, locals := 43 }) (va_Pc [.ref o, .int p0, .int p1, .int p2] (CP D Y Z [(o, .inr (10, (dsF b)))] sz)) (QG (S := Unit) (fun _ => some (.int (-200000))) (fun _ => True) (fun u => CB D ((fun _ => []) u) (va_A [(o, .inr (10, (dsF b)))] sz)) (va_A [(o, .inr (10, (dsF b)))] sz)) 0 0 (va_A [(o, .inr (10, (dsF b)))] sz) := by
  refine Met.ofW (cc := cX10_sign) (maxL := 5) (ret := (some .int)) (by decide) rfl ?_
  intro p e s m args below meth c s₁ B hml hv
  obtain ⟨rfl, hsz, hP, hKN, hD0⟩ := hv
  have hx := B.exec
  have hb := B.bytes
  have hr := B.returns
  have hts := atoms_spec (ws := .code yX10_sign cX10_sign 5 (some .int) :: GW) B.pre
  have hg : ∀ w ∈ GW, w.before _ s = true := fun w h => hts w (List.mem_cons_of_mem _ h)
  have hown : s.vm.findClass RX10 = some m.cls := findClass_of_methodNamed B.named
  have hlocks := B.notSynchronized
  subst hsz
  have hD := hD0.self (sz := s.heap.size)
  generalize hAe : va_A [(o, .inr (10, (dsF b)))] s.heap.size = A at hD ⊢
  have hA : ∀ q : Nat, s.heap.size ≤ q → A q := fun q h => by rw [← hAe]; exact Or.inr h
  have hl := lv_entry ([.ref o, .int p0, .int p1, .int p2]) (n := 5) (Nat.le_of_ble_eq_true rfl)
  rw [lg_entry_eq]
  generalize (lg_sl ([.ref o, .int p0, .int p1, .int p2]) ++ List.replicate (5 - (lg_sl ([.ref o, .int p0, .int p1, .int p2])).length) Slot.unset).toArray = ls at hl ⊢
  have hl : lv_has ls 5 [(0, .ref o), (1, .int p0), (2, .int p1), (3, .int p2)] := hl
  refine w_start (A0 := A) hP (fun H locs hP hS => ?_)
  refine lv_aload_n hx hb dX10_sign_0 rfl (lv_at hl 0 rfl) ?_
  refine lv_iload_n hx hb dX10_sign_1 rfl (lv_at hl 1 rfl) ?_
  refine cg (wc := [(o, .inr (10, (dsF b)))]) (wr := []) [0] [] (rn_V (As := [.int p0]) (rest := []) (b := o) (c_searchAt l D Y Z H.size o b p0) ⟨hx, hb, hml, hown, hg⟩ lk_X10_259 ⟨CP.blind, va_recv hKN.1 hP (ci := 10) (q0 := 0) rfl rfl, CP.at (hP.sub [0] rfl) hKN (hD.sub [0] (by decide) rfl)⟩ ⟨⟨rfl, rfl⟩, ⟨Nat.le_of_ble_eq_true rfl, Nat.le_of_ble_eq_true rfl⟩, ⟨Nat.le_of_ble_eq_true rfl, Nat.le_of_ble_eq_true rfl⟩⟩ hl.1 rfl (Nat.le_of_ble_eq_true rfl) dX10_sign_2) hP hD hS hA rfl rfl (by decide) (by decide) (fun u1 H locs w2 hP hD hS => ?_)
  refine W.eq (g2 := F0 m 5 ls [.null]) rfl ?_
  have hP : va_P D vwCl [(o, .inr (10, (dsF b)))] H := hP
  have hD : va_D A [(o, .inr (10, (dsF b)))] := hD
  refine lv_ifnullN (tgt := 25) hx hb dX10_sign_5 (by decide) ?_
  refine lv_ldc (v := (-200000)) hx hb hown (hg _ kw_473) dX10_sign_25 ?_
  refine W.widen (k := 0) (n := 0) (Nat.le_of_ble_eq_true rfl) (Nat.le_of_ble_eq_true rfl) ?_
  exact W.iret (v := (-200000)) hx hb hr (fun t ht hW => ⟨⟨(), rfl, trivial, CB.nil⟩, hS.F ht⟩) hS.2.2 dX10_sign_27
set_option maxHeartbeats 4000000 in
set_option maxRecDepth 100000 in
theorem y_sign (l : Launch) (D : va_G) (Y : Nat → ClassId) (Z : Nat → Nat) (sz : Nat) (o : Nat) (a : Nat → Nat) (p0 p1 p2 : Int32) : Met l yX11_sign (.code yX11_sign cX11_sign 4 (some .int) :: GW) ({ frames := 1, cells := 0, slots := 0, locals := 22 }) (va_Pc [.ref o, .int p0, .int p1, .int p2] (CP D Y Z [(o, .inr (11, (moF a))), ((a 3), .inl (Y 0, 3, .inl (fun _ => 0)))] sz)) (QG (S := Unit) (fun _ => some (.int (-200000))) (fun _ => True) (fun u => CB D ((fun _ => []) u) (va_A [(o, .inr (11, (moF a))), ((a 3), .inl (Y 0, 3, .inl (fun _ => 0)))] sz)) (va_A [(o, .inr (11, (moF a))), ((a 3), .inl (Y 0, 3, .inl (fun _ => 0)))] sz)) 0 0 (va_A [(o, .inr (11, (moF a))), ((a 3), .inl (Y 0, 3, .inl (fun _ => 0)))] sz) := by
  refine Met.ofW (cc := cX11_sign) (maxL := 4) (ret := (some .int)) (by decide) rfl ?_
  intro p e s m args below meth c s₁ B hml hv
  obtain ⟨rfl, hsz, hP, hKN, hD0⟩ := hv
  have hx := B.exec
  have hb := B.bytes
  have hr := B.returns
  have hts := atoms_spec (ws := .code yX11_sign cX11_sign 4 (some .int) :: GW) B.pre
  have hg : ∀ w ∈ GW, w.before _ s = true := fun w h => hts w (List.mem_cons_of_mem _ h)
  have hown : s.vm.findClass RX11 = some m.cls := findClass_of_methodNamed B.named
  have hlocks := B.notSynchronized
  subst hsz
  have hD := hD0.self (sz := s.heap.size)
  generalize hAe : va_A [(o, .inr (11, (moF a))), ((a 3), .inl (Y 0, 3, .inl (fun _ => 0)))] s.heap.size = A at hD ⊢
  have hA : ∀ q : Nat, s.heap.size ≤ q → A q := fun q h => by rw [← hAe]; exact Or.inr h
  have hl := lv_entry ([.ref o, .int p0, .int p1, .int p2]) (n := 4) (Nat.le_of_ble_eq_true rfl)
  rw [lg_entry_eq]
  generalize (lg_sl ([.ref o, .int p0, .int p1, .int p2]) ++ List.replicate (4 - (lg_sl ([.ref o, .int p0, .int p1, .int p2])).length) Slot.unset).toArray = ls at hl ⊢
  have hl : lv_has ls 4 [(0, .ref o), (1, .int p0), (2, .int p1), (3, .int p2)] := hl
  refine w_start (A0 := A) hP (fun H locs hP hS => ?_)
  refine lv_aload_n hx hb dX11_sign_0 rfl (lv_at hl 0 rfl) ?_
  refine lv_iconst (v := 1) hx hb dX11_sign_1 (by decide) ?_
  refine lv_iload_n hx hb dX11_sign_2 rfl (lv_at hl 1 rfl) ?_
  refine cg (wc := [(o, .inr (11, (moF a))), ((a 3), .inl (Y 0, 3, .inl (fun _ => 0)))]) (wr := []) [0, 1] [] (rn_V (As := [.int 1, .int p0]) (rest := []) (b := o) (m_isText1 l D Y Z H.size o a p0) ⟨hx, hb, hml, hown, hg⟩ lk_X11_366 ⟨CP.blind, va_recv hKN.1 hP (ci := 11) (q0 := 0) rfl rfl, CP.at (hP.sub [0, 1] rfl) hKN (hD.sub [0, 1] (by decide) rfl)⟩ ⟨⟨rfl, rfl⟩, ⟨Nat.le_of_ble_eq_true rfl, Nat.le_of_ble_eq_true rfl⟩, ⟨Nat.le_of_ble_eq_true rfl, Nat.le_of_ble_eq_true rfl⟩⟩ hl.1 rfl (Nat.le_of_ble_eq_true rfl) dX11_sign_3) hP hD hS hA rfl rfl (by decide) (by decide) (fun u1 H locs w2 hP hD hS => ?_)
  refine W.eq (g2 := F0 m 6 ls [.int 0]) rfl ?_
  have hP : va_P D vwCl [(o, .inr (11, (moF a))), ((a 3), .inl (Y 0, 3, .inl (fun _ => 0)))] H := hP
  have hD : va_D A [(o, .inr (11, (moF a))), ((a 3), .inl (Y 0, 3, .inl (fun _ => 0)))] := hD
  refine lv_if_eq (tgt := 39) hx hb dX11_sign_6 (by decide) (fun c3 => ?_) (fun c3 => ?_)
  rotate_left
  · exact absurd c3 (by decide)
  refine lv_ldc (v := (-200000)) hx hb hown (hg _ kw_1381) dX11_sign_39 ?_
  refine W.widen (k := 0) (n := 0) (Nat.le_of_ble_eq_true rfl) (Nat.le_of_ble_eq_true rfl) ?_
  exact W.iret (v := (-200000)) hx hb hr (fun t ht hW => ⟨⟨(), rfl, trivial, CB.nil⟩, hS.F ht⟩) hS.2.2 dX11_sign_41
set_option maxHeartbeats 4000000 in
set_option maxRecDepth 100000 in
theorem x_shift (l : Launch) (D : va_G) (Y : Nat → ClassId) (Z : Nat → Nat) (sz : Nat) (o : Nat) (b : Nat → Nat) (p0 p1 p2 : Int32) : Met l yX10_shift (.code yX10_shift cX10_shift 5 (some .int) :: GW) ({ frames := 2, cells := 0, slots := 0, locals := 43 }) (va_Pc [.ref o, .int p0, .int p1, .int p2] (CP D Y Z [(o, .inr (10, (dsF b)))] sz)) (QG (S := Unit) (fun _ => some (.int (-200))) (fun _ => True) (fun u => CB D ((fun _ => []) u) (va_A [(o, .inr (10, (dsF b)))] sz)) (va_A [(o, .inr (10, (dsF b)))] sz)) 0 0 (va_A [(o, .inr (10, (dsF b)))] sz) := by
  refine Met.ofW (cc := cX10_shift) (maxL := 5) (ret := (some .int)) (by decide) rfl ?_
  intro p e s m args below meth c s₁ B hml hv
  obtain ⟨rfl, hsz, hP, hKN, hD0⟩ := hv
  have hx := B.exec
  have hb := B.bytes
  have hr := B.returns
  have hts := atoms_spec (ws := .code yX10_shift cX10_shift 5 (some .int) :: GW) B.pre
  have hg : ∀ w ∈ GW, w.before _ s = true := fun w h => hts w (List.mem_cons_of_mem _ h)
  have hown : s.vm.findClass RX10 = some m.cls := findClass_of_methodNamed B.named
  have hlocks := B.notSynchronized
  subst hsz
  have hD := hD0.self (sz := s.heap.size)
  generalize hAe : va_A [(o, .inr (10, (dsF b)))] s.heap.size = A at hD ⊢
  have hA : ∀ q : Nat, s.heap.size ≤ q → A q := fun q h => by rw [← hAe]; exact Or.inr h
  have hl := lv_entry ([.ref o, .int p0, .int p1, .int p2]) (n := 5) (Nat.le_of_ble_eq_true rfl)
  rw [lg_entry_eq]
  generalize (lg_sl ([.ref o, .int p0, .int p1, .int p2]) ++ List.replicate (5 - (lg_sl ([.ref o, .int p0, .int p1, .int p2])).length) Slot.unset).toArray = ls at hl ⊢
  have hl : lv_has ls 5 [(0, .ref o), (1, .int p0), (2, .int p1), (3, .int p2)] := hl
  refine w_start (A0 := A) hP (fun H locs hP hS => ?_)
  refine lv_aload_n hx hb dX10_shift_0 rfl (lv_at hl 0 rfl) ?_
  refine lv_iload_n hx hb dX10_shift_1 rfl (lv_at hl 1 rfl) ?_
  refine cg (wc := [(o, .inr (10, (dsF b)))]) (wr := []) [0] [] (rn_V (As := [.int p0]) (rest := []) (b := o) (c_searchAt l D Y Z H.size o b p0) ⟨hx, hb, hml, hown, hg⟩ lk_X10_259 ⟨CP.blind, va_recv hKN.1 hP (ci := 10) (q0 := 0) rfl rfl, CP.at (hP.sub [0] rfl) hKN (hD.sub [0] (by decide) rfl)⟩ ⟨⟨rfl, rfl⟩, ⟨Nat.le_of_ble_eq_true rfl, Nat.le_of_ble_eq_true rfl⟩, ⟨Nat.le_of_ble_eq_true rfl, Nat.le_of_ble_eq_true rfl⟩⟩ hl.1 rfl (Nat.le_of_ble_eq_true rfl) dX10_shift_2) hP hD hS hA rfl rfl (by decide) (by decide) (fun u1 H locs w2 hP hD hS => ?_)
  refine W.eq (g2 := F0 m 5 ls [.null]) rfl ?_
  have hP : va_P D vwCl [(o, .inr (10, (dsF b)))] H := hP
  have hD : va_D A [(o, .inr (10, (dsF b)))] := hD
  refine lv_ifnullN (tgt := 27) hx hb dX10_shift_5 (by decide) ?_
  refine lv_sipush (v := (-200)) hx hb dX10_shift_27 (by decide) ?_
  refine W.widen (k := 0) (n := 0) (Nat.le_of_ble_eq_true rfl) (Nat.le_of_ble_eq_true rfl) ?_
  exact W.iret (v := (-200)) hx hb hr (fun t ht hW => ⟨⟨(), rfl, trivial, CB.nil⟩, hS.F ht⟩) hS.2.2 dX10_shift_30
set_option maxHeartbeats 4000000 in
set_option maxRecDepth 100000 in
theorem y_shift (l : Launch) (D : va_G) (Y : Nat → ClassId) (Z : Nat → Nat) (sz : Nat) (o : Nat) (a : Nat → Nat) (p0 p1 p2 : Int32) : Met l yX11_shift (.code yX11_shift cX11_shift 4 (some .int) :: GW) ({ frames := 1, cells := 0, slots := 0, locals := 22 }) (va_Pc [.ref o, .int p0, .int p1, .int p2] (CP D Y Z [(o, .inr (11, (moF a))), ((a 3), .inl (Y 0, 3, .inl (fun _ => 0)))] sz)) (QG (S := Unit) (fun _ => some (.int (-200))) (fun _ => True) (fun u => CB D ((fun _ => []) u) (va_A [(o, .inr (11, (moF a))), ((a 3), .inl (Y 0, 3, .inl (fun _ => 0)))] sz)) (va_A [(o, .inr (11, (moF a))), ((a 3), .inl (Y 0, 3, .inl (fun _ => 0)))] sz)) 0 0 (va_A [(o, .inr (11, (moF a))), ((a 3), .inl (Y 0, 3, .inl (fun _ => 0)))] sz) := by
  refine Met.ofW (cc := cX11_shift) (maxL := 4) (ret := (some .int)) (by decide) rfl ?_
  intro p e s m args below meth c s₁ B hml hv
  obtain ⟨rfl, hsz, hP, hKN, hD0⟩ := hv
  have hx := B.exec
  have hb := B.bytes
  have hr := B.returns
  have hts := atoms_spec (ws := .code yX11_shift cX11_shift 4 (some .int) :: GW) B.pre
  have hg : ∀ w ∈ GW, w.before _ s = true := fun w h => hts w (List.mem_cons_of_mem _ h)
  have hown : s.vm.findClass RX11 = some m.cls := findClass_of_methodNamed B.named
  have hlocks := B.notSynchronized
  subst hsz
  have hD := hD0.self (sz := s.heap.size)
  generalize hAe : va_A [(o, .inr (11, (moF a))), ((a 3), .inl (Y 0, 3, .inl (fun _ => 0)))] s.heap.size = A at hD ⊢
  have hA : ∀ q : Nat, s.heap.size ≤ q → A q := fun q h => by rw [← hAe]; exact Or.inr h
  have hl := lv_entry ([.ref o, .int p0, .int p1, .int p2]) (n := 4) (Nat.le_of_ble_eq_true rfl)
  rw [lg_entry_eq]
  generalize (lg_sl ([.ref o, .int p0, .int p1, .int p2]) ++ List.replicate (4 - (lg_sl ([.ref o, .int p0, .int p1, .int p2])).length) Slot.unset).toArray = ls at hl ⊢
  have hl : lv_has ls 4 [(0, .ref o), (1, .int p0), (2, .int p1), (3, .int p2)] := hl
  refine w_start (A0 := A) hP (fun H locs hP hS => ?_)
  refine lv_aload_n hx hb dX11_shift_0 rfl (lv_at hl 0 rfl) ?_
  refine lv_iconst (v := 1) hx hb dX11_shift_1 (by decide) ?_
  refine lv_iload_n hx hb dX11_shift_2 rfl (lv_at hl 1 rfl) ?_
  refine cg (wc := [(o, .inr (11, (moF a))), ((a 3), .inl (Y 0, 3, .inl (fun _ => 0)))]) (wr := []) [0, 1] [] (rn_V (As := [.int 1, .int p0]) (rest := []) (b := o) (m_isText1 l D Y Z H.size o a p0) ⟨hx, hb, hml, hown, hg⟩ lk_X11_366 ⟨CP.blind, va_recv hKN.1 hP (ci := 11) (q0 := 0) rfl rfl, CP.at (hP.sub [0, 1] rfl) hKN (hD.sub [0, 1] (by decide) rfl)⟩ ⟨⟨rfl, rfl⟩, ⟨Nat.le_of_ble_eq_true rfl, Nat.le_of_ble_eq_true rfl⟩, ⟨Nat.le_of_ble_eq_true rfl, Nat.le_of_ble_eq_true rfl⟩⟩ hl.1 rfl (Nat.le_of_ble_eq_true rfl) dX11_shift_3) hP hD hS hA rfl rfl (by decide) (by decide) (fun u1 H locs w2 hP hD hS => ?_)
  refine W.eq (g2 := F0 m 6 ls [.int 0]) rfl ?_
  have hP : va_P D vwCl [(o, .inr (11, (moF a))), ((a 3), .inl (Y 0, 3, .inl (fun _ => 0)))] H := hP
  have hD : va_D A [(o, .inr (11, (moF a))), ((a 3), .inl (Y 0, 3, .inl (fun _ => 0)))] := hD
  refine lv_if_eq (tgt := 49) hx hb dX11_shift_6 (by decide) (fun c3 => ?_) (fun c3 => ?_)
  rotate_left
  · exact absurd c3 (by decide)
  refine lv_sipush (v := (-200)) hx hb dX11_shift_49 (by decide) ?_
  refine W.widen (k := 0) (n := 0) (Nat.le_of_ble_eq_true rfl) (Nat.le_of_ble_eq_true rfl) ?_
  exact W.iret (v := (-200)) hx hb hr (fun t ht hW => ⟨⟨(), rfl, trivial, CB.nil⟩, hS.F ht⟩) hS.2.2 dX11_shift_52
set_option maxHeartbeats 4000000 in
set_option maxRecDepth 100000 in
theorem x_weight (l : Launch) (D : va_G) (Y : Nat → ClassId) (Z : Nat → Nat) (sz : Nat) (o : Nat) (b : Nat → Nat) (p0 p1 p2 p3 : Int32) : Met l yX10_weight (.code yX10_weight cX10_weight 5 (some .int) :: GW) ({ frames := 3, cells := 0, slots := 0, locals := 66 }) (va_Pc [.ref o, .int p0, .int p1, .int p2, .int p3] (CP D Y Z [(o, .inr (10, (dsF b))), ((b 0), .inr (6, (skF b)))] sz)) (QG (S := Unit) (fun _ => some (.int (-1))) (fun _ => True) (fun u => CB D ((fun _ => []) u) (va_A [(o, .inr (10, (dsF b))), ((b 0), .inr (6, (skF b)))] sz)) (va_A [(o, .inr (10, (dsF b))), ((b 0), .inr (6, (skF b)))] sz)) 0 0 (va_A [(o, .inr (10, (dsF b))), ((b 0), .inr (6, (skF b)))] sz) := by
  refine Met.ofW (cc := cX10_weight) (maxL := 5) (ret := (some .int)) (by decide) rfl ?_
  intro p e s m args below meth c s₁ B hml hv
  obtain ⟨rfl, hsz, hP, hKN, hD0⟩ := hv
  have hx := B.exec
  have hb := B.bytes
  have hr := B.returns
  have hts := atoms_spec (ws := .code yX10_weight cX10_weight 5 (some .int) :: GW) B.pre
  have hg : ∀ w ∈ GW, w.before _ s = true := fun w h => hts w (List.mem_cons_of_mem _ h)
  have hown : s.vm.findClass RX10 = some m.cls := findClass_of_methodNamed B.named
  have hlocks := B.notSynchronized
  subst hsz
  have hD := hD0.self (sz := s.heap.size)
  generalize hAe : va_A [(o, .inr (10, (dsF b))), ((b 0), .inr (6, (skF b)))] s.heap.size = A at hD ⊢
  have hA : ∀ q : Nat, s.heap.size ≤ q → A q := fun q h => by rw [← hAe]; exact Or.inr h
  have hl := lv_entry ([.ref o, .int p0, .int p1, .int p2, .int p3]) (n := 5) (Nat.le_of_ble_eq_true rfl)
  rw [lg_entry_eq]
  generalize (lg_sl ([.ref o, .int p0, .int p1, .int p2, .int p3]) ++ List.replicate (5 - (lg_sl ([.ref o, .int p0, .int p1, .int p2, .int p3])).length) Slot.unset).toArray = ls at hl ⊢
  have hl : lv_has ls 5 [(0, .ref o), (1, .int p0), (2, .int p1), (3, .int p2), (4, .int p3)] := hl
  refine w_start (A0 := A) hP (fun H locs hP hS => ?_)
  refine lv_iload hx hb dX10_weight_0 (lv_at hl 4 rfl) ?_
  refine lv_iconst (v := 0) hx hb dX10_weight_2 (by decide) ?_
  refine lv_iconst (v := 4) hx hb dX10_weight_3 (by decide) ?_
  refine cg0 (rn_S (As := [.int p3, .int 0, .int 4]) (rest := []) (c_isWithin l D Y Z H.size p3 0 4 (0) (4) (by decide) (by decide)) ⟨hx, hb, hml, hown, hg⟩ lk_X10_100 ⟨CP.blind, CP.at nilP hKN (nilD (A := fun _ => True))⟩ ⟨⟨rfl, rfl⟩, ⟨Nat.le_of_ble_eq_true rfl, Nat.le_of_ble_eq_true rfl⟩, ⟨Nat.le_of_ble_eq_true rfl, Nat.le_of_ble_eq_true rfl⟩⟩ hl.1 rfl (Nat.le_of_ble_eq_true rfl) dX10_weight_4) hP hS hA (fun u1 H locs w2 hP hS => ?_)
  rcases w2 with ⟨w2, rfl⟩ | ⟨w2, rfl⟩
  · skip
    refine W.eq (g2 := F0 m 7 ls [.int 1]) rfl ?_
    refine lv_if_eq (tgt := 20) hx hb dX10_weight_7 (by decide) (fun c3 => ?_) (fun c3 => ?_)
    · exact absurd c3 (by decide)
    refine lv_aload_n hx hb dX10_weight_10 rfl (lv_at hl 0 rfl) ?_
    refine lv_iload_n hx hb dX10_weight_11 rfl (lv_at hl 1 rfl) ?_
    refine lv_iload_n hx hb dX10_weight_12 rfl (lv_at hl 2 rfl) ?_
    refine lv_iload_n hx hb dX10_weight_13 rfl (lv_at hl 3 rfl) ?_
    refine cg (wc := [(o, .inr (10, (dsF b))), ((b 0), .inr (6, (skF b)))]) (wr := []) [0, 1] [] (rn_V (As := [.int p0, .int p1, .int p2]) (rest := []) (b := o) (c_isWeighed l D Y Z H.size o b p0 p1 p2) ⟨hx, hb, hml, hown, hg⟩ lk_X10_343 ⟨CP.blind, va_recv hKN.1 hP (ci := 10) (q0 := 0) rfl rfl, CP.at (hP.sub [0, 1] rfl) hKN (hD.sub [0, 1] (by decide) rfl)⟩ ⟨⟨rfl, rfl⟩, ⟨Nat.le_of_ble_eq_true rfl, Nat.le_of_ble_eq_true rfl⟩, ⟨Nat.le_of_ble_eq_true rfl, Nat.le_of_ble_eq_true rfl⟩⟩ hl.1 rfl (Nat.le_of_ble_eq_true rfl) dX10_weight_14) hP hD hS hA rfl rfl (by decide) (by decide) (fun u4 H locs w5 hP hD hS => ?_)
    refine W.eq (g2 := F0 m 17 ls [.int 0]) rfl ?_
    have hP : va_P D vwCl [(o, .inr (10, (dsF b))), ((b 0), .inr (6, (skF b)))] H := hP
    have hD : va_D A [(o, .inr (10, (dsF b))), ((b 0), .inr (6, (skF b)))] := hD
    refine lv_if_ne (tgt := 22) hx hb dX10_weight_17 (by decide) (fun c6 => ?_) (fun c6 => ?_)
    · exact absurd c6 (by decide)
    refine lv_iconst (v := (-1)) hx hb dX10_weight_20 (by decide) ?_
    refine W.widen (k := 0) (n := 0) (Nat.le_of_ble_eq_true rfl) (Nat.le_of_ble_eq_true rfl) ?_
    exact W.iret (v := (-1)) hx hb hr (fun t ht hW => ⟨⟨(), rfl, trivial, CB.nil⟩, hS.F ht⟩) hS.2.2 dX10_weight_21
  · skip
    refine W.eq (g2 := F0 m 7 ls [.int 0]) rfl ?_
    refine lv_if_eq (tgt := 20) hx hb dX10_weight_7 (by decide) (fun c7 => ?_) (fun c7 => ?_)
    rotate_left
    · exact absurd c7 (by decide)
    refine lv_iconst (v := (-1)) hx hb dX10_weight_20 (by decide) ?_
    refine W.widen (k := 0) (n := 0) (Nat.le_of_ble_eq_true rfl) (Nat.le_of_ble_eq_true rfl) ?_
    exact W.iret (v := (-1)) hx hb hr (fun t ht hW => ⟨⟨(), rfl, trivial, CB.nil⟩, hS.F ht⟩) hS.2.2 dX10_weight_21
set_option maxHeartbeats 4000000 in
set_option maxRecDepth 100000 in
theorem y_weight (l : Launch) (D : va_G) (Y : Nat → ClassId) (Z : Nat → Nat) (sz : Nat) (o : Nat) (a : Nat → Nat) (p0 p1 p2 p3 : Int32) : Met l yX11_weight (.code yX11_weight cX11_weight 5 (some .int) :: GW) ({ frames := 2, cells := 0, slots := 0, locals := 45 }) (va_Pc [.ref o, .int p0, .int p1, .int p2, .int p3] (CP D Y Z [(o, .inr (11, (moF a))), ((a 3), .inl (Y 0, 3, .inl (fun _ => 0)))] sz)) (QG (S := Unit) (fun _ => some (.int (-1))) (fun _ => True) (fun u => CB D ((fun _ => []) u) (va_A [(o, .inr (11, (moF a))), ((a 3), .inl (Y 0, 3, .inl (fun _ => 0)))] sz)) (va_A [(o, .inr (11, (moF a))), ((a 3), .inl (Y 0, 3, .inl (fun _ => 0)))] sz)) 0 0 (va_A [(o, .inr (11, (moF a))), ((a 3), .inl (Y 0, 3, .inl (fun _ => 0)))] sz) := by
  refine Met.ofW (cc := cX11_weight) (maxL := 5) (ret := (some .int)) (by decide) rfl ?_
  intro p e s m args below meth c s₁ B hml hv
  obtain ⟨rfl, hsz, hP, hKN, hD0⟩ := hv
  have hx := B.exec
  have hb := B.bytes
  have hr := B.returns
  have hts := atoms_spec (ws := .code yX11_weight cX11_weight 5 (some .int) :: GW) B.pre
  have hg : ∀ w ∈ GW, w.before _ s = true := fun w h => hts w (List.mem_cons_of_mem _ h)
  have hown : s.vm.findClass RX11 = some m.cls := findClass_of_methodNamed B.named
  have hlocks := B.notSynchronized
  subst hsz
  have hD := hD0.self (sz := s.heap.size)
  generalize hAe : va_A [(o, .inr (11, (moF a))), ((a 3), .inl (Y 0, 3, .inl (fun _ => 0)))] s.heap.size = A at hD ⊢
  have hA : ∀ q : Nat, s.heap.size ≤ q → A q := fun q h => by rw [← hAe]; exact Or.inr h
  have hl := lv_entry ([.ref o, .int p0, .int p1, .int p2, .int p3]) (n := 5) (Nat.le_of_ble_eq_true rfl)
  rw [lg_entry_eq]
  generalize (lg_sl ([.ref o, .int p0, .int p1, .int p2, .int p3]) ++ List.replicate (5 - (lg_sl ([.ref o, .int p0, .int p1, .int p2, .int p3])).length) Slot.unset).toArray = ls at hl ⊢
  have hl : lv_has ls 5 [(0, .ref o), (1, .int p0), (2, .int p1), (3, .int p2), (4, .int p3)] := hl
  refine w_start (A0 := A) hP (fun H locs hP hS => ?_)
  refine lv_iload hx hb dX11_weight_0 (lv_at hl 4 rfl) ?_
  refine lv_i2l (v := p3.toInt64) hx hb dX11_weight_2 (rfl) ?_
  refine lv_lconst (v := 0) hx hb dX11_weight_3 (by decide) ?_
  refine lv_ldc2 (v := 4) hx hb hown (hg _ kw_1665) dX11_weight_4 ?_
  refine cg0 (rn_S (As := [.long p3.toInt64, .long 0, .long 4]) (rest := []) (c_in l D Y Z H.size p3.toInt64 0 4 (p3).toInt (0) (4) (Int32.toInt_toInt64 _) (by decide) (by decide) ) ⟨hx, hb, hml, hown, hg⟩ lk_X11_99 ⟨CP.blind, CP.at nilP hKN (nilD (A := fun _ => True))⟩ ⟨⟨rfl, rfl⟩, ⟨Nat.le_of_ble_eq_true rfl, Nat.le_of_ble_eq_true rfl⟩, ⟨Nat.le_of_ble_eq_true rfl, Nat.le_of_ble_eq_true rfl⟩⟩ hl.1 rfl (Nat.le_of_ble_eq_true rfl) dX11_weight_7) hP hS hA (fun u1 H locs w2 hP hS => ?_)
  rcases w2 with ⟨w2, rfl⟩ | ⟨w2, rfl⟩
  · skip
    refine W.eq (g2 := F0 m 10 ls [.int 1]) rfl ?_
    refine lv_if_eq (tgt := 33) hx hb dX11_weight_10 (by decide) (fun c3 => ?_) (fun c3 => ?_)
    · exact absurd c3 (by decide)
    refine lv_aload_n hx hb dX11_weight_13 rfl (lv_at hl 0 rfl) ?_
    refine lv_iload_n hx hb dX11_weight_14 rfl (lv_at hl 1 rfl) ?_
    refine lv_iload_n hx hb dX11_weight_15 rfl (lv_at hl 2 rfl) ?_
    refine lv_iload_n hx hb dX11_weight_16 rfl (lv_at hl 3 rfl) ?_
    refine cg (wc := [(o, .inr (11, (moF a))), ((a 3), .inl (Y 0, 3, .inl (fun _ => 0)))]) (wr := []) [0, 1] [] (rn_V (As := [.int p0, .int p1, .int p2]) (rest := []) (b := o) (m_canWeigh l D Y Z H.size o a p0 p1 p2) ⟨hx, hb, hml, hown, hg⟩ lk_X11_546 ⟨CP.blind, va_recv hKN.1 hP (ci := 11) (q0 := 0) rfl rfl, CP.at (hP.sub [0, 1] rfl) hKN (hD.sub [0, 1] (by decide) rfl)⟩ ⟨⟨rfl, rfl⟩, ⟨Nat.le_of_ble_eq_true rfl, Nat.le_of_ble_eq_true rfl⟩, ⟨Nat.le_of_ble_eq_true rfl, Nat.le_of_ble_eq_true rfl⟩⟩ hl.1 rfl (Nat.le_of_ble_eq_true rfl) dX11_weight_17) hP hD hS hA rfl rfl (by decide) (by decide) (fun u4 H locs w5 hP hD hS => ?_)
    refine W.eq (g2 := F0 m 20 ls [.int 0]) rfl ?_
    have hP : va_P D vwCl [(o, .inr (11, (moF a))), ((a 3), .inl (Y 0, 3, .inl (fun _ => 0)))] H := hP
    have hD : va_D A [(o, .inr (11, (moF a))), ((a 3), .inl (Y 0, 3, .inl (fun _ => 0)))] := hD
    refine lv_if_eq (tgt := 33) hx hb dX11_weight_20 (by decide) (fun c6 => ?_) (fun c6 => ?_)
    rotate_left
    · exact absurd c6 (by decide)
    refine lv_iconst (v := (-1)) hx hb dX11_weight_33 (by decide) ?_
    refine W.widen (k := 0) (n := 0) (Nat.le_of_ble_eq_true rfl) (Nat.le_of_ble_eq_true rfl) ?_
    exact W.iret (v := (-1)) hx hb hr (fun t ht hW => ⟨⟨(), rfl, trivial, CB.nil⟩, hS.F ht⟩) hS.2.2 dX11_weight_34
  · skip
    refine W.eq (g2 := F0 m 10 ls [.int 0]) rfl ?_
    refine lv_if_eq (tgt := 33) hx hb dX11_weight_10 (by decide) (fun c7 => ?_) (fun c7 => ?_)
    rotate_left
    · exact absurd c7 (by decide)
    refine lv_iconst (v := (-1)) hx hb dX11_weight_33 (by decide) ?_
    refine W.widen (k := 0) (n := 0) (Nat.le_of_ble_eq_true rfl) (Nat.le_of_ble_eq_true rfl) ?_
    exact W.iret (v := (-1)) hx hb hr (fun t ht hW => ⟨⟨(), rfl, trivial, CB.nil⟩, hS.F ht⟩) hS.2.2 dX11_weight_34
