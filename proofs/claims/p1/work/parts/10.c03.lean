set_option maxHeartbeats 4000000 in
set_option maxRecDepth 100000 in
theorem y_fold (l : Launch) (D : va_G) (Y : Nat → ClassId) (Z : Nat → Nat) (sz : Nat) (o : Nat) (a : Nat → Nat) (p0 p1 p2 p3 p4 : Int32) : Met l yX11_fold (.code yX11_fold cX11_fold 10 (some .long) :: GW) ({ frames := 1, cells := 0, slots := 0, locals := 21 }) (va_Pc [.ref o, .int p0, .int p1, .int p2, .int p3, .int p4] (CP D Y Z [(o, .inr (11, (moF a))), ((a 0), .inl (Y 0, 7533, .inl tolF))] sz)) (QG (S := Unit) (fun _ => some (.long (-1000000000))) (fun _ => True) (fun u => CB D ((fun _ => []) u) (va_A [(o, .inr (11, (moF a))), ((a 0), .inl (Y 0, 7533, .inl tolF))] sz)) (va_A [(o, .inr (11, (moF a))), ((a 0), .inl (Y 0, 7533, .inl tolF))] sz)) 0 0 (va_A [(o, .inr (11, (moF a))), ((a 0), .inl (Y 0, 7533, .inl tolF))] sz) := by
  refine Met.ofW (cc := cX11_fold) (maxL := 10) (ret := (some .long)) (by decide) rfl ?_
  intro p e s m args below meth c s₁ B hml hv
  obtain ⟨rfl, hsz, hP, hKN, hD0⟩ := hv
  have hx := B.exec
  have hb := B.bytes
  have hr := B.returns
  have hts := atoms_spec (ws := .code yX11_fold cX11_fold 10 (some .long) :: GW) B.pre
  have hg : ∀ w ∈ GW, w.before _ s = true := fun w h => hts w (List.mem_cons_of_mem _ h)
  have hown : s.vm.findClass RX11 = some m.cls := findClass_of_methodNamed B.named
  have hlocks := B.notSynchronized
  subst hsz
  have hD := hD0.self (sz := s.heap.size)
  generalize hAe : va_A [(o, .inr (11, (moF a))), ((a 0), .inl (Y 0, 7533, .inl tolF))] s.heap.size = A at hD ⊢
  have hA : ∀ q : Nat, s.heap.size ≤ q → A q := fun q h => by rw [← hAe]; exact Or.inr h
  have hl := lv_entry ([.ref o, .int p0, .int p1, .int p2, .int p3, .int p4]) (n := 10) (Nat.le_of_ble_eq_true rfl)
  rw [lg_entry_eq]
  generalize (lg_sl ([.ref o, .int p0, .int p1, .int p2, .int p3, .int p4]) ++ List.replicate (10 - (lg_sl ([.ref o, .int p0, .int p1, .int p2, .int p3, .int p4])).length) Slot.unset).toArray = ls at hl ⊢
  have hl : lv_has ls 10 [(0, .ref o), (1, .int p0), (2, .int p1), (3, .int p2), (4, .int p3), (5, .int p4)] := hl
  refine w_start (A0 := A) hP (fun H locs hP hS => ?_)
  refine lv_aload_n hx hb dX11_fold_0 rfl (lv_at hl 0 rfl) ?_
  refine lv_iload_n hx hb dX11_fold_1 rfl (lv_at hl 1 rfl) ?_
  refine cg (wc := [(o, .inr (11, (moF a))), ((a 0), .inl (Y 0, 7533, .inl tolF))]) (wr := []) [0, 1] [] (rn_V (As := [.int p0]) (rest := []) (b := o) (m_isStar l D Y Z H.size o a p0) ⟨hx, hb, hml, hown, hg⟩ lk_X11_108 ⟨CP.blind, va_recv hKN.1 hP (ci := 11) (q0 := 0) rfl rfl, CP.at (hP.sub [0, 1] rfl) hKN (hD.sub [0, 1] (by decide) rfl)⟩ ⟨⟨rfl, rfl⟩, ⟨Nat.le_of_ble_eq_true rfl, Nat.le_of_ble_eq_true rfl⟩, ⟨Nat.le_of_ble_eq_true rfl, Nat.le_of_ble_eq_true rfl⟩⟩ hl.1 rfl (Nat.le_of_ble_eq_true rfl) dX11_fold_2) hP hD hS hA rfl rfl (by decide) (by decide) (fun u1 H locs w2 hP hD hS => ?_)
  refine W.eq (g2 := F0 m 5 ls [.int 0]) rfl ?_
  have hP : va_P D vwCl [(o, .inr (11, (moF a))), ((a 0), .inl (Y 0, 7533, .inl tolF))] H := hP
  have hD : va_D A [(o, .inr (11, (moF a))), ((a 0), .inl (Y 0, 7533, .inl tolF))] := hD
  refine lv_if_eq (tgt := 59) hx hb dX11_fold_5 (by decide) (fun c3 => ?_) (fun c3 => ?_)
  rotate_left
  · exact absurd c3 (by decide)
  refine lv_ldc2 (v := (-1000000000)) hx hb hown (hg _ kw_1893) dX11_fold_59 ?_
  refine W.widen (k := 0) (n := 0) (Nat.le_of_ble_eq_true rfl) (Nat.le_of_ble_eq_true rfl) ?_
  exact W.lret (v := (-1000000000)) hx hb hr (fun t ht hW => ⟨⟨(), rfl, trivial, CB.nil⟩, hS.F ht⟩) hS.2.2 dX11_fold_62
set_option maxHeartbeats 4000000 in
set_option maxRecDepth 100000 in
theorem x_candidate (l : Launch) (D : va_G) (Y : Nat → ClassId) (Z : Nat → Nat) (sz : Nat) (o : Nat) (b : Nat → Nat) (p0 p1 p2 : Int32) : Met l yX10_candidate (.code yX10_candidate cX10_candidate 5 (some .int) :: GW) ({ frames := 2, cells := 0, slots := 0, locals := 42 }) (va_Pc [.ref o, .int p0, .int p1, .int p2] (CP D Y Z [(o, .inr (10, (dsF b))), ((b 0), .inr (6, (skF b)))] sz)) (QG (S := Unit) (fun _ => some (.int (-1))) (fun _ => True) (fun u => CB D ((fun _ => []) u) (va_A [(o, .inr (10, (dsF b))), ((b 0), .inr (6, (skF b)))] sz)) (va_A [(o, .inr (10, (dsF b))), ((b 0), .inr (6, (skF b)))] sz)) 0 0 (va_A [(o, .inr (10, (dsF b))), ((b 0), .inr (6, (skF b)))] sz) := by
  refine Met.ofW (cc := cX10_candidate) (maxL := 5) (ret := (some .int)) (by decide) rfl ?_
  intro p e s m args below meth c s₁ B hml hv
  obtain ⟨rfl, hsz, hP, hKN, hD0⟩ := hv
  have hx := B.exec
  have hb := B.bytes
  have hr := B.returns
  have hts := atoms_spec (ws := .code yX10_candidate cX10_candidate 5 (some .int) :: GW) B.pre
  have hg : ∀ w ∈ GW, w.before _ s = true := fun w h => hts w (List.mem_cons_of_mem _ h)
  have hown : s.vm.findClass RX10 = some m.cls := findClass_of_methodNamed B.named
  have hlocks := B.notSynchronized
  subst hsz
  have hD := hD0.self (sz := s.heap.size)
  generalize hAe : va_A [(o, .inr (10, (dsF b))), ((b 0), .inr (6, (skF b)))] s.heap.size = A at hD ⊢
  have hA : ∀ q : Nat, s.heap.size ≤ q → A q := fun q h => by rw [← hAe]; exact Or.inr h
  have hl := lv_entry ([.ref o, .int p0, .int p1, .int p2]) (n := 5) (Nat.le_of_ble_eq_true rfl)
  rw [lg_entry_eq]
  generalize (lg_sl ([.ref o, .int p0, .int p1, .int p2]) ++ List.replicate (5 - (lg_sl ([.ref o, .int p0, .int p1, .int p2])).length) Slot.unset).toArray = ls at hl ⊢
  have hl : lv_has ls 5 [(0, .ref o), (1, .int p0), (2, .int p1), (3, .int p2)] := hl
  refine w_start (A0 := A) hP (fun H locs hP hS => ?_)
  refine lv_aload_n hx hb dX10_candidate_0 rfl (lv_at hl 0 rfl) ?_
  refine lv_iload_n hx hb dX10_candidate_1 rfl (lv_at hl 1 rfl) ?_
  refine cg (wc := [(o, .inr (10, (dsF b))), ((b 0), .inr (6, (skF b)))]) (wr := []) [0, 1] [] (rn_V (As := [.int p0]) (rest := []) (b := o) (c_isStar l D Y Z H.size o b p0) ⟨hx, hb, hml, hown, hg⟩ lk_X10_137 ⟨CP.blind, va_recv hKN.1 hP (ci := 10) (q0 := 0) rfl rfl, CP.at (hP.sub [0, 1] rfl) hKN (hD.sub [0, 1] (by decide) rfl)⟩ ⟨⟨rfl, rfl⟩, ⟨Nat.le_of_ble_eq_true rfl, Nat.le_of_ble_eq_true rfl⟩, ⟨Nat.le_of_ble_eq_true rfl, Nat.le_of_ble_eq_true rfl⟩⟩ hl.1 rfl (Nat.le_of_ble_eq_true rfl) dX10_candidate_2) hP hD hS hA rfl rfl (by decide) (by decide) (fun u1 H locs w2 hP hD hS => ?_)
  refine W.eq (g2 := F0 m 5 ls [.int 0]) rfl ?_
  have hP : va_P D vwCl [(o, .inr (10, (dsF b))), ((b 0), .inr (6, (skF b)))] H := hP
  have hD : va_D A [(o, .inr (10, (dsF b))), ((b 0), .inr (6, (skF b)))] := hD
  refine lv_if_eq (tgt := 33) hx hb dX10_candidate_5 (by decide) (fun c3 => ?_) (fun c3 => ?_)
  rotate_left
  · exact absurd c3 (by decide)
  refine lv_iconst (v := 0) hx hb dX10_candidate_33 (by decide) ?_
  refine lv_istore (lv' := [(4, .int 0), (0, .ref o), (1, .int p0), (2, .int p1), (3, .int p2)]) hx hb dX10_candidate_34 hl (by decide) rfl (fun ls hl => ?_)
  refine lv_iload hx hb dX10_candidate_36 (lv_at hl 0 rfl) ?_
  refine lv_if_eq (tgt := 53) hx hb dX10_candidate_38 (by decide) (fun c4 => ?_) (fun c4 => ?_)
  rotate_left
  · exact absurd c4 (by decide)
  refine lv_iconst (v := (-1)) hx hb dX10_candidate_53 (by decide) ?_
  refine W.widen (k := 0) (n := 0) (Nat.le_of_ble_eq_true rfl) (Nat.le_of_ble_eq_true rfl) ?_
  exact W.iret (v := (-1)) hx hb hr (fun t ht hW => ⟨⟨(), rfl, trivial, CB.nil⟩, hS.F ht⟩) hS.2.2 dX10_candidate_54
set_option maxHeartbeats 4000000 in
set_option maxRecDepth 100000 in
theorem y_candidate (l : Launch) (D : va_G) (Y : Nat → ClassId) (Z : Nat → Nat) (sz : Nat) (o : Nat) (a : Nat → Nat) (p0 p1 p2 : Int32) : Met l yX11_candidate (.code yX11_candidate cX11_candidate 5 (some .int) :: GW) ({ frames := 1, cells := 0, slots := 0, locals := 21 }) (va_Pc [.ref o, .int p0, .int p1, .int p2] (CP D Y Z [(o, .inr (11, (moF a))), ((a 0), .inl (Y 0, 7533, .inl tolF))] sz)) (QG (S := Unit) (fun _ => some (.int (-1))) (fun _ => True) (fun u => CB D ((fun _ => []) u) (va_A [(o, .inr (11, (moF a))), ((a 0), .inl (Y 0, 7533, .inl tolF))] sz)) (va_A [(o, .inr (11, (moF a))), ((a 0), .inl (Y 0, 7533, .inl tolF))] sz)) 0 0 (va_A [(o, .inr (11, (moF a))), ((a 0), .inl (Y 0, 7533, .inl tolF))] sz) := by
  refine Met.ofW (cc := cX11_candidate) (maxL := 5) (ret := (some .int)) (by decide) rfl ?_
  intro p e s m args below meth c s₁ B hml hv
  obtain ⟨rfl, hsz, hP, hKN, hD0⟩ := hv
  have hx := B.exec
  have hb := B.bytes
  have hr := B.returns
  have hts := atoms_spec (ws := .code yX11_candidate cX11_candidate 5 (some .int) :: GW) B.pre
  have hg : ∀ w ∈ GW, w.before _ s = true := fun w h => hts w (List.mem_cons_of_mem _ h)
  have hown : s.vm.findClass RX11 = some m.cls := findClass_of_methodNamed B.named
  have hlocks := B.notSynchronized
  subst hsz
  have hD := hD0.self (sz := s.heap.size)
  generalize hAe : va_A [(o, .inr (11, (moF a))), ((a 0), .inl (Y 0, 7533, .inl tolF))] s.heap.size = A at hD ⊢
  have hA : ∀ q : Nat, s.heap.size ≤ q → A q := fun q h => by rw [← hAe]; exact Or.inr h
  have hl := lv_entry ([.ref o, .int p0, .int p1, .int p2]) (n := 5) (Nat.le_of_ble_eq_true rfl)
  rw [lg_entry_eq]
  generalize (lg_sl ([.ref o, .int p0, .int p1, .int p2]) ++ List.replicate (5 - (lg_sl ([.ref o, .int p0, .int p1, .int p2])).length) Slot.unset).toArray = ls at hl ⊢
  have hl : lv_has ls 5 [(0, .ref o), (1, .int p0), (2, .int p1), (3, .int p2)] := hl
  refine w_start (A0 := A) hP (fun H locs hP hS => ?_)
  refine lv_aload_n hx hb dX11_candidate_0 rfl (lv_at hl 0 rfl) ?_
  refine va_get (D := D) (ci := 11) (v := .ref (a 0)) (C := RX11) (T := TX11) (N := 49) hx hb hg inGX11 hown hKN.1 hP 0 rfl rfl 0 (by decide) (hg _ kw_1208) (fun _ h9 => h9) rfl dX11_candidate_1 ?_
  refine lv_iconst (v := 2) hx hb dX11_candidate_4 (by decide) ?_
  refine va_iald hx hb hKN.1 hP 1 0 rfl rfl (show ¬ ((2 : Int32) < 0 ∨ 7533 ≤ (2 : Int32).toNatClampNeg) by decide) dX11_candidate_5 ?_
  refine lv_topi (fun z1 ez1 => ?_)
  obtain rfl : z1 = 0 := ez1.trans (by decide)
  refine lv_bipush (v := 12) hx hb dX11_candidate_6 (by decide) ?_
  refine lv_icmp_eq (tgt := 43) hx hb dX11_candidate_8 (by decide) (fun c2 => ?_) (fun c2 => ?_)
  · exact absurd c2 (by decide)
  refine lv_aload_n hx hb dX11_candidate_11 rfl (lv_at hl 0 rfl) ?_
  refine lv_iload_n hx hb dX11_candidate_12 rfl (lv_at hl 1 rfl) ?_
  refine cg (wc := [(o, .inr (11, (moF a))), ((a 0), .inl (Y 0, 7533, .inl tolF))]) (wr := []) [0, 1] [] (rn_V (As := [.int p0]) (rest := []) (b := o) (m_isStar l D Y Z H.size o a p0) ⟨hx, hb, hml, hown, hg⟩ lk_X11_108 ⟨CP.blind, va_recv hKN.1 hP (ci := 11) (q0 := 0) rfl rfl, CP.at (hP.sub [0, 1] rfl) hKN (hD.sub [0, 1] (by decide) rfl)⟩ ⟨⟨rfl, rfl⟩, ⟨Nat.le_of_ble_eq_true rfl, Nat.le_of_ble_eq_true rfl⟩, ⟨Nat.le_of_ble_eq_true rfl, Nat.le_of_ble_eq_true rfl⟩⟩ hl.1 rfl (Nat.le_of_ble_eq_true rfl) dX11_candidate_13) hP hD hS hA rfl rfl (by decide) (by decide) (fun u3 H locs w4 hP hD hS => ?_)
  refine W.eq (g2 := F0 m 16 ls [.int 0]) rfl ?_
  have hP : va_P D vwCl [(o, .inr (11, (moF a))), ((a 0), .inl (Y 0, 7533, .inl tolF))] H := hP
  have hD : va_D A [(o, .inr (11, (moF a))), ((a 0), .inl (Y 0, 7533, .inl tolF))] := hD
  refine lv_if_eq (tgt := 43) hx hb dX11_candidate_16 (by decide) (fun c5 => ?_) (fun c5 => ?_)
  rotate_left
  · exact absurd c5 (by decide)
  refine lv_iconst (v := (-1)) hx hb dX11_candidate_43 (by decide) ?_
  refine W.widen (k := 0) (n := 0) (Nat.le_of_ble_eq_true rfl) (Nat.le_of_ble_eq_true rfl) ?_
  exact W.iret (v := (-1)) hx hb hr (fun t ht hW => ⟨⟨(), rfl, trivial, CB.nil⟩, hS.F ht⟩) hS.2.2 dX11_candidate_44
set_option maxHeartbeats 4000000 in
set_option maxRecDepth 100000 in
theorem x_back (l : Launch) (D : va_G) (Y : Nat → ClassId) (Z : Nat → Nat) (sz : Nat) (o : Nat) (b : Nat → Nat) (p0 : Int32) : Met l yX10_back (.code yX10_back cX10_back 3 (some .int) :: GW) ({ frames := 1, cells := 0, slots := 0, locals := 22 }) (va_Pc [.ref o, .int p0] (CP D Y Z [(o, .inr (10, (dsF b))), ((b 1), .inl (Y 4, 4, .inr (.inr (.inr (.inr (fun _ => none))))))] sz)) (QG (S := Unit) (fun _ => some (.int (-1))) (fun _ => True) (fun u => CB D ((fun _ => []) u) (va_A [(o, .inr (10, (dsF b))), ((b 1), .inl (Y 4, 4, .inr (.inr (.inr (.inr (fun _ => none))))))] sz)) (va_A [(o, .inr (10, (dsF b))), ((b 1), .inl (Y 4, 4, .inr (.inr (.inr (.inr (fun _ => none))))))] sz)) 0 0 (va_A [(o, .inr (10, (dsF b))), ((b 1), .inl (Y 4, 4, .inr (.inr (.inr (.inr (fun _ => none))))))] sz) := by
  refine Met.ofW (cc := cX10_back) (maxL := 3) (ret := (some .int)) (by decide) rfl ?_
  intro p e s m args below meth c s₁ B hml hv
  obtain ⟨rfl, hsz, hP, hKN, hD0⟩ := hv
  have hx := B.exec
  have hb := B.bytes
  have hr := B.returns
  have hts := atoms_spec (ws := .code yX10_back cX10_back 3 (some .int) :: GW) B.pre
  have hg : ∀ w ∈ GW, w.before _ s = true := fun w h => hts w (List.mem_cons_of_mem _ h)
  have hown : s.vm.findClass RX10 = some m.cls := findClass_of_methodNamed B.named
  have hlocks := B.notSynchronized
  subst hsz
  have hD := hD0.self (sz := s.heap.size)
  generalize hAe : va_A [(o, .inr (10, (dsF b))), ((b 1), .inl (Y 4, 4, .inr (.inr (.inr (.inr (fun _ => none))))))] s.heap.size = A at hD ⊢
  have hA : ∀ q : Nat, s.heap.size ≤ q → A q := fun q h => by rw [← hAe]; exact Or.inr h
  have hl := lv_entry ([.ref o, .int p0]) (n := 3) (Nat.le_of_ble_eq_true rfl)
  rw [lg_entry_eq]
  generalize (lg_sl ([.ref o, .int p0]) ++ List.replicate (3 - (lg_sl ([.ref o, .int p0])).length) Slot.unset).toArray = ls at hl ⊢
  have hl : lv_has ls 3 [(0, .ref o), (1, .int p0)] := hl
  refine w_start (A0 := A) hP (fun H locs hP hS => ?_)
  refine lv_iload_n hx hb dX10_back_0 rfl (lv_at hl 1 rfl) ?_
  refine lv_iconst (v := 0) hx hb dX10_back_1 (by decide) ?_
  refine lv_iconst (v := 3) hx hb dX10_back_2 (by decide) ?_
  refine cg0 (rn_S (As := [.int p0, .int 0, .int 3]) (rest := []) (c_isWithin l D Y Z H.size p0 0 3 (0) (3) (by decide) (by decide)) ⟨hx, hb, hml, hown, hg⟩ lk_X10_100 ⟨CP.blind, CP.at nilP hKN (nilD (A := fun _ => True))⟩ ⟨⟨rfl, rfl⟩, ⟨Nat.le_of_ble_eq_true rfl, Nat.le_of_ble_eq_true rfl⟩, ⟨Nat.le_of_ble_eq_true rfl, Nat.le_of_ble_eq_true rfl⟩⟩ hl.1 rfl (Nat.le_of_ble_eq_true rfl) dX10_back_3) hP hS hA (fun u1 H locs w2 hP hS => ?_)
  rcases w2 with ⟨w2, rfl⟩ | ⟨w2, rfl⟩
  · skip
    refine W.eq (g2 := F0 m 6 ls [.int 1]) rfl ?_
    refine lv_if_eq (tgt := 18) hx hb dX10_back_6 (by decide) (fun c3 => ?_) (fun c3 => ?_)
    · exact absurd c3 (by decide)
    refine lv_aload_n hx hb dX10_back_9 rfl (lv_at hl 0 rfl) ?_
    refine va_get (D := D) (ci := 10) (v := .ref (b 1)) (C := RX10) (T := TX10) (N := 20) hx hb hg inGX10 hown hKN.1 hP 0 rfl rfl 1 (by decide) (hg _ kw_350) (fun _ h9 => h9) rfl dX10_back_10 ?_
    refine lv_iload_n hx hb dX10_back_13 rfl (lv_at hl 1 rfl) ?_
    refine va_aldq hx hb hKN.1 hP 1 4 rfl rfl (vp_in_iff.mpr ⟨by omega, by omega⟩) dX10_back_14 ?_
    refine W.eq (g2 := F0 m 15 ls [.null]) rfl ?_
    refine lv_goto (tgt := 19) hx hb dX10_back_15 (by decide) ?_
    refine lv_astore_nN (lv' := [(2, .null), (0, .ref o), (1, .int p0)]) hx hb dX10_back_19 rfl hl (by decide) rfl (fun ls hl => ?_)
    refine lv_aload_nN hx hb dX10_back_20 rfl (lv_at hl 0 rfl) ?_
    refine lv_ifnonnullN hx hb dX10_back_21 ?_
    refine lv_iconst (v := (-1)) hx hb dX10_back_24 (by decide) ?_
    refine W.widen (k := 0) (n := 0) (Nat.le_of_ble_eq_true rfl) (Nat.le_of_ble_eq_true rfl) ?_
    exact W.iret (v := (-1)) hx hb hr (fun t ht hW => ⟨⟨(), rfl, trivial, CB.nil⟩, hS.F ht⟩) hS.2.2 dX10_back_25
  · skip
    refine W.eq (g2 := F0 m 6 ls [.int 0]) rfl ?_
    refine lv_if_eq (tgt := 18) hx hb dX10_back_6 (by decide) (fun c4 => ?_) (fun c4 => ?_)
    rotate_left
    · exact absurd c4 (by decide)
    refine lv_null hx hb dX10_back_18 ?_
    refine lv_astore_nN (lv' := [(2, .null), (0, .ref o), (1, .int p0)]) hx hb dX10_back_19 rfl hl (by decide) rfl (fun ls hl => ?_)
    refine lv_aload_nN hx hb dX10_back_20 rfl (lv_at hl 0 rfl) ?_
    refine lv_ifnonnullN hx hb dX10_back_21 ?_
    refine lv_iconst (v := (-1)) hx hb dX10_back_24 (by decide) ?_
    refine W.widen (k := 0) (n := 0) (Nat.le_of_ble_eq_true rfl) (Nat.le_of_ble_eq_true rfl) ?_
    exact W.iret (v := (-1)) hx hb hr (fun t ht hW => ⟨⟨(), rfl, trivial, CB.nil⟩, hS.F ht⟩) hS.2.2 dX10_back_25
set_option maxHeartbeats 4000000 in
set_option maxRecDepth 100000 in
theorem y_back (l : Launch) (D : va_G) (Y : Nat → ClassId) (Z : Nat → Nat) (sz : Nat) (o : Nat) (a : Nat → Nat) (p0 : Int32) : Met l yX11_back (.code yX11_back cX11_back 3 (some .int) :: GW) ({ frames := 1, cells := 0, slots := 0, locals := 25 }) (va_Pc [.ref o, .int p0] (CP D Y Z [(o, .inr (11, (moF a))), ((a 27), .inl (Y 3, 4, .inl (fun _ => 0)))] sz)) (QG (S := Unit) (fun _ => some (.int (-1))) (fun _ => True) (fun u => CB D ((fun _ => []) u) (va_A [(o, .inr (11, (moF a))), ((a 27), .inl (Y 3, 4, .inl (fun _ => 0)))] sz)) (va_A [(o, .inr (11, (moF a))), ((a 27), .inl (Y 3, 4, .inl (fun _ => 0)))] sz)) 0 0 (va_A [(o, .inr (11, (moF a))), ((a 27), .inl (Y 3, 4, .inl (fun _ => 0)))] sz) := by
  refine Met.ofW (cc := cX11_back) (maxL := 3) (ret := (some .int)) (by decide) rfl ?_
  intro p e s m args below meth c s₁ B hml hv
  obtain ⟨rfl, hsz, hP, hKN, hD0⟩ := hv
  have hx := B.exec
  have hb := B.bytes
  have hr := B.returns
  have hts := atoms_spec (ws := .code yX11_back cX11_back 3 (some .int) :: GW) B.pre
  have hg : ∀ w ∈ GW, w.before _ s = true := fun w h => hts w (List.mem_cons_of_mem _ h)
  have hown : s.vm.findClass RX11 = some m.cls := findClass_of_methodNamed B.named
  have hlocks := B.notSynchronized
  subst hsz
  have hD := hD0.self (sz := s.heap.size)
  generalize hAe : va_A [(o, .inr (11, (moF a))), ((a 27), .inl (Y 3, 4, .inl (fun _ => 0)))] s.heap.size = A at hD ⊢
  have hA : ∀ q : Nat, s.heap.size ≤ q → A q := fun q h => by rw [← hAe]; exact Or.inr h
  have hl := lv_entry ([.ref o, .int p0]) (n := 3) (Nat.le_of_ble_eq_true rfl)
  rw [lg_entry_eq]
  generalize (lg_sl ([.ref o, .int p0]) ++ List.replicate (3 - (lg_sl ([.ref o, .int p0])).length) Slot.unset).toArray = ls at hl ⊢
  have hl : lv_has ls 3 [(0, .ref o), (1, .int p0)] := hl
  refine w_start (A0 := A) hP (fun H locs hP hS => ?_)
  refine lv_iload_n hx hb dX11_back_0 rfl (lv_at hl 1 rfl) ?_
  refine lv_i2l (v := p0.toInt64) hx hb dX11_back_1 (rfl) ?_
  refine lv_lconst (v := 0) hx hb dX11_back_2 (by decide) ?_
  refine lv_ldc2 (v := 3) hx hb hown (hg _ kw_1912) dX11_back_3 ?_
  refine cg0 (rn_S (As := [.long p0.toInt64, .long 0, .long 3]) (rest := []) (c_in l D Y Z H.size p0.toInt64 0 3 (p0).toInt (0) (3) (Int32.toInt_toInt64 _) (by decide) (by decide) ) ⟨hx, hb, hml, hown, hg⟩ lk_X11_99 ⟨CP.blind, CP.at nilP hKN (nilD (A := fun _ => True))⟩ ⟨⟨rfl, rfl⟩, ⟨Nat.le_of_ble_eq_true rfl, Nat.le_of_ble_eq_true rfl⟩, ⟨Nat.le_of_ble_eq_true rfl, Nat.le_of_ble_eq_true rfl⟩⟩ hl.1 rfl (Nat.le_of_ble_eq_true rfl) dX11_back_6) hP hS hA (fun u1 H locs w2 hP hS => ?_)
  rcases w2 with ⟨w2, rfl⟩ | ⟨w2, rfl⟩
  · skip
    refine W.eq (g2 := F0 m 9 ls [.int 1]) rfl ?_
    refine lv_if_eq (tgt := 21) hx hb dX11_back_9 (by decide) (fun c3 => ?_) (fun c3 => ?_)
    · exact absurd c3 (by decide)
    refine lv_aload_n hx hb dX11_back_12 rfl (lv_at hl 0 rfl) ?_
    refine va_get (D := D) (ci := 11) (v := .ref (a 27)) (C := RX11) (T := TX11) (N := 49) hx hb hg inGX11 hown hKN.1 hP 0 rfl rfl 48 (by decide) (hg _ kw_1256) (fun _ h9 => h9) rfl dX11_back_13 ?_
    refine lv_iload_n hx hb dX11_back_16 rfl (lv_at hl 1 rfl) ?_
    refine va_zald hx hb hKN.1 hP 1 3 rfl rfl (vp_in_iff.mpr ⟨by omega, by omega⟩) dX11_back_17 ?_
    refine lv_topi (fun z4 ez4 => ?_)
    obtain rfl : z4 = 0 := ez4.trans (by rfl)
    refine lv_if_ne (tgt := 23) hx hb dX11_back_18 (by decide) (fun c5 => ?_) (fun c5 => ?_)
    · exact absurd c5 (by decide)
    refine lv_iconst (v := (-1)) hx hb dX11_back_21 (by decide) ?_
    refine W.widen (k := 0) (n := 0) (Nat.le_of_ble_eq_true rfl) (Nat.le_of_ble_eq_true rfl) ?_
    exact W.iret (v := (-1)) hx hb hr (fun t ht hW => ⟨⟨(), rfl, trivial, CB.nil⟩, hS.F ht⟩) hS.2.2 dX11_back_22
  · skip
    refine W.eq (g2 := F0 m 9 ls [.int 0]) rfl ?_
    refine lv_if_eq (tgt := 21) hx hb dX11_back_9 (by decide) (fun c6 => ?_) (fun c6 => ?_)
    rotate_left
    · exact absurd c6 (by decide)
    refine lv_iconst (v := (-1)) hx hb dX11_back_21 (by decide) ?_
    refine W.widen (k := 0) (n := 0) (Nat.le_of_ble_eq_true rfl) (Nat.le_of_ble_eq_true rfl) ?_
    exact W.iret (v := (-1)) hx hb hr (fun t ht hW => ⟨⟨(), rfl, trivial, CB.nil⟩, hS.F ht⟩) hS.2.2 dX11_back_22
set_option maxHeartbeats 4000000 in
set_option maxRecDepth 100000 in
theorem c_fill (l : Launch) (D : va_G) (Y : Nat → ClassId) (Z : Nat → Nat) (sz : Nat) (q : Nat) (x : Int32) (f : Nat → Int32) : Met l yJ7_fill_53178 (.code yJ7_fill_53178 cJ7_fill_53178 4 none :: GW) ({ frames := 0, cells := 0, slots := 0, locals := 0 }) (va_Pc [.ref q, .int x] (CP D Y Z [(q, .inl (Y 0, 600, .inl f))] sz)) (QG (S := (Nat → Int32)) (fun _ => none) (fun _ => True) (fun u => CB D ((fun u => [(q, .inl (Y 0, 600, .inl u))]) u) (va_A [(q, .inl (Y 0, 600, .inl f))] sz)) (va_A [(q, .inl (Y 0, 600, .inl f))] sz)) 0 0 (va_A [(q, .inl (Y 0, 600, .inl f))] sz) := by
  refine Met.ofW (cc := cJ7_fill_53178) (maxL := 4) (ret := none) (by decide) rfl ?_
  intro p e s m args below meth c s₁ B hml hv
  obtain ⟨rfl, hsz, hP, hKN, hD0⟩ := hv
  have hx := B.exec
  have hb := B.bytes
  have hr := B.returns
  have hts := atoms_spec (ws := .code yJ7_fill_53178 cJ7_fill_53178 4 none :: GW) B.pre
  have hg : ∀ w ∈ GW, w.before _ s = true := fun w h => hts w (List.mem_cons_of_mem _ h)
  have hown : s.vm.findClass RJ7 = some m.cls := findClass_of_methodNamed B.named
  have hlocks := B.notSynchronized
  subst hsz
  have hD := hD0.self (sz := s.heap.size)
  generalize hAe : va_A [(q, .inl (Y 0, 600, .inl f))] s.heap.size = A at hD ⊢
  have hA : ∀ q : Nat, s.heap.size ≤ q → A q := fun q h => by rw [← hAe]; exact Or.inr h
  have hl := lv_entry ([.ref q, .int x]) (n := 4) (Nat.le_of_ble_eq_true rfl)
  rw [lg_entry_eq]
  generalize (lg_sl ([.ref q, .int x]) ++ List.replicate (4 - (lg_sl ([.ref q, .int x])).length) Slot.unset).toArray = ls at hl ⊢
  have hl : lv_has ls 4 [(0, .ref q), (1, .int x)] := hl
  refine w_start (A0 := A) hP (fun H locs hP hS => ?_)
  refine lv_iconst (v := 0) hx hb dJ7_fill_53178_0 (by decide) ?_
  refine lv_istore_n (lv' := [(2, .int 0), (0, .ref q), (1, .int x)]) hx hb dJ7_fill_53178_1 rfl hl (by decide) rfl (fun ls hl => ?_)
  refine lv_aload_n hx hb dJ7_fill_53178_2 rfl (lv_at hl 1 rfl) ?_
  refine va_alen (v := 600) hx hb hKN.1 hP 0 0 rfl rfl rfl dJ7_fill_53178_3 ?_
  refine lv_istore_n (lv' := [(3, .int 600), (2, .int 0), (0, .ref q), (1, .int x)]) hx hb dJ7_fill_53178_4 rfl hl (by decide) rfl (fun ls hl => ?_)
  refine w_loop (σ := Nat × (Nat → Int32)) (fun xx H locs ls => match xx with | (i, g) => va_P D vwCl [(q, .inl (Y 0, 600, .inl g))] H ∧ va_D A [(q, .inl (Y 0, 600, .inl g))] ∧ va_S A s.heap H locs ∧ lv_has ls 4 [(2, .int (nI i)), (3, .int 600), (0, .ref q), (1, .int x)] ∧ i ≤ 600) (fun xx => match xx with | (i, g) => 600 - i) (0, f) ⟨hP.sub [0] rfl, hD.sub [0] (by decide) rfl, hS, lv_sub hl [1, 0, 2, 3] rfl, by omega⟩ (fun xx H locs ls hI ih => ?_)
  obtain ⟨i, g⟩ := xx
  obtain ⟨hP, hD, hS, hl, hp1⟩ := hI
  refine lv_iload_n hx hb dJ7_fill_53178_5 rfl (lv_at hl 0 rfl) ?_
  refine lv_iload_n hx hb dJ7_fill_53178_6 rfl (lv_at hl 1 rfl) ?_
  refine lv_icmp_ge (tgt := 20) hx hb dJ7_fill_53178_7 (by decide) (fun c2 => ?_) (fun c2 => ?_)
  · skip
    have c2 := i_le (show (600 : Int32).toInt = 600 by decide) (nI_toInt (show i < 2 ^ 31 by omega)) c2
    refine W.widen (k := 0) (n := 0) (Nat.le_of_ble_eq_true rfl) (Nat.le_of_ble_eq_true rfl) ?_
    exact W.vret hx hb hr (fun t ht hW => ⟨⟨g, rfl, trivial, CB.mk ht (hP.sub [0] rfl) (hD.sub [0] (by decide) rfl)⟩, hS.F ht⟩) hS.2.2 dJ7_fill_53178_20
  · skip
    have c2 := i_nle (show (600 : Int32).toInt = 600 by decide) (nI_toInt (show i < 2 ^ 31 by omega)) c2
    refine lv_aload_n hx hb dJ7_fill_53178_10 rfl (lv_at hl 2 rfl) ?_
    refine lv_iload_n hx hb dJ7_fill_53178_11 rfl (lv_at hl 0 rfl) ?_
    refine lv_iload_n hx hb dJ7_fill_53178_12 rfl (lv_at hl 3 rfl) ?_
    refine va_iast hx hb hKN.1 hP hD hS 0 0 rfl rfl (vp_in_nI (by omega) (by omega)) dJ7_fill_53178_13 (fun H locs hP hD hS => ?_)
    obtain ⟨f3, hP, hD⟩ : ∃ f3 : Nat → Int32, va_P D vwCl [(q, .inl (Y 0, 600, .inl f3))] H ∧ va_D A [(q, .inl (Y 0, 600, .inl f3))] := ⟨_, hP, hD⟩
    refine lv_iinc (v := (nI (i + 1))) (lv' := [(2, .int (nI (i + 1))), (3, .int 600), (0, .ref q), (1, .int x)]) hx hb dJ7_fill_53178_14 hl (k := 0) rfl (nI_add i 1) (by decide) rfl (fun ls hl => ?_)
    refine lv_goto (tgt := 5) hx hb dJ7_fill_53178_17 (by decide) ?_
    exact ih (i + 1, f3) H locs ls (by show 600 - (i + 1) < 600 - i; omega) ⟨hP.sub [0] rfl, hD.sub [0] (by decide) rfl, hS, lv_sub hl [0, 1, 2, 3] rfl, by omega⟩
set_option maxHeartbeats 4000000 in
set_option maxRecDepth 100000 in
theorem c_Star (l : Launch) (D : va_G) (Y : Nat → ClassId) (Z : Nat → Nat) (sz : Nat) (q : Nat) : Met l yX7_init (.code yX7_init cX7_init 1 none :: GW) ({ frames := 1, cells := 1, slots := 600, locals := 20 }) (va_Pc [.ref q] (CP D Y Z [(q, .inr (7, [.int 0, .int 0, .int 0, .null]))] sz)) (QG (S := Nat) (fun _ => none) (fun _ => True) (fun u => CB D ((fun u => [(q, .inr (7, [.int 0, .int 0, .int 0, .ref u])), (u, .inl (Y 0, 600, .inl (fun _ => 0)))]) u) (va_A [(q, .inr (7, [.int 0, .int 0, .int 0, .null]))] sz)) (va_A [(q, .inr (7, [.int 0, .int 0, .int 0, .null]))] sz)) 1 600 (va_A [(q, .inr (7, [.int 0, .int 0, .int 0, .null]))] sz) := by
  refine Met.ofW (cc := cX7_init) (maxL := 1) (ret := none) (by decide) rfl ?_
  intro p e s m args below meth c s₁ B hml hv
  obtain ⟨rfl, hsz, hP, hKN, hD0⟩ := hv
  have hx := B.exec
  have hb := B.bytes
  have hr := B.returns
  have hts := atoms_spec (ws := .code yX7_init cX7_init 1 none :: GW) B.pre
  have hg : ∀ w ∈ GW, w.before _ s = true := fun w h => hts w (List.mem_cons_of_mem _ h)
  have hown : s.vm.findClass RX7 = some m.cls := findClass_of_methodNamed B.named
  have hlocks := B.notSynchronized
  have hin : meth.name = "<init>" := (name_of_methodNamed B.named B.method).1
  subst hsz
  have hD := hD0.self (sz := s.heap.size)
  generalize hAe : va_A [(q, .inr (7, [.int 0, .int 0, .int 0, .null]))] s.heap.size = A at hD ⊢
  have hA : ∀ q : Nat, s.heap.size ≤ q → A q := fun q h => by rw [← hAe]; exact Or.inr h
  have hl := lv_entry ([.ref q]) (n := 1) (Nat.le_of_ble_eq_true rfl)
  rw [lg_entry_eq]
  generalize (lg_sl ([.ref q]) ++ List.replicate (1 - (lg_sl ([.ref q])).length) Slot.unset).toArray = ls at hl ⊢
  have hl : lv_has ls 1 [(0, .ref q)] := hl
  refine w_start (A0 := A) hP (fun H locs hP hS => ?_)
  refine lv_aload_n hx hb dX7_init_0 rfl (lv_at hl 0 rfl) ?_
  refine W.objInit hx hb hown (hg _ kw_432) (hg _ kw_27) (hg _ kw_28) rfl (by rw [hml]; exact hl.1) rfl dX7_init_1 (Nat.le_of_ble_eq_true rfl) (Nat.le_of_ble_eq_true rfl) ?_
  refine W.eq (g2 := F0 m 4 ls []) rfl ?_
  refine lv_aload_n hx hb dX7_init_4 rfl (lv_at hl 0 rfl) ?_
  refine lv_sipush (v := 600) hx hb dX7_init_5 (by decide) ?_
  refine nw_a (atype := .int) (a0 := (600, .inl (fun _ => 0))) 0 hx hb (hg _ kw_96) rfl hKN rfl hP hD hS hA (fun cA => rfl) (by decide) (by decide) (by decide) (Nat.le_of_ble_eq_true rfl) (Nat.le_of_ble_eq_true rfl) dX7_init_8 (fun q1 H hP hD hS => ?_)
  refine W.widen (k := 1) (n := 600) (Nat.le_of_ble_eq_true rfl) (Nat.le_of_ble_eq_true rfl) ?_
  have hP : va_P D vwCl [(q, .inr (7, [.int 0, .int 0, .int 0, .null])), (q1, .inl (Y 0, 600, .inl (fun _ => 0)))] H := hP
  have hD : va_D A [(q, .inr (7, [.int 0, .int 0, .int 0, .null])), (q1, .inl (Y 0, 600, .inl (fun _ => 0)))] := hD
  refine va_putF (D := D) (ci := 7) (v := .ref q1) (ty := .array .int) (C := RX7) (T := TX7) (N := 4) hx hb hg inGX7 tyX7 tyX7_ok nmX7 hown hKN.1 hP hD hS 0 rfl rfl 3 (by decide) (hg _ kw_441) (fun _ h9 => h9) rfl hin rfl (by decide +kernel) rfl rfl (Nat.le_of_ble_eq_true rfl) dX7_init_10 (fun H locs hP hD hS => ?_)
  have hP : va_P D vwCl [(q, .inr (7, [.int 0, .int 0, .int 0, .ref q1])), (q1, .inl (Y 0, 600, .inl (fun _ => 0)))] H := hP
  have hD : va_D A [(q, .inr (7, [.int 0, .int 0, .int 0, .ref q1])), (q1, .inl (Y 0, 600, .inl (fun _ => 0)))] := hD
  refine W.widen (k := 1) (n := 600) (Nat.le_of_ble_eq_true rfl) (Nat.le_of_ble_eq_true rfl) ?_
  exact W.vret hx hb hr (fun t ht hW => ⟨⟨q1, rfl, trivial, CB.mk ht hP hD⟩, hS.F ht⟩) hS.2.2 dX7_init_13
set_option maxHeartbeats 4000000 in
set_option maxRecDepth 100000 in
theorem c_begin (l : Launch) (D : va_G) (Y : Nat → ClassId) (Z : Nat → Nat) (sz : Nat) (q r : Nat) (f : Nat → Int32) (n0 n1 n2 : Int32) : Met l yX7_begin (.code yX7_begin cX7_begin 4 none :: GW) ({ frames := 1, cells := 0, slots := 0, locals := 23 }) (va_Pc [.ref q, .int n0, .int n1, .int n2] (CP D Y Z [(q, .inr (7, [.int 0, .int 0, .int 0, .ref r])), (r, .inl (Y 0, 600, .inl f))] sz)) (QG (S := Unit) (fun _ => none) (fun _ => True) (fun u => CB D ((fun _ => []) u) (va_A [(q, .inr (7, [.int 0, .int 0, .int 0, .ref r])), (r, .inl (Y 0, 600, .inl f))] sz)) (va_A [(q, .inr (7, [.int 0, .int 0, .int 0, .ref r])), (r, .inl (Y 0, 600, .inl f))] sz)) 0 0 (va_A [(q, .inr (7, [.int 0, .int 0, .int 0, .ref r])), (r, .inl (Y 0, 600, .inl f))] sz) := by
  refine Met.ofW (cc := cX7_begin) (maxL := 4) (ret := none) (by decide) rfl ?_
  intro p e s m args below meth c s₁ B hml hv
  obtain ⟨rfl, hsz, hP, hKN, hD0⟩ := hv
  have hx := B.exec
  have hb := B.bytes
  have hr := B.returns
  have hts := atoms_spec (ws := .code yX7_begin cX7_begin 4 none :: GW) B.pre
  have hg : ∀ w ∈ GW, w.before _ s = true := fun w h => hts w (List.mem_cons_of_mem _ h)
  have hown : s.vm.findClass RX7 = some m.cls := findClass_of_methodNamed B.named
  have hlocks := B.notSynchronized
  subst hsz
  have hD := hD0.self (sz := s.heap.size)
  generalize hAe : va_A [(q, .inr (7, [.int 0, .int 0, .int 0, .ref r])), (r, .inl (Y 0, 600, .inl f))] s.heap.size = A at hD ⊢
  have hA : ∀ q : Nat, s.heap.size ≤ q → A q := fun q h => by rw [← hAe]; exact Or.inr h
  have hl := lv_entry ([.ref q, .int n0, .int n1, .int n2]) (n := 4) (Nat.le_of_ble_eq_true rfl)
  rw [lg_entry_eq]
  generalize (lg_sl ([.ref q, .int n0, .int n1, .int n2]) ++ List.replicate (4 - (lg_sl ([.ref q, .int n0, .int n1, .int n2])).length) Slot.unset).toArray = ls at hl ⊢
  have hl : lv_has ls 4 [(0, .ref q), (1, .int n0), (2, .int n1), (3, .int n2)] := hl
  refine w_start (A0 := A) hP (fun H locs hP hS => ?_)
  refine lv_aload_n hx hb dX7_begin_0 rfl (lv_at hl 0 rfl) ?_
  refine lv_iload_n hx hb dX7_begin_1 rfl (lv_at hl 1 rfl) ?_
  refine va_put (D := D) (ci := 7) (v := .int n0) (ty := .int) (C := RX7) (T := TX7) (N := 4) hx hb hg inGX7 tyX7 tyX7_ok nmX7 hown hKN.1 hP hD hS 0 rfl rfl 0 (by decide) (hg _ kw_433) (fun _ h9 => h9) rfl (by decide +kernel) rfl rfl (Nat.le_of_ble_eq_true rfl) dX7_begin_2 (fun H locs hP hD hS => ?_)
  have hP : va_P D vwCl [(q, .inr (7, [.int n0, .int 0, .int 0, .ref r])), (r, .inl (Y 0, 600, .inl f))] H := hP
  have hD : va_D A [(q, .inr (7, [.int n0, .int 0, .int 0, .ref r])), (r, .inl (Y 0, 600, .inl f))] := hD
  refine lv_aload_n hx hb dX7_begin_5 rfl (lv_at hl 0 rfl) ?_
  refine lv_iload_n hx hb dX7_begin_6 rfl (lv_at hl 2 rfl) ?_
  refine va_put (D := D) (ci := 7) (v := .int n1) (ty := .int) (C := RX7) (T := TX7) (N := 4) hx hb hg inGX7 tyX7 tyX7_ok nmX7 hown hKN.1 hP hD hS 0 rfl rfl 1 (by decide) (hg _ kw_436) (fun _ h9 => h9) rfl (by decide +kernel) rfl rfl (Nat.le_of_ble_eq_true rfl) dX7_begin_7 (fun H locs hP hD hS => ?_)
  have hP : va_P D vwCl [(q, .inr (7, [.int n0, .int n1, .int 0, .ref r])), (r, .inl (Y 0, 600, .inl f))] H := hP
  have hD : va_D A [(q, .inr (7, [.int n0, .int n1, .int 0, .ref r])), (r, .inl (Y 0, 600, .inl f))] := hD
  refine lv_aload_n hx hb dX7_begin_10 rfl (lv_at hl 0 rfl) ?_
  refine lv_iload_n hx hb dX7_begin_11 rfl (lv_at hl 3 rfl) ?_
  refine va_put (D := D) (ci := 7) (v := .int n2) (ty := .int) (C := RX7) (T := TX7) (N := 4) hx hb hg inGX7 tyX7 tyX7_ok nmX7 hown hKN.1 hP hD hS 0 rfl rfl 2 (by decide) (hg _ kw_439) (fun _ h9 => h9) rfl (by decide +kernel) rfl rfl (Nat.le_of_ble_eq_true rfl) dX7_begin_12 (fun H locs hP hD hS => ?_)
  have hP : va_P D vwCl [(q, .inr (7, [.int n0, .int n1, .int n2, .ref r])), (r, .inl (Y 0, 600, .inl f))] H := hP
  have hD : va_D A [(q, .inr (7, [.int n0, .int n1, .int n2, .ref r])), (r, .inl (Y 0, 600, .inl f))] := hD
  refine lv_aload_n hx hb dX7_begin_15 rfl (lv_at hl 0 rfl) ?_
  refine va_get (D := D) (ci := 7) (v := .ref r) (C := RX7) (T := TX7) (N := 4) hx hb hg inGX7 hown hKN.1 hP 0 rfl rfl 3 (by decide) (hg _ kw_441) (fun _ h9 => h9) rfl dX7_begin_16 ?_
  refine lv_ldc (v := (-100000)) hx hb hown (hg _ kw_457) dX7_begin_19 ?_
  refine cg (wc := [(r, .inl (Y 0, 600, .inl f))]) (wr := [(q, .inr (7, [.int n0, .int n1, .int n2, .ref r]))]) [1] [0] (rn_S (As := [.ref r, .int (-100000)]) (rest := []) (c_fill l D Y Z H.size r (-100000) f) ⟨hx, hb, hml, hown, hg⟩ lk_X7_26 ⟨CP.blind, CP.at (hP.sub [1] rfl) hKN (hD.sub [1] (by decide) rfl)⟩ ⟨⟨rfl, rfl⟩, ⟨Nat.le_of_ble_eq_true rfl, Nat.le_of_ble_eq_true rfl⟩, ⟨Nat.le_of_ble_eq_true rfl, Nat.le_of_ble_eq_true rfl⟩⟩ hl.1 rfl (Nat.le_of_ble_eq_true rfl) dX7_begin_21) hP hD hS hA rfl rfl (by decide) (by decide) (fun u1 H locs w2 hP hD hS => ?_)
  refine W.eq (g2 := F0 m 24 ls []) rfl ?_
  have hP : va_P D vwCl [(q, .inr (7, [.int n0, .int n1, .int n2, .ref r])), (r, .inl (Y 0, 600, .inl u1))] H := hP
  have hD : va_D A [(q, .inr (7, [.int n0, .int n1, .int n2, .ref r])), (r, .inl (Y 0, 600, .inl u1))] := hD
  refine W.widen (k := 0) (n := 0) (Nat.le_of_ble_eq_true rfl) (Nat.le_of_ble_eq_true rfl) ?_
  exact W.vret hx hb hr (fun t ht hW => ⟨⟨(), rfl, trivial, CB.nil⟩, hS.F ht⟩) hS.2.2 dX7_begin_24
set_option maxHeartbeats 4000000 in
set_option maxRecDepth 100000 in
theorem c_placeFor (l : Launch) (D : va_G) (Y : Nat → ClassId) (Z : Nat → Nat) (sz : Nat) (b : Nat → Nat) : Met l yX6_placeFor (.code yX6_placeFor cX6_placeFor 3 (some (.object "DimStars$Star")) :: GW) ({ frames := 2, cells := 2, slots := 604, locals := 40 }) (va_Pc [.ref (b 0), .int 0] (CP D Y Z [((b 0), .inr (6, (skF b))), ((b 16), .inl (Y 7, 12, .inr (.inr (.inr (.inr (fun _ => none))))))] sz)) (QG (S := (Nat × Nat × (Nat → Option Nat))) (fun u => some (.ref u.1)) (fun _ => True) (fun u => CB D ((fun u => [((b 0), .inr (6, (skF b))), ((b 16), .inl (Y 7, 12, .inr (.inr (.inr (.inr u.2.2))))), (u.1, .inr (7, [.int 0, .int 0, .int 0, .ref u.2.1])), (u.2.1, .inl (Y 0, 600, .inl (fun _ => 0)))]) u) (va_A [((b 0), .inr (6, (skF b))), ((b 16), .inl (Y 7, 12, .inr (.inr (.inr (.inr (fun _ => none))))))] sz)) (va_A [((b 0), .inr (6, (skF b))), ((b 16), .inl (Y 7, 12, .inr (.inr (.inr (.inr (fun _ => none))))))] sz)) 2 604 (va_A [((b 0), .inr (6, (skF b))), ((b 16), .inl (Y 7, 12, .inr (.inr (.inr (.inr (fun _ => none))))))] sz) := by
  refine Met.ofW (cc := cX6_placeFor) (maxL := 3) (ret := (some (.object "DimStars$Star"))) (by decide) rfl ?_
  intro p e s m args below meth c s₁ B hml hv
  obtain ⟨rfl, hsz, hP, hKN, hD0⟩ := hv
  have hx := B.exec
  have hb := B.bytes
  have hr := B.returns
  have hts := atoms_spec (ws := .code yX6_placeFor cX6_placeFor 3 (some (.object "DimStars$Star")) :: GW) B.pre
  have hg : ∀ w ∈ GW, w.before _ s = true := fun w h => hts w (List.mem_cons_of_mem _ h)
  have hown : s.vm.findClass RX6 = some m.cls := findClass_of_methodNamed B.named
  have hlocks := B.notSynchronized
  subst hsz
  have hD := hD0.self (sz := s.heap.size)
  generalize hAe : va_A [((b 0), .inr (6, (skF b))), ((b 16), .inl (Y 7, 12, .inr (.inr (.inr (.inr (fun _ => none))))))] s.heap.size = A at hD ⊢
  have hA : ∀ q : Nat, s.heap.size ≤ q → A q := fun q h => by rw [← hAe]; exact Or.inr h
  have hl := lv_entry ([.ref (b 0), .int 0]) (n := 3) (Nat.le_of_ble_eq_true rfl)
  rw [lg_entry_eq]
  generalize (lg_sl ([.ref (b 0), .int 0]) ++ List.replicate (3 - (lg_sl ([.ref (b 0), .int 0])).length) Slot.unset).toArray = ls at hl ⊢
  have hl : lv_has ls 3 [(0, .ref (b 0)), (1, .int 0)] := hl
  refine w_start (A0 := A) hP (fun H locs hP hS => ?_)
  refine lv_aload_n hx hb dX6_placeFor_0 rfl (lv_at hl 0 rfl) ?_
  refine va_get (D := D) (ci := 6) (v := .ref (b 16)) (C := RX6) (T := TX6) (N := 13) hx hb hg inGX6 hown hKN.1 hP 0 rfl rfl 1 (by decide) (hg _ kw_42) (fun _ h9 => h9) rfl dX6_placeFor_1 ?_
  refine lv_iload_n hx hb dX6_placeFor_4 rfl (lv_at hl 1 rfl) ?_
  refine va_aldq hx hb hKN.1 hP 1 7 rfl rfl (show ¬ ((0 : Int32) < 0 ∨ 12 ≤ (0 : Int32).toNatClampNeg) by decide) dX6_placeFor_5 ?_
  refine W.eq (g2 := F0 m 6 ls [.null]) rfl ?_
  refine lv_astore_nN (lv' := [(2, .null), (0, .ref (b 0)), (1, .int 0)]) hx hb dX6_placeFor_6 rfl hl (by decide) rfl (fun ls hl => ?_)
  refine lv_aload_nN hx hb dX6_placeFor_7 rfl (lv_at hl 0 rfl) ?_
  refine lv_ifnonnullN hx hb dX6_placeFor_8 ?_
  refine va_new (ci := 7) (fs := [.int 0, .int 0, .int 0, .null]) (C := RX7) (T := TX7) (N := 4) hx hb hg inGX7 tyX7 tyX7_ok hown (hg _ kw_35) (hg _ kw_428) (hg _ kw_11) hKN.1 hP hD hS hA rfl (fun j hj => by rcases (show j = 0 ∨ j = 1 ∨ j = 2 ∨ j = 3 by omega) with rfl | rfl | rfl | rfl <;> rfl) (Nat.le_of_ble_eq_true rfl) (Nat.le_of_ble_eq_true rfl) dX6_placeFor_11 (fun q1 H hP hD hS => ?_)
  refine W.widen (k := 1) (n := 4) (Nat.le_of_ble_eq_true rfl) (Nat.le_of_ble_eq_true rfl) ?_
  have hP : va_P D vwCl [((b 0), .inr (6, (skF b))), ((b 16), .inl (Y 7, 12, .inr (.inr (.inr (.inr (fun _ => none)))))), (q1, .inr (7, [.int 0, .int 0, .int 0, .null]))] H := hP
  have hD : va_D A [((b 0), .inr (6, (skF b))), ((b 16), .inl (Y 7, 12, .inr (.inr (.inr (.inr (fun _ => none)))))), (q1, .inr (7, [.int 0, .int 0, .int 0, .null]))] := hD
  refine lv_dup hx hb dX6_placeFor_14 rfl ?_
  refine cg (wc := [(q1, .inr (7, [.int 0, .int 0, .int 0, .null]))]) (wr := [((b 0), .inr (6, (skF b))), ((b 16), .inl (Y 7, 12, .inr (.inr (.inr (.inr (fun _ => none))))))]) [2] [0, 1] (rn_NI (As := []) (rest := [.ref q1]) (b := q1) (c_Star l D Y Z H.size q1) ⟨hx, hb, hml, hown, hg⟩ hKN lk_X6_75 ⟨CP.blind, CP.at (hP.sub [2] rfl) hKN (hD.sub [2] (by decide) rfl)⟩ ⟨⟨rfl, rfl⟩, ⟨Nat.le_of_ble_eq_true rfl, Nat.le_of_ble_eq_true rfl⟩, ⟨Nat.le_of_ble_eq_true rfl, Nat.le_of_ble_eq_true rfl⟩⟩ hl.1 rfl (Nat.le_of_ble_eq_true rfl) dX6_placeFor_15) hP hD hS hA rfl rfl (by decide) (by decide) (fun u2 H locs w3 hP hD hS => ?_)
  refine W.widen (k := 2) (n := 604) (Nat.le_of_ble_eq_true rfl) (Nat.le_of_ble_eq_true rfl) ?_
  refine W.eq (g2 := F0 m 18 ls [.ref q1]) rfl ?_
  have hP : va_P D vwCl [((b 0), .inr (6, (skF b))), ((b 16), .inl (Y 7, 12, .inr (.inr (.inr (.inr (fun _ => none)))))), (q1, .inr (7, [.int 0, .int 0, .int 0, .ref u2])), (u2, .inl (Y 0, 600, .inl (fun _ => 0)))] H := hP
  have hD : va_D A [((b 0), .inr (6, (skF b))), ((b 16), .inl (Y 7, 12, .inr (.inr (.inr (.inr (fun _ => none)))))), (q1, .inr (7, [.int 0, .int 0, .int 0, .ref u2])), (u2, .inl (Y 0, 600, .inl (fun _ => 0)))] := hD
  refine lv_astore_n (lv' := [(2, .ref q1), (0, .ref (b 0)), (1, .int 0)]) hx hb dX6_placeFor_18 rfl hl (by decide) rfl (fun ls hl => ?_)
  refine lv_aload_n hx hb dX6_placeFor_19 rfl (lv_at hl 1 rfl) ?_
  refine va_get (D := D) (ci := 6) (v := .ref (b 16)) (C := RX6) (T := TX6) (N := 13) hx hb hg inGX6 hown hKN.1 hP 0 rfl rfl 1 (by decide) (hg _ kw_42) (fun _ h9 => h9) rfl dX6_placeFor_20 ?_
  refine lv_iload_n hx hb dX6_placeFor_23 rfl (lv_at hl 2 rfl) ?_
  refine lv_aload_n hx hb dX6_placeFor_24 rfl (lv_at hl 0 rfl) ?_
  refine va_astq (ci := 7) hx hb hKN.1 hP hD hS 1 7 2 rfl rfl rfl rfl (show ¬ ((0 : Int32) < 0 ∨ 12 ≤ (0 : Int32).toNatClampNeg) by decide) dX6_placeFor_25 (fun H locs hP hD hS => ?_)
  obtain ⟨f4, hP, hD⟩ : ∃ f4 : Nat → Option Nat, va_P D vwCl [((b 0), .inr (6, (skF b))), ((b 16), .inl (Y 7, 12, .inr (.inr (.inr (.inr f4))))), (q1, .inr (7, [.int 0, .int 0, .int 0, .ref u2])), (u2, .inl (Y 0, 600, .inl (fun _ => 0)))] H ∧ va_D A [((b 0), .inr (6, (skF b))), ((b 16), .inl (Y 7, 12, .inr (.inr (.inr (.inr f4))))), (q1, .inr (7, [.int 0, .int 0, .int 0, .ref u2])), (u2, .inl (Y 0, 600, .inl (fun _ => 0)))] := ⟨_, hP, hD⟩
  refine lv_aload_n hx hb dX6_placeFor_26 rfl (lv_at hl 0 rfl) ?_
  refine W.widen (k := 2) (n := 604) (Nat.le_of_ble_eq_true rfl) (Nat.le_of_ble_eq_true rfl) ?_
  exact W.aret (v := .ref q1) hx hb hr (Or.inl ⟨_, rfl⟩) (Or.inr ⟨_, rfl⟩) (fun t ht hW => ⟨⟨(q1, u2, f4), rfl, trivial, CB.mk ht (hP.sub [0, 1, 2, 3] rfl) (hD.sub [0, 1, 2, 3] (by decide) rfl)⟩, hS.F ht⟩) hS.2.2 dX6_placeFor_27
set_option maxHeartbeats 4000000 in
set_option maxRecDepth 100000 in
theorem c_addStar (l : Launch) (D : va_G) (Y : Nat → ClassId) (Z : Nat → Nat) (sz : Nat) (b : Nat → Nat) (n0 n1 n2 : Int32) : Met l yX6_addStar (.code yX6_addStar cX6_addStar 5 (some .int) :: GW) ({ frames := 3, cells := 2, slots := 604, locals := 62 }) (va_Pc [.ref (b 0), .int n0, .int n1, .int n2] (CP D Y Z [((b 0), .inr (6, (skF b))), ((b 16), .inl (Y 7, 12, .inr (.inr (.inr (.inr (fun _ => none))))))] sz)) (QG (S := Unit) (fun _ => some (.int 0)) (fun _ => True) (fun u => CB D ((fun _ => []) u) (va_A [((b 0), .inr (6, (skF b))), ((b 16), .inl (Y 7, 12, .inr (.inr (.inr (.inr (fun _ => none))))))] sz)) (va_A [((b 0), .inr (6, (skF b))), ((b 16), .inl (Y 7, 12, .inr (.inr (.inr (.inr (fun _ => none))))))] sz)) 2 604 (va_A [((b 0), .inr (6, (skF b))), ((b 16), .inl (Y 7, 12, .inr (.inr (.inr (.inr (fun _ => none))))))] sz) := by
  refine Met.ofW (cc := cX6_addStar) (maxL := 5) (ret := (some .int)) (by decide) rfl ?_
  intro p e s m args below meth c s₁ B hml hv
  obtain ⟨rfl, hsz, hP, hKN, hD0⟩ := hv
  have hx := B.exec
  have hb := B.bytes
  have hr := B.returns
  have hts := atoms_spec (ws := .code yX6_addStar cX6_addStar 5 (some .int) :: GW) B.pre
  have hg : ∀ w ∈ GW, w.before _ s = true := fun w h => hts w (List.mem_cons_of_mem _ h)
  have hown : s.vm.findClass RX6 = some m.cls := findClass_of_methodNamed B.named
  have hlocks := B.notSynchronized
  subst hsz
  have hD := hD0.self (sz := s.heap.size)
  generalize hAe : va_A [((b 0), .inr (6, (skF b))), ((b 16), .inl (Y 7, 12, .inr (.inr (.inr (.inr (fun _ => none))))))] s.heap.size = A at hD ⊢
  have hA : ∀ q : Nat, s.heap.size ≤ q → A q := fun q h => by rw [← hAe]; exact Or.inr h
  have hl := lv_entry ([.ref (b 0), .int n0, .int n1, .int n2]) (n := 5) (Nat.le_of_ble_eq_true rfl)
  rw [lg_entry_eq]
  generalize (lg_sl ([.ref (b 0), .int n0, .int n1, .int n2]) ++ List.replicate (5 - (lg_sl ([.ref (b 0), .int n0, .int n1, .int n2])).length) Slot.unset).toArray = ls at hl ⊢
  have hl : lv_has ls 5 [(0, .ref (b 0)), (1, .int n0), (2, .int n1), (3, .int n2)] := hl
  refine w_start (A0 := A) hP (fun H locs hP hS => ?_)
  refine lv_aload_n hx hb dX6_addStar_0 rfl (lv_at hl 0 rfl) ?_
  refine va_get (D := D) (ci := 6) (v := .int 0) (C := RX6) (T := TX6) (N := 13) hx hb hg inGX6 hown hKN.1 hP 0 rfl rfl 0 (by decide) (hg _ kw_39) (fun _ h9 => h9) rfl dX6_addStar_1 ?_
  refine lv_bipush (v := 12) hx hb dX6_addStar_4 (by decide) ?_
  refine lv_icmp_lt (tgt := 11) hx hb dX6_addStar_6 (by decide) (fun c1 => ?_) (fun c1 => ?_)
  rotate_left
  · exact absurd c1 (by decide)
  refine lv_aload_n hx hb dX6_addStar_11 rfl (lv_at hl 0 rfl) ?_
  refine lv_aload_n hx hb dX6_addStar_12 rfl (lv_at hl 0 rfl) ?_
  refine va_get (D := D) (ci := 6) (v := .int 0) (C := RX6) (T := TX6) (N := 13) hx hb hg inGX6 hown hKN.1 hP 0 rfl rfl 0 (by decide) (hg _ kw_39) (fun _ h9 => h9) rfl dX6_addStar_13 ?_
  refine cg (wc := [((b 0), .inr (6, (skF b))), ((b 16), .inl (Y 7, 12, .inr (.inr (.inr (.inr (fun _ => none))))))]) (wr := []) [0, 1] [] (rn_V (As := [.int 0]) (rest := []) (b := (b 0)) (c_placeFor l D Y Z H.size b) ⟨hx, hb, hml, hown, hg⟩ lk_X6_68 ⟨CP.blind, va_recv hKN.1 hP (ci := 6) (q0 := 0) rfl rfl, CP.at (hP.sub [0, 1] rfl) hKN (hD.sub [0, 1] (by decide) rfl)⟩ ⟨⟨rfl, rfl⟩, ⟨Nat.le_of_ble_eq_true rfl, Nat.le_of_ble_eq_true rfl⟩, ⟨Nat.le_of_ble_eq_true rfl, Nat.le_of_ble_eq_true rfl⟩⟩ hl.1 rfl (Nat.le_of_ble_eq_true rfl) dX6_addStar_16) hP hD hS hA rfl rfl (by decide) (by decide) (fun u2 H locs w3 hP hD hS => ?_)
  refine W.widen (k := 2) (n := 604) (Nat.le_of_ble_eq_true rfl) (Nat.le_of_ble_eq_true rfl) ?_
  obtain ⟨q4, q5, f6⟩ := u2
  refine W.eq (g2 := F0 m 19 ls [.ref q4]) rfl ?_
  have hP : va_P D vwCl [((b 0), .inr (6, (skF b))), ((b 16), .inl (Y 7, 12, .inr (.inr (.inr (.inr f6))))), (q4, .inr (7, [.int 0, .int 0, .int 0, .ref q5])), (q5, .inl (Y 0, 600, .inl (fun _ => 0)))] H := hP
  have hD : va_D A [((b 0), .inr (6, (skF b))), ((b 16), .inl (Y 7, 12, .inr (.inr (.inr (.inr f6))))), (q4, .inr (7, [.int 0, .int 0, .int 0, .ref q5])), (q5, .inl (Y 0, 600, .inl (fun _ => 0)))] := hD
  refine lv_astore (lv' := [(4, .ref q4), (0, .ref (b 0)), (1, .int n0), (2, .int n1), (3, .int n2)]) hx hb dX6_addStar_19 hl (by decide) rfl (fun ls hl => ?_)
  refine lv_aload hx hb dX6_addStar_21 (lv_at hl 0 rfl) ?_
  refine lv_iload_n hx hb dX6_addStar_23 rfl (lv_at hl 2 rfl) ?_
  refine lv_iload_n hx hb dX6_addStar_24 rfl (lv_at hl 3 rfl) ?_
  refine lv_iload_n hx hb dX6_addStar_25 rfl (lv_at hl 4 rfl) ?_
  refine cg (wc := [(q4, .inr (7, [.int 0, .int 0, .int 0, .ref q5])), (q5, .inl (Y 0, 600, .inl (fun _ => 0)))]) (wr := [((b 0), .inr (6, (skF b))), ((b 16), .inl (Y 7, 12, .inr (.inr (.inr (.inr f6)))))]) [2, 3] [0, 1] (rn_NV (As := [.int n0, .int n1, .int n2]) (rest := []) (b := q4) (c_begin l D Y Z H.size q4 q5 (fun _ => 0) n0 n1 n2) ⟨hx, hb, hml, hown, hg⟩ hKN lk_X6_71 ⟨CP.blind, va_recv hKN.1 hP (ci := 7) (q0 := 2) rfl rfl, CP.at (hP.sub [2, 3] rfl) hKN (hD.sub [2, 3] (by decide) rfl)⟩ ⟨⟨rfl, rfl⟩, ⟨Nat.le_of_ble_eq_true rfl, Nat.le_of_ble_eq_true rfl⟩, ⟨Nat.le_of_ble_eq_true rfl, Nat.le_of_ble_eq_true rfl⟩⟩ hl.1 rfl (Nat.le_of_ble_eq_true rfl) dX6_addStar_26) hP hD hS hA rfl rfl (by decide) (by decide) (fun u7 H locs w8 hP hD hS => ?_)
  refine W.eq (g2 := F0 m 29 ls []) rfl ?_
  refine lv_aload_n hx hb dX6_addStar_29 rfl (lv_at hl 1 rfl) ?_
  refine lv_dup hx hb dX6_addStar_30 rfl ?_
  refine va_get (D := D) (ci := 6) (v := .int 0) (C := RX6) (T := TX6) (N := 13) hx hb hg inGX6 hown hKN.1 hP 0 rfl rfl 0 (by decide) (hg _ kw_39) (fun _ h9 => h9) rfl dX6_addStar_31 ?_
  refine lv_iconst (v := 1) hx hb dX6_addStar_34 (by decide) ?_
  refine lv_iadd hx hb dX6_addStar_35 ?_
  refine lv_topi (fun z9 ez9 => ?_)
  obtain rfl : z9 = 1 := ez9.trans (by decide)
  refine va_put (D := D) (ci := 6) (v := .int 1) (ty := .int) (C := RX6) (T := TX6) (N := 13) hx hb hg inGX6 tyX6 tyX6_ok nmX6 hown hKN.1 hP hD hS 0 rfl rfl 0 (by decide) (hg _ kw_39) (fun _ h9 => h9) rfl (by decide +kernel) rfl rfl (Nat.le_of_ble_eq_true rfl) dX6_addStar_36 (fun H locs hP hD hS => ?_)
  have hP : va_P D vwCl [((b 0), .inr (6, (.int 1 :: .ref (b 16) :: .int 0 :: .ref (b 17) :: .int 0 :: .ref (b 18) :: .ref (b 19) :: .int 20 :: .ref (b 20) :: .ref (b 21) :: .int 0 :: .ref (b 22) :: .int 0 :: []))), ((b 16), .inl (Y 7, 12, .inr (.inr (.inr (.inr f6)))))] H := hP
  have hD : va_D A [((b 0), .inr (6, (.int 1 :: .ref (b 16) :: .int 0 :: .ref (b 17) :: .int 0 :: .ref (b 18) :: .ref (b 19) :: .int 20 :: .ref (b 20) :: .ref (b 21) :: .int 0 :: .ref (b 22) :: .int 0 :: []))), ((b 16), .inl (Y 7, 12, .inr (.inr (.inr (.inr f6)))))] := hD
  refine lv_aload_n hx hb dX6_addStar_39 rfl (lv_at hl 1 rfl) ?_
  refine va_get (D := D) (ci := 6) (v := .int 1) (C := RX6) (T := TX6) (N := 13) hx hb hg inGX6 hown hKN.1 hP 0 rfl rfl 0 (by decide) (hg _ kw_39) (fun _ h9 => h9) rfl dX6_addStar_40 ?_
  refine lv_iconst (v := 1) hx hb dX6_addStar_43 (by decide) ?_
  refine lv_isub hx hb dX6_addStar_44 ?_
  refine lv_topi (fun z10 ez10 => ?_)
  obtain rfl : z10 = 0 := ez10.trans (by decide)
  refine W.widen (k := 2) (n := 604) (Nat.le_of_ble_eq_true rfl) (Nat.le_of_ble_eq_true rfl) ?_
  exact W.iret (v := 0) hx hb hr (fun t ht hW => ⟨⟨(), rfl, trivial, CB.nil⟩, hS.F ht⟩) hS.2.2 dX6_addStar_45
set_option maxHeartbeats 4000000 in
set_option maxRecDepth 100000 in
theorem x_star (l : Launch) (D : va_G) (Y : Nat → ClassId) (Z : Nat → Nat) (sz : Nat) (o : Nat) (b : Nat → Nat) (p0 p1 p2 : Int32) : Met l yX10_star (.code yX10_star cX10_star 4 (some .int) :: GW) ({ frames := 4, cells := 2, slots := 604, locals := 86 }) (va_Pc [.ref o, .int p0, .int p1, .int p2] (CP D Y Z [(o, .inr (10, (dsF b))), ((b 0), .inr (6, (skF b))), ((b 16), .inl (Y 7, 12, .inr (.inr (.inr (.inr (fun _ => none))))))] sz)) (QG (S := Int32) (fun r => some (.int r)) (fun r => r = sp_star p0 p1 p2) (fun u => CB D ((fun _ => []) u) (va_A [(o, .inr (10, (dsF b))), ((b 0), .inr (6, (skF b))), ((b 16), .inl (Y 7, 12, .inr (.inr (.inr (.inr (fun _ => none))))))] sz)) (va_A [(o, .inr (10, (dsF b))), ((b 0), .inr (6, (skF b))), ((b 16), .inl (Y 7, 12, .inr (.inr (.inr (.inr (fun _ => none))))))] sz)) 2 604 (va_A [(o, .inr (10, (dsF b))), ((b 0), .inr (6, (skF b))), ((b 16), .inl (Y 7, 12, .inr (.inr (.inr (.inr (fun _ => none))))))] sz) := by
  refine Met.ofW (cc := cX10_star) (maxL := 4) (ret := (some .int)) (by decide) rfl ?_
  intro p e s m args below meth c s₁ B hml hv
  obtain ⟨rfl, hsz, hP, hKN, hD0⟩ := hv
  have hx := B.exec
  have hb := B.bytes
  have hr := B.returns
  have hts := atoms_spec (ws := .code yX10_star cX10_star 4 (some .int) :: GW) B.pre
  have hg : ∀ w ∈ GW, w.before _ s = true := fun w h => hts w (List.mem_cons_of_mem _ h)
  have hown : s.vm.findClass RX10 = some m.cls := findClass_of_methodNamed B.named
  have hlocks := B.notSynchronized
  subst hsz
  have hD := hD0.self (sz := s.heap.size)
  generalize hAe : va_A [(o, .inr (10, (dsF b))), ((b 0), .inr (6, (skF b))), ((b 16), .inl (Y 7, 12, .inr (.inr (.inr (.inr (fun _ => none))))))] s.heap.size = A at hD ⊢
  have hA : ∀ q : Nat, s.heap.size ≤ q → A q := fun q h => by rw [← hAe]; exact Or.inr h
  have hl := lv_entry ([.ref o, .int p0, .int p1, .int p2]) (n := 4) (Nat.le_of_ble_eq_true rfl)
  rw [lg_entry_eq]
  generalize (lg_sl ([.ref o, .int p0, .int p1, .int p2]) ++ List.replicate (4 - (lg_sl ([.ref o, .int p0, .int p1, .int p2])).length) Slot.unset).toArray = ls at hl ⊢
  have hl : lv_has ls 4 [(0, .ref o), (1, .int p0), (2, .int p1), (3, .int p2)] := hl
  refine w_start (A0 := A) hP (fun H locs hP hS => ?_)
  refine lv_iload_n hx hb dX10_star_0 rfl (lv_at hl 1 rfl) ?_
  refine cg0 (rn_S (As := [.int p0]) (rest := []) (c_isSize l D Y Z H.size p0) ⟨hx, hb, hml, hown, hg⟩ lk_X10_96 ⟨CP.blind, CP.at nilP hKN (nilD (A := fun _ => True))⟩ ⟨⟨rfl, rfl⟩, ⟨Nat.le_of_ble_eq_true rfl, Nat.le_of_ble_eq_true rfl⟩, ⟨Nat.le_of_ble_eq_true rfl, Nat.le_of_ble_eq_true rfl⟩⟩ hl.1 rfl (Nat.le_of_ble_eq_true rfl) dX10_star_1) hP hS hA (fun u1 H locs w2 hP hS => ?_)
  rcases w2 with ⟨w2, rfl⟩ | ⟨w2, rfl⟩
  · skip
    refine W.eq (g2 := F0 m 4 ls [.int 1]) rfl ?_
    refine lv_if_eq (tgt := 28) hx hb dX10_star_4 (by decide) (fun c3 => ?_) (fun c3 => ?_)
    · exact absurd c3 (by decide)
    refine lv_iload_n hx hb dX10_star_7 rfl (lv_at hl 2 rfl) ?_
    refine lv_iconst (v := 0) hx hb dX10_star_8 (by decide) ?_
    refine lv_bipush (v := 7) hx hb dX10_star_9 (by decide) ?_
    refine cg0 (rn_S (As := [.int p1, .int 0, .int 7]) (rest := []) (c_isWithin l D Y Z H.size p1 0 7 (0) (7) (by decide) (by decide)) ⟨hx, hb, hml, hown, hg⟩ lk_X10_100 ⟨CP.blind, CP.at nilP hKN (nilD (A := fun _ => True))⟩ ⟨⟨rfl, rfl⟩, ⟨Nat.le_of_ble_eq_true rfl, Nat.le_of_ble_eq_true rfl⟩, ⟨Nat.le_of_ble_eq_true rfl, Nat.le_of_ble_eq_true rfl⟩⟩ hl.1 rfl (Nat.le_of_ble_eq_true rfl) dX10_star_11) hP hS hA (fun u4 H locs w5 hP hS => ?_)
    rcases w5 with ⟨w5, rfl⟩ | ⟨w5, rfl⟩
    · skip
      refine W.eq (g2 := F0 m 14 ls [.int 1]) rfl ?_
      refine lv_if_eq (tgt := 28) hx hb dX10_star_14 (by decide) (fun c6 => ?_) (fun c6 => ?_)
      · exact absurd c6 (by decide)
      refine lv_iload_n hx hb dX10_star_17 rfl (lv_at hl 3 rfl) ?_
      refine lv_iconst (v := 1) hx hb dX10_star_18 (by decide) ?_
      refine lv_sipush (v := 1000) hx hb dX10_star_19 (by decide) ?_
      refine cg0 (rn_S (As := [.int p2, .int 1, .int 1000]) (rest := []) (c_isWithin l D Y Z H.size p2 1 1000 (1) (1000) (by decide) (by decide)) ⟨hx, hb, hml, hown, hg⟩ lk_X10_100 ⟨CP.blind, CP.at nilP hKN (nilD (A := fun _ => True))⟩ ⟨⟨rfl, rfl⟩, ⟨Nat.le_of_ble_eq_true rfl, Nat.le_of_ble_eq_true rfl⟩, ⟨Nat.le_of_ble_eq_true rfl, Nat.le_of_ble_eq_true rfl⟩⟩ hl.1 rfl (Nat.le_of_ble_eq_true rfl) dX10_star_22) hP hS hA (fun u7 H locs w8 hP hS => ?_)
      rcases w8 with ⟨w8, rfl⟩ | ⟨w8, rfl⟩
      · skip
        refine W.eq (g2 := F0 m 25 ls [.int 1]) rfl ?_
        refine lv_if_ne (tgt := 30) hx hb dX10_star_25 (by decide) (fun c9 => ?_) (fun c9 => ?_)
        rotate_left
        · exact absurd c9 (by decide)
        refine lv_aload_n hx hb dX10_star_30 rfl (lv_at hl 0 rfl) ?_
        refine va_get (D := D) (ci := 10) (v := .ref (b 0)) (C := RX10) (T := TX10) (N := 20) hx hb hg inGX10 hown hKN.1 hP 0 rfl rfl 0 (by decide) (hg _ kw_349) (fun _ h9 => h9) rfl dX10_star_31 ?_
        refine lv_iload_n hx hb dX10_star_34 rfl (lv_at hl 1 rfl) ?_
        refine lv_iload_n hx hb dX10_star_35 rfl (lv_at hl 2 rfl) ?_
        refine lv_iload_n hx hb dX10_star_36 rfl (lv_at hl 3 rfl) ?_
        refine cg (wc := [((b 0), .inr (6, (skF b))), ((b 16), .inl (Y 7, 12, .inr (.inr (.inr (.inr (fun _ => none))))))]) (wr := [(o, .inr (10, (dsF b)))]) [1, 2] [0] (rn_NV (As := [.int p0, .int p1, .int p2]) (rest := []) (b := (b 0)) (c_addStar l D Y Z H.size b p0 p1 p2) ⟨hx, hb, hml, hown, hg⟩ hKN lk_X10_104 ⟨CP.blind, va_recv hKN.1 hP (ci := 6) (q0 := 1) rfl rfl, CP.at (hP.sub [1, 2] rfl) hKN (hD.sub [1, 2] (by decide) rfl)⟩ ⟨⟨rfl, rfl⟩, ⟨Nat.le_of_ble_eq_true rfl, Nat.le_of_ble_eq_true rfl⟩, ⟨Nat.le_of_ble_eq_true rfl, Nat.le_of_ble_eq_true rfl⟩⟩ hl.1 rfl (Nat.le_of_ble_eq_true rfl) dX10_star_37) hP hD hS hA rfl rfl (by decide) (by decide) (fun u10 H locs w11 hP hD hS => ?_)
        refine W.widen (k := 2) (n := 604) (Nat.le_of_ble_eq_true rfl) (Nat.le_of_ble_eq_true rfl) ?_
        refine W.eq (g2 := F0 m 40 ls [.int 0]) rfl ?_
        refine W.widen (k := 2) (n := 604) (Nat.le_of_ble_eq_true rfl) (Nat.le_of_ble_eq_true rfl) ?_
        exact W.iret (v := 0) hx hb hr (fun t ht hW => ⟨⟨0, rfl, (by first | decide | (unfold sp_star; split <;> first | rfl | exact i_is (X := 0) (by omega) (by decide) | (exfalso; omega))), CB.nil⟩, hS.F ht⟩) hS.2.2 dX10_star_40
      · skip
        refine W.eq (g2 := F0 m 25 ls [.int 0]) rfl ?_
        refine lv_if_ne (tgt := 30) hx hb dX10_star_25 (by decide) (fun c12 => ?_) (fun c12 => ?_)
        · exact absurd c12 (by decide)
        refine lv_iconst (v := (-1)) hx hb dX10_star_28 (by decide) ?_
        refine W.widen (k := 2) (n := 604) (Nat.le_of_ble_eq_true rfl) (Nat.le_of_ble_eq_true rfl) ?_
        exact W.iret (v := (-1)) hx hb hr (fun t ht hW => ⟨⟨(-1), rfl, (by first | decide | (unfold sp_star; split <;> first | rfl | exact i_is (X := 0) (by omega) (by decide) | (exfalso; omega))), CB.nil⟩, hS.F ht⟩) hS.2.2 dX10_star_29
    · skip
      refine W.eq (g2 := F0 m 14 ls [.int 0]) rfl ?_
      refine lv_if_eq (tgt := 28) hx hb dX10_star_14 (by decide) (fun c13 => ?_) (fun c13 => ?_)
      rotate_left
      · exact absurd c13 (by decide)
      refine lv_iconst (v := (-1)) hx hb dX10_star_28 (by decide) ?_
      refine W.widen (k := 2) (n := 604) (Nat.le_of_ble_eq_true rfl) (Nat.le_of_ble_eq_true rfl) ?_
      exact W.iret (v := (-1)) hx hb hr (fun t ht hW => ⟨⟨(-1), rfl, (by first | decide | (unfold sp_star; split <;> first | rfl | exact i_is (X := 0) (by omega) (by decide) | (exfalso; omega))), CB.nil⟩, hS.F ht⟩) hS.2.2 dX10_star_29
  · skip
    refine W.eq (g2 := F0 m 4 ls [.int 0]) rfl ?_
    refine lv_if_eq (tgt := 28) hx hb dX10_star_4 (by decide) (fun c14 => ?_) (fun c14 => ?_)
    rotate_left
    · exact absurd c14 (by decide)
    refine lv_iconst (v := (-1)) hx hb dX10_star_28 (by decide) ?_
    refine W.widen (k := 2) (n := 604) (Nat.le_of_ble_eq_true rfl) (Nat.le_of_ble_eq_true rfl) ?_
    exact W.iret (v := (-1)) hx hb hr (fun t ht hW => ⟨⟨(-1), rfl, (by first | decide | (unfold sp_star; split <;> first | rfl | exact i_is (X := 0) (by omega) (by decide) | (exfalso; omega))), CB.nil⟩, hS.F ht⟩) hS.2.2 dX10_star_29
set_option maxHeartbeats 4000000 in
set_option maxRecDepth 100000 in
theorem y_star (l : Launch) (D : va_G) (Y : Nat → ClassId) (Z : Nat → Nat) (sz : Nat) (o : Nat) (a : Nat → Nat) (p0 p1 p2 : Int32) : Met l yX11_star (.code yX11_star cX11_star 6 (some .int) :: GW) ({ frames := 1, cells := 0, slots := 0, locals := 25 }) (va_Pc [.ref o, .int p0, .int p1, .int p2] (CP D Y Z [(o, .inr (11, (moF a))), ((a 0), .inl (Y 0, 7533, .inl tolF))] sz)) (QG (S := Int32) (fun r => some (.int r)) (fun r => r = sp_star p0 p1 p2) (fun u => CB D ((fun _ => []) u) (va_A [(o, .inr (11, (moF a))), ((a 0), .inl (Y 0, 7533, .inl tolF))] sz)) (va_A [(o, .inr (11, (moF a))), ((a 0), .inl (Y 0, 7533, .inl tolF))] sz)) 0 0 (va_A [(o, .inr (11, (moF a))), ((a 0), .inl (Y 0, 7533, .inl tolF))] sz) := by
  refine Met.ofW (cc := cX11_star) (maxL := 6) (ret := (some .int)) (by decide) rfl ?_
  intro p e s m args below meth c s₁ B hml hv
  obtain ⟨rfl, hsz, hP, hKN, hD0⟩ := hv
  have hx := B.exec
  have hb := B.bytes
  have hr := B.returns
  have hts := atoms_spec (ws := .code yX11_star cX11_star 6 (some .int) :: GW) B.pre
  have hg : ∀ w ∈ GW, w.before _ s = true := fun w h => hts w (List.mem_cons_of_mem _ h)
  have hown : s.vm.findClass RX11 = some m.cls := findClass_of_methodNamed B.named
  have hlocks := B.notSynchronized
  subst hsz
  have hD := hD0.self (sz := s.heap.size)
  generalize hAe : va_A [(o, .inr (11, (moF a))), ((a 0), .inl (Y 0, 7533, .inl tolF))] s.heap.size = A at hD ⊢
  have hA : ∀ q : Nat, s.heap.size ≤ q → A q := fun q h => by rw [← hAe]; exact Or.inr h
  have hl := lv_entry ([.ref o, .int p0, .int p1, .int p2]) (n := 6) (Nat.le_of_ble_eq_true rfl)
  rw [lg_entry_eq]
  generalize (lg_sl ([.ref o, .int p0, .int p1, .int p2]) ++ List.replicate (6 - (lg_sl ([.ref o, .int p0, .int p1, .int p2])).length) Slot.unset).toArray = ls at hl ⊢
  have hl : lv_has ls 6 [(0, .ref o), (1, .int p0), (2, .int p1), (3, .int p2)] := hl
  refine w_start (A0 := A) hP (fun H locs hP hS => ?_)
  refine lv_aload_n hx hb dX11_star_0 rfl (lv_at hl 0 rfl) ?_
  refine va_get (D := D) (ci := 11) (v := .ref (a 0)) (C := RX11) (T := TX11) (N := 49) hx hb hg inGX11 hown hKN.1 hP 0 rfl rfl 0 (by decide) (hg _ kw_1208) (fun _ h9 => h9) rfl dX11_star_1 ?_
  refine lv_iconst (v := 0) hx hb dX11_star_4 (by decide) ?_
  refine va_iald hx hb hKN.1 hP 1 0 rfl rfl (show ¬ ((0 : Int32) < 0 ∨ 7533 ≤ (0 : Int32).toNatClampNeg) by decide) dX11_star_5 ?_
  refine lv_topi (fun z1 ez1 => ?_)
  obtain rfl : z1 = 0 := ez1.trans (by decide)
  refine lv_bipush (v := 12) hx hb dX11_star_6 (by decide) ?_
  refine lv_icmp_eq (tgt := 47) hx hb dX11_star_8 (by decide) (fun c2 => ?_) (fun c2 => ?_)
  · exact absurd c2 (by decide)
  refine lv_iload_n hx hb dX11_star_11 rfl (lv_at hl 1 rfl) ?_
  refine lv_i2l (v := p0.toInt64) hx hb dX11_star_12 (rfl) ?_
  refine lv_lconst (v := 1) hx hb dX11_star_13 (by decide) ?_
  refine lv_ldc2 (v := 999) hx hb hown (hg _ kw_1361) dX11_star_14 ?_
  refine cg0 (rn_S (As := [.long p0.toInt64, .long 1, .long 999]) (rest := []) (c_in l D Y Z H.size p0.toInt64 1 999 (p0).toInt (1) (999) (Int32.toInt_toInt64 _) (by decide) (by decide) ) ⟨hx, hb, hml, hown, hg⟩ lk_X11_99 ⟨CP.blind, CP.at nilP hKN (nilD (A := fun _ => True))⟩ ⟨⟨rfl, rfl⟩, ⟨Nat.le_of_ble_eq_true rfl, Nat.le_of_ble_eq_true rfl⟩, ⟨Nat.le_of_ble_eq_true rfl, Nat.le_of_ble_eq_true rfl⟩⟩ hl.1 rfl (Nat.le_of_ble_eq_true rfl) dX11_star_17) hP hS hA (fun u3 H locs w4 hP hS => ?_)
  rcases w4 with ⟨w4, rfl⟩ | ⟨w4, rfl⟩
  · skip
    refine W.eq (g2 := F0 m 20 ls [.int 1]) rfl ?_
    refine lv_if_eq (tgt := 47) hx hb dX11_star_20 (by decide) (fun c5 => ?_) (fun c5 => ?_)
    · exact absurd c5 (by decide)
    refine lv_iload_n hx hb dX11_star_23 rfl (lv_at hl 2 rfl) ?_
    refine lv_i2l (v := p1.toInt64) hx hb dX11_star_24 (rfl) ?_
    refine lv_lconst (v := 0) hx hb dX11_star_25 (by decide) ?_
    refine lv_ldc2 (v := 7) hx hb hown (hg _ kw_1365) dX11_star_26 ?_
    refine cg0 (rn_S (As := [.long p1.toInt64, .long 0, .long 7]) (rest := []) (c_in l D Y Z H.size p1.toInt64 0 7 (p1).toInt (0) (7) (Int32.toInt_toInt64 _) (by decide) (by decide) ) ⟨hx, hb, hml, hown, hg⟩ lk_X11_99 ⟨CP.blind, CP.at nilP hKN (nilD (A := fun _ => True))⟩ ⟨⟨rfl, rfl⟩, ⟨Nat.le_of_ble_eq_true rfl, Nat.le_of_ble_eq_true rfl⟩, ⟨Nat.le_of_ble_eq_true rfl, Nat.le_of_ble_eq_true rfl⟩⟩ hl.1 rfl (Nat.le_of_ble_eq_true rfl) dX11_star_29) hP hS hA (fun u6 H locs w7 hP hS => ?_)
    rcases w7 with ⟨w7, rfl⟩ | ⟨w7, rfl⟩
    · skip
      refine W.eq (g2 := F0 m 32 ls [.int 1]) rfl ?_
      refine lv_if_eq (tgt := 47) hx hb dX11_star_32 (by decide) (fun c8 => ?_) (fun c8 => ?_)
      · exact absurd c8 (by decide)
      refine lv_iload_n hx hb dX11_star_35 rfl (lv_at hl 3 rfl) ?_
      refine lv_i2l (v := p2.toInt64) hx hb dX11_star_36 (rfl) ?_
      refine lv_lconst (v := 1) hx hb dX11_star_37 (by decide) ?_
      refine lv_ldc2 (v := 1000) hx hb hown (hg _ kw_1366) dX11_star_38 ?_
      refine cg0 (rn_S (As := [.long p2.toInt64, .long 1, .long 1000]) (rest := []) (c_in l D Y Z H.size p2.toInt64 1 1000 (p2).toInt (1) (1000) (Int32.toInt_toInt64 _) (by decide) (by decide) ) ⟨hx, hb, hml, hown, hg⟩ lk_X11_99 ⟨CP.blind, CP.at nilP hKN (nilD (A := fun _ => True))⟩ ⟨⟨rfl, rfl⟩, ⟨Nat.le_of_ble_eq_true rfl, Nat.le_of_ble_eq_true rfl⟩, ⟨Nat.le_of_ble_eq_true rfl, Nat.le_of_ble_eq_true rfl⟩⟩ hl.1 rfl (Nat.le_of_ble_eq_true rfl) dX11_star_41) hP hS hA (fun u9 H locs w10 hP hS => ?_)
      rcases w10 with ⟨w10, rfl⟩ | ⟨w10, rfl⟩
      · skip
        refine W.eq (g2 := F0 m 44 ls [.int 1]) rfl ?_
        refine lv_if_ne (tgt := 49) hx hb dX11_star_44 (by decide) (fun c11 => ?_) (fun c11 => ?_)
        rotate_left
        · exact absurd c11 (by decide)
        refine lv_aload_n hx hb dX11_star_49 rfl (lv_at hl 0 rfl) ?_
        refine va_get (D := D) (ci := 11) (v := .ref (a 0)) (C := RX11) (T := TX11) (N := 49) hx hb hg inGX11 hown hKN.1 hP 0 rfl rfl 0 (by decide) (hg _ kw_1208) (fun _ h9 => h9) rfl dX11_star_50 ?_
        refine lv_iconst (v := 0) hx hb dX11_star_53 (by decide) ?_
        refine va_iald hx hb hKN.1 hP 1 0 rfl rfl (show ¬ ((0 : Int32) < 0 ∨ 7533 ≤ (0 : Int32).toNatClampNeg) by decide) dX11_star_54 ?_
        refine lv_topi (fun z12 ez12 => ?_)
        obtain rfl : z12 = 0 := ez12.trans (by decide)
        refine lv_istore (lv' := [(4, .int 0), (0, .ref o), (1, .int p0), (2, .int p1), (3, .int p2)]) hx hb dX11_star_55 hl (by decide) rfl (fun ls hl => ?_)
        refine lv_aload_n hx hb dX11_star_57 rfl (lv_at hl 1 rfl) ?_
        refine va_get (D := D) (ci := 11) (v := .ref (a 0)) (C := RX11) (T := TX11) (N := 49) hx hb hg inGX11 hown hKN.1 hP 0 rfl rfl 0 (by decide) (hg _ kw_1208) (fun _ h9 => h9) rfl dX11_star_58 ?_
        refine lv_iconst (v := 3) hx hb dX11_star_61 (by decide) ?_
        refine lv_iconst (v := 3) hx hb dX11_star_62 (by decide) ?_
        refine lv_iload hx hb dX11_star_63 (lv_at hl 0 rfl) ?_
        refine lv_imul hx hb dX11_star_65 ?_
        refine lv_topi (fun z13 ez13 => ?_)
        obtain rfl : z13 = 0 := ez13.trans (by decide)
        refine lv_iadd hx hb dX11_star_66 ?_
        refine lv_topi (fun z14 ez14 => ?_)
        obtain rfl : z14 = 3 := ez14.trans (by decide)
        refine lv_iload_n hx hb dX11_star_67 rfl (lv_at hl 2 rfl) ?_
        refine va_iast hx hb hKN.1 hP hD hS 1 0 rfl rfl (show ¬ ((3 : Int32) < 0 ∨ 7533 ≤ (3 : Int32).toNatClampNeg) by decide) dX11_star_68 (fun H locs hP hD hS => ?_)
        obtain ⟨f15, hP, hD⟩ : ∃ f15 : Nat → Int32, va_P D vwCl [(o, .inr (11, (moF a))), ((a 0), .inl (Y 0, 7533, .inl f15))] H ∧ va_D A [(o, .inr (11, (moF a))), ((a 0), .inl (Y 0, 7533, .inl f15))] := ⟨_, hP, hD⟩
        refine lv_aload_n hx hb dX11_star_69 rfl (lv_at hl 1 rfl) ?_
        refine va_get (D := D) (ci := 11) (v := .ref (a 0)) (C := RX11) (T := TX11) (N := 49) hx hb hg inGX11 hown hKN.1 hP 0 rfl rfl 0 (by decide) (hg _ kw_1208) (fun _ h9 => h9) rfl dX11_star_70 ?_
        refine lv_iconst (v := 3) hx hb dX11_star_73 (by decide) ?_
        refine lv_iconst (v := 3) hx hb dX11_star_74 (by decide) ?_
        refine lv_iload hx hb dX11_star_75 (lv_at hl 0 rfl) ?_
        refine lv_imul hx hb dX11_star_77 ?_
        refine lv_topi (fun z16 ez16 => ?_)
        obtain rfl : z16 = 0 := ez16.trans (by decide)
        refine lv_iadd hx hb dX11_star_78 ?_
        refine lv_topi (fun z17 ez17 => ?_)
        obtain rfl : z17 = 3 := ez17.trans (by decide)
        refine lv_iconst (v := 1) hx hb dX11_star_79 (by decide) ?_
        refine lv_iadd hx hb dX11_star_80 ?_
        refine lv_topi (fun z18 ez18 => ?_)
        obtain rfl : z18 = 4 := ez18.trans (by decide)
        refine lv_iload_n hx hb dX11_star_81 rfl (lv_at hl 3 rfl) ?_
        refine va_iast hx hb hKN.1 hP hD hS 1 0 rfl rfl (show ¬ ((4 : Int32) < 0 ∨ 7533 ≤ (4 : Int32).toNatClampNeg) by decide) dX11_star_82 (fun H locs hP hD hS => ?_)
        obtain ⟨f19, hP, hD⟩ : ∃ f19 : Nat → Int32, va_P D vwCl [(o, .inr (11, (moF a))), ((a 0), .inl (Y 0, 7533, .inl f19))] H ∧ va_D A [(o, .inr (11, (moF a))), ((a 0), .inl (Y 0, 7533, .inl f19))] := ⟨_, hP, hD⟩
        refine lv_aload_n hx hb dX11_star_83 rfl (lv_at hl 1 rfl) ?_
        refine va_get (D := D) (ci := 11) (v := .ref (a 0)) (C := RX11) (T := TX11) (N := 49) hx hb hg inGX11 hown hKN.1 hP 0 rfl rfl 0 (by decide) (hg _ kw_1208) (fun _ h9 => h9) rfl dX11_star_84 ?_
        refine lv_iconst (v := 3) hx hb dX11_star_87 (by decide) ?_
        refine lv_iconst (v := 3) hx hb dX11_star_88 (by decide) ?_
        refine lv_iload hx hb dX11_star_89 (lv_at hl 0 rfl) ?_
        refine lv_imul hx hb dX11_star_91 ?_
        refine lv_topi (fun z20 ez20 => ?_)
        obtain rfl : z20 = 0 := ez20.trans (by decide)
        refine lv_iadd hx hb dX11_star_92 ?_
        refine lv_topi (fun z21 ez21 => ?_)
        obtain rfl : z21 = 3 := ez21.trans (by decide)
        refine lv_iconst (v := 2) hx hb dX11_star_93 (by decide) ?_
        refine lv_iadd hx hb dX11_star_94 ?_
        refine lv_topi (fun z22 ez22 => ?_)
        obtain rfl : z22 = 5 := ez22.trans (by decide)
        refine lv_iload_n hx hb dX11_star_95 rfl (lv_at hl 4 rfl) ?_
        refine va_iast hx hb hKN.1 hP hD hS 1 0 rfl rfl (show ¬ ((5 : Int32) < 0 ∨ 7533 ≤ (5 : Int32).toNatClampNeg) by decide) dX11_star_96 (fun H locs hP hD hS => ?_)
        obtain ⟨f23, hP, hD⟩ : ∃ f23 : Nat → Int32, va_P D vwCl [(o, .inr (11, (moF a))), ((a 0), .inl (Y 0, 7533, .inl f23))] H ∧ va_D A [(o, .inr (11, (moF a))), ((a 0), .inl (Y 0, 7533, .inl f23))] := ⟨_, hP, hD⟩
        refine lv_iconst (v := 0) hx hb dX11_star_97 (by decide) ?_
        refine lv_istore (lv' := [(5, .int 0), (4, .int 0), (0, .ref o), (1, .int p0), (2, .int p1), (3, .int p2)]) hx hb dX11_star_98 hl (by decide) rfl (fun ls hl => ?_)
        refine w_loop (σ := Nat × (Nat → Int32)) (fun xx H locs ls => match xx with | (i, g) => va_P D vwCl [(o, .inr (11, (moF a))), ((a 0), .inl (Y 0, 7533, .inl g))] H ∧ va_D A [(o, .inr (11, (moF a))), ((a 0), .inl (Y 0, 7533, .inl g))] ∧ va_S A s.heap H locs ∧ lv_has ls 6 [(5, .int (nI i)), (4, .int 0), (0, .ref o), (1, .int p0), (2, .int p1), (3, .int p2)] ∧ i ≤ 600) (fun xx => match xx with | (i, g) => 600 - i) (0, f23) ⟨hP.sub [0, 1] rfl, hD.sub [0, 1] (by decide) rfl, hS, lv_sub hl [0, 1, 2, 3, 4, 5] rfl, by omega⟩ (fun xx H locs ls hI ih => ?_)
        obtain ⟨i, g⟩ := xx
        obtain ⟨hP, hD, hS, hl, hp24⟩ := hI
        refine lv_iload hx hb dX11_star_100 (lv_at hl 0 rfl) ?_
        refine lv_sipush (v := 600) hx hb dX11_star_102 (by decide) ?_
        refine lv_icmp_ge (tgt := 134) hx hb dX11_star_105 (by decide) (fun c25 => ?_) (fun c25 => ?_)
        · skip
          have c25 := i_le (show (600 : Int32).toInt = 600 by decide) (nI_toInt (show i < 2 ^ 31 by omega)) c25
          refine lv_aload_n hx hb dX11_star_134 rfl (lv_at hl 2 rfl) ?_
          refine va_get (D := D) (ci := 11) (v := .ref (a 0)) (C := RX11) (T := TX11) (N := 49) hx hb hg inGX11 hown hKN.1 hP 0 rfl rfl 0 (by decide) (hg _ kw_1208) (fun _ h9 => h9) rfl dX11_star_135 ?_
          refine lv_iconst (v := 0) hx hb dX11_star_138 (by decide) ?_
          refine lv_dup2_11 hx hb dX11_star_139 rfl rfl ?_
          refine va_iald hx hb hKN.1 hP 1 0 rfl rfl (show ¬ ((0 : Int32) < 0 ∨ 7533 ≤ (0 : Int32).toNatClampNeg) by decide) dX11_star_140 ?_
          refine lv_topi (fun v26 ev26 => ?_)
          refine lv_iconst (v := 1) hx hb dX11_star_141 (by decide) ?_
          refine lv_iadd hx hb dX11_star_142 ?_
          refine lv_topi (fun v27 ev27 => ?_)
          refine va_iast hx hb hKN.1 hP hD hS 1 0 rfl rfl (show ¬ ((0 : Int32) < 0 ∨ 7533 ≤ (0 : Int32).toNatClampNeg) by decide) dX11_star_143 (fun H locs hP hD hS => ?_)
          obtain ⟨f28, hP, hD⟩ : ∃ f28 : Nat → Int32, va_P D vwCl [(o, .inr (11, (moF a))), ((a 0), .inl (Y 0, 7533, .inl f28))] H ∧ va_D A [(o, .inr (11, (moF a))), ((a 0), .inl (Y 0, 7533, .inl f28))] := ⟨_, hP, hD⟩
          refine lv_iload hx hb dX11_star_144 (lv_at hl 1 rfl) ?_
          refine W.widen (k := 0) (n := 0) (Nat.le_of_ble_eq_true rfl) (Nat.le_of_ble_eq_true rfl) ?_
          exact W.iret (v := 0) hx hb hr (fun t ht hW => ⟨⟨0, rfl, (by first | decide | (unfold sp_star; split <;> first | rfl | exact i_is (X := 0) (by omega) (by decide) | (exfalso; omega))), CB.nil⟩, hS.F ht⟩) hS.2.2 dX11_star_146
        · skip
          have c25 := i_nle (show (600 : Int32).toInt = 600 by decide) (nI_toInt (show i < 2 ^ 31 by omega)) c25
          refine lv_aload_n hx hb dX11_star_108 rfl (lv_at hl 2 rfl) ?_
          refine va_get (D := D) (ci := 11) (v := .ref (a 0)) (C := RX11) (T := TX11) (N := 49) hx hb hg inGX11 hown hKN.1 hP 0 rfl rfl 0 (by decide) (hg _ kw_1208) (fun _ h9 => h9) rfl dX11_star_109 ?_
          refine lv_sipush (v := 315) hx hb dX11_star_112 (by decide) ?_
          refine lv_sipush (v := 600) hx hb dX11_star_115 (by decide) ?_
          refine lv_iload hx hb dX11_star_118 (lv_at hl 1 rfl) ?_
          refine lv_imul hx hb dX11_star_120 ?_
          refine lv_topi (fun z29 ez29 => ?_)
          obtain rfl : z29 = 0 := ez29.trans (by decide)
          refine lv_iadd hx hb dX11_star_121 ?_
          refine lv_topi (fun z30 ez30 => ?_)
          obtain rfl : z30 = 315 := ez30.trans (by decide)
          refine lv_iload hx hb dX11_star_122 (lv_at hl 0 rfl) ?_
          refine lv_iadd hx hb dX11_star_124 ?_
          refine lv_topi (fun v31 ev31 => ?_)
          obtain rfl : v31 = nI (315 + i) := ev31.trans (nI_add 315 i)
          refine lv_ldc (v := (-100000)) hx hb hown (hg _ kw_1367) dX11_star_125 ?_
          refine va_iast hx hb hKN.1 hP hD hS 1 0 rfl rfl (vp_in_nI (by omega) (by omega)) dX11_star_127 (fun H locs hP hD hS => ?_)
          obtain ⟨f32, hP, hD⟩ : ∃ f32 : Nat → Int32, va_P D vwCl [(o, .inr (11, (moF a))), ((a 0), .inl (Y 0, 7533, .inl f32))] H ∧ va_D A [(o, .inr (11, (moF a))), ((a 0), .inl (Y 0, 7533, .inl f32))] := ⟨_, hP, hD⟩
          refine lv_iinc (v := (nI (i + 1))) (lv' := [(5, .int (nI (i + 1))), (4, .int 0), (0, .ref o), (1, .int p0), (2, .int p1), (3, .int p2)]) hx hb dX11_star_128 hl (k := 0) rfl (nI_add i 1) (by decide) rfl (fun ls hl => ?_)
          refine lv_goto (tgt := 100) hx hb dX11_star_131 (by decide) ?_
          exact ih (i + 1, f32) H locs ls (by show 600 - (i + 1) < 600 - i; omega) ⟨hP.sub [0, 1] rfl, hD.sub [0, 1] (by decide) rfl, hS, lv_sub hl [0, 1, 2, 3, 4, 5] rfl, by omega⟩
      · skip
        refine W.eq (g2 := F0 m 44 ls [.int 0]) rfl ?_
        refine lv_if_ne (tgt := 49) hx hb dX11_star_44 (by decide) (fun c33 => ?_) (fun c33 => ?_)
        · exact absurd c33 (by decide)
        refine lv_iconst (v := (-1)) hx hb dX11_star_47 (by decide) ?_
        refine W.widen (k := 0) (n := 0) (Nat.le_of_ble_eq_true rfl) (Nat.le_of_ble_eq_true rfl) ?_
        exact W.iret (v := (-1)) hx hb hr (fun t ht hW => ⟨⟨(-1), rfl, (by first | decide | (unfold sp_star; split <;> first | rfl | exact i_is (X := 0) (by omega) (by decide) | (exfalso; omega))), CB.nil⟩, hS.F ht⟩) hS.2.2 dX11_star_48
    · skip
      refine W.eq (g2 := F0 m 32 ls [.int 0]) rfl ?_
      refine lv_if_eq (tgt := 47) hx hb dX11_star_32 (by decide) (fun c34 => ?_) (fun c34 => ?_)
      rotate_left
      · exact absurd c34 (by decide)
      refine lv_iconst (v := (-1)) hx hb dX11_star_47 (by decide) ?_
      refine W.widen (k := 0) (n := 0) (Nat.le_of_ble_eq_true rfl) (Nat.le_of_ble_eq_true rfl) ?_
      exact W.iret (v := (-1)) hx hb hr (fun t ht hW => ⟨⟨(-1), rfl, (by first | decide | (unfold sp_star; split <;> first | rfl | exact i_is (X := 0) (by omega) (by decide) | (exfalso; omega))), CB.nil⟩, hS.F ht⟩) hS.2.2 dX11_star_48
  · skip
    refine W.eq (g2 := F0 m 20 ls [.int 0]) rfl ?_
    refine lv_if_eq (tgt := 47) hx hb dX11_star_20 (by decide) (fun c35 => ?_) (fun c35 => ?_)
    rotate_left
    · exact absurd c35 (by decide)
    refine lv_iconst (v := (-1)) hx hb dX11_star_47 (by decide) ?_
    refine W.widen (k := 0) (n := 0) (Nat.le_of_ble_eq_true rfl) (Nat.le_of_ble_eq_true rfl) ?_
    exact W.iret (v := (-1)) hx hb hr (fun t ht hW => ⟨⟨(-1), rfl, (by first | decide | (unfold sp_star; split <;> first | rfl | exact i_is (X := 0) (by omega) (by decide) | (exfalso; omega))), CB.nil⟩, hS.F ht⟩) hS.2.2 dX11_star_48
set_option maxHeartbeats 4000000 in
set_option maxRecDepth 100000 in
theorem x_wide (l : Launch) (D : va_G) (Y : Nat → ClassId) (Z : Nat → Nat) (sz : Nat) (o : Nat) (b : Nat → Nat) (p0 : Int32) : Met l yX10_wide (.code yX10_wide cX10_wide 3 (some .int) :: GW) ({ frames := 1, cells := 0, slots := 0, locals := 22 }) (va_Pc [.ref o, .int p0] (CP D Y Z [(o, .inr (10, (dsF b))), ((b 0), .inr (6, (skF b)))] sz)) (QG (S := Int32) (fun r => some (.int r)) (fun r => r = sp_wide p0) (fun u => CB D ((fun _ => []) u) (va_A [(o, .inr (10, (dsF b))), ((b 0), .inr (6, (skF b)))] sz)) (va_A [(o, .inr (10, (dsF b))), ((b 0), .inr (6, (skF b)))] sz)) 0 0 (va_A [(o, .inr (10, (dsF b))), ((b 0), .inr (6, (skF b)))] sz) := by
  refine Met.ofW (cc := cX10_wide) (maxL := 3) (ret := (some .int)) (by decide) rfl ?_
  intro p e s m args below meth c s₁ B hml hv
  obtain ⟨rfl, hsz, hP, hKN, hD0⟩ := hv
  have hx := B.exec
  have hb := B.bytes
  have hr := B.returns
  have hts := atoms_spec (ws := .code yX10_wide cX10_wide 3 (some .int) :: GW) B.pre
  have hg : ∀ w ∈ GW, w.before _ s = true := fun w h => hts w (List.mem_cons_of_mem _ h)
  have hown : s.vm.findClass RX10 = some m.cls := findClass_of_methodNamed B.named
  have hlocks := B.notSynchronized
  subst hsz
  have hD := hD0.self (sz := s.heap.size)
  generalize hAe : va_A [(o, .inr (10, (dsF b))), ((b 0), .inr (6, (skF b)))] s.heap.size = A at hD ⊢
  have hA : ∀ q : Nat, s.heap.size ≤ q → A q := fun q h => by rw [← hAe]; exact Or.inr h
  have hl := lv_entry ([.ref o, .int p0]) (n := 3) (Nat.le_of_ble_eq_true rfl)
  rw [lg_entry_eq]
  generalize (lg_sl ([.ref o, .int p0]) ++ List.replicate (3 - (lg_sl ([.ref o, .int p0])).length) Slot.unset).toArray = ls at hl ⊢
  have hl : lv_has ls 3 [(0, .ref o), (1, .int p0)] := hl
  refine w_start (A0 := A) hP (fun H locs hP hS => ?_)
  refine lv_iload_n hx hb dX10_wide_0 rfl (lv_at hl 1 rfl) ?_
  refine lv_iconst (v := 0) hx hb dX10_wide_1 (by decide) ?_
  refine lv_bipush (v := 50) hx hb dX10_wide_2 (by decide) ?_
  refine cg0 (rn_S (As := [.int p0, .int 0, .int 50]) (rest := []) (c_isWithin l D Y Z H.size p0 0 50 (0) (50) (by decide) (by decide)) ⟨hx, hb, hml, hown, hg⟩ lk_X10_100 ⟨CP.blind, CP.at nilP hKN (nilD (A := fun _ => True))⟩ ⟨⟨rfl, rfl⟩, ⟨Nat.le_of_ble_eq_true rfl, Nat.le_of_ble_eq_true rfl⟩, ⟨Nat.le_of_ble_eq_true rfl, Nat.le_of_ble_eq_true rfl⟩⟩ hl.1 rfl (Nat.le_of_ble_eq_true rfl) dX10_wide_4) hP hS hA (fun u1 H locs w2 hP hS => ?_)
  rcases w2 with ⟨w2, rfl⟩ | ⟨w2, rfl⟩
  · skip
    refine W.eq (g2 := F0 m 7 ls [.int 1]) rfl ?_
    refine lv_if_ne (tgt := 12) hx hb dX10_wide_7 (by decide) (fun c3 => ?_) (fun c3 => ?_)
    rotate_left
    · exact absurd c3 (by decide)
    refine lv_aload_n hx hb dX10_wide_12 rfl (lv_at hl 0 rfl) ?_
    refine va_get (D := D) (ci := 10) (v := .ref (b 0)) (C := RX10) (T := TX10) (N := 20) hx hb hg inGX10 hown hKN.1 hP 0 rfl rfl 0 (by decide) (hg _ kw_349) (fun _ h9 => h9) rfl dX10_wide_13 ?_
    refine va_getN (D := D) (ci := 6) (v := .int 20) (C := RX6) (T := TX6) (N := 13) hx hb hg inGX6 hown hKN.1 hP 1 rfl rfl 7 (by decide) (va_Nw.use rfl (hKN.2.1 _ kn_55 rfl)) (fun _ h9 => h9) rfl dX10_wide_16 ?_
    refine lv_istore_n (lv' := [(2, .int 20), (0, .ref o), (1, .int p0)]) hx hb dX10_wide_19 rfl hl (by decide) rfl (fun ls hl => ?_)
    refine lv_aload_n hx hb dX10_wide_20 rfl (lv_at hl 1 rfl) ?_
    refine va_get (D := D) (ci := 10) (v := .ref (b 0)) (C := RX10) (T := TX10) (N := 20) hx hb hg inGX10 hown hKN.1 hP 0 rfl rfl 0 (by decide) (hg _ kw_349) (fun _ h9 => h9) rfl dX10_wide_21 ?_
    refine lv_iload_n hx hb dX10_wide_24 rfl (lv_at hl 2 rfl) ?_
    refine va_putN (D := D) (ci := 6) (v := .int p0) (ty := .int) (C := RX6) (T := TX6) (N := 13) hx hb hg inGX6 tyX6 tyX6_ok nmX6 hown hKN.1 hP hD hS 1 rfl rfl 7 (by decide) (va_Nw.use rfl (hKN.2.1 _ kn_55 rfl)) (fun _ h9 => h9) rfl (by decide +kernel) rfl rfl (Nat.le_of_ble_eq_true rfl) dX10_wide_25 (fun H locs hP hD hS => ?_)
    have hP : va_P D vwCl [(o, .inr (10, (dsF b))), ((b 0), .inr (6, (.int 0 :: .ref (b 16) :: .int 0 :: .ref (b 17) :: .int 0 :: .ref (b 18) :: .ref (b 19) :: .int p0 :: .ref (b 20) :: .ref (b 21) :: .int 0 :: .ref (b 22) :: .int 0 :: [])))] H := hP
    have hD : va_D A [(o, .inr (10, (dsF b))), ((b 0), .inr (6, (.int 0 :: .ref (b 16) :: .int 0 :: .ref (b 17) :: .int 0 :: .ref (b 18) :: .ref (b 19) :: .int p0 :: .ref (b 20) :: .ref (b 21) :: .int 0 :: .ref (b 22) :: .int 0 :: [])))] := hD
    refine lv_aload_n hx hb dX10_wide_28 rfl (lv_at hl 1 rfl) ?_
    refine lv_dup hx hb dX10_wide_29 rfl ?_
    refine va_get (D := D) (ci := 10) (v := .int 1) (C := RX10) (T := TX10) (N := 20) hx hb hg inGX10 hown hKN.1 hP 0 rfl rfl 17 (by decide) (hg _ kw_366) (fun _ h9 => h9) rfl dX10_wide_30 ?_
    refine lv_iconst (v := 1) hx hb dX10_wide_33 (by decide) ?_
    refine lv_iadd hx hb dX10_wide_34 ?_
    refine lv_topi (fun z4 ez4 => ?_)
    obtain rfl : z4 = 2 := ez4.trans (by decide)
    refine va_put (D := D) (ci := 10) (v := .int 2) (ty := .int) (C := RX10) (T := TX10) (N := 20) hx hb hg inGX10 tyX10 tyX10_ok nmX10 hown hKN.1 hP hD hS 0 rfl rfl 17 (by decide) (hg _ kw_366) (fun _ h9 => h9) rfl (by decide +kernel) rfl rfl (Nat.le_of_ble_eq_true rfl) dX10_wide_35 (fun H locs hP hD hS => ?_)
    have hP : va_P D vwCl [(o, .inr (10, (.ref (b 0) :: .ref (b 1) :: .ref (b 2) :: .ref (b 3) :: .ref (b 4) :: .int 0 :: .int 0 :: .int 0 :: .ref (b 5) :: .ref (b 6) :: .ref (b 7) :: .ref (b 8) :: .ref (b 9) :: .ref (b 10) :: .ref (b 11) :: .ref (b 12) :: .ref (b 13) :: .int 2 :: .ref (b 14) :: .ref (b 15) :: []))), ((b 0), .inr (6, (.int 0 :: .ref (b 16) :: .int 0 :: .ref (b 17) :: .int 0 :: .ref (b 18) :: .ref (b 19) :: .int p0 :: .ref (b 20) :: .ref (b 21) :: .int 0 :: .ref (b 22) :: .int 0 :: [])))] H := hP
    have hD : va_D A [(o, .inr (10, (.ref (b 0) :: .ref (b 1) :: .ref (b 2) :: .ref (b 3) :: .ref (b 4) :: .int 0 :: .int 0 :: .int 0 :: .ref (b 5) :: .ref (b 6) :: .ref (b 7) :: .ref (b 8) :: .ref (b 9) :: .ref (b 10) :: .ref (b 11) :: .ref (b 12) :: .ref (b 13) :: .int 2 :: .ref (b 14) :: .ref (b 15) :: []))), ((b 0), .inr (6, (.int 0 :: .ref (b 16) :: .int 0 :: .ref (b 17) :: .int 0 :: .ref (b 18) :: .ref (b 19) :: .int p0 :: .ref (b 20) :: .ref (b 21) :: .int 0 :: .ref (b 22) :: .int 0 :: [])))] := hD
    refine lv_iload_n hx hb dX10_wide_38 rfl (lv_at hl 0 rfl) ?_
    refine W.widen (k := 0) (n := 0) (Nat.le_of_ble_eq_true rfl) (Nat.le_of_ble_eq_true rfl) ?_
    exact W.iret (v := 20) hx hb hr (fun t ht hW => ⟨⟨20, rfl, (by first | decide | (unfold sp_wide; split <;> first | rfl | exact i_is (X := 0) (by omega) (by decide) | (exfalso; omega))), CB.nil⟩, hS.F ht⟩) hS.2.2 dX10_wide_39
  · skip
    refine W.eq (g2 := F0 m 7 ls [.int 0]) rfl ?_
    refine lv_if_ne (tgt := 12) hx hb dX10_wide_7 (by decide) (fun c5 => ?_) (fun c5 => ?_)
    · exact absurd c5 (by decide)
    refine lv_iconst (v := (-1)) hx hb dX10_wide_10 (by decide) ?_
    refine W.widen (k := 0) (n := 0) (Nat.le_of_ble_eq_true rfl) (Nat.le_of_ble_eq_true rfl) ?_
    exact W.iret (v := (-1)) hx hb hr (fun t ht hW => ⟨⟨(-1), rfl, (by first | decide | (unfold sp_wide; split <;> first | rfl | exact i_is (X := 0) (by omega) (by decide) | (exfalso; omega))), CB.nil⟩, hS.F ht⟩) hS.2.2 dX10_wide_11
set_option maxHeartbeats 4000000 in
set_option maxRecDepth 100000 in
theorem y_wide (l : Launch) (D : va_G) (Y : Nat → ClassId) (Z : Nat → Nat) (sz : Nat) (o : Nat) (a : Nat → Nat) (p0 : Int32) : Met l yX11_wide (.code yX11_wide cX11_wide 3 (some .int) :: GW) ({ frames := 1, cells := 0, slots := 0, locals := 25 }) (va_Pc [.ref o, .int p0] (CP D Y Z [(o, .inr (11, (moF a))), ((a 0), .inl (Y 0, 7533, .inl tolF))] sz)) (QG (S := Int32) (fun r => some (.int r)) (fun r => r = sp_wide p0) (fun u => CB D ((fun _ => []) u) (va_A [(o, .inr (11, (moF a))), ((a 0), .inl (Y 0, 7533, .inl tolF))] sz)) (va_A [(o, .inr (11, (moF a))), ((a 0), .inl (Y 0, 7533, .inl tolF))] sz)) 0 0 (va_A [(o, .inr (11, (moF a))), ((a 0), .inl (Y 0, 7533, .inl tolF))] sz) := by
  refine Met.ofW (cc := cX11_wide) (maxL := 3) (ret := (some .int)) (by decide) rfl ?_
  intro p e s m args below meth c s₁ B hml hv
  obtain ⟨rfl, hsz, hP, hKN, hD0⟩ := hv
  have hx := B.exec
  have hb := B.bytes
  have hr := B.returns
  have hts := atoms_spec (ws := .code yX11_wide cX11_wide 3 (some .int) :: GW) B.pre
  have hg : ∀ w ∈ GW, w.before _ s = true := fun w h => hts w (List.mem_cons_of_mem _ h)
  have hown : s.vm.findClass RX11 = some m.cls := findClass_of_methodNamed B.named
  have hlocks := B.notSynchronized
  subst hsz
  have hD := hD0.self (sz := s.heap.size)
  generalize hAe : va_A [(o, .inr (11, (moF a))), ((a 0), .inl (Y 0, 7533, .inl tolF))] s.heap.size = A at hD ⊢
  have hA : ∀ q : Nat, s.heap.size ≤ q → A q := fun q h => by rw [← hAe]; exact Or.inr h
  have hl := lv_entry ([.ref o, .int p0]) (n := 3) (Nat.le_of_ble_eq_true rfl)
  rw [lg_entry_eq]
  generalize (lg_sl ([.ref o, .int p0]) ++ List.replicate (3 - (lg_sl ([.ref o, .int p0])).length) Slot.unset).toArray = ls at hl ⊢
  have hl : lv_has ls 3 [(0, .ref o), (1, .int p0)] := hl
  refine w_start (A0 := A) hP (fun H locs hP hS => ?_)
  refine lv_iload_n hx hb dX11_wide_0 rfl (lv_at hl 1 rfl) ?_
  refine lv_i2l (v := p0.toInt64) hx hb dX11_wide_1 (rfl) ?_
  refine lv_lconst (v := 0) hx hb dX11_wide_2 (by decide) ?_
  refine lv_ldc2 (v := 50) hx hb hown (hg _ kw_1394) dX11_wide_3 ?_
  refine cg0 (rn_S (As := [.long p0.toInt64, .long 0, .long 50]) (rest := []) (c_in l D Y Z H.size p0.toInt64 0 50 (p0).toInt (0) (50) (Int32.toInt_toInt64 _) (by decide) (by decide) ) ⟨hx, hb, hml, hown, hg⟩ lk_X11_99 ⟨CP.blind, CP.at nilP hKN (nilD (A := fun _ => True))⟩ ⟨⟨rfl, rfl⟩, ⟨Nat.le_of_ble_eq_true rfl, Nat.le_of_ble_eq_true rfl⟩, ⟨Nat.le_of_ble_eq_true rfl, Nat.le_of_ble_eq_true rfl⟩⟩ hl.1 rfl (Nat.le_of_ble_eq_true rfl) dX11_wide_6) hP hS hA (fun u1 H locs w2 hP hS => ?_)
  rcases w2 with ⟨w2, rfl⟩ | ⟨w2, rfl⟩
  · skip
    refine W.eq (g2 := F0 m 9 ls [.int 1]) rfl ?_
    refine lv_if_ne (tgt := 14) hx hb dX11_wide_9 (by decide) (fun c3 => ?_) (fun c3 => ?_)
    rotate_left
    · exact absurd c3 (by decide)
    refine lv_aload_n hx hb dX11_wide_14 rfl (lv_at hl 0 rfl) ?_
    refine va_get (D := D) (ci := 11) (v := .ref (a 0)) (C := RX11) (T := TX11) (N := 49) hx hb hg inGX11 hown hKN.1 hP 0 rfl rfl 0 (by decide) (hg _ kw_1208) (fun _ h9 => h9) rfl dX11_wide_15 ?_
    refine lv_sipush (v := 7515) hx hb dX11_wide_18 (by decide) ?_
    refine va_iald hx hb hKN.1 hP 1 0 rfl rfl (show ¬ ((7515 : Int32) < 0 ∨ 7533 ≤ (7515 : Int32).toNatClampNeg) by decide) dX11_wide_21 ?_
    refine lv_topi (fun z4 ez4 => ?_)
    obtain rfl : z4 = 20 := ez4.trans (by decide)
    refine lv_istore_n (lv' := [(2, .int 20), (0, .ref o), (1, .int p0)]) hx hb dX11_wide_22 rfl hl (by decide) rfl (fun ls hl => ?_)
    refine lv_aload_n hx hb dX11_wide_23 rfl (lv_at hl 1 rfl) ?_
    refine va_get (D := D) (ci := 11) (v := .ref (a 0)) (C := RX11) (T := TX11) (N := 49) hx hb hg inGX11 hown hKN.1 hP 0 rfl rfl 0 (by decide) (hg _ kw_1208) (fun _ h9 => h9) rfl dX11_wide_24 ?_
    refine lv_sipush (v := 7515) hx hb dX11_wide_27 (by decide) ?_
    refine lv_iload_n hx hb dX11_wide_30 rfl (lv_at hl 2 rfl) ?_
    refine va_iast hx hb hKN.1 hP hD hS 1 0 rfl rfl (show ¬ ((7515 : Int32) < 0 ∨ 7533 ≤ (7515 : Int32).toNatClampNeg) by decide) dX11_wide_31 (fun H locs hP hD hS => ?_)
    obtain ⟨f5, hP, hD⟩ : ∃ f5 : Nat → Int32, va_P D vwCl [(o, .inr (11, (moF a))), ((a 0), .inl (Y 0, 7533, .inl f5))] H ∧ va_D A [(o, .inr (11, (moF a))), ((a 0), .inl (Y 0, 7533, .inl f5))] := ⟨_, hP, hD⟩
    refine lv_iload_n hx hb dX11_wide_32 rfl (lv_at hl 0 rfl) ?_
    refine W.widen (k := 0) (n := 0) (Nat.le_of_ble_eq_true rfl) (Nat.le_of_ble_eq_true rfl) ?_
    exact W.iret (v := 20) hx hb hr (fun t ht hW => ⟨⟨20, rfl, (by first | decide | (unfold sp_wide; split <;> first | rfl | exact i_is (X := 0) (by omega) (by decide) | (exfalso; omega))), CB.nil⟩, hS.F ht⟩) hS.2.2 dX11_wide_33
  · skip
    refine W.eq (g2 := F0 m 9 ls [.int 0]) rfl ?_
    refine lv_if_ne (tgt := 14) hx hb dX11_wide_9 (by decide) (fun c6 => ?_) (fun c6 => ?_)
    · exact absurd c6 (by decide)
    refine lv_iconst (v := (-1)) hx hb dX11_wide_12 (by decide) ?_
    refine W.widen (k := 0) (n := 0) (Nat.le_of_ble_eq_true rfl) (Nat.le_of_ble_eq_true rfl) ?_
    exact W.iret (v := (-1)) hx hb hr (fun t ht hW => ⟨⟨(-1), rfl, (by first | decide | (unfold sp_wide; split <;> first | rfl | exact i_is (X := 0) (by omega) (by decide) | (exfalso; omega))), CB.nil⟩, hS.F ht⟩) hS.2.2 dX11_wide_13
set_option maxHeartbeats 4000000 in
set_option maxRecDepth 100000 in
theorem x_order (l : Launch) (D : va_G) (Y : Nat → ClassId) (Z : Nat → Nat) (sz : Nat) (o : Nat) (b : Nat → Nat) (p0 : Int32) : Met l yX10_order (.code yX10_order cX10_order 3 (some .int) :: GW) ({ frames := 1, cells := 0, slots := 0, locals := 22 }) (va_Pc [.ref o, .int p0] (CP D Y Z [(o, .inr (10, (dsF b))), ((b 0), .inr (6, (skF b)))] sz)) (QG (S := Int32) (fun r => some (.int r)) (fun r => r = sp_order p0) (fun u => CB D ((fun _ => []) u) (va_A [(o, .inr (10, (dsF b))), ((b 0), .inr (6, (skF b)))] sz)) (va_A [(o, .inr (10, (dsF b))), ((b 0), .inr (6, (skF b)))] sz)) 0 0 (va_A [(o, .inr (10, (dsF b))), ((b 0), .inr (6, (skF b)))] sz) := by
  refine Met.ofW (cc := cX10_order) (maxL := 3) (ret := (some .int)) (by decide) rfl ?_
  intro p e s m args below meth c s₁ B hml hv
  obtain ⟨rfl, hsz, hP, hKN, hD0⟩ := hv
  have hx := B.exec
  have hb := B.bytes
  have hr := B.returns
  have hts := atoms_spec (ws := .code yX10_order cX10_order 3 (some .int) :: GW) B.pre
  have hg : ∀ w ∈ GW, w.before _ s = true := fun w h => hts w (List.mem_cons_of_mem _ h)
  have hown : s.vm.findClass RX10 = some m.cls := findClass_of_methodNamed B.named
  have hlocks := B.notSynchronized
  subst hsz
  have hD := hD0.self (sz := s.heap.size)
  generalize hAe : va_A [(o, .inr (10, (dsF b))), ((b 0), .inr (6, (skF b)))] s.heap.size = A at hD ⊢
  have hA : ∀ q : Nat, s.heap.size ≤ q → A q := fun q h => by rw [← hAe]; exact Or.inr h
  have hl := lv_entry ([.ref o, .int p0]) (n := 3) (Nat.le_of_ble_eq_true rfl)
  rw [lg_entry_eq]
  generalize (lg_sl ([.ref o, .int p0]) ++ List.replicate (3 - (lg_sl ([.ref o, .int p0])).length) Slot.unset).toArray = ls at hl ⊢
  have hl : lv_has ls 3 [(0, .ref o), (1, .int p0)] := hl
  refine w_start (A0 := A) hP (fun H locs hP hS => ?_)
  refine lv_iload_n hx hb dX10_order_0 rfl (lv_at hl 1 rfl) ?_
  refine lv_iconst (v := 0) hx hb dX10_order_1 (by decide) ?_
  refine lv_bipush (v := 23) hx hb dX10_order_2 (by decide) ?_
  refine cg0 (rn_S (As := [.int p0, .int 0, .int 23]) (rest := []) (c_isWithin l D Y Z H.size p0 0 23 (0) (23) (by decide) (by decide)) ⟨hx, hb, hml, hown, hg⟩ lk_X10_100 ⟨CP.blind, CP.at nilP hKN (nilD (A := fun _ => True))⟩ ⟨⟨rfl, rfl⟩, ⟨Nat.le_of_ble_eq_true rfl, Nat.le_of_ble_eq_true rfl⟩, ⟨Nat.le_of_ble_eq_true rfl, Nat.le_of_ble_eq_true rfl⟩⟩ hl.1 rfl (Nat.le_of_ble_eq_true rfl) dX10_order_4) hP hS hA (fun u1 H locs w2 hP hS => ?_)
  rcases w2 with ⟨w2, rfl⟩ | ⟨w2, rfl⟩
  · skip
    refine W.eq (g2 := F0 m 7 ls [.int 1]) rfl ?_
    refine lv_if_ne (tgt := 12) hx hb dX10_order_7 (by decide) (fun c3 => ?_) (fun c3 => ?_)
    rotate_left
    · exact absurd c3 (by decide)
    refine lv_aload_n hx hb dX10_order_12 rfl (lv_at hl 0 rfl) ?_
    refine va_get (D := D) (ci := 10) (v := .ref (b 0)) (C := RX10) (T := TX10) (N := 20) hx hb hg inGX10 hown hKN.1 hP 0 rfl rfl 0 (by decide) (hg _ kw_349) (fun _ h9 => h9) rfl dX10_order_13 ?_
    refine va_getN (D := D) (ci := 6) (v := .int 0) (C := RX6) (T := TX6) (N := 13) hx hb hg inGX6 hown hKN.1 hP 1 rfl rfl 10 (by decide) (va_Nw.use rfl (hKN.2.1 _ kn_63 rfl)) (fun _ h9 => h9) rfl dX10_order_16 ?_
    refine lv_istore_n (lv' := [(2, .int 0), (0, .ref o), (1, .int p0)]) hx hb dX10_order_19 rfl hl (by decide) rfl (fun ls hl => ?_)
    refine lv_aload_n hx hb dX10_order_20 rfl (lv_at hl 1 rfl) ?_
    refine va_get (D := D) (ci := 10) (v := .ref (b 0)) (C := RX10) (T := TX10) (N := 20) hx hb hg inGX10 hown hKN.1 hP 0 rfl rfl 0 (by decide) (hg _ kw_349) (fun _ h9 => h9) rfl dX10_order_21 ?_
    refine lv_iload_n hx hb dX10_order_24 rfl (lv_at hl 2 rfl) ?_
    refine va_putN (D := D) (ci := 6) (v := .int p0) (ty := .int) (C := RX6) (T := TX6) (N := 13) hx hb hg inGX6 tyX6 tyX6_ok nmX6 hown hKN.1 hP hD hS 1 rfl rfl 10 (by decide) (va_Nw.use rfl (hKN.2.1 _ kn_63 rfl)) (fun _ h9 => h9) rfl (by decide +kernel) rfl rfl (Nat.le_of_ble_eq_true rfl) dX10_order_25 (fun H locs hP hD hS => ?_)
    have hP : va_P D vwCl [(o, .inr (10, (dsF b))), ((b 0), .inr (6, (.int 0 :: .ref (b 16) :: .int 0 :: .ref (b 17) :: .int 0 :: .ref (b 18) :: .ref (b 19) :: .int 20 :: .ref (b 20) :: .ref (b 21) :: .int p0 :: .ref (b 22) :: .int 0 :: [])))] H := hP
    have hD : va_D A [(o, .inr (10, (dsF b))), ((b 0), .inr (6, (.int 0 :: .ref (b 16) :: .int 0 :: .ref (b 17) :: .int 0 :: .ref (b 18) :: .ref (b 19) :: .int 20 :: .ref (b 20) :: .ref (b 21) :: .int p0 :: .ref (b 22) :: .int 0 :: [])))] := hD
    refine lv_aload_n hx hb dX10_order_28 rfl (lv_at hl 1 rfl) ?_
    refine lv_dup hx hb dX10_order_29 rfl ?_
    refine va_get (D := D) (ci := 10) (v := .int 1) (C := RX10) (T := TX10) (N := 20) hx hb hg inGX10 hown hKN.1 hP 0 rfl rfl 17 (by decide) (hg _ kw_366) (fun _ h9 => h9) rfl dX10_order_30 ?_
    refine lv_iconst (v := 1) hx hb dX10_order_33 (by decide) ?_
    refine lv_iadd hx hb dX10_order_34 ?_
    refine lv_topi (fun z4 ez4 => ?_)
    obtain rfl : z4 = 2 := ez4.trans (by decide)
    refine va_put (D := D) (ci := 10) (v := .int 2) (ty := .int) (C := RX10) (T := TX10) (N := 20) hx hb hg inGX10 tyX10 tyX10_ok nmX10 hown hKN.1 hP hD hS 0 rfl rfl 17 (by decide) (hg _ kw_366) (fun _ h9 => h9) rfl (by decide +kernel) rfl rfl (Nat.le_of_ble_eq_true rfl) dX10_order_35 (fun H locs hP hD hS => ?_)
    have hP : va_P D vwCl [(o, .inr (10, (.ref (b 0) :: .ref (b 1) :: .ref (b 2) :: .ref (b 3) :: .ref (b 4) :: .int 0 :: .int 0 :: .int 0 :: .ref (b 5) :: .ref (b 6) :: .ref (b 7) :: .ref (b 8) :: .ref (b 9) :: .ref (b 10) :: .ref (b 11) :: .ref (b 12) :: .ref (b 13) :: .int 2 :: .ref (b 14) :: .ref (b 15) :: []))), ((b 0), .inr (6, (.int 0 :: .ref (b 16) :: .int 0 :: .ref (b 17) :: .int 0 :: .ref (b 18) :: .ref (b 19) :: .int 20 :: .ref (b 20) :: .ref (b 21) :: .int p0 :: .ref (b 22) :: .int 0 :: [])))] H := hP
    have hD : va_D A [(o, .inr (10, (.ref (b 0) :: .ref (b 1) :: .ref (b 2) :: .ref (b 3) :: .ref (b 4) :: .int 0 :: .int 0 :: .int 0 :: .ref (b 5) :: .ref (b 6) :: .ref (b 7) :: .ref (b 8) :: .ref (b 9) :: .ref (b 10) :: .ref (b 11) :: .ref (b 12) :: .ref (b 13) :: .int 2 :: .ref (b 14) :: .ref (b 15) :: []))), ((b 0), .inr (6, (.int 0 :: .ref (b 16) :: .int 0 :: .ref (b 17) :: .int 0 :: .ref (b 18) :: .ref (b 19) :: .int 20 :: .ref (b 20) :: .ref (b 21) :: .int p0 :: .ref (b 22) :: .int 0 :: [])))] := hD
    refine lv_iload_n hx hb dX10_order_38 rfl (lv_at hl 0 rfl) ?_
    refine W.widen (k := 0) (n := 0) (Nat.le_of_ble_eq_true rfl) (Nat.le_of_ble_eq_true rfl) ?_
    exact W.iret (v := 0) hx hb hr (fun t ht hW => ⟨⟨0, rfl, (by first | decide | (unfold sp_order; split <;> first | rfl | exact i_is (X := 0) (by omega) (by decide) | (exfalso; omega))), CB.nil⟩, hS.F ht⟩) hS.2.2 dX10_order_39
  · skip
    refine W.eq (g2 := F0 m 7 ls [.int 0]) rfl ?_
    refine lv_if_ne (tgt := 12) hx hb dX10_order_7 (by decide) (fun c5 => ?_) (fun c5 => ?_)
    · exact absurd c5 (by decide)
    refine lv_iconst (v := (-1)) hx hb dX10_order_10 (by decide) ?_
    refine W.widen (k := 0) (n := 0) (Nat.le_of_ble_eq_true rfl) (Nat.le_of_ble_eq_true rfl) ?_
    exact W.iret (v := (-1)) hx hb hr (fun t ht hW => ⟨⟨(-1), rfl, (by first | decide | (unfold sp_order; split <;> first | rfl | exact i_is (X := 0) (by omega) (by decide) | (exfalso; omega))), CB.nil⟩, hS.F ht⟩) hS.2.2 dX10_order_11
set_option maxHeartbeats 4000000 in
set_option maxRecDepth 100000 in
theorem y_order (l : Launch) (D : va_G) (Y : Nat → ClassId) (Z : Nat → Nat) (sz : Nat) (o : Nat) (a : Nat → Nat) (p0 : Int32) : Met l yX11_order (.code yX11_order cX11_order 3 (some .int) :: GW) ({ frames := 1, cells := 0, slots := 0, locals := 25 }) (va_Pc [.ref o, .int p0] (CP D Y Z [(o, .inr (11, (moF a))), ((a 0), .inl (Y 0, 7533, .inl tolF))] sz)) (QG (S := Int32) (fun r => some (.int r)) (fun r => r = sp_order p0) (fun u => CB D ((fun _ => []) u) (va_A [(o, .inr (11, (moF a))), ((a 0), .inl (Y 0, 7533, .inl tolF))] sz)) (va_A [(o, .inr (11, (moF a))), ((a 0), .inl (Y 0, 7533, .inl tolF))] sz)) 0 0 (va_A [(o, .inr (11, (moF a))), ((a 0), .inl (Y 0, 7533, .inl tolF))] sz) := by
  refine Met.ofW (cc := cX11_order) (maxL := 3) (ret := (some .int)) (by decide) rfl ?_
  intro p e s m args below meth c s₁ B hml hv
  obtain ⟨rfl, hsz, hP, hKN, hD0⟩ := hv
  have hx := B.exec
  have hb := B.bytes
  have hr := B.returns
  have hts := atoms_spec (ws := .code yX11_order cX11_order 3 (some .int) :: GW) B.pre
  have hg : ∀ w ∈ GW, w.before _ s = true := fun w h => hts w (List.mem_cons_of_mem _ h)
  have hown : s.vm.findClass RX11 = some m.cls := findClass_of_methodNamed B.named
  have hlocks := B.notSynchronized
  subst hsz
  have hD := hD0.self (sz := s.heap.size)
  generalize hAe : va_A [(o, .inr (11, (moF a))), ((a 0), .inl (Y 0, 7533, .inl tolF))] s.heap.size = A at hD ⊢
  have hA : ∀ q : Nat, s.heap.size ≤ q → A q := fun q h => by rw [← hAe]; exact Or.inr h
  have hl := lv_entry ([.ref o, .int p0]) (n := 3) (Nat.le_of_ble_eq_true rfl)
  rw [lg_entry_eq]
  generalize (lg_sl ([.ref o, .int p0]) ++ List.replicate (3 - (lg_sl ([.ref o, .int p0])).length) Slot.unset).toArray = ls at hl ⊢
  have hl : lv_has ls 3 [(0, .ref o), (1, .int p0)] := hl
  refine w_start (A0 := A) hP (fun H locs hP hS => ?_)
  refine lv_iload_n hx hb dX11_order_0 rfl (lv_at hl 1 rfl) ?_
  refine lv_i2l (v := p0.toInt64) hx hb dX11_order_1 (rfl) ?_
  refine lv_lconst (v := 0) hx hb dX11_order_2 (by decide) ?_
  refine lv_ldc2 (v := 23) hx hb hown (hg _ kw_1404) dX11_order_3 ?_
  refine cg0 (rn_S (As := [.long p0.toInt64, .long 0, .long 23]) (rest := []) (c_in l D Y Z H.size p0.toInt64 0 23 (p0).toInt (0) (23) (Int32.toInt_toInt64 _) (by decide) (by decide) ) ⟨hx, hb, hml, hown, hg⟩ lk_X11_99 ⟨CP.blind, CP.at nilP hKN (nilD (A := fun _ => True))⟩ ⟨⟨rfl, rfl⟩, ⟨Nat.le_of_ble_eq_true rfl, Nat.le_of_ble_eq_true rfl⟩, ⟨Nat.le_of_ble_eq_true rfl, Nat.le_of_ble_eq_true rfl⟩⟩ hl.1 rfl (Nat.le_of_ble_eq_true rfl) dX11_order_6) hP hS hA (fun u1 H locs w2 hP hS => ?_)
  rcases w2 with ⟨w2, rfl⟩ | ⟨w2, rfl⟩
  · skip
    refine W.eq (g2 := F0 m 9 ls [.int 1]) rfl ?_
    refine lv_if_ne (tgt := 14) hx hb dX11_order_9 (by decide) (fun c3 => ?_) (fun c3 => ?_)
    rotate_left
    · exact absurd c3 (by decide)
    refine lv_aload_n hx hb dX11_order_14 rfl (lv_at hl 0 rfl) ?_
    refine va_get (D := D) (ci := 11) (v := .ref (a 0)) (C := RX11) (T := TX11) (N := 49) hx hb hg inGX11 hown hKN.1 hP 0 rfl rfl 0 (by decide) (hg _ kw_1208) (fun _ h9 => h9) rfl dX11_order_15 ?_
    refine lv_sipush (v := 7516) hx hb dX11_order_18 (by decide) ?_
    refine va_iald hx hb hKN.1 hP 1 0 rfl rfl (show ¬ ((7516 : Int32) < 0 ∨ 7533 ≤ (7516 : Int32).toNatClampNeg) by decide) dX11_order_21 ?_
    refine lv_topi (fun z4 ez4 => ?_)
    obtain rfl : z4 = 0 := ez4.trans (by decide)
    refine lv_istore_n (lv' := [(2, .int 0), (0, .ref o), (1, .int p0)]) hx hb dX11_order_22 rfl hl (by decide) rfl (fun ls hl => ?_)
    refine lv_aload_n hx hb dX11_order_23 rfl (lv_at hl 1 rfl) ?_
    refine va_get (D := D) (ci := 11) (v := .ref (a 0)) (C := RX11) (T := TX11) (N := 49) hx hb hg inGX11 hown hKN.1 hP 0 rfl rfl 0 (by decide) (hg _ kw_1208) (fun _ h9 => h9) rfl dX11_order_24 ?_
    refine lv_sipush (v := 7516) hx hb dX11_order_27 (by decide) ?_
    refine lv_iload_n hx hb dX11_order_30 rfl (lv_at hl 2 rfl) ?_
    refine va_iast hx hb hKN.1 hP hD hS 1 0 rfl rfl (show ¬ ((7516 : Int32) < 0 ∨ 7533 ≤ (7516 : Int32).toNatClampNeg) by decide) dX11_order_31 (fun H locs hP hD hS => ?_)
    obtain ⟨f5, hP, hD⟩ : ∃ f5 : Nat → Int32, va_P D vwCl [(o, .inr (11, (moF a))), ((a 0), .inl (Y 0, 7533, .inl f5))] H ∧ va_D A [(o, .inr (11, (moF a))), ((a 0), .inl (Y 0, 7533, .inl f5))] := ⟨_, hP, hD⟩
    refine lv_iload_n hx hb dX11_order_32 rfl (lv_at hl 0 rfl) ?_
    refine W.widen (k := 0) (n := 0) (Nat.le_of_ble_eq_true rfl) (Nat.le_of_ble_eq_true rfl) ?_
    exact W.iret (v := 0) hx hb hr (fun t ht hW => ⟨⟨0, rfl, (by first | decide | (unfold sp_order; split <;> first | rfl | exact i_is (X := 0) (by omega) (by decide) | (exfalso; omega))), CB.nil⟩, hS.F ht⟩) hS.2.2 dX11_order_33
  · skip
    refine W.eq (g2 := F0 m 9 ls [.int 0]) rfl ?_
    refine lv_if_ne (tgt := 14) hx hb dX11_order_9 (by decide) (fun c6 => ?_) (fun c6 => ?_)
    · exact absurd c6 (by decide)
    refine lv_iconst (v := (-1)) hx hb dX11_order_12 (by decide) ?_
    refine W.widen (k := 0) (n := 0) (Nat.le_of_ble_eq_true rfl) (Nat.le_of_ble_eq_true rfl) ?_
    exact W.iret (v := (-1)) hx hb hr (fun t ht hW => ⟨⟨(-1), rfl, (by first | decide | (unfold sp_order; split <;> first | rfl | exact i_is (X := 0) (by omega) (by decide) | (exfalso; omega))), CB.nil⟩, hS.F ht⟩) hS.2.2 dX11_order_13
set_option maxHeartbeats 4000000 in
set_option maxRecDepth 100000 in
theorem x_mask (l : Launch) (D : va_G) (Y : Nat → ClassId) (Z : Nat → Nat) (sz : Nat) (o : Nat) (b : Nat → Nat) (p0 p1 p2 : Int32) : Met l yX10_mask (.code yX10_mask cX10_mask 4 (some .boolean) :: GW) ({ frames := 1, cells := 0, slots := 0, locals := 22 }) (va_Pc [.ref o, .int p0, .int p1, .int p2] (CP D Y Z [(o, .inr (10, (dsF b))), ((b 0), .inr (6, (skF b))), ((b 20), .inl (Y 0, 8, .inl (fun _ => 0))), ((b 21), .inl (Y 0, 8, .inl (fun _ => 0)))] sz)) (QG (S := Int32) (fun r => some (.int r)) (fun r => r = sp_mask p0 p1 p2) (fun u => CB D ((fun _ => []) u) (va_A [(o, .inr (10, (dsF b))), ((b 0), .inr (6, (skF b))), ((b 20), .inl (Y 0, 8, .inl (fun _ => 0))), ((b 21), .inl (Y 0, 8, .inl (fun _ => 0)))] sz)) (va_A [(o, .inr (10, (dsF b))), ((b 0), .inr (6, (skF b))), ((b 20), .inl (Y 0, 8, .inl (fun _ => 0))), ((b 21), .inl (Y 0, 8, .inl (fun _ => 0)))] sz)) 0 0 (va_A [(o, .inr (10, (dsF b))), ((b 0), .inr (6, (skF b))), ((b 20), .inl (Y 0, 8, .inl (fun _ => 0))), ((b 21), .inl (Y 0, 8, .inl (fun _ => 0)))] sz) := by
  refine Met.ofW (cc := cX10_mask) (maxL := 4) (ret := (some .boolean)) (by decide) rfl ?_
  intro p e s m args below meth c s₁ B hml hv
  obtain ⟨rfl, hsz, hP, hKN, hD0⟩ := hv
  have hx := B.exec
  have hb := B.bytes
  have hr := B.returns
  have hts := atoms_spec (ws := .code yX10_mask cX10_mask 4 (some .boolean) :: GW) B.pre
  have hg : ∀ w ∈ GW, w.before _ s = true := fun w h => hts w (List.mem_cons_of_mem _ h)
  have hown : s.vm.findClass RX10 = some m.cls := findClass_of_methodNamed B.named
  have hlocks := B.notSynchronized
  subst hsz
  have hD := hD0.self (sz := s.heap.size)
  generalize hAe : va_A [(o, .inr (10, (dsF b))), ((b 0), .inr (6, (skF b))), ((b 20), .inl (Y 0, 8, .inl (fun _ => 0))), ((b 21), .inl (Y 0, 8, .inl (fun _ => 0)))] s.heap.size = A at hD ⊢
  have hA : ∀ q : Nat, s.heap.size ≤ q → A q := fun q h => by rw [← hAe]; exact Or.inr h
  have hl := lv_entry ([.ref o, .int p0, .int p1, .int p2]) (n := 4) (Nat.le_of_ble_eq_true rfl)
  rw [lg_entry_eq]
  generalize (lg_sl ([.ref o, .int p0, .int p1, .int p2]) ++ List.replicate (4 - (lg_sl ([.ref o, .int p0, .int p1, .int p2])).length) Slot.unset).toArray = ls at hl ⊢
  have hl : lv_has ls 4 [(0, .ref o), (1, .int p0), (2, .int p1), (3, .int p2)] := hl
  refine w_start (A0 := A) hP (fun H locs hP hS => ?_)
  refine lv_iload_n hx hb dX10_mask_0 rfl (lv_at hl 1 rfl) ?_
  refine lv_iconst (v := 0) hx hb dX10_mask_1 (by decide) ?_
  refine lv_bipush (v := 7) hx hb dX10_mask_2 (by decide) ?_
  refine cg0 (rn_S (As := [.int p0, .int 0, .int 7]) (rest := []) (c_isWithin l D Y Z H.size p0 0 7 (0) (7) (by decide) (by decide)) ⟨hx, hb, hml, hown, hg⟩ lk_X10_100 ⟨CP.blind, CP.at nilP hKN (nilD (A := fun _ => True))⟩ ⟨⟨rfl, rfl⟩, ⟨Nat.le_of_ble_eq_true rfl, Nat.le_of_ble_eq_true rfl⟩, ⟨Nat.le_of_ble_eq_true rfl, Nat.le_of_ble_eq_true rfl⟩⟩ hl.1 rfl (Nat.le_of_ble_eq_true rfl) dX10_mask_4) hP hS hA (fun u1 H locs w2 hP hS => ?_)
  rcases w2 with ⟨w2, rfl⟩ | ⟨w2, rfl⟩
  · skip
    refine W.eq (g2 := F0 m 7 ls [.int 1]) rfl ?_
    refine lv_if_eq (tgt := 31) hx hb dX10_mask_7 (by decide) (fun c3 => ?_) (fun c3 => ?_)
    · exact absurd c3 (by decide)
    refine lv_iload_n hx hb dX10_mask_10 rfl (lv_at hl 2 rfl) ?_
    refine lv_iconst (v := 0) hx hb dX10_mask_11 (by decide) ?_
    refine lv_bipush (v := 12) hx hb dX10_mask_12 (by decide) ?_
    refine cg0 (rn_S (As := [.int p1, .int 0, .int 12]) (rest := []) (c_isWithin l D Y Z H.size p1 0 12 (0) (12) (by decide) (by decide)) ⟨hx, hb, hml, hown, hg⟩ lk_X10_100 ⟨CP.blind, CP.at nilP hKN (nilD (A := fun _ => True))⟩ ⟨⟨rfl, rfl⟩, ⟨Nat.le_of_ble_eq_true rfl, Nat.le_of_ble_eq_true rfl⟩, ⟨Nat.le_of_ble_eq_true rfl, Nat.le_of_ble_eq_true rfl⟩⟩ hl.1 rfl (Nat.le_of_ble_eq_true rfl) dX10_mask_14) hP hS hA (fun u4 H locs w5 hP hS => ?_)
    rcases w5 with ⟨w5, rfl⟩ | ⟨w5, rfl⟩
    · skip
      refine W.eq (g2 := F0 m 17 ls [.int 1]) rfl ?_
      refine lv_if_eq (tgt := 31) hx hb dX10_mask_17 (by decide) (fun c6 => ?_) (fun c6 => ?_)
      · exact absurd c6 (by decide)
      refine lv_iload_n hx hb dX10_mask_20 rfl (lv_at hl 3 rfl) ?_
      refine lv_iconst (v := 0) hx hb dX10_mask_21 (by decide) ?_
      refine lv_sipush (v := 30000) hx hb dX10_mask_22 (by decide) ?_
      refine cg0 (rn_S (As := [.int p2, .int 0, .int 30000]) (rest := []) (c_isWithin l D Y Z H.size p2 0 30000 (0) (30000) (by decide) (by decide)) ⟨hx, hb, hml, hown, hg⟩ lk_X10_100 ⟨CP.blind, CP.at nilP hKN (nilD (A := fun _ => True))⟩ ⟨⟨rfl, rfl⟩, ⟨Nat.le_of_ble_eq_true rfl, Nat.le_of_ble_eq_true rfl⟩, ⟨Nat.le_of_ble_eq_true rfl, Nat.le_of_ble_eq_true rfl⟩⟩ hl.1 rfl (Nat.le_of_ble_eq_true rfl) dX10_mask_25) hP hS hA (fun u7 H locs w8 hP hS => ?_)
      rcases w8 with ⟨w8, rfl⟩ | ⟨w8, rfl⟩
      · skip
        refine W.eq (g2 := F0 m 28 ls [.int 1]) rfl ?_
        refine lv_if_ne (tgt := 33) hx hb dX10_mask_28 (by decide) (fun c9 => ?_) (fun c9 => ?_)
        rotate_left
        · exact absurd c9 (by decide)
        refine lv_aload_n hx hb dX10_mask_33 rfl (lv_at hl 0 rfl) ?_
        refine va_get (D := D) (ci := 10) (v := .ref (b 0)) (C := RX10) (T := TX10) (N := 20) hx hb hg inGX10 hown hKN.1 hP 0 rfl rfl 0 (by decide) (hg _ kw_349) (fun _ h9 => h9) rfl dX10_mask_34 ?_
        refine va_getN (D := D) (ci := 6) (v := .ref (b 20)) (C := RX6) (T := TX6) (N := 13) hx hb hg inGX6 hown hKN.1 hP 1 rfl rfl 8 (by decide) (va_Nw.use rfl (hKN.2.1 _ kn_58 rfl)) (fun _ h9 => h9) rfl dX10_mask_37 ?_
        refine lv_iload_n hx hb dX10_mask_40 rfl (lv_at hl 1 rfl) ?_
        refine lv_iload_n hx hb dX10_mask_41 rfl (lv_at hl 2 rfl) ?_
        refine va_iast hx hb hKN.1 hP hD hS 2 0 rfl rfl (vp_in_iff.mpr ⟨by omega, by omega⟩) dX10_mask_42 (fun H locs hP hD hS => ?_)
        obtain ⟨f10, hP, hD⟩ : ∃ f10 : Nat → Int32, va_P D vwCl [(o, .inr (10, (dsF b))), ((b 0), .inr (6, (skF b))), ((b 20), .inl (Y 0, 8, .inl f10)), ((b 21), .inl (Y 0, 8, .inl (fun _ => 0)))] H ∧ va_D A [(o, .inr (10, (dsF b))), ((b 0), .inr (6, (skF b))), ((b 20), .inl (Y 0, 8, .inl f10)), ((b 21), .inl (Y 0, 8, .inl (fun _ => 0)))] := ⟨_, hP, hD⟩
        refine lv_aload_n hx hb dX10_mask_43 rfl (lv_at hl 0 rfl) ?_
        refine va_get (D := D) (ci := 10) (v := .ref (b 0)) (C := RX10) (T := TX10) (N := 20) hx hb hg inGX10 hown hKN.1 hP 0 rfl rfl 0 (by decide) (hg _ kw_349) (fun _ h9 => h9) rfl dX10_mask_44 ?_
        refine va_getN (D := D) (ci := 6) (v := .ref (b 21)) (C := RX6) (T := TX6) (N := 13) hx hb hg inGX6 hown hKN.1 hP 1 rfl rfl 9 (by decide) (va_Nw.use rfl (hKN.2.1 _ kn_60 rfl)) (fun _ h9 => h9) rfl dX10_mask_47 ?_
        refine lv_iload_n hx hb dX10_mask_50 rfl (lv_at hl 1 rfl) ?_
        refine lv_iload_n hx hb dX10_mask_51 rfl (lv_at hl 3 rfl) ?_
        refine va_iast hx hb hKN.1 hP hD hS 3 0 rfl rfl (vp_in_iff.mpr ⟨by omega, by omega⟩) dX10_mask_52 (fun H locs hP hD hS => ?_)
        obtain ⟨f11, hP, hD⟩ : ∃ f11 : Nat → Int32, va_P D vwCl [(o, .inr (10, (dsF b))), ((b 0), .inr (6, (skF b))), ((b 20), .inl (Y 0, 8, .inl f10)), ((b 21), .inl (Y 0, 8, .inl f11))] H ∧ va_D A [(o, .inr (10, (dsF b))), ((b 0), .inr (6, (skF b))), ((b 20), .inl (Y 0, 8, .inl f10)), ((b 21), .inl (Y 0, 8, .inl f11))] := ⟨_, hP, hD⟩
        refine lv_aload_n hx hb dX10_mask_53 rfl (lv_at hl 0 rfl) ?_
        refine lv_dup hx hb dX10_mask_54 rfl ?_
        refine va_get (D := D) (ci := 10) (v := .int 1) (C := RX10) (T := TX10) (N := 20) hx hb hg inGX10 hown hKN.1 hP 0 rfl rfl 17 (by decide) (hg _ kw_366) (fun _ h9 => h9) rfl dX10_mask_55 ?_
        refine lv_iconst (v := 1) hx hb dX10_mask_58 (by decide) ?_
        refine lv_iadd hx hb dX10_mask_59 ?_
        refine lv_topi (fun z12 ez12 => ?_)
        obtain rfl : z12 = 2 := ez12.trans (by decide)
        refine va_put (D := D) (ci := 10) (v := .int 2) (ty := .int) (C := RX10) (T := TX10) (N := 20) hx hb hg inGX10 tyX10 tyX10_ok nmX10 hown hKN.1 hP hD hS 0 rfl rfl 17 (by decide) (hg _ kw_366) (fun _ h9 => h9) rfl (by decide +kernel) rfl rfl (Nat.le_of_ble_eq_true rfl) dX10_mask_60 (fun H locs hP hD hS => ?_)
        have hP : va_P D vwCl [(o, .inr (10, (.ref (b 0) :: .ref (b 1) :: .ref (b 2) :: .ref (b 3) :: .ref (b 4) :: .int 0 :: .int 0 :: .int 0 :: .ref (b 5) :: .ref (b 6) :: .ref (b 7) :: .ref (b 8) :: .ref (b 9) :: .ref (b 10) :: .ref (b 11) :: .ref (b 12) :: .ref (b 13) :: .int 2 :: .ref (b 14) :: .ref (b 15) :: []))), ((b 0), .inr (6, (skF b))), ((b 20), .inl (Y 0, 8, .inl f10)), ((b 21), .inl (Y 0, 8, .inl f11))] H := hP
        have hD : va_D A [(o, .inr (10, (.ref (b 0) :: .ref (b 1) :: .ref (b 2) :: .ref (b 3) :: .ref (b 4) :: .int 0 :: .int 0 :: .int 0 :: .ref (b 5) :: .ref (b 6) :: .ref (b 7) :: .ref (b 8) :: .ref (b 9) :: .ref (b 10) :: .ref (b 11) :: .ref (b 12) :: .ref (b 13) :: .int 2 :: .ref (b 14) :: .ref (b 15) :: []))), ((b 0), .inr (6, (skF b))), ((b 20), .inl (Y 0, 8, .inl f10)), ((b 21), .inl (Y 0, 8, .inl f11))] := hD
        refine lv_iconst (v := 1) hx hb dX10_mask_63 (by decide) ?_
        refine W.widen (k := 0) (n := 0) (Nat.le_of_ble_eq_true rfl) (Nat.le_of_ble_eq_true rfl) ?_
        exact W.zret (v := 1) hx hb hr (by decide) (fun t ht hW => ⟨⟨1, rfl, (by first | decide | (unfold sp_mask; split <;> first | rfl | exact i_is (X := 0) (by omega) (by decide) | (exfalso; omega))), CB.nil⟩, hS.F ht⟩) hS.2.2 dX10_mask_64
      · skip
        refine W.eq (g2 := F0 m 28 ls [.int 0]) rfl ?_
        refine lv_if_ne (tgt := 33) hx hb dX10_mask_28 (by decide) (fun c13 => ?_) (fun c13 => ?_)
        · exact absurd c13 (by decide)
        refine lv_iconst (v := 0) hx hb dX10_mask_31 (by decide) ?_
        refine W.widen (k := 0) (n := 0) (Nat.le_of_ble_eq_true rfl) (Nat.le_of_ble_eq_true rfl) ?_
        exact W.zret (v := 0) hx hb hr (by decide) (fun t ht hW => ⟨⟨0, rfl, (by first | decide | (unfold sp_mask; split <;> first | rfl | exact i_is (X := 0) (by omega) (by decide) | (exfalso; omega))), CB.nil⟩, hS.F ht⟩) hS.2.2 dX10_mask_32
    · skip
      refine W.eq (g2 := F0 m 17 ls [.int 0]) rfl ?_
      refine lv_if_eq (tgt := 31) hx hb dX10_mask_17 (by decide) (fun c14 => ?_) (fun c14 => ?_)
      rotate_left
      · exact absurd c14 (by decide)
      refine lv_iconst (v := 0) hx hb dX10_mask_31 (by decide) ?_
      refine W.widen (k := 0) (n := 0) (Nat.le_of_ble_eq_true rfl) (Nat.le_of_ble_eq_true rfl) ?_
      exact W.zret (v := 0) hx hb hr (by decide) (fun t ht hW => ⟨⟨0, rfl, (by first | decide | (unfold sp_mask; split <;> first | rfl | exact i_is (X := 0) (by omega) (by decide) | (exfalso; omega))), CB.nil⟩, hS.F ht⟩) hS.2.2 dX10_mask_32
  · skip
    refine W.eq (g2 := F0 m 7 ls [.int 0]) rfl ?_
    refine lv_if_eq (tgt := 31) hx hb dX10_mask_7 (by decide) (fun c15 => ?_) (fun c15 => ?_)
    rotate_left
    · exact absurd c15 (by decide)
    refine lv_iconst (v := 0) hx hb dX10_mask_31 (by decide) ?_
    refine W.widen (k := 0) (n := 0) (Nat.le_of_ble_eq_true rfl) (Nat.le_of_ble_eq_true rfl) ?_
    exact W.zret (v := 0) hx hb hr (by decide) (fun t ht hW => ⟨⟨0, rfl, (by first | decide | (unfold sp_mask; split <;> first | rfl | exact i_is (X := 0) (by omega) (by decide) | (exfalso; omega))), CB.nil⟩, hS.F ht⟩) hS.2.2 dX10_mask_32
set_option maxHeartbeats 4000000 in
set_option maxRecDepth 100000 in
theorem y_mask (l : Launch) (D : va_G) (Y : Nat → ClassId) (Z : Nat → Nat) (sz : Nat) (o : Nat) (a : Nat → Nat) (p0 p1 p2 : Int32) : Met l yX11_mask (.code yX11_mask cX11_mask 4 (some .boolean) :: GW) ({ frames := 1, cells := 0, slots := 0, locals := 25 }) (va_Pc [.ref o, .int p0, .int p1, .int p2] (CP D Y Z [(o, .inr (11, (moF a))), ((a 0), .inl (Y 0, 7533, .inl tolF))] sz)) (QG (S := Int32) (fun r => some (.int r)) (fun r => r = sp_mask p0 p1 p2) (fun u => CB D ((fun _ => []) u) (va_A [(o, .inr (11, (moF a))), ((a 0), .inl (Y 0, 7533, .inl tolF))] sz)) (va_A [(o, .inr (11, (moF a))), ((a 0), .inl (Y 0, 7533, .inl tolF))] sz)) 0 0 (va_A [(o, .inr (11, (moF a))), ((a 0), .inl (Y 0, 7533, .inl tolF))] sz) := by
  refine Met.ofW (cc := cX11_mask) (maxL := 4) (ret := (some .boolean)) (by decide) rfl ?_
  intro p e s m args below meth c s₁ B hml hv
  obtain ⟨rfl, hsz, hP, hKN, hD0⟩ := hv
  have hx := B.exec
  have hb := B.bytes
  have hr := B.returns
  have hts := atoms_spec (ws := .code yX11_mask cX11_mask 4 (some .boolean) :: GW) B.pre
  have hg : ∀ w ∈ GW, w.before _ s = true := fun w h => hts w (List.mem_cons_of_mem _ h)
  have hown : s.vm.findClass RX11 = some m.cls := findClass_of_methodNamed B.named
  have hlocks := B.notSynchronized
  subst hsz
  have hD := hD0.self (sz := s.heap.size)
  generalize hAe : va_A [(o, .inr (11, (moF a))), ((a 0), .inl (Y 0, 7533, .inl tolF))] s.heap.size = A at hD ⊢
  have hA : ∀ q : Nat, s.heap.size ≤ q → A q := fun q h => by rw [← hAe]; exact Or.inr h
  have hl := lv_entry ([.ref o, .int p0, .int p1, .int p2]) (n := 4) (Nat.le_of_ble_eq_true rfl)
  rw [lg_entry_eq]
  generalize (lg_sl ([.ref o, .int p0, .int p1, .int p2]) ++ List.replicate (4 - (lg_sl ([.ref o, .int p0, .int p1, .int p2])).length) Slot.unset).toArray = ls at hl ⊢
  have hl : lv_has ls 4 [(0, .ref o), (1, .int p0), (2, .int p1), (3, .int p2)] := hl
  refine w_start (A0 := A) hP (fun H locs hP hS => ?_)
  refine lv_iload_n hx hb dX11_mask_0 rfl (lv_at hl 1 rfl) ?_
  refine lv_i2l (v := p0.toInt64) hx hb dX11_mask_1 (rfl) ?_
  refine lv_lconst (v := 0) hx hb dX11_mask_2 (by decide) ?_
  refine lv_ldc2 (v := 7) hx hb hown (hg _ kw_1365) dX11_mask_3 ?_
  refine cg0 (rn_S (As := [.long p0.toInt64, .long 0, .long 7]) (rest := []) (c_in l D Y Z H.size p0.toInt64 0 7 (p0).toInt (0) (7) (Int32.toInt_toInt64 _) (by decide) (by decide) ) ⟨hx, hb, hml, hown, hg⟩ lk_X11_99 ⟨CP.blind, CP.at nilP hKN (nilD (A := fun _ => True))⟩ ⟨⟨rfl, rfl⟩, ⟨Nat.le_of_ble_eq_true rfl, Nat.le_of_ble_eq_true rfl⟩, ⟨Nat.le_of_ble_eq_true rfl, Nat.le_of_ble_eq_true rfl⟩⟩ hl.1 rfl (Nat.le_of_ble_eq_true rfl) dX11_mask_6) hP hS hA (fun u1 H locs w2 hP hS => ?_)
  rcases w2 with ⟨w2, rfl⟩ | ⟨w2, rfl⟩
  · skip
    refine W.eq (g2 := F0 m 9 ls [.int 1]) rfl ?_
    refine lv_if_eq (tgt := 36) hx hb dX11_mask_9 (by decide) (fun c3 => ?_) (fun c3 => ?_)
    · exact absurd c3 (by decide)
    refine lv_iload_n hx hb dX11_mask_12 rfl (lv_at hl 2 rfl) ?_
    refine lv_i2l (v := p1.toInt64) hx hb dX11_mask_13 (rfl) ?_
    refine lv_lconst (v := 0) hx hb dX11_mask_14 (by decide) ?_
    refine lv_ldc2 (v := 12) hx hb hown (hg _ kw_1399) dX11_mask_15 ?_
    refine cg0 (rn_S (As := [.long p1.toInt64, .long 0, .long 12]) (rest := []) (c_in l D Y Z H.size p1.toInt64 0 12 (p1).toInt (0) (12) (Int32.toInt_toInt64 _) (by decide) (by decide) ) ⟨hx, hb, hml, hown, hg⟩ lk_X11_99 ⟨CP.blind, CP.at nilP hKN (nilD (A := fun _ => True))⟩ ⟨⟨rfl, rfl⟩, ⟨Nat.le_of_ble_eq_true rfl, Nat.le_of_ble_eq_true rfl⟩, ⟨Nat.le_of_ble_eq_true rfl, Nat.le_of_ble_eq_true rfl⟩⟩ hl.1 rfl (Nat.le_of_ble_eq_true rfl) dX11_mask_18) hP hS hA (fun u4 H locs w5 hP hS => ?_)
    rcases w5 with ⟨w5, rfl⟩ | ⟨w5, rfl⟩
    · skip
      refine W.eq (g2 := F0 m 21 ls [.int 1]) rfl ?_
      refine lv_if_eq (tgt := 36) hx hb dX11_mask_21 (by decide) (fun c6 => ?_) (fun c6 => ?_)
      · exact absurd c6 (by decide)
      refine lv_iload_n hx hb dX11_mask_24 rfl (lv_at hl 3 rfl) ?_
      refine lv_i2l (v := p2.toInt64) hx hb dX11_mask_25 (rfl) ?_
      refine lv_lconst (v := 0) hx hb dX11_mask_26 (by decide) ?_
      refine lv_ldc2 (v := 30000) hx hb hown (hg _ kw_1380) dX11_mask_27 ?_
      refine cg0 (rn_S (As := [.long p2.toInt64, .long 0, .long 30000]) (rest := []) (c_in l D Y Z H.size p2.toInt64 0 30000 (p2).toInt (0) (30000) (Int32.toInt_toInt64 _) (by decide) (by decide) ) ⟨hx, hb, hml, hown, hg⟩ lk_X11_99 ⟨CP.blind, CP.at nilP hKN (nilD (A := fun _ => True))⟩ ⟨⟨rfl, rfl⟩, ⟨Nat.le_of_ble_eq_true rfl, Nat.le_of_ble_eq_true rfl⟩, ⟨Nat.le_of_ble_eq_true rfl, Nat.le_of_ble_eq_true rfl⟩⟩ hl.1 rfl (Nat.le_of_ble_eq_true rfl) dX11_mask_30) hP hS hA (fun u7 H locs w8 hP hS => ?_)
      rcases w8 with ⟨w8, rfl⟩ | ⟨w8, rfl⟩
      · skip
        refine W.eq (g2 := F0 m 33 ls [.int 1]) rfl ?_
        refine lv_if_ne (tgt := 38) hx hb dX11_mask_33 (by decide) (fun c9 => ?_) (fun c9 => ?_)
        rotate_left
        · exact absurd c9 (by decide)
        refine lv_aload_n hx hb dX11_mask_38 rfl (lv_at hl 0 rfl) ?_
        refine va_get (D := D) (ci := 11) (v := .ref (a 0)) (C := RX11) (T := TX11) (N := 49) hx hb hg inGX11 hown hKN.1 hP 0 rfl rfl 0 (by decide) (hg _ kw_1208) (fun _ h9 => h9) rfl dX11_mask_39 ?_
        refine lv_sipush (v := 7517) hx hb dX11_mask_42 (by decide) ?_
        refine lv_iconst (v := 2) hx hb dX11_mask_45 (by decide) ?_
        refine lv_iload_n hx hb dX11_mask_46 rfl (lv_at hl 1 rfl) ?_
        refine lv_imul hx hb dX11_mask_47 ?_
        refine lv_topi (fun v10 ev10 => ?_)
        have hv10 := i_mul (show (2 : Int32).toInt = 2 by decide) (Eq.refl (p0).toInt) ev10 (by omega) (by omega)
        refine lv_iadd hx hb dX11_mask_48 ?_
        refine lv_topi (fun v11 ev11 => ?_)
        have hv11 := i_add (show (7517 : Int32).toInt = 7517 by decide) (Eq.refl (v10).toInt) ev11 (by omega) (by omega)
        refine lv_iload_n hx hb dX11_mask_49 rfl (lv_at hl 2 rfl) ?_
        refine va_iast hx hb hKN.1 hP hD hS 1 0 rfl rfl (vp_in_iff.mpr ⟨by omega, by omega⟩) dX11_mask_50 (fun H locs hP hD hS => ?_)
        obtain ⟨f12, hP, hD⟩ : ∃ f12 : Nat → Int32, va_P D vwCl [(o, .inr (11, (moF a))), ((a 0), .inl (Y 0, 7533, .inl f12))] H ∧ va_D A [(o, .inr (11, (moF a))), ((a 0), .inl (Y 0, 7533, .inl f12))] := ⟨_, hP, hD⟩
        refine lv_aload_n hx hb dX11_mask_51 rfl (lv_at hl 0 rfl) ?_
        refine va_get (D := D) (ci := 11) (v := .ref (a 0)) (C := RX11) (T := TX11) (N := 49) hx hb hg inGX11 hown hKN.1 hP 0 rfl rfl 0 (by decide) (hg _ kw_1208) (fun _ h9 => h9) rfl dX11_mask_52 ?_
        refine lv_sipush (v := 7517) hx hb dX11_mask_55 (by decide) ?_
        refine lv_iconst (v := 2) hx hb dX11_mask_58 (by decide) ?_
        refine lv_iload_n hx hb dX11_mask_59 rfl (lv_at hl 1 rfl) ?_
        refine lv_imul hx hb dX11_mask_60 ?_
        refine lv_topi (fun v13 ev13 => ?_)
        have hv13 := i_mul (show (2 : Int32).toInt = 2 by decide) (Eq.refl (p0).toInt) ev13 (by omega) (by omega)
        refine lv_iadd hx hb dX11_mask_61 ?_
        refine lv_topi (fun v14 ev14 => ?_)
        have hv14 := i_add (show (7517 : Int32).toInt = 7517 by decide) (Eq.refl (v13).toInt) ev14 (by omega) (by omega)
        refine lv_iconst (v := 1) hx hb dX11_mask_62 (by decide) ?_
        refine lv_iadd hx hb dX11_mask_63 ?_
        refine lv_topi (fun v15 ev15 => ?_)
        have hv15 := i_add (Eq.refl (v14).toInt) (show (1 : Int32).toInt = 1 by decide) ev15 (by omega) (by omega)
        refine lv_iload_n hx hb dX11_mask_64 rfl (lv_at hl 3 rfl) ?_
        refine va_iast hx hb hKN.1 hP hD hS 1 0 rfl rfl (vp_in_iff.mpr ⟨by omega, by omega⟩) dX11_mask_65 (fun H locs hP hD hS => ?_)
        obtain ⟨f16, hP, hD⟩ : ∃ f16 : Nat → Int32, va_P D vwCl [(o, .inr (11, (moF a))), ((a 0), .inl (Y 0, 7533, .inl f16))] H ∧ va_D A [(o, .inr (11, (moF a))), ((a 0), .inl (Y 0, 7533, .inl f16))] := ⟨_, hP, hD⟩
        refine lv_iconst (v := 1) hx hb dX11_mask_66 (by decide) ?_
        refine W.widen (k := 0) (n := 0) (Nat.le_of_ble_eq_true rfl) (Nat.le_of_ble_eq_true rfl) ?_
        exact W.zret (v := 1) hx hb hr (by decide) (fun t ht hW => ⟨⟨1, rfl, (by first | decide | (unfold sp_mask; split <;> first | rfl | exact i_is (X := 0) (by omega) (by decide) | (exfalso; omega))), CB.nil⟩, hS.F ht⟩) hS.2.2 dX11_mask_67
      · skip
        refine W.eq (g2 := F0 m 33 ls [.int 0]) rfl ?_
        refine lv_if_ne (tgt := 38) hx hb dX11_mask_33 (by decide) (fun c17 => ?_) (fun c17 => ?_)
        · exact absurd c17 (by decide)
        refine lv_iconst (v := 0) hx hb dX11_mask_36 (by decide) ?_
        refine W.widen (k := 0) (n := 0) (Nat.le_of_ble_eq_true rfl) (Nat.le_of_ble_eq_true rfl) ?_
        exact W.zret (v := 0) hx hb hr (by decide) (fun t ht hW => ⟨⟨0, rfl, (by first | decide | (unfold sp_mask; split <;> first | rfl | exact i_is (X := 0) (by omega) (by decide) | (exfalso; omega))), CB.nil⟩, hS.F ht⟩) hS.2.2 dX11_mask_37
    · skip
      refine W.eq (g2 := F0 m 21 ls [.int 0]) rfl ?_
      refine lv_if_eq (tgt := 36) hx hb dX11_mask_21 (by decide) (fun c18 => ?_) (fun c18 => ?_)
      rotate_left
      · exact absurd c18 (by decide)
      refine lv_iconst (v := 0) hx hb dX11_mask_36 (by decide) ?_
      refine W.widen (k := 0) (n := 0) (Nat.le_of_ble_eq_true rfl) (Nat.le_of_ble_eq_true rfl) ?_
      exact W.zret (v := 0) hx hb hr (by decide) (fun t ht hW => ⟨⟨0, rfl, (by first | decide | (unfold sp_mask; split <;> first | rfl | exact i_is (X := 0) (by omega) (by decide) | (exfalso; omega))), CB.nil⟩, hS.F ht⟩) hS.2.2 dX11_mask_37
  · skip
    refine W.eq (g2 := F0 m 9 ls [.int 0]) rfl ?_
    refine lv_if_eq (tgt := 36) hx hb dX11_mask_9 (by decide) (fun c19 => ?_) (fun c19 => ?_)
    rotate_left
    · exact absurd c19 (by decide)
    refine lv_iconst (v := 0) hx hb dX11_mask_36 (by decide) ?_
    refine W.widen (k := 0) (n := 0) (Nat.le_of_ble_eq_true rfl) (Nat.le_of_ble_eq_true rfl) ?_
    exact W.zret (v := 0) hx hb hr (by decide) (fun t ht hW => ⟨⟨0, rfl, (by first | decide | (unfold sp_mask; split <;> first | rfl | exact i_is (X := 0) (by omega) (by decide) | (exfalso; omega))), CB.nil⟩, hS.F ht⟩) hS.2.2 dX11_mask_37
set_option maxHeartbeats 4000000 in
set_option maxRecDepth 100000 in
theorem x_end (l : Launch) (D : va_G) (Y : Nat → ClassId) (Z : Nat → Nat) (sz : Nat) (o : Nat) (b : Nat → Nat) (p0 : Int32) : Met l yX10_end (.code yX10_end cX10_end 2 (some .int) :: GW) ({ frames := 1, cells := 0, slots := 0, locals := 22 }) (va_Pc [.ref o, .int p0] (CP D Y Z [(o, .inr (10, (dsF b))), ((b 0), .inr (6, (skF b)))] sz)) (QG (S := Int32) (fun r => some (.int r)) (fun r => r = sp_end p0) (fun u => CB D ((fun _ => []) u) (va_A [(o, .inr (10, (dsF b))), ((b 0), .inr (6, (skF b)))] sz)) (va_A [(o, .inr (10, (dsF b))), ((b 0), .inr (6, (skF b)))] sz)) 0 0 (va_A [(o, .inr (10, (dsF b))), ((b 0), .inr (6, (skF b)))] sz) := by
  refine Met.ofW (cc := cX10_end) (maxL := 2) (ret := (some .int)) (by decide) rfl ?_
  intro p e s m args below meth c s₁ B hml hv
  obtain ⟨rfl, hsz, hP, hKN, hD0⟩ := hv
  have hx := B.exec
  have hb := B.bytes
  have hr := B.returns
  have hts := atoms_spec (ws := .code yX10_end cX10_end 2 (some .int) :: GW) B.pre
  have hg : ∀ w ∈ GW, w.before _ s = true := fun w h => hts w (List.mem_cons_of_mem _ h)
  have hown : s.vm.findClass RX10 = some m.cls := findClass_of_methodNamed B.named
  have hlocks := B.notSynchronized
  subst hsz
  have hD := hD0.self (sz := s.heap.size)
  generalize hAe : va_A [(o, .inr (10, (dsF b))), ((b 0), .inr (6, (skF b)))] s.heap.size = A at hD ⊢
  have hA : ∀ q : Nat, s.heap.size ≤ q → A q := fun q h => by rw [← hAe]; exact Or.inr h
  have hl := lv_entry ([.ref o, .int p0]) (n := 2) (Nat.le_of_ble_eq_true rfl)
  rw [lg_entry_eq]
  generalize (lg_sl ([.ref o, .int p0]) ++ List.replicate (2 - (lg_sl ([.ref o, .int p0])).length) Slot.unset).toArray = ls at hl ⊢
  have hl : lv_has ls 2 [(0, .ref o), (1, .int p0)] := hl
  refine w_start (A0 := A) hP (fun H locs hP hS => ?_)
  refine lv_iload_n hx hb dX10_end_0 rfl (lv_at hl 1 rfl) ?_
  refine lv_iconst (v := 0) hx hb dX10_end_1 (by decide) ?_
  refine lv_aload_n hx hb dX10_end_2 rfl (lv_at hl 0 rfl) ?_
  refine va_get (D := D) (ci := 10) (v := .ref (b 0)) (C := RX10) (T := TX10) (N := 20) hx hb hg inGX10 hown hKN.1 hP 0 rfl rfl 0 (by decide) (hg _ kw_349) (fun _ h9 => h9) rfl dX10_end_3 ?_
  refine va_getN (D := D) (ci := 6) (v := .int 0) (C := RX6) (T := TX6) (N := 13) hx hb hg inGX6 hown hKN.1 hP 1 rfl rfl 12 (by decide) (va_Nw.use rfl (hKN.2.1 _ kn_68 rfl)) (fun _ h9 => h9) rfl dX10_end_6 ?_
  refine cg0 (rn_S (As := [.int p0, .int 0, .int 0]) (rest := []) (c_isWithin l D Y Z H.size p0 0 0 (0) (0) (by decide) (by decide)) ⟨hx, hb, hml, hown, hg⟩ lk_X10_100 ⟨CP.blind, CP.at nilP hKN (nilD (A := fun _ => True))⟩ ⟨⟨rfl, rfl⟩, ⟨Nat.le_of_ble_eq_true rfl, Nat.le_of_ble_eq_true rfl⟩, ⟨Nat.le_of_ble_eq_true rfl, Nat.le_of_ble_eq_true rfl⟩⟩ hl.1 rfl (Nat.le_of_ble_eq_true rfl) dX10_end_9) hP hS hA (fun u1 H locs w2 hP hS => ?_)
  rcases w2 with ⟨w2, rfl⟩ | ⟨w2, rfl⟩
  · skip
    refine W.eq (g2 := F0 m 12 ls [.int 1]) rfl ?_
    refine lv_if_ne (tgt := 17) hx hb dX10_end_12 (by decide) (fun c3 => ?_) (fun c3 => ?_)
    rotate_left
    · exact absurd c3 (by decide)
    refine lv_aload_n hx hb dX10_end_17 rfl (lv_at hl 0 rfl) ?_
    refine va_get (D := D) (ci := 10) (v := .ref (b 0)) (C := RX10) (T := TX10) (N := 20) hx hb hg inGX10 hown hKN.1 hP 0 rfl rfl 0 (by decide) (hg _ kw_349) (fun _ h9 => h9) rfl dX10_end_18 ?_
    refine lv_iload_n hx hb dX10_end_21 rfl (lv_at hl 1 rfl) ?_
    refine va_putN (D := D) (ci := 6) (v := .int p0) (ty := .int) (C := RX6) (T := TX6) (N := 13) hx hb hg inGX6 tyX6 tyX6_ok nmX6 hown hKN.1 hP hD hS 1 rfl rfl 12 (by decide) (va_Nw.use rfl (hKN.2.1 _ kn_68 rfl)) (fun _ h9 => h9) rfl (by decide +kernel) rfl rfl (Nat.le_of_ble_eq_true rfl) dX10_end_22 (fun H locs hP hD hS => ?_)
    have hP : va_P D vwCl [(o, .inr (10, (dsF b))), ((b 0), .inr (6, (.int 0 :: .ref (b 16) :: .int 0 :: .ref (b 17) :: .int 0 :: .ref (b 18) :: .ref (b 19) :: .int 20 :: .ref (b 20) :: .ref (b 21) :: .int 0 :: .ref (b 22) :: .int p0 :: [])))] H := hP
    have hD : va_D A [(o, .inr (10, (dsF b))), ((b 0), .inr (6, (.int 0 :: .ref (b 16) :: .int 0 :: .ref (b 17) :: .int 0 :: .ref (b 18) :: .ref (b 19) :: .int 20 :: .ref (b 20) :: .ref (b 21) :: .int 0 :: .ref (b 22) :: .int p0 :: [])))] := hD
    refine lv_iload_n hx hb dX10_end_25 rfl (lv_at hl 1 rfl) ?_
    refine W.widen (k := 0) (n := 0) (Nat.le_of_ble_eq_true rfl) (Nat.le_of_ble_eq_true rfl) ?_
    exact W.iret (v := p0) hx hb hr (fun t ht hW => ⟨⟨p0, rfl, (by first | decide | (unfold sp_end; split <;> first | rfl | exact i_is (X := 0) (by omega) (by decide) | (exfalso; omega))), CB.nil⟩, hS.F ht⟩) hS.2.2 dX10_end_26
  · skip
    refine W.eq (g2 := F0 m 12 ls [.int 0]) rfl ?_
    refine lv_if_ne (tgt := 17) hx hb dX10_end_12 (by decide) (fun c4 => ?_) (fun c4 => ?_)
    · exact absurd c4 (by decide)
    refine lv_iconst (v := (-1)) hx hb dX10_end_15 (by decide) ?_
    refine W.widen (k := 0) (n := 0) (Nat.le_of_ble_eq_true rfl) (Nat.le_of_ble_eq_true rfl) ?_
    exact W.iret (v := (-1)) hx hb hr (fun t ht hW => ⟨⟨(-1), rfl, (by first | decide | (unfold sp_end; split <;> first | rfl | exact i_is (X := 0) (by omega) (by decide) | (exfalso; omega))), CB.nil⟩, hS.F ht⟩) hS.2.2 dX10_end_16
set_option maxHeartbeats 4000000 in
set_option maxRecDepth 100000 in
theorem y_end (l : Launch) (D : va_G) (Y : Nat → ClassId) (Z : Nat → Nat) (sz : Nat) (o : Nat) (a : Nat → Nat) (p0 : Int32) : Met l yX11_end (.code yX11_end cX11_end 2 (some .int) :: GW) ({ frames := 0, cells := 0, slots := 0, locals := 0 }) (va_Pc [.ref o, .int p0] (CP D Y Z [(o, .inr (11, (moF a)))] sz)) (QG (S := Int32) (fun r => some (.int r)) (fun r => r = sp_end p0) (fun u => CB D ((fun _ => []) u) (va_A [(o, .inr (11, (moF a)))] sz)) (va_A [(o, .inr (11, (moF a)))] sz)) 0 0 (va_A [(o, .inr (11, (moF a)))] sz) := by
  refine Met.ofW (cc := cX11_end) (maxL := 2) (ret := (some .int)) (by decide) rfl ?_
  intro p e s m args below meth c s₁ B hml hv
  obtain ⟨rfl, hsz, hP, hKN, hD0⟩ := hv
  have hx := B.exec
  have hb := B.bytes
  have hr := B.returns
  have hts := atoms_spec (ws := .code yX11_end cX11_end 2 (some .int) :: GW) B.pre
  have hg : ∀ w ∈ GW, w.before _ s = true := fun w h => hts w (List.mem_cons_of_mem _ h)
  have hown : s.vm.findClass RX11 = some m.cls := findClass_of_methodNamed B.named
  have hlocks := B.notSynchronized
  subst hsz
  have hD := hD0.self (sz := s.heap.size)
  generalize hAe : va_A [(o, .inr (11, (moF a)))] s.heap.size = A at hD ⊢
  have hA : ∀ q : Nat, s.heap.size ≤ q → A q := fun q h => by rw [← hAe]; exact Or.inr h
  have hl := lv_entry ([.ref o, .int p0]) (n := 2) (Nat.le_of_ble_eq_true rfl)
  rw [lg_entry_eq]
  generalize (lg_sl ([.ref o, .int p0]) ++ List.replicate (2 - (lg_sl ([.ref o, .int p0])).length) Slot.unset).toArray = ls at hl ⊢
  have hl : lv_has ls 2 [(0, .ref o), (1, .int p0)] := hl
  refine w_start (A0 := A) hP (fun H locs hP hS => ?_)
  refine lv_iload_n hx hb dX11_end_0 rfl (lv_at hl 1 rfl) ?_
  refine lv_if_lt (tgt := 12) hx hb dX11_end_1 (by decide) (fun c1 => ?_) (fun c1 => ?_)
  · skip
    have c1 := i_lt (Eq.refl (p0).toInt) (show (0 : Int32).toInt = 0 by decide) c1
    refine lv_iconst (v := (-1)) hx hb dX11_end_12 (by decide) ?_
    refine W.widen (k := 0) (n := 0) (Nat.le_of_ble_eq_true rfl) (Nat.le_of_ble_eq_true rfl) ?_
    exact W.iret (v := (-1)) hx hb hr (fun t ht hW => ⟨⟨(-1), rfl, (by first | decide | (unfold sp_end; split <;> first | rfl | exact i_is (X := 0) (by omega) (by decide) | (exfalso; omega))), CB.nil⟩, hS.F ht⟩) hS.2.2 dX11_end_13
  · skip
    have c1 := i_nlt (Eq.refl (p0).toInt) (show (0 : Int32).toInt = 0 by decide) c1
    refine lv_iload_n hx hb dX11_end_4 rfl (lv_at hl 1 rfl) ?_
    refine lv_aload_n hx hb dX11_end_5 rfl (lv_at hl 0 rfl) ?_
    refine va_get (D := D) (ci := 11) (v := .int 0) (C := RX11) (T := TX11) (N := 49) hx hb hg inGX11 hown hKN.1 hP 0 rfl rfl 3 (by decide) (hg _ kw_1211) (fun _ h9 => h9) rfl dX11_end_6 ?_
    refine lv_icmp_le (tgt := 14) hx hb dX11_end_9 (by decide) (fun c2 => ?_) (fun c2 => ?_)
    · skip
      have c2 := i_le (Eq.refl (p0).toInt) (show (0 : Int32).toInt = 0 by decide) c2
      refine lv_aload_n hx hb dX11_end_14 rfl (lv_at hl 0 rfl) ?_
      refine lv_iload_n hx hb dX11_end_15 rfl (lv_at hl 1 rfl) ?_
      refine va_put (D := D) (ci := 11) (v := .int p0) (ty := .int) (C := RX11) (T := TX11) (N := 49) hx hb hg inGX11 tyX11 tyX11_ok nmX11 hown hKN.1 hP hD hS 0 rfl rfl 3 (by decide) (hg _ kw_1211) (fun _ h9 => h9) rfl (by decide +kernel) rfl rfl (Nat.le_of_ble_eq_true rfl) dX11_end_16 (fun H locs hP hD hS => ?_)
      have hP : va_P D vwCl [(o, .inr (11, (.ref (a 0) :: .ref (a 1) :: .ref (a 2) :: .int p0 :: .ref (a 3) :: .ref (a 4) :: .ref (a 5) :: .ref (a 6) :: .ref (a 7) :: .ref (a 8) :: .ref (a 9) :: .ref (a 10) :: .ref (a 11) :: .ref (a 12) :: .ref (a 13) :: .ref (a 14) :: .int 0 :: .int 0 :: .int 0 :: .int 0 :: .int 0 :: .int 0 :: .int 0 :: .ref (a 15) :: .int 0 :: .ref (a 16) :: .int 0 :: .ref (a 17) :: .ref (a 18) :: .int 0 :: .long 0 :: .long 0 :: .int 0 :: .long 0 :: .int 0 :: .int 0 :: .int 0 :: .long 0 :: .long 0 :: .int 0 :: .ref (a 19) :: .ref (a 20) :: .ref (a 21) :: .ref (a 22) :: .ref (a 23) :: .ref (a 24) :: .ref (a 25) :: .ref (a 26) :: .ref (a 27) :: [])))] H := hP
      have hD : va_D A [(o, .inr (11, (.ref (a 0) :: .ref (a 1) :: .ref (a 2) :: .int p0 :: .ref (a 3) :: .ref (a 4) :: .ref (a 5) :: .ref (a 6) :: .ref (a 7) :: .ref (a 8) :: .ref (a 9) :: .ref (a 10) :: .ref (a 11) :: .ref (a 12) :: .ref (a 13) :: .ref (a 14) :: .int 0 :: .int 0 :: .int 0 :: .int 0 :: .int 0 :: .int 0 :: .int 0 :: .ref (a 15) :: .int 0 :: .ref (a 16) :: .int 0 :: .ref (a 17) :: .ref (a 18) :: .int 0 :: .long 0 :: .long 0 :: .int 0 :: .long 0 :: .int 0 :: .int 0 :: .int 0 :: .long 0 :: .long 0 :: .int 0 :: .ref (a 19) :: .ref (a 20) :: .ref (a 21) :: .ref (a 22) :: .ref (a 23) :: .ref (a 24) :: .ref (a 25) :: .ref (a 26) :: .ref (a 27) :: [])))] := hD
      refine lv_iload_n hx hb dX11_end_19 rfl (lv_at hl 1 rfl) ?_
      refine W.widen (k := 0) (n := 0) (Nat.le_of_ble_eq_true rfl) (Nat.le_of_ble_eq_true rfl) ?_
      exact W.iret (v := p0) hx hb hr (fun t ht hW => ⟨⟨p0, rfl, (by first | decide | (unfold sp_end; split <;> first | rfl | exact i_is (X := 0) (by omega) (by decide) | (exfalso; omega))), CB.nil⟩, hS.F ht⟩) hS.2.2 dX11_end_20
    · skip
      have c2 := i_nle (Eq.refl (p0).toInt) (show (0 : Int32).toInt = 0 by decide) c2
      refine lv_iconst (v := (-1)) hx hb dX11_end_12 (by decide) ?_
      refine W.widen (k := 0) (n := 0) (Nat.le_of_ble_eq_true rfl) (Nat.le_of_ble_eq_true rfl) ?_
      exact W.iret (v := (-1)) hx hb hr (fun t ht hW => ⟨⟨(-1), rfl, (by first | decide | (unfold sp_end; split <;> first | rfl | exact i_is (X := 0) (by omega) (by decide) | (exfalso; omega))), CB.nil⟩, hS.F ht⟩) hS.2.2 dX11_end_13
set_option maxHeartbeats 4000000 in
set_option maxRecDepth 100000 in
theorem x_nights (l : Launch) (D : va_G) (Y : Nat → ClassId) (Z : Nat → Nat) (sz : Nat) (o : Nat) (b : Nat → Nat) (p0 p1 : Int32) : Met l yX10_nights (.code yX10_nights cX10_nights 10 (some .int) :: GW) ({ frames := 1, cells := 0, slots := 0, locals := 22 }) (va_Pc [.ref o, .int p0, .int p1] (CP D Y Z [(o, .inr (10, (dsF b))), ((b 0), .inr (6, (skF b)))] sz)) (QG (S := Int32) (fun r => some (.int r)) (fun r => r = sp_nights p0 p1) (fun u => CB D ((fun _ => []) u) (va_A [(o, .inr (10, (dsF b))), ((b 0), .inr (6, (skF b)))] sz)) (va_A [(o, .inr (10, (dsF b))), ((b 0), .inr (6, (skF b)))] sz)) 0 0 (va_A [(o, .inr (10, (dsF b))), ((b 0), .inr (6, (skF b)))] sz) := by
  refine Met.ofW (cc := cX10_nights) (maxL := 10) (ret := (some .int)) (by decide) rfl ?_
  intro p e s m args below meth c s₁ B hml hv
  obtain ⟨rfl, hsz, hP, hKN, hD0⟩ := hv
  have hx := B.exec
  have hb := B.bytes
  have hr := B.returns
  have hts := atoms_spec (ws := .code yX10_nights cX10_nights 10 (some .int) :: GW) B.pre
  have hg : ∀ w ∈ GW, w.before _ s = true := fun w h => hts w (List.mem_cons_of_mem _ h)
  have hown : s.vm.findClass RX10 = some m.cls := findClass_of_methodNamed B.named
  have hlocks := B.notSynchronized
  subst hsz
  have hD := hD0.self (sz := s.heap.size)
  generalize hAe : va_A [(o, .inr (10, (dsF b))), ((b 0), .inr (6, (skF b)))] s.heap.size = A at hD ⊢
  have hA : ∀ q : Nat, s.heap.size ≤ q → A q := fun q h => by rw [← hAe]; exact Or.inr h
  have hl := lv_entry ([.ref o, .int p0, .int p1]) (n := 10) (Nat.le_of_ble_eq_true rfl)
  rw [lg_entry_eq]
  generalize (lg_sl ([.ref o, .int p0, .int p1]) ++ List.replicate (10 - (lg_sl ([.ref o, .int p0, .int p1])).length) Slot.unset).toArray = ls at hl ⊢
  have hl : lv_has ls 10 [(0, .ref o), (1, .int p0), (2, .int p1)] := hl
  refine w_start (A0 := A) hP (fun H locs hP hS => ?_)
  refine lv_iload_n hx hb dX10_nights_0 rfl (lv_at hl 1 rfl) ?_
  refine lv_iconst (v := 0) hx hb dX10_nights_1 (by decide) ?_
  refine lv_sipush (v := 9999) hx hb dX10_nights_2 (by decide) ?_
  refine cg0 (rn_S (As := [.int p0, .int 0, .int 9999]) (rest := []) (c_isWithin l D Y Z H.size p0 0 9999 (0) (9999) (by decide) (by decide)) ⟨hx, hb, hml, hown, hg⟩ lk_X10_100 ⟨CP.blind, CP.at nilP hKN (nilD (A := fun _ => True))⟩ ⟨⟨rfl, rfl⟩, ⟨Nat.le_of_ble_eq_true rfl, Nat.le_of_ble_eq_true rfl⟩, ⟨Nat.le_of_ble_eq_true rfl, Nat.le_of_ble_eq_true rfl⟩⟩ hl.1 rfl (Nat.le_of_ble_eq_true rfl) dX10_nights_5) hP hS hA (fun u1 H locs w2 hP hS => ?_)
  rcases w2 with ⟨w2, rfl⟩ | ⟨w2, rfl⟩
  · skip
    refine W.eq (g2 := F0 m 8 ls [.int 1]) rfl ?_
    refine lv_if_eq (tgt := 20) hx hb dX10_nights_8 (by decide) (fun c3 => ?_) (fun c3 => ?_)
    · exact absurd c3 (by decide)
    refine lv_iload_n hx hb dX10_nights_11 rfl (lv_at hl 2 rfl) ?_
    refine lv_iconst (v := 0) hx hb dX10_nights_12 (by decide) ?_
    refine lv_iconst (v := 1) hx hb dX10_nights_13 (by decide) ?_
    refine cg0 (rn_S (As := [.int p1, .int 0, .int 1]) (rest := []) (c_isWithin l D Y Z H.size p1 0 1 (0) (1) (by decide) (by decide)) ⟨hx, hb, hml, hown, hg⟩ lk_X10_100 ⟨CP.blind, CP.at nilP hKN (nilD (A := fun _ => True))⟩ ⟨⟨rfl, rfl⟩, ⟨Nat.le_of_ble_eq_true rfl, Nat.le_of_ble_eq_true rfl⟩, ⟨Nat.le_of_ble_eq_true rfl, Nat.le_of_ble_eq_true rfl⟩⟩ hl.1 rfl (Nat.le_of_ble_eq_true rfl) dX10_nights_14) hP hS hA (fun u4 H locs w5 hP hS => ?_)
    rcases w5 with ⟨w5, rfl⟩ | ⟨w5, rfl⟩
    · skip
      refine W.eq (g2 := F0 m 17 ls [.int 1]) rfl ?_
      refine lv_if_ne (tgt := 22) hx hb dX10_nights_17 (by decide) (fun c6 => ?_) (fun c6 => ?_)
      rotate_left
      · exact absurd c6 (by decide)
      refine lv_iconst (v := 0) hx hb dX10_nights_22 (by decide) ?_
      refine lv_istore_n (lv' := [(3, .int 0), (0, .ref o), (1, .int p0), (2, .int p1)]) hx hb dX10_nights_23 rfl hl (by decide) rfl (fun ls hl => ?_)
      refine lv_iconst (v := 0) hx hb dX10_nights_24 (by decide) ?_
      refine lv_istore (lv' := [(4, .int 0), (3, .int 0), (0, .ref o), (1, .int p0), (2, .int p1)]) hx hb dX10_nights_25 hl (by decide) rfl (fun ls hl => ?_)
      refine lv_iconst (v := 0) hx hb dX10_nights_27 (by decide) ?_
      refine lv_istore (lv' := [(5, .int 0), (4, .int 0), (3, .int 0), (0, .ref o), (1, .int p0), (2, .int p1)]) hx hb dX10_nights_28 hl (by decide) rfl (fun ls hl => ?_)
      refine lv_iconst (v := 0) hx hb dX10_nights_30 (by decide) ?_
      refine lv_istore (lv' := [(6, .int 0), (5, .int 0), (4, .int 0), (3, .int 0), (0, .ref o), (1, .int p0), (2, .int p1)]) hx hb dX10_nights_31 hl (by decide) rfl (fun ls hl => ?_)
      refine lv_iconst (v := 0) hx hb dX10_nights_33 (by decide) ?_
      refine lv_istore (lv' := [(7, .int 0), (6, .int 0), (5, .int 0), (4, .int 0), (3, .int 0), (0, .ref o), (1, .int p0), (2, .int p1)]) hx hb dX10_nights_34 hl (by decide) rfl (fun ls hl => ?_)
      refine lv_iconst (v := 1) hx hb dX10_nights_36 (by decide) ?_
      refine lv_istore (lv' := [(8, .int 1), (7, .int 0), (6, .int 0), (5, .int 0), (4, .int 0), (3, .int 0), (0, .ref o), (1, .int p0), (2, .int p1)]) hx hb dX10_nights_37 hl (by decide) rfl (fun ls hl => ?_)
      refine lv_iload hx hb dX10_nights_39 (lv_at hl 0 rfl) ?_
      refine lv_iconst (v := 1) hx hb dX10_nights_41 (by decide) ?_
      refine lv_aload_n hx hb dX10_nights_42 rfl (lv_at hl 6 rfl) ?_
      refine va_get (D := D) (ci := 10) (v := .ref (b 0)) (C := RX10) (T := TX10) (N := 20) hx hb hg inGX10 hown hKN.1 hP 0 rfl rfl 0 (by decide) (hg _ kw_349) (fun _ h9 => h9) rfl dX10_nights_43 ?_
      refine va_getN (D := D) (ci := 6) (v := .int 0) (C := RX6) (T := TX6) (N := 13) hx hb hg inGX6 hown hKN.1 hP 1 rfl rfl 4 (by decide) (va_Nw.use rfl (hKN.2.1 _ kn_48 rfl)) (fun _ h9 => h9) rfl dX10_nights_46 ?_
      refine lv_ishl hx hb dX10_nights_49 ?_
      refine lv_topi (fun z7 ez7 => ?_)
      obtain rfl : z7 = 1 := ez7.trans (by decide)
      refine lv_icmp_ge (tgt := 151) hx hb dX10_nights_50 (by decide) (fun c8 => ?_) (fun c8 => ?_)
      rotate_left
      · exact absurd c8 (by decide)
      refine lv_iload_n hx hb dX10_nights_151 rfl (lv_at hl 8 rfl) ?_
      refine lv_if_ne (tgt := 159) hx hb dX10_nights_152 (by decide) (fun c9 => ?_) (fun c9 => ?_)
      · skip
        have c9 := i_ne (Eq.refl (p1).toInt) (show (0 : Int32).toInt = 0 by decide) c9
        refine lv_iload hx hb dX10_nights_159 (lv_at hl 4 rfl) ?_
        refine W.widen (k := 0) (n := 0) (Nat.le_of_ble_eq_true rfl) (Nat.le_of_ble_eq_true rfl) ?_
        exact W.iret (v := 0) hx hb hr (fun t ht hW => ⟨⟨0, rfl, (by first | decide | (unfold sp_nights; split <;> first | rfl | exact i_is (X := 0) (by omega) (by decide) | (exfalso; omega))), CB.nil⟩, hS.F ht⟩) hS.2.2 dX10_nights_161
      · skip
        have c9 := i_eq (Eq.refl (p1).toInt) (show (0 : Int32).toInt = 0 by decide) c9
        refine lv_iload_n hx hb dX10_nights_155 rfl (lv_at hl 5 rfl) ?_
        refine lv_goto (tgt := 161) hx hb dX10_nights_156 (by decide) ?_
        refine W.widen (k := 0) (n := 0) (Nat.le_of_ble_eq_true rfl) (Nat.le_of_ble_eq_true rfl) ?_
        exact W.iret (v := 0) hx hb hr (fun t ht hW => ⟨⟨0, rfl, (by first | decide | (unfold sp_nights; split <;> first | rfl | exact i_is (X := 0) (by omega) (by decide) | (exfalso; omega))), CB.nil⟩, hS.F ht⟩) hS.2.2 dX10_nights_161
    · skip
      refine W.eq (g2 := F0 m 17 ls [.int 0]) rfl ?_
      refine lv_if_ne (tgt := 22) hx hb dX10_nights_17 (by decide) (fun c10 => ?_) (fun c10 => ?_)
      · exact absurd c10 (by decide)
      refine lv_iconst (v := (-1)) hx hb dX10_nights_20 (by decide) ?_
      refine W.widen (k := 0) (n := 0) (Nat.le_of_ble_eq_true rfl) (Nat.le_of_ble_eq_true rfl) ?_
      exact W.iret (v := (-1)) hx hb hr (fun t ht hW => ⟨⟨(-1), rfl, (by first | decide | (unfold sp_nights; split <;> first | rfl | exact i_is (X := 0) (by omega) (by decide) | (exfalso; omega))), CB.nil⟩, hS.F ht⟩) hS.2.2 dX10_nights_21
  · skip
    refine W.eq (g2 := F0 m 8 ls [.int 0]) rfl ?_
    refine lv_if_eq (tgt := 20) hx hb dX10_nights_8 (by decide) (fun c11 => ?_) (fun c11 => ?_)
    rotate_left
    · exact absurd c11 (by decide)
    refine lv_iconst (v := (-1)) hx hb dX10_nights_20 (by decide) ?_
    refine W.widen (k := 0) (n := 0) (Nat.le_of_ble_eq_true rfl) (Nat.le_of_ble_eq_true rfl) ?_
    exact W.iret (v := (-1)) hx hb hr (fun t ht hW => ⟨⟨(-1), rfl, (by first | decide | (unfold sp_nights; split <;> first | rfl | exact i_is (X := 0) (by omega) (by decide) | (exfalso; omega))), CB.nil⟩, hS.F ht⟩) hS.2.2 dX10_nights_21
set_option maxHeartbeats 4000000 in
set_option maxRecDepth 100000 in
theorem y_nights (l : Launch) (D : va_G) (Y : Nat → ClassId) (Z : Nat → Nat) (sz : Nat) (o : Nat) (a : Nat → Nat) (p0 p1 : Int32) : Met l yX11_nights (.code yX11_nights cX11_nights 10 (some .int) :: GW) ({ frames := 1, cells := 0, slots := 0, locals := 25 }) (va_Pc [.ref o, .int p0, .int p1] (CP D Y Z [(o, .inr (11, (moF a))), ((a 0), .inl (Y 0, 7533, .inl tolF))] sz)) (QG (S := Int32) (fun r => some (.int r)) (fun r => r = sp_nights p0 p1) (fun u => CB D ((fun _ => []) u) (va_A [(o, .inr (11, (moF a))), ((a 0), .inl (Y 0, 7533, .inl tolF))] sz)) (va_A [(o, .inr (11, (moF a))), ((a 0), .inl (Y 0, 7533, .inl tolF))] sz)) 0 0 (va_A [(o, .inr (11, (moF a))), ((a 0), .inl (Y 0, 7533, .inl tolF))] sz) := by
  refine Met.ofW (cc := cX11_nights) (maxL := 10) (ret := (some .int)) (by decide) rfl ?_
  intro p e s m args below meth c s₁ B hml hv
  obtain ⟨rfl, hsz, hP, hKN, hD0⟩ := hv
  have hx := B.exec
  have hb := B.bytes
  have hr := B.returns
  have hts := atoms_spec (ws := .code yX11_nights cX11_nights 10 (some .int) :: GW) B.pre
  have hg : ∀ w ∈ GW, w.before _ s = true := fun w h => hts w (List.mem_cons_of_mem _ h)
  have hown : s.vm.findClass RX11 = some m.cls := findClass_of_methodNamed B.named
  have hlocks := B.notSynchronized
  subst hsz
  have hD := hD0.self (sz := s.heap.size)
  generalize hAe : va_A [(o, .inr (11, (moF a))), ((a 0), .inl (Y 0, 7533, .inl tolF))] s.heap.size = A at hD ⊢
  have hA : ∀ q : Nat, s.heap.size ≤ q → A q := fun q h => by rw [← hAe]; exact Or.inr h
  have hl := lv_entry ([.ref o, .int p0, .int p1]) (n := 10) (Nat.le_of_ble_eq_true rfl)
  rw [lg_entry_eq]
  generalize (lg_sl ([.ref o, .int p0, .int p1]) ++ List.replicate (10 - (lg_sl ([.ref o, .int p0, .int p1])).length) Slot.unset).toArray = ls at hl ⊢
  have hl : lv_has ls 10 [(0, .ref o), (1, .int p0), (2, .int p1)] := hl
  refine w_start (A0 := A) hP (fun H locs hP hS => ?_)
  refine lv_iload_n hx hb dX11_nights_0 rfl (lv_at hl 1 rfl) ?_
  refine lv_i2l (v := p0.toInt64) hx hb dX11_nights_1 (rfl) ?_
  refine lv_lconst (v := 0) hx hb dX11_nights_2 (by decide) ?_
  refine lv_ldc2 (v := 9999) hx hb hown (hg _ kw_1899) dX11_nights_3 ?_
  refine cg0 (rn_S (As := [.long p0.toInt64, .long 0, .long 9999]) (rest := []) (c_in l D Y Z H.size p0.toInt64 0 9999 (p0).toInt (0) (9999) (Int32.toInt_toInt64 _) (by decide) (by decide) ) ⟨hx, hb, hml, hown, hg⟩ lk_X11_99 ⟨CP.blind, CP.at nilP hKN (nilD (A := fun _ => True))⟩ ⟨⟨rfl, rfl⟩, ⟨Nat.le_of_ble_eq_true rfl, Nat.le_of_ble_eq_true rfl⟩, ⟨Nat.le_of_ble_eq_true rfl, Nat.le_of_ble_eq_true rfl⟩⟩ hl.1 rfl (Nat.le_of_ble_eq_true rfl) dX11_nights_6) hP hS hA (fun u1 H locs w2 hP hS => ?_)
  rcases w2 with ⟨w2, rfl⟩ | ⟨w2, rfl⟩
  · skip
    refine W.eq (g2 := F0 m 9 ls [.int 1]) rfl ?_
    refine lv_if_eq (tgt := 22) hx hb dX11_nights_9 (by decide) (fun c3 => ?_) (fun c3 => ?_)
    · exact absurd c3 (by decide)
    refine lv_iload_n hx hb dX11_nights_12 rfl (lv_at hl 2 rfl) ?_
    refine lv_i2l (v := p1.toInt64) hx hb dX11_nights_13 (rfl) ?_
    refine lv_lconst (v := 0) hx hb dX11_nights_14 (by decide) ?_
    refine lv_lconst (v := 1) hx hb dX11_nights_15 (by decide) ?_
    refine cg0 (rn_S (As := [.long p1.toInt64, .long 0, .long 1]) (rest := []) (c_in l D Y Z H.size p1.toInt64 0 1 (p1).toInt (0) (1) (Int32.toInt_toInt64 _) (by decide) (by decide) ) ⟨hx, hb, hml, hown, hg⟩ lk_X11_99 ⟨CP.blind, CP.at nilP hKN (nilD (A := fun _ => True))⟩ ⟨⟨rfl, rfl⟩, ⟨Nat.le_of_ble_eq_true rfl, Nat.le_of_ble_eq_true rfl⟩, ⟨Nat.le_of_ble_eq_true rfl, Nat.le_of_ble_eq_true rfl⟩⟩ hl.1 rfl (Nat.le_of_ble_eq_true rfl) dX11_nights_16) hP hS hA (fun u4 H locs w5 hP hS => ?_)
    rcases w5 with ⟨w5, rfl⟩ | ⟨w5, rfl⟩
    · skip
      refine W.eq (g2 := F0 m 19 ls [.int 1]) rfl ?_
      refine lv_if_ne (tgt := 24) hx hb dX11_nights_19 (by decide) (fun c6 => ?_) (fun c6 => ?_)
      rotate_left
      · exact absurd c6 (by decide)
      refine lv_iconst (v := 0) hx hb dX11_nights_24 (by decide) ?_
      refine lv_istore_n (lv' := [(3, .int 0), (0, .ref o), (1, .int p0), (2, .int p1)]) hx hb dX11_nights_25 rfl hl (by decide) rfl (fun ls hl => ?_)
      refine lv_iconst (v := 0) hx hb dX11_nights_26 (by decide) ?_
      refine lv_istore (lv' := [(4, .int 0), (3, .int 0), (0, .ref o), (1, .int p0), (2, .int p1)]) hx hb dX11_nights_27 hl (by decide) rfl (fun ls hl => ?_)
      refine lv_iconst (v := 0) hx hb dX11_nights_29 (by decide) ?_
      refine lv_istore (lv' := [(5, .int 0), (4, .int 0), (3, .int 0), (0, .ref o), (1, .int p0), (2, .int p1)]) hx hb dX11_nights_30 hl (by decide) rfl (fun ls hl => ?_)
      refine lv_iconst (v := 1) hx hb dX11_nights_32 (by decide) ?_
      refine lv_istore (lv' := [(6, .int 1), (5, .int 0), (4, .int 0), (3, .int 0), (0, .ref o), (1, .int p0), (2, .int p1)]) hx hb dX11_nights_33 hl (by decide) rfl (fun ls hl => ?_)
      refine lv_iload hx hb dX11_nights_35 (lv_at hl 0 rfl) ?_
      refine lv_iconst (v := 1) hx hb dX11_nights_37 (by decide) ?_
      refine lv_aload_n hx hb dX11_nights_38 rfl (lv_at hl 4 rfl) ?_
      refine va_get (D := D) (ci := 11) (v := .ref (a 0)) (C := RX11) (T := TX11) (N := 49) hx hb hg inGX11 hown hKN.1 hP 0 rfl rfl 0 (by decide) (hg _ kw_1208) (fun _ h9 => h9) rfl dX11_nights_39 ?_
      refine lv_iconst (v := 2) hx hb dX11_nights_42 (by decide) ?_
      refine va_iald hx hb hKN.1 hP 1 0 rfl rfl (show ¬ ((2 : Int32) < 0 ∨ 7533 ≤ (2 : Int32).toNatClampNeg) by decide) dX11_nights_43 ?_
      refine lv_topi (fun z7 ez7 => ?_)
      obtain rfl : z7 = 0 := ez7.trans (by decide)
      refine lv_ishl hx hb dX11_nights_44 ?_
      refine lv_topi (fun z8 ez8 => ?_)
      obtain rfl : z8 = 1 := ez8.trans (by decide)
      refine lv_icmp_ge (tgt := 177) hx hb dX11_nights_45 (by decide) (fun c9 => ?_) (fun c9 => ?_)
      rotate_left
      · exact absurd c9 (by decide)
      refine lv_iload_n hx hb dX11_nights_177 rfl (lv_at hl 6 rfl) ?_
      refine lv_if_ne (tgt := 185) hx hb dX11_nights_178 (by decide) (fun c10 => ?_) (fun c10 => ?_)
      · skip
        have c10 := i_ne (Eq.refl (p1).toInt) (show (0 : Int32).toInt = 0 by decide) c10
        refine lv_iload hx hb dX11_nights_185 (lv_at hl 2 rfl) ?_
        refine W.widen (k := 0) (n := 0) (Nat.le_of_ble_eq_true rfl) (Nat.le_of_ble_eq_true rfl) ?_
        exact W.iret (v := 0) hx hb hr (fun t ht hW => ⟨⟨0, rfl, (by first | decide | (unfold sp_nights; split <;> first | rfl | exact i_is (X := 0) (by omega) (by decide) | (exfalso; omega))), CB.nil⟩, hS.F ht⟩) hS.2.2 dX11_nights_187
      · skip
        have c10 := i_eq (Eq.refl (p1).toInt) (show (0 : Int32).toInt = 0 by decide) c10
        refine lv_iload_n hx hb dX11_nights_181 rfl (lv_at hl 3 rfl) ?_
        refine lv_goto (tgt := 187) hx hb dX11_nights_182 (by decide) ?_
        refine W.widen (k := 0) (n := 0) (Nat.le_of_ble_eq_true rfl) (Nat.le_of_ble_eq_true rfl) ?_
        exact W.iret (v := 0) hx hb hr (fun t ht hW => ⟨⟨0, rfl, (by first | decide | (unfold sp_nights; split <;> first | rfl | exact i_is (X := 0) (by omega) (by decide) | (exfalso; omega))), CB.nil⟩, hS.F ht⟩) hS.2.2 dX11_nights_187
    · skip
      refine W.eq (g2 := F0 m 19 ls [.int 0]) rfl ?_
      refine lv_if_ne (tgt := 24) hx hb dX11_nights_19 (by decide) (fun c11 => ?_) (fun c11 => ?_)
      · exact absurd c11 (by decide)
      refine lv_iconst (v := (-1)) hx hb dX11_nights_22 (by decide) ?_
      refine W.widen (k := 0) (n := 0) (Nat.le_of_ble_eq_true rfl) (Nat.le_of_ble_eq_true rfl) ?_
      exact W.iret (v := (-1)) hx hb hr (fun t ht hW => ⟨⟨(-1), rfl, (by first | decide | (unfold sp_nights; split <;> first | rfl | exact i_is (X := 0) (by omega) (by decide) | (exfalso; omega))), CB.nil⟩, hS.F ht⟩) hS.2.2 dX11_nights_23
  · skip
    refine W.eq (g2 := F0 m 9 ls [.int 0]) rfl ?_
    refine lv_if_eq (tgt := 22) hx hb dX11_nights_9 (by decide) (fun c12 => ?_) (fun c12 => ?_)
    rotate_left
    · exact absurd c12 (by decide)
    refine lv_iconst (v := (-1)) hx hb dX11_nights_22 (by decide) ?_
    refine W.widen (k := 0) (n := 0) (Nat.le_of_ble_eq_true rfl) (Nat.le_of_ble_eq_true rfl) ?_
    exact W.iret (v := (-1)) hx hb hr (fun t ht hW => ⟨⟨(-1), rfl, (by first | decide | (unfold sp_nights; split <;> first | rfl | exact i_is (X := 0) (by omega) (by decide) | (exfalso; omega))), CB.nil⟩, hS.F ht⟩) hS.2.2 dX11_nights_23
set_option maxHeartbeats 4000000 in
set_option maxRecDepth 100000 in
theorem x_count (l : Launch) (D : va_G) (Y : Nat → ClassId) (Z : Nat → Nat) (sz : Nat) (o : Nat) (b : Nat → Nat) (p0 : Int32) : Met l yX10_count (.code yX10_count cX10_count 2 (some .int) :: GW) ({ frames := 1, cells := 0, slots := 0, locals := 23 }) (va_Pc [.ref o, .int p0] (CP D Y Z [(o, .inr (10, (dsF b))), ((b 0), .inr (6, (skF b)))] sz)) (QG (S := Int32) (fun r => some (.int r)) (fun r => r = sp_count p0) (fun u => CB D ((fun _ => []) u) (va_A [(o, .inr (10, (dsF b))), ((b 0), .inr (6, (skF b)))] sz)) (va_A [(o, .inr (10, (dsF b))), ((b 0), .inr (6, (skF b)))] sz)) 0 0 (va_A [(o, .inr (10, (dsF b))), ((b 0), .inr (6, (skF b)))] sz) := by
  refine Met.ofW (cc := cX10_count) (maxL := 2) (ret := (some .int)) (by decide) rfl ?_
  intro p e s m args below meth c s₁ B hml hv
  obtain ⟨rfl, hsz, hP, hKN, hD0⟩ := hv
  have hx := B.exec
  have hb := B.bytes
  have hr := B.returns
  have hts := atoms_spec (ws := .code yX10_count cX10_count 2 (some .int) :: GW) B.pre
  have hg : ∀ w ∈ GW, w.before _ s = true := fun w h => hts w (List.mem_cons_of_mem _ h)
  have hown : s.vm.findClass RX10 = some m.cls := findClass_of_methodNamed B.named
  have hlocks := B.notSynchronized
  subst hsz
  have hD := hD0.self (sz := s.heap.size)
  generalize hAe : va_A [(o, .inr (10, (dsF b))), ((b 0), .inr (6, (skF b)))] s.heap.size = A at hD ⊢
  have hA : ∀ q : Nat, s.heap.size ≤ q → A q := fun q h => by rw [← hAe]; exact Or.inr h
  have hl := lv_entry ([.ref o, .int p0]) (n := 2) (Nat.le_of_ble_eq_true rfl)
  rw [lg_entry_eq]
  generalize (lg_sl ([.ref o, .int p0]) ++ List.replicate (2 - (lg_sl ([.ref o, .int p0])).length) Slot.unset).toArray = ls at hl ⊢
  have hl : lv_has ls 2 [(0, .ref o), (1, .int p0)] := hl
  refine w_start (A0 := A) hP (fun H locs hP hS => ?_)
  refine lv_iload_n hx hb dX10_count_0 rfl (lv_at hl 1 rfl) ?_
  rcases (show p0.toInt < 0 ∨ 7 < p0.toInt ∨ p0.toInt = 0 ∨ p0.toInt = 1 ∨ p0.toInt = 2 ∨ p0.toInt = 3 ∨ p0.toInt = 4 ∨ p0.toInt = 5 ∨ p0.toInt = 6 ∨ p0.toInt = 7 by omega) with c1 | c1 | c1 | c1 | c1 | c1 | c1 | c1 | c1 | c1
  · refine lv_tableOut (tgt := 103) hx hb dX10_count_1 (Or.inl c1) (by decide) ?_
    refine lv_iconst (v := (-1)) hx hb dX10_count_103 (by decide) ?_
    refine W.widen (k := 0) (n := 0) (Nat.le_of_ble_eq_true rfl) (Nat.le_of_ble_eq_true rfl) ?_
    exact W.iret (v := (-1)) hx hb hr (fun t ht hW => ⟨⟨(-1), rfl, (by first | decide | (unfold sp_count; split <;> first | rfl | exact i_is (X := 0) (by omega) (by decide) | (exfalso; omega))), CB.nil⟩, hS.F ht⟩) hS.2.2 dX10_count_104
  · refine lv_tableOut (tgt := 103) hx hb dX10_count_1 (Or.inr c1) (by decide) ?_
    refine lv_iconst (v := (-1)) hx hb dX10_count_103 (by decide) ?_
    refine W.widen (k := 0) (n := 0) (Nat.le_of_ble_eq_true rfl) (Nat.le_of_ble_eq_true rfl) ?_
    exact W.iret (v := (-1)) hx hb hr (fun t ht hW => ⟨⟨(-1), rfl, (by first | decide | (unfold sp_count; split <;> first | rfl | exact i_is (X := 0) (by omega) (by decide) | (exfalso; omega))), CB.nil⟩, hS.F ht⟩) hS.2.2 dX10_count_104
  · refine lv_tableIn (off := 47) (tgt := 48) hx hb dX10_count_1 (by rw [c1]; decide) (by rw [c1]; decide) (by rw [c1]; rfl) (by decide) ?_
    refine lv_aload_n hx hb dX10_count_48 rfl (lv_at hl 0 rfl) ?_
    refine va_get (D := D) (ci := 10) (v := .ref (b 0)) (C := RX10) (T := TX10) (N := 20) hx hb hg inGX10 hown hKN.1 hP 0 rfl rfl 0 (by decide) (hg _ kw_349) (fun _ h9 => h9) rfl dX10_count_49 ?_
    refine va_getN (D := D) (ci := 6) (v := .int 0) (C := RX6) (T := TX6) (N := 13) hx hb hg inGX6 hown hKN.1 hP 1 rfl rfl 0 (by decide) (va_Nw.use rfl (hKN.2.1 _ kn_41 rfl)) (fun _ h9 => h9) rfl dX10_count_52 ?_
    refine W.widen (k := 0) (n := 0) (Nat.le_of_ble_eq_true rfl) (Nat.le_of_ble_eq_true rfl) ?_
    exact W.iret (v := 0) hx hb hr (fun t ht hW => ⟨⟨0, rfl, (by first | decide | (unfold sp_count; split <;> first | rfl | exact i_is (X := 0) (by omega) (by decide) | (exfalso; omega))), CB.nil⟩, hS.F ht⟩) hS.2.2 dX10_count_55
  · refine lv_tableIn (off := 55) (tgt := 56) hx hb dX10_count_1 (by rw [c1]; decide) (by rw [c1]; decide) (by rw [c1]; rfl) (by decide) ?_
    refine lv_aload_n hx hb dX10_count_56 rfl (lv_at hl 0 rfl) ?_
    refine va_get (D := D) (ci := 10) (v := .ref (b 0)) (C := RX10) (T := TX10) (N := 20) hx hb hg inGX10 hown hKN.1 hP 0 rfl rfl 0 (by decide) (hg _ kw_349) (fun _ h9 => h9) rfl dX10_count_57 ?_
    refine va_getN (D := D) (ci := 6) (v := .int 0) (C := RX6) (T := TX6) (N := 13) hx hb hg inGX6 hown hKN.1 hP 1 rfl rfl 2 (by decide) (va_Nw.use rfl (hKN.2.1 _ kn_44 rfl)) (fun _ h9 => h9) rfl dX10_count_60 ?_
    refine W.widen (k := 0) (n := 0) (Nat.le_of_ble_eq_true rfl) (Nat.le_of_ble_eq_true rfl) ?_
    exact W.iret (v := 0) hx hb hr (fun t ht hW => ⟨⟨0, rfl, (by first | decide | (unfold sp_count; split <;> first | rfl | exact i_is (X := 0) (by omega) (by decide) | (exfalso; omega))), CB.nil⟩, hS.F ht⟩) hS.2.2 dX10_count_63
  · refine lv_tableIn (off := 63) (tgt := 64) hx hb dX10_count_1 (by rw [c1]; decide) (by rw [c1]; decide) (by rw [c1]; rfl) (by decide) ?_
    refine lv_aload_n hx hb dX10_count_64 rfl (lv_at hl 0 rfl) ?_
    refine va_get (D := D) (ci := 10) (v := .int 0) (C := RX10) (T := TX10) (N := 20) hx hb hg inGX10 hown hKN.1 hP 0 rfl rfl 5 (by decide) (hg _ kw_354) (fun _ h9 => h9) rfl dX10_count_65 ?_
    refine W.widen (k := 0) (n := 0) (Nat.le_of_ble_eq_true rfl) (Nat.le_of_ble_eq_true rfl) ?_
    exact W.iret (v := 0) hx hb hr (fun t ht hW => ⟨⟨0, rfl, (by first | decide | (unfold sp_count; split <;> first | rfl | exact i_is (X := 0) (by omega) (by decide) | (exfalso; omega))), CB.nil⟩, hS.F ht⟩) hS.2.2 dX10_count_68
  · refine lv_tableIn (off := 68) (tgt := 69) hx hb dX10_count_1 (by rw [c1]; decide) (by rw [c1]; decide) (by rw [c1]; rfl) (by decide) ?_
    refine lv_aload_n hx hb dX10_count_69 rfl (lv_at hl 0 rfl) ?_
    refine va_get (D := D) (ci := 10) (v := .int 0) (C := RX10) (T := TX10) (N := 20) hx hb hg inGX10 hown hKN.1 hP 0 rfl rfl 6 (by decide) (hg _ kw_355) (fun _ h9 => h9) rfl dX10_count_70 ?_
    refine W.widen (k := 0) (n := 0) (Nat.le_of_ble_eq_true rfl) (Nat.le_of_ble_eq_true rfl) ?_
    exact W.iret (v := 0) hx hb hr (fun t ht hW => ⟨⟨0, rfl, (by first | decide | (unfold sp_count; split <;> first | rfl | exact i_is (X := 0) (by omega) (by decide) | (exfalso; omega))), CB.nil⟩, hS.F ht⟩) hS.2.2 dX10_count_73
  · refine lv_tableIn (off := 73) (tgt := 74) hx hb dX10_count_1 (by rw [c1]; decide) (by rw [c1]; decide) (by rw [c1]; rfl) (by decide) ?_
    refine lv_aload_n hx hb dX10_count_74 rfl (lv_at hl 0 rfl) ?_
    refine va_get (D := D) (ci := 10) (v := .int 0) (C := RX10) (T := TX10) (N := 20) hx hb hg inGX10 hown hKN.1 hP 0 rfl rfl 7 (by decide) (hg _ kw_356) (fun _ h9 => h9) rfl dX10_count_75 ?_
    refine W.widen (k := 0) (n := 0) (Nat.le_of_ble_eq_true rfl) (Nat.le_of_ble_eq_true rfl) ?_
    exact W.iret (v := 0) hx hb hr (fun t ht hW => ⟨⟨0, rfl, (by first | decide | (unfold sp_count; split <;> first | rfl | exact i_is (X := 0) (by omega) (by decide) | (exfalso; omega))), CB.nil⟩, hS.F ht⟩) hS.2.2 dX10_count_78
  · refine lv_tableIn (off := 78) (tgt := 79) hx hb dX10_count_1 (by rw [c1]; decide) (by rw [c1]; decide) (by rw [c1]; rfl) (by decide) ?_
    refine lv_aload_n hx hb dX10_count_79 rfl (lv_at hl 0 rfl) ?_
    refine va_get (D := D) (ci := 10) (v := .ref (b 0)) (C := RX10) (T := TX10) (N := 20) hx hb hg inGX10 hown hKN.1 hP 0 rfl rfl 0 (by decide) (hg _ kw_349) (fun _ h9 => h9) rfl dX10_count_80 ?_
    refine va_getN (D := D) (ci := 6) (v := .int 0) (C := RX6) (T := TX6) (N := 13) hx hb hg inGX6 hown hKN.1 hP 1 rfl rfl 4 (by decide) (va_Nw.use rfl (hKN.2.1 _ kn_48 rfl)) (fun _ h9 => h9) rfl dX10_count_83 ?_
    refine W.widen (k := 0) (n := 0) (Nat.le_of_ble_eq_true rfl) (Nat.le_of_ble_eq_true rfl) ?_
    exact W.iret (v := 0) hx hb hr (fun t ht hW => ⟨⟨0, rfl, (by first | decide | (unfold sp_count; split <;> first | rfl | exact i_is (X := 0) (by omega) (by decide) | (exfalso; omega))), CB.nil⟩, hS.F ht⟩) hS.2.2 dX10_count_86
  · refine lv_tableIn (off := 86) (tgt := 87) hx hb dX10_count_1 (by rw [c1]; decide) (by rw [c1]; decide) (by rw [c1]; rfl) (by decide) ?_
    refine lv_aload_n hx hb dX10_count_87 rfl (lv_at hl 0 rfl) ?_
    refine va_get (D := D) (ci := 10) (v := .ref (b 0)) (C := RX10) (T := TX10) (N := 20) hx hb hg inGX10 hown hKN.1 hP 0 rfl rfl 0 (by decide) (hg _ kw_349) (fun _ h9 => h9) rfl dX10_count_88 ?_
    refine cg (wc := [((b 0), .inr (6, (skF b)))]) (wr := [(o, .inr (10, (dsF b)))]) [1] [0] (rn_NV (As := []) (rest := []) (b := (b 0)) (c_numbers l D Y Z H.size (b 0) b) ⟨hx, hb, hml, hown, hg⟩ hKN lk_X10_426 ⟨CP.blind, va_recv hKN.1 hP (ci := 6) (q0 := 1) rfl rfl, CP.at (hP.sub [1] rfl) hKN (hD.sub [1] (by decide) rfl)⟩ ⟨⟨rfl, rfl⟩, ⟨Nat.le_of_ble_eq_true rfl, Nat.le_of_ble_eq_true rfl⟩, ⟨Nat.le_of_ble_eq_true rfl, Nat.le_of_ble_eq_true rfl⟩⟩ hl.1 rfl (Nat.le_of_ble_eq_true rfl) dX10_count_91) hP hD hS hA rfl rfl (by decide) (by decide) (fun u2 H locs w3 hP hD hS => ?_)
    refine W.eq (g2 := F0 m 94 ls [.int 0]) rfl ?_
    have hP : va_P D vwCl [(o, .inr (10, (dsF b))), ((b 0), .inr (6, (skF b)))] H := hP
    have hD : va_D A [(o, .inr (10, (dsF b))), ((b 0), .inr (6, (skF b)))] := hD
    refine W.widen (k := 0) (n := 0) (Nat.le_of_ble_eq_true rfl) (Nat.le_of_ble_eq_true rfl) ?_
    exact W.iret (v := 0) hx hb hr (fun t ht hW => ⟨⟨0, rfl, (by first | decide | (unfold sp_count; split <;> first | rfl | exact i_is (X := 0) (by omega) (by decide) | (exfalso; omega))), CB.nil⟩, hS.F ht⟩) hS.2.2 dX10_count_94
  · refine lv_tableIn (off := 94) (tgt := 95) hx hb dX10_count_1 (by rw [c1]; decide) (by rw [c1]; decide) (by rw [c1]; rfl) (by decide) ?_
    refine lv_aload_n hx hb dX10_count_95 rfl (lv_at hl 0 rfl) ?_
    refine va_get (D := D) (ci := 10) (v := .ref (b 0)) (C := RX10) (T := TX10) (N := 20) hx hb hg inGX10 hown hKN.1 hP 0 rfl rfl 0 (by decide) (hg _ kw_349) (fun _ h9 => h9) rfl dX10_count_96 ?_
    refine va_getN (D := D) (ci := 6) (v := .int 0) (C := RX6) (T := TX6) (N := 13) hx hb hg inGX6 hown hKN.1 hP 1 rfl rfl 12 (by decide) (va_Nw.use rfl (hKN.2.1 _ kn_68 rfl)) (fun _ h9 => h9) rfl dX10_count_99 ?_
    refine W.widen (k := 0) (n := 0) (Nat.le_of_ble_eq_true rfl) (Nat.le_of_ble_eq_true rfl) ?_
    exact W.iret (v := 0) hx hb hr (fun t ht hW => ⟨⟨0, rfl, (by first | decide | (unfold sp_count; split <;> first | rfl | exact i_is (X := 0) (by omega) (by decide) | (exfalso; omega))), CB.nil⟩, hS.F ht⟩) hS.2.2 dX10_count_102
set_option maxHeartbeats 4000000 in
set_option maxRecDepth 100000 in
theorem y_count (l : Launch) (D : va_G) (Y : Nat → ClassId) (Z : Nat → Nat) (sz : Nat) (o : Nat) (a : Nat → Nat) (p0 : Int32) : Met l yX11_count (.code yX11_count cX11_count 4 (some .int) :: GW) ({ frames := 0, cells := 0, slots := 0, locals := 0 }) (va_Pc [.ref o, .int p0] (CP D Y Z [(o, .inr (11, (moF a))), ((a 0), .inl (Y 0, 7533, .inl tolF)), ((a 3), .inl (Y 0, 3, .inl (fun _ => 0)))] sz)) (QG (S := Int32) (fun r => some (.int r)) (fun r => r = sp_count p0) (fun u => CB D ((fun _ => []) u) (va_A [(o, .inr (11, (moF a))), ((a 0), .inl (Y 0, 7533, .inl tolF)), ((a 3), .inl (Y 0, 3, .inl (fun _ => 0)))] sz)) (va_A [(o, .inr (11, (moF a))), ((a 0), .inl (Y 0, 7533, .inl tolF)), ((a 3), .inl (Y 0, 3, .inl (fun _ => 0)))] sz)) 0 0 (va_A [(o, .inr (11, (moF a))), ((a 0), .inl (Y 0, 7533, .inl tolF)), ((a 3), .inl (Y 0, 3, .inl (fun _ => 0)))] sz) := by
  refine Met.ofW (cc := cX11_count) (maxL := 4) (ret := (some .int)) (by decide) rfl ?_
  intro p e s m args below meth c s₁ B hml hv
  obtain ⟨rfl, hsz, hP, hKN, hD0⟩ := hv
  have hx := B.exec
  have hb := B.bytes
  have hr := B.returns
  have hts := atoms_spec (ws := .code yX11_count cX11_count 4 (some .int) :: GW) B.pre
  have hg : ∀ w ∈ GW, w.before _ s = true := fun w h => hts w (List.mem_cons_of_mem _ h)
  have hown : s.vm.findClass RX11 = some m.cls := findClass_of_methodNamed B.named
  have hlocks := B.notSynchronized
  subst hsz
  have hD := hD0.self (sz := s.heap.size)
  generalize hAe : va_A [(o, .inr (11, (moF a))), ((a 0), .inl (Y 0, 7533, .inl tolF)), ((a 3), .inl (Y 0, 3, .inl (fun _ => 0)))] s.heap.size = A at hD ⊢
  have hA : ∀ q : Nat, s.heap.size ≤ q → A q := fun q h => by rw [← hAe]; exact Or.inr h
  have hl := lv_entry ([.ref o, .int p0]) (n := 4) (Nat.le_of_ble_eq_true rfl)
  rw [lg_entry_eq]
  generalize (lg_sl ([.ref o, .int p0]) ++ List.replicate (4 - (lg_sl ([.ref o, .int p0])).length) Slot.unset).toArray = ls at hl ⊢
  have hl : lv_has ls 4 [(0, .ref o), (1, .int p0)] := hl
  refine w_start (A0 := A) hP (fun H locs hP hS => ?_)
  refine lv_iconst (v := 0) hx hb dX11_count_0 (by decide) ?_
  refine lv_istore_n (lv' := [(2, .int 0), (0, .ref o), (1, .int p0)]) hx hb dX11_count_1 rfl hl (by decide) rfl (fun ls hl => ?_)
  refine lv_iload_n hx hb dX11_count_2 rfl (lv_at hl 2 rfl) ?_
  rcases (show p0.toInt < 0 ∨ 7 < p0.toInt ∨ p0.toInt = 0 ∨ p0.toInt = 1 ∨ p0.toInt = 2 ∨ p0.toInt = 3 ∨ p0.toInt = 4 ∨ p0.toInt = 5 ∨ p0.toInt = 6 ∨ p0.toInt = 7 by omega) with c1 | c1 | c1 | c1 | c1 | c1 | c1 | c1 | c1 | c1
  · refine lv_tableOut (tgt := 142) hx hb dX11_count_3 (Or.inl c1) (by decide) ?_
    refine lv_iconst (v := (-1)) hx hb dX11_count_142 (by decide) ?_
    refine W.widen (k := 0) (n := 0) (Nat.le_of_ble_eq_true rfl) (Nat.le_of_ble_eq_true rfl) ?_
    exact W.iret (v := (-1)) hx hb hr (fun t ht hW => ⟨⟨(-1), rfl, (by first | decide | (unfold sp_count; split <;> first | rfl | exact i_is (X := 0) (by omega) (by decide) | (exfalso; omega))), CB.nil⟩, hS.F ht⟩) hS.2.2 dX11_count_143
  · refine lv_tableOut (tgt := 142) hx hb dX11_count_3 (Or.inr c1) (by decide) ?_
    refine lv_iconst (v := (-1)) hx hb dX11_count_142 (by decide) ?_
    refine W.widen (k := 0) (n := 0) (Nat.le_of_ble_eq_true rfl) (Nat.le_of_ble_eq_true rfl) ?_
    exact W.iret (v := (-1)) hx hb hr (fun t ht hW => ⟨⟨(-1), rfl, (by first | decide | (unfold sp_count; split <;> first | rfl | exact i_is (X := 0) (by omega) (by decide) | (exfalso; omega))), CB.nil⟩, hS.F ht⟩) hS.2.2 dX11_count_143
  · refine lv_tableIn (off := 45) (tgt := 48) hx hb dX11_count_3 (by rw [c1]; decide) (by rw [c1]; decide) (by rw [c1]; rfl) (by decide) ?_
    refine lv_aload_n hx hb dX11_count_48 rfl (lv_at hl 1 rfl) ?_
    refine va_get (D := D) (ci := 11) (v := .ref (a 0)) (C := RX11) (T := TX11) (N := 49) hx hb hg inGX11 hown hKN.1 hP 0 rfl rfl 0 (by decide) (hg _ kw_1208) (fun _ h9 => h9) rfl dX11_count_49 ?_
    refine lv_iconst (v := 0) hx hb dX11_count_52 (by decide) ?_
    refine va_iald hx hb hKN.1 hP 1 0 rfl rfl (show ¬ ((0 : Int32) < 0 ∨ 7533 ≤ (0 : Int32).toNatClampNeg) by decide) dX11_count_53 ?_
    refine lv_topi (fun z2 ez2 => ?_)
    obtain rfl : z2 = 0 := ez2.trans (by decide)
    refine W.widen (k := 0) (n := 0) (Nat.le_of_ble_eq_true rfl) (Nat.le_of_ble_eq_true rfl) ?_
    exact W.iret (v := 0) hx hb hr (fun t ht hW => ⟨⟨0, rfl, (by first | decide | (unfold sp_count; split <;> first | rfl | exact i_is (X := 0) (by omega) (by decide) | (exfalso; omega))), CB.nil⟩, hS.F ht⟩) hS.2.2 dX11_count_54
  · refine lv_tableIn (off := 52) (tgt := 55) hx hb dX11_count_3 (by rw [c1]; decide) (by rw [c1]; decide) (by rw [c1]; rfl) (by decide) ?_
    refine lv_aload_n hx hb dX11_count_55 rfl (lv_at hl 1 rfl) ?_
    refine va_get (D := D) (ci := 11) (v := .ref (a 0)) (C := RX11) (T := TX11) (N := 49) hx hb hg inGX11 hown hKN.1 hP 0 rfl rfl 0 (by decide) (hg _ kw_1208) (fun _ h9 => h9) rfl dX11_count_56 ?_
    refine lv_iconst (v := 1) hx hb dX11_count_59 (by decide) ?_
    refine va_iald hx hb hKN.1 hP 1 0 rfl rfl (show ¬ ((1 : Int32) < 0 ∨ 7533 ≤ (1 : Int32).toNatClampNeg) by decide) dX11_count_60 ?_
    refine lv_topi (fun z3 ez3 => ?_)
    obtain rfl : z3 = 0 := ez3.trans (by decide)
    refine W.widen (k := 0) (n := 0) (Nat.le_of_ble_eq_true rfl) (Nat.le_of_ble_eq_true rfl) ?_
    exact W.iret (v := 0) hx hb hr (fun t ht hW => ⟨⟨0, rfl, (by first | decide | (unfold sp_count; split <;> first | rfl | exact i_is (X := 0) (by omega) (by decide) | (exfalso; omega))), CB.nil⟩, hS.F ht⟩) hS.2.2 dX11_count_61
  · refine lv_tableIn (off := 59) (tgt := 62) hx hb dX11_count_3 (by rw [c1]; decide) (by rw [c1]; decide) (by rw [c1]; rfl) (by decide) ?_
    refine lv_aload_n hx hb dX11_count_62 rfl (lv_at hl 1 rfl) ?_
    refine va_get (D := D) (ci := 11) (v := .ref (a 3)) (C := RX11) (T := TX11) (N := 49) hx hb hg inGX11 hown hKN.1 hP 0 rfl rfl 4 (by decide) (hg _ kw_1212) (fun _ h9 => h9) rfl dX11_count_63 ?_
    refine lv_iconst (v := 0) hx hb dX11_count_66 (by decide) ?_
    refine va_iald hx hb hKN.1 hP 2 0 rfl rfl (show ¬ ((0 : Int32) < 0 ∨ 3 ≤ (0 : Int32).toNatClampNeg) by decide) dX11_count_67 ?_
    refine lv_topi (fun z4 ez4 => ?_)
    obtain rfl : z4 = 0 := ez4.trans (by rfl)
    refine W.widen (k := 0) (n := 0) (Nat.le_of_ble_eq_true rfl) (Nat.le_of_ble_eq_true rfl) ?_
    exact W.iret (v := 0) hx hb hr (fun t ht hW => ⟨⟨0, rfl, (by first | decide | (unfold sp_count; split <;> first | rfl | exact i_is (X := 0) (by omega) (by decide) | (exfalso; omega))), CB.nil⟩, hS.F ht⟩) hS.2.2 dX11_count_68
  · refine lv_tableIn (off := 66) (tgt := 69) hx hb dX11_count_3 (by rw [c1]; decide) (by rw [c1]; decide) (by rw [c1]; rfl) (by decide) ?_
    refine lv_aload_n hx hb dX11_count_69 rfl (lv_at hl 1 rfl) ?_
    refine va_get (D := D) (ci := 11) (v := .ref (a 3)) (C := RX11) (T := TX11) (N := 49) hx hb hg inGX11 hown hKN.1 hP 0 rfl rfl 4 (by decide) (hg _ kw_1212) (fun _ h9 => h9) rfl dX11_count_70 ?_
    refine lv_iconst (v := 1) hx hb dX11_count_73 (by decide) ?_
    refine va_iald hx hb hKN.1 hP 2 0 rfl rfl (show ¬ ((1 : Int32) < 0 ∨ 3 ≤ (1 : Int32).toNatClampNeg) by decide) dX11_count_74 ?_
    refine lv_topi (fun z5 ez5 => ?_)
    obtain rfl : z5 = 0 := ez5.trans (by rfl)
    refine W.widen (k := 0) (n := 0) (Nat.le_of_ble_eq_true rfl) (Nat.le_of_ble_eq_true rfl) ?_
    exact W.iret (v := 0) hx hb hr (fun t ht hW => ⟨⟨0, rfl, (by first | decide | (unfold sp_count; split <;> first | rfl | exact i_is (X := 0) (by omega) (by decide) | (exfalso; omega))), CB.nil⟩, hS.F ht⟩) hS.2.2 dX11_count_75
  · refine lv_tableIn (off := 73) (tgt := 76) hx hb dX11_count_3 (by rw [c1]; decide) (by rw [c1]; decide) (by rw [c1]; rfl) (by decide) ?_
    refine lv_aload_n hx hb dX11_count_76 rfl (lv_at hl 1 rfl) ?_
    refine va_get (D := D) (ci := 11) (v := .ref (a 3)) (C := RX11) (T := TX11) (N := 49) hx hb hg inGX11 hown hKN.1 hP 0 rfl rfl 4 (by decide) (hg _ kw_1212) (fun _ h9 => h9) rfl dX11_count_77 ?_
    refine lv_iconst (v := 2) hx hb dX11_count_80 (by decide) ?_
    refine va_iald hx hb hKN.1 hP 2 0 rfl rfl (show ¬ ((2 : Int32) < 0 ∨ 3 ≤ (2 : Int32).toNatClampNeg) by decide) dX11_count_81 ?_
    refine lv_topi (fun z6 ez6 => ?_)
    obtain rfl : z6 = 0 := ez6.trans (by rfl)
    refine W.widen (k := 0) (n := 0) (Nat.le_of_ble_eq_true rfl) (Nat.le_of_ble_eq_true rfl) ?_
    exact W.iret (v := 0) hx hb hr (fun t ht hW => ⟨⟨0, rfl, (by first | decide | (unfold sp_count; split <;> first | rfl | exact i_is (X := 0) (by omega) (by decide) | (exfalso; omega))), CB.nil⟩, hS.F ht⟩) hS.2.2 dX11_count_82
  · refine lv_tableIn (off := 80) (tgt := 83) hx hb dX11_count_3 (by rw [c1]; decide) (by rw [c1]; decide) (by rw [c1]; rfl) (by decide) ?_
    refine lv_aload_n hx hb dX11_count_83 rfl (lv_at hl 1 rfl) ?_
    refine va_get (D := D) (ci := 11) (v := .ref (a 0)) (C := RX11) (T := TX11) (N := 49) hx hb hg inGX11 hown hKN.1 hP 0 rfl rfl 0 (by decide) (hg _ kw_1208) (fun _ h9 => h9) rfl dX11_count_84 ?_
    refine lv_iconst (v := 2) hx hb dX11_count_87 (by decide) ?_
    refine va_iald hx hb hKN.1 hP 1 0 rfl rfl (show ¬ ((2 : Int32) < 0 ∨ 7533 ≤ (2 : Int32).toNatClampNeg) by decide) dX11_count_88 ?_
    refine lv_topi (fun z7 ez7 => ?_)
    obtain rfl : z7 = 0 := ez7.trans (by decide)
    refine W.widen (k := 0) (n := 0) (Nat.le_of_ble_eq_true rfl) (Nat.le_of_ble_eq_true rfl) ?_
    exact W.iret (v := 0) hx hb hr (fun t ht hW => ⟨⟨0, rfl, (by first | decide | (unfold sp_count; split <;> first | rfl | exact i_is (X := 0) (by omega) (by decide) | (exfalso; omega))), CB.nil⟩, hS.F ht⟩) hS.2.2 dX11_count_89
  · refine lv_tableIn (off := 87) (tgt := 90) hx hb dX11_count_3 (by rw [c1]; decide) (by rw [c1]; decide) (by rw [c1]; rfl) (by decide) ?_
    refine lv_iconst (v := 0) hx hb dX11_count_90 (by decide) ?_
    refine lv_istore_n (lv' := [(3, .int 0), (2, .int 0), (0, .ref o), (1, .int p0)]) hx hb dX11_count_91 rfl hl (by decide) rfl (fun ls hl => ?_)
    refine lv_iload_n hx hb dX11_count_92 rfl (lv_at hl 0 rfl) ?_
    refine lv_sipush (v := 600) hx hb dX11_count_93 (by decide) ?_
    refine lv_aload_n hx hb dX11_count_96 rfl (lv_at hl 2 rfl) ?_
    refine va_get (D := D) (ci := 11) (v := .ref (a 0)) (C := RX11) (T := TX11) (N := 49) hx hb hg inGX11 hown hKN.1 hP 0 rfl rfl 0 (by decide) (hg _ kw_1208) (fun _ h9 => h9) rfl dX11_count_97 ?_
    refine lv_iconst (v := 0) hx hb dX11_count_100 (by decide) ?_
    refine va_iald hx hb hKN.1 hP 1 0 rfl rfl (show ¬ ((0 : Int32) < 0 ∨ 7533 ≤ (0 : Int32).toNatClampNeg) by decide) dX11_count_101 ?_
    refine lv_topi (fun z8 ez8 => ?_)
    obtain rfl : z8 = 0 := ez8.trans (by decide)
    refine lv_imul hx hb dX11_count_102 ?_
    refine lv_topi (fun z9 ez9 => ?_)
    obtain rfl : z9 = 0 := ez9.trans (by decide)
    refine lv_icmp_ge (tgt := 135) hx hb dX11_count_103 (by decide) (fun c10 => ?_) (fun c10 => ?_)
    rotate_left
    · exact absurd c10 (by decide)
    refine lv_iload_n hx hb dX11_count_135 rfl (lv_at hl 1 rfl) ?_
    refine W.widen (k := 0) (n := 0) (Nat.le_of_ble_eq_true rfl) (Nat.le_of_ble_eq_true rfl) ?_
    exact W.iret (v := 0) hx hb hr (fun t ht hW => ⟨⟨0, rfl, (by first | decide | (unfold sp_count; split <;> first | rfl | exact i_is (X := 0) (by omega) (by decide) | (exfalso; omega))), CB.nil⟩, hS.F ht⟩) hS.2.2 dX11_count_136
  · refine lv_tableIn (off := 134) (tgt := 137) hx hb dX11_count_3 (by rw [c1]; decide) (by rw [c1]; decide) (by rw [c1]; rfl) (by decide) ?_
    refine lv_aload_n hx hb dX11_count_137 rfl (lv_at hl 1 rfl) ?_
    refine va_get (D := D) (ci := 11) (v := .int 0) (C := RX11) (T := TX11) (N := 49) hx hb hg inGX11 hown hKN.1 hP 0 rfl rfl 3 (by decide) (hg _ kw_1211) (fun _ h9 => h9) rfl dX11_count_138 ?_
    refine W.widen (k := 0) (n := 0) (Nat.le_of_ble_eq_true rfl) (Nat.le_of_ble_eq_true rfl) ?_
    exact W.iret (v := 0) hx hb hr (fun t ht hW => ⟨⟨0, rfl, (by first | decide | (unfold sp_count; split <;> first | rfl | exact i_is (X := 0) (by omega) (by decide) | (exfalso; omega))), CB.nil⟩, hS.F ht⟩) hS.2.2 dX11_count_141
set_option maxHeartbeats 4000000 in
set_option maxRecDepth 100000 in
theorem c_addBytes0 (l : Launch) (D : va_G) (Y : Nat → ClassId) (Z : Nat → Nat) (sz : Nat) (b : Nat → Nat) (x : Int32) (f : Nat → Int32) : Met l yX6_addBytes (.code yX6_addBytes cX6_addBytes 3 none :: GW) ({ frames := 0, cells := 0, slots := 0, locals := 0 }) (va_Pc [.ref (b 0), .int x] (CP D Y Z [((b 0), .inr (6, (skF b))), ((b 22), .inl (Y 2, 400, .inl f))] sz)) (QG (S := (Nat → Int32)) (fun _ => none) (fun _ => True) (fun u => CB D ((fun u => [((b 0), .inr (6, (.int 0 :: .ref (b 16) :: .int 0 :: .ref (b 17) :: .int 0 :: .ref (b 18) :: .ref (b 19) :: .int 20 :: .ref (b 20) :: .ref (b 21) :: .int 0 :: .ref (b 22) :: .int 4 :: []))), ((b 22), .inl (Y 2, 400, .inl u))]) u) (va_A [((b 0), .inr (6, (skF b))), ((b 22), .inl (Y 2, 400, .inl f))] sz)) (va_A [((b 0), .inr (6, (skF b))), ((b 22), .inl (Y 2, 400, .inl f))] sz)) 0 0 (va_A [((b 0), .inr (6, (skF b))), ((b 22), .inl (Y 2, 400, .inl f))] sz) := by
  refine Met.ofW (cc := cX6_addBytes) (maxL := 3) (ret := none) (by decide) rfl ?_
  intro p e s m args below meth c s₁ B hml hv
  obtain ⟨rfl, hsz, hP, hKN, hD0⟩ := hv
  have hx := B.exec
  have hb := B.bytes
  have hr := B.returns
  have hts := atoms_spec (ws := .code yX6_addBytes cX6_addBytes 3 none :: GW) B.pre
  have hg : ∀ w ∈ GW, w.before _ s = true := fun w h => hts w (List.mem_cons_of_mem _ h)
  have hown : s.vm.findClass RX6 = some m.cls := findClass_of_methodNamed B.named
  have hlocks := B.notSynchronized
  subst hsz
  have hD := hD0.self (sz := s.heap.size)
  generalize hAe : va_A [((b 0), .inr (6, (skF b))), ((b 22), .inl (Y 2, 400, .inl f))] s.heap.size = A at hD ⊢
  have hA : ∀ q : Nat, s.heap.size ≤ q → A q := fun q h => by rw [← hAe]; exact Or.inr h
  have hl := lv_entry ([.ref (b 0), .int x]) (n := 3) (Nat.le_of_ble_eq_true rfl)
  rw [lg_entry_eq]
  generalize (lg_sl ([.ref (b 0), .int x]) ++ List.replicate (3 - (lg_sl ([.ref (b 0), .int x])).length) Slot.unset).toArray = ls at hl ⊢
  have hl : lv_has ls 3 [(0, .ref (b 0)), (1, .int x)] := hl
  refine w_start (A0 := A) hP (fun H locs hP hS => ?_)
  refine lv_bipush (v := 24) hx hb dX6_addBytes_0 (by decide) ?_
  refine lv_istore_n (lv' := [(2, .int 24), (0, .ref (b 0)), (1, .int x)]) hx hb dX6_addBytes_2 rfl hl (by decide) rfl (fun ls hl => ?_)
  refine lv_iload_n hx hb dX6_addBytes_3 rfl (lv_at hl 0 rfl) ?_
  refine lv_if_lt (tgt := 46) hx hb dX6_addBytes_4 (by decide) (fun c1 => ?_) (fun c1 => ?_)
  · exact absurd c1 (by decide)
  refine lv_aload_n hx hb dX6_addBytes_7 rfl (lv_at hl 1 rfl) ?_
  refine va_get (D := D) (ci := 6) (v := .int 0) (C := RX6) (T := TX6) (N := 13) hx hb hg inGX6 hown hKN.1 hP 0 rfl rfl 12 (by decide) (hg _ kw_67) (fun _ h9 => h9) rfl dX6_addBytes_8 ?_
  refine lv_sipush (v := 400) hx hb dX6_addBytes_11 (by decide) ?_
  refine lv_icmp_ge (tgt := 46) hx hb dX6_addBytes_14 (by decide) (fun c2 => ?_) (fun c2 => ?_)
  · exact absurd c2 (by decide)
  refine lv_aload_n hx hb dX6_addBytes_17 rfl (lv_at hl 1 rfl) ?_
  refine va_get (D := D) (ci := 6) (v := .ref (b 22)) (C := RX6) (T := TX6) (N := 13) hx hb hg inGX6 hown hKN.1 hP 0 rfl rfl 11 (by decide) (hg _ kw_65) (fun _ h9 => h9) rfl dX6_addBytes_18 ?_
  refine lv_aload_n hx hb dX6_addBytes_21 rfl (lv_at hl 1 rfl) ?_
  refine va_get (D := D) (ci := 6) (v := .int 0) (C := RX6) (T := TX6) (N := 13) hx hb hg inGX6 hown hKN.1 hP 0 rfl rfl 12 (by decide) (hg _ kw_67) (fun _ h9 => h9) rfl dX6_addBytes_22 ?_
  refine lv_iload_n hx hb dX6_addBytes_25 rfl (lv_at hl 2 rfl) ?_
  refine lv_iload_n hx hb dX6_addBytes_26 rfl (lv_at hl 0 rfl) ?_
  refine lv_iushr hx hb dX6_addBytes_27 rfl ?_
  refine lv_topi (fun v3 ev3 => ?_)
  refine lv_i2b (v := v3.toInt8.toInt32) hx hb dX6_addBytes_28 rfl ?_
  refine lv_topi (fun v5 ev5 => ?_)
  refine va_bast hx hb hKN.1 hP hD hS 1 2 rfl rfl (show ¬ ((0 : Int32) < 0 ∨ 400 ≤ (0 : Int32).toNatClampNeg) by decide) dX6_addBytes_29 (fun H locs hP hD hS => ?_)
  obtain ⟨f6, hP, hD⟩ : ∃ f6 : Nat → Int32, va_P D vwCl [((b 0), .inr (6, (skF b))), ((b 22), .inl (Y 2, 400, .inl f6))] H ∧ va_D A [((b 0), .inr (6, (skF b))), ((b 22), .inl (Y 2, 400, .inl f6))] := ⟨_, hP, hD⟩
  refine lv_aload_n hx hb dX6_addBytes_30 rfl (lv_at hl 1 rfl) ?_
  refine lv_dup hx hb dX6_addBytes_31 rfl ?_
  refine va_get (D := D) (ci := 6) (v := .int 0) (C := RX6) (T := TX6) (N := 13) hx hb hg inGX6 hown hKN.1 hP 0 rfl rfl 12 (by decide) (hg _ kw_67) (fun _ h9 => h9) rfl dX6_addBytes_32 ?_
  refine lv_iconst (v := 1) hx hb dX6_addBytes_35 (by decide) ?_
  refine lv_iadd hx hb dX6_addBytes_36 ?_
  refine lv_topi (fun z7 ez7 => ?_)
  obtain rfl : z7 = 1 := ez7.trans (by decide)
  refine va_put (D := D) (ci := 6) (v := .int 1) (ty := .int) (C := RX6) (T := TX6) (N := 13) hx hb hg inGX6 tyX6 tyX6_ok nmX6 hown hKN.1 hP hD hS 0 rfl rfl 12 (by decide) (hg _ kw_67) (fun _ h9 => h9) rfl (by decide +kernel) rfl rfl (Nat.le_of_ble_eq_true rfl) dX6_addBytes_37 (fun H locs hP hD hS => ?_)
  have hP : va_P D vwCl [((b 0), .inr (6, (.int 0 :: .ref (b 16) :: .int 0 :: .ref (b 17) :: .int 0 :: .ref (b 18) :: .ref (b 19) :: .int 20 :: .ref (b 20) :: .ref (b 21) :: .int 0 :: .ref (b 22) :: .int 1 :: []))), ((b 22), .inl (Y 2, 400, .inl f6))] H := hP
  have hD : va_D A [((b 0), .inr (6, (.int 0 :: .ref (b 16) :: .int 0 :: .ref (b 17) :: .int 0 :: .ref (b 18) :: .ref (b 19) :: .int 20 :: .ref (b 20) :: .ref (b 21) :: .int 0 :: .ref (b 22) :: .int 1 :: []))), ((b 22), .inl (Y 2, 400, .inl f6))] := hD
  refine lv_iinc (v := 16) (lv' := [(2, .int 16), (0, .ref (b 0)), (1, .int x)]) hx hb dX6_addBytes_40 hl (k := 0) rfl (by decide) (by decide) rfl (fun ls hl => ?_)
  refine lv_goto (tgt := 3) hx hb dX6_addBytes_43 (by decide) ?_
  refine lv_iload_n hx hb dX6_addBytes_3 rfl (lv_at hl 0 rfl) ?_
  refine lv_if_lt (tgt := 46) hx hb dX6_addBytes_4 (by decide) (fun c8 => ?_) (fun c8 => ?_)
  · exact absurd c8 (by decide)
  refine lv_aload_n hx hb dX6_addBytes_7 rfl (lv_at hl 1 rfl) ?_
  refine va_get (D := D) (ci := 6) (v := .int 1) (C := RX6) (T := TX6) (N := 13) hx hb hg inGX6 hown hKN.1 hP 0 rfl rfl 12 (by decide) (hg _ kw_67) (fun _ h9 => h9) rfl dX6_addBytes_8 ?_
  refine lv_sipush (v := 400) hx hb dX6_addBytes_11 (by decide) ?_
  refine lv_icmp_ge (tgt := 46) hx hb dX6_addBytes_14 (by decide) (fun c9 => ?_) (fun c9 => ?_)
  · exact absurd c9 (by decide)
  refine lv_aload_n hx hb dX6_addBytes_17 rfl (lv_at hl 1 rfl) ?_
  refine va_get (D := D) (ci := 6) (v := .ref (b 22)) (C := RX6) (T := TX6) (N := 13) hx hb hg inGX6 hown hKN.1 hP 0 rfl rfl 11 (by decide) (hg _ kw_65) (fun _ h9 => h9) rfl dX6_addBytes_18 ?_
  refine lv_aload_n hx hb dX6_addBytes_21 rfl (lv_at hl 1 rfl) ?_
  refine va_get (D := D) (ci := 6) (v := .int 1) (C := RX6) (T := TX6) (N := 13) hx hb hg inGX6 hown hKN.1 hP 0 rfl rfl 12 (by decide) (hg _ kw_67) (fun _ h9 => h9) rfl dX6_addBytes_22 ?_
  refine lv_iload_n hx hb dX6_addBytes_25 rfl (lv_at hl 2 rfl) ?_
  refine lv_iload_n hx hb dX6_addBytes_26 rfl (lv_at hl 0 rfl) ?_
  refine lv_iushr hx hb dX6_addBytes_27 rfl ?_
  refine lv_topi (fun v10 ev10 => ?_)
  refine lv_i2b (v := v10.toInt8.toInt32) hx hb dX6_addBytes_28 rfl ?_
  refine lv_topi (fun v12 ev12 => ?_)
  refine va_bast hx hb hKN.1 hP hD hS 1 2 rfl rfl (show ¬ ((1 : Int32) < 0 ∨ 400 ≤ (1 : Int32).toNatClampNeg) by decide) dX6_addBytes_29 (fun H locs hP hD hS => ?_)
  obtain ⟨f13, hP, hD⟩ : ∃ f13 : Nat → Int32, va_P D vwCl [((b 0), .inr (6, (.int 0 :: .ref (b 16) :: .int 0 :: .ref (b 17) :: .int 0 :: .ref (b 18) :: .ref (b 19) :: .int 20 :: .ref (b 20) :: .ref (b 21) :: .int 0 :: .ref (b 22) :: .int 1 :: []))), ((b 22), .inl (Y 2, 400, .inl f13))] H ∧ va_D A [((b 0), .inr (6, (.int 0 :: .ref (b 16) :: .int 0 :: .ref (b 17) :: .int 0 :: .ref (b 18) :: .ref (b 19) :: .int 20 :: .ref (b 20) :: .ref (b 21) :: .int 0 :: .ref (b 22) :: .int 1 :: []))), ((b 22), .inl (Y 2, 400, .inl f13))] := ⟨_, hP, hD⟩
  refine lv_aload_n hx hb dX6_addBytes_30 rfl (lv_at hl 1 rfl) ?_
  refine lv_dup hx hb dX6_addBytes_31 rfl ?_
  refine va_get (D := D) (ci := 6) (v := .int 1) (C := RX6) (T := TX6) (N := 13) hx hb hg inGX6 hown hKN.1 hP 0 rfl rfl 12 (by decide) (hg _ kw_67) (fun _ h9 => h9) rfl dX6_addBytes_32 ?_
  refine lv_iconst (v := 1) hx hb dX6_addBytes_35 (by decide) ?_
  refine lv_iadd hx hb dX6_addBytes_36 ?_
  refine lv_topi (fun z14 ez14 => ?_)
  obtain rfl : z14 = 2 := ez14.trans (by decide)
  refine va_put (D := D) (ci := 6) (v := .int 2) (ty := .int) (C := RX6) (T := TX6) (N := 13) hx hb hg inGX6 tyX6 tyX6_ok nmX6 hown hKN.1 hP hD hS 0 rfl rfl 12 (by decide) (hg _ kw_67) (fun _ h9 => h9) rfl (by decide +kernel) rfl rfl (Nat.le_of_ble_eq_true rfl) dX6_addBytes_37 (fun H locs hP hD hS => ?_)
  have hP : va_P D vwCl [((b 0), .inr (6, (.int 0 :: .ref (b 16) :: .int 0 :: .ref (b 17) :: .int 0 :: .ref (b 18) :: .ref (b 19) :: .int 20 :: .ref (b 20) :: .ref (b 21) :: .int 0 :: .ref (b 22) :: .int 2 :: []))), ((b 22), .inl (Y 2, 400, .inl f13))] H := hP
  have hD : va_D A [((b 0), .inr (6, (.int 0 :: .ref (b 16) :: .int 0 :: .ref (b 17) :: .int 0 :: .ref (b 18) :: .ref (b 19) :: .int 20 :: .ref (b 20) :: .ref (b 21) :: .int 0 :: .ref (b 22) :: .int 2 :: []))), ((b 22), .inl (Y 2, 400, .inl f13))] := hD
  refine lv_iinc (v := 8) (lv' := [(2, .int 8), (0, .ref (b 0)), (1, .int x)]) hx hb dX6_addBytes_40 hl (k := 0) rfl (by decide) (by decide) rfl (fun ls hl => ?_)
  refine lv_goto (tgt := 3) hx hb dX6_addBytes_43 (by decide) ?_
  refine lv_iload_n hx hb dX6_addBytes_3 rfl (lv_at hl 0 rfl) ?_
  refine lv_if_lt (tgt := 46) hx hb dX6_addBytes_4 (by decide) (fun c15 => ?_) (fun c15 => ?_)
  · exact absurd c15 (by decide)
  refine lv_aload_n hx hb dX6_addBytes_7 rfl (lv_at hl 1 rfl) ?_
  refine va_get (D := D) (ci := 6) (v := .int 2) (C := RX6) (T := TX6) (N := 13) hx hb hg inGX6 hown hKN.1 hP 0 rfl rfl 12 (by decide) (hg _ kw_67) (fun _ h9 => h9) rfl dX6_addBytes_8 ?_
  refine lv_sipush (v := 400) hx hb dX6_addBytes_11 (by decide) ?_
  refine lv_icmp_ge (tgt := 46) hx hb dX6_addBytes_14 (by decide) (fun c16 => ?_) (fun c16 => ?_)
  · exact absurd c16 (by decide)
  refine lv_aload_n hx hb dX6_addBytes_17 rfl (lv_at hl 1 rfl) ?_
  refine va_get (D := D) (ci := 6) (v := .ref (b 22)) (C := RX6) (T := TX6) (N := 13) hx hb hg inGX6 hown hKN.1 hP 0 rfl rfl 11 (by decide) (hg _ kw_65) (fun _ h9 => h9) rfl dX6_addBytes_18 ?_
  refine lv_aload_n hx hb dX6_addBytes_21 rfl (lv_at hl 1 rfl) ?_
  refine va_get (D := D) (ci := 6) (v := .int 2) (C := RX6) (T := TX6) (N := 13) hx hb hg inGX6 hown hKN.1 hP 0 rfl rfl 12 (by decide) (hg _ kw_67) (fun _ h9 => h9) rfl dX6_addBytes_22 ?_
  refine lv_iload_n hx hb dX6_addBytes_25 rfl (lv_at hl 2 rfl) ?_
  refine lv_iload_n hx hb dX6_addBytes_26 rfl (lv_at hl 0 rfl) ?_
  refine lv_iushr hx hb dX6_addBytes_27 rfl ?_
  refine lv_topi (fun v17 ev17 => ?_)
  refine lv_i2b (v := v17.toInt8.toInt32) hx hb dX6_addBytes_28 rfl ?_
  refine lv_topi (fun v19 ev19 => ?_)
  refine va_bast hx hb hKN.1 hP hD hS 1 2 rfl rfl (show ¬ ((2 : Int32) < 0 ∨ 400 ≤ (2 : Int32).toNatClampNeg) by decide) dX6_addBytes_29 (fun H locs hP hD hS => ?_)
  obtain ⟨f20, hP, hD⟩ : ∃ f20 : Nat → Int32, va_P D vwCl [((b 0), .inr (6, (.int 0 :: .ref (b 16) :: .int 0 :: .ref (b 17) :: .int 0 :: .ref (b 18) :: .ref (b 19) :: .int 20 :: .ref (b 20) :: .ref (b 21) :: .int 0 :: .ref (b 22) :: .int 2 :: []))), ((b 22), .inl (Y 2, 400, .inl f20))] H ∧ va_D A [((b 0), .inr (6, (.int 0 :: .ref (b 16) :: .int 0 :: .ref (b 17) :: .int 0 :: .ref (b 18) :: .ref (b 19) :: .int 20 :: .ref (b 20) :: .ref (b 21) :: .int 0 :: .ref (b 22) :: .int 2 :: []))), ((b 22), .inl (Y 2, 400, .inl f20))] := ⟨_, hP, hD⟩
  refine lv_aload_n hx hb dX6_addBytes_30 rfl (lv_at hl 1 rfl) ?_
  refine lv_dup hx hb dX6_addBytes_31 rfl ?_
  refine va_get (D := D) (ci := 6) (v := .int 2) (C := RX6) (T := TX6) (N := 13) hx hb hg inGX6 hown hKN.1 hP 0 rfl rfl 12 (by decide) (hg _ kw_67) (fun _ h9 => h9) rfl dX6_addBytes_32 ?_
  refine lv_iconst (v := 1) hx hb dX6_addBytes_35 (by decide) ?_
  refine lv_iadd hx hb dX6_addBytes_36 ?_
  refine lv_topi (fun z21 ez21 => ?_)
  obtain rfl : z21 = 3 := ez21.trans (by decide)
  refine va_put (D := D) (ci := 6) (v := .int 3) (ty := .int) (C := RX6) (T := TX6) (N := 13) hx hb hg inGX6 tyX6 tyX6_ok nmX6 hown hKN.1 hP hD hS 0 rfl rfl 12 (by decide) (hg _ kw_67) (fun _ h9 => h9) rfl (by decide +kernel) rfl rfl (Nat.le_of_ble_eq_true rfl) dX6_addBytes_37 (fun H locs hP hD hS => ?_)
  have hP : va_P D vwCl [((b 0), .inr (6, (.int 0 :: .ref (b 16) :: .int 0 :: .ref (b 17) :: .int 0 :: .ref (b 18) :: .ref (b 19) :: .int 20 :: .ref (b 20) :: .ref (b 21) :: .int 0 :: .ref (b 22) :: .int 3 :: []))), ((b 22), .inl (Y 2, 400, .inl f20))] H := hP
  have hD : va_D A [((b 0), .inr (6, (.int 0 :: .ref (b 16) :: .int 0 :: .ref (b 17) :: .int 0 :: .ref (b 18) :: .ref (b 19) :: .int 20 :: .ref (b 20) :: .ref (b 21) :: .int 0 :: .ref (b 22) :: .int 3 :: []))), ((b 22), .inl (Y 2, 400, .inl f20))] := hD
  refine lv_iinc (v := 0) (lv' := [(2, .int 0), (0, .ref (b 0)), (1, .int x)]) hx hb dX6_addBytes_40 hl (k := 0) rfl (by decide) (by decide) rfl (fun ls hl => ?_)
  refine lv_goto (tgt := 3) hx hb dX6_addBytes_43 (by decide) ?_
  refine lv_iload_n hx hb dX6_addBytes_3 rfl (lv_at hl 0 rfl) ?_
  refine lv_if_lt (tgt := 46) hx hb dX6_addBytes_4 (by decide) (fun c22 => ?_) (fun c22 => ?_)
  · exact absurd c22 (by decide)
  refine lv_aload_n hx hb dX6_addBytes_7 rfl (lv_at hl 1 rfl) ?_
  refine va_get (D := D) (ci := 6) (v := .int 3) (C := RX6) (T := TX6) (N := 13) hx hb hg inGX6 hown hKN.1 hP 0 rfl rfl 12 (by decide) (hg _ kw_67) (fun _ h9 => h9) rfl dX6_addBytes_8 ?_
  refine lv_sipush (v := 400) hx hb dX6_addBytes_11 (by decide) ?_
  refine lv_icmp_ge (tgt := 46) hx hb dX6_addBytes_14 (by decide) (fun c23 => ?_) (fun c23 => ?_)
  · exact absurd c23 (by decide)
  refine lv_aload_n hx hb dX6_addBytes_17 rfl (lv_at hl 1 rfl) ?_
  refine va_get (D := D) (ci := 6) (v := .ref (b 22)) (C := RX6) (T := TX6) (N := 13) hx hb hg inGX6 hown hKN.1 hP 0 rfl rfl 11 (by decide) (hg _ kw_65) (fun _ h9 => h9) rfl dX6_addBytes_18 ?_
  refine lv_aload_n hx hb dX6_addBytes_21 rfl (lv_at hl 1 rfl) ?_
  refine va_get (D := D) (ci := 6) (v := .int 3) (C := RX6) (T := TX6) (N := 13) hx hb hg inGX6 hown hKN.1 hP 0 rfl rfl 12 (by decide) (hg _ kw_67) (fun _ h9 => h9) rfl dX6_addBytes_22 ?_
  refine lv_iload_n hx hb dX6_addBytes_25 rfl (lv_at hl 2 rfl) ?_
  refine lv_iload_n hx hb dX6_addBytes_26 rfl (lv_at hl 0 rfl) ?_
  refine lv_iushr hx hb dX6_addBytes_27 rfl ?_
  refine lv_topi (fun v24 ev24 => ?_)
  refine lv_i2b (v := v24.toInt8.toInt32) hx hb dX6_addBytes_28 rfl ?_
  refine lv_topi (fun v26 ev26 => ?_)
  refine va_bast hx hb hKN.1 hP hD hS 1 2 rfl rfl (show ¬ ((3 : Int32) < 0 ∨ 400 ≤ (3 : Int32).toNatClampNeg) by decide) dX6_addBytes_29 (fun H locs hP hD hS => ?_)
  obtain ⟨f27, hP, hD⟩ : ∃ f27 : Nat → Int32, va_P D vwCl [((b 0), .inr (6, (.int 0 :: .ref (b 16) :: .int 0 :: .ref (b 17) :: .int 0 :: .ref (b 18) :: .ref (b 19) :: .int 20 :: .ref (b 20) :: .ref (b 21) :: .int 0 :: .ref (b 22) :: .int 3 :: []))), ((b 22), .inl (Y 2, 400, .inl f27))] H ∧ va_D A [((b 0), .inr (6, (.int 0 :: .ref (b 16) :: .int 0 :: .ref (b 17) :: .int 0 :: .ref (b 18) :: .ref (b 19) :: .int 20 :: .ref (b 20) :: .ref (b 21) :: .int 0 :: .ref (b 22) :: .int 3 :: []))), ((b 22), .inl (Y 2, 400, .inl f27))] := ⟨_, hP, hD⟩
  refine lv_aload_n hx hb dX6_addBytes_30 rfl (lv_at hl 1 rfl) ?_
  refine lv_dup hx hb dX6_addBytes_31 rfl ?_
  refine va_get (D := D) (ci := 6) (v := .int 3) (C := RX6) (T := TX6) (N := 13) hx hb hg inGX6 hown hKN.1 hP 0 rfl rfl 12 (by decide) (hg _ kw_67) (fun _ h9 => h9) rfl dX6_addBytes_32 ?_
  refine lv_iconst (v := 1) hx hb dX6_addBytes_35 (by decide) ?_
  refine lv_iadd hx hb dX6_addBytes_36 ?_
  refine lv_topi (fun z28 ez28 => ?_)
  obtain rfl : z28 = 4 := ez28.trans (by decide)
  refine va_put (D := D) (ci := 6) (v := .int 4) (ty := .int) (C := RX6) (T := TX6) (N := 13) hx hb hg inGX6 tyX6 tyX6_ok nmX6 hown hKN.1 hP hD hS 0 rfl rfl 12 (by decide) (hg _ kw_67) (fun _ h9 => h9) rfl (by decide +kernel) rfl rfl (Nat.le_of_ble_eq_true rfl) dX6_addBytes_37 (fun H locs hP hD hS => ?_)
  have hP : va_P D vwCl [((b 0), .inr (6, (.int 0 :: .ref (b 16) :: .int 0 :: .ref (b 17) :: .int 0 :: .ref (b 18) :: .ref (b 19) :: .int 20 :: .ref (b 20) :: .ref (b 21) :: .int 0 :: .ref (b 22) :: .int 4 :: []))), ((b 22), .inl (Y 2, 400, .inl f27))] H := hP
  have hD : va_D A [((b 0), .inr (6, (.int 0 :: .ref (b 16) :: .int 0 :: .ref (b 17) :: .int 0 :: .ref (b 18) :: .ref (b 19) :: .int 20 :: .ref (b 20) :: .ref (b 21) :: .int 0 :: .ref (b 22) :: .int 4 :: []))), ((b 22), .inl (Y 2, 400, .inl f27))] := hD
  refine lv_iinc (v := (-8)) (lv' := [(2, .int (-8)), (0, .ref (b 0)), (1, .int x)]) hx hb dX6_addBytes_40 hl (k := 0) rfl (by decide) (by decide) rfl (fun ls hl => ?_)
  refine lv_goto (tgt := 3) hx hb dX6_addBytes_43 (by decide) ?_
  refine lv_iload_n hx hb dX6_addBytes_3 rfl (lv_at hl 0 rfl) ?_
  refine lv_if_lt (tgt := 46) hx hb dX6_addBytes_4 (by decide) (fun c29 => ?_) (fun c29 => ?_)
  rotate_left
  · exact absurd c29 (by decide)
  refine W.widen (k := 0) (n := 0) (Nat.le_of_ble_eq_true rfl) (Nat.le_of_ble_eq_true rfl) ?_
  exact W.vret hx hb hr (fun t ht hW => ⟨⟨f27, rfl, trivial, CB.mk ht (hP.sub [0, 1] rfl) (hD.sub [0, 1] (by decide) rfl)⟩, hS.F ht⟩) hS.2.2 dX6_addBytes_46
