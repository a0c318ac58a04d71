set_option maxHeartbeats 4000000 in
set_option maxRecDepth 100000 in
theorem m_in (l : Launch) (D : va_G) (Y : Nat → ClassId) (Z : Nat → Nat) (sz : Nat)  (p0 : Int64) (p1 : Int64) (p2 : Int64) : Met l yX11_in (.code yX11_in cX11_in 6 (some .boolean) :: GW) ({ frames := 0, cells := 0, slots := 0, locals := 0 }) (va_Pc [.long p0, .long p1, .long p2] (CP D Y Z [] sz)) (QG (S := Int32) (fun u => some (.int u)) (fun u => ((p1.toInt ≤ p0.toInt ∧ p0.toInt ≤ p2.toInt ∧ u.toInt = 1) ∨ (¬ (p1.toInt ≤ p0.toInt ∧ p0.toInt ≤ p2.toInt) ∧ u.toInt = 0)) ∧ (0 ≤ u.toInt ∧ u.toInt ≤ 1)) (fun u => CB D [] (va_A [] sz)) (va_A [] sz)) 0 0 (va_A [] sz) := by
  refine Met.ofW (cc := cX11_in) (maxL := 6) (ret := (some .boolean)) (by decide) rfl ?_
  intro p e s m args below meth c s₁ B hml hv
  obtain ⟨rfl, hsz, hP, hKN, hD0⟩ := hv
  have hx := B.exec
  have hb := B.bytes
  have hr := B.returns
  have hts := atoms_spec (ws := .code yX11_in cX11_in 6 (some .boolean) :: GW) B.pre
  have hg : ∀ w ∈ GW, w.before _ s = true := fun w h => hts w (List.mem_cons_of_mem _ h)
  have hown : s.vm.findClass RX11 = some m.cls := findClass_of_methodNamed B.named
  have hlocks := B.notSynchronized
  subst hsz
  have hD := hD0.self (sz := s.heap.size)
  generalize hAe : va_A [] s.heap.size = A at hD ⊢
  have hA : ∀ q : Nat, s.heap.size ≤ q → A q := fun q h => by rw [← hAe]; exact Or.inr h
  clear hAe hD0 hts B
  have hl := lv_entry ([.long p0, .long p1, .long p2]) (n := 6) (Nat.le_of_ble_eq_true rfl)
  rw [lg_entry_eq]
  generalize (lg_sl ([.long p0, .long p1, .long p2]) ++ List.replicate (6 - (lg_sl ([.long p0, .long p1, .long p2])).length) Slot.unset).toArray = ls at hl ⊢
  have hl : lv_has ls 6 [(0, .long p0), (2, .long p1), (4, .long p2)] := hl
  refine w_start (A0 := A) hP (fun H locs hP hS => ?_)
  refine lv_lload_n hx hb dX11_in_0 rfl (lv_at hl 0 rfl) ?_
  refine lv_lload_n hx hb dX11_in_1 rfl (lv_at hl 1 rfl) ?_
  refine W.lcmp hx hb dX11_in_2 ?_
  refine lv_if_lt (tgt := 17) hx hb dX11_in_3 (by decide) (fun c3 => ?_) (fun c3 => ?_)
  · skip
    have c3 := l_lt (Eq.refl p0.toInt) (Eq.refl p1.toInt) c3
    refine lv_iconst (v := 0) hx hb dX11_in_17 (by decide) ?_
    refine W.widen (k := 0) (n := 0) (Nat.le_of_ble_eq_true rfl) (Nat.le_of_ble_eq_true rfl) ?_
    have zi0 : (0 : Int32).toInt = 0 := by decide
    exact W.zret (v := 0) hx hb hr (by decide) (fun t ht hW => ⟨⟨0, rfl, ⟨(show ((p1.toInt ≤ p0.toInt ∧ p0.toInt ≤ p2.toInt ∧ (0 : Int32).toInt = 1) ∨ (¬ (p1.toInt ≤ p0.toInt ∧ p0.toInt ≤ p2.toInt) ∧ (0 : Int32).toInt = 0)) by omega), (show (0 ≤ (0 : Int32).toInt ∧ (0 : Int32).toInt ≤ 1) by omega)⟩, CB.nil⟩, hS.F ht⟩) hS.2.2 dX11_in_18
  · skip
    have c3 := l_nlt (Eq.refl p0.toInt) (Eq.refl p1.toInt) c3
    refine lv_lload_n hx hb dX11_in_6 rfl (lv_at hl 0 rfl) ?_
    refine lv_lload hx hb dX11_in_7 (lv_at hl 2 rfl) ?_
    refine W.lcmp hx hb dX11_in_9 ?_
    refine lv_if_gt (tgt := 17) hx hb dX11_in_10 (by decide) (fun c5 => ?_) (fun c5 => ?_)
    · skip
      have c5 := l_gt (Eq.refl p0.toInt) (Eq.refl p2.toInt) c5
      refine lv_iconst (v := 0) hx hb dX11_in_17 (by decide) ?_
      refine W.widen (k := 0) (n := 0) (Nat.le_of_ble_eq_true rfl) (Nat.le_of_ble_eq_true rfl) ?_
      have zi0 : (0 : Int32).toInt = 0 := by decide
      exact W.zret (v := 0) hx hb hr (by decide) (fun t ht hW => ⟨⟨0, rfl, ⟨(show ((p1.toInt ≤ p0.toInt ∧ p0.toInt ≤ p2.toInt ∧ (0 : Int32).toInt = 1) ∨ (¬ (p1.toInt ≤ p0.toInt ∧ p0.toInt ≤ p2.toInt) ∧ (0 : Int32).toInt = 0)) by omega), (show (0 ≤ (0 : Int32).toInt ∧ (0 : Int32).toInt ≤ 1) by omega)⟩, CB.nil⟩, hS.F ht⟩) hS.2.2 dX11_in_18
    · skip
      have c5 := l_ngt (Eq.refl p0.toInt) (Eq.refl p2.toInt) c5
      refine lv_iconst (v := 1) hx hb dX11_in_13 (by decide) ?_
      refine lv_goto (tgt := 18) hx hb dX11_in_14 (by decide) ?_
      refine W.widen (k := 0) (n := 0) (Nat.le_of_ble_eq_true rfl) (Nat.le_of_ble_eq_true rfl) ?_
      have zi1 : (1 : Int32).toInt = 1 := by decide
      exact W.zret (v := 1) hx hb hr (by decide) (fun t ht hW => ⟨⟨1, rfl, ⟨(show ((p1.toInt ≤ p0.toInt ∧ p0.toInt ≤ p2.toInt ∧ (1 : Int32).toInt = 1) ∨ (¬ (p1.toInt ≤ p0.toInt ∧ p0.toInt ≤ p2.toInt) ∧ (1 : Int32).toInt = 0)) by omega), (show (0 ≤ (1 : Int32).toInt ∧ (1 : Int32).toInt ≤ 1) by omega)⟩, CB.nil⟩, hS.F ht⟩) hS.2.2 dX11_in_18
set_option maxHeartbeats 4000000 in
set_option maxRecDepth 100000 in
theorem m_heldB (l : Launch) (D : va_G) (Y : Nat → ClassId) (Z : Nat → Nat) (sz : Nat)  (p0 : Int64) (p1 : Int64) (p2 : Int64) (hk_0 : (-1000000000000000 ≤ p0.toInt ∧ p0.toInt ≤ 1000000000000000)) (hk_1 : (-100000 ≤ p1.toInt ∧ p1.toInt ≤ 100000)) (hk_2 : (-100000 ≤ p2.toInt ∧ p2.toInt ≤ 100000)) (hk_3 : (p1.toInt ≤ p2.toInt)) : Met l yX11_held (.code yX11_held cX11_held 6 (some .long) :: GW) ({ frames := 0, cells := 0, slots := 0, locals := 0 }) (va_Pc [.long p0, .long p1, .long p2] (CP D Y Z [] sz)) (QG (S := Int64) (fun u => some (.long u)) (fun u => (p1.toInt ≤ u.toInt ∧ u.toInt ≤ p2.toInt) ∧ (-100000 ≤ u.toInt ∧ u.toInt ≤ 100000)) (fun u => CB D [] (va_A [] sz)) (va_A [] sz)) 0 0 (va_A [] sz) := by
  refine Met.ofW (cc := cX11_held) (maxL := 6) (ret := (some .long)) (by decide) rfl ?_
  intro p e s m args below meth c s₁ B hml hv
  obtain ⟨rfl, hsz, hP, hKN, hD0⟩ := hv
  have hx := B.exec
  have hb := B.bytes
  have hr := B.returns
  have hts := atoms_spec (ws := .code yX11_held cX11_held 6 (some .long) :: GW) B.pre
  have hg : ∀ w ∈ GW, w.before _ s = true := fun w h => hts w (List.mem_cons_of_mem _ h)
  have hown : s.vm.findClass RX11 = some m.cls := findClass_of_methodNamed B.named
  have hlocks := B.notSynchronized
  subst hsz
  have hD := hD0.self (sz := s.heap.size)
  generalize hAe : va_A [] s.heap.size = A at hD ⊢
  have hA : ∀ q : Nat, s.heap.size ≤ q → A q := fun q h => by rw [← hAe]; exact Or.inr h
  clear hAe hD0 hts B
  have hl := lv_entry ([.long p0, .long p1, .long p2]) (n := 6) (Nat.le_of_ble_eq_true rfl)
  rw [lg_entry_eq]
  generalize (lg_sl ([.long p0, .long p1, .long p2]) ++ List.replicate (6 - (lg_sl ([.long p0, .long p1, .long p2])).length) Slot.unset).toArray = ls at hl ⊢
  have hl : lv_has ls 6 [(0, .long p0), (2, .long p1), (4, .long p2)] := hl
  refine w_start (A0 := A) hP (fun H locs hP hS => ?_)
  refine lv_lload_n hx hb dX11_held_0 rfl (lv_at hl 0 rfl) ?_
  refine lv_lload_n hx hb dX11_held_1 rfl (lv_at hl 1 rfl) ?_
  refine W.lcmp hx hb dX11_held_2 ?_
  refine lv_if_ge (tgt := 10) hx hb dX11_held_3 (by decide) (fun c3 => ?_) (fun c3 => ?_)
  · skip
    have c3 := l_ge (Eq.refl p0.toInt) (Eq.refl p1.toInt) c3
    refine lv_lload_n hx hb dX11_held_10 rfl (lv_at hl 0 rfl) ?_
    refine lv_lload hx hb dX11_held_11 (lv_at hl 2 rfl) ?_
    refine W.lcmp hx hb dX11_held_13 ?_
    refine lv_if_le (tgt := 22) hx hb dX11_held_14 (by decide) (fun c5 => ?_) (fun c5 => ?_)
    · skip
      have c5 := l_le (Eq.refl p0.toInt) (Eq.refl p2.toInt) c5
      refine lv_lload_n hx hb dX11_held_22 rfl (lv_at hl 0 rfl) ?_
      refine W.widen (k := 0) (n := 0) (Nat.le_of_ble_eq_true rfl) (Nat.le_of_ble_eq_true rfl) ?_
      exact W.lret (v := p0) hx hb hr (fun t ht hW => ⟨⟨p0, rfl, ⟨(show (p1.toInt ≤ p0.toInt ∧ p0.toInt ≤ p2.toInt) by omega), (show (-100000 ≤ p0.toInt ∧ p0.toInt ≤ 100000) by omega)⟩, CB.nil⟩, hS.F ht⟩) hS.2.2 dX11_held_23
    · skip
      have c5 := l_nle (Eq.refl p0.toInt) (Eq.refl p2.toInt) c5
      refine lv_lload hx hb dX11_held_17 (lv_at hl 2 rfl) ?_
      refine lv_goto (tgt := 23) hx hb dX11_held_19 (by decide) ?_
      refine W.widen (k := 0) (n := 0) (Nat.le_of_ble_eq_true rfl) (Nat.le_of_ble_eq_true rfl) ?_
      exact W.lret (v := p2) hx hb hr (fun t ht hW => ⟨⟨p2, rfl, ⟨(show (p1.toInt ≤ p2.toInt ∧ p2.toInt ≤ p2.toInt) by omega), (show (-100000 ≤ p2.toInt ∧ p2.toInt ≤ 100000) by omega)⟩, CB.nil⟩, hS.F ht⟩) hS.2.2 dX11_held_23
  · skip
    have c3 := l_nge (Eq.refl p0.toInt) (Eq.refl p1.toInt) c3
    refine lv_lload_n hx hb dX11_held_6 rfl (lv_at hl 1 rfl) ?_
    refine lv_goto (tgt := 23) hx hb dX11_held_7 (by decide) ?_
    refine W.widen (k := 0) (n := 0) (Nat.le_of_ble_eq_true rfl) (Nat.le_of_ble_eq_true rfl) ?_
    exact W.lret (v := p1) hx hb hr (fun t ht hW => ⟨⟨p1, rfl, ⟨(show (p1.toInt ≤ p1.toInt ∧ p1.toInt ≤ p2.toInt) by omega), (show (-100000 ≤ p1.toInt ∧ p1.toInt ≤ 100000) by omega)⟩, CB.nil⟩, hS.F ht⟩) hS.2.2 dX11_held_23
set_option maxHeartbeats 4000000 in
set_option maxRecDepth 100000 in
theorem m_held (l : Launch) (D : va_G) (Y : Nat → ClassId) (Z : Nat → Nat) (sz : Nat)  (p0 : Int64) (p1 : Int64) (p2 : Int64) (hk_0 : (p1.toInt ≤ p2.toInt)) : Met l yX11_held (.code yX11_held cX11_held 6 (some .long) :: GW) ({ frames := 0, cells := 0, slots := 0, locals := 0 }) (va_Pc [.long p0, .long p1, .long p2] (CP D Y Z [] sz)) (QG (S := Int64) (fun u => some (.long u)) (fun u => (p1.toInt ≤ u.toInt ∧ u.toInt ≤ p2.toInt)) (fun u => CB D [] (va_A [] sz)) (va_A [] sz)) 0 0 (va_A [] sz) := by
  refine Met.ofW (cc := cX11_held) (maxL := 6) (ret := (some .long)) (by decide) rfl ?_
  intro p e s m args below meth c s₁ B hml hv
  obtain ⟨rfl, hsz, hP, hKN, hD0⟩ := hv
  have hx := B.exec
  have hb := B.bytes
  have hr := B.returns
  have hts := atoms_spec (ws := .code yX11_held cX11_held 6 (some .long) :: GW) B.pre
  have hg : ∀ w ∈ GW, w.before _ s = true := fun w h => hts w (List.mem_cons_of_mem _ h)
  have hown : s.vm.findClass RX11 = some m.cls := findClass_of_methodNamed B.named
  have hlocks := B.notSynchronized
  subst hsz
  have hD := hD0.self (sz := s.heap.size)
  generalize hAe : va_A [] s.heap.size = A at hD ⊢
  have hA : ∀ q : Nat, s.heap.size ≤ q → A q := fun q h => by rw [← hAe]; exact Or.inr h
  clear hAe hD0 hts B
  have hl := lv_entry ([.long p0, .long p1, .long p2]) (n := 6) (Nat.le_of_ble_eq_true rfl)
  rw [lg_entry_eq]
  generalize (lg_sl ([.long p0, .long p1, .long p2]) ++ List.replicate (6 - (lg_sl ([.long p0, .long p1, .long p2])).length) Slot.unset).toArray = ls at hl ⊢
  have hl : lv_has ls 6 [(0, .long p0), (2, .long p1), (4, .long p2)] := hl
  refine w_start (A0 := A) hP (fun H locs hP hS => ?_)
  refine lv_lload_n hx hb dX11_held_0 rfl (lv_at hl 0 rfl) ?_
  refine lv_lload_n hx hb dX11_held_1 rfl (lv_at hl 1 rfl) ?_
  refine W.lcmp hx hb dX11_held_2 ?_
  refine lv_if_ge (tgt := 10) hx hb dX11_held_3 (by decide) (fun c3 => ?_) (fun c3 => ?_)
  · skip
    have c3 := l_ge (Eq.refl p0.toInt) (Eq.refl p1.toInt) c3
    refine lv_lload_n hx hb dX11_held_10 rfl (lv_at hl 0 rfl) ?_
    refine lv_lload hx hb dX11_held_11 (lv_at hl 2 rfl) ?_
    refine W.lcmp hx hb dX11_held_13 ?_
    refine lv_if_le (tgt := 22) hx hb dX11_held_14 (by decide) (fun c5 => ?_) (fun c5 => ?_)
    · skip
      have c5 := l_le (Eq.refl p0.toInt) (Eq.refl p2.toInt) c5
      refine lv_lload_n hx hb dX11_held_22 rfl (lv_at hl 0 rfl) ?_
      refine W.widen (k := 0) (n := 0) (Nat.le_of_ble_eq_true rfl) (Nat.le_of_ble_eq_true rfl) ?_
      exact W.lret (v := p0) hx hb hr (fun t ht hW => ⟨⟨p0, rfl, ((show (p1.toInt ≤ p0.toInt ∧ p0.toInt ≤ p2.toInt) by omega)), CB.nil⟩, hS.F ht⟩) hS.2.2 dX11_held_23
    · skip
      have c5 := l_nle (Eq.refl p0.toInt) (Eq.refl p2.toInt) c5
      refine lv_lload hx hb dX11_held_17 (lv_at hl 2 rfl) ?_
      refine lv_goto (tgt := 23) hx hb dX11_held_19 (by decide) ?_
      refine W.widen (k := 0) (n := 0) (Nat.le_of_ble_eq_true rfl) (Nat.le_of_ble_eq_true rfl) ?_
      exact W.lret (v := p2) hx hb hr (fun t ht hW => ⟨⟨p2, rfl, ((show (p1.toInt ≤ p2.toInt ∧ p2.toInt ≤ p2.toInt) by omega)), CB.nil⟩, hS.F ht⟩) hS.2.2 dX11_held_23
  · skip
    have c3 := l_nge (Eq.refl p0.toInt) (Eq.refl p1.toInt) c3
    refine lv_lload_n hx hb dX11_held_6 rfl (lv_at hl 1 rfl) ?_
    refine lv_goto (tgt := 23) hx hb dX11_held_7 (by decide) ?_
    refine W.widen (k := 0) (n := 0) (Nat.le_of_ble_eq_true rfl) (Nat.le_of_ble_eq_true rfl) ?_
    exact W.lret (v := p1) hx hb hr (fun t ht hW => ⟨⟨p1, rfl, ((show (p1.toInt ≤ p1.toInt ∧ p1.toInt ≤ p2.toInt) by omega)), CB.nil⟩, hS.F ht⟩) hS.2.2 dX11_held_23
set_option maxHeartbeats 4000000 in
set_option maxRecDepth 100000 in
theorem m_down (l : Launch) (D : va_G) (Y : Nat → ClassId) (Z : Nat → Nat) (sz : Nat)  (p0 : Int64) (p1 : Int64) (hk_0 : (p1.toInt ≠ 0)) : Met l yX11_down (.code yX11_down cX11_down 6 (some .long) :: GW) ({ frames := 0, cells := 0, slots := 0, locals := 0 }) (va_Pc [.long p0, .long p1] (CP D Y Z [] sz)) (QG (S := Int64) (fun u => some (.long u)) (fun u => True) (fun u => CB D [] (va_A [] sz)) (va_A [] sz)) 0 0 (va_A [] sz) := by
  refine Met.ofW (cc := cX11_down) (maxL := 6) (ret := (some .long)) (by decide) rfl ?_
  intro p e s m args below meth c s₁ B hml hv
  obtain ⟨rfl, hsz, hP, hKN, hD0⟩ := hv
  have hx := B.exec
  have hb := B.bytes
  have hr := B.returns
  have hts := atoms_spec (ws := .code yX11_down cX11_down 6 (some .long) :: GW) B.pre
  have hg : ∀ w ∈ GW, w.before _ s = true := fun w h => hts w (List.mem_cons_of_mem _ h)
  have hown : s.vm.findClass RX11 = some m.cls := findClass_of_methodNamed B.named
  have hlocks := B.notSynchronized
  subst hsz
  have hD := hD0.self (sz := s.heap.size)
  generalize hAe : va_A [] s.heap.size = A at hD ⊢
  have hA : ∀ q : Nat, s.heap.size ≤ q → A q := fun q h => by rw [← hAe]; exact Or.inr h
  clear hAe hD0 hts B
  have hl := lv_entry ([.long p0, .long p1]) (n := 6) (Nat.le_of_ble_eq_true rfl)
  rw [lg_entry_eq]
  generalize (lg_sl ([.long p0, .long p1]) ++ List.replicate (6 - (lg_sl ([.long p0, .long p1])).length) Slot.unset).toArray = ls at hl ⊢
  have hl : lv_has ls 6 [(0, .long p0), (2, .long p1)] := hl
  refine w_start (A0 := A) hP (fun H locs hP hS => ?_)
  refine lv_lload_n hx hb dX11_down_0 rfl (lv_at hl 0 rfl) ?_
  refine lv_lload_n hx hb dX11_down_1 rfl (lv_at hl 1 rfl) ?_
  refine lv_ldiv hx hb dX11_down_2 (l_nz (Eq.refl p1.toInt) (by omega)) ?_
  refine lv_topl (fun v1 ev1 => ?_)
  refine lv_lstore (lv' := [(4, .long v1), (0, .long p0), (2, .long p1)]) hx hb dX11_down_3 hl (by decide) rfl (fun ls hl => ?_)
  refine lv_lload hx hb dX11_down_5 (lv_at hl 0 rfl) ?_
  refine lv_lload_n hx hb dX11_down_7 rfl (lv_at hl 2 rfl) ?_
  refine lv_lmul hx hb dX11_down_8 ?_
  refine lv_topl (fun v2 ev2 => ?_)
  refine lv_lload_n hx hb dX11_down_9 rfl (lv_at hl 1 rfl) ?_
  refine W.lcmp hx hb dX11_down_10 ?_
  refine lv_if_le (tgt := 21) hx hb dX11_down_11 (by decide) (fun c5 => ?_) (fun c5 => ?_)
  · skip
    have c5 := l_le (Eq.refl v2.toInt) (Eq.refl p0.toInt) c5
    refine lv_lload hx hb dX11_down_21 (lv_at hl 0 rfl) ?_
    refine W.widen (k := 0) (n := 0) (Nat.le_of_ble_eq_true rfl) (Nat.le_of_ble_eq_true rfl) ?_
    exact W.lret (v := v1) hx hb hr (fun t ht hW => ⟨⟨v1, rfl, trivial, CB.nil⟩, hS.F ht⟩) hS.2.2 dX11_down_23
  · skip
    have c5 := l_nle (Eq.refl v2.toInt) (Eq.refl p0.toInt) c5
    refine lv_lload hx hb dX11_down_14 (lv_at hl 0 rfl) ?_
    refine lv_lconst (v := 1) hx hb dX11_down_16 (by decide) ?_
    refine lv_lsub hx hb dX11_down_17 ?_
    refine lv_topl (fun v6 ev6 => ?_)
    refine lv_goto (tgt := 23) hx hb dX11_down_18 (by decide) ?_
    refine W.widen (k := 0) (n := 0) (Nat.le_of_ble_eq_true rfl) (Nat.le_of_ble_eq_true rfl) ?_
    exact W.lret (v := v6) hx hb hr (fun t ht hW => ⟨⟨v6, rfl, trivial, CB.nil⟩, hS.F ht⟩) hS.2.2 dX11_down_23
set_option maxHeartbeats 4000000 in
set_option maxRecDepth 100000 in
theorem m_isHour (l : Launch) (D : va_G) (Y : Nat → ClassId) (Z : Nat → Nat) (sz : Nat)  (p0 : Int32) : Met l yX11_isHour (.code yX11_isHour cX11_isHour 1 (some .boolean) :: GW) ({ frames := 0, cells := 0, slots := 0, locals := 0 }) (va_Pc [.int p0] (CP D Y Z [] sz)) (QG (S := Int32) (fun u => some (.int u)) (fun u => ((0 ≤ p0.toInt ∧ p0.toInt ≤ 599 ∧ u.toInt = 1) ∨ (¬ (0 ≤ p0.toInt ∧ p0.toInt ≤ 599) ∧ u.toInt = 0)) ∧ (0 ≤ u.toInt ∧ u.toInt ≤ 1)) (fun u => CB D [] (va_A [] sz)) (va_A [] sz)) 0 0 (va_A [] sz) := by
  refine Met.ofW (cc := cX11_isHour) (maxL := 1) (ret := (some .boolean)) (by decide) rfl ?_
  intro p e s m args below meth c s₁ B hml hv
  obtain ⟨rfl, hsz, hP, hKN, hD0⟩ := hv
  have hx := B.exec
  have hb := B.bytes
  have hr := B.returns
  have hts := atoms_spec (ws := .code yX11_isHour cX11_isHour 1 (some .boolean) :: GW) B.pre
  have hg : ∀ w ∈ GW, w.before _ s = true := fun w h => hts w (List.mem_cons_of_mem _ h)
  have hown : s.vm.findClass RX11 = some m.cls := findClass_of_methodNamed B.named
  have hlocks := B.notSynchronized
  subst hsz
  have hD := hD0.self (sz := s.heap.size)
  generalize hAe : va_A [] s.heap.size = A at hD ⊢
  have hA : ∀ q : Nat, s.heap.size ≤ q → A q := fun q h => by rw [← hAe]; exact Or.inr h
  clear hAe hD0 hts B
  have hl := lv_entry ([.int p0]) (n := 1) (Nat.le_of_ble_eq_true rfl)
  rw [lg_entry_eq]
  generalize (lg_sl ([.int p0]) ++ List.replicate (1 - (lg_sl ([.int p0])).length) Slot.unset).toArray = ls at hl ⊢
  have hl : lv_has ls 1 [(0, .int p0)] := hl
  refine w_start (A0 := A) hP (fun H locs hP hS => ?_)
  refine lv_iload_n hx hb dX11_isHour_0 rfl (lv_at hl 0 rfl) ?_
  have j4 := rgI p0
  refine lv_if_lt (tgt := 15) hx hb dX11_isHour_1 (by decide) (fun c5 => ?_) (fun c5 => ?_)
  · skip
    have c5 := i_lt (Eq.refl p0.toInt) (show (0 : Int32).toInt = 0 by decide) c5
    refine lv_iconst (v := 0) hx hb dX11_isHour_15 (by decide) ?_
    refine W.widen (k := 0) (n := 0) (Nat.le_of_ble_eq_true rfl) (Nat.le_of_ble_eq_true rfl) ?_
    have zi0 : (0 : Int32).toInt = 0 := by decide
    exact W.zret (v := 0) hx hb hr (by decide) (fun t ht hW => ⟨⟨0, rfl, ⟨(show ((0 ≤ p0.toInt ∧ p0.toInt ≤ 599 ∧ (0 : Int32).toInt = 1) ∨ (¬ (0 ≤ p0.toInt ∧ p0.toInt ≤ 599) ∧ (0 : Int32).toInt = 0)) by omega), (show (0 ≤ (0 : Int32).toInt ∧ (0 : Int32).toInt ≤ 1) by omega)⟩, CB.nil⟩, hS.F ht⟩) hS.2.2 dX11_isHour_16
  · skip
    have c5 := i_nlt (Eq.refl p0.toInt) (show (0 : Int32).toInt = 0 by decide) c5
    refine lv_iload_n hx hb dX11_isHour_4 rfl (lv_at hl 0 rfl) ?_
    refine lv_sipush (v := 600) hx hb dX11_isHour_5 (by decide) ?_
    refine lv_icmp_ge (tgt := 15) hx hb dX11_isHour_8 (by decide) (fun c7 => ?_) (fun c7 => ?_)
    · skip
      have c7 := i_le (show (600 : Int32).toInt = 600 by decide) (Eq.refl p0.toInt) c7
      refine lv_iconst (v := 0) hx hb dX11_isHour_15 (by decide) ?_
      refine W.widen (k := 0) (n := 0) (Nat.le_of_ble_eq_true rfl) (Nat.le_of_ble_eq_true rfl) ?_
      have zi0 : (0 : Int32).toInt = 0 := by decide
      exact W.zret (v := 0) hx hb hr (by decide) (fun t ht hW => ⟨⟨0, rfl, ⟨(show ((0 ≤ p0.toInt ∧ p0.toInt ≤ 599 ∧ (0 : Int32).toInt = 1) ∨ (¬ (0 ≤ p0.toInt ∧ p0.toInt ≤ 599) ∧ (0 : Int32).toInt = 0)) by omega), (show (0 ≤ (0 : Int32).toInt ∧ (0 : Int32).toInt ≤ 1) by omega)⟩, CB.nil⟩, hS.F ht⟩) hS.2.2 dX11_isHour_16
    · skip
      have c7 := i_nle (show (600 : Int32).toInt = 600 by decide) (Eq.refl p0.toInt) c7
      refine lv_iconst (v := 1) hx hb dX11_isHour_11 (by decide) ?_
      refine lv_goto (tgt := 16) hx hb dX11_isHour_12 (by decide) ?_
      refine W.widen (k := 0) (n := 0) (Nat.le_of_ble_eq_true rfl) (Nat.le_of_ble_eq_true rfl) ?_
      have zi1 : (1 : Int32).toInt = 1 := by decide
      exact W.zret (v := 1) hx hb hr (by decide) (fun t ht hW => ⟨⟨1, rfl, ⟨(show ((0 ≤ p0.toInt ∧ p0.toInt ≤ 599 ∧ (1 : Int32).toInt = 1) ∨ (¬ (0 ≤ p0.toInt ∧ p0.toInt ≤ 599) ∧ (1 : Int32).toInt = 0)) by omega), (show (0 ≤ (1 : Int32).toInt ∧ (1 : Int32).toInt ≤ 1) by omega)⟩, CB.nil⟩, hS.F ht⟩) hS.2.2 dX11_isHour_16
set_option maxHeartbeats 4000000 in
set_option maxRecDepth 100000 in
theorem m_strength (l : Launch) (D : va_G) (Y : Nat → ClassId) (Z : Nat → Nat) (sz : Nat)  (p0 : Int32) : Met l yX11_strength (.code yX11_strength cX11_strength 1 (some .int) :: GW) ({ frames := 0, cells := 0, slots := 0, locals := 0 }) (va_Pc [.int p0] (CP D Y Z [] sz)) (QG (S := Int32) (fun u => some (.int u)) (fun u => (0 ≤ u.toInt ∧ u.toInt ≤ 3) ∧ ((p0.toInt = 13 ∧ u.toInt = 1) ∨ (p0.toInt = 12 ∧ u.toInt = 2) ∨ (p0.toInt = 11 ∧ u.toInt = 3) ∨ (p0.toInt ≠ 11 ∧ p0.toInt ≠ 12 ∧ p0.toInt ≠ 13 ∧ u.toInt = 0))) (fun u => CB D [] (va_A [] sz)) (va_A [] sz)) 0 0 (va_A [] sz) := by
  refine Met.ofW (cc := cX11_strength) (maxL := 1) (ret := (some .int)) (by decide) rfl ?_
  intro p e s m args below meth c s₁ B hml hv
  obtain ⟨rfl, hsz, hP, hKN, hD0⟩ := hv
  have hx := B.exec
  have hb := B.bytes
  have hr := B.returns
  have hts := atoms_spec (ws := .code yX11_strength cX11_strength 1 (some .int) :: GW) B.pre
  have hg : ∀ w ∈ GW, w.before _ s = true := fun w h => hts w (List.mem_cons_of_mem _ h)
  have hown : s.vm.findClass RX11 = some m.cls := findClass_of_methodNamed B.named
  have hlocks := B.notSynchronized
  subst hsz
  have hD := hD0.self (sz := s.heap.size)
  generalize hAe : va_A [] s.heap.size = A at hD ⊢
  have hA : ∀ q : Nat, s.heap.size ≤ q → A q := fun q h => by rw [← hAe]; exact Or.inr h
  clear hAe hD0 hts B
  have hl := lv_entry ([.int p0]) (n := 1) (Nat.le_of_ble_eq_true rfl)
  rw [lg_entry_eq]
  generalize (lg_sl ([.int p0]) ++ List.replicate (1 - (lg_sl ([.int p0])).length) Slot.unset).toArray = ls at hl ⊢
  have hl : lv_has ls 1 [(0, .int p0)] := hl
  refine w_start (A0 := A) hP (fun H locs hP hS => ?_)
  refine lv_iload_n hx hb dX11_strength_0 rfl (lv_at hl 0 rfl) ?_
  refine lv_bipush (v := 13) hx hb dX11_strength_1 (by decide) ?_
  have j5 := rgI p0
  refine lv_icmp_ne (tgt := 10) hx hb dX11_strength_3 (by decide) (fun c6 => ?_) (fun c6 => ?_)
  · skip
    have c6 := i_ne (Eq.refl p0.toInt) (show (13 : Int32).toInt = 13 by decide) c6
    refine lv_iload_n hx hb dX11_strength_10 rfl (lv_at hl 0 rfl) ?_
    refine lv_bipush (v := 12) hx hb dX11_strength_11 (by decide) ?_
    refine lv_icmp_ne (tgt := 20) hx hb dX11_strength_13 (by decide) (fun c9 => ?_) (fun c9 => ?_)
    · skip
      have c9 := i_ne (Eq.refl p0.toInt) (show (12 : Int32).toInt = 12 by decide) c9
      refine lv_iload_n hx hb dX11_strength_20 rfl (lv_at hl 0 rfl) ?_
      refine lv_bipush (v := 11) hx hb dX11_strength_21 (by decide) ?_
      refine lv_icmp_ne (tgt := 30) hx hb dX11_strength_23 (by decide) (fun c11 => ?_) (fun c11 => ?_)
      · skip
        have c11 := i_ne (Eq.refl p0.toInt) (show (11 : Int32).toInt = 11 by decide) c11
        refine lv_iconst (v := 0) hx hb dX11_strength_30 (by decide) ?_
        refine W.widen (k := 0) (n := 0) (Nat.le_of_ble_eq_true rfl) (Nat.le_of_ble_eq_true rfl) ?_
        have zi0 : (0 : Int32).toInt = 0 := by decide
        exact W.iret (v := 0) hx hb hr (fun t ht hW => ⟨⟨0, rfl, ⟨(show (0 ≤ (0 : Int32).toInt ∧ (0 : Int32).toInt ≤ 3) by omega), (show ((p0.toInt = 13 ∧ (0 : Int32).toInt = 1) ∨ (p0.toInt = 12 ∧ (0 : Int32).toInt = 2) ∨ (p0.toInt = 11 ∧ (0 : Int32).toInt = 3) ∨ (p0.toInt ≠ 11 ∧ p0.toInt ≠ 12 ∧ p0.toInt ≠ 13 ∧ (0 : Int32).toInt = 0)) by omega)⟩, CB.nil⟩, hS.F ht⟩) hS.2.2 dX11_strength_31
      · skip
        have c11 := i_eq (Eq.refl p0.toInt) (show (11 : Int32).toInt = 11 by decide) c11
        refine lv_iconst (v := 3) hx hb dX11_strength_26 (by decide) ?_
        refine lv_goto (tgt := 31) hx hb dX11_strength_27 (by decide) ?_
        refine W.widen (k := 0) (n := 0) (Nat.le_of_ble_eq_true rfl) (Nat.le_of_ble_eq_true rfl) ?_
        have zi3 : (3 : Int32).toInt = 3 := by decide
        exact W.iret (v := 3) hx hb hr (fun t ht hW => ⟨⟨3, rfl, ⟨(show (0 ≤ (3 : Int32).toInt ∧ (3 : Int32).toInt ≤ 3) by omega), (show ((p0.toInt = 13 ∧ (3 : Int32).toInt = 1) ∨ (p0.toInt = 12 ∧ (3 : Int32).toInt = 2) ∨ (p0.toInt = 11 ∧ (3 : Int32).toInt = 3) ∨ (p0.toInt ≠ 11 ∧ p0.toInt ≠ 12 ∧ p0.toInt ≠ 13 ∧ (3 : Int32).toInt = 0)) by omega)⟩, CB.nil⟩, hS.F ht⟩) hS.2.2 dX11_strength_31
    · skip
      have c9 := i_eq (Eq.refl p0.toInt) (show (12 : Int32).toInt = 12 by decide) c9
      refine lv_iconst (v := 2) hx hb dX11_strength_16 (by decide) ?_
      refine lv_goto (tgt := 31) hx hb dX11_strength_17 (by decide) ?_
      refine W.widen (k := 0) (n := 0) (Nat.le_of_ble_eq_true rfl) (Nat.le_of_ble_eq_true rfl) ?_
      have zi2 : (2 : Int32).toInt = 2 := by decide
      exact W.iret (v := 2) hx hb hr (fun t ht hW => ⟨⟨2, rfl, ⟨(show (0 ≤ (2 : Int32).toInt ∧ (2 : Int32).toInt ≤ 3) by omega), (show ((p0.toInt = 13 ∧ (2 : Int32).toInt = 1) ∨ (p0.toInt = 12 ∧ (2 : Int32).toInt = 2) ∨ (p0.toInt = 11 ∧ (2 : Int32).toInt = 3) ∨ (p0.toInt ≠ 11 ∧ p0.toInt ≠ 12 ∧ p0.toInt ≠ 13 ∧ (2 : Int32).toInt = 0)) by omega)⟩, CB.nil⟩, hS.F ht⟩) hS.2.2 dX11_strength_31
  · skip
    have c6 := i_eq (Eq.refl p0.toInt) (show (13 : Int32).toInt = 13 by decide) c6
    refine lv_iconst (v := 1) hx hb dX11_strength_6 (by decide) ?_
    refine lv_goto (tgt := 31) hx hb dX11_strength_7 (by decide) ?_
    refine W.widen (k := 0) (n := 0) (Nat.le_of_ble_eq_true rfl) (Nat.le_of_ble_eq_true rfl) ?_
    have zi1 : (1 : Int32).toInt = 1 := by decide
    exact W.iret (v := 1) hx hb hr (fun t ht hW => ⟨⟨1, rfl, ⟨(show (0 ≤ (1 : Int32).toInt ∧ (1 : Int32).toInt ≤ 3) by omega), (show ((p0.toInt = 13 ∧ (1 : Int32).toInt = 1) ∨ (p0.toInt = 12 ∧ (1 : Int32).toInt = 2) ∨ (p0.toInt = 11 ∧ (1 : Int32).toInt = 3) ∨ (p0.toInt ≠ 11 ∧ p0.toInt ≠ 12 ∧ p0.toInt ≠ 13 ∧ (1 : Int32).toInt = 0)) by omega)⟩, CB.nil⟩, hS.F ht⟩) hS.2.2 dX11_strength_31
set_option maxHeartbeats 4000000 in
set_option maxRecDepth 100000 in
theorem m_one (l : Launch) (D : va_G) (Y : Nat → ClassId) (Z : Nat → Nat) (sz : Nat)  (p0 : Int32) (p1 : Int64) (p2 : Int64) : Met l yX11_one (.code yX11_one cX11_one 5 (some .long) :: GW) ({ frames := 0, cells := 0, slots := 0, locals := 0 }) (va_Pc [.int p0, .long p1, .long p2] (CP D Y Z [] sz)) (QG (S := Int64) (fun u => some (.long u)) (fun u => True) (fun u => CB D [] (va_A [] sz)) (va_A [] sz)) 0 0 (va_A [] sz) := by
  refine Met.ofW (cc := cX11_one) (maxL := 5) (ret := (some .long)) (by decide) rfl ?_
  intro p e s m args below meth c s₁ B hml hv
  obtain ⟨rfl, hsz, hP, hKN, hD0⟩ := hv
  have hx := B.exec
  have hb := B.bytes
  have hr := B.returns
  have hts := atoms_spec (ws := .code yX11_one cX11_one 5 (some .long) :: GW) B.pre
  have hg : ∀ w ∈ GW, w.before _ s = true := fun w h => hts w (List.mem_cons_of_mem _ h)
  have hown : s.vm.findClass RX11 = some m.cls := findClass_of_methodNamed B.named
  have hlocks := B.notSynchronized
  subst hsz
  have hD := hD0.self (sz := s.heap.size)
  generalize hAe : va_A [] s.heap.size = A at hD ⊢
  have hA : ∀ q : Nat, s.heap.size ≤ q → A q := fun q h => by rw [← hAe]; exact Or.inr h
  clear hAe hD0 hts B
  have hl := lv_entry ([.int p0, .long p1, .long p2]) (n := 5) (Nat.le_of_ble_eq_true rfl)
  rw [lg_entry_eq]
  generalize (lg_sl ([.int p0, .long p1, .long p2]) ++ List.replicate (5 - (lg_sl ([.int p0, .long p1, .long p2])).length) Slot.unset).toArray = ls at hl ⊢
  have hl : lv_has ls 5 [(0, .int p0), (1, .long p1), (3, .long p2)] := hl
  refine w_start (A0 := A) hP (fun H locs hP hS => ?_)
  refine lv_iload_n hx hb dX11_one_0 rfl (lv_at hl 0 rfl) ?_
  rcases (show p0.toInt < 2 ∨ 12 < p0.toInt ∨ p0.toInt = 2 ∨ p0.toInt = 3 ∨ p0.toInt = 4 ∨ p0.toInt = 5 ∨ p0.toInt = 6 ∨ p0.toInt = 7 ∨ p0.toInt = 8 ∨ p0.toInt = 9 ∨ p0.toInt = 10 ∨ p0.toInt = 11 ∨ p0.toInt = 12 by omega) with c1 | c1 | c1 | c1 | c1 | c1 | c1 | c1 | c1 | c1 | c1 | c1 | c1
  · refine lv_tableOut (tgt := 150) hx hb dX11_one_1 (Or.inl c1) (by decide) ?_
    refine lv_lload_n hx hb dX11_one_150 rfl (lv_at hl 1 rfl) ?_
    refine lv_lload_n hx hb dX11_one_151 rfl (lv_at hl 2 rfl) ?_
    refine lv_lor hx hb dX11_one_152 ?_
    refine lv_topl (fun v2 ev2 => ?_)
    refine W.widen (k := 0) (n := 0) (Nat.le_of_ble_eq_true rfl) (Nat.le_of_ble_eq_true rfl) ?_
    exact W.lret (v := v2) hx hb hr (fun t ht hW => ⟨⟨v2, rfl, trivial, CB.nil⟩, hS.F ht⟩) hS.2.2 dX11_one_153
  · refine lv_tableOut (tgt := 150) hx hb dX11_one_1 (Or.inr c1) (by decide) ?_
    refine lv_lload_n hx hb dX11_one_150 rfl (lv_at hl 1 rfl) ?_
    refine lv_lload_n hx hb dX11_one_151 rfl (lv_at hl 2 rfl) ?_
    refine lv_lor hx hb dX11_one_152 ?_
    refine lv_topl (fun v3 ev3 => ?_)
    refine W.widen (k := 0) (n := 0) (Nat.le_of_ble_eq_true rfl) (Nat.le_of_ble_eq_true rfl) ?_
    exact W.lret (v := v3) hx hb hr (fun t ht hW => ⟨⟨v3, rfl, trivial, CB.nil⟩, hS.F ht⟩) hS.2.2 dX11_one_153
  · refine lv_tableIn (off := 59) (tgt := 60) hx hb dX11_one_1 (by rw [c1]; decide) (by rw [c1]; decide) (by rw [c1]; rfl) (by decide) ?_
    refine lv_lload_n hx hb dX11_one_60 rfl (lv_at hl 1 rfl) ?_
    refine lv_lload_n hx hb dX11_one_61 rfl (lv_at hl 2 rfl) ?_
    refine lv_ladd hx hb dX11_one_62 ?_
    refine lv_topl (fun v4 ev4 => ?_)
    refine W.widen (k := 0) (n := 0) (Nat.le_of_ble_eq_true rfl) (Nat.le_of_ble_eq_true rfl) ?_
    exact W.lret (v := v4) hx hb hr (fun t ht hW => ⟨⟨v4, rfl, trivial, CB.nil⟩, hS.F ht⟩) hS.2.2 dX11_one_63
  · refine lv_tableIn (off := 63) (tgt := 64) hx hb dX11_one_1 (by rw [c1]; decide) (by rw [c1]; decide) (by rw [c1]; rfl) (by decide) ?_
    refine lv_lload_n hx hb dX11_one_64 rfl (lv_at hl 1 rfl) ?_
    refine lv_lload_n hx hb dX11_one_65 rfl (lv_at hl 2 rfl) ?_
    refine lv_lsub hx hb dX11_one_66 ?_
    refine lv_topl (fun v5 ev5 => ?_)
    refine W.widen (k := 0) (n := 0) (Nat.le_of_ble_eq_true rfl) (Nat.le_of_ble_eq_true rfl) ?_
    exact W.lret (v := v5) hx hb hr (fun t ht hW => ⟨⟨v5, rfl, trivial, CB.nil⟩, hS.F ht⟩) hS.2.2 dX11_one_67
  · refine lv_tableIn (off := 67) (tgt := 68) hx hb dX11_one_1 (by rw [c1]; decide) (by rw [c1]; decide) (by rw [c1]; rfl) (by decide) ?_
    refine lv_lload_n hx hb dX11_one_68 rfl (lv_at hl 1 rfl) ?_
    refine lv_lload_n hx hb dX11_one_69 rfl (lv_at hl 2 rfl) ?_
    refine lv_lmul hx hb dX11_one_70 ?_
    refine lv_topl (fun v6 ev6 => ?_)
    refine W.widen (k := 0) (n := 0) (Nat.le_of_ble_eq_true rfl) (Nat.le_of_ble_eq_true rfl) ?_
    exact W.lret (v := v6) hx hb hr (fun t ht hW => ⟨⟨v6, rfl, trivial, CB.nil⟩, hS.F ht⟩) hS.2.2 dX11_one_71
  · refine lv_tableIn (off := 71) (tgt := 72) hx hb dX11_one_1 (by rw [c1]; decide) (by rw [c1]; decide) (by rw [c1]; rfl) (by decide) ?_
    refine lv_lload_n hx hb dX11_one_72 rfl (lv_at hl 2 rfl) ?_
    refine lv_lconst (v := 0) hx hb dX11_one_73 (by decide) ?_
    refine W.lcmp hx hb dX11_one_74 ?_
    refine lv_if_ne (tgt := 82) hx hb dX11_one_75 (by decide) (fun c9 => ?_) (fun c9 => ?_)
    · skip
      have c9 := l_ne (Eq.refl p2.toInt) (show (0 : Int64).toInt = 0 by decide) c9
      refine lv_lload_n hx hb dX11_one_82 rfl (lv_at hl 1 rfl) ?_
      refine lv_lload_n hx hb dX11_one_83 rfl (lv_at hl 2 rfl) ?_
      refine lv_ldiv hx hb dX11_one_84 (l_nz (Eq.refl p2.toInt) (by omega)) ?_
      refine lv_topl (fun v10 ev10 => ?_)
      refine W.widen (k := 0) (n := 0) (Nat.le_of_ble_eq_true rfl) (Nat.le_of_ble_eq_true rfl) ?_
      exact W.lret (v := v10) hx hb hr (fun t ht hW => ⟨⟨v10, rfl, trivial, CB.nil⟩, hS.F ht⟩) hS.2.2 dX11_one_85
    · skip
      have c9 := l_eq (Eq.refl p2.toInt) (show (0 : Int64).toInt = 0 by decide) c9
      refine lv_lconst (v := 0) hx hb dX11_one_78 (by decide) ?_
      refine lv_goto (tgt := 85) hx hb dX11_one_79 (by decide) ?_
      refine W.widen (k := 0) (n := 0) (Nat.le_of_ble_eq_true rfl) (Nat.le_of_ble_eq_true rfl) ?_
      have zl0 : (0 : Int64).toInt = 0 := by decide
      exact W.lret (v := 0) hx hb hr (fun t ht hW => ⟨⟨0, rfl, trivial, CB.nil⟩, hS.F ht⟩) hS.2.2 dX11_one_85
  · refine lv_tableIn (off := 85) (tgt := 86) hx hb dX11_one_1 (by rw [c1]; decide) (by rw [c1]; decide) (by rw [c1]; rfl) (by decide) ?_
    refine lv_lload_n hx hb dX11_one_86 rfl (lv_at hl 1 rfl) ?_
    refine lv_lload_n hx hb dX11_one_87 rfl (lv_at hl 2 rfl) ?_
    refine W.lcmp hx hb dX11_one_88 ?_
    refine lv_if_ge (tgt := 96) hx hb dX11_one_89 (by decide) (fun c12 => ?_) (fun c12 => ?_)
    · skip
      have c12 := l_ge (Eq.refl p1.toInt) (Eq.refl p2.toInt) c12
      refine lv_lconst (v := 0) hx hb dX11_one_96 (by decide) ?_
      refine W.widen (k := 0) (n := 0) (Nat.le_of_ble_eq_true rfl) (Nat.le_of_ble_eq_true rfl) ?_
      have zl0 : (0 : Int64).toInt = 0 := by decide
      exact W.lret (v := 0) hx hb hr (fun t ht hW => ⟨⟨0, rfl, trivial, CB.nil⟩, hS.F ht⟩) hS.2.2 dX11_one_97
    · skip
      have c12 := l_nge (Eq.refl p1.toInt) (Eq.refl p2.toInt) c12
      refine lv_lconst (v := 1) hx hb dX11_one_92 (by decide) ?_
      refine lv_goto (tgt := 97) hx hb dX11_one_93 (by decide) ?_
      refine W.widen (k := 0) (n := 0) (Nat.le_of_ble_eq_true rfl) (Nat.le_of_ble_eq_true rfl) ?_
      have zl1 : (1 : Int64).toInt = 1 := by decide
      exact W.lret (v := 1) hx hb hr (fun t ht hW => ⟨⟨1, rfl, trivial, CB.nil⟩, hS.F ht⟩) hS.2.2 dX11_one_97
  · refine lv_tableIn (off := 97) (tgt := 98) hx hb dX11_one_1 (by rw [c1]; decide) (by rw [c1]; decide) (by rw [c1]; rfl) (by decide) ?_
    refine lv_lload_n hx hb dX11_one_98 rfl (lv_at hl 1 rfl) ?_
    refine lv_lload_n hx hb dX11_one_99 rfl (lv_at hl 2 rfl) ?_
    refine W.lcmp hx hb dX11_one_100 ?_
    refine lv_if_gt (tgt := 108) hx hb dX11_one_101 (by decide) (fun c14 => ?_) (fun c14 => ?_)
    · skip
      have c14 := l_gt (Eq.refl p1.toInt) (Eq.refl p2.toInt) c14
      refine lv_lconst (v := 0) hx hb dX11_one_108 (by decide) ?_
      refine W.widen (k := 0) (n := 0) (Nat.le_of_ble_eq_true rfl) (Nat.le_of_ble_eq_true rfl) ?_
      have zl0 : (0 : Int64).toInt = 0 := by decide
      exact W.lret (v := 0) hx hb hr (fun t ht hW => ⟨⟨0, rfl, trivial, CB.nil⟩, hS.F ht⟩) hS.2.2 dX11_one_109
    · skip
      have c14 := l_ngt (Eq.refl p1.toInt) (Eq.refl p2.toInt) c14
      refine lv_lconst (v := 1) hx hb dX11_one_104 (by decide) ?_
      refine lv_goto (tgt := 109) hx hb dX11_one_105 (by decide) ?_
      refine W.widen (k := 0) (n := 0) (Nat.le_of_ble_eq_true rfl) (Nat.le_of_ble_eq_true rfl) ?_
      have zl1 : (1 : Int64).toInt = 1 := by decide
      exact W.lret (v := 1) hx hb hr (fun t ht hW => ⟨⟨1, rfl, trivial, CB.nil⟩, hS.F ht⟩) hS.2.2 dX11_one_109
  · refine lv_tableIn (off := 109) (tgt := 110) hx hb dX11_one_1 (by rw [c1]; decide) (by rw [c1]; decide) (by rw [c1]; rfl) (by decide) ?_
    refine lv_lload_n hx hb dX11_one_110 rfl (lv_at hl 1 rfl) ?_
    refine lv_lload_n hx hb dX11_one_111 rfl (lv_at hl 2 rfl) ?_
    refine W.lcmp hx hb dX11_one_112 ?_
    refine lv_if_ne (tgt := 120) hx hb dX11_one_113 (by decide) (fun c16 => ?_) (fun c16 => ?_)
    · skip
      have c16 := l_ne (Eq.refl p1.toInt) (Eq.refl p2.toInt) c16
      refine lv_lconst (v := 0) hx hb dX11_one_120 (by decide) ?_
      refine W.widen (k := 0) (n := 0) (Nat.le_of_ble_eq_true rfl) (Nat.le_of_ble_eq_true rfl) ?_
      have zl0 : (0 : Int64).toInt = 0 := by decide
      exact W.lret (v := 0) hx hb hr (fun t ht hW => ⟨⟨0, rfl, trivial, CB.nil⟩, hS.F ht⟩) hS.2.2 dX11_one_121
    · skip
      have c16 := l_eq (Eq.refl p1.toInt) (Eq.refl p2.toInt) c16
      refine lv_lconst (v := 1) hx hb dX11_one_116 (by decide) ?_
      refine lv_goto (tgt := 121) hx hb dX11_one_117 (by decide) ?_
      refine W.widen (k := 0) (n := 0) (Nat.le_of_ble_eq_true rfl) (Nat.le_of_ble_eq_true rfl) ?_
      have zl1 : (1 : Int64).toInt = 1 := by decide
      exact W.lret (v := 1) hx hb hr (fun t ht hW => ⟨⟨1, rfl, trivial, CB.nil⟩, hS.F ht⟩) hS.2.2 dX11_one_121
  · refine lv_tableIn (off := 121) (tgt := 122) hx hb dX11_one_1 (by rw [c1]; decide) (by rw [c1]; decide) (by rw [c1]; rfl) (by decide) ?_
    refine lv_lload_n hx hb dX11_one_122 rfl (lv_at hl 1 rfl) ?_
    refine lv_lload_n hx hb dX11_one_123 rfl (lv_at hl 2 rfl) ?_
    refine W.lcmp hx hb dX11_one_124 ?_
    refine lv_if_lt (tgt := 132) hx hb dX11_one_125 (by decide) (fun c18 => ?_) (fun c18 => ?_)
    · skip
      have c18 := l_lt (Eq.refl p1.toInt) (Eq.refl p2.toInt) c18
      refine lv_lconst (v := 0) hx hb dX11_one_132 (by decide) ?_
      refine W.widen (k := 0) (n := 0) (Nat.le_of_ble_eq_true rfl) (Nat.le_of_ble_eq_true rfl) ?_
      have zl0 : (0 : Int64).toInt = 0 := by decide
      exact W.lret (v := 0) hx hb hr (fun t ht hW => ⟨⟨0, rfl, trivial, CB.nil⟩, hS.F ht⟩) hS.2.2 dX11_one_133
    · skip
      have c18 := l_nlt (Eq.refl p1.toInt) (Eq.refl p2.toInt) c18
      refine lv_lconst (v := 1) hx hb dX11_one_128 (by decide) ?_
      refine lv_goto (tgt := 133) hx hb dX11_one_129 (by decide) ?_
      refine W.widen (k := 0) (n := 0) (Nat.le_of_ble_eq_true rfl) (Nat.le_of_ble_eq_true rfl) ?_
      have zl1 : (1 : Int64).toInt = 1 := by decide
      exact W.lret (v := 1) hx hb hr (fun t ht hW => ⟨⟨1, rfl, trivial, CB.nil⟩, hS.F ht⟩) hS.2.2 dX11_one_133
  · refine lv_tableIn (off := 133) (tgt := 134) hx hb dX11_one_1 (by rw [c1]; decide) (by rw [c1]; decide) (by rw [c1]; rfl) (by decide) ?_
    refine lv_lload_n hx hb dX11_one_134 rfl (lv_at hl 1 rfl) ?_
    refine lv_lload_n hx hb dX11_one_135 rfl (lv_at hl 2 rfl) ?_
    refine W.lcmp hx hb dX11_one_136 ?_
    refine lv_if_le (tgt := 144) hx hb dX11_one_137 (by decide) (fun c20 => ?_) (fun c20 => ?_)
    · skip
      have c20 := l_le (Eq.refl p1.toInt) (Eq.refl p2.toInt) c20
      refine lv_lconst (v := 0) hx hb dX11_one_144 (by decide) ?_
      refine W.widen (k := 0) (n := 0) (Nat.le_of_ble_eq_true rfl) (Nat.le_of_ble_eq_true rfl) ?_
      have zl0 : (0 : Int64).toInt = 0 := by decide
      exact W.lret (v := 0) hx hb hr (fun t ht hW => ⟨⟨0, rfl, trivial, CB.nil⟩, hS.F ht⟩) hS.2.2 dX11_one_145
    · skip
      have c20 := l_nle (Eq.refl p1.toInt) (Eq.refl p2.toInt) c20
      refine lv_lconst (v := 1) hx hb dX11_one_140 (by decide) ?_
      refine lv_goto (tgt := 145) hx hb dX11_one_141 (by decide) ?_
      refine W.widen (k := 0) (n := 0) (Nat.le_of_ble_eq_true rfl) (Nat.le_of_ble_eq_true rfl) ?_
      have zl1 : (1 : Int64).toInt = 1 := by decide
      exact W.lret (v := 1) hx hb hr (fun t ht hW => ⟨⟨1, rfl, trivial, CB.nil⟩, hS.F ht⟩) hS.2.2 dX11_one_145
  · refine lv_tableIn (off := 149) (tgt := 150) hx hb dX11_one_1 (by rw [c1]; decide) (by rw [c1]; decide) (by rw [c1]; rfl) (by decide) ?_
    refine lv_lload_n hx hb dX11_one_150 rfl (lv_at hl 1 rfl) ?_
    refine lv_lload_n hx hb dX11_one_151 rfl (lv_at hl 2 rfl) ?_
    refine lv_lor hx hb dX11_one_152 ?_
    refine lv_topl (fun v21 ev21 => ?_)
    refine W.widen (k := 0) (n := 0) (Nat.le_of_ble_eq_true rfl) (Nat.le_of_ble_eq_true rfl) ?_
    exact W.lret (v := v21) hx hb hr (fun t ht hW => ⟨⟨v21, rfl, trivial, CB.nil⟩, hS.F ht⟩) hS.2.2 dX11_one_153
  · refine lv_tableIn (off := 145) (tgt := 146) hx hb dX11_one_1 (by rw [c1]; decide) (by rw [c1]; decide) (by rw [c1]; rfl) (by decide) ?_
    refine lv_lload_n hx hb dX11_one_146 rfl (lv_at hl 1 rfl) ?_
    refine lv_lload_n hx hb dX11_one_147 rfl (lv_at hl 2 rfl) ?_
    refine lv_land hx hb dX11_one_148 ?_
    refine lv_topl (fun v22 ev22 => ?_)
    refine W.widen (k := 0) (n := 0) (Nat.le_of_ble_eq_true rfl) (Nat.le_of_ble_eq_true rfl) ?_
    exact W.lret (v := v22) hx hb hr (fun t ht hW => ⟨⟨v22, rfl, trivial, CB.nil⟩, hS.F ht⟩) hS.2.2 dX11_one_149
set_option maxHeartbeats 4000000 in
set_option maxRecDepth 100000 in
theorem m_isStar (l : Launch) (D : va_G) (Y : Nat → ClassId) (Z : Nat → Nat) (sz : Nat) (o : Nat) (a : Nat → Nat) (I : Nat → Int32) (J : Nat → Int64) (F : Nat → Nat → Int32) (G : Nat → Nat → Int64) (p1 : Int32) (hk0 : TO (F 0)) : Met l yX11_isStar (.code yX11_isStar cX11_isStar 2 (some .boolean) :: GW) ({ frames := 0, cells := 0, slots := 0, locals := 0 }) (va_Pc [.ref o, .int p1] (CP D Y Z (MW Y o a I J F G) sz)) (QG (S := Int32) (fun u => some (.int u)) (fun u => ((0 ≤ p1.toInt ∧ p1.toInt ≤ 11 ∧ p1.toInt < ((F 0) 0).toInt ∧ u.toInt = 1) ∨ (¬ (0 ≤ p1.toInt ∧ p1.toInt < ((F 0) 0).toInt) ∧ u.toInt = 0)) ∧ (0 ≤ u.toInt ∧ u.toInt ≤ 1)) (fun u => CB D (MW Y o a I J F G) (va_A (MW Y o a I J F G) sz)) (va_A (MW Y o a I J F G) sz)) 0 0 (va_A (MW Y o a I J F G) sz) := by
  refine Met.ofW (cc := cX11_isStar) (maxL := 2) (ret := (some .boolean)) (by decide) rfl ?_
  intro p e s m args below meth c s₁ B hml hv
  obtain ⟨rfl, hsz, hP, hKN, hD0⟩ := hv
  have hx := B.exec
  have hb := B.bytes
  have hr := B.returns
  have hts := atoms_spec (ws := .code yX11_isStar cX11_isStar 2 (some .boolean) :: GW) B.pre
  have hg : ∀ w ∈ GW, w.before _ s = true := fun w h => hts w (List.mem_cons_of_mem _ h)
  have hown : s.vm.findClass RX11 = some m.cls := findClass_of_methodNamed B.named
  have hlocks := B.notSynchronized
  subst hsz
  have hD := hD0.self (sz := s.heap.size)
  generalize hAe : va_A (MW Y o a I J F G) s.heap.size = A at hD ⊢
  have hA : ∀ q : Nat, s.heap.size ≤ q → A q := fun q h => by rw [← hAe]; exact Or.inr h
  clear hAe hD0 hts B
  have hl := lv_entry ([.ref o, .int p1]) (n := 2) (Nat.le_of_ble_eq_true rfl)
  rw [lg_entry_eq]
  generalize (lg_sl ([.ref o, .int p1]) ++ List.replicate (2 - (lg_sl ([.ref o, .int p1])).length) Slot.unset).toArray = ls at hl ⊢
  have hl : lv_has ls 2 [(0, .ref o), (1, .int p1)] := hl
  refine w_start (A0 := A) hP (fun H locs hP hS => ?_)
  refine lv_iload_n hx hb dX11_isStar_0 rfl (lv_at hl 1 rfl) ?_
  have j5 := rgI p1
  refine lv_if_lt (tgt := 18) hx hb dX11_isStar_1 (by decide) (fun c6 => ?_) (fun c6 => ?_)
  · skip
    have c6 := i_lt (Eq.refl p1.toInt) (show (0 : Int32).toInt = 0 by decide) c6
    refine lv_iconst (v := 0) hx hb dX11_isStar_18 (by decide) ?_
    refine W.widen (k := 0) (n := 0) (Nat.le_of_ble_eq_true rfl) (Nat.le_of_ble_eq_true rfl) ?_
    have zi0 : (0 : Int32).toInt = 0 := by decide
    exact W.zret (v := 0) hx hb hr (by decide) (fun t ht hW => ⟨⟨0, rfl, ⟨(show ((0 ≤ p1.toInt ∧ p1.toInt ≤ 11 ∧ p1.toInt < ((F 0) 0).toInt ∧ (0 : Int32).toInt = 1) ∨ (¬ (0 ≤ p1.toInt ∧ p1.toInt < ((F 0) 0).toInt) ∧ (0 : Int32).toInt = 0)) by omega), (show (0 ≤ (0 : Int32).toInt ∧ (0 : Int32).toInt ≤ 1) by omega)⟩, CB.mk ht hP hD⟩, hS.F ht⟩) hS.2.2 dX11_isStar_19
  · skip
    have c6 := i_nlt (Eq.refl p1.toInt) (show (0 : Int32).toInt = 0 by decide) c6
    refine lv_iload_n hx hb dX11_isStar_4 rfl (lv_at hl 1 rfl) ?_
    refine lv_aload_n hx hb dX11_isStar_5 rfl (lv_at hl 0 rfl) ?_
    refine va_get (D := D) (ci := 11) (v := .ref (a 0)) (C := RX11) (T := TX11) (N := 49) hx hb hg inGX11 hown hKN.1 hP 0 rfl rfl 0 (by decide) (hg _ kw_1208) (fun _ h9 => h9) rfl dX11_isStar_6 ?_
    refine lv_iconst (v := 0) hx hb dX11_isStar_9 (by decide) ?_
    refine va_iald hx hb hKN.1 hP 1 0 rfl rfl (show ¬ ((0 : Int32) < 0 ∨ 7533 ≤ (0 : Int32).toNatClampNeg) by decide) dX11_isStar_10 ?_
    refine lv_topi (fun v7 ev7 => ?_)
    have ev7 : v7 = (F 0) 0 := ev7
    have kv7 := TO_0 hk0
    rw [← ev7] at kv7
    have qv7 := congrArg Int32.toInt ev7
    refine lv_icmp_ge (tgt := 18) hx hb dX11_isStar_11 (by decide) (fun c9 => ?_) (fun c9 => ?_)
    · skip
      have c9 := i_le (Eq.refl v7.toInt) (Eq.refl p1.toInt) c9
      refine lv_iconst (v := 0) hx hb dX11_isStar_18 (by decide) ?_
      refine W.widen (k := 0) (n := 0) (Nat.le_of_ble_eq_true rfl) (Nat.le_of_ble_eq_true rfl) ?_
      have zi0 : (0 : Int32).toInt = 0 := by decide
      exact W.zret (v := 0) hx hb hr (by decide) (fun t ht hW => ⟨⟨0, rfl, ⟨(show ((0 ≤ p1.toInt ∧ p1.toInt ≤ 11 ∧ p1.toInt < ((F 0) 0).toInt ∧ (0 : Int32).toInt = 1) ∨ (¬ (0 ≤ p1.toInt ∧ p1.toInt < ((F 0) 0).toInt) ∧ (0 : Int32).toInt = 0)) by omega), (show (0 ≤ (0 : Int32).toInt ∧ (0 : Int32).toInt ≤ 1) by omega)⟩, CB.mk ht hP hD⟩, hS.F ht⟩) hS.2.2 dX11_isStar_19
    · skip
      have c9 := i_nle (Eq.refl v7.toInt) (Eq.refl p1.toInt) c9
      refine lv_iconst (v := 1) hx hb dX11_isStar_14 (by decide) ?_
      refine lv_goto (tgt := 19) hx hb dX11_isStar_15 (by decide) ?_
      refine W.widen (k := 0) (n := 0) (Nat.le_of_ble_eq_true rfl) (Nat.le_of_ble_eq_true rfl) ?_
      have zi1 : (1 : Int32).toInt = 1 := by decide
      exact W.zret (v := 1) hx hb hr (by decide) (fun t ht hW => ⟨⟨1, rfl, ⟨(show ((0 ≤ p1.toInt ∧ p1.toInt ≤ 11 ∧ p1.toInt < ((F 0) 0).toInt ∧ (1 : Int32).toInt = 1) ∨ (¬ (0 ≤ p1.toInt ∧ p1.toInt < ((F 0) 0).toInt) ∧ (1 : Int32).toInt = 0)) by omega), (show (0 ≤ (1 : Int32).toInt ∧ (1 : Int32).toInt ≤ 1) by omega)⟩, CB.mk ht hP hD⟩, hS.F ht⟩) hS.2.2 dX11_isStar_19
set_option maxHeartbeats 4000000 in
set_option maxRecDepth 100000 in
theorem m_starOf0 (l : Launch) (D : va_G) (Y : Nat → ClassId) (Z : Nat → Nat) (sz : Nat) (o : Nat) (a : Nat → Nat) (I : Nat → Int32) (J : Nat → Int64) (F : Nat → Nat → Int32) (G : Nat → Nat → Int64) (p1 : Int32) (hk_0 : (0 ≤ p1.toInt ∧ p1.toInt ≤ 11)) (hk0 : TO (F 0)) : Met l yX11_starOf (.code yX11_starOf cX11_starOf 3 (some .int) :: GW) ({ frames := 0, cells := 0, slots := 0, locals := 0 }) (va_Pc [.ref o, .int p1, .int 0] (CP D Y Z (MW Y o a I J F G) sz)) (QG (S := Int32) (fun u => some (.int u)) (fun u => (0 ≤ u.toInt ∧ u.toInt ≤ 999)) (fun u => CB D (MW Y o a I J F G) (va_A (MW Y o a I J F G) sz)) (va_A (MW Y o a I J F G) sz)) 0 0 (va_A (MW Y o a I J F G) sz) := by
  refine Met.ofW (cc := cX11_starOf) (maxL := 3) (ret := (some .int)) (by decide) rfl ?_
  intro p e s m args below meth c s₁ B hml hv
  obtain ⟨rfl, hsz, hP, hKN, hD0⟩ := hv
  have hx := B.exec
  have hb := B.bytes
  have hr := B.returns
  have hts := atoms_spec (ws := .code yX11_starOf cX11_starOf 3 (some .int) :: GW) B.pre
  have hg : ∀ w ∈ GW, w.before _ s = true := fun w h => hts w (List.mem_cons_of_mem _ h)
  have hown : s.vm.findClass RX11 = some m.cls := findClass_of_methodNamed B.named
  have hlocks := B.notSynchronized
  subst hsz
  have hD := hD0.self (sz := s.heap.size)
  generalize hAe : va_A (MW Y o a I J F G) s.heap.size = A at hD ⊢
  have hA : ∀ q : Nat, s.heap.size ≤ q → A q := fun q h => by rw [← hAe]; exact Or.inr h
  clear hAe hD0 hts B
  have hl := lv_entry ([.ref o, .int p1, .int 0]) (n := 3) (Nat.le_of_ble_eq_true rfl)
  rw [lg_entry_eq]
  generalize (lg_sl ([.ref o, .int p1, .int 0]) ++ List.replicate (3 - (lg_sl ([.ref o, .int p1, .int 0])).length) Slot.unset).toArray = ls at hl ⊢
  have hl : lv_has ls 3 [(0, .ref o), (1, .int p1), (2, .int 0)] := hl
  refine w_start (A0 := A) hP (fun H locs hP hS => ?_)
  refine lv_aload_n hx hb dX11_starOf_0 rfl (lv_at hl 0 rfl) ?_
  refine va_get (D := D) (ci := 11) (v := .ref (a 0)) (C := RX11) (T := TX11) (N := 49) hx hb hg inGX11 hown hKN.1 hP 0 rfl rfl 0 (by decide) (hg _ kw_1208) (fun _ h9 => h9) rfl dX11_starOf_1 ?_
  refine lv_iconst (v := 3) hx hb dX11_starOf_4 (by decide) ?_
  refine lv_iconst (v := 3) hx hb dX11_starOf_5 (by decide) ?_
  refine lv_iload_n hx hb dX11_starOf_6 rfl (lv_at hl 1 rfl) ?_
  refine lv_imul hx hb dX11_starOf_7 ?_
  refine lv_topi (fun v1 ev1 => ?_)
  have hv1 := i_mul (show (3 : Int32).toInt = 3 by decide) (Eq.refl p1.toInt) ev1 (by omega) (by omega)
  refine lv_iadd hx hb dX11_starOf_8 ?_
  refine lv_topi (fun v2 ev2 => ?_)
  have hv2 := i_add (show (3 : Int32).toInt = 3 by decide) (Eq.refl v1.toInt) ev2 (by omega) (by omega)
  refine lv_iload_n hx hb dX11_starOf_9 rfl (lv_at hl 2 rfl) ?_
  refine lv_iadd hx hb dX11_starOf_10 ?_
  refine lv_topi (fun v3 ev3 => ?_)
  have hv3 := i_add (Eq.refl v2.toInt) (show (0 : Int32).toInt = 0 by decide) ev3 (by omega) (by omega)
  refine va_iald hx hb hKN.1 hP 1 0 rfl rfl (vp_in_iff.mpr ⟨by omega, by omega⟩) dX11_starOf_11 ?_
  refine lv_topi (fun v4 ev4 => ?_)
  have ev4 : v4 = (F 0) v3.toNatClampNeg := ev4
  have kv4 := TO_size hk0 (i := v3) p1.toInt (by omega) (by omega) (by omega)
  rw [← ev4] at kv4
  refine W.widen (k := 0) (n := 0) (Nat.le_of_ble_eq_true rfl) (Nat.le_of_ble_eq_true rfl) ?_
  have zi0 : (0 : Int32).toInt = 0 := by decide
  exact W.iret (v := v4) hx hb hr (fun t ht hW => ⟨⟨v4, rfl, ((show (0 ≤ v4.toInt ∧ v4.toInt ≤ 999) by omega)), CB.mk ht hP hD⟩, hS.F ht⟩) hS.2.2 dX11_starOf_12
set_option maxHeartbeats 4000000 in
set_option maxRecDepth 100000 in
theorem m_starOf1 (l : Launch) (D : va_G) (Y : Nat → ClassId) (Z : Nat → Nat) (sz : Nat) (o : Nat) (a : Nat → Nat) (I : Nat → Int32) (J : Nat → Int64) (F : Nat → Nat → Int32) (G : Nat → Nat → Int64) (p1 : Int32) (hk_0 : (0 ≤ p1.toInt ∧ p1.toInt ≤ 11)) (hk0 : TO (F 0)) : Met l yX11_starOf (.code yX11_starOf cX11_starOf 3 (some .int) :: GW) ({ frames := 0, cells := 0, slots := 0, locals := 0 }) (va_Pc [.ref o, .int p1, .int 1] (CP D Y Z (MW Y o a I J F G) sz)) (QG (S := Int32) (fun u => some (.int u)) (fun u => (0 ≤ u.toInt ∧ u.toInt ≤ 7)) (fun u => CB D (MW Y o a I J F G) (va_A (MW Y o a I J F G) sz)) (va_A (MW Y o a I J F G) sz)) 0 0 (va_A (MW Y o a I J F G) sz) := by
  refine Met.ofW (cc := cX11_starOf) (maxL := 3) (ret := (some .int)) (by decide) rfl ?_
  intro p e s m args below meth c s₁ B hml hv
  obtain ⟨rfl, hsz, hP, hKN, hD0⟩ := hv
  have hx := B.exec
  have hb := B.bytes
  have hr := B.returns
  have hts := atoms_spec (ws := .code yX11_starOf cX11_starOf 3 (some .int) :: GW) B.pre
  have hg : ∀ w ∈ GW, w.before _ s = true := fun w h => hts w (List.mem_cons_of_mem _ h)
  have hown : s.vm.findClass RX11 = some m.cls := findClass_of_methodNamed B.named
  have hlocks := B.notSynchronized
  subst hsz
  have hD := hD0.self (sz := s.heap.size)
  generalize hAe : va_A (MW Y o a I J F G) s.heap.size = A at hD ⊢
  have hA : ∀ q : Nat, s.heap.size ≤ q → A q := fun q h => by rw [← hAe]; exact Or.inr h
  clear hAe hD0 hts B
  have hl := lv_entry ([.ref o, .int p1, .int 1]) (n := 3) (Nat.le_of_ble_eq_true rfl)
  rw [lg_entry_eq]
  generalize (lg_sl ([.ref o, .int p1, .int 1]) ++ List.replicate (3 - (lg_sl ([.ref o, .int p1, .int 1])).length) Slot.unset).toArray = ls at hl ⊢
  have hl : lv_has ls 3 [(0, .ref o), (1, .int p1), (2, .int 1)] := hl
  refine w_start (A0 := A) hP (fun H locs hP hS => ?_)
  refine lv_aload_n hx hb dX11_starOf_0 rfl (lv_at hl 0 rfl) ?_
  refine va_get (D := D) (ci := 11) (v := .ref (a 0)) (C := RX11) (T := TX11) (N := 49) hx hb hg inGX11 hown hKN.1 hP 0 rfl rfl 0 (by decide) (hg _ kw_1208) (fun _ h9 => h9) rfl dX11_starOf_1 ?_
  refine lv_iconst (v := 3) hx hb dX11_starOf_4 (by decide) ?_
  refine lv_iconst (v := 3) hx hb dX11_starOf_5 (by decide) ?_
  refine lv_iload_n hx hb dX11_starOf_6 rfl (lv_at hl 1 rfl) ?_
  refine lv_imul hx hb dX11_starOf_7 ?_
  refine lv_topi (fun v1 ev1 => ?_)
  have hv1 := i_mul (show (3 : Int32).toInt = 3 by decide) (Eq.refl p1.toInt) ev1 (by omega) (by omega)
  refine lv_iadd hx hb dX11_starOf_8 ?_
  refine lv_topi (fun v2 ev2 => ?_)
  have hv2 := i_add (show (3 : Int32).toInt = 3 by decide) (Eq.refl v1.toInt) ev2 (by omega) (by omega)
  refine lv_iload_n hx hb dX11_starOf_9 rfl (lv_at hl 2 rfl) ?_
  refine lv_iadd hx hb dX11_starOf_10 ?_
  refine lv_topi (fun v3 ev3 => ?_)
  have hv3 := i_add (Eq.refl v2.toInt) (show (1 : Int32).toInt = 1 by decide) ev3 (by omega) (by omega)
  refine va_iald hx hb hKN.1 hP 1 0 rfl rfl (vp_in_iff.mpr ⟨by omega, by omega⟩) dX11_starOf_11 ?_
  refine lv_topi (fun v4 ev4 => ?_)
  have ev4 : v4 = (F 0) v3.toNatClampNeg := ev4
  have kv4 := TO_cell hk0 (i := v3) p1.toInt (by omega) (by omega) (by omega)
  rw [← ev4] at kv4
  refine W.widen (k := 0) (n := 0) (Nat.le_of_ble_eq_true rfl) (Nat.le_of_ble_eq_true rfl) ?_
  have zi1 : (1 : Int32).toInt = 1 := by decide
  exact W.iret (v := v4) hx hb hr (fun t ht hW => ⟨⟨v4, rfl, ((show (0 ≤ v4.toInt ∧ v4.toInt ≤ 7) by omega)), CB.mk ht hP hD⟩, hS.F ht⟩) hS.2.2 dX11_starOf_12
set_option maxHeartbeats 4000000 in
set_option maxRecDepth 100000 in
theorem m_starOf2 (l : Launch) (D : va_G) (Y : Nat → ClassId) (Z : Nat → Nat) (sz : Nat) (o : Nat) (a : Nat → Nat) (I : Nat → Int32) (J : Nat → Int64) (F : Nat → Nat → Int32) (G : Nat → Nat → Int64) (p1 : Int32) (hk_0 : (0 ≤ p1.toInt ∧ p1.toInt ≤ 11)) (hk0 : TO (F 0)) : Met l yX11_starOf (.code yX11_starOf cX11_starOf 3 (some .int) :: GW) ({ frames := 0, cells := 0, slots := 0, locals := 0 }) (va_Pc [.ref o, .int p1, .int 2] (CP D Y Z (MW Y o a I J F G) sz)) (QG (S := Int32) (fun u => some (.int u)) (fun u => (0 ≤ u.toInt ∧ u.toInt ≤ 1000) ∧ (p1.toInt < ((F 0) 0).toInt → 1 ≤ u.toInt)) (fun u => CB D (MW Y o a I J F G) (va_A (MW Y o a I J F G) sz)) (va_A (MW Y o a I J F G) sz)) 0 0 (va_A (MW Y o a I J F G) sz) := by
  refine Met.ofW (cc := cX11_starOf) (maxL := 3) (ret := (some .int)) (by decide) rfl ?_
  intro p e s m args below meth c s₁ B hml hv
  obtain ⟨rfl, hsz, hP, hKN, hD0⟩ := hv
  have hx := B.exec
  have hb := B.bytes
  have hr := B.returns
  have hts := atoms_spec (ws := .code yX11_starOf cX11_starOf 3 (some .int) :: GW) B.pre
  have hg : ∀ w ∈ GW, w.before _ s = true := fun w h => hts w (List.mem_cons_of_mem _ h)
  have hown : s.vm.findClass RX11 = some m.cls := findClass_of_methodNamed B.named
  have hlocks := B.notSynchronized
  subst hsz
  have hD := hD0.self (sz := s.heap.size)
  generalize hAe : va_A (MW Y o a I J F G) s.heap.size = A at hD ⊢
  have hA : ∀ q : Nat, s.heap.size ≤ q → A q := fun q h => by rw [← hAe]; exact Or.inr h
  clear hAe hD0 hts B
  have hl := lv_entry ([.ref o, .int p1, .int 2]) (n := 3) (Nat.le_of_ble_eq_true rfl)
  rw [lg_entry_eq]
  generalize (lg_sl ([.ref o, .int p1, .int 2]) ++ List.replicate (3 - (lg_sl ([.ref o, .int p1, .int 2])).length) Slot.unset).toArray = ls at hl ⊢
  have hl : lv_has ls 3 [(0, .ref o), (1, .int p1), (2, .int 2)] := hl
  refine w_start (A0 := A) hP (fun H locs hP hS => ?_)
  refine lv_aload_n hx hb dX11_starOf_0 rfl (lv_at hl 0 rfl) ?_
  refine va_get (D := D) (ci := 11) (v := .ref (a 0)) (C := RX11) (T := TX11) (N := 49) hx hb hg inGX11 hown hKN.1 hP 0 rfl rfl 0 (by decide) (hg _ kw_1208) (fun _ h9 => h9) rfl dX11_starOf_1 ?_
  refine lv_iconst (v := 3) hx hb dX11_starOf_4 (by decide) ?_
  refine lv_iconst (v := 3) hx hb dX11_starOf_5 (by decide) ?_
  refine lv_iload_n hx hb dX11_starOf_6 rfl (lv_at hl 1 rfl) ?_
  refine lv_imul hx hb dX11_starOf_7 ?_
  refine lv_topi (fun v1 ev1 => ?_)
  have hv1 := i_mul (show (3 : Int32).toInt = 3 by decide) (Eq.refl p1.toInt) ev1 (by omega) (by omega)
  refine lv_iadd hx hb dX11_starOf_8 ?_
  refine lv_topi (fun v2 ev2 => ?_)
  have hv2 := i_add (show (3 : Int32).toInt = 3 by decide) (Eq.refl v1.toInt) ev2 (by omega) (by omega)
  refine lv_iload_n hx hb dX11_starOf_9 rfl (lv_at hl 2 rfl) ?_
  refine lv_iadd hx hb dX11_starOf_10 ?_
  refine lv_topi (fun v3 ev3 => ?_)
  have hv3 := i_add (Eq.refl v2.toInt) (show (2 : Int32).toInt = 2 by decide) ev3 (by omega) (by omega)
  refine va_iald hx hb hKN.1 hP 1 0 rfl rfl (vp_in_iff.mpr ⟨by omega, by omega⟩) dX11_starOf_11 ?_
  refine lv_topi (fun v4 ev4 => ?_)
  have ev4 : v4 = (F 0) v3.toNatClampNeg := ev4
  have kv4 := TO_luck hk0 (i := v3) p1.toInt (by omega) (by omega) (by omega)
  rw [← ev4] at kv4
  refine W.widen (k := 0) (n := 0) (Nat.le_of_ble_eq_true rfl) (Nat.le_of_ble_eq_true rfl) ?_
  have zi2 : (2 : Int32).toInt = 2 := by decide
  exact W.iret (v := v4) hx hb hr (fun t ht hW => ⟨⟨v4, rfl, ⟨(show (0 ≤ v4.toInt ∧ v4.toInt ≤ 1000) by omega), (show (p1.toInt < ((F 0) 0).toInt → 1 ≤ v4.toInt) by omega)⟩, CB.mk ht hP hD⟩, hS.F ht⟩) hS.2.2 dX11_starOf_12
set_option maxHeartbeats 4000000 in
set_option maxRecDepth 100000 in
theorem m_worldOf0 (l : Launch) (D : va_G) (Y : Nat → ClassId) (Z : Nat → Nat) (sz : Nat) (o : Nat) (a : Nat → Nat) (I : Nat → Int32) (J : Nat → Int64) (F : Nat → Nat → Int32) (G : Nat → Nat → Int64) (p1 : Int32) (hk_0 : (0 ≤ p1.toInt ∧ p1.toInt ≤ 39)) (hk0 : TO (F 0)) : Met l yX11_worldOf (.code yX11_worldOf cX11_worldOf 3 (some .int) :: GW) ({ frames := 0, cells := 0, slots := 0, locals := 0 }) (va_Pc [.ref o, .int p1, .int 0] (CP D Y Z (MW Y o a I J F G) sz)) (QG (S := Int32) (fun u => some (.int u)) (fun u => (0 ≤ u.toInt ∧ u.toInt ≤ 11)) (fun u => CB D (MW Y o a I J F G) (va_A (MW Y o a I J F G) sz)) (va_A (MW Y o a I J F G) sz)) 0 0 (va_A (MW Y o a I J F G) sz) := by
  refine Met.ofW (cc := cX11_worldOf) (maxL := 3) (ret := (some .int)) (by decide) rfl ?_
  intro p e s m args below meth c s₁ B hml hv
  obtain ⟨rfl, hsz, hP, hKN, hD0⟩ := hv
  have hx := B.exec
  have hb := B.bytes
  have hr := B.returns
  have hts := atoms_spec (ws := .code yX11_worldOf cX11_worldOf 3 (some .int) :: GW) B.pre
  have hg : ∀ w ∈ GW, w.before _ s = true := fun w h => hts w (List.mem_cons_of_mem _ h)
  have hown : s.vm.findClass RX11 = some m.cls := findClass_of_methodNamed B.named
  have hlocks := B.notSynchronized
  subst hsz
  have hD := hD0.self (sz := s.heap.size)
  generalize hAe : va_A (MW Y o a I J F G) s.heap.size = A at hD ⊢
  have hA : ∀ q : Nat, s.heap.size ≤ q → A q := fun q h => by rw [← hAe]; exact Or.inr h
  clear hAe hD0 hts B
  have hl := lv_entry ([.ref o, .int p1, .int 0]) (n := 3) (Nat.le_of_ble_eq_true rfl)
  rw [lg_entry_eq]
  generalize (lg_sl ([.ref o, .int p1, .int 0]) ++ List.replicate (3 - (lg_sl ([.ref o, .int p1, .int 0])).length) Slot.unset).toArray = ls at hl ⊢
  have hl : lv_has ls 3 [(0, .ref o), (1, .int p1), (2, .int 0)] := hl
  refine w_start (A0 := A) hP (fun H locs hP hS => ?_)
  refine lv_aload_n hx hb dX11_worldOf_0 rfl (lv_at hl 0 rfl) ?_
  refine va_get (D := D) (ci := 11) (v := .ref (a 0)) (C := RX11) (T := TX11) (N := 49) hx hb hg inGX11 hown hKN.1 hP 0 rfl rfl 0 (by decide) (hg _ kw_1208) (fun _ h9 => h9) rfl dX11_worldOf_1 ?_
  refine lv_bipush (v := 39) hx hb dX11_worldOf_4 (by decide) ?_
  refine lv_bipush (v := 6) hx hb dX11_worldOf_6 (by decide) ?_
  refine lv_iload_n hx hb dX11_worldOf_8 rfl (lv_at hl 1 rfl) ?_
  refine lv_imul hx hb dX11_worldOf_9 ?_
  refine lv_topi (fun v1 ev1 => ?_)
  have hv1 := i_mul (show (6 : Int32).toInt = 6 by decide) (Eq.refl p1.toInt) ev1 (by omega) (by omega)
  refine lv_iadd hx hb dX11_worldOf_10 ?_
  refine lv_topi (fun v2 ev2 => ?_)
  have hv2 := i_add (show (39 : Int32).toInt = 39 by decide) (Eq.refl v1.toInt) ev2 (by omega) (by omega)
  refine lv_iload_n hx hb dX11_worldOf_11 rfl (lv_at hl 2 rfl) ?_
  refine lv_iadd hx hb dX11_worldOf_12 ?_
  refine lv_topi (fun v3 ev3 => ?_)
  have hv3 := i_add (Eq.refl v2.toInt) (show (0 : Int32).toInt = 0 by decide) ev3 (by omega) (by omega)
  refine va_iald hx hb hKN.1 hP 1 0 rfl rfl (vp_in_iff.mpr ⟨by omega, by omega⟩) dX11_worldOf_13 ?_
  refine lv_topi (fun v4 ev4 => ?_)
  have ev4 : v4 = (F 0) v3.toNatClampNeg := ev4
  have kv4 := TO_wstar hk0 (i := v3) p1.toInt (by omega) (by omega) (by omega)
  rw [← ev4] at kv4
  refine W.widen (k := 0) (n := 0) (Nat.le_of_ble_eq_true rfl) (Nat.le_of_ble_eq_true rfl) ?_
  have zi0 : (0 : Int32).toInt = 0 := by decide
  exact W.iret (v := v4) hx hb hr (fun t ht hW => ⟨⟨v4, rfl, ((show (0 ≤ v4.toInt ∧ v4.toInt ≤ 11) by omega)), CB.mk ht hP hD⟩, hS.F ht⟩) hS.2.2 dX11_worldOf_14
set_option maxHeartbeats 4000000 in
set_option maxRecDepth 100000 in
theorem m_worldOf1 (l : Launch) (D : va_G) (Y : Nat → ClassId) (Z : Nat → Nat) (sz : Nat) (o : Nat) (a : Nat → Nat) (I : Nat → Int32) (J : Nat → Int64) (F : Nat → Nat → Int32) (G : Nat → Nat → Int64) (p1 : Int32) (hk_0 : (0 ≤ p1.toInt ∧ p1.toInt ≤ 39)) (hk0 : TO (F 0)) : Met l yX11_worldOf (.code yX11_worldOf cX11_worldOf 3 (some .int) :: GW) ({ frames := 0, cells := 0, slots := 0, locals := 0 }) (va_Pc [.ref o, .int p1, .int 1] (CP D Y Z (MW Y o a I J F G) sz)) (QG (S := Int32) (fun u => some (.int u)) (fun u => (p1.toInt < ((F 0) 1).toInt → 2 ≤ u.toInt)) (fun u => CB D (MW Y o a I J F G) (va_A (MW Y o a I J F G) sz)) (va_A (MW Y o a I J F G) sz)) 0 0 (va_A (MW Y o a I J F G) sz) := by
  refine Met.ofW (cc := cX11_worldOf) (maxL := 3) (ret := (some .int)) (by decide) rfl ?_
  intro p e s m args below meth c s₁ B hml hv
  obtain ⟨rfl, hsz, hP, hKN, hD0⟩ := hv
  have hx := B.exec
  have hb := B.bytes
  have hr := B.returns
  have hts := atoms_spec (ws := .code yX11_worldOf cX11_worldOf 3 (some .int) :: GW) B.pre
  have hg : ∀ w ∈ GW, w.before _ s = true := fun w h => hts w (List.mem_cons_of_mem _ h)
  have hown : s.vm.findClass RX11 = some m.cls := findClass_of_methodNamed B.named
  have hlocks := B.notSynchronized
  subst hsz
  have hD := hD0.self (sz := s.heap.size)
  generalize hAe : va_A (MW Y o a I J F G) s.heap.size = A at hD ⊢
  have hA : ∀ q : Nat, s.heap.size ≤ q → A q := fun q h => by rw [← hAe]; exact Or.inr h
  clear hAe hD0 hts B
  have hl := lv_entry ([.ref o, .int p1, .int 1]) (n := 3) (Nat.le_of_ble_eq_true rfl)
  rw [lg_entry_eq]
  generalize (lg_sl ([.ref o, .int p1, .int 1]) ++ List.replicate (3 - (lg_sl ([.ref o, .int p1, .int 1])).length) Slot.unset).toArray = ls at hl ⊢
  have hl : lv_has ls 3 [(0, .ref o), (1, .int p1), (2, .int 1)] := hl
  refine w_start (A0 := A) hP (fun H locs hP hS => ?_)
  refine lv_aload_n hx hb dX11_worldOf_0 rfl (lv_at hl 0 rfl) ?_
  refine va_get (D := D) (ci := 11) (v := .ref (a 0)) (C := RX11) (T := TX11) (N := 49) hx hb hg inGX11 hown hKN.1 hP 0 rfl rfl 0 (by decide) (hg _ kw_1208) (fun _ h9 => h9) rfl dX11_worldOf_1 ?_
  refine lv_bipush (v := 39) hx hb dX11_worldOf_4 (by decide) ?_
  refine lv_bipush (v := 6) hx hb dX11_worldOf_6 (by decide) ?_
  refine lv_iload_n hx hb dX11_worldOf_8 rfl (lv_at hl 1 rfl) ?_
  refine lv_imul hx hb dX11_worldOf_9 ?_
  refine lv_topi (fun v1 ev1 => ?_)
  have hv1 := i_mul (show (6 : Int32).toInt = 6 by decide) (Eq.refl p1.toInt) ev1 (by omega) (by omega)
  refine lv_iadd hx hb dX11_worldOf_10 ?_
  refine lv_topi (fun v2 ev2 => ?_)
  have hv2 := i_add (show (39 : Int32).toInt = 39 by decide) (Eq.refl v1.toInt) ev2 (by omega) (by omega)
  refine lv_iload_n hx hb dX11_worldOf_11 rfl (lv_at hl 2 rfl) ?_
  refine lv_iadd hx hb dX11_worldOf_12 ?_
  refine lv_topi (fun v3 ev3 => ?_)
  have hv3 := i_add (Eq.refl v2.toInt) (show (1 : Int32).toInt = 1 by decide) ev3 (by omega) (by omega)
  refine va_iald hx hb hKN.1 hP 1 0 rfl rfl (vp_in_iff.mpr ⟨by omega, by omega⟩) dX11_worldOf_13 ?_
  refine lv_topi (fun v4 ev4 => ?_)
  have ev4 : v4 = (F 0) v3.toNatClampNeg := ev4
  have kv4 := TO_wbeat hk0 (i := v3) p1.toInt (by omega) (by omega) (by omega)
  rw [← ev4] at kv4
  refine W.widen (k := 0) (n := 0) (Nat.le_of_ble_eq_true rfl) (Nat.le_of_ble_eq_true rfl) ?_
  have zi1 : (1 : Int32).toInt = 1 := by decide
  exact W.iret (v := v4) hx hb hr (fun t ht hW => ⟨⟨v4, rfl, ((show (p1.toInt < ((F 0) 1).toInt → 2 ≤ v4.toInt) by omega)), CB.mk ht hP hD⟩, hS.F ht⟩) hS.2.2 dX11_worldOf_14
set_option maxHeartbeats 4000000 in
set_option maxRecDepth 100000 in
theorem m_worldOf2 (l : Launch) (D : va_G) (Y : Nat → ClassId) (Z : Nat → Nat) (sz : Nat) (o : Nat) (a : Nat → Nat) (I : Nat → Int32) (J : Nat → Int64) (F : Nat → Nat → Int32) (G : Nat → Nat → Int64) (p1 : Int32) (hk_0 : (0 ≤ p1.toInt ∧ p1.toInt ≤ 39)) (hk0 : TO (F 0)) : Met l yX11_worldOf (.code yX11_worldOf cX11_worldOf 3 (some .int) :: GW) ({ frames := 0, cells := 0, slots := 0, locals := 0 }) (va_Pc [.ref o, .int p1, .int 2] (CP D Y Z (MW Y o a I J F G) sz)) (QG (S := Int32) (fun u => some (.int u)) (fun u => (0 ≤ u.toInt ∧ u.toInt ≤ 30000)) (fun u => CB D (MW Y o a I J F G) (va_A (MW Y o a I J F G) sz)) (va_A (MW Y o a I J F G) sz)) 0 0 (va_A (MW Y o a I J F G) sz) := by
  refine Met.ofW (cc := cX11_worldOf) (maxL := 3) (ret := (some .int)) (by decide) rfl ?_
  intro p e s m args below meth c s₁ B hml hv
  obtain ⟨rfl, hsz, hP, hKN, hD0⟩ := hv
  have hx := B.exec
  have hb := B.bytes
  have hr := B.returns
  have hts := atoms_spec (ws := .code yX11_worldOf cX11_worldOf 3 (some .int) :: GW) B.pre
  have hg : ∀ w ∈ GW, w.before _ s = true := fun w h => hts w (List.mem_cons_of_mem _ h)
  have hown : s.vm.findClass RX11 = some m.cls := findClass_of_methodNamed B.named
  have hlocks := B.notSynchronized
  subst hsz
  have hD := hD0.self (sz := s.heap.size)
  generalize hAe : va_A (MW Y o a I J F G) s.heap.size = A at hD ⊢
  have hA : ∀ q : Nat, s.heap.size ≤ q → A q := fun q h => by rw [← hAe]; exact Or.inr h
  clear hAe hD0 hts B
  have hl := lv_entry ([.ref o, .int p1, .int 2]) (n := 3) (Nat.le_of_ble_eq_true rfl)
  rw [lg_entry_eq]
  generalize (lg_sl ([.ref o, .int p1, .int 2]) ++ List.replicate (3 - (lg_sl ([.ref o, .int p1, .int 2])).length) Slot.unset).toArray = ls at hl ⊢
  have hl : lv_has ls 3 [(0, .ref o), (1, .int p1), (2, .int 2)] := hl
  refine w_start (A0 := A) hP (fun H locs hP hS => ?_)
  refine lv_aload_n hx hb dX11_worldOf_0 rfl (lv_at hl 0 rfl) ?_
  refine va_get (D := D) (ci := 11) (v := .ref (a 0)) (C := RX11) (T := TX11) (N := 49) hx hb hg inGX11 hown hKN.1 hP 0 rfl rfl 0 (by decide) (hg _ kw_1208) (fun _ h9 => h9) rfl dX11_worldOf_1 ?_
  refine lv_bipush (v := 39) hx hb dX11_worldOf_4 (by decide) ?_
  refine lv_bipush (v := 6) hx hb dX11_worldOf_6 (by decide) ?_
  refine lv_iload_n hx hb dX11_worldOf_8 rfl (lv_at hl 1 rfl) ?_
  refine lv_imul hx hb dX11_worldOf_9 ?_
  refine lv_topi (fun v1 ev1 => ?_)
  have hv1 := i_mul (show (6 : Int32).toInt = 6 by decide) (Eq.refl p1.toInt) ev1 (by omega) (by omega)
  refine lv_iadd hx hb dX11_worldOf_10 ?_
  refine lv_topi (fun v2 ev2 => ?_)
  have hv2 := i_add (show (39 : Int32).toInt = 39 by decide) (Eq.refl v1.toInt) ev2 (by omega) (by omega)
  refine lv_iload_n hx hb dX11_worldOf_11 rfl (lv_at hl 2 rfl) ?_
  refine lv_iadd hx hb dX11_worldOf_12 ?_
  refine lv_topi (fun v3 ev3 => ?_)
  have hv3 := i_add (Eq.refl v2.toInt) (show (2 : Int32).toInt = 2 by decide) ev3 (by omega) (by omega)
  refine va_iald hx hb hKN.1 hP 1 0 rfl rfl (vp_in_iff.mpr ⟨by omega, by omega⟩) dX11_worldOf_13 ?_
  refine lv_topi (fun v4 ev4 => ?_)
  have ev4 : v4 = (F 0) v3.toNatClampNeg := ev4
  have kv4 := TO_wany hk0 (i := v3) (by omega) (by omega)
  rw [← ev4] at kv4
  refine W.widen (k := 0) (n := 0) (Nat.le_of_ble_eq_true rfl) (Nat.le_of_ble_eq_true rfl) ?_
  have zi2 : (2 : Int32).toInt = 2 := by decide
  exact W.iret (v := v4) hx hb hr (fun t ht hW => ⟨⟨v4, rfl, ((show (0 ≤ v4.toInt ∧ v4.toInt ≤ 30000) by omega)), CB.mk ht hP hD⟩, hS.F ht⟩) hS.2.2 dX11_worldOf_14
set_option maxHeartbeats 4000000 in
set_option maxRecDepth 100000 in
theorem m_worldOf3 (l : Launch) (D : va_G) (Y : Nat → ClassId) (Z : Nat → Nat) (sz : Nat) (o : Nat) (a : Nat → Nat) (I : Nat → Int32) (J : Nat → Int64) (F : Nat → Nat → Int32) (G : Nat → Nat → Int64) (p1 : Int32) (hk_0 : (0 ≤ p1.toInt ∧ p1.toInt ≤ 39)) (hk0 : TO (F 0)) : Met l yX11_worldOf (.code yX11_worldOf cX11_worldOf 3 (some .int) :: GW) ({ frames := 0, cells := 0, slots := 0, locals := 0 }) (va_Pc [.ref o, .int p1, .int 3] (CP D Y Z (MW Y o a I J F G) sz)) (QG (S := Int32) (fun u => some (.int u)) (fun u => (0 ≤ u.toInt ∧ u.toInt ≤ 30000)) (fun u => CB D (MW Y o a I J F G) (va_A (MW Y o a I J F G) sz)) (va_A (MW Y o a I J F G) sz)) 0 0 (va_A (MW Y o a I J F G) sz) := by
  refine Met.ofW (cc := cX11_worldOf) (maxL := 3) (ret := (some .int)) (by decide) rfl ?_
  intro p e s m args below meth c s₁ B hml hv
  obtain ⟨rfl, hsz, hP, hKN, hD0⟩ := hv
  have hx := B.exec
  have hb := B.bytes
  have hr := B.returns
  have hts := atoms_spec (ws := .code yX11_worldOf cX11_worldOf 3 (some .int) :: GW) B.pre
  have hg : ∀ w ∈ GW, w.before _ s = true := fun w h => hts w (List.mem_cons_of_mem _ h)
  have hown : s.vm.findClass RX11 = some m.cls := findClass_of_methodNamed B.named
  have hlocks := B.notSynchronized
  subst hsz
  have hD := hD0.self (sz := s.heap.size)
  generalize hAe : va_A (MW Y o a I J F G) s.heap.size = A at hD ⊢
  have hA : ∀ q : Nat, s.heap.size ≤ q → A q := fun q h => by rw [← hAe]; exact Or.inr h
  clear hAe hD0 hts B
  have hl := lv_entry ([.ref o, .int p1, .int 3]) (n := 3) (Nat.le_of_ble_eq_true rfl)
  rw [lg_entry_eq]
  generalize (lg_sl ([.ref o, .int p1, .int 3]) ++ List.replicate (3 - (lg_sl ([.ref o, .int p1, .int 3])).length) Slot.unset).toArray = ls at hl ⊢
  have hl : lv_has ls 3 [(0, .ref o), (1, .int p1), (2, .int 3)] := hl
  refine w_start (A0 := A) hP (fun H locs hP hS => ?_)
  refine lv_aload_n hx hb dX11_worldOf_0 rfl (lv_at hl 0 rfl) ?_
  refine va_get (D := D) (ci := 11) (v := .ref (a 0)) (C := RX11) (T := TX11) (N := 49) hx hb hg inGX11 hown hKN.1 hP 0 rfl rfl 0 (by decide) (hg _ kw_1208) (fun _ h9 => h9) rfl dX11_worldOf_1 ?_
  refine lv_bipush (v := 39) hx hb dX11_worldOf_4 (by decide) ?_
  refine lv_bipush (v := 6) hx hb dX11_worldOf_6 (by decide) ?_
  refine lv_iload_n hx hb dX11_worldOf_8 rfl (lv_at hl 1 rfl) ?_
  refine lv_imul hx hb dX11_worldOf_9 ?_
  refine lv_topi (fun v1 ev1 => ?_)
  have hv1 := i_mul (show (6 : Int32).toInt = 6 by decide) (Eq.refl p1.toInt) ev1 (by omega) (by omega)
  refine lv_iadd hx hb dX11_worldOf_10 ?_
  refine lv_topi (fun v2 ev2 => ?_)
  have hv2 := i_add (show (39 : Int32).toInt = 39 by decide) (Eq.refl v1.toInt) ev2 (by omega) (by omega)
  refine lv_iload_n hx hb dX11_worldOf_11 rfl (lv_at hl 2 rfl) ?_
  refine lv_iadd hx hb dX11_worldOf_12 ?_
  refine lv_topi (fun v3 ev3 => ?_)
  have hv3 := i_add (Eq.refl v2.toInt) (show (3 : Int32).toInt = 3 by decide) ev3 (by omega) (by omega)
  refine va_iald hx hb hKN.1 hP 1 0 rfl rfl (vp_in_iff.mpr ⟨by omega, by omega⟩) dX11_worldOf_13 ?_
  refine lv_topi (fun v4 ev4 => ?_)
  have ev4 : v4 = (F 0) v3.toNatClampNeg := ev4
  have kv4 := TO_wany hk0 (i := v3) (by omega) (by omega)
  rw [← ev4] at kv4
  refine W.widen (k := 0) (n := 0) (Nat.le_of_ble_eq_true rfl) (Nat.le_of_ble_eq_true rfl) ?_
  have zi3 : (3 : Int32).toInt = 3 := by decide
  exact W.iret (v := v4) hx hb hr (fun t ht hW => ⟨⟨v4, rfl, ((show (0 ≤ v4.toInt ∧ v4.toInt ≤ 30000) by omega)), CB.mk ht hP hD⟩, hS.F ht⟩) hS.2.2 dX11_worldOf_14
set_option maxHeartbeats 4000000 in
set_option maxRecDepth 100000 in
theorem m_worldOf4 (l : Launch) (D : va_G) (Y : Nat → ClassId) (Z : Nat → Nat) (sz : Nat) (o : Nat) (a : Nat → Nat) (I : Nat → Int32) (J : Nat → Int64) (F : Nat → Nat → Int32) (G : Nat → Nat → Int64) (p1 : Int32) (hk_0 : (0 ≤ p1.toInt ∧ p1.toInt ≤ 39)) (hk0 : TO (F 0)) : Met l yX11_worldOf (.code yX11_worldOf cX11_worldOf 3 (some .int) :: GW) ({ frames := 0, cells := 0, slots := 0, locals := 0 }) (va_Pc [.ref o, .int p1, .int 4] (CP D Y Z (MW Y o a I J F G) sz)) (QG (S := Int32) (fun u => some (.int u)) (fun u => (0 ≤ u.toInt ∧ u.toInt ≤ 30000)) (fun u => CB D (MW Y o a I J F G) (va_A (MW Y o a I J F G) sz)) (va_A (MW Y o a I J F G) sz)) 0 0 (va_A (MW Y o a I J F G) sz) := by
  refine Met.ofW (cc := cX11_worldOf) (maxL := 3) (ret := (some .int)) (by decide) rfl ?_
  intro p e s m args below meth c s₁ B hml hv
  obtain ⟨rfl, hsz, hP, hKN, hD0⟩ := hv
  have hx := B.exec
  have hb := B.bytes
  have hr := B.returns
  have hts := atoms_spec (ws := .code yX11_worldOf cX11_worldOf 3 (some .int) :: GW) B.pre
  have hg : ∀ w ∈ GW, w.before _ s = true := fun w h => hts w (List.mem_cons_of_mem _ h)
  have hown : s.vm.findClass RX11 = some m.cls := findClass_of_methodNamed B.named
  have hlocks := B.notSynchronized
  subst hsz
  have hD := hD0.self (sz := s.heap.size)
  generalize hAe : va_A (MW Y o a I J F G) s.heap.size = A at hD ⊢
  have hA : ∀ q : Nat, s.heap.size ≤ q → A q := fun q h => by rw [← hAe]; exact Or.inr h
  clear hAe hD0 hts B
  have hl := lv_entry ([.ref o, .int p1, .int 4]) (n := 3) (Nat.le_of_ble_eq_true rfl)
  rw [lg_entry_eq]
  generalize (lg_sl ([.ref o, .int p1, .int 4]) ++ List.replicate (3 - (lg_sl ([.ref o, .int p1, .int 4])).length) Slot.unset).toArray = ls at hl ⊢
  have hl : lv_has ls 3 [(0, .ref o), (1, .int p1), (2, .int 4)] := hl
  refine w_start (A0 := A) hP (fun H locs hP hS => ?_)
  refine lv_aload_n hx hb dX11_worldOf_0 rfl (lv_at hl 0 rfl) ?_
  refine va_get (D := D) (ci := 11) (v := .ref (a 0)) (C := RX11) (T := TX11) (N := 49) hx hb hg inGX11 hown hKN.1 hP 0 rfl rfl 0 (by decide) (hg _ kw_1208) (fun _ h9 => h9) rfl dX11_worldOf_1 ?_
  refine lv_bipush (v := 39) hx hb dX11_worldOf_4 (by decide) ?_
  refine lv_bipush (v := 6) hx hb dX11_worldOf_6 (by decide) ?_
  refine lv_iload_n hx hb dX11_worldOf_8 rfl (lv_at hl 1 rfl) ?_
  refine lv_imul hx hb dX11_worldOf_9 ?_
  refine lv_topi (fun v1 ev1 => ?_)
  have hv1 := i_mul (show (6 : Int32).toInt = 6 by decide) (Eq.refl p1.toInt) ev1 (by omega) (by omega)
  refine lv_iadd hx hb dX11_worldOf_10 ?_
  refine lv_topi (fun v2 ev2 => ?_)
  have hv2 := i_add (show (39 : Int32).toInt = 39 by decide) (Eq.refl v1.toInt) ev2 (by omega) (by omega)
  refine lv_iload_n hx hb dX11_worldOf_11 rfl (lv_at hl 2 rfl) ?_
  refine lv_iadd hx hb dX11_worldOf_12 ?_
  refine lv_topi (fun v3 ev3 => ?_)
  have hv3 := i_add (Eq.refl v2.toInt) (show (4 : Int32).toInt = 4 by decide) ev3 (by omega) (by omega)
  refine va_iald hx hb hKN.1 hP 1 0 rfl rfl (vp_in_iff.mpr ⟨by omega, by omega⟩) dX11_worldOf_13 ?_
  refine lv_topi (fun v4 ev4 => ?_)
  have ev4 : v4 = (F 0) v3.toNatClampNeg := ev4
  have kv4 := TO_wany hk0 (i := v3) (by omega) (by omega)
  rw [← ev4] at kv4
  refine W.widen (k := 0) (n := 0) (Nat.le_of_ble_eq_true rfl) (Nat.le_of_ble_eq_true rfl) ?_
  have zi4 : (4 : Int32).toInt = 4 := by decide
  exact W.iret (v := v4) hx hb hr (fun t ht hW => ⟨⟨v4, rfl, ((show (0 ≤ v4.toInt ∧ v4.toInt ≤ 30000) by omega)), CB.mk ht hP hD⟩, hS.F ht⟩) hS.2.2 dX11_worldOf_14
set_option maxHeartbeats 4000000 in
set_option maxRecDepth 100000 in
theorem m_worldOf5 (l : Launch) (D : va_G) (Y : Nat → ClassId) (Z : Nat → Nat) (sz : Nat) (o : Nat) (a : Nat → Nat) (I : Nat → Int32) (J : Nat → Int64) (F : Nat → Nat → Int32) (G : Nat → Nat → Int64) (p1 : Int32) (hk_0 : (0 ≤ p1.toInt ∧ p1.toInt ≤ 39)) (hk0 : TO (F 0)) : Met l yX11_worldOf (.code yX11_worldOf cX11_worldOf 3 (some .int) :: GW) ({ frames := 0, cells := 0, slots := 0, locals := 0 }) (va_Pc [.ref o, .int p1, .int 5] (CP D Y Z (MW Y o a I J F G) sz)) (QG (S := Int32) (fun u => some (.int u)) (fun u => (0 ≤ u.toInt ∧ u.toInt ≤ 30000)) (fun u => CB D (MW Y o a I J F G) (va_A (MW Y o a I J F G) sz)) (va_A (MW Y o a I J F G) sz)) 0 0 (va_A (MW Y o a I J F G) sz) := by
  refine Met.ofW (cc := cX11_worldOf) (maxL := 3) (ret := (some .int)) (by decide) rfl ?_
  intro p e s m args below meth c s₁ B hml hv
  obtain ⟨rfl, hsz, hP, hKN, hD0⟩ := hv
  have hx := B.exec
  have hb := B.bytes
  have hr := B.returns
  have hts := atoms_spec (ws := .code yX11_worldOf cX11_worldOf 3 (some .int) :: GW) B.pre
  have hg : ∀ w ∈ GW, w.before _ s = true := fun w h => hts w (List.mem_cons_of_mem _ h)
  have hown : s.vm.findClass RX11 = some m.cls := findClass_of_methodNamed B.named
  have hlocks := B.notSynchronized
  subst hsz
  have hD := hD0.self (sz := s.heap.size)
  generalize hAe : va_A (MW Y o a I J F G) s.heap.size = A at hD ⊢
  have hA : ∀ q : Nat, s.heap.size ≤ q → A q := fun q h => by rw [← hAe]; exact Or.inr h
  clear hAe hD0 hts B
  have hl := lv_entry ([.ref o, .int p1, .int 5]) (n := 3) (Nat.le_of_ble_eq_true rfl)
  rw [lg_entry_eq]
  generalize (lg_sl ([.ref o, .int p1, .int 5]) ++ List.replicate (3 - (lg_sl ([.ref o, .int p1, .int 5])).length) Slot.unset).toArray = ls at hl ⊢
  have hl : lv_has ls 3 [(0, .ref o), (1, .int p1), (2, .int 5)] := hl
  refine w_start (A0 := A) hP (fun H locs hP hS => ?_)
  refine lv_aload_n hx hb dX11_worldOf_0 rfl (lv_at hl 0 rfl) ?_
  refine va_get (D := D) (ci := 11) (v := .ref (a 0)) (C := RX11) (T := TX11) (N := 49) hx hb hg inGX11 hown hKN.1 hP 0 rfl rfl 0 (by decide) (hg _ kw_1208) (fun _ h9 => h9) rfl dX11_worldOf_1 ?_
  refine lv_bipush (v := 39) hx hb dX11_worldOf_4 (by decide) ?_
  refine lv_bipush (v := 6) hx hb dX11_worldOf_6 (by decide) ?_
  refine lv_iload_n hx hb dX11_worldOf_8 rfl (lv_at hl 1 rfl) ?_
  refine lv_imul hx hb dX11_worldOf_9 ?_
  refine lv_topi (fun v1 ev1 => ?_)
  have hv1 := i_mul (show (6 : Int32).toInt = 6 by decide) (Eq.refl p1.toInt) ev1 (by omega) (by omega)
  refine lv_iadd hx hb dX11_worldOf_10 ?_
  refine lv_topi (fun v2 ev2 => ?_)
  have hv2 := i_add (show (39 : Int32).toInt = 39 by decide) (Eq.refl v1.toInt) ev2 (by omega) (by omega)
  refine lv_iload_n hx hb dX11_worldOf_11 rfl (lv_at hl 2 rfl) ?_
  refine lv_iadd hx hb dX11_worldOf_12 ?_
  refine lv_topi (fun v3 ev3 => ?_)
  have hv3 := i_add (Eq.refl v2.toInt) (show (5 : Int32).toInt = 5 by decide) ev3 (by omega) (by omega)
  refine va_iald hx hb hKN.1 hP 1 0 rfl rfl (vp_in_iff.mpr ⟨by omega, by omega⟩) dX11_worldOf_13 ?_
  refine lv_topi (fun v4 ev4 => ?_)
  have ev4 : v4 = (F 0) v3.toNatClampNeg := ev4
  have kv4 := TO_wany hk0 (i := v3) (by omega) (by omega)
  rw [← ev4] at kv4
  refine W.widen (k := 0) (n := 0) (Nat.le_of_ble_eq_true rfl) (Nat.le_of_ble_eq_true rfl) ?_
  have zi5 : (5 : Int32).toInt = 5 := by decide
  exact W.iret (v := v4) hx hb hr (fun t ht hW => ⟨⟨v4, rfl, ((show (0 ≤ v4.toInt ∧ v4.toInt ≤ 30000) by omega)), CB.mk ht hP hD⟩, hS.F ht⟩) hS.2.2 dX11_worldOf_14
set_option maxHeartbeats 4000000 in
set_option maxRecDepth 100000 in
theorem m_rowAt (l : Launch) (D : va_G) (Y : Nat → ClassId) (Z : Nat → Nat) (sz : Nat) (o : Nat) (a : Nat → Nat) (I : Nat → Int32) (J : Nat → Int64) (F : Nat → Nat → Int32) (G : Nat → Nat → Int64) (p1 : Int32) (p2 : Int32) (hk_0 : (0 ≤ p1.toInt ∧ p1.toInt ≤ 11)) (hk_1 : (0 ≤ p2.toInt ∧ p2.toInt ≤ 599)) (hk0 : TO (F 0)) : Met l yX11_rowAt (.code yX11_rowAt cX11_rowAt 3 (some .int) :: GW) ({ frames := 0, cells := 0, slots := 0, locals := 0 }) (va_Pc [.ref o, .int p1, .int p2] (CP D Y Z (MW Y o a I J F G) sz)) (QG (S := Int32) (fun u => some (.int u)) (fun u => (-100000 ≤ u.toInt ∧ u.toInt ≤ 100000)) (fun u => CB D (MW Y o a I J F G) (va_A (MW Y o a I J F G) sz)) (va_A (MW Y o a I J F G) sz)) 0 0 (va_A (MW Y o a I J F G) sz) := by
  refine Met.ofW (cc := cX11_rowAt) (maxL := 3) (ret := (some .int)) (by decide) rfl ?_
  intro p e s m args below meth c s₁ B hml hv
  obtain ⟨rfl, hsz, hP, hKN, hD0⟩ := hv
  have hx := B.exec
  have hb := B.bytes
  have hr := B.returns
  have hts := atoms_spec (ws := .code yX11_rowAt cX11_rowAt 3 (some .int) :: GW) B.pre
  have hg : ∀ w ∈ GW, w.before _ s = true := fun w h => hts w (List.mem_cons_of_mem _ h)
  have hown : s.vm.findClass RX11 = some m.cls := findClass_of_methodNamed B.named
  have hlocks := B.notSynchronized
  subst hsz
  have hD := hD0.self (sz := s.heap.size)
  generalize hAe : va_A (MW Y o a I J F G) s.heap.size = A at hD ⊢
  have hA : ∀ q : Nat, s.heap.size ≤ q → A q := fun q h => by rw [← hAe]; exact Or.inr h
  clear hAe hD0 hts B
  have hl := lv_entry ([.ref o, .int p1, .int p2]) (n := 3) (Nat.le_of_ble_eq_true rfl)
  rw [lg_entry_eq]
  generalize (lg_sl ([.ref o, .int p1, .int p2]) ++ List.replicate (3 - (lg_sl ([.ref o, .int p1, .int p2])).length) Slot.unset).toArray = ls at hl ⊢
  have hl : lv_has ls 3 [(0, .ref o), (1, .int p1), (2, .int p2)] := hl
  refine w_start (A0 := A) hP (fun H locs hP hS => ?_)
  refine lv_aload_n hx hb dX11_rowAt_0 rfl (lv_at hl 0 rfl) ?_
  refine va_get (D := D) (ci := 11) (v := .ref (a 0)) (C := RX11) (T := TX11) (N := 49) hx hb hg inGX11 hown hKN.1 hP 0 rfl rfl 0 (by decide) (hg _ kw_1208) (fun _ h9 => h9) rfl dX11_rowAt_1 ?_
  refine lv_sipush (v := 315) hx hb dX11_rowAt_4 (by decide) ?_
  refine lv_sipush (v := 600) hx hb dX11_rowAt_7 (by decide) ?_
  refine lv_iload_n hx hb dX11_rowAt_10 rfl (lv_at hl 1 rfl) ?_
  refine lv_imul hx hb dX11_rowAt_11 ?_
  refine lv_topi (fun v1 ev1 => ?_)
  have hv1 := i_mul (show (600 : Int32).toInt = 600 by decide) (Eq.refl p1.toInt) ev1 (by omega) (by omega)
  refine lv_iadd hx hb dX11_rowAt_12 ?_
  refine lv_topi (fun v2 ev2 => ?_)
  have hv2 := i_add (show (315 : Int32).toInt = 315 by decide) (Eq.refl v1.toInt) ev2 (by omega) (by omega)
  refine lv_iload_n hx hb dX11_rowAt_13 rfl (lv_at hl 2 rfl) ?_
  refine lv_iadd hx hb dX11_rowAt_14 ?_
  refine lv_topi (fun v3 ev3 => ?_)
  have hv3 := i_add (Eq.refl v2.toInt) (Eq.refl p2.toInt) ev3 (by omega) (by omega)
  refine va_iald hx hb hKN.1 hP 1 0 rfl rfl (vp_in_iff.mpr ⟨by omega, by omega⟩) dX11_rowAt_15 ?_
  refine lv_topi (fun v4 ev4 => ?_)
  have ev4 : v4 = (F 0) v3.toNatClampNeg := ev4
  have kv4 := TO_row hk0 (i := v3) (by omega) (by omega)
  rw [← ev4] at kv4
  refine W.widen (k := 0) (n := 0) (Nat.le_of_ble_eq_true rfl) (Nat.le_of_ble_eq_true rfl) ?_
  exact W.iret (v := v4) hx hb hr (fun t ht hW => ⟨⟨v4, rfl, ((show (-100000 ≤ v4.toInt ∧ v4.toInt ≤ 100000) by omega)), CB.mk ht hP hD⟩, hS.F ht⟩) hS.2.2 dX11_rowAt_16

