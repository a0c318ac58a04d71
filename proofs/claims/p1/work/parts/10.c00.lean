set_option maxHeartbeats 4000000 in
set_option maxRecDepth 100000 in
theorem c_isWithin (l : Launch) (D : va_G) (Y : Nat → ClassId) (Z : Nat → Nat) (sz : Nat) (n a b : Int32) (A0 B0 : Int) (ha : a.toInt = A0) (hb0 : b.toInt = B0) : Met l yX10_isWithin (.code yX10_isWithin cX10_isWithin 3 (some .boolean) :: GW) ({ frames := 0, cells := 0, slots := 0, locals := 0 }) (va_Pc [.int n, .int a, .int b] (CP D Y Z [] sz)) (QG (S := Int32) (fun r => some (.int r)) (fun r => ((A0 ≤ n.toInt ∧ n.toInt ≤ B0) ∧ r = 1) ∨ (¬ (A0 ≤ n.toInt ∧ n.toInt ≤ B0) ∧ r = 0)) (fun u => CB D ((fun _ => []) u) (va_A [] sz)) (va_A [] sz)) 0 0 (va_A [] sz) := by
  refine Met.ofW (cc := cX10_isWithin) (maxL := 3) (ret := (some .boolean)) (by decide) rfl ?_
  intro p e s m args below meth c s₁ B hml hv
  obtain ⟨rfl, hsz, hP, hKN, hD0⟩ := hv
  have hx := B.exec
  have hb := B.bytes
  have hr := B.returns
  have hts := atoms_spec (ws := .code yX10_isWithin cX10_isWithin 3 (some .boolean) :: GW) B.pre
  have hg : ∀ w ∈ GW, w.before _ s = true := fun w h => hts w (List.mem_cons_of_mem _ h)
  have hown : s.vm.findClass RX10 = some m.cls := findClass_of_methodNamed B.named
  have hlocks := B.notSynchronized
  subst hsz
  have hD := hD0.self (sz := s.heap.size)
  generalize hAe : va_A [] s.heap.size = A at hD ⊢
  have hA : ∀ q : Nat, s.heap.size ≤ q → A q := fun q h => by rw [← hAe]; exact Or.inr h
  have hl := lv_entry ([.int n, .int a, .int b]) (n := 3) (Nat.le_of_ble_eq_true rfl)
  rw [lg_entry_eq]
  generalize (lg_sl ([.int n, .int a, .int b]) ++ List.replicate (3 - (lg_sl ([.int n, .int a, .int b])).length) Slot.unset).toArray = ls at hl ⊢
  have hl : lv_has ls 3 [(0, .int n), (1, .int a), (2, .int b)] := hl
  refine w_start (A0 := A) hP (fun H locs hP hS => ?_)
  refine lv_iload_n hx hb dX10_isWithin_0 rfl (lv_at hl 0 rfl) ?_
  refine lv_iload_n hx hb dX10_isWithin_1 rfl (lv_at hl 1 rfl) ?_
  refine lv_icmp_lt (tgt := 14) hx hb dX10_isWithin_2 (by decide) (fun c1 => ?_) (fun c1 => ?_)
  · skip
    have c1 := i_lt (Eq.refl (n).toInt) (Eq.refl (a).toInt) c1
    refine lv_iconst (v := 0) hx hb dX10_isWithin_14 (by decide) ?_
    refine W.widen (k := 0) (n := 0) (Nat.le_of_ble_eq_true rfl) (Nat.le_of_ble_eq_true rfl) ?_
    exact W.zret (v := 0) hx hb hr (by decide) (fun t ht hW => ⟨⟨0, rfl, (Or.inr ⟨by omega, rfl⟩), CB.nil⟩, hS.F ht⟩) hS.2.2 dX10_isWithin_15
  · skip
    have c1 := i_nlt (Eq.refl (n).toInt) (Eq.refl (a).toInt) c1
    refine lv_iload_n hx hb dX10_isWithin_5 rfl (lv_at hl 0 rfl) ?_
    refine lv_iload_n hx hb dX10_isWithin_6 rfl (lv_at hl 2 rfl) ?_
    refine lv_icmp_gt (tgt := 14) hx hb dX10_isWithin_7 (by decide) (fun c2 => ?_) (fun c2 => ?_)
    · skip
      have c2 := i_lt (Eq.refl (b).toInt) (Eq.refl (n).toInt) c2
      refine lv_iconst (v := 0) hx hb dX10_isWithin_14 (by decide) ?_
      refine W.widen (k := 0) (n := 0) (Nat.le_of_ble_eq_true rfl) (Nat.le_of_ble_eq_true rfl) ?_
      exact W.zret (v := 0) hx hb hr (by decide) (fun t ht hW => ⟨⟨0, rfl, (Or.inr ⟨by omega, rfl⟩), CB.nil⟩, hS.F ht⟩) hS.2.2 dX10_isWithin_15
    · skip
      have c2 := i_nlt (Eq.refl (b).toInt) (Eq.refl (n).toInt) c2
      refine lv_iconst (v := 1) hx hb dX10_isWithin_10 (by decide) ?_
      refine lv_goto (tgt := 15) hx hb dX10_isWithin_11 (by decide) ?_
      refine W.widen (k := 0) (n := 0) (Nat.le_of_ble_eq_true rfl) (Nat.le_of_ble_eq_true rfl) ?_
      exact W.zret (v := 1) hx hb hr (by decide) (fun t ht hW => ⟨⟨1, rfl, (Or.inl ⟨by omega, rfl⟩), CB.nil⟩, hS.F ht⟩) hS.2.2 dX10_isWithin_15
set_option maxHeartbeats 4000000 in
set_option maxRecDepth 100000 in
theorem c_isHour (l : Launch) (D : va_G) (Y : Nat → ClassId) (Z : Nat → Nat) (sz : Nat) (n : Int32) : Met l yX10_isHour (.code yX10_isHour cX10_isHour 1 (some .boolean) :: GW) ({ frames := 1, cells := 0, slots := 0, locals := 22 }) (va_Pc [.int n] (CP D Y Z [] sz)) (QG (S := Int32) (fun r => some (.int r)) (fun r => ((0 ≤ n.toInt ∧ n.toInt ≤ 599) ∧ r = 1) ∨ (¬ (0 ≤ n.toInt ∧ n.toInt ≤ 599) ∧ r = 0)) (fun u => CB D ((fun _ => []) u) (va_A [] sz)) (va_A [] sz)) 0 0 (va_A [] sz) := by
  refine Met.ofW (cc := cX10_isHour) (maxL := 1) (ret := (some .boolean)) (by decide) rfl ?_
  intro p e s m args below meth c s₁ B hml hv
  obtain ⟨rfl, hsz, hP, hKN, hD0⟩ := hv
  have hx := B.exec
  have hb := B.bytes
  have hr := B.returns
  have hts := atoms_spec (ws := .code yX10_isHour cX10_isHour 1 (some .boolean) :: GW) B.pre
  have hg : ∀ w ∈ GW, w.before _ s = true := fun w h => hts w (List.mem_cons_of_mem _ h)
  have hown : s.vm.findClass RX10 = some m.cls := findClass_of_methodNamed B.named
  have hlocks := B.notSynchronized
  subst hsz
  have hD := hD0.self (sz := s.heap.size)
  generalize hAe : va_A [] s.heap.size = A at hD ⊢
  have hA : ∀ q : Nat, s.heap.size ≤ q → A q := fun q h => by rw [← hAe]; exact Or.inr h
  have hl := lv_entry ([.int n]) (n := 1) (Nat.le_of_ble_eq_true rfl)
  rw [lg_entry_eq]
  generalize (lg_sl ([.int n]) ++ List.replicate (1 - (lg_sl ([.int n])).length) Slot.unset).toArray = ls at hl ⊢
  have hl : lv_has ls 1 [(0, .int n)] := hl
  refine w_start (A0 := A) hP (fun H locs hP hS => ?_)
  refine lv_iload_n hx hb dX10_isHour_0 rfl (lv_at hl 0 rfl) ?_
  refine lv_iconst (v := 0) hx hb dX10_isHour_1 (by decide) ?_
  refine lv_sipush (v := 599) hx hb dX10_isHour_2 (by decide) ?_
  refine cg0 (rn_S (As := [.int n, .int 0, .int 599]) (rest := []) (c_isWithin l D Y Z H.size n 0 599 (0) (599) (by decide) (by decide)) ⟨hx, hb, hml, hown, hg⟩ lk_X10_100 ⟨CP.blind, CP.at nilP hKN (nilD (A := fun _ => True))⟩ ⟨⟨rfl, rfl⟩, ⟨Nat.le_of_ble_eq_true rfl, Nat.le_of_ble_eq_true rfl⟩, ⟨Nat.le_of_ble_eq_true rfl, Nat.le_of_ble_eq_true rfl⟩⟩ hl.1 rfl (Nat.le_of_ble_eq_true rfl) dX10_isHour_5) hP hS hA (fun u1 H locs w2 hP hS => ?_)
  rcases w2 with ⟨w2, rfl⟩ | ⟨w2, rfl⟩
  · skip
    refine W.eq (g2 := F0 m 8 ls [.int 1]) rfl ?_
    refine W.widen (k := 0) (n := 0) (Nat.le_of_ble_eq_true rfl) (Nat.le_of_ble_eq_true rfl) ?_
    exact W.zret (v := 1) hx hb hr (by decide) (fun t ht hW => ⟨⟨1, rfl, (Or.inl ⟨by omega, rfl⟩), CB.nil⟩, hS.F ht⟩) hS.2.2 dX10_isHour_8
  · skip
    refine W.eq (g2 := F0 m 8 ls [.int 0]) rfl ?_
    refine W.widen (k := 0) (n := 0) (Nat.le_of_ble_eq_true rfl) (Nat.le_of_ble_eq_true rfl) ?_
    exact W.zret (v := 0) hx hb hr (by decide) (fun t ht hW => ⟨⟨0, rfl, (Or.inr ⟨by omega, rfl⟩), CB.nil⟩, hS.F ht⟩) hS.2.2 dX10_isHour_8
set_option maxHeartbeats 4000000 in
set_option maxRecDepth 100000 in
theorem c_isSize (l : Launch) (D : va_G) (Y : Nat → ClassId) (Z : Nat → Nat) (sz : Nat) (n : Int32) : Met l yX10_isSize (.code yX10_isSize cX10_isSize 1 (some .boolean) :: GW) ({ frames := 1, cells := 0, slots := 0, locals := 22 }) (va_Pc [.int n] (CP D Y Z [] sz)) (QG (S := Int32) (fun r => some (.int r)) (fun r => ((1 ≤ n.toInt ∧ n.toInt ≤ 999) ∧ r = 1) ∨ (¬ (1 ≤ n.toInt ∧ n.toInt ≤ 999) ∧ r = 0)) (fun u => CB D ((fun _ => []) u) (va_A [] sz)) (va_A [] sz)) 0 0 (va_A [] sz) := by
  refine Met.ofW (cc := cX10_isSize) (maxL := 1) (ret := (some .boolean)) (by decide) rfl ?_
  intro p e s m args below meth c s₁ B hml hv
  obtain ⟨rfl, hsz, hP, hKN, hD0⟩ := hv
  have hx := B.exec
  have hb := B.bytes
  have hr := B.returns
  have hts := atoms_spec (ws := .code yX10_isSize cX10_isSize 1 (some .boolean) :: GW) B.pre
  have hg : ∀ w ∈ GW, w.before _ s = true := fun w h => hts w (List.mem_cons_of_mem _ h)
  have hown : s.vm.findClass RX10 = some m.cls := findClass_of_methodNamed B.named
  have hlocks := B.notSynchronized
  subst hsz
  have hD := hD0.self (sz := s.heap.size)
  generalize hAe : va_A [] s.heap.size = A at hD ⊢
  have hA : ∀ q : Nat, s.heap.size ≤ q → A q := fun q h => by rw [← hAe]; exact Or.inr h
  have hl := lv_entry ([.int n]) (n := 1) (Nat.le_of_ble_eq_true rfl)
  rw [lg_entry_eq]
  generalize (lg_sl ([.int n]) ++ List.replicate (1 - (lg_sl ([.int n])).length) Slot.unset).toArray = ls at hl ⊢
  have hl : lv_has ls 1 [(0, .int n)] := hl
  refine w_start (A0 := A) hP (fun H locs hP hS => ?_)
  refine lv_iload_n hx hb dX10_isSize_0 rfl (lv_at hl 0 rfl) ?_
  refine lv_iconst (v := 1) hx hb dX10_isSize_1 (by decide) ?_
  refine lv_sipush (v := 999) hx hb dX10_isSize_2 (by decide) ?_
  refine cg0 (rn_S (As := [.int n, .int 1, .int 999]) (rest := []) (c_isWithin l D Y Z H.size n 1 999 (1) (999) (by decide) (by decide)) ⟨hx, hb, hml, hown, hg⟩ lk_X10_100 ⟨CP.blind, CP.at nilP hKN (nilD (A := fun _ => True))⟩ ⟨⟨rfl, rfl⟩, ⟨Nat.le_of_ble_eq_true rfl, Nat.le_of_ble_eq_true rfl⟩, ⟨Nat.le_of_ble_eq_true rfl, Nat.le_of_ble_eq_true rfl⟩⟩ hl.1 rfl (Nat.le_of_ble_eq_true rfl) dX10_isSize_5) hP hS hA (fun u1 H locs w2 hP hS => ?_)
  rcases w2 with ⟨w2, rfl⟩ | ⟨w2, rfl⟩
  · skip
    refine W.eq (g2 := F0 m 8 ls [.int 1]) rfl ?_
    refine W.widen (k := 0) (n := 0) (Nat.le_of_ble_eq_true rfl) (Nat.le_of_ble_eq_true rfl) ?_
    exact W.zret (v := 1) hx hb hr (by decide) (fun t ht hW => ⟨⟨1, rfl, (Or.inl ⟨by omega, rfl⟩), CB.nil⟩, hS.F ht⟩) hS.2.2 dX10_isSize_8
  · skip
    refine W.eq (g2 := F0 m 8 ls [.int 0]) rfl ?_
    refine W.widen (k := 0) (n := 0) (Nat.le_of_ble_eq_true rfl) (Nat.le_of_ble_eq_true rfl) ?_
    exact W.zret (v := 0) hx hb hr (by decide) (fun t ht hW => ⟨⟨0, rfl, (Or.inr ⟨by omega, rfl⟩), CB.nil⟩, hS.F ht⟩) hS.2.2 dX10_isSize_8
set_option maxHeartbeats 4000000 in
set_option maxRecDepth 100000 in
theorem c_isWay (l : Launch) (D : va_G) (Y : Nat → ClassId) (Z : Nat → Nat) (sz : Nat) (n : Int32) : Met l yX10_isWay (.code yX10_isWay cX10_isWay 1 (some .boolean) :: GW) ({ frames := 1, cells := 0, slots := 0, locals := 22 }) (va_Pc [.int n] (CP D Y Z [] sz)) (QG (S := Int32) (fun r => some (.int r)) (fun r => ((0 ≤ n.toInt ∧ n.toInt ≤ 5) ∧ r = 1) ∨ (¬ (0 ≤ n.toInt ∧ n.toInt ≤ 5) ∧ r = 0)) (fun u => CB D ((fun _ => []) u) (va_A [] sz)) (va_A [] sz)) 0 0 (va_A [] sz) := by
  refine Met.ofW (cc := cX10_isWay) (maxL := 1) (ret := (some .boolean)) (by decide) rfl ?_
  intro p e s m args below meth c s₁ B hml hv
  obtain ⟨rfl, hsz, hP, hKN, hD0⟩ := hv
  have hx := B.exec
  have hb := B.bytes
  have hr := B.returns
  have hts := atoms_spec (ws := .code yX10_isWay cX10_isWay 1 (some .boolean) :: GW) B.pre
  have hg : ∀ w ∈ GW, w.before _ s = true := fun w h => hts w (List.mem_cons_of_mem _ h)
  have hown : s.vm.findClass RX10 = some m.cls := findClass_of_methodNamed B.named
  have hlocks := B.notSynchronized
  subst hsz
  have hD := hD0.self (sz := s.heap.size)
  generalize hAe : va_A [] s.heap.size = A at hD ⊢
  have hA : ∀ q : Nat, s.heap.size ≤ q → A q := fun q h => by rw [← hAe]; exact Or.inr h
  have hl := lv_entry ([.int n]) (n := 1) (Nat.le_of_ble_eq_true rfl)
  rw [lg_entry_eq]
  generalize (lg_sl ([.int n]) ++ List.replicate (1 - (lg_sl ([.int n])).length) Slot.unset).toArray = ls at hl ⊢
  have hl : lv_has ls 1 [(0, .int n)] := hl
  refine w_start (A0 := A) hP (fun H locs hP hS => ?_)
  refine lv_iload_n hx hb dX10_isWay_0 rfl (lv_at hl 0 rfl) ?_
  refine lv_iconst (v := 0) hx hb dX10_isWay_1 (by decide) ?_
  refine lv_iconst (v := 5) hx hb dX10_isWay_2 (by decide) ?_
  refine cg0 (rn_S (As := [.int n, .int 0, .int 5]) (rest := []) (c_isWithin l D Y Z H.size n 0 5 (0) (5) (by decide) (by decide)) ⟨hx, hb, hml, hown, hg⟩ lk_X10_100 ⟨CP.blind, CP.at nilP hKN (nilD (A := fun _ => True))⟩ ⟨⟨rfl, rfl⟩, ⟨Nat.le_of_ble_eq_true rfl, Nat.le_of_ble_eq_true rfl⟩, ⟨Nat.le_of_ble_eq_true rfl, Nat.le_of_ble_eq_true rfl⟩⟩ hl.1 rfl (Nat.le_of_ble_eq_true rfl) dX10_isWay_3) hP hS hA (fun u1 H locs w2 hP hS => ?_)
  rcases w2 with ⟨w2, rfl⟩ | ⟨w2, rfl⟩
  · skip
    refine W.eq (g2 := F0 m 6 ls [.int 1]) rfl ?_
    refine W.widen (k := 0) (n := 0) (Nat.le_of_ble_eq_true rfl) (Nat.le_of_ble_eq_true rfl) ?_
    exact W.zret (v := 1) hx hb hr (by decide) (fun t ht hW => ⟨⟨1, rfl, (Or.inl ⟨by omega, rfl⟩), CB.nil⟩, hS.F ht⟩) hS.2.2 dX10_isWay_6
  · skip
    refine W.eq (g2 := F0 m 6 ls [.int 0]) rfl ?_
    refine W.widen (k := 0) (n := 0) (Nat.le_of_ble_eq_true rfl) (Nat.le_of_ble_eq_true rfl) ?_
    exact W.zret (v := 0) hx hb hr (by decide) (fun t ht hW => ⟨⟨0, rfl, (Or.inr ⟨by omega, rfl⟩), CB.nil⟩, hS.F ht⟩) hS.2.2 dX10_isWay_6
set_option maxHeartbeats 4000000 in
set_option maxRecDepth 100000 in
theorem c_isBeat (l : Launch) (D : va_G) (Y : Nat → ClassId) (Z : Nat → Nat) (sz : Nat) (n : Int32) : Met l yX10_isBeat (.code yX10_isBeat cX10_isBeat 1 (some .boolean) :: GW) ({ frames := 1, cells := 0, slots := 0, locals := 22 }) (va_Pc [.int n] (CP D Y Z [] sz)) (QG (S := Int32) (fun r => some (.int r)) (fun r => ((2 ≤ n.toInt ∧ n.toInt ≤ 200) ∧ r = 1) ∨ (¬ (2 ≤ n.toInt ∧ n.toInt ≤ 200) ∧ r = 0)) (fun u => CB D ((fun _ => []) u) (va_A [] sz)) (va_A [] sz)) 0 0 (va_A [] sz) := by
  refine Met.ofW (cc := cX10_isBeat) (maxL := 1) (ret := (some .boolean)) (by decide) rfl ?_
  intro p e s m args below meth c s₁ B hml hv
  obtain ⟨rfl, hsz, hP, hKN, hD0⟩ := hv
  have hx := B.exec
  have hb := B.bytes
  have hr := B.returns
  have hts := atoms_spec (ws := .code yX10_isBeat cX10_isBeat 1 (some .boolean) :: GW) B.pre
  have hg : ∀ w ∈ GW, w.before _ s = true := fun w h => hts w (List.mem_cons_of_mem _ h)
  have hown : s.vm.findClass RX10 = some m.cls := findClass_of_methodNamed B.named
  have hlocks := B.notSynchronized
  subst hsz
  have hD := hD0.self (sz := s.heap.size)
  generalize hAe : va_A [] s.heap.size = A at hD ⊢
  have hA : ∀ q : Nat, s.heap.size ≤ q → A q := fun q h => by rw [← hAe]; exact Or.inr h
  have hl := lv_entry ([.int n]) (n := 1) (Nat.le_of_ble_eq_true rfl)
  rw [lg_entry_eq]
  generalize (lg_sl ([.int n]) ++ List.replicate (1 - (lg_sl ([.int n])).length) Slot.unset).toArray = ls at hl ⊢
  have hl : lv_has ls 1 [(0, .int n)] := hl
  refine w_start (A0 := A) hP (fun H locs hP hS => ?_)
  refine lv_iload_n hx hb dX10_isBeat_0 rfl (lv_at hl 0 rfl) ?_
  refine lv_iconst (v := 2) hx hb dX10_isBeat_1 (by decide) ?_
  refine lv_sipush (v := 200) hx hb dX10_isBeat_2 (by decide) ?_
  refine cg0 (rn_S (As := [.int n, .int 2, .int 200]) (rest := []) (c_isWithin l D Y Z H.size n 2 200 (2) (200) (by decide) (by decide)) ⟨hx, hb, hml, hown, hg⟩ lk_X10_100 ⟨CP.blind, CP.at nilP hKN (nilD (A := fun _ => True))⟩ ⟨⟨rfl, rfl⟩, ⟨Nat.le_of_ble_eq_true rfl, Nat.le_of_ble_eq_true rfl⟩, ⟨Nat.le_of_ble_eq_true rfl, Nat.le_of_ble_eq_true rfl⟩⟩ hl.1 rfl (Nat.le_of_ble_eq_true rfl) dX10_isBeat_5) hP hS hA (fun u1 H locs w2 hP hS => ?_)
  rcases w2 with ⟨w2, rfl⟩ | ⟨w2, rfl⟩
  · skip
    refine W.eq (g2 := F0 m 8 ls [.int 1]) rfl ?_
    refine W.widen (k := 0) (n := 0) (Nat.le_of_ble_eq_true rfl) (Nat.le_of_ble_eq_true rfl) ?_
    exact W.zret (v := 1) hx hb hr (by decide) (fun t ht hW => ⟨⟨1, rfl, (Or.inl ⟨by omega, rfl⟩), CB.nil⟩, hS.F ht⟩) hS.2.2 dX10_isBeat_8
  · skip
    refine W.eq (g2 := F0 m 8 ls [.int 0]) rfl ?_
    refine W.widen (k := 0) (n := 0) (Nat.le_of_ble_eq_true rfl) (Nat.le_of_ble_eq_true rfl) ?_
    exact W.zret (v := 0) hx hb hr (by decide) (fun t ht hW => ⟨⟨0, rfl, (Or.inr ⟨by omega, rfl⟩), CB.nil⟩, hS.F ht⟩) hS.2.2 dX10_isBeat_8
set_option maxHeartbeats 4000000 in
set_option maxRecDepth 100000 in
theorem c_in (l : Launch) (D : va_G) (Y : Nat → ClassId) (Z : Nat → Nat) (sz : Nat) (n a b : Int64) (N0 A0 B0 : Int) (hn : n.toInt = N0) (ha : a.toInt = A0) (hb0 : b.toInt = B0) : Met l yX11_in (.code yX11_in cX11_in 6 (some .boolean) :: GW) ({ frames := 0, cells := 0, slots := 0, locals := 0 }) (va_Pc [.long n, .long a, .long b] (CP D Y Z [] sz)) (QG (S := Int32) (fun r => some (.int r)) (fun r => ((A0 ≤ N0 ∧ N0 ≤ B0) ∧ r = 1) ∨ (¬ (A0 ≤ N0 ∧ N0 ≤ B0) ∧ r = 0)) (fun u => CB D ((fun _ => []) u) (va_A [] sz)) (va_A [] sz)) 0 0 (va_A [] sz) := by
  refine Met.ofW (cc := cX11_in) (maxL := 6) (ret := (some .boolean)) (by decide) rfl ?_
  intro p e s m args below meth c s₁ B hml hv
  obtain ⟨rfl, hsz, hP, hKN, hD0⟩ := hv
  have hx := B.exec
  have hb := B.bytes
  have hr := B.returns
  have hts := atoms_spec (ws := .code yX11_in cX11_in 6 (some .boolean) :: GW) B.pre
  have hg : ∀ w ∈ GW, w.before _ s = true := fun w h => hts w (List.mem_cons_of_mem _ h)
  have hown : s.vm.findClass RX11 = some m.cls := findClass_of_methodNamed B.named
  have hlocks := B.notSynchronized
  subst hsz
  have hD := hD0.self (sz := s.heap.size)
  generalize hAe : va_A [] s.heap.size = A at hD ⊢
  have hA : ∀ q : Nat, s.heap.size ≤ q → A q := fun q h => by rw [← hAe]; exact Or.inr h
  have hl := lv_entry ([.long n, .long a, .long b]) (n := 6) (Nat.le_of_ble_eq_true rfl)
  rw [lg_entry_eq]
  generalize (lg_sl ([.long n, .long a, .long b]) ++ List.replicate (6 - (lg_sl ([.long n, .long a, .long b])).length) Slot.unset).toArray = ls at hl ⊢
  have hl : lv_has ls 6 [(0, .long n), (2, .long a), (4, .long b)] := hl
  refine w_start (A0 := A) hP (fun H locs hP hS => ?_)
  refine lv_lload_n hx hb dX11_in_0 rfl (lv_at hl 0 rfl) ?_
  refine lv_lload_n hx hb dX11_in_1 rfl (lv_at hl 1 rfl) ?_
  refine W.lcmp hx hb dX11_in_2 ?_
  refine lv_if_lt (tgt := 17) hx hb dX11_in_3 (by decide) (fun c1 => ?_) (fun c1 => ?_)
  · skip
    have c1 := l_lt (Eq.refl (n).toInt) (Eq.refl (a).toInt) c1
    refine lv_iconst (v := 0) hx hb dX11_in_17 (by decide) ?_
    refine W.widen (k := 0) (n := 0) (Nat.le_of_ble_eq_true rfl) (Nat.le_of_ble_eq_true rfl) ?_
    exact W.zret (v := 0) hx hb hr (by decide) (fun t ht hW => ⟨⟨0, rfl, (Or.inr ⟨by omega, rfl⟩), CB.nil⟩, hS.F ht⟩) hS.2.2 dX11_in_18
  · skip
    have c1 := l_nlt (Eq.refl (n).toInt) (Eq.refl (a).toInt) c1
    refine lv_lload_n hx hb dX11_in_6 rfl (lv_at hl 0 rfl) ?_
    refine lv_lload hx hb dX11_in_7 (lv_at hl 2 rfl) ?_
    refine W.lcmp hx hb dX11_in_9 ?_
    refine lv_if_gt (tgt := 17) hx hb dX11_in_10 (by decide) (fun c2 => ?_) (fun c2 => ?_)
    · skip
      have c2 := l_gt (Eq.refl (n).toInt) (Eq.refl (b).toInt) c2
      refine lv_iconst (v := 0) hx hb dX11_in_17 (by decide) ?_
      refine W.widen (k := 0) (n := 0) (Nat.le_of_ble_eq_true rfl) (Nat.le_of_ble_eq_true rfl) ?_
      exact W.zret (v := 0) hx hb hr (by decide) (fun t ht hW => ⟨⟨0, rfl, (Or.inr ⟨by omega, rfl⟩), CB.nil⟩, hS.F ht⟩) hS.2.2 dX11_in_18
    · skip
      have c2 := l_ngt (Eq.refl (n).toInt) (Eq.refl (b).toInt) c2
      refine lv_iconst (v := 1) hx hb dX11_in_13 (by decide) ?_
      refine lv_goto (tgt := 18) hx hb dX11_in_14 (by decide) ?_
      refine W.widen (k := 0) (n := 0) (Nat.le_of_ble_eq_true rfl) (Nat.le_of_ble_eq_true rfl) ?_
      exact W.zret (v := 1) hx hb hr (by decide) (fun t ht hW => ⟨⟨1, rfl, (Or.inl ⟨by omega, rfl⟩), CB.nil⟩, hS.F ht⟩) hS.2.2 dX11_in_18
set_option maxHeartbeats 4000000 in
set_option maxRecDepth 100000 in
theorem c_mHour (l : Launch) (D : va_G) (Y : Nat → ClassId) (Z : Nat → Nat) (sz : Nat) (n : Int32) : Met l yX11_isHour (.code yX11_isHour cX11_isHour 1 (some .boolean) :: GW) ({ frames := 0, cells := 0, slots := 0, locals := 0 }) (va_Pc [.int n] (CP D Y Z [] sz)) (QG (S := Int32) (fun r => some (.int r)) (fun r => ((0 ≤ n.toInt ∧ n.toInt ≤ 599) ∧ r = 1) ∨ (¬ (0 ≤ n.toInt ∧ n.toInt ≤ 599) ∧ r = 0)) (fun u => CB D ((fun _ => []) u) (va_A [] sz)) (va_A [] sz)) 0 0 (va_A [] sz) := by
  refine Met.ofW (cc := cX11_isHour) (maxL := 1) (ret := (some .boolean)) (by decide) rfl ?_
  intro p e s m args below meth c s₁ B hml hv
  obtain ⟨rfl, hsz, hP, hKN, hD0⟩ := hv
  have hx := B.exec
  have hb := B.bytes
  have hr := B.returns
  have hts := atoms_spec (ws := .code yX11_isHour cX11_isHour 1 (some .boolean) :: GW) B.pre
  have hg : ∀ w ∈ GW, w.before _ s = true := fun w h => hts w (List.mem_cons_of_mem _ h)
  have hown : s.vm.findClass RX11 = some m.cls := findClass_of_methodNamed B.named
  have hlocks := B.notSynchronized
  subst hsz
  have hD := hD0.self (sz := s.heap.size)
  generalize hAe : va_A [] s.heap.size = A at hD ⊢
  have hA : ∀ q : Nat, s.heap.size ≤ q → A q := fun q h => by rw [← hAe]; exact Or.inr h
  have hl := lv_entry ([.int n]) (n := 1) (Nat.le_of_ble_eq_true rfl)
  rw [lg_entry_eq]
  generalize (lg_sl ([.int n]) ++ List.replicate (1 - (lg_sl ([.int n])).length) Slot.unset).toArray = ls at hl ⊢
  have hl : lv_has ls 1 [(0, .int n)] := hl
  refine w_start (A0 := A) hP (fun H locs hP hS => ?_)
  refine lv_iload_n hx hb dX11_isHour_0 rfl (lv_at hl 0 rfl) ?_
  refine lv_if_lt (tgt := 15) hx hb dX11_isHour_1 (by decide) (fun c1 => ?_) (fun c1 => ?_)
  · skip
    have c1 := i_lt (Eq.refl (n).toInt) (show (0 : Int32).toInt = 0 by decide) c1
    refine lv_iconst (v := 0) hx hb dX11_isHour_15 (by decide) ?_
    refine W.widen (k := 0) (n := 0) (Nat.le_of_ble_eq_true rfl) (Nat.le_of_ble_eq_true rfl) ?_
    exact W.zret (v := 0) hx hb hr (by decide) (fun t ht hW => ⟨⟨0, rfl, (Or.inr ⟨by omega, rfl⟩), CB.nil⟩, hS.F ht⟩) hS.2.2 dX11_isHour_16
  · skip
    have c1 := i_nlt (Eq.refl (n).toInt) (show (0 : Int32).toInt = 0 by decide) c1
    refine lv_iload_n hx hb dX11_isHour_4 rfl (lv_at hl 0 rfl) ?_
    refine lv_sipush (v := 600) hx hb dX11_isHour_5 (by decide) ?_
    refine lv_icmp_ge (tgt := 15) hx hb dX11_isHour_8 (by decide) (fun c2 => ?_) (fun c2 => ?_)
    · skip
      have c2 := i_le (show (600 : Int32).toInt = 600 by decide) (Eq.refl (n).toInt) c2
      refine lv_iconst (v := 0) hx hb dX11_isHour_15 (by decide) ?_
      refine W.widen (k := 0) (n := 0) (Nat.le_of_ble_eq_true rfl) (Nat.le_of_ble_eq_true rfl) ?_
      exact W.zret (v := 0) hx hb hr (by decide) (fun t ht hW => ⟨⟨0, rfl, (Or.inr ⟨by omega, rfl⟩), CB.nil⟩, hS.F ht⟩) hS.2.2 dX11_isHour_16
    · skip
      have c2 := i_nle (show (600 : Int32).toInt = 600 by decide) (Eq.refl (n).toInt) c2
      refine lv_iconst (v := 1) hx hb dX11_isHour_11 (by decide) ?_
      refine lv_goto (tgt := 16) hx hb dX11_isHour_12 (by decide) ?_
      refine W.widen (k := 0) (n := 0) (Nat.le_of_ble_eq_true rfl) (Nat.le_of_ble_eq_true rfl) ?_
      exact W.zret (v := 1) hx hb hr (by decide) (fun t ht hW => ⟨⟨1, rfl, (Or.inl ⟨by omega, rfl⟩), CB.nil⟩, hS.F ht⟩) hS.2.2 dX11_isHour_16
set_option maxHeartbeats 4000000 in
set_option maxRecDepth 100000 in
theorem c_starAt (l : Launch) (D : va_G) (Y : Nat → ClassId) (Z : Nat → Nat) (sz : Nat) (q : Nat) (b : Nat → Nat) (n : Int32) : Met l yX6_starAt (.code yX6_starAt cX6_starAt 2 (some (.object "DimStars$Star")) :: GW) ({ frames := 0, cells := 0, slots := 0, locals := 0 }) (va_Pc [.ref q, .int n] (CP D Y Z [(q, .inr (6, (skF b)))] sz)) (QG (S := Unit) (fun _ => some (.null)) (fun _ => True) (fun u => CB D ((fun _ => [(q, .inr (6, (skF b)))]) u) (va_A [(q, .inr (6, (skF b)))] sz)) (va_A [(q, .inr (6, (skF b)))] sz)) 0 0 (va_A [(q, .inr (6, (skF b)))] sz) := by
  refine Met.ofW (cc := cX6_starAt) (maxL := 2) (ret := (some (.object "DimStars$Star"))) (by decide) rfl ?_
  intro p e s m args below meth c s₁ B hml hv
  obtain ⟨rfl, hsz, hP, hKN, hD0⟩ := hv
  have hx := B.exec
  have hb := B.bytes
  have hr := B.returns
  have hts := atoms_spec (ws := .code yX6_starAt cX6_starAt 2 (some (.object "DimStars$Star")) :: GW) B.pre
  have hg : ∀ w ∈ GW, w.before _ s = true := fun w h => hts w (List.mem_cons_of_mem _ h)
  have hown : s.vm.findClass RX6 = some m.cls := findClass_of_methodNamed B.named
  have hlocks := B.notSynchronized
  subst hsz
  have hD := hD0.self (sz := s.heap.size)
  generalize hAe : va_A [(q, .inr (6, (skF b)))] s.heap.size = A at hD ⊢
  have hA : ∀ q : Nat, s.heap.size ≤ q → A q := fun q h => by rw [← hAe]; exact Or.inr h
  have hl := lv_entry ([.ref q, .int n]) (n := 2) (Nat.le_of_ble_eq_true rfl)
  rw [lg_entry_eq]
  generalize (lg_sl ([.ref q, .int n]) ++ List.replicate (2 - (lg_sl ([.ref q, .int n])).length) Slot.unset).toArray = ls at hl ⊢
  have hl : lv_has ls 2 [(0, .ref q), (1, .int n)] := hl
  refine w_start (A0 := A) hP (fun H locs hP hS => ?_)
  refine lv_iload_n hx hb dX6_starAt_0 rfl (lv_at hl 1 rfl) ?_
  refine lv_if_lt (tgt := 27) hx hb dX6_starAt_1 (by decide) (fun c1 => ?_) (fun c1 => ?_)
  · skip
    have c1 := i_lt (Eq.refl (n).toInt) (show (0 : Int32).toInt = 0 by decide) c1
    refine lv_null hx hb dX6_starAt_27 ?_
    refine W.widen (k := 0) (n := 0) (Nat.le_of_ble_eq_true rfl) (Nat.le_of_ble_eq_true rfl) ?_
    exact W.aret (v := .null) hx hb hr (Or.inl ⟨_, rfl⟩) (Or.inl rfl) (fun t ht hW => ⟨⟨(), rfl, trivial, CB.mk ht (hP.sub [0] rfl) (hD.sub [0] (by decide) rfl)⟩, hS.F ht⟩) hS.2.2 dX6_starAt_28
  · skip
    have c1 := i_nlt (Eq.refl (n).toInt) (show (0 : Int32).toInt = 0 by decide) c1
    refine lv_iload_n hx hb dX6_starAt_4 rfl (lv_at hl 1 rfl) ?_
    refine lv_aload_n hx hb dX6_starAt_5 rfl (lv_at hl 0 rfl) ?_
    refine va_get (D := D) (ci := 6) (v := .int 0) (C := RX6) (T := TX6) (N := 13) hx hb hg inGX6 hown hKN.1 hP 0 rfl rfl 0 (by decide) (hg _ kw_39) (fun _ h9 => h9) rfl dX6_starAt_6 ?_
    refine lv_icmp_ge (tgt := 27) hx hb dX6_starAt_9 (by decide) (fun c2 => ?_) (fun c2 => ?_)
    · skip
      have c2 := i_le (show (0 : Int32).toInt = 0 by decide) (Eq.refl (n).toInt) c2
      refine lv_null hx hb dX6_starAt_27 ?_
      refine W.widen (k := 0) (n := 0) (Nat.le_of_ble_eq_true rfl) (Nat.le_of_ble_eq_true rfl) ?_
      exact W.aret (v := .null) hx hb hr (Or.inl ⟨_, rfl⟩) (Or.inl rfl) (fun t ht hW => ⟨⟨(), rfl, trivial, CB.mk ht (hP.sub [0] rfl) (hD.sub [0] (by decide) rfl)⟩, hS.F ht⟩) hS.2.2 dX6_starAt_28
    · skip
      have c2 := i_nle (show (0 : Int32).toInt = 0 by decide) (Eq.refl (n).toInt) c2
      exfalso; omega
set_option maxHeartbeats 4000000 in
set_option maxRecDepth 100000 in
theorem c_worldAt (l : Launch) (D : va_G) (Y : Nat → ClassId) (Z : Nat → Nat) (sz : Nat) (q : Nat) (b : Nat → Nat) (n : Int32) : Met l yX6_worldAt (.code yX6_worldAt cX6_worldAt 2 (some (.object "DimStars$World")) :: GW) ({ frames := 0, cells := 0, slots := 0, locals := 0 }) (va_Pc [.ref q, .int n] (CP D Y Z [(q, .inr (6, (skF b)))] sz)) (QG (S := Unit) (fun _ => some (.null)) (fun _ => True) (fun u => CB D ((fun _ => [(q, .inr (6, (skF b)))]) u) (va_A [(q, .inr (6, (skF b)))] sz)) (va_A [(q, .inr (6, (skF b)))] sz)) 0 0 (va_A [(q, .inr (6, (skF b)))] sz) := by
  refine Met.ofW (cc := cX6_worldAt) (maxL := 2) (ret := (some (.object "DimStars$World"))) (by decide) rfl ?_
  intro p e s m args below meth c s₁ B hml hv
  obtain ⟨rfl, hsz, hP, hKN, hD0⟩ := hv
  have hx := B.exec
  have hb := B.bytes
  have hr := B.returns
  have hts := atoms_spec (ws := .code yX6_worldAt cX6_worldAt 2 (some (.object "DimStars$World")) :: GW) B.pre
  have hg : ∀ w ∈ GW, w.before _ s = true := fun w h => hts w (List.mem_cons_of_mem _ h)
  have hown : s.vm.findClass RX6 = some m.cls := findClass_of_methodNamed B.named
  have hlocks := B.notSynchronized
  subst hsz
  have hD := hD0.self (sz := s.heap.size)
  generalize hAe : va_A [(q, .inr (6, (skF b)))] s.heap.size = A at hD ⊢
  have hA : ∀ q : Nat, s.heap.size ≤ q → A q := fun q h => by rw [← hAe]; exact Or.inr h
  have hl := lv_entry ([.ref q, .int n]) (n := 2) (Nat.le_of_ble_eq_true rfl)
  rw [lg_entry_eq]
  generalize (lg_sl ([.ref q, .int n]) ++ List.replicate (2 - (lg_sl ([.ref q, .int n])).length) Slot.unset).toArray = ls at hl ⊢
  have hl : lv_has ls 2 [(0, .ref q), (1, .int n)] := hl
  refine w_start (A0 := A) hP (fun H locs hP hS => ?_)
  refine lv_iload_n hx hb dX6_worldAt_0 rfl (lv_at hl 1 rfl) ?_
  refine lv_if_lt (tgt := 27) hx hb dX6_worldAt_1 (by decide) (fun c1 => ?_) (fun c1 => ?_)
  · skip
    have c1 := i_lt (Eq.refl (n).toInt) (show (0 : Int32).toInt = 0 by decide) c1
    refine lv_null hx hb dX6_worldAt_27 ?_
    refine W.widen (k := 0) (n := 0) (Nat.le_of_ble_eq_true rfl) (Nat.le_of_ble_eq_true rfl) ?_
    exact W.aret (v := .null) hx hb hr (Or.inl ⟨_, rfl⟩) (Or.inl rfl) (fun t ht hW => ⟨⟨(), rfl, trivial, CB.mk ht (hP.sub [0] rfl) (hD.sub [0] (by decide) rfl)⟩, hS.F ht⟩) hS.2.2 dX6_worldAt_28
  · skip
    have c1 := i_nlt (Eq.refl (n).toInt) (show (0 : Int32).toInt = 0 by decide) c1
    refine lv_iload_n hx hb dX6_worldAt_4 rfl (lv_at hl 1 rfl) ?_
    refine lv_aload_n hx hb dX6_worldAt_5 rfl (lv_at hl 0 rfl) ?_
    refine va_get (D := D) (ci := 6) (v := .int 0) (C := RX6) (T := TX6) (N := 13) hx hb hg inGX6 hown hKN.1 hP 0 rfl rfl 2 (by decide) (hg _ kw_43) (fun _ h9 => h9) rfl dX6_worldAt_6 ?_
    refine lv_icmp_ge (tgt := 27) hx hb dX6_worldAt_9 (by decide) (fun c2 => ?_) (fun c2 => ?_)
    · skip
      have c2 := i_le (show (0 : Int32).toInt = 0 by decide) (Eq.refl (n).toInt) c2
      refine lv_null hx hb dX6_worldAt_27 ?_
      refine W.widen (k := 0) (n := 0) (Nat.le_of_ble_eq_true rfl) (Nat.le_of_ble_eq_true rfl) ?_
      exact W.aret (v := .null) hx hb hr (Or.inl ⟨_, rfl⟩) (Or.inl rfl) (fun t ht hW => ⟨⟨(), rfl, trivial, CB.mk ht (hP.sub [0] rfl) (hD.sub [0] (by decide) rfl)⟩, hS.F ht⟩) hS.2.2 dX6_worldAt_28
    · skip
      have c2 := i_nle (show (0 : Int32).toInt = 0 by decide) (Eq.refl (n).toInt) c2
      exfalso; omega
set_option maxHeartbeats 4000000 in
set_option maxRecDepth 100000 in
theorem c_isStar (l : Launch) (D : va_G) (Y : Nat → ClassId) (Z : Nat → Nat) (sz : Nat) (o : Nat) (b : Nat → Nat) (n : Int32) : Met l yX10_isStar (.code yX10_isStar cX10_isStar 2 (some .boolean) :: GW) ({ frames := 1, cells := 0, slots := 0, locals := 21 }) (va_Pc [.ref o, .int n] (CP D Y Z [(o, .inr (10, (dsF b))), ((b 0), .inr (6, (skF b)))] sz)) (QG (S := Unit) (fun _ => some (.int 0)) (fun _ => True) (fun u => CB D ((fun _ => [(o, .inr (10, (dsF b))), ((b 0), .inr (6, (skF b)))]) u) (va_A [(o, .inr (10, (dsF b))), ((b 0), .inr (6, (skF b)))] sz)) (va_A [(o, .inr (10, (dsF b))), ((b 0), .inr (6, (skF b)))] sz)) 0 0 (va_A [(o, .inr (10, (dsF b))), ((b 0), .inr (6, (skF b)))] sz) := by
  refine Met.ofW (cc := cX10_isStar) (maxL := 2) (ret := (some .boolean)) (by decide) rfl ?_
  intro p e s m args below meth c s₁ B hml hv
  obtain ⟨rfl, hsz, hP, hKN, hD0⟩ := hv
  have hx := B.exec
  have hb := B.bytes
  have hr := B.returns
  have hts := atoms_spec (ws := .code yX10_isStar cX10_isStar 2 (some .boolean) :: GW) B.pre
  have hg : ∀ w ∈ GW, w.before _ s = true := fun w h => hts w (List.mem_cons_of_mem _ h)
  have hown : s.vm.findClass RX10 = some m.cls := findClass_of_methodNamed B.named
  have hlocks := B.notSynchronized
  subst hsz
  have hD := hD0.self (sz := s.heap.size)
  generalize hAe : va_A [(o, .inr (10, (dsF b))), ((b 0), .inr (6, (skF b)))] s.heap.size = A at hD ⊢
  have hA : ∀ q : Nat, s.heap.size ≤ q → A q := fun q h => by rw [← hAe]; exact Or.inr h
  have hl := lv_entry ([.ref o, .int n]) (n := 2) (Nat.le_of_ble_eq_true rfl)
  rw [lg_entry_eq]
  generalize (lg_sl ([.ref o, .int n]) ++ List.replicate (2 - (lg_sl ([.ref o, .int n])).length) Slot.unset).toArray = ls at hl ⊢
  have hl : lv_has ls 2 [(0, .ref o), (1, .int n)] := hl
  refine w_start (A0 := A) hP (fun H locs hP hS => ?_)
  refine lv_aload_n hx hb dX10_isStar_0 rfl (lv_at hl 0 rfl) ?_
  refine va_get (D := D) (ci := 10) (v := .ref (b 0)) (C := RX10) (T := TX10) (N := 20) hx hb hg inGX10 hown hKN.1 hP 0 rfl rfl 0 (by decide) (hg _ kw_349) (fun _ h9 => h9) rfl dX10_isStar_1 ?_
  refine lv_iload_n hx hb dX10_isStar_4 rfl (lv_at hl 1 rfl) ?_
  refine cg (wc := [((b 0), .inr (6, (skF b)))]) (wr := [(o, .inr (10, (dsF b)))]) [1] [0] (rn_NV (As := [.int n]) (rest := []) (b := (b 0)) (c_starAt l D Y Z H.size (b 0) b n) ⟨hx, hb, hml, hown, hg⟩ hKN lk_X10_108 ⟨CP.blind, va_recv hKN.1 hP (ci := 6) (q0 := 1) rfl rfl, CP.at (hP.sub [1] rfl) hKN (hD.sub [1] (by decide) rfl)⟩ ⟨⟨rfl, rfl⟩, ⟨Nat.le_of_ble_eq_true rfl, Nat.le_of_ble_eq_true rfl⟩, ⟨Nat.le_of_ble_eq_true rfl, Nat.le_of_ble_eq_true rfl⟩⟩ hl.1 rfl (Nat.le_of_ble_eq_true rfl) dX10_isStar_5) hP hD hS hA rfl rfl (by decide) (by decide) (fun u1 H locs w2 hP hD hS => ?_)
  refine W.eq (g2 := F0 m 8 ls [.null]) rfl ?_
  have hP : va_P D vwCl [(o, .inr (10, (dsF b))), ((b 0), .inr (6, (skF b)))] H := hP
  have hD : va_D A [(o, .inr (10, (dsF b))), ((b 0), .inr (6, (skF b)))] := hD
  refine lv_ifnullN (tgt := 15) hx hb dX10_isStar_8 (by decide) ?_
  refine lv_iconst (v := 0) hx hb dX10_isStar_15 (by decide) ?_
  refine W.widen (k := 0) (n := 0) (Nat.le_of_ble_eq_true rfl) (Nat.le_of_ble_eq_true rfl) ?_
  exact W.zret (v := 0) hx hb hr (by decide) (fun t ht hW => ⟨⟨(), rfl, trivial, CB.mk ht (hP.sub [0, 1] rfl) (hD.sub [0, 1] (by decide) rfl)⟩, hS.F ht⟩) hS.2.2 dX10_isStar_16
set_option maxHeartbeats 4000000 in
set_option maxRecDepth 100000 in
theorem c_lawAt (l : Launch) (D : va_G) (Y : Nat → ClassId) (Z : Nat → Nat) (sz : Nat) (o : Nat) (b : Nat → Nat) (n : Int32) : Met l yX10_lawAt (.code yX10_lawAt cX10_lawAt 2 (some (.object "DimStars$Text")) :: GW) ({ frames := 1, cells := 0, slots := 0, locals := 22 }) (va_Pc [.ref o, .int n] (CP D Y Z [(o, .inr (10, (dsF b)))] sz)) (QG (S := Unit) (fun _ => some (.null)) (fun _ => True) (fun u => CB D ((fun _ => [(o, .inr (10, (dsF b)))]) u) (va_A [(o, .inr (10, (dsF b)))] sz)) (va_A [(o, .inr (10, (dsF b)))] sz)) 0 0 (va_A [(o, .inr (10, (dsF b)))] sz) := by
  refine Met.ofW (cc := cX10_lawAt) (maxL := 2) (ret := (some (.object "DimStars$Text"))) (by decide) rfl ?_
  intro p e s m args below meth c s₁ B hml hv
  obtain ⟨rfl, hsz, hP, hKN, hD0⟩ := hv
  have hx := B.exec
  have hb := B.bytes
  have hr := B.returns
  have hts := atoms_spec (ws := .code yX10_lawAt cX10_lawAt 2 (some (.object "DimStars$Text")) :: GW) B.pre
  have hg : ∀ w ∈ GW, w.before _ s = true := fun w h => hts w (List.mem_cons_of_mem _ h)
  have hown : s.vm.findClass RX10 = some m.cls := findClass_of_methodNamed B.named
  have hlocks := B.notSynchronized
  subst hsz
  have hD := hD0.self (sz := s.heap.size)
  generalize hAe : va_A [(o, .inr (10, (dsF b)))] s.heap.size = A at hD ⊢
  have hA : ∀ q : Nat, s.heap.size ≤ q → A q := fun q h => by rw [← hAe]; exact Or.inr h
  have hl := lv_entry ([.ref o, .int n]) (n := 2) (Nat.le_of_ble_eq_true rfl)
  rw [lg_entry_eq]
  generalize (lg_sl ([.ref o, .int n]) ++ List.replicate (2 - (lg_sl ([.ref o, .int n])).length) Slot.unset).toArray = ls at hl ⊢
  have hl : lv_has ls 2 [(0, .ref o), (1, .int n)] := hl
  refine w_start (A0 := A) hP (fun H locs hP hS => ?_)
  refine lv_iload_n hx hb dX10_lawAt_0 rfl (lv_at hl 1 rfl) ?_
  refine lv_iconst (v := 0) hx hb dX10_lawAt_1 (by decide) ?_
  refine lv_aload_n hx hb dX10_lawAt_2 rfl (lv_at hl 0 rfl) ?_
  refine va_get (D := D) (ci := 10) (v := .int 0) (C := RX10) (T := TX10) (N := 20) hx hb hg inGX10 hown hKN.1 hP 0 rfl rfl 5 (by decide) (hg _ kw_354) (fun _ h9 => h9) rfl dX10_lawAt_3 ?_
  refine lv_iconst (v := 1) hx hb dX10_lawAt_6 (by decide) ?_
  refine lv_isub hx hb dX10_lawAt_7 ?_
  refine lv_topi (fun z1 ez1 => ?_)
  obtain rfl : z1 = (-1) := ez1.trans (by decide)
  refine cg0 (rn_S (As := [.int n, .int 0, .int (-1)]) (rest := []) (c_isWithin l D Y Z H.size n 0 (-1) (0) (-1) (by decide) (by decide)) ⟨hx, hb, hml, hown, hg⟩ lk_X10_100 ⟨CP.blind, CP.at nilP hKN (nilD (A := fun _ => True))⟩ ⟨⟨rfl, rfl⟩, ⟨Nat.le_of_ble_eq_true rfl, Nat.le_of_ble_eq_true rfl⟩, ⟨Nat.le_of_ble_eq_true rfl, Nat.le_of_ble_eq_true rfl⟩⟩ hl.1 rfl (Nat.le_of_ble_eq_true rfl) dX10_lawAt_8) hP hS hA (fun u2 H locs w3 hP hS => ?_)
  rcases w3 with ⟨w3, rfl⟩ | ⟨w3, rfl⟩
  · skip
    exfalso; omega
  · skip
    refine W.eq (g2 := F0 m 11 ls [.int 0]) rfl ?_
    refine lv_if_eq (tgt := 29) hx hb dX10_lawAt_11 (by decide) (fun c4 => ?_) (fun c4 => ?_)
    rotate_left
    · exact absurd c4 (by decide)
    refine lv_null hx hb dX10_lawAt_29 ?_
    refine W.widen (k := 0) (n := 0) (Nat.le_of_ble_eq_true rfl) (Nat.le_of_ble_eq_true rfl) ?_
    exact W.aret (v := .null) hx hb hr (Or.inl ⟨_, rfl⟩) (Or.inl rfl) (fun t ht hW => ⟨⟨(), rfl, trivial, CB.mk ht (hP.sub [0] rfl) (hD.sub [0] (by decide) rfl)⟩, hS.F ht⟩) hS.2.2 dX10_lawAt_30
set_option maxHeartbeats 4000000 in
set_option maxRecDepth 100000 in
theorem c_searchAt (l : Launch) (D : va_G) (Y : Nat → ClassId) (Z : Nat → Nat) (sz : Nat) (o : Nat) (b : Nat → Nat) (n : Int32) : Met l yX10_searchAt (.code yX10_searchAt cX10_searchAt 2 (some (.object "DimStars$Text")) :: GW) ({ frames := 1, cells := 0, slots := 0, locals := 22 }) (va_Pc [.ref o, .int n] (CP D Y Z [(o, .inr (10, (dsF b)))] sz)) (QG (S := Unit) (fun _ => some (.null)) (fun _ => True) (fun u => CB D ((fun _ => [(o, .inr (10, (dsF b)))]) u) (va_A [(o, .inr (10, (dsF b)))] sz)) (va_A [(o, .inr (10, (dsF b)))] sz)) 0 0 (va_A [(o, .inr (10, (dsF b)))] sz) := by
  refine Met.ofW (cc := cX10_searchAt) (maxL := 2) (ret := (some (.object "DimStars$Text"))) (by decide) rfl ?_
  intro p e s m args below meth c s₁ B hml hv
  obtain ⟨rfl, hsz, hP, hKN, hD0⟩ := hv
  have hx := B.exec
  have hb := B.bytes
  have hr := B.returns
  have hts := atoms_spec (ws := .code yX10_searchAt cX10_searchAt 2 (some (.object "DimStars$Text")) :: GW) B.pre
  have hg : ∀ w ∈ GW, w.before _ s = true := fun w h => hts w (List.mem_cons_of_mem _ h)
  have hown : s.vm.findClass RX10 = some m.cls := findClass_of_methodNamed B.named
  have hlocks := B.notSynchronized
  subst hsz
  have hD := hD0.self (sz := s.heap.size)
  generalize hAe : va_A [(o, .inr (10, (dsF b)))] s.heap.size = A at hD ⊢
  have hA : ∀ q : Nat, s.heap.size ≤ q → A q := fun q h => by rw [← hAe]; exact Or.inr h
  have hl := lv_entry ([.ref o, .int n]) (n := 2) (Nat.le_of_ble_eq_true rfl)
  rw [lg_entry_eq]
  generalize (lg_sl ([.ref o, .int n]) ++ List.replicate (2 - (lg_sl ([.ref o, .int n])).length) Slot.unset).toArray = ls at hl ⊢
  have hl : lv_has ls 2 [(0, .ref o), (1, .int n)] := hl
  refine w_start (A0 := A) hP (fun H locs hP hS => ?_)
  refine lv_iload_n hx hb dX10_searchAt_0 rfl (lv_at hl 1 rfl) ?_
  refine lv_iconst (v := 0) hx hb dX10_searchAt_1 (by decide) ?_
  refine lv_aload_n hx hb dX10_searchAt_2 rfl (lv_at hl 0 rfl) ?_
  refine va_get (D := D) (ci := 10) (v := .int 0) (C := RX10) (T := TX10) (N := 20) hx hb hg inGX10 hown hKN.1 hP 0 rfl rfl 6 (by decide) (hg _ kw_355) (fun _ h9 => h9) rfl dX10_searchAt_3 ?_
  refine lv_iconst (v := 1) hx hb dX10_searchAt_6 (by decide) ?_
  refine lv_isub hx hb dX10_searchAt_7 ?_
  refine lv_topi (fun z1 ez1 => ?_)
  obtain rfl : z1 = (-1) := ez1.trans (by decide)
  refine cg0 (rn_S (As := [.int n, .int 0, .int (-1)]) (rest := []) (c_isWithin l D Y Z H.size n 0 (-1) (0) (-1) (by decide) (by decide)) ⟨hx, hb, hml, hown, hg⟩ lk_X10_100 ⟨CP.blind, CP.at nilP hKN (nilD (A := fun _ => True))⟩ ⟨⟨rfl, rfl⟩, ⟨Nat.le_of_ble_eq_true rfl, Nat.le_of_ble_eq_true rfl⟩, ⟨Nat.le_of_ble_eq_true rfl, Nat.le_of_ble_eq_true rfl⟩⟩ hl.1 rfl (Nat.le_of_ble_eq_true rfl) dX10_searchAt_8) hP hS hA (fun u2 H locs w3 hP hS => ?_)
  rcases w3 with ⟨w3, rfl⟩ | ⟨w3, rfl⟩
  · skip
    exfalso; omega
  · skip
    refine W.eq (g2 := F0 m 11 ls [.int 0]) rfl ?_
    refine lv_if_eq (tgt := 29) hx hb dX10_searchAt_11 (by decide) (fun c4 => ?_) (fun c4 => ?_)
    rotate_left
    · exact absurd c4 (by decide)
    refine lv_null hx hb dX10_searchAt_29 ?_
    refine W.widen (k := 0) (n := 0) (Nat.le_of_ble_eq_true rfl) (Nat.le_of_ble_eq_true rfl) ?_
    exact W.aret (v := .null) hx hb hr (Or.inl ⟨_, rfl⟩) (Or.inl rfl) (fun t ht hW => ⟨⟨(), rfl, trivial, CB.mk ht (hP.sub [0] rfl) (hD.sub [0] (by decide) rfl)⟩, hS.F ht⟩) hS.2.2 dX10_searchAt_30
set_option maxHeartbeats 4000000 in
set_option maxRecDepth 100000 in
theorem c_sorterAt (l : Launch) (D : va_G) (Y : Nat → ClassId) (Z : Nat → Nat) (sz : Nat) (o : Nat) (b : Nat → Nat) (n : Int32) : Met l yX10_sorterAt (.code yX10_sorterAt cX10_sorterAt 2 (some (.object "DimStars$Text")) :: GW) ({ frames := 1, cells := 0, slots := 0, locals := 22 }) (va_Pc [.ref o, .int n] (CP D Y Z [(o, .inr (10, (dsF b)))] sz)) (QG (S := Unit) (fun _ => some (.null)) (fun _ => True) (fun u => CB D ((fun _ => [(o, .inr (10, (dsF b)))]) u) (va_A [(o, .inr (10, (dsF b)))] sz)) (va_A [(o, .inr (10, (dsF b)))] sz)) 0 0 (va_A [(o, .inr (10, (dsF b)))] sz) := by
  refine Met.ofW (cc := cX10_sorterAt) (maxL := 2) (ret := (some (.object "DimStars$Text"))) (by decide) rfl ?_
  intro p e s m args below meth c s₁ B hml hv
  obtain ⟨rfl, hsz, hP, hKN, hD0⟩ := hv
  have hx := B.exec
  have hb := B.bytes
  have hr := B.returns
  have hts := atoms_spec (ws := .code yX10_sorterAt cX10_sorterAt 2 (some (.object "DimStars$Text")) :: GW) B.pre
  have hg : ∀ w ∈ GW, w.before _ s = true := fun w h => hts w (List.mem_cons_of_mem _ h)
  have hown : s.vm.findClass RX10 = some m.cls := findClass_of_methodNamed B.named
  have hlocks := B.notSynchronized
  subst hsz
  have hD := hD0.self (sz := s.heap.size)
  generalize hAe : va_A [(o, .inr (10, (dsF b)))] s.heap.size = A at hD ⊢
  have hA : ∀ q : Nat, s.heap.size ≤ q → A q := fun q h => by rw [← hAe]; exact Or.inr h
  have hl := lv_entry ([.ref o, .int n]) (n := 2) (Nat.le_of_ble_eq_true rfl)
  rw [lg_entry_eq]
  generalize (lg_sl ([.ref o, .int n]) ++ List.replicate (2 - (lg_sl ([.ref o, .int n])).length) Slot.unset).toArray = ls at hl ⊢
  have hl : lv_has ls 2 [(0, .ref o), (1, .int n)] := hl
  refine w_start (A0 := A) hP (fun H locs hP hS => ?_)
  refine lv_iload_n hx hb dX10_sorterAt_0 rfl (lv_at hl 1 rfl) ?_
  refine lv_iconst (v := 0) hx hb dX10_sorterAt_1 (by decide) ?_
  refine lv_aload_n hx hb dX10_sorterAt_2 rfl (lv_at hl 0 rfl) ?_
  refine va_get (D := D) (ci := 10) (v := .int 0) (C := RX10) (T := TX10) (N := 20) hx hb hg inGX10 hown hKN.1 hP 0 rfl rfl 7 (by decide) (hg _ kw_356) (fun _ h9 => h9) rfl dX10_sorterAt_3 ?_
  refine lv_iconst (v := 1) hx hb dX10_sorterAt_6 (by decide) ?_
  refine lv_isub hx hb dX10_sorterAt_7 ?_
  refine lv_topi (fun z1 ez1 => ?_)
  obtain rfl : z1 = (-1) := ez1.trans (by decide)
  refine cg0 (rn_S (As := [.int n, .int 0, .int (-1)]) (rest := []) (c_isWithin l D Y Z H.size n 0 (-1) (0) (-1) (by decide) (by decide)) ⟨hx, hb, hml, hown, hg⟩ lk_X10_100 ⟨CP.blind, CP.at nilP hKN (nilD (A := fun _ => True))⟩ ⟨⟨rfl, rfl⟩, ⟨Nat.le_of_ble_eq_true rfl, Nat.le_of_ble_eq_true rfl⟩, ⟨Nat.le_of_ble_eq_true rfl, Nat.le_of_ble_eq_true rfl⟩⟩ hl.1 rfl (Nat.le_of_ble_eq_true rfl) dX10_sorterAt_8) hP hS hA (fun u2 H locs w3 hP hS => ?_)
  rcases w3 with ⟨w3, rfl⟩ | ⟨w3, rfl⟩
  · skip
    exfalso; omega
  · skip
    refine W.eq (g2 := F0 m 11 ls [.int 0]) rfl ?_
    refine lv_if_eq (tgt := 29) hx hb dX10_sorterAt_11 (by decide) (fun c4 => ?_) (fun c4 => ?_)
    rotate_left
    · exact absurd c4 (by decide)
    refine lv_null hx hb dX10_sorterAt_29 ?_
    refine W.widen (k := 0) (n := 0) (Nat.le_of_ble_eq_true rfl) (Nat.le_of_ble_eq_true rfl) ?_
    exact W.aret (v := .null) hx hb hr (Or.inl ⟨_, rfl⟩) (Or.inl rfl) (fun t ht hW => ⟨⟨(), rfl, trivial, CB.mk ht (hP.sub [0] rfl) (hD.sub [0] (by decide) rfl)⟩, hS.F ht⟩) hS.2.2 dX10_sorterAt_30
set_option maxHeartbeats 4000000 in
set_option maxRecDepth 100000 in
theorem c_isWeighed (l : Launch) (D : va_G) (Y : Nat → ClassId) (Z : Nat → Nat) (sz : Nat) (o : Nat) (b : Nat → Nat) (n0 n1 n2 : Int32) : Met l yX10_isWeighed (.code yX10_isWeighed cX10_isWeighed 4 (some .boolean) :: GW) ({ frames := 2, cells := 0, slots := 0, locals := 43 }) (va_Pc [.ref o, .int n0, .int n1, .int n2] (CP D Y Z [(o, .inr (10, (dsF b))), ((b 0), .inr (6, (skF b)))] sz)) (QG (S := Unit) (fun _ => some (.int 0)) (fun _ => True) (fun u => CB D ((fun _ => [(o, .inr (10, (dsF b))), ((b 0), .inr (6, (skF b)))]) u) (va_A [(o, .inr (10, (dsF b))), ((b 0), .inr (6, (skF b)))] sz)) (va_A [(o, .inr (10, (dsF b))), ((b 0), .inr (6, (skF b)))] sz)) 0 0 (va_A [(o, .inr (10, (dsF b))), ((b 0), .inr (6, (skF b)))] sz) := by
  refine Met.ofW (cc := cX10_isWeighed) (maxL := 4) (ret := (some .boolean)) (by decide) rfl ?_
  intro p e s m args below meth c s₁ B hml hv
  obtain ⟨rfl, hsz, hP, hKN, hD0⟩ := hv
  have hx := B.exec
  have hb := B.bytes
  have hr := B.returns
  have hts := atoms_spec (ws := .code yX10_isWeighed cX10_isWeighed 4 (some .boolean) :: GW) B.pre
  have hg : ∀ w ∈ GW, w.before _ s = true := fun w h => hts w (List.mem_cons_of_mem _ h)
  have hown : s.vm.findClass RX10 = some m.cls := findClass_of_methodNamed B.named
  have hlocks := B.notSynchronized
  subst hsz
  have hD := hD0.self (sz := s.heap.size)
  generalize hAe : va_A [(o, .inr (10, (dsF b))), ((b 0), .inr (6, (skF b)))] s.heap.size = A at hD ⊢
  have hA : ∀ q : Nat, s.heap.size ≤ q → A q := fun q h => by rw [← hAe]; exact Or.inr h
  have hl := lv_entry ([.ref o, .int n0, .int n1, .int n2]) (n := 4) (Nat.le_of_ble_eq_true rfl)
  rw [lg_entry_eq]
  generalize (lg_sl ([.ref o, .int n0, .int n1, .int n2]) ++ List.replicate (4 - (lg_sl ([.ref o, .int n0, .int n1, .int n2])).length) Slot.unset).toArray = ls at hl ⊢
  have hl : lv_has ls 4 [(0, .ref o), (1, .int n0), (2, .int n1), (3, .int n2)] := hl
  refine w_start (A0 := A) hP (fun H locs hP hS => ?_)
  refine lv_aload_n hx hb dX10_isWeighed_0 rfl (lv_at hl 0 rfl) ?_
  refine lv_iload_n hx hb dX10_isWeighed_1 rfl (lv_at hl 1 rfl) ?_
  refine cg (wc := [(o, .inr (10, (dsF b)))]) (wr := [((b 0), .inr (6, (skF b)))]) [0] [1] (rn_V (As := [.int n0]) (rest := []) (b := o) (c_sorterAt l D Y Z H.size o b n0) ⟨hx, hb, hml, hown, hg⟩ lk_X10_349 ⟨CP.blind, va_recv hKN.1 hP (ci := 10) (q0 := 0) rfl rfl, CP.at (hP.sub [0] rfl) hKN (hD.sub [0] (by decide) rfl)⟩ ⟨⟨rfl, rfl⟩, ⟨Nat.le_of_ble_eq_true rfl, Nat.le_of_ble_eq_true rfl⟩, ⟨Nat.le_of_ble_eq_true rfl, Nat.le_of_ble_eq_true rfl⟩⟩ hl.1 rfl (Nat.le_of_ble_eq_true rfl) dX10_isWeighed_2) hP hD hS hA rfl rfl (by decide) (by decide) (fun u1 H locs w2 hP hD hS => ?_)
  refine W.eq (g2 := F0 m 5 ls [.null]) rfl ?_
  have hP : va_P D vwCl [((b 0), .inr (6, (skF b))), (o, .inr (10, (dsF b)))] H := hP
  have hD : va_D A [((b 0), .inr (6, (skF b))), (o, .inr (10, (dsF b)))] := hD
  refine lv_ifnullN (tgt := 24) hx hb dX10_isWeighed_5 (by decide) ?_
  refine lv_iconst (v := 0) hx hb dX10_isWeighed_24 (by decide) ?_
  refine W.widen (k := 0) (n := 0) (Nat.le_of_ble_eq_true rfl) (Nat.le_of_ble_eq_true rfl) ?_
  exact W.zret (v := 0) hx hb hr (by decide) (fun t ht hW => ⟨⟨(), rfl, trivial, CB.mk ht (hP.sub [1, 0] rfl) (hD.sub [1, 0] (by decide) rfl)⟩, hS.F ht⟩) hS.2.2 dX10_isWeighed_25
set_option maxHeartbeats 4000000 in
set_option maxRecDepth 100000 in
theorem c_numbers (l : Launch) (D : va_G) (Y : Nat → ClassId) (Z : Nat → Nat) (sz : Nat) (q : Nat) (b : Nat → Nat) : Met l yX6_numbers (.code yX6_numbers cX6_numbers 4 (some .int) :: GW) ({ frames := 0, cells := 0, slots := 0, locals := 0 }) (va_Pc [.ref q] (CP D Y Z [(q, .inr (6, (skF b)))] sz)) (QG (S := Unit) (fun _ => some (.int 0)) (fun _ => True) (fun u => CB D ((fun _ => [(q, .inr (6, (skF b)))]) u) (va_A [(q, .inr (6, (skF b)))] sz)) (va_A [(q, .inr (6, (skF b)))] sz)) 0 0 (va_A [(q, .inr (6, (skF b)))] sz) := by
  refine Met.ofW (cc := cX6_numbers) (maxL := 4) (ret := (some .int)) (by decide) rfl ?_
  intro p e s m args below meth c s₁ B hml hv
  obtain ⟨rfl, hsz, hP, hKN, hD0⟩ := hv
  have hx := B.exec
  have hb := B.bytes
  have hr := B.returns
  have hts := atoms_spec (ws := .code yX6_numbers cX6_numbers 4 (some .int) :: GW) B.pre
  have hg : ∀ w ∈ GW, w.before _ s = true := fun w h => hts w (List.mem_cons_of_mem _ h)
  have hown : s.vm.findClass RX6 = some m.cls := findClass_of_methodNamed B.named
  have hlocks := B.notSynchronized
  subst hsz
  have hD := hD0.self (sz := s.heap.size)
  generalize hAe : va_A [(q, .inr (6, (skF b)))] s.heap.size = A at hD ⊢
  have hA : ∀ q : Nat, s.heap.size ≤ q → A q := fun q h => by rw [← hAe]; exact Or.inr h
  have hl := lv_entry ([.ref q]) (n := 4) (Nat.le_of_ble_eq_true rfl)
  rw [lg_entry_eq]
  generalize (lg_sl ([.ref q]) ++ List.replicate (4 - (lg_sl ([.ref q])).length) Slot.unset).toArray = ls at hl ⊢
  have hl : lv_has ls 4 [(0, .ref q)] := hl
  refine w_start (A0 := A) hP (fun H locs hP hS => ?_)
  refine lv_iconst (v := 0) hx hb dX6_numbers_0 (by decide) ?_
  refine lv_istore_n (lv' := [(1, .int 0), (0, .ref q)]) hx hb dX6_numbers_1 rfl hl (by decide) rfl (fun ls hl => ?_)
  refine lv_iconst (v := 0) hx hb dX6_numbers_2 (by decide) ?_
  refine lv_istore_n (lv' := [(2, .int 0), (1, .int 0), (0, .ref q)]) hx hb dX6_numbers_3 rfl hl (by decide) rfl (fun ls hl => ?_)
  refine lv_iload_n hx hb dX6_numbers_4 rfl (lv_at hl 0 rfl) ?_
  refine lv_aload_n hx hb dX6_numbers_5 rfl (lv_at hl 2 rfl) ?_
  refine va_get (D := D) (ci := 6) (v := .int 0) (C := RX6) (T := TX6) (N := 13) hx hb hg inGX6 hown hKN.1 hP 0 rfl rfl 0 (by decide) (hg _ kw_39) (fun _ h9 => h9) rfl dX6_numbers_6 ?_
  refine lv_icmp_ge (tgt := 39) hx hb dX6_numbers_9 (by decide) (fun c1 => ?_) (fun c1 => ?_)
  rotate_left
  · exact absurd c1 (by decide)
  refine lv_iload_n hx hb dX6_numbers_39 rfl (lv_at hl 1 rfl) ?_
  refine W.widen (k := 0) (n := 0) (Nat.le_of_ble_eq_true rfl) (Nat.le_of_ble_eq_true rfl) ?_
  exact W.iret (v := 0) hx hb hr (fun t ht hW => ⟨⟨(), rfl, trivial, CB.mk ht (hP.sub [0] rfl) (hD.sub [0] (by decide) rfl)⟩, hS.F ht⟩) hS.2.2 dX6_numbers_40
set_option maxHeartbeats 4000000 in
set_option maxRecDepth 100000 in
theorem m_isStar (l : Launch) (D : va_G) (Y : Nat → ClassId) (Z : Nat → Nat) (sz : Nat) (o : Nat) (a : Nat → Nat) (n : Int32) : Met l yX11_isStar (.code yX11_isStar cX11_isStar 2 (some .boolean) :: GW) ({ frames := 0, cells := 0, slots := 0, locals := 0 }) (va_Pc [.ref o, .int n] (CP D Y Z [(o, .inr (11, (moF a))), ((a 0), .inl (Y 0, 7533, .inl tolF))] sz)) (QG (S := Unit) (fun _ => some (.int 0)) (fun _ => True) (fun u => CB D ((fun _ => [(o, .inr (11, (moF a))), ((a 0), .inl (Y 0, 7533, .inl tolF))]) u) (va_A [(o, .inr (11, (moF a))), ((a 0), .inl (Y 0, 7533, .inl tolF))] sz)) (va_A [(o, .inr (11, (moF a))), ((a 0), .inl (Y 0, 7533, .inl tolF))] sz)) 0 0 (va_A [(o, .inr (11, (moF a))), ((a 0), .inl (Y 0, 7533, .inl tolF))] sz) := by
  refine Met.ofW (cc := cX11_isStar) (maxL := 2) (ret := (some .boolean)) (by decide) rfl ?_
  intro p e s m args below meth c s₁ B hml hv
  obtain ⟨rfl, hsz, hP, hKN, hD0⟩ := hv
  have hx := B.exec
  have hb := B.bytes
  have hr := B.returns
  have hts := atoms_spec (ws := .code yX11_isStar cX11_isStar 2 (some .boolean) :: GW) B.pre
  have hg : ∀ w ∈ GW, w.before _ s = true := fun w h => hts w (List.mem_cons_of_mem _ h)
  have hown : s.vm.findClass RX11 = some m.cls := findClass_of_methodNamed B.named
  have hlocks := B.notSynchronized
  subst hsz
  have hD := hD0.self (sz := s.heap.size)
  generalize hAe : va_A [(o, .inr (11, (moF a))), ((a 0), .inl (Y 0, 7533, .inl tolF))] s.heap.size = A at hD ⊢
  have hA : ∀ q : Nat, s.heap.size ≤ q → A q := fun q h => by rw [← hAe]; exact Or.inr h
  have hl := lv_entry ([.ref o, .int n]) (n := 2) (Nat.le_of_ble_eq_true rfl)
  rw [lg_entry_eq]
  generalize (lg_sl ([.ref o, .int n]) ++ List.replicate (2 - (lg_sl ([.ref o, .int n])).length) Slot.unset).toArray = ls at hl ⊢
  have hl : lv_has ls 2 [(0, .ref o), (1, .int n)] := hl
  refine w_start (A0 := A) hP (fun H locs hP hS => ?_)
  refine lv_iload_n hx hb dX11_isStar_0 rfl (lv_at hl 1 rfl) ?_
  refine lv_if_lt (tgt := 18) hx hb dX11_isStar_1 (by decide) (fun c1 => ?_) (fun c1 => ?_)
  · skip
    have c1 := i_lt (Eq.refl (n).toInt) (show (0 : Int32).toInt = 0 by decide) c1
    refine lv_iconst (v := 0) hx hb dX11_isStar_18 (by decide) ?_
    refine W.widen (k := 0) (n := 0) (Nat.le_of_ble_eq_true rfl) (Nat.le_of_ble_eq_true rfl) ?_
    exact W.zret (v := 0) hx hb hr (by decide) (fun t ht hW => ⟨⟨(), rfl, trivial, CB.mk ht (hP.sub [0, 1] rfl) (hD.sub [0, 1] (by decide) rfl)⟩, hS.F ht⟩) hS.2.2 dX11_isStar_19
  · skip
    have c1 := i_nlt (Eq.refl (n).toInt) (show (0 : Int32).toInt = 0 by decide) c1
    refine lv_iload_n hx hb dX11_isStar_4 rfl (lv_at hl 1 rfl) ?_
    refine lv_aload_n hx hb dX11_isStar_5 rfl (lv_at hl 0 rfl) ?_
    refine va_get (D := D) (ci := 11) (v := .ref (a 0)) (C := RX11) (T := TX11) (N := 49) hx hb hg inGX11 hown hKN.1 hP 0 rfl rfl 0 (by decide) (hg _ kw_1208) (fun _ h9 => h9) rfl dX11_isStar_6 ?_
    refine lv_iconst (v := 0) hx hb dX11_isStar_9 (by decide) ?_
    refine va_iald hx hb hKN.1 hP 1 0 rfl rfl (show ¬ ((0 : Int32) < 0 ∨ 7533 ≤ (0 : Int32).toNatClampNeg) by decide) dX11_isStar_10 ?_
    refine lv_topi (fun z2 ez2 => ?_)
    obtain rfl : z2 = 0 := ez2.trans (by decide)
    refine lv_icmp_ge (tgt := 18) hx hb dX11_isStar_11 (by decide) (fun c3 => ?_) (fun c3 => ?_)
    · skip
      have c3 := i_le (show (0 : Int32).toInt = 0 by decide) (Eq.refl (n).toInt) c3
      refine lv_iconst (v := 0) hx hb dX11_isStar_18 (by decide) ?_
      refine W.widen (k := 0) (n := 0) (Nat.le_of_ble_eq_true rfl) (Nat.le_of_ble_eq_true rfl) ?_
      exact W.zret (v := 0) hx hb hr (by decide) (fun t ht hW => ⟨⟨(), rfl, trivial, CB.mk ht (hP.sub [0, 1] rfl) (hD.sub [0, 1] (by decide) rfl)⟩, hS.F ht⟩) hS.2.2 dX11_isStar_19
    · skip
      have c3 := i_nle (show (0 : Int32).toInt = 0 by decide) (Eq.refl (n).toInt) c3
      exfalso; omega
set_option maxHeartbeats 4000000 in
set_option maxRecDepth 100000 in
theorem m_isText0 (l : Launch) (D : va_G) (Y : Nat → ClassId) (Z : Nat → Nat) (sz : Nat) (o : Nat) (a : Nat → Nat) (n : Int32) : Met l yX11_isText (.code yX11_isText cX11_isText 3 (some .boolean) :: GW) ({ frames := 0, cells := 0, slots := 0, locals := 0 }) (va_Pc [.ref o, .int 0, .int n] (CP D Y Z [(o, .inr (11, (moF a))), ((a 3), .inl (Y 0, 3, .inl (fun _ => 0)))] sz)) (QG (S := Unit) (fun _ => some (.int 0)) (fun _ => True) (fun u => CB D ((fun _ => [(o, .inr (11, (moF a))), ((a 3), .inl (Y 0, 3, .inl (fun _ => 0)))]) u) (va_A [(o, .inr (11, (moF a))), ((a 3), .inl (Y 0, 3, .inl (fun _ => 0)))] sz)) (va_A [(o, .inr (11, (moF a))), ((a 3), .inl (Y 0, 3, .inl (fun _ => 0)))] sz)) 0 0 (va_A [(o, .inr (11, (moF a))), ((a 3), .inl (Y 0, 3, .inl (fun _ => 0)))] sz) := by
  refine Met.ofW (cc := cX11_isText) (maxL := 3) (ret := (some .boolean)) (by decide) rfl ?_
  intro p e s m args below meth c s₁ B hml hv
  obtain ⟨rfl, hsz, hP, hKN, hD0⟩ := hv
  have hx := B.exec
  have hb := B.bytes
  have hr := B.returns
  have hts := atoms_spec (ws := .code yX11_isText cX11_isText 3 (some .boolean) :: GW) B.pre
  have hg : ∀ w ∈ GW, w.before _ s = true := fun w h => hts w (List.mem_cons_of_mem _ h)
  have hown : s.vm.findClass RX11 = some m.cls := findClass_of_methodNamed B.named
  have hlocks := B.notSynchronized
  subst hsz
  have hD := hD0.self (sz := s.heap.size)
  generalize hAe : va_A [(o, .inr (11, (moF a))), ((a 3), .inl (Y 0, 3, .inl (fun _ => 0)))] s.heap.size = A at hD ⊢
  have hA : ∀ q : Nat, s.heap.size ≤ q → A q := fun q h => by rw [← hAe]; exact Or.inr h
  have hl := lv_entry ([.ref o, .int 0, .int n]) (n := 3) (Nat.le_of_ble_eq_true rfl)
  rw [lg_entry_eq]
  generalize (lg_sl ([.ref o, .int 0, .int n]) ++ List.replicate (3 - (lg_sl ([.ref o, .int 0, .int n])).length) Slot.unset).toArray = ls at hl ⊢
  have hl : lv_has ls 3 [(0, .ref o), (1, .int 0), (2, .int n)] := hl
  refine w_start (A0 := A) hP (fun H locs hP hS => ?_)
  refine lv_iload_n hx hb dX11_isText_0 rfl (lv_at hl 2 rfl) ?_
  refine lv_if_lt (tgt := 18) hx hb dX11_isText_1 (by decide) (fun c1 => ?_) (fun c1 => ?_)
  · skip
    have c1 := i_lt (Eq.refl (n).toInt) (show (0 : Int32).toInt = 0 by decide) c1
    refine lv_iconst (v := 0) hx hb dX11_isText_18 (by decide) ?_
    refine W.widen (k := 0) (n := 0) (Nat.le_of_ble_eq_true rfl) (Nat.le_of_ble_eq_true rfl) ?_
    exact W.zret (v := 0) hx hb hr (by decide) (fun t ht hW => ⟨⟨(), rfl, trivial, CB.mk ht (hP.sub [0, 1] rfl) (hD.sub [0, 1] (by decide) rfl)⟩, hS.F ht⟩) hS.2.2 dX11_isText_19
  · skip
    have c1 := i_nlt (Eq.refl (n).toInt) (show (0 : Int32).toInt = 0 by decide) c1
    refine lv_iload_n hx hb dX11_isText_4 rfl (lv_at hl 2 rfl) ?_
    refine lv_aload_n hx hb dX11_isText_5 rfl (lv_at hl 0 rfl) ?_
    refine va_get (D := D) (ci := 11) (v := .ref (a 3)) (C := RX11) (T := TX11) (N := 49) hx hb hg inGX11 hown hKN.1 hP 0 rfl rfl 4 (by decide) (hg _ kw_1212) (fun _ h9 => h9) rfl dX11_isText_6 ?_
    refine lv_iload_n hx hb dX11_isText_9 rfl (lv_at hl 1 rfl) ?_
    refine va_iald hx hb hKN.1 hP 1 0 rfl rfl (show ¬ ((0 : Int32) < 0 ∨ 3 ≤ (0 : Int32).toNatClampNeg) by decide) dX11_isText_10 ?_
    refine lv_topi (fun z2 ez2 => ?_)
    obtain rfl : z2 = 0 := ez2.trans (by rfl)
    refine lv_icmp_ge (tgt := 18) hx hb dX11_isText_11 (by decide) (fun c3 => ?_) (fun c3 => ?_)
    · skip
      have c3 := i_le (show (0 : Int32).toInt = 0 by decide) (Eq.refl (n).toInt) c3
      refine lv_iconst (v := 0) hx hb dX11_isText_18 (by decide) ?_
      refine W.widen (k := 0) (n := 0) (Nat.le_of_ble_eq_true rfl) (Nat.le_of_ble_eq_true rfl) ?_
      exact W.zret (v := 0) hx hb hr (by decide) (fun t ht hW => ⟨⟨(), rfl, trivial, CB.mk ht (hP.sub [0, 1] rfl) (hD.sub [0, 1] (by decide) rfl)⟩, hS.F ht⟩) hS.2.2 dX11_isText_19
    · skip
      have c3 := i_nle (show (0 : Int32).toInt = 0 by decide) (Eq.refl (n).toInt) c3
      exfalso; omega
set_option maxHeartbeats 4000000 in
set_option maxRecDepth 100000 in
theorem m_isText1 (l : Launch) (D : va_G) (Y : Nat → ClassId) (Z : Nat → Nat) (sz : Nat) (o : Nat) (a : Nat → Nat) (n : Int32) : Met l yX11_isText (.code yX11_isText cX11_isText 3 (some .boolean) :: GW) ({ frames := 0, cells := 0, slots := 0, locals := 0 }) (va_Pc [.ref o, .int 1, .int n] (CP D Y Z [(o, .inr (11, (moF a))), ((a 3), .inl (Y 0, 3, .inl (fun _ => 0)))] sz)) (QG (S := Unit) (fun _ => some (.int 0)) (fun _ => True) (fun u => CB D ((fun _ => [(o, .inr (11, (moF a))), ((a 3), .inl (Y 0, 3, .inl (fun _ => 0)))]) u) (va_A [(o, .inr (11, (moF a))), ((a 3), .inl (Y 0, 3, .inl (fun _ => 0)))] sz)) (va_A [(o, .inr (11, (moF a))), ((a 3), .inl (Y 0, 3, .inl (fun _ => 0)))] sz)) 0 0 (va_A [(o, .inr (11, (moF a))), ((a 3), .inl (Y 0, 3, .inl (fun _ => 0)))] sz) := by
  refine Met.ofW (cc := cX11_isText) (maxL := 3) (ret := (some .boolean)) (by decide) rfl ?_
  intro p e s m args below meth c s₁ B hml hv
  obtain ⟨rfl, hsz, hP, hKN, hD0⟩ := hv
  have hx := B.exec
  have hb := B.bytes
  have hr := B.returns
  have hts := atoms_spec (ws := .code yX11_isText cX11_isText 3 (some .boolean) :: GW) B.pre
  have hg : ∀ w ∈ GW, w.before _ s = true := fun w h => hts w (List.mem_cons_of_mem _ h)
  have hown : s.vm.findClass RX11 = some m.cls := findClass_of_methodNamed B.named
  have hlocks := B.notSynchronized
  subst hsz
  have hD := hD0.self (sz := s.heap.size)
  generalize hAe : va_A [(o, .inr (11, (moF a))), ((a 3), .inl (Y 0, 3, .inl (fun _ => 0)))] s.heap.size = A at hD ⊢
  have hA : ∀ q : Nat, s.heap.size ≤ q → A q := fun q h => by rw [← hAe]; exact Or.inr h
  have hl := lv_entry ([.ref o, .int 1, .int n]) (n := 3) (Nat.le_of_ble_eq_true rfl)
  rw [lg_entry_eq]
  generalize (lg_sl ([.ref o, .int 1, .int n]) ++ List.replicate (3 - (lg_sl ([.ref o, .int 1, .int n])).length) Slot.unset).toArray = ls at hl ⊢
  have hl : lv_has ls 3 [(0, .ref o), (1, .int 1), (2, .int n)] := hl
  refine w_start (A0 := A) hP (fun H locs hP hS => ?_)
  refine lv_iload_n hx hb dX11_isText_0 rfl (lv_at hl 2 rfl) ?_
  refine lv_if_lt (tgt := 18) hx hb dX11_isText_1 (by decide) (fun c1 => ?_) (fun c1 => ?_)
  · skip
    have c1 := i_lt (Eq.refl (n).toInt) (show (0 : Int32).toInt = 0 by decide) c1
    refine lv_iconst (v := 0) hx hb dX11_isText_18 (by decide) ?_
    refine W.widen (k := 0) (n := 0) (Nat.le_of_ble_eq_true rfl) (Nat.le_of_ble_eq_true rfl) ?_
    exact W.zret (v := 0) hx hb hr (by decide) (fun t ht hW => ⟨⟨(), rfl, trivial, CB.mk ht (hP.sub [0, 1] rfl) (hD.sub [0, 1] (by decide) rfl)⟩, hS.F ht⟩) hS.2.2 dX11_isText_19
  · skip
    have c1 := i_nlt (Eq.refl (n).toInt) (show (0 : Int32).toInt = 0 by decide) c1
    refine lv_iload_n hx hb dX11_isText_4 rfl (lv_at hl 2 rfl) ?_
    refine lv_aload_n hx hb dX11_isText_5 rfl (lv_at hl 0 rfl) ?_
    refine va_get (D := D) (ci := 11) (v := .ref (a 3)) (C := RX11) (T := TX11) (N := 49) hx hb hg inGX11 hown hKN.1 hP 0 rfl rfl 4 (by decide) (hg _ kw_1212) (fun _ h9 => h9) rfl dX11_isText_6 ?_
    refine lv_iload_n hx hb dX11_isText_9 rfl (lv_at hl 1 rfl) ?_
    refine va_iald hx hb hKN.1 hP 1 0 rfl rfl (show ¬ ((1 : Int32) < 0 ∨ 3 ≤ (1 : Int32).toNatClampNeg) by decide) dX11_isText_10 ?_
    refine lv_topi (fun z2 ez2 => ?_)
    obtain rfl : z2 = 0 := ez2.trans (by rfl)
    refine lv_icmp_ge (tgt := 18) hx hb dX11_isText_11 (by decide) (fun c3 => ?_) (fun c3 => ?_)
    · skip
      have c3 := i_le (show (0 : Int32).toInt = 0 by decide) (Eq.refl (n).toInt) c3
      refine lv_iconst (v := 0) hx hb dX11_isText_18 (by decide) ?_
      refine W.widen (k := 0) (n := 0) (Nat.le_of_ble_eq_true rfl) (Nat.le_of_ble_eq_true rfl) ?_
      exact W.zret (v := 0) hx hb hr (by decide) (fun t ht hW => ⟨⟨(), rfl, trivial, CB.mk ht (hP.sub [0, 1] rfl) (hD.sub [0, 1] (by decide) rfl)⟩, hS.F ht⟩) hS.2.2 dX11_isText_19
    · skip
      have c3 := i_nle (show (0 : Int32).toInt = 0 by decide) (Eq.refl (n).toInt) c3
      exfalso; omega
set_option maxHeartbeats 4000000 in
set_option maxRecDepth 100000 in
theorem m_isText2 (l : Launch) (D : va_G) (Y : Nat → ClassId) (Z : Nat → Nat) (sz : Nat) (o : Nat) (a : Nat → Nat) (n : Int32) : Met l yX11_isText (.code yX11_isText cX11_isText 3 (some .boolean) :: GW) ({ frames := 0, cells := 0, slots := 0, locals := 0 }) (va_Pc [.ref o, .int 2, .int n] (CP D Y Z [(o, .inr (11, (moF a))), ((a 3), .inl (Y 0, 3, .inl (fun _ => 0)))] sz)) (QG (S := Unit) (fun _ => some (.int 0)) (fun _ => True) (fun u => CB D ((fun _ => [(o, .inr (11, (moF a))), ((a 3), .inl (Y 0, 3, .inl (fun _ => 0)))]) u) (va_A [(o, .inr (11, (moF a))), ((a 3), .inl (Y 0, 3, .inl (fun _ => 0)))] sz)) (va_A [(o, .inr (11, (moF a))), ((a 3), .inl (Y 0, 3, .inl (fun _ => 0)))] sz)) 0 0 (va_A [(o, .inr (11, (moF a))), ((a 3), .inl (Y 0, 3, .inl (fun _ => 0)))] sz) := by
  refine Met.ofW (cc := cX11_isText) (maxL := 3) (ret := (some .boolean)) (by decide) rfl ?_
  intro p e s m args below meth c s₁ B hml hv
  obtain ⟨rfl, hsz, hP, hKN, hD0⟩ := hv
  have hx := B.exec
  have hb := B.bytes
  have hr := B.returns
  have hts := atoms_spec (ws := .code yX11_isText cX11_isText 3 (some .boolean) :: GW) B.pre
  have hg : ∀ w ∈ GW, w.before _ s = true := fun w h => hts w (List.mem_cons_of_mem _ h)
  have hown : s.vm.findClass RX11 = some m.cls := findClass_of_methodNamed B.named
  have hlocks := B.notSynchronized
  subst hsz
  have hD := hD0.self (sz := s.heap.size)
  generalize hAe : va_A [(o, .inr (11, (moF a))), ((a 3), .inl (Y 0, 3, .inl (fun _ => 0)))] s.heap.size = A at hD ⊢
  have hA : ∀ q : Nat, s.heap.size ≤ q → A q := fun q h => by rw [← hAe]; exact Or.inr h
  have hl := lv_entry ([.ref o, .int 2, .int n]) (n := 3) (Nat.le_of_ble_eq_true rfl)
  rw [lg_entry_eq]
  generalize (lg_sl ([.ref o, .int 2, .int n]) ++ List.replicate (3 - (lg_sl ([.ref o, .int 2, .int n])).length) Slot.unset).toArray = ls at hl ⊢
  have hl : lv_has ls 3 [(0, .ref o), (1, .int 2), (2, .int n)] := hl
  refine w_start (A0 := A) hP (fun H locs hP hS => ?_)
  refine lv_iload_n hx hb dX11_isText_0 rfl (lv_at hl 2 rfl) ?_
  refine lv_if_lt (tgt := 18) hx hb dX11_isText_1 (by decide) (fun c1 => ?_) (fun c1 => ?_)
  · skip
    have c1 := i_lt (Eq.refl (n).toInt) (show (0 : Int32).toInt = 0 by decide) c1
    refine lv_iconst (v := 0) hx hb dX11_isText_18 (by decide) ?_
    refine W.widen (k := 0) (n := 0) (Nat.le_of_ble_eq_true rfl) (Nat.le_of_ble_eq_true rfl) ?_
    exact W.zret (v := 0) hx hb hr (by decide) (fun t ht hW => ⟨⟨(), rfl, trivial, CB.mk ht (hP.sub [0, 1] rfl) (hD.sub [0, 1] (by decide) rfl)⟩, hS.F ht⟩) hS.2.2 dX11_isText_19
  · skip
    have c1 := i_nlt (Eq.refl (n).toInt) (show (0 : Int32).toInt = 0 by decide) c1
    refine lv_iload_n hx hb dX11_isText_4 rfl (lv_at hl 2 rfl) ?_
    refine lv_aload_n hx hb dX11_isText_5 rfl (lv_at hl 0 rfl) ?_
    refine va_get (D := D) (ci := 11) (v := .ref (a 3)) (C := RX11) (T := TX11) (N := 49) hx hb hg inGX11 hown hKN.1 hP 0 rfl rfl 4 (by decide) (hg _ kw_1212) (fun _ h9 => h9) rfl dX11_isText_6 ?_
    refine lv_iload_n hx hb dX11_isText_9 rfl (lv_at hl 1 rfl) ?_
    refine va_iald hx hb hKN.1 hP 1 0 rfl rfl (show ¬ ((2 : Int32) < 0 ∨ 3 ≤ (2 : Int32).toNatClampNeg) by decide) dX11_isText_10 ?_
    refine lv_topi (fun z2 ez2 => ?_)
    obtain rfl : z2 = 0 := ez2.trans (by rfl)
    refine lv_icmp_ge (tgt := 18) hx hb dX11_isText_11 (by decide) (fun c3 => ?_) (fun c3 => ?_)
    · skip
      have c3 := i_le (show (0 : Int32).toInt = 0 by decide) (Eq.refl (n).toInt) c3
      refine lv_iconst (v := 0) hx hb dX11_isText_18 (by decide) ?_
      refine W.widen (k := 0) (n := 0) (Nat.le_of_ble_eq_true rfl) (Nat.le_of_ble_eq_true rfl) ?_
      exact W.zret (v := 0) hx hb hr (by decide) (fun t ht hW => ⟨⟨(), rfl, trivial, CB.mk ht (hP.sub [0, 1] rfl) (hD.sub [0, 1] (by decide) rfl)⟩, hS.F ht⟩) hS.2.2 dX11_isText_19
    · skip
      have c3 := i_nle (show (0 : Int32).toInt = 0 by decide) (Eq.refl (n).toInt) c3
      exfalso; omega
set_option maxHeartbeats 4000000 in
set_option maxRecDepth 100000 in
theorem m_canWeigh (l : Launch) (D : va_G) (Y : Nat → ClassId) (Z : Nat → Nat) (sz : Nat) (o : Nat) (a : Nat → Nat) (n0 n1 n2 : Int32) : Met l yX11_canWeigh (.code yX11_canWeigh cX11_canWeigh 4 (some .boolean) :: GW) ({ frames := 1, cells := 0, slots := 0, locals := 22 }) (va_Pc [.ref o, .int n0, .int n1, .int n2] (CP D Y Z [(o, .inr (11, (moF a))), ((a 3), .inl (Y 0, 3, .inl (fun _ => 0)))] sz)) (QG (S := Unit) (fun _ => some (.int 0)) (fun _ => True) (fun u => CB D ((fun _ => [(o, .inr (11, (moF a))), ((a 3), .inl (Y 0, 3, .inl (fun _ => 0)))]) u) (va_A [(o, .inr (11, (moF a))), ((a 3), .inl (Y 0, 3, .inl (fun _ => 0)))] sz)) (va_A [(o, .inr (11, (moF a))), ((a 3), .inl (Y 0, 3, .inl (fun _ => 0)))] sz)) 0 0 (va_A [(o, .inr (11, (moF a))), ((a 3), .inl (Y 0, 3, .inl (fun _ => 0)))] sz) := by
  refine Met.ofW (cc := cX11_canWeigh) (maxL := 4) (ret := (some .boolean)) (by decide) rfl ?_
  intro p e s m args below meth c s₁ B hml hv
  obtain ⟨rfl, hsz, hP, hKN, hD0⟩ := hv
  have hx := B.exec
  have hb := B.bytes
  have hr := B.returns
  have hts := atoms_spec (ws := .code yX11_canWeigh cX11_canWeigh 4 (some .boolean) :: GW) B.pre
  have hg : ∀ w ∈ GW, w.before _ s = true := fun w h => hts w (List.mem_cons_of_mem _ h)
  have hown : s.vm.findClass RX11 = some m.cls := findClass_of_methodNamed B.named
  have hlocks := B.notSynchronized
  subst hsz
  have hD := hD0.self (sz := s.heap.size)
  generalize hAe : va_A [(o, .inr (11, (moF a))), ((a 3), .inl (Y 0, 3, .inl (fun _ => 0)))] s.heap.size = A at hD ⊢
  have hA : ∀ q : Nat, s.heap.size ≤ q → A q := fun q h => by rw [← hAe]; exact Or.inr h
  have hl := lv_entry ([.ref o, .int n0, .int n1, .int n2]) (n := 4) (Nat.le_of_ble_eq_true rfl)
  rw [lg_entry_eq]
  generalize (lg_sl ([.ref o, .int n0, .int n1, .int n2]) ++ List.replicate (4 - (lg_sl ([.ref o, .int n0, .int n1, .int n2])).length) Slot.unset).toArray = ls at hl ⊢
  have hl : lv_has ls 4 [(0, .ref o), (1, .int n0), (2, .int n1), (3, .int n2)] := hl
  refine w_start (A0 := A) hP (fun H locs hP hS => ?_)
  refine lv_aload_n hx hb dX11_canWeigh_0 rfl (lv_at hl 0 rfl) ?_
  refine lv_iconst (v := 2) hx hb dX11_canWeigh_1 (by decide) ?_
  refine lv_iload_n hx hb dX11_canWeigh_2 rfl (lv_at hl 1 rfl) ?_
  refine cg (wc := [(o, .inr (11, (moF a))), ((a 3), .inl (Y 0, 3, .inl (fun _ => 0)))]) (wr := []) [0, 1] [] (rn_V (As := [.int 2, .int n0]) (rest := []) (b := o) (m_isText2 l D Y Z H.size o a n0) ⟨hx, hb, hml, hown, hg⟩ lk_X11_366 ⟨CP.blind, va_recv hKN.1 hP (ci := 11) (q0 := 0) rfl rfl, CP.at (hP.sub [0, 1] rfl) hKN (hD.sub [0, 1] (by decide) rfl)⟩ ⟨⟨rfl, rfl⟩, ⟨Nat.le_of_ble_eq_true rfl, Nat.le_of_ble_eq_true rfl⟩, ⟨Nat.le_of_ble_eq_true rfl, Nat.le_of_ble_eq_true rfl⟩⟩ hl.1 rfl (Nat.le_of_ble_eq_true rfl) dX11_canWeigh_3) hP hD hS hA rfl rfl (by decide) (by decide) (fun u1 H locs w2 hP hD hS => ?_)
  refine W.eq (g2 := F0 m 6 ls [.int 0]) rfl ?_
  have hP : va_P D vwCl [(o, .inr (11, (moF a))), ((a 3), .inl (Y 0, 3, .inl (fun _ => 0)))] H := hP
  have hD : va_D A [(o, .inr (11, (moF a))), ((a 3), .inl (Y 0, 3, .inl (fun _ => 0)))] := hD
  refine lv_if_eq (tgt := 40) hx hb dX11_canWeigh_6 (by decide) (fun c3 => ?_) (fun c3 => ?_)
  rotate_left
  · exact absurd c3 (by decide)
  refine lv_iconst (v := 0) hx hb dX11_canWeigh_40 (by decide) ?_
  refine W.widen (k := 0) (n := 0) (Nat.le_of_ble_eq_true rfl) (Nat.le_of_ble_eq_true rfl) ?_
  exact W.zret (v := 0) hx hb hr (by decide) (fun t ht hW => ⟨⟨(), rfl, trivial, CB.mk ht (hP.sub [0, 1] rfl) (hD.sub [0, 1] (by decide) rfl)⟩, hS.F ht⟩) hS.2.2 dX11_canWeigh_41
set_option maxHeartbeats 4000000 in
set_option maxRecDepth 100000 in
theorem x_row (l : Launch) (D : va_G) (Y : Nat → ClassId) (Z : Nat → Nat) (sz : Nat) (o : Nat) (b : Nat → Nat) (p0 p1 p2 : Int32) : Met l yX10_row (.code yX10_row cX10_row 7 (some .int) :: GW) ({ frames := 1, cells := 0, slots := 0, locals := 22 }) (va_Pc [.ref o, .int p0, .int p1, .int p2] (CP D Y Z [(o, .inr (10, (dsF b))), ((b 0), .inr (6, (skF b)))] sz)) (QG (S := Unit) (fun _ => some (.int (-200000))) (fun _ => True) (fun u => CB D ((fun _ => []) u) (va_A [(o, .inr (10, (dsF b))), ((b 0), .inr (6, (skF b)))] sz)) (va_A [(o, .inr (10, (dsF b))), ((b 0), .inr (6, (skF b)))] sz)) 0 0 (va_A [(o, .inr (10, (dsF b))), ((b 0), .inr (6, (skF b)))] sz) := by
  refine Met.ofW (cc := cX10_row) (maxL := 7) (ret := (some .int)) (by decide) rfl ?_
  intro p e s m args below meth c s₁ B hml hv
  obtain ⟨rfl, hsz, hP, hKN, hD0⟩ := hv
  have hx := B.exec
  have hb := B.bytes
  have hr := B.returns
  have hts := atoms_spec (ws := .code yX10_row cX10_row 7 (some .int) :: GW) B.pre
  have hg : ∀ w ∈ GW, w.before _ s = true := fun w h => hts w (List.mem_cons_of_mem _ h)
  have hown : s.vm.findClass RX10 = some m.cls := findClass_of_methodNamed B.named
  have hlocks := B.notSynchronized
  subst hsz
  have hD := hD0.self (sz := s.heap.size)
  generalize hAe : va_A [(o, .inr (10, (dsF b))), ((b 0), .inr (6, (skF b)))] s.heap.size = A at hD ⊢
  have hA : ∀ q : Nat, s.heap.size ≤ q → A q := fun q h => by rw [← hAe]; exact Or.inr h
  have hl := lv_entry ([.ref o, .int p0, .int p1, .int p2]) (n := 7) (Nat.le_of_ble_eq_true rfl)
  rw [lg_entry_eq]
  generalize (lg_sl ([.ref o, .int p0, .int p1, .int p2]) ++ List.replicate (7 - (lg_sl ([.ref o, .int p0, .int p1, .int p2])).length) Slot.unset).toArray = ls at hl ⊢
  have hl : lv_has ls 7 [(0, .ref o), (1, .int p0), (2, .int p1), (3, .int p2)] := hl
  refine w_start (A0 := A) hP (fun H locs hP hS => ?_)
  refine lv_aload_n hx hb dX10_row_0 rfl (lv_at hl 0 rfl) ?_
  refine va_get (D := D) (ci := 10) (v := .ref (b 0)) (C := RX10) (T := TX10) (N := 20) hx hb hg inGX10 hown hKN.1 hP 0 rfl rfl 0 (by decide) (hg _ kw_349) (fun _ h9 => h9) rfl dX10_row_1 ?_
  refine lv_iload_n hx hb dX10_row_4 rfl (lv_at hl 1 rfl) ?_
  refine cg (wc := [((b 0), .inr (6, (skF b)))]) (wr := [(o, .inr (10, (dsF b)))]) [1] [0] (rn_NV (As := [.int p0]) (rest := []) (b := (b 0)) (c_starAt l D Y Z H.size (b 0) b p0) ⟨hx, hb, hml, hown, hg⟩ hKN lk_X10_108 ⟨CP.blind, va_recv hKN.1 hP (ci := 6) (q0 := 1) rfl rfl, CP.at (hP.sub [1] rfl) hKN (hD.sub [1] (by decide) rfl)⟩ ⟨⟨rfl, rfl⟩, ⟨Nat.le_of_ble_eq_true rfl, Nat.le_of_ble_eq_true rfl⟩, ⟨Nat.le_of_ble_eq_true rfl, Nat.le_of_ble_eq_true rfl⟩⟩ hl.1 rfl (Nat.le_of_ble_eq_true rfl) dX10_row_5) hP hD hS hA rfl rfl (by decide) (by decide) (fun u1 H locs w2 hP hD hS => ?_)
  refine W.eq (g2 := F0 m 8 ls [.null]) rfl ?_
  have hP : va_P D vwCl [(o, .inr (10, (dsF b))), ((b 0), .inr (6, (skF b)))] H := hP
  have hD : va_D A [(o, .inr (10, (dsF b))), ((b 0), .inr (6, (skF b)))] := hD
  refine lv_astoreN (lv' := [(4, .null), (0, .ref o), (1, .int p0), (2, .int p1), (3, .int p2)]) hx hb dX10_row_8 hl (by decide) rfl (fun ls hl => ?_)
  refine lv_iload_n hx hb dX10_row_10 rfl (lv_at hl 4 rfl) ?_
  refine lv_ldc (v := (-100000)) hx hb hown (hg _ kw_469) dX10_row_11 ?_
  refine lv_icmp_eq (tgt := 29) hx hb dX10_row_13 (by decide) (fun c3 => ?_) (fun c3 => ?_)
  · skip
    have c3 := i_eq (Eq.refl (p2).toInt) (show ((-100000) : Int32).toInt = -100000 by decide) c3
    refine lv_iconst (v := 1) hx hb dX10_row_29 (by decide) ?_
    refine lv_goto (tgt := 34) hx hb dX10_row_30 (by decide) ?_
    refine lv_istore (lv' := [(5, .int 1), (4, .null), (0, .ref o), (1, .int p0), (2, .int p1), (3, .int p2)]) hx hb dX10_row_34 hl (by decide) rfl (fun ls hl => ?_)
    refine lv_aloadN hx hb dX10_row_36 (lv_at hl 1 rfl) ?_
    refine lv_ifnullN (tgt := 53) hx hb dX10_row_38 (by decide) ?_
    refine lv_ldc (v := (-200000)) hx hb hown (hg _ kw_473) dX10_row_53 ?_
    refine W.widen (k := 0) (n := 0) (Nat.le_of_ble_eq_true rfl) (Nat.le_of_ble_eq_true rfl) ?_
    exact W.iret (v := (-200000)) hx hb hr (fun t ht hW => ⟨⟨(), rfl, trivial, CB.nil⟩, hS.F ht⟩) hS.2.2 dX10_row_55
  · skip
    have c3 := i_ne (Eq.refl (p2).toInt) (show ((-100000) : Int32).toInt = -100000 by decide) c3
    refine lv_iload_n hx hb dX10_row_16 rfl (lv_at hl 4 rfl) ?_
    refine lv_sipush (v := (-30000)) hx hb dX10_row_17 (by decide) ?_
    refine lv_sipush (v := 30000) hx hb dX10_row_20 (by decide) ?_
    refine cg0 (rn_S (As := [.int p2, .int (-30000), .int 30000]) (rest := []) (c_isWithin l D Y Z H.size p2 (-30000) 30000 (-30000) (30000) (by decide) (by decide)) ⟨hx, hb, hml, hown, hg⟩ lk_X10_100 ⟨CP.blind, CP.at nilP hKN (nilD (A := fun _ => True))⟩ ⟨⟨rfl, rfl⟩, ⟨Nat.le_of_ble_eq_true rfl, Nat.le_of_ble_eq_true rfl⟩, ⟨Nat.le_of_ble_eq_true rfl, Nat.le_of_ble_eq_true rfl⟩⟩ hl.1 rfl (Nat.le_of_ble_eq_true rfl) dX10_row_23) hP hS hA (fun u4 H locs w5 hP hS => ?_)
    rcases w5 with ⟨w5, rfl⟩ | ⟨w5, rfl⟩
    · skip
      refine W.eq (g2 := F0 m 26 ls [.int 1]) rfl ?_
      refine lv_if_eq (tgt := 33) hx hb dX10_row_26 (by decide) (fun c6 => ?_) (fun c6 => ?_)
      · exact absurd c6 (by decide)
      refine lv_iconst (v := 1) hx hb dX10_row_29 (by decide) ?_
      refine lv_goto (tgt := 34) hx hb dX10_row_30 (by decide) ?_
      refine lv_istore (lv' := [(5, .int 1), (4, .null), (0, .ref o), (1, .int p0), (2, .int p1), (3, .int p2)]) hx hb dX10_row_34 hl (by decide) rfl (fun ls hl => ?_)
      refine lv_aloadN hx hb dX10_row_36 (lv_at hl 1 rfl) ?_
      refine lv_ifnullN (tgt := 53) hx hb dX10_row_38 (by decide) ?_
      refine lv_ldc (v := (-200000)) hx hb hown (hg _ kw_473) dX10_row_53 ?_
      refine W.widen (k := 0) (n := 0) (Nat.le_of_ble_eq_true rfl) (Nat.le_of_ble_eq_true rfl) ?_
      exact W.iret (v := (-200000)) hx hb hr (fun t ht hW => ⟨⟨(), rfl, trivial, CB.nil⟩, hS.F ht⟩) hS.2.2 dX10_row_55
    · skip
      refine W.eq (g2 := F0 m 26 ls [.int 0]) rfl ?_
      refine lv_if_eq (tgt := 33) hx hb dX10_row_26 (by decide) (fun c7 => ?_) (fun c7 => ?_)
      rotate_left
      · exact absurd c7 (by decide)
      refine lv_iconst (v := 0) hx hb dX10_row_33 (by decide) ?_
      refine lv_istore (lv' := [(5, .int 0), (4, .null), (0, .ref o), (1, .int p0), (2, .int p1), (3, .int p2)]) hx hb dX10_row_34 hl (by decide) rfl (fun ls hl => ?_)
      refine lv_aloadN hx hb dX10_row_36 (lv_at hl 1 rfl) ?_
      refine lv_ifnullN (tgt := 53) hx hb dX10_row_38 (by decide) ?_
      refine lv_ldc (v := (-200000)) hx hb hown (hg _ kw_473) dX10_row_53 ?_
      refine W.widen (k := 0) (n := 0) (Nat.le_of_ble_eq_true rfl) (Nat.le_of_ble_eq_true rfl) ?_
      exact W.iret (v := (-200000)) hx hb hr (fun t ht hW => ⟨⟨(), rfl, trivial, CB.nil⟩, hS.F ht⟩) hS.2.2 dX10_row_55
set_option maxHeartbeats 4000000 in
set_option maxRecDepth 100000 in
theorem y_row (l : Launch) (D : va_G) (Y : Nat → ClassId) (Z : Nat → Nat) (sz : Nat) (o : Nat) (a : Nat → Nat) (p0 p1 p2 : Int32) : Met l yX11_row (.code yX11_row cX11_row 5 (some .int) :: GW) ({ frames := 1, cells := 0, slots := 0, locals := 21 }) (va_Pc [.ref o, .int p0, .int p1, .int p2] (CP D Y Z [(o, .inr (11, (moF a))), ((a 0), .inl (Y 0, 7533, .inl tolF))] sz)) (QG (S := Unit) (fun _ => some (.int (-200000))) (fun _ => True) (fun u => CB D ((fun _ => []) u) (va_A [(o, .inr (11, (moF a))), ((a 0), .inl (Y 0, 7533, .inl tolF))] sz)) (va_A [(o, .inr (11, (moF a))), ((a 0), .inl (Y 0, 7533, .inl tolF))] sz)) 0 0 (va_A [(o, .inr (11, (moF a))), ((a 0), .inl (Y 0, 7533, .inl tolF))] sz) := by
  refine Met.ofW (cc := cX11_row) (maxL := 5) (ret := (some .int)) (by decide) rfl ?_
  intro p e s m args below meth c s₁ B hml hv
  obtain ⟨rfl, hsz, hP, hKN, hD0⟩ := hv
  have hx := B.exec
  have hb := B.bytes
  have hr := B.returns
  have hts := atoms_spec (ws := .code yX11_row cX11_row 5 (some .int) :: GW) B.pre
  have hg : ∀ w ∈ GW, w.before _ s = true := fun w h => hts w (List.mem_cons_of_mem _ h)
  have hown : s.vm.findClass RX11 = some m.cls := findClass_of_methodNamed B.named
  have hlocks := B.notSynchronized
  subst hsz
  have hD := hD0.self (sz := s.heap.size)
  generalize hAe : va_A [(o, .inr (11, (moF a))), ((a 0), .inl (Y 0, 7533, .inl tolF))] s.heap.size = A at hD ⊢
  have hA : ∀ q : Nat, s.heap.size ≤ q → A q := fun q h => by rw [← hAe]; exact Or.inr h
  have hl := lv_entry ([.ref o, .int p0, .int p1, .int p2]) (n := 5) (Nat.le_of_ble_eq_true rfl)
  rw [lg_entry_eq]
  generalize (lg_sl ([.ref o, .int p0, .int p1, .int p2]) ++ List.replicate (5 - (lg_sl ([.ref o, .int p0, .int p1, .int p2])).length) Slot.unset).toArray = ls at hl ⊢
  have hl : lv_has ls 5 [(0, .ref o), (1, .int p0), (2, .int p1), (3, .int p2)] := hl
  refine w_start (A0 := A) hP (fun H locs hP hS => ?_)
  refine lv_aload_n hx hb dX11_row_0 rfl (lv_at hl 0 rfl) ?_
  refine lv_iload_n hx hb dX11_row_1 rfl (lv_at hl 1 rfl) ?_
  refine cg (wc := [(o, .inr (11, (moF a))), ((a 0), .inl (Y 0, 7533, .inl tolF))]) (wr := []) [0, 1] [] (rn_V (As := [.int p0]) (rest := []) (b := o) (m_isStar l D Y Z H.size o a p0) ⟨hx, hb, hml, hown, hg⟩ lk_X11_108 ⟨CP.blind, va_recv hKN.1 hP (ci := 11) (q0 := 0) rfl rfl, CP.at (hP.sub [0, 1] rfl) hKN (hD.sub [0, 1] (by decide) rfl)⟩ ⟨⟨rfl, rfl⟩, ⟨Nat.le_of_ble_eq_true rfl, Nat.le_of_ble_eq_true rfl⟩, ⟨Nat.le_of_ble_eq_true rfl, Nat.le_of_ble_eq_true rfl⟩⟩ hl.1 rfl (Nat.le_of_ble_eq_true rfl) dX11_row_2) hP hD hS hA rfl rfl (by decide) (by decide) (fun u1 H locs w2 hP hD hS => ?_)
  refine W.eq (g2 := F0 m 5 ls [.int 0]) rfl ?_
  have hP : va_P D vwCl [(o, .inr (11, (moF a))), ((a 0), .inl (Y 0, 7533, .inl tolF))] H := hP
  have hD : va_D A [(o, .inr (11, (moF a))), ((a 0), .inl (Y 0, 7533, .inl tolF))] := hD
  refine lv_if_eq (tgt := 35) hx hb dX11_row_5 (by decide) (fun c3 => ?_) (fun c3 => ?_)
  rotate_left
  · exact absurd c3 (by decide)
  refine lv_ldc (v := (-200000)) hx hb hown (hg _ kw_1381) dX11_row_35 ?_
  refine W.widen (k := 0) (n := 0) (Nat.le_of_ble_eq_true rfl) (Nat.le_of_ble_eq_true rfl) ?_
  exact W.iret (v := (-200000)) hx hb hr (fun t ht hW => ⟨⟨(), rfl, trivial, CB.nil⟩, hS.F ht⟩) hS.2.2 dX11_row_37
set_option maxHeartbeats 4000000 in
set_option maxRecDepth 100000 in
theorem x_resize (l : Launch) (D : va_G) (Y : Nat → ClassId) (Z : Nat → Nat) (sz : Nat) (o : Nat) (b : Nat → Nat) (p0 p1 : Int32) : Met l yX10_resize (.code yX10_resize cX10_resize 5 (some .int) :: GW) ({ frames := 1, cells := 0, slots := 0, locals := 21 }) (va_Pc [.ref o, .int p0, .int p1] (CP D Y Z [(o, .inr (10, (dsF b))), ((b 0), .inr (6, (skF b)))] sz)) (QG (S := Unit) (fun _ => some (.int (-1))) (fun _ => True) (fun u => CB D ((fun _ => []) u) (va_A [(o, .inr (10, (dsF b))), ((b 0), .inr (6, (skF b)))] sz)) (va_A [(o, .inr (10, (dsF b))), ((b 0), .inr (6, (skF b)))] sz)) 0 0 (va_A [(o, .inr (10, (dsF b))), ((b 0), .inr (6, (skF b)))] sz) := by
  refine Met.ofW (cc := cX10_resize) (maxL := 5) (ret := (some .int)) (by decide) rfl ?_
  intro p e s m args below meth c s₁ B hml hv
  obtain ⟨rfl, hsz, hP, hKN, hD0⟩ := hv
  have hx := B.exec
  have hb := B.bytes
  have hr := B.returns
  have hts := atoms_spec (ws := .code yX10_resize cX10_resize 5 (some .int) :: GW) B.pre
  have hg : ∀ w ∈ GW, w.before _ s = true := fun w h => hts w (List.mem_cons_of_mem _ h)
  have hown : s.vm.findClass RX10 = some m.cls := findClass_of_methodNamed B.named
  have hlocks := B.notSynchronized
  subst hsz
  have hD := hD0.self (sz := s.heap.size)
  generalize hAe : va_A [(o, .inr (10, (dsF b))), ((b 0), .inr (6, (skF b)))] s.heap.size = A at hD ⊢
  have hA : ∀ q : Nat, s.heap.size ≤ q → A q := fun q h => by rw [← hAe]; exact Or.inr h
  have hl := lv_entry ([.ref o, .int p0, .int p1]) (n := 5) (Nat.le_of_ble_eq_true rfl)
  rw [lg_entry_eq]
  generalize (lg_sl ([.ref o, .int p0, .int p1]) ++ List.replicate (5 - (lg_sl ([.ref o, .int p0, .int p1])).length) Slot.unset).toArray = ls at hl ⊢
  have hl : lv_has ls 5 [(0, .ref o), (1, .int p0), (2, .int p1)] := hl
  refine w_start (A0 := A) hP (fun H locs hP hS => ?_)
  refine lv_aload_n hx hb dX10_resize_0 rfl (lv_at hl 0 rfl) ?_
  refine va_get (D := D) (ci := 10) (v := .ref (b 0)) (C := RX10) (T := TX10) (N := 20) hx hb hg inGX10 hown hKN.1 hP 0 rfl rfl 0 (by decide) (hg _ kw_349) (fun _ h9 => h9) rfl dX10_resize_1 ?_
  refine lv_iload_n hx hb dX10_resize_4 rfl (lv_at hl 1 rfl) ?_
  refine cg (wc := [((b 0), .inr (6, (skF b)))]) (wr := [(o, .inr (10, (dsF b)))]) [1] [0] (rn_NV (As := [.int p0]) (rest := []) (b := (b 0)) (c_starAt l D Y Z H.size (b 0) b p0) ⟨hx, hb, hml, hown, hg⟩ hKN lk_X10_108 ⟨CP.blind, va_recv hKN.1 hP (ci := 6) (q0 := 1) rfl rfl, CP.at (hP.sub [1] rfl) hKN (hD.sub [1] (by decide) rfl)⟩ ⟨⟨rfl, rfl⟩, ⟨Nat.le_of_ble_eq_true rfl, Nat.le_of_ble_eq_true rfl⟩, ⟨Nat.le_of_ble_eq_true rfl, Nat.le_of_ble_eq_true rfl⟩⟩ hl.1 rfl (Nat.le_of_ble_eq_true rfl) dX10_resize_5) hP hD hS hA rfl rfl (by decide) (by decide) (fun u1 H locs w2 hP hD hS => ?_)
  refine W.eq (g2 := F0 m 8 ls [.null]) rfl ?_
  have hP : va_P D vwCl [(o, .inr (10, (dsF b))), ((b 0), .inr (6, (skF b)))] H := hP
  have hD : va_D A [(o, .inr (10, (dsF b))), ((b 0), .inr (6, (skF b)))] := hD
  refine lv_astore_nN (lv' := [(3, .null), (0, .ref o), (1, .int p0), (2, .int p1)]) hx hb dX10_resize_8 rfl hl (by decide) rfl (fun ls hl => ?_)
  refine lv_aload_nN hx hb dX10_resize_9 rfl (lv_at hl 0 rfl) ?_
  refine lv_ifnullN (tgt := 20) hx hb dX10_resize_10 (by decide) ?_
  refine lv_iconst (v := (-1)) hx hb dX10_resize_20 (by decide) ?_
  refine W.widen (k := 0) (n := 0) (Nat.le_of_ble_eq_true rfl) (Nat.le_of_ble_eq_true rfl) ?_
  exact W.iret (v := (-1)) hx hb hr (fun t ht hW => ⟨⟨(), rfl, trivial, CB.nil⟩, hS.F ht⟩) hS.2.2 dX10_resize_21
set_option maxHeartbeats 4000000 in
set_option maxRecDepth 100000 in
theorem y_resize (l : Launch) (D : va_G) (Y : Nat → ClassId) (Z : Nat → Nat) (sz : Nat) (o : Nat) (a : Nat → Nat) (p0 p1 : Int32) : Met l yX11_resize (.code yX11_resize cX11_resize 4 (some .int) :: GW) ({ frames := 1, cells := 0, slots := 0, locals := 21 }) (va_Pc [.ref o, .int p0, .int p1] (CP D Y Z [(o, .inr (11, (moF a))), ((a 0), .inl (Y 0, 7533, .inl tolF))] sz)) (QG (S := Unit) (fun _ => some (.int (-1))) (fun _ => True) (fun u => CB D ((fun _ => []) u) (va_A [(o, .inr (11, (moF a))), ((a 0), .inl (Y 0, 7533, .inl tolF))] sz)) (va_A [(o, .inr (11, (moF a))), ((a 0), .inl (Y 0, 7533, .inl tolF))] sz)) 0 0 (va_A [(o, .inr (11, (moF a))), ((a 0), .inl (Y 0, 7533, .inl tolF))] sz) := by
  refine Met.ofW (cc := cX11_resize) (maxL := 4) (ret := (some .int)) (by decide) rfl ?_
  intro p e s m args below meth c s₁ B hml hv
  obtain ⟨rfl, hsz, hP, hKN, hD0⟩ := hv
  have hx := B.exec
  have hb := B.bytes
  have hr := B.returns
  have hts := atoms_spec (ws := .code yX11_resize cX11_resize 4 (some .int) :: GW) B.pre
  have hg : ∀ w ∈ GW, w.before _ s = true := fun w h => hts w (List.mem_cons_of_mem _ h)
  have hown : s.vm.findClass RX11 = some m.cls := findClass_of_methodNamed B.named
  have hlocks := B.notSynchronized
  subst hsz
  have hD := hD0.self (sz := s.heap.size)
  generalize hAe : va_A [(o, .inr (11, (moF a))), ((a 0), .inl (Y 0, 7533, .inl tolF))] s.heap.size = A at hD ⊢
  have hA : ∀ q : Nat, s.heap.size ≤ q → A q := fun q h => by rw [← hAe]; exact Or.inr h
  have hl := lv_entry ([.ref o, .int p0, .int p1]) (n := 4) (Nat.le_of_ble_eq_true rfl)
  rw [lg_entry_eq]
  generalize (lg_sl ([.ref o, .int p0, .int p1]) ++ List.replicate (4 - (lg_sl ([.ref o, .int p0, .int p1])).length) Slot.unset).toArray = ls at hl ⊢
  have hl : lv_has ls 4 [(0, .ref o), (1, .int p0), (2, .int p1)] := hl
  refine w_start (A0 := A) hP (fun H locs hP hS => ?_)
  refine lv_aload_n hx hb dX11_resize_0 rfl (lv_at hl 0 rfl) ?_
  refine lv_iload_n hx hb dX11_resize_1 rfl (lv_at hl 1 rfl) ?_
  refine cg (wc := [(o, .inr (11, (moF a))), ((a 0), .inl (Y 0, 7533, .inl tolF))]) (wr := []) [0, 1] [] (rn_V (As := [.int p0]) (rest := []) (b := o) (m_isStar l D Y Z H.size o a p0) ⟨hx, hb, hml, hown, hg⟩ lk_X11_108 ⟨CP.blind, va_recv hKN.1 hP (ci := 11) (q0 := 0) rfl rfl, CP.at (hP.sub [0, 1] rfl) hKN (hD.sub [0, 1] (by decide) rfl)⟩ ⟨⟨rfl, rfl⟩, ⟨Nat.le_of_ble_eq_true rfl, Nat.le_of_ble_eq_true rfl⟩, ⟨Nat.le_of_ble_eq_true rfl, Nat.le_of_ble_eq_true rfl⟩⟩ hl.1 rfl (Nat.le_of_ble_eq_true rfl) dX11_resize_2) hP hD hS hA rfl rfl (by decide) (by decide) (fun u1 H locs w2 hP hD hS => ?_)
  refine W.eq (g2 := F0 m 5 ls [.int 0]) rfl ?_
  have hP : va_P D vwCl [(o, .inr (11, (moF a))), ((a 0), .inl (Y 0, 7533, .inl tolF))] H := hP
  have hD : va_D A [(o, .inr (11, (moF a))), ((a 0), .inl (Y 0, 7533, .inl tolF))] := hD
  refine lv_if_eq (tgt := 20) hx hb dX11_resize_5 (by decide) (fun c3 => ?_) (fun c3 => ?_)
  rotate_left
  · exact absurd c3 (by decide)
  refine lv_iconst (v := (-1)) hx hb dX11_resize_20 (by decide) ?_
  refine W.widen (k := 0) (n := 0) (Nat.le_of_ble_eq_true rfl) (Nat.le_of_ble_eq_true rfl) ?_
  exact W.iret (v := (-1)) hx hb hr (fun t ht hW => ⟨⟨(), rfl, trivial, CB.nil⟩, hS.F ht⟩) hS.2.2 dX11_resize_21
set_option maxHeartbeats 4000000 in
set_option maxRecDepth 100000 in
theorem x_at (l : Launch) (D : va_G) (Y : Nat → ClassId) (Z : Nat → Nat) (sz : Nat) (o : Nat) (b : Nat → Nat) (p0 p1 p2 : Int32) : Met l yX10_at (.code yX10_at cX10_at 4 (some .int) :: GW) ({ frames := 2, cells := 0, slots := 0, locals := 42 }) (va_Pc [.ref o, .int p0, .int p1, .int p2] (CP D Y Z [(o, .inr (10, (dsF b))), ((b 0), .inr (6, (skF b)))] sz)) (QG (S := Unit) (fun _ => some (.int (-200000))) (fun _ => True) (fun u => CB D ((fun _ => []) u) (va_A [(o, .inr (10, (dsF b))), ((b 0), .inr (6, (skF b)))] sz)) (va_A [(o, .inr (10, (dsF b))), ((b 0), .inr (6, (skF b)))] sz)) 0 0 (va_A [(o, .inr (10, (dsF b))), ((b 0), .inr (6, (skF b)))] sz) := by
  refine Met.ofW (cc := cX10_at) (maxL := 4) (ret := (some .int)) (by decide) rfl ?_
  intro p e s m args below meth c s₁ B hml hv
  obtain ⟨rfl, hsz, hP, hKN, hD0⟩ := hv
  have hx := B.exec
  have hb := B.bytes
  have hr := B.returns
  have hts := atoms_spec (ws := .code yX10_at cX10_at 4 (some .int) :: GW) B.pre
  have hg : ∀ w ∈ GW, w.before _ s = true := fun w h => hts w (List.mem_cons_of_mem _ h)
  have hown : s.vm.findClass RX10 = some m.cls := findClass_of_methodNamed B.named
  have hlocks := B.notSynchronized
  subst hsz
  have hD := hD0.self (sz := s.heap.size)
  generalize hAe : va_A [(o, .inr (10, (dsF b))), ((b 0), .inr (6, (skF b)))] s.heap.size = A at hD ⊢
  have hA : ∀ q : Nat, s.heap.size ≤ q → A q := fun q h => by rw [← hAe]; exact Or.inr h
  have hl := lv_entry ([.ref o, .int p0, .int p1, .int p2]) (n := 4) (Nat.le_of_ble_eq_true rfl)
  rw [lg_entry_eq]
  generalize (lg_sl ([.ref o, .int p0, .int p1, .int p2]) ++ List.replicate (4 - (lg_sl ([.ref o, .int p0, .int p1, .int p2])).length) Slot.unset).toArray = ls at hl ⊢
  have hl : lv_has ls 4 [(0, .ref o), (1, .int p0), (2, .int p1), (3, .int p2)] := hl
  refine w_start (A0 := A) hP (fun H locs hP hS => ?_)
  refine lv_aload_n hx hb dX10_at_0 rfl (lv_at hl 0 rfl) ?_
  refine lv_iload_n hx hb dX10_at_1 rfl (lv_at hl 1 rfl) ?_
  refine cg (wc := [(o, .inr (10, (dsF b))), ((b 0), .inr (6, (skF b)))]) (wr := []) [0, 1] [] (rn_V (As := [.int p0]) (rest := []) (b := o) (c_isStar l D Y Z H.size o b p0) ⟨hx, hb, hml, hown, hg⟩ lk_X10_137 ⟨CP.blind, va_recv hKN.1 hP (ci := 10) (q0 := 0) rfl rfl, CP.at (hP.sub [0, 1] rfl) hKN (hD.sub [0, 1] (by decide) rfl)⟩ ⟨⟨rfl, rfl⟩, ⟨Nat.le_of_ble_eq_true rfl, Nat.le_of_ble_eq_true rfl⟩, ⟨Nat.le_of_ble_eq_true rfl, Nat.le_of_ble_eq_true rfl⟩⟩ hl.1 rfl (Nat.le_of_ble_eq_true rfl) dX10_at_2) hP hD hS hA rfl rfl (by decide) (by decide) (fun u1 H locs w2 hP hD hS => ?_)
  refine W.eq (g2 := F0 m 5 ls [.int 0]) rfl ?_
  have hP : va_P D vwCl [(o, .inr (10, (dsF b))), ((b 0), .inr (6, (skF b)))] H := hP
  have hD : va_D A [(o, .inr (10, (dsF b))), ((b 0), .inr (6, (skF b)))] := hD
  refine lv_if_eq (tgt := 22) hx hb dX10_at_5 (by decide) (fun c3 => ?_) (fun c3 => ?_)
  rotate_left
  · exact absurd c3 (by decide)
  refine lv_ldc (v := (-200000)) hx hb hown (hg _ kw_473) dX10_at_22 ?_
  refine W.widen (k := 0) (n := 0) (Nat.le_of_ble_eq_true rfl) (Nat.le_of_ble_eq_true rfl) ?_
  exact W.iret (v := (-200000)) hx hb hr (fun t ht hW => ⟨⟨(), rfl, trivial, CB.nil⟩, hS.F ht⟩) hS.2.2 dX10_at_24
