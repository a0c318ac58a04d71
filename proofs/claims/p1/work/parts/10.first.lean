set_option maxHeartbeats 4000000 in
set_option maxRecDepth 100000 in
theorem c_isWithin (l : Launch) (D : va_G) (Y : Nat → ClassId) (Z : Nat → Nat) (sz : Nat) (n a b : Int32) (A0 B0 : Int) (ha : a.toInt = A0) (hb0 : b.toInt = B0) : Met l yX10_isWithin (.code yX10_isWithin cX10_isWithin 3 (some .boolean) :: GW) ({ frames := 0, cells := 0, slots := 0, locals := 0 }) (va_Pc [.int n, .int a, .int b] (CP D Y Z [] sz)) (QG (S := Int32) (fun r => some (.int r)) (fun r => ((A0 ≤ n.toInt ∧ n.toInt ≤ B0) ∧ r = 1) ∨ (¬ (A0 ≤ n.toInt ∧ n.toInt ≤ B0) ∧ r = 0)) (fun u => CB D ((fun _ => []) u) (va_A [] sz)) (va_A [] sz)) 0 0 (va_A [] sz) := by
  refine Met.ofW (cc := cX10_isWithin) (maxL := 3) (ret := (some .boolean)) (by decide) rfl ?_
  intro p e s m args below meth c s₁ B hml hv
  obtain ⟨rfl, hsz, hP, hKN, hD0⟩ := hv
  have hx := B.exec
  have hb := B.bytes
  have hr := B.returns
  have hts := atoms_spec (ws := .code yX10_isWithin cX10_isWithin 3 (some .boolean) :: GW) B.pre
  have hg : ∀ w ∈ GW, w.before _ s = true := fun w h => hts w (List.mem_cons_of_mem _ h)
  have hown : s.vm.findClass RX10 = some m.cls := findClass_of_methodNamed B.named
  have hlocks := B.notSynchronized
  subst hsz
  have hD := hD0.self (sz := s.heap.size)
  generalize hAe : va_A [] s.heap.size = A at hD ⊢
  have hA : ∀ q : Nat, s.heap.size ≤ q → A q := fun q h => by rw [← hAe]; exact Or.inr h
  have hl := lv_entry ([.int n, .int a, .int b]) (n := 3) (Nat.le_of_ble_eq_true rfl)
  rw [lg_entry_eq]
  generalize (lg_sl ([.int n, .int a, .int b]) ++ List.replicate (3 - (lg_sl ([.int n, .int a, .int b])).length) Slot.unset).toArray = ls at hl ⊢
  have hl : lv_has ls 3 [(0, .int n), (1, .int a), (2, .int b)] := hl
  refine w_start (A0 := A) hP (fun H locs hP hS => ?_)
  refine lv_iload_n hx hb dX10_isWithin_0 rfl (lv_at hl 0 rfl) ?_
  refine lv_iload_n hx hb dX10_isWithin_1 rfl (lv_at hl 1 rfl) ?_
  refine lv_icmp_lt (tgt := 14) hx hb dX10_isWithin_2 (by decide) (fun c1 => ?_) (fun c1 => ?_)
  · skip
    have c1 := i_lt (Eq.refl (n).toInt) (Eq.refl (a).toInt) c1
    refine lv_iconst (v := 0) hx hb dX10_isWithin_14 (by decide) ?_
    refine W.widen (k := 0) (n := 0) (Nat.le_of_ble_eq_true rfl) (Nat.le_of_ble_eq_true rfl) ?_
    exact W.zret (v := 0) hx hb hr (by decide) (fun t ht hW => ⟨⟨0, rfl, (Or.inr ⟨by omega, rfl⟩), CB.nil⟩, hS.F ht⟩) hS.2.2 dX10_isWithin_15
  · skip
    have c1 := i_nlt (Eq.refl (n).toInt) (Eq.refl (a).toInt) c1
    refine lv_iload_n hx hb dX10_isWithin_5 rfl (lv_at hl 0 rfl) ?_
    refine lv_iload_n hx hb dX10_isWithin_6 rfl (lv_at hl 2 rfl) ?_
    refine lv_icmp_gt (tgt := 14) hx hb dX10_isWithin_7 (by decide) (fun c2 => ?_) (fun c2 => ?_)
    · skip
      have c2 := i_lt (Eq.refl (b).toInt) (Eq.refl (n).toInt) c2
      refine lv_iconst (v := 0) hx hb dX10_isWithin_14 (by decide) ?_
      refine W.widen (k := 0) (n := 0) (Nat.le_of_ble_eq_true rfl) (Nat.le_of_ble_eq_true rfl) ?_
      exact W.zret (v := 0) hx hb hr (by decide) (fun t ht hW => ⟨⟨0, rfl, (Or.inr ⟨by omega, rfl⟩), CB.nil⟩, hS.F ht⟩) hS.2.2 dX10_isWithin_15
    · skip
      have c2 := i_nlt (Eq.refl (b).toInt) (Eq.refl (n).toInt) c2
      refine lv_iconst (v := 1) hx hb dX10_isWithin_10 (by decide) ?_
      refine lv_goto (tgt := 15) hx hb dX10_isWithin_11 (by decide) ?_
      refine W.widen (k := 0) (n := 0) (Nat.le_of_ble_eq_true rfl) (Nat.le_of_ble_eq_true rfl) ?_
      exact W.zret (v := 1) hx hb hr (by decide) (fun t ht hW => ⟨⟨1, rfl, (Or.inl ⟨by omega, rfl⟩), CB.nil⟩, hS.F ht⟩) hS.2.2 dX10_isWithin_15
set_option maxHeartbeats 4000000 in
set_option maxRecDepth 100000 in
theorem c_isHour (l : Launch) (D : va_G) (Y : Nat → ClassId) (Z : Nat → Nat) (sz : Nat) (n : Int32) : Met l yX10_isHour (.code yX10_isHour cX10_isHour 1 (some .boolean) :: GW) ({ frames := 1, cells := 0, slots := 0, locals := 22 }) (va_Pc [.int n] (CP D Y Z [] sz)) (QG (S := Int32) (fun r => some (.int r)) (fun r => ((0 ≤ n.toInt ∧ n.toInt ≤ 599) ∧ r = 1) ∨ (¬ (0 ≤ n.toInt ∧ n.toInt ≤ 599) ∧ r = 0)) (fun u => CB D ((fun _ => []) u) (va_A [] sz)) (va_A [] sz)) 0 0 (va_A [] sz) := by
  refine Met.ofW (cc := cX10_isHour) (maxL := 1) (ret := (some .boolean)) (by decide) rfl ?_
  intro p e s m args below meth c s₁ B hml hv
  obtain ⟨rfl, hsz, hP, hKN, hD0⟩ := hv
  have hx := B.exec
  have hb := B.bytes
  have hr := B.returns
  have hts := atoms_spec (ws := .code yX10_isHour cX10_isHour 1 (some .boolean) :: GW) B.pre
  have hg : ∀ w ∈ GW, w.before _ s = true := fun w h => hts w (List.mem_cons_of_mem _ h)
  have hown : s.vm.findClass RX10 = some m.cls := findClass_of_methodNamed B.named
  have hlocks := B.notSynchronized
  subst hsz
  have hD := hD0.self (sz := s.heap.size)
  generalize hAe : va_A [] s.heap.size = A at hD ⊢
  have hA : ∀ q : Nat, s.heap.size ≤ q → A q := fun q h => by rw [← hAe]; exact Or.inr h
  have hl := lv_entry ([.int n]) (n := 1) (Nat.le_of_ble_eq_true rfl)
  rw [lg_entry_eq]
  generalize (lg_sl ([.int n]) ++ List.replicate (1 - (lg_sl ([.int n])).length) Slot.unset).toArray = ls at hl ⊢
  have hl : lv_has ls 1 [(0, .int n)] := hl
  refine w_start (A0 := A) hP (fun H locs hP hS => ?_)
  refine lv_iload_n hx hb dX10_isHour_0 rfl (lv_at hl 0 rfl) ?_
  refine lv_iconst (v := 0) hx hb dX10_isHour_1 (by decide) ?_
  refine lv_sipush (v := 599) hx hb dX10_isHour_2 (by decide) ?_
  refine cg0 (rn_S (As := [.int n, .int 0, .int 599]) (rest := []) (c_isWithin l D Y Z H.size n 0 599 (0) (599) (by decide) (by decide)) ⟨hx, hb, hml, hown, hg⟩ lk_X10_100 ⟨CP.blind, CP.at nilP hKN (nilD (A := fun _ => True))⟩ ⟨⟨rfl, rfl⟩, ⟨Nat.le_of_ble_eq_true rfl, Nat.le_of_ble_eq_true rfl⟩, ⟨Nat.le_of_ble_eq_true rfl, Nat.le_of_ble_eq_true rfl⟩⟩ hl.1 rfl (Nat.le_of_ble_eq_true rfl) dX10_isHour_5) hP hS hA (fun u1 H locs w2 hP hS => ?_)
  rcases w2 with ⟨w2, rfl⟩ | ⟨w2, rfl⟩
  · skip
    refine W.eq (g2 := F0 m 8 ls [.int 1]) rfl ?_
    refine W.widen (k := 0) (n := 0) (Nat.le_of_ble_eq_true rfl) (Nat.le_of_ble_eq_true rfl) ?_
    exact W.zret (v := 1) hx hb hr (by decide) (fun t ht hW => ⟨⟨1, rfl, (Or.inl ⟨by omega, rfl⟩), CB.nil⟩, hS.F ht⟩) hS.2.2 dX10_isHour_8
  · skip
    refine W.eq (g2 := F0 m 8 ls [.int 0]) rfl ?_
    refine W.widen (k := 0) (n := 0) (Nat.le_of_ble_eq_true rfl) (Nat.le_of_ble_eq_true rfl) ?_
    exact W.zret (v := 0) hx hb hr (by decide) (fun t ht hW => ⟨⟨0, rfl, (Or.inr ⟨by omega, rfl⟩), CB.nil⟩, hS.F ht⟩) hS.2.2 dX10_isHour_8
set_option maxHeartbeats 4000000 in
set_option maxRecDepth 100000 in
theorem c_isSize (l : Launch) (D : va_G) (Y : Nat → ClassId) (Z : Nat → Nat) (sz : Nat) (n : Int32) : Met l yX10_isSize (.code yX10_isSize cX10_isSize 1 (some .boolean) :: GW) ({ frames := 1, cells := 0, slots := 0, locals := 22 }) (va_Pc [.int n] (CP D Y Z [] sz)) (QG (S := Int32) (fun r => some (.int r)) (fun r => ((1 ≤ n.toInt ∧ n.toInt ≤ 999) ∧ r = 1) ∨ (¬ (1 ≤ n.toInt ∧ n.toInt ≤ 999) ∧ r = 0)) (fun u => CB D ((fun _ => []) u) (va_A [] sz)) (va_A [] sz)) 0 0 (va_A [] sz) := by
  refine Met.ofW (cc := cX10_isSize) (maxL := 1) (ret := (some .boolean)) (by decide) rfl ?_
  intro p e s m args below meth c s₁ B hml hv
  obtain ⟨rfl, hsz, hP, hKN, hD0⟩ := hv
  have hx := B.exec
  have hb := B.bytes
  have hr := B.returns
  have hts := atoms_spec (ws := .code yX10_isSize cX10_isSize 1 (some .boolean) :: GW) B.pre
  have hg : ∀ w ∈ GW, w.before _ s = true := fun w h => hts w (List.mem_cons_of_mem _ h)
  have hown : s.vm.findClass RX10 = some m.cls := findClass_of_methodNamed B.named
  have hlocks := B.notSynchronized
  subst hsz
  have hD := hD0.self (sz := s.heap.size)
  generalize hAe : va_A [] s.heap.size = A at hD ⊢
  have hA : ∀ q : Nat, s.heap.size ≤ q → A q := fun q h => by rw [← hAe]; exact Or.inr h
  have hl := lv_entry ([.int n]) (n := 1) (Nat.le_of_ble_eq_true rfl)
  rw [lg_entry_eq]
  generalize (lg_sl ([.int n]) ++ List.replicate (1 - (lg_sl ([.int n])).length) Slot.unset).toArray = ls at hl ⊢
  have hl : lv_has ls 1 [(0, .int n)] := hl
  refine w_start (A0 := A) hP (fun H locs hP hS => ?_)
  refine lv_iload_n hx hb dX10_isSize_0 rfl (lv_at hl 0 rfl) ?_
  refine lv_iconst (v := 1) hx hb dX10_isSize_1 (by decide) ?_
  refine lv_sipush (v := 999) hx hb dX10_isSize_2 (by decide) ?_
  refine cg0 (rn_S (As := [.int n, .int 1, .int 999]) (rest := []) (c_isWithin l D Y Z H.size n 1 999 (1) (999) (by decide) (by decide)) ⟨hx, hb, hml, hown, hg⟩ lk_X10_100 ⟨CP.blind, CP.at nilP hKN (nilD (A := fun _ => True))⟩ ⟨⟨rfl, rfl⟩, ⟨Nat.le_of_ble_eq_true rfl, Nat.le_of_ble_eq_true rfl⟩, ⟨Nat.le_of_ble_eq_true rfl, Nat.le_of_ble_eq_true rfl⟩⟩ hl.1 rfl (Nat.le_of_ble_eq_true rfl) dX10_isSize_5) hP hS hA (fun u1 H locs w2 hP hS => ?_)
  rcases w2 with ⟨w2, rfl⟩ | ⟨w2, rfl⟩
  · skip
    refine W.eq (g2 := F0 m 8 ls [.int 1]) rfl ?_
    refine W.widen (k := 0) (n := 0) (Nat.le_of_ble_eq_true rfl) (Nat.le_of_ble_eq_true rfl) ?_
    exact W.zret (v := 1) hx hb hr (by decide) (fun t ht hW => ⟨⟨1, rfl, (Or.inl ⟨by omega, rfl⟩), CB.nil⟩, hS.F ht⟩) hS.2.2 dX10_isSize_8
  · skip
    refine W.eq (g2 := F0 m 8 ls [.int 0]) rfl ?_
    refine W.widen (k := 0) (n := 0) (Nat.le_of_ble_eq_true rfl) (Nat.le_of_ble_eq_true rfl) ?_
    exact W.zret (v := 0) hx hb hr (by decide) (fun t ht hW => ⟨⟨0, rfl, (Or.inr ⟨by omega, rfl⟩), CB.nil⟩, hS.F ht⟩) hS.2.2 dX10_isSize_8
set_option maxHeartbeats 4000000 in
set_option maxRecDepth 100000 in
theorem c_isWay (l : Launch) (D : va_G) (Y : Nat → ClassId) (Z : Nat → Nat) (sz : Nat) (n : Int32) : Met l yX10_isWay (.code yX10_isWay cX10_isWay 1 (some .boolean) :: GW) ({ frames := 1, cells := 0, slots := 0, locals := 22 }) (va_Pc [.int n] (CP D Y Z [] sz)) (QG (S := Int32) (fun r => some (.int r)) (fun r => ((0 ≤ n.toInt ∧ n.toInt ≤ 5) ∧ r = 1) ∨ (¬ (0 ≤ n.toInt ∧ n.toInt ≤ 5) ∧ r = 0)) (fun u => CB D ((fun _ => []) u) (va_A [] sz)) (va_A [] sz)) 0 0 (va_A [] sz) := by
  refine Met.ofW (cc := cX10_isWay) (maxL := 1) (ret := (some .boolean)) (by decide) rfl ?_
  intro p e s m args below meth c s₁ B hml hv
  obtain ⟨rfl, hsz, hP, hKN, hD0⟩ := hv
  have hx := B.exec
  have hb := B.bytes
  have hr := B.returns
  have hts := atoms_spec (ws := .code yX10_isWay cX10_isWay 1 (some .boolean) :: GW) B.pre
  have hg : ∀ w ∈ GW, w.before _ s = true := fun w h => hts w (List.mem_cons_of_mem _ h)
  have hown : s.vm.findClass RX10 = some m.cls := findClass_of_methodNamed B.named
  have hlocks := B.notSynchronized
  subst hsz
  have hD := hD0.self (sz := s.heap.size)
  generalize hAe : va_A [] s.heap.size = A at hD ⊢
  have hA : ∀ q : Nat, s.heap.size ≤ q → A q := fun q h => by rw [← hAe]; exact Or.inr h
  have hl := lv_entry ([.int n]) (n := 1) (Nat.le_of_ble_eq_true rfl)
  rw [lg_entry_eq]
  generalize (lg_sl ([.int n]) ++ List.replicate (1 - (lg_sl ([.int n])).length) Slot.unset).toArray = ls at hl ⊢
  have hl : lv_has ls 1 [(0, .int n)] := hl
  refine w_start (A0 := A) hP (fun H locs hP hS => ?_)
  refine lv_iload_n hx hb dX10_isWay_0 rfl (lv_at hl 0 rfl) ?_
  refine lv_iconst (v := 0) hx hb dX10_isWay_1 (by decide) ?_
  refine lv_iconst (v := 5) hx hb dX10_isWay_2 (by decide) ?_
  refine cg0 (rn_S (As := [.int n, .int 0, .int 5]) (rest := []) (c_isWithin l D Y Z H.size n 0 5 (0) (5) (by decide) (by decide)) ⟨hx, hb, hml, hown, hg⟩ lk_X10_100 ⟨CP.blind, CP.at nilP hKN (nilD (A := fun _ => True))⟩ ⟨⟨rfl, rfl⟩, ⟨Nat.le_of_ble_eq_true rfl, Nat.le_of_ble_eq_true rfl⟩, ⟨Nat.le_of_ble_eq_true rfl, Nat.le_of_ble_eq_true rfl⟩⟩ hl.1 rfl (Nat.le_of_ble_eq_true rfl) dX10_isWay_3) hP hS hA (fun u1 H locs w2 hP hS => ?_)
  rcases w2 with ⟨w2, rfl⟩ | ⟨w2, rfl⟩
  · skip
    refine W.eq (g2 := F0 m 6 ls [.int 1]) rfl ?_
    refine W.widen (k := 0) (n := 0) (Nat.le_of_ble_eq_true rfl) (Nat.le_of_ble_eq_true rfl) ?_
    exact W.zret (v := 1) hx hb hr (by decide) (fun t ht hW => ⟨⟨1, rfl, (Or.inl ⟨by omega, rfl⟩), CB.nil⟩, hS.F ht⟩) hS.2.2 dX10_isWay_6
  · skip
    refine W.eq (g2 := F0 m 6 ls [.int 0]) rfl ?_
    refine W.widen (k := 0) (n := 0) (Nat.le_of_ble_eq_true rfl) (Nat.le_of_ble_eq_true rfl) ?_
    exact W.zret (v := 0) hx hb hr (by decide) (fun t ht hW => ⟨⟨0, rfl, (Or.inr ⟨by omega, rfl⟩), CB.nil⟩, hS.F ht⟩) hS.2.2 dX10_isWay_6
set_option maxHeartbeats 4000000 in
set_option maxRecDepth 100000 in
theorem c_isBeat (l : Launch) (D : va_G) (Y : Nat → ClassId) (Z : Nat → Nat) (sz : Nat) (n : Int32) : Met l yX10_isBeat (.code yX10_isBeat cX10_isBeat 1 (some .boolean) :: GW) ({ frames := 1, cells := 0, slots := 0, locals := 22 }) (va_Pc [.int n] (CP D Y Z [] sz)) (QG (S := Int32) (fun r => some (.int r)) (fun r => ((2 ≤ n.toInt ∧ n.toInt ≤ 200) ∧ r = 1) ∨ (¬ (2 ≤ n.toInt ∧ n.toInt ≤ 200) ∧ r = 0)) (fun u => CB D ((fun _ => []) u) (va_A [] sz)) (va_A [] sz)) 0 0 (va_A [] sz) := by
  refine Met.ofW (cc := cX10_isBeat) (maxL := 1) (ret := (some .boolean)) (by decide) rfl ?_
  intro p e s m args below meth c s₁ B hml hv
  obtain ⟨rfl, hsz, hP, hKN, hD0⟩ := hv
  have hx := B.exec
  have hb := B.bytes
  have hr := B.returns
  have hts := atoms_spec (ws := .code yX10_isBeat cX10_isBeat 1 (some .boolean) :: GW) B.pre
  have hg : ∀ w ∈ GW, w.before _ s = true := fun w h => hts w (List.mem_cons_of_mem _ h)
  have hown : s.vm.findClass RX10 = some m.cls := findClass_of_methodNamed B.named
  have hlocks := B.notSynchronized
  subst hsz
  have hD := hD0.self (sz := s.heap.size)
  generalize hAe : va_A [] s.heap.size = A at hD ⊢
  have hA : ∀ q : Nat, s.heap.size ≤ q → A q := fun q h => by rw [← hAe]; exact Or.inr h
  have hl := lv_entry ([.int n]) (n := 1) (Nat.le_of_ble_eq_true rfl)
  rw [lg_entry_eq]
  generalize (lg_sl ([.int n]) ++ List.replicate (1 - (lg_sl ([.int n])).length) Slot.unset).toArray = ls at hl ⊢
  have hl : lv_has ls 1 [(0, .int n)] := hl
  refine w_start (A0 := A) hP (fun H locs hP hS => ?_)
  refine lv_iload_n hx hb dX10_isBeat_0 rfl (lv_at hl 0 rfl) ?_
  refine lv_iconst (v := 2) hx hb dX10_isBeat_1 (by decide) ?_
  refine lv_sipush (v := 200) hx hb dX10_isBeat_2 (by decide) ?_
  refine cg0 (rn_S (As := [.int n, .int 2, .int 200]) (rest := []) (c_isWithin l D Y Z H.size n 2 200 (2) (200) (by decide) (by decide)) ⟨hx, hb, hml, hown, hg⟩ lk_X10_100 ⟨CP.blind, CP.at nilP hKN (nilD (A := fun _ => True))⟩ ⟨⟨rfl, rfl⟩, ⟨Nat.le_of_ble_eq_true rfl, Nat.le_of_ble_eq_true rfl⟩, ⟨Nat.le_of_ble_eq_true rfl, Nat.le_of_ble_eq_true rfl⟩⟩ hl.1 rfl (Nat.le_of_ble_eq_true rfl) dX10_isBeat_5) hP hS hA (fun u1 H locs w2 hP hS => ?_)
  rcases w2 with ⟨w2, rfl⟩ | ⟨w2, rfl⟩
  · skip
    refine W.eq (g2 := F0 m 8 ls [.int 1]) rfl ?_
    refine W.widen (k := 0) (n := 0) (Nat.le_of_ble_eq_true rfl) (Nat.le_of_ble_eq_true rfl) ?_
    exact W.zret (v := 1) hx hb hr (by decide) (fun t ht hW => ⟨⟨1, rfl, (Or.inl ⟨by omega, rfl⟩), CB.nil⟩, hS.F ht⟩) hS.2.2 dX10_isBeat_8
  · skip
    refine W.eq (g2 := F0 m 8 ls [.int 0]) rfl ?_
    refine W.widen (k := 0) (n := 0) (Nat.le_of_ble_eq_true rfl) (Nat.le_of_ble_eq_true rfl) ?_
    exact W.zret (v := 0) hx hb hr (by decide) (fun t ht hW => ⟨⟨0, rfl, (Or.inr ⟨by omega, rfl⟩), CB.nil⟩, hS.F ht⟩) hS.2.2 dX10_isBeat_8
