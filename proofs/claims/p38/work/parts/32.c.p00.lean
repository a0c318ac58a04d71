set_option maxHeartbeats 4000000 in
set_option maxRecDepth 100000 in
theorem x_X10_isWithin (l : Launch) (D : va_G) (Y : Nat → ClassId) (Z : Nat → Nat) (sz : Nat)  (p0 : Int32) (p1 : Int32) (p2 : Int32) : Met l yX10_isWithin (.code yX10_isWithin cX10_isWithin 3 (some .boolean) :: GW) ({ frames := 0, cells := 0, slots := 0, locals := 0 }) (va_Pc [.int p0, .int p1, .int p2] (CP D Y Z [] sz)) (QG (S := Int32) (fun u => some (.int u)) (fun u => ((p1.toInt ≤ p0.toInt ∧ p0.toInt ≤ p2.toInt ∧ u.toInt = 1) ∨ (¬ (p1.toInt ≤ p0.toInt ∧ p0.toInt ≤ p2.toInt) ∧ u.toInt = 0)) ∧ (0 ≤ u.toInt ∧ u.toInt ≤ 1)) (fun u => CB D [] (va_A [] sz)) (va_A [] sz)) 0 0 (va_A [] sz) := by
  refine Met.ofW (cc := cX10_isWithin) (maxL := 3) (ret := (some .boolean)) (by decide) rfl ?_
  intro p e s m args below meth c s₁ B hml hv
  obtain ⟨rfl, hsz, hP, hKN, hD0⟩ := hv
  have hx := B.exec
  have hb := B.bytes
  have hr := B.returns
  have hts := atoms_spec (ws := .code yX10_isWithin cX10_isWithin 3 (some .boolean) :: GW) B.pre
  have hg : ∀ w ∈ GW, w.before _ s = true := fun w h => hts w (List.mem_cons_of_mem _ h)
  have hown : s.vm.findClass RX10 = some m.cls := findClass_of_methodNamed B.named
  have hlocks := B.notSynchronized
  subst hsz
  have hD := hD0.self (sz := s.heap.size)
  generalize hAe : va_A [] s.heap.size = A at hD ⊢
  have hA : ∀ q : Nat, s.heap.size ≤ q → A q := fun q h => by rw [← hAe]; exact Or.inr h
  clear hAe hD0 hts B
  have hl := lv_entry ([.int p0, .int p1, .int p2]) (n := 3) (Nat.le_of_ble_eq_true rfl)
  rw [lg_entry_eq]
  generalize (lg_sl ([.int p0, .int p1, .int p2]) ++ List.replicate (3 - (lg_sl ([.int p0, .int p1, .int p2])).length) Slot.unset).toArray = ls at hl ⊢
  have hl : lv_has ls 3 [(0, .int p0), (1, .int p1), (2, .int p2)] := hl
  refine w_start (A0 := A) hP (fun H locs hP hS => ?_)
  refine lv_iload_n hx hb dX10_isWithin_0 rfl (lv_at hl 0 rfl) ?_
  refine lv_iload_n hx hb dX10_isWithin_1 rfl (lv_at hl 1 rfl) ?_
  have j6 := rgI p0
  have j7 := rgI p1
  refine lv_icmp_lt (tgt := 14) hx hb dX10_isWithin_2 (by decide) (fun c8 => ?_) (fun c8 => ?_)
  · skip
    have c8 := i_lt (Eq.refl p0.toInt) (Eq.refl p1.toInt) c8
    refine lv_iconst (v := 0) hx hb dX10_isWithin_14 (by decide) ?_
    refine W.widen (k := 0) (n := 0) (Nat.le_of_ble_eq_true rfl) (Nat.le_of_ble_eq_true rfl) ?_
    have zi0 : (0 : Int32).toInt = 0 := by decide
    exact W.zret (v := 0) hx hb hr (by decide) (fun t ht hW => ⟨⟨(0), rfl, ⟨(show ((p1.toInt ≤ p0.toInt ∧ p0.toInt ≤ p2.toInt ∧ (0 : Int32).toInt = 1) ∨ (¬ (p1.toInt ≤ p0.toInt ∧ p0.toInt ≤ p2.toInt) ∧ (0 : Int32).toInt = 0)) by omega), (show (0 ≤ (0 : Int32).toInt ∧ (0 : Int32).toInt ≤ 1) by omega)⟩, CB.nil⟩, hS.F ht⟩) hS.2.2 dX10_isWithin_15
  · skip
    have c8 := i_nlt (Eq.refl p0.toInt) (Eq.refl p1.toInt) c8
    refine lv_iload_n hx hb dX10_isWithin_5 rfl (lv_at hl 0 rfl) ?_
    refine lv_iload_n hx hb dX10_isWithin_6 rfl (lv_at hl 2 rfl) ?_
    have j11 := rgI p2
    refine lv_icmp_gt (tgt := 14) hx hb dX10_isWithin_7 (by decide) (fun c12 => ?_) (fun c12 => ?_)
    · skip
      have c12 := i_lt (Eq.refl p2.toInt) (Eq.refl p0.toInt) c12
      refine lv_iconst (v := 0) hx hb dX10_isWithin_14 (by decide) ?_
      refine W.widen (k := 0) (n := 0) (Nat.le_of_ble_eq_true rfl) (Nat.le_of_ble_eq_true rfl) ?_
      have zi0 : (0 : Int32).toInt = 0 := by decide
      exact W.zret (v := 0) hx hb hr (by decide) (fun t ht hW => ⟨⟨(0), rfl, ⟨(show ((p1.toInt ≤ p0.toInt ∧ p0.toInt ≤ p2.toInt ∧ (0 : Int32).toInt = 1) ∨ (¬ (p1.toInt ≤ p0.toInt ∧ p0.toInt ≤ p2.toInt) ∧ (0 : Int32).toInt = 0)) by omega), (show (0 ≤ (0 : Int32).toInt ∧ (0 : Int32).toInt ≤ 1) by omega)⟩, CB.nil⟩, hS.F ht⟩) hS.2.2 dX10_isWithin_15
    · skip
      have c12 := i_nlt (Eq.refl p2.toInt) (Eq.refl p0.toInt) c12
      refine lv_iconst (v := 1) hx hb dX10_isWithin_10 (by decide) ?_
      refine lv_goto (tgt := 15) hx hb dX10_isWithin_11 (by decide) ?_
      refine W.widen (k := 0) (n := 0) (Nat.le_of_ble_eq_true rfl) (Nat.le_of_ble_eq_true rfl) ?_
      have zi1 : (1 : Int32).toInt = 1 := by decide
      exact W.zret (v := 1) hx hb hr (by decide) (fun t ht hW => ⟨⟨(1), rfl, ⟨(show ((p1.toInt ≤ p0.toInt ∧ p0.toInt ≤ p2.toInt ∧ (1 : Int32).toInt = 1) ∨ (¬ (p1.toInt ≤ p0.toInt ∧ p0.toInt ≤ p2.toInt) ∧ (1 : Int32).toInt = 0)) by omega), (show (0 ≤ (1 : Int32).toInt ∧ (1 : Int32).toInt ≤ 1) by omega)⟩, CB.nil⟩, hS.F ht⟩) hS.2.2 dX10_isWithin_15
set_option maxHeartbeats 4000000 in
set_option maxRecDepth 100000 in
theorem x_X10_isHour (l : Launch) (D : va_G) (Y : Nat → ClassId) (Z : Nat → Nat) (sz : Nat)  (p0 : Int32) : Met l yX10_isHour (.code yX10_isHour cX10_isHour 1 (some .boolean) :: GW) ({ frames := 1, cells := 0, slots := 0, locals := 22 }) (va_Pc [.int p0] (CP D Y Z [] sz)) (QG (S := Int32) (fun u => some (.int u)) (fun u => ((0 ≤ p0.toInt ∧ p0.toInt ≤ 599 ∧ u.toInt = 1) ∨ (¬ (0 ≤ p0.toInt ∧ p0.toInt ≤ 599) ∧ u.toInt = 0)) ∧ (0 ≤ u.toInt ∧ u.toInt ≤ 1)) (fun u => CB D [] (va_A [] sz)) (va_A [] sz)) 0 0 (va_A [] sz) := by
  refine Met.ofW (cc := cX10_isHour) (maxL := 1) (ret := (some .boolean)) (by decide) rfl ?_
  intro p e s m args below meth c s₁ B hml hv
  obtain ⟨rfl, hsz, hP, hKN, hD0⟩ := hv
  have hx := B.exec
  have hb := B.bytes
  have hr := B.returns
  have hts := atoms_spec (ws := .code yX10_isHour cX10_isHour 1 (some .boolean) :: GW) B.pre
  have hg : ∀ w ∈ GW, w.before _ s = true := fun w h => hts w (List.mem_cons_of_mem _ h)
  have hown : s.vm.findClass RX10 = some m.cls := findClass_of_methodNamed B.named
  have hlocks := B.notSynchronized
  subst hsz
  have hD := hD0.self (sz := s.heap.size)
  generalize hAe : va_A [] s.heap.size = A at hD ⊢
  have hA : ∀ q : Nat, s.heap.size ≤ q → A q := fun q h => by rw [← hAe]; exact Or.inr h
  clear hAe hD0 hts B
  have hl := lv_entry ([.int p0]) (n := 1) (Nat.le_of_ble_eq_true rfl)
  rw [lg_entry_eq]
  generalize (lg_sl ([.int p0]) ++ List.replicate (1 - (lg_sl ([.int p0])).length) Slot.unset).toArray = ls at hl ⊢
  have hl : lv_has ls 1 [(0, .int p0)] := hl
  refine w_start (A0 := A) hP (fun H locs hP hS => ?_)
  refine lv_iload_n hx hb dX10_isHour_0 rfl (lv_at hl 0 rfl) ?_
  refine lv_iconst (v := 0) hx hb dX10_isHour_1 (by decide) ?_
  refine lv_sipush (v := 599) hx hb dX10_isHour_2 (by decide) ?_
  have zi0 : (0 : Int32).toInt = 0 := by decide
  have zi599 : (599 : Int32).toInt = 599 := by decide
  refine cg0 (rn_S (As := [.int p0, .int 0, .int 599]) (rest := []) (x_X10_isWithin l D Y Z H.size p0 0 599) ⟨hx, hb, hml, hown, hg⟩ lk_X10_100 ⟨CP.blind, CP.at nilP hKN (nilD (A := fun _ => True))⟩ ⟨⟨rfl, rfl⟩, ⟨Nat.le_of_ble_eq_true rfl, Nat.le_of_ble_eq_true rfl⟩, ⟨(Nat.le_of_ble_eq_true rfl), (Nat.le_of_ble_eq_true rfl)⟩⟩ hl.1 rfl (Nat.le_of_ble_eq_true rfl) dX10_isHour_5) hP hS hA (fun u1 H locs hw2 hP hS => ?_)
  obtain ⟨hw4, hw5⟩ : (((0 : Int32).toInt ≤ p0.toInt ∧ p0.toInt ≤ (599 : Int32).toInt ∧ u1.toInt = 1) ∨ (¬ ((0 : Int32).toInt ≤ p0.toInt ∧ p0.toInt ≤ (599 : Int32).toInt) ∧ u1.toInt = 0)) ∧ (0 ≤ u1.toInt ∧ u1.toInt ≤ 1) := hw2
  refine W.eq (g2 := F0 m 8 ls [.int u1]) rfl ?_
  rcases (show u1.toInt = 1 ∨ u1.toInt = 0 by omega) with c6 | c6
  · obtain rfl : u1 = 1 := i_is c6 (by decide)
    have zi1 : (1 : Int32).toInt = 1 := by decide
    refine W.eq (g2 := F0 m 8 ls [.int 1]) rfl ?_
    refine W.widen (k := 0) (n := 0) (Nat.le_of_ble_eq_true rfl) (Nat.le_of_ble_eq_true rfl) ?_
    exact W.zret (v := 1) hx hb hr (by decide) (fun t ht hW => ⟨⟨(1), rfl, ⟨(show ((0 ≤ p0.toInt ∧ p0.toInt ≤ 599 ∧ (1 : Int32).toInt = 1) ∨ (¬ (0 ≤ p0.toInt ∧ p0.toInt ≤ 599) ∧ (1 : Int32).toInt = 0)) by omega), (show (0 ≤ (1 : Int32).toInt ∧ (1 : Int32).toInt ≤ 1) by omega)⟩, CB.nil⟩, hS.F ht⟩) hS.2.2 dX10_isHour_8
  · obtain rfl : u1 = 0 := i_is c6 (by decide)
    refine W.eq (g2 := F0 m 8 ls [.int 0]) rfl ?_
    refine W.widen (k := 0) (n := 0) (Nat.le_of_ble_eq_true rfl) (Nat.le_of_ble_eq_true rfl) ?_
    exact W.zret (v := 0) hx hb hr (by decide) (fun t ht hW => ⟨⟨(0), rfl, ⟨(show ((0 ≤ p0.toInt ∧ p0.toInt ≤ 599 ∧ (0 : Int32).toInt = 1) ∨ (¬ (0 ≤ p0.toInt ∧ p0.toInt ≤ 599) ∧ (0 : Int32).toInt = 0)) by omega), (show (0 ≤ (0 : Int32).toInt ∧ (0 : Int32).toInt ≤ 1) by omega)⟩, CB.nil⟩, hS.F ht⟩) hS.2.2 dX10_isHour_8
set_option maxHeartbeats 4000000 in
set_option maxRecDepth 100000 in
theorem x_X10_isSize (l : Launch) (D : va_G) (Y : Nat → ClassId) (Z : Nat → Nat) (sz : Nat)  (p0 : Int32) : Met l yX10_isSize (.code yX10_isSize cX10_isSize 1 (some .boolean) :: GW) ({ frames := 1, cells := 0, slots := 0, locals := 22 }) (va_Pc [.int p0] (CP D Y Z [] sz)) (QG (S := Int32) (fun u => some (.int u)) (fun u => ((1 ≤ p0.toInt ∧ p0.toInt ≤ 999 ∧ u.toInt = 1) ∨ (¬ (1 ≤ p0.toInt ∧ p0.toInt ≤ 999) ∧ u.toInt = 0)) ∧ (0 ≤ u.toInt ∧ u.toInt ≤ 1)) (fun u => CB D [] (va_A [] sz)) (va_A [] sz)) 0 0 (va_A [] sz) := by
  refine Met.ofW (cc := cX10_isSize) (maxL := 1) (ret := (some .boolean)) (by decide) rfl ?_
  intro p e s m args below meth c s₁ B hml hv
  obtain ⟨rfl, hsz, hP, hKN, hD0⟩ := hv
  have hx := B.exec
  have hb := B.bytes
  have hr := B.returns
  have hts := atoms_spec (ws := .code yX10_isSize cX10_isSize 1 (some .boolean) :: GW) B.pre
  have hg : ∀ w ∈ GW, w.before _ s = true := fun w h => hts w (List.mem_cons_of_mem _ h)
  have hown : s.vm.findClass RX10 = some m.cls := findClass_of_methodNamed B.named
  have hlocks := B.notSynchronized
  subst hsz
  have hD := hD0.self (sz := s.heap.size)
  generalize hAe : va_A [] s.heap.size = A at hD ⊢
  have hA : ∀ q : Nat, s.heap.size ≤ q → A q := fun q h => by rw [← hAe]; exact Or.inr h
  clear hAe hD0 hts B
  have hl := lv_entry ([.int p0]) (n := 1) (Nat.le_of_ble_eq_true rfl)
  rw [lg_entry_eq]
  generalize (lg_sl ([.int p0]) ++ List.replicate (1 - (lg_sl ([.int p0])).length) Slot.unset).toArray = ls at hl ⊢
  have hl : lv_has ls 1 [(0, .int p0)] := hl
  refine w_start (A0 := A) hP (fun H locs hP hS => ?_)
  refine lv_iload_n hx hb dX10_isSize_0 rfl (lv_at hl 0 rfl) ?_
  refine lv_iconst (v := 1) hx hb dX10_isSize_1 (by decide) ?_
  refine lv_sipush (v := 999) hx hb dX10_isSize_2 (by decide) ?_
  have zi1 : (1 : Int32).toInt = 1 := by decide
  have zi999 : (999 : Int32).toInt = 999 := by decide
  refine cg0 (rn_S (As := [.int p0, .int 1, .int 999]) (rest := []) (x_X10_isWithin l D Y Z H.size p0 1 999) ⟨hx, hb, hml, hown, hg⟩ lk_X10_100 ⟨CP.blind, CP.at nilP hKN (nilD (A := fun _ => True))⟩ ⟨⟨rfl, rfl⟩, ⟨Nat.le_of_ble_eq_true rfl, Nat.le_of_ble_eq_true rfl⟩, ⟨(Nat.le_of_ble_eq_true rfl), (Nat.le_of_ble_eq_true rfl)⟩⟩ hl.1 rfl (Nat.le_of_ble_eq_true rfl) dX10_isSize_5) hP hS hA (fun u1 H locs hw2 hP hS => ?_)
  obtain ⟨hw4, hw5⟩ : (((1 : Int32).toInt ≤ p0.toInt ∧ p0.toInt ≤ (999 : Int32).toInt ∧ u1.toInt = 1) ∨ (¬ ((1 : Int32).toInt ≤ p0.toInt ∧ p0.toInt ≤ (999 : Int32).toInt) ∧ u1.toInt = 0)) ∧ (0 ≤ u1.toInt ∧ u1.toInt ≤ 1) := hw2
  refine W.eq (g2 := F0 m 8 ls [.int u1]) rfl ?_
  rcases (show u1.toInt = 1 ∨ u1.toInt = 0 by omega) with c6 | c6
  · obtain rfl : u1 = 1 := i_is c6 (by decide)
    refine W.eq (g2 := F0 m 8 ls [.int 1]) rfl ?_
    refine W.widen (k := 0) (n := 0) (Nat.le_of_ble_eq_true rfl) (Nat.le_of_ble_eq_true rfl) ?_
    exact W.zret (v := 1) hx hb hr (by decide) (fun t ht hW => ⟨⟨(1), rfl, ⟨(show ((1 ≤ p0.toInt ∧ p0.toInt ≤ 999 ∧ (1 : Int32).toInt = 1) ∨ (¬ (1 ≤ p0.toInt ∧ p0.toInt ≤ 999) ∧ (1 : Int32).toInt = 0)) by omega), (show (0 ≤ (1 : Int32).toInt ∧ (1 : Int32).toInt ≤ 1) by omega)⟩, CB.nil⟩, hS.F ht⟩) hS.2.2 dX10_isSize_8
  · obtain rfl : u1 = 0 := i_is c6 (by decide)
    have zi0 : (0 : Int32).toInt = 0 := by decide
    refine W.eq (g2 := F0 m 8 ls [.int 0]) rfl ?_
    refine W.widen (k := 0) (n := 0) (Nat.le_of_ble_eq_true rfl) (Nat.le_of_ble_eq_true rfl) ?_
    exact W.zret (v := 0) hx hb hr (by decide) (fun t ht hW => ⟨⟨(0), rfl, ⟨(show ((1 ≤ p0.toInt ∧ p0.toInt ≤ 999 ∧ (0 : Int32).toInt = 1) ∨ (¬ (1 ≤ p0.toInt ∧ p0.toInt ≤ 999) ∧ (0 : Int32).toInt = 0)) by omega), (show (0 ≤ (0 : Int32).toInt ∧ (0 : Int32).toInt ≤ 1) by omega)⟩, CB.nil⟩, hS.F ht⟩) hS.2.2 dX10_isSize_8
set_option maxHeartbeats 4000000 in
set_option maxRecDepth 100000 in
theorem x_X10_isWay (l : Launch) (D : va_G) (Y : Nat → ClassId) (Z : Nat → Nat) (sz : Nat)  (p0 : Int32) : Met l yX10_isWay (.code yX10_isWay cX10_isWay 1 (some .boolean) :: GW) ({ frames := 1, cells := 0, slots := 0, locals := 22 }) (va_Pc [.int p0] (CP D Y Z [] sz)) (QG (S := Int32) (fun u => some (.int u)) (fun u => ((0 ≤ p0.toInt ∧ p0.toInt ≤ 5 ∧ u.toInt = 1) ∨ (¬ (0 ≤ p0.toInt ∧ p0.toInt ≤ 5) ∧ u.toInt = 0)) ∧ (0 ≤ u.toInt ∧ u.toInt ≤ 1)) (fun u => CB D [] (va_A [] sz)) (va_A [] sz)) 0 0 (va_A [] sz) := by
  refine Met.ofW (cc := cX10_isWay) (maxL := 1) (ret := (some .boolean)) (by decide) rfl ?_
  intro p e s m args below meth c s₁ B hml hv
  obtain ⟨rfl, hsz, hP, hKN, hD0⟩ := hv
  have hx := B.exec
  have hb := B.bytes
  have hr := B.returns
  have hts := atoms_spec (ws := .code yX10_isWay cX10_isWay 1 (some .boolean) :: GW) B.pre
  have hg : ∀ w ∈ GW, w.before _ s = true := fun w h => hts w (List.mem_cons_of_mem _ h)
  have hown : s.vm.findClass RX10 = some m.cls := findClass_of_methodNamed B.named
  have hlocks := B.notSynchronized
  subst hsz
  have hD := hD0.self (sz := s.heap.size)
  generalize hAe : va_A [] s.heap.size = A at hD ⊢
  have hA : ∀ q : Nat, s.heap.size ≤ q → A q := fun q h => by rw [← hAe]; exact Or.inr h
  clear hAe hD0 hts B
  have hl := lv_entry ([.int p0]) (n := 1) (Nat.le_of_ble_eq_true rfl)
  rw [lg_entry_eq]
  generalize (lg_sl ([.int p0]) ++ List.replicate (1 - (lg_sl ([.int p0])).length) Slot.unset).toArray = ls at hl ⊢
  have hl : lv_has ls 1 [(0, .int p0)] := hl
  refine w_start (A0 := A) hP (fun H locs hP hS => ?_)
  refine lv_iload_n hx hb dX10_isWay_0 rfl (lv_at hl 0 rfl) ?_
  refine lv_iconst (v := 0) hx hb dX10_isWay_1 (by decide) ?_
  refine lv_iconst (v := 5) hx hb dX10_isWay_2 (by decide) ?_
  have zi0 : (0 : Int32).toInt = 0 := by decide
  have zi5 : (5 : Int32).toInt = 5 := by decide
  refine cg0 (rn_S (As := [.int p0, .int 0, .int 5]) (rest := []) (x_X10_isWithin l D Y Z H.size p0 0 5) ⟨hx, hb, hml, hown, hg⟩ lk_X10_100 ⟨CP.blind, CP.at nilP hKN (nilD (A := fun _ => True))⟩ ⟨⟨rfl, rfl⟩, ⟨Nat.le_of_ble_eq_true rfl, Nat.le_of_ble_eq_true rfl⟩, ⟨(Nat.le_of_ble_eq_true rfl), (Nat.le_of_ble_eq_true rfl)⟩⟩ hl.1 rfl (Nat.le_of_ble_eq_true rfl) dX10_isWay_3) hP hS hA (fun u1 H locs hw2 hP hS => ?_)
  obtain ⟨hw4, hw5⟩ : (((0 : Int32).toInt ≤ p0.toInt ∧ p0.toInt ≤ (5 : Int32).toInt ∧ u1.toInt = 1) ∨ (¬ ((0 : Int32).toInt ≤ p0.toInt ∧ p0.toInt ≤ (5 : Int32).toInt) ∧ u1.toInt = 0)) ∧ (0 ≤ u1.toInt ∧ u1.toInt ≤ 1) := hw2
  refine W.eq (g2 := F0 m 6 ls [.int u1]) rfl ?_
  rcases (show u1.toInt = 1 ∨ u1.toInt = 0 by omega) with c6 | c6
  · obtain rfl : u1 = 1 := i_is c6 (by decide)
    have zi1 : (1 : Int32).toInt = 1 := by decide
    refine W.eq (g2 := F0 m 6 ls [.int 1]) rfl ?_
    refine W.widen (k := 0) (n := 0) (Nat.le_of_ble_eq_true rfl) (Nat.le_of_ble_eq_true rfl) ?_
    exact W.zret (v := 1) hx hb hr (by decide) (fun t ht hW => ⟨⟨(1), rfl, ⟨(show ((0 ≤ p0.toInt ∧ p0.toInt ≤ 5 ∧ (1 : Int32).toInt = 1) ∨ (¬ (0 ≤ p0.toInt ∧ p0.toInt ≤ 5) ∧ (1 : Int32).toInt = 0)) by omega), (show (0 ≤ (1 : Int32).toInt ∧ (1 : Int32).toInt ≤ 1) by omega)⟩, CB.nil⟩, hS.F ht⟩) hS.2.2 dX10_isWay_6
  · obtain rfl : u1 = 0 := i_is c6 (by decide)
    refine W.eq (g2 := F0 m 6 ls [.int 0]) rfl ?_
    refine W.widen (k := 0) (n := 0) (Nat.le_of_ble_eq_true rfl) (Nat.le_of_ble_eq_true rfl) ?_
    exact W.zret (v := 0) hx hb hr (by decide) (fun t ht hW => ⟨⟨(0), rfl, ⟨(show ((0 ≤ p0.toInt ∧ p0.toInt ≤ 5 ∧ (0 : Int32).toInt = 1) ∨ (¬ (0 ≤ p0.toInt ∧ p0.toInt ≤ 5) ∧ (0 : Int32).toInt = 0)) by omega), (show (0 ≤ (0 : Int32).toInt ∧ (0 : Int32).toInt ≤ 1) by omega)⟩, CB.nil⟩, hS.F ht⟩) hS.2.2 dX10_isWay_6
set_option maxHeartbeats 4000000 in
set_option maxRecDepth 100000 in
theorem x_X10_isBeat (l : Launch) (D : va_G) (Y : Nat → ClassId) (Z : Nat → Nat) (sz : Nat)  (p0 : Int32) : Met l yX10_isBeat (.code yX10_isBeat cX10_isBeat 1 (some .boolean) :: GW) ({ frames := 1, cells := 0, slots := 0, locals := 22 }) (va_Pc [.int p0] (CP D Y Z [] sz)) (QG (S := Int32) (fun u => some (.int u)) (fun u => ((2 ≤ p0.toInt ∧ p0.toInt ≤ 200 ∧ u.toInt = 1) ∨ (¬ (2 ≤ p0.toInt ∧ p0.toInt ≤ 200) ∧ u.toInt = 0)) ∧ (0 ≤ u.toInt ∧ u.toInt ≤ 1)) (fun u => CB D [] (va_A [] sz)) (va_A [] sz)) 0 0 (va_A [] sz) := by
  refine Met.ofW (cc := cX10_isBeat) (maxL := 1) (ret := (some .boolean)) (by decide) rfl ?_
  intro p e s m args below meth c s₁ B hml hv
  obtain ⟨rfl, hsz, hP, hKN, hD0⟩ := hv
  have hx := B.exec
  have hb := B.bytes
  have hr := B.returns
  have hts := atoms_spec (ws := .code yX10_isBeat cX10_isBeat 1 (some .boolean) :: GW) B.pre
  have hg : ∀ w ∈ GW, w.before _ s = true := fun w h => hts w (List.mem_cons_of_mem _ h)
  have hown : s.vm.findClass RX10 = some m.cls := findClass_of_methodNamed B.named
  have hlocks := B.notSynchronized
  subst hsz
  have hD := hD0.self (sz := s.heap.size)
  generalize hAe : va_A [] s.heap.size = A at hD ⊢
  have hA : ∀ q : Nat, s.heap.size ≤ q → A q := fun q h => by rw [← hAe]; exact Or.inr h
  clear hAe hD0 hts B
  have hl := lv_entry ([.int p0]) (n := 1) (Nat.le_of_ble_eq_true rfl)
  rw [lg_entry_eq]
  generalize (lg_sl ([.int p0]) ++ List.replicate (1 - (lg_sl ([.int p0])).length) Slot.unset).toArray = ls at hl ⊢
  have hl : lv_has ls 1 [(0, .int p0)] := hl
  refine w_start (A0 := A) hP (fun H locs hP hS => ?_)
  refine lv_iload_n hx hb dX10_isBeat_0 rfl (lv_at hl 0 rfl) ?_
  refine lv_iconst (v := 2) hx hb dX10_isBeat_1 (by decide) ?_
  refine lv_sipush (v := 200) hx hb dX10_isBeat_2 (by decide) ?_
  have zi2 : (2 : Int32).toInt = 2 := by decide
  have zi200 : (200 : Int32).toInt = 200 := by decide
  refine cg0 (rn_S (As := [.int p0, .int 2, .int 200]) (rest := []) (x_X10_isWithin l D Y Z H.size p0 2 200) ⟨hx, hb, hml, hown, hg⟩ lk_X10_100 ⟨CP.blind, CP.at nilP hKN (nilD (A := fun _ => True))⟩ ⟨⟨rfl, rfl⟩, ⟨Nat.le_of_ble_eq_true rfl, Nat.le_of_ble_eq_true rfl⟩, ⟨(Nat.le_of_ble_eq_true rfl), (Nat.le_of_ble_eq_true rfl)⟩⟩ hl.1 rfl (Nat.le_of_ble_eq_true rfl) dX10_isBeat_5) hP hS hA (fun u1 H locs hw2 hP hS => ?_)
  obtain ⟨hw4, hw5⟩ : (((2 : Int32).toInt ≤ p0.toInt ∧ p0.toInt ≤ (200 : Int32).toInt ∧ u1.toInt = 1) ∨ (¬ ((2 : Int32).toInt ≤ p0.toInt ∧ p0.toInt ≤ (200 : Int32).toInt) ∧ u1.toInt = 0)) ∧ (0 ≤ u1.toInt ∧ u1.toInt ≤ 1) := hw2
  refine W.eq (g2 := F0 m 8 ls [.int u1]) rfl ?_
  rcases (show u1.toInt = 1 ∨ u1.toInt = 0 by omega) with c6 | c6
  · obtain rfl : u1 = 1 := i_is c6 (by decide)
    have zi1 : (1 : Int32).toInt = 1 := by decide
    refine W.eq (g2 := F0 m 8 ls [.int 1]) rfl ?_
    refine W.widen (k := 0) (n := 0) (Nat.le_of_ble_eq_true rfl) (Nat.le_of_ble_eq_true rfl) ?_
    exact W.zret (v := 1) hx hb hr (by decide) (fun t ht hW => ⟨⟨(1), rfl, ⟨(show ((2 ≤ p0.toInt ∧ p0.toInt ≤ 200 ∧ (1 : Int32).toInt = 1) ∨ (¬ (2 ≤ p0.toInt ∧ p0.toInt ≤ 200) ∧ (1 : Int32).toInt = 0)) by omega), (show (0 ≤ (1 : Int32).toInt ∧ (1 : Int32).toInt ≤ 1) by omega)⟩, CB.nil⟩, hS.F ht⟩) hS.2.2 dX10_isBeat_8
  · obtain rfl : u1 = 0 := i_is c6 (by decide)
    have zi0 : (0 : Int32).toInt = 0 := by decide
    refine W.eq (g2 := F0 m 8 ls [.int 0]) rfl ?_
    refine W.widen (k := 0) (n := 0) (Nat.le_of_ble_eq_true rfl) (Nat.le_of_ble_eq_true rfl) ?_
    exact W.zret (v := 0) hx hb hr (by decide) (fun t ht hW => ⟨⟨(0), rfl, ⟨(show ((2 ≤ p0.toInt ∧ p0.toInt ≤ 200 ∧ (0 : Int32).toInt = 1) ∨ (¬ (2 ≤ p0.toInt ∧ p0.toInt ≤ 200) ∧ (0 : Int32).toInt = 0)) by omega), (show (0 ≤ (0 : Int32).toInt ∧ (0 : Int32).toInt ≤ 1) by omega)⟩, CB.nil⟩, hS.F ht⟩) hS.2.2 dX10_isBeat_8
set_option maxHeartbeats 4000000 in
set_option maxRecDepth 100000 in
theorem x_J9_max_7cf53 (l : Launch) (D : va_G) (Y : Nat → ClassId) (Z : Nat → Nat) (sz : Nat)  (p0 : Int32) (p1 : Int32) : Met l yJ9_max_7cf53 (.code yJ9_max_7cf53 cJ9_max_7cf53 2 (some .int) :: GW) ({ frames := 0, cells := 0, slots := 0, locals := 0 }) (va_Pc [.int p0, .int p1] (CP D Y Z [] sz)) (QG (S := Int32) (fun u => some (.int u)) (fun u => (p0.toInt ≤ u.toInt ∧ p1.toInt ≤ u.toInt) ∧ (u.toInt = p0.toInt ∨ u.toInt = p1.toInt)) (fun u => CB D [] (va_A [] sz)) (va_A [] sz)) 0 0 (va_A [] sz) := by
  refine met_P (cc := cJ9_max_7cf53) (maxL := 2) (ret := (some .int)) (by decide +kernel) rfl ?_
  intro p e s m args below meth c s₁ B hml hv
  obtain ⟨rfl, hsz, hP, hKN, hD0⟩ := hv
  have hx := B.exec
  have hb := B.bytes
  have hr := B.returns
  have hts := atoms_spec (ws := .code yJ9_max_7cf53 cJ9_max_7cf53 2 (some .int) :: GW) B.pre
  have hg : ∀ w ∈ GW, w.before _ s = true := fun w h => hts w (List.mem_cons_of_mem _ h)
  have hown : s.vm.findClass RJ9 = some m.cls := findClass_of_methodNamed B.named
  have hlocks := B.notSynchronized
  subst hsz
  have hD := hD0.self (sz := s.heap.size)
  generalize hAe : va_A [] s.heap.size = A at hD ⊢
  have hA : ∀ q : Nat, s.heap.size ≤ q → A q := fun q h => by rw [← hAe]; exact Or.inr h
  clear hAe hD0 hts B
  have hl := lv_entry ([.int p0, .int p1]) (n := 2) (Nat.le_of_ble_eq_true rfl)
  rw [lg_entry_eq]
  generalize (lg_sl ([.int p0, .int p1]) ++ List.replicate (2 - (lg_sl ([.int p0, .int p1])).length) Slot.unset).toArray = ls at hl ⊢
  have hl : lv_has ls 2 [(0, .int p0), (1, .int p1)] := hl
  refine w_start (A0 := A) hP (fun H locs hP hS => ?_)
  refine lv_iload_n hx hb dJ9_max_7cf53_0 rfl (lv_at hl 0 rfl) ?_
  refine lv_iload_n hx hb dJ9_max_7cf53_1 rfl (lv_at hl 1 rfl) ?_
  have j1 := rgI p0
  have j2 := rgI p1
  refine lv_icmp_lt (tgt := 9) hx hb dJ9_max_7cf53_2 (by decide) (fun c3 => ?_) (fun c3 => ?_)
  · skip
    have c3 := i_lt (Eq.refl p0.toInt) (Eq.refl p1.toInt) c3
    refine lv_iload_n hx hb dJ9_max_7cf53_9 rfl (lv_at hl 1 rfl) ?_
    refine W.widen (k := 0) (n := 0) (Nat.le_of_ble_eq_true rfl) (Nat.le_of_ble_eq_true rfl) ?_
    exact W.iret (v := p1) hx hb hr (fun t ht hW => ⟨⟨p1, rfl, ⟨(show (p0.toInt ≤ p1.toInt ∧ p1.toInt ≤ p1.toInt) by omega), (show (p1.toInt = p0.toInt ∨ p1.toInt = p1.toInt) by omega)⟩, CB.nil⟩, hS.F ht⟩) hS.2.2 dJ9_max_7cf53_10
  · skip
    have c3 := i_nlt (Eq.refl p0.toInt) (Eq.refl p1.toInt) c3
    refine lv_iload_n hx hb dJ9_max_7cf53_5 rfl (lv_at hl 0 rfl) ?_
    refine lv_goto (tgt := 10) hx hb dJ9_max_7cf53_6 (by decide) ?_
    refine W.widen (k := 0) (n := 0) (Nat.le_of_ble_eq_true rfl) (Nat.le_of_ble_eq_true rfl) ?_
    exact W.iret (v := p0) hx hb hr (fun t ht hW => ⟨⟨p0, rfl, ⟨(show (p0.toInt ≤ p0.toInt ∧ p1.toInt ≤ p0.toInt) by omega), (show (p0.toInt = p0.toInt ∨ p0.toInt = p1.toInt) by omega)⟩, CB.nil⟩, hS.F ht⟩) hS.2.2 dJ9_max_7cf53_10
set_option maxHeartbeats 4000000 in
set_option maxRecDepth 100000 in
theorem x_J9_min_7cf53 (l : Launch) (D : va_G) (Y : Nat → ClassId) (Z : Nat → Nat) (sz : Nat)  (p0 : Int32) (p1 : Int32) : Met l yJ9_min_7cf53 (.code yJ9_min_7cf53 cJ9_min_7cf53 2 (some .int) :: GW) ({ frames := 0, cells := 0, slots := 0, locals := 0 }) (va_Pc [.int p0, .int p1] (CP D Y Z [] sz)) (QG (S := Int32) (fun u => some (.int u)) (fun u => (u.toInt ≤ p0.toInt ∧ u.toInt ≤ p1.toInt) ∧ (u.toInt = p0.toInt ∨ u.toInt = p1.toInt)) (fun u => CB D [] (va_A [] sz)) (va_A [] sz)) 0 0 (va_A [] sz) := by
  refine met_P (cc := cJ9_min_7cf53) (maxL := 2) (ret := (some .int)) (by decide +kernel) rfl ?_
  intro p e s m args below meth c s₁ B hml hv
  obtain ⟨rfl, hsz, hP, hKN, hD0⟩ := hv
  have hx := B.exec
  have hb := B.bytes
  have hr := B.returns
  have hts := atoms_spec (ws := .code yJ9_min_7cf53 cJ9_min_7cf53 2 (some .int) :: GW) B.pre
  have hg : ∀ w ∈ GW, w.before _ s = true := fun w h => hts w (List.mem_cons_of_mem _ h)
  have hown : s.vm.findClass RJ9 = some m.cls := findClass_of_methodNamed B.named
  have hlocks := B.notSynchronized
  subst hsz
  have hD := hD0.self (sz := s.heap.size)
  generalize hAe : va_A [] s.heap.size = A at hD ⊢
  have hA : ∀ q : Nat, s.heap.size ≤ q → A q := fun q h => by rw [← hAe]; exact Or.inr h
  clear hAe hD0 hts B
  have hl := lv_entry ([.int p0, .int p1]) (n := 2) (Nat.le_of_ble_eq_true rfl)
  rw [lg_entry_eq]
  generalize (lg_sl ([.int p0, .int p1]) ++ List.replicate (2 - (lg_sl ([.int p0, .int p1])).length) Slot.unset).toArray = ls at hl ⊢
  have hl : lv_has ls 2 [(0, .int p0), (1, .int p1)] := hl
  refine w_start (A0 := A) hP (fun H locs hP hS => ?_)
  refine lv_iload_n hx hb dJ9_min_7cf53_0 rfl (lv_at hl 0 rfl) ?_
  refine lv_iload_n hx hb dJ9_min_7cf53_1 rfl (lv_at hl 1 rfl) ?_
  have j1 := rgI p0
  have j2 := rgI p1
  refine lv_icmp_gt (tgt := 9) hx hb dJ9_min_7cf53_2 (by decide) (fun c3 => ?_) (fun c3 => ?_)
  · skip
    have c3 := i_lt (Eq.refl p1.toInt) (Eq.refl p0.toInt) c3
    refine lv_iload_n hx hb dJ9_min_7cf53_9 rfl (lv_at hl 1 rfl) ?_
    refine W.widen (k := 0) (n := 0) (Nat.le_of_ble_eq_true rfl) (Nat.le_of_ble_eq_true rfl) ?_
    exact W.iret (v := p1) hx hb hr (fun t ht hW => ⟨⟨p1, rfl, ⟨(show (p1.toInt ≤ p0.toInt ∧ p1.toInt ≤ p1.toInt) by omega), (show (p1.toInt = p0.toInt ∨ p1.toInt = p1.toInt) by omega)⟩, CB.nil⟩, hS.F ht⟩) hS.2.2 dJ9_min_7cf53_10
  · skip
    have c3 := i_nlt (Eq.refl p1.toInt) (Eq.refl p0.toInt) c3
    refine lv_iload_n hx hb dJ9_min_7cf53_5 rfl (lv_at hl 0 rfl) ?_
    refine lv_goto (tgt := 10) hx hb dJ9_min_7cf53_6 (by decide) ?_
    refine W.widen (k := 0) (n := 0) (Nat.le_of_ble_eq_true rfl) (Nat.le_of_ble_eq_true rfl) ?_
    exact W.iret (v := p0) hx hb hr (fun t ht hW => ⟨⟨p0, rfl, ⟨(show (p0.toInt ≤ p0.toInt ∧ p0.toInt ≤ p1.toInt) by omega), (show (p0.toInt = p0.toInt ∨ p0.toInt = p1.toInt) by omega)⟩, CB.nil⟩, hS.F ht⟩) hS.2.2 dJ9_min_7cf53_10
set_option maxHeartbeats 4000000 in
set_option maxRecDepth 100000 in
theorem x_J9_max_f86c9 (l : Launch) (D : va_G) (Y : Nat → ClassId) (Z : Nat → Nat) (sz : Nat)  (p0 : Int64) (p1 : Int64) : Met l yJ9_max_f86c9 (.code yJ9_max_f86c9 cJ9_max_f86c9 4 (some .long) :: GW) ({ frames := 0, cells := 0, slots := 0, locals := 0 }) (va_Pc [.long p0, .long p1] (CP D Y Z [] sz)) (QG (S := Int64) (fun u => some (.long u)) (fun u => (p0.toInt ≤ u.toInt ∧ p1.toInt ≤ u.toInt) ∧ (u.toInt = p0.toInt ∨ u.toInt = p1.toInt)) (fun u => CB D [] (va_A [] sz)) (va_A [] sz)) 0 0 (va_A [] sz) := by
  refine met_P (cc := cJ9_max_f86c9) (maxL := 4) (ret := (some .long)) (by decide +kernel) rfl ?_
  intro p e s m args below meth c s₁ B hml hv
  obtain ⟨rfl, hsz, hP, hKN, hD0⟩ := hv
  have hx := B.exec
  have hb := B.bytes
  have hr := B.returns
  have hts := atoms_spec (ws := .code yJ9_max_f86c9 cJ9_max_f86c9 4 (some .long) :: GW) B.pre
  have hg : ∀ w ∈ GW, w.before _ s = true := fun w h => hts w (List.mem_cons_of_mem _ h)
  have hown : s.vm.findClass RJ9 = some m.cls := findClass_of_methodNamed B.named
  have hlocks := B.notSynchronized
  subst hsz
  have hD := hD0.self (sz := s.heap.size)
  generalize hAe : va_A [] s.heap.size = A at hD ⊢
  have hA : ∀ q : Nat, s.heap.size ≤ q → A q := fun q h => by rw [← hAe]; exact Or.inr h
  clear hAe hD0 hts B
  have hl := lv_entry ([.long p0, .long p1]) (n := 4) (Nat.le_of_ble_eq_true rfl)
  rw [lg_entry_eq]
  generalize (lg_sl ([.long p0, .long p1]) ++ List.replicate (4 - (lg_sl ([.long p0, .long p1])).length) Slot.unset).toArray = ls at hl ⊢
  have hl : lv_has ls 4 [(0, .long p0), (2, .long p1)] := hl
  refine w_start (A0 := A) hP (fun H locs hP hS => ?_)
  refine lv_lload_n hx hb dJ9_max_f86c9_0 rfl (lv_at hl 0 rfl) ?_
  refine lv_lload_n hx hb dJ9_max_f86c9_1 rfl (lv_at hl 1 rfl) ?_
  refine W.lcmp hx hb dJ9_max_f86c9_2 ?_
  refine lv_if_lt (tgt := 10) hx hb dJ9_max_f86c9_3 (by decide) (fun c1 => ?_) (fun c1 => ?_)
  · skip
    have c1 := l_lt (Eq.refl p0.toInt) (Eq.refl p1.toInt) c1
    refine lv_lload_n hx hb dJ9_max_f86c9_10 rfl (lv_at hl 1 rfl) ?_
    refine W.widen (k := 0) (n := 0) (Nat.le_of_ble_eq_true rfl) (Nat.le_of_ble_eq_true rfl) ?_
    exact W.lret (v := p1) hx hb hr (fun t ht hW => ⟨⟨p1, rfl, ⟨(show (p0.toInt ≤ p1.toInt ∧ p1.toInt ≤ p1.toInt) by omega), (show (p1.toInt = p0.toInt ∨ p1.toInt = p1.toInt) by omega)⟩, CB.nil⟩, hS.F ht⟩) hS.2.2 dJ9_max_f86c9_11
  · skip
    have c1 := l_nlt (Eq.refl p0.toInt) (Eq.refl p1.toInt) c1
    refine lv_lload_n hx hb dJ9_max_f86c9_6 rfl (lv_at hl 0 rfl) ?_
    refine lv_goto (tgt := 11) hx hb dJ9_max_f86c9_7 (by decide) ?_
    refine W.widen (k := 0) (n := 0) (Nat.le_of_ble_eq_true rfl) (Nat.le_of_ble_eq_true rfl) ?_
    exact W.lret (v := p0) hx hb hr (fun t ht hW => ⟨⟨p0, rfl, ⟨(show (p0.toInt ≤ p0.toInt ∧ p1.toInt ≤ p0.toInt) by omega), (show (p0.toInt = p0.toInt ∨ p0.toInt = p1.toInt) by omega)⟩, CB.nil⟩, hS.F ht⟩) hS.2.2 dJ9_max_f86c9_11
set_option maxHeartbeats 4000000 in
set_option maxRecDepth 100000 in
theorem x_J9_min_f86c9 (l : Launch) (D : va_G) (Y : Nat → ClassId) (Z : Nat → Nat) (sz : Nat)  (p0 : Int64) (p1 : Int64) : Met l yJ9_min_f86c9 (.code yJ9_min_f86c9 cJ9_min_f86c9 4 (some .long) :: GW) ({ frames := 0, cells := 0, slots := 0, locals := 0 }) (va_Pc [.long p0, .long p1] (CP D Y Z [] sz)) (QG (S := Int64) (fun u => some (.long u)) (fun u => (u.toInt ≤ p0.toInt ∧ u.toInt ≤ p1.toInt) ∧ (u.toInt = p0.toInt ∨ u.toInt = p1.toInt)) (fun u => CB D [] (va_A [] sz)) (va_A [] sz)) 0 0 (va_A [] sz) := by
  refine met_P (cc := cJ9_min_f86c9) (maxL := 4) (ret := (some .long)) (by decide +kernel) rfl ?_
  intro p e s m args below meth c s₁ B hml hv
  obtain ⟨rfl, hsz, hP, hKN, hD0⟩ := hv
  have hx := B.exec
  have hb := B.bytes
  have hr := B.returns
  have hts := atoms_spec (ws := .code yJ9_min_f86c9 cJ9_min_f86c9 4 (some .long) :: GW) B.pre
  have hg : ∀ w ∈ GW, w.before _ s = true := fun w h => hts w (List.mem_cons_of_mem _ h)
  have hown : s.vm.findClass RJ9 = some m.cls := findClass_of_methodNamed B.named
  have hlocks := B.notSynchronized
  subst hsz
  have hD := hD0.self (sz := s.heap.size)
  generalize hAe : va_A [] s.heap.size = A at hD ⊢
  have hA : ∀ q : Nat, s.heap.size ≤ q → A q := fun q h => by rw [← hAe]; exact Or.inr h
  clear hAe hD0 hts B
  have hl := lv_entry ([.long p0, .long p1]) (n := 4) (Nat.le_of_ble_eq_true rfl)
  rw [lg_entry_eq]
  generalize (lg_sl ([.long p0, .long p1]) ++ List.replicate (4 - (lg_sl ([.long p0, .long p1])).length) Slot.unset).toArray = ls at hl ⊢
  have hl : lv_has ls 4 [(0, .long p0), (2, .long p1)] := hl
  refine w_start (A0 := A) hP (fun H locs hP hS => ?_)
  refine lv_lload_n hx hb dJ9_min_f86c9_0 rfl (lv_at hl 0 rfl) ?_
  refine lv_lload_n hx hb dJ9_min_f86c9_1 rfl (lv_at hl 1 rfl) ?_
  refine W.lcmp hx hb dJ9_min_f86c9_2 ?_
  refine lv_if_gt (tgt := 10) hx hb dJ9_min_f86c9_3 (by decide) (fun c1 => ?_) (fun c1 => ?_)
  · skip
    have c1 := l_gt (Eq.refl p0.toInt) (Eq.refl p1.toInt) c1
    refine lv_lload_n hx hb dJ9_min_f86c9_10 rfl (lv_at hl 1 rfl) ?_
    refine W.widen (k := 0) (n := 0) (Nat.le_of_ble_eq_true rfl) (Nat.le_of_ble_eq_true rfl) ?_
    exact W.lret (v := p1) hx hb hr (fun t ht hW => ⟨⟨p1, rfl, ⟨(show (p1.toInt ≤ p0.toInt ∧ p1.toInt ≤ p1.toInt) by omega), (show (p1.toInt = p0.toInt ∨ p1.toInt = p1.toInt) by omega)⟩, CB.nil⟩, hS.F ht⟩) hS.2.2 dJ9_min_f86c9_11
  · skip
    have c1 := l_ngt (Eq.refl p0.toInt) (Eq.refl p1.toInt) c1
    refine lv_lload_n hx hb dJ9_min_f86c9_6 rfl (lv_at hl 0 rfl) ?_
    refine lv_goto (tgt := 11) hx hb dJ9_min_f86c9_7 (by decide) ?_
    refine W.widen (k := 0) (n := 0) (Nat.le_of_ble_eq_true rfl) (Nat.le_of_ble_eq_true rfl) ?_
    exact W.lret (v := p0) hx hb hr (fun t ht hW => ⟨⟨p0, rfl, ⟨(show (p0.toInt ≤ p0.toInt ∧ p0.toInt ≤ p1.toInt) by omega), (show (p0.toInt = p0.toInt ∨ p0.toInt = p1.toInt) by omega)⟩, CB.nil⟩, hS.F ht⟩) hS.2.2 dJ9_min_f86c9_11
set_option maxHeartbeats 4000000 in
set_option maxRecDepth 100000 in
theorem x_J9_abs_0f7a4 (l : Launch) (D : va_G) (Y : Nat → ClassId) (Z : Nat → Nat) (sz : Nat)  (p0 : Int32) : Met l yJ9_abs_0f7a4 (.code yJ9_abs_0f7a4 cJ9_abs_0f7a4 1 (some .int) :: GW) ({ frames := 0, cells := 0, slots := 0, locals := 0 }) (va_Pc [.int p0] (CP D Y Z [] sz)) (QG (S := Int32) (fun u => some (.int u)) (fun u => True) (fun u => CB D [] (va_A [] sz)) (va_A [] sz)) 0 0 (va_A [] sz) := by
  refine met_P (cc := cJ9_abs_0f7a4) (maxL := 1) (ret := (some .int)) (by decide +kernel) rfl ?_
  intro p e s m args below meth c s₁ B hml hv
  obtain ⟨rfl, hsz, hP, hKN, hD0⟩ := hv
  have hx := B.exec
  have hb := B.bytes
  have hr := B.returns
  have hts := atoms_spec (ws := .code yJ9_abs_0f7a4 cJ9_abs_0f7a4 1 (some .int) :: GW) B.pre
  have hg : ∀ w ∈ GW, w.before _ s = true := fun w h => hts w (List.mem_cons_of_mem _ h)
  have hown : s.vm.findClass RJ9 = some m.cls := findClass_of_methodNamed B.named
  have hlocks := B.notSynchronized
  subst hsz
  have hD := hD0.self (sz := s.heap.size)
  generalize hAe : va_A [] s.heap.size = A at hD ⊢
  have hA : ∀ q : Nat, s.heap.size ≤ q → A q := fun q h => by rw [← hAe]; exact Or.inr h
  clear hAe hD0 hts B
  have hl := lv_entry ([.int p0]) (n := 1) (Nat.le_of_ble_eq_true rfl)
  rw [lg_entry_eq]
  generalize (lg_sl ([.int p0]) ++ List.replicate (1 - (lg_sl ([.int p0])).length) Slot.unset).toArray = ls at hl ⊢
  have hl : lv_has ls 1 [(0, .int p0)] := hl
  refine w_start (A0 := A) hP (fun H locs hP hS => ?_)
  refine lv_iload_n hx hb dJ9_abs_0f7a4_0 rfl (lv_at hl 0 rfl) ?_
  have j1 := rgI p0
  refine lv_if_ge (tgt := 9) hx hb dJ9_abs_0f7a4_1 (by decide) (fun c2 => ?_) (fun c2 => ?_)
  · skip
    have c2 := i_le (show (0 : Int32).toInt = 0 by decide) (Eq.refl p0.toInt) c2
    refine lv_iload_n hx hb dJ9_abs_0f7a4_9 rfl (lv_at hl 0 rfl) ?_
    refine W.widen (k := 0) (n := 0) (Nat.le_of_ble_eq_true rfl) (Nat.le_of_ble_eq_true rfl) ?_
    exact W.iret (v := p0) hx hb hr (fun t ht hW => ⟨⟨p0, rfl, trivial, CB.nil⟩, hS.F ht⟩) hS.2.2 dJ9_abs_0f7a4_10
  · skip
    have c2 := i_nle (show (0 : Int32).toInt = 0 by decide) (Eq.refl p0.toInt) c2
    refine lv_iload_n hx hb dJ9_abs_0f7a4_4 rfl (lv_at hl 0 rfl) ?_
    refine lv_ineg hx hb dJ9_abs_0f7a4_5 ?_
    refine lv_topi (fun v3 ev3 => ?_)
    refine lv_goto (tgt := 10) hx hb dJ9_abs_0f7a4_6 (by decide) ?_
    refine W.widen (k := 0) (n := 0) (Nat.le_of_ble_eq_true rfl) (Nat.le_of_ble_eq_true rfl) ?_
    exact W.iret (v := v3) hx hb hr (fun t ht hW => ⟨⟨v3, rfl, trivial, CB.nil⟩, hS.F ht⟩) hS.2.2 dJ9_abs_0f7a4_10
set_option maxHeartbeats 4000000 in
set_option maxRecDepth 100000 in
theorem x_J9_floorDiv_7cf53 (l : Launch) (D : va_G) (Y : Nat → ClassId) (Z : Nat → Nat) (sz : Nat)  (p0 : Int32) (p1 : Int32) (hp0 : (p1.toInt ≠ 0)) : Met l yJ9_floorDiv_7cf53 (.code yJ9_floorDiv_7cf53 cJ9_floorDiv_7cf53 3 (some .int) :: GW) ({ frames := 0, cells := 0, slots := 0, locals := 0 }) (va_Pc [.int p0, .int p1] (CP D Y Z [] sz)) (QG (S := Int32) (fun u => some (.int u)) (fun u => True) (fun u => CB D [] (va_A [] sz)) (va_A [] sz)) 0 0 (va_A [] sz) := by
  refine met_P (cc := cJ9_floorDiv_7cf53) (maxL := 3) (ret := (some .int)) (by decide +kernel) rfl ?_
  intro p e s m args below meth c s₁ B hml hv
  obtain ⟨rfl, hsz, hP, hKN, hD0⟩ := hv
  have hx := B.exec
  have hb := B.bytes
  have hr := B.returns
  have hts := atoms_spec (ws := .code yJ9_floorDiv_7cf53 cJ9_floorDiv_7cf53 3 (some .int) :: GW) B.pre
  have hg : ∀ w ∈ GW, w.before _ s = true := fun w h => hts w (List.mem_cons_of_mem _ h)
  have hown : s.vm.findClass RJ9 = some m.cls := findClass_of_methodNamed B.named
  have hlocks := B.notSynchronized
  subst hsz
  have hD := hD0.self (sz := s.heap.size)
  generalize hAe : va_A [] s.heap.size = A at hD ⊢
  have hA : ∀ q : Nat, s.heap.size ≤ q → A q := fun q h => by rw [← hAe]; exact Or.inr h
  clear hAe hD0 hts B
  have hl := lv_entry ([.int p0, .int p1]) (n := 3) (Nat.le_of_ble_eq_true rfl)
  rw [lg_entry_eq]
  generalize (lg_sl ([.int p0, .int p1]) ++ List.replicate (3 - (lg_sl ([.int p0, .int p1])).length) Slot.unset).toArray = ls at hl ⊢
  have hl : lv_has ls 3 [(0, .int p0), (1, .int p1)] := hl
  refine w_start (A0 := A) hP (fun H locs hP hS => ?_)
  refine lv_iload_n hx hb dJ9_floorDiv_7cf53_0 rfl (lv_at hl 0 rfl) ?_
  refine lv_iload_n hx hb dJ9_floorDiv_7cf53_1 rfl (lv_at hl 1 rfl) ?_
  refine lv_idiv hx hb dJ9_floorDiv_7cf53_2 (i_nz (Eq.refl p1.toInt) (by omega)) ?_
  refine lv_topi (fun v1 ev1 => ?_)
  refine lv_istore_n (lv' := [(2, .int v1), (0, .int p0), (1, .int p1)]) hx hb dJ9_floorDiv_7cf53_3 rfl hl (by decide) rfl (fun ls hl => ?_)
  refine lv_iload_n hx hb dJ9_floorDiv_7cf53_4 rfl (lv_at hl 1 rfl) ?_
  refine lv_iload_n hx hb dJ9_floorDiv_7cf53_5 rfl (lv_at hl 2 rfl) ?_
  refine lv_ixor hx hb dJ9_floorDiv_7cf53_6 ?_
  refine lv_topi (fun v2 ev2 => ?_)
  have j3 := rgI v2
  refine lv_if_ge (tgt := 21) hx hb dJ9_floorDiv_7cf53_7 (by decide) (fun c4 => ?_) (fun c4 => ?_)
  · skip
    have c4 := i_le (show (0 : Int32).toInt = 0 by decide) (Eq.refl v2.toInt) c4
    refine lv_iload_n hx hb dJ9_floorDiv_7cf53_21 rfl (lv_at hl 0 rfl) ?_
    refine W.widen (k := 0) (n := 0) (Nat.le_of_ble_eq_true rfl) (Nat.le_of_ble_eq_true rfl) ?_
    exact W.iret (v := v1) hx hb hr (fun t ht hW => ⟨⟨v1, rfl, trivial, CB.nil⟩, hS.F ht⟩) hS.2.2 dJ9_floorDiv_7cf53_22
  · skip
    have c4 := i_nle (show (0 : Int32).toInt = 0 by decide) (Eq.refl v2.toInt) c4
    refine lv_iload_n hx hb dJ9_floorDiv_7cf53_10 rfl (lv_at hl 0 rfl) ?_
    refine lv_iload_n hx hb dJ9_floorDiv_7cf53_11 rfl (lv_at hl 2 rfl) ?_
    refine lv_imul hx hb dJ9_floorDiv_7cf53_12 ?_
    refine lv_topi (fun v5 ev5 => ?_)
    refine lv_iload_n hx hb dJ9_floorDiv_7cf53_13 rfl (lv_at hl 1 rfl) ?_
    have j6 := rgI v5
    have j7 := rgI p0
    refine lv_icmp_eq (tgt := 21) hx hb dJ9_floorDiv_7cf53_14 (by decide) (fun c8 => ?_) (fun c8 => ?_)
    · skip
      have c8 := i_eq (Eq.refl v5.toInt) (Eq.refl p0.toInt) c8
      refine lv_iload_n hx hb dJ9_floorDiv_7cf53_21 rfl (lv_at hl 0 rfl) ?_
      refine W.widen (k := 0) (n := 0) (Nat.le_of_ble_eq_true rfl) (Nat.le_of_ble_eq_true rfl) ?_
      exact W.iret (v := v1) hx hb hr (fun t ht hW => ⟨⟨v1, rfl, trivial, CB.nil⟩, hS.F ht⟩) hS.2.2 dJ9_floorDiv_7cf53_22
    · skip
      have c8 := i_ne (Eq.refl v5.toInt) (Eq.refl p0.toInt) c8
      refine lv_iload_n hx hb dJ9_floorDiv_7cf53_17 rfl (lv_at hl 0 rfl) ?_
      refine lv_iconst (v := 1) hx hb dJ9_floorDiv_7cf53_18 (by decide) ?_
      refine lv_isub hx hb dJ9_floorDiv_7cf53_19 ?_
      refine lv_topi (fun v9 ev9 => ?_)
      refine W.widen (k := 0) (n := 0) (Nat.le_of_ble_eq_true rfl) (Nat.le_of_ble_eq_true rfl) ?_
      exact W.iret (v := v9) hx hb hr (fun t ht hW => ⟨⟨v9, rfl, trivial, CB.nil⟩, hS.F ht⟩) hS.2.2 dJ9_floorDiv_7cf53_20
set_option maxHeartbeats 4000000 in
set_option maxRecDepth 100000 in
theorem x_J9_floorDiv_f86c9 (l : Launch) (D : va_G) (Y : Nat → ClassId) (Z : Nat → Nat) (sz : Nat)  (p0 : Int64) (p1 : Int64) (hp0 : (p1.toInt ≠ 0)) : Met l yJ9_floorDiv_f86c9 (.code yJ9_floorDiv_f86c9 cJ9_floorDiv_f86c9 6 (some .long) :: GW) ({ frames := 0, cells := 0, slots := 0, locals := 0 }) (va_Pc [.long p0, .long p1] (CP D Y Z [] sz)) (QG (S := Int64) (fun u => some (.long u)) (fun u => True) (fun u => CB D [] (va_A [] sz)) (va_A [] sz)) 0 0 (va_A [] sz) := by
  refine met_P (cc := cJ9_floorDiv_f86c9) (maxL := 6) (ret := (some .long)) (by decide +kernel) rfl ?_
  intro p e s m args below meth c s₁ B hml hv
  obtain ⟨rfl, hsz, hP, hKN, hD0⟩ := hv
  have hx := B.exec
  have hb := B.bytes
  have hr := B.returns
  have hts := atoms_spec (ws := .code yJ9_floorDiv_f86c9 cJ9_floorDiv_f86c9 6 (some .long) :: GW) B.pre
  have hg : ∀ w ∈ GW, w.before _ s = true := fun w h => hts w (List.mem_cons_of_mem _ h)
  have hown : s.vm.findClass RJ9 = some m.cls := findClass_of_methodNamed B.named
  have hlocks := B.notSynchronized
  subst hsz
  have hD := hD0.self (sz := s.heap.size)
  generalize hAe : va_A [] s.heap.size = A at hD ⊢
  have hA : ∀ q : Nat, s.heap.size ≤ q → A q := fun q h => by rw [← hAe]; exact Or.inr h
  clear hAe hD0 hts B
  have hl := lv_entry ([.long p0, .long p1]) (n := 6) (Nat.le_of_ble_eq_true rfl)
  rw [lg_entry_eq]
  generalize (lg_sl ([.long p0, .long p1]) ++ List.replicate (6 - (lg_sl ([.long p0, .long p1])).length) Slot.unset).toArray = ls at hl ⊢
  have hl : lv_has ls 6 [(0, .long p0), (2, .long p1)] := hl
  refine w_start (A0 := A) hP (fun H locs hP hS => ?_)
  refine lv_lload_n hx hb dJ9_floorDiv_f86c9_0 rfl (lv_at hl 0 rfl) ?_
  refine lv_lload_n hx hb dJ9_floorDiv_f86c9_1 rfl (lv_at hl 1 rfl) ?_
  refine lv_ldiv hx hb dJ9_floorDiv_f86c9_2 (l_nz (Eq.refl p1.toInt) (by omega)) ?_
  refine lv_topl (fun v1 ev1 => ?_)
  refine lv_lstore (lv' := [(4, .long v1), (0, .long p0), (2, .long p1)]) hx hb dJ9_floorDiv_f86c9_3 hl (by decide) rfl (fun ls hl => ?_)
  refine lv_lload_n hx hb dJ9_floorDiv_f86c9_5 rfl (lv_at hl 1 rfl) ?_
  refine lv_lload_n hx hb dJ9_floorDiv_f86c9_6 rfl (lv_at hl 2 rfl) ?_
  refine lv_lxor hx hb dJ9_floorDiv_f86c9_7 ?_
  refine lv_topl (fun v2 ev2 => ?_)
  refine lv_lconst (v := 0) hx hb dJ9_floorDiv_f86c9_8 (by decide) ?_
  refine W.lcmp hx hb dJ9_floorDiv_f86c9_9 ?_
  refine lv_if_ge (tgt := 27) hx hb dJ9_floorDiv_f86c9_10 (by decide) (fun c3 => ?_) (fun c3 => ?_)
  · skip
    have c3 := l_ge (Eq.refl v2.toInt) (show (0 : Int64).toInt = 0 by decide) c3
    refine lv_lload hx hb dJ9_floorDiv_f86c9_27 (lv_at hl 0 rfl) ?_
    refine W.widen (k := 0) (n := 0) (Nat.le_of_ble_eq_true rfl) (Nat.le_of_ble_eq_true rfl) ?_
    exact W.lret (v := v1) hx hb hr (fun t ht hW => ⟨⟨v1, rfl, trivial, CB.nil⟩, hS.F ht⟩) hS.2.2 dJ9_floorDiv_f86c9_29
  · skip
    have c3 := l_nge (Eq.refl v2.toInt) (show (0 : Int64).toInt = 0 by decide) c3
    refine lv_lload hx hb dJ9_floorDiv_f86c9_13 (lv_at hl 0 rfl) ?_
    refine lv_lload_n hx hb dJ9_floorDiv_f86c9_15 rfl (lv_at hl 2 rfl) ?_
    refine lv_lmul hx hb dJ9_floorDiv_f86c9_16 ?_
    refine lv_topl (fun v4 ev4 => ?_)
    refine lv_lload_n hx hb dJ9_floorDiv_f86c9_17 rfl (lv_at hl 1 rfl) ?_
    refine W.lcmp hx hb dJ9_floorDiv_f86c9_18 ?_
    refine lv_if_eq (tgt := 27) hx hb dJ9_floorDiv_f86c9_19 (by decide) (fun c5 => ?_) (fun c5 => ?_)
    · skip
      have c5 := l_eq (Eq.refl v4.toInt) (Eq.refl p0.toInt) c5
      refine lv_lload hx hb dJ9_floorDiv_f86c9_27 (lv_at hl 0 rfl) ?_
      refine W.widen (k := 0) (n := 0) (Nat.le_of_ble_eq_true rfl) (Nat.le_of_ble_eq_true rfl) ?_
      exact W.lret (v := v1) hx hb hr (fun t ht hW => ⟨⟨v1, rfl, trivial, CB.nil⟩, hS.F ht⟩) hS.2.2 dJ9_floorDiv_f86c9_29
    · skip
      have c5 := l_ne (Eq.refl v4.toInt) (Eq.refl p0.toInt) c5
      refine lv_lload hx hb dJ9_floorDiv_f86c9_22 (lv_at hl 0 rfl) ?_
      refine lv_lconst (v := 1) hx hb dJ9_floorDiv_f86c9_24 (by decide) ?_
      refine lv_lsub hx hb dJ9_floorDiv_f86c9_25 ?_
      refine lv_topl (fun v6 ev6 => ?_)
      refine W.widen (k := 0) (n := 0) (Nat.le_of_ble_eq_true rfl) (Nat.le_of_ble_eq_true rfl) ?_
      exact W.lret (v := v6) hx hb hr (fun t ht hW => ⟨⟨v6, rfl, trivial, CB.nil⟩, hS.F ht⟩) hS.2.2 dJ9_floorDiv_f86c9_26
set_option maxHeartbeats 4000000 in
set_option maxRecDepth 100000 in
theorem x_J9_floorMod_7cf53 (l : Launch) (D : va_G) (Y : Nat → ClassId) (Z : Nat → Nat) (sz : Nat)  (p0 : Int32) (p1 : Int32) (hp0 : (p1.toInt ≠ 0)) : Met l yJ9_floorMod_7cf53 (.code yJ9_floorMod_7cf53 cJ9_floorMod_7cf53 3 (some .int) :: GW) ({ frames := 0, cells := 0, slots := 0, locals := 0 }) (va_Pc [.int p0, .int p1] (CP D Y Z [] sz)) (QG (S := Int32) (fun u => some (.int u)) (fun u => True) (fun u => CB D [] (va_A [] sz)) (va_A [] sz)) 0 0 (va_A [] sz) := by
  refine met_P (cc := cJ9_floorMod_7cf53) (maxL := 3) (ret := (some .int)) (by decide +kernel) rfl ?_
  intro p e s m args below meth c s₁ B hml hv
  obtain ⟨rfl, hsz, hP, hKN, hD0⟩ := hv
  have hx := B.exec
  have hb := B.bytes
  have hr := B.returns
  have hts := atoms_spec (ws := .code yJ9_floorMod_7cf53 cJ9_floorMod_7cf53 3 (some .int) :: GW) B.pre
  have hg : ∀ w ∈ GW, w.before _ s = true := fun w h => hts w (List.mem_cons_of_mem _ h)
  have hown : s.vm.findClass RJ9 = some m.cls := findClass_of_methodNamed B.named
  have hlocks := B.notSynchronized
  subst hsz
  have hD := hD0.self (sz := s.heap.size)
  generalize hAe : va_A [] s.heap.size = A at hD ⊢
  have hA : ∀ q : Nat, s.heap.size ≤ q → A q := fun q h => by rw [← hAe]; exact Or.inr h
  clear hAe hD0 hts B
  have hl := lv_entry ([.int p0, .int p1]) (n := 3) (Nat.le_of_ble_eq_true rfl)
  rw [lg_entry_eq]
  generalize (lg_sl ([.int p0, .int p1]) ++ List.replicate (3 - (lg_sl ([.int p0, .int p1])).length) Slot.unset).toArray = ls at hl ⊢
  have hl : lv_has ls 3 [(0, .int p0), (1, .int p1)] := hl
  refine w_start (A0 := A) hP (fun H locs hP hS => ?_)
  refine lv_iload_n hx hb dJ9_floorMod_7cf53_0 rfl (lv_at hl 0 rfl) ?_
  refine lv_iload_n hx hb dJ9_floorMod_7cf53_1 rfl (lv_at hl 1 rfl) ?_
  refine lv_irem hx hb dJ9_floorMod_7cf53_2 (i_nz (Eq.refl p1.toInt) (by omega)) ?_
  refine lv_topi (fun v1 ev1 => ?_)
  refine lv_istore_n (lv' := [(2, .int v1), (0, .int p0), (1, .int p1)]) hx hb dJ9_floorMod_7cf53_3 rfl hl (by decide) rfl (fun ls hl => ?_)
  refine lv_iload_n hx hb dJ9_floorMod_7cf53_4 rfl (lv_at hl 1 rfl) ?_
  refine lv_iload_n hx hb dJ9_floorMod_7cf53_5 rfl (lv_at hl 2 rfl) ?_
  refine lv_ixor hx hb dJ9_floorMod_7cf53_6 ?_
  refine lv_topi (fun v2 ev2 => ?_)
  have j3 := rgI v2
  refine lv_if_ge (tgt := 18) hx hb dJ9_floorMod_7cf53_7 (by decide) (fun c4 => ?_) (fun c4 => ?_)
  · skip
    have c4 := i_le (show (0 : Int32).toInt = 0 by decide) (Eq.refl v2.toInt) c4
    refine lv_iload_n hx hb dJ9_floorMod_7cf53_18 rfl (lv_at hl 0 rfl) ?_
    refine W.widen (k := 0) (n := 0) (Nat.le_of_ble_eq_true rfl) (Nat.le_of_ble_eq_true rfl) ?_
    exact W.iret (v := v1) hx hb hr (fun t ht hW => ⟨⟨v1, rfl, trivial, CB.nil⟩, hS.F ht⟩) hS.2.2 dJ9_floorMod_7cf53_19
  · skip
    have c4 := i_nle (show (0 : Int32).toInt = 0 by decide) (Eq.refl v2.toInt) c4
    refine lv_iload_n hx hb dJ9_floorMod_7cf53_10 rfl (lv_at hl 0 rfl) ?_
    have j5 := rgI v1
    refine lv_if_eq (tgt := 18) hx hb dJ9_floorMod_7cf53_11 (by decide) (fun c6 => ?_) (fun c6 => ?_)
    · skip
      have c6 := i_eq (Eq.refl v1.toInt) (show (0 : Int32).toInt = 0 by decide) c6
      refine lv_iload_n hx hb dJ9_floorMod_7cf53_18 rfl (lv_at hl 0 rfl) ?_
      refine W.widen (k := 0) (n := 0) (Nat.le_of_ble_eq_true rfl) (Nat.le_of_ble_eq_true rfl) ?_
      exact W.iret (v := v1) hx hb hr (fun t ht hW => ⟨⟨v1, rfl, trivial, CB.nil⟩, hS.F ht⟩) hS.2.2 dJ9_floorMod_7cf53_19
    · skip
      have c6 := i_ne (Eq.refl v1.toInt) (show (0 : Int32).toInt = 0 by decide) c6
      refine lv_iload_n hx hb dJ9_floorMod_7cf53_14 rfl (lv_at hl 0 rfl) ?_
      refine lv_iload_n hx hb dJ9_floorMod_7cf53_15 rfl (lv_at hl 2 rfl) ?_
      refine lv_iadd hx hb dJ9_floorMod_7cf53_16 ?_
      refine lv_topi (fun v7 ev7 => ?_)
      refine W.widen (k := 0) (n := 0) (Nat.le_of_ble_eq_true rfl) (Nat.le_of_ble_eq_true rfl) ?_
      exact W.iret (v := v7) hx hb hr (fun t ht hW => ⟨⟨v7, rfl, trivial, CB.nil⟩, hS.F ht⟩) hS.2.2 dJ9_floorMod_7cf53_17
set_option maxHeartbeats 4000000 in
set_option maxRecDepth 100000 in
theorem x_X10_held (l : Launch) (D : va_G) (Y : Nat → ClassId) (Z : Nat → Nat) (sz : Nat)  (p0 : Int64) (p1 : Int64) (p2 : Int64) : Met l yX10_held (.code yX10_held cX10_held 6 (some .long) :: GW) ({ frames := 1, cells := 0, slots := 0, locals := 23 }) (va_Pc [.long p0, .long p1, .long p2] (CP D Y Z [] sz)) (QG (S := Int64) (fun u => some (.long u)) (fun u => (p1.toInt ≤ p2.toInt → (p1.toInt ≤ u.toInt ∧ u.toInt ≤ p2.toInt))) (fun u => CB D [] (va_A [] sz)) (va_A [] sz)) 0 0 (va_A [] sz) := by
  refine Met.ofW (cc := cX10_held) (maxL := 6) (ret := (some .long)) (by decide) rfl ?_
  intro p e s m args below meth c s₁ B hml hv
  obtain ⟨rfl, hsz, hP, hKN, hD0⟩ := hv
  have hx := B.exec
  have hb := B.bytes
  have hr := B.returns
  have hts := atoms_spec (ws := .code yX10_held cX10_held 6 (some .long) :: GW) B.pre
  have hg : ∀ w ∈ GW, w.before _ s = true := fun w h => hts w (List.mem_cons_of_mem _ h)
  have hown : s.vm.findClass RX10 = some m.cls := findClass_of_methodNamed B.named
  have hlocks := B.notSynchronized
  subst hsz
  have hD := hD0.self (sz := s.heap.size)
  generalize hAe : va_A [] s.heap.size = A at hD ⊢
  have hA : ∀ q : Nat, s.heap.size ≤ q → A q := fun q h => by rw [← hAe]; exact Or.inr h
  clear hAe hD0 hts B
  have hl := lv_entry ([.long p0, .long p1, .long p2]) (n := 6) (Nat.le_of_ble_eq_true rfl)
  rw [lg_entry_eq]
  generalize (lg_sl ([.long p0, .long p1, .long p2]) ++ List.replicate (6 - (lg_sl ([.long p0, .long p1, .long p2])).length) Slot.unset).toArray = ls at hl ⊢
  have hl : lv_has ls 6 [(0, .long p0), (2, .long p1), (4, .long p2)] := hl
  refine w_start (A0 := A) hP (fun H locs hP hS => ?_)
  refine lv_lload_n hx hb dX10_held_0 rfl (lv_at hl 1 rfl) ?_
  refine lv_lload hx hb dX10_held_1 (lv_at hl 2 rfl) ?_
  refine lv_lload_n hx hb dX10_held_3 rfl (lv_at hl 0 rfl) ?_
  refine cg0 (rn_S (As := [.long p2, .long p0]) (rest := [.long p1]) (x_J9_min_f86c9 l D Y Z H.size p2 p0) ⟨hx, hb, hml, hown, hg⟩ lk_X10_433 ⟨CP.blind, CP.at nilP hKN (nilD (A := fun _ => True))⟩ ⟨⟨rfl, rfl⟩, ⟨Nat.le_of_ble_eq_true rfl, Nat.le_of_ble_eq_true rfl⟩, ⟨(Nat.le_of_ble_eq_true rfl), (Nat.le_of_ble_eq_true rfl)⟩⟩ hl.1 rfl (Nat.le_of_ble_eq_true rfl) dX10_held_4) hP hS hA (fun u1 H locs hw2 hP hS => ?_)
  obtain ⟨hw4, hw5⟩ : (u1.toInt ≤ p2.toInt ∧ u1.toInt ≤ p0.toInt) ∧ (u1.toInt = p2.toInt ∨ u1.toInt = p0.toInt) := hw2
  refine W.eq (g2 := F0 m 7 ls [.long u1, .long p1]) rfl ?_
  refine cg0 (rn_S (As := [.long p1, .long u1]) (rest := []) (x_J9_max_f86c9 l D Y Z H.size p1 u1) ⟨hx, hb, hml, hown, hg⟩ lk_X10_439 ⟨CP.blind, CP.at nilP hKN (nilD (A := fun _ => True))⟩ ⟨⟨rfl, rfl⟩, ⟨Nat.le_of_ble_eq_true rfl, Nat.le_of_ble_eq_true rfl⟩, ⟨(Nat.le_of_ble_eq_true rfl), (Nat.le_of_ble_eq_true rfl)⟩⟩ hl.1 rfl (Nat.le_of_ble_eq_true rfl) dX10_held_7) hP hS hA (fun u6 H locs hw7 hP hS => ?_)
  obtain ⟨hw9, hw10⟩ : (p1.toInt ≤ u6.toInt ∧ u1.toInt ≤ u6.toInt) ∧ (u6.toInt = p1.toInt ∨ u6.toInt = u1.toInt) := hw7
  refine W.eq (g2 := F0 m 10 ls [.long u6]) rfl ?_
  refine W.widen (k := 0) (n := 0) (Nat.le_of_ble_eq_true rfl) (Nat.le_of_ble_eq_true rfl) ?_
  exact W.lret (v := u6) hx hb hr (fun t ht hW => ⟨⟨u6, rfl, ((show (p1.toInt ≤ p2.toInt → (p1.toInt ≤ u6.toInt ∧ u6.toInt ≤ p2.toInt)) by omega)), CB.nil⟩, hS.F ht⟩) hS.2.2 dX10_held_10
set_option maxHeartbeats 4000000 in
set_option maxRecDepth 100000 in
theorem x_X10_placeOf (l : Launch) (D : va_G) (Y : Nat → ClassId) (Z : Nat → Nat) (sz : Nat)  (p0 : Int32) (p1 : Int32) (p2 : Int32) : Met l yX10_placeOf (.code yX10_placeOf cX10_placeOf 4 (some .int) :: GW) ({ frames := 0, cells := 0, slots := 0, locals := 0 }) (va_Pc [.int p0, .int p1, .int p2] (CP D Y Z [] sz)) (QG (S := Int32) (fun u => some (.int u)) (fun u => (-1 ≤ u.toInt ∧ u.toInt ≤ 431)) (fun u => CB D [] (va_A [] sz)) (va_A [] sz)) 0 0 (va_A [] sz) := by
  refine Met.ofW (cc := cX10_placeOf) (maxL := 4) (ret := (some .int)) (by decide) rfl ?_
  intro p e s m args below meth c s₁ B hml hv
  obtain ⟨rfl, hsz, hP, hKN, hD0⟩ := hv
  have hx := B.exec
  have hb := B.bytes
  have hr := B.returns
  have hts := atoms_spec (ws := .code yX10_placeOf cX10_placeOf 4 (some .int) :: GW) B.pre
  have hg : ∀ w ∈ GW, w.before _ s = true := fun w h => hts w (List.mem_cons_of_mem _ h)
  have hown : s.vm.findClass RX10 = some m.cls := findClass_of_methodNamed B.named
  have hlocks := B.notSynchronized
  subst hsz
  have hD := hD0.self (sz := s.heap.size)
  generalize hAe : va_A [] s.heap.size = A at hD ⊢
  have hA : ∀ q : Nat, s.heap.size ≤ q → A q := fun q h => by rw [← hAe]; exact Or.inr h
  clear hAe hD0 hts B
  have hl := lv_entry ([.int p0, .int p1, .int p2]) (n := 4) (Nat.le_of_ble_eq_true rfl)
  rw [lg_entry_eq]
  generalize (lg_sl ([.int p0, .int p1, .int p2]) ++ List.replicate (4 - (lg_sl ([.int p0, .int p1, .int p2])).length) Slot.unset).toArray = ls at hl ⊢
  have hl : lv_has ls 4 [(0, .int p0), (1, .int p1), (2, .int p2)] := hl
  refine w_start (A0 := A) hP (fun H locs hP hS => ?_)
  refine lv_iload_n hx hb dX10_placeOf_0 rfl (lv_at hl 0 rfl) ?_
  refine lv_bipush (v := 12) hx hb dX10_placeOf_1 (by decide) ?_
  refine lv_imul hx hb dX10_placeOf_3 ?_
  refine lv_topi (fun v1 ev1 => ?_)
  refine lv_iload_n hx hb dX10_placeOf_4 rfl (lv_at hl 1 rfl) ?_
  refine lv_iadd hx hb dX10_placeOf_5 ?_
  refine lv_topi (fun v2 ev2 => ?_)
  refine lv_bipush (v := 6) hx hb dX10_placeOf_6 (by decide) ?_
  refine lv_imul hx hb dX10_placeOf_8 ?_
  refine lv_topi (fun v3 ev3 => ?_)
  refine lv_iload_n hx hb dX10_placeOf_9 rfl (lv_at hl 2 rfl) ?_
  refine lv_iadd hx hb dX10_placeOf_10 ?_
  refine lv_topi (fun v4 ev4 => ?_)
  refine lv_istore_n (lv' := [(3, .int v4), (0, .int p0), (1, .int p1), (2, .int p2)]) hx hb dX10_placeOf_11 rfl hl (by decide) rfl (fun ls hl => ?_)
  refine lv_iload_n hx hb dX10_placeOf_12 rfl (lv_at hl 0 rfl) ?_
  have j5 := rgI v4
  refine lv_if_lt (tgt := 23) hx hb dX10_placeOf_13 (by decide) (fun c6 => ?_) (fun c6 => ?_)
  · skip
    have c6 := i_lt (Eq.refl v4.toInt) (show (0 : Int32).toInt = 0 by decide) c6
    refine lv_iconst (v := (-1)) hx hb dX10_placeOf_23 (by decide) ?_
    refine lv_goto (tgt := 28) hx hb dX10_placeOf_24 (by decide) ?_
    refine W.widen (k := 0) (n := 0) (Nat.le_of_ble_eq_true rfl) (Nat.le_of_ble_eq_true rfl) ?_
    have zim1 : ((-1) : Int32).toInt = -1 := by decide
    exact W.iret (v := (-1)) hx hb hr (fun t ht hW => ⟨⟨((-1)), rfl, ((show (-1 ≤ ((-1) : Int32).toInt ∧ ((-1) : Int32).toInt ≤ 431) by omega)), CB.nil⟩, hS.F ht⟩) hS.2.2 dX10_placeOf_28
  · skip
    have c6 := i_nlt (Eq.refl v4.toInt) (show (0 : Int32).toInt = 0 by decide) c6
    refine lv_iload_n hx hb dX10_placeOf_16 rfl (lv_at hl 0 rfl) ?_
    refine lv_sipush (v := 432) hx hb dX10_placeOf_17 (by decide) ?_
    refine lv_icmp_lt (tgt := 27) hx hb dX10_placeOf_20 (by decide) (fun c7 => ?_) (fun c7 => ?_)
    · skip
      have c7 := i_lt (Eq.refl v4.toInt) (show (432 : Int32).toInt = 432 by decide) c7
      refine lv_iload_n hx hb dX10_placeOf_27 rfl (lv_at hl 0 rfl) ?_
      refine W.widen (k := 0) (n := 0) (Nat.le_of_ble_eq_true rfl) (Nat.le_of_ble_eq_true rfl) ?_
      exact W.iret (v := v4) hx hb hr (fun t ht hW => ⟨⟨v4, rfl, ((show (-1 ≤ v4.toInt ∧ v4.toInt ≤ 431) by omega)), CB.nil⟩, hS.F ht⟩) hS.2.2 dX10_placeOf_28
    · skip
      have c7 := i_nlt (Eq.refl v4.toInt) (show (432 : Int32).toInt = 432 by decide) c7
      refine lv_iconst (v := (-1)) hx hb dX10_placeOf_23 (by decide) ?_
      refine lv_goto (tgt := 28) hx hb dX10_placeOf_24 (by decide) ?_
      refine W.widen (k := 0) (n := 0) (Nat.le_of_ble_eq_true rfl) (Nat.le_of_ble_eq_true rfl) ?_
      have zim1 : ((-1) : Int32).toInt = -1 := by decide
      exact W.iret (v := (-1)) hx hb hr (fun t ht hW => ⟨⟨((-1)), rfl, ((show (-1 ≤ ((-1) : Int32).toInt ∧ ((-1) : Int32).toInt ≤ 431) by omega)), CB.nil⟩, hS.F ht⟩) hS.2.2 dX10_placeOf_28
set_option maxHeartbeats 4000000 in
set_option maxRecDepth 100000 in
theorem x_X10_partOf (l : Launch) (D : va_G) (Y : Nat → ClassId) (Z : Nat → Nat) (sz : Nat)  (p0 : Int32) (p1 : Int32) (p2 : Int32) : Met l yX10_partOf (.code yX10_partOf cX10_partOf 7 (some .int) :: GW) ({ frames := 0, cells := 0, slots := 0, locals := 0 }) (va_Pc [.int p0, .int p1, .int p2] (CP D Y Z [] sz)) (QG (S := Int32) (fun u => some (.int u)) (fun u => True) (fun u => CB D [] (va_A [] sz)) (va_A [] sz)) 0 0 (va_A [] sz) := by
  refine Met.ofW (cc := cX10_partOf) (maxL := 7) (ret := (some .int)) (by decide) rfl ?_
  intro p e s m args below meth c s₁ B hml hv
  obtain ⟨rfl, hsz, hP, hKN, hD0⟩ := hv
  have hx := B.exec
  have hb := B.bytes
  have hr := B.returns
  have hts := atoms_spec (ws := .code yX10_partOf cX10_partOf 7 (some .int) :: GW) B.pre
  have hg : ∀ w ∈ GW, w.before _ s = true := fun w h => hts w (List.mem_cons_of_mem _ h)
  have hown : s.vm.findClass RX10 = some m.cls := findClass_of_methodNamed B.named
  have hlocks := B.notSynchronized
  subst hsz
  have hD := hD0.self (sz := s.heap.size)
  generalize hAe : va_A [] s.heap.size = A at hD ⊢
  have hA : ∀ q : Nat, s.heap.size ≤ q → A q := fun q h => by rw [← hAe]; exact Or.inr h
  clear hAe hD0 hts B
  have hl := lv_entry ([.int p0, .int p1, .int p2]) (n := 7) (Nat.le_of_ble_eq_true rfl)
  rw [lg_entry_eq]
  generalize (lg_sl ([.int p0, .int p1, .int p2]) ++ List.replicate (7 - (lg_sl ([.int p0, .int p1, .int p2])).length) Slot.unset).toArray = ls at hl ⊢
  have hl : lv_has ls 7 [(0, .int p0), (1, .int p1), (2, .int p2)] := hl
  refine w_start (A0 := A) hP (fun H locs hP hS => ?_)
  refine lv_iload_n hx hb dX10_partOf_0 rfl (lv_at hl 1 rfl) ?_
  refine lv_istore_n (lv' := [(3, .int p1), (0, .int p0), (1, .int p1), (2, .int p2)]) hx hb dX10_partOf_1 rfl hl (by decide) rfl (fun ls hl => ?_)
  refine lv_iload_n hx hb dX10_partOf_2 rfl (lv_at hl 1 rfl) ?_
  refine lv_istore (lv' := [(4, .int p0), (3, .int p1), (0, .int p0), (1, .int p1), (2, .int p2)]) hx hb dX10_partOf_3 hl (by decide) rfl (fun ls hl => ?_)
  refine lv_iconst (v := 0) hx hb dX10_partOf_5 (by decide) ?_
  refine lv_istore (lv' := [(5, .int 0), (4, .int p0), (3, .int p1), (0, .int p0), (1, .int p1), (2, .int p2)]) hx hb dX10_partOf_6 hl (by decide) rfl (fun ls hl => ?_)
  have zi0 : (0 : Int32).toInt = 0 := by decide
  refine w_loop (σ := Int32 × Int32 × Int32) (fun xx H locs ls => match xx with | (v12, v13, v14) => va_P D vwCl [] H ∧ va_D A [] ∧ va_S A s.heap H locs ∧ lv_has ls 7 [(5, .int v12), (4, .int v13), (3, .int v14), (0, .int p0), (1, .int p1), (2, .int p2)] ∧ (0 ≤ v12.toInt ∧ v12.toInt ≤ 100)) (fun xx => match xx with | (v12, v13, v14) => (100 - v12.toInt).toNat) (0, p0, p1) ⟨hP, hD, hS, lv_sub hl [0, 1, 2, 3, 4, 5] rfl, by omega⟩ (fun xx H locs ls hI ih => ?_)
  obtain ⟨v12, v13, v14⟩ := xx
  obtain ⟨hP, hD, hS, hl, hq26⟩ := hI
  have ih27 := ih
  refine lv_iload hx hb dX10_partOf_8 (lv_at hl 0 rfl) ?_
  refine lv_bipush (v := 100) hx hb dX10_partOf_10 (by decide) ?_
  refine w_join (σ := Unit) (pcJ := 39) (kJ := 0) (nJ := 0) (stk := fun xx => match xx with | _ => []) (fun xx H locs ls => match xx with | _ => va_P D vwCl [] H ∧ va_D A [] ∧ va_S A s.heap H locs ∧ lv_has ls 7 [(5, .int v12), (4, .int v13), (3, .int v14), (0, .int p0), (1, .int p1), (2, .int p2)]) (fun xx H locs ls hI => ?_) (fun jn33 => ?_)
  · skip
    obtain ⟨hP, hD, hS, hl⟩ := hI
    refine W.eq (g2 := F0 m 39 ls []) rfl ?_
    refine lv_iload_n hx hb dX10_partOf_39 rfl (lv_at hl 4 rfl) ?_
    have j34 := rgI p1
    refine lv_if_eq (tgt := 47) hx hb dX10_partOf_40 (by decide) (fun c35 => ?_) (fun c35 => ?_)
    · skip
      have c35 := i_eq (Eq.refl p1.toInt) (show (0 : Int32).toInt = 0 by decide) c35
      refine lv_iconst (v := 0) hx hb dX10_partOf_47 (by decide) ?_
      refine W.widen (k := 0) (n := 0) (Nat.le_of_ble_eq_true rfl) (Nat.le_of_ble_eq_true rfl) ?_
      have zi0 : (0 : Int32).toInt = 0 := by decide
      exact W.iret (v := 0) hx hb hr (fun t ht hW => ⟨⟨(0), rfl, trivial, CB.nil⟩, hS.F ht⟩) hS.2.2 dX10_partOf_48
    · skip
      have c35 := i_ne (Eq.refl p1.toInt) (show (0 : Int32).toInt = 0 by decide) c35
      refine lv_iload_n hx hb dX10_partOf_43 rfl (lv_at hl 2 rfl) ?_
      have j36 := rgI v14
      refine lv_if_ne (tgt := 49) hx hb dX10_partOf_44 (by decide) (fun c37 => ?_) (fun c37 => ?_)
      · skip
        have c37 := i_ne (Eq.refl v14.toInt) (show (0 : Int32).toInt = 0 by decide) c37
        refine lv_iload_n hx hb dX10_partOf_49 rfl (lv_at hl 5 rfl) ?_
        have j42 := rgI p2
        refine lv_if_ne (tgt := 59) hx hb dX10_partOf_50 (by decide) (fun c43 => ?_) (fun c43 => ?_)
        · skip
          have c43 := i_ne (Eq.refl p2.toInt) (show (0 : Int32).toInt = 0 by decide) c43
          refine lv_iload_n hx hb dX10_partOf_59 rfl (lv_at hl 4 rfl) ?_
          refine lv_iload_n hx hb dX10_partOf_60 rfl (lv_at hl 2 rfl) ?_
          refine lv_idiv hx hb dX10_partOf_61 (i_nz (Eq.refl v14.toInt) (by omega)) ?_
          refine lv_topi (fun v44 ev44 => ?_)
          refine W.widen (k := 0) (n := 0) (Nat.le_of_ble_eq_true rfl) (Nat.le_of_ble_eq_true rfl) ?_
          exact W.iret (v := v44) hx hb hr (fun t ht hW => ⟨⟨v44, rfl, trivial, CB.nil⟩, hS.F ht⟩) hS.2.2 dX10_partOf_62
        · skip
          have c43 := i_eq (Eq.refl p2.toInt) (show (0 : Int32).toInt = 0 by decide) c43
          refine lv_iload_n hx hb dX10_partOf_53 rfl (lv_at hl 3 rfl) ?_
          refine lv_iload_n hx hb dX10_partOf_54 rfl (lv_at hl 2 rfl) ?_
          refine lv_idiv hx hb dX10_partOf_55 (i_nz (Eq.refl v14.toInt) (by omega)) ?_
          refine lv_topi (fun v45 ev45 => ?_)
          refine lv_goto (tgt := 62) hx hb dX10_partOf_56 (by decide) ?_
          refine W.widen (k := 0) (n := 0) (Nat.le_of_ble_eq_true rfl) (Nat.le_of_ble_eq_true rfl) ?_
          exact W.iret (v := v45) hx hb hr (fun t ht hW => ⟨⟨v45, rfl, trivial, CB.nil⟩, hS.F ht⟩) hS.2.2 dX10_partOf_62
      · skip
        have c37 := i_eq (Eq.refl v14.toInt) (show (0 : Int32).toInt = 0 by decide) c37
        refine lv_iconst (v := 0) hx hb dX10_partOf_47 (by decide) ?_
        refine W.widen (k := 0) (n := 0) (Nat.le_of_ble_eq_true rfl) (Nat.le_of_ble_eq_true rfl) ?_
        have zi0 : (0 : Int32).toInt = 0 := by decide
        exact W.iret (v := 0) hx hb hr (fun t ht hW => ⟨⟨(0), rfl, trivial, CB.nil⟩, hS.F ht⟩) hS.2.2 dX10_partOf_48
  · skip
    refine lv_icmp_ge (tgt := 39) hx hb dX10_partOf_12 (by decide) (fun c46 => ?_) (fun c46 => ?_)
    · skip
      have c46 := i_le (show (100 : Int32).toInt = 100 by decide) (Eq.refl v12.toInt) c46
      refine W.widen (k := 0) (n := 0) (Nat.le_of_ble_eq_true rfl) (Nat.le_of_ble_eq_true rfl) ?_
      exact jn33 (()) H locs ls ⟨hP, hD, hS, lv_sub hl [0, 1, 2, 3, 4, 5] rfl⟩
    · skip
      have c46 := i_nle (show (100 : Int32).toInt = 100 by decide) (Eq.refl v12.toInt) c46
      refine lv_iload hx hb dX10_partOf_15 (lv_at hl 1 rfl) ?_
      have j47 := rgI v13
      refine lv_if_eq (tgt := 39) hx hb dX10_partOf_17 (by decide) (fun c48 => ?_) (fun c48 => ?_)
      · skip
        have c48 := i_eq (Eq.refl v13.toInt) (show (0 : Int32).toInt = 0 by decide) c48
        refine W.widen (k := 0) (n := 0) (Nat.le_of_ble_eq_true rfl) (Nat.le_of_ble_eq_true rfl) ?_
        exact jn33 (()) H locs ls ⟨hP, hD, hS, lv_sub hl [0, 1, 2, 3, 4, 5] rfl⟩
      · skip
        have c48 := i_ne (Eq.refl v13.toInt) (show (0 : Int32).toInt = 0 by decide) c48
        refine lv_iload_n hx hb dX10_partOf_20 rfl (lv_at hl 2 rfl) ?_
        refine lv_iload hx hb dX10_partOf_21 (lv_at hl 1 rfl) ?_
        refine lv_irem hx hb dX10_partOf_23 (i_nz (Eq.refl v13.toInt) (by omega)) ?_
        refine lv_topi (fun v49 ev49 => ?_)
        refine lv_istore (lv' := [(6, .int v49), (5, .int v12), (4, .int v13), (3, .int v14), (0, .int p0), (1, .int p1), (2, .int p2)]) hx hb dX10_partOf_24 hl (by decide) rfl (fun ls hl => ?_)
        refine lv_iload hx hb dX10_partOf_26 (lv_at hl 2 rfl) ?_
        refine lv_istore_n (lv' := [(3, .int v13), (6, .int v49), (5, .int v12), (4, .int v13), (0, .int p0), (1, .int p1), (2, .int p2)]) hx hb dX10_partOf_28 rfl hl (by decide) rfl (fun ls hl => ?_)
        refine lv_iload hx hb dX10_partOf_29 (lv_at hl 1 rfl) ?_
        refine lv_istore (lv' := [(4, .int v49), (3, .int v13), (6, .int v49), (5, .int v12), (0, .int p0), (1, .int p1), (2, .int p2)]) hx hb dX10_partOf_31 hl (by decide) rfl (fun ls hl => ?_)
        obtain ⟨v50, ev50⟩ : ∃ y : Int32, y = v12 + 1 := ⟨_, rfl⟩
        have hv50 := i_add (Eq.refl v12.toInt) (show (1 : Int32).toInt = 1 by decide) ev50 (by omega) (by omega)
        refine lv_iinc (v := v50) (lv' := [(5, .int v50), (4, .int v49), (3, .int v13), (6, .int v49), (0, .int p0), (1, .int p1), (2, .int p2)]) hx hb dX10_partOf_33 hl (k := 3) rfl (by rw [ev50]; rfl) (by decide) rfl (fun ls hl => ?_)
        refine lv_goto (tgt := 8) hx hb dX10_partOf_36 (by decide) ?_
        exact ih27 (v50, v49, v13) H locs ls (by show (100 - v50.toInt).toNat < (100 - v12.toInt).toNat; omega) ⟨hP, hD, hS, lv_sub hl [0, 1, 2, 4, 5, 6] rfl, by omega⟩
set_option maxHeartbeats 4000000 in
set_option maxRecDepth 100000 in
theorem x_X2_deepBetween (l : Launch) (D : va_G) (Y : Nat → ClassId) (Z : Nat → Nat) (sz : Nat)  (p0 : Int32) (p1 : Int64) (p2 : Int32) (p3 : Int64) : Met l yX2_deepBetween (.code yX2_deepBetween cX2_deepBetween 8 (some .long) :: GW) ({ frames := 1, cells := 0, slots := 0, locals := 25 }) (va_Pc [.int p0, .long p1, .int p2, .long p3] (CP D Y Z [] sz)) (QG (S := Int64) (fun u => some (.long u)) (fun u => True) (fun u => CB D [] (va_A [] sz)) (va_A [] sz)) 0 0 (va_A [] sz) := by
  refine Met.ofW (cc := cX2_deepBetween) (maxL := 8) (ret := (some .long)) (by decide) rfl ?_
  intro p e s m args below meth c s₁ B hml hv
  obtain ⟨rfl, hsz, hP, hKN, hD0⟩ := hv
  have hx := B.exec
  have hb := B.bytes
  have hr := B.returns
  have hts := atoms_spec (ws := .code yX2_deepBetween cX2_deepBetween 8 (some .long) :: GW) B.pre
  have hg : ∀ w ∈ GW, w.before _ s = true := fun w h => hts w (List.mem_cons_of_mem _ h)
  have hown : s.vm.findClass RX2 = some m.cls := findClass_of_methodNamed B.named
  have hlocks := B.notSynchronized
  subst hsz
  have hD := hD0.self (sz := s.heap.size)
  generalize hAe : va_A [] s.heap.size = A at hD ⊢
  have hA : ∀ q : Nat, s.heap.size ≤ q → A q := fun q h => by rw [← hAe]; exact Or.inr h
  clear hAe hD0 hts B
  have hl := lv_entry ([.int p0, .long p1, .int p2, .long p3]) (n := 8) (Nat.le_of_ble_eq_true rfl)
  rw [lg_entry_eq]
  generalize (lg_sl ([.int p0, .long p1, .int p2, .long p3]) ++ List.replicate (8 - (lg_sl ([.int p0, .long p1, .int p2, .long p3])).length) Slot.unset).toArray = ls at hl ⊢
  have hl : lv_has ls 8 [(0, .int p0), (1, .long p1), (3, .int p2), (4, .long p3)] := hl
  refine w_start (A0 := A) hP (fun H locs hP hS => ?_)
  refine lv_iload_n hx hb dX2_deepBetween_0 rfl (lv_at hl 0 rfl) ?_
  have j1 := rgI p0
  have j2 := Int32.toInt_toInt64 p0
  refine lv_i2l (v := p0.toInt64) hx hb dX2_deepBetween_1 (rfl) ?_
  refine lv_iload_n hx hb dX2_deepBetween_2 rfl (lv_at hl 2 rfl) ?_
  have j3 := rgI p2
  have j4 := Int32.toInt_toInt64 p2
  refine lv_i2l (v := p2.toInt64) hx hb dX2_deepBetween_3 (rfl) ?_
  refine lv_lmul hx hb dX2_deepBetween_4 ?_
  refine lv_topl (fun v5 ev5 => ?_)
  have hv5 := l_mulR (a := -2147483648) (b := 2147483647) (c := -2147483648) (d := 2147483647) (lo := -4611686016279904256) (hi := 4611686018427387904) (Int32.toInt_toInt64 p0) (Int32.toInt_toInt64 p2) ev5 (by omega) (by omega) (by decide) (by decide)
  refine lv_lstore (lv' := [(6, .long v5), (0, .int p0), (1, .long p1), (3, .int p2), (4, .long p3)]) hx hb dX2_deepBetween_5 hl (by decide) rfl (fun ls hl => ?_)
  refine lv_lload hx hb dX2_deepBetween_7 (lv_at hl 0 rfl) ?_
  refine lv_lconst (v := 0) hx hb dX2_deepBetween_9 (by decide) ?_
  refine W.lcmp hx hb dX2_deepBetween_10 ?_
  refine lv_if_gt (tgt := 20) hx hb dX2_deepBetween_11 (by decide) (fun c6 => ?_) (fun c6 => ?_)
  · skip
    have c6 := l_gt (Eq.refl v5.toInt) (show (0 : Int64).toInt = 0 by decide) c6
    refine lv_lload_n hx hb dX2_deepBetween_20 rfl (lv_at hl 2 rfl) ?_
    refine lv_iload_n hx hb dX2_deepBetween_21 rfl (lv_at hl 3 rfl) ?_
    refine lv_i2l (v := p2.toInt64) hx hb dX2_deepBetween_22 (rfl) ?_
    refine lv_lmul hx hb dX2_deepBetween_23 ?_
    refine lv_topl (fun v7 ev7 => ?_)
    refine lv_lload hx hb dX2_deepBetween_24 (lv_at hl 4 rfl) ?_
    refine lv_iload_n hx hb dX2_deepBetween_26 rfl (lv_at hl 1 rfl) ?_
    refine lv_i2l (v := p0.toInt64) hx hb dX2_deepBetween_27 (rfl) ?_
    refine lv_lmul hx hb dX2_deepBetween_28 ?_
    refine lv_topl (fun v8 ev8 => ?_)
    refine lv_lsub hx hb dX2_deepBetween_29 ?_
    refine lv_topl (fun v9 ev9 => ?_)
    refine lv_lload hx hb dX2_deepBetween_30 (lv_at hl 0 rfl) ?_
    refine cg0 (rn_S (As := [.long v9, .long v5]) (rest := []) (x_J9_floorDiv_f86c9 l D Y Z H.size v9 v5 (show (v5.toInt ≠ 0) by omega)) ⟨hx, hb, hml, hown, hg⟩ lk_X2_75 ⟨CP.blind, CP.at nilP hKN (nilD (A := fun _ => True))⟩ ⟨⟨rfl, rfl⟩, ⟨Nat.le_of_ble_eq_true rfl, Nat.le_of_ble_eq_true rfl⟩, ⟨(Nat.le_of_ble_eq_true rfl), (Nat.le_of_ble_eq_true rfl)⟩⟩ hl.1 rfl (Nat.le_of_ble_eq_true rfl) dX2_deepBetween_32) hP hS hA (fun u10 H locs hw11 hP hS => ?_)
    refine W.eq (g2 := F0 m 35 ls [.long u10]) rfl ?_
    refine W.widen (k := 0) (n := 0) (Nat.le_of_ble_eq_true rfl) (Nat.le_of_ble_eq_true rfl) ?_
    exact W.lret (v := u10) hx hb hr (fun t ht hW => ⟨⟨u10, rfl, trivial, CB.nil⟩, hS.F ht⟩) hS.2.2 dX2_deepBetween_35
  · skip
    have c6 := l_ngt (Eq.refl v5.toInt) (show (0 : Int64).toInt = 0 by decide) c6
    refine lv_ldc2 (v := (-100000)) hx hb hown (hg _ kw_556) dX2_deepBetween_14 ?_
    refine lv_goto (tgt := 35) hx hb dX2_deepBetween_17 (by decide) ?_
    refine W.widen (k := 0) (n := 0) (Nat.le_of_ble_eq_true rfl) (Nat.le_of_ble_eq_true rfl) ?_
    have zlm100000 : ((-100000) : Int64).toInt = -100000 := by decide
    exact W.lret (v := (-100000)) hx hb hr (fun t ht hW => ⟨⟨((-100000)), rfl, trivial, CB.nil⟩, hS.F ht⟩) hS.2.2 dX2_deepBetween_35
set_option maxHeartbeats 4000000 in
set_option maxRecDepth 100000 in
theorem x_X4_combine (l : Launch) (D : va_G) (Y : Nat → ClassId) (Z : Nat → Nat) (sz : Nat)  (p0 : Int32) (p1 : Int64) (p2 : Int64) : Met l yX4_combine (.code yX4_combine cX4_combine 5 (some .long) :: GW) ({ frames := 0, cells := 0, slots := 0, locals := 0 }) (va_Pc [.int p0, .long p1, .long p2] (CP D Y Z [] sz)) (QG (S := Int64) (fun u => some (.long u)) (fun u => True) (fun u => CB D [] (va_A [] sz)) (va_A [] sz)) 0 0 (va_A [] sz) := by
  refine Met.ofW (cc := cX4_combine) (maxL := 5) (ret := (some .long)) (by decide) rfl ?_
  intro p e s m args below meth c s₁ B hml hv
  obtain ⟨rfl, hsz, hP, hKN, hD0⟩ := hv
  have hx := B.exec
  have hb := B.bytes
  have hr := B.returns
  have hts := atoms_spec (ws := .code yX4_combine cX4_combine 5 (some .long) :: GW) B.pre
  have hg : ∀ w ∈ GW, w.before _ s = true := fun w h => hts w (List.mem_cons_of_mem _ h)
  have hown : s.vm.findClass RX4 = some m.cls := findClass_of_methodNamed B.named
  have hlocks := B.notSynchronized
  subst hsz
  have hD := hD0.self (sz := s.heap.size)
  generalize hAe : va_A [] s.heap.size = A at hD ⊢
  have hA : ∀ q : Nat, s.heap.size ≤ q → A q := fun q h => by rw [← hAe]; exact Or.inr h
  clear hAe hD0 hts B
  have hl := lv_entry ([.int p0, .long p1, .long p2]) (n := 5) (Nat.le_of_ble_eq_true rfl)
  rw [lg_entry_eq]
  generalize (lg_sl ([.int p0, .long p1, .long p2]) ++ List.replicate (5 - (lg_sl ([.int p0, .long p1, .long p2])).length) Slot.unset).toArray = ls at hl ⊢
  have hl : lv_has ls 5 [(0, .int p0), (1, .long p1), (3, .long p2)] := hl
  refine w_start (A0 := A) hP (fun H locs hP hS => ?_)
  refine lv_iload_n hx hb dX4_combine_0 rfl (lv_at hl 0 rfl) ?_
  rcases (show p0.toInt = 42 ∨ p0.toInt = 43 ∨ p0.toInt = 45 ∨ p0.toInt = 47 ∨ p0.toInt = 60 ∨ p0.toInt = 61 ∨ p0.toInt = 62 ∨ p0.toInt = 259 ∨ p0.toInt = 260 ∨ p0.toInt = 262 ∨ (p0.toInt ≠ 42 ∧ p0.toInt ≠ 43 ∧ p0.toInt ≠ 45 ∧ p0.toInt ≠ 47 ∧ p0.toInt ≠ 60 ∧ p0.toInt ≠ 61 ∧ p0.toInt ≠ 62 ∧ p0.toInt ≠ 259 ∧ p0.toInt ≠ 260 ∧ p0.toInt ≠ 262) by omega) with c1 | c1 | c1 | c1 | c1 | c1 | c1 | c1 | c1 | c1 | c1
  · refine lv_lookup (off := 99) (tgt := 100) hx hb dX4_combine_1 (by decide) (by rw [c1]; rfl) (by decide) ?_
    refine lv_lload_n hx hb dX4_combine_100 rfl (lv_at hl 1 rfl) ?_
    refine lv_lload_n hx hb dX4_combine_101 rfl (lv_at hl 2 rfl) ?_
    refine lv_lmul hx hb dX4_combine_102 ?_
    refine lv_topl (fun v2 ev2 => ?_)
    refine W.widen (k := 0) (n := 0) (Nat.le_of_ble_eq_true rfl) (Nat.le_of_ble_eq_true rfl) ?_
    exact W.lret (v := v2) hx hb hr (fun t ht hW => ⟨⟨v2, rfl, trivial, CB.nil⟩, hS.F ht⟩) hS.2.2 dX4_combine_103
  · refine lv_lookup (off := 91) (tgt := 92) hx hb dX4_combine_1 (by decide) (by rw [c1]; rfl) (by decide) ?_
    refine lv_lload_n hx hb dX4_combine_92 rfl (lv_at hl 1 rfl) ?_
    refine lv_lload_n hx hb dX4_combine_93 rfl (lv_at hl 2 rfl) ?_
    refine lv_ladd hx hb dX4_combine_94 ?_
    refine lv_topl (fun v3 ev3 => ?_)
    refine W.widen (k := 0) (n := 0) (Nat.le_of_ble_eq_true rfl) (Nat.le_of_ble_eq_true rfl) ?_
    exact W.lret (v := v3) hx hb hr (fun t ht hW => ⟨⟨v3, rfl, trivial, CB.nil⟩, hS.F ht⟩) hS.2.2 dX4_combine_95
  · refine lv_lookup (off := 95) (tgt := 96) hx hb dX4_combine_1 (by decide) (by rw [c1]; rfl) (by decide) ?_
    refine lv_lload_n hx hb dX4_combine_96 rfl (lv_at hl 1 rfl) ?_
    refine lv_lload_n hx hb dX4_combine_97 rfl (lv_at hl 2 rfl) ?_
    refine lv_lsub hx hb dX4_combine_98 ?_
    refine lv_topl (fun v4 ev4 => ?_)
    refine W.widen (k := 0) (n := 0) (Nat.le_of_ble_eq_true rfl) (Nat.le_of_ble_eq_true rfl) ?_
    exact W.lret (v := v4) hx hb hr (fun t ht hW => ⟨⟨v4, rfl, trivial, CB.nil⟩, hS.F ht⟩) hS.2.2 dX4_combine_99
  · refine lv_lookup (off := 103) (tgt := 104) hx hb dX4_combine_1 (by decide) (by rw [c1]; rfl) (by decide) ?_
    refine lv_lload_n hx hb dX4_combine_104 rfl (lv_at hl 2 rfl) ?_
    refine lv_lconst (v := 0) hx hb dX4_combine_105 (by decide) ?_
    refine W.lcmp hx hb dX4_combine_106 ?_
    refine lv_if_ne (tgt := 114) hx hb dX4_combine_107 (by decide) (fun c5 => ?_) (fun c5 => ?_)
    · skip
      have c5 := l_ne (Eq.refl p2.toInt) (show (0 : Int64).toInt = 0 by decide) c5
      refine lv_lload_n hx hb dX4_combine_114 rfl (lv_at hl 1 rfl) ?_
      refine lv_lload_n hx hb dX4_combine_115 rfl (lv_at hl 2 rfl) ?_
      refine lv_ldiv hx hb dX4_combine_116 (l_nz (Eq.refl p2.toInt) (by omega)) ?_
      refine lv_topl (fun v6 ev6 => ?_)
      refine W.widen (k := 0) (n := 0) (Nat.le_of_ble_eq_true rfl) (Nat.le_of_ble_eq_true rfl) ?_
      exact W.lret (v := v6) hx hb hr (fun t ht hW => ⟨⟨v6, rfl, trivial, CB.nil⟩, hS.F ht⟩) hS.2.2 dX4_combine_117
    · skip
      have c5 := l_eq (Eq.refl p2.toInt) (show (0 : Int64).toInt = 0 by decide) c5
      refine lv_lconst (v := 0) hx hb dX4_combine_110 (by decide) ?_
      refine lv_goto (tgt := 117) hx hb dX4_combine_111 (by decide) ?_
      refine W.widen (k := 0) (n := 0) (Nat.le_of_ble_eq_true rfl) (Nat.le_of_ble_eq_true rfl) ?_
      have zl0 : (0 : Int64).toInt = 0 := by decide
      exact W.lret (v := 0) hx hb hr (fun t ht hW => ⟨⟨(0), rfl, trivial, CB.nil⟩, hS.F ht⟩) hS.2.2 dX4_combine_117
  · refine lv_lookup (off := 117) (tgt := 118) hx hb dX4_combine_1 (by decide) (by rw [c1]; rfl) (by decide) ?_
    refine lv_lload_n hx hb dX4_combine_118 rfl (lv_at hl 1 rfl) ?_
    refine lv_lload_n hx hb dX4_combine_119 rfl (lv_at hl 2 rfl) ?_
    refine W.lcmp hx hb dX4_combine_120 ?_
    refine lv_if_ge (tgt := 128) hx hb dX4_combine_121 (by decide) (fun c7 => ?_) (fun c7 => ?_)
    · skip
      have c7 := l_ge (Eq.refl p1.toInt) (Eq.refl p2.toInt) c7
      refine lv_lconst (v := 0) hx hb dX4_combine_128 (by decide) ?_
      refine W.widen (k := 0) (n := 0) (Nat.le_of_ble_eq_true rfl) (Nat.le_of_ble_eq_true rfl) ?_
      have zl0 : (0 : Int64).toInt = 0 := by decide
      exact W.lret (v := 0) hx hb hr (fun t ht hW => ⟨⟨(0), rfl, trivial, CB.nil⟩, hS.F ht⟩) hS.2.2 dX4_combine_129
    · skip
      have c7 := l_nge (Eq.refl p1.toInt) (Eq.refl p2.toInt) c7
      refine lv_lconst (v := 1) hx hb dX4_combine_124 (by decide) ?_
      refine lv_goto (tgt := 129) hx hb dX4_combine_125 (by decide) ?_
      refine W.widen (k := 0) (n := 0) (Nat.le_of_ble_eq_true rfl) (Nat.le_of_ble_eq_true rfl) ?_
      have zl1 : (1 : Int64).toInt = 1 := by decide
      exact W.lret (v := 1) hx hb hr (fun t ht hW => ⟨⟨(1), rfl, trivial, CB.nil⟩, hS.F ht⟩) hS.2.2 dX4_combine_129
  · refine lv_lookup (off := 141) (tgt := 142) hx hb dX4_combine_1 (by decide) (by rw [c1]; rfl) (by decide) ?_
    refine lv_lload_n hx hb dX4_combine_142 rfl (lv_at hl 1 rfl) ?_
    refine lv_lload_n hx hb dX4_combine_143 rfl (lv_at hl 2 rfl) ?_
    refine W.lcmp hx hb dX4_combine_144 ?_
    refine lv_if_ne (tgt := 152) hx hb dX4_combine_145 (by decide) (fun c8 => ?_) (fun c8 => ?_)
    · skip
      have c8 := l_ne (Eq.refl p1.toInt) (Eq.refl p2.toInt) c8
      refine lv_lconst (v := 0) hx hb dX4_combine_152 (by decide) ?_
      refine W.widen (k := 0) (n := 0) (Nat.le_of_ble_eq_true rfl) (Nat.le_of_ble_eq_true rfl) ?_
      have zl0 : (0 : Int64).toInt = 0 := by decide
      exact W.lret (v := 0) hx hb hr (fun t ht hW => ⟨⟨(0), rfl, trivial, CB.nil⟩, hS.F ht⟩) hS.2.2 dX4_combine_153
    · skip
      have c8 := l_eq (Eq.refl p1.toInt) (Eq.refl p2.toInt) c8
      refine lv_lconst (v := 1) hx hb dX4_combine_148 (by decide) ?_
      refine lv_goto (tgt := 153) hx hb dX4_combine_149 (by decide) ?_
      refine W.widen (k := 0) (n := 0) (Nat.le_of_ble_eq_true rfl) (Nat.le_of_ble_eq_true rfl) ?_
      have zl1 : (1 : Int64).toInt = 1 := by decide
      exact W.lret (v := 1) hx hb hr (fun t ht hW => ⟨⟨(1), rfl, trivial, CB.nil⟩, hS.F ht⟩) hS.2.2 dX4_combine_153
  · refine lv_lookup (off := 165) (tgt := 166) hx hb dX4_combine_1 (by decide) (by rw [c1]; rfl) (by decide) ?_
    refine lv_lload_n hx hb dX4_combine_166 rfl (lv_at hl 1 rfl) ?_
    refine lv_lload_n hx hb dX4_combine_167 rfl (lv_at hl 2 rfl) ?_
    refine W.lcmp hx hb dX4_combine_168 ?_
    refine lv_if_le (tgt := 176) hx hb dX4_combine_169 (by decide) (fun c9 => ?_) (fun c9 => ?_)
    · skip
      have c9 := l_le (Eq.refl p1.toInt) (Eq.refl p2.toInt) c9
      refine lv_lconst (v := 0) hx hb dX4_combine_176 (by decide) ?_
      refine W.widen (k := 0) (n := 0) (Nat.le_of_ble_eq_true rfl) (Nat.le_of_ble_eq_true rfl) ?_
      have zl0 : (0 : Int64).toInt = 0 := by decide
      exact W.lret (v := 0) hx hb hr (fun t ht hW => ⟨⟨(0), rfl, trivial, CB.nil⟩, hS.F ht⟩) hS.2.2 dX4_combine_177
    · skip
      have c9 := l_nle (Eq.refl p1.toInt) (Eq.refl p2.toInt) c9
      refine lv_lconst (v := 1) hx hb dX4_combine_172 (by decide) ?_
      refine lv_goto (tgt := 177) hx hb dX4_combine_173 (by decide) ?_
      refine W.widen (k := 0) (n := 0) (Nat.le_of_ble_eq_true rfl) (Nat.le_of_ble_eq_true rfl) ?_
      have zl1 : (1 : Int64).toInt = 1 := by decide
      exact W.lret (v := 1) hx hb hr (fun t ht hW => ⟨⟨(1), rfl, trivial, CB.nil⟩, hS.F ht⟩) hS.2.2 dX4_combine_177
  · refine lv_lookup (off := 129) (tgt := 130) hx hb dX4_combine_1 (by decide) (by rw [c1]; rfl) (by decide) ?_
    refine lv_lload_n hx hb dX4_combine_130 rfl (lv_at hl 1 rfl) ?_
    refine lv_lload_n hx hb dX4_combine_131 rfl (lv_at hl 2 rfl) ?_
    refine W.lcmp hx hb dX4_combine_132 ?_
    refine lv_if_gt (tgt := 140) hx hb dX4_combine_133 (by decide) (fun c10 => ?_) (fun c10 => ?_)
    · skip
      have c10 := l_gt (Eq.refl p1.toInt) (Eq.refl p2.toInt) c10
      refine lv_lconst (v := 0) hx hb dX4_combine_140 (by decide) ?_
      refine W.widen (k := 0) (n := 0) (Nat.le_of_ble_eq_true rfl) (Nat.le_of_ble_eq_true rfl) ?_
      have zl0 : (0 : Int64).toInt = 0 := by decide
      exact W.lret (v := 0) hx hb hr (fun t ht hW => ⟨⟨(0), rfl, trivial, CB.nil⟩, hS.F ht⟩) hS.2.2 dX4_combine_141
    · skip
      have c10 := l_ngt (Eq.refl p1.toInt) (Eq.refl p2.toInt) c10
      refine lv_lconst (v := 1) hx hb dX4_combine_136 (by decide) ?_
      refine lv_goto (tgt := 141) hx hb dX4_combine_137 (by decide) ?_
      refine W.widen (k := 0) (n := 0) (Nat.le_of_ble_eq_true rfl) (Nat.le_of_ble_eq_true rfl) ?_
      have zl1 : (1 : Int64).toInt = 1 := by decide
      exact W.lret (v := 1) hx hb hr (fun t ht hW => ⟨⟨(1), rfl, trivial, CB.nil⟩, hS.F ht⟩) hS.2.2 dX4_combine_141
  · refine lv_lookup (off := 153) (tgt := 154) hx hb dX4_combine_1 (by decide) (by rw [c1]; rfl) (by decide) ?_
    refine lv_lload_n hx hb dX4_combine_154 rfl (lv_at hl 1 rfl) ?_
    refine lv_lload_n hx hb dX4_combine_155 rfl (lv_at hl 2 rfl) ?_
    refine W.lcmp hx hb dX4_combine_156 ?_
    refine lv_if_lt (tgt := 164) hx hb dX4_combine_157 (by decide) (fun c11 => ?_) (fun c11 => ?_)
    · skip
      have c11 := l_lt (Eq.refl p1.toInt) (Eq.refl p2.toInt) c11
      refine lv_lconst (v := 0) hx hb dX4_combine_164 (by decide) ?_
      refine W.widen (k := 0) (n := 0) (Nat.le_of_ble_eq_true rfl) (Nat.le_of_ble_eq_true rfl) ?_
      have zl0 : (0 : Int64).toInt = 0 := by decide
      exact W.lret (v := 0) hx hb hr (fun t ht hW => ⟨⟨(0), rfl, trivial, CB.nil⟩, hS.F ht⟩) hS.2.2 dX4_combine_165
    · skip
      have c11 := l_nlt (Eq.refl p1.toInt) (Eq.refl p2.toInt) c11
      refine lv_lconst (v := 1) hx hb dX4_combine_160 (by decide) ?_
      refine lv_goto (tgt := 165) hx hb dX4_combine_161 (by decide) ?_
      refine W.widen (k := 0) (n := 0) (Nat.le_of_ble_eq_true rfl) (Nat.le_of_ble_eq_true rfl) ?_
      have zl1 : (1 : Int64).toInt = 1 := by decide
      exact W.lret (v := 1) hx hb hr (fun t ht hW => ⟨⟨(1), rfl, trivial, CB.nil⟩, hS.F ht⟩) hS.2.2 dX4_combine_165
  · refine lv_lookup (off := 177) (tgt := 178) hx hb dX4_combine_1 (by decide) (by rw [c1]; rfl) (by decide) ?_
    refine lv_lload_n hx hb dX4_combine_178 rfl (lv_at hl 1 rfl) ?_
    refine lv_lload_n hx hb dX4_combine_179 rfl (lv_at hl 2 rfl) ?_
    refine lv_land hx hb dX4_combine_180 ?_
    refine lv_topl (fun v12 ev12 => ?_)
    refine W.widen (k := 0) (n := 0) (Nat.le_of_ble_eq_true rfl) (Nat.le_of_ble_eq_true rfl) ?_
    exact W.lret (v := v12) hx hb hr (fun t ht hW => ⟨⟨v12, rfl, trivial, CB.nil⟩, hS.F ht⟩) hS.2.2 dX4_combine_181
  · refine lv_lookup (off := 181) (tgt := 182) hx hb dX4_combine_1 (by decide) (by show Op.lookupswitch.offset [(42, 99), (43, 91), (45, 95), (47, 103), (60, 117), (61, 141), (62, 165), (259, 129), (260, 153), (262, 177)] 181 p0.toInt = 181; rw [Op.lookupswitch.offset_cons, if_neg (by omega), Op.lookupswitch.offset_cons, if_neg (by omega), Op.lookupswitch.offset_cons, if_neg (by omega), Op.lookupswitch.offset_cons, if_neg (by omega), Op.lookupswitch.offset_cons, if_neg (by omega), Op.lookupswitch.offset_cons, if_neg (by omega), Op.lookupswitch.offset_cons, if_neg (by omega), Op.lookupswitch.offset_cons, if_neg (by omega), Op.lookupswitch.offset_cons, if_neg (by omega), Op.lookupswitch.offset_cons, if_neg (by omega)]; rfl) (by decide) ?_
    refine lv_lload_n hx hb dX4_combine_182 rfl (lv_at hl 1 rfl) ?_
    refine lv_lload_n hx hb dX4_combine_183 rfl (lv_at hl 2 rfl) ?_
    refine lv_lor hx hb dX4_combine_184 ?_
    refine lv_topl (fun v13 ev13 => ?_)
    refine W.widen (k := 0) (n := 0) (Nat.le_of_ble_eq_true rfl) (Nat.le_of_ble_eq_true rfl) ?_
    exact W.lret (v := v13) hx hb hr (fun t ht hW => ⟨⟨v13, rfl, trivial, CB.nil⟩, hS.F ht⟩) hS.2.2 dX4_combine_185
