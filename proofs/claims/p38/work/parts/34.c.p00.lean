set_option maxHeartbeats 4000000 in
set_option maxRecDepth 100000 in
theorem x_X1_isNone (l : Launch) (D : va_G) (Y : Nat → ClassId) (Z : Nat → Nat) (sz : Nat) (ws : va_W) (T : RT) (g : GN) (q : GQ)  (p0 : Nat) (pp0 : Nat) (o0_0 : Int32) (o0_1 : Int32) (o0_2 : Int32) (o0_3 : Int32) (o0_4 : Int32) (o0_5 : Int64) (o0_6 : Int64) (hT : TW Y Z T g q ws) (ht0 : T p0 = (6, 0, 0)) (hk0 : ws[pp0]? = some (p0, .inr (1, [.int o0_0, .int o0_1, .int o0_2, .int o0_3, .int o0_4, .long o0_5, .long o0_6]))) : Met l yX1_isNone (.code yX1_isNone cX1_isNone 1 (some .boolean) :: GW) ({ frames := 0, cells := 0, slots := 0, locals := 0 }) (va_Pc [.ref p0] (CPC D Y Z ws sz)) (QG (S := Int32) (fun u => some (.int u)) (fun u => (0 ≤ u.toInt ∧ u.toInt ≤ 1) ∧ (u.toInt = 0 → 1 ≤ o0_1.toInt)) (fun u => CB D ws (va_A ws sz)) (va_A ws sz)) 0 0 (va_A ws sz) := by
  refine Met.ofW (cc := cX1_isNone) (maxL := 1) (ret := (some .boolean)) (by decide) rfl ?_
  intro p e s m args below meth c s₁ B hml hv
  obtain ⟨rfl, ⟨hsz, hP, hKN, hD0⟩, hSZ⟩ := hv
  have hx := B.exec
  have hb := B.bytes
  have hr := B.returns
  have hts := atoms_spec (ws := .code yX1_isNone cX1_isNone 1 (some .boolean) :: GW) B.pre
  have hg : ∀ w ∈ GW, w.before _ s = true := fun w h => hts w (List.mem_cons_of_mem _ h)
  have hown : s.vm.findClass RX1 = some m.cls := findClass_of_methodNamed B.named
  have hlocks := B.notSynchronized
  subst hsz
  have hD := hD0.self (sz := s.heap.size)
  generalize hAe : va_A ws s.heap.size = A at hD hSZ ⊢
  have hA : ∀ q : Nat, s.heap.size ≤ q → A q := fun q h => by rw [← hAe]; exact Or.inr h
  clear hAe hD0 hts B
  have hl := lv_entry ([.ref p0]) (n := 1) (Nat.le_of_ble_eq_true rfl)
  rw [lg_entry_eq]
  generalize (lg_sl ([.ref p0]) ++ List.replicate (1 - (lg_sl ([.ref p0])).length) Slot.unset).toArray = ls at hl ⊢
  have hl : lv_has ls 1 [(0, .ref p0)] := hl
  refine w_start (A0 := A) hP (fun H locs hP hS => ?_)
  obtain ⟨x9_0, x9_1, x9_2, x9_3, x9_4, x9_5, x9_6, he9, ho0_1rng⟩ := (tw_at (k := 6) hT hk0 ht0 : Sh6 Y Z T (g p0) (q p0) 0 0 _)
  cases he9
  refine lv_aload_n hx hb dX1_isNone_0 rfl (lv_at hl 0 rfl) ?_
  refine va_get (D := D) (ci := 1) (v := .long o0_6) (C := RX1) (T := TX1) (N := 7) hx hb hg inGX1 hown hKN.1 hP pp0 hk0 rfl 6 (by decide) (hg _ kw_330) (fun _ h9 => h9) rfl dX1_isNone_1 ?_
  refine lv_lconst (v := 1) hx hb dX1_isNone_4 (by decide) ?_
  refine W.lcmp hx hb dX1_isNone_5 ?_
  refine lv_if_lt (tgt := 17) hx hb dX1_isNone_6 (by decide) (fun c1 => ?_) (fun c1 => ?_)
  · skip
    have c1 := l_lt (Eq.refl o0_6.toInt) (show (1 : Int64).toInt = 1 by decide) c1
    refine lv_iconst (v := 1) hx hb dX1_isNone_17 (by decide) ?_
    refine lv_goto (tgt := 22) hx hb dX1_isNone_18 (by decide) ?_
    refine W.widen (k := 0) (n := 0) (Nat.le_of_ble_eq_true rfl) (Nat.le_of_ble_eq_true rfl) ?_
    have zi1 : (1 : Int32).toInt = 1 := by decide
    exact W.zret (v := 1) hx hb hr (by decide) (fun t ht hW => ⟨⟨(1), rfl, ⟨(show (0 ≤ (1 : Int32).toInt ∧ (1 : Int32).toInt ≤ 1) by omega), (show ((1 : Int32).toInt = 0 → 1 ≤ o0_1.toInt) by omega)⟩, CB.mk ht hP hD⟩, hS.F ht⟩) hS.2.2 dX1_isNone_22
  · skip
    have c1 := l_nlt (Eq.refl o0_6.toInt) (show (1 : Int64).toInt = 1 by decide) c1
    refine lv_aload_n hx hb dX1_isNone_9 rfl (lv_at hl 0 rfl) ?_
    refine va_get (D := D) (ci := 1) (v := .int o0_1) (C := RX1) (T := TX1) (N := 7) hx hb hg inGX1 hown hKN.1 hP pp0 hk0 rfl 1 (by decide) (hg _ kw_310) (fun _ h9 => h9) rfl dX1_isNone_10 ?_
    refine lv_iconst (v := 1) hx hb dX1_isNone_13 (by decide) ?_
    refine lv_icmp_ge (tgt := 21) hx hb dX1_isNone_14 (by decide) (fun c2 => ?_) (fun c2 => ?_)
    · skip
      have c2 := i_le (show (1 : Int32).toInt = 1 by decide) (Eq.refl o0_1.toInt) c2
      refine lv_iconst (v := 0) hx hb dX1_isNone_21 (by decide) ?_
      refine W.widen (k := 0) (n := 0) (Nat.le_of_ble_eq_true rfl) (Nat.le_of_ble_eq_true rfl) ?_
      have zi0 : (0 : Int32).toInt = 0 := by decide
      exact W.zret (v := 0) hx hb hr (by decide) (fun t ht hW => ⟨⟨(0), rfl, ⟨(show (0 ≤ (0 : Int32).toInt ∧ (0 : Int32).toInt ≤ 1) by omega), (show ((0 : Int32).toInt = 0 → 1 ≤ o0_1.toInt) by omega)⟩, CB.mk ht hP hD⟩, hS.F ht⟩) hS.2.2 dX1_isNone_22
    · skip
      have c2 := i_nle (show (1 : Int32).toInt = 1 by decide) (Eq.refl o0_1.toInt) c2
      refine lv_iconst (v := 1) hx hb dX1_isNone_17 (by decide) ?_
      refine lv_goto (tgt := 22) hx hb dX1_isNone_18 (by decide) ?_
      refine W.widen (k := 0) (n := 0) (Nat.le_of_ble_eq_true rfl) (Nat.le_of_ble_eq_true rfl) ?_
      have zi1 : (1 : Int32).toInt = 1 := by decide
      exact W.zret (v := 1) hx hb hr (by decide) (fun t ht hW => ⟨⟨(1), rfl, ⟨(show (0 ≤ (1 : Int32).toInt ∧ (1 : Int32).toInt ≤ 1) by omega), (show ((1 : Int32).toInt = 0 → 1 ≤ o0_1.toInt) by omega)⟩, CB.mk ht hP hD⟩, hS.F ht⟩) hS.2.2 dX1_isNone_22
set_option maxHeartbeats 4000000 in
set_option maxRecDepth 100000 in
theorem x_X1_isSeen (l : Launch) (D : va_G) (Y : Nat → ClassId) (Z : Nat → Nat) (sz : Nat) (ws : va_W) (T : RT) (g : GN) (q : GQ)  (p0 : Nat) (p1 : Int32) (hT : TW Y Z T g q ws) (ht0 : T p0 = (6, 0, 0)) : Met l yX1_isSeen (.code yX1_isSeen cX1_isSeen 2 (some .boolean) :: GW) ({ frames := 1, cells := 0, slots := 0, locals := 20 }) (va_Pc [.ref p0, .int p1] (CPC D Y Z ws sz)) (QG (S := Int32) (fun u => some (.int u)) (fun u => (0 ≤ u.toInt ∧ u.toInt ≤ 1)) (fun u => CB D ws (va_A ws sz)) (va_A ws sz)) 0 0 (va_A ws sz) := by
  refine Met.ofW (cc := cX1_isSeen) (maxL := 2) (ret := (some .boolean)) (by decide) rfl ?_
  intro p e s m args below meth c s₁ B hml hv
  obtain ⟨rfl, ⟨hsz, hP, hKN, hD0⟩, hSZ⟩ := hv
  have hx := B.exec
  have hb := B.bytes
  have hr := B.returns
  have hts := atoms_spec (ws := .code yX1_isSeen cX1_isSeen 2 (some .boolean) :: GW) B.pre
  have hg : ∀ w ∈ GW, w.before _ s = true := fun w h => hts w (List.mem_cons_of_mem _ h)
  have hown : s.vm.findClass RX1 = some m.cls := findClass_of_methodNamed B.named
  have hlocks := B.notSynchronized
  subst hsz
  have hD := hD0.self (sz := s.heap.size)
  generalize hAe : va_A ws s.heap.size = A at hD hSZ ⊢
  have hA : ∀ q : Nat, s.heap.size ≤ q → A q := fun q h => by rw [← hAe]; exact Or.inr h
  clear hAe hD0 hts B
  have hl := lv_entry ([.ref p0, .int p1]) (n := 2) (Nat.le_of_ble_eq_true rfl)
  rw [lg_entry_eq]
  generalize (lg_sl ([.ref p0, .int p1]) ++ List.replicate (2 - (lg_sl ([.ref p0, .int p1])).length) Slot.unset).toArray = ls at hl ⊢
  have hl : lv_has ls 2 [(0, .ref p0), (1, .int p1)] := hl
  refine w_start (A0 := A) hP (fun H locs hP hS => ?_)
  refine lv_aload_n hx hb dX1_isSeen_0 rfl (lv_at hl 0 rfl) ?_
  refine ok6 hT ht0 (fun p9 x1 x2 x3 x4 x5 y6 y7 hk10 h8 => ?_)
  refine cga (rn_V (As := []) (rest := []) (b := p0) (x_X1_isNone l D Y Z H.size ws T g q p0 p9 x1 x2 x3 x4 x5 y6 y7 hT ht0 hk10) ⟨hx, hb, hml, hown, hg⟩ lk_X1_19 ⟨CPC.blind, va_recv hKN.1 hP (ci := 1) (q0 := p9) rfl hk10, CPC.at hP hKN hD hSZ hS hA⟩ ⟨⟨rfl, rfl⟩, ⟨Nat.le_of_ble_eq_true rfl, Nat.le_of_ble_eq_true rfl⟩, ⟨(Nat.le_of_ble_eq_true rfl), (Nat.le_of_ble_eq_true rfl)⟩⟩ hl.1 rfl (Nat.le_of_ble_eq_true rfl) dX1_isSeen_1) hP hD hS hA (fun u11 H locs hw12 hP hD hS => ?_)
  obtain ⟨hw14, hw15⟩ : (0 ≤ u11.toInt ∧ u11.toInt ≤ 1) ∧ (u11.toInt = 0 → 1 ≤ x2.toInt) := hw12
  refine W.eq (g2 := F0 m 4 ls [.int u11]) rfl ?_
  rcases (show u11.toInt = 1 ∨ u11.toInt = 0 by omega) with c16 | c16
  · obtain rfl : u11 = 1 := i_is c16 (by decide)
    have zi1 : (1 : Int32).toInt = 1 := by decide
    clear hw15
    refine W.eq (g2 := F0 m 4 ls [.int 1]) rfl ?_
    refine lv_if_ne (tgt := 21) hx hb dX1_isSeen_4 (by decide) (fun c17 => ?_) (fun c17 => ?_)
    rotate_left
    · exact absurd c17 (by decide)
    refine lv_iconst (v := 0) hx hb dX1_isSeen_21 (by decide) ?_
    refine W.widen (k := 0) (n := 0) (Nat.le_of_ble_eq_true rfl) (Nat.le_of_ble_eq_true rfl) ?_
    have zi0 : (0 : Int32).toInt = 0 := by decide
    exact W.zret (v := 0) hx hb hr (by decide) (fun t ht hW => ⟨⟨(0), rfl, ((show (0 ≤ (0 : Int32).toInt ∧ (0 : Int32).toInt ≤ 1) by omega)), CB.mk ht hP hD⟩, hS.F ht⟩) hS.2.2 dX1_isSeen_22
  · obtain rfl : u11 = 0 := i_is c16 (by decide)
    have zi0 : (0 : Int32).toInt = 0 := by decide
    replace hw15 := hw15 (by decide)
    refine W.eq (g2 := F0 m 4 ls [.int 0]) rfl ?_
    refine lv_if_ne (tgt := 21) hx hb dX1_isSeen_4 (by decide) (fun c18 => ?_) (fun c18 => ?_)
    · exact absurd c18 (by decide)
    refine lv_aload_n hx hb dX1_isSeen_7 rfl (lv_at hl 0 rfl) ?_
    refine va_get (D := D) (ci := 1) (v := .long y7) (C := RX1) (T := TX1) (N := 7) hx hb hg inGX1 hown hKN.1 hP p9 hk10 rfl 6 (by decide) (hg _ kw_330) (fun _ h9 => h9) rfl dX1_isSeen_8 ?_
    refine lv_iload_n hx hb dX1_isSeen_11 rfl (lv_at hl 1 rfl) ?_
    have j19 := rgI p1
    have j20 := Int32.toInt_toInt64 p1
    refine lv_i2l (v := p1.toInt64) hx hb dX1_isSeen_12 (rfl) ?_
    refine W.lcmp hx hb dX1_isSeen_13 ?_
    refine lv_if_lt (tgt := 21) hx hb dX1_isSeen_14 (by decide) (fun c21 => ?_) (fun c21 => ?_)
    · skip
      have c21 := l_lt (Eq.refl y7.toInt) (Int32.toInt_toInt64 p1) c21
      refine lv_iconst (v := 0) hx hb dX1_isSeen_21 (by decide) ?_
      refine W.widen (k := 0) (n := 0) (Nat.le_of_ble_eq_true rfl) (Nat.le_of_ble_eq_true rfl) ?_
      exact W.zret (v := 0) hx hb hr (by decide) (fun t ht hW => ⟨⟨(0), rfl, ((show (0 ≤ (0 : Int32).toInt ∧ (0 : Int32).toInt ≤ 1) by omega)), CB.mk ht hP hD⟩, hS.F ht⟩) hS.2.2 dX1_isSeen_22
    · skip
      have c21 := l_nlt (Eq.refl y7.toInt) (Int32.toInt_toInt64 p1) c21
      refine lv_iconst (v := 1) hx hb dX1_isSeen_17 (by decide) ?_
      refine lv_goto (tgt := 22) hx hb dX1_isSeen_18 (by decide) ?_
      refine W.widen (k := 0) (n := 0) (Nat.le_of_ble_eq_true rfl) (Nat.le_of_ble_eq_true rfl) ?_
      have zi1 : (1 : Int32).toInt = 1 := by decide
      exact W.zret (v := 1) hx hb hr (by decide) (fun t ht hW => ⟨⟨(1), rfl, ((show (0 ≤ (1 : Int32).toInt ∧ (1 : Int32).toInt ≤ 1) by omega)), CB.mk ht hP hD⟩, hS.F ht⟩) hS.2.2 dX1_isSeen_22
set_option maxHeartbeats 4000000 in
set_option maxRecDepth 100000 in
theorem x_X1_isSeenWith (l : Launch) (D : va_G) (Y : Nat → ClassId) (Z : Nat → Nat) (sz : Nat) (ws : va_W) (T : RT) (g : GN) (q : GQ)  (p0 : Nat) (p1 : Int32) (p2 : Int32) (hT : TW Y Z T g q ws) (ht0 : T p0 = (6, 0, 0)) : Met l yX1_isSeenWith (.code yX1_isSeenWith cX1_isSeenWith 3 (some .boolean) :: GW) ({ frames := 2, cells := 0, slots := 0, locals := 41 }) (va_Pc [.ref p0, .int p1, .int p2] (CPC D Y Z ws sz)) (QG (S := Int32) (fun u => some (.int u)) (fun u => (0 ≤ u.toInt ∧ u.toInt ≤ 1)) (fun u => CB D ws (va_A ws sz)) (va_A ws sz)) 0 0 (va_A ws sz) := by
  refine Met.ofW (cc := cX1_isSeenWith) (maxL := 3) (ret := (some .boolean)) (by decide) rfl ?_
  intro p e s m args below meth c s₁ B hml hv
  obtain ⟨rfl, ⟨hsz, hP, hKN, hD0⟩, hSZ⟩ := hv
  have hx := B.exec
  have hb := B.bytes
  have hr := B.returns
  have hts := atoms_spec (ws := .code yX1_isSeenWith cX1_isSeenWith 3 (some .boolean) :: GW) B.pre
  have hg : ∀ w ∈ GW, w.before _ s = true := fun w h => hts w (List.mem_cons_of_mem _ h)
  have hown : s.vm.findClass RX1 = some m.cls := findClass_of_methodNamed B.named
  have hlocks := B.notSynchronized
  subst hsz
  have hD := hD0.self (sz := s.heap.size)
  generalize hAe : va_A ws s.heap.size = A at hD hSZ ⊢
  have hA : ∀ q : Nat, s.heap.size ≤ q → A q := fun q h => by rw [← hAe]; exact Or.inr h
  clear hAe hD0 hts B
  have hl := lv_entry ([.ref p0, .int p1, .int p2]) (n := 3) (Nat.le_of_ble_eq_true rfl)
  rw [lg_entry_eq]
  generalize (lg_sl ([.ref p0, .int p1, .int p2]) ++ List.replicate (3 - (lg_sl ([.ref p0, .int p1, .int p2])).length) Slot.unset).toArray = ls at hl ⊢
  have hl : lv_has ls 3 [(0, .ref p0), (1, .int p1), (2, .int p2)] := hl
  refine w_start (A0 := A) hP (fun H locs hP hS => ?_)
  refine lv_aload_n hx hb dX1_isSeenWith_0 rfl (lv_at hl 0 rfl) ?_
  refine lv_iload_n hx hb dX1_isSeenWith_1 rfl (lv_at hl 2 rfl) ?_
  refine ok6 hT ht0 (fun p9 x1 x2 x3 x4 x5 y6 y7 hk10 h8 => ?_)
  refine cga (rn_V (As := [.int p2]) (rest := []) (b := p0) (x_X1_isSeen l D Y Z H.size ws T g q p0 p2 hT ht0) ⟨hx, hb, hml, hown, hg⟩ lk_X1_23 ⟨CPC.blind, va_recv hKN.1 hP (ci := 1) (q0 := p9) rfl hk10, CPC.at hP hKN hD hSZ hS hA⟩ ⟨⟨rfl, rfl⟩, ⟨Nat.le_of_ble_eq_true rfl, Nat.le_of_ble_eq_true rfl⟩, ⟨(Nat.le_of_ble_eq_true rfl), (Nat.le_of_ble_eq_true rfl)⟩⟩ hl.1 rfl (Nat.le_of_ble_eq_true rfl) dX1_isSeenWith_2) hP hD hS hA (fun u11 H locs hw12 hP hD hS => ?_)
  have hw14 : (0 ≤ u11.toInt ∧ u11.toInt ≤ 1) := hw12
  refine W.eq (g2 := F0 m 5 ls [.int u11]) rfl ?_
  rcases (show u11.toInt = 1 ∨ u11.toInt = 0 by omega) with c15 | c15
  · obtain rfl : u11 = 1 := i_is c15 (by decide)
    have zi1 : (1 : Int32).toInt = 1 := by decide
    refine W.eq (g2 := F0 m 5 ls [.int 1]) rfl ?_
    refine lv_if_eq (tgt := 20) hx hb dX1_isSeenWith_5 (by decide) (fun c16 => ?_) (fun c16 => ?_)
    · exact absurd c16 (by decide)
    refine lv_aload_n hx hb dX1_isSeenWith_8 rfl (lv_at hl 0 rfl) ?_
    refine va_get (D := D) (ci := 1) (v := .int x2) (C := RX1) (T := TX1) (N := 7) hx hb hg inGX1 hown hKN.1 hP p9 hk10 rfl 1 (by decide) (hg _ kw_310) (fun _ h9 => h9) rfl dX1_isSeenWith_9 ?_
    refine lv_iload_n hx hb dX1_isSeenWith_12 rfl (lv_at hl 1 rfl) ?_
    have j17 := rgI p1
    refine lv_icmp_ne (tgt := 20) hx hb dX1_isSeenWith_13 (by decide) (fun c18 => ?_) (fun c18 => ?_)
    · skip
      have c18 := i_ne (Eq.refl x2.toInt) (Eq.refl p1.toInt) c18
      refine lv_iconst (v := 0) hx hb dX1_isSeenWith_20 (by decide) ?_
      refine W.widen (k := 0) (n := 0) (Nat.le_of_ble_eq_true rfl) (Nat.le_of_ble_eq_true rfl) ?_
      have zi0 : (0 : Int32).toInt = 0 := by decide
      exact W.zret (v := 0) hx hb hr (by decide) (fun t ht hW => ⟨⟨(0), rfl, ((show (0 ≤ (0 : Int32).toInt ∧ (0 : Int32).toInt ≤ 1) by omega)), CB.mk ht hP hD⟩, hS.F ht⟩) hS.2.2 dX1_isSeenWith_21
    · skip
      have c18 := i_eq (Eq.refl x2.toInt) (Eq.refl p1.toInt) c18
      refine lv_iconst (v := 1) hx hb dX1_isSeenWith_16 (by decide) ?_
      refine lv_goto (tgt := 21) hx hb dX1_isSeenWith_17 (by decide) ?_
      refine W.widen (k := 0) (n := 0) (Nat.le_of_ble_eq_true rfl) (Nat.le_of_ble_eq_true rfl) ?_
      exact W.zret (v := 1) hx hb hr (by decide) (fun t ht hW => ⟨⟨(1), rfl, ((show (0 ≤ (1 : Int32).toInt ∧ (1 : Int32).toInt ≤ 1) by omega)), CB.mk ht hP hD⟩, hS.F ht⟩) hS.2.2 dX1_isSeenWith_21
  · obtain rfl : u11 = 0 := i_is c15 (by decide)
    have zi0 : (0 : Int32).toInt = 0 := by decide
    refine W.eq (g2 := F0 m 5 ls [.int 0]) rfl ?_
    refine lv_if_eq (tgt := 20) hx hb dX1_isSeenWith_5 (by decide) (fun c19 => ?_) (fun c19 => ?_)
    rotate_left
    · exact absurd c19 (by decide)
    refine lv_iconst (v := 0) hx hb dX1_isSeenWith_20 (by decide) ?_
    refine W.widen (k := 0) (n := 0) (Nat.le_of_ble_eq_true rfl) (Nat.le_of_ble_eq_true rfl) ?_
    exact W.zret (v := 0) hx hb hr (by decide) (fun t ht hW => ⟨⟨(0), rfl, ((show (0 ≤ (0 : Int32).toInt ∧ (0 : Int32).toInt ≤ 1) by omega)), CB.mk ht hP hD⟩, hS.F ht⟩) hS.2.2 dX1_isSeenWith_21
set_option maxHeartbeats 4000000 in
set_option maxRecDepth 100000 in
theorem x_X1_part (l : Launch) (D : va_G) (Y : Nat → ClassId) (Z : Nat → Nat) (sz : Nat) (ws : va_W) (T : RT) (g : GN) (q : GQ)  (p0 : Nat) (p1 : Int32) (p2 : Int32) (hT : TW Y Z T g q ws) (ht0 : T p0 = (6, 0, 0)) : Met l yX1_part (.code yX1_part cX1_part 3 (some .long) :: GW) ({ frames := 2, cells := 0, slots := 0, locals := 41 }) (va_Pc [.ref p0, .int p1, .int p2] (CPC D Y Z ws sz)) (QG (S := Int64) (fun u => some (.long u)) (fun u => True) (fun u => CB D ws (va_A ws sz)) (va_A ws sz)) 0 0 (va_A ws sz) := by
  refine Met.ofW (cc := cX1_part) (maxL := 3) (ret := (some .long)) (by decide) rfl ?_
  intro p e s m args below meth c s₁ B hml hv
  obtain ⟨rfl, ⟨hsz, hP, hKN, hD0⟩, hSZ⟩ := hv
  have hx := B.exec
  have hb := B.bytes
  have hr := B.returns
  have hts := atoms_spec (ws := .code yX1_part cX1_part 3 (some .long) :: GW) B.pre
  have hg : ∀ w ∈ GW, w.before _ s = true := fun w h => hts w (List.mem_cons_of_mem _ h)
  have hown : s.vm.findClass RX1 = some m.cls := findClass_of_methodNamed B.named
  have hlocks := B.notSynchronized
  subst hsz
  have hD := hD0.self (sz := s.heap.size)
  generalize hAe : va_A ws s.heap.size = A at hD hSZ ⊢
  have hA : ∀ q : Nat, s.heap.size ≤ q → A q := fun q h => by rw [← hAe]; exact Or.inr h
  clear hAe hD0 hts B
  have hl := lv_entry ([.ref p0, .int p1, .int p2]) (n := 3) (Nat.le_of_ble_eq_true rfl)
  rw [lg_entry_eq]
  generalize (lg_sl ([.ref p0, .int p1, .int p2]) ++ List.replicate (3 - (lg_sl ([.ref p0, .int p1, .int p2])).length) Slot.unset).toArray = ls at hl ⊢
  have hl : lv_has ls 3 [(0, .ref p0), (1, .int p1), (2, .int p2)] := hl
  refine w_start (A0 := A) hP (fun H locs hP hS => ?_)
  refine lv_iload_n hx hb dX1_part_0 rfl (lv_at hl 1 rfl) ?_
  refine lv_bipush (v := 6) hx hb dX1_part_1 (by decide) ?_
  have j1 := rgI p1
  refine lv_icmp_ne (tgt := 20) hx hb dX1_part_3 (by decide) (fun c2 => ?_) (fun c2 => ?_)
  · skip
    have c2 := i_ne (Eq.refl p1.toInt) (show (6 : Int32).toInt = 6 by decide) c2
    refine lv_aload_n hx hb dX1_part_20 rfl (lv_at hl 0 rfl) ?_
    refine ok6 hT ht0 (fun p11 x3 x4 x5 x6 x7 y8 y9 hk12 h10 => ?_)
    refine cga (rn_V (As := []) (rest := []) (b := p0) (x_X1_isNone l D Y Z H.size ws T g q p0 p11 x3 x4 x5 x6 x7 y8 y9 hT ht0 hk12) ⟨hx, hb, hml, hown, hg⟩ lk_X1_19 ⟨CPC.blind, va_recv hKN.1 hP (ci := 1) (q0 := p11) rfl hk12, CPC.at hP hKN hD hSZ hS hA⟩ ⟨⟨rfl, rfl⟩, ⟨Nat.le_of_ble_eq_true rfl, Nat.le_of_ble_eq_true rfl⟩, ⟨(Nat.le_of_ble_eq_true rfl), (Nat.le_of_ble_eq_true rfl)⟩⟩ hl.1 rfl (Nat.le_of_ble_eq_true rfl) dX1_part_21) hP hD hS hA (fun u13 H locs hw14 hP hD hS => ?_)
    obtain ⟨hw16, hw17⟩ : (0 ≤ u13.toInt ∧ u13.toInt ≤ 1) ∧ (u13.toInt = 0 → 1 ≤ x4.toInt) := hw14
    refine W.eq (g2 := F0 m 24 ls [.int u13]) rfl ?_
    rcases (show u13.toInt = 1 ∨ u13.toInt = 0 by omega) with c18 | c18
    · obtain rfl : u13 = 1 := i_is c18 (by decide)
      have zi1 : (1 : Int32).toInt = 1 := by decide
      clear hw17
      refine W.eq (g2 := F0 m 24 ls [.int 1]) rfl ?_
      refine lv_if_eq (tgt := 31) hx hb dX1_part_24 (by decide) (fun c19 => ?_) (fun c19 => ?_)
      · exact absurd c19 (by decide)
      refine lv_ldc2 (v := (-1)) hx hb hown (hg _ kw_894) dX1_part_27 ?_
      refine W.widen (k := 0) (n := 0) (Nat.le_of_ble_eq_true rfl) (Nat.le_of_ble_eq_true rfl) ?_
      have zlm1 : ((-1) : Int64).toInt = -1 := by decide
      exact W.lret (v := (-1)) hx hb hr (fun t ht hW => ⟨⟨((-1)), rfl, trivial, CB.mk ht hP hD⟩, hS.F ht⟩) hS.2.2 dX1_part_30
    · obtain rfl : u13 = 0 := i_is c18 (by decide)
      have zi0 : (0 : Int32).toInt = 0 := by decide
      replace hw17 := hw17 (by decide)
      refine W.eq (g2 := F0 m 24 ls [.int 0]) rfl ?_
      refine lv_if_eq (tgt := 31) hx hb dX1_part_24 (by decide) (fun c20 => ?_) (fun c20 => ?_)
      rotate_left
      · exact absurd c20 (by decide)
      refine lv_iload_n hx hb dX1_part_31 rfl (lv_at hl 1 rfl) ?_
      rcases (show p1.toInt < 0 ∨ 4 < p1.toInt ∨ p1.toInt = 0 ∨ p1.toInt = 1 ∨ p1.toInt = 2 ∨ p1.toInt = 3 ∨ p1.toInt = 4 by omega) with c21 | c21 | c21 | c21 | c21 | c21 | c21
      · refine lv_tableOut (tgt := 96) hx hb dX1_part_32 (Or.inl c21) (by decide) ?_
        refine lv_aload_n hx hb dX1_part_96 rfl (lv_at hl 0 rfl) ?_
        refine va_get (D := D) (ci := 1) (v := .int x7) (C := RX1) (T := TX1) (N := 7) hx hb hg inGX1 hown hKN.1 hP p11 hk12 rfl 4 (by decide) (hg _ kw_325) (fun _ h9 => h9) rfl dX1_part_97 ?_
        have j22 := rgI x7
        have j23 := Int32.toInt_toInt64 x7
        refine lv_i2l (v := x7.toInt64) hx hb dX1_part_100 (rfl) ?_
        refine W.widen (k := 0) (n := 0) (Nat.le_of_ble_eq_true rfl) (Nat.le_of_ble_eq_true rfl) ?_
        exact W.lret (v := x7.toInt64) hx hb hr (fun t ht hW => ⟨⟨x7.toInt64, rfl, trivial, CB.mk ht hP hD⟩, hS.F ht⟩) hS.2.2 dX1_part_101
      · refine lv_tableOut (tgt := 96) hx hb dX1_part_32 (Or.inr c21) (by decide) ?_
        refine lv_aload_n hx hb dX1_part_96 rfl (lv_at hl 0 rfl) ?_
        refine va_get (D := D) (ci := 1) (v := .int x7) (C := RX1) (T := TX1) (N := 7) hx hb hg inGX1 hown hKN.1 hP p11 hk12 rfl 4 (by decide) (hg _ kw_325) (fun _ h9 => h9) rfl dX1_part_97 ?_
        have j24 := rgI x7
        have j25 := Int32.toInt_toInt64 x7
        refine lv_i2l (v := x7.toInt64) hx hb dX1_part_100 (rfl) ?_
        refine W.widen (k := 0) (n := 0) (Nat.le_of_ble_eq_true rfl) (Nat.le_of_ble_eq_true rfl) ?_
        exact W.lret (v := x7.toInt64) hx hb hr (fun t ht hW => ⟨⟨x7.toInt64, rfl, trivial, CB.mk ht hP hD⟩, hS.F ht⟩) hS.2.2 dX1_part_101
      · refine lv_tableIn (off := 36) (tgt := 68) hx hb dX1_part_32 (by rw [c21]; decide) (by rw [c21]; decide) (by rw [c21]; rfl) (by decide) ?_
        refine lv_aload_n hx hb dX1_part_68 rfl (lv_at hl 0 rfl) ?_
        refine va_get (D := D) (ci := 1) (v := .int x4) (C := RX1) (T := TX1) (N := 7) hx hb hg inGX1 hown hKN.1 hP p11 hk12 rfl 1 (by decide) (hg _ kw_310) (fun _ h9 => h9) rfl dX1_part_69 ?_
        have j26 := Int32.toInt_toInt64 x4
        refine lv_i2l (v := x4.toInt64) hx hb dX1_part_72 (rfl) ?_
        refine W.widen (k := 0) (n := 0) (Nat.le_of_ble_eq_true rfl) (Nat.le_of_ble_eq_true rfl) ?_
        exact W.lret (v := x4.toInt64) hx hb hr (fun t ht hW => ⟨⟨x4.toInt64, rfl, trivial, CB.mk ht hP hD⟩, hS.F ht⟩) hS.2.2 dX1_part_73
      · refine lv_tableIn (off := 42) (tgt := 74) hx hb dX1_part_32 (by rw [c21]; decide) (by rw [c21]; decide) (by rw [c21]; rfl) (by decide) ?_
        refine lv_aload_n hx hb dX1_part_74 rfl (lv_at hl 0 rfl) ?_
        refine va_get (D := D) (ci := 1) (v := .int x5) (C := RX1) (T := TX1) (N := 7) hx hb hg inGX1 hown hKN.1 hP p11 hk12 rfl 2 (by decide) (hg _ kw_316) (fun _ h9 => h9) rfl dX1_part_75 ?_
        have j27 := rgI x5
        have j28 := Int32.toInt_toInt64 x5
        refine lv_i2l (v := x5.toInt64) hx hb dX1_part_78 (rfl) ?_
        refine W.widen (k := 0) (n := 0) (Nat.le_of_ble_eq_true rfl) (Nat.le_of_ble_eq_true rfl) ?_
        exact W.lret (v := x5.toInt64) hx hb hr (fun t ht hW => ⟨⟨x5.toInt64, rfl, trivial, CB.mk ht hP hD⟩, hS.F ht⟩) hS.2.2 dX1_part_79
      · refine lv_tableIn (off := 48) (tgt := 80) hx hb dX1_part_32 (by rw [c21]; decide) (by rw [c21]; decide) (by rw [c21]; rfl) (by decide) ?_
        refine lv_aload_n hx hb dX1_part_80 rfl (lv_at hl 0 rfl) ?_
        refine va_get (D := D) (ci := 1) (v := .int x6) (C := RX1) (T := TX1) (N := 7) hx hb hg inGX1 hown hKN.1 hP p11 hk12 rfl 3 (by decide) (hg _ kw_321) (fun _ h9 => h9) rfl dX1_part_81 ?_
        have j29 := rgI x6
        have j30 := Int32.toInt_toInt64 x6
        refine lv_i2l (v := x6.toInt64) hx hb dX1_part_84 (rfl) ?_
        refine W.widen (k := 0) (n := 0) (Nat.le_of_ble_eq_true rfl) (Nat.le_of_ble_eq_true rfl) ?_
        exact W.lret (v := x6.toInt64) hx hb hr (fun t ht hW => ⟨⟨x6.toInt64, rfl, trivial, CB.mk ht hP hD⟩, hS.F ht⟩) hS.2.2 dX1_part_85
      · refine lv_tableIn (off := 54) (tgt := 86) hx hb dX1_part_32 (by rw [c21]; decide) (by rw [c21]; decide) (by rw [c21]; rfl) (by decide) ?_
        refine lv_aload_n hx hb dX1_part_86 rfl (lv_at hl 0 rfl) ?_
        refine va_get (D := D) (ci := 1) (v := .long y8) (C := RX1) (T := TX1) (N := 7) hx hb hg inGX1 hown hKN.1 hP p11 hk12 rfl 5 (by decide) (hg _ kw_328) (fun _ h9 => h9) rfl dX1_part_87 ?_
        refine W.widen (k := 0) (n := 0) (Nat.le_of_ble_eq_true rfl) (Nat.le_of_ble_eq_true rfl) ?_
        exact W.lret (v := y8) hx hb hr (fun t ht hW => ⟨⟨y8, rfl, trivial, CB.mk ht hP hD⟩, hS.F ht⟩) hS.2.2 dX1_part_90
      · refine lv_tableIn (off := 59) (tgt := 91) hx hb dX1_part_32 (by rw [c21]; decide) (by rw [c21]; decide) (by rw [c21]; rfl) (by decide) ?_
        refine lv_aload_n hx hb dX1_part_91 rfl (lv_at hl 0 rfl) ?_
        refine va_get (D := D) (ci := 1) (v := .long y9) (C := RX1) (T := TX1) (N := 7) hx hb hg inGX1 hown hKN.1 hP p11 hk12 rfl 6 (by decide) (hg _ kw_330) (fun _ h9 => h9) rfl dX1_part_92 ?_
        refine W.widen (k := 0) (n := 0) (Nat.le_of_ble_eq_true rfl) (Nat.le_of_ble_eq_true rfl) ?_
        exact W.lret (v := y9) hx hb hr (fun t ht hW => ⟨⟨y9, rfl, trivial, CB.mk ht hP hD⟩, hS.F ht⟩) hS.2.2 dX1_part_95
  · skip
    have c2 := i_eq (Eq.refl p1.toInt) (show (6 : Int32).toInt = 6 by decide) c2
    refine lv_aload_n hx hb dX1_part_6 rfl (lv_at hl 0 rfl) ?_
    refine lv_iload_n hx hb dX1_part_7 rfl (lv_at hl 2 rfl) ?_
    refine ok6 hT ht0 (fun p39 x31 x32 x33 x34 x35 y36 y37 hk40 h38 => ?_)
    refine cga (rn_V (As := [.int p2]) (rest := []) (b := p0) (x_X1_isSeen l D Y Z H.size ws T g q p0 p2 hT ht0) ⟨hx, hb, hml, hown, hg⟩ lk_X1_23 ⟨CPC.blind, va_recv hKN.1 hP (ci := 1) (q0 := p39) rfl hk40, CPC.at hP hKN hD hSZ hS hA⟩ ⟨⟨rfl, rfl⟩, ⟨Nat.le_of_ble_eq_true rfl, Nat.le_of_ble_eq_true rfl⟩, ⟨(Nat.le_of_ble_eq_true rfl), (Nat.le_of_ble_eq_true rfl)⟩⟩ hl.1 rfl (Nat.le_of_ble_eq_true rfl) dX1_part_8) hP hD hS hA (fun u41 H locs hw42 hP hD hS => ?_)
    have hw44 : (0 ≤ u41.toInt ∧ u41.toInt ≤ 1) := hw42
    refine W.eq (g2 := F0 m 11 ls [.int u41]) rfl ?_
    rcases (show u41.toInt = 1 ∨ u41.toInt = 0 by omega) with c45 | c45
    · obtain rfl : u41 = 1 := i_is c45 (by decide)
      have zi1 : (1 : Int32).toInt = 1 := by decide
      refine W.eq (g2 := F0 m 11 ls [.int 1]) rfl ?_
      refine lv_if_eq (tgt := 18) hx hb dX1_part_11 (by decide) (fun c46 => ?_) (fun c46 => ?_)
      · exact absurd c46 (by decide)
      refine lv_lconst (v := 1) hx hb dX1_part_14 (by decide) ?_
      refine lv_goto (tgt := 19) hx hb dX1_part_15 (by decide) ?_
      refine W.widen (k := 0) (n := 0) (Nat.le_of_ble_eq_true rfl) (Nat.le_of_ble_eq_true rfl) ?_
      have zl1 : (1 : Int64).toInt = 1 := by decide
      exact W.lret (v := 1) hx hb hr (fun t ht hW => ⟨⟨(1), rfl, trivial, CB.mk ht hP hD⟩, hS.F ht⟩) hS.2.2 dX1_part_19
    · obtain rfl : u41 = 0 := i_is c45 (by decide)
      have zi0 : (0 : Int32).toInt = 0 := by decide
      refine W.eq (g2 := F0 m 11 ls [.int 0]) rfl ?_
      refine lv_if_eq (tgt := 18) hx hb dX1_part_11 (by decide) (fun c47 => ?_) (fun c47 => ?_)
      rotate_left
      · exact absurd c47 (by decide)
      refine lv_lconst (v := 0) hx hb dX1_part_18 (by decide) ?_
      refine W.widen (k := 0) (n := 0) (Nat.le_of_ble_eq_true rfl) (Nat.le_of_ble_eq_true rfl) ?_
      have zl0 : (0 : Int64).toInt = 0 := by decide
      exact W.lret (v := 0) hx hb hr (fun t ht hW => ⟨⟨(0), rfl, trivial, CB.mk ht hP hD⟩, hS.F ht⟩) hS.2.2 dX1_part_19
set_option maxHeartbeats 4000000 in
set_option maxRecDepth 100000 in
theorem x_X1_radiusAt (l : Launch) (D : va_G) (Y : Nat → ClassId) (Z : Nat → Nat) (sz : Nat) (ws : va_W) (T : RT) (g : GN) (q : GQ)  (p0 : Nat) (p1 : Int64) (hT : TW Y Z T g q ws) (ht0 : T p0 = (6, 0, 0)) : Met l yX1_radiusAt (.code yX1_radiusAt cX1_radiusAt 6 (some .int) :: GW) ({ frames := 0, cells := 0, slots := 0, locals := 0 }) (va_Pc [.ref p0, .long p1] (CPC D Y Z ws sz)) (QG (S := Int32) (fun u => some (.int u)) (fun u => True) (fun u => CB D ws (va_A ws sz)) (va_A ws sz)) 0 0 (va_A ws sz) := by
  refine Met.ofW (cc := cX1_radiusAt) (maxL := 6) (ret := (some .int)) (by decide) rfl ?_
  intro p e s m args below meth c s₁ B hml hv
  obtain ⟨rfl, ⟨hsz, hP, hKN, hD0⟩, hSZ⟩ := hv
  have hx := B.exec
  have hb := B.bytes
  have hr := B.returns
  have hts := atoms_spec (ws := .code yX1_radiusAt cX1_radiusAt 6 (some .int) :: GW) B.pre
  have hg : ∀ w ∈ GW, w.before _ s = true := fun w h => hts w (List.mem_cons_of_mem _ h)
  have hown : s.vm.findClass RX1 = some m.cls := findClass_of_methodNamed B.named
  have hlocks := B.notSynchronized
  subst hsz
  have hD := hD0.self (sz := s.heap.size)
  generalize hAe : va_A ws s.heap.size = A at hD hSZ ⊢
  have hA : ∀ q : Nat, s.heap.size ≤ q → A q := fun q h => by rw [← hAe]; exact Or.inr h
  clear hAe hD0 hts B
  have hl := lv_entry ([.ref p0, .long p1]) (n := 6) (Nat.le_of_ble_eq_true rfl)
  rw [lg_entry_eq]
  generalize (lg_sl ([.ref p0, .long p1]) ++ List.replicate (6 - (lg_sl ([.ref p0, .long p1])).length) Slot.unset).toArray = ls at hl ⊢
  have hl : lv_has ls 6 [(0, .ref p0), (1, .long p1)] := hl
  refine w_start (A0 := A) hP (fun H locs hP hS => ?_)
  refine lv_aload_n hx hb dX1_radiusAt_0 rfl (lv_at hl 0 rfl) ?_
  refine ok6 hT ht0 (fun p9 x1 x2 x3 x4 x5 y6 y7 hk10 h8 => ?_)
  refine va_get (D := D) (ci := 1) (v := .long y6) (C := RX1) (T := TX1) (N := 7) hx hb hg inGX1 hown hKN.1 hP p9 hk10 rfl 5 (by decide) (hg _ kw_328) (fun _ h9 => h9) rfl dX1_radiusAt_1 ?_
  refine lv_lload_n hx hb dX1_radiusAt_4 rfl (lv_at hl 1 rfl) ?_
  refine lv_lmul hx hb dX1_radiusAt_5 ?_
  refine lv_topl (fun v11 ev11 => ?_)
  refine lv_lload_n hx hb dX1_radiusAt_6 rfl (lv_at hl 1 rfl) ?_
  refine lv_lmul hx hb dX1_radiusAt_7 ?_
  refine lv_topl (fun v12 ev12 => ?_)
  refine lv_lstore_n (lv' := [(3, .long v12), (0, .ref p0), (1, .long p1)]) hx hb dX1_radiusAt_8 rfl hl (by decide) rfl (fun ls hl => ?_)
  refine lv_iconst (v := 0) hx hb dX1_radiusAt_9 (by decide) ?_
  refine lv_istore (lv' := [(5, .int 0), (3, .long v12), (0, .ref p0), (1, .long p1)]) hx hb dX1_radiusAt_10 hl (by decide) rfl (fun ls hl => ?_)
  have zi0 : (0 : Int32).toInt = 0 := by decide
  refine w_loop (σ := Int32) (fun xx H locs ls => match xx with | v19 => va_P D vwCl ws H ∧ va_D A ws ∧ va_S A s.heap H locs ∧ lv_has ls 6 [(5, .int v19), (3, .long v12), (0, .ref p0), (1, .long p1)] ∧ TW Y Z T g q ws ∧ (0 ≤ v19.toInt ∧ v19.toInt ≤ 1000)) (fun xx => match xx with | v19 => (1000 - v19.toInt).toNat) (0) ⟨hP, hD, hS, lv_sub hl [0, 1, 2, 3] rfl, hT, by omega⟩ (fun xx H locs ls hI ih => ?_)
  revert hI ih
  generalize xx = v19
  intro hI ih
  obtain ⟨hP, hD, hS, hl, hT, hq28⟩ := hI
  have ih29 := ih
  refine lv_iload hx hb dX1_radiusAt_12 (lv_at hl 0 rfl) ?_
  refine lv_sipush (v := 1000) hx hb dX1_radiusAt_14 (by decide) ?_
  refine lv_icmp_ge (tgt := 46) hx hb dX1_radiusAt_17 (by decide) (fun c30 => ?_) (fun c30 => ?_)
  · skip
    have c30 := i_le (show (1000 : Int32).toInt = 1000 by decide) (Eq.refl v19.toInt) c30
    refine lv_iload hx hb dX1_radiusAt_46 (lv_at hl 0 rfl) ?_
    refine W.widen (k := 0) (n := 0) (Nat.le_of_ble_eq_true rfl) (Nat.le_of_ble_eq_true rfl) ?_
    exact W.iret (v := v19) hx hb hr (fun t ht hW => ⟨⟨v19, rfl, trivial, CB.mk ht hP hD⟩, hS.F ht⟩) hS.2.2 dX1_radiusAt_48
  · skip
    have c30 := i_nle (show (1000 : Int32).toInt = 1000 by decide) (Eq.refl v19.toInt) c30
    refine lv_iload hx hb dX1_radiusAt_20 (lv_at hl 0 rfl) ?_
    have j31 := Int32.toInt_toInt64 v19
    refine lv_i2l (v := v19.toInt64) hx hb dX1_radiusAt_22 (rfl) ?_
    refine lv_lconst (v := 1) hx hb dX1_radiusAt_23 (by decide) ?_
    refine lv_ladd hx hb dX1_radiusAt_24 ?_
    refine lv_topl (fun v32 ev32 => ?_)
    have hv32 := l_add (Int32.toInt_toInt64 v19) (show (1 : Int64).toInt = 1 by decide) ev32 (by omega) (by omega)
    refine lv_iload hx hb dX1_radiusAt_25 (lv_at hl 0 rfl) ?_
    refine lv_i2l (v := v19.toInt64) hx hb dX1_radiusAt_27 (rfl) ?_
    refine lv_lconst (v := 1) hx hb dX1_radiusAt_28 (by decide) ?_
    refine lv_ladd hx hb dX1_radiusAt_29 ?_
    refine lv_topl (fun v33 ev33 => ?_)
    have hv33 := l_add (Int32.toInt_toInt64 v19) (show (1 : Int64).toInt = 1 by decide) ev33 (by omega) (by omega)
    refine lv_lmul hx hb dX1_radiusAt_30 ?_
    refine lv_topl (fun v34 ev34 => ?_)
    have hv34 := l_mulR (a := 1) (b := 1000) (c := 1) (d := 1000) (lo := 1) (hi := 1000000) (Eq.refl v32.toInt) (Eq.refl v33.toInt) ev34 (by omega) (by omega) (by decide) (by decide)
    refine lv_ldc2 (v := 100000) hx hb hown (hg _ kw_1121) dX1_radiusAt_31 ?_
    refine lv_lmul hx hb dX1_radiusAt_34 ?_
    refine lv_topl (fun v35 ev35 => ?_)
    have hv35 := l_mul (Eq.refl v34.toInt) (show (100000 : Int64).toInt = 100000 by decide) ev35 (by omega) (by omega)
    refine lv_lload_n hx hb dX1_radiusAt_35 rfl (lv_at hl 1 rfl) ?_
    refine W.lcmp hx hb dX1_radiusAt_36 ?_
    refine lv_if_gt (tgt := 46) hx hb dX1_radiusAt_37 (by decide) (fun c36 => ?_) (fun c36 => ?_)
    · skip
      have c36 := l_gt (Eq.refl v35.toInt) (Eq.refl v12.toInt) c36
      refine lv_iload hx hb dX1_radiusAt_46 (lv_at hl 0 rfl) ?_
      refine W.widen (k := 0) (n := 0) (Nat.le_of_ble_eq_true rfl) (Nat.le_of_ble_eq_true rfl) ?_
      exact W.iret (v := v19) hx hb hr (fun t ht hW => ⟨⟨v19, rfl, trivial, CB.mk ht hP hD⟩, hS.F ht⟩) hS.2.2 dX1_radiusAt_48
    · skip
      have c36 := l_ngt (Eq.refl v35.toInt) (Eq.refl v12.toInt) c36
      obtain ⟨v37, ev37⟩ : ∃ y : Int32, y = v19 + 1 := ⟨_, rfl⟩
      have hv37 := i_add (Eq.refl v19.toInt) (show (1 : Int32).toInt = 1 by decide) ev37 (by omega) (by omega)
      refine lv_iinc (v := v37) (lv' := [(5, .int v37), (3, .long v12), (0, .ref p0), (1, .long p1)]) hx hb dX1_radiusAt_40 hl (k := 0) rfl (by rw [ev37]; rfl) (by decide) rfl (fun ls hl => ?_)
      refine lv_goto (tgt := 12) hx hb dX1_radiusAt_43 (by decide) ?_
      exact ih29 (v37) H locs ls (by show (1000 - v37.toInt).toNat < (1000 - v19.toInt).toNat; omega) ⟨hP, hD, hS, lv_sub hl [0, 1, 2, 3] rfl, hT, by omega⟩
set_option maxHeartbeats 4000000 in
set_option maxRecDepth 100000 in
theorem x_X8_begin (l : Launch) (D : va_G) (Y : Nat → ClassId) (Z : Nat → Nat) (sz : Nat) (ws : va_W) (T : RT) (g : GN) (q : GQ)  (p0 : Nat) (hT : TW Y Z T g q ws) (ht0 : T p0 = (5, 0, 0)) : Met l yX8_begin (.code yX8_begin cX8_begin 1 none :: GW) ({ frames := 0, cells := 0, slots := 0, locals := 0 }) (va_Pc [.ref p0] (CPC D Y Z ws sz)) (QG (S := va_W) (fun _ => none) (fun u => TW Y Z T g q u ∧ KF 1 T ws u ∧ KF 6 T ws u) (fun u => CB D u (va_A ws sz)) (va_A ws sz)) 0 0 (va_A ws sz) := by
  refine Met.ofW (cc := cX8_begin) (maxL := 1) (ret := none) (by decide) rfl ?_
  intro p e s m args below meth c s₁ B hml hv
  obtain ⟨rfl, ⟨hsz, hP, hKN, hD0⟩, hSZ⟩ := hv
  have hx := B.exec
  have hb := B.bytes
  have hr := B.returns
  have hts := atoms_spec (ws := .code yX8_begin cX8_begin 1 none :: GW) B.pre
  have hg : ∀ w ∈ GW, w.before _ s = true := fun w h => hts w (List.mem_cons_of_mem _ h)
  have hown : s.vm.findClass RX8 = some m.cls := findClass_of_methodNamed B.named
  have hlocks := B.notSynchronized
  subst hsz
  have hD := hD0.self (sz := s.heap.size)
  generalize hAe : va_A ws s.heap.size = A at hD hSZ ⊢
  have hA : ∀ q : Nat, s.heap.size ≤ q → A q := fun q h => by rw [← hAe]; exact Or.inr h
  clear hAe hD0 hts B
  have hl := lv_entry ([.ref p0]) (n := 1) (Nat.le_of_ble_eq_true rfl)
  rw [lg_entry_eq]
  generalize (lg_sl ([.ref p0]) ++ List.replicate (1 - (lg_sl ([.ref p0])).length) Slot.unset).toArray = ls at hl ⊢
  have hl : lv_has ls 1 [(0, .ref p0)] := hl
  refine w_start (A0 := A) hP (fun H locs hP hS => ?_)
  refine lv_aload_n hx hb dX8_begin_0 rfl (lv_at hl 0 rfl) ?_
  refine lv_iconst (v := 0) hx hb dX8_begin_1 (by decide) ?_
  refine ok5 hT ht0 (fun p22 x1 x2 x3 x4 x5 x6 x7 x8 a9 a10 a11 a12 a13 x14 hk23 h15 h16 h17 h18 h19 h20 h21 => ?_)
  refine va_put (D := D) (ci := 8) (v := .int 0) (ty := .int) (C := RX8) (T := TX8) (N := 14) hx hb hg inGX8 tyX8 tyX8_ok nmX8 hown hKN.1 hP hD hS p22 hk23 rfl 0 (by decide) (hg _ kw_114) (fun _ h9 => h9) rfl (by decide +kernel) rfl rfl (Nat.le_of_ble_eq_true rfl) dX8_begin_2 (fun H locs hP hD2 hS => ?_)
  have zi0 : (0 : Int32).toInt = 0 := by decide
  obtain ⟨w24, hP, hD, hT, hk26, kp25⟩ : ∃ wz, va_P D vwCl wz H ∧ va_D A wz ∧ TW Y Z T g q wz ∧ wz[p22]? = some (p0, .inr (8, (.int 0 :: .int x2 :: .int x3 :: .int x4 :: .int x5 :: .int x6 :: .int x7 :: .int x8 :: .ref a9 :: .ref a10 :: .ref a11 :: .ref a12 :: .ref a13 :: .int x14 :: []))) ∧ Kp p0 ws wz := ⟨_, hP, hD2, st5 hT hD hk23 ht0 ⟨(0), x2, x3, x4, x5, x6, x7, x8, a9, a10, a11, a12, a13, x14, rfl, by omega, h16, h17, h18, h19, h20, by omega⟩, sw_eq hk23, sw_kp hk23⟩
  have ke27 : KF 1 T ws w24 := KF.tr KF.rf (KF.kp kp25 ht0 (by decide))
  have ke28 : KF 6 T ws w24 := KF.tr KF.rf (KF.kp kp25 ht0 (by decide))
  refine lv_aload_n hx hb dX8_begin_5 rfl (lv_at hl 0 rfl) ?_
  refine lv_iconst (v := 2) hx hb dX8_begin_6 (by decide) ?_
  refine va_put (D := D) (ci := 8) (v := .int 2) (ty := .int) (C := RX8) (T := TX8) (N := 14) hx hb hg inGX8 tyX8 tyX8_ok nmX8 hown hKN.1 hP hD hS p22 hk26 rfl 1 (by decide) (hg _ kw_117) (fun _ h9 => h9) rfl (by decide +kernel) rfl rfl (Nat.le_of_ble_eq_true rfl) dX8_begin_7 (fun H locs hP hD2 hS => ?_)
  have zi2 : (2 : Int32).toInt = 2 := by decide
  obtain ⟨w29, hP, hD, hT, hk31, kp30⟩ : ∃ wz, va_P D vwCl wz H ∧ va_D A wz ∧ TW Y Z T g q wz ∧ wz[p22]? = some (p0, .inr (8, (.int 0 :: .int 2 :: .int x3 :: .int x4 :: .int x5 :: .int x6 :: .int x7 :: .int x8 :: .ref a9 :: .ref a10 :: .ref a11 :: .ref a12 :: .ref a13 :: .int x14 :: []))) ∧ Kp p0 w24 wz := ⟨_, hP, hD2, st5 hT hD hk26 ht0 ⟨(0), (2), x3, x4, x5, x6, x7, x8, a9, a10, a11, a12, a13, x14, rfl, by omega, h16, h17, h18, h19, h20, by omega⟩, sw_eq hk26, sw_kp hk26⟩
  have ke32 : KF 1 T ws w29 := KF.tr ke27 (KF.kp kp30 ht0 (by decide))
  have ke33 : KF 6 T ws w29 := KF.tr ke28 (KF.kp kp30 ht0 (by decide))
  refine lv_aload_n hx hb dX8_begin_10 rfl (lv_at hl 0 rfl) ?_
  refine lv_bipush (v := 100) hx hb dX8_begin_11 (by decide) ?_
  refine va_put (D := D) (ci := 8) (v := .int 100) (ty := .int) (C := RX8) (T := TX8) (N := 14) hx hb hg inGX8 tyX8 tyX8_ok nmX8 hown hKN.1 hP hD hS p22 hk31 rfl 2 (by decide) (hg _ kw_120) (fun _ h9 => h9) rfl (by decide +kernel) rfl rfl (Nat.le_of_ble_eq_true rfl) dX8_begin_13 (fun H locs hP hD2 hS => ?_)
  have zi100 : (100 : Int32).toInt = 100 := by decide
  obtain ⟨w34, hP, hD, hT, hk36, kp35⟩ : ∃ wz, va_P D vwCl wz H ∧ va_D A wz ∧ TW Y Z T g q wz ∧ wz[p22]? = some (p0, .inr (8, (.int 0 :: .int 2 :: .int 100 :: .int x4 :: .int x5 :: .int x6 :: .int x7 :: .int x8 :: .ref a9 :: .ref a10 :: .ref a11 :: .ref a12 :: .ref a13 :: .int x14 :: []))) ∧ Kp p0 w29 wz := ⟨_, hP, hD2, st5 hT hD hk31 ht0 ⟨(0), (2), (100), x4, x5, x6, x7, x8, a9, a10, a11, a12, a13, x14, rfl, by omega, h16, h17, h18, h19, h20, by omega⟩, sw_eq hk31, sw_kp hk31⟩
  have ke37 : KF 1 T ws w34 := KF.tr ke32 (KF.kp kp35 ht0 (by decide))
  have ke38 : KF 6 T ws w34 := KF.tr ke33 (KF.kp kp35 ht0 (by decide))
  refine lv_aload_n hx hb dX8_begin_16 rfl (lv_at hl 0 rfl) ?_
  refine lv_iconst (v := 1) hx hb dX8_begin_17 (by decide) ?_
  refine va_put (D := D) (ci := 8) (v := .int 1) (ty := .int) (C := RX8) (T := TX8) (N := 14) hx hb hg inGX8 tyX8 tyX8_ok nmX8 hown hKN.1 hP hD hS p22 hk36 rfl 3 (by decide) (hg _ kw_123) (fun _ h9 => h9) rfl (by decide +kernel) rfl rfl (Nat.le_of_ble_eq_true rfl) dX8_begin_18 (fun H locs hP hD2 hS => ?_)
  have zi1 : (1 : Int32).toInt = 1 := by decide
  obtain ⟨w39, hP, hD, hT, hk41, kp40⟩ : ∃ wz, va_P D vwCl wz H ∧ va_D A wz ∧ TW Y Z T g q wz ∧ wz[p22]? = some (p0, .inr (8, (.int 0 :: .int 2 :: .int 100 :: .int 1 :: .int x5 :: .int x6 :: .int x7 :: .int x8 :: .ref a9 :: .ref a10 :: .ref a11 :: .ref a12 :: .ref a13 :: .int x14 :: []))) ∧ Kp p0 w34 wz := ⟨_, hP, hD2, st5 hT hD hk36 ht0 ⟨(0), (2), (100), (1), x5, x6, x7, x8, a9, a10, a11, a12, a13, x14, rfl, by omega, h16, h17, h18, h19, h20, by omega⟩, sw_eq hk36, sw_kp hk36⟩
  have ke42 : KF 1 T ws w39 := KF.tr ke37 (KF.kp kp40 ht0 (by decide))
  have ke43 : KF 6 T ws w39 := KF.tr ke38 (KF.kp kp40 ht0 (by decide))
  refine lv_aload_n hx hb dX8_begin_21 rfl (lv_at hl 0 rfl) ?_
  refine lv_iconst (v := 5) hx hb dX8_begin_22 (by decide) ?_
  refine va_put (D := D) (ci := 8) (v := .int 5) (ty := .int) (C := RX8) (T := TX8) (N := 14) hx hb hg inGX8 tyX8 tyX8_ok nmX8 hown hKN.1 hP hD hS p22 hk41 rfl 4 (by decide) (hg _ kw_126) (fun _ h9 => h9) rfl (by decide +kernel) rfl rfl (Nat.le_of_ble_eq_true rfl) dX8_begin_23 (fun H locs hP hD2 hS => ?_)
  have zi5 : (5 : Int32).toInt = 5 := by decide
  obtain ⟨w44, hP, hD, hT, hk46, kp45⟩ : ∃ wz, va_P D vwCl wz H ∧ va_D A wz ∧ TW Y Z T g q wz ∧ wz[p22]? = some (p0, .inr (8, (.int 0 :: .int 2 :: .int 100 :: .int 1 :: .int 5 :: .int x6 :: .int x7 :: .int x8 :: .ref a9 :: .ref a10 :: .ref a11 :: .ref a12 :: .ref a13 :: .int x14 :: []))) ∧ Kp p0 w39 wz := ⟨_, hP, hD2, st5 hT hD hk41 ht0 ⟨(0), (2), (100), (1), (5), x6, x7, x8, a9, a10, a11, a12, a13, x14, rfl, by omega, h16, h17, h18, h19, h20, by omega⟩, sw_eq hk41, sw_kp hk41⟩
  have ke47 : KF 1 T ws w44 := KF.tr ke42 (KF.kp kp45 ht0 (by decide))
  have ke48 : KF 6 T ws w44 := KF.tr ke43 (KF.kp kp45 ht0 (by decide))
  refine lv_aload_n hx hb dX8_begin_26 rfl (lv_at hl 0 rfl) ?_
  refine lv_iconst (v := 1) hx hb dX8_begin_27 (by decide) ?_
  refine va_put (D := D) (ci := 8) (v := .int 1) (ty := .int) (C := RX8) (T := TX8) (N := 14) hx hb hg inGX8 tyX8 tyX8_ok nmX8 hown hKN.1 hP hD hS p22 hk46 rfl 5 (by decide) (hg _ kw_129) (fun _ h9 => h9) rfl (by decide +kernel) rfl rfl (Nat.le_of_ble_eq_true rfl) dX8_begin_28 (fun H locs hP hD2 hS => ?_)
  obtain ⟨w49, hP, hD, hT, hk51, kp50⟩ : ∃ wz, va_P D vwCl wz H ∧ va_D A wz ∧ TW Y Z T g q wz ∧ wz[p22]? = some (p0, .inr (8, (.int 0 :: .int 2 :: .int 100 :: .int 1 :: .int 5 :: .int 1 :: .int x7 :: .int x8 :: .ref a9 :: .ref a10 :: .ref a11 :: .ref a12 :: .ref a13 :: .int x14 :: []))) ∧ Kp p0 w44 wz := ⟨_, hP, hD2, st5 hT hD hk46 ht0 ⟨(0), (2), (100), (1), (5), (1), x7, x8, a9, a10, a11, a12, a13, x14, rfl, by omega, h16, h17, h18, h19, h20, by omega⟩, sw_eq hk46, sw_kp hk46⟩
  have ke52 : KF 1 T ws w49 := KF.tr ke47 (KF.kp kp50 ht0 (by decide))
  have ke53 : KF 6 T ws w49 := KF.tr ke48 (KF.kp kp50 ht0 (by decide))
  refine lv_aload_n hx hb dX8_begin_31 rfl (lv_at hl 0 rfl) ?_
  refine lv_iconst (v := 0) hx hb dX8_begin_32 (by decide) ?_
  refine va_put (D := D) (ci := 8) (v := .int 0) (ty := .int) (C := RX8) (T := TX8) (N := 14) hx hb hg inGX8 tyX8 tyX8_ok nmX8 hown hKN.1 hP hD hS p22 hk51 rfl 6 (by decide) (hg _ kw_133) (fun _ h9 => h9) rfl (by decide +kernel) rfl rfl (Nat.le_of_ble_eq_true rfl) dX8_begin_33 (fun H locs hP hD2 hS => ?_)
  obtain ⟨w54, hP, hD, hT, hk56, kp55⟩ : ∃ wz, va_P D vwCl wz H ∧ va_D A wz ∧ TW Y Z T g q wz ∧ wz[p22]? = some (p0, .inr (8, (.int 0 :: .int 2 :: .int 100 :: .int 1 :: .int 5 :: .int 1 :: .int 0 :: .int x8 :: .ref a9 :: .ref a10 :: .ref a11 :: .ref a12 :: .ref a13 :: .int x14 :: []))) ∧ Kp p0 w49 wz := ⟨_, hP, hD2, st5 hT hD hk51 ht0 ⟨(0), (2), (100), (1), (5), (1), (0), x8, a9, a10, a11, a12, a13, x14, rfl, by omega, h16, h17, h18, h19, h20, by omega⟩, sw_eq hk51, sw_kp hk51⟩
  have ke57 : KF 1 T ws w54 := KF.tr ke52 (KF.kp kp55 ht0 (by decide))
  have ke58 : KF 6 T ws w54 := KF.tr ke53 (KF.kp kp55 ht0 (by decide))
  refine lv_aload_n hx hb dX8_begin_36 rfl (lv_at hl 0 rfl) ?_
  refine lv_iconst (v := 0) hx hb dX8_begin_37 (by decide) ?_
  refine va_put (D := D) (ci := 8) (v := .int 0) (ty := .int) (C := RX8) (T := TX8) (N := 14) hx hb hg inGX8 tyX8 tyX8_ok nmX8 hown hKN.1 hP hD hS p22 hk56 rfl 7 (by decide) (hg _ kw_137) (fun _ h9 => h9) rfl (by decide +kernel) rfl rfl (Nat.le_of_ble_eq_true rfl) dX8_begin_38 (fun H locs hP hD2 hS => ?_)
  obtain ⟨w59, hP, hD, hT, hk61, kp60⟩ : ∃ wz, va_P D vwCl wz H ∧ va_D A wz ∧ TW Y Z T g q wz ∧ wz[p22]? = some (p0, .inr (8, (.int 0 :: .int 2 :: .int 100 :: .int 1 :: .int 5 :: .int 1 :: .int 0 :: .int 0 :: .ref a9 :: .ref a10 :: .ref a11 :: .ref a12 :: .ref a13 :: .int x14 :: []))) ∧ Kp p0 w54 wz := ⟨_, hP, hD2, st5 hT hD hk56 ht0 ⟨(0), (2), (100), (1), (5), (1), (0), (0), a9, a10, a11, a12, a13, x14, rfl, by omega, h16, h17, h18, h19, h20, by omega⟩, sw_eq hk56, sw_kp hk56⟩
  have ke62 : KF 1 T ws w59 := KF.tr ke57 (KF.kp kp60 ht0 (by decide))
  have ke63 : KF 6 T ws w59 := KF.tr ke58 (KF.kp kp60 ht0 (by decide))
  refine lv_aload_n hx hb dX8_begin_41 rfl (lv_at hl 0 rfl) ?_
  refine lv_iconst (v := 0) hx hb dX8_begin_42 (by decide) ?_
  refine va_put (D := D) (ci := 8) (v := .int 0) (ty := .int) (C := RX8) (T := TX8) (N := 14) hx hb hg inGX8 tyX8 tyX8_ok nmX8 hown hKN.1 hP hD hS p22 hk61 rfl 13 (by decide) (hg _ kw_148) (fun _ h9 => h9) rfl (by decide +kernel) rfl rfl (Nat.le_of_ble_eq_true rfl) dX8_begin_43 (fun H locs hP hD2 hS => ?_)
  obtain ⟨w64, hP, hD, hT, hk66, kp65⟩ : ∃ wz, va_P D vwCl wz H ∧ va_D A wz ∧ TW Y Z T g q wz ∧ wz[p22]? = some (p0, .inr (8, (.int 0 :: .int 2 :: .int 100 :: .int 1 :: .int 5 :: .int 1 :: .int 0 :: .int 0 :: .ref a9 :: .ref a10 :: .ref a11 :: .ref a12 :: .ref a13 :: .int 0 :: []))) ∧ Kp p0 w59 wz := ⟨_, hP, hD2, st5 hT hD hk61 ht0 ⟨(0), (2), (100), (1), (5), (1), (0), (0), a9, a10, a11, a12, a13, (0), rfl, by omega, h16, h17, h18, h19, h20, by omega⟩, sw_eq hk61, sw_kp hk61⟩
  have ke67 : KF 1 T ws w64 := KF.tr ke62 (KF.kp kp65 ht0 (by decide))
  have ke68 : KF 6 T ws w64 := KF.tr ke63 (KF.kp kp65 ht0 (by decide))
  refine W.widen (k := 0) (n := 0) (Nat.le_of_ble_eq_true rfl) (Nat.le_of_ble_eq_true rfl) ?_
  exact W.vret hx hb hr (fun t ht hW => ⟨⟨w64, rfl, ⟨hT, ke67, ke68⟩, CB.mk ht hP hD⟩, hS.F ht⟩) hS.2.2 dX8_begin_46
set_option maxHeartbeats 4000000 in
set_option maxRecDepth 100000 in
theorem x_X8_addCode (l : Launch) (D : va_G) (Y : Nat → ClassId) (Z : Nat → Nat) (sz : Nat) (ws : va_W) (T : RT) (g : GN) (q : GQ)  (p0 : Nat) (p1 : Int32) (hT : TW Y Z T g q ws) (ht0 : T p0 = (5, 0, 0)) : Met l yX8_addCode (.code yX8_addCode cX8_addCode 2 none :: GW) ({ frames := 0, cells := 0, slots := 0, locals := 0 }) (va_Pc [.ref p0, .int p1] (CPC D Y Z ws sz)) (QG (S := va_W) (fun _ => none) (fun u => TW Y Z T g q u ∧ KF 1 T ws u ∧ KF 6 T ws u) (fun u => CB D u (va_A ws sz)) (va_A ws sz)) 0 0 (va_A ws sz) := by
  refine Met.ofW (cc := cX8_addCode) (maxL := 2) (ret := none) (by decide) rfl ?_
  intro p e s m args below meth c s₁ B hml hv
  obtain ⟨rfl, ⟨hsz, hP, hKN, hD0⟩, hSZ⟩ := hv
  have hx := B.exec
  have hb := B.bytes
  have hr := B.returns
  have hts := atoms_spec (ws := .code yX8_addCode cX8_addCode 2 none :: GW) B.pre
  have hg : ∀ w ∈ GW, w.before _ s = true := fun w h => hts w (List.mem_cons_of_mem _ h)
  have hown : s.vm.findClass RX8 = some m.cls := findClass_of_methodNamed B.named
  have hlocks := B.notSynchronized
  subst hsz
  have hD := hD0.self (sz := s.heap.size)
  generalize hAe : va_A ws s.heap.size = A at hD hSZ ⊢
  have hA : ∀ q : Nat, s.heap.size ≤ q → A q := fun q h => by rw [← hAe]; exact Or.inr h
  clear hAe hD0 hts B
  have hl := lv_entry ([.ref p0, .int p1]) (n := 2) (Nat.le_of_ble_eq_true rfl)
  rw [lg_entry_eq]
  generalize (lg_sl ([.ref p0, .int p1]) ++ List.replicate (2 - (lg_sl ([.ref p0, .int p1])).length) Slot.unset).toArray = ls at hl ⊢
  have hl : lv_has ls 2 [(0, .ref p0), (1, .int p1)] := hl
  refine w_start (A0 := A) hP (fun H locs hP hS => ?_)
  refine lv_aload_n hx hb dX8_addCode_0 rfl (lv_at hl 0 rfl) ?_
  refine ok5 hT ht0 (fun p22 x1 x2 x3 x4 x5 x6 x7 x8 a9 a10 a11 a12 a13 x14 hk23 h15 h16 h17 h18 h19 h20 h21 => ?_)
  refine va_get (D := D) (ci := 8) (v := .int x14) (C := RX8) (T := TX8) (N := 14) hx hb hg inGX8 hown hKN.1 hP p22 hk23 rfl 13 (by decide) (hg _ kw_148) (fun _ h9 => h9) rfl dX8_addCode_1 ?_
  refine lv_sipush (v := 400) hx hb dX8_addCode_4 (by decide) ?_
  refine lv_icmp_ge (tgt := 30) hx hb dX8_addCode_7 (by decide) (fun c24 => ?_) (fun c24 => ?_)
  · skip
    have c24 := i_le (show (400 : Int32).toInt = 400 by decide) (Eq.refl x14.toInt) c24
    refine W.widen (k := 0) (n := 0) (Nat.le_of_ble_eq_true rfl) (Nat.le_of_ble_eq_true rfl) ?_
    exact W.vret hx hb hr (fun t ht hW => ⟨⟨ws, rfl, ⟨hT, KF.rf, KF.rf⟩, CB.mk ht hP hD⟩, hS.F ht⟩) hS.2.2 dX8_addCode_30
  · skip
    have c24 := i_nle (show (400 : Int32).toInt = 400 by decide) (Eq.refl x14.toInt) c24
    refine lv_aload_n hx hb dX8_addCode_10 rfl (lv_at hl 0 rfl) ?_
    refine va_get (D := D) (ci := 8) (v := .ref a13) (C := RX8) (T := TX8) (N := 14) hx hb hg inGX8 hown hKN.1 hP p22 hk23 rfl 12 (by decide) (hg _ kw_146) (fun _ h9 => h9) rfl dX8_addCode_11 ?_
    refine lv_aload_n hx hb dX8_addCode_14 rfl (lv_at hl 0 rfl) ?_
    refine va_get (D := D) (ci := 8) (v := .int x14) (C := RX8) (T := TX8) (N := 14) hx hb hg inGX8 hown hKN.1 hP p22 hk23 rfl 13 (by decide) (hg _ kw_148) (fun _ h9 => h9) rfl dX8_addCode_15 ?_
    refine lv_iload_n hx hb dX8_addCode_18 rfl (lv_at hl 1 rfl) ?_
    refine tr_st12 hx hb hKN hP hD hS hT h20 (vp_in_iff.mpr ⟨by omega, by omega⟩) dX8_addCode_19 (fun w25 H locs hP hD hS hT kp26 => ?_)
    have ke27 : KF 1 T ws w25 := KF.tr KF.rf (KF.kp kp26 h20 (by decide))
    have ke28 : KF 6 T ws w25 := KF.tr KF.rf (KF.kp kp26 h20 (by decide))
    have hk29 := kp26 _ _ hk23 (rne ht0 h20 (by decide))
    refine lv_aload_n hx hb dX8_addCode_20 rfl (lv_at hl 0 rfl) ?_
    refine lv_dup hx hb dX8_addCode_21 rfl ?_
    refine va_get (D := D) (ci := 8) (v := .int x14) (C := RX8) (T := TX8) (N := 14) hx hb hg inGX8 hown hKN.1 hP p22 hk29 rfl 13 (by decide) (hg _ kw_148) (fun _ h9 => h9) rfl dX8_addCode_22 ?_
    refine lv_iconst (v := 1) hx hb dX8_addCode_25 (by decide) ?_
    refine lv_iadd hx hb dX8_addCode_26 ?_
    refine lv_topi (fun v30 ev30 => ?_)
    have hv30 := i_add (Eq.refl x14.toInt) (show (1 : Int32).toInt = 1 by decide) ev30 (by omega) (by omega)
    refine va_put (D := D) (ci := 8) (v := .int v30) (ty := .int) (C := RX8) (T := TX8) (N := 14) hx hb hg inGX8 tyX8 tyX8_ok nmX8 hown hKN.1 hP hD hS p22 hk29 rfl 13 (by decide) (hg _ kw_148) (fun _ h9 => h9) rfl (by decide +kernel) rfl rfl (Nat.le_of_ble_eq_true rfl) dX8_addCode_27 (fun H locs hP hD2 hS => ?_)
    obtain ⟨w31, hP, hD, hT, hk33, kp32⟩ : ∃ wz, va_P D vwCl wz H ∧ va_D A wz ∧ TW Y Z T g q wz ∧ wz[p22]? = some (p0, .inr (8, (.int x1 :: .int x2 :: .int x3 :: .int x4 :: .int x5 :: .int x6 :: .int x7 :: .int x8 :: .ref a9 :: .ref a10 :: .ref a11 :: .ref a12 :: .ref a13 :: .int v30 :: []))) ∧ Kp p0 w25 wz := ⟨_, hP, hD2, st5 hT hD hk29 ht0 ⟨x1, x2, x3, x4, x5, x6, x7, x8, a9, a10, a11, a12, a13, v30, rfl, by omega, h16, h17, h18, h19, h20, by omega⟩, sw_eq hk29, sw_kp hk29⟩
    have ke34 : KF 1 T ws w31 := KF.tr ke27 (KF.kp kp32 ht0 (by decide))
    have ke35 : KF 6 T ws w31 := KF.tr ke28 (KF.kp kp32 ht0 (by decide))
    refine W.widen (k := 0) (n := 0) (Nat.le_of_ble_eq_true rfl) (Nat.le_of_ble_eq_true rfl) ?_
    exact W.vret hx hb hr (fun t ht hW => ⟨⟨w31, rfl, ⟨hT, ke34, ke35⟩, CB.mk ht hP hD⟩, hS.F ht⟩) hS.2.2 dX8_addCode_30
set_option maxHeartbeats 4000000 in
set_option maxRecDepth 100000 in
theorem x_X8_openClause (l : Launch) (D : va_G) (Y : Nat → ClassId) (Z : Nat → Nat) (sz : Nat) (ws : va_W) (T : RT) (g : GN) (q : GQ)  (p0 : Nat) (p1 : Int32) (hT : TW Y Z T g q ws) (ht0 : T p0 = (5, 0, 0)) : Met l yX8_openClause (.code yX8_openClause cX8_openClause 2 none :: GW) ({ frames := 0, cells := 0, slots := 0, locals := 0 }) (va_Pc [.ref p0, .int p1] (CPC D Y Z ws sz)) (QG (S := va_W) (fun _ => none) (fun u => TW Y Z T g q u ∧ KF 1 T ws u ∧ KF 6 T ws u) (fun u => CB D u (va_A ws sz)) (va_A ws sz)) 0 0 (va_A ws sz) := by
  refine Met.ofW (cc := cX8_openClause) (maxL := 2) (ret := none) (by decide) rfl ?_
  intro p e s m args below meth c s₁ B hml hv
  obtain ⟨rfl, ⟨hsz, hP, hKN, hD0⟩, hSZ⟩ := hv
  have hx := B.exec
  have hb := B.bytes
  have hr := B.returns
  have hts := atoms_spec (ws := .code yX8_openClause cX8_openClause 2 none :: GW) B.pre
  have hg : ∀ w ∈ GW, w.before _ s = true := fun w h => hts w (List.mem_cons_of_mem _ h)
  have hown : s.vm.findClass RX8 = some m.cls := findClass_of_methodNamed B.named
  have hlocks := B.notSynchronized
  subst hsz
  have hD := hD0.self (sz := s.heap.size)
  generalize hAe : va_A ws s.heap.size = A at hD hSZ ⊢
  have hA : ∀ q : Nat, s.heap.size ≤ q → A q := fun q h => by rw [← hAe]; exact Or.inr h
  clear hAe hD0 hts B
  have hl := lv_entry ([.ref p0, .int p1]) (n := 2) (Nat.le_of_ble_eq_true rfl)
  rw [lg_entry_eq]
  generalize (lg_sl ([.ref p0, .int p1]) ++ List.replicate (2 - (lg_sl ([.ref p0, .int p1])).length) Slot.unset).toArray = ls at hl ⊢
  have hl : lv_has ls 2 [(0, .ref p0), (1, .int p1)] := hl
  refine w_start (A0 := A) hP (fun H locs hP hS => ?_)
  refine lv_aload_n hx hb dX8_openClause_0 rfl (lv_at hl 0 rfl) ?_
  refine ok5 hT ht0 (fun p22 x1 x2 x3 x4 x5 x6 x7 x8 a9 a10 a11 a12 a13 x14 hk23 h15 h16 h17 h18 h19 h20 h21 => ?_)
  refine va_get (D := D) (ci := 8) (v := .int x8) (C := RX8) (T := TX8) (N := 14) hx hb hg inGX8 hown hKN.1 hP p22 hk23 rfl 7 (by decide) (hg _ kw_137) (fun _ h9 => h9) rfl dX8_openClause_1 ?_
  refine lv_bipush (v := 12) hx hb dX8_openClause_4 (by decide) ?_
  refine lv_icmp_ge (tgt := 32) hx hb dX8_openClause_6 (by decide) (fun c24 => ?_) (fun c24 => ?_)
  · skip
    have c24 := i_le (show (12 : Int32).toInt = 12 by decide) (Eq.refl x8.toInt) c24
    refine W.widen (k := 0) (n := 0) (Nat.le_of_ble_eq_true rfl) (Nat.le_of_ble_eq_true rfl) ?_
    exact W.vret hx hb hr (fun t ht hW => ⟨⟨ws, rfl, ⟨hT, KF.rf, KF.rf⟩, CB.mk ht hP hD⟩, hS.F ht⟩) hS.2.2 dX8_openClause_32
  · skip
    have c24 := i_nle (show (12 : Int32).toInt = 12 by decide) (Eq.refl x8.toInt) c24
    refine lv_aload_n hx hb dX8_openClause_9 rfl (lv_at hl 0 rfl) ?_
    refine va_get (D := D) (ci := 8) (v := .ref a9) (C := RX8) (T := TX8) (N := 14) hx hb hg inGX8 hown hKN.1 hP p22 hk23 rfl 8 (by decide) (hg _ kw_138) (fun _ h9 => h9) rfl dX8_openClause_10 ?_
    refine lv_aload_n hx hb dX8_openClause_13 rfl (lv_at hl 0 rfl) ?_
    refine va_get (D := D) (ci := 8) (v := .int x8) (C := RX8) (T := TX8) (N := 14) hx hb hg inGX8 hown hKN.1 hP p22 hk23 rfl 7 (by decide) (hg _ kw_137) (fun _ h9 => h9) rfl dX8_openClause_14 ?_
    refine lv_iload_n hx hb dX8_openClause_17 rfl (lv_at hl 1 rfl) ?_
    refine tr_st12 hx hb hKN hP hD hS hT h16 (vp_in_iff.mpr ⟨by omega, by omega⟩) dX8_openClause_18 (fun w25 H locs hP hD hS hT kp26 => ?_)
    have ke27 : KF 1 T ws w25 := KF.tr KF.rf (KF.kp kp26 h16 (by decide))
    have ke28 : KF 6 T ws w25 := KF.tr KF.rf (KF.kp kp26 h16 (by decide))
    have hk29 := kp26 _ _ hk23 (rne ht0 h16 (by decide))
    refine lv_aload_n hx hb dX8_openClause_19 rfl (lv_at hl 0 rfl) ?_
    refine va_get (D := D) (ci := 8) (v := .ref a10) (C := RX8) (T := TX8) (N := 14) hx hb hg inGX8 hown hKN.1 hP p22 hk29 rfl 9 (by decide) (hg _ kw_140) (fun _ h9 => h9) rfl dX8_openClause_20 ?_
    refine lv_aload_n hx hb dX8_openClause_23 rfl (lv_at hl 0 rfl) ?_
    refine va_get (D := D) (ci := 8) (v := .int x8) (C := RX8) (T := TX8) (N := 14) hx hb hg inGX8 hown hKN.1 hP p22 hk29 rfl 7 (by decide) (hg _ kw_137) (fun _ h9 => h9) rfl dX8_openClause_24 ?_
    refine lv_aload_n hx hb dX8_openClause_27 rfl (lv_at hl 0 rfl) ?_
    refine va_get (D := D) (ci := 8) (v := .int x14) (C := RX8) (T := TX8) (N := 14) hx hb hg inGX8 hown hKN.1 hP p22 hk29 rfl 13 (by decide) (hg _ kw_148) (fun _ h9 => h9) rfl dX8_openClause_28 ?_
    refine tr_st12 hx hb hKN hP hD hS hT h17 (vp_in_iff.mpr ⟨by omega, by omega⟩) dX8_openClause_31 (fun w30 H locs hP hD hS hT kp31 => ?_)
    have ke32 : KF 1 T ws w30 := KF.tr ke27 (KF.kp kp31 h17 (by decide))
    have ke33 : KF 6 T ws w30 := KF.tr ke28 (KF.kp kp31 h17 (by decide))
    have hk34 := kp31 _ _ hk29 (rne ht0 h17 (by decide))
    refine W.widen (k := 0) (n := 0) (Nat.le_of_ble_eq_true rfl) (Nat.le_of_ble_eq_true rfl) ?_
    exact W.vret hx hb hr (fun t ht hW => ⟨⟨w30, rfl, ⟨hT, ke32, ke33⟩, CB.mk ht hP hD⟩, hS.F ht⟩) hS.2.2 dX8_openClause_32
set_option maxHeartbeats 4000000 in
set_option maxRecDepth 100000 in
theorem x_X8_endSum (l : Launch) (D : va_G) (Y : Nat → ClassId) (Z : Nat → Nat) (sz : Nat) (ws : va_W) (T : RT) (g : GN) (q : GQ)  (p0 : Nat) (hT : TW Y Z T g q ws) (ht0 : T p0 = (5, 0, 0)) : Met l yX8_endSum (.code yX8_endSum cX8_endSum 1 none :: GW) ({ frames := 0, cells := 0, slots := 0, locals := 0 }) (va_Pc [.ref p0] (CPC D Y Z ws sz)) (QG (S := va_W) (fun _ => none) (fun u => TW Y Z T g q u ∧ KF 1 T ws u ∧ KF 6 T ws u) (fun u => CB D u (va_A ws sz)) (va_A ws sz)) 0 0 (va_A ws sz) := by
  refine Met.ofW (cc := cX8_endSum) (maxL := 1) (ret := none) (by decide) rfl ?_
  intro p e s m args below meth c s₁ B hml hv
  obtain ⟨rfl, ⟨hsz, hP, hKN, hD0⟩, hSZ⟩ := hv
  have hx := B.exec
  have hb := B.bytes
  have hr := B.returns
  have hts := atoms_spec (ws := .code yX8_endSum cX8_endSum 1 none :: GW) B.pre
  have hg : ∀ w ∈ GW, w.before _ s = true := fun w h => hts w (List.mem_cons_of_mem _ h)
  have hown : s.vm.findClass RX8 = some m.cls := findClass_of_methodNamed B.named
  have hlocks := B.notSynchronized
  subst hsz
  have hD := hD0.self (sz := s.heap.size)
  generalize hAe : va_A ws s.heap.size = A at hD hSZ ⊢
  have hA : ∀ q : Nat, s.heap.size ≤ q → A q := fun q h => by rw [← hAe]; exact Or.inr h
  clear hAe hD0 hts B
  have hl := lv_entry ([.ref p0]) (n := 1) (Nat.le_of_ble_eq_true rfl)
  rw [lg_entry_eq]
  generalize (lg_sl ([.ref p0]) ++ List.replicate (1 - (lg_sl ([.ref p0])).length) Slot.unset).toArray = ls at hl ⊢
  have hl : lv_has ls 1 [(0, .ref p0)] := hl
  refine w_start (A0 := A) hP (fun H locs hP hS => ?_)
  refine lv_aload_n hx hb dX8_endSum_0 rfl (lv_at hl 0 rfl) ?_
  refine ok5 hT ht0 (fun p22 x1 x2 x3 x4 x5 x6 x7 x8 a9 a10 a11 a12 a13 x14 hk23 h15 h16 h17 h18 h19 h20 h21 => ?_)
  refine va_get (D := D) (ci := 8) (v := .int x8) (C := RX8) (T := TX8) (N := 14) hx hb hg inGX8 hown hKN.1 hP p22 hk23 rfl 7 (by decide) (hg _ kw_137) (fun _ h9 => h9) rfl dX8_endSum_1 ?_
  refine lv_bipush (v := 12) hx hb dX8_endSum_4 (by decide) ?_
  refine lv_icmp_ge (tgt := 22) hx hb dX8_endSum_6 (by decide) (fun c24 => ?_) (fun c24 => ?_)
  · skip
    have c24 := i_le (show (12 : Int32).toInt = 12 by decide) (Eq.refl x8.toInt) c24
    refine W.widen (k := 0) (n := 0) (Nat.le_of_ble_eq_true rfl) (Nat.le_of_ble_eq_true rfl) ?_
    exact W.vret hx hb hr (fun t ht hW => ⟨⟨ws, rfl, ⟨hT, KF.rf, KF.rf⟩, CB.mk ht hP hD⟩, hS.F ht⟩) hS.2.2 dX8_endSum_22
  · skip
    have c24 := i_nle (show (12 : Int32).toInt = 12 by decide) (Eq.refl x8.toInt) c24
    refine lv_aload_n hx hb dX8_endSum_9 rfl (lv_at hl 0 rfl) ?_
    refine va_get (D := D) (ci := 8) (v := .ref a11) (C := RX8) (T := TX8) (N := 14) hx hb hg inGX8 hown hKN.1 hP p22 hk23 rfl 10 (by decide) (hg _ kw_142) (fun _ h9 => h9) rfl dX8_endSum_10 ?_
    refine lv_aload_n hx hb dX8_endSum_13 rfl (lv_at hl 0 rfl) ?_
    refine va_get (D := D) (ci := 8) (v := .int x8) (C := RX8) (T := TX8) (N := 14) hx hb hg inGX8 hown hKN.1 hP p22 hk23 rfl 7 (by decide) (hg _ kw_137) (fun _ h9 => h9) rfl dX8_endSum_14 ?_
    refine lv_aload_n hx hb dX8_endSum_17 rfl (lv_at hl 0 rfl) ?_
    refine va_get (D := D) (ci := 8) (v := .int x14) (C := RX8) (T := TX8) (N := 14) hx hb hg inGX8 hown hKN.1 hP p22 hk23 rfl 13 (by decide) (hg _ kw_148) (fun _ h9 => h9) rfl dX8_endSum_18 ?_
    refine tr_st12 hx hb hKN hP hD hS hT h18 (vp_in_iff.mpr ⟨by omega, by omega⟩) dX8_endSum_21 (fun w25 H locs hP hD hS hT kp26 => ?_)
    have ke27 : KF 1 T ws w25 := KF.tr KF.rf (KF.kp kp26 h18 (by decide))
    have ke28 : KF 6 T ws w25 := KF.tr KF.rf (KF.kp kp26 h18 (by decide))
    have hk29 := kp26 _ _ hk23 (rne ht0 h18 (by decide))
    refine W.widen (k := 0) (n := 0) (Nat.le_of_ble_eq_true rfl) (Nat.le_of_ble_eq_true rfl) ?_
    exact W.vret hx hb hr (fun t ht hW => ⟨⟨w25, rfl, ⟨hT, ke27, ke28⟩, CB.mk ht hP hD⟩, hS.F ht⟩) hS.2.2 dX8_endSum_22
set_option maxHeartbeats 4000000 in
set_option maxRecDepth 100000 in
theorem x_X8_closeClause (l : Launch) (D : va_G) (Y : Nat → ClassId) (Z : Nat → Nat) (sz : Nat) (ws : va_W) (T : RT) (g : GN) (q : GQ)  (p0 : Nat) (hT : TW Y Z T g q ws) (ht0 : T p0 = (5, 0, 0)) : Met l yX8_closeClause (.code yX8_closeClause cX8_closeClause 1 none :: GW) ({ frames := 0, cells := 0, slots := 0, locals := 0 }) (va_Pc [.ref p0] (CPC D Y Z ws sz)) (QG (S := va_W) (fun _ => none) (fun u => TW Y Z T g q u ∧ KF 1 T ws u ∧ KF 6 T ws u) (fun u => CB D u (va_A ws sz)) (va_A ws sz)) 0 0 (va_A ws sz) := by
  refine Met.ofW (cc := cX8_closeClause) (maxL := 1) (ret := none) (by decide) rfl ?_
  intro p e s m args below meth c s₁ B hml hv
  obtain ⟨rfl, ⟨hsz, hP, hKN, hD0⟩, hSZ⟩ := hv
  have hx := B.exec
  have hb := B.bytes
  have hr := B.returns
  have hts := atoms_spec (ws := .code yX8_closeClause cX8_closeClause 1 none :: GW) B.pre
  have hg : ∀ w ∈ GW, w.before _ s = true := fun w h => hts w (List.mem_cons_of_mem _ h)
  have hown : s.vm.findClass RX8 = some m.cls := findClass_of_methodNamed B.named
  have hlocks := B.notSynchronized
  subst hsz
  have hD := hD0.self (sz := s.heap.size)
  generalize hAe : va_A ws s.heap.size = A at hD hSZ ⊢
  have hA : ∀ q : Nat, s.heap.size ≤ q → A q := fun q h => by rw [← hAe]; exact Or.inr h
  clear hAe hD0 hts B
  have hl := lv_entry ([.ref p0]) (n := 1) (Nat.le_of_ble_eq_true rfl)
  rw [lg_entry_eq]
  generalize (lg_sl ([.ref p0]) ++ List.replicate (1 - (lg_sl ([.ref p0])).length) Slot.unset).toArray = ls at hl ⊢
  have hl : lv_has ls 1 [(0, .ref p0)] := hl
  refine w_start (A0 := A) hP (fun H locs hP hS => ?_)
  refine lv_aload_n hx hb dX8_closeClause_0 rfl (lv_at hl 0 rfl) ?_
  refine ok5 hT ht0 (fun p22 x1 x2 x3 x4 x5 x6 x7 x8 a9 a10 a11 a12 a13 x14 hk23 h15 h16 h17 h18 h19 h20 h21 => ?_)
  refine va_get (D := D) (ci := 8) (v := .int x8) (C := RX8) (T := TX8) (N := 14) hx hb hg inGX8 hown hKN.1 hP p22 hk23 rfl 7 (by decide) (hg _ kw_137) (fun _ h9 => h9) rfl dX8_closeClause_1 ?_
  refine lv_bipush (v := 12) hx hb dX8_closeClause_4 (by decide) ?_
  refine lv_icmp_ge (tgt := 32) hx hb dX8_closeClause_6 (by decide) (fun c24 => ?_) (fun c24 => ?_)
  · skip
    have c24 := i_le (show (12 : Int32).toInt = 12 by decide) (Eq.refl x8.toInt) c24
    refine W.widen (k := 0) (n := 0) (Nat.le_of_ble_eq_true rfl) (Nat.le_of_ble_eq_true rfl) ?_
    exact W.vret hx hb hr (fun t ht hW => ⟨⟨ws, rfl, ⟨hT, KF.rf, KF.rf⟩, CB.mk ht hP hD⟩, hS.F ht⟩) hS.2.2 dX8_closeClause_32
  · skip
    have c24 := i_nle (show (12 : Int32).toInt = 12 by decide) (Eq.refl x8.toInt) c24
    refine lv_aload_n hx hb dX8_closeClause_9 rfl (lv_at hl 0 rfl) ?_
    refine va_get (D := D) (ci := 8) (v := .ref a12) (C := RX8) (T := TX8) (N := 14) hx hb hg inGX8 hown hKN.1 hP p22 hk23 rfl 11 (by decide) (hg _ kw_144) (fun _ h9 => h9) rfl dX8_closeClause_10 ?_
    refine lv_aload_n hx hb dX8_closeClause_13 rfl (lv_at hl 0 rfl) ?_
    refine va_get (D := D) (ci := 8) (v := .int x8) (C := RX8) (T := TX8) (N := 14) hx hb hg inGX8 hown hKN.1 hP p22 hk23 rfl 7 (by decide) (hg _ kw_137) (fun _ h9 => h9) rfl dX8_closeClause_14 ?_
    refine lv_aload_n hx hb dX8_closeClause_17 rfl (lv_at hl 0 rfl) ?_
    refine va_get (D := D) (ci := 8) (v := .int x14) (C := RX8) (T := TX8) (N := 14) hx hb hg inGX8 hown hKN.1 hP p22 hk23 rfl 13 (by decide) (hg _ kw_148) (fun _ h9 => h9) rfl dX8_closeClause_18 ?_
    refine tr_st12 hx hb hKN hP hD hS hT h19 (vp_in_iff.mpr ⟨by omega, by omega⟩) dX8_closeClause_21 (fun w25 H locs hP hD hS hT kp26 => ?_)
    have ke27 : KF 1 T ws w25 := KF.tr KF.rf (KF.kp kp26 h19 (by decide))
    have ke28 : KF 6 T ws w25 := KF.tr KF.rf (KF.kp kp26 h19 (by decide))
    have hk29 := kp26 _ _ hk23 (rne ht0 h19 (by decide))
    refine lv_aload_n hx hb dX8_closeClause_22 rfl (lv_at hl 0 rfl) ?_
    refine lv_dup hx hb dX8_closeClause_23 rfl ?_
    refine va_get (D := D) (ci := 8) (v := .int x8) (C := RX8) (T := TX8) (N := 14) hx hb hg inGX8 hown hKN.1 hP p22 hk29 rfl 7 (by decide) (hg _ kw_137) (fun _ h9 => h9) rfl dX8_closeClause_24 ?_
    refine lv_iconst (v := 1) hx hb dX8_closeClause_27 (by decide) ?_
    refine lv_iadd hx hb dX8_closeClause_28 ?_
    refine lv_topi (fun v30 ev30 => ?_)
    have hv30 := i_add (Eq.refl x8.toInt) (show (1 : Int32).toInt = 1 by decide) ev30 (by omega) (by omega)
    refine va_put (D := D) (ci := 8) (v := .int v30) (ty := .int) (C := RX8) (T := TX8) (N := 14) hx hb hg inGX8 tyX8 tyX8_ok nmX8 hown hKN.1 hP hD hS p22 hk29 rfl 7 (by decide) (hg _ kw_137) (fun _ h9 => h9) rfl (by decide +kernel) rfl rfl (Nat.le_of_ble_eq_true rfl) dX8_closeClause_29 (fun H locs hP hD2 hS => ?_)
    obtain ⟨w31, hP, hD, hT, hk33, kp32⟩ : ∃ wz, va_P D vwCl wz H ∧ va_D A wz ∧ TW Y Z T g q wz ∧ wz[p22]? = some (p0, .inr (8, (.int x1 :: .int x2 :: .int x3 :: .int x4 :: .int x5 :: .int x6 :: .int x7 :: .int v30 :: .ref a9 :: .ref a10 :: .ref a11 :: .ref a12 :: .ref a13 :: .int x14 :: []))) ∧ Kp p0 w25 wz := ⟨_, hP, hD2, st5 hT hD hk29 ht0 ⟨x1, x2, x3, x4, x5, x6, x7, v30, a9, a10, a11, a12, a13, x14, rfl, by omega, h16, h17, h18, h19, h20, by omega⟩, sw_eq hk29, sw_kp hk29⟩
    have ke34 : KF 1 T ws w31 := KF.tr ke27 (KF.kp kp32 ht0 (by decide))
    have ke35 : KF 6 T ws w31 := KF.tr ke28 (KF.kp kp32 ht0 (by decide))
    refine W.widen (k := 0) (n := 0) (Nat.le_of_ble_eq_true rfl) (Nat.le_of_ble_eq_true rfl) ?_
    exact W.vret hx hb hr (fun t ht hW => ⟨⟨w31, rfl, ⟨hT, ke34, ke35⟩, CB.mk ht hP hD⟩, hS.F ht⟩) hS.2.2 dX8_closeClause_32
set_option maxHeartbeats 4000000 in
set_option maxRecDepth 100000 in
theorem x_X4_operand (l : Launch) (D : va_G) (Y : Nat → ClassId) (Z : Nat → Nat) (sz : Nat) (ws : va_W) (T : RT) (g : GN) (q : GQ)  (p1 : Nat) (p0 : Int32) (hT : TW Y Z T g q ws) (ht1 : T p1 = (15, 10, 0)) : Met l yX4_operand (.code yX4_operand cX4_operand 3 (some .long) :: GW) ({ frames := 0, cells := 0, slots := 0, locals := 0 }) (va_Pc [.int p0, .ref p1] (CPC D Y Z ws sz)) (QG (S := Int64) (fun u => some (.long u)) (fun u => True) (fun u => CB D ws (va_A ws sz)) (va_A ws sz)) 0 0 (va_A ws sz) := by
  refine Met.ofW (cc := cX4_operand) (maxL := 3) (ret := (some .long)) (by decide) rfl ?_
  intro p e s m args below meth c s₁ B hml hv
  obtain ⟨rfl, ⟨hsz, hP, hKN, hD0⟩, hSZ⟩ := hv
  have hx := B.exec
  have hb := B.bytes
  have hr := B.returns
  have hts := atoms_spec (ws := .code yX4_operand cX4_operand 3 (some .long) :: GW) B.pre
  have hg : ∀ w ∈ GW, w.before _ s = true := fun w h => hts w (List.mem_cons_of_mem _ h)
  have hown : s.vm.findClass RX4 = some m.cls := findClass_of_methodNamed B.named
  have hlocks := B.notSynchronized
  subst hsz
  have hD := hD0.self (sz := s.heap.size)
  generalize hAe : va_A ws s.heap.size = A at hD hSZ ⊢
  have hA : ∀ q : Nat, s.heap.size ≤ q → A q := fun q h => by rw [← hAe]; exact Or.inr h
  clear hAe hD0 hts B
  have hl := lv_entry ([.int p0, .ref p1]) (n := 3) (Nat.le_of_ble_eq_true rfl)
  rw [lg_entry_eq]
  generalize (lg_sl ([.int p0, .ref p1]) ++ List.replicate (3 - (lg_sl ([.int p0, .ref p1])).length) Slot.unset).toArray = ls at hl ⊢
  have hl : lv_has ls 3 [(0, .int p0), (1, .ref p1)] := hl
  refine w_start (A0 := A) hP (fun H locs hP hS => ?_)
  refine lv_iload_n hx hb dX4_operand_0 rfl (lv_at hl 0 rfl) ?_
  refine lv_ldc (v := 100000) hx hb hown (hg _ kw_783) dX4_operand_1 ?_
  have j1 := rgI p0
  refine lv_icmp_ge (tgt := 9) hx hb dX4_operand_3 (by decide) (fun c2 => ?_) (fun c2 => ?_)
  · skip
    have c2 := i_le (show (100000 : Int32).toInt = 100000 by decide) (Eq.refl p0.toInt) c2
    refine lv_iload_n hx hb dX4_operand_9 rfl (lv_at hl 0 rfl) ?_
    refine lv_ldc (v := 100000) hx hb hown (hg _ kw_783) dX4_operand_10 ?_
    refine lv_isub hx hb dX4_operand_12 ?_
    refine lv_topi (fun v3 ev3 => ?_)
    have hv3 := i_sub (Eq.refl p0.toInt) (show (100000 : Int32).toInt = 100000 by decide) ev3 (by omega) (by omega)
    refine lv_istore_n (lv' := [(2, .int v3), (0, .int p0), (1, .ref p1)]) hx hb dX4_operand_13 rfl hl (by decide) rfl (fun ls hl => ?_)
    refine lv_iload_n hx hb dX4_operand_14 rfl (lv_at hl 0 rfl) ?_
    refine lv_aload_n hx hb dX4_operand_15 rfl (lv_at hl 2 rfl) ?_
    refine tr_len15 (v := 10) hx hb hKN hP hT ht1 rfl dX4_operand_16 ?_
    refine lv_icmp_ge (tgt := 26) hx hb dX4_operand_17 (by decide) (fun c4 => ?_) (fun c4 => ?_)
    · skip
      have c4 := i_le (show (10 : Int32).toInt = 10 by decide) (Eq.refl v3.toInt) c4
      refine lv_lconst (v := 0) hx hb dX4_operand_26 (by decide) ?_
      refine W.widen (k := 0) (n := 0) (Nat.le_of_ble_eq_true rfl) (Nat.le_of_ble_eq_true rfl) ?_
      have zl0 : (0 : Int64).toInt = 0 := by decide
      exact W.lret (v := 0) hx hb hr (fun t ht hW => ⟨⟨(0), rfl, trivial, CB.mk ht hP hD⟩, hS.F ht⟩) hS.2.2 dX4_operand_27
    · skip
      have c4 := i_nle (show (10 : Int32).toInt = 10 by decide) (Eq.refl v3.toInt) c4
      refine lv_aload_n hx hb dX4_operand_20 rfl (lv_at hl 2 rfl) ?_
      refine lv_iload_n hx hb dX4_operand_21 rfl (lv_at hl 0 rfl) ?_
      refine tr_ld15 hx hb hKN hP hT ht1 (vp_in_iff.mpr ⟨by omega, by omega⟩) dX4_operand_22 (fun v5 => ?_)
      refine lv_goto (tgt := 27) hx hb dX4_operand_23 (by decide) ?_
      refine W.widen (k := 0) (n := 0) (Nat.le_of_ble_eq_true rfl) (Nat.le_of_ble_eq_true rfl) ?_
      exact W.lret (v := v5) hx hb hr (fun t ht hW => ⟨⟨v5, rfl, trivial, CB.mk ht hP hD⟩, hS.F ht⟩) hS.2.2 dX4_operand_27
  · skip
    have c2 := i_nle (show (100000 : Int32).toInt = 100000 by decide) (Eq.refl p0.toInt) c2
    refine lv_iload_n hx hb dX4_operand_6 rfl (lv_at hl 0 rfl) ?_
    have j6 := Int32.toInt_toInt64 p0
    refine lv_i2l (v := p0.toInt64) hx hb dX4_operand_7 (rfl) ?_
    refine W.widen (k := 0) (n := 0) (Nat.le_of_ble_eq_true rfl) (Nat.le_of_ble_eq_true rfl) ?_
    exact W.lret (v := p0.toInt64) hx hb hr (fun t ht hW => ⟨⟨p0.toInt64, rfl, trivial, CB.mk ht hP hD⟩, hS.F ht⟩) hS.2.2 dX4_operand_8
set_option maxHeartbeats 4000000 in
set_option maxRecDepth 100000 in
theorem x_X4_run (l : Launch) (D : va_G) (Y : Nat → ClassId) (Z : Nat → Nat) (sz : Nat) (ws : va_W) (T : RT) (g : GN) (q : GQ)  (p0 : Nat) (p1 : Nat) (p4 : Nat) (p2 : Int32) (p3 : Int32) (hT : TW Y Z T g q ws) (ht0 : T p0 = (8, 0, 0)) (ht1 : T p1 = (5, 0, 0)) (ht4 : T p4 = (15, 10, 0)) : Met l yX4_run (.code yX4_run cX4_run 8 (some .long) :: GW) ({ frames := 1, cells := 0, slots := 0, locals := 24 }) (va_Pc [.ref p0, .ref p1, .int p2, .int p3, .ref p4] (CPC D Y Z ws sz)) (QG (S := Int64 × va_W) (fun u => some (.long u.1)) (fun u => TW Y Z T g q u.2 ∧ KF 1 T ws u.2 ∧ KF 6 T ws u.2) (fun u => CB D u.2 (va_A ws sz)) (va_A ws sz)) 0 0 (va_A ws sz) := by
  refine Met.ofW (cc := cX4_run) (maxL := 8) (ret := (some .long)) (by decide) rfl ?_
  intro p e s m args below meth c s₁ B hml hv
  obtain ⟨rfl, ⟨hsz, hP, hKN, hD0⟩, hSZ⟩ := hv
  have hx := B.exec
  have hb := B.bytes
  have hr := B.returns
  have hts := atoms_spec (ws := .code yX4_run cX4_run 8 (some .long) :: GW) B.pre
  have hg : ∀ w ∈ GW, w.before _ s = true := fun w h => hts w (List.mem_cons_of_mem _ h)
  have hown : s.vm.findClass RX4 = some m.cls := findClass_of_methodNamed B.named
  have hlocks := B.notSynchronized
  subst hsz
  have hD := hD0.self (sz := s.heap.size)
  generalize hAe : va_A ws s.heap.size = A at hD hSZ ⊢
  have hA : ∀ q : Nat, s.heap.size ≤ q → A q := fun q h => by rw [← hAe]; exact Or.inr h
  clear hAe hD0 hts B
  have hl := lv_entry ([.ref p0, .ref p1, .int p2, .int p3, .ref p4]) (n := 8) (Nat.le_of_ble_eq_true rfl)
  rw [lg_entry_eq]
  generalize (lg_sl ([.ref p0, .ref p1, .int p2, .int p3, .ref p4]) ++ List.replicate (8 - (lg_sl ([.ref p0, .ref p1, .int p2, .int p3, .ref p4])).length) Slot.unset).toArray = ls at hl ⊢
  have hl : lv_has ls 8 [(0, .ref p0), (1, .ref p1), (2, .int p2), (3, .int p3), (4, .ref p4)] := hl
  refine w_start (A0 := A) hP (fun H locs hP hS => ?_)
  refine lv_iconst (v := 0) hx hb dX4_run_0 (by decide) ?_
  refine lv_istore (lv' := [(5, .int 0), (0, .ref p0), (1, .ref p1), (2, .int p2), (3, .int p3), (4, .ref p4)]) hx hb dX4_run_1 hl (by decide) rfl (fun ls hl => ?_)
  refine lv_iconst (v := 0) hx hb dX4_run_3 (by decide) ?_
  refine lv_iload_n hx hb dX4_run_4 rfl (lv_at hl 3 rfl) ?_
  have zi0 : (0 : Int32).toInt = 0 := by decide
  refine cg0 (rn_S (As := [.int 0, .int p2]) (rest := []) (x_J9_max_7cf53 l D Y Z H.size 0 p2) ⟨hx, hb, hml, hown, hg⟩ lk_X4_42 ⟨CP.blind, CP.at nilP hKN (nilD (A := fun _ => True))⟩ ⟨⟨rfl, rfl⟩, ⟨Nat.le_of_ble_eq_true rfl, Nat.le_of_ble_eq_true rfl⟩, ⟨(Nat.le_of_ble_eq_true rfl), (Nat.le_of_ble_eq_true rfl)⟩⟩ hl.1 rfl (Nat.le_of_ble_eq_true rfl) dX4_run_5) hP hS hA (fun u1 H locs hw2 hP hS => ?_)
  obtain ⟨hw4, hw5⟩ : ((0 : Int32).toInt ≤ u1.toInt ∧ p2.toInt ≤ u1.toInt) ∧ (u1.toInt = (0 : Int32).toInt ∨ u1.toInt = p2.toInt) := hw2
  refine W.eq (g2 := F0 m 8 ls [.int u1]) rfl ?_
  refine lv_istore (lv' := [(6, .int u1), (5, .int 0), (0, .ref p0), (1, .ref p1), (2, .int p2), (3, .int p3), (4, .ref p4)]) hx hb dX4_run_8 hl (by decide) rfl (fun ls hl => ?_)
  refine w_loop (σ := Int32 × Int32 × va_W) (fun xx H locs ls => match xx with | (v60, v61, w62) => va_P D vwCl w62 H ∧ va_D A w62 ∧ va_S A s.heap H locs ∧ lv_has ls 8 [(6, .int v60), (5, .int v61), (0, .ref p0), (1, .ref p1), (2, .int p2), (3, .int p3), (4, .ref p4)] ∧ TW Y Z T g q w62 ∧ KF 1 T ws w62 ∧ KF 6 T ws w62 ∧ (0 ≤ v60.toInt) ∧ (0 ≤ v61.toInt ∧ v61.toInt ≤ 64)) (fun xx => match xx with | (v60, v61, w62) => (400 - v60.toInt).toNat) (u1, 0, ws) ⟨hP, hD, hS, lv_sub hl [0, 1, 2, 3, 4, 5, 6] rfl, hT, KF.rf, KF.rf, by omega, by omega⟩ (fun xx H locs ls hI ih => ?_)
  obtain ⟨v60, v61, w62⟩ := xx
  obtain ⟨hP, hD, hS, hl, hT, ke158, ke159, hq156, hq157⟩ := hI
  have ih160 := ih
  refine lv_iload hx hb dX4_run_10 (lv_at hl 0 rfl) ?_
  refine lv_iload_n hx hb dX4_run_12 rfl (lv_at hl 5 rfl) ?_
  have j161 := rgI v60
  have j162 := rgI p3
  refine lv_icmp_ge (tgt := 160) hx hb dX4_run_13 (by decide) (fun c163 => ?_) (fun c163 => ?_)
  · skip
    have c163 := i_le (Eq.refl p3.toInt) (Eq.refl v60.toInt) c163
    refine lv_iload hx hb dX4_run_160 (lv_at hl 1 rfl) ?_
    refine lv_if_le (tgt := 177) hx hb dX4_run_162 (by decide) (fun c164 => ?_) (fun c164 => ?_)
    · skip
      have c164 := i_le (Eq.refl v61.toInt) (show (0 : Int32).toInt = 0 by decide) c164
      refine lv_lconst (v := 0) hx hb dX4_run_177 (by decide) ?_
      refine W.widen (k := 0) (n := 0) (Nat.le_of_ble_eq_true rfl) (Nat.le_of_ble_eq_true rfl) ?_
      have zl0 : (0 : Int64).toInt = 0 := by decide
      exact W.lret (v := 0) hx hb hr (fun t ht hW => ⟨⟨((0), w62), rfl, ⟨hT, ke158, ke159⟩, CB.mk ht hP hD⟩, hS.F ht⟩) hS.2.2 dX4_run_178
    · skip
      have c164 := i_nle (Eq.refl v61.toInt) (show (0 : Int32).toInt = 0 by decide) c164
      refine lv_aload_n hx hb dX4_run_165 rfl (lv_at hl 2 rfl) ?_
      refine ok8 hT ht0 (fun p167 a165 hk168 h166 => ?_)
      refine va_get (D := D) (ci := 4) (v := .ref a165) (C := RX4) (T := TX4) (N := 1) hx hb hg inGX4 hown hKN.1 hP p167 hk168 rfl 0 (by decide) (hg _ kw_221) (fun _ h9 => h9) rfl dX4_run_166 ?_
      refine lv_iload hx hb dX4_run_169 (lv_at hl 1 rfl) ?_
      refine lv_iconst (v := 1) hx hb dX4_run_171 (by decide) ?_
      refine lv_isub hx hb dX4_run_172 ?_
      refine lv_topi (fun v169 ev169 => ?_)
      have hv169 := i_sub (Eq.refl v61.toInt) (show (1 : Int32).toInt = 1 by decide) ev169 (by omega) (by omega)
      refine tr_ld15 hx hb hKN hP hT h166 (vp_in_iff.mpr ⟨by omega, by omega⟩) dX4_run_173 (fun v170 => ?_)
      refine lv_goto (tgt := 178) hx hb dX4_run_174 (by decide) ?_
      refine W.widen (k := 0) (n := 0) (Nat.le_of_ble_eq_true rfl) (Nat.le_of_ble_eq_true rfl) ?_
      exact W.lret (v := v170) hx hb hr (fun t ht hW => ⟨⟨(v170, w62), rfl, ⟨hT, ke158, ke159⟩, CB.mk ht hP hD⟩, hS.F ht⟩) hS.2.2 dX4_run_178
  · skip
    have c163 := i_nle (Eq.refl p3.toInt) (Eq.refl v60.toInt) c163
    refine lv_iload hx hb dX4_run_16 (lv_at hl 0 rfl) ?_
    refine lv_sipush (v := 400) hx hb dX4_run_18 (by decide) ?_
    refine lv_icmp_ge (tgt := 160) hx hb dX4_run_21 (by decide) (fun c171 => ?_) (fun c171 => ?_)
    · skip
      have c171 := i_le (show (400 : Int32).toInt = 400 by decide) (Eq.refl v60.toInt) c171
      refine lv_iload hx hb dX4_run_160 (lv_at hl 1 rfl) ?_
      refine lv_if_le (tgt := 177) hx hb dX4_run_162 (by decide) (fun c172 => ?_) (fun c172 => ?_)
      · skip
        have c172 := i_le (Eq.refl v61.toInt) (show (0 : Int32).toInt = 0 by decide) c172
        refine lv_lconst (v := 0) hx hb dX4_run_177 (by decide) ?_
        refine W.widen (k := 0) (n := 0) (Nat.le_of_ble_eq_true rfl) (Nat.le_of_ble_eq_true rfl) ?_
        have zl0 : (0 : Int64).toInt = 0 := by decide
        exact W.lret (v := 0) hx hb hr (fun t ht hW => ⟨⟨((0), w62), rfl, ⟨hT, ke158, ke159⟩, CB.mk ht hP hD⟩, hS.F ht⟩) hS.2.2 dX4_run_178
      · skip
        have c172 := i_nle (Eq.refl v61.toInt) (show (0 : Int32).toInt = 0 by decide) c172
        refine lv_aload_n hx hb dX4_run_165 rfl (lv_at hl 2 rfl) ?_
        refine ok8 hT ht0 (fun p175 a173 hk176 h174 => ?_)
        refine va_get (D := D) (ci := 4) (v := .ref a173) (C := RX4) (T := TX4) (N := 1) hx hb hg inGX4 hown hKN.1 hP p175 hk176 rfl 0 (by decide) (hg _ kw_221) (fun _ h9 => h9) rfl dX4_run_166 ?_
        refine lv_iload hx hb dX4_run_169 (lv_at hl 1 rfl) ?_
        refine lv_iconst (v := 1) hx hb dX4_run_171 (by decide) ?_
        refine lv_isub hx hb dX4_run_172 ?_
        refine lv_topi (fun v177 ev177 => ?_)
        have hv177 := i_sub (Eq.refl v61.toInt) (show (1 : Int32).toInt = 1 by decide) ev177 (by omega) (by omega)
        refine tr_ld15 hx hb hKN hP hT h174 (vp_in_iff.mpr ⟨by omega, by omega⟩) dX4_run_173 (fun v178 => ?_)
        refine lv_goto (tgt := 178) hx hb dX4_run_174 (by decide) ?_
        refine W.widen (k := 0) (n := 0) (Nat.le_of_ble_eq_true rfl) (Nat.le_of_ble_eq_true rfl) ?_
        exact W.lret (v := v178) hx hb hr (fun t ht hW => ⟨⟨(v178, w62), rfl, ⟨hT, ke158, ke159⟩, CB.mk ht hP hD⟩, hS.F ht⟩) hS.2.2 dX4_run_178
    · skip
      have c171 := i_nle (show (400 : Int32).toInt = 400 by decide) (Eq.refl v60.toInt) c171
      refine lv_aload_n hx hb dX4_run_24 rfl (lv_at hl 3 rfl) ?_
      refine ok5 hT ht1 (fun p200 x179 x180 x181 x182 x183 x184 x185 x186 a187 a188 a189 a190 a191 x192 hk201 h193 h194 h195 h196 h197 h198 h199 => ?_)
      refine va_getN (D := D) (ci := 8) (v := .ref a191) (C := RX8) (T := TX8) (N := 14) hx hb hg inGX8 hown hKN.1 hP p200 hk201 rfl 12 (by decide) (va_Nw.use rfl (hKN.2.1 _ kn_147 rfl)) (fun _ h9 => h9) rfl dX4_run_25 ?_
      refine lv_iload hx hb dX4_run_28 (lv_at hl 0 rfl) ?_
      refine tr_ld12 hx hb hKN hP hT h198 (vp_in_iff.mpr ⟨by omega, by omega⟩) dX4_run_30 (fun v202 => ?_)
      refine lv_istore (lv' := [(7, .int v202), (6, .int v60), (5, .int v61), (0, .ref p0), (1, .ref p1), (2, .int p2), (3, .int p3), (4, .ref p4)]) hx hb dX4_run_31 hl (by decide) rfl (fun ls hl => ?_)
      refine lv_iload hx hb dX4_run_33 (lv_at hl 0 rfl) ?_
      refine lv_ldc (v := 200000) hx hb hown (hg _ kw_779) dX4_run_35 ?_
      have j203 := rgI v202
      refine lv_icmp_ge (tgt := 70) hx hb dX4_run_37 (by decide) (fun c204 => ?_) (fun c204 => ?_)
      · skip
        have c204 := i_le (show (200000 : Int32).toInt = 200000 by decide) (Eq.refl v202.toInt) c204
        refine lv_iload hx hb dX4_run_70 (lv_at hl 0 rfl) ?_
        refine lv_ldc (v := 200261) hx hb hown (hg _ kw_784) dX4_run_72 ?_
        refine lv_icmp_ne (tgt := 105) hx hb dX4_run_74 (by decide) (fun c205 => ?_) (fun c205 => ?_)
        · skip
          have c205 := i_ne (Eq.refl v202.toInt) (show (200261 : Int32).toInt = 200261 by decide) c205
          refine lv_iload hx hb dX4_run_105 (lv_at hl 0 rfl) ?_
          refine lv_ldc (v := 200000) hx hb hown (hg _ kw_779) dX4_run_107 ?_
          refine lv_icmp_le (tgt := 154) hx hb dX4_run_109 (by decide) (fun c206 => ?_) (fun c206 => ?_)
          · skip
            have c206 := i_le (Eq.refl v202.toInt) (show (200000 : Int32).toInt = 200000 by decide) c206
            obtain ⟨v207, ev207⟩ : ∃ y : Int32, y = v60 + 1 := ⟨_, rfl⟩
            have hv207 := i_add (Eq.refl v60.toInt) (show (1 : Int32).toInt = 1 by decide) ev207 (by omega) (by omega)
            refine lv_iinc (v := v207) (lv' := [(6, .int v207), (7, .int v202), (5, .int v61), (0, .ref p0), (1, .ref p1), (2, .int p2), (3, .int p3), (4, .ref p4)]) hx hb dX4_run_154 hl (k := 1) rfl (by rw [ev207]; rfl) (by decide) rfl (fun ls hl => ?_)
            refine lv_goto (tgt := 10) hx hb dX4_run_157 (by decide) ?_
            exact ih160 (v207, v61, w62) H locs ls (by show (400 - v207.toInt).toNat < (400 - v60.toInt).toNat; omega) ⟨hP, hD, hS, lv_sub hl [0, 2, 3, 4, 5, 6, 7] rfl, hT, ke158, ke159, by omega, by omega⟩
          · skip
            have c206 := i_nle (Eq.refl v202.toInt) (show (200000 : Int32).toInt = 200000 by decide) c206
            refine lv_iload hx hb dX4_run_112 (lv_at hl 2 rfl) ?_
            refine lv_iconst (v := 1) hx hb dX4_run_114 (by decide) ?_
            refine lv_icmp_le (tgt := 154) hx hb dX4_run_115 (by decide) (fun c208 => ?_) (fun c208 => ?_)
            · skip
              have c208 := i_le (Eq.refl v61.toInt) (show (1 : Int32).toInt = 1 by decide) c208
              obtain ⟨v209, ev209⟩ : ∃ y : Int32, y = v60 + 1 := ⟨_, rfl⟩
              have hv209 := i_add (Eq.refl v60.toInt) (show (1 : Int32).toInt = 1 by decide) ev209 (by omega) (by omega)
              refine lv_iinc (v := v209) (lv' := [(6, .int v209), (7, .int v202), (5, .int v61), (0, .ref p0), (1, .ref p1), (2, .int p2), (3, .int p3), (4, .ref p4)]) hx hb dX4_run_154 hl (k := 1) rfl (by rw [ev209]; rfl) (by decide) rfl (fun ls hl => ?_)
              refine lv_goto (tgt := 10) hx hb dX4_run_157 (by decide) ?_
              exact ih160 (v209, v61, w62) H locs ls (by show (400 - v209.toInt).toNat < (400 - v60.toInt).toNat; omega) ⟨hP, hD, hS, lv_sub hl [0, 2, 3, 4, 5, 6, 7] rfl, hT, ke158, ke159, by omega, by omega⟩
            · skip
              have c208 := i_nle (Eq.refl v61.toInt) (show (1 : Int32).toInt = 1 by decide) c208
              obtain ⟨v210, ev210⟩ : ∃ y : Int32, y = v61 + (-1) := ⟨_, rfl⟩
              have hv210 := i_add (Eq.refl v61.toInt) (show ((-1) : Int32).toInt = -1 by decide) ev210 (by omega) (by omega)
              refine lv_iinc (v := v210) (lv' := [(5, .int v210), (7, .int v202), (6, .int v60), (0, .ref p0), (1, .ref p1), (2, .int p2), (3, .int p3), (4, .ref p4)]) hx hb dX4_run_118 hl (k := 2) rfl (by rw [ev210]; rfl) (by decide) rfl (fun ls hl => ?_)
              refine lv_aload_n hx hb dX4_run_121 rfl (lv_at hl 3 rfl) ?_
              refine ok8 hT ht0 (fun p213 a211 hk214 h212 => ?_)
              refine va_get (D := D) (ci := 4) (v := .ref a211) (C := RX4) (T := TX4) (N := 1) hx hb hg inGX4 hown hKN.1 hP p213 hk214 rfl 0 (by decide) (hg _ kw_221) (fun _ h9 => h9) rfl dX4_run_122 ?_
              refine lv_iload hx hb dX4_run_125 (lv_at hl 0 rfl) ?_
              refine lv_iconst (v := 1) hx hb dX4_run_127 (by decide) ?_
              refine lv_isub hx hb dX4_run_128 ?_
              refine lv_topi (fun v215 ev215 => ?_)
              have hv215 := i_sub (Eq.refl v210.toInt) (show (1 : Int32).toInt = 1 by decide) ev215 (by omega) (by omega)
              refine lv_iload hx hb dX4_run_129 (lv_at hl 1 rfl) ?_
              refine lv_ldc (v := 200000) hx hb hown (hg _ kw_779) dX4_run_131 ?_
              refine lv_isub hx hb dX4_run_133 ?_
              refine lv_topi (fun v216 ev216 => ?_)
              have hv216 := i_sub (Eq.refl v202.toInt) (show (200000 : Int32).toInt = 200000 by decide) ev216 (by omega) (by omega)
              refine lv_aload_n hx hb dX4_run_134 rfl (lv_at hl 3 rfl) ?_
              refine va_get (D := D) (ci := 4) (v := .ref a211) (C := RX4) (T := TX4) (N := 1) hx hb hg inGX4 hown hKN.1 hP p213 hk214 rfl 0 (by decide) (hg _ kw_221) (fun _ h9 => h9) rfl dX4_run_135 ?_
              refine lv_iload hx hb dX4_run_138 (lv_at hl 0 rfl) ?_
              refine lv_iconst (v := 1) hx hb dX4_run_140 (by decide) ?_
              refine lv_isub hx hb dX4_run_141 ?_
              refine lv_topi (fun v217 ev217 => ?_)
              have hv217 := i_sub (Eq.refl v210.toInt) (show (1 : Int32).toInt = 1 by decide) ev217 (by omega) (by omega)
              refine tr_ld15 hx hb hKN hP hT h212 (vp_in_iff.mpr ⟨by omega, by omega⟩) dX4_run_142 (fun v218 => ?_)
              refine lv_aload_n hx hb dX4_run_143 rfl (lv_at hl 3 rfl) ?_
              refine va_get (D := D) (ci := 4) (v := .ref a211) (C := RX4) (T := TX4) (N := 1) hx hb hg inGX4 hown hKN.1 hP p213 hk214 rfl 0 (by decide) (hg _ kw_221) (fun _ h9 => h9) rfl dX4_run_144 ?_
              refine lv_iload hx hb dX4_run_147 (lv_at hl 0 rfl) ?_
              refine tr_ld15 hx hb hKN hP hT h212 (vp_in_iff.mpr ⟨by omega, by omega⟩) dX4_run_149 (fun v219 => ?_)
              refine cg0 (rn_S (As := [.int v216, .long v218, .long v219]) (rest := [.int v215, .ref a211]) (x_X4_combine l D Y Z H.size v216 v218 v219) ⟨hx, hb, hml, hown, hg⟩ lk_X4_57 ⟨CP.blind, CP.at nilP hKN (nilD (A := fun _ => True))⟩ ⟨⟨rfl, rfl⟩, ⟨Nat.le_of_ble_eq_true rfl, Nat.le_of_ble_eq_true rfl⟩, ⟨(Nat.le_of_ble_eq_true rfl), (Nat.le_of_ble_eq_true rfl)⟩⟩ hl.1 rfl (Nat.le_of_ble_eq_true rfl) dX4_run_150) hP hS hA (fun u220 H locs hw221 hP hS => ?_)
              refine W.eq (g2 := F0 m 153 ls [.long u220, .int v215, .ref a211]) rfl ?_
              refine tr_st15 hx hb hKN hP hD hS hT h212 (vp_in_iff.mpr ⟨by omega, by omega⟩) dX4_run_153 (fun w223 H locs hP hD hS hT kp224 => ?_)
              have ke225 : KF 1 T ws w223 := KF.tr ke158 (KF.kp kp224 h212 (by decide))
              have ke226 : KF 6 T ws w223 := KF.tr ke159 (KF.kp kp224 h212 (by decide))
              have hk227 := kp224 _ _ hk201 (rne ht1 h212 (by decide))
              have hk228 := kp224 _ _ hk214 (rne ht0 h212 (by decide))
              obtain ⟨v229, ev229⟩ : ∃ y : Int32, y = v60 + 1 := ⟨_, rfl⟩
              have hv229 := i_add (Eq.refl v60.toInt) (show (1 : Int32).toInt = 1 by decide) ev229 (by omega) (by omega)
              refine lv_iinc (v := v229) (lv' := [(6, .int v229), (5, .int v210), (7, .int v202), (0, .ref p0), (1, .ref p1), (2, .int p2), (3, .int p3), (4, .ref p4)]) hx hb dX4_run_154 hl (k := 2) rfl (by rw [ev229]; rfl) (by decide) rfl (fun ls hl => ?_)
              refine lv_goto (tgt := 10) hx hb dX4_run_157 (by decide) ?_
              exact ih160 (v229, v210, w223) H locs ls (by show (400 - v229.toInt).toNat < (400 - v60.toInt).toNat; omega) ⟨hP, hD, hS, lv_sub hl [0, 1, 3, 4, 5, 6, 7] rfl, hT, ke225, ke226, by omega, by omega⟩
        · skip
          have c205 := i_eq (Eq.refl v202.toInt) (show (200261 : Int32).toInt = 200261 by decide) c205
          refine lv_iload hx hb dX4_run_77 (lv_at hl 2 rfl) ?_
          refine lv_if_le (tgt := 105) hx hb dX4_run_79 (by decide) (fun c230 => ?_) (fun c230 => ?_)
          · skip
            have c230 := i_le (Eq.refl v61.toInt) (show (0 : Int32).toInt = 0 by decide) c230
            refine lv_iload hx hb dX4_run_105 (lv_at hl 0 rfl) ?_
            refine lv_ldc (v := 200000) hx hb hown (hg _ kw_779) dX4_run_107 ?_
            refine lv_icmp_le (tgt := 154) hx hb dX4_run_109 (by decide) (fun c231 => ?_) (fun c231 => ?_)
            · have c231 := i_le (Eq.refl v202.toInt) (show (200000 : Int32).toInt = 200000 by decide) c231; exfalso; omega
            have c231 := i_nle (Eq.refl v202.toInt) (show (200000 : Int32).toInt = 200000 by decide) c231
            refine lv_iload hx hb dX4_run_112 (lv_at hl 2 rfl) ?_
            refine lv_iconst (v := 1) hx hb dX4_run_114 (by decide) ?_
            refine lv_icmp_le (tgt := 154) hx hb dX4_run_115 (by decide) (fun c232 => ?_) (fun c232 => ?_)
            rotate_left
            · have c232 := i_nle (Eq.refl v61.toInt) (show (1 : Int32).toInt = 1 by decide) c232; exfalso; omega
            have c232 := i_le (Eq.refl v61.toInt) (show (1 : Int32).toInt = 1 by decide) c232
            obtain ⟨v233, ev233⟩ : ∃ y : Int32, y = v60 + 1 := ⟨_, rfl⟩
            have hv233 := i_add (Eq.refl v60.toInt) (show (1 : Int32).toInt = 1 by decide) ev233 (by omega) (by omega)
            refine lv_iinc (v := v233) (lv' := [(6, .int v233), (7, .int v202), (5, .int v61), (0, .ref p0), (1, .ref p1), (2, .int p2), (3, .int p3), (4, .ref p4)]) hx hb dX4_run_154 hl (k := 1) rfl (by rw [ev233]; rfl) (by decide) rfl (fun ls hl => ?_)
            refine lv_goto (tgt := 10) hx hb dX4_run_157 (by decide) ?_
            exact ih160 (v233, v61, w62) H locs ls (by show (400 - v233.toInt).toNat < (400 - v60.toInt).toNat; omega) ⟨hP, hD, hS, lv_sub hl [0, 2, 3, 4, 5, 6, 7] rfl, hT, ke158, ke159, by omega, by omega⟩
          · skip
            have c230 := i_nle (Eq.refl v61.toInt) (show (0 : Int32).toInt = 0 by decide) c230
            refine lv_aload_n hx hb dX4_run_82 rfl (lv_at hl 3 rfl) ?_
            refine ok8 hT ht0 (fun p236 a234 hk237 h235 => ?_)
            refine va_get (D := D) (ci := 4) (v := .ref a234) (C := RX4) (T := TX4) (N := 1) hx hb hg inGX4 hown hKN.1 hP p236 hk237 rfl 0 (by decide) (hg _ kw_221) (fun _ h9 => h9) rfl dX4_run_83 ?_
            refine lv_iload hx hb dX4_run_86 (lv_at hl 2 rfl) ?_
            refine lv_iconst (v := 1) hx hb dX4_run_88 (by decide) ?_
            refine lv_isub hx hb dX4_run_89 ?_
            refine lv_topi (fun v238 ev238 => ?_)
            have hv238 := i_sub (Eq.refl v61.toInt) (show (1 : Int32).toInt = 1 by decide) ev238 (by omega) (by omega)
            refine lv_lconst (v := 1) hx hb dX4_run_90 (by decide) ?_
            refine lv_aload_n hx hb dX4_run_91 rfl (lv_at hl 3 rfl) ?_
            refine va_get (D := D) (ci := 4) (v := .ref a234) (C := RX4) (T := TX4) (N := 1) hx hb hg inGX4 hown hKN.1 hP p236 hk237 rfl 0 (by decide) (hg _ kw_221) (fun _ h9 => h9) rfl dX4_run_92 ?_
            refine lv_iload hx hb dX4_run_95 (lv_at hl 2 rfl) ?_
            refine lv_iconst (v := 1) hx hb dX4_run_97 (by decide) ?_
            refine lv_isub hx hb dX4_run_98 ?_
            refine lv_topi (fun v239 ev239 => ?_)
            have hv239 := i_sub (Eq.refl v61.toInt) (show (1 : Int32).toInt = 1 by decide) ev239 (by omega) (by omega)
            refine tr_ld15 hx hb hKN hP hT h235 (vp_in_iff.mpr ⟨by omega, by omega⟩) dX4_run_99 (fun v240 => ?_)
            refine lv_lsub hx hb dX4_run_100 ?_
            refine lv_topl (fun v241 ev241 => ?_)
            refine tr_st15 hx hb hKN hP hD hS hT h235 (vp_in_iff.mpr ⟨by omega, by omega⟩) dX4_run_101 (fun w242 H locs hP hD hS hT kp243 => ?_)
            have ke244 : KF 1 T ws w242 := KF.tr ke158 (KF.kp kp243 h235 (by decide))
            have ke245 : KF 6 T ws w242 := KF.tr ke159 (KF.kp kp243 h235 (by decide))
            have hk246 := kp243 _ _ hk201 (rne ht1 h235 (by decide))
            have hk247 := kp243 _ _ hk237 (rne ht0 h235 (by decide))
            refine lv_goto (tgt := 154) hx hb dX4_run_102 (by decide) ?_
            obtain ⟨v248, ev248⟩ : ∃ y : Int32, y = v60 + 1 := ⟨_, rfl⟩
            have hv248 := i_add (Eq.refl v60.toInt) (show (1 : Int32).toInt = 1 by decide) ev248 (by omega) (by omega)
            refine lv_iinc (v := v248) (lv' := [(6, .int v248), (7, .int v202), (5, .int v61), (0, .ref p0), (1, .ref p1), (2, .int p2), (3, .int p3), (4, .ref p4)]) hx hb dX4_run_154 hl (k := 1) rfl (by rw [ev248]; rfl) (by decide) rfl (fun ls hl => ?_)
            refine lv_goto (tgt := 10) hx hb dX4_run_157 (by decide) ?_
            exact ih160 (v248, v61, w242) H locs ls (by show (400 - v248.toInt).toNat < (400 - v60.toInt).toNat; omega) ⟨hP, hD, hS, lv_sub hl [0, 2, 3, 4, 5, 6, 7] rfl, hT, ke244, ke245, by omega, by omega⟩
      · skip
        have c204 := i_nle (show (200000 : Int32).toInt = 200000 by decide) (Eq.refl v202.toInt) c204
        refine lv_iload hx hb dX4_run_40 (lv_at hl 2 rfl) ?_
        refine lv_aload_n hx hb dX4_run_42 rfl (lv_at hl 3 rfl) ?_
        refine ok8 hT ht0 (fun p251 a249 hk252 h250 => ?_)
        refine va_get (D := D) (ci := 4) (v := .ref a249) (C := RX4) (T := TX4) (N := 1) hx hb hg inGX4 hown hKN.1 hP p251 hk252 rfl 0 (by decide) (hg _ kw_221) (fun _ h9 => h9) rfl dX4_run_43 ?_
        refine tr_len15 (v := 64) hx hb hKN hP hT h250 rfl dX4_run_46 ?_
        refine lv_icmp_ge (tgt := 70) hx hb dX4_run_47 (by decide) (fun c253 => ?_) (fun c253 => ?_)
        · skip
          have c253 := i_le (show (64 : Int32).toInt = 64 by decide) (Eq.refl v61.toInt) c253
          refine lv_iload hx hb dX4_run_70 (lv_at hl 0 rfl) ?_
          refine lv_ldc (v := 200261) hx hb hown (hg _ kw_784) dX4_run_72 ?_
          refine lv_icmp_ne (tgt := 105) hx hb dX4_run_74 (by decide) (fun c254 => ?_) (fun c254 => ?_)
          rotate_left
          · have c254 := i_eq (Eq.refl v202.toInt) (show (200261 : Int32).toInt = 200261 by decide) c254; exfalso; omega
          have c254 := i_ne (Eq.refl v202.toInt) (show (200261 : Int32).toInt = 200261 by decide) c254
          refine lv_iload hx hb dX4_run_105 (lv_at hl 0 rfl) ?_
          refine lv_ldc (v := 200000) hx hb hown (hg _ kw_779) dX4_run_107 ?_
          refine lv_icmp_le (tgt := 154) hx hb dX4_run_109 (by decide) (fun c255 => ?_) (fun c255 => ?_)
          rotate_left
          · have c255 := i_nle (Eq.refl v202.toInt) (show (200000 : Int32).toInt = 200000 by decide) c255; exfalso; omega
          have c255 := i_le (Eq.refl v202.toInt) (show (200000 : Int32).toInt = 200000 by decide) c255
          obtain ⟨v256, ev256⟩ : ∃ y : Int32, y = v60 + 1 := ⟨_, rfl⟩
          have hv256 := i_add (Eq.refl v60.toInt) (show (1 : Int32).toInt = 1 by decide) ev256 (by omega) (by omega)
          refine lv_iinc (v := v256) (lv' := [(6, .int v256), (7, .int v202), (5, .int v61), (0, .ref p0), (1, .ref p1), (2, .int p2), (3, .int p3), (4, .ref p4)]) hx hb dX4_run_154 hl (k := 1) rfl (by rw [ev256]; rfl) (by decide) rfl (fun ls hl => ?_)
          refine lv_goto (tgt := 10) hx hb dX4_run_157 (by decide) ?_
          exact ih160 (v256, v61, w62) H locs ls (by show (400 - v256.toInt).toNat < (400 - v60.toInt).toNat; omega) ⟨hP, hD, hS, lv_sub hl [0, 2, 3, 4, 5, 6, 7] rfl, hT, ke158, ke159, by omega, by omega⟩
        · skip
          have c253 := i_nle (show (64 : Int32).toInt = 64 by decide) (Eq.refl v61.toInt) c253
          refine lv_aload_n hx hb dX4_run_50 rfl (lv_at hl 3 rfl) ?_
          refine va_get (D := D) (ci := 4) (v := .ref a249) (C := RX4) (T := TX4) (N := 1) hx hb hg inGX4 hown hKN.1 hP p251 hk252 rfl 0 (by decide) (hg _ kw_221) (fun _ h9 => h9) rfl dX4_run_51 ?_
          refine lv_iload hx hb dX4_run_54 (lv_at hl 2 rfl) ?_
          refine lv_iload hx hb dX4_run_56 (lv_at hl 0 rfl) ?_
          refine lv_aload hx hb dX4_run_58 (lv_at hl 7 rfl) ?_
          refine cga (rn_S (As := [.int v202, .ref p4]) (rest := [.int v61, .ref a249]) (x_X4_operand l D Y Z H.size w62 T g q p4 v202 hT ht4) ⟨hx, hb, hml, hown, hg⟩ lk_X4_52 ⟨CPC.blind, CPC.at hP hKN hD hSZ hS hA⟩ ⟨⟨rfl, rfl⟩, ⟨Nat.le_of_ble_eq_true rfl, Nat.le_of_ble_eq_true rfl⟩, ⟨(Nat.le_of_ble_eq_true rfl), (Nat.le_of_ble_eq_true rfl)⟩⟩ hl.1 rfl (Nat.le_of_ble_eq_true rfl) dX4_run_60) hP hD hS hA (fun u257 H locs hw258 hP hD hS => ?_)
          refine W.eq (g2 := F0 m 63 ls [.long u257, .int v61, .ref a249]) rfl ?_
          refine tr_st15 hx hb hKN hP hD hS hT h250 (vp_in_iff.mpr ⟨by omega, by omega⟩) dX4_run_63 (fun w260 H locs hP hD hS hT kp261 => ?_)
          have ke262 : KF 1 T ws w260 := KF.tr ke158 (KF.kp kp261 h250 (by decide))
          have ke263 : KF 6 T ws w260 := KF.tr ke159 (KF.kp kp261 h250 (by decide))
          have hk264 := kp261 _ _ hk201 (rne ht1 h250 (by decide))
          have hk265 := kp261 _ _ hk252 (rne ht0 h250 (by decide))
          obtain ⟨v266, ev266⟩ : ∃ y : Int32, y = v61 + 1 := ⟨_, rfl⟩
          have hv266 := i_add (Eq.refl v61.toInt) (show (1 : Int32).toInt = 1 by decide) ev266 (by omega) (by omega)
          refine lv_iinc (v := v266) (lv' := [(5, .int v266), (7, .int v202), (6, .int v60), (0, .ref p0), (1, .ref p1), (2, .int p2), (3, .int p3), (4, .ref p4)]) hx hb dX4_run_64 hl (k := 2) rfl (by rw [ev266]; rfl) (by decide) rfl (fun ls hl => ?_)
          refine lv_goto (tgt := 154) hx hb dX4_run_67 (by decide) ?_
          obtain ⟨v267, ev267⟩ : ∃ y : Int32, y = v60 + 1 := ⟨_, rfl⟩
          have hv267 := i_add (Eq.refl v60.toInt) (show (1 : Int32).toInt = 1 by decide) ev267 (by omega) (by omega)
          refine lv_iinc (v := v267) (lv' := [(6, .int v267), (5, .int v266), (7, .int v202), (0, .ref p0), (1, .ref p1), (2, .int p2), (3, .int p3), (4, .ref p4)]) hx hb dX4_run_154 hl (k := 2) rfl (by rw [ev267]; rfl) (by decide) rfl (fun ls hl => ?_)
          refine lv_goto (tgt := 10) hx hb dX4_run_157 (by decide) ?_
          exact ih160 (v267, v266, w260) H locs ls (by show (400 - v267.toInt).toNat < (400 - v60.toInt).toNat; omega) ⟨hP, hD, hS, lv_sub hl [0, 1, 3, 4, 5, 6, 7] rfl, hT, ke262, ke263, by omega, by omega⟩
