set_option maxHeartbeats 4000000 in
set_option maxRecDepth 100000 in
theorem x_X10_isWeighed (l : Launch) (D : va_G) (Y : Nat → ClassId) (Z : Nat → Nat) (sz : Nat) (ws : va_W) (T : RT) (g : GN) (q : GQ)  (p0 : Nat) (p1 : Int32) (p2 : Int32) (p3 : Int32) (hT : TW Y Z T g q ws) (ht0 : T p0 = (1, 0, 0)) : Met l yX10_isWeighed (.code yX10_isWeighed cX10_isWeighed 4 (some .boolean) :: GW) ({ frames := 6, cells := 13, slots := 91, locals := 156 }) (va_Pc [.ref p0, .int p1, .int p2, .int p3] (CPC D Y Z ws sz)) (QG (S := Int32 × va_W × RT) (fun u => some (.int u.1)) (fun u => TLe T u.2.2 ∧ TW Y Z u.2.2 g q u.2.1 ∧ KF 1 T ws u.2.1 ∧ (0 ≤ u.1.toInt ∧ u.1.toInt ≤ 1)) (fun u => CB D u.2.1 (va_A ws sz)) (va_A ws sz)) 13 91 (va_A ws sz) := by
  refine Met.ofW (cc := cX10_isWeighed) (maxL := 4) (ret := (some .boolean)) (by decide) rfl ?_
  intro p e s m args below meth c s₁ B hml hv
  obtain ⟨rfl, ⟨hsz, hP, hKN, hD0⟩, hSZ⟩ := hv
  have hx := B.exec
  have hb := B.bytes
  have hr := B.returns
  have hts := atoms_spec (ws := .code yX10_isWeighed cX10_isWeighed 4 (some .boolean) :: GW) B.pre
  have hg : ∀ w ∈ GW, w.before _ s = true := fun w h => hts w (List.mem_cons_of_mem _ h)
  have hown : s.vm.findClass RX10 = some m.cls := findClass_of_methodNamed B.named
  have hlocks := B.notSynchronized
  subst hsz
  have hD := hD0.self (sz := s.heap.size)
  generalize hAe : va_A ws s.heap.size = A at hD hSZ ⊢
  have hA : ∀ q : Nat, s.heap.size ≤ q → A q := fun q h => by rw [← hAe]; exact Or.inr h
  clear hAe hD0 hts B
  have hl := lv_entry ([.ref p0, .int p1, .int p2, .int p3]) (n := 4) (Nat.le_of_ble_eq_true rfl)
  rw [lg_entry_eq]
  generalize (lg_sl ([.ref p0, .int p1, .int p2, .int p3]) ++ List.replicate (4 - (lg_sl ([.ref p0, .int p1, .int p2, .int p3])).length) Slot.unset).toArray = ls at hl ⊢
  have hl : lv_has ls 4 [(0, .ref p0), (1, .int p1), (2, .int p2), (3, .int p3)] := hl
  refine w_start (A0 := A) hP (fun H locs hP hS => ?_)
  refine lv_aload_n hx hb dX10_isWeighed_0 rfl (lv_at hl 0 rfl) ?_
  refine lv_iload_n hx hb dX10_isWeighed_1 rfl (lv_at hl 1 rfl) ?_
  refine ok1 hT ht0 (fun p42 a1 a2 a3 a4 a5 x6 x7 x8 a9 a10 a11 a12 a13 a14 a15 a16 a17 x18 a19 a20 hk43 h21 h22 h23 h24 h25 h26 h27 h28 h29 h30 h31 h32 h33 h34 h35 h36 h37 h38 h39 h40 h41 => ?_)
  refine cga (rn_V (As := [.int p1]) (rest := []) (b := p0) (x_X10_sorterAt l D Y Z H.size ws T g q p0 p1 hT ht0) ⟨hx, hb, hml, hown, hg⟩ lk_X10_349 ⟨CPC.blind, va_recv hKN.1 hP (ci := 10) (q0 := p42) rfl hk43, CPC.at hP hKN hD hSZ hS hA⟩ ⟨⟨rfl, rfl⟩, ⟨Nat.le_of_ble_eq_true rfl, Nat.le_of_ble_eq_true rfl⟩, ⟨(Nat.le_of_ble_eq_true rfl), (Nat.le_of_ble_eq_true rfl)⟩⟩ hl.1 rfl (Nat.le_of_ble_eq_true rfl) dX10_isWeighed_2) hP hD hS hA (fun u44 H locs hw45 hP hD hS => ?_)
  obtain ⟨ht47, hw48⟩ : (∀ b, u44 = some b → T b = (5, 0, 0)) ∧ (∀ b, u44 = some b → 0 ≤ p1.toInt ∧ p1.toInt ≤ 5) := hw45
  refine W.eq (g2 := F0 m 5 ls [va_rf u44]) rfl ?_
  rcases u44 with _ | b49
  · skip
    refine W.eq (g2 := F0 m 5 ls [.null]) rfl ?_
    refine lv_ifnullN (tgt := 24) hx hb dX10_isWeighed_5 (by decide) ?_
    refine lv_iconst (v := 0) hx hb dX10_isWeighed_24 (by decide) ?_
    refine W.widen (k := 13) (n := 91) (Nat.le_of_ble_eq_true rfl) (Nat.le_of_ble_eq_true rfl) ?_
    have zi0 : (0 : Int32).toInt = 0 := by decide
    exact W.zret (v := 0) hx hb hr (by decide) (fun t ht hW => ⟨⟨((0), ws, T), rfl, ⟨TLe.rf, hT, KF.rf, (show (0 ≤ (0 : Int32).toInt ∧ (0 : Int32).toInt ≤ 1) by omega)⟩, CB.mk ht hP hD⟩, hS.F ht⟩) hS.2.2 dX10_isWeighed_25
  · skip
    have ht50 := ht47 b49 rfl
    have h51 := hw48 b49 rfl
    refine W.eq (g2 := F0 m 5 ls [.ref b49]) rfl ?_
    refine lv_ifnull hx hb dX10_isWeighed_5 ?_
    refine lv_aload_n hx hb dX10_isWeighed_8 rfl (lv_at hl 0 rfl) ?_
    refine lv_iload_n hx hb dX10_isWeighed_9 rfl (lv_at hl 2 rfl) ?_
    refine cga (rn_V (As := [.int p2]) (rest := []) (b := p0) (x_X10_searchAt l D Y Z H.size ws T g q p0 p2 hT ht0) ⟨hx, hb, hml, hown, hg⟩ lk_X10_259 ⟨CPC.blind, va_recv hKN.1 hP (ci := 10) (q0 := p42) rfl hk43, CPC.at hP hKN hD hSZ hS hA⟩ ⟨⟨rfl, rfl⟩, ⟨Nat.le_of_ble_eq_true rfl, Nat.le_of_ble_eq_true rfl⟩, ⟨(Nat.le_of_ble_eq_true rfl), (Nat.le_of_ble_eq_true rfl)⟩⟩ hl.1 rfl (Nat.le_of_ble_eq_true rfl) dX10_isWeighed_10) hP hD hS hA (fun u52 H locs hw53 hP hD hS => ?_)
    obtain ⟨ht55, hw56⟩ : (∀ b, u52 = some b → T b = (5, 0, 0)) ∧ (∀ b, u52 = some b → 0 ≤ p2.toInt ∧ p2.toInt ≤ 5) := hw53
    refine W.eq (g2 := F0 m 13 ls [va_rf u52]) rfl ?_
    rcases u52 with _ | b57
    · skip
      refine W.eq (g2 := F0 m 13 ls [.null]) rfl ?_
      refine lv_ifnullN (tgt := 24) hx hb dX10_isWeighed_13 (by decide) ?_
      refine lv_iconst (v := 0) hx hb dX10_isWeighed_24 (by decide) ?_
      refine W.widen (k := 13) (n := 91) (Nat.le_of_ble_eq_true rfl) (Nat.le_of_ble_eq_true rfl) ?_
      have zi0 : (0 : Int32).toInt = 0 := by decide
      exact W.zret (v := 0) hx hb hr (by decide) (fun t ht hW => ⟨⟨((0), ws, T), rfl, ⟨TLe.rf, hT, KF.rf, (show (0 ≤ (0 : Int32).toInt ∧ (0 : Int32).toInt ≤ 1) by omega)⟩, CB.mk ht hP hD⟩, hS.F ht⟩) hS.2.2 dX10_isWeighed_25
    · skip
      have ht58 := ht55 b57 rfl
      have h59 := hw56 b57 rfl
      refine W.eq (g2 := F0 m 13 ls [.ref b57]) rfl ?_
      refine lv_ifnull hx hb dX10_isWeighed_13 ?_
      refine lv_aload_n hx hb dX10_isWeighed_16 rfl (lv_at hl 0 rfl) ?_
      refine lv_iload_n hx hb dX10_isWeighed_17 rfl (lv_at hl 3 rfl) ?_
      refine cga (rn_V (As := [.int p3]) (rest := []) (b := p0) (x_X10_isStar l D Y Z H.size ws T g q p0 p3 hT ht0) ⟨hx, hb, hml, hown, hg⟩ lk_X10_137 ⟨CPC.blind, va_recv hKN.1 hP (ci := 10) (q0 := p42) rfl hk43, CPC.at hP hKN hD hSZ hS hA⟩ ⟨⟨rfl, rfl⟩, ⟨Nat.le_of_ble_eq_true rfl, Nat.le_of_ble_eq_true rfl⟩, ⟨(Nat.le_of_ble_eq_true rfl), (Nat.le_of_ble_eq_true rfl)⟩⟩ hl.1 rfl (Nat.le_of_ble_eq_true rfl) dX10_isWeighed_18) hP hD hS hA (fun u60 H locs hw61 hP hD hS => ?_)
      obtain ⟨hw63, hw64⟩ : (0 ≤ u60.toInt ∧ u60.toInt ≤ 1) ∧ (u60.toInt = 1 → (0 ≤ p3.toInt ∧ p3.toInt ≤ 11)) := hw61
      refine W.eq (g2 := F0 m 21 ls [.int u60]) rfl ?_
      rcases (show u60.toInt = 1 ∨ u60.toInt = 0 by omega) with c65 | c65
      · obtain rfl : u60 = 1 := i_is c65 (by decide)
        have zi1 : (1 : Int32).toInt = 1 := by decide
        replace hw64 := hw64 (by decide)
        refine W.eq (g2 := F0 m 21 ls [.int 1]) rfl ?_
        refine lv_if_ne (tgt := 26) hx hb dX10_isWeighed_21 (by decide) (fun c66 => ?_) (fun c66 => ?_)
        rotate_left
        · exact absurd c66 (by decide)
        refine lv_aload_n hx hb dX10_isWeighed_26 rfl (lv_at hl 0 rfl) ?_
        refine lv_iload_n hx hb dX10_isWeighed_27 rfl (lv_at hl 2 rfl) ?_
        refine lv_iload_n hx hb dX10_isWeighed_28 rfl (lv_at hl 3 rfl) ?_
        refine lv_iconst (v := 0) hx hb dX10_isWeighed_29 (by decide) ?_
        have zi0 : (0 : Int32).toInt = 0 := by decide
        refine cga (rn_V (As := [.int p2, .int p3, .int 0]) (rest := []) (b := p0) (x_X10_findingOf l D Y Z H.size ws T g q p0 p2 p3 0 hT ht0) ⟨hx, hb, hml, hown, hg⟩ lk_X10_264 ⟨CPC.blind, va_recv hKN.1 hP (ci := 10) (q0 := p42) rfl hk43, CPC.at hP hKN hD hSZ hS hA⟩ ⟨⟨rfl, rfl⟩, ⟨Nat.le_of_ble_eq_true rfl, Nat.le_of_ble_eq_true rfl⟩, ⟨(Nat.le_of_ble_eq_true rfl), (Nat.le_of_ble_eq_true rfl)⟩⟩ hl.1 rfl (Nat.le_of_ble_eq_true rfl) dX10_isWeighed_30) hP hD hS hA (fun u67 H locs hw68 hP hD hS => ?_)
        refine W.widen (k := 1) (n := 7) (Nat.le_of_ble_eq_true rfl) (Nat.le_of_ble_eq_true rfl) ?_
        obtain ⟨b69, w70, T71⟩ := u67
        obtain ⟨le72, hT, ke73, ht74⟩ : TLe T T71 ∧ TW Y Z T71 g q w70 ∧ KF 1 T ws w70 ∧ T71 b69 = (6, 0, 0) := hw68
        have hk75 := ke73 _ _ hk43 (show (T p0).1 = 1 by rw [ht0])
        have ke76 : KF 1 T ws w70 := KF.tr KF.rf ke73
        refine W.eq (g2 := F0 m 33 ls [.ref b69]) rfl ?_
        refine ok6 hT ht74 (fun p85 x77 x78 x79 x80 x81 y82 y83 hk86 h84 => ?_)
        refine cga (rn_NV (As := []) (rest := []) (b := b69) (x_X1_isNone l D Y Z H.size w70 T71 g q b69 p85 x77 x78 x79 x80 x81 y82 y83 hT ht74 hk86) ⟨hx, hb, hml, hown, hg⟩ hKN lk_X10_315 ⟨CPC.blind, va_recv hKN.1 hP (ci := 1) (q0 := p85) rfl hk86, CPC.at hP hKN hD hSZ hS hA⟩ ⟨⟨rfl, rfl⟩, ⟨Nat.le_of_ble_eq_true rfl, Nat.le_of_ble_eq_true rfl⟩, ⟨(Nat.le_of_ble_eq_true rfl), (Nat.le_of_ble_eq_true rfl)⟩⟩ hl.1 rfl (Nat.le_of_ble_eq_true rfl) dX10_isWeighed_33) hP hD hS hA (fun u87 H locs hw88 hP hD hS => ?_)
        obtain ⟨hw90, hw91⟩ : (0 ≤ u87.toInt ∧ u87.toInt ≤ 1) ∧ (u87.toInt = 0 → 1 ≤ x78.toInt) := hw88
        refine W.eq (g2 := F0 m 36 ls [.int u87]) rfl ?_
        rcases (show u87.toInt = 1 ∨ u87.toInt = 0 by omega) with c92 | c92
        · obtain rfl : u87 = 1 := i_is c92 (by decide)
          clear hw91
          refine W.eq (g2 := F0 m 36 ls [.int 1]) rfl ?_
          refine lv_if_eq (tgt := 41) hx hb dX10_isWeighed_36 (by decide) (fun c93 => ?_) (fun c93 => ?_)
          · exact absurd c93 (by decide)
          refine lv_iconst (v := 0) hx hb dX10_isWeighed_39 (by decide) ?_
          refine W.widen (k := 13) (n := 91) (Nat.le_of_ble_eq_true rfl) (Nat.le_of_ble_eq_true rfl) ?_
          exact W.zret (v := 0) hx hb hr (by decide) (fun t ht hW => ⟨⟨((0), w70, T71), rfl, ⟨le72, hT, ke76, (show (0 ≤ (0 : Int32).toInt ∧ (0 : Int32).toInt ≤ 1) by omega)⟩, CB.mk ht hP hD⟩, hS.F ht⟩) hS.2.2 dX10_isWeighed_40
        · obtain rfl : u87 = 0 := i_is c92 (by decide)
          replace hw91 := hw91 (by decide)
          refine W.eq (g2 := F0 m 36 ls [.int 0]) rfl ?_
          refine lv_if_eq (tgt := 41) hx hb dX10_isWeighed_36 (by decide) (fun c94 => ?_) (fun c94 => ?_)
          rotate_left
          · exact absurd c94 (by decide)
          refine lv_aload_n hx hb dX10_isWeighed_41 rfl (lv_at hl 0 rfl) ?_
          refine lv_iload_n hx hb dX10_isWeighed_42 rfl (lv_at hl 2 rfl) ?_
          refine lv_iconst (v := 0) hx hb dX10_isWeighed_43 (by decide) ?_
          refine cga (rn_V (As := [.int p2, .int 0]) (rest := []) (b := p0) (x_X10_findAll l D Y Z H.size w70 T71 g q p0 p2 0 hT (le72.up ht0)) ⟨hx, hb, hml, hown, hg⟩ lk_X10_319 ⟨CPC.blind, va_recv hKN.1 hP (ci := 10) (q0 := p42) rfl hk75, CPC.at hP hKN hD hSZ hS hA⟩ ⟨⟨rfl, rfl⟩, ⟨Nat.le_of_ble_eq_true rfl, Nat.le_of_ble_eq_true rfl⟩, ⟨(Nat.le_of_ble_eq_true rfl), (Nat.le_of_ble_eq_true rfl)⟩⟩ hl.1 rfl (Nat.le_of_ble_eq_true rfl) dX10_isWeighed_44) hP hD hS hA (fun u95 H locs hw96 hP hD hS => ?_)
          refine W.widen (k := 13) (n := 91) (Nat.le_of_ble_eq_true rfl) (Nat.le_of_ble_eq_true rfl) ?_
          obtain ⟨w97, T98⟩ := u95
          obtain ⟨le99, hT, ke100⟩ : TLe T71 T98 ∧ TW Y Z T98 g q w97 ∧ KF 1 T71 w70 w97 := hw96
          have hk101 := ke100 _ _ hk75 (show (T71 p0).1 = 1 by rw [(le72.up ht0)])
          have ke102 : KF 1 T ws w97 := KF.tr ke76 (KF.le (by decide) le72 ke100)
          refine W.eq (g2 := F0 m 47 ls []) rfl ?_
          refine lv_aload_n hx hb dX10_isWeighed_47 rfl (lv_at hl 0 rfl) ?_
          refine lv_iload_n hx hb dX10_isWeighed_48 rfl (lv_at hl 1 rfl) ?_
          refine lv_iload_n hx hb dX10_isWeighed_49 rfl (lv_at hl 2 rfl) ?_
          refine lv_iload_n hx hb dX10_isWeighed_50 rfl (lv_at hl 3 rfl) ?_
          refine cga (rn_V (As := [.int p1, .int p2, .int p3]) (rest := []) (b := p0) (x_X10_weighAll l D Y Z H.size w97 T98 g q p0 p1 p2 p3 hT (le99.up (le72.up ht0))) ⟨hx, hb, hml, hown, hg⟩ lk_X10_464 ⟨CPC.blind, va_recv hKN.1 hP (ci := 10) (q0 := p42) rfl hk101, CPC.at hP hKN hD hSZ hS hA⟩ ⟨⟨rfl, rfl⟩, ⟨Nat.le_of_ble_eq_true rfl, Nat.le_of_ble_eq_true rfl⟩, ⟨(Nat.le_of_ble_eq_true rfl), (Nat.le_of_ble_eq_true rfl)⟩⟩ hl.1 rfl (Nat.le_of_ble_eq_true rfl) dX10_isWeighed_51) hP hD hS hA (fun u103 H locs hw104 hP hD hS => ?_)
          obtain ⟨hT, ke106, ke107⟩ : TW Y Z T98 g q u103 ∧ KF 1 T98 w97 u103 ∧ KF 6 T98 w97 u103 := hw104
          have hk108 := ke106 _ _ hk101 (show (T98 p0).1 = 1 by rw [(le99.up (le72.up ht0))])
          have ke109 : KF 1 T ws u103 := KF.tr ke102 (KF.le (by decide) (le72.tr le99) ke106)
          refine W.eq (g2 := F0 m 54 ls []) rfl ?_
          refine lv_iconst (v := 1) hx hb dX10_isWeighed_54 (by decide) ?_
          refine W.widen (k := 13) (n := 91) (Nat.le_of_ble_eq_true rfl) (Nat.le_of_ble_eq_true rfl) ?_
          exact W.zret (v := 1) hx hb hr (by decide) (fun t ht hW => ⟨⟨((1), u103, T98), rfl, ⟨(le72.tr le99), hT, ke109, (show (0 ≤ (1 : Int32).toInt ∧ (1 : Int32).toInt ≤ 1) by omega)⟩, CB.mk ht hP hD⟩, hS.F ht⟩) hS.2.2 dX10_isWeighed_55
      · obtain rfl : u60 = 0 := i_is c65 (by decide)
        have zi0 : (0 : Int32).toInt = 0 := by decide
        clear hw64
        refine W.eq (g2 := F0 m 21 ls [.int 0]) rfl ?_
        refine lv_if_ne (tgt := 26) hx hb dX10_isWeighed_21 (by decide) (fun c110 => ?_) (fun c110 => ?_)
        · exact absurd c110 (by decide)
        refine lv_iconst (v := 0) hx hb dX10_isWeighed_24 (by decide) ?_
        refine W.widen (k := 13) (n := 91) (Nat.le_of_ble_eq_true rfl) (Nat.le_of_ble_eq_true rfl) ?_
        exact W.zret (v := 0) hx hb hr (by decide) (fun t ht hW => ⟨⟨((0), ws, T), rfl, ⟨TLe.rf, hT, KF.rf, (show (0 ≤ (0 : Int32).toInt ∧ (0 : Int32).toInt ≤ 1) by omega)⟩, CB.mk ht hP hD⟩, hS.F ht⟩) hS.2.2 dX10_isWeighed_25
set_option maxHeartbeats 4000000 in
set_option maxRecDepth 100000 in
theorem x_X10_isSeenWorld (l : Launch) (D : va_G) (Y : Nat → ClassId) (Z : Nat → Nat) (sz : Nat) (ws : va_W) (T : RT) (g : GN) (q : GQ)  (p0 : Nat) (p1 : Int32) (p2 : Int32) (p3 : Int32) (hT : TW Y Z T g q ws) (ht0 : T p0 = (1, 0, 0)) : Met l yX10_isSeenWorld (.code yX10_isSeenWorld cX10_isSeenWorld 5 (some .boolean) :: GW) ({ frames := 6, cells := 0, slots := 0, locals := 152 }) (va_Pc [.ref p0, .int p1, .int p2, .int p3] (CPC D Y Z ws sz)) (QG (S := Int32 × va_W) (fun u => some (.int u.1)) (fun u => TW Y Z T g q u.2 ∧ KF 1 T ws u.2 ∧ KF 6 T ws u.2 ∧ (0 ≤ u.1.toInt ∧ u.1.toInt ≤ 1)) (fun u => CB D u.2 (va_A ws sz)) (va_A ws sz)) 0 0 (va_A ws sz) := by
  refine Met.ofW (cc := cX10_isSeenWorld) (maxL := 5) (ret := (some .boolean)) (by decide) rfl ?_
  intro p e s m args below meth c s₁ B hml hv
  obtain ⟨rfl, ⟨hsz, hP, hKN, hD0⟩, hSZ⟩ := hv
  have hx := B.exec
  have hb := B.bytes
  have hr := B.returns
  have hts := atoms_spec (ws := .code yX10_isSeenWorld cX10_isSeenWorld 5 (some .boolean) :: GW) B.pre
  have hg : ∀ w ∈ GW, w.before _ s = true := fun w h => hts w (List.mem_cons_of_mem _ h)
  have hown : s.vm.findClass RX10 = some m.cls := findClass_of_methodNamed B.named
  have hlocks := B.notSynchronized
  subst hsz
  have hD := hD0.self (sz := s.heap.size)
  generalize hAe : va_A ws s.heap.size = A at hD hSZ ⊢
  have hA : ∀ q : Nat, s.heap.size ≤ q → A q := fun q h => by rw [← hAe]; exact Or.inr h
  clear hAe hD0 hts B
  have hl := lv_entry ([.ref p0, .int p1, .int p2, .int p3]) (n := 5) (Nat.le_of_ble_eq_true rfl)
  rw [lg_entry_eq]
  generalize (lg_sl ([.ref p0, .int p1, .int p2, .int p3]) ++ List.replicate (5 - (lg_sl ([.ref p0, .int p1, .int p2, .int p3])).length) Slot.unset).toArray = ls at hl ⊢
  have hl : lv_has ls 5 [(0, .ref p0), (1, .int p1), (2, .int p2), (3, .int p3)] := hl
  refine w_start (A0 := A) hP (fun H locs hP hS => ?_)
  refine lv_aload_n hx hb dX10_isSeenWorld_0 rfl (lv_at hl 0 rfl) ?_
  refine lv_iload_n hx hb dX10_isSeenWorld_1 rfl (lv_at hl 1 rfl) ?_
  refine ok1 hT ht0 (fun p42 a1 a2 a3 a4 a5 x6 x7 x8 a9 a10 a11 a12 a13 a14 a15 a16 a17 x18 a19 a20 hk43 h21 h22 h23 h24 h25 h26 h27 h28 h29 h30 h31 h32 h33 h34 h35 h36 h37 h38 h39 h40 h41 => ?_)
  refine cga (rn_V (As := [.int p1]) (rest := []) (b := p0) (x_X10_searchAt l D Y Z H.size ws T g q p0 p1 hT ht0) ⟨hx, hb, hml, hown, hg⟩ lk_X10_259 ⟨CPC.blind, va_recv hKN.1 hP (ci := 10) (q0 := p42) rfl hk43, CPC.at hP hKN hD hSZ hS hA⟩ ⟨⟨rfl, rfl⟩, ⟨Nat.le_of_ble_eq_true rfl, Nat.le_of_ble_eq_true rfl⟩, ⟨(Nat.le_of_ble_eq_true rfl), (Nat.le_of_ble_eq_true rfl)⟩⟩ hl.1 rfl (Nat.le_of_ble_eq_true rfl) dX10_isSeenWorld_2) hP hD hS hA (fun u44 H locs hw45 hP hD hS => ?_)
  obtain ⟨ht47, hw48⟩ : (∀ b, u44 = some b → T b = (5, 0, 0)) ∧ (∀ b, u44 = some b → 0 ≤ p1.toInt ∧ p1.toInt ≤ 5) := hw45
  refine W.eq (g2 := F0 m 5 ls [va_rf u44]) rfl ?_
  rcases u44 with _ | b49
  · skip
    refine W.eq (g2 := F0 m 5 ls [.null]) rfl ?_
    refine lv_astoreN (lv' := [(4, .null), (0, .ref p0), (1, .int p1), (2, .int p2), (3, .int p3)]) hx hb dX10_isSeenWorld_5 hl (by decide) rfl (fun ls hl => ?_)
    refine lv_aloadN hx hb dX10_isSeenWorld_7 (lv_at hl 0 rfl) ?_
    refine lv_ifnullN (tgt := 30) hx hb dX10_isSeenWorld_9 (by decide) ?_
    refine lv_iconst (v := 0) hx hb dX10_isSeenWorld_30 (by decide) ?_
    refine W.widen (k := 0) (n := 0) (Nat.le_of_ble_eq_true rfl) (Nat.le_of_ble_eq_true rfl) ?_
    have zi0 : (0 : Int32).toInt = 0 := by decide
    exact W.zret (v := 0) hx hb hr (by decide) (fun t ht hW => ⟨⟨((0), ws), rfl, ⟨hT, KF.rf, KF.rf, (show (0 ≤ (0 : Int32).toInt ∧ (0 : Int32).toInt ≤ 1) by omega)⟩, CB.mk ht hP hD⟩, hS.F ht⟩) hS.2.2 dX10_isSeenWorld_31
  · skip
    have ht50 := ht47 b49 rfl
    have h51 := hw48 b49 rfl
    refine W.eq (g2 := F0 m 5 ls [.ref b49]) rfl ?_
    refine lv_astore (lv' := [(4, .ref b49), (0, .ref p0), (1, .int p1), (2, .int p2), (3, .int p3)]) hx hb dX10_isSeenWorld_5 hl (by decide) rfl (fun ls hl => ?_)
    refine lv_aload hx hb dX10_isSeenWorld_7 (lv_at hl 0 rfl) ?_
    refine lv_ifnull hx hb dX10_isSeenWorld_9 ?_
    refine lv_aload_n hx hb dX10_isSeenWorld_12 rfl (lv_at hl 1 rfl) ?_
    refine lv_iload_n hx hb dX10_isSeenWorld_13 rfl (lv_at hl 2 rfl) ?_
    refine lv_iload_n hx hb dX10_isSeenWorld_14 rfl (lv_at hl 4 rfl) ?_
    refine lv_iconst (v := 0) hx hb dX10_isSeenWorld_15 (by decide) ?_
    have zi0 : (0 : Int32).toInt = 0 := by decide
    refine cga (rn_V (As := [.int p1, .int p3, .int 0]) (rest := []) (b := p0) (x_X10_knownOf l D Y Z H.size ws T g q p0 p1 p3 0 hT ht0) ⟨hx, hb, hml, hown, hg⟩ lk_X10_389 ⟨CPC.blind, va_recv hKN.1 hP (ci := 10) (q0 := p42) rfl hk43, CPC.at hP hKN hD hSZ hS hA⟩ ⟨⟨rfl, rfl⟩, ⟨Nat.le_of_ble_eq_true rfl, Nat.le_of_ble_eq_true rfl⟩, ⟨(Nat.le_of_ble_eq_true rfl), (Nat.le_of_ble_eq_true rfl)⟩⟩ hl.1 rfl (Nat.le_of_ble_eq_true rfl) dX10_isSeenWorld_16) hP hD hS hA (fun u52 H locs hw53 hP hD hS => ?_)
    have ht55 : T u52 = (6, 0, 0) := hw53
    refine W.eq (g2 := F0 m 19 ls [.ref u52]) rfl ?_
    refine lv_aload hx hb dX10_isSeenWorld_19 (lv_at hl 0 rfl) ?_
    refine ok5 hT ht50 (fun p77 x56 x57 x58 x59 x60 x61 x62 x63 a64 a65 a66 a67 a68 x69 hk78 h70 h71 h72 h73 h74 h75 h76 => ?_)
    refine va_getN (D := D) (ci := 8) (v := .int x62) (C := RX8) (T := TX8) (N := 14) hx hb hg inGX8 hown hKN.1 hP p77 hk78 rfl 6 (by decide) (va_Nw.use rfl (hKN.2.1 _ kn_135 rfl)) (fun _ h9 => h9) rfl dX10_isSeenWorld_21 ?_
    refine ok6 hT ht55 (fun p87 x79 x80 x81 x82 x83 y84 y85 hk88 h86 => ?_)
    refine cga (rn_NV (As := [.int x62]) (rest := []) (b := u52) (x_X1_isSeen l D Y Z H.size ws T g q u52 x62 hT ht55) ⟨hx, hb, hml, hown, hg⟩ hKN lk_X10_392 ⟨CPC.blind, va_recv hKN.1 hP (ci := 1) (q0 := p87) rfl hk88, CPC.at hP hKN hD hSZ hS hA⟩ ⟨⟨rfl, rfl⟩, ⟨Nat.le_of_ble_eq_true rfl, Nat.le_of_ble_eq_true rfl⟩, ⟨(Nat.le_of_ble_eq_true rfl), (Nat.le_of_ble_eq_true rfl)⟩⟩ hl.1 rfl (Nat.le_of_ble_eq_true rfl) dX10_isSeenWorld_24) hP hD hS hA (fun u89 H locs hw90 hP hD hS => ?_)
    have hw92 : (0 ≤ u89.toInt ∧ u89.toInt ≤ 1) := hw90
    refine W.eq (g2 := F0 m 27 ls [.int u89]) rfl ?_
    rcases (show u89.toInt = 1 ∨ u89.toInt = 0 by omega) with c93 | c93
    · obtain rfl : u89 = 1 := i_is c93 (by decide)
      have zi1 : (1 : Int32).toInt = 1 := by decide
      refine W.eq (g2 := F0 m 27 ls [.int 1]) rfl ?_
      refine lv_if_ne (tgt := 32) hx hb dX10_isSeenWorld_27 (by decide) (fun c94 => ?_) (fun c94 => ?_)
      rotate_left
      · exact absurd c94 (by decide)
      refine lv_aload_n hx hb dX10_isSeenWorld_32 rfl (lv_at hl 1 rfl) ?_
      refine lv_iload_n hx hb dX10_isSeenWorld_33 rfl (lv_at hl 3 rfl) ?_
      refine lv_iload_n hx hb dX10_isSeenWorld_34 rfl (lv_at hl 2 rfl) ?_
      refine lv_iload_n hx hb dX10_isSeenWorld_35 rfl (lv_at hl 4 rfl) ?_
      refine cga (rn_V (As := [.int p2, .int p1, .int p3]) (rest := []) (b := p0) (x_X10_weighAll l D Y Z H.size ws T g q p0 p2 p1 p3 hT ht0) ⟨hx, hb, hml, hown, hg⟩ lk_X10_464 ⟨CPC.blind, va_recv hKN.1 hP (ci := 10) (q0 := p42) rfl hk43, CPC.at hP hKN hD hSZ hS hA⟩ ⟨⟨rfl, rfl⟩, ⟨Nat.le_of_ble_eq_true rfl, Nat.le_of_ble_eq_true rfl⟩, ⟨(Nat.le_of_ble_eq_true rfl), (Nat.le_of_ble_eq_true rfl)⟩⟩ hl.1 rfl (Nat.le_of_ble_eq_true rfl) dX10_isSeenWorld_36) hP hD hS hA (fun u95 H locs hw96 hP hD hS => ?_)
      obtain ⟨hT, ke98, ke99⟩ : TW Y Z T g q u95 ∧ KF 1 T ws u95 ∧ KF 6 T ws u95 := hw96
      have hk100 := ke98 _ _ hk43 (show (T p0).1 = 1 by rw [ht0])
      have hk101 := ke99 _ _ hk88 (show (T u52).1 = 6 by rw [ht55])
      have ke102 : KF 1 T ws u95 := KF.tr KF.rf ke98
      have ke103 : KF 6 T ws u95 := KF.tr KF.rf ke99
      refine W.eq (g2 := F0 m 39 ls []) rfl ?_
      refine lv_aload_n hx hb dX10_isSeenWorld_39 rfl (lv_at hl 1 rfl) ?_
      refine cga (rn_V (As := []) (rest := []) (b := p0) (x_X10_heaviest l D Y Z H.size u95 T g q p0 hT ht0) ⟨hx, hb, hml, hown, hg⟩ lk_X10_346 ⟨CPC.blind, va_recv hKN.1 hP (ci := 10) (q0 := p42) rfl hk100, CPC.at hP hKN hD hSZ hS hA⟩ ⟨⟨rfl, rfl⟩, ⟨Nat.le_of_ble_eq_true rfl, Nat.le_of_ble_eq_true rfl⟩, ⟨(Nat.le_of_ble_eq_true rfl), (Nat.le_of_ble_eq_true rfl)⟩⟩ hl.1 rfl (Nat.le_of_ble_eq_true rfl) dX10_isSeenWorld_40) hP hD hS hA (fun u104 H locs hw105 hP hD hS => ?_)
      refine W.eq (g2 := F0 m 43 ls [.int u104]) rfl ?_
      have j107 := rgI u104
      refine lv_if_ne (tgt := 50) hx hb dX10_isSeenWorld_43 (by decide) (fun c108 => ?_) (fun c108 => ?_)
      · skip
        have c108 := i_ne (Eq.refl u104.toInt) (show (0 : Int32).toInt = 0 by decide) c108
        refine lv_iconst (v := 0) hx hb dX10_isSeenWorld_50 (by decide) ?_
        refine W.widen (k := 0) (n := 0) (Nat.le_of_ble_eq_true rfl) (Nat.le_of_ble_eq_true rfl) ?_
        exact W.zret (v := 0) hx hb hr (by decide) (fun t ht hW => ⟨⟨((0), u95), rfl, ⟨hT, ke102, ke103, (show (0 ≤ (0 : Int32).toInt ∧ (0 : Int32).toInt ≤ 1) by omega)⟩, CB.mk ht hP hD⟩, hS.F ht⟩) hS.2.2 dX10_isSeenWorld_51
      · skip
        have c108 := i_eq (Eq.refl u104.toInt) (show (0 : Int32).toInt = 0 by decide) c108
        refine lv_iconst (v := 1) hx hb dX10_isSeenWorld_46 (by decide) ?_
        refine lv_goto (tgt := 51) hx hb dX10_isSeenWorld_47 (by decide) ?_
        refine W.widen (k := 0) (n := 0) (Nat.le_of_ble_eq_true rfl) (Nat.le_of_ble_eq_true rfl) ?_
        exact W.zret (v := 1) hx hb hr (by decide) (fun t ht hW => ⟨⟨((1), u95), rfl, ⟨hT, ke102, ke103, (show (0 ≤ (1 : Int32).toInt ∧ (1 : Int32).toInt ≤ 1) by omega)⟩, CB.mk ht hP hD⟩, hS.F ht⟩) hS.2.2 dX10_isSeenWorld_51
    · obtain rfl : u89 = 0 := i_is c93 (by decide)
      refine W.eq (g2 := F0 m 27 ls [.int 0]) rfl ?_
      refine lv_if_ne (tgt := 32) hx hb dX10_isSeenWorld_27 (by decide) (fun c109 => ?_) (fun c109 => ?_)
      · exact absurd c109 (by decide)
      refine lv_iconst (v := 0) hx hb dX10_isSeenWorld_30 (by decide) ?_
      refine W.widen (k := 0) (n := 0) (Nat.le_of_ble_eq_true rfl) (Nat.le_of_ble_eq_true rfl) ?_
      exact W.zret (v := 0) hx hb hr (by decide) (fun t ht hW => ⟨⟨((0), ws), rfl, ⟨hT, KF.rf, KF.rf, (show (0 ≤ (0 : Int32).toInt ∧ (0 : Int32).toInt ≤ 1) by omega)⟩, CB.mk ht hP hD⟩, hS.F ht⟩) hS.2.2 dX10_isSeenWorld_31
set_option maxHeartbeats 4000000 in
set_option maxRecDepth 100000 in
theorem x_X10_keepText (l : Launch) (D : va_G) (Y : Nat → ClassId) (Z : Nat → Nat) (sz : Nat) (ws : va_W) (T : RT) (g : GN) (q : GQ)  (p0 : Nat) (p3 : Nat) (pp0 : Nat) (o0_0 : Nat) (o0_1 : Nat) (o0_2 : Nat) (o0_3 : Nat) (o0_4 : Nat) (o0_5 : Int32) (o0_6 : Int32) (o0_7 : Int32) (o0_8 : Nat) (o0_9 : Nat) (o0_10 : Nat) (o0_11 : Nat) (o0_12 : Nat) (o0_13 : Nat) (o0_14 : Nat) (o0_15 : Nat) (o0_16 : Nat) (o0_17 : Int32) (o0_18 : Nat) (o0_19 : Nat) (p1 : Int32) (p2 : Int32) (hT : TW Y Z T g q ws) (ht0 : T p0 = (1, 0, 0)) (ht3 : T p3 = (5, 0, 0)) (hk0 : ws[pp0]? = some (p0, .inr (10, (.ref o0_0 :: .ref o0_1 :: .ref o0_2 :: .ref o0_3 :: .ref o0_4 :: .int o0_5 :: .int o0_6 :: .int o0_7 :: .ref o0_8 :: .ref o0_9 :: .ref o0_10 :: .ref o0_11 :: .ref o0_12 :: .ref o0_13 :: .ref o0_14 :: .ref o0_15 :: .ref o0_16 :: .int o0_17 :: .ref o0_18 :: .ref o0_19 :: [])))) (hp0 : (p1.toInt = 0 → p2.toInt = o0_5.toInt)) (hp1 : (p1.toInt = 1 → p2.toInt = o0_6.toInt)) (hp2 : ((p1.toInt ≠ 0 ∧ p1.toInt ≠ 1) → p2.toInt = o0_7.toInt)) : Met l yX10_keepText (.code yX10_keepText cX10_keepText 4 none :: GW) ({ frames := 1, cells := 0, slots := 0, locals := 22 }) (va_Pc [.ref p0, .int p1, .int p2, .ref p3] (CPC D Y Z ws sz)) (QG (S := va_W) (fun _ => none) (fun u => TW Y Z T g q u ∧ KF 6 T ws u) (fun u => CB D u (va_A ws sz)) (va_A ws sz)) 0 0 (va_A ws sz) := by
  refine Met.ofW (cc := cX10_keepText) (maxL := 4) (ret := none) (by decide) rfl ?_
  intro p e s m args below meth c s₁ B hml hv
  obtain ⟨rfl, ⟨hsz, hP, hKN, hD0⟩, hSZ⟩ := hv
  have hx := B.exec
  have hb := B.bytes
  have hr := B.returns
  have hts := atoms_spec (ws := .code yX10_keepText cX10_keepText 4 none :: GW) B.pre
  have hg : ∀ w ∈ GW, w.before _ s = true := fun w h => hts w (List.mem_cons_of_mem _ h)
  have hown : s.vm.findClass RX10 = some m.cls := findClass_of_methodNamed B.named
  have hlocks := B.notSynchronized
  subst hsz
  have hD := hD0.self (sz := s.heap.size)
  generalize hAe : va_A ws s.heap.size = A at hD hSZ ⊢
  have hA : ∀ q : Nat, s.heap.size ≤ q → A q := fun q h => by rw [← hAe]; exact Or.inr h
  clear hAe hD0 hts B
  have hl := lv_entry ([.ref p0, .int p1, .int p2, .ref p3]) (n := 4) (Nat.le_of_ble_eq_true rfl)
  rw [lg_entry_eq]
  generalize (lg_sl ([.ref p0, .int p1, .int p2, .ref p3]) ++ List.replicate (4 - (lg_sl ([.ref p0, .int p1, .int p2, .ref p3])).length) Slot.unset).toArray = ls at hl ⊢
  have hl : lv_has ls 4 [(0, .ref p0), (1, .int p1), (2, .int p2), (3, .ref p3)] := hl
  refine w_start (A0 := A) hP (fun H locs hP hS => ?_)
  obtain ⟨x9_0, x9_1, x9_2, x9_3, x9_4, x9_5, x9_6, x9_7, x9_8, x9_9, x9_10, x9_11, x9_12, x9_13, x9_14, x9_15, x9_16, x9_17, x9_18, x9_19, he9, ho0_0T, ho0_0q, ho0_1T, ho0_1q, ho0_2T, ho0_3T, ho0_4T, ho0_5rng, ho0_6rng, ho0_7rng, ho0_8T, ho0_9T, ho0_10T, ho0_11T, ho0_12T, ho0_13T, ho0_14T, ho0_15T, ho0_16T, ho0_18T, ho0_19T⟩ := (tw_at (k := 1) hT hk0 ht0 : Sh1 Y Z T (g p0) (q p0) 0 0 _)
  cases he9
  refine lv_iload_n hx hb dX10_keepText_0 rfl (lv_at hl 2 rfl) ?_
  refine lv_iconst (v := 0) hx hb dX10_keepText_1 (by decide) ?_
  refine lv_iconst (v := 5) hx hb dX10_keepText_2 (by decide) ?_
  have zi0 : (0 : Int32).toInt = 0 := by decide
  have zi5 : (5 : Int32).toInt = 5 := by decide
  refine cg0 (rn_S (As := [.int p2, .int 0, .int 5]) (rest := []) (x_X10_isWithin l D Y Z H.size p2 0 5) ⟨hx, hb, hml, hown, hg⟩ lk_X10_100 ⟨CP.blind, CP.at nilP hKN (nilD (A := fun _ => True))⟩ ⟨⟨rfl, rfl⟩, ⟨Nat.le_of_ble_eq_true rfl, Nat.le_of_ble_eq_true rfl⟩, ⟨(Nat.le_of_ble_eq_true rfl), (Nat.le_of_ble_eq_true rfl)⟩⟩ hl.1 rfl (Nat.le_of_ble_eq_true rfl) dX10_keepText_3) hP hS hA (fun u1 H locs hw2 hP hS => ?_)
  obtain ⟨hw4, hw5⟩ : (((0 : Int32).toInt ≤ p2.toInt ∧ p2.toInt ≤ (5 : Int32).toInt ∧ u1.toInt = 1) ∨ (¬ ((0 : Int32).toInt ≤ p2.toInt ∧ p2.toInt ≤ (5 : Int32).toInt) ∧ u1.toInt = 0)) ∧ (0 ≤ u1.toInt ∧ u1.toInt ≤ 1) := hw2
  refine W.eq (g2 := F0 m 6 ls [.int u1]) rfl ?_
  rcases (show u1.toInt = 1 ∨ u1.toInt = 0 by omega) with c6 | c6
  · obtain rfl : u1 = 1 := i_is c6 (by decide)
    have zi1 : (1 : Int32).toInt = 1 := by decide
    refine W.eq (g2 := F0 m 6 ls [.int 1]) rfl ?_
    refine lv_if_ne (tgt := 10) hx hb dX10_keepText_6 (by decide) (fun c7 => ?_) (fun c7 => ?_)
    rotate_left
    · exact absurd c7 (by decide)
    refine lv_iload_n hx hb dX10_keepText_10 rfl (lv_at hl 1 rfl) ?_
    have j8 := rgI p1
    refine lv_if_ne (tgt := 34) hx hb dX10_keepText_11 (by decide) (fun c9 => ?_) (fun c9 => ?_)
    · skip
      have c9 := i_ne (Eq.refl p1.toInt) (show (0 : Int32).toInt = 0 by decide) c9
      refine lv_iload_n hx hb dX10_keepText_34 rfl (lv_at hl 1 rfl) ?_
      refine lv_iconst (v := 1) hx hb dX10_keepText_35 (by decide) ?_
      refine lv_icmp_ne (tgt := 59) hx hb dX10_keepText_36 (by decide) (fun c10 => ?_) (fun c10 => ?_)
      · skip
        have c10 := i_ne (Eq.refl p1.toInt) (show (1 : Int32).toInt = 1 by decide) c10
        refine lv_aload_n hx hb dX10_keepText_59 rfl (lv_at hl 0 rfl) ?_
        refine va_get (D := D) (ci := 10) (v := .ref o0_4) (C := RX10) (T := TX10) (N := 20) hx hb hg inGX10 hown hKN.1 hP pp0 hk0 rfl 4 (by decide) (hg _ kw_353) (fun _ h9 => h9) rfl dX10_keepText_60 ?_
        refine lv_iload_n hx hb dX10_keepText_63 rfl (lv_at hl 2 rfl) ?_
        refine lv_aload_n hx hb dX10_keepText_64 rfl (lv_at hl 3 rfl) ?_
        refine tr_st20 hx hb hKN hP hD hS hT ho0_4T ht3 (vp_in_iff.mpr ⟨by omega, by omega⟩) dX10_keepText_65 (fun w11 H locs hP hD hS hT kp12 => ?_)
        have ke13 : KF 6 T ws w11 := KF.tr KF.rf (KF.kp kp12 ho0_4T (by decide))
        have hk14 := kp12 _ _ hk0 (rne ht0 ho0_4T (by decide))
        refine lv_aload_n hx hb dX10_keepText_66 rfl (lv_at hl 0 rfl) ?_
        refine lv_dup hx hb dX10_keepText_67 rfl ?_
        refine va_get (D := D) (ci := 10) (v := .int o0_7) (C := RX10) (T := TX10) (N := 20) hx hb hg inGX10 hown hKN.1 hP pp0 hk14 rfl 7 (by decide) (hg _ kw_356) (fun _ h9 => h9) rfl dX10_keepText_68 ?_
        refine lv_iconst (v := 1) hx hb dX10_keepText_71 (by decide) ?_
        refine lv_iadd hx hb dX10_keepText_72 ?_
        refine lv_topi (fun v15 ev15 => ?_)
        have hv15 := i_add (Eq.refl o0_7.toInt) (show (1 : Int32).toInt = 1 by decide) ev15 (by omega) (by omega)
        refine va_put (D := D) (ci := 10) (v := .int v15) (ty := .int) (C := RX10) (T := TX10) (N := 20) hx hb hg inGX10 tyX10 tyX10_ok nmX10 hown hKN.1 hP hD hS pp0 hk14 rfl 7 (by decide) (hg _ kw_356) (fun _ h9 => h9) rfl (by decide +kernel) rfl rfl (Nat.le_of_ble_eq_true rfl) dX10_keepText_73 (fun H locs hP hD2 hS => ?_)
        obtain ⟨w16, hP, hD, hT, hk18, kp17⟩ : ∃ wz, va_P D vwCl wz H ∧ va_D A wz ∧ TW Y Z T g q wz ∧ wz[pp0]? = some (p0, .inr (10, (.ref o0_0 :: .ref o0_1 :: .ref o0_2 :: .ref o0_3 :: .ref o0_4 :: .int o0_5 :: .int o0_6 :: .int v15 :: .ref o0_8 :: .ref o0_9 :: .ref o0_10 :: .ref o0_11 :: .ref o0_12 :: .ref o0_13 :: .ref o0_14 :: .ref o0_15 :: .ref o0_16 :: .int o0_17 :: .ref o0_18 :: .ref o0_19 :: []))) ∧ Kp p0 w11 wz := ⟨_, hP, hD2, st1 hT hD hk14 ht0 ⟨o0_0, o0_1, o0_2, o0_3, o0_4, o0_5, o0_6, v15, o0_8, o0_9, o0_10, o0_11, o0_12, o0_13, o0_14, o0_15, o0_16, o0_17, o0_18, o0_19, rfl, ho0_0T, ho0_0q, ho0_1T, ho0_1q, ho0_2T, ho0_3T, ho0_4T, by omega, by omega, by omega, ho0_8T, ho0_9T, ho0_10T, ho0_11T, ho0_12T, ho0_13T, ho0_14T, ho0_15T, ho0_16T, ho0_18T, ho0_19T⟩, sw_eq hk14, sw_kp hk14⟩
        have ke19 : KF 6 T ws w16 := KF.tr ke13 (KF.kp kp17 ht0 (by decide))
        refine W.widen (k := 0) (n := 0) (Nat.le_of_ble_eq_true rfl) (Nat.le_of_ble_eq_true rfl) ?_
        exact W.vret hx hb hr (fun t ht hW => ⟨⟨w16, rfl, ⟨hT, ke19⟩, CB.mk ht hP hD⟩, hS.F ht⟩) hS.2.2 dX10_keepText_76
      · skip
        have c10 := i_eq (Eq.refl p1.toInt) (show (1 : Int32).toInt = 1 by decide) c10
        refine lv_aload_n hx hb dX10_keepText_39 rfl (lv_at hl 0 rfl) ?_
        refine va_get (D := D) (ci := 10) (v := .ref o0_3) (C := RX10) (T := TX10) (N := 20) hx hb hg inGX10 hown hKN.1 hP pp0 hk0 rfl 3 (by decide) (hg _ kw_352) (fun _ h9 => h9) rfl dX10_keepText_40 ?_
        refine lv_iload_n hx hb dX10_keepText_43 rfl (lv_at hl 2 rfl) ?_
        refine lv_aload_n hx hb dX10_keepText_44 rfl (lv_at hl 3 rfl) ?_
        refine tr_st20 hx hb hKN hP hD hS hT ho0_3T ht3 (vp_in_iff.mpr ⟨by omega, by omega⟩) dX10_keepText_45 (fun w20 H locs hP hD hS hT kp21 => ?_)
        have ke22 : KF 6 T ws w20 := KF.tr KF.rf (KF.kp kp21 ho0_3T (by decide))
        have hk23 := kp21 _ _ hk0 (rne ht0 ho0_3T (by decide))
        refine lv_aload_n hx hb dX10_keepText_46 rfl (lv_at hl 0 rfl) ?_
        refine lv_dup hx hb dX10_keepText_47 rfl ?_
        refine va_get (D := D) (ci := 10) (v := .int o0_6) (C := RX10) (T := TX10) (N := 20) hx hb hg inGX10 hown hKN.1 hP pp0 hk23 rfl 6 (by decide) (hg _ kw_355) (fun _ h9 => h9) rfl dX10_keepText_48 ?_
        refine lv_iconst (v := 1) hx hb dX10_keepText_51 (by decide) ?_
        refine lv_iadd hx hb dX10_keepText_52 ?_
        refine lv_topi (fun v24 ev24 => ?_)
        have hv24 := i_add (Eq.refl o0_6.toInt) (show (1 : Int32).toInt = 1 by decide) ev24 (by omega) (by omega)
        refine va_put (D := D) (ci := 10) (v := .int v24) (ty := .int) (C := RX10) (T := TX10) (N := 20) hx hb hg inGX10 tyX10 tyX10_ok nmX10 hown hKN.1 hP hD hS pp0 hk23 rfl 6 (by decide) (hg _ kw_355) (fun _ h9 => h9) rfl (by decide +kernel) rfl rfl (Nat.le_of_ble_eq_true rfl) dX10_keepText_53 (fun H locs hP hD2 hS => ?_)
        obtain ⟨w25, hP, hD, hT, hk27, kp26⟩ : ∃ wz, va_P D vwCl wz H ∧ va_D A wz ∧ TW Y Z T g q wz ∧ wz[pp0]? = some (p0, .inr (10, (.ref o0_0 :: .ref o0_1 :: .ref o0_2 :: .ref o0_3 :: .ref o0_4 :: .int o0_5 :: .int v24 :: .int o0_7 :: .ref o0_8 :: .ref o0_9 :: .ref o0_10 :: .ref o0_11 :: .ref o0_12 :: .ref o0_13 :: .ref o0_14 :: .ref o0_15 :: .ref o0_16 :: .int o0_17 :: .ref o0_18 :: .ref o0_19 :: []))) ∧ Kp p0 w20 wz := ⟨_, hP, hD2, st1 hT hD hk23 ht0 ⟨o0_0, o0_1, o0_2, o0_3, o0_4, o0_5, v24, o0_7, o0_8, o0_9, o0_10, o0_11, o0_12, o0_13, o0_14, o0_15, o0_16, o0_17, o0_18, o0_19, rfl, ho0_0T, ho0_0q, ho0_1T, ho0_1q, ho0_2T, ho0_3T, ho0_4T, by omega, by omega, by omega, ho0_8T, ho0_9T, ho0_10T, ho0_11T, ho0_12T, ho0_13T, ho0_14T, ho0_15T, ho0_16T, ho0_18T, ho0_19T⟩, sw_eq hk23, sw_kp hk23⟩
        have ke28 : KF 6 T ws w25 := KF.tr ke22 (KF.kp kp26 ht0 (by decide))
        refine lv_goto (tgt := 76) hx hb dX10_keepText_56 (by decide) ?_
        refine W.widen (k := 0) (n := 0) (Nat.le_of_ble_eq_true rfl) (Nat.le_of_ble_eq_true rfl) ?_
        exact W.vret hx hb hr (fun t ht hW => ⟨⟨w25, rfl, ⟨hT, ke28⟩, CB.mk ht hP hD⟩, hS.F ht⟩) hS.2.2 dX10_keepText_76
    · skip
      have c9 := i_eq (Eq.refl p1.toInt) (show (0 : Int32).toInt = 0 by decide) c9
      refine lv_aload_n hx hb dX10_keepText_14 rfl (lv_at hl 0 rfl) ?_
      refine va_get (D := D) (ci := 10) (v := .ref o0_2) (C := RX10) (T := TX10) (N := 20) hx hb hg inGX10 hown hKN.1 hP pp0 hk0 rfl 2 (by decide) (hg _ kw_351) (fun _ h9 => h9) rfl dX10_keepText_15 ?_
      refine lv_iload_n hx hb dX10_keepText_18 rfl (lv_at hl 2 rfl) ?_
      refine lv_aload_n hx hb dX10_keepText_19 rfl (lv_at hl 3 rfl) ?_
      refine tr_st20 hx hb hKN hP hD hS hT ho0_2T ht3 (vp_in_iff.mpr ⟨by omega, by omega⟩) dX10_keepText_20 (fun w29 H locs hP hD hS hT kp30 => ?_)
      have ke31 : KF 6 T ws w29 := KF.tr KF.rf (KF.kp kp30 ho0_2T (by decide))
      have hk32 := kp30 _ _ hk0 (rne ht0 ho0_2T (by decide))
      refine lv_aload_n hx hb dX10_keepText_21 rfl (lv_at hl 0 rfl) ?_
      refine lv_dup hx hb dX10_keepText_22 rfl ?_
      refine va_get (D := D) (ci := 10) (v := .int o0_5) (C := RX10) (T := TX10) (N := 20) hx hb hg inGX10 hown hKN.1 hP pp0 hk32 rfl 5 (by decide) (hg _ kw_354) (fun _ h9 => h9) rfl dX10_keepText_23 ?_
      refine lv_iconst (v := 1) hx hb dX10_keepText_26 (by decide) ?_
      refine lv_iadd hx hb dX10_keepText_27 ?_
      refine lv_topi (fun v33 ev33 => ?_)
      have hv33 := i_add (Eq.refl o0_5.toInt) (show (1 : Int32).toInt = 1 by decide) ev33 (by omega) (by omega)
      refine va_put (D := D) (ci := 10) (v := .int v33) (ty := .int) (C := RX10) (T := TX10) (N := 20) hx hb hg inGX10 tyX10 tyX10_ok nmX10 hown hKN.1 hP hD hS pp0 hk32 rfl 5 (by decide) (hg _ kw_354) (fun _ h9 => h9) rfl (by decide +kernel) rfl rfl (Nat.le_of_ble_eq_true rfl) dX10_keepText_28 (fun H locs hP hD2 hS => ?_)
      obtain ⟨w34, hP, hD, hT, hk36, kp35⟩ : ∃ wz, va_P D vwCl wz H ∧ va_D A wz ∧ TW Y Z T g q wz ∧ wz[pp0]? = some (p0, .inr (10, (.ref o0_0 :: .ref o0_1 :: .ref o0_2 :: .ref o0_3 :: .ref o0_4 :: .int v33 :: .int o0_6 :: .int o0_7 :: .ref o0_8 :: .ref o0_9 :: .ref o0_10 :: .ref o0_11 :: .ref o0_12 :: .ref o0_13 :: .ref o0_14 :: .ref o0_15 :: .ref o0_16 :: .int o0_17 :: .ref o0_18 :: .ref o0_19 :: []))) ∧ Kp p0 w29 wz := ⟨_, hP, hD2, st1 hT hD hk32 ht0 ⟨o0_0, o0_1, o0_2, o0_3, o0_4, v33, o0_6, o0_7, o0_8, o0_9, o0_10, o0_11, o0_12, o0_13, o0_14, o0_15, o0_16, o0_17, o0_18, o0_19, rfl, ho0_0T, ho0_0q, ho0_1T, ho0_1q, ho0_2T, ho0_3T, ho0_4T, by omega, by omega, by omega, ho0_8T, ho0_9T, ho0_10T, ho0_11T, ho0_12T, ho0_13T, ho0_14T, ho0_15T, ho0_16T, ho0_18T, ho0_19T⟩, sw_eq hk32, sw_kp hk32⟩
      have ke37 : KF 6 T ws w34 := KF.tr ke31 (KF.kp kp35 ht0 (by decide))
      refine lv_goto (tgt := 76) hx hb dX10_keepText_31 (by decide) ?_
      refine W.widen (k := 0) (n := 0) (Nat.le_of_ble_eq_true rfl) (Nat.le_of_ble_eq_true rfl) ?_
      exact W.vret hx hb hr (fun t ht hW => ⟨⟨w34, rfl, ⟨hT, ke37⟩, CB.mk ht hP hD⟩, hS.F ht⟩) hS.2.2 dX10_keepText_76
  · obtain rfl : u1 = 0 := i_is c6 (by decide)
    refine W.eq (g2 := F0 m 6 ls [.int 0]) rfl ?_
    refine lv_if_ne (tgt := 10) hx hb dX10_keepText_6 (by decide) (fun c38 => ?_) (fun c38 => ?_)
    · exact absurd c38 (by decide)
    refine W.widen (k := 0) (n := 0) (Nat.le_of_ble_eq_true rfl) (Nat.le_of_ble_eq_true rfl) ?_
    exact W.vret hx hb hr (fun t ht hW => ⟨⟨ws, rfl, ⟨hT, KF.rf⟩, CB.mk ht hP hD⟩, hS.F ht⟩) hS.2.2 dX10_keepText_9
set_option maxHeartbeats 4000000 in
set_option maxRecDepth 100000 in
theorem x_X10_row (l : Launch) (D : va_G) (Y : Nat → ClassId) (Z : Nat → Nat) (sz : Nat) (ws : va_W) (T : RT) (g : GN) (q : GQ)  (p0 : Nat) (p1 : Int32) (p2 : Int32) (p3 : Int32) (hT : TW Y Z T g q ws) (ht0 : T p0 = (1, 0, 0)) : Met l yX10_row (.code yX10_row cX10_row 7 (some .int) :: GW) ({ frames := 2, cells := 0, slots := 0, locals := 42 }) (va_Pc [.ref p0, .int p1, .int p2, .int p3] (CPC D Y Z ws sz)) (QG (S := Int32 × va_W) (fun u => some (.int u.1)) (fun u => TW Y Z T g q u.2 ∧ KF 6 T ws u.2) (fun u => CB D u.2 (va_A ws sz)) (va_A ws sz)) 0 0 (va_A ws sz) := by
  refine Met.ofW (cc := cX10_row) (maxL := 7) (ret := (some .int)) (by decide) rfl ?_
  intro p e s m args below meth c s₁ B hml hv
  obtain ⟨rfl, ⟨hsz, hP, hKN, hD0⟩, hSZ⟩ := hv
  have hx := B.exec
  have hb := B.bytes
  have hr := B.returns
  have hts := atoms_spec (ws := .code yX10_row cX10_row 7 (some .int) :: GW) B.pre
  have hg : ∀ w ∈ GW, w.before _ s = true := fun w h => hts w (List.mem_cons_of_mem _ h)
  have hown : s.vm.findClass RX10 = some m.cls := findClass_of_methodNamed B.named
  have hlocks := B.notSynchronized
  subst hsz
  have hD := hD0.self (sz := s.heap.size)
  generalize hAe : va_A ws s.heap.size = A at hD hSZ ⊢
  have hA : ∀ q : Nat, s.heap.size ≤ q → A q := fun q h => by rw [← hAe]; exact Or.inr h
  clear hAe hD0 hts B
  have hl := lv_entry ([.ref p0, .int p1, .int p2, .int p3]) (n := 7) (Nat.le_of_ble_eq_true rfl)
  rw [lg_entry_eq]
  generalize (lg_sl ([.ref p0, .int p1, .int p2, .int p3]) ++ List.replicate (7 - (lg_sl ([.ref p0, .int p1, .int p2, .int p3])).length) Slot.unset).toArray = ls at hl ⊢
  have hl : lv_has ls 7 [(0, .ref p0), (1, .int p1), (2, .int p2), (3, .int p3)] := hl
  refine w_start (A0 := A) hP (fun H locs hP hS => ?_)
  refine lv_aload_n hx hb dX10_row_0 rfl (lv_at hl 0 rfl) ?_
  refine ok1 hT ht0 (fun p42 a1 a2 a3 a4 a5 x6 x7 x8 a9 a10 a11 a12 a13 a14 a15 a16 a17 x18 a19 a20 hk43 h21 h22 h23 h24 h25 h26 h27 h28 h29 h30 h31 h32 h33 h34 h35 h36 h37 h38 h39 h40 h41 => ?_)
  refine va_get (D := D) (ci := 10) (v := .ref a1) (C := RX10) (T := TX10) (N := 20) hx hb hg inGX10 hown hKN.1 hP p42 hk43 rfl 0 (by decide) (hg _ kw_349) (fun _ h9 => h9) rfl dX10_row_1 ?_
  refine lv_iload_n hx hb dX10_row_4 rfl (lv_at hl 1 rfl) ?_
  refine ok2 hT h21 (fun p78 x44 a45 x46 a47 x48 a49 a50 x51 a52 a53 x54 a55 x56 hk79 h57 h58 h59 h60 h61 h62 h63 h64 h65 h66 h67 h68 h69 h70 h71 h72 h73 h74 h75 h76 h77 => ?_)
  refine cga (rn_NV (As := [.int p1]) (rest := []) (b := a1) (x_X6_starAt l D Y Z H.size ws T g q 0 a1 p1 hT h21) ⟨hx, hb, hml, hown, hg⟩ hKN lk_X10_108 ⟨CPC.blind, va_recv hKN.1 hP (ci := 6) (q0 := p78) rfl hk79, CPC.at hP hKN hD hSZ hS hA⟩ ⟨⟨rfl, rfl⟩, ⟨Nat.le_of_ble_eq_true rfl, Nat.le_of_ble_eq_true rfl⟩, ⟨(Nat.le_of_ble_eq_true rfl), (Nat.le_of_ble_eq_true rfl)⟩⟩ hl.1 rfl (Nat.le_of_ble_eq_true rfl) dX10_row_5) hP hD hS hA (fun u80 H locs hw81 hP hD hS => ?_)
  obtain ⟨ht83, hw84⟩ : (∀ b, u80 = some b → T b = (3, 0, p1.toNatClampNeg)) ∧ (∀ b, u80 = some b → 0 ≤ p1.toInt ∧ p1.toInt ≤ 11) := hw81
  refine W.eq (g2 := F0 m 8 ls [va_rf u80]) rfl ?_
  rcases u80 with _ | b85
  · skip
    refine W.eq (g2 := F0 m 8 ls [.null]) rfl ?_
    refine lv_astoreN (lv' := [(4, .null), (0, .ref p0), (1, .int p1), (2, .int p2), (3, .int p3)]) hx hb dX10_row_8 hl (by decide) rfl (fun ls hl => ?_)
    refine lv_iload_n hx hb dX10_row_10 rfl (lv_at hl 4 rfl) ?_
    refine lv_ldc (v := (-100000)) hx hb hown (hg _ kw_469) dX10_row_11 ?_
    have j86 := rgI p3
    refine lv_icmp_eq (tgt := 29) hx hb dX10_row_13 (by decide) (fun c87 => ?_) (fun c87 => ?_)
    · skip
      have c87 := i_eq (Eq.refl p3.toInt) (show ((-100000) : Int32).toInt = -100000 by decide) c87
      refine lv_iconst (v := 1) hx hb dX10_row_29 (by decide) ?_
      refine lv_goto (tgt := 34) hx hb dX10_row_30 (by decide) ?_
      refine lv_istore (lv' := [(5, .int 1), (4, .null), (0, .ref p0), (1, .int p1), (2, .int p2), (3, .int p3)]) hx hb dX10_row_34 hl (by decide) rfl (fun ls hl => ?_)
      refine lv_aloadN hx hb dX10_row_36 (lv_at hl 1 rfl) ?_
      refine lv_ifnullN (tgt := 53) hx hb dX10_row_38 (by decide) ?_
      refine lv_ldc (v := (-200000)) hx hb hown (hg _ kw_473) dX10_row_53 ?_
      refine W.widen (k := 0) (n := 0) (Nat.le_of_ble_eq_true rfl) (Nat.le_of_ble_eq_true rfl) ?_
      have zim200000 : ((-200000) : Int32).toInt = -200000 := by decide
      have zi1 : (1 : Int32).toInt = 1 := by decide
      exact W.iret (v := (-200000)) hx hb hr (fun t ht hW => ⟨⟨(((-200000)), ws), rfl, ⟨hT, KF.rf⟩, CB.mk ht hP hD⟩, hS.F ht⟩) hS.2.2 dX10_row_55
    · skip
      have c87 := i_ne (Eq.refl p3.toInt) (show ((-100000) : Int32).toInt = -100000 by decide) c87
      refine lv_iload_n hx hb dX10_row_16 rfl (lv_at hl 4 rfl) ?_
      refine lv_sipush (v := (-30000)) hx hb dX10_row_17 (by decide) ?_
      refine lv_sipush (v := 30000) hx hb dX10_row_20 (by decide) ?_
      have zim30000 : ((-30000) : Int32).toInt = -30000 := by decide
      have zi30000 : (30000 : Int32).toInt = 30000 := by decide
      refine cg0 (rn_S (As := [.int p3, .int (-30000), .int 30000]) (rest := []) (x_X10_isWithin l D Y Z H.size p3 (-30000) 30000) ⟨hx, hb, hml, hown, hg⟩ lk_X10_100 ⟨CP.blind, CP.at nilP hKN (nilD (A := fun _ => True))⟩ ⟨⟨rfl, rfl⟩, ⟨Nat.le_of_ble_eq_true rfl, Nat.le_of_ble_eq_true rfl⟩, ⟨(Nat.le_of_ble_eq_true rfl), (Nat.le_of_ble_eq_true rfl)⟩⟩ hl.1 rfl (Nat.le_of_ble_eq_true rfl) dX10_row_23) hP hS hA (fun u88 H locs hw89 hP hS => ?_)
      obtain ⟨hw91, hw92⟩ : ((((-30000) : Int32).toInt ≤ p3.toInt ∧ p3.toInt ≤ (30000 : Int32).toInt ∧ u88.toInt = 1) ∨ (¬ (((-30000) : Int32).toInt ≤ p3.toInt ∧ p3.toInt ≤ (30000 : Int32).toInt) ∧ u88.toInt = 0)) ∧ (0 ≤ u88.toInt ∧ u88.toInt ≤ 1) := hw89
      refine W.eq (g2 := F0 m 26 ls [.int u88]) rfl ?_
      rcases (show u88.toInt = 1 ∨ u88.toInt = 0 by omega) with c93 | c93
      · obtain rfl : u88 = 1 := i_is c93 (by decide)
        have zi1 : (1 : Int32).toInt = 1 := by decide
        refine W.eq (g2 := F0 m 26 ls [.int 1]) rfl ?_
        refine lv_if_eq (tgt := 33) hx hb dX10_row_26 (by decide) (fun c94 => ?_) (fun c94 => ?_)
        · exact absurd c94 (by decide)
        refine lv_iconst (v := 1) hx hb dX10_row_29 (by decide) ?_
        refine lv_goto (tgt := 34) hx hb dX10_row_30 (by decide) ?_
        refine lv_istore (lv' := [(5, .int 1), (4, .null), (0, .ref p0), (1, .int p1), (2, .int p2), (3, .int p3)]) hx hb dX10_row_34 hl (by decide) rfl (fun ls hl => ?_)
        refine lv_aloadN hx hb dX10_row_36 (lv_at hl 1 rfl) ?_
        refine lv_ifnullN (tgt := 53) hx hb dX10_row_38 (by decide) ?_
        refine lv_ldc (v := (-200000)) hx hb hown (hg _ kw_473) dX10_row_53 ?_
        refine W.widen (k := 0) (n := 0) (Nat.le_of_ble_eq_true rfl) (Nat.le_of_ble_eq_true rfl) ?_
        have zim200000 : ((-200000) : Int32).toInt = -200000 := by decide
        exact W.iret (v := (-200000)) hx hb hr (fun t ht hW => ⟨⟨(((-200000)), ws), rfl, ⟨hT, KF.rf⟩, CB.mk ht hP hD⟩, hS.F ht⟩) hS.2.2 dX10_row_55
      · obtain rfl : u88 = 0 := i_is c93 (by decide)
        have zi0 : (0 : Int32).toInt = 0 := by decide
        refine W.eq (g2 := F0 m 26 ls [.int 0]) rfl ?_
        refine lv_if_eq (tgt := 33) hx hb dX10_row_26 (by decide) (fun c95 => ?_) (fun c95 => ?_)
        rotate_left
        · exact absurd c95 (by decide)
        refine lv_iconst (v := 0) hx hb dX10_row_33 (by decide) ?_
        refine lv_istore (lv' := [(5, .int 0), (4, .null), (0, .ref p0), (1, .int p1), (2, .int p2), (3, .int p3)]) hx hb dX10_row_34 hl (by decide) rfl (fun ls hl => ?_)
        refine lv_aloadN hx hb dX10_row_36 (lv_at hl 1 rfl) ?_
        refine lv_ifnullN (tgt := 53) hx hb dX10_row_38 (by decide) ?_
        refine lv_ldc (v := (-200000)) hx hb hown (hg _ kw_473) dX10_row_53 ?_
        refine W.widen (k := 0) (n := 0) (Nat.le_of_ble_eq_true rfl) (Nat.le_of_ble_eq_true rfl) ?_
        have zim200000 : ((-200000) : Int32).toInt = -200000 := by decide
        exact W.iret (v := (-200000)) hx hb hr (fun t ht hW => ⟨⟨(((-200000)), ws), rfl, ⟨hT, KF.rf⟩, CB.mk ht hP hD⟩, hS.F ht⟩) hS.2.2 dX10_row_55
  · skip
    have ht96 := ht83 b85 rfl
    have h97 := hw84 b85 rfl
    refine W.eq (g2 := F0 m 8 ls [.ref b85]) rfl ?_
    refine lv_astore (lv' := [(4, .ref b85), (0, .ref p0), (1, .int p1), (2, .int p2), (3, .int p3)]) hx hb dX10_row_8 hl (by decide) rfl (fun ls hl => ?_)
    refine lv_iload_n hx hb dX10_row_10 rfl (lv_at hl 4 rfl) ?_
    refine lv_ldc (v := (-100000)) hx hb hown (hg _ kw_469) dX10_row_11 ?_
    have j98 := rgI p3
    refine lv_icmp_eq (tgt := 29) hx hb dX10_row_13 (by decide) (fun c99 => ?_) (fun c99 => ?_)
    · skip
      have c99 := i_eq (Eq.refl p3.toInt) (show ((-100000) : Int32).toInt = -100000 by decide) c99
      refine lv_iconst (v := 1) hx hb dX10_row_29 (by decide) ?_
      refine lv_goto (tgt := 34) hx hb dX10_row_30 (by decide) ?_
      refine lv_istore (lv' := [(5, .int 1), (4, .ref b85), (0, .ref p0), (1, .int p1), (2, .int p2), (3, .int p3)]) hx hb dX10_row_34 hl (by decide) rfl (fun ls hl => ?_)
      refine lv_aload hx hb dX10_row_36 (lv_at hl 1 rfl) ?_
      refine lv_ifnull hx hb dX10_row_38 ?_
      refine lv_iload_n hx hb dX10_row_41 rfl (lv_at hl 4 rfl) ?_
      refine cg0 (rn_S (As := [.int p2]) (rest := []) (x_X10_isHour l D Y Z H.size p2) ⟨hx, hb, hml, hown, hg⟩ lk_X10_113 ⟨CP.blind, CP.at nilP hKN (nilD (A := fun _ => True))⟩ ⟨⟨rfl, rfl⟩, ⟨Nat.le_of_ble_eq_true rfl, Nat.le_of_ble_eq_true rfl⟩, ⟨(Nat.le_of_ble_eq_true rfl), (Nat.le_of_ble_eq_true rfl)⟩⟩ hl.1 rfl (Nat.le_of_ble_eq_true rfl) dX10_row_42) hP hS hA (fun u100 H locs hw101 hP hS => ?_)
      obtain ⟨hw103, hw104⟩ : ((0 ≤ p2.toInt ∧ p2.toInt ≤ 599 ∧ u100.toInt = 1) ∨ (¬ (0 ≤ p2.toInt ∧ p2.toInt ≤ 599) ∧ u100.toInt = 0)) ∧ (0 ≤ u100.toInt ∧ u100.toInt ≤ 1) := hw101
      refine W.eq (g2 := F0 m 45 ls [.int u100]) rfl ?_
      rcases (show u100.toInt = 1 ∨ u100.toInt = 0 by omega) with c105 | c105
      · obtain rfl : u100 = 1 := i_is c105 (by decide)
        have zi1 : (1 : Int32).toInt = 1 := by decide
        refine W.eq (g2 := F0 m 45 ls [.int 1]) rfl ?_
        refine lv_if_eq (tgt := 53) hx hb dX10_row_45 (by decide) (fun c106 => ?_) (fun c106 => ?_)
        · exact absurd c106 (by decide)
        refine lv_iload hx hb dX10_row_48 (lv_at hl 0 rfl) ?_
        refine lv_if_ne (tgt := 56) hx hb dX10_row_50 (by decide) (fun c107 => ?_) (fun c107 => ?_)
        rotate_left
        · exact absurd c107 (by decide)
        refine lv_aload hx hb dX10_row_56 (lv_at hl 1 rfl) ?_
        refine ok3 hT ht96 (fun p114 x108 x109 x110 a111 hk115 h112 h113 => ?_)
        refine va_getN (D := D) (ci := 7) (v := .ref a111) (C := RX7) (T := TX7) (N := 4) hx hb hg inGX7 hown hKN.1 hP p114 hk115 rfl 3 (by decide) (va_Nw.use rfl (hKN.2.1 _ kn_443 rfl)) (fun _ h9 => h9) rfl dX10_row_58 ?_
        refine lv_iload_n hx hb dX10_row_61 rfl (lv_at hl 4 rfl) ?_
        refine tr_ld12 hx hb hKN hP hT h113 (vp_in_iff.mpr ⟨by omega, by omega⟩) dX10_row_62 (fun v116 => ?_)
        refine lv_istore (lv' := [(6, .int v116), (5, .int 1), (4, .ref b85), (0, .ref p0), (1, .int p1), (2, .int p2), (3, .int p3)]) hx hb dX10_row_63 hl (by decide) rfl (fun ls hl => ?_)
        refine lv_aload hx hb dX10_row_65 (lv_at hl 2 rfl) ?_
        refine va_getN (D := D) (ci := 7) (v := .ref a111) (C := RX7) (T := TX7) (N := 4) hx hb hg inGX7 hown hKN.1 hP p114 hk115 rfl 3 (by decide) (va_Nw.use rfl (hKN.2.1 _ kn_443 rfl)) (fun _ h9 => h9) rfl dX10_row_67 ?_
        refine lv_iload_n hx hb dX10_row_70 rfl (lv_at hl 5 rfl) ?_
        refine lv_iload_n hx hb dX10_row_71 rfl (lv_at hl 6 rfl) ?_
        refine tr_st12 hx hb hKN hP hD hS hT h113 (vp_in_iff.mpr ⟨by omega, by omega⟩) dX10_row_72 (fun w117 H locs hP hD hS hT kp118 => ?_)
        have ke119 : KF 6 T ws w117 := KF.tr KF.rf (KF.kp kp118 h113 (by decide))
        have hk120 := kp118 _ _ hk43 (rne ht0 h113 (by decide))
        have hk121 := kp118 _ _ hk79 (rne h21 h113 (by decide))
        have hk122 := kp118 _ _ hk115 (rne ht96 h113 (by decide))
        refine lv_aload_n hx hb dX10_row_73 rfl (lv_at hl 3 rfl) ?_
        refine lv_dup hx hb dX10_row_74 rfl ?_
        refine va_get (D := D) (ci := 10) (v := .int x18) (C := RX10) (T := TX10) (N := 20) hx hb hg inGX10 hown hKN.1 hP p42 hk120 rfl 17 (by decide) (hg _ kw_366) (fun _ h9 => h9) rfl dX10_row_75 ?_
        refine lv_iconst (v := 1) hx hb dX10_row_78 (by decide) ?_
        refine lv_iadd hx hb dX10_row_79 ?_
        refine lv_topi (fun v123 ev123 => ?_)
        refine va_put (D := D) (ci := 10) (v := .int v123) (ty := .int) (C := RX10) (T := TX10) (N := 20) hx hb hg inGX10 tyX10 tyX10_ok nmX10 hown hKN.1 hP hD hS p42 hk120 rfl 17 (by decide) (hg _ kw_366) (fun _ h9 => h9) rfl (by decide +kernel) rfl rfl (Nat.le_of_ble_eq_true rfl) dX10_row_80 (fun H locs hP hD2 hS => ?_)
        obtain ⟨w124, hP, hD, hT, hk126, kp125⟩ : ∃ wz, va_P D vwCl wz H ∧ va_D A wz ∧ TW Y Z T g q wz ∧ wz[p42]? = some (p0, .inr (10, (.ref a1 :: .ref a2 :: .ref a3 :: .ref a4 :: .ref a5 :: .int x6 :: .int x7 :: .int x8 :: .ref a9 :: .ref a10 :: .ref a11 :: .ref a12 :: .ref a13 :: .ref a14 :: .ref a15 :: .ref a16 :: .ref a17 :: .int v123 :: .ref a19 :: .ref a20 :: []))) ∧ Kp p0 w117 wz := ⟨_, hP, hD2, st1 hT hD hk120 ht0 ⟨a1, a2, a3, a4, a5, x6, x7, x8, a9, a10, a11, a12, a13, a14, a15, a16, a17, v123, a19, a20, rfl, h21, h22, h23, h24, h25, h26, h27, by omega, by omega, by omega, h31, h32, h33, h34, h35, h36, h37, h38, h39, h40, h41⟩, sw_eq hk120, sw_kp hk120⟩
        have ke127 : KF 6 T ws w124 := KF.tr ke119 (KF.kp kp125 ht0 (by decide))
        have hk128 := kp125 _ _ hk121 (rne h21 ht0 (by decide))
        have hk129 := kp125 _ _ hk122 (rne ht96 ht0 (by decide))
        refine lv_iload hx hb dX10_row_83 (lv_at hl 0 rfl) ?_
        refine W.widen (k := 0) (n := 0) (Nat.le_of_ble_eq_true rfl) (Nat.le_of_ble_eq_true rfl) ?_
        exact W.iret (v := v116) hx hb hr (fun t ht hW => ⟨⟨(v116, w124), rfl, ⟨hT, ke127⟩, CB.mk ht hP hD⟩, hS.F ht⟩) hS.2.2 dX10_row_85
      · obtain rfl : u100 = 0 := i_is c105 (by decide)
        have zi0 : (0 : Int32).toInt = 0 := by decide
        refine W.eq (g2 := F0 m 45 ls [.int 0]) rfl ?_
        refine lv_if_eq (tgt := 53) hx hb dX10_row_45 (by decide) (fun c130 => ?_) (fun c130 => ?_)
        rotate_left
        · exact absurd c130 (by decide)
        refine lv_ldc (v := (-200000)) hx hb hown (hg _ kw_473) dX10_row_53 ?_
        refine W.widen (k := 0) (n := 0) (Nat.le_of_ble_eq_true rfl) (Nat.le_of_ble_eq_true rfl) ?_
        have zim200000 : ((-200000) : Int32).toInt = -200000 := by decide
        have zi1 : (1 : Int32).toInt = 1 := by decide
        exact W.iret (v := (-200000)) hx hb hr (fun t ht hW => ⟨⟨(((-200000)), ws), rfl, ⟨hT, KF.rf⟩, CB.mk ht hP hD⟩, hS.F ht⟩) hS.2.2 dX10_row_55
    · skip
      have c99 := i_ne (Eq.refl p3.toInt) (show ((-100000) : Int32).toInt = -100000 by decide) c99
      refine lv_iload_n hx hb dX10_row_16 rfl (lv_at hl 4 rfl) ?_
      refine lv_sipush (v := (-30000)) hx hb dX10_row_17 (by decide) ?_
      refine lv_sipush (v := 30000) hx hb dX10_row_20 (by decide) ?_
      have zim30000 : ((-30000) : Int32).toInt = -30000 := by decide
      have zi30000 : (30000 : Int32).toInt = 30000 := by decide
      refine cg0 (rn_S (As := [.int p3, .int (-30000), .int 30000]) (rest := []) (x_X10_isWithin l D Y Z H.size p3 (-30000) 30000) ⟨hx, hb, hml, hown, hg⟩ lk_X10_100 ⟨CP.blind, CP.at nilP hKN (nilD (A := fun _ => True))⟩ ⟨⟨rfl, rfl⟩, ⟨Nat.le_of_ble_eq_true rfl, Nat.le_of_ble_eq_true rfl⟩, ⟨(Nat.le_of_ble_eq_true rfl), (Nat.le_of_ble_eq_true rfl)⟩⟩ hl.1 rfl (Nat.le_of_ble_eq_true rfl) dX10_row_23) hP hS hA (fun u131 H locs hw132 hP hS => ?_)
      obtain ⟨hw134, hw135⟩ : ((((-30000) : Int32).toInt ≤ p3.toInt ∧ p3.toInt ≤ (30000 : Int32).toInt ∧ u131.toInt = 1) ∨ (¬ (((-30000) : Int32).toInt ≤ p3.toInt ∧ p3.toInt ≤ (30000 : Int32).toInt) ∧ u131.toInt = 0)) ∧ (0 ≤ u131.toInt ∧ u131.toInt ≤ 1) := hw132
      refine W.eq (g2 := F0 m 26 ls [.int u131]) rfl ?_
      rcases (show u131.toInt = 1 ∨ u131.toInt = 0 by omega) with c136 | c136
      · obtain rfl : u131 = 1 := i_is c136 (by decide)
        have zi1 : (1 : Int32).toInt = 1 := by decide
        refine W.eq (g2 := F0 m 26 ls [.int 1]) rfl ?_
        refine lv_if_eq (tgt := 33) hx hb dX10_row_26 (by decide) (fun c137 => ?_) (fun c137 => ?_)
        · exact absurd c137 (by decide)
        refine lv_iconst (v := 1) hx hb dX10_row_29 (by decide) ?_
        refine lv_goto (tgt := 34) hx hb dX10_row_30 (by decide) ?_
        refine lv_istore (lv' := [(5, .int 1), (4, .ref b85), (0, .ref p0), (1, .int p1), (2, .int p2), (3, .int p3)]) hx hb dX10_row_34 hl (by decide) rfl (fun ls hl => ?_)
        refine lv_aload hx hb dX10_row_36 (lv_at hl 1 rfl) ?_
        refine lv_ifnull hx hb dX10_row_38 ?_
        refine lv_iload_n hx hb dX10_row_41 rfl (lv_at hl 4 rfl) ?_
        refine cg0 (rn_S (As := [.int p2]) (rest := []) (x_X10_isHour l D Y Z H.size p2) ⟨hx, hb, hml, hown, hg⟩ lk_X10_113 ⟨CP.blind, CP.at nilP hKN (nilD (A := fun _ => True))⟩ ⟨⟨rfl, rfl⟩, ⟨Nat.le_of_ble_eq_true rfl, Nat.le_of_ble_eq_true rfl⟩, ⟨(Nat.le_of_ble_eq_true rfl), (Nat.le_of_ble_eq_true rfl)⟩⟩ hl.1 rfl (Nat.le_of_ble_eq_true rfl) dX10_row_42) hP hS hA (fun u138 H locs hw139 hP hS => ?_)
        obtain ⟨hw141, hw142⟩ : ((0 ≤ p2.toInt ∧ p2.toInt ≤ 599 ∧ u138.toInt = 1) ∨ (¬ (0 ≤ p2.toInt ∧ p2.toInt ≤ 599) ∧ u138.toInt = 0)) ∧ (0 ≤ u138.toInt ∧ u138.toInt ≤ 1) := hw139
        refine W.eq (g2 := F0 m 45 ls [.int u138]) rfl ?_
        rcases (show u138.toInt = 1 ∨ u138.toInt = 0 by omega) with c143 | c143
        · obtain rfl : u138 = 1 := i_is c143 (by decide)
          refine W.eq (g2 := F0 m 45 ls [.int 1]) rfl ?_
          refine lv_if_eq (tgt := 53) hx hb dX10_row_45 (by decide) (fun c144 => ?_) (fun c144 => ?_)
          · exact absurd c144 (by decide)
          refine lv_iload hx hb dX10_row_48 (lv_at hl 0 rfl) ?_
          refine lv_if_ne (tgt := 56) hx hb dX10_row_50 (by decide) (fun c145 => ?_) (fun c145 => ?_)
          rotate_left
          · exact absurd c145 (by decide)
          refine lv_aload hx hb dX10_row_56 (lv_at hl 1 rfl) ?_
          refine ok3 hT ht96 (fun p152 x146 x147 x148 a149 hk153 h150 h151 => ?_)
          refine va_getN (D := D) (ci := 7) (v := .ref a149) (C := RX7) (T := TX7) (N := 4) hx hb hg inGX7 hown hKN.1 hP p152 hk153 rfl 3 (by decide) (va_Nw.use rfl (hKN.2.1 _ kn_443 rfl)) (fun _ h9 => h9) rfl dX10_row_58 ?_
          refine lv_iload_n hx hb dX10_row_61 rfl (lv_at hl 4 rfl) ?_
          refine tr_ld12 hx hb hKN hP hT h151 (vp_in_iff.mpr ⟨by omega, by omega⟩) dX10_row_62 (fun v154 => ?_)
          refine lv_istore (lv' := [(6, .int v154), (5, .int 1), (4, .ref b85), (0, .ref p0), (1, .int p1), (2, .int p2), (3, .int p3)]) hx hb dX10_row_63 hl (by decide) rfl (fun ls hl => ?_)
          refine lv_aload hx hb dX10_row_65 (lv_at hl 2 rfl) ?_
          refine va_getN (D := D) (ci := 7) (v := .ref a149) (C := RX7) (T := TX7) (N := 4) hx hb hg inGX7 hown hKN.1 hP p152 hk153 rfl 3 (by decide) (va_Nw.use rfl (hKN.2.1 _ kn_443 rfl)) (fun _ h9 => h9) rfl dX10_row_67 ?_
          refine lv_iload_n hx hb dX10_row_70 rfl (lv_at hl 5 rfl) ?_
          refine lv_iload_n hx hb dX10_row_71 rfl (lv_at hl 6 rfl) ?_
          refine tr_st12 hx hb hKN hP hD hS hT h151 (vp_in_iff.mpr ⟨by omega, by omega⟩) dX10_row_72 (fun w155 H locs hP hD hS hT kp156 => ?_)
          have ke157 : KF 6 T ws w155 := KF.tr KF.rf (KF.kp kp156 h151 (by decide))
          have hk158 := kp156 _ _ hk43 (rne ht0 h151 (by decide))
          have hk159 := kp156 _ _ hk79 (rne h21 h151 (by decide))
          have hk160 := kp156 _ _ hk153 (rne ht96 h151 (by decide))
          refine lv_aload_n hx hb dX10_row_73 rfl (lv_at hl 3 rfl) ?_
          refine lv_dup hx hb dX10_row_74 rfl ?_
          refine va_get (D := D) (ci := 10) (v := .int x18) (C := RX10) (T := TX10) (N := 20) hx hb hg inGX10 hown hKN.1 hP p42 hk158 rfl 17 (by decide) (hg _ kw_366) (fun _ h9 => h9) rfl dX10_row_75 ?_
          refine lv_iconst (v := 1) hx hb dX10_row_78 (by decide) ?_
          refine lv_iadd hx hb dX10_row_79 ?_
          refine lv_topi (fun v161 ev161 => ?_)
          refine va_put (D := D) (ci := 10) (v := .int v161) (ty := .int) (C := RX10) (T := TX10) (N := 20) hx hb hg inGX10 tyX10 tyX10_ok nmX10 hown hKN.1 hP hD hS p42 hk158 rfl 17 (by decide) (hg _ kw_366) (fun _ h9 => h9) rfl (by decide +kernel) rfl rfl (Nat.le_of_ble_eq_true rfl) dX10_row_80 (fun H locs hP hD2 hS => ?_)
          obtain ⟨w162, hP, hD, hT, hk164, kp163⟩ : ∃ wz, va_P D vwCl wz H ∧ va_D A wz ∧ TW Y Z T g q wz ∧ wz[p42]? = some (p0, .inr (10, (.ref a1 :: .ref a2 :: .ref a3 :: .ref a4 :: .ref a5 :: .int x6 :: .int x7 :: .int x8 :: .ref a9 :: .ref a10 :: .ref a11 :: .ref a12 :: .ref a13 :: .ref a14 :: .ref a15 :: .ref a16 :: .ref a17 :: .int v161 :: .ref a19 :: .ref a20 :: []))) ∧ Kp p0 w155 wz := ⟨_, hP, hD2, st1 hT hD hk158 ht0 ⟨a1, a2, a3, a4, a5, x6, x7, x8, a9, a10, a11, a12, a13, a14, a15, a16, a17, v161, a19, a20, rfl, h21, h22, h23, h24, h25, h26, h27, by omega, by omega, by omega, h31, h32, h33, h34, h35, h36, h37, h38, h39, h40, h41⟩, sw_eq hk158, sw_kp hk158⟩
          have ke165 : KF 6 T ws w162 := KF.tr ke157 (KF.kp kp163 ht0 (by decide))
          have hk166 := kp163 _ _ hk159 (rne h21 ht0 (by decide))
          have hk167 := kp163 _ _ hk160 (rne ht96 ht0 (by decide))
          refine lv_iload hx hb dX10_row_83 (lv_at hl 0 rfl) ?_
          refine W.widen (k := 0) (n := 0) (Nat.le_of_ble_eq_true rfl) (Nat.le_of_ble_eq_true rfl) ?_
          exact W.iret (v := v154) hx hb hr (fun t ht hW => ⟨⟨(v154, w162), rfl, ⟨hT, ke165⟩, CB.mk ht hP hD⟩, hS.F ht⟩) hS.2.2 dX10_row_85
        · obtain rfl : u138 = 0 := i_is c143 (by decide)
          have zi0 : (0 : Int32).toInt = 0 := by decide
          refine W.eq (g2 := F0 m 45 ls [.int 0]) rfl ?_
          refine lv_if_eq (tgt := 53) hx hb dX10_row_45 (by decide) (fun c168 => ?_) (fun c168 => ?_)
          rotate_left
          · exact absurd c168 (by decide)
          refine lv_ldc (v := (-200000)) hx hb hown (hg _ kw_473) dX10_row_53 ?_
          refine W.widen (k := 0) (n := 0) (Nat.le_of_ble_eq_true rfl) (Nat.le_of_ble_eq_true rfl) ?_
          have zim200000 : ((-200000) : Int32).toInt = -200000 := by decide
          exact W.iret (v := (-200000)) hx hb hr (fun t ht hW => ⟨⟨(((-200000)), ws), rfl, ⟨hT, KF.rf⟩, CB.mk ht hP hD⟩, hS.F ht⟩) hS.2.2 dX10_row_55
      · obtain rfl : u131 = 0 := i_is c136 (by decide)
        have zi0 : (0 : Int32).toInt = 0 := by decide
        refine W.eq (g2 := F0 m 26 ls [.int 0]) rfl ?_
        refine lv_if_eq (tgt := 33) hx hb dX10_row_26 (by decide) (fun c169 => ?_) (fun c169 => ?_)
        rotate_left
        · exact absurd c169 (by decide)
        refine lv_iconst (v := 0) hx hb dX10_row_33 (by decide) ?_
        refine lv_istore (lv' := [(5, .int 0), (4, .ref b85), (0, .ref p0), (1, .int p1), (2, .int p2), (3, .int p3)]) hx hb dX10_row_34 hl (by decide) rfl (fun ls hl => ?_)
        refine lv_aload hx hb dX10_row_36 (lv_at hl 1 rfl) ?_
        refine lv_ifnull hx hb dX10_row_38 ?_
        refine lv_iload_n hx hb dX10_row_41 rfl (lv_at hl 4 rfl) ?_
        refine cg0 (rn_S (As := [.int p2]) (rest := []) (x_X10_isHour l D Y Z H.size p2) ⟨hx, hb, hml, hown, hg⟩ lk_X10_113 ⟨CP.blind, CP.at nilP hKN (nilD (A := fun _ => True))⟩ ⟨⟨rfl, rfl⟩, ⟨Nat.le_of_ble_eq_true rfl, Nat.le_of_ble_eq_true rfl⟩, ⟨(Nat.le_of_ble_eq_true rfl), (Nat.le_of_ble_eq_true rfl)⟩⟩ hl.1 rfl (Nat.le_of_ble_eq_true rfl) dX10_row_42) hP hS hA (fun u170 H locs hw171 hP hS => ?_)
        obtain ⟨hw173, hw174⟩ : ((0 ≤ p2.toInt ∧ p2.toInt ≤ 599 ∧ u170.toInt = 1) ∨ (¬ (0 ≤ p2.toInt ∧ p2.toInt ≤ 599) ∧ u170.toInt = 0)) ∧ (0 ≤ u170.toInt ∧ u170.toInt ≤ 1) := hw171
        refine W.eq (g2 := F0 m 45 ls [.int u170]) rfl ?_
        rcases (show u170.toInt = 1 ∨ u170.toInt = 0 by omega) with c175 | c175
        · obtain rfl : u170 = 1 := i_is c175 (by decide)
          have zi1 : (1 : Int32).toInt = 1 := by decide
          refine W.eq (g2 := F0 m 45 ls [.int 1]) rfl ?_
          refine lv_if_eq (tgt := 53) hx hb dX10_row_45 (by decide) (fun c176 => ?_) (fun c176 => ?_)
          · exact absurd c176 (by decide)
          refine lv_iload hx hb dX10_row_48 (lv_at hl 0 rfl) ?_
          refine lv_if_ne (tgt := 56) hx hb dX10_row_50 (by decide) (fun c177 => ?_) (fun c177 => ?_)
          · exact absurd c177 (by decide)
          refine lv_ldc (v := (-200000)) hx hb hown (hg _ kw_473) dX10_row_53 ?_
          refine W.widen (k := 0) (n := 0) (Nat.le_of_ble_eq_true rfl) (Nat.le_of_ble_eq_true rfl) ?_
          have zim200000 : ((-200000) : Int32).toInt = -200000 := by decide
          exact W.iret (v := (-200000)) hx hb hr (fun t ht hW => ⟨⟨(((-200000)), ws), rfl, ⟨hT, KF.rf⟩, CB.mk ht hP hD⟩, hS.F ht⟩) hS.2.2 dX10_row_55
        · obtain rfl : u170 = 0 := i_is c175 (by decide)
          refine W.eq (g2 := F0 m 45 ls [.int 0]) rfl ?_
          refine lv_if_eq (tgt := 53) hx hb dX10_row_45 (by decide) (fun c178 => ?_) (fun c178 => ?_)
          rotate_left
          · exact absurd c178 (by decide)
          refine lv_ldc (v := (-200000)) hx hb hown (hg _ kw_473) dX10_row_53 ?_
          refine W.widen (k := 0) (n := 0) (Nat.le_of_ble_eq_true rfl) (Nat.le_of_ble_eq_true rfl) ?_
          have zim200000 : ((-200000) : Int32).toInt = -200000 := by decide
          exact W.iret (v := (-200000)) hx hb hr (fun t ht hW => ⟨⟨(((-200000)), ws), rfl, ⟨hT, KF.rf⟩, CB.mk ht hP hD⟩, hS.F ht⟩) hS.2.2 dX10_row_55
set_option maxHeartbeats 4000000 in
set_option maxRecDepth 100000 in
theorem x_X10_mask (l : Launch) (D : va_G) (Y : Nat → ClassId) (Z : Nat → Nat) (sz : Nat) (ws : va_W) (T : RT) (g : GN) (q : GQ)  (p0 : Nat) (p1 : Int32) (p2 : Int32) (p3 : Int32) (hT : TW Y Z T g q ws) (ht0 : T p0 = (1, 0, 0)) : Met l yX10_mask (.code yX10_mask cX10_mask 4 (some .boolean) :: GW) ({ frames := 1, cells := 0, slots := 0, locals := 22 }) (va_Pc [.ref p0, .int p1, .int p2, .int p3] (CPC D Y Z ws sz)) (QG (S := Int32 × va_W) (fun u => some (.int u.1)) (fun u => TW Y Z T g q u.2 ∧ KF 6 T ws u.2 ∧ (0 ≤ u.1.toInt ∧ u.1.toInt ≤ 1)) (fun u => CB D u.2 (va_A ws sz)) (va_A ws sz)) 0 0 (va_A ws sz) := by
  refine Met.ofW (cc := cX10_mask) (maxL := 4) (ret := (some .boolean)) (by decide) rfl ?_
  intro p e s m args below meth c s₁ B hml hv
  obtain ⟨rfl, ⟨hsz, hP, hKN, hD0⟩, hSZ⟩ := hv
  have hx := B.exec
  have hb := B.bytes
  have hr := B.returns
  have hts := atoms_spec (ws := .code yX10_mask cX10_mask 4 (some .boolean) :: GW) B.pre
  have hg : ∀ w ∈ GW, w.before _ s = true := fun w h => hts w (List.mem_cons_of_mem _ h)
  have hown : s.vm.findClass RX10 = some m.cls := findClass_of_methodNamed B.named
  have hlocks := B.notSynchronized
  subst hsz
  have hD := hD0.self (sz := s.heap.size)
  generalize hAe : va_A ws s.heap.size = A at hD hSZ ⊢
  have hA : ∀ q : Nat, s.heap.size ≤ q → A q := fun q h => by rw [← hAe]; exact Or.inr h
  clear hAe hD0 hts B
  have hl := lv_entry ([.ref p0, .int p1, .int p2, .int p3]) (n := 4) (Nat.le_of_ble_eq_true rfl)
  rw [lg_entry_eq]
  generalize (lg_sl ([.ref p0, .int p1, .int p2, .int p3]) ++ List.replicate (4 - (lg_sl ([.ref p0, .int p1, .int p2, .int p3])).length) Slot.unset).toArray = ls at hl ⊢
  have hl : lv_has ls 4 [(0, .ref p0), (1, .int p1), (2, .int p2), (3, .int p3)] := hl
  refine w_start (A0 := A) hP (fun H locs hP hS => ?_)
  refine lv_iload_n hx hb dX10_mask_0 rfl (lv_at hl 1 rfl) ?_
  refine lv_iconst (v := 0) hx hb dX10_mask_1 (by decide) ?_
  refine lv_bipush (v := 7) hx hb dX10_mask_2 (by decide) ?_
  have zi0 : (0 : Int32).toInt = 0 := by decide
  have zi7 : (7 : Int32).toInt = 7 := by decide
  refine cg0 (rn_S (As := [.int p1, .int 0, .int 7]) (rest := []) (x_X10_isWithin l D Y Z H.size p1 0 7) ⟨hx, hb, hml, hown, hg⟩ lk_X10_100 ⟨CP.blind, CP.at nilP hKN (nilD (A := fun _ => True))⟩ ⟨⟨rfl, rfl⟩, ⟨Nat.le_of_ble_eq_true rfl, Nat.le_of_ble_eq_true rfl⟩, ⟨(Nat.le_of_ble_eq_true rfl), (Nat.le_of_ble_eq_true rfl)⟩⟩ hl.1 rfl (Nat.le_of_ble_eq_true rfl) dX10_mask_4) hP hS hA (fun u1 H locs hw2 hP hS => ?_)
  obtain ⟨hw4, hw5⟩ : (((0 : Int32).toInt ≤ p1.toInt ∧ p1.toInt ≤ (7 : Int32).toInt ∧ u1.toInt = 1) ∨ (¬ ((0 : Int32).toInt ≤ p1.toInt ∧ p1.toInt ≤ (7 : Int32).toInt) ∧ u1.toInt = 0)) ∧ (0 ≤ u1.toInt ∧ u1.toInt ≤ 1) := hw2
  refine W.eq (g2 := F0 m 7 ls [.int u1]) rfl ?_
  rcases (show u1.toInt = 1 ∨ u1.toInt = 0 by omega) with c6 | c6
  · obtain rfl : u1 = 1 := i_is c6 (by decide)
    have zi1 : (1 : Int32).toInt = 1 := by decide
    refine W.eq (g2 := F0 m 7 ls [.int 1]) rfl ?_
    refine lv_if_eq (tgt := 31) hx hb dX10_mask_7 (by decide) (fun c7 => ?_) (fun c7 => ?_)
    · exact absurd c7 (by decide)
    refine lv_iload_n hx hb dX10_mask_10 rfl (lv_at hl 2 rfl) ?_
    refine lv_iconst (v := 0) hx hb dX10_mask_11 (by decide) ?_
    refine lv_bipush (v := 12) hx hb dX10_mask_12 (by decide) ?_
    have zi12 : (12 : Int32).toInt = 12 := by decide
    refine cg0 (rn_S (As := [.int p2, .int 0, .int 12]) (rest := []) (x_X10_isWithin l D Y Z H.size p2 0 12) ⟨hx, hb, hml, hown, hg⟩ lk_X10_100 ⟨CP.blind, CP.at nilP hKN (nilD (A := fun _ => True))⟩ ⟨⟨rfl, rfl⟩, ⟨Nat.le_of_ble_eq_true rfl, Nat.le_of_ble_eq_true rfl⟩, ⟨(Nat.le_of_ble_eq_true rfl), (Nat.le_of_ble_eq_true rfl)⟩⟩ hl.1 rfl (Nat.le_of_ble_eq_true rfl) dX10_mask_14) hP hS hA (fun u8 H locs hw9 hP hS => ?_)
    obtain ⟨hw11, hw12⟩ : (((0 : Int32).toInt ≤ p2.toInt ∧ p2.toInt ≤ (12 : Int32).toInt ∧ u8.toInt = 1) ∨ (¬ ((0 : Int32).toInt ≤ p2.toInt ∧ p2.toInt ≤ (12 : Int32).toInt) ∧ u8.toInt = 0)) ∧ (0 ≤ u8.toInt ∧ u8.toInt ≤ 1) := hw9
    refine W.eq (g2 := F0 m 17 ls [.int u8]) rfl ?_
    rcases (show u8.toInt = 1 ∨ u8.toInt = 0 by omega) with c13 | c13
    · obtain rfl : u8 = 1 := i_is c13 (by decide)
      refine W.eq (g2 := F0 m 17 ls [.int 1]) rfl ?_
      refine lv_if_eq (tgt := 31) hx hb dX10_mask_17 (by decide) (fun c14 => ?_) (fun c14 => ?_)
      · exact absurd c14 (by decide)
      refine lv_iload_n hx hb dX10_mask_20 rfl (lv_at hl 3 rfl) ?_
      refine lv_iconst (v := 0) hx hb dX10_mask_21 (by decide) ?_
      refine lv_sipush (v := 30000) hx hb dX10_mask_22 (by decide) ?_
      have zi30000 : (30000 : Int32).toInt = 30000 := by decide
      refine cg0 (rn_S (As := [.int p3, .int 0, .int 30000]) (rest := []) (x_X10_isWithin l D Y Z H.size p3 0 30000) ⟨hx, hb, hml, hown, hg⟩ lk_X10_100 ⟨CP.blind, CP.at nilP hKN (nilD (A := fun _ => True))⟩ ⟨⟨rfl, rfl⟩, ⟨Nat.le_of_ble_eq_true rfl, Nat.le_of_ble_eq_true rfl⟩, ⟨(Nat.le_of_ble_eq_true rfl), (Nat.le_of_ble_eq_true rfl)⟩⟩ hl.1 rfl (Nat.le_of_ble_eq_true rfl) dX10_mask_25) hP hS hA (fun u15 H locs hw16 hP hS => ?_)
      obtain ⟨hw18, hw19⟩ : (((0 : Int32).toInt ≤ p3.toInt ∧ p3.toInt ≤ (30000 : Int32).toInt ∧ u15.toInt = 1) ∨ (¬ ((0 : Int32).toInt ≤ p3.toInt ∧ p3.toInt ≤ (30000 : Int32).toInt) ∧ u15.toInt = 0)) ∧ (0 ≤ u15.toInt ∧ u15.toInt ≤ 1) := hw16
      refine W.eq (g2 := F0 m 28 ls [.int u15]) rfl ?_
      rcases (show u15.toInt = 1 ∨ u15.toInt = 0 by omega) with c20 | c20
      · obtain rfl : u15 = 1 := i_is c20 (by decide)
        refine W.eq (g2 := F0 m 28 ls [.int 1]) rfl ?_
        refine lv_if_ne (tgt := 33) hx hb dX10_mask_28 (by decide) (fun c21 => ?_) (fun c21 => ?_)
        rotate_left
        · exact absurd c21 (by decide)
        refine lv_aload_n hx hb dX10_mask_33 rfl (lv_at hl 0 rfl) ?_
        refine ok1 hT ht0 (fun p63 a22 a23 a24 a25 a26 x27 x28 x29 a30 a31 a32 a33 a34 a35 a36 a37 a38 x39 a40 a41 hk64 h42 h43 h44 h45 h46 h47 h48 h49 h50 h51 h52 h53 h54 h55 h56 h57 h58 h59 h60 h61 h62 => ?_)
        refine va_get (D := D) (ci := 10) (v := .ref a22) (C := RX10) (T := TX10) (N := 20) hx hb hg inGX10 hown hKN.1 hP p63 hk64 rfl 0 (by decide) (hg _ kw_349) (fun _ h9 => h9) rfl dX10_mask_34 ?_
        refine ok2 hT h42 (fun p99 x65 a66 x67 a68 x69 a70 a71 x72 a73 a74 x75 a76 x77 hk100 h78 h79 h80 h81 h82 h83 h84 h85 h86 h87 h88 h89 h90 h91 h92 h93 h94 h95 h96 h97 h98 => ?_)
        refine va_getN (D := D) (ci := 6) (v := .ref a73) (C := RX6) (T := TX6) (N := 13) hx hb hg inGX6 hown hKN.1 hP p99 hk100 rfl 8 (by decide) (va_Nw.use rfl (hKN.2.1 _ kn_58 rfl)) (fun _ h9 => h9) rfl dX10_mask_37 ?_
        refine lv_iload_n hx hb dX10_mask_40 rfl (lv_at hl 1 rfl) ?_
        refine lv_iload_n hx hb dX10_mask_41 rfl (lv_at hl 2 rfl) ?_
        refine tr_st12 hx hb hKN hP hD hS hT h93 (vp_in_iff.mpr ⟨by omega, by omega⟩) dX10_mask_42 (fun w101 H locs hP hD hS hT kp102 => ?_)
        have ke103 : KF 6 T ws w101 := KF.tr KF.rf (KF.kp kp102 h93 (by decide))
        have hk104 := kp102 _ _ hk64 (rne ht0 h93 (by decide))
        have hk105 := kp102 _ _ hk100 (rne h42 h93 (by decide))
        refine lv_aload_n hx hb dX10_mask_43 rfl (lv_at hl 0 rfl) ?_
        refine va_get (D := D) (ci := 10) (v := .ref a22) (C := RX10) (T := TX10) (N := 20) hx hb hg inGX10 hown hKN.1 hP p63 hk104 rfl 0 (by decide) (hg _ kw_349) (fun _ h9 => h9) rfl dX10_mask_44 ?_
        refine va_getN (D := D) (ci := 6) (v := .ref a74) (C := RX6) (T := TX6) (N := 13) hx hb hg inGX6 hown hKN.1 hP p99 hk105 rfl 9 (by decide) (va_Nw.use rfl (hKN.2.1 _ kn_60 rfl)) (fun _ h9 => h9) rfl dX10_mask_47 ?_
        refine lv_iload_n hx hb dX10_mask_50 rfl (lv_at hl 1 rfl) ?_
        refine lv_iload_n hx hb dX10_mask_51 rfl (lv_at hl 3 rfl) ?_
        refine tr_st12 hx hb hKN hP hD hS hT h94 (vp_in_iff.mpr ⟨by omega, by omega⟩) dX10_mask_52 (fun w106 H locs hP hD hS hT kp107 => ?_)
        have ke108 : KF 6 T ws w106 := KF.tr ke103 (KF.kp kp107 h94 (by decide))
        have hk109 := kp107 _ _ hk104 (rne ht0 h94 (by decide))
        have hk110 := kp107 _ _ hk105 (rne h42 h94 (by decide))
        refine lv_aload_n hx hb dX10_mask_53 rfl (lv_at hl 0 rfl) ?_
        refine lv_dup hx hb dX10_mask_54 rfl ?_
        refine va_get (D := D) (ci := 10) (v := .int x39) (C := RX10) (T := TX10) (N := 20) hx hb hg inGX10 hown hKN.1 hP p63 hk109 rfl 17 (by decide) (hg _ kw_366) (fun _ h9 => h9) rfl dX10_mask_55 ?_
        refine lv_iconst (v := 1) hx hb dX10_mask_58 (by decide) ?_
        refine lv_iadd hx hb dX10_mask_59 ?_
        refine lv_topi (fun v111 ev111 => ?_)
        refine va_put (D := D) (ci := 10) (v := .int v111) (ty := .int) (C := RX10) (T := TX10) (N := 20) hx hb hg inGX10 tyX10 tyX10_ok nmX10 hown hKN.1 hP hD hS p63 hk109 rfl 17 (by decide) (hg _ kw_366) (fun _ h9 => h9) rfl (by decide +kernel) rfl rfl (Nat.le_of_ble_eq_true rfl) dX10_mask_60 (fun H locs hP hD2 hS => ?_)
        obtain ⟨w112, hP, hD, hT, hk114, kp113⟩ : ∃ wz, va_P D vwCl wz H ∧ va_D A wz ∧ TW Y Z T g q wz ∧ wz[p63]? = some (p0, .inr (10, (.ref a22 :: .ref a23 :: .ref a24 :: .ref a25 :: .ref a26 :: .int x27 :: .int x28 :: .int x29 :: .ref a30 :: .ref a31 :: .ref a32 :: .ref a33 :: .ref a34 :: .ref a35 :: .ref a36 :: .ref a37 :: .ref a38 :: .int v111 :: .ref a40 :: .ref a41 :: []))) ∧ Kp p0 w106 wz := ⟨_, hP, hD2, st1 hT hD hk109 ht0 ⟨a22, a23, a24, a25, a26, x27, x28, x29, a30, a31, a32, a33, a34, a35, a36, a37, a38, v111, a40, a41, rfl, h42, h43, h44, h45, h46, h47, h48, by omega, by omega, by omega, h52, h53, h54, h55, h56, h57, h58, h59, h60, h61, h62⟩, sw_eq hk109, sw_kp hk109⟩
        have ke115 : KF 6 T ws w112 := KF.tr ke108 (KF.kp kp113 ht0 (by decide))
        have hk116 := kp113 _ _ hk110 (rne h42 ht0 (by decide))
        refine lv_iconst (v := 1) hx hb dX10_mask_63 (by decide) ?_
        refine W.widen (k := 0) (n := 0) (Nat.le_of_ble_eq_true rfl) (Nat.le_of_ble_eq_true rfl) ?_
        exact W.zret (v := 1) hx hb hr (by decide) (fun t ht hW => ⟨⟨((1), w112), rfl, ⟨hT, ke115, (show (0 ≤ (1 : Int32).toInt ∧ (1 : Int32).toInt ≤ 1) by omega)⟩, CB.mk ht hP hD⟩, hS.F ht⟩) hS.2.2 dX10_mask_64
      · obtain rfl : u15 = 0 := i_is c20 (by decide)
        refine W.eq (g2 := F0 m 28 ls [.int 0]) rfl ?_
        refine lv_if_ne (tgt := 33) hx hb dX10_mask_28 (by decide) (fun c117 => ?_) (fun c117 => ?_)
        · exact absurd c117 (by decide)
        refine lv_iconst (v := 0) hx hb dX10_mask_31 (by decide) ?_
        refine W.widen (k := 0) (n := 0) (Nat.le_of_ble_eq_true rfl) (Nat.le_of_ble_eq_true rfl) ?_
        exact W.zret (v := 0) hx hb hr (by decide) (fun t ht hW => ⟨⟨((0), ws), rfl, ⟨hT, KF.rf, (show (0 ≤ (0 : Int32).toInt ∧ (0 : Int32).toInt ≤ 1) by omega)⟩, CB.mk ht hP hD⟩, hS.F ht⟩) hS.2.2 dX10_mask_32
    · obtain rfl : u8 = 0 := i_is c13 (by decide)
      refine W.eq (g2 := F0 m 17 ls [.int 0]) rfl ?_
      refine lv_if_eq (tgt := 31) hx hb dX10_mask_17 (by decide) (fun c118 => ?_) (fun c118 => ?_)
      rotate_left
      · exact absurd c118 (by decide)
      refine lv_iconst (v := 0) hx hb dX10_mask_31 (by decide) ?_
      refine W.widen (k := 0) (n := 0) (Nat.le_of_ble_eq_true rfl) (Nat.le_of_ble_eq_true rfl) ?_
      exact W.zret (v := 0) hx hb hr (by decide) (fun t ht hW => ⟨⟨((0), ws), rfl, ⟨hT, KF.rf, (show (0 ≤ (0 : Int32).toInt ∧ (0 : Int32).toInt ≤ 1) by omega)⟩, CB.mk ht hP hD⟩, hS.F ht⟩) hS.2.2 dX10_mask_32
  · obtain rfl : u1 = 0 := i_is c6 (by decide)
    refine W.eq (g2 := F0 m 7 ls [.int 0]) rfl ?_
    refine lv_if_eq (tgt := 31) hx hb dX10_mask_7 (by decide) (fun c119 => ?_) (fun c119 => ?_)
    rotate_left
    · exact absurd c119 (by decide)
    refine lv_iconst (v := 0) hx hb dX10_mask_31 (by decide) ?_
    refine W.widen (k := 0) (n := 0) (Nat.le_of_ble_eq_true rfl) (Nat.le_of_ble_eq_true rfl) ?_
    exact W.zret (v := 0) hx hb hr (by decide) (fun t ht hW => ⟨⟨((0), ws), rfl, ⟨hT, KF.rf, (show (0 ≤ (0 : Int32).toInt ∧ (0 : Int32).toInt ≤ 1) by omega)⟩, CB.mk ht hP hD⟩, hS.F ht⟩) hS.2.2 dX10_mask_32
