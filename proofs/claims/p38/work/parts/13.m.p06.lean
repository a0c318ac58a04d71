set_option maxHeartbeats 4000000 in
set_option maxRecDepth 100000 in
theorem m_room (l : Launch) (D : va_G) (Y : Nat → ClassId) (Z : Nat → Nat) (sz : Nat) (o : Nat) (a : Nat → Nat) (I : Nat → Int32) (J : Nat → Int64) (F : Nat → Nat → Int32) (G : Nat → Nat → Int64) (p1 : Int32) (p2 : Int32) (hk0 : TO (F 0)) (hk1 : TX (F 4) (F 9) (F 10) (F 11) (F 12) (F 13)) : Met l yX11_room (.code yX11_room cX11_room 3 (some .int) :: GW) ({ frames := 1, cells := 0, slots := 0, locals := 25 }) (va_Pc [.ref o, .int p1, .int p2] (CP D Y Z (MW Y o a I J F G) sz)) (QG (S := Int32) (fun u => some (.int u)) (fun u => True) (fun u => CB D (MW Y o a I J F G) (va_A (MW Y o a I J F G) sz)) (va_A (MW Y o a I J F G) sz)) 0 0 (va_A (MW Y o a I J F G) sz) := by
  refine Met.ofW (cc := cX11_room) (maxL := 3) (ret := (some .int)) (by decide) rfl ?_
  intro p e s m args below meth c s₁ B hml hv
  obtain ⟨rfl, hsz, hP, hKN, hD0⟩ := hv
  have hx := B.exec
  have hb := B.bytes
  have hr := B.returns
  have hts := atoms_spec (ws := .code yX11_room cX11_room 3 (some .int) :: GW) B.pre
  have hg : ∀ w ∈ GW, w.before _ s = true := fun w h => hts w (List.mem_cons_of_mem _ h)
  have hown : s.vm.findClass RX11 = some m.cls := findClass_of_methodNamed B.named
  have hlocks := B.notSynchronized
  subst hsz
  have hD := hD0.self (sz := s.heap.size)
  generalize hAe : va_A (MW Y o a I J F G) s.heap.size = A at hD ⊢
  have hA : ∀ q : Nat, s.heap.size ≤ q → A q := fun q h => by rw [← hAe]; exact Or.inr h
  clear hAe hD0 hts B
  have hl := lv_entry ([.ref o, .int p1, .int p2]) (n := 3) (Nat.le_of_ble_eq_true rfl)
  rw [lg_entry_eq]
  generalize (lg_sl ([.ref o, .int p1, .int p2]) ++ List.replicate (3 - (lg_sl ([.ref o, .int p1, .int p2])).length) Slot.unset).toArray = ls at hl ⊢
  have hl : lv_has ls 3 [(0, .ref o), (1, .int p1), (2, .int p2)] := hl
  refine w_start (A0 := A) hP (fun H locs hP hS => ?_)
  refine lv_aload_n hx hb dX11_room_0 rfl (lv_at hl 0 rfl) ?_
  refine lv_iconst (v := 1) hx hb dX11_room_1 (by decide) ?_
  refine lv_iload_n hx hb dX11_room_2 rfl (lv_at hl 1 rfl) ?_
  have zi1 : (1 : Int32).toInt = 1 := by decide
  refine cga (rn_V (As := [.int 1, .int p1]) (rest := []) (b := o) (m_isText1 l D Y Z H.size o a I J F G  p1 hk1) ⟨hx, hb, hml, hown, hg⟩ lk_X11_366 ⟨CP.blind, va_recv hKN.1 hP (ci := 11) (q0 := 0) rfl rfl, CP.at hP hKN hD⟩ ⟨⟨rfl, rfl⟩, ⟨Nat.le_of_ble_eq_true rfl, Nat.le_of_ble_eq_true rfl⟩, ⟨Nat.le_of_ble_eq_true rfl, Nat.le_of_ble_eq_true rfl⟩⟩ hl.1 rfl (Nat.le_of_ble_eq_true rfl) dX11_room_3) hP hD hS hA (fun u1 H locs w2 hP hD hS => ?_)
  have w2 : ((0 ≤ p1.toInt ∧ p1.toInt ≤ 5 ∧ p1.toInt < ((F 4) 1).toInt ∧ u1.toInt = 1) ∨ u1.toInt = 0) ∧ (0 ≤ u1.toInt ∧ u1.toInt ≤ 1) := w2
  obtain ⟨hw4, hw5⟩ := w2
  refine W.eq (g2 := F0 m 6 ls [.int u1]) rfl ?_
  have hP : va_P D vwCl (MW Y o a I J F G) H := hP
  have hD : va_D A (MW Y o a I J F G) := hD
  rcases (show u1.toInt = 1 ∨ u1.toInt = 0 by omega) with c6 | c6
  · obtain rfl : u1 = 1 := i_is c6 (by decide)
    refine W.eq (g2 := F0 m 6 ls [.int 1]) rfl ?_
    refine lv_if_eq (tgt := 57) hx hb dX11_room_6 (by decide) (fun c35 => ?_) (fun c35 => ?_)
    · exact absurd c35 (by decide)
    refine lv_iload_n hx hb dX11_room_9 rfl (lv_at hl 2 rfl) ?_
    have j36 := rgI p2
    have j37 := Int32.toInt_toInt64 p2
    refine lv_i2l (v := p2.toInt64) hx hb dX11_room_10 (rfl) ?_
    refine lv_lconst (v := 0) hx hb dX11_room_11 (by decide) ?_
    refine lv_aload_n hx hb dX11_room_12 rfl (lv_at hl 0 rfl) ?_
    refine va_get (D := D) (ci := 11) (v := .ref (a 0)) (C := RX11) (T := TX11) (N := 49) hx hb hg inGX11 hown hKN.1 hP 0 rfl rfl 0 (by decide) (hg _ kw_1208) (fun _ h9 => h9) rfl dX11_room_13 ?_
    refine lv_iconst (v := 1) hx hb dX11_room_16 (by decide) ?_
    refine va_iald hx hb hKN.1 hP 1 0 rfl rfl (show ¬ ((1 : Int32) < 0 ∨ 7533 ≤ (1 : Int32).toNatClampNeg) by decide) dX11_room_17 ?_
    refine lv_topi (fun v38 ev38 => ?_)
    have ev38 : v38 = (F 0) 1 := ev38
    have kv38 := TO_1 hk0
    rw [← ev38] at kv38
    have qv38 := congrArg Int32.toInt ev38
    refine lv_iconst (v := 1) hx hb dX11_room_18 (by decide) ?_
    refine lv_isub hx hb dX11_room_19 ?_
    refine lv_topi (fun v39 ev39 => ?_)
    have hv39 := i_sub (Eq.refl v38.toInt) (show (1 : Int32).toInt = 1 by decide) ev39 (by omega) (by omega)
    have j40 := Int32.toInt_toInt64 v39
    refine lv_i2l (v := v39.toInt64) hx hb dX11_room_20 (rfl) ?_
    have zl0 : (0 : Int64).toInt = 0 := by decide
    refine cg0 (rn_S (As := [.long p2.toInt64, .long 0, .long v39.toInt64]) (rest := []) (m_in l D Y Z H.size   p2.toInt64 0 v39.toInt64 ) ⟨hx, hb, hml, hown, hg⟩ lk_X11_99 ⟨CP.blind, CP.at nilP hKN (nilD (A := fun _ => True))⟩ ⟨⟨rfl, rfl⟩, ⟨Nat.le_of_ble_eq_true rfl, Nat.le_of_ble_eq_true rfl⟩, ⟨Nat.le_of_ble_eq_true rfl, Nat.le_of_ble_eq_true rfl⟩⟩ hl.1 rfl (Nat.le_of_ble_eq_true rfl) dX11_room_21) hP hS hA (fun u41 H locs w42 hP hS => ?_)
    have w42 : (((0 : Int64).toInt ≤ p2.toInt64.toInt ∧ p2.toInt64.toInt ≤ v39.toInt64.toInt ∧ u41.toInt = 1) ∨ (¬ ((0 : Int64).toInt ≤ p2.toInt64.toInt ∧ p2.toInt64.toInt ≤ v39.toInt64.toInt) ∧ u41.toInt = 0)) ∧ (0 ≤ u41.toInt ∧ u41.toInt ≤ 1) := w42
    obtain ⟨hw44, hw45⟩ := w42
    refine W.eq (g2 := F0 m 24 ls [.int u41]) rfl ?_
    rcases (show u41.toInt = 1 ∨ u41.toInt = 0 by omega) with c46 | c46
    · obtain rfl : u41 = 1 := i_is c46 (by decide)
      refine W.eq (g2 := F0 m 24 ls [.int 1]) rfl ?_
      refine lv_if_eq (tgt := 57) hx hb dX11_room_24 (by decide) (fun c62 => ?_) (fun c62 => ?_)
      · exact absurd c62 (by decide)
      refine lv_aload_n hx hb dX11_room_27 rfl (lv_at hl 0 rfl) ?_
      refine lv_iload_n hx hb dX11_room_28 rfl (lv_at hl 2 rfl) ?_
      refine lv_iconst (v := 2) hx hb dX11_room_29 (by decide) ?_
      have zi2 : (2 : Int32).toInt = 2 := by decide
      refine cga (rn_V (As := [.int p2, .int 2]) (rest := []) (b := o) (m_worldOf2 l D Y Z H.size o a I J F G  p2 (show (0 ≤ p2.toInt ∧ p2.toInt ≤ 39) by omega) hk0) ⟨hx, hb, hml, hown, hg⟩ lk_X11_166 ⟨CP.blind, va_recv hKN.1 hP (ci := 11) (q0 := 0) rfl rfl, CP.at hP hKN hD⟩ ⟨⟨rfl, rfl⟩, ⟨Nat.le_of_ble_eq_true rfl, Nat.le_of_ble_eq_true rfl⟩, ⟨Nat.le_of_ble_eq_true rfl, Nat.le_of_ble_eq_true rfl⟩⟩ hl.1 rfl (Nat.le_of_ble_eq_true rfl) dX11_room_30) hP hD hS hA (fun u63 H locs w64 hP hD hS => ?_)
      have w64 : (0 ≤ u63.toInt ∧ u63.toInt ≤ 30000) := w64
      have hw66 := w64
      refine W.eq (g2 := F0 m 33 ls [.int u63]) rfl ?_
      have hP : va_P D vwCl (MW Y o a I J F G) H := hP
      have hD : va_D A (MW Y o a I J F G) := hD
      refine lv_aload_n hx hb dX11_room_33 rfl (lv_at hl 0 rfl) ?_
      refine va_get (D := D) (ci := 11) (v := .ref (a 14)) (C := RX11) (T := TX11) (N := 49) hx hb hg inGX11 hown hKN.1 hP 0 rfl rfl 14 (by decide) (hg _ kw_1222) (fun _ h9 => h9) rfl dX11_room_34 ?_
      refine lv_bipush (v := 6) hx hb dX11_room_37 (by decide) ?_
      refine lv_iload_n hx hb dX11_room_39 rfl (lv_at hl 1 rfl) ?_
      refine lv_iadd hx hb dX11_room_40 ?_
      refine lv_topi (fun v67 ev67 => ?_)
      have hv67 := i_add (show (6 : Int32).toInt = 6 by decide) (Eq.refl p1.toInt) ev67 (by omega) (by omega)
      refine va_iald hx hb hKN.1 hP 14 0 rfl rfl (vp_in_iff.mpr ⟨by omega, by omega⟩) dX11_room_41 ?_
      refine lv_topi (fun v68 ev68 => ?_)
      have ev68 : v68 = (F 14) v67.toNatClampNeg := ev68
      refine lv_iconst (v := 1) hx hb dX11_room_42 (by decide) ?_
      refine lv_isub hx hb dX11_room_43 ?_
      refine lv_topi (fun v69 ev69 => ?_)
      refine lv_aload_n hx hb dX11_room_44 rfl (lv_at hl 0 rfl) ?_
      refine lv_iload_n hx hb dX11_room_45 rfl (lv_at hl 2 rfl) ?_
      refine lv_iconst (v := 1) hx hb dX11_room_46 (by decide) ?_
      refine cga (rn_V (As := [.int p2, .int 1]) (rest := [.int v69, .int u63]) (b := o) (m_worldOf1 l D Y Z H.size o a I J F G  p2 (show (0 ≤ p2.toInt ∧ p2.toInt ≤ 39) by omega) hk0) ⟨hx, hb, hml, hown, hg⟩ lk_X11_166 ⟨CP.blind, va_recv hKN.1 hP (ci := 11) (q0 := 0) rfl rfl, CP.at hP hKN hD⟩ ⟨⟨rfl, rfl⟩, ⟨Nat.le_of_ble_eq_true rfl, Nat.le_of_ble_eq_true rfl⟩, ⟨Nat.le_of_ble_eq_true rfl, Nat.le_of_ble_eq_true rfl⟩⟩ hl.1 rfl (Nat.le_of_ble_eq_true rfl) dX11_room_47) hP hD hS hA (fun u70 H locs w71 hP hD hS => ?_)
      have w71 : (p2.toInt < ((F 0) 1).toInt → 2 ≤ u70.toInt) := w71
      have hw73 := w71
      refine W.eq (g2 := F0 m 50 ls [.int u70, .int v69, .int u63]) rfl ?_
      have hP : va_P D vwCl (MW Y o a I J F G) H := hP
      have hD : va_D A (MW Y o a I J F G) := hD
      refine lv_imul hx hb dX11_room_50 ?_
      refine lv_topi (fun v74 ev74 => ?_)
      refine lv_iadd hx hb dX11_room_51 ?_
      refine lv_topi (fun v75 ev75 => ?_)
      refine lv_iconst (v := 1) hx hb dX11_room_52 (by decide) ?_
      refine lv_iadd hx hb dX11_room_53 ?_
      refine lv_topi (fun v76 ev76 => ?_)
      refine lv_goto (tgt := 58) hx hb dX11_room_54 (by decide) ?_
      refine W.widen (k := 0) (n := 0) (Nat.le_of_ble_eq_true rfl) (Nat.le_of_ble_eq_true rfl) ?_
      exact W.iret (v := v76) hx hb hr (fun t ht hW => ⟨⟨v76, rfl, trivial, CB.mk ht hP hD⟩, hS.F ht⟩) hS.2.2 dX11_room_58
    · obtain rfl : u41 = 0 := i_is c46 (by decide)
      have zi0 : (0 : Int32).toInt = 0 := by decide
      refine W.eq (g2 := F0 m 24 ls [.int 0]) rfl ?_
      refine lv_if_eq (tgt := 57) hx hb dX11_room_24 (by decide) (fun c78 => ?_) (fun c78 => ?_)
      rotate_left
      · exact absurd c78 (by decide)
      refine lv_iconst (v := (-1)) hx hb dX11_room_57 (by decide) ?_
      refine W.widen (k := 0) (n := 0) (Nat.le_of_ble_eq_true rfl) (Nat.le_of_ble_eq_true rfl) ?_
      have zim1 : ((-1) : Int32).toInt = -1 := by decide
      exact W.iret (v := (-1)) hx hb hr (fun t ht hW => ⟨⟨(-1), rfl, trivial, CB.mk ht hP hD⟩, hS.F ht⟩) hS.2.2 dX11_room_58
  · obtain rfl : u1 = 0 := i_is c6 (by decide)
    have zi0 : (0 : Int32).toInt = 0 := by decide
    refine W.eq (g2 := F0 m 6 ls [.int 0]) rfl ?_
    refine lv_if_eq (tgt := 57) hx hb dX11_room_6 (by decide) (fun c80 => ?_) (fun c80 => ?_)
    rotate_left
    · exact absurd c80 (by decide)
    refine lv_iconst (v := (-1)) hx hb dX11_room_57 (by decide) ?_
    refine W.widen (k := 0) (n := 0) (Nat.le_of_ble_eq_true rfl) (Nat.le_of_ble_eq_true rfl) ?_
    have zim1 : ((-1) : Int32).toInt = -1 := by decide
    exact W.iret (v := (-1)) hx hb hr (fun t ht hW => ⟨⟨(-1), rfl, trivial, CB.mk ht hP hD⟩, hS.F ht⟩) hS.2.2 dX11_room_58
set_option maxHeartbeats 4000000 in
set_option maxRecDepth 100000 in
theorem m_isDipThere (l : Launch) (D : va_G) (Y : Nat → ClassId) (Z : Nat → Nat) (sz : Nat) (o : Nat) (a : Nat → Nat) (I : Nat → Int32) (J : Nat → Int64) (F : Nat → Nat → Int32) (G : Nat → Nat → Int64) (p1 : Int32) (hk_0 : (2 ≤ (I 34).toInt ∧ (I 34).toInt ≤ 200)) (hk_1 : (1 ≤ (I 35).toInt ∧ (I 35).toInt ≤ 10)) (hk_2 : (0 ≤ (I 36).toInt ∧ (I 36).toInt ≤ 199)) (hk_3 : ((I 36).toInt < (I 34).toInt)) (hk_4 : (-1 ≤ p1.toInt ∧ p1.toInt ≤ 640)) : Met l yX11_isDipThere (.code yX11_isDipThere cX11_isDipThere 2 (some .boolean) :: GW) ({ frames := 3, cells := 0, slots := 0, locals := 64 }) (va_Pc [.ref o, .int p1] (CP D Y Z (MW Y o a I J F G) sz)) (QG (S := Int32) (fun u => some (.int u)) (fun u => (0 ≤ u.toInt ∧ u.toInt ≤ 1)) (fun u => CB D (MW Y o a I J F G) (va_A (MW Y o a I J F G) sz)) (va_A (MW Y o a I J F G) sz)) 0 0 (va_A (MW Y o a I J F G) sz) := by
  refine Met.ofW (cc := cX11_isDipThere) (maxL := 2) (ret := (some .boolean)) (by decide) rfl ?_
  intro p e s m args below meth c s₁ B hml hv
  obtain ⟨rfl, hsz, hP, hKN, hD0⟩ := hv
  have hx := B.exec
  have hb := B.bytes
  have hr := B.returns
  have hts := atoms_spec (ws := .code yX11_isDipThere cX11_isDipThere 2 (some .boolean) :: GW) B.pre
  have hg : ∀ w ∈ GW, w.before _ s = true := fun w h => hts w (List.mem_cons_of_mem _ h)
  have hown : s.vm.findClass RX11 = some m.cls := findClass_of_methodNamed B.named
  have hlocks := B.notSynchronized
  subst hsz
  have hD := hD0.self (sz := s.heap.size)
  generalize hAe : va_A (MW Y o a I J F G) s.heap.size = A at hD ⊢
  have hA : ∀ q : Nat, s.heap.size ≤ q → A q := fun q h => by rw [← hAe]; exact Or.inr h
  clear hAe hD0 hts B
  have hl := lv_entry ([.ref o, .int p1]) (n := 2) (Nat.le_of_ble_eq_true rfl)
  rw [lg_entry_eq]
  generalize (lg_sl ([.ref o, .int p1]) ++ List.replicate (2 - (lg_sl ([.ref o, .int p1])).length) Slot.unset).toArray = ls at hl ⊢
  have hl : lv_has ls 2 [(0, .ref o), (1, .int p1)] := hl
  refine w_start (A0 := A) hP (fun H locs hP hS => ?_)
  refine lv_aload_n hx hb dX11_isDipThere_0 rfl (lv_at hl 0 rfl) ?_
  refine va_get (D := D) (ci := 11) (v := .int (I 36)) (C := RX11) (T := TX11) (N := 49) hx hb hg inGX11 hown hKN.1 hP 0 rfl rfl 36 (by decide) (hg _ kw_1244) (fun _ h9 => h9) rfl dX11_isDipThere_1 ?_
  refine lv_iload_n hx hb dX11_isDipThere_4 rfl (lv_at hl 1 rfl) ?_
  refine lv_aload_n hx hb dX11_isDipThere_5 rfl (lv_at hl 0 rfl) ?_
  refine va_get (D := D) (ci := 11) (v := .int (I 34)) (C := RX11) (T := TX11) (N := 49) hx hb hg inGX11 hown hKN.1 hP 0 rfl rfl 34 (by decide) (hg _ kw_1242) (fun _ h9 => h9) rfl dX11_isDipThere_6 ?_
  refine lv_imul hx hb dX11_isDipThere_9 ?_
  refine lv_topi (fun v1 ev1 => ?_)
  have hv1 := i_mulR (a := -1) (b := 640) (c := 2) (d := 200) (lo := -200) (hi := 128000) (Eq.refl p1.toInt) (Eq.refl (I 34).toInt) ev1 (by omega) (by omega) (by decide) (by decide)
  refine lv_iadd hx hb dX11_isDipThere_10 ?_
  refine lv_topi (fun v2 ev2 => ?_)
  have hv2 := i_add (Eq.refl (I 36).toInt) (Eq.refl v1.toInt) ev2 (by omega) (by omega)
  refine lv_sipush (v := 600) hx hb dX11_isDipThere_11 (by decide) ?_
  refine lv_icmp_ge (tgt := 43) hx hb dX11_isDipThere_14 (by decide) (fun c13 => ?_) (fun c13 => ?_)
  · skip
    have c13 := i_le (show (600 : Int32).toInt = 600 by decide) (Eq.refl v2.toInt) c13
    refine lv_iconst (v := 0) hx hb dX11_isDipThere_43 (by decide) ?_
    refine W.widen (k := 0) (n := 0) (Nat.le_of_ble_eq_true rfl) (Nat.le_of_ble_eq_true rfl) ?_
    have zi0 : (0 : Int32).toInt = 0 := by decide
    exact W.zret (v := 0) hx hb hr (by decide) (fun t ht hW => ⟨⟨0, rfl, ((show (0 ≤ (0 : Int32).toInt ∧ (0 : Int32).toInt ≤ 1) by omega)), CB.mk ht hP hD⟩, hS.F ht⟩) hS.2.2 dX11_isDipThere_44
  · skip
    have c13 := i_nle (show (600 : Int32).toInt = 600 by decide) (Eq.refl v2.toInt) c13
    refine lv_aload_n hx hb dX11_isDipThere_17 rfl (lv_at hl 0 rfl) ?_
    refine lv_aload_n hx hb dX11_isDipThere_18 rfl (lv_at hl 0 rfl) ?_
    refine va_get (D := D) (ci := 11) (v := .int (I 36)) (C := RX11) (T := TX11) (N := 49) hx hb hg inGX11 hown hKN.1 hP 0 rfl rfl 36 (by decide) (hg _ kw_1244) (fun _ h9 => h9) rfl dX11_isDipThere_19 ?_
    refine lv_iload_n hx hb dX11_isDipThere_22 rfl (lv_at hl 1 rfl) ?_
    refine lv_aload_n hx hb dX11_isDipThere_23 rfl (lv_at hl 0 rfl) ?_
    refine va_get (D := D) (ci := 11) (v := .int (I 34)) (C := RX11) (T := TX11) (N := 49) hx hb hg inGX11 hown hKN.1 hP 0 rfl rfl 34 (by decide) (hg _ kw_1242) (fun _ h9 => h9) rfl dX11_isDipThere_24 ?_
    refine lv_imul hx hb dX11_isDipThere_27 ?_
    refine lv_topi (fun v14 ev14 => ?_)
    have hv14 := i_mulR (a := -1) (b := 640) (c := 2) (d := 200) (lo := -200) (hi := 128000) (Eq.refl p1.toInt) (Eq.refl (I 34).toInt) ev14 (by omega) (by omega) (by decide) (by decide)
    refine lv_iadd hx hb dX11_isDipThere_28 ?_
    refine lv_topi (fun v15 ev15 => ?_)
    have hv15 := i_add (Eq.refl (I 36).toInt) (Eq.refl v14.toInt) ev15 (by omega) (by omega)
    refine lv_aload_n hx hb dX11_isDipThere_29 rfl (lv_at hl 0 rfl) ?_
    refine va_get (D := D) (ci := 11) (v := .int (I 35)) (C := RX11) (T := TX11) (N := 49) hx hb hg inGX11 hown hKN.1 hP 0 rfl rfl 35 (by decide) (hg _ kw_1243) (fun _ h9 => h9) rfl dX11_isDipThere_30 ?_
    refine cga (rn_V (As := [.int v15, .int (I 35)]) (rest := []) (b := o) (m_hasHour l D Y Z H.size o a I J F G  v15 (I 35) (show (-1000 ≤ v15.toInt ∧ v15.toInt ≤ 200000) by omega) (show (-30 ≤ (I 35).toInt ∧ (I 35).toInt ≤ 30) by omega)) ⟨hx, hb, hml, hown, hg⟩ lk_X11_412 ⟨CP.blind, va_recv hKN.1 hP (ci := 11) (q0 := 0) rfl rfl, CP.at hP hKN hD⟩ ⟨⟨rfl, rfl⟩, ⟨Nat.le_of_ble_eq_true rfl, Nat.le_of_ble_eq_true rfl⟩, ⟨Nat.le_of_ble_eq_true rfl, Nat.le_of_ble_eq_true rfl⟩⟩ hl.1 rfl (Nat.le_of_ble_eq_true rfl) dX11_isDipThere_33) hP hD hS hA (fun u16 H locs w17 hP hD hS => ?_)
    have w17 : (0 ≤ u16.toInt ∧ u16.toInt ≤ 1) := w17
    have hw19 := w17
    refine W.eq (g2 := F0 m 36 ls [.int u16]) rfl ?_
    have hP : va_P D vwCl (MW Y o a I J F G) H := hP
    have hD : va_D A (MW Y o a I J F G) := hD
    rcases (show u16.toInt = 1 ∨ u16.toInt = 0 by omega) with c20 | c20
    · obtain rfl : u16 = 1 := i_is c20 (by decide)
      have zi1 : (1 : Int32).toInt = 1 := by decide
      refine W.eq (g2 := F0 m 36 ls [.int 1]) rfl ?_
      refine lv_if_eq (tgt := 43) hx hb dX11_isDipThere_36 (by decide) (fun c22 => ?_) (fun c22 => ?_)
      · exact absurd c22 (by decide)
      refine lv_iconst (v := 1) hx hb dX11_isDipThere_39 (by decide) ?_
      refine lv_goto (tgt := 44) hx hb dX11_isDipThere_40 (by decide) ?_
      refine W.widen (k := 0) (n := 0) (Nat.le_of_ble_eq_true rfl) (Nat.le_of_ble_eq_true rfl) ?_
      exact W.zret (v := 1) hx hb hr (by decide) (fun t ht hW => ⟨⟨1, rfl, ((show (0 ≤ (1 : Int32).toInt ∧ (1 : Int32).toInt ≤ 1) by omega)), CB.mk ht hP hD⟩, hS.F ht⟩) hS.2.2 dX11_isDipThere_44
    · obtain rfl : u16 = 0 := i_is c20 (by decide)
      have zi0 : (0 : Int32).toInt = 0 := by decide
      refine W.eq (g2 := F0 m 36 ls [.int 0]) rfl ?_
      refine lv_if_eq (tgt := 43) hx hb dX11_isDipThere_36 (by decide) (fun c24 => ?_) (fun c24 => ?_)
      rotate_left
      · exact absurd c24 (by decide)
      refine lv_iconst (v := 0) hx hb dX11_isDipThere_43 (by decide) ?_
      refine W.widen (k := 0) (n := 0) (Nat.le_of_ble_eq_true rfl) (Nat.le_of_ble_eq_true rfl) ?_
      exact W.zret (v := 0) hx hb hr (by decide) (fun t ht hW => ⟨⟨0, rfl, ((show (0 ≤ (0 : Int32).toInt ∧ (0 : Int32).toInt ≤ 1) by omega)), CB.mk ht hP hD⟩, hS.F ht⟩) hS.2.2 dX11_isDipThere_44
set_option maxHeartbeats 4000000 in
set_option maxRecDepth 100000 in
theorem m_isRound (l : Launch) (D : va_G) (Y : Nat → ClassId) (Z : Nat → Nat) (sz : Nat) (o : Nat) (a : Nat → Nat) (I : Nat → Int32) (J : Nat → Int64) (F : Nat → Nat → Int32) (G : Nat → Nat → Int64) (p1 : Int32) (hk_0 : (2 ≤ (I 34).toInt ∧ (I 34).toInt ≤ 200)) (hk_1 : (1 ≤ (I 35).toInt ∧ (I 35).toInt ≤ 10)) (hk_2 : (0 ≤ (I 36).toInt ∧ (I 36).toInt ≤ 199)) (hk_3 : ((I 36).toInt < (I 34).toInt)) (hk_4 : (1 ≤ p1.toInt ∧ p1.toInt ≤ 20)) : Met l yX11_isRound (.code yX11_isRound cX11_isRound 4 (some .boolean) :: GW) ({ frames := 4, cells := 0, slots := 0, locals := 85 }) (va_Pc [.ref o, .int p1] (CP D Y Z (MW Y o a I J F G) sz)) (QG (S := Int32) (fun u => some (.int u)) (fun u => (0 ≤ u.toInt ∧ u.toInt ≤ 1)) (fun u => CB D (MW Y o a I J F G) (va_A (MW Y o a I J F G) sz)) (va_A (MW Y o a I J F G) sz)) 0 0 (va_A (MW Y o a I J F G) sz) := by
  refine Met.ofW (cc := cX11_isRound) (maxL := 4) (ret := (some .boolean)) (by decide) rfl ?_
  intro p e s m args below meth c s₁ B hml hv
  obtain ⟨rfl, hsz, hP, hKN, hD0⟩ := hv
  have hx := B.exec
  have hb := B.bytes
  have hr := B.returns
  have hts := atoms_spec (ws := .code yX11_isRound cX11_isRound 4 (some .boolean) :: GW) B.pre
  have hg : ∀ w ∈ GW, w.before _ s = true := fun w h => hts w (List.mem_cons_of_mem _ h)
  have hown : s.vm.findClass RX11 = some m.cls := findClass_of_methodNamed B.named
  have hlocks := B.notSynchronized
  subst hsz
  have hD := hD0.self (sz := s.heap.size)
  generalize hAe : va_A (MW Y o a I J F G) s.heap.size = A at hD ⊢
  have hA : ∀ q : Nat, s.heap.size ≤ q → A q := fun q h => by rw [← hAe]; exact Or.inr h
  clear hAe hD0 hts B
  have hl := lv_entry ([.ref o, .int p1]) (n := 4) (Nat.le_of_ble_eq_true rfl)
  rw [lg_entry_eq]
  generalize (lg_sl ([.ref o, .int p1]) ++ List.replicate (4 - (lg_sl ([.ref o, .int p1])).length) Slot.unset).toArray = ls at hl ⊢
  have hl : lv_has ls 4 [(0, .ref o), (1, .int p1)] := hl
  refine w_start (A0 := A) hP (fun H locs hP hS => ?_)
  refine lv_iconst (v := 0) hx hb dX11_isRound_0 (by decide) ?_
  refine lv_istore_n (lv' := [(2, .int 0), (0, .ref o), (1, .int p1)]) hx hb dX11_isRound_1 rfl hl (by decide) rfl (fun ls hl => ?_)
  refine lv_iconst (v := (-1)) hx hb dX11_isRound_2 (by decide) ?_
  refine lv_istore_n (lv' := [(3, .int (-1)), (2, .int 0), (0, .ref o), (1, .int p1)]) hx hb dX11_isRound_3 rfl hl (by decide) rfl (fun ls hl => ?_)
  have zim1 : ((-1) : Int32).toInt = -1 := by decide
  have zi0 : (0 : Int32).toInt = 0 := by decide
  refine w_loop (σ := Int32 × Int32) (fun xx H locs ls => match xx with | (g30, g31) => va_P D vwCl (MW Y o a I J F G) H ∧ va_D A (MW Y o a I J F G) ∧ va_S A s.heap H locs ∧ lv_has ls 4 [(3, .int g30), (2, .int g31), (0, .ref o), (1, .int p1)] ∧ (-1 ≤ g30.toInt ∧ g30.toInt ≤ 600) ∧ (0 ≤ g31.toInt ∧ g31.toInt ≤ 1)) (fun xx => match xx with | (g30, g31) => (602 - g30.toInt).toNat) ((-1), 0) ⟨hP, hD, hS, lv_sub hl [0, 1, 2, 3] rfl, by omega, by omega⟩ (fun xx H locs ls hI ih => ?_)
  obtain ⟨g30, g31⟩ := xx
  obtain ⟨hP, hD, hS, hl, hq64, hq65⟩ := hI
  have ih66 := ih
  refine lv_aload_n hx hb dX11_isRound_4 rfl (lv_at hl 2 rfl) ?_
  refine va_get (D := D) (ci := 11) (v := .int (I 36)) (C := RX11) (T := TX11) (N := 49) hx hb hg inGX11 hown hKN.1 hP 0 rfl rfl 36 (by decide) (hg _ kw_1244) (fun _ h9 => h9) rfl dX11_isRound_5 ?_
  refine lv_iload_n hx hb dX11_isRound_8 rfl (lv_at hl 0 rfl) ?_
  refine lv_iload_n hx hb dX11_isRound_9 rfl (lv_at hl 3 rfl) ?_
  refine lv_iadd hx hb dX11_isRound_10 ?_
  refine lv_topi (fun v67 ev67 => ?_)
  have hv67 := i_add (Eq.refl g30.toInt) (Eq.refl p1.toInt) ev67 (by omega) (by omega)
  refine lv_aload_n hx hb dX11_isRound_11 rfl (lv_at hl 2 rfl) ?_
  refine va_get (D := D) (ci := 11) (v := .int (I 34)) (C := RX11) (T := TX11) (N := 49) hx hb hg inGX11 hown hKN.1 hP 0 rfl rfl 34 (by decide) (hg _ kw_1242) (fun _ h9 => h9) rfl dX11_isRound_12 ?_
  refine lv_imul hx hb dX11_isRound_15 ?_
  refine lv_topi (fun v68 ev68 => ?_)
  have hv68 := i_mulR (a := 0) (b := 620) (c := 2) (d := 200) (lo := 0) (hi := 124000) (Eq.refl v67.toInt) (Eq.refl (I 34).toInt) ev68 (by omega) (by omega) (by decide) (by decide)
  refine lv_iadd hx hb dX11_isRound_16 ?_
  refine lv_topi (fun v69 ev69 => ?_)
  have hv69 := i_add (Eq.refl (I 36).toInt) (Eq.refl v68.toInt) ev69 (by omega) (by omega)
  refine lv_sipush (v := 600) hx hb dX11_isRound_17 (by decide) ?_
  refine lv_icmp_ge (tgt := 69) hx hb dX11_isRound_20 (by decide) (fun c70 => ?_) (fun c70 => ?_)
  · skip
    have c70 := i_le (show (600 : Int32).toInt = 600 by decide) (Eq.refl v69.toInt) c70
    refine lv_iload_n hx hb dX11_isRound_69 rfl (lv_at hl 1 rfl) ?_
    refine W.widen (k := 0) (n := 0) (Nat.le_of_ble_eq_true rfl) (Nat.le_of_ble_eq_true rfl) ?_
    exact W.zret (v := g31) hx hb hr (z_nar (by omega)) (fun t ht hW => ⟨⟨g31, rfl, ((show (0 ≤ g31.toInt ∧ g31.toInt ≤ 1) by omega)), CB.mk ht hP hD⟩, hS.F ht⟩) hS.2.2 dX11_isRound_70
  · skip
    have c70 := i_nle (show (600 : Int32).toInt = 600 by decide) (Eq.refl v69.toInt) c70
    refine lv_aload_n hx hb dX11_isRound_23 rfl (lv_at hl 2 rfl) ?_
    refine lv_iload_n hx hb dX11_isRound_24 rfl (lv_at hl 0 rfl) ?_
    refine cga (rn_V (As := [.int g30]) (rest := []) (b := o) (m_isDipThere l D Y Z H.size o a I J F G  g30 (show (2 ≤ (I 34).toInt ∧ (I 34).toInt ≤ 200) by omega) (show (1 ≤ (I 35).toInt ∧ (I 35).toInt ≤ 10) by omega) (show (0 ≤ (I 36).toInt ∧ (I 36).toInt ≤ 199) by omega) (show ((I 36).toInt < (I 34).toInt) by omega) (show (-1 ≤ g30.toInt ∧ g30.toInt ≤ 640) by omega)) ⟨hx, hb, hml, hown, hg⟩ lk_X11_561 ⟨CP.blind, va_recv hKN.1 hP (ci := 11) (q0 := 0) rfl rfl, CP.at hP hKN hD⟩ ⟨⟨rfl, rfl⟩, ⟨Nat.le_of_ble_eq_true rfl, Nat.le_of_ble_eq_true rfl⟩, ⟨Nat.le_of_ble_eq_true rfl, Nat.le_of_ble_eq_true rfl⟩⟩ hl.1 rfl (Nat.le_of_ble_eq_true rfl) dX11_isRound_25) hP hD hS hA (fun u71 H locs w72 hP hD hS => ?_)
    have w72 : (0 ≤ u71.toInt ∧ u71.toInt ≤ 1) := w72
    have hw74 := w72
    refine W.eq (g2 := F0 m 28 ls [.int u71]) rfl ?_
    have hP : va_P D vwCl (MW Y o a I J F G) H := hP
    have hD : va_D A (MW Y o a I J F G) := hD
    rcases (show u71.toInt = 1 ∨ u71.toInt = 0 by omega) with c75 | c75
    · obtain rfl : u71 = 1 := i_is c75 (by decide)
      have zi1 : (1 : Int32).toInt = 1 := by decide
      refine W.eq (g2 := F0 m 28 ls [.int 1]) rfl ?_
      refine lv_if_eq (tgt := 63) hx hb dX11_isRound_28 (by decide) (fun c76 => ?_) (fun c76 => ?_)
      · exact absurd c76 (by decide)
      refine lv_aload_n hx hb dX11_isRound_31 rfl (lv_at hl 2 rfl) ?_
      refine lv_iload_n hx hb dX11_isRound_32 rfl (lv_at hl 0 rfl) ?_
      refine lv_iload_n hx hb dX11_isRound_33 rfl (lv_at hl 3 rfl) ?_
      refine lv_iadd hx hb dX11_isRound_34 ?_
      refine lv_topi (fun v77 ev77 => ?_)
      have hv77 := i_add (Eq.refl g30.toInt) (Eq.refl p1.toInt) ev77 (by omega) (by omega)
      refine cga (rn_V (As := [.int v77]) (rest := []) (b := o) (m_isDipThere l D Y Z H.size o a I J F G  v77 (show (2 ≤ (I 34).toInt ∧ (I 34).toInt ≤ 200) by omega) (show (1 ≤ (I 35).toInt ∧ (I 35).toInt ≤ 10) by omega) (show (0 ≤ (I 36).toInt ∧ (I 36).toInt ≤ 199) by omega) (show ((I 36).toInt < (I 34).toInt) by omega) (show (-1 ≤ v77.toInt ∧ v77.toInt ≤ 640) by omega)) ⟨hx, hb, hml, hown, hg⟩ lk_X11_561 ⟨CP.blind, va_recv hKN.1 hP (ci := 11) (q0 := 0) rfl rfl, CP.at hP hKN hD⟩ ⟨⟨rfl, rfl⟩, ⟨Nat.le_of_ble_eq_true rfl, Nat.le_of_ble_eq_true rfl⟩, ⟨Nat.le_of_ble_eq_true rfl, Nat.le_of_ble_eq_true rfl⟩⟩ hl.1 rfl (Nat.le_of_ble_eq_true rfl) dX11_isRound_35) hP hD hS hA (fun u78 H locs w79 hP hD hS => ?_)
      have w79 : (0 ≤ u78.toInt ∧ u78.toInt ≤ 1) := w79
      have hw81 := w79
      refine W.eq (g2 := F0 m 38 ls [.int u78]) rfl ?_
      have hP : va_P D vwCl (MW Y o a I J F G) H := hP
      have hD : va_D A (MW Y o a I J F G) := hD
      rcases (show u78.toInt = 1 ∨ u78.toInt = 0 by omega) with c82 | c82
      · obtain rfl : u78 = 1 := i_is c82 (by decide)
        refine W.eq (g2 := F0 m 38 ls [.int 1]) rfl ?_
        refine lv_if_ne (tgt := 44) hx hb dX11_isRound_38 (by decide) (fun c83 => ?_) (fun c83 => ?_)
        rotate_left
        · exact absurd c83 (by decide)
        refine lv_iconst (v := 1) hx hb dX11_isRound_44 (by decide) ?_
        refine lv_istore_n (lv' := [(2, .int 1), (3, .int g30), (0, .ref o), (1, .int p1)]) hx hb dX11_isRound_45 rfl hl (by decide) rfl (fun ls hl => ?_)
        refine lv_aload_n hx hb dX11_isRound_46 rfl (lv_at hl 2 rfl) ?_
        refine lv_iload_n hx hb dX11_isRound_47 rfl (lv_at hl 1 rfl) ?_
        refine cga (rn_V (As := [.int g30]) (rest := []) (b := o) (m_shiftOf l D Y Z H.size o a I J F G  g30 (show (2 ≤ (I 34).toInt ∧ (I 34).toInt ≤ 200) by omega) (show (1 ≤ (I 35).toInt ∧ (I 35).toInt ≤ 10) by omega) (show (0 ≤ (I 36).toInt ∧ (I 36).toInt ≤ 199) by omega) (show ((I 36).toInt < (I 34).toInt) by omega) (show (-1 ≤ g30.toInt ∧ g30.toInt ≤ 640) by omega)) ⟨hx, hb, hml, hown, hg⟩ lk_X11_526 ⟨CP.blind, va_recv hKN.1 hP (ci := 11) (q0 := 0) rfl rfl, CP.at hP hKN hD⟩ ⟨⟨rfl, rfl⟩, ⟨Nat.le_of_ble_eq_true rfl, Nat.le_of_ble_eq_true rfl⟩, ⟨Nat.le_of_ble_eq_true rfl, Nat.le_of_ble_eq_true rfl⟩⟩ hl.1 rfl (Nat.le_of_ble_eq_true rfl) dX11_isRound_48) hP hD hS hA (fun u84 H locs w85 hP hD hS => ?_)
        have w85 : (-100 ≤ u84.toInt ∧ u84.toInt ≤ 3) := w85
        have hw87 := w85
        refine W.eq (g2 := F0 m 51 ls [.int u84]) rfl ?_
        have hP : va_P D vwCl (MW Y o a I J F G) H := hP
        have hD : va_D A (MW Y o a I J F G) := hD
        refine lv_aload_n hx hb dX11_isRound_51 rfl (lv_at hl 2 rfl) ?_
        refine lv_iload_n hx hb dX11_isRound_52 rfl (lv_at hl 1 rfl) ?_
        refine lv_iload_n hx hb dX11_isRound_53 rfl (lv_at hl 3 rfl) ?_
        refine lv_iadd hx hb dX11_isRound_54 ?_
        refine lv_topi (fun v88 ev88 => ?_)
        have hv88 := i_add (Eq.refl g30.toInt) (Eq.refl p1.toInt) ev88 (by omega) (by omega)
        refine cga (rn_V (As := [.int v88]) (rest := [.int u84]) (b := o) (m_shiftOf l D Y Z H.size o a I J F G  v88 (show (2 ≤ (I 34).toInt ∧ (I 34).toInt ≤ 200) by omega) (show (1 ≤ (I 35).toInt ∧ (I 35).toInt ≤ 10) by omega) (show (0 ≤ (I 36).toInt ∧ (I 36).toInt ≤ 199) by omega) (show ((I 36).toInt < (I 34).toInt) by omega) (show (-1 ≤ v88.toInt ∧ v88.toInt ≤ 640) by omega)) ⟨hx, hb, hml, hown, hg⟩ lk_X11_526 ⟨CP.blind, va_recv hKN.1 hP (ci := 11) (q0 := 0) rfl rfl, CP.at hP hKN hD⟩ ⟨⟨rfl, rfl⟩, ⟨Nat.le_of_ble_eq_true rfl, Nat.le_of_ble_eq_true rfl⟩, ⟨Nat.le_of_ble_eq_true rfl, Nat.le_of_ble_eq_true rfl⟩⟩ hl.1 rfl (Nat.le_of_ble_eq_true rfl) dX11_isRound_55) hP hD hS hA (fun u89 H locs w90 hP hD hS => ?_)
        have w90 : (-100 ≤ u89.toInt ∧ u89.toInt ≤ 3) := w90
        have hw92 := w90
        refine W.eq (g2 := F0 m 58 ls [.int u89, .int u84]) rfl ?_
        have hP : va_P D vwCl (MW Y o a I J F G) H := hP
        have hD : va_D A (MW Y o a I J F G) := hD
        refine lv_icmp_eq (tgt := 63) hx hb dX11_isRound_58 (by decide) (fun c93 => ?_) (fun c93 => ?_)
        · skip
          have c93 := i_eq (Eq.refl u84.toInt) (Eq.refl u89.toInt) c93
          obtain ⟨v94, ev94⟩ : ∃ y : Int32, y = g30 + 1 := ⟨_, rfl⟩
          have hv94 := i_add (Eq.refl g30.toInt) (show (1 : Int32).toInt = 1 by decide) ev94 (by omega) (by omega)
          refine lv_iinc (v := v94) (lv' := [(3, .int v94), (2, .int 1), (0, .ref o), (1, .int p1)]) hx hb dX11_isRound_63 hl (k := 1) rfl (by rw [ev94]; rfl) (by decide) rfl (fun ls hl => ?_)
          refine lv_goto (tgt := 4) hx hb dX11_isRound_66 (by decide) ?_
          exact ih66 (v94, 1) H locs ls (by show (602 - v94.toInt).toNat < (602 - g30.toInt).toNat; omega) ⟨hP, hD, hS, lv_sub hl [0, 1, 2, 3] rfl, by omega, by omega⟩
        · skip
          have c93 := i_ne (Eq.refl u84.toInt) (Eq.refl u89.toInt) c93
          refine lv_iconst (v := 0) hx hb dX11_isRound_61 (by decide) ?_
          refine W.widen (k := 0) (n := 0) (Nat.le_of_ble_eq_true rfl) (Nat.le_of_ble_eq_true rfl) ?_
          have zi0 : (0 : Int32).toInt = 0 := by decide
          exact W.zret (v := 0) hx hb hr (by decide) (fun t ht hW => ⟨⟨0, rfl, ((show (0 ≤ (0 : Int32).toInt ∧ (0 : Int32).toInt ≤ 1) by omega)), CB.mk ht hP hD⟩, hS.F ht⟩) hS.2.2 dX11_isRound_62
      · obtain rfl : u78 = 0 := i_is c82 (by decide)
        have zi0 : (0 : Int32).toInt = 0 := by decide
        refine W.eq (g2 := F0 m 38 ls [.int 0]) rfl ?_
        refine lv_if_ne (tgt := 44) hx hb dX11_isRound_38 (by decide) (fun c95 => ?_) (fun c95 => ?_)
        · exact absurd c95 (by decide)
        refine lv_goto (tgt := 63) hx hb dX11_isRound_41 (by decide) ?_
        obtain ⟨v96, ev96⟩ : ∃ y : Int32, y = g30 + 1 := ⟨_, rfl⟩
        have hv96 := i_add (Eq.refl g30.toInt) (show (1 : Int32).toInt = 1 by decide) ev96 (by omega) (by omega)
        refine lv_iinc (v := v96) (lv' := [(3, .int v96), (2, .int g31), (0, .ref o), (1, .int p1)]) hx hb dX11_isRound_63 hl (k := 0) rfl (by rw [ev96]; rfl) (by decide) rfl (fun ls hl => ?_)
        refine lv_goto (tgt := 4) hx hb dX11_isRound_66 (by decide) ?_
        exact ih66 (v96, g31) H locs ls (by show (602 - v96.toInt).toNat < (602 - g30.toInt).toNat; omega) ⟨hP, hD, hS, lv_sub hl [0, 1, 2, 3] rfl, by omega, by omega⟩
    · obtain rfl : u71 = 0 := i_is c75 (by decide)
      have zi0 : (0 : Int32).toInt = 0 := by decide
      refine W.eq (g2 := F0 m 28 ls [.int 0]) rfl ?_
      refine lv_if_eq (tgt := 63) hx hb dX11_isRound_28 (by decide) (fun c97 => ?_) (fun c97 => ?_)
      rotate_left
      · exact absurd c97 (by decide)
      obtain ⟨v98, ev98⟩ : ∃ y : Int32, y = g30 + 1 := ⟨_, rfl⟩
      have hv98 := i_add (Eq.refl g30.toInt) (show (1 : Int32).toInt = 1 by decide) ev98 (by omega) (by omega)
      refine lv_iinc (v := v98) (lv' := [(3, .int v98), (2, .int g31), (0, .ref o), (1, .int p1)]) hx hb dX11_isRound_63 hl (k := 0) rfl (by rw [ev98]; rfl) (by decide) rfl (fun ls hl => ?_)
      refine lv_goto (tgt := 4) hx hb dX11_isRound_66 (by decide) ?_
      exact ih66 (v98, g31) H locs ls (by show (602 - v98.toInt).toNat < (602 - g30.toInt).toNat; omega) ⟨hP, hD, hS, lv_sub hl [0, 1, 2, 3] rfl, by omega, by omega⟩
set_option maxHeartbeats 4000000 in
set_option maxRecDepth 100000 in
theorem m_other (l : Launch) (D : va_G) (Y : Nat → ClassId) (Z : Nat → Nat) (sz : Nat) (o : Nat) (a : Nat → Nat) (I : Nat → Int32) (J : Nat → Int64) (F : Nat → Nat → Int32) (G : Nat → Nat → Int64) (p1 : Int32) (p2 : Int32) (p3 : Int32) (hk0 : TO (F 0)) (hk1 : LB (F 28)) (hk2 : TX (F 4) (F 9) (F 10) (F 11) (F 12) (F 13)) : Met l yX11_other (.code yX11_other cX11_other 6 (some .int) :: GW) ({ frames := 7, cells := 0, slots := 0, locals := 169 }) (va_Pc [.ref o, .int p1, .int p2, .int p3] (CP D Y Z (MW Y o a I J F G) sz)) (QG (S := Int32 × Int32 × Int32 × Int32 × Int32 × Int64 × Int64 × Int32 × Int64 × Int64 × (Nat → Int32) × (Nat → Int32) × (Nat → Int64) × (Nat → Int32) × (Nat → Int64) × (Nat → Int32)) (fun u => some (.int u.1)) (fun u => LB u.2.2.2.2.2.2.2.2.2.2.2.1) (fun u => CB D (MW Y o a (upd (upd (upd (upd (upd I 29 u.2.2.2.2.2.2.2.1) 34 u.2.1) 35 u.2.2.1) 36 u.2.2.2.1) 39 u.2.2.2.2.1) (vp_updL (vp_updL (vp_updL (vp_updL J 30 u.2.2.2.2.2.2.2.2.1) 31 u.2.2.2.2.2.2.2.2.2.1) 37 u.2.2.2.2.2.1) 38 u.2.2.2.2.2.2.1) (vf_upd (vf_upd (vf_upd (vf_upd F 1 u.2.2.2.2.2.2.2.2.2.2.1) 28 u.2.2.2.2.2.2.2.2.2.2.2.1) 41 u.2.2.2.2.2.2.2.2.2.2.2.2.2.1) 43 u.2.2.2.2.2.2.2.2.2.2.2.2.2.2.2) (vf_upd (vf_upd G 40 u.2.2.2.2.2.2.2.2.2.2.2.2.1) 42 u.2.2.2.2.2.2.2.2.2.2.2.2.2.2.1)) (va_A (MW Y o a I J F G) sz)) (va_A (MW Y o a I J F G) sz)) 0 0 (va_A (MW Y o a I J F G) sz) := by
  refine Met.ofW (cc := cX11_other) (maxL := 6) (ret := (some .int)) (by decide) rfl ?_
  intro p e s m args below meth c s₁ B hml hv
  obtain ⟨rfl, hsz, hP, hKN, hD0⟩ := hv
  have hx := B.exec
  have hb := B.bytes
  have hr := B.returns
  have hts := atoms_spec (ws := .code yX11_other cX11_other 6 (some .int) :: GW) B.pre
  have hg : ∀ w ∈ GW, w.before _ s = true := fun w h => hts w (List.mem_cons_of_mem _ h)
  have hown : s.vm.findClass RX11 = some m.cls := findClass_of_methodNamed B.named
  have hlocks := B.notSynchronized
  subst hsz
  have hD := hD0.self (sz := s.heap.size)
  generalize hAe : va_A (MW Y o a I J F G) s.heap.size = A at hD ⊢
  have hA : ∀ q : Nat, s.heap.size ≤ q → A q := fun q h => by rw [← hAe]; exact Or.inr h
  clear hAe hD0 hts B
  have hl := lv_entry ([.ref o, .int p1, .int p2, .int p3]) (n := 6) (Nat.le_of_ble_eq_true rfl)
  rw [lg_entry_eq]
  generalize (lg_sl ([.ref o, .int p1, .int p2, .int p3]) ++ List.replicate (6 - (lg_sl ([.ref o, .int p1, .int p2, .int p3])).length) Slot.unset).toArray = ls at hl ⊢
  have hl : lv_has ls 6 [(0, .ref o), (1, .int p1), (2, .int p2), (3, .int p3)] := hl
  refine w_start (A0 := A) hP (fun H locs hP hS => ?_)
  refine lv_aload_n hx hb dX11_other_0 rfl (lv_at hl 0 rfl) ?_
  refine lv_iconst (v := 1) hx hb dX11_other_1 (by decide) ?_
  refine lv_iload_n hx hb dX11_other_2 rfl (lv_at hl 1 rfl) ?_
  have zi1 : (1 : Int32).toInt = 1 := by decide
  refine cga (rn_V (As := [.int 1, .int p1]) (rest := []) (b := o) (m_isText1 l D Y Z H.size o a I J F G  p1 hk2) ⟨hx, hb, hml, hown, hg⟩ lk_X11_366 ⟨CP.blind, va_recv hKN.1 hP (ci := 11) (q0 := 0) rfl rfl, CP.at hP hKN hD⟩ ⟨⟨rfl, rfl⟩, ⟨Nat.le_of_ble_eq_true rfl, Nat.le_of_ble_eq_true rfl⟩, ⟨Nat.le_of_ble_eq_true rfl, Nat.le_of_ble_eq_true rfl⟩⟩ hl.1 rfl (Nat.le_of_ble_eq_true rfl) dX11_other_3) hP hD hS hA (fun u1 H locs w2 hP hD hS => ?_)
  have w2 : ((0 ≤ p1.toInt ∧ p1.toInt ≤ 5 ∧ p1.toInt < ((F 4) 1).toInt ∧ u1.toInt = 1) ∨ u1.toInt = 0) ∧ (0 ≤ u1.toInt ∧ u1.toInt ≤ 1) := w2
  obtain ⟨hw4, hw5⟩ := w2
  refine W.eq (g2 := F0 m 6 ls [.int u1]) rfl ?_
  have hP : va_P D vwCl (MW Y o a I J F G) H := hP
  have hD : va_D A (MW Y o a I J F G) := hD
  rcases (show u1.toInt = 1 ∨ u1.toInt = 0 by omega) with c6 | c6
  · obtain rfl : u1 = 1 := i_is c6 (by decide)
    refine W.eq (g2 := F0 m 6 ls [.int 1]) rfl ?_
    refine lv_if_eq (tgt := 27) hx hb dX11_other_6 (by decide) (fun c7 => ?_) (fun c7 => ?_)
    · exact absurd c7 (by decide)
    refine lv_aload_n hx hb dX11_other_9 rfl (lv_at hl 0 rfl) ?_
    refine lv_iload_n hx hb dX11_other_10 rfl (lv_at hl 2 rfl) ?_
    refine cga (rn_V (As := [.int p2]) (rest := []) (b := o) (m_isStar l D Y Z H.size o a I J F G  p2 hk0) ⟨hx, hb, hml, hown, hg⟩ lk_X11_108 ⟨CP.blind, va_recv hKN.1 hP (ci := 11) (q0 := 0) rfl rfl, CP.at hP hKN hD⟩ ⟨⟨rfl, rfl⟩, ⟨Nat.le_of_ble_eq_true rfl, Nat.le_of_ble_eq_true rfl⟩, ⟨Nat.le_of_ble_eq_true rfl, Nat.le_of_ble_eq_true rfl⟩⟩ hl.1 rfl (Nat.le_of_ble_eq_true rfl) dX11_other_11) hP hD hS hA (fun u8 H locs w9 hP hD hS => ?_)
    have w9 : ((0 ≤ p2.toInt ∧ p2.toInt ≤ 11 ∧ p2.toInt < ((F 0) 0).toInt ∧ u8.toInt = 1) ∨ (¬ (0 ≤ p2.toInt ∧ p2.toInt < ((F 0) 0).toInt) ∧ u8.toInt = 0)) ∧ (0 ≤ u8.toInt ∧ u8.toInt ≤ 1) := w9
    obtain ⟨hw11, hw12⟩ := w9
    refine W.eq (g2 := F0 m 14 ls [.int u8]) rfl ?_
    have hP : va_P D vwCl (MW Y o a I J F G) H := hP
    have hD : va_D A (MW Y o a I J F G) := hD
    rcases (show u8.toInt = 1 ∨ u8.toInt = 0 by omega) with c13 | c13
    · obtain rfl : u8 = 1 := i_is c13 (by decide)
      refine W.eq (g2 := F0 m 14 ls [.int 1]) rfl ?_
      refine lv_if_eq (tgt := 27) hx hb dX11_other_14 (by decide) (fun c14 => ?_) (fun c14 => ?_)
      · exact absurd c14 (by decide)
      refine lv_iload_n hx hb dX11_other_17 rfl (lv_at hl 3 rfl) ?_
      have j15 := rgI p3
      have j16 := Int32.toInt_toInt64 p3
      refine lv_i2l (v := p3.toInt64) hx hb dX11_other_18 (rfl) ?_
      refine lv_lconst (v := 0) hx hb dX11_other_19 (by decide) ?_
      refine lv_lconst (v := 1) hx hb dX11_other_20 (by decide) ?_
      have zl0 : (0 : Int64).toInt = 0 := by decide
      have zl1 : (1 : Int64).toInt = 1 := by decide
      refine cg0 (rn_S (As := [.long p3.toInt64, .long 0, .long 1]) (rest := []) (m_in l D Y Z H.size   p3.toInt64 0 1 ) ⟨hx, hb, hml, hown, hg⟩ lk_X11_99 ⟨CP.blind, CP.at nilP hKN (nilD (A := fun _ => True))⟩ ⟨⟨rfl, rfl⟩, ⟨Nat.le_of_ble_eq_true rfl, Nat.le_of_ble_eq_true rfl⟩, ⟨Nat.le_of_ble_eq_true rfl, Nat.le_of_ble_eq_true rfl⟩⟩ hl.1 rfl (Nat.le_of_ble_eq_true rfl) dX11_other_21) hP hS hA (fun u17 H locs w18 hP hS => ?_)
      have w18 : (((0 : Int64).toInt ≤ p3.toInt64.toInt ∧ p3.toInt64.toInt ≤ (1 : Int64).toInt ∧ u17.toInt = 1) ∨ (¬ ((0 : Int64).toInt ≤ p3.toInt64.toInt ∧ p3.toInt64.toInt ≤ (1 : Int64).toInt) ∧ u17.toInt = 0)) ∧ (0 ≤ u17.toInt ∧ u17.toInt ≤ 1) := w18
      obtain ⟨hw20, hw21⟩ := w18
      refine W.eq (g2 := F0 m 24 ls [.int u17]) rfl ?_
      rcases (show u17.toInt = 1 ∨ u17.toInt = 0 by omega) with c22 | c22
      · obtain rfl : u17 = 1 := i_is c22 (by decide)
        refine W.eq (g2 := F0 m 24 ls [.int 1]) rfl ?_
        refine lv_if_ne (tgt := 30) hx hb dX11_other_24 (by decide) (fun c23 => ?_) (fun c23 => ?_)
        rotate_left
        · exact absurd c23 (by decide)
        refine lv_aload_n hx hb dX11_other_30 rfl (lv_at hl 0 rfl) ?_
        refine lv_iload_n hx hb dX11_other_31 rfl (lv_at hl 1 rfl) ?_
        refine lv_iload_n hx hb dX11_other_32 rfl (lv_at hl 2 rfl) ?_
        refine lv_iconst (v := 0) hx hb dX11_other_33 (by decide) ?_
        have zi0 : (0 : Int32).toInt = 0 := by decide
        refine cga (rn_V (As := [.int p1, .int p2, .int 0]) (rest := []) (b := o) (m_finds l D Y Z H.size o a I J F G  p1 p2 0 (show (0 ≤ p1.toInt ∧ p1.toInt ≤ 5) by omega) (show (p1.toInt < ((F 4) 1).toInt) by omega) (show (0 ≤ p2.toInt ∧ p2.toInt ≤ 11) by omega) (show (0 ≤ (0 : Int32).toInt ∧ (0 : Int32).toInt ≤ 5) by omega) hk0 hk1 hk2) ⟨hx, hb, hml, hown, hg⟩ lk_X11_487 ⟨CP.blind, va_recv hKN.1 hP (ci := 11) (q0 := 0) rfl rfl, CP.at hP hKN hD⟩ ⟨⟨rfl, rfl⟩, ⟨Nat.le_of_ble_eq_true rfl, Nat.le_of_ble_eq_true rfl⟩, ⟨Nat.le_of_ble_eq_true rfl, Nat.le_of_ble_eq_true rfl⟩⟩ hl.1 rfl (Nat.le_of_ble_eq_true rfl) dX11_other_34) hP hD hS hA (fun u24 H locs w25 hP hD hS => ?_)
        obtain ⟨u26, u27, u28, u29, u30, u31, u32, u33, u34, u35, f36, f37, f38, f39, f40, f41⟩ := u24
        have w25 : ((u26.toInt = 1 ∧ 1 ≤ u32.toInt ∧ 2 ≤ u27.toInt ∧ u27.toInt ≤ 200 ∧ 1 ≤ u28.toInt ∧ u28.toInt ≤ 10 ∧ 0 ≤ u29.toInt ∧ u29.toInt < u27.toInt ∧ -9000000000000 ≤ u31.toInt ∧ u31.toInt ≤ 9000000000000 ∧ (cin f37 (u27.toInt).toNat (u28.toInt).toNat (u29.toInt).toNat 600 : Int) ≠ u33.toInt) ∨ u26.toInt = 0) ∧ (0 ≤ u26.toInt ∧ u26.toInt ≤ 1) ∧ (0 ≤ u33.toInt ∧ u33.toInt ≤ 600) ∧ (-60000000 ≤ u34.toInt ∧ u34.toInt ≤ 60000000) ∧ (1 ≤ u35.toInt) ∧ LB f37 := w25
        obtain ⟨hw42, hw43, hw44, hw45, hw46, hw47⟩ := w25
        refine W.eq (g2 := F0 m 37 ls [.int u26]) rfl ?_
        have hP : va_P D vwCl (MW Y o a (upd (upd (upd (upd (upd I 29 u33) 34 u27) 35 u28) 36 u29) 39 u30) (vp_updL (vp_updL (vp_updL (vp_updL J 30 u34) 31 u35) 37 u31) 38 u32) (vf_upd (vf_upd (vf_upd (vf_upd F 1 f36) 28 f37) 41 f39) 43 f41) (vf_upd (vf_upd G 40 f38) 42 f40)) H := hP
        have hD : va_D A (MW Y o a (upd (upd (upd (upd (upd I 29 u33) 34 u27) 35 u28) 36 u29) 39 u30) (vp_updL (vp_updL (vp_updL (vp_updL J 30 u34) 31 u35) 37 u31) 38 u32) (vf_upd (vf_upd (vf_upd (vf_upd F 1 f36) 28 f37) 41 f39) 43 f41) (vf_upd (vf_upd G 40 f38) 42 f40)) := hD
        rcases (show u26.toInt = 1 ∨ u26.toInt = 0 by omega) with c48 | c48
        · obtain rfl : u26 = 1 := i_is c48 (by decide)
          refine W.eq (g2 := F0 m 37 ls [.int 1]) rfl ?_
          refine lv_if_ne (tgt := 43) hx hb dX11_other_37 (by decide) (fun c49 => ?_) (fun c49 => ?_)
          rotate_left
          · exact absurd c49 (by decide)
          refine lv_iload_n hx hb dX11_other_43 rfl (lv_at hl 3 rfl) ?_
          refine lv_iconst (v := 1) hx hb dX11_other_44 (by decide) ?_
          refine lv_icmp_ne (tgt := 78) hx hb dX11_other_45 (by decide) (fun c50 => ?_) (fun c50 => ?_)
          · skip
            have c50 := i_ne (Eq.refl p3.toInt) (show (1 : Int32).toInt = 1 by decide) c50
            refine lv_iconst (v := 0) hx hb dX11_other_78 (by decide) ?_
            refine lv_istore (lv' := [(4, .int 0), (0, .ref o), (1, .int p1), (2, .int p2), (3, .int p3)]) hx hb dX11_other_79 hl (by decide) rfl (fun ls hl => ?_)
            refine lv_iconst (v := (-1)) hx hb dX11_other_81 (by decide) ?_
            refine lv_istore (lv' := [(5, .int (-1)), (4, .int 0), (0, .ref o), (1, .int p1), (2, .int p2), (3, .int p3)]) hx hb dX11_other_82 hl (by decide) rfl (fun ls hl => ?_)
            have zim1 : ((-1) : Int32).toInt = -1 := by decide
            refine w_loop (σ := Int32 × Int32) (fun xx H locs ls => match xx with | (g103, g104) => va_P D vwCl (MW Y o a (upd (upd (upd (upd (upd I 29 u33) 34 u27) 35 u28) 36 u29) 39 u30) (vp_updL (vp_updL (vp_updL (vp_updL J 30 u34) 31 u35) 37 u31) 38 u32) (vf_upd (vf_upd (vf_upd (vf_upd F 1 f36) 28 f37) 41 f39) 43 f41) (vf_upd (vf_upd G 40 f38) 42 f40)) H ∧ va_D A (MW Y o a (upd (upd (upd (upd (upd I 29 u33) 34 u27) 35 u28) 36 u29) 39 u30) (vp_updL (vp_updL (vp_updL (vp_updL J 30 u34) 31 u35) 37 u31) 38 u32) (vf_upd (vf_upd (vf_upd (vf_upd F 1 f36) 28 f37) 41 f39) 43 f41) (vf_upd (vf_upd G 40 f38) 42 f40)) ∧ va_S A s.heap H locs ∧ lv_has ls 6 [(5, .int g103), (4, .int g104), (0, .ref o), (1, .int p1), (2, .int p2), (3, .int p3)] ∧ (-1 ≤ g103.toInt ∧ g103.toInt ≤ 600)) (fun xx => match xx with | (g103, g104) => (602 - g103.toInt).toNat) ((-1), 0) ⟨hP, hD, hS, lv_sub hl [0, 1, 2, 3, 4, 5] rfl, by omega⟩ (fun xx H locs ls hI ih => ?_)
            obtain ⟨g103, g104⟩ := xx
            obtain ⟨hP, hD, hS, hl, hq163⟩ := hI
            have ih164 := ih
            refine lv_aload_n hx hb dX11_other_84 rfl (lv_at hl 2 rfl) ?_
            refine va_get (D := D) (ci := 11) (v := .int u29) (C := RX11) (T := TX11) (N := 49) hx hb hg inGX11 hown hKN.1 hP 0 rfl rfl 36 (by decide) (hg _ kw_1244) (fun _ h9 => h9) rfl dX11_other_85 ?_
            refine lv_iload hx hb dX11_other_88 (lv_at hl 0 rfl) ?_
            refine lv_aload_n hx hb dX11_other_90 rfl (lv_at hl 2 rfl) ?_
            refine va_get (D := D) (ci := 11) (v := .int u27) (C := RX11) (T := TX11) (N := 49) hx hb hg inGX11 hown hKN.1 hP 0 rfl rfl 34 (by decide) (hg _ kw_1242) (fun _ h9 => h9) rfl dX11_other_91 ?_
            refine lv_imul hx hb dX11_other_94 ?_
            refine lv_topi (fun v165 ev165 => ?_)
            have hv165 := i_mulR (a := -1) (b := 600) (c := 2) (d := 200) (lo := -200) (hi := 120000) (Eq.refl g103.toInt) (Eq.refl u27.toInt) ev165 (by omega) (by omega) (by decide) (by decide)
            refine lv_iadd hx hb dX11_other_95 ?_
            refine lv_topi (fun v166 ev166 => ?_)
            have hv166 := i_add (Eq.refl u29.toInt) (Eq.refl v165.toInt) ev166 (by omega) (by omega)
            refine lv_sipush (v := 600) hx hb dX11_other_96 (by decide) ?_
            refine lv_icmp_ge (tgt := 136) hx hb dX11_other_99 (by decide) (fun c195 => ?_) (fun c195 => ?_)
            · skip
              have c195 := i_le (show (600 : Int32).toInt = 600 by decide) (Eq.refl v166.toInt) c195
              refine lv_iload hx hb dX11_other_136 (lv_at hl 1 rfl) ?_
              refine W.widen (k := 0) (n := 0) (Nat.le_of_ble_eq_true rfl) (Nat.le_of_ble_eq_true rfl) ?_
              exact W.iret (v := g104) hx hb hr (fun t ht hW => ⟨⟨(g104, u27, u28, u29, u30, u31, u32, u33, u34, u35, f36, f37, f38, f39, f40, f41), rfl, (hw47), CB.mk ht hP hD⟩, hS.F ht⟩) hS.2.2 dX11_other_138
            · skip
              have c195 := i_nle (show (600 : Int32).toInt = 600 by decide) (Eq.refl v166.toInt) c195
              refine lv_iload hx hb dX11_other_102 (lv_at hl 1 rfl) ?_
              refine lv_aload_n hx hb dX11_other_104 rfl (lv_at hl 2 rfl) ?_
              refine lv_iload hx hb dX11_other_105 (lv_at hl 0 rfl) ?_
              refine cga (rn_V (As := [.int g103]) (rest := [.int g104]) (b := o) (m_isDipThere l D Y Z H.size o a (upd (upd (upd (upd (upd I 29 u33) 34 u27) 35 u28) 36 u29) 39 u30) (vp_updL (vp_updL (vp_updL (vp_updL J 30 u34) 31 u35) 37 u31) 38 u32) (vf_upd (vf_upd (vf_upd (vf_upd F 1 f36) 28 f37) 41 f39) 43 f41) (vf_upd (vf_upd G 40 f38) 42 f40)  g103 (show (2 ≤ u27.toInt ∧ u27.toInt ≤ 200) by omega) (show (1 ≤ u28.toInt ∧ u28.toInt ≤ 10) by omega) (show (0 ≤ u29.toInt ∧ u29.toInt ≤ 199) by omega) (show (u29.toInt < u27.toInt) by omega) (show (-1 ≤ g103.toInt ∧ g103.toInt ≤ 640) by omega)) ⟨hx, hb, hml, hown, hg⟩ lk_X11_561 ⟨CP.blind, va_recv hKN.1 hP (ci := 11) (q0 := 0) rfl rfl, CP.at hP hKN hD⟩ ⟨⟨rfl, rfl⟩, ⟨Nat.le_of_ble_eq_true rfl, Nat.le_of_ble_eq_true rfl⟩, ⟨Nat.le_of_ble_eq_true rfl, Nat.le_of_ble_eq_true rfl⟩⟩ hl.1 rfl (Nat.le_of_ble_eq_true rfl) dX11_other_107) hP hD hS hA (fun u196 H locs w197 hP hD hS => ?_)
              have w197 : (0 ≤ u196.toInt ∧ u196.toInt ≤ 1) := w197
              have hw199 := w197
              refine W.eq (g2 := F0 m 110 ls [.int u196, .int g104]) rfl ?_
              have hP : va_P D vwCl (MW Y o a (upd (upd (upd (upd (upd I 29 u33) 34 u27) 35 u28) 36 u29) 39 u30) (vp_updL (vp_updL (vp_updL (vp_updL J 30 u34) 31 u35) 37 u31) 38 u32) (vf_upd (vf_upd (vf_upd (vf_upd F 1 f36) 28 f37) 41 f39) 43 f41) (vf_upd (vf_upd G 40 f38) 42 f40)) H := hP
              have hD : va_D A (MW Y o a (upd (upd (upd (upd (upd I 29 u33) 34 u27) 35 u28) 36 u29) 39 u30) (vp_updL (vp_updL (vp_updL (vp_updL J 30 u34) 31 u35) 37 u31) 38 u32) (vf_upd (vf_upd (vf_upd (vf_upd F 1 f36) 28 f37) 41 f39) 43 f41) (vf_upd (vf_upd G 40 f38) 42 f40)) := hD
              rcases (show u196.toInt = 1 ∨ u196.toInt = 0 by omega) with c200 | c200
              · obtain rfl : u196 = 1 := i_is c200 (by decide)
                refine W.eq (g2 := F0 m 110 ls [.int 1, .int g104]) rfl ?_
                refine w_join (σ := Int32) (pcJ := 127) (kJ := 0) (nJ := 0) (stk := fun xx => match xx with | g207 => [.int g207, .int g104]) (fun xx H locs ls => match xx with | g207 => va_P D vwCl (MW Y o a (upd (upd (upd (upd (upd I 29 u33) 34 u27) 35 u28) 36 u29) 39 u30) (vp_updL (vp_updL (vp_updL (vp_updL J 30 u34) 31 u35) 37 u31) 38 u32) (vf_upd (vf_upd (vf_upd (vf_upd F 1 f36) 28 f37) 41 f39) 43 f41) (vf_upd (vf_upd G 40 f38) 42 f40)) H ∧ va_D A (MW Y o a (upd (upd (upd (upd (upd I 29 u33) 34 u27) 35 u28) 36 u29) 39 u30) (vp_updL (vp_updL (vp_updL (vp_updL J 30 u34) 31 u35) 37 u31) 38 u32) (vf_upd (vf_upd (vf_upd (vf_upd F 1 f36) 28 f37) 41 f39) 43 f41) (vf_upd (vf_upd G 40 f38) 42 f40)) ∧ va_S A s.heap H locs ∧ lv_has ls 6 [(5, .int g103), (4, .int g104), (0, .ref o), (1, .int p1), (2, .int p2), (3, .int p3)] ∧ (0 ≤ g207.toInt ∧ g207.toInt ≤ 1)) (fun xx H locs ls hI => ?_) (fun jn208 => ?_)
                · skip
                  revert hI
                  generalize xx = g207
                  intro hI
                  obtain ⟨hP, hD, hS, hl, hq209⟩ := hI
                  refine W.eq (g2 := F0 m 127 ls [.int g207, .int g104]) rfl ?_
                  refine lv_iadd hx hb dX11_other_127 ?_
                  refine lv_topi (fun v210 ev210 => ?_)
                  refine lv_istore (lv' := [(4, .int v210), (5, .int g103), (0, .ref o), (1, .int p1), (2, .int p2), (3, .int p3)]) hx hb dX11_other_128 hl (by decide) rfl (fun ls hl => ?_)
                  obtain ⟨v211, ev211⟩ : ∃ y : Int32, y = g103 + 1 := ⟨_, rfl⟩
                  have hv211 := i_add (Eq.refl g103.toInt) (show (1 : Int32).toInt = 1 by decide) ev211 (by omega) (by omega)
                  refine lv_iinc (v := v211) (lv' := [(5, .int v211), (4, .int v210), (0, .ref o), (1, .int p1), (2, .int p2), (3, .int p3)]) hx hb dX11_other_130 hl (k := 1) rfl (by rw [ev211]; rfl) (by decide) rfl (fun ls hl => ?_)
                  refine lv_goto (tgt := 84) hx hb dX11_other_133 (by decide) ?_
                  exact ih164 (v211, v210) H locs ls (by show (602 - v211.toInt).toNat < (602 - g103.toInt).toNat; omega) ⟨hP, hD, hS, lv_sub hl [0, 1, 2, 3, 4, 5] rfl, by omega⟩
                · skip
                  refine lv_if_eq (tgt := 126) hx hb dX11_other_110 (by decide) (fun c212 => ?_) (fun c212 => ?_)
                  · exact absurd c212 (by decide)
                  refine lv_aload_n hx hb dX11_other_113 rfl (lv_at hl 2 rfl) ?_
                  refine lv_iload hx hb dX11_other_114 (lv_at hl 0 rfl) ?_
                  refine cga (rn_V (As := [.int g103]) (rest := [.int g104]) (b := o) (m_shiftOf l D Y Z H.size o a (upd (upd (upd (upd (upd I 29 u33) 34 u27) 35 u28) 36 u29) 39 u30) (vp_updL (vp_updL (vp_updL (vp_updL J 30 u34) 31 u35) 37 u31) 38 u32) (vf_upd (vf_upd (vf_upd (vf_upd F 1 f36) 28 f37) 41 f39) 43 f41) (vf_upd (vf_upd G 40 f38) 42 f40)  g103 (show (2 ≤ u27.toInt ∧ u27.toInt ≤ 200) by omega) (show (1 ≤ u28.toInt ∧ u28.toInt ≤ 10) by omega) (show (0 ≤ u29.toInt ∧ u29.toInt ≤ 199) by omega) (show (u29.toInt < u27.toInt) by omega) (show (-1 ≤ g103.toInt ∧ g103.toInt ≤ 640) by omega)) ⟨hx, hb, hml, hown, hg⟩ lk_X11_526 ⟨CP.blind, va_recv hKN.1 hP (ci := 11) (q0 := 0) rfl rfl, CP.at hP hKN hD⟩ ⟨⟨rfl, rfl⟩, ⟨Nat.le_of_ble_eq_true rfl, Nat.le_of_ble_eq_true rfl⟩, ⟨Nat.le_of_ble_eq_true rfl, Nat.le_of_ble_eq_true rfl⟩⟩ hl.1 rfl (Nat.le_of_ble_eq_true rfl) dX11_other_116) hP hD hS hA (fun u213 H locs w214 hP hD hS => ?_)
                  have w214 : (-100 ≤ u213.toInt ∧ u213.toInt ≤ 3) := w214
                  have hw216 := w214
                  refine W.eq (g2 := F0 m 119 ls [.int u213, .int g104]) rfl ?_
                  have hP : va_P D vwCl (MW Y o a (upd (upd (upd (upd (upd I 29 u33) 34 u27) 35 u28) 36 u29) 39 u30) (vp_updL (vp_updL (vp_updL (vp_updL J 30 u34) 31 u35) 37 u31) 38 u32) (vf_upd (vf_upd (vf_upd (vf_upd F 1 f36) 28 f37) 41 f39) 43 f41) (vf_upd (vf_upd G 40 f38) 42 f40)) H := hP
                  have hD : va_D A (MW Y o a (upd (upd (upd (upd (upd I 29 u33) 34 u27) 35 u28) 36 u29) 39 u30) (vp_updL (vp_updL (vp_updL (vp_updL J 30 u34) 31 u35) 37 u31) 38 u32) (vf_upd (vf_upd (vf_upd (vf_upd F 1 f36) 28 f37) 41 f39) 43 f41) (vf_upd (vf_upd G 40 f38) 42 f40)) := hD
                  refine lv_if_eq (tgt := 126) hx hb dX11_other_119 (by decide) (fun c217 => ?_) (fun c217 => ?_)
                  · skip
                    have c217 := i_eq (Eq.refl u213.toInt) (show (0 : Int32).toInt = 0 by decide) c217
                    refine lv_iconst (v := 0) hx hb dX11_other_126 (by decide) ?_
                    refine W.widen (k := 0) (n := 0) (Nat.le_of_ble_eq_true rfl) (Nat.le_of_ble_eq_true rfl) ?_
                    exact jn208 (0) H locs ls ⟨hP, hD, hS, lv_sub hl [0, 1, 2, 3, 4, 5] rfl, by omega⟩
                  · skip
                    have c217 := i_ne (Eq.refl u213.toInt) (show (0 : Int32).toInt = 0 by decide) c217
                    refine lv_iconst (v := 1) hx hb dX11_other_122 (by decide) ?_
                    refine lv_goto (tgt := 127) hx hb dX11_other_123 (by decide) ?_
                    refine W.widen (k := 0) (n := 0) (Nat.le_of_ble_eq_true rfl) (Nat.le_of_ble_eq_true rfl) ?_
                    exact jn208 (1) H locs ls ⟨hP, hD, hS, lv_sub hl [0, 1, 2, 3, 4, 5] rfl, by omega⟩
              · obtain rfl : u196 = 0 := i_is c200 (by decide)
                refine W.eq (g2 := F0 m 110 ls [.int 0, .int g104]) rfl ?_
                refine lv_if_eq (tgt := 126) hx hb dX11_other_110 (by decide) (fun c219 => ?_) (fun c219 => ?_)
                rotate_left
                · exact absurd c219 (by decide)
                refine lv_iconst (v := 0) hx hb dX11_other_126 (by decide) ?_
                refine lv_iadd hx hb dX11_other_127 ?_
                refine lv_topi (fun v220 ev220 => ?_)
                have j221 := rgI g104
                have hv220 := i_add (Eq.refl g104.toInt) (show (0 : Int32).toInt = 0 by decide) ev220 (by omega) (by omega)
                refine lv_istore (lv' := [(4, .int v220), (5, .int g103), (0, .ref o), (1, .int p1), (2, .int p2), (3, .int p3)]) hx hb dX11_other_128 hl (by decide) rfl (fun ls hl => ?_)
                obtain ⟨v222, ev222⟩ : ∃ y : Int32, y = g103 + 1 := ⟨_, rfl⟩
                have hv222 := i_add (Eq.refl g103.toInt) (show (1 : Int32).toInt = 1 by decide) ev222 (by omega) (by omega)
                refine lv_iinc (v := v222) (lv' := [(5, .int v222), (4, .int v220), (0, .ref o), (1, .int p1), (2, .int p2), (3, .int p3)]) hx hb dX11_other_130 hl (k := 1) rfl (by rw [ev222]; rfl) (by decide) rfl (fun ls hl => ?_)
                refine lv_goto (tgt := 84) hx hb dX11_other_133 (by decide) ?_
                exact ih164 (v222, v220) H locs ls (by show (602 - v222.toInt).toNat < (602 - g103.toInt).toNat; omega) ⟨hP, hD, hS, lv_sub hl [0, 1, 2, 3, 4, 5] rfl, by omega⟩
          · skip
            have c50 := i_eq (Eq.refl p3.toInt) (show (1 : Int32).toInt = 1 by decide) c50
            refine lv_iconst (v := 1) hx hb dX11_other_48 (by decide) ?_
            refine lv_istore (lv' := [(4, .int 1), (0, .ref o), (1, .int p1), (2, .int p2), (3, .int p3)]) hx hb dX11_other_49 hl (by decide) rfl (fun ls hl => ?_)
            refine w_loop (σ := Int32) (fun xx H locs ls => match xx with | g231 => va_P D vwCl (MW Y o a (upd (upd (upd (upd (upd I 29 u33) 34 u27) 35 u28) 36 u29) 39 u30) (vp_updL (vp_updL (vp_updL (vp_updL J 30 u34) 31 u35) 37 u31) 38 u32) (vf_upd (vf_upd (vf_upd (vf_upd F 1 f36) 28 f37) 41 f39) 43 f41) (vf_upd (vf_upd G 40 f38) 42 f40)) H ∧ va_D A (MW Y o a (upd (upd (upd (upd (upd I 29 u33) 34 u27) 35 u28) 36 u29) 39 u30) (vp_updL (vp_updL (vp_updL (vp_updL J 30 u34) 31 u35) 37 u31) 38 u32) (vf_upd (vf_upd (vf_upd (vf_upd F 1 f36) 28 f37) 41 f39) 43 f41) (vf_upd (vf_upd G 40 f38) 42 f40)) ∧ va_S A s.heap H locs ∧ lv_has ls 6 [(4, .int g231), (0, .ref o), (1, .int p1), (2, .int p2), (3, .int p3)] ∧ (1 ≤ g231.toInt ∧ g231.toInt ≤ 21)) (fun xx => match xx with | g231 => (21 - g231.toInt).toNat) (1) ⟨hP, hD, hS, lv_sub hl [0, 1, 2, 3, 4] rfl, by omega⟩ (fun xx H locs ls hI ih => ?_)
            revert hI ih
            generalize xx = g231
            intro hI ih
            obtain ⟨hP, hD, hS, hl, hq241⟩ := hI
            have ih242 := ih
            refine lv_iload hx hb dX11_other_51 (lv_at hl 0 rfl) ?_
            refine lv_bipush (v := 20) hx hb dX11_other_53 (by decide) ?_
            refine lv_icmp_gt (tgt := 76) hx hb dX11_other_55 (by decide) (fun c243 => ?_) (fun c243 => ?_)
            · skip
              have c243 := i_lt (show (20 : Int32).toInt = 20 by decide) (Eq.refl g231.toInt) c243
              refine lv_iconst (v := (-1)) hx hb dX11_other_76 (by decide) ?_
              refine W.widen (k := 0) (n := 0) (Nat.le_of_ble_eq_true rfl) (Nat.le_of_ble_eq_true rfl) ?_
              have zim1 : ((-1) : Int32).toInt = -1 := by decide
              exact W.iret (v := (-1)) hx hb hr (fun t ht hW => ⟨⟨((-1), u27, u28, u29, u30, u31, u32, u33, u34, u35, f36, f37, f38, f39, f40, f41), rfl, (hw47), CB.mk ht hP hD⟩, hS.F ht⟩) hS.2.2 dX11_other_77
            · skip
              have c243 := i_nlt (show (20 : Int32).toInt = 20 by decide) (Eq.refl g231.toInt) c243
              refine lv_aload_n hx hb dX11_other_58 rfl (lv_at hl 1 rfl) ?_
              refine lv_iload hx hb dX11_other_59 (lv_at hl 0 rfl) ?_
              refine cga (rn_V (As := [.int g231]) (rest := []) (b := o) (m_isRound l D Y Z H.size o a (upd (upd (upd (upd (upd I 29 u33) 34 u27) 35 u28) 36 u29) 39 u30) (vp_updL (vp_updL (vp_updL (vp_updL J 30 u34) 31 u35) 37 u31) 38 u32) (vf_upd (vf_upd (vf_upd (vf_upd F 1 f36) 28 f37) 41 f39) 43 f41) (vf_upd (vf_upd G 40 f38) 42 f40)  g231 (show (2 ≤ u27.toInt ∧ u27.toInt ≤ 200) by omega) (show (1 ≤ u28.toInt ∧ u28.toInt ≤ 10) by omega) (show (0 ≤ u29.toInt ∧ u29.toInt ≤ 199) by omega) (show (u29.toInt < u27.toInt) by omega) (show (1 ≤ g231.toInt ∧ g231.toInt ≤ 20) by omega)) ⟨hx, hb, hml, hown, hg⟩ lk_X11_564 ⟨CP.blind, va_recv hKN.1 hP (ci := 11) (q0 := 0) rfl rfl, CP.at hP hKN hD⟩ ⟨⟨rfl, rfl⟩, ⟨Nat.le_of_ble_eq_true rfl, Nat.le_of_ble_eq_true rfl⟩, ⟨Nat.le_of_ble_eq_true rfl, Nat.le_of_ble_eq_true rfl⟩⟩ hl.1 rfl (Nat.le_of_ble_eq_true rfl) dX11_other_61) hP hD hS hA (fun u244 H locs w245 hP hD hS => ?_)
              have w245 : (0 ≤ u244.toInt ∧ u244.toInt ≤ 1) := w245
              have hw247 := w245
              refine W.eq (g2 := F0 m 64 ls [.int u244]) rfl ?_
              have hP : va_P D vwCl (MW Y o a (upd (upd (upd (upd (upd I 29 u33) 34 u27) 35 u28) 36 u29) 39 u30) (vp_updL (vp_updL (vp_updL (vp_updL J 30 u34) 31 u35) 37 u31) 38 u32) (vf_upd (vf_upd (vf_upd (vf_upd F 1 f36) 28 f37) 41 f39) 43 f41) (vf_upd (vf_upd G 40 f38) 42 f40)) H := hP
              have hD : va_D A (MW Y o a (upd (upd (upd (upd (upd I 29 u33) 34 u27) 35 u28) 36 u29) 39 u30) (vp_updL (vp_updL (vp_updL (vp_updL J 30 u34) 31 u35) 37 u31) 38 u32) (vf_upd (vf_upd (vf_upd (vf_upd F 1 f36) 28 f37) 41 f39) 43 f41) (vf_upd (vf_upd G 40 f38) 42 f40)) := hD
              rcases (show u244.toInt = 1 ∨ u244.toInt = 0 by omega) with c248 | c248
              · obtain rfl : u244 = 1 := i_is c248 (by decide)
                refine W.eq (g2 := F0 m 64 ls [.int 1]) rfl ?_
                refine lv_if_eq (tgt := 70) hx hb dX11_other_64 (by decide) (fun c249 => ?_) (fun c249 => ?_)
                · exact absurd c249 (by decide)
                refine lv_iload hx hb dX11_other_67 (lv_at hl 0 rfl) ?_
                refine W.widen (k := 0) (n := 0) (Nat.le_of_ble_eq_true rfl) (Nat.le_of_ble_eq_true rfl) ?_
                exact W.iret (v := g231) hx hb hr (fun t ht hW => ⟨⟨(g231, u27, u28, u29, u30, u31, u32, u33, u34, u35, f36, f37, f38, f39, f40, f41), rfl, (hw47), CB.mk ht hP hD⟩, hS.F ht⟩) hS.2.2 dX11_other_69
              · obtain rfl : u244 = 0 := i_is c248 (by decide)
                refine W.eq (g2 := F0 m 64 ls [.int 0]) rfl ?_
                refine lv_if_eq (tgt := 70) hx hb dX11_other_64 (by decide) (fun c250 => ?_) (fun c250 => ?_)
                rotate_left
                · exact absurd c250 (by decide)
                obtain ⟨v251, ev251⟩ : ∃ y : Int32, y = g231 + 1 := ⟨_, rfl⟩
                have hv251 := i_add (Eq.refl g231.toInt) (show (1 : Int32).toInt = 1 by decide) ev251 (by omega) (by omega)
                refine lv_iinc (v := v251) (lv' := [(4, .int v251), (0, .ref o), (1, .int p1), (2, .int p2), (3, .int p3)]) hx hb dX11_other_70 hl (k := 0) rfl (by rw [ev251]; rfl) (by decide) rfl (fun ls hl => ?_)
                refine lv_goto (tgt := 51) hx hb dX11_other_73 (by decide) ?_
                exact ih242 (v251) H locs ls (by show (21 - v251.toInt).toNat < (21 - g231.toInt).toNat; omega) ⟨hP, hD, hS, lv_sub hl [0, 1, 2, 3, 4] rfl, by omega⟩
        · obtain rfl : u26 = 0 := i_is c48 (by decide)
          refine W.eq (g2 := F0 m 37 ls [.int 0]) rfl ?_
          refine lv_if_ne (tgt := 43) hx hb dX11_other_37 (by decide) (fun c252 => ?_) (fun c252 => ?_)
          · exact absurd c252 (by decide)
          refine lv_bipush (v := (-2)) hx hb dX11_other_40 (by decide) ?_
          refine W.widen (k := 0) (n := 0) (Nat.le_of_ble_eq_true rfl) (Nat.le_of_ble_eq_true rfl) ?_
          have zim2 : ((-2) : Int32).toInt = -2 := by decide
          exact W.iret (v := (-2)) hx hb hr (fun t ht hW => ⟨⟨((-2), u27, u28, u29, u30, u31, u32, u33, u34, u35, f36, f37, f38, f39, f40, f41), rfl, (hw47), CB.mk ht hP hD⟩, hS.F ht⟩) hS.2.2 dX11_other_42
      · obtain rfl : u17 = 0 := i_is c22 (by decide)
        have zi0 : (0 : Int32).toInt = 0 := by decide
        refine W.eq (g2 := F0 m 24 ls [.int 0]) rfl ?_
        refine lv_if_ne (tgt := 30) hx hb dX11_other_24 (by decide) (fun c253 => ?_) (fun c253 => ?_)
        · exact absurd c253 (by decide)
        refine lv_bipush (v := (-3)) hx hb dX11_other_27 (by decide) ?_
        refine W.widen (k := 0) (n := 0) (Nat.le_of_ble_eq_true rfl) (Nat.le_of_ble_eq_true rfl) ?_
        have zim3 : ((-3) : Int32).toInt = -3 := by decide
        exact W.iret (v := (-3)) hx hb hr (fun t ht hW => ⟨⟨((-3), (I 34), (I 35), (I 36), (I 39), (J 37), (J 38), (I 29), (J 30), (J 31), (F 1), (F 28), (G 40), (F 41), (G 42), (F 43)), rfl, (hk1), CB.mk ht hP hD⟩, hS.F ht⟩) hS.2.2 dX11_other_29
    · obtain rfl : u8 = 0 := i_is c13 (by decide)
      have zi0 : (0 : Int32).toInt = 0 := by decide
      refine W.eq (g2 := F0 m 14 ls [.int 0]) rfl ?_
      refine lv_if_eq (tgt := 27) hx hb dX11_other_14 (by decide) (fun c254 => ?_) (fun c254 => ?_)
      rotate_left
      · exact absurd c254 (by decide)
      refine lv_bipush (v := (-3)) hx hb dX11_other_27 (by decide) ?_
      refine W.widen (k := 0) (n := 0) (Nat.le_of_ble_eq_true rfl) (Nat.le_of_ble_eq_true rfl) ?_
      have zim3 : ((-3) : Int32).toInt = -3 := by decide
      exact W.iret (v := (-3)) hx hb hr (fun t ht hW => ⟨⟨((-3), (I 34), (I 35), (I 36), (I 39), (J 37), (J 38), (I 29), (J 30), (J 31), (F 1), (F 28), (G 40), (F 41), (G 42), (F 43)), rfl, (hk1), CB.mk ht hP hD⟩, hS.F ht⟩) hS.2.2 dX11_other_29
  · obtain rfl : u1 = 0 := i_is c6 (by decide)
    have zi0 : (0 : Int32).toInt = 0 := by decide
    refine W.eq (g2 := F0 m 6 ls [.int 0]) rfl ?_
    refine lv_if_eq (tgt := 27) hx hb dX11_other_6 (by decide) (fun c255 => ?_) (fun c255 => ?_)
    rotate_left
    · exact absurd c255 (by decide)
    refine lv_bipush (v := (-3)) hx hb dX11_other_27 (by decide) ?_
    refine W.widen (k := 0) (n := 0) (Nat.le_of_ble_eq_true rfl) (Nat.le_of_ble_eq_true rfl) ?_
    have zim3 : ((-3) : Int32).toInt = -3 := by decide
    exact W.iret (v := (-3)) hx hb hr (fun t ht hW => ⟨⟨((-3), (I 34), (I 35), (I 36), (I 39), (J 37), (J 38), (I 29), (J 30), (J 31), (F 1), (F 28), (G 40), (F 41), (G 42), (F 43)), rfl, (hk1), CB.mk ht hP hD⟩, hS.F ht⟩) hS.2.2 dX11_other_29
set_option maxHeartbeats 4000000 in
set_option maxRecDepth 100000 in
theorem m_fold (l : Launch) (D : va_G) (Y : Nat → ClassId) (Z : Nat → Nat) (sz : Nat) (o : Nat) (a : Nat → Nat) (I : Nat → Int32) (J : Nat → Int64) (F : Nat → Nat → Int32) (G : Nat → Nat → Int64) (p1 : Int32) (p2 : Int32) (p3 : Int32) (p4 : Int32) (p5 : Int32) (hk0 : TO (F 0)) (hk1 : LB (F 28)) : Met l yX11_fold (.code yX11_fold cX11_fold 10 (some .long) :: GW) ({ frames := 4, cells := 0, slots := 0, locals := 100 }) (va_Pc [.ref o, .int p1, .int p2, .int p3, .int p4, .int p5] (CP D Y Z (MW Y o a I J F G) sz)) (QG (S := Int64 × Int32 × Int64 × Int64 × (Nat → Int32) × (Nat → Int32)) (fun u => some (.long u.1)) (fun u => LB u.2.2.2.2.2) (fun u => CB D (MW Y o a (upd I 29 u.2.1) (vp_updL (vp_updL J 30 u.2.2.1) 31 u.2.2.2.1) (vf_upd (vf_upd F 1 u.2.2.2.2.1) 28 u.2.2.2.2.2) G) (va_A (MW Y o a I J F G) sz)) (va_A (MW Y o a I J F G) sz)) 0 0 (va_A (MW Y o a I J F G) sz) := by
  refine Met.ofW (cc := cX11_fold) (maxL := 10) (ret := (some .long)) (by decide) rfl ?_
  intro p e s m args below meth c s₁ B hml hv
  obtain ⟨rfl, hsz, hP, hKN, hD0⟩ := hv
  have hx := B.exec
  have hb := B.bytes
  have hr := B.returns
  have hts := atoms_spec (ws := .code yX11_fold cX11_fold 10 (some .long) :: GW) B.pre
  have hg : ∀ w ∈ GW, w.before _ s = true := fun w h => hts w (List.mem_cons_of_mem _ h)
  have hown : s.vm.findClass RX11 = some m.cls := findClass_of_methodNamed B.named
  have hlocks := B.notSynchronized
  subst hsz
  have hD := hD0.self (sz := s.heap.size)
  generalize hAe : va_A (MW Y o a I J F G) s.heap.size = A at hD ⊢
  have hA : ∀ q : Nat, s.heap.size ≤ q → A q := fun q h => by rw [← hAe]; exact Or.inr h
  clear hAe hD0 hts B
  have hl := lv_entry ([.ref o, .int p1, .int p2, .int p3, .int p4, .int p5]) (n := 10) (Nat.le_of_ble_eq_true rfl)
  rw [lg_entry_eq]
  generalize (lg_sl ([.ref o, .int p1, .int p2, .int p3, .int p4, .int p5]) ++ List.replicate (10 - (lg_sl ([.ref o, .int p1, .int p2, .int p3, .int p4, .int p5])).length) Slot.unset).toArray = ls at hl ⊢
  have hl : lv_has ls 10 [(0, .ref o), (1, .int p1), (2, .int p2), (3, .int p3), (4, .int p4), (5, .int p5)] := hl
  refine w_start (A0 := A) hP (fun H locs hP hS => ?_)
  refine lv_aload_n hx hb dX11_fold_0 rfl (lv_at hl 0 rfl) ?_
  refine lv_iload_n hx hb dX11_fold_1 rfl (lv_at hl 1 rfl) ?_
  refine cga (rn_V (As := [.int p1]) (rest := []) (b := o) (m_isStar l D Y Z H.size o a I J F G  p1 hk0) ⟨hx, hb, hml, hown, hg⟩ lk_X11_108 ⟨CP.blind, va_recv hKN.1 hP (ci := 11) (q0 := 0) rfl rfl, CP.at hP hKN hD⟩ ⟨⟨rfl, rfl⟩, ⟨Nat.le_of_ble_eq_true rfl, Nat.le_of_ble_eq_true rfl⟩, ⟨Nat.le_of_ble_eq_true rfl, Nat.le_of_ble_eq_true rfl⟩⟩ hl.1 rfl (Nat.le_of_ble_eq_true rfl) dX11_fold_2) hP hD hS hA (fun u1 H locs w2 hP hD hS => ?_)
  have w2 : ((0 ≤ p1.toInt ∧ p1.toInt ≤ 11 ∧ p1.toInt < ((F 0) 0).toInt ∧ u1.toInt = 1) ∨ (¬ (0 ≤ p1.toInt ∧ p1.toInt < ((F 0) 0).toInt) ∧ u1.toInt = 0)) ∧ (0 ≤ u1.toInt ∧ u1.toInt ≤ 1) := w2
  obtain ⟨hw4, hw5⟩ := w2
  refine W.eq (g2 := F0 m 5 ls [.int u1]) rfl ?_
  have hP : va_P D vwCl (MW Y o a I J F G) H := hP
  have hD : va_D A (MW Y o a I J F G) := hD
  rcases (show u1.toInt = 1 ∨ u1.toInt = 0 by omega) with c6 | c6
  · obtain rfl : u1 = 1 := i_is c6 (by decide)
    have zi1 : (1 : Int32).toInt = 1 := by decide
    refine W.eq (g2 := F0 m 5 ls [.int 1]) rfl ?_
    refine lv_if_eq (tgt := 59) hx hb dX11_fold_5 (by decide) (fun c7 => ?_) (fun c7 => ?_)
    · exact absurd c7 (by decide)
    refine lv_iload_n hx hb dX11_fold_8 rfl (lv_at hl 2 rfl) ?_
    have j8 := rgI p2
    have j9 := Int32.toInt_toInt64 p2
    refine lv_i2l (v := p2.toInt64) hx hb dX11_fold_9 (rfl) ?_
    refine lv_lconst (v := 0) hx hb dX11_fold_10 (by decide) ?_
    refine lv_ldc2 (v := 5) hx hb hown (hg _ kw_1409) dX11_fold_11 ?_
    have zl0 : (0 : Int64).toInt = 0 := by decide
    have zl5 : (5 : Int64).toInt = 5 := by decide
    refine cg0 (rn_S (As := [.long p2.toInt64, .long 0, .long 5]) (rest := []) (m_in l D Y Z H.size   p2.toInt64 0 5 ) ⟨hx, hb, hml, hown, hg⟩ lk_X11_99 ⟨CP.blind, CP.at nilP hKN (nilD (A := fun _ => True))⟩ ⟨⟨rfl, rfl⟩, ⟨Nat.le_of_ble_eq_true rfl, Nat.le_of_ble_eq_true rfl⟩, ⟨Nat.le_of_ble_eq_true rfl, Nat.le_of_ble_eq_true rfl⟩⟩ hl.1 rfl (Nat.le_of_ble_eq_true rfl) dX11_fold_14) hP hS hA (fun u10 H locs w11 hP hS => ?_)
    have w11 : (((0 : Int64).toInt ≤ p2.toInt64.toInt ∧ p2.toInt64.toInt ≤ (5 : Int64).toInt ∧ u10.toInt = 1) ∨ (¬ ((0 : Int64).toInt ≤ p2.toInt64.toInt ∧ p2.toInt64.toInt ≤ (5 : Int64).toInt) ∧ u10.toInt = 0)) ∧ (0 ≤ u10.toInt ∧ u10.toInt ≤ 1) := w11
    obtain ⟨hw13, hw14⟩ := w11
    refine W.eq (g2 := F0 m 17 ls [.int u10]) rfl ?_
    rcases (show u10.toInt = 1 ∨ u10.toInt = 0 by omega) with c15 | c15
    · obtain rfl : u10 = 1 := i_is c15 (by decide)
      refine W.eq (g2 := F0 m 17 ls [.int 1]) rfl ?_
      refine lv_if_eq (tgt := 59) hx hb dX11_fold_17 (by decide) (fun c16 => ?_) (fun c16 => ?_)
      · exact absurd c16 (by decide)
      refine lv_iload_n hx hb dX11_fold_20 rfl (lv_at hl 3 rfl) ?_
      have j17 := rgI p3
      have j18 := Int32.toInt_toInt64 p3
      refine lv_i2l (v := p3.toInt64) hx hb dX11_fold_21 (rfl) ?_
      refine lv_ldc2 (v := 2) hx hb hown (hg _ kw_1443) dX11_fold_22 ?_
      refine lv_ldc2 (v := 200) hx hb hown (hg _ kw_1663) dX11_fold_25 ?_
      have zl2 : (2 : Int64).toInt = 2 := by decide
      have zl200 : (200 : Int64).toInt = 200 := by decide
      refine cg0 (rn_S (As := [.long p3.toInt64, .long 2, .long 200]) (rest := []) (m_in l D Y Z H.size   p3.toInt64 2 200 ) ⟨hx, hb, hml, hown, hg⟩ lk_X11_99 ⟨CP.blind, CP.at nilP hKN (nilD (A := fun _ => True))⟩ ⟨⟨rfl, rfl⟩, ⟨Nat.le_of_ble_eq_true rfl, Nat.le_of_ble_eq_true rfl⟩, ⟨Nat.le_of_ble_eq_true rfl, Nat.le_of_ble_eq_true rfl⟩⟩ hl.1 rfl (Nat.le_of_ble_eq_true rfl) dX11_fold_28) hP hS hA (fun u19 H locs w20 hP hS => ?_)
      have w20 : (((2 : Int64).toInt ≤ p3.toInt64.toInt ∧ p3.toInt64.toInt ≤ (200 : Int64).toInt ∧ u19.toInt = 1) ∨ (¬ ((2 : Int64).toInt ≤ p3.toInt64.toInt ∧ p3.toInt64.toInt ≤ (200 : Int64).toInt) ∧ u19.toInt = 0)) ∧ (0 ≤ u19.toInt ∧ u19.toInt ≤ 1) := w20
      obtain ⟨hw22, hw23⟩ := w20
      refine W.eq (g2 := F0 m 31 ls [.int u19]) rfl ?_
      rcases (show u19.toInt = 1 ∨ u19.toInt = 0 by omega) with c24 | c24
      · obtain rfl : u19 = 1 := i_is c24 (by decide)
        refine W.eq (g2 := F0 m 31 ls [.int 1]) rfl ?_
        refine lv_if_eq (tgt := 59) hx hb dX11_fold_31 (by decide) (fun c25 => ?_) (fun c25 => ?_)
        · exact absurd c25 (by decide)
        refine lv_iload hx hb dX11_fold_34 (lv_at hl 4 rfl) ?_
        have j26 := rgI p4
        have j27 := Int32.toInt_toInt64 p4
        refine lv_i2l (v := p4.toInt64) hx hb dX11_fold_36 (rfl) ?_
        refine lv_lconst (v := 0) hx hb dX11_fold_37 (by decide) ?_
        refine lv_iload_n hx hb dX11_fold_38 rfl (lv_at hl 3 rfl) ?_
        refine lv_iconst (v := 1) hx hb dX11_fold_39 (by decide) ?_
        refine lv_isub hx hb dX11_fold_40 ?_
        refine lv_topi (fun v28 ev28 => ?_)
        have hv28 := i_sub (Eq.refl p3.toInt) (show (1 : Int32).toInt = 1 by decide) ev28 (by omega) (by omega)
        have j29 := Int32.toInt_toInt64 v28
        refine lv_i2l (v := v28.toInt64) hx hb dX11_fold_41 (rfl) ?_
        refine cg0 (rn_S (As := [.long p4.toInt64, .long 0, .long v28.toInt64]) (rest := []) (m_in l D Y Z H.size   p4.toInt64 0 v28.toInt64 ) ⟨hx, hb, hml, hown, hg⟩ lk_X11_99 ⟨CP.blind, CP.at nilP hKN (nilD (A := fun _ => True))⟩ ⟨⟨rfl, rfl⟩, ⟨Nat.le_of_ble_eq_true rfl, Nat.le_of_ble_eq_true rfl⟩, ⟨Nat.le_of_ble_eq_true rfl, Nat.le_of_ble_eq_true rfl⟩⟩ hl.1 rfl (Nat.le_of_ble_eq_true rfl) dX11_fold_42) hP hS hA (fun u30 H locs w31 hP hS => ?_)
        have w31 : (((0 : Int64).toInt ≤ p4.toInt64.toInt ∧ p4.toInt64.toInt ≤ v28.toInt64.toInt ∧ u30.toInt = 1) ∨ (¬ ((0 : Int64).toInt ≤ p4.toInt64.toInt ∧ p4.toInt64.toInt ≤ v28.toInt64.toInt) ∧ u30.toInt = 0)) ∧ (0 ≤ u30.toInt ∧ u30.toInt ≤ 1) := w31
        obtain ⟨hw33, hw34⟩ := w31
        refine W.eq (g2 := F0 m 45 ls [.int u30]) rfl ?_
        rcases (show u30.toInt = 1 ∨ u30.toInt = 0 by omega) with c35 | c35
        · obtain rfl : u30 = 1 := i_is c35 (by decide)
          refine W.eq (g2 := F0 m 45 ls [.int 1]) rfl ?_
          refine lv_if_eq (tgt := 59) hx hb dX11_fold_45 (by decide) (fun c36 => ?_) (fun c36 => ?_)
          · exact absurd c36 (by decide)
          refine lv_iload hx hb dX11_fold_48 (lv_at hl 5 rfl) ?_
          have j37 := rgI p5
          have j38 := Int32.toInt_toInt64 p5
          refine lv_i2l (v := p5.toInt64) hx hb dX11_fold_50 (rfl) ?_
          refine lv_lconst (v := 0) hx hb dX11_fold_51 (by decide) ?_
          refine lv_lconst (v := 1) hx hb dX11_fold_52 (by decide) ?_
          have zl1 : (1 : Int64).toInt = 1 := by decide
          refine cg0 (rn_S (As := [.long p5.toInt64, .long 0, .long 1]) (rest := []) (m_in l D Y Z H.size   p5.toInt64 0 1 ) ⟨hx, hb, hml, hown, hg⟩ lk_X11_99 ⟨CP.blind, CP.at nilP hKN (nilD (A := fun _ => True))⟩ ⟨⟨rfl, rfl⟩, ⟨Nat.le_of_ble_eq_true rfl, Nat.le_of_ble_eq_true rfl⟩, ⟨Nat.le_of_ble_eq_true rfl, Nat.le_of_ble_eq_true rfl⟩⟩ hl.1 rfl (Nat.le_of_ble_eq_true rfl) dX11_fold_53) hP hS hA (fun u39 H locs w40 hP hS => ?_)
          have w40 : (((0 : Int64).toInt ≤ p5.toInt64.toInt ∧ p5.toInt64.toInt ≤ (1 : Int64).toInt ∧ u39.toInt = 1) ∨ (¬ ((0 : Int64).toInt ≤ p5.toInt64.toInt ∧ p5.toInt64.toInt ≤ (1 : Int64).toInt) ∧ u39.toInt = 0)) ∧ (0 ≤ u39.toInt ∧ u39.toInt ≤ 1) := w40
          obtain ⟨hw42, hw43⟩ := w40
          refine W.eq (g2 := F0 m 56 ls [.int u39]) rfl ?_
          rcases (show u39.toInt = 1 ∨ u39.toInt = 0 by omega) with c44 | c44
          · obtain rfl : u39 = 1 := i_is c44 (by decide)
            refine W.eq (g2 := F0 m 56 ls [.int 1]) rfl ?_
            refine lv_if_ne (tgt := 63) hx hb dX11_fold_56 (by decide) (fun c45 => ?_) (fun c45 => ?_)
            rotate_left
            · exact absurd c45 (by decide)
            refine lv_aload_n hx hb dX11_fold_63 rfl (lv_at hl 0 rfl) ?_
            refine lv_iload_n hx hb dX11_fold_64 rfl (lv_at hl 1 rfl) ?_
            refine lv_iload_n hx hb dX11_fold_65 rfl (lv_at hl 2 rfl) ?_
            refine cga (rn_V (As := [.int p1, .int p2]) (rest := []) (b := o) (m_lifts l D Y Z H.size o a I J F G  p1 p2 (show (0 ≤ p1.toInt ∧ p1.toInt ≤ 11) by omega) (show (0 ≤ p2.toInt ∧ p2.toInt ≤ 5) by omega) hk0 hk1) ⟨hx, hb, hml, hown, hg⟩ lk_X11_406 ⟨CP.blind, va_recv hKN.1 hP (ci := 11) (q0 := 0) rfl rfl, CP.at hP hKN hD⟩ ⟨⟨rfl, rfl⟩, ⟨Nat.le_of_ble_eq_true rfl, Nat.le_of_ble_eq_true rfl⟩, ⟨Nat.le_of_ble_eq_true rfl, Nat.le_of_ble_eq_true rfl⟩⟩ hl.1 rfl (Nat.le_of_ble_eq_true rfl) dX11_fold_66) hP hD hS hA (fun u46 H locs w47 hP hD hS => ?_)
            obtain ⟨u48, u49, u50, f51, f52⟩ := u46
            have w47 : (0 ≤ u48.toInt ∧ u48.toInt ≤ 600) ∧ (-60000000 ≤ u49.toInt ∧ u49.toInt ≤ 60000000) ∧ (1 ≤ u50.toInt) ∧ LB f52 := w47
            obtain ⟨hw53, hw54, hw55, hw56⟩ := w47
            refine W.eq (g2 := F0 m 69 ls []) rfl ?_
            have hP : va_P D vwCl (MW Y o a (upd I 29 u48) (vp_updL (vp_updL J 30 u49) 31 u50) (vf_upd (vf_upd F 1 f51) 28 f52) G) H := hP
            have hD : va_D A (MW Y o a (upd I 29 u48) (vp_updL (vp_updL J 30 u49) 31 u50) (vf_upd (vf_upd F 1 f51) 28 f52) G) := hD
            refine lv_lconst (v := 0) hx hb dX11_fold_69 (by decide) ?_
            refine lv_lstore (lv' := [(6, .long 0), (0, .ref o), (1, .int p1), (2, .int p2), (3, .int p3), (4, .int p4), (5, .int p5)]) hx hb dX11_fold_70 hl (by decide) rfl (fun ls hl => ?_)
            refine lv_iconst (v := 0) hx hb dX11_fold_72 (by decide) ?_
            refine lv_istore (lv' := [(8, .int 0), (6, .long 0), (0, .ref o), (1, .int p1), (2, .int p2), (3, .int p3), (4, .int p4), (5, .int p5)]) hx hb dX11_fold_73 hl (by decide) rfl (fun ls hl => ?_)
            refine lv_iload hx hb dX11_fold_75 (lv_at hl 6 rfl) ?_
            refine lv_istore (lv' := [(9, .int p4), (8, .int 0), (6, .long 0), (0, .ref o), (1, .int p1), (2, .int p2), (3, .int p3), (4, .int p4), (5, .int p5)]) hx hb dX11_fold_77 hl (by decide) rfl (fun ls hl => ?_)
            have zi0 : (0 : Int32).toInt = 0 := by decide
            refine w_loop (σ := Int32 × Int32 × Int64) (fun xx H locs ls => match xx with | (g89, g90, g91) => va_P D vwCl (MW Y o a (upd I 29 u48) (vp_updL (vp_updL J 30 u49) 31 u50) (vf_upd (vf_upd F 1 f51) 28 f52) G) H ∧ va_D A (MW Y o a (upd I 29 u48) (vp_updL (vp_updL J 30 u49) 31 u50) (vf_upd (vf_upd F 1 f51) 28 f52) G) ∧ va_S A s.heap H locs ∧ lv_has ls 10 [(9, .int g89), (8, .int g90), (6, .long g91), (0, .ref o), (1, .int p1), (2, .int p2), (3, .int p3), (4, .int p4), (5, .int p5)] ∧ (0 ≤ g89.toInt ∧ g89.toInt ≤ 799)) (fun xx => match xx with | (g89, g90, g91) => (800 - g89.toInt).toNat) (p4, 0, 0) ⟨hP, hD, hS, lv_sub hl [0, 1, 2, 3, 4, 5, 6, 7, 8] rfl, by omega⟩ (fun xx H locs ls hI ih => ?_)
            obtain ⟨g89, g90, g91⟩ := xx
            obtain ⟨hP, hD, hS, hl, hq124⟩ := hI
            have ih125 := ih
            refine lv_iload hx hb dX11_fold_79 (lv_at hl 0 rfl) ?_
            refine lv_sipush (v := 600) hx hb dX11_fold_81 (by decide) ?_
            refine lv_icmp_ge (tgt := 127) hx hb dX11_fold_84 (by decide) (fun c142 => ?_) (fun c142 => ?_)
            · skip
              have c142 := i_le (show (600 : Int32).toInt = 600 by decide) (Eq.refl g89.toInt) c142
              refine lv_iload hx hb dX11_fold_127 (lv_at hl 8 rfl) ?_
              refine lv_if_ne (tgt := 138) hx hb dX11_fold_129 (by decide) (fun c146 => ?_) (fun c146 => ?_)
              · skip
                have c146 := i_ne (Eq.refl p5.toInt) (show (0 : Int32).toInt = 0 by decide) c146
                refine lv_lload hx hb dX11_fold_138 (lv_at hl 2 rfl) ?_
                refine W.widen (k := 0) (n := 0) (Nat.le_of_ble_eq_true rfl) (Nat.le_of_ble_eq_true rfl) ?_
                exact W.lret (v := g91) hx hb hr (fun t ht hW => ⟨⟨(g91, u48, u49, u50, f51, f52), rfl, (hw56), CB.mk ht hP hD⟩, hS.F ht⟩) hS.2.2 dX11_fold_140
              · skip
                have c146 := i_eq (Eq.refl p5.toInt) (show (0 : Int32).toInt = 0 by decide) c146
                refine lv_iload hx hb dX11_fold_132 (lv_at hl 1 rfl) ?_
                have j147 := rgI g90
                have j148 := Int32.toInt_toInt64 g90
                refine lv_i2l (v := g90.toInt64) hx hb dX11_fold_134 (rfl) ?_
                refine lv_goto (tgt := 140) hx hb dX11_fold_135 (by decide) ?_
                refine W.widen (k := 0) (n := 0) (Nat.le_of_ble_eq_true rfl) (Nat.le_of_ble_eq_true rfl) ?_
                exact W.lret (v := g90.toInt64) hx hb hr (fun t ht hW => ⟨⟨(g90.toInt64, u48, u49, u50, f51, f52), rfl, (hw56), CB.mk ht hP hD⟩, hS.F ht⟩) hS.2.2 dX11_fold_140
            · skip
              have c142 := i_nle (show (600 : Int32).toInt = 600 by decide) (Eq.refl g89.toInt) c142
              refine lv_aload_n hx hb dX11_fold_87 rfl (lv_at hl 3 rfl) ?_
              refine va_get (D := D) (ci := 11) (v := .ref (a 28)) (C := RX11) (T := TX11) (N := 49) hx hb hg inGX11 hown hKN.1 hP 0 rfl rfl 28 (by decide) (hg _ kw_1236) (fun _ h9 => h9) rfl dX11_fold_88 ?_
              refine lv_iload hx hb dX11_fold_91 (lv_at hl 0 rfl) ?_
              refine va_iald hx hb hKN.1 hP 19 0 rfl rfl (vp_in_iff.mpr ⟨by omega, by omega⟩) dX11_fold_93 ?_
              refine lv_topi (fun v149 ev149 => ?_)
              have ev149 : v149 = f52 g89.toNatClampNeg := ev149
              have qv149 := congrArg Int32.toInt ev149
              have kv149 := LB_get hw56 (i := g89) (by omega) (by omega)
              rw [← ev149] at kv149
              refine lv_ldc (v := (-100000)) hx hb hown (hg _ kw_1367) dX11_fold_94 ?_
              refine w_join (σ := Int64 × Int32) (pcJ := 118) (kJ := 0) (nJ := 0) (stk := fun xx => match xx with | (g155, g156) => []) (fun xx H locs ls => match xx with | (g155, g156) => va_P D vwCl (MW Y o a (upd I 29 u48) (vp_updL (vp_updL J 30 u49) 31 u50) (vf_upd (vf_upd F 1 f51) 28 f52) G) H ∧ va_D A (MW Y o a (upd I 29 u48) (vp_updL (vp_updL J 30 u49) 31 u50) (vf_upd (vf_upd F 1 f51) 28 f52) G) ∧ va_S A s.heap H locs ∧ lv_has ls 10 [(6, .long g155), (8, .int g156), (9, .int g89), (0, .ref o), (1, .int p1), (2, .int p2), (3, .int p3), (4, .int p4), (5, .int p5)]) (fun xx H locs ls hI => ?_) (fun jn157 => ?_)
              · skip
                obtain ⟨g155, g156⟩ := xx
                obtain ⟨hP, hD, hS, hl⟩ := hI
                refine W.eq (g2 := F0 m 118 ls []) rfl ?_
                refine lv_iload hx hb dX11_fold_118 (lv_at hl 2 rfl) ?_
                refine lv_iload_n hx hb dX11_fold_120 rfl (lv_at hl 6 rfl) ?_
                refine lv_iadd hx hb dX11_fold_121 ?_
                refine lv_topi (fun v158 ev158 => ?_)
                have hv158 := i_add (Eq.refl g89.toInt) (Eq.refl p3.toInt) ev158 (by omega) (by omega)
                refine lv_istore (lv' := [(9, .int v158), (6, .long g155), (8, .int g156), (0, .ref o), (1, .int p1), (2, .int p2), (3, .int p3), (4, .int p4), (5, .int p5)]) hx hb dX11_fold_122 hl (by decide) rfl (fun ls hl => ?_)
                refine lv_goto (tgt := 79) hx hb dX11_fold_124 (by decide) ?_
                exact ih125 (v158, g156, g155) H locs ls (by show (800 - v158.toInt).toNat < (800 - g89.toInt).toNat; omega) ⟨hP, hD, hS, lv_sub hl [0, 2, 1, 3, 4, 5, 6, 7, 8] rfl, by omega⟩
              · skip
                refine lv_icmp_ne (tgt := 102) hx hb dX11_fold_96 (by decide) (fun c159 => ?_) (fun c159 => ?_)
                · skip
                  have c159 := i_ne (Eq.refl v149.toInt) (show ((-100000) : Int32).toInt = -100000 by decide) c159
                  obtain ⟨v160, ev160⟩ : ∃ y : Int32, y = g90 + 1 := ⟨_, rfl⟩
                  refine lv_iinc (v := v160) (lv' := [(8, .int v160), (9, .int g89), (6, .long g91), (0, .ref o), (1, .int p1), (2, .int p2), (3, .int p3), (4, .int p4), (5, .int p5)]) hx hb dX11_fold_102 hl (k := 1) rfl (by rw [ev160]; rfl) (by decide) rfl (fun ls hl => ?_)
                  refine lv_lload hx hb dX11_fold_105 (lv_at hl 2 rfl) ?_
                  refine lv_aload_n hx hb dX11_fold_107 rfl (lv_at hl 3 rfl) ?_
                  refine va_get (D := D) (ci := 11) (v := .ref (a 28)) (C := RX11) (T := TX11) (N := 49) hx hb hg inGX11 hown hKN.1 hP 0 rfl rfl 28 (by decide) (hg _ kw_1236) (fun _ h9 => h9) rfl dX11_fold_108 ?_
                  refine lv_iload hx hb dX11_fold_111 (lv_at hl 1 rfl) ?_
                  refine va_iald hx hb hKN.1 hP 19 0 rfl rfl (vp_in_iff.mpr ⟨by omega, by omega⟩) dX11_fold_113 ?_
                  refine lv_topi (fun v161 ev161 => ?_)
                  have ev161 : v161 = f52 g89.toNatClampNeg := ev161
                  have qv161 := congrArg Int32.toInt ev161
                  have kv161 := LB_get hw56 (i := g89) (by omega) (by omega)
                  rw [← ev161] at kv161
                  have j162 := Int32.toInt_toInt64 v161
                  refine lv_i2l (v := v161.toInt64) hx hb dX11_fold_114 (rfl) ?_
                  refine lv_ladd hx hb dX11_fold_115 ?_
                  refine lv_topl (fun v163 ev163 => ?_)
                  refine lv_lstore (lv' := [(6, .long v163), (8, .int v160), (9, .int g89), (0, .ref o), (1, .int p1), (2, .int p2), (3, .int p3), (4, .int p4), (5, .int p5)]) hx hb dX11_fold_116 hl (by decide) rfl (fun ls hl => ?_)
                  refine W.widen (k := 0) (n := 0) (Nat.le_of_ble_eq_true rfl) (Nat.le_of_ble_eq_true rfl) ?_
                  exact jn157 (v163, v160) H locs ls ⟨hP, hD, hS, lv_sub hl [0, 1, 2, 3, 4, 5, 6, 7, 8] rfl⟩
                · skip
                  have c159 := i_eq (Eq.refl v149.toInt) (show ((-100000) : Int32).toInt = -100000 by decide) c159
                  refine lv_goto (tgt := 118) hx hb dX11_fold_99 (by decide) ?_
                  refine W.widen (k := 0) (n := 0) (Nat.le_of_ble_eq_true rfl) (Nat.le_of_ble_eq_true rfl) ?_
                  exact jn157 (g91, g90) H locs ls ⟨hP, hD, hS, lv_sub hl [2, 1, 0, 3, 4, 5, 6, 7, 8] rfl⟩
          · obtain rfl : u39 = 0 := i_is c44 (by decide)
            have zi0 : (0 : Int32).toInt = 0 := by decide
            refine W.eq (g2 := F0 m 56 ls [.int 0]) rfl ?_
            refine lv_if_ne (tgt := 63) hx hb dX11_fold_56 (by decide) (fun c164 => ?_) (fun c164 => ?_)
            · exact absurd c164 (by decide)
            refine lv_ldc2 (v := (-1000000000)) hx hb hown (hg _ kw_1893) dX11_fold_59 ?_
            refine W.widen (k := 0) (n := 0) (Nat.le_of_ble_eq_true rfl) (Nat.le_of_ble_eq_true rfl) ?_
            have zlm1000000000 : ((-1000000000) : Int64).toInt = -1000000000 := by decide
            exact W.lret (v := (-1000000000)) hx hb hr (fun t ht hW => ⟨⟨((-1000000000), (I 29), (J 30), (J 31), (F 1), (F 28)), rfl, (hk1), CB.mk ht hP hD⟩, hS.F ht⟩) hS.2.2 dX11_fold_62
        · obtain rfl : u30 = 0 := i_is c35 (by decide)
          have zi0 : (0 : Int32).toInt = 0 := by decide
          refine W.eq (g2 := F0 m 45 ls [.int 0]) rfl ?_
          refine lv_if_eq (tgt := 59) hx hb dX11_fold_45 (by decide) (fun c165 => ?_) (fun c165 => ?_)
          rotate_left
          · exact absurd c165 (by decide)
          refine lv_ldc2 (v := (-1000000000)) hx hb hown (hg _ kw_1893) dX11_fold_59 ?_
          refine W.widen (k := 0) (n := 0) (Nat.le_of_ble_eq_true rfl) (Nat.le_of_ble_eq_true rfl) ?_
          have zlm1000000000 : ((-1000000000) : Int64).toInt = -1000000000 := by decide
          exact W.lret (v := (-1000000000)) hx hb hr (fun t ht hW => ⟨⟨((-1000000000), (I 29), (J 30), (J 31), (F 1), (F 28)), rfl, (hk1), CB.mk ht hP hD⟩, hS.F ht⟩) hS.2.2 dX11_fold_62
      · obtain rfl : u19 = 0 := i_is c24 (by decide)
        have zi0 : (0 : Int32).toInt = 0 := by decide
        refine W.eq (g2 := F0 m 31 ls [.int 0]) rfl ?_
        refine lv_if_eq (tgt := 59) hx hb dX11_fold_31 (by decide) (fun c166 => ?_) (fun c166 => ?_)
        rotate_left
        · exact absurd c166 (by decide)
        refine lv_ldc2 (v := (-1000000000)) hx hb hown (hg _ kw_1893) dX11_fold_59 ?_
        refine W.widen (k := 0) (n := 0) (Nat.le_of_ble_eq_true rfl) (Nat.le_of_ble_eq_true rfl) ?_
        have zlm1000000000 : ((-1000000000) : Int64).toInt = -1000000000 := by decide
        exact W.lret (v := (-1000000000)) hx hb hr (fun t ht hW => ⟨⟨((-1000000000), (I 29), (J 30), (J 31), (F 1), (F 28)), rfl, (hk1), CB.mk ht hP hD⟩, hS.F ht⟩) hS.2.2 dX11_fold_62
    · obtain rfl : u10 = 0 := i_is c15 (by decide)
      have zi0 : (0 : Int32).toInt = 0 := by decide
      refine W.eq (g2 := F0 m 17 ls [.int 0]) rfl ?_
      refine lv_if_eq (tgt := 59) hx hb dX11_fold_17 (by decide) (fun c167 => ?_) (fun c167 => ?_)
      rotate_left
      · exact absurd c167 (by decide)
      refine lv_ldc2 (v := (-1000000000)) hx hb hown (hg _ kw_1893) dX11_fold_59 ?_
      refine W.widen (k := 0) (n := 0) (Nat.le_of_ble_eq_true rfl) (Nat.le_of_ble_eq_true rfl) ?_
      have zlm1000000000 : ((-1000000000) : Int64).toInt = -1000000000 := by decide
      exact W.lret (v := (-1000000000)) hx hb hr (fun t ht hW => ⟨⟨((-1000000000), (I 29), (J 30), (J 31), (F 1), (F 28)), rfl, (hk1), CB.mk ht hP hD⟩, hS.F ht⟩) hS.2.2 dX11_fold_62
  · obtain rfl : u1 = 0 := i_is c6 (by decide)
    have zi0 : (0 : Int32).toInt = 0 := by decide
    refine W.eq (g2 := F0 m 5 ls [.int 0]) rfl ?_
    refine lv_if_eq (tgt := 59) hx hb dX11_fold_5 (by decide) (fun c168 => ?_) (fun c168 => ?_)
    rotate_left
    · exact absurd c168 (by decide)
    refine lv_ldc2 (v := (-1000000000)) hx hb hown (hg _ kw_1893) dX11_fold_59 ?_
    refine W.widen (k := 0) (n := 0) (Nat.le_of_ble_eq_true rfl) (Nat.le_of_ble_eq_true rfl) ?_
    have zlm1000000000 : ((-1000000000) : Int64).toInt = -1000000000 := by decide
    exact W.lret (v := (-1000000000)) hx hb hr (fun t ht hW => ⟨⟨((-1000000000), (I 29), (J 30), (J 31), (F 1), (F 28)), rfl, (hk1), CB.mk ht hP hD⟩, hS.F ht⟩) hS.2.2 dX11_fold_62
set_option maxHeartbeats 4000000 in
set_option maxRecDepth 100000 in
theorem m_count (l : Launch) (D : va_G) (Y : Nat → ClassId) (Z : Nat → Nat) (sz : Nat) (o : Nat) (a : Nat → Nat) (I : Nat → Int32) (J : Nat → Int64) (F : Nat → Nat → Int32) (G : Nat → Nat → Int64) (p1 : Int32) (hk0 : TO (F 0)) : Met l yX11_count (.code yX11_count cX11_count 4 (some .int) :: GW) ({ frames := 0, cells := 0, slots := 0, locals := 0 }) (va_Pc [.ref o, .int p1] (CP D Y Z (MW Y o a I J F G) sz)) (QG (S := Int32) (fun u => some (.int u)) (fun u => True) (fun u => CB D (MW Y o a I J F G) (va_A (MW Y o a I J F G) sz)) (va_A (MW Y o a I J F G) sz)) 0 0 (va_A (MW Y o a I J F G) sz) := by
  refine Met.ofW (cc := cX11_count) (maxL := 4) (ret := (some .int)) (by decide) rfl ?_
  intro p e s m args below meth c s₁ B hml hv
  obtain ⟨rfl, hsz, hP, hKN, hD0⟩ := hv
  have hx := B.exec
  have hb := B.bytes
  have hr := B.returns
  have hts := atoms_spec (ws := .code yX11_count cX11_count 4 (some .int) :: GW) B.pre
  have hg : ∀ w ∈ GW, w.before _ s = true := fun w h => hts w (List.mem_cons_of_mem _ h)
  have hown : s.vm.findClass RX11 = some m.cls := findClass_of_methodNamed B.named
  have hlocks := B.notSynchronized
  subst hsz
  have hD := hD0.self (sz := s.heap.size)
  generalize hAe : va_A (MW Y o a I J F G) s.heap.size = A at hD ⊢
  have hA : ∀ q : Nat, s.heap.size ≤ q → A q := fun q h => by rw [← hAe]; exact Or.inr h
  clear hAe hD0 hts B
  have hl := lv_entry ([.ref o, .int p1]) (n := 4) (Nat.le_of_ble_eq_true rfl)
  rw [lg_entry_eq]
  generalize (lg_sl ([.ref o, .int p1]) ++ List.replicate (4 - (lg_sl ([.ref o, .int p1])).length) Slot.unset).toArray = ls at hl ⊢
  have hl : lv_has ls 4 [(0, .ref o), (1, .int p1)] := hl
  refine w_start (A0 := A) hP (fun H locs hP hS => ?_)
  refine lv_iconst (v := 0) hx hb dX11_count_0 (by decide) ?_
  refine lv_istore_n (lv' := [(2, .int 0), (0, .ref o), (1, .int p1)]) hx hb dX11_count_1 rfl hl (by decide) rfl (fun ls hl => ?_)
  refine lv_iload_n hx hb dX11_count_2 rfl (lv_at hl 2 rfl) ?_
  rcases (show p1.toInt < 0 ∨ 7 < p1.toInt ∨ p1.toInt = 0 ∨ p1.toInt = 1 ∨ p1.toInt = 2 ∨ p1.toInt = 3 ∨ p1.toInt = 4 ∨ p1.toInt = 5 ∨ p1.toInt = 6 ∨ p1.toInt = 7 by omega) with c1 | c1 | c1 | c1 | c1 | c1 | c1 | c1 | c1 | c1
  · refine lv_tableOut (tgt := 142) hx hb dX11_count_3 (Or.inl c1) (by decide) ?_
    refine lv_iconst (v := (-1)) hx hb dX11_count_142 (by decide) ?_
    refine W.widen (k := 0) (n := 0) (Nat.le_of_ble_eq_true rfl) (Nat.le_of_ble_eq_true rfl) ?_
    have zim1 : ((-1) : Int32).toInt = -1 := by decide
    exact W.iret (v := (-1)) hx hb hr (fun t ht hW => ⟨⟨(-1), rfl, trivial, CB.mk ht hP hD⟩, hS.F ht⟩) hS.2.2 dX11_count_143
  · refine lv_tableOut (tgt := 142) hx hb dX11_count_3 (Or.inr c1) (by decide) ?_
    refine lv_iconst (v := (-1)) hx hb dX11_count_142 (by decide) ?_
    refine W.widen (k := 0) (n := 0) (Nat.le_of_ble_eq_true rfl) (Nat.le_of_ble_eq_true rfl) ?_
    have zim1 : ((-1) : Int32).toInt = -1 := by decide
    exact W.iret (v := (-1)) hx hb hr (fun t ht hW => ⟨⟨(-1), rfl, trivial, CB.mk ht hP hD⟩, hS.F ht⟩) hS.2.2 dX11_count_143
  · refine lv_tableIn (off := 45) (tgt := 48) hx hb dX11_count_3 (by rw [c1]; decide) (by rw [c1]; decide) (by rw [c1]; rfl) (by decide) ?_
    refine lv_aload_n hx hb dX11_count_48 rfl (lv_at hl 1 rfl) ?_
    refine va_get (D := D) (ci := 11) (v := .ref (a 0)) (C := RX11) (T := TX11) (N := 49) hx hb hg inGX11 hown hKN.1 hP 0 rfl rfl 0 (by decide) (hg _ kw_1208) (fun _ h9 => h9) rfl dX11_count_49 ?_
    refine lv_iconst (v := 0) hx hb dX11_count_52 (by decide) ?_
    refine va_iald hx hb hKN.1 hP 1 0 rfl rfl (show ¬ ((0 : Int32) < 0 ∨ 7533 ≤ (0 : Int32).toNatClampNeg) by decide) dX11_count_53 ?_
    refine lv_topi (fun v2 ev2 => ?_)
    have ev2 : v2 = (F 0) 0 := ev2
    have kv2 := TO_0 hk0
    rw [← ev2] at kv2
    have qv2 := congrArg Int32.toInt ev2
    refine W.widen (k := 0) (n := 0) (Nat.le_of_ble_eq_true rfl) (Nat.le_of_ble_eq_true rfl) ?_
    exact W.iret (v := v2) hx hb hr (fun t ht hW => ⟨⟨v2, rfl, trivial, CB.mk ht hP hD⟩, hS.F ht⟩) hS.2.2 dX11_count_54
  · refine lv_tableIn (off := 52) (tgt := 55) hx hb dX11_count_3 (by rw [c1]; decide) (by rw [c1]; decide) (by rw [c1]; rfl) (by decide) ?_
    refine lv_aload_n hx hb dX11_count_55 rfl (lv_at hl 1 rfl) ?_
    refine va_get (D := D) (ci := 11) (v := .ref (a 0)) (C := RX11) (T := TX11) (N := 49) hx hb hg inGX11 hown hKN.1 hP 0 rfl rfl 0 (by decide) (hg _ kw_1208) (fun _ h9 => h9) rfl dX11_count_56 ?_
    refine lv_iconst (v := 1) hx hb dX11_count_59 (by decide) ?_
    refine va_iald hx hb hKN.1 hP 1 0 rfl rfl (show ¬ ((1 : Int32) < 0 ∨ 7533 ≤ (1 : Int32).toNatClampNeg) by decide) dX11_count_60 ?_
    refine lv_topi (fun v3 ev3 => ?_)
    have ev3 : v3 = (F 0) 1 := ev3
    have kv3 := TO_1 hk0
    rw [← ev3] at kv3
    have qv3 := congrArg Int32.toInt ev3
    refine W.widen (k := 0) (n := 0) (Nat.le_of_ble_eq_true rfl) (Nat.le_of_ble_eq_true rfl) ?_
    exact W.iret (v := v3) hx hb hr (fun t ht hW => ⟨⟨v3, rfl, trivial, CB.mk ht hP hD⟩, hS.F ht⟩) hS.2.2 dX11_count_61
  · refine lv_tableIn (off := 59) (tgt := 62) hx hb dX11_count_3 (by rw [c1]; decide) (by rw [c1]; decide) (by rw [c1]; rfl) (by decide) ?_
    refine lv_aload_n hx hb dX11_count_62 rfl (lv_at hl 1 rfl) ?_
    refine va_get (D := D) (ci := 11) (v := .ref (a 4)) (C := RX11) (T := TX11) (N := 49) hx hb hg inGX11 hown hKN.1 hP 0 rfl rfl 4 (by decide) (hg _ kw_1212) (fun _ h9 => h9) rfl dX11_count_63 ?_
    refine lv_iconst (v := 0) hx hb dX11_count_66 (by decide) ?_
    refine va_iald hx hb hKN.1 hP 4 0 rfl rfl (show ¬ ((0 : Int32) < 0 ∨ 3 ≤ (0 : Int32).toNatClampNeg) by decide) dX11_count_67 ?_
    refine lv_topi (fun v4 ev4 => ?_)
    have ev4 : v4 = (F 4) 0 := ev4
    refine W.widen (k := 0) (n := 0) (Nat.le_of_ble_eq_true rfl) (Nat.le_of_ble_eq_true rfl) ?_
    exact W.iret (v := v4) hx hb hr (fun t ht hW => ⟨⟨v4, rfl, trivial, CB.mk ht hP hD⟩, hS.F ht⟩) hS.2.2 dX11_count_68
  · refine lv_tableIn (off := 66) (tgt := 69) hx hb dX11_count_3 (by rw [c1]; decide) (by rw [c1]; decide) (by rw [c1]; rfl) (by decide) ?_
    refine lv_aload_n hx hb dX11_count_69 rfl (lv_at hl 1 rfl) ?_
    refine va_get (D := D) (ci := 11) (v := .ref (a 4)) (C := RX11) (T := TX11) (N := 49) hx hb hg inGX11 hown hKN.1 hP 0 rfl rfl 4 (by decide) (hg _ kw_1212) (fun _ h9 => h9) rfl dX11_count_70 ?_
    refine lv_iconst (v := 1) hx hb dX11_count_73 (by decide) ?_
    refine va_iald hx hb hKN.1 hP 4 0 rfl rfl (show ¬ ((1 : Int32) < 0 ∨ 3 ≤ (1 : Int32).toNatClampNeg) by decide) dX11_count_74 ?_
    refine lv_topi (fun v5 ev5 => ?_)
    have ev5 : v5 = (F 4) 1 := ev5
    refine W.widen (k := 0) (n := 0) (Nat.le_of_ble_eq_true rfl) (Nat.le_of_ble_eq_true rfl) ?_
    exact W.iret (v := v5) hx hb hr (fun t ht hW => ⟨⟨v5, rfl, trivial, CB.mk ht hP hD⟩, hS.F ht⟩) hS.2.2 dX11_count_75
  · refine lv_tableIn (off := 73) (tgt := 76) hx hb dX11_count_3 (by rw [c1]; decide) (by rw [c1]; decide) (by rw [c1]; rfl) (by decide) ?_
    refine lv_aload_n hx hb dX11_count_76 rfl (lv_at hl 1 rfl) ?_
    refine va_get (D := D) (ci := 11) (v := .ref (a 4)) (C := RX11) (T := TX11) (N := 49) hx hb hg inGX11 hown hKN.1 hP 0 rfl rfl 4 (by decide) (hg _ kw_1212) (fun _ h9 => h9) rfl dX11_count_77 ?_
    refine lv_iconst (v := 2) hx hb dX11_count_80 (by decide) ?_
    refine va_iald hx hb hKN.1 hP 4 0 rfl rfl (show ¬ ((2 : Int32) < 0 ∨ 3 ≤ (2 : Int32).toNatClampNeg) by decide) dX11_count_81 ?_
    refine lv_topi (fun v6 ev6 => ?_)
    have ev6 : v6 = (F 4) 2 := ev6
    refine W.widen (k := 0) (n := 0) (Nat.le_of_ble_eq_true rfl) (Nat.le_of_ble_eq_true rfl) ?_
    exact W.iret (v := v6) hx hb hr (fun t ht hW => ⟨⟨v6, rfl, trivial, CB.mk ht hP hD⟩, hS.F ht⟩) hS.2.2 dX11_count_82
  · refine lv_tableIn (off := 80) (tgt := 83) hx hb dX11_count_3 (by rw [c1]; decide) (by rw [c1]; decide) (by rw [c1]; rfl) (by decide) ?_
    refine lv_aload_n hx hb dX11_count_83 rfl (lv_at hl 1 rfl) ?_
    refine va_get (D := D) (ci := 11) (v := .ref (a 0)) (C := RX11) (T := TX11) (N := 49) hx hb hg inGX11 hown hKN.1 hP 0 rfl rfl 0 (by decide) (hg _ kw_1208) (fun _ h9 => h9) rfl dX11_count_84 ?_
    refine lv_iconst (v := 2) hx hb dX11_count_87 (by decide) ?_
    refine va_iald hx hb hKN.1 hP 1 0 rfl rfl (show ¬ ((2 : Int32) < 0 ∨ 7533 ≤ (2 : Int32).toNatClampNeg) by decide) dX11_count_88 ?_
    refine lv_topi (fun v7 ev7 => ?_)
    have ev7 : v7 = (F 0) 2 := ev7
    have kv7 := TO_2 hk0
    rw [← ev7] at kv7
    have qv7 := congrArg Int32.toInt ev7
    refine W.widen (k := 0) (n := 0) (Nat.le_of_ble_eq_true rfl) (Nat.le_of_ble_eq_true rfl) ?_
    exact W.iret (v := v7) hx hb hr (fun t ht hW => ⟨⟨v7, rfl, trivial, CB.mk ht hP hD⟩, hS.F ht⟩) hS.2.2 dX11_count_89
  · refine lv_tableIn (off := 87) (tgt := 90) hx hb dX11_count_3 (by rw [c1]; decide) (by rw [c1]; decide) (by rw [c1]; rfl) (by decide) ?_
    refine lv_iconst (v := 0) hx hb dX11_count_90 (by decide) ?_
    refine lv_istore_n (lv' := [(3, .int 0), (2, .int 0), (0, .ref o), (1, .int p1)]) hx hb dX11_count_91 rfl hl (by decide) rfl (fun ls hl => ?_)
    have zi0 : (0 : Int32).toInt = 0 := by decide
    refine w_loop (σ := Int32 × Int32) (fun xx H locs ls => match xx with | (g32, g33) => va_P D vwCl (MW Y o a I J F G) H ∧ va_D A (MW Y o a I J F G) ∧ va_S A s.heap H locs ∧ lv_has ls 4 [(3, .int g32), (2, .int g33), (0, .ref o), (1, .int p1)] ∧ (0 ≤ g32.toInt ∧ g32.toInt ≤ 7200)) (fun xx => match xx with | (g32, g33) => (7200 - g32.toInt).toNat) (0, 0) ⟨hP, hD, hS, lv_sub hl [0, 1, 2, 3] rfl, by omega⟩ (fun xx H locs ls hI ih => ?_)
    obtain ⟨g32, g33⟩ := xx
    obtain ⟨hP, hD, hS, hl, hq56⟩ := hI
    have ih57 := ih
    refine lv_iload_n hx hb dX11_count_92 rfl (lv_at hl 0 rfl) ?_
    refine lv_sipush (v := 600) hx hb dX11_count_93 (by decide) ?_
    refine lv_aload_n hx hb dX11_count_96 rfl (lv_at hl 2 rfl) ?_
    refine va_get (D := D) (ci := 11) (v := .ref (a 0)) (C := RX11) (T := TX11) (N := 49) hx hb hg inGX11 hown hKN.1 hP 0 rfl rfl 0 (by decide) (hg _ kw_1208) (fun _ h9 => h9) rfl dX11_count_97 ?_
    refine lv_iconst (v := 0) hx hb dX11_count_100 (by decide) ?_
    refine va_iald hx hb hKN.1 hP 1 0 rfl rfl (show ¬ ((0 : Int32) < 0 ∨ 7533 ≤ (0 : Int32).toNatClampNeg) by decide) dX11_count_101 ?_
    refine lv_topi (fun v58 ev58 => ?_)
    have ev58 : v58 = (F 0) 0 := ev58
    have kv58 := TO_0 hk0
    rw [← ev58] at kv58
    have qv58 := congrArg Int32.toInt ev58
    refine lv_imul hx hb dX11_count_102 ?_
    refine lv_topi (fun v59 ev59 => ?_)
    have hv59 := i_mul (show (600 : Int32).toInt = 600 by decide) (Eq.refl v58.toInt) ev59 (by omega) (by omega)
    refine lv_icmp_ge (tgt := 135) hx hb dX11_count_103 (by decide) (fun c70 => ?_) (fun c70 => ?_)
    · skip
      have c70 := i_le (Eq.refl v59.toInt) (Eq.refl g32.toInt) c70
      refine lv_iload_n hx hb dX11_count_135 rfl (lv_at hl 1 rfl) ?_
      refine W.widen (k := 0) (n := 0) (Nat.le_of_ble_eq_true rfl) (Nat.le_of_ble_eq_true rfl) ?_
      exact W.iret (v := g33) hx hb hr (fun t ht hW => ⟨⟨g33, rfl, trivial, CB.mk ht hP hD⟩, hS.F ht⟩) hS.2.2 dX11_count_136
    · skip
      have c70 := i_nle (Eq.refl v59.toInt) (Eq.refl g32.toInt) c70
      refine lv_iload_n hx hb dX11_count_106 rfl (lv_at hl 1 rfl) ?_
      refine lv_aload_n hx hb dX11_count_107 rfl (lv_at hl 2 rfl) ?_
      refine va_get (D := D) (ci := 11) (v := .ref (a 0)) (C := RX11) (T := TX11) (N := 49) hx hb hg inGX11 hown hKN.1 hP 0 rfl rfl 0 (by decide) (hg _ kw_1208) (fun _ h9 => h9) rfl dX11_count_108 ?_
      refine lv_sipush (v := 315) hx hb dX11_count_111 (by decide) ?_
      refine lv_iload_n hx hb dX11_count_114 rfl (lv_at hl 0 rfl) ?_
      refine lv_iadd hx hb dX11_count_115 ?_
      refine lv_topi (fun v71 ev71 => ?_)
      have hv71 := i_add (show (315 : Int32).toInt = 315 by decide) (Eq.refl g32.toInt) ev71 (by omega) (by omega)
      refine va_iald hx hb hKN.1 hP 1 0 rfl rfl (vp_in_iff.mpr ⟨by omega, by omega⟩) dX11_count_116 ?_
      refine lv_topi (fun v72 ev72 => ?_)
      have ev72 : v72 = (F 0) v71.toNatClampNeg := ev72
      have kv72 := TO_row hk0 (i := v71) (by omega) (by omega)
      rw [← ev72] at kv72
      refine lv_ldc (v := (-100000)) hx hb hown (hg _ kw_1367) dX11_count_117 ?_
      refine w_join (σ := Int32) (pcJ := 127) (kJ := 0) (nJ := 0) (stk := fun xx => match xx with | g74 => [.int g74, .int g33]) (fun xx H locs ls => match xx with | g74 => va_P D vwCl (MW Y o a I J F G) H ∧ va_D A (MW Y o a I J F G) ∧ va_S A s.heap H locs ∧ lv_has ls 4 [(3, .int g32), (2, .int g33), (0, .ref o), (1, .int p1)] ∧ (0 ≤ g74.toInt ∧ g74.toInt ≤ 1)) (fun xx H locs ls hI => ?_) (fun jn75 => ?_)
      · skip
        revert hI
        generalize xx = g74
        intro hI
        obtain ⟨hP, hD, hS, hl, hq76⟩ := hI
        refine W.eq (g2 := F0 m 127 ls [.int g74, .int g33]) rfl ?_
        refine lv_iadd hx hb dX11_count_127 ?_
        refine lv_topi (fun v77 ev77 => ?_)
        refine lv_istore_n (lv' := [(2, .int v77), (3, .int g32), (0, .ref o), (1, .int p1)]) hx hb dX11_count_128 rfl hl (by decide) rfl (fun ls hl => ?_)
        obtain ⟨v78, ev78⟩ : ∃ y : Int32, y = g32 + 1 := ⟨_, rfl⟩
        have hv78 := i_add (Eq.refl g32.toInt) (show (1 : Int32).toInt = 1 by decide) ev78 (by omega) (by omega)
        refine lv_iinc (v := v78) (lv' := [(3, .int v78), (2, .int v77), (0, .ref o), (1, .int p1)]) hx hb dX11_count_129 hl (k := 1) rfl (by rw [ev78]; rfl) (by decide) rfl (fun ls hl => ?_)
        refine lv_goto (tgt := 92) hx hb dX11_count_132 (by decide) ?_
        exact ih57 (v78, v77) H locs ls (by show (7200 - v78.toInt).toNat < (7200 - g32.toInt).toNat; omega) ⟨hP, hD, hS, lv_sub hl [0, 1, 2, 3] rfl, by omega⟩
      · skip
        refine lv_icmp_ne (tgt := 126) hx hb dX11_count_119 (by decide) (fun c79 => ?_) (fun c79 => ?_)
        · skip
          have c79 := i_ne (Eq.refl v72.toInt) (show ((-100000) : Int32).toInt = -100000 by decide) c79
          refine lv_iconst (v := 1) hx hb dX11_count_126 (by decide) ?_
          have zi1 : (1 : Int32).toInt = 1 := by decide
          refine W.widen (k := 0) (n := 0) (Nat.le_of_ble_eq_true rfl) (Nat.le_of_ble_eq_true rfl) ?_
          exact jn75 (1) H locs ls ⟨hP, hD, hS, lv_sub hl [0, 1, 2, 3] rfl, by omega⟩
        · skip
          have c79 := i_eq (Eq.refl v72.toInt) (show ((-100000) : Int32).toInt = -100000 by decide) c79
          refine lv_iconst (v := 0) hx hb dX11_count_122 (by decide) ?_
          refine lv_goto (tgt := 127) hx hb dX11_count_123 (by decide) ?_
          have zi0 : (0 : Int32).toInt = 0 := by decide
          refine W.widen (k := 0) (n := 0) (Nat.le_of_ble_eq_true rfl) (Nat.le_of_ble_eq_true rfl) ?_
          exact jn75 (0) H locs ls ⟨hP, hD, hS, lv_sub hl [0, 1, 2, 3] rfl, by omega⟩
  · refine lv_tableIn (off := 134) (tgt := 137) hx hb dX11_count_3 (by rw [c1]; decide) (by rw [c1]; decide) (by rw [c1]; rfl) (by decide) ?_
    refine lv_aload_n hx hb dX11_count_137 rfl (lv_at hl 1 rfl) ?_
    refine va_get (D := D) (ci := 11) (v := .int (I 3)) (C := RX11) (T := TX11) (N := 49) hx hb hg inGX11 hown hKN.1 hP 0 rfl rfl 3 (by decide) (hg _ kw_1211) (fun _ h9 => h9) rfl dX11_count_138 ?_
    refine W.widen (k := 0) (n := 0) (Nat.le_of_ble_eq_true rfl) (Nat.le_of_ble_eq_true rfl) ?_
    exact W.iret (v := (I 3)) hx hb hr (fun t ht hW => ⟨⟨(I 3), rfl, trivial, CB.mk ht hP hD⟩, hS.F ht⟩) hS.2.2 dX11_count_141
