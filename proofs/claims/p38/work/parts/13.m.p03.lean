set_option maxHeartbeats 4000000 in
set_option maxRecDepth 100000 in
theorem m_deepHalf (l : Launch) (D : va_G) (Y : Nat → ClassId) (Z : Nat → Nat) (sz : Nat) (o : Nat) (a : Nat → Nat) (I : Nat → Int32) (J : Nat → Int64) (F : Nat → Nat → Int32) (G : Nat → Nat → Int64) (p1 : Int32) (hk_0 : (2 ≤ (I 34).toInt ∧ (I 34).toInt ≤ 200)) (hk_1 : (1 ≤ (I 35).toInt ∧ (I 35).toInt ≤ 10)) (hk_2 : (0 ≤ (I 36).toInt ∧ (I 36).toInt ≤ 199)) (hk_3 : ((I 36).toInt < (I 34).toInt)) (hk_4 : (0 ≤ (I 29).toInt ∧ (I 29).toInt ≤ 600)) (hk_5 : ((cin (F 28) ((I 34).toInt).toNat ((I 35).toInt).toNat ((I 36).toInt).toNat 600 : Int) ≠ (I 29).toInt)) : Met l yX11_deepHalf (.code yX11_deepHalf cX11_deepHalf 5 (some .long) :: GW) ({ frames := 3, cells := 0, slots := 0, locals := 70 }) (va_Pc [.ref o, .int p1] (CP D Y Z (MW Y o a I J F G) sz)) (QG (S := Int64 × Int32 × Int64) (fun u => some (.long u.1)) (fun u => True) (fun u => CB D (MW Y o a (upd I 32 u.2.1) (vp_updL J 33 u.2.2) F G) (va_A (MW Y o a I J F G) sz)) (va_A (MW Y o a I J F G) sz)) 0 0 (va_A (MW Y o a I J F G) sz) := by
  refine Met.ofW (cc := cX11_deepHalf) (maxL := 5) (ret := (some .long)) (by decide) rfl ?_
  intro p e s m args below meth c s₁ B hml hv
  obtain ⟨rfl, hsz, hP, hKN, hD0⟩ := hv
  have hx := B.exec
  have hb := B.bytes
  have hr := B.returns
  have hts := atoms_spec (ws := .code yX11_deepHalf cX11_deepHalf 5 (some .long) :: GW) B.pre
  have hg : ∀ w ∈ GW, w.before _ s = true := fun w h => hts w (List.mem_cons_of_mem _ h)
  have hown : s.vm.findClass RX11 = some m.cls := findClass_of_methodNamed B.named
  have hlocks := B.notSynchronized
  subst hsz
  have hD := hD0.self (sz := s.heap.size)
  generalize hAe : va_A (MW Y o a I J F G) s.heap.size = A at hD ⊢
  have hA : ∀ q : Nat, s.heap.size ≤ q → A q := fun q h => by rw [← hAe]; exact Or.inr h
  clear hAe hD0 hts B
  have hl := lv_entry ([.ref o, .int p1]) (n := 5) (Nat.le_of_ble_eq_true rfl)
  rw [lg_entry_eq]
  generalize (lg_sl ([.ref o, .int p1]) ++ List.replicate (5 - (lg_sl ([.ref o, .int p1])).length) Slot.unset).toArray = ls at hl ⊢
  have hl : lv_has ls 5 [(0, .ref o), (1, .int p1)] := hl
  refine w_start (A0 := A) hP (fun H locs hP hS => ?_)
  refine lv_aload_n hx hb dX11_deepHalf_0 rfl (lv_at hl 0 rfl) ?_
  refine lv_iconst (v := 4) hx hb dX11_deepHalf_1 (by decide) ?_
  have zi4 : (4 : Int32).toInt = 4 := by decide
  refine cga (rn_V (As := [.int 4]) (rest := []) (b := o) (m_gathers4 l D Y Z H.size o a I J F G   (show (2 ≤ (I 34).toInt ∧ (I 34).toInt ≤ 200) by omega) (show (1 ≤ (I 35).toInt ∧ (I 35).toInt ≤ 10) by omega) (show (0 ≤ (I 36).toInt ∧ (I 36).toInt ≤ 199) by omega) (show ((I 36).toInt < (I 34).toInt) by omega)) ⟨hx, hb, hml, hown, hg⟩ lk_X11_519 ⟨CP.blind, va_recv hKN.1 hP (ci := 11) (q0 := 0) rfl rfl, CP.at hP hKN hD⟩ ⟨⟨rfl, rfl⟩, ⟨Nat.le_of_ble_eq_true rfl, Nat.le_of_ble_eq_true rfl⟩, ⟨Nat.le_of_ble_eq_true rfl, Nat.le_of_ble_eq_true rfl⟩⟩ hl.1 rfl (Nat.le_of_ble_eq_true rfl) dX11_deepHalf_2) hP hD hS hA (fun u1 H locs w2 hP hD hS => ?_)
  obtain ⟨u3, u4⟩ := u1
  have w2 : (0 ≤ u3.toInt ∧ u3.toInt ≤ 600) ∧ (u3.toInt = (cin (F 28) ((I 34).toInt).toNat ((I 35).toInt).toNat ((I 36).toInt).toNat 600 : Int)) := w2
  obtain ⟨hw5, hw6⟩ := w2
  refine W.eq (g2 := F0 m 5 ls []) rfl ?_
  have hP : va_P D vwCl (MW Y o a (upd I 32 u3) (vp_updL J 33 u4) F G) H := hP
  have hD : va_D A (MW Y o a (upd I 32 u3) (vp_updL J 33 u4) F G) := hD
  refine lv_aload_n hx hb dX11_deepHalf_5 rfl (lv_at hl 0 rfl) ?_
  refine va_get (D := D) (ci := 11) (v := .int (I 29)) (C := RX11) (T := TX11) (N := 49) hx hb hg inGX11 hown hKN.1 hP 0 rfl rfl 29 (by decide) (hg _ kw_1237) (fun _ h9 => h9) rfl dX11_deepHalf_6 ?_
  refine lv_aload_n hx hb dX11_deepHalf_9 rfl (lv_at hl 0 rfl) ?_
  refine va_get (D := D) (ci := 11) (v := .int u3) (C := RX11) (T := TX11) (N := 49) hx hb hg inGX11 hown hKN.1 hP 0 rfl rfl 32 (by decide) (hg _ kw_1240) (fun _ h9 => h9) rfl dX11_deepHalf_10 ?_
  refine lv_isub hx hb dX11_deepHalf_13 ?_
  refine lv_topi (fun v7 ev7 => ?_)
  have hv7 := i_sub (Eq.refl (I 29).toInt) (Eq.refl u3.toInt) ev7 (by omega) (by omega)
  refine lv_istore_n (lv' := [(2, .int v7), (0, .ref o), (1, .int p1)]) hx hb dX11_deepHalf_14 rfl hl (by decide) rfl (fun ls hl => ?_)
  refine lv_aload_n hx hb dX11_deepHalf_15 rfl (lv_at hl 1 rfl) ?_
  refine va_get (D := D) (ci := 11) (v := .long (J 30)) (C := RX11) (T := TX11) (N := 49) hx hb hg inGX11 hown hKN.1 hP 0 rfl rfl 30 (by decide) (hg _ kw_1238) (fun _ h9 => h9) rfl dX11_deepHalf_16 ?_
  refine lv_aload_n hx hb dX11_deepHalf_19 rfl (lv_at hl 1 rfl) ?_
  refine va_get (D := D) (ci := 11) (v := .long u4) (C := RX11) (T := TX11) (N := 49) hx hb hg inGX11 hown hKN.1 hP 0 rfl rfl 33 (by decide) (hg _ kw_1241) (fun _ h9 => h9) rfl dX11_deepHalf_20 ?_
  refine lv_lsub hx hb dX11_deepHalf_23 ?_
  refine lv_topl (fun v8 ev8 => ?_)
  refine lv_lstore_n (lv' := [(3, .long v8), (2, .int v7), (0, .ref o), (1, .int p1)]) hx hb dX11_deepHalf_24 rfl hl (by decide) rfl (fun ls hl => ?_)
  refine lv_aload_n hx hb dX11_deepHalf_25 rfl (lv_at hl 2 rfl) ?_
  refine lv_iload_n hx hb dX11_deepHalf_26 rfl (lv_at hl 3 rfl) ?_
  refine cga (rn_V (As := [.int p1]) (rest := []) (b := o) (m_gathers l D Y Z H.size o a (upd I 32 u3) (vp_updL J 33 u4) F G  p1 (show (2 ≤ (I 34).toInt ∧ (I 34).toInt ≤ 200) by omega) (show (1 ≤ (I 35).toInt ∧ (I 35).toInt ≤ 10) by omega) (show (0 ≤ (I 36).toInt ∧ (I 36).toInt ≤ 199) by omega) (show ((I 36).toInt < (I 34).toInt) by omega)) ⟨hx, hb, hml, hown, hg⟩ lk_X11_519 ⟨CP.blind, va_recv hKN.1 hP (ci := 11) (q0 := 0) rfl rfl, CP.at hP hKN hD⟩ ⟨⟨rfl, rfl⟩, ⟨Nat.le_of_ble_eq_true rfl, Nat.le_of_ble_eq_true rfl⟩, ⟨Nat.le_of_ble_eq_true rfl, Nat.le_of_ble_eq_true rfl⟩⟩ hl.1 rfl (Nat.le_of_ble_eq_true rfl) dX11_deepHalf_27) hP hD hS hA (fun u9 H locs w10 hP hD hS => ?_)
  obtain ⟨u11, u12⟩ := u9
  refine W.eq (g2 := F0 m 30 ls []) rfl ?_
  have hP : va_P D vwCl (MW Y o a (upd I 32 u11) (vp_updL J 33 u12) F G) H := hP
  have hD : va_D A (MW Y o a (upd I 32 u11) (vp_updL J 33 u12) F G) := hD
  refine lv_aload_n hx hb dX11_deepHalf_30 rfl (lv_at hl 2 rfl) ?_
  refine va_get (D := D) (ci := 11) (v := .int u11) (C := RX11) (T := TX11) (N := 49) hx hb hg inGX11 hown hKN.1 hP 0 rfl rfl 32 (by decide) (hg _ kw_1240) (fun _ h9 => h9) rfl dX11_deepHalf_31 ?_
  have j18 := rgI u11
  refine lv_if_ne (tgt := 43) hx hb dX11_deepHalf_34 (by decide) (fun c19 => ?_) (fun c19 => ?_)
  · skip
    have c19 := i_ne (Eq.refl u11.toInt) (show (0 : Int32).toInt = 0 by decide) c19
    refine lv_aload_n hx hb dX11_deepHalf_43 rfl (lv_at hl 2 rfl) ?_
    refine lv_lload_n hx hb dX11_deepHalf_44 rfl (lv_at hl 0 rfl) ?_
    refine lv_iload_n hx hb dX11_deepHalf_45 rfl (lv_at hl 1 rfl) ?_
    refine lv_aload_n hx hb dX11_deepHalf_46 rfl (lv_at hl 2 rfl) ?_
    refine va_get (D := D) (ci := 11) (v := .long u12) (C := RX11) (T := TX11) (N := 49) hx hb hg inGX11 hown hKN.1 hP 0 rfl rfl 33 (by decide) (hg _ kw_1241) (fun _ h9 => h9) rfl dX11_deepHalf_47 ?_
    refine lv_aload_n hx hb dX11_deepHalf_50 rfl (lv_at hl 2 rfl) ?_
    refine va_get (D := D) (ci := 11) (v := .int u11) (C := RX11) (T := TX11) (N := 49) hx hb hg inGX11 hown hKN.1 hP 0 rfl rfl 32 (by decide) (hg _ kw_1240) (fun _ h9 => h9) rfl dX11_deepHalf_51 ?_
    refine cga (rn_V (As := [.long v8, .int v7, .long u12, .int u11]) (rest := []) (b := o) (m_deepBy l D Y Z H.size o a (upd I 32 u11) (vp_updL J 33 u12) F G  v8 v7 u12 u11 (show (v7.toInt ≠ 0) by omega) (show (u11.toInt ≠ 0) by omega)) ⟨hx, hb, hml, hown, hg⟩ lk_X11_441 ⟨CP.blind, va_recv hKN.1 hP (ci := 11) (q0 := 0) rfl rfl, CP.at hP hKN hD⟩ ⟨⟨rfl, rfl⟩, ⟨Nat.le_of_ble_eq_true rfl, Nat.le_of_ble_eq_true rfl⟩, ⟨Nat.le_of_ble_eq_true rfl, Nat.le_of_ble_eq_true rfl⟩⟩ hl.1 rfl (Nat.le_of_ble_eq_true rfl) dX11_deepHalf_54) hP hD hS hA (fun u20 H locs w21 hP hD hS => ?_)
    refine W.eq (g2 := F0 m 57 ls [.long u20]) rfl ?_
    have hP : va_P D vwCl (MW Y o a (upd I 32 u11) (vp_updL J 33 u12) F G) H := hP
    have hD : va_D A (MW Y o a (upd I 32 u11) (vp_updL J 33 u12) F G) := hD
    refine W.widen (k := 0) (n := 0) (Nat.le_of_ble_eq_true rfl) (Nat.le_of_ble_eq_true rfl) ?_
    exact W.lret (v := u20) hx hb hr (fun t ht hW => ⟨⟨(u20, u11, u12), rfl, trivial, CB.mk ht hP hD⟩, hS.F ht⟩) hS.2.2 dX11_deepHalf_57
  · skip
    have c19 := i_eq (Eq.refl u11.toInt) (show (0 : Int32).toInt = 0 by decide) c19
    refine lv_ldc2 (v := (-100000)) hx hb hown (hg _ kw_1689) dX11_deepHalf_37 ?_
    refine lv_goto (tgt := 57) hx hb dX11_deepHalf_40 (by decide) ?_
    refine W.widen (k := 0) (n := 0) (Nat.le_of_ble_eq_true rfl) (Nat.le_of_ble_eq_true rfl) ?_
    have zlm100000 : ((-100000) : Int64).toInt = -100000 := by decide
    exact W.lret (v := (-100000)) hx hb hr (fun t ht hW => ⟨⟨((-100000), u11, u12), rfl, trivial, CB.mk ht hP hD⟩, hS.F ht⟩) hS.2.2 dX11_deepHalf_57
set_option maxHeartbeats 4000000 in
set_option maxRecDepth 100000 in
theorem m_oddness (l : Launch) (D : va_G) (Y : Nat → ClassId) (Z : Nat → Nat) (sz : Nat) (o : Nat) (a : Nat → Nat) (I : Nat → Int32) (J : Nat → Int64) (F : Nat → Nat → Int32) (G : Nat → Nat → Int64) (hk_0 : (2 ≤ (I 34).toInt ∧ (I 34).toInt ≤ 200)) (hk_1 : (1 ≤ (I 35).toInt ∧ (I 35).toInt ≤ 10)) (hk_2 : (0 ≤ (I 36).toInt ∧ (I 36).toInt ≤ 199)) (hk_3 : ((I 36).toInt < (I 34).toInt)) (hk_4 : (0 ≤ (I 29).toInt ∧ (I 29).toInt ≤ 600)) (hk_5 : ((cin (F 28) ((I 34).toInt).toNat ((I 35).toInt).toNat ((I 36).toInt).toNat 600 : Int) ≠ (I 29).toInt)) : Met l yX11_oddness (.code yX11_oddness cX11_oddness 5 (some .long) :: GW) ({ frames := 4, cells := 0, slots := 0, locals := 94 }) (va_Pc [.ref o] (CP D Y Z (MW Y o a I J F G) sz)) (QG (S := Int64 × Int32 × Int64) (fun u => some (.long u.1)) (fun u => True) (fun u => CB D (MW Y o a (upd I 32 u.2.1) (vp_updL J 33 u.2.2) F G) (va_A (MW Y o a I J F G) sz)) (va_A (MW Y o a I J F G) sz)) 0 0 (va_A (MW Y o a I J F G) sz) := by
  refine Met.ofW (cc := cX11_oddness) (maxL := 5) (ret := (some .long)) (by decide) rfl ?_
  intro p e s m args below meth c s₁ B hml hv
  obtain ⟨rfl, hsz, hP, hKN, hD0⟩ := hv
  have hx := B.exec
  have hb := B.bytes
  have hr := B.returns
  have hts := atoms_spec (ws := .code yX11_oddness cX11_oddness 5 (some .long) :: GW) B.pre
  have hg : ∀ w ∈ GW, w.before _ s = true := fun w h => hts w (List.mem_cons_of_mem _ h)
  have hown : s.vm.findClass RX11 = some m.cls := findClass_of_methodNamed B.named
  have hlocks := B.notSynchronized
  subst hsz
  have hD := hD0.self (sz := s.heap.size)
  generalize hAe : va_A (MW Y o a I J F G) s.heap.size = A at hD ⊢
  have hA : ∀ q : Nat, s.heap.size ≤ q → A q := fun q h => by rw [← hAe]; exact Or.inr h
  clear hAe hD0 hts B
  have hl := lv_entry ([.ref o]) (n := 5) (Nat.le_of_ble_eq_true rfl)
  rw [lg_entry_eq]
  generalize (lg_sl ([.ref o]) ++ List.replicate (5 - (lg_sl ([.ref o])).length) Slot.unset).toArray = ls at hl ⊢
  have hl : lv_has ls 5 [(0, .ref o)] := hl
  refine w_start (A0 := A) hP (fun H locs hP hS => ?_)
  refine lv_aload_n hx hb dX11_oddness_0 rfl (lv_at hl 0 rfl) ?_
  refine lv_iconst (v := 0) hx hb dX11_oddness_1 (by decide) ?_
  have zi0 : (0 : Int32).toInt = 0 := by decide
  refine cga (rn_V (As := [.int 0]) (rest := []) (b := o) (m_deepHalf l D Y Z H.size o a I J F G  0 (show (2 ≤ (I 34).toInt ∧ (I 34).toInt ≤ 200) by omega) (show (1 ≤ (I 35).toInt ∧ (I 35).toInt ≤ 10) by omega) (show (0 ≤ (I 36).toInt ∧ (I 36).toInt ≤ 199) by omega) (show ((I 36).toInt < (I 34).toInt) by omega) (show (0 ≤ (I 29).toInt ∧ (I 29).toInt ≤ 600) by omega) (show ((cin (F 28) ((I 34).toInt).toNat ((I 35).toInt).toNat ((I 36).toInt).toNat 600 : Int) ≠ (I 29).toInt) by omega)) ⟨hx, hb, hml, hown, hg⟩ lk_X11_522 ⟨CP.blind, va_recv hKN.1 hP (ci := 11) (q0 := 0) rfl rfl, CP.at hP hKN hD⟩ ⟨⟨rfl, rfl⟩, ⟨Nat.le_of_ble_eq_true rfl, Nat.le_of_ble_eq_true rfl⟩, ⟨Nat.le_of_ble_eq_true rfl, Nat.le_of_ble_eq_true rfl⟩⟩ hl.1 rfl (Nat.le_of_ble_eq_true rfl) dX11_oddness_2) hP hD hS hA (fun u1 H locs w2 hP hD hS => ?_)
  obtain ⟨u3, u4, u5⟩ := u1
  refine W.eq (g2 := F0 m 5 ls [.long u3]) rfl ?_
  have hP : va_P D vwCl (MW Y o a (upd I 32 u4) (vp_updL J 33 u5) F G) H := hP
  have hD : va_D A (MW Y o a (upd I 32 u4) (vp_updL J 33 u5) F G) := hD
  refine lv_lstore_n (lv' := [(1, .long u3), (0, .ref o)]) hx hb dX11_oddness_5 rfl hl (by decide) rfl (fun ls hl => ?_)
  refine lv_aload_n hx hb dX11_oddness_6 rfl (lv_at hl 1 rfl) ?_
  refine lv_iconst (v := 1) hx hb dX11_oddness_7 (by decide) ?_
  have zi1 : (1 : Int32).toInt = 1 := by decide
  refine cga (rn_V (As := [.int 1]) (rest := []) (b := o) (m_deepHalf l D Y Z H.size o a (upd I 32 u4) (vp_updL J 33 u5) F G  1 (show (2 ≤ (I 34).toInt ∧ (I 34).toInt ≤ 200) by omega) (show (1 ≤ (I 35).toInt ∧ (I 35).toInt ≤ 10) by omega) (show (0 ≤ (I 36).toInt ∧ (I 36).toInt ≤ 199) by omega) (show ((I 36).toInt < (I 34).toInt) by omega) (show (0 ≤ (I 29).toInt ∧ (I 29).toInt ≤ 600) by omega) (show ((cin (F 28) ((I 34).toInt).toNat ((I 35).toInt).toNat ((I 36).toInt).toNat 600 : Int) ≠ (I 29).toInt) by omega)) ⟨hx, hb, hml, hown, hg⟩ lk_X11_522 ⟨CP.blind, va_recv hKN.1 hP (ci := 11) (q0 := 0) rfl rfl, CP.at hP hKN hD⟩ ⟨⟨rfl, rfl⟩, ⟨Nat.le_of_ble_eq_true rfl, Nat.le_of_ble_eq_true rfl⟩, ⟨Nat.le_of_ble_eq_true rfl, Nat.le_of_ble_eq_true rfl⟩⟩ hl.1 rfl (Nat.le_of_ble_eq_true rfl) dX11_oddness_8) hP hD hS hA (fun u6 H locs w7 hP hD hS => ?_)
  obtain ⟨u8, u9, u10⟩ := u6
  refine W.eq (g2 := F0 m 11 ls [.long u8]) rfl ?_
  have hP : va_P D vwCl (MW Y o a (upd I 32 u9) (vp_updL J 33 u10) F G) H := hP
  have hD : va_D A (MW Y o a (upd I 32 u9) (vp_updL J 33 u10) F G) := hD
  refine lv_lstore_n (lv' := [(3, .long u8), (1, .long u3), (0, .ref o)]) hx hb dX11_oddness_11 rfl hl (by decide) rfl (fun ls hl => ?_)
  refine lv_lload_n hx hb dX11_oddness_12 rfl (lv_at hl 1 rfl) ?_
  refine lv_ldc2 (v := (-100000)) hx hb hown (hg _ kw_1689) dX11_oddness_13 ?_
  refine W.lcmp hx hb dX11_oddness_16 ?_
  refine lv_if_eq (tgt := 28) hx hb dX11_oddness_17 (by decide) (fun c11 => ?_) (fun c11 => ?_)
  · skip
    have c11 := l_eq (Eq.refl u3.toInt) (show ((-100000) : Int64).toInt = -100000 by decide) c11
    refine lv_lconst (v := 0) hx hb dX11_oddness_28 (by decide) ?_
    refine W.widen (k := 0) (n := 0) (Nat.le_of_ble_eq_true rfl) (Nat.le_of_ble_eq_true rfl) ?_
    have zl0 : (0 : Int64).toInt = 0 := by decide
    exact W.lret (v := 0) hx hb hr (fun t ht hW => ⟨⟨(0, u9, u10), rfl, trivial, CB.mk ht hP hD⟩, hS.F ht⟩) hS.2.2 dX11_oddness_29
  · skip
    have c11 := l_ne (Eq.refl u3.toInt) (show ((-100000) : Int64).toInt = -100000 by decide) c11
    refine lv_lload_n hx hb dX11_oddness_20 rfl (lv_at hl 0 rfl) ?_
    refine lv_ldc2 (v := (-100000)) hx hb hown (hg _ kw_1689) dX11_oddness_21 ?_
    refine W.lcmp hx hb dX11_oddness_24 ?_
    refine lv_if_ne (tgt := 30) hx hb dX11_oddness_25 (by decide) (fun c12 => ?_) (fun c12 => ?_)
    · skip
      have c12 := l_ne (Eq.refl u8.toInt) (show ((-100000) : Int64).toInt = -100000 by decide) c12
      refine lv_lload_n hx hb dX11_oddness_30 rfl (lv_at hl 1 rfl) ?_
      refine lv_lload_n hx hb dX11_oddness_31 rfl (lv_at hl 0 rfl) ?_
      refine W.lcmp hx hb dX11_oddness_32 ?_
      refine lv_if_ge (tgt := 42) hx hb dX11_oddness_33 (by decide) (fun c16 => ?_) (fun c16 => ?_)
      · skip
        have c16 := l_ge (Eq.refl u3.toInt) (Eq.refl u8.toInt) c16
        refine lv_lload_n hx hb dX11_oddness_42 rfl (lv_at hl 1 rfl) ?_
        refine lv_lload_n hx hb dX11_oddness_43 rfl (lv_at hl 0 rfl) ?_
        refine lv_lsub hx hb dX11_oddness_44 ?_
        refine lv_topl (fun v17 ev17 => ?_)
        refine W.widen (k := 0) (n := 0) (Nat.le_of_ble_eq_true rfl) (Nat.le_of_ble_eq_true rfl) ?_
        exact W.lret (v := v17) hx hb hr (fun t ht hW => ⟨⟨(v17, u9, u10), rfl, trivial, CB.mk ht hP hD⟩, hS.F ht⟩) hS.2.2 dX11_oddness_45
      · skip
        have c16 := l_nge (Eq.refl u3.toInt) (Eq.refl u8.toInt) c16
        refine lv_lload_n hx hb dX11_oddness_36 rfl (lv_at hl 0 rfl) ?_
        refine lv_lload_n hx hb dX11_oddness_37 rfl (lv_at hl 1 rfl) ?_
        refine lv_lsub hx hb dX11_oddness_38 ?_
        refine lv_topl (fun v18 ev18 => ?_)
        refine lv_goto (tgt := 45) hx hb dX11_oddness_39 (by decide) ?_
        refine W.widen (k := 0) (n := 0) (Nat.le_of_ble_eq_true rfl) (Nat.le_of_ble_eq_true rfl) ?_
        exact W.lret (v := v18) hx hb hr (fun t ht hW => ⟨⟨(v18, u9, u10), rfl, trivial, CB.mk ht hP hD⟩, hS.F ht⟩) hS.2.2 dX11_oddness_45
    · skip
      have c12 := l_eq (Eq.refl u8.toInt) (show ((-100000) : Int64).toInt = -100000 by decide) c12
      refine lv_lconst (v := 0) hx hb dX11_oddness_28 (by decide) ?_
      refine W.widen (k := 0) (n := 0) (Nat.le_of_ble_eq_true rfl) (Nat.le_of_ble_eq_true rfl) ?_
      have zl0 : (0 : Int64).toInt = 0 := by decide
      exact W.lret (v := 0) hx hb hr (fun t ht hW => ⟨⟨(0, u9, u10), rfl, trivial, CB.mk ht hP hD⟩, hS.F ht⟩) hS.2.2 dX11_oddness_29
set_option maxHeartbeats 4000000 in
set_option maxRecDepth 100000 in
theorem m_shapeOf (l : Launch) (D : va_G) (Y : Nat → ClassId) (Z : Nat → Nat) (sz : Nat) (o : Nat) (a : Nat → Nat) (I : Nat → Int32) (J : Nat → Int64) (F : Nat → Nat → Int32) (G : Nat → Nat → Int64) (hk_0 : (2 ≤ (I 34).toInt ∧ (I 34).toInt ≤ 200)) (hk_1 : (1 ≤ (I 35).toInt ∧ (I 35).toInt ≤ 10)) (hk_2 : (0 ≤ (I 36).toInt ∧ (I 36).toInt ≤ 199)) (hk_3 : ((I 36).toInt < (I 34).toInt)) (hk_4 : (0 ≤ (I 29).toInt ∧ (I 29).toInt ≤ 600)) (hk_5 : ((cin (F 28) ((I 34).toInt).toNat ((I 35).toInt).toNat ((I 36).toInt).toNat 600 : Int) ≠ (I 29).toInt)) : Met l yX11_shapeOf (.code yX11_shapeOf cX11_shapeOf 5 (some .long) :: GW) ({ frames := 4, cells := 0, slots := 0, locals := 94 }) (va_Pc [.ref o] (CP D Y Z (MW Y o a I J F G) sz)) (QG (S := Int64 × Int32 × Int64) (fun u => some (.long u.1)) (fun u => True) (fun u => CB D (MW Y o a (upd I 32 u.2.1) (vp_updL J 33 u.2.2) F G) (va_A (MW Y o a I J F G) sz)) (va_A (MW Y o a I J F G) sz)) 0 0 (va_A (MW Y o a I J F G) sz) := by
  refine Met.ofW (cc := cX11_shapeOf) (maxL := 5) (ret := (some .long)) (by decide) rfl ?_
  intro p e s m args below meth c s₁ B hml hv
  obtain ⟨rfl, hsz, hP, hKN, hD0⟩ := hv
  have hx := B.exec
  have hb := B.bytes
  have hr := B.returns
  have hts := atoms_spec (ws := .code yX11_shapeOf cX11_shapeOf 5 (some .long) :: GW) B.pre
  have hg : ∀ w ∈ GW, w.before _ s = true := fun w h => hts w (List.mem_cons_of_mem _ h)
  have hown : s.vm.findClass RX11 = some m.cls := findClass_of_methodNamed B.named
  have hlocks := B.notSynchronized
  subst hsz
  have hD := hD0.self (sz := s.heap.size)
  generalize hAe : va_A (MW Y o a I J F G) s.heap.size = A at hD ⊢
  have hA : ∀ q : Nat, s.heap.size ≤ q → A q := fun q h => by rw [← hAe]; exact Or.inr h
  clear hAe hD0 hts B
  have hl := lv_entry ([.ref o]) (n := 5) (Nat.le_of_ble_eq_true rfl)
  rw [lg_entry_eq]
  generalize (lg_sl ([.ref o]) ++ List.replicate (5 - (lg_sl ([.ref o])).length) Slot.unset).toArray = ls at hl ⊢
  have hl : lv_has ls 5 [(0, .ref o)] := hl
  refine w_start (A0 := A) hP (fun H locs hP hS => ?_)
  refine lv_aload_n hx hb dX11_shapeOf_0 rfl (lv_at hl 0 rfl) ?_
  refine lv_iconst (v := 2) hx hb dX11_shapeOf_1 (by decide) ?_
  have zi2 : (2 : Int32).toInt = 2 := by decide
  refine cga (rn_V (As := [.int 2]) (rest := []) (b := o) (m_deepHalf l D Y Z H.size o a I J F G  2 (show (2 ≤ (I 34).toInt ∧ (I 34).toInt ≤ 200) by omega) (show (1 ≤ (I 35).toInt ∧ (I 35).toInt ≤ 10) by omega) (show (0 ≤ (I 36).toInt ∧ (I 36).toInt ≤ 199) by omega) (show ((I 36).toInt < (I 34).toInt) by omega) (show (0 ≤ (I 29).toInt ∧ (I 29).toInt ≤ 600) by omega) (show ((cin (F 28) ((I 34).toInt).toNat ((I 35).toInt).toNat ((I 36).toInt).toNat 600 : Int) ≠ (I 29).toInt) by omega)) ⟨hx, hb, hml, hown, hg⟩ lk_X11_522 ⟨CP.blind, va_recv hKN.1 hP (ci := 11) (q0 := 0) rfl rfl, CP.at hP hKN hD⟩ ⟨⟨rfl, rfl⟩, ⟨Nat.le_of_ble_eq_true rfl, Nat.le_of_ble_eq_true rfl⟩, ⟨Nat.le_of_ble_eq_true rfl, Nat.le_of_ble_eq_true rfl⟩⟩ hl.1 rfl (Nat.le_of_ble_eq_true rfl) dX11_shapeOf_2) hP hD hS hA (fun u1 H locs w2 hP hD hS => ?_)
  obtain ⟨u3, u4, u5⟩ := u1
  refine W.eq (g2 := F0 m 5 ls [.long u3]) rfl ?_
  have hP : va_P D vwCl (MW Y o a (upd I 32 u4) (vp_updL J 33 u5) F G) H := hP
  have hD : va_D A (MW Y o a (upd I 32 u4) (vp_updL J 33 u5) F G) := hD
  refine lv_lstore_n (lv' := [(1, .long u3), (0, .ref o)]) hx hb dX11_shapeOf_5 rfl hl (by decide) rfl (fun ls hl => ?_)
  refine lv_aload_n hx hb dX11_shapeOf_6 rfl (lv_at hl 1 rfl) ?_
  refine lv_iconst (v := 3) hx hb dX11_shapeOf_7 (by decide) ?_
  have zi3 : (3 : Int32).toInt = 3 := by decide
  refine cga (rn_V (As := [.int 3]) (rest := []) (b := o) (m_deepHalf l D Y Z H.size o a (upd I 32 u4) (vp_updL J 33 u5) F G  3 (show (2 ≤ (I 34).toInt ∧ (I 34).toInt ≤ 200) by omega) (show (1 ≤ (I 35).toInt ∧ (I 35).toInt ≤ 10) by omega) (show (0 ≤ (I 36).toInt ∧ (I 36).toInt ≤ 199) by omega) (show ((I 36).toInt < (I 34).toInt) by omega) (show (0 ≤ (I 29).toInt ∧ (I 29).toInt ≤ 600) by omega) (show ((cin (F 28) ((I 34).toInt).toNat ((I 35).toInt).toNat ((I 36).toInt).toNat 600 : Int) ≠ (I 29).toInt) by omega)) ⟨hx, hb, hml, hown, hg⟩ lk_X11_522 ⟨CP.blind, va_recv hKN.1 hP (ci := 11) (q0 := 0) rfl rfl, CP.at hP hKN hD⟩ ⟨⟨rfl, rfl⟩, ⟨Nat.le_of_ble_eq_true rfl, Nat.le_of_ble_eq_true rfl⟩, ⟨Nat.le_of_ble_eq_true rfl, Nat.le_of_ble_eq_true rfl⟩⟩ hl.1 rfl (Nat.le_of_ble_eq_true rfl) dX11_shapeOf_8) hP hD hS hA (fun u6 H locs w7 hP hD hS => ?_)
  obtain ⟨u8, u9, u10⟩ := u6
  refine W.eq (g2 := F0 m 11 ls [.long u8]) rfl ?_
  have hP : va_P D vwCl (MW Y o a (upd I 32 u9) (vp_updL J 33 u10) F G) H := hP
  have hD : va_D A (MW Y o a (upd I 32 u9) (vp_updL J 33 u10) F G) := hD
  refine lv_lstore_n (lv' := [(3, .long u8), (1, .long u3), (0, .ref o)]) hx hb dX11_shapeOf_11 rfl hl (by decide) rfl (fun ls hl => ?_)
  refine lv_lload_n hx hb dX11_shapeOf_12 rfl (lv_at hl 1 rfl) ?_
  refine lv_ldc2 (v := (-100000)) hx hb hown (hg _ kw_1689) dX11_shapeOf_13 ?_
  refine W.lcmp hx hb dX11_shapeOf_16 ?_
  refine lv_if_eq (tgt := 28) hx hb dX11_shapeOf_17 (by decide) (fun c14 => ?_) (fun c14 => ?_)
  · skip
    have c14 := l_eq (Eq.refl u3.toInt) (show ((-100000) : Int64).toInt = -100000 by decide) c14
    refine lv_lconst (v := 0) hx hb dX11_shapeOf_28 (by decide) ?_
    refine lv_goto (tgt := 35) hx hb dX11_shapeOf_29 (by decide) ?_
    refine W.widen (k := 0) (n := 0) (Nat.le_of_ble_eq_true rfl) (Nat.le_of_ble_eq_true rfl) ?_
    have zl0 : (0 : Int64).toInt = 0 := by decide
    exact W.lret (v := 0) hx hb hr (fun t ht hW => ⟨⟨(0, u9, u10), rfl, trivial, CB.mk ht hP hD⟩, hS.F ht⟩) hS.2.2 dX11_shapeOf_35
  · skip
    have c14 := l_ne (Eq.refl u3.toInt) (show ((-100000) : Int64).toInt = -100000 by decide) c14
    refine lv_lload_n hx hb dX11_shapeOf_20 rfl (lv_at hl 0 rfl) ?_
    refine lv_ldc2 (v := (-100000)) hx hb hown (hg _ kw_1689) dX11_shapeOf_21 ?_
    refine W.lcmp hx hb dX11_shapeOf_24 ?_
    refine lv_if_ne (tgt := 32) hx hb dX11_shapeOf_25 (by decide) (fun c17 => ?_) (fun c17 => ?_)
    · skip
      have c17 := l_ne (Eq.refl u8.toInt) (show ((-100000) : Int64).toInt = -100000 by decide) c17
      refine lv_lload_n hx hb dX11_shapeOf_32 rfl (lv_at hl 1 rfl) ?_
      refine lv_lload_n hx hb dX11_shapeOf_33 rfl (lv_at hl 0 rfl) ?_
      refine lv_lsub hx hb dX11_shapeOf_34 ?_
      refine lv_topl (fun v18 ev18 => ?_)
      refine W.widen (k := 0) (n := 0) (Nat.le_of_ble_eq_true rfl) (Nat.le_of_ble_eq_true rfl) ?_
      exact W.lret (v := v18) hx hb hr (fun t ht hW => ⟨⟨(v18, u9, u10), rfl, trivial, CB.mk ht hP hD⟩, hS.F ht⟩) hS.2.2 dX11_shapeOf_35
    · skip
      have c17 := l_eq (Eq.refl u8.toInt) (show ((-100000) : Int64).toInt = -100000 by decide) c17
      refine lv_lconst (v := 0) hx hb dX11_shapeOf_28 (by decide) ?_
      refine lv_goto (tgt := 35) hx hb dX11_shapeOf_29 (by decide) ?_
      refine W.widen (k := 0) (n := 0) (Nat.le_of_ble_eq_true rfl) (Nat.le_of_ble_eq_true rfl) ?_
      have zl0 : (0 : Int64).toInt = 0 := by decide
      exact W.lret (v := 0) hx hb hr (fun t ht hW => ⟨⟨(0, u9, u10), rfl, trivial, CB.mk ht hP hD⟩, hS.F ht⟩) hS.2.2 dX11_shapeOf_35
set_option maxHeartbeats 4000000 in
set_option maxRecDepth 100000 in
theorem m_shiftOf (l : Launch) (D : va_G) (Y : Nat → ClassId) (Z : Nat → Nat) (sz : Nat) (o : Nat) (a : Nat → Nat) (I : Nat → Int32) (J : Nat → Int64) (F : Nat → Nat → Int32) (G : Nat → Nat → Int64) (p1 : Int32) (hk_0 : (2 ≤ (I 34).toInt ∧ (I 34).toInt ≤ 200)) (hk_1 : (1 ≤ (I 35).toInt ∧ (I 35).toInt ≤ 10)) (hk_2 : (0 ≤ (I 36).toInt ∧ (I 36).toInt ≤ 199)) (hk_3 : ((I 36).toInt < (I 34).toInt)) (hk_4 : (-1 ≤ p1.toInt ∧ p1.toInt ≤ 640)) : Met l yX11_shiftOf (.code yX11_shiftOf cX11_shiftOf 13 (some .int) :: GW) ({ frames := 2, cells := 0, slots := 0, locals := 41 }) (va_Pc [.ref o, .int p1] (CP D Y Z (MW Y o a I J F G) sz)) (QG (S := Int32) (fun u => some (.int u)) (fun u => (-100 ≤ u.toInt ∧ u.toInt ≤ 3)) (fun u => CB D (MW Y o a I J F G) (va_A (MW Y o a I J F G) sz)) (va_A (MW Y o a I J F G) sz)) 0 0 (va_A (MW Y o a I J F G) sz) := by
  refine Met.ofW (cc := cX11_shiftOf) (maxL := 13) (ret := (some .int)) (by decide) rfl ?_
  intro p e s m args below meth c s₁ B hml hv
  obtain ⟨rfl, hsz, hP, hKN, hD0⟩ := hv
  have hx := B.exec
  have hb := B.bytes
  have hr := B.returns
  have hts := atoms_spec (ws := .code yX11_shiftOf cX11_shiftOf 13 (some .int) :: GW) B.pre
  have hg : ∀ w ∈ GW, w.before _ s = true := fun w h => hts w (List.mem_cons_of_mem _ h)
  have hown : s.vm.findClass RX11 = some m.cls := findClass_of_methodNamed B.named
  have hlocks := B.notSynchronized
  subst hsz
  have hD := hD0.self (sz := s.heap.size)
  generalize hAe : va_A (MW Y o a I J F G) s.heap.size = A at hD ⊢
  have hA : ∀ q : Nat, s.heap.size ≤ q → A q := fun q h => by rw [← hAe]; exact Or.inr h
  clear hAe hD0 hts B
  have hl := lv_entry ([.ref o, .int p1]) (n := 13) (Nat.le_of_ble_eq_true rfl)
  rw [lg_entry_eq]
  generalize (lg_sl ([.ref o, .int p1]) ++ List.replicate (13 - (lg_sl ([.ref o, .int p1])).length) Slot.unset).toArray = ls at hl ⊢
  have hl : lv_has ls 13 [(0, .ref o), (1, .int p1)] := hl
  refine w_start (A0 := A) hP (fun H locs hP hS => ?_)
  refine lv_bipush (v := (-100)) hx hb dX11_shiftOf_0 (by decide) ?_
  refine lv_istore_n (lv' := [(2, .int (-100)), (0, .ref o), (1, .int p1)]) hx hb dX11_shiftOf_2 rfl hl (by decide) rfl (fun ls hl => ?_)
  refine lv_lconst (v := 0) hx hb dX11_shiftOf_3 (by decide) ?_
  refine lv_lstore_n (lv' := [(3, .long 0), (2, .int (-100)), (0, .ref o), (1, .int p1)]) hx hb dX11_shiftOf_4 rfl hl (by decide) rfl (fun ls hl => ?_)
  refine lv_iconst (v := 0) hx hb dX11_shiftOf_5 (by decide) ?_
  refine lv_istore (lv' := [(5, .int 0), (3, .long 0), (2, .int (-100)), (0, .ref o), (1, .int p1)]) hx hb dX11_shiftOf_6 hl (by decide) rfl (fun ls hl => ?_)
  refine lv_iconst (v := 0) hx hb dX11_shiftOf_8 (by decide) ?_
  refine lv_istore (lv' := [(6, .int 0), (5, .int 0), (3, .long 0), (2, .int (-100)), (0, .ref o), (1, .int p1)]) hx hb dX11_shiftOf_9 hl (by decide) rfl (fun ls hl => ?_)
  have zi0 : (0 : Int32).toInt = 0 := by decide
  have zl0 : (0 : Int64).toInt = 0 := by decide
  have zim100 : ((-100) : Int32).toInt = -100 := by decide
  refine w_loop (σ := Int32 × Int32 × Int64 × Int32) (fun xx H locs ls => match xx with | (g327, g328, g329, g330) => va_P D vwCl (MW Y o a I J F G) H ∧ va_D A (MW Y o a I J F G) ∧ va_S A s.heap H locs ∧ lv_has ls 13 [(6, .int g327), (5, .int g328), (3, .long g329), (2, .int g330), (0, .ref o), (1, .int p1)] ∧ (0 ≤ g327.toInt ∧ g327.toInt ≤ 7) ∧ (-100 ≤ g330.toInt ∧ g330.toInt ≤ 3)) (fun xx => match xx with | (g327, g328, g329, g330) => (7 - g327.toInt).toNat) (0, 0, 0, (-100)) ⟨hP, hD, hS, lv_sub hl [0, 1, 2, 3, 4, 5] rfl, by omega, by omega⟩ (fun xx H locs ls hI ih => ?_)
  obtain ⟨g327, g328, g329, g330⟩ := xx
  obtain ⟨hP, hD, hS, hl, hq701, hq702⟩ := hI
  have ih703 := ih
  refine lv_iload hx hb dX11_shiftOf_11 (lv_at hl 0 rfl) ?_
  refine lv_bipush (v := 7) hx hb dX11_shiftOf_13 (by decide) ?_
  refine lv_icmp_ge (tgt := 157) hx hb dX11_shiftOf_15 (by decide) (fun c889 => ?_) (fun c889 => ?_)
  · skip
    have c889 := i_le (show (7 : Int32).toInt = 7 by decide) (Eq.refl g327.toInt) c889
    refine lv_iload_n hx hb dX11_shiftOf_157 rfl (lv_at hl 3 rfl) ?_
    refine W.widen (k := 0) (n := 0) (Nat.le_of_ble_eq_true rfl) (Nat.le_of_ble_eq_true rfl) ?_
    exact W.iret (v := g330) hx hb hr (fun t ht hW => ⟨⟨g330, rfl, ((show (-100 ≤ g330.toInt ∧ g330.toInt ≤ 3) by omega)), CB.mk ht hP hD⟩, hS.F ht⟩) hS.2.2 dX11_shiftOf_158
  · skip
    have c889 := i_nle (show (7 : Int32).toInt = 7 by decide) (Eq.refl g327.toInt) c889
    refine lv_iload hx hb dX11_shiftOf_18 (lv_at hl 0 rfl) ?_
    refine lv_iconst (v := 2) hx hb dX11_shiftOf_20 (by decide) ?_
    have zi2 : (2 : Int32).toInt = 2 := by decide
    refine lv_irem hx hb dX11_shiftOf_21 (i_nz (show (2 : Int32).toInt = 2 by decide) (by omega)) ?_
    refine lv_topi (fun v890 ev890 => ?_)
    have hv890 := i_rem (Eq.refl g327.toInt) (show (2 : Int32).toInt = 2 by decide) ev890 (by omega) (by omega)
    refine w_join (σ := Int32) (pcJ := 39) (kJ := 0) (nJ := 0) (stk := fun xx => match xx with | g896 => [.int g896]) (fun xx H locs ls => match xx with | g896 => va_P D vwCl (MW Y o a I J F G) H ∧ va_D A (MW Y o a I J F G) ∧ va_S A s.heap H locs ∧ lv_has ls 13 [(6, .int g327), (5, .int g328), (3, .long g329), (2, .int g330), (0, .ref o), (1, .int p1)] ∧ (-4 ≤ g896.toInt ∧ g896.toInt ≤ 3)) (fun xx H locs ls hI => ?_) (fun jn897 => ?_)
    · skip
      revert hI
      generalize xx = g896
      intro hI
      obtain ⟨hP, hD, hS, hl, hq898⟩ := hI
      refine W.eq (g2 := F0 m 39 ls [.int g896]) rfl ?_
      refine lv_istore (lv' := [(7, .int g896), (6, .int g327), (5, .int g328), (3, .long g329), (2, .int g330), (0, .ref o), (1, .int p1)]) hx hb dX11_shiftOf_39 hl (by decide) rfl (fun ls hl => ?_)
      refine lv_lconst (v := 0) hx hb dX11_shiftOf_41 (by decide) ?_
      refine lv_lstore (lv' := [(8, .long 0), (7, .int g896), (6, .int g327), (5, .int g328), (3, .long g329), (2, .int g330), (0, .ref o), (1, .int p1)]) hx hb dX11_shiftOf_42 hl (by decide) rfl (fun ls hl => ?_)
      refine lv_iconst (v := 0) hx hb dX11_shiftOf_44 (by decide) ?_
      refine lv_istore (lv' := [(10, .int 0), (8, .long 0), (7, .int g896), (6, .int g327), (5, .int g328), (3, .long g329), (2, .int g330), (0, .ref o), (1, .int p1)]) hx hb dX11_shiftOf_45 hl (by decide) rfl (fun ls hl => ?_)
      refine lv_aload_n hx hb dX11_shiftOf_47 rfl (lv_at hl 7 rfl) ?_
      refine va_get (D := D) (ci := 11) (v := .int (I 36)) (C := RX11) (T := TX11) (N := 49) hx hb hg inGX11 hown hKN.1 hP 0 rfl rfl 36 (by decide) (hg _ kw_1244) (fun _ h9 => h9) rfl dX11_shiftOf_48 ?_
      refine lv_iload_n hx hb dX11_shiftOf_51 rfl (lv_at hl 8 rfl) ?_
      refine lv_aload_n hx hb dX11_shiftOf_52 rfl (lv_at hl 7 rfl) ?_
      refine va_get (D := D) (ci := 11) (v := .int (I 34)) (C := RX11) (T := TX11) (N := 49) hx hb hg inGX11 hown hKN.1 hP 0 rfl rfl 34 (by decide) (hg _ kw_1242) (fun _ h9 => h9) rfl dX11_shiftOf_53 ?_
      refine lv_imul hx hb dX11_shiftOf_56 ?_
      refine lv_topi (fun v899 ev899 => ?_)
      have hv899 := i_mulR (a := -1) (b := 640) (c := 2) (d := 200) (lo := -200) (hi := 128000) (Eq.refl p1.toInt) (Eq.refl (I 34).toInt) ev899 (by omega) (by omega) (by decide) (by decide)
      refine lv_iadd hx hb dX11_shiftOf_57 ?_
      refine lv_topi (fun v900 ev900 => ?_)
      have hv900 := i_add (Eq.refl (I 36).toInt) (Eq.refl v899.toInt) ev900 (by omega) (by omega)
      refine lv_iload hx hb dX11_shiftOf_58 (lv_at hl 2 rfl) ?_
      refine lv_iadd hx hb dX11_shiftOf_60 ?_
      refine lv_topi (fun v901 ev901 => ?_)
      have hv901 := i_add (Eq.refl v900.toInt) (Eq.refl g896.toInt) ev901 (by omega) (by omega)
      refine lv_istore (lv' := [(11, .int v901), (10, .int 0), (8, .long 0), (7, .int g896), (6, .int g327), (5, .int g328), (3, .long g329), (2, .int g330), (0, .ref o), (1, .int p1)]) hx hb dX11_shiftOf_61 hl (by decide) rfl (fun ls hl => ?_)
      refine lv_iload hx hb dX11_shiftOf_63 (lv_at hl 0 rfl) ?_
      refine lv_istore (lv' := [(12, .int v901), (11, .int v901), (10, .int 0), (8, .long 0), (7, .int g896), (6, .int g327), (5, .int g328), (3, .long g329), (2, .int g330), (0, .ref o), (1, .int p1)]) hx hb dX11_shiftOf_65 hl (by decide) rfl (fun ls hl => ?_)
      have zi0 : (0 : Int32).toInt = 0 := by decide
      have zl0 : (0 : Int64).toInt = 0 := by decide
      refine w_loop (σ := Int32 × Int32 × Int64) (fun xx H locs ls => match xx with | (g945, g946, g947) => va_P D vwCl (MW Y o a I J F G) H ∧ va_D A (MW Y o a I J F G) ∧ va_S A s.heap H locs ∧ lv_has ls 13 [(12, .int g945), (11, .int v901), (10, .int g946), (8, .long g947), (7, .int g896), (6, .int g327), (5, .int g328), (3, .long g329), (2, .int g330), (0, .ref o), (1, .int p1)] ∧ (v901.toInt ≤ g945.toInt) ∧ (-500 ≤ g945.toInt ∧ g945.toInt ≤ 200000)) (fun xx => match xx with | (g945, g946, g947) => (v901.toInt + (I 35).toInt - g945.toInt + 20).toNat) (v901, 0, 0) ⟨hP, hD, hS, lv_sub hl [0, 1, 2, 3, 4, 5, 6, 7, 8, 9, 10] rfl, by omega, by omega⟩ (fun xx H locs ls hI ih => ?_)
      obtain ⟨g945, g946, g947⟩ := xx
      obtain ⟨hP, hD, hS, hl, hq995, hq996⟩ := hI
      have ih997 := ih
      refine lv_iload hx hb dX11_shiftOf_67 (lv_at hl 0 rfl) ?_
      refine lv_iload hx hb dX11_shiftOf_69 (lv_at hl 1 rfl) ?_
      refine lv_aload_n hx hb dX11_shiftOf_71 rfl (lv_at hl 9 rfl) ?_
      refine va_get (D := D) (ci := 11) (v := .int (I 35)) (C := RX11) (T := TX11) (N := 49) hx hb hg inGX11 hown hKN.1 hP 0 rfl rfl 35 (by decide) (hg _ kw_1243) (fun _ h9 => h9) rfl dX11_shiftOf_72 ?_
      refine lv_iadd hx hb dX11_shiftOf_75 ?_
      refine lv_topi (fun v998 ev998 => ?_)
      have hv998 := i_add (Eq.refl v901.toInt) (Eq.refl (I 35).toInt) ev998 (by omega) (by omega)
      refine lv_icmp_ge (tgt := 113) hx hb dX11_shiftOf_76 (by decide) (fun c1022 => ?_) (fun c1022 => ?_)
      · skip
        have c1022 := i_le (Eq.refl v998.toInt) (Eq.refl g945.toInt) c1022
        refine lv_iload hx hb dX11_shiftOf_113 (lv_at hl 2 rfl) ?_
        refine w_join (σ := Int32 × Int64 × Int32) (pcJ := 151) (kJ := 0) (nJ := 0) (stk := fun xx => match xx with | (g1032, g1033, g1034) => []) (fun xx H locs ls => match xx with | (g1032, g1033, g1034) => va_P D vwCl (MW Y o a I J F G) H ∧ va_D A (MW Y o a I J F G) ∧ va_S A s.heap H locs ∧ lv_has ls 13 [(12, .int g945), (11, .int v901), (10, .int g946), (8, .long g947), (7, .int g896), (6, .int g327), (5, .int g1032), (3, .long g1033), (2, .int g1034), (0, .ref o), (1, .int p1)] ∧ (-100 ≤ g1034.toInt ∧ g1034.toInt ≤ 3)) (fun xx H locs ls hI => ?_) (fun jn1035 => ?_)
        · skip
          obtain ⟨g1032, g1033, g1034⟩ := xx
          obtain ⟨hP, hD, hS, hl, hq1036⟩ := hI
          refine W.eq (g2 := F0 m 151 ls []) rfl ?_
          obtain ⟨v1037, ev1037⟩ : ∃ y : Int32, y = g327 + 1 := ⟨_, rfl⟩
          have hv1037 := i_add (Eq.refl g327.toInt) (show (1 : Int32).toInt = 1 by decide) ev1037 (by omega) (by omega)
          refine lv_iinc (v := v1037) (lv' := [(6, .int v1037), (12, .int g945), (11, .int v901), (10, .int g946), (8, .long g947), (7, .int g896), (5, .int g1032), (3, .long g1033), (2, .int g1034), (0, .ref o), (1, .int p1)]) hx hb dX11_shiftOf_151 hl (k := 5) rfl (by rw [ev1037]; rfl) (by decide) rfl (fun ls hl => ?_)
          refine lv_goto (tgt := 11) hx hb dX11_shiftOf_154 (by decide) ?_
          exact ih703 (v1037, g1032, g1033, g1034) H locs ls (by show (7 - v1037.toInt).toNat < (7 - g327.toInt).toNat; omega) ⟨hP, hD, hS, lv_sub hl [0, 6, 7, 8, 9, 10] rfl, by omega, by omega⟩
        · skip
          have j1038 := rgI g946
          refine lv_if_eq (tgt := 151) hx hb dX11_shiftOf_115 (by decide) (fun c1039 => ?_) (fun c1039 => ?_)
          · skip
            have c1039 := i_eq (Eq.refl g946.toInt) (show (0 : Int32).toInt = 0 by decide) c1039
            refine W.widen (k := 0) (n := 0) (Nat.le_of_ble_eq_true rfl) (Nat.le_of_ble_eq_true rfl) ?_
            exact jn1035 (g328, g329, g330) H locs ls ⟨hP, hD, hS, lv_sub hl [0, 1, 2, 3, 4, 5, 6, 7, 8, 9, 10] rfl, by omega⟩
          · skip
            have c1039 := i_ne (Eq.refl g946.toInt) (show (0 : Int32).toInt = 0 by decide) c1039
            refine lv_iload hx hb dX11_shiftOf_118 (lv_at hl 6 rfl) ?_
            have j1040 := rgI g328
            refine lv_if_le (tgt := 141) hx hb dX11_shiftOf_120 (by decide) (fun c1041 => ?_) (fun c1041 => ?_)
            · skip
              have c1041 := i_le (Eq.refl g328.toInt) (show (0 : Int32).toInt = 0 by decide) c1041
              refine lv_iload hx hb dX11_shiftOf_141 (lv_at hl 4 rfl) ?_
              refine lv_istore_n (lv' := [(2, .int g896), (12, .int g945), (11, .int v901), (10, .int g946), (8, .long g947), (7, .int g896), (6, .int g327), (5, .int g328), (3, .long g329), (0, .ref o), (1, .int p1)]) hx hb dX11_shiftOf_143 rfl hl (by decide) rfl (fun ls hl => ?_)
              refine lv_lload hx hb dX11_shiftOf_144 (lv_at hl 4 rfl) ?_
              refine lv_lstore_n (lv' := [(3, .long g947), (2, .int g896), (12, .int g945), (11, .int v901), (10, .int g946), (8, .long g947), (7, .int g896), (6, .int g327), (5, .int g328), (0, .ref o), (1, .int p1)]) hx hb dX11_shiftOf_146 rfl hl (by decide) rfl (fun ls hl => ?_)
              refine lv_iload hx hb dX11_shiftOf_147 (lv_at hl 4 rfl) ?_
              refine lv_istore (lv' := [(5, .int g946), (3, .long g947), (2, .int g896), (12, .int g945), (11, .int v901), (10, .int g946), (8, .long g947), (7, .int g896), (6, .int g327), (0, .ref o), (1, .int p1)]) hx hb dX11_shiftOf_149 hl (by decide) rfl (fun ls hl => ?_)
              refine W.widen (k := 0) (n := 0) (Nat.le_of_ble_eq_true rfl) (Nat.le_of_ble_eq_true rfl) ?_
              exact jn1035 (g946, g947, g896) H locs ls ⟨hP, hD, hS, lv_sub hl [3, 4, 5, 6, 7, 8, 0, 1, 2, 9, 10] rfl, by omega⟩
            · skip
              have c1041 := i_nle (Eq.refl g328.toInt) (show (0 : Int32).toInt = 0 by decide) c1041
              refine lv_lload hx hb dX11_shiftOf_123 (lv_at hl 3 rfl) ?_
              refine lv_iload hx hb dX11_shiftOf_125 (lv_at hl 6 rfl) ?_
              have j1042 := Int32.toInt_toInt64 g328
              refine lv_i2l (v := g328.toInt64) hx hb dX11_shiftOf_127 (rfl) ?_
              refine lv_lmul hx hb dX11_shiftOf_128 ?_
              refine lv_topl (fun v1043 ev1043 => ?_)
              refine lv_lload_n hx hb dX11_shiftOf_129 rfl (lv_at hl 7 rfl) ?_
              refine lv_iload hx hb dX11_shiftOf_130 (lv_at hl 2 rfl) ?_
              have j1044 := Int32.toInt_toInt64 g946
              refine lv_i2l (v := g946.toInt64) hx hb dX11_shiftOf_132 (rfl) ?_
              refine lv_lmul hx hb dX11_shiftOf_133 ?_
              refine lv_topl (fun v1045 ev1045 => ?_)
              refine W.lcmp hx hb dX11_shiftOf_134 ?_
              refine lv_if_lt (tgt := 141) hx hb dX11_shiftOf_135 (by decide) (fun c1046 => ?_) (fun c1046 => ?_)
              · skip
                have c1046 := l_lt (Eq.refl v1043.toInt) (Eq.refl v1045.toInt) c1046
                refine lv_iload hx hb dX11_shiftOf_141 (lv_at hl 4 rfl) ?_
                refine lv_istore_n (lv' := [(2, .int g896), (12, .int g945), (11, .int v901), (10, .int g946), (8, .long g947), (7, .int g896), (6, .int g327), (5, .int g328), (3, .long g329), (0, .ref o), (1, .int p1)]) hx hb dX11_shiftOf_143 rfl hl (by decide) rfl (fun ls hl => ?_)
                refine lv_lload hx hb dX11_shiftOf_144 (lv_at hl 4 rfl) ?_
                refine lv_lstore_n (lv' := [(3, .long g947), (2, .int g896), (12, .int g945), (11, .int v901), (10, .int g946), (8, .long g947), (7, .int g896), (6, .int g327), (5, .int g328), (0, .ref o), (1, .int p1)]) hx hb dX11_shiftOf_146 rfl hl (by decide) rfl (fun ls hl => ?_)
                refine lv_iload hx hb dX11_shiftOf_147 (lv_at hl 4 rfl) ?_
                refine lv_istore (lv' := [(5, .int g946), (3, .long g947), (2, .int g896), (12, .int g945), (11, .int v901), (10, .int g946), (8, .long g947), (7, .int g896), (6, .int g327), (0, .ref o), (1, .int p1)]) hx hb dX11_shiftOf_149 hl (by decide) rfl (fun ls hl => ?_)
                refine W.widen (k := 0) (n := 0) (Nat.le_of_ble_eq_true rfl) (Nat.le_of_ble_eq_true rfl) ?_
                exact jn1035 (g946, g947, g896) H locs ls ⟨hP, hD, hS, lv_sub hl [3, 4, 5, 6, 7, 8, 0, 1, 2, 9, 10] rfl, by omega⟩
              · skip
                have c1046 := l_nlt (Eq.refl v1043.toInt) (Eq.refl v1045.toInt) c1046
                refine lv_goto (tgt := 151) hx hb dX11_shiftOf_138 (by decide) ?_
                refine W.widen (k := 0) (n := 0) (Nat.le_of_ble_eq_true rfl) (Nat.le_of_ble_eq_true rfl) ?_
                exact jn1035 (g328, g329, g330) H locs ls ⟨hP, hD, hS, lv_sub hl [0, 1, 2, 3, 4, 5, 6, 7, 8, 9, 10] rfl, by omega⟩
      · skip
        have c1022 := i_nle (Eq.refl v998.toInt) (Eq.refl g945.toInt) c1022
        refine lv_aload_n hx hb dX11_shiftOf_79 rfl (lv_at hl 9 rfl) ?_
        refine lv_iload hx hb dX11_shiftOf_80 (lv_at hl 0 rfl) ?_
        refine cga (rn_V (As := [.int g945]) (rest := []) (b := o) (m_isNumber l D Y Z H.size o a I J F G  g945 ) ⟨hx, hb, hml, hown, hg⟩ lk_X11_409 ⟨CP.blind, va_recv hKN.1 hP (ci := 11) (q0 := 0) rfl rfl, CP.at hP hKN hD⟩ ⟨⟨rfl, rfl⟩, ⟨Nat.le_of_ble_eq_true rfl, Nat.le_of_ble_eq_true rfl⟩, ⟨Nat.le_of_ble_eq_true rfl, Nat.le_of_ble_eq_true rfl⟩⟩ hl.1 rfl (Nat.le_of_ble_eq_true rfl) dX11_shiftOf_82) hP hD hS hA (fun u1047 H locs w1048 hP hD hS => ?_)
        have w1048 : ((0 ≤ g945.toInt ∧ g945.toInt ≤ 599 ∧ u1047.toInt = 1 ∧ ((F 28) g945.toNatClampNeg).toInt ≠ -100000) ∨ (u1047.toInt = 0 ∧ (0 ≤ g945.toInt → g945.toInt ≤ 599 → ((F 28) g945.toNatClampNeg).toInt = -100000))) ∧ (0 ≤ u1047.toInt ∧ u1047.toInt ≤ 1) := w1048
        obtain ⟨hw1050, hw1051⟩ := w1048
        refine W.eq (g2 := F0 m 85 ls [.int u1047]) rfl ?_
        have hP : va_P D vwCl (MW Y o a I J F G) H := hP
        have hD : va_D A (MW Y o a I J F G) := hD
        rcases (show u1047.toInt = 1 ∨ u1047.toInt = 0 by omega) with c1052 | c1052
        · obtain rfl : u1047 = 1 := i_is c1052 (by decide)
          have zi1 : (1 : Int32).toInt = 1 := by decide
          refine W.eq (g2 := F0 m 85 ls [.int 1]) rfl ?_
          refine lv_if_ne (tgt := 91) hx hb dX11_shiftOf_85 (by decide) (fun c1059 => ?_) (fun c1059 => ?_)
          rotate_left
          · exact absurd c1059 (by decide)
          refine lv_lload hx hb dX11_shiftOf_91 (lv_at hl 3 rfl) ?_
          refine lv_aload_n hx hb dX11_shiftOf_93 rfl (lv_at hl 9 rfl) ?_
          refine va_get (D := D) (ci := 11) (v := .ref (a 28)) (C := RX11) (T := TX11) (N := 49) hx hb hg inGX11 hown hKN.1 hP 0 rfl rfl 28 (by decide) (hg _ kw_1236) (fun _ h9 => h9) rfl dX11_shiftOf_94 ?_
          refine lv_iload hx hb dX11_shiftOf_97 (lv_at hl 0 rfl) ?_
          refine va_iald hx hb hKN.1 hP 19 0 rfl rfl (vp_in_iff.mpr ⟨by omega, by omega⟩) dX11_shiftOf_99 ?_
          refine lv_topi (fun v1060 ev1060 => ?_)
          have ev1060 : v1060 = (F 28) g945.toNatClampNeg := ev1060
          have qv1060 := congrArg Int32.toInt ev1060
          have j1061 := rgI v1060
          have j1062 := Int32.toInt_toInt64 v1060
          refine lv_i2l (v := v1060.toInt64) hx hb dX11_shiftOf_100 (rfl) ?_
          refine lv_ladd hx hb dX11_shiftOf_101 ?_
          refine lv_topl (fun v1063 ev1063 => ?_)
          refine lv_lstore (lv' := [(8, .long v1063), (12, .int g945), (11, .int v901), (10, .int g946), (7, .int g896), (6, .int g327), (5, .int g328), (3, .long g329), (2, .int g330), (0, .ref o), (1, .int p1)]) hx hb dX11_shiftOf_102 hl (by decide) rfl (fun ls hl => ?_)
          obtain ⟨v1064, ev1064⟩ : ∃ y : Int32, y = g946 + 1 := ⟨_, rfl⟩
          refine lv_iinc (v := v1064) (lv' := [(10, .int v1064), (8, .long v1063), (12, .int g945), (11, .int v901), (7, .int g896), (6, .int g327), (5, .int g328), (3, .long g329), (2, .int g330), (0, .ref o), (1, .int p1)]) hx hb dX11_shiftOf_104 hl (k := 3) rfl (by rw [ev1064]; rfl) (by decide) rfl (fun ls hl => ?_)
          obtain ⟨v1065, ev1065⟩ : ∃ y : Int32, y = g945 + 1 := ⟨_, rfl⟩
          have hv1065 := i_add (Eq.refl g945.toInt) (show (1 : Int32).toInt = 1 by decide) ev1065 (by omega) (by omega)
          refine lv_iinc (v := v1065) (lv' := [(12, .int v1065), (10, .int v1064), (8, .long v1063), (11, .int v901), (7, .int g896), (6, .int g327), (5, .int g328), (3, .long g329), (2, .int g330), (0, .ref o), (1, .int p1)]) hx hb dX11_shiftOf_107 hl (k := 2) rfl (by rw [ev1065]; rfl) (by decide) rfl (fun ls hl => ?_)
          refine lv_goto (tgt := 67) hx hb dX11_shiftOf_110 (by decide) ?_
          exact ih997 (v1065, v1064, v1063) H locs ls (by show (v901.toInt + (I 35).toInt - v1065.toInt + 20).toNat < (v901.toInt + (I 35).toInt - g945.toInt + 20).toNat; omega) ⟨hP, hD, hS, lv_sub hl [0, 3, 1, 2, 4, 5, 6, 7, 8, 9, 10] rfl, by omega, by omega⟩
        · obtain rfl : u1047 = 0 := i_is c1052 (by decide)
          have zi0 : (0 : Int32).toInt = 0 := by decide
          refine W.eq (g2 := F0 m 85 ls [.int 0]) rfl ?_
          refine lv_if_ne (tgt := 91) hx hb dX11_shiftOf_85 (by decide) (fun c1067 => ?_) (fun c1067 => ?_)
          · exact absurd c1067 (by decide)
          refine lv_goto (tgt := 107) hx hb dX11_shiftOf_88 (by decide) ?_
          obtain ⟨v1068, ev1068⟩ : ∃ y : Int32, y = g945 + 1 := ⟨_, rfl⟩
          have hv1068 := i_add (Eq.refl g945.toInt) (show (1 : Int32).toInt = 1 by decide) ev1068 (by omega) (by omega)
          refine lv_iinc (v := v1068) (lv' := [(12, .int v1068), (11, .int v901), (10, .int g946), (8, .long g947), (7, .int g896), (6, .int g327), (5, .int g328), (3, .long g329), (2, .int g330), (0, .ref o), (1, .int p1)]) hx hb dX11_shiftOf_107 hl (k := 0) rfl (by rw [ev1068]; rfl) (by decide) rfl (fun ls hl => ?_)
          refine lv_goto (tgt := 67) hx hb dX11_shiftOf_110 (by decide) ?_
          exact ih997 (v1068, g946, g947) H locs ls (by show (v901.toInt + (I 35).toInt - v1068.toInt + 20).toNat < (v901.toInt + (I 35).toInt - g945.toInt + 20).toNat; omega) ⟨hP, hD, hS, lv_sub hl [0, 1, 2, 3, 4, 5, 6, 7, 8, 9, 10] rfl, by omega, by omega⟩
    · skip
      refine lv_if_ne (tgt := 32) hx hb dX11_shiftOf_22 (by decide) (fun c1069 => ?_) (fun c1069 => ?_)
      · skip
        have c1069 := i_ne (Eq.refl v890.toInt) (show (0 : Int32).toInt = 0 by decide) c1069
        refine lv_iload hx hb dX11_shiftOf_32 (lv_at hl 0 rfl) ?_
        refine lv_iconst (v := 2) hx hb dX11_shiftOf_34 (by decide) ?_
        refine lv_idiv hx hb dX11_shiftOf_35 (i_nz (show (2 : Int32).toInt = 2 by decide) (by omega)) ?_
        refine lv_topi (fun v1070 ev1070 => ?_)
        have hv1070 := i_div (Eq.refl g327.toInt) (show (2 : Int32).toInt = 2 by decide) ev1070 (by omega) (by omega)
        refine lv_ineg hx hb dX11_shiftOf_36 ?_
        refine lv_topi (fun v1071 ev1071 => ?_)
        have hv1071 := i_neg (Eq.refl v1070.toInt) ev1071 (by omega) (by omega)
        refine lv_iconst (v := 1) hx hb dX11_shiftOf_37 (by decide) ?_
        refine lv_isub hx hb dX11_shiftOf_38 ?_
        refine lv_topi (fun v1072 ev1072 => ?_)
        have hv1072 := i_sub (Eq.refl v1071.toInt) (show (1 : Int32).toInt = 1 by decide) ev1072 (by omega) (by omega)
        refine W.widen (k := 0) (n := 0) (Nat.le_of_ble_eq_true rfl) (Nat.le_of_ble_eq_true rfl) ?_
        exact jn897 (v1072) H locs ls ⟨hP, hD, hS, lv_sub hl [0, 1, 2, 3, 4, 5] rfl, by omega⟩
      · skip
        have c1069 := i_eq (Eq.refl v890.toInt) (show (0 : Int32).toInt = 0 by decide) c1069
        refine lv_iload hx hb dX11_shiftOf_25 (lv_at hl 0 rfl) ?_
        refine lv_iconst (v := 2) hx hb dX11_shiftOf_27 (by decide) ?_
        refine lv_idiv hx hb dX11_shiftOf_28 (i_nz (show (2 : Int32).toInt = 2 by decide) (by omega)) ?_
        refine lv_topi (fun v1073 ev1073 => ?_)
        have hv1073 := i_div (Eq.refl g327.toInt) (show (2 : Int32).toInt = 2 by decide) ev1073 (by omega) (by omega)
        refine lv_goto (tgt := 39) hx hb dX11_shiftOf_29 (by decide) ?_
        refine W.widen (k := 0) (n := 0) (Nat.le_of_ble_eq_true rfl) (Nat.le_of_ble_eq_true rfl) ?_
        exact jn897 (v1073) H locs ls ⟨hP, hD, hS, lv_sub hl [0, 1, 2, 3, 4, 5] rfl, by omega⟩
set_option maxHeartbeats 4000000 in
set_option maxRecDepth 100000 in
theorem m_lateness (l : Launch) (D : va_G) (Y : Nat → ClassId) (Z : Nat → Nat) (sz : Nat) (o : Nat) (a : Nat → Nat) (I : Nat → Int32) (J : Nat → Int64) (F : Nat → Nat → Int32) (G : Nat → Nat → Int64) (hk_0 : (2 ≤ (I 34).toInt ∧ (I 34).toInt ≤ 200)) (hk_1 : (1 ≤ (I 35).toInt ∧ (I 35).toInt ≤ 10)) (hk_2 : (0 ≤ (I 36).toInt ∧ (I 36).toInt ≤ 199)) (hk_3 : ((I 36).toInt < (I 34).toInt)) : Met l yX11_lateness (.code yX11_lateness cX11_lateness 5 (some .int) :: GW) ({ frames := 3, cells := 0, slots := 0, locals := 73 }) (va_Pc [.ref o] (CP D Y Z (MW Y o a I J F G) sz)) (QG (S := Int32) (fun u => some (.int u)) (fun u => True) (fun u => CB D (MW Y o a I J F G) (va_A (MW Y o a I J F G) sz)) (va_A (MW Y o a I J F G) sz)) 0 0 (va_A (MW Y o a I J F G) sz) := by
  refine Met.ofW (cc := cX11_lateness) (maxL := 5) (ret := (some .int)) (by decide) rfl ?_
  intro p e s m args below meth c s₁ B hml hv
  obtain ⟨rfl, hsz, hP, hKN, hD0⟩ := hv
  have hx := B.exec
  have hb := B.bytes
  have hr := B.returns
  have hts := atoms_spec (ws := .code yX11_lateness cX11_lateness 5 (some .int) :: GW) B.pre
  have hg : ∀ w ∈ GW, w.before _ s = true := fun w h => hts w (List.mem_cons_of_mem _ h)
  have hown : s.vm.findClass RX11 = some m.cls := findClass_of_methodNamed B.named
  have hlocks := B.notSynchronized
  subst hsz
  have hD := hD0.self (sz := s.heap.size)
  generalize hAe : va_A (MW Y o a I J F G) s.heap.size = A at hD ⊢
  have hA : ∀ q : Nat, s.heap.size ≤ q → A q := fun q h => by rw [← hAe]; exact Or.inr h
  clear hAe hD0 hts B
  have hl := lv_entry ([.ref o]) (n := 5) (Nat.le_of_ble_eq_true rfl)
  rw [lg_entry_eq]
  generalize (lg_sl ([.ref o]) ++ List.replicate (5 - (lg_sl ([.ref o])).length) Slot.unset).toArray = ls at hl ⊢
  have hl : lv_has ls 5 [(0, .ref o)] := hl
  refine w_start (A0 := A) hP (fun H locs hP hS => ?_)
  refine lv_bipush (v := 9) hx hb dX11_lateness_0 (by decide) ?_
  refine lv_istore_n (lv' := [(1, .int 9), (0, .ref o)]) hx hb dX11_lateness_2 rfl hl (by decide) rfl (fun ls hl => ?_)
  refine lv_bipush (v := (-9)) hx hb dX11_lateness_3 (by decide) ?_
  refine lv_istore_n (lv' := [(2, .int (-9)), (1, .int 9), (0, .ref o)]) hx hb dX11_lateness_5 rfl hl (by decide) rfl (fun ls hl => ?_)
  refine lv_iconst (v := (-1)) hx hb dX11_lateness_6 (by decide) ?_
  refine lv_istore_n (lv' := [(3, .int (-1)), (2, .int (-9)), (1, .int 9), (0, .ref o)]) hx hb dX11_lateness_7 rfl hl (by decide) rfl (fun ls hl => ?_)
  have zim1 : ((-1) : Int32).toInt = -1 := by decide
  have zim9 : ((-9) : Int32).toInt = -9 := by decide
  have zi9 : (9 : Int32).toInt = 9 := by decide
  refine w_loop (σ := Int32 × Int32 × Int32) (fun xx H locs ls => match xx with | (g71, g72, g73) => va_P D vwCl (MW Y o a I J F G) H ∧ va_D A (MW Y o a I J F G) ∧ va_S A s.heap H locs ∧ lv_has ls 5 [(3, .int g71), (2, .int g72), (1, .int g73), (0, .ref o)] ∧ (-1 ≤ g71.toInt ∧ g71.toInt ≤ 600) ∧ (-100 ≤ g73.toInt ∧ g73.toInt ≤ 9) ∧ (-100 ≤ g72.toInt ∧ g72.toInt ≤ 9)) (fun xx => match xx with | (g71, g72, g73) => (602 - g71.toInt).toNat) ((-1), (-9), 9) ⟨hP, hD, hS, lv_sub hl [0, 1, 2, 3] rfl, by omega, by omega, by omega⟩ (fun xx H locs ls hI ih => ?_)
  obtain ⟨g71, g72, g73⟩ := xx
  obtain ⟨hP, hD, hS, hl, hq160, hq161, hq162⟩ := hI
  have ih163 := ih
  refine lv_aload_n hx hb dX11_lateness_8 rfl (lv_at hl 3 rfl) ?_
  refine va_get (D := D) (ci := 11) (v := .int (I 36)) (C := RX11) (T := TX11) (N := 49) hx hb hg inGX11 hown hKN.1 hP 0 rfl rfl 36 (by decide) (hg _ kw_1244) (fun _ h9 => h9) rfl dX11_lateness_9 ?_
  refine lv_iload_n hx hb dX11_lateness_12 rfl (lv_at hl 0 rfl) ?_
  refine lv_aload_n hx hb dX11_lateness_13 rfl (lv_at hl 3 rfl) ?_
  refine va_get (D := D) (ci := 11) (v := .int (I 34)) (C := RX11) (T := TX11) (N := 49) hx hb hg inGX11 hown hKN.1 hP 0 rfl rfl 34 (by decide) (hg _ kw_1242) (fun _ h9 => h9) rfl dX11_lateness_14 ?_
  refine lv_imul hx hb dX11_lateness_17 ?_
  refine lv_topi (fun v164 ev164 => ?_)
  have hv164 := i_mulR (a := -1) (b := 600) (c := 2) (d := 200) (lo := -200) (hi := 120000) (Eq.refl g71.toInt) (Eq.refl (I 34).toInt) ev164 (by omega) (by omega) (by decide) (by decide)
  refine lv_iadd hx hb dX11_lateness_18 ?_
  refine lv_topi (fun v165 ev165 => ?_)
  have hv165 := i_add (Eq.refl (I 36).toInt) (Eq.refl v164.toInt) ev165 (by omega) (by omega)
  refine lv_sipush (v := 600) hx hb dX11_lateness_19 (by decide) ?_
  refine lv_icmp_ge (tgt := 89) hx hb dX11_lateness_22 (by decide) (fun c208 => ?_) (fun c208 => ?_)
  · skip
    have c208 := i_le (show (600 : Int32).toInt = 600 by decide) (Eq.refl v165.toInt) c208
    refine lv_iload_n hx hb dX11_lateness_89 rfl (lv_at hl 1 rfl) ?_
    refine lv_iload_n hx hb dX11_lateness_90 rfl (lv_at hl 2 rfl) ?_
    refine lv_icmp_ge (tgt := 98) hx hb dX11_lateness_91 (by decide) (fun c211 => ?_) (fun c211 => ?_)
    · skip
      have c211 := i_le (Eq.refl g73.toInt) (Eq.refl g72.toInt) c211
      refine lv_iload_n hx hb dX11_lateness_98 rfl (lv_at hl 1 rfl) ?_
      refine lv_iload_n hx hb dX11_lateness_99 rfl (lv_at hl 2 rfl) ?_
      refine lv_isub hx hb dX11_lateness_100 ?_
      refine lv_topi (fun v212 ev212 => ?_)
      have hv212 := i_sub (Eq.refl g72.toInt) (Eq.refl g73.toInt) ev212 (by omega) (by omega)
      refine W.widen (k := 0) (n := 0) (Nat.le_of_ble_eq_true rfl) (Nat.le_of_ble_eq_true rfl) ?_
      exact W.iret (v := v212) hx hb hr (fun t ht hW => ⟨⟨v212, rfl, trivial, CB.mk ht hP hD⟩, hS.F ht⟩) hS.2.2 dX11_lateness_101
    · skip
      have c211 := i_nle (Eq.refl g73.toInt) (Eq.refl g72.toInt) c211
      refine lv_iconst (v := 0) hx hb dX11_lateness_94 (by decide) ?_
      refine lv_goto (tgt := 101) hx hb dX11_lateness_95 (by decide) ?_
      refine W.widen (k := 0) (n := 0) (Nat.le_of_ble_eq_true rfl) (Nat.le_of_ble_eq_true rfl) ?_
      have zi0 : (0 : Int32).toInt = 0 := by decide
      exact W.iret (v := 0) hx hb hr (fun t ht hW => ⟨⟨0, rfl, trivial, CB.mk ht hP hD⟩, hS.F ht⟩) hS.2.2 dX11_lateness_101
  · skip
    have c208 := i_nle (show (600 : Int32).toInt = 600 by decide) (Eq.refl v165.toInt) c208
    refine lv_aload_n hx hb dX11_lateness_25 rfl (lv_at hl 3 rfl) ?_
    refine lv_aload_n hx hb dX11_lateness_26 rfl (lv_at hl 3 rfl) ?_
    refine va_get (D := D) (ci := 11) (v := .int (I 36)) (C := RX11) (T := TX11) (N := 49) hx hb hg inGX11 hown hKN.1 hP 0 rfl rfl 36 (by decide) (hg _ kw_1244) (fun _ h9 => h9) rfl dX11_lateness_27 ?_
    refine lv_iload_n hx hb dX11_lateness_30 rfl (lv_at hl 0 rfl) ?_
    refine lv_aload_n hx hb dX11_lateness_31 rfl (lv_at hl 3 rfl) ?_
    refine va_get (D := D) (ci := 11) (v := .int (I 34)) (C := RX11) (T := TX11) (N := 49) hx hb hg inGX11 hown hKN.1 hP 0 rfl rfl 34 (by decide) (hg _ kw_1242) (fun _ h9 => h9) rfl dX11_lateness_32 ?_
    refine lv_imul hx hb dX11_lateness_35 ?_
    refine lv_topi (fun v213 ev213 => ?_)
    have hv213 := i_mulR (a := -1) (b := 600) (c := 2) (d := 200) (lo := -200) (hi := 120000) (Eq.refl g71.toInt) (Eq.refl (I 34).toInt) ev213 (by omega) (by omega) (by decide) (by decide)
    refine lv_iadd hx hb dX11_lateness_36 ?_
    refine lv_topi (fun v214 ev214 => ?_)
    have hv214 := i_add (Eq.refl (I 36).toInt) (Eq.refl v213.toInt) ev214 (by omega) (by omega)
    refine lv_aload_n hx hb dX11_lateness_37 rfl (lv_at hl 3 rfl) ?_
    refine va_get (D := D) (ci := 11) (v := .int (I 35)) (C := RX11) (T := TX11) (N := 49) hx hb hg inGX11 hown hKN.1 hP 0 rfl rfl 35 (by decide) (hg _ kw_1243) (fun _ h9 => h9) rfl dX11_lateness_38 ?_
    refine cga (rn_V (As := [.int v214, .int (I 35)]) (rest := []) (b := o) (m_hasHour l D Y Z H.size o a I J F G  v214 (I 35) (show (-1000 ≤ v214.toInt ∧ v214.toInt ≤ 200000) by omega) (show (-30 ≤ (I 35).toInt ∧ (I 35).toInt ≤ 30) by omega)) ⟨hx, hb, hml, hown, hg⟩ lk_X11_412 ⟨CP.blind, va_recv hKN.1 hP (ci := 11) (q0 := 0) rfl rfl, CP.at hP hKN hD⟩ ⟨⟨rfl, rfl⟩, ⟨Nat.le_of_ble_eq_true rfl, Nat.le_of_ble_eq_true rfl⟩, ⟨Nat.le_of_ble_eq_true rfl, Nat.le_of_ble_eq_true rfl⟩⟩ hl.1 rfl (Nat.le_of_ble_eq_true rfl) dX11_lateness_41) hP hD hS hA (fun u215 H locs w216 hP hD hS => ?_)
    have w216 : (0 ≤ u215.toInt ∧ u215.toInt ≤ 1) := w216
    have hw218 := w216
    refine W.eq (g2 := F0 m 44 ls [.int u215]) rfl ?_
    have hP : va_P D vwCl (MW Y o a I J F G) H := hP
    have hD : va_D A (MW Y o a I J F G) := hD
    rcases (show u215.toInt = 1 ∨ u215.toInt = 0 by omega) with c219 | c219
    · obtain rfl : u215 = 1 := i_is c219 (by decide)
      have zi1 : (1 : Int32).toInt = 1 := by decide
      refine W.eq (g2 := F0 m 44 ls [.int 1]) rfl ?_
      refine lv_if_ne (tgt := 50) hx hb dX11_lateness_44 (by decide) (fun c235 => ?_) (fun c235 => ?_)
      rotate_left
      · exact absurd c235 (by decide)
      refine lv_aload_n hx hb dX11_lateness_50 rfl (lv_at hl 3 rfl) ?_
      refine lv_iload_n hx hb dX11_lateness_51 rfl (lv_at hl 0 rfl) ?_
      refine cga (rn_V (As := [.int g71]) (rest := []) (b := o) (m_shiftOf l D Y Z H.size o a I J F G  g71 (show (2 ≤ (I 34).toInt ∧ (I 34).toInt ≤ 200) by omega) (show (1 ≤ (I 35).toInt ∧ (I 35).toInt ≤ 10) by omega) (show (0 ≤ (I 36).toInt ∧ (I 36).toInt ≤ 199) by omega) (show ((I 36).toInt < (I 34).toInt) by omega) (show (-1 ≤ g71.toInt ∧ g71.toInt ≤ 640) by omega)) ⟨hx, hb, hml, hown, hg⟩ lk_X11_526 ⟨CP.blind, va_recv hKN.1 hP (ci := 11) (q0 := 0) rfl rfl, CP.at hP hKN hD⟩ ⟨⟨rfl, rfl⟩, ⟨Nat.le_of_ble_eq_true rfl, Nat.le_of_ble_eq_true rfl⟩, ⟨Nat.le_of_ble_eq_true rfl, Nat.le_of_ble_eq_true rfl⟩⟩ hl.1 rfl (Nat.le_of_ble_eq_true rfl) dX11_lateness_52) hP hD hS hA (fun u236 H locs w237 hP hD hS => ?_)
      have w237 : (-100 ≤ u236.toInt ∧ u236.toInt ≤ 3) := w237
      have hw239 := w237
      refine W.eq (g2 := F0 m 55 ls [.int u236]) rfl ?_
      have hP : va_P D vwCl (MW Y o a I J F G) H := hP
      have hD : va_D A (MW Y o a I J F G) := hD
      refine lv_istore (lv' := [(4, .int u236), (3, .int g71), (2, .int g72), (1, .int g73), (0, .ref o)]) hx hb dX11_lateness_55 hl (by decide) rfl (fun ls hl => ?_)
      refine lv_iload hx hb dX11_lateness_57 (lv_at hl 0 rfl) ?_
      refine lv_iload_n hx hb dX11_lateness_59 rfl (lv_at hl 3 rfl) ?_
      refine w_join (σ := Int32) (pcJ := 69) (kJ := 0) (nJ := 0) (stk := fun xx => match xx with | g241 => [.int g241]) (fun xx H locs ls => match xx with | g241 => va_P D vwCl (MW Y o a I J F G) H ∧ va_D A (MW Y o a I J F G) ∧ va_S A s.heap H locs ∧ lv_has ls 5 [(4, .int u236), (3, .int g71), (2, .int g72), (1, .int g73), (0, .ref o)] ∧ (-100 ≤ g241.toInt ∧ g241.toInt ≤ 3)) (fun xx H locs ls hI => ?_) (fun jn242 => ?_)
      · skip
        revert hI
        generalize xx = g241
        intro hI
        obtain ⟨hP, hD, hS, hl, hq243⟩ := hI
        refine W.eq (g2 := F0 m 69 ls [.int g241]) rfl ?_
        refine lv_istore_n (lv' := [(1, .int g241), (4, .int u236), (3, .int g71), (2, .int g72), (0, .ref o)]) hx hb dX11_lateness_69 rfl hl (by decide) rfl (fun ls hl => ?_)
        refine lv_iload hx hb dX11_lateness_70 (lv_at hl 1 rfl) ?_
        refine lv_iload_n hx hb dX11_lateness_72 rfl (lv_at hl 3 rfl) ?_
        refine w_join (σ := Int32) (pcJ := 82) (kJ := 0) (nJ := 0) (stk := fun xx => match xx with | g245 => [.int g245]) (fun xx H locs ls => match xx with | g245 => va_P D vwCl (MW Y o a I J F G) H ∧ va_D A (MW Y o a I J F G) ∧ va_S A s.heap H locs ∧ lv_has ls 5 [(1, .int g241), (4, .int u236), (3, .int g71), (2, .int g72), (0, .ref o)] ∧ (-100 ≤ g245.toInt ∧ g245.toInt ≤ 9)) (fun xx H locs ls hI => ?_) (fun jn246 => ?_)
        · skip
          revert hI
          generalize xx = g245
          intro hI
          obtain ⟨hP, hD, hS, hl, hq247⟩ := hI
          refine W.eq (g2 := F0 m 82 ls [.int g245]) rfl ?_
          refine lv_istore_n (lv' := [(2, .int g245), (1, .int g241), (4, .int u236), (3, .int g71), (0, .ref o)]) hx hb dX11_lateness_82 rfl hl (by decide) rfl (fun ls hl => ?_)
          obtain ⟨v248, ev248⟩ : ∃ y : Int32, y = g71 + 1 := ⟨_, rfl⟩
          have hv248 := i_add (Eq.refl g71.toInt) (show (1 : Int32).toInt = 1 by decide) ev248 (by omega) (by omega)
          refine lv_iinc (v := v248) (lv' := [(3, .int v248), (2, .int g245), (1, .int g241), (4, .int u236), (0, .ref o)]) hx hb dX11_lateness_83 hl (k := 3) rfl (by rw [ev248]; rfl) (by decide) rfl (fun ls hl => ?_)
          refine lv_goto (tgt := 8) hx hb dX11_lateness_86 (by decide) ?_
          exact ih163 (v248, g245, g241) H locs ls (by show (602 - v248.toInt).toNat < (602 - g71.toInt).toNat; omega) ⟨hP, hD, hS, lv_sub hl [0, 1, 2, 4] rfl, by omega, by omega, by omega⟩
        · skip
          refine lv_icmp_le (tgt := 81) hx hb dX11_lateness_73 (by decide) (fun c249 => ?_) (fun c249 => ?_)
          · skip
            have c249 := i_le (Eq.refl u236.toInt) (Eq.refl g72.toInt) c249
            refine lv_iload_n hx hb dX11_lateness_81 rfl (lv_at hl 3 rfl) ?_
            refine W.widen (k := 0) (n := 0) (Nat.le_of_ble_eq_true rfl) (Nat.le_of_ble_eq_true rfl) ?_
            exact jn246 (g72) H locs ls ⟨hP, hD, hS, lv_sub hl [0, 1, 2, 3, 4] rfl, by omega⟩
          · skip
            have c249 := i_nle (Eq.refl u236.toInt) (Eq.refl g72.toInt) c249
            refine lv_iload hx hb dX11_lateness_76 (lv_at hl 1 rfl) ?_
            refine lv_goto (tgt := 82) hx hb dX11_lateness_78 (by decide) ?_
            refine W.widen (k := 0) (n := 0) (Nat.le_of_ble_eq_true rfl) (Nat.le_of_ble_eq_true rfl) ?_
            exact jn246 (u236) H locs ls ⟨hP, hD, hS, lv_sub hl [0, 1, 2, 3, 4] rfl, by omega⟩
      · skip
        refine lv_icmp_ge (tgt := 68) hx hb dX11_lateness_60 (by decide) (fun c250 => ?_) (fun c250 => ?_)
        · skip
          have c250 := i_le (Eq.refl g73.toInt) (Eq.refl u236.toInt) c250
          refine lv_iload_n hx hb dX11_lateness_68 rfl (lv_at hl 3 rfl) ?_
          refine W.widen (k := 0) (n := 0) (Nat.le_of_ble_eq_true rfl) (Nat.le_of_ble_eq_true rfl) ?_
          exact jn242 (g73) H locs ls ⟨hP, hD, hS, lv_sub hl [0, 1, 2, 3, 4] rfl, by omega⟩
        · skip
          have c250 := i_nle (Eq.refl g73.toInt) (Eq.refl u236.toInt) c250
          refine lv_iload hx hb dX11_lateness_63 (lv_at hl 0 rfl) ?_
          refine lv_goto (tgt := 69) hx hb dX11_lateness_65 (by decide) ?_
          refine W.widen (k := 0) (n := 0) (Nat.le_of_ble_eq_true rfl) (Nat.le_of_ble_eq_true rfl) ?_
          exact jn242 (u236) H locs ls ⟨hP, hD, hS, lv_sub hl [0, 1, 2, 3, 4] rfl, by omega⟩
    · obtain rfl : u215 = 0 := i_is c219 (by decide)
      have zi0 : (0 : Int32).toInt = 0 := by decide
      refine W.eq (g2 := F0 m 44 ls [.int 0]) rfl ?_
      refine lv_if_ne (tgt := 50) hx hb dX11_lateness_44 (by decide) (fun c252 => ?_) (fun c252 => ?_)
      · exact absurd c252 (by decide)
      refine lv_goto (tgt := 83) hx hb dX11_lateness_47 (by decide) ?_
      obtain ⟨v253, ev253⟩ : ∃ y : Int32, y = g71 + 1 := ⟨_, rfl⟩
      have hv253 := i_add (Eq.refl g71.toInt) (show (1 : Int32).toInt = 1 by decide) ev253 (by omega) (by omega)
      refine lv_iinc (v := v253) (lv' := [(3, .int v253), (2, .int g72), (1, .int g73), (0, .ref o)]) hx hb dX11_lateness_83 hl (k := 0) rfl (by rw [ev253]; rfl) (by decide) rfl (fun ls hl => ?_)
      refine lv_goto (tgt := 8) hx hb dX11_lateness_86 (by decide) ?_
      exact ih163 (v253, g72, g73) H locs ls (by show (602 - v253.toInt).toNat < (602 - g71.toInt).toNat; omega) ⟨hP, hD, hS, lv_sub hl [0, 1, 2, 3] rfl, by omega, by omega, by omega⟩
set_option maxHeartbeats 4000000 in
set_option maxRecDepth 100000 in
theorem m_sames (l : Launch) (D : va_G) (Y : Nat → ClassId) (Z : Nat → Nat) (sz : Nat) (o : Nat) (a : Nat → Nat) (I : Nat → Int32) (J : Nat → Int64) (F : Nat → Nat → Int32) (G : Nat → Nat → Int64) (p1 : Int32) (p2 : Int32) (hk_0 : (0 ≤ p1.toInt ∧ p1.toInt ≤ 5)) (hk_1 : (p1.toInt < ((F 4) 1).toInt)) (hk_2 : (0 ≤ p2.toInt ∧ p2.toInt ≤ 11)) (hk0 : TO (F 0)) (hk1 : LB (F 28)) (hk2 : TX (F 4) (F 9) (F 10) (F 11) (F 12) (F 13)) : Met l yX11_sames (.code yX11_sames cX11_sames 7 (some .int) :: GW) ({ frames := 7, cells := 0, slots := 0, locals := 169 }) (va_Pc [.ref o, .int p1, .int p2] (CP D Y Z (MW Y o a I J F G) sz)) (QG (S := Int32 × Int32 × Int32 × Int32 × Int32 × Int64 × Int64 × Int32 × Int64 × Int64 × (Nat → Int32) × (Nat → Int32) × (Nat → Int64) × (Nat → Int32) × (Nat → Int64) × (Nat → Int32)) (fun u => some (.int u.1)) (fun u => LB u.2.2.2.2.2.2.2.2.2.2.2.1) (fun u => CB D (MW Y o a (upd (upd (upd (upd (upd I 29 u.2.2.2.2.2.2.2.1) 34 u.2.1) 35 u.2.2.1) 36 u.2.2.2.1) 39 u.2.2.2.2.1) (vp_updL (vp_updL (vp_updL (vp_updL J 30 u.2.2.2.2.2.2.2.2.1) 31 u.2.2.2.2.2.2.2.2.2.1) 37 u.2.2.2.2.2.1) 38 u.2.2.2.2.2.2.1) (vf_upd (vf_upd (vf_upd (vf_upd F 1 u.2.2.2.2.2.2.2.2.2.2.1) 28 u.2.2.2.2.2.2.2.2.2.2.2.1) 41 u.2.2.2.2.2.2.2.2.2.2.2.2.2.1) 43 u.2.2.2.2.2.2.2.2.2.2.2.2.2.2.2) (vf_upd (vf_upd G 40 u.2.2.2.2.2.2.2.2.2.2.2.2.1) 42 u.2.2.2.2.2.2.2.2.2.2.2.2.2.2.1)) (va_A (MW Y o a I J F G) sz)) (va_A (MW Y o a I J F G) sz)) 0 0 (va_A (MW Y o a I J F G) sz) := by
  refine Met.ofW (cc := cX11_sames) (maxL := 7) (ret := (some .int)) (by decide) rfl ?_
  intro p e s m args below meth c s₁ B hml hv
  obtain ⟨rfl, hsz, hP, hKN, hD0⟩ := hv
  have hx := B.exec
  have hb := B.bytes
  have hr := B.returns
  have hts := atoms_spec (ws := .code yX11_sames cX11_sames 7 (some .int) :: GW) B.pre
  have hg : ∀ w ∈ GW, w.before _ s = true := fun w h => hts w (List.mem_cons_of_mem _ h)
  have hown : s.vm.findClass RX11 = some m.cls := findClass_of_methodNamed B.named
  have hlocks := B.notSynchronized
  subst hsz
  have hD := hD0.self (sz := s.heap.size)
  generalize hAe : va_A (MW Y o a I J F G) s.heap.size = A at hD ⊢
  have hA : ∀ q : Nat, s.heap.size ≤ q → A q := fun q h => by rw [← hAe]; exact Or.inr h
  clear hAe hD0 hts B
  have hl := lv_entry ([.ref o, .int p1, .int p2]) (n := 7) (Nat.le_of_ble_eq_true rfl)
  rw [lg_entry_eq]
  generalize (lg_sl ([.ref o, .int p1, .int p2]) ++ List.replicate (7 - (lg_sl ([.ref o, .int p1, .int p2])).length) Slot.unset).toArray = ls at hl ⊢
  have hl : lv_has ls 7 [(0, .ref o), (1, .int p1), (2, .int p2)] := hl
  refine w_start (A0 := A) hP (fun H locs hP hS => ?_)
  refine lv_aload_n hx hb dX11_sames_0 rfl (lv_at hl 0 rfl) ?_
  refine va_get (D := D) (ci := 11) (v := .int (I 34)) (C := RX11) (T := TX11) (N := 49) hx hb hg inGX11 hown hKN.1 hP 0 rfl rfl 34 (by decide) (hg _ kw_1242) (fun _ h9 => h9) rfl dX11_sames_1 ?_
  refine lv_istore_n (lv' := [(3, .int (I 34)), (0, .ref o), (1, .int p1), (2, .int p2)]) hx hb dX11_sames_4 rfl hl (by decide) rfl (fun ls hl => ?_)
  refine lv_aload_n hx hb dX11_sames_5 rfl (lv_at hl 1 rfl) ?_
  refine va_get (D := D) (ci := 11) (v := .int (I 36)) (C := RX11) (T := TX11) (N := 49) hx hb hg inGX11 hown hKN.1 hP 0 rfl rfl 36 (by decide) (hg _ kw_1244) (fun _ h9 => h9) rfl dX11_sames_6 ?_
  refine lv_istore (lv' := [(4, .int (I 36)), (3, .int (I 34)), (0, .ref o), (1, .int p1), (2, .int p2)]) hx hb dX11_sames_9 hl (by decide) rfl (fun ls hl => ?_)
  refine lv_iconst (v := 0) hx hb dX11_sames_11 (by decide) ?_
  refine lv_istore (lv' := [(5, .int 0), (4, .int (I 36)), (3, .int (I 34)), (0, .ref o), (1, .int p1), (2, .int p2)]) hx hb dX11_sames_12 hl (by decide) rfl (fun ls hl => ?_)
  refine lv_iconst (v := 0) hx hb dX11_sames_14 (by decide) ?_
  refine lv_istore (lv' := [(6, .int 0), (5, .int 0), (4, .int (I 36)), (3, .int (I 34)), (0, .ref o), (1, .int p1), (2, .int p2)]) hx hb dX11_sames_15 hl (by decide) rfl (fun ls hl => ?_)
  have zi0 : (0 : Int32).toInt = 0 := by decide
  refine w_loop (σ := Int32 × Int32 × Int32 × Int64 × Int64 × Int32 × Int32 × Int32 × Int64 × Int64 × Int32 × (Nat → Int32) × (Nat → Int32) × (Nat → Int64) × (Nat → Int32) × (Nat → Int64) × (Nat → Int32)) (fun xx H locs ls => match xx with | (g200, g201, g202, g203, g204, g205, g206, g207, g208, g209, g210, f211, f212, f213, f214, f215, f216) => va_P D vwCl (MW Y o a (upd (upd (upd (upd (upd I 29 g202) 34 g205) 35 g206) 36 g207) 39 g210) (vp_updL (vp_updL (vp_updL (vp_updL J 30 g203) 31 g204) 37 g208) 38 g209) (vf_upd (vf_upd (vf_upd (vf_upd F 1 f211) 28 f212) 41 f214) 43 f216) (vf_upd (vf_upd G 40 f213) 42 f215)) H ∧ va_D A (MW Y o a (upd (upd (upd (upd (upd I 29 g202) 34 g205) 35 g206) 36 g207) 39 g210) (vp_updL (vp_updL (vp_updL (vp_updL J 30 g203) 31 g204) 37 g208) 38 g209) (vf_upd (vf_upd (vf_upd (vf_upd F 1 f211) 28 f212) 41 f214) 43 f216) (vf_upd (vf_upd G 40 f213) 42 f215)) ∧ va_S A s.heap H locs ∧ lv_has ls 7 [(6, .int g200), (5, .int g201), (4, .int (I 36)), (3, .int (I 34)), (0, .ref o), (1, .int p1), (2, .int p2)] ∧ (0 ≤ g200.toInt ∧ g200.toInt ≤ 12) ∧ LB f212) (fun xx => match xx with | (g200, g201, g202, g203, g204, g205, g206, g207, g208, g209, g210, f211, f212, f213, f214, f215, f216) => (12 - g200.toInt).toNat) (0, 0, (I 29), (J 30), (J 31), (I 34), (I 35), (I 36), (J 37), (J 38), (I 39), (F 1), (F 28), (G 40), (F 41), (G 42), (F 43)) ⟨hP, hD, hS, lv_sub hl [0, 1, 2, 3, 4, 5, 6] rfl, by omega, hk1⟩ (fun xx H locs ls hI ih => ?_)
  obtain ⟨g200, g201, g202, g203, g204, g205, g206, g207, g208, g209, g210, f211, f212, f213, f214, f215, f216⟩ := xx
  obtain ⟨hP, hD, hS, hl, hq418, hp419⟩ := hI
  have ih420 := ih
  refine lv_iload hx hb dX11_sames_17 (lv_at hl 0 rfl) ?_
  refine lv_aload_n hx hb dX11_sames_19 rfl (lv_at hl 4 rfl) ?_
  refine va_get (D := D) (ci := 11) (v := .ref (a 0)) (C := RX11) (T := TX11) (N := 49) hx hb hg inGX11 hown hKN.1 hP 0 rfl rfl 0 (by decide) (hg _ kw_1208) (fun _ h9 => h9) rfl dX11_sames_20 ?_
  refine lv_iconst (v := 0) hx hb dX11_sames_23 (by decide) ?_
  refine va_iald hx hb hKN.1 hP 1 0 rfl rfl (show ¬ ((0 : Int32) < 0 ∨ 7533 ≤ (0 : Int32).toNatClampNeg) by decide) dX11_sames_24 ?_
  refine lv_topi (fun v421 ev421 => ?_)
  have ev421 : v421 = (F 0) 0 := ev421
  have kv421 := TO_0 hk0
  rw [← ev421] at kv421
  have qv421 := congrArg Int32.toInt ev421
  refine lv_icmp_ge (tgt := 86) hx hb dX11_sames_25 (by decide) (fun c522 => ?_) (fun c522 => ?_)
  · skip
    have c522 := i_le (Eq.refl v421.toInt) (Eq.refl g200.toInt) c522
    refine lv_iload hx hb dX11_sames_86 (lv_at hl 1 rfl) ?_
    refine W.widen (k := 0) (n := 0) (Nat.le_of_ble_eq_true rfl) (Nat.le_of_ble_eq_true rfl) ?_
    exact W.iret (v := g201) hx hb hr (fun t ht hW => ⟨⟨(g201, g205, g206, g207, g210, g208, g209, g202, g203, g204, f211, f212, f213, f214, f215, f216), rfl, (hp419), CB.mk ht hP hD⟩, hS.F ht⟩) hS.2.2 dX11_sames_88
  · skip
    have c522 := i_nle (Eq.refl v421.toInt) (Eq.refl g200.toInt) c522
    refine lv_iload hx hb dX11_sames_28 (lv_at hl 1 rfl) ?_
    refine lv_iload hx hb dX11_sames_30 (lv_at hl 0 rfl) ?_
    refine lv_iload_n hx hb dX11_sames_32 rfl (lv_at hl 6 rfl) ?_
    refine w_join (σ := Int32 × Int32 × Int64 × Int64 × Int32 × Int32 × Int32 × Int64 × Int64 × Int32 × (Nat → Int32) × (Nat → Int32) × (Nat → Int64) × (Nat → Int32) × (Nat → Int64) × (Nat → Int32)) (pcJ := 77) (kJ := 0) (nJ := 0) (stk := fun xx => match xx with | (g562, g563, g564, g565, g566, g567, g568, g569, g570, g571, f572, f573, f574, f575, f576, f577) => [.int g562, .int g201]) (fun xx H locs ls => match xx with | (g562, g563, g564, g565, g566, g567, g568, g569, g570, g571, f572, f573, f574, f575, f576, f577) => va_P D vwCl (MW Y o a (upd (upd (upd (upd (upd I 29 g563) 34 g566) 35 g567) 36 g568) 39 g571) (vp_updL (vp_updL (vp_updL (vp_updL J 30 g564) 31 g565) 37 g569) 38 g570) (vf_upd (vf_upd (vf_upd (vf_upd F 1 f572) 28 f573) 41 f575) 43 f577) (vf_upd (vf_upd G 40 f574) 42 f576)) H ∧ va_D A (MW Y o a (upd (upd (upd (upd (upd I 29 g563) 34 g566) 35 g567) 36 g568) 39 g571) (vp_updL (vp_updL (vp_updL (vp_updL J 30 g564) 31 g565) 37 g569) 38 g570) (vf_upd (vf_upd (vf_upd (vf_upd F 1 f572) 28 f573) 41 f575) 43 f577) (vf_upd (vf_upd G 40 f574) 42 f576)) ∧ va_S A s.heap H locs ∧ lv_has ls 7 [(6, .int g200), (5, .int g201), (4, .int (I 36)), (3, .int (I 34)), (0, .ref o), (1, .int p1), (2, .int p2)] ∧ (0 ≤ g562.toInt ∧ g562.toInt ≤ 1) ∧ LB f573) (fun xx H locs ls hI => ?_) (fun jn578 => ?_)
    · skip
      obtain ⟨g562, g563, g564, g565, g566, g567, g568, g569, g570, g571, f572, f573, f574, f575, f576, f577⟩ := xx
      obtain ⟨hP, hD, hS, hl, hq579, hp580⟩ := hI
      refine W.eq (g2 := F0 m 77 ls [.int g562, .int g201]) rfl ?_
      refine lv_iadd hx hb dX11_sames_77 ?_
      refine lv_topi (fun v581 ev581 => ?_)
      refine lv_istore (lv' := [(5, .int v581), (6, .int g200), (4, .int (I 36)), (3, .int (I 34)), (0, .ref o), (1, .int p1), (2, .int p2)]) hx hb dX11_sames_78 hl (by decide) rfl (fun ls hl => ?_)
      obtain ⟨v582, ev582⟩ : ∃ y : Int32, y = g200 + 1 := ⟨_, rfl⟩
      have hv582 := i_add (Eq.refl g200.toInt) (show (1 : Int32).toInt = 1 by decide) ev582 (by omega) (by omega)
      refine lv_iinc (v := v582) (lv' := [(6, .int v582), (5, .int v581), (4, .int (I 36)), (3, .int (I 34)), (0, .ref o), (1, .int p1), (2, .int p2)]) hx hb dX11_sames_80 hl (k := 1) rfl (by rw [ev582]; rfl) (by decide) rfl (fun ls hl => ?_)
      refine lv_goto (tgt := 17) hx hb dX11_sames_83 (by decide) ?_
      exact ih420 (v582, v581, g563, g564, g565, g566, g567, g568, g569, g570, g571, f572, f573, f574, f575, f576, f577) H locs ls (by show (12 - v582.toInt).toNat < (12 - g200.toInt).toNat; omega) ⟨hP, hD, hS, lv_sub hl [0, 1, 2, 3, 4, 5, 6] rfl, by omega, hp580⟩
    · skip
      refine lv_icmp_eq (tgt := 76) hx hb dX11_sames_33 (by decide) (fun c583 => ?_) (fun c583 => ?_)
      · skip
        have c583 := i_eq (Eq.refl g200.toInt) (Eq.refl p2.toInt) c583
        refine lv_iconst (v := 0) hx hb dX11_sames_76 (by decide) ?_
        have zi0 : (0 : Int32).toInt = 0 := by decide
        refine W.widen (k := 0) (n := 0) (Nat.le_of_ble_eq_true rfl) (Nat.le_of_ble_eq_true rfl) ?_
        exact jn578 (0, g202, g203, g204, g205, g206, g207, g208, g209, g210, f211, f212, f213, f214, f215, f216) H locs ls ⟨hP, hD, hS, lv_sub hl [0, 1, 2, 3, 4, 5, 6] rfl, by omega, hp419⟩
      · skip
        have c583 := i_ne (Eq.refl g200.toInt) (Eq.refl p2.toInt) c583
        refine lv_aload_n hx hb dX11_sames_36 rfl (lv_at hl 4 rfl) ?_
        refine lv_iload_n hx hb dX11_sames_37 rfl (lv_at hl 5 rfl) ?_
        refine lv_iload hx hb dX11_sames_38 (lv_at hl 0 rfl) ?_
        refine lv_iconst (v := 0) hx hb dX11_sames_40 (by decide) ?_
        have zi0 : (0 : Int32).toInt = 0 := by decide
        refine cga (rn_V (As := [.int p1, .int g200, .int 0]) (rest := [.int g201]) (b := o) (m_finds l D Y Z H.size o a (upd (upd (upd (upd (upd I 29 g202) 34 g205) 35 g206) 36 g207) 39 g210) (vp_updL (vp_updL (vp_updL (vp_updL J 30 g203) 31 g204) 37 g208) 38 g209) (vf_upd (vf_upd (vf_upd (vf_upd F 1 f211) 28 f212) 41 f214) 43 f216) (vf_upd (vf_upd G 40 f213) 42 f215)  p1 g200 0 (show (0 ≤ p1.toInt ∧ p1.toInt ≤ 5) by omega) (show (p1.toInt < ((F 4) 1).toInt) by omega) (show (0 ≤ g200.toInt ∧ g200.toInt ≤ 11) by omega) (show (0 ≤ (0 : Int32).toInt ∧ (0 : Int32).toInt ≤ 5) by omega) hk0 hp419 hk2) ⟨hx, hb, hml, hown, hg⟩ lk_X11_487 ⟨CP.blind, va_recv hKN.1 hP (ci := 11) (q0 := 0) rfl rfl, CP.at hP hKN hD⟩ ⟨⟨rfl, rfl⟩, ⟨Nat.le_of_ble_eq_true rfl, Nat.le_of_ble_eq_true rfl⟩, ⟨Nat.le_of_ble_eq_true rfl, Nat.le_of_ble_eq_true rfl⟩⟩ hl.1 rfl (Nat.le_of_ble_eq_true rfl) dX11_sames_41) hP hD hS hA (fun u584 H locs w585 hP hD hS => ?_)
        obtain ⟨u586, u587, u588, u589, u590, u591, u592, u593, u594, u595, f596, f597, f598, f599, f600, f601⟩ := u584
        have w585 : ((u586.toInt = 1 ∧ 1 ≤ u592.toInt ∧ 2 ≤ u587.toInt ∧ u587.toInt ≤ 200 ∧ 1 ≤ u588.toInt ∧ u588.toInt ≤ 10 ∧ 0 ≤ u589.toInt ∧ u589.toInt < u587.toInt ∧ -9000000000000 ≤ u591.toInt ∧ u591.toInt ≤ 9000000000000 ∧ (cin f597 (u587.toInt).toNat (u588.toInt).toNat (u589.toInt).toNat 600 : Int) ≠ u593.toInt) ∨ u586.toInt = 0) ∧ (0 ≤ u586.toInt ∧ u586.toInt ≤ 1) ∧ (0 ≤ u593.toInt ∧ u593.toInt ≤ 600) ∧ (-60000000 ≤ u594.toInt ∧ u594.toInt ≤ 60000000) ∧ (1 ≤ u595.toInt) ∧ LB f597 := w585
        obtain ⟨hw602, hw603, hw604, hw605, hw606, hw607⟩ := w585
        refine W.eq (g2 := F0 m 44 ls [.int u586, .int g201]) rfl ?_
        have hP : va_P D vwCl (MW Y o a (upd (upd (upd (upd (upd I 29 u593) 34 u587) 35 u588) 36 u589) 39 u590) (vp_updL (vp_updL (vp_updL (vp_updL J 30 u594) 31 u595) 37 u591) 38 u592) (vf_upd (vf_upd (vf_upd (vf_upd F 1 f596) 28 f597) 41 f599) 43 f601) (vf_upd (vf_upd G 40 f598) 42 f600)) H := hP
        have hD : va_D A (MW Y o a (upd (upd (upd (upd (upd I 29 u593) 34 u587) 35 u588) 36 u589) 39 u590) (vp_updL (vp_updL (vp_updL (vp_updL J 30 u594) 31 u595) 37 u591) 38 u592) (vf_upd (vf_upd (vf_upd (vf_upd F 1 f596) 28 f597) 41 f599) 43 f601) (vf_upd (vf_upd G 40 f598) 42 f600)) := hD
        rcases (show u586.toInt = 1 ∨ u586.toInt = 0 by omega) with c608 | c608
        · obtain rfl : u586 = 1 := i_is c608 (by decide)
          have zi1 : (1 : Int32).toInt = 1 := by decide
          refine W.eq (g2 := F0 m 44 ls [.int 1, .int g201]) rfl ?_
          refine lv_if_eq (tgt := 76) hx hb dX11_sames_44 (by decide) (fun c609 => ?_) (fun c609 => ?_)
          · exact absurd c609 (by decide)
          refine lv_aload_n hx hb dX11_sames_47 rfl (lv_at hl 4 rfl) ?_
          refine lv_iload_n hx hb dX11_sames_48 rfl (lv_at hl 5 rfl) ?_
          refine cga (rn_V (As := [.int p1]) (rest := [.int g201]) (b := o) (m_isSeen l D Y Z H.size o a (upd (upd (upd (upd (upd I 29 u593) 34 u587) 35 u588) 36 u589) 39 u590) (vp_updL (vp_updL (vp_updL (vp_updL J 30 u594) 31 u595) 37 u591) 38 u592) (vf_upd (vf_upd (vf_upd (vf_upd F 1 f596) 28 f597) 41 f599) 43 f601) (vf_upd (vf_upd G 40 f598) 42 f600)  p1 (show (0 ≤ p1.toInt ∧ p1.toInt ≤ 5) by omega)) ⟨hx, hb, hml, hown, hg⟩ lk_X11_494 ⟨CP.blind, va_recv hKN.1 hP (ci := 11) (q0 := 0) rfl rfl, CP.at hP hKN hD⟩ ⟨⟨rfl, rfl⟩, ⟨Nat.le_of_ble_eq_true rfl, Nat.le_of_ble_eq_true rfl⟩, ⟨Nat.le_of_ble_eq_true rfl, Nat.le_of_ble_eq_true rfl⟩⟩ hl.1 rfl (Nat.le_of_ble_eq_true rfl) dX11_sames_49) hP hD hS hA (fun u610 H locs w611 hP hD hS => ?_)
          have w611 : (0 ≤ u610.toInt ∧ u610.toInt ≤ 1) := w611
          have hw613 := w611
          refine W.eq (g2 := F0 m 52 ls [.int u610, .int g201]) rfl ?_
          have hP : va_P D vwCl (MW Y o a (upd (upd (upd (upd (upd I 29 u593) 34 u587) 35 u588) 36 u589) 39 u590) (vp_updL (vp_updL (vp_updL (vp_updL J 30 u594) 31 u595) 37 u591) 38 u592) (vf_upd (vf_upd (vf_upd (vf_upd F 1 f596) 28 f597) 41 f599) 43 f601) (vf_upd (vf_upd G 40 f598) 42 f600)) H := hP
          have hD : va_D A (MW Y o a (upd (upd (upd (upd (upd I 29 u593) 34 u587) 35 u588) 36 u589) 39 u590) (vp_updL (vp_updL (vp_updL (vp_updL J 30 u594) 31 u595) 37 u591) 38 u592) (vf_upd (vf_upd (vf_upd (vf_upd F 1 f596) 28 f597) 41 f599) 43 f601) (vf_upd (vf_upd G 40 f598) 42 f600)) := hD
          rcases (show u610.toInt = 1 ∨ u610.toInt = 0 by omega) with c614 | c614
          · obtain rfl : u610 = 1 := i_is c614 (by decide)
            refine W.eq (g2 := F0 m 52 ls [.int 1, .int g201]) rfl ?_
            refine lv_if_eq (tgt := 76) hx hb dX11_sames_52 (by decide) (fun c615 => ?_) (fun c615 => ?_)
            · exact absurd c615 (by decide)
            refine lv_aload_n hx hb dX11_sames_55 rfl (lv_at hl 4 rfl) ?_
            refine va_get (D := D) (ci := 11) (v := .int u587) (C := RX11) (T := TX11) (N := 49) hx hb hg inGX11 hown hKN.1 hP 0 rfl rfl 34 (by decide) (hg _ kw_1242) (fun _ h9 => h9) rfl dX11_sames_56 ?_
            refine lv_iload_n hx hb dX11_sames_59 rfl (lv_at hl 3 rfl) ?_
            have j616 := rgI (I 34)
            refine lv_icmp_ne (tgt := 76) hx hb dX11_sames_60 (by decide) (fun c617 => ?_) (fun c617 => ?_)
            · skip
              have c617 := i_ne (Eq.refl u587.toInt) (Eq.refl (I 34).toInt) c617
              refine lv_iconst (v := 0) hx hb dX11_sames_76 (by decide) ?_
              refine W.widen (k := 0) (n := 0) (Nat.le_of_ble_eq_true rfl) (Nat.le_of_ble_eq_true rfl) ?_
              exact jn578 (0, u593, u594, u595, u587, u588, u589, u591, u592, u590, f596, f597, f598, f599, f600, f601) H locs ls ⟨hP, hD, hS, lv_sub hl [0, 1, 2, 3, 4, 5, 6] rfl, by omega, hw607⟩
            · skip
              have c617 := i_eq (Eq.refl u587.toInt) (Eq.refl (I 34).toInt) c617
              refine lv_aload_n hx hb dX11_sames_63 rfl (lv_at hl 4 rfl) ?_
              refine va_get (D := D) (ci := 11) (v := .int u589) (C := RX11) (T := TX11) (N := 49) hx hb hg inGX11 hown hKN.1 hP 0 rfl rfl 36 (by decide) (hg _ kw_1244) (fun _ h9 => h9) rfl dX11_sames_64 ?_
              refine lv_iload hx hb dX11_sames_67 (lv_at hl 2 rfl) ?_
              have j618 := rgI (I 36)
              refine lv_icmp_ne (tgt := 76) hx hb dX11_sames_69 (by decide) (fun c619 => ?_) (fun c619 => ?_)
              · skip
                have c619 := i_ne (Eq.refl u589.toInt) (Eq.refl (I 36).toInt) c619
                refine lv_iconst (v := 0) hx hb dX11_sames_76 (by decide) ?_
                refine W.widen (k := 0) (n := 0) (Nat.le_of_ble_eq_true rfl) (Nat.le_of_ble_eq_true rfl) ?_
                exact jn578 (0, u593, u594, u595, u587, u588, u589, u591, u592, u590, f596, f597, f598, f599, f600, f601) H locs ls ⟨hP, hD, hS, lv_sub hl [0, 1, 2, 3, 4, 5, 6] rfl, by omega, hw607⟩
              · skip
                have c619 := i_eq (Eq.refl u589.toInt) (Eq.refl (I 36).toInt) c619
                refine lv_iconst (v := 1) hx hb dX11_sames_72 (by decide) ?_
                refine lv_goto (tgt := 77) hx hb dX11_sames_73 (by decide) ?_
                refine W.widen (k := 0) (n := 0) (Nat.le_of_ble_eq_true rfl) (Nat.le_of_ble_eq_true rfl) ?_
                exact jn578 (1, u593, u594, u595, u587, u588, u589, u591, u592, u590, f596, f597, f598, f599, f600, f601) H locs ls ⟨hP, hD, hS, lv_sub hl [0, 1, 2, 3, 4, 5, 6] rfl, by omega, hw607⟩
          · obtain rfl : u610 = 0 := i_is c614 (by decide)
            refine W.eq (g2 := F0 m 52 ls [.int 0, .int g201]) rfl ?_
            refine lv_if_eq (tgt := 76) hx hb dX11_sames_52 (by decide) (fun c620 => ?_) (fun c620 => ?_)
            rotate_left
            · exact absurd c620 (by decide)
            refine lv_iconst (v := 0) hx hb dX11_sames_76 (by decide) ?_
            refine W.widen (k := 0) (n := 0) (Nat.le_of_ble_eq_true rfl) (Nat.le_of_ble_eq_true rfl) ?_
            exact jn578 (0, u593, u594, u595, u587, u588, u589, u591, u592, u590, f596, f597, f598, f599, f600, f601) H locs ls ⟨hP, hD, hS, lv_sub hl [0, 1, 2, 3, 4, 5, 6] rfl, by omega, hw607⟩
        · obtain rfl : u586 = 0 := i_is c608 (by decide)
          refine W.eq (g2 := F0 m 44 ls [.int 0, .int g201]) rfl ?_
          refine lv_if_eq (tgt := 76) hx hb dX11_sames_44 (by decide) (fun c621 => ?_) (fun c621 => ?_)
          rotate_left
          · exact absurd c621 (by decide)
          refine lv_iconst (v := 0) hx hb dX11_sames_76 (by decide) ?_
          refine W.widen (k := 0) (n := 0) (Nat.le_of_ble_eq_true rfl) (Nat.le_of_ble_eq_true rfl) ?_
          exact jn578 (0, u593, u594, u595, u587, u588, u589, u591, u592, u590, f596, f597, f598, f599, f600, f601) H locs ls ⟨hP, hD, hS, lv_sub hl [0, 1, 2, 3, 4, 5, 6] rfl, by omega, hw607⟩
set_option maxHeartbeats 4000000 in
set_option maxRecDepth 100000 in
theorem m_sign (l : Launch) (D : va_G) (Y : Nat → ClassId) (Z : Nat → Nat) (sz : Nat) (o : Nat) (a : Nat → Nat) (I : Nat → Int32) (J : Nat → Int64) (F : Nat → Nat → Int32) (G : Nat → Nat → Int64) (p1 : Int32) (p2 : Int32) (p3 : Int32) (hk0 : TO (F 0)) (hk1 : LB (F 28)) (hk2 : TX (F 4) (F 9) (F 10) (F 11) (F 12) (F 13)) : Met l yX11_sign (.code yX11_sign cX11_sign 4 (some .int) :: GW) ({ frames := 8, cells := 0, slots := 0, locals := 195 }) (va_Pc [.ref o, .int p1, .int p2, .int p3] (CP D Y Z (MW Y o a I J F G) sz)) (QG (S := Int32 × Int32 × Int32 × Int32 × Int32 × Int64 × Int64 × Int32 × Int64 × Int64 × Int32 × Int64 × (Nat → Int32) × (Nat → Int32) × (Nat → Int64) × (Nat → Int32) × (Nat → Int64) × (Nat → Int32)) (fun u => some (.int u.1)) (fun u => LB u.2.2.2.2.2.2.2.2.2.2.2.2.2.1) (fun u => CB D (MW Y o a (upd (upd (upd (upd (upd (upd I 29 u.2.2.2.2.2.2.2.1) 32 u.2.2.2.2.2.2.2.2.2.2.1) 34 u.2.1) 35 u.2.2.1) 36 u.2.2.2.1) 39 u.2.2.2.2.1) (vp_updL (vp_updL (vp_updL (vp_updL (vp_updL J 30 u.2.2.2.2.2.2.2.2.1) 31 u.2.2.2.2.2.2.2.2.2.1) 33 u.2.2.2.2.2.2.2.2.2.2.2.1) 37 u.2.2.2.2.2.1) 38 u.2.2.2.2.2.2.1) (vf_upd (vf_upd (vf_upd (vf_upd F 1 u.2.2.2.2.2.2.2.2.2.2.2.2.1) 28 u.2.2.2.2.2.2.2.2.2.2.2.2.2.1) 41 u.2.2.2.2.2.2.2.2.2.2.2.2.2.2.2.1) 43 u.2.2.2.2.2.2.2.2.2.2.2.2.2.2.2.2.2) (vf_upd (vf_upd G 40 u.2.2.2.2.2.2.2.2.2.2.2.2.2.2.1) 42 u.2.2.2.2.2.2.2.2.2.2.2.2.2.2.2.2.1)) (va_A (MW Y o a I J F G) sz)) (va_A (MW Y o a I J F G) sz)) 0 0 (va_A (MW Y o a I J F G) sz) := by
  refine Met.ofW (cc := cX11_sign) (maxL := 4) (ret := (some .int)) (by decide) rfl ?_
  intro p e s m args below meth c s₁ B hml hv
  obtain ⟨rfl, hsz, hP, hKN, hD0⟩ := hv
  have hx := B.exec
  have hb := B.bytes
  have hr := B.returns
  have hts := atoms_spec (ws := .code yX11_sign cX11_sign 4 (some .int) :: GW) B.pre
  have hg : ∀ w ∈ GW, w.before _ s = true := fun w h => hts w (List.mem_cons_of_mem _ h)
  have hown : s.vm.findClass RX11 = some m.cls := findClass_of_methodNamed B.named
  have hlocks := B.notSynchronized
  subst hsz
  have hD := hD0.self (sz := s.heap.size)
  generalize hAe : va_A (MW Y o a I J F G) s.heap.size = A at hD ⊢
  have hA : ∀ q : Nat, s.heap.size ≤ q → A q := fun q h => by rw [← hAe]; exact Or.inr h
  clear hAe hD0 hts B
  have hl := lv_entry ([.ref o, .int p1, .int p2, .int p3]) (n := 4) (Nat.le_of_ble_eq_true rfl)
  rw [lg_entry_eq]
  generalize (lg_sl ([.ref o, .int p1, .int p2, .int p3]) ++ List.replicate (4 - (lg_sl ([.ref o, .int p1, .int p2, .int p3])).length) Slot.unset).toArray = ls at hl ⊢
  have hl : lv_has ls 4 [(0, .ref o), (1, .int p1), (2, .int p2), (3, .int p3)] := hl
  refine w_start (A0 := A) hP (fun H locs hP hS => ?_)
  refine lv_aload_n hx hb dX11_sign_0 rfl (lv_at hl 0 rfl) ?_
  refine lv_iconst (v := 1) hx hb dX11_sign_1 (by decide) ?_
  refine lv_iload_n hx hb dX11_sign_2 rfl (lv_at hl 1 rfl) ?_
  have zi1 : (1 : Int32).toInt = 1 := by decide
  refine cga (rn_V (As := [.int 1, .int p1]) (rest := []) (b := o) (m_isText1 l D Y Z H.size o a I J F G  p1 hk2) ⟨hx, hb, hml, hown, hg⟩ lk_X11_366 ⟨CP.blind, va_recv hKN.1 hP (ci := 11) (q0 := 0) rfl rfl, CP.at hP hKN hD⟩ ⟨⟨rfl, rfl⟩, ⟨Nat.le_of_ble_eq_true rfl, Nat.le_of_ble_eq_true rfl⟩, ⟨Nat.le_of_ble_eq_true rfl, Nat.le_of_ble_eq_true rfl⟩⟩ hl.1 rfl (Nat.le_of_ble_eq_true rfl) dX11_sign_3) hP hD hS hA (fun u1 H locs w2 hP hD hS => ?_)
  have w2 : ((0 ≤ p1.toInt ∧ p1.toInt ≤ 5 ∧ p1.toInt < ((F 4) 1).toInt ∧ u1.toInt = 1) ∨ u1.toInt = 0) ∧ (0 ≤ u1.toInt ∧ u1.toInt ≤ 1) := w2
  obtain ⟨hw4, hw5⟩ := w2
  refine W.eq (g2 := F0 m 6 ls [.int u1]) rfl ?_
  have hP : va_P D vwCl (MW Y o a I J F G) H := hP
  have hD : va_D A (MW Y o a I J F G) := hD
  rcases (show u1.toInt = 1 ∨ u1.toInt = 0 by omega) with c6 | c6
  · obtain rfl : u1 = 1 := i_is c6 (by decide)
    refine W.eq (g2 := F0 m 6 ls [.int 1]) rfl ?_
    refine lv_if_eq (tgt := 39) hx hb dX11_sign_6 (by decide) (fun c7 => ?_) (fun c7 => ?_)
    · exact absurd c7 (by decide)
    refine lv_aload_n hx hb dX11_sign_9 rfl (lv_at hl 0 rfl) ?_
    refine lv_iload_n hx hb dX11_sign_10 rfl (lv_at hl 2 rfl) ?_
    refine cga (rn_V (As := [.int p2]) (rest := []) (b := o) (m_isStar l D Y Z H.size o a I J F G  p2 hk0) ⟨hx, hb, hml, hown, hg⟩ lk_X11_108 ⟨CP.blind, va_recv hKN.1 hP (ci := 11) (q0 := 0) rfl rfl, CP.at hP hKN hD⟩ ⟨⟨rfl, rfl⟩, ⟨Nat.le_of_ble_eq_true rfl, Nat.le_of_ble_eq_true rfl⟩, ⟨Nat.le_of_ble_eq_true rfl, Nat.le_of_ble_eq_true rfl⟩⟩ hl.1 rfl (Nat.le_of_ble_eq_true rfl) dX11_sign_11) hP hD hS hA (fun u8 H locs w9 hP hD hS => ?_)
    have w9 : ((0 ≤ p2.toInt ∧ p2.toInt ≤ 11 ∧ p2.toInt < ((F 0) 0).toInt ∧ u8.toInt = 1) ∨ (¬ (0 ≤ p2.toInt ∧ p2.toInt < ((F 0) 0).toInt) ∧ u8.toInt = 0)) ∧ (0 ≤ u8.toInt ∧ u8.toInt ≤ 1) := w9
    obtain ⟨hw11, hw12⟩ := w9
    refine W.eq (g2 := F0 m 14 ls [.int u8]) rfl ?_
    have hP : va_P D vwCl (MW Y o a I J F G) H := hP
    have hD : va_D A (MW Y o a I J F G) := hD
    rcases (show u8.toInt = 1 ∨ u8.toInt = 0 by omega) with c13 | c13
    · obtain rfl : u8 = 1 := i_is c13 (by decide)
      refine W.eq (g2 := F0 m 14 ls [.int 1]) rfl ?_
      refine lv_if_eq (tgt := 39) hx hb dX11_sign_14 (by decide) (fun c14 => ?_) (fun c14 => ?_)
      · exact absurd c14 (by decide)
      refine lv_iload_n hx hb dX11_sign_17 rfl (lv_at hl 3 rfl) ?_
      have j15 := rgI p3
      have j16 := Int32.toInt_toInt64 p3
      refine lv_i2l (v := p3.toInt64) hx hb dX11_sign_18 (rfl) ?_
      refine lv_lconst (v := 0) hx hb dX11_sign_19 (by decide) ?_
      refine lv_ldc2 (v := 5) hx hb hown (hg _ kw_1409) dX11_sign_20 ?_
      have zl0 : (0 : Int64).toInt = 0 := by decide
      have zl5 : (5 : Int64).toInt = 5 := by decide
      refine cg0 (rn_S (As := [.long p3.toInt64, .long 0, .long 5]) (rest := []) (m_in l D Y Z H.size   p3.toInt64 0 5 ) ⟨hx, hb, hml, hown, hg⟩ lk_X11_99 ⟨CP.blind, CP.at nilP hKN (nilD (A := fun _ => True))⟩ ⟨⟨rfl, rfl⟩, ⟨Nat.le_of_ble_eq_true rfl, Nat.le_of_ble_eq_true rfl⟩, ⟨Nat.le_of_ble_eq_true rfl, Nat.le_of_ble_eq_true rfl⟩⟩ hl.1 rfl (Nat.le_of_ble_eq_true rfl) dX11_sign_23) hP hS hA (fun u17 H locs w18 hP hS => ?_)
      have w18 : (((0 : Int64).toInt ≤ p3.toInt64.toInt ∧ p3.toInt64.toInt ≤ (5 : Int64).toInt ∧ u17.toInt = 1) ∨ (¬ ((0 : Int64).toInt ≤ p3.toInt64.toInt ∧ p3.toInt64.toInt ≤ (5 : Int64).toInt) ∧ u17.toInt = 0)) ∧ (0 ≤ u17.toInt ∧ u17.toInt ≤ 1) := w18
      obtain ⟨hw20, hw21⟩ := w18
      refine W.eq (g2 := F0 m 26 ls [.int u17]) rfl ?_
      rcases (show u17.toInt = 1 ∨ u17.toInt = 0 by omega) with c22 | c22
      · obtain rfl : u17 = 1 := i_is c22 (by decide)
        refine W.eq (g2 := F0 m 26 ls [.int 1]) rfl ?_
        refine lv_if_eq (tgt := 39) hx hb dX11_sign_26 (by decide) (fun c23 => ?_) (fun c23 => ?_)
        · exact absurd c23 (by decide)
        refine lv_aload_n hx hb dX11_sign_29 rfl (lv_at hl 0 rfl) ?_
        refine lv_iload_n hx hb dX11_sign_30 rfl (lv_at hl 1 rfl) ?_
        refine lv_iload_n hx hb dX11_sign_31 rfl (lv_at hl 2 rfl) ?_
        refine lv_iconst (v := 0) hx hb dX11_sign_32 (by decide) ?_
        have zi0 : (0 : Int32).toInt = 0 := by decide
        refine cga (rn_V (As := [.int p1, .int p2, .int 0]) (rest := []) (b := o) (m_finds l D Y Z H.size o a I J F G  p1 p2 0 (show (0 ≤ p1.toInt ∧ p1.toInt ≤ 5) by omega) (show (p1.toInt < ((F 4) 1).toInt) by omega) (show (0 ≤ p2.toInt ∧ p2.toInt ≤ 11) by omega) (show (0 ≤ (0 : Int32).toInt ∧ (0 : Int32).toInt ≤ 5) by omega) hk0 hk1 hk2) ⟨hx, hb, hml, hown, hg⟩ lk_X11_487 ⟨CP.blind, va_recv hKN.1 hP (ci := 11) (q0 := 0) rfl rfl, CP.at hP hKN hD⟩ ⟨⟨rfl, rfl⟩, ⟨Nat.le_of_ble_eq_true rfl, Nat.le_of_ble_eq_true rfl⟩, ⟨Nat.le_of_ble_eq_true rfl, Nat.le_of_ble_eq_true rfl⟩⟩ hl.1 rfl (Nat.le_of_ble_eq_true rfl) dX11_sign_33) hP hD hS hA (fun u24 H locs w25 hP hD hS => ?_)
        obtain ⟨u26, u27, u28, u29, u30, u31, u32, u33, u34, u35, f36, f37, f38, f39, f40, f41⟩ := u24
        have w25 : ((u26.toInt = 1 ∧ 1 ≤ u32.toInt ∧ 2 ≤ u27.toInt ∧ u27.toInt ≤ 200 ∧ 1 ≤ u28.toInt ∧ u28.toInt ≤ 10 ∧ 0 ≤ u29.toInt ∧ u29.toInt < u27.toInt ∧ -9000000000000 ≤ u31.toInt ∧ u31.toInt ≤ 9000000000000 ∧ (cin f37 (u27.toInt).toNat (u28.toInt).toNat (u29.toInt).toNat 600 : Int) ≠ u33.toInt) ∨ u26.toInt = 0) ∧ (0 ≤ u26.toInt ∧ u26.toInt ≤ 1) ∧ (0 ≤ u33.toInt ∧ u33.toInt ≤ 600) ∧ (-60000000 ≤ u34.toInt ∧ u34.toInt ≤ 60000000) ∧ (1 ≤ u35.toInt) ∧ LB f37 := w25
        obtain ⟨hw42, hw43, hw44, hw45, hw46, hw47⟩ := w25
        refine W.eq (g2 := F0 m 36 ls [.int u26]) rfl ?_
        have hP : va_P D vwCl (MW Y o a (upd (upd (upd (upd (upd I 29 u33) 34 u27) 35 u28) 36 u29) 39 u30) (vp_updL (vp_updL (vp_updL (vp_updL J 30 u34) 31 u35) 37 u31) 38 u32) (vf_upd (vf_upd (vf_upd (vf_upd F 1 f36) 28 f37) 41 f39) 43 f41) (vf_upd (vf_upd G 40 f38) 42 f40)) H := hP
        have hD : va_D A (MW Y o a (upd (upd (upd (upd (upd I 29 u33) 34 u27) 35 u28) 36 u29) 39 u30) (vp_updL (vp_updL (vp_updL (vp_updL J 30 u34) 31 u35) 37 u31) 38 u32) (vf_upd (vf_upd (vf_upd (vf_upd F 1 f36) 28 f37) 41 f39) 43 f41) (vf_upd (vf_upd G 40 f38) 42 f40)) := hD
        rcases (show u26.toInt = 1 ∨ u26.toInt = 0 by omega) with c48 | c48
        · obtain rfl : u26 = 1 := i_is c48 (by decide)
          refine W.eq (g2 := F0 m 36 ls [.int 1]) rfl ?_
          refine lv_if_ne (tgt := 42) hx hb dX11_sign_36 (by decide) (fun c49 => ?_) (fun c49 => ?_)
          rotate_left
          · exact absurd c49 (by decide)
          refine lv_iload_n hx hb dX11_sign_42 rfl (lv_at hl 3 rfl) ?_
          rcases (show 4 < p3.toInt ∨ p3.toInt = 0 ∨ p3.toInt = 1 ∨ p3.toInt = 2 ∨ p3.toInt = 3 ∨ p3.toInt = 4 by omega) with c50 | c50 | c50 | c50 | c50 | c50
          · refine lv_tableOut (tgt := 109) hx hb dX11_sign_43 (Or.inr c50) (by decide) ?_
            refine lv_aload_n hx hb dX11_sign_109 rfl (lv_at hl 0 rfl) ?_
            refine cga (rn_V (As := []) (rest := []) (b := o) (m_lateness l D Y Z H.size o a (upd (upd (upd (upd (upd I 29 u33) 34 u27) 35 u28) 36 u29) 39 u30) (vp_updL (vp_updL (vp_updL (vp_updL J 30 u34) 31 u35) 37 u31) 38 u32) (vf_upd (vf_upd (vf_upd (vf_upd F 1 f36) 28 f37) 41 f39) 43 f41) (vf_upd (vf_upd G 40 f38) 42 f40)   (show (2 ≤ u27.toInt ∧ u27.toInt ≤ 200) by omega) (show (1 ≤ u28.toInt ∧ u28.toInt ≤ 10) by omega) (show (0 ≤ u29.toInt ∧ u29.toInt ≤ 199) by omega) (show (u29.toInt < u27.toInt) by omega)) ⟨hx, hb, hml, hown, hg⟩ lk_X11_538 ⟨CP.blind, va_recv hKN.1 hP (ci := 11) (q0 := 0) rfl rfl, CP.at hP hKN hD⟩ ⟨⟨rfl, rfl⟩, ⟨Nat.le_of_ble_eq_true rfl, Nat.le_of_ble_eq_true rfl⟩, ⟨Nat.le_of_ble_eq_true rfl, Nat.le_of_ble_eq_true rfl⟩⟩ hl.1 rfl (Nat.le_of_ble_eq_true rfl) dX11_sign_110) hP hD hS hA (fun u51 H locs w52 hP hD hS => ?_)
            refine W.eq (g2 := F0 m 113 ls [.int u51]) rfl ?_
            have hP : va_P D vwCl (MW Y o a (upd (upd (upd (upd (upd I 29 u33) 34 u27) 35 u28) 36 u29) 39 u30) (vp_updL (vp_updL (vp_updL (vp_updL J 30 u34) 31 u35) 37 u31) 38 u32) (vf_upd (vf_upd (vf_upd (vf_upd F 1 f36) 28 f37) 41 f39) 43 f41) (vf_upd (vf_upd G 40 f38) 42 f40)) H := hP
            have hD : va_D A (MW Y o a (upd (upd (upd (upd (upd I 29 u33) 34 u27) 35 u28) 36 u29) 39 u30) (vp_updL (vp_updL (vp_updL (vp_updL J 30 u34) 31 u35) 37 u31) 38 u32) (vf_upd (vf_upd (vf_upd (vf_upd F 1 f36) 28 f37) 41 f39) 43 f41) (vf_upd (vf_upd G 40 f38) 42 f40)) := hD
            refine W.widen (k := 0) (n := 0) (Nat.le_of_ble_eq_true rfl) (Nat.le_of_ble_eq_true rfl) ?_
            exact W.iret (v := u51) hx hb hr (fun t ht hW => ⟨⟨(u51, u27, u28, u29, u30, u31, u32, u33, u34, u35, (I 32), (J 33), f36, f37, f38, f39, f40, f41), rfl, (hw47), CB.mk ht hP hD⟩, hS.F ht⟩) hS.2.2 dX11_sign_113
          · refine lv_tableIn (off := 33) (tgt := 76) hx hb dX11_sign_43 (by rw [c50]; decide) (by rw [c50]; decide) (by rw [c50]; rfl) (by decide) ?_
            refine lv_aload_n hx hb dX11_sign_76 rfl (lv_at hl 0 rfl) ?_
            refine lv_iconst (v := 0) hx hb dX11_sign_77 (by decide) ?_
            refine cga (rn_V (As := [.int 0]) (rest := []) (b := o) (m_deepHalf l D Y Z H.size o a (upd (upd (upd (upd (upd I 29 u33) 34 u27) 35 u28) 36 u29) 39 u30) (vp_updL (vp_updL (vp_updL (vp_updL J 30 u34) 31 u35) 37 u31) 38 u32) (vf_upd (vf_upd (vf_upd (vf_upd F 1 f36) 28 f37) 41 f39) 43 f41) (vf_upd (vf_upd G 40 f38) 42 f40)  0 (show (2 ≤ u27.toInt ∧ u27.toInt ≤ 200) by omega) (show (1 ≤ u28.toInt ∧ u28.toInt ≤ 10) by omega) (show (0 ≤ u29.toInt ∧ u29.toInt ≤ 199) by omega) (show (u29.toInt < u27.toInt) by omega) (show (0 ≤ u33.toInt ∧ u33.toInt ≤ 600) by omega) (show ((cin f37 (u27.toInt).toNat (u28.toInt).toNat (u29.toInt).toNat 600 : Int) ≠ u33.toInt) by omega)) ⟨hx, hb, hml, hown, hg⟩ lk_X11_522 ⟨CP.blind, va_recv hKN.1 hP (ci := 11) (q0 := 0) rfl rfl, CP.at hP hKN hD⟩ ⟨⟨rfl, rfl⟩, ⟨Nat.le_of_ble_eq_true rfl, Nat.le_of_ble_eq_true rfl⟩, ⟨Nat.le_of_ble_eq_true rfl, Nat.le_of_ble_eq_true rfl⟩⟩ hl.1 rfl (Nat.le_of_ble_eq_true rfl) dX11_sign_78) hP hD hS hA (fun u54 H locs w55 hP hD hS => ?_)
            obtain ⟨u56, u57, u58⟩ := u54
            refine W.eq (g2 := F0 m 81 ls [.long u56]) rfl ?_
            have hP : va_P D vwCl (MW Y o a (upd (upd (upd (upd (upd (upd I 29 u33) 32 u57) 34 u27) 35 u28) 36 u29) 39 u30) (vp_updL (vp_updL (vp_updL (vp_updL (vp_updL J 30 u34) 31 u35) 33 u58) 37 u31) 38 u32) (vf_upd (vf_upd (vf_upd (vf_upd F 1 f36) 28 f37) 41 f39) 43 f41) (vf_upd (vf_upd G 40 f38) 42 f40)) H := hP
            have hD : va_D A (MW Y o a (upd (upd (upd (upd (upd (upd I 29 u33) 32 u57) 34 u27) 35 u28) 36 u29) 39 u30) (vp_updL (vp_updL (vp_updL (vp_updL (vp_updL J 30 u34) 31 u35) 33 u58) 37 u31) 38 u32) (vf_upd (vf_upd (vf_upd (vf_upd F 1 f36) 28 f37) 41 f39) 43 f41) (vf_upd (vf_upd G 40 f38) 42 f40)) := hD
            refine lv_l2i (v := u56.toInt32) hx hb dX11_sign_81 rfl ?_
            refine lv_topi (fun v59 ev59 => ?_)
            refine W.widen (k := 0) (n := 0) (Nat.le_of_ble_eq_true rfl) (Nat.le_of_ble_eq_true rfl) ?_
            exact W.iret (v := v59) hx hb hr (fun t ht hW => ⟨⟨(v59, u27, u28, u29, u30, u31, u32, u33, u34, u35, u57, u58, f36, f37, f38, f39, f40, f41), rfl, (hw47), CB.mk ht hP hD⟩, hS.F ht⟩) hS.2.2 dX11_sign_82
          · refine lv_tableIn (off := 40) (tgt := 83) hx hb dX11_sign_43 (by rw [c50]; decide) (by rw [c50]; decide) (by rw [c50]; rfl) (by decide) ?_
            refine lv_aload_n hx hb dX11_sign_83 rfl (lv_at hl 0 rfl) ?_
            refine lv_iconst (v := 1) hx hb dX11_sign_84 (by decide) ?_
            refine cga (rn_V (As := [.int 1]) (rest := []) (b := o) (m_deepHalf l D Y Z H.size o a (upd (upd (upd (upd (upd I 29 u33) 34 u27) 35 u28) 36 u29) 39 u30) (vp_updL (vp_updL (vp_updL (vp_updL J 30 u34) 31 u35) 37 u31) 38 u32) (vf_upd (vf_upd (vf_upd (vf_upd F 1 f36) 28 f37) 41 f39) 43 f41) (vf_upd (vf_upd G 40 f38) 42 f40)  1 (show (2 ≤ u27.toInt ∧ u27.toInt ≤ 200) by omega) (show (1 ≤ u28.toInt ∧ u28.toInt ≤ 10) by omega) (show (0 ≤ u29.toInt ∧ u29.toInt ≤ 199) by omega) (show (u29.toInt < u27.toInt) by omega) (show (0 ≤ u33.toInt ∧ u33.toInt ≤ 600) by omega) (show ((cin f37 (u27.toInt).toNat (u28.toInt).toNat (u29.toInt).toNat 600 : Int) ≠ u33.toInt) by omega)) ⟨hx, hb, hml, hown, hg⟩ lk_X11_522 ⟨CP.blind, va_recv hKN.1 hP (ci := 11) (q0 := 0) rfl rfl, CP.at hP hKN hD⟩ ⟨⟨rfl, rfl⟩, ⟨Nat.le_of_ble_eq_true rfl, Nat.le_of_ble_eq_true rfl⟩, ⟨Nat.le_of_ble_eq_true rfl, Nat.le_of_ble_eq_true rfl⟩⟩ hl.1 rfl (Nat.le_of_ble_eq_true rfl) dX11_sign_85) hP hD hS hA (fun u60 H locs w61 hP hD hS => ?_)
            obtain ⟨u62, u63, u64⟩ := u60
            refine W.eq (g2 := F0 m 88 ls [.long u62]) rfl ?_
            have hP : va_P D vwCl (MW Y o a (upd (upd (upd (upd (upd (upd I 29 u33) 32 u63) 34 u27) 35 u28) 36 u29) 39 u30) (vp_updL (vp_updL (vp_updL (vp_updL (vp_updL J 30 u34) 31 u35) 33 u64) 37 u31) 38 u32) (vf_upd (vf_upd (vf_upd (vf_upd F 1 f36) 28 f37) 41 f39) 43 f41) (vf_upd (vf_upd G 40 f38) 42 f40)) H := hP
            have hD : va_D A (MW Y o a (upd (upd (upd (upd (upd (upd I 29 u33) 32 u63) 34 u27) 35 u28) 36 u29) 39 u30) (vp_updL (vp_updL (vp_updL (vp_updL (vp_updL J 30 u34) 31 u35) 33 u64) 37 u31) 38 u32) (vf_upd (vf_upd (vf_upd (vf_upd F 1 f36) 28 f37) 41 f39) 43 f41) (vf_upd (vf_upd G 40 f38) 42 f40)) := hD
            refine lv_l2i (v := u62.toInt32) hx hb dX11_sign_88 rfl ?_
            refine lv_topi (fun v65 ev65 => ?_)
            refine W.widen (k := 0) (n := 0) (Nat.le_of_ble_eq_true rfl) (Nat.le_of_ble_eq_true rfl) ?_
            exact W.iret (v := v65) hx hb hr (fun t ht hW => ⟨⟨(v65, u27, u28, u29, u30, u31, u32, u33, u34, u35, u63, u64, f36, f37, f38, f39, f40, f41), rfl, (hw47), CB.mk ht hP hD⟩, hS.F ht⟩) hS.2.2 dX11_sign_89
          · refine lv_tableIn (off := 47) (tgt := 90) hx hb dX11_sign_43 (by rw [c50]; decide) (by rw [c50]; decide) (by rw [c50]; rfl) (by decide) ?_
            refine lv_aload_n hx hb dX11_sign_90 rfl (lv_at hl 0 rfl) ?_
            refine cga (rn_V (As := []) (rest := []) (b := o) (m_oddness l D Y Z H.size o a (upd (upd (upd (upd (upd I 29 u33) 34 u27) 35 u28) 36 u29) 39 u30) (vp_updL (vp_updL (vp_updL (vp_updL J 30 u34) 31 u35) 37 u31) 38 u32) (vf_upd (vf_upd (vf_upd (vf_upd F 1 f36) 28 f37) 41 f39) 43 f41) (vf_upd (vf_upd G 40 f38) 42 f40)   (show (2 ≤ u27.toInt ∧ u27.toInt ≤ 200) by omega) (show (1 ≤ u28.toInt ∧ u28.toInt ≤ 10) by omega) (show (0 ≤ u29.toInt ∧ u29.toInt ≤ 199) by omega) (show (u29.toInt < u27.toInt) by omega) (show (0 ≤ u33.toInt ∧ u33.toInt ≤ 600) by omega) (show ((cin f37 (u27.toInt).toNat (u28.toInt).toNat (u29.toInt).toNat 600 : Int) ≠ u33.toInt) by omega)) ⟨hx, hb, hml, hown, hg⟩ lk_X11_529 ⟨CP.blind, va_recv hKN.1 hP (ci := 11) (q0 := 0) rfl rfl, CP.at hP hKN hD⟩ ⟨⟨rfl, rfl⟩, ⟨Nat.le_of_ble_eq_true rfl, Nat.le_of_ble_eq_true rfl⟩, ⟨Nat.le_of_ble_eq_true rfl, Nat.le_of_ble_eq_true rfl⟩⟩ hl.1 rfl (Nat.le_of_ble_eq_true rfl) dX11_sign_91) hP hD hS hA (fun u66 H locs w67 hP hD hS => ?_)
            obtain ⟨u68, u69, u70⟩ := u66
            refine W.eq (g2 := F0 m 94 ls [.long u68]) rfl ?_
            have hP : va_P D vwCl (MW Y o a (upd (upd (upd (upd (upd (upd I 29 u33) 32 u69) 34 u27) 35 u28) 36 u29) 39 u30) (vp_updL (vp_updL (vp_updL (vp_updL (vp_updL J 30 u34) 31 u35) 33 u70) 37 u31) 38 u32) (vf_upd (vf_upd (vf_upd (vf_upd F 1 f36) 28 f37) 41 f39) 43 f41) (vf_upd (vf_upd G 40 f38) 42 f40)) H := hP
            have hD : va_D A (MW Y o a (upd (upd (upd (upd (upd (upd I 29 u33) 32 u69) 34 u27) 35 u28) 36 u29) 39 u30) (vp_updL (vp_updL (vp_updL (vp_updL (vp_updL J 30 u34) 31 u35) 33 u70) 37 u31) 38 u32) (vf_upd (vf_upd (vf_upd (vf_upd F 1 f36) 28 f37) 41 f39) 43 f41) (vf_upd (vf_upd G 40 f38) 42 f40)) := hD
            refine lv_l2i (v := u68.toInt32) hx hb dX11_sign_94 rfl ?_
            refine lv_topi (fun v71 ev71 => ?_)
            refine W.widen (k := 0) (n := 0) (Nat.le_of_ble_eq_true rfl) (Nat.le_of_ble_eq_true rfl) ?_
            exact W.iret (v := v71) hx hb hr (fun t ht hW => ⟨⟨(v71, u27, u28, u29, u30, u31, u32, u33, u34, u35, u69, u70, f36, f37, f38, f39, f40, f41), rfl, (hw47), CB.mk ht hP hD⟩, hS.F ht⟩) hS.2.2 dX11_sign_95
          · refine lv_tableIn (off := 53) (tgt := 96) hx hb dX11_sign_43 (by rw [c50]; decide) (by rw [c50]; decide) (by rw [c50]; rfl) (by decide) ?_
            refine lv_aload_n hx hb dX11_sign_96 rfl (lv_at hl 0 rfl) ?_
            refine cga (rn_V (As := []) (rest := []) (b := o) (m_shapeOf l D Y Z H.size o a (upd (upd (upd (upd (upd I 29 u33) 34 u27) 35 u28) 36 u29) 39 u30) (vp_updL (vp_updL (vp_updL (vp_updL J 30 u34) 31 u35) 37 u31) 38 u32) (vf_upd (vf_upd (vf_upd (vf_upd F 1 f36) 28 f37) 41 f39) 43 f41) (vf_upd (vf_upd G 40 f38) 42 f40)   (show (2 ≤ u27.toInt ∧ u27.toInt ≤ 200) by omega) (show (1 ≤ u28.toInt ∧ u28.toInt ≤ 10) by omega) (show (0 ≤ u29.toInt ∧ u29.toInt ≤ 199) by omega) (show (u29.toInt < u27.toInt) by omega) (show (0 ≤ u33.toInt ∧ u33.toInt ≤ 600) by omega) (show ((cin f37 (u27.toInt).toNat (u28.toInt).toNat (u29.toInt).toNat 600 : Int) ≠ u33.toInt) by omega)) ⟨hx, hb, hml, hown, hg⟩ lk_X11_532 ⟨CP.blind, va_recv hKN.1 hP (ci := 11) (q0 := 0) rfl rfl, CP.at hP hKN hD⟩ ⟨⟨rfl, rfl⟩, ⟨Nat.le_of_ble_eq_true rfl, Nat.le_of_ble_eq_true rfl⟩, ⟨Nat.le_of_ble_eq_true rfl, Nat.le_of_ble_eq_true rfl⟩⟩ hl.1 rfl (Nat.le_of_ble_eq_true rfl) dX11_sign_97) hP hD hS hA (fun u72 H locs w73 hP hD hS => ?_)
            obtain ⟨u74, u75, u76⟩ := u72
            refine W.eq (g2 := F0 m 100 ls [.long u74]) rfl ?_
            have hP : va_P D vwCl (MW Y o a (upd (upd (upd (upd (upd (upd I 29 u33) 32 u75) 34 u27) 35 u28) 36 u29) 39 u30) (vp_updL (vp_updL (vp_updL (vp_updL (vp_updL J 30 u34) 31 u35) 33 u76) 37 u31) 38 u32) (vf_upd (vf_upd (vf_upd (vf_upd F 1 f36) 28 f37) 41 f39) 43 f41) (vf_upd (vf_upd G 40 f38) 42 f40)) H := hP
            have hD : va_D A (MW Y o a (upd (upd (upd (upd (upd (upd I 29 u33) 32 u75) 34 u27) 35 u28) 36 u29) 39 u30) (vp_updL (vp_updL (vp_updL (vp_updL (vp_updL J 30 u34) 31 u35) 33 u76) 37 u31) 38 u32) (vf_upd (vf_upd (vf_upd (vf_upd F 1 f36) 28 f37) 41 f39) 43 f41) (vf_upd (vf_upd G 40 f38) 42 f40)) := hD
            refine lv_l2i (v := u74.toInt32) hx hb dX11_sign_100 rfl ?_
            refine lv_topi (fun v77 ev77 => ?_)
            refine W.widen (k := 0) (n := 0) (Nat.le_of_ble_eq_true rfl) (Nat.le_of_ble_eq_true rfl) ?_
            exact W.iret (v := v77) hx hb hr (fun t ht hW => ⟨⟨(v77, u27, u28, u29, u30, u31, u32, u33, u34, u35, u75, u76, f36, f37, f38, f39, f40, f41), rfl, (hw47), CB.mk ht hP hD⟩, hS.F ht⟩) hS.2.2 dX11_sign_101
          · refine lv_tableIn (off := 59) (tgt := 102) hx hb dX11_sign_43 (by rw [c50]; decide) (by rw [c50]; decide) (by rw [c50]; rfl) (by decide) ?_
            refine lv_aload_n hx hb dX11_sign_102 rfl (lv_at hl 0 rfl) ?_
            refine lv_iload_n hx hb dX11_sign_103 rfl (lv_at hl 1 rfl) ?_
            refine lv_iload_n hx hb dX11_sign_104 rfl (lv_at hl 2 rfl) ?_
            refine cga (rn_V (As := [.int p1, .int p2]) (rest := []) (b := o) (m_sames l D Y Z H.size o a (upd (upd (upd (upd (upd I 29 u33) 34 u27) 35 u28) 36 u29) 39 u30) (vp_updL (vp_updL (vp_updL (vp_updL J 30 u34) 31 u35) 37 u31) 38 u32) (vf_upd (vf_upd (vf_upd (vf_upd F 1 f36) 28 f37) 41 f39) 43 f41) (vf_upd (vf_upd G 40 f38) 42 f40)  p1 p2 (show (0 ≤ p1.toInt ∧ p1.toInt ≤ 5) by omega) (show (p1.toInt < ((F 4) 1).toInt) by omega) (show (0 ≤ p2.toInt ∧ p2.toInt ≤ 11) by omega) hk0 hw47 hk2) ⟨hx, hb, hml, hown, hg⟩ lk_X11_535 ⟨CP.blind, va_recv hKN.1 hP (ci := 11) (q0 := 0) rfl rfl, CP.at hP hKN hD⟩ ⟨⟨rfl, rfl⟩, ⟨Nat.le_of_ble_eq_true rfl, Nat.le_of_ble_eq_true rfl⟩, ⟨Nat.le_of_ble_eq_true rfl, Nat.le_of_ble_eq_true rfl⟩⟩ hl.1 rfl (Nat.le_of_ble_eq_true rfl) dX11_sign_105) hP hD hS hA (fun u78 H locs w79 hP hD hS => ?_)
            obtain ⟨u80, u81, u82, u83, u84, u85, u86, u87, u88, u89, f90, f91, f92, f93, f94, f95⟩ := u78
            have w79 : LB f91 := w79
            have hw96 := w79
            refine W.eq (g2 := F0 m 108 ls [.int u80]) rfl ?_
            have hP : va_P D vwCl (MW Y o a (upd (upd (upd (upd (upd I 29 u87) 34 u81) 35 u82) 36 u83) 39 u84) (vp_updL (vp_updL (vp_updL (vp_updL J 30 u88) 31 u89) 37 u85) 38 u86) (vf_upd (vf_upd (vf_upd (vf_upd F 1 f90) 28 f91) 41 f93) 43 f95) (vf_upd (vf_upd G 40 f92) 42 f94)) H := hP
            have hD : va_D A (MW Y o a (upd (upd (upd (upd (upd I 29 u87) 34 u81) 35 u82) 36 u83) 39 u84) (vp_updL (vp_updL (vp_updL (vp_updL J 30 u88) 31 u89) 37 u85) 38 u86) (vf_upd (vf_upd (vf_upd (vf_upd F 1 f90) 28 f91) 41 f93) 43 f95) (vf_upd (vf_upd G 40 f92) 42 f94)) := hD
            refine W.widen (k := 0) (n := 0) (Nat.le_of_ble_eq_true rfl) (Nat.le_of_ble_eq_true rfl) ?_
            exact W.iret (v := u80) hx hb hr (fun t ht hW => ⟨⟨(u80, u81, u82, u83, u84, u85, u86, u87, u88, u89, (I 32), (J 33), f90, f91, f92, f93, f94, f95), rfl, (hw96), CB.mk ht hP hD⟩, hS.F ht⟩) hS.2.2 dX11_sign_108
        · obtain rfl : u26 = 0 := i_is c48 (by decide)
          refine W.eq (g2 := F0 m 36 ls [.int 0]) rfl ?_
          refine lv_if_ne (tgt := 42) hx hb dX11_sign_36 (by decide) (fun c97 => ?_) (fun c97 => ?_)
          · exact absurd c97 (by decide)
          refine lv_ldc (v := (-200000)) hx hb hown (hg _ kw_1381) dX11_sign_39 ?_
          refine W.widen (k := 0) (n := 0) (Nat.le_of_ble_eq_true rfl) (Nat.le_of_ble_eq_true rfl) ?_
          have zim200000 : ((-200000) : Int32).toInt = -200000 := by decide
          exact W.iret (v := (-200000)) hx hb hr (fun t ht hW => ⟨⟨((-200000), u27, u28, u29, u30, u31, u32, u33, u34, u35, (I 32), (J 33), f36, f37, f38, f39, f40, f41), rfl, (hw47), CB.mk ht hP hD⟩, hS.F ht⟩) hS.2.2 dX11_sign_41
      · obtain rfl : u17 = 0 := i_is c22 (by decide)
        have zi0 : (0 : Int32).toInt = 0 := by decide
        refine W.eq (g2 := F0 m 26 ls [.int 0]) rfl ?_
        refine lv_if_eq (tgt := 39) hx hb dX11_sign_26 (by decide) (fun c98 => ?_) (fun c98 => ?_)
        rotate_left
        · exact absurd c98 (by decide)
        refine lv_ldc (v := (-200000)) hx hb hown (hg _ kw_1381) dX11_sign_39 ?_
        refine W.widen (k := 0) (n := 0) (Nat.le_of_ble_eq_true rfl) (Nat.le_of_ble_eq_true rfl) ?_
        have zim200000 : ((-200000) : Int32).toInt = -200000 := by decide
        exact W.iret (v := (-200000)) hx hb hr (fun t ht hW => ⟨⟨((-200000), (I 34), (I 35), (I 36), (I 39), (J 37), (J 38), (I 29), (J 30), (J 31), (I 32), (J 33), (F 1), (F 28), (G 40), (F 41), (G 42), (F 43)), rfl, (hk1), CB.mk ht hP hD⟩, hS.F ht⟩) hS.2.2 dX11_sign_41
    · obtain rfl : u8 = 0 := i_is c13 (by decide)
      have zi0 : (0 : Int32).toInt = 0 := by decide
      refine W.eq (g2 := F0 m 14 ls [.int 0]) rfl ?_
      refine lv_if_eq (tgt := 39) hx hb dX11_sign_14 (by decide) (fun c99 => ?_) (fun c99 => ?_)
      rotate_left
      · exact absurd c99 (by decide)
      refine lv_ldc (v := (-200000)) hx hb hown (hg _ kw_1381) dX11_sign_39 ?_
      refine W.widen (k := 0) (n := 0) (Nat.le_of_ble_eq_true rfl) (Nat.le_of_ble_eq_true rfl) ?_
      have zim200000 : ((-200000) : Int32).toInt = -200000 := by decide
      exact W.iret (v := (-200000)) hx hb hr (fun t ht hW => ⟨⟨((-200000), (I 34), (I 35), (I 36), (I 39), (J 37), (J 38), (I 29), (J 30), (J 31), (I 32), (J 33), (F 1), (F 28), (G 40), (F 41), (G 42), (F 43)), rfl, (hk1), CB.mk ht hP hD⟩, hS.F ht⟩) hS.2.2 dX11_sign_41
  · obtain rfl : u1 = 0 := i_is c6 (by decide)
    have zi0 : (0 : Int32).toInt = 0 := by decide
    refine W.eq (g2 := F0 m 6 ls [.int 0]) rfl ?_
    refine lv_if_eq (tgt := 39) hx hb dX11_sign_6 (by decide) (fun c100 => ?_) (fun c100 => ?_)
    rotate_left
    · exact absurd c100 (by decide)
    refine lv_ldc (v := (-200000)) hx hb hown (hg _ kw_1381) dX11_sign_39 ?_
    refine W.widen (k := 0) (n := 0) (Nat.le_of_ble_eq_true rfl) (Nat.le_of_ble_eq_true rfl) ?_
    have zim200000 : ((-200000) : Int32).toInt = -200000 := by decide
    exact W.iret (v := (-200000)) hx hb hr (fun t ht hW => ⟨⟨((-200000), (I 34), (I 35), (I 36), (I 39), (J 37), (J 38), (I 29), (J 30), (J 31), (I 32), (J 33), (F 1), (F 28), (G 40), (F 41), (G 42), (F 43)), rfl, (hk1), CB.mk ht hP hD⟩, hS.F ht⟩) hS.2.2 dX11_sign_41
