set_option maxHeartbeats 4000000 in
set_option maxRecDepth 100000 in
theorem m_finds (l : Launch) (D : va_G) (Y : Nat → ClassId) (Z : Nat → Nat) (sz : Nat) (o : Nat) (a : Nat → Nat) (I : Nat → Int32) (J : Nat → Int64) (F : Nat → Nat → Int32) (G : Nat → Nat → Int64) (p1 : Int32) (p2 : Int32) (p3 : Int32) (hk_0 : (0 ≤ p1.toInt ∧ p1.toInt ≤ 5)) (hk_1 : (p1.toInt < ((F 4) 1).toInt)) (hk_2 : (0 ≤ p2.toInt ∧ p2.toInt ≤ 11)) (hk_3 : (0 ≤ p3.toInt ∧ p3.toInt ≤ 5)) (hk0 : TO (F 0)) (hk1 : LB (F 28)) (hk2 : TX (F 4) (F 9) (F 10) (F 11) (F 12) (F 13)) : Met l yX11_finds (.code yX11_finds cX11_finds 4 (some .boolean) :: GW) ({ frames := 6, cells := 0, slots := 0, locals := 146 }) (va_Pc [.ref o, .int p1, .int p2, .int p3] (CP D Y Z (MW Y o a I J F G) sz)) (QG (S := Int32 × Int32 × Int32 × Int32 × Int32 × Int64 × Int64 × Int32 × Int64 × Int64 × (Nat → Int32) × (Nat → Int32) × (Nat → Int64) × (Nat → Int32) × (Nat → Int64) × (Nat → Int32)) (fun u => some (.int u.1)) (fun u => ((u.1.toInt = 1 ∧ 1 ≤ u.2.2.2.2.2.2.1.toInt ∧ 2 ≤ u.2.1.toInt ∧ u.2.1.toInt ≤ 200 ∧ 1 ≤ u.2.2.1.toInt ∧ u.2.2.1.toInt ≤ 10 ∧ 0 ≤ u.2.2.2.1.toInt ∧ u.2.2.2.1.toInt < u.2.1.toInt ∧ -9000000000000 ≤ u.2.2.2.2.2.1.toInt ∧ u.2.2.2.2.2.1.toInt ≤ 9000000000000 ∧ (cin u.2.2.2.2.2.2.2.2.2.2.2.1 (u.2.1.toInt).toNat (u.2.2.1.toInt).toNat (u.2.2.2.1.toInt).toNat 600 : Int) ≠ u.2.2.2.2.2.2.2.1.toInt) ∨ u.1.toInt = 0) ∧ (0 ≤ u.1.toInt ∧ u.1.toInt ≤ 1) ∧ (0 ≤ u.2.2.2.2.2.2.2.1.toInt ∧ u.2.2.2.2.2.2.2.1.toInt ≤ 600) ∧ (-60000000 ≤ u.2.2.2.2.2.2.2.2.1.toInt ∧ u.2.2.2.2.2.2.2.2.1.toInt ≤ 60000000) ∧ (1 ≤ u.2.2.2.2.2.2.2.2.2.1.toInt) ∧ LB u.2.2.2.2.2.2.2.2.2.2.2.1) (fun u => CB D (MW Y o a (upd (upd (upd (upd (upd I 29 u.2.2.2.2.2.2.2.1) 34 u.2.1) 35 u.2.2.1) 36 u.2.2.2.1) 39 u.2.2.2.2.1) (vp_updL (vp_updL (vp_updL (vp_updL J 30 u.2.2.2.2.2.2.2.2.1) 31 u.2.2.2.2.2.2.2.2.2.1) 37 u.2.2.2.2.2.1) 38 u.2.2.2.2.2.2.1) (vf_upd (vf_upd (vf_upd (vf_upd F 1 u.2.2.2.2.2.2.2.2.2.2.1) 28 u.2.2.2.2.2.2.2.2.2.2.2.1) 41 u.2.2.2.2.2.2.2.2.2.2.2.2.2.1) 43 u.2.2.2.2.2.2.2.2.2.2.2.2.2.2.2) (vf_upd (vf_upd G 40 u.2.2.2.2.2.2.2.2.2.2.2.2.1) 42 u.2.2.2.2.2.2.2.2.2.2.2.2.2.2.1)) (va_A (MW Y o a I J F G) sz)) (va_A (MW Y o a I J F G) sz)) 0 0 (va_A (MW Y o a I J F G) sz) := by
  refine Met.ofW (cc := cX11_finds) (maxL := 4) (ret := (some .boolean)) (by decide) rfl ?_
  intro p e s m args below meth c s₁ B hml hv
  obtain ⟨rfl, hsz, hP, hKN, hD0⟩ := hv
  have hx := B.exec
  have hb := B.bytes
  have hr := B.returns
  have hts := atoms_spec (ws := .code yX11_finds cX11_finds 4 (some .boolean) :: GW) B.pre
  have hg : ∀ w ∈ GW, w.before _ s = true := fun w h => hts w (List.mem_cons_of_mem _ h)
  have hown : s.vm.findClass RX11 = some m.cls := findClass_of_methodNamed B.named
  have hlocks := B.notSynchronized
  subst hsz
  have hD := hD0.self (sz := s.heap.size)
  generalize hAe : va_A (MW Y o a I J F G) s.heap.size = A at hD ⊢
  have hA : ∀ q : Nat, s.heap.size ≤ q → A q := fun q h => by rw [← hAe]; exact Or.inr h
  clear hAe hD0 hts B
  have hl := lv_entry ([.ref o, .int p1, .int p2, .int p3]) (n := 4) (Nat.le_of_ble_eq_true rfl)
  rw [lg_entry_eq]
  generalize (lg_sl ([.ref o, .int p1, .int p2, .int p3]) ++ List.replicate (4 - (lg_sl ([.ref o, .int p1, .int p2, .int p3])).length) Slot.unset).toArray = ls at hl ⊢
  have hl : lv_has ls 4 [(0, .ref o), (1, .int p1), (2, .int p2), (3, .int p3)] := hl
  refine w_start (A0 := A) hP (fun H locs hP hS => ?_)
  refine lv_aload_n hx hb dX11_finds_0 rfl (lv_at hl 0 rfl) ?_
  refine lv_iload_n hx hb dX11_finds_1 rfl (lv_at hl 2 rfl) ?_
  refine lv_iload_n hx hb dX11_finds_2 rfl (lv_at hl 3 rfl) ?_
  refine cga (rn_V (As := [.int p2, .int p3]) (rest := []) (b := o) (m_lifts l D Y Z H.size o a I J F G  p2 p3 (show (0 ≤ p2.toInt ∧ p2.toInt ≤ 11) by omega) (show (0 ≤ p3.toInt ∧ p3.toInt ≤ 5) by omega) hk0 hk1) ⟨hx, hb, hml, hown, hg⟩ lk_X11_406 ⟨CP.blind, va_recv hKN.1 hP (ci := 11) (q0 := 0) rfl rfl, CP.at hP hKN hD⟩ ⟨⟨rfl, rfl⟩, ⟨Nat.le_of_ble_eq_true rfl, Nat.le_of_ble_eq_true rfl⟩, ⟨Nat.le_of_ble_eq_true rfl, Nat.le_of_ble_eq_true rfl⟩⟩ hl.1 rfl (Nat.le_of_ble_eq_true rfl) dX11_finds_3) hP hD hS hA (fun u1 H locs w2 hP hD hS => ?_)
  obtain ⟨u3, u4, u5, f6, f7⟩ := u1
  have w2 : (0 ≤ u3.toInt ∧ u3.toInt ≤ 600) ∧ (-60000000 ≤ u4.toInt ∧ u4.toInt ≤ 60000000) ∧ (1 ≤ u5.toInt) ∧ LB f7 := w2
  obtain ⟨hw8, hw9, hw10, hw11⟩ := w2
  refine W.eq (g2 := F0 m 6 ls []) rfl ?_
  have hP : va_P D vwCl (MW Y o a (upd I 29 u3) (vp_updL (vp_updL J 30 u4) 31 u5) (vf_upd (vf_upd F 1 f6) 28 f7) G) H := hP
  have hD : va_D A (MW Y o a (upd I 29 u3) (vp_updL (vp_updL J 30 u4) 31 u5) (vf_upd (vf_upd F 1 f6) 28 f7) G) := hD
  refine lv_aload_n hx hb dX11_finds_6 rfl (lv_at hl 0 rfl) ?_
  refine lv_iload_n hx hb dX11_finds_7 rfl (lv_at hl 1 rfl) ?_
  refine cga (rn_V (As := [.int p1]) (rest := []) (b := o) (m_seeks l D Y Z H.size o a (upd I 29 u3) (vp_updL (vp_updL J 30 u4) 31 u5) (vf_upd (vf_upd F 1 f6) 28 f7) G  p1 (show (0 ≤ p1.toInt ∧ p1.toInt ≤ 5) by omega) (show (p1.toInt < ((F 4) 1).toInt) by omega) (show (0 ≤ u3.toInt ∧ u3.toInt ≤ 600) by omega) (show (-60000000 ≤ u4.toInt ∧ u4.toInt ≤ 60000000) by omega) (show (1 ≤ u5.toInt) by omega) hw11 hk2) ⟨hx, hb, hml, hown, hg⟩ lk_X11_480 ⟨CP.blind, va_recv hKN.1 hP (ci := 11) (q0 := 0) rfl rfl, CP.at hP hKN hD⟩ ⟨⟨rfl, rfl⟩, ⟨Nat.le_of_ble_eq_true rfl, Nat.le_of_ble_eq_true rfl⟩, ⟨Nat.le_of_ble_eq_true rfl, Nat.le_of_ble_eq_true rfl⟩⟩ hl.1 rfl (Nat.le_of_ble_eq_true rfl) dX11_finds_8) hP hD hS hA (fun u12 H locs w13 hP hD hS => ?_)
  obtain ⟨u14, u15, u16, u17, u18, u19, u20, f21, f22, f23, f24⟩ := u12
  have w13 : ((u14.toInt = 1 ∧ 1 ≤ u20.toInt ∧ 2 ≤ u15.toInt ∧ u15.toInt ≤ 200 ∧ 1 ≤ u16.toInt ∧ u16.toInt ≤ 10 ∧ 0 ≤ u17.toInt ∧ u17.toInt < u15.toInt ∧ -9000000000000 ≤ u19.toInt ∧ u19.toInt ≤ 9000000000000 ∧ (cin f7 (u15.toInt).toNat (u16.toInt).toNat (u17.toInt).toNat 600 : Int) ≠ u3.toInt) ∨ u14.toInt = 0) ∧ (0 ≤ u14.toInt ∧ u14.toInt ≤ 1) := w13
  obtain ⟨hw25, hw26⟩ := w13
  refine W.eq (g2 := F0 m 11 ls [.int u14]) rfl ?_
  have hP : va_P D vwCl (MW Y o a (upd (upd (upd (upd (upd I 29 u3) 34 u15) 35 u16) 36 u17) 39 u18) (vp_updL (vp_updL (vp_updL (vp_updL J 30 u4) 31 u5) 37 u19) 38 u20) (vf_upd (vf_upd (vf_upd (vf_upd F 1 f6) 28 f7) 41 f22) 43 f24) (vf_upd (vf_upd G 40 f21) 42 f23)) H := hP
  have hD : va_D A (MW Y o a (upd (upd (upd (upd (upd I 29 u3) 34 u15) 35 u16) 36 u17) 39 u18) (vp_updL (vp_updL (vp_updL (vp_updL J 30 u4) 31 u5) 37 u19) 38 u20) (vf_upd (vf_upd (vf_upd (vf_upd F 1 f6) 28 f7) 41 f22) 43 f24) (vf_upd (vf_upd G 40 f21) 42 f23)) := hD
  rcases (show u14.toInt = 1 ∨ u14.toInt = 0 by omega) with c27 | c27
  · obtain rfl : u14 = 1 := i_is c27 (by decide)
    have zi1 : (1 : Int32).toInt = 1 := by decide
    refine W.eq (g2 := F0 m 11 ls [.int 1]) rfl ?_
    refine W.widen (k := 0) (n := 0) (Nat.le_of_ble_eq_true rfl) (Nat.le_of_ble_eq_true rfl) ?_
    exact W.zret (v := 1) hx hb hr (by decide) (fun t ht hW => ⟨⟨(1, u15, u16, u17, u18, u19, u20, u3, u4, u5, f6, f7, f21, f22, f23, f24), rfl, ⟨(show (((1 : Int32).toInt = 1 ∧ 1 ≤ u20.toInt ∧ 2 ≤ u15.toInt ∧ u15.toInt ≤ 200 ∧ 1 ≤ u16.toInt ∧ u16.toInt ≤ 10 ∧ 0 ≤ u17.toInt ∧ u17.toInt < u15.toInt ∧ -9000000000000 ≤ u19.toInt ∧ u19.toInt ≤ 9000000000000 ∧ (cin f7 (u15.toInt).toNat (u16.toInt).toNat (u17.toInt).toNat 600 : Int) ≠ u3.toInt) ∨ (1 : Int32).toInt = 0) by omega), (show (0 ≤ (1 : Int32).toInt ∧ (1 : Int32).toInt ≤ 1) by omega), (show (0 ≤ u3.toInt ∧ u3.toInt ≤ 600) by omega), (show (-60000000 ≤ u4.toInt ∧ u4.toInt ≤ 60000000) by omega), (show (1 ≤ u5.toInt) by omega), hw11⟩, CB.mk ht hP hD⟩, hS.F ht⟩) hS.2.2 dX11_finds_11
  · obtain rfl : u14 = 0 := i_is c27 (by decide)
    have zi0 : (0 : Int32).toInt = 0 := by decide
    refine W.eq (g2 := F0 m 11 ls [.int 0]) rfl ?_
    refine W.widen (k := 0) (n := 0) (Nat.le_of_ble_eq_true rfl) (Nat.le_of_ble_eq_true rfl) ?_
    exact W.zret (v := 0) hx hb hr (by decide) (fun t ht hW => ⟨⟨(0, u15, u16, u17, u18, u19, u20, u3, u4, u5, f6, f7, f21, f22, f23, f24), rfl, ⟨(show (((0 : Int32).toInt = 1 ∧ 1 ≤ u20.toInt ∧ 2 ≤ u15.toInt ∧ u15.toInt ≤ 200 ∧ 1 ≤ u16.toInt ∧ u16.toInt ≤ 10 ∧ 0 ≤ u17.toInt ∧ u17.toInt < u15.toInt ∧ -9000000000000 ≤ u19.toInt ∧ u19.toInt ≤ 9000000000000 ∧ (cin f7 (u15.toInt).toNat (u16.toInt).toNat (u17.toInt).toNat 600 : Int) ≠ u3.toInt) ∨ (0 : Int32).toInt = 0) by omega), (show (0 ≤ (0 : Int32).toInt ∧ (0 : Int32).toInt ≤ 1) by omega), (show (0 ≤ u3.toInt ∧ u3.toInt ≤ 600) by omega), (show (-60000000 ≤ u4.toInt ∧ u4.toInt ≤ 60000000) by omega), (show (1 ≤ u5.toInt) by omega), hw11⟩, CB.mk ht hP hD⟩, hS.F ht⟩) hS.2.2 dX11_finds_11
set_option maxHeartbeats 4000000 in
set_option maxRecDepth 100000 in
theorem m_isSeen (l : Launch) (D : va_G) (Y : Nat → ClassId) (Z : Nat → Nat) (sz : Nat) (o : Nat) (a : Nat → Nat) (I : Nat → Int32) (J : Nat → Int64) (F : Nat → Nat → Int32) (G : Nat → Nat → Int64) (p1 : Int32) (hk_0 : (0 ≤ p1.toInt ∧ p1.toInt ≤ 5)) : Met l yX11_isSeen (.code yX11_isSeen cX11_isSeen 2 (some .boolean) :: GW) ({ frames := 0, cells := 0, slots := 0, locals := 0 }) (va_Pc [.ref o, .int p1] (CP D Y Z (MW Y o a I J F G) sz)) (QG (S := Int32) (fun u => some (.int u)) (fun u => (0 ≤ u.toInt ∧ u.toInt ≤ 1)) (fun u => CB D (MW Y o a I J F G) (va_A (MW Y o a I J F G) sz)) (va_A (MW Y o a I J F G) sz)) 0 0 (va_A (MW Y o a I J F G) sz) := by
  refine Met.ofW (cc := cX11_isSeen) (maxL := 2) (ret := (some .boolean)) (by decide) rfl ?_
  intro p e s m args below meth c s₁ B hml hv
  obtain ⟨rfl, hsz, hP, hKN, hD0⟩ := hv
  have hx := B.exec
  have hb := B.bytes
  have hr := B.returns
  have hts := atoms_spec (ws := .code yX11_isSeen cX11_isSeen 2 (some .boolean) :: GW) B.pre
  have hg : ∀ w ∈ GW, w.before _ s = true := fun w h => hts w (List.mem_cons_of_mem _ h)
  have hown : s.vm.findClass RX11 = some m.cls := findClass_of_methodNamed B.named
  have hlocks := B.notSynchronized
  subst hsz
  have hD := hD0.self (sz := s.heap.size)
  generalize hAe : va_A (MW Y o a I J F G) s.heap.size = A at hD ⊢
  have hA : ∀ q : Nat, s.heap.size ≤ q → A q := fun q h => by rw [← hAe]; exact Or.inr h
  clear hAe hD0 hts B
  have hl := lv_entry ([.ref o, .int p1]) (n := 2) (Nat.le_of_ble_eq_true rfl)
  rw [lg_entry_eq]
  generalize (lg_sl ([.ref o, .int p1]) ++ List.replicate (2 - (lg_sl ([.ref o, .int p1])).length) Slot.unset).toArray = ls at hl ⊢
  have hl : lv_has ls 2 [(0, .ref o), (1, .int p1)] := hl
  refine w_start (A0 := A) hP (fun H locs hP hS => ?_)
  refine lv_aload_n hx hb dX11_isSeen_0 rfl (lv_at hl 0 rfl) ?_
  refine va_get (D := D) (ci := 11) (v := .long (J 38)) (C := RX11) (T := TX11) (N := 49) hx hb hg inGX11 hown hKN.1 hP 0 rfl rfl 38 (by decide) (hg _ kw_1246) (fun _ h9 => h9) rfl dX11_isSeen_1 ?_
  refine lv_aload_n hx hb dX11_isSeen_4 rfl (lv_at hl 0 rfl) ?_
  refine va_get (D := D) (ci := 11) (v := .ref (a 15)) (C := RX11) (T := TX11) (N := 49) hx hb hg inGX11 hown hKN.1 hP 0 rfl rfl 15 (by decide) (hg _ kw_1223) (fun _ h9 => h9) rfl dX11_isSeen_5 ?_
  refine lv_bipush (v := 6) hx hb dX11_isSeen_8 (by decide) ?_
  refine lv_iload_n hx hb dX11_isSeen_10 rfl (lv_at hl 1 rfl) ?_
  refine lv_iadd hx hb dX11_isSeen_11 ?_
  refine lv_topi (fun v1 ev1 => ?_)
  have hv1 := i_add (show (6 : Int32).toInt = 6 by decide) (Eq.refl p1.toInt) ev1 (by omega) (by omega)
  refine va_iald hx hb hKN.1 hP 15 0 rfl rfl (vp_in_iff.mpr ⟨by omega, by omega⟩) dX11_isSeen_12 ?_
  refine lv_topi (fun v2 ev2 => ?_)
  have ev2 : v2 = (F 15) v1.toNatClampNeg := ev2
  have j3 := rgI v2
  have j4 := Int32.toInt_toInt64 v2
  refine lv_i2l (v := v2.toInt64) hx hb dX11_isSeen_13 (rfl) ?_
  refine W.lcmp hx hb dX11_isSeen_14 ?_
  refine lv_if_lt (tgt := 22) hx hb dX11_isSeen_15 (by decide) (fun c6 => ?_) (fun c6 => ?_)
  · skip
    have c6 := l_lt (Eq.refl (J 38).toInt) (Int32.toInt_toInt64 v2) c6
    refine lv_iconst (v := 0) hx hb dX11_isSeen_22 (by decide) ?_
    refine W.widen (k := 0) (n := 0) (Nat.le_of_ble_eq_true rfl) (Nat.le_of_ble_eq_true rfl) ?_
    have zi0 : (0 : Int32).toInt = 0 := by decide
    exact W.zret (v := 0) hx hb hr (by decide) (fun t ht hW => ⟨⟨0, rfl, ((show (0 ≤ (0 : Int32).toInt ∧ (0 : Int32).toInt ≤ 1) by omega)), CB.mk ht hP hD⟩, hS.F ht⟩) hS.2.2 dX11_isSeen_23
  · skip
    have c6 := l_nlt (Eq.refl (J 38).toInt) (Int32.toInt_toInt64 v2) c6
    refine lv_iconst (v := 1) hx hb dX11_isSeen_18 (by decide) ?_
    refine lv_goto (tgt := 23) hx hb dX11_isSeen_19 (by decide) ?_
    refine W.widen (k := 0) (n := 0) (Nat.le_of_ble_eq_true rfl) (Nat.le_of_ble_eq_true rfl) ?_
    have zi1 : (1 : Int32).toInt = 1 := by decide
    exact W.zret (v := 1) hx hb hr (by decide) (fun t ht hW => ⟨⟨1, rfl, ((show (0 ≤ (1 : Int32).toInt ∧ (1 : Int32).toInt ≤ 1) by omega)), CB.mk ht hP hD⟩, hS.F ht⟩) hS.2.2 dX11_isSeen_23
set_option maxHeartbeats 4000000 in
set_option maxRecDepth 100000 in
theorem m_tells (l : Launch) (D : va_G) (Y : Nat → ClassId) (Z : Nat → Nat) (sz : Nat) (o : Nat) (a : Nat → Nat) (I : Nat → Int32) (J : Nat → Int64) (F : Nat → Nat → Int32) (G : Nat → Nat → Int64) (p1 : Int32) (p2 : Int32) (hk_0 : (0 ≤ p1.toInt ∧ p1.toInt ≤ 5)) : Met l yX11_tells (.code yX11_tells cX11_tells 3 (some .long) :: GW) ({ frames := 1, cells := 0, slots := 0, locals := 21 }) (va_Pc [.ref o, .int p1, .int p2] (CP D Y Z (MW Y o a I J F G) sz)) (QG (S := Int64) (fun u => some (.long u)) (fun u => True) (fun u => CB D (MW Y o a I J F G) (va_A (MW Y o a I J F G) sz)) (va_A (MW Y o a I J F G) sz)) 0 0 (va_A (MW Y o a I J F G) sz) := by
  refine Met.ofW (cc := cX11_tells) (maxL := 3) (ret := (some .long)) (by decide) rfl ?_
  intro p e s m args below meth c s₁ B hml hv
  obtain ⟨rfl, hsz, hP, hKN, hD0⟩ := hv
  have hx := B.exec
  have hb := B.bytes
  have hr := B.returns
  have hts := atoms_spec (ws := .code yX11_tells cX11_tells 3 (some .long) :: GW) B.pre
  have hg : ∀ w ∈ GW, w.before _ s = true := fun w h => hts w (List.mem_cons_of_mem _ h)
  have hown : s.vm.findClass RX11 = some m.cls := findClass_of_methodNamed B.named
  have hlocks := B.notSynchronized
  subst hsz
  have hD := hD0.self (sz := s.heap.size)
  generalize hAe : va_A (MW Y o a I J F G) s.heap.size = A at hD ⊢
  have hA : ∀ q : Nat, s.heap.size ≤ q → A q := fun q h => by rw [← hAe]; exact Or.inr h
  clear hAe hD0 hts B
  have hl := lv_entry ([.ref o, .int p1, .int p2]) (n := 3) (Nat.le_of_ble_eq_true rfl)
  rw [lg_entry_eq]
  generalize (lg_sl ([.ref o, .int p1, .int p2]) ++ List.replicate (3 - (lg_sl ([.ref o, .int p1, .int p2])).length) Slot.unset).toArray = ls at hl ⊢
  have hl : lv_has ls 3 [(0, .ref o), (1, .int p1), (2, .int p2)] := hl
  refine w_start (A0 := A) hP (fun H locs hP hS => ?_)
  refine lv_iload_n hx hb dX11_tells_0 rfl (lv_at hl 2 rfl) ?_
  rcases (show p2.toInt < 0 ∨ 5 < p2.toInt ∨ p2.toInt = 0 ∨ p2.toInt = 1 ∨ p2.toInt = 2 ∨ p2.toInt = 3 ∨ p2.toInt = 4 ∨ p2.toInt = 5 by omega) with c1 | c1 | c1 | c1 | c1 | c1 | c1 | c1
  · refine lv_tableOut (tgt := 74) hx hb dX11_tells_1 (Or.inl c1) (by decide) ?_
    refine lv_aload_n hx hb dX11_tells_74 rfl (lv_at hl 0 rfl) ?_
    refine lv_iload_n hx hb dX11_tells_75 rfl (lv_at hl 1 rfl) ?_
    refine cga (rn_V (As := [.int p1]) (rest := []) (b := o) (m_isSeen l D Y Z H.size o a I J F G  p1 (show (0 ≤ p1.toInt ∧ p1.toInt ≤ 5) by omega)) ⟨hx, hb, hml, hown, hg⟩ lk_X11_494 ⟨CP.blind, va_recv hKN.1 hP (ci := 11) (q0 := 0) rfl rfl, CP.at hP hKN hD⟩ ⟨⟨rfl, rfl⟩, ⟨Nat.le_of_ble_eq_true rfl, Nat.le_of_ble_eq_true rfl⟩, ⟨Nat.le_of_ble_eq_true rfl, Nat.le_of_ble_eq_true rfl⟩⟩ hl.1 rfl (Nat.le_of_ble_eq_true rfl) dX11_tells_76) hP hD hS hA (fun u2 H locs w3 hP hD hS => ?_)
    have w3 : (0 ≤ u2.toInt ∧ u2.toInt ≤ 1) := w3
    have hw5 := w3
    refine W.eq (g2 := F0 m 79 ls [.int u2]) rfl ?_
    have hP : va_P D vwCl (MW Y o a I J F G) H := hP
    have hD : va_D A (MW Y o a I J F G) := hD
    rcases (show u2.toInt = 1 ∨ u2.toInt = 0 by omega) with c6 | c6
    · obtain rfl : u2 = 1 := i_is c6 (by decide)
      have zi1 : (1 : Int32).toInt = 1 := by decide
      refine W.eq (g2 := F0 m 79 ls [.int 1]) rfl ?_
      refine lv_if_eq (tgt := 86) hx hb dX11_tells_79 (by decide) (fun c8 => ?_) (fun c8 => ?_)
      · exact absurd c8 (by decide)
      refine lv_lconst (v := 1) hx hb dX11_tells_82 (by decide) ?_
      refine lv_goto (tgt := 87) hx hb dX11_tells_83 (by decide) ?_
      refine W.widen (k := 0) (n := 0) (Nat.le_of_ble_eq_true rfl) (Nat.le_of_ble_eq_true rfl) ?_
      have zl1 : (1 : Int64).toInt = 1 := by decide
      exact W.lret (v := 1) hx hb hr (fun t ht hW => ⟨⟨1, rfl, trivial, CB.mk ht hP hD⟩, hS.F ht⟩) hS.2.2 dX11_tells_87
    · obtain rfl : u2 = 0 := i_is c6 (by decide)
      have zi0 : (0 : Int32).toInt = 0 := by decide
      refine W.eq (g2 := F0 m 79 ls [.int 0]) rfl ?_
      refine lv_if_eq (tgt := 86) hx hb dX11_tells_79 (by decide) (fun c10 => ?_) (fun c10 => ?_)
      rotate_left
      · exact absurd c10 (by decide)
      refine lv_lconst (v := 0) hx hb dX11_tells_86 (by decide) ?_
      refine W.widen (k := 0) (n := 0) (Nat.le_of_ble_eq_true rfl) (Nat.le_of_ble_eq_true rfl) ?_
      have zl0 : (0 : Int64).toInt = 0 := by decide
      exact W.lret (v := 0) hx hb hr (fun t ht hW => ⟨⟨0, rfl, trivial, CB.mk ht hP hD⟩, hS.F ht⟩) hS.2.2 dX11_tells_87
  · refine lv_tableOut (tgt := 74) hx hb dX11_tells_1 (Or.inr c1) (by decide) ?_
    refine lv_aload_n hx hb dX11_tells_74 rfl (lv_at hl 0 rfl) ?_
    refine lv_iload_n hx hb dX11_tells_75 rfl (lv_at hl 1 rfl) ?_
    refine cga (rn_V (As := [.int p1]) (rest := []) (b := o) (m_isSeen l D Y Z H.size o a I J F G  p1 (show (0 ≤ p1.toInt ∧ p1.toInt ≤ 5) by omega)) ⟨hx, hb, hml, hown, hg⟩ lk_X11_494 ⟨CP.blind, va_recv hKN.1 hP (ci := 11) (q0 := 0) rfl rfl, CP.at hP hKN hD⟩ ⟨⟨rfl, rfl⟩, ⟨Nat.le_of_ble_eq_true rfl, Nat.le_of_ble_eq_true rfl⟩, ⟨Nat.le_of_ble_eq_true rfl, Nat.le_of_ble_eq_true rfl⟩⟩ hl.1 rfl (Nat.le_of_ble_eq_true rfl) dX11_tells_76) hP hD hS hA (fun u11 H locs w12 hP hD hS => ?_)
    have w12 : (0 ≤ u11.toInt ∧ u11.toInt ≤ 1) := w12
    have hw14 := w12
    refine W.eq (g2 := F0 m 79 ls [.int u11]) rfl ?_
    have hP : va_P D vwCl (MW Y o a I J F G) H := hP
    have hD : va_D A (MW Y o a I J F G) := hD
    rcases (show u11.toInt = 1 ∨ u11.toInt = 0 by omega) with c15 | c15
    · obtain rfl : u11 = 1 := i_is c15 (by decide)
      have zi1 : (1 : Int32).toInt = 1 := by decide
      refine W.eq (g2 := F0 m 79 ls [.int 1]) rfl ?_
      refine lv_if_eq (tgt := 86) hx hb dX11_tells_79 (by decide) (fun c17 => ?_) (fun c17 => ?_)
      · exact absurd c17 (by decide)
      refine lv_lconst (v := 1) hx hb dX11_tells_82 (by decide) ?_
      refine lv_goto (tgt := 87) hx hb dX11_tells_83 (by decide) ?_
      refine W.widen (k := 0) (n := 0) (Nat.le_of_ble_eq_true rfl) (Nat.le_of_ble_eq_true rfl) ?_
      have zl1 : (1 : Int64).toInt = 1 := by decide
      exact W.lret (v := 1) hx hb hr (fun t ht hW => ⟨⟨1, rfl, trivial, CB.mk ht hP hD⟩, hS.F ht⟩) hS.2.2 dX11_tells_87
    · obtain rfl : u11 = 0 := i_is c15 (by decide)
      have zi0 : (0 : Int32).toInt = 0 := by decide
      refine W.eq (g2 := F0 m 79 ls [.int 0]) rfl ?_
      refine lv_if_eq (tgt := 86) hx hb dX11_tells_79 (by decide) (fun c19 => ?_) (fun c19 => ?_)
      rotate_left
      · exact absurd c19 (by decide)
      refine lv_lconst (v := 0) hx hb dX11_tells_86 (by decide) ?_
      refine W.widen (k := 0) (n := 0) (Nat.le_of_ble_eq_true rfl) (Nat.le_of_ble_eq_true rfl) ?_
      have zl0 : (0 : Int64).toInt = 0 := by decide
      exact W.lret (v := 0) hx hb hr (fun t ht hW => ⟨⟨0, rfl, trivial, CB.mk ht hP hD⟩, hS.F ht⟩) hS.2.2 dX11_tells_87
  · refine lv_tableIn (off := 39) (tgt := 40) hx hb dX11_tells_1 (by rw [c1]; decide) (by rw [c1]; decide) (by rw [c1]; rfl) (by decide) ?_
    refine lv_aload_n hx hb dX11_tells_40 rfl (lv_at hl 0 rfl) ?_
    refine va_get (D := D) (ci := 11) (v := .int (I 34)) (C := RX11) (T := TX11) (N := 49) hx hb hg inGX11 hown hKN.1 hP 0 rfl rfl 34 (by decide) (hg _ kw_1242) (fun _ h9 => h9) rfl dX11_tells_41 ?_
    have j20 := rgI (I 34)
    have j21 := Int32.toInt_toInt64 (I 34)
    refine lv_i2l (v := (I 34).toInt64) hx hb dX11_tells_44 (rfl) ?_
    refine W.widen (k := 0) (n := 0) (Nat.le_of_ble_eq_true rfl) (Nat.le_of_ble_eq_true rfl) ?_
    exact W.lret (v := (I 34).toInt64) hx hb hr (fun t ht hW => ⟨⟨(I 34).toInt64, rfl, trivial, CB.mk ht hP hD⟩, hS.F ht⟩) hS.2.2 dX11_tells_45
  · refine lv_tableIn (off := 45) (tgt := 46) hx hb dX11_tells_1 (by rw [c1]; decide) (by rw [c1]; decide) (by rw [c1]; rfl) (by decide) ?_
    refine lv_aload_n hx hb dX11_tells_46 rfl (lv_at hl 0 rfl) ?_
    refine va_get (D := D) (ci := 11) (v := .int (I 35)) (C := RX11) (T := TX11) (N := 49) hx hb hg inGX11 hown hKN.1 hP 0 rfl rfl 35 (by decide) (hg _ kw_1243) (fun _ h9 => h9) rfl dX11_tells_47 ?_
    have j22 := rgI (I 35)
    have j23 := Int32.toInt_toInt64 (I 35)
    refine lv_i2l (v := (I 35).toInt64) hx hb dX11_tells_50 (rfl) ?_
    refine W.widen (k := 0) (n := 0) (Nat.le_of_ble_eq_true rfl) (Nat.le_of_ble_eq_true rfl) ?_
    exact W.lret (v := (I 35).toInt64) hx hb hr (fun t ht hW => ⟨⟨(I 35).toInt64, rfl, trivial, CB.mk ht hP hD⟩, hS.F ht⟩) hS.2.2 dX11_tells_51
  · refine lv_tableIn (off := 51) (tgt := 52) hx hb dX11_tells_1 (by rw [c1]; decide) (by rw [c1]; decide) (by rw [c1]; rfl) (by decide) ?_
    refine lv_aload_n hx hb dX11_tells_52 rfl (lv_at hl 0 rfl) ?_
    refine va_get (D := D) (ci := 11) (v := .int (I 36)) (C := RX11) (T := TX11) (N := 49) hx hb hg inGX11 hown hKN.1 hP 0 rfl rfl 36 (by decide) (hg _ kw_1244) (fun _ h9 => h9) rfl dX11_tells_53 ?_
    have j24 := rgI (I 36)
    have j25 := Int32.toInt_toInt64 (I 36)
    refine lv_i2l (v := (I 36).toInt64) hx hb dX11_tells_56 (rfl) ?_
    refine W.widen (k := 0) (n := 0) (Nat.le_of_ble_eq_true rfl) (Nat.le_of_ble_eq_true rfl) ?_
    exact W.lret (v := (I 36).toInt64) hx hb hr (fun t ht hW => ⟨⟨(I 36).toInt64, rfl, trivial, CB.mk ht hP hD⟩, hS.F ht⟩) hS.2.2 dX11_tells_57
  · refine lv_tableIn (off := 57) (tgt := 58) hx hb dX11_tells_1 (by rw [c1]; decide) (by rw [c1]; decide) (by rw [c1]; rfl) (by decide) ?_
    refine lv_aload_n hx hb dX11_tells_58 rfl (lv_at hl 0 rfl) ?_
    refine va_get (D := D) (ci := 11) (v := .long (J 37)) (C := RX11) (T := TX11) (N := 49) hx hb hg inGX11 hown hKN.1 hP 0 rfl rfl 37 (by decide) (hg _ kw_1245) (fun _ h9 => h9) rfl dX11_tells_59 ?_
    refine W.widen (k := 0) (n := 0) (Nat.le_of_ble_eq_true rfl) (Nat.le_of_ble_eq_true rfl) ?_
    exact W.lret (v := (J 37)) hx hb hr (fun t ht hW => ⟨⟨(J 37), rfl, trivial, CB.mk ht hP hD⟩, hS.F ht⟩) hS.2.2 dX11_tells_62
  · refine lv_tableIn (off := 62) (tgt := 63) hx hb dX11_tells_1 (by rw [c1]; decide) (by rw [c1]; decide) (by rw [c1]; rfl) (by decide) ?_
    refine lv_aload_n hx hb dX11_tells_63 rfl (lv_at hl 0 rfl) ?_
    refine va_get (D := D) (ci := 11) (v := .long (J 38)) (C := RX11) (T := TX11) (N := 49) hx hb hg inGX11 hown hKN.1 hP 0 rfl rfl 38 (by decide) (hg _ kw_1246) (fun _ h9 => h9) rfl dX11_tells_64 ?_
    refine W.widen (k := 0) (n := 0) (Nat.le_of_ble_eq_true rfl) (Nat.le_of_ble_eq_true rfl) ?_
    exact W.lret (v := (J 38)) hx hb hr (fun t ht hW => ⟨⟨(J 38), rfl, trivial, CB.mk ht hP hD⟩, hS.F ht⟩) hS.2.2 dX11_tells_67
  · refine lv_tableIn (off := 67) (tgt := 68) hx hb dX11_tells_1 (by rw [c1]; decide) (by rw [c1]; decide) (by rw [c1]; rfl) (by decide) ?_
    refine lv_aload_n hx hb dX11_tells_68 rfl (lv_at hl 0 rfl) ?_
    refine va_get (D := D) (ci := 11) (v := .int (I 39)) (C := RX11) (T := TX11) (N := 49) hx hb hg inGX11 hown hKN.1 hP 0 rfl rfl 39 (by decide) (hg _ kw_1247) (fun _ h9 => h9) rfl dX11_tells_69 ?_
    have j26 := rgI (I 39)
    have j27 := Int32.toInt_toInt64 (I 39)
    refine lv_i2l (v := (I 39).toInt64) hx hb dX11_tells_72 (rfl) ?_
    refine W.widen (k := 0) (n := 0) (Nat.le_of_ble_eq_true rfl) (Nat.le_of_ble_eq_true rfl) ?_
    exact W.lret (v := (I 39).toInt64) hx hb hr (fun t ht hW => ⟨⟨(I 39).toInt64, rfl, trivial, CB.mk ht hP hD⟩, hS.F ht⟩) hS.2.2 dX11_tells_73
set_option maxHeartbeats 4000000 in
set_option maxRecDepth 100000 in
theorem m_found (l : Launch) (D : va_G) (Y : Nat → ClassId) (Z : Nat → Nat) (sz : Nat) (o : Nat) (a : Nat → Nat) (I : Nat → Int32) (J : Nat → Int64) (F : Nat → Nat → Int32) (G : Nat → Nat → Int64) (p1 : Int32) (p2 : Int32) (p3 : Int32) (p4 : Int32) (hk0 : TO (F 0)) (hk1 : LB (F 28)) (hk2 : TX (F 4) (F 9) (F 10) (F 11) (F 12) (F 13)) : Met l yX11_found (.code yX11_found cX11_found 5 (some .long) :: GW) ({ frames := 7, cells := 0, slots := 0, locals := 169 }) (va_Pc [.ref o, .int p1, .int p2, .int p3, .int p4] (CP D Y Z (MW Y o a I J F G) sz)) (QG (S := Int64 × Int32 × Int32 × Int32 × Int32 × Int64 × Int64 × Int32 × Int64 × Int64 × (Nat → Int32) × (Nat → Int32) × (Nat → Int64) × (Nat → Int32) × (Nat → Int64) × (Nat → Int32)) (fun u => some (.long u.1)) (fun u => LB u.2.2.2.2.2.2.2.2.2.2.2.1) (fun u => CB D (MW Y o a (upd (upd (upd (upd (upd I 29 u.2.2.2.2.2.2.2.1) 34 u.2.1) 35 u.2.2.1) 36 u.2.2.2.1) 39 u.2.2.2.2.1) (vp_updL (vp_updL (vp_updL (vp_updL J 30 u.2.2.2.2.2.2.2.2.1) 31 u.2.2.2.2.2.2.2.2.2.1) 37 u.2.2.2.2.2.1) 38 u.2.2.2.2.2.2.1) (vf_upd (vf_upd (vf_upd (vf_upd F 1 u.2.2.2.2.2.2.2.2.2.2.1) 28 u.2.2.2.2.2.2.2.2.2.2.2.1) 41 u.2.2.2.2.2.2.2.2.2.2.2.2.2.1) 43 u.2.2.2.2.2.2.2.2.2.2.2.2.2.2.2) (vf_upd (vf_upd G 40 u.2.2.2.2.2.2.2.2.2.2.2.2.1) 42 u.2.2.2.2.2.2.2.2.2.2.2.2.2.2.1)) (va_A (MW Y o a I J F G) sz)) (va_A (MW Y o a I J F G) sz)) 0 0 (va_A (MW Y o a I J F G) sz) := by
  refine Met.ofW (cc := cX11_found) (maxL := 5) (ret := (some .long)) (by decide) rfl ?_
  intro p e s m args below meth c s₁ B hml hv
  obtain ⟨rfl, hsz, hP, hKN, hD0⟩ := hv
  have hx := B.exec
  have hb := B.bytes
  have hr := B.returns
  have hts := atoms_spec (ws := .code yX11_found cX11_found 5 (some .long) :: GW) B.pre
  have hg : ∀ w ∈ GW, w.before _ s = true := fun w h => hts w (List.mem_cons_of_mem _ h)
  have hown : s.vm.findClass RX11 = some m.cls := findClass_of_methodNamed B.named
  have hlocks := B.notSynchronized
  subst hsz
  have hD := hD0.self (sz := s.heap.size)
  generalize hAe : va_A (MW Y o a I J F G) s.heap.size = A at hD ⊢
  have hA : ∀ q : Nat, s.heap.size ≤ q → A q := fun q h => by rw [← hAe]; exact Or.inr h
  clear hAe hD0 hts B
  have hl := lv_entry ([.ref o, .int p1, .int p2, .int p3, .int p4]) (n := 5) (Nat.le_of_ble_eq_true rfl)
  rw [lg_entry_eq]
  generalize (lg_sl ([.ref o, .int p1, .int p2, .int p3, .int p4]) ++ List.replicate (5 - (lg_sl ([.ref o, .int p1, .int p2, .int p3, .int p4])).length) Slot.unset).toArray = ls at hl ⊢
  have hl : lv_has ls 5 [(0, .ref o), (1, .int p1), (2, .int p2), (3, .int p3), (4, .int p4)] := hl
  refine w_start (A0 := A) hP (fun H locs hP hS => ?_)
  refine lv_aload_n hx hb dX11_found_0 rfl (lv_at hl 0 rfl) ?_
  refine lv_iconst (v := 1) hx hb dX11_found_1 (by decide) ?_
  refine lv_iload_n hx hb dX11_found_2 rfl (lv_at hl 1 rfl) ?_
  have zi1 : (1 : Int32).toInt = 1 := by decide
  refine cga (rn_V (As := [.int 1, .int p1]) (rest := []) (b := o) (m_isText1 l D Y Z H.size o a I J F G  p1 hk2) ⟨hx, hb, hml, hown, hg⟩ lk_X11_366 ⟨CP.blind, va_recv hKN.1 hP (ci := 11) (q0 := 0) rfl rfl, CP.at hP hKN hD⟩ ⟨⟨rfl, rfl⟩, ⟨Nat.le_of_ble_eq_true rfl, Nat.le_of_ble_eq_true rfl⟩, ⟨Nat.le_of_ble_eq_true rfl, Nat.le_of_ble_eq_true rfl⟩⟩ hl.1 rfl (Nat.le_of_ble_eq_true rfl) dX11_found_3) hP hD hS hA (fun u1 H locs w2 hP hD hS => ?_)
  have w2 : ((0 ≤ p1.toInt ∧ p1.toInt ≤ 5 ∧ p1.toInt < ((F 4) 1).toInt ∧ u1.toInt = 1) ∨ u1.toInt = 0) ∧ (0 ≤ u1.toInt ∧ u1.toInt ≤ 1) := w2
  obtain ⟨hw4, hw5⟩ := w2
  refine W.eq (g2 := F0 m 6 ls [.int u1]) rfl ?_
  have hP : va_P D vwCl (MW Y o a I J F G) H := hP
  have hD : va_D A (MW Y o a I J F G) := hD
  rcases (show u1.toInt = 1 ∨ u1.toInt = 0 by omega) with c6 | c6
  · obtain rfl : u1 = 1 := i_is c6 (by decide)
    refine W.eq (g2 := F0 m 6 ls [.int 1]) rfl ?_
    refine lv_if_eq (tgt := 42) hx hb dX11_found_6 (by decide) (fun c7 => ?_) (fun c7 => ?_)
    · exact absurd c7 (by decide)
    refine lv_aload_n hx hb dX11_found_9 rfl (lv_at hl 0 rfl) ?_
    refine lv_iload_n hx hb dX11_found_10 rfl (lv_at hl 2 rfl) ?_
    refine cga (rn_V (As := [.int p2]) (rest := []) (b := o) (m_isStar l D Y Z H.size o a I J F G  p2 hk0) ⟨hx, hb, hml, hown, hg⟩ lk_X11_108 ⟨CP.blind, va_recv hKN.1 hP (ci := 11) (q0 := 0) rfl rfl, CP.at hP hKN hD⟩ ⟨⟨rfl, rfl⟩, ⟨Nat.le_of_ble_eq_true rfl, Nat.le_of_ble_eq_true rfl⟩, ⟨Nat.le_of_ble_eq_true rfl, Nat.le_of_ble_eq_true rfl⟩⟩ hl.1 rfl (Nat.le_of_ble_eq_true rfl) dX11_found_11) hP hD hS hA (fun u8 H locs w9 hP hD hS => ?_)
    have w9 : ((0 ≤ p2.toInt ∧ p2.toInt ≤ 11 ∧ p2.toInt < ((F 0) 0).toInt ∧ u8.toInt = 1) ∨ (¬ (0 ≤ p2.toInt ∧ p2.toInt < ((F 0) 0).toInt) ∧ u8.toInt = 0)) ∧ (0 ≤ u8.toInt ∧ u8.toInt ≤ 1) := w9
    obtain ⟨hw11, hw12⟩ := w9
    refine W.eq (g2 := F0 m 14 ls [.int u8]) rfl ?_
    have hP : va_P D vwCl (MW Y o a I J F G) H := hP
    have hD : va_D A (MW Y o a I J F G) := hD
    rcases (show u8.toInt = 1 ∨ u8.toInt = 0 by omega) with c13 | c13
    · obtain rfl : u8 = 1 := i_is c13 (by decide)
      refine W.eq (g2 := F0 m 14 ls [.int 1]) rfl ?_
      refine lv_if_eq (tgt := 42) hx hb dX11_found_14 (by decide) (fun c14 => ?_) (fun c14 => ?_)
      · exact absurd c14 (by decide)
      refine lv_iload_n hx hb dX11_found_17 rfl (lv_at hl 3 rfl) ?_
      have j15 := rgI p3
      have j16 := Int32.toInt_toInt64 p3
      refine lv_i2l (v := p3.toInt64) hx hb dX11_found_18 (rfl) ?_
      refine lv_lconst (v := 0) hx hb dX11_found_19 (by decide) ?_
      refine lv_ldc2 (v := 5) hx hb hown (hg _ kw_1409) dX11_found_20 ?_
      have zl0 : (0 : Int64).toInt = 0 := by decide
      have zl5 : (5 : Int64).toInt = 5 := by decide
      refine cg0 (rn_S (As := [.long p3.toInt64, .long 0, .long 5]) (rest := []) (m_in l D Y Z H.size   p3.toInt64 0 5 ) ⟨hx, hb, hml, hown, hg⟩ lk_X11_99 ⟨CP.blind, CP.at nilP hKN (nilD (A := fun _ => True))⟩ ⟨⟨rfl, rfl⟩, ⟨Nat.le_of_ble_eq_true rfl, Nat.le_of_ble_eq_true rfl⟩, ⟨Nat.le_of_ble_eq_true rfl, Nat.le_of_ble_eq_true rfl⟩⟩ hl.1 rfl (Nat.le_of_ble_eq_true rfl) dX11_found_23) hP hS hA (fun u17 H locs w18 hP hS => ?_)
      have w18 : (((0 : Int64).toInt ≤ p3.toInt64.toInt ∧ p3.toInt64.toInt ≤ (5 : Int64).toInt ∧ u17.toInt = 1) ∨ (¬ ((0 : Int64).toInt ≤ p3.toInt64.toInt ∧ p3.toInt64.toInt ≤ (5 : Int64).toInt) ∧ u17.toInt = 0)) ∧ (0 ≤ u17.toInt ∧ u17.toInt ≤ 1) := w18
      obtain ⟨hw20, hw21⟩ := w18
      refine W.eq (g2 := F0 m 26 ls [.int u17]) rfl ?_
      rcases (show u17.toInt = 1 ∨ u17.toInt = 0 by omega) with c22 | c22
      · obtain rfl : u17 = 1 := i_is c22 (by decide)
        refine W.eq (g2 := F0 m 26 ls [.int 1]) rfl ?_
        refine lv_if_eq (tgt := 42) hx hb dX11_found_26 (by decide) (fun c23 => ?_) (fun c23 => ?_)
        · exact absurd c23 (by decide)
        refine lv_iload hx hb dX11_found_29 (lv_at hl 4 rfl) ?_
        have j24 := rgI p4
        have j25 := Int32.toInt_toInt64 p4
        refine lv_i2l (v := p4.toInt64) hx hb dX11_found_31 (rfl) ?_
        refine lv_lconst (v := 0) hx hb dX11_found_32 (by decide) ?_
        refine lv_ldc2 (v := 6) hx hb hown (hg _ kw_1706) dX11_found_33 ?_
        have zl6 : (6 : Int64).toInt = 6 := by decide
        refine cg0 (rn_S (As := [.long p4.toInt64, .long 0, .long 6]) (rest := []) (m_in l D Y Z H.size   p4.toInt64 0 6 ) ⟨hx, hb, hml, hown, hg⟩ lk_X11_99 ⟨CP.blind, CP.at nilP hKN (nilD (A := fun _ => True))⟩ ⟨⟨rfl, rfl⟩, ⟨Nat.le_of_ble_eq_true rfl, Nat.le_of_ble_eq_true rfl⟩, ⟨Nat.le_of_ble_eq_true rfl, Nat.le_of_ble_eq_true rfl⟩⟩ hl.1 rfl (Nat.le_of_ble_eq_true rfl) dX11_found_36) hP hS hA (fun u26 H locs w27 hP hS => ?_)
        have w27 : (((0 : Int64).toInt ≤ p4.toInt64.toInt ∧ p4.toInt64.toInt ≤ (6 : Int64).toInt ∧ u26.toInt = 1) ∨ (¬ ((0 : Int64).toInt ≤ p4.toInt64.toInt ∧ p4.toInt64.toInt ≤ (6 : Int64).toInt) ∧ u26.toInt = 0)) ∧ (0 ≤ u26.toInt ∧ u26.toInt ≤ 1) := w27
        obtain ⟨hw29, hw30⟩ := w27
        refine W.eq (g2 := F0 m 39 ls [.int u26]) rfl ?_
        rcases (show u26.toInt = 1 ∨ u26.toInt = 0 by omega) with c31 | c31
        · obtain rfl : u26 = 1 := i_is c31 (by decide)
          refine W.eq (g2 := F0 m 39 ls [.int 1]) rfl ?_
          refine lv_if_ne (tgt := 46) hx hb dX11_found_39 (by decide) (fun c32 => ?_) (fun c32 => ?_)
          rotate_left
          · exact absurd c32 (by decide)
          refine lv_aload_n hx hb dX11_found_46 rfl (lv_at hl 0 rfl) ?_
          refine lv_iload_n hx hb dX11_found_47 rfl (lv_at hl 1 rfl) ?_
          refine lv_iload_n hx hb dX11_found_48 rfl (lv_at hl 2 rfl) ?_
          refine lv_iload_n hx hb dX11_found_49 rfl (lv_at hl 3 rfl) ?_
          refine cga (rn_V (As := [.int p1, .int p2, .int p3]) (rest := []) (b := o) (m_finds l D Y Z H.size o a I J F G  p1 p2 p3 (show (0 ≤ p1.toInt ∧ p1.toInt ≤ 5) by omega) (show (p1.toInt < ((F 4) 1).toInt) by omega) (show (0 ≤ p2.toInt ∧ p2.toInt ≤ 11) by omega) (show (0 ≤ p3.toInt ∧ p3.toInt ≤ 5) by omega) hk0 hk1 hk2) ⟨hx, hb, hml, hown, hg⟩ lk_X11_487 ⟨CP.blind, va_recv hKN.1 hP (ci := 11) (q0 := 0) rfl rfl, CP.at hP hKN hD⟩ ⟨⟨rfl, rfl⟩, ⟨Nat.le_of_ble_eq_true rfl, Nat.le_of_ble_eq_true rfl⟩, ⟨Nat.le_of_ble_eq_true rfl, Nat.le_of_ble_eq_true rfl⟩⟩ hl.1 rfl (Nat.le_of_ble_eq_true rfl) dX11_found_50) hP hD hS hA (fun u33 H locs w34 hP hD hS => ?_)
          obtain ⟨u35, u36, u37, u38, u39, u40, u41, u42, u43, u44, f45, f46, f47, f48, f49, f50⟩ := u33
          have w34 : ((u35.toInt = 1 ∧ 1 ≤ u41.toInt ∧ 2 ≤ u36.toInt ∧ u36.toInt ≤ 200 ∧ 1 ≤ u37.toInt ∧ u37.toInt ≤ 10 ∧ 0 ≤ u38.toInt ∧ u38.toInt < u36.toInt ∧ -9000000000000 ≤ u40.toInt ∧ u40.toInt ≤ 9000000000000 ∧ (cin f46 (u36.toInt).toNat (u37.toInt).toNat (u38.toInt).toNat 600 : Int) ≠ u42.toInt) ∨ u35.toInt = 0) ∧ (0 ≤ u35.toInt ∧ u35.toInt ≤ 1) ∧ (0 ≤ u42.toInt ∧ u42.toInt ≤ 600) ∧ (-60000000 ≤ u43.toInt ∧ u43.toInt ≤ 60000000) ∧ (1 ≤ u44.toInt) ∧ LB f46 := w34
          obtain ⟨hw51, hw52, hw53, hw54, hw55, hw56⟩ := w34
          refine W.eq (g2 := F0 m 53 ls [.int u35]) rfl ?_
          have hP : va_P D vwCl (MW Y o a (upd (upd (upd (upd (upd I 29 u42) 34 u36) 35 u37) 36 u38) 39 u39) (vp_updL (vp_updL (vp_updL (vp_updL J 30 u43) 31 u44) 37 u40) 38 u41) (vf_upd (vf_upd (vf_upd (vf_upd F 1 f45) 28 f46) 41 f48) 43 f50) (vf_upd (vf_upd G 40 f47) 42 f49)) H := hP
          have hD : va_D A (MW Y o a (upd (upd (upd (upd (upd I 29 u42) 34 u36) 35 u37) 36 u38) 39 u39) (vp_updL (vp_updL (vp_updL (vp_updL J 30 u43) 31 u44) 37 u40) 38 u41) (vf_upd (vf_upd (vf_upd (vf_upd F 1 f45) 28 f46) 41 f48) 43 f50) (vf_upd (vf_upd G 40 f47) 42 f49)) := hD
          rcases (show u35.toInt = 1 ∨ u35.toInt = 0 by omega) with c57 | c57
          · obtain rfl : u35 = 1 := i_is c57 (by decide)
            refine W.eq (g2 := F0 m 53 ls [.int 1]) rfl ?_
            refine lv_if_eq (tgt := 66) hx hb dX11_found_53 (by decide) (fun c62 => ?_) (fun c62 => ?_)
            · exact absurd c62 (by decide)
            refine lv_aload_n hx hb dX11_found_56 rfl (lv_at hl 0 rfl) ?_
            refine lv_iload_n hx hb dX11_found_57 rfl (lv_at hl 1 rfl) ?_
            refine lv_iload hx hb dX11_found_58 (lv_at hl 4 rfl) ?_
            refine cga (rn_V (As := [.int p1, .int p4]) (rest := []) (b := o) (m_tells l D Y Z H.size o a (upd (upd (upd (upd (upd I 29 u42) 34 u36) 35 u37) 36 u38) 39 u39) (vp_updL (vp_updL (vp_updL (vp_updL J 30 u43) 31 u44) 37 u40) 38 u41) (vf_upd (vf_upd (vf_upd (vf_upd F 1 f45) 28 f46) 41 f48) 43 f50) (vf_upd (vf_upd G 40 f47) 42 f49)  p1 p4 (show (0 ≤ p1.toInt ∧ p1.toInt ≤ 5) by omega)) ⟨hx, hb, hml, hown, hg⟩ lk_X11_491 ⟨CP.blind, va_recv hKN.1 hP (ci := 11) (q0 := 0) rfl rfl, CP.at hP hKN hD⟩ ⟨⟨rfl, rfl⟩, ⟨Nat.le_of_ble_eq_true rfl, Nat.le_of_ble_eq_true rfl⟩, ⟨Nat.le_of_ble_eq_true rfl, Nat.le_of_ble_eq_true rfl⟩⟩ hl.1 rfl (Nat.le_of_ble_eq_true rfl) dX11_found_60) hP hD hS hA (fun u63 H locs w64 hP hD hS => ?_)
            refine W.eq (g2 := F0 m 63 ls [.long u63]) rfl ?_
            have hP : va_P D vwCl (MW Y o a (upd (upd (upd (upd (upd I 29 u42) 34 u36) 35 u37) 36 u38) 39 u39) (vp_updL (vp_updL (vp_updL (vp_updL J 30 u43) 31 u44) 37 u40) 38 u41) (vf_upd (vf_upd (vf_upd (vf_upd F 1 f45) 28 f46) 41 f48) 43 f50) (vf_upd (vf_upd G 40 f47) 42 f49)) H := hP
            have hD : va_D A (MW Y o a (upd (upd (upd (upd (upd I 29 u42) 34 u36) 35 u37) 36 u38) 39 u39) (vp_updL (vp_updL (vp_updL (vp_updL J 30 u43) 31 u44) 37 u40) 38 u41) (vf_upd (vf_upd (vf_upd (vf_upd F 1 f45) 28 f46) 41 f48) 43 f50) (vf_upd (vf_upd G 40 f47) 42 f49)) := hD
            refine lv_goto (tgt := 80) hx hb dX11_found_63 (by decide) ?_
            refine W.widen (k := 0) (n := 0) (Nat.le_of_ble_eq_true rfl) (Nat.le_of_ble_eq_true rfl) ?_
            exact W.lret (v := u63) hx hb hr (fun t ht hW => ⟨⟨(u63, u36, u37, u38, u39, u40, u41, u42, u43, u44, f45, f46, f47, f48, f49, f50), rfl, (hw56), CB.mk ht hP hD⟩, hS.F ht⟩) hS.2.2 dX11_found_80
          · obtain rfl : u35 = 0 := i_is c57 (by decide)
            have zi0 : (0 : Int32).toInt = 0 := by decide
            refine W.eq (g2 := F0 m 53 ls [.int 0]) rfl ?_
            refine lv_if_eq (tgt := 66) hx hb dX11_found_53 (by decide) (fun c68 => ?_) (fun c68 => ?_)
            rotate_left
            · exact absurd c68 (by decide)
            refine lv_iload hx hb dX11_found_66 (lv_at hl 4 rfl) ?_
            refine lv_bipush (v := 6) hx hb dX11_found_68 (by decide) ?_
            refine lv_icmp_ne (tgt := 77) hx hb dX11_found_70 (by decide) (fun c70 => ?_) (fun c70 => ?_)
            · skip
              have c70 := i_ne (Eq.refl p4.toInt) (show (6 : Int32).toInt = 6 by decide) c70
              refine lv_ldc2 (v := (-1)) hx hb hown (hg _ kw_1650) dX11_found_77 ?_
              refine W.widen (k := 0) (n := 0) (Nat.le_of_ble_eq_true rfl) (Nat.le_of_ble_eq_true rfl) ?_
              have zlm1 : ((-1) : Int64).toInt = -1 := by decide
              exact W.lret (v := (-1)) hx hb hr (fun t ht hW => ⟨⟨((-1), u36, u37, u38, u39, u40, u41, u42, u43, u44, f45, f46, f47, f48, f49, f50), rfl, (hw56), CB.mk ht hP hD⟩, hS.F ht⟩) hS.2.2 dX11_found_80
            · skip
              have c70 := i_eq (Eq.refl p4.toInt) (show (6 : Int32).toInt = 6 by decide) c70
              refine lv_lconst (v := 0) hx hb dX11_found_73 (by decide) ?_
              refine lv_goto (tgt := 80) hx hb dX11_found_74 (by decide) ?_
              refine W.widen (k := 0) (n := 0) (Nat.le_of_ble_eq_true rfl) (Nat.le_of_ble_eq_true rfl) ?_
              exact W.lret (v := 0) hx hb hr (fun t ht hW => ⟨⟨(0, u36, u37, u38, u39, u40, u41, u42, u43, u44, f45, f46, f47, f48, f49, f50), rfl, (hw56), CB.mk ht hP hD⟩, hS.F ht⟩) hS.2.2 dX11_found_80
        · obtain rfl : u26 = 0 := i_is c31 (by decide)
          have zi0 : (0 : Int32).toInt = 0 := by decide
          refine W.eq (g2 := F0 m 39 ls [.int 0]) rfl ?_
          refine lv_if_ne (tgt := 46) hx hb dX11_found_39 (by decide) (fun c71 => ?_) (fun c71 => ?_)
          · exact absurd c71 (by decide)
          refine lv_ldc2 (v := (-2)) hx hb hown (hg _ kw_1707) dX11_found_42 ?_
          refine W.widen (k := 0) (n := 0) (Nat.le_of_ble_eq_true rfl) (Nat.le_of_ble_eq_true rfl) ?_
          have zlm2 : ((-2) : Int64).toInt = -2 := by decide
          exact W.lret (v := (-2)) hx hb hr (fun t ht hW => ⟨⟨((-2), (I 34), (I 35), (I 36), (I 39), (J 37), (J 38), (I 29), (J 30), (J 31), (F 1), (F 28), (G 40), (F 41), (G 42), (F 43)), rfl, (hk1), CB.mk ht hP hD⟩, hS.F ht⟩) hS.2.2 dX11_found_45
      · obtain rfl : u17 = 0 := i_is c22 (by decide)
        have zi0 : (0 : Int32).toInt = 0 := by decide
        refine W.eq (g2 := F0 m 26 ls [.int 0]) rfl ?_
        refine lv_if_eq (tgt := 42) hx hb dX11_found_26 (by decide) (fun c72 => ?_) (fun c72 => ?_)
        rotate_left
        · exact absurd c72 (by decide)
        refine lv_ldc2 (v := (-2)) hx hb hown (hg _ kw_1707) dX11_found_42 ?_
        refine W.widen (k := 0) (n := 0) (Nat.le_of_ble_eq_true rfl) (Nat.le_of_ble_eq_true rfl) ?_
        have zlm2 : ((-2) : Int64).toInt = -2 := by decide
        exact W.lret (v := (-2)) hx hb hr (fun t ht hW => ⟨⟨((-2), (I 34), (I 35), (I 36), (I 39), (J 37), (J 38), (I 29), (J 30), (J 31), (F 1), (F 28), (G 40), (F 41), (G 42), (F 43)), rfl, (hk1), CB.mk ht hP hD⟩, hS.F ht⟩) hS.2.2 dX11_found_45
    · obtain rfl : u8 = 0 := i_is c13 (by decide)
      have zi0 : (0 : Int32).toInt = 0 := by decide
      refine W.eq (g2 := F0 m 14 ls [.int 0]) rfl ?_
      refine lv_if_eq (tgt := 42) hx hb dX11_found_14 (by decide) (fun c73 => ?_) (fun c73 => ?_)
      rotate_left
      · exact absurd c73 (by decide)
      refine lv_ldc2 (v := (-2)) hx hb hown (hg _ kw_1707) dX11_found_42 ?_
      refine W.widen (k := 0) (n := 0) (Nat.le_of_ble_eq_true rfl) (Nat.le_of_ble_eq_true rfl) ?_
      have zlm2 : ((-2) : Int64).toInt = -2 := by decide
      exact W.lret (v := (-2)) hx hb hr (fun t ht hW => ⟨⟨((-2), (I 34), (I 35), (I 36), (I 39), (J 37), (J 38), (I 29), (J 30), (J 31), (F 1), (F 28), (G 40), (F 41), (G 42), (F 43)), rfl, (hk1), CB.mk ht hP hD⟩, hS.F ht⟩) hS.2.2 dX11_found_45
  · obtain rfl : u1 = 0 := i_is c6 (by decide)
    have zi0 : (0 : Int32).toInt = 0 := by decide
    refine W.eq (g2 := F0 m 6 ls [.int 0]) rfl ?_
    refine lv_if_eq (tgt := 42) hx hb dX11_found_6 (by decide) (fun c74 => ?_) (fun c74 => ?_)
    rotate_left
    · exact absurd c74 (by decide)
    refine lv_ldc2 (v := (-2)) hx hb hown (hg _ kw_1707) dX11_found_42 ?_
    refine W.widen (k := 0) (n := 0) (Nat.le_of_ble_eq_true rfl) (Nat.le_of_ble_eq_true rfl) ?_
    have zlm2 : ((-2) : Int64).toInt = -2 := by decide
    exact W.lret (v := (-2)) hx hb hr (fun t ht hW => ⟨⟨((-2), (I 34), (I 35), (I 36), (I 39), (J 37), (J 38), (I 29), (J 30), (J 31), (F 1), (F 28), (G 40), (F 41), (G 42), (F 43)), rfl, (hk1), CB.mk ht hP hD⟩, hS.F ht⟩) hS.2.2 dX11_found_45
set_option maxHeartbeats 4000000 in
set_option maxRecDepth 100000 in
theorem m_isPut (l : Launch) (D : va_G) (Y : Nat → ClassId) (Z : Nat → Nat) (sz : Nat) (o : Nat) (a : Nat → Nat) (I : Nat → Int32) (J : Nat → Int64) (F : Nat → Nat → Int32) (G : Nat → Nat → Int64) (p1 : Int32) (hk0 : TO (F 0)) : Met l yX11_isPut (.code yX11_isPut cX11_isPut 2 (some .boolean) :: GW) ({ frames := 1, cells := 0, slots := 0, locals := 22 }) (va_Pc [.ref o, .int p1] (CP D Y Z (MW Y o a I J F G) sz)) (QG (S := Int32) (fun u => some (.int u)) (fun u => ((0 ≤ p1.toInt ∧ p1.toInt ≤ 39 ∧ p1.toInt < ((F 0) 1).toInt ∧ u.toInt = 1) ∨ u.toInt = 0) ∧ (0 ≤ u.toInt ∧ u.toInt ≤ 1)) (fun u => CB D (MW Y o a I J F G) (va_A (MW Y o a I J F G) sz)) (va_A (MW Y o a I J F G) sz)) 0 0 (va_A (MW Y o a I J F G) sz) := by
  refine Met.ofW (cc := cX11_isPut) (maxL := 2) (ret := (some .boolean)) (by decide) rfl ?_
  intro p e s m args below meth c s₁ B hml hv
  obtain ⟨rfl, hsz, hP, hKN, hD0⟩ := hv
  have hx := B.exec
  have hb := B.bytes
  have hr := B.returns
  have hts := atoms_spec (ws := .code yX11_isPut cX11_isPut 2 (some .boolean) :: GW) B.pre
  have hg : ∀ w ∈ GW, w.before _ s = true := fun w h => hts w (List.mem_cons_of_mem _ h)
  have hown : s.vm.findClass RX11 = some m.cls := findClass_of_methodNamed B.named
  have hlocks := B.notSynchronized
  subst hsz
  have hD := hD0.self (sz := s.heap.size)
  generalize hAe : va_A (MW Y o a I J F G) s.heap.size = A at hD ⊢
  have hA : ∀ q : Nat, s.heap.size ≤ q → A q := fun q h => by rw [← hAe]; exact Or.inr h
  clear hAe hD0 hts B
  have hl := lv_entry ([.ref o, .int p1]) (n := 2) (Nat.le_of_ble_eq_true rfl)
  rw [lg_entry_eq]
  generalize (lg_sl ([.ref o, .int p1]) ++ List.replicate (2 - (lg_sl ([.ref o, .int p1])).length) Slot.unset).toArray = ls at hl ⊢
  have hl : lv_has ls 2 [(0, .ref o), (1, .int p1)] := hl
  refine w_start (A0 := A) hP (fun H locs hP hS => ?_)
  refine lv_iload_n hx hb dX11_isPut_0 rfl (lv_at hl 1 rfl) ?_
  have j10 := rgI p1
  refine lv_if_lt (tgt := 28) hx hb dX11_isPut_1 (by decide) (fun c11 => ?_) (fun c11 => ?_)
  · skip
    have c11 := i_lt (Eq.refl p1.toInt) (show (0 : Int32).toInt = 0 by decide) c11
    refine lv_iconst (v := 0) hx hb dX11_isPut_28 (by decide) ?_
    refine W.widen (k := 0) (n := 0) (Nat.le_of_ble_eq_true rfl) (Nat.le_of_ble_eq_true rfl) ?_
    have zi0 : (0 : Int32).toInt = 0 := by decide
    exact W.zret (v := 0) hx hb hr (by decide) (fun t ht hW => ⟨⟨0, rfl, ⟨(show ((0 ≤ p1.toInt ∧ p1.toInt ≤ 39 ∧ p1.toInt < ((F 0) 1).toInt ∧ (0 : Int32).toInt = 1) ∨ (0 : Int32).toInt = 0) by omega), (show (0 ≤ (0 : Int32).toInt ∧ (0 : Int32).toInt ≤ 1) by omega)⟩, CB.mk ht hP hD⟩, hS.F ht⟩) hS.2.2 dX11_isPut_29
  · skip
    have c11 := i_nlt (Eq.refl p1.toInt) (show (0 : Int32).toInt = 0 by decide) c11
    refine lv_iload_n hx hb dX11_isPut_4 rfl (lv_at hl 1 rfl) ?_
    refine lv_aload_n hx hb dX11_isPut_5 rfl (lv_at hl 0 rfl) ?_
    refine va_get (D := D) (ci := 11) (v := .ref (a 0)) (C := RX11) (T := TX11) (N := 49) hx hb hg inGX11 hown hKN.1 hP 0 rfl rfl 0 (by decide) (hg _ kw_1208) (fun _ h9 => h9) rfl dX11_isPut_6 ?_
    refine lv_iconst (v := 1) hx hb dX11_isPut_9 (by decide) ?_
    refine va_iald hx hb hKN.1 hP 1 0 rfl rfl (show ¬ ((1 : Int32) < 0 ∨ 7533 ≤ (1 : Int32).toNatClampNeg) by decide) dX11_isPut_10 ?_
    refine lv_topi (fun v12 ev12 => ?_)
    have ev12 : v12 = (F 0) 1 := ev12
    have kv12 := TO_1 hk0
    rw [← ev12] at kv12
    have qv12 := congrArg Int32.toInt ev12
    refine lv_icmp_ge (tgt := 28) hx hb dX11_isPut_11 (by decide) (fun c19 => ?_) (fun c19 => ?_)
    · skip
      have c19 := i_le (Eq.refl v12.toInt) (Eq.refl p1.toInt) c19
      refine lv_iconst (v := 0) hx hb dX11_isPut_28 (by decide) ?_
      refine W.widen (k := 0) (n := 0) (Nat.le_of_ble_eq_true rfl) (Nat.le_of_ble_eq_true rfl) ?_
      have zi0 : (0 : Int32).toInt = 0 := by decide
      exact W.zret (v := 0) hx hb hr (by decide) (fun t ht hW => ⟨⟨0, rfl, ⟨(show ((0 ≤ p1.toInt ∧ p1.toInt ≤ 39 ∧ p1.toInt < ((F 0) 1).toInt ∧ (0 : Int32).toInt = 1) ∨ (0 : Int32).toInt = 0) by omega), (show (0 ≤ (0 : Int32).toInt ∧ (0 : Int32).toInt ≤ 1) by omega)⟩, CB.mk ht hP hD⟩, hS.F ht⟩) hS.2.2 dX11_isPut_29
    · skip
      have c19 := i_nle (Eq.refl v12.toInt) (Eq.refl p1.toInt) c19
      refine lv_aload_n hx hb dX11_isPut_14 rfl (lv_at hl 0 rfl) ?_
      refine lv_iload_n hx hb dX11_isPut_15 rfl (lv_at hl 1 rfl) ?_
      refine lv_iconst (v := 5) hx hb dX11_isPut_16 (by decide) ?_
      have zi5 : (5 : Int32).toInt = 5 := by decide
      refine cga (rn_V (As := [.int p1, .int 5]) (rest := []) (b := o) (m_worldOf5 l D Y Z H.size o a I J F G  p1 (show (0 ≤ p1.toInt ∧ p1.toInt ≤ 39) by omega) hk0) ⟨hx, hb, hml, hown, hg⟩ lk_X11_166 ⟨CP.blind, va_recv hKN.1 hP (ci := 11) (q0 := 0) rfl rfl, CP.at hP hKN hD⟩ ⟨⟨rfl, rfl⟩, ⟨Nat.le_of_ble_eq_true rfl, Nat.le_of_ble_eq_true rfl⟩, ⟨Nat.le_of_ble_eq_true rfl, Nat.le_of_ble_eq_true rfl⟩⟩ hl.1 rfl (Nat.le_of_ble_eq_true rfl) dX11_isPut_17) hP hD hS hA (fun u20 H locs w21 hP hD hS => ?_)
      have w21 : (0 ≤ u20.toInt ∧ u20.toInt ≤ 30000) := w21
      have hw23 := w21
      refine W.eq (g2 := F0 m 20 ls [.int u20]) rfl ?_
      have hP : va_P D vwCl (MW Y o a I J F G) H := hP
      have hD : va_D A (MW Y o a I J F G) := hD
      refine lv_iconst (v := 1) hx hb dX11_isPut_20 (by decide) ?_
      refine lv_icmp_ne (tgt := 28) hx hb dX11_isPut_21 (by decide) (fun c25 => ?_) (fun c25 => ?_)
      · skip
        have c25 := i_ne (Eq.refl u20.toInt) (show (1 : Int32).toInt = 1 by decide) c25
        refine lv_iconst (v := 0) hx hb dX11_isPut_28 (by decide) ?_
        refine W.widen (k := 0) (n := 0) (Nat.le_of_ble_eq_true rfl) (Nat.le_of_ble_eq_true rfl) ?_
        have zi0 : (0 : Int32).toInt = 0 := by decide
        exact W.zret (v := 0) hx hb hr (by decide) (fun t ht hW => ⟨⟨0, rfl, ⟨(show ((0 ≤ p1.toInt ∧ p1.toInt ≤ 39 ∧ p1.toInt < ((F 0) 1).toInt ∧ (0 : Int32).toInt = 1) ∨ (0 : Int32).toInt = 0) by omega), (show (0 ≤ (0 : Int32).toInt ∧ (0 : Int32).toInt ≤ 1) by omega)⟩, CB.mk ht hP hD⟩, hS.F ht⟩) hS.2.2 dX11_isPut_29
      · skip
        have c25 := i_eq (Eq.refl u20.toInt) (show (1 : Int32).toInt = 1 by decide) c25
        refine lv_iconst (v := 1) hx hb dX11_isPut_24 (by decide) ?_
        refine lv_goto (tgt := 29) hx hb dX11_isPut_25 (by decide) ?_
        refine W.widen (k := 0) (n := 0) (Nat.le_of_ble_eq_true rfl) (Nat.le_of_ble_eq_true rfl) ?_
        have zi1 : (1 : Int32).toInt = 1 := by decide
        exact W.zret (v := 1) hx hb hr (by decide) (fun t ht hW => ⟨⟨1, rfl, ⟨(show ((0 ≤ p1.toInt ∧ p1.toInt ≤ 39 ∧ p1.toInt < ((F 0) 1).toInt ∧ (1 : Int32).toInt = 1) ∨ (1 : Int32).toInt = 0) by omega), (show (0 ≤ (1 : Int32).toInt ∧ (1 : Int32).toInt ≤ 1) by omega)⟩, CB.mk ht hP hD⟩, hS.F ht⟩) hS.2.2 dX11_isPut_29
set_option maxHeartbeats 4000000 in
set_option maxRecDepth 100000 in
theorem m_findsPut (l : Launch) (D : va_G) (Y : Nat → ClassId) (Z : Nat → Nat) (sz : Nat) (o : Nat) (a : Nat → Nat) (I : Nat → Int32) (J : Nat → Int64) (F : Nat → Nat → Int32) (G : Nat → Nat → Int64) (p1 : Int32) (p2 : Int32) (hk_0 : (0 ≤ p1.toInt ∧ p1.toInt ≤ 5)) (hk_1 : (p1.toInt < ((F 4) 1).toInt)) (hk_2 : (0 ≤ p2.toInt ∧ p2.toInt ≤ 39)) (hk_3 : (p2.toInt < ((F 0) 1).toInt)) (hk0 : TO (F 0)) (hk1 : LB (F 28)) (hk2 : TX (F 4) (F 9) (F 10) (F 11) (F 12) (F 13)) : Met l yX11_findsPut (.code yX11_findsPut cX11_findsPut 4 (some .boolean) :: GW) ({ frames := 6, cells := 0, slots := 0, locals := 146 }) (va_Pc [.ref o, .int p1, .int p2] (CP D Y Z (MW Y o a I J F G) sz)) (QG (S := Int32 × Int32 × Int32 × Int32 × Int32 × Int64 × Int64 × Int32 × Int64 × Int64 × (Nat → Int32) × (Nat → Int64) × (Nat → Int32) × (Nat → Int64) × (Nat → Int32)) (fun u => some (.int u.1)) (fun u => ((u.1.toInt = 1 ∧ 1 ≤ u.2.2.2.2.2.2.1.toInt ∧ 2 ≤ u.2.1.toInt ∧ u.2.1.toInt ≤ 200 ∧ 1 ≤ u.2.2.1.toInt ∧ u.2.2.1.toInt ≤ 10 ∧ 0 ≤ u.2.2.2.1.toInt ∧ u.2.2.2.1.toInt < u.2.1.toInt ∧ -9000000000000 ≤ u.2.2.2.2.2.1.toInt ∧ u.2.2.2.2.2.1.toInt ≤ 9000000000000 ∧ (cin u.2.2.2.2.2.2.2.2.2.2.1 (u.2.1.toInt).toNat (u.2.2.1.toInt).toNat (u.2.2.2.1.toInt).toNat 600 : Int) ≠ u.2.2.2.2.2.2.2.1.toInt) ∨ u.1.toInt = 0) ∧ (0 ≤ u.1.toInt ∧ u.1.toInt ≤ 1) ∧ (0 ≤ u.2.2.2.2.2.2.2.1.toInt ∧ u.2.2.2.2.2.2.2.1.toInt ≤ 600) ∧ (-60000000 ≤ u.2.2.2.2.2.2.2.2.1.toInt ∧ u.2.2.2.2.2.2.2.2.1.toInt ≤ 60000000) ∧ (1 ≤ u.2.2.2.2.2.2.2.2.2.1.toInt) ∧ LB u.2.2.2.2.2.2.2.2.2.2.1) (fun u => CB D (MW Y o a (upd (upd (upd (upd (upd I 29 u.2.2.2.2.2.2.2.1) 34 u.2.1) 35 u.2.2.1) 36 u.2.2.2.1) 39 u.2.2.2.2.1) (vp_updL (vp_updL (vp_updL (vp_updL J 30 u.2.2.2.2.2.2.2.2.1) 31 u.2.2.2.2.2.2.2.2.2.1) 37 u.2.2.2.2.2.1) 38 u.2.2.2.2.2.2.1) (vf_upd (vf_upd (vf_upd F 28 u.2.2.2.2.2.2.2.2.2.2.1) 41 u.2.2.2.2.2.2.2.2.2.2.2.2.1) 43 u.2.2.2.2.2.2.2.2.2.2.2.2.2.2) (vf_upd (vf_upd G 40 u.2.2.2.2.2.2.2.2.2.2.2.1) 42 u.2.2.2.2.2.2.2.2.2.2.2.2.2.1)) (va_A (MW Y o a I J F G) sz)) (va_A (MW Y o a I J F G) sz)) 0 0 (va_A (MW Y o a I J F G) sz) := by
  refine Met.ofW (cc := cX11_findsPut) (maxL := 4) (ret := (some .boolean)) (by decide) rfl ?_
  intro p e s m args below meth c s₁ B hml hv
  obtain ⟨rfl, hsz, hP, hKN, hD0⟩ := hv
  have hx := B.exec
  have hb := B.bytes
  have hr := B.returns
  have hts := atoms_spec (ws := .code yX11_findsPut cX11_findsPut 4 (some .boolean) :: GW) B.pre
  have hg : ∀ w ∈ GW, w.before _ s = true := fun w h => hts w (List.mem_cons_of_mem _ h)
  have hown : s.vm.findClass RX11 = some m.cls := findClass_of_methodNamed B.named
  have hlocks := B.notSynchronized
  subst hsz
  have hD := hD0.self (sz := s.heap.size)
  generalize hAe : va_A (MW Y o a I J F G) s.heap.size = A at hD ⊢
  have hA : ∀ q : Nat, s.heap.size ≤ q → A q := fun q h => by rw [← hAe]; exact Or.inr h
  clear hAe hD0 hts B
  have hl := lv_entry ([.ref o, .int p1, .int p2]) (n := 4) (Nat.le_of_ble_eq_true rfl)
  rw [lg_entry_eq]
  generalize (lg_sl ([.ref o, .int p1, .int p2]) ++ List.replicate (4 - (lg_sl ([.ref o, .int p1, .int p2])).length) Slot.unset).toArray = ls at hl ⊢
  have hl : lv_has ls 4 [(0, .ref o), (1, .int p1), (2, .int p2)] := hl
  refine w_start (A0 := A) hP (fun H locs hP hS => ?_)
  refine lv_iconst (v := 0) hx hb dX11_findsPut_0 (by decide) ?_
  refine lv_istore_n (lv' := [(3, .int 0), (0, .ref o), (1, .int p1), (2, .int p2)]) hx hb dX11_findsPut_1 rfl hl (by decide) rfl (fun ls hl => ?_)
  have zi0 : (0 : Int32).toInt = 0 := by decide
  refine w_loop (σ := Int32 × (Nat → Int32)) (fun xx H locs ls => match xx with | (g123, f124) => va_P D vwCl (MW Y o a I J (vf_upd F 28 f124) G) H ∧ va_D A (MW Y o a I J (vf_upd F 28 f124) G) ∧ va_S A s.heap H locs ∧ lv_has ls 4 [(3, .int g123), (0, .ref o), (1, .int p1), (2, .int p2)] ∧ (0 ≤ g123.toInt ∧ g123.toInt ≤ 600) ∧ LB f124) (fun xx => match xx with | (g123, f124) => (600 - g123.toInt).toNat) (0, (F 28)) ⟨hP, hD, hS, lv_sub hl [0, 1, 2, 3] rfl, by omega, hk1⟩ (fun xx H locs ls hI ih => ?_)
  obtain ⟨g123, f124⟩ := xx
  obtain ⟨hP, hD, hS, hl, hq249, hp250⟩ := hI
  have ih251 := ih
  refine lv_iload_n hx hb dX11_findsPut_2 rfl (lv_at hl 0 rfl) ?_
  refine lv_sipush (v := 600) hx hb dX11_findsPut_3 (by decide) ?_
  refine lv_icmp_ge (tgt := 83) hx hb dX11_findsPut_6 (by decide) (fun c314 => ?_) (fun c314 => ?_)
  · skip
    have c314 := i_le (show (600 : Int32).toInt = 600 by decide) (Eq.refl g123.toInt) c314
    refine lv_aload_n hx hb dX11_findsPut_83 rfl (lv_at hl 1 rfl) ?_
    refine cga (rn_V (As := []) (rest := []) (b := o) (m_counts l D Y Z H.size o a I J (vf_upd F 28 f124) G   hp250) ⟨hx, hb, hml, hown, hg⟩ lk_X11_391 ⟨CP.blind, va_recv hKN.1 hP (ci := 11) (q0 := 0) rfl rfl, CP.at hP hKN hD⟩ ⟨⟨rfl, rfl⟩, ⟨Nat.le_of_ble_eq_true rfl, Nat.le_of_ble_eq_true rfl⟩, ⟨Nat.le_of_ble_eq_true rfl, Nat.le_of_ble_eq_true rfl⟩⟩ hl.1 rfl (Nat.le_of_ble_eq_true rfl) dX11_findsPut_84) hP hD hS hA (fun u315 H locs w316 hP hD hS => ?_)
    obtain ⟨u317, u318, u319⟩ := u315
    have w316 : (0 ≤ u317.toInt ∧ u317.toInt ≤ 600) ∧ (-60000000 ≤ u318.toInt ∧ u318.toInt ≤ 60000000) ∧ (1 ≤ u319.toInt) := w316
    obtain ⟨hw320, hw321, hw322⟩ := w316
    refine W.eq (g2 := F0 m 87 ls []) rfl ?_
    have hP : va_P D vwCl (MW Y o a (upd I 29 u317) (vp_updL (vp_updL J 30 u318) 31 u319) (vf_upd F 28 f124) G) H := hP
    have hD : va_D A (MW Y o a (upd I 29 u317) (vp_updL (vp_updL J 30 u318) 31 u319) (vf_upd F 28 f124) G) := hD
    refine lv_aload_n hx hb dX11_findsPut_87 rfl (lv_at hl 1 rfl) ?_
    refine lv_iload_n hx hb dX11_findsPut_88 rfl (lv_at hl 2 rfl) ?_
    refine cga (rn_V (As := [.int p1]) (rest := []) (b := o) (m_seeks l D Y Z H.size o a (upd I 29 u317) (vp_updL (vp_updL J 30 u318) 31 u319) (vf_upd F 28 f124) G  p1 (show (0 ≤ p1.toInt ∧ p1.toInt ≤ 5) by omega) (show (p1.toInt < ((F 4) 1).toInt) by omega) (show (0 ≤ u317.toInt ∧ u317.toInt ≤ 600) by omega) (show (-60000000 ≤ u318.toInt ∧ u318.toInt ≤ 60000000) by omega) (show (1 ≤ u319.toInt) by omega) hp250 hk2) ⟨hx, hb, hml, hown, hg⟩ lk_X11_480 ⟨CP.blind, va_recv hKN.1 hP (ci := 11) (q0 := 0) rfl rfl, CP.at hP hKN hD⟩ ⟨⟨rfl, rfl⟩, ⟨Nat.le_of_ble_eq_true rfl, Nat.le_of_ble_eq_true rfl⟩, ⟨Nat.le_of_ble_eq_true rfl, Nat.le_of_ble_eq_true rfl⟩⟩ hl.1 rfl (Nat.le_of_ble_eq_true rfl) dX11_findsPut_89) hP hD hS hA (fun u323 H locs w324 hP hD hS => ?_)
    obtain ⟨u325, u326, u327, u328, u329, u330, u331, f332, f333, f334, f335⟩ := u323
    have w324 : ((u325.toInt = 1 ∧ 1 ≤ u331.toInt ∧ 2 ≤ u326.toInt ∧ u326.toInt ≤ 200 ∧ 1 ≤ u327.toInt ∧ u327.toInt ≤ 10 ∧ 0 ≤ u328.toInt ∧ u328.toInt < u326.toInt ∧ -9000000000000 ≤ u330.toInt ∧ u330.toInt ≤ 9000000000000 ∧ (cin f124 (u326.toInt).toNat (u327.toInt).toNat (u328.toInt).toNat 600 : Int) ≠ u317.toInt) ∨ u325.toInt = 0) ∧ (0 ≤ u325.toInt ∧ u325.toInt ≤ 1) := w324
    obtain ⟨hw336, hw337⟩ := w324
    refine W.eq (g2 := F0 m 92 ls [.int u325]) rfl ?_
    have hP : va_P D vwCl (MW Y o a (upd (upd (upd (upd (upd I 29 u317) 34 u326) 35 u327) 36 u328) 39 u329) (vp_updL (vp_updL (vp_updL (vp_updL J 30 u318) 31 u319) 37 u330) 38 u331) (vf_upd (vf_upd (vf_upd F 28 f124) 41 f333) 43 f335) (vf_upd (vf_upd G 40 f332) 42 f334)) H := hP
    have hD : va_D A (MW Y o a (upd (upd (upd (upd (upd I 29 u317) 34 u326) 35 u327) 36 u328) 39 u329) (vp_updL (vp_updL (vp_updL (vp_updL J 30 u318) 31 u319) 37 u330) 38 u331) (vf_upd (vf_upd (vf_upd F 28 f124) 41 f333) 43 f335) (vf_upd (vf_upd G 40 f332) 42 f334)) := hD
    rcases (show u325.toInt = 1 ∨ u325.toInt = 0 by omega) with c338 | c338
    · obtain rfl : u325 = 1 := i_is c338 (by decide)
      have zi1 : (1 : Int32).toInt = 1 := by decide
      refine W.eq (g2 := F0 m 92 ls [.int 1]) rfl ?_
      refine lv_if_eq (tgt := 112) hx hb dX11_findsPut_92 (by decide) (fun c346 => ?_) (fun c346 => ?_)
      · exact absurd c346 (by decide)
      refine lv_aload_n hx hb dX11_findsPut_95 rfl (lv_at hl 1 rfl) ?_
      refine va_get (D := D) (ci := 11) (v := .int u326) (C := RX11) (T := TX11) (N := 49) hx hb hg inGX11 hown hKN.1 hP 0 rfl rfl 34 (by decide) (hg _ kw_1242) (fun _ h9 => h9) rfl dX11_findsPut_96 ?_
      refine lv_aload_n hx hb dX11_findsPut_99 rfl (lv_at hl 1 rfl) ?_
      refine lv_iload_n hx hb dX11_findsPut_100 rfl (lv_at hl 3 rfl) ?_
      refine lv_iconst (v := 1) hx hb dX11_findsPut_101 (by decide) ?_
      refine cga (rn_V (As := [.int p2, .int 1]) (rest := [.int u326]) (b := o) (m_worldOf1 l D Y Z H.size o a (upd (upd (upd (upd (upd I 29 u317) 34 u326) 35 u327) 36 u328) 39 u329) (vp_updL (vp_updL (vp_updL (vp_updL J 30 u318) 31 u319) 37 u330) 38 u331) (vf_upd (vf_upd (vf_upd F 28 f124) 41 f333) 43 f335) (vf_upd (vf_upd G 40 f332) 42 f334)  p2 (show (0 ≤ p2.toInt ∧ p2.toInt ≤ 39) by omega) hk0) ⟨hx, hb, hml, hown, hg⟩ lk_X11_166 ⟨CP.blind, va_recv hKN.1 hP (ci := 11) (q0 := 0) rfl rfl, CP.at hP hKN hD⟩ ⟨⟨rfl, rfl⟩, ⟨Nat.le_of_ble_eq_true rfl, Nat.le_of_ble_eq_true rfl⟩, ⟨Nat.le_of_ble_eq_true rfl, Nat.le_of_ble_eq_true rfl⟩⟩ hl.1 rfl (Nat.le_of_ble_eq_true rfl) dX11_findsPut_102) hP hD hS hA (fun u347 H locs w348 hP hD hS => ?_)
      have w348 : (p2.toInt < ((F 0) 1).toInt → 2 ≤ u347.toInt) := w348
      have hw350 := w348
      refine W.eq (g2 := F0 m 105 ls [.int u347, .int u326]) rfl ?_
      have hP : va_P D vwCl (MW Y o a (upd (upd (upd (upd (upd I 29 u317) 34 u326) 35 u327) 36 u328) 39 u329) (vp_updL (vp_updL (vp_updL (vp_updL J 30 u318) 31 u319) 37 u330) 38 u331) (vf_upd (vf_upd (vf_upd F 28 f124) 41 f333) 43 f335) (vf_upd (vf_upd G 40 f332) 42 f334)) H := hP
      have hD : va_D A (MW Y o a (upd (upd (upd (upd (upd I 29 u317) 34 u326) 35 u327) 36 u328) 39 u329) (vp_updL (vp_updL (vp_updL (vp_updL J 30 u318) 31 u319) 37 u330) 38 u331) (vf_upd (vf_upd (vf_upd F 28 f124) 41 f333) 43 f335) (vf_upd (vf_upd G 40 f332) 42 f334)) := hD
      have j353 := rgI u347
      refine lv_icmp_ne (tgt := 112) hx hb dX11_findsPut_105 (by decide) (fun c354 => ?_) (fun c354 => ?_)
      · skip
        have c354 := i_ne (Eq.refl u326.toInt) (Eq.refl u347.toInt) c354
        refine lv_iconst (v := 0) hx hb dX11_findsPut_112 (by decide) ?_
        refine W.widen (k := 0) (n := 0) (Nat.le_of_ble_eq_true rfl) (Nat.le_of_ble_eq_true rfl) ?_
        have zi0 : (0 : Int32).toInt = 0 := by decide
        exact W.zret (v := 0) hx hb hr (by decide) (fun t ht hW => ⟨⟨(0, u326, u327, u328, u329, u330, u331, u317, u318, u319, f124, f332, f333, f334, f335), rfl, ⟨(show (((0 : Int32).toInt = 1 ∧ 1 ≤ u331.toInt ∧ 2 ≤ u326.toInt ∧ u326.toInt ≤ 200 ∧ 1 ≤ u327.toInt ∧ u327.toInt ≤ 10 ∧ 0 ≤ u328.toInt ∧ u328.toInt < u326.toInt ∧ -9000000000000 ≤ u330.toInt ∧ u330.toInt ≤ 9000000000000 ∧ (cin f124 (u326.toInt).toNat (u327.toInt).toNat (u328.toInt).toNat 600 : Int) ≠ u317.toInt) ∨ (0 : Int32).toInt = 0) by omega), (show (0 ≤ (0 : Int32).toInt ∧ (0 : Int32).toInt ≤ 1) by omega), (show (0 ≤ u317.toInt ∧ u317.toInt ≤ 600) by omega), (show (-60000000 ≤ u318.toInt ∧ u318.toInt ≤ 60000000) by omega), (show (1 ≤ u319.toInt) by omega), hp250⟩, CB.mk ht hP hD⟩, hS.F ht⟩) hS.2.2 dX11_findsPut_113
      · skip
        have c354 := i_eq (Eq.refl u326.toInt) (Eq.refl u347.toInt) c354
        refine lv_iconst (v := 1) hx hb dX11_findsPut_108 (by decide) ?_
        refine lv_goto (tgt := 113) hx hb dX11_findsPut_109 (by decide) ?_
        refine W.widen (k := 0) (n := 0) (Nat.le_of_ble_eq_true rfl) (Nat.le_of_ble_eq_true rfl) ?_
        exact W.zret (v := 1) hx hb hr (by decide) (fun t ht hW => ⟨⟨(1, u326, u327, u328, u329, u330, u331, u317, u318, u319, f124, f332, f333, f334, f335), rfl, ⟨(show (((1 : Int32).toInt = 1 ∧ 1 ≤ u331.toInt ∧ 2 ≤ u326.toInt ∧ u326.toInt ≤ 200 ∧ 1 ≤ u327.toInt ∧ u327.toInt ≤ 10 ∧ 0 ≤ u328.toInt ∧ u328.toInt < u326.toInt ∧ -9000000000000 ≤ u330.toInt ∧ u330.toInt ≤ 9000000000000 ∧ (cin f124 (u326.toInt).toNat (u327.toInt).toNat (u328.toInt).toNat 600 : Int) ≠ u317.toInt) ∨ (1 : Int32).toInt = 0) by omega), (show (0 ≤ (1 : Int32).toInt ∧ (1 : Int32).toInt ≤ 1) by omega), (show (0 ≤ u317.toInt ∧ u317.toInt ≤ 600) by omega), (show (-60000000 ≤ u318.toInt ∧ u318.toInt ≤ 60000000) by omega), (show (1 ≤ u319.toInt) by omega), hp250⟩, CB.mk ht hP hD⟩, hS.F ht⟩) hS.2.2 dX11_findsPut_113
    · obtain rfl : u325 = 0 := i_is c338 (by decide)
      have zi0 : (0 : Int32).toInt = 0 := by decide
      refine W.eq (g2 := F0 m 92 ls [.int 0]) rfl ?_
      refine lv_if_eq (tgt := 112) hx hb dX11_findsPut_92 (by decide) (fun c356 => ?_) (fun c356 => ?_)
      rotate_left
      · exact absurd c356 (by decide)
      refine lv_iconst (v := 0) hx hb dX11_findsPut_112 (by decide) ?_
      refine W.widen (k := 0) (n := 0) (Nat.le_of_ble_eq_true rfl) (Nat.le_of_ble_eq_true rfl) ?_
      exact W.zret (v := 0) hx hb hr (by decide) (fun t ht hW => ⟨⟨(0, u326, u327, u328, u329, u330, u331, u317, u318, u319, f124, f332, f333, f334, f335), rfl, ⟨(show (((0 : Int32).toInt = 1 ∧ 1 ≤ u331.toInt ∧ 2 ≤ u326.toInt ∧ u326.toInt ≤ 200 ∧ 1 ≤ u327.toInt ∧ u327.toInt ≤ 10 ∧ 0 ≤ u328.toInt ∧ u328.toInt < u326.toInt ∧ -9000000000000 ≤ u330.toInt ∧ u330.toInt ≤ 9000000000000 ∧ (cin f124 (u326.toInt).toNat (u327.toInt).toNat (u328.toInt).toNat 600 : Int) ≠ u317.toInt) ∨ (0 : Int32).toInt = 0) by omega), (show (0 ≤ (0 : Int32).toInt ∧ (0 : Int32).toInt ≤ 1) by omega), (show (0 ≤ u317.toInt ∧ u317.toInt ≤ 600) by omega), (show (-60000000 ≤ u318.toInt ∧ u318.toInt ≤ 60000000) by omega), (show (1 ≤ u319.toInt) by omega), hp250⟩, CB.mk ht hP hD⟩, hS.F ht⟩) hS.2.2 dX11_findsPut_113
  · skip
    have c314 := i_nle (show (600 : Int32).toInt = 600 by decide) (Eq.refl g123.toInt) c314
    refine lv_aload_n hx hb dX11_findsPut_9 rfl (lv_at hl 1 rfl) ?_
    refine va_get (D := D) (ci := 11) (v := .ref (a 28)) (C := RX11) (T := TX11) (N := 49) hx hb hg inGX11 hown hKN.1 hP 0 rfl rfl 28 (by decide) (hg _ kw_1236) (fun _ h9 => h9) rfl dX11_findsPut_10 ?_
    refine lv_iload_n hx hb dX11_findsPut_13 rfl (lv_at hl 0 rfl) ?_
    refine lv_aload_n hx hb dX11_findsPut_14 rfl (lv_at hl 1 rfl) ?_
    refine lv_aload_n hx hb dX11_findsPut_15 rfl (lv_at hl 1 rfl) ?_
    refine lv_iload_n hx hb dX11_findsPut_16 rfl (lv_at hl 3 rfl) ?_
    refine lv_iconst (v := 0) hx hb dX11_findsPut_17 (by decide) ?_
    have zi0 : (0 : Int32).toInt = 0 := by decide
    refine cga (rn_V (As := [.int p2, .int 0]) (rest := [.ref o, .int g123, .ref (a 28)]) (b := o) (m_worldOf0 l D Y Z H.size o a I J (vf_upd F 28 f124) G  p2 (show (0 ≤ p2.toInt ∧ p2.toInt ≤ 39) by omega) hk0) ⟨hx, hb, hml, hown, hg⟩ lk_X11_166 ⟨CP.blind, va_recv hKN.1 hP (ci := 11) (q0 := 0) rfl rfl, CP.at hP hKN hD⟩ ⟨⟨rfl, rfl⟩, ⟨Nat.le_of_ble_eq_true rfl, Nat.le_of_ble_eq_true rfl⟩, ⟨Nat.le_of_ble_eq_true rfl, Nat.le_of_ble_eq_true rfl⟩⟩ hl.1 rfl (Nat.le_of_ble_eq_true rfl) dX11_findsPut_18) hP hD hS hA (fun u357 H locs w358 hP hD hS => ?_)
    have w358 : (0 ≤ u357.toInt ∧ u357.toInt ≤ 11) := w358
    have hw360 := w358
    refine W.eq (g2 := F0 m 21 ls [.int u357, .ref o, .int g123, .ref (a 28)]) rfl ?_
    have hP : va_P D vwCl (MW Y o a I J (vf_upd F 28 f124) G) H := hP
    have hD : va_D A (MW Y o a I J (vf_upd F 28 f124) G) := hD
    refine lv_iload_n hx hb dX11_findsPut_21 rfl (lv_at hl 0 rfl) ?_
    refine lv_iconst (v := 0) hx hb dX11_findsPut_22 (by decide) ?_
    refine cga (rn_V (As := [.int u357, .int g123, .int 0]) (rest := [.int g123, .ref (a 28)]) (b := o) (m_seenAt l D Y Z H.size o a I J (vf_upd F 28 f124) G  u357 g123 0 (show (0 ≤ u357.toInt ∧ u357.toInt ≤ 11) by omega) (show (0 ≤ g123.toInt ∧ g123.toInt ≤ 599) by omega) (show (0 ≤ (0 : Int32).toInt ∧ (0 : Int32).toInt ≤ 5) by omega) hk0) ⟨hx, hb, hml, hown, hg⟩ lk_X11_157 ⟨CP.blind, va_recv hKN.1 hP (ci := 11) (q0 := 0) rfl rfl, CP.at hP hKN hD⟩ ⟨⟨rfl, rfl⟩, ⟨Nat.le_of_ble_eq_true rfl, Nat.le_of_ble_eq_true rfl⟩, ⟨Nat.le_of_ble_eq_true rfl, Nat.le_of_ble_eq_true rfl⟩⟩ hl.1 rfl (Nat.le_of_ble_eq_true rfl) dX11_findsPut_23) hP hD hS hA (fun u361 H locs w362 hP hD hS => ?_)
    have w362 : (-100000 ≤ u361.toInt ∧ u361.toInt ≤ 100000) := w362
    have hw364 := w362
    refine W.eq (g2 := F0 m 26 ls [.int u361, .int g123, .ref (a 28)]) rfl ?_
    have hP : va_P D vwCl (MW Y o a I J (vf_upd F 28 f124) G) H := hP
    have hD : va_D A (MW Y o a I J (vf_upd F 28 f124) G) := hD
    refine va_iast hx hb hKN.1 hP hD hS 19 0 rfl rfl (vp_in_iff.mpr ⟨by omega, by omega⟩) dX11_findsPut_26 (fun H locs hP hD hS => ?_)
    obtain ⟨f365, ef365, hP, hD⟩ : ∃ f365 : Nat → Int32, f365 = upd f124 g123.toNatClampNeg u361 ∧ va_P D vwCl (MW Y o a I J (vf_upd F 28 f365) G) H ∧ va_D A (MW Y o a I J (vf_upd F 28 f365) G) := ⟨_, rfl, hP, hD⟩
    have t366 : LB f365 := by rw [ef365]; exact LB_set hp250 (by omega)
    refine lv_aload_n hx hb dX11_findsPut_27 rfl (lv_at hl 1 rfl) ?_
    refine va_get (D := D) (ci := 11) (v := .ref (a 28)) (C := RX11) (T := TX11) (N := 49) hx hb hg inGX11 hown hKN.1 hP 0 rfl rfl 28 (by decide) (hg _ kw_1236) (fun _ h9 => h9) rfl dX11_findsPut_28 ?_
    refine lv_iload_n hx hb dX11_findsPut_31 rfl (lv_at hl 0 rfl) ?_
    refine va_iald hx hb hKN.1 hP 19 0 rfl rfl (vp_in_iff.mpr ⟨by omega, by omega⟩) dX11_findsPut_32 ?_
    refine lv_topi (fun v367 ev367 => ?_)
    have ev367 : v367 = f365 g123.toNatClampNeg := ev367
    have qv367 := congrArg Int32.toInt ev367
    have kv367 := LB_get t366 (i := g123) (by omega) (by omega)
    rw [← ev367] at kv367
    refine lv_ldc (v := (-100000)) hx hb hown (hg _ kw_1367) dX11_findsPut_33 ?_
    refine w_join (σ := (Nat → Int32)) (pcJ := 77) (kJ := 0) (nJ := 0) (stk := fun xx => match xx with | f391 => []) (fun xx H locs ls => match xx with | f391 => va_P D vwCl (MW Y o a I J (vf_upd F 28 f391) G) H ∧ va_D A (MW Y o a I J (vf_upd F 28 f391) G) ∧ va_S A s.heap H locs ∧ lv_has ls 4 [(3, .int g123), (0, .ref o), (1, .int p1), (2, .int p2)] ∧ LB f391) (fun xx H locs ls hI => ?_) (fun jn392 => ?_)
    · skip
      revert hI
      generalize xx = f391
      intro hI
      obtain ⟨hP, hD, hS, hl, hp393⟩ := hI
      refine W.eq (g2 := F0 m 77 ls []) rfl ?_
      obtain ⟨v394, ev394⟩ : ∃ y : Int32, y = g123 + 1 := ⟨_, rfl⟩
      have hv394 := i_add (Eq.refl g123.toInt) (show (1 : Int32).toInt = 1 by decide) ev394 (by omega) (by omega)
      refine lv_iinc (v := v394) (lv' := [(3, .int v394), (0, .ref o), (1, .int p1), (2, .int p2)]) hx hb dX11_findsPut_77 hl (k := 0) rfl (by rw [ev394]; rfl) (by decide) rfl (fun ls hl => ?_)
      refine lv_goto (tgt := 2) hx hb dX11_findsPut_80 (by decide) ?_
      exact ih251 (v394, f391) H locs ls (by show (600 - v394.toInt).toNat < (600 - g123.toInt).toNat; omega) ⟨hP, hD, hS, lv_sub hl [0, 1, 2, 3] rfl, by omega, hp393⟩
    · skip
      refine lv_icmp_eq (tgt := 77) hx hb dX11_findsPut_35 (by decide) (fun c395 => ?_) (fun c395 => ?_)
      · skip
        have c395 := i_eq (Eq.refl v367.toInt) (show ((-100000) : Int32).toInt = -100000 by decide) c395
        refine W.widen (k := 0) (n := 0) (Nat.le_of_ble_eq_true rfl) (Nat.le_of_ble_eq_true rfl) ?_
        exact jn392 (f365) H locs ls ⟨hP, hD, hS, lv_sub hl [0, 1, 2, 3] rfl, t366⟩
      · skip
        have c395 := i_ne (Eq.refl v367.toInt) (show ((-100000) : Int32).toInt = -100000 by decide) c395
        refine lv_aload_n hx hb dX11_findsPut_38 rfl (lv_at hl 1 rfl) ?_
        refine lv_iload_n hx hb dX11_findsPut_39 rfl (lv_at hl 3 rfl) ?_
        refine lv_iload_n hx hb dX11_findsPut_40 rfl (lv_at hl 0 rfl) ?_
        refine cga (rn_V (As := [.int p2, .int g123]) (rest := []) (b := o) (m_isDip l D Y Z H.size o a I J (vf_upd F 28 f365) G  p2 g123 (show (0 ≤ p2.toInt ∧ p2.toInt ≤ 39) by omega) (show (0 ≤ g123.toInt ∧ g123.toInt ≤ 599) by omega) (show (p2.toInt < ((F 0) 1).toInt) by omega) hk0) ⟨hx, hb, hml, hown, hg⟩ lk_X11_380 ⟨CP.blind, va_recv hKN.1 hP (ci := 11) (q0 := 0) rfl rfl, CP.at hP hKN hD⟩ ⟨⟨rfl, rfl⟩, ⟨Nat.le_of_ble_eq_true rfl, Nat.le_of_ble_eq_true rfl⟩, ⟨Nat.le_of_ble_eq_true rfl, Nat.le_of_ble_eq_true rfl⟩⟩ hl.1 rfl (Nat.le_of_ble_eq_true rfl) dX11_findsPut_41) hP hD hS hA (fun u396 H locs w397 hP hD hS => ?_)
        have w397 : (0 ≤ u396.toInt ∧ u396.toInt ≤ 1) := w397
        have hw399 := w397
        refine W.eq (g2 := F0 m 44 ls [.int u396]) rfl ?_
        have hP : va_P D vwCl (MW Y o a I J (vf_upd F 28 f365) G) H := hP
        have hD : va_D A (MW Y o a I J (vf_upd F 28 f365) G) := hD
        rcases (show u396.toInt = 1 ∨ u396.toInt = 0 by omega) with c400 | c400
        · obtain rfl : u396 = 1 := i_is c400 (by decide)
          have zi1 : (1 : Int32).toInt = 1 := by decide
          refine W.eq (g2 := F0 m 44 ls [.int 1]) rfl ?_
          refine lv_if_eq (tgt := 77) hx hb dX11_findsPut_44 (by decide) (fun c401 => ?_) (fun c401 => ?_)
          · exact absurd c401 (by decide)
          refine lv_aload_n hx hb dX11_findsPut_47 rfl (lv_at hl 1 rfl) ?_
          refine va_get (D := D) (ci := 11) (v := .ref (a 28)) (C := RX11) (T := TX11) (N := 49) hx hb hg inGX11 hown hKN.1 hP 0 rfl rfl 28 (by decide) (hg _ kw_1236) (fun _ h9 => h9) rfl dX11_findsPut_48 ?_
          refine lv_iload_n hx hb dX11_findsPut_51 rfl (lv_at hl 0 rfl) ?_
          refine lv_aload_n hx hb dX11_findsPut_52 rfl (lv_at hl 1 rfl) ?_
          refine va_get (D := D) (ci := 11) (v := .ref (a 28)) (C := RX11) (T := TX11) (N := 49) hx hb hg inGX11 hown hKN.1 hP 0 rfl rfl 28 (by decide) (hg _ kw_1236) (fun _ h9 => h9) rfl dX11_findsPut_53 ?_
          refine lv_iload_n hx hb dX11_findsPut_56 rfl (lv_at hl 0 rfl) ?_
          refine va_iald hx hb hKN.1 hP 19 0 rfl rfl (vp_in_iff.mpr ⟨by omega, by omega⟩) dX11_findsPut_57 ?_
          refine lv_topi (fun v402 ev402 => ?_)
          have ev402 : v402 = f365 g123.toNatClampNeg := ev402
          have qv402 := congrArg Int32.toInt ev402
          have kv402 := LB_get t366 (i := g123) (by omega) (by omega)
          rw [← ev402] at kv402
          refine lv_aload_n hx hb dX11_findsPut_58 rfl (lv_at hl 1 rfl) ?_
          refine lv_iload_n hx hb dX11_findsPut_59 rfl (lv_at hl 3 rfl) ?_
          refine lv_iconst (v := 4) hx hb dX11_findsPut_60 (by decide) ?_
          have zi4 : (4 : Int32).toInt = 4 := by decide
          refine cga (rn_V (As := [.int p2, .int 4]) (rest := [.int v402, .int g123, .ref (a 28)]) (b := o) (m_worldOf4 l D Y Z H.size o a I J (vf_upd F 28 f365) G  p2 (show (0 ≤ p2.toInt ∧ p2.toInt ≤ 39) by omega) hk0) ⟨hx, hb, hml, hown, hg⟩ lk_X11_166 ⟨CP.blind, va_recv hKN.1 hP (ci := 11) (q0 := 0) rfl rfl, CP.at hP hKN hD⟩ ⟨⟨rfl, rfl⟩, ⟨Nat.le_of_ble_eq_true rfl, Nat.le_of_ble_eq_true rfl⟩, ⟨Nat.le_of_ble_eq_true rfl, Nat.le_of_ble_eq_true rfl⟩⟩ hl.1 rfl (Nat.le_of_ble_eq_true rfl) dX11_findsPut_61) hP hD hS hA (fun u403 H locs w404 hP hD hS => ?_)
          have w404 : (0 ≤ u403.toInt ∧ u403.toInt ≤ 30000) := w404
          have hw406 := w404
          refine W.eq (g2 := F0 m 64 ls [.int u403, .int v402, .int g123, .ref (a 28)]) rfl ?_
          have hP : va_P D vwCl (MW Y o a I J (vf_upd F 28 f365) G) H := hP
          have hD : va_D A (MW Y o a I J (vf_upd F 28 f365) G) := hD
          refine lv_isub hx hb dX11_findsPut_64 ?_
          refine lv_topi (fun v407 ev407 => ?_)
          have hv407 := i_sub (Eq.refl v402.toInt) (Eq.refl u403.toInt) ev407 (by omega) (by omega)
          have j408 := Int32.toInt_toInt64 v407
          refine lv_i2l (v := v407.toInt64) hx hb dX11_findsPut_65 (rfl) ?_
          refine lv_ldc2 (v := (-30000)) hx hb hown (hg _ kw_1379) dX11_findsPut_66 ?_
          refine lv_ldc2 (v := 30000) hx hb hown (hg _ kw_1380) dX11_findsPut_69 ?_
          have zlm30000 : ((-30000) : Int64).toInt = -30000 := by decide
          have zl30000 : (30000 : Int64).toInt = 30000 := by decide
          refine cg0 (rn_S (As := [.long v407.toInt64, .long (-30000), .long 30000]) (rest := [.int g123, .ref (a 28)]) (m_heldB l D Y Z H.size   v407.toInt64 (-30000) 30000 (show (-1000000000000000 ≤ v407.toInt64.toInt ∧ v407.toInt64.toInt ≤ 1000000000000000) by omega) (show (-100000 ≤ ((-30000) : Int64).toInt ∧ ((-30000) : Int64).toInt ≤ 100000) by omega) (show (-100000 ≤ (30000 : Int64).toInt ∧ (30000 : Int64).toInt ≤ 100000) by omega) (show (((-30000) : Int64).toInt ≤ (30000 : Int64).toInt) by omega)) ⟨hx, hb, hml, hown, hg⟩ lk_X11_148 ⟨CP.blind, CP.at nilP hKN (nilD (A := fun _ => True))⟩ ⟨⟨rfl, rfl⟩, ⟨Nat.le_of_ble_eq_true rfl, Nat.le_of_ble_eq_true rfl⟩, ⟨Nat.le_of_ble_eq_true rfl, Nat.le_of_ble_eq_true rfl⟩⟩ hl.1 rfl (Nat.le_of_ble_eq_true rfl) dX11_findsPut_72) hP hS hA (fun u409 H locs w410 hP hS => ?_)
          have w410 : (((-30000) : Int64).toInt ≤ u409.toInt ∧ u409.toInt ≤ (30000 : Int64).toInt) ∧ (-100000 ≤ u409.toInt ∧ u409.toInt ≤ 100000) := w410
          obtain ⟨hw412, hw413⟩ := w410
          refine W.eq (g2 := F0 m 75 ls [.long u409, .int g123, .ref (a 28)]) rfl ?_
          refine lv_l2i (v := u409.toInt32) hx hb dX11_findsPut_75 rfl ?_
          refine lv_topi (fun v414 ev414 => ?_)
          have hv414 := l_i (Eq.refl u409.toInt) ev414 (by omega) (by omega)
          refine va_iast hx hb hKN.1 hP hD hS 19 0 rfl rfl (vp_in_iff.mpr ⟨by omega, by omega⟩) dX11_findsPut_76 (fun H locs hP hD hS => ?_)
          obtain ⟨f415, ef415, hP, hD⟩ : ∃ f415 : Nat → Int32, f415 = upd f365 g123.toNatClampNeg v414 ∧ va_P D vwCl (MW Y o a I J (vf_upd F 28 f415) G) H ∧ va_D A (MW Y o a I J (vf_upd F 28 f415) G) := ⟨_, rfl, hP, hD⟩
          have t416 : LB f415 := by rw [ef415]; exact LB_set t366 (by omega)
          refine W.widen (k := 0) (n := 0) (Nat.le_of_ble_eq_true rfl) (Nat.le_of_ble_eq_true rfl) ?_
          exact jn392 (f415) H locs ls ⟨hP, hD, hS, lv_sub hl [0, 1, 2, 3] rfl, t416⟩
        · obtain rfl : u396 = 0 := i_is c400 (by decide)
          refine W.eq (g2 := F0 m 44 ls [.int 0]) rfl ?_
          refine lv_if_eq (tgt := 77) hx hb dX11_findsPut_44 (by decide) (fun c417 => ?_) (fun c417 => ?_)
          rotate_left
          · exact absurd c417 (by decide)
          refine W.widen (k := 0) (n := 0) (Nat.le_of_ble_eq_true rfl) (Nat.le_of_ble_eq_true rfl) ?_
          exact jn392 (f365) H locs ls ⟨hP, hD, hS, lv_sub hl [0, 1, 2, 3] rfl, t366⟩
set_option maxHeartbeats 4000000 in
set_option maxRecDepth 100000 in
theorem m_isCaught (l : Launch) (D : va_G) (Y : Nat → ClassId) (Z : Nat → Nat) (sz : Nat) (o : Nat) (a : Nat → Nat) (I : Nat → Int32) (J : Nat → Int64) (F : Nat → Nat → Int32) (G : Nat → Nat → Int64) (p1 : Int32) (p2 : Int32) (hk_0 : (0 ≤ p1.toInt ∧ p1.toInt ≤ 5)) (hk_1 : (p1.toInt < ((F 4) 1).toInt)) (hk_2 : (0 ≤ p2.toInt ∧ p2.toInt ≤ 39)) (hk_3 : (p2.toInt < ((F 0) 1).toInt)) (hk0 : TO (F 0)) (hk1 : LB (F 28)) (hk2 : TX (F 4) (F 9) (F 10) (F 11) (F 12) (F 13)) : Met l yX11_isCaught (.code yX11_isCaught cX11_isCaught 3 (some .boolean) :: GW) ({ frames := 7, cells := 0, slots := 0, locals := 169 }) (va_Pc [.ref o, .int p1, .int p2] (CP D Y Z (MW Y o a I J F G) sz)) (QG (S := Int32 × Int32 × Int32 × Int32 × Int32 × Int64 × Int64 × Int32 × Int64 × Int64 × (Nat → Int32) × (Nat → Int64) × (Nat → Int32) × (Nat → Int64) × (Nat → Int32)) (fun u => some (.int u.1)) (fun u => (0 ≤ u.1.toInt ∧ u.1.toInt ≤ 1) ∧ LB u.2.2.2.2.2.2.2.2.2.2.1) (fun u => CB D (MW Y o a (upd (upd (upd (upd (upd I 29 u.2.2.2.2.2.2.2.1) 34 u.2.1) 35 u.2.2.1) 36 u.2.2.2.1) 39 u.2.2.2.2.1) (vp_updL (vp_updL (vp_updL (vp_updL J 30 u.2.2.2.2.2.2.2.2.1) 31 u.2.2.2.2.2.2.2.2.2.1) 37 u.2.2.2.2.2.1) 38 u.2.2.2.2.2.2.1) (vf_upd (vf_upd (vf_upd F 28 u.2.2.2.2.2.2.2.2.2.2.1) 41 u.2.2.2.2.2.2.2.2.2.2.2.2.1) 43 u.2.2.2.2.2.2.2.2.2.2.2.2.2.2) (vf_upd (vf_upd G 40 u.2.2.2.2.2.2.2.2.2.2.2.1) 42 u.2.2.2.2.2.2.2.2.2.2.2.2.2.1)) (va_A (MW Y o a I J F G) sz)) (va_A (MW Y o a I J F G) sz)) 0 0 (va_A (MW Y o a I J F G) sz) := by
  refine Met.ofW (cc := cX11_isCaught) (maxL := 3) (ret := (some .boolean)) (by decide) rfl ?_
  intro p e s m args below meth c s₁ B hml hv
  obtain ⟨rfl, hsz, hP, hKN, hD0⟩ := hv
  have hx := B.exec
  have hb := B.bytes
  have hr := B.returns
  have hts := atoms_spec (ws := .code yX11_isCaught cX11_isCaught 3 (some .boolean) :: GW) B.pre
  have hg : ∀ w ∈ GW, w.before _ s = true := fun w h => hts w (List.mem_cons_of_mem _ h)
  have hown : s.vm.findClass RX11 = some m.cls := findClass_of_methodNamed B.named
  have hlocks := B.notSynchronized
  subst hsz
  have hD := hD0.self (sz := s.heap.size)
  generalize hAe : va_A (MW Y o a I J F G) s.heap.size = A at hD ⊢
  have hA : ∀ q : Nat, s.heap.size ≤ q → A q := fun q h => by rw [← hAe]; exact Or.inr h
  clear hAe hD0 hts B
  have hl := lv_entry ([.ref o, .int p1, .int p2]) (n := 3) (Nat.le_of_ble_eq_true rfl)
  rw [lg_entry_eq]
  generalize (lg_sl ([.ref o, .int p1, .int p2]) ++ List.replicate (3 - (lg_sl ([.ref o, .int p1, .int p2])).length) Slot.unset).toArray = ls at hl ⊢
  have hl : lv_has ls 3 [(0, .ref o), (1, .int p1), (2, .int p2)] := hl
  refine w_start (A0 := A) hP (fun H locs hP hS => ?_)
  refine lv_aload_n hx hb dX11_isCaught_0 rfl (lv_at hl 0 rfl) ?_
  refine lv_iload_n hx hb dX11_isCaught_1 rfl (lv_at hl 1 rfl) ?_
  refine lv_iload_n hx hb dX11_isCaught_2 rfl (lv_at hl 2 rfl) ?_
  refine cga (rn_V (As := [.int p1, .int p2]) (rest := []) (b := o) (m_findsPut l D Y Z H.size o a I J F G  p1 p2 (show (0 ≤ p1.toInt ∧ p1.toInt ≤ 5) by omega) (show (p1.toInt < ((F 4) 1).toInt) by omega) (show (0 ≤ p2.toInt ∧ p2.toInt ≤ 39) by omega) (show (p2.toInt < ((F 0) 1).toInt) by omega) hk0 hk1 hk2) ⟨hx, hb, hml, hown, hg⟩ lk_X11_497 ⟨CP.blind, va_recv hKN.1 hP (ci := 11) (q0 := 0) rfl rfl, CP.at hP hKN hD⟩ ⟨⟨rfl, rfl⟩, ⟨Nat.le_of_ble_eq_true rfl, Nat.le_of_ble_eq_true rfl⟩, ⟨Nat.le_of_ble_eq_true rfl, Nat.le_of_ble_eq_true rfl⟩⟩ hl.1 rfl (Nat.le_of_ble_eq_true rfl) dX11_isCaught_3) hP hD hS hA (fun u1 H locs w2 hP hD hS => ?_)
  obtain ⟨u3, u4, u5, u6, u7, u8, u9, u10, u11, u12, f13, f14, f15, f16, f17⟩ := u1
  have w2 : ((u3.toInt = 1 ∧ 1 ≤ u9.toInt ∧ 2 ≤ u4.toInt ∧ u4.toInt ≤ 200 ∧ 1 ≤ u5.toInt ∧ u5.toInt ≤ 10 ∧ 0 ≤ u6.toInt ∧ u6.toInt < u4.toInt ∧ -9000000000000 ≤ u8.toInt ∧ u8.toInt ≤ 9000000000000 ∧ (cin f13 (u4.toInt).toNat (u5.toInt).toNat (u6.toInt).toNat 600 : Int) ≠ u10.toInt) ∨ u3.toInt = 0) ∧ (0 ≤ u3.toInt ∧ u3.toInt ≤ 1) ∧ (0 ≤ u10.toInt ∧ u10.toInt ≤ 600) ∧ (-60000000 ≤ u11.toInt ∧ u11.toInt ≤ 60000000) ∧ (1 ≤ u12.toInt) ∧ LB f13 := w2
  obtain ⟨hw18, hw19, hw20, hw21, hw22, hw23⟩ := w2
  refine W.eq (g2 := F0 m 6 ls [.int u3]) rfl ?_
  have hP : va_P D vwCl (MW Y o a (upd (upd (upd (upd (upd I 29 u10) 34 u4) 35 u5) 36 u6) 39 u7) (vp_updL (vp_updL (vp_updL (vp_updL J 30 u11) 31 u12) 37 u8) 38 u9) (vf_upd (vf_upd (vf_upd F 28 f13) 41 f15) 43 f17) (vf_upd (vf_upd G 40 f14) 42 f16)) H := hP
  have hD : va_D A (MW Y o a (upd (upd (upd (upd (upd I 29 u10) 34 u4) 35 u5) 36 u6) 39 u7) (vp_updL (vp_updL (vp_updL (vp_updL J 30 u11) 31 u12) 37 u8) 38 u9) (vf_upd (vf_upd (vf_upd F 28 f13) 41 f15) 43 f17) (vf_upd (vf_upd G 40 f14) 42 f16)) := hD
  rcases (show u3.toInt = 1 ∨ u3.toInt = 0 by omega) with c24 | c24
  · obtain rfl : u3 = 1 := i_is c24 (by decide)
    have zi1 : (1 : Int32).toInt = 1 := by decide
    refine W.eq (g2 := F0 m 6 ls [.int 1]) rfl ?_
    refine lv_if_eq (tgt := 21) hx hb dX11_isCaught_6 (by decide) (fun c33 => ?_) (fun c33 => ?_)
    · exact absurd c33 (by decide)
    refine lv_aload_n hx hb dX11_isCaught_9 rfl (lv_at hl 0 rfl) ?_
    refine lv_iload_n hx hb dX11_isCaught_10 rfl (lv_at hl 1 rfl) ?_
    refine cga (rn_V (As := [.int p1]) (rest := []) (b := o) (m_isSeen l D Y Z H.size o a (upd (upd (upd (upd (upd I 29 u10) 34 u4) 35 u5) 36 u6) 39 u7) (vp_updL (vp_updL (vp_updL (vp_updL J 30 u11) 31 u12) 37 u8) 38 u9) (vf_upd (vf_upd (vf_upd F 28 f13) 41 f15) 43 f17) (vf_upd (vf_upd G 40 f14) 42 f16)  p1 (show (0 ≤ p1.toInt ∧ p1.toInt ≤ 5) by omega)) ⟨hx, hb, hml, hown, hg⟩ lk_X11_494 ⟨CP.blind, va_recv hKN.1 hP (ci := 11) (q0 := 0) rfl rfl, CP.at hP hKN hD⟩ ⟨⟨rfl, rfl⟩, ⟨Nat.le_of_ble_eq_true rfl, Nat.le_of_ble_eq_true rfl⟩, ⟨Nat.le_of_ble_eq_true rfl, Nat.le_of_ble_eq_true rfl⟩⟩ hl.1 rfl (Nat.le_of_ble_eq_true rfl) dX11_isCaught_11) hP hD hS hA (fun u34 H locs w35 hP hD hS => ?_)
    have w35 : (0 ≤ u34.toInt ∧ u34.toInt ≤ 1) := w35
    have hw37 := w35
    refine W.eq (g2 := F0 m 14 ls [.int u34]) rfl ?_
    have hP : va_P D vwCl (MW Y o a (upd (upd (upd (upd (upd I 29 u10) 34 u4) 35 u5) 36 u6) 39 u7) (vp_updL (vp_updL (vp_updL (vp_updL J 30 u11) 31 u12) 37 u8) 38 u9) (vf_upd (vf_upd (vf_upd F 28 f13) 41 f15) 43 f17) (vf_upd (vf_upd G 40 f14) 42 f16)) H := hP
    have hD : va_D A (MW Y o a (upd (upd (upd (upd (upd I 29 u10) 34 u4) 35 u5) 36 u6) 39 u7) (vp_updL (vp_updL (vp_updL (vp_updL J 30 u11) 31 u12) 37 u8) 38 u9) (vf_upd (vf_upd (vf_upd F 28 f13) 41 f15) 43 f17) (vf_upd (vf_upd G 40 f14) 42 f16)) := hD
    rcases (show u34.toInt = 1 ∨ u34.toInt = 0 by omega) with c38 | c38
    · obtain rfl : u34 = 1 := i_is c38 (by decide)
      refine W.eq (g2 := F0 m 14 ls [.int 1]) rfl ?_
      refine lv_if_eq (tgt := 21) hx hb dX11_isCaught_14 (by decide) (fun c40 => ?_) (fun c40 => ?_)
      · exact absurd c40 (by decide)
      refine lv_iconst (v := 1) hx hb dX11_isCaught_17 (by decide) ?_
      refine lv_goto (tgt := 22) hx hb dX11_isCaught_18 (by decide) ?_
      refine W.widen (k := 0) (n := 0) (Nat.le_of_ble_eq_true rfl) (Nat.le_of_ble_eq_true rfl) ?_
      exact W.zret (v := 1) hx hb hr (by decide) (fun t ht hW => ⟨⟨(1, u4, u5, u6, u7, u8, u9, u10, u11, u12, f13, f14, f15, f16, f17), rfl, ⟨(show (0 ≤ (1 : Int32).toInt ∧ (1 : Int32).toInt ≤ 1) by omega), hw23⟩, CB.mk ht hP hD⟩, hS.F ht⟩) hS.2.2 dX11_isCaught_22
    · obtain rfl : u34 = 0 := i_is c38 (by decide)
      have zi0 : (0 : Int32).toInt = 0 := by decide
      refine W.eq (g2 := F0 m 14 ls [.int 0]) rfl ?_
      refine lv_if_eq (tgt := 21) hx hb dX11_isCaught_14 (by decide) (fun c42 => ?_) (fun c42 => ?_)
      rotate_left
      · exact absurd c42 (by decide)
      refine lv_iconst (v := 0) hx hb dX11_isCaught_21 (by decide) ?_
      refine W.widen (k := 0) (n := 0) (Nat.le_of_ble_eq_true rfl) (Nat.le_of_ble_eq_true rfl) ?_
      exact W.zret (v := 0) hx hb hr (by decide) (fun t ht hW => ⟨⟨(0, u4, u5, u6, u7, u8, u9, u10, u11, u12, f13, f14, f15, f16, f17), rfl, ⟨(show (0 ≤ (0 : Int32).toInt ∧ (0 : Int32).toInt ≤ 1) by omega), hw23⟩, CB.mk ht hP hD⟩, hS.F ht⟩) hS.2.2 dX11_isCaught_22
  · obtain rfl : u3 = 0 := i_is c24 (by decide)
    have zi0 : (0 : Int32).toInt = 0 := by decide
    refine W.eq (g2 := F0 m 6 ls [.int 0]) rfl ?_
    refine lv_if_eq (tgt := 21) hx hb dX11_isCaught_6 (by decide) (fun c44 => ?_) (fun c44 => ?_)
    rotate_left
    · exact absurd c44 (by decide)
    refine lv_iconst (v := 0) hx hb dX11_isCaught_21 (by decide) ?_
    refine W.widen (k := 0) (n := 0) (Nat.le_of_ble_eq_true rfl) (Nat.le_of_ble_eq_true rfl) ?_
    exact W.zret (v := 0) hx hb hr (by decide) (fun t ht hW => ⟨⟨(0, u4, u5, u6, u7, u8, u9, u10, u11, u12, f13, f14, f15, f16, f17), rfl, ⟨(show (0 ≤ (0 : Int32).toInt ∧ (0 : Int32).toInt ≤ 1) by omega), hw23⟩, CB.mk ht hP hD⟩, hS.F ht⟩) hS.2.2 dX11_isCaught_22
set_option maxHeartbeats 4000000 in
set_option maxRecDepth 100000 in
theorem m_catches (l : Launch) (D : va_G) (Y : Nat → ClassId) (Z : Nat → Nat) (sz : Nat) (o : Nat) (a : Nat → Nat) (I : Nat → Int32) (J : Nat → Int64) (F : Nat → Nat → Int32) (G : Nat → Nat → Int64) (p1 : Int32) (p2 : Int32) (hk0 : TO (F 0)) (hk1 : LB (F 28)) (hk2 : TX (F 4) (F 9) (F 10) (F 11) (F 12) (F 13)) : Met l yX11_catches (.code yX11_catches cX11_catches 3 (some .int) :: GW) ({ frames := 8, cells := 0, slots := 0, locals := 191 }) (va_Pc [.ref o, .int p1, .int p2] (CP D Y Z (MW Y o a I J F G) sz)) (QG (S := Int32 × Int32 × Int32 × Int32 × Int32 × Int64 × Int64 × Int32 × Int64 × Int64 × (Nat → Int32) × (Nat → Int64) × (Nat → Int32) × (Nat → Int64) × (Nat → Int32)) (fun u => some (.int u.1)) (fun u => LB u.2.2.2.2.2.2.2.2.2.2.1) (fun u => CB D (MW Y o a (upd (upd (upd (upd (upd I 29 u.2.2.2.2.2.2.2.1) 34 u.2.1) 35 u.2.2.1) 36 u.2.2.2.1) 39 u.2.2.2.2.1) (vp_updL (vp_updL (vp_updL (vp_updL J 30 u.2.2.2.2.2.2.2.2.1) 31 u.2.2.2.2.2.2.2.2.2.1) 37 u.2.2.2.2.2.1) 38 u.2.2.2.2.2.2.1) (vf_upd (vf_upd (vf_upd F 28 u.2.2.2.2.2.2.2.2.2.2.1) 41 u.2.2.2.2.2.2.2.2.2.2.2.2.1) 43 u.2.2.2.2.2.2.2.2.2.2.2.2.2.2) (vf_upd (vf_upd G 40 u.2.2.2.2.2.2.2.2.2.2.2.1) 42 u.2.2.2.2.2.2.2.2.2.2.2.2.2.1)) (va_A (MW Y o a I J F G) sz)) (va_A (MW Y o a I J F G) sz)) 0 0 (va_A (MW Y o a I J F G) sz) := by
  refine Met.ofW (cc := cX11_catches) (maxL := 3) (ret := (some .int)) (by decide) rfl ?_
  intro p e s m args below meth c s₁ B hml hv
  obtain ⟨rfl, hsz, hP, hKN, hD0⟩ := hv
  have hx := B.exec
  have hb := B.bytes
  have hr := B.returns
  have hts := atoms_spec (ws := .code yX11_catches cX11_catches 3 (some .int) :: GW) B.pre
  have hg : ∀ w ∈ GW, w.before _ s = true := fun w h => hts w (List.mem_cons_of_mem _ h)
  have hown : s.vm.findClass RX11 = some m.cls := findClass_of_methodNamed B.named
  have hlocks := B.notSynchronized
  subst hsz
  have hD := hD0.self (sz := s.heap.size)
  generalize hAe : va_A (MW Y o a I J F G) s.heap.size = A at hD ⊢
  have hA : ∀ q : Nat, s.heap.size ≤ q → A q := fun q h => by rw [← hAe]; exact Or.inr h
  clear hAe hD0 hts B
  have hl := lv_entry ([.ref o, .int p1, .int p2]) (n := 3) (Nat.le_of_ble_eq_true rfl)
  rw [lg_entry_eq]
  generalize (lg_sl ([.ref o, .int p1, .int p2]) ++ List.replicate (3 - (lg_sl ([.ref o, .int p1, .int p2])).length) Slot.unset).toArray = ls at hl ⊢
  have hl : lv_has ls 3 [(0, .ref o), (1, .int p1), (2, .int p2)] := hl
  refine w_start (A0 := A) hP (fun H locs hP hS => ?_)
  refine lv_aload_n hx hb dX11_catches_0 rfl (lv_at hl 0 rfl) ?_
  refine lv_iconst (v := 1) hx hb dX11_catches_1 (by decide) ?_
  refine lv_iload_n hx hb dX11_catches_2 rfl (lv_at hl 1 rfl) ?_
  have zi1 : (1 : Int32).toInt = 1 := by decide
  refine cga (rn_V (As := [.int 1, .int p1]) (rest := []) (b := o) (m_isText1 l D Y Z H.size o a I J F G  p1 hk2) ⟨hx, hb, hml, hown, hg⟩ lk_X11_366 ⟨CP.blind, va_recv hKN.1 hP (ci := 11) (q0 := 0) rfl rfl, CP.at hP hKN hD⟩ ⟨⟨rfl, rfl⟩, ⟨Nat.le_of_ble_eq_true rfl, Nat.le_of_ble_eq_true rfl⟩, ⟨Nat.le_of_ble_eq_true rfl, Nat.le_of_ble_eq_true rfl⟩⟩ hl.1 rfl (Nat.le_of_ble_eq_true rfl) dX11_catches_3) hP hD hS hA (fun u1 H locs w2 hP hD hS => ?_)
  have w2 : ((0 ≤ p1.toInt ∧ p1.toInt ≤ 5 ∧ p1.toInt < ((F 4) 1).toInt ∧ u1.toInt = 1) ∨ u1.toInt = 0) ∧ (0 ≤ u1.toInt ∧ u1.toInt ≤ 1) := w2
  obtain ⟨hw4, hw5⟩ := w2
  refine W.eq (g2 := F0 m 6 ls [.int u1]) rfl ?_
  have hP : va_P D vwCl (MW Y o a I J F G) H := hP
  have hD : va_D A (MW Y o a I J F G) := hD
  rcases (show u1.toInt = 1 ∨ u1.toInt = 0 by omega) with c6 | c6
  · obtain rfl : u1 = 1 := i_is c6 (by decide)
    refine W.eq (g2 := F0 m 6 ls [.int 1]) rfl ?_
    refine lv_if_eq (tgt := 17) hx hb dX11_catches_6 (by decide) (fun c38 => ?_) (fun c38 => ?_)
    · exact absurd c38 (by decide)
    refine lv_aload_n hx hb dX11_catches_9 rfl (lv_at hl 0 rfl) ?_
    refine lv_iload_n hx hb dX11_catches_10 rfl (lv_at hl 2 rfl) ?_
    refine cga (rn_V (As := [.int p2]) (rest := []) (b := o) (m_isPut l D Y Z H.size o a I J F G  p2 hk0) ⟨hx, hb, hml, hown, hg⟩ lk_X11_500 ⟨CP.blind, va_recv hKN.1 hP (ci := 11) (q0 := 0) rfl rfl, CP.at hP hKN hD⟩ ⟨⟨rfl, rfl⟩, ⟨Nat.le_of_ble_eq_true rfl, Nat.le_of_ble_eq_true rfl⟩, ⟨Nat.le_of_ble_eq_true rfl, Nat.le_of_ble_eq_true rfl⟩⟩ hl.1 rfl (Nat.le_of_ble_eq_true rfl) dX11_catches_11) hP hD hS hA (fun u39 H locs w40 hP hD hS => ?_)
    have w40 : ((0 ≤ p2.toInt ∧ p2.toInt ≤ 39 ∧ p2.toInt < ((F 0) 1).toInt ∧ u39.toInt = 1) ∨ u39.toInt = 0) ∧ (0 ≤ u39.toInt ∧ u39.toInt ≤ 1) := w40
    obtain ⟨hw42, hw43⟩ := w40
    refine W.eq (g2 := F0 m 14 ls [.int u39]) rfl ?_
    have hP : va_P D vwCl (MW Y o a I J F G) H := hP
    have hD : va_D A (MW Y o a I J F G) := hD
    rcases (show u39.toInt = 1 ∨ u39.toInt = 0 by omega) with c44 | c44
    · obtain rfl : u39 = 1 := i_is c44 (by decide)
      refine W.eq (g2 := F0 m 14 ls [.int 1]) rfl ?_
      refine lv_if_ne (tgt := 21) hx hb dX11_catches_14 (by decide) (fun c68 => ?_) (fun c68 => ?_)
      rotate_left
      · exact absurd c68 (by decide)
      refine lv_aload_n hx hb dX11_catches_21 rfl (lv_at hl 0 rfl) ?_
      refine lv_iload_n hx hb dX11_catches_22 rfl (lv_at hl 1 rfl) ?_
      refine lv_iload_n hx hb dX11_catches_23 rfl (lv_at hl 2 rfl) ?_
      refine cga (rn_V (As := [.int p1, .int p2]) (rest := []) (b := o) (m_isCaught l D Y Z H.size o a I J F G  p1 p2 (show (0 ≤ p1.toInt ∧ p1.toInt ≤ 5) by omega) (show (p1.toInt < ((F 4) 1).toInt) by omega) (show (0 ≤ p2.toInt ∧ p2.toInt ≤ 39) by omega) (show (p2.toInt < ((F 0) 1).toInt) by omega) hk0 hk1 hk2) ⟨hx, hb, hml, hown, hg⟩ lk_X11_503 ⟨CP.blind, va_recv hKN.1 hP (ci := 11) (q0 := 0) rfl rfl, CP.at hP hKN hD⟩ ⟨⟨rfl, rfl⟩, ⟨Nat.le_of_ble_eq_true rfl, Nat.le_of_ble_eq_true rfl⟩, ⟨Nat.le_of_ble_eq_true rfl, Nat.le_of_ble_eq_true rfl⟩⟩ hl.1 rfl (Nat.le_of_ble_eq_true rfl) dX11_catches_24) hP hD hS hA (fun u69 H locs w70 hP hD hS => ?_)
      obtain ⟨u71, u72, u73, u74, u75, u76, u77, u78, u79, u80, f81, f82, f83, f84, f85⟩ := u69
      have w70 : (0 ≤ u71.toInt ∧ u71.toInt ≤ 1) ∧ LB f81 := w70
      obtain ⟨hw86, hw87⟩ := w70
      refine W.eq (g2 := F0 m 27 ls [.int u71]) rfl ?_
      have hP : va_P D vwCl (MW Y o a (upd (upd (upd (upd (upd I 29 u78) 34 u72) 35 u73) 36 u74) 39 u75) (vp_updL (vp_updL (vp_updL (vp_updL J 30 u79) 31 u80) 37 u76) 38 u77) (vf_upd (vf_upd (vf_upd F 28 f81) 41 f83) 43 f85) (vf_upd (vf_upd G 40 f82) 42 f84)) H := hP
      have hD : va_D A (MW Y o a (upd (upd (upd (upd (upd I 29 u78) 34 u72) 35 u73) 36 u74) 39 u75) (vp_updL (vp_updL (vp_updL (vp_updL J 30 u79) 31 u80) 37 u76) 38 u77) (vf_upd (vf_upd (vf_upd F 28 f81) 41 f83) 43 f85) (vf_upd (vf_upd G 40 f82) 42 f84)) := hD
      rcases (show u71.toInt = 1 ∨ u71.toInt = 0 by omega) with c88 | c88
      · obtain rfl : u71 = 1 := i_is c88 (by decide)
        refine W.eq (g2 := F0 m 27 ls [.int 1]) rfl ?_
        refine lv_if_eq (tgt := 34) hx hb dX11_catches_27 (by decide) (fun c90 => ?_) (fun c90 => ?_)
        · exact absurd c90 (by decide)
        refine lv_iconst (v := 1) hx hb dX11_catches_30 (by decide) ?_
        refine lv_goto (tgt := 35) hx hb dX11_catches_31 (by decide) ?_
        refine W.widen (k := 0) (n := 0) (Nat.le_of_ble_eq_true rfl) (Nat.le_of_ble_eq_true rfl) ?_
        exact W.iret (v := 1) hx hb hr (fun t ht hW => ⟨⟨(1, u72, u73, u74, u75, u76, u77, u78, u79, u80, f81, f82, f83, f84, f85), rfl, (hw87), CB.mk ht hP hD⟩, hS.F ht⟩) hS.2.2 dX11_catches_35
      · obtain rfl : u71 = 0 := i_is c88 (by decide)
        have zi0 : (0 : Int32).toInt = 0 := by decide
        refine W.eq (g2 := F0 m 27 ls [.int 0]) rfl ?_
        refine lv_if_eq (tgt := 34) hx hb dX11_catches_27 (by decide) (fun c92 => ?_) (fun c92 => ?_)
        rotate_left
        · exact absurd c92 (by decide)
        refine lv_iconst (v := 0) hx hb dX11_catches_34 (by decide) ?_
        refine W.widen (k := 0) (n := 0) (Nat.le_of_ble_eq_true rfl) (Nat.le_of_ble_eq_true rfl) ?_
        exact W.iret (v := 0) hx hb hr (fun t ht hW => ⟨⟨(0, u72, u73, u74, u75, u76, u77, u78, u79, u80, f81, f82, f83, f84, f85), rfl, (hw87), CB.mk ht hP hD⟩, hS.F ht⟩) hS.2.2 dX11_catches_35
    · obtain rfl : u39 = 0 := i_is c44 (by decide)
      have zi0 : (0 : Int32).toInt = 0 := by decide
      refine W.eq (g2 := F0 m 14 ls [.int 0]) rfl ?_
      refine lv_if_ne (tgt := 21) hx hb dX11_catches_14 (by decide) (fun c94 => ?_) (fun c94 => ?_)
      · exact absurd c94 (by decide)
      refine lv_iconst (v := (-1)) hx hb dX11_catches_17 (by decide) ?_
      refine lv_goto (tgt := 35) hx hb dX11_catches_18 (by decide) ?_
      refine W.widen (k := 0) (n := 0) (Nat.le_of_ble_eq_true rfl) (Nat.le_of_ble_eq_true rfl) ?_
      have zim1 : ((-1) : Int32).toInt = -1 := by decide
      exact W.iret (v := (-1)) hx hb hr (fun t ht hW => ⟨⟨((-1), (I 34), (I 35), (I 36), (I 39), (J 37), (J 38), (I 29), (J 30), (J 31), (F 28), (G 40), (F 41), (G 42), (F 43)), rfl, (hk1), CB.mk ht hP hD⟩, hS.F ht⟩) hS.2.2 dX11_catches_35
  · obtain rfl : u1 = 0 := i_is c6 (by decide)
    have zi0 : (0 : Int32).toInt = 0 := by decide
    refine W.eq (g2 := F0 m 6 ls [.int 0]) rfl ?_
    refine lv_if_eq (tgt := 17) hx hb dX11_catches_6 (by decide) (fun c96 => ?_) (fun c96 => ?_)
    rotate_left
    · exact absurd c96 (by decide)
    refine lv_iconst (v := (-1)) hx hb dX11_catches_17 (by decide) ?_
    refine lv_goto (tgt := 35) hx hb dX11_catches_18 (by decide) ?_
    refine W.widen (k := 0) (n := 0) (Nat.le_of_ble_eq_true rfl) (Nat.le_of_ble_eq_true rfl) ?_
    have zim1 : ((-1) : Int32).toInt = -1 := by decide
    exact W.iret (v := (-1)) hx hb hr (fun t ht hW => ⟨⟨((-1), (I 34), (I 35), (I 36), (I 39), (J 37), (J 38), (I 29), (J 30), (J 31), (F 28), (G 40), (F 41), (G 42), (F 43)), rfl, (hk1), CB.mk ht hP hD⟩, hS.F ht⟩) hS.2.2 dX11_catches_35
