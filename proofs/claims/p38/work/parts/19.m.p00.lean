set_option maxHeartbeats 4000000 in
set_option maxRecDepth 100000 in
theorem m_sets_noise (l : Launch) (D : va_G) (Y : Nat → ClassId) (Z : Nat → Nat) (sz : Nat) (o : Nat) (a : Nat → Nat) (I : Nat → Int32) (J : Nat → Int64) (F : Nat → Nat → Int32) (G : Nat → Nat → Int64) (p2 : Int32) (p3 : Int32) (p4 : Int32) (hk_0 : (0 ≤ (I 16).toInt ∧ (I 16).toInt ≤ 400)) (hk_1 : (0 ≤ (I 3).toInt ∧ (I 3).toInt ≤ 400)) (hk_2 : ((I 16).toInt ≤ (I 3).toInt)) (hk_3 : (0 ≤ (I 17).toInt ∧ (I 17).toInt ≤ 4000)) (hk_4 : (0 ≤ (I 19).toInt ∧ (I 19).toInt ≤ 17)) (hk_5 : (-1 ≤ p2.toInt ∧ p2.toInt ≤ 100000)) (hk_6 : (-1 ≤ p3.toInt ∧ p3.toInt ≤ 100000)) (hk_7 : (0 ≤ p4.toInt ∧ p4.toInt ≤ 400)) (hk0 : TX (F 4) (F 9) (F 10) (F 11) (F 12) (F 13)) (hr_UN : UNT (F 4) (I 19).toNatClampNeg) : Met l yX11_sets (.code yX11_sets cX11_sets 5 (some .boolean) :: GW) ({ frames := 2, cells := 0, slots := 0, locals := 49 }) (va_Pc [.ref o, .ref (a 9), .int p2, .int p3, .int p4] (CP D Y Z (MW Y o a I J F G) sz)) (QG (S := Int32 × Int32 × Int32 × Int32 × (Nat → Int32)) (fun u => some (.int u.1)) (fun u => (0 ≤ u.2.1.toInt ∧ u.2.1.toInt ≤ 400) ∧ ((I 16).toInt ≤ u.2.1.toInt) ∧ (u.2.1.toInt ≤ (I 3).toInt) ∧ (0 ≤ u.2.2.1.toInt ∧ u.2.2.1.toInt ≤ 4000) ∧ (0 ≤ u.1.toInt ∧ u.1.toInt ≤ 1) ∧ (u.1.toInt = 0 → 1 ≤ u.2.2.1.toInt) ∧ (u.1.toInt = 1 → (p2.toInt ≤ (u.2.2.2.2 (I 19).toNatClampNeg).toInt ∧ (u.2.2.2.2 (I 19).toNatClampNeg).toInt ≤ p3.toInt ∧ u.2.2.2.1.toInt = (u.2.2.2.2 (I 19).toNatClampNeg).toInt)) ∧ TX (F 4) u.2.2.2.2 (F 10) (F 11) (F 12) (F 13)) (fun u => CB D (MW Y o a (upd (upd (upd I 16 u.2.1) 17 u.2.2.1) 18 u.2.2.2.1) J (vf_upd F 9 u.2.2.2.2) G) (va_A (MW Y o a I J F G) sz)) (va_A (MW Y o a I J F G) sz)) 0 0 (va_A (MW Y o a I J F G) sz) := by
  refine Met.ofW (cc := cX11_sets) (maxL := 5) (ret := (some .boolean)) (by decide) rfl ?_
  intro p e s m args below meth c s₁ B hml hv
  obtain ⟨rfl, hsz, hP, hKN, hD0⟩ := hv
  have hx := B.exec
  have hb := B.bytes
  have hr := B.returns
  have hts := atoms_spec (ws := .code yX11_sets cX11_sets 5 (some .boolean) :: GW) B.pre
  have hg : ∀ w ∈ GW, w.before _ s = true := fun w h => hts w (List.mem_cons_of_mem _ h)
  have hown : s.vm.findClass RX11 = some m.cls := findClass_of_methodNamed B.named
  have hlocks := B.notSynchronized
  subst hsz
  have hD := hD0.self (sz := s.heap.size)
  generalize hAe : va_A (MW Y o a I J F G) s.heap.size = A at hD ⊢
  have hA : ∀ q : Nat, s.heap.size ≤ q → A q := fun q h => by rw [← hAe]; exact Or.inr h
  clear hAe hD0 hts B
  have hl := lv_entry ([.ref o, .ref (a 9), .int p2, .int p3, .int p4]) (n := 5) (Nat.le_of_ble_eq_true rfl)
  rw [lg_entry_eq]
  generalize (lg_sl ([.ref o, .ref (a 9), .int p2, .int p3, .int p4]) ++ List.replicate (5 - (lg_sl ([.ref o, .ref (a 9), .int p2, .int p3, .int p4])).length) Slot.unset).toArray = ls at hl ⊢
  have hl : lv_has ls 5 [(0, .ref o), (1, .ref (a 9)), (2, .int p2), (3, .int p3), (4, .int p4)] := hl
  refine w_start (A0 := A) hP (fun H locs hP hS => ?_)
  refine lv_aload_n hx hb dX11_sets_0 rfl (lv_at hl 1 rfl) ?_
  refine lv_aload_n hx hb dX11_sets_1 rfl (lv_at hl 0 rfl) ?_
  refine va_get (D := D) (ci := 11) (v := .int (I 19)) (C := RX11) (T := TX11) (N := 49) hx hb hg inGX11 hown hKN.1 hP 0 rfl rfl 19 (by decide) (hg _ kw_1227) (fun _ h9 => h9) rfl dX11_sets_2 ?_
  refine va_iald hx hb hKN.1 hP 9 0 rfl rfl (vp_in_iff.mpr ⟨by omega, by omega⟩) dX11_sets_5 ?_
  refine lv_topi (fun v1 ev1 => ?_)
  have ev1 : v1 = (F 9) (I 19).toNatClampNeg := ev1
  have qv1 := congrArg Int32.toInt ev1
  have j2 := rgI v1
  refine lv_if_lt (tgt := 17) hx hb dX11_sets_6 (by decide) (fun c3 => ?_) (fun c3 => ?_)
  · skip
    have c3 := i_lt (Eq.refl v1.toInt) (show (0 : Int32).toInt = 0 by decide) c3
    refine lv_aload_n hx hb dX11_sets_17 rfl (lv_at hl 0 rfl) ?_
    refine cga (rn_V (As := []) (rest := []) (b := o) (m_passWord l D Y Z H.size o a I J F G   (show (0 ≤ (I 16).toInt ∧ (I 16).toInt ≤ 400) by omega) (show (0 ≤ (I 3).toInt ∧ (I 3).toInt ≤ 400) by omega) (show ((I 16).toInt ≤ (I 3).toInt) by omega)) ⟨hx, hb, hml, hown, hg⟩ lk_X11_194 ⟨CP.blind, va_recv hKN.1 hP (ci := 11) (q0 := 0) rfl rfl, CP.at hP hKN hD⟩ ⟨⟨rfl, rfl⟩, ⟨Nat.le_of_ble_eq_true rfl, Nat.le_of_ble_eq_true rfl⟩, ⟨Nat.le_of_ble_eq_true rfl, Nat.le_of_ble_eq_true rfl⟩⟩ hl.1 rfl (Nat.le_of_ble_eq_true rfl) dX11_sets_18) hP hD hS hA (fun u4 H locs w5 hP hD hS => ?_)
    obtain ⟨hw7, hw8, hw9, hw10⟩ : (0 ≤ u4.toInt ∧ u4.toInt ≤ 400) ∧ ((I 16).toInt ≤ u4.toInt) ∧ (u4.toInt ≤ (I 3).toInt) ∧ ((97 ≤ ((F 2) (I 16).toNatClampNeg).toInt ∧ ((F 2) (I 16).toNatClampNeg).toInt ≤ 122 ∧ (I 16).toInt < (I 3).toInt) → (I 16).toInt + 1 ≤ u4.toInt) := w5
    refine W.eq (g2 := F0 m 21 ls []) rfl ?_
    have hP : va_P D vwCl (MW Y o a (upd I 16 u4) J F G) H := hP
    have hD : va_D A (MW Y o a (upd I 16 u4) J F G) := hD
    refine lv_aload_n hx hb dX11_sets_21 rfl (lv_at hl 0 rfl) ?_
    refine lv_iload_n hx hb dX11_sets_22 rfl (lv_at hl 2 rfl) ?_
    refine lv_iload_n hx hb dX11_sets_23 rfl (lv_at hl 3 rfl) ?_
    refine cga (rn_V (As := [.int p2, .int p3]) (rest := []) (b := o) (m_number l D Y Z H.size o a (upd I 16 u4) J F G  p2 p3 (show (0 ≤ u4.toInt ∧ u4.toInt ≤ 400) by omega) (show (0 ≤ (I 3).toInt ∧ (I 3).toInt ≤ 400) by omega) (show (u4.toInt ≤ (I 3).toInt) by omega) (show (0 ≤ (I 17).toInt ∧ (I 17).toInt ≤ 4000) by omega) (show (-1 ≤ p2.toInt ∧ p2.toInt ≤ 100000) by omega) (show (-1 ≤ p3.toInt ∧ p3.toInt ≤ 100000) by omega)) ⟨hx, hb, hml, hown, hg⟩ lk_X11_255 ⟨CP.blind, va_recv hKN.1 hP (ci := 11) (q0 := 0) rfl rfl, CP.at hP hKN hD⟩ ⟨⟨rfl, rfl⟩, ⟨Nat.le_of_ble_eq_true rfl, Nat.le_of_ble_eq_true rfl⟩, ⟨Nat.le_of_ble_eq_true rfl, Nat.le_of_ble_eq_true rfl⟩⟩ hl.1 rfl (Nat.le_of_ble_eq_true rfl) dX11_sets_24) hP hD hS hA (fun u11 H locs w12 hP hD hS => ?_)
    obtain ⟨u13, u14, u15, u16⟩ := u11
    obtain ⟨hw17, hw18, hw19, hw20, hw21, hw22, hw23⟩ : (0 ≤ u14.toInt ∧ u14.toInt ≤ 400) ∧ (u4.toInt ≤ u14.toInt) ∧ (u14.toInt ≤ (I 3).toInt) ∧ (0 ≤ u15.toInt ∧ u15.toInt ≤ 4000) ∧ (u13.toInt = 1 → (p2.toInt ≤ u16.toInt ∧ u16.toInt ≤ p3.toInt ∧ u4.toInt + 1 ≤ u14.toInt)) ∧ (u13.toInt = 0 → 1 ≤ u15.toInt) ∧ (0 ≤ u13.toInt ∧ u13.toInt ≤ 1) := w12
    refine W.eq (g2 := F0 m 27 ls [.int u13]) rfl ?_
    have hP : va_P D vwCl (MW Y o a (upd (upd (upd I 16 u14) 17 u15) 18 u16) J F G) H := hP
    have hD : va_D A (MW Y o a (upd (upd (upd I 16 u14) 17 u15) 18 u16) J F G) := hD
    rcases (show u13.toInt = 1 ∨ u13.toInt = 0 by omega) with c24 | c24
    · obtain rfl : u13 = 1 := i_is c24 (by decide)
      have zi1 : (1 : Int32).toInt = 1 := by decide
      replace hw21 := hw21 (by decide)
      clear hw22
      refine W.eq (g2 := F0 m 27 ls [.int 1]) rfl ?_
      refine lv_if_ne (tgt := 32) hx hb dX11_sets_27 (by decide) (fun c25 => ?_) (fun c25 => ?_)
      rotate_left
      · exact absurd c25 (by decide)
      refine lv_aload_n hx hb dX11_sets_32 rfl (lv_at hl 1 rfl) ?_
      refine lv_aload_n hx hb dX11_sets_33 rfl (lv_at hl 0 rfl) ?_
      refine va_get (D := D) (ci := 11) (v := .int (I 19)) (C := RX11) (T := TX11) (N := 49) hx hb hg inGX11 hown hKN.1 hP 0 rfl rfl 19 (by decide) (hg _ kw_1227) (fun _ h9 => h9) rfl dX11_sets_34 ?_
      refine lv_aload_n hx hb dX11_sets_37 rfl (lv_at hl 0 rfl) ?_
      refine va_get (D := D) (ci := 11) (v := .int u16) (C := RX11) (T := TX11) (N := 49) hx hb hg inGX11 hown hKN.1 hP 0 rfl rfl 18 (by decide) (hg _ kw_1226) (fun _ h9 => h9) rfl dX11_sets_38 ?_
      refine va_iast hx hb hKN.1 hP hD hS 9 0 rfl rfl (vp_in_iff.mpr ⟨by omega, by omega⟩) dX11_sets_41 (fun H locs hP hD hS => ?_)
      obtain ⟨f26, ef26, hP, hD⟩ : ∃ f26 : Nat → Int32, f26 = upd (F 9) ((I 19).toNatClampNeg) u16 ∧ va_P D vwCl (MW Y o a (upd (upd (upd I 16 u14) 17 u15) 18 u16) J (vf_upd F 9 f26) G) H ∧ va_D A (MW Y o a (upd (upd (upd I 16 u14) 17 u15) 18 u16) J (vf_upd F 9 f26) G) := ⟨_, rfl, hP, hD⟩
      have t27 : TX (F 4) f26 (F 10) (F 11) (F 12) (F 13) := TX_fr (t := (I 19).toNatClampNeg) hk0 hr_UN (fun k hk => by rw [ef26]; exact up_ne hk) (fun _ _ => rfl) (fun _ _ => rfl) (fun _ _ => rfl) (fun _ _ => rfl)
      have t28 : (f26 (I 19).toNatClampNeg).toInt = u16.toInt := by rw [ef26, up_eq rfl]
      refine lv_iconst (v := 1) hx hb dX11_sets_42 (by decide) ?_
      refine W.widen (k := 0) (n := 0) (Nat.le_of_ble_eq_true rfl) (Nat.le_of_ble_eq_true rfl) ?_
      exact W.zret (v := 1) hx hb hr (by decide) (fun t ht hW => ⟨⟨(1, u14, u15, u16, f26), rfl, ⟨(show (0 ≤ u14.toInt ∧ u14.toInt ≤ 400) by omega), (show ((I 16).toInt ≤ u14.toInt) by omega), (show (u14.toInt ≤ (I 3).toInt) by omega), (show (0 ≤ u15.toInt ∧ u15.toInt ≤ 4000) by omega), (show (0 ≤ (1 : Int32).toInt ∧ (1 : Int32).toInt ≤ 1) by omega), (show ((1 : Int32).toInt = 0 → 1 ≤ u15.toInt) by omega), (show ((1 : Int32).toInt = 1 → (p2.toInt ≤ (f26 (I 19).toNatClampNeg).toInt ∧ (f26 (I 19).toNatClampNeg).toInt ≤ p3.toInt ∧ u16.toInt = (f26 (I 19).toNatClampNeg).toInt)) by omega), t27⟩, CB.mk ht hP hD⟩, hS.F ht⟩) hS.2.2 dX11_sets_43
    · obtain rfl : u13 = 0 := i_is c24 (by decide)
      have zi0 : (0 : Int32).toInt = 0 := by decide
      clear hw21
      replace hw22 := hw22 (by decide)
      refine W.eq (g2 := F0 m 27 ls [.int 0]) rfl ?_
      refine lv_if_ne (tgt := 32) hx hb dX11_sets_27 (by decide) (fun c29 => ?_) (fun c29 => ?_)
      · exact absurd c29 (by decide)
      refine lv_iconst (v := 0) hx hb dX11_sets_30 (by decide) ?_
      refine W.widen (k := 0) (n := 0) (Nat.le_of_ble_eq_true rfl) (Nat.le_of_ble_eq_true rfl) ?_
      exact W.zret (v := 0) hx hb hr (by decide) (fun t ht hW => ⟨⟨(0, u14, u15, u16, (F 9)), rfl, ⟨(show (0 ≤ u14.toInt ∧ u14.toInt ≤ 400) by omega), (show ((I 16).toInt ≤ u14.toInt) by omega), (show (u14.toInt ≤ (I 3).toInt) by omega), (show (0 ≤ u15.toInt ∧ u15.toInt ≤ 4000) by omega), (show (0 ≤ (0 : Int32).toInt ∧ (0 : Int32).toInt ≤ 1) by omega), (show ((0 : Int32).toInt = 0 → 1 ≤ u15.toInt) by omega), (show ((0 : Int32).toInt = 1 → (p2.toInt ≤ ((F 9) (I 19).toNatClampNeg).toInt ∧ ((F 9) (I 19).toNatClampNeg).toInt ≤ p3.toInt ∧ u16.toInt = ((F 9) (I 19).toNatClampNeg).toInt)) by omega), hk0⟩, CB.mk ht hP hD⟩, hS.F ht⟩) hS.2.2 dX11_sets_31
  · skip
    have c3 := i_nlt (Eq.refl v1.toInt) (show (0 : Int32).toInt = 0 by decide) c3
    refine lv_aload_n hx hb dX11_sets_9 rfl (lv_at hl 0 rfl) ?_
    refine lv_iconst (v := 4) hx hb dX11_sets_10 (by decide) ?_
    refine lv_iload hx hb dX11_sets_11 (lv_at hl 4 rfl) ?_
    have zi4 : (4 : Int32).toInt = 4 := by decide
    refine cga (rn_V (As := [.int 4, .int p4]) (rest := []) (b := o) (m_fails l D Y Z H.size o a I J F G  4 p4 (show (0 ≤ (4 : Int32).toInt ∧ (4 : Int32).toInt ≤ 4) by omega) (show (0 ≤ p4.toInt ∧ p4.toInt ≤ 400) by omega) (show (0 ≤ (I 17).toInt ∧ (I 17).toInt ≤ 4000) by omega)) ⟨hx, hb, hml, hown, hg⟩ lk_X11_200 ⟨CP.blind, va_recv hKN.1 hP (ci := 11) (q0 := 0) rfl rfl, CP.at hP hKN hD⟩ ⟨⟨rfl, rfl⟩, ⟨Nat.le_of_ble_eq_true rfl, Nat.le_of_ble_eq_true rfl⟩, ⟨Nat.le_of_ble_eq_true rfl, Nat.le_of_ble_eq_true rfl⟩⟩ hl.1 rfl (Nat.le_of_ble_eq_true rfl) dX11_sets_13) hP hD hS hA (fun u30 H locs w31 hP hD hS => ?_)
    obtain ⟨u32, u33⟩ := u30
    obtain ⟨hw34, hw35⟩ : (u32.toInt = 0) ∧ (1 ≤ u33.toInt ∧ u33.toInt ≤ 4000) := w31
    refine W.eq (g2 := F0 m 16 ls [.int u32]) rfl ?_
    have hP : va_P D vwCl (MW Y o a (upd I 17 u33) J F G) H := hP
    have hD : va_D A (MW Y o a (upd I 17 u33) J F G) := hD
    obtain rfl : u32 = 0 := i_is (X := 0) (by omega) (by decide)
    refine W.eq (g2 := F0 m 16 ls [.int 0]) rfl ?_
    refine W.widen (k := 0) (n := 0) (Nat.le_of_ble_eq_true rfl) (Nat.le_of_ble_eq_true rfl) ?_
    have zi0 : (0 : Int32).toInt = 0 := by decide
    exact W.zret (v := 0) hx hb hr (by decide) (fun t ht hW => ⟨⟨(0, (I 16), u33, (I 18), (F 9)), rfl, ⟨(show (0 ≤ (I 16).toInt ∧ (I 16).toInt ≤ 400) by omega), (show ((I 16).toInt ≤ (I 16).toInt) by omega), (show ((I 16).toInt ≤ (I 3).toInt) by omega), (show (0 ≤ u33.toInt ∧ u33.toInt ≤ 4000) by omega), (show (0 ≤ (0 : Int32).toInt ∧ (0 : Int32).toInt ≤ 1) by omega), (show ((0 : Int32).toInt = 0 → 1 ≤ u33.toInt) by omega), (show ((0 : Int32).toInt = 1 → (p2.toInt ≤ ((F 9) (I 19).toNatClampNeg).toInt ∧ ((F 9) (I 19).toNatClampNeg).toInt ≤ p3.toInt ∧ (I 18).toInt = ((F 9) (I 19).toNatClampNeg).toInt)) by omega), hk0⟩, CB.mk ht hP hD⟩, hS.F ht⟩) hS.2.2 dX11_sets_16
set_option maxHeartbeats 4000000 in
set_option maxRecDepth 100000 in
theorem m_sets_beatFrom (l : Launch) (D : va_G) (Y : Nat → ClassId) (Z : Nat → Nat) (sz : Nat) (o : Nat) (a : Nat → Nat) (I : Nat → Int32) (J : Nat → Int64) (F : Nat → Nat → Int32) (G : Nat → Nat → Int64) (p2 : Int32) (p3 : Int32) (p4 : Int32) (hk_0 : (0 ≤ (I 16).toInt ∧ (I 16).toInt ≤ 400)) (hk_1 : (0 ≤ (I 3).toInt ∧ (I 3).toInt ≤ 400)) (hk_2 : ((I 16).toInt ≤ (I 3).toInt)) (hk_3 : (0 ≤ (I 17).toInt ∧ (I 17).toInt ≤ 4000)) (hk_4 : (0 ≤ (I 19).toInt ∧ (I 19).toInt ≤ 17)) (hk_5 : (-1 ≤ p2.toInt ∧ p2.toInt ≤ 100000)) (hk_6 : (-1 ≤ p3.toInt ∧ p3.toInt ≤ 100000)) (hk_7 : (0 ≤ p4.toInt ∧ p4.toInt ≤ 400)) (hk0 : TX (F 4) (F 9) (F 10) (F 11) (F 12) (F 13)) (hr_UN : UNT (F 4) (I 19).toNatClampNeg) : Met l yX11_sets (.code yX11_sets cX11_sets 5 (some .boolean) :: GW) ({ frames := 2, cells := 0, slots := 0, locals := 49 }) (va_Pc [.ref o, .ref (a 10), .int p2, .int p3, .int p4] (CP D Y Z (MW Y o a I J F G) sz)) (QG (S := Int32 × Int32 × Int32 × Int32 × (Nat → Int32)) (fun u => some (.int u.1)) (fun u => (0 ≤ u.2.1.toInt ∧ u.2.1.toInt ≤ 400) ∧ ((I 16).toInt ≤ u.2.1.toInt) ∧ (u.2.1.toInt ≤ (I 3).toInt) ∧ (0 ≤ u.2.2.1.toInt ∧ u.2.2.1.toInt ≤ 4000) ∧ (0 ≤ u.1.toInt ∧ u.1.toInt ≤ 1) ∧ (u.1.toInt = 0 → 1 ≤ u.2.2.1.toInt) ∧ (u.1.toInt = 1 → (p2.toInt ≤ (u.2.2.2.2 (I 19).toNatClampNeg).toInt ∧ (u.2.2.2.2 (I 19).toNatClampNeg).toInt ≤ p3.toInt ∧ u.2.2.2.1.toInt = (u.2.2.2.2 (I 19).toNatClampNeg).toInt)) ∧ TX (F 4) (F 9) u.2.2.2.2 (F 11) (F 12) (F 13)) (fun u => CB D (MW Y o a (upd (upd (upd I 16 u.2.1) 17 u.2.2.1) 18 u.2.2.2.1) J (vf_upd F 10 u.2.2.2.2) G) (va_A (MW Y o a I J F G) sz)) (va_A (MW Y o a I J F G) sz)) 0 0 (va_A (MW Y o a I J F G) sz) := by
  refine Met.ofW (cc := cX11_sets) (maxL := 5) (ret := (some .boolean)) (by decide) rfl ?_
  intro p e s m args below meth c s₁ B hml hv
  obtain ⟨rfl, hsz, hP, hKN, hD0⟩ := hv
  have hx := B.exec
  have hb := B.bytes
  have hr := B.returns
  have hts := atoms_spec (ws := .code yX11_sets cX11_sets 5 (some .boolean) :: GW) B.pre
  have hg : ∀ w ∈ GW, w.before _ s = true := fun w h => hts w (List.mem_cons_of_mem _ h)
  have hown : s.vm.findClass RX11 = some m.cls := findClass_of_methodNamed B.named
  have hlocks := B.notSynchronized
  subst hsz
  have hD := hD0.self (sz := s.heap.size)
  generalize hAe : va_A (MW Y o a I J F G) s.heap.size = A at hD ⊢
  have hA : ∀ q : Nat, s.heap.size ≤ q → A q := fun q h => by rw [← hAe]; exact Or.inr h
  clear hAe hD0 hts B
  have hl := lv_entry ([.ref o, .ref (a 10), .int p2, .int p3, .int p4]) (n := 5) (Nat.le_of_ble_eq_true rfl)
  rw [lg_entry_eq]
  generalize (lg_sl ([.ref o, .ref (a 10), .int p2, .int p3, .int p4]) ++ List.replicate (5 - (lg_sl ([.ref o, .ref (a 10), .int p2, .int p3, .int p4])).length) Slot.unset).toArray = ls at hl ⊢
  have hl : lv_has ls 5 [(0, .ref o), (1, .ref (a 10)), (2, .int p2), (3, .int p3), (4, .int p4)] := hl
  refine w_start (A0 := A) hP (fun H locs hP hS => ?_)
  refine lv_aload_n hx hb dX11_sets_0 rfl (lv_at hl 1 rfl) ?_
  refine lv_aload_n hx hb dX11_sets_1 rfl (lv_at hl 0 rfl) ?_
  refine va_get (D := D) (ci := 11) (v := .int (I 19)) (C := RX11) (T := TX11) (N := 49) hx hb hg inGX11 hown hKN.1 hP 0 rfl rfl 19 (by decide) (hg _ kw_1227) (fun _ h9 => h9) rfl dX11_sets_2 ?_
  refine va_iald hx hb hKN.1 hP 10 0 rfl rfl (vp_in_iff.mpr ⟨by omega, by omega⟩) dX11_sets_5 ?_
  refine lv_topi (fun v1 ev1 => ?_)
  have ev1 : v1 = (F 10) (I 19).toNatClampNeg := ev1
  have qv1 := congrArg Int32.toInt ev1
  have j2 := rgI v1
  refine lv_if_lt (tgt := 17) hx hb dX11_sets_6 (by decide) (fun c3 => ?_) (fun c3 => ?_)
  · skip
    have c3 := i_lt (Eq.refl v1.toInt) (show (0 : Int32).toInt = 0 by decide) c3
    refine lv_aload_n hx hb dX11_sets_17 rfl (lv_at hl 0 rfl) ?_
    refine cga (rn_V (As := []) (rest := []) (b := o) (m_passWord l D Y Z H.size o a I J F G   (show (0 ≤ (I 16).toInt ∧ (I 16).toInt ≤ 400) by omega) (show (0 ≤ (I 3).toInt ∧ (I 3).toInt ≤ 400) by omega) (show ((I 16).toInt ≤ (I 3).toInt) by omega)) ⟨hx, hb, hml, hown, hg⟩ lk_X11_194 ⟨CP.blind, va_recv hKN.1 hP (ci := 11) (q0 := 0) rfl rfl, CP.at hP hKN hD⟩ ⟨⟨rfl, rfl⟩, ⟨Nat.le_of_ble_eq_true rfl, Nat.le_of_ble_eq_true rfl⟩, ⟨Nat.le_of_ble_eq_true rfl, Nat.le_of_ble_eq_true rfl⟩⟩ hl.1 rfl (Nat.le_of_ble_eq_true rfl) dX11_sets_18) hP hD hS hA (fun u4 H locs w5 hP hD hS => ?_)
    obtain ⟨hw7, hw8, hw9, hw10⟩ : (0 ≤ u4.toInt ∧ u4.toInt ≤ 400) ∧ ((I 16).toInt ≤ u4.toInt) ∧ (u4.toInt ≤ (I 3).toInt) ∧ ((97 ≤ ((F 2) (I 16).toNatClampNeg).toInt ∧ ((F 2) (I 16).toNatClampNeg).toInt ≤ 122 ∧ (I 16).toInt < (I 3).toInt) → (I 16).toInt + 1 ≤ u4.toInt) := w5
    refine W.eq (g2 := F0 m 21 ls []) rfl ?_
    have hP : va_P D vwCl (MW Y o a (upd I 16 u4) J F G) H := hP
    have hD : va_D A (MW Y o a (upd I 16 u4) J F G) := hD
    refine lv_aload_n hx hb dX11_sets_21 rfl (lv_at hl 0 rfl) ?_
    refine lv_iload_n hx hb dX11_sets_22 rfl (lv_at hl 2 rfl) ?_
    refine lv_iload_n hx hb dX11_sets_23 rfl (lv_at hl 3 rfl) ?_
    refine cga (rn_V (As := [.int p2, .int p3]) (rest := []) (b := o) (m_number l D Y Z H.size o a (upd I 16 u4) J F G  p2 p3 (show (0 ≤ u4.toInt ∧ u4.toInt ≤ 400) by omega) (show (0 ≤ (I 3).toInt ∧ (I 3).toInt ≤ 400) by omega) (show (u4.toInt ≤ (I 3).toInt) by omega) (show (0 ≤ (I 17).toInt ∧ (I 17).toInt ≤ 4000) by omega) (show (-1 ≤ p2.toInt ∧ p2.toInt ≤ 100000) by omega) (show (-1 ≤ p3.toInt ∧ p3.toInt ≤ 100000) by omega)) ⟨hx, hb, hml, hown, hg⟩ lk_X11_255 ⟨CP.blind, va_recv hKN.1 hP (ci := 11) (q0 := 0) rfl rfl, CP.at hP hKN hD⟩ ⟨⟨rfl, rfl⟩, ⟨Nat.le_of_ble_eq_true rfl, Nat.le_of_ble_eq_true rfl⟩, ⟨Nat.le_of_ble_eq_true rfl, Nat.le_of_ble_eq_true rfl⟩⟩ hl.1 rfl (Nat.le_of_ble_eq_true rfl) dX11_sets_24) hP hD hS hA (fun u11 H locs w12 hP hD hS => ?_)
    obtain ⟨u13, u14, u15, u16⟩ := u11
    obtain ⟨hw17, hw18, hw19, hw20, hw21, hw22, hw23⟩ : (0 ≤ u14.toInt ∧ u14.toInt ≤ 400) ∧ (u4.toInt ≤ u14.toInt) ∧ (u14.toInt ≤ (I 3).toInt) ∧ (0 ≤ u15.toInt ∧ u15.toInt ≤ 4000) ∧ (u13.toInt = 1 → (p2.toInt ≤ u16.toInt ∧ u16.toInt ≤ p3.toInt ∧ u4.toInt + 1 ≤ u14.toInt)) ∧ (u13.toInt = 0 → 1 ≤ u15.toInt) ∧ (0 ≤ u13.toInt ∧ u13.toInt ≤ 1) := w12
    refine W.eq (g2 := F0 m 27 ls [.int u13]) rfl ?_
    have hP : va_P D vwCl (MW Y o a (upd (upd (upd I 16 u14) 17 u15) 18 u16) J F G) H := hP
    have hD : va_D A (MW Y o a (upd (upd (upd I 16 u14) 17 u15) 18 u16) J F G) := hD
    rcases (show u13.toInt = 1 ∨ u13.toInt = 0 by omega) with c24 | c24
    · obtain rfl : u13 = 1 := i_is c24 (by decide)
      have zi1 : (1 : Int32).toInt = 1 := by decide
      replace hw21 := hw21 (by decide)
      clear hw22
      refine W.eq (g2 := F0 m 27 ls [.int 1]) rfl ?_
      refine lv_if_ne (tgt := 32) hx hb dX11_sets_27 (by decide) (fun c25 => ?_) (fun c25 => ?_)
      rotate_left
      · exact absurd c25 (by decide)
      refine lv_aload_n hx hb dX11_sets_32 rfl (lv_at hl 1 rfl) ?_
      refine lv_aload_n hx hb dX11_sets_33 rfl (lv_at hl 0 rfl) ?_
      refine va_get (D := D) (ci := 11) (v := .int (I 19)) (C := RX11) (T := TX11) (N := 49) hx hb hg inGX11 hown hKN.1 hP 0 rfl rfl 19 (by decide) (hg _ kw_1227) (fun _ h9 => h9) rfl dX11_sets_34 ?_
      refine lv_aload_n hx hb dX11_sets_37 rfl (lv_at hl 0 rfl) ?_
      refine va_get (D := D) (ci := 11) (v := .int u16) (C := RX11) (T := TX11) (N := 49) hx hb hg inGX11 hown hKN.1 hP 0 rfl rfl 18 (by decide) (hg _ kw_1226) (fun _ h9 => h9) rfl dX11_sets_38 ?_
      refine va_iast hx hb hKN.1 hP hD hS 10 0 rfl rfl (vp_in_iff.mpr ⟨by omega, by omega⟩) dX11_sets_41 (fun H locs hP hD hS => ?_)
      obtain ⟨f26, ef26, hP, hD⟩ : ∃ f26 : Nat → Int32, f26 = upd (F 10) ((I 19).toNatClampNeg) u16 ∧ va_P D vwCl (MW Y o a (upd (upd (upd I 16 u14) 17 u15) 18 u16) J (vf_upd F 10 f26) G) H ∧ va_D A (MW Y o a (upd (upd (upd I 16 u14) 17 u15) 18 u16) J (vf_upd F 10 f26) G) := ⟨_, rfl, hP, hD⟩
      have t27 : TX (F 4) (F 9) f26 (F 11) (F 12) (F 13) := TX_fr (t := (I 19).toNatClampNeg) hk0 hr_UN (fun _ _ => rfl) (fun k hk => by rw [ef26]; exact up_ne hk) (fun _ _ => rfl) (fun _ _ => rfl) (fun _ _ => rfl)
      have t28 : (f26 (I 19).toNatClampNeg).toInt = u16.toInt := by rw [ef26, up_eq rfl]
      refine lv_iconst (v := 1) hx hb dX11_sets_42 (by decide) ?_
      refine W.widen (k := 0) (n := 0) (Nat.le_of_ble_eq_true rfl) (Nat.le_of_ble_eq_true rfl) ?_
      exact W.zret (v := 1) hx hb hr (by decide) (fun t ht hW => ⟨⟨(1, u14, u15, u16, f26), rfl, ⟨(show (0 ≤ u14.toInt ∧ u14.toInt ≤ 400) by omega), (show ((I 16).toInt ≤ u14.toInt) by omega), (show (u14.toInt ≤ (I 3).toInt) by omega), (show (0 ≤ u15.toInt ∧ u15.toInt ≤ 4000) by omega), (show (0 ≤ (1 : Int32).toInt ∧ (1 : Int32).toInt ≤ 1) by omega), (show ((1 : Int32).toInt = 0 → 1 ≤ u15.toInt) by omega), (show ((1 : Int32).toInt = 1 → (p2.toInt ≤ (f26 (I 19).toNatClampNeg).toInt ∧ (f26 (I 19).toNatClampNeg).toInt ≤ p3.toInt ∧ u16.toInt = (f26 (I 19).toNatClampNeg).toInt)) by omega), t27⟩, CB.mk ht hP hD⟩, hS.F ht⟩) hS.2.2 dX11_sets_43
    · obtain rfl : u13 = 0 := i_is c24 (by decide)
      have zi0 : (0 : Int32).toInt = 0 := by decide
      clear hw21
      replace hw22 := hw22 (by decide)
      refine W.eq (g2 := F0 m 27 ls [.int 0]) rfl ?_
      refine lv_if_ne (tgt := 32) hx hb dX11_sets_27 (by decide) (fun c29 => ?_) (fun c29 => ?_)
      · exact absurd c29 (by decide)
      refine lv_iconst (v := 0) hx hb dX11_sets_30 (by decide) ?_
      refine W.widen (k := 0) (n := 0) (Nat.le_of_ble_eq_true rfl) (Nat.le_of_ble_eq_true rfl) ?_
      exact W.zret (v := 0) hx hb hr (by decide) (fun t ht hW => ⟨⟨(0, u14, u15, u16, (F 10)), rfl, ⟨(show (0 ≤ u14.toInt ∧ u14.toInt ≤ 400) by omega), (show ((I 16).toInt ≤ u14.toInt) by omega), (show (u14.toInt ≤ (I 3).toInt) by omega), (show (0 ≤ u15.toInt ∧ u15.toInt ≤ 4000) by omega), (show (0 ≤ (0 : Int32).toInt ∧ (0 : Int32).toInt ≤ 1) by omega), (show ((0 : Int32).toInt = 0 → 1 ≤ u15.toInt) by omega), (show ((0 : Int32).toInt = 1 → (p2.toInt ≤ ((F 10) (I 19).toNatClampNeg).toInt ∧ ((F 10) (I 19).toNatClampNeg).toInt ≤ p3.toInt ∧ u16.toInt = ((F 10) (I 19).toNatClampNeg).toInt)) by omega), hk0⟩, CB.mk ht hP hD⟩, hS.F ht⟩) hS.2.2 dX11_sets_31
  · skip
    have c3 := i_nlt (Eq.refl v1.toInt) (show (0 : Int32).toInt = 0 by decide) c3
    refine lv_aload_n hx hb dX11_sets_9 rfl (lv_at hl 0 rfl) ?_
    refine lv_iconst (v := 4) hx hb dX11_sets_10 (by decide) ?_
    refine lv_iload hx hb dX11_sets_11 (lv_at hl 4 rfl) ?_
    have zi4 : (4 : Int32).toInt = 4 := by decide
    refine cga (rn_V (As := [.int 4, .int p4]) (rest := []) (b := o) (m_fails l D Y Z H.size o a I J F G  4 p4 (show (0 ≤ (4 : Int32).toInt ∧ (4 : Int32).toInt ≤ 4) by omega) (show (0 ≤ p4.toInt ∧ p4.toInt ≤ 400) by omega) (show (0 ≤ (I 17).toInt ∧ (I 17).toInt ≤ 4000) by omega)) ⟨hx, hb, hml, hown, hg⟩ lk_X11_200 ⟨CP.blind, va_recv hKN.1 hP (ci := 11) (q0 := 0) rfl rfl, CP.at hP hKN hD⟩ ⟨⟨rfl, rfl⟩, ⟨Nat.le_of_ble_eq_true rfl, Nat.le_of_ble_eq_true rfl⟩, ⟨Nat.le_of_ble_eq_true rfl, Nat.le_of_ble_eq_true rfl⟩⟩ hl.1 rfl (Nat.le_of_ble_eq_true rfl) dX11_sets_13) hP hD hS hA (fun u30 H locs w31 hP hD hS => ?_)
    obtain ⟨u32, u33⟩ := u30
    obtain ⟨hw34, hw35⟩ : (u32.toInt = 0) ∧ (1 ≤ u33.toInt ∧ u33.toInt ≤ 4000) := w31
    refine W.eq (g2 := F0 m 16 ls [.int u32]) rfl ?_
    have hP : va_P D vwCl (MW Y o a (upd I 17 u33) J F G) H := hP
    have hD : va_D A (MW Y o a (upd I 17 u33) J F G) := hD
    obtain rfl : u32 = 0 := i_is (X := 0) (by omega) (by decide)
    refine W.eq (g2 := F0 m 16 ls [.int 0]) rfl ?_
    refine W.widen (k := 0) (n := 0) (Nat.le_of_ble_eq_true rfl) (Nat.le_of_ble_eq_true rfl) ?_
    have zi0 : (0 : Int32).toInt = 0 := by decide
    exact W.zret (v := 0) hx hb hr (by decide) (fun t ht hW => ⟨⟨(0, (I 16), u33, (I 18), (F 10)), rfl, ⟨(show (0 ≤ (I 16).toInt ∧ (I 16).toInt ≤ 400) by omega), (show ((I 16).toInt ≤ (I 16).toInt) by omega), (show ((I 16).toInt ≤ (I 3).toInt) by omega), (show (0 ≤ u33.toInt ∧ u33.toInt ≤ 4000) by omega), (show (0 ≤ (0 : Int32).toInt ∧ (0 : Int32).toInt ≤ 1) by omega), (show ((0 : Int32).toInt = 0 → 1 ≤ u33.toInt) by omega), (show ((0 : Int32).toInt = 1 → (p2.toInt ≤ ((F 10) (I 19).toNatClampNeg).toInt ∧ ((F 10) (I 19).toNatClampNeg).toInt ≤ p3.toInt ∧ (I 18).toInt = ((F 10) (I 19).toNatClampNeg).toInt)) by omega), hk0⟩, CB.mk ht hP hD⟩, hS.F ht⟩) hS.2.2 dX11_sets_16
set_option maxHeartbeats 4000000 in
set_option maxRecDepth 100000 in
theorem m_sets_longFrom (l : Launch) (D : va_G) (Y : Nat → ClassId) (Z : Nat → Nat) (sz : Nat) (o : Nat) (a : Nat → Nat) (I : Nat → Int32) (J : Nat → Int64) (F : Nat → Nat → Int32) (G : Nat → Nat → Int64) (p2 : Int32) (p3 : Int32) (p4 : Int32) (hk_0 : (0 ≤ (I 16).toInt ∧ (I 16).toInt ≤ 400)) (hk_1 : (0 ≤ (I 3).toInt ∧ (I 3).toInt ≤ 400)) (hk_2 : ((I 16).toInt ≤ (I 3).toInt)) (hk_3 : (0 ≤ (I 17).toInt ∧ (I 17).toInt ≤ 4000)) (hk_4 : (0 ≤ (I 19).toInt ∧ (I 19).toInt ≤ 17)) (hk_5 : (-1 ≤ p2.toInt ∧ p2.toInt ≤ 100000)) (hk_6 : (-1 ≤ p3.toInt ∧ p3.toInt ≤ 100000)) (hk_7 : (0 ≤ p4.toInt ∧ p4.toInt ≤ 400)) (hk0 : TX (F 4) (F 9) (F 10) (F 11) (F 12) (F 13)) (hr_UN : UNT (F 4) (I 19).toNatClampNeg) : Met l yX11_sets (.code yX11_sets cX11_sets 5 (some .boolean) :: GW) ({ frames := 2, cells := 0, slots := 0, locals := 49 }) (va_Pc [.ref o, .ref (a 12), .int p2, .int p3, .int p4] (CP D Y Z (MW Y o a I J F G) sz)) (QG (S := Int32 × Int32 × Int32 × Int32 × (Nat → Int32)) (fun u => some (.int u.1)) (fun u => (0 ≤ u.2.1.toInt ∧ u.2.1.toInt ≤ 400) ∧ ((I 16).toInt ≤ u.2.1.toInt) ∧ (u.2.1.toInt ≤ (I 3).toInt) ∧ (0 ≤ u.2.2.1.toInt ∧ u.2.2.1.toInt ≤ 4000) ∧ (0 ≤ u.1.toInt ∧ u.1.toInt ≤ 1) ∧ (u.1.toInt = 0 → 1 ≤ u.2.2.1.toInt) ∧ (u.1.toInt = 1 → (p2.toInt ≤ (u.2.2.2.2 (I 19).toNatClampNeg).toInt ∧ (u.2.2.2.2 (I 19).toNatClampNeg).toInt ≤ p3.toInt ∧ u.2.2.2.1.toInt = (u.2.2.2.2 (I 19).toNatClampNeg).toInt)) ∧ TX (F 4) (F 9) (F 10) (F 11) u.2.2.2.2 (F 13)) (fun u => CB D (MW Y o a (upd (upd (upd I 16 u.2.1) 17 u.2.2.1) 18 u.2.2.2.1) J (vf_upd F 12 u.2.2.2.2) G) (va_A (MW Y o a I J F G) sz)) (va_A (MW Y o a I J F G) sz)) 0 0 (va_A (MW Y o a I J F G) sz) := by
  refine Met.ofW (cc := cX11_sets) (maxL := 5) (ret := (some .boolean)) (by decide) rfl ?_
  intro p e s m args below meth c s₁ B hml hv
  obtain ⟨rfl, hsz, hP, hKN, hD0⟩ := hv
  have hx := B.exec
  have hb := B.bytes
  have hr := B.returns
  have hts := atoms_spec (ws := .code yX11_sets cX11_sets 5 (some .boolean) :: GW) B.pre
  have hg : ∀ w ∈ GW, w.before _ s = true := fun w h => hts w (List.mem_cons_of_mem _ h)
  have hown : s.vm.findClass RX11 = some m.cls := findClass_of_methodNamed B.named
  have hlocks := B.notSynchronized
  subst hsz
  have hD := hD0.self (sz := s.heap.size)
  generalize hAe : va_A (MW Y o a I J F G) s.heap.size = A at hD ⊢
  have hA : ∀ q : Nat, s.heap.size ≤ q → A q := fun q h => by rw [← hAe]; exact Or.inr h
  clear hAe hD0 hts B
  have hl := lv_entry ([.ref o, .ref (a 12), .int p2, .int p3, .int p4]) (n := 5) (Nat.le_of_ble_eq_true rfl)
  rw [lg_entry_eq]
  generalize (lg_sl ([.ref o, .ref (a 12), .int p2, .int p3, .int p4]) ++ List.replicate (5 - (lg_sl ([.ref o, .ref (a 12), .int p2, .int p3, .int p4])).length) Slot.unset).toArray = ls at hl ⊢
  have hl : lv_has ls 5 [(0, .ref o), (1, .ref (a 12)), (2, .int p2), (3, .int p3), (4, .int p4)] := hl
  refine w_start (A0 := A) hP (fun H locs hP hS => ?_)
  refine lv_aload_n hx hb dX11_sets_0 rfl (lv_at hl 1 rfl) ?_
  refine lv_aload_n hx hb dX11_sets_1 rfl (lv_at hl 0 rfl) ?_
  refine va_get (D := D) (ci := 11) (v := .int (I 19)) (C := RX11) (T := TX11) (N := 49) hx hb hg inGX11 hown hKN.1 hP 0 rfl rfl 19 (by decide) (hg _ kw_1227) (fun _ h9 => h9) rfl dX11_sets_2 ?_
  refine va_iald hx hb hKN.1 hP 12 0 rfl rfl (vp_in_iff.mpr ⟨by omega, by omega⟩) dX11_sets_5 ?_
  refine lv_topi (fun v1 ev1 => ?_)
  have ev1 : v1 = (F 12) (I 19).toNatClampNeg := ev1
  have qv1 := congrArg Int32.toInt ev1
  have j2 := rgI v1
  refine lv_if_lt (tgt := 17) hx hb dX11_sets_6 (by decide) (fun c3 => ?_) (fun c3 => ?_)
  · skip
    have c3 := i_lt (Eq.refl v1.toInt) (show (0 : Int32).toInt = 0 by decide) c3
    refine lv_aload_n hx hb dX11_sets_17 rfl (lv_at hl 0 rfl) ?_
    refine cga (rn_V (As := []) (rest := []) (b := o) (m_passWord l D Y Z H.size o a I J F G   (show (0 ≤ (I 16).toInt ∧ (I 16).toInt ≤ 400) by omega) (show (0 ≤ (I 3).toInt ∧ (I 3).toInt ≤ 400) by omega) (show ((I 16).toInt ≤ (I 3).toInt) by omega)) ⟨hx, hb, hml, hown, hg⟩ lk_X11_194 ⟨CP.blind, va_recv hKN.1 hP (ci := 11) (q0 := 0) rfl rfl, CP.at hP hKN hD⟩ ⟨⟨rfl, rfl⟩, ⟨Nat.le_of_ble_eq_true rfl, Nat.le_of_ble_eq_true rfl⟩, ⟨Nat.le_of_ble_eq_true rfl, Nat.le_of_ble_eq_true rfl⟩⟩ hl.1 rfl (Nat.le_of_ble_eq_true rfl) dX11_sets_18) hP hD hS hA (fun u4 H locs w5 hP hD hS => ?_)
    obtain ⟨hw7, hw8, hw9, hw10⟩ : (0 ≤ u4.toInt ∧ u4.toInt ≤ 400) ∧ ((I 16).toInt ≤ u4.toInt) ∧ (u4.toInt ≤ (I 3).toInt) ∧ ((97 ≤ ((F 2) (I 16).toNatClampNeg).toInt ∧ ((F 2) (I 16).toNatClampNeg).toInt ≤ 122 ∧ (I 16).toInt < (I 3).toInt) → (I 16).toInt + 1 ≤ u4.toInt) := w5
    refine W.eq (g2 := F0 m 21 ls []) rfl ?_
    have hP : va_P D vwCl (MW Y o a (upd I 16 u4) J F G) H := hP
    have hD : va_D A (MW Y o a (upd I 16 u4) J F G) := hD
    refine lv_aload_n hx hb dX11_sets_21 rfl (lv_at hl 0 rfl) ?_
    refine lv_iload_n hx hb dX11_sets_22 rfl (lv_at hl 2 rfl) ?_
    refine lv_iload_n hx hb dX11_sets_23 rfl (lv_at hl 3 rfl) ?_
    refine cga (rn_V (As := [.int p2, .int p3]) (rest := []) (b := o) (m_number l D Y Z H.size o a (upd I 16 u4) J F G  p2 p3 (show (0 ≤ u4.toInt ∧ u4.toInt ≤ 400) by omega) (show (0 ≤ (I 3).toInt ∧ (I 3).toInt ≤ 400) by omega) (show (u4.toInt ≤ (I 3).toInt) by omega) (show (0 ≤ (I 17).toInt ∧ (I 17).toInt ≤ 4000) by omega) (show (-1 ≤ p2.toInt ∧ p2.toInt ≤ 100000) by omega) (show (-1 ≤ p3.toInt ∧ p3.toInt ≤ 100000) by omega)) ⟨hx, hb, hml, hown, hg⟩ lk_X11_255 ⟨CP.blind, va_recv hKN.1 hP (ci := 11) (q0 := 0) rfl rfl, CP.at hP hKN hD⟩ ⟨⟨rfl, rfl⟩, ⟨Nat.le_of_ble_eq_true rfl, Nat.le_of_ble_eq_true rfl⟩, ⟨Nat.le_of_ble_eq_true rfl, Nat.le_of_ble_eq_true rfl⟩⟩ hl.1 rfl (Nat.le_of_ble_eq_true rfl) dX11_sets_24) hP hD hS hA (fun u11 H locs w12 hP hD hS => ?_)
    obtain ⟨u13, u14, u15, u16⟩ := u11
    obtain ⟨hw17, hw18, hw19, hw20, hw21, hw22, hw23⟩ : (0 ≤ u14.toInt ∧ u14.toInt ≤ 400) ∧ (u4.toInt ≤ u14.toInt) ∧ (u14.toInt ≤ (I 3).toInt) ∧ (0 ≤ u15.toInt ∧ u15.toInt ≤ 4000) ∧ (u13.toInt = 1 → (p2.toInt ≤ u16.toInt ∧ u16.toInt ≤ p3.toInt ∧ u4.toInt + 1 ≤ u14.toInt)) ∧ (u13.toInt = 0 → 1 ≤ u15.toInt) ∧ (0 ≤ u13.toInt ∧ u13.toInt ≤ 1) := w12
    refine W.eq (g2 := F0 m 27 ls [.int u13]) rfl ?_
    have hP : va_P D vwCl (MW Y o a (upd (upd (upd I 16 u14) 17 u15) 18 u16) J F G) H := hP
    have hD : va_D A (MW Y o a (upd (upd (upd I 16 u14) 17 u15) 18 u16) J F G) := hD
    rcases (show u13.toInt = 1 ∨ u13.toInt = 0 by omega) with c24 | c24
    · obtain rfl : u13 = 1 := i_is c24 (by decide)
      have zi1 : (1 : Int32).toInt = 1 := by decide
      replace hw21 := hw21 (by decide)
      clear hw22
      refine W.eq (g2 := F0 m 27 ls [.int 1]) rfl ?_
      refine lv_if_ne (tgt := 32) hx hb dX11_sets_27 (by decide) (fun c25 => ?_) (fun c25 => ?_)
      rotate_left
      · exact absurd c25 (by decide)
      refine lv_aload_n hx hb dX11_sets_32 rfl (lv_at hl 1 rfl) ?_
      refine lv_aload_n hx hb dX11_sets_33 rfl (lv_at hl 0 rfl) ?_
      refine va_get (D := D) (ci := 11) (v := .int (I 19)) (C := RX11) (T := TX11) (N := 49) hx hb hg inGX11 hown hKN.1 hP 0 rfl rfl 19 (by decide) (hg _ kw_1227) (fun _ h9 => h9) rfl dX11_sets_34 ?_
      refine lv_aload_n hx hb dX11_sets_37 rfl (lv_at hl 0 rfl) ?_
      refine va_get (D := D) (ci := 11) (v := .int u16) (C := RX11) (T := TX11) (N := 49) hx hb hg inGX11 hown hKN.1 hP 0 rfl rfl 18 (by decide) (hg _ kw_1226) (fun _ h9 => h9) rfl dX11_sets_38 ?_
      refine va_iast hx hb hKN.1 hP hD hS 12 0 rfl rfl (vp_in_iff.mpr ⟨by omega, by omega⟩) dX11_sets_41 (fun H locs hP hD hS => ?_)
      obtain ⟨f26, ef26, hP, hD⟩ : ∃ f26 : Nat → Int32, f26 = upd (F 12) ((I 19).toNatClampNeg) u16 ∧ va_P D vwCl (MW Y o a (upd (upd (upd I 16 u14) 17 u15) 18 u16) J (vf_upd F 12 f26) G) H ∧ va_D A (MW Y o a (upd (upd (upd I 16 u14) 17 u15) 18 u16) J (vf_upd F 12 f26) G) := ⟨_, rfl, hP, hD⟩
      have t27 : TX (F 4) (F 9) (F 10) (F 11) f26 (F 13) := TX_fr (t := (I 19).toNatClampNeg) hk0 hr_UN (fun _ _ => rfl) (fun _ _ => rfl) (fun _ _ => rfl) (fun k hk => by rw [ef26]; exact up_ne hk) (fun _ _ => rfl)
      have t28 : (f26 (I 19).toNatClampNeg).toInt = u16.toInt := by rw [ef26, up_eq rfl]
      refine lv_iconst (v := 1) hx hb dX11_sets_42 (by decide) ?_
      refine W.widen (k := 0) (n := 0) (Nat.le_of_ble_eq_true rfl) (Nat.le_of_ble_eq_true rfl) ?_
      exact W.zret (v := 1) hx hb hr (by decide) (fun t ht hW => ⟨⟨(1, u14, u15, u16, f26), rfl, ⟨(show (0 ≤ u14.toInt ∧ u14.toInt ≤ 400) by omega), (show ((I 16).toInt ≤ u14.toInt) by omega), (show (u14.toInt ≤ (I 3).toInt) by omega), (show (0 ≤ u15.toInt ∧ u15.toInt ≤ 4000) by omega), (show (0 ≤ (1 : Int32).toInt ∧ (1 : Int32).toInt ≤ 1) by omega), (show ((1 : Int32).toInt = 0 → 1 ≤ u15.toInt) by omega), (show ((1 : Int32).toInt = 1 → (p2.toInt ≤ (f26 (I 19).toNatClampNeg).toInt ∧ (f26 (I 19).toNatClampNeg).toInt ≤ p3.toInt ∧ u16.toInt = (f26 (I 19).toNatClampNeg).toInt)) by omega), t27⟩, CB.mk ht hP hD⟩, hS.F ht⟩) hS.2.2 dX11_sets_43
    · obtain rfl : u13 = 0 := i_is c24 (by decide)
      have zi0 : (0 : Int32).toInt = 0 := by decide
      clear hw21
      replace hw22 := hw22 (by decide)
      refine W.eq (g2 := F0 m 27 ls [.int 0]) rfl ?_
      refine lv_if_ne (tgt := 32) hx hb dX11_sets_27 (by decide) (fun c29 => ?_) (fun c29 => ?_)
      · exact absurd c29 (by decide)
      refine lv_iconst (v := 0) hx hb dX11_sets_30 (by decide) ?_
      refine W.widen (k := 0) (n := 0) (Nat.le_of_ble_eq_true rfl) (Nat.le_of_ble_eq_true rfl) ?_
      exact W.zret (v := 0) hx hb hr (by decide) (fun t ht hW => ⟨⟨(0, u14, u15, u16, (F 12)), rfl, ⟨(show (0 ≤ u14.toInt ∧ u14.toInt ≤ 400) by omega), (show ((I 16).toInt ≤ u14.toInt) by omega), (show (u14.toInt ≤ (I 3).toInt) by omega), (show (0 ≤ u15.toInt ∧ u15.toInt ≤ 4000) by omega), (show (0 ≤ (0 : Int32).toInt ∧ (0 : Int32).toInt ≤ 1) by omega), (show ((0 : Int32).toInt = 0 → 1 ≤ u15.toInt) by omega), (show ((0 : Int32).toInt = 1 → (p2.toInt ≤ ((F 12) (I 19).toNatClampNeg).toInt ∧ ((F 12) (I 19).toNatClampNeg).toInt ≤ p3.toInt ∧ u16.toInt = ((F 12) (I 19).toNatClampNeg).toInt)) by omega), hk0⟩, CB.mk ht hP hD⟩, hS.F ht⟩) hS.2.2 dX11_sets_31
  · skip
    have c3 := i_nlt (Eq.refl v1.toInt) (show (0 : Int32).toInt = 0 by decide) c3
    refine lv_aload_n hx hb dX11_sets_9 rfl (lv_at hl 0 rfl) ?_
    refine lv_iconst (v := 4) hx hb dX11_sets_10 (by decide) ?_
    refine lv_iload hx hb dX11_sets_11 (lv_at hl 4 rfl) ?_
    have zi4 : (4 : Int32).toInt = 4 := by decide
    refine cga (rn_V (As := [.int 4, .int p4]) (rest := []) (b := o) (m_fails l D Y Z H.size o a I J F G  4 p4 (show (0 ≤ (4 : Int32).toInt ∧ (4 : Int32).toInt ≤ 4) by omega) (show (0 ≤ p4.toInt ∧ p4.toInt ≤ 400) by omega) (show (0 ≤ (I 17).toInt ∧ (I 17).toInt ≤ 4000) by omega)) ⟨hx, hb, hml, hown, hg⟩ lk_X11_200 ⟨CP.blind, va_recv hKN.1 hP (ci := 11) (q0 := 0) rfl rfl, CP.at hP hKN hD⟩ ⟨⟨rfl, rfl⟩, ⟨Nat.le_of_ble_eq_true rfl, Nat.le_of_ble_eq_true rfl⟩, ⟨Nat.le_of_ble_eq_true rfl, Nat.le_of_ble_eq_true rfl⟩⟩ hl.1 rfl (Nat.le_of_ble_eq_true rfl) dX11_sets_13) hP hD hS hA (fun u30 H locs w31 hP hD hS => ?_)
    obtain ⟨u32, u33⟩ := u30
    obtain ⟨hw34, hw35⟩ : (u32.toInt = 0) ∧ (1 ≤ u33.toInt ∧ u33.toInt ≤ 4000) := w31
    refine W.eq (g2 := F0 m 16 ls [.int u32]) rfl ?_
    have hP : va_P D vwCl (MW Y o a (upd I 17 u33) J F G) H := hP
    have hD : va_D A (MW Y o a (upd I 17 u33) J F G) := hD
    obtain rfl : u32 = 0 := i_is (X := 0) (by omega) (by decide)
    refine W.eq (g2 := F0 m 16 ls [.int 0]) rfl ?_
    refine W.widen (k := 0) (n := 0) (Nat.le_of_ble_eq_true rfl) (Nat.le_of_ble_eq_true rfl) ?_
    have zi0 : (0 : Int32).toInt = 0 := by decide
    exact W.zret (v := 0) hx hb hr (by decide) (fun t ht hW => ⟨⟨(0, (I 16), u33, (I 18), (F 12)), rfl, ⟨(show (0 ≤ (I 16).toInt ∧ (I 16).toInt ≤ 400) by omega), (show ((I 16).toInt ≤ (I 16).toInt) by omega), (show ((I 16).toInt ≤ (I 3).toInt) by omega), (show (0 ≤ u33.toInt ∧ u33.toInt ≤ 4000) by omega), (show (0 ≤ (0 : Int32).toInt ∧ (0 : Int32).toInt ≤ 1) by omega), (show ((0 : Int32).toInt = 0 → 1 ≤ u33.toInt) by omega), (show ((0 : Int32).toInt = 1 → (p2.toInt ≤ ((F 12) (I 19).toNatClampNeg).toInt ∧ ((F 12) (I 19).toNatClampNeg).toInt ≤ p3.toInt ∧ (I 18).toInt = ((F 12) (I 19).toNatClampNeg).toInt)) by omega), hk0⟩, CB.mk ht hP hD⟩, hS.F ht⟩) hS.2.2 dX11_sets_16
set_option maxHeartbeats 4000000 in
set_option maxRecDepth 100000 in
theorem m_sets_least (l : Launch) (D : va_G) (Y : Nat → ClassId) (Z : Nat → Nat) (sz : Nat) (o : Nat) (a : Nat → Nat) (I : Nat → Int32) (J : Nat → Int64) (F : Nat → Nat → Int32) (G : Nat → Nat → Int64) (p2 : Int32) (p3 : Int32) (p4 : Int32) (hk_0 : (0 ≤ (I 16).toInt ∧ (I 16).toInt ≤ 400)) (hk_1 : (0 ≤ (I 3).toInt ∧ (I 3).toInt ≤ 400)) (hk_2 : ((I 16).toInt ≤ (I 3).toInt)) (hk_3 : (0 ≤ (I 17).toInt ∧ (I 17).toInt ≤ 4000)) (hk_4 : (0 ≤ (I 19).toInt ∧ (I 19).toInt ≤ 17)) (hk_5 : (-1 ≤ p2.toInt ∧ p2.toInt ≤ 100000)) (hk_6 : (-1 ≤ p3.toInt ∧ p3.toInt ≤ 100000)) (hk_7 : (0 ≤ p4.toInt ∧ p4.toInt ≤ 400)) : Met l yX11_sets (.code yX11_sets cX11_sets 5 (some .boolean) :: GW) ({ frames := 2, cells := 0, slots := 0, locals := 49 }) (va_Pc [.ref o, .ref (a 14), .int p2, .int p3, .int p4] (CP D Y Z (MW Y o a I J F G) sz)) (QG (S := Int32 × Int32 × Int32 × Int32 × (Nat → Int32)) (fun u => some (.int u.1)) (fun u => (0 ≤ u.2.1.toInt ∧ u.2.1.toInt ≤ 400) ∧ ((I 16).toInt ≤ u.2.1.toInt) ∧ (u.2.1.toInt ≤ (I 3).toInt) ∧ (0 ≤ u.2.2.1.toInt ∧ u.2.2.1.toInt ≤ 4000) ∧ (0 ≤ u.1.toInt ∧ u.1.toInt ≤ 1) ∧ (u.1.toInt = 0 → 1 ≤ u.2.2.1.toInt) ∧ (u.1.toInt = 1 → (p2.toInt ≤ (u.2.2.2.2 (I 19).toNatClampNeg).toInt ∧ (u.2.2.2.2 (I 19).toNatClampNeg).toInt ≤ p3.toInt ∧ u.2.2.2.1.toInt = (u.2.2.2.2 (I 19).toNatClampNeg).toInt))) (fun u => CB D (MW Y o a (upd (upd (upd I 16 u.2.1) 17 u.2.2.1) 18 u.2.2.2.1) J (vf_upd F 14 u.2.2.2.2) G) (va_A (MW Y o a I J F G) sz)) (va_A (MW Y o a I J F G) sz)) 0 0 (va_A (MW Y o a I J F G) sz) := by
  refine Met.ofW (cc := cX11_sets) (maxL := 5) (ret := (some .boolean)) (by decide) rfl ?_
  intro p e s m args below meth c s₁ B hml hv
  obtain ⟨rfl, hsz, hP, hKN, hD0⟩ := hv
  have hx := B.exec
  have hb := B.bytes
  have hr := B.returns
  have hts := atoms_spec (ws := .code yX11_sets cX11_sets 5 (some .boolean) :: GW) B.pre
  have hg : ∀ w ∈ GW, w.before _ s = true := fun w h => hts w (List.mem_cons_of_mem _ h)
  have hown : s.vm.findClass RX11 = some m.cls := findClass_of_methodNamed B.named
  have hlocks := B.notSynchronized
  subst hsz
  have hD := hD0.self (sz := s.heap.size)
  generalize hAe : va_A (MW Y o a I J F G) s.heap.size = A at hD ⊢
  have hA : ∀ q : Nat, s.heap.size ≤ q → A q := fun q h => by rw [← hAe]; exact Or.inr h
  clear hAe hD0 hts B
  have hl := lv_entry ([.ref o, .ref (a 14), .int p2, .int p3, .int p4]) (n := 5) (Nat.le_of_ble_eq_true rfl)
  rw [lg_entry_eq]
  generalize (lg_sl ([.ref o, .ref (a 14), .int p2, .int p3, .int p4]) ++ List.replicate (5 - (lg_sl ([.ref o, .ref (a 14), .int p2, .int p3, .int p4])).length) Slot.unset).toArray = ls at hl ⊢
  have hl : lv_has ls 5 [(0, .ref o), (1, .ref (a 14)), (2, .int p2), (3, .int p3), (4, .int p4)] := hl
  refine w_start (A0 := A) hP (fun H locs hP hS => ?_)
  refine lv_aload_n hx hb dX11_sets_0 rfl (lv_at hl 1 rfl) ?_
  refine lv_aload_n hx hb dX11_sets_1 rfl (lv_at hl 0 rfl) ?_
  refine va_get (D := D) (ci := 11) (v := .int (I 19)) (C := RX11) (T := TX11) (N := 49) hx hb hg inGX11 hown hKN.1 hP 0 rfl rfl 19 (by decide) (hg _ kw_1227) (fun _ h9 => h9) rfl dX11_sets_2 ?_
  refine va_iald hx hb hKN.1 hP 14 0 rfl rfl (vp_in_iff.mpr ⟨by omega, by omega⟩) dX11_sets_5 ?_
  refine lv_topi (fun v1 ev1 => ?_)
  have ev1 : v1 = (F 14) (I 19).toNatClampNeg := ev1
  have qv1 := congrArg Int32.toInt ev1
  have j2 := rgI v1
  refine lv_if_lt (tgt := 17) hx hb dX11_sets_6 (by decide) (fun c3 => ?_) (fun c3 => ?_)
  · skip
    have c3 := i_lt (Eq.refl v1.toInt) (show (0 : Int32).toInt = 0 by decide) c3
    refine lv_aload_n hx hb dX11_sets_17 rfl (lv_at hl 0 rfl) ?_
    refine cga (rn_V (As := []) (rest := []) (b := o) (m_passWord l D Y Z H.size o a I J F G   (show (0 ≤ (I 16).toInt ∧ (I 16).toInt ≤ 400) by omega) (show (0 ≤ (I 3).toInt ∧ (I 3).toInt ≤ 400) by omega) (show ((I 16).toInt ≤ (I 3).toInt) by omega)) ⟨hx, hb, hml, hown, hg⟩ lk_X11_194 ⟨CP.blind, va_recv hKN.1 hP (ci := 11) (q0 := 0) rfl rfl, CP.at hP hKN hD⟩ ⟨⟨rfl, rfl⟩, ⟨Nat.le_of_ble_eq_true rfl, Nat.le_of_ble_eq_true rfl⟩, ⟨Nat.le_of_ble_eq_true rfl, Nat.le_of_ble_eq_true rfl⟩⟩ hl.1 rfl (Nat.le_of_ble_eq_true rfl) dX11_sets_18) hP hD hS hA (fun u4 H locs w5 hP hD hS => ?_)
    obtain ⟨hw7, hw8, hw9, hw10⟩ : (0 ≤ u4.toInt ∧ u4.toInt ≤ 400) ∧ ((I 16).toInt ≤ u4.toInt) ∧ (u4.toInt ≤ (I 3).toInt) ∧ ((97 ≤ ((F 2) (I 16).toNatClampNeg).toInt ∧ ((F 2) (I 16).toNatClampNeg).toInt ≤ 122 ∧ (I 16).toInt < (I 3).toInt) → (I 16).toInt + 1 ≤ u4.toInt) := w5
    refine W.eq (g2 := F0 m 21 ls []) rfl ?_
    have hP : va_P D vwCl (MW Y o a (upd I 16 u4) J F G) H := hP
    have hD : va_D A (MW Y o a (upd I 16 u4) J F G) := hD
    refine lv_aload_n hx hb dX11_sets_21 rfl (lv_at hl 0 rfl) ?_
    refine lv_iload_n hx hb dX11_sets_22 rfl (lv_at hl 2 rfl) ?_
    refine lv_iload_n hx hb dX11_sets_23 rfl (lv_at hl 3 rfl) ?_
    refine cga (rn_V (As := [.int p2, .int p3]) (rest := []) (b := o) (m_number l D Y Z H.size o a (upd I 16 u4) J F G  p2 p3 (show (0 ≤ u4.toInt ∧ u4.toInt ≤ 400) by omega) (show (0 ≤ (I 3).toInt ∧ (I 3).toInt ≤ 400) by omega) (show (u4.toInt ≤ (I 3).toInt) by omega) (show (0 ≤ (I 17).toInt ∧ (I 17).toInt ≤ 4000) by omega) (show (-1 ≤ p2.toInt ∧ p2.toInt ≤ 100000) by omega) (show (-1 ≤ p3.toInt ∧ p3.toInt ≤ 100000) by omega)) ⟨hx, hb, hml, hown, hg⟩ lk_X11_255 ⟨CP.blind, va_recv hKN.1 hP (ci := 11) (q0 := 0) rfl rfl, CP.at hP hKN hD⟩ ⟨⟨rfl, rfl⟩, ⟨Nat.le_of_ble_eq_true rfl, Nat.le_of_ble_eq_true rfl⟩, ⟨Nat.le_of_ble_eq_true rfl, Nat.le_of_ble_eq_true rfl⟩⟩ hl.1 rfl (Nat.le_of_ble_eq_true rfl) dX11_sets_24) hP hD hS hA (fun u11 H locs w12 hP hD hS => ?_)
    obtain ⟨u13, u14, u15, u16⟩ := u11
    obtain ⟨hw17, hw18, hw19, hw20, hw21, hw22, hw23⟩ : (0 ≤ u14.toInt ∧ u14.toInt ≤ 400) ∧ (u4.toInt ≤ u14.toInt) ∧ (u14.toInt ≤ (I 3).toInt) ∧ (0 ≤ u15.toInt ∧ u15.toInt ≤ 4000) ∧ (u13.toInt = 1 → (p2.toInt ≤ u16.toInt ∧ u16.toInt ≤ p3.toInt ∧ u4.toInt + 1 ≤ u14.toInt)) ∧ (u13.toInt = 0 → 1 ≤ u15.toInt) ∧ (0 ≤ u13.toInt ∧ u13.toInt ≤ 1) := w12
    refine W.eq (g2 := F0 m 27 ls [.int u13]) rfl ?_
    have hP : va_P D vwCl (MW Y o a (upd (upd (upd I 16 u14) 17 u15) 18 u16) J F G) H := hP
    have hD : va_D A (MW Y o a (upd (upd (upd I 16 u14) 17 u15) 18 u16) J F G) := hD
    rcases (show u13.toInt = 1 ∨ u13.toInt = 0 by omega) with c24 | c24
    · obtain rfl : u13 = 1 := i_is c24 (by decide)
      have zi1 : (1 : Int32).toInt = 1 := by decide
      replace hw21 := hw21 (by decide)
      clear hw22
      refine W.eq (g2 := F0 m 27 ls [.int 1]) rfl ?_
      refine lv_if_ne (tgt := 32) hx hb dX11_sets_27 (by decide) (fun c25 => ?_) (fun c25 => ?_)
      rotate_left
      · exact absurd c25 (by decide)
      refine lv_aload_n hx hb dX11_sets_32 rfl (lv_at hl 1 rfl) ?_
      refine lv_aload_n hx hb dX11_sets_33 rfl (lv_at hl 0 rfl) ?_
      refine va_get (D := D) (ci := 11) (v := .int (I 19)) (C := RX11) (T := TX11) (N := 49) hx hb hg inGX11 hown hKN.1 hP 0 rfl rfl 19 (by decide) (hg _ kw_1227) (fun _ h9 => h9) rfl dX11_sets_34 ?_
      refine lv_aload_n hx hb dX11_sets_37 rfl (lv_at hl 0 rfl) ?_
      refine va_get (D := D) (ci := 11) (v := .int u16) (C := RX11) (T := TX11) (N := 49) hx hb hg inGX11 hown hKN.1 hP 0 rfl rfl 18 (by decide) (hg _ kw_1226) (fun _ h9 => h9) rfl dX11_sets_38 ?_
      refine va_iast hx hb hKN.1 hP hD hS 14 0 rfl rfl (vp_in_iff.mpr ⟨by omega, by omega⟩) dX11_sets_41 (fun H locs hP hD hS => ?_)
      obtain ⟨f26, ef26, hP, hD⟩ : ∃ f26 : Nat → Int32, f26 = upd (F 14) ((I 19).toNatClampNeg) u16 ∧ va_P D vwCl (MW Y o a (upd (upd (upd I 16 u14) 17 u15) 18 u16) J (vf_upd F 14 f26) G) H ∧ va_D A (MW Y o a (upd (upd (upd I 16 u14) 17 u15) 18 u16) J (vf_upd F 14 f26) G) := ⟨_, rfl, hP, hD⟩
      have t27 : (f26 (I 19).toNatClampNeg).toInt = u16.toInt := by rw [ef26, up_eq rfl]
      refine lv_iconst (v := 1) hx hb dX11_sets_42 (by decide) ?_
      refine W.widen (k := 0) (n := 0) (Nat.le_of_ble_eq_true rfl) (Nat.le_of_ble_eq_true rfl) ?_
      exact W.zret (v := 1) hx hb hr (by decide) (fun t ht hW => ⟨⟨(1, u14, u15, u16, f26), rfl, ⟨(show (0 ≤ u14.toInt ∧ u14.toInt ≤ 400) by omega), (show ((I 16).toInt ≤ u14.toInt) by omega), (show (u14.toInt ≤ (I 3).toInt) by omega), (show (0 ≤ u15.toInt ∧ u15.toInt ≤ 4000) by omega), (show (0 ≤ (1 : Int32).toInt ∧ (1 : Int32).toInt ≤ 1) by omega), (show ((1 : Int32).toInt = 0 → 1 ≤ u15.toInt) by omega), (show ((1 : Int32).toInt = 1 → (p2.toInt ≤ (f26 (I 19).toNatClampNeg).toInt ∧ (f26 (I 19).toNatClampNeg).toInt ≤ p3.toInt ∧ u16.toInt = (f26 (I 19).toNatClampNeg).toInt)) by omega)⟩, CB.mk ht hP hD⟩, hS.F ht⟩) hS.2.2 dX11_sets_43
    · obtain rfl : u13 = 0 := i_is c24 (by decide)
      have zi0 : (0 : Int32).toInt = 0 := by decide
      clear hw21
      replace hw22 := hw22 (by decide)
      refine W.eq (g2 := F0 m 27 ls [.int 0]) rfl ?_
      refine lv_if_ne (tgt := 32) hx hb dX11_sets_27 (by decide) (fun c28 => ?_) (fun c28 => ?_)
      · exact absurd c28 (by decide)
      refine lv_iconst (v := 0) hx hb dX11_sets_30 (by decide) ?_
      refine W.widen (k := 0) (n := 0) (Nat.le_of_ble_eq_true rfl) (Nat.le_of_ble_eq_true rfl) ?_
      exact W.zret (v := 0) hx hb hr (by decide) (fun t ht hW => ⟨⟨(0, u14, u15, u16, (F 14)), rfl, ⟨(show (0 ≤ u14.toInt ∧ u14.toInt ≤ 400) by omega), (show ((I 16).toInt ≤ u14.toInt) by omega), (show (u14.toInt ≤ (I 3).toInt) by omega), (show (0 ≤ u15.toInt ∧ u15.toInt ≤ 4000) by omega), (show (0 ≤ (0 : Int32).toInt ∧ (0 : Int32).toInt ≤ 1) by omega), (show ((0 : Int32).toInt = 0 → 1 ≤ u15.toInt) by omega), (show ((0 : Int32).toInt = 1 → (p2.toInt ≤ ((F 14) (I 19).toNatClampNeg).toInt ∧ ((F 14) (I 19).toNatClampNeg).toInt ≤ p3.toInt ∧ u16.toInt = ((F 14) (I 19).toNatClampNeg).toInt)) by omega)⟩, CB.mk ht hP hD⟩, hS.F ht⟩) hS.2.2 dX11_sets_31
  · skip
    have c3 := i_nlt (Eq.refl v1.toInt) (show (0 : Int32).toInt = 0 by decide) c3
    refine lv_aload_n hx hb dX11_sets_9 rfl (lv_at hl 0 rfl) ?_
    refine lv_iconst (v := 4) hx hb dX11_sets_10 (by decide) ?_
    refine lv_iload hx hb dX11_sets_11 (lv_at hl 4 rfl) ?_
    have zi4 : (4 : Int32).toInt = 4 := by decide
    refine cga (rn_V (As := [.int 4, .int p4]) (rest := []) (b := o) (m_fails l D Y Z H.size o a I J F G  4 p4 (show (0 ≤ (4 : Int32).toInt ∧ (4 : Int32).toInt ≤ 4) by omega) (show (0 ≤ p4.toInt ∧ p4.toInt ≤ 400) by omega) (show (0 ≤ (I 17).toInt ∧ (I 17).toInt ≤ 4000) by omega)) ⟨hx, hb, hml, hown, hg⟩ lk_X11_200 ⟨CP.blind, va_recv hKN.1 hP (ci := 11) (q0 := 0) rfl rfl, CP.at hP hKN hD⟩ ⟨⟨rfl, rfl⟩, ⟨Nat.le_of_ble_eq_true rfl, Nat.le_of_ble_eq_true rfl⟩, ⟨Nat.le_of_ble_eq_true rfl, Nat.le_of_ble_eq_true rfl⟩⟩ hl.1 rfl (Nat.le_of_ble_eq_true rfl) dX11_sets_13) hP hD hS hA (fun u29 H locs w30 hP hD hS => ?_)
    obtain ⟨u31, u32⟩ := u29
    obtain ⟨hw33, hw34⟩ : (u31.toInt = 0) ∧ (1 ≤ u32.toInt ∧ u32.toInt ≤ 4000) := w30
    refine W.eq (g2 := F0 m 16 ls [.int u31]) rfl ?_
    have hP : va_P D vwCl (MW Y o a (upd I 17 u32) J F G) H := hP
    have hD : va_D A (MW Y o a (upd I 17 u32) J F G) := hD
    obtain rfl : u31 = 0 := i_is (X := 0) (by omega) (by decide)
    refine W.eq (g2 := F0 m 16 ls [.int 0]) rfl ?_
    refine W.widen (k := 0) (n := 0) (Nat.le_of_ble_eq_true rfl) (Nat.le_of_ble_eq_true rfl) ?_
    have zi0 : (0 : Int32).toInt = 0 := by decide
    exact W.zret (v := 0) hx hb hr (by decide) (fun t ht hW => ⟨⟨(0, (I 16), u32, (I 18), (F 14)), rfl, ⟨(show (0 ≤ (I 16).toInt ∧ (I 16).toInt ≤ 400) by omega), (show ((I 16).toInt ≤ (I 16).toInt) by omega), (show ((I 16).toInt ≤ (I 3).toInt) by omega), (show (0 ≤ u32.toInt ∧ u32.toInt ≤ 4000) by omega), (show (0 ≤ (0 : Int32).toInt ∧ (0 : Int32).toInt ≤ 1) by omega), (show ((0 : Int32).toInt = 0 → 1 ≤ u32.toInt) by omega), (show ((0 : Int32).toInt = 1 → (p2.toInt ≤ ((F 14) (I 19).toNatClampNeg).toInt ∧ ((F 14) (I 19).toNatClampNeg).toInt ≤ p3.toInt ∧ (I 18).toInt = ((F 14) (I 19).toNatClampNeg).toInt)) by omega)⟩, CB.mk ht hP hD⟩, hS.F ht⟩) hS.2.2 dX11_sets_16
set_option maxHeartbeats 4000000 in
set_option maxRecDepth 100000 in
theorem m_sets_bar (l : Launch) (D : va_G) (Y : Nat → ClassId) (Z : Nat → Nat) (sz : Nat) (o : Nat) (a : Nat → Nat) (I : Nat → Int32) (J : Nat → Int64) (F : Nat → Nat → Int32) (G : Nat → Nat → Int64) (p2 : Int32) (p3 : Int32) (p4 : Int32) (hk_0 : (0 ≤ (I 16).toInt ∧ (I 16).toInt ≤ 400)) (hk_1 : (0 ≤ (I 3).toInt ∧ (I 3).toInt ≤ 400)) (hk_2 : ((I 16).toInt ≤ (I 3).toInt)) (hk_3 : (0 ≤ (I 17).toInt ∧ (I 17).toInt ≤ 4000)) (hk_4 : (0 ≤ (I 19).toInt ∧ (I 19).toInt ≤ 17)) (hk_5 : (-1 ≤ p2.toInt ∧ p2.toInt ≤ 100000)) (hk_6 : (-1 ≤ p3.toInt ∧ p3.toInt ≤ 100000)) (hk_7 : (0 ≤ p4.toInt ∧ p4.toInt ≤ 400)) : Met l yX11_sets (.code yX11_sets cX11_sets 5 (some .boolean) :: GW) ({ frames := 2, cells := 0, slots := 0, locals := 49 }) (va_Pc [.ref o, .ref (a 15), .int p2, .int p3, .int p4] (CP D Y Z (MW Y o a I J F G) sz)) (QG (S := Int32 × Int32 × Int32 × Int32 × (Nat → Int32)) (fun u => some (.int u.1)) (fun u => (0 ≤ u.2.1.toInt ∧ u.2.1.toInt ≤ 400) ∧ ((I 16).toInt ≤ u.2.1.toInt) ∧ (u.2.1.toInt ≤ (I 3).toInt) ∧ (0 ≤ u.2.2.1.toInt ∧ u.2.2.1.toInt ≤ 4000) ∧ (0 ≤ u.1.toInt ∧ u.1.toInt ≤ 1) ∧ (u.1.toInt = 0 → 1 ≤ u.2.2.1.toInt) ∧ (u.1.toInt = 1 → (p2.toInt ≤ (u.2.2.2.2 (I 19).toNatClampNeg).toInt ∧ (u.2.2.2.2 (I 19).toNatClampNeg).toInt ≤ p3.toInt ∧ u.2.2.2.1.toInt = (u.2.2.2.2 (I 19).toNatClampNeg).toInt))) (fun u => CB D (MW Y o a (upd (upd (upd I 16 u.2.1) 17 u.2.2.1) 18 u.2.2.2.1) J (vf_upd F 15 u.2.2.2.2) G) (va_A (MW Y o a I J F G) sz)) (va_A (MW Y o a I J F G) sz)) 0 0 (va_A (MW Y o a I J F G) sz) := by
  refine Met.ofW (cc := cX11_sets) (maxL := 5) (ret := (some .boolean)) (by decide) rfl ?_
  intro p e s m args below meth c s₁ B hml hv
  obtain ⟨rfl, hsz, hP, hKN, hD0⟩ := hv
  have hx := B.exec
  have hb := B.bytes
  have hr := B.returns
  have hts := atoms_spec (ws := .code yX11_sets cX11_sets 5 (some .boolean) :: GW) B.pre
  have hg : ∀ w ∈ GW, w.before _ s = true := fun w h => hts w (List.mem_cons_of_mem _ h)
  have hown : s.vm.findClass RX11 = some m.cls := findClass_of_methodNamed B.named
  have hlocks := B.notSynchronized
  subst hsz
  have hD := hD0.self (sz := s.heap.size)
  generalize hAe : va_A (MW Y o a I J F G) s.heap.size = A at hD ⊢
  have hA : ∀ q : Nat, s.heap.size ≤ q → A q := fun q h => by rw [← hAe]; exact Or.inr h
  clear hAe hD0 hts B
  have hl := lv_entry ([.ref o, .ref (a 15), .int p2, .int p3, .int p4]) (n := 5) (Nat.le_of_ble_eq_true rfl)
  rw [lg_entry_eq]
  generalize (lg_sl ([.ref o, .ref (a 15), .int p2, .int p3, .int p4]) ++ List.replicate (5 - (lg_sl ([.ref o, .ref (a 15), .int p2, .int p3, .int p4])).length) Slot.unset).toArray = ls at hl ⊢
  have hl : lv_has ls 5 [(0, .ref o), (1, .ref (a 15)), (2, .int p2), (3, .int p3), (4, .int p4)] := hl
  refine w_start (A0 := A) hP (fun H locs hP hS => ?_)
  refine lv_aload_n hx hb dX11_sets_0 rfl (lv_at hl 1 rfl) ?_
  refine lv_aload_n hx hb dX11_sets_1 rfl (lv_at hl 0 rfl) ?_
  refine va_get (D := D) (ci := 11) (v := .int (I 19)) (C := RX11) (T := TX11) (N := 49) hx hb hg inGX11 hown hKN.1 hP 0 rfl rfl 19 (by decide) (hg _ kw_1227) (fun _ h9 => h9) rfl dX11_sets_2 ?_
  refine va_iald hx hb hKN.1 hP 15 0 rfl rfl (vp_in_iff.mpr ⟨by omega, by omega⟩) dX11_sets_5 ?_
  refine lv_topi (fun v1 ev1 => ?_)
  have ev1 : v1 = (F 15) (I 19).toNatClampNeg := ev1
  have qv1 := congrArg Int32.toInt ev1
  have j2 := rgI v1
  refine lv_if_lt (tgt := 17) hx hb dX11_sets_6 (by decide) (fun c3 => ?_) (fun c3 => ?_)
  · skip
    have c3 := i_lt (Eq.refl v1.toInt) (show (0 : Int32).toInt = 0 by decide) c3
    refine lv_aload_n hx hb dX11_sets_17 rfl (lv_at hl 0 rfl) ?_
    refine cga (rn_V (As := []) (rest := []) (b := o) (m_passWord l D Y Z H.size o a I J F G   (show (0 ≤ (I 16).toInt ∧ (I 16).toInt ≤ 400) by omega) (show (0 ≤ (I 3).toInt ∧ (I 3).toInt ≤ 400) by omega) (show ((I 16).toInt ≤ (I 3).toInt) by omega)) ⟨hx, hb, hml, hown, hg⟩ lk_X11_194 ⟨CP.blind, va_recv hKN.1 hP (ci := 11) (q0 := 0) rfl rfl, CP.at hP hKN hD⟩ ⟨⟨rfl, rfl⟩, ⟨Nat.le_of_ble_eq_true rfl, Nat.le_of_ble_eq_true rfl⟩, ⟨Nat.le_of_ble_eq_true rfl, Nat.le_of_ble_eq_true rfl⟩⟩ hl.1 rfl (Nat.le_of_ble_eq_true rfl) dX11_sets_18) hP hD hS hA (fun u4 H locs w5 hP hD hS => ?_)
    obtain ⟨hw7, hw8, hw9, hw10⟩ : (0 ≤ u4.toInt ∧ u4.toInt ≤ 400) ∧ ((I 16).toInt ≤ u4.toInt) ∧ (u4.toInt ≤ (I 3).toInt) ∧ ((97 ≤ ((F 2) (I 16).toNatClampNeg).toInt ∧ ((F 2) (I 16).toNatClampNeg).toInt ≤ 122 ∧ (I 16).toInt < (I 3).toInt) → (I 16).toInt + 1 ≤ u4.toInt) := w5
    refine W.eq (g2 := F0 m 21 ls []) rfl ?_
    have hP : va_P D vwCl (MW Y o a (upd I 16 u4) J F G) H := hP
    have hD : va_D A (MW Y o a (upd I 16 u4) J F G) := hD
    refine lv_aload_n hx hb dX11_sets_21 rfl (lv_at hl 0 rfl) ?_
    refine lv_iload_n hx hb dX11_sets_22 rfl (lv_at hl 2 rfl) ?_
    refine lv_iload_n hx hb dX11_sets_23 rfl (lv_at hl 3 rfl) ?_
    refine cga (rn_V (As := [.int p2, .int p3]) (rest := []) (b := o) (m_number l D Y Z H.size o a (upd I 16 u4) J F G  p2 p3 (show (0 ≤ u4.toInt ∧ u4.toInt ≤ 400) by omega) (show (0 ≤ (I 3).toInt ∧ (I 3).toInt ≤ 400) by omega) (show (u4.toInt ≤ (I 3).toInt) by omega) (show (0 ≤ (I 17).toInt ∧ (I 17).toInt ≤ 4000) by omega) (show (-1 ≤ p2.toInt ∧ p2.toInt ≤ 100000) by omega) (show (-1 ≤ p3.toInt ∧ p3.toInt ≤ 100000) by omega)) ⟨hx, hb, hml, hown, hg⟩ lk_X11_255 ⟨CP.blind, va_recv hKN.1 hP (ci := 11) (q0 := 0) rfl rfl, CP.at hP hKN hD⟩ ⟨⟨rfl, rfl⟩, ⟨Nat.le_of_ble_eq_true rfl, Nat.le_of_ble_eq_true rfl⟩, ⟨Nat.le_of_ble_eq_true rfl, Nat.le_of_ble_eq_true rfl⟩⟩ hl.1 rfl (Nat.le_of_ble_eq_true rfl) dX11_sets_24) hP hD hS hA (fun u11 H locs w12 hP hD hS => ?_)
    obtain ⟨u13, u14, u15, u16⟩ := u11
    obtain ⟨hw17, hw18, hw19, hw20, hw21, hw22, hw23⟩ : (0 ≤ u14.toInt ∧ u14.toInt ≤ 400) ∧ (u4.toInt ≤ u14.toInt) ∧ (u14.toInt ≤ (I 3).toInt) ∧ (0 ≤ u15.toInt ∧ u15.toInt ≤ 4000) ∧ (u13.toInt = 1 → (p2.toInt ≤ u16.toInt ∧ u16.toInt ≤ p3.toInt ∧ u4.toInt + 1 ≤ u14.toInt)) ∧ (u13.toInt = 0 → 1 ≤ u15.toInt) ∧ (0 ≤ u13.toInt ∧ u13.toInt ≤ 1) := w12
    refine W.eq (g2 := F0 m 27 ls [.int u13]) rfl ?_
    have hP : va_P D vwCl (MW Y o a (upd (upd (upd I 16 u14) 17 u15) 18 u16) J F G) H := hP
    have hD : va_D A (MW Y o a (upd (upd (upd I 16 u14) 17 u15) 18 u16) J F G) := hD
    rcases (show u13.toInt = 1 ∨ u13.toInt = 0 by omega) with c24 | c24
    · obtain rfl : u13 = 1 := i_is c24 (by decide)
      have zi1 : (1 : Int32).toInt = 1 := by decide
      replace hw21 := hw21 (by decide)
      clear hw22
      refine W.eq (g2 := F0 m 27 ls [.int 1]) rfl ?_
      refine lv_if_ne (tgt := 32) hx hb dX11_sets_27 (by decide) (fun c25 => ?_) (fun c25 => ?_)
      rotate_left
      · exact absurd c25 (by decide)
      refine lv_aload_n hx hb dX11_sets_32 rfl (lv_at hl 1 rfl) ?_
      refine lv_aload_n hx hb dX11_sets_33 rfl (lv_at hl 0 rfl) ?_
      refine va_get (D := D) (ci := 11) (v := .int (I 19)) (C := RX11) (T := TX11) (N := 49) hx hb hg inGX11 hown hKN.1 hP 0 rfl rfl 19 (by decide) (hg _ kw_1227) (fun _ h9 => h9) rfl dX11_sets_34 ?_
      refine lv_aload_n hx hb dX11_sets_37 rfl (lv_at hl 0 rfl) ?_
      refine va_get (D := D) (ci := 11) (v := .int u16) (C := RX11) (T := TX11) (N := 49) hx hb hg inGX11 hown hKN.1 hP 0 rfl rfl 18 (by decide) (hg _ kw_1226) (fun _ h9 => h9) rfl dX11_sets_38 ?_
      refine va_iast hx hb hKN.1 hP hD hS 15 0 rfl rfl (vp_in_iff.mpr ⟨by omega, by omega⟩) dX11_sets_41 (fun H locs hP hD hS => ?_)
      obtain ⟨f26, ef26, hP, hD⟩ : ∃ f26 : Nat → Int32, f26 = upd (F 15) ((I 19).toNatClampNeg) u16 ∧ va_P D vwCl (MW Y o a (upd (upd (upd I 16 u14) 17 u15) 18 u16) J (vf_upd F 15 f26) G) H ∧ va_D A (MW Y o a (upd (upd (upd I 16 u14) 17 u15) 18 u16) J (vf_upd F 15 f26) G) := ⟨_, rfl, hP, hD⟩
      have t27 : (f26 (I 19).toNatClampNeg).toInt = u16.toInt := by rw [ef26, up_eq rfl]
      refine lv_iconst (v := 1) hx hb dX11_sets_42 (by decide) ?_
      refine W.widen (k := 0) (n := 0) (Nat.le_of_ble_eq_true rfl) (Nat.le_of_ble_eq_true rfl) ?_
      exact W.zret (v := 1) hx hb hr (by decide) (fun t ht hW => ⟨⟨(1, u14, u15, u16, f26), rfl, ⟨(show (0 ≤ u14.toInt ∧ u14.toInt ≤ 400) by omega), (show ((I 16).toInt ≤ u14.toInt) by omega), (show (u14.toInt ≤ (I 3).toInt) by omega), (show (0 ≤ u15.toInt ∧ u15.toInt ≤ 4000) by omega), (show (0 ≤ (1 : Int32).toInt ∧ (1 : Int32).toInt ≤ 1) by omega), (show ((1 : Int32).toInt = 0 → 1 ≤ u15.toInt) by omega), (show ((1 : Int32).toInt = 1 → (p2.toInt ≤ (f26 (I 19).toNatClampNeg).toInt ∧ (f26 (I 19).toNatClampNeg).toInt ≤ p3.toInt ∧ u16.toInt = (f26 (I 19).toNatClampNeg).toInt)) by omega)⟩, CB.mk ht hP hD⟩, hS.F ht⟩) hS.2.2 dX11_sets_43
    · obtain rfl : u13 = 0 := i_is c24 (by decide)
      have zi0 : (0 : Int32).toInt = 0 := by decide
      clear hw21
      replace hw22 := hw22 (by decide)
      refine W.eq (g2 := F0 m 27 ls [.int 0]) rfl ?_
      refine lv_if_ne (tgt := 32) hx hb dX11_sets_27 (by decide) (fun c28 => ?_) (fun c28 => ?_)
      · exact absurd c28 (by decide)
      refine lv_iconst (v := 0) hx hb dX11_sets_30 (by decide) ?_
      refine W.widen (k := 0) (n := 0) (Nat.le_of_ble_eq_true rfl) (Nat.le_of_ble_eq_true rfl) ?_
      exact W.zret (v := 0) hx hb hr (by decide) (fun t ht hW => ⟨⟨(0, u14, u15, u16, (F 15)), rfl, ⟨(show (0 ≤ u14.toInt ∧ u14.toInt ≤ 400) by omega), (show ((I 16).toInt ≤ u14.toInt) by omega), (show (u14.toInt ≤ (I 3).toInt) by omega), (show (0 ≤ u15.toInt ∧ u15.toInt ≤ 4000) by omega), (show (0 ≤ (0 : Int32).toInt ∧ (0 : Int32).toInt ≤ 1) by omega), (show ((0 : Int32).toInt = 0 → 1 ≤ u15.toInt) by omega), (show ((0 : Int32).toInt = 1 → (p2.toInt ≤ ((F 15) (I 19).toNatClampNeg).toInt ∧ ((F 15) (I 19).toNatClampNeg).toInt ≤ p3.toInt ∧ u16.toInt = ((F 15) (I 19).toNatClampNeg).toInt)) by omega)⟩, CB.mk ht hP hD⟩, hS.F ht⟩) hS.2.2 dX11_sets_31
  · skip
    have c3 := i_nlt (Eq.refl v1.toInt) (show (0 : Int32).toInt = 0 by decide) c3
    refine lv_aload_n hx hb dX11_sets_9 rfl (lv_at hl 0 rfl) ?_
    refine lv_iconst (v := 4) hx hb dX11_sets_10 (by decide) ?_
    refine lv_iload hx hb dX11_sets_11 (lv_at hl 4 rfl) ?_
    have zi4 : (4 : Int32).toInt = 4 := by decide
    refine cga (rn_V (As := [.int 4, .int p4]) (rest := []) (b := o) (m_fails l D Y Z H.size o a I J F G  4 p4 (show (0 ≤ (4 : Int32).toInt ∧ (4 : Int32).toInt ≤ 4) by omega) (show (0 ≤ p4.toInt ∧ p4.toInt ≤ 400) by omega) (show (0 ≤ (I 17).toInt ∧ (I 17).toInt ≤ 4000) by omega)) ⟨hx, hb, hml, hown, hg⟩ lk_X11_200 ⟨CP.blind, va_recv hKN.1 hP (ci := 11) (q0 := 0) rfl rfl, CP.at hP hKN hD⟩ ⟨⟨rfl, rfl⟩, ⟨Nat.le_of_ble_eq_true rfl, Nat.le_of_ble_eq_true rfl⟩, ⟨Nat.le_of_ble_eq_true rfl, Nat.le_of_ble_eq_true rfl⟩⟩ hl.1 rfl (Nat.le_of_ble_eq_true rfl) dX11_sets_13) hP hD hS hA (fun u29 H locs w30 hP hD hS => ?_)
    obtain ⟨u31, u32⟩ := u29
    obtain ⟨hw33, hw34⟩ : (u31.toInt = 0) ∧ (1 ≤ u32.toInt ∧ u32.toInt ≤ 4000) := w30
    refine W.eq (g2 := F0 m 16 ls [.int u31]) rfl ?_
    have hP : va_P D vwCl (MW Y o a (upd I 17 u32) J F G) H := hP
    have hD : va_D A (MW Y o a (upd I 17 u32) J F G) := hD
    obtain rfl : u31 = 0 := i_is (X := 0) (by omega) (by decide)
    refine W.eq (g2 := F0 m 16 ls [.int 0]) rfl ?_
    refine W.widen (k := 0) (n := 0) (Nat.le_of_ble_eq_true rfl) (Nat.le_of_ble_eq_true rfl) ?_
    have zi0 : (0 : Int32).toInt = 0 := by decide
    exact W.zret (v := 0) hx hb hr (by decide) (fun t ht hW => ⟨⟨(0, (I 16), u32, (I 18), (F 15)), rfl, ⟨(show (0 ≤ (I 16).toInt ∧ (I 16).toInt ≤ 400) by omega), (show ((I 16).toInt ≤ (I 16).toInt) by omega), (show ((I 16).toInt ≤ (I 3).toInt) by omega), (show (0 ≤ u32.toInt ∧ u32.toInt ≤ 4000) by omega), (show (0 ≤ (0 : Int32).toInt ∧ (0 : Int32).toInt ≤ 1) by omega), (show ((0 : Int32).toInt = 0 → 1 ≤ u32.toInt) by omega), (show ((0 : Int32).toInt = 1 → (p2.toInt ≤ ((F 15) (I 19).toNatClampNeg).toInt ∧ ((F 15) (I 19).toNatClampNeg).toInt ≤ p3.toInt ∧ (I 18).toInt = ((F 15) (I 19).toNatClampNeg).toInt)) by omega)⟩, CB.mk ht hP hD⟩, hS.F ht⟩) hS.2.2 dX11_sets_16
set_option maxHeartbeats 4000000 in
set_option maxRecDepth 100000 in
theorem m_spans_beatFrom (l : Launch) (D : va_G) (Y : Nat → ClassId) (Z : Nat → Nat) (sz : Nat) (o : Nat) (a : Nat → Nat) (I : Nat → Int32) (J : Nat → Int64) (F : Nat → Nat → Int32) (G : Nat → Nat → Int64) (p3 : Int32) (p4 : Int32) (p5 : Int32) (hk_0 : (0 ≤ (I 16).toInt ∧ (I 16).toInt ≤ 400)) (hk_1 : (0 ≤ (I 3).toInt ∧ (I 3).toInt ≤ 400)) (hk_2 : ((I 16).toInt ≤ (I 3).toInt)) (hk_3 : (0 ≤ (I 17).toInt ∧ (I 17).toInt ≤ 4000)) (hk_4 : (0 ≤ (I 19).toInt ∧ (I 19).toInt ≤ 17)) (hk_5 : (-1 ≤ p3.toInt ∧ p3.toInt ≤ 100000)) (hk_6 : (-1 ≤ p4.toInt ∧ p4.toInt ≤ 100000)) (hk_7 : (0 ≤ p5.toInt ∧ p5.toInt ≤ 400)) (hk0 : TX (F 4) (F 9) (F 10) (F 11) (F 12) (F 13)) (hr_UN : UNT (F 4) (I 19).toNatClampNeg) : Met l yX11_spans (.code yX11_spans cX11_spans 7 (some .boolean) :: GW) ({ frames := 3, cells := 0, slots := 0, locals := 73 }) (va_Pc [.ref o, .ref (a 10), .ref (a 11), .int p3, .int p4, .int p5] (CP D Y Z (MW Y o a I J F G) sz)) (QG (S := Int32 × Int32 × Int32 × Int32 × (Nat → Int32) × (Nat → Int32)) (fun u => some (.int u.1)) (fun u => (0 ≤ u.2.1.toInt ∧ u.2.1.toInt ≤ 400) ∧ ((I 16).toInt ≤ u.2.1.toInt) ∧ (u.2.1.toInt ≤ (I 3).toInt) ∧ (0 ≤ u.2.2.1.toInt ∧ u.2.2.1.toInt ≤ 4000) ∧ (0 ≤ u.1.toInt ∧ u.1.toInt ≤ 1) ∧ (u.1.toInt = 0 → 1 ≤ u.2.2.1.toInt) ∧ (u.1.toInt = 1 → ((p3.toInt ≤ (u.2.2.2.2.1 (I 19).toNatClampNeg).toInt ∧ (u.2.2.2.2.1 (I 19).toNatClampNeg).toInt ≤ p4.toInt) ∧ (u.2.2.2.2.2 (I 19).toNatClampNeg).toInt ≤ p4.toInt)) ∧ TX (F 4) (F 9) u.2.2.2.2.1 u.2.2.2.2.2 (F 12) (F 13)) (fun u => CB D (MW Y o a (upd (upd (upd I 16 u.2.1) 17 u.2.2.1) 18 u.2.2.2.1) J (vf_upd (vf_upd F 10 u.2.2.2.2.1) 11 u.2.2.2.2.2) G) (va_A (MW Y o a I J F G) sz)) (va_A (MW Y o a I J F G) sz)) 0 0 (va_A (MW Y o a I J F G) sz) := by
  refine Met.ofW (cc := cX11_spans) (maxL := 7) (ret := (some .boolean)) (by decide) rfl ?_
  intro p e s m args below meth c s₁ B hml hv
  obtain ⟨rfl, hsz, hP, hKN, hD0⟩ := hv
  have hx := B.exec
  have hb := B.bytes
  have hr := B.returns
  have hts := atoms_spec (ws := .code yX11_spans cX11_spans 7 (some .boolean) :: GW) B.pre
  have hg : ∀ w ∈ GW, w.before _ s = true := fun w h => hts w (List.mem_cons_of_mem _ h)
  have hown : s.vm.findClass RX11 = some m.cls := findClass_of_methodNamed B.named
  have hlocks := B.notSynchronized
  subst hsz
  have hD := hD0.self (sz := s.heap.size)
  generalize hAe : va_A (MW Y o a I J F G) s.heap.size = A at hD ⊢
  have hA : ∀ q : Nat, s.heap.size ≤ q → A q := fun q h => by rw [← hAe]; exact Or.inr h
  clear hAe hD0 hts B
  have hl := lv_entry ([.ref o, .ref (a 10), .ref (a 11), .int p3, .int p4, .int p5]) (n := 7) (Nat.le_of_ble_eq_true rfl)
  rw [lg_entry_eq]
  generalize (lg_sl ([.ref o, .ref (a 10), .ref (a 11), .int p3, .int p4, .int p5]) ++ List.replicate (7 - (lg_sl ([.ref o, .ref (a 10), .ref (a 11), .int p3, .int p4, .int p5])).length) Slot.unset).toArray = ls at hl ⊢
  have hl : lv_has ls 7 [(0, .ref o), (1, .ref (a 10)), (2, .ref (a 11)), (3, .int p3), (4, .int p4), (5, .int p5)] := hl
  refine w_start (A0 := A) hP (fun H locs hP hS => ?_)
  refine lv_aload_n hx hb dX11_spans_0 rfl (lv_at hl 0 rfl) ?_
  refine lv_aload_n hx hb dX11_spans_1 rfl (lv_at hl 1 rfl) ?_
  refine lv_iload_n hx hb dX11_spans_2 rfl (lv_at hl 3 rfl) ?_
  refine lv_iload hx hb dX11_spans_3 (lv_at hl 4 rfl) ?_
  refine lv_iload hx hb dX11_spans_5 (lv_at hl 5 rfl) ?_
  refine cga (rn_V (As := [.ref (a 10), .int p3, .int p4, .int p5]) (rest := []) (b := o) (m_sets_beatFrom l D Y Z H.size o a I J F G  p3 p4 p5 (show (0 ≤ (I 16).toInt ∧ (I 16).toInt ≤ 400) by omega) (show (0 ≤ (I 3).toInt ∧ (I 3).toInt ≤ 400) by omega) (show ((I 16).toInt ≤ (I 3).toInt) by omega) (show (0 ≤ (I 17).toInt ∧ (I 17).toInt ≤ 4000) by omega) (show (0 ≤ (I 19).toInt ∧ (I 19).toInt ≤ 17) by omega) (show (-1 ≤ p3.toInt ∧ p3.toInt ≤ 100000) by omega) (show (-1 ≤ p4.toInt ∧ p4.toInt ≤ 100000) by omega) (show (0 ≤ p5.toInt ∧ p5.toInt ≤ 400) by omega) hk0 hr_UN) ⟨hx, hb, hml, hown, hg⟩ lk_X11_306 ⟨CP.blind, va_recv hKN.1 hP (ci := 11) (q0 := 0) rfl rfl, CP.at hP hKN hD⟩ ⟨⟨rfl, rfl⟩, ⟨Nat.le_of_ble_eq_true rfl, Nat.le_of_ble_eq_true rfl⟩, ⟨Nat.le_of_ble_eq_true rfl, Nat.le_of_ble_eq_true rfl⟩⟩ hl.1 rfl (Nat.le_of_ble_eq_true rfl) dX11_spans_7) hP hD hS hA (fun u1 H locs w2 hP hD hS => ?_)
  obtain ⟨u3, u4, u5, u6, f7⟩ := u1
  obtain ⟨hw8, hw9, hw10, hw11, hw12, hw13, hw14, hw15⟩ : (0 ≤ u4.toInt ∧ u4.toInt ≤ 400) ∧ ((I 16).toInt ≤ u4.toInt) ∧ (u4.toInt ≤ (I 3).toInt) ∧ (0 ≤ u5.toInt ∧ u5.toInt ≤ 4000) ∧ (0 ≤ u3.toInt ∧ u3.toInt ≤ 1) ∧ (u3.toInt = 0 → 1 ≤ u5.toInt) ∧ (u3.toInt = 1 → (p3.toInt ≤ (f7 (I 19).toNatClampNeg).toInt ∧ (f7 (I 19).toNatClampNeg).toInt ≤ p4.toInt ∧ u6.toInt = (f7 (I 19).toNatClampNeg).toInt)) ∧ TX (F 4) (F 9) f7 (F 11) (F 12) (F 13) := w2
  refine W.eq (g2 := F0 m 10 ls [.int u3]) rfl ?_
  have hP : va_P D vwCl (MW Y o a (upd (upd (upd I 16 u4) 17 u5) 18 u6) J (vf_upd F 10 f7) G) H := hP
  have hD : va_D A (MW Y o a (upd (upd (upd I 16 u4) 17 u5) 18 u6) J (vf_upd F 10 f7) G) := hD
  rcases (show u3.toInt = 1 ∨ u3.toInt = 0 by omega) with c16 | c16
  · obtain rfl : u3 = 1 := i_is c16 (by decide)
    have zi1 : (1 : Int32).toInt = 1 := by decide
    clear hw13
    replace hw14 := hw14 (by decide)
    refine W.eq (g2 := F0 m 10 ls [.int 1]) rfl ?_
    refine lv_if_ne (tgt := 15) hx hb dX11_spans_10 (by decide) (fun c17 => ?_) (fun c17 => ?_)
    rotate_left
    · exact absurd c17 (by decide)
    refine lv_aload_n hx hb dX11_spans_15 rfl (lv_at hl 0 rfl) ?_
    refine va_get (D := D) (ci := 11) (v := .int u6) (C := RX11) (T := TX11) (N := 49) hx hb hg inGX11 hown hKN.1 hP 0 rfl rfl 18 (by decide) (hg _ kw_1226) (fun _ h9 => h9) rfl dX11_spans_16 ?_
    refine lv_istore (lv' := [(6, .int u6), (0, .ref o), (1, .ref (a 10)), (2, .ref (a 11)), (3, .int p3), (4, .int p4), (5, .int p5)]) hx hb dX11_spans_19 hl (by decide) rfl (fun ls hl => ?_)
    refine lv_aload_n hx hb dX11_spans_21 rfl (lv_at hl 1 rfl) ?_
    refine lv_iload hx hb dX11_spans_22 (lv_at hl 0 rfl) ?_
    refine lv_iload hx hb dX11_spans_24 (lv_at hl 5 rfl) ?_
    refine cga (rn_V (As := [.int u6, .int p4]) (rest := []) (b := o) (m_number l D Y Z H.size o a (upd (upd (upd I 16 u4) 17 u5) 18 u6) J (vf_upd F 10 f7) G  u6 p4 (show (0 ≤ u4.toInt ∧ u4.toInt ≤ 400) by omega) (show (0 ≤ (I 3).toInt ∧ (I 3).toInt ≤ 400) by omega) (show (u4.toInt ≤ (I 3).toInt) by omega) (show (0 ≤ u5.toInt ∧ u5.toInt ≤ 4000) by omega) (show (-1 ≤ u6.toInt ∧ u6.toInt ≤ 100000) by omega) (show (-1 ≤ p4.toInt ∧ p4.toInt ≤ 100000) by omega)) ⟨hx, hb, hml, hown, hg⟩ lk_X11_255 ⟨CP.blind, va_recv hKN.1 hP (ci := 11) (q0 := 0) rfl rfl, CP.at hP hKN hD⟩ ⟨⟨rfl, rfl⟩, ⟨Nat.le_of_ble_eq_true rfl, Nat.le_of_ble_eq_true rfl⟩, ⟨Nat.le_of_ble_eq_true rfl, Nat.le_of_ble_eq_true rfl⟩⟩ hl.1 rfl (Nat.le_of_ble_eq_true rfl) dX11_spans_26) hP hD hS hA (fun u18 H locs w19 hP hD hS => ?_)
    obtain ⟨u20, u21, u22, u23⟩ := u18
    obtain ⟨hw24, hw25, hw26, hw27, hw28, hw29, hw30⟩ : (0 ≤ u21.toInt ∧ u21.toInt ≤ 400) ∧ (u4.toInt ≤ u21.toInt) ∧ (u21.toInt ≤ (I 3).toInt) ∧ (0 ≤ u22.toInt ∧ u22.toInt ≤ 4000) ∧ (u20.toInt = 1 → (u6.toInt ≤ u23.toInt ∧ u23.toInt ≤ p4.toInt ∧ u4.toInt + 1 ≤ u21.toInt)) ∧ (u20.toInt = 0 → 1 ≤ u22.toInt) ∧ (0 ≤ u20.toInt ∧ u20.toInt ≤ 1) := w19
    refine W.eq (g2 := F0 m 29 ls [.int u20]) rfl ?_
    have hP : va_P D vwCl (MW Y o a (upd (upd (upd I 16 u21) 17 u22) 18 u23) J (vf_upd F 10 f7) G) H := hP
    have hD : va_D A (MW Y o a (upd (upd (upd I 16 u21) 17 u22) 18 u23) J (vf_upd F 10 f7) G) := hD
    rcases (show u20.toInt = 1 ∨ u20.toInt = 0 by omega) with c31 | c31
    · obtain rfl : u20 = 1 := i_is c31 (by decide)
      replace hw28 := hw28 (by decide)
      clear hw29
      refine W.eq (g2 := F0 m 29 ls [.int 1]) rfl ?_
      refine lv_if_ne (tgt := 34) hx hb dX11_spans_29 (by decide) (fun c32 => ?_) (fun c32 => ?_)
      rotate_left
      · exact absurd c32 (by decide)
      refine lv_aload_n hx hb dX11_spans_34 rfl (lv_at hl 3 rfl) ?_
      refine lv_aload_n hx hb dX11_spans_35 rfl (lv_at hl 1 rfl) ?_
      refine va_get (D := D) (ci := 11) (v := .int (I 19)) (C := RX11) (T := TX11) (N := 49) hx hb hg inGX11 hown hKN.1 hP 0 rfl rfl 19 (by decide) (hg _ kw_1227) (fun _ h9 => h9) rfl dX11_spans_36 ?_
      refine lv_aload_n hx hb dX11_spans_39 rfl (lv_at hl 1 rfl) ?_
      refine va_get (D := D) (ci := 11) (v := .int u23) (C := RX11) (T := TX11) (N := 49) hx hb hg inGX11 hown hKN.1 hP 0 rfl rfl 18 (by decide) (hg _ kw_1226) (fun _ h9 => h9) rfl dX11_spans_40 ?_
      refine va_iast hx hb hKN.1 hP hD hS 11 0 rfl rfl (vp_in_iff.mpr ⟨by omega, by omega⟩) dX11_spans_43 (fun H locs hP hD hS => ?_)
      obtain ⟨f33, ef33, hP, hD⟩ : ∃ f33 : Nat → Int32, f33 = upd (F 11) ((I 19).toNatClampNeg) u23 ∧ va_P D vwCl (MW Y o a (upd (upd (upd I 16 u21) 17 u22) 18 u23) J (vf_upd (vf_upd F 10 f7) 11 f33) G) H ∧ va_D A (MW Y o a (upd (upd (upd I 16 u21) 17 u22) 18 u23) J (vf_upd (vf_upd F 10 f7) 11 f33) G) := ⟨_, rfl, hP, hD⟩
      have t34 : TX (F 4) (F 9) f7 f33 (F 12) (F 13) := TX_fr (t := (I 19).toNatClampNeg) hw15 hr_UN (fun _ _ => rfl) (fun _ _ => rfl) (fun k hk => by rw [ef33]; exact up_ne hk) (fun _ _ => rfl) (fun _ _ => rfl)
      have t35 : (f33 (I 19).toNatClampNeg).toInt = u23.toInt := by rw [ef33, up_eq rfl]
      refine lv_iconst (v := 1) hx hb dX11_spans_44 (by decide) ?_
      refine W.widen (k := 0) (n := 0) (Nat.le_of_ble_eq_true rfl) (Nat.le_of_ble_eq_true rfl) ?_
      exact W.zret (v := 1) hx hb hr (by decide) (fun t ht hW => ⟨⟨(1, u21, u22, u23, f7, f33), rfl, ⟨(show (0 ≤ u21.toInt ∧ u21.toInt ≤ 400) by omega), (show ((I 16).toInt ≤ u21.toInt) by omega), (show (u21.toInt ≤ (I 3).toInt) by omega), (show (0 ≤ u22.toInt ∧ u22.toInt ≤ 4000) by omega), (show (0 ≤ (1 : Int32).toInt ∧ (1 : Int32).toInt ≤ 1) by omega), (show ((1 : Int32).toInt = 0 → 1 ≤ u22.toInt) by omega), (show ((1 : Int32).toInt = 1 → ((p3.toInt ≤ (f7 (I 19).toNatClampNeg).toInt ∧ (f7 (I 19).toNatClampNeg).toInt ≤ p4.toInt) ∧ (f33 (I 19).toNatClampNeg).toInt ≤ p4.toInt)) by omega), t34⟩, CB.mk ht hP hD⟩, hS.F ht⟩) hS.2.2 dX11_spans_45
    · obtain rfl : u20 = 0 := i_is c31 (by decide)
      have zi0 : (0 : Int32).toInt = 0 := by decide
      clear hw28
      replace hw29 := hw29 (by decide)
      refine W.eq (g2 := F0 m 29 ls [.int 0]) rfl ?_
      refine lv_if_ne (tgt := 34) hx hb dX11_spans_29 (by decide) (fun c36 => ?_) (fun c36 => ?_)
      · exact absurd c36 (by decide)
      refine lv_iconst (v := 0) hx hb dX11_spans_32 (by decide) ?_
      refine W.widen (k := 0) (n := 0) (Nat.le_of_ble_eq_true rfl) (Nat.le_of_ble_eq_true rfl) ?_
      exact W.zret (v := 0) hx hb hr (by decide) (fun t ht hW => ⟨⟨(0, u21, u22, u23, f7, (F 11)), rfl, ⟨(show (0 ≤ u21.toInt ∧ u21.toInt ≤ 400) by omega), (show ((I 16).toInt ≤ u21.toInt) by omega), (show (u21.toInt ≤ (I 3).toInt) by omega), (show (0 ≤ u22.toInt ∧ u22.toInt ≤ 4000) by omega), (show (0 ≤ (0 : Int32).toInt ∧ (0 : Int32).toInt ≤ 1) by omega), (show ((0 : Int32).toInt = 0 → 1 ≤ u22.toInt) by omega), (show ((0 : Int32).toInt = 1 → ((p3.toInt ≤ (f7 (I 19).toNatClampNeg).toInt ∧ (f7 (I 19).toNatClampNeg).toInt ≤ p4.toInt) ∧ ((F 11) (I 19).toNatClampNeg).toInt ≤ p4.toInt)) by omega), hw15⟩, CB.mk ht hP hD⟩, hS.F ht⟩) hS.2.2 dX11_spans_33
  · obtain rfl : u3 = 0 := i_is c16 (by decide)
    have zi0 : (0 : Int32).toInt = 0 := by decide
    replace hw13 := hw13 (by decide)
    clear hw14
    refine W.eq (g2 := F0 m 10 ls [.int 0]) rfl ?_
    refine lv_if_ne (tgt := 15) hx hb dX11_spans_10 (by decide) (fun c37 => ?_) (fun c37 => ?_)
    · exact absurd c37 (by decide)
    refine lv_iconst (v := 0) hx hb dX11_spans_13 (by decide) ?_
    refine W.widen (k := 0) (n := 0) (Nat.le_of_ble_eq_true rfl) (Nat.le_of_ble_eq_true rfl) ?_
    exact W.zret (v := 0) hx hb hr (by decide) (fun t ht hW => ⟨⟨(0, u4, u5, u6, f7, (F 11)), rfl, ⟨(show (0 ≤ u4.toInt ∧ u4.toInt ≤ 400) by omega), (show ((I 16).toInt ≤ u4.toInt) by omega), (show (u4.toInt ≤ (I 3).toInt) by omega), (show (0 ≤ u5.toInt ∧ u5.toInt ≤ 4000) by omega), (show (0 ≤ (0 : Int32).toInt ∧ (0 : Int32).toInt ≤ 1) by omega), (show ((0 : Int32).toInt = 0 → 1 ≤ u5.toInt) by omega), (show ((0 : Int32).toInt = 1 → ((p3.toInt ≤ (f7 (I 19).toNatClampNeg).toInt ∧ (f7 (I 19).toNatClampNeg).toInt ≤ p4.toInt) ∧ ((F 11) (I 19).toNatClampNeg).toInt ≤ p4.toInt)) by omega), hw15⟩, CB.mk ht hP hD⟩, hS.F ht⟩) hS.2.2 dX11_spans_14
set_option maxHeartbeats 4000000 in
set_option maxRecDepth 100000 in
theorem m_spans_longFrom (l : Launch) (D : va_G) (Y : Nat → ClassId) (Z : Nat → Nat) (sz : Nat) (o : Nat) (a : Nat → Nat) (I : Nat → Int32) (J : Nat → Int64) (F : Nat → Nat → Int32) (G : Nat → Nat → Int64) (p3 : Int32) (p4 : Int32) (p5 : Int32) (hk_0 : (0 ≤ (I 16).toInt ∧ (I 16).toInt ≤ 400)) (hk_1 : (0 ≤ (I 3).toInt ∧ (I 3).toInt ≤ 400)) (hk_2 : ((I 16).toInt ≤ (I 3).toInt)) (hk_3 : (0 ≤ (I 17).toInt ∧ (I 17).toInt ≤ 4000)) (hk_4 : (0 ≤ (I 19).toInt ∧ (I 19).toInt ≤ 17)) (hk_5 : (-1 ≤ p3.toInt ∧ p3.toInt ≤ 100000)) (hk_6 : (-1 ≤ p4.toInt ∧ p4.toInt ≤ 100000)) (hk_7 : (0 ≤ p5.toInt ∧ p5.toInt ≤ 400)) (hk0 : TX (F 4) (F 9) (F 10) (F 11) (F 12) (F 13)) (hr_UN : UNT (F 4) (I 19).toNatClampNeg) : Met l yX11_spans (.code yX11_spans cX11_spans 7 (some .boolean) :: GW) ({ frames := 3, cells := 0, slots := 0, locals := 73 }) (va_Pc [.ref o, .ref (a 12), .ref (a 13), .int p3, .int p4, .int p5] (CP D Y Z (MW Y o a I J F G) sz)) (QG (S := Int32 × Int32 × Int32 × Int32 × (Nat → Int32) × (Nat → Int32)) (fun u => some (.int u.1)) (fun u => (0 ≤ u.2.1.toInt ∧ u.2.1.toInt ≤ 400) ∧ ((I 16).toInt ≤ u.2.1.toInt) ∧ (u.2.1.toInt ≤ (I 3).toInt) ∧ (0 ≤ u.2.2.1.toInt ∧ u.2.2.1.toInt ≤ 4000) ∧ (0 ≤ u.1.toInt ∧ u.1.toInt ≤ 1) ∧ (u.1.toInt = 0 → 1 ≤ u.2.2.1.toInt) ∧ (u.1.toInt = 1 → ((p3.toInt ≤ (u.2.2.2.2.1 (I 19).toNatClampNeg).toInt ∧ (u.2.2.2.2.1 (I 19).toNatClampNeg).toInt ≤ p4.toInt) ∧ (u.2.2.2.2.2 (I 19).toNatClampNeg).toInt ≤ p4.toInt)) ∧ TX (F 4) (F 9) (F 10) (F 11) u.2.2.2.2.1 u.2.2.2.2.2) (fun u => CB D (MW Y o a (upd (upd (upd I 16 u.2.1) 17 u.2.2.1) 18 u.2.2.2.1) J (vf_upd (vf_upd F 12 u.2.2.2.2.1) 13 u.2.2.2.2.2) G) (va_A (MW Y o a I J F G) sz)) (va_A (MW Y o a I J F G) sz)) 0 0 (va_A (MW Y o a I J F G) sz) := by
  refine Met.ofW (cc := cX11_spans) (maxL := 7) (ret := (some .boolean)) (by decide) rfl ?_
  intro p e s m args below meth c s₁ B hml hv
  obtain ⟨rfl, hsz, hP, hKN, hD0⟩ := hv
  have hx := B.exec
  have hb := B.bytes
  have hr := B.returns
  have hts := atoms_spec (ws := .code yX11_spans cX11_spans 7 (some .boolean) :: GW) B.pre
  have hg : ∀ w ∈ GW, w.before _ s = true := fun w h => hts w (List.mem_cons_of_mem _ h)
  have hown : s.vm.findClass RX11 = some m.cls := findClass_of_methodNamed B.named
  have hlocks := B.notSynchronized
  subst hsz
  have hD := hD0.self (sz := s.heap.size)
  generalize hAe : va_A (MW Y o a I J F G) s.heap.size = A at hD ⊢
  have hA : ∀ q : Nat, s.heap.size ≤ q → A q := fun q h => by rw [← hAe]; exact Or.inr h
  clear hAe hD0 hts B
  have hl := lv_entry ([.ref o, .ref (a 12), .ref (a 13), .int p3, .int p4, .int p5]) (n := 7) (Nat.le_of_ble_eq_true rfl)
  rw [lg_entry_eq]
  generalize (lg_sl ([.ref o, .ref (a 12), .ref (a 13), .int p3, .int p4, .int p5]) ++ List.replicate (7 - (lg_sl ([.ref o, .ref (a 12), .ref (a 13), .int p3, .int p4, .int p5])).length) Slot.unset).toArray = ls at hl ⊢
  have hl : lv_has ls 7 [(0, .ref o), (1, .ref (a 12)), (2, .ref (a 13)), (3, .int p3), (4, .int p4), (5, .int p5)] := hl
  refine w_start (A0 := A) hP (fun H locs hP hS => ?_)
  refine lv_aload_n hx hb dX11_spans_0 rfl (lv_at hl 0 rfl) ?_
  refine lv_aload_n hx hb dX11_spans_1 rfl (lv_at hl 1 rfl) ?_
  refine lv_iload_n hx hb dX11_spans_2 rfl (lv_at hl 3 rfl) ?_
  refine lv_iload hx hb dX11_spans_3 (lv_at hl 4 rfl) ?_
  refine lv_iload hx hb dX11_spans_5 (lv_at hl 5 rfl) ?_
  refine cga (rn_V (As := [.ref (a 12), .int p3, .int p4, .int p5]) (rest := []) (b := o) (m_sets_longFrom l D Y Z H.size o a I J F G  p3 p4 p5 (show (0 ≤ (I 16).toInt ∧ (I 16).toInt ≤ 400) by omega) (show (0 ≤ (I 3).toInt ∧ (I 3).toInt ≤ 400) by omega) (show ((I 16).toInt ≤ (I 3).toInt) by omega) (show (0 ≤ (I 17).toInt ∧ (I 17).toInt ≤ 4000) by omega) (show (0 ≤ (I 19).toInt ∧ (I 19).toInt ≤ 17) by omega) (show (-1 ≤ p3.toInt ∧ p3.toInt ≤ 100000) by omega) (show (-1 ≤ p4.toInt ∧ p4.toInt ≤ 100000) by omega) (show (0 ≤ p5.toInt ∧ p5.toInt ≤ 400) by omega) hk0 hr_UN) ⟨hx, hb, hml, hown, hg⟩ lk_X11_306 ⟨CP.blind, va_recv hKN.1 hP (ci := 11) (q0 := 0) rfl rfl, CP.at hP hKN hD⟩ ⟨⟨rfl, rfl⟩, ⟨Nat.le_of_ble_eq_true rfl, Nat.le_of_ble_eq_true rfl⟩, ⟨Nat.le_of_ble_eq_true rfl, Nat.le_of_ble_eq_true rfl⟩⟩ hl.1 rfl (Nat.le_of_ble_eq_true rfl) dX11_spans_7) hP hD hS hA (fun u1 H locs w2 hP hD hS => ?_)
  obtain ⟨u3, u4, u5, u6, f7⟩ := u1
  obtain ⟨hw8, hw9, hw10, hw11, hw12, hw13, hw14, hw15⟩ : (0 ≤ u4.toInt ∧ u4.toInt ≤ 400) ∧ ((I 16).toInt ≤ u4.toInt) ∧ (u4.toInt ≤ (I 3).toInt) ∧ (0 ≤ u5.toInt ∧ u5.toInt ≤ 4000) ∧ (0 ≤ u3.toInt ∧ u3.toInt ≤ 1) ∧ (u3.toInt = 0 → 1 ≤ u5.toInt) ∧ (u3.toInt = 1 → (p3.toInt ≤ (f7 (I 19).toNatClampNeg).toInt ∧ (f7 (I 19).toNatClampNeg).toInt ≤ p4.toInt ∧ u6.toInt = (f7 (I 19).toNatClampNeg).toInt)) ∧ TX (F 4) (F 9) (F 10) (F 11) f7 (F 13) := w2
  refine W.eq (g2 := F0 m 10 ls [.int u3]) rfl ?_
  have hP : va_P D vwCl (MW Y o a (upd (upd (upd I 16 u4) 17 u5) 18 u6) J (vf_upd F 12 f7) G) H := hP
  have hD : va_D A (MW Y o a (upd (upd (upd I 16 u4) 17 u5) 18 u6) J (vf_upd F 12 f7) G) := hD
  rcases (show u3.toInt = 1 ∨ u3.toInt = 0 by omega) with c16 | c16
  · obtain rfl : u3 = 1 := i_is c16 (by decide)
    have zi1 : (1 : Int32).toInt = 1 := by decide
    clear hw13
    replace hw14 := hw14 (by decide)
    refine W.eq (g2 := F0 m 10 ls [.int 1]) rfl ?_
    refine lv_if_ne (tgt := 15) hx hb dX11_spans_10 (by decide) (fun c17 => ?_) (fun c17 => ?_)
    rotate_left
    · exact absurd c17 (by decide)
    refine lv_aload_n hx hb dX11_spans_15 rfl (lv_at hl 0 rfl) ?_
    refine va_get (D := D) (ci := 11) (v := .int u6) (C := RX11) (T := TX11) (N := 49) hx hb hg inGX11 hown hKN.1 hP 0 rfl rfl 18 (by decide) (hg _ kw_1226) (fun _ h9 => h9) rfl dX11_spans_16 ?_
    refine lv_istore (lv' := [(6, .int u6), (0, .ref o), (1, .ref (a 12)), (2, .ref (a 13)), (3, .int p3), (4, .int p4), (5, .int p5)]) hx hb dX11_spans_19 hl (by decide) rfl (fun ls hl => ?_)
    refine lv_aload_n hx hb dX11_spans_21 rfl (lv_at hl 1 rfl) ?_
    refine lv_iload hx hb dX11_spans_22 (lv_at hl 0 rfl) ?_
    refine lv_iload hx hb dX11_spans_24 (lv_at hl 5 rfl) ?_
    refine cga (rn_V (As := [.int u6, .int p4]) (rest := []) (b := o) (m_number l D Y Z H.size o a (upd (upd (upd I 16 u4) 17 u5) 18 u6) J (vf_upd F 12 f7) G  u6 p4 (show (0 ≤ u4.toInt ∧ u4.toInt ≤ 400) by omega) (show (0 ≤ (I 3).toInt ∧ (I 3).toInt ≤ 400) by omega) (show (u4.toInt ≤ (I 3).toInt) by omega) (show (0 ≤ u5.toInt ∧ u5.toInt ≤ 4000) by omega) (show (-1 ≤ u6.toInt ∧ u6.toInt ≤ 100000) by omega) (show (-1 ≤ p4.toInt ∧ p4.toInt ≤ 100000) by omega)) ⟨hx, hb, hml, hown, hg⟩ lk_X11_255 ⟨CP.blind, va_recv hKN.1 hP (ci := 11) (q0 := 0) rfl rfl, CP.at hP hKN hD⟩ ⟨⟨rfl, rfl⟩, ⟨Nat.le_of_ble_eq_true rfl, Nat.le_of_ble_eq_true rfl⟩, ⟨Nat.le_of_ble_eq_true rfl, Nat.le_of_ble_eq_true rfl⟩⟩ hl.1 rfl (Nat.le_of_ble_eq_true rfl) dX11_spans_26) hP hD hS hA (fun u18 H locs w19 hP hD hS => ?_)
    obtain ⟨u20, u21, u22, u23⟩ := u18
    obtain ⟨hw24, hw25, hw26, hw27, hw28, hw29, hw30⟩ : (0 ≤ u21.toInt ∧ u21.toInt ≤ 400) ∧ (u4.toInt ≤ u21.toInt) ∧ (u21.toInt ≤ (I 3).toInt) ∧ (0 ≤ u22.toInt ∧ u22.toInt ≤ 4000) ∧ (u20.toInt = 1 → (u6.toInt ≤ u23.toInt ∧ u23.toInt ≤ p4.toInt ∧ u4.toInt + 1 ≤ u21.toInt)) ∧ (u20.toInt = 0 → 1 ≤ u22.toInt) ∧ (0 ≤ u20.toInt ∧ u20.toInt ≤ 1) := w19
    refine W.eq (g2 := F0 m 29 ls [.int u20]) rfl ?_
    have hP : va_P D vwCl (MW Y o a (upd (upd (upd I 16 u21) 17 u22) 18 u23) J (vf_upd F 12 f7) G) H := hP
    have hD : va_D A (MW Y o a (upd (upd (upd I 16 u21) 17 u22) 18 u23) J (vf_upd F 12 f7) G) := hD
    rcases (show u20.toInt = 1 ∨ u20.toInt = 0 by omega) with c31 | c31
    · obtain rfl : u20 = 1 := i_is c31 (by decide)
      replace hw28 := hw28 (by decide)
      clear hw29
      refine W.eq (g2 := F0 m 29 ls [.int 1]) rfl ?_
      refine lv_if_ne (tgt := 34) hx hb dX11_spans_29 (by decide) (fun c32 => ?_) (fun c32 => ?_)
      rotate_left
      · exact absurd c32 (by decide)
      refine lv_aload_n hx hb dX11_spans_34 rfl (lv_at hl 3 rfl) ?_
      refine lv_aload_n hx hb dX11_spans_35 rfl (lv_at hl 1 rfl) ?_
      refine va_get (D := D) (ci := 11) (v := .int (I 19)) (C := RX11) (T := TX11) (N := 49) hx hb hg inGX11 hown hKN.1 hP 0 rfl rfl 19 (by decide) (hg _ kw_1227) (fun _ h9 => h9) rfl dX11_spans_36 ?_
      refine lv_aload_n hx hb dX11_spans_39 rfl (lv_at hl 1 rfl) ?_
      refine va_get (D := D) (ci := 11) (v := .int u23) (C := RX11) (T := TX11) (N := 49) hx hb hg inGX11 hown hKN.1 hP 0 rfl rfl 18 (by decide) (hg _ kw_1226) (fun _ h9 => h9) rfl dX11_spans_40 ?_
      refine va_iast hx hb hKN.1 hP hD hS 13 0 rfl rfl (vp_in_iff.mpr ⟨by omega, by omega⟩) dX11_spans_43 (fun H locs hP hD hS => ?_)
      obtain ⟨f33, ef33, hP, hD⟩ : ∃ f33 : Nat → Int32, f33 = upd (F 13) ((I 19).toNatClampNeg) u23 ∧ va_P D vwCl (MW Y o a (upd (upd (upd I 16 u21) 17 u22) 18 u23) J (vf_upd (vf_upd F 12 f7) 13 f33) G) H ∧ va_D A (MW Y o a (upd (upd (upd I 16 u21) 17 u22) 18 u23) J (vf_upd (vf_upd F 12 f7) 13 f33) G) := ⟨_, rfl, hP, hD⟩
      have t34 : TX (F 4) (F 9) (F 10) (F 11) f7 f33 := TX_fr (t := (I 19).toNatClampNeg) hw15 hr_UN (fun _ _ => rfl) (fun _ _ => rfl) (fun _ _ => rfl) (fun _ _ => rfl) (fun k hk => by rw [ef33]; exact up_ne hk)
      have t35 : (f33 (I 19).toNatClampNeg).toInt = u23.toInt := by rw [ef33, up_eq rfl]
      refine lv_iconst (v := 1) hx hb dX11_spans_44 (by decide) ?_
      refine W.widen (k := 0) (n := 0) (Nat.le_of_ble_eq_true rfl) (Nat.le_of_ble_eq_true rfl) ?_
      exact W.zret (v := 1) hx hb hr (by decide) (fun t ht hW => ⟨⟨(1, u21, u22, u23, f7, f33), rfl, ⟨(show (0 ≤ u21.toInt ∧ u21.toInt ≤ 400) by omega), (show ((I 16).toInt ≤ u21.toInt) by omega), (show (u21.toInt ≤ (I 3).toInt) by omega), (show (0 ≤ u22.toInt ∧ u22.toInt ≤ 4000) by omega), (show (0 ≤ (1 : Int32).toInt ∧ (1 : Int32).toInt ≤ 1) by omega), (show ((1 : Int32).toInt = 0 → 1 ≤ u22.toInt) by omega), (show ((1 : Int32).toInt = 1 → ((p3.toInt ≤ (f7 (I 19).toNatClampNeg).toInt ∧ (f7 (I 19).toNatClampNeg).toInt ≤ p4.toInt) ∧ (f33 (I 19).toNatClampNeg).toInt ≤ p4.toInt)) by omega), t34⟩, CB.mk ht hP hD⟩, hS.F ht⟩) hS.2.2 dX11_spans_45
    · obtain rfl : u20 = 0 := i_is c31 (by decide)
      have zi0 : (0 : Int32).toInt = 0 := by decide
      clear hw28
      replace hw29 := hw29 (by decide)
      refine W.eq (g2 := F0 m 29 ls [.int 0]) rfl ?_
      refine lv_if_ne (tgt := 34) hx hb dX11_spans_29 (by decide) (fun c36 => ?_) (fun c36 => ?_)
      · exact absurd c36 (by decide)
      refine lv_iconst (v := 0) hx hb dX11_spans_32 (by decide) ?_
      refine W.widen (k := 0) (n := 0) (Nat.le_of_ble_eq_true rfl) (Nat.le_of_ble_eq_true rfl) ?_
      exact W.zret (v := 0) hx hb hr (by decide) (fun t ht hW => ⟨⟨(0, u21, u22, u23, f7, (F 13)), rfl, ⟨(show (0 ≤ u21.toInt ∧ u21.toInt ≤ 400) by omega), (show ((I 16).toInt ≤ u21.toInt) by omega), (show (u21.toInt ≤ (I 3).toInt) by omega), (show (0 ≤ u22.toInt ∧ u22.toInt ≤ 4000) by omega), (show (0 ≤ (0 : Int32).toInt ∧ (0 : Int32).toInt ≤ 1) by omega), (show ((0 : Int32).toInt = 0 → 1 ≤ u22.toInt) by omega), (show ((0 : Int32).toInt = 1 → ((p3.toInt ≤ (f7 (I 19).toNatClampNeg).toInt ∧ (f7 (I 19).toNatClampNeg).toInt ≤ p4.toInt) ∧ ((F 13) (I 19).toNatClampNeg).toInt ≤ p4.toInt)) by omega), hw15⟩, CB.mk ht hP hD⟩, hS.F ht⟩) hS.2.2 dX11_spans_33
  · obtain rfl : u3 = 0 := i_is c16 (by decide)
    have zi0 : (0 : Int32).toInt = 0 := by decide
    replace hw13 := hw13 (by decide)
    clear hw14
    refine W.eq (g2 := F0 m 10 ls [.int 0]) rfl ?_
    refine lv_if_ne (tgt := 15) hx hb dX11_spans_10 (by decide) (fun c37 => ?_) (fun c37 => ?_)
    · exact absurd c37 (by decide)
    refine lv_iconst (v := 0) hx hb dX11_spans_13 (by decide) ?_
    refine W.widen (k := 0) (n := 0) (Nat.le_of_ble_eq_true rfl) (Nat.le_of_ble_eq_true rfl) ?_
    exact W.zret (v := 0) hx hb hr (by decide) (fun t ht hW => ⟨⟨(0, u4, u5, u6, f7, (F 13)), rfl, ⟨(show (0 ≤ u4.toInt ∧ u4.toInt ≤ 400) by omega), (show ((I 16).toInt ≤ u4.toInt) by omega), (show (u4.toInt ≤ (I 3).toInt) by omega), (show (0 ≤ u5.toInt ∧ u5.toInt ≤ 4000) by omega), (show (0 ≤ (0 : Int32).toInt ∧ (0 : Int32).toInt ≤ 1) by omega), (show ((0 : Int32).toInt = 0 → 1 ≤ u5.toInt) by omega), (show ((0 : Int32).toInt = 1 → ((p3.toInt ≤ (f7 (I 19).toNatClampNeg).toInt ∧ (f7 (I 19).toNatClampNeg).toInt ≤ p4.toInt) ∧ ((F 13) (I 19).toNatClampNeg).toInt ≤ p4.toInt)) by omega), hw15⟩, CB.mk ht hP hD⟩, hS.F ht⟩) hS.2.2 dX11_spans_14
