set_option maxHeartbeats 4000000 in
set_option maxRecDepth 100000 in
theorem m_canWeigh (l : Launch) (D : va_G) (Y : Nat → ClassId) (Z : Nat → Nat) (sz : Nat) (o : Nat) (a : Nat → Nat) (I : Nat → Int32) (J : Nat → Int64) (F : Nat → Nat → Int32) (G : Nat → Nat → Int64) (p1 : Int32) (p2 : Int32) (p3 : Int32) (hk0 : TO (F 0)) (hk1 : LB (F 28)) (hk2 : TX (F 4) (F 9) (F 10) (F 11) (F 12) (F 13)) (hk3 : TC (F 4) (F 8) (F 7) (F 5)) (hk4 : WG (F 46)) : Met l yX11_canWeigh (.code yX11_canWeigh cX11_canWeigh 4 (some .boolean) :: GW) ({ frames := 9, cells := 0, slots := 0, locals := 223 }) (va_Pc [.ref o, .int p1, .int p2, .int p3] (CP D Y Z (MW Y o a I J F G) sz)) (QG (S := Int32 × Int32 × Int32 × Int32 × Int32 × Int64 × Int64 × Int32 × Int64 × Int64 × Int32 × Int64 × Int32 × (Nat → Int32) × (Nat → Int32) × (Nat → Int64) × (Nat → Int32) × (Nat → Int64) × (Nat → Int32) × (Nat → Int64) × (Nat → Int64) × (Nat → Int32)) (fun u => some (.int u.1)) (fun u => (0 ≤ u.1.toInt ∧ u.1.toInt ≤ 1) ∧ LB u.2.2.2.2.2.2.2.2.2.2.2.2.2.2.1 ∧ WG u.2.2.2.2.2.2.2.2.2.2.2.2.2.2.2.2.2.2.2.2.2) (fun u => CB D (MW Y o a (upd (upd (upd (upd (upd (upd (upd I 26 u.2.2.2.2.2.2.2.2.2.2.2.2.1) 29 u.2.2.2.2.2.2.2.1) 32 u.2.2.2.2.2.2.2.2.2.2.1) 34 u.2.1) 35 u.2.2.1) 36 u.2.2.2.1) 39 u.2.2.2.2.1) (vp_updL (vp_updL (vp_updL (vp_updL (vp_updL J 30 u.2.2.2.2.2.2.2.2.1) 31 u.2.2.2.2.2.2.2.2.2.1) 33 u.2.2.2.2.2.2.2.2.2.2.2.1) 37 u.2.2.2.2.2.1) 38 u.2.2.2.2.2.2.1) (vf_upd (vf_upd (vf_upd (vf_upd (vf_upd F 1 u.2.2.2.2.2.2.2.2.2.2.2.2.2.1) 28 u.2.2.2.2.2.2.2.2.2.2.2.2.2.2.1) 41 u.2.2.2.2.2.2.2.2.2.2.2.2.2.2.2.2.1) 43 u.2.2.2.2.2.2.2.2.2.2.2.2.2.2.2.2.2.2.1) 46 u.2.2.2.2.2.2.2.2.2.2.2.2.2.2.2.2.2.2.2.2.2) (vf_upd (vf_upd (vf_upd (vf_upd G 25 u.2.2.2.2.2.2.2.2.2.2.2.2.2.2.2.2.2.2.2.2.1) 27 u.2.2.2.2.2.2.2.2.2.2.2.2.2.2.2.2.2.2.2.1) 40 u.2.2.2.2.2.2.2.2.2.2.2.2.2.2.2.1) 42 u.2.2.2.2.2.2.2.2.2.2.2.2.2.2.2.2.2.1)) (va_A (MW Y o a I J F G) sz)) (va_A (MW Y o a I J F G) sz)) 0 0 (va_A (MW Y o a I J F G) sz) := by
  refine Met.ofW (cc := cX11_canWeigh) (maxL := 4) (ret := (some .boolean)) (by decide) rfl ?_
  intro p e s m args below meth c s₁ B hml hv
  obtain ⟨rfl, hsz, hP, hKN, hD0⟩ := hv
  have hx := B.exec
  have hb := B.bytes
  have hr := B.returns
  have hts := atoms_spec (ws := .code yX11_canWeigh cX11_canWeigh 4 (some .boolean) :: GW) B.pre
  have hg : ∀ w ∈ GW, w.before _ s = true := fun w h => hts w (List.mem_cons_of_mem _ h)
  have hown : s.vm.findClass RX11 = some m.cls := findClass_of_methodNamed B.named
  have hlocks := B.notSynchronized
  subst hsz
  have hD := hD0.self (sz := s.heap.size)
  generalize hAe : va_A (MW Y o a I J F G) s.heap.size = A at hD ⊢
  have hA : ∀ q : Nat, s.heap.size ≤ q → A q := fun q h => by rw [← hAe]; exact Or.inr h
  clear hAe hD0 hts B
  have hl := lv_entry ([.ref o, .int p1, .int p2, .int p3]) (n := 4) (Nat.le_of_ble_eq_true rfl)
  rw [lg_entry_eq]
  generalize (lg_sl ([.ref o, .int p1, .int p2, .int p3]) ++ List.replicate (4 - (lg_sl ([.ref o, .int p1, .int p2, .int p3])).length) Slot.unset).toArray = ls at hl ⊢
  have hl : lv_has ls 4 [(0, .ref o), (1, .int p1), (2, .int p2), (3, .int p3)] := hl
  refine w_start (A0 := A) hP (fun H locs hP hS => ?_)
  refine lv_aload_n hx hb dX11_canWeigh_0 rfl (lv_at hl 0 rfl) ?_
  refine lv_iconst (v := 2) hx hb dX11_canWeigh_1 (by decide) ?_
  refine lv_iload_n hx hb dX11_canWeigh_2 rfl (lv_at hl 1 rfl) ?_
  have zi2 : (2 : Int32).toInt = 2 := by decide
  refine cga (rn_V (As := [.int 2, .int p1]) (rest := []) (b := o) (m_isText2 l D Y Z H.size o a I J F G  p1 hk2) ⟨hx, hb, hml, hown, hg⟩ lk_X11_366 ⟨CP.blind, va_recv hKN.1 hP (ci := 11) (q0 := 0) rfl rfl, CP.at hP hKN hD⟩ ⟨⟨rfl, rfl⟩, ⟨Nat.le_of_ble_eq_true rfl, Nat.le_of_ble_eq_true rfl⟩, ⟨Nat.le_of_ble_eq_true rfl, Nat.le_of_ble_eq_true rfl⟩⟩ hl.1 rfl (Nat.le_of_ble_eq_true rfl) dX11_canWeigh_3) hP hD hS hA (fun u1 H locs w2 hP hD hS => ?_)
  obtain ⟨hw4, hw5⟩ : ((0 ≤ p1.toInt ∧ p1.toInt ≤ 5 ∧ p1.toInt < ((F 4) 2).toInt ∧ u1.toInt = 1) ∨ u1.toInt = 0) ∧ (0 ≤ u1.toInt ∧ u1.toInt ≤ 1) := w2
  refine W.eq (g2 := F0 m 6 ls [.int u1]) rfl ?_
  have hP : va_P D vwCl (MW Y o a I J F G) H := hP
  have hD : va_D A (MW Y o a I J F G) := hD
  rcases (show u1.toInt = 1 ∨ u1.toInt = 0 by omega) with c6 | c6
  · obtain rfl : u1 = 1 := i_is c6 (by decide)
    have zi1 : (1 : Int32).toInt = 1 := by decide
    refine W.eq (g2 := F0 m 6 ls [.int 1]) rfl ?_
    refine lv_if_eq (tgt := 40) hx hb dX11_canWeigh_6 (by decide) (fun c54 => ?_) (fun c54 => ?_)
    · exact absurd c54 (by decide)
    refine lv_aload_n hx hb dX11_canWeigh_9 rfl (lv_at hl 0 rfl) ?_
    refine lv_iconst (v := 1) hx hb dX11_canWeigh_10 (by decide) ?_
    refine lv_iload_n hx hb dX11_canWeigh_11 rfl (lv_at hl 2 rfl) ?_
    refine cga (rn_V (As := [.int 1, .int p2]) (rest := []) (b := o) (m_isText1 l D Y Z H.size o a I J F G  p2 hk2) ⟨hx, hb, hml, hown, hg⟩ lk_X11_366 ⟨CP.blind, va_recv hKN.1 hP (ci := 11) (q0 := 0) rfl rfl, CP.at hP hKN hD⟩ ⟨⟨rfl, rfl⟩, ⟨Nat.le_of_ble_eq_true rfl, Nat.le_of_ble_eq_true rfl⟩, ⟨Nat.le_of_ble_eq_true rfl, Nat.le_of_ble_eq_true rfl⟩⟩ hl.1 rfl (Nat.le_of_ble_eq_true rfl) dX11_canWeigh_12) hP hD hS hA (fun u55 H locs w56 hP hD hS => ?_)
    obtain ⟨hw58, hw59⟩ : ((0 ≤ p2.toInt ∧ p2.toInt ≤ 5 ∧ p2.toInt < ((F 4) 1).toInt ∧ u55.toInt = 1) ∨ u55.toInt = 0) ∧ (0 ≤ u55.toInt ∧ u55.toInt ≤ 1) := w56
    refine W.eq (g2 := F0 m 15 ls [.int u55]) rfl ?_
    have hP : va_P D vwCl (MW Y o a I J F G) H := hP
    have hD : va_D A (MW Y o a I J F G) := hD
    rcases (show u55.toInt = 1 ∨ u55.toInt = 0 by omega) with c60 | c60
    · obtain rfl : u55 = 1 := i_is c60 (by decide)
      refine W.eq (g2 := F0 m 15 ls [.int 1]) rfl ?_
      refine lv_if_eq (tgt := 40) hx hb dX11_canWeigh_15 (by decide) (fun c100 => ?_) (fun c100 => ?_)
      · exact absurd c100 (by decide)
      refine lv_aload_n hx hb dX11_canWeigh_18 rfl (lv_at hl 0 rfl) ?_
      refine lv_iload_n hx hb dX11_canWeigh_19 rfl (lv_at hl 3 rfl) ?_
      refine cga (rn_V (As := [.int p3]) (rest := []) (b := o) (m_isStar l D Y Z H.size o a I J F G  p3 hk0) ⟨hx, hb, hml, hown, hg⟩ lk_X11_108 ⟨CP.blind, va_recv hKN.1 hP (ci := 11) (q0 := 0) rfl rfl, CP.at hP hKN hD⟩ ⟨⟨rfl, rfl⟩, ⟨Nat.le_of_ble_eq_true rfl, Nat.le_of_ble_eq_true rfl⟩, ⟨Nat.le_of_ble_eq_true rfl, Nat.le_of_ble_eq_true rfl⟩⟩ hl.1 rfl (Nat.le_of_ble_eq_true rfl) dX11_canWeigh_20) hP hD hS hA (fun u101 H locs w102 hP hD hS => ?_)
      obtain ⟨hw104, hw105⟩ : ((0 ≤ p3.toInt ∧ p3.toInt ≤ 11 ∧ p3.toInt < ((F 0) 0).toInt ∧ u101.toInt = 1) ∨ (¬ (0 ≤ p3.toInt ∧ p3.toInt < ((F 0) 0).toInt) ∧ u101.toInt = 0)) ∧ (0 ≤ u101.toInt ∧ u101.toInt ≤ 1) := w102
      refine W.eq (g2 := F0 m 23 ls [.int u101]) rfl ?_
      have hP : va_P D vwCl (MW Y o a I J F G) H := hP
      have hD : va_D A (MW Y o a I J F G) := hD
      rcases (show u101.toInt = 1 ∨ u101.toInt = 0 by omega) with c106 | c106
      · obtain rfl : u101 = 1 := i_is c106 (by decide)
        refine W.eq (g2 := F0 m 23 ls [.int 1]) rfl ?_
        refine lv_if_eq (tgt := 40) hx hb dX11_canWeigh_23 (by decide) (fun c138 => ?_) (fun c138 => ?_)
        · exact absurd c138 (by decide)
        refine lv_aload_n hx hb dX11_canWeigh_26 rfl (lv_at hl 0 rfl) ?_
        refine lv_iload_n hx hb dX11_canWeigh_27 rfl (lv_at hl 1 rfl) ?_
        refine lv_iload_n hx hb dX11_canWeigh_28 rfl (lv_at hl 2 rfl) ?_
        refine lv_iload_n hx hb dX11_canWeigh_29 rfl (lv_at hl 3 rfl) ?_
        refine cga (rn_V (As := [.int p1, .int p2, .int p3]) (rest := []) (b := o) (m_weighs l D Y Z H.size o a I J F G  p1 p2 p3 (show (0 ≤ p1.toInt ∧ p1.toInt ≤ 5) by omega) (show (p1.toInt < ((F 4) 2).toInt) by omega) (show (0 ≤ p2.toInt ∧ p2.toInt ≤ 5) by omega) (show (p2.toInt < ((F 4) 1).toInt) by omega) (show (0 ≤ p3.toInt ∧ p3.toInt ≤ 11) by omega) hk0 hk1 hk2 hk3 hk4) ⟨hx, hb, hml, hown, hg⟩ lk_X11_543 ⟨CP.blind, va_recv hKN.1 hP (ci := 11) (q0 := 0) rfl rfl, CP.at hP hKN hD⟩ ⟨⟨rfl, rfl⟩, ⟨Nat.le_of_ble_eq_true rfl, Nat.le_of_ble_eq_true rfl⟩, ⟨Nat.le_of_ble_eq_true rfl, Nat.le_of_ble_eq_true rfl⟩⟩ hl.1 rfl (Nat.le_of_ble_eq_true rfl) dX11_canWeigh_30) hP hD hS hA (fun u139 H locs w140 hP hD hS => ?_)
        obtain ⟨u141, u142, u143, u144, u145, u146, u147, u148, u149, u150, u151, u152, u153, f154, f155, f156, f157, f158, f159, f160, f161, f162⟩ := u139
        obtain ⟨hw163, hw164, hw165⟩ : (0 ≤ u141.toInt ∧ u141.toInt ≤ 1) ∧ LB f155 ∧ WG f162 := w140
        refine W.eq (g2 := F0 m 33 ls [.int u141]) rfl ?_
        have hP : va_P D vwCl (MW Y o a (upd (upd (upd (upd (upd (upd (upd I 26 u153) 29 u148) 32 u151) 34 u142) 35 u143) 36 u144) 39 u145) (vp_updL (vp_updL (vp_updL (vp_updL (vp_updL J 30 u149) 31 u150) 33 u152) 37 u146) 38 u147) (vf_upd (vf_upd (vf_upd (vf_upd (vf_upd F 1 f154) 28 f155) 41 f157) 43 f159) 46 f162) (vf_upd (vf_upd (vf_upd (vf_upd G 25 f161) 27 f160) 40 f156) 42 f158)) H := hP
        have hD : va_D A (MW Y o a (upd (upd (upd (upd (upd (upd (upd I 26 u153) 29 u148) 32 u151) 34 u142) 35 u143) 36 u144) 39 u145) (vp_updL (vp_updL (vp_updL (vp_updL (vp_updL J 30 u149) 31 u150) 33 u152) 37 u146) 38 u147) (vf_upd (vf_upd (vf_upd (vf_upd (vf_upd F 1 f154) 28 f155) 41 f157) 43 f159) 46 f162) (vf_upd (vf_upd (vf_upd (vf_upd G 25 f161) 27 f160) 40 f156) 42 f158)) := hD
        rcases (show u141.toInt = 1 ∨ u141.toInt = 0 by omega) with c166 | c166
        · obtain rfl : u141 = 1 := i_is c166 (by decide)
          refine W.eq (g2 := F0 m 33 ls [.int 1]) rfl ?_
          refine lv_if_eq (tgt := 40) hx hb dX11_canWeigh_33 (by decide) (fun c168 => ?_) (fun c168 => ?_)
          · exact absurd c168 (by decide)
          refine lv_iconst (v := 1) hx hb dX11_canWeigh_36 (by decide) ?_
          refine lv_goto (tgt := 41) hx hb dX11_canWeigh_37 (by decide) ?_
          refine W.widen (k := 0) (n := 0) (Nat.le_of_ble_eq_true rfl) (Nat.le_of_ble_eq_true rfl) ?_
          exact W.zret (v := 1) hx hb hr (by decide) (fun t ht hW => ⟨⟨(1, u142, u143, u144, u145, u146, u147, u148, u149, u150, u151, u152, u153, f154, f155, f156, f157, f158, f159, f160, f161, f162), rfl, ⟨(show (0 ≤ (1 : Int32).toInt ∧ (1 : Int32).toInt ≤ 1) by omega), hw164, hw165⟩, CB.mk ht hP hD⟩, hS.F ht⟩) hS.2.2 dX11_canWeigh_41
        · obtain rfl : u141 = 0 := i_is c166 (by decide)
          have zi0 : (0 : Int32).toInt = 0 := by decide
          refine W.eq (g2 := F0 m 33 ls [.int 0]) rfl ?_
          refine lv_if_eq (tgt := 40) hx hb dX11_canWeigh_33 (by decide) (fun c170 => ?_) (fun c170 => ?_)
          rotate_left
          · exact absurd c170 (by decide)
          refine lv_iconst (v := 0) hx hb dX11_canWeigh_40 (by decide) ?_
          refine W.widen (k := 0) (n := 0) (Nat.le_of_ble_eq_true rfl) (Nat.le_of_ble_eq_true rfl) ?_
          exact W.zret (v := 0) hx hb hr (by decide) (fun t ht hW => ⟨⟨(0, u142, u143, u144, u145, u146, u147, u148, u149, u150, u151, u152, u153, f154, f155, f156, f157, f158, f159, f160, f161, f162), rfl, ⟨(show (0 ≤ (0 : Int32).toInt ∧ (0 : Int32).toInt ≤ 1) by omega), hw164, hw165⟩, CB.mk ht hP hD⟩, hS.F ht⟩) hS.2.2 dX11_canWeigh_41
      · obtain rfl : u101 = 0 := i_is c106 (by decide)
        have zi0 : (0 : Int32).toInt = 0 := by decide
        refine W.eq (g2 := F0 m 23 ls [.int 0]) rfl ?_
        refine lv_if_eq (tgt := 40) hx hb dX11_canWeigh_23 (by decide) (fun c172 => ?_) (fun c172 => ?_)
        rotate_left
        · exact absurd c172 (by decide)
        refine lv_iconst (v := 0) hx hb dX11_canWeigh_40 (by decide) ?_
        refine W.widen (k := 0) (n := 0) (Nat.le_of_ble_eq_true rfl) (Nat.le_of_ble_eq_true rfl) ?_
        exact W.zret (v := 0) hx hb hr (by decide) (fun t ht hW => ⟨⟨(0, (I 34), (I 35), (I 36), (I 39), (J 37), (J 38), (I 29), (J 30), (J 31), (I 32), (J 33), (I 26), (F 1), (F 28), (G 40), (F 41), (G 42), (F 43), (G 27), (G 25), (F 46)), rfl, ⟨(show (0 ≤ (0 : Int32).toInt ∧ (0 : Int32).toInt ≤ 1) by omega), hk1, hk4⟩, CB.mk ht hP hD⟩, hS.F ht⟩) hS.2.2 dX11_canWeigh_41
    · obtain rfl : u55 = 0 := i_is c60 (by decide)
      have zi0 : (0 : Int32).toInt = 0 := by decide
      refine W.eq (g2 := F0 m 15 ls [.int 0]) rfl ?_
      refine lv_if_eq (tgt := 40) hx hb dX11_canWeigh_15 (by decide) (fun c174 => ?_) (fun c174 => ?_)
      rotate_left
      · exact absurd c174 (by decide)
      refine lv_iconst (v := 0) hx hb dX11_canWeigh_40 (by decide) ?_
      refine W.widen (k := 0) (n := 0) (Nat.le_of_ble_eq_true rfl) (Nat.le_of_ble_eq_true rfl) ?_
      exact W.zret (v := 0) hx hb hr (by decide) (fun t ht hW => ⟨⟨(0, (I 34), (I 35), (I 36), (I 39), (J 37), (J 38), (I 29), (J 30), (J 31), (I 32), (J 33), (I 26), (F 1), (F 28), (G 40), (F 41), (G 42), (F 43), (G 27), (G 25), (F 46)), rfl, ⟨(show (0 ≤ (0 : Int32).toInt ∧ (0 : Int32).toInt ≤ 1) by omega), hk1, hk4⟩, CB.mk ht hP hD⟩, hS.F ht⟩) hS.2.2 dX11_canWeigh_41
  · obtain rfl : u1 = 0 := i_is c6 (by decide)
    have zi0 : (0 : Int32).toInt = 0 := by decide
    refine W.eq (g2 := F0 m 6 ls [.int 0]) rfl ?_
    refine lv_if_eq (tgt := 40) hx hb dX11_canWeigh_6 (by decide) (fun c176 => ?_) (fun c176 => ?_)
    rotate_left
    · exact absurd c176 (by decide)
    refine lv_iconst (v := 0) hx hb dX11_canWeigh_40 (by decide) ?_
    refine W.widen (k := 0) (n := 0) (Nat.le_of_ble_eq_true rfl) (Nat.le_of_ble_eq_true rfl) ?_
    exact W.zret (v := 0) hx hb hr (by decide) (fun t ht hW => ⟨⟨(0, (I 34), (I 35), (I 36), (I 39), (J 37), (J 38), (I 29), (J 30), (J 31), (I 32), (J 33), (I 26), (F 1), (F 28), (G 40), (F 41), (G 42), (F 43), (G 27), (G 25), (F 46)), rfl, ⟨(show (0 ≤ (0 : Int32).toInt ∧ (0 : Int32).toInt ≤ 1) by omega), hk1, hk4⟩, CB.mk ht hP hD⟩, hS.F ht⟩) hS.2.2 dX11_canWeigh_41
set_option maxHeartbeats 4000000 in
set_option maxRecDepth 100000 in
theorem m_weight (l : Launch) (D : va_G) (Y : Nat → ClassId) (Z : Nat → Nat) (sz : Nat) (o : Nat) (a : Nat → Nat) (I : Nat → Int32) (J : Nat → Int64) (F : Nat → Nat → Int32) (G : Nat → Nat → Int64) (p1 : Int32) (p2 : Int32) (p3 : Int32) (p4 : Int32) (hk0 : TO (F 0)) (hk1 : LB (F 28)) (hk2 : TX (F 4) (F 9) (F 10) (F 11) (F 12) (F 13)) (hk3 : TC (F 4) (F 8) (F 7) (F 5)) (hk4 : WG (F 46)) : Met l yX11_weight (.code yX11_weight cX11_weight 5 (some .int) :: GW) ({ frames := 10, cells := 0, slots := 0, locals := 246 }) (va_Pc [.ref o, .int p1, .int p2, .int p3, .int p4] (CP D Y Z (MW Y o a I J F G) sz)) (QG (S := Int32 × Int32 × Int32 × Int32 × Int32 × Int64 × Int64 × Int32 × Int64 × Int64 × Int32 × Int64 × Int32 × (Nat → Int32) × (Nat → Int32) × (Nat → Int64) × (Nat → Int32) × (Nat → Int64) × (Nat → Int32) × (Nat → Int64) × (Nat → Int64) × (Nat → Int32)) (fun u => some (.int u.1)) (fun u => LB u.2.2.2.2.2.2.2.2.2.2.2.2.2.2.1 ∧ WG u.2.2.2.2.2.2.2.2.2.2.2.2.2.2.2.2.2.2.2.2.2) (fun u => CB D (MW Y o a (upd (upd (upd (upd (upd (upd (upd I 26 u.2.2.2.2.2.2.2.2.2.2.2.2.1) 29 u.2.2.2.2.2.2.2.1) 32 u.2.2.2.2.2.2.2.2.2.2.1) 34 u.2.1) 35 u.2.2.1) 36 u.2.2.2.1) 39 u.2.2.2.2.1) (vp_updL (vp_updL (vp_updL (vp_updL (vp_updL J 30 u.2.2.2.2.2.2.2.2.1) 31 u.2.2.2.2.2.2.2.2.2.1) 33 u.2.2.2.2.2.2.2.2.2.2.2.1) 37 u.2.2.2.2.2.1) 38 u.2.2.2.2.2.2.1) (vf_upd (vf_upd (vf_upd (vf_upd (vf_upd F 1 u.2.2.2.2.2.2.2.2.2.2.2.2.2.1) 28 u.2.2.2.2.2.2.2.2.2.2.2.2.2.2.1) 41 u.2.2.2.2.2.2.2.2.2.2.2.2.2.2.2.2.1) 43 u.2.2.2.2.2.2.2.2.2.2.2.2.2.2.2.2.2.2.1) 46 u.2.2.2.2.2.2.2.2.2.2.2.2.2.2.2.2.2.2.2.2.2) (vf_upd (vf_upd (vf_upd (vf_upd G 25 u.2.2.2.2.2.2.2.2.2.2.2.2.2.2.2.2.2.2.2.2.1) 27 u.2.2.2.2.2.2.2.2.2.2.2.2.2.2.2.2.2.2.2.1) 40 u.2.2.2.2.2.2.2.2.2.2.2.2.2.2.2.1) 42 u.2.2.2.2.2.2.2.2.2.2.2.2.2.2.2.2.2.1)) (va_A (MW Y o a I J F G) sz)) (va_A (MW Y o a I J F G) sz)) 0 0 (va_A (MW Y o a I J F G) sz) := by
  refine Met.ofW (cc := cX11_weight) (maxL := 5) (ret := (some .int)) (by decide) rfl ?_
  intro p e s m args below meth c s₁ B hml hv
  obtain ⟨rfl, hsz, hP, hKN, hD0⟩ := hv
  have hx := B.exec
  have hb := B.bytes
  have hr := B.returns
  have hts := atoms_spec (ws := .code yX11_weight cX11_weight 5 (some .int) :: GW) B.pre
  have hg : ∀ w ∈ GW, w.before _ s = true := fun w h => hts w (List.mem_cons_of_mem _ h)
  have hown : s.vm.findClass RX11 = some m.cls := findClass_of_methodNamed B.named
  have hlocks := B.notSynchronized
  subst hsz
  have hD := hD0.self (sz := s.heap.size)
  generalize hAe : va_A (MW Y o a I J F G) s.heap.size = A at hD ⊢
  have hA : ∀ q : Nat, s.heap.size ≤ q → A q := fun q h => by rw [← hAe]; exact Or.inr h
  clear hAe hD0 hts B
  have hl := lv_entry ([.ref o, .int p1, .int p2, .int p3, .int p4]) (n := 5) (Nat.le_of_ble_eq_true rfl)
  rw [lg_entry_eq]
  generalize (lg_sl ([.ref o, .int p1, .int p2, .int p3, .int p4]) ++ List.replicate (5 - (lg_sl ([.ref o, .int p1, .int p2, .int p3, .int p4])).length) Slot.unset).toArray = ls at hl ⊢
  have hl : lv_has ls 5 [(0, .ref o), (1, .int p1), (2, .int p2), (3, .int p3), (4, .int p4)] := hl
  refine w_start (A0 := A) hP (fun H locs hP hS => ?_)
  refine lv_iload hx hb dX11_weight_0 (lv_at hl 4 rfl) ?_
  have j1 := rgI p4
  have j2 := Int32.toInt_toInt64 p4
  refine lv_i2l (v := p4.toInt64) hx hb dX11_weight_2 (rfl) ?_
  refine lv_lconst (v := 0) hx hb dX11_weight_3 (by decide) ?_
  refine lv_ldc2 (v := 4) hx hb hown (hg _ kw_1665) dX11_weight_4 ?_
  have zl0 : (0 : Int64).toInt = 0 := by decide
  have zl4 : (4 : Int64).toInt = 4 := by decide
  refine cg0 (rn_S (As := [.long p4.toInt64, .long 0, .long 4]) (rest := []) (m_in l D Y Z H.size   p4.toInt64 0 4 ) ⟨hx, hb, hml, hown, hg⟩ lk_X11_99 ⟨CP.blind, CP.at nilP hKN (nilD (A := fun _ => True))⟩ ⟨⟨rfl, rfl⟩, ⟨Nat.le_of_ble_eq_true rfl, Nat.le_of_ble_eq_true rfl⟩, ⟨Nat.le_of_ble_eq_true rfl, Nat.le_of_ble_eq_true rfl⟩⟩ hl.1 rfl (Nat.le_of_ble_eq_true rfl) dX11_weight_7) hP hS hA (fun u3 H locs w4 hP hS => ?_)
  obtain ⟨hw6, hw7⟩ : (((0 : Int64).toInt ≤ p4.toInt64.toInt ∧ p4.toInt64.toInt ≤ (4 : Int64).toInt ∧ u3.toInt = 1) ∨ (¬ ((0 : Int64).toInt ≤ p4.toInt64.toInt ∧ p4.toInt64.toInt ≤ (4 : Int64).toInt) ∧ u3.toInt = 0)) ∧ (0 ≤ u3.toInt ∧ u3.toInt ≤ 1) := w4
  refine W.eq (g2 := F0 m 10 ls [.int u3]) rfl ?_
  rcases (show u3.toInt = 1 ∨ u3.toInt = 0 by omega) with c8 | c8
  · obtain rfl : u3 = 1 := i_is c8 (by decide)
    have zi1 : (1 : Int32).toInt = 1 := by decide
    refine W.eq (g2 := F0 m 10 ls [.int 1]) rfl ?_
    refine lv_if_eq (tgt := 33) hx hb dX11_weight_10 (by decide) (fun c41 => ?_) (fun c41 => ?_)
    · exact absurd c41 (by decide)
    refine lv_aload_n hx hb dX11_weight_13 rfl (lv_at hl 0 rfl) ?_
    refine lv_iload_n hx hb dX11_weight_14 rfl (lv_at hl 1 rfl) ?_
    refine lv_iload_n hx hb dX11_weight_15 rfl (lv_at hl 2 rfl) ?_
    refine lv_iload_n hx hb dX11_weight_16 rfl (lv_at hl 3 rfl) ?_
    refine cga (rn_V (As := [.int p1, .int p2, .int p3]) (rest := []) (b := o) (m_canWeigh l D Y Z H.size o a I J F G  p1 p2 p3 hk0 hk1 hk2 hk3 hk4) ⟨hx, hb, hml, hown, hg⟩ lk_X11_546 ⟨CP.blind, va_recv hKN.1 hP (ci := 11) (q0 := 0) rfl rfl, CP.at hP hKN hD⟩ ⟨⟨rfl, rfl⟩, ⟨Nat.le_of_ble_eq_true rfl, Nat.le_of_ble_eq_true rfl⟩, ⟨Nat.le_of_ble_eq_true rfl, Nat.le_of_ble_eq_true rfl⟩⟩ hl.1 rfl (Nat.le_of_ble_eq_true rfl) dX11_weight_17) hP hD hS hA (fun u42 H locs w43 hP hD hS => ?_)
    obtain ⟨u44, u45, u46, u47, u48, u49, u50, u51, u52, u53, u54, u55, u56, f57, f58, f59, f60, f61, f62, f63, f64, f65⟩ := u42
    obtain ⟨hw66, hw67, hw68⟩ : (0 ≤ u44.toInt ∧ u44.toInt ≤ 1) ∧ LB f58 ∧ WG f65 := w43
    refine W.eq (g2 := F0 m 20 ls [.int u44]) rfl ?_
    have hP : va_P D vwCl (MW Y o a (upd (upd (upd (upd (upd (upd (upd I 26 u56) 29 u51) 32 u54) 34 u45) 35 u46) 36 u47) 39 u48) (vp_updL (vp_updL (vp_updL (vp_updL (vp_updL J 30 u52) 31 u53) 33 u55) 37 u49) 38 u50) (vf_upd (vf_upd (vf_upd (vf_upd (vf_upd F 1 f57) 28 f58) 41 f60) 43 f62) 46 f65) (vf_upd (vf_upd (vf_upd (vf_upd G 25 f64) 27 f63) 40 f59) 42 f61)) H := hP
    have hD : va_D A (MW Y o a (upd (upd (upd (upd (upd (upd (upd I 26 u56) 29 u51) 32 u54) 34 u45) 35 u46) 36 u47) 39 u48) (vp_updL (vp_updL (vp_updL (vp_updL (vp_updL J 30 u52) 31 u53) 33 u55) 37 u49) 38 u50) (vf_upd (vf_upd (vf_upd (vf_upd (vf_upd F 1 f57) 28 f58) 41 f60) 43 f62) 46 f65) (vf_upd (vf_upd (vf_upd (vf_upd G 25 f64) 27 f63) 40 f59) 42 f61)) := hD
    rcases (show u44.toInt = 1 ∨ u44.toInt = 0 by omega) with c69 | c69
    · obtain rfl : u44 = 1 := i_is c69 (by decide)
      refine W.eq (g2 := F0 m 20 ls [.int 1]) rfl ?_
      refine lv_if_eq (tgt := 33) hx hb dX11_weight_20 (by decide) (fun c72 => ?_) (fun c72 => ?_)
      · exact absurd c72 (by decide)
      refine lv_aload_n hx hb dX11_weight_23 rfl (lv_at hl 0 rfl) ?_
      refine va_get (D := D) (ci := 11) (v := .ref (a 46)) (C := RX11) (T := TX11) (N := 49) hx hb hg inGX11 hown hKN.1 hP 0 rfl rfl 46 (by decide) (hg _ kw_1254) (fun _ h9 => h9) rfl dX11_weight_24 ?_
      refine lv_iload hx hb dX11_weight_27 (lv_at hl 4 rfl) ?_
      refine va_iald hx hb hKN.1 hP 26 0 rfl rfl (vp_in_iff.mpr ⟨by omega, by omega⟩) dX11_weight_29 ?_
      refine lv_topi (fun v73 ev73 => ?_)
      have ev73 : v73 = f65 p4.toNatClampNeg := ev73
      have kv73 := WG_get hw68 (i := p4) (by omega) (by omega)
      rw [← ev73] at kv73
      refine lv_goto (tgt := 34) hx hb dX11_weight_30 (by decide) ?_
      refine W.widen (k := 0) (n := 0) (Nat.le_of_ble_eq_true rfl) (Nat.le_of_ble_eq_true rfl) ?_
      exact W.iret (v := v73) hx hb hr (fun t ht hW => ⟨⟨(v73, u45, u46, u47, u48, u49, u50, u51, u52, u53, u54, u55, u56, f57, f58, f59, f60, f61, f62, f63, f64, f65), rfl, ⟨hw67, hw68⟩, CB.mk ht hP hD⟩, hS.F ht⟩) hS.2.2 dX11_weight_34
    · obtain rfl : u44 = 0 := i_is c69 (by decide)
      have zi0 : (0 : Int32).toInt = 0 := by decide
      refine W.eq (g2 := F0 m 20 ls [.int 0]) rfl ?_
      refine lv_if_eq (tgt := 33) hx hb dX11_weight_20 (by decide) (fun c75 => ?_) (fun c75 => ?_)
      rotate_left
      · exact absurd c75 (by decide)
      refine lv_iconst (v := (-1)) hx hb dX11_weight_33 (by decide) ?_
      refine W.widen (k := 0) (n := 0) (Nat.le_of_ble_eq_true rfl) (Nat.le_of_ble_eq_true rfl) ?_
      have zim1 : ((-1) : Int32).toInt = -1 := by decide
      exact W.iret (v := (-1)) hx hb hr (fun t ht hW => ⟨⟨((-1), u45, u46, u47, u48, u49, u50, u51, u52, u53, u54, u55, u56, f57, f58, f59, f60, f61, f62, f63, f64, f65), rfl, ⟨hw67, hw68⟩, CB.mk ht hP hD⟩, hS.F ht⟩) hS.2.2 dX11_weight_34
  · obtain rfl : u3 = 0 := i_is c8 (by decide)
    have zi0 : (0 : Int32).toInt = 0 := by decide
    refine W.eq (g2 := F0 m 10 ls [.int 0]) rfl ?_
    refine lv_if_eq (tgt := 33) hx hb dX11_weight_10 (by decide) (fun c77 => ?_) (fun c77 => ?_)
    rotate_left
    · exact absurd c77 (by decide)
    refine lv_iconst (v := (-1)) hx hb dX11_weight_33 (by decide) ?_
    refine W.widen (k := 0) (n := 0) (Nat.le_of_ble_eq_true rfl) (Nat.le_of_ble_eq_true rfl) ?_
    have zim1 : ((-1) : Int32).toInt = -1 := by decide
    exact W.iret (v := (-1)) hx hb hr (fun t ht hW => ⟨⟨((-1), (I 34), (I 35), (I 36), (I 39), (J 37), (J 38), (I 29), (J 30), (J 31), (I 32), (J 33), (I 26), (F 1), (F 28), (G 40), (F 41), (G 42), (F 43), (G 27), (G 25), (F 46)), rfl, ⟨hk1, hk4⟩, CB.mk ht hP hD⟩, hS.F ht⟩) hS.2.2 dX11_weight_34
set_option maxHeartbeats 4000000 in
set_option maxRecDepth 100000 in
theorem m_sorted (l : Launch) (D : va_G) (Y : Nat → ClassId) (Z : Nat → Nat) (sz : Nat) (o : Nat) (a : Nat → Nat) (I : Nat → Int32) (J : Nat → Int64) (F : Nat → Nat → Int32) (G : Nat → Nat → Int64) (p1 : Int32) (p2 : Int32) (p3 : Int32) (hk0 : TO (F 0)) (hk1 : LB (F 28)) (hk2 : TX (F 4) (F 9) (F 10) (F 11) (F 12) (F 13)) (hk3 : TC (F 4) (F 8) (F 7) (F 5)) (hk4 : WG (F 46)) : Met l yX11_sorted (.code yX11_sorted cX11_sorted 4 (some .int) :: GW) ({ frames := 10, cells := 0, slots := 0, locals := 246 }) (va_Pc [.ref o, .int p1, .int p2, .int p3] (CP D Y Z (MW Y o a I J F G) sz)) (QG (S := Int32 × Int32 × Int32 × Int32 × Int32 × Int64 × Int64 × Int32 × Int64 × Int64 × Int32 × Int64 × Int32 × (Nat → Int32) × (Nat → Int32) × (Nat → Int64) × (Nat → Int32) × (Nat → Int64) × (Nat → Int32) × (Nat → Int64) × (Nat → Int64) × (Nat → Int32)) (fun u => some (.int u.1)) (fun u => LB u.2.2.2.2.2.2.2.2.2.2.2.2.2.2.1 ∧ WG u.2.2.2.2.2.2.2.2.2.2.2.2.2.2.2.2.2.2.2.2.2) (fun u => CB D (MW Y o a (upd (upd (upd (upd (upd (upd (upd I 26 u.2.2.2.2.2.2.2.2.2.2.2.2.1) 29 u.2.2.2.2.2.2.2.1) 32 u.2.2.2.2.2.2.2.2.2.2.1) 34 u.2.1) 35 u.2.2.1) 36 u.2.2.2.1) 39 u.2.2.2.2.1) (vp_updL (vp_updL (vp_updL (vp_updL (vp_updL J 30 u.2.2.2.2.2.2.2.2.1) 31 u.2.2.2.2.2.2.2.2.2.1) 33 u.2.2.2.2.2.2.2.2.2.2.2.1) 37 u.2.2.2.2.2.1) 38 u.2.2.2.2.2.2.1) (vf_upd (vf_upd (vf_upd (vf_upd (vf_upd F 1 u.2.2.2.2.2.2.2.2.2.2.2.2.2.1) 28 u.2.2.2.2.2.2.2.2.2.2.2.2.2.2.1) 41 u.2.2.2.2.2.2.2.2.2.2.2.2.2.2.2.2.1) 43 u.2.2.2.2.2.2.2.2.2.2.2.2.2.2.2.2.2.2.1) 46 u.2.2.2.2.2.2.2.2.2.2.2.2.2.2.2.2.2.2.2.2.2) (vf_upd (vf_upd (vf_upd (vf_upd G 25 u.2.2.2.2.2.2.2.2.2.2.2.2.2.2.2.2.2.2.2.2.1) 27 u.2.2.2.2.2.2.2.2.2.2.2.2.2.2.2.2.2.2.2.1) 40 u.2.2.2.2.2.2.2.2.2.2.2.2.2.2.2.1) 42 u.2.2.2.2.2.2.2.2.2.2.2.2.2.2.2.2.2.1)) (va_A (MW Y o a I J F G) sz)) (va_A (MW Y o a I J F G) sz)) 0 0 (va_A (MW Y o a I J F G) sz) := by
  refine Met.ofW (cc := cX11_sorted) (maxL := 4) (ret := (some .int)) (by decide) rfl ?_
  intro p e s m args below meth c s₁ B hml hv
  obtain ⟨rfl, hsz, hP, hKN, hD0⟩ := hv
  have hx := B.exec
  have hb := B.bytes
  have hr := B.returns
  have hts := atoms_spec (ws := .code yX11_sorted cX11_sorted 4 (some .int) :: GW) B.pre
  have hg : ∀ w ∈ GW, w.before _ s = true := fun w h => hts w (List.mem_cons_of_mem _ h)
  have hown : s.vm.findClass RX11 = some m.cls := findClass_of_methodNamed B.named
  have hlocks := B.notSynchronized
  subst hsz
  have hD := hD0.self (sz := s.heap.size)
  generalize hAe : va_A (MW Y o a I J F G) s.heap.size = A at hD ⊢
  have hA : ∀ q : Nat, s.heap.size ≤ q → A q := fun q h => by rw [← hAe]; exact Or.inr h
  clear hAe hD0 hts B
  have hl := lv_entry ([.ref o, .int p1, .int p2, .int p3]) (n := 4) (Nat.le_of_ble_eq_true rfl)
  rw [lg_entry_eq]
  generalize (lg_sl ([.ref o, .int p1, .int p2, .int p3]) ++ List.replicate (4 - (lg_sl ([.ref o, .int p1, .int p2, .int p3])).length) Slot.unset).toArray = ls at hl ⊢
  have hl : lv_has ls 4 [(0, .ref o), (1, .int p1), (2, .int p2), (3, .int p3)] := hl
  refine w_start (A0 := A) hP (fun H locs hP hS => ?_)
  refine lv_aload_n hx hb dX11_sorted_0 rfl (lv_at hl 0 rfl) ?_
  refine lv_iload_n hx hb dX11_sorted_1 rfl (lv_at hl 1 rfl) ?_
  refine lv_iload_n hx hb dX11_sorted_2 rfl (lv_at hl 2 rfl) ?_
  refine lv_iload_n hx hb dX11_sorted_3 rfl (lv_at hl 3 rfl) ?_
  refine cga (rn_V (As := [.int p1, .int p2, .int p3]) (rest := []) (b := o) (m_canWeigh l D Y Z H.size o a I J F G  p1 p2 p3 hk0 hk1 hk2 hk3 hk4) ⟨hx, hb, hml, hown, hg⟩ lk_X11_546 ⟨CP.blind, va_recv hKN.1 hP (ci := 11) (q0 := 0) rfl rfl, CP.at hP hKN hD⟩ ⟨⟨rfl, rfl⟩, ⟨Nat.le_of_ble_eq_true rfl, Nat.le_of_ble_eq_true rfl⟩, ⟨Nat.le_of_ble_eq_true rfl, Nat.le_of_ble_eq_true rfl⟩⟩ hl.1 rfl (Nat.le_of_ble_eq_true rfl) dX11_sorted_4) hP hD hS hA (fun u1 H locs w2 hP hD hS => ?_)
  obtain ⟨u3, u4, u5, u6, u7, u8, u9, u10, u11, u12, u13, u14, u15, f16, f17, f18, f19, f20, f21, f22, f23, f24⟩ := u1
  obtain ⟨hw25, hw26, hw27⟩ : (0 ≤ u3.toInt ∧ u3.toInt ≤ 1) ∧ LB f17 ∧ WG f24 := w2
  refine W.eq (g2 := F0 m 7 ls [.int u3]) rfl ?_
  have hP : va_P D vwCl (MW Y o a (upd (upd (upd (upd (upd (upd (upd I 26 u15) 29 u10) 32 u13) 34 u4) 35 u5) 36 u6) 39 u7) (vp_updL (vp_updL (vp_updL (vp_updL (vp_updL J 30 u11) 31 u12) 33 u14) 37 u8) 38 u9) (vf_upd (vf_upd (vf_upd (vf_upd (vf_upd F 1 f16) 28 f17) 41 f19) 43 f21) 46 f24) (vf_upd (vf_upd (vf_upd (vf_upd G 25 f23) 27 f22) 40 f18) 42 f20)) H := hP
  have hD : va_D A (MW Y o a (upd (upd (upd (upd (upd (upd (upd I 26 u15) 29 u10) 32 u13) 34 u4) 35 u5) 36 u6) 39 u7) (vp_updL (vp_updL (vp_updL (vp_updL (vp_updL J 30 u11) 31 u12) 33 u14) 37 u8) 38 u9) (vf_upd (vf_upd (vf_upd (vf_upd (vf_upd F 1 f16) 28 f17) 41 f19) 43 f21) 46 f24) (vf_upd (vf_upd (vf_upd (vf_upd G 25 f23) 27 f22) 40 f18) 42 f20)) := hD
  rcases (show u3.toInt = 1 ∨ u3.toInt = 0 by omega) with c28 | c28
  · obtain rfl : u3 = 1 := i_is c28 (by decide)
    have zi1 : (1 : Int32).toInt = 1 := by decide
    refine W.eq (g2 := F0 m 7 ls [.int 1]) rfl ?_
    refine lv_if_eq (tgt := 17) hx hb dX11_sorted_7 (by decide) (fun c33 => ?_) (fun c33 => ?_)
    · exact absurd c33 (by decide)
    refine lv_aload_n hx hb dX11_sorted_10 rfl (lv_at hl 0 rfl) ?_
    refine cga (rn_V (As := []) (rest := []) (b := o) (m_heaviest l D Y Z H.size o a (upd (upd (upd (upd (upd (upd (upd I 26 u15) 29 u10) 32 u13) 34 u4) 35 u5) 36 u6) 39 u7) (vp_updL (vp_updL (vp_updL (vp_updL (vp_updL J 30 u11) 31 u12) 33 u14) 37 u8) 38 u9) (vf_upd (vf_upd (vf_upd (vf_upd (vf_upd F 1 f16) 28 f17) 41 f19) 43 f21) 46 f24) (vf_upd (vf_upd (vf_upd (vf_upd G 25 f23) 27 f22) 40 f18) 42 f20)   ) ⟨hx, hb, hml, hown, hg⟩ lk_X11_549 ⟨CP.blind, va_recv hKN.1 hP (ci := 11) (q0 := 0) rfl rfl, CP.at hP hKN hD⟩ ⟨⟨rfl, rfl⟩, ⟨Nat.le_of_ble_eq_true rfl, Nat.le_of_ble_eq_true rfl⟩, ⟨Nat.le_of_ble_eq_true rfl, Nat.le_of_ble_eq_true rfl⟩⟩ hl.1 rfl (Nat.le_of_ble_eq_true rfl) dX11_sorted_11) hP hD hS hA (fun u34 H locs w35 hP hD hS => ?_)
    refine W.eq (g2 := F0 m 14 ls [.int u34]) rfl ?_
    have hP : va_P D vwCl (MW Y o a (upd (upd (upd (upd (upd (upd (upd I 26 u15) 29 u10) 32 u13) 34 u4) 35 u5) 36 u6) 39 u7) (vp_updL (vp_updL (vp_updL (vp_updL (vp_updL J 30 u11) 31 u12) 33 u14) 37 u8) 38 u9) (vf_upd (vf_upd (vf_upd (vf_upd (vf_upd F 1 f16) 28 f17) 41 f19) 43 f21) 46 f24) (vf_upd (vf_upd (vf_upd (vf_upd G 25 f23) 27 f22) 40 f18) 42 f20)) H := hP
    have hD : va_D A (MW Y o a (upd (upd (upd (upd (upd (upd (upd I 26 u15) 29 u10) 32 u13) 34 u4) 35 u5) 36 u6) 39 u7) (vp_updL (vp_updL (vp_updL (vp_updL (vp_updL J 30 u11) 31 u12) 33 u14) 37 u8) 38 u9) (vf_upd (vf_upd (vf_upd (vf_upd (vf_upd F 1 f16) 28 f17) 41 f19) 43 f21) 46 f24) (vf_upd (vf_upd (vf_upd (vf_upd G 25 f23) 27 f22) 40 f18) 42 f20)) := hD
    refine lv_goto (tgt := 18) hx hb dX11_sorted_14 (by decide) ?_
    refine W.widen (k := 0) (n := 0) (Nat.le_of_ble_eq_true rfl) (Nat.le_of_ble_eq_true rfl) ?_
    exact W.iret (v := u34) hx hb hr (fun t ht hW => ⟨⟨(u34, u4, u5, u6, u7, u8, u9, u10, u11, u12, u13, u14, u15, f16, f17, f18, f19, f20, f21, f22, f23, f24), rfl, ⟨hw26, hw27⟩, CB.mk ht hP hD⟩, hS.F ht⟩) hS.2.2 dX11_sorted_18
  · obtain rfl : u3 = 0 := i_is c28 (by decide)
    have zi0 : (0 : Int32).toInt = 0 := by decide
    refine W.eq (g2 := F0 m 7 ls [.int 0]) rfl ?_
    refine lv_if_eq (tgt := 17) hx hb dX11_sorted_7 (by decide) (fun c38 => ?_) (fun c38 => ?_)
    rotate_left
    · exact absurd c38 (by decide)
    refine lv_iconst (v := (-1)) hx hb dX11_sorted_17 (by decide) ?_
    refine W.widen (k := 0) (n := 0) (Nat.le_of_ble_eq_true rfl) (Nat.le_of_ble_eq_true rfl) ?_
    have zim1 : ((-1) : Int32).toInt = -1 := by decide
    exact W.iret (v := (-1)) hx hb hr (fun t ht hW => ⟨⟨((-1), u4, u5, u6, u7, u8, u9, u10, u11, u12, u13, u14, u15, f16, f17, f18, f19, f20, f21, f22, f23, f24), rfl, ⟨hw26, hw27⟩, CB.mk ht hP hD⟩, hS.F ht⟩) hS.2.2 dX11_sorted_18
set_option maxHeartbeats 4000000 in
set_option maxRecDepth 100000 in
theorem m_odds (l : Launch) (D : va_G) (Y : Nat → ClassId) (Z : Nat → Nat) (sz : Nat) (o : Nat) (a : Nat → Nat) (I : Nat → Int32) (J : Nat → Int64) (F : Nat → Nat → Int32) (G : Nat → Nat → Int64) (p1 : Int32) (p2 : Int32) (p3 : Int32) (p4 : Int32) (p5 : Int32) (hk0 : TO (F 0)) (hk1 : LB (F 28)) (hk2 : TX (F 4) (F 9) (F 10) (F 11) (F 12) (F 13)) (hk3 : TC (F 4) (F 8) (F 7) (F 5)) (hk4 : WG (F 46)) : Met l yX11_odds (.code yX11_odds cX11_odds 8 (some .int) :: GW) ({ frames := 10, cells := 0, slots := 0, locals := 246 }) (va_Pc [.ref o, .int p1, .int p2, .int p3, .int p4, .int p5] (CP D Y Z (MW Y o a I J F G) sz)) (QG (S := Int32 × Int32 × Int32 × Int32 × Int32 × Int64 × Int64 × Int32 × Int64 × Int64 × Int32 × Int64 × Int32 × (Nat → Int32) × (Nat → Int32) × (Nat → Int64) × (Nat → Int32) × (Nat → Int64) × (Nat → Int32) × (Nat → Int64) × (Nat → Int64) × (Nat → Int32)) (fun u => some (.int u.1)) (fun u => LB u.2.2.2.2.2.2.2.2.2.2.2.2.2.2.1 ∧ WG u.2.2.2.2.2.2.2.2.2.2.2.2.2.2.2.2.2.2.2.2.2) (fun u => CB D (MW Y o a (upd (upd (upd (upd (upd (upd (upd I 26 u.2.2.2.2.2.2.2.2.2.2.2.2.1) 29 u.2.2.2.2.2.2.2.1) 32 u.2.2.2.2.2.2.2.2.2.2.1) 34 u.2.1) 35 u.2.2.1) 36 u.2.2.2.1) 39 u.2.2.2.2.1) (vp_updL (vp_updL (vp_updL (vp_updL (vp_updL J 30 u.2.2.2.2.2.2.2.2.1) 31 u.2.2.2.2.2.2.2.2.2.1) 33 u.2.2.2.2.2.2.2.2.2.2.2.1) 37 u.2.2.2.2.2.1) 38 u.2.2.2.2.2.2.1) (vf_upd (vf_upd (vf_upd (vf_upd (vf_upd F 1 u.2.2.2.2.2.2.2.2.2.2.2.2.2.1) 28 u.2.2.2.2.2.2.2.2.2.2.2.2.2.2.1) 41 u.2.2.2.2.2.2.2.2.2.2.2.2.2.2.2.2.1) 43 u.2.2.2.2.2.2.2.2.2.2.2.2.2.2.2.2.2.2.1) 46 u.2.2.2.2.2.2.2.2.2.2.2.2.2.2.2.2.2.2.2.2.2) (vf_upd (vf_upd (vf_upd (vf_upd G 25 u.2.2.2.2.2.2.2.2.2.2.2.2.2.2.2.2.2.2.2.2.1) 27 u.2.2.2.2.2.2.2.2.2.2.2.2.2.2.2.2.2.2.2.1) 40 u.2.2.2.2.2.2.2.2.2.2.2.2.2.2.2.1) 42 u.2.2.2.2.2.2.2.2.2.2.2.2.2.2.2.2.2.1)) (va_A (MW Y o a I J F G) sz)) (va_A (MW Y o a I J F G) sz)) 0 0 (va_A (MW Y o a I J F G) sz) := by
  refine Met.ofW (cc := cX11_odds) (maxL := 8) (ret := (some .int)) (by decide) rfl ?_
  intro p e s m args below meth c s₁ B hml hv
  obtain ⟨rfl, hsz, hP, hKN, hD0⟩ := hv
  have hx := B.exec
  have hb := B.bytes
  have hr := B.returns
  have hts := atoms_spec (ws := .code yX11_odds cX11_odds 8 (some .int) :: GW) B.pre
  have hg : ∀ w ∈ GW, w.before _ s = true := fun w h => hts w (List.mem_cons_of_mem _ h)
  have hown : s.vm.findClass RX11 = some m.cls := findClass_of_methodNamed B.named
  have hlocks := B.notSynchronized
  subst hsz
  have hD := hD0.self (sz := s.heap.size)
  generalize hAe : va_A (MW Y o a I J F G) s.heap.size = A at hD ⊢
  have hA : ∀ q : Nat, s.heap.size ≤ q → A q := fun q h => by rw [← hAe]; exact Or.inr h
  clear hAe hD0 hts B
  have hl := lv_entry ([.ref o, .int p1, .int p2, .int p3, .int p4, .int p5]) (n := 8) (Nat.le_of_ble_eq_true rfl)
  rw [lg_entry_eq]
  generalize (lg_sl ([.ref o, .int p1, .int p2, .int p3, .int p4, .int p5]) ++ List.replicate (8 - (lg_sl ([.ref o, .int p1, .int p2, .int p3, .int p4, .int p5])).length) Slot.unset).toArray = ls at hl ⊢
  have hl : lv_has ls 8 [(0, .ref o), (1, .int p1), (2, .int p2), (3, .int p3), (4, .int p4), (5, .int p5)] := hl
  refine w_start (A0 := A) hP (fun H locs hP hS => ?_)
  refine lv_iload hx hb dX11_odds_0 (lv_at hl 4 rfl) ?_
  have j1 := rgI p4
  have j2 := Int32.toInt_toInt64 p4
  refine lv_i2l (v := p4.toInt64) hx hb dX11_odds_2 (rfl) ?_
  refine lv_lconst (v := 0) hx hb dX11_odds_3 (by decide) ?_
  refine lv_ldc2 (v := 4) hx hb hown (hg _ kw_1665) dX11_odds_4 ?_
  have zl0 : (0 : Int64).toInt = 0 := by decide
  have zl4 : (4 : Int64).toInt = 4 := by decide
  refine cg0 (rn_S (As := [.long p4.toInt64, .long 0, .long 4]) (rest := []) (m_in l D Y Z H.size   p4.toInt64 0 4 ) ⟨hx, hb, hml, hown, hg⟩ lk_X11_99 ⟨CP.blind, CP.at nilP hKN (nilD (A := fun _ => True))⟩ ⟨⟨rfl, rfl⟩, ⟨Nat.le_of_ble_eq_true rfl, Nat.le_of_ble_eq_true rfl⟩, ⟨Nat.le_of_ble_eq_true rfl, Nat.le_of_ble_eq_true rfl⟩⟩ hl.1 rfl (Nat.le_of_ble_eq_true rfl) dX11_odds_7) hP hS hA (fun u3 H locs w4 hP hS => ?_)
  obtain ⟨hw6, hw7⟩ : (((0 : Int64).toInt ≤ p4.toInt64.toInt ∧ p4.toInt64.toInt ≤ (4 : Int64).toInt ∧ u3.toInt = 1) ∨ (¬ ((0 : Int64).toInt ≤ p4.toInt64.toInt ∧ p4.toInt64.toInt ≤ (4 : Int64).toInt) ∧ u3.toInt = 0)) ∧ (0 ≤ u3.toInt ∧ u3.toInt ≤ 1) := w4
  refine W.eq (g2 := F0 m 10 ls [.int u3]) rfl ?_
  rcases (show u3.toInt = 1 ∨ u3.toInt = 0 by omega) with c8 | c8
  · obtain rfl : u3 = 1 := i_is c8 (by decide)
    have zi1 : (1 : Int32).toInt = 1 := by decide
    refine W.eq (g2 := F0 m 10 ls [.int 1]) rfl ?_
    refine lv_if_eq (tgt := 34) hx hb dX11_odds_10 (by decide) (fun c9 => ?_) (fun c9 => ?_)
    · exact absurd c9 (by decide)
    refine lv_iload hx hb dX11_odds_13 (lv_at hl 5 rfl) ?_
    have j10 := rgI p5
    have j11 := Int32.toInt_toInt64 p5
    refine lv_i2l (v := p5.toInt64) hx hb dX11_odds_15 (rfl) ?_
    refine lv_lconst (v := 0) hx hb dX11_odds_16 (by decide) ?_
    refine lv_lconst (v := 1) hx hb dX11_odds_17 (by decide) ?_
    have zl1 : (1 : Int64).toInt = 1 := by decide
    refine cg0 (rn_S (As := [.long p5.toInt64, .long 0, .long 1]) (rest := []) (m_in l D Y Z H.size   p5.toInt64 0 1 ) ⟨hx, hb, hml, hown, hg⟩ lk_X11_99 ⟨CP.blind, CP.at nilP hKN (nilD (A := fun _ => True))⟩ ⟨⟨rfl, rfl⟩, ⟨Nat.le_of_ble_eq_true rfl, Nat.le_of_ble_eq_true rfl⟩, ⟨Nat.le_of_ble_eq_true rfl, Nat.le_of_ble_eq_true rfl⟩⟩ hl.1 rfl (Nat.le_of_ble_eq_true rfl) dX11_odds_18) hP hS hA (fun u12 H locs w13 hP hS => ?_)
    obtain ⟨hw15, hw16⟩ : (((0 : Int64).toInt ≤ p5.toInt64.toInt ∧ p5.toInt64.toInt ≤ (1 : Int64).toInt ∧ u12.toInt = 1) ∨ (¬ ((0 : Int64).toInt ≤ p5.toInt64.toInt ∧ p5.toInt64.toInt ≤ (1 : Int64).toInt) ∧ u12.toInt = 0)) ∧ (0 ≤ u12.toInt ∧ u12.toInt ≤ 1) := w13
    refine W.eq (g2 := F0 m 21 ls [.int u12]) rfl ?_
    rcases (show u12.toInt = 1 ∨ u12.toInt = 0 by omega) with c17 | c17
    · obtain rfl : u12 = 1 := i_is c17 (by decide)
      refine W.eq (g2 := F0 m 21 ls [.int 1]) rfl ?_
      refine lv_if_eq (tgt := 34) hx hb dX11_odds_21 (by decide) (fun c18 => ?_) (fun c18 => ?_)
      · exact absurd c18 (by decide)
      refine lv_aload_n hx hb dX11_odds_24 rfl (lv_at hl 0 rfl) ?_
      refine lv_iload_n hx hb dX11_odds_25 rfl (lv_at hl 1 rfl) ?_
      refine lv_iload_n hx hb dX11_odds_26 rfl (lv_at hl 2 rfl) ?_
      refine lv_iload_n hx hb dX11_odds_27 rfl (lv_at hl 3 rfl) ?_
      refine cga (rn_V (As := [.int p1, .int p2, .int p3]) (rest := []) (b := o) (m_canWeigh l D Y Z H.size o a I J F G  p1 p2 p3 hk0 hk1 hk2 hk3 hk4) ⟨hx, hb, hml, hown, hg⟩ lk_X11_546 ⟨CP.blind, va_recv hKN.1 hP (ci := 11) (q0 := 0) rfl rfl, CP.at hP hKN hD⟩ ⟨⟨rfl, rfl⟩, ⟨Nat.le_of_ble_eq_true rfl, Nat.le_of_ble_eq_true rfl⟩, ⟨Nat.le_of_ble_eq_true rfl, Nat.le_of_ble_eq_true rfl⟩⟩ hl.1 rfl (Nat.le_of_ble_eq_true rfl) dX11_odds_28) hP hD hS hA (fun u19 H locs w20 hP hD hS => ?_)
      obtain ⟨u21, u22, u23, u24, u25, u26, u27, u28, u29, u30, u31, u32, u33, f34, f35, f36, f37, f38, f39, f40, f41, f42⟩ := u19
      obtain ⟨hw43, hw44, hw45⟩ : (0 ≤ u21.toInt ∧ u21.toInt ≤ 1) ∧ LB f35 ∧ WG f42 := w20
      refine W.eq (g2 := F0 m 31 ls [.int u21]) rfl ?_
      have hP : va_P D vwCl (MW Y o a (upd (upd (upd (upd (upd (upd (upd I 26 u33) 29 u28) 32 u31) 34 u22) 35 u23) 36 u24) 39 u25) (vp_updL (vp_updL (vp_updL (vp_updL (vp_updL J 30 u29) 31 u30) 33 u32) 37 u26) 38 u27) (vf_upd (vf_upd (vf_upd (vf_upd (vf_upd F 1 f34) 28 f35) 41 f37) 43 f39) 46 f42) (vf_upd (vf_upd (vf_upd (vf_upd G 25 f41) 27 f40) 40 f36) 42 f38)) H := hP
      have hD : va_D A (MW Y o a (upd (upd (upd (upd (upd (upd (upd I 26 u33) 29 u28) 32 u31) 34 u22) 35 u23) 36 u24) 39 u25) (vp_updL (vp_updL (vp_updL (vp_updL (vp_updL J 30 u29) 31 u30) 33 u32) 37 u26) 38 u27) (vf_upd (vf_upd (vf_upd (vf_upd (vf_upd F 1 f34) 28 f35) 41 f37) 43 f39) 46 f42) (vf_upd (vf_upd (vf_upd (vf_upd G 25 f41) 27 f40) 40 f36) 42 f38)) := hD
      rcases (show u21.toInt = 1 ∨ u21.toInt = 0 by omega) with c46 | c46
      · obtain rfl : u21 = 1 := i_is c46 (by decide)
        refine W.eq (g2 := F0 m 31 ls [.int 1]) rfl ?_
        refine lv_if_ne (tgt := 36) hx hb dX11_odds_31 (by decide) (fun c47 => ?_) (fun c47 => ?_)
        rotate_left
        · exact absurd c47 (by decide)
        refine lv_aload_n hx hb dX11_odds_36 rfl (lv_at hl 0 rfl) ?_
        refine va_get (D := D) (ci := 11) (v := .ref (a 46)) (C := RX11) (T := TX11) (N := 49) hx hb hg inGX11 hown hKN.1 hP 0 rfl rfl 46 (by decide) (hg _ kw_1254) (fun _ h9 => h9) rfl dX11_odds_37 ?_
        refine lv_iconst (v := 0) hx hb dX11_odds_40 (by decide) ?_
        refine va_iald hx hb hKN.1 hP 26 0 rfl rfl (show ¬ ((0 : Int32) < 0 ∨ 5 ≤ (0 : Int32).toNatClampNeg) by decide) dX11_odds_41 ?_
        refine lv_topi (fun v48 ev48 => ?_)
        have ev48 : v48 = f42 0 := ev48
        have kv48 : 0 ≤ (f42 0).toInt ∧ (f42 0).toInt ≤ 99999 := hw45 0 (by decide)
        rw [← ev48] at kv48
        refine lv_aload_n hx hb dX11_odds_42 rfl (lv_at hl 0 rfl) ?_
        refine va_get (D := D) (ci := 11) (v := .ref (a 46)) (C := RX11) (T := TX11) (N := 49) hx hb hg inGX11 hown hKN.1 hP 0 rfl rfl 46 (by decide) (hg _ kw_1254) (fun _ h9 => h9) rfl dX11_odds_43 ?_
        refine lv_iconst (v := 1) hx hb dX11_odds_46 (by decide) ?_
        refine va_iald hx hb hKN.1 hP 26 0 rfl rfl (show ¬ ((1 : Int32) < 0 ∨ 5 ≤ (1 : Int32).toNatClampNeg) by decide) dX11_odds_47 ?_
        refine lv_topi (fun v49 ev49 => ?_)
        have ev49 : v49 = f42 1 := ev49
        have kv49 : 0 ≤ (f42 1).toInt ∧ (f42 1).toInt ≤ 99999 := hw45 1 (by decide)
        rw [← ev49] at kv49
        refine lv_iadd hx hb dX11_odds_48 ?_
        refine lv_topi (fun v50 ev50 => ?_)
        have hv50 := i_add (Eq.refl v48.toInt) (Eq.refl v49.toInt) ev50 (by omega) (by omega)
        refine lv_aload_n hx hb dX11_odds_49 rfl (lv_at hl 0 rfl) ?_
        refine va_get (D := D) (ci := 11) (v := .ref (a 46)) (C := RX11) (T := TX11) (N := 49) hx hb hg inGX11 hown hKN.1 hP 0 rfl rfl 46 (by decide) (hg _ kw_1254) (fun _ h9 => h9) rfl dX11_odds_50 ?_
        refine lv_iconst (v := 2) hx hb dX11_odds_53 (by decide) ?_
        refine va_iald hx hb hKN.1 hP 26 0 rfl rfl (show ¬ ((2 : Int32) < 0 ∨ 5 ≤ (2 : Int32).toNatClampNeg) by decide) dX11_odds_54 ?_
        refine lv_topi (fun v51 ev51 => ?_)
        have ev51 : v51 = f42 2 := ev51
        have kv51 : 0 ≤ (f42 2).toInt ∧ (f42 2).toInt ≤ 99999 := hw45 2 (by decide)
        rw [← ev51] at kv51
        refine lv_iadd hx hb dX11_odds_55 ?_
        refine lv_topi (fun v52 ev52 => ?_)
        have hv52 := i_add (Eq.refl v50.toInt) (Eq.refl v51.toInt) ev52 (by omega) (by omega)
        refine lv_aload_n hx hb dX11_odds_56 rfl (lv_at hl 0 rfl) ?_
        refine va_get (D := D) (ci := 11) (v := .ref (a 46)) (C := RX11) (T := TX11) (N := 49) hx hb hg inGX11 hown hKN.1 hP 0 rfl rfl 46 (by decide) (hg _ kw_1254) (fun _ h9 => h9) rfl dX11_odds_57 ?_
        refine lv_iconst (v := 3) hx hb dX11_odds_60 (by decide) ?_
        refine va_iald hx hb hKN.1 hP 26 0 rfl rfl (show ¬ ((3 : Int32) < 0 ∨ 5 ≤ (3 : Int32).toNatClampNeg) by decide) dX11_odds_61 ?_
        refine lv_topi (fun v53 ev53 => ?_)
        have ev53 : v53 = f42 3 := ev53
        have kv53 : 0 ≤ (f42 3).toInt ∧ (f42 3).toInt ≤ 99999 := hw45 3 (by decide)
        rw [← ev53] at kv53
        refine lv_iadd hx hb dX11_odds_62 ?_
        refine lv_topi (fun v54 ev54 => ?_)
        have hv54 := i_add (Eq.refl v52.toInt) (Eq.refl v53.toInt) ev54 (by omega) (by omega)
        refine lv_aload_n hx hb dX11_odds_63 rfl (lv_at hl 0 rfl) ?_
        refine va_get (D := D) (ci := 11) (v := .ref (a 46)) (C := RX11) (T := TX11) (N := 49) hx hb hg inGX11 hown hKN.1 hP 0 rfl rfl 46 (by decide) (hg _ kw_1254) (fun _ h9 => h9) rfl dX11_odds_64 ?_
        refine lv_iconst (v := 4) hx hb dX11_odds_67 (by decide) ?_
        refine va_iald hx hb hKN.1 hP 26 0 rfl rfl (show ¬ ((4 : Int32) < 0 ∨ 5 ≤ (4 : Int32).toNatClampNeg) by decide) dX11_odds_68 ?_
        refine lv_topi (fun v55 ev55 => ?_)
        have ev55 : v55 = f42 4 := ev55
        have kv55 : 0 ≤ (f42 4).toInt ∧ (f42 4).toInt ≤ 99999 := hw45 4 (by decide)
        rw [← ev55] at kv55
        refine lv_iadd hx hb dX11_odds_69 ?_
        refine lv_topi (fun v56 ev56 => ?_)
        have hv56 := i_add (Eq.refl v54.toInt) (Eq.refl v55.toInt) ev56 (by omega) (by omega)
        refine lv_istore (lv' := [(6, .int v56), (0, .ref o), (1, .int p1), (2, .int p2), (3, .int p3), (4, .int p4), (5, .int p5)]) hx hb dX11_odds_70 hl (by decide) rfl (fun ls hl => ?_)
        refine lv_iload hx hb dX11_odds_72 (lv_at hl 0 rfl) ?_
        refine lv_if_ne (tgt := 79) hx hb dX11_odds_74 (by decide) (fun c57 => ?_) (fun c57 => ?_)
        · skip
          have c57 := i_ne (Eq.refl v56.toInt) (show (0 : Int32).toInt = 0 by decide) c57
          refine lv_aload_n hx hb dX11_odds_79 rfl (lv_at hl 1 rfl) ?_
          refine va_get (D := D) (ci := 11) (v := .ref (a 46)) (C := RX11) (T := TX11) (N := 49) hx hb hg inGX11 hown hKN.1 hP 0 rfl rfl 46 (by decide) (hg _ kw_1254) (fun _ h9 => h9) rfl dX11_odds_80 ?_
          refine lv_iload hx hb dX11_odds_83 (lv_at hl 5 rfl) ?_
          refine va_iald hx hb hKN.1 hP 26 0 rfl rfl (vp_in_iff.mpr ⟨by omega, by omega⟩) dX11_odds_85 ?_
          refine lv_topi (fun v58 ev58 => ?_)
          have ev58 : v58 = f42 p4.toNatClampNeg := ev58
          have kv58 := WG_get hw45 (i := p4) (by omega) (by omega)
          rw [← ev58] at kv58
          refine lv_iload hx hb dX11_odds_86 (lv_at hl 0 rfl) ?_
          refine cg0 (rn_S (As := [.int v58, .int v56]) (rest := []) (m_divisor l D Y Z H.size   v58 v56 (show (0 ≤ v58.toInt) by omega) (show (0 ≤ v56.toInt) by omega)) ⟨hx, hb, hml, hown, hg⟩ lk_X11_512 ⟨CP.blind, CP.at nilP hKN (nilD (A := fun _ => True))⟩ ⟨⟨rfl, rfl⟩, ⟨Nat.le_of_ble_eq_true rfl, Nat.le_of_ble_eq_true rfl⟩, ⟨Nat.le_of_ble_eq_true rfl, Nat.le_of_ble_eq_true rfl⟩⟩ hl.1 rfl (Nat.le_of_ble_eq_true rfl) dX11_odds_88) hP hS hA (fun u59 H locs w60 hP hS => ?_)
          obtain ⟨hw62, hw63⟩ : (0 ≤ u59.toInt) ∧ (v56.toInt ≠ 0 → 1 ≤ u59.toInt) := w60
          refine W.eq (g2 := F0 m 91 ls [.int u59]) rfl ?_
          refine lv_istore (lv' := [(7, .int u59), (6, .int v56), (0, .ref o), (1, .int p1), (2, .int p2), (3, .int p3), (4, .int p4), (5, .int p5)]) hx hb dX11_odds_91 hl (by decide) rfl (fun ls hl => ?_)
          refine lv_iload hx hb dX11_odds_93 (lv_at hl 7 rfl) ?_
          refine lv_if_ne (tgt := 108) hx hb dX11_odds_95 (by decide) (fun c66 => ?_) (fun c66 => ?_)
          · skip
            have c66 := i_ne (Eq.refl p5.toInt) (show (0 : Int32).toInt = 0 by decide) c66
            refine lv_iload hx hb dX11_odds_108 (lv_at hl 1 rfl) ?_
            refine lv_iload hx hb dX11_odds_110 (lv_at hl 0 rfl) ?_
            refine lv_idiv hx hb dX11_odds_112 (i_nz (Eq.refl u59.toInt) (by omega)) ?_
            refine lv_topi (fun v67 ev67 => ?_)
            refine W.widen (k := 0) (n := 0) (Nat.le_of_ble_eq_true rfl) (Nat.le_of_ble_eq_true rfl) ?_
            exact W.iret (v := v67) hx hb hr (fun t ht hW => ⟨⟨(v67, u22, u23, u24, u25, u26, u27, u28, u29, u30, u31, u32, u33, f34, f35, f36, f37, f38, f39, f40, f41, f42), rfl, ⟨hw44, hw45⟩, CB.mk ht hP hD⟩, hS.F ht⟩) hS.2.2 dX11_odds_113
          · skip
            have c66 := i_eq (Eq.refl p5.toInt) (show (0 : Int32).toInt = 0 by decide) c66
            refine lv_aload_n hx hb dX11_odds_98 rfl (lv_at hl 2 rfl) ?_
            refine va_get (D := D) (ci := 11) (v := .ref (a 46)) (C := RX11) (T := TX11) (N := 49) hx hb hg inGX11 hown hKN.1 hP 0 rfl rfl 46 (by decide) (hg _ kw_1254) (fun _ h9 => h9) rfl dX11_odds_99 ?_
            refine lv_iload hx hb dX11_odds_102 (lv_at hl 6 rfl) ?_
            refine va_iald hx hb hKN.1 hP 26 0 rfl rfl (vp_in_iff.mpr ⟨by omega, by omega⟩) dX11_odds_104 ?_
            refine lv_topi (fun v68 ev68 => ?_)
            have ev68 : v68 = f42 p4.toNatClampNeg := ev68
            have kv68 := WG_get hw45 (i := p4) (by omega) (by omega)
            rw [← ev68] at kv68
            refine lv_goto (tgt := 110) hx hb dX11_odds_105 (by decide) ?_
            refine lv_iload hx hb dX11_odds_110 (lv_at hl 0 rfl) ?_
            refine lv_idiv hx hb dX11_odds_112 (i_nz (Eq.refl u59.toInt) (by omega)) ?_
            refine lv_topi (fun v69 ev69 => ?_)
            refine W.widen (k := 0) (n := 0) (Nat.le_of_ble_eq_true rfl) (Nat.le_of_ble_eq_true rfl) ?_
            exact W.iret (v := v69) hx hb hr (fun t ht hW => ⟨⟨(v69, u22, u23, u24, u25, u26, u27, u28, u29, u30, u31, u32, u33, f34, f35, f36, f37, f38, f39, f40, f41, f42), rfl, ⟨hw44, hw45⟩, CB.mk ht hP hD⟩, hS.F ht⟩) hS.2.2 dX11_odds_113
        · skip
          have c57 := i_eq (Eq.refl v56.toInt) (show (0 : Int32).toInt = 0 by decide) c57
          refine lv_iconst (v := 0) hx hb dX11_odds_77 (by decide) ?_
          refine W.widen (k := 0) (n := 0) (Nat.le_of_ble_eq_true rfl) (Nat.le_of_ble_eq_true rfl) ?_
          have zi0 : (0 : Int32).toInt = 0 := by decide
          exact W.iret (v := 0) hx hb hr (fun t ht hW => ⟨⟨(0, u22, u23, u24, u25, u26, u27, u28, u29, u30, u31, u32, u33, f34, f35, f36, f37, f38, f39, f40, f41, f42), rfl, ⟨hw44, hw45⟩, CB.mk ht hP hD⟩, hS.F ht⟩) hS.2.2 dX11_odds_78
      · obtain rfl : u21 = 0 := i_is c46 (by decide)
        have zi0 : (0 : Int32).toInt = 0 := by decide
        refine W.eq (g2 := F0 m 31 ls [.int 0]) rfl ?_
        refine lv_if_ne (tgt := 36) hx hb dX11_odds_31 (by decide) (fun c70 => ?_) (fun c70 => ?_)
        · exact absurd c70 (by decide)
        refine lv_iconst (v := (-1)) hx hb dX11_odds_34 (by decide) ?_
        refine W.widen (k := 0) (n := 0) (Nat.le_of_ble_eq_true rfl) (Nat.le_of_ble_eq_true rfl) ?_
        have zim1 : ((-1) : Int32).toInt = -1 := by decide
        exact W.iret (v := (-1)) hx hb hr (fun t ht hW => ⟨⟨((-1), u22, u23, u24, u25, u26, u27, u28, u29, u30, u31, u32, u33, f34, f35, f36, f37, f38, f39, f40, f41, f42), rfl, ⟨hw44, hw45⟩, CB.mk ht hP hD⟩, hS.F ht⟩) hS.2.2 dX11_odds_35
    · obtain rfl : u12 = 0 := i_is c17 (by decide)
      have zi0 : (0 : Int32).toInt = 0 := by decide
      refine W.eq (g2 := F0 m 21 ls [.int 0]) rfl ?_
      refine lv_if_eq (tgt := 34) hx hb dX11_odds_21 (by decide) (fun c71 => ?_) (fun c71 => ?_)
      rotate_left
      · exact absurd c71 (by decide)
      refine lv_iconst (v := (-1)) hx hb dX11_odds_34 (by decide) ?_
      refine W.widen (k := 0) (n := 0) (Nat.le_of_ble_eq_true rfl) (Nat.le_of_ble_eq_true rfl) ?_
      have zim1 : ((-1) : Int32).toInt = -1 := by decide
      exact W.iret (v := (-1)) hx hb hr (fun t ht hW => ⟨⟨((-1), (I 34), (I 35), (I 36), (I 39), (J 37), (J 38), (I 29), (J 30), (J 31), (I 32), (J 33), (I 26), (F 1), (F 28), (G 40), (F 41), (G 42), (F 43), (G 27), (G 25), (F 46)), rfl, ⟨hk1, hk4⟩, CB.mk ht hP hD⟩, hS.F ht⟩) hS.2.2 dX11_odds_35
  · obtain rfl : u3 = 0 := i_is c8 (by decide)
    have zi0 : (0 : Int32).toInt = 0 := by decide
    refine W.eq (g2 := F0 m 10 ls [.int 0]) rfl ?_
    refine lv_if_eq (tgt := 34) hx hb dX11_odds_10 (by decide) (fun c72 => ?_) (fun c72 => ?_)
    rotate_left
    · exact absurd c72 (by decide)
    refine lv_iconst (v := (-1)) hx hb dX11_odds_34 (by decide) ?_
    refine W.widen (k := 0) (n := 0) (Nat.le_of_ble_eq_true rfl) (Nat.le_of_ble_eq_true rfl) ?_
    have zim1 : ((-1) : Int32).toInt = -1 := by decide
    exact W.iret (v := (-1)) hx hb hr (fun t ht hW => ⟨⟨((-1), (I 34), (I 35), (I 36), (I 39), (J 37), (J 38), (I 29), (J 30), (J 31), (I 32), (J 33), (I 26), (F 1), (F 28), (G 40), (F 41), (G 42), (F 43), (G 27), (G 25), (F 46)), rfl, ⟨hk1, hk4⟩, CB.mk ht hP hD⟩, hS.F ht⟩) hS.2.2 dX11_odds_35
set_option maxHeartbeats 4000000 in
set_option maxRecDepth 100000 in
theorem m_truly (l : Launch) (D : va_G) (Y : Nat → ClassId) (Z : Nat → Nat) (sz : Nat) (o : Nat) (a : Nat → Nat) (I : Nat → Int32) (J : Nat → Int64) (F : Nat → Nat → Int32) (G : Nat → Nat → Int64) (p1 : Int32) (p2 : Int32) (hk0 : TO (F 0)) (hk1 : LB (F 28)) (hk2 : TX (F 4) (F 9) (F 10) (F 11) (F 12) (F 13)) (hk3 : TC (F 4) (F 8) (F 7) (F 5)) (hk4 : WG (F 46)) : Met l yX11_truly (.code yX11_truly cX11_truly 9 (some .long) :: GW) ({ frames := 9, cells := 0, slots := 0, locals := 223 }) (va_Pc [.ref o, .int p1, .int p2] (CP D Y Z (MW Y o a I J F G) sz)) (QG (S := Int64 × Int32 × Int32 × Int32 × Int32 × Int64 × Int64 × Int32 × Int64 × Int64 × Int32 × Int64 × Int32 × (Nat → Int32) × (Nat → Int32) × (Nat → Int64) × (Nat → Int32) × (Nat → Int64) × (Nat → Int32) × (Nat → Int64) × (Nat → Int64) × (Nat → Int32)) (fun u => some (.long u.1)) (fun u => LB u.2.2.2.2.2.2.2.2.2.2.2.2.2.2.1 ∧ WG u.2.2.2.2.2.2.2.2.2.2.2.2.2.2.2.2.2.2.2.2.2) (fun u => CB D (MW Y o a (upd (upd (upd (upd (upd (upd (upd I 26 u.2.2.2.2.2.2.2.2.2.2.2.2.1) 29 u.2.2.2.2.2.2.2.1) 32 u.2.2.2.2.2.2.2.2.2.2.1) 34 u.2.1) 35 u.2.2.1) 36 u.2.2.2.1) 39 u.2.2.2.2.1) (vp_updL (vp_updL (vp_updL (vp_updL (vp_updL J 30 u.2.2.2.2.2.2.2.2.1) 31 u.2.2.2.2.2.2.2.2.2.1) 33 u.2.2.2.2.2.2.2.2.2.2.2.1) 37 u.2.2.2.2.2.1) 38 u.2.2.2.2.2.2.1) (vf_upd (vf_upd (vf_upd (vf_upd (vf_upd F 1 u.2.2.2.2.2.2.2.2.2.2.2.2.2.1) 28 u.2.2.2.2.2.2.2.2.2.2.2.2.2.2.1) 41 u.2.2.2.2.2.2.2.2.2.2.2.2.2.2.2.2.1) 43 u.2.2.2.2.2.2.2.2.2.2.2.2.2.2.2.2.2.2.1) 46 u.2.2.2.2.2.2.2.2.2.2.2.2.2.2.2.2.2.2.2.2.2) (vf_upd (vf_upd (vf_upd (vf_upd G 25 u.2.2.2.2.2.2.2.2.2.2.2.2.2.2.2.2.2.2.2.2.1) 27 u.2.2.2.2.2.2.2.2.2.2.2.2.2.2.2.2.2.2.2.1) 40 u.2.2.2.2.2.2.2.2.2.2.2.2.2.2.2.1) 42 u.2.2.2.2.2.2.2.2.2.2.2.2.2.2.2.2.2.1)) (va_A (MW Y o a I J F G) sz)) (va_A (MW Y o a I J F G) sz)) 0 0 (va_A (MW Y o a I J F G) sz) := by
  refine Met.ofW (cc := cX11_truly) (maxL := 9) (ret := (some .long)) (by decide) rfl ?_
  intro p e s m args below meth c s₁ B hml hv
  obtain ⟨rfl, hsz, hP, hKN, hD0⟩ := hv
  have hx := B.exec
  have hb := B.bytes
  have hr := B.returns
  have hts := atoms_spec (ws := .code yX11_truly cX11_truly 9 (some .long) :: GW) B.pre
  have hg : ∀ w ∈ GW, w.before _ s = true := fun w h => hts w (List.mem_cons_of_mem _ h)
  have hown : s.vm.findClass RX11 = some m.cls := findClass_of_methodNamed B.named
  have hlocks := B.notSynchronized
  subst hsz
  have hD := hD0.self (sz := s.heap.size)
  generalize hAe : va_A (MW Y o a I J F G) s.heap.size = A at hD ⊢
  have hA : ∀ q : Nat, s.heap.size ≤ q → A q := fun q h => by rw [← hAe]; exact Or.inr h
  clear hAe hD0 hts B
  have hl := lv_entry ([.ref o, .int p1, .int p2]) (n := 9) (Nat.le_of_ble_eq_true rfl)
  rw [lg_entry_eq]
  generalize (lg_sl ([.ref o, .int p1, .int p2]) ++ List.replicate (9 - (lg_sl ([.ref o, .int p1, .int p2])).length) Slot.unset).toArray = ls at hl ⊢
  have hl : lv_has ls 9 [(0, .ref o), (1, .int p1), (2, .int p2)] := hl
  refine w_start (A0 := A) hP (fun H locs hP hS => ?_)
  refine lv_aload_n hx hb dX11_truly_0 rfl (lv_at hl 0 rfl) ?_
  refine lv_iconst (v := 1) hx hb dX11_truly_1 (by decide) ?_
  refine lv_iload_n hx hb dX11_truly_2 rfl (lv_at hl 1 rfl) ?_
  have zi1 : (1 : Int32).toInt = 1 := by decide
  refine cga (rn_V (As := [.int 1, .int p1]) (rest := []) (b := o) (m_isText1 l D Y Z H.size o a I J F G  p1 hk2) ⟨hx, hb, hml, hown, hg⟩ lk_X11_366 ⟨CP.blind, va_recv hKN.1 hP (ci := 11) (q0 := 0) rfl rfl, CP.at hP hKN hD⟩ ⟨⟨rfl, rfl⟩, ⟨Nat.le_of_ble_eq_true rfl, Nat.le_of_ble_eq_true rfl⟩, ⟨Nat.le_of_ble_eq_true rfl, Nat.le_of_ble_eq_true rfl⟩⟩ hl.1 rfl (Nat.le_of_ble_eq_true rfl) dX11_truly_3) hP hD hS hA (fun u1 H locs w2 hP hD hS => ?_)
  obtain ⟨hw4, hw5⟩ : ((0 ≤ p1.toInt ∧ p1.toInt ≤ 5 ∧ p1.toInt < ((F 4) 1).toInt ∧ u1.toInt = 1) ∨ u1.toInt = 0) ∧ (0 ≤ u1.toInt ∧ u1.toInt ≤ 1) := w2
  refine W.eq (g2 := F0 m 6 ls [.int u1]) rfl ?_
  have hP : va_P D vwCl (MW Y o a I J F G) H := hP
  have hD : va_D A (MW Y o a I J F G) := hD
  rcases (show u1.toInt = 1 ∨ u1.toInt = 0 by omega) with c6 | c6
  · obtain rfl : u1 = 1 := i_is c6 (by decide)
    refine W.eq (g2 := F0 m 6 ls [.int 1]) rfl ?_
    refine lv_if_eq (tgt := 18) hx hb dX11_truly_6 (by decide) (fun c7 => ?_) (fun c7 => ?_)
    · exact absurd c7 (by decide)
    refine lv_aload_n hx hb dX11_truly_9 rfl (lv_at hl 0 rfl) ?_
    refine lv_iconst (v := 2) hx hb dX11_truly_10 (by decide) ?_
    refine lv_iload_n hx hb dX11_truly_11 rfl (lv_at hl 2 rfl) ?_
    have zi2 : (2 : Int32).toInt = 2 := by decide
    refine cga (rn_V (As := [.int 2, .int p2]) (rest := []) (b := o) (m_isText2 l D Y Z H.size o a I J F G  p2 hk2) ⟨hx, hb, hml, hown, hg⟩ lk_X11_366 ⟨CP.blind, va_recv hKN.1 hP (ci := 11) (q0 := 0) rfl rfl, CP.at hP hKN hD⟩ ⟨⟨rfl, rfl⟩, ⟨Nat.le_of_ble_eq_true rfl, Nat.le_of_ble_eq_true rfl⟩, ⟨Nat.le_of_ble_eq_true rfl, Nat.le_of_ble_eq_true rfl⟩⟩ hl.1 rfl (Nat.le_of_ble_eq_true rfl) dX11_truly_12) hP hD hS hA (fun u8 H locs w9 hP hD hS => ?_)
    obtain ⟨hw11, hw12⟩ : ((0 ≤ p2.toInt ∧ p2.toInt ≤ 5 ∧ p2.toInt < ((F 4) 2).toInt ∧ u8.toInt = 1) ∨ u8.toInt = 0) ∧ (0 ≤ u8.toInt ∧ u8.toInt ≤ 1) := w9
    refine W.eq (g2 := F0 m 15 ls [.int u8]) rfl ?_
    have hP : va_P D vwCl (MW Y o a I J F G) H := hP
    have hD : va_D A (MW Y o a I J F G) := hD
    rcases (show u8.toInt = 1 ∨ u8.toInt = 0 by omega) with c13 | c13
    · obtain rfl : u8 = 1 := i_is c13 (by decide)
      refine W.eq (g2 := F0 m 15 ls [.int 1]) rfl ?_
      refine lv_if_ne (tgt := 22) hx hb dX11_truly_15 (by decide) (fun c14 => ?_) (fun c14 => ?_)
      rotate_left
      · exact absurd c14 (by decide)
      refine lv_aload_n hx hb dX11_truly_22 rfl (lv_at hl 0 rfl) ?_
      refine lv_iload_n hx hb dX11_truly_23 rfl (lv_at hl 1 rfl) ?_
      refine cga (rn_V (As := [.int p1]) (rest := []) (b := o) (m_caughtBy l D Y Z H.size o a I J F G  p1 (show (0 ≤ p1.toInt ∧ p1.toInt ≤ 5) by omega) (show (p1.toInt < ((F 4) 1).toInt) by omega) hk0 hk1 hk2) ⟨hx, hb, hml, hown, hg⟩ lk_X11_509 ⟨CP.blind, va_recv hKN.1 hP (ci := 11) (q0 := 0) rfl rfl, CP.at hP hKN hD⟩ ⟨⟨rfl, rfl⟩, ⟨Nat.le_of_ble_eq_true rfl, Nat.le_of_ble_eq_true rfl⟩, ⟨Nat.le_of_ble_eq_true rfl, Nat.le_of_ble_eq_true rfl⟩⟩ hl.1 rfl (Nat.le_of_ble_eq_true rfl) dX11_truly_24) hP hD hS hA (fun u15 H locs w16 hP hD hS => ?_)
      obtain ⟨u17, u18, u19, u20, u21, u22, u23, u24, u25, u26, f27, f28, f29, f30, f31⟩ := u15
      obtain ⟨hw32, hw33⟩ : (0 ≤ u17.toInt ∧ u17.toInt ≤ 40) ∧ LB f27 := w16
      refine W.eq (g2 := F0 m 27 ls [.int u17]) rfl ?_
      have hP : va_P D vwCl (MW Y o a (upd (upd (upd (upd (upd I 29 u24) 34 u18) 35 u19) 36 u20) 39 u21) (vp_updL (vp_updL (vp_updL (vp_updL J 30 u25) 31 u26) 37 u22) 38 u23) (vf_upd (vf_upd (vf_upd F 28 f27) 41 f29) 43 f31) (vf_upd (vf_upd G 40 f28) 42 f30)) H := hP
      have hD : va_D A (MW Y o a (upd (upd (upd (upd (upd I 29 u24) 34 u18) 35 u19) 36 u20) 39 u21) (vp_updL (vp_updL (vp_updL (vp_updL J 30 u25) 31 u26) 37 u22) 38 u23) (vf_upd (vf_upd (vf_upd F 28 f27) 41 f29) 43 f31) (vf_upd (vf_upd G 40 f28) 42 f30)) := hD
      refine lv_istore_n (lv' := [(3, .int u17), (0, .ref o), (1, .int p1), (2, .int p2)]) hx hb dX11_truly_27 rfl hl (by decide) rfl (fun ls hl => ?_)
      refine lv_iload_n hx hb dX11_truly_28 rfl (lv_at hl 0 rfl) ?_
      refine lv_if_ne (tgt := 36) hx hb dX11_truly_29 (by decide) (fun c34 => ?_) (fun c34 => ?_)
      · skip
        have c34 := i_ne (Eq.refl u17.toInt) (show (0 : Int32).toInt = 0 by decide) c34
        refine lv_lconst (v := 0) hx hb dX11_truly_36 (by decide) ?_
        refine lv_lstore (lv' := [(4, .long 0), (3, .int u17), (0, .ref o), (1, .int p1), (2, .int p2)]) hx hb dX11_truly_37 hl (by decide) rfl (fun ls hl => ?_)
        refine lv_ldc2 (v := 1000000) hx hb hown (hg _ kw_1838) dX11_truly_39 ?_
        refine lv_aload_n hx hb dX11_truly_42 rfl (lv_at hl 2 rfl) ?_
        refine cga (rn_V (As := []) (rest := [.long 1000000]) (b := o) (m_putIn l D Y Z H.size o a (upd (upd (upd (upd (upd I 29 u24) 34 u18) 35 u19) 36 u20) 39 u21) (vp_updL (vp_updL (vp_updL (vp_updL J 30 u25) 31 u26) 37 u22) 38 u23) (vf_upd (vf_upd (vf_upd F 28 f27) 41 f29) 43 f31) (vf_upd (vf_upd G 40 f28) 42 f30)   hk0) ⟨hx, hb, hml, hown, hg⟩ lk_X11_506 ⟨CP.blind, va_recv hKN.1 hP (ci := 11) (q0 := 0) rfl rfl, CP.at hP hKN hD⟩ ⟨⟨rfl, rfl⟩, ⟨Nat.le_of_ble_eq_true rfl, Nat.le_of_ble_eq_true rfl⟩, ⟨Nat.le_of_ble_eq_true rfl, Nat.le_of_ble_eq_true rfl⟩⟩ hl.1 rfl (Nat.le_of_ble_eq_true rfl) dX11_truly_43) hP hD hS hA (fun u35 H locs w36 hP hD hS => ?_)
        have hw38 : (0 ≤ u35.toInt ∧ u35.toInt ≤ 40) := w36
        clear w36
        refine W.eq (g2 := F0 m 46 ls [.int u35, .long 1000000]) rfl ?_
        have hP : va_P D vwCl (MW Y o a (upd (upd (upd (upd (upd I 29 u24) 34 u18) 35 u19) 36 u20) 39 u21) (vp_updL (vp_updL (vp_updL (vp_updL J 30 u25) 31 u26) 37 u22) 38 u23) (vf_upd (vf_upd (vf_upd F 28 f27) 41 f29) 43 f31) (vf_upd (vf_upd G 40 f28) 42 f30)) H := hP
        have hD : va_D A (MW Y o a (upd (upd (upd (upd (upd I 29 u24) 34 u18) 35 u19) 36 u20) 39 u21) (vp_updL (vp_updL (vp_updL (vp_updL J 30 u25) 31 u26) 37 u22) 38 u23) (vf_upd (vf_upd (vf_upd F 28 f27) 41 f29) 43 f31) (vf_upd (vf_upd G 40 f28) 42 f30)) := hD
        have j39 := Int32.toInt_toInt64 u35
        refine lv_i2l (v := u35.toInt64) hx hb dX11_truly_46 (rfl) ?_
        refine lv_lmul hx hb dX11_truly_47 ?_
        refine lv_topl (fun v40 ev40 => ?_)
        have hv40 := l_mul (show (1000000 : Int64).toInt = 1000000 by decide) (Int32.toInt_toInt64 u35) ev40 (by omega) (by omega)
        refine lv_lstore (lv' := [(6, .long v40), (4, .long 0), (3, .int u17), (0, .ref o), (1, .int p1), (2, .int p2)]) hx hb dX11_truly_48 hl (by decide) rfl (fun ls hl => ?_)
        refine lv_iconst (v := 0) hx hb dX11_truly_50 (by decide) ?_
        refine lv_istore (lv' := [(8, .int 0), (6, .long v40), (4, .long 0), (3, .int u17), (0, .ref o), (1, .int p1), (2, .int p2)]) hx hb dX11_truly_51 hl (by decide) rfl (fun ls hl => ?_)
        have zi0 : (0 : Int32).toInt = 0 := by decide
        have zl0 : (0 : Int64).toInt = 0 := by decide
        refine w_loop (σ := Int32 × Int64 × Int32 × Int32 × Int64 × Int64 × Int32 × Int64 × Int32 × Int32 × Int32 × Int64 × Int64 × Int32 × (Nat → Int32) × (Nat → Int64) × (Nat → Int64) × (Nat → Int32) × (Nat → Int64) × (Nat → Int32) × (Nat → Int64) × (Nat → Int32) × (Nat → Int32)) (fun xx H locs ls => match xx with | (g362, g363, g364, g365, g366, g367, g368, g369, g370, g371, g372, g373, g374, g375, f376, f377, f378, f379, f380, f381, f382, f383, f384) => va_P D vwCl (MW Y o a (upd (upd (upd (upd (upd (upd (upd I 26 g364) 29 g365) 32 g368) 34 g370) 35 g371) 36 g372) 39 g375) (vp_updL (vp_updL (vp_updL (vp_updL (vp_updL J 30 g366) 31 g367) 33 g369) 37 g373) 38 g374) (vf_upd (vf_upd (vf_upd (vf_upd (vf_upd F 1 f376) 28 f379) 41 f381) 43 f383) 46 f384) (vf_upd (vf_upd (vf_upd (vf_upd G 25 f377) 27 f378) 40 f380) 42 f382)) H ∧ va_D A (MW Y o a (upd (upd (upd (upd (upd (upd (upd I 26 g364) 29 g365) 32 g368) 34 g370) 35 g371) 36 g372) 39 g375) (vp_updL (vp_updL (vp_updL (vp_updL (vp_updL J 30 g366) 31 g367) 33 g369) 37 g373) 38 g374) (vf_upd (vf_upd (vf_upd (vf_upd (vf_upd F 1 f376) 28 f379) 41 f381) 43 f383) 46 f384) (vf_upd (vf_upd (vf_upd (vf_upd G 25 f377) 27 f378) 40 f380) 42 f382)) ∧ va_S A s.heap H locs ∧ lv_has ls 9 [(8, .int g362), (6, .long v40), (4, .long g363), (3, .int u17), (0, .ref o), (1, .int p1), (2, .int p2)] ∧ (0 ≤ g362.toInt ∧ g362.toInt ≤ 12) ∧ WG f384 ∧ LB f379) (fun xx => match xx with | (g362, g363, g364, g365, g366, g367, g368, g369, g370, g371, g372, g373, g374, g375, f376, f377, f378, f379, f380, f381, f382, f383, f384) => (12 - g362.toInt).toNat) (0, 0, (I 26), u24, u25, u26, (I 32), (J 33), u18, u19, u20, u22, u23, u21, (F 1), (G 25), (G 27), f27, f28, f29, f30, f31, (F 46)) ⟨hP, hD, hS, lv_sub hl [0, 1, 2, 3, 4, 5, 6] rfl, by omega, hk4, hw33⟩ (fun xx H locs ls hI ih => ?_)
        obtain ⟨g362, g363, g364, g365, g366, g367, g368, g369, g370, g371, g372, g373, g374, g375, f376, f377, f378, f379, f380, f381, f382, f383, f384⟩ := xx
        obtain ⟨hP, hD, hS, hl, hq708, hp709, hp710⟩ := hI
        have ih711 := ih
        refine lv_iload hx hb dX11_truly_53 (lv_at hl 0 rfl) ?_
        refine lv_aload_n hx hb dX11_truly_55 rfl (lv_at hl 4 rfl) ?_
        refine va_get (D := D) (ci := 11) (v := .ref (a 0)) (C := RX11) (T := TX11) (N := 49) hx hb hg inGX11 hown hKN.1 hP 0 rfl rfl 0 (by decide) (hg _ kw_1208) (fun _ h9 => h9) rfl dX11_truly_56 ?_
        refine lv_iconst (v := 0) hx hb dX11_truly_59 (by decide) ?_
        refine va_iald hx hb hKN.1 hP 1 0 rfl rfl (show ¬ ((0 : Int32) < 0 ∨ 7533 ≤ (0 : Int32).toNatClampNeg) by decide) dX11_truly_60 ?_
        refine lv_topi (fun v712 ev712 => ?_)
        have ev712 : v712 = (F 0) 0 := ev712
        have kv712 := TO_0 hk0
        rw [← ev712] at kv712
        have qv712 := congrArg Int32.toInt ev712
        refine lv_icmp_ge (tgt := 129) hx hb dX11_truly_61 (by decide) (fun c874 => ?_) (fun c874 => ?_)
        · skip
          have c874 := i_le (Eq.refl v712.toInt) (Eq.refl g362.toInt) c874
          refine lv_lload hx hb dX11_truly_129 (lv_at hl 2 rfl) ?_
          refine W.widen (k := 0) (n := 0) (Nat.le_of_ble_eq_true rfl) (Nat.le_of_ble_eq_true rfl) ?_
          exact W.lret (v := g363) hx hb hr (fun t ht hW => ⟨⟨(g363, g370, g371, g372, g375, g373, g374, g365, g366, g367, g368, g369, g364, f376, f379, f380, f381, f382, f383, f378, f377, f384), rfl, ⟨hp710, hp709⟩, CB.mk ht hP hD⟩, hS.F ht⟩) hS.2.2 dX11_truly_131
        · skip
          have c874 := i_nle (Eq.refl v712.toInt) (Eq.refl g362.toInt) c874
          refine lv_aload_n hx hb dX11_truly_64 rfl (lv_at hl 4 rfl) ?_
          refine lv_iload_n hx hb dX11_truly_65 rfl (lv_at hl 5 rfl) ?_
          refine lv_iload hx hb dX11_truly_66 (lv_at hl 0 rfl) ?_
          refine lv_iconst (v := 0) hx hb dX11_truly_68 (by decide) ?_
          have zi0 : (0 : Int32).toInt = 0 := by decide
          refine cga (rn_V (As := [.int p1, .int g362, .int 0]) (rest := []) (b := o) (m_finds l D Y Z H.size o a (upd (upd (upd (upd (upd (upd (upd I 26 g364) 29 g365) 32 g368) 34 g370) 35 g371) 36 g372) 39 g375) (vp_updL (vp_updL (vp_updL (vp_updL (vp_updL J 30 g366) 31 g367) 33 g369) 37 g373) 38 g374) (vf_upd (vf_upd (vf_upd (vf_upd (vf_upd F 1 f376) 28 f379) 41 f381) 43 f383) 46 f384) (vf_upd (vf_upd (vf_upd (vf_upd G 25 f377) 27 f378) 40 f380) 42 f382)  p1 g362 0 (show (0 ≤ p1.toInt ∧ p1.toInt ≤ 5) by omega) (show (p1.toInt < ((F 4) 1).toInt) by omega) (show (0 ≤ g362.toInt ∧ g362.toInt ≤ 11) by omega) (show (0 ≤ (0 : Int32).toInt ∧ (0 : Int32).toInt ≤ 5) by omega) hk0 hp710 hk2) ⟨hx, hb, hml, hown, hg⟩ lk_X11_487 ⟨CP.blind, va_recv hKN.1 hP (ci := 11) (q0 := 0) rfl rfl, CP.at hP hKN hD⟩ ⟨⟨rfl, rfl⟩, ⟨Nat.le_of_ble_eq_true rfl, Nat.le_of_ble_eq_true rfl⟩, ⟨Nat.le_of_ble_eq_true rfl, Nat.le_of_ble_eq_true rfl⟩⟩ hl.1 rfl (Nat.le_of_ble_eq_true rfl) dX11_truly_69) hP hD hS hA (fun u875 H locs w876 hP hD hS => ?_)
          obtain ⟨u877, u878, u879, u880, u881, u882, u883, u884, u885, u886, f887, f888, f889, f890, f891, f892⟩ := u875
          obtain ⟨hw893, hw894, hw895, hw896, hw897, hw898⟩ : ((u877.toInt = 1 ∧ 1 ≤ u883.toInt ∧ 2 ≤ u878.toInt ∧ u878.toInt ≤ 200 ∧ 1 ≤ u879.toInt ∧ u879.toInt ≤ 10 ∧ 0 ≤ u880.toInt ∧ u880.toInt < u878.toInt ∧ -9000000000000 ≤ u882.toInt ∧ u882.toInt ≤ 9000000000000 ∧ (cin f888 (u878.toInt).toNat (u879.toInt).toNat (u880.toInt).toNat 600 : Int) ≠ u884.toInt) ∨ u877.toInt = 0) ∧ (0 ≤ u877.toInt ∧ u877.toInt ≤ 1) ∧ (0 ≤ u884.toInt ∧ u884.toInt ≤ 600) ∧ (-60000000 ≤ u885.toInt ∧ u885.toInt ≤ 60000000) ∧ (1 ≤ u886.toInt) ∧ LB f888 := w876
          refine W.eq (g2 := F0 m 72 ls [.int u877]) rfl ?_
          have hP : va_P D vwCl (MW Y o a (upd (upd (upd (upd (upd (upd (upd I 26 g364) 29 u884) 32 g368) 34 u878) 35 u879) 36 u880) 39 u881) (vp_updL (vp_updL (vp_updL (vp_updL (vp_updL J 30 u885) 31 u886) 33 g369) 37 u882) 38 u883) (vf_upd (vf_upd (vf_upd (vf_upd (vf_upd F 1 f887) 28 f888) 41 f890) 43 f892) 46 f384) (vf_upd (vf_upd (vf_upd (vf_upd G 25 f377) 27 f378) 40 f889) 42 f891)) H := hP
          have hD : va_D A (MW Y o a (upd (upd (upd (upd (upd (upd (upd I 26 g364) 29 u884) 32 g368) 34 u878) 35 u879) 36 u880) 39 u881) (vp_updL (vp_updL (vp_updL (vp_updL (vp_updL J 30 u885) 31 u886) 33 g369) 37 u882) 38 u883) (vf_upd (vf_upd (vf_upd (vf_upd (vf_upd F 1 f887) 28 f888) 41 f890) 43 f892) 46 f384) (vf_upd (vf_upd (vf_upd (vf_upd G 25 f377) 27 f378) 40 f889) 42 f891)) := hD
          rcases (show u877.toInt = 1 ∨ u877.toInt = 0 by omega) with c899 | c899
          · obtain rfl : u877 = 1 := i_is c899 (by decide)
            refine W.eq (g2 := F0 m 72 ls [.int 1]) rfl ?_
            refine w_join (σ := Int64 × Int32 × Int32 × Int64 × Int64 × Int32 × Int64 × Int32 × Int32 × Int32 × Int64 × Int64 × Int32 × (Nat → Int32) × (Nat → Int64) × (Nat → Int64) × (Nat → Int32) × (Nat → Int64) × (Nat → Int32) × (Nat → Int64) × (Nat → Int32) × (Nat → Int32)) (pcJ := 123) (kJ := 0) (nJ := 0) (stk := fun xx => match xx with | (g953, g954, g955, g956, g957, g958, g959, g960, g961, g962, g963, g964, g965, f966, f967, f968, f969, f970, f971, f972, f973, f974) => []) (fun xx H locs ls => match xx with | (g953, g954, g955, g956, g957, g958, g959, g960, g961, g962, g963, g964, g965, f966, f967, f968, f969, f970, f971, f972, f973, f974) => va_P D vwCl (MW Y o a (upd (upd (upd (upd (upd (upd (upd I 26 g954) 29 g955) 32 g958) 34 g960) 35 g961) 36 g962) 39 g965) (vp_updL (vp_updL (vp_updL (vp_updL (vp_updL J 30 g956) 31 g957) 33 g959) 37 g963) 38 g964) (vf_upd (vf_upd (vf_upd (vf_upd (vf_upd F 1 f966) 28 f969) 41 f971) 43 f973) 46 f974) (vf_upd (vf_upd (vf_upd (vf_upd G 25 f967) 27 f968) 40 f970) 42 f972)) H ∧ va_D A (MW Y o a (upd (upd (upd (upd (upd (upd (upd I 26 g954) 29 g955) 32 g958) 34 g960) 35 g961) 36 g962) 39 g965) (vp_updL (vp_updL (vp_updL (vp_updL (vp_updL J 30 g956) 31 g957) 33 g959) 37 g963) 38 g964) (vf_upd (vf_upd (vf_upd (vf_upd (vf_upd F 1 f966) 28 f969) 41 f971) 43 f973) 46 f974) (vf_upd (vf_upd (vf_upd (vf_upd G 25 f967) 27 f968) 40 f970) 42 f972)) ∧ va_S A s.heap H locs ∧ lv_has ls 9 [(4, .long g953), (8, .int g362), (6, .long v40), (3, .int u17), (0, .ref o), (1, .int p1), (2, .int p2)] ∧ LB f969 ∧ WG f974) (fun xx H locs ls hI => ?_) (fun jn975 => ?_)
            · skip
              obtain ⟨g953, g954, g955, g956, g957, g958, g959, g960, g961, g962, g963, g964, g965, f966, f967, f968, f969, f970, f971, f972, f973, f974⟩ := xx
              obtain ⟨hP, hD, hS, hl, hp976, hp977⟩ := hI
              refine W.eq (g2 := F0 m 123 ls []) rfl ?_
              obtain ⟨v978, ev978⟩ : ∃ y : Int32, y = g362 + 1 := ⟨_, rfl⟩
              have hv978 := i_add (Eq.refl g362.toInt) (show (1 : Int32).toInt = 1 by decide) ev978 (by omega) (by omega)
              refine lv_iinc (v := v978) (lv' := [(8, .int v978), (4, .long g953), (6, .long v40), (3, .int u17), (0, .ref o), (1, .int p1), (2, .int p2)]) hx hb dX11_truly_123 hl (k := 1) rfl (by rw [ev978]; rfl) (by decide) rfl (fun ls hl => ?_)
              refine lv_goto (tgt := 53) hx hb dX11_truly_126 (by decide) ?_
              exact ih711 (v978, g953, g954, g955, g956, g957, g958, g959, g960, g961, g962, g963, g964, g965, f966, f967, f968, f969, f970, f971, f972, f973, f974) H locs ls (by show (12 - v978.toInt).toNat < (12 - g362.toInt).toNat; omega) ⟨hP, hD, hS, lv_sub hl [0, 2, 1, 3, 4, 5, 6] rfl, by omega, hp977, hp976⟩
            · skip
              refine lv_if_eq (tgt := 123) hx hb dX11_truly_72 (by decide) (fun c979 => ?_) (fun c979 => ?_)
              · exact absurd c979 (by decide)
              refine lv_aload_n hx hb dX11_truly_75 rfl (lv_at hl 4 rfl) ?_
              refine lv_iload_n hx hb dX11_truly_76 rfl (lv_at hl 5 rfl) ?_
              refine cga (rn_V (As := [.int p1]) (rest := []) (b := o) (m_isSeen l D Y Z H.size o a (upd (upd (upd (upd (upd (upd (upd I 26 g364) 29 u884) 32 g368) 34 u878) 35 u879) 36 u880) 39 u881) (vp_updL (vp_updL (vp_updL (vp_updL (vp_updL J 30 u885) 31 u886) 33 g369) 37 u882) 38 u883) (vf_upd (vf_upd (vf_upd (vf_upd (vf_upd F 1 f887) 28 f888) 41 f890) 43 f892) 46 f384) (vf_upd (vf_upd (vf_upd (vf_upd G 25 f377) 27 f378) 40 f889) 42 f891)  p1 (show (0 ≤ p1.toInt ∧ p1.toInt ≤ 5) by omega)) ⟨hx, hb, hml, hown, hg⟩ lk_X11_494 ⟨CP.blind, va_recv hKN.1 hP (ci := 11) (q0 := 0) rfl rfl, CP.at hP hKN hD⟩ ⟨⟨rfl, rfl⟩, ⟨Nat.le_of_ble_eq_true rfl, Nat.le_of_ble_eq_true rfl⟩, ⟨Nat.le_of_ble_eq_true rfl, Nat.le_of_ble_eq_true rfl⟩⟩ hl.1 rfl (Nat.le_of_ble_eq_true rfl) dX11_truly_77) hP hD hS hA (fun u980 H locs w981 hP hD hS => ?_)
              have hw983 : (0 ≤ u980.toInt ∧ u980.toInt ≤ 1) := w981
              clear w981
              refine W.eq (g2 := F0 m 80 ls [.int u980]) rfl ?_
              have hP : va_P D vwCl (MW Y o a (upd (upd (upd (upd (upd (upd (upd I 26 g364) 29 u884) 32 g368) 34 u878) 35 u879) 36 u880) 39 u881) (vp_updL (vp_updL (vp_updL (vp_updL (vp_updL J 30 u885) 31 u886) 33 g369) 37 u882) 38 u883) (vf_upd (vf_upd (vf_upd (vf_upd (vf_upd F 1 f887) 28 f888) 41 f890) 43 f892) 46 f384) (vf_upd (vf_upd (vf_upd (vf_upd G 25 f377) 27 f378) 40 f889) 42 f891)) H := hP
              have hD : va_D A (MW Y o a (upd (upd (upd (upd (upd (upd (upd I 26 g364) 29 u884) 32 g368) 34 u878) 35 u879) 36 u880) 39 u881) (vp_updL (vp_updL (vp_updL (vp_updL (vp_updL J 30 u885) 31 u886) 33 g369) 37 u882) 38 u883) (vf_upd (vf_upd (vf_upd (vf_upd (vf_upd F 1 f887) 28 f888) 41 f890) 43 f892) 46 f384) (vf_upd (vf_upd (vf_upd (vf_upd G 25 f377) 27 f378) 40 f889) 42 f891)) := hD
              rcases (show u980.toInt = 1 ∨ u980.toInt = 0 by omega) with c984 | c984
              · obtain rfl : u980 = 1 := i_is c984 (by decide)
                refine W.eq (g2 := F0 m 80 ls [.int 1]) rfl ?_
                refine lv_if_eq (tgt := 123) hx hb dX11_truly_80 (by decide) (fun c985 => ?_) (fun c985 => ?_)
                · exact absurd c985 (by decide)
                refine lv_aload_n hx hb dX11_truly_83 rfl (lv_at hl 4 rfl) ?_
                refine lv_iload_n hx hb dX11_truly_84 rfl (lv_at hl 6 rfl) ?_
                refine lv_iload_n hx hb dX11_truly_85 rfl (lv_at hl 5 rfl) ?_
                refine lv_iload hx hb dX11_truly_86 (lv_at hl 0 rfl) ?_
                refine cga (rn_V (As := [.int p2, .int p1, .int g362]) (rest := []) (b := o) (m_weighs l D Y Z H.size o a (upd (upd (upd (upd (upd (upd (upd I 26 g364) 29 u884) 32 g368) 34 u878) 35 u879) 36 u880) 39 u881) (vp_updL (vp_updL (vp_updL (vp_updL (vp_updL J 30 u885) 31 u886) 33 g369) 37 u882) 38 u883) (vf_upd (vf_upd (vf_upd (vf_upd (vf_upd F 1 f887) 28 f888) 41 f890) 43 f892) 46 f384) (vf_upd (vf_upd (vf_upd (vf_upd G 25 f377) 27 f378) 40 f889) 42 f891)  p2 p1 g362 (show (0 ≤ p2.toInt ∧ p2.toInt ≤ 5) by omega) (show (p2.toInt < ((F 4) 2).toInt) by omega) (show (0 ≤ p1.toInt ∧ p1.toInt ≤ 5) by omega) (show (p1.toInt < ((F 4) 1).toInt) by omega) (show (0 ≤ g362.toInt ∧ g362.toInt ≤ 11) by omega) hk0 hw898 hk2 hk3 hp709) ⟨hx, hb, hml, hown, hg⟩ lk_X11_543 ⟨CP.blind, va_recv hKN.1 hP (ci := 11) (q0 := 0) rfl rfl, CP.at hP hKN hD⟩ ⟨⟨rfl, rfl⟩, ⟨Nat.le_of_ble_eq_true rfl, Nat.le_of_ble_eq_true rfl⟩, ⟨Nat.le_of_ble_eq_true rfl, Nat.le_of_ble_eq_true rfl⟩⟩ hl.1 rfl (Nat.le_of_ble_eq_true rfl) dX11_truly_88) hP hD hS hA (fun u986 H locs w987 hP hD hS => ?_)
                obtain ⟨u988, u989, u990, u991, u992, u993, u994, u995, u996, u997, u998, u999, u1000, f1001, f1002, f1003, f1004, f1005, f1006, f1007, f1008, f1009⟩ := u986
                obtain ⟨hw1010, hw1011, hw1012⟩ : (0 ≤ u988.toInt ∧ u988.toInt ≤ 1) ∧ LB f1002 ∧ WG f1009 := w987
                refine W.eq (g2 := F0 m 91 ls [.int u988]) rfl ?_
                have hP : va_P D vwCl (MW Y o a (upd (upd (upd (upd (upd (upd (upd I 26 u1000) 29 u995) 32 u998) 34 u989) 35 u990) 36 u991) 39 u992) (vp_updL (vp_updL (vp_updL (vp_updL (vp_updL J 30 u996) 31 u997) 33 u999) 37 u993) 38 u994) (vf_upd (vf_upd (vf_upd (vf_upd (vf_upd F 1 f1001) 28 f1002) 41 f1004) 43 f1006) 46 f1009) (vf_upd (vf_upd (vf_upd (vf_upd G 25 f1008) 27 f1007) 40 f1003) 42 f1005)) H := hP
                have hD : va_D A (MW Y o a (upd (upd (upd (upd (upd (upd (upd I 26 u1000) 29 u995) 32 u998) 34 u989) 35 u990) 36 u991) 39 u992) (vp_updL (vp_updL (vp_updL (vp_updL (vp_updL J 30 u996) 31 u997) 33 u999) 37 u993) 38 u994) (vf_upd (vf_upd (vf_upd (vf_upd (vf_upd F 1 f1001) 28 f1002) 41 f1004) 43 f1006) 46 f1009) (vf_upd (vf_upd (vf_upd (vf_upd G 25 f1008) 27 f1007) 40 f1003) 42 f1005)) := hD
                rcases (show u988.toInt = 1 ∨ u988.toInt = 0 by omega) with c1013 | c1013
                · obtain rfl : u988 = 1 := i_is c1013 (by decide)
                  refine W.eq (g2 := F0 m 91 ls [.int 1]) rfl ?_
                  refine lv_if_eq (tgt := 123) hx hb dX11_truly_91 (by decide) (fun c1014 => ?_) (fun c1014 => ?_)
                  · exact absurd c1014 (by decide)
                  refine lv_aload_n hx hb dX11_truly_94 rfl (lv_at hl 4 rfl) ?_
                  refine cga (rn_V (As := []) (rest := []) (b := o) (m_heaviest l D Y Z H.size o a (upd (upd (upd (upd (upd (upd (upd I 26 u1000) 29 u995) 32 u998) 34 u989) 35 u990) 36 u991) 39 u992) (vp_updL (vp_updL (vp_updL (vp_updL (vp_updL J 30 u996) 31 u997) 33 u999) 37 u993) 38 u994) (vf_upd (vf_upd (vf_upd (vf_upd (vf_upd F 1 f1001) 28 f1002) 41 f1004) 43 f1006) 46 f1009) (vf_upd (vf_upd (vf_upd (vf_upd G 25 f1008) 27 f1007) 40 f1003) 42 f1005)   ) ⟨hx, hb, hml, hown, hg⟩ lk_X11_549 ⟨CP.blind, va_recv hKN.1 hP (ci := 11) (q0 := 0) rfl rfl, CP.at hP hKN hD⟩ ⟨⟨rfl, rfl⟩, ⟨Nat.le_of_ble_eq_true rfl, Nat.le_of_ble_eq_true rfl⟩, ⟨Nat.le_of_ble_eq_true rfl, Nat.le_of_ble_eq_true rfl⟩⟩ hl.1 rfl (Nat.le_of_ble_eq_true rfl) dX11_truly_95) hP hD hS hA (fun u1015 H locs w1016 hP hD hS => ?_)
                  refine W.eq (g2 := F0 m 98 ls [.int u1015]) rfl ?_
                  have hP : va_P D vwCl (MW Y o a (upd (upd (upd (upd (upd (upd (upd I 26 u1000) 29 u995) 32 u998) 34 u989) 35 u990) 36 u991) 39 u992) (vp_updL (vp_updL (vp_updL (vp_updL (vp_updL J 30 u996) 31 u997) 33 u999) 37 u993) 38 u994) (vf_upd (vf_upd (vf_upd (vf_upd (vf_upd F 1 f1001) 28 f1002) 41 f1004) 43 f1006) 46 f1009) (vf_upd (vf_upd (vf_upd (vf_upd G 25 f1008) 27 f1007) 40 f1003) 42 f1005)) H := hP
                  have hD : va_D A (MW Y o a (upd (upd (upd (upd (upd (upd (upd I 26 u1000) 29 u995) 32 u998) 34 u989) 35 u990) 36 u991) 39 u992) (vp_updL (vp_updL (vp_updL (vp_updL (vp_updL J 30 u996) 31 u997) 33 u999) 37 u993) 38 u994) (vf_upd (vf_upd (vf_upd (vf_upd (vf_upd F 1 f1001) 28 f1002) 41 f1004) 43 f1006) 46 f1009) (vf_upd (vf_upd (vf_upd (vf_upd G 25 f1008) 27 f1007) 40 f1003) 42 f1005)) := hD
                  have j1018 := rgI u1015
                  refine lv_if_eq (tgt := 104) hx hb dX11_truly_98 (by decide) (fun c1019 => ?_) (fun c1019 => ?_)
                  · skip
                    have c1019 := i_eq (Eq.refl u1015.toInt) (show (0 : Int32).toInt = 0 by decide) c1019
                    refine lv_lload hx hb dX11_truly_104 (lv_at hl 2 rfl) ?_
                    refine lv_lload hx hb dX11_truly_106 (lv_at hl 1 rfl) ?_
                    refine lv_aload_n hx hb dX11_truly_108 rfl (lv_at hl 4 rfl) ?_
                    refine lv_iload hx hb dX11_truly_109 (lv_at hl 0 rfl) ?_
                    refine lv_iconst (v := 2) hx hb dX11_truly_111 (by decide) ?_
                    refine cga (rn_V (As := [.int g362, .int 2]) (rest := [.long v40, .long g363]) (b := o) (m_starOf2 l D Y Z H.size o a (upd (upd (upd (upd (upd (upd (upd I 26 u1000) 29 u995) 32 u998) 34 u989) 35 u990) 36 u991) 39 u992) (vp_updL (vp_updL (vp_updL (vp_updL (vp_updL J 30 u996) 31 u997) 33 u999) 37 u993) 38 u994) (vf_upd (vf_upd (vf_upd (vf_upd (vf_upd F 1 f1001) 28 f1002) 41 f1004) 43 f1006) 46 f1009) (vf_upd (vf_upd (vf_upd (vf_upd G 25 f1008) 27 f1007) 40 f1003) 42 f1005)  g362 (show (0 ≤ g362.toInt ∧ g362.toInt ≤ 11) by omega) hk0) ⟨hx, hb, hml, hown, hg⟩ lk_X11_120 ⟨CP.blind, va_recv hKN.1 hP (ci := 11) (q0 := 0) rfl rfl, CP.at hP hKN hD⟩ ⟨⟨rfl, rfl⟩, ⟨Nat.le_of_ble_eq_true rfl, Nat.le_of_ble_eq_true rfl⟩, ⟨Nat.le_of_ble_eq_true rfl, Nat.le_of_ble_eq_true rfl⟩⟩ hl.1 rfl (Nat.le_of_ble_eq_true rfl) dX11_truly_112) hP hD hS hA (fun u1020 H locs w1021 hP hD hS => ?_)
                    obtain ⟨hw1023, hw1024⟩ : (0 ≤ u1020.toInt ∧ u1020.toInt ≤ 1000) ∧ (g362.toInt < ((F 0) 0).toInt → 1 ≤ u1020.toInt) := w1021
                    refine W.eq (g2 := F0 m 115 ls [.int u1020, .long v40, .long g363]) rfl ?_
                    have hP : va_P D vwCl (MW Y o a (upd (upd (upd (upd (upd (upd (upd I 26 u1000) 29 u995) 32 u998) 34 u989) 35 u990) 36 u991) 39 u992) (vp_updL (vp_updL (vp_updL (vp_updL (vp_updL J 30 u996) 31 u997) 33 u999) 37 u993) 38 u994) (vf_upd (vf_upd (vf_upd (vf_upd (vf_upd F 1 f1001) 28 f1002) 41 f1004) 43 f1006) 46 f1009) (vf_upd (vf_upd (vf_upd (vf_upd G 25 f1008) 27 f1007) 40 f1003) 42 f1005)) H := hP
                    have hD : va_D A (MW Y o a (upd (upd (upd (upd (upd (upd (upd I 26 u1000) 29 u995) 32 u998) 34 u989) 35 u990) 36 u991) 39 u992) (vp_updL (vp_updL (vp_updL (vp_updL (vp_updL J 30 u996) 31 u997) 33 u999) 37 u993) 38 u994) (vf_upd (vf_upd (vf_upd (vf_upd (vf_upd F 1 f1001) 28 f1002) 41 f1004) 43 f1006) 46 f1009) (vf_upd (vf_upd (vf_upd (vf_upd G 25 f1008) 27 f1007) 40 f1003) 42 f1005)) := hD
                    have j1025 := Int32.toInt_toInt64 u1020
                    refine lv_i2l (v := u1020.toInt64) hx hb dX11_truly_115 (rfl) ?_
                    refine lv_iload_n hx hb dX11_truly_116 rfl (lv_at hl 3 rfl) ?_
                    have j1026 := Int32.toInt_toInt64 u17
                    refine lv_i2l (v := u17.toInt64) hx hb dX11_truly_117 (rfl) ?_
                    refine lv_lmul hx hb dX11_truly_118 ?_
                    refine lv_topl (fun v1027 ev1027 => ?_)
                    have hv1027 := l_mulR (a := 0) (b := 1000) (c := 1) (d := 40) (lo := 0) (hi := 40000) (Int32.toInt_toInt64 u1020) (Int32.toInt_toInt64 u17) ev1027 (by omega) (by omega) (by decide) (by decide)
                    refine lv_ldiv hx hb dX11_truly_119 (l_nz (Eq.refl v1027.toInt) (by omega)) ?_
                    refine lv_topl (fun v1028 ev1028 => ?_)
                    have hv1028 := l_divA (Eq.refl v40.toInt) (Eq.refl v1027.toInt) ev1028 (by omega) (by omega) (by omega)
                    refine lv_ladd hx hb dX11_truly_120 ?_
                    refine lv_topl (fun v1029 ev1029 => ?_)
                    refine lv_lstore (lv' := [(4, .long v1029), (8, .int g362), (6, .long v40), (3, .int u17), (0, .ref o), (1, .int p1), (2, .int p2)]) hx hb dX11_truly_121 hl (by decide) rfl (fun ls hl => ?_)
                    refine W.widen (k := 0) (n := 0) (Nat.le_of_ble_eq_true rfl) (Nat.le_of_ble_eq_true rfl) ?_
                    exact jn975 (v1029, u1000, u995, u996, u997, u998, u999, u989, u990, u991, u993, u994, u992, f1001, f1008, f1007, f1002, f1003, f1004, f1005, f1006, f1009) H locs ls ⟨hP, hD, hS, lv_sub hl [0, 1, 2, 3, 4, 5, 6] rfl, hw1011, hw1012⟩
                  · skip
                    have c1019 := i_ne (Eq.refl u1015.toInt) (show (0 : Int32).toInt = 0 by decide) c1019
                    refine lv_goto (tgt := 123) hx hb dX11_truly_101 (by decide) ?_
                    refine W.widen (k := 0) (n := 0) (Nat.le_of_ble_eq_true rfl) (Nat.le_of_ble_eq_true rfl) ?_
                    exact jn975 (g363, u1000, u995, u996, u997, u998, u999, u989, u990, u991, u993, u994, u992, f1001, f1008, f1007, f1002, f1003, f1004, f1005, f1006, f1009) H locs ls ⟨hP, hD, hS, lv_sub hl [2, 0, 1, 3, 4, 5, 6] rfl, hw1011, hw1012⟩
                · obtain rfl : u988 = 0 := i_is c1013 (by decide)
                  refine W.eq (g2 := F0 m 91 ls [.int 0]) rfl ?_
                  refine lv_if_eq (tgt := 123) hx hb dX11_truly_91 (by decide) (fun c1030 => ?_) (fun c1030 => ?_)
                  rotate_left
                  · exact absurd c1030 (by decide)
                  refine W.widen (k := 0) (n := 0) (Nat.le_of_ble_eq_true rfl) (Nat.le_of_ble_eq_true rfl) ?_
                  exact jn975 (g363, u1000, u995, u996, u997, u998, u999, u989, u990, u991, u993, u994, u992, f1001, f1008, f1007, f1002, f1003, f1004, f1005, f1006, f1009) H locs ls ⟨hP, hD, hS, lv_sub hl [2, 0, 1, 3, 4, 5, 6] rfl, hw1011, hw1012⟩
              · obtain rfl : u980 = 0 := i_is c984 (by decide)
                refine W.eq (g2 := F0 m 80 ls [.int 0]) rfl ?_
                refine lv_if_eq (tgt := 123) hx hb dX11_truly_80 (by decide) (fun c1031 => ?_) (fun c1031 => ?_)
                rotate_left
                · exact absurd c1031 (by decide)
                refine W.widen (k := 0) (n := 0) (Nat.le_of_ble_eq_true rfl) (Nat.le_of_ble_eq_true rfl) ?_
                exact jn975 (g363, g364, u884, u885, u886, g368, g369, u878, u879, u880, u882, u883, u881, f887, f377, f378, f888, f889, f890, f891, f892, f384) H locs ls ⟨hP, hD, hS, lv_sub hl [2, 0, 1, 3, 4, 5, 6] rfl, hw898, hp709⟩
          · obtain rfl : u877 = 0 := i_is c899 (by decide)
            refine W.eq (g2 := F0 m 72 ls [.int 0]) rfl ?_
            refine lv_if_eq (tgt := 123) hx hb dX11_truly_72 (by decide) (fun c1033 => ?_) (fun c1033 => ?_)
            rotate_left
            · exact absurd c1033 (by decide)
            obtain ⟨v1034, ev1034⟩ : ∃ y : Int32, y = g362 + 1 := ⟨_, rfl⟩
            have hv1034 := i_add (Eq.refl g362.toInt) (show (1 : Int32).toInt = 1 by decide) ev1034 (by omega) (by omega)
            refine lv_iinc (v := v1034) (lv' := [(8, .int v1034), (6, .long v40), (4, .long g363), (3, .int u17), (0, .ref o), (1, .int p1), (2, .int p2)]) hx hb dX11_truly_123 hl (k := 0) rfl (by rw [ev1034]; rfl) (by decide) rfl (fun ls hl => ?_)
            refine lv_goto (tgt := 53) hx hb dX11_truly_126 (by decide) ?_
            exact ih711 (v1034, g363, g364, u884, u885, u886, g368, g369, u878, u879, u880, u882, u883, u881, f887, f377, f378, f888, f889, f890, f891, f892, f384) H locs ls (by show (12 - v1034.toInt).toNat < (12 - g362.toInt).toNat; omega) ⟨hP, hD, hS, lv_sub hl [0, 1, 2, 3, 4, 5, 6] rfl, by omega, hp709, hw898⟩
      · skip
        have c34 := i_eq (Eq.refl u17.toInt) (show (0 : Int32).toInt = 0 by decide) c34
        refine lv_ldc2 (v := (-2)) hx hb hown (hg _ kw_1707) dX11_truly_32 ?_
        refine W.widen (k := 0) (n := 0) (Nat.le_of_ble_eq_true rfl) (Nat.le_of_ble_eq_true rfl) ?_
        have zlm2 : ((-2) : Int64).toInt = -2 := by decide
        exact W.lret (v := (-2)) hx hb hr (fun t ht hW => ⟨⟨((-2), u18, u19, u20, u21, u22, u23, u24, u25, u26, (I 32), (J 33), (I 26), (F 1), f27, f28, f29, f30, f31, (G 27), (G 25), (F 46)), rfl, ⟨hw33, hk4⟩, CB.mk ht hP hD⟩, hS.F ht⟩) hS.2.2 dX11_truly_35
    · obtain rfl : u8 = 0 := i_is c13 (by decide)
      have zi0 : (0 : Int32).toInt = 0 := by decide
      refine W.eq (g2 := F0 m 15 ls [.int 0]) rfl ?_
      refine lv_if_ne (tgt := 22) hx hb dX11_truly_15 (by decide) (fun c1035 => ?_) (fun c1035 => ?_)
      · exact absurd c1035 (by decide)
      refine lv_ldc2 (v := (-1)) hx hb hown (hg _ kw_1650) dX11_truly_18 ?_
      refine W.widen (k := 0) (n := 0) (Nat.le_of_ble_eq_true rfl) (Nat.le_of_ble_eq_true rfl) ?_
      have zlm1 : ((-1) : Int64).toInt = -1 := by decide
      exact W.lret (v := (-1)) hx hb hr (fun t ht hW => ⟨⟨((-1), (I 34), (I 35), (I 36), (I 39), (J 37), (J 38), (I 29), (J 30), (J 31), (I 32), (J 33), (I 26), (F 1), (F 28), (G 40), (F 41), (G 42), (F 43), (G 27), (G 25), (F 46)), rfl, ⟨hk1, hk4⟩, CB.mk ht hP hD⟩, hS.F ht⟩) hS.2.2 dX11_truly_21
  · obtain rfl : u1 = 0 := i_is c6 (by decide)
    have zi0 : (0 : Int32).toInt = 0 := by decide
    refine W.eq (g2 := F0 m 6 ls [.int 0]) rfl ?_
    refine lv_if_eq (tgt := 18) hx hb dX11_truly_6 (by decide) (fun c1036 => ?_) (fun c1036 => ?_)
    rotate_left
    · exact absurd c1036 (by decide)
    refine lv_ldc2 (v := (-1)) hx hb hown (hg _ kw_1650) dX11_truly_18 ?_
    refine W.widen (k := 0) (n := 0) (Nat.le_of_ble_eq_true rfl) (Nat.le_of_ble_eq_true rfl) ?_
    have zlm1 : ((-1) : Int64).toInt = -1 := by decide
    exact W.lret (v := (-1)) hx hb hr (fun t ht hW => ⟨⟨((-1), (I 34), (I 35), (I 36), (I 39), (J 37), (J 38), (I 29), (J 30), (J 31), (I 32), (J 33), (I 26), (F 1), (F 28), (G 40), (F 41), (G 42), (F 43), (G 27), (G 25), (F 46)), rfl, ⟨hk1, hk4⟩, CB.mk ht hP hD⟩, hS.F ht⟩) hS.2.2 dX11_truly_21
set_option maxHeartbeats 4000000 in
set_option maxRecDepth 100000 in
theorem m_many (l : Launch) (D : va_G) (Y : Nat → ClassId) (Z : Nat → Nat) (sz : Nat) (o : Nat) (a : Nat → Nat) (I : Nat → Int32) (J : Nat → Int64) (F : Nat → Nat → Int32) (G : Nat → Nat → Int64) (p1 : Int32) (p2 : Int32) (p3 : Int32) (p4 : Int32) (p5 : Int32) (hk0 : TO (F 0)) (hk1 : LB (F 28)) (hk2 : TX (F 4) (F 9) (F 10) (F 11) (F 12) (F 13)) (hk3 : TC (F 4) (F 8) (F 7) (F 5)) (hk4 : WG (F 46)) : Met l yX11_many (.code yX11_many cX11_many 8 (some .int) :: GW) ({ frames := 9, cells := 0, slots := 0, locals := 223 }) (va_Pc [.ref o, .int p1, .int p2, .int p3, .int p4, .int p5] (CP D Y Z (MW Y o a I J F G) sz)) (QG (S := Int32 × Int32 × Int32 × Int32 × Int32 × Int64 × Int64 × Int32 × Int64 × Int64 × Int32 × Int64 × Int32 × (Nat → Int32) × (Nat → Int32) × (Nat → Int64) × (Nat → Int32) × (Nat → Int64) × (Nat → Int32) × (Nat → Int64) × (Nat → Int64) × (Nat → Int32)) (fun u => some (.int u.1)) (fun u => LB u.2.2.2.2.2.2.2.2.2.2.2.2.2.2.1 ∧ WG u.2.2.2.2.2.2.2.2.2.2.2.2.2.2.2.2.2.2.2.2.2) (fun u => CB D (MW Y o a (upd (upd (upd (upd (upd (upd (upd I 26 u.2.2.2.2.2.2.2.2.2.2.2.2.1) 29 u.2.2.2.2.2.2.2.1) 32 u.2.2.2.2.2.2.2.2.2.2.1) 34 u.2.1) 35 u.2.2.1) 36 u.2.2.2.1) 39 u.2.2.2.2.1) (vp_updL (vp_updL (vp_updL (vp_updL (vp_updL J 30 u.2.2.2.2.2.2.2.2.1) 31 u.2.2.2.2.2.2.2.2.2.1) 33 u.2.2.2.2.2.2.2.2.2.2.2.1) 37 u.2.2.2.2.2.1) 38 u.2.2.2.2.2.2.1) (vf_upd (vf_upd (vf_upd (vf_upd (vf_upd F 1 u.2.2.2.2.2.2.2.2.2.2.2.2.2.1) 28 u.2.2.2.2.2.2.2.2.2.2.2.2.2.2.1) 41 u.2.2.2.2.2.2.2.2.2.2.2.2.2.2.2.2.1) 43 u.2.2.2.2.2.2.2.2.2.2.2.2.2.2.2.2.2.2.1) 46 u.2.2.2.2.2.2.2.2.2.2.2.2.2.2.2.2.2.2.2.2.2) (vf_upd (vf_upd (vf_upd (vf_upd G 25 u.2.2.2.2.2.2.2.2.2.2.2.2.2.2.2.2.2.2.2.2.1) 27 u.2.2.2.2.2.2.2.2.2.2.2.2.2.2.2.2.2.2.2.1) 40 u.2.2.2.2.2.2.2.2.2.2.2.2.2.2.2.1) 42 u.2.2.2.2.2.2.2.2.2.2.2.2.2.2.2.2.2.1)) (va_A (MW Y o a I J F G) sz)) (va_A (MW Y o a I J F G) sz)) 0 0 (va_A (MW Y o a I J F G) sz) := by
  refine Met.ofW (cc := cX11_many) (maxL := 8) (ret := (some .int)) (by decide) rfl ?_
  intro p e s m args below meth c s₁ B hml hv
  obtain ⟨rfl, hsz, hP, hKN, hD0⟩ := hv
  have hx := B.exec
  have hb := B.bytes
  have hr := B.returns
  have hts := atoms_spec (ws := .code yX11_many cX11_many 8 (some .int) :: GW) B.pre
  have hg : ∀ w ∈ GW, w.before _ s = true := fun w h => hts w (List.mem_cons_of_mem _ h)
  have hown : s.vm.findClass RX11 = some m.cls := findClass_of_methodNamed B.named
  have hlocks := B.notSynchronized
  subst hsz
  have hD := hD0.self (sz := s.heap.size)
  generalize hAe : va_A (MW Y o a I J F G) s.heap.size = A at hD ⊢
  have hA : ∀ q : Nat, s.heap.size ≤ q → A q := fun q h => by rw [← hAe]; exact Or.inr h
  clear hAe hD0 hts B
  have hl := lv_entry ([.ref o, .int p1, .int p2, .int p3, .int p4, .int p5]) (n := 8) (Nat.le_of_ble_eq_true rfl)
  rw [lg_entry_eq]
  generalize (lg_sl ([.ref o, .int p1, .int p2, .int p3, .int p4, .int p5]) ++ List.replicate (8 - (lg_sl ([.ref o, .int p1, .int p2, .int p3, .int p4, .int p5])).length) Slot.unset).toArray = ls at hl ⊢
  have hl : lv_has ls 8 [(0, .ref o), (1, .int p1), (2, .int p2), (3, .int p3), (4, .int p4), (5, .int p5)] := hl
  refine w_start (A0 := A) hP (fun H locs hP hS => ?_)
  refine lv_aload_n hx hb dX11_many_0 rfl (lv_at hl 0 rfl) ?_
  refine lv_iconst (v := 1) hx hb dX11_many_1 (by decide) ?_
  refine lv_iload_n hx hb dX11_many_2 rfl (lv_at hl 1 rfl) ?_
  have zi1 : (1 : Int32).toInt = 1 := by decide
  refine cga (rn_V (As := [.int 1, .int p1]) (rest := []) (b := o) (m_isText1 l D Y Z H.size o a I J F G  p1 hk2) ⟨hx, hb, hml, hown, hg⟩ lk_X11_366 ⟨CP.blind, va_recv hKN.1 hP (ci := 11) (q0 := 0) rfl rfl, CP.at hP hKN hD⟩ ⟨⟨rfl, rfl⟩, ⟨Nat.le_of_ble_eq_true rfl, Nat.le_of_ble_eq_true rfl⟩, ⟨Nat.le_of_ble_eq_true rfl, Nat.le_of_ble_eq_true rfl⟩⟩ hl.1 rfl (Nat.le_of_ble_eq_true rfl) dX11_many_3) hP hD hS hA (fun u1 H locs w2 hP hD hS => ?_)
  obtain ⟨hw4, hw5⟩ : ((0 ≤ p1.toInt ∧ p1.toInt ≤ 5 ∧ p1.toInt < ((F 4) 1).toInt ∧ u1.toInt = 1) ∨ u1.toInt = 0) ∧ (0 ≤ u1.toInt ∧ u1.toInt ≤ 1) := w2
  refine W.eq (g2 := F0 m 6 ls [.int u1]) rfl ?_
  have hP : va_P D vwCl (MW Y o a I J F G) H := hP
  have hD : va_D A (MW Y o a I J F G) := hD
  rcases (show u1.toInt = 1 ∨ u1.toInt = 0 by omega) with c6 | c6
  · obtain rfl : u1 = 1 := i_is c6 (by decide)
    refine W.eq (g2 := F0 m 6 ls [.int 1]) rfl ?_
    refine lv_if_eq (tgt := 39) hx hb dX11_many_6 (by decide) (fun c7 => ?_) (fun c7 => ?_)
    · exact absurd c7 (by decide)
    refine lv_aload_n hx hb dX11_many_9 rfl (lv_at hl 0 rfl) ?_
    refine lv_iconst (v := 2) hx hb dX11_many_10 (by decide) ?_
    refine lv_iload_n hx hb dX11_many_11 rfl (lv_at hl 2 rfl) ?_
    have zi2 : (2 : Int32).toInt = 2 := by decide
    refine cga (rn_V (As := [.int 2, .int p2]) (rest := []) (b := o) (m_isText2 l D Y Z H.size o a I J F G  p2 hk2) ⟨hx, hb, hml, hown, hg⟩ lk_X11_366 ⟨CP.blind, va_recv hKN.1 hP (ci := 11) (q0 := 0) rfl rfl, CP.at hP hKN hD⟩ ⟨⟨rfl, rfl⟩, ⟨Nat.le_of_ble_eq_true rfl, Nat.le_of_ble_eq_true rfl⟩, ⟨Nat.le_of_ble_eq_true rfl, Nat.le_of_ble_eq_true rfl⟩⟩ hl.1 rfl (Nat.le_of_ble_eq_true rfl) dX11_many_12) hP hD hS hA (fun u8 H locs w9 hP hD hS => ?_)
    obtain ⟨hw11, hw12⟩ : ((0 ≤ p2.toInt ∧ p2.toInt ≤ 5 ∧ p2.toInt < ((F 4) 2).toInt ∧ u8.toInt = 1) ∨ u8.toInt = 0) ∧ (0 ≤ u8.toInt ∧ u8.toInt ≤ 1) := w9
    refine W.eq (g2 := F0 m 15 ls [.int u8]) rfl ?_
    have hP : va_P D vwCl (MW Y o a I J F G) H := hP
    have hD : va_D A (MW Y o a I J F G) := hD
    rcases (show u8.toInt = 1 ∨ u8.toInt = 0 by omega) with c13 | c13
    · obtain rfl : u8 = 1 := i_is c13 (by decide)
      refine W.eq (g2 := F0 m 15 ls [.int 1]) rfl ?_
      refine lv_if_eq (tgt := 39) hx hb dX11_many_15 (by decide) (fun c14 => ?_) (fun c14 => ?_)
      · exact absurd c14 (by decide)
      refine lv_iload_n hx hb dX11_many_18 rfl (lv_at hl 3 rfl) ?_
      have j15 := rgI p3
      refine lv_if_lt (tgt := 39) hx hb dX11_many_19 (by decide) (fun c16 => ?_) (fun c16 => ?_)
      · skip
        have c16 := i_lt (Eq.refl p3.toInt) (show (0 : Int32).toInt = 0 by decide) c16
        refine lv_iconst (v := (-1)) hx hb dX11_many_39 (by decide) ?_
        refine W.widen (k := 0) (n := 0) (Nat.le_of_ble_eq_true rfl) (Nat.le_of_ble_eq_true rfl) ?_
        have zim1 : ((-1) : Int32).toInt = -1 := by decide
        exact W.iret (v := (-1)) hx hb hr (fun t ht hW => ⟨⟨((-1), (I 34), (I 35), (I 36), (I 39), (J 37), (J 38), (I 29), (J 30), (J 31), (I 32), (J 33), (I 26), (F 1), (F 28), (G 40), (F 41), (G 42), (F 43), (G 27), (G 25), (F 46)), rfl, ⟨hk1, hk4⟩, CB.mk ht hP hD⟩, hS.F ht⟩) hS.2.2 dX11_many_40
      · skip
        have c16 := i_nlt (Eq.refl p3.toInt) (show (0 : Int32).toInt = 0 by decide) c16
        refine lv_iload hx hb dX11_many_22 (lv_at hl 4 rfl) ?_
        refine lv_iload_n hx hb dX11_many_24 rfl (lv_at hl 3 rfl) ?_
        have j17 := rgI p4
        refine lv_icmp_lt (tgt := 39) hx hb dX11_many_25 (by decide) (fun c18 => ?_) (fun c18 => ?_)
        · skip
          have c18 := i_lt (Eq.refl p4.toInt) (Eq.refl p3.toInt) c18
          refine lv_iconst (v := (-1)) hx hb dX11_many_39 (by decide) ?_
          refine W.widen (k := 0) (n := 0) (Nat.le_of_ble_eq_true rfl) (Nat.le_of_ble_eq_true rfl) ?_
          have zim1 : ((-1) : Int32).toInt = -1 := by decide
          exact W.iret (v := (-1)) hx hb hr (fun t ht hW => ⟨⟨((-1), (I 34), (I 35), (I 36), (I 39), (J 37), (J 38), (I 29), (J 30), (J 31), (I 32), (J 33), (I 26), (F 1), (F 28), (G 40), (F 41), (G 42), (F 43), (G 27), (G 25), (F 46)), rfl, ⟨hk1, hk4⟩, CB.mk ht hP hD⟩, hS.F ht⟩) hS.2.2 dX11_many_40
        · skip
          have c18 := i_nlt (Eq.refl p4.toInt) (Eq.refl p3.toInt) c18
          refine lv_iload hx hb dX11_many_28 (lv_at hl 5 rfl) ?_
          have j19 := rgI p5
          have j20 := Int32.toInt_toInt64 p5
          refine lv_i2l (v := p5.toInt64) hx hb dX11_many_30 (rfl) ?_
          refine lv_lconst (v := 0) hx hb dX11_many_31 (by decide) ?_
          refine lv_lconst (v := 1) hx hb dX11_many_32 (by decide) ?_
          have zl0 : (0 : Int64).toInt = 0 := by decide
          have zl1 : (1 : Int64).toInt = 1 := by decide
          refine cg0 (rn_S (As := [.long p5.toInt64, .long 0, .long 1]) (rest := []) (m_in l D Y Z H.size   p5.toInt64 0 1 ) ⟨hx, hb, hml, hown, hg⟩ lk_X11_99 ⟨CP.blind, CP.at nilP hKN (nilD (A := fun _ => True))⟩ ⟨⟨rfl, rfl⟩, ⟨Nat.le_of_ble_eq_true rfl, Nat.le_of_ble_eq_true rfl⟩, ⟨Nat.le_of_ble_eq_true rfl, Nat.le_of_ble_eq_true rfl⟩⟩ hl.1 rfl (Nat.le_of_ble_eq_true rfl) dX11_many_33) hP hS hA (fun u21 H locs w22 hP hS => ?_)
          obtain ⟨hw24, hw25⟩ : (((0 : Int64).toInt ≤ p5.toInt64.toInt ∧ p5.toInt64.toInt ≤ (1 : Int64).toInt ∧ u21.toInt = 1) ∨ (¬ ((0 : Int64).toInt ≤ p5.toInt64.toInt ∧ p5.toInt64.toInt ≤ (1 : Int64).toInt) ∧ u21.toInt = 0)) ∧ (0 ≤ u21.toInt ∧ u21.toInt ≤ 1) := w22
          refine W.eq (g2 := F0 m 36 ls [.int u21]) rfl ?_
          rcases (show u21.toInt = 1 ∨ u21.toInt = 0 by omega) with c26 | c26
          · obtain rfl : u21 = 1 := i_is c26 (by decide)
            refine W.eq (g2 := F0 m 36 ls [.int 1]) rfl ?_
            refine lv_if_ne (tgt := 41) hx hb dX11_many_36 (by decide) (fun c27 => ?_) (fun c27 => ?_)
            rotate_left
            · exact absurd c27 (by decide)
            refine lv_iconst (v := 0) hx hb dX11_many_41 (by decide) ?_
            refine lv_istore (lv' := [(6, .int 0), (0, .ref o), (1, .int p1), (2, .int p2), (3, .int p3), (4, .int p4), (5, .int p5)]) hx hb dX11_many_42 hl (by decide) rfl (fun ls hl => ?_)
            refine lv_iconst (v := 0) hx hb dX11_many_44 (by decide) ?_
            refine lv_istore (lv' := [(7, .int 0), (6, .int 0), (0, .ref o), (1, .int p1), (2, .int p2), (3, .int p3), (4, .int p4), (5, .int p5)]) hx hb dX11_many_45 hl (by decide) rfl (fun ls hl => ?_)
            have zi0 : (0 : Int32).toInt = 0 := by decide
            refine w_loop (σ := Int32 × Int32 × Int32 × Int32 × Int64 × Int64 × Int32 × Int64 × Int32 × Int32 × Int32 × Int64 × Int64 × Int32 × (Nat → Int32) × (Nat → Int64) × (Nat → Int64) × (Nat → Int32) × (Nat → Int64) × (Nat → Int32) × (Nat → Int64) × (Nat → Int32) × (Nat → Int32)) (fun xx H locs ls => match xx with | (g625, g626, g627, g628, g629, g630, g631, g632, g633, g634, g635, g636, g637, g638, f639, f640, f641, f642, f643, f644, f645, f646, f647) => va_P D vwCl (MW Y o a (upd (upd (upd (upd (upd (upd (upd I 26 g627) 29 g628) 32 g631) 34 g633) 35 g634) 36 g635) 39 g638) (vp_updL (vp_updL (vp_updL (vp_updL (vp_updL J 30 g629) 31 g630) 33 g632) 37 g636) 38 g637) (vf_upd (vf_upd (vf_upd (vf_upd (vf_upd F 1 f639) 28 f642) 41 f644) 43 f646) 46 f647) (vf_upd (vf_upd (vf_upd (vf_upd G 25 f640) 27 f641) 40 f643) 42 f645)) H ∧ va_D A (MW Y o a (upd (upd (upd (upd (upd (upd (upd I 26 g627) 29 g628) 32 g631) 34 g633) 35 g634) 36 g635) 39 g638) (vp_updL (vp_updL (vp_updL (vp_updL (vp_updL J 30 g629) 31 g630) 33 g632) 37 g636) 38 g637) (vf_upd (vf_upd (vf_upd (vf_upd (vf_upd F 1 f639) 28 f642) 41 f644) 43 f646) 46 f647) (vf_upd (vf_upd (vf_upd (vf_upd G 25 f640) 27 f641) 40 f643) 42 f645)) ∧ va_S A s.heap H locs ∧ lv_has ls 8 [(7, .int g625), (6, .int g626), (0, .ref o), (1, .int p1), (2, .int p2), (3, .int p3), (4, .int p4), (5, .int p5)] ∧ (0 ≤ g625.toInt ∧ g625.toInt ≤ 12) ∧ LB f642 ∧ WG f647) (fun xx => match xx with | (g625, g626, g627, g628, g629, g630, g631, g632, g633, g634, g635, g636, g637, g638, f639, f640, f641, f642, f643, f644, f645, f646, f647) => (12 - g625.toInt).toNat) (0, 0, (I 26), (I 29), (J 30), (J 31), (I 32), (J 33), (I 34), (I 35), (I 36), (J 37), (J 38), (I 39), (F 1), (G 25), (G 27), (F 28), (G 40), (F 41), (G 42), (F 43), (F 46)) ⟨hP, hD, hS, lv_sub hl [0, 1, 2, 3, 4, 5, 6, 7] rfl, by omega, hk1, hk4⟩ (fun xx H locs ls hI ih => ?_)
            obtain ⟨g625, g626, g627, g628, g629, g630, g631, g632, g633, g634, g635, g636, g637, g638, f639, f640, f641, f642, f643, f644, f645, f646, f647⟩ := xx
            obtain ⟨hP, hD, hS, hl, hq1247, hp1248, hp1249⟩ := hI
            have ih1250 := ih
            refine lv_iload hx hb dX11_many_47 (lv_at hl 0 rfl) ?_
            refine lv_aload_n hx hb dX11_many_49 rfl (lv_at hl 2 rfl) ?_
            refine va_get (D := D) (ci := 11) (v := .ref (a 0)) (C := RX11) (T := TX11) (N := 49) hx hb hg inGX11 hown hKN.1 hP 0 rfl rfl 0 (by decide) (hg _ kw_1208) (fun _ h9 => h9) rfl dX11_many_50 ?_
            refine lv_iconst (v := 0) hx hb dX11_many_53 (by decide) ?_
            refine va_iald hx hb hKN.1 hP 1 0 rfl rfl (show ¬ ((0 : Int32) < 0 ∨ 7533 ≤ (0 : Int32).toNatClampNeg) by decide) dX11_many_54 ?_
            refine lv_topi (fun v1251 ev1251 => ?_)
            have ev1251 : v1251 = (F 0) 0 := ev1251
            have kv1251 := TO_0 hk0
            rw [← ev1251] at kv1251
            have qv1251 := congrArg Int32.toInt ev1251
            refine lv_icmp_ge (tgt := 139) hx hb dX11_many_55 (by decide) (fun c1551 => ?_) (fun c1551 => ?_)
            · skip
              have c1551 := i_le (Eq.refl v1251.toInt) (Eq.refl g625.toInt) c1551
              refine lv_iload hx hb dX11_many_139 (lv_at hl 1 rfl) ?_
              refine W.widen (k := 0) (n := 0) (Nat.le_of_ble_eq_true rfl) (Nat.le_of_ble_eq_true rfl) ?_
              exact W.iret (v := g626) hx hb hr (fun t ht hW => ⟨⟨(g626, g633, g634, g635, g638, g636, g637, g628, g629, g630, g631, g632, g627, f639, f642, f643, f644, f645, f646, f641, f640, f647), rfl, ⟨hp1248, hp1249⟩, CB.mk ht hP hD⟩, hS.F ht⟩) hS.2.2 dX11_many_141
            · skip
              have c1551 := i_nle (Eq.refl v1251.toInt) (Eq.refl g625.toInt) c1551
              refine lv_aload_n hx hb dX11_many_58 rfl (lv_at hl 2 rfl) ?_
              refine lv_iload_n hx hb dX11_many_59 rfl (lv_at hl 3 rfl) ?_
              refine lv_iload hx hb dX11_many_60 (lv_at hl 0 rfl) ?_
              refine lv_iload hx hb dX11_many_62 (lv_at hl 7 rfl) ?_
              refine cga (rn_V (As := [.int p1, .int g625, .int p5]) (rest := []) (b := o) (m_finds l D Y Z H.size o a (upd (upd (upd (upd (upd (upd (upd I 26 g627) 29 g628) 32 g631) 34 g633) 35 g634) 36 g635) 39 g638) (vp_updL (vp_updL (vp_updL (vp_updL (vp_updL J 30 g629) 31 g630) 33 g632) 37 g636) 38 g637) (vf_upd (vf_upd (vf_upd (vf_upd (vf_upd F 1 f639) 28 f642) 41 f644) 43 f646) 46 f647) (vf_upd (vf_upd (vf_upd (vf_upd G 25 f640) 27 f641) 40 f643) 42 f645)  p1 g625 p5 (show (0 ≤ p1.toInt ∧ p1.toInt ≤ 5) by omega) (show (p1.toInt < ((F 4) 1).toInt) by omega) (show (0 ≤ g625.toInt ∧ g625.toInt ≤ 11) by omega) (show (0 ≤ p5.toInt ∧ p5.toInt ≤ 5) by omega) hk0 hp1248 hk2) ⟨hx, hb, hml, hown, hg⟩ lk_X11_487 ⟨CP.blind, va_recv hKN.1 hP (ci := 11) (q0 := 0) rfl rfl, CP.at hP hKN hD⟩ ⟨⟨rfl, rfl⟩, ⟨Nat.le_of_ble_eq_true rfl, Nat.le_of_ble_eq_true rfl⟩, ⟨Nat.le_of_ble_eq_true rfl, Nat.le_of_ble_eq_true rfl⟩⟩ hl.1 rfl (Nat.le_of_ble_eq_true rfl) dX11_many_64) hP hD hS hA (fun u1552 H locs w1553 hP hD hS => ?_)
              obtain ⟨u1554, u1555, u1556, u1557, u1558, u1559, u1560, u1561, u1562, u1563, f1564, f1565, f1566, f1567, f1568, f1569⟩ := u1552
              obtain ⟨hw1570, hw1571, hw1572, hw1573, hw1574, hw1575⟩ : ((u1554.toInt = 1 ∧ 1 ≤ u1560.toInt ∧ 2 ≤ u1555.toInt ∧ u1555.toInt ≤ 200 ∧ 1 ≤ u1556.toInt ∧ u1556.toInt ≤ 10 ∧ 0 ≤ u1557.toInt ∧ u1557.toInt < u1555.toInt ∧ -9000000000000 ≤ u1559.toInt ∧ u1559.toInt ≤ 9000000000000 ∧ (cin f1565 (u1555.toInt).toNat (u1556.toInt).toNat (u1557.toInt).toNat 600 : Int) ≠ u1561.toInt) ∨ u1554.toInt = 0) ∧ (0 ≤ u1554.toInt ∧ u1554.toInt ≤ 1) ∧ (0 ≤ u1561.toInt ∧ u1561.toInt ≤ 600) ∧ (-60000000 ≤ u1562.toInt ∧ u1562.toInt ≤ 60000000) ∧ (1 ≤ u1563.toInt) ∧ LB f1565 := w1553
              refine W.eq (g2 := F0 m 67 ls [.int u1554]) rfl ?_
              have hP : va_P D vwCl (MW Y o a (upd (upd (upd (upd (upd (upd (upd I 26 g627) 29 u1561) 32 g631) 34 u1555) 35 u1556) 36 u1557) 39 u1558) (vp_updL (vp_updL (vp_updL (vp_updL (vp_updL J 30 u1562) 31 u1563) 33 g632) 37 u1559) 38 u1560) (vf_upd (vf_upd (vf_upd (vf_upd (vf_upd F 1 f1564) 28 f1565) 41 f1567) 43 f1569) 46 f647) (vf_upd (vf_upd (vf_upd (vf_upd G 25 f640) 27 f641) 40 f1566) 42 f1568)) H := hP
              have hD : va_D A (MW Y o a (upd (upd (upd (upd (upd (upd (upd I 26 g627) 29 u1561) 32 g631) 34 u1555) 35 u1556) 36 u1557) 39 u1558) (vp_updL (vp_updL (vp_updL (vp_updL (vp_updL J 30 u1562) 31 u1563) 33 g632) 37 u1559) 38 u1560) (vf_upd (vf_upd (vf_upd (vf_upd (vf_upd F 1 f1564) 28 f1565) 41 f1567) 43 f1569) 46 f647) (vf_upd (vf_upd (vf_upd (vf_upd G 25 f640) 27 f641) 40 f1566) 42 f1568)) := hD
              rcases (show u1554.toInt = 1 ∨ u1554.toInt = 0 by omega) with c1576 | c1576
              · obtain rfl : u1554 = 1 := i_is c1576 (by decide)
                refine W.eq (g2 := F0 m 67 ls [.int 1]) rfl ?_
                refine w_join (σ := Int32 × Int32 × Int32 × Int64 × Int64 × Int32 × Int64 × Int32 × Int32 × Int32 × Int64 × Int64 × Int32 × (Nat → Int32) × (Nat → Int64) × (Nat → Int64) × (Nat → Int32) × (Nat → Int64) × (Nat → Int32) × (Nat → Int64) × (Nat → Int32) × (Nat → Int32)) (pcJ := 133) (kJ := 0) (nJ := 0) (stk := fun xx => match xx with | (g1699, g1700, g1701, g1702, g1703, g1704, g1705, g1706, g1707, g1708, g1709, g1710, g1711, f1712, f1713, f1714, f1715, f1716, f1717, f1718, f1719, f1720) => []) (fun xx H locs ls => match xx with | (g1699, g1700, g1701, g1702, g1703, g1704, g1705, g1706, g1707, g1708, g1709, g1710, g1711, f1712, f1713, f1714, f1715, f1716, f1717, f1718, f1719, f1720) => va_P D vwCl (MW Y o a (upd (upd (upd (upd (upd (upd (upd I 26 g1700) 29 g1701) 32 g1704) 34 g1706) 35 g1707) 36 g1708) 39 g1711) (vp_updL (vp_updL (vp_updL (vp_updL (vp_updL J 30 g1702) 31 g1703) 33 g1705) 37 g1709) 38 g1710) (vf_upd (vf_upd (vf_upd (vf_upd (vf_upd F 1 f1712) 28 f1715) 41 f1717) 43 f1719) 46 f1720) (vf_upd (vf_upd (vf_upd (vf_upd G 25 f1713) 27 f1714) 40 f1716) 42 f1718)) H ∧ va_D A (MW Y o a (upd (upd (upd (upd (upd (upd (upd I 26 g1700) 29 g1701) 32 g1704) 34 g1706) 35 g1707) 36 g1708) 39 g1711) (vp_updL (vp_updL (vp_updL (vp_updL (vp_updL J 30 g1702) 31 g1703) 33 g1705) 37 g1709) 38 g1710) (vf_upd (vf_upd (vf_upd (vf_upd (vf_upd F 1 f1712) 28 f1715) 41 f1717) 43 f1719) 46 f1720) (vf_upd (vf_upd (vf_upd (vf_upd G 25 f1713) 27 f1714) 40 f1716) 42 f1718)) ∧ va_S A s.heap H locs ∧ lv_has ls 8 [(6, .int g1699), (7, .int g625), (0, .ref o), (1, .int p1), (2, .int p2), (3, .int p3), (4, .int p4), (5, .int p5)] ∧ LB f1715 ∧ WG f1720) (fun xx H locs ls hI => ?_) (fun jn1721 => ?_)
                · skip
                  obtain ⟨g1699, g1700, g1701, g1702, g1703, g1704, g1705, g1706, g1707, g1708, g1709, g1710, g1711, f1712, f1713, f1714, f1715, f1716, f1717, f1718, f1719, f1720⟩ := xx
                  obtain ⟨hP, hD, hS, hl, hp1722, hp1723⟩ := hI
                  refine W.eq (g2 := F0 m 133 ls []) rfl ?_
                  obtain ⟨v1724, ev1724⟩ : ∃ y : Int32, y = g625 + 1 := ⟨_, rfl⟩
                  have hv1724 := i_add (Eq.refl g625.toInt) (show (1 : Int32).toInt = 1 by decide) ev1724 (by omega) (by omega)
                  refine lv_iinc (v := v1724) (lv' := [(7, .int v1724), (6, .int g1699), (0, .ref o), (1, .int p1), (2, .int p2), (3, .int p3), (4, .int p4), (5, .int p5)]) hx hb dX11_many_133 hl (k := 1) rfl (by rw [ev1724]; rfl) (by decide) rfl (fun ls hl => ?_)
                  refine lv_goto (tgt := 47) hx hb dX11_many_136 (by decide) ?_
                  exact ih1250 (v1724, g1699, g1700, g1701, g1702, g1703, g1704, g1705, g1706, g1707, g1708, g1709, g1710, g1711, f1712, f1713, f1714, f1715, f1716, f1717, f1718, f1719, f1720) H locs ls (by show (12 - v1724.toInt).toNat < (12 - g625.toInt).toNat; omega) ⟨hP, hD, hS, lv_sub hl [0, 1, 2, 3, 4, 5, 6, 7] rfl, by omega, hp1722, hp1723⟩
                · skip
                  refine lv_if_eq (tgt := 133) hx hb dX11_many_67 (by decide) (fun c1725 => ?_) (fun c1725 => ?_)
                  · exact absurd c1725 (by decide)
                  refine lv_aload_n hx hb dX11_many_70 rfl (lv_at hl 2 rfl) ?_
                  refine lv_iload_n hx hb dX11_many_71 rfl (lv_at hl 3 rfl) ?_
                  refine cga (rn_V (As := [.int p1]) (rest := []) (b := o) (m_isSeen l D Y Z H.size o a (upd (upd (upd (upd (upd (upd (upd I 26 g627) 29 u1561) 32 g631) 34 u1555) 35 u1556) 36 u1557) 39 u1558) (vp_updL (vp_updL (vp_updL (vp_updL (vp_updL J 30 u1562) 31 u1563) 33 g632) 37 u1559) 38 u1560) (vf_upd (vf_upd (vf_upd (vf_upd (vf_upd F 1 f1564) 28 f1565) 41 f1567) 43 f1569) 46 f647) (vf_upd (vf_upd (vf_upd (vf_upd G 25 f640) 27 f641) 40 f1566) 42 f1568)  p1 (show (0 ≤ p1.toInt ∧ p1.toInt ≤ 5) by omega)) ⟨hx, hb, hml, hown, hg⟩ lk_X11_494 ⟨CP.blind, va_recv hKN.1 hP (ci := 11) (q0 := 0) rfl rfl, CP.at hP hKN hD⟩ ⟨⟨rfl, rfl⟩, ⟨Nat.le_of_ble_eq_true rfl, Nat.le_of_ble_eq_true rfl⟩, ⟨Nat.le_of_ble_eq_true rfl, Nat.le_of_ble_eq_true rfl⟩⟩ hl.1 rfl (Nat.le_of_ble_eq_true rfl) dX11_many_72) hP hD hS hA (fun u1726 H locs w1727 hP hD hS => ?_)
                  have hw1729 : (0 ≤ u1726.toInt ∧ u1726.toInt ≤ 1) := w1727
                  clear w1727
                  refine W.eq (g2 := F0 m 75 ls [.int u1726]) rfl ?_
                  have hP : va_P D vwCl (MW Y o a (upd (upd (upd (upd (upd (upd (upd I 26 g627) 29 u1561) 32 g631) 34 u1555) 35 u1556) 36 u1557) 39 u1558) (vp_updL (vp_updL (vp_updL (vp_updL (vp_updL J 30 u1562) 31 u1563) 33 g632) 37 u1559) 38 u1560) (vf_upd (vf_upd (vf_upd (vf_upd (vf_upd F 1 f1564) 28 f1565) 41 f1567) 43 f1569) 46 f647) (vf_upd (vf_upd (vf_upd (vf_upd G 25 f640) 27 f641) 40 f1566) 42 f1568)) H := hP
                  have hD : va_D A (MW Y o a (upd (upd (upd (upd (upd (upd (upd I 26 g627) 29 u1561) 32 g631) 34 u1555) 35 u1556) 36 u1557) 39 u1558) (vp_updL (vp_updL (vp_updL (vp_updL (vp_updL J 30 u1562) 31 u1563) 33 g632) 37 u1559) 38 u1560) (vf_upd (vf_upd (vf_upd (vf_upd (vf_upd F 1 f1564) 28 f1565) 41 f1567) 43 f1569) 46 f647) (vf_upd (vf_upd (vf_upd (vf_upd G 25 f640) 27 f641) 40 f1566) 42 f1568)) := hD
                  rcases (show u1726.toInt = 1 ∨ u1726.toInt = 0 by omega) with c1730 | c1730
                  · obtain rfl : u1726 = 1 := i_is c1730 (by decide)
                    refine W.eq (g2 := F0 m 75 ls [.int 1]) rfl ?_
                    refine lv_if_eq (tgt := 133) hx hb dX11_many_75 (by decide) (fun c1731 => ?_) (fun c1731 => ?_)
                    · exact absurd c1731 (by decide)
                    refine lv_aload_n hx hb dX11_many_78 rfl (lv_at hl 2 rfl) ?_
                    refine lv_iload hx hb dX11_many_79 (lv_at hl 0 rfl) ?_
                    refine cga (rn_V (As := [.int g625]) (rest := []) (b := o) (m_radiusOf l D Y Z H.size o a (upd (upd (upd (upd (upd (upd (upd I 26 g627) 29 u1561) 32 g631) 34 u1555) 35 u1556) 36 u1557) 39 u1558) (vp_updL (vp_updL (vp_updL (vp_updL (vp_updL J 30 u1562) 31 u1563) 33 g632) 37 u1559) 38 u1560) (vf_upd (vf_upd (vf_upd (vf_upd (vf_upd F 1 f1564) 28 f1565) 41 f1567) 43 f1569) 46 f647) (vf_upd (vf_upd (vf_upd (vf_upd G 25 f640) 27 f641) 40 f1566) 42 f1568)  g625 (show (0 ≤ g625.toInt ∧ g625.toInt ≤ 11) by omega) (show (-9000000000000 ≤ u1559.toInt ∧ u1559.toInt ≤ 9000000000000) by omega) hk0) ⟨hx, hb, hml, hown, hg⟩ lk_X11_558 ⟨CP.blind, va_recv hKN.1 hP (ci := 11) (q0 := 0) rfl rfl, CP.at hP hKN hD⟩ ⟨⟨rfl, rfl⟩, ⟨Nat.le_of_ble_eq_true rfl, Nat.le_of_ble_eq_true rfl⟩, ⟨Nat.le_of_ble_eq_true rfl, Nat.le_of_ble_eq_true rfl⟩⟩ hl.1 rfl (Nat.le_of_ble_eq_true rfl) dX11_many_81) hP hD hS hA (fun u1732 H locs w1733 hP hD hS => ?_)
                    refine W.eq (g2 := F0 m 84 ls [.int u1732]) rfl ?_
                    have hP : va_P D vwCl (MW Y o a (upd (upd (upd (upd (upd (upd (upd I 26 g627) 29 u1561) 32 g631) 34 u1555) 35 u1556) 36 u1557) 39 u1558) (vp_updL (vp_updL (vp_updL (vp_updL (vp_updL J 30 u1562) 31 u1563) 33 g632) 37 u1559) 38 u1560) (vf_upd (vf_upd (vf_upd (vf_upd (vf_upd F 1 f1564) 28 f1565) 41 f1567) 43 f1569) 46 f647) (vf_upd (vf_upd (vf_upd (vf_upd G 25 f640) 27 f641) 40 f1566) 42 f1568)) H := hP
                    have hD : va_D A (MW Y o a (upd (upd (upd (upd (upd (upd (upd I 26 g627) 29 u1561) 32 g631) 34 u1555) 35 u1556) 36 u1557) 39 u1558) (vp_updL (vp_updL (vp_updL (vp_updL (vp_updL J 30 u1562) 31 u1563) 33 g632) 37 u1559) 38 u1560) (vf_upd (vf_upd (vf_upd (vf_upd (vf_upd F 1 f1564) 28 f1565) 41 f1567) 43 f1569) 46 f647) (vf_upd (vf_upd (vf_upd (vf_upd G 25 f640) 27 f641) 40 f1566) 42 f1568)) := hD
                    have j1735 := rgI u1732
                    have j1736 := Int32.toInt_toInt64 u1732
                    refine lv_i2l (v := u1732.toInt64) hx hb dX11_many_84 (rfl) ?_
                    refine lv_iload_n hx hb dX11_many_85 rfl (lv_at hl 5 rfl) ?_
                    have j1737 := Int32.toInt_toInt64 p3
                    refine lv_i2l (v := p3.toInt64) hx hb dX11_many_86 (rfl) ?_
                    refine lv_iload hx hb dX11_many_87 (lv_at hl 6 rfl) ?_
                    have j1738 := Int32.toInt_toInt64 p4
                    refine lv_i2l (v := p4.toInt64) hx hb dX11_many_89 (rfl) ?_
                    refine cg0 (rn_S (As := [.long u1732.toInt64, .long p3.toInt64, .long p4.toInt64]) (rest := []) (m_in l D Y Z H.size   u1732.toInt64 p3.toInt64 p4.toInt64 ) ⟨hx, hb, hml, hown, hg⟩ lk_X11_99 ⟨CP.blind, CP.at nilP hKN (nilD (A := fun _ => True))⟩ ⟨⟨rfl, rfl⟩, ⟨Nat.le_of_ble_eq_true rfl, Nat.le_of_ble_eq_true rfl⟩, ⟨Nat.le_of_ble_eq_true rfl, Nat.le_of_ble_eq_true rfl⟩⟩ hl.1 rfl (Nat.le_of_ble_eq_true rfl) dX11_many_90) hP hS hA (fun u1739 H locs w1740 hP hS => ?_)
                    obtain ⟨hw1742, hw1743⟩ : ((p3.toInt64.toInt ≤ u1732.toInt64.toInt ∧ u1732.toInt64.toInt ≤ p4.toInt64.toInt ∧ u1739.toInt = 1) ∨ (¬ (p3.toInt64.toInt ≤ u1732.toInt64.toInt ∧ u1732.toInt64.toInt ≤ p4.toInt64.toInt) ∧ u1739.toInt = 0)) ∧ (0 ≤ u1739.toInt ∧ u1739.toInt ≤ 1) := w1740
                    refine W.eq (g2 := F0 m 93 ls [.int u1739]) rfl ?_
                    rcases (show u1739.toInt = 1 ∨ u1739.toInt = 0 by omega) with c1744 | c1744
                    · obtain rfl : u1739 = 1 := i_is c1744 (by decide)
                      refine W.eq (g2 := F0 m 93 ls [.int 1]) rfl ?_
                      refine lv_if_ne (tgt := 99) hx hb dX11_many_93 (by decide) (fun c1745 => ?_) (fun c1745 => ?_)
                      rotate_left
                      · exact absurd c1745 (by decide)
                      refine lv_iload hx hb dX11_many_99 (lv_at hl 1 rfl) ?_
                      refine lv_iload hx hb dX11_many_101 (lv_at hl 7 rfl) ?_
                      refine lv_iconst (v := 1) hx hb dX11_many_103 (by decide) ?_
                      refine w_join (σ := Int32 × Int32 × Int32 × Int64 × Int64 × Int32 × Int64 × Int32 × Int32 × Int32 × Int64 × Int64 × Int32 × (Nat → Int32) × (Nat → Int64) × (Nat → Int64) × (Nat → Int32) × (Nat → Int64) × (Nat → Int32) × (Nat → Int64) × (Nat → Int32) × (Nat → Int32)) (pcJ := 130) (kJ := 0) (nJ := 0) (stk := fun xx => match xx with | (g1782, g1783, g1784, g1785, g1786, g1787, g1788, g1789, g1790, g1791, g1792, g1793, g1794, f1795, f1796, f1797, f1798, f1799, f1800, f1801, f1802, f1803) => [.int g1782, .int g626]) (fun xx H locs ls => match xx with | (g1782, g1783, g1784, g1785, g1786, g1787, g1788, g1789, g1790, g1791, g1792, g1793, g1794, f1795, f1796, f1797, f1798, f1799, f1800, f1801, f1802, f1803) => va_P D vwCl (MW Y o a (upd (upd (upd (upd (upd (upd (upd I 26 g1783) 29 g1784) 32 g1787) 34 g1789) 35 g1790) 36 g1791) 39 g1794) (vp_updL (vp_updL (vp_updL (vp_updL (vp_updL J 30 g1785) 31 g1786) 33 g1788) 37 g1792) 38 g1793) (vf_upd (vf_upd (vf_upd (vf_upd (vf_upd F 1 f1795) 28 f1798) 41 f1800) 43 f1802) 46 f1803) (vf_upd (vf_upd (vf_upd (vf_upd G 25 f1796) 27 f1797) 40 f1799) 42 f1801)) H ∧ va_D A (MW Y o a (upd (upd (upd (upd (upd (upd (upd I 26 g1783) 29 g1784) 32 g1787) 34 g1789) 35 g1790) 36 g1791) 39 g1794) (vp_updL (vp_updL (vp_updL (vp_updL (vp_updL J 30 g1785) 31 g1786) 33 g1788) 37 g1792) 38 g1793) (vf_upd (vf_upd (vf_upd (vf_upd (vf_upd F 1 f1795) 28 f1798) 41 f1800) 43 f1802) 46 f1803) (vf_upd (vf_upd (vf_upd (vf_upd G 25 f1796) 27 f1797) 40 f1799) 42 f1801)) ∧ va_S A s.heap H locs ∧ lv_has ls 8 [(7, .int g625), (6, .int g626), (0, .ref o), (1, .int p1), (2, .int p2), (3, .int p3), (4, .int p4), (5, .int p5)] ∧ (0 ≤ g1782.toInt ∧ g1782.toInt ≤ 1) ∧ LB f1798 ∧ WG f1803) (fun xx H locs ls hI => ?_) (fun jn1804 => ?_)
                      · skip
                        obtain ⟨g1782, g1783, g1784, g1785, g1786, g1787, g1788, g1789, g1790, g1791, g1792, g1793, g1794, f1795, f1796, f1797, f1798, f1799, f1800, f1801, f1802, f1803⟩ := xx
                        obtain ⟨hP, hD, hS, hl, hq1805, hp1806, hp1807⟩ := hI
                        refine W.eq (g2 := F0 m 130 ls [.int g1782, .int g626]) rfl ?_
                        refine lv_iadd hx hb dX11_many_130 ?_
                        refine lv_topi (fun v1808 ev1808 => ?_)
                        refine lv_istore (lv' := [(6, .int v1808), (7, .int g625), (0, .ref o), (1, .int p1), (2, .int p2), (3, .int p3), (4, .int p4), (5, .int p5)]) hx hb dX11_many_131 hl (by decide) rfl (fun ls hl => ?_)
                        refine W.widen (k := 0) (n := 0) (Nat.le_of_ble_eq_true rfl) (Nat.le_of_ble_eq_true rfl) ?_
                        exact jn1721 (v1808, g1783, g1784, g1785, g1786, g1787, g1788, g1789, g1790, g1791, g1792, g1793, g1794, f1795, f1796, f1797, f1798, f1799, f1800, f1801, f1802, f1803) H locs ls ⟨hP, hD, hS, lv_sub hl [0, 1, 2, 3, 4, 5, 6, 7] rfl, hp1806, hp1807⟩
                      · skip
                        refine lv_icmp_eq (tgt := 125) hx hb dX11_many_104 (by decide) (fun c1809 => ?_) (fun c1809 => ?_)
                        · skip
                          have c1809 := i_eq (Eq.refl p5.toInt) (show (1 : Int32).toInt = 1 by decide) c1809
                          refine lv_iconst (v := 1) hx hb dX11_many_125 (by decide) ?_
                          refine lv_goto (tgt := 130) hx hb dX11_many_126 (by decide) ?_
                          refine W.widen (k := 0) (n := 0) (Nat.le_of_ble_eq_true rfl) (Nat.le_of_ble_eq_true rfl) ?_
                          exact jn1804 (1, g627, u1561, u1562, u1563, g631, g632, u1555, u1556, u1557, u1559, u1560, u1558, f1564, f640, f641, f1565, f1566, f1567, f1568, f1569, f647) H locs ls ⟨hP, hD, hS, lv_sub hl [0, 1, 2, 3, 4, 5, 6, 7] rfl, by omega, hw1575, hp1249⟩
                        · skip
                          have c1809 := i_ne (Eq.refl p5.toInt) (show (1 : Int32).toInt = 1 by decide) c1809
                          refine lv_aload_n hx hb dX11_many_107 rfl (lv_at hl 2 rfl) ?_
                          refine lv_iload_n hx hb dX11_many_108 rfl (lv_at hl 4 rfl) ?_
                          refine lv_iload_n hx hb dX11_many_109 rfl (lv_at hl 3 rfl) ?_
                          refine lv_iload hx hb dX11_many_110 (lv_at hl 0 rfl) ?_
                          refine cga (rn_V (As := [.int p2, .int p1, .int g625]) (rest := [.int g626]) (b := o) (m_weighs l D Y Z H.size o a (upd (upd (upd (upd (upd (upd (upd I 26 g627) 29 u1561) 32 g631) 34 u1555) 35 u1556) 36 u1557) 39 u1558) (vp_updL (vp_updL (vp_updL (vp_updL (vp_updL J 30 u1562) 31 u1563) 33 g632) 37 u1559) 38 u1560) (vf_upd (vf_upd (vf_upd (vf_upd (vf_upd F 1 f1564) 28 f1565) 41 f1567) 43 f1569) 46 f647) (vf_upd (vf_upd (vf_upd (vf_upd G 25 f640) 27 f641) 40 f1566) 42 f1568)  p2 p1 g625 (show (0 ≤ p2.toInt ∧ p2.toInt ≤ 5) by omega) (show (p2.toInt < ((F 4) 2).toInt) by omega) (show (0 ≤ p1.toInt ∧ p1.toInt ≤ 5) by omega) (show (p1.toInt < ((F 4) 1).toInt) by omega) (show (0 ≤ g625.toInt ∧ g625.toInt ≤ 11) by omega) hk0 hw1575 hk2 hk3 hp1249) ⟨hx, hb, hml, hown, hg⟩ lk_X11_543 ⟨CP.blind, va_recv hKN.1 hP (ci := 11) (q0 := 0) rfl rfl, CP.at hP hKN hD⟩ ⟨⟨rfl, rfl⟩, ⟨Nat.le_of_ble_eq_true rfl, Nat.le_of_ble_eq_true rfl⟩, ⟨Nat.le_of_ble_eq_true rfl, Nat.le_of_ble_eq_true rfl⟩⟩ hl.1 rfl (Nat.le_of_ble_eq_true rfl) dX11_many_112) hP hD hS hA (fun u1810 H locs w1811 hP hD hS => ?_)
                          obtain ⟨u1812, u1813, u1814, u1815, u1816, u1817, u1818, u1819, u1820, u1821, u1822, u1823, u1824, f1825, f1826, f1827, f1828, f1829, f1830, f1831, f1832, f1833⟩ := u1810
                          obtain ⟨hw1834, hw1835, hw1836⟩ : (0 ≤ u1812.toInt ∧ u1812.toInt ≤ 1) ∧ LB f1826 ∧ WG f1833 := w1811
                          refine W.eq (g2 := F0 m 115 ls [.int u1812, .int g626]) rfl ?_
                          have hP : va_P D vwCl (MW Y o a (upd (upd (upd (upd (upd (upd (upd I 26 u1824) 29 u1819) 32 u1822) 34 u1813) 35 u1814) 36 u1815) 39 u1816) (vp_updL (vp_updL (vp_updL (vp_updL (vp_updL J 30 u1820) 31 u1821) 33 u1823) 37 u1817) 38 u1818) (vf_upd (vf_upd (vf_upd (vf_upd (vf_upd F 1 f1825) 28 f1826) 41 f1828) 43 f1830) 46 f1833) (vf_upd (vf_upd (vf_upd (vf_upd G 25 f1832) 27 f1831) 40 f1827) 42 f1829)) H := hP
                          have hD : va_D A (MW Y o a (upd (upd (upd (upd (upd (upd (upd I 26 u1824) 29 u1819) 32 u1822) 34 u1813) 35 u1814) 36 u1815) 39 u1816) (vp_updL (vp_updL (vp_updL (vp_updL (vp_updL J 30 u1820) 31 u1821) 33 u1823) 37 u1817) 38 u1818) (vf_upd (vf_upd (vf_upd (vf_upd (vf_upd F 1 f1825) 28 f1826) 41 f1828) 43 f1830) 46 f1833) (vf_upd (vf_upd (vf_upd (vf_upd G 25 f1832) 27 f1831) 40 f1827) 42 f1829)) := hD
                          rcases (show u1812.toInt = 1 ∨ u1812.toInt = 0 by omega) with c1837 | c1837
                          · obtain rfl : u1812 = 1 := i_is c1837 (by decide)
                            refine W.eq (g2 := F0 m 115 ls [.int 1, .int g626]) rfl ?_
                            refine lv_if_eq (tgt := 129) hx hb dX11_many_115 (by decide) (fun c1838 => ?_) (fun c1838 => ?_)
                            · exact absurd c1838 (by decide)
                            refine lv_aload_n hx hb dX11_many_118 rfl (lv_at hl 2 rfl) ?_
                            refine cga (rn_V (As := []) (rest := [.int g626]) (b := o) (m_heaviest l D Y Z H.size o a (upd (upd (upd (upd (upd (upd (upd I 26 u1824) 29 u1819) 32 u1822) 34 u1813) 35 u1814) 36 u1815) 39 u1816) (vp_updL (vp_updL (vp_updL (vp_updL (vp_updL J 30 u1820) 31 u1821) 33 u1823) 37 u1817) 38 u1818) (vf_upd (vf_upd (vf_upd (vf_upd (vf_upd F 1 f1825) 28 f1826) 41 f1828) 43 f1830) 46 f1833) (vf_upd (vf_upd (vf_upd (vf_upd G 25 f1832) 27 f1831) 40 f1827) 42 f1829)   ) ⟨hx, hb, hml, hown, hg⟩ lk_X11_549 ⟨CP.blind, va_recv hKN.1 hP (ci := 11) (q0 := 0) rfl rfl, CP.at hP hKN hD⟩ ⟨⟨rfl, rfl⟩, ⟨Nat.le_of_ble_eq_true rfl, Nat.le_of_ble_eq_true rfl⟩, ⟨Nat.le_of_ble_eq_true rfl, Nat.le_of_ble_eq_true rfl⟩⟩ hl.1 rfl (Nat.le_of_ble_eq_true rfl) dX11_many_119) hP hD hS hA (fun u1839 H locs w1840 hP hD hS => ?_)
                            refine W.eq (g2 := F0 m 122 ls [.int u1839, .int g626]) rfl ?_
                            have hP : va_P D vwCl (MW Y o a (upd (upd (upd (upd (upd (upd (upd I 26 u1824) 29 u1819) 32 u1822) 34 u1813) 35 u1814) 36 u1815) 39 u1816) (vp_updL (vp_updL (vp_updL (vp_updL (vp_updL J 30 u1820) 31 u1821) 33 u1823) 37 u1817) 38 u1818) (vf_upd (vf_upd (vf_upd (vf_upd (vf_upd F 1 f1825) 28 f1826) 41 f1828) 43 f1830) 46 f1833) (vf_upd (vf_upd (vf_upd (vf_upd G 25 f1832) 27 f1831) 40 f1827) 42 f1829)) H := hP
                            have hD : va_D A (MW Y o a (upd (upd (upd (upd (upd (upd (upd I 26 u1824) 29 u1819) 32 u1822) 34 u1813) 35 u1814) 36 u1815) 39 u1816) (vp_updL (vp_updL (vp_updL (vp_updL (vp_updL J 30 u1820) 31 u1821) 33 u1823) 37 u1817) 38 u1818) (vf_upd (vf_upd (vf_upd (vf_upd (vf_upd F 1 f1825) 28 f1826) 41 f1828) 43 f1830) 46 f1833) (vf_upd (vf_upd (vf_upd (vf_upd G 25 f1832) 27 f1831) 40 f1827) 42 f1829)) := hD
                            have j1842 := rgI u1839
                            refine lv_if_ne (tgt := 129) hx hb dX11_many_122 (by decide) (fun c1843 => ?_) (fun c1843 => ?_)
                            · skip
                              have c1843 := i_ne (Eq.refl u1839.toInt) (show (0 : Int32).toInt = 0 by decide) c1843
                              refine lv_iconst (v := 0) hx hb dX11_many_129 (by decide) ?_
                              have zi0 : (0 : Int32).toInt = 0 := by decide
                              refine W.widen (k := 0) (n := 0) (Nat.le_of_ble_eq_true rfl) (Nat.le_of_ble_eq_true rfl) ?_
                              exact jn1804 (0, u1824, u1819, u1820, u1821, u1822, u1823, u1813, u1814, u1815, u1817, u1818, u1816, f1825, f1832, f1831, f1826, f1827, f1828, f1829, f1830, f1833) H locs ls ⟨hP, hD, hS, lv_sub hl [0, 1, 2, 3, 4, 5, 6, 7] rfl, by omega, hw1835, hw1836⟩
                            · skip
                              have c1843 := i_eq (Eq.refl u1839.toInt) (show (0 : Int32).toInt = 0 by decide) c1843
                              refine lv_iconst (v := 1) hx hb dX11_many_125 (by decide) ?_
                              refine lv_goto (tgt := 130) hx hb dX11_many_126 (by decide) ?_
                              refine W.widen (k := 0) (n := 0) (Nat.le_of_ble_eq_true rfl) (Nat.le_of_ble_eq_true rfl) ?_
                              exact jn1804 (1, u1824, u1819, u1820, u1821, u1822, u1823, u1813, u1814, u1815, u1817, u1818, u1816, f1825, f1832, f1831, f1826, f1827, f1828, f1829, f1830, f1833) H locs ls ⟨hP, hD, hS, lv_sub hl [0, 1, 2, 3, 4, 5, 6, 7] rfl, by omega, hw1835, hw1836⟩
                          · obtain rfl : u1812 = 0 := i_is c1837 (by decide)
                            have zi0 : (0 : Int32).toInt = 0 := by decide
                            refine W.eq (g2 := F0 m 115 ls [.int 0, .int g626]) rfl ?_
                            refine lv_if_eq (tgt := 129) hx hb dX11_many_115 (by decide) (fun c1844 => ?_) (fun c1844 => ?_)
                            rotate_left
                            · exact absurd c1844 (by decide)
                            refine lv_iconst (v := 0) hx hb dX11_many_129 (by decide) ?_
                            refine W.widen (k := 0) (n := 0) (Nat.le_of_ble_eq_true rfl) (Nat.le_of_ble_eq_true rfl) ?_
                            exact jn1804 (0, u1824, u1819, u1820, u1821, u1822, u1823, u1813, u1814, u1815, u1817, u1818, u1816, f1825, f1832, f1831, f1826, f1827, f1828, f1829, f1830, f1833) H locs ls ⟨hP, hD, hS, lv_sub hl [0, 1, 2, 3, 4, 5, 6, 7] rfl, by omega, hw1835, hw1836⟩
                    · obtain rfl : u1739 = 0 := i_is c1744 (by decide)
                      have zi0 : (0 : Int32).toInt = 0 := by decide
                      refine W.eq (g2 := F0 m 93 ls [.int 0]) rfl ?_
                      refine lv_if_ne (tgt := 99) hx hb dX11_many_93 (by decide) (fun c1845 => ?_) (fun c1845 => ?_)
                      · exact absurd c1845 (by decide)
                      refine lv_goto (tgt := 133) hx hb dX11_many_96 (by decide) ?_
                      refine W.widen (k := 0) (n := 0) (Nat.le_of_ble_eq_true rfl) (Nat.le_of_ble_eq_true rfl) ?_
                      exact jn1721 (g626, g627, u1561, u1562, u1563, g631, g632, u1555, u1556, u1557, u1559, u1560, u1558, f1564, f640, f641, f1565, f1566, f1567, f1568, f1569, f647) H locs ls ⟨hP, hD, hS, lv_sub hl [1, 0, 2, 3, 4, 5, 6, 7] rfl, hw1575, hp1249⟩
                  · obtain rfl : u1726 = 0 := i_is c1730 (by decide)
                    have zi0 : (0 : Int32).toInt = 0 := by decide
                    refine W.eq (g2 := F0 m 75 ls [.int 0]) rfl ?_
                    refine lv_if_eq (tgt := 133) hx hb dX11_many_75 (by decide) (fun c1846 => ?_) (fun c1846 => ?_)
                    rotate_left
                    · exact absurd c1846 (by decide)
                    refine W.widen (k := 0) (n := 0) (Nat.le_of_ble_eq_true rfl) (Nat.le_of_ble_eq_true rfl) ?_
                    exact jn1721 (g626, g627, u1561, u1562, u1563, g631, g632, u1555, u1556, u1557, u1559, u1560, u1558, f1564, f640, f641, f1565, f1566, f1567, f1568, f1569, f647) H locs ls ⟨hP, hD, hS, lv_sub hl [1, 0, 2, 3, 4, 5, 6, 7] rfl, hw1575, hp1249⟩
              · obtain rfl : u1554 = 0 := i_is c1576 (by decide)
                have zi0 : (0 : Int32).toInt = 0 := by decide
                refine W.eq (g2 := F0 m 67 ls [.int 0]) rfl ?_
                refine lv_if_eq (tgt := 133) hx hb dX11_many_67 (by decide) (fun c1848 => ?_) (fun c1848 => ?_)
                rotate_left
                · exact absurd c1848 (by decide)
                obtain ⟨v1849, ev1849⟩ : ∃ y : Int32, y = g625 + 1 := ⟨_, rfl⟩
                have hv1849 := i_add (Eq.refl g625.toInt) (show (1 : Int32).toInt = 1 by decide) ev1849 (by omega) (by omega)
                refine lv_iinc (v := v1849) (lv' := [(7, .int v1849), (6, .int g626), (0, .ref o), (1, .int p1), (2, .int p2), (3, .int p3), (4, .int p4), (5, .int p5)]) hx hb dX11_many_133 hl (k := 0) rfl (by rw [ev1849]; rfl) (by decide) rfl (fun ls hl => ?_)
                refine lv_goto (tgt := 47) hx hb dX11_many_136 (by decide) ?_
                exact ih1250 (v1849, g626, g627, u1561, u1562, u1563, g631, g632, u1555, u1556, u1557, u1559, u1560, u1558, f1564, f640, f641, f1565, f1566, f1567, f1568, f1569, f647) H locs ls (by show (12 - v1849.toInt).toNat < (12 - g625.toInt).toNat; omega) ⟨hP, hD, hS, lv_sub hl [0, 1, 2, 3, 4, 5, 6, 7] rfl, by omega, hw1575, hp1249⟩
          · obtain rfl : u21 = 0 := i_is c26 (by decide)
            have zi0 : (0 : Int32).toInt = 0 := by decide
            refine W.eq (g2 := F0 m 36 ls [.int 0]) rfl ?_
            refine lv_if_ne (tgt := 41) hx hb dX11_many_36 (by decide) (fun c1850 => ?_) (fun c1850 => ?_)
            · exact absurd c1850 (by decide)
            refine lv_iconst (v := (-1)) hx hb dX11_many_39 (by decide) ?_
            refine W.widen (k := 0) (n := 0) (Nat.le_of_ble_eq_true rfl) (Nat.le_of_ble_eq_true rfl) ?_
            have zim1 : ((-1) : Int32).toInt = -1 := by decide
            exact W.iret (v := (-1)) hx hb hr (fun t ht hW => ⟨⟨((-1), (I 34), (I 35), (I 36), (I 39), (J 37), (J 38), (I 29), (J 30), (J 31), (I 32), (J 33), (I 26), (F 1), (F 28), (G 40), (F 41), (G 42), (F 43), (G 27), (G 25), (F 46)), rfl, ⟨hk1, hk4⟩, CB.mk ht hP hD⟩, hS.F ht⟩) hS.2.2 dX11_many_40
    · obtain rfl : u8 = 0 := i_is c13 (by decide)
      have zi0 : (0 : Int32).toInt = 0 := by decide
      refine W.eq (g2 := F0 m 15 ls [.int 0]) rfl ?_
      refine lv_if_eq (tgt := 39) hx hb dX11_many_15 (by decide) (fun c1851 => ?_) (fun c1851 => ?_)
      rotate_left
      · exact absurd c1851 (by decide)
      refine lv_iconst (v := (-1)) hx hb dX11_many_39 (by decide) ?_
      refine W.widen (k := 0) (n := 0) (Nat.le_of_ble_eq_true rfl) (Nat.le_of_ble_eq_true rfl) ?_
      have zim1 : ((-1) : Int32).toInt = -1 := by decide
      exact W.iret (v := (-1)) hx hb hr (fun t ht hW => ⟨⟨((-1), (I 34), (I 35), (I 36), (I 39), (J 37), (J 38), (I 29), (J 30), (J 31), (I 32), (J 33), (I 26), (F 1), (F 28), (G 40), (F 41), (G 42), (F 43), (G 27), (G 25), (F 46)), rfl, ⟨hk1, hk4⟩, CB.mk ht hP hD⟩, hS.F ht⟩) hS.2.2 dX11_many_40
  · obtain rfl : u1 = 0 := i_is c6 (by decide)
    have zi0 : (0 : Int32).toInt = 0 := by decide
    refine W.eq (g2 := F0 m 6 ls [.int 0]) rfl ?_
    refine lv_if_eq (tgt := 39) hx hb dX11_many_6 (by decide) (fun c1852 => ?_) (fun c1852 => ?_)
    rotate_left
    · exact absurd c1852 (by decide)
    refine lv_iconst (v := (-1)) hx hb dX11_many_39 (by decide) ?_
    refine W.widen (k := 0) (n := 0) (Nat.le_of_ble_eq_true rfl) (Nat.le_of_ble_eq_true rfl) ?_
    have zim1 : ((-1) : Int32).toInt = -1 := by decide
    exact W.iret (v := (-1)) hx hb hr (fun t ht hW => ⟨⟨((-1), (I 34), (I 35), (I 36), (I 39), (J 37), (J 38), (I 29), (J 30), (J 31), (I 32), (J 33), (I 26), (F 1), (F 28), (G 40), (F 41), (G 42), (F 43), (G 27), (G 25), (F 46)), rfl, ⟨hk1, hk4⟩, CB.mk ht hP hD⟩, hS.F ht⟩) hS.2.2 dX11_many_40
