set_option maxHeartbeats 4000000 in
set_option maxRecDepth 100000 in
theorem m_canWeigh (l : Launch) (D : va_G) (Y : Nat → ClassId) (Z : Nat → Nat) (sz : Nat) (o : Nat) (a : Nat → Nat) (I : Nat → Int32) (J : Nat → Int64) (F : Nat → Nat → Int32) (G : Nat → Nat → Int64) (p1 : Int32) (p2 : Int32) (p3 : Int32) (hk0 : TO (F 0)) (hk1 : LB (F 28)) (hk2 : TX (F 4) (F 9) (F 10) (F 11) (F 12) (F 13)) (hk3 : TC (F 4) (F 8) (F 7) (F 5)) : Met l yX11_canWeigh (.code yX11_canWeigh cX11_canWeigh 4 (some .boolean) :: GW) ({ frames := 9, cells := 0, slots := 0, locals := 223 }) (va_Pc [.ref o, .int p1, .int p2, .int p3] (CP D Y Z (MW Y o a I J F G) sz)) (QG (S := Int32 × Int32 × Int32 × Int32 × Int32 × Int64 × Int64 × Int32 × Int64 × Int64 × Int32 × Int64 × Int32 × (Nat → Int32) × (Nat → Int32) × (Nat → Int64) × (Nat → Int32) × (Nat → Int64) × (Nat → Int32) × (Nat → Int64) × (Nat → Int64) × (Nat → Int32)) (fun u => some (.int u.1)) (fun u => (0 ≤ u.1.toInt ∧ u.1.toInt ≤ 1) ∧ LB u.2.2.2.2.2.2.2.2.2.2.2.2.2.2.1) (fun u => CB D (MW Y o a (upd (upd (upd (upd (upd (upd (upd I 26 u.2.2.2.2.2.2.2.2.2.2.2.2.1) 29 u.2.2.2.2.2.2.2.1) 32 u.2.2.2.2.2.2.2.2.2.2.1) 34 u.2.1) 35 u.2.2.1) 36 u.2.2.2.1) 39 u.2.2.2.2.1) (vp_updL (vp_updL (vp_updL (vp_updL (vp_updL J 30 u.2.2.2.2.2.2.2.2.1) 31 u.2.2.2.2.2.2.2.2.2.1) 33 u.2.2.2.2.2.2.2.2.2.2.2.1) 37 u.2.2.2.2.2.1) 38 u.2.2.2.2.2.2.1) (vf_upd (vf_upd (vf_upd (vf_upd (vf_upd F 1 u.2.2.2.2.2.2.2.2.2.2.2.2.2.1) 28 u.2.2.2.2.2.2.2.2.2.2.2.2.2.2.1) 41 u.2.2.2.2.2.2.2.2.2.2.2.2.2.2.2.2.1) 43 u.2.2.2.2.2.2.2.2.2.2.2.2.2.2.2.2.2.2.1) 46 u.2.2.2.2.2.2.2.2.2.2.2.2.2.2.2.2.2.2.2.2.2) (vf_upd (vf_upd (vf_upd (vf_upd G 25 u.2.2.2.2.2.2.2.2.2.2.2.2.2.2.2.2.2.2.2.2.1) 27 u.2.2.2.2.2.2.2.2.2.2.2.2.2.2.2.2.2.2.2.1) 40 u.2.2.2.2.2.2.2.2.2.2.2.2.2.2.2.1) 42 u.2.2.2.2.2.2.2.2.2.2.2.2.2.2.2.2.2.1)) (va_A (MW Y o a I J F G) sz)) (va_A (MW Y o a I J F G) sz)) 0 0 (va_A (MW Y o a I J F G) sz) := by
  refine Met.ofW (cc := cX11_canWeigh) (maxL := 4) (ret := (some .boolean)) (by decide) rfl ?_
  intro p e s m args below meth c s₁ B hml hv
  obtain ⟨rfl, hsz, hP, hKN, hD0⟩ := hv
  have hx := B.exec
  have hb := B.bytes
  have hr := B.returns
  have hts := atoms_spec (ws := .code yX11_canWeigh cX11_canWeigh 4 (some .boolean) :: GW) B.pre
  have hg : ∀ w ∈ GW, w.before _ s = true := fun w h => hts w (List.mem_cons_of_mem _ h)
  have hown : s.vm.findClass RX11 = some m.cls := findClass_of_methodNamed B.named
  have hlocks := B.notSynchronized
  subst hsz
  have hD := hD0.self (sz := s.heap.size)
  generalize hAe : va_A (MW Y o a I J F G) s.heap.size = A at hD ⊢
  have hA : ∀ q : Nat, s.heap.size ≤ q → A q := fun q h => by rw [← hAe]; exact Or.inr h
  clear hAe hD0 hts B
  have hl := lv_entry ([.ref o, .int p1, .int p2, .int p3]) (n := 4) (Nat.le_of_ble_eq_true rfl)
  rw [lg_entry_eq]
  generalize (lg_sl ([.ref o, .int p1, .int p2, .int p3]) ++ List.replicate (4 - (lg_sl ([.ref o, .int p1, .int p2, .int p3])).length) Slot.unset).toArray = ls at hl ⊢
  have hl : lv_has ls 4 [(0, .ref o), (1, .int p1), (2, .int p2), (3, .int p3)] := hl
  refine w_start (A0 := A) hP (fun H locs hP hS => ?_)
  refine lv_aload_n hx hb dX11_canWeigh_0 rfl (lv_at hl 0 rfl) ?_
  refine lv_iconst (v := 2) hx hb dX11_canWeigh_1 (by decide) ?_
  refine lv_iload_n hx hb dX11_canWeigh_2 rfl (lv_at hl 1 rfl) ?_
  have zi2 : (2 : Int32).toInt = 2 := by decide
  refine cga (rn_V (As := [.int 2, .int p1]) (rest := []) (b := o) (m_isText2 l D Y Z H.size o a I J F G  p1 hk2) ⟨hx, hb, hml, hown, hg⟩ lk_X11_366 ⟨CP.blind, va_recv hKN.1 hP (ci := 11) (q0 := 0) rfl rfl, CP.at hP hKN hD⟩ ⟨⟨rfl, rfl⟩, ⟨Nat.le_of_ble_eq_true rfl, Nat.le_of_ble_eq_true rfl⟩, ⟨Nat.le_of_ble_eq_true rfl, Nat.le_of_ble_eq_true rfl⟩⟩ hl.1 rfl (Nat.le_of_ble_eq_true rfl) dX11_canWeigh_3) hP hD hS hA (fun u1 H locs w2 hP hD hS => ?_)
  obtain ⟨hw4, hw5⟩ : ((0 ≤ p1.toInt ∧ p1.toInt ≤ 5 ∧ p1.toInt < ((F 4) 2).toInt ∧ u1.toInt = 1) ∨ u1.toInt = 0) ∧ (0 ≤ u1.toInt ∧ u1.toInt ≤ 1) := w2
  refine W.eq (g2 := F0 m 6 ls [.int u1]) rfl ?_
  have hP : va_P D vwCl (MW Y o a I J F G) H := hP
  have hD : va_D A (MW Y o a I J F G) := hD
  rcases (show u1.toInt = 1 ∨ u1.toInt = 0 by omega) with c6 | c6
  · obtain rfl : u1 = 1 := i_is c6 (by decide)
    have zi1 : (1 : Int32).toInt = 1 := by decide
    refine W.eq (g2 := F0 m 6 ls [.int 1]) rfl ?_
    refine lv_if_eq (tgt := 40) hx hb dX11_canWeigh_6 (by decide) (fun c53 => ?_) (fun c53 => ?_)
    · exact absurd c53 (by decide)
    refine lv_aload_n hx hb dX11_canWeigh_9 rfl (lv_at hl 0 rfl) ?_
    refine lv_iconst (v := 1) hx hb dX11_canWeigh_10 (by decide) ?_
    refine lv_iload_n hx hb dX11_canWeigh_11 rfl (lv_at hl 2 rfl) ?_
    refine cga (rn_V (As := [.int 1, .int p2]) (rest := []) (b := o) (m_isText1 l D Y Z H.size o a I J F G  p2 hk2) ⟨hx, hb, hml, hown, hg⟩ lk_X11_366 ⟨CP.blind, va_recv hKN.1 hP (ci := 11) (q0 := 0) rfl rfl, CP.at hP hKN hD⟩ ⟨⟨rfl, rfl⟩, ⟨Nat.le_of_ble_eq_true rfl, Nat.le_of_ble_eq_true rfl⟩, ⟨Nat.le_of_ble_eq_true rfl, Nat.le_of_ble_eq_true rfl⟩⟩ hl.1 rfl (Nat.le_of_ble_eq_true rfl) dX11_canWeigh_12) hP hD hS hA (fun u54 H locs w55 hP hD hS => ?_)
    obtain ⟨hw57, hw58⟩ : ((0 ≤ p2.toInt ∧ p2.toInt ≤ 5 ∧ p2.toInt < ((F 4) 1).toInt ∧ u54.toInt = 1) ∨ u54.toInt = 0) ∧ (0 ≤ u54.toInt ∧ u54.toInt ≤ 1) := w55
    refine W.eq (g2 := F0 m 15 ls [.int u54]) rfl ?_
    have hP : va_P D vwCl (MW Y o a I J F G) H := hP
    have hD : va_D A (MW Y o a I J F G) := hD
    rcases (show u54.toInt = 1 ∨ u54.toInt = 0 by omega) with c59 | c59
    · obtain rfl : u54 = 1 := i_is c59 (by decide)
      refine W.eq (g2 := F0 m 15 ls [.int 1]) rfl ?_
      refine lv_if_eq (tgt := 40) hx hb dX11_canWeigh_15 (by decide) (fun c98 => ?_) (fun c98 => ?_)
      · exact absurd c98 (by decide)
      refine lv_aload_n hx hb dX11_canWeigh_18 rfl (lv_at hl 0 rfl) ?_
      refine lv_iload_n hx hb dX11_canWeigh_19 rfl (lv_at hl 3 rfl) ?_
      refine cga (rn_V (As := [.int p3]) (rest := []) (b := o) (m_isStar l D Y Z H.size o a I J F G  p3 hk0) ⟨hx, hb, hml, hown, hg⟩ lk_X11_108 ⟨CP.blind, va_recv hKN.1 hP (ci := 11) (q0 := 0) rfl rfl, CP.at hP hKN hD⟩ ⟨⟨rfl, rfl⟩, ⟨Nat.le_of_ble_eq_true rfl, Nat.le_of_ble_eq_true rfl⟩, ⟨Nat.le_of_ble_eq_true rfl, Nat.le_of_ble_eq_true rfl⟩⟩ hl.1 rfl (Nat.le_of_ble_eq_true rfl) dX11_canWeigh_20) hP hD hS hA (fun u99 H locs w100 hP hD hS => ?_)
      obtain ⟨hw102, hw103⟩ : ((0 ≤ p3.toInt ∧ p3.toInt ≤ 11 ∧ p3.toInt < ((F 0) 0).toInt ∧ u99.toInt = 1) ∨ (¬ (0 ≤ p3.toInt ∧ p3.toInt < ((F 0) 0).toInt) ∧ u99.toInt = 0)) ∧ (0 ≤ u99.toInt ∧ u99.toInt ≤ 1) := w100
      refine W.eq (g2 := F0 m 23 ls [.int u99]) rfl ?_
      have hP : va_P D vwCl (MW Y o a I J F G) H := hP
      have hD : va_D A (MW Y o a I J F G) := hD
      rcases (show u99.toInt = 1 ∨ u99.toInt = 0 by omega) with c104 | c104
      · obtain rfl : u99 = 1 := i_is c104 (by decide)
        refine W.eq (g2 := F0 m 23 ls [.int 1]) rfl ?_
        refine lv_if_eq (tgt := 40) hx hb dX11_canWeigh_23 (by decide) (fun c135 => ?_) (fun c135 => ?_)
        · exact absurd c135 (by decide)
        refine lv_aload_n hx hb dX11_canWeigh_26 rfl (lv_at hl 0 rfl) ?_
        refine lv_iload_n hx hb dX11_canWeigh_27 rfl (lv_at hl 1 rfl) ?_
        refine lv_iload_n hx hb dX11_canWeigh_28 rfl (lv_at hl 2 rfl) ?_
        refine lv_iload_n hx hb dX11_canWeigh_29 rfl (lv_at hl 3 rfl) ?_
        refine cga (rn_V (As := [.int p1, .int p2, .int p3]) (rest := []) (b := o) (m_weighs l D Y Z H.size o a I J F G  p1 p2 p3 (show (0 ≤ p1.toInt ∧ p1.toInt ≤ 5) by omega) (show (p1.toInt < ((F 4) 2).toInt) by omega) (show (0 ≤ p2.toInt ∧ p2.toInt ≤ 5) by omega) (show (p2.toInt < ((F 4) 1).toInt) by omega) (show (0 ≤ p3.toInt ∧ p3.toInt ≤ 11) by omega) hk0 hk1 hk2 hk3) ⟨hx, hb, hml, hown, hg⟩ lk_X11_543 ⟨CP.blind, va_recv hKN.1 hP (ci := 11) (q0 := 0) rfl rfl, CP.at hP hKN hD⟩ ⟨⟨rfl, rfl⟩, ⟨Nat.le_of_ble_eq_true rfl, Nat.le_of_ble_eq_true rfl⟩, ⟨Nat.le_of_ble_eq_true rfl, Nat.le_of_ble_eq_true rfl⟩⟩ hl.1 rfl (Nat.le_of_ble_eq_true rfl) dX11_canWeigh_30) hP hD hS hA (fun u136 H locs w137 hP hD hS => ?_)
        obtain ⟨u138, u139, u140, u141, u142, u143, u144, u145, u146, u147, u148, u149, u150, f151, f152, f153, f154, f155, f156, f157, f158, f159⟩ := u136
        obtain ⟨hw160, hw161⟩ : (0 ≤ u138.toInt ∧ u138.toInt ≤ 1) ∧ LB f152 := w137
        refine W.eq (g2 := F0 m 33 ls [.int u138]) rfl ?_
        have hP : va_P D vwCl (MW Y o a (upd (upd (upd (upd (upd (upd (upd I 26 u150) 29 u145) 32 u148) 34 u139) 35 u140) 36 u141) 39 u142) (vp_updL (vp_updL (vp_updL (vp_updL (vp_updL J 30 u146) 31 u147) 33 u149) 37 u143) 38 u144) (vf_upd (vf_upd (vf_upd (vf_upd (vf_upd F 1 f151) 28 f152) 41 f154) 43 f156) 46 f159) (vf_upd (vf_upd (vf_upd (vf_upd G 25 f158) 27 f157) 40 f153) 42 f155)) H := hP
        have hD : va_D A (MW Y o a (upd (upd (upd (upd (upd (upd (upd I 26 u150) 29 u145) 32 u148) 34 u139) 35 u140) 36 u141) 39 u142) (vp_updL (vp_updL (vp_updL (vp_updL (vp_updL J 30 u146) 31 u147) 33 u149) 37 u143) 38 u144) (vf_upd (vf_upd (vf_upd (vf_upd (vf_upd F 1 f151) 28 f152) 41 f154) 43 f156) 46 f159) (vf_upd (vf_upd (vf_upd (vf_upd G 25 f158) 27 f157) 40 f153) 42 f155)) := hD
        rcases (show u138.toInt = 1 ∨ u138.toInt = 0 by omega) with c162 | c162
        · obtain rfl : u138 = 1 := i_is c162 (by decide)
          refine W.eq (g2 := F0 m 33 ls [.int 1]) rfl ?_
          refine lv_if_eq (tgt := 40) hx hb dX11_canWeigh_33 (by decide) (fun c164 => ?_) (fun c164 => ?_)
          · exact absurd c164 (by decide)
          refine lv_iconst (v := 1) hx hb dX11_canWeigh_36 (by decide) ?_
          refine lv_goto (tgt := 41) hx hb dX11_canWeigh_37 (by decide) ?_
          refine W.widen (k := 0) (n := 0) (Nat.le_of_ble_eq_true rfl) (Nat.le_of_ble_eq_true rfl) ?_
          exact W.zret (v := 1) hx hb hr (by decide) (fun t ht hW => ⟨⟨(1, u139, u140, u141, u142, u143, u144, u145, u146, u147, u148, u149, u150, f151, f152, f153, f154, f155, f156, f157, f158, f159), rfl, ⟨(show (0 ≤ (1 : Int32).toInt ∧ (1 : Int32).toInt ≤ 1) by omega), hw161⟩, CB.mk ht hP hD⟩, hS.F ht⟩) hS.2.2 dX11_canWeigh_41
        · obtain rfl : u138 = 0 := i_is c162 (by decide)
          have zi0 : (0 : Int32).toInt = 0 := by decide
          refine W.eq (g2 := F0 m 33 ls [.int 0]) rfl ?_
          refine lv_if_eq (tgt := 40) hx hb dX11_canWeigh_33 (by decide) (fun c166 => ?_) (fun c166 => ?_)
          rotate_left
          · exact absurd c166 (by decide)
          refine lv_iconst (v := 0) hx hb dX11_canWeigh_40 (by decide) ?_
          refine W.widen (k := 0) (n := 0) (Nat.le_of_ble_eq_true rfl) (Nat.le_of_ble_eq_true rfl) ?_
          exact W.zret (v := 0) hx hb hr (by decide) (fun t ht hW => ⟨⟨(0, u139, u140, u141, u142, u143, u144, u145, u146, u147, u148, u149, u150, f151, f152, f153, f154, f155, f156, f157, f158, f159), rfl, ⟨(show (0 ≤ (0 : Int32).toInt ∧ (0 : Int32).toInt ≤ 1) by omega), hw161⟩, CB.mk ht hP hD⟩, hS.F ht⟩) hS.2.2 dX11_canWeigh_41
      · obtain rfl : u99 = 0 := i_is c104 (by decide)
        have zi0 : (0 : Int32).toInt = 0 := by decide
        refine W.eq (g2 := F0 m 23 ls [.int 0]) rfl ?_
        refine lv_if_eq (tgt := 40) hx hb dX11_canWeigh_23 (by decide) (fun c168 => ?_) (fun c168 => ?_)
        rotate_left
        · exact absurd c168 (by decide)
        refine lv_iconst (v := 0) hx hb dX11_canWeigh_40 (by decide) ?_
        refine W.widen (k := 0) (n := 0) (Nat.le_of_ble_eq_true rfl) (Nat.le_of_ble_eq_true rfl) ?_
        exact W.zret (v := 0) hx hb hr (by decide) (fun t ht hW => ⟨⟨(0, (I 34), (I 35), (I 36), (I 39), (J 37), (J 38), (I 29), (J 30), (J 31), (I 32), (J 33), (I 26), (F 1), (F 28), (G 40), (F 41), (G 42), (F 43), (G 27), (G 25), (F 46)), rfl, ⟨(show (0 ≤ (0 : Int32).toInt ∧ (0 : Int32).toInt ≤ 1) by omega), hk1⟩, CB.mk ht hP hD⟩, hS.F ht⟩) hS.2.2 dX11_canWeigh_41
    · obtain rfl : u54 = 0 := i_is c59 (by decide)
      have zi0 : (0 : Int32).toInt = 0 := by decide
      refine W.eq (g2 := F0 m 15 ls [.int 0]) rfl ?_
      refine lv_if_eq (tgt := 40) hx hb dX11_canWeigh_15 (by decide) (fun c170 => ?_) (fun c170 => ?_)
      rotate_left
      · exact absurd c170 (by decide)
      refine lv_iconst (v := 0) hx hb dX11_canWeigh_40 (by decide) ?_
      refine W.widen (k := 0) (n := 0) (Nat.le_of_ble_eq_true rfl) (Nat.le_of_ble_eq_true rfl) ?_
      exact W.zret (v := 0) hx hb hr (by decide) (fun t ht hW => ⟨⟨(0, (I 34), (I 35), (I 36), (I 39), (J 37), (J 38), (I 29), (J 30), (J 31), (I 32), (J 33), (I 26), (F 1), (F 28), (G 40), (F 41), (G 42), (F 43), (G 27), (G 25), (F 46)), rfl, ⟨(show (0 ≤ (0 : Int32).toInt ∧ (0 : Int32).toInt ≤ 1) by omega), hk1⟩, CB.mk ht hP hD⟩, hS.F ht⟩) hS.2.2 dX11_canWeigh_41
  · obtain rfl : u1 = 0 := i_is c6 (by decide)
    have zi0 : (0 : Int32).toInt = 0 := by decide
    refine W.eq (g2 := F0 m 6 ls [.int 0]) rfl ?_
    refine lv_if_eq (tgt := 40) hx hb dX11_canWeigh_6 (by decide) (fun c172 => ?_) (fun c172 => ?_)
    rotate_left
    · exact absurd c172 (by decide)
    refine lv_iconst (v := 0) hx hb dX11_canWeigh_40 (by decide) ?_
    refine W.widen (k := 0) (n := 0) (Nat.le_of_ble_eq_true rfl) (Nat.le_of_ble_eq_true rfl) ?_
    exact W.zret (v := 0) hx hb hr (by decide) (fun t ht hW => ⟨⟨(0, (I 34), (I 35), (I 36), (I 39), (J 37), (J 38), (I 29), (J 30), (J 31), (I 32), (J 33), (I 26), (F 1), (F 28), (G 40), (F 41), (G 42), (F 43), (G 27), (G 25), (F 46)), rfl, ⟨(show (0 ≤ (0 : Int32).toInt ∧ (0 : Int32).toInt ≤ 1) by omega), hk1⟩, CB.mk ht hP hD⟩, hS.F ht⟩) hS.2.2 dX11_canWeigh_41
set_option maxHeartbeats 4000000 in
set_option maxRecDepth 100000 in
theorem m_weight (l : Launch) (D : va_G) (Y : Nat → ClassId) (Z : Nat → Nat) (sz : Nat) (o : Nat) (a : Nat → Nat) (I : Nat → Int32) (J : Nat → Int64) (F : Nat → Nat → Int32) (G : Nat → Nat → Int64) (p1 : Int32) (p2 : Int32) (p3 : Int32) (p4 : Int32) (hk0 : TO (F 0)) (hk1 : LB (F 28)) (hk2 : TX (F 4) (F 9) (F 10) (F 11) (F 12) (F 13)) (hk3 : TC (F 4) (F 8) (F 7) (F 5)) : Met l yX11_weight (.code yX11_weight cX11_weight 5 (some .int) :: GW) ({ frames := 10, cells := 0, slots := 0, locals := 246 }) (va_Pc [.ref o, .int p1, .int p2, .int p3, .int p4] (CP D Y Z (MW Y o a I J F G) sz)) (QG (S := Int32 × Int32 × Int32 × Int32 × Int32 × Int64 × Int64 × Int32 × Int64 × Int64 × Int32 × Int64 × Int32 × (Nat → Int32) × (Nat → Int32) × (Nat → Int64) × (Nat → Int32) × (Nat → Int64) × (Nat → Int32) × (Nat → Int64) × (Nat → Int64) × (Nat → Int32)) (fun u => some (.int u.1)) (fun u => LB u.2.2.2.2.2.2.2.2.2.2.2.2.2.2.1) (fun u => CB D (MW Y o a (upd (upd (upd (upd (upd (upd (upd I 26 u.2.2.2.2.2.2.2.2.2.2.2.2.1) 29 u.2.2.2.2.2.2.2.1) 32 u.2.2.2.2.2.2.2.2.2.2.1) 34 u.2.1) 35 u.2.2.1) 36 u.2.2.2.1) 39 u.2.2.2.2.1) (vp_updL (vp_updL (vp_updL (vp_updL (vp_updL J 30 u.2.2.2.2.2.2.2.2.1) 31 u.2.2.2.2.2.2.2.2.2.1) 33 u.2.2.2.2.2.2.2.2.2.2.2.1) 37 u.2.2.2.2.2.1) 38 u.2.2.2.2.2.2.1) (vf_upd (vf_upd (vf_upd (vf_upd (vf_upd F 1 u.2.2.2.2.2.2.2.2.2.2.2.2.2.1) 28 u.2.2.2.2.2.2.2.2.2.2.2.2.2.2.1) 41 u.2.2.2.2.2.2.2.2.2.2.2.2.2.2.2.2.1) 43 u.2.2.2.2.2.2.2.2.2.2.2.2.2.2.2.2.2.2.1) 46 u.2.2.2.2.2.2.2.2.2.2.2.2.2.2.2.2.2.2.2.2.2) (vf_upd (vf_upd (vf_upd (vf_upd G 25 u.2.2.2.2.2.2.2.2.2.2.2.2.2.2.2.2.2.2.2.2.1) 27 u.2.2.2.2.2.2.2.2.2.2.2.2.2.2.2.2.2.2.2.1) 40 u.2.2.2.2.2.2.2.2.2.2.2.2.2.2.2.1) 42 u.2.2.2.2.2.2.2.2.2.2.2.2.2.2.2.2.2.1)) (va_A (MW Y o a I J F G) sz)) (va_A (MW Y o a I J F G) sz)) 0 0 (va_A (MW Y o a I J F G) sz) := by
  refine Met.ofW (cc := cX11_weight) (maxL := 5) (ret := (some .int)) (by decide) rfl ?_
  intro p e s m args below meth c s₁ B hml hv
  obtain ⟨rfl, hsz, hP, hKN, hD0⟩ := hv
  have hx := B.exec
  have hb := B.bytes
  have hr := B.returns
  have hts := atoms_spec (ws := .code yX11_weight cX11_weight 5 (some .int) :: GW) B.pre
  have hg : ∀ w ∈ GW, w.before _ s = true := fun w h => hts w (List.mem_cons_of_mem _ h)
  have hown : s.vm.findClass RX11 = some m.cls := findClass_of_methodNamed B.named
  have hlocks := B.notSynchronized
  subst hsz
  have hD := hD0.self (sz := s.heap.size)
  generalize hAe : va_A (MW Y o a I J F G) s.heap.size = A at hD ⊢
  have hA : ∀ q : Nat, s.heap.size ≤ q → A q := fun q h => by rw [← hAe]; exact Or.inr h
  clear hAe hD0 hts B
  have hl := lv_entry ([.ref o, .int p1, .int p2, .int p3, .int p4]) (n := 5) (Nat.le_of_ble_eq_true rfl)
  rw [lg_entry_eq]
  generalize (lg_sl ([.ref o, .int p1, .int p2, .int p3, .int p4]) ++ List.replicate (5 - (lg_sl ([.ref o, .int p1, .int p2, .int p3, .int p4])).length) Slot.unset).toArray = ls at hl ⊢
  have hl : lv_has ls 5 [(0, .ref o), (1, .int p1), (2, .int p2), (3, .int p3), (4, .int p4)] := hl
  refine w_start (A0 := A) hP (fun H locs hP hS => ?_)
  refine lv_iload hx hb dX11_weight_0 (lv_at hl 4 rfl) ?_
  have j1 := rgI p4
  have j2 := Int32.toInt_toInt64 p4
  refine lv_i2l (v := p4.toInt64) hx hb dX11_weight_2 (rfl) ?_
  refine lv_lconst (v := 0) hx hb dX11_weight_3 (by decide) ?_
  refine lv_ldc2 (v := 4) hx hb hown (hg _ kw_1665) dX11_weight_4 ?_
  have zl0 : (0 : Int64).toInt = 0 := by decide
  have zl4 : (4 : Int64).toInt = 4 := by decide
  refine cg0 (rn_S (As := [.long p4.toInt64, .long 0, .long 4]) (rest := []) (m_in l D Y Z H.size   p4.toInt64 0 4 ) ⟨hx, hb, hml, hown, hg⟩ lk_X11_99 ⟨CP.blind, CP.at nilP hKN (nilD (A := fun _ => True))⟩ ⟨⟨rfl, rfl⟩, ⟨Nat.le_of_ble_eq_true rfl, Nat.le_of_ble_eq_true rfl⟩, ⟨Nat.le_of_ble_eq_true rfl, Nat.le_of_ble_eq_true rfl⟩⟩ hl.1 rfl (Nat.le_of_ble_eq_true rfl) dX11_weight_7) hP hS hA (fun u3 H locs w4 hP hS => ?_)
  obtain ⟨hw6, hw7⟩ : (((0 : Int64).toInt ≤ p4.toInt64.toInt ∧ p4.toInt64.toInt ≤ (4 : Int64).toInt ∧ u3.toInt = 1) ∨ (¬ ((0 : Int64).toInt ≤ p4.toInt64.toInt ∧ p4.toInt64.toInt ≤ (4 : Int64).toInt) ∧ u3.toInt = 0)) ∧ (0 ≤ u3.toInt ∧ u3.toInt ≤ 1) := w4
  refine W.eq (g2 := F0 m 10 ls [.int u3]) rfl ?_
  rcases (show u3.toInt = 1 ∨ u3.toInt = 0 by omega) with c8 | c8
  · obtain rfl : u3 = 1 := i_is c8 (by decide)
    have zi1 : (1 : Int32).toInt = 1 := by decide
    refine W.eq (g2 := F0 m 10 ls [.int 1]) rfl ?_
    refine lv_if_eq (tgt := 33) hx hb dX11_weight_10 (by decide) (fun c40 => ?_) (fun c40 => ?_)
    · exact absurd c40 (by decide)
    refine lv_aload_n hx hb dX11_weight_13 rfl (lv_at hl 0 rfl) ?_
    refine lv_iload_n hx hb dX11_weight_14 rfl (lv_at hl 1 rfl) ?_
    refine lv_iload_n hx hb dX11_weight_15 rfl (lv_at hl 2 rfl) ?_
    refine lv_iload_n hx hb dX11_weight_16 rfl (lv_at hl 3 rfl) ?_
    refine cga (rn_V (As := [.int p1, .int p2, .int p3]) (rest := []) (b := o) (m_canWeigh l D Y Z H.size o a I J F G  p1 p2 p3 hk0 hk1 hk2 hk3) ⟨hx, hb, hml, hown, hg⟩ lk_X11_546 ⟨CP.blind, va_recv hKN.1 hP (ci := 11) (q0 := 0) rfl rfl, CP.at hP hKN hD⟩ ⟨⟨rfl, rfl⟩, ⟨Nat.le_of_ble_eq_true rfl, Nat.le_of_ble_eq_true rfl⟩, ⟨Nat.le_of_ble_eq_true rfl, Nat.le_of_ble_eq_true rfl⟩⟩ hl.1 rfl (Nat.le_of_ble_eq_true rfl) dX11_weight_17) hP hD hS hA (fun u41 H locs w42 hP hD hS => ?_)
    obtain ⟨u43, u44, u45, u46, u47, u48, u49, u50, u51, u52, u53, u54, u55, f56, f57, f58, f59, f60, f61, f62, f63, f64⟩ := u41
    obtain ⟨hw65, hw66⟩ : (0 ≤ u43.toInt ∧ u43.toInt ≤ 1) ∧ LB f57 := w42
    refine W.eq (g2 := F0 m 20 ls [.int u43]) rfl ?_
    have hP : va_P D vwCl (MW Y o a (upd (upd (upd (upd (upd (upd (upd I 26 u55) 29 u50) 32 u53) 34 u44) 35 u45) 36 u46) 39 u47) (vp_updL (vp_updL (vp_updL (vp_updL (vp_updL J 30 u51) 31 u52) 33 u54) 37 u48) 38 u49) (vf_upd (vf_upd (vf_upd (vf_upd (vf_upd F 1 f56) 28 f57) 41 f59) 43 f61) 46 f64) (vf_upd (vf_upd (vf_upd (vf_upd G 25 f63) 27 f62) 40 f58) 42 f60)) H := hP
    have hD : va_D A (MW Y o a (upd (upd (upd (upd (upd (upd (upd I 26 u55) 29 u50) 32 u53) 34 u44) 35 u45) 36 u46) 39 u47) (vp_updL (vp_updL (vp_updL (vp_updL (vp_updL J 30 u51) 31 u52) 33 u54) 37 u48) 38 u49) (vf_upd (vf_upd (vf_upd (vf_upd (vf_upd F 1 f56) 28 f57) 41 f59) 43 f61) 46 f64) (vf_upd (vf_upd (vf_upd (vf_upd G 25 f63) 27 f62) 40 f58) 42 f60)) := hD
    rcases (show u43.toInt = 1 ∨ u43.toInt = 0 by omega) with c67 | c67
    · obtain rfl : u43 = 1 := i_is c67 (by decide)
      refine W.eq (g2 := F0 m 20 ls [.int 1]) rfl ?_
      refine lv_if_eq (tgt := 33) hx hb dX11_weight_20 (by decide) (fun c70 => ?_) (fun c70 => ?_)
      · exact absurd c70 (by decide)
      refine lv_aload_n hx hb dX11_weight_23 rfl (lv_at hl 0 rfl) ?_
      refine va_get (D := D) (ci := 11) (v := .ref (a 46)) (C := RX11) (T := TX11) (N := 49) hx hb hg inGX11 hown hKN.1 hP 0 rfl rfl 46 (by decide) (hg _ kw_1254) (fun _ h9 => h9) rfl dX11_weight_24 ?_
      refine lv_iload hx hb dX11_weight_27 (lv_at hl 4 rfl) ?_
      refine va_iald hx hb hKN.1 hP 26 0 rfl rfl (vp_in_iff.mpr ⟨by omega, by omega⟩) dX11_weight_29 ?_
      refine lv_topi (fun v71 ev71 => ?_)
      have ev71 : v71 = f64 p4.toNatClampNeg := ev71
      refine lv_goto (tgt := 34) hx hb dX11_weight_30 (by decide) ?_
      refine W.widen (k := 0) (n := 0) (Nat.le_of_ble_eq_true rfl) (Nat.le_of_ble_eq_true rfl) ?_
      exact W.iret (v := v71) hx hb hr (fun t ht hW => ⟨⟨(v71, u44, u45, u46, u47, u48, u49, u50, u51, u52, u53, u54, u55, f56, f57, f58, f59, f60, f61, f62, f63, f64), rfl, (hw66), CB.mk ht hP hD⟩, hS.F ht⟩) hS.2.2 dX11_weight_34
    · obtain rfl : u43 = 0 := i_is c67 (by decide)
      have zi0 : (0 : Int32).toInt = 0 := by decide
      refine W.eq (g2 := F0 m 20 ls [.int 0]) rfl ?_
      refine lv_if_eq (tgt := 33) hx hb dX11_weight_20 (by decide) (fun c73 => ?_) (fun c73 => ?_)
      rotate_left
      · exact absurd c73 (by decide)
      refine lv_iconst (v := (-1)) hx hb dX11_weight_33 (by decide) ?_
      refine W.widen (k := 0) (n := 0) (Nat.le_of_ble_eq_true rfl) (Nat.le_of_ble_eq_true rfl) ?_
      have zim1 : ((-1) : Int32).toInt = -1 := by decide
      exact W.iret (v := (-1)) hx hb hr (fun t ht hW => ⟨⟨((-1), u44, u45, u46, u47, u48, u49, u50, u51, u52, u53, u54, u55, f56, f57, f58, f59, f60, f61, f62, f63, f64), rfl, (hw66), CB.mk ht hP hD⟩, hS.F ht⟩) hS.2.2 dX11_weight_34
  · obtain rfl : u3 = 0 := i_is c8 (by decide)
    have zi0 : (0 : Int32).toInt = 0 := by decide
    refine W.eq (g2 := F0 m 10 ls [.int 0]) rfl ?_
    refine lv_if_eq (tgt := 33) hx hb dX11_weight_10 (by decide) (fun c75 => ?_) (fun c75 => ?_)
    rotate_left
    · exact absurd c75 (by decide)
    refine lv_iconst (v := (-1)) hx hb dX11_weight_33 (by decide) ?_
    refine W.widen (k := 0) (n := 0) (Nat.le_of_ble_eq_true rfl) (Nat.le_of_ble_eq_true rfl) ?_
    have zim1 : ((-1) : Int32).toInt = -1 := by decide
    exact W.iret (v := (-1)) hx hb hr (fun t ht hW => ⟨⟨((-1), (I 34), (I 35), (I 36), (I 39), (J 37), (J 38), (I 29), (J 30), (J 31), (I 32), (J 33), (I 26), (F 1), (F 28), (G 40), (F 41), (G 42), (F 43), (G 27), (G 25), (F 46)), rfl, (hk1), CB.mk ht hP hD⟩, hS.F ht⟩) hS.2.2 dX11_weight_34
set_option maxHeartbeats 4000000 in
set_option maxRecDepth 100000 in
theorem m_sorted (l : Launch) (D : va_G) (Y : Nat → ClassId) (Z : Nat → Nat) (sz : Nat) (o : Nat) (a : Nat → Nat) (I : Nat → Int32) (J : Nat → Int64) (F : Nat → Nat → Int32) (G : Nat → Nat → Int64) (p1 : Int32) (p2 : Int32) (p3 : Int32) (hk0 : TO (F 0)) (hk1 : LB (F 28)) (hk2 : TX (F 4) (F 9) (F 10) (F 11) (F 12) (F 13)) (hk3 : TC (F 4) (F 8) (F 7) (F 5)) : Met l yX11_sorted (.code yX11_sorted cX11_sorted 4 (some .int) :: GW) ({ frames := 10, cells := 0, slots := 0, locals := 246 }) (va_Pc [.ref o, .int p1, .int p2, .int p3] (CP D Y Z (MW Y o a I J F G) sz)) (QG (S := Int32 × Int32 × Int32 × Int32 × Int32 × Int64 × Int64 × Int32 × Int64 × Int64 × Int32 × Int64 × Int32 × (Nat → Int32) × (Nat → Int32) × (Nat → Int64) × (Nat → Int32) × (Nat → Int64) × (Nat → Int32) × (Nat → Int64) × (Nat → Int64) × (Nat → Int32)) (fun u => some (.int u.1)) (fun u => LB u.2.2.2.2.2.2.2.2.2.2.2.2.2.2.1) (fun u => CB D (MW Y o a (upd (upd (upd (upd (upd (upd (upd I 26 u.2.2.2.2.2.2.2.2.2.2.2.2.1) 29 u.2.2.2.2.2.2.2.1) 32 u.2.2.2.2.2.2.2.2.2.2.1) 34 u.2.1) 35 u.2.2.1) 36 u.2.2.2.1) 39 u.2.2.2.2.1) (vp_updL (vp_updL (vp_updL (vp_updL (vp_updL J 30 u.2.2.2.2.2.2.2.2.1) 31 u.2.2.2.2.2.2.2.2.2.1) 33 u.2.2.2.2.2.2.2.2.2.2.2.1) 37 u.2.2.2.2.2.1) 38 u.2.2.2.2.2.2.1) (vf_upd (vf_upd (vf_upd (vf_upd (vf_upd F 1 u.2.2.2.2.2.2.2.2.2.2.2.2.2.1) 28 u.2.2.2.2.2.2.2.2.2.2.2.2.2.2.1) 41 u.2.2.2.2.2.2.2.2.2.2.2.2.2.2.2.2.1) 43 u.2.2.2.2.2.2.2.2.2.2.2.2.2.2.2.2.2.2.1) 46 u.2.2.2.2.2.2.2.2.2.2.2.2.2.2.2.2.2.2.2.2.2) (vf_upd (vf_upd (vf_upd (vf_upd G 25 u.2.2.2.2.2.2.2.2.2.2.2.2.2.2.2.2.2.2.2.2.1) 27 u.2.2.2.2.2.2.2.2.2.2.2.2.2.2.2.2.2.2.2.1) 40 u.2.2.2.2.2.2.2.2.2.2.2.2.2.2.2.1) 42 u.2.2.2.2.2.2.2.2.2.2.2.2.2.2.2.2.2.1)) (va_A (MW Y o a I J F G) sz)) (va_A (MW Y o a I J F G) sz)) 0 0 (va_A (MW Y o a I J F G) sz) := by
  refine Met.ofW (cc := cX11_sorted) (maxL := 4) (ret := (some .int)) (by decide) rfl ?_
  intro p e s m args below meth c s₁ B hml hv
  obtain ⟨rfl, hsz, hP, hKN, hD0⟩ := hv
  have hx := B.exec
  have hb := B.bytes
  have hr := B.returns
  have hts := atoms_spec (ws := .code yX11_sorted cX11_sorted 4 (some .int) :: GW) B.pre
  have hg : ∀ w ∈ GW, w.before _ s = true := fun w h => hts w (List.mem_cons_of_mem _ h)
  have hown : s.vm.findClass RX11 = some m.cls := findClass_of_methodNamed B.named
  have hlocks := B.notSynchronized
  subst hsz
  have hD := hD0.self (sz := s.heap.size)
  generalize hAe : va_A (MW Y o a I J F G) s.heap.size = A at hD ⊢
  have hA : ∀ q : Nat, s.heap.size ≤ q → A q := fun q h => by rw [← hAe]; exact Or.inr h
  clear hAe hD0 hts B
  have hl := lv_entry ([.ref o, .int p1, .int p2, .int p3]) (n := 4) (Nat.le_of_ble_eq_true rfl)
  rw [lg_entry_eq]
  generalize (lg_sl ([.ref o, .int p1, .int p2, .int p3]) ++ List.replicate (4 - (lg_sl ([.ref o, .int p1, .int p2, .int p3])).length) Slot.unset).toArray = ls at hl ⊢
  have hl : lv_has ls 4 [(0, .ref o), (1, .int p1), (2, .int p2), (3, .int p3)] := hl
  refine w_start (A0 := A) hP (fun H locs hP hS => ?_)
  refine lv_aload_n hx hb dX11_sorted_0 rfl (lv_at hl 0 rfl) ?_
  refine lv_iload_n hx hb dX11_sorted_1 rfl (lv_at hl 1 rfl) ?_
  refine lv_iload_n hx hb dX11_sorted_2 rfl (lv_at hl 2 rfl) ?_
  refine lv_iload_n hx hb dX11_sorted_3 rfl (lv_at hl 3 rfl) ?_
  refine cga (rn_V (As := [.int p1, .int p2, .int p3]) (rest := []) (b := o) (m_canWeigh l D Y Z H.size o a I J F G  p1 p2 p3 hk0 hk1 hk2 hk3) ⟨hx, hb, hml, hown, hg⟩ lk_X11_546 ⟨CP.blind, va_recv hKN.1 hP (ci := 11) (q0 := 0) rfl rfl, CP.at hP hKN hD⟩ ⟨⟨rfl, rfl⟩, ⟨Nat.le_of_ble_eq_true rfl, Nat.le_of_ble_eq_true rfl⟩, ⟨Nat.le_of_ble_eq_true rfl, Nat.le_of_ble_eq_true rfl⟩⟩ hl.1 rfl (Nat.le_of_ble_eq_true rfl) dX11_sorted_4) hP hD hS hA (fun u1 H locs w2 hP hD hS => ?_)
  obtain ⟨u3, u4, u5, u6, u7, u8, u9, u10, u11, u12, u13, u14, u15, f16, f17, f18, f19, f20, f21, f22, f23, f24⟩ := u1
  obtain ⟨hw25, hw26⟩ : (0 ≤ u3.toInt ∧ u3.toInt ≤ 1) ∧ LB f17 := w2
  refine W.eq (g2 := F0 m 7 ls [.int u3]) rfl ?_
  have hP : va_P D vwCl (MW Y o a (upd (upd (upd (upd (upd (upd (upd I 26 u15) 29 u10) 32 u13) 34 u4) 35 u5) 36 u6) 39 u7) (vp_updL (vp_updL (vp_updL (vp_updL (vp_updL J 30 u11) 31 u12) 33 u14) 37 u8) 38 u9) (vf_upd (vf_upd (vf_upd (vf_upd (vf_upd F 1 f16) 28 f17) 41 f19) 43 f21) 46 f24) (vf_upd (vf_upd (vf_upd (vf_upd G 25 f23) 27 f22) 40 f18) 42 f20)) H := hP
  have hD : va_D A (MW Y o a (upd (upd (upd (upd (upd (upd (upd I 26 u15) 29 u10) 32 u13) 34 u4) 35 u5) 36 u6) 39 u7) (vp_updL (vp_updL (vp_updL (vp_updL (vp_updL J 30 u11) 31 u12) 33 u14) 37 u8) 38 u9) (vf_upd (vf_upd (vf_upd (vf_upd (vf_upd F 1 f16) 28 f17) 41 f19) 43 f21) 46 f24) (vf_upd (vf_upd (vf_upd (vf_upd G 25 f23) 27 f22) 40 f18) 42 f20)) := hD
  rcases (show u3.toInt = 1 ∨ u3.toInt = 0 by omega) with c27 | c27
  · obtain rfl : u3 = 1 := i_is c27 (by decide)
    have zi1 : (1 : Int32).toInt = 1 := by decide
    refine W.eq (g2 := F0 m 7 ls [.int 1]) rfl ?_
    refine lv_if_eq (tgt := 17) hx hb dX11_sorted_7 (by decide) (fun c32 => ?_) (fun c32 => ?_)
    · exact absurd c32 (by decide)
    refine lv_aload_n hx hb dX11_sorted_10 rfl (lv_at hl 0 rfl) ?_
    refine cga (rn_V (As := []) (rest := []) (b := o) (m_heaviest l D Y Z H.size o a (upd (upd (upd (upd (upd (upd (upd I 26 u15) 29 u10) 32 u13) 34 u4) 35 u5) 36 u6) 39 u7) (vp_updL (vp_updL (vp_updL (vp_updL (vp_updL J 30 u11) 31 u12) 33 u14) 37 u8) 38 u9) (vf_upd (vf_upd (vf_upd (vf_upd (vf_upd F 1 f16) 28 f17) 41 f19) 43 f21) 46 f24) (vf_upd (vf_upd (vf_upd (vf_upd G 25 f23) 27 f22) 40 f18) 42 f20)   ) ⟨hx, hb, hml, hown, hg⟩ lk_X11_549 ⟨CP.blind, va_recv hKN.1 hP (ci := 11) (q0 := 0) rfl rfl, CP.at hP hKN hD⟩ ⟨⟨rfl, rfl⟩, ⟨Nat.le_of_ble_eq_true rfl, Nat.le_of_ble_eq_true rfl⟩, ⟨Nat.le_of_ble_eq_true rfl, Nat.le_of_ble_eq_true rfl⟩⟩ hl.1 rfl (Nat.le_of_ble_eq_true rfl) dX11_sorted_11) hP hD hS hA (fun u33 H locs w34 hP hD hS => ?_)
    refine W.eq (g2 := F0 m 14 ls [.int u33]) rfl ?_
    have hP : va_P D vwCl (MW Y o a (upd (upd (upd (upd (upd (upd (upd I 26 u15) 29 u10) 32 u13) 34 u4) 35 u5) 36 u6) 39 u7) (vp_updL (vp_updL (vp_updL (vp_updL (vp_updL J 30 u11) 31 u12) 33 u14) 37 u8) 38 u9) (vf_upd (vf_upd (vf_upd (vf_upd (vf_upd F 1 f16) 28 f17) 41 f19) 43 f21) 46 f24) (vf_upd (vf_upd (vf_upd (vf_upd G 25 f23) 27 f22) 40 f18) 42 f20)) H := hP
    have hD : va_D A (MW Y o a (upd (upd (upd (upd (upd (upd (upd I 26 u15) 29 u10) 32 u13) 34 u4) 35 u5) 36 u6) 39 u7) (vp_updL (vp_updL (vp_updL (vp_updL (vp_updL J 30 u11) 31 u12) 33 u14) 37 u8) 38 u9) (vf_upd (vf_upd (vf_upd (vf_upd (vf_upd F 1 f16) 28 f17) 41 f19) 43 f21) 46 f24) (vf_upd (vf_upd (vf_upd (vf_upd G 25 f23) 27 f22) 40 f18) 42 f20)) := hD
    refine lv_goto (tgt := 18) hx hb dX11_sorted_14 (by decide) ?_
    refine W.widen (k := 0) (n := 0) (Nat.le_of_ble_eq_true rfl) (Nat.le_of_ble_eq_true rfl) ?_
    exact W.iret (v := u33) hx hb hr (fun t ht hW => ⟨⟨(u33, u4, u5, u6, u7, u8, u9, u10, u11, u12, u13, u14, u15, f16, f17, f18, f19, f20, f21, f22, f23, f24), rfl, (hw26), CB.mk ht hP hD⟩, hS.F ht⟩) hS.2.2 dX11_sorted_18
  · obtain rfl : u3 = 0 := i_is c27 (by decide)
    have zi0 : (0 : Int32).toInt = 0 := by decide
    refine W.eq (g2 := F0 m 7 ls [.int 0]) rfl ?_
    refine lv_if_eq (tgt := 17) hx hb dX11_sorted_7 (by decide) (fun c37 => ?_) (fun c37 => ?_)
    rotate_left
    · exact absurd c37 (by decide)
    refine lv_iconst (v := (-1)) hx hb dX11_sorted_17 (by decide) ?_
    refine W.widen (k := 0) (n := 0) (Nat.le_of_ble_eq_true rfl) (Nat.le_of_ble_eq_true rfl) ?_
    have zim1 : ((-1) : Int32).toInt = -1 := by decide
    exact W.iret (v := (-1)) hx hb hr (fun t ht hW => ⟨⟨((-1), u4, u5, u6, u7, u8, u9, u10, u11, u12, u13, u14, u15, f16, f17, f18, f19, f20, f21, f22, f23, f24), rfl, (hw26), CB.mk ht hP hD⟩, hS.F ht⟩) hS.2.2 dX11_sorted_18
set_option maxHeartbeats 4000000 in
set_option maxRecDepth 100000 in
theorem m_truly (l : Launch) (D : va_G) (Y : Nat → ClassId) (Z : Nat → Nat) (sz : Nat) (o : Nat) (a : Nat → Nat) (I : Nat → Int32) (J : Nat → Int64) (F : Nat → Nat → Int32) (G : Nat → Nat → Int64) (p1 : Int32) (p2 : Int32) (hk0 : TO (F 0)) (hk1 : LB (F 28)) (hk2 : TX (F 4) (F 9) (F 10) (F 11) (F 12) (F 13)) (hk3 : TC (F 4) (F 8) (F 7) (F 5)) : Met l yX11_truly (.code yX11_truly cX11_truly 9 (some .long) :: GW) ({ frames := 9, cells := 0, slots := 0, locals := 223 }) (va_Pc [.ref o, .int p1, .int p2] (CP D Y Z (MW Y o a I J F G) sz)) (QG (S := Int64 × Int32 × Int32 × Int32 × Int32 × Int64 × Int64 × Int32 × Int64 × Int64 × Int32 × Int64 × Int32 × (Nat → Int32) × (Nat → Int32) × (Nat → Int64) × (Nat → Int32) × (Nat → Int64) × (Nat → Int32) × (Nat → Int64) × (Nat → Int64) × (Nat → Int32)) (fun u => some (.long u.1)) (fun u => LB u.2.2.2.2.2.2.2.2.2.2.2.2.2.2.1) (fun u => CB D (MW Y o a (upd (upd (upd (upd (upd (upd (upd I 26 u.2.2.2.2.2.2.2.2.2.2.2.2.1) 29 u.2.2.2.2.2.2.2.1) 32 u.2.2.2.2.2.2.2.2.2.2.1) 34 u.2.1) 35 u.2.2.1) 36 u.2.2.2.1) 39 u.2.2.2.2.1) (vp_updL (vp_updL (vp_updL (vp_updL (vp_updL J 30 u.2.2.2.2.2.2.2.2.1) 31 u.2.2.2.2.2.2.2.2.2.1) 33 u.2.2.2.2.2.2.2.2.2.2.2.1) 37 u.2.2.2.2.2.1) 38 u.2.2.2.2.2.2.1) (vf_upd (vf_upd (vf_upd (vf_upd (vf_upd F 1 u.2.2.2.2.2.2.2.2.2.2.2.2.2.1) 28 u.2.2.2.2.2.2.2.2.2.2.2.2.2.2.1) 41 u.2.2.2.2.2.2.2.2.2.2.2.2.2.2.2.2.1) 43 u.2.2.2.2.2.2.2.2.2.2.2.2.2.2.2.2.2.2.1) 46 u.2.2.2.2.2.2.2.2.2.2.2.2.2.2.2.2.2.2.2.2.2) (vf_upd (vf_upd (vf_upd (vf_upd G 25 u.2.2.2.2.2.2.2.2.2.2.2.2.2.2.2.2.2.2.2.2.1) 27 u.2.2.2.2.2.2.2.2.2.2.2.2.2.2.2.2.2.2.2.1) 40 u.2.2.2.2.2.2.2.2.2.2.2.2.2.2.2.1) 42 u.2.2.2.2.2.2.2.2.2.2.2.2.2.2.2.2.2.1)) (va_A (MW Y o a I J F G) sz)) (va_A (MW Y o a I J F G) sz)) 0 0 (va_A (MW Y o a I J F G) sz) := by
  refine Met.ofW (cc := cX11_truly) (maxL := 9) (ret := (some .long)) (by decide) rfl ?_
  intro p e s m args below meth c s₁ B hml hv
  obtain ⟨rfl, hsz, hP, hKN, hD0⟩ := hv
  have hx := B.exec
  have hb := B.bytes
  have hr := B.returns
  have hts := atoms_spec (ws := .code yX11_truly cX11_truly 9 (some .long) :: GW) B.pre
  have hg : ∀ w ∈ GW, w.before _ s = true := fun w h => hts w (List.mem_cons_of_mem _ h)
  have hown : s.vm.findClass RX11 = some m.cls := findClass_of_methodNamed B.named
  have hlocks := B.notSynchronized
  subst hsz
  have hD := hD0.self (sz := s.heap.size)
  generalize hAe : va_A (MW Y o a I J F G) s.heap.size = A at hD ⊢
  have hA : ∀ q : Nat, s.heap.size ≤ q → A q := fun q h => by rw [← hAe]; exact Or.inr h
  clear hAe hD0 hts B
  have hl := lv_entry ([.ref o, .int p1, .int p2]) (n := 9) (Nat.le_of_ble_eq_true rfl)
  rw [lg_entry_eq]
  generalize (lg_sl ([.ref o, .int p1, .int p2]) ++ List.replicate (9 - (lg_sl ([.ref o, .int p1, .int p2])).length) Slot.unset).toArray = ls at hl ⊢
  have hl : lv_has ls 9 [(0, .ref o), (1, .int p1), (2, .int p2)] := hl
  refine w_start (A0 := A) hP (fun H locs hP hS => ?_)
  refine lv_aload_n hx hb dX11_truly_0 rfl (lv_at hl 0 rfl) ?_
  refine lv_iconst (v := 1) hx hb dX11_truly_1 (by decide) ?_
  refine lv_iload_n hx hb dX11_truly_2 rfl (lv_at hl 1 rfl) ?_
  have zi1 : (1 : Int32).toInt = 1 := by decide
  refine cga (rn_V (As := [.int 1, .int p1]) (rest := []) (b := o) (m_isText1 l D Y Z H.size o a I J F G  p1 hk2) ⟨hx, hb, hml, hown, hg⟩ lk_X11_366 ⟨CP.blind, va_recv hKN.1 hP (ci := 11) (q0 := 0) rfl rfl, CP.at hP hKN hD⟩ ⟨⟨rfl, rfl⟩, ⟨Nat.le_of_ble_eq_true rfl, Nat.le_of_ble_eq_true rfl⟩, ⟨Nat.le_of_ble_eq_true rfl, Nat.le_of_ble_eq_true rfl⟩⟩ hl.1 rfl (Nat.le_of_ble_eq_true rfl) dX11_truly_3) hP hD hS hA (fun u1 H locs w2 hP hD hS => ?_)
  obtain ⟨hw4, hw5⟩ : ((0 ≤ p1.toInt ∧ p1.toInt ≤ 5 ∧ p1.toInt < ((F 4) 1).toInt ∧ u1.toInt = 1) ∨ u1.toInt = 0) ∧ (0 ≤ u1.toInt ∧ u1.toInt ≤ 1) := w2
  refine W.eq (g2 := F0 m 6 ls [.int u1]) rfl ?_
  have hP : va_P D vwCl (MW Y o a I J F G) H := hP
  have hD : va_D A (MW Y o a I J F G) := hD
  rcases (show u1.toInt = 1 ∨ u1.toInt = 0 by omega) with c6 | c6
  · obtain rfl : u1 = 1 := i_is c6 (by decide)
    refine W.eq (g2 := F0 m 6 ls [.int 1]) rfl ?_
    refine lv_if_eq (tgt := 18) hx hb dX11_truly_6 (by decide) (fun c7 => ?_) (fun c7 => ?_)
    · exact absurd c7 (by decide)
    refine lv_aload_n hx hb dX11_truly_9 rfl (lv_at hl 0 rfl) ?_
    refine lv_iconst (v := 2) hx hb dX11_truly_10 (by decide) ?_
    refine lv_iload_n hx hb dX11_truly_11 rfl (lv_at hl 2 rfl) ?_
    have zi2 : (2 : Int32).toInt = 2 := by decide
    refine cga (rn_V (As := [.int 2, .int p2]) (rest := []) (b := o) (m_isText2 l D Y Z H.size o a I J F G  p2 hk2) ⟨hx, hb, hml, hown, hg⟩ lk_X11_366 ⟨CP.blind, va_recv hKN.1 hP (ci := 11) (q0 := 0) rfl rfl, CP.at hP hKN hD⟩ ⟨⟨rfl, rfl⟩, ⟨Nat.le_of_ble_eq_true rfl, Nat.le_of_ble_eq_true rfl⟩, ⟨Nat.le_of_ble_eq_true rfl, Nat.le_of_ble_eq_true rfl⟩⟩ hl.1 rfl (Nat.le_of_ble_eq_true rfl) dX11_truly_12) hP hD hS hA (fun u8 H locs w9 hP hD hS => ?_)
    obtain ⟨hw11, hw12⟩ : ((0 ≤ p2.toInt ∧ p2.toInt ≤ 5 ∧ p2.toInt < ((F 4) 2).toInt ∧ u8.toInt = 1) ∨ u8.toInt = 0) ∧ (0 ≤ u8.toInt ∧ u8.toInt ≤ 1) := w9
    refine W.eq (g2 := F0 m 15 ls [.int u8]) rfl ?_
    have hP : va_P D vwCl (MW Y o a I J F G) H := hP
    have hD : va_D A (MW Y o a I J F G) := hD
    rcases (show u8.toInt = 1 ∨ u8.toInt = 0 by omega) with c13 | c13
    · obtain rfl : u8 = 1 := i_is c13 (by decide)
      refine W.eq (g2 := F0 m 15 ls [.int 1]) rfl ?_
      refine lv_if_ne (tgt := 22) hx hb dX11_truly_15 (by decide) (fun c14 => ?_) (fun c14 => ?_)
      rotate_left
      · exact absurd c14 (by decide)
      refine lv_aload_n hx hb dX11_truly_22 rfl (lv_at hl 0 rfl) ?_
      refine lv_iload_n hx hb dX11_truly_23 rfl (lv_at hl 1 rfl) ?_
      refine cga (rn_V (As := [.int p1]) (rest := []) (b := o) (m_caughtBy l D Y Z H.size o a I J F G  p1 (show (0 ≤ p1.toInt ∧ p1.toInt ≤ 5) by omega) (show (p1.toInt < ((F 4) 1).toInt) by omega) hk0 hk1 hk2) ⟨hx, hb, hml, hown, hg⟩ lk_X11_509 ⟨CP.blind, va_recv hKN.1 hP (ci := 11) (q0 := 0) rfl rfl, CP.at hP hKN hD⟩ ⟨⟨rfl, rfl⟩, ⟨Nat.le_of_ble_eq_true rfl, Nat.le_of_ble_eq_true rfl⟩, ⟨Nat.le_of_ble_eq_true rfl, Nat.le_of_ble_eq_true rfl⟩⟩ hl.1 rfl (Nat.le_of_ble_eq_true rfl) dX11_truly_24) hP hD hS hA (fun u15 H locs w16 hP hD hS => ?_)
      obtain ⟨u17, u18, u19, u20, u21, u22, u23, u24, u25, u26, f27, f28, f29, f30, f31⟩ := u15
      obtain ⟨hw32, hw33⟩ : (0 ≤ u17.toInt ∧ u17.toInt ≤ 40) ∧ LB f27 := w16
      refine W.eq (g2 := F0 m 27 ls [.int u17]) rfl ?_
      have hP : va_P D vwCl (MW Y o a (upd (upd (upd (upd (upd I 29 u24) 34 u18) 35 u19) 36 u20) 39 u21) (vp_updL (vp_updL (vp_updL (vp_updL J 30 u25) 31 u26) 37 u22) 38 u23) (vf_upd (vf_upd (vf_upd F 28 f27) 41 f29) 43 f31) (vf_upd (vf_upd G 40 f28) 42 f30)) H := hP
      have hD : va_D A (MW Y o a (upd (upd (upd (upd (upd I 29 u24) 34 u18) 35 u19) 36 u20) 39 u21) (vp_updL (vp_updL (vp_updL (vp_updL J 30 u25) 31 u26) 37 u22) 38 u23) (vf_upd (vf_upd (vf_upd F 28 f27) 41 f29) 43 f31) (vf_upd (vf_upd G 40 f28) 42 f30)) := hD
      refine lv_istore_n (lv' := [(3, .int u17), (0, .ref o), (1, .int p1), (2, .int p2)]) hx hb dX11_truly_27 rfl hl (by decide) rfl (fun ls hl => ?_)
      refine lv_iload_n hx hb dX11_truly_28 rfl (lv_at hl 0 rfl) ?_
      refine lv_if_ne (tgt := 36) hx hb dX11_truly_29 (by decide) (fun c34 => ?_) (fun c34 => ?_)
      · skip
        have c34 := i_ne (Eq.refl u17.toInt) (show (0 : Int32).toInt = 0 by decide) c34
        refine lv_lconst (v := 0) hx hb dX11_truly_36 (by decide) ?_
        refine lv_lstore (lv' := [(4, .long 0), (3, .int u17), (0, .ref o), (1, .int p1), (2, .int p2)]) hx hb dX11_truly_37 hl (by decide) rfl (fun ls hl => ?_)
        refine lv_ldc2 (v := 1000000) hx hb hown (hg _ kw_1838) dX11_truly_39 ?_
        refine lv_aload_n hx hb dX11_truly_42 rfl (lv_at hl 2 rfl) ?_
        refine cga (rn_V (As := []) (rest := [.long 1000000]) (b := o) (m_putIn l D Y Z H.size o a (upd (upd (upd (upd (upd I 29 u24) 34 u18) 35 u19) 36 u20) 39 u21) (vp_updL (vp_updL (vp_updL (vp_updL J 30 u25) 31 u26) 37 u22) 38 u23) (vf_upd (vf_upd (vf_upd F 28 f27) 41 f29) 43 f31) (vf_upd (vf_upd G 40 f28) 42 f30)   hk0) ⟨hx, hb, hml, hown, hg⟩ lk_X11_506 ⟨CP.blind, va_recv hKN.1 hP (ci := 11) (q0 := 0) rfl rfl, CP.at hP hKN hD⟩ ⟨⟨rfl, rfl⟩, ⟨Nat.le_of_ble_eq_true rfl, Nat.le_of_ble_eq_true rfl⟩, ⟨Nat.le_of_ble_eq_true rfl, Nat.le_of_ble_eq_true rfl⟩⟩ hl.1 rfl (Nat.le_of_ble_eq_true rfl) dX11_truly_43) hP hD hS hA (fun u35 H locs w36 hP hD hS => ?_)
        have hw38 : (0 ≤ u35.toInt ∧ u35.toInt ≤ 40) := w36
        clear w36
        refine W.eq (g2 := F0 m 46 ls [.int u35, .long 1000000]) rfl ?_
        have hP : va_P D vwCl (MW Y o a (upd (upd (upd (upd (upd I 29 u24) 34 u18) 35 u19) 36 u20) 39 u21) (vp_updL (vp_updL (vp_updL (vp_updL J 30 u25) 31 u26) 37 u22) 38 u23) (vf_upd (vf_upd (vf_upd F 28 f27) 41 f29) 43 f31) (vf_upd (vf_upd G 40 f28) 42 f30)) H := hP
        have hD : va_D A (MW Y o a (upd (upd (upd (upd (upd I 29 u24) 34 u18) 35 u19) 36 u20) 39 u21) (vp_updL (vp_updL (vp_updL (vp_updL J 30 u25) 31 u26) 37 u22) 38 u23) (vf_upd (vf_upd (vf_upd F 28 f27) 41 f29) 43 f31) (vf_upd (vf_upd G 40 f28) 42 f30)) := hD
        have j39 := Int32.toInt_toInt64 u35
        refine lv_i2l (v := u35.toInt64) hx hb dX11_truly_46 (rfl) ?_
        refine lv_lmul hx hb dX11_truly_47 ?_
        refine lv_topl (fun v40 ev40 => ?_)
        have hv40 := l_mul (show (1000000 : Int64).toInt = 1000000 by decide) (Int32.toInt_toInt64 u35) ev40 (by omega) (by omega)
        refine lv_lstore (lv' := [(6, .long v40), (4, .long 0), (3, .int u17), (0, .ref o), (1, .int p1), (2, .int p2)]) hx hb dX11_truly_48 hl (by decide) rfl (fun ls hl => ?_)
        refine lv_iconst (v := 0) hx hb dX11_truly_50 (by decide) ?_
        refine lv_istore (lv' := [(8, .int 0), (6, .long v40), (4, .long 0), (3, .int u17), (0, .ref o), (1, .int p1), (2, .int p2)]) hx hb dX11_truly_51 hl (by decide) rfl (fun ls hl => ?_)
        have zi0 : (0 : Int32).toInt = 0 := by decide
        have zl0 : (0 : Int64).toInt = 0 := by decide
        refine w_loop (σ := Int32 × Int64 × Int32 × Int32 × Int64 × Int64 × Int32 × Int64 × Int32 × Int32 × Int32 × Int64 × Int64 × Int32 × (Nat → Int32) × (Nat → Int64) × (Nat → Int64) × (Nat → Int32) × (Nat → Int64) × (Nat → Int32) × (Nat → Int64) × (Nat → Int32) × (Nat → Int32)) (fun xx H locs ls => match xx with | (g356, g357, g358, g359, g360, g361, g362, g363, g364, g365, g366, g367, g368, g369, f370, f371, f372, f373, f374, f375, f376, f377, f378) => va_P D vwCl (MW Y o a (upd (upd (upd (upd (upd (upd (upd I 26 g358) 29 g359) 32 g362) 34 g364) 35 g365) 36 g366) 39 g369) (vp_updL (vp_updL (vp_updL (vp_updL (vp_updL J 30 g360) 31 g361) 33 g363) 37 g367) 38 g368) (vf_upd (vf_upd (vf_upd (vf_upd (vf_upd F 1 f370) 28 f373) 41 f375) 43 f377) 46 f378) (vf_upd (vf_upd (vf_upd (vf_upd G 25 f371) 27 f372) 40 f374) 42 f376)) H ∧ va_D A (MW Y o a (upd (upd (upd (upd (upd (upd (upd I 26 g358) 29 g359) 32 g362) 34 g364) 35 g365) 36 g366) 39 g369) (vp_updL (vp_updL (vp_updL (vp_updL (vp_updL J 30 g360) 31 g361) 33 g363) 37 g367) 38 g368) (vf_upd (vf_upd (vf_upd (vf_upd (vf_upd F 1 f370) 28 f373) 41 f375) 43 f377) 46 f378) (vf_upd (vf_upd (vf_upd (vf_upd G 25 f371) 27 f372) 40 f374) 42 f376)) ∧ va_S A s.heap H locs ∧ lv_has ls 9 [(8, .int g356), (6, .long v40), (4, .long g357), (3, .int u17), (0, .ref o), (1, .int p1), (2, .int p2)] ∧ (0 ≤ g356.toInt ∧ g356.toInt ≤ 12) ∧ LB f373) (fun xx => match xx with | (g356, g357, g358, g359, g360, g361, g362, g363, g364, g365, g366, g367, g368, g369, f370, f371, f372, f373, f374, f375, f376, f377, f378) => (12 - g356.toInt).toNat) (0, 0, (I 26), u24, u25, u26, (I 32), (J 33), u18, u19, u20, u22, u23, u21, (F 1), (G 25), (G 27), f27, f28, f29, f30, f31, (F 46)) ⟨hP, hD, hS, lv_sub hl [0, 1, 2, 3, 4, 5, 6] rfl, by omega, hw33⟩ (fun xx H locs ls hI ih => ?_)
        obtain ⟨g356, g357, g358, g359, g360, g361, g362, g363, g364, g365, g366, g367, g368, g369, f370, f371, f372, f373, f374, f375, f376, f377, f378⟩ := xx
        obtain ⟨hP, hD, hS, hl, hq696, hp697⟩ := hI
        have ih698 := ih
        refine lv_iload hx hb dX11_truly_53 (lv_at hl 0 rfl) ?_
        refine lv_aload_n hx hb dX11_truly_55 rfl (lv_at hl 4 rfl) ?_
        refine va_get (D := D) (ci := 11) (v := .ref (a 0)) (C := RX11) (T := TX11) (N := 49) hx hb hg inGX11 hown hKN.1 hP 0 rfl rfl 0 (by decide) (hg _ kw_1208) (fun _ h9 => h9) rfl dX11_truly_56 ?_
        refine lv_iconst (v := 0) hx hb dX11_truly_59 (by decide) ?_
        refine va_iald hx hb hKN.1 hP 1 0 rfl rfl (show ¬ ((0 : Int32) < 0 ∨ 7533 ≤ (0 : Int32).toNatClampNeg) by decide) dX11_truly_60 ?_
        refine lv_topi (fun v699 ev699 => ?_)
        have ev699 : v699 = (F 0) 0 := ev699
        have kv699 := TO_0 hk0
        rw [← ev699] at kv699
        have qv699 := congrArg Int32.toInt ev699
        refine lv_icmp_ge (tgt := 129) hx hb dX11_truly_61 (by decide) (fun c858 => ?_) (fun c858 => ?_)
        · skip
          have c858 := i_le (Eq.refl v699.toInt) (Eq.refl g356.toInt) c858
          refine lv_lload hx hb dX11_truly_129 (lv_at hl 2 rfl) ?_
          refine W.widen (k := 0) (n := 0) (Nat.le_of_ble_eq_true rfl) (Nat.le_of_ble_eq_true rfl) ?_
          exact W.lret (v := g357) hx hb hr (fun t ht hW => ⟨⟨(g357, g364, g365, g366, g369, g367, g368, g359, g360, g361, g362, g363, g358, f370, f373, f374, f375, f376, f377, f372, f371, f378), rfl, (hp697), CB.mk ht hP hD⟩, hS.F ht⟩) hS.2.2 dX11_truly_131
        · skip
          have c858 := i_nle (Eq.refl v699.toInt) (Eq.refl g356.toInt) c858
          refine lv_aload_n hx hb dX11_truly_64 rfl (lv_at hl 4 rfl) ?_
          refine lv_iload_n hx hb dX11_truly_65 rfl (lv_at hl 5 rfl) ?_
          refine lv_iload hx hb dX11_truly_66 (lv_at hl 0 rfl) ?_
          refine lv_iconst (v := 0) hx hb dX11_truly_68 (by decide) ?_
          have zi0 : (0 : Int32).toInt = 0 := by decide
          refine cga (rn_V (As := [.int p1, .int g356, .int 0]) (rest := []) (b := o) (m_finds l D Y Z H.size o a (upd (upd (upd (upd (upd (upd (upd I 26 g358) 29 g359) 32 g362) 34 g364) 35 g365) 36 g366) 39 g369) (vp_updL (vp_updL (vp_updL (vp_updL (vp_updL J 30 g360) 31 g361) 33 g363) 37 g367) 38 g368) (vf_upd (vf_upd (vf_upd (vf_upd (vf_upd F 1 f370) 28 f373) 41 f375) 43 f377) 46 f378) (vf_upd (vf_upd (vf_upd (vf_upd G 25 f371) 27 f372) 40 f374) 42 f376)  p1 g356 0 (show (0 ≤ p1.toInt ∧ p1.toInt ≤ 5) by omega) (show (p1.toInt < ((F 4) 1).toInt) by omega) (show (0 ≤ g356.toInt ∧ g356.toInt ≤ 11) by omega) (show (0 ≤ (0 : Int32).toInt ∧ (0 : Int32).toInt ≤ 5) by omega) hk0 hp697 hk2) ⟨hx, hb, hml, hown, hg⟩ lk_X11_487 ⟨CP.blind, va_recv hKN.1 hP (ci := 11) (q0 := 0) rfl rfl, CP.at hP hKN hD⟩ ⟨⟨rfl, rfl⟩, ⟨Nat.le_of_ble_eq_true rfl, Nat.le_of_ble_eq_true rfl⟩, ⟨Nat.le_of_ble_eq_true rfl, Nat.le_of_ble_eq_true rfl⟩⟩ hl.1 rfl (Nat.le_of_ble_eq_true rfl) dX11_truly_69) hP hD hS hA (fun u859 H locs w860 hP hD hS => ?_)
          obtain ⟨u861, u862, u863, u864, u865, u866, u867, u868, u869, u870, f871, f872, f873, f874, f875, f876⟩ := u859
          obtain ⟨hw877, hw878, hw879, hw880, hw881, hw882⟩ : ((u861.toInt = 1 ∧ 1 ≤ u867.toInt ∧ 2 ≤ u862.toInt ∧ u862.toInt ≤ 200 ∧ 1 ≤ u863.toInt ∧ u863.toInt ≤ 10 ∧ 0 ≤ u864.toInt ∧ u864.toInt < u862.toInt ∧ -9000000000000 ≤ u866.toInt ∧ u866.toInt ≤ 9000000000000 ∧ (cin f872 (u862.toInt).toNat (u863.toInt).toNat (u864.toInt).toNat 600 : Int) ≠ u868.toInt) ∨ u861.toInt = 0) ∧ (0 ≤ u861.toInt ∧ u861.toInt ≤ 1) ∧ (0 ≤ u868.toInt ∧ u868.toInt ≤ 600) ∧ (-60000000 ≤ u869.toInt ∧ u869.toInt ≤ 60000000) ∧ (1 ≤ u870.toInt) ∧ LB f872 := w860
          refine W.eq (g2 := F0 m 72 ls [.int u861]) rfl ?_
          have hP : va_P D vwCl (MW Y o a (upd (upd (upd (upd (upd (upd (upd I 26 g358) 29 u868) 32 g362) 34 u862) 35 u863) 36 u864) 39 u865) (vp_updL (vp_updL (vp_updL (vp_updL (vp_updL J 30 u869) 31 u870) 33 g363) 37 u866) 38 u867) (vf_upd (vf_upd (vf_upd (vf_upd (vf_upd F 1 f871) 28 f872) 41 f874) 43 f876) 46 f378) (vf_upd (vf_upd (vf_upd (vf_upd G 25 f371) 27 f372) 40 f873) 42 f875)) H := hP
          have hD : va_D A (MW Y o a (upd (upd (upd (upd (upd (upd (upd I 26 g358) 29 u868) 32 g362) 34 u862) 35 u863) 36 u864) 39 u865) (vp_updL (vp_updL (vp_updL (vp_updL (vp_updL J 30 u869) 31 u870) 33 g363) 37 u866) 38 u867) (vf_upd (vf_upd (vf_upd (vf_upd (vf_upd F 1 f871) 28 f872) 41 f874) 43 f876) 46 f378) (vf_upd (vf_upd (vf_upd (vf_upd G 25 f371) 27 f372) 40 f873) 42 f875)) := hD
          rcases (show u861.toInt = 1 ∨ u861.toInt = 0 by omega) with c883 | c883
          · obtain rfl : u861 = 1 := i_is c883 (by decide)
            refine W.eq (g2 := F0 m 72 ls [.int 1]) rfl ?_
            refine w_join (σ := Int64 × Int32 × Int32 × Int64 × Int64 × Int32 × Int64 × Int32 × Int32 × Int32 × Int64 × Int64 × Int32 × (Nat → Int32) × (Nat → Int64) × (Nat → Int64) × (Nat → Int32) × (Nat → Int64) × (Nat → Int32) × (Nat → Int64) × (Nat → Int32) × (Nat → Int32)) (pcJ := 123) (kJ := 0) (nJ := 0) (stk := fun xx => match xx with | (g936, g937, g938, g939, g940, g941, g942, g943, g944, g945, g946, g947, g948, f949, f950, f951, f952, f953, f954, f955, f956, f957) => []) (fun xx H locs ls => match xx with | (g936, g937, g938, g939, g940, g941, g942, g943, g944, g945, g946, g947, g948, f949, f950, f951, f952, f953, f954, f955, f956, f957) => va_P D vwCl (MW Y o a (upd (upd (upd (upd (upd (upd (upd I 26 g937) 29 g938) 32 g941) 34 g943) 35 g944) 36 g945) 39 g948) (vp_updL (vp_updL (vp_updL (vp_updL (vp_updL J 30 g939) 31 g940) 33 g942) 37 g946) 38 g947) (vf_upd (vf_upd (vf_upd (vf_upd (vf_upd F 1 f949) 28 f952) 41 f954) 43 f956) 46 f957) (vf_upd (vf_upd (vf_upd (vf_upd G 25 f950) 27 f951) 40 f953) 42 f955)) H ∧ va_D A (MW Y o a (upd (upd (upd (upd (upd (upd (upd I 26 g937) 29 g938) 32 g941) 34 g943) 35 g944) 36 g945) 39 g948) (vp_updL (vp_updL (vp_updL (vp_updL (vp_updL J 30 g939) 31 g940) 33 g942) 37 g946) 38 g947) (vf_upd (vf_upd (vf_upd (vf_upd (vf_upd F 1 f949) 28 f952) 41 f954) 43 f956) 46 f957) (vf_upd (vf_upd (vf_upd (vf_upd G 25 f950) 27 f951) 40 f953) 42 f955)) ∧ va_S A s.heap H locs ∧ lv_has ls 9 [(4, .long g936), (8, .int g356), (6, .long v40), (3, .int u17), (0, .ref o), (1, .int p1), (2, .int p2)] ∧ LB f952) (fun xx H locs ls hI => ?_) (fun jn958 => ?_)
            · skip
              obtain ⟨g936, g937, g938, g939, g940, g941, g942, g943, g944, g945, g946, g947, g948, f949, f950, f951, f952, f953, f954, f955, f956, f957⟩ := xx
              obtain ⟨hP, hD, hS, hl, hp959⟩ := hI
              refine W.eq (g2 := F0 m 123 ls []) rfl ?_
              obtain ⟨v960, ev960⟩ : ∃ y : Int32, y = g356 + 1 := ⟨_, rfl⟩
              have hv960 := i_add (Eq.refl g356.toInt) (show (1 : Int32).toInt = 1 by decide) ev960 (by omega) (by omega)
              refine lv_iinc (v := v960) (lv' := [(8, .int v960), (4, .long g936), (6, .long v40), (3, .int u17), (0, .ref o), (1, .int p1), (2, .int p2)]) hx hb dX11_truly_123 hl (k := 1) rfl (by rw [ev960]; rfl) (by decide) rfl (fun ls hl => ?_)
              refine lv_goto (tgt := 53) hx hb dX11_truly_126 (by decide) ?_
              exact ih698 (v960, g936, g937, g938, g939, g940, g941, g942, g943, g944, g945, g946, g947, g948, f949, f950, f951, f952, f953, f954, f955, f956, f957) H locs ls (by show (12 - v960.toInt).toNat < (12 - g356.toInt).toNat; omega) ⟨hP, hD, hS, lv_sub hl [0, 2, 1, 3, 4, 5, 6] rfl, by omega, hp959⟩
            · skip
              refine lv_if_eq (tgt := 123) hx hb dX11_truly_72 (by decide) (fun c961 => ?_) (fun c961 => ?_)
              · exact absurd c961 (by decide)
              refine lv_aload_n hx hb dX11_truly_75 rfl (lv_at hl 4 rfl) ?_
              refine lv_iload_n hx hb dX11_truly_76 rfl (lv_at hl 5 rfl) ?_
              refine cga (rn_V (As := [.int p1]) (rest := []) (b := o) (m_isSeen l D Y Z H.size o a (upd (upd (upd (upd (upd (upd (upd I 26 g358) 29 u868) 32 g362) 34 u862) 35 u863) 36 u864) 39 u865) (vp_updL (vp_updL (vp_updL (vp_updL (vp_updL J 30 u869) 31 u870) 33 g363) 37 u866) 38 u867) (vf_upd (vf_upd (vf_upd (vf_upd (vf_upd F 1 f871) 28 f872) 41 f874) 43 f876) 46 f378) (vf_upd (vf_upd (vf_upd (vf_upd G 25 f371) 27 f372) 40 f873) 42 f875)  p1 (show (0 ≤ p1.toInt ∧ p1.toInt ≤ 5) by omega)) ⟨hx, hb, hml, hown, hg⟩ lk_X11_494 ⟨CP.blind, va_recv hKN.1 hP (ci := 11) (q0 := 0) rfl rfl, CP.at hP hKN hD⟩ ⟨⟨rfl, rfl⟩, ⟨Nat.le_of_ble_eq_true rfl, Nat.le_of_ble_eq_true rfl⟩, ⟨Nat.le_of_ble_eq_true rfl, Nat.le_of_ble_eq_true rfl⟩⟩ hl.1 rfl (Nat.le_of_ble_eq_true rfl) dX11_truly_77) hP hD hS hA (fun u962 H locs w963 hP hD hS => ?_)
              have hw965 : (0 ≤ u962.toInt ∧ u962.toInt ≤ 1) := w963
              clear w963
              refine W.eq (g2 := F0 m 80 ls [.int u962]) rfl ?_
              have hP : va_P D vwCl (MW Y o a (upd (upd (upd (upd (upd (upd (upd I 26 g358) 29 u868) 32 g362) 34 u862) 35 u863) 36 u864) 39 u865) (vp_updL (vp_updL (vp_updL (vp_updL (vp_updL J 30 u869) 31 u870) 33 g363) 37 u866) 38 u867) (vf_upd (vf_upd (vf_upd (vf_upd (vf_upd F 1 f871) 28 f872) 41 f874) 43 f876) 46 f378) (vf_upd (vf_upd (vf_upd (vf_upd G 25 f371) 27 f372) 40 f873) 42 f875)) H := hP
              have hD : va_D A (MW Y o a (upd (upd (upd (upd (upd (upd (upd I 26 g358) 29 u868) 32 g362) 34 u862) 35 u863) 36 u864) 39 u865) (vp_updL (vp_updL (vp_updL (vp_updL (vp_updL J 30 u869) 31 u870) 33 g363) 37 u866) 38 u867) (vf_upd (vf_upd (vf_upd (vf_upd (vf_upd F 1 f871) 28 f872) 41 f874) 43 f876) 46 f378) (vf_upd (vf_upd (vf_upd (vf_upd G 25 f371) 27 f372) 40 f873) 42 f875)) := hD
              rcases (show u962.toInt = 1 ∨ u962.toInt = 0 by omega) with c966 | c966
              · obtain rfl : u962 = 1 := i_is c966 (by decide)
                refine W.eq (g2 := F0 m 80 ls [.int 1]) rfl ?_
                refine lv_if_eq (tgt := 123) hx hb dX11_truly_80 (by decide) (fun c967 => ?_) (fun c967 => ?_)
                · exact absurd c967 (by decide)
                refine lv_aload_n hx hb dX11_truly_83 rfl (lv_at hl 4 rfl) ?_
                refine lv_iload_n hx hb dX11_truly_84 rfl (lv_at hl 6 rfl) ?_
                refine lv_iload_n hx hb dX11_truly_85 rfl (lv_at hl 5 rfl) ?_
                refine lv_iload hx hb dX11_truly_86 (lv_at hl 0 rfl) ?_
                refine cga (rn_V (As := [.int p2, .int p1, .int g356]) (rest := []) (b := o) (m_weighs l D Y Z H.size o a (upd (upd (upd (upd (upd (upd (upd I 26 g358) 29 u868) 32 g362) 34 u862) 35 u863) 36 u864) 39 u865) (vp_updL (vp_updL (vp_updL (vp_updL (vp_updL J 30 u869) 31 u870) 33 g363) 37 u866) 38 u867) (vf_upd (vf_upd (vf_upd (vf_upd (vf_upd F 1 f871) 28 f872) 41 f874) 43 f876) 46 f378) (vf_upd (vf_upd (vf_upd (vf_upd G 25 f371) 27 f372) 40 f873) 42 f875)  p2 p1 g356 (show (0 ≤ p2.toInt ∧ p2.toInt ≤ 5) by omega) (show (p2.toInt < ((F 4) 2).toInt) by omega) (show (0 ≤ p1.toInt ∧ p1.toInt ≤ 5) by omega) (show (p1.toInt < ((F 4) 1).toInt) by omega) (show (0 ≤ g356.toInt ∧ g356.toInt ≤ 11) by omega) hk0 hw882 hk2 hk3) ⟨hx, hb, hml, hown, hg⟩ lk_X11_543 ⟨CP.blind, va_recv hKN.1 hP (ci := 11) (q0 := 0) rfl rfl, CP.at hP hKN hD⟩ ⟨⟨rfl, rfl⟩, ⟨Nat.le_of_ble_eq_true rfl, Nat.le_of_ble_eq_true rfl⟩, ⟨Nat.le_of_ble_eq_true rfl, Nat.le_of_ble_eq_true rfl⟩⟩ hl.1 rfl (Nat.le_of_ble_eq_true rfl) dX11_truly_88) hP hD hS hA (fun u968 H locs w969 hP hD hS => ?_)
                obtain ⟨u970, u971, u972, u973, u974, u975, u976, u977, u978, u979, u980, u981, u982, f983, f984, f985, f986, f987, f988, f989, f990, f991⟩ := u968
                obtain ⟨hw992, hw993⟩ : (0 ≤ u970.toInt ∧ u970.toInt ≤ 1) ∧ LB f984 := w969
                refine W.eq (g2 := F0 m 91 ls [.int u970]) rfl ?_
                have hP : va_P D vwCl (MW Y o a (upd (upd (upd (upd (upd (upd (upd I 26 u982) 29 u977) 32 u980) 34 u971) 35 u972) 36 u973) 39 u974) (vp_updL (vp_updL (vp_updL (vp_updL (vp_updL J 30 u978) 31 u979) 33 u981) 37 u975) 38 u976) (vf_upd (vf_upd (vf_upd (vf_upd (vf_upd F 1 f983) 28 f984) 41 f986) 43 f988) 46 f991) (vf_upd (vf_upd (vf_upd (vf_upd G 25 f990) 27 f989) 40 f985) 42 f987)) H := hP
                have hD : va_D A (MW Y o a (upd (upd (upd (upd (upd (upd (upd I 26 u982) 29 u977) 32 u980) 34 u971) 35 u972) 36 u973) 39 u974) (vp_updL (vp_updL (vp_updL (vp_updL (vp_updL J 30 u978) 31 u979) 33 u981) 37 u975) 38 u976) (vf_upd (vf_upd (vf_upd (vf_upd (vf_upd F 1 f983) 28 f984) 41 f986) 43 f988) 46 f991) (vf_upd (vf_upd (vf_upd (vf_upd G 25 f990) 27 f989) 40 f985) 42 f987)) := hD
                rcases (show u970.toInt = 1 ∨ u970.toInt = 0 by omega) with c994 | c994
                · obtain rfl : u970 = 1 := i_is c994 (by decide)
                  refine W.eq (g2 := F0 m 91 ls [.int 1]) rfl ?_
                  refine lv_if_eq (tgt := 123) hx hb dX11_truly_91 (by decide) (fun c995 => ?_) (fun c995 => ?_)
                  · exact absurd c995 (by decide)
                  refine lv_aload_n hx hb dX11_truly_94 rfl (lv_at hl 4 rfl) ?_
                  refine cga (rn_V (As := []) (rest := []) (b := o) (m_heaviest l D Y Z H.size o a (upd (upd (upd (upd (upd (upd (upd I 26 u982) 29 u977) 32 u980) 34 u971) 35 u972) 36 u973) 39 u974) (vp_updL (vp_updL (vp_updL (vp_updL (vp_updL J 30 u978) 31 u979) 33 u981) 37 u975) 38 u976) (vf_upd (vf_upd (vf_upd (vf_upd (vf_upd F 1 f983) 28 f984) 41 f986) 43 f988) 46 f991) (vf_upd (vf_upd (vf_upd (vf_upd G 25 f990) 27 f989) 40 f985) 42 f987)   ) ⟨hx, hb, hml, hown, hg⟩ lk_X11_549 ⟨CP.blind, va_recv hKN.1 hP (ci := 11) (q0 := 0) rfl rfl, CP.at hP hKN hD⟩ ⟨⟨rfl, rfl⟩, ⟨Nat.le_of_ble_eq_true rfl, Nat.le_of_ble_eq_true rfl⟩, ⟨Nat.le_of_ble_eq_true rfl, Nat.le_of_ble_eq_true rfl⟩⟩ hl.1 rfl (Nat.le_of_ble_eq_true rfl) dX11_truly_95) hP hD hS hA (fun u996 H locs w997 hP hD hS => ?_)
                  refine W.eq (g2 := F0 m 98 ls [.int u996]) rfl ?_
                  have hP : va_P D vwCl (MW Y o a (upd (upd (upd (upd (upd (upd (upd I 26 u982) 29 u977) 32 u980) 34 u971) 35 u972) 36 u973) 39 u974) (vp_updL (vp_updL (vp_updL (vp_updL (vp_updL J 30 u978) 31 u979) 33 u981) 37 u975) 38 u976) (vf_upd (vf_upd (vf_upd (vf_upd (vf_upd F 1 f983) 28 f984) 41 f986) 43 f988) 46 f991) (vf_upd (vf_upd (vf_upd (vf_upd G 25 f990) 27 f989) 40 f985) 42 f987)) H := hP
                  have hD : va_D A (MW Y o a (upd (upd (upd (upd (upd (upd (upd I 26 u982) 29 u977) 32 u980) 34 u971) 35 u972) 36 u973) 39 u974) (vp_updL (vp_updL (vp_updL (vp_updL (vp_updL J 30 u978) 31 u979) 33 u981) 37 u975) 38 u976) (vf_upd (vf_upd (vf_upd (vf_upd (vf_upd F 1 f983) 28 f984) 41 f986) 43 f988) 46 f991) (vf_upd (vf_upd (vf_upd (vf_upd G 25 f990) 27 f989) 40 f985) 42 f987)) := hD
                  have j999 := rgI u996
                  refine lv_if_eq (tgt := 104) hx hb dX11_truly_98 (by decide) (fun c1000 => ?_) (fun c1000 => ?_)
                  · skip
                    have c1000 := i_eq (Eq.refl u996.toInt) (show (0 : Int32).toInt = 0 by decide) c1000
                    refine lv_lload hx hb dX11_truly_104 (lv_at hl 2 rfl) ?_
                    refine lv_lload hx hb dX11_truly_106 (lv_at hl 1 rfl) ?_
                    refine lv_aload_n hx hb dX11_truly_108 rfl (lv_at hl 4 rfl) ?_
                    refine lv_iload hx hb dX11_truly_109 (lv_at hl 0 rfl) ?_
                    refine lv_iconst (v := 2) hx hb dX11_truly_111 (by decide) ?_
                    refine cga (rn_V (As := [.int g356, .int 2]) (rest := [.long v40, .long g357]) (b := o) (m_starOf2 l D Y Z H.size o a (upd (upd (upd (upd (upd (upd (upd I 26 u982) 29 u977) 32 u980) 34 u971) 35 u972) 36 u973) 39 u974) (vp_updL (vp_updL (vp_updL (vp_updL (vp_updL J 30 u978) 31 u979) 33 u981) 37 u975) 38 u976) (vf_upd (vf_upd (vf_upd (vf_upd (vf_upd F 1 f983) 28 f984) 41 f986) 43 f988) 46 f991) (vf_upd (vf_upd (vf_upd (vf_upd G 25 f990) 27 f989) 40 f985) 42 f987)  g356 (show (0 ≤ g356.toInt ∧ g356.toInt ≤ 11) by omega) hk0) ⟨hx, hb, hml, hown, hg⟩ lk_X11_120 ⟨CP.blind, va_recv hKN.1 hP (ci := 11) (q0 := 0) rfl rfl, CP.at hP hKN hD⟩ ⟨⟨rfl, rfl⟩, ⟨Nat.le_of_ble_eq_true rfl, Nat.le_of_ble_eq_true rfl⟩, ⟨Nat.le_of_ble_eq_true rfl, Nat.le_of_ble_eq_true rfl⟩⟩ hl.1 rfl (Nat.le_of_ble_eq_true rfl) dX11_truly_112) hP hD hS hA (fun u1001 H locs w1002 hP hD hS => ?_)
                    obtain ⟨hw1004, hw1005⟩ : (0 ≤ u1001.toInt ∧ u1001.toInt ≤ 1000) ∧ (g356.toInt < ((F 0) 0).toInt → 1 ≤ u1001.toInt) := w1002
                    refine W.eq (g2 := F0 m 115 ls [.int u1001, .long v40, .long g357]) rfl ?_
                    have hP : va_P D vwCl (MW Y o a (upd (upd (upd (upd (upd (upd (upd I 26 u982) 29 u977) 32 u980) 34 u971) 35 u972) 36 u973) 39 u974) (vp_updL (vp_updL (vp_updL (vp_updL (vp_updL J 30 u978) 31 u979) 33 u981) 37 u975) 38 u976) (vf_upd (vf_upd (vf_upd (vf_upd (vf_upd F 1 f983) 28 f984) 41 f986) 43 f988) 46 f991) (vf_upd (vf_upd (vf_upd (vf_upd G 25 f990) 27 f989) 40 f985) 42 f987)) H := hP
                    have hD : va_D A (MW Y o a (upd (upd (upd (upd (upd (upd (upd I 26 u982) 29 u977) 32 u980) 34 u971) 35 u972) 36 u973) 39 u974) (vp_updL (vp_updL (vp_updL (vp_updL (vp_updL J 30 u978) 31 u979) 33 u981) 37 u975) 38 u976) (vf_upd (vf_upd (vf_upd (vf_upd (vf_upd F 1 f983) 28 f984) 41 f986) 43 f988) 46 f991) (vf_upd (vf_upd (vf_upd (vf_upd G 25 f990) 27 f989) 40 f985) 42 f987)) := hD
                    have j1006 := Int32.toInt_toInt64 u1001
                    refine lv_i2l (v := u1001.toInt64) hx hb dX11_truly_115 (rfl) ?_
                    refine lv_iload_n hx hb dX11_truly_116 rfl (lv_at hl 3 rfl) ?_
                    have j1007 := Int32.toInt_toInt64 u17
                    refine lv_i2l (v := u17.toInt64) hx hb dX11_truly_117 (rfl) ?_
                    refine lv_lmul hx hb dX11_truly_118 ?_
                    refine lv_topl (fun v1008 ev1008 => ?_)
                    have hv1008 := l_mulR (a := 0) (b := 1000) (c := 1) (d := 40) (lo := 0) (hi := 40000) (Int32.toInt_toInt64 u1001) (Int32.toInt_toInt64 u17) ev1008 (by omega) (by omega) (by decide) (by decide)
                    refine lv_ldiv hx hb dX11_truly_119 (l_nz (Eq.refl v1008.toInt) (by omega)) ?_
                    refine lv_topl (fun v1009 ev1009 => ?_)
                    have hv1009 := l_divA (Eq.refl v40.toInt) (Eq.refl v1008.toInt) ev1009 (by omega) (by omega) (by omega)
                    refine lv_ladd hx hb dX11_truly_120 ?_
                    refine lv_topl (fun v1010 ev1010 => ?_)
                    refine lv_lstore (lv' := [(4, .long v1010), (8, .int g356), (6, .long v40), (3, .int u17), (0, .ref o), (1, .int p1), (2, .int p2)]) hx hb dX11_truly_121 hl (by decide) rfl (fun ls hl => ?_)
                    refine W.widen (k := 0) (n := 0) (Nat.le_of_ble_eq_true rfl) (Nat.le_of_ble_eq_true rfl) ?_
                    exact jn958 (v1010, u982, u977, u978, u979, u980, u981, u971, u972, u973, u975, u976, u974, f983, f990, f989, f984, f985, f986, f987, f988, f991) H locs ls ⟨hP, hD, hS, lv_sub hl [0, 1, 2, 3, 4, 5, 6] rfl, hw993⟩
                  · skip
                    have c1000 := i_ne (Eq.refl u996.toInt) (show (0 : Int32).toInt = 0 by decide) c1000
                    refine lv_goto (tgt := 123) hx hb dX11_truly_101 (by decide) ?_
                    refine W.widen (k := 0) (n := 0) (Nat.le_of_ble_eq_true rfl) (Nat.le_of_ble_eq_true rfl) ?_
                    exact jn958 (g357, u982, u977, u978, u979, u980, u981, u971, u972, u973, u975, u976, u974, f983, f990, f989, f984, f985, f986, f987, f988, f991) H locs ls ⟨hP, hD, hS, lv_sub hl [2, 0, 1, 3, 4, 5, 6] rfl, hw993⟩
                · obtain rfl : u970 = 0 := i_is c994 (by decide)
                  refine W.eq (g2 := F0 m 91 ls [.int 0]) rfl ?_
                  refine lv_if_eq (tgt := 123) hx hb dX11_truly_91 (by decide) (fun c1011 => ?_) (fun c1011 => ?_)
                  rotate_left
                  · exact absurd c1011 (by decide)
                  refine W.widen (k := 0) (n := 0) (Nat.le_of_ble_eq_true rfl) (Nat.le_of_ble_eq_true rfl) ?_
                  exact jn958 (g357, u982, u977, u978, u979, u980, u981, u971, u972, u973, u975, u976, u974, f983, f990, f989, f984, f985, f986, f987, f988, f991) H locs ls ⟨hP, hD, hS, lv_sub hl [2, 0, 1, 3, 4, 5, 6] rfl, hw993⟩
              · obtain rfl : u962 = 0 := i_is c966 (by decide)
                refine W.eq (g2 := F0 m 80 ls [.int 0]) rfl ?_
                refine lv_if_eq (tgt := 123) hx hb dX11_truly_80 (by decide) (fun c1012 => ?_) (fun c1012 => ?_)
                rotate_left
                · exact absurd c1012 (by decide)
                refine W.widen (k := 0) (n := 0) (Nat.le_of_ble_eq_true rfl) (Nat.le_of_ble_eq_true rfl) ?_
                exact jn958 (g357, g358, u868, u869, u870, g362, g363, u862, u863, u864, u866, u867, u865, f871, f371, f372, f872, f873, f874, f875, f876, f378) H locs ls ⟨hP, hD, hS, lv_sub hl [2, 0, 1, 3, 4, 5, 6] rfl, hw882⟩
          · obtain rfl : u861 = 0 := i_is c883 (by decide)
            refine W.eq (g2 := F0 m 72 ls [.int 0]) rfl ?_
            refine lv_if_eq (tgt := 123) hx hb dX11_truly_72 (by decide) (fun c1014 => ?_) (fun c1014 => ?_)
            rotate_left
            · exact absurd c1014 (by decide)
            obtain ⟨v1015, ev1015⟩ : ∃ y : Int32, y = g356 + 1 := ⟨_, rfl⟩
            have hv1015 := i_add (Eq.refl g356.toInt) (show (1 : Int32).toInt = 1 by decide) ev1015 (by omega) (by omega)
            refine lv_iinc (v := v1015) (lv' := [(8, .int v1015), (6, .long v40), (4, .long g357), (3, .int u17), (0, .ref o), (1, .int p1), (2, .int p2)]) hx hb dX11_truly_123 hl (k := 0) rfl (by rw [ev1015]; rfl) (by decide) rfl (fun ls hl => ?_)
            refine lv_goto (tgt := 53) hx hb dX11_truly_126 (by decide) ?_
            exact ih698 (v1015, g357, g358, u868, u869, u870, g362, g363, u862, u863, u864, u866, u867, u865, f871, f371, f372, f872, f873, f874, f875, f876, f378) H locs ls (by show (12 - v1015.toInt).toNat < (12 - g356.toInt).toNat; omega) ⟨hP, hD, hS, lv_sub hl [0, 1, 2, 3, 4, 5, 6] rfl, by omega, hw882⟩
      · skip
        have c34 := i_eq (Eq.refl u17.toInt) (show (0 : Int32).toInt = 0 by decide) c34
        refine lv_ldc2 (v := (-2)) hx hb hown (hg _ kw_1707) dX11_truly_32 ?_
        refine W.widen (k := 0) (n := 0) (Nat.le_of_ble_eq_true rfl) (Nat.le_of_ble_eq_true rfl) ?_
        have zlm2 : ((-2) : Int64).toInt = -2 := by decide
        exact W.lret (v := (-2)) hx hb hr (fun t ht hW => ⟨⟨((-2), u18, u19, u20, u21, u22, u23, u24, u25, u26, (I 32), (J 33), (I 26), (F 1), f27, f28, f29, f30, f31, (G 27), (G 25), (F 46)), rfl, (hw33), CB.mk ht hP hD⟩, hS.F ht⟩) hS.2.2 dX11_truly_35
    · obtain rfl : u8 = 0 := i_is c13 (by decide)
      have zi0 : (0 : Int32).toInt = 0 := by decide
      refine W.eq (g2 := F0 m 15 ls [.int 0]) rfl ?_
      refine lv_if_ne (tgt := 22) hx hb dX11_truly_15 (by decide) (fun c1016 => ?_) (fun c1016 => ?_)
      · exact absurd c1016 (by decide)
      refine lv_ldc2 (v := (-1)) hx hb hown (hg _ kw_1650) dX11_truly_18 ?_
      refine W.widen (k := 0) (n := 0) (Nat.le_of_ble_eq_true rfl) (Nat.le_of_ble_eq_true rfl) ?_
      have zlm1 : ((-1) : Int64).toInt = -1 := by decide
      exact W.lret (v := (-1)) hx hb hr (fun t ht hW => ⟨⟨((-1), (I 34), (I 35), (I 36), (I 39), (J 37), (J 38), (I 29), (J 30), (J 31), (I 32), (J 33), (I 26), (F 1), (F 28), (G 40), (F 41), (G 42), (F 43), (G 27), (G 25), (F 46)), rfl, (hk1), CB.mk ht hP hD⟩, hS.F ht⟩) hS.2.2 dX11_truly_21
  · obtain rfl : u1 = 0 := i_is c6 (by decide)
    have zi0 : (0 : Int32).toInt = 0 := by decide
    refine W.eq (g2 := F0 m 6 ls [.int 0]) rfl ?_
    refine lv_if_eq (tgt := 18) hx hb dX11_truly_6 (by decide) (fun c1017 => ?_) (fun c1017 => ?_)
    rotate_left
    · exact absurd c1017 (by decide)
    refine lv_ldc2 (v := (-1)) hx hb hown (hg _ kw_1650) dX11_truly_18 ?_
    refine W.widen (k := 0) (n := 0) (Nat.le_of_ble_eq_true rfl) (Nat.le_of_ble_eq_true rfl) ?_
    have zlm1 : ((-1) : Int64).toInt = -1 := by decide
    exact W.lret (v := (-1)) hx hb hr (fun t ht hW => ⟨⟨((-1), (I 34), (I 35), (I 36), (I 39), (J 37), (J 38), (I 29), (J 30), (J 31), (I 32), (J 33), (I 26), (F 1), (F 28), (G 40), (F 41), (G 42), (F 43), (G 27), (G 25), (F 46)), rfl, (hk1), CB.mk ht hP hD⟩, hS.F ht⟩) hS.2.2 dX11_truly_21
set_option maxHeartbeats 4000000 in
set_option maxRecDepth 100000 in
theorem m_many (l : Launch) (D : va_G) (Y : Nat → ClassId) (Z : Nat → Nat) (sz : Nat) (o : Nat) (a : Nat → Nat) (I : Nat → Int32) (J : Nat → Int64) (F : Nat → Nat → Int32) (G : Nat → Nat → Int64) (p1 : Int32) (p2 : Int32) (p3 : Int32) (p4 : Int32) (p5 : Int32) (hk0 : TO (F 0)) (hk1 : LB (F 28)) (hk2 : TX (F 4) (F 9) (F 10) (F 11) (F 12) (F 13)) (hk3 : TC (F 4) (F 8) (F 7) (F 5)) : Met l yX11_many (.code yX11_many cX11_many 8 (some .int) :: GW) ({ frames := 9, cells := 0, slots := 0, locals := 223 }) (va_Pc [.ref o, .int p1, .int p2, .int p3, .int p4, .int p5] (CP D Y Z (MW Y o a I J F G) sz)) (QG (S := Int32 × Int32 × Int32 × Int32 × Int32 × Int64 × Int64 × Int32 × Int64 × Int64 × Int32 × Int64 × Int32 × (Nat → Int32) × (Nat → Int32) × (Nat → Int64) × (Nat → Int32) × (Nat → Int64) × (Nat → Int32) × (Nat → Int64) × (Nat → Int64) × (Nat → Int32)) (fun u => some (.int u.1)) (fun u => LB u.2.2.2.2.2.2.2.2.2.2.2.2.2.2.1) (fun u => CB D (MW Y o a (upd (upd (upd (upd (upd (upd (upd I 26 u.2.2.2.2.2.2.2.2.2.2.2.2.1) 29 u.2.2.2.2.2.2.2.1) 32 u.2.2.2.2.2.2.2.2.2.2.1) 34 u.2.1) 35 u.2.2.1) 36 u.2.2.2.1) 39 u.2.2.2.2.1) (vp_updL (vp_updL (vp_updL (vp_updL (vp_updL J 30 u.2.2.2.2.2.2.2.2.1) 31 u.2.2.2.2.2.2.2.2.2.1) 33 u.2.2.2.2.2.2.2.2.2.2.2.1) 37 u.2.2.2.2.2.1) 38 u.2.2.2.2.2.2.1) (vf_upd (vf_upd (vf_upd (vf_upd (vf_upd F 1 u.2.2.2.2.2.2.2.2.2.2.2.2.2.1) 28 u.2.2.2.2.2.2.2.2.2.2.2.2.2.2.1) 41 u.2.2.2.2.2.2.2.2.2.2.2.2.2.2.2.2.1) 43 u.2.2.2.2.2.2.2.2.2.2.2.2.2.2.2.2.2.2.1) 46 u.2.2.2.2.2.2.2.2.2.2.2.2.2.2.2.2.2.2.2.2.2) (vf_upd (vf_upd (vf_upd (vf_upd G 25 u.2.2.2.2.2.2.2.2.2.2.2.2.2.2.2.2.2.2.2.2.1) 27 u.2.2.2.2.2.2.2.2.2.2.2.2.2.2.2.2.2.2.2.1) 40 u.2.2.2.2.2.2.2.2.2.2.2.2.2.2.2.1) 42 u.2.2.2.2.2.2.2.2.2.2.2.2.2.2.2.2.2.1)) (va_A (MW Y o a I J F G) sz)) (va_A (MW Y o a I J F G) sz)) 0 0 (va_A (MW Y o a I J F G) sz) := by
  refine Met.ofW (cc := cX11_many) (maxL := 8) (ret := (some .int)) (by decide) rfl ?_
  intro p e s m args below meth c s₁ B hml hv
  obtain ⟨rfl, hsz, hP, hKN, hD0⟩ := hv
  have hx := B.exec
  have hb := B.bytes
  have hr := B.returns
  have hts := atoms_spec (ws := .code yX11_many cX11_many 8 (some .int) :: GW) B.pre
  have hg : ∀ w ∈ GW, w.before _ s = true := fun w h => hts w (List.mem_cons_of_mem _ h)
  have hown : s.vm.findClass RX11 = some m.cls := findClass_of_methodNamed B.named
  have hlocks := B.notSynchronized
  subst hsz
  have hD := hD0.self (sz := s.heap.size)
  generalize hAe : va_A (MW Y o a I J F G) s.heap.size = A at hD ⊢
  have hA : ∀ q : Nat, s.heap.size ≤ q → A q := fun q h => by rw [← hAe]; exact Or.inr h
  clear hAe hD0 hts B
  have hl := lv_entry ([.ref o, .int p1, .int p2, .int p3, .int p4, .int p5]) (n := 8) (Nat.le_of_ble_eq_true rfl)
  rw [lg_entry_eq]
  generalize (lg_sl ([.ref o, .int p1, .int p2, .int p3, .int p4, .int p5]) ++ List.replicate (8 - (lg_sl ([.ref o, .int p1, .int p2, .int p3, .int p4, .int p5])).length) Slot.unset).toArray = ls at hl ⊢
  have hl : lv_has ls 8 [(0, .ref o), (1, .int p1), (2, .int p2), (3, .int p3), (4, .int p4), (5, .int p5)] := hl
  refine w_start (A0 := A) hP (fun H locs hP hS => ?_)
  refine lv_aload_n hx hb dX11_many_0 rfl (lv_at hl 0 rfl) ?_
  refine lv_iconst (v := 1) hx hb dX11_many_1 (by decide) ?_
  refine lv_iload_n hx hb dX11_many_2 rfl (lv_at hl 1 rfl) ?_
  have zi1 : (1 : Int32).toInt = 1 := by decide
  refine cga (rn_V (As := [.int 1, .int p1]) (rest := []) (b := o) (m_isText1 l D Y Z H.size o a I J F G  p1 hk2) ⟨hx, hb, hml, hown, hg⟩ lk_X11_366 ⟨CP.blind, va_recv hKN.1 hP (ci := 11) (q0 := 0) rfl rfl, CP.at hP hKN hD⟩ ⟨⟨rfl, rfl⟩, ⟨Nat.le_of_ble_eq_true rfl, Nat.le_of_ble_eq_true rfl⟩, ⟨Nat.le_of_ble_eq_true rfl, Nat.le_of_ble_eq_true rfl⟩⟩ hl.1 rfl (Nat.le_of_ble_eq_true rfl) dX11_many_3) hP hD hS hA (fun u1 H locs w2 hP hD hS => ?_)
  obtain ⟨hw4, hw5⟩ : ((0 ≤ p1.toInt ∧ p1.toInt ≤ 5 ∧ p1.toInt < ((F 4) 1).toInt ∧ u1.toInt = 1) ∨ u1.toInt = 0) ∧ (0 ≤ u1.toInt ∧ u1.toInt ≤ 1) := w2
  refine W.eq (g2 := F0 m 6 ls [.int u1]) rfl ?_
  have hP : va_P D vwCl (MW Y o a I J F G) H := hP
  have hD : va_D A (MW Y o a I J F G) := hD
  rcases (show u1.toInt = 1 ∨ u1.toInt = 0 by omega) with c6 | c6
  · obtain rfl : u1 = 1 := i_is c6 (by decide)
    refine W.eq (g2 := F0 m 6 ls [.int 1]) rfl ?_
    refine lv_if_eq (tgt := 39) hx hb dX11_many_6 (by decide) (fun c7 => ?_) (fun c7 => ?_)
    · exact absurd c7 (by decide)
    refine lv_aload_n hx hb dX11_many_9 rfl (lv_at hl 0 rfl) ?_
    refine lv_iconst (v := 2) hx hb dX11_many_10 (by decide) ?_
    refine lv_iload_n hx hb dX11_many_11 rfl (lv_at hl 2 rfl) ?_
    have zi2 : (2 : Int32).toInt = 2 := by decide
    refine cga (rn_V (As := [.int 2, .int p2]) (rest := []) (b := o) (m_isText2 l D Y Z H.size o a I J F G  p2 hk2) ⟨hx, hb, hml, hown, hg⟩ lk_X11_366 ⟨CP.blind, va_recv hKN.1 hP (ci := 11) (q0 := 0) rfl rfl, CP.at hP hKN hD⟩ ⟨⟨rfl, rfl⟩, ⟨Nat.le_of_ble_eq_true rfl, Nat.le_of_ble_eq_true rfl⟩, ⟨Nat.le_of_ble_eq_true rfl, Nat.le_of_ble_eq_true rfl⟩⟩ hl.1 rfl (Nat.le_of_ble_eq_true rfl) dX11_many_12) hP hD hS hA (fun u8 H locs w9 hP hD hS => ?_)
    obtain ⟨hw11, hw12⟩ : ((0 ≤ p2.toInt ∧ p2.toInt ≤ 5 ∧ p2.toInt < ((F 4) 2).toInt ∧ u8.toInt = 1) ∨ u8.toInt = 0) ∧ (0 ≤ u8.toInt ∧ u8.toInt ≤ 1) := w9
    refine W.eq (g2 := F0 m 15 ls [.int u8]) rfl ?_
    have hP : va_P D vwCl (MW Y o a I J F G) H := hP
    have hD : va_D A (MW Y o a I J F G) := hD
    rcases (show u8.toInt = 1 ∨ u8.toInt = 0 by omega) with c13 | c13
    · obtain rfl : u8 = 1 := i_is c13 (by decide)
      refine W.eq (g2 := F0 m 15 ls [.int 1]) rfl ?_
      refine lv_if_eq (tgt := 39) hx hb dX11_many_15 (by decide) (fun c14 => ?_) (fun c14 => ?_)
      · exact absurd c14 (by decide)
      refine lv_iload_n hx hb dX11_many_18 rfl (lv_at hl 3 rfl) ?_
      have j15 := rgI p3
      refine lv_if_lt (tgt := 39) hx hb dX11_many_19 (by decide) (fun c16 => ?_) (fun c16 => ?_)
      · skip
        have c16 := i_lt (Eq.refl p3.toInt) (show (0 : Int32).toInt = 0 by decide) c16
        refine lv_iconst (v := (-1)) hx hb dX11_many_39 (by decide) ?_
        refine W.widen (k := 0) (n := 0) (Nat.le_of_ble_eq_true rfl) (Nat.le_of_ble_eq_true rfl) ?_
        have zim1 : ((-1) : Int32).toInt = -1 := by decide
        exact W.iret (v := (-1)) hx hb hr (fun t ht hW => ⟨⟨((-1), (I 34), (I 35), (I 36), (I 39), (J 37), (J 38), (I 29), (J 30), (J 31), (I 32), (J 33), (I 26), (F 1), (F 28), (G 40), (F 41), (G 42), (F 43), (G 27), (G 25), (F 46)), rfl, (hk1), CB.mk ht hP hD⟩, hS.F ht⟩) hS.2.2 dX11_many_40
      · skip
        have c16 := i_nlt (Eq.refl p3.toInt) (show (0 : Int32).toInt = 0 by decide) c16
        refine lv_iload hx hb dX11_many_22 (lv_at hl 4 rfl) ?_
        refine lv_iload_n hx hb dX11_many_24 rfl (lv_at hl 3 rfl) ?_
        have j17 := rgI p4
        refine lv_icmp_lt (tgt := 39) hx hb dX11_many_25 (by decide) (fun c18 => ?_) (fun c18 => ?_)
        · skip
          have c18 := i_lt (Eq.refl p4.toInt) (Eq.refl p3.toInt) c18
          refine lv_iconst (v := (-1)) hx hb dX11_many_39 (by decide) ?_
          refine W.widen (k := 0) (n := 0) (Nat.le_of_ble_eq_true rfl) (Nat.le_of_ble_eq_true rfl) ?_
          have zim1 : ((-1) : Int32).toInt = -1 := by decide
          exact W.iret (v := (-1)) hx hb hr (fun t ht hW => ⟨⟨((-1), (I 34), (I 35), (I 36), (I 39), (J 37), (J 38), (I 29), (J 30), (J 31), (I 32), (J 33), (I 26), (F 1), (F 28), (G 40), (F 41), (G 42), (F 43), (G 27), (G 25), (F 46)), rfl, (hk1), CB.mk ht hP hD⟩, hS.F ht⟩) hS.2.2 dX11_many_40
        · skip
          have c18 := i_nlt (Eq.refl p4.toInt) (Eq.refl p3.toInt) c18
          refine lv_iload hx hb dX11_many_28 (lv_at hl 5 rfl) ?_
          have j19 := rgI p5
          have j20 := Int32.toInt_toInt64 p5
          refine lv_i2l (v := p5.toInt64) hx hb dX11_many_30 (rfl) ?_
          refine lv_lconst (v := 0) hx hb dX11_many_31 (by decide) ?_
          refine lv_lconst (v := 1) hx hb dX11_many_32 (by decide) ?_
          have zl0 : (0 : Int64).toInt = 0 := by decide
          have zl1 : (1 : Int64).toInt = 1 := by decide
          refine cg0 (rn_S (As := [.long p5.toInt64, .long 0, .long 1]) (rest := []) (m_in l D Y Z H.size   p5.toInt64 0 1 ) ⟨hx, hb, hml, hown, hg⟩ lk_X11_99 ⟨CP.blind, CP.at nilP hKN (nilD (A := fun _ => True))⟩ ⟨⟨rfl, rfl⟩, ⟨Nat.le_of_ble_eq_true rfl, Nat.le_of_ble_eq_true rfl⟩, ⟨Nat.le_of_ble_eq_true rfl, Nat.le_of_ble_eq_true rfl⟩⟩ hl.1 rfl (Nat.le_of_ble_eq_true rfl) dX11_many_33) hP hS hA (fun u21 H locs w22 hP hS => ?_)
          obtain ⟨hw24, hw25⟩ : (((0 : Int64).toInt ≤ p5.toInt64.toInt ∧ p5.toInt64.toInt ≤ (1 : Int64).toInt ∧ u21.toInt = 1) ∨ (¬ ((0 : Int64).toInt ≤ p5.toInt64.toInt ∧ p5.toInt64.toInt ≤ (1 : Int64).toInt) ∧ u21.toInt = 0)) ∧ (0 ≤ u21.toInt ∧ u21.toInt ≤ 1) := w22
          refine W.eq (g2 := F0 m 36 ls [.int u21]) rfl ?_
          rcases (show u21.toInt = 1 ∨ u21.toInt = 0 by omega) with c26 | c26
          · obtain rfl : u21 = 1 := i_is c26 (by decide)
            refine W.eq (g2 := F0 m 36 ls [.int 1]) rfl ?_
            refine lv_if_ne (tgt := 41) hx hb dX11_many_36 (by decide) (fun c27 => ?_) (fun c27 => ?_)
            rotate_left
            · exact absurd c27 (by decide)
            refine lv_iconst (v := 0) hx hb dX11_many_41 (by decide) ?_
            refine lv_istore (lv' := [(6, .int 0), (0, .ref o), (1, .int p1), (2, .int p2), (3, .int p3), (4, .int p4), (5, .int p5)]) hx hb dX11_many_42 hl (by decide) rfl (fun ls hl => ?_)
            refine lv_iconst (v := 0) hx hb dX11_many_44 (by decide) ?_
            refine lv_istore (lv' := [(7, .int 0), (6, .int 0), (0, .ref o), (1, .int p1), (2, .int p2), (3, .int p3), (4, .int p4), (5, .int p5)]) hx hb dX11_many_45 hl (by decide) rfl (fun ls hl => ?_)
            have zi0 : (0 : Int32).toInt = 0 := by decide
            refine w_loop (σ := Int32 × Int32 × Int32 × Int32 × Int64 × Int64 × Int32 × Int64 × Int32 × Int32 × Int32 × Int64 × Int64 × Int32 × (Nat → Int32) × (Nat → Int64) × (Nat → Int64) × (Nat → Int32) × (Nat → Int64) × (Nat → Int32) × (Nat → Int64) × (Nat → Int32) × (Nat → Int32)) (fun xx H locs ls => match xx with | (g611, g612, g613, g614, g615, g616, g617, g618, g619, g620, g621, g622, g623, g624, f625, f626, f627, f628, f629, f630, f631, f632, f633) => va_P D vwCl (MW Y o a (upd (upd (upd (upd (upd (upd (upd I 26 g613) 29 g614) 32 g617) 34 g619) 35 g620) 36 g621) 39 g624) (vp_updL (vp_updL (vp_updL (vp_updL (vp_updL J 30 g615) 31 g616) 33 g618) 37 g622) 38 g623) (vf_upd (vf_upd (vf_upd (vf_upd (vf_upd F 1 f625) 28 f628) 41 f630) 43 f632) 46 f633) (vf_upd (vf_upd (vf_upd (vf_upd G 25 f626) 27 f627) 40 f629) 42 f631)) H ∧ va_D A (MW Y o a (upd (upd (upd (upd (upd (upd (upd I 26 g613) 29 g614) 32 g617) 34 g619) 35 g620) 36 g621) 39 g624) (vp_updL (vp_updL (vp_updL (vp_updL (vp_updL J 30 g615) 31 g616) 33 g618) 37 g622) 38 g623) (vf_upd (vf_upd (vf_upd (vf_upd (vf_upd F 1 f625) 28 f628) 41 f630) 43 f632) 46 f633) (vf_upd (vf_upd (vf_upd (vf_upd G 25 f626) 27 f627) 40 f629) 42 f631)) ∧ va_S A s.heap H locs ∧ lv_has ls 8 [(7, .int g611), (6, .int g612), (0, .ref o), (1, .int p1), (2, .int p2), (3, .int p3), (4, .int p4), (5, .int p5)] ∧ (0 ≤ g611.toInt ∧ g611.toInt ≤ 12) ∧ LB f628) (fun xx => match xx with | (g611, g612, g613, g614, g615, g616, g617, g618, g619, g620, g621, g622, g623, g624, f625, f626, f627, f628, f629, f630, f631, f632, f633) => (12 - g611.toInt).toNat) (0, 0, (I 26), (I 29), (J 30), (J 31), (I 32), (J 33), (I 34), (I 35), (I 36), (J 37), (J 38), (I 39), (F 1), (G 25), (G 27), (F 28), (G 40), (F 41), (G 42), (F 43), (F 46)) ⟨hP, hD, hS, lv_sub hl [0, 1, 2, 3, 4, 5, 6, 7] rfl, by omega, hk1⟩ (fun xx H locs ls hI ih => ?_)
            obtain ⟨g611, g612, g613, g614, g615, g616, g617, g618, g619, g620, g621, g622, g623, g624, f625, f626, f627, f628, f629, f630, f631, f632, f633⟩ := xx
            obtain ⟨hP, hD, hS, hl, hq1219, hp1220⟩ := hI
            have ih1221 := ih
            refine lv_iload hx hb dX11_many_47 (lv_at hl 0 rfl) ?_
            refine lv_aload_n hx hb dX11_many_49 rfl (lv_at hl 2 rfl) ?_
            refine va_get (D := D) (ci := 11) (v := .ref (a 0)) (C := RX11) (T := TX11) (N := 49) hx hb hg inGX11 hown hKN.1 hP 0 rfl rfl 0 (by decide) (hg _ kw_1208) (fun _ h9 => h9) rfl dX11_many_50 ?_
            refine lv_iconst (v := 0) hx hb dX11_many_53 (by decide) ?_
            refine va_iald hx hb hKN.1 hP 1 0 rfl rfl (show ¬ ((0 : Int32) < 0 ∨ 7533 ≤ (0 : Int32).toNatClampNeg) by decide) dX11_many_54 ?_
            refine lv_topi (fun v1222 ev1222 => ?_)
            have ev1222 : v1222 = (F 0) 0 := ev1222
            have kv1222 := TO_0 hk0
            rw [← ev1222] at kv1222
            have qv1222 := congrArg Int32.toInt ev1222
            refine lv_icmp_ge (tgt := 139) hx hb dX11_many_55 (by decide) (fun c1515 => ?_) (fun c1515 => ?_)
            · skip
              have c1515 := i_le (Eq.refl v1222.toInt) (Eq.refl g611.toInt) c1515
              refine lv_iload hx hb dX11_many_139 (lv_at hl 1 rfl) ?_
              refine W.widen (k := 0) (n := 0) (Nat.le_of_ble_eq_true rfl) (Nat.le_of_ble_eq_true rfl) ?_
              exact W.iret (v := g612) hx hb hr (fun t ht hW => ⟨⟨(g612, g619, g620, g621, g624, g622, g623, g614, g615, g616, g617, g618, g613, f625, f628, f629, f630, f631, f632, f627, f626, f633), rfl, (hp1220), CB.mk ht hP hD⟩, hS.F ht⟩) hS.2.2 dX11_many_141
            · skip
              have c1515 := i_nle (Eq.refl v1222.toInt) (Eq.refl g611.toInt) c1515
              refine lv_aload_n hx hb dX11_many_58 rfl (lv_at hl 2 rfl) ?_
              refine lv_iload_n hx hb dX11_many_59 rfl (lv_at hl 3 rfl) ?_
              refine lv_iload hx hb dX11_many_60 (lv_at hl 0 rfl) ?_
              refine lv_iload hx hb dX11_many_62 (lv_at hl 7 rfl) ?_
              refine cga (rn_V (As := [.int p1, .int g611, .int p5]) (rest := []) (b := o) (m_finds l D Y Z H.size o a (upd (upd (upd (upd (upd (upd (upd I 26 g613) 29 g614) 32 g617) 34 g619) 35 g620) 36 g621) 39 g624) (vp_updL (vp_updL (vp_updL (vp_updL (vp_updL J 30 g615) 31 g616) 33 g618) 37 g622) 38 g623) (vf_upd (vf_upd (vf_upd (vf_upd (vf_upd F 1 f625) 28 f628) 41 f630) 43 f632) 46 f633) (vf_upd (vf_upd (vf_upd (vf_upd G 25 f626) 27 f627) 40 f629) 42 f631)  p1 g611 p5 (show (0 ≤ p1.toInt ∧ p1.toInt ≤ 5) by omega) (show (p1.toInt < ((F 4) 1).toInt) by omega) (show (0 ≤ g611.toInt ∧ g611.toInt ≤ 11) by omega) (show (0 ≤ p5.toInt ∧ p5.toInt ≤ 5) by omega) hk0 hp1220 hk2) ⟨hx, hb, hml, hown, hg⟩ lk_X11_487 ⟨CP.blind, va_recv hKN.1 hP (ci := 11) (q0 := 0) rfl rfl, CP.at hP hKN hD⟩ ⟨⟨rfl, rfl⟩, ⟨Nat.le_of_ble_eq_true rfl, Nat.le_of_ble_eq_true rfl⟩, ⟨Nat.le_of_ble_eq_true rfl, Nat.le_of_ble_eq_true rfl⟩⟩ hl.1 rfl (Nat.le_of_ble_eq_true rfl) dX11_many_64) hP hD hS hA (fun u1516 H locs w1517 hP hD hS => ?_)
              obtain ⟨u1518, u1519, u1520, u1521, u1522, u1523, u1524, u1525, u1526, u1527, f1528, f1529, f1530, f1531, f1532, f1533⟩ := u1516
              obtain ⟨hw1534, hw1535, hw1536, hw1537, hw1538, hw1539⟩ : ((u1518.toInt = 1 ∧ 1 ≤ u1524.toInt ∧ 2 ≤ u1519.toInt ∧ u1519.toInt ≤ 200 ∧ 1 ≤ u1520.toInt ∧ u1520.toInt ≤ 10 ∧ 0 ≤ u1521.toInt ∧ u1521.toInt < u1519.toInt ∧ -9000000000000 ≤ u1523.toInt ∧ u1523.toInt ≤ 9000000000000 ∧ (cin f1529 (u1519.toInt).toNat (u1520.toInt).toNat (u1521.toInt).toNat 600 : Int) ≠ u1525.toInt) ∨ u1518.toInt = 0) ∧ (0 ≤ u1518.toInt ∧ u1518.toInt ≤ 1) ∧ (0 ≤ u1525.toInt ∧ u1525.toInt ≤ 600) ∧ (-60000000 ≤ u1526.toInt ∧ u1526.toInt ≤ 60000000) ∧ (1 ≤ u1527.toInt) ∧ LB f1529 := w1517
              refine W.eq (g2 := F0 m 67 ls [.int u1518]) rfl ?_
              have hP : va_P D vwCl (MW Y o a (upd (upd (upd (upd (upd (upd (upd I 26 g613) 29 u1525) 32 g617) 34 u1519) 35 u1520) 36 u1521) 39 u1522) (vp_updL (vp_updL (vp_updL (vp_updL (vp_updL J 30 u1526) 31 u1527) 33 g618) 37 u1523) 38 u1524) (vf_upd (vf_upd (vf_upd (vf_upd (vf_upd F 1 f1528) 28 f1529) 41 f1531) 43 f1533) 46 f633) (vf_upd (vf_upd (vf_upd (vf_upd G 25 f626) 27 f627) 40 f1530) 42 f1532)) H := hP
              have hD : va_D A (MW Y o a (upd (upd (upd (upd (upd (upd (upd I 26 g613) 29 u1525) 32 g617) 34 u1519) 35 u1520) 36 u1521) 39 u1522) (vp_updL (vp_updL (vp_updL (vp_updL (vp_updL J 30 u1526) 31 u1527) 33 g618) 37 u1523) 38 u1524) (vf_upd (vf_upd (vf_upd (vf_upd (vf_upd F 1 f1528) 28 f1529) 41 f1531) 43 f1533) 46 f633) (vf_upd (vf_upd (vf_upd (vf_upd G 25 f626) 27 f627) 40 f1530) 42 f1532)) := hD
              rcases (show u1518.toInt = 1 ∨ u1518.toInt = 0 by omega) with c1540 | c1540
              · obtain rfl : u1518 = 1 := i_is c1540 (by decide)
                refine W.eq (g2 := F0 m 67 ls [.int 1]) rfl ?_
                refine w_join (σ := Int32 × Int32 × Int32 × Int64 × Int64 × Int32 × Int64 × Int32 × Int32 × Int32 × Int64 × Int64 × Int32 × (Nat → Int32) × (Nat → Int64) × (Nat → Int64) × (Nat → Int32) × (Nat → Int64) × (Nat → Int32) × (Nat → Int64) × (Nat → Int32) × (Nat → Int32)) (pcJ := 133) (kJ := 0) (nJ := 0) (stk := fun xx => match xx with | (g1660, g1661, g1662, g1663, g1664, g1665, g1666, g1667, g1668, g1669, g1670, g1671, g1672, f1673, f1674, f1675, f1676, f1677, f1678, f1679, f1680, f1681) => []) (fun xx H locs ls => match xx with | (g1660, g1661, g1662, g1663, g1664, g1665, g1666, g1667, g1668, g1669, g1670, g1671, g1672, f1673, f1674, f1675, f1676, f1677, f1678, f1679, f1680, f1681) => va_P D vwCl (MW Y o a (upd (upd (upd (upd (upd (upd (upd I 26 g1661) 29 g1662) 32 g1665) 34 g1667) 35 g1668) 36 g1669) 39 g1672) (vp_updL (vp_updL (vp_updL (vp_updL (vp_updL J 30 g1663) 31 g1664) 33 g1666) 37 g1670) 38 g1671) (vf_upd (vf_upd (vf_upd (vf_upd (vf_upd F 1 f1673) 28 f1676) 41 f1678) 43 f1680) 46 f1681) (vf_upd (vf_upd (vf_upd (vf_upd G 25 f1674) 27 f1675) 40 f1677) 42 f1679)) H ∧ va_D A (MW Y o a (upd (upd (upd (upd (upd (upd (upd I 26 g1661) 29 g1662) 32 g1665) 34 g1667) 35 g1668) 36 g1669) 39 g1672) (vp_updL (vp_updL (vp_updL (vp_updL (vp_updL J 30 g1663) 31 g1664) 33 g1666) 37 g1670) 38 g1671) (vf_upd (vf_upd (vf_upd (vf_upd (vf_upd F 1 f1673) 28 f1676) 41 f1678) 43 f1680) 46 f1681) (vf_upd (vf_upd (vf_upd (vf_upd G 25 f1674) 27 f1675) 40 f1677) 42 f1679)) ∧ va_S A s.heap H locs ∧ lv_has ls 8 [(6, .int g1660), (7, .int g611), (0, .ref o), (1, .int p1), (2, .int p2), (3, .int p3), (4, .int p4), (5, .int p5)] ∧ LB f1676) (fun xx H locs ls hI => ?_) (fun jn1682 => ?_)
                · skip
                  obtain ⟨g1660, g1661, g1662, g1663, g1664, g1665, g1666, g1667, g1668, g1669, g1670, g1671, g1672, f1673, f1674, f1675, f1676, f1677, f1678, f1679, f1680, f1681⟩ := xx
                  obtain ⟨hP, hD, hS, hl, hp1683⟩ := hI
                  refine W.eq (g2 := F0 m 133 ls []) rfl ?_
                  obtain ⟨v1684, ev1684⟩ : ∃ y : Int32, y = g611 + 1 := ⟨_, rfl⟩
                  have hv1684 := i_add (Eq.refl g611.toInt) (show (1 : Int32).toInt = 1 by decide) ev1684 (by omega) (by omega)
                  refine lv_iinc (v := v1684) (lv' := [(7, .int v1684), (6, .int g1660), (0, .ref o), (1, .int p1), (2, .int p2), (3, .int p3), (4, .int p4), (5, .int p5)]) hx hb dX11_many_133 hl (k := 1) rfl (by rw [ev1684]; rfl) (by decide) rfl (fun ls hl => ?_)
                  refine lv_goto (tgt := 47) hx hb dX11_many_136 (by decide) ?_
                  exact ih1221 (v1684, g1660, g1661, g1662, g1663, g1664, g1665, g1666, g1667, g1668, g1669, g1670, g1671, g1672, f1673, f1674, f1675, f1676, f1677, f1678, f1679, f1680, f1681) H locs ls (by show (12 - v1684.toInt).toNat < (12 - g611.toInt).toNat; omega) ⟨hP, hD, hS, lv_sub hl [0, 1, 2, 3, 4, 5, 6, 7] rfl, by omega, hp1683⟩
                · skip
                  refine lv_if_eq (tgt := 133) hx hb dX11_many_67 (by decide) (fun c1685 => ?_) (fun c1685 => ?_)
                  · exact absurd c1685 (by decide)
                  refine lv_aload_n hx hb dX11_many_70 rfl (lv_at hl 2 rfl) ?_
                  refine lv_iload_n hx hb dX11_many_71 rfl (lv_at hl 3 rfl) ?_
                  refine cga (rn_V (As := [.int p1]) (rest := []) (b := o) (m_isSeen l D Y Z H.size o a (upd (upd (upd (upd (upd (upd (upd I 26 g613) 29 u1525) 32 g617) 34 u1519) 35 u1520) 36 u1521) 39 u1522) (vp_updL (vp_updL (vp_updL (vp_updL (vp_updL J 30 u1526) 31 u1527) 33 g618) 37 u1523) 38 u1524) (vf_upd (vf_upd (vf_upd (vf_upd (vf_upd F 1 f1528) 28 f1529) 41 f1531) 43 f1533) 46 f633) (vf_upd (vf_upd (vf_upd (vf_upd G 25 f626) 27 f627) 40 f1530) 42 f1532)  p1 (show (0 ≤ p1.toInt ∧ p1.toInt ≤ 5) by omega)) ⟨hx, hb, hml, hown, hg⟩ lk_X11_494 ⟨CP.blind, va_recv hKN.1 hP (ci := 11) (q0 := 0) rfl rfl, CP.at hP hKN hD⟩ ⟨⟨rfl, rfl⟩, ⟨Nat.le_of_ble_eq_true rfl, Nat.le_of_ble_eq_true rfl⟩, ⟨Nat.le_of_ble_eq_true rfl, Nat.le_of_ble_eq_true rfl⟩⟩ hl.1 rfl (Nat.le_of_ble_eq_true rfl) dX11_many_72) hP hD hS hA (fun u1686 H locs w1687 hP hD hS => ?_)
                  have hw1689 : (0 ≤ u1686.toInt ∧ u1686.toInt ≤ 1) := w1687
                  clear w1687
                  refine W.eq (g2 := F0 m 75 ls [.int u1686]) rfl ?_
                  have hP : va_P D vwCl (MW Y o a (upd (upd (upd (upd (upd (upd (upd I 26 g613) 29 u1525) 32 g617) 34 u1519) 35 u1520) 36 u1521) 39 u1522) (vp_updL (vp_updL (vp_updL (vp_updL (vp_updL J 30 u1526) 31 u1527) 33 g618) 37 u1523) 38 u1524) (vf_upd (vf_upd (vf_upd (vf_upd (vf_upd F 1 f1528) 28 f1529) 41 f1531) 43 f1533) 46 f633) (vf_upd (vf_upd (vf_upd (vf_upd G 25 f626) 27 f627) 40 f1530) 42 f1532)) H := hP
                  have hD : va_D A (MW Y o a (upd (upd (upd (upd (upd (upd (upd I 26 g613) 29 u1525) 32 g617) 34 u1519) 35 u1520) 36 u1521) 39 u1522) (vp_updL (vp_updL (vp_updL (vp_updL (vp_updL J 30 u1526) 31 u1527) 33 g618) 37 u1523) 38 u1524) (vf_upd (vf_upd (vf_upd (vf_upd (vf_upd F 1 f1528) 28 f1529) 41 f1531) 43 f1533) 46 f633) (vf_upd (vf_upd (vf_upd (vf_upd G 25 f626) 27 f627) 40 f1530) 42 f1532)) := hD
                  rcases (show u1686.toInt = 1 ∨ u1686.toInt = 0 by omega) with c1690 | c1690
                  · obtain rfl : u1686 = 1 := i_is c1690 (by decide)
                    refine W.eq (g2 := F0 m 75 ls [.int 1]) rfl ?_
                    refine lv_if_eq (tgt := 133) hx hb dX11_many_75 (by decide) (fun c1691 => ?_) (fun c1691 => ?_)
                    · exact absurd c1691 (by decide)
                    refine lv_aload_n hx hb dX11_many_78 rfl (lv_at hl 2 rfl) ?_
                    refine lv_iload hx hb dX11_many_79 (lv_at hl 0 rfl) ?_
                    refine cga (rn_V (As := [.int g611]) (rest := []) (b := o) (m_radiusOf l D Y Z H.size o a (upd (upd (upd (upd (upd (upd (upd I 26 g613) 29 u1525) 32 g617) 34 u1519) 35 u1520) 36 u1521) 39 u1522) (vp_updL (vp_updL (vp_updL (vp_updL (vp_updL J 30 u1526) 31 u1527) 33 g618) 37 u1523) 38 u1524) (vf_upd (vf_upd (vf_upd (vf_upd (vf_upd F 1 f1528) 28 f1529) 41 f1531) 43 f1533) 46 f633) (vf_upd (vf_upd (vf_upd (vf_upd G 25 f626) 27 f627) 40 f1530) 42 f1532)  g611 (show (0 ≤ g611.toInt ∧ g611.toInt ≤ 11) by omega) (show (-9000000000000 ≤ u1523.toInt ∧ u1523.toInt ≤ 9000000000000) by omega) hk0) ⟨hx, hb, hml, hown, hg⟩ lk_X11_558 ⟨CP.blind, va_recv hKN.1 hP (ci := 11) (q0 := 0) rfl rfl, CP.at hP hKN hD⟩ ⟨⟨rfl, rfl⟩, ⟨Nat.le_of_ble_eq_true rfl, Nat.le_of_ble_eq_true rfl⟩, ⟨Nat.le_of_ble_eq_true rfl, Nat.le_of_ble_eq_true rfl⟩⟩ hl.1 rfl (Nat.le_of_ble_eq_true rfl) dX11_many_81) hP hD hS hA (fun u1692 H locs w1693 hP hD hS => ?_)
                    refine W.eq (g2 := F0 m 84 ls [.int u1692]) rfl ?_
                    have hP : va_P D vwCl (MW Y o a (upd (upd (upd (upd (upd (upd (upd I 26 g613) 29 u1525) 32 g617) 34 u1519) 35 u1520) 36 u1521) 39 u1522) (vp_updL (vp_updL (vp_updL (vp_updL (vp_updL J 30 u1526) 31 u1527) 33 g618) 37 u1523) 38 u1524) (vf_upd (vf_upd (vf_upd (vf_upd (vf_upd F 1 f1528) 28 f1529) 41 f1531) 43 f1533) 46 f633) (vf_upd (vf_upd (vf_upd (vf_upd G 25 f626) 27 f627) 40 f1530) 42 f1532)) H := hP
                    have hD : va_D A (MW Y o a (upd (upd (upd (upd (upd (upd (upd I 26 g613) 29 u1525) 32 g617) 34 u1519) 35 u1520) 36 u1521) 39 u1522) (vp_updL (vp_updL (vp_updL (vp_updL (vp_updL J 30 u1526) 31 u1527) 33 g618) 37 u1523) 38 u1524) (vf_upd (vf_upd (vf_upd (vf_upd (vf_upd F 1 f1528) 28 f1529) 41 f1531) 43 f1533) 46 f633) (vf_upd (vf_upd (vf_upd (vf_upd G 25 f626) 27 f627) 40 f1530) 42 f1532)) := hD
                    have j1695 := rgI u1692
                    have j1696 := Int32.toInt_toInt64 u1692
                    refine lv_i2l (v := u1692.toInt64) hx hb dX11_many_84 (rfl) ?_
                    refine lv_iload_n hx hb dX11_many_85 rfl (lv_at hl 5 rfl) ?_
                    have j1697 := Int32.toInt_toInt64 p3
                    refine lv_i2l (v := p3.toInt64) hx hb dX11_many_86 (rfl) ?_
                    refine lv_iload hx hb dX11_many_87 (lv_at hl 6 rfl) ?_
                    have j1698 := Int32.toInt_toInt64 p4
                    refine lv_i2l (v := p4.toInt64) hx hb dX11_many_89 (rfl) ?_
                    refine cg0 (rn_S (As := [.long u1692.toInt64, .long p3.toInt64, .long p4.toInt64]) (rest := []) (m_in l D Y Z H.size   u1692.toInt64 p3.toInt64 p4.toInt64 ) ⟨hx, hb, hml, hown, hg⟩ lk_X11_99 ⟨CP.blind, CP.at nilP hKN (nilD (A := fun _ => True))⟩ ⟨⟨rfl, rfl⟩, ⟨Nat.le_of_ble_eq_true rfl, Nat.le_of_ble_eq_true rfl⟩, ⟨Nat.le_of_ble_eq_true rfl, Nat.le_of_ble_eq_true rfl⟩⟩ hl.1 rfl (Nat.le_of_ble_eq_true rfl) dX11_many_90) hP hS hA (fun u1699 H locs w1700 hP hS => ?_)
                    obtain ⟨hw1702, hw1703⟩ : ((p3.toInt64.toInt ≤ u1692.toInt64.toInt ∧ u1692.toInt64.toInt ≤ p4.toInt64.toInt ∧ u1699.toInt = 1) ∨ (¬ (p3.toInt64.toInt ≤ u1692.toInt64.toInt ∧ u1692.toInt64.toInt ≤ p4.toInt64.toInt) ∧ u1699.toInt = 0)) ∧ (0 ≤ u1699.toInt ∧ u1699.toInt ≤ 1) := w1700
                    refine W.eq (g2 := F0 m 93 ls [.int u1699]) rfl ?_
                    rcases (show u1699.toInt = 1 ∨ u1699.toInt = 0 by omega) with c1704 | c1704
                    · obtain rfl : u1699 = 1 := i_is c1704 (by decide)
                      refine W.eq (g2 := F0 m 93 ls [.int 1]) rfl ?_
                      refine lv_if_ne (tgt := 99) hx hb dX11_many_93 (by decide) (fun c1705 => ?_) (fun c1705 => ?_)
                      rotate_left
                      · exact absurd c1705 (by decide)
                      refine lv_iload hx hb dX11_many_99 (lv_at hl 1 rfl) ?_
                      refine lv_iload hx hb dX11_many_101 (lv_at hl 7 rfl) ?_
                      refine lv_iconst (v := 1) hx hb dX11_many_103 (by decide) ?_
                      refine w_join (σ := Int32 × Int32 × Int32 × Int64 × Int64 × Int32 × Int64 × Int32 × Int32 × Int32 × Int64 × Int64 × Int32 × (Nat → Int32) × (Nat → Int64) × (Nat → Int64) × (Nat → Int32) × (Nat → Int64) × (Nat → Int32) × (Nat → Int64) × (Nat → Int32) × (Nat → Int32)) (pcJ := 130) (kJ := 0) (nJ := 0) (stk := fun xx => match xx with | (g1741, g1742, g1743, g1744, g1745, g1746, g1747, g1748, g1749, g1750, g1751, g1752, g1753, f1754, f1755, f1756, f1757, f1758, f1759, f1760, f1761, f1762) => [.int g1741, .int g612]) (fun xx H locs ls => match xx with | (g1741, g1742, g1743, g1744, g1745, g1746, g1747, g1748, g1749, g1750, g1751, g1752, g1753, f1754, f1755, f1756, f1757, f1758, f1759, f1760, f1761, f1762) => va_P D vwCl (MW Y o a (upd (upd (upd (upd (upd (upd (upd I 26 g1742) 29 g1743) 32 g1746) 34 g1748) 35 g1749) 36 g1750) 39 g1753) (vp_updL (vp_updL (vp_updL (vp_updL (vp_updL J 30 g1744) 31 g1745) 33 g1747) 37 g1751) 38 g1752) (vf_upd (vf_upd (vf_upd (vf_upd (vf_upd F 1 f1754) 28 f1757) 41 f1759) 43 f1761) 46 f1762) (vf_upd (vf_upd (vf_upd (vf_upd G 25 f1755) 27 f1756) 40 f1758) 42 f1760)) H ∧ va_D A (MW Y o a (upd (upd (upd (upd (upd (upd (upd I 26 g1742) 29 g1743) 32 g1746) 34 g1748) 35 g1749) 36 g1750) 39 g1753) (vp_updL (vp_updL (vp_updL (vp_updL (vp_updL J 30 g1744) 31 g1745) 33 g1747) 37 g1751) 38 g1752) (vf_upd (vf_upd (vf_upd (vf_upd (vf_upd F 1 f1754) 28 f1757) 41 f1759) 43 f1761) 46 f1762) (vf_upd (vf_upd (vf_upd (vf_upd G 25 f1755) 27 f1756) 40 f1758) 42 f1760)) ∧ va_S A s.heap H locs ∧ lv_has ls 8 [(7, .int g611), (6, .int g612), (0, .ref o), (1, .int p1), (2, .int p2), (3, .int p3), (4, .int p4), (5, .int p5)] ∧ (0 ≤ g1741.toInt ∧ g1741.toInt ≤ 1) ∧ LB f1757) (fun xx H locs ls hI => ?_) (fun jn1763 => ?_)
                      · skip
                        obtain ⟨g1741, g1742, g1743, g1744, g1745, g1746, g1747, g1748, g1749, g1750, g1751, g1752, g1753, f1754, f1755, f1756, f1757, f1758, f1759, f1760, f1761, f1762⟩ := xx
                        obtain ⟨hP, hD, hS, hl, hq1764, hp1765⟩ := hI
                        refine W.eq (g2 := F0 m 130 ls [.int g1741, .int g612]) rfl ?_
                        refine lv_iadd hx hb dX11_many_130 ?_
                        refine lv_topi (fun v1766 ev1766 => ?_)
                        refine lv_istore (lv' := [(6, .int v1766), (7, .int g611), (0, .ref o), (1, .int p1), (2, .int p2), (3, .int p3), (4, .int p4), (5, .int p5)]) hx hb dX11_many_131 hl (by decide) rfl (fun ls hl => ?_)
                        refine W.widen (k := 0) (n := 0) (Nat.le_of_ble_eq_true rfl) (Nat.le_of_ble_eq_true rfl) ?_
                        exact jn1682 (v1766, g1742, g1743, g1744, g1745, g1746, g1747, g1748, g1749, g1750, g1751, g1752, g1753, f1754, f1755, f1756, f1757, f1758, f1759, f1760, f1761, f1762) H locs ls ⟨hP, hD, hS, lv_sub hl [0, 1, 2, 3, 4, 5, 6, 7] rfl, hp1765⟩
                      · skip
                        refine lv_icmp_eq (tgt := 125) hx hb dX11_many_104 (by decide) (fun c1767 => ?_) (fun c1767 => ?_)
                        · skip
                          have c1767 := i_eq (Eq.refl p5.toInt) (show (1 : Int32).toInt = 1 by decide) c1767
                          refine lv_iconst (v := 1) hx hb dX11_many_125 (by decide) ?_
                          refine lv_goto (tgt := 130) hx hb dX11_many_126 (by decide) ?_
                          refine W.widen (k := 0) (n := 0) (Nat.le_of_ble_eq_true rfl) (Nat.le_of_ble_eq_true rfl) ?_
                          exact jn1763 (1, g613, u1525, u1526, u1527, g617, g618, u1519, u1520, u1521, u1523, u1524, u1522, f1528, f626, f627, f1529, f1530, f1531, f1532, f1533, f633) H locs ls ⟨hP, hD, hS, lv_sub hl [0, 1, 2, 3, 4, 5, 6, 7] rfl, by omega, hw1539⟩
                        · skip
                          have c1767 := i_ne (Eq.refl p5.toInt) (show (1 : Int32).toInt = 1 by decide) c1767
                          refine lv_aload_n hx hb dX11_many_107 rfl (lv_at hl 2 rfl) ?_
                          refine lv_iload_n hx hb dX11_many_108 rfl (lv_at hl 4 rfl) ?_
                          refine lv_iload_n hx hb dX11_many_109 rfl (lv_at hl 3 rfl) ?_
                          refine lv_iload hx hb dX11_many_110 (lv_at hl 0 rfl) ?_
                          refine cga (rn_V (As := [.int p2, .int p1, .int g611]) (rest := [.int g612]) (b := o) (m_weighs l D Y Z H.size o a (upd (upd (upd (upd (upd (upd (upd I 26 g613) 29 u1525) 32 g617) 34 u1519) 35 u1520) 36 u1521) 39 u1522) (vp_updL (vp_updL (vp_updL (vp_updL (vp_updL J 30 u1526) 31 u1527) 33 g618) 37 u1523) 38 u1524) (vf_upd (vf_upd (vf_upd (vf_upd (vf_upd F 1 f1528) 28 f1529) 41 f1531) 43 f1533) 46 f633) (vf_upd (vf_upd (vf_upd (vf_upd G 25 f626) 27 f627) 40 f1530) 42 f1532)  p2 p1 g611 (show (0 ≤ p2.toInt ∧ p2.toInt ≤ 5) by omega) (show (p2.toInt < ((F 4) 2).toInt) by omega) (show (0 ≤ p1.toInt ∧ p1.toInt ≤ 5) by omega) (show (p1.toInt < ((F 4) 1).toInt) by omega) (show (0 ≤ g611.toInt ∧ g611.toInt ≤ 11) by omega) hk0 hw1539 hk2 hk3) ⟨hx, hb, hml, hown, hg⟩ lk_X11_543 ⟨CP.blind, va_recv hKN.1 hP (ci := 11) (q0 := 0) rfl rfl, CP.at hP hKN hD⟩ ⟨⟨rfl, rfl⟩, ⟨Nat.le_of_ble_eq_true rfl, Nat.le_of_ble_eq_true rfl⟩, ⟨Nat.le_of_ble_eq_true rfl, Nat.le_of_ble_eq_true rfl⟩⟩ hl.1 rfl (Nat.le_of_ble_eq_true rfl) dX11_many_112) hP hD hS hA (fun u1768 H locs w1769 hP hD hS => ?_)
                          obtain ⟨u1770, u1771, u1772, u1773, u1774, u1775, u1776, u1777, u1778, u1779, u1780, u1781, u1782, f1783, f1784, f1785, f1786, f1787, f1788, f1789, f1790, f1791⟩ := u1768
                          obtain ⟨hw1792, hw1793⟩ : (0 ≤ u1770.toInt ∧ u1770.toInt ≤ 1) ∧ LB f1784 := w1769
                          refine W.eq (g2 := F0 m 115 ls [.int u1770, .int g612]) rfl ?_
                          have hP : va_P D vwCl (MW Y o a (upd (upd (upd (upd (upd (upd (upd I 26 u1782) 29 u1777) 32 u1780) 34 u1771) 35 u1772) 36 u1773) 39 u1774) (vp_updL (vp_updL (vp_updL (vp_updL (vp_updL J 30 u1778) 31 u1779) 33 u1781) 37 u1775) 38 u1776) (vf_upd (vf_upd (vf_upd (vf_upd (vf_upd F 1 f1783) 28 f1784) 41 f1786) 43 f1788) 46 f1791) (vf_upd (vf_upd (vf_upd (vf_upd G 25 f1790) 27 f1789) 40 f1785) 42 f1787)) H := hP
                          have hD : va_D A (MW Y o a (upd (upd (upd (upd (upd (upd (upd I 26 u1782) 29 u1777) 32 u1780) 34 u1771) 35 u1772) 36 u1773) 39 u1774) (vp_updL (vp_updL (vp_updL (vp_updL (vp_updL J 30 u1778) 31 u1779) 33 u1781) 37 u1775) 38 u1776) (vf_upd (vf_upd (vf_upd (vf_upd (vf_upd F 1 f1783) 28 f1784) 41 f1786) 43 f1788) 46 f1791) (vf_upd (vf_upd (vf_upd (vf_upd G 25 f1790) 27 f1789) 40 f1785) 42 f1787)) := hD
                          rcases (show u1770.toInt = 1 ∨ u1770.toInt = 0 by omega) with c1794 | c1794
                          · obtain rfl : u1770 = 1 := i_is c1794 (by decide)
                            refine W.eq (g2 := F0 m 115 ls [.int 1, .int g612]) rfl ?_
                            refine lv_if_eq (tgt := 129) hx hb dX11_many_115 (by decide) (fun c1795 => ?_) (fun c1795 => ?_)
                            · exact absurd c1795 (by decide)
                            refine lv_aload_n hx hb dX11_many_118 rfl (lv_at hl 2 rfl) ?_
                            refine cga (rn_V (As := []) (rest := [.int g612]) (b := o) (m_heaviest l D Y Z H.size o a (upd (upd (upd (upd (upd (upd (upd I 26 u1782) 29 u1777) 32 u1780) 34 u1771) 35 u1772) 36 u1773) 39 u1774) (vp_updL (vp_updL (vp_updL (vp_updL (vp_updL J 30 u1778) 31 u1779) 33 u1781) 37 u1775) 38 u1776) (vf_upd (vf_upd (vf_upd (vf_upd (vf_upd F 1 f1783) 28 f1784) 41 f1786) 43 f1788) 46 f1791) (vf_upd (vf_upd (vf_upd (vf_upd G 25 f1790) 27 f1789) 40 f1785) 42 f1787)   ) ⟨hx, hb, hml, hown, hg⟩ lk_X11_549 ⟨CP.blind, va_recv hKN.1 hP (ci := 11) (q0 := 0) rfl rfl, CP.at hP hKN hD⟩ ⟨⟨rfl, rfl⟩, ⟨Nat.le_of_ble_eq_true rfl, Nat.le_of_ble_eq_true rfl⟩, ⟨Nat.le_of_ble_eq_true rfl, Nat.le_of_ble_eq_true rfl⟩⟩ hl.1 rfl (Nat.le_of_ble_eq_true rfl) dX11_many_119) hP hD hS hA (fun u1796 H locs w1797 hP hD hS => ?_)
                            refine W.eq (g2 := F0 m 122 ls [.int u1796, .int g612]) rfl ?_
                            have hP : va_P D vwCl (MW Y o a (upd (upd (upd (upd (upd (upd (upd I 26 u1782) 29 u1777) 32 u1780) 34 u1771) 35 u1772) 36 u1773) 39 u1774) (vp_updL (vp_updL (vp_updL (vp_updL (vp_updL J 30 u1778) 31 u1779) 33 u1781) 37 u1775) 38 u1776) (vf_upd (vf_upd (vf_upd (vf_upd (vf_upd F 1 f1783) 28 f1784) 41 f1786) 43 f1788) 46 f1791) (vf_upd (vf_upd (vf_upd (vf_upd G 25 f1790) 27 f1789) 40 f1785) 42 f1787)) H := hP
                            have hD : va_D A (MW Y o a (upd (upd (upd (upd (upd (upd (upd I 26 u1782) 29 u1777) 32 u1780) 34 u1771) 35 u1772) 36 u1773) 39 u1774) (vp_updL (vp_updL (vp_updL (vp_updL (vp_updL J 30 u1778) 31 u1779) 33 u1781) 37 u1775) 38 u1776) (vf_upd (vf_upd (vf_upd (vf_upd (vf_upd F 1 f1783) 28 f1784) 41 f1786) 43 f1788) 46 f1791) (vf_upd (vf_upd (vf_upd (vf_upd G 25 f1790) 27 f1789) 40 f1785) 42 f1787)) := hD
                            have j1799 := rgI u1796
                            refine lv_if_ne (tgt := 129) hx hb dX11_many_122 (by decide) (fun c1800 => ?_) (fun c1800 => ?_)
                            · skip
                              have c1800 := i_ne (Eq.refl u1796.toInt) (show (0 : Int32).toInt = 0 by decide) c1800
                              refine lv_iconst (v := 0) hx hb dX11_many_129 (by decide) ?_
                              have zi0 : (0 : Int32).toInt = 0 := by decide
                              refine W.widen (k := 0) (n := 0) (Nat.le_of_ble_eq_true rfl) (Nat.le_of_ble_eq_true rfl) ?_
                              exact jn1763 (0, u1782, u1777, u1778, u1779, u1780, u1781, u1771, u1772, u1773, u1775, u1776, u1774, f1783, f1790, f1789, f1784, f1785, f1786, f1787, f1788, f1791) H locs ls ⟨hP, hD, hS, lv_sub hl [0, 1, 2, 3, 4, 5, 6, 7] rfl, by omega, hw1793⟩
                            · skip
                              have c1800 := i_eq (Eq.refl u1796.toInt) (show (0 : Int32).toInt = 0 by decide) c1800
                              refine lv_iconst (v := 1) hx hb dX11_many_125 (by decide) ?_
                              refine lv_goto (tgt := 130) hx hb dX11_many_126 (by decide) ?_
                              refine W.widen (k := 0) (n := 0) (Nat.le_of_ble_eq_true rfl) (Nat.le_of_ble_eq_true rfl) ?_
                              exact jn1763 (1, u1782, u1777, u1778, u1779, u1780, u1781, u1771, u1772, u1773, u1775, u1776, u1774, f1783, f1790, f1789, f1784, f1785, f1786, f1787, f1788, f1791) H locs ls ⟨hP, hD, hS, lv_sub hl [0, 1, 2, 3, 4, 5, 6, 7] rfl, by omega, hw1793⟩
                          · obtain rfl : u1770 = 0 := i_is c1794 (by decide)
                            have zi0 : (0 : Int32).toInt = 0 := by decide
                            refine W.eq (g2 := F0 m 115 ls [.int 0, .int g612]) rfl ?_
                            refine lv_if_eq (tgt := 129) hx hb dX11_many_115 (by decide) (fun c1801 => ?_) (fun c1801 => ?_)
                            rotate_left
                            · exact absurd c1801 (by decide)
                            refine lv_iconst (v := 0) hx hb dX11_many_129 (by decide) ?_
                            refine W.widen (k := 0) (n := 0) (Nat.le_of_ble_eq_true rfl) (Nat.le_of_ble_eq_true rfl) ?_
                            exact jn1763 (0, u1782, u1777, u1778, u1779, u1780, u1781, u1771, u1772, u1773, u1775, u1776, u1774, f1783, f1790, f1789, f1784, f1785, f1786, f1787, f1788, f1791) H locs ls ⟨hP, hD, hS, lv_sub hl [0, 1, 2, 3, 4, 5, 6, 7] rfl, by omega, hw1793⟩
                    · obtain rfl : u1699 = 0 := i_is c1704 (by decide)
                      have zi0 : (0 : Int32).toInt = 0 := by decide
                      refine W.eq (g2 := F0 m 93 ls [.int 0]) rfl ?_
                      refine lv_if_ne (tgt := 99) hx hb dX11_many_93 (by decide) (fun c1802 => ?_) (fun c1802 => ?_)
                      · exact absurd c1802 (by decide)
                      refine lv_goto (tgt := 133) hx hb dX11_many_96 (by decide) ?_
                      refine W.widen (k := 0) (n := 0) (Nat.le_of_ble_eq_true rfl) (Nat.le_of_ble_eq_true rfl) ?_
                      exact jn1682 (g612, g613, u1525, u1526, u1527, g617, g618, u1519, u1520, u1521, u1523, u1524, u1522, f1528, f626, f627, f1529, f1530, f1531, f1532, f1533, f633) H locs ls ⟨hP, hD, hS, lv_sub hl [1, 0, 2, 3, 4, 5, 6, 7] rfl, hw1539⟩
                  · obtain rfl : u1686 = 0 := i_is c1690 (by decide)
                    have zi0 : (0 : Int32).toInt = 0 := by decide
                    refine W.eq (g2 := F0 m 75 ls [.int 0]) rfl ?_
                    refine lv_if_eq (tgt := 133) hx hb dX11_many_75 (by decide) (fun c1803 => ?_) (fun c1803 => ?_)
                    rotate_left
                    · exact absurd c1803 (by decide)
                    refine W.widen (k := 0) (n := 0) (Nat.le_of_ble_eq_true rfl) (Nat.le_of_ble_eq_true rfl) ?_
                    exact jn1682 (g612, g613, u1525, u1526, u1527, g617, g618, u1519, u1520, u1521, u1523, u1524, u1522, f1528, f626, f627, f1529, f1530, f1531, f1532, f1533, f633) H locs ls ⟨hP, hD, hS, lv_sub hl [1, 0, 2, 3, 4, 5, 6, 7] rfl, hw1539⟩
              · obtain rfl : u1518 = 0 := i_is c1540 (by decide)
                have zi0 : (0 : Int32).toInt = 0 := by decide
                refine W.eq (g2 := F0 m 67 ls [.int 0]) rfl ?_
                refine lv_if_eq (tgt := 133) hx hb dX11_many_67 (by decide) (fun c1805 => ?_) (fun c1805 => ?_)
                rotate_left
                · exact absurd c1805 (by decide)
                obtain ⟨v1806, ev1806⟩ : ∃ y : Int32, y = g611 + 1 := ⟨_, rfl⟩
                have hv1806 := i_add (Eq.refl g611.toInt) (show (1 : Int32).toInt = 1 by decide) ev1806 (by omega) (by omega)
                refine lv_iinc (v := v1806) (lv' := [(7, .int v1806), (6, .int g612), (0, .ref o), (1, .int p1), (2, .int p2), (3, .int p3), (4, .int p4), (5, .int p5)]) hx hb dX11_many_133 hl (k := 0) rfl (by rw [ev1806]; rfl) (by decide) rfl (fun ls hl => ?_)
                refine lv_goto (tgt := 47) hx hb dX11_many_136 (by decide) ?_
                exact ih1221 (v1806, g612, g613, u1525, u1526, u1527, g617, g618, u1519, u1520, u1521, u1523, u1524, u1522, f1528, f626, f627, f1529, f1530, f1531, f1532, f1533, f633) H locs ls (by show (12 - v1806.toInt).toNat < (12 - g611.toInt).toNat; omega) ⟨hP, hD, hS, lv_sub hl [0, 1, 2, 3, 4, 5, 6, 7] rfl, by omega, hw1539⟩
          · obtain rfl : u21 = 0 := i_is c26 (by decide)
            have zi0 : (0 : Int32).toInt = 0 := by decide
            refine W.eq (g2 := F0 m 36 ls [.int 0]) rfl ?_
            refine lv_if_ne (tgt := 41) hx hb dX11_many_36 (by decide) (fun c1807 => ?_) (fun c1807 => ?_)
            · exact absurd c1807 (by decide)
            refine lv_iconst (v := (-1)) hx hb dX11_many_39 (by decide) ?_
            refine W.widen (k := 0) (n := 0) (Nat.le_of_ble_eq_true rfl) (Nat.le_of_ble_eq_true rfl) ?_
            have zim1 : ((-1) : Int32).toInt = -1 := by decide
            exact W.iret (v := (-1)) hx hb hr (fun t ht hW => ⟨⟨((-1), (I 34), (I 35), (I 36), (I 39), (J 37), (J 38), (I 29), (J 30), (J 31), (I 32), (J 33), (I 26), (F 1), (F 28), (G 40), (F 41), (G 42), (F 43), (G 27), (G 25), (F 46)), rfl, (hk1), CB.mk ht hP hD⟩, hS.F ht⟩) hS.2.2 dX11_many_40
    · obtain rfl : u8 = 0 := i_is c13 (by decide)
      have zi0 : (0 : Int32).toInt = 0 := by decide
      refine W.eq (g2 := F0 m 15 ls [.int 0]) rfl ?_
      refine lv_if_eq (tgt := 39) hx hb dX11_many_15 (by decide) (fun c1808 => ?_) (fun c1808 => ?_)
      rotate_left
      · exact absurd c1808 (by decide)
      refine lv_iconst (v := (-1)) hx hb dX11_many_39 (by decide) ?_
      refine W.widen (k := 0) (n := 0) (Nat.le_of_ble_eq_true rfl) (Nat.le_of_ble_eq_true rfl) ?_
      have zim1 : ((-1) : Int32).toInt = -1 := by decide
      exact W.iret (v := (-1)) hx hb hr (fun t ht hW => ⟨⟨((-1), (I 34), (I 35), (I 36), (I 39), (J 37), (J 38), (I 29), (J 30), (J 31), (I 32), (J 33), (I 26), (F 1), (F 28), (G 40), (F 41), (G 42), (F 43), (G 27), (G 25), (F 46)), rfl, (hk1), CB.mk ht hP hD⟩, hS.F ht⟩) hS.2.2 dX11_many_40
  · obtain rfl : u1 = 0 := i_is c6 (by decide)
    have zi0 : (0 : Int32).toInt = 0 := by decide
    refine W.eq (g2 := F0 m 6 ls [.int 0]) rfl ?_
    refine lv_if_eq (tgt := 39) hx hb dX11_many_6 (by decide) (fun c1809 => ?_) (fun c1809 => ?_)
    rotate_left
    · exact absurd c1809 (by decide)
    refine lv_iconst (v := (-1)) hx hb dX11_many_39 (by decide) ?_
    refine W.widen (k := 0) (n := 0) (Nat.le_of_ble_eq_true rfl) (Nat.le_of_ble_eq_true rfl) ?_
    have zim1 : ((-1) : Int32).toInt = -1 := by decide
    exact W.iret (v := (-1)) hx hb hr (fun t ht hW => ⟨⟨((-1), (I 34), (I 35), (I 36), (I 39), (J 37), (J 38), (I 29), (J 30), (J 31), (I 32), (J 33), (I 26), (F 1), (F 28), (G 40), (F 41), (G 42), (F 43), (G 27), (G 25), (F 46)), rfl, (hk1), CB.mk ht hP hD⟩, hS.F ht⟩) hS.2.2 dX11_many_40
