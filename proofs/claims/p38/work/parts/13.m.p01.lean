set_option maxHeartbeats 4000000 in
set_option maxRecDepth 100000 in
theorem m_putIn (l : Launch) (D : va_G) (Y : Nat → ClassId) (Z : Nat → Nat) (sz : Nat) (o : Nat) (a : Nat → Nat) (I : Nat → Int32) (J : Nat → Int64) (F : Nat → Nat → Int32) (G : Nat → Nat → Int64) (hk0 : TO (F 0)) : Met l yX11_putIn (.code yX11_putIn cX11_putIn 3 (some .int) :: GW) ({ frames := 2, cells := 0, slots := 0, locals := 43 }) (va_Pc [.ref o] (CP D Y Z (MW Y o a I J F G) sz)) (QG (S := Int32) (fun u => some (.int u)) (fun u => (0 ≤ u.toInt ∧ u.toInt ≤ 40)) (fun u => CB D (MW Y o a I J F G) (va_A (MW Y o a I J F G) sz)) (va_A (MW Y o a I J F G) sz)) 0 0 (va_A (MW Y o a I J F G) sz) := by
  refine Met.ofW (cc := cX11_putIn) (maxL := 3) (ret := (some .int)) (by decide) rfl ?_
  intro p e s m args below meth c s₁ B hml hv
  obtain ⟨rfl, hsz, hP, hKN, hD0⟩ := hv
  have hx := B.exec
  have hb := B.bytes
  have hr := B.returns
  have hts := atoms_spec (ws := .code yX11_putIn cX11_putIn 3 (some .int) :: GW) B.pre
  have hg : ∀ w ∈ GW, w.before _ s = true := fun w h => hts w (List.mem_cons_of_mem _ h)
  have hown : s.vm.findClass RX11 = some m.cls := findClass_of_methodNamed B.named
  have hlocks := B.notSynchronized
  subst hsz
  have hD := hD0.self (sz := s.heap.size)
  generalize hAe : va_A (MW Y o a I J F G) s.heap.size = A at hD ⊢
  have hA : ∀ q : Nat, s.heap.size ≤ q → A q := fun q h => by rw [← hAe]; exact Or.inr h
  clear hAe hD0 hts B
  have hl := lv_entry ([.ref o]) (n := 3) (Nat.le_of_ble_eq_true rfl)
  rw [lg_entry_eq]
  generalize (lg_sl ([.ref o]) ++ List.replicate (3 - (lg_sl ([.ref o])).length) Slot.unset).toArray = ls at hl ⊢
  have hl : lv_has ls 3 [(0, .ref o)] := hl
  refine w_start (A0 := A) hP (fun H locs hP hS => ?_)
  refine lv_iconst (v := 0) hx hb dX11_putIn_0 (by decide) ?_
  refine lv_istore_n (lv' := [(1, .int 0), (0, .ref o)]) hx hb dX11_putIn_1 rfl hl (by decide) rfl (fun ls hl => ?_)
  refine lv_iconst (v := 0) hx hb dX11_putIn_2 (by decide) ?_
  refine lv_istore_n (lv' := [(2, .int 0), (1, .int 0), (0, .ref o)]) hx hb dX11_putIn_3 rfl hl (by decide) rfl (fun ls hl => ?_)
  have zi0 : (0 : Int32).toInt = 0 := by decide
  refine w_loop (σ := Int32 × Int32) (fun xx H locs ls => match xx with | (g28, g29) => va_P D vwCl (MW Y o a I J F G) H ∧ va_D A (MW Y o a I J F G) ∧ va_S A s.heap H locs ∧ lv_has ls 3 [(2, .int g28), (1, .int g29), (0, .ref o)] ∧ (0 ≤ g28.toInt ∧ g28.toInt ≤ 40) ∧ (0 ≤ g29.toInt ∧ g29.toInt ≤ 40) ∧ (g29.toInt ≤ g28.toInt)) (fun xx => match xx with | (g28, g29) => (40 - g28.toInt).toNat) (0, 0) ⟨hP, hD, hS, lv_sub hl [0, 1, 2] rfl, by omega, by omega, by omega⟩ (fun xx H locs ls hI ih => ?_)
  obtain ⟨g28, g29⟩ := xx
  obtain ⟨hP, hD, hS, hl, hq61, hq62, hq63⟩ := hI
  have ih64 := ih
  refine lv_iload_n hx hb dX11_putIn_4 rfl (lv_at hl 0 rfl) ?_
  refine lv_aload_n hx hb dX11_putIn_5 rfl (lv_at hl 2 rfl) ?_
  refine va_get (D := D) (ci := 11) (v := .ref (a 0)) (C := RX11) (T := TX11) (N := 49) hx hb hg inGX11 hown hKN.1 hP 0 rfl rfl 0 (by decide) (hg _ kw_1208) (fun _ h9 => h9) rfl dX11_putIn_6 ?_
  refine lv_iconst (v := 1) hx hb dX11_putIn_9 (by decide) ?_
  refine va_iald hx hb hKN.1 hP 1 0 rfl rfl (show ¬ ((1 : Int32) < 0 ∨ 7533 ≤ (1 : Int32).toNatClampNeg) by decide) dX11_putIn_10 ?_
  refine lv_topi (fun v65 ev65 => ?_)
  have ev65 : v65 = (F 0) 1 := ev65
  have kv65 := TO_1 hk0
  rw [← ev65] at kv65
  have qv65 := congrArg Int32.toInt ev65
  refine lv_icmp_ge (tgt := 36) hx hb dX11_putIn_11 (by decide) (fun c81 => ?_) (fun c81 => ?_)
  · skip
    have c81 := i_le (Eq.refl v65.toInt) (Eq.refl g28.toInt) c81
    refine lv_iload_n hx hb dX11_putIn_36 rfl (lv_at hl 1 rfl) ?_
    refine W.widen (k := 0) (n := 0) (Nat.le_of_ble_eq_true rfl) (Nat.le_of_ble_eq_true rfl) ?_
    exact W.iret (v := g29) hx hb hr (fun t ht hW => ⟨⟨g29, rfl, ((show (0 ≤ g29.toInt ∧ g29.toInt ≤ 40) by omega)), CB.mk ht hP hD⟩, hS.F ht⟩) hS.2.2 dX11_putIn_37
  · skip
    have c81 := i_nle (Eq.refl v65.toInt) (Eq.refl g28.toInt) c81
    refine lv_iload_n hx hb dX11_putIn_14 rfl (lv_at hl 1 rfl) ?_
    refine lv_aload_n hx hb dX11_putIn_15 rfl (lv_at hl 2 rfl) ?_
    refine lv_iload_n hx hb dX11_putIn_16 rfl (lv_at hl 0 rfl) ?_
    refine cga (rn_V (As := [.int g28]) (rest := [.int g29]) (b := o) (m_isPut l D Y Z H.size o a I J F G  g28 hk0) ⟨hx, hb, hml, hown, hg⟩ lk_X11_500 ⟨CP.blind, va_recv hKN.1 hP (ci := 11) (q0 := 0) rfl rfl, CP.at hP hKN hD⟩ ⟨⟨rfl, rfl⟩, ⟨Nat.le_of_ble_eq_true rfl, Nat.le_of_ble_eq_true rfl⟩, ⟨Nat.le_of_ble_eq_true rfl, Nat.le_of_ble_eq_true rfl⟩⟩ hl.1 rfl (Nat.le_of_ble_eq_true rfl) dX11_putIn_17) hP hD hS hA (fun u82 H locs w83 hP hD hS => ?_)
    have w83 : ((0 ≤ g28.toInt ∧ g28.toInt ≤ 39 ∧ g28.toInt < ((F 0) 1).toInt ∧ u82.toInt = 1) ∨ u82.toInt = 0) ∧ (0 ≤ u82.toInt ∧ u82.toInt ≤ 1) := w83
    obtain ⟨hw85, hw86⟩ := w83
    refine W.eq (g2 := F0 m 20 ls [.int u82, .int g29]) rfl ?_
    have hP : va_P D vwCl (MW Y o a I J F G) H := hP
    have hD : va_D A (MW Y o a I J F G) := hD
    rcases (show u82.toInt = 1 ∨ u82.toInt = 0 by omega) with c87 | c87
    · obtain rfl : u82 = 1 := i_is c87 (by decide)
      have zi1 : (1 : Int32).toInt = 1 := by decide
      refine W.eq (g2 := F0 m 20 ls [.int 1, .int g29]) rfl ?_
      refine lv_if_eq (tgt := 27) hx hb dX11_putIn_20 (by decide) (fun c89 => ?_) (fun c89 => ?_)
      · exact absurd c89 (by decide)
      refine lv_iconst (v := 1) hx hb dX11_putIn_23 (by decide) ?_
      refine lv_goto (tgt := 28) hx hb dX11_putIn_24 (by decide) ?_
      refine lv_iadd hx hb dX11_putIn_28 ?_
      refine lv_topi (fun v90 ev90 => ?_)
      have hv90 := i_add (Eq.refl g29.toInt) (show (1 : Int32).toInt = 1 by decide) ev90 (by omega) (by omega)
      refine lv_istore_n (lv' := [(1, .int v90), (2, .int g28), (0, .ref o)]) hx hb dX11_putIn_29 rfl hl (by decide) rfl (fun ls hl => ?_)
      obtain ⟨v91, ev91⟩ : ∃ y : Int32, y = g28 + 1 := ⟨_, rfl⟩
      have hv91 := i_add (Eq.refl g28.toInt) (show (1 : Int32).toInt = 1 by decide) ev91 (by omega) (by omega)
      refine lv_iinc (v := v91) (lv' := [(2, .int v91), (1, .int v90), (0, .ref o)]) hx hb dX11_putIn_30 hl (k := 1) rfl (by rw [ev91]; rfl) (by decide) rfl (fun ls hl => ?_)
      refine lv_goto (tgt := 4) hx hb dX11_putIn_33 (by decide) ?_
      exact ih64 (v91, v90) H locs ls (by show (40 - v91.toInt).toNat < (40 - g28.toInt).toNat; omega) ⟨hP, hD, hS, lv_sub hl [0, 1, 2] rfl, by omega, by omega, by omega⟩
    · obtain rfl : u82 = 0 := i_is c87 (by decide)
      have zi0 : (0 : Int32).toInt = 0 := by decide
      refine W.eq (g2 := F0 m 20 ls [.int 0, .int g29]) rfl ?_
      refine lv_if_eq (tgt := 27) hx hb dX11_putIn_20 (by decide) (fun c93 => ?_) (fun c93 => ?_)
      rotate_left
      · exact absurd c93 (by decide)
      refine lv_iconst (v := 0) hx hb dX11_putIn_27 (by decide) ?_
      refine lv_iadd hx hb dX11_putIn_28 ?_
      refine lv_topi (fun v94 ev94 => ?_)
      have hv94 := i_add (Eq.refl g29.toInt) (show (0 : Int32).toInt = 0 by decide) ev94 (by omega) (by omega)
      refine lv_istore_n (lv' := [(1, .int v94), (2, .int g28), (0, .ref o)]) hx hb dX11_putIn_29 rfl hl (by decide) rfl (fun ls hl => ?_)
      obtain ⟨v95, ev95⟩ : ∃ y : Int32, y = g28 + 1 := ⟨_, rfl⟩
      have hv95 := i_add (Eq.refl g28.toInt) (show (1 : Int32).toInt = 1 by decide) ev95 (by omega) (by omega)
      refine lv_iinc (v := v95) (lv' := [(2, .int v95), (1, .int v94), (0, .ref o)]) hx hb dX11_putIn_30 hl (k := 1) rfl (by rw [ev95]; rfl) (by decide) rfl (fun ls hl => ?_)
      refine lv_goto (tgt := 4) hx hb dX11_putIn_33 (by decide) ?_
      exact ih64 (v95, v94) H locs ls (by show (40 - v95.toInt).toNat < (40 - g28.toInt).toNat; omega) ⟨hP, hD, hS, lv_sub hl [0, 1, 2] rfl, by omega, by omega, by omega⟩
set_option maxHeartbeats 4000000 in
set_option maxRecDepth 100000 in
theorem m_caughtBy (l : Launch) (D : va_G) (Y : Nat → ClassId) (Z : Nat → Nat) (sz : Nat) (o : Nat) (a : Nat → Nat) (I : Nat → Int32) (J : Nat → Int64) (F : Nat → Nat → Int32) (G : Nat → Nat → Int64) (p1 : Int32) (hk_0 : (0 ≤ p1.toInt ∧ p1.toInt ≤ 5)) (hk_1 : (p1.toInt < ((F 4) 1).toInt)) (hk0 : TO (F 0)) (hk1 : LB (F 28)) (hk2 : TX (F 4) (F 9) (F 10) (F 11) (F 12) (F 13)) : Met l yX11_caughtBy (.code yX11_caughtBy cX11_caughtBy 4 (some .int) :: GW) ({ frames := 8, cells := 0, slots := 0, locals := 191 }) (va_Pc [.ref o, .int p1] (CP D Y Z (MW Y o a I J F G) sz)) (QG (S := Int32 × Int32 × Int32 × Int32 × Int32 × Int64 × Int64 × Int32 × Int64 × Int64 × (Nat → Int32) × (Nat → Int64) × (Nat → Int32) × (Nat → Int64) × (Nat → Int32)) (fun u => some (.int u.1)) (fun u => (0 ≤ u.1.toInt ∧ u.1.toInt ≤ 40) ∧ LB u.2.2.2.2.2.2.2.2.2.2.1) (fun u => CB D (MW Y o a (upd (upd (upd (upd (upd I 29 u.2.2.2.2.2.2.2.1) 34 u.2.1) 35 u.2.2.1) 36 u.2.2.2.1) 39 u.2.2.2.2.1) (vp_updL (vp_updL (vp_updL (vp_updL J 30 u.2.2.2.2.2.2.2.2.1) 31 u.2.2.2.2.2.2.2.2.2.1) 37 u.2.2.2.2.2.1) 38 u.2.2.2.2.2.2.1) (vf_upd (vf_upd (vf_upd F 28 u.2.2.2.2.2.2.2.2.2.2.1) 41 u.2.2.2.2.2.2.2.2.2.2.2.2.1) 43 u.2.2.2.2.2.2.2.2.2.2.2.2.2.2) (vf_upd (vf_upd G 40 u.2.2.2.2.2.2.2.2.2.2.2.1) 42 u.2.2.2.2.2.2.2.2.2.2.2.2.2.1)) (va_A (MW Y o a I J F G) sz)) (va_A (MW Y o a I J F G) sz)) 0 0 (va_A (MW Y o a I J F G) sz) := by
  refine Met.ofW (cc := cX11_caughtBy) (maxL := 4) (ret := (some .int)) (by decide) rfl ?_
  intro p e s m args below meth c s₁ B hml hv
  obtain ⟨rfl, hsz, hP, hKN, hD0⟩ := hv
  have hx := B.exec
  have hb := B.bytes
  have hr := B.returns
  have hts := atoms_spec (ws := .code yX11_caughtBy cX11_caughtBy 4 (some .int) :: GW) B.pre
  have hg : ∀ w ∈ GW, w.before _ s = true := fun w h => hts w (List.mem_cons_of_mem _ h)
  have hown : s.vm.findClass RX11 = some m.cls := findClass_of_methodNamed B.named
  have hlocks := B.notSynchronized
  subst hsz
  have hD := hD0.self (sz := s.heap.size)
  generalize hAe : va_A (MW Y o a I J F G) s.heap.size = A at hD ⊢
  have hA : ∀ q : Nat, s.heap.size ≤ q → A q := fun q h => by rw [← hAe]; exact Or.inr h
  clear hAe hD0 hts B
  have hl := lv_entry ([.ref o, .int p1]) (n := 4) (Nat.le_of_ble_eq_true rfl)
  rw [lg_entry_eq]
  generalize (lg_sl ([.ref o, .int p1]) ++ List.replicate (4 - (lg_sl ([.ref o, .int p1])).length) Slot.unset).toArray = ls at hl ⊢
  have hl : lv_has ls 4 [(0, .ref o), (1, .int p1)] := hl
  refine w_start (A0 := A) hP (fun H locs hP hS => ?_)
  refine lv_iconst (v := 0) hx hb dX11_caughtBy_0 (by decide) ?_
  refine lv_istore_n (lv' := [(2, .int 0), (0, .ref o), (1, .int p1)]) hx hb dX11_caughtBy_1 rfl hl (by decide) rfl (fun ls hl => ?_)
  refine lv_iconst (v := 0) hx hb dX11_caughtBy_2 (by decide) ?_
  refine lv_istore_n (lv' := [(3, .int 0), (2, .int 0), (0, .ref o), (1, .int p1)]) hx hb dX11_caughtBy_3 rfl hl (by decide) rfl (fun ls hl => ?_)
  have zi0 : (0 : Int32).toInt = 0 := by decide
  refine w_loop (σ := Int32 × Int32 × Int32 × Int64 × Int64 × Int32 × Int32 × Int32 × Int64 × Int64 × Int32 × (Nat → Int32) × (Nat → Int64) × (Nat → Int32) × (Nat → Int64) × (Nat → Int32)) (fun xx H locs ls => match xx with | (g152, g153, g154, g155, g156, g157, g158, g159, g160, g161, g162, f163, f164, f165, f166, f167) => va_P D vwCl (MW Y o a (upd (upd (upd (upd (upd I 29 g154) 34 g157) 35 g158) 36 g159) 39 g162) (vp_updL (vp_updL (vp_updL (vp_updL J 30 g155) 31 g156) 37 g160) 38 g161) (vf_upd (vf_upd (vf_upd F 28 f163) 41 f165) 43 f167) (vf_upd (vf_upd G 40 f164) 42 f166)) H ∧ va_D A (MW Y o a (upd (upd (upd (upd (upd I 29 g154) 34 g157) 35 g158) 36 g159) 39 g162) (vp_updL (vp_updL (vp_updL (vp_updL J 30 g155) 31 g156) 37 g160) 38 g161) (vf_upd (vf_upd (vf_upd F 28 f163) 41 f165) 43 f167) (vf_upd (vf_upd G 40 f164) 42 f166)) ∧ va_S A s.heap H locs ∧ lv_has ls 4 [(3, .int g152), (2, .int g153), (0, .ref o), (1, .int p1)] ∧ (0 ≤ g152.toInt ∧ g152.toInt ≤ 40) ∧ (0 ≤ g153.toInt ∧ g153.toInt ≤ 40) ∧ (g153.toInt ≤ g152.toInt) ∧ LB f163) (fun xx => match xx with | (g152, g153, g154, g155, g156, g157, g158, g159, g160, g161, g162, f163, f164, f165, f166, f167) => (40 - g152.toInt).toNat) (0, 0, (I 29), (J 30), (J 31), (I 34), (I 35), (I 36), (J 37), (J 38), (I 39), (F 28), (G 40), (F 41), (G 42), (F 43)) ⟨hP, hD, hS, lv_sub hl [0, 1, 2, 3] rfl, by omega, by omega, by omega, hk1⟩ (fun xx H locs ls hI ih => ?_)
  obtain ⟨g152, g153, g154, g155, g156, g157, g158, g159, g160, g161, g162, f163, f164, f165, f166, f167⟩ := xx
  obtain ⟨hP, hD, hS, hl, hq323, hq324, hq325, hp326⟩ := hI
  have ih327 := ih
  refine lv_iload_n hx hb dX11_caughtBy_4 rfl (lv_at hl 0 rfl) ?_
  refine lv_aload_n hx hb dX11_caughtBy_5 rfl (lv_at hl 2 rfl) ?_
  refine va_get (D := D) (ci := 11) (v := .ref (a 0)) (C := RX11) (T := TX11) (N := 49) hx hb hg inGX11 hown hKN.1 hP 0 rfl rfl 0 (by decide) (hg _ kw_1208) (fun _ h9 => h9) rfl dX11_caughtBy_6 ?_
  refine lv_iconst (v := 1) hx hb dX11_caughtBy_9 (by decide) ?_
  refine va_iald hx hb hKN.1 hP 1 0 rfl rfl (show ¬ ((1 : Int32) < 0 ∨ 7533 ≤ (1 : Int32).toNatClampNeg) by decide) dX11_caughtBy_10 ?_
  refine lv_topi (fun v328 ev328 => ?_)
  have ev328 : v328 = (F 0) 1 := ev328
  have kv328 := TO_1 hk0
  rw [← ev328] at kv328
  have qv328 := congrArg Int32.toInt ev328
  refine lv_icmp_ge (tgt := 45) hx hb dX11_caughtBy_11 (by decide) (fun c406 => ?_) (fun c406 => ?_)
  · skip
    have c406 := i_le (Eq.refl v328.toInt) (Eq.refl g152.toInt) c406
    refine lv_iload_n hx hb dX11_caughtBy_45 rfl (lv_at hl 1 rfl) ?_
    refine W.widen (k := 0) (n := 0) (Nat.le_of_ble_eq_true rfl) (Nat.le_of_ble_eq_true rfl) ?_
    exact W.iret (v := g153) hx hb hr (fun t ht hW => ⟨⟨(g153, g157, g158, g159, g162, g160, g161, g154, g155, g156, f163, f164, f165, f166, f167), rfl, ⟨(show (0 ≤ g153.toInt ∧ g153.toInt ≤ 40) by omega), hp326⟩, CB.mk ht hP hD⟩, hS.F ht⟩) hS.2.2 dX11_caughtBy_46
  · skip
    have c406 := i_nle (Eq.refl v328.toInt) (Eq.refl g152.toInt) c406
    refine lv_iload_n hx hb dX11_caughtBy_14 rfl (lv_at hl 1 rfl) ?_
    refine lv_aload_n hx hb dX11_caughtBy_15 rfl (lv_at hl 2 rfl) ?_
    refine lv_iload_n hx hb dX11_caughtBy_16 rfl (lv_at hl 0 rfl) ?_
    refine cga (rn_V (As := [.int g152]) (rest := [.int g153]) (b := o) (m_isPut l D Y Z H.size o a (upd (upd (upd (upd (upd I 29 g154) 34 g157) 35 g158) 36 g159) 39 g162) (vp_updL (vp_updL (vp_updL (vp_updL J 30 g155) 31 g156) 37 g160) 38 g161) (vf_upd (vf_upd (vf_upd F 28 f163) 41 f165) 43 f167) (vf_upd (vf_upd G 40 f164) 42 f166)  g152 hk0) ⟨hx, hb, hml, hown, hg⟩ lk_X11_500 ⟨CP.blind, va_recv hKN.1 hP (ci := 11) (q0 := 0) rfl rfl, CP.at hP hKN hD⟩ ⟨⟨rfl, rfl⟩, ⟨Nat.le_of_ble_eq_true rfl, Nat.le_of_ble_eq_true rfl⟩, ⟨Nat.le_of_ble_eq_true rfl, Nat.le_of_ble_eq_true rfl⟩⟩ hl.1 rfl (Nat.le_of_ble_eq_true rfl) dX11_caughtBy_17) hP hD hS hA (fun u407 H locs w408 hP hD hS => ?_)
    have w408 : ((0 ≤ g152.toInt ∧ g152.toInt ≤ 39 ∧ g152.toInt < ((F 0) 1).toInt ∧ u407.toInt = 1) ∨ u407.toInt = 0) ∧ (0 ≤ u407.toInt ∧ u407.toInt ≤ 1) := w408
    obtain ⟨hw410, hw411⟩ := w408
    refine W.eq (g2 := F0 m 20 ls [.int u407, .int g153]) rfl ?_
    have hP : va_P D vwCl (MW Y o a (upd (upd (upd (upd (upd I 29 g154) 34 g157) 35 g158) 36 g159) 39 g162) (vp_updL (vp_updL (vp_updL (vp_updL J 30 g155) 31 g156) 37 g160) 38 g161) (vf_upd (vf_upd (vf_upd F 28 f163) 41 f165) 43 f167) (vf_upd (vf_upd G 40 f164) 42 f166)) H := hP
    have hD : va_D A (MW Y o a (upd (upd (upd (upd (upd I 29 g154) 34 g157) 35 g158) 36 g159) 39 g162) (vp_updL (vp_updL (vp_updL (vp_updL J 30 g155) 31 g156) 37 g160) 38 g161) (vf_upd (vf_upd (vf_upd F 28 f163) 41 f165) 43 f167) (vf_upd (vf_upd G 40 f164) 42 f166)) := hD
    rcases (show u407.toInt = 1 ∨ u407.toInt = 0 by omega) with c412 | c412
    · obtain rfl : u407 = 1 := i_is c412 (by decide)
      have zi1 : (1 : Int32).toInt = 1 := by decide
      refine W.eq (g2 := F0 m 20 ls [.int 1, .int g153]) rfl ?_
      refine w_join (σ := Int32 × Int32 × Int64 × Int64 × Int32 × Int32 × Int32 × Int64 × Int64 × Int32 × (Nat → Int32) × (Nat → Int64) × (Nat → Int32) × (Nat → Int64) × (Nat → Int32)) (pcJ := 37) (kJ := 0) (nJ := 0) (stk := fun xx => match xx with | (g436, g437, g438, g439, g440, g441, g442, g443, g444, g445, f446, f447, f448, f449, f450) => [.int g436, .int g153]) (fun xx H locs ls => match xx with | (g436, g437, g438, g439, g440, g441, g442, g443, g444, g445, f446, f447, f448, f449, f450) => va_P D vwCl (MW Y o a (upd (upd (upd (upd (upd I 29 g437) 34 g440) 35 g441) 36 g442) 39 g445) (vp_updL (vp_updL (vp_updL (vp_updL J 30 g438) 31 g439) 37 g443) 38 g444) (vf_upd (vf_upd (vf_upd F 28 f446) 41 f448) 43 f450) (vf_upd (vf_upd G 40 f447) 42 f449)) H ∧ va_D A (MW Y o a (upd (upd (upd (upd (upd I 29 g437) 34 g440) 35 g441) 36 g442) 39 g445) (vp_updL (vp_updL (vp_updL (vp_updL J 30 g438) 31 g439) 37 g443) 38 g444) (vf_upd (vf_upd (vf_upd F 28 f446) 41 f448) 43 f450) (vf_upd (vf_upd G 40 f447) 42 f449)) ∧ va_S A s.heap H locs ∧ lv_has ls 4 [(3, .int g152), (2, .int g153), (0, .ref o), (1, .int p1)] ∧ (0 ≤ g436.toInt ∧ g436.toInt ≤ 1) ∧ LB f446) (fun xx H locs ls hI => ?_) (fun jn451 => ?_)
      · skip
        obtain ⟨g436, g437, g438, g439, g440, g441, g442, g443, g444, g445, f446, f447, f448, f449, f450⟩ := xx
        obtain ⟨hP, hD, hS, hl, hq452, hp453⟩ := hI
        refine W.eq (g2 := F0 m 37 ls [.int g436, .int g153]) rfl ?_
        refine lv_iadd hx hb dX11_caughtBy_37 ?_
        refine lv_topi (fun v454 ev454 => ?_)
        have hv454 := i_add (Eq.refl g153.toInt) (Eq.refl g436.toInt) ev454 (by omega) (by omega)
        refine lv_istore_n (lv' := [(2, .int v454), (3, .int g152), (0, .ref o), (1, .int p1)]) hx hb dX11_caughtBy_38 rfl hl (by decide) rfl (fun ls hl => ?_)
        obtain ⟨v455, ev455⟩ : ∃ y : Int32, y = g152 + 1 := ⟨_, rfl⟩
        have hv455 := i_add (Eq.refl g152.toInt) (show (1 : Int32).toInt = 1 by decide) ev455 (by omega) (by omega)
        refine lv_iinc (v := v455) (lv' := [(3, .int v455), (2, .int v454), (0, .ref o), (1, .int p1)]) hx hb dX11_caughtBy_39 hl (k := 1) rfl (by rw [ev455]; rfl) (by decide) rfl (fun ls hl => ?_)
        refine lv_goto (tgt := 4) hx hb dX11_caughtBy_42 (by decide) ?_
        exact ih327 (v455, v454, g437, g438, g439, g440, g441, g442, g443, g444, g445, f446, f447, f448, f449, f450) H locs ls (by show (40 - v455.toInt).toNat < (40 - g152.toInt).toNat; omega) ⟨hP, hD, hS, lv_sub hl [0, 1, 2, 3] rfl, by omega, by omega, by omega, hp453⟩
      · skip
        refine lv_if_eq (tgt := 36) hx hb dX11_caughtBy_20 (by decide) (fun c456 => ?_) (fun c456 => ?_)
        · exact absurd c456 (by decide)
        refine lv_aload_n hx hb dX11_caughtBy_23 rfl (lv_at hl 2 rfl) ?_
        refine lv_iload_n hx hb dX11_caughtBy_24 rfl (lv_at hl 3 rfl) ?_
        refine lv_iload_n hx hb dX11_caughtBy_25 rfl (lv_at hl 0 rfl) ?_
        refine cga (rn_V (As := [.int p1, .int g152]) (rest := [.int g153]) (b := o) (m_isCaught l D Y Z H.size o a (upd (upd (upd (upd (upd I 29 g154) 34 g157) 35 g158) 36 g159) 39 g162) (vp_updL (vp_updL (vp_updL (vp_updL J 30 g155) 31 g156) 37 g160) 38 g161) (vf_upd (vf_upd (vf_upd F 28 f163) 41 f165) 43 f167) (vf_upd (vf_upd G 40 f164) 42 f166)  p1 g152 (show (0 ≤ p1.toInt ∧ p1.toInt ≤ 5) by omega) (show (p1.toInt < ((F 4) 1).toInt) by omega) (show (0 ≤ g152.toInt ∧ g152.toInt ≤ 39) by omega) (show (g152.toInt < ((F 0) 1).toInt) by omega) hk0 hp326 hk2) ⟨hx, hb, hml, hown, hg⟩ lk_X11_503 ⟨CP.blind, va_recv hKN.1 hP (ci := 11) (q0 := 0) rfl rfl, CP.at hP hKN hD⟩ ⟨⟨rfl, rfl⟩, ⟨Nat.le_of_ble_eq_true rfl, Nat.le_of_ble_eq_true rfl⟩, ⟨Nat.le_of_ble_eq_true rfl, Nat.le_of_ble_eq_true rfl⟩⟩ hl.1 rfl (Nat.le_of_ble_eq_true rfl) dX11_caughtBy_26) hP hD hS hA (fun u457 H locs w458 hP hD hS => ?_)
        obtain ⟨u459, u460, u461, u462, u463, u464, u465, u466, u467, u468, f469, f470, f471, f472, f473⟩ := u457
        have w458 : (0 ≤ u459.toInt ∧ u459.toInt ≤ 1) ∧ LB f469 := w458
        obtain ⟨hw474, hw475⟩ := w458
        refine W.eq (g2 := F0 m 29 ls [.int u459, .int g153]) rfl ?_
        have hP : va_P D vwCl (MW Y o a (upd (upd (upd (upd (upd I 29 u466) 34 u460) 35 u461) 36 u462) 39 u463) (vp_updL (vp_updL (vp_updL (vp_updL J 30 u467) 31 u468) 37 u464) 38 u465) (vf_upd (vf_upd (vf_upd F 28 f469) 41 f471) 43 f473) (vf_upd (vf_upd G 40 f470) 42 f472)) H := hP
        have hD : va_D A (MW Y o a (upd (upd (upd (upd (upd I 29 u466) 34 u460) 35 u461) 36 u462) 39 u463) (vp_updL (vp_updL (vp_updL (vp_updL J 30 u467) 31 u468) 37 u464) 38 u465) (vf_upd (vf_upd (vf_upd F 28 f469) 41 f471) 43 f473) (vf_upd (vf_upd G 40 f470) 42 f472)) := hD
        rcases (show u459.toInt = 1 ∨ u459.toInt = 0 by omega) with c476 | c476
        · obtain rfl : u459 = 1 := i_is c476 (by decide)
          refine W.eq (g2 := F0 m 29 ls [.int 1, .int g153]) rfl ?_
          refine lv_if_eq (tgt := 36) hx hb dX11_caughtBy_29 (by decide) (fun c477 => ?_) (fun c477 => ?_)
          · exact absurd c477 (by decide)
          refine lv_iconst (v := 1) hx hb dX11_caughtBy_32 (by decide) ?_
          refine lv_goto (tgt := 37) hx hb dX11_caughtBy_33 (by decide) ?_
          refine W.widen (k := 0) (n := 0) (Nat.le_of_ble_eq_true rfl) (Nat.le_of_ble_eq_true rfl) ?_
          exact jn451 (1, u466, u467, u468, u460, u461, u462, u464, u465, u463, f469, f470, f471, f472, f473) H locs ls ⟨hP, hD, hS, lv_sub hl [0, 1, 2, 3] rfl, by omega, hw475⟩
        · obtain rfl : u459 = 0 := i_is c476 (by decide)
          have zi0 : (0 : Int32).toInt = 0 := by decide
          refine W.eq (g2 := F0 m 29 ls [.int 0, .int g153]) rfl ?_
          refine lv_if_eq (tgt := 36) hx hb dX11_caughtBy_29 (by decide) (fun c478 => ?_) (fun c478 => ?_)
          rotate_left
          · exact absurd c478 (by decide)
          refine lv_iconst (v := 0) hx hb dX11_caughtBy_36 (by decide) ?_
          refine W.widen (k := 0) (n := 0) (Nat.le_of_ble_eq_true rfl) (Nat.le_of_ble_eq_true rfl) ?_
          exact jn451 (0, u466, u467, u468, u460, u461, u462, u464, u465, u463, f469, f470, f471, f472, f473) H locs ls ⟨hP, hD, hS, lv_sub hl [0, 1, 2, 3] rfl, by omega, hw475⟩
    · obtain rfl : u407 = 0 := i_is c412 (by decide)
      have zi0 : (0 : Int32).toInt = 0 := by decide
      refine W.eq (g2 := F0 m 20 ls [.int 0, .int g153]) rfl ?_
      refine lv_if_eq (tgt := 36) hx hb dX11_caughtBy_20 (by decide) (fun c480 => ?_) (fun c480 => ?_)
      rotate_left
      · exact absurd c480 (by decide)
      refine lv_iconst (v := 0) hx hb dX11_caughtBy_36 (by decide) ?_
      refine lv_iadd hx hb dX11_caughtBy_37 ?_
      refine lv_topi (fun v481 ev481 => ?_)
      have hv481 := i_add (Eq.refl g153.toInt) (show (0 : Int32).toInt = 0 by decide) ev481 (by omega) (by omega)
      refine lv_istore_n (lv' := [(2, .int v481), (3, .int g152), (0, .ref o), (1, .int p1)]) hx hb dX11_caughtBy_38 rfl hl (by decide) rfl (fun ls hl => ?_)
      obtain ⟨v482, ev482⟩ : ∃ y : Int32, y = g152 + 1 := ⟨_, rfl⟩
      have hv482 := i_add (Eq.refl g152.toInt) (show (1 : Int32).toInt = 1 by decide) ev482 (by omega) (by omega)
      refine lv_iinc (v := v482) (lv' := [(3, .int v482), (2, .int v481), (0, .ref o), (1, .int p1)]) hx hb dX11_caughtBy_39 hl (k := 1) rfl (by rw [ev482]; rfl) (by decide) rfl (fun ls hl => ?_)
      refine lv_goto (tgt := 4) hx hb dX11_caughtBy_42 (by decide) ?_
      exact ih327 (v482, v481, g154, g155, g156, g157, g158, g159, g160, g161, g162, f163, f164, f165, f166, f167) H locs ls (by show (40 - v482.toInt).toNat < (40 - g152.toInt).toNat; omega) ⟨hP, hD, hS, lv_sub hl [0, 1, 2, 3] rfl, by omega, by omega, by omega, hp326⟩
set_option maxHeartbeats 4000000 in
set_option maxRecDepth 100000 in
theorem m_divisor (l : Launch) (D : va_G) (Y : Nat → ClassId) (Z : Nat → Nat) (sz : Nat)  (p0 : Int32) (p1 : Int32) (hk_0 : (0 ≤ p0.toInt)) (hk_1 : (0 ≤ p1.toInt)) : Met l yX11_divisor (.code yX11_divisor cX11_divisor 5 (some .int) :: GW) ({ frames := 0, cells := 0, slots := 0, locals := 0 }) (va_Pc [.int p0, .int p1] (CP D Y Z [] sz)) (QG (S := Int32) (fun u => some (.int u)) (fun u => (0 ≤ u.toInt) ∧ (p1.toInt ≠ 0 → 1 ≤ u.toInt)) (fun u => CB D [] (va_A [] sz)) (va_A [] sz)) 0 0 (va_A [] sz) := by
  refine Met.ofW (cc := cX11_divisor) (maxL := 5) (ret := (some .int)) (by decide) rfl ?_
  intro p e s m args below meth c s₁ B hml hv
  obtain ⟨rfl, hsz, hP, hKN, hD0⟩ := hv
  have hx := B.exec
  have hb := B.bytes
  have hr := B.returns
  have hts := atoms_spec (ws := .code yX11_divisor cX11_divisor 5 (some .int) :: GW) B.pre
  have hg : ∀ w ∈ GW, w.before _ s = true := fun w h => hts w (List.mem_cons_of_mem _ h)
  have hown : s.vm.findClass RX11 = some m.cls := findClass_of_methodNamed B.named
  have hlocks := B.notSynchronized
  subst hsz
  have hD := hD0.self (sz := s.heap.size)
  generalize hAe : va_A [] s.heap.size = A at hD ⊢
  have hA : ∀ q : Nat, s.heap.size ≤ q → A q := fun q h => by rw [← hAe]; exact Or.inr h
  clear hAe hD0 hts B
  have hl := lv_entry ([.int p0, .int p1]) (n := 5) (Nat.le_of_ble_eq_true rfl)
  rw [lg_entry_eq]
  generalize (lg_sl ([.int p0, .int p1]) ++ List.replicate (5 - (lg_sl ([.int p0, .int p1])).length) Slot.unset).toArray = ls at hl ⊢
  have hl : lv_has ls 5 [(0, .int p0), (1, .int p1)] := hl
  refine w_start (A0 := A) hP (fun H locs hP hS => ?_)
  refine lv_iload_n hx hb dX11_divisor_0 rfl (lv_at hl 0 rfl) ?_
  refine lv_istore_n (lv' := [(2, .int p0), (0, .int p0), (1, .int p1)]) hx hb dX11_divisor_1 rfl hl (by decide) rfl (fun ls hl => ?_)
  refine lv_iload_n hx hb dX11_divisor_2 rfl (lv_at hl 2 rfl) ?_
  refine lv_istore_n (lv' := [(3, .int p1), (2, .int p0), (0, .int p0), (1, .int p1)]) hx hb dX11_divisor_3 rfl hl (by decide) rfl (fun ls hl => ?_)
  refine w_loop (σ := Int32 × Int32) (fun xx H locs ls => match xx with | (g7, g8) => va_P D vwCl [] H ∧ va_D A [] ∧ va_S A s.heap H locs ∧ lv_has ls 5 [(3, .int g7), (2, .int g8), (0, .int p0), (1, .int p1)] ∧ (0 ≤ g8.toInt) ∧ (0 ≤ g7.toInt) ∧ (p1.toInt ≠ 0 → (g8.toInt ≠ 0 ∨ g7.toInt ≠ 0))) (fun xx => match xx with | (g7, g8) => (g7.toInt).toNat) (p1, p0) ⟨hP, hD, hS, lv_sub hl [0, 1, 2, 3] rfl, by omega, by omega, by omega⟩ (fun xx H locs ls hI ih => ?_)
  obtain ⟨g7, g8⟩ := xx
  obtain ⟨hP, hD, hS, hl, hq15, hq16, hq17⟩ := hI
  have ih18 := ih
  refine lv_iload_n hx hb dX11_divisor_4 rfl (lv_at hl 0 rfl) ?_
  have j22 := rgI g7
  refine lv_if_eq (tgt := 21) hx hb dX11_divisor_5 (by decide) (fun c23 => ?_) (fun c23 => ?_)
  · skip
    have c23 := i_eq (Eq.refl g7.toInt) (show (0 : Int32).toInt = 0 by decide) c23
    refine lv_iload_n hx hb dX11_divisor_21 rfl (lv_at hl 1 rfl) ?_
    refine W.widen (k := 0) (n := 0) (Nat.le_of_ble_eq_true rfl) (Nat.le_of_ble_eq_true rfl) ?_
    exact W.iret (v := g8) hx hb hr (fun t ht hW => ⟨⟨g8, rfl, ⟨(show (0 ≤ g8.toInt) by omega), (show (p1.toInt ≠ 0 → 1 ≤ g8.toInt) by omega)⟩, CB.nil⟩, hS.F ht⟩) hS.2.2 dX11_divisor_22
  · skip
    have c23 := i_ne (Eq.refl g7.toInt) (show (0 : Int32).toInt = 0 by decide) c23
    refine lv_iload_n hx hb dX11_divisor_8 rfl (lv_at hl 1 rfl) ?_
    refine lv_iload_n hx hb dX11_divisor_9 rfl (lv_at hl 0 rfl) ?_
    refine lv_irem hx hb dX11_divisor_10 (i_nz (Eq.refl g7.toInt) (by omega)) ?_
    refine lv_topi (fun v24 ev24 => ?_)
    have hv24 := i_rem (Eq.refl g8.toInt) (Eq.refl g7.toInt) ev24 (by omega) (by omega)
    refine lv_istore (lv' := [(4, .int v24), (3, .int g7), (2, .int g8), (0, .int p0), (1, .int p1)]) hx hb dX11_divisor_11 hl (by decide) rfl (fun ls hl => ?_)
    refine lv_iload_n hx hb dX11_divisor_13 rfl (lv_at hl 1 rfl) ?_
    refine lv_istore_n (lv' := [(2, .int g7), (4, .int v24), (3, .int g7), (0, .int p0), (1, .int p1)]) hx hb dX11_divisor_14 rfl hl (by decide) rfl (fun ls hl => ?_)
    refine lv_iload hx hb dX11_divisor_15 (lv_at hl 1 rfl) ?_
    refine lv_istore_n (lv' := [(3, .int v24), (2, .int g7), (4, .int v24), (0, .int p0), (1, .int p1)]) hx hb dX11_divisor_17 rfl hl (by decide) rfl (fun ls hl => ?_)
    refine lv_goto (tgt := 4) hx hb dX11_divisor_18 (by decide) ?_
    exact ih18 (v24, g7) H locs ls (by show (v24.toInt).toNat < (g7.toInt).toNat; omega) ⟨hP, hD, hS, lv_sub hl [0, 1, 3, 4] rfl, by omega, by omega, by omega⟩
set_option maxHeartbeats 4000000 in
set_option maxRecDepth 100000 in
theorem m_share (l : Launch) (D : va_G) (Y : Nat → ClassId) (Z : Nat → Nat) (sz : Nat) (o : Nat) (a : Nat → Nat) (I : Nat → Int32) (J : Nat → Int64) (F : Nat → Nat → Int32) (G : Nat → Nat → Int64) (p1 : Int32) (p2 : Int32) (hk0 : TO (F 0)) (hk1 : LB (F 28)) (hk2 : TX (F 4) (F 9) (F 10) (F 11) (F 12) (F 13)) : Met l yX11_share (.code yX11_share cX11_share 6 (some .int) :: GW) ({ frames := 9, cells := 0, slots := 0, locals := 214 }) (va_Pc [.ref o, .int p1, .int p2] (CP D Y Z (MW Y o a I J F G) sz)) (QG (S := Int32 × Int32 × Int32 × Int32 × Int32 × Int64 × Int64 × Int32 × Int64 × Int64 × (Nat → Int32) × (Nat → Int64) × (Nat → Int32) × (Nat → Int64) × (Nat → Int32)) (fun u => some (.int u.1)) (fun u => LB u.2.2.2.2.2.2.2.2.2.2.1) (fun u => CB D (MW Y o a (upd (upd (upd (upd (upd I 29 u.2.2.2.2.2.2.2.1) 34 u.2.1) 35 u.2.2.1) 36 u.2.2.2.1) 39 u.2.2.2.2.1) (vp_updL (vp_updL (vp_updL (vp_updL J 30 u.2.2.2.2.2.2.2.2.1) 31 u.2.2.2.2.2.2.2.2.2.1) 37 u.2.2.2.2.2.1) 38 u.2.2.2.2.2.2.1) (vf_upd (vf_upd (vf_upd F 28 u.2.2.2.2.2.2.2.2.2.2.1) 41 u.2.2.2.2.2.2.2.2.2.2.2.2.1) 43 u.2.2.2.2.2.2.2.2.2.2.2.2.2.2) (vf_upd (vf_upd G 40 u.2.2.2.2.2.2.2.2.2.2.2.1) 42 u.2.2.2.2.2.2.2.2.2.2.2.2.2.1)) (va_A (MW Y o a I J F G) sz)) (va_A (MW Y o a I J F G) sz)) 0 0 (va_A (MW Y o a I J F G) sz) := by
  refine Met.ofW (cc := cX11_share) (maxL := 6) (ret := (some .int)) (by decide) rfl ?_
  intro p e s m args below meth c s₁ B hml hv
  obtain ⟨rfl, hsz, hP, hKN, hD0⟩ := hv
  have hx := B.exec
  have hb := B.bytes
  have hr := B.returns
  have hts := atoms_spec (ws := .code yX11_share cX11_share 6 (some .int) :: GW) B.pre
  have hg : ∀ w ∈ GW, w.before _ s = true := fun w h => hts w (List.mem_cons_of_mem _ h)
  have hown : s.vm.findClass RX11 = some m.cls := findClass_of_methodNamed B.named
  have hlocks := B.notSynchronized
  subst hsz
  have hD := hD0.self (sz := s.heap.size)
  generalize hAe : va_A (MW Y o a I J F G) s.heap.size = A at hD ⊢
  have hA : ∀ q : Nat, s.heap.size ≤ q → A q := fun q h => by rw [← hAe]; exact Or.inr h
  clear hAe hD0 hts B
  have hl := lv_entry ([.ref o, .int p1, .int p2]) (n := 6) (Nat.le_of_ble_eq_true rfl)
  rw [lg_entry_eq]
  generalize (lg_sl ([.ref o, .int p1, .int p2]) ++ List.replicate (6 - (lg_sl ([.ref o, .int p1, .int p2])).length) Slot.unset).toArray = ls at hl ⊢
  have hl : lv_has ls 6 [(0, .ref o), (1, .int p1), (2, .int p2)] := hl
  refine w_start (A0 := A) hP (fun H locs hP hS => ?_)
  refine lv_aload_n hx hb dX11_share_0 rfl (lv_at hl 0 rfl) ?_
  refine lv_iconst (v := 1) hx hb dX11_share_1 (by decide) ?_
  refine lv_iload_n hx hb dX11_share_2 rfl (lv_at hl 1 rfl) ?_
  have zi1 : (1 : Int32).toInt = 1 := by decide
  refine cga (rn_V (As := [.int 1, .int p1]) (rest := []) (b := o) (m_isText1 l D Y Z H.size o a I J F G  p1 hk2) ⟨hx, hb, hml, hown, hg⟩ lk_X11_366 ⟨CP.blind, va_recv hKN.1 hP (ci := 11) (q0 := 0) rfl rfl, CP.at hP hKN hD⟩ ⟨⟨rfl, rfl⟩, ⟨Nat.le_of_ble_eq_true rfl, Nat.le_of_ble_eq_true rfl⟩, ⟨Nat.le_of_ble_eq_true rfl, Nat.le_of_ble_eq_true rfl⟩⟩ hl.1 rfl (Nat.le_of_ble_eq_true rfl) dX11_share_3) hP hD hS hA (fun u1 H locs w2 hP hD hS => ?_)
  have w2 : ((0 ≤ p1.toInt ∧ p1.toInt ≤ 5 ∧ p1.toInt < ((F 4) 1).toInt ∧ u1.toInt = 1) ∨ u1.toInt = 0) ∧ (0 ≤ u1.toInt ∧ u1.toInt ≤ 1) := w2
  obtain ⟨hw4, hw5⟩ := w2
  refine W.eq (g2 := F0 m 6 ls [.int u1]) rfl ?_
  have hP : va_P D vwCl (MW Y o a I J F G) H := hP
  have hD : va_D A (MW Y o a I J F G) := hD
  rcases (show u1.toInt = 1 ∨ u1.toInt = 0 by omega) with c6 | c6
  · obtain rfl : u1 = 1 := i_is c6 (by decide)
    refine W.eq (g2 := F0 m 6 ls [.int 1]) rfl ?_
    refine lv_if_eq (tgt := 19) hx hb dX11_share_6 (by decide) (fun c7 => ?_) (fun c7 => ?_)
    · exact absurd c7 (by decide)
    refine lv_iload_n hx hb dX11_share_9 rfl (lv_at hl 2 rfl) ?_
    have j8 := rgI p2
    have j9 := Int32.toInt_toInt64 p2
    refine lv_i2l (v := p2.toInt64) hx hb dX11_share_10 (rfl) ?_
    refine lv_lconst (v := 0) hx hb dX11_share_11 (by decide) ?_
    refine lv_lconst (v := 1) hx hb dX11_share_12 (by decide) ?_
    have zl0 : (0 : Int64).toInt = 0 := by decide
    have zl1 : (1 : Int64).toInt = 1 := by decide
    refine cg0 (rn_S (As := [.long p2.toInt64, .long 0, .long 1]) (rest := []) (m_in l D Y Z H.size   p2.toInt64 0 1 ) ⟨hx, hb, hml, hown, hg⟩ lk_X11_99 ⟨CP.blind, CP.at nilP hKN (nilD (A := fun _ => True))⟩ ⟨⟨rfl, rfl⟩, ⟨Nat.le_of_ble_eq_true rfl, Nat.le_of_ble_eq_true rfl⟩, ⟨Nat.le_of_ble_eq_true rfl, Nat.le_of_ble_eq_true rfl⟩⟩ hl.1 rfl (Nat.le_of_ble_eq_true rfl) dX11_share_13) hP hS hA (fun u10 H locs w11 hP hS => ?_)
    have w11 : (((0 : Int64).toInt ≤ p2.toInt64.toInt ∧ p2.toInt64.toInt ≤ (1 : Int64).toInt ∧ u10.toInt = 1) ∨ (¬ ((0 : Int64).toInt ≤ p2.toInt64.toInt ∧ p2.toInt64.toInt ≤ (1 : Int64).toInt) ∧ u10.toInt = 0)) ∧ (0 ≤ u10.toInt ∧ u10.toInt ≤ 1) := w11
    obtain ⟨hw13, hw14⟩ := w11
    refine W.eq (g2 := F0 m 16 ls [.int u10]) rfl ?_
    rcases (show u10.toInt = 1 ∨ u10.toInt = 0 by omega) with c15 | c15
    · obtain rfl : u10 = 1 := i_is c15 (by decide)
      refine W.eq (g2 := F0 m 16 ls [.int 1]) rfl ?_
      refine lv_if_ne (tgt := 21) hx hb dX11_share_16 (by decide) (fun c16 => ?_) (fun c16 => ?_)
      rotate_left
      · exact absurd c16 (by decide)
      refine lv_aload_n hx hb dX11_share_21 rfl (lv_at hl 0 rfl) ?_
      refine cga (rn_V (As := []) (rest := []) (b := o) (m_putIn l D Y Z H.size o a I J F G   hk0) ⟨hx, hb, hml, hown, hg⟩ lk_X11_506 ⟨CP.blind, va_recv hKN.1 hP (ci := 11) (q0 := 0) rfl rfl, CP.at hP hKN hD⟩ ⟨⟨rfl, rfl⟩, ⟨Nat.le_of_ble_eq_true rfl, Nat.le_of_ble_eq_true rfl⟩, ⟨Nat.le_of_ble_eq_true rfl, Nat.le_of_ble_eq_true rfl⟩⟩ hl.1 rfl (Nat.le_of_ble_eq_true rfl) dX11_share_22) hP hD hS hA (fun u17 H locs w18 hP hD hS => ?_)
      have w18 : (0 ≤ u17.toInt ∧ u17.toInt ≤ 40) := w18
      have hw20 := w18
      refine W.eq (g2 := F0 m 25 ls [.int u17]) rfl ?_
      have hP : va_P D vwCl (MW Y o a I J F G) H := hP
      have hD : va_D A (MW Y o a I J F G) := hD
      refine lv_istore_n (lv' := [(3, .int u17), (0, .ref o), (1, .int p1), (2, .int p2)]) hx hb dX11_share_25 rfl hl (by decide) rfl (fun ls hl => ?_)
      refine lv_iload_n hx hb dX11_share_26 rfl (lv_at hl 0 rfl) ?_
      refine lv_if_ne (tgt := 32) hx hb dX11_share_27 (by decide) (fun c21 => ?_) (fun c21 => ?_)
      · skip
        have c21 := i_ne (Eq.refl u17.toInt) (show (0 : Int32).toInt = 0 by decide) c21
        refine lv_aload_n hx hb dX11_share_32 rfl (lv_at hl 1 rfl) ?_
        refine lv_iload_n hx hb dX11_share_33 rfl (lv_at hl 2 rfl) ?_
        refine cga (rn_V (As := [.int p1]) (rest := []) (b := o) (m_caughtBy l D Y Z H.size o a I J F G  p1 (show (0 ≤ p1.toInt ∧ p1.toInt ≤ 5) by omega) (show (p1.toInt < ((F 4) 1).toInt) by omega) hk0 hk1 hk2) ⟨hx, hb, hml, hown, hg⟩ lk_X11_509 ⟨CP.blind, va_recv hKN.1 hP (ci := 11) (q0 := 0) rfl rfl, CP.at hP hKN hD⟩ ⟨⟨rfl, rfl⟩, ⟨Nat.le_of_ble_eq_true rfl, Nat.le_of_ble_eq_true rfl⟩, ⟨Nat.le_of_ble_eq_true rfl, Nat.le_of_ble_eq_true rfl⟩⟩ hl.1 rfl (Nat.le_of_ble_eq_true rfl) dX11_share_34) hP hD hS hA (fun u22 H locs w23 hP hD hS => ?_)
        obtain ⟨u24, u25, u26, u27, u28, u29, u30, u31, u32, u33, f34, f35, f36, f37, f38⟩ := u22
        have w23 : (0 ≤ u24.toInt ∧ u24.toInt ≤ 40) ∧ LB f34 := w23
        obtain ⟨hw39, hw40⟩ := w23
        refine W.eq (g2 := F0 m 37 ls [.int u24]) rfl ?_
        have hP : va_P D vwCl (MW Y o a (upd (upd (upd (upd (upd I 29 u31) 34 u25) 35 u26) 36 u27) 39 u28) (vp_updL (vp_updL (vp_updL (vp_updL J 30 u32) 31 u33) 37 u29) 38 u30) (vf_upd (vf_upd (vf_upd F 28 f34) 41 f36) 43 f38) (vf_upd (vf_upd G 40 f35) 42 f37)) H := hP
        have hD : va_D A (MW Y o a (upd (upd (upd (upd (upd I 29 u31) 34 u25) 35 u26) 36 u27) 39 u28) (vp_updL (vp_updL (vp_updL (vp_updL J 30 u32) 31 u33) 37 u29) 38 u30) (vf_upd (vf_upd (vf_upd F 28 f34) 41 f36) 43 f38) (vf_upd (vf_upd G 40 f35) 42 f37)) := hD
        refine lv_istore (lv' := [(4, .int u24), (3, .int u17), (0, .ref o), (1, .int p1), (2, .int p2)]) hx hb dX11_share_37 hl (by decide) rfl (fun ls hl => ?_)
        refine lv_iload hx hb dX11_share_39 (lv_at hl 0 rfl) ?_
        refine lv_iload_n hx hb dX11_share_41 rfl (lv_at hl 1 rfl) ?_
        refine cg0 (rn_S (As := [.int u24, .int u17]) (rest := []) (m_divisor l D Y Z H.size   u24 u17 (show (0 ≤ u24.toInt) by omega) (show (0 ≤ u17.toInt) by omega)) ⟨hx, hb, hml, hown, hg⟩ lk_X11_512 ⟨CP.blind, CP.at nilP hKN (nilD (A := fun _ => True))⟩ ⟨⟨rfl, rfl⟩, ⟨Nat.le_of_ble_eq_true rfl, Nat.le_of_ble_eq_true rfl⟩, ⟨Nat.le_of_ble_eq_true rfl, Nat.le_of_ble_eq_true rfl⟩⟩ hl.1 rfl (Nat.le_of_ble_eq_true rfl) dX11_share_42) hP hS hA (fun u41 H locs w42 hP hS => ?_)
        have w42 : (0 ≤ u41.toInt) ∧ (u17.toInt ≠ 0 → 1 ≤ u41.toInt) := w42
        obtain ⟨hw44, hw45⟩ := w42
        refine W.eq (g2 := F0 m 45 ls [.int u41]) rfl ?_
        refine lv_istore (lv' := [(5, .int u41), (4, .int u24), (3, .int u17), (0, .ref o), (1, .int p1), (2, .int p2)]) hx hb dX11_share_45 hl (by decide) rfl (fun ls hl => ?_)
        refine lv_iload_n hx hb dX11_share_47 rfl (lv_at hl 5 rfl) ?_
        refine lv_if_ne (tgt := 56) hx hb dX11_share_48 (by decide) (fun c47 => ?_) (fun c47 => ?_)
        · skip
          have c47 := i_ne (Eq.refl p2.toInt) (show (0 : Int32).toInt = 0 by decide) c47
          refine lv_iload_n hx hb dX11_share_56 rfl (lv_at hl 2 rfl) ?_
          refine lv_iload hx hb dX11_share_57 (lv_at hl 0 rfl) ?_
          refine lv_idiv hx hb dX11_share_59 (i_nz (Eq.refl u41.toInt) (by omega)) ?_
          refine lv_topi (fun v48 ev48 => ?_)
          refine W.widen (k := 0) (n := 0) (Nat.le_of_ble_eq_true rfl) (Nat.le_of_ble_eq_true rfl) ?_
          exact W.iret (v := v48) hx hb hr (fun t ht hW => ⟨⟨(v48, u25, u26, u27, u28, u29, u30, u31, u32, u33, f34, f35, f36, f37, f38), rfl, (hw40), CB.mk ht hP hD⟩, hS.F ht⟩) hS.2.2 dX11_share_60
        · skip
          have c47 := i_eq (Eq.refl p2.toInt) (show (0 : Int32).toInt = 0 by decide) c47
          refine lv_iload hx hb dX11_share_51 (lv_at hl 1 rfl) ?_
          refine lv_goto (tgt := 57) hx hb dX11_share_53 (by decide) ?_
          refine lv_iload hx hb dX11_share_57 (lv_at hl 0 rfl) ?_
          refine lv_idiv hx hb dX11_share_59 (i_nz (Eq.refl u41.toInt) (by omega)) ?_
          refine lv_topi (fun v49 ev49 => ?_)
          refine W.widen (k := 0) (n := 0) (Nat.le_of_ble_eq_true rfl) (Nat.le_of_ble_eq_true rfl) ?_
          exact W.iret (v := v49) hx hb hr (fun t ht hW => ⟨⟨(v49, u25, u26, u27, u28, u29, u30, u31, u32, u33, f34, f35, f36, f37, f38), rfl, (hw40), CB.mk ht hP hD⟩, hS.F ht⟩) hS.2.2 dX11_share_60
      · skip
        have c21 := i_eq (Eq.refl u17.toInt) (show (0 : Int32).toInt = 0 by decide) c21
        refine lv_iconst (v := 0) hx hb dX11_share_30 (by decide) ?_
        refine W.widen (k := 0) (n := 0) (Nat.le_of_ble_eq_true rfl) (Nat.le_of_ble_eq_true rfl) ?_
        have zi0 : (0 : Int32).toInt = 0 := by decide
        exact W.iret (v := 0) hx hb hr (fun t ht hW => ⟨⟨(0, (I 34), (I 35), (I 36), (I 39), (J 37), (J 38), (I 29), (J 30), (J 31), (F 28), (G 40), (F 41), (G 42), (F 43)), rfl, (hk1), CB.mk ht hP hD⟩, hS.F ht⟩) hS.2.2 dX11_share_31
    · obtain rfl : u10 = 0 := i_is c15 (by decide)
      have zi0 : (0 : Int32).toInt = 0 := by decide
      refine W.eq (g2 := F0 m 16 ls [.int 0]) rfl ?_
      refine lv_if_ne (tgt := 21) hx hb dX11_share_16 (by decide) (fun c50 => ?_) (fun c50 => ?_)
      · exact absurd c50 (by decide)
      refine lv_iconst (v := (-1)) hx hb dX11_share_19 (by decide) ?_
      refine W.widen (k := 0) (n := 0) (Nat.le_of_ble_eq_true rfl) (Nat.le_of_ble_eq_true rfl) ?_
      have zim1 : ((-1) : Int32).toInt = -1 := by decide
      exact W.iret (v := (-1)) hx hb hr (fun t ht hW => ⟨⟨((-1), (I 34), (I 35), (I 36), (I 39), (J 37), (J 38), (I 29), (J 30), (J 31), (F 28), (G 40), (F 41), (G 42), (F 43)), rfl, (hk1), CB.mk ht hP hD⟩, hS.F ht⟩) hS.2.2 dX11_share_20
  · obtain rfl : u1 = 0 := i_is c6 (by decide)
    have zi0 : (0 : Int32).toInt = 0 := by decide
    refine W.eq (g2 := F0 m 6 ls [.int 0]) rfl ?_
    refine lv_if_eq (tgt := 19) hx hb dX11_share_6 (by decide) (fun c51 => ?_) (fun c51 => ?_)
    rotate_left
    · exact absurd c51 (by decide)
    refine lv_iconst (v := (-1)) hx hb dX11_share_19 (by decide) ?_
    refine W.widen (k := 0) (n := 0) (Nat.le_of_ble_eq_true rfl) (Nat.le_of_ble_eq_true rfl) ?_
    have zim1 : ((-1) : Int32).toInt = -1 := by decide
    exact W.iret (v := (-1)) hx hb hr (fun t ht hW => ⟨⟨((-1), (I 34), (I 35), (I 36), (I 39), (J 37), (J 38), (I 29), (J 30), (J 31), (F 28), (G 40), (F 41), (G 42), (F 43)), rfl, (hk1), CB.mk ht hP hD⟩, hS.F ht⟩) hS.2.2 dX11_share_20
set_option maxHeartbeats 4000000 in
set_option maxRecDepth 100000 in
theorem m_chance (l : Launch) (D : va_G) (Y : Nat → ClassId) (Z : Nat → Nat) (sz : Nat) (o : Nat) (a : Nat → Nat) (I : Nat → Int32) (J : Nat → Int64) (F : Nat → Nat → Int32) (G : Nat → Nat → Int64) (p1 : Int32) (p2 : Int32) (p3 : Int32) (hk0 : TO (F 0)) (hk1 : LB (F 28)) (hk2 : TX (F 4) (F 9) (F 10) (F 11) (F 12) (F 13)) : Met l yX11_chance (.code yX11_chance cX11_chance 6 (some .int) :: GW) ({ frames := 7, cells := 0, slots := 0, locals := 169 }) (va_Pc [.ref o, .int p1, .int p2, .int p3] (CP D Y Z (MW Y o a I J F G) sz)) (QG (S := Int32 × Int32 × Int32 × Int32 × Int32 × Int64 × Int64 × Int32 × Int64 × Int64 × (Nat → Int32) × (Nat → Int32) × (Nat → Int64) × (Nat → Int32) × (Nat → Int64) × (Nat → Int32)) (fun u => some (.int u.1)) (fun u => LB u.2.2.2.2.2.2.2.2.2.2.2.1) (fun u => CB D (MW Y o a (upd (upd (upd (upd (upd I 29 u.2.2.2.2.2.2.2.1) 34 u.2.1) 35 u.2.2.1) 36 u.2.2.2.1) 39 u.2.2.2.2.1) (vp_updL (vp_updL (vp_updL (vp_updL J 30 u.2.2.2.2.2.2.2.2.1) 31 u.2.2.2.2.2.2.2.2.2.1) 37 u.2.2.2.2.2.1) 38 u.2.2.2.2.2.2.1) (vf_upd (vf_upd (vf_upd (vf_upd F 1 u.2.2.2.2.2.2.2.2.2.2.1) 28 u.2.2.2.2.2.2.2.2.2.2.2.1) 41 u.2.2.2.2.2.2.2.2.2.2.2.2.2.1) 43 u.2.2.2.2.2.2.2.2.2.2.2.2.2.2.2) (vf_upd (vf_upd G 40 u.2.2.2.2.2.2.2.2.2.2.2.2.1) 42 u.2.2.2.2.2.2.2.2.2.2.2.2.2.2.1)) (va_A (MW Y o a I J F G) sz)) (va_A (MW Y o a I J F G) sz)) 0 0 (va_A (MW Y o a I J F G) sz) := by
  refine Met.ofW (cc := cX11_chance) (maxL := 6) (ret := (some .int)) (by decide) rfl ?_
  intro p e s m args below meth c s₁ B hml hv
  obtain ⟨rfl, hsz, hP, hKN, hD0⟩ := hv
  have hx := B.exec
  have hb := B.bytes
  have hr := B.returns
  have hts := atoms_spec (ws := .code yX11_chance cX11_chance 6 (some .int) :: GW) B.pre
  have hg : ∀ w ∈ GW, w.before _ s = true := fun w h => hts w (List.mem_cons_of_mem _ h)
  have hown : s.vm.findClass RX11 = some m.cls := findClass_of_methodNamed B.named
  have hlocks := B.notSynchronized
  subst hsz
  have hD := hD0.self (sz := s.heap.size)
  generalize hAe : va_A (MW Y o a I J F G) s.heap.size = A at hD ⊢
  have hA : ∀ q : Nat, s.heap.size ≤ q → A q := fun q h => by rw [← hAe]; exact Or.inr h
  clear hAe hD0 hts B
  have hl := lv_entry ([.ref o, .int p1, .int p2, .int p3]) (n := 6) (Nat.le_of_ble_eq_true rfl)
  rw [lg_entry_eq]
  generalize (lg_sl ([.ref o, .int p1, .int p2, .int p3]) ++ List.replicate (6 - (lg_sl ([.ref o, .int p1, .int p2, .int p3])).length) Slot.unset).toArray = ls at hl ⊢
  have hl : lv_has ls 6 [(0, .ref o), (1, .int p1), (2, .int p2), (3, .int p3)] := hl
  refine w_start (A0 := A) hP (fun H locs hP hS => ?_)
  refine lv_aload_n hx hb dX11_chance_0 rfl (lv_at hl 0 rfl) ?_
  refine lv_iconst (v := 1) hx hb dX11_chance_1 (by decide) ?_
  refine lv_iload_n hx hb dX11_chance_2 rfl (lv_at hl 1 rfl) ?_
  have zi1 : (1 : Int32).toInt = 1 := by decide
  refine cga (rn_V (As := [.int 1, .int p1]) (rest := []) (b := o) (m_isText1 l D Y Z H.size o a I J F G  p1 hk2) ⟨hx, hb, hml, hown, hg⟩ lk_X11_366 ⟨CP.blind, va_recv hKN.1 hP (ci := 11) (q0 := 0) rfl rfl, CP.at hP hKN hD⟩ ⟨⟨rfl, rfl⟩, ⟨Nat.le_of_ble_eq_true rfl, Nat.le_of_ble_eq_true rfl⟩, ⟨Nat.le_of_ble_eq_true rfl, Nat.le_of_ble_eq_true rfl⟩⟩ hl.1 rfl (Nat.le_of_ble_eq_true rfl) dX11_chance_3) hP hD hS hA (fun u1 H locs w2 hP hD hS => ?_)
  have w2 : ((0 ≤ p1.toInt ∧ p1.toInt ≤ 5 ∧ p1.toInt < ((F 4) 1).toInt ∧ u1.toInt = 1) ∨ u1.toInt = 0) ∧ (0 ≤ u1.toInt ∧ u1.toInt ≤ 1) := w2
  obtain ⟨hw4, hw5⟩ := w2
  refine W.eq (g2 := F0 m 6 ls [.int u1]) rfl ?_
  have hP : va_P D vwCl (MW Y o a I J F G) H := hP
  have hD : va_D A (MW Y o a I J F G) := hD
  rcases (show u1.toInt = 1 ∨ u1.toInt = 0 by omega) with c6 | c6
  · obtain rfl : u1 = 1 := i_is c6 (by decide)
    refine W.eq (g2 := F0 m 6 ls [.int 1]) rfl ?_
    refine lv_if_eq (tgt := 33) hx hb dX11_chance_6 (by decide) (fun c7 => ?_) (fun c7 => ?_)
    · exact absurd c7 (by decide)
    refine lv_iload_n hx hb dX11_chance_9 rfl (lv_at hl 2 rfl) ?_
    have j8 := rgI p2
    have j9 := Int32.toInt_toInt64 p2
    refine lv_i2l (v := p2.toInt64) hx hb dX11_chance_10 (rfl) ?_
    refine lv_lconst (v := 0) hx hb dX11_chance_11 (by decide) ?_
    refine lv_ldc2 (v := 999999) hx hb hown (hg _ kw_1767) dX11_chance_12 ?_
    have zl0 : (0 : Int64).toInt = 0 := by decide
    have zl999999 : (999999 : Int64).toInt = 999999 := by decide
    refine cg0 (rn_S (As := [.long p2.toInt64, .long 0, .long 999999]) (rest := []) (m_in l D Y Z H.size   p2.toInt64 0 999999 ) ⟨hx, hb, hml, hown, hg⟩ lk_X11_99 ⟨CP.blind, CP.at nilP hKN (nilD (A := fun _ => True))⟩ ⟨⟨rfl, rfl⟩, ⟨Nat.le_of_ble_eq_true rfl, Nat.le_of_ble_eq_true rfl⟩, ⟨Nat.le_of_ble_eq_true rfl, Nat.le_of_ble_eq_true rfl⟩⟩ hl.1 rfl (Nat.le_of_ble_eq_true rfl) dX11_chance_15) hP hS hA (fun u10 H locs w11 hP hS => ?_)
    have w11 : (((0 : Int64).toInt ≤ p2.toInt64.toInt ∧ p2.toInt64.toInt ≤ (999999 : Int64).toInt ∧ u10.toInt = 1) ∨ (¬ ((0 : Int64).toInt ≤ p2.toInt64.toInt ∧ p2.toInt64.toInt ≤ (999999 : Int64).toInt) ∧ u10.toInt = 0)) ∧ (0 ≤ u10.toInt ∧ u10.toInt ≤ 1) := w11
    obtain ⟨hw13, hw14⟩ := w11
    refine W.eq (g2 := F0 m 18 ls [.int u10]) rfl ?_
    rcases (show u10.toInt = 1 ∨ u10.toInt = 0 by omega) with c15 | c15
    · obtain rfl : u10 = 1 := i_is c15 (by decide)
      refine W.eq (g2 := F0 m 18 ls [.int 1]) rfl ?_
      refine lv_if_eq (tgt := 33) hx hb dX11_chance_18 (by decide) (fun c16 => ?_) (fun c16 => ?_)
      · exact absurd c16 (by decide)
      refine lv_iload_n hx hb dX11_chance_21 rfl (lv_at hl 3 rfl) ?_
      have j17 := rgI p3
      have j18 := Int32.toInt_toInt64 p3
      refine lv_i2l (v := p3.toInt64) hx hb dX11_chance_22 (rfl) ?_
      refine lv_lconst (v := 0) hx hb dX11_chance_23 (by decide) ?_
      refine lv_ldc2 (v := 5) hx hb hown (hg _ kw_1409) dX11_chance_24 ?_
      have zl5 : (5 : Int64).toInt = 5 := by decide
      refine cg0 (rn_S (As := [.long p3.toInt64, .long 0, .long 5]) (rest := []) (m_in l D Y Z H.size   p3.toInt64 0 5 ) ⟨hx, hb, hml, hown, hg⟩ lk_X11_99 ⟨CP.blind, CP.at nilP hKN (nilD (A := fun _ => True))⟩ ⟨⟨rfl, rfl⟩, ⟨Nat.le_of_ble_eq_true rfl, Nat.le_of_ble_eq_true rfl⟩, ⟨Nat.le_of_ble_eq_true rfl, Nat.le_of_ble_eq_true rfl⟩⟩ hl.1 rfl (Nat.le_of_ble_eq_true rfl) dX11_chance_27) hP hS hA (fun u19 H locs w20 hP hS => ?_)
      have w20 : (((0 : Int64).toInt ≤ p3.toInt64.toInt ∧ p3.toInt64.toInt ≤ (5 : Int64).toInt ∧ u19.toInt = 1) ∨ (¬ ((0 : Int64).toInt ≤ p3.toInt64.toInt ∧ p3.toInt64.toInt ≤ (5 : Int64).toInt) ∧ u19.toInt = 0)) ∧ (0 ≤ u19.toInt ∧ u19.toInt ≤ 1) := w20
      obtain ⟨hw22, hw23⟩ := w20
      refine W.eq (g2 := F0 m 30 ls [.int u19]) rfl ?_
      rcases (show u19.toInt = 1 ∨ u19.toInt = 0 by omega) with c24 | c24
      · obtain rfl : u19 = 1 := i_is c24 (by decide)
        refine W.eq (g2 := F0 m 30 ls [.int 1]) rfl ?_
        refine lv_if_ne (tgt := 35) hx hb dX11_chance_30 (by decide) (fun c25 => ?_) (fun c25 => ?_)
        rotate_left
        · exact absurd c25 (by decide)
        refine lv_iconst (v := 0) hx hb dX11_chance_35 (by decide) ?_
        refine lv_istore (lv' := [(4, .int 0), (0, .ref o), (1, .int p1), (2, .int p2), (3, .int p3)]) hx hb dX11_chance_36 hl (by decide) rfl (fun ls hl => ?_)
        refine lv_iconst (v := 0) hx hb dX11_chance_38 (by decide) ?_
        refine lv_istore (lv' := [(5, .int 0), (4, .int 0), (0, .ref o), (1, .int p1), (2, .int p2), (3, .int p3)]) hx hb dX11_chance_39 hl (by decide) rfl (fun ls hl => ?_)
        have zi0 : (0 : Int32).toInt = 0 := by decide
        refine w_loop (σ := Int32 × Int32 × Int32 × Int64 × Int64 × Int32 × Int32 × Int32 × Int64 × Int64 × Int32 × (Nat → Int32) × (Nat → Int32) × (Nat → Int64) × (Nat → Int32) × (Nat → Int64) × (Nat → Int32)) (fun xx H locs ls => match xx with | (g101, g102, g103, g104, g105, g106, g107, g108, g109, g110, g111, f112, f113, f114, f115, f116, f117) => va_P D vwCl (MW Y o a (upd (upd (upd (upd (upd I 29 g103) 34 g106) 35 g107) 36 g108) 39 g111) (vp_updL (vp_updL (vp_updL (vp_updL J 30 g104) 31 g105) 37 g109) 38 g110) (vf_upd (vf_upd (vf_upd (vf_upd F 1 f112) 28 f113) 41 f115) 43 f117) (vf_upd (vf_upd G 40 f114) 42 f116)) H ∧ va_D A (MW Y o a (upd (upd (upd (upd (upd I 29 g103) 34 g106) 35 g107) 36 g108) 39 g111) (vp_updL (vp_updL (vp_updL (vp_updL J 30 g104) 31 g105) 37 g109) 38 g110) (vf_upd (vf_upd (vf_upd (vf_upd F 1 f112) 28 f113) 41 f115) 43 f117) (vf_upd (vf_upd G 40 f114) 42 f116)) ∧ va_S A s.heap H locs ∧ lv_has ls 6 [(5, .int g101), (4, .int g102), (0, .ref o), (1, .int p1), (2, .int p2), (3, .int p3)] ∧ (0 ≤ g101.toInt ∧ g101.toInt ≤ 12) ∧ LB f113) (fun xx => match xx with | (g101, g102, g103, g104, g105, g106, g107, g108, g109, g110, g111, f112, f113, f114, f115, f116, f117) => (12 - g101.toInt).toNat) (0, 0, (I 29), (J 30), (J 31), (I 34), (I 35), (I 36), (J 37), (J 38), (I 39), (F 1), (F 28), (G 40), (F 41), (G 42), (F 43)) ⟨hP, hD, hS, lv_sub hl [0, 1, 2, 3, 4, 5] rfl, by omega, hk1⟩ (fun xx H locs ls hI ih => ?_)
        obtain ⟨g101, g102, g103, g104, g105, g106, g107, g108, g109, g110, g111, f112, f113, f114, f115, f116, f117⟩ := xx
        obtain ⟨hP, hD, hS, hl, hq199, hp200⟩ := hI
        have ih201 := ih
        refine lv_iload hx hb dX11_chance_41 (lv_at hl 0 rfl) ?_
        refine lv_aload_n hx hb dX11_chance_43 rfl (lv_at hl 2 rfl) ?_
        refine va_get (D := D) (ci := 11) (v := .ref (a 0)) (C := RX11) (T := TX11) (N := 49) hx hb hg inGX11 hown hKN.1 hP 0 rfl rfl 0 (by decide) (hg _ kw_1208) (fun _ h9 => h9) rfl dX11_chance_44 ?_
        refine lv_iconst (v := 0) hx hb dX11_chance_47 (by decide) ?_
        refine va_iald hx hb hKN.1 hP 1 0 rfl rfl (show ¬ ((0 : Int32) < 0 ∨ 7533 ≤ (0 : Int32).toNatClampNeg) by decide) dX11_chance_48 ?_
        refine lv_topi (fun v202 ev202 => ?_)
        have ev202 : v202 = (F 0) 0 := ev202
        have kv202 := TO_0 hk0
        rw [← ev202] at kv202
        have qv202 := congrArg Int32.toInt ev202
        refine lv_icmp_ge (tgt := 89) hx hb dX11_chance_49 (by decide) (fun c243 => ?_) (fun c243 => ?_)
        · skip
          have c243 := i_le (Eq.refl v202.toInt) (Eq.refl g101.toInt) c243
          refine lv_iload hx hb dX11_chance_89 (lv_at hl 1 rfl) ?_
          refine W.widen (k := 0) (n := 0) (Nat.le_of_ble_eq_true rfl) (Nat.le_of_ble_eq_true rfl) ?_
          exact W.iret (v := g102) hx hb hr (fun t ht hW => ⟨⟨(g102, g106, g107, g108, g111, g109, g110, g103, g104, g105, f112, f113, f114, f115, f116, f117), rfl, (hp200), CB.mk ht hP hD⟩, hS.F ht⟩) hS.2.2 dX11_chance_91
        · skip
          have c243 := i_nle (Eq.refl v202.toInt) (Eq.refl g101.toInt) c243
          refine lv_iload hx hb dX11_chance_52 (lv_at hl 1 rfl) ?_
          refine lv_aload_n hx hb dX11_chance_54 rfl (lv_at hl 2 rfl) ?_
          refine lv_iload_n hx hb dX11_chance_55 rfl (lv_at hl 3 rfl) ?_
          refine lv_iload hx hb dX11_chance_56 (lv_at hl 0 rfl) ?_
          refine lv_iload_n hx hb dX11_chance_58 rfl (lv_at hl 5 rfl) ?_
          refine cga (rn_V (As := [.int p1, .int g101, .int p3]) (rest := [.int g102]) (b := o) (m_finds l D Y Z H.size o a (upd (upd (upd (upd (upd I 29 g103) 34 g106) 35 g107) 36 g108) 39 g111) (vp_updL (vp_updL (vp_updL (vp_updL J 30 g104) 31 g105) 37 g109) 38 g110) (vf_upd (vf_upd (vf_upd (vf_upd F 1 f112) 28 f113) 41 f115) 43 f117) (vf_upd (vf_upd G 40 f114) 42 f116)  p1 g101 p3 (show (0 ≤ p1.toInt ∧ p1.toInt ≤ 5) by omega) (show (p1.toInt < ((F 4) 1).toInt) by omega) (show (0 ≤ g101.toInt ∧ g101.toInt ≤ 11) by omega) (show (0 ≤ p3.toInt ∧ p3.toInt ≤ 5) by omega) hk0 hp200 hk2) ⟨hx, hb, hml, hown, hg⟩ lk_X11_487 ⟨CP.blind, va_recv hKN.1 hP (ci := 11) (q0 := 0) rfl rfl, CP.at hP hKN hD⟩ ⟨⟨rfl, rfl⟩, ⟨Nat.le_of_ble_eq_true rfl, Nat.le_of_ble_eq_true rfl⟩, ⟨Nat.le_of_ble_eq_true rfl, Nat.le_of_ble_eq_true rfl⟩⟩ hl.1 rfl (Nat.le_of_ble_eq_true rfl) dX11_chance_59) hP hD hS hA (fun u244 H locs w245 hP hD hS => ?_)
          obtain ⟨u246, u247, u248, u249, u250, u251, u252, u253, u254, u255, f256, f257, f258, f259, f260, f261⟩ := u244
          have w245 : ((u246.toInt = 1 ∧ 1 ≤ u252.toInt ∧ 2 ≤ u247.toInt ∧ u247.toInt ≤ 200 ∧ 1 ≤ u248.toInt ∧ u248.toInt ≤ 10 ∧ 0 ≤ u249.toInt ∧ u249.toInt < u247.toInt ∧ -9000000000000 ≤ u251.toInt ∧ u251.toInt ≤ 9000000000000 ∧ (cin f257 (u247.toInt).toNat (u248.toInt).toNat (u249.toInt).toNat 600 : Int) ≠ u253.toInt) ∨ u246.toInt = 0) ∧ (0 ≤ u246.toInt ∧ u246.toInt ≤ 1) ∧ (0 ≤ u253.toInt ∧ u253.toInt ≤ 600) ∧ (-60000000 ≤ u254.toInt ∧ u254.toInt ≤ 60000000) ∧ (1 ≤ u255.toInt) ∧ LB f257 := w245
          obtain ⟨hw262, hw263, hw264, hw265, hw266, hw267⟩ := w245
          refine W.eq (g2 := F0 m 62 ls [.int u246, .int g102]) rfl ?_
          have hP : va_P D vwCl (MW Y o a (upd (upd (upd (upd (upd I 29 u253) 34 u247) 35 u248) 36 u249) 39 u250) (vp_updL (vp_updL (vp_updL (vp_updL J 30 u254) 31 u255) 37 u251) 38 u252) (vf_upd (vf_upd (vf_upd (vf_upd F 1 f256) 28 f257) 41 f259) 43 f261) (vf_upd (vf_upd G 40 f258) 42 f260)) H := hP
          have hD : va_D A (MW Y o a (upd (upd (upd (upd (upd I 29 u253) 34 u247) 35 u248) 36 u249) 39 u250) (vp_updL (vp_updL (vp_updL (vp_updL J 30 u254) 31 u255) 37 u251) 38 u252) (vf_upd (vf_upd (vf_upd (vf_upd F 1 f256) 28 f257) 41 f259) 43 f261) (vf_upd (vf_upd G 40 f258) 42 f260)) := hD
          rcases (show u246.toInt = 1 ∨ u246.toInt = 0 by omega) with c268 | c268
          · obtain rfl : u246 = 1 := i_is c268 (by decide)
            refine W.eq (g2 := F0 m 62 ls [.int 1, .int g102]) rfl ?_
            refine w_join (σ := Int32) (pcJ := 80) (kJ := 0) (nJ := 0) (stk := fun xx => match xx with | g271 => [.int g271, .int g102]) (fun xx H locs ls => match xx with | g271 => va_P D vwCl (MW Y o a (upd (upd (upd (upd (upd I 29 u253) 34 u247) 35 u248) 36 u249) 39 u250) (vp_updL (vp_updL (vp_updL (vp_updL J 30 u254) 31 u255) 37 u251) 38 u252) (vf_upd (vf_upd (vf_upd (vf_upd F 1 f256) 28 f257) 41 f259) 43 f261) (vf_upd (vf_upd G 40 f258) 42 f260)) H ∧ va_D A (MW Y o a (upd (upd (upd (upd (upd I 29 u253) 34 u247) 35 u248) 36 u249) 39 u250) (vp_updL (vp_updL (vp_updL (vp_updL J 30 u254) 31 u255) 37 u251) 38 u252) (vf_upd (vf_upd (vf_upd (vf_upd F 1 f256) 28 f257) 41 f259) 43 f261) (vf_upd (vf_upd G 40 f258) 42 f260)) ∧ va_S A s.heap H locs ∧ lv_has ls 6 [(5, .int g101), (4, .int g102), (0, .ref o), (1, .int p1), (2, .int p2), (3, .int p3)] ∧ (0 ≤ g271.toInt ∧ g271.toInt ≤ 1)) (fun xx H locs ls hI => ?_) (fun jn272 => ?_)
            · skip
              revert hI
              generalize xx = g271
              intro hI
              obtain ⟨hP, hD, hS, hl, hq273⟩ := hI
              refine W.eq (g2 := F0 m 80 ls [.int g271, .int g102]) rfl ?_
              refine lv_iadd hx hb dX11_chance_80 ?_
              refine lv_topi (fun v274 ev274 => ?_)
              refine lv_istore (lv' := [(4, .int v274), (5, .int g101), (0, .ref o), (1, .int p1), (2, .int p2), (3, .int p3)]) hx hb dX11_chance_81 hl (by decide) rfl (fun ls hl => ?_)
              obtain ⟨v275, ev275⟩ : ∃ y : Int32, y = g101 + 1 := ⟨_, rfl⟩
              have hv275 := i_add (Eq.refl g101.toInt) (show (1 : Int32).toInt = 1 by decide) ev275 (by omega) (by omega)
              refine lv_iinc (v := v275) (lv' := [(5, .int v275), (4, .int v274), (0, .ref o), (1, .int p1), (2, .int p2), (3, .int p3)]) hx hb dX11_chance_83 hl (k := 1) rfl (by rw [ev275]; rfl) (by decide) rfl (fun ls hl => ?_)
              refine lv_goto (tgt := 41) hx hb dX11_chance_86 (by decide) ?_
              exact ih201 (v275, v274, u253, u254, u255, u247, u248, u249, u251, u252, u250, f256, f257, f258, f259, f260, f261) H locs ls (by show (12 - v275.toInt).toNat < (12 - g101.toInt).toNat; omega) ⟨hP, hD, hS, lv_sub hl [0, 1, 2, 3, 4, 5] rfl, by omega, hw267⟩
            · skip
              refine lv_if_eq (tgt := 79) hx hb dX11_chance_62 (by decide) (fun c276 => ?_) (fun c276 => ?_)
              · exact absurd c276 (by decide)
              refine lv_aload_n hx hb dX11_chance_65 rfl (lv_at hl 2 rfl) ?_
              refine va_get (D := D) (ci := 11) (v := .long u252) (C := RX11) (T := TX11) (N := 49) hx hb hg inGX11 hown hKN.1 hP 0 rfl rfl 38 (by decide) (hg _ kw_1246) (fun _ h9 => h9) rfl dX11_chance_66 ?_
              refine lv_iload_n hx hb dX11_chance_69 rfl (lv_at hl 4 rfl) ?_
              refine lv_i2l (v := p2.toInt64) hx hb dX11_chance_70 (rfl) ?_
              refine W.lcmp hx hb dX11_chance_71 ?_
              refine lv_if_lt (tgt := 79) hx hb dX11_chance_72 (by decide) (fun c277 => ?_) (fun c277 => ?_)
              · skip
                have c277 := l_lt (Eq.refl u252.toInt) (Int32.toInt_toInt64 p2) c277
                refine lv_iconst (v := 0) hx hb dX11_chance_79 (by decide) ?_
                have zi0 : (0 : Int32).toInt = 0 := by decide
                refine W.widen (k := 0) (n := 0) (Nat.le_of_ble_eq_true rfl) (Nat.le_of_ble_eq_true rfl) ?_
                exact jn272 (0) H locs ls ⟨hP, hD, hS, lv_sub hl [0, 1, 2, 3, 4, 5] rfl, by omega⟩
              · skip
                have c277 := l_nlt (Eq.refl u252.toInt) (Int32.toInt_toInt64 p2) c277
                refine lv_iconst (v := 1) hx hb dX11_chance_75 (by decide) ?_
                refine lv_goto (tgt := 80) hx hb dX11_chance_76 (by decide) ?_
                refine W.widen (k := 0) (n := 0) (Nat.le_of_ble_eq_true rfl) (Nat.le_of_ble_eq_true rfl) ?_
                exact jn272 (1) H locs ls ⟨hP, hD, hS, lv_sub hl [0, 1, 2, 3, 4, 5] rfl, by omega⟩
          · obtain rfl : u246 = 0 := i_is c268 (by decide)
            have zi0 : (0 : Int32).toInt = 0 := by decide
            refine W.eq (g2 := F0 m 62 ls [.int 0, .int g102]) rfl ?_
            refine lv_if_eq (tgt := 79) hx hb dX11_chance_62 (by decide) (fun c279 => ?_) (fun c279 => ?_)
            rotate_left
            · exact absurd c279 (by decide)
            refine lv_iconst (v := 0) hx hb dX11_chance_79 (by decide) ?_
            refine lv_iadd hx hb dX11_chance_80 ?_
            refine lv_topi (fun v280 ev280 => ?_)
            have j281 := rgI g102
            have hv280 := i_add (Eq.refl g102.toInt) (show (0 : Int32).toInt = 0 by decide) ev280 (by omega) (by omega)
            refine lv_istore (lv' := [(4, .int v280), (5, .int g101), (0, .ref o), (1, .int p1), (2, .int p2), (3, .int p3)]) hx hb dX11_chance_81 hl (by decide) rfl (fun ls hl => ?_)
            obtain ⟨v282, ev282⟩ : ∃ y : Int32, y = g101 + 1 := ⟨_, rfl⟩
            have hv282 := i_add (Eq.refl g101.toInt) (show (1 : Int32).toInt = 1 by decide) ev282 (by omega) (by omega)
            refine lv_iinc (v := v282) (lv' := [(5, .int v282), (4, .int v280), (0, .ref o), (1, .int p1), (2, .int p2), (3, .int p3)]) hx hb dX11_chance_83 hl (k := 1) rfl (by rw [ev282]; rfl) (by decide) rfl (fun ls hl => ?_)
            refine lv_goto (tgt := 41) hx hb dX11_chance_86 (by decide) ?_
            exact ih201 (v282, v280, u253, u254, u255, u247, u248, u249, u251, u252, u250, f256, f257, f258, f259, f260, f261) H locs ls (by show (12 - v282.toInt).toNat < (12 - g101.toInt).toNat; omega) ⟨hP, hD, hS, lv_sub hl [0, 1, 2, 3, 4, 5] rfl, by omega, hw267⟩
      · obtain rfl : u19 = 0 := i_is c24 (by decide)
        have zi0 : (0 : Int32).toInt = 0 := by decide
        refine W.eq (g2 := F0 m 30 ls [.int 0]) rfl ?_
        refine lv_if_ne (tgt := 35) hx hb dX11_chance_30 (by decide) (fun c283 => ?_) (fun c283 => ?_)
        · exact absurd c283 (by decide)
        refine lv_iconst (v := (-1)) hx hb dX11_chance_33 (by decide) ?_
        refine W.widen (k := 0) (n := 0) (Nat.le_of_ble_eq_true rfl) (Nat.le_of_ble_eq_true rfl) ?_
        have zim1 : ((-1) : Int32).toInt = -1 := by decide
        exact W.iret (v := (-1)) hx hb hr (fun t ht hW => ⟨⟨((-1), (I 34), (I 35), (I 36), (I 39), (J 37), (J 38), (I 29), (J 30), (J 31), (F 1), (F 28), (G 40), (F 41), (G 42), (F 43)), rfl, (hk1), CB.mk ht hP hD⟩, hS.F ht⟩) hS.2.2 dX11_chance_34
    · obtain rfl : u10 = 0 := i_is c15 (by decide)
      have zi0 : (0 : Int32).toInt = 0 := by decide
      refine W.eq (g2 := F0 m 18 ls [.int 0]) rfl ?_
      refine lv_if_eq (tgt := 33) hx hb dX11_chance_18 (by decide) (fun c284 => ?_) (fun c284 => ?_)
      rotate_left
      · exact absurd c284 (by decide)
      refine lv_iconst (v := (-1)) hx hb dX11_chance_33 (by decide) ?_
      refine W.widen (k := 0) (n := 0) (Nat.le_of_ble_eq_true rfl) (Nat.le_of_ble_eq_true rfl) ?_
      have zim1 : ((-1) : Int32).toInt = -1 := by decide
      exact W.iret (v := (-1)) hx hb hr (fun t ht hW => ⟨⟨((-1), (I 34), (I 35), (I 36), (I 39), (J 37), (J 38), (I 29), (J 30), (J 31), (F 1), (F 28), (G 40), (F 41), (G 42), (F 43)), rfl, (hk1), CB.mk ht hP hD⟩, hS.F ht⟩) hS.2.2 dX11_chance_34
  · obtain rfl : u1 = 0 := i_is c6 (by decide)
    have zi0 : (0 : Int32).toInt = 0 := by decide
    refine W.eq (g2 := F0 m 6 ls [.int 0]) rfl ?_
    refine lv_if_eq (tgt := 33) hx hb dX11_chance_6 (by decide) (fun c285 => ?_) (fun c285 => ?_)
    rotate_left
    · exact absurd c285 (by decide)
    refine lv_iconst (v := (-1)) hx hb dX11_chance_33 (by decide) ?_
    refine W.widen (k := 0) (n := 0) (Nat.le_of_ble_eq_true rfl) (Nat.le_of_ble_eq_true rfl) ?_
    have zim1 : ((-1) : Int32).toInt = -1 := by decide
    exact W.iret (v := (-1)) hx hb hr (fun t ht hW => ⟨⟨((-1), (I 34), (I 35), (I 36), (I 39), (J 37), (J 38), (I 29), (J 30), (J 31), (F 1), (F 28), (G 40), (F 41), (G 42), (F 43)), rfl, (hk1), CB.mk ht hP hD⟩, hS.F ht⟩) hS.2.2 dX11_chance_34
set_option maxHeartbeats 4000000 in
set_option maxRecDepth 100000 in
theorem m_line (l : Launch) (D : va_G) (Y : Nat → ClassId) (Z : Nat → Nat) (sz : Nat) (o : Nat) (a : Nat → Nat) (I : Nat → Int32) (J : Nat → Int64) (F : Nat → Nat → Int32) (G : Nat → Nat → Int64) (p1 : Int32) (p2 : Int32) (p3 : Int32) (p4 : Int32) (p5 : Int32) (hk0 : TO (F 0)) (hk1 : LB (F 28)) (hk2 : TX (F 4) (F 9) (F 10) (F 11) (F 12) (F 13)) : Met l yX11_line (.code yX11_line cX11_line 11 (some .int) :: GW) ({ frames := 7, cells := 0, slots := 0, locals := 169 }) (va_Pc [.ref o, .int p1, .int p2, .int p3, .int p4, .int p5] (CP D Y Z (MW Y o a I J F G) sz)) (QG (S := Int32 × Int32 × Int32 × Int32 × Int32 × Int64 × Int64 × Int32 × Int64 × Int64 × (Nat → Int32) × (Nat → Int32) × (Nat → Int64) × (Nat → Int32) × (Nat → Int64) × (Nat → Int32) × (Nat → Int64) × (Nat → Int64)) (fun u => some (.int u.1)) (fun u => LB u.2.2.2.2.2.2.2.2.2.2.2.1) (fun u => CB D (MW Y o a (upd (upd (upd (upd (upd I 29 u.2.2.2.2.2.2.2.1) 34 u.2.1) 35 u.2.2.1) 36 u.2.2.2.1) 39 u.2.2.2.2.1) (vp_updL (vp_updL (vp_updL (vp_updL J 30 u.2.2.2.2.2.2.2.2.1) 31 u.2.2.2.2.2.2.2.2.2.1) 37 u.2.2.2.2.2.1) 38 u.2.2.2.2.2.2.1) (vf_upd (vf_upd (vf_upd (vf_upd F 1 u.2.2.2.2.2.2.2.2.2.2.1) 28 u.2.2.2.2.2.2.2.2.2.2.2.1) 41 u.2.2.2.2.2.2.2.2.2.2.2.2.2.1) 43 u.2.2.2.2.2.2.2.2.2.2.2.2.2.2.2.1) (vf_upd (vf_upd (vf_upd (vf_upd G 40 u.2.2.2.2.2.2.2.2.2.2.2.2.1) 42 u.2.2.2.2.2.2.2.2.2.2.2.2.2.2.1) 44 u.2.2.2.2.2.2.2.2.2.2.2.2.2.2.2.2.1) 45 u.2.2.2.2.2.2.2.2.2.2.2.2.2.2.2.2.2)) (va_A (MW Y o a I J F G) sz)) (va_A (MW Y o a I J F G) sz)) 0 0 (va_A (MW Y o a I J F G) sz) := by
  refine Met.ofW (cc := cX11_line) (maxL := 11) (ret := (some .int)) (by decide) rfl ?_
  intro p e s m args below meth c s₁ B hml hv
  obtain ⟨rfl, hsz, hP, hKN, hD0⟩ := hv
  have hx := B.exec
  have hb := B.bytes
  have hr := B.returns
  have hts := atoms_spec (ws := .code yX11_line cX11_line 11 (some .int) :: GW) B.pre
  have hg : ∀ w ∈ GW, w.before _ s = true := fun w h => hts w (List.mem_cons_of_mem _ h)
  have hown : s.vm.findClass RX11 = some m.cls := findClass_of_methodNamed B.named
  have hlocks := B.notSynchronized
  subst hsz
  have hD := hD0.self (sz := s.heap.size)
  generalize hAe : va_A (MW Y o a I J F G) s.heap.size = A at hD ⊢
  have hA : ∀ q : Nat, s.heap.size ≤ q → A q := fun q h => by rw [← hAe]; exact Or.inr h
  clear hAe hD0 hts B
  have hl := lv_entry ([.ref o, .int p1, .int p2, .int p3, .int p4, .int p5]) (n := 11) (Nat.le_of_ble_eq_true rfl)
  rw [lg_entry_eq]
  generalize (lg_sl ([.ref o, .int p1, .int p2, .int p3, .int p4, .int p5]) ++ List.replicate (11 - (lg_sl ([.ref o, .int p1, .int p2, .int p3, .int p4, .int p5])).length) Slot.unset).toArray = ls at hl ⊢
  have hl : lv_has ls 11 [(0, .ref o), (1, .int p1), (2, .int p2), (3, .int p3), (4, .int p4), (5, .int p5)] := hl
  refine w_start (A0 := A) hP (fun H locs hP hS => ?_)
  refine lv_aload_n hx hb dX11_line_0 rfl (lv_at hl 0 rfl) ?_
  refine lv_iconst (v := 1) hx hb dX11_line_1 (by decide) ?_
  refine lv_iload_n hx hb dX11_line_2 rfl (lv_at hl 1 rfl) ?_
  have zi1 : (1 : Int32).toInt = 1 := by decide
  refine cga (rn_V (As := [.int 1, .int p1]) (rest := []) (b := o) (m_isText1 l D Y Z H.size o a I J F G  p1 hk2) ⟨hx, hb, hml, hown, hg⟩ lk_X11_366 ⟨CP.blind, va_recv hKN.1 hP (ci := 11) (q0 := 0) rfl rfl, CP.at hP hKN hD⟩ ⟨⟨rfl, rfl⟩, ⟨Nat.le_of_ble_eq_true rfl, Nat.le_of_ble_eq_true rfl⟩, ⟨Nat.le_of_ble_eq_true rfl, Nat.le_of_ble_eq_true rfl⟩⟩ hl.1 rfl (Nat.le_of_ble_eq_true rfl) dX11_line_3) hP hD hS hA (fun u1 H locs w2 hP hD hS => ?_)
  have w2 : ((0 ≤ p1.toInt ∧ p1.toInt ≤ 5 ∧ p1.toInt < ((F 4) 1).toInt ∧ u1.toInt = 1) ∨ u1.toInt = 0) ∧ (0 ≤ u1.toInt ∧ u1.toInt ≤ 1) := w2
  obtain ⟨hw4, hw5⟩ := w2
  refine W.eq (g2 := F0 m 6 ls [.int u1]) rfl ?_
  have hP : va_P D vwCl (MW Y o a I J F G) H := hP
  have hD : va_D A (MW Y o a I J F G) := hD
  rcases (show u1.toInt = 1 ∨ u1.toInt = 0 by omega) with c6 | c6
  · obtain rfl : u1 = 1 := i_is c6 (by decide)
    refine W.eq (g2 := F0 m 6 ls [.int 1]) rfl ?_
    refine lv_if_eq (tgt := 57) hx hb dX11_line_6 (by decide) (fun c7 => ?_) (fun c7 => ?_)
    · exact absurd c7 (by decide)
    refine lv_iload_n hx hb dX11_line_9 rfl (lv_at hl 2 rfl) ?_
    have j8 := rgI p2
    have j9 := Int32.toInt_toInt64 p2
    refine lv_i2l (v := p2.toInt64) hx hb dX11_line_10 (rfl) ?_
    refine lv_lconst (v := 1) hx hb dX11_line_11 (by decide) ?_
    refine lv_ldc2 (v := 99999) hx hb hown (hg _ kw_1772) dX11_line_12 ?_
    have zl1 : (1 : Int64).toInt = 1 := by decide
    have zl99999 : (99999 : Int64).toInt = 99999 := by decide
    refine cg0 (rn_S (As := [.long p2.toInt64, .long 1, .long 99999]) (rest := []) (m_in l D Y Z H.size   p2.toInt64 1 99999 ) ⟨hx, hb, hml, hown, hg⟩ lk_X11_99 ⟨CP.blind, CP.at nilP hKN (nilD (A := fun _ => True))⟩ ⟨⟨rfl, rfl⟩, ⟨Nat.le_of_ble_eq_true rfl, Nat.le_of_ble_eq_true rfl⟩, ⟨Nat.le_of_ble_eq_true rfl, Nat.le_of_ble_eq_true rfl⟩⟩ hl.1 rfl (Nat.le_of_ble_eq_true rfl) dX11_line_15) hP hS hA (fun u10 H locs w11 hP hS => ?_)
    have w11 : (((1 : Int64).toInt ≤ p2.toInt64.toInt ∧ p2.toInt64.toInt ≤ (99999 : Int64).toInt ∧ u10.toInt = 1) ∨ (¬ ((1 : Int64).toInt ≤ p2.toInt64.toInt ∧ p2.toInt64.toInt ≤ (99999 : Int64).toInt) ∧ u10.toInt = 0)) ∧ (0 ≤ u10.toInt ∧ u10.toInt ≤ 1) := w11
    obtain ⟨hw13, hw14⟩ := w11
    refine W.eq (g2 := F0 m 18 ls [.int u10]) rfl ?_
    rcases (show u10.toInt = 1 ∨ u10.toInt = 0 by omega) with c15 | c15
    · obtain rfl : u10 = 1 := i_is c15 (by decide)
      refine W.eq (g2 := F0 m 18 ls [.int 1]) rfl ?_
      refine lv_if_eq (tgt := 57) hx hb dX11_line_18 (by decide) (fun c16 => ?_) (fun c16 => ?_)
      · exact absurd c16 (by decide)
      refine lv_iload_n hx hb dX11_line_21 rfl (lv_at hl 3 rfl) ?_
      have j17 := rgI p3
      have j18 := Int32.toInt_toInt64 p3
      refine lv_i2l (v := p3.toInt64) hx hb dX11_line_22 (rfl) ?_
      refine lv_lconst (v := 0) hx hb dX11_line_23 (by decide) ?_
      refine lv_ldc2 (v := 999) hx hb hown (hg _ kw_1361) dX11_line_24 ?_
      have zl0 : (0 : Int64).toInt = 0 := by decide
      have zl999 : (999 : Int64).toInt = 999 := by decide
      refine cg0 (rn_S (As := [.long p3.toInt64, .long 0, .long 999]) (rest := []) (m_in l D Y Z H.size   p3.toInt64 0 999 ) ⟨hx, hb, hml, hown, hg⟩ lk_X11_99 ⟨CP.blind, CP.at nilP hKN (nilD (A := fun _ => True))⟩ ⟨⟨rfl, rfl⟩, ⟨Nat.le_of_ble_eq_true rfl, Nat.le_of_ble_eq_true rfl⟩, ⟨Nat.le_of_ble_eq_true rfl, Nat.le_of_ble_eq_true rfl⟩⟩ hl.1 rfl (Nat.le_of_ble_eq_true rfl) dX11_line_27) hP hS hA (fun u19 H locs w20 hP hS => ?_)
      have w20 : (((0 : Int64).toInt ≤ p3.toInt64.toInt ∧ p3.toInt64.toInt ≤ (999 : Int64).toInt ∧ u19.toInt = 1) ∨ (¬ ((0 : Int64).toInt ≤ p3.toInt64.toInt ∧ p3.toInt64.toInt ≤ (999 : Int64).toInt) ∧ u19.toInt = 0)) ∧ (0 ≤ u19.toInt ∧ u19.toInt ≤ 1) := w20
      obtain ⟨hw22, hw23⟩ := w20
      refine W.eq (g2 := F0 m 30 ls [.int u19]) rfl ?_
      rcases (show u19.toInt = 1 ∨ u19.toInt = 0 by omega) with c24 | c24
      · obtain rfl : u19 = 1 := i_is c24 (by decide)
        refine W.eq (g2 := F0 m 30 ls [.int 1]) rfl ?_
        refine lv_if_eq (tgt := 57) hx hb dX11_line_30 (by decide) (fun c25 => ?_) (fun c25 => ?_)
        · exact absurd c25 (by decide)
        refine lv_iload hx hb dX11_line_33 (lv_at hl 4 rfl) ?_
        have j26 := rgI p4
        have j27 := Int32.toInt_toInt64 p4
        refine lv_i2l (v := p4.toInt64) hx hb dX11_line_35 (rfl) ?_
        refine lv_lconst (v := 0) hx hb dX11_line_36 (by decide) ?_
        refine lv_ldc2 (v := 999) hx hb hown (hg _ kw_1361) dX11_line_37 ?_
        refine cg0 (rn_S (As := [.long p4.toInt64, .long 0, .long 999]) (rest := []) (m_in l D Y Z H.size   p4.toInt64 0 999 ) ⟨hx, hb, hml, hown, hg⟩ lk_X11_99 ⟨CP.blind, CP.at nilP hKN (nilD (A := fun _ => True))⟩ ⟨⟨rfl, rfl⟩, ⟨Nat.le_of_ble_eq_true rfl, Nat.le_of_ble_eq_true rfl⟩, ⟨Nat.le_of_ble_eq_true rfl, Nat.le_of_ble_eq_true rfl⟩⟩ hl.1 rfl (Nat.le_of_ble_eq_true rfl) dX11_line_40) hP hS hA (fun u28 H locs w29 hP hS => ?_)
        have w29 : (((0 : Int64).toInt ≤ p4.toInt64.toInt ∧ p4.toInt64.toInt ≤ (999 : Int64).toInt ∧ u28.toInt = 1) ∨ (¬ ((0 : Int64).toInt ≤ p4.toInt64.toInt ∧ p4.toInt64.toInt ≤ (999 : Int64).toInt) ∧ u28.toInt = 0)) ∧ (0 ≤ u28.toInt ∧ u28.toInt ≤ 1) := w29
        obtain ⟨hw31, hw32⟩ := w29
        refine W.eq (g2 := F0 m 43 ls [.int u28]) rfl ?_
        rcases (show u28.toInt = 1 ∨ u28.toInt = 0 by omega) with c33 | c33
        · obtain rfl : u28 = 1 := i_is c33 (by decide)
          refine W.eq (g2 := F0 m 43 ls [.int 1]) rfl ?_
          refine lv_if_eq (tgt := 57) hx hb dX11_line_43 (by decide) (fun c34 => ?_) (fun c34 => ?_)
          · exact absurd c34 (by decide)
          refine lv_iload hx hb dX11_line_46 (lv_at hl 5 rfl) ?_
          have j35 := rgI p5
          have j36 := Int32.toInt_toInt64 p5
          refine lv_i2l (v := p5.toInt64) hx hb dX11_line_48 (rfl) ?_
          refine lv_lconst (v := 0) hx hb dX11_line_49 (by decide) ?_
          refine lv_lconst (v := 1) hx hb dX11_line_50 (by decide) ?_
          refine cg0 (rn_S (As := [.long p5.toInt64, .long 0, .long 1]) (rest := []) (m_in l D Y Z H.size   p5.toInt64 0 1 ) ⟨hx, hb, hml, hown, hg⟩ lk_X11_99 ⟨CP.blind, CP.at nilP hKN (nilD (A := fun _ => True))⟩ ⟨⟨rfl, rfl⟩, ⟨Nat.le_of_ble_eq_true rfl, Nat.le_of_ble_eq_true rfl⟩, ⟨Nat.le_of_ble_eq_true rfl, Nat.le_of_ble_eq_true rfl⟩⟩ hl.1 rfl (Nat.le_of_ble_eq_true rfl) dX11_line_51) hP hS hA (fun u37 H locs w38 hP hS => ?_)
          have w38 : (((0 : Int64).toInt ≤ p5.toInt64.toInt ∧ p5.toInt64.toInt ≤ (1 : Int64).toInt ∧ u37.toInt = 1) ∨ (¬ ((0 : Int64).toInt ≤ p5.toInt64.toInt ∧ p5.toInt64.toInt ≤ (1 : Int64).toInt) ∧ u37.toInt = 0)) ∧ (0 ≤ u37.toInt ∧ u37.toInt ≤ 1) := w38
          obtain ⟨hw40, hw41⟩ := w38
          refine W.eq (g2 := F0 m 54 ls [.int u37]) rfl ?_
          rcases (show u37.toInt = 1 ∨ u37.toInt = 0 by omega) with c42 | c42
          · obtain rfl : u37 = 1 := i_is c42 (by decide)
            refine W.eq (g2 := F0 m 54 ls [.int 1]) rfl ?_
            refine lv_if_ne (tgt := 59) hx hb dX11_line_54 (by decide) (fun c43 => ?_) (fun c43 => ?_)
            rotate_left
            · exact absurd c43 (by decide)
            refine lv_iconst (v := 0) hx hb dX11_line_59 (by decide) ?_
            refine lv_istore (lv' := [(6, .int 0), (0, .ref o), (1, .int p1), (2, .int p2), (3, .int p3), (4, .int p4), (5, .int p5)]) hx hb dX11_line_60 hl (by decide) rfl (fun ls hl => ?_)
            have zi0 : (0 : Int32).toInt = 0 := by decide
            refine w_loop (σ := Int32 × Int32 × Int64 × Int64 × Int32 × Int32 × Int32 × Int64 × Int64 × Int32 × (Nat → Int32) × (Nat → Int64) × (Nat → Int32) × (Nat → Int64) × (Nat → Int32) × (Nat → Int64)) (fun xx H locs ls => match xx with | (g217, g218, g219, g220, g221, g222, g223, g224, g225, g226, f227, f228, f229, f230, f231, f232) => va_P D vwCl (MW Y o a (upd (upd (upd (upd (upd I 29 g218) 34 g221) 35 g222) 36 g223) 39 g226) (vp_updL (vp_updL (vp_updL (vp_updL J 30 g219) 31 g220) 37 g224) 38 g225) (vf_upd (vf_upd (vf_upd F 28 f227) 41 f229) 43 f231) (vf_upd (vf_upd (vf_upd G 40 f228) 42 f230) 44 f232)) H ∧ va_D A (MW Y o a (upd (upd (upd (upd (upd I 29 g218) 34 g221) 35 g222) 36 g223) 39 g226) (vp_updL (vp_updL (vp_updL (vp_updL J 30 g219) 31 g220) 37 g224) 38 g225) (vf_upd (vf_upd (vf_upd F 28 f227) 41 f229) 43 f231) (vf_upd (vf_upd (vf_upd G 40 f228) 42 f230) 44 f232)) ∧ va_S A s.heap H locs ∧ lv_has ls 11 [(6, .int g217), (0, .ref o), (1, .int p1), (2, .int p2), (3, .int p3), (4, .int p4), (5, .int p5)] ∧ (0 ≤ g217.toInt ∧ g217.toInt ≤ 40) ∧ LB f227) (fun xx => match xx with | (g217, g218, g219, g220, g221, g222, g223, g224, g225, g226, f227, f228, f229, f230, f231, f232) => (40 - g217.toInt).toNat) (0, (I 29), (J 30), (J 31), (I 34), (I 35), (I 36), (J 37), (J 38), (I 39), (F 28), (G 40), (F 41), (G 42), (F 43), (G 44)) ⟨hP, hD, hS, lv_sub hl [0, 1, 2, 3, 4, 5, 6] rfl, by omega, hk1⟩ (fun xx H locs ls hI ih => ?_)
            obtain ⟨g217, g218, g219, g220, g221, g222, g223, g224, g225, g226, f227, f228, f229, f230, f231, f232⟩ := xx
            obtain ⟨hP, hD, hS, hl, hq410, hp411⟩ := hI
            have ih412 := ih
            refine lv_iload hx hb dX11_line_62 (lv_at hl 0 rfl) ?_
            refine lv_aload_n hx hb dX11_line_64 rfl (lv_at hl 1 rfl) ?_
            refine va_get (D := D) (ci := 11) (v := .ref (a 0)) (C := RX11) (T := TX11) (N := 49) hx hb hg inGX11 hown hKN.1 hP 0 rfl rfl 0 (by decide) (hg _ kw_1208) (fun _ h9 => h9) rfl dX11_line_65 ?_
            refine lv_iconst (v := 1) hx hb dX11_line_68 (by decide) ?_
            refine va_iald hx hb hKN.1 hP 1 0 rfl rfl (show ¬ ((1 : Int32) < 0 ∨ 7533 ≤ (1 : Int32).toNatClampNeg) by decide) dX11_line_69 ?_
            refine lv_topi (fun v413 ev413 => ?_)
            have ev413 : v413 = (F 0) 1 := ev413
            have kv413 := TO_1 hk0
            rw [← ev413] at kv413
            have qv413 := congrArg Int32.toInt ev413
            refine lv_icmp_ge (tgt := 115) hx hb dX11_line_70 (by decide) (fun c502 => ?_) (fun c502 => ?_)
            · skip
              have c502 := i_le (Eq.refl v413.toInt) (Eq.refl g217.toInt) c502
              refine lv_iconst (v := 0) hx hb dX11_line_115 (by decide) ?_
              refine lv_istore (lv' := [(6, .int 0), (0, .ref o), (1, .int p1), (2, .int p2), (3, .int p3), (4, .int p4), (5, .int p5)]) hx hb dX11_line_116 hl (by decide) rfl (fun ls hl => ?_)
              have zi0 : (0 : Int32).toInt = 0 := by decide
              refine w_loop (σ := Int32 × Int32 × Int64 × Int64 × Int32 × Int32 × Int32 × Int64 × Int64 × Int32 × (Nat → Int32) × (Nat → Int32) × (Nat → Int64) × (Nat → Int32) × (Nat → Int64) × (Nat → Int32) × (Nat → Int64)) (fun xx H locs ls => match xx with | (g568, g569, g570, g571, g572, g573, g574, g575, g576, g577, f578, f579, f580, f581, f582, f583, f584) => va_P D vwCl (MW Y o a (upd (upd (upd (upd (upd I 29 g569) 34 g572) 35 g573) 36 g574) 39 g577) (vp_updL (vp_updL (vp_updL (vp_updL J 30 g570) 31 g571) 37 g575) 38 g576) (vf_upd (vf_upd (vf_upd (vf_upd F 1 f578) 28 f579) 41 f581) 43 f583) (vf_upd (vf_upd (vf_upd (vf_upd G 40 f580) 42 f582) 44 f232) 45 f584)) H ∧ va_D A (MW Y o a (upd (upd (upd (upd (upd I 29 g569) 34 g572) 35 g573) 36 g574) 39 g577) (vp_updL (vp_updL (vp_updL (vp_updL J 30 g570) 31 g571) 37 g575) 38 g576) (vf_upd (vf_upd (vf_upd (vf_upd F 1 f578) 28 f579) 41 f581) 43 f583) (vf_upd (vf_upd (vf_upd (vf_upd G 40 f580) 42 f582) 44 f232) 45 f584)) ∧ va_S A s.heap H locs ∧ lv_has ls 11 [(6, .int g568), (0, .ref o), (1, .int p1), (2, .int p2), (3, .int p3), (4, .int p4), (5, .int p5)] ∧ (0 ≤ g568.toInt ∧ g568.toInt ≤ 12) ∧ LB f579) (fun xx => match xx with | (g568, g569, g570, g571, g572, g573, g574, g575, g576, g577, f578, f579, f580, f581, f582, f583, f584) => (12 - g568.toInt).toNat) (0, g218, g219, g220, g221, g222, g223, g224, g225, g226, (F 1), f227, f228, f229, f230, f231, (G 45)) ⟨hP, hD, hS, lv_sub hl [0, 1, 2, 3, 4, 5, 6] rfl, by omega, hp411⟩ (fun xx H locs ls hI ih => ?_)
              obtain ⟨g568, g569, g570, g571, g572, g573, g574, g575, g576, g577, f578, f579, f580, f581, f582, f583, f584⟩ := xx
              obtain ⟨hP, hD, hS, hl, hq654, hp655⟩ := hI
              have ih656 := ih
              refine lv_iload hx hb dX11_line_118 (lv_at hl 0 rfl) ?_
              refine lv_aload_n hx hb dX11_line_120 rfl (lv_at hl 1 rfl) ?_
              refine va_get (D := D) (ci := 11) (v := .ref (a 0)) (C := RX11) (T := TX11) (N := 49) hx hb hg inGX11 hown hKN.1 hP 0 rfl rfl 0 (by decide) (hg _ kw_1208) (fun _ h9 => h9) rfl dX11_line_121 ?_
              refine lv_iconst (v := 0) hx hb dX11_line_124 (by decide) ?_
              refine va_iald hx hb hKN.1 hP 1 0 rfl rfl (show ¬ ((0 : Int32) < 0 ∨ 7533 ≤ (0 : Int32).toNatClampNeg) by decide) dX11_line_125 ?_
              refine lv_topi (fun v657 ev657 => ?_)
              have ev657 : v657 = (F 0) 0 := ev657
              have kv657 := TO_0 hk0
              rw [← ev657] at kv657
              have qv657 := congrArg Int32.toInt ev657
              refine lv_icmp_ge (tgt := 163) hx hb dX11_line_126 (by decide) (fun c692 => ?_) (fun c692 => ?_)
              · skip
                have c692 := i_le (Eq.refl v657.toInt) (Eq.refl g568.toInt) c692
                refine lv_iconst (v := (-1)) hx hb dX11_line_163 (by decide) ?_
                refine lv_istore (lv' := [(6, .int (-1)), (0, .ref o), (1, .int p1), (2, .int p2), (3, .int p3), (4, .int p4), (5, .int p5)]) hx hb dX11_line_164 hl (by decide) rfl (fun ls hl => ?_)
                refine lv_iconst (v := 0) hx hb dX11_line_166 (by decide) ?_
                refine lv_istore (lv' := [(7, .int 0), (6, .int (-1)), (0, .ref o), (1, .int p1), (2, .int p2), (3, .int p3), (4, .int p4), (5, .int p5)]) hx hb dX11_line_167 hl (by decide) rfl (fun ls hl => ?_)
                refine lv_iconst (v := 0) hx hb dX11_line_169 (by decide) ?_
                refine lv_istore (lv' := [(8, .int 0), (7, .int 0), (6, .int (-1)), (0, .ref o), (1, .int p1), (2, .int p2), (3, .int p3), (4, .int p4), (5, .int p5)]) hx hb dX11_line_170 hl (by decide) rfl (fun ls hl => ?_)
                have zi0 : (0 : Int32).toInt = 0 := by decide
                have zim1 : ((-1) : Int32).toInt = -1 := by decide
                refine w_loop (σ := Int32 × Int32 × Int32) (fun xx H locs ls => match xx with | (g1195, g1196, g1197) => va_P D vwCl (MW Y o a (upd (upd (upd (upd (upd I 29 g569) 34 g572) 35 g573) 36 g574) 39 g577) (vp_updL (vp_updL (vp_updL (vp_updL J 30 g570) 31 g571) 37 g575) 38 g576) (vf_upd (vf_upd (vf_upd (vf_upd F 1 f578) 28 f579) 41 f581) 43 f583) (vf_upd (vf_upd (vf_upd (vf_upd G 40 f580) 42 f582) 44 f232) 45 f584)) H ∧ va_D A (MW Y o a (upd (upd (upd (upd (upd I 29 g569) 34 g572) 35 g573) 36 g574) 39 g577) (vp_updL (vp_updL (vp_updL (vp_updL J 30 g570) 31 g571) 37 g575) 38 g576) (vf_upd (vf_upd (vf_upd (vf_upd F 1 f578) 28 f579) 41 f581) 43 f583) (vf_upd (vf_upd (vf_upd (vf_upd G 40 f580) 42 f582) 44 f232) 45 f584)) ∧ va_S A s.heap H locs ∧ lv_has ls 11 [(8, .int g1195), (7, .int g1196), (6, .int g1197), (0, .ref o), (1, .int p1), (2, .int p2), (3, .int p3), (4, .int p4), (5, .int p5)] ∧ (0 ≤ g1195.toInt ∧ g1195.toInt ≤ 21)) (fun xx => match xx with | (g1195, g1196, g1197) => (21 - g1195.toInt).toNat) (0, 0, (-1)) ⟨hP, hD, hS, lv_sub hl [0, 1, 2, 3, 4, 5, 6, 7, 8] rfl, by omega⟩ (fun xx H locs ls hI ih => ?_)
                obtain ⟨g1195, g1196, g1197⟩ := xx
                obtain ⟨hP, hD, hS, hl, hq1778⟩ := hI
                have ih1779 := ih
                refine lv_iload hx hb dX11_line_172 (lv_at hl 0 rfl) ?_
                refine lv_bipush (v := 20) hx hb dX11_line_174 (by decide) ?_
                refine lv_icmp_gt (tgt := 329) hx hb dX11_line_176 (by decide) (fun c2070 => ?_) (fun c2070 => ?_)
                · skip
                  have c2070 := i_lt (show (20 : Int32).toInt = 20 by decide) (Eq.refl g1195.toInt) c2070
                  refine lv_iload hx hb dX11_line_329 (lv_at hl 8 rfl) ?_
                  refine lv_if_ne (tgt := 339) hx hb dX11_line_331 (by decide) (fun c2072 => ?_) (fun c2072 => ?_)
                  · skip
                    have c2072 := i_ne (Eq.refl p5.toInt) (show (0 : Int32).toInt = 0 by decide) c2072
                    refine lv_iload hx hb dX11_line_339 (lv_at hl 1 rfl) ?_
                    refine W.widen (k := 0) (n := 0) (Nat.le_of_ble_eq_true rfl) (Nat.le_of_ble_eq_true rfl) ?_
                    exact W.iret (v := g1196) hx hb hr (fun t ht hW => ⟨⟨(g1196, g572, g573, g574, g577, g575, g576, g569, g570, g571, f578, f579, f580, f581, f582, f583, f232, f584), rfl, (hp655), CB.mk ht hP hD⟩, hS.F ht⟩) hS.2.2 dX11_line_341
                  · skip
                    have c2072 := i_eq (Eq.refl p5.toInt) (show (0 : Int32).toInt = 0 by decide) c2072
                    refine lv_iload hx hb dX11_line_334 (lv_at hl 2 rfl) ?_
                    refine lv_goto (tgt := 341) hx hb dX11_line_336 (by decide) ?_
                    refine W.widen (k := 0) (n := 0) (Nat.le_of_ble_eq_true rfl) (Nat.le_of_ble_eq_true rfl) ?_
                    exact W.iret (v := g1197) hx hb hr (fun t ht hW => ⟨⟨(g1197, g572, g573, g574, g577, g575, g576, g569, g570, g571, f578, f579, f580, f581, f582, f583, f232, f584), rfl, (hp655), CB.mk ht hP hD⟩, hS.F ht⟩) hS.2.2 dX11_line_341
                · skip
                  have c2070 := i_nlt (show (20 : Int32).toInt = 20 by decide) (Eq.refl g1195.toInt) c2070
                  refine lv_iconst (v := 0) hx hb dX11_line_179 (by decide) ?_
                  refine lv_istore (lv' := [(9, .int 0), (8, .int g1195), (7, .int g1196), (6, .int g1197), (0, .ref o), (1, .int p1), (2, .int p2), (3, .int p3), (4, .int p4), (5, .int p5)]) hx hb dX11_line_180 hl (by decide) rfl (fun ls hl => ?_)
                  refine lv_iconst (v := 0) hx hb dX11_line_182 (by decide) ?_
                  refine lv_istore (lv' := [(10, .int 0), (9, .int 0), (8, .int g1195), (7, .int g1196), (6, .int g1197), (0, .ref o), (1, .int p1), (2, .int p2), (3, .int p3), (4, .int p4), (5, .int p5)]) hx hb dX11_line_183 hl (by decide) rfl (fun ls hl => ?_)
                  have zi0 : (0 : Int32).toInt = 0 := by decide
                  refine w_loop (σ := Int32 × Int32) (fun xx H locs ls => match xx with | (g2122, g2123) => va_P D vwCl (MW Y o a (upd (upd (upd (upd (upd I 29 g569) 34 g572) 35 g573) 36 g574) 39 g577) (vp_updL (vp_updL (vp_updL (vp_updL J 30 g570) 31 g571) 37 g575) 38 g576) (vf_upd (vf_upd (vf_upd (vf_upd F 1 f578) 28 f579) 41 f581) 43 f583) (vf_upd (vf_upd (vf_upd (vf_upd G 40 f580) 42 f582) 44 f232) 45 f584)) H ∧ va_D A (MW Y o a (upd (upd (upd (upd (upd I 29 g569) 34 g572) 35 g573) 36 g574) 39 g577) (vp_updL (vp_updL (vp_updL (vp_updL J 30 g570) 31 g571) 37 g575) 38 g576) (vf_upd (vf_upd (vf_upd (vf_upd F 1 f578) 28 f579) 41 f581) 43 f583) (vf_upd (vf_upd (vf_upd (vf_upd G 40 f580) 42 f582) 44 f232) 45 f584)) ∧ va_S A s.heap H locs ∧ lv_has ls 11 [(10, .int g2122), (9, .int g2123), (8, .int g1195), (7, .int g1196), (6, .int g1197), (0, .ref o), (1, .int p1), (2, .int p2), (3, .int p3), (4, .int p4), (5, .int p5)] ∧ (0 ≤ g2122.toInt ∧ g2122.toInt ≤ 40)) (fun xx => match xx with | (g2122, g2123) => (40 - g2122.toInt).toNat) (0, 0) ⟨hP, hD, hS, lv_sub hl [0, 1, 2, 3, 4, 5, 6, 7, 8, 9, 10] rfl, by omega⟩ (fun xx H locs ls hI ih => ?_)
                  obtain ⟨g2122, g2123⟩ := xx
                  obtain ⟨hP, hD, hS, hl, hq2179⟩ := hI
                  have ih2180 := ih
                  refine lv_iload hx hb dX11_line_185 (lv_at hl 0 rfl) ?_
                  refine lv_aload_n hx hb dX11_line_187 rfl (lv_at hl 5 rfl) ?_
                  refine va_get (D := D) (ci := 11) (v := .ref (a 0)) (C := RX11) (T := TX11) (N := 49) hx hb hg inGX11 hown hKN.1 hP 0 rfl rfl 0 (by decide) (hg _ kw_1208) (fun _ h9 => h9) rfl dX11_line_188 ?_
                  refine lv_iconst (v := 1) hx hb dX11_line_191 (by decide) ?_
                  refine va_iald hx hb hKN.1 hP 1 0 rfl rfl (show ¬ ((1 : Int32) < 0 ∨ 7533 ≤ (1 : Int32).toNatClampNeg) by decide) dX11_line_192 ?_
                  refine lv_topi (fun v2181 ev2181 => ?_)
                  have ev2181 : v2181 = (F 0) 1 := ev2181
                  have kv2181 := TO_1 hk0
                  rw [← ev2181] at kv2181
                  have qv2181 := congrArg Int32.toInt ev2181
                  refine lv_icmp_ge (tgt := 238) hx hb dX11_line_193 (by decide) (fun c2209 => ?_) (fun c2209 => ?_)
                  · skip
                    have c2209 := i_le (Eq.refl v2181.toInt) (Eq.refl g2122.toInt) c2209
                    refine lv_iconst (v := 0) hx hb dX11_line_238 (by decide) ?_
                    refine lv_istore (lv' := [(10, .int 0), (9, .int g2123), (8, .int g1195), (7, .int g1196), (6, .int g1197), (0, .ref o), (1, .int p1), (2, .int p2), (3, .int p3), (4, .int p4), (5, .int p5)]) hx hb dX11_line_239 hl (by decide) rfl (fun ls hl => ?_)
                    have zi0 : (0 : Int32).toInt = 0 := by decide
                    refine w_loop (σ := Int32 × Int32) (fun xx H locs ls => match xx with | (g2243, g2244) => va_P D vwCl (MW Y o a (upd (upd (upd (upd (upd I 29 g569) 34 g572) 35 g573) 36 g574) 39 g577) (vp_updL (vp_updL (vp_updL (vp_updL J 30 g570) 31 g571) 37 g575) 38 g576) (vf_upd (vf_upd (vf_upd (vf_upd F 1 f578) 28 f579) 41 f581) 43 f583) (vf_upd (vf_upd (vf_upd (vf_upd G 40 f580) 42 f582) 44 f232) 45 f584)) H ∧ va_D A (MW Y o a (upd (upd (upd (upd (upd I 29 g569) 34 g572) 35 g573) 36 g574) 39 g577) (vp_updL (vp_updL (vp_updL (vp_updL J 30 g570) 31 g571) 37 g575) 38 g576) (vf_upd (vf_upd (vf_upd (vf_upd F 1 f578) 28 f579) 41 f581) 43 f583) (vf_upd (vf_upd (vf_upd (vf_upd G 40 f580) 42 f582) 44 f232) 45 f584)) ∧ va_S A s.heap H locs ∧ lv_has ls 11 [(10, .int g2243), (9, .int g2244), (8, .int g1195), (7, .int g1196), (6, .int g1197), (0, .ref o), (1, .int p1), (2, .int p2), (3, .int p3), (4, .int p4), (5, .int p5)] ∧ (0 ≤ g2243.toInt ∧ g2243.toInt ≤ 12)) (fun xx => match xx with | (g2243, g2244) => (12 - g2243.toInt).toNat) (0, g2123) ⟨hP, hD, hS, lv_sub hl [0, 1, 2, 3, 4, 5, 6, 7, 8, 9, 10] rfl, by omega⟩ (fun xx H locs ls hI ih => ?_)
                    obtain ⟨g2243, g2244⟩ := xx
                    obtain ⟨hP, hD, hS, hl, hq2280⟩ := hI
                    have ih2281 := ih
                    refine lv_iload hx hb dX11_line_241 (lv_at hl 0 rfl) ?_
                    refine lv_aload_n hx hb dX11_line_243 rfl (lv_at hl 5 rfl) ?_
                    refine va_get (D := D) (ci := 11) (v := .ref (a 0)) (C := RX11) (T := TX11) (N := 49) hx hb hg inGX11 hown hKN.1 hP 0 rfl rfl 0 (by decide) (hg _ kw_1208) (fun _ h9 => h9) rfl dX11_line_244 ?_
                    refine lv_iconst (v := 0) hx hb dX11_line_247 (by decide) ?_
                    refine va_iald hx hb hKN.1 hP 1 0 rfl rfl (show ¬ ((0 : Int32) < 0 ∨ 7533 ≤ (0 : Int32).toNatClampNeg) by decide) dX11_line_248 ?_
                    refine lv_topi (fun v2282 ev2282 => ?_)
                    have ev2282 : v2282 = (F 0) 0 := ev2282
                    have kv2282 := TO_0 hk0
                    rw [← ev2282] at kv2282
                    have qv2282 := congrArg Int32.toInt ev2282
                    refine lv_icmp_ge (tgt := 298) hx hb dX11_line_249 (by decide) (fun c2300 => ?_) (fun c2300 => ?_)
                    · skip
                      have c2300 := i_le (Eq.refl v2282.toInt) (Eq.refl g2243.toInt) c2300
                      refine lv_iload hx hb dX11_line_298 (lv_at hl 4 rfl) ?_
                      refine w_join (σ := Int32 × Int32) (pcJ := 323) (kJ := 0) (nJ := 0) (stk := fun xx => match xx with | (g2308, g2309) => []) (fun xx H locs ls => match xx with | (g2308, g2309) => va_P D vwCl (MW Y o a (upd (upd (upd (upd (upd I 29 g569) 34 g572) 35 g573) 36 g574) 39 g577) (vp_updL (vp_updL (vp_updL (vp_updL J 30 g570) 31 g571) 37 g575) 38 g576) (vf_upd (vf_upd (vf_upd (vf_upd F 1 f578) 28 f579) 41 f581) 43 f583) (vf_upd (vf_upd (vf_upd (vf_upd G 40 f580) 42 f582) 44 f232) 45 f584)) H ∧ va_D A (MW Y o a (upd (upd (upd (upd (upd I 29 g569) 34 g572) 35 g573) 36 g574) 39 g577) (vp_updL (vp_updL (vp_updL (vp_updL J 30 g570) 31 g571) 37 g575) 38 g576) (vf_upd (vf_upd (vf_upd (vf_upd F 1 f578) 28 f579) 41 f581) 43 f583) (vf_upd (vf_upd (vf_upd (vf_upd G 40 f580) 42 f582) 44 f232) 45 f584)) ∧ va_S A s.heap H locs ∧ lv_has ls 11 [(7, .int g2308), (6, .int g2309), (10, .int g2243), (9, .int g2244), (8, .int g1195), (0, .ref o), (1, .int p1), (2, .int p2), (3, .int p3), (4, .int p4), (5, .int p5)] ∧ (0 ≤ g2309.toInt)) (fun xx H locs ls hI => ?_) (fun jn2310 => ?_)
                      · skip
                        obtain ⟨g2308, g2309⟩ := xx
                        obtain ⟨hP, hD, hS, hl, hq2311⟩ := hI
                        refine W.eq (g2 := F0 m 323 ls []) rfl ?_
                        obtain ⟨v2312, ev2312⟩ : ∃ y : Int32, y = g1195 + 1 := ⟨_, rfl⟩
                        have hv2312 := i_add (Eq.refl g1195.toInt) (show (1 : Int32).toInt = 1 by decide) ev2312 (by omega) (by omega)
                        refine lv_iinc (v := v2312) (lv' := [(8, .int v2312), (7, .int g2308), (6, .int g2309), (10, .int g2243), (9, .int g2244), (0, .ref o), (1, .int p1), (2, .int p2), (3, .int p3), (4, .int p4), (5, .int p5)]) hx hb dX11_line_323 hl (k := 4) rfl (by rw [ev2312]; rfl) (by decide) rfl (fun ls hl => ?_)
                        refine lv_goto (tgt := 172) hx hb dX11_line_326 (by decide) ?_
                        exact ih1779 (v2312, g2308, g2309) H locs ls (by show (21 - v2312.toInt).toNat < (21 - g1195.toInt).toNat; omega) ⟨hP, hD, hS, lv_sub hl [0, 1, 2, 5, 6, 7, 8, 9, 10] rfl, by omega⟩
                      · skip
                        have j2313 := rgI g1197
                        refine lv_if_lt (tgt := 313) hx hb dX11_line_300 (by decide) (fun c2314 => ?_) (fun c2314 => ?_)
                        · skip
                          have c2314 := i_lt (Eq.refl g1197.toInt) (show (0 : Int32).toInt = 0 by decide) c2314
                          refine lv_iload hx hb dX11_line_313 (lv_at hl 2 rfl) ?_
                          refine lv_iload_n hx hb dX11_line_315 rfl (lv_at hl 7 rfl) ?_
                          refine lv_imul hx hb dX11_line_316 ?_
                          refine lv_topi (fun v2315 ev2315 => ?_)
                          have hv2315 := i_mulR (a := 0) (b := 20) (c := 1) (d := 99999) (lo := 0) (hi := 1999980) (Eq.refl g1195.toInt) (Eq.refl p2.toInt) ev2315 (by omega) (by omega) (by decide) (by decide)
                          refine lv_istore (lv' := [(6, .int v2315), (10, .int g2243), (9, .int g2244), (8, .int g1195), (7, .int g1196), (0, .ref o), (1, .int p1), (2, .int p2), (3, .int p3), (4, .int p4), (5, .int p5)]) hx hb dX11_line_317 hl (by decide) rfl (fun ls hl => ?_)
                          refine lv_iload hx hb dX11_line_319 (lv_at hl 2 rfl) ?_
                          refine lv_istore (lv' := [(7, .int g2244), (6, .int v2315), (10, .int g2243), (9, .int g2244), (8, .int g1195), (0, .ref o), (1, .int p1), (2, .int p2), (3, .int p3), (4, .int p4), (5, .int p5)]) hx hb dX11_line_321 hl (by decide) rfl (fun ls hl => ?_)
                          refine W.widen (k := 0) (n := 0) (Nat.le_of_ble_eq_true rfl) (Nat.le_of_ble_eq_true rfl) ?_
                          exact jn2310 (g2244, v2315) H locs ls ⟨hP, hD, hS, lv_sub hl [0, 1, 2, 3, 4, 5, 6, 7, 8, 9, 10] rfl, by omega⟩
                        · skip
                          have c2314 := i_nlt (Eq.refl g1197.toInt) (show (0 : Int32).toInt = 0 by decide) c2314
                          refine lv_iload hx hb dX11_line_303 (lv_at hl 1 rfl) ?_
                          refine lv_iload hx hb dX11_line_305 (lv_at hl 3 rfl) ?_
                          have j2316 := rgI g2244
                          have j2317 := rgI g1196
                          refine lv_icmp_lt (tgt := 313) hx hb dX11_line_307 (by decide) (fun c2318 => ?_) (fun c2318 => ?_)
                          · skip
                            have c2318 := i_lt (Eq.refl g2244.toInt) (Eq.refl g1196.toInt) c2318
                            refine lv_iload hx hb dX11_line_313 (lv_at hl 2 rfl) ?_
                            refine lv_iload_n hx hb dX11_line_315 rfl (lv_at hl 7 rfl) ?_
                            refine lv_imul hx hb dX11_line_316 ?_
                            refine lv_topi (fun v2319 ev2319 => ?_)
                            have hv2319 := i_mulR (a := 0) (b := 20) (c := 1) (d := 99999) (lo := 0) (hi := 1999980) (Eq.refl g1195.toInt) (Eq.refl p2.toInt) ev2319 (by omega) (by omega) (by decide) (by decide)
                            refine lv_istore (lv' := [(6, .int v2319), (10, .int g2243), (9, .int g2244), (8, .int g1195), (7, .int g1196), (0, .ref o), (1, .int p1), (2, .int p2), (3, .int p3), (4, .int p4), (5, .int p5)]) hx hb dX11_line_317 hl (by decide) rfl (fun ls hl => ?_)
                            refine lv_iload hx hb dX11_line_319 (lv_at hl 2 rfl) ?_
                            refine lv_istore (lv' := [(7, .int g2244), (6, .int v2319), (10, .int g2243), (9, .int g2244), (8, .int g1195), (0, .ref o), (1, .int p1), (2, .int p2), (3, .int p3), (4, .int p4), (5, .int p5)]) hx hb dX11_line_321 hl (by decide) rfl (fun ls hl => ?_)
                            refine W.widen (k := 0) (n := 0) (Nat.le_of_ble_eq_true rfl) (Nat.le_of_ble_eq_true rfl) ?_
                            exact jn2310 (g2244, v2319) H locs ls ⟨hP, hD, hS, lv_sub hl [0, 1, 2, 3, 4, 5, 6, 7, 8, 9, 10] rfl, by omega⟩
                          · skip
                            have c2318 := i_nlt (Eq.refl g2244.toInt) (Eq.refl g1196.toInt) c2318
                            refine lv_goto (tgt := 323) hx hb dX11_line_310 (by decide) ?_
                            refine W.widen (k := 0) (n := 0) (Nat.le_of_ble_eq_true rfl) (Nat.le_of_ble_eq_true rfl) ?_
                            exact jn2310 (g1196, g1197) H locs ls ⟨hP, hD, hS, lv_sub hl [3, 4, 0, 1, 2, 5, 6, 7, 8, 9, 10] rfl, by omega⟩
                    · skip
                      have c2300 := i_nle (Eq.refl v2282.toInt) (Eq.refl g2243.toInt) c2300
                      refine lv_iload hx hb dX11_line_252 (lv_at hl 1 rfl) ?_
                      refine lv_aload_n hx hb dX11_line_254 rfl (lv_at hl 5 rfl) ?_
                      refine va_get (D := D) (ci := 11) (v := .ref (a 45)) (C := RX11) (T := TX11) (N := 49) hx hb hg inGX11 hown hKN.1 hP 0 rfl rfl 45 (by decide) (hg _ kw_1253) (fun _ h9 => h9) rfl dX11_line_255 ?_
                      refine lv_iload hx hb dX11_line_258 (lv_at hl 0 rfl) ?_
                      refine va_lald hx hb hKN.1 hP 25 1 rfl rfl (vp_in_iff.mpr ⟨by omega, by omega⟩) dX11_line_260 ?_
                      refine lv_topl (fun v2320 ev2320 => ?_)
                      have ev2320 : v2320 = f584 g2243.toNatClampNeg := ev2320
                      refine lv_lconst (v := 0) hx hb dX11_line_261 (by decide) ?_
                      refine w_join (σ := Int32) (pcJ := 289) (kJ := 0) (nJ := 0) (stk := fun xx => match xx with | g2326 => [.int g2326, .int g2244]) (fun xx H locs ls => match xx with | g2326 => va_P D vwCl (MW Y o a (upd (upd (upd (upd (upd I 29 g569) 34 g572) 35 g573) 36 g574) 39 g577) (vp_updL (vp_updL (vp_updL (vp_updL J 30 g570) 31 g571) 37 g575) 38 g576) (vf_upd (vf_upd (vf_upd (vf_upd F 1 f578) 28 f579) 41 f581) 43 f583) (vf_upd (vf_upd (vf_upd (vf_upd G 40 f580) 42 f582) 44 f232) 45 f584)) H ∧ va_D A (MW Y o a (upd (upd (upd (upd (upd I 29 g569) 34 g572) 35 g573) 36 g574) 39 g577) (vp_updL (vp_updL (vp_updL (vp_updL J 30 g570) 31 g571) 37 g575) 38 g576) (vf_upd (vf_upd (vf_upd (vf_upd F 1 f578) 28 f579) 41 f581) 43 f583) (vf_upd (vf_upd (vf_upd (vf_upd G 40 f580) 42 f582) 44 f232) 45 f584)) ∧ va_S A s.heap H locs ∧ lv_has ls 11 [(10, .int g2243), (9, .int g2244), (8, .int g1195), (7, .int g1196), (6, .int g1197), (0, .ref o), (1, .int p1), (2, .int p2), (3, .int p3), (4, .int p4), (5, .int p5)] ∧ (0 ≤ g2326.toInt ∧ g2326.toInt ≤ 999)) (fun xx H locs ls hI => ?_) (fun jn2327 => ?_)
                      · skip
                        revert hI
                        generalize xx = g2326
                        intro hI
                        obtain ⟨hP, hD, hS, hl, hq2328⟩ := hI
                        refine W.eq (g2 := F0 m 289 ls [.int g2326, .int g2244]) rfl ?_
                        refine lv_iadd hx hb dX11_line_289 ?_
                        refine lv_topi (fun v2329 ev2329 => ?_)
                        refine lv_istore (lv' := [(9, .int v2329), (10, .int g2243), (8, .int g1195), (7, .int g1196), (6, .int g1197), (0, .ref o), (1, .int p1), (2, .int p2), (3, .int p3), (4, .int p4), (5, .int p5)]) hx hb dX11_line_290 hl (by decide) rfl (fun ls hl => ?_)
                        obtain ⟨v2330, ev2330⟩ : ∃ y : Int32, y = g2243 + 1 := ⟨_, rfl⟩
                        have hv2330 := i_add (Eq.refl g2243.toInt) (show (1 : Int32).toInt = 1 by decide) ev2330 (by omega) (by omega)
                        refine lv_iinc (v := v2330) (lv' := [(10, .int v2330), (9, .int v2329), (8, .int g1195), (7, .int g1196), (6, .int g1197), (0, .ref o), (1, .int p1), (2, .int p2), (3, .int p3), (4, .int p4), (5, .int p5)]) hx hb dX11_line_292 hl (k := 1) rfl (by rw [ev2330]; rfl) (by decide) rfl (fun ls hl => ?_)
                        refine lv_goto (tgt := 241) hx hb dX11_line_295 (by decide) ?_
                        exact ih2281 (v2330, v2329) H locs ls (by show (12 - v2330.toInt).toNat < (12 - g2243.toInt).toNat; omega) ⟨hP, hD, hS, lv_sub hl [0, 1, 2, 3, 4, 5, 6, 7, 8, 9, 10] rfl, by omega⟩
                      · skip
                        refine W.lcmp hx hb dX11_line_262 ?_
                        refine lv_if_lt (tgt := 288) hx hb dX11_line_263 (by decide) (fun c2331 => ?_) (fun c2331 => ?_)
                        · skip
                          have c2331 := l_lt (Eq.refl v2320.toInt) (show (0 : Int64).toInt = 0 by decide) c2331
                          refine lv_iconst (v := 0) hx hb dX11_line_288 (by decide) ?_
                          have zi0 : (0 : Int32).toInt = 0 := by decide
                          refine W.widen (k := 0) (n := 0) (Nat.le_of_ble_eq_true rfl) (Nat.le_of_ble_eq_true rfl) ?_
                          exact jn2327 (0) H locs ls ⟨hP, hD, hS, lv_sub hl [0, 1, 2, 3, 4, 5, 6, 7, 8, 9, 10] rfl, by omega⟩
                        · skip
                          have c2331 := l_nlt (Eq.refl v2320.toInt) (show (0 : Int64).toInt = 0 by decide) c2331
                          refine lv_aload_n hx hb dX11_line_266 rfl (lv_at hl 5 rfl) ?_
                          refine va_get (D := D) (ci := 11) (v := .ref (a 45)) (C := RX11) (T := TX11) (N := 49) hx hb hg inGX11 hown hKN.1 hP 0 rfl rfl 45 (by decide) (hg _ kw_1253) (fun _ h9 => h9) rfl dX11_line_267 ?_
                          refine lv_iload hx hb dX11_line_270 (lv_at hl 0 rfl) ?_
                          refine va_lald hx hb hKN.1 hP 25 1 rfl rfl (vp_in_iff.mpr ⟨by omega, by omega⟩) dX11_line_272 ?_
                          refine lv_topl (fun v2332 ev2332 => ?_)
                          have ev2332 : v2332 = f584 g2243.toNatClampNeg := ev2332
                          refine lv_iload hx hb dX11_line_273 (lv_at hl 2 rfl) ?_
                          have j2333 := Int32.toInt_toInt64 g1195
                          refine lv_i2l (v := g1195.toInt64) hx hb dX11_line_275 (rfl) ?_
                          refine lv_iload_n hx hb dX11_line_276 rfl (lv_at hl 7 rfl) ?_
                          refine lv_i2l (v := p2.toInt64) hx hb dX11_line_277 (rfl) ?_
                          refine lv_lmul hx hb dX11_line_278 ?_
                          refine lv_topl (fun v2334 ev2334 => ?_)
                          have hv2334 := l_mulR (a := 0) (b := 20) (c := 1) (d := 99999) (lo := 0) (hi := 1999980) (Int32.toInt_toInt64 g1195) (Int32.toInt_toInt64 p2) ev2334 (by omega) (by omega) (by decide) (by decide)
                          refine W.lcmp hx hb dX11_line_279 ?_
                          refine lv_if_lt (tgt := 288) hx hb dX11_line_280 (by decide) (fun c2335 => ?_) (fun c2335 => ?_)
                          · skip
                            have c2335 := l_lt (Eq.refl v2332.toInt) (Eq.refl v2334.toInt) c2335
                            refine lv_iconst (v := 0) hx hb dX11_line_288 (by decide) ?_
                            have zi0 : (0 : Int32).toInt = 0 := by decide
                            refine W.widen (k := 0) (n := 0) (Nat.le_of_ble_eq_true rfl) (Nat.le_of_ble_eq_true rfl) ?_
                            exact jn2327 (0) H locs ls ⟨hP, hD, hS, lv_sub hl [0, 1, 2, 3, 4, 5, 6, 7, 8, 9, 10] rfl, by omega⟩
                          · skip
                            have c2335 := l_nlt (Eq.refl v2332.toInt) (Eq.refl v2334.toInt) c2335
                            refine lv_iload hx hb dX11_line_283 (lv_at hl 9 rfl) ?_
                            refine lv_goto (tgt := 289) hx hb dX11_line_285 (by decide) ?_
                            refine W.widen (k := 0) (n := 0) (Nat.le_of_ble_eq_true rfl) (Nat.le_of_ble_eq_true rfl) ?_
                            exact jn2327 (p4) H locs ls ⟨hP, hD, hS, lv_sub hl [0, 1, 2, 3, 4, 5, 6, 7, 8, 9, 10] rfl, by omega⟩
                  · skip
                    have c2209 := i_nle (Eq.refl v2181.toInt) (Eq.refl g2122.toInt) c2209
                    refine lv_iload hx hb dX11_line_196 (lv_at hl 1 rfl) ?_
                    refine lv_aload_n hx hb dX11_line_198 rfl (lv_at hl 5 rfl) ?_
                    refine lv_iload hx hb dX11_line_199 (lv_at hl 0 rfl) ?_
                    refine cga (rn_V (As := [.int g2122]) (rest := [.int g2123]) (b := o) (m_isPut l D Y Z H.size o a (upd (upd (upd (upd (upd I 29 g569) 34 g572) 35 g573) 36 g574) 39 g577) (vp_updL (vp_updL (vp_updL (vp_updL J 30 g570) 31 g571) 37 g575) 38 g576) (vf_upd (vf_upd (vf_upd (vf_upd F 1 f578) 28 f579) 41 f581) 43 f583) (vf_upd (vf_upd (vf_upd (vf_upd G 40 f580) 42 f582) 44 f232) 45 f584)  g2122 hk0) ⟨hx, hb, hml, hown, hg⟩ lk_X11_500 ⟨CP.blind, va_recv hKN.1 hP (ci := 11) (q0 := 0) rfl rfl, CP.at hP hKN hD⟩ ⟨⟨rfl, rfl⟩, ⟨Nat.le_of_ble_eq_true rfl, Nat.le_of_ble_eq_true rfl⟩, ⟨Nat.le_of_ble_eq_true rfl, Nat.le_of_ble_eq_true rfl⟩⟩ hl.1 rfl (Nat.le_of_ble_eq_true rfl) dX11_line_201) hP hD hS hA (fun u2336 H locs w2337 hP hD hS => ?_)
                    have w2337 : ((0 ≤ g2122.toInt ∧ g2122.toInt ≤ 39 ∧ g2122.toInt < ((F 0) 1).toInt ∧ u2336.toInt = 1) ∨ u2336.toInt = 0) ∧ (0 ≤ u2336.toInt ∧ u2336.toInt ≤ 1) := w2337
                    obtain ⟨hw2339, hw2340⟩ := w2337
                    refine W.eq (g2 := F0 m 204 ls [.int u2336, .int g2123]) rfl ?_
                    have hP : va_P D vwCl (MW Y o a (upd (upd (upd (upd (upd I 29 g569) 34 g572) 35 g573) 36 g574) 39 g577) (vp_updL (vp_updL (vp_updL (vp_updL J 30 g570) 31 g571) 37 g575) 38 g576) (vf_upd (vf_upd (vf_upd (vf_upd F 1 f578) 28 f579) 41 f581) 43 f583) (vf_upd (vf_upd (vf_upd (vf_upd G 40 f580) 42 f582) 44 f232) 45 f584)) H := hP
                    have hD : va_D A (MW Y o a (upd (upd (upd (upd (upd I 29 g569) 34 g572) 35 g573) 36 g574) 39 g577) (vp_updL (vp_updL (vp_updL (vp_updL J 30 g570) 31 g571) 37 g575) 38 g576) (vf_upd (vf_upd (vf_upd (vf_upd F 1 f578) 28 f579) 41 f581) 43 f583) (vf_upd (vf_upd (vf_upd (vf_upd G 40 f580) 42 f582) 44 f232) 45 f584)) := hD
                    rcases (show u2336.toInt = 1 ∨ u2336.toInt = 0 by omega) with c2341 | c2341
                    · obtain rfl : u2336 = 1 := i_is c2341 (by decide)
                      refine W.eq (g2 := F0 m 204 ls [.int 1, .int g2123]) rfl ?_
                      refine w_join (σ := Int32) (pcJ := 229) (kJ := 0) (nJ := 0) (stk := fun xx => match xx with | g2347 => [.int g2347, .int g2123]) (fun xx H locs ls => match xx with | g2347 => va_P D vwCl (MW Y o a (upd (upd (upd (upd (upd I 29 g569) 34 g572) 35 g573) 36 g574) 39 g577) (vp_updL (vp_updL (vp_updL (vp_updL J 30 g570) 31 g571) 37 g575) 38 g576) (vf_upd (vf_upd (vf_upd (vf_upd F 1 f578) 28 f579) 41 f581) 43 f583) (vf_upd (vf_upd (vf_upd (vf_upd G 40 f580) 42 f582) 44 f232) 45 f584)) H ∧ va_D A (MW Y o a (upd (upd (upd (upd (upd I 29 g569) 34 g572) 35 g573) 36 g574) 39 g577) (vp_updL (vp_updL (vp_updL (vp_updL J 30 g570) 31 g571) 37 g575) 38 g576) (vf_upd (vf_upd (vf_upd (vf_upd F 1 f578) 28 f579) 41 f581) 43 f583) (vf_upd (vf_upd (vf_upd (vf_upd G 40 f580) 42 f582) 44 f232) 45 f584)) ∧ va_S A s.heap H locs ∧ lv_has ls 11 [(10, .int g2122), (9, .int g2123), (8, .int g1195), (7, .int g1196), (6, .int g1197), (0, .ref o), (1, .int p1), (2, .int p2), (3, .int p3), (4, .int p4), (5, .int p5)] ∧ (0 ≤ g2347.toInt ∧ g2347.toInt ≤ 999)) (fun xx H locs ls hI => ?_) (fun jn2348 => ?_)
                      · skip
                        revert hI
                        generalize xx = g2347
                        intro hI
                        obtain ⟨hP, hD, hS, hl, hq2349⟩ := hI
                        refine W.eq (g2 := F0 m 229 ls [.int g2347, .int g2123]) rfl ?_
                        refine lv_iadd hx hb dX11_line_229 ?_
                        refine lv_topi (fun v2350 ev2350 => ?_)
                        refine lv_istore (lv' := [(9, .int v2350), (10, .int g2122), (8, .int g1195), (7, .int g1196), (6, .int g1197), (0, .ref o), (1, .int p1), (2, .int p2), (3, .int p3), (4, .int p4), (5, .int p5)]) hx hb dX11_line_230 hl (by decide) rfl (fun ls hl => ?_)
                        obtain ⟨v2351, ev2351⟩ : ∃ y : Int32, y = g2122 + 1 := ⟨_, rfl⟩
                        have hv2351 := i_add (Eq.refl g2122.toInt) (show (1 : Int32).toInt = 1 by decide) ev2351 (by omega) (by omega)
                        refine lv_iinc (v := v2351) (lv' := [(10, .int v2351), (9, .int v2350), (8, .int g1195), (7, .int g1196), (6, .int g1197), (0, .ref o), (1, .int p1), (2, .int p2), (3, .int p3), (4, .int p4), (5, .int p5)]) hx hb dX11_line_232 hl (k := 1) rfl (by rw [ev2351]; rfl) (by decide) rfl (fun ls hl => ?_)
                        refine lv_goto (tgt := 185) hx hb dX11_line_235 (by decide) ?_
                        exact ih2180 (v2351, v2350) H locs ls (by show (40 - v2351.toInt).toNat < (40 - g2122.toInt).toNat; omega) ⟨hP, hD, hS, lv_sub hl [0, 1, 2, 3, 4, 5, 6, 7, 8, 9, 10] rfl, by omega⟩
                      · skip
                        refine lv_if_eq (tgt := 228) hx hb dX11_line_204 (by decide) (fun c2352 => ?_) (fun c2352 => ?_)
                        · exact absurd c2352 (by decide)
                        refine lv_aload_n hx hb dX11_line_207 rfl (lv_at hl 5 rfl) ?_
                        refine va_get (D := D) (ci := 11) (v := .ref (a 44)) (C := RX11) (T := TX11) (N := 49) hx hb hg inGX11 hown hKN.1 hP 0 rfl rfl 44 (by decide) (hg _ kw_1252) (fun _ h9 => h9) rfl dX11_line_208 ?_
                        refine lv_iload hx hb dX11_line_211 (lv_at hl 0 rfl) ?_
                        refine va_lald hx hb hKN.1 hP 24 1 rfl rfl (vp_in_iff.mpr ⟨by omega, by omega⟩) dX11_line_213 ?_
                        refine lv_topl (fun v2353 ev2353 => ?_)
                        have ev2353 : v2353 = f232 g2122.toNatClampNeg := ev2353
                        refine lv_iload hx hb dX11_line_214 (lv_at hl 2 rfl) ?_
                        have j2354 := Int32.toInt_toInt64 g1195
                        refine lv_i2l (v := g1195.toInt64) hx hb dX11_line_216 (rfl) ?_
                        refine lv_iload_n hx hb dX11_line_217 rfl (lv_at hl 7 rfl) ?_
                        refine lv_i2l (v := p2.toInt64) hx hb dX11_line_218 (rfl) ?_
                        refine lv_lmul hx hb dX11_line_219 ?_
                        refine lv_topl (fun v2355 ev2355 => ?_)
                        have hv2355 := l_mulR (a := 0) (b := 20) (c := 1) (d := 99999) (lo := 0) (hi := 1999980) (Int32.toInt_toInt64 g1195) (Int32.toInt_toInt64 p2) ev2355 (by omega) (by omega) (by decide) (by decide)
                        refine W.lcmp hx hb dX11_line_220 ?_
                        refine lv_if_ge (tgt := 228) hx hb dX11_line_221 (by decide) (fun c2356 => ?_) (fun c2356 => ?_)
                        · skip
                          have c2356 := l_ge (Eq.refl v2353.toInt) (Eq.refl v2355.toInt) c2356
                          refine lv_iconst (v := 0) hx hb dX11_line_228 (by decide) ?_
                          have zi0 : (0 : Int32).toInt = 0 := by decide
                          refine W.widen (k := 0) (n := 0) (Nat.le_of_ble_eq_true rfl) (Nat.le_of_ble_eq_true rfl) ?_
                          exact jn2348 (0) H locs ls ⟨hP, hD, hS, lv_sub hl [0, 1, 2, 3, 4, 5, 6, 7, 8, 9, 10] rfl, by omega⟩
                        · skip
                          have c2356 := l_nge (Eq.refl v2353.toInt) (Eq.refl v2355.toInt) c2356
                          refine lv_iload_n hx hb dX11_line_224 rfl (lv_at hl 8 rfl) ?_
                          refine lv_goto (tgt := 229) hx hb dX11_line_225 (by decide) ?_
                          refine W.widen (k := 0) (n := 0) (Nat.le_of_ble_eq_true rfl) (Nat.le_of_ble_eq_true rfl) ?_
                          exact jn2348 (p3) H locs ls ⟨hP, hD, hS, lv_sub hl [0, 1, 2, 3, 4, 5, 6, 7, 8, 9, 10] rfl, by omega⟩
                    · obtain rfl : u2336 = 0 := i_is c2341 (by decide)
                      have zi0 : (0 : Int32).toInt = 0 := by decide
                      refine W.eq (g2 := F0 m 204 ls [.int 0, .int g2123]) rfl ?_
                      refine lv_if_eq (tgt := 228) hx hb dX11_line_204 (by decide) (fun c2358 => ?_) (fun c2358 => ?_)
                      rotate_left
                      · exact absurd c2358 (by decide)
                      refine lv_iconst (v := 0) hx hb dX11_line_228 (by decide) ?_
                      refine lv_iadd hx hb dX11_line_229 ?_
                      refine lv_topi (fun v2359 ev2359 => ?_)
                      have j2360 := rgI g2123
                      have hv2359 := i_add (Eq.refl g2123.toInt) (show (0 : Int32).toInt = 0 by decide) ev2359 (by omega) (by omega)
                      refine lv_istore (lv' := [(9, .int v2359), (10, .int g2122), (8, .int g1195), (7, .int g1196), (6, .int g1197), (0, .ref o), (1, .int p1), (2, .int p2), (3, .int p3), (4, .int p4), (5, .int p5)]) hx hb dX11_line_230 hl (by decide) rfl (fun ls hl => ?_)
                      obtain ⟨v2361, ev2361⟩ : ∃ y : Int32, y = g2122 + 1 := ⟨_, rfl⟩
                      have hv2361 := i_add (Eq.refl g2122.toInt) (show (1 : Int32).toInt = 1 by decide) ev2361 (by omega) (by omega)
                      refine lv_iinc (v := v2361) (lv' := [(10, .int v2361), (9, .int v2359), (8, .int g1195), (7, .int g1196), (6, .int g1197), (0, .ref o), (1, .int p1), (2, .int p2), (3, .int p3), (4, .int p4), (5, .int p5)]) hx hb dX11_line_232 hl (k := 1) rfl (by rw [ev2361]; rfl) (by decide) rfl (fun ls hl => ?_)
                      refine lv_goto (tgt := 185) hx hb dX11_line_235 (by decide) ?_
                      exact ih2180 (v2361, v2359) H locs ls (by show (40 - v2361.toInt).toNat < (40 - g2122.toInt).toNat; omega) ⟨hP, hD, hS, lv_sub hl [0, 1, 2, 3, 4, 5, 6, 7, 8, 9, 10] rfl, by omega⟩
              · skip
                have c692 := i_nle (Eq.refl v657.toInt) (Eq.refl g568.toInt) c692
                refine lv_aload_n hx hb dX11_line_129 rfl (lv_at hl 1 rfl) ?_
                refine va_get (D := D) (ci := 11) (v := .ref (a 45)) (C := RX11) (T := TX11) (N := 49) hx hb hg inGX11 hown hKN.1 hP 0 rfl rfl 45 (by decide) (hg _ kw_1253) (fun _ h9 => h9) rfl dX11_line_130 ?_
                refine lv_iload hx hb dX11_line_133 (lv_at hl 0 rfl) ?_
                refine lv_aload_n hx hb dX11_line_135 rfl (lv_at hl 1 rfl) ?_
                refine lv_iload_n hx hb dX11_line_136 rfl (lv_at hl 2 rfl) ?_
                refine lv_iload hx hb dX11_line_137 (lv_at hl 0 rfl) ?_
                refine lv_iconst (v := 1) hx hb dX11_line_139 (by decide) ?_
                refine cga (rn_V (As := [.int p1, .int g568, .int 1]) (rest := [.int g568, .ref (a 45)]) (b := o) (m_finds l D Y Z H.size o a (upd (upd (upd (upd (upd I 29 g569) 34 g572) 35 g573) 36 g574) 39 g577) (vp_updL (vp_updL (vp_updL (vp_updL J 30 g570) 31 g571) 37 g575) 38 g576) (vf_upd (vf_upd (vf_upd (vf_upd F 1 f578) 28 f579) 41 f581) 43 f583) (vf_upd (vf_upd (vf_upd (vf_upd G 40 f580) 42 f582) 44 f232) 45 f584)  p1 g568 1 (show (0 ≤ p1.toInt ∧ p1.toInt ≤ 5) by omega) (show (p1.toInt < ((F 4) 1).toInt) by omega) (show (0 ≤ g568.toInt ∧ g568.toInt ≤ 11) by omega) (show (0 ≤ (1 : Int32).toInt ∧ (1 : Int32).toInt ≤ 5) by omega) hk0 hp655 hk2) ⟨hx, hb, hml, hown, hg⟩ lk_X11_487 ⟨CP.blind, va_recv hKN.1 hP (ci := 11) (q0 := 0) rfl rfl, CP.at hP hKN hD⟩ ⟨⟨rfl, rfl⟩, ⟨Nat.le_of_ble_eq_true rfl, Nat.le_of_ble_eq_true rfl⟩, ⟨Nat.le_of_ble_eq_true rfl, Nat.le_of_ble_eq_true rfl⟩⟩ hl.1 rfl (Nat.le_of_ble_eq_true rfl) dX11_line_140) hP hD hS hA (fun u2362 H locs w2363 hP hD hS => ?_)
                obtain ⟨u2364, u2365, u2366, u2367, u2368, u2369, u2370, u2371, u2372, u2373, f2374, f2375, f2376, f2377, f2378, f2379⟩ := u2362
                have w2363 : ((u2364.toInt = 1 ∧ 1 ≤ u2370.toInt ∧ 2 ≤ u2365.toInt ∧ u2365.toInt ≤ 200 ∧ 1 ≤ u2366.toInt ∧ u2366.toInt ≤ 10 ∧ 0 ≤ u2367.toInt ∧ u2367.toInt < u2365.toInt ∧ -9000000000000 ≤ u2369.toInt ∧ u2369.toInt ≤ 9000000000000 ∧ (cin f2375 (u2365.toInt).toNat (u2366.toInt).toNat (u2367.toInt).toNat 600 : Int) ≠ u2371.toInt) ∨ u2364.toInt = 0) ∧ (0 ≤ u2364.toInt ∧ u2364.toInt ≤ 1) ∧ (0 ≤ u2371.toInt ∧ u2371.toInt ≤ 600) ∧ (-60000000 ≤ u2372.toInt ∧ u2372.toInt ≤ 60000000) ∧ (1 ≤ u2373.toInt) ∧ LB f2375 := w2363
                obtain ⟨hw2380, hw2381, hw2382, hw2383, hw2384, hw2385⟩ := w2363
                refine W.eq (g2 := F0 m 143 ls [.int u2364, .int g568, .ref (a 45)]) rfl ?_
                have hP : va_P D vwCl (MW Y o a (upd (upd (upd (upd (upd I 29 u2371) 34 u2365) 35 u2366) 36 u2367) 39 u2368) (vp_updL (vp_updL (vp_updL (vp_updL J 30 u2372) 31 u2373) 37 u2369) 38 u2370) (vf_upd (vf_upd (vf_upd (vf_upd F 1 f2374) 28 f2375) 41 f2377) 43 f2379) (vf_upd (vf_upd (vf_upd (vf_upd G 40 f2376) 42 f2378) 44 f232) 45 f584)) H := hP
                have hD : va_D A (MW Y o a (upd (upd (upd (upd (upd I 29 u2371) 34 u2365) 35 u2366) 36 u2367) 39 u2368) (vp_updL (vp_updL (vp_updL (vp_updL J 30 u2372) 31 u2373) 37 u2369) 38 u2370) (vf_upd (vf_upd (vf_upd (vf_upd F 1 f2374) 28 f2375) 41 f2377) 43 f2379) (vf_upd (vf_upd (vf_upd (vf_upd G 40 f2376) 42 f2378) 44 f232) 45 f584)) := hD
                rcases (show u2364.toInt = 1 ∨ u2364.toInt = 0 by omega) with c2386 | c2386
                · obtain rfl : u2364 = 1 := i_is c2386 (by decide)
                  refine W.eq (g2 := F0 m 143 ls [.int 1, .int g568, .ref (a 45)]) rfl ?_
                  refine lv_if_eq (tgt := 153) hx hb dX11_line_143 (by decide) (fun c2388 => ?_) (fun c2388 => ?_)
                  · exact absurd c2388 (by decide)
                  refine lv_aload_n hx hb dX11_line_146 rfl (lv_at hl 1 rfl) ?_
                  refine va_get (D := D) (ci := 11) (v := .long u2370) (C := RX11) (T := TX11) (N := 49) hx hb hg inGX11 hown hKN.1 hP 0 rfl rfl 38 (by decide) (hg _ kw_1246) (fun _ h9 => h9) rfl dX11_line_147 ?_
                  refine lv_goto (tgt := 156) hx hb dX11_line_150 (by decide) ?_
                  refine va_last hx hb hKN.1 hP hD hS 25 1 rfl rfl (vp_in_iff.mpr ⟨by omega, by omega⟩) dX11_line_156 (fun H locs hP hD hS => ?_)
                  obtain ⟨f2389, ef2389, hP, hD⟩ : ∃ f2389 : Nat → Int64, f2389 = vp_updL f584 g568.toNatClampNeg u2370 ∧ va_P D vwCl (MW Y o a (upd (upd (upd (upd (upd I 29 u2371) 34 u2365) 35 u2366) 36 u2367) 39 u2368) (vp_updL (vp_updL (vp_updL (vp_updL J 30 u2372) 31 u2373) 37 u2369) 38 u2370) (vf_upd (vf_upd (vf_upd (vf_upd F 1 f2374) 28 f2375) 41 f2377) 43 f2379) (vf_upd (vf_upd (vf_upd (vf_upd G 40 f2376) 42 f2378) 44 f232) 45 f2389)) H ∧ va_D A (MW Y o a (upd (upd (upd (upd (upd I 29 u2371) 34 u2365) 35 u2366) 36 u2367) 39 u2368) (vp_updL (vp_updL (vp_updL (vp_updL J 30 u2372) 31 u2373) 37 u2369) 38 u2370) (vf_upd (vf_upd (vf_upd (vf_upd F 1 f2374) 28 f2375) 41 f2377) 43 f2379) (vf_upd (vf_upd (vf_upd (vf_upd G 40 f2376) 42 f2378) 44 f232) 45 f2389)) := ⟨_, rfl, hP, hD⟩
                  obtain ⟨v2390, ev2390⟩ : ∃ y : Int32, y = g568 + 1 := ⟨_, rfl⟩
                  have hv2390 := i_add (Eq.refl g568.toInt) (show (1 : Int32).toInt = 1 by decide) ev2390 (by omega) (by omega)
                  refine lv_iinc (v := v2390) (lv' := [(6, .int v2390), (0, .ref o), (1, .int p1), (2, .int p2), (3, .int p3), (4, .int p4), (5, .int p5)]) hx hb dX11_line_157 hl (k := 0) rfl (by rw [ev2390]; rfl) (by decide) rfl (fun ls hl => ?_)
                  refine lv_goto (tgt := 118) hx hb dX11_line_160 (by decide) ?_
                  exact ih656 (v2390, u2371, u2372, u2373, u2365, u2366, u2367, u2369, u2370, u2368, f2374, f2375, f2376, f2377, f2378, f2379, f2389) H locs ls (by show (12 - v2390.toInt).toNat < (12 - g568.toInt).toNat; omega) ⟨hP, hD, hS, lv_sub hl [0, 1, 2, 3, 4, 5, 6] rfl, by omega, hw2385⟩
                · obtain rfl : u2364 = 0 := i_is c2386 (by decide)
                  have zi0 : (0 : Int32).toInt = 0 := by decide
                  refine W.eq (g2 := F0 m 143 ls [.int 0, .int g568, .ref (a 45)]) rfl ?_
                  refine lv_if_eq (tgt := 153) hx hb dX11_line_143 (by decide) (fun c2392 => ?_) (fun c2392 => ?_)
                  rotate_left
                  · exact absurd c2392 (by decide)
                  refine lv_ldc2 (v := (-1)) hx hb hown (hg _ kw_1650) dX11_line_153 ?_
                  refine va_last hx hb hKN.1 hP hD hS 25 1 rfl rfl (vp_in_iff.mpr ⟨by omega, by omega⟩) dX11_line_156 (fun H locs hP hD hS => ?_)
                  obtain ⟨f2393, ef2393, hP, hD⟩ : ∃ f2393 : Nat → Int64, f2393 = vp_updL f584 g568.toNatClampNeg (-1) ∧ va_P D vwCl (MW Y o a (upd (upd (upd (upd (upd I 29 u2371) 34 u2365) 35 u2366) 36 u2367) 39 u2368) (vp_updL (vp_updL (vp_updL (vp_updL J 30 u2372) 31 u2373) 37 u2369) 38 u2370) (vf_upd (vf_upd (vf_upd (vf_upd F 1 f2374) 28 f2375) 41 f2377) 43 f2379) (vf_upd (vf_upd (vf_upd (vf_upd G 40 f2376) 42 f2378) 44 f232) 45 f2393)) H ∧ va_D A (MW Y o a (upd (upd (upd (upd (upd I 29 u2371) 34 u2365) 35 u2366) 36 u2367) 39 u2368) (vp_updL (vp_updL (vp_updL (vp_updL J 30 u2372) 31 u2373) 37 u2369) 38 u2370) (vf_upd (vf_upd (vf_upd (vf_upd F 1 f2374) 28 f2375) 41 f2377) 43 f2379) (vf_upd (vf_upd (vf_upd (vf_upd G 40 f2376) 42 f2378) 44 f232) 45 f2393)) := ⟨_, rfl, hP, hD⟩
                  obtain ⟨v2394, ev2394⟩ : ∃ y : Int32, y = g568 + 1 := ⟨_, rfl⟩
                  have hv2394 := i_add (Eq.refl g568.toInt) (show (1 : Int32).toInt = 1 by decide) ev2394 (by omega) (by omega)
                  refine lv_iinc (v := v2394) (lv' := [(6, .int v2394), (0, .ref o), (1, .int p1), (2, .int p2), (3, .int p3), (4, .int p4), (5, .int p5)]) hx hb dX11_line_157 hl (k := 0) rfl (by rw [ev2394]; rfl) (by decide) rfl (fun ls hl => ?_)
                  refine lv_goto (tgt := 118) hx hb dX11_line_160 (by decide) ?_
                  exact ih656 (v2394, u2371, u2372, u2373, u2365, u2366, u2367, u2369, u2370, u2368, f2374, f2375, f2376, f2377, f2378, f2379, f2393) H locs ls (by show (12 - v2394.toInt).toNat < (12 - g568.toInt).toNat; omega) ⟨hP, hD, hS, lv_sub hl [0, 1, 2, 3, 4, 5, 6] rfl, by omega, hw2385⟩
            · skip
              have c502 := i_nle (Eq.refl v413.toInt) (Eq.refl g217.toInt) c502
              refine lv_aload_n hx hb dX11_line_73 rfl (lv_at hl 1 rfl) ?_
              refine va_get (D := D) (ci := 11) (v := .ref (a 44)) (C := RX11) (T := TX11) (N := 49) hx hb hg inGX11 hown hKN.1 hP 0 rfl rfl 44 (by decide) (hg _ kw_1252) (fun _ h9 => h9) rfl dX11_line_74 ?_
              refine lv_iload hx hb dX11_line_77 (lv_at hl 0 rfl) ?_
              refine lv_aload_n hx hb dX11_line_79 rfl (lv_at hl 1 rfl) ?_
              refine lv_iload hx hb dX11_line_80 (lv_at hl 0 rfl) ?_
              refine cga (rn_V (As := [.int g217]) (rest := [.int g217, .ref (a 44)]) (b := o) (m_isPut l D Y Z H.size o a (upd (upd (upd (upd (upd I 29 g218) 34 g221) 35 g222) 36 g223) 39 g226) (vp_updL (vp_updL (vp_updL (vp_updL J 30 g219) 31 g220) 37 g224) 38 g225) (vf_upd (vf_upd (vf_upd F 28 f227) 41 f229) 43 f231) (vf_upd (vf_upd (vf_upd G 40 f228) 42 f230) 44 f232)  g217 hk0) ⟨hx, hb, hml, hown, hg⟩ lk_X11_500 ⟨CP.blind, va_recv hKN.1 hP (ci := 11) (q0 := 0) rfl rfl, CP.at hP hKN hD⟩ ⟨⟨rfl, rfl⟩, ⟨Nat.le_of_ble_eq_true rfl, Nat.le_of_ble_eq_true rfl⟩, ⟨Nat.le_of_ble_eq_true rfl, Nat.le_of_ble_eq_true rfl⟩⟩ hl.1 rfl (Nat.le_of_ble_eq_true rfl) dX11_line_82) hP hD hS hA (fun u2395 H locs w2396 hP hD hS => ?_)
              have w2396 : ((0 ≤ g217.toInt ∧ g217.toInt ≤ 39 ∧ g217.toInt < ((F 0) 1).toInt ∧ u2395.toInt = 1) ∨ u2395.toInt = 0) ∧ (0 ≤ u2395.toInt ∧ u2395.toInt ≤ 1) := w2396
              obtain ⟨hw2398, hw2399⟩ := w2396
              refine W.eq (g2 := F0 m 85 ls [.int u2395, .int g217, .ref (a 44)]) rfl ?_
              have hP : va_P D vwCl (MW Y o a (upd (upd (upd (upd (upd I 29 g218) 34 g221) 35 g222) 36 g223) 39 g226) (vp_updL (vp_updL (vp_updL (vp_updL J 30 g219) 31 g220) 37 g224) 38 g225) (vf_upd (vf_upd (vf_upd F 28 f227) 41 f229) 43 f231) (vf_upd (vf_upd (vf_upd G 40 f228) 42 f230) 44 f232)) H := hP
              have hD : va_D A (MW Y o a (upd (upd (upd (upd (upd I 29 g218) 34 g221) 35 g222) 36 g223) 39 g226) (vp_updL (vp_updL (vp_updL (vp_updL J 30 g219) 31 g220) 37 g224) 38 g225) (vf_upd (vf_upd (vf_upd F 28 f227) 41 f229) 43 f231) (vf_upd (vf_upd (vf_upd G 40 f228) 42 f230) 44 f232)) := hD
              rcases (show u2395.toInt = 1 ∨ u2395.toInt = 0 by omega) with c2400 | c2400
              · obtain rfl : u2395 = 1 := i_is c2400 (by decide)
                refine W.eq (g2 := F0 m 85 ls [.int 1, .int g217, .ref (a 44)]) rfl ?_
                refine w_join (σ := Int64 × Int32 × Int64 × Int64 × Int32 × Int32 × Int32 × Int64 × Int64 × Int32 × (Nat → Int32) × (Nat → Int64) × (Nat → Int32) × (Nat → Int64) × (Nat → Int32)) (pcJ := 108) (kJ := 0) (nJ := 0) (stk := fun xx => match xx with | (g2428, g2429, g2430, g2431, g2432, g2433, g2434, g2435, g2436, g2437, f2438, f2439, f2440, f2441, f2442) => [.long g2428, .int g217, .ref (a 44)]) (fun xx H locs ls => match xx with | (g2428, g2429, g2430, g2431, g2432, g2433, g2434, g2435, g2436, g2437, f2438, f2439, f2440, f2441, f2442) => va_P D vwCl (MW Y o a (upd (upd (upd (upd (upd I 29 g2429) 34 g2432) 35 g2433) 36 g2434) 39 g2437) (vp_updL (vp_updL (vp_updL (vp_updL J 30 g2430) 31 g2431) 37 g2435) 38 g2436) (vf_upd (vf_upd (vf_upd F 28 f2438) 41 f2440) 43 f2442) (vf_upd (vf_upd (vf_upd G 40 f2439) 42 f2441) 44 f232)) H ∧ va_D A (MW Y o a (upd (upd (upd (upd (upd I 29 g2429) 34 g2432) 35 g2433) 36 g2434) 39 g2437) (vp_updL (vp_updL (vp_updL (vp_updL J 30 g2430) 31 g2431) 37 g2435) 38 g2436) (vf_upd (vf_upd (vf_upd F 28 f2438) 41 f2440) 43 f2442) (vf_upd (vf_upd (vf_upd G 40 f2439) 42 f2441) 44 f232)) ∧ va_S A s.heap H locs ∧ lv_has ls 11 [(6, .int g217), (0, .ref o), (1, .int p1), (2, .int p2), (3, .int p3), (4, .int p4), (5, .int p5)] ∧ (-1 ≤ g2428.toInt) ∧ (0 ≤ g2429.toInt ∧ g2429.toInt ≤ 600) ∧ (-60000000 ≤ g2430.toInt ∧ g2430.toInt ≤ 60000000) ∧ (1 ≤ g2431.toInt) ∧ LB f2438) (fun xx H locs ls hI => ?_) (fun jn2443 => ?_)
                · skip
                  obtain ⟨g2428, g2429, g2430, g2431, g2432, g2433, g2434, g2435, g2436, g2437, f2438, f2439, f2440, f2441, f2442⟩ := xx
                  obtain ⟨hP, hD, hS, hl, hq2444, hq2445, hq2446, hq2447, hp2448⟩ := hI
                  refine W.eq (g2 := F0 m 108 ls [.long g2428, .int g217, .ref (a 44)]) rfl ?_
                  refine va_last hx hb hKN.1 hP hD hS 24 1 rfl rfl (vp_in_iff.mpr ⟨by omega, by omega⟩) dX11_line_108 (fun H locs hP hD hS => ?_)
                  obtain ⟨f2449, ef2449, hP, hD⟩ : ∃ f2449 : Nat → Int64, f2449 = vp_updL f232 g217.toNatClampNeg g2428 ∧ va_P D vwCl (MW Y o a (upd (upd (upd (upd (upd I 29 g2429) 34 g2432) 35 g2433) 36 g2434) 39 g2437) (vp_updL (vp_updL (vp_updL (vp_updL J 30 g2430) 31 g2431) 37 g2435) 38 g2436) (vf_upd (vf_upd (vf_upd F 28 f2438) 41 f2440) 43 f2442) (vf_upd (vf_upd (vf_upd G 40 f2439) 42 f2441) 44 f2449)) H ∧ va_D A (MW Y o a (upd (upd (upd (upd (upd I 29 g2429) 34 g2432) 35 g2433) 36 g2434) 39 g2437) (vp_updL (vp_updL (vp_updL (vp_updL J 30 g2430) 31 g2431) 37 g2435) 38 g2436) (vf_upd (vf_upd (vf_upd F 28 f2438) 41 f2440) 43 f2442) (vf_upd (vf_upd (vf_upd G 40 f2439) 42 f2441) 44 f2449)) := ⟨_, rfl, hP, hD⟩
                  obtain ⟨v2450, ev2450⟩ : ∃ y : Int32, y = g217 + 1 := ⟨_, rfl⟩
                  have hv2450 := i_add (Eq.refl g217.toInt) (show (1 : Int32).toInt = 1 by decide) ev2450 (by omega) (by omega)
                  refine lv_iinc (v := v2450) (lv' := [(6, .int v2450), (0, .ref o), (1, .int p1), (2, .int p2), (3, .int p3), (4, .int p4), (5, .int p5)]) hx hb dX11_line_109 hl (k := 0) rfl (by rw [ev2450]; rfl) (by decide) rfl (fun ls hl => ?_)
                  refine lv_goto (tgt := 62) hx hb dX11_line_112 (by decide) ?_
                  exact ih412 (v2450, g2429, g2430, g2431, g2432, g2433, g2434, g2435, g2436, g2437, f2438, f2439, f2440, f2441, f2442, f2449) H locs ls (by show (40 - v2450.toInt).toNat < (40 - g217.toInt).toNat; omega) ⟨hP, hD, hS, lv_sub hl [0, 1, 2, 3, 4, 5, 6] rfl, by omega, hp2448⟩
                · skip
                  refine lv_if_eq (tgt := 105) hx hb dX11_line_85 (by decide) (fun c2451 => ?_) (fun c2451 => ?_)
                  · exact absurd c2451 (by decide)
                  refine lv_aload_n hx hb dX11_line_88 rfl (lv_at hl 1 rfl) ?_
                  refine lv_iload_n hx hb dX11_line_89 rfl (lv_at hl 2 rfl) ?_
                  refine lv_iload hx hb dX11_line_90 (lv_at hl 0 rfl) ?_
                  refine cga (rn_V (As := [.int p1, .int g217]) (rest := [.int g217, .ref (a 44)]) (b := o) (m_findsPut l D Y Z H.size o a (upd (upd (upd (upd (upd I 29 g218) 34 g221) 35 g222) 36 g223) 39 g226) (vp_updL (vp_updL (vp_updL (vp_updL J 30 g219) 31 g220) 37 g224) 38 g225) (vf_upd (vf_upd (vf_upd F 28 f227) 41 f229) 43 f231) (vf_upd (vf_upd (vf_upd G 40 f228) 42 f230) 44 f232)  p1 g217 (show (0 ≤ p1.toInt ∧ p1.toInt ≤ 5) by omega) (show (p1.toInt < ((F 4) 1).toInt) by omega) (show (0 ≤ g217.toInt ∧ g217.toInt ≤ 39) by omega) (show (g217.toInt < ((F 0) 1).toInt) by omega) hk0 hp411 hk2) ⟨hx, hb, hml, hown, hg⟩ lk_X11_497 ⟨CP.blind, va_recv hKN.1 hP (ci := 11) (q0 := 0) rfl rfl, CP.at hP hKN hD⟩ ⟨⟨rfl, rfl⟩, ⟨Nat.le_of_ble_eq_true rfl, Nat.le_of_ble_eq_true rfl⟩, ⟨Nat.le_of_ble_eq_true rfl, Nat.le_of_ble_eq_true rfl⟩⟩ hl.1 rfl (Nat.le_of_ble_eq_true rfl) dX11_line_92) hP hD hS hA (fun u2452 H locs w2453 hP hD hS => ?_)
                  obtain ⟨u2454, u2455, u2456, u2457, u2458, u2459, u2460, u2461, u2462, u2463, f2464, f2465, f2466, f2467, f2468⟩ := u2452
                  have w2453 : ((u2454.toInt = 1 ∧ 1 ≤ u2460.toInt ∧ 2 ≤ u2455.toInt ∧ u2455.toInt ≤ 200 ∧ 1 ≤ u2456.toInt ∧ u2456.toInt ≤ 10 ∧ 0 ≤ u2457.toInt ∧ u2457.toInt < u2455.toInt ∧ -9000000000000 ≤ u2459.toInt ∧ u2459.toInt ≤ 9000000000000 ∧ (cin f2464 (u2455.toInt).toNat (u2456.toInt).toNat (u2457.toInt).toNat 600 : Int) ≠ u2461.toInt) ∨ u2454.toInt = 0) ∧ (0 ≤ u2454.toInt ∧ u2454.toInt ≤ 1) ∧ (0 ≤ u2461.toInt ∧ u2461.toInt ≤ 600) ∧ (-60000000 ≤ u2462.toInt ∧ u2462.toInt ≤ 60000000) ∧ (1 ≤ u2463.toInt) ∧ LB f2464 := w2453
                  obtain ⟨hw2469, hw2470, hw2471, hw2472, hw2473, hw2474⟩ := w2453
                  refine W.eq (g2 := F0 m 95 ls [.int u2454, .int g217, .ref (a 44)]) rfl ?_
                  have hP : va_P D vwCl (MW Y o a (upd (upd (upd (upd (upd I 29 u2461) 34 u2455) 35 u2456) 36 u2457) 39 u2458) (vp_updL (vp_updL (vp_updL (vp_updL J 30 u2462) 31 u2463) 37 u2459) 38 u2460) (vf_upd (vf_upd (vf_upd F 28 f2464) 41 f2466) 43 f2468) (vf_upd (vf_upd (vf_upd G 40 f2465) 42 f2467) 44 f232)) H := hP
                  have hD : va_D A (MW Y o a (upd (upd (upd (upd (upd I 29 u2461) 34 u2455) 35 u2456) 36 u2457) 39 u2458) (vp_updL (vp_updL (vp_updL (vp_updL J 30 u2462) 31 u2463) 37 u2459) 38 u2460) (vf_upd (vf_upd (vf_upd F 28 f2464) 41 f2466) 43 f2468) (vf_upd (vf_upd (vf_upd G 40 f2465) 42 f2467) 44 f232)) := hD
                  rcases (show u2454.toInt = 1 ∨ u2454.toInt = 0 by omega) with c2475 | c2475
                  · obtain rfl : u2454 = 1 := i_is c2475 (by decide)
                    refine W.eq (g2 := F0 m 95 ls [.int 1, .int g217, .ref (a 44)]) rfl ?_
                    refine lv_if_eq (tgt := 105) hx hb dX11_line_95 (by decide) (fun c2476 => ?_) (fun c2476 => ?_)
                    · exact absurd c2476 (by decide)
                    refine lv_aload_n hx hb dX11_line_98 rfl (lv_at hl 1 rfl) ?_
                    refine va_get (D := D) (ci := 11) (v := .long u2460) (C := RX11) (T := TX11) (N := 49) hx hb hg inGX11 hown hKN.1 hP 0 rfl rfl 38 (by decide) (hg _ kw_1246) (fun _ h9 => h9) rfl dX11_line_99 ?_
                    refine lv_goto (tgt := 108) hx hb dX11_line_102 (by decide) ?_
                    refine W.widen (k := 0) (n := 0) (Nat.le_of_ble_eq_true rfl) (Nat.le_of_ble_eq_true rfl) ?_
                    exact jn2443 (u2460, u2461, u2462, u2463, u2455, u2456, u2457, u2459, u2460, u2458, f2464, f2465, f2466, f2467, f2468) H locs ls ⟨hP, hD, hS, lv_sub hl [0, 1, 2, 3, 4, 5, 6] rfl, by omega, by omega, by omega, by omega, hw2474⟩
                  · obtain rfl : u2454 = 0 := i_is c2475 (by decide)
                    have zi0 : (0 : Int32).toInt = 0 := by decide
                    refine W.eq (g2 := F0 m 95 ls [.int 0, .int g217, .ref (a 44)]) rfl ?_
                    refine lv_if_eq (tgt := 105) hx hb dX11_line_95 (by decide) (fun c2477 => ?_) (fun c2477 => ?_)
                    rotate_left
                    · exact absurd c2477 (by decide)
                    refine lv_ldc2 (v := (-1)) hx hb hown (hg _ kw_1650) dX11_line_105 ?_
                    have zlm1 : ((-1) : Int64).toInt = -1 := by decide
                    refine W.widen (k := 0) (n := 0) (Nat.le_of_ble_eq_true rfl) (Nat.le_of_ble_eq_true rfl) ?_
                    exact jn2443 ((-1), u2461, u2462, u2463, u2455, u2456, u2457, u2459, u2460, u2458, f2464, f2465, f2466, f2467, f2468) H locs ls ⟨hP, hD, hS, lv_sub hl [0, 1, 2, 3, 4, 5, 6] rfl, by omega, by omega, by omega, by omega, hw2474⟩
              · obtain rfl : u2395 = 0 := i_is c2400 (by decide)
                have zi0 : (0 : Int32).toInt = 0 := by decide
                refine W.eq (g2 := F0 m 85 ls [.int 0, .int g217, .ref (a 44)]) rfl ?_
                refine lv_if_eq (tgt := 105) hx hb dX11_line_85 (by decide) (fun c2479 => ?_) (fun c2479 => ?_)
                rotate_left
                · exact absurd c2479 (by decide)
                refine lv_ldc2 (v := (-1)) hx hb hown (hg _ kw_1650) dX11_line_105 ?_
                refine va_last hx hb hKN.1 hP hD hS 24 1 rfl rfl (vp_in_iff.mpr ⟨by omega, by omega⟩) dX11_line_108 (fun H locs hP hD hS => ?_)
                obtain ⟨f2480, ef2480, hP, hD⟩ : ∃ f2480 : Nat → Int64, f2480 = vp_updL f232 g217.toNatClampNeg (-1) ∧ va_P D vwCl (MW Y o a (upd (upd (upd (upd (upd I 29 g218) 34 g221) 35 g222) 36 g223) 39 g226) (vp_updL (vp_updL (vp_updL (vp_updL J 30 g219) 31 g220) 37 g224) 38 g225) (vf_upd (vf_upd (vf_upd F 28 f227) 41 f229) 43 f231) (vf_upd (vf_upd (vf_upd G 40 f228) 42 f230) 44 f2480)) H ∧ va_D A (MW Y o a (upd (upd (upd (upd (upd I 29 g218) 34 g221) 35 g222) 36 g223) 39 g226) (vp_updL (vp_updL (vp_updL (vp_updL J 30 g219) 31 g220) 37 g224) 38 g225) (vf_upd (vf_upd (vf_upd F 28 f227) 41 f229) 43 f231) (vf_upd (vf_upd (vf_upd G 40 f228) 42 f230) 44 f2480)) := ⟨_, rfl, hP, hD⟩
                obtain ⟨v2481, ev2481⟩ : ∃ y : Int32, y = g217 + 1 := ⟨_, rfl⟩
                have hv2481 := i_add (Eq.refl g217.toInt) (show (1 : Int32).toInt = 1 by decide) ev2481 (by omega) (by omega)
                refine lv_iinc (v := v2481) (lv' := [(6, .int v2481), (0, .ref o), (1, .int p1), (2, .int p2), (3, .int p3), (4, .int p4), (5, .int p5)]) hx hb dX11_line_109 hl (k := 0) rfl (by rw [ev2481]; rfl) (by decide) rfl (fun ls hl => ?_)
                refine lv_goto (tgt := 62) hx hb dX11_line_112 (by decide) ?_
                exact ih412 (v2481, g218, g219, g220, g221, g222, g223, g224, g225, g226, f227, f228, f229, f230, f231, f2480) H locs ls (by show (40 - v2481.toInt).toNat < (40 - g217.toInt).toNat; omega) ⟨hP, hD, hS, lv_sub hl [0, 1, 2, 3, 4, 5, 6] rfl, by omega, hp411⟩
          · obtain rfl : u37 = 0 := i_is c42 (by decide)
            have zi0 : (0 : Int32).toInt = 0 := by decide
            refine W.eq (g2 := F0 m 54 ls [.int 0]) rfl ?_
            refine lv_if_ne (tgt := 59) hx hb dX11_line_54 (by decide) (fun c2482 => ?_) (fun c2482 => ?_)
            · exact absurd c2482 (by decide)
            refine lv_iconst (v := (-1)) hx hb dX11_line_57 (by decide) ?_
            refine W.widen (k := 0) (n := 0) (Nat.le_of_ble_eq_true rfl) (Nat.le_of_ble_eq_true rfl) ?_
            have zim1 : ((-1) : Int32).toInt = -1 := by decide
            exact W.iret (v := (-1)) hx hb hr (fun t ht hW => ⟨⟨((-1), (I 34), (I 35), (I 36), (I 39), (J 37), (J 38), (I 29), (J 30), (J 31), (F 1), (F 28), (G 40), (F 41), (G 42), (F 43), (G 44), (G 45)), rfl, (hk1), CB.mk ht hP hD⟩, hS.F ht⟩) hS.2.2 dX11_line_58
        · obtain rfl : u28 = 0 := i_is c33 (by decide)
          have zi0 : (0 : Int32).toInt = 0 := by decide
          refine W.eq (g2 := F0 m 43 ls [.int 0]) rfl ?_
          refine lv_if_eq (tgt := 57) hx hb dX11_line_43 (by decide) (fun c2483 => ?_) (fun c2483 => ?_)
          rotate_left
          · exact absurd c2483 (by decide)
          refine lv_iconst (v := (-1)) hx hb dX11_line_57 (by decide) ?_
          refine W.widen (k := 0) (n := 0) (Nat.le_of_ble_eq_true rfl) (Nat.le_of_ble_eq_true rfl) ?_
          have zim1 : ((-1) : Int32).toInt = -1 := by decide
          exact W.iret (v := (-1)) hx hb hr (fun t ht hW => ⟨⟨((-1), (I 34), (I 35), (I 36), (I 39), (J 37), (J 38), (I 29), (J 30), (J 31), (F 1), (F 28), (G 40), (F 41), (G 42), (F 43), (G 44), (G 45)), rfl, (hk1), CB.mk ht hP hD⟩, hS.F ht⟩) hS.2.2 dX11_line_58
      · obtain rfl : u19 = 0 := i_is c24 (by decide)
        have zi0 : (0 : Int32).toInt = 0 := by decide
        refine W.eq (g2 := F0 m 30 ls [.int 0]) rfl ?_
        refine lv_if_eq (tgt := 57) hx hb dX11_line_30 (by decide) (fun c2484 => ?_) (fun c2484 => ?_)
        rotate_left
        · exact absurd c2484 (by decide)
        refine lv_iconst (v := (-1)) hx hb dX11_line_57 (by decide) ?_
        refine W.widen (k := 0) (n := 0) (Nat.le_of_ble_eq_true rfl) (Nat.le_of_ble_eq_true rfl) ?_
        have zim1 : ((-1) : Int32).toInt = -1 := by decide
        exact W.iret (v := (-1)) hx hb hr (fun t ht hW => ⟨⟨((-1), (I 34), (I 35), (I 36), (I 39), (J 37), (J 38), (I 29), (J 30), (J 31), (F 1), (F 28), (G 40), (F 41), (G 42), (F 43), (G 44), (G 45)), rfl, (hk1), CB.mk ht hP hD⟩, hS.F ht⟩) hS.2.2 dX11_line_58
    · obtain rfl : u10 = 0 := i_is c15 (by decide)
      have zi0 : (0 : Int32).toInt = 0 := by decide
      refine W.eq (g2 := F0 m 18 ls [.int 0]) rfl ?_
      refine lv_if_eq (tgt := 57) hx hb dX11_line_18 (by decide) (fun c2485 => ?_) (fun c2485 => ?_)
      rotate_left
      · exact absurd c2485 (by decide)
      refine lv_iconst (v := (-1)) hx hb dX11_line_57 (by decide) ?_
      refine W.widen (k := 0) (n := 0) (Nat.le_of_ble_eq_true rfl) (Nat.le_of_ble_eq_true rfl) ?_
      have zim1 : ((-1) : Int32).toInt = -1 := by decide
      exact W.iret (v := (-1)) hx hb hr (fun t ht hW => ⟨⟨((-1), (I 34), (I 35), (I 36), (I 39), (J 37), (J 38), (I 29), (J 30), (J 31), (F 1), (F 28), (G 40), (F 41), (G 42), (F 43), (G 44), (G 45)), rfl, (hk1), CB.mk ht hP hD⟩, hS.F ht⟩) hS.2.2 dX11_line_58
  · obtain rfl : u1 = 0 := i_is c6 (by decide)
    have zi0 : (0 : Int32).toInt = 0 := by decide
    refine W.eq (g2 := F0 m 6 ls [.int 0]) rfl ?_
    refine lv_if_eq (tgt := 57) hx hb dX11_line_6 (by decide) (fun c2486 => ?_) (fun c2486 => ?_)
    rotate_left
    · exact absurd c2486 (by decide)
    refine lv_iconst (v := (-1)) hx hb dX11_line_57 (by decide) ?_
    refine W.widen (k := 0) (n := 0) (Nat.le_of_ble_eq_true rfl) (Nat.le_of_ble_eq_true rfl) ?_
    have zim1 : ((-1) : Int32).toInt = -1 := by decide
    exact W.iret (v := (-1)) hx hb hr (fun t ht hW => ⟨⟨((-1), (I 34), (I 35), (I 36), (I 39), (J 37), (J 38), (I 29), (J 30), (J 31), (F 1), (F 28), (G 40), (F 41), (G 42), (F 43), (G 44), (G 45)), rfl, (hk1), CB.mk ht hP hD⟩, hS.F ht⟩) hS.2.2 dX11_line_58
