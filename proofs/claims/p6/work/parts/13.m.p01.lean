set_option maxHeartbeats 4000000 in
set_option maxRecDepth 100000 in
theorem m_putIn (l : Launch) (D : va_G) (Y : Nat → ClassId) (Z : Nat → Nat) (sz : Nat) (o : Nat) (a : Nat → Nat) (I : Nat → Int32) (J : Nat → Int64) (F : Nat → Nat → Int32) (G : Nat → Nat → Int64) (hk0 : TO (F 0)) : Met l yX11_putIn (.code yX11_putIn cX11_putIn 3 (some .int) :: GW) ({ frames := 2, cells := 0, slots := 0, locals := 43 }) (va_Pc [.ref o] (CP D Y Z (MW Y o a I J F G) sz)) (QG (S := Int32) (fun u => some (.int u)) (fun u => (0 ≤ u.toInt ∧ u.toInt ≤ 40)) (fun u => CB D (MW Y o a I J F G) (va_A (MW Y o a I J F G) sz)) (va_A (MW Y o a I J F G) sz)) 0 0 (va_A (MW Y o a I J F G) sz) := by
  refine Met.ofW (cc := cX11_putIn) (maxL := 3) (ret := (some .int)) (by decide) rfl ?_
  intro p e s m args below meth c s₁ B hml hv
  obtain ⟨rfl, hsz, hP, hKN, hD0⟩ := hv
  have hx := B.exec
  have hb := B.bytes
  have hr := B.returns
  have hts := atoms_spec (ws := .code yX11_putIn cX11_putIn 3 (some .int) :: GW) B.pre
  have hg : ∀ w ∈ GW, w.before _ s = true := fun w h => hts w (List.mem_cons_of_mem _ h)
  have hown : s.vm.findClass RX11 = some m.cls := findClass_of_methodNamed B.named
  have hlocks := B.notSynchronized
  subst hsz
  have hD := hD0.self (sz := s.heap.size)
  generalize hAe : va_A (MW Y o a I J F G) s.heap.size = A at hD ⊢
  have hA : ∀ q : Nat, s.heap.size ≤ q → A q := fun q h => by rw [← hAe]; exact Or.inr h
  clear hAe hD0 hts B
  have hl := lv_entry ([.ref o]) (n := 3) (Nat.le_of_ble_eq_true rfl)
  rw [lg_entry_eq]
  generalize (lg_sl ([.ref o]) ++ List.replicate (3 - (lg_sl ([.ref o])).length) Slot.unset).toArray = ls at hl ⊢
  have hl : lv_has ls 3 [(0, .ref o)] := hl
  refine w_start (A0 := A) hP (fun H locs hP hS => ?_)
  refine lv_iconst (v := 0) hx hb dX11_putIn_0 (by decide) ?_
  refine lv_istore_n (lv' := [(1, .int 0), (0, .ref o)]) hx hb dX11_putIn_1 rfl hl (by decide) rfl (fun ls hl => ?_)
  refine lv_iconst (v := 0) hx hb dX11_putIn_2 (by decide) ?_
  refine lv_istore_n (lv' := [(2, .int 0), (1, .int 0), (0, .ref o)]) hx hb dX11_putIn_3 rfl hl (by decide) rfl (fun ls hl => ?_)
  have zi0 : (0 : Int32).toInt = 0 := by decide
  refine w_loop (σ := Int32 × Int32) (fun xx H locs ls => match xx with | (g28, g29) => va_P D vwCl (MW Y o a I J F G) H ∧ va_D A (MW Y o a I J F G) ∧ va_S A s.heap H locs ∧ lv_has ls 3 [(2, .int g28), (1, .int g29), (0, .ref o)] ∧ (0 ≤ g28.toInt ∧ g28.toInt ≤ 40) ∧ (0 ≤ g29.toInt ∧ g29.toInt ≤ 40) ∧ (g29.toInt ≤ g28.toInt)) (fun xx => match xx with | (g28, g29) => (40 - g28.toInt).toNat) (0, 0) ⟨hP, hD, hS, lv_sub hl [0, 1, 2] rfl, by omega, by omega, by omega⟩ (fun xx H locs ls hI ih => ?_)
  obtain ⟨g28, g29⟩ := xx
  obtain ⟨hP, hD, hS, hl, hq61, hq62, hq63⟩ := hI
  have ih64 := ih
  refine lv_iload_n hx hb dX11_putIn_4 rfl (lv_at hl 0 rfl) ?_
  refine lv_aload_n hx hb dX11_putIn_5 rfl (lv_at hl 2 rfl) ?_
  refine va_get (D := D) (ci := 11) (v := .ref (a 0)) (C := RX11) (T := TX11) (N := 49) hx hb hg inGX11 hown hKN.1 hP 0 rfl rfl 0 (by decide) (hg _ kw_1208) (fun _ h9 => h9) rfl dX11_putIn_6 ?_
  refine lv_iconst (v := 1) hx hb dX11_putIn_9 (by decide) ?_
  refine va_iald hx hb hKN.1 hP 1 0 rfl rfl (show ¬ ((1 : Int32) < 0 ∨ 7533 ≤ (1 : Int32).toNatClampNeg) by decide) dX11_putIn_10 ?_
  refine lv_topi (fun v65 ev65 => ?_)
  have ev65 : v65 = (F 0) 1 := ev65
  have kv65 := TO_1 hk0
  rw [← ev65] at kv65
  have qv65 := congrArg Int32.toInt ev65
  refine lv_icmp_ge (tgt := 36) hx hb dX11_putIn_11 (by decide) (fun c81 => ?_) (fun c81 => ?_)
  · skip
    have c81 := i_le (Eq.refl v65.toInt) (Eq.refl g28.toInt) c81
    refine lv_iload_n hx hb dX11_putIn_36 rfl (lv_at hl 1 rfl) ?_
    refine W.widen (k := 0) (n := 0) (Nat.le_of_ble_eq_true rfl) (Nat.le_of_ble_eq_true rfl) ?_
    exact W.iret (v := g29) hx hb hr (fun t ht hW => ⟨⟨g29, rfl, ((show (0 ≤ g29.toInt ∧ g29.toInt ≤ 40) by omega)), CB.mk ht hP hD⟩, hS.F ht⟩) hS.2.2 dX11_putIn_37
  · skip
    have c81 := i_nle (Eq.refl v65.toInt) (Eq.refl g28.toInt) c81
    refine lv_iload_n hx hb dX11_putIn_14 rfl (lv_at hl 1 rfl) ?_
    refine lv_aload_n hx hb dX11_putIn_15 rfl (lv_at hl 2 rfl) ?_
    refine lv_iload_n hx hb dX11_putIn_16 rfl (lv_at hl 0 rfl) ?_
    refine cga (rn_V (As := [.int g28]) (rest := [.int g29]) (b := o) (m_isPut l D Y Z H.size o a I J F G  g28 hk0) ⟨hx, hb, hml, hown, hg⟩ lk_X11_500 ⟨CP.blind, va_recv hKN.1 hP (ci := 11) (q0 := 0) rfl rfl, CP.at hP hKN hD⟩ ⟨⟨rfl, rfl⟩, ⟨Nat.le_of_ble_eq_true rfl, Nat.le_of_ble_eq_true rfl⟩, ⟨Nat.le_of_ble_eq_true rfl, Nat.le_of_ble_eq_true rfl⟩⟩ hl.1 rfl (Nat.le_of_ble_eq_true rfl) dX11_putIn_17) hP hD hS hA (fun u82 H locs w83 hP hD hS => ?_)
    have w83 : ((0 ≤ g28.toInt ∧ g28.toInt ≤ 39 ∧ g28.toInt < ((F 0) 1).toInt ∧ u82.toInt = 1) ∨ u82.toInt = 0) ∧ (0 ≤ u82.toInt ∧ u82.toInt ≤ 1) := w83
    obtain ⟨hw85, hw86⟩ := w83
    refine W.eq (g2 := F0 m 20 ls [.int u82, .int g29]) rfl ?_
    have hP : va_P D vwCl (MW Y o a I J F G) H := hP
    have hD : va_D A (MW Y o a I J F G) := hD
    rcases (show u82.toInt = 1 ∨ u82.toInt = 0 by omega) with c87 | c87
    · obtain rfl : u82 = 1 := i_is c87 (by decide)
      have zi1 : (1 : Int32).toInt = 1 := by decide
      refine W.eq (g2 := F0 m 20 ls [.int 1, .int g29]) rfl ?_
      refine lv_if_eq (tgt := 27) hx hb dX11_putIn_20 (by decide) (fun c89 => ?_) (fun c89 => ?_)
      · exact absurd c89 (by decide)
      refine lv_iconst (v := 1) hx hb dX11_putIn_23 (by decide) ?_
      refine lv_goto (tgt := 28) hx hb dX11_putIn_24 (by decide) ?_
      refine lv_iadd hx hb dX11_putIn_28 ?_
      refine lv_topi (fun v90 ev90 => ?_)
      have hv90 := i_add (Eq.refl g29.toInt) (show (1 : Int32).toInt = 1 by decide) ev90 (by omega) (by omega)
      refine lv_istore_n (lv' := [(1, .int v90), (2, .int g28), (0, .ref o)]) hx hb dX11_putIn_29 rfl hl (by decide) rfl (fun ls hl => ?_)
      obtain ⟨v91, ev91⟩ : ∃ y : Int32, y = g28 + 1 := ⟨_, rfl⟩
      have hv91 := i_add (Eq.refl g28.toInt) (show (1 : Int32).toInt = 1 by decide) ev91 (by omega) (by omega)
      refine lv_iinc (v := v91) (lv' := [(2, .int v91), (1, .int v90), (0, .ref o)]) hx hb dX11_putIn_30 hl (k := 1) rfl (by rw [ev91]; rfl) (by decide) rfl (fun ls hl => ?_)
      refine lv_goto (tgt := 4) hx hb dX11_putIn_33 (by decide) ?_
      exact ih64 (v91, v90) H locs ls (by show (40 - v91.toInt).toNat < (40 - g28.toInt).toNat; omega) ⟨hP, hD, hS, lv_sub hl [0, 1, 2] rfl, by omega, by omega, by omega⟩
    · obtain rfl : u82 = 0 := i_is c87 (by decide)
      have zi0 : (0 : Int32).toInt = 0 := by decide
      refine W.eq (g2 := F0 m 20 ls [.int 0, .int g29]) rfl ?_
      refine lv_if_eq (tgt := 27) hx hb dX11_putIn_20 (by decide) (fun c93 => ?_) (fun c93 => ?_)
      rotate_left
      · exact absurd c93 (by decide)
      refine lv_iconst (v := 0) hx hb dX11_putIn_27 (by decide) ?_
      refine lv_iadd hx hb dX11_putIn_28 ?_
      refine lv_topi (fun v94 ev94 => ?_)
      have hv94 := i_add (Eq.refl g29.toInt) (show (0 : Int32).toInt = 0 by decide) ev94 (by omega) (by omega)
      refine lv_istore_n (lv' := [(1, .int v94), (2, .int g28), (0, .ref o)]) hx hb dX11_putIn_29 rfl hl (by decide) rfl (fun ls hl => ?_)
      obtain ⟨v95, ev95⟩ : ∃ y : Int32, y = g28 + 1 := ⟨_, rfl⟩
      have hv95 := i_add (Eq.refl g28.toInt) (show (1 : Int32).toInt = 1 by decide) ev95 (by omega) (by omega)
      refine lv_iinc (v := v95) (lv' := [(2, .int v95), (1, .int v94), (0, .ref o)]) hx hb dX11_putIn_30 hl (k := 1) rfl (by rw [ev95]; rfl) (by decide) rfl (fun ls hl => ?_)
      refine lv_goto (tgt := 4) hx hb dX11_putIn_33 (by decide) ?_
      exact ih64 (v95, v94) H locs ls (by show (40 - v95.toInt).toNat < (40 - g28.toInt).toNat; omega) ⟨hP, hD, hS, lv_sub hl [0, 1, 2] rfl, by omega, by omega, by omega⟩
set_option maxHeartbeats 4000000 in
set_option maxRecDepth 100000 in
theorem m_caughtBy (l : Launch) (D : va_G) (Y : Nat → ClassId) (Z : Nat → Nat) (sz : Nat) (o : Nat) (a : Nat → Nat) (I : Nat → Int32) (J : Nat → Int64) (F : Nat → Nat → Int32) (G : Nat → Nat → Int64) (p1 : Int32) (hk_0 : (0 ≤ p1.toInt ∧ p1.toInt ≤ 5)) (hk_1 : (p1.toInt < ((F 4) 1).toInt)) (hk0 : TO (F 0)) (hk1 : LB (F 28)) (hk2 : TX (F 4) (F 9) (F 10) (F 11) (F 12) (F 13)) : Met l yX11_caughtBy (.code yX11_caughtBy cX11_caughtBy 4 (some .int) :: GW) ({ frames := 8, cells := 0, slots := 0, locals := 191 }) (va_Pc [.ref o, .int p1] (CP D Y Z (MW Y o a I J F G) sz)) (QG (S := Int32 × Int32 × Int32 × Int32 × Int32 × Int64 × Int64 × Int32 × Int64 × Int64 × (Nat → Int32) × (Nat → Int64) × (Nat → Int32) × (Nat → Int64) × (Nat → Int32)) (fun u => some (.int u.1)) (fun u => (0 ≤ u.1.toInt ∧ u.1.toInt ≤ 40) ∧ LB u.2.2.2.2.2.2.2.2.2.2.1) (fun u => CB D (MW Y o a (upd (upd (upd (upd (upd I 29 u.2.2.2.2.2.2.2.1) 34 u.2.1) 35 u.2.2.1) 36 u.2.2.2.1) 39 u.2.2.2.2.1) (vp_updL (vp_updL (vp_updL (vp_updL J 30 u.2.2.2.2.2.2.2.2.1) 31 u.2.2.2.2.2.2.2.2.2.1) 37 u.2.2.2.2.2.1) 38 u.2.2.2.2.2.2.1) (vf_upd (vf_upd (vf_upd F 28 u.2.2.2.2.2.2.2.2.2.2.1) 41 u.2.2.2.2.2.2.2.2.2.2.2.2.1) 43 u.2.2.2.2.2.2.2.2.2.2.2.2.2.2) (vf_upd (vf_upd G 40 u.2.2.2.2.2.2.2.2.2.2.2.1) 42 u.2.2.2.2.2.2.2.2.2.2.2.2.2.1)) (va_A (MW Y o a I J F G) sz)) (va_A (MW Y o a I J F G) sz)) 0 0 (va_A (MW Y o a I J F G) sz) := by
  refine Met.ofW (cc := cX11_caughtBy) (maxL := 4) (ret := (some .int)) (by decide) rfl ?_
  intro p e s m args below meth c s₁ B hml hv
  obtain ⟨rfl, hsz, hP, hKN, hD0⟩ := hv
  have hx := B.exec
  have hb := B.bytes
  have hr := B.returns
  have hts := atoms_spec (ws := .code yX11_caughtBy cX11_caughtBy 4 (some .int) :: GW) B.pre
  have hg : ∀ w ∈ GW, w.before _ s = true := fun w h => hts w (List.mem_cons_of_mem _ h)
  have hown : s.vm.findClass RX11 = some m.cls := findClass_of_methodNamed B.named
  have hlocks := B.notSynchronized
  subst hsz
  have hD := hD0.self (sz := s.heap.size)
  generalize hAe : va_A (MW Y o a I J F G) s.heap.size = A at hD ⊢
  have hA : ∀ q : Nat, s.heap.size ≤ q → A q := fun q h => by rw [← hAe]; exact Or.inr h
  clear hAe hD0 hts B
  have hl := lv_entry ([.ref o, .int p1]) (n := 4) (Nat.le_of_ble_eq_true rfl)
  rw [lg_entry_eq]
  generalize (lg_sl ([.ref o, .int p1]) ++ List.replicate (4 - (lg_sl ([.ref o, .int p1])).length) Slot.unset).toArray = ls at hl ⊢
  have hl : lv_has ls 4 [(0, .ref o), (1, .int p1)] := hl
  refine w_start (A0 := A) hP (fun H locs hP hS => ?_)
  refine lv_iconst (v := 0) hx hb dX11_caughtBy_0 (by decide) ?_
  refine lv_istore_n (lv' := [(2, .int 0), (0, .ref o), (1, .int p1)]) hx hb dX11_caughtBy_1 rfl hl (by decide) rfl (fun ls hl => ?_)
  refine lv_iconst (v := 0) hx hb dX11_caughtBy_2 (by decide) ?_
  refine lv_istore_n (lv' := [(3, .int 0), (2, .int 0), (0, .ref o), (1, .int p1)]) hx hb dX11_caughtBy_3 rfl hl (by decide) rfl (fun ls hl => ?_)
  have zi0 : (0 : Int32).toInt = 0 := by decide
  refine w_loop (σ := Int32 × Int32 × Int32 × Int64 × Int64 × Int32 × Int32 × Int32 × Int64 × Int64 × Int32 × (Nat → Int32) × (Nat → Int64) × (Nat → Int32) × (Nat → Int64) × (Nat → Int32)) (fun xx H locs ls => match xx with | (g122, g123, g124, g125, g126, g127, g128, g129, g130, g131, g132, f133, f134, f135, f136, f137) => va_P D vwCl (MW Y o a (upd (upd (upd (upd (upd I 29 g124) 34 g127) 35 g128) 36 g129) 39 g132) (vp_updL (vp_updL (vp_updL (vp_updL J 30 g125) 31 g126) 37 g130) 38 g131) (vf_upd (vf_upd (vf_upd F 28 f133) 41 f135) 43 f137) (vf_upd (vf_upd G 40 f134) 42 f136)) H ∧ va_D A (MW Y o a (upd (upd (upd (upd (upd I 29 g124) 34 g127) 35 g128) 36 g129) 39 g132) (vp_updL (vp_updL (vp_updL (vp_updL J 30 g125) 31 g126) 37 g130) 38 g131) (vf_upd (vf_upd (vf_upd F 28 f133) 41 f135) 43 f137) (vf_upd (vf_upd G 40 f134) 42 f136)) ∧ va_S A s.heap H locs ∧ lv_has ls 4 [(3, .int g122), (2, .int g123), (0, .ref o), (1, .int p1)] ∧ (0 ≤ g122.toInt ∧ g122.toInt ≤ 40) ∧ (0 ≤ g123.toInt ∧ g123.toInt ≤ 40) ∧ (g123.toInt ≤ g122.toInt) ∧ LB f133) (fun xx => match xx with | (g122, g123, g124, g125, g126, g127, g128, g129, g130, g131, g132, f133, f134, f135, f136, f137) => (40 - g122.toInt).toNat) (0, 0, (I 29), (J 30), (J 31), (I 34), (I 35), (I 36), (J 37), (J 38), (I 39), (F 28), (G 40), (F 41), (G 42), (F 43)) ⟨hP, hD, hS, lv_sub hl [0, 1, 2, 3] rfl, by omega, by omega, by omega, hk1⟩ (fun xx H locs ls hI ih => ?_)
  obtain ⟨g122, g123, g124, g125, g126, g127, g128, g129, g130, g131, g132, f133, f134, f135, f136, f137⟩ := xx
  obtain ⟨hP, hD, hS, hl, hq263, hq264, hq265, hp266⟩ := hI
  have ih267 := ih
  refine lv_iload_n hx hb dX11_caughtBy_4 rfl (lv_at hl 0 rfl) ?_
  refine lv_aload_n hx hb dX11_caughtBy_5 rfl (lv_at hl 2 rfl) ?_
  refine va_get (D := D) (ci := 11) (v := .ref (a 0)) (C := RX11) (T := TX11) (N := 49) hx hb hg inGX11 hown hKN.1 hP 0 rfl rfl 0 (by decide) (hg _ kw_1208) (fun _ h9 => h9) rfl dX11_caughtBy_6 ?_
  refine lv_iconst (v := 1) hx hb dX11_caughtBy_9 (by decide) ?_
  refine va_iald hx hb hKN.1 hP 1 0 rfl rfl (show ¬ ((1 : Int32) < 0 ∨ 7533 ≤ (1 : Int32).toNatClampNeg) by decide) dX11_caughtBy_10 ?_
  refine lv_topi (fun v268 ev268 => ?_)
  have ev268 : v268 = (F 0) 1 := ev268
  have kv268 := TO_1 hk0
  rw [← ev268] at kv268
  have qv268 := congrArg Int32.toInt ev268
  refine lv_icmp_ge (tgt := 45) hx hb dX11_caughtBy_11 (by decide) (fun c331 => ?_) (fun c331 => ?_)
  · skip
    have c331 := i_le (Eq.refl v268.toInt) (Eq.refl g122.toInt) c331
    refine lv_iload_n hx hb dX11_caughtBy_45 rfl (lv_at hl 1 rfl) ?_
    refine W.widen (k := 0) (n := 0) (Nat.le_of_ble_eq_true rfl) (Nat.le_of_ble_eq_true rfl) ?_
    exact W.iret (v := g123) hx hb hr (fun t ht hW => ⟨⟨(g123, g127, g128, g129, g132, g130, g131, g124, g125, g126, f133, f134, f135, f136, f137), rfl, ⟨(show (0 ≤ g123.toInt ∧ g123.toInt ≤ 40) by omega), hp266⟩, CB.mk ht hP hD⟩, hS.F ht⟩) hS.2.2 dX11_caughtBy_46
  · skip
    have c331 := i_nle (Eq.refl v268.toInt) (Eq.refl g122.toInt) c331
    refine lv_iload_n hx hb dX11_caughtBy_14 rfl (lv_at hl 1 rfl) ?_
    refine lv_aload_n hx hb dX11_caughtBy_15 rfl (lv_at hl 2 rfl) ?_
    refine lv_iload_n hx hb dX11_caughtBy_16 rfl (lv_at hl 0 rfl) ?_
    refine cga (rn_V (As := [.int g122]) (rest := [.int g123]) (b := o) (m_isPut l D Y Z H.size o a (upd (upd (upd (upd (upd I 29 g124) 34 g127) 35 g128) 36 g129) 39 g132) (vp_updL (vp_updL (vp_updL (vp_updL J 30 g125) 31 g126) 37 g130) 38 g131) (vf_upd (vf_upd (vf_upd F 28 f133) 41 f135) 43 f137) (vf_upd (vf_upd G 40 f134) 42 f136)  g122 hk0) ⟨hx, hb, hml, hown, hg⟩ lk_X11_500 ⟨CP.blind, va_recv hKN.1 hP (ci := 11) (q0 := 0) rfl rfl, CP.at hP hKN hD⟩ ⟨⟨rfl, rfl⟩, ⟨Nat.le_of_ble_eq_true rfl, Nat.le_of_ble_eq_true rfl⟩, ⟨Nat.le_of_ble_eq_true rfl, Nat.le_of_ble_eq_true rfl⟩⟩ hl.1 rfl (Nat.le_of_ble_eq_true rfl) dX11_caughtBy_17) hP hD hS hA (fun u332 H locs w333 hP hD hS => ?_)
    have w333 : ((0 ≤ g122.toInt ∧ g122.toInt ≤ 39 ∧ g122.toInt < ((F 0) 1).toInt ∧ u332.toInt = 1) ∨ u332.toInt = 0) ∧ (0 ≤ u332.toInt ∧ u332.toInt ≤ 1) := w333
    obtain ⟨hw335, hw336⟩ := w333
    refine W.eq (g2 := F0 m 20 ls [.int u332, .int g123]) rfl ?_
    have hP : va_P D vwCl (MW Y o a (upd (upd (upd (upd (upd I 29 g124) 34 g127) 35 g128) 36 g129) 39 g132) (vp_updL (vp_updL (vp_updL (vp_updL J 30 g125) 31 g126) 37 g130) 38 g131) (vf_upd (vf_upd (vf_upd F 28 f133) 41 f135) 43 f137) (vf_upd (vf_upd G 40 f134) 42 f136)) H := hP
    have hD : va_D A (MW Y o a (upd (upd (upd (upd (upd I 29 g124) 34 g127) 35 g128) 36 g129) 39 g132) (vp_updL (vp_updL (vp_updL (vp_updL J 30 g125) 31 g126) 37 g130) 38 g131) (vf_upd (vf_upd (vf_upd F 28 f133) 41 f135) 43 f137) (vf_upd (vf_upd G 40 f134) 42 f136)) := hD
    rcases (show u332.toInt = 1 ∨ u332.toInt = 0 by omega) with c337 | c337
    · obtain rfl : u332 = 1 := i_is c337 (by decide)
      have zi1 : (1 : Int32).toInt = 1 := by decide
      refine W.eq (g2 := F0 m 20 ls [.int 1, .int g123]) rfl ?_
      refine w_join (σ := Int32) (pcJ := 37) (kJ := 0) (nJ := 0) (stk := fun xx => match xx with | g361 => [.int g361, .int g123]) (fun xx H locs ls => match xx with | g361 => va_P D vwCl (MW Y o a (upd (upd (upd (upd (upd I 29 u348) 34 u342) 35 u343) 36 u344) 39 u345) (vp_updL (vp_updL (vp_updL (vp_updL J 30 u349) 31 u350) 37 u346) 38 u347) (vf_upd (vf_upd (vf_upd F 28 f351) 41 f353) 43 f355) (vf_upd (vf_upd G 40 f352) 42 f354)) H ∧ va_D A (MW Y o a (upd (upd (upd (upd (upd I 29 u348) 34 u342) 35 u343) 36 u344) 39 u345) (vp_updL (vp_updL (vp_updL (vp_updL J 30 u349) 31 u350) 37 u346) 38 u347) (vf_upd (vf_upd (vf_upd F 28 f351) 41 f353) 43 f355) (vf_upd (vf_upd G 40 f352) 42 f354)) ∧ va_S A s.heap H locs ∧ lv_has ls 4 [(3, .int g122), (2, .int g123), (0, .ref o), (1, .int p1)] ∧ (0 ≤ g361.toInt ∧ g361.toInt ≤ 1)) (fun xx H locs ls hI => ?_) (fun jn362 => ?_)
      · skip
        revert hI
        generalize xx = g361
        intro hI
        obtain ⟨hP, hD, hS, hl, hq363⟩ := hI
        refine W.eq (g2 := F0 m 37 ls [.int g361, .int g123]) rfl ?_
        refine lv_iadd hx hb dX11_caughtBy_37 ?_
        refine lv_topi (fun v364 ev364 => ?_)
        have hv364 := i_add (Eq.refl g123.toInt) (Eq.refl g361.toInt) ev364 (by omega) (by omega)
        refine lv_istore_n (lv' := [(2, .int v364), (3, .int g122), (0, .ref o), (1, .int p1)]) hx hb dX11_caughtBy_38 rfl hl (by decide) rfl (fun ls hl => ?_)
        obtain ⟨v365, ev365⟩ : ∃ y : Int32, y = g122 + 1 := ⟨_, rfl⟩
        have hv365 := i_add (Eq.refl g122.toInt) (show (1 : Int32).toInt = 1 by decide) ev365 (by omega) (by omega)
        refine lv_iinc (v := v365) (lv' := [(3, .int v365), (2, .int v364), (0, .ref o), (1, .int p1)]) hx hb dX11_caughtBy_39 hl (k := 1) rfl (by rw [ev365]; rfl) (by decide) rfl (fun ls hl => ?_)
        refine lv_goto (tgt := 4) hx hb dX11_caughtBy_42 (by decide) ?_
        exact ih267 (v365, v364, u348, u349, u350, u342, u343, u344, u346, u347, u345, f351, f352, f353, f354, f355) H locs ls (by show (40 - v365.toInt).toNat < (40 - g122.toInt).toNat; omega) ⟨hP, hD, hS, lv_sub hl [0, 1, 2, 3] rfl, by omega, by omega, by omega, hp266⟩
      · skip
        refine lv_if_eq (tgt := 36) hx hb dX11_caughtBy_20 (by decide) (fun c366 => ?_) (fun c366 => ?_)
        · exact absurd c366 (by decide)
        refine lv_aload_n hx hb dX11_caughtBy_23 rfl (lv_at hl 2 rfl) ?_
        refine lv_iload_n hx hb dX11_caughtBy_24 rfl (lv_at hl 3 rfl) ?_
        refine lv_iload_n hx hb dX11_caughtBy_25 rfl (lv_at hl 0 rfl) ?_
        refine cga (rn_V (As := [.int p1, .int g122]) (rest := [.int g123]) (b := o) (m_isCaught l D Y Z H.size o a (upd (upd (upd (upd (upd I 29 g124) 34 g127) 35 g128) 36 g129) 39 g132) (vp_updL (vp_updL (vp_updL (vp_updL J 30 g125) 31 g126) 37 g130) 38 g131) (vf_upd (vf_upd (vf_upd F 28 f133) 41 f135) 43 f137) (vf_upd (vf_upd G 40 f134) 42 f136)  p1 g122 (show (0 ≤ p1.toInt ∧ p1.toInt ≤ 5) by omega) (show (p1.toInt < ((F 4) 1).toInt) by omega) (show (0 ≤ g122.toInt ∧ g122.toInt ≤ 39) by omega) (show (g122.toInt < ((F 0) 1).toInt) by omega) hk0 hp266 hk2) ⟨hx, hb, hml, hown, hg⟩ lk_X11_503 ⟨CP.blind, va_recv hKN.1 hP (ci := 11) (q0 := 0) rfl rfl, CP.at hP hKN hD⟩ ⟨⟨rfl, rfl⟩, ⟨Nat.le_of_ble_eq_true rfl, Nat.le_of_ble_eq_true rfl⟩, ⟨Nat.le_of_ble_eq_true rfl, Nat.le_of_ble_eq_true rfl⟩⟩ hl.1 rfl (Nat.le_of_ble_eq_true rfl) dX11_caughtBy_26) hP hD hS hA (fun u367 H locs w368 hP hD hS => ?_)
        obtain ⟨u369, u370, u371, u372, u373, u374, u375, u376, u377, u378, f379, f380, f381, f382, f383⟩ := u367
        have w368 : (0 ≤ u369.toInt ∧ u369.toInt ≤ 1) ∧ LB f379 := w368
        obtain ⟨hw384, hw385⟩ := w368
        refine W.eq (g2 := F0 m 29 ls [.int u369, .int g123]) rfl ?_
        have hP : va_P D vwCl (MW Y o a (upd (upd (upd (upd (upd I 29 u376) 34 u370) 35 u371) 36 u372) 39 u373) (vp_updL (vp_updL (vp_updL (vp_updL J 30 u377) 31 u378) 37 u374) 38 u375) (vf_upd (vf_upd (vf_upd F 28 f379) 41 f381) 43 f383) (vf_upd (vf_upd G 40 f380) 42 f382)) H := hP
        have hD : va_D A (MW Y o a (upd (upd (upd (upd (upd I 29 u376) 34 u370) 35 u371) 36 u372) 39 u373) (vp_updL (vp_updL (vp_updL (vp_updL J 30 u377) 31 u378) 37 u374) 38 u375) (vf_upd (vf_upd (vf_upd F 28 f379) 41 f381) 43 f383) (vf_upd (vf_upd G 40 f380) 42 f382)) := hD
        rcases (show u369.toInt = 1 ∨ u369.toInt = 0 by omega) with c386 | c386
        · obtain rfl : u369 = 1 := i_is c386 (by decide)
          refine W.eq (g2 := F0 m 29 ls [.int 1, .int g123]) rfl ?_
          refine lv_if_eq (tgt := 36) hx hb dX11_caughtBy_29 (by decide) (fun c387 => ?_) (fun c387 => ?_)
          · exact absurd c387 (by decide)
          refine lv_iconst (v := 1) hx hb dX11_caughtBy_32 (by decide) ?_
          refine lv_goto (tgt := 37) hx hb dX11_caughtBy_33 (by decide) ?_
          refine W.widen (k := 0) (n := 0) (Nat.le_of_ble_eq_true rfl) (Nat.le_of_ble_eq_true rfl) ?_
          exact jn362 (1) H locs ls ⟨hP, hD, hS, lv_sub hl [0, 1, 2, 3] rfl, by omega⟩
        · obtain rfl : u369 = 0 := i_is c386 (by decide)
          have zi0 : (0 : Int32).toInt = 0 := by decide
          refine W.eq (g2 := F0 m 29 ls [.int 0, .int g123]) rfl ?_
          refine lv_if_eq (tgt := 36) hx hb dX11_caughtBy_29 (by decide) (fun c388 => ?_) (fun c388 => ?_)
          rotate_left
          · exact absurd c388 (by decide)
          refine lv_iconst (v := 0) hx hb dX11_caughtBy_36 (by decide) ?_
          refine W.widen (k := 0) (n := 0) (Nat.le_of_ble_eq_true rfl) (Nat.le_of_ble_eq_true rfl) ?_
          exact jn362 (0) H locs ls ⟨hP, hD, hS, lv_sub hl [0, 1, 2, 3] rfl, by omega⟩
    · obtain rfl : u332 = 0 := i_is c337 (by decide)
      have zi0 : (0 : Int32).toInt = 0 := by decide
      refine W.eq (g2 := F0 m 20 ls [.int 0, .int g123]) rfl ?_
      refine lv_if_eq (tgt := 36) hx hb dX11_caughtBy_20 (by decide) (fun c390 => ?_) (fun c390 => ?_)
      rotate_left
      · exact absurd c390 (by decide)
      refine lv_iconst (v := 0) hx hb dX11_caughtBy_36 (by decide) ?_
      refine lv_iadd hx hb dX11_caughtBy_37 ?_
      refine lv_topi (fun v391 ev391 => ?_)
      have hv391 := i_add (Eq.refl g123.toInt) (show (0 : Int32).toInt = 0 by decide) ev391 (by omega) (by omega)
      refine lv_istore_n (lv' := [(2, .int v391), (3, .int g122), (0, .ref o), (1, .int p1)]) hx hb dX11_caughtBy_38 rfl hl (by decide) rfl (fun ls hl => ?_)
      obtain ⟨v392, ev392⟩ : ∃ y : Int32, y = g122 + 1 := ⟨_, rfl⟩
      have hv392 := i_add (Eq.refl g122.toInt) (show (1 : Int32).toInt = 1 by decide) ev392 (by omega) (by omega)
      refine lv_iinc (v := v392) (lv' := [(3, .int v392), (2, .int v391), (0, .ref o), (1, .int p1)]) hx hb dX11_caughtBy_39 hl (k := 1) rfl (by rw [ev392]; rfl) (by decide) rfl (fun ls hl => ?_)
      refine lv_goto (tgt := 4) hx hb dX11_caughtBy_42 (by decide) ?_
      exact ih267 (v392, v391, g124, g125, g126, g127, g128, g129, g130, g131, g132, f133, f134, f135, f136, f137) H locs ls (by show (40 - v392.toInt).toNat < (40 - g122.toInt).toNat; omega) ⟨hP, hD, hS, lv_sub hl [0, 1, 2, 3] rfl, by omega, by omega, by omega, hp266⟩
set_option maxHeartbeats 4000000 in
set_option maxRecDepth 100000 in
theorem m_divisor (l : Launch) (D : va_G) (Y : Nat → ClassId) (Z : Nat → Nat) (sz : Nat)  (p0 : Int32) (p1 : Int32) (hk_0 : (0 ≤ p0.toInt)) (hk_1 : (0 ≤ p1.toInt)) : Met l yX11_divisor (.code yX11_divisor cX11_divisor 5 (some .int) :: GW) ({ frames := 0, cells := 0, slots := 0, locals := 0 }) (va_Pc [.int p0, .int p1] (CP D Y Z [] sz)) (QG (S := Int32) (fun u => some (.int u)) (fun u => (0 ≤ u.toInt) ∧ (p1.toInt ≠ 0 → 1 ≤ u.toInt)) (fun u => CB D [] (va_A [] sz)) (va_A [] sz)) 0 0 (va_A [] sz) := by
  refine Met.ofW (cc := cX11_divisor) (maxL := 5) (ret := (some .int)) (by decide) rfl ?_
  intro p e s m args below meth c s₁ B hml hv
  obtain ⟨rfl, hsz, hP, hKN, hD0⟩ := hv
  have hx := B.exec
  have hb := B.bytes
  have hr := B.returns
  have hts := atoms_spec (ws := .code yX11_divisor cX11_divisor 5 (some .int) :: GW) B.pre
  have hg : ∀ w ∈ GW, w.before _ s = true := fun w h => hts w (List.mem_cons_of_mem _ h)
  have hown : s.vm.findClass RX11 = some m.cls := findClass_of_methodNamed B.named
  have hlocks := B.notSynchronized
  subst hsz
  have hD := hD0.self (sz := s.heap.size)
  generalize hAe : va_A [] s.heap.size = A at hD ⊢
  have hA : ∀ q : Nat, s.heap.size ≤ q → A q := fun q h => by rw [← hAe]; exact Or.inr h
  clear hAe hD0 hts B
  have hl := lv_entry ([.int p0, .int p1]) (n := 5) (Nat.le_of_ble_eq_true rfl)
  rw [lg_entry_eq]
  generalize (lg_sl ([.int p0, .int p1]) ++ List.replicate (5 - (lg_sl ([.int p0, .int p1])).length) Slot.unset).toArray = ls at hl ⊢
  have hl : lv_has ls 5 [(0, .int p0), (1, .int p1)] := hl
  refine w_start (A0 := A) hP (fun H locs hP hS => ?_)
  refine lv_iload_n hx hb dX11_divisor_0 rfl (lv_at hl 0 rfl) ?_
  refine lv_istore_n (lv' := [(2, .int p0), (0, .int p0), (1, .int p1)]) hx hb dX11_divisor_1 rfl hl (by decide) rfl (fun ls hl => ?_)
  refine lv_iload_n hx hb dX11_divisor_2 rfl (lv_at hl 2 rfl) ?_
  refine lv_istore_n (lv' := [(3, .int p1), (2, .int p0), (0, .int p0), (1, .int p1)]) hx hb dX11_divisor_3 rfl hl (by decide) rfl (fun ls hl => ?_)
  refine w_loop (σ := Int32 × Int32) (fun xx H locs ls => match xx with | (g7, g8) => va_P D vwCl [] H ∧ va_D A [] ∧ va_S A s.heap H locs ∧ lv_has ls 5 [(3, .int g7), (2, .int g8), (0, .int p0), (1, .int p1)] ∧ (0 ≤ g8.toInt) ∧ (0 ≤ g7.toInt) ∧ (p1.toInt ≠ 0 → (g8.toInt ≠ 0 ∨ g7.toInt ≠ 0))) (fun xx => match xx with | (g7, g8) => (g7.toInt).toNat) (p1, p0) ⟨hP, hD, hS, lv_sub hl [0, 1, 2, 3] rfl, by omega, by omega, by omega⟩ (fun xx H locs ls hI ih => ?_)
  obtain ⟨g7, g8⟩ := xx
  obtain ⟨hP, hD, hS, hl, hq15, hq16, hq17⟩ := hI
  have ih18 := ih
  refine lv_iload_n hx hb dX11_divisor_4 rfl (lv_at hl 0 rfl) ?_
  have j22 := rgI g7
  refine lv_if_eq (tgt := 21) hx hb dX11_divisor_5 (by decide) (fun c23 => ?_) (fun c23 => ?_)
  · skip
    have c23 := i_eq (Eq.refl g7.toInt) (show (0 : Int32).toInt = 0 by decide) c23
    refine lv_iload_n hx hb dX11_divisor_21 rfl (lv_at hl 1 rfl) ?_
    refine W.widen (k := 0) (n := 0) (Nat.le_of_ble_eq_true rfl) (Nat.le_of_ble_eq_true rfl) ?_
    exact W.iret (v := g8) hx hb hr (fun t ht hW => ⟨⟨g8, rfl, ⟨(show (0 ≤ g8.toInt) by omega), (show (p1.toInt ≠ 0 → 1 ≤ g8.toInt) by omega)⟩, CB.nil⟩, hS.F ht⟩) hS.2.2 dX11_divisor_22
  · skip
    have c23 := i_ne (Eq.refl g7.toInt) (show (0 : Int32).toInt = 0 by decide) c23
    refine lv_iload_n hx hb dX11_divisor_8 rfl (lv_at hl 1 rfl) ?_
    refine lv_iload_n hx hb dX11_divisor_9 rfl (lv_at hl 0 rfl) ?_
    refine lv_irem hx hb dX11_divisor_10 (i_nz (Eq.refl g7.toInt) (by omega)) ?_
    refine lv_topi (fun v24 ev24 => ?_)
    have hv24 := i_rem (Eq.refl g8.toInt) (Eq.refl g7.toInt) ev24 (by omega) (by omega)
    refine lv_istore (lv' := [(4, .int v24), (3, .int g7), (2, .int g8), (0, .int p0), (1, .int p1)]) hx hb dX11_divisor_11 hl (by decide) rfl (fun ls hl => ?_)
    refine lv_iload_n hx hb dX11_divisor_13 rfl (lv_at hl 1 rfl) ?_
    refine lv_istore_n (lv' := [(2, .int g7), (4, .int v24), (3, .int g7), (0, .int p0), (1, .int p1)]) hx hb dX11_divisor_14 rfl hl (by decide) rfl (fun ls hl => ?_)
    refine lv_iload hx hb dX11_divisor_15 (lv_at hl 1 rfl) ?_
    refine lv_istore_n (lv' := [(3, .int v24), (2, .int g7), (4, .int v24), (0, .int p0), (1, .int p1)]) hx hb dX11_divisor_17 rfl hl (by decide) rfl (fun ls hl => ?_)
    refine lv_goto (tgt := 4) hx hb dX11_divisor_18 (by decide) ?_
    exact ih18 (v24, g7) H locs ls (by show (v24.toInt).toNat < (g7.toInt).toNat; omega) ⟨hP, hD, hS, lv_sub hl [0, 1, 3, 4] rfl, by omega, by omega, by omega⟩
set_option maxHeartbeats 4000000 in
set_option maxRecDepth 100000 in
theorem m_share (l : Launch) (D : va_G) (Y : Nat → ClassId) (Z : Nat → Nat) (sz : Nat) (o : Nat) (a : Nat → Nat) (I : Nat → Int32) (J : Nat → Int64) (F : Nat → Nat → Int32) (G : Nat → Nat → Int64) (p1 : Int32) (p2 : Int32) (hk0 : TO (F 0)) (hk1 : LB (F 28)) (hk2 : TX (F 4) (F 9) (F 10) (F 11) (F 12) (F 13)) : Met l yX11_share (.code yX11_share cX11_share 6 (some .int) :: GW) ({ frames := 9, cells := 0, slots := 0, locals := 214 }) (va_Pc [.ref o, .int p1, .int p2] (CP D Y Z (MW Y o a I J F G) sz)) (QG (S := Int32 × Int32 × Int32 × Int32 × Int32 × Int64 × Int64 × Int32 × Int64 × Int64 × (Nat → Int32) × (Nat → Int64) × (Nat → Int32) × (Nat → Int64) × (Nat → Int32)) (fun u => some (.int u.1)) (fun u => LB u.2.2.2.2.2.2.2.2.2.2.1) (fun u => CB D (MW Y o a (upd (upd (upd (upd (upd I 29 u.2.2.2.2.2.2.2.1) 34 u.2.1) 35 u.2.2.1) 36 u.2.2.2.1) 39 u.2.2.2.2.1) (vp_updL (vp_updL (vp_updL (vp_updL J 30 u.2.2.2.2.2.2.2.2.1) 31 u.2.2.2.2.2.2.2.2.2.1) 37 u.2.2.2.2.2.1) 38 u.2.2.2.2.2.2.1) (vf_upd (vf_upd (vf_upd F 28 u.2.2.2.2.2.2.2.2.2.2.1) 41 u.2.2.2.2.2.2.2.2.2.2.2.2.1) 43 u.2.2.2.2.2.2.2.2.2.2.2.2.2.2) (vf_upd (vf_upd G 40 u.2.2.2.2.2.2.2.2.2.2.2.1) 42 u.2.2.2.2.2.2.2.2.2.2.2.2.2.1)) (va_A (MW Y o a I J F G) sz)) (va_A (MW Y o a I J F G) sz)) 0 0 (va_A (MW Y o a I J F G) sz) := by
  refine Met.ofW (cc := cX11_share) (maxL := 6) (ret := (some .int)) (by decide) rfl ?_
  intro p e s m args below meth c s₁ B hml hv
  obtain ⟨rfl, hsz, hP, hKN, hD0⟩ := hv
  have hx := B.exec
  have hb := B.bytes
  have hr := B.returns
  have hts := atoms_spec (ws := .code yX11_share cX11_share 6 (some .int) :: GW) B.pre
  have hg : ∀ w ∈ GW, w.before _ s = true := fun w h => hts w (List.mem_cons_of_mem _ h)
  have hown : s.vm.findClass RX11 = some m.cls := findClass_of_methodNamed B.named
  have hlocks := B.notSynchronized
  subst hsz
  have hD := hD0.self (sz := s.heap.size)
  generalize hAe : va_A (MW Y o a I J F G) s.heap.size = A at hD ⊢
  have hA : ∀ q : Nat, s.heap.size ≤ q → A q := fun q h => by rw [← hAe]; exact Or.inr h
  clear hAe hD0 hts B
  have hl := lv_entry ([.ref o, .int p1, .int p2]) (n := 6) (Nat.le_of_ble_eq_true rfl)
  rw [lg_entry_eq]
  generalize (lg_sl ([.ref o, .int p1, .int p2]) ++ List.replicate (6 - (lg_sl ([.ref o, .int p1, .int p2])).length) Slot.unset).toArray = ls at hl ⊢
  have hl : lv_has ls 6 [(0, .ref o), (1, .int p1), (2, .int p2)] := hl
  refine w_start (A0 := A) hP (fun H locs hP hS => ?_)
  refine lv_aload_n hx hb dX11_share_0 rfl (lv_at hl 0 rfl) ?_
  refine lv_iconst (v := 1) hx hb dX11_share_1 (by decide) ?_
  refine lv_iload_n hx hb dX11_share_2 rfl (lv_at hl 1 rfl) ?_
  have zi1 : (1 : Int32).toInt = 1 := by decide
  refine cga (rn_V (As := [.int 1, .int p1]) (rest := []) (b := o) (m_isText1 l D Y Z H.size o a I J F G  p1 hk2) ⟨hx, hb, hml, hown, hg⟩ lk_X11_366 ⟨CP.blind, va_recv hKN.1 hP (ci := 11) (q0 := 0) rfl rfl, CP.at hP hKN hD⟩ ⟨⟨rfl, rfl⟩, ⟨Nat.le_of_ble_eq_true rfl, Nat.le_of_ble_eq_true rfl⟩, ⟨Nat.le_of_ble_eq_true rfl, Nat.le_of_ble_eq_true rfl⟩⟩ hl.1 rfl (Nat.le_of_ble_eq_true rfl) dX11_share_3) hP hD hS hA (fun u1 H locs w2 hP hD hS => ?_)
  have w2 : ((0 ≤ p1.toInt ∧ p1.toInt ≤ 5 ∧ p1.toInt < ((F 4) 1).toInt ∧ u1.toInt = 1) ∨ u1.toInt = 0) ∧ (0 ≤ u1.toInt ∧ u1.toInt ≤ 1) := w2
  obtain ⟨hw4, hw5⟩ := w2
  refine W.eq (g2 := F0 m 6 ls [.int u1]) rfl ?_
  have hP : va_P D vwCl (MW Y o a I J F G) H := hP
  have hD : va_D A (MW Y o a I J F G) := hD
  rcases (show u1.toInt = 1 ∨ u1.toInt = 0 by omega) with c6 | c6
  · obtain rfl : u1 = 1 := i_is c6 (by decide)
    refine W.eq (g2 := F0 m 6 ls [.int 1]) rfl ?_
    refine lv_if_eq (tgt := 19) hx hb dX11_share_6 (by decide) (fun c7 => ?_) (fun c7 => ?_)
    · exact absurd c7 (by decide)
    refine lv_iload_n hx hb dX11_share_9 rfl (lv_at hl 2 rfl) ?_
    have j8 := rgI p2
    have j9 := Int32.toInt_toInt64 p2
    refine lv_i2l (v := p2.toInt64) hx hb dX11_share_10 (rfl) ?_
    refine lv_lconst (v := 0) hx hb dX11_share_11 (by decide) ?_
    refine lv_lconst (v := 1) hx hb dX11_share_12 (by decide) ?_
    have zl0 : (0 : Int64).toInt = 0 := by decide
    have zl1 : (1 : Int64).toInt = 1 := by decide
    refine cg0 (rn_S (As := [.long p2.toInt64, .long 0, .long 1]) (rest := []) (m_in l D Y Z H.size   p2.toInt64 0 1 ) ⟨hx, hb, hml, hown, hg⟩ lk_X11_99 ⟨CP.blind, CP.at nilP hKN (nilD (A := fun _ => True))⟩ ⟨⟨rfl, rfl⟩, ⟨Nat.le_of_ble_eq_true rfl, Nat.le_of_ble_eq_true rfl⟩, ⟨Nat.le_of_ble_eq_true rfl, Nat.le_of_ble_eq_true rfl⟩⟩ hl.1 rfl (Nat.le_of_ble_eq_true rfl) dX11_share_13) hP hS hA (fun u10 H locs w11 hP hS => ?_)
    have w11 : (((0 : Int64).toInt ≤ p2.toInt64.toInt ∧ p2.toInt64.toInt ≤ (1 : Int64).toInt ∧ u10.toInt = 1) ∨ (¬ ((0 : Int64).toInt ≤ p2.toInt64.toInt ∧ p2.toInt64.toInt ≤ (1 : Int64).toInt) ∧ u10.toInt = 0)) ∧ (0 ≤ u10.toInt ∧ u10.toInt ≤ 1) := w11
    obtain ⟨hw13, hw14⟩ := w11
    refine W.eq (g2 := F0 m 16 ls [.int u10]) rfl ?_
    rcases (show u10.toInt = 1 ∨ u10.toInt = 0 by omega) with c15 | c15
    · obtain rfl : u10 = 1 := i_is c15 (by decide)
      refine W.eq (g2 := F0 m 16 ls [.int 1]) rfl ?_
      refine lv_if_ne (tgt := 21) hx hb dX11_share_16 (by decide) (fun c16 => ?_) (fun c16 => ?_)
      rotate_left
      · exact absurd c16 (by decide)
      refine lv_aload_n hx hb dX11_share_21 rfl (lv_at hl 0 rfl) ?_
      refine cga (rn_V (As := []) (rest := []) (b := o) (m_putIn l D Y Z H.size o a I J F G   hk0) ⟨hx, hb, hml, hown, hg⟩ lk_X11_506 ⟨CP.blind, va_recv hKN.1 hP (ci := 11) (q0 := 0) rfl rfl, CP.at hP hKN hD⟩ ⟨⟨rfl, rfl⟩, ⟨Nat.le_of_ble_eq_true rfl, Nat.le_of_ble_eq_true rfl⟩, ⟨Nat.le_of_ble_eq_true rfl, Nat.le_of_ble_eq_true rfl⟩⟩ hl.1 rfl (Nat.le_of_ble_eq_true rfl) dX11_share_22) hP hD hS hA (fun u17 H locs w18 hP hD hS => ?_)
      have w18 : (0 ≤ u17.toInt ∧ u17.toInt ≤ 40) := w18
      have hw20 := w18
      refine W.eq (g2 := F0 m 25 ls [.int u17]) rfl ?_
      have hP : va_P D vwCl (MW Y o a I J F G) H := hP
      have hD : va_D A (MW Y o a I J F G) := hD
      refine lv_istore_n (lv' := [(3, .int u17), (0, .ref o), (1, .int p1), (2, .int p2)]) hx hb dX11_share_25 rfl hl (by decide) rfl (fun ls hl => ?_)
      refine lv_iload_n hx hb dX11_share_26 rfl (lv_at hl 0 rfl) ?_
      refine lv_if_ne (tgt := 32) hx hb dX11_share_27 (by decide) (fun c21 => ?_) (fun c21 => ?_)
      · skip
        have c21 := i_ne (Eq.refl u17.toInt) (show (0 : Int32).toInt = 0 by decide) c21
        refine lv_aload_n hx hb dX11_share_32 rfl (lv_at hl 1 rfl) ?_
        refine lv_iload_n hx hb dX11_share_33 rfl (lv_at hl 2 rfl) ?_
        refine cga (rn_V (As := [.int p1]) (rest := []) (b := o) (m_caughtBy l D Y Z H.size o a I J F G  p1 (show (0 ≤ p1.toInt ∧ p1.toInt ≤ 5) by omega) (show (p1.toInt < ((F 4) 1).toInt) by omega) hk0 hk1 hk2) ⟨hx, hb, hml, hown, hg⟩ lk_X11_509 ⟨CP.blind, va_recv hKN.1 hP (ci := 11) (q0 := 0) rfl rfl, CP.at hP hKN hD⟩ ⟨⟨rfl, rfl⟩, ⟨Nat.le_of_ble_eq_true rfl, Nat.le_of_ble_eq_true rfl⟩, ⟨Nat.le_of_ble_eq_true rfl, Nat.le_of_ble_eq_true rfl⟩⟩ hl.1 rfl (Nat.le_of_ble_eq_true rfl) dX11_share_34) hP hD hS hA (fun u22 H locs w23 hP hD hS => ?_)
        obtain ⟨u24, u25, u26, u27, u28, u29, u30, u31, u32, u33, f34, f35, f36, f37, f38⟩ := u22
        have w23 : (0 ≤ u24.toInt ∧ u24.toInt ≤ 40) ∧ LB f34 := w23
        obtain ⟨hw39, hw40⟩ := w23
        refine W.eq (g2 := F0 m 37 ls [.int u24]) rfl ?_
        have hP : va_P D vwCl (MW Y o a (upd (upd (upd (upd (upd I 29 u31) 34 u25) 35 u26) 36 u27) 39 u28) (vp_updL (vp_updL (vp_updL (vp_updL J 30 u32) 31 u33) 37 u29) 38 u30) (vf_upd (vf_upd (vf_upd F 28 f34) 41 f36) 43 f38) (vf_upd (vf_upd G 40 f35) 42 f37)) H := hP
        have hD : va_D A (MW Y o a (upd (upd (upd (upd (upd I 29 u31) 34 u25) 35 u26) 36 u27) 39 u28) (vp_updL (vp_updL (vp_updL (vp_updL J 30 u32) 31 u33) 37 u29) 38 u30) (vf_upd (vf_upd (vf_upd F 28 f34) 41 f36) 43 f38) (vf_upd (vf_upd G 40 f35) 42 f37)) := hD
        refine lv_istore (lv' := [(4, .int u24), (3, .int u17), (0, .ref o), (1, .int p1), (2, .int p2)]) hx hb dX11_share_37 hl (by decide) rfl (fun ls hl => ?_)
        refine lv_iload hx hb dX11_share_39 (lv_at hl 0 rfl) ?_
        refine lv_iload_n hx hb dX11_share_41 rfl (lv_at hl 1 rfl) ?_
        refine cg0 (rn_S (As := [.int u24, .int u17]) (rest := []) (m_divisor l D Y Z H.size   u24 u17 (show (0 ≤ u24.toInt) by omega) (show (0 ≤ u17.toInt) by omega)) ⟨hx, hb, hml, hown, hg⟩ lk_X11_512 ⟨CP.blind, CP.at nilP hKN (nilD (A := fun _ => True))⟩ ⟨⟨rfl, rfl⟩, ⟨Nat.le_of_ble_eq_true rfl, Nat.le_of_ble_eq_true rfl⟩, ⟨Nat.le_of_ble_eq_true rfl, Nat.le_of_ble_eq_true rfl⟩⟩ hl.1 rfl (Nat.le_of_ble_eq_true rfl) dX11_share_42) hP hS hA (fun u41 H locs w42 hP hS => ?_)
        have w42 : (0 ≤ u41.toInt) ∧ (u17.toInt ≠ 0 → 1 ≤ u41.toInt) := w42
        obtain ⟨hw44, hw45⟩ := w42
        refine W.eq (g2 := F0 m 45 ls [.int u41]) rfl ?_
        refine lv_istore (lv' := [(5, .int u41), (4, .int u24), (3, .int u17), (0, .ref o), (1, .int p1), (2, .int p2)]) hx hb dX11_share_45 hl (by decide) rfl (fun ls hl => ?_)
        refine lv_iload_n hx hb dX11_share_47 rfl (lv_at hl 5 rfl) ?_
        refine lv_if_ne (tgt := 56) hx hb dX11_share_48 (by decide) (fun c47 => ?_) (fun c47 => ?_)
        · skip
          have c47 := i_ne (Eq.refl p2.toInt) (show (0 : Int32).toInt = 0 by decide) c47
          refine lv_iload_n hx hb dX11_share_56 rfl (lv_at hl 2 rfl) ?_
          refine lv_iload hx hb dX11_share_57 (lv_at hl 0 rfl) ?_
          refine lv_idiv hx hb dX11_share_59 (i_nz (Eq.refl u41.toInt) (by omega)) ?_
          refine lv_topi (fun v48 ev48 => ?_)
          refine W.widen (k := 0) (n := 0) (Nat.le_of_ble_eq_true rfl) (Nat.le_of_ble_eq_true rfl) ?_
          exact W.iret (v := v48) hx hb hr (fun t ht hW => ⟨⟨(v48, u25, u26, u27, u28, u29, u30, u31, u32, u33, f34, f35, f36, f37, f38), rfl, (hw40), CB.mk ht hP hD⟩, hS.F ht⟩) hS.2.2 dX11_share_60
        · skip
          have c47 := i_eq (Eq.refl p2.toInt) (show (0 : Int32).toInt = 0 by decide) c47
          refine lv_iload hx hb dX11_share_51 (lv_at hl 1 rfl) ?_
          refine lv_goto (tgt := 57) hx hb dX11_share_53 (by decide) ?_
          refine lv_iload hx hb dX11_share_57 (lv_at hl 0 rfl) ?_
          refine lv_idiv hx hb dX11_share_59 (i_nz (Eq.refl u41.toInt) (by omega)) ?_
          refine lv_topi (fun v49 ev49 => ?_)
          refine W.widen (k := 0) (n := 0) (Nat.le_of_ble_eq_true rfl) (Nat.le_of_ble_eq_true rfl) ?_
          exact W.iret (v := v49) hx hb hr (fun t ht hW => ⟨⟨(v49, u25, u26, u27, u28, u29, u30, u31, u32, u33, f34, f35, f36, f37, f38), rfl, (hw40), CB.mk ht hP hD⟩, hS.F ht⟩) hS.2.2 dX11_share_60
      · skip
        have c21 := i_eq (Eq.refl u17.toInt) (show (0 : Int32).toInt = 0 by decide) c21
        refine lv_iconst (v := 0) hx hb dX11_share_30 (by decide) ?_
        refine W.widen (k := 0) (n := 0) (Nat.le_of_ble_eq_true rfl) (Nat.le_of_ble_eq_true rfl) ?_
        have zi0 : (0 : Int32).toInt = 0 := by decide
        exact W.iret (v := 0) hx hb hr (fun t ht hW => ⟨⟨(0, (I 34), (I 35), (I 36), (I 39), (J 37), (J 38), (I 29), (J 30), (J 31), (F 28), (G 40), (F 41), (G 42), (F 43)), rfl, (hk1), CB.mk ht hP hD⟩, hS.F ht⟩) hS.2.2 dX11_share_31
    · obtain rfl : u10 = 0 := i_is c15 (by decide)
      have zi0 : (0 : Int32).toInt = 0 := by decide
      refine W.eq (g2 := F0 m 16 ls [.int 0]) rfl ?_
      refine lv_if_ne (tgt := 21) hx hb dX11_share_16 (by decide) (fun c50 => ?_) (fun c50 => ?_)
      · exact absurd c50 (by decide)
      refine lv_iconst (v := (-1)) hx hb dX11_share_19 (by decide) ?_
      refine W.widen (k := 0) (n := 0) (Nat.le_of_ble_eq_true rfl) (Nat.le_of_ble_eq_true rfl) ?_
      have zim1 : ((-1) : Int32).toInt = -1 := by decide
      exact W.iret (v := (-1)) hx hb hr (fun t ht hW => ⟨⟨((-1), (I 34), (I 35), (I 36), (I 39), (J 37), (J 38), (I 29), (J 30), (J 31), (F 28), (G 40), (F 41), (G 42), (F 43)), rfl, (hk1), CB.mk ht hP hD⟩, hS.F ht⟩) hS.2.2 dX11_share_20
  · obtain rfl : u1 = 0 := i_is c6 (by decide)
    have zi0 : (0 : Int32).toInt = 0 := by decide
    refine W.eq (g2 := F0 m 6 ls [.int 0]) rfl ?_
    refine lv_if_eq (tgt := 19) hx hb dX11_share_6 (by decide) (fun c51 => ?_) (fun c51 => ?_)
    rotate_left
    · exact absurd c51 (by decide)
    refine lv_iconst (v := (-1)) hx hb dX11_share_19 (by decide) ?_
    refine W.widen (k := 0) (n := 0) (Nat.le_of_ble_eq_true rfl) (Nat.le_of_ble_eq_true rfl) ?_
    have zim1 : ((-1) : Int32).toInt = -1 := by decide
    exact W.iret (v := (-1)) hx hb hr (fun t ht hW => ⟨⟨((-1), (I 34), (I 35), (I 36), (I 39), (J 37), (J 38), (I 29), (J 30), (J 31), (F 28), (G 40), (F 41), (G 42), (F 43)), rfl, (hk1), CB.mk ht hP hD⟩, hS.F ht⟩) hS.2.2 dX11_share_20
set_option maxHeartbeats 4000000 in
set_option maxRecDepth 100000 in
theorem m_chance (l : Launch) (D : va_G) (Y : Nat → ClassId) (Z : Nat → Nat) (sz : Nat) (o : Nat) (a : Nat → Nat) (I : Nat → Int32) (J : Nat → Int64) (F : Nat → Nat → Int32) (G : Nat → Nat → Int64) (p1 : Int32) (p2 : Int32) (p3 : Int32) (hk0 : TO (F 0)) (hk1 : LB (F 28)) (hk2 : TX (F 4) (F 9) (F 10) (F 11) (F 12) (F 13)) : Met l yX11_chance (.code yX11_chance cX11_chance 6 (some .int) :: GW) ({ frames := 7, cells := 0, slots := 0, locals := 169 }) (va_Pc [.ref o, .int p1, .int p2, .int p3] (CP D Y Z (MW Y o a I J F G) sz)) (QG (S := Int32 × Int32 × Int32 × Int32 × Int32 × Int64 × Int64 × Int32 × Int64 × Int64 × (Nat → Int32) × (Nat → Int32) × (Nat → Int64) × (Nat → Int32) × (Nat → Int64) × (Nat → Int32)) (fun u => some (.int u.1)) (fun u => LB u.2.2.2.2.2.2.2.2.2.2.2.1) (fun u => CB D (MW Y o a (upd (upd (upd (upd (upd I 29 u.2.2.2.2.2.2.2.1) 34 u.2.1) 35 u.2.2.1) 36 u.2.2.2.1) 39 u.2.2.2.2.1) (vp_updL (vp_updL (vp_updL (vp_updL J 30 u.2.2.2.2.2.2.2.2.1) 31 u.2.2.2.2.2.2.2.2.2.1) 37 u.2.2.2.2.2.1) 38 u.2.2.2.2.2.2.1) (vf_upd (vf_upd (vf_upd (vf_upd F 1 u.2.2.2.2.2.2.2.2.2.2.1) 28 u.2.2.2.2.2.2.2.2.2.2.2.1) 41 u.2.2.2.2.2.2.2.2.2.2.2.2.2.1) 43 u.2.2.2.2.2.2.2.2.2.2.2.2.2.2.2) (vf_upd (vf_upd G 40 u.2.2.2.2.2.2.2.2.2.2.2.2.1) 42 u.2.2.2.2.2.2.2.2.2.2.2.2.2.2.1)) (va_A (MW Y o a I J F G) sz)) (va_A (MW Y o a I J F G) sz)) 0 0 (va_A (MW Y o a I J F G) sz) := by
  refine Met.ofW (cc := cX11_chance) (maxL := 6) (ret := (some .int)) (by decide) rfl ?_
  intro p e s m args below meth c s₁ B hml hv
  obtain ⟨rfl, hsz, hP, hKN, hD0⟩ := hv
  have hx := B.exec
  have hb := B.bytes
  have hr := B.returns
  have hts := atoms_spec (ws := .code yX11_chance cX11_chance 6 (some .int) :: GW) B.pre
  have hg : ∀ w ∈ GW, w.before _ s = true := fun w h => hts w (List.mem_cons_of_mem _ h)
  have hown : s.vm.findClass RX11 = some m.cls := findClass_of_methodNamed B.named
  have hlocks := B.notSynchronized
  subst hsz
  have hD := hD0.self (sz := s.heap.size)
  generalize hAe : va_A (MW Y o a I J F G) s.heap.size = A at hD ⊢
  have hA : ∀ q : Nat, s.heap.size ≤ q → A q := fun q h => by rw [← hAe]; exact Or.inr h
  clear hAe hD0 hts B
  have hl := lv_entry ([.ref o, .int p1, .int p2, .int p3]) (n := 6) (Nat.le_of_ble_eq_true rfl)
  rw [lg_entry_eq]
  generalize (lg_sl ([.ref o, .int p1, .int p2, .int p3]) ++ List.replicate (6 - (lg_sl ([.ref o, .int p1, .int p2, .int p3])).length) Slot.unset).toArray = ls at hl ⊢
  have hl : lv_has ls 6 [(0, .ref o), (1, .int p1), (2, .int p2), (3, .int p3)] := hl
  refine w_start (A0 := A) hP (fun H locs hP hS => ?_)
  refine lv_aload_n hx hb dX11_chance_0 rfl (lv_at hl 0 rfl) ?_
  refine lv_iconst (v := 1) hx hb dX11_chance_1 (by decide) ?_
  refine lv_iload_n hx hb dX11_chance_2 rfl (lv_at hl 1 rfl) ?_
  have zi1 : (1 : Int32).toInt = 1 := by decide
  refine cga (rn_V (As := [.int 1, .int p1]) (rest := []) (b := o) (m_isText1 l D Y Z H.size o a I J F G  p1 hk2) ⟨hx, hb, hml, hown, hg⟩ lk_X11_366 ⟨CP.blind, va_recv hKN.1 hP (ci := 11) (q0 := 0) rfl rfl, CP.at hP hKN hD⟩ ⟨⟨rfl, rfl⟩, ⟨Nat.le_of_ble_eq_true rfl, Nat.le_of_ble_eq_true rfl⟩, ⟨Nat.le_of_ble_eq_true rfl, Nat.le_of_ble_eq_true rfl⟩⟩ hl.1 rfl (Nat.le_of_ble_eq_true rfl) dX11_chance_3) hP hD hS hA (fun u1 H locs w2 hP hD hS => ?_)
  have w2 : ((0 ≤ p1.toInt ∧ p1.toInt ≤ 5 ∧ p1.toInt < ((F 4) 1).toInt ∧ u1.toInt = 1) ∨ u1.toInt = 0) ∧ (0 ≤ u1.toInt ∧ u1.toInt ≤ 1) := w2
  obtain ⟨hw4, hw5⟩ := w2
  refine W.eq (g2 := F0 m 6 ls [.int u1]) rfl ?_
  have hP : va_P D vwCl (MW Y o a I J F G) H := hP
  have hD : va_D A (MW Y o a I J F G) := hD
  rcases (show u1.toInt = 1 ∨ u1.toInt = 0 by omega) with c6 | c6
  · obtain rfl : u1 = 1 := i_is c6 (by decide)
    refine W.eq (g2 := F0 m 6 ls [.int 1]) rfl ?_
    refine lv_if_eq (tgt := 33) hx hb dX11_chance_6 (by decide) (fun c7 => ?_) (fun c7 => ?_)
    · exact absurd c7 (by decide)
    refine lv_iload_n hx hb dX11_chance_9 rfl (lv_at hl 2 rfl) ?_
    have j8 := rgI p2
    have j9 := Int32.toInt_toInt64 p2
    refine lv_i2l (v := p2.toInt64) hx hb dX11_chance_10 (rfl) ?_
    refine lv_lconst (v := 0) hx hb dX11_chance_11 (by decide) ?_
    refine lv_ldc2 (v := 999999) hx hb hown (hg _ kw_1767) dX11_chance_12 ?_
    have zl0 : (0 : Int64).toInt = 0 := by decide
    have zl999999 : (999999 : Int64).toInt = 999999 := by decide
    refine cg0 (rn_S (As := [.long p2.toInt64, .long 0, .long 999999]) (rest := []) (m_in l D Y Z H.size   p2.toInt64 0 999999 ) ⟨hx, hb, hml, hown, hg⟩ lk_X11_99 ⟨CP.blind, CP.at nilP hKN (nilD (A := fun _ => True))⟩ ⟨⟨rfl, rfl⟩, ⟨Nat.le_of_ble_eq_true rfl, Nat.le_of_ble_eq_true rfl⟩, ⟨Nat.le_of_ble_eq_true rfl, Nat.le_of_ble_eq_true rfl⟩⟩ hl.1 rfl (Nat.le_of_ble_eq_true rfl) dX11_chance_15) hP hS hA (fun u10 H locs w11 hP hS => ?_)
    have w11 : (((0 : Int64).toInt ≤ p2.toInt64.toInt ∧ p2.toInt64.toInt ≤ (999999 : Int64).toInt ∧ u10.toInt = 1) ∨ (¬ ((0 : Int64).toInt ≤ p2.toInt64.toInt ∧ p2.toInt64.toInt ≤ (999999 : Int64).toInt) ∧ u10.toInt = 0)) ∧ (0 ≤ u10.toInt ∧ u10.toInt ≤ 1) := w11
    obtain ⟨hw13, hw14⟩ := w11
    refine W.eq (g2 := F0 m 18 ls [.int u10]) rfl ?_
    rcases (show u10.toInt = 1 ∨ u10.toInt = 0 by omega) with c15 | c15
    · obtain rfl : u10 = 1 := i_is c15 (by decide)
      refine W.eq (g2 := F0 m 18 ls [.int 1]) rfl ?_
      refine lv_if_eq (tgt := 33) hx hb dX11_chance_18 (by decide) (fun c16 => ?_) (fun c16 => ?_)
      · exact absurd c16 (by decide)
      refine lv_iload_n hx hb dX11_chance_21 rfl (lv_at hl 3 rfl) ?_
      have j17 := rgI p3
      have j18 := Int32.toInt_toInt64 p3
      refine lv_i2l (v := p3.toInt64) hx hb dX11_chance_22 (rfl) ?_
      refine lv_lconst (v := 0) hx hb dX11_chance_23 (by decide) ?_
      refine lv_ldc2 (v := 5) hx hb hown (hg _ kw_1409) dX11_chance_24 ?_
      have zl5 : (5 : Int64).toInt = 5 := by decide
      refine cg0 (rn_S (As := [.long p3.toInt64, .long 0, .long 5]) (rest := []) (m_in l D Y Z H.size   p3.toInt64 0 5 ) ⟨hx, hb, hml, hown, hg⟩ lk_X11_99 ⟨CP.blind, CP.at nilP hKN (nilD (A := fun _ => True))⟩ ⟨⟨rfl, rfl⟩, ⟨Nat.le_of_ble_eq_true rfl, Nat.le_of_ble_eq_true rfl⟩, ⟨Nat.le_of_ble_eq_true rfl, Nat.le_of_ble_eq_true rfl⟩⟩ hl.1 rfl (Nat.le_of_ble_eq_true rfl) dX11_chance_27) hP hS hA (fun u19 H locs w20 hP hS => ?_)
      have w20 : (((0 : Int64).toInt ≤ p3.toInt64.toInt ∧ p3.toInt64.toInt ≤ (5 : Int64).toInt ∧ u19.toInt = 1) ∨ (¬ ((0 : Int64).toInt ≤ p3.toInt64.toInt ∧ p3.toInt64.toInt ≤ (5 : Int64).toInt) ∧ u19.toInt = 0)) ∧ (0 ≤ u19.toInt ∧ u19.toInt ≤ 1) := w20
      obtain ⟨hw22, hw23⟩ := w20
      refine W.eq (g2 := F0 m 30 ls [.int u19]) rfl ?_
      rcases (show u19.toInt = 1 ∨ u19.toInt = 0 by omega) with c24 | c24
      · obtain rfl : u19 = 1 := i_is c24 (by decide)
        refine W.eq (g2 := F0 m 30 ls [.int 1]) rfl ?_
        refine lv_if_ne (tgt := 35) hx hb dX11_chance_30 (by decide) (fun c25 => ?_) (fun c25 => ?_)
        rotate_left
        · exact absurd c25 (by decide)
        refine lv_iconst (v := 0) hx hb dX11_chance_35 (by decide) ?_
        refine lv_istore (lv' := [(4, .int 0), (0, .ref o), (1, .int p1), (2, .int p2), (3, .int p3)]) hx hb dX11_chance_36 hl (by decide) rfl (fun ls hl => ?_)
        refine lv_iconst (v := 0) hx hb dX11_chance_38 (by decide) ?_
        refine lv_istore (lv' := [(5, .int 0), (4, .int 0), (0, .ref o), (1, .int p1), (2, .int p2), (3, .int p3)]) hx hb dX11_chance_39 hl (by decide) rfl (fun ls hl => ?_)
        have zi0 : (0 : Int32).toInt = 0 := by decide
        refine w_loop (σ := Int32 × Int32 × Int32 × Int64 × Int64 × Int32 × Int32 × Int32 × Int64 × Int64 × Int32 × (Nat → Int32) × (Nat → Int32) × (Nat → Int64) × (Nat → Int32) × (Nat → Int64) × (Nat → Int32)) (fun xx H locs ls => match xx with | (g101, g102, g103, g104, g105, g106, g107, g108, g109, g110, g111, f112, f113, f114, f115, f116, f117) => va_P D vwCl (MW Y o a (upd (upd (upd (upd (upd I 29 g103) 34 g106) 35 g107) 36 g108) 39 g111) (vp_updL (vp_updL (vp_updL (vp_updL J 30 g104) 31 g105) 37 g109) 38 g110) (vf_upd (vf_upd (vf_upd (vf_upd F 1 f112) 28 f113) 41 f115) 43 f117) (vf_upd (vf_upd G 40 f114) 42 f116)) H ∧ va_D A (MW Y o a (upd (upd (upd (upd (upd I 29 g103) 34 g106) 35 g107) 36 g108) 39 g111) (vp_updL (vp_updL (vp_updL (vp_updL J 30 g104) 31 g105) 37 g109) 38 g110) (vf_upd (vf_upd (vf_upd (vf_upd F 1 f112) 28 f113) 41 f115) 43 f117) (vf_upd (vf_upd G 40 f114) 42 f116)) ∧ va_S A s.heap H locs ∧ lv_has ls 6 [(5, .int g101), (4, .int g102), (0, .ref o), (1, .int p1), (2, .int p2), (3, .int p3)] ∧ (0 ≤ g101.toInt ∧ g101.toInt ≤ 12) ∧ LB f113) (fun xx => match xx with | (g101, g102, g103, g104, g105, g106, g107, g108, g109, g110, g111, f112, f113, f114, f115, f116, f117) => (12 - g101.toInt).toNat) (0, 0, (I 29), (J 30), (J 31), (I 34), (I 35), (I 36), (J 37), (J 38), (I 39), (F 1), (F 28), (G 40), (F 41), (G 42), (F 43)) ⟨hP, hD, hS, lv_sub hl [0, 1, 2, 3, 4, 5] rfl, by omega, hk1⟩ (fun xx H locs ls hI ih => ?_)
        obtain ⟨g101, g102, g103, g104, g105, g106, g107, g108, g109, g110, g111, f112, f113, f114, f115, f116, f117⟩ := xx
        obtain ⟨hP, hD, hS, hl, hq197, hp198⟩ := hI
        have ih199 := ih
        refine lv_iload hx hb dX11_chance_41 (lv_at hl 0 rfl) ?_
        refine lv_aload_n hx hb dX11_chance_43 rfl (lv_at hl 2 rfl) ?_
        refine va_get (D := D) (ci := 11) (v := .ref (a 0)) (C := RX11) (T := TX11) (N := 49) hx hb hg inGX11 hown hKN.1 hP 0 rfl rfl 0 (by decide) (hg _ kw_1208) (fun _ h9 => h9) rfl dX11_chance_44 ?_
        refine lv_iconst (v := 0) hx hb dX11_chance_47 (by decide) ?_
        refine va_iald hx hb hKN.1 hP 1 0 rfl rfl (show ¬ ((0 : Int32) < 0 ∨ 7533 ≤ (0 : Int32).toNatClampNeg) by decide) dX11_chance_48 ?_
        refine lv_topi (fun v200 ev200 => ?_)
        have ev200 : v200 = (F 0) 0 := ev200
        have kv200 := TO_0 hk0
        rw [← ev200] at kv200
        have qv200 := congrArg Int32.toInt ev200
        refine lv_icmp_ge (tgt := 89) hx hb dX11_chance_49 (by decide) (fun c240 => ?_) (fun c240 => ?_)
        · skip
          have c240 := i_le (Eq.refl v200.toInt) (Eq.refl g101.toInt) c240
          refine lv_iload hx hb dX11_chance_89 (lv_at hl 1 rfl) ?_
          refine W.widen (k := 0) (n := 0) (Nat.le_of_ble_eq_true rfl) (Nat.le_of_ble_eq_true rfl) ?_
          exact W.iret (v := g102) hx hb hr (fun t ht hW => ⟨⟨(g102, g106, g107, g108, g111, g109, g110, g103, g104, g105, f112, f113, f114, f115, f116, f117), rfl, (hp198), CB.mk ht hP hD⟩, hS.F ht⟩) hS.2.2 dX11_chance_91
        · skip
          have c240 := i_nle (Eq.refl v200.toInt) (Eq.refl g101.toInt) c240
          refine lv_iload hx hb dX11_chance_52 (lv_at hl 1 rfl) ?_
          refine lv_aload_n hx hb dX11_chance_54 rfl (lv_at hl 2 rfl) ?_
          refine lv_iload_n hx hb dX11_chance_55 rfl (lv_at hl 3 rfl) ?_
          refine lv_iload hx hb dX11_chance_56 (lv_at hl 0 rfl) ?_
          refine lv_iload_n hx hb dX11_chance_58 rfl (lv_at hl 5 rfl) ?_
          refine cga (rn_V (As := [.int p1, .int g101, .int p3]) (rest := [.int g102]) (b := o) (m_finds l D Y Z H.size o a (upd (upd (upd (upd (upd I 29 g103) 34 g106) 35 g107) 36 g108) 39 g111) (vp_updL (vp_updL (vp_updL (vp_updL J 30 g104) 31 g105) 37 g109) 38 g110) (vf_upd (vf_upd (vf_upd (vf_upd F 1 f112) 28 f113) 41 f115) 43 f117) (vf_upd (vf_upd G 40 f114) 42 f116)  p1 g101 p3 (show (0 ≤ p1.toInt ∧ p1.toInt ≤ 5) by omega) (show (p1.toInt < ((F 4) 1).toInt) by omega) (show (0 ≤ g101.toInt ∧ g101.toInt ≤ 11) by omega) (show (0 ≤ p3.toInt ∧ p3.toInt ≤ 5) by omega) hk0 hp198 hk2) ⟨hx, hb, hml, hown, hg⟩ lk_X11_487 ⟨CP.blind, va_recv hKN.1 hP (ci := 11) (q0 := 0) rfl rfl, CP.at hP hKN hD⟩ ⟨⟨rfl, rfl⟩, ⟨Nat.le_of_ble_eq_true rfl, Nat.le_of_ble_eq_true rfl⟩, ⟨Nat.le_of_ble_eq_true rfl, Nat.le_of_ble_eq_true rfl⟩⟩ hl.1 rfl (Nat.le_of_ble_eq_true rfl) dX11_chance_59) hP hD hS hA (fun u241 H locs w242 hP hD hS => ?_)
          obtain ⟨u243, u244, u245, u246, u247, u248, u249, u250, u251, u252, f253, f254, f255, f256, f257, f258⟩ := u241
          have w242 : ((u243.toInt = 1 ∧ 1 ≤ u249.toInt ∧ 2 ≤ u244.toInt ∧ u244.toInt ≤ 200 ∧ 1 ≤ u245.toInt ∧ u245.toInt ≤ 10 ∧ 0 ≤ u246.toInt ∧ u246.toInt < u244.toInt ∧ -9000000000000 ≤ u248.toInt ∧ u248.toInt ≤ 9000000000000 ∧ (cin f254 (u244.toInt).toNat (u245.toInt).toNat (u246.toInt).toNat 600 : Int) ≠ u250.toInt) ∨ u243.toInt = 0) ∧ (0 ≤ u243.toInt ∧ u243.toInt ≤ 1) ∧ (0 ≤ u250.toInt ∧ u250.toInt ≤ 600) ∧ (-60000000 ≤ u251.toInt ∧ u251.toInt ≤ 60000000) ∧ (1 ≤ u252.toInt) ∧ LB f254 := w242
          obtain ⟨hw259, hw260, hw261, hw262, hw263, hw264⟩ := w242
          refine W.eq (g2 := F0 m 62 ls [.int u243, .int g102]) rfl ?_
          have hP : va_P D vwCl (MW Y o a (upd (upd (upd (upd (upd I 29 u250) 34 u244) 35 u245) 36 u246) 39 u247) (vp_updL (vp_updL (vp_updL (vp_updL J 30 u251) 31 u252) 37 u248) 38 u249) (vf_upd (vf_upd (vf_upd (vf_upd F 1 f253) 28 f254) 41 f256) 43 f258) (vf_upd (vf_upd G 40 f255) 42 f257)) H := hP
          have hD : va_D A (MW Y o a (upd (upd (upd (upd (upd I 29 u250) 34 u244) 35 u245) 36 u246) 39 u247) (vp_updL (vp_updL (vp_updL (vp_updL J 30 u251) 31 u252) 37 u248) 38 u249) (vf_upd (vf_upd (vf_upd (vf_upd F 1 f253) 28 f254) 41 f256) 43 f258) (vf_upd (vf_upd G 40 f255) 42 f257)) := hD
          rcases (show u243.toInt = 1 ∨ u243.toInt = 0 by omega) with c265 | c265
          · obtain rfl : u243 = 1 := i_is c265 (by decide)
            refine W.eq (g2 := F0 m 62 ls [.int 1, .int g102]) rfl ?_
            refine w_join (σ := Int32) (pcJ := 80) (kJ := 0) (nJ := 0) (stk := fun xx => match xx with | g268 => [.int g268, .int g102]) (fun xx H locs ls => match xx with | g268 => va_P D vwCl (MW Y o a (upd (upd (upd (upd (upd I 29 u250) 34 u244) 35 u245) 36 u246) 39 u247) (vp_updL (vp_updL (vp_updL (vp_updL J 30 u251) 31 u252) 37 u248) 38 u249) (vf_upd (vf_upd (vf_upd (vf_upd F 1 f253) 28 f254) 41 f256) 43 f258) (vf_upd (vf_upd G 40 f255) 42 f257)) H ∧ va_D A (MW Y o a (upd (upd (upd (upd (upd I 29 u250) 34 u244) 35 u245) 36 u246) 39 u247) (vp_updL (vp_updL (vp_updL (vp_updL J 30 u251) 31 u252) 37 u248) 38 u249) (vf_upd (vf_upd (vf_upd (vf_upd F 1 f253) 28 f254) 41 f256) 43 f258) (vf_upd (vf_upd G 40 f255) 42 f257)) ∧ va_S A s.heap H locs ∧ lv_has ls 6 [(5, .int g101), (4, .int g102), (0, .ref o), (1, .int p1), (2, .int p2), (3, .int p3)] ∧ (0 ≤ g268.toInt ∧ g268.toInt ≤ 1)) (fun xx H locs ls hI => ?_) (fun jn269 => ?_)
            · skip
              revert hI
              generalize xx = g268
              intro hI
              obtain ⟨hP, hD, hS, hl, hq270⟩ := hI
              refine W.eq (g2 := F0 m 80 ls [.int g268, .int g102]) rfl ?_
              refine lv_iadd hx hb dX11_chance_80 ?_
              refine lv_topi (fun v271 ev271 => ?_)
              refine lv_istore (lv' := [(4, .int v271), (5, .int g101), (0, .ref o), (1, .int p1), (2, .int p2), (3, .int p3)]) hx hb dX11_chance_81 hl (by decide) rfl (fun ls hl => ?_)
              obtain ⟨v272, ev272⟩ : ∃ y : Int32, y = g101 + 1 := ⟨_, rfl⟩
              have hv272 := i_add (Eq.refl g101.toInt) (show (1 : Int32).toInt = 1 by decide) ev272 (by omega) (by omega)
              refine lv_iinc (v := v272) (lv' := [(5, .int v272), (4, .int v271), (0, .ref o), (1, .int p1), (2, .int p2), (3, .int p3)]) hx hb dX11_chance_83 hl (k := 1) rfl (by rw [ev272]; rfl) (by decide) rfl (fun ls hl => ?_)
              refine lv_goto (tgt := 41) hx hb dX11_chance_86 (by decide) ?_
              exact ih199 (v272, v271, u250, u251, u252, u244, u245, u246, u248, u249, u247, f253, f254, f255, f256, f257, f258) H locs ls (by show (12 - v272.toInt).toNat < (12 - g101.toInt).toNat; omega) ⟨hP, hD, hS, lv_sub hl [0, 1, 2, 3, 4, 5] rfl, by omega, hw264⟩
            · skip
              refine lv_if_eq (tgt := 79) hx hb dX11_chance_62 (by decide) (fun c273 => ?_) (fun c273 => ?_)
              · exact absurd c273 (by decide)
              refine lv_aload_n hx hb dX11_chance_65 rfl (lv_at hl 2 rfl) ?_
              refine va_get (D := D) (ci := 11) (v := .long u249) (C := RX11) (T := TX11) (N := 49) hx hb hg inGX11 hown hKN.1 hP 0 rfl rfl 38 (by decide) (hg _ kw_1246) (fun _ h9 => h9) rfl dX11_chance_66 ?_
              refine lv_iload_n hx hb dX11_chance_69 rfl (lv_at hl 4 rfl) ?_
              refine lv_i2l (v := p2.toInt64) hx hb dX11_chance_70 (rfl) ?_
              refine W.lcmp hx hb dX11_chance_71 ?_
              refine lv_if_lt (tgt := 79) hx hb dX11_chance_72 (by decide) (fun c274 => ?_) (fun c274 => ?_)
              · skip
                have c274 := l_lt (Eq.refl u249.toInt) (Int32.toInt_toInt64 p2) c274
                refine lv_iconst (v := 0) hx hb dX11_chance_79 (by decide) ?_
                have zi0 : (0 : Int32).toInt = 0 := by decide
                refine W.widen (k := 0) (n := 0) (Nat.le_of_ble_eq_true rfl) (Nat.le_of_ble_eq_true rfl) ?_
                exact jn269 (0) H locs ls ⟨hP, hD, hS, lv_sub hl [0, 1, 2, 3, 4, 5] rfl, by omega⟩
              · skip
                have c274 := l_nlt (Eq.refl u249.toInt) (Int32.toInt_toInt64 p2) c274
                refine lv_iconst (v := 1) hx hb dX11_chance_75 (by decide) ?_
                refine lv_goto (tgt := 80) hx hb dX11_chance_76 (by decide) ?_
                refine W.widen (k := 0) (n := 0) (Nat.le_of_ble_eq_true rfl) (Nat.le_of_ble_eq_true rfl) ?_
                exact jn269 (1) H locs ls ⟨hP, hD, hS, lv_sub hl [0, 1, 2, 3, 4, 5] rfl, by omega⟩
          · obtain rfl : u243 = 0 := i_is c265 (by decide)
            have zi0 : (0 : Int32).toInt = 0 := by decide
            refine W.eq (g2 := F0 m 62 ls [.int 0, .int g102]) rfl ?_
            refine lv_if_eq (tgt := 79) hx hb dX11_chance_62 (by decide) (fun c276 => ?_) (fun c276 => ?_)
            rotate_left
            · exact absurd c276 (by decide)
            refine lv_iconst (v := 0) hx hb dX11_chance_79 (by decide) ?_
            refine lv_iadd hx hb dX11_chance_80 ?_
            refine lv_topi (fun v277 ev277 => ?_)
            have hv277 := i_add (Eq.refl g102.toInt) (show (0 : Int32).toInt = 0 by decide) ev277 (by omega) (by omega)
            refine lv_istore (lv' := [(4, .int v277), (5, .int g101), (0, .ref o), (1, .int p1), (2, .int p2), (3, .int p3)]) hx hb dX11_chance_81 hl (by decide) rfl (fun ls hl => ?_)
            obtain ⟨v278, ev278⟩ : ∃ y : Int32, y = g101 + 1 := ⟨_, rfl⟩
            have hv278 := i_add (Eq.refl g101.toInt) (show (1 : Int32).toInt = 1 by decide) ev278 (by omega) (by omega)
            refine lv_iinc (v := v278) (lv' := [(5, .int v278), (4, .int v277), (0, .ref o), (1, .int p1), (2, .int p2), (3, .int p3)]) hx hb dX11_chance_83 hl (k := 1) rfl (by rw [ev278]; rfl) (by decide) rfl (fun ls hl => ?_)
            refine lv_goto (tgt := 41) hx hb dX11_chance_86 (by decide) ?_
            exact ih199 (v278, v277, u250, u251, u252, u244, u245, u246, u248, u249, u247, f253, f254, f255, f256, f257, f258) H locs ls (by show (12 - v278.toInt).toNat < (12 - g101.toInt).toNat; omega) ⟨hP, hD, hS, lv_sub hl [0, 1, 2, 3, 4, 5] rfl, by omega, hw264⟩
      · obtain rfl : u19 = 0 := i_is c24 (by decide)
        have zi0 : (0 : Int32).toInt = 0 := by decide
        refine W.eq (g2 := F0 m 30 ls [.int 0]) rfl ?_
        refine lv_if_ne (tgt := 35) hx hb dX11_chance_30 (by decide) (fun c279 => ?_) (fun c279 => ?_)
        · exact absurd c279 (by decide)
        refine lv_iconst (v := (-1)) hx hb dX11_chance_33 (by decide) ?_
        refine W.widen (k := 0) (n := 0) (Nat.le_of_ble_eq_true rfl) (Nat.le_of_ble_eq_true rfl) ?_
        have zim1 : ((-1) : Int32).toInt = -1 := by decide
        exact W.iret (v := (-1)) hx hb hr (fun t ht hW => ⟨⟨((-1), (I 34), (I 35), (I 36), (I 39), (J 37), (J 38), (I 29), (J 30), (J 31), (F 1), (F 28), (G 40), (F 41), (G 42), (F 43)), rfl, (hk1), CB.mk ht hP hD⟩, hS.F ht⟩) hS.2.2 dX11_chance_34
    · obtain rfl : u10 = 0 := i_is c15 (by decide)
      have zi0 : (0 : Int32).toInt = 0 := by decide
      refine W.eq (g2 := F0 m 18 ls [.int 0]) rfl ?_
      refine lv_if_eq (tgt := 33) hx hb dX11_chance_18 (by decide) (fun c280 => ?_) (fun c280 => ?_)
      rotate_left
      · exact absurd c280 (by decide)
      refine lv_iconst (v := (-1)) hx hb dX11_chance_33 (by decide) ?_
      refine W.widen (k := 0) (n := 0) (Nat.le_of_ble_eq_true rfl) (Nat.le_of_ble_eq_true rfl) ?_
      have zim1 : ((-1) : Int32).toInt = -1 := by decide
      exact W.iret (v := (-1)) hx hb hr (fun t ht hW => ⟨⟨((-1), (I 34), (I 35), (I 36), (I 39), (J 37), (J 38), (I 29), (J 30), (J 31), (F 1), (F 28), (G 40), (F 41), (G 42), (F 43)), rfl, (hk1), CB.mk ht hP hD⟩, hS.F ht⟩) hS.2.2 dX11_chance_34
  · obtain rfl : u1 = 0 := i_is c6 (by decide)
    have zi0 : (0 : Int32).toInt = 0 := by decide
    refine W.eq (g2 := F0 m 6 ls [.int 0]) rfl ?_
    refine lv_if_eq (tgt := 33) hx hb dX11_chance_6 (by decide) (fun c281 => ?_) (fun c281 => ?_)
    rotate_left
    · exact absurd c281 (by decide)
    refine lv_iconst (v := (-1)) hx hb dX11_chance_33 (by decide) ?_
    refine W.widen (k := 0) (n := 0) (Nat.le_of_ble_eq_true rfl) (Nat.le_of_ble_eq_true rfl) ?_
    have zim1 : ((-1) : Int32).toInt = -1 := by decide
    exact W.iret (v := (-1)) hx hb hr (fun t ht hW => ⟨⟨((-1), (I 34), (I 35), (I 36), (I 39), (J 37), (J 38), (I 29), (J 30), (J 31), (F 1), (F 28), (G 40), (F 41), (G 42), (F 43)), rfl, (hk1), CB.mk ht hP hD⟩, hS.F ht⟩) hS.2.2 dX11_chance_34
set_option maxHeartbeats 4000000 in
set_option maxRecDepth 100000 in
theorem m_line (l : Launch) (D : va_G) (Y : Nat → ClassId) (Z : Nat → Nat) (sz : Nat) (o : Nat) (a : Nat → Nat) (I : Nat → Int32) (J : Nat → Int64) (F : Nat → Nat → Int32) (G : Nat → Nat → Int64) (p1 : Int32) (p2 : Int32) (p3 : Int32) (p4 : Int32) (p5 : Int32) (hk0 : TO (F 0)) (hk1 : LB (F 28)) (hk2 : TX (F 4) (F 9) (F 10) (F 11) (F 12) (F 13)) : Met l yX11_line (.code yX11_line cX11_line 11 (some .int) :: GW) ({ frames := 7, cells := 0, slots := 0, locals := 169 }) (va_Pc [.ref o, .int p1, .int p2, .int p3, .int p4, .int p5] (CP D Y Z (MW Y o a I J F G) sz)) (QG (S := Int32 × Int32 × Int32 × Int32 × Int32 × Int64 × Int64 × Int32 × Int64 × Int64 × (Nat → Int32) × (Nat → Int32) × (Nat → Int64) × (Nat → Int32) × (Nat → Int64) × (Nat → Int32) × (Nat → Int64) × (Nat → Int64)) (fun u => some (.int u.1)) (fun u => LB u.2.2.2.2.2.2.2.2.2.2.2.1) (fun u => CB D (MW Y o a (upd (upd (upd (upd (upd I 29 u.2.2.2.2.2.2.2.1) 34 u.2.1) 35 u.2.2.1) 36 u.2.2.2.1) 39 u.2.2.2.2.1) (vp_updL (vp_updL (vp_updL (vp_updL J 30 u.2.2.2.2.2.2.2.2.1) 31 u.2.2.2.2.2.2.2.2.2.1) 37 u.2.2.2.2.2.1) 38 u.2.2.2.2.2.2.1) (vf_upd (vf_upd (vf_upd (vf_upd F 1 u.2.2.2.2.2.2.2.2.2.2.1) 28 u.2.2.2.2.2.2.2.2.2.2.2.1) 41 u.2.2.2.2.2.2.2.2.2.2.2.2.2.1) 43 u.2.2.2.2.2.2.2.2.2.2.2.2.2.2.2.1) (vf_upd (vf_upd (vf_upd (vf_upd G 40 u.2.2.2.2.2.2.2.2.2.2.2.2.1) 42 u.2.2.2.2.2.2.2.2.2.2.2.2.2.2.1) 44 u.2.2.2.2.2.2.2.2.2.2.2.2.2.2.2.2.1) 45 u.2.2.2.2.2.2.2.2.2.2.2.2.2.2.2.2.2)) (va_A (MW Y o a I J F G) sz)) (va_A (MW Y o a I J F G) sz)) 0 0 (va_A (MW Y o a I J F G) sz) := by
  refine Met.ofW (cc := cX11_line) (maxL := 11) (ret := (some .int)) (by decide) rfl ?_
  intro p e s m args below meth c s₁ B hml hv
  obtain ⟨rfl, hsz, hP, hKN, hD0⟩ := hv
  have hx := B.exec
  have hb := B.bytes
  have hr := B.returns
  have hts := atoms_spec (ws := .code yX11_line cX11_line 11 (some .int) :: GW) B.pre
  have hg : ∀ w ∈ GW, w.before _ s = true := fun w h => hts w (List.mem_cons_of_mem _ h)
  have hown : s.vm.findClass RX11 = some m.cls := findClass_of_methodNamed B.named
  have hlocks := B.notSynchronized
  subst hsz
  have hD := hD0.self (sz := s.heap.size)
  generalize hAe : va_A (MW Y o a I J F G) s.heap.size = A at hD ⊢
  have hA : ∀ q : Nat, s.heap.size ≤ q → A q := fun q h => by rw [← hAe]; exact Or.inr h
  clear hAe hD0 hts B
  have hl := lv_entry ([.ref o, .int p1, .int p2, .int p3, .int p4, .int p5]) (n := 11) (Nat.le_of_ble_eq_true rfl)
  rw [lg_entry_eq]
  generalize (lg_sl ([.ref o, .int p1, .int p2, .int p3, .int p4, .int p5]) ++ List.replicate (11 - (lg_sl ([.ref o, .int p1, .int p2, .int p3, .int p4, .int p5])).length) Slot.unset).toArray = ls at hl ⊢
  have hl : lv_has ls 11 [(0, .ref o), (1, .int p1), (2, .int p2), (3, .int p3), (4, .int p4), (5, .int p5)] := hl
  refine w_start (A0 := A) hP (fun H locs hP hS => ?_)
  refine lv_aload_n hx hb dX11_line_0 rfl (lv_at hl 0 rfl) ?_
  refine lv_iconst (v := 1) hx hb dX11_line_1 (by decide) ?_
  refine lv_iload_n hx hb dX11_line_2 rfl (lv_at hl 1 rfl) ?_
  have zi1 : (1 : Int32).toInt = 1 := by decide
  refine cga (rn_V (As := [.int 1, .int p1]) (rest := []) (b := o) (m_isText1 l D Y Z H.size o a I J F G  p1 hk2) ⟨hx, hb, hml, hown, hg⟩ lk_X11_366 ⟨CP.blind, va_recv hKN.1 hP (ci := 11) (q0 := 0) rfl rfl, CP.at hP hKN hD⟩ ⟨⟨rfl, rfl⟩, ⟨Nat.le_of_ble_eq_true rfl, Nat.le_of_ble_eq_true rfl⟩, ⟨Nat.le_of_ble_eq_true rfl, Nat.le_of_ble_eq_true rfl⟩⟩ hl.1 rfl (Nat.le_of_ble_eq_true rfl) dX11_line_3) hP hD hS hA (fun u1 H locs w2 hP hD hS => ?_)
  have w2 : ((0 ≤ p1.toInt ∧ p1.toInt ≤ 5 ∧ p1.toInt < ((F 4) 1).toInt ∧ u1.toInt = 1) ∨ u1.toInt = 0) ∧ (0 ≤ u1.toInt ∧ u1.toInt ≤ 1) := w2
  obtain ⟨hw4, hw5⟩ := w2
  refine W.eq (g2 := F0 m 6 ls [.int u1]) rfl ?_
  have hP : va_P D vwCl (MW Y o a I J F G) H := hP
  have hD : va_D A (MW Y o a I J F G) := hD
  rcases (show u1.toInt = 1 ∨ u1.toInt = 0 by omega) with c6 | c6
  · obtain rfl : u1 = 1 := i_is c6 (by decide)
    refine W.eq (g2 := F0 m 6 ls [.int 1]) rfl ?_
    refine lv_if_eq (tgt := 57) hx hb dX11_line_6 (by decide) (fun c7 => ?_) (fun c7 => ?_)
    · exact absurd c7 (by decide)
    refine lv_iload_n hx hb dX11_line_9 rfl (lv_at hl 2 rfl) ?_
    have j8 := rgI p2
    have j9 := Int32.toInt_toInt64 p2
    refine lv_i2l (v := p2.toInt64) hx hb dX11_line_10 (rfl) ?_
    refine lv_lconst (v := 1) hx hb dX11_line_11 (by decide) ?_
    refine lv_ldc2 (v := 99999) hx hb hown (hg _ kw_1772) dX11_line_12 ?_
    have zl1 : (1 : Int64).toInt = 1 := by decide
    have zl99999 : (99999 : Int64).toInt = 99999 := by decide
    refine cg0 (rn_S (As := [.long p2.toInt64, .long 1, .long 99999]) (rest := []) (m_in l D Y Z H.size   p2.toInt64 1 99999 ) ⟨hx, hb, hml, hown, hg⟩ lk_X11_99 ⟨CP.blind, CP.at nilP hKN (nilD (A := fun _ => True))⟩ ⟨⟨rfl, rfl⟩, ⟨Nat.le_of_ble_eq_true rfl, Nat.le_of_ble_eq_true rfl⟩, ⟨Nat.le_of_ble_eq_true rfl, Nat.le_of_ble_eq_true rfl⟩⟩ hl.1 rfl (Nat.le_of_ble_eq_true rfl) dX11_line_15) hP hS hA (fun u10 H locs w11 hP hS => ?_)
    have w11 : (((1 : Int64).toInt ≤ p2.toInt64.toInt ∧ p2.toInt64.toInt ≤ (99999 : Int64).toInt ∧ u10.toInt = 1) ∨ (¬ ((1 : Int64).toInt ≤ p2.toInt64.toInt ∧ p2.toInt64.toInt ≤ (99999 : Int64).toInt) ∧ u10.toInt = 0)) ∧ (0 ≤ u10.toInt ∧ u10.toInt ≤ 1) := w11
    obtain ⟨hw13, hw14⟩ := w11
    refine W.eq (g2 := F0 m 18 ls [.int u10]) rfl ?_
    rcases (show u10.toInt = 1 ∨ u10.toInt = 0 by omega) with c15 | c15
    · obtain rfl : u10 = 1 := i_is c15 (by decide)
      refine W.eq (g2 := F0 m 18 ls [.int 1]) rfl ?_
      refine lv_if_eq (tgt := 57) hx hb dX11_line_18 (by decide) (fun c16 => ?_) (fun c16 => ?_)
      · exact absurd c16 (by decide)
      refine lv_iload_n hx hb dX11_line_21 rfl (lv_at hl 3 rfl) ?_
      have j17 := rgI p3
      have j18 := Int32.toInt_toInt64 p3
      refine lv_i2l (v := p3.toInt64) hx hb dX11_line_22 (rfl) ?_
      refine lv_lconst (v := 0) hx hb dX11_line_23 (by decide) ?_
      refine lv_ldc2 (v := 999) hx hb hown (hg _ kw_1361) dX11_line_24 ?_
      have zl0 : (0 : Int64).toInt = 0 := by decide
      have zl999 : (999 : Int64).toInt = 999 := by decide
      refine cg0 (rn_S (As := [.long p3.toInt64, .long 0, .long 999]) (rest := []) (m_in l D Y Z H.size   p3.toInt64 0 999 ) ⟨hx, hb, hml, hown, hg⟩ lk_X11_99 ⟨CP.blind, CP.at nilP hKN (nilD (A := fun _ => True))⟩ ⟨⟨rfl, rfl⟩, ⟨Nat.le_of_ble_eq_true rfl, Nat.le_of_ble_eq_true rfl⟩, ⟨Nat.le_of_ble_eq_true rfl, Nat.le_of_ble_eq_true rfl⟩⟩ hl.1 rfl (Nat.le_of_ble_eq_true rfl) dX11_line_27) hP hS hA (fun u19 H locs w20 hP hS => ?_)
      have w20 : (((0 : Int64).toInt ≤ p3.toInt64.toInt ∧ p3.toInt64.toInt ≤ (999 : Int64).toInt ∧ u19.toInt = 1) ∨ (¬ ((0 : Int64).toInt ≤ p3.toInt64.toInt ∧ p3.toInt64.toInt ≤ (999 : Int64).toInt) ∧ u19.toInt = 0)) ∧ (0 ≤ u19.toInt ∧ u19.toInt ≤ 1) := w20
      obtain ⟨hw22, hw23⟩ := w20
      refine W.eq (g2 := F0 m 30 ls [.int u19]) rfl ?_
      rcases (show u19.toInt = 1 ∨ u19.toInt = 0 by omega) with c24 | c24
      · obtain rfl : u19 = 1 := i_is c24 (by decide)
        refine W.eq (g2 := F0 m 30 ls [.int 1]) rfl ?_
        refine lv_if_eq (tgt := 57) hx hb dX11_line_30 (by decide) (fun c25 => ?_) (fun c25 => ?_)
        · exact absurd c25 (by decide)
        refine lv_iload hx hb dX11_line_33 (lv_at hl 4 rfl) ?_
        have j26 := rgI p4
        have j27 := Int32.toInt_toInt64 p4
        refine lv_i2l (v := p4.toInt64) hx hb dX11_line_35 (rfl) ?_
        refine lv_lconst (v := 0) hx hb dX11_line_36 (by decide) ?_
        refine lv_ldc2 (v := 999) hx hb hown (hg _ kw_1361) dX11_line_37 ?_
        refine cg0 (rn_S (As := [.long p4.toInt64, .long 0, .long 999]) (rest := []) (m_in l D Y Z H.size   p4.toInt64 0 999 ) ⟨hx, hb, hml, hown, hg⟩ lk_X11_99 ⟨CP.blind, CP.at nilP hKN (nilD (A := fun _ => True))⟩ ⟨⟨rfl, rfl⟩, ⟨Nat.le_of_ble_eq_true rfl, Nat.le_of_ble_eq_true rfl⟩, ⟨Nat.le_of_ble_eq_true rfl, Nat.le_of_ble_eq_true rfl⟩⟩ hl.1 rfl (Nat.le_of_ble_eq_true rfl) dX11_line_40) hP hS hA (fun u28 H locs w29 hP hS => ?_)
        have w29 : (((0 : Int64).toInt ≤ p4.toInt64.toInt ∧ p4.toInt64.toInt ≤ (999 : Int64).toInt ∧ u28.toInt = 1) ∨ (¬ ((0 : Int64).toInt ≤ p4.toInt64.toInt ∧ p4.toInt64.toInt ≤ (999 : Int64).toInt) ∧ u28.toInt = 0)) ∧ (0 ≤ u28.toInt ∧ u28.toInt ≤ 1) := w29
        obtain ⟨hw31, hw32⟩ := w29
        refine W.eq (g2 := F0 m 43 ls [.int u28]) rfl ?_
        rcases (show u28.toInt = 1 ∨ u28.toInt = 0 by omega) with c33 | c33
        · obtain rfl : u28 = 1 := i_is c33 (by decide)
          refine W.eq (g2 := F0 m 43 ls [.int 1]) rfl ?_
          refine lv_if_eq (tgt := 57) hx hb dX11_line_43 (by decide) (fun c34 => ?_) (fun c34 => ?_)
          · exact absurd c34 (by decide)
          refine lv_iload hx hb dX11_line_46 (lv_at hl 5 rfl) ?_
          have j35 := rgI p5
          have j36 := Int32.toInt_toInt64 p5
          refine lv_i2l (v := p5.toInt64) hx hb dX11_line_48 (rfl) ?_
          refine lv_lconst (v := 0) hx hb dX11_line_49 (by decide) ?_
          refine lv_lconst (v := 1) hx hb dX11_line_50 (by decide) ?_
          refine cg0 (rn_S (As := [.long p5.toInt64, .long 0, .long 1]) (rest := []) (m_in l D Y Z H.size   p5.toInt64 0 1 ) ⟨hx, hb, hml, hown, hg⟩ lk_X11_99 ⟨CP.blind, CP.at nilP hKN (nilD (A := fun _ => True))⟩ ⟨⟨rfl, rfl⟩, ⟨Nat.le_of_ble_eq_true rfl, Nat.le_of_ble_eq_true rfl⟩, ⟨Nat.le_of_ble_eq_true rfl, Nat.le_of_ble_eq_true rfl⟩⟩ hl.1 rfl (Nat.le_of_ble_eq_true rfl) dX11_line_51) hP hS hA (fun u37 H locs w38 hP hS => ?_)
          have w38 : (((0 : Int64).toInt ≤ p5.toInt64.toInt ∧ p5.toInt64.toInt ≤ (1 : Int64).toInt ∧ u37.toInt = 1) ∨ (¬ ((0 : Int64).toInt ≤ p5.toInt64.toInt ∧ p5.toInt64.toInt ≤ (1 : Int64).toInt) ∧ u37.toInt = 0)) ∧ (0 ≤ u37.toInt ∧ u37.toInt ≤ 1) := w38
          obtain ⟨hw40, hw41⟩ := w38
          refine W.eq (g2 := F0 m 54 ls [.int u37]) rfl ?_
          rcases (show u37.toInt = 1 ∨ u37.toInt = 0 by omega) with c42 | c42
          · obtain rfl : u37 = 1 := i_is c42 (by decide)
            refine W.eq (g2 := F0 m 54 ls [.int 1]) rfl ?_
            refine lv_if_ne (tgt := 59) hx hb dX11_line_54 (by decide) (fun c43 => ?_) (fun c43 => ?_)
            rotate_left
            · exact absurd c43 (by decide)
            refine lv_iconst (v := 0) hx hb dX11_line_59 (by decide) ?_
            refine lv_istore (lv' := [(6, .int 0), (0, .ref o), (1, .int p1), (2, .int p2), (3, .int p3), (4, .int p4), (5, .int p5)]) hx hb dX11_line_60 hl (by decide) rfl (fun ls hl => ?_)
            have zi0 : (0 : Int32).toInt = 0 := by decide
            refine w_loop (σ := Int32 × Int32 × Int64 × Int64 × Int32 × Int32 × Int32 × Int64 × Int64 × Int32 × (Nat → Int32) × (Nat → Int64) × (Nat → Int32) × (Nat → Int64) × (Nat → Int32) × (Nat → Int64)) (fun xx H locs ls => match xx with | (g181, g182, g183, g184, g185, g186, g187, g188, g189, g190, f191, f192, f193, f194, f195, f196) => va_P D vwCl (MW Y o a (upd (upd (upd (upd (upd I 29 g182) 34 g185) 35 g186) 36 g187) 39 g190) (vp_updL (vp_updL (vp_updL (vp_updL J 30 g183) 31 g184) 37 g188) 38 g189) (vf_upd (vf_upd (vf_upd F 28 f191) 41 f193) 43 f195) (vf_upd (vf_upd (vf_upd G 40 f192) 42 f194) 44 f196)) H ∧ va_D A (MW Y o a (upd (upd (upd (upd (upd I 29 g182) 34 g185) 35 g186) 36 g187) 39 g190) (vp_updL (vp_updL (vp_updL (vp_updL J 30 g183) 31 g184) 37 g188) 38 g189) (vf_upd (vf_upd (vf_upd F 28 f191) 41 f193) 43 f195) (vf_upd (vf_upd (vf_upd G 40 f192) 42 f194) 44 f196)) ∧ va_S A s.heap H locs ∧ lv_has ls 11 [(6, .int g181), (0, .ref o), (1, .int p1), (2, .int p2), (3, .int p3), (4, .int p4), (5, .int p5)] ∧ (0 ≤ g181.toInt ∧ g181.toInt ≤ 40) ∧ LB f191) (fun xx => match xx with | (g181, g182, g183, g184, g185, g186, g187, g188, g189, g190, f191, f192, f193, f194, f195, f196) => (40 - g181.toInt).toNat) (0, (I 29), (J 30), (J 31), (I 34), (I 35), (I 36), (J 37), (J 38), (I 39), (F 28), (G 40), (F 41), (G 42), (F 43), (G 44)) ⟨hP, hD, hS, lv_sub hl [0, 1, 2, 3, 4, 5, 6] rfl, by omega, hk1⟩ (fun xx H locs ls hI ih => ?_)
            obtain ⟨g181, g182, g183, g184, g185, g186, g187, g188, g189, g190, f191, f192, f193, f194, f195, f196⟩ := xx
            obtain ⟨hP, hD, hS, hl, hq338, hp339⟩ := hI
            have ih340 := ih
            refine lv_iload hx hb dX11_line_62 (lv_at hl 0 rfl) ?_
            refine lv_aload_n hx hb dX11_line_64 rfl (lv_at hl 1 rfl) ?_
            refine va_get (D := D) (ci := 11) (v := .ref (a 0)) (C := RX11) (T := TX11) (N := 49) hx hb hg inGX11 hown hKN.1 hP 0 rfl rfl 0 (by decide) (hg _ kw_1208) (fun _ h9 => h9) rfl dX11_line_65 ?_
            refine lv_iconst (v := 1) hx hb dX11_line_68 (by decide) ?_
            refine va_iald hx hb hKN.1 hP 1 0 rfl rfl (show ¬ ((1 : Int32) < 0 ∨ 7533 ≤ (1 : Int32).toNatClampNeg) by decide) dX11_line_69 ?_
            refine lv_topi (fun v341 ev341 => ?_)
            have ev341 : v341 = (F 0) 1 := ev341
            have kv341 := TO_1 hk0
            rw [← ev341] at kv341
            have qv341 := congrArg Int32.toInt ev341
            refine lv_icmp_ge (tgt := 115) hx hb dX11_line_70 (by decide) (fun c412 => ?_) (fun c412 => ?_)
            · skip
              have c412 := i_le (Eq.refl v341.toInt) (Eq.refl g181.toInt) c412
              refine lv_iconst (v := 0) hx hb dX11_line_115 (by decide) ?_
              refine lv_istore (lv' := [(6, .int 0), (0, .ref o), (1, .int p1), (2, .int p2), (3, .int p3), (4, .int p4), (5, .int p5)]) hx hb dX11_line_116 hl (by decide) rfl (fun ls hl => ?_)
              have zi0 : (0 : Int32).toInt = 0 := by decide
              refine w_loop (σ := Int32 × Int32 × Int64 × Int64 × Int32 × Int32 × Int32 × Int64 × Int64 × Int32 × (Nat → Int32) × (Nat → Int32) × (Nat → Int64) × (Nat → Int32) × (Nat → Int64) × (Nat → Int32) × (Nat → Int64)) (fun xx H locs ls => match xx with | (g478, g479, g480, g481, g482, g483, g484, g485, g486, g487, f488, f489, f490, f491, f492, f493, f494) => va_P D vwCl (MW Y o a (upd (upd (upd (upd (upd I 29 g479) 34 g482) 35 g483) 36 g484) 39 g487) (vp_updL (vp_updL (vp_updL (vp_updL J 30 g480) 31 g481) 37 g485) 38 g486) (vf_upd (vf_upd (vf_upd (vf_upd F 1 f488) 28 f489) 41 f491) 43 f493) (vf_upd (vf_upd (vf_upd (vf_upd G 40 f490) 42 f492) 44 f196) 45 f494)) H ∧ va_D A (MW Y o a (upd (upd (upd (upd (upd I 29 g479) 34 g482) 35 g483) 36 g484) 39 g487) (vp_updL (vp_updL (vp_updL (vp_updL J 30 g480) 31 g481) 37 g485) 38 g486) (vf_upd (vf_upd (vf_upd (vf_upd F 1 f488) 28 f489) 41 f491) 43 f493) (vf_upd (vf_upd (vf_upd (vf_upd G 40 f490) 42 f492) 44 f196) 45 f494)) ∧ va_S A s.heap H locs ∧ lv_has ls 11 [(6, .int g478), (0, .ref o), (1, .int p1), (2, .int p2), (3, .int p3), (4, .int p4), (5, .int p5)] ∧ (0 ≤ g478.toInt ∧ g478.toInt ≤ 12) ∧ LB f489) (fun xx => match xx with | (g478, g479, g480, g481, g482, g483, g484, g485, g486, g487, f488, f489, f490, f491, f492, f493, f494) => (12 - g478.toInt).toNat) (0, g182, g183, g184, g185, g186, g187, g188, g189, g190, (F 1), f191, f192, f193, f194, f195, (G 45)) ⟨hP, hD, hS, lv_sub hl [0, 1, 2, 3, 4, 5, 6] rfl, by omega, hp339⟩ (fun xx H locs ls hI ih => ?_)
              obtain ⟨g478, g479, g480, g481, g482, g483, g484, g485, g486, g487, f488, f489, f490, f491, f492, f493, f494⟩ := xx
              obtain ⟨hP, hD, hS, hl, hq564, hp565⟩ := hI
              have ih566 := ih
              refine lv_iload hx hb dX11_line_118 (lv_at hl 0 rfl) ?_
              refine lv_aload_n hx hb dX11_line_120 rfl (lv_at hl 1 rfl) ?_
              refine va_get (D := D) (ci := 11) (v := .ref (a 0)) (C := RX11) (T := TX11) (N := 49) hx hb hg inGX11 hown hKN.1 hP 0 rfl rfl 0 (by decide) (hg _ kw_1208) (fun _ h9 => h9) rfl dX11_line_121 ?_
              refine lv_iconst (v := 0) hx hb dX11_line_124 (by decide) ?_
              refine va_iald hx hb hKN.1 hP 1 0 rfl rfl (show ¬ ((0 : Int32) < 0 ∨ 7533 ≤ (0 : Int32).toNatClampNeg) by decide) dX11_line_125 ?_
              refine lv_topi (fun v567 ev567 => ?_)
              have ev567 : v567 = (F 0) 0 := ev567
              have kv567 := TO_0 hk0
              rw [← ev567] at kv567
              have qv567 := congrArg Int32.toInt ev567
              refine lv_icmp_ge (tgt := 163) hx hb dX11_line_126 (by decide) (fun c602 => ?_) (fun c602 => ?_)
              · skip
                have c602 := i_le (Eq.refl v567.toInt) (Eq.refl g478.toInt) c602
                refine lv_iconst (v := (-1)) hx hb dX11_line_163 (by decide) ?_
                refine lv_istore (lv' := [(6, .int (-1)), (0, .ref o), (1, .int p1), (2, .int p2), (3, .int p3), (4, .int p4), (5, .int p5)]) hx hb dX11_line_164 hl (by decide) rfl (fun ls hl => ?_)
                refine lv_iconst (v := 0) hx hb dX11_line_166 (by decide) ?_
                refine lv_istore (lv' := [(7, .int 0), (6, .int (-1)), (0, .ref o), (1, .int p1), (2, .int p2), (3, .int p3), (4, .int p4), (5, .int p5)]) hx hb dX11_line_167 hl (by decide) rfl (fun ls hl => ?_)
                refine lv_iconst (v := 0) hx hb dX11_line_169 (by decide) ?_
                refine lv_istore (lv' := [(8, .int 0), (7, .int 0), (6, .int (-1)), (0, .ref o), (1, .int p1), (2, .int p2), (3, .int p3), (4, .int p4), (5, .int p5)]) hx hb dX11_line_170 hl (by decide) rfl (fun ls hl => ?_)
                have zi0 : (0 : Int32).toInt = 0 := by decide
                have zim1 : ((-1) : Int32).toInt = -1 := by decide
                refine w_loop (σ := Int32 × Int32 × Int32) (fun xx H locs ls => match xx with | (g1097, g1098, g1099) => va_P D vwCl (MW Y o a (upd (upd (upd (upd (upd I 29 g479) 34 g482) 35 g483) 36 g484) 39 g487) (vp_updL (vp_updL (vp_updL (vp_updL J 30 g480) 31 g481) 37 g485) 38 g486) (vf_upd (vf_upd (vf_upd (vf_upd F 1 f488) 28 f489) 41 f491) 43 f493) (vf_upd (vf_upd (vf_upd (vf_upd G 40 f490) 42 f492) 44 f196) 45 f494)) H ∧ va_D A (MW Y o a (upd (upd (upd (upd (upd I 29 g479) 34 g482) 35 g483) 36 g484) 39 g487) (vp_updL (vp_updL (vp_updL (vp_updL J 30 g480) 31 g481) 37 g485) 38 g486) (vf_upd (vf_upd (vf_upd (vf_upd F 1 f488) 28 f489) 41 f491) 43 f493) (vf_upd (vf_upd (vf_upd (vf_upd G 40 f490) 42 f492) 44 f196) 45 f494)) ∧ va_S A s.heap H locs ∧ lv_has ls 11 [(8, .int g1097), (7, .int g1098), (6, .int g1099), (0, .ref o), (1, .int p1), (2, .int p2), (3, .int p3), (4, .int p4), (5, .int p5)] ∧ (0 ≤ g1097.toInt ∧ g1097.toInt ≤ 21)) (fun xx => match xx with | (g1097, g1098, g1099) => (21 - g1097.toInt).toNat) (0, 0, (-1)) ⟨hP, hD, hS, lv_sub hl [0, 1, 2, 3, 4, 5, 6, 7, 8] rfl, by omega⟩ (fun xx H locs ls hI ih => ?_)
                obtain ⟨g1097, g1098, g1099⟩ := xx
                obtain ⟨hP, hD, hS, hl, hq1672⟩ := hI
                have ih1673 := ih
                refine lv_iload hx hb dX11_line_172 (lv_at hl 0 rfl) ?_
                refine lv_bipush (v := 20) hx hb dX11_line_174 (by decide) ?_
                refine lv_icmp_gt (tgt := 329) hx hb dX11_line_176 (by decide) (fun c1960 => ?_) (fun c1960 => ?_)
                · skip
                  have c1960 := i_lt (show (20 : Int32).toInt = 20 by decide) (Eq.refl g1097.toInt) c1960
                  refine lv_iload hx hb dX11_line_329 (lv_at hl 8 rfl) ?_
                  refine lv_if_ne (tgt := 339) hx hb dX11_line_331 (by decide) (fun c1962 => ?_) (fun c1962 => ?_)
                  · skip
                    have c1962 := i_ne (Eq.refl p5.toInt) (show (0 : Int32).toInt = 0 by decide) c1962
                    refine lv_iload hx hb dX11_line_339 (lv_at hl 1 rfl) ?_
                    refine W.widen (k := 0) (n := 0) (Nat.le_of_ble_eq_true rfl) (Nat.le_of_ble_eq_true rfl) ?_
                    exact W.iret (v := g1098) hx hb hr (fun t ht hW => ⟨⟨(g1098, g482, g483, g484, g487, g485, g486, g479, g480, g481, f488, f489, f490, f491, f492, f493, f196, f494), rfl, (hp565), CB.mk ht hP hD⟩, hS.F ht⟩) hS.2.2 dX11_line_341
                  · skip
                    have c1962 := i_eq (Eq.refl p5.toInt) (show (0 : Int32).toInt = 0 by decide) c1962
                    refine lv_iload hx hb dX11_line_334 (lv_at hl 2 rfl) ?_
                    refine lv_goto (tgt := 341) hx hb dX11_line_336 (by decide) ?_
                    refine W.widen (k := 0) (n := 0) (Nat.le_of_ble_eq_true rfl) (Nat.le_of_ble_eq_true rfl) ?_
                    exact W.iret (v := g1099) hx hb hr (fun t ht hW => ⟨⟨(g1099, g482, g483, g484, g487, g485, g486, g479, g480, g481, f488, f489, f490, f491, f492, f493, f196, f494), rfl, (hp565), CB.mk ht hP hD⟩, hS.F ht⟩) hS.2.2 dX11_line_341
                · skip
                  have c1960 := i_nlt (show (20 : Int32).toInt = 20 by decide) (Eq.refl g1097.toInt) c1960
                  refine lv_iconst (v := 0) hx hb dX11_line_179 (by decide) ?_
                  refine lv_istore (lv' := [(9, .int 0), (8, .int g1097), (7, .int g1098), (6, .int g1099), (0, .ref o), (1, .int p1), (2, .int p2), (3, .int p3), (4, .int p4), (5, .int p5)]) hx hb dX11_line_180 hl (by decide) rfl (fun ls hl => ?_)
                  refine lv_iconst (v := 0) hx hb dX11_line_182 (by decide) ?_
                  refine lv_istore (lv' := [(10, .int 0), (9, .int 0), (8, .int g1097), (7, .int g1098), (6, .int g1099), (0, .ref o), (1, .int p1), (2, .int p2), (3, .int p3), (4, .int p4), (5, .int p5)]) hx hb dX11_line_183 hl (by decide) rfl (fun ls hl => ?_)
                  have zi0 : (0 : Int32).toInt = 0 := by decide
                  refine w_loop (σ := Int32 × Int32) (fun xx H locs ls => match xx with | (g2012, g2013) => va_P D vwCl (MW Y o a (upd (upd (upd (upd (upd I 29 g479) 34 g482) 35 g483) 36 g484) 39 g487) (vp_updL (vp_updL (vp_updL (vp_updL J 30 g480) 31 g481) 37 g485) 38 g486) (vf_upd (vf_upd (vf_upd (vf_upd F 1 f488) 28 f489) 41 f491) 43 f493) (vf_upd (vf_upd (vf_upd (vf_upd G 40 f490) 42 f492) 44 f196) 45 f494)) H ∧ va_D A (MW Y o a (upd (upd (upd (upd (upd I 29 g479) 34 g482) 35 g483) 36 g484) 39 g487) (vp_updL (vp_updL (vp_updL (vp_updL J 30 g480) 31 g481) 37 g485) 38 g486) (vf_upd (vf_upd (vf_upd (vf_upd F 1 f488) 28 f489) 41 f491) 43 f493) (vf_upd (vf_upd (vf_upd (vf_upd G 40 f490) 42 f492) 44 f196) 45 f494)) ∧ va_S A s.heap H locs ∧ lv_has ls 11 [(10, .int g2012), (9, .int g2013), (8, .int g1097), (7, .int g1098), (6, .int g1099), (0, .ref o), (1, .int p1), (2, .int p2), (3, .int p3), (4, .int p4), (5, .int p5)] ∧ (0 ≤ g2012.toInt ∧ g2012.toInt ≤ 40)) (fun xx => match xx with | (g2012, g2013) => (40 - g2012.toInt).toNat) (0, 0) ⟨hP, hD, hS, lv_sub hl [0, 1, 2, 3, 4, 5, 6, 7, 8, 9, 10] rfl, by omega⟩ (fun xx H locs ls hI ih => ?_)
                  obtain ⟨g2012, g2013⟩ := xx
                  obtain ⟨hP, hD, hS, hl, hq2067⟩ := hI
                  have ih2068 := ih
                  refine lv_iload hx hb dX11_line_185 (lv_at hl 0 rfl) ?_
                  refine lv_aload_n hx hb dX11_line_187 rfl (lv_at hl 5 rfl) ?_
                  refine va_get (D := D) (ci := 11) (v := .ref (a 0)) (C := RX11) (T := TX11) (N := 49) hx hb hg inGX11 hown hKN.1 hP 0 rfl rfl 0 (by decide) (hg _ kw_1208) (fun _ h9 => h9) rfl dX11_line_188 ?_
                  refine lv_iconst (v := 1) hx hb dX11_line_191 (by decide) ?_
                  refine va_iald hx hb hKN.1 hP 1 0 rfl rfl (show ¬ ((1 : Int32) < 0 ∨ 7533 ≤ (1 : Int32).toNatClampNeg) by decide) dX11_line_192 ?_
                  refine lv_topi (fun v2069 ev2069 => ?_)
                  have ev2069 : v2069 = (F 0) 1 := ev2069
                  have kv2069 := TO_1 hk0
                  rw [← ev2069] at kv2069
                  have qv2069 := congrArg Int32.toInt ev2069
                  refine lv_icmp_ge (tgt := 238) hx hb dX11_line_193 (by decide) (fun c2096 => ?_) (fun c2096 => ?_)
                  · skip
                    have c2096 := i_le (Eq.refl v2069.toInt) (Eq.refl g2012.toInt) c2096
                    refine lv_iconst (v := 0) hx hb dX11_line_238 (by decide) ?_
                    refine lv_istore (lv' := [(10, .int 0), (9, .int g2013), (8, .int g1097), (7, .int g1098), (6, .int g1099), (0, .ref o), (1, .int p1), (2, .int p2), (3, .int p3), (4, .int p4), (5, .int p5)]) hx hb dX11_line_239 hl (by decide) rfl (fun ls hl => ?_)
                    have zi0 : (0 : Int32).toInt = 0 := by decide
                    refine w_loop (σ := Int32 × Int32) (fun xx H locs ls => match xx with | (g2130, g2131) => va_P D vwCl (MW Y o a (upd (upd (upd (upd (upd I 29 g479) 34 g482) 35 g483) 36 g484) 39 g487) (vp_updL (vp_updL (vp_updL (vp_updL J 30 g480) 31 g481) 37 g485) 38 g486) (vf_upd (vf_upd (vf_upd (vf_upd F 1 f488) 28 f489) 41 f491) 43 f493) (vf_upd (vf_upd (vf_upd (vf_upd G 40 f490) 42 f492) 44 f196) 45 f494)) H ∧ va_D A (MW Y o a (upd (upd (upd (upd (upd I 29 g479) 34 g482) 35 g483) 36 g484) 39 g487) (vp_updL (vp_updL (vp_updL (vp_updL J 30 g480) 31 g481) 37 g485) 38 g486) (vf_upd (vf_upd (vf_upd (vf_upd F 1 f488) 28 f489) 41 f491) 43 f493) (vf_upd (vf_upd (vf_upd (vf_upd G 40 f490) 42 f492) 44 f196) 45 f494)) ∧ va_S A s.heap H locs ∧ lv_has ls 11 [(10, .int g2130), (9, .int g2131), (8, .int g1097), (7, .int g1098), (6, .int g1099), (0, .ref o), (1, .int p1), (2, .int p2), (3, .int p3), (4, .int p4), (5, .int p5)] ∧ (0 ≤ g2130.toInt ∧ g2130.toInt ≤ 12)) (fun xx => match xx with | (g2130, g2131) => (12 - g2130.toInt).toNat) (0, g2013) ⟨hP, hD, hS, lv_sub hl [0, 1, 2, 3, 4, 5, 6, 7, 8, 9, 10] rfl, by omega⟩ (fun xx H locs ls hI ih => ?_)
                    obtain ⟨g2130, g2131⟩ := xx
                    obtain ⟨hP, hD, hS, hl, hq2167⟩ := hI
                    have ih2168 := ih
                    refine lv_iload hx hb dX11_line_241 (lv_at hl 0 rfl) ?_
                    refine lv_aload_n hx hb dX11_line_243 rfl (lv_at hl 5 rfl) ?_
                    refine va_get (D := D) (ci := 11) (v := .ref (a 0)) (C := RX11) (T := TX11) (N := 49) hx hb hg inGX11 hown hKN.1 hP 0 rfl rfl 0 (by decide) (hg _ kw_1208) (fun _ h9 => h9) rfl dX11_line_244 ?_
                    refine lv_iconst (v := 0) hx hb dX11_line_247 (by decide) ?_
                    refine va_iald hx hb hKN.1 hP 1 0 rfl rfl (show ¬ ((0 : Int32) < 0 ∨ 7533 ≤ (0 : Int32).toNatClampNeg) by decide) dX11_line_248 ?_
                    refine lv_topi (fun v2169 ev2169 => ?_)
                    have ev2169 : v2169 = (F 0) 0 := ev2169
                    have kv2169 := TO_0 hk0
                    rw [← ev2169] at kv2169
                    have qv2169 := congrArg Int32.toInt ev2169
                    refine lv_icmp_ge (tgt := 298) hx hb dX11_line_249 (by decide) (fun c2187 => ?_) (fun c2187 => ?_)
                    · skip
                      have c2187 := i_le (Eq.refl v2169.toInt) (Eq.refl g2130.toInt) c2187
                      refine lv_iload hx hb dX11_line_298 (lv_at hl 4 rfl) ?_
                      refine w_join (σ := Int32 × Int32) (pcJ := 323) (kJ := 0) (nJ := 0) (stk := fun xx => match xx with | (g2195, g2196) => []) (fun xx H locs ls => match xx with | (g2195, g2196) => va_P D vwCl (MW Y o a (upd (upd (upd (upd (upd I 29 g479) 34 g482) 35 g483) 36 g484) 39 g487) (vp_updL (vp_updL (vp_updL (vp_updL J 30 g480) 31 g481) 37 g485) 38 g486) (vf_upd (vf_upd (vf_upd (vf_upd F 1 f488) 28 f489) 41 f491) 43 f493) (vf_upd (vf_upd (vf_upd (vf_upd G 40 f490) 42 f492) 44 f196) 45 f494)) H ∧ va_D A (MW Y o a (upd (upd (upd (upd (upd I 29 g479) 34 g482) 35 g483) 36 g484) 39 g487) (vp_updL (vp_updL (vp_updL (vp_updL J 30 g480) 31 g481) 37 g485) 38 g486) (vf_upd (vf_upd (vf_upd (vf_upd F 1 f488) 28 f489) 41 f491) 43 f493) (vf_upd (vf_upd (vf_upd (vf_upd G 40 f490) 42 f492) 44 f196) 45 f494)) ∧ va_S A s.heap H locs ∧ lv_has ls 11 [(7, .int g2195), (6, .int g2196), (10, .int g2130), (9, .int g2131), (8, .int g1097), (0, .ref o), (1, .int p1), (2, .int p2), (3, .int p3), (4, .int p4), (5, .int p5)] ∧ (0 ≤ g2196.toInt)) (fun xx H locs ls hI => ?_) (fun jn2197 => ?_)
                      · skip
                        obtain ⟨g2195, g2196⟩ := xx
                        obtain ⟨hP, hD, hS, hl, hq2198⟩ := hI
                        refine W.eq (g2 := F0 m 323 ls []) rfl ?_
                        obtain ⟨v2199, ev2199⟩ : ∃ y : Int32, y = g1097 + 1 := ⟨_, rfl⟩
                        have hv2199 := i_add (Eq.refl g1097.toInt) (show (1 : Int32).toInt = 1 by decide) ev2199 (by omega) (by omega)
                        refine lv_iinc (v := v2199) (lv' := [(8, .int v2199), (7, .int g2195), (6, .int g2196), (10, .int g2130), (9, .int g2131), (0, .ref o), (1, .int p1), (2, .int p2), (3, .int p3), (4, .int p4), (5, .int p5)]) hx hb dX11_line_323 hl (k := 4) rfl (by rw [ev2199]; rfl) (by decide) rfl (fun ls hl => ?_)
                        refine lv_goto (tgt := 172) hx hb dX11_line_326 (by decide) ?_
                        exact ih1673 (v2199, g2195, g2196) H locs ls (by show (21 - v2199.toInt).toNat < (21 - g1097.toInt).toNat; omega) ⟨hP, hD, hS, lv_sub hl [0, 1, 2, 5, 6, 7, 8, 9, 10] rfl, by omega⟩
                      · skip
                        have j2200 := rgI g1099
                        refine lv_if_lt (tgt := 313) hx hb dX11_line_300 (by decide) (fun c2201 => ?_) (fun c2201 => ?_)
                        · skip
                          have c2201 := i_lt (Eq.refl g1099.toInt) (show (0 : Int32).toInt = 0 by decide) c2201
                          refine lv_iload hx hb dX11_line_313 (lv_at hl 2 rfl) ?_
                          refine lv_iload_n hx hb dX11_line_315 rfl (lv_at hl 7 rfl) ?_
                          refine lv_imul hx hb dX11_line_316 ?_
                          refine lv_topi (fun v2202 ev2202 => ?_)
                          have hv2202 := i_mulR (a := 0) (b := 20) (c := 1) (d := 99999) (lo := 0) (hi := 1999980) (Eq.refl g1097.toInt) (Eq.refl p2.toInt) ev2202 (by omega) (by omega) (by decide) (by decide)
                          refine lv_istore (lv' := [(6, .int v2202), (10, .int g2130), (9, .int g2131), (8, .int g1097), (7, .int g1098), (0, .ref o), (1, .int p1), (2, .int p2), (3, .int p3), (4, .int p4), (5, .int p5)]) hx hb dX11_line_317 hl (by decide) rfl (fun ls hl => ?_)
                          refine lv_iload hx hb dX11_line_319 (lv_at hl 2 rfl) ?_
                          refine lv_istore (lv' := [(7, .int g2131), (6, .int v2202), (10, .int g2130), (9, .int g2131), (8, .int g1097), (0, .ref o), (1, .int p1), (2, .int p2), (3, .int p3), (4, .int p4), (5, .int p5)]) hx hb dX11_line_321 hl (by decide) rfl (fun ls hl => ?_)
                          refine W.widen (k := 0) (n := 0) (Nat.le_of_ble_eq_true rfl) (Nat.le_of_ble_eq_true rfl) ?_
                          exact jn2197 (g2131, v2202) H locs ls ⟨hP, hD, hS, lv_sub hl [0, 1, 2, 3, 4, 5, 6, 7, 8, 9, 10] rfl, by omega⟩
                        · skip
                          have c2201 := i_nlt (Eq.refl g1099.toInt) (show (0 : Int32).toInt = 0 by decide) c2201
                          refine lv_iload hx hb dX11_line_303 (lv_at hl 1 rfl) ?_
                          refine lv_iload hx hb dX11_line_305 (lv_at hl 3 rfl) ?_
                          have j2203 := rgI g2131
                          have j2204 := rgI g1098
                          refine lv_icmp_lt (tgt := 313) hx hb dX11_line_307 (by decide) (fun c2205 => ?_) (fun c2205 => ?_)
                          · skip
                            have c2205 := i_lt (Eq.refl g2131.toInt) (Eq.refl g1098.toInt) c2205
                            refine lv_iload hx hb dX11_line_313 (lv_at hl 2 rfl) ?_
                            refine lv_iload_n hx hb dX11_line_315 rfl (lv_at hl 7 rfl) ?_
                            refine lv_imul hx hb dX11_line_316 ?_
                            refine lv_topi (fun v2206 ev2206 => ?_)
                            have hv2206 := i_mulR (a := 0) (b := 20) (c := 1) (d := 99999) (lo := 0) (hi := 1999980) (Eq.refl g1097.toInt) (Eq.refl p2.toInt) ev2206 (by omega) (by omega) (by decide) (by decide)
                            refine lv_istore (lv' := [(6, .int v2206), (10, .int g2130), (9, .int g2131), (8, .int g1097), (7, .int g1098), (0, .ref o), (1, .int p1), (2, .int p2), (3, .int p3), (4, .int p4), (5, .int p5)]) hx hb dX11_line_317 hl (by decide) rfl (fun ls hl => ?_)
                            refine lv_iload hx hb dX11_line_319 (lv_at hl 2 rfl) ?_
                            refine lv_istore (lv' := [(7, .int g2131), (6, .int v2206), (10, .int g2130), (9, .int g2131), (8, .int g1097), (0, .ref o), (1, .int p1), (2, .int p2), (3, .int p3), (4, .int p4), (5, .int p5)]) hx hb dX11_line_321 hl (by decide) rfl (fun ls hl => ?_)
                            refine W.widen (k := 0) (n := 0) (Nat.le_of_ble_eq_true rfl) (Nat.le_of_ble_eq_true rfl) ?_
                            exact jn2197 (g2131, v2206) H locs ls ⟨hP, hD, hS, lv_sub hl [0, 1, 2, 3, 4, 5, 6, 7, 8, 9, 10] rfl, by omega⟩
                          · skip
                            have c2205 := i_nlt (Eq.refl g2131.toInt) (Eq.refl g1098.toInt) c2205
                            refine lv_goto (tgt := 323) hx hb dX11_line_310 (by decide) ?_
                            refine W.widen (k := 0) (n := 0) (Nat.le_of_ble_eq_true rfl) (Nat.le_of_ble_eq_true rfl) ?_
                            exact jn2197 (g1098, g1099) H locs ls ⟨hP, hD, hS, lv_sub hl [3, 4, 0, 1, 2, 5, 6, 7, 8, 9, 10] rfl, by omega⟩
                    · skip
                      have c2187 := i_nle (Eq.refl v2169.toInt) (Eq.refl g2130.toInt) c2187
                      refine lv_iload hx hb dX11_line_252 (lv_at hl 1 rfl) ?_
                      refine lv_aload_n hx hb dX11_line_254 rfl (lv_at hl 5 rfl) ?_
                      refine va_get (D := D) (ci := 11) (v := .ref (a 45)) (C := RX11) (T := TX11) (N := 49) hx hb hg inGX11 hown hKN.1 hP 0 rfl rfl 45 (by decide) (hg _ kw_1253) (fun _ h9 => h9) rfl dX11_line_255 ?_
                      refine lv_iload hx hb dX11_line_258 (lv_at hl 0 rfl) ?_
                      refine va_lald hx hb hKN.1 hP 25 1 rfl rfl (vp_in_iff.mpr ⟨by omega, by omega⟩) dX11_line_260 ?_
                      refine lv_topl (fun v2207 ev2207 => ?_)
                      refine lv_lconst (v := 0) hx hb dX11_line_261 (by decide) ?_
                      refine w_join (σ := Int32) (pcJ := 289) (kJ := 0) (nJ := 0) (stk := fun xx => match xx with | g2213 => [.int g2213, .int g2131]) (fun xx H locs ls => match xx with | g2213 => va_P D vwCl (MW Y o a (upd (upd (upd (upd (upd I 29 g479) 34 g482) 35 g483) 36 g484) 39 g487) (vp_updL (vp_updL (vp_updL (vp_updL J 30 g480) 31 g481) 37 g485) 38 g486) (vf_upd (vf_upd (vf_upd (vf_upd F 1 f488) 28 f489) 41 f491) 43 f493) (vf_upd (vf_upd (vf_upd (vf_upd G 40 f490) 42 f492) 44 f196) 45 f494)) H ∧ va_D A (MW Y o a (upd (upd (upd (upd (upd I 29 g479) 34 g482) 35 g483) 36 g484) 39 g487) (vp_updL (vp_updL (vp_updL (vp_updL J 30 g480) 31 g481) 37 g485) 38 g486) (vf_upd (vf_upd (vf_upd (vf_upd F 1 f488) 28 f489) 41 f491) 43 f493) (vf_upd (vf_upd (vf_upd (vf_upd G 40 f490) 42 f492) 44 f196) 45 f494)) ∧ va_S A s.heap H locs ∧ lv_has ls 11 [(10, .int g2130), (9, .int g2131), (8, .int g1097), (7, .int g1098), (6, .int g1099), (0, .ref o), (1, .int p1), (2, .int p2), (3, .int p3), (4, .int p4), (5, .int p5)] ∧ (0 ≤ g2213.toInt ∧ g2213.toInt ≤ 999)) (fun xx H locs ls hI => ?_) (fun jn2214 => ?_)
                      · skip
                        revert hI
                        generalize xx = g2213
                        intro hI
                        obtain ⟨hP, hD, hS, hl, hq2215⟩ := hI
                        refine W.eq (g2 := F0 m 289 ls [.int g2213, .int g2131]) rfl ?_
                        refine lv_iadd hx hb dX11_line_289 ?_
                        refine lv_topi (fun v2216 ev2216 => ?_)
                        refine lv_istore (lv' := [(9, .int v2216), (10, .int g2130), (8, .int g1097), (7, .int g1098), (6, .int g1099), (0, .ref o), (1, .int p1), (2, .int p2), (3, .int p3), (4, .int p4), (5, .int p5)]) hx hb dX11_line_290 hl (by decide) rfl (fun ls hl => ?_)
                        obtain ⟨v2217, ev2217⟩ : ∃ y : Int32, y = g2130 + 1 := ⟨_, rfl⟩
                        have hv2217 := i_add (Eq.refl g2130.toInt) (show (1 : Int32).toInt = 1 by decide) ev2217 (by omega) (by omega)
                        refine lv_iinc (v := v2217) (lv' := [(10, .int v2217), (9, .int v2216), (8, .int g1097), (7, .int g1098), (6, .int g1099), (0, .ref o), (1, .int p1), (2, .int p2), (3, .int p3), (4, .int p4), (5, .int p5)]) hx hb dX11_line_292 hl (k := 1) rfl (by rw [ev2217]; rfl) (by decide) rfl (fun ls hl => ?_)
                        refine lv_goto (tgt := 241) hx hb dX11_line_295 (by decide) ?_
                        exact ih2168 (v2217, v2216) H locs ls (by show (12 - v2217.toInt).toNat < (12 - g2130.toInt).toNat; omega) ⟨hP, hD, hS, lv_sub hl [0, 1, 2, 3, 4, 5, 6, 7, 8, 9, 10] rfl, by omega⟩
                      · skip
                        refine W.lcmp hx hb dX11_line_262 ?_
                        refine lv_if_lt (tgt := 288) hx hb dX11_line_263 (by decide) (fun c2218 => ?_) (fun c2218 => ?_)
                        · skip
                          have c2218 := l_lt (Eq.refl v2207.toInt) (show (0 : Int64).toInt = 0 by decide) c2218
                          refine lv_iconst (v := 0) hx hb dX11_line_288 (by decide) ?_
                          have zi0 : (0 : Int32).toInt = 0 := by decide
                          refine W.widen (k := 0) (n := 0) (Nat.le_of_ble_eq_true rfl) (Nat.le_of_ble_eq_true rfl) ?_
                          exact jn2214 (0) H locs ls ⟨hP, hD, hS, lv_sub hl [0, 1, 2, 3, 4, 5, 6, 7, 8, 9, 10] rfl, by omega⟩
                        · skip
                          have c2218 := l_nlt (Eq.refl v2207.toInt) (show (0 : Int64).toInt = 0 by decide) c2218
                          refine lv_aload_n hx hb dX11_line_266 rfl (lv_at hl 5 rfl) ?_
                          refine va_get (D := D) (ci := 11) (v := .ref (a 45)) (C := RX11) (T := TX11) (N := 49) hx hb hg inGX11 hown hKN.1 hP 0 rfl rfl 45 (by decide) (hg _ kw_1253) (fun _ h9 => h9) rfl dX11_line_267 ?_
                          refine lv_iload hx hb dX11_line_270 (lv_at hl 0 rfl) ?_
                          refine va_lald hx hb hKN.1 hP 25 1 rfl rfl (vp_in_iff.mpr ⟨by omega, by omega⟩) dX11_line_272 ?_
                          refine lv_topl (fun v2219 ev2219 => ?_)
                          refine lv_iload hx hb dX11_line_273 (lv_at hl 2 rfl) ?_
                          have j2220 := Int32.toInt_toInt64 g1097
                          refine lv_i2l (v := g1097.toInt64) hx hb dX11_line_275 (rfl) ?_
                          refine lv_iload_n hx hb dX11_line_276 rfl (lv_at hl 7 rfl) ?_
                          refine lv_i2l (v := p2.toInt64) hx hb dX11_line_277 (rfl) ?_
                          refine lv_lmul hx hb dX11_line_278 ?_
                          refine lv_topl (fun v2221 ev2221 => ?_)
                          have hv2221 := l_mulR (a := 0) (b := 20) (c := 1) (d := 99999) (lo := 0) (hi := 1999980) (Int32.toInt_toInt64 g1097) (Int32.toInt_toInt64 p2) ev2221 (by omega) (by omega) (by decide) (by decide)
                          refine W.lcmp hx hb dX11_line_279 ?_
                          refine lv_if_lt (tgt := 288) hx hb dX11_line_280 (by decide) (fun c2222 => ?_) (fun c2222 => ?_)
                          · skip
                            have c2222 := l_lt (Eq.refl v2219.toInt) (Eq.refl v2221.toInt) c2222
                            refine lv_iconst (v := 0) hx hb dX11_line_288 (by decide) ?_
                            have zi0 : (0 : Int32).toInt = 0 := by decide
                            refine W.widen (k := 0) (n := 0) (Nat.le_of_ble_eq_true rfl) (Nat.le_of_ble_eq_true rfl) ?_
                            exact jn2214 (0) H locs ls ⟨hP, hD, hS, lv_sub hl [0, 1, 2, 3, 4, 5, 6, 7, 8, 9, 10] rfl, by omega⟩
                          · skip
                            have c2222 := l_nlt (Eq.refl v2219.toInt) (Eq.refl v2221.toInt) c2222
                            refine lv_iload hx hb dX11_line_283 (lv_at hl 9 rfl) ?_
                            refine lv_goto (tgt := 289) hx hb dX11_line_285 (by decide) ?_
                            refine W.widen (k := 0) (n := 0) (Nat.le_of_ble_eq_true rfl) (Nat.le_of_ble_eq_true rfl) ?_
                            exact jn2214 (p4) H locs ls ⟨hP, hD, hS, lv_sub hl [0, 1, 2, 3, 4, 5, 6, 7, 8, 9, 10] rfl, by omega⟩
                  · skip
                    have c2096 := i_nle (Eq.refl v2069.toInt) (Eq.refl g2012.toInt) c2096
                    refine lv_iload hx hb dX11_line_196 (lv_at hl 1 rfl) ?_
                    refine lv_aload_n hx hb dX11_line_198 rfl (lv_at hl 5 rfl) ?_
                    refine lv_iload hx hb dX11_line_199 (lv_at hl 0 rfl) ?_
                    refine cga (rn_V (As := [.int g2012]) (rest := [.int g2013]) (b := o) (m_isPut l D Y Z H.size o a (upd (upd (upd (upd (upd I 29 g479) 34 g482) 35 g483) 36 g484) 39 g487) (vp_updL (vp_updL (vp_updL (vp_updL J 30 g480) 31 g481) 37 g485) 38 g486) (vf_upd (vf_upd (vf_upd (vf_upd F 1 f488) 28 f489) 41 f491) 43 f493) (vf_upd (vf_upd (vf_upd (vf_upd G 40 f490) 42 f492) 44 f196) 45 f494)  g2012 hk0) ⟨hx, hb, hml, hown, hg⟩ lk_X11_500 ⟨CP.blind, va_recv hKN.1 hP (ci := 11) (q0 := 0) rfl rfl, CP.at hP hKN hD⟩ ⟨⟨rfl, rfl⟩, ⟨Nat.le_of_ble_eq_true rfl, Nat.le_of_ble_eq_true rfl⟩, ⟨Nat.le_of_ble_eq_true rfl, Nat.le_of_ble_eq_true rfl⟩⟩ hl.1 rfl (Nat.le_of_ble_eq_true rfl) dX11_line_201) hP hD hS hA (fun u2223 H locs w2224 hP hD hS => ?_)
                    have w2224 : ((0 ≤ g2012.toInt ∧ g2012.toInt ≤ 39 ∧ g2012.toInt < ((F 0) 1).toInt ∧ u2223.toInt = 1) ∨ u2223.toInt = 0) ∧ (0 ≤ u2223.toInt ∧ u2223.toInt ≤ 1) := w2224
                    obtain ⟨hw2226, hw2227⟩ := w2224
                    refine W.eq (g2 := F0 m 204 ls [.int u2223, .int g2013]) rfl ?_
                    have hP : va_P D vwCl (MW Y o a (upd (upd (upd (upd (upd I 29 g479) 34 g482) 35 g483) 36 g484) 39 g487) (vp_updL (vp_updL (vp_updL (vp_updL J 30 g480) 31 g481) 37 g485) 38 g486) (vf_upd (vf_upd (vf_upd (vf_upd F 1 f488) 28 f489) 41 f491) 43 f493) (vf_upd (vf_upd (vf_upd (vf_upd G 40 f490) 42 f492) 44 f196) 45 f494)) H := hP
                    have hD : va_D A (MW Y o a (upd (upd (upd (upd (upd I 29 g479) 34 g482) 35 g483) 36 g484) 39 g487) (vp_updL (vp_updL (vp_updL (vp_updL J 30 g480) 31 g481) 37 g485) 38 g486) (vf_upd (vf_upd (vf_upd (vf_upd F 1 f488) 28 f489) 41 f491) 43 f493) (vf_upd (vf_upd (vf_upd (vf_upd G 40 f490) 42 f492) 44 f196) 45 f494)) := hD
                    rcases (show u2223.toInt = 1 ∨ u2223.toInt = 0 by omega) with c2228 | c2228
                    · obtain rfl : u2223 = 1 := i_is c2228 (by decide)
                      refine W.eq (g2 := F0 m 204 ls [.int 1, .int g2013]) rfl ?_
                      refine w_join (σ := Int32) (pcJ := 229) (kJ := 0) (nJ := 0) (stk := fun xx => match xx with | g2234 => [.int g2234, .int g2013]) (fun xx H locs ls => match xx with | g2234 => va_P D vwCl (MW Y o a (upd (upd (upd (upd (upd I 29 g479) 34 g482) 35 g483) 36 g484) 39 g487) (vp_updL (vp_updL (vp_updL (vp_updL J 30 g480) 31 g481) 37 g485) 38 g486) (vf_upd (vf_upd (vf_upd (vf_upd F 1 f488) 28 f489) 41 f491) 43 f493) (vf_upd (vf_upd (vf_upd (vf_upd G 40 f490) 42 f492) 44 f196) 45 f494)) H ∧ va_D A (MW Y o a (upd (upd (upd (upd (upd I 29 g479) 34 g482) 35 g483) 36 g484) 39 g487) (vp_updL (vp_updL (vp_updL (vp_updL J 30 g480) 31 g481) 37 g485) 38 g486) (vf_upd (vf_upd (vf_upd (vf_upd F 1 f488) 28 f489) 41 f491) 43 f493) (vf_upd (vf_upd (vf_upd (vf_upd G 40 f490) 42 f492) 44 f196) 45 f494)) ∧ va_S A s.heap H locs ∧ lv_has ls 11 [(10, .int g2012), (9, .int g2013), (8, .int g1097), (7, .int g1098), (6, .int g1099), (0, .ref o), (1, .int p1), (2, .int p2), (3, .int p3), (4, .int p4), (5, .int p5)] ∧ (0 ≤ g2234.toInt ∧ g2234.toInt ≤ 999)) (fun xx H locs ls hI => ?_) (fun jn2235 => ?_)
                      · skip
                        revert hI
                        generalize xx = g2234
                        intro hI
                        obtain ⟨hP, hD, hS, hl, hq2236⟩ := hI
                        refine W.eq (g2 := F0 m 229 ls [.int g2234, .int g2013]) rfl ?_
                        refine lv_iadd hx hb dX11_line_229 ?_
                        refine lv_topi (fun v2237 ev2237 => ?_)
                        refine lv_istore (lv' := [(9, .int v2237), (10, .int g2012), (8, .int g1097), (7, .int g1098), (6, .int g1099), (0, .ref o), (1, .int p1), (2, .int p2), (3, .int p3), (4, .int p4), (5, .int p5)]) hx hb dX11_line_230 hl (by decide) rfl (fun ls hl => ?_)
                        obtain ⟨v2238, ev2238⟩ : ∃ y : Int32, y = g2012 + 1 := ⟨_, rfl⟩
                        have hv2238 := i_add (Eq.refl g2012.toInt) (show (1 : Int32).toInt = 1 by decide) ev2238 (by omega) (by omega)
                        refine lv_iinc (v := v2238) (lv' := [(10, .int v2238), (9, .int v2237), (8, .int g1097), (7, .int g1098), (6, .int g1099), (0, .ref o), (1, .int p1), (2, .int p2), (3, .int p3), (4, .int p4), (5, .int p5)]) hx hb dX11_line_232 hl (k := 1) rfl (by rw [ev2238]; rfl) (by decide) rfl (fun ls hl => ?_)
                        refine lv_goto (tgt := 185) hx hb dX11_line_235 (by decide) ?_
                        exact ih2068 (v2238, v2237) H locs ls (by show (40 - v2238.toInt).toNat < (40 - g2012.toInt).toNat; omega) ⟨hP, hD, hS, lv_sub hl [0, 1, 2, 3, 4, 5, 6, 7, 8, 9, 10] rfl, by omega⟩
                      · skip
                        refine lv_if_eq (tgt := 228) hx hb dX11_line_204 (by decide) (fun c2239 => ?_) (fun c2239 => ?_)
                        · exact absurd c2239 (by decide)
                        refine lv_aload_n hx hb dX11_line_207 rfl (lv_at hl 5 rfl) ?_
                        refine va_get (D := D) (ci := 11) (v := .ref (a 44)) (C := RX11) (T := TX11) (N := 49) hx hb hg inGX11 hown hKN.1 hP 0 rfl rfl 44 (by decide) (hg _ kw_1252) (fun _ h9 => h9) rfl dX11_line_208 ?_
                        refine lv_iload hx hb dX11_line_211 (lv_at hl 0 rfl) ?_
                        refine va_lald hx hb hKN.1 hP 24 1 rfl rfl (vp_in_iff.mpr ⟨by omega, by omega⟩) dX11_line_213 ?_
                        refine lv_topl (fun v2240 ev2240 => ?_)
                        refine lv_iload hx hb dX11_line_214 (lv_at hl 2 rfl) ?_
                        have j2241 := Int32.toInt_toInt64 g1097
                        refine lv_i2l (v := g1097.toInt64) hx hb dX11_line_216 (rfl) ?_
                        refine lv_iload_n hx hb dX11_line_217 rfl (lv_at hl 7 rfl) ?_
                        refine lv_i2l (v := p2.toInt64) hx hb dX11_line_218 (rfl) ?_
                        refine lv_lmul hx hb dX11_line_219 ?_
                        refine lv_topl (fun v2242 ev2242 => ?_)
                        have hv2242 := l_mulR (a := 0) (b := 20) (c := 1) (d := 99999) (lo := 0) (hi := 1999980) (Int32.toInt_toInt64 g1097) (Int32.toInt_toInt64 p2) ev2242 (by omega) (by omega) (by decide) (by decide)
                        refine W.lcmp hx hb dX11_line_220 ?_
                        refine lv_if_ge (tgt := 228) hx hb dX11_line_221 (by decide) (fun c2243 => ?_) (fun c2243 => ?_)
                        · skip
                          have c2243 := l_ge (Eq.refl v2240.toInt) (Eq.refl v2242.toInt) c2243
                          refine lv_iconst (v := 0) hx hb dX11_line_228 (by decide) ?_
                          have zi0 : (0 : Int32).toInt = 0 := by decide
                          refine W.widen (k := 0) (n := 0) (Nat.le_of_ble_eq_true rfl) (Nat.le_of_ble_eq_true rfl) ?_
                          exact jn2235 (0) H locs ls ⟨hP, hD, hS, lv_sub hl [0, 1, 2, 3, 4, 5, 6, 7, 8, 9, 10] rfl, by omega⟩
                        · skip
                          have c2243 := l_nge (Eq.refl v2240.toInt) (Eq.refl v2242.toInt) c2243
                          refine lv_iload_n hx hb dX11_line_224 rfl (lv_at hl 8 rfl) ?_
                          refine lv_goto (tgt := 229) hx hb dX11_line_225 (by decide) ?_
                          refine W.widen (k := 0) (n := 0) (Nat.le_of_ble_eq_true rfl) (Nat.le_of_ble_eq_true rfl) ?_
                          exact jn2235 (p3) H locs ls ⟨hP, hD, hS, lv_sub hl [0, 1, 2, 3, 4, 5, 6, 7, 8, 9, 10] rfl, by omega⟩
                    · obtain rfl : u2223 = 0 := i_is c2228 (by decide)
                      have zi0 : (0 : Int32).toInt = 0 := by decide
                      refine W.eq (g2 := F0 m 204 ls [.int 0, .int g2013]) rfl ?_
                      refine lv_if_eq (tgt := 228) hx hb dX11_line_204 (by decide) (fun c2245 => ?_) (fun c2245 => ?_)
                      rotate_left
                      · exact absurd c2245 (by decide)
                      refine lv_iconst (v := 0) hx hb dX11_line_228 (by decide) ?_
                      refine lv_iadd hx hb dX11_line_229 ?_
                      refine lv_topi (fun v2246 ev2246 => ?_)
                      have hv2246 := i_add (Eq.refl g2013.toInt) (show (0 : Int32).toInt = 0 by decide) ev2246 (by omega) (by omega)
                      refine lv_istore (lv' := [(9, .int v2246), (10, .int g2012), (8, .int g1097), (7, .int g1098), (6, .int g1099), (0, .ref o), (1, .int p1), (2, .int p2), (3, .int p3), (4, .int p4), (5, .int p5)]) hx hb dX11_line_230 hl (by decide) rfl (fun ls hl => ?_)
                      obtain ⟨v2247, ev2247⟩ : ∃ y : Int32, y = g2012 + 1 := ⟨_, rfl⟩
                      have hv2247 := i_add (Eq.refl g2012.toInt) (show (1 : Int32).toInt = 1 by decide) ev2247 (by omega) (by omega)
                      refine lv_iinc (v := v2247) (lv' := [(10, .int v2247), (9, .int v2246), (8, .int g1097), (7, .int g1098), (6, .int g1099), (0, .ref o), (1, .int p1), (2, .int p2), (3, .int p3), (4, .int p4), (5, .int p5)]) hx hb dX11_line_232 hl (k := 1) rfl (by rw [ev2247]; rfl) (by decide) rfl (fun ls hl => ?_)
                      refine lv_goto (tgt := 185) hx hb dX11_line_235 (by decide) ?_
                      exact ih2068 (v2247, v2246) H locs ls (by show (40 - v2247.toInt).toNat < (40 - g2012.toInt).toNat; omega) ⟨hP, hD, hS, lv_sub hl [0, 1, 2, 3, 4, 5, 6, 7, 8, 9, 10] rfl, by omega⟩
              · skip
                have c602 := i_nle (Eq.refl v567.toInt) (Eq.refl g478.toInt) c602
                refine lv_aload_n hx hb dX11_line_129 rfl (lv_at hl 1 rfl) ?_
                refine va_get (D := D) (ci := 11) (v := .ref (a 45)) (C := RX11) (T := TX11) (N := 49) hx hb hg inGX11 hown hKN.1 hP 0 rfl rfl 45 (by decide) (hg _ kw_1253) (fun _ h9 => h9) rfl dX11_line_130 ?_
                refine lv_iload hx hb dX11_line_133 (lv_at hl 0 rfl) ?_
                refine lv_aload_n hx hb dX11_line_135 rfl (lv_at hl 1 rfl) ?_
                refine lv_iload_n hx hb dX11_line_136 rfl (lv_at hl 2 rfl) ?_
                refine lv_iload hx hb dX11_line_137 (lv_at hl 0 rfl) ?_
                refine lv_iconst (v := 1) hx hb dX11_line_139 (by decide) ?_
                refine cga (rn_V (As := [.int p1, .int g478, .int 1]) (rest := [.int g478, .ref (a 45)]) (b := o) (m_finds l D Y Z H.size o a (upd (upd (upd (upd (upd I 29 g479) 34 g482) 35 g483) 36 g484) 39 g487) (vp_updL (vp_updL (vp_updL (vp_updL J 30 g480) 31 g481) 37 g485) 38 g486) (vf_upd (vf_upd (vf_upd (vf_upd F 1 f488) 28 f489) 41 f491) 43 f493) (vf_upd (vf_upd (vf_upd (vf_upd G 40 f490) 42 f492) 44 f196) 45 f494)  p1 g478 1 (show (0 ≤ p1.toInt ∧ p1.toInt ≤ 5) by omega) (show (p1.toInt < ((F 4) 1).toInt) by omega) (show (0 ≤ g478.toInt ∧ g478.toInt ≤ 11) by omega) (show (0 ≤ (1 : Int32).toInt ∧ (1 : Int32).toInt ≤ 5) by omega) hk0 hp565 hk2) ⟨hx, hb, hml, hown, hg⟩ lk_X11_487 ⟨CP.blind, va_recv hKN.1 hP (ci := 11) (q0 := 0) rfl rfl, CP.at hP hKN hD⟩ ⟨⟨rfl, rfl⟩, ⟨Nat.le_of_ble_eq_true rfl, Nat.le_of_ble_eq_true rfl⟩, ⟨Nat.le_of_ble_eq_true rfl, Nat.le_of_ble_eq_true rfl⟩⟩ hl.1 rfl (Nat.le_of_ble_eq_true rfl) dX11_line_140) hP hD hS hA (fun u2248 H locs w2249 hP hD hS => ?_)
                obtain ⟨u2250, u2251, u2252, u2253, u2254, u2255, u2256, u2257, u2258, u2259, f2260, f2261, f2262, f2263, f2264, f2265⟩ := u2248
                have w2249 : ((u2250.toInt = 1 ∧ 1 ≤ u2256.toInt ∧ 2 ≤ u2251.toInt ∧ u2251.toInt ≤ 200 ∧ 1 ≤ u2252.toInt ∧ u2252.toInt ≤ 10 ∧ 0 ≤ u2253.toInt ∧ u2253.toInt < u2251.toInt ∧ -9000000000000 ≤ u2255.toInt ∧ u2255.toInt ≤ 9000000000000 ∧ (cin f2261 (u2251.toInt).toNat (u2252.toInt).toNat (u2253.toInt).toNat 600 : Int) ≠ u2257.toInt) ∨ u2250.toInt = 0) ∧ (0 ≤ u2250.toInt ∧ u2250.toInt ≤ 1) ∧ (0 ≤ u2257.toInt ∧ u2257.toInt ≤ 600) ∧ (-60000000 ≤ u2258.toInt ∧ u2258.toInt ≤ 60000000) ∧ (1 ≤ u2259.toInt) ∧ LB f2261 := w2249
                obtain ⟨hw2266, hw2267, hw2268, hw2269, hw2270, hw2271⟩ := w2249
                refine W.eq (g2 := F0 m 143 ls [.int u2250, .int g478, .ref (a 45)]) rfl ?_
                have hP : va_P D vwCl (MW Y o a (upd (upd (upd (upd (upd I 29 u2257) 34 u2251) 35 u2252) 36 u2253) 39 u2254) (vp_updL (vp_updL (vp_updL (vp_updL J 30 u2258) 31 u2259) 37 u2255) 38 u2256) (vf_upd (vf_upd (vf_upd (vf_upd F 1 f2260) 28 f2261) 41 f2263) 43 f2265) (vf_upd (vf_upd (vf_upd (vf_upd G 40 f2262) 42 f2264) 44 f196) 45 f494)) H := hP
                have hD : va_D A (MW Y o a (upd (upd (upd (upd (upd I 29 u2257) 34 u2251) 35 u2252) 36 u2253) 39 u2254) (vp_updL (vp_updL (vp_updL (vp_updL J 30 u2258) 31 u2259) 37 u2255) 38 u2256) (vf_upd (vf_upd (vf_upd (vf_upd F 1 f2260) 28 f2261) 41 f2263) 43 f2265) (vf_upd (vf_upd (vf_upd (vf_upd G 40 f2262) 42 f2264) 44 f196) 45 f494)) := hD
                rcases (show u2250.toInt = 1 ∨ u2250.toInt = 0 by omega) with c2272 | c2272
                · obtain rfl : u2250 = 1 := i_is c2272 (by decide)
                  refine W.eq (g2 := F0 m 143 ls [.int 1, .int g478, .ref (a 45)]) rfl ?_
                  refine lv_if_eq (tgt := 153) hx hb dX11_line_143 (by decide) (fun c2274 => ?_) (fun c2274 => ?_)
                  · exact absurd c2274 (by decide)
                  refine lv_aload_n hx hb dX11_line_146 rfl (lv_at hl 1 rfl) ?_
                  refine va_get (D := D) (ci := 11) (v := .long u2256) (C := RX11) (T := TX11) (N := 49) hx hb hg inGX11 hown hKN.1 hP 0 rfl rfl 38 (by decide) (hg _ kw_1246) (fun _ h9 => h9) rfl dX11_line_147 ?_
                  refine lv_goto (tgt := 156) hx hb dX11_line_150 (by decide) ?_
                  refine va_last hx hb hKN.1 hP hD hS 25 1 rfl rfl (vp_in_iff.mpr ⟨by omega, by omega⟩) dX11_line_156 (fun H locs hP hD hS => ?_)
                  obtain ⟨f2275, ef2275, hP, hD⟩ : ∃ f2275 : Nat → Int64, f2275 = vp_updL f494 g478.toNatClampNeg u2256 ∧ va_P D vwCl (MW Y o a (upd (upd (upd (upd (upd I 29 u2257) 34 u2251) 35 u2252) 36 u2253) 39 u2254) (vp_updL (vp_updL (vp_updL (vp_updL J 30 u2258) 31 u2259) 37 u2255) 38 u2256) (vf_upd (vf_upd (vf_upd (vf_upd F 1 f2260) 28 f2261) 41 f2263) 43 f2265) (vf_upd (vf_upd (vf_upd (vf_upd G 40 f2262) 42 f2264) 44 f196) 45 f2275)) H ∧ va_D A (MW Y o a (upd (upd (upd (upd (upd I 29 u2257) 34 u2251) 35 u2252) 36 u2253) 39 u2254) (vp_updL (vp_updL (vp_updL (vp_updL J 30 u2258) 31 u2259) 37 u2255) 38 u2256) (vf_upd (vf_upd (vf_upd (vf_upd F 1 f2260) 28 f2261) 41 f2263) 43 f2265) (vf_upd (vf_upd (vf_upd (vf_upd G 40 f2262) 42 f2264) 44 f196) 45 f2275)) := ⟨_, rfl, hP, hD⟩
                  obtain ⟨v2276, ev2276⟩ : ∃ y : Int32, y = g478 + 1 := ⟨_, rfl⟩
                  have hv2276 := i_add (Eq.refl g478.toInt) (show (1 : Int32).toInt = 1 by decide) ev2276 (by omega) (by omega)
                  refine lv_iinc (v := v2276) (lv' := [(6, .int v2276), (0, .ref o), (1, .int p1), (2, .int p2), (3, .int p3), (4, .int p4), (5, .int p5)]) hx hb dX11_line_157 hl (k := 0) rfl (by rw [ev2276]; rfl) (by decide) rfl (fun ls hl => ?_)
                  refine lv_goto (tgt := 118) hx hb dX11_line_160 (by decide) ?_
                  exact ih566 (v2276, u2257, u2258, u2259, u2251, u2252, u2253, u2255, u2256, u2254, f2260, f2261, f2262, f2263, f2264, f2265, f2275) H locs ls (by show (12 - v2276.toInt).toNat < (12 - g478.toInt).toNat; omega) ⟨hP, hD, hS, lv_sub hl [0, 1, 2, 3, 4, 5, 6] rfl, by omega, hw2271⟩
                · obtain rfl : u2250 = 0 := i_is c2272 (by decide)
                  have zi0 : (0 : Int32).toInt = 0 := by decide
                  refine W.eq (g2 := F0 m 143 ls [.int 0, .int g478, .ref (a 45)]) rfl ?_
                  refine lv_if_eq (tgt := 153) hx hb dX11_line_143 (by decide) (fun c2278 => ?_) (fun c2278 => ?_)
                  rotate_left
                  · exact absurd c2278 (by decide)
                  refine lv_ldc2 (v := (-1)) hx hb hown (hg _ kw_1650) dX11_line_153 ?_
                  refine va_last hx hb hKN.1 hP hD hS 25 1 rfl rfl (vp_in_iff.mpr ⟨by omega, by omega⟩) dX11_line_156 (fun H locs hP hD hS => ?_)
                  obtain ⟨f2279, ef2279, hP, hD⟩ : ∃ f2279 : Nat → Int64, f2279 = vp_updL f494 g478.toNatClampNeg (-1) ∧ va_P D vwCl (MW Y o a (upd (upd (upd (upd (upd I 29 u2257) 34 u2251) 35 u2252) 36 u2253) 39 u2254) (vp_updL (vp_updL (vp_updL (vp_updL J 30 u2258) 31 u2259) 37 u2255) 38 u2256) (vf_upd (vf_upd (vf_upd (vf_upd F 1 f2260) 28 f2261) 41 f2263) 43 f2265) (vf_upd (vf_upd (vf_upd (vf_upd G 40 f2262) 42 f2264) 44 f196) 45 f2279)) H ∧ va_D A (MW Y o a (upd (upd (upd (upd (upd I 29 u2257) 34 u2251) 35 u2252) 36 u2253) 39 u2254) (vp_updL (vp_updL (vp_updL (vp_updL J 30 u2258) 31 u2259) 37 u2255) 38 u2256) (vf_upd (vf_upd (vf_upd (vf_upd F 1 f2260) 28 f2261) 41 f2263) 43 f2265) (vf_upd (vf_upd (vf_upd (vf_upd G 40 f2262) 42 f2264) 44 f196) 45 f2279)) := ⟨_, rfl, hP, hD⟩
                  obtain ⟨v2280, ev2280⟩ : ∃ y : Int32, y = g478 + 1 := ⟨_, rfl⟩
                  have hv2280 := i_add (Eq.refl g478.toInt) (show (1 : Int32).toInt = 1 by decide) ev2280 (by omega) (by omega)
                  refine lv_iinc (v := v2280) (lv' := [(6, .int v2280), (0, .ref o), (1, .int p1), (2, .int p2), (3, .int p3), (4, .int p4), (5, .int p5)]) hx hb dX11_line_157 hl (k := 0) rfl (by rw [ev2280]; rfl) (by decide) rfl (fun ls hl => ?_)
                  refine lv_goto (tgt := 118) hx hb dX11_line_160 (by decide) ?_
                  exact ih566 (v2280, u2257, u2258, u2259, u2251, u2252, u2253, u2255, u2256, u2254, f2260, f2261, f2262, f2263, f2264, f2265, f2279) H locs ls (by show (12 - v2280.toInt).toNat < (12 - g478.toInt).toNat; omega) ⟨hP, hD, hS, lv_sub hl [0, 1, 2, 3, 4, 5, 6] rfl, by omega, hw2271⟩
            · skip
              have c412 := i_nle (Eq.refl v341.toInt) (Eq.refl g181.toInt) c412
              refine lv_aload_n hx hb dX11_line_73 rfl (lv_at hl 1 rfl) ?_
              refine va_get (D := D) (ci := 11) (v := .ref (a 44)) (C := RX11) (T := TX11) (N := 49) hx hb hg inGX11 hown hKN.1 hP 0 rfl rfl 44 (by decide) (hg _ kw_1252) (fun _ h9 => h9) rfl dX11_line_74 ?_
              refine lv_iload hx hb dX11_line_77 (lv_at hl 0 rfl) ?_
              refine lv_aload_n hx hb dX11_line_79 rfl (lv_at hl 1 rfl) ?_
              refine lv_iload hx hb dX11_line_80 (lv_at hl 0 rfl) ?_
              refine cga (rn_V (As := [.int g181]) (rest := [.int g181, .ref (a 44)]) (b := o) (m_isPut l D Y Z H.size o a (upd (upd (upd (upd (upd I 29 g182) 34 g185) 35 g186) 36 g187) 39 g190) (vp_updL (vp_updL (vp_updL (vp_updL J 30 g183) 31 g184) 37 g188) 38 g189) (vf_upd (vf_upd (vf_upd F 28 f191) 41 f193) 43 f195) (vf_upd (vf_upd (vf_upd G 40 f192) 42 f194) 44 f196)  g181 hk0) ⟨hx, hb, hml, hown, hg⟩ lk_X11_500 ⟨CP.blind, va_recv hKN.1 hP (ci := 11) (q0 := 0) rfl rfl, CP.at hP hKN hD⟩ ⟨⟨rfl, rfl⟩, ⟨Nat.le_of_ble_eq_true rfl, Nat.le_of_ble_eq_true rfl⟩, ⟨Nat.le_of_ble_eq_true rfl, Nat.le_of_ble_eq_true rfl⟩⟩ hl.1 rfl (Nat.le_of_ble_eq_true rfl) dX11_line_82) hP hD hS hA (fun u2281 H locs w2282 hP hD hS => ?_)
              have w2282 : ((0 ≤ g181.toInt ∧ g181.toInt ≤ 39 ∧ g181.toInt < ((F 0) 1).toInt ∧ u2281.toInt = 1) ∨ u2281.toInt = 0) ∧ (0 ≤ u2281.toInt ∧ u2281.toInt ≤ 1) := w2282
              obtain ⟨hw2284, hw2285⟩ := w2282
              refine W.eq (g2 := F0 m 85 ls [.int u2281, .int g181, .ref (a 44)]) rfl ?_
              have hP : va_P D vwCl (MW Y o a (upd (upd (upd (upd (upd I 29 g182) 34 g185) 35 g186) 36 g187) 39 g190) (vp_updL (vp_updL (vp_updL (vp_updL J 30 g183) 31 g184) 37 g188) 38 g189) (vf_upd (vf_upd (vf_upd F 28 f191) 41 f193) 43 f195) (vf_upd (vf_upd (vf_upd G 40 f192) 42 f194) 44 f196)) H := hP
              have hD : va_D A (MW Y o a (upd (upd (upd (upd (upd I 29 g182) 34 g185) 35 g186) 36 g187) 39 g190) (vp_updL (vp_updL (vp_updL (vp_updL J 30 g183) 31 g184) 37 g188) 38 g189) (vf_upd (vf_upd (vf_upd F 28 f191) 41 f193) 43 f195) (vf_upd (vf_upd (vf_upd G 40 f192) 42 f194) 44 f196)) := hD
              rcases (show u2281.toInt = 1 ∨ u2281.toInt = 0 by omega) with c2286 | c2286
              · obtain rfl : u2281 = 1 := i_is c2286 (by decide)
                refine W.eq (g2 := F0 m 85 ls [.int 1, .int g181, .ref (a 44)]) rfl ?_
                refine w_join (σ := Int64) (pcJ := 108) (kJ := 0) (nJ := 0) (stk := fun xx => match xx with | g2314 => [.long g2314, .int g181, .ref (a 44)]) (fun xx H locs ls => match xx with | g2314 => va_P D vwCl (MW Y o a (upd (upd (upd (upd (upd I 29 u2297) 34 u2291) 35 u2292) 36 u2293) 39 u2294) (vp_updL (vp_updL (vp_updL (vp_updL J 30 u2298) 31 u2299) 37 u2295) 38 u2296) (vf_upd (vf_upd (vf_upd F 28 f2300) 41 f2302) 43 f2304) (vf_upd (vf_upd (vf_upd G 40 f2301) 42 f2303) 44 f196)) H ∧ va_D A (MW Y o a (upd (upd (upd (upd (upd I 29 u2297) 34 u2291) 35 u2292) 36 u2293) 39 u2294) (vp_updL (vp_updL (vp_updL (vp_updL J 30 u2298) 31 u2299) 37 u2295) 38 u2296) (vf_upd (vf_upd (vf_upd F 28 f2300) 41 f2302) 43 f2304) (vf_upd (vf_upd (vf_upd G 40 f2301) 42 f2303) 44 f196)) ∧ va_S A s.heap H locs ∧ lv_has ls 11 [(6, .int g181), (0, .ref o), (1, .int p1), (2, .int p2), (3, .int p3), (4, .int p4), (5, .int p5)] ∧ (-1 ≤ g2314.toInt)) (fun xx H locs ls hI => ?_) (fun jn2315 => ?_)
                · skip
                  revert hI
                  generalize xx = g2314
                  intro hI
                  obtain ⟨hP, hD, hS, hl, hq2316⟩ := hI
                  refine W.eq (g2 := F0 m 108 ls [.long g2314, .int g181, .ref (a 44)]) rfl ?_
                  refine va_last hx hb hKN.1 hP hD hS 24 1 rfl rfl (vp_in_iff.mpr ⟨by omega, by omega⟩) dX11_line_108 (fun H locs hP hD hS => ?_)
                  obtain ⟨f2317, ef2317, hP, hD⟩ : ∃ f2317 : Nat → Int64, f2317 = vp_updL f196 g181.toNatClampNeg g2314 ∧ va_P D vwCl (MW Y o a (upd (upd (upd (upd (upd I 29 u2297) 34 u2291) 35 u2292) 36 u2293) 39 u2294) (vp_updL (vp_updL (vp_updL (vp_updL J 30 u2298) 31 u2299) 37 u2295) 38 u2296) (vf_upd (vf_upd (vf_upd F 28 f2300) 41 f2302) 43 f2304) (vf_upd (vf_upd (vf_upd G 40 f2301) 42 f2303) 44 f2317)) H ∧ va_D A (MW Y o a (upd (upd (upd (upd (upd I 29 u2297) 34 u2291) 35 u2292) 36 u2293) 39 u2294) (vp_updL (vp_updL (vp_updL (vp_updL J 30 u2298) 31 u2299) 37 u2295) 38 u2296) (vf_upd (vf_upd (vf_upd F 28 f2300) 41 f2302) 43 f2304) (vf_upd (vf_upd (vf_upd G 40 f2301) 42 f2303) 44 f2317)) := ⟨_, rfl, hP, hD⟩
                  obtain ⟨v2318, ev2318⟩ : ∃ y : Int32, y = g181 + 1 := ⟨_, rfl⟩
                  have hv2318 := i_add (Eq.refl g181.toInt) (show (1 : Int32).toInt = 1 by decide) ev2318 (by omega) (by omega)
                  refine lv_iinc (v := v2318) (lv' := [(6, .int v2318), (0, .ref o), (1, .int p1), (2, .int p2), (3, .int p3), (4, .int p4), (5, .int p5)]) hx hb dX11_line_109 hl (k := 0) rfl (by rw [ev2318]; rfl) (by decide) rfl (fun ls hl => ?_)
                  refine lv_goto (tgt := 62) hx hb dX11_line_112 (by decide) ?_
                  exact ih340 (v2318, u2297, u2298, u2299, u2291, u2292, u2293, u2295, u2296, u2294, f2300, f2301, f2302, f2303, f2304, f2317) H locs ls (by show (40 - v2318.toInt).toNat < (40 - g181.toInt).toNat; omega) ⟨hP, hD, hS, lv_sub hl [0, 1, 2, 3, 4, 5, 6] rfl, by omega, hp339⟩
                · skip
                  refine lv_if_eq (tgt := 105) hx hb dX11_line_85 (by decide) (fun c2319 => ?_) (fun c2319 => ?_)
                  · exact absurd c2319 (by decide)
                  refine lv_aload_n hx hb dX11_line_88 rfl (lv_at hl 1 rfl) ?_
                  refine lv_iload_n hx hb dX11_line_89 rfl (lv_at hl 2 rfl) ?_
                  refine lv_iload hx hb dX11_line_90 (lv_at hl 0 rfl) ?_
                  refine cga (rn_V (As := [.int p1, .int g181]) (rest := [.int g181, .ref (a 44)]) (b := o) (m_findsPut l D Y Z H.size o a (upd (upd (upd (upd (upd I 29 g182) 34 g185) 35 g186) 36 g187) 39 g190) (vp_updL (vp_updL (vp_updL (vp_updL J 30 g183) 31 g184) 37 g188) 38 g189) (vf_upd (vf_upd (vf_upd F 28 f191) 41 f193) 43 f195) (vf_upd (vf_upd (vf_upd G 40 f192) 42 f194) 44 f196)  p1 g181 (show (0 ≤ p1.toInt ∧ p1.toInt ≤ 5) by omega) (show (p1.toInt < ((F 4) 1).toInt) by omega) (show (0 ≤ g181.toInt ∧ g181.toInt ≤ 39) by omega) (show (g181.toInt < ((F 0) 1).toInt) by omega) hk0 hp339 hk2) ⟨hx, hb, hml, hown, hg⟩ lk_X11_497 ⟨CP.blind, va_recv hKN.1 hP (ci := 11) (q0 := 0) rfl rfl, CP.at hP hKN hD⟩ ⟨⟨rfl, rfl⟩, ⟨Nat.le_of_ble_eq_true rfl, Nat.le_of_ble_eq_true rfl⟩, ⟨Nat.le_of_ble_eq_true rfl, Nat.le_of_ble_eq_true rfl⟩⟩ hl.1 rfl (Nat.le_of_ble_eq_true rfl) dX11_line_92) hP hD hS hA (fun u2320 H locs w2321 hP hD hS => ?_)
                  obtain ⟨u2322, u2323, u2324, u2325, u2326, u2327, u2328, u2329, u2330, u2331, f2332, f2333, f2334, f2335, f2336⟩ := u2320
                  have w2321 : ((u2322.toInt = 1 ∧ 1 ≤ u2328.toInt ∧ 2 ≤ u2323.toInt ∧ u2323.toInt ≤ 200 ∧ 1 ≤ u2324.toInt ∧ u2324.toInt ≤ 10 ∧ 0 ≤ u2325.toInt ∧ u2325.toInt < u2323.toInt ∧ -9000000000000 ≤ u2327.toInt ∧ u2327.toInt ≤ 9000000000000 ∧ (cin f2332 (u2323.toInt).toNat (u2324.toInt).toNat (u2325.toInt).toNat 600 : Int) ≠ u2329.toInt) ∨ u2322.toInt = 0) ∧ (0 ≤ u2322.toInt ∧ u2322.toInt ≤ 1) ∧ (0 ≤ u2329.toInt ∧ u2329.toInt ≤ 600) ∧ (-60000000 ≤ u2330.toInt ∧ u2330.toInt ≤ 60000000) ∧ (1 ≤ u2331.toInt) ∧ LB f2332 := w2321
                  obtain ⟨hw2337, hw2338, hw2339, hw2340, hw2341, hw2342⟩ := w2321
                  refine W.eq (g2 := F0 m 95 ls [.int u2322, .int g181, .ref (a 44)]) rfl ?_
                  have hP : va_P D vwCl (MW Y o a (upd (upd (upd (upd (upd I 29 u2329) 34 u2323) 35 u2324) 36 u2325) 39 u2326) (vp_updL (vp_updL (vp_updL (vp_updL J 30 u2330) 31 u2331) 37 u2327) 38 u2328) (vf_upd (vf_upd (vf_upd F 28 f2332) 41 f2334) 43 f2336) (vf_upd (vf_upd (vf_upd G 40 f2333) 42 f2335) 44 f196)) H := hP
                  have hD : va_D A (MW Y o a (upd (upd (upd (upd (upd I 29 u2329) 34 u2323) 35 u2324) 36 u2325) 39 u2326) (vp_updL (vp_updL (vp_updL (vp_updL J 30 u2330) 31 u2331) 37 u2327) 38 u2328) (vf_upd (vf_upd (vf_upd F 28 f2332) 41 f2334) 43 f2336) (vf_upd (vf_upd (vf_upd G 40 f2333) 42 f2335) 44 f196)) := hD
                  rcases (show u2322.toInt = 1 ∨ u2322.toInt = 0 by omega) with c2343 | c2343
                  · obtain rfl : u2322 = 1 := i_is c2343 (by decide)
                    refine W.eq (g2 := F0 m 95 ls [.int 1, .int g181, .ref (a 44)]) rfl ?_
                    refine lv_if_eq (tgt := 105) hx hb dX11_line_95 (by decide) (fun c2344 => ?_) (fun c2344 => ?_)
                    · exact absurd c2344 (by decide)
                    refine lv_aload_n hx hb dX11_line_98 rfl (lv_at hl 1 rfl) ?_
                    refine va_get (D := D) (ci := 11) (v := .long u2328) (C := RX11) (T := TX11) (N := 49) hx hb hg inGX11 hown hKN.1 hP 0 rfl rfl 38 (by decide) (hg _ kw_1246) (fun _ h9 => h9) rfl dX11_line_99 ?_
                    refine lv_goto (tgt := 108) hx hb dX11_line_102 (by decide) ?_
                    refine W.widen (k := 0) (n := 0) (Nat.le_of_ble_eq_true rfl) (Nat.le_of_ble_eq_true rfl) ?_
                    exact jn2315 (u2328) H locs ls ⟨hP, hD, hS, lv_sub hl [0, 1, 2, 3, 4, 5, 6] rfl, by omega⟩
                  · obtain rfl : u2322 = 0 := i_is c2343 (by decide)
                    have zi0 : (0 : Int32).toInt = 0 := by decide
                    refine W.eq (g2 := F0 m 95 ls [.int 0, .int g181, .ref (a 44)]) rfl ?_
                    refine lv_if_eq (tgt := 105) hx hb dX11_line_95 (by decide) (fun c2345 => ?_) (fun c2345 => ?_)
                    rotate_left
                    · exact absurd c2345 (by decide)
                    refine lv_ldc2 (v := (-1)) hx hb hown (hg _ kw_1650) dX11_line_105 ?_
                    have zlm1 : ((-1) : Int64).toInt = -1 := by decide
                    refine W.widen (k := 0) (n := 0) (Nat.le_of_ble_eq_true rfl) (Nat.le_of_ble_eq_true rfl) ?_
                    exact jn2315 ((-1)) H locs ls ⟨hP, hD, hS, lv_sub hl [0, 1, 2, 3, 4, 5, 6] rfl, by omega⟩
              · obtain rfl : u2281 = 0 := i_is c2286 (by decide)
                have zi0 : (0 : Int32).toInt = 0 := by decide
                refine W.eq (g2 := F0 m 85 ls [.int 0, .int g181, .ref (a 44)]) rfl ?_
                refine lv_if_eq (tgt := 105) hx hb dX11_line_85 (by decide) (fun c2347 => ?_) (fun c2347 => ?_)
                rotate_left
                · exact absurd c2347 (by decide)
                refine lv_ldc2 (v := (-1)) hx hb hown (hg _ kw_1650) dX11_line_105 ?_
                refine va_last hx hb hKN.1 hP hD hS 24 1 rfl rfl (vp_in_iff.mpr ⟨by omega, by omega⟩) dX11_line_108 (fun H locs hP hD hS => ?_)
                obtain ⟨f2348, ef2348, hP, hD⟩ : ∃ f2348 : Nat → Int64, f2348 = vp_updL f196 g181.toNatClampNeg (-1) ∧ va_P D vwCl (MW Y o a (upd (upd (upd (upd (upd I 29 g182) 34 g185) 35 g186) 36 g187) 39 g190) (vp_updL (vp_updL (vp_updL (vp_updL J 30 g183) 31 g184) 37 g188) 38 g189) (vf_upd (vf_upd (vf_upd F 28 f191) 41 f193) 43 f195) (vf_upd (vf_upd (vf_upd G 40 f192) 42 f194) 44 f2348)) H ∧ va_D A (MW Y o a (upd (upd (upd (upd (upd I 29 g182) 34 g185) 35 g186) 36 g187) 39 g190) (vp_updL (vp_updL (vp_updL (vp_updL J 30 g183) 31 g184) 37 g188) 38 g189) (vf_upd (vf_upd (vf_upd F 28 f191) 41 f193) 43 f195) (vf_upd (vf_upd (vf_upd G 40 f192) 42 f194) 44 f2348)) := ⟨_, rfl, hP, hD⟩
                obtain ⟨v2349, ev2349⟩ : ∃ y : Int32, y = g181 + 1 := ⟨_, rfl⟩
                have hv2349 := i_add (Eq.refl g181.toInt) (show (1 : Int32).toInt = 1 by decide) ev2349 (by omega) (by omega)
                refine lv_iinc (v := v2349) (lv' := [(6, .int v2349), (0, .ref o), (1, .int p1), (2, .int p2), (3, .int p3), (4, .int p4), (5, .int p5)]) hx hb dX11_line_109 hl (k := 0) rfl (by rw [ev2349]; rfl) (by decide) rfl (fun ls hl => ?_)
                refine lv_goto (tgt := 62) hx hb dX11_line_112 (by decide) ?_
                exact ih340 (v2349, g182, g183, g184, g185, g186, g187, g188, g189, g190, f191, f192, f193, f194, f195, f2348) H locs ls (by show (40 - v2349.toInt).toNat < (40 - g181.toInt).toNat; omega) ⟨hP, hD, hS, lv_sub hl [0, 1, 2, 3, 4, 5, 6] rfl, by omega, hp339⟩
          · obtain rfl : u37 = 0 := i_is c42 (by decide)
            have zi0 : (0 : Int32).toInt = 0 := by decide
            refine W.eq (g2 := F0 m 54 ls [.int 0]) rfl ?_
            refine lv_if_ne (tgt := 59) hx hb dX11_line_54 (by decide) (fun c2350 => ?_) (fun c2350 => ?_)
            · exact absurd c2350 (by decide)
            refine lv_iconst (v := (-1)) hx hb dX11_line_57 (by decide) ?_
            refine W.widen (k := 0) (n := 0) (Nat.le_of_ble_eq_true rfl) (Nat.le_of_ble_eq_true rfl) ?_
            have zim1 : ((-1) : Int32).toInt = -1 := by decide
            exact W.iret (v := (-1)) hx hb hr (fun t ht hW => ⟨⟨((-1), (I 34), (I 35), (I 36), (I 39), (J 37), (J 38), (I 29), (J 30), (J 31), (F 1), (F 28), (G 40), (F 41), (G 42), (F 43), (G 44), (G 45)), rfl, (hk1), CB.mk ht hP hD⟩, hS.F ht⟩) hS.2.2 dX11_line_58
        · obtain rfl : u28 = 0 := i_is c33 (by decide)
          have zi0 : (0 : Int32).toInt = 0 := by decide
          refine W.eq (g2 := F0 m 43 ls [.int 0]) rfl ?_
          refine lv_if_eq (tgt := 57) hx hb dX11_line_43 (by decide) (fun c2351 => ?_) (fun c2351 => ?_)
          rotate_left
          · exact absurd c2351 (by decide)
          refine lv_iconst (v := (-1)) hx hb dX11_line_57 (by decide) ?_
          refine W.widen (k := 0) (n := 0) (Nat.le_of_ble_eq_true rfl) (Nat.le_of_ble_eq_true rfl) ?_
          have zim1 : ((-1) : Int32).toInt = -1 := by decide
          exact W.iret (v := (-1)) hx hb hr (fun t ht hW => ⟨⟨((-1), (I 34), (I 35), (I 36), (I 39), (J 37), (J 38), (I 29), (J 30), (J 31), (F 1), (F 28), (G 40), (F 41), (G 42), (F 43), (G 44), (G 45)), rfl, (hk1), CB.mk ht hP hD⟩, hS.F ht⟩) hS.2.2 dX11_line_58
      · obtain rfl : u19 = 0 := i_is c24 (by decide)
        have zi0 : (0 : Int32).toInt = 0 := by decide
        refine W.eq (g2 := F0 m 30 ls [.int 0]) rfl ?_
        refine lv_if_eq (tgt := 57) hx hb dX11_line_30 (by decide) (fun c2352 => ?_) (fun c2352 => ?_)
        rotate_left
        · exact absurd c2352 (by decide)
        refine lv_iconst (v := (-1)) hx hb dX11_line_57 (by decide) ?_
        refine W.widen (k := 0) (n := 0) (Nat.le_of_ble_eq_true rfl) (Nat.le_of_ble_eq_true rfl) ?_
        have zim1 : ((-1) : Int32).toInt = -1 := by decide
        exact W.iret (v := (-1)) hx hb hr (fun t ht hW => ⟨⟨((-1), (I 34), (I 35), (I 36), (I 39), (J 37), (J 38), (I 29), (J 30), (J 31), (F 1), (F 28), (G 40), (F 41), (G 42), (F 43), (G 44), (G 45)), rfl, (hk1), CB.mk ht hP hD⟩, hS.F ht⟩) hS.2.2 dX11_line_58
    · obtain rfl : u10 = 0 := i_is c15 (by decide)
      have zi0 : (0 : Int32).toInt = 0 := by decide
      refine W.eq (g2 := F0 m 18 ls [.int 0]) rfl ?_
      refine lv_if_eq (tgt := 57) hx hb dX11_line_18 (by decide) (fun c2353 => ?_) (fun c2353 => ?_)
      rotate_left
      · exact absurd c2353 (by decide)
      refine lv_iconst (v := (-1)) hx hb dX11_line_57 (by decide) ?_
      refine W.widen (k := 0) (n := 0) (Nat.le_of_ble_eq_true rfl) (Nat.le_of_ble_eq_true rfl) ?_
      have zim1 : ((-1) : Int32).toInt = -1 := by decide
      exact W.iret (v := (-1)) hx hb hr (fun t ht hW => ⟨⟨((-1), (I 34), (I 35), (I 36), (I 39), (J 37), (J 38), (I 29), (J 30), (J 31), (F 1), (F 28), (G 40), (F 41), (G 42), (F 43), (G 44), (G 45)), rfl, (hk1), CB.mk ht hP hD⟩, hS.F ht⟩) hS.2.2 dX11_line_58
  · obtain rfl : u1 = 0 := i_is c6 (by decide)
    have zi0 : (0 : Int32).toInt = 0 := by decide
    refine W.eq (g2 := F0 m 6 ls [.int 0]) rfl ?_
    refine lv_if_eq (tgt := 57) hx hb dX11_line_6 (by decide) (fun c2354 => ?_) (fun c2354 => ?_)
    rotate_left
    · exact absurd c2354 (by decide)
    refine lv_iconst (v := (-1)) hx hb dX11_line_57 (by decide) ?_
    refine W.widen (k := 0) (n := 0) (Nat.le_of_ble_eq_true rfl) (Nat.le_of_ble_eq_true rfl) ?_
    have zim1 : ((-1) : Int32).toInt = -1 := by decide
    exact W.iret (v := (-1)) hx hb hr (fun t ht hW => ⟨⟨((-1), (I 34), (I 35), (I 36), (I 39), (J 37), (J 38), (I 29), (J 30), (J 31), (F 1), (F 28), (G 40), (F 41), (G 42), (F 43), (G 44), (G 45)), rfl, (hk1), CB.mk ht hP hD⟩, hS.F ht⟩) hS.2.2 dX11_line_58
