set_option maxHeartbeats 4000000 in
set_option maxRecDepth 100000 in
theorem m_makes (l : Launch) (D : va_G) (Y : Nat → ClassId) (Z : Nat → Nat) (sz : Nat) (o : Nat) (a : Nat → Nat) (I : Nat → Int32) (J : Nat → Int64) (F : Nat → Nat → Int32) (G : Nat → Nat → Int64) (p1 : Int32) (hk_0 : (0 ≤ (I 20).toInt ∧ (I 20).toInt ≤ 60)) (hk_1 : (0 ≤ p1.toInt ∧ p1.toInt ≤ 400)) (hk_2 : (0 ≤ (I 17).toInt ∧ (I 17).toInt ≤ 4000)) : Met l yX11_makes (.code yX11_makes cX11_makes 2 (some .boolean) :: GW) ({ frames := 1, cells := 0, slots := 0, locals := 22 }) (va_Pc [.ref o, .int p1] (CP D Y Z (MW Y o a I J F G) sz)) (QG (S := Int32 × Int32 × Int32) (fun u => some (.int u.1)) (fun u => (0 ≤ u.2.2.toInt ∧ u.2.2.toInt ≤ 60) ∧ (0 ≤ u.2.1.toInt ∧ u.2.1.toInt ≤ 4000) ∧ ((u.1.toInt = 1 ∧ u.2.2.toInt = (I 20).toInt + 1) ∨ (u.1.toInt = 0 ∧ 1 ≤ u.2.1.toInt ∧ u.2.2.toInt = (I 20).toInt)) ∧ (0 ≤ u.1.toInt ∧ u.1.toInt ≤ 1)) (fun u => CB D (MW Y o a (upd (upd I 17 u.2.1) 20 u.2.2) J F G) (va_A (MW Y o a I J F G) sz)) (va_A (MW Y o a I J F G) sz)) 0 0 (va_A (MW Y o a I J F G) sz) := by
  refine Met.ofW (cc := cX11_makes) (maxL := 2) (ret := (some .boolean)) (by decide) rfl ?_
  intro p e s m args below meth c s₁ B hml hv
  obtain ⟨rfl, hsz, hP, hKN, hD0⟩ := hv
  have hx := B.exec
  have hb := B.bytes
  have hr := B.returns
  have hts := atoms_spec (ws := .code yX11_makes cX11_makes 2 (some .boolean) :: GW) B.pre
  have hg : ∀ w ∈ GW, w.before _ s = true := fun w h => hts w (List.mem_cons_of_mem _ h)
  have hown : s.vm.findClass RX11 = some m.cls := findClass_of_methodNamed B.named
  have hlocks := B.notSynchronized
  subst hsz
  have hD := hD0.self (sz := s.heap.size)
  generalize hAe : va_A (MW Y o a I J F G) s.heap.size = A at hD ⊢
  have hA : ∀ q : Nat, s.heap.size ≤ q → A q := fun q h => by rw [← hAe]; exact Or.inr h
  clear hAe hD0 hts B
  have hl := lv_entry ([.ref o, .int p1]) (n := 2) (Nat.le_of_ble_eq_true rfl)
  rw [lg_entry_eq]
  generalize (lg_sl ([.ref o, .int p1]) ++ List.replicate (2 - (lg_sl ([.ref o, .int p1])).length) Slot.unset).toArray = ls at hl ⊢
  have hl : lv_has ls 2 [(0, .ref o), (1, .int p1)] := hl
  refine w_start (A0 := A) hP (fun H locs hP hS => ?_)
  refine lv_aload_n hx hb dX11_makes_0 rfl (lv_at hl 0 rfl) ?_
  refine va_get (D := D) (ci := 11) (v := .int (I 20)) (C := RX11) (T := TX11) (N := 49) hx hb hg inGX11 hown hKN.1 hP 0 rfl rfl 20 (by decide) (hg _ kw_1228) (fun _ h9 => h9) rfl dX11_makes_1 ?_
  refine lv_bipush (v := 60) hx hb dX11_makes_4 (by decide) ?_
  refine lv_icmp_ne (tgt := 16) hx hb dX11_makes_6 (by decide) (fun c1 => ?_) (fun c1 => ?_)
  · skip
    have c1 := i_ne (Eq.refl (I 20).toInt) (show (60 : Int32).toInt = 60 by decide) c1
    refine lv_aload_n hx hb dX11_makes_16 rfl (lv_at hl 0 rfl) ?_
    refine lv_dup hx hb dX11_makes_17 rfl ?_
    refine va_get (D := D) (ci := 11) (v := .int (I 20)) (C := RX11) (T := TX11) (N := 49) hx hb hg inGX11 hown hKN.1 hP 0 rfl rfl 20 (by decide) (hg _ kw_1228) (fun _ h9 => h9) rfl dX11_makes_18 ?_
    refine lv_iconst (v := 1) hx hb dX11_makes_21 (by decide) ?_
    refine lv_iadd hx hb dX11_makes_22 ?_
    refine lv_topi (fun v2 ev2 => ?_)
    have hv2 := i_add (Eq.refl (I 20).toInt) (show (1 : Int32).toInt = 1 by decide) ev2 (by omega) (by omega)
    refine va_put (D := D) (ci := 11) (v := .int v2) (ty := .int) (C := RX11) (T := TX11) (N := 49) hx hb hg inGX11 tyX11 tyX11_ok nmX11 hown hKN.1 hP hD hS 0 rfl rfl 20 (by decide) (hg _ kw_1228) (fun _ h9 => h9) rfl (by decide +kernel) rfl rfl (Nat.le_of_ble_eq_true rfl) dX11_makes_23 (fun H locs hP hD hS => ?_)
    have hP : va_P D vwCl (MW Y o a (upd I 20 v2) J F G) H := hP
    have hD : va_D A (MW Y o a (upd I 20 v2) J F G) := hD
    refine lv_iconst (v := 1) hx hb dX11_makes_26 (by decide) ?_
    refine W.widen (k := 0) (n := 0) (Nat.le_of_ble_eq_true rfl) (Nat.le_of_ble_eq_true rfl) ?_
    have zi1 : (1 : Int32).toInt = 1 := by decide
    exact W.zret (v := 1) hx hb hr (by decide) (fun t ht hW => ⟨⟨(1, (I 17), v2), rfl, ⟨(show (0 ≤ v2.toInt ∧ v2.toInt ≤ 60) by omega), (show (0 ≤ (I 17).toInt ∧ (I 17).toInt ≤ 4000) by omega), (show (((1 : Int32).toInt = 1 ∧ v2.toInt = (I 20).toInt + 1) ∨ ((1 : Int32).toInt = 0 ∧ 1 ≤ (I 17).toInt ∧ v2.toInt = (I 20).toInt)) by omega), (show (0 ≤ (1 : Int32).toInt ∧ (1 : Int32).toInt ≤ 1) by omega)⟩, CB.mk ht hP hD⟩, hS.F ht⟩) hS.2.2 dX11_makes_27
  · skip
    have c1 := i_eq (Eq.refl (I 20).toInt) (show (60 : Int32).toInt = 60 by decide) c1
    refine lv_aload_n hx hb dX11_makes_9 rfl (lv_at hl 0 rfl) ?_
    refine lv_iconst (v := 3) hx hb dX11_makes_10 (by decide) ?_
    refine lv_iload_n hx hb dX11_makes_11 rfl (lv_at hl 1 rfl) ?_
    have zi3 : (3 : Int32).toInt = 3 := by decide
    refine cga (rn_V (As := [.int 3, .int p1]) (rest := []) (b := o) (m_fails l D Y Z H.size o a I J F G  3 p1 (show (0 ≤ (3 : Int32).toInt ∧ (3 : Int32).toInt ≤ 4) by omega) (show (0 ≤ p1.toInt ∧ p1.toInt ≤ 400) by omega) (show (0 ≤ (I 17).toInt ∧ (I 17).toInt ≤ 4000) by omega)) ⟨hx, hb, hml, hown, hg⟩ lk_X11_200 ⟨CP.blind, va_recv hKN.1 hP (ci := 11) (q0 := 0) rfl rfl, CP.at hP hKN hD⟩ ⟨⟨rfl, rfl⟩, ⟨Nat.le_of_ble_eq_true rfl, Nat.le_of_ble_eq_true rfl⟩, ⟨Nat.le_of_ble_eq_true rfl, Nat.le_of_ble_eq_true rfl⟩⟩ hl.1 rfl (Nat.le_of_ble_eq_true rfl) dX11_makes_12) hP hD hS hA (fun u3 H locs w4 hP hD hS => ?_)
    obtain ⟨u5, u6⟩ := u3
    have w4 : (u5.toInt = 0) ∧ (1 ≤ u6.toInt ∧ u6.toInt ≤ 4000) := w4
    obtain ⟨hw7, hw8⟩ := w4
    refine W.eq (g2 := F0 m 15 ls [.int u5]) rfl ?_
    have hP : va_P D vwCl (MW Y o a (upd I 17 u6) J F G) H := hP
    have hD : va_D A (MW Y o a (upd I 17 u6) J F G) := hD
    obtain rfl : u5 = 0 := i_is (X := 0) (by omega) (by decide)
    refine W.eq (g2 := F0 m 15 ls [.int 0]) rfl ?_
    refine W.widen (k := 0) (n := 0) (Nat.le_of_ble_eq_true rfl) (Nat.le_of_ble_eq_true rfl) ?_
    have zi0 : (0 : Int32).toInt = 0 := by decide
    exact W.zret (v := 0) hx hb hr (by decide) (fun t ht hW => ⟨⟨(0, u6, (I 20)), rfl, ⟨(show (0 ≤ (I 20).toInt ∧ (I 20).toInt ≤ 60) by omega), (show (0 ≤ u6.toInt ∧ u6.toInt ≤ 4000) by omega), (show (((0 : Int32).toInt = 1 ∧ (I 20).toInt = (I 20).toInt + 1) ∨ ((0 : Int32).toInt = 0 ∧ 1 ≤ u6.toInt ∧ (I 20).toInt = (I 20).toInt)) by omega), (show (0 ≤ (0 : Int32).toInt ∧ (0 : Int32).toInt ≤ 1) by omega)⟩, CB.mk ht hP hD⟩, hS.F ht⟩) hS.2.2 dX11_makes_15
set_option maxHeartbeats 4000000 in
set_option maxRecDepth 100000 in
theorem m_puts (l : Launch) (D : va_G) (Y : Nat → ClassId) (Z : Nat → Nat) (sz : Nat) (o : Nat) (a : Nat → Nat) (I : Nat → Int32) (J : Nat → Int64) (F : Nat → Nat → Int32) (G : Nat → Nat → Int64) (p1 : Int32) (p2 : Int32) (hk_0 : (0 ≤ (I 19).toInt ∧ (I 19).toInt ≤ 17)) (hk_1 : (0 ≤ p1.toInt ∧ p1.toInt ≤ 15)) (hk_2 : (0 ≤ p2.toInt ∧ p2.toInt ≤ 99999)) (hk_3 : (0 ≤ ((F 6) (I 19).toNatClampNeg).toInt ∧ ((F 6) (I 19).toNatClampNeg).toInt ≤ 399)) : Met l yX11_puts (.code yX11_puts cX11_puts 3 none :: GW) ({ frames := 0, cells := 0, slots := 0, locals := 0 }) (va_Pc [.ref o, .int p1, .int p2] (CP D Y Z (MW Y o a I J F G) sz)) (QG (S := (Nat → Int32) × (Nat → Int32)) (fun _ => none) (fun u => PU (F 5) u.1 (F 6) u.2 (I 19).toNatClampNeg p1.toInt p2.toInt) (fun u => CB D (MW Y o a I J (vf_upd (vf_upd F 5 u.1) 6 u.2) G) (va_A (MW Y o a I J F G) sz)) (va_A (MW Y o a I J F G) sz)) 0 0 (va_A (MW Y o a I J F G) sz) := by
  refine Met.ofW (cc := cX11_puts) (maxL := 3) (ret := none) (by decide) rfl ?_
  intro p e s m args below meth c s₁ B hml hv
  obtain ⟨rfl, hsz, hP, hKN, hD0⟩ := hv
  have hx := B.exec
  have hb := B.bytes
  have hr := B.returns
  have hts := atoms_spec (ws := .code yX11_puts cX11_puts 3 none :: GW) B.pre
  have hg : ∀ w ∈ GW, w.before _ s = true := fun w h => hts w (List.mem_cons_of_mem _ h)
  have hown : s.vm.findClass RX11 = some m.cls := findClass_of_methodNamed B.named
  have hlocks := B.notSynchronized
  subst hsz
  have hD := hD0.self (sz := s.heap.size)
  generalize hAe : va_A (MW Y o a I J F G) s.heap.size = A at hD ⊢
  have hA : ∀ q : Nat, s.heap.size ≤ q → A q := fun q h => by rw [← hAe]; exact Or.inr h
  clear hAe hD0 hts B
  have hl := lv_entry ([.ref o, .int p1, .int p2]) (n := 3) (Nat.le_of_ble_eq_true rfl)
  rw [lg_entry_eq]
  generalize (lg_sl ([.ref o, .int p1, .int p2]) ++ List.replicate (3 - (lg_sl ([.ref o, .int p1, .int p2])).length) Slot.unset).toArray = ls at hl ⊢
  have hl : lv_has ls 3 [(0, .ref o), (1, .int p1), (2, .int p2)] := hl
  refine w_start (A0 := A) hP (fun H locs hP hS => ?_)
  refine lv_aload_n hx hb dX11_puts_0 rfl (lv_at hl 0 rfl) ?_
  refine va_get (D := D) (ci := 11) (v := .ref (a 5)) (C := RX11) (T := TX11) (N := 49) hx hb hg inGX11 hown hKN.1 hP 0 rfl rfl 5 (by decide) (hg _ kw_1213) (fun _ h9 => h9) rfl dX11_puts_1 ?_
  refine lv_sipush (v := 400) hx hb dX11_puts_4 (by decide) ?_
  refine lv_aload_n hx hb dX11_puts_7 rfl (lv_at hl 0 rfl) ?_
  refine va_get (D := D) (ci := 11) (v := .int (I 19)) (C := RX11) (T := TX11) (N := 49) hx hb hg inGX11 hown hKN.1 hP 0 rfl rfl 19 (by decide) (hg _ kw_1227) (fun _ h9 => h9) rfl dX11_puts_8 ?_
  refine lv_imul hx hb dX11_puts_11 ?_
  refine lv_topi (fun v1 ev1 => ?_)
  have hv1 := i_mul (show (400 : Int32).toInt = 400 by decide) (Eq.refl (I 19).toInt) ev1 (by omega) (by omega)
  refine lv_aload_n hx hb dX11_puts_12 rfl (lv_at hl 0 rfl) ?_
  refine va_get (D := D) (ci := 11) (v := .ref (a 6)) (C := RX11) (T := TX11) (N := 49) hx hb hg inGX11 hown hKN.1 hP 0 rfl rfl 6 (by decide) (hg _ kw_1214) (fun _ h9 => h9) rfl dX11_puts_13 ?_
  refine lv_aload_n hx hb dX11_puts_16 rfl (lv_at hl 0 rfl) ?_
  refine va_get (D := D) (ci := 11) (v := .int (I 19)) (C := RX11) (T := TX11) (N := 49) hx hb hg inGX11 hown hKN.1 hP 0 rfl rfl 19 (by decide) (hg _ kw_1227) (fun _ h9 => h9) rfl dX11_puts_17 ?_
  refine va_iald hx hb hKN.1 hP 6 0 rfl rfl (vp_in_iff.mpr ⟨by omega, by omega⟩) dX11_puts_20 ?_
  refine lv_topi (fun v2 ev2 => ?_)
  have ev2 : v2 = (F 6) (I 19).toNatClampNeg := ev2
  have qv2 := congrArg Int32.toInt ev2
  refine lv_iadd hx hb dX11_puts_21 ?_
  refine lv_topi (fun v3 ev3 => ?_)
  have hv3 := i_add (Eq.refl v1.toInt) (Eq.refl v2.toInt) ev3 (by omega) (by omega)
  refine lv_iload_n hx hb dX11_puts_22 rfl (lv_at hl 1 rfl) ?_
  refine lv_bipush (v := 16) hx hb dX11_puts_23 (by decide) ?_
  refine lv_iload_n hx hb dX11_puts_25 rfl (lv_at hl 2 rfl) ?_
  refine lv_imul hx hb dX11_puts_26 ?_
  refine lv_topi (fun v4 ev4 => ?_)
  have hv4 := i_mul (show (16 : Int32).toInt = 16 by decide) (Eq.refl p2.toInt) ev4 (by omega) (by omega)
  refine lv_iadd hx hb dX11_puts_27 ?_
  refine lv_topi (fun v5 ev5 => ?_)
  have hv5 := i_add (Eq.refl p1.toInt) (Eq.refl v4.toInt) ev5 (by omega) (by omega)
  refine va_iast hx hb hKN.1 hP hD hS 5 0 rfl rfl (vp_in_iff.mpr ⟨by omega, by omega⟩) dX11_puts_28 (fun H locs hP hD hS => ?_)
  obtain ⟨f6, ef6, hP, hD⟩ : ∃ f6 : Nat → Int32, f6 = upd (F 5) v3.toNatClampNeg v5 ∧ va_P D vwCl (MW Y o a I J (vf_upd F 5 f6) G) H ∧ va_D A (MW Y o a I J (vf_upd F 5 f6) G) := ⟨_, rfl, hP, hD⟩
  have i1 : v3.toNatClampNeg = 400 * (I 19).toNatClampNeg + (F 6 (I 19).toNatClampNeg).toInt.toNat := by have c1 := clampI (x := v3) (by omega); have c2 := clampI (x := I 19) (by omega); omega
  rw [i1] at ef6
  refine lv_aload_n hx hb dX11_puts_29 rfl (lv_at hl 0 rfl) ?_
  refine va_get (D := D) (ci := 11) (v := .ref (a 6)) (C := RX11) (T := TX11) (N := 49) hx hb hg inGX11 hown hKN.1 hP 0 rfl rfl 6 (by decide) (hg _ kw_1214) (fun _ h9 => h9) rfl dX11_puts_30 ?_
  refine lv_aload_n hx hb dX11_puts_33 rfl (lv_at hl 0 rfl) ?_
  refine va_get (D := D) (ci := 11) (v := .int (I 19)) (C := RX11) (T := TX11) (N := 49) hx hb hg inGX11 hown hKN.1 hP 0 rfl rfl 19 (by decide) (hg _ kw_1227) (fun _ h9 => h9) rfl dX11_puts_34 ?_
  refine lv_dup2_11 hx hb dX11_puts_37 rfl rfl ?_
  refine va_iald hx hb hKN.1 hP 6 0 rfl rfl (vp_in_iff.mpr ⟨by omega, by omega⟩) dX11_puts_38 ?_
  refine lv_topi (fun v7 ev7 => ?_)
  have ev7 : v7 = (F 6) (I 19).toNatClampNeg := ev7
  have qv7 := congrArg Int32.toInt ev7
  refine lv_iconst (v := 1) hx hb dX11_puts_39 (by decide) ?_
  refine lv_iadd hx hb dX11_puts_40 ?_
  refine lv_topi (fun v8 ev8 => ?_)
  have hv8 := i_add (Eq.refl v7.toInt) (show (1 : Int32).toInt = 1 by decide) ev8 (by omega) (by omega)
  refine va_iast hx hb hKN.1 hP hD hS 6 0 rfl rfl (vp_in_iff.mpr ⟨by omega, by omega⟩) dX11_puts_41 (fun H locs hP hD hS => ?_)
  obtain ⟨f9, ef9, hP, hD⟩ : ∃ f9 : Nat → Int32, f9 = upd (F 6) ((I 19).toNatClampNeg) v8 ∧ va_P D vwCl (MW Y o a I J (vf_upd (vf_upd F 5 f6) 6 f9) G) H ∧ va_D A (MW Y o a I J (vf_upd (vf_upd F 5 f6) 6 f9) G) := ⟨_, rfl, hP, hD⟩
  refine W.widen (k := 0) (n := 0) (Nat.le_of_ble_eq_true rfl) (Nat.le_of_ble_eq_true rfl) ?_
  exact W.vret hx hb hr (fun t ht hW => ⟨⟨(f6, f9), rfl, (⟨v5, v8, by omega, ef6, by omega, ef9⟩), CB.mk ht hP hD⟩, hS.F ht⟩) hS.2.2 dX11_puts_42
set_option maxHeartbeats 4000000 in
set_option maxRecDepth 100000 in
theorem m_value (l : Launch) (D : va_G) (Y : Nat → ClassId) (Z : Nat → Nat) (sz : Nat) (o : Nat) (a : Nat → Nat) (I : Nat → Int32) (J : Nat → Int64) (F : Nat → Nat → Int32) (G : Nat → Nat → Int64) (gs : Nat → Int32) (gb : Nat) (gd : Nat) (hk_0 : (0 ≤ (I 16).toInt ∧ (I 16).toInt ≤ 400)) (hk_1 : (0 ≤ (I 3).toInt ∧ (I 3).toInt ≤ 400)) (hk_2 : ((I 16).toInt ≤ (I 3).toInt)) (hk_3 : (0 ≤ (I 17).toInt ∧ (I 17).toInt ≤ 4000)) (hk_4 : (0 ≤ (I 20).toInt ∧ (I 20).toInt ≤ 60)) (hk_5 : (0 ≤ (I 19).toInt ∧ (I 19).toInt ≤ 17)) (hk_6 : (((F 6) (I 19).toNatClampNeg).toInt ≤ (I 16).toInt)) (hr_PS : PSg (F 4) (F 8) (F 7) (F 5) (F 6) gs (I 19).toNatClampNeg gb (gd) ((I 20).toInt).toNat) : Met l yX11_value (.code yX11_value cX11_value 3 (some .boolean) :: GW) ({ frames := 3, cells := 0, slots := 0, locals := 66 }) (va_Pc [.ref o] (CP D Y Z (MW Y o a I J F G) sz)) (QG (S := Int32 × Int32 × Int32 × Int32 × Int32 × (Nat → Int32) × (Nat → Int32)) (fun u => some (.int u.1)) (fun u => (0 ≤ u.2.1.toInt ∧ u.2.1.toInt ≤ 400) ∧ ((I 16).toInt ≤ u.2.1.toInt) ∧ (u.2.1.toInt ≤ (I 3).toInt) ∧ (0 ≤ u.2.2.1.toInt ∧ u.2.2.1.toInt ≤ 4000) ∧ (0 ≤ u.2.2.2.2.1.toInt ∧ u.2.2.2.2.1.toInt ≤ 60) ∧ ((I 20).toInt ≤ u.2.2.2.2.1.toInt) ∧ (0 ≤ u.1.toInt ∧ u.1.toInt ≤ 1) ∧ (u.1.toInt = 0 → 1 ≤ u.2.2.1.toInt) ∧ (u.1.toInt = 1 → (u.2.2.2.2.2.2 (I 19).toNatClampNeg).toInt = ((F 6) (I 19).toNatClampNeg).toInt + 1 ∧ (I 16).toInt + 1 ≤ u.2.1.toInt) ∧ (u.1.toInt = 1 → PSg (F 4) (F 8) (F 7) u.2.2.2.2.2.1 u.2.2.2.2.2.2 gs (I 19).toNatClampNeg gb (gd + 1) (u.2.2.2.2.1.toInt).toNat) ∧ TC (F 4) (F 8) (F 7) u.2.2.2.2.2.1) (fun u => CB D (MW Y o a (upd (upd (upd (upd I 16 u.2.1) 17 u.2.2.1) 18 u.2.2.2.1) 20 u.2.2.2.2.1) J (vf_upd (vf_upd F 5 u.2.2.2.2.2.1) 6 u.2.2.2.2.2.2) G) (va_A (MW Y o a I J F G) sz)) (va_A (MW Y o a I J F G) sz)) 0 0 (va_A (MW Y o a I J F G) sz) := by
  refine Met.ofW (cc := cX11_value) (maxL := 3) (ret := (some .boolean)) (by decide) rfl ?_
  intro p e s m args below meth c s₁ B hml hv
  obtain ⟨rfl, hsz, hP, hKN, hD0⟩ := hv
  have hx := B.exec
  have hb := B.bytes
  have hr := B.returns
  have hts := atoms_spec (ws := .code yX11_value cX11_value 3 (some .boolean) :: GW) B.pre
  have hg : ∀ w ∈ GW, w.before _ s = true := fun w h => hts w (List.mem_cons_of_mem _ h)
  have hown : s.vm.findClass RX11 = some m.cls := findClass_of_methodNamed B.named
  have hlocks := B.notSynchronized
  subst hsz
  have hD := hD0.self (sz := s.heap.size)
  generalize hAe : va_A (MW Y o a I J F G) s.heap.size = A at hD ⊢
  have hA : ∀ q : Nat, s.heap.size ≤ q → A q := fun q h => by rw [← hAe]; exact Or.inr h
  clear hAe hD0 hts B
  have hl := lv_entry ([.ref o]) (n := 3) (Nat.le_of_ble_eq_true rfl)
  rw [lg_entry_eq]
  generalize (lg_sl ([.ref o]) ++ List.replicate (3 - (lg_sl ([.ref o])).length) Slot.unset).toArray = ls at hl ⊢
  have hl : lv_has ls 3 [(0, .ref o)] := hl
  refine w_start (A0 := A) hP (fun H locs hP hS => ?_)
  have hd0 := PG_dep hr_PS
  have hl0 := PG_len hr_PS
  refine lv_aload_n hx hb dX11_value_0 rfl (lv_at hl 0 rfl) ?_
  refine cga (rn_V (As := []) (rest := []) (b := o) (m_see l D Y Z H.size o a I J F G   (show (0 ≤ (I 16).toInt ∧ (I 16).toInt ≤ 400) by omega) (show (0 ≤ (I 3).toInt ∧ (I 3).toInt ≤ 400) by omega) (show ((I 16).toInt ≤ (I 3).toInt) by omega)) ⟨hx, hb, hml, hown, hg⟩ lk_X11_183 ⟨CP.blind, va_recv hKN.1 hP (ci := 11) (q0 := 0) rfl rfl, CP.at hP hKN hD⟩ ⟨⟨rfl, rfl⟩, ⟨Nat.le_of_ble_eq_true rfl, Nat.le_of_ble_eq_true rfl⟩, ⟨Nat.le_of_ble_eq_true rfl, Nat.le_of_ble_eq_true rfl⟩⟩ hl.1 rfl (Nat.le_of_ble_eq_true rfl) dX11_value_1) hP hD hS hA (fun u1 H locs w2 hP hD hS => ?_)
  obtain ⟨u3, u4⟩ := u1
  have w2 : (0 ≤ u4.toInt ∧ u4.toInt ≤ 400) ∧ ((I 16).toInt ≤ u4.toInt) ∧ (u4.toInt ≤ (I 3).toInt) ∧ ((u3.toInt = -1 ∧ u4.toInt = (I 3).toInt) ∨ (0 ≤ u3.toInt ∧ u3.toInt ≤ 255 ∧ u4.toInt < (I 3).toInt ∧ ((F 2) u4.toNatClampNeg).toInt ≠ 32)) ∧ (-1 ≤ u3.toInt ∧ u3.toInt ≤ 255) ∧ (((I 16).toInt < (I 3).toInt ∧ ((F 2) (I 16).toNatClampNeg).toInt ≠ 32) → u4.toInt = (I 16).toInt) := w2
  obtain ⟨hw5, hw6, hw7, hw8, hw9, hw10⟩ := w2
  refine W.eq (g2 := F0 m 4 ls [.int u3]) rfl ?_
  have hP : va_P D vwCl (MW Y o a (upd I 16 u4) J F G) H := hP
  have hD : va_D A (MW Y o a (upd I 16 u4) J F G) := hD
  refine lv_pop hx hb dX11_value_4 rfl ?_
  refine lv_aload_n hx hb dX11_value_5 rfl (lv_at hl 0 rfl) ?_
  refine va_get (D := D) (ci := 11) (v := .int u4) (C := RX11) (T := TX11) (N := 49) hx hb hg inGX11 hown hKN.1 hP 0 rfl rfl 16 (by decide) (hg _ kw_1224) (fun _ h9 => h9) rfl dX11_value_6 ?_
  refine lv_istore_n (lv' := [(1, .int u4), (0, .ref o)]) hx hb dX11_value_9 rfl hl (by decide) rfl (fun ls hl => ?_)
  refine lv_aload_n hx hb dX11_value_10 rfl (lv_at hl 1 rfl) ?_
  refine lv_aload_n hx hb dX11_value_11 rfl (lv_at hl 1 rfl) ?_
  refine va_get (D := D) (ci := 11) (v := .int u4) (C := RX11) (T := TX11) (N := 49) hx hb hg inGX11 hown hKN.1 hP 0 rfl rfl 16 (by decide) (hg _ kw_1224) (fun _ h9 => h9) rfl dX11_value_12 ?_
  refine cga (rn_V (As := [.int u4]) (rest := []) (b := o) (m_isDigit l D Y Z H.size o a (upd I 16 u4) J F G  u4 (show (0 ≤ u4.toInt ∧ u4.toInt ≤ 800) by omega) (show (0 ≤ (I 3).toInt ∧ (I 3).toInt ≤ 400) by omega)) ⟨hx, hb, hml, hown, hg⟩ lk_X11_197 ⟨CP.blind, va_recv hKN.1 hP (ci := 11) (q0 := 0) rfl rfl, CP.at hP hKN hD⟩ ⟨⟨rfl, rfl⟩, ⟨Nat.le_of_ble_eq_true rfl, Nat.le_of_ble_eq_true rfl⟩, ⟨Nat.le_of_ble_eq_true rfl, Nat.le_of_ble_eq_true rfl⟩⟩ hl.1 rfl (Nat.le_of_ble_eq_true rfl) dX11_value_15) hP hD hS hA (fun u11 H locs w12 hP hD hS => ?_)
  have w12 : ((u11.toInt = 1 ∧ u4.toInt < (I 3).toInt ∧ 48 ≤ ((F 2) u4.toNatClampNeg).toInt ∧ ((F 2) u4.toNatClampNeg).toInt ≤ 57) ∨ (u11.toInt = 0 ∧ ¬ (u4.toInt < (I 3).toInt ∧ 48 ≤ ((F 2) u4.toNatClampNeg).toInt ∧ ((F 2) u4.toNatClampNeg).toInt ≤ 57))) ∧ (0 ≤ u11.toInt ∧ u11.toInt ≤ 1) := w12
  obtain ⟨hw14, hw15⟩ := w12
  refine W.eq (g2 := F0 m 18 ls [.int u11]) rfl ?_
  have hP : va_P D vwCl (MW Y o a (upd I 16 u4) J F G) H := hP
  have hD : va_D A (MW Y o a (upd I 16 u4) J F G) := hD
  rcases (show u11.toInt = 1 ∨ u11.toInt = 0 by omega) with c16 | c16
  · obtain rfl : u11 = 1 := i_is c16 (by decide)
    have zi1 : (1 : Int32).toInt = 1 := by decide
    refine W.eq (g2 := F0 m 18 ls [.int 1]) rfl ?_
    refine lv_if_eq (tgt := 52) hx hb dX11_value_18 (by decide) (fun c17 => ?_) (fun c17 => ?_)
    · exact absurd c17 (by decide)
    refine lv_aload_n hx hb dX11_value_21 rfl (lv_at hl 1 rfl) ?_
    refine lv_iconst (v := 0) hx hb dX11_value_22 (by decide) ?_
    refine lv_ldc (v := 99999) hx hb hown (hg _ kw_1521) dX11_value_23 ?_
    have zi0 : (0 : Int32).toInt = 0 := by decide
    have zi99999 : (99999 : Int32).toInt = 99999 := by decide
    refine cga (rn_V (As := [.int 0, .int 99999]) (rest := []) (b := o) (m_number l D Y Z H.size o a (upd I 16 u4) J F G  0 99999 (show (0 ≤ u4.toInt ∧ u4.toInt ≤ 400) by omega) (show (0 ≤ (I 3).toInt ∧ (I 3).toInt ≤ 400) by omega) (show (u4.toInt ≤ (I 3).toInt) by omega) (show (0 ≤ (I 17).toInt ∧ (I 17).toInt ≤ 4000) by omega) (show (-1 ≤ (0 : Int32).toInt ∧ (0 : Int32).toInt ≤ 100000) by omega) (show (-1 ≤ (99999 : Int32).toInt ∧ (99999 : Int32).toInt ≤ 100000) by omega)) ⟨hx, hb, hml, hown, hg⟩ lk_X11_255 ⟨CP.blind, va_recv hKN.1 hP (ci := 11) (q0 := 0) rfl rfl, CP.at hP hKN hD⟩ ⟨⟨rfl, rfl⟩, ⟨Nat.le_of_ble_eq_true rfl, Nat.le_of_ble_eq_true rfl⟩, ⟨Nat.le_of_ble_eq_true rfl, Nat.le_of_ble_eq_true rfl⟩⟩ hl.1 rfl (Nat.le_of_ble_eq_true rfl) dX11_value_25) hP hD hS hA (fun u18 H locs w19 hP hD hS => ?_)
    obtain ⟨u20, u21, u22, u23⟩ := u18
    have w19 : (0 ≤ u21.toInt ∧ u21.toInt ≤ 400) ∧ (u4.toInt ≤ u21.toInt) ∧ (u21.toInt ≤ (I 3).toInt) ∧ (0 ≤ u22.toInt ∧ u22.toInt ≤ 4000) ∧ ((u20.toInt = 1 ∧ (0 : Int32).toInt ≤ u23.toInt ∧ u23.toInt ≤ (99999 : Int32).toInt ∧ u4.toInt + 1 ≤ u21.toInt) ∨ (u20.toInt = 0 ∧ 1 ≤ u22.toInt)) ∧ (0 ≤ u20.toInt ∧ u20.toInt ≤ 1) := w19
    obtain ⟨hw24, hw25, hw26, hw27, hw28, hw29⟩ := w19
    refine W.eq (g2 := F0 m 28 ls [.int u20]) rfl ?_
    have hP : va_P D vwCl (MW Y o a (upd (upd (upd I 16 u21) 17 u22) 18 u23) J F G) H := hP
    have hD : va_D A (MW Y o a (upd (upd (upd I 16 u21) 17 u22) 18 u23) J F G) := hD
    rcases (show u20.toInt = 1 ∨ u20.toInt = 0 by omega) with c30 | c30
    · obtain rfl : u20 = 1 := i_is c30 (by decide)
      refine W.eq (g2 := F0 m 28 ls [.int 1]) rfl ?_
      refine lv_if_eq (tgt := 39) hx hb dX11_value_28 (by decide) (fun c31 => ?_) (fun c31 => ?_)
      · exact absurd c31 (by decide)
      refine lv_aload_n hx hb dX11_value_31 rfl (lv_at hl 1 rfl) ?_
      refine lv_iload_n hx hb dX11_value_32 rfl (lv_at hl 0 rfl) ?_
      refine cga (rn_V (As := [.int u4]) (rest := []) (b := o) (m_makes l D Y Z H.size o a (upd (upd (upd I 16 u21) 17 u22) 18 u23) J F G  u4 (show (0 ≤ (I 20).toInt ∧ (I 20).toInt ≤ 60) by omega) (show (0 ≤ u4.toInt ∧ u4.toInt ≤ 400) by omega) (show (0 ≤ u22.toInt ∧ u22.toInt ≤ 4000) by omega)) ⟨hx, hb, hml, hown, hg⟩ lk_X11_258 ⟨CP.blind, va_recv hKN.1 hP (ci := 11) (q0 := 0) rfl rfl, CP.at hP hKN hD⟩ ⟨⟨rfl, rfl⟩, ⟨Nat.le_of_ble_eq_true rfl, Nat.le_of_ble_eq_true rfl⟩, ⟨Nat.le_of_ble_eq_true rfl, Nat.le_of_ble_eq_true rfl⟩⟩ hl.1 rfl (Nat.le_of_ble_eq_true rfl) dX11_value_33) hP hD hS hA (fun u32 H locs w33 hP hD hS => ?_)
      obtain ⟨u34, u35, u36⟩ := u32
      have w33 : (0 ≤ u36.toInt ∧ u36.toInt ≤ 60) ∧ (0 ≤ u35.toInt ∧ u35.toInt ≤ 4000) ∧ ((u34.toInt = 1 ∧ u36.toInt = (I 20).toInt + 1) ∨ (u34.toInt = 0 ∧ 1 ≤ u35.toInt ∧ u36.toInt = (I 20).toInt)) ∧ (0 ≤ u34.toInt ∧ u34.toInt ≤ 1) := w33
      obtain ⟨hw37, hw38, hw39, hw40⟩ := w33
      refine W.eq (g2 := F0 m 36 ls [.int u34]) rfl ?_
      have hP : va_P D vwCl (MW Y o a (upd (upd (upd (upd I 16 u21) 17 u35) 18 u23) 20 u36) J F G) H := hP
      have hD : va_D A (MW Y o a (upd (upd (upd (upd I 16 u21) 17 u35) 18 u23) 20 u36) J F G) := hD
      rcases (show u34.toInt = 1 ∨ u34.toInt = 0 by omega) with c41 | c41
      · obtain rfl : u34 = 1 := i_is c41 (by decide)
        refine W.eq (g2 := F0 m 36 ls [.int 1]) rfl ?_
        refine lv_if_ne (tgt := 41) hx hb dX11_value_36 (by decide) (fun c42 => ?_) (fun c42 => ?_)
        rotate_left
        · exact absurd c42 (by decide)
        refine lv_aload_n hx hb dX11_value_41 rfl (lv_at hl 1 rfl) ?_
        refine lv_iconst (v := 0) hx hb dX11_value_42 (by decide) ?_
        refine lv_aload_n hx hb dX11_value_43 rfl (lv_at hl 1 rfl) ?_
        refine va_get (D := D) (ci := 11) (v := .int u23) (C := RX11) (T := TX11) (N := 49) hx hb hg inGX11 hown hKN.1 hP 0 rfl rfl 18 (by decide) (hg _ kw_1226) (fun _ h9 => h9) rfl dX11_value_44 ?_
        refine cga (rn_V (As := [.int 0, .int u23]) (rest := []) (b := o) (m_puts l D Y Z H.size o a (upd (upd (upd (upd I 16 u21) 17 u35) 18 u23) 20 u36) J F G  0 u23 (show (0 ≤ (I 19).toInt ∧ (I 19).toInt ≤ 17) by omega) (show (0 ≤ (0 : Int32).toInt ∧ (0 : Int32).toInt ≤ 15) by omega) (show (0 ≤ u23.toInt ∧ u23.toInt ≤ 99999) by omega) (show (0 ≤ ((F 6) (I 19).toNatClampNeg).toInt ∧ ((F 6) (I 19).toNatClampNeg).toInt ≤ 399) by omega)) ⟨hx, hb, hml, hown, hg⟩ lk_X11_250 ⟨CP.blind, va_recv hKN.1 hP (ci := 11) (q0 := 0) rfl rfl, CP.at hP hKN hD⟩ ⟨⟨rfl, rfl⟩, ⟨Nat.le_of_ble_eq_true rfl, Nat.le_of_ble_eq_true rfl⟩, ⟨Nat.le_of_ble_eq_true rfl, Nat.le_of_ble_eq_true rfl⟩⟩ hl.1 rfl (Nat.le_of_ble_eq_true rfl) dX11_value_47) hP hD hS hA (fun u43 H locs w44 hP hD hS => ?_)
        obtain ⟨f45, f46⟩ := u43
        have w44 : PU (F 5) f45 (F 6) f46 (I 19).toNatClampNeg (0 : Int32).toInt u23.toInt := w44
        have hw47 := w44
        refine W.eq (g2 := F0 m 50 ls []) rfl ?_
        have hP : va_P D vwCl (MW Y o a (upd (upd (upd (upd I 16 u21) 17 u35) 18 u23) 20 u36) J (vf_upd (vf_upd F 5 f45) 6 f46) G) H := hP
        have hD : va_D A (MW Y o a (upd (upd (upd (upd I 16 u21) 17 u35) 18 u23) 20 u36) J (vf_upd (vf_upd F 5 f45) 6 f46) G) := hD
        have t48 := PG_pu (e := (gd + 1)) (PG_to (md2 := u36.toInt.toNat) hr_PS rfl rfl (by omega) (by omega)) hw47 (fun x hx => stp_num hx (by omega) (by omega) (by omega) (by omega) rfl) (by omega) (by omega)
        obtain ⟨t48p, t48l⟩ := t48
        refine lv_iconst (v := 1) hx hb dX11_value_50 (by decide) ?_
        refine W.widen (k := 0) (n := 0) (Nat.le_of_ble_eq_true rfl) (Nat.le_of_ble_eq_true rfl) ?_
        exact W.zret (v := 1) hx hb hr (by decide) (fun t ht hW => ⟨⟨(1, u21, u35, u23, u36, f45, f46), rfl, ⟨(show (0 ≤ u21.toInt ∧ u21.toInt ≤ 400) by omega), (show ((I 16).toInt ≤ u21.toInt) by omega), (show (u21.toInt ≤ (I 3).toInt) by omega), (show (0 ≤ u35.toInt ∧ u35.toInt ≤ 4000) by omega), (show (0 ≤ u36.toInt ∧ u36.toInt ≤ 60) by omega), (show ((I 20).toInt ≤ u36.toInt) by omega), (show (0 ≤ (1 : Int32).toInt ∧ (1 : Int32).toInt ≤ 1) by omega), (show ((1 : Int32).toInt = 0 → 1 ≤ u35.toInt) by omega), (show ((1 : Int32).toInt = 1 → (f46 (I 19).toNatClampNeg).toInt = ((F 6) (I 19).toNatClampNeg).toInt + 1 ∧ (I 16).toInt + 1 ≤ u21.toInt) by omega), (fun _ => (PG_to t48p rfl (by omega) (by omega) (by omega))), (PG_tc t48p)⟩, CB.mk ht hP hD⟩, hS.F ht⟩) hS.2.2 dX11_value_51
      · obtain rfl : u34 = 0 := i_is c41 (by decide)
        refine W.eq (g2 := F0 m 36 ls [.int 0]) rfl ?_
        refine lv_if_ne (tgt := 41) hx hb dX11_value_36 (by decide) (fun c49 => ?_) (fun c49 => ?_)
        · exact absurd c49 (by decide)
        refine lv_iconst (v := 0) hx hb dX11_value_39 (by decide) ?_
        refine W.widen (k := 0) (n := 0) (Nat.le_of_ble_eq_true rfl) (Nat.le_of_ble_eq_true rfl) ?_
        exact W.zret (v := 0) hx hb hr (by decide) (fun t ht hW => ⟨⟨(0, u21, u35, u23, u36, (F 5), (F 6)), rfl, ⟨(show (0 ≤ u21.toInt ∧ u21.toInt ≤ 400) by omega), (show ((I 16).toInt ≤ u21.toInt) by omega), (show (u21.toInt ≤ (I 3).toInt) by omega), (show (0 ≤ u35.toInt ∧ u35.toInt ≤ 4000) by omega), (show (0 ≤ u36.toInt ∧ u36.toInt ≤ 60) by omega), (show ((I 20).toInt ≤ u36.toInt) by omega), (show (0 ≤ (0 : Int32).toInt ∧ (0 : Int32).toInt ≤ 1) by omega), (show ((0 : Int32).toInt = 0 → 1 ≤ u35.toInt) by omega), (show ((0 : Int32).toInt = 1 → ((F 6) (I 19).toNatClampNeg).toInt = ((F 6) (I 19).toNatClampNeg).toInt + 1 ∧ (I 16).toInt + 1 ≤ u21.toInt) by omega), (fun h => absurd h (by decide)), (PG_tc hr_PS)⟩, CB.mk ht hP hD⟩, hS.F ht⟩) hS.2.2 dX11_value_40
    · obtain rfl : u20 = 0 := i_is c30 (by decide)
      refine W.eq (g2 := F0 m 28 ls [.int 0]) rfl ?_
      refine lv_if_eq (tgt := 39) hx hb dX11_value_28 (by decide) (fun c50 => ?_) (fun c50 => ?_)
      rotate_left
      · exact absurd c50 (by decide)
      refine lv_iconst (v := 0) hx hb dX11_value_39 (by decide) ?_
      refine W.widen (k := 0) (n := 0) (Nat.le_of_ble_eq_true rfl) (Nat.le_of_ble_eq_true rfl) ?_
      exact W.zret (v := 0) hx hb hr (by decide) (fun t ht hW => ⟨⟨(0, u21, u22, u23, (I 20), (F 5), (F 6)), rfl, ⟨(show (0 ≤ u21.toInt ∧ u21.toInt ≤ 400) by omega), (show ((I 16).toInt ≤ u21.toInt) by omega), (show (u21.toInt ≤ (I 3).toInt) by omega), (show (0 ≤ u22.toInt ∧ u22.toInt ≤ 4000) by omega), (show (0 ≤ (I 20).toInt ∧ (I 20).toInt ≤ 60) by omega), (show ((I 20).toInt ≤ (I 20).toInt) by omega), (show (0 ≤ (0 : Int32).toInt ∧ (0 : Int32).toInt ≤ 1) by omega), (show ((0 : Int32).toInt = 0 → 1 ≤ u22.toInt) by omega), (show ((0 : Int32).toInt = 1 → ((F 6) (I 19).toNatClampNeg).toInt = ((F 6) (I 19).toNatClampNeg).toInt + 1 ∧ (I 16).toInt + 1 ≤ u21.toInt) by omega), (fun h => absurd h (by decide)), (PG_tc hr_PS)⟩, CB.mk ht hP hD⟩, hS.F ht⟩) hS.2.2 dX11_value_40
  · obtain rfl : u11 = 0 := i_is c16 (by decide)
    have zi0 : (0 : Int32).toInt = 0 := by decide
    refine W.eq (g2 := F0 m 18 ls [.int 0]) rfl ?_
    refine lv_if_eq (tgt := 52) hx hb dX11_value_18 (by decide) (fun c51 => ?_) (fun c51 => ?_)
    rotate_left
    · exact absurd c51 (by decide)
    refine lv_aload_n hx hb dX11_value_52 rfl (lv_at hl 1 rfl) ?_
    refine cga (rn_V (As := []) (rest := []) (b := o) (m_wordHere l D Y Z H.size o a (upd I 16 u4) J F G   (show (0 ≤ u4.toInt ∧ u4.toInt ≤ 400) by omega) (show (0 ≤ (I 3).toInt ∧ (I 3).toInt ≤ 400) by omega) (show (u4.toInt ≤ (I 3).toInt) by omega) (show (0 ≤ (I 19).toInt ∧ (I 19).toInt ≤ 17) by omega)) ⟨hx, hb, hml, hown, hg⟩ lk_X11_261 ⟨CP.blind, va_recv hKN.1 hP (ci := 11) (q0 := 0) rfl rfl, CP.at hP hKN hD⟩ ⟨⟨rfl, rfl⟩, ⟨Nat.le_of_ble_eq_true rfl, Nat.le_of_ble_eq_true rfl⟩, ⟨Nat.le_of_ble_eq_true rfl, Nat.le_of_ble_eq_true rfl⟩⟩ hl.1 rfl (Nat.le_of_ble_eq_true rfl) dX11_value_53) hP hD hS hA (fun u52 H locs w53 hP hD hS => ?_)
    obtain ⟨u54, u55⟩ := u52
    have w53 : (0 ≤ u55.toInt ∧ u55.toInt ≤ 400) ∧ (u4.toInt ≤ u55.toInt) ∧ (u55.toInt ≤ (I 3).toInt) ∧ (-1 ≤ u54.toInt ∧ u54.toInt ≤ 9) ∧ (0 ≤ u54.toInt → (u55.toInt < (I 3).toInt ∧ 97 ≤ ((F 2) u55.toNatClampNeg).toInt ∧ ((F 2) u55.toNatClampNeg).toInt ≤ 122)) := w53
    obtain ⟨hw56, hw57, hw58, hw59, hw60⟩ := w53
    refine W.eq (g2 := F0 m 56 ls [.int u54]) rfl ?_
    have hP : va_P D vwCl (MW Y o a (upd I 16 u55) J F G) H := hP
    have hD : va_D A (MW Y o a (upd I 16 u55) J F G) := hD
    refine lv_istore_n (lv' := [(2, .int u54), (1, .int u4), (0, .ref o)]) hx hb dX11_value_56 rfl hl (by decide) rfl (fun ls hl => ?_)
    refine lv_iload_n hx hb dX11_value_57 rfl (lv_at hl 0 rfl) ?_
    refine lv_if_ge (tgt := 68) hx hb dX11_value_58 (by decide) (fun c61 => ?_) (fun c61 => ?_)
    · skip
      have c61 := i_le (show (0 : Int32).toInt = 0 by decide) (Eq.refl u54.toInt) c61
      refine lv_aload_n hx hb dX11_value_68 rfl (lv_at hl 2 rfl) ?_
      refine lv_iload_n hx hb dX11_value_69 rfl (lv_at hl 1 rfl) ?_
      refine cga (rn_V (As := [.int u4]) (rest := []) (b := o) (m_makes l D Y Z H.size o a (upd I 16 u55) J F G  u4 (show (0 ≤ (I 20).toInt ∧ (I 20).toInt ≤ 60) by omega) (show (0 ≤ u4.toInt ∧ u4.toInt ≤ 400) by omega) (show (0 ≤ (I 17).toInt ∧ (I 17).toInt ≤ 4000) by omega)) ⟨hx, hb, hml, hown, hg⟩ lk_X11_258 ⟨CP.blind, va_recv hKN.1 hP (ci := 11) (q0 := 0) rfl rfl, CP.at hP hKN hD⟩ ⟨⟨rfl, rfl⟩, ⟨Nat.le_of_ble_eq_true rfl, Nat.le_of_ble_eq_true rfl⟩, ⟨Nat.le_of_ble_eq_true rfl, Nat.le_of_ble_eq_true rfl⟩⟩ hl.1 rfl (Nat.le_of_ble_eq_true rfl) dX11_value_70) hP hD hS hA (fun u62 H locs w63 hP hD hS => ?_)
      obtain ⟨u64, u65, u66⟩ := u62
      have w63 : (0 ≤ u66.toInt ∧ u66.toInt ≤ 60) ∧ (0 ≤ u65.toInt ∧ u65.toInt ≤ 4000) ∧ ((u64.toInt = 1 ∧ u66.toInt = (I 20).toInt + 1) ∨ (u64.toInt = 0 ∧ 1 ≤ u65.toInt ∧ u66.toInt = (I 20).toInt)) ∧ (0 ≤ u64.toInt ∧ u64.toInt ≤ 1) := w63
      obtain ⟨hw67, hw68, hw69, hw70⟩ := w63
      refine W.eq (g2 := F0 m 73 ls [.int u64]) rfl ?_
      have hP : va_P D vwCl (MW Y o a (upd (upd (upd I 16 u55) 17 u65) 20 u66) J F G) H := hP
      have hD : va_D A (MW Y o a (upd (upd (upd I 16 u55) 17 u65) 20 u66) J F G) := hD
      rcases (show u64.toInt = 1 ∨ u64.toInt = 0 by omega) with c71 | c71
      · obtain rfl : u64 = 1 := i_is c71 (by decide)
        have zi1 : (1 : Int32).toInt = 1 := by decide
        refine W.eq (g2 := F0 m 73 ls [.int 1]) rfl ?_
        refine lv_if_ne (tgt := 78) hx hb dX11_value_73 (by decide) (fun c72 => ?_) (fun c72 => ?_)
        rotate_left
        · exact absurd c72 (by decide)
        refine lv_aload_n hx hb dX11_value_78 rfl (lv_at hl 2 rfl) ?_
        refine cga (rn_V (As := []) (rest := []) (b := o) (m_passWord l D Y Z H.size o a (upd (upd (upd I 16 u55) 17 u65) 20 u66) J F G   (show (0 ≤ u55.toInt ∧ u55.toInt ≤ 400) by omega) (show (0 ≤ (I 3).toInt ∧ (I 3).toInt ≤ 400) by omega) (show (u55.toInt ≤ (I 3).toInt) by omega)) ⟨hx, hb, hml, hown, hg⟩ lk_X11_194 ⟨CP.blind, va_recv hKN.1 hP (ci := 11) (q0 := 0) rfl rfl, CP.at hP hKN hD⟩ ⟨⟨rfl, rfl⟩, ⟨Nat.le_of_ble_eq_true rfl, Nat.le_of_ble_eq_true rfl⟩, ⟨Nat.le_of_ble_eq_true rfl, Nat.le_of_ble_eq_true rfl⟩⟩ hl.1 rfl (Nat.le_of_ble_eq_true rfl) dX11_value_79) hP hD hS hA (fun u73 H locs w74 hP hD hS => ?_)
        have w74 : (0 ≤ u73.toInt ∧ u73.toInt ≤ 400) ∧ (u55.toInt ≤ u73.toInt) ∧ (u73.toInt ≤ (I 3).toInt) ∧ ((97 ≤ ((F 2) u55.toNatClampNeg).toInt ∧ ((F 2) u55.toNatClampNeg).toInt ≤ 122 ∧ u55.toInt < (I 3).toInt) → u55.toInt + 1 ≤ u73.toInt) := w74
        obtain ⟨hw76, hw77, hw78, hw79⟩ := w74
        refine W.eq (g2 := F0 m 82 ls []) rfl ?_
        have hP : va_P D vwCl (MW Y o a (upd (upd (upd I 16 u73) 17 u65) 20 u66) J F G) H := hP
        have hD : va_D A (MW Y o a (upd (upd (upd I 16 u73) 17 u65) 20 u66) J F G) := hD
        refine lv_aload_n hx hb dX11_value_82 rfl (lv_at hl 2 rfl) ?_
        refine lv_iconst (v := 1) hx hb dX11_value_83 (by decide) ?_
        refine lv_iload_n hx hb dX11_value_84 rfl (lv_at hl 0 rfl) ?_
        refine cga (rn_V (As := [.int 1, .int u54]) (rest := []) (b := o) (m_puts l D Y Z H.size o a (upd (upd (upd I 16 u73) 17 u65) 20 u66) J F G  1 u54 (show (0 ≤ (I 19).toInt ∧ (I 19).toInt ≤ 17) by omega) (show (0 ≤ (1 : Int32).toInt ∧ (1 : Int32).toInt ≤ 15) by omega) (show (0 ≤ u54.toInt ∧ u54.toInt ≤ 99999) by omega) (show (0 ≤ ((F 6) (I 19).toNatClampNeg).toInt ∧ ((F 6) (I 19).toNatClampNeg).toInt ≤ 399) by omega)) ⟨hx, hb, hml, hown, hg⟩ lk_X11_250 ⟨CP.blind, va_recv hKN.1 hP (ci := 11) (q0 := 0) rfl rfl, CP.at hP hKN hD⟩ ⟨⟨rfl, rfl⟩, ⟨Nat.le_of_ble_eq_true rfl, Nat.le_of_ble_eq_true rfl⟩, ⟨Nat.le_of_ble_eq_true rfl, Nat.le_of_ble_eq_true rfl⟩⟩ hl.1 rfl (Nat.le_of_ble_eq_true rfl) dX11_value_85) hP hD hS hA (fun u80 H locs w81 hP hD hS => ?_)
        obtain ⟨f82, f83⟩ := u80
        have w81 : PU (F 5) f82 (F 6) f83 (I 19).toNatClampNeg (1 : Int32).toInt u54.toInt := w81
        have hw84 := w81
        refine W.eq (g2 := F0 m 88 ls []) rfl ?_
        have hP : va_P D vwCl (MW Y o a (upd (upd (upd I 16 u73) 17 u65) 20 u66) J (vf_upd (vf_upd F 5 f82) 6 f83) G) H := hP
        have hD : va_D A (MW Y o a (upd (upd (upd I 16 u73) 17 u65) 20 u66) J (vf_upd (vf_upd F 5 f82) 6 f83) G) := hD
        have t85 := PG_pu (e := (gd + 1)) (PG_to (md2 := u66.toInt.toNat) hr_PS rfl rfl (by omega) (by omega)) hw84 (fun x hx => stp_word hx (by omega) (by omega) (by omega) (by omega) rfl) (by omega) (by omega)
        obtain ⟨t85p, t85l⟩ := t85
        refine lv_iconst (v := 1) hx hb dX11_value_88 (by decide) ?_
        refine W.widen (k := 0) (n := 0) (Nat.le_of_ble_eq_true rfl) (Nat.le_of_ble_eq_true rfl) ?_
        exact W.zret (v := 1) hx hb hr (by decide) (fun t ht hW => ⟨⟨(1, u73, u65, (I 18), u66, f82, f83), rfl, ⟨(show (0 ≤ u73.toInt ∧ u73.toInt ≤ 400) by omega), (show ((I 16).toInt ≤ u73.toInt) by omega), (show (u73.toInt ≤ (I 3).toInt) by omega), (show (0 ≤ u65.toInt ∧ u65.toInt ≤ 4000) by omega), (show (0 ≤ u66.toInt ∧ u66.toInt ≤ 60) by omega), (show ((I 20).toInt ≤ u66.toInt) by omega), (show (0 ≤ (1 : Int32).toInt ∧ (1 : Int32).toInt ≤ 1) by omega), (show ((1 : Int32).toInt = 0 → 1 ≤ u65.toInt) by omega), (show ((1 : Int32).toInt = 1 → (f83 (I 19).toNatClampNeg).toInt = ((F 6) (I 19).toNatClampNeg).toInt + 1 ∧ (I 16).toInt + 1 ≤ u73.toInt) by omega), (fun _ => (PG_to t85p rfl (by omega) (by omega) (by omega))), (PG_tc t85p)⟩, CB.mk ht hP hD⟩, hS.F ht⟩) hS.2.2 dX11_value_89
      · obtain rfl : u64 = 0 := i_is c71 (by decide)
        refine W.eq (g2 := F0 m 73 ls [.int 0]) rfl ?_
        refine lv_if_ne (tgt := 78) hx hb dX11_value_73 (by decide) (fun c86 => ?_) (fun c86 => ?_)
        · exact absurd c86 (by decide)
        refine lv_iconst (v := 0) hx hb dX11_value_76 (by decide) ?_
        refine W.widen (k := 0) (n := 0) (Nat.le_of_ble_eq_true rfl) (Nat.le_of_ble_eq_true rfl) ?_
        exact W.zret (v := 0) hx hb hr (by decide) (fun t ht hW => ⟨⟨(0, u55, u65, (I 18), u66, (F 5), (F 6)), rfl, ⟨(show (0 ≤ u55.toInt ∧ u55.toInt ≤ 400) by omega), (show ((I 16).toInt ≤ u55.toInt) by omega), (show (u55.toInt ≤ (I 3).toInt) by omega), (show (0 ≤ u65.toInt ∧ u65.toInt ≤ 4000) by omega), (show (0 ≤ u66.toInt ∧ u66.toInt ≤ 60) by omega), (show ((I 20).toInt ≤ u66.toInt) by omega), (show (0 ≤ (0 : Int32).toInt ∧ (0 : Int32).toInt ≤ 1) by omega), (show ((0 : Int32).toInt = 0 → 1 ≤ u65.toInt) by omega), (show ((0 : Int32).toInt = 1 → ((F 6) (I 19).toNatClampNeg).toInt = ((F 6) (I 19).toNatClampNeg).toInt + 1 ∧ (I 16).toInt + 1 ≤ u55.toInt) by omega), (fun h => absurd h (by decide)), (PG_tc hr_PS)⟩, CB.mk ht hP hD⟩, hS.F ht⟩) hS.2.2 dX11_value_77
    · skip
      have c61 := i_nle (show (0 : Int32).toInt = 0 by decide) (Eq.refl u54.toInt) c61
      refine lv_aload_n hx hb dX11_value_61 rfl (lv_at hl 2 rfl) ?_
      refine lv_iconst (v := 0) hx hb dX11_value_62 (by decide) ?_
      refine lv_iload_n hx hb dX11_value_63 rfl (lv_at hl 1 rfl) ?_
      refine cga (rn_V (As := [.int 0, .int u4]) (rest := []) (b := o) (m_fails l D Y Z H.size o a (upd I 16 u55) J F G  0 u4 (show (0 ≤ (0 : Int32).toInt ∧ (0 : Int32).toInt ≤ 4) by omega) (show (0 ≤ u4.toInt ∧ u4.toInt ≤ 400) by omega) (show (0 ≤ (I 17).toInt ∧ (I 17).toInt ≤ 4000) by omega)) ⟨hx, hb, hml, hown, hg⟩ lk_X11_200 ⟨CP.blind, va_recv hKN.1 hP (ci := 11) (q0 := 0) rfl rfl, CP.at hP hKN hD⟩ ⟨⟨rfl, rfl⟩, ⟨Nat.le_of_ble_eq_true rfl, Nat.le_of_ble_eq_true rfl⟩, ⟨Nat.le_of_ble_eq_true rfl, Nat.le_of_ble_eq_true rfl⟩⟩ hl.1 rfl (Nat.le_of_ble_eq_true rfl) dX11_value_64) hP hD hS hA (fun u87 H locs w88 hP hD hS => ?_)
      obtain ⟨u89, u90⟩ := u87
      have w88 : (u89.toInt = 0) ∧ (1 ≤ u90.toInt ∧ u90.toInt ≤ 4000) := w88
      obtain ⟨hw91, hw92⟩ := w88
      refine W.eq (g2 := F0 m 67 ls [.int u89]) rfl ?_
      have hP : va_P D vwCl (MW Y o a (upd (upd I 16 u55) 17 u90) J F G) H := hP
      have hD : va_D A (MW Y o a (upd (upd I 16 u55) 17 u90) J F G) := hD
      obtain rfl : u89 = 0 := i_is (X := 0) (by omega) (by decide)
      refine W.eq (g2 := F0 m 67 ls [.int 0]) rfl ?_
      refine W.widen (k := 0) (n := 0) (Nat.le_of_ble_eq_true rfl) (Nat.le_of_ble_eq_true rfl) ?_
      exact W.zret (v := 0) hx hb hr (by decide) (fun t ht hW => ⟨⟨(0, u55, u90, (I 18), (I 20), (F 5), (F 6)), rfl, ⟨(show (0 ≤ u55.toInt ∧ u55.toInt ≤ 400) by omega), (show ((I 16).toInt ≤ u55.toInt) by omega), (show (u55.toInt ≤ (I 3).toInt) by omega), (show (0 ≤ u90.toInt ∧ u90.toInt ≤ 4000) by omega), (show (0 ≤ (I 20).toInt ∧ (I 20).toInt ≤ 60) by omega), (show ((I 20).toInt ≤ (I 20).toInt) by omega), (show (0 ≤ (0 : Int32).toInt ∧ (0 : Int32).toInt ≤ 1) by omega), (show ((0 : Int32).toInt = 0 → 1 ≤ u90.toInt) by omega), (show ((0 : Int32).toInt = 1 → ((F 6) (I 19).toNatClampNeg).toInt = ((F 6) (I 19).toNatClampNeg).toInt + 1 ∧ (I 16).toInt + 1 ≤ u55.toInt) by omega), (fun h => absurd h (by decide)), (PG_tc hr_PS)⟩, CB.mk ht hP hD⟩, hS.F ht⟩) hS.2.2 dX11_value_67
set_option maxHeartbeats 4000000 in
set_option maxRecDepth 100000 in
theorem m_term (l : Launch) (D : va_G) (Y : Nat → ClassId) (Z : Nat → Nat) (sz : Nat) (o : Nat) (a : Nat → Nat) (I : Nat → Int32) (J : Nat → Int64) (F : Nat → Nat → Int32) (G : Nat → Nat → Int64) (gs : Nat → Int32) (gb : Nat) (gd : Nat) (hk_0 : (0 ≤ (I 16).toInt ∧ (I 16).toInt ≤ 400)) (hk_1 : (0 ≤ (I 3).toInt ∧ (I 3).toInt ≤ 400)) (hk_2 : ((I 16).toInt ≤ (I 3).toInt)) (hk_3 : (0 ≤ (I 17).toInt ∧ (I 17).toInt ≤ 4000)) (hk_4 : (0 ≤ (I 20).toInt ∧ (I 20).toInt ≤ 60)) (hk_5 : (0 ≤ (I 19).toInt ∧ (I 19).toInt ≤ 17)) (hk_6 : (((F 6) (I 19).toNatClampNeg).toInt ≤ (I 16).toInt)) (hr_PS : PSg (F 4) (F 8) (F 7) (F 5) (F 6) gs (I 19).toNatClampNeg gb (gd) ((I 20).toInt).toNat) : Met l yX11_term (.code yX11_term cX11_term 2 (some .boolean) :: GW) ({ frames := 4, cells := 0, slots := 0, locals := 88 }) (va_Pc [.ref o] (CP D Y Z (MW Y o a I J F G) sz)) (QG (S := Int32 × Int32 × Int32 × Int32 × Int32 × (Nat → Int32) × (Nat → Int32)) (fun u => some (.int u.1)) (fun u => (0 ≤ u.2.1.toInt ∧ u.2.1.toInt ≤ 400) ∧ ((I 16).toInt ≤ u.2.1.toInt) ∧ (u.2.1.toInt ≤ (I 3).toInt) ∧ (0 ≤ u.2.2.1.toInt ∧ u.2.2.1.toInt ≤ 4000) ∧ (0 ≤ u.2.2.2.2.1.toInt ∧ u.2.2.2.2.1.toInt ≤ 60) ∧ ((I 20).toInt ≤ u.2.2.2.2.1.toInt) ∧ (0 ≤ u.1.toInt ∧ u.1.toInt ≤ 1) ∧ (u.1.toInt = 0 → 1 ≤ u.2.2.1.toInt) ∧ (u.1.toInt = 1 → (u.2.2.2.2.2.2 (I 19).toNatClampNeg).toInt + (I 16).toInt ≤ ((F 6) (I 19).toNatClampNeg).toInt + u.2.1.toInt) ∧ (u.1.toInt = 1 → PSg (F 4) (F 8) (F 7) u.2.2.2.2.2.1 u.2.2.2.2.2.2 gs (I 19).toNatClampNeg gb (gd + 1) (u.2.2.2.2.1.toInt).toNat) ∧ TC (F 4) (F 8) (F 7) u.2.2.2.2.2.1) (fun u => CB D (MW Y o a (upd (upd (upd (upd I 16 u.2.1) 17 u.2.2.1) 18 u.2.2.2.1) 20 u.2.2.2.2.1) J (vf_upd (vf_upd F 5 u.2.2.2.2.2.1) 6 u.2.2.2.2.2.2) G) (va_A (MW Y o a I J F G) sz)) (va_A (MW Y o a I J F G) sz)) 0 0 (va_A (MW Y o a I J F G) sz) := by
  refine Met.ofW (cc := cX11_term) (maxL := 2) (ret := (some .boolean)) (by decide) rfl ?_
  intro p e s m args below meth c s₁ B hml hv
  obtain ⟨rfl, hsz, hP, hKN, hD0⟩ := hv
  have hx := B.exec
  have hb := B.bytes
  have hr := B.returns
  have hts := atoms_spec (ws := .code yX11_term cX11_term 2 (some .boolean) :: GW) B.pre
  have hg : ∀ w ∈ GW, w.before _ s = true := fun w h => hts w (List.mem_cons_of_mem _ h)
  have hown : s.vm.findClass RX11 = some m.cls := findClass_of_methodNamed B.named
  have hlocks := B.notSynchronized
  subst hsz
  have hD := hD0.self (sz := s.heap.size)
  generalize hAe : va_A (MW Y o a I J F G) s.heap.size = A at hD ⊢
  have hA : ∀ q : Nat, s.heap.size ≤ q → A q := fun q h => by rw [← hAe]; exact Or.inr h
  clear hAe hD0 hts B
  have hl := lv_entry ([.ref o]) (n := 2) (Nat.le_of_ble_eq_true rfl)
  rw [lg_entry_eq]
  generalize (lg_sl ([.ref o]) ++ List.replicate (2 - (lg_sl ([.ref o])).length) Slot.unset).toArray = ls at hl ⊢
  have hl : lv_has ls 2 [(0, .ref o)] := hl
  refine w_start (A0 := A) hP (fun H locs hP hS => ?_)
  have hd0 := PG_dep hr_PS
  have hl0 := PG_len hr_PS
  refine lv_aload_n hx hb dX11_term_0 rfl (lv_at hl 0 rfl) ?_
  refine cga (rn_V (As := []) (rest := []) (b := o) (m_value l D Y Z H.size o a I J F G gs gb gd  (show (0 ≤ (I 16).toInt ∧ (I 16).toInt ≤ 400) by omega) (show (0 ≤ (I 3).toInt ∧ (I 3).toInt ≤ 400) by omega) (show ((I 16).toInt ≤ (I 3).toInt) by omega) (show (0 ≤ (I 17).toInt ∧ (I 17).toInt ≤ 4000) by omega) (show (0 ≤ (I 20).toInt ∧ (I 20).toInt ≤ 60) by omega) (show (0 ≤ (I 19).toInt ∧ (I 19).toInt ≤ 17) by omega) (show (((F 6) (I 19).toNatClampNeg).toInt ≤ (I 16).toInt) by omega) (PG_to hr_PS rfl (by omega) (by omega) (by omega))) ⟨hx, hb, hml, hown, hg⟩ lk_X11_264 ⟨CP.blind, va_recv hKN.1 hP (ci := 11) (q0 := 0) rfl rfl, CP.at hP hKN hD⟩ ⟨⟨rfl, rfl⟩, ⟨Nat.le_of_ble_eq_true rfl, Nat.le_of_ble_eq_true rfl⟩, ⟨Nat.le_of_ble_eq_true rfl, Nat.le_of_ble_eq_true rfl⟩⟩ hl.1 rfl (Nat.le_of_ble_eq_true rfl) dX11_term_1) hP hD hS hA (fun u1 H locs w2 hP hD hS => ?_)
  obtain ⟨u3, u4, u5, u6, u7, f8, f9⟩ := u1
  have w2 : (0 ≤ u4.toInt ∧ u4.toInt ≤ 400) ∧ ((I 16).toInt ≤ u4.toInt) ∧ (u4.toInt ≤ (I 3).toInt) ∧ (0 ≤ u5.toInt ∧ u5.toInt ≤ 4000) ∧ (0 ≤ u7.toInt ∧ u7.toInt ≤ 60) ∧ ((I 20).toInt ≤ u7.toInt) ∧ (0 ≤ u3.toInt ∧ u3.toInt ≤ 1) ∧ (u3.toInt = 0 → 1 ≤ u5.toInt) ∧ (u3.toInt = 1 → (f9 (I 19).toNatClampNeg).toInt = ((F 6) (I 19).toNatClampNeg).toInt + 1 ∧ (I 16).toInt + 1 ≤ u4.toInt) ∧ (u3.toInt = 1 → PSg (F 4) (F 8) (F 7) f8 f9 gs (I 19).toNatClampNeg gb (gd + 1) (u7.toInt).toNat) ∧ TC (F 4) (F 8) (F 7) f8 := w2
  obtain ⟨hw10, hw11, hw12, hw13, hw14, hw15, hw16, hw17, hw18, hw19, hw20⟩ := w2
  refine W.eq (g2 := F0 m 4 ls [.int u3]) rfl ?_
  have hP : va_P D vwCl (MW Y o a (upd (upd (upd (upd I 16 u4) 17 u5) 18 u6) 20 u7) J (vf_upd (vf_upd F 5 f8) 6 f9) G) H := hP
  have hD : va_D A (MW Y o a (upd (upd (upd (upd I 16 u4) 17 u5) 18 u6) 20 u7) J (vf_upd (vf_upd F 5 f8) 6 f9) G) := hD
  rcases (show u3.toInt = 1 ∨ u3.toInt = 0 by omega) with c21 | c21
  · obtain rfl : u3 = 1 := i_is c21 (by decide)
    have zi1 : (1 : Int32).toInt = 1 := by decide
    have t22 := hw19 (by decide)
    refine W.eq (g2 := F0 m 4 ls [.int 1]) rfl ?_
    refine lv_if_ne (tgt := 9) hx hb dX11_term_4 (by decide) (fun c23 => ?_) (fun c23 => ?_)
    rotate_left
    · exact absurd c23 (by decide)
    refine w_loop (σ := Int32 × Int32 × Int32 × Int32 × (Nat → Int32) × (Nat → Int32)) (fun xx H locs ls => match xx with | (g178, g179, g180, g181, f182, f183) => va_P D vwCl (MW Y o a (upd (upd (upd (upd I 16 g178) 17 g179) 18 g180) 20 g181) J (vf_upd (vf_upd F 5 f182) 6 f183) G) H ∧ va_D A (MW Y o a (upd (upd (upd (upd I 16 g178) 17 g179) 18 g180) 20 g181) J (vf_upd (vf_upd F 5 f182) 6 f183) G) ∧ va_S A s.heap H locs ∧ lv_has ls 2 [(0, .ref o)] ∧ (0 ≤ g178.toInt ∧ g178.toInt ≤ 400) ∧ (g178.toInt ≤ (I 3).toInt) ∧ (0 ≤ g179.toInt ∧ g179.toInt ≤ 4000) ∧ (0 ≤ g181.toInt ∧ g181.toInt ≤ 60) ∧ ((I 20).toInt ≤ g181.toInt) ∧ ((I 16).toInt ≤ g178.toInt) ∧ ((f183 (I 19).toNatClampNeg).toInt + (I 16).toInt ≤ (F 6 (I 19).toNatClampNeg).toInt + g178.toInt) ∧ PSg (F 4) (F 8) (F 7) f182 f183 gs (I 19).toNatClampNeg gb (gd + 1) (g181.toInt).toNat) (fun xx => match xx with | (g178, g179, g180, g181, f182, f183) => (400 - g178.toInt).toNat) (u4, u5, u6, u7, f8, f9) ⟨hP, hD, hS, lv_sub hl [0] rfl, by omega, by omega, by omega, by omega, by omega, by omega, by omega, (PG_to t22 rfl (by omega) (by omega) (by omega))⟩ (fun xx H locs ls hI ih => ?_)
    obtain ⟨g178, g179, g180, g181, f182, f183⟩ := xx
    obtain ⟨hP, hD, hS, hl, hq338, hq339, hq340, hq341, hq342, hq343, hq344, hr345⟩ := hI
    have ih346 := ih
    refine lv_aload_n hx hb dX11_term_9 rfl (lv_at hl 0 rfl) ?_
    have t347 := PG_len hr345
    have t348 := PG_dep hr345
    refine cga (rn_V (As := []) (rest := []) (b := o) (m_see l D Y Z H.size o a (upd (upd (upd (upd I 16 g178) 17 g179) 18 g180) 20 g181) J (vf_upd (vf_upd F 5 f182) 6 f183) G   (show (0 ≤ g178.toInt ∧ g178.toInt ≤ 400) by omega) (show (0 ≤ (I 3).toInt ∧ (I 3).toInt ≤ 400) by omega) (show (g178.toInt ≤ (I 3).toInt) by omega)) ⟨hx, hb, hml, hown, hg⟩ lk_X11_183 ⟨CP.blind, va_recv hKN.1 hP (ci := 11) (q0 := 0) rfl rfl, CP.at hP hKN hD⟩ ⟨⟨rfl, rfl⟩, ⟨Nat.le_of_ble_eq_true rfl, Nat.le_of_ble_eq_true rfl⟩, ⟨Nat.le_of_ble_eq_true rfl, Nat.le_of_ble_eq_true rfl⟩⟩ hl.1 rfl (Nat.le_of_ble_eq_true rfl) dX11_term_10) hP hD hS hA (fun u349 H locs w350 hP hD hS => ?_)
    obtain ⟨u351, u352⟩ := u349
    have w350 : (0 ≤ u352.toInt ∧ u352.toInt ≤ 400) ∧ (g178.toInt ≤ u352.toInt) ∧ (u352.toInt ≤ (I 3).toInt) ∧ ((u351.toInt = -1 ∧ u352.toInt = (I 3).toInt) ∨ (0 ≤ u351.toInt ∧ u351.toInt ≤ 255 ∧ u352.toInt < (I 3).toInt ∧ ((F 2) u352.toNatClampNeg).toInt ≠ 32)) ∧ (-1 ≤ u351.toInt ∧ u351.toInt ≤ 255) ∧ ((g178.toInt < (I 3).toInt ∧ ((F 2) g178.toNatClampNeg).toInt ≠ 32) → u352.toInt = g178.toInt) := w350
    obtain ⟨hw353, hw354, hw355, hw356, hw357, hw358⟩ := w350
    refine W.eq (g2 := F0 m 13 ls [.int u351]) rfl ?_
    have hP : va_P D vwCl (MW Y o a (upd (upd (upd (upd I 16 u352) 17 g179) 18 g180) 20 g181) J (vf_upd (vf_upd F 5 f182) 6 f183) G) H := hP
    have hD : va_D A (MW Y o a (upd (upd (upd (upd I 16 u352) 17 g179) 18 g180) 20 g181) J (vf_upd (vf_upd F 5 f182) 6 f183) G) := hD
    refine lv_bipush (v := 42) hx hb dX11_term_13 (by decide) ?_
    refine lv_icmp_eq (tgt := 27) hx hb dX11_term_15 (by decide) (fun c359 => ?_) (fun c359 => ?_)
    · skip
      have c359 := i_eq (Eq.refl u351.toInt) (show (42 : Int32).toInt = 42 by decide) c359
      refine lv_aload_n hx hb dX11_term_27 rfl (lv_at hl 0 rfl) ?_
      refine va_get (D := D) (ci := 11) (v := .ref (a 2)) (C := RX11) (T := TX11) (N := 49) hx hb hg inGX11 hown hKN.1 hP 0 rfl rfl 2 (by decide) (hg _ kw_1210) (fun _ h9 => h9) rfl dX11_term_28 ?_
      refine lv_aload_n hx hb dX11_term_31 rfl (lv_at hl 0 rfl) ?_
      refine va_get (D := D) (ci := 11) (v := .int u352) (C := RX11) (T := TX11) (N := 49) hx hb hg inGX11 hown hKN.1 hP 0 rfl rfl 16 (by decide) (hg _ kw_1224) (fun _ h9 => h9) rfl dX11_term_32 ?_
      refine va_bald hx hb hKN.1 hP 3 2 rfl rfl (vp_in_iff.mpr ⟨by omega, by omega⟩) dX11_term_35 ?_
      refine lv_topi (fun v360 ev360 => ?_)
      have ev360 : v360 = (F 2) u352.toNatClampNeg := ev360
      have qv360 := congrArg Int32.toInt ev360
      refine lv_bipush (v := 42) hx hb dX11_term_36 (by decide) ?_
      have j361 := rgI v360
      refine lv_icmp_ne (tgt := 45) hx hb dX11_term_38 (by decide) (fun c362 => ?_) (fun c362 => ?_)
      · skip
        have c362 := i_ne (Eq.refl v360.toInt) (show (42 : Int32).toInt = 42 by decide) c362
        refine lv_iconst (v := 5) hx hb dX11_term_45 (by decide) ?_
        refine lv_istore_n (lv' := [(1, .int 5), (0, .ref o)]) hx hb dX11_term_46 rfl hl (by decide) rfl (fun ls hl => ?_)
        refine lv_aload_n hx hb dX11_term_47 rfl (lv_at hl 1 rfl) ?_
        refine lv_dup hx hb dX11_term_48 rfl ?_
        refine va_get (D := D) (ci := 11) (v := .int u352) (C := RX11) (T := TX11) (N := 49) hx hb hg inGX11 hown hKN.1 hP 0 rfl rfl 16 (by decide) (hg _ kw_1224) (fun _ h9 => h9) rfl dX11_term_49 ?_
        refine lv_iconst (v := 1) hx hb dX11_term_52 (by decide) ?_
        refine lv_iadd hx hb dX11_term_53 ?_
        refine lv_topi (fun v363 ev363 => ?_)
        have hv363 := i_add (Eq.refl u352.toInt) (show (1 : Int32).toInt = 1 by decide) ev363 (by omega) (by omega)
        refine va_put (D := D) (ci := 11) (v := .int v363) (ty := .int) (C := RX11) (T := TX11) (N := 49) hx hb hg inGX11 tyX11 tyX11_ok nmX11 hown hKN.1 hP hD hS 0 rfl rfl 16 (by decide) (hg _ kw_1224) (fun _ h9 => h9) rfl (by decide +kernel) rfl rfl (Nat.le_of_ble_eq_true rfl) dX11_term_54 (fun H locs hP hD hS => ?_)
        have hP : va_P D vwCl (MW Y o a (upd (upd (upd (upd I 16 v363) 17 g179) 18 g180) 20 g181) J (vf_upd (vf_upd F 5 f182) 6 f183) G) H := hP
        have hD : va_D A (MW Y o a (upd (upd (upd (upd I 16 v363) 17 g179) 18 g180) 20 g181) J (vf_upd (vf_upd F 5 f182) 6 f183) G) := hD
        refine lv_aload_n hx hb dX11_term_57 rfl (lv_at hl 1 rfl) ?_
        refine cga (rn_V (As := []) (rest := []) (b := o) (m_value l D Y Z H.size o a (upd (upd (upd (upd I 16 v363) 17 g179) 18 g180) 20 g181) J (vf_upd (vf_upd F 5 f182) 6 f183) G gs gb (gd + 1)  (show (0 ≤ v363.toInt ∧ v363.toInt ≤ 400) by omega) (show (0 ≤ (I 3).toInt ∧ (I 3).toInt ≤ 400) by omega) (show (v363.toInt ≤ (I 3).toInt) by omega) (show (0 ≤ g179.toInt ∧ g179.toInt ≤ 4000) by omega) (show (0 ≤ g181.toInt ∧ g181.toInt ≤ 60) by omega) (show (0 ≤ (I 19).toInt ∧ (I 19).toInt ≤ 17) by omega) (show ((f183 (I 19).toNatClampNeg).toInt ≤ v363.toInt) by omega) (PG_to hr345 rfl (by omega) (by omega) (by omega))) ⟨hx, hb, hml, hown, hg⟩ lk_X11_264 ⟨CP.blind, va_recv hKN.1 hP (ci := 11) (q0 := 0) rfl rfl, CP.at hP hKN hD⟩ ⟨⟨rfl, rfl⟩, ⟨Nat.le_of_ble_eq_true rfl, Nat.le_of_ble_eq_true rfl⟩, ⟨Nat.le_of_ble_eq_true rfl, Nat.le_of_ble_eq_true rfl⟩⟩ hl.1 rfl (Nat.le_of_ble_eq_true rfl) dX11_term_58) hP hD hS hA (fun u364 H locs w365 hP hD hS => ?_)
        obtain ⟨u366, u367, u368, u369, u370, f371, f372⟩ := u364
        have w365 : (0 ≤ u367.toInt ∧ u367.toInt ≤ 400) ∧ (v363.toInt ≤ u367.toInt) ∧ (u367.toInt ≤ (I 3).toInt) ∧ (0 ≤ u368.toInt ∧ u368.toInt ≤ 4000) ∧ (0 ≤ u370.toInt ∧ u370.toInt ≤ 60) ∧ (g181.toInt ≤ u370.toInt) ∧ (0 ≤ u366.toInt ∧ u366.toInt ≤ 1) ∧ (u366.toInt = 0 → 1 ≤ u368.toInt) ∧ (u366.toInt = 1 → (f372 (I 19).toNatClampNeg).toInt = (f183 (I 19).toNatClampNeg).toInt + 1 ∧ v363.toInt + 1 ≤ u367.toInt) ∧ (u366.toInt = 1 → PSg (F 4) (F 8) (F 7) f371 f372 gs (I 19).toNatClampNeg gb ((gd + 1) + 1) (u370.toInt).toNat) ∧ TC (F 4) (F 8) (F 7) f371 := w365
        obtain ⟨hw373, hw374, hw375, hw376, hw377, hw378, hw379, hw380, hw381, hw382, hw383⟩ := w365
        refine W.eq (g2 := F0 m 61 ls [.int u366]) rfl ?_
        have hP : va_P D vwCl (MW Y o a (upd (upd (upd (upd I 16 u367) 17 u368) 18 u369) 20 u370) J (vf_upd (vf_upd F 5 f371) 6 f372) G) H := hP
        have hD : va_D A (MW Y o a (upd (upd (upd (upd I 16 u367) 17 u368) 18 u369) 20 u370) J (vf_upd (vf_upd F 5 f371) 6 f372) G) := hD
        rcases (show u366.toInt = 1 ∨ u366.toInt = 0 by omega) with c384 | c384
        · obtain rfl : u366 = 1 := i_is c384 (by decide)
          have t385 := hw382 (by decide)
          refine W.eq (g2 := F0 m 61 ls [.int 1]) rfl ?_
          refine lv_if_ne (tgt := 66) hx hb dX11_term_61 (by decide) (fun c386 => ?_) (fun c386 => ?_)
          rotate_left
          · exact absurd c386 (by decide)
          refine lv_aload_n hx hb dX11_term_66 rfl (lv_at hl 1 rfl) ?_
          refine lv_iload_n hx hb dX11_term_67 rfl (lv_at hl 0 rfl) ?_
          refine lv_iconst (v := 0) hx hb dX11_term_68 (by decide) ?_
          have zi5 : (5 : Int32).toInt = 5 := by decide
          have zi0 : (0 : Int32).toInt = 0 := by decide
          refine cga (rn_V (As := [.int 5, .int 0]) (rest := []) (b := o) (m_puts l D Y Z H.size o a (upd (upd (upd (upd I 16 u367) 17 u368) 18 u369) 20 u370) J (vf_upd (vf_upd F 5 f371) 6 f372) G  5 0 (show (0 ≤ (I 19).toInt ∧ (I 19).toInt ≤ 17) by omega) (show (0 ≤ (5 : Int32).toInt ∧ (5 : Int32).toInt ≤ 15) by omega) (show (0 ≤ (0 : Int32).toInt ∧ (0 : Int32).toInt ≤ 99999) by omega) (show (0 ≤ (f372 (I 19).toNatClampNeg).toInt ∧ (f372 (I 19).toNatClampNeg).toInt ≤ 399) by omega)) ⟨hx, hb, hml, hown, hg⟩ lk_X11_250 ⟨CP.blind, va_recv hKN.1 hP (ci := 11) (q0 := 0) rfl rfl, CP.at hP hKN hD⟩ ⟨⟨rfl, rfl⟩, ⟨Nat.le_of_ble_eq_true rfl, Nat.le_of_ble_eq_true rfl⟩, ⟨Nat.le_of_ble_eq_true rfl, Nat.le_of_ble_eq_true rfl⟩⟩ hl.1 rfl (Nat.le_of_ble_eq_true rfl) dX11_term_69) hP hD hS hA (fun u387 H locs w388 hP hD hS => ?_)
          obtain ⟨f389, f390⟩ := u387
          have w388 : PU f371 f389 f372 f390 (I 19).toNatClampNeg (5 : Int32).toInt (0 : Int32).toInt := w388
          have hw391 := w388
          refine W.eq (g2 := F0 m 72 ls []) rfl ?_
          have hP : va_P D vwCl (MW Y o a (upd (upd (upd (upd I 16 u367) 17 u368) 18 u369) 20 u370) J (vf_upd (vf_upd F 5 f389) 6 f390) G) H := hP
          have hD : va_D A (MW Y o a (upd (upd (upd (upd I 16 u367) 17 u368) 18 u369) 20 u370) J (vf_upd (vf_upd F 5 f389) 6 f390) G) := hD
          have t392 := PG_pu (e := (((gd + 1) + 1) - 1)) (PG_to (md2 := u370.toInt.toNat) t385 rfl rfl (by omega) (by omega)) hw391 (fun x hx => stp_bin hx (by omega) (by omega) (by omega) (by omega) (by omega) (by omega) rfl) (by omega) (by omega)
          obtain ⟨t392p, t392l⟩ := t392
          refine lv_goto (tgt := 9) hx hb dX11_term_72 (by decide) ?_
          exact ih346 (u367, u368, u369, u370, f389, f390) H locs ls (by show (400 - u367.toInt).toNat < (400 - g178.toInt).toNat; omega) ⟨hP, hD, hS, lv_sub hl [1] rfl, by omega, by omega, by omega, by omega, by omega, by omega, by omega, (PG_to t392p rfl (by omega) (by omega) (by omega))⟩
        · obtain rfl : u366 = 0 := i_is c384 (by decide)
          have zi0 : (0 : Int32).toInt = 0 := by decide
          refine W.eq (g2 := F0 m 61 ls [.int 0]) rfl ?_
          refine lv_if_ne (tgt := 66) hx hb dX11_term_61 (by decide) (fun c393 => ?_) (fun c393 => ?_)
          · exact absurd c393 (by decide)
          refine lv_iconst (v := 0) hx hb dX11_term_64 (by decide) ?_
          refine W.widen (k := 0) (n := 0) (Nat.le_of_ble_eq_true rfl) (Nat.le_of_ble_eq_true rfl) ?_
          exact W.zret (v := 0) hx hb hr (by decide) (fun t ht hW => ⟨⟨(0, u367, u368, u369, u370, f371, f372), rfl, ⟨(show (0 ≤ u367.toInt ∧ u367.toInt ≤ 400) by omega), (show ((I 16).toInt ≤ u367.toInt) by omega), (show (u367.toInt ≤ (I 3).toInt) by omega), (show (0 ≤ u368.toInt ∧ u368.toInt ≤ 4000) by omega), (show (0 ≤ u370.toInt ∧ u370.toInt ≤ 60) by omega), (show ((I 20).toInt ≤ u370.toInt) by omega), (show (0 ≤ (0 : Int32).toInt ∧ (0 : Int32).toInt ≤ 1) by omega), (show ((0 : Int32).toInt = 0 → 1 ≤ u368.toInt) by omega), (show ((0 : Int32).toInt = 1 → (f372 (I 19).toNatClampNeg).toInt + (I 16).toInt ≤ ((F 6) (I 19).toNatClampNeg).toInt + u367.toInt) by omega), (fun h => absurd h (by decide)), (PG_tc hw382)⟩, CB.mk ht hP hD⟩, hS.F ht⟩) hS.2.2 dX11_term_65
      · skip
        have c362 := i_eq (Eq.refl v360.toInt) (show (42 : Int32).toInt = 42 by decide) c362
        refine lv_iconst (v := 4) hx hb dX11_term_41 (by decide) ?_
        refine lv_goto (tgt := 46) hx hb dX11_term_42 (by decide) ?_
        refine lv_istore_n (lv' := [(1, .int 4), (0, .ref o)]) hx hb dX11_term_46 rfl hl (by decide) rfl (fun ls hl => ?_)
        refine lv_aload_n hx hb dX11_term_47 rfl (lv_at hl 1 rfl) ?_
        refine lv_dup hx hb dX11_term_48 rfl ?_
        refine va_get (D := D) (ci := 11) (v := .int u352) (C := RX11) (T := TX11) (N := 49) hx hb hg inGX11 hown hKN.1 hP 0 rfl rfl 16 (by decide) (hg _ kw_1224) (fun _ h9 => h9) rfl dX11_term_49 ?_
        refine lv_iconst (v := 1) hx hb dX11_term_52 (by decide) ?_
        refine lv_iadd hx hb dX11_term_53 ?_
        refine lv_topi (fun v394 ev394 => ?_)
        have hv394 := i_add (Eq.refl u352.toInt) (show (1 : Int32).toInt = 1 by decide) ev394 (by omega) (by omega)
        refine va_put (D := D) (ci := 11) (v := .int v394) (ty := .int) (C := RX11) (T := TX11) (N := 49) hx hb hg inGX11 tyX11 tyX11_ok nmX11 hown hKN.1 hP hD hS 0 rfl rfl 16 (by decide) (hg _ kw_1224) (fun _ h9 => h9) rfl (by decide +kernel) rfl rfl (Nat.le_of_ble_eq_true rfl) dX11_term_54 (fun H locs hP hD hS => ?_)
        have hP : va_P D vwCl (MW Y o a (upd (upd (upd (upd I 16 v394) 17 g179) 18 g180) 20 g181) J (vf_upd (vf_upd F 5 f182) 6 f183) G) H := hP
        have hD : va_D A (MW Y o a (upd (upd (upd (upd I 16 v394) 17 g179) 18 g180) 20 g181) J (vf_upd (vf_upd F 5 f182) 6 f183) G) := hD
        refine lv_aload_n hx hb dX11_term_57 rfl (lv_at hl 1 rfl) ?_
        refine cga (rn_V (As := []) (rest := []) (b := o) (m_value l D Y Z H.size o a (upd (upd (upd (upd I 16 v394) 17 g179) 18 g180) 20 g181) J (vf_upd (vf_upd F 5 f182) 6 f183) G gs gb (gd + 1)  (show (0 ≤ v394.toInt ∧ v394.toInt ≤ 400) by omega) (show (0 ≤ (I 3).toInt ∧ (I 3).toInt ≤ 400) by omega) (show (v394.toInt ≤ (I 3).toInt) by omega) (show (0 ≤ g179.toInt ∧ g179.toInt ≤ 4000) by omega) (show (0 ≤ g181.toInt ∧ g181.toInt ≤ 60) by omega) (show (0 ≤ (I 19).toInt ∧ (I 19).toInt ≤ 17) by omega) (show ((f183 (I 19).toNatClampNeg).toInt ≤ v394.toInt) by omega) (PG_to hr345 rfl (by omega) (by omega) (by omega))) ⟨hx, hb, hml, hown, hg⟩ lk_X11_264 ⟨CP.blind, va_recv hKN.1 hP (ci := 11) (q0 := 0) rfl rfl, CP.at hP hKN hD⟩ ⟨⟨rfl, rfl⟩, ⟨Nat.le_of_ble_eq_true rfl, Nat.le_of_ble_eq_true rfl⟩, ⟨Nat.le_of_ble_eq_true rfl, Nat.le_of_ble_eq_true rfl⟩⟩ hl.1 rfl (Nat.le_of_ble_eq_true rfl) dX11_term_58) hP hD hS hA (fun u395 H locs w396 hP hD hS => ?_)
        obtain ⟨u397, u398, u399, u400, u401, f402, f403⟩ := u395
        have w396 : (0 ≤ u398.toInt ∧ u398.toInt ≤ 400) ∧ (v394.toInt ≤ u398.toInt) ∧ (u398.toInt ≤ (I 3).toInt) ∧ (0 ≤ u399.toInt ∧ u399.toInt ≤ 4000) ∧ (0 ≤ u401.toInt ∧ u401.toInt ≤ 60) ∧ (g181.toInt ≤ u401.toInt) ∧ (0 ≤ u397.toInt ∧ u397.toInt ≤ 1) ∧ (u397.toInt = 0 → 1 ≤ u399.toInt) ∧ (u397.toInt = 1 → (f403 (I 19).toNatClampNeg).toInt = (f183 (I 19).toNatClampNeg).toInt + 1 ∧ v394.toInt + 1 ≤ u398.toInt) ∧ (u397.toInt = 1 → PSg (F 4) (F 8) (F 7) f402 f403 gs (I 19).toNatClampNeg gb ((gd + 1) + 1) (u401.toInt).toNat) ∧ TC (F 4) (F 8) (F 7) f402 := w396
        obtain ⟨hw404, hw405, hw406, hw407, hw408, hw409, hw410, hw411, hw412, hw413, hw414⟩ := w396
        refine W.eq (g2 := F0 m 61 ls [.int u397]) rfl ?_
        have hP : va_P D vwCl (MW Y o a (upd (upd (upd (upd I 16 u398) 17 u399) 18 u400) 20 u401) J (vf_upd (vf_upd F 5 f402) 6 f403) G) H := hP
        have hD : va_D A (MW Y o a (upd (upd (upd (upd I 16 u398) 17 u399) 18 u400) 20 u401) J (vf_upd (vf_upd F 5 f402) 6 f403) G) := hD
        rcases (show u397.toInt = 1 ∨ u397.toInt = 0 by omega) with c415 | c415
        · obtain rfl : u397 = 1 := i_is c415 (by decide)
          have t416 := hw413 (by decide)
          refine W.eq (g2 := F0 m 61 ls [.int 1]) rfl ?_
          refine lv_if_ne (tgt := 66) hx hb dX11_term_61 (by decide) (fun c417 => ?_) (fun c417 => ?_)
          rotate_left
          · exact absurd c417 (by decide)
          refine lv_aload_n hx hb dX11_term_66 rfl (lv_at hl 1 rfl) ?_
          refine lv_iload_n hx hb dX11_term_67 rfl (lv_at hl 0 rfl) ?_
          refine lv_iconst (v := 0) hx hb dX11_term_68 (by decide) ?_
          have zi4 : (4 : Int32).toInt = 4 := by decide
          have zi0 : (0 : Int32).toInt = 0 := by decide
          refine cga (rn_V (As := [.int 4, .int 0]) (rest := []) (b := o) (m_puts l D Y Z H.size o a (upd (upd (upd (upd I 16 u398) 17 u399) 18 u400) 20 u401) J (vf_upd (vf_upd F 5 f402) 6 f403) G  4 0 (show (0 ≤ (I 19).toInt ∧ (I 19).toInt ≤ 17) by omega) (show (0 ≤ (4 : Int32).toInt ∧ (4 : Int32).toInt ≤ 15) by omega) (show (0 ≤ (0 : Int32).toInt ∧ (0 : Int32).toInt ≤ 99999) by omega) (show (0 ≤ (f403 (I 19).toNatClampNeg).toInt ∧ (f403 (I 19).toNatClampNeg).toInt ≤ 399) by omega)) ⟨hx, hb, hml, hown, hg⟩ lk_X11_250 ⟨CP.blind, va_recv hKN.1 hP (ci := 11) (q0 := 0) rfl rfl, CP.at hP hKN hD⟩ ⟨⟨rfl, rfl⟩, ⟨Nat.le_of_ble_eq_true rfl, Nat.le_of_ble_eq_true rfl⟩, ⟨Nat.le_of_ble_eq_true rfl, Nat.le_of_ble_eq_true rfl⟩⟩ hl.1 rfl (Nat.le_of_ble_eq_true rfl) dX11_term_69) hP hD hS hA (fun u418 H locs w419 hP hD hS => ?_)
          obtain ⟨f420, f421⟩ := u418
          have w419 : PU f402 f420 f403 f421 (I 19).toNatClampNeg (4 : Int32).toInt (0 : Int32).toInt := w419
          have hw422 := w419
          refine W.eq (g2 := F0 m 72 ls []) rfl ?_
          have hP : va_P D vwCl (MW Y o a (upd (upd (upd (upd I 16 u398) 17 u399) 18 u400) 20 u401) J (vf_upd (vf_upd F 5 f420) 6 f421) G) H := hP
          have hD : va_D A (MW Y o a (upd (upd (upd (upd I 16 u398) 17 u399) 18 u400) 20 u401) J (vf_upd (vf_upd F 5 f420) 6 f421) G) := hD
          have t423 := PG_pu (e := (((gd + 1) + 1) - 1)) (PG_to (md2 := u401.toInt.toNat) t416 rfl rfl (by omega) (by omega)) hw422 (fun x hx => stp_bin hx (by omega) (by omega) (by omega) (by omega) (by omega) (by omega) rfl) (by omega) (by omega)
          obtain ⟨t423p, t423l⟩ := t423
          refine lv_goto (tgt := 9) hx hb dX11_term_72 (by decide) ?_
          exact ih346 (u398, u399, u400, u401, f420, f421) H locs ls (by show (400 - u398.toInt).toNat < (400 - g178.toInt).toNat; omega) ⟨hP, hD, hS, lv_sub hl [1] rfl, by omega, by omega, by omega, by omega, by omega, by omega, by omega, (PG_to t423p rfl (by omega) (by omega) (by omega))⟩
        · obtain rfl : u397 = 0 := i_is c415 (by decide)
          have zi0 : (0 : Int32).toInt = 0 := by decide
          refine W.eq (g2 := F0 m 61 ls [.int 0]) rfl ?_
          refine lv_if_ne (tgt := 66) hx hb dX11_term_61 (by decide) (fun c424 => ?_) (fun c424 => ?_)
          · exact absurd c424 (by decide)
          refine lv_iconst (v := 0) hx hb dX11_term_64 (by decide) ?_
          refine W.widen (k := 0) (n := 0) (Nat.le_of_ble_eq_true rfl) (Nat.le_of_ble_eq_true rfl) ?_
          exact W.zret (v := 0) hx hb hr (by decide) (fun t ht hW => ⟨⟨(0, u398, u399, u400, u401, f402, f403), rfl, ⟨(show (0 ≤ u398.toInt ∧ u398.toInt ≤ 400) by omega), (show ((I 16).toInt ≤ u398.toInt) by omega), (show (u398.toInt ≤ (I 3).toInt) by omega), (show (0 ≤ u399.toInt ∧ u399.toInt ≤ 4000) by omega), (show (0 ≤ u401.toInt ∧ u401.toInt ≤ 60) by omega), (show ((I 20).toInt ≤ u401.toInt) by omega), (show (0 ≤ (0 : Int32).toInt ∧ (0 : Int32).toInt ≤ 1) by omega), (show ((0 : Int32).toInt = 0 → 1 ≤ u399.toInt) by omega), (show ((0 : Int32).toInt = 1 → (f403 (I 19).toNatClampNeg).toInt + (I 16).toInt ≤ ((F 6) (I 19).toNatClampNeg).toInt + u398.toInt) by omega), (fun h => absurd h (by decide)), (PG_tc hw413)⟩, CB.mk ht hP hD⟩, hS.F ht⟩) hS.2.2 dX11_term_65
    · skip
      have c359 := i_ne (Eq.refl u351.toInt) (show (42 : Int32).toInt = 42 by decide) c359
      refine lv_aload_n hx hb dX11_term_18 rfl (lv_at hl 0 rfl) ?_
      refine cga (rn_V (As := []) (rest := []) (b := o) (m_see l D Y Z H.size o a (upd (upd (upd (upd I 16 u352) 17 g179) 18 g180) 20 g181) J (vf_upd (vf_upd F 5 f182) 6 f183) G   (show (0 ≤ u352.toInt ∧ u352.toInt ≤ 400) by omega) (show (0 ≤ (I 3).toInt ∧ (I 3).toInt ≤ 400) by omega) (show (u352.toInt ≤ (I 3).toInt) by omega)) ⟨hx, hb, hml, hown, hg⟩ lk_X11_183 ⟨CP.blind, va_recv hKN.1 hP (ci := 11) (q0 := 0) rfl rfl, CP.at hP hKN hD⟩ ⟨⟨rfl, rfl⟩, ⟨Nat.le_of_ble_eq_true rfl, Nat.le_of_ble_eq_true rfl⟩, ⟨Nat.le_of_ble_eq_true rfl, Nat.le_of_ble_eq_true rfl⟩⟩ hl.1 rfl (Nat.le_of_ble_eq_true rfl) dX11_term_19) hP hD hS hA (fun u425 H locs w426 hP hD hS => ?_)
      obtain ⟨u427, u428⟩ := u425
      have w426 : (0 ≤ u428.toInt ∧ u428.toInt ≤ 400) ∧ (u352.toInt ≤ u428.toInt) ∧ (u428.toInt ≤ (I 3).toInt) ∧ ((u427.toInt = -1 ∧ u428.toInt = (I 3).toInt) ∨ (0 ≤ u427.toInt ∧ u427.toInt ≤ 255 ∧ u428.toInt < (I 3).toInt ∧ ((F 2) u428.toNatClampNeg).toInt ≠ 32)) ∧ (-1 ≤ u427.toInt ∧ u427.toInt ≤ 255) ∧ ((u352.toInt < (I 3).toInt ∧ ((F 2) u352.toNatClampNeg).toInt ≠ 32) → u428.toInt = u352.toInt) := w426
      obtain ⟨hw429, hw430, hw431, hw432, hw433, hw434⟩ := w426
      refine W.eq (g2 := F0 m 22 ls [.int u427]) rfl ?_
      have hP : va_P D vwCl (MW Y o a (upd (upd (upd (upd I 16 u428) 17 g179) 18 g180) 20 g181) J (vf_upd (vf_upd F 5 f182) 6 f183) G) H := hP
      have hD : va_D A (MW Y o a (upd (upd (upd (upd I 16 u428) 17 g179) 18 g180) 20 g181) J (vf_upd (vf_upd F 5 f182) 6 f183) G) := hD
      refine lv_bipush (v := 47) hx hb dX11_term_22 (by decide) ?_
      refine lv_icmp_ne (tgt := 75) hx hb dX11_term_24 (by decide) (fun c435 => ?_) (fun c435 => ?_)
      · skip
        have c435 := i_ne (Eq.refl u427.toInt) (show (47 : Int32).toInt = 47 by decide) c435
        refine lv_iconst (v := 1) hx hb dX11_term_75 (by decide) ?_
        refine W.widen (k := 0) (n := 0) (Nat.le_of_ble_eq_true rfl) (Nat.le_of_ble_eq_true rfl) ?_
        exact W.zret (v := 1) hx hb hr (by decide) (fun t ht hW => ⟨⟨(1, u428, g179, g180, g181, f182, f183), rfl, ⟨(show (0 ≤ u428.toInt ∧ u428.toInt ≤ 400) by omega), (show ((I 16).toInt ≤ u428.toInt) by omega), (show (u428.toInt ≤ (I 3).toInt) by omega), (show (0 ≤ g179.toInt ∧ g179.toInt ≤ 4000) by omega), (show (0 ≤ g181.toInt ∧ g181.toInt ≤ 60) by omega), (show ((I 20).toInt ≤ g181.toInt) by omega), (show (0 ≤ (1 : Int32).toInt ∧ (1 : Int32).toInt ≤ 1) by omega), (show ((1 : Int32).toInt = 0 → 1 ≤ g179.toInt) by omega), (show ((1 : Int32).toInt = 1 → (f183 (I 19).toNatClampNeg).toInt + (I 16).toInt ≤ ((F 6) (I 19).toNatClampNeg).toInt + u428.toInt) by omega), (fun _ => (PG_to hr345 rfl (by omega) (by omega) (by omega))), (PG_tc hr345)⟩, CB.mk ht hP hD⟩, hS.F ht⟩) hS.2.2 dX11_term_76
      · skip
        have c435 := i_eq (Eq.refl u427.toInt) (show (47 : Int32).toInt = 47 by decide) c435
        refine lv_aload_n hx hb dX11_term_27 rfl (lv_at hl 0 rfl) ?_
        refine va_get (D := D) (ci := 11) (v := .ref (a 2)) (C := RX11) (T := TX11) (N := 49) hx hb hg inGX11 hown hKN.1 hP 0 rfl rfl 2 (by decide) (hg _ kw_1210) (fun _ h9 => h9) rfl dX11_term_28 ?_
        refine lv_aload_n hx hb dX11_term_31 rfl (lv_at hl 0 rfl) ?_
        refine va_get (D := D) (ci := 11) (v := .int u428) (C := RX11) (T := TX11) (N := 49) hx hb hg inGX11 hown hKN.1 hP 0 rfl rfl 16 (by decide) (hg _ kw_1224) (fun _ h9 => h9) rfl dX11_term_32 ?_
        refine va_bald hx hb hKN.1 hP 3 2 rfl rfl (vp_in_iff.mpr ⟨by omega, by omega⟩) dX11_term_35 ?_
        refine lv_topi (fun v436 ev436 => ?_)
        have ev436 : v436 = (F 2) u428.toNatClampNeg := ev436
        have qv436 := congrArg Int32.toInt ev436
        refine lv_bipush (v := 42) hx hb dX11_term_36 (by decide) ?_
        have j437 := rgI v436
        refine lv_icmp_ne (tgt := 45) hx hb dX11_term_38 (by decide) (fun c438 => ?_) (fun c438 => ?_)
        · skip
          have c438 := i_ne (Eq.refl v436.toInt) (show (42 : Int32).toInt = 42 by decide) c438
          refine lv_iconst (v := 5) hx hb dX11_term_45 (by decide) ?_
          refine lv_istore_n (lv' := [(1, .int 5), (0, .ref o)]) hx hb dX11_term_46 rfl hl (by decide) rfl (fun ls hl => ?_)
          refine lv_aload_n hx hb dX11_term_47 rfl (lv_at hl 1 rfl) ?_
          refine lv_dup hx hb dX11_term_48 rfl ?_
          refine va_get (D := D) (ci := 11) (v := .int u428) (C := RX11) (T := TX11) (N := 49) hx hb hg inGX11 hown hKN.1 hP 0 rfl rfl 16 (by decide) (hg _ kw_1224) (fun _ h9 => h9) rfl dX11_term_49 ?_
          refine lv_iconst (v := 1) hx hb dX11_term_52 (by decide) ?_
          refine lv_iadd hx hb dX11_term_53 ?_
          refine lv_topi (fun v439 ev439 => ?_)
          have hv439 := i_add (Eq.refl u428.toInt) (show (1 : Int32).toInt = 1 by decide) ev439 (by omega) (by omega)
          refine va_put (D := D) (ci := 11) (v := .int v439) (ty := .int) (C := RX11) (T := TX11) (N := 49) hx hb hg inGX11 tyX11 tyX11_ok nmX11 hown hKN.1 hP hD hS 0 rfl rfl 16 (by decide) (hg _ kw_1224) (fun _ h9 => h9) rfl (by decide +kernel) rfl rfl (Nat.le_of_ble_eq_true rfl) dX11_term_54 (fun H locs hP hD hS => ?_)
          have hP : va_P D vwCl (MW Y o a (upd (upd (upd (upd I 16 v439) 17 g179) 18 g180) 20 g181) J (vf_upd (vf_upd F 5 f182) 6 f183) G) H := hP
          have hD : va_D A (MW Y o a (upd (upd (upd (upd I 16 v439) 17 g179) 18 g180) 20 g181) J (vf_upd (vf_upd F 5 f182) 6 f183) G) := hD
          refine lv_aload_n hx hb dX11_term_57 rfl (lv_at hl 1 rfl) ?_
          refine cga (rn_V (As := []) (rest := []) (b := o) (m_value l D Y Z H.size o a (upd (upd (upd (upd I 16 v439) 17 g179) 18 g180) 20 g181) J (vf_upd (vf_upd F 5 f182) 6 f183) G gs gb (gd + 1)  (show (0 ≤ v439.toInt ∧ v439.toInt ≤ 400) by omega) (show (0 ≤ (I 3).toInt ∧ (I 3).toInt ≤ 400) by omega) (show (v439.toInt ≤ (I 3).toInt) by omega) (show (0 ≤ g179.toInt ∧ g179.toInt ≤ 4000) by omega) (show (0 ≤ g181.toInt ∧ g181.toInt ≤ 60) by omega) (show (0 ≤ (I 19).toInt ∧ (I 19).toInt ≤ 17) by omega) (show ((f183 (I 19).toNatClampNeg).toInt ≤ v439.toInt) by omega) (PG_to hr345 rfl (by omega) (by omega) (by omega))) ⟨hx, hb, hml, hown, hg⟩ lk_X11_264 ⟨CP.blind, va_recv hKN.1 hP (ci := 11) (q0 := 0) rfl rfl, CP.at hP hKN hD⟩ ⟨⟨rfl, rfl⟩, ⟨Nat.le_of_ble_eq_true rfl, Nat.le_of_ble_eq_true rfl⟩, ⟨Nat.le_of_ble_eq_true rfl, Nat.le_of_ble_eq_true rfl⟩⟩ hl.1 rfl (Nat.le_of_ble_eq_true rfl) dX11_term_58) hP hD hS hA (fun u440 H locs w441 hP hD hS => ?_)
          obtain ⟨u442, u443, u444, u445, u446, f447, f448⟩ := u440
          have w441 : (0 ≤ u443.toInt ∧ u443.toInt ≤ 400) ∧ (v439.toInt ≤ u443.toInt) ∧ (u443.toInt ≤ (I 3).toInt) ∧ (0 ≤ u444.toInt ∧ u444.toInt ≤ 4000) ∧ (0 ≤ u446.toInt ∧ u446.toInt ≤ 60) ∧ (g181.toInt ≤ u446.toInt) ∧ (0 ≤ u442.toInt ∧ u442.toInt ≤ 1) ∧ (u442.toInt = 0 → 1 ≤ u444.toInt) ∧ (u442.toInt = 1 → (f448 (I 19).toNatClampNeg).toInt = (f183 (I 19).toNatClampNeg).toInt + 1 ∧ v439.toInt + 1 ≤ u443.toInt) ∧ (u442.toInt = 1 → PSg (F 4) (F 8) (F 7) f447 f448 gs (I 19).toNatClampNeg gb ((gd + 1) + 1) (u446.toInt).toNat) ∧ TC (F 4) (F 8) (F 7) f447 := w441
          obtain ⟨hw449, hw450, hw451, hw452, hw453, hw454, hw455, hw456, hw457, hw458, hw459⟩ := w441
          refine W.eq (g2 := F0 m 61 ls [.int u442]) rfl ?_
          have hP : va_P D vwCl (MW Y o a (upd (upd (upd (upd I 16 u443) 17 u444) 18 u445) 20 u446) J (vf_upd (vf_upd F 5 f447) 6 f448) G) H := hP
          have hD : va_D A (MW Y o a (upd (upd (upd (upd I 16 u443) 17 u444) 18 u445) 20 u446) J (vf_upd (vf_upd F 5 f447) 6 f448) G) := hD
          rcases (show u442.toInt = 1 ∨ u442.toInt = 0 by omega) with c460 | c460
          · obtain rfl : u442 = 1 := i_is c460 (by decide)
            have t461 := hw458 (by decide)
            refine W.eq (g2 := F0 m 61 ls [.int 1]) rfl ?_
            refine lv_if_ne (tgt := 66) hx hb dX11_term_61 (by decide) (fun c462 => ?_) (fun c462 => ?_)
            rotate_left
            · exact absurd c462 (by decide)
            refine lv_aload_n hx hb dX11_term_66 rfl (lv_at hl 1 rfl) ?_
            refine lv_iload_n hx hb dX11_term_67 rfl (lv_at hl 0 rfl) ?_
            refine lv_iconst (v := 0) hx hb dX11_term_68 (by decide) ?_
            have zi5 : (5 : Int32).toInt = 5 := by decide
            have zi0 : (0 : Int32).toInt = 0 := by decide
            refine cga (rn_V (As := [.int 5, .int 0]) (rest := []) (b := o) (m_puts l D Y Z H.size o a (upd (upd (upd (upd I 16 u443) 17 u444) 18 u445) 20 u446) J (vf_upd (vf_upd F 5 f447) 6 f448) G  5 0 (show (0 ≤ (I 19).toInt ∧ (I 19).toInt ≤ 17) by omega) (show (0 ≤ (5 : Int32).toInt ∧ (5 : Int32).toInt ≤ 15) by omega) (show (0 ≤ (0 : Int32).toInt ∧ (0 : Int32).toInt ≤ 99999) by omega) (show (0 ≤ (f448 (I 19).toNatClampNeg).toInt ∧ (f448 (I 19).toNatClampNeg).toInt ≤ 399) by omega)) ⟨hx, hb, hml, hown, hg⟩ lk_X11_250 ⟨CP.blind, va_recv hKN.1 hP (ci := 11) (q0 := 0) rfl rfl, CP.at hP hKN hD⟩ ⟨⟨rfl, rfl⟩, ⟨Nat.le_of_ble_eq_true rfl, Nat.le_of_ble_eq_true rfl⟩, ⟨Nat.le_of_ble_eq_true rfl, Nat.le_of_ble_eq_true rfl⟩⟩ hl.1 rfl (Nat.le_of_ble_eq_true rfl) dX11_term_69) hP hD hS hA (fun u463 H locs w464 hP hD hS => ?_)
            obtain ⟨f465, f466⟩ := u463
            have w464 : PU f447 f465 f448 f466 (I 19).toNatClampNeg (5 : Int32).toInt (0 : Int32).toInt := w464
            have hw467 := w464
            refine W.eq (g2 := F0 m 72 ls []) rfl ?_
            have hP : va_P D vwCl (MW Y o a (upd (upd (upd (upd I 16 u443) 17 u444) 18 u445) 20 u446) J (vf_upd (vf_upd F 5 f465) 6 f466) G) H := hP
            have hD : va_D A (MW Y o a (upd (upd (upd (upd I 16 u443) 17 u444) 18 u445) 20 u446) J (vf_upd (vf_upd F 5 f465) 6 f466) G) := hD
            have t468 := PG_pu (e := (((gd + 1) + 1) - 1)) (PG_to (md2 := u446.toInt.toNat) t461 rfl rfl (by omega) (by omega)) hw467 (fun x hx => stp_bin hx (by omega) (by omega) (by omega) (by omega) (by omega) (by omega) rfl) (by omega) (by omega)
            obtain ⟨t468p, t468l⟩ := t468
            refine lv_goto (tgt := 9) hx hb dX11_term_72 (by decide) ?_
            exact ih346 (u443, u444, u445, u446, f465, f466) H locs ls (by show (400 - u443.toInt).toNat < (400 - g178.toInt).toNat; omega) ⟨hP, hD, hS, lv_sub hl [1] rfl, by omega, by omega, by omega, by omega, by omega, by omega, by omega, (PG_to t468p rfl (by omega) (by omega) (by omega))⟩
          · obtain rfl : u442 = 0 := i_is c460 (by decide)
            have zi0 : (0 : Int32).toInt = 0 := by decide
            refine W.eq (g2 := F0 m 61 ls [.int 0]) rfl ?_
            refine lv_if_ne (tgt := 66) hx hb dX11_term_61 (by decide) (fun c469 => ?_) (fun c469 => ?_)
            · exact absurd c469 (by decide)
            refine lv_iconst (v := 0) hx hb dX11_term_64 (by decide) ?_
            refine W.widen (k := 0) (n := 0) (Nat.le_of_ble_eq_true rfl) (Nat.le_of_ble_eq_true rfl) ?_
            exact W.zret (v := 0) hx hb hr (by decide) (fun t ht hW => ⟨⟨(0, u443, u444, u445, u446, f447, f448), rfl, ⟨(show (0 ≤ u443.toInt ∧ u443.toInt ≤ 400) by omega), (show ((I 16).toInt ≤ u443.toInt) by omega), (show (u443.toInt ≤ (I 3).toInt) by omega), (show (0 ≤ u444.toInt ∧ u444.toInt ≤ 4000) by omega), (show (0 ≤ u446.toInt ∧ u446.toInt ≤ 60) by omega), (show ((I 20).toInt ≤ u446.toInt) by omega), (show (0 ≤ (0 : Int32).toInt ∧ (0 : Int32).toInt ≤ 1) by omega), (show ((0 : Int32).toInt = 0 → 1 ≤ u444.toInt) by omega), (show ((0 : Int32).toInt = 1 → (f448 (I 19).toNatClampNeg).toInt + (I 16).toInt ≤ ((F 6) (I 19).toNatClampNeg).toInt + u443.toInt) by omega), (fun h => absurd h (by decide)), (PG_tc hw458)⟩, CB.mk ht hP hD⟩, hS.F ht⟩) hS.2.2 dX11_term_65
        · skip
          have c438 := i_eq (Eq.refl v436.toInt) (show (42 : Int32).toInt = 42 by decide) c438
          refine lv_iconst (v := 4) hx hb dX11_term_41 (by decide) ?_
          refine lv_goto (tgt := 46) hx hb dX11_term_42 (by decide) ?_
          refine lv_istore_n (lv' := [(1, .int 4), (0, .ref o)]) hx hb dX11_term_46 rfl hl (by decide) rfl (fun ls hl => ?_)
          refine lv_aload_n hx hb dX11_term_47 rfl (lv_at hl 1 rfl) ?_
          refine lv_dup hx hb dX11_term_48 rfl ?_
          refine va_get (D := D) (ci := 11) (v := .int u428) (C := RX11) (T := TX11) (N := 49) hx hb hg inGX11 hown hKN.1 hP 0 rfl rfl 16 (by decide) (hg _ kw_1224) (fun _ h9 => h9) rfl dX11_term_49 ?_
          refine lv_iconst (v := 1) hx hb dX11_term_52 (by decide) ?_
          refine lv_iadd hx hb dX11_term_53 ?_
          refine lv_topi (fun v470 ev470 => ?_)
          have hv470 := i_add (Eq.refl u428.toInt) (show (1 : Int32).toInt = 1 by decide) ev470 (by omega) (by omega)
          refine va_put (D := D) (ci := 11) (v := .int v470) (ty := .int) (C := RX11) (T := TX11) (N := 49) hx hb hg inGX11 tyX11 tyX11_ok nmX11 hown hKN.1 hP hD hS 0 rfl rfl 16 (by decide) (hg _ kw_1224) (fun _ h9 => h9) rfl (by decide +kernel) rfl rfl (Nat.le_of_ble_eq_true rfl) dX11_term_54 (fun H locs hP hD hS => ?_)
          have hP : va_P D vwCl (MW Y o a (upd (upd (upd (upd I 16 v470) 17 g179) 18 g180) 20 g181) J (vf_upd (vf_upd F 5 f182) 6 f183) G) H := hP
          have hD : va_D A (MW Y o a (upd (upd (upd (upd I 16 v470) 17 g179) 18 g180) 20 g181) J (vf_upd (vf_upd F 5 f182) 6 f183) G) := hD
          refine lv_aload_n hx hb dX11_term_57 rfl (lv_at hl 1 rfl) ?_
          refine cga (rn_V (As := []) (rest := []) (b := o) (m_value l D Y Z H.size o a (upd (upd (upd (upd I 16 v470) 17 g179) 18 g180) 20 g181) J (vf_upd (vf_upd F 5 f182) 6 f183) G gs gb (gd + 1)  (show (0 ≤ v470.toInt ∧ v470.toInt ≤ 400) by omega) (show (0 ≤ (I 3).toInt ∧ (I 3).toInt ≤ 400) by omega) (show (v470.toInt ≤ (I 3).toInt) by omega) (show (0 ≤ g179.toInt ∧ g179.toInt ≤ 4000) by omega) (show (0 ≤ g181.toInt ∧ g181.toInt ≤ 60) by omega) (show (0 ≤ (I 19).toInt ∧ (I 19).toInt ≤ 17) by omega) (show ((f183 (I 19).toNatClampNeg).toInt ≤ v470.toInt) by omega) (PG_to hr345 rfl (by omega) (by omega) (by omega))) ⟨hx, hb, hml, hown, hg⟩ lk_X11_264 ⟨CP.blind, va_recv hKN.1 hP (ci := 11) (q0 := 0) rfl rfl, CP.at hP hKN hD⟩ ⟨⟨rfl, rfl⟩, ⟨Nat.le_of_ble_eq_true rfl, Nat.le_of_ble_eq_true rfl⟩, ⟨Nat.le_of_ble_eq_true rfl, Nat.le_of_ble_eq_true rfl⟩⟩ hl.1 rfl (Nat.le_of_ble_eq_true rfl) dX11_term_58) hP hD hS hA (fun u471 H locs w472 hP hD hS => ?_)
          obtain ⟨u473, u474, u475, u476, u477, f478, f479⟩ := u471
          have w472 : (0 ≤ u474.toInt ∧ u474.toInt ≤ 400) ∧ (v470.toInt ≤ u474.toInt) ∧ (u474.toInt ≤ (I 3).toInt) ∧ (0 ≤ u475.toInt ∧ u475.toInt ≤ 4000) ∧ (0 ≤ u477.toInt ∧ u477.toInt ≤ 60) ∧ (g181.toInt ≤ u477.toInt) ∧ (0 ≤ u473.toInt ∧ u473.toInt ≤ 1) ∧ (u473.toInt = 0 → 1 ≤ u475.toInt) ∧ (u473.toInt = 1 → (f479 (I 19).toNatClampNeg).toInt = (f183 (I 19).toNatClampNeg).toInt + 1 ∧ v470.toInt + 1 ≤ u474.toInt) ∧ (u473.toInt = 1 → PSg (F 4) (F 8) (F 7) f478 f479 gs (I 19).toNatClampNeg gb ((gd + 1) + 1) (u477.toInt).toNat) ∧ TC (F 4) (F 8) (F 7) f478 := w472
          obtain ⟨hw480, hw481, hw482, hw483, hw484, hw485, hw486, hw487, hw488, hw489, hw490⟩ := w472
          refine W.eq (g2 := F0 m 61 ls [.int u473]) rfl ?_
          have hP : va_P D vwCl (MW Y o a (upd (upd (upd (upd I 16 u474) 17 u475) 18 u476) 20 u477) J (vf_upd (vf_upd F 5 f478) 6 f479) G) H := hP
          have hD : va_D A (MW Y o a (upd (upd (upd (upd I 16 u474) 17 u475) 18 u476) 20 u477) J (vf_upd (vf_upd F 5 f478) 6 f479) G) := hD
          rcases (show u473.toInt = 1 ∨ u473.toInt = 0 by omega) with c491 | c491
          · obtain rfl : u473 = 1 := i_is c491 (by decide)
            have t492 := hw489 (by decide)
            refine W.eq (g2 := F0 m 61 ls [.int 1]) rfl ?_
            refine lv_if_ne (tgt := 66) hx hb dX11_term_61 (by decide) (fun c493 => ?_) (fun c493 => ?_)
            rotate_left
            · exact absurd c493 (by decide)
            refine lv_aload_n hx hb dX11_term_66 rfl (lv_at hl 1 rfl) ?_
            refine lv_iload_n hx hb dX11_term_67 rfl (lv_at hl 0 rfl) ?_
            refine lv_iconst (v := 0) hx hb dX11_term_68 (by decide) ?_
            have zi4 : (4 : Int32).toInt = 4 := by decide
            have zi0 : (0 : Int32).toInt = 0 := by decide
            refine cga (rn_V (As := [.int 4, .int 0]) (rest := []) (b := o) (m_puts l D Y Z H.size o a (upd (upd (upd (upd I 16 u474) 17 u475) 18 u476) 20 u477) J (vf_upd (vf_upd F 5 f478) 6 f479) G  4 0 (show (0 ≤ (I 19).toInt ∧ (I 19).toInt ≤ 17) by omega) (show (0 ≤ (4 : Int32).toInt ∧ (4 : Int32).toInt ≤ 15) by omega) (show (0 ≤ (0 : Int32).toInt ∧ (0 : Int32).toInt ≤ 99999) by omega) (show (0 ≤ (f479 (I 19).toNatClampNeg).toInt ∧ (f479 (I 19).toNatClampNeg).toInt ≤ 399) by omega)) ⟨hx, hb, hml, hown, hg⟩ lk_X11_250 ⟨CP.blind, va_recv hKN.1 hP (ci := 11) (q0 := 0) rfl rfl, CP.at hP hKN hD⟩ ⟨⟨rfl, rfl⟩, ⟨Nat.le_of_ble_eq_true rfl, Nat.le_of_ble_eq_true rfl⟩, ⟨Nat.le_of_ble_eq_true rfl, Nat.le_of_ble_eq_true rfl⟩⟩ hl.1 rfl (Nat.le_of_ble_eq_true rfl) dX11_term_69) hP hD hS hA (fun u494 H locs w495 hP hD hS => ?_)
            obtain ⟨f496, f497⟩ := u494
            have w495 : PU f478 f496 f479 f497 (I 19).toNatClampNeg (4 : Int32).toInt (0 : Int32).toInt := w495
            have hw498 := w495
            refine W.eq (g2 := F0 m 72 ls []) rfl ?_
            have hP : va_P D vwCl (MW Y o a (upd (upd (upd (upd I 16 u474) 17 u475) 18 u476) 20 u477) J (vf_upd (vf_upd F 5 f496) 6 f497) G) H := hP
            have hD : va_D A (MW Y o a (upd (upd (upd (upd I 16 u474) 17 u475) 18 u476) 20 u477) J (vf_upd (vf_upd F 5 f496) 6 f497) G) := hD
            have t499 := PG_pu (e := (((gd + 1) + 1) - 1)) (PG_to (md2 := u477.toInt.toNat) t492 rfl rfl (by omega) (by omega)) hw498 (fun x hx => stp_bin hx (by omega) (by omega) (by omega) (by omega) (by omega) (by omega) rfl) (by omega) (by omega)
            obtain ⟨t499p, t499l⟩ := t499
            refine lv_goto (tgt := 9) hx hb dX11_term_72 (by decide) ?_
            exact ih346 (u474, u475, u476, u477, f496, f497) H locs ls (by show (400 - u474.toInt).toNat < (400 - g178.toInt).toNat; omega) ⟨hP, hD, hS, lv_sub hl [1] rfl, by omega, by omega, by omega, by omega, by omega, by omega, by omega, (PG_to t499p rfl (by omega) (by omega) (by omega))⟩
          · obtain rfl : u473 = 0 := i_is c491 (by decide)
            have zi0 : (0 : Int32).toInt = 0 := by decide
            refine W.eq (g2 := F0 m 61 ls [.int 0]) rfl ?_
            refine lv_if_ne (tgt := 66) hx hb dX11_term_61 (by decide) (fun c500 => ?_) (fun c500 => ?_)
            · exact absurd c500 (by decide)
            refine lv_iconst (v := 0) hx hb dX11_term_64 (by decide) ?_
            refine W.widen (k := 0) (n := 0) (Nat.le_of_ble_eq_true rfl) (Nat.le_of_ble_eq_true rfl) ?_
            exact W.zret (v := 0) hx hb hr (by decide) (fun t ht hW => ⟨⟨(0, u474, u475, u476, u477, f478, f479), rfl, ⟨(show (0 ≤ u474.toInt ∧ u474.toInt ≤ 400) by omega), (show ((I 16).toInt ≤ u474.toInt) by omega), (show (u474.toInt ≤ (I 3).toInt) by omega), (show (0 ≤ u475.toInt ∧ u475.toInt ≤ 4000) by omega), (show (0 ≤ u477.toInt ∧ u477.toInt ≤ 60) by omega), (show ((I 20).toInt ≤ u477.toInt) by omega), (show (0 ≤ (0 : Int32).toInt ∧ (0 : Int32).toInt ≤ 1) by omega), (show ((0 : Int32).toInt = 0 → 1 ≤ u475.toInt) by omega), (show ((0 : Int32).toInt = 1 → (f479 (I 19).toNatClampNeg).toInt + (I 16).toInt ≤ ((F 6) (I 19).toNatClampNeg).toInt + u474.toInt) by omega), (fun h => absurd h (by decide)), (PG_tc hw489)⟩, CB.mk ht hP hD⟩, hS.F ht⟩) hS.2.2 dX11_term_65
  · obtain rfl : u3 = 0 := i_is c21 (by decide)
    have zi0 : (0 : Int32).toInt = 0 := by decide
    refine W.eq (g2 := F0 m 4 ls [.int 0]) rfl ?_
    refine lv_if_ne (tgt := 9) hx hb dX11_term_4 (by decide) (fun c501 => ?_) (fun c501 => ?_)
    · exact absurd c501 (by decide)
    refine lv_iconst (v := 0) hx hb dX11_term_7 (by decide) ?_
    refine W.widen (k := 0) (n := 0) (Nat.le_of_ble_eq_true rfl) (Nat.le_of_ble_eq_true rfl) ?_
    exact W.zret (v := 0) hx hb hr (by decide) (fun t ht hW => ⟨⟨(0, u4, u5, u6, u7, f8, f9), rfl, ⟨(show (0 ≤ u4.toInt ∧ u4.toInt ≤ 400) by omega), (show ((I 16).toInt ≤ u4.toInt) by omega), (show (u4.toInt ≤ (I 3).toInt) by omega), (show (0 ≤ u5.toInt ∧ u5.toInt ≤ 4000) by omega), (show (0 ≤ u7.toInt ∧ u7.toInt ≤ 60) by omega), (show ((I 20).toInt ≤ u7.toInt) by omega), (show (0 ≤ (0 : Int32).toInt ∧ (0 : Int32).toInt ≤ 1) by omega), (show ((0 : Int32).toInt = 0 → 1 ≤ u5.toInt) by omega), (show ((0 : Int32).toInt = 1 → (f9 (I 19).toNatClampNeg).toInt + (I 16).toInt ≤ ((F 6) (I 19).toNatClampNeg).toInt + u4.toInt) by omega), (fun h => absurd h (by decide)), (PG_tc hw19)⟩, CB.mk ht hP hD⟩, hS.F ht⟩) hS.2.2 dX11_term_8
set_option maxHeartbeats 4000000 in
set_option maxRecDepth 100000 in
theorem m_sum (l : Launch) (D : va_G) (Y : Nat → ClassId) (Z : Nat → Nat) (sz : Nat) (o : Nat) (a : Nat → Nat) (I : Nat → Int32) (J : Nat → Int64) (F : Nat → Nat → Int32) (G : Nat → Nat → Int64) (gs : Nat → Int32) (gb : Nat) (gd : Nat) (hk_0 : (0 ≤ (I 16).toInt ∧ (I 16).toInt ≤ 400)) (hk_1 : (0 ≤ (I 3).toInt ∧ (I 3).toInt ≤ 400)) (hk_2 : ((I 16).toInt ≤ (I 3).toInt)) (hk_3 : (0 ≤ (I 17).toInt ∧ (I 17).toInt ≤ 4000)) (hk_4 : (0 ≤ (I 20).toInt ∧ (I 20).toInt ≤ 60)) (hk_5 : (0 ≤ (I 19).toInt ∧ (I 19).toInt ≤ 17)) (hk_6 : (((F 6) (I 19).toNatClampNeg).toInt ≤ (I 16).toInt)) (hr_PS : PSg (F 4) (F 8) (F 7) (F 5) (F 6) gs (I 19).toNatClampNeg gb (gd) ((I 20).toInt).toNat) : Met l yX11_sum (.code yX11_sum cX11_sum 2 (some .boolean) :: GW) ({ frames := 5, cells := 0, slots := 0, locals := 109 }) (va_Pc [.ref o] (CP D Y Z (MW Y o a I J F G) sz)) (QG (S := Int32 × Int32 × Int32 × Int32 × Int32 × (Nat → Int32) × (Nat → Int32)) (fun u => some (.int u.1)) (fun u => (0 ≤ u.2.1.toInt ∧ u.2.1.toInt ≤ 400) ∧ ((I 16).toInt ≤ u.2.1.toInt) ∧ (u.2.1.toInt ≤ (I 3).toInt) ∧ (0 ≤ u.2.2.1.toInt ∧ u.2.2.1.toInt ≤ 4000) ∧ (0 ≤ u.2.2.2.2.1.toInt ∧ u.2.2.2.2.1.toInt ≤ 60) ∧ ((I 20).toInt ≤ u.2.2.2.2.1.toInt) ∧ (0 ≤ u.1.toInt ∧ u.1.toInt ≤ 1) ∧ (u.1.toInt = 0 → 1 ≤ u.2.2.1.toInt) ∧ (u.1.toInt = 1 → (u.2.2.2.2.2.2 (I 19).toNatClampNeg).toInt + (I 16).toInt ≤ ((F 6) (I 19).toNatClampNeg).toInt + u.2.1.toInt) ∧ (u.1.toInt = 1 → PSg (F 4) (F 8) (F 7) u.2.2.2.2.2.1 u.2.2.2.2.2.2 gs (I 19).toNatClampNeg gb (gd + 1) (u.2.2.2.2.1.toInt).toNat) ∧ TC (F 4) (F 8) (F 7) u.2.2.2.2.2.1) (fun u => CB D (MW Y o a (upd (upd (upd (upd I 16 u.2.1) 17 u.2.2.1) 18 u.2.2.2.1) 20 u.2.2.2.2.1) J (vf_upd (vf_upd F 5 u.2.2.2.2.2.1) 6 u.2.2.2.2.2.2) G) (va_A (MW Y o a I J F G) sz)) (va_A (MW Y o a I J F G) sz)) 0 0 (va_A (MW Y o a I J F G) sz) := by
  refine Met.ofW (cc := cX11_sum) (maxL := 2) (ret := (some .boolean)) (by decide) rfl ?_
  intro p e s m args below meth c s₁ B hml hv
  obtain ⟨rfl, hsz, hP, hKN, hD0⟩ := hv
  have hx := B.exec
  have hb := B.bytes
  have hr := B.returns
  have hts := atoms_spec (ws := .code yX11_sum cX11_sum 2 (some .boolean) :: GW) B.pre
  have hg : ∀ w ∈ GW, w.before _ s = true := fun w h => hts w (List.mem_cons_of_mem _ h)
  have hown : s.vm.findClass RX11 = some m.cls := findClass_of_methodNamed B.named
  have hlocks := B.notSynchronized
  subst hsz
  have hD := hD0.self (sz := s.heap.size)
  generalize hAe : va_A (MW Y o a I J F G) s.heap.size = A at hD ⊢
  have hA : ∀ q : Nat, s.heap.size ≤ q → A q := fun q h => by rw [← hAe]; exact Or.inr h
  clear hAe hD0 hts B
  have hl := lv_entry ([.ref o]) (n := 2) (Nat.le_of_ble_eq_true rfl)
  rw [lg_entry_eq]
  generalize (lg_sl ([.ref o]) ++ List.replicate (2 - (lg_sl ([.ref o])).length) Slot.unset).toArray = ls at hl ⊢
  have hl : lv_has ls 2 [(0, .ref o)] := hl
  refine w_start (A0 := A) hP (fun H locs hP hS => ?_)
  have hd0 := PG_dep hr_PS
  have hl0 := PG_len hr_PS
  refine lv_aload_n hx hb dX11_sum_0 rfl (lv_at hl 0 rfl) ?_
  refine cga (rn_V (As := []) (rest := []) (b := o) (m_term l D Y Z H.size o a I J F G gs gb gd  (show (0 ≤ (I 16).toInt ∧ (I 16).toInt ≤ 400) by omega) (show (0 ≤ (I 3).toInt ∧ (I 3).toInt ≤ 400) by omega) (show ((I 16).toInt ≤ (I 3).toInt) by omega) (show (0 ≤ (I 17).toInt ∧ (I 17).toInt ≤ 4000) by omega) (show (0 ≤ (I 20).toInt ∧ (I 20).toInt ≤ 60) by omega) (show (0 ≤ (I 19).toInt ∧ (I 19).toInt ≤ 17) by omega) (show (((F 6) (I 19).toNatClampNeg).toInt ≤ (I 16).toInt) by omega) (PG_to hr_PS rfl (by omega) (by omega) (by omega))) ⟨hx, hb, hml, hown, hg⟩ lk_X11_268 ⟨CP.blind, va_recv hKN.1 hP (ci := 11) (q0 := 0) rfl rfl, CP.at hP hKN hD⟩ ⟨⟨rfl, rfl⟩, ⟨Nat.le_of_ble_eq_true rfl, Nat.le_of_ble_eq_true rfl⟩, ⟨Nat.le_of_ble_eq_true rfl, Nat.le_of_ble_eq_true rfl⟩⟩ hl.1 rfl (Nat.le_of_ble_eq_true rfl) dX11_sum_1) hP hD hS hA (fun u1 H locs w2 hP hD hS => ?_)
  obtain ⟨u3, u4, u5, u6, u7, f8, f9⟩ := u1
  have w2 : (0 ≤ u4.toInt ∧ u4.toInt ≤ 400) ∧ ((I 16).toInt ≤ u4.toInt) ∧ (u4.toInt ≤ (I 3).toInt) ∧ (0 ≤ u5.toInt ∧ u5.toInt ≤ 4000) ∧ (0 ≤ u7.toInt ∧ u7.toInt ≤ 60) ∧ ((I 20).toInt ≤ u7.toInt) ∧ (0 ≤ u3.toInt ∧ u3.toInt ≤ 1) ∧ (u3.toInt = 0 → 1 ≤ u5.toInt) ∧ (u3.toInt = 1 → (f9 (I 19).toNatClampNeg).toInt + (I 16).toInt ≤ ((F 6) (I 19).toNatClampNeg).toInt + u4.toInt) ∧ (u3.toInt = 1 → PSg (F 4) (F 8) (F 7) f8 f9 gs (I 19).toNatClampNeg gb (gd + 1) (u7.toInt).toNat) ∧ TC (F 4) (F 8) (F 7) f8 := w2
  obtain ⟨hw10, hw11, hw12, hw13, hw14, hw15, hw16, hw17, hw18, hw19, hw20⟩ := w2
  refine W.eq (g2 := F0 m 4 ls [.int u3]) rfl ?_
  have hP : va_P D vwCl (MW Y o a (upd (upd (upd (upd I 16 u4) 17 u5) 18 u6) 20 u7) J (vf_upd (vf_upd F 5 f8) 6 f9) G) H := hP
  have hD : va_D A (MW Y o a (upd (upd (upd (upd I 16 u4) 17 u5) 18 u6) 20 u7) J (vf_upd (vf_upd F 5 f8) 6 f9) G) := hD
  rcases (show u3.toInt = 1 ∨ u3.toInt = 0 by omega) with c21 | c21
  · obtain rfl : u3 = 1 := i_is c21 (by decide)
    have zi1 : (1 : Int32).toInt = 1 := by decide
    have t22 := hw19 (by decide)
    refine W.eq (g2 := F0 m 4 ls [.int 1]) rfl ?_
    refine lv_if_ne (tgt := 9) hx hb dX11_sum_4 (by decide) (fun c23 => ?_) (fun c23 => ?_)
    rotate_left
    · exact absurd c23 (by decide)
    refine w_loop (σ := Int32 × Int32 × Int32 × Int32 × (Nat → Int32) × (Nat → Int32)) (fun xx H locs ls => match xx with | (g178, g179, g180, g181, f182, f183) => va_P D vwCl (MW Y o a (upd (upd (upd (upd I 16 g178) 17 g179) 18 g180) 20 g181) J (vf_upd (vf_upd F 5 f182) 6 f183) G) H ∧ va_D A (MW Y o a (upd (upd (upd (upd I 16 g178) 17 g179) 18 g180) 20 g181) J (vf_upd (vf_upd F 5 f182) 6 f183) G) ∧ va_S A s.heap H locs ∧ lv_has ls 2 [(0, .ref o)] ∧ (0 ≤ g178.toInt ∧ g178.toInt ≤ 400) ∧ (g178.toInt ≤ (I 3).toInt) ∧ (0 ≤ g179.toInt ∧ g179.toInt ≤ 4000) ∧ (0 ≤ g181.toInt ∧ g181.toInt ≤ 60) ∧ ((I 20).toInt ≤ g181.toInt) ∧ ((I 16).toInt ≤ g178.toInt) ∧ ((f183 (I 19).toNatClampNeg).toInt + (I 16).toInt ≤ (F 6 (I 19).toNatClampNeg).toInt + g178.toInt) ∧ PSg (F 4) (F 8) (F 7) f182 f183 gs (I 19).toNatClampNeg gb (gd + 1) (g181.toInt).toNat) (fun xx => match xx with | (g178, g179, g180, g181, f182, f183) => (400 - g178.toInt).toNat) (u4, u5, u6, u7, f8, f9) ⟨hP, hD, hS, lv_sub hl [0] rfl, by omega, by omega, by omega, by omega, by omega, by omega, by omega, (PG_to t22 rfl (by omega) (by omega) (by omega))⟩ (fun xx H locs ls hI ih => ?_)
    obtain ⟨g178, g179, g180, g181, f182, f183⟩ := xx
    obtain ⟨hP, hD, hS, hl, hq338, hq339, hq340, hq341, hq342, hq343, hq344, hr345⟩ := hI
    have ih346 := ih
    refine lv_aload_n hx hb dX11_sum_9 rfl (lv_at hl 0 rfl) ?_
    have t347 := PG_len hr345
    have t348 := PG_dep hr345
    refine cga (rn_V (As := []) (rest := []) (b := o) (m_see l D Y Z H.size o a (upd (upd (upd (upd I 16 g178) 17 g179) 18 g180) 20 g181) J (vf_upd (vf_upd F 5 f182) 6 f183) G   (show (0 ≤ g178.toInt ∧ g178.toInt ≤ 400) by omega) (show (0 ≤ (I 3).toInt ∧ (I 3).toInt ≤ 400) by omega) (show (g178.toInt ≤ (I 3).toInt) by omega)) ⟨hx, hb, hml, hown, hg⟩ lk_X11_183 ⟨CP.blind, va_recv hKN.1 hP (ci := 11) (q0 := 0) rfl rfl, CP.at hP hKN hD⟩ ⟨⟨rfl, rfl⟩, ⟨Nat.le_of_ble_eq_true rfl, Nat.le_of_ble_eq_true rfl⟩, ⟨Nat.le_of_ble_eq_true rfl, Nat.le_of_ble_eq_true rfl⟩⟩ hl.1 rfl (Nat.le_of_ble_eq_true rfl) dX11_sum_10) hP hD hS hA (fun u349 H locs w350 hP hD hS => ?_)
    obtain ⟨u351, u352⟩ := u349
    have w350 : (0 ≤ u352.toInt ∧ u352.toInt ≤ 400) ∧ (g178.toInt ≤ u352.toInt) ∧ (u352.toInt ≤ (I 3).toInt) ∧ ((u351.toInt = -1 ∧ u352.toInt = (I 3).toInt) ∨ (0 ≤ u351.toInt ∧ u351.toInt ≤ 255 ∧ u352.toInt < (I 3).toInt ∧ ((F 2) u352.toNatClampNeg).toInt ≠ 32)) ∧ (-1 ≤ u351.toInt ∧ u351.toInt ≤ 255) ∧ ((g178.toInt < (I 3).toInt ∧ ((F 2) g178.toNatClampNeg).toInt ≠ 32) → u352.toInt = g178.toInt) := w350
    obtain ⟨hw353, hw354, hw355, hw356, hw357, hw358⟩ := w350
    refine W.eq (g2 := F0 m 13 ls [.int u351]) rfl ?_
    have hP : va_P D vwCl (MW Y o a (upd (upd (upd (upd I 16 u352) 17 g179) 18 g180) 20 g181) J (vf_upd (vf_upd F 5 f182) 6 f183) G) H := hP
    have hD : va_D A (MW Y o a (upd (upd (upd (upd I 16 u352) 17 g179) 18 g180) 20 g181) J (vf_upd (vf_upd F 5 f182) 6 f183) G) := hD
    refine lv_bipush (v := 43) hx hb dX11_sum_13 (by decide) ?_
    refine lv_icmp_eq (tgt := 27) hx hb dX11_sum_15 (by decide) (fun c359 => ?_) (fun c359 => ?_)
    · skip
      have c359 := i_eq (Eq.refl u351.toInt) (show (43 : Int32).toInt = 43 by decide) c359
      refine lv_aload_n hx hb dX11_sum_27 rfl (lv_at hl 0 rfl) ?_
      refine va_get (D := D) (ci := 11) (v := .ref (a 2)) (C := RX11) (T := TX11) (N := 49) hx hb hg inGX11 hown hKN.1 hP 0 rfl rfl 2 (by decide) (hg _ kw_1210) (fun _ h9 => h9) rfl dX11_sum_28 ?_
      refine lv_aload_n hx hb dX11_sum_31 rfl (lv_at hl 0 rfl) ?_
      refine va_get (D := D) (ci := 11) (v := .int u352) (C := RX11) (T := TX11) (N := 49) hx hb hg inGX11 hown hKN.1 hP 0 rfl rfl 16 (by decide) (hg _ kw_1224) (fun _ h9 => h9) rfl dX11_sum_32 ?_
      refine va_bald hx hb hKN.1 hP 3 2 rfl rfl (vp_in_iff.mpr ⟨by omega, by omega⟩) dX11_sum_35 ?_
      refine lv_topi (fun v360 ev360 => ?_)
      have ev360 : v360 = (F 2) u352.toNatClampNeg := ev360
      have qv360 := congrArg Int32.toInt ev360
      refine lv_bipush (v := 43) hx hb dX11_sum_36 (by decide) ?_
      have j361 := rgI v360
      refine lv_icmp_ne (tgt := 45) hx hb dX11_sum_38 (by decide) (fun c362 => ?_) (fun c362 => ?_)
      · skip
        have c362 := i_ne (Eq.refl v360.toInt) (show (43 : Int32).toInt = 43 by decide) c362
        refine lv_iconst (v := 3) hx hb dX11_sum_45 (by decide) ?_
        refine lv_istore_n (lv' := [(1, .int 3), (0, .ref o)]) hx hb dX11_sum_46 rfl hl (by decide) rfl (fun ls hl => ?_)
        refine lv_aload_n hx hb dX11_sum_47 rfl (lv_at hl 1 rfl) ?_
        refine lv_dup hx hb dX11_sum_48 rfl ?_
        refine va_get (D := D) (ci := 11) (v := .int u352) (C := RX11) (T := TX11) (N := 49) hx hb hg inGX11 hown hKN.1 hP 0 rfl rfl 16 (by decide) (hg _ kw_1224) (fun _ h9 => h9) rfl dX11_sum_49 ?_
        refine lv_iconst (v := 1) hx hb dX11_sum_52 (by decide) ?_
        refine lv_iadd hx hb dX11_sum_53 ?_
        refine lv_topi (fun v363 ev363 => ?_)
        have hv363 := i_add (Eq.refl u352.toInt) (show (1 : Int32).toInt = 1 by decide) ev363 (by omega) (by omega)
        refine va_put (D := D) (ci := 11) (v := .int v363) (ty := .int) (C := RX11) (T := TX11) (N := 49) hx hb hg inGX11 tyX11 tyX11_ok nmX11 hown hKN.1 hP hD hS 0 rfl rfl 16 (by decide) (hg _ kw_1224) (fun _ h9 => h9) rfl (by decide +kernel) rfl rfl (Nat.le_of_ble_eq_true rfl) dX11_sum_54 (fun H locs hP hD hS => ?_)
        have hP : va_P D vwCl (MW Y o a (upd (upd (upd (upd I 16 v363) 17 g179) 18 g180) 20 g181) J (vf_upd (vf_upd F 5 f182) 6 f183) G) H := hP
        have hD : va_D A (MW Y o a (upd (upd (upd (upd I 16 v363) 17 g179) 18 g180) 20 g181) J (vf_upd (vf_upd F 5 f182) 6 f183) G) := hD
        refine lv_aload_n hx hb dX11_sum_57 rfl (lv_at hl 1 rfl) ?_
        refine cga (rn_V (As := []) (rest := []) (b := o) (m_term l D Y Z H.size o a (upd (upd (upd (upd I 16 v363) 17 g179) 18 g180) 20 g181) J (vf_upd (vf_upd F 5 f182) 6 f183) G gs gb (gd + 1)  (show (0 ≤ v363.toInt ∧ v363.toInt ≤ 400) by omega) (show (0 ≤ (I 3).toInt ∧ (I 3).toInt ≤ 400) by omega) (show (v363.toInt ≤ (I 3).toInt) by omega) (show (0 ≤ g179.toInt ∧ g179.toInt ≤ 4000) by omega) (show (0 ≤ g181.toInt ∧ g181.toInt ≤ 60) by omega) (show (0 ≤ (I 19).toInt ∧ (I 19).toInt ≤ 17) by omega) (show ((f183 (I 19).toNatClampNeg).toInt ≤ v363.toInt) by omega) (PG_to hr345 rfl (by omega) (by omega) (by omega))) ⟨hx, hb, hml, hown, hg⟩ lk_X11_268 ⟨CP.blind, va_recv hKN.1 hP (ci := 11) (q0 := 0) rfl rfl, CP.at hP hKN hD⟩ ⟨⟨rfl, rfl⟩, ⟨Nat.le_of_ble_eq_true rfl, Nat.le_of_ble_eq_true rfl⟩, ⟨Nat.le_of_ble_eq_true rfl, Nat.le_of_ble_eq_true rfl⟩⟩ hl.1 rfl (Nat.le_of_ble_eq_true rfl) dX11_sum_58) hP hD hS hA (fun u364 H locs w365 hP hD hS => ?_)
        obtain ⟨u366, u367, u368, u369, u370, f371, f372⟩ := u364
        have w365 : (0 ≤ u367.toInt ∧ u367.toInt ≤ 400) ∧ (v363.toInt ≤ u367.toInt) ∧ (u367.toInt ≤ (I 3).toInt) ∧ (0 ≤ u368.toInt ∧ u368.toInt ≤ 4000) ∧ (0 ≤ u370.toInt ∧ u370.toInt ≤ 60) ∧ (g181.toInt ≤ u370.toInt) ∧ (0 ≤ u366.toInt ∧ u366.toInt ≤ 1) ∧ (u366.toInt = 0 → 1 ≤ u368.toInt) ∧ (u366.toInt = 1 → (f372 (I 19).toNatClampNeg).toInt + v363.toInt ≤ (f183 (I 19).toNatClampNeg).toInt + u367.toInt) ∧ (u366.toInt = 1 → PSg (F 4) (F 8) (F 7) f371 f372 gs (I 19).toNatClampNeg gb ((gd + 1) + 1) (u370.toInt).toNat) ∧ TC (F 4) (F 8) (F 7) f371 := w365
        obtain ⟨hw373, hw374, hw375, hw376, hw377, hw378, hw379, hw380, hw381, hw382, hw383⟩ := w365
        refine W.eq (g2 := F0 m 61 ls [.int u366]) rfl ?_
        have hP : va_P D vwCl (MW Y o a (upd (upd (upd (upd I 16 u367) 17 u368) 18 u369) 20 u370) J (vf_upd (vf_upd F 5 f371) 6 f372) G) H := hP
        have hD : va_D A (MW Y o a (upd (upd (upd (upd I 16 u367) 17 u368) 18 u369) 20 u370) J (vf_upd (vf_upd F 5 f371) 6 f372) G) := hD
        rcases (show u366.toInt = 1 ∨ u366.toInt = 0 by omega) with c384 | c384
        · obtain rfl : u366 = 1 := i_is c384 (by decide)
          have t385 := hw382 (by decide)
          refine W.eq (g2 := F0 m 61 ls [.int 1]) rfl ?_
          refine lv_if_ne (tgt := 66) hx hb dX11_sum_61 (by decide) (fun c386 => ?_) (fun c386 => ?_)
          rotate_left
          · exact absurd c386 (by decide)
          refine lv_aload_n hx hb dX11_sum_66 rfl (lv_at hl 1 rfl) ?_
          refine lv_iload_n hx hb dX11_sum_67 rfl (lv_at hl 0 rfl) ?_
          refine lv_iconst (v := 0) hx hb dX11_sum_68 (by decide) ?_
          have zi3 : (3 : Int32).toInt = 3 := by decide
          have zi0 : (0 : Int32).toInt = 0 := by decide
          refine cga (rn_V (As := [.int 3, .int 0]) (rest := []) (b := o) (m_puts l D Y Z H.size o a (upd (upd (upd (upd I 16 u367) 17 u368) 18 u369) 20 u370) J (vf_upd (vf_upd F 5 f371) 6 f372) G  3 0 (show (0 ≤ (I 19).toInt ∧ (I 19).toInt ≤ 17) by omega) (show (0 ≤ (3 : Int32).toInt ∧ (3 : Int32).toInt ≤ 15) by omega) (show (0 ≤ (0 : Int32).toInt ∧ (0 : Int32).toInt ≤ 99999) by omega) (show (0 ≤ (f372 (I 19).toNatClampNeg).toInt ∧ (f372 (I 19).toNatClampNeg).toInt ≤ 399) by omega)) ⟨hx, hb, hml, hown, hg⟩ lk_X11_250 ⟨CP.blind, va_recv hKN.1 hP (ci := 11) (q0 := 0) rfl rfl, CP.at hP hKN hD⟩ ⟨⟨rfl, rfl⟩, ⟨Nat.le_of_ble_eq_true rfl, Nat.le_of_ble_eq_true rfl⟩, ⟨Nat.le_of_ble_eq_true rfl, Nat.le_of_ble_eq_true rfl⟩⟩ hl.1 rfl (Nat.le_of_ble_eq_true rfl) dX11_sum_69) hP hD hS hA (fun u387 H locs w388 hP hD hS => ?_)
          obtain ⟨f389, f390⟩ := u387
          have w388 : PU f371 f389 f372 f390 (I 19).toNatClampNeg (3 : Int32).toInt (0 : Int32).toInt := w388
          have hw391 := w388
          refine W.eq (g2 := F0 m 72 ls []) rfl ?_
          have hP : va_P D vwCl (MW Y o a (upd (upd (upd (upd I 16 u367) 17 u368) 18 u369) 20 u370) J (vf_upd (vf_upd F 5 f389) 6 f390) G) H := hP
          have hD : va_D A (MW Y o a (upd (upd (upd (upd I 16 u367) 17 u368) 18 u369) 20 u370) J (vf_upd (vf_upd F 5 f389) 6 f390) G) := hD
          have t392 := PG_pu (e := (((gd + 1) + 1) - 1)) (PG_to (md2 := u370.toInt.toNat) t385 rfl rfl (by omega) (by omega)) hw391 (fun x hx => stp_bin hx (by omega) (by omega) (by omega) (by omega) (by omega) (by omega) rfl) (by omega) (by omega)
          obtain ⟨t392p, t392l⟩ := t392
          refine lv_goto (tgt := 9) hx hb dX11_sum_72 (by decide) ?_
          exact ih346 (u367, u368, u369, u370, f389, f390) H locs ls (by show (400 - u367.toInt).toNat < (400 - g178.toInt).toNat; omega) ⟨hP, hD, hS, lv_sub hl [1] rfl, by omega, by omega, by omega, by omega, by omega, by omega, by omega, (PG_to t392p rfl (by omega) (by omega) (by omega))⟩
        · obtain rfl : u366 = 0 := i_is c384 (by decide)
          have zi0 : (0 : Int32).toInt = 0 := by decide
          refine W.eq (g2 := F0 m 61 ls [.int 0]) rfl ?_
          refine lv_if_ne (tgt := 66) hx hb dX11_sum_61 (by decide) (fun c393 => ?_) (fun c393 => ?_)
          · exact absurd c393 (by decide)
          refine lv_iconst (v := 0) hx hb dX11_sum_64 (by decide) ?_
          refine W.widen (k := 0) (n := 0) (Nat.le_of_ble_eq_true rfl) (Nat.le_of_ble_eq_true rfl) ?_
          exact W.zret (v := 0) hx hb hr (by decide) (fun t ht hW => ⟨⟨(0, u367, u368, u369, u370, f371, f372), rfl, ⟨(show (0 ≤ u367.toInt ∧ u367.toInt ≤ 400) by omega), (show ((I 16).toInt ≤ u367.toInt) by omega), (show (u367.toInt ≤ (I 3).toInt) by omega), (show (0 ≤ u368.toInt ∧ u368.toInt ≤ 4000) by omega), (show (0 ≤ u370.toInt ∧ u370.toInt ≤ 60) by omega), (show ((I 20).toInt ≤ u370.toInt) by omega), (show (0 ≤ (0 : Int32).toInt ∧ (0 : Int32).toInt ≤ 1) by omega), (show ((0 : Int32).toInt = 0 → 1 ≤ u368.toInt) by omega), (show ((0 : Int32).toInt = 1 → (f372 (I 19).toNatClampNeg).toInt + (I 16).toInt ≤ ((F 6) (I 19).toNatClampNeg).toInt + u367.toInt) by omega), (fun h => absurd h (by decide)), (PG_tc hw382)⟩, CB.mk ht hP hD⟩, hS.F ht⟩) hS.2.2 dX11_sum_65
      · skip
        have c362 := i_eq (Eq.refl v360.toInt) (show (43 : Int32).toInt = 43 by decide) c362
        refine lv_iconst (v := 2) hx hb dX11_sum_41 (by decide) ?_
        refine lv_goto (tgt := 46) hx hb dX11_sum_42 (by decide) ?_
        refine lv_istore_n (lv' := [(1, .int 2), (0, .ref o)]) hx hb dX11_sum_46 rfl hl (by decide) rfl (fun ls hl => ?_)
        refine lv_aload_n hx hb dX11_sum_47 rfl (lv_at hl 1 rfl) ?_
        refine lv_dup hx hb dX11_sum_48 rfl ?_
        refine va_get (D := D) (ci := 11) (v := .int u352) (C := RX11) (T := TX11) (N := 49) hx hb hg inGX11 hown hKN.1 hP 0 rfl rfl 16 (by decide) (hg _ kw_1224) (fun _ h9 => h9) rfl dX11_sum_49 ?_
        refine lv_iconst (v := 1) hx hb dX11_sum_52 (by decide) ?_
        refine lv_iadd hx hb dX11_sum_53 ?_
        refine lv_topi (fun v394 ev394 => ?_)
        have hv394 := i_add (Eq.refl u352.toInt) (show (1 : Int32).toInt = 1 by decide) ev394 (by omega) (by omega)
        refine va_put (D := D) (ci := 11) (v := .int v394) (ty := .int) (C := RX11) (T := TX11) (N := 49) hx hb hg inGX11 tyX11 tyX11_ok nmX11 hown hKN.1 hP hD hS 0 rfl rfl 16 (by decide) (hg _ kw_1224) (fun _ h9 => h9) rfl (by decide +kernel) rfl rfl (Nat.le_of_ble_eq_true rfl) dX11_sum_54 (fun H locs hP hD hS => ?_)
        have hP : va_P D vwCl (MW Y o a (upd (upd (upd (upd I 16 v394) 17 g179) 18 g180) 20 g181) J (vf_upd (vf_upd F 5 f182) 6 f183) G) H := hP
        have hD : va_D A (MW Y o a (upd (upd (upd (upd I 16 v394) 17 g179) 18 g180) 20 g181) J (vf_upd (vf_upd F 5 f182) 6 f183) G) := hD
        refine lv_aload_n hx hb dX11_sum_57 rfl (lv_at hl 1 rfl) ?_
        refine cga (rn_V (As := []) (rest := []) (b := o) (m_term l D Y Z H.size o a (upd (upd (upd (upd I 16 v394) 17 g179) 18 g180) 20 g181) J (vf_upd (vf_upd F 5 f182) 6 f183) G gs gb (gd + 1)  (show (0 ≤ v394.toInt ∧ v394.toInt ≤ 400) by omega) (show (0 ≤ (I 3).toInt ∧ (I 3).toInt ≤ 400) by omega) (show (v394.toInt ≤ (I 3).toInt) by omega) (show (0 ≤ g179.toInt ∧ g179.toInt ≤ 4000) by omega) (show (0 ≤ g181.toInt ∧ g181.toInt ≤ 60) by omega) (show (0 ≤ (I 19).toInt ∧ (I 19).toInt ≤ 17) by omega) (show ((f183 (I 19).toNatClampNeg).toInt ≤ v394.toInt) by omega) (PG_to hr345 rfl (by omega) (by omega) (by omega))) ⟨hx, hb, hml, hown, hg⟩ lk_X11_268 ⟨CP.blind, va_recv hKN.1 hP (ci := 11) (q0 := 0) rfl rfl, CP.at hP hKN hD⟩ ⟨⟨rfl, rfl⟩, ⟨Nat.le_of_ble_eq_true rfl, Nat.le_of_ble_eq_true rfl⟩, ⟨Nat.le_of_ble_eq_true rfl, Nat.le_of_ble_eq_true rfl⟩⟩ hl.1 rfl (Nat.le_of_ble_eq_true rfl) dX11_sum_58) hP hD hS hA (fun u395 H locs w396 hP hD hS => ?_)
        obtain ⟨u397, u398, u399, u400, u401, f402, f403⟩ := u395
        have w396 : (0 ≤ u398.toInt ∧ u398.toInt ≤ 400) ∧ (v394.toInt ≤ u398.toInt) ∧ (u398.toInt ≤ (I 3).toInt) ∧ (0 ≤ u399.toInt ∧ u399.toInt ≤ 4000) ∧ (0 ≤ u401.toInt ∧ u401.toInt ≤ 60) ∧ (g181.toInt ≤ u401.toInt) ∧ (0 ≤ u397.toInt ∧ u397.toInt ≤ 1) ∧ (u397.toInt = 0 → 1 ≤ u399.toInt) ∧ (u397.toInt = 1 → (f403 (I 19).toNatClampNeg).toInt + v394.toInt ≤ (f183 (I 19).toNatClampNeg).toInt + u398.toInt) ∧ (u397.toInt = 1 → PSg (F 4) (F 8) (F 7) f402 f403 gs (I 19).toNatClampNeg gb ((gd + 1) + 1) (u401.toInt).toNat) ∧ TC (F 4) (F 8) (F 7) f402 := w396
        obtain ⟨hw404, hw405, hw406, hw407, hw408, hw409, hw410, hw411, hw412, hw413, hw414⟩ := w396
        refine W.eq (g2 := F0 m 61 ls [.int u397]) rfl ?_
        have hP : va_P D vwCl (MW Y o a (upd (upd (upd (upd I 16 u398) 17 u399) 18 u400) 20 u401) J (vf_upd (vf_upd F 5 f402) 6 f403) G) H := hP
        have hD : va_D A (MW Y o a (upd (upd (upd (upd I 16 u398) 17 u399) 18 u400) 20 u401) J (vf_upd (vf_upd F 5 f402) 6 f403) G) := hD
        rcases (show u397.toInt = 1 ∨ u397.toInt = 0 by omega) with c415 | c415
        · obtain rfl : u397 = 1 := i_is c415 (by decide)
          have t416 := hw413 (by decide)
          refine W.eq (g2 := F0 m 61 ls [.int 1]) rfl ?_
          refine lv_if_ne (tgt := 66) hx hb dX11_sum_61 (by decide) (fun c417 => ?_) (fun c417 => ?_)
          rotate_left
          · exact absurd c417 (by decide)
          refine lv_aload_n hx hb dX11_sum_66 rfl (lv_at hl 1 rfl) ?_
          refine lv_iload_n hx hb dX11_sum_67 rfl (lv_at hl 0 rfl) ?_
          refine lv_iconst (v := 0) hx hb dX11_sum_68 (by decide) ?_
          have zi2 : (2 : Int32).toInt = 2 := by decide
          have zi0 : (0 : Int32).toInt = 0 := by decide
          refine cga (rn_V (As := [.int 2, .int 0]) (rest := []) (b := o) (m_puts l D Y Z H.size o a (upd (upd (upd (upd I 16 u398) 17 u399) 18 u400) 20 u401) J (vf_upd (vf_upd F 5 f402) 6 f403) G  2 0 (show (0 ≤ (I 19).toInt ∧ (I 19).toInt ≤ 17) by omega) (show (0 ≤ (2 : Int32).toInt ∧ (2 : Int32).toInt ≤ 15) by omega) (show (0 ≤ (0 : Int32).toInt ∧ (0 : Int32).toInt ≤ 99999) by omega) (show (0 ≤ (f403 (I 19).toNatClampNeg).toInt ∧ (f403 (I 19).toNatClampNeg).toInt ≤ 399) by omega)) ⟨hx, hb, hml, hown, hg⟩ lk_X11_250 ⟨CP.blind, va_recv hKN.1 hP (ci := 11) (q0 := 0) rfl rfl, CP.at hP hKN hD⟩ ⟨⟨rfl, rfl⟩, ⟨Nat.le_of_ble_eq_true rfl, Nat.le_of_ble_eq_true rfl⟩, ⟨Nat.le_of_ble_eq_true rfl, Nat.le_of_ble_eq_true rfl⟩⟩ hl.1 rfl (Nat.le_of_ble_eq_true rfl) dX11_sum_69) hP hD hS hA (fun u418 H locs w419 hP hD hS => ?_)
          obtain ⟨f420, f421⟩ := u418
          have w419 : PU f402 f420 f403 f421 (I 19).toNatClampNeg (2 : Int32).toInt (0 : Int32).toInt := w419
          have hw422 := w419
          refine W.eq (g2 := F0 m 72 ls []) rfl ?_
          have hP : va_P D vwCl (MW Y o a (upd (upd (upd (upd I 16 u398) 17 u399) 18 u400) 20 u401) J (vf_upd (vf_upd F 5 f420) 6 f421) G) H := hP
          have hD : va_D A (MW Y o a (upd (upd (upd (upd I 16 u398) 17 u399) 18 u400) 20 u401) J (vf_upd (vf_upd F 5 f420) 6 f421) G) := hD
          have t423 := PG_pu (e := (((gd + 1) + 1) - 1)) (PG_to (md2 := u401.toInt.toNat) t416 rfl rfl (by omega) (by omega)) hw422 (fun x hx => stp_bin hx (by omega) (by omega) (by omega) (by omega) (by omega) (by omega) rfl) (by omega) (by omega)
          obtain ⟨t423p, t423l⟩ := t423
          refine lv_goto (tgt := 9) hx hb dX11_sum_72 (by decide) ?_
          exact ih346 (u398, u399, u400, u401, f420, f421) H locs ls (by show (400 - u398.toInt).toNat < (400 - g178.toInt).toNat; omega) ⟨hP, hD, hS, lv_sub hl [1] rfl, by omega, by omega, by omega, by omega, by omega, by omega, by omega, (PG_to t423p rfl (by omega) (by omega) (by omega))⟩
        · obtain rfl : u397 = 0 := i_is c415 (by decide)
          have zi0 : (0 : Int32).toInt = 0 := by decide
          refine W.eq (g2 := F0 m 61 ls [.int 0]) rfl ?_
          refine lv_if_ne (tgt := 66) hx hb dX11_sum_61 (by decide) (fun c424 => ?_) (fun c424 => ?_)
          · exact absurd c424 (by decide)
          refine lv_iconst (v := 0) hx hb dX11_sum_64 (by decide) ?_
          refine W.widen (k := 0) (n := 0) (Nat.le_of_ble_eq_true rfl) (Nat.le_of_ble_eq_true rfl) ?_
          exact W.zret (v := 0) hx hb hr (by decide) (fun t ht hW => ⟨⟨(0, u398, u399, u400, u401, f402, f403), rfl, ⟨(show (0 ≤ u398.toInt ∧ u398.toInt ≤ 400) by omega), (show ((I 16).toInt ≤ u398.toInt) by omega), (show (u398.toInt ≤ (I 3).toInt) by omega), (show (0 ≤ u399.toInt ∧ u399.toInt ≤ 4000) by omega), (show (0 ≤ u401.toInt ∧ u401.toInt ≤ 60) by omega), (show ((I 20).toInt ≤ u401.toInt) by omega), (show (0 ≤ (0 : Int32).toInt ∧ (0 : Int32).toInt ≤ 1) by omega), (show ((0 : Int32).toInt = 0 → 1 ≤ u399.toInt) by omega), (show ((0 : Int32).toInt = 1 → (f403 (I 19).toNatClampNeg).toInt + (I 16).toInt ≤ ((F 6) (I 19).toNatClampNeg).toInt + u398.toInt) by omega), (fun h => absurd h (by decide)), (PG_tc hw413)⟩, CB.mk ht hP hD⟩, hS.F ht⟩) hS.2.2 dX11_sum_65
    · skip
      have c359 := i_ne (Eq.refl u351.toInt) (show (43 : Int32).toInt = 43 by decide) c359
      refine lv_aload_n hx hb dX11_sum_18 rfl (lv_at hl 0 rfl) ?_
      refine cga (rn_V (As := []) (rest := []) (b := o) (m_see l D Y Z H.size o a (upd (upd (upd (upd I 16 u352) 17 g179) 18 g180) 20 g181) J (vf_upd (vf_upd F 5 f182) 6 f183) G   (show (0 ≤ u352.toInt ∧ u352.toInt ≤ 400) by omega) (show (0 ≤ (I 3).toInt ∧ (I 3).toInt ≤ 400) by omega) (show (u352.toInt ≤ (I 3).toInt) by omega)) ⟨hx, hb, hml, hown, hg⟩ lk_X11_183 ⟨CP.blind, va_recv hKN.1 hP (ci := 11) (q0 := 0) rfl rfl, CP.at hP hKN hD⟩ ⟨⟨rfl, rfl⟩, ⟨Nat.le_of_ble_eq_true rfl, Nat.le_of_ble_eq_true rfl⟩, ⟨Nat.le_of_ble_eq_true rfl, Nat.le_of_ble_eq_true rfl⟩⟩ hl.1 rfl (Nat.le_of_ble_eq_true rfl) dX11_sum_19) hP hD hS hA (fun u425 H locs w426 hP hD hS => ?_)
      obtain ⟨u427, u428⟩ := u425
      have w426 : (0 ≤ u428.toInt ∧ u428.toInt ≤ 400) ∧ (u352.toInt ≤ u428.toInt) ∧ (u428.toInt ≤ (I 3).toInt) ∧ ((u427.toInt = -1 ∧ u428.toInt = (I 3).toInt) ∨ (0 ≤ u427.toInt ∧ u427.toInt ≤ 255 ∧ u428.toInt < (I 3).toInt ∧ ((F 2) u428.toNatClampNeg).toInt ≠ 32)) ∧ (-1 ≤ u427.toInt ∧ u427.toInt ≤ 255) ∧ ((u352.toInt < (I 3).toInt ∧ ((F 2) u352.toNatClampNeg).toInt ≠ 32) → u428.toInt = u352.toInt) := w426
      obtain ⟨hw429, hw430, hw431, hw432, hw433, hw434⟩ := w426
      refine W.eq (g2 := F0 m 22 ls [.int u427]) rfl ?_
      have hP : va_P D vwCl (MW Y o a (upd (upd (upd (upd I 16 u428) 17 g179) 18 g180) 20 g181) J (vf_upd (vf_upd F 5 f182) 6 f183) G) H := hP
      have hD : va_D A (MW Y o a (upd (upd (upd (upd I 16 u428) 17 g179) 18 g180) 20 g181) J (vf_upd (vf_upd F 5 f182) 6 f183) G) := hD
      refine lv_bipush (v := 45) hx hb dX11_sum_22 (by decide) ?_
      refine lv_icmp_ne (tgt := 75) hx hb dX11_sum_24 (by decide) (fun c435 => ?_) (fun c435 => ?_)
      · skip
        have c435 := i_ne (Eq.refl u427.toInt) (show (45 : Int32).toInt = 45 by decide) c435
        refine lv_iconst (v := 1) hx hb dX11_sum_75 (by decide) ?_
        refine W.widen (k := 0) (n := 0) (Nat.le_of_ble_eq_true rfl) (Nat.le_of_ble_eq_true rfl) ?_
        exact W.zret (v := 1) hx hb hr (by decide) (fun t ht hW => ⟨⟨(1, u428, g179, g180, g181, f182, f183), rfl, ⟨(show (0 ≤ u428.toInt ∧ u428.toInt ≤ 400) by omega), (show ((I 16).toInt ≤ u428.toInt) by omega), (show (u428.toInt ≤ (I 3).toInt) by omega), (show (0 ≤ g179.toInt ∧ g179.toInt ≤ 4000) by omega), (show (0 ≤ g181.toInt ∧ g181.toInt ≤ 60) by omega), (show ((I 20).toInt ≤ g181.toInt) by omega), (show (0 ≤ (1 : Int32).toInt ∧ (1 : Int32).toInt ≤ 1) by omega), (show ((1 : Int32).toInt = 0 → 1 ≤ g179.toInt) by omega), (show ((1 : Int32).toInt = 1 → (f183 (I 19).toNatClampNeg).toInt + (I 16).toInt ≤ ((F 6) (I 19).toNatClampNeg).toInt + u428.toInt) by omega), (fun _ => (PG_to hr345 rfl (by omega) (by omega) (by omega))), (PG_tc hr345)⟩, CB.mk ht hP hD⟩, hS.F ht⟩) hS.2.2 dX11_sum_76
      · skip
        have c435 := i_eq (Eq.refl u427.toInt) (show (45 : Int32).toInt = 45 by decide) c435
        refine lv_aload_n hx hb dX11_sum_27 rfl (lv_at hl 0 rfl) ?_
        refine va_get (D := D) (ci := 11) (v := .ref (a 2)) (C := RX11) (T := TX11) (N := 49) hx hb hg inGX11 hown hKN.1 hP 0 rfl rfl 2 (by decide) (hg _ kw_1210) (fun _ h9 => h9) rfl dX11_sum_28 ?_
        refine lv_aload_n hx hb dX11_sum_31 rfl (lv_at hl 0 rfl) ?_
        refine va_get (D := D) (ci := 11) (v := .int u428) (C := RX11) (T := TX11) (N := 49) hx hb hg inGX11 hown hKN.1 hP 0 rfl rfl 16 (by decide) (hg _ kw_1224) (fun _ h9 => h9) rfl dX11_sum_32 ?_
        refine va_bald hx hb hKN.1 hP 3 2 rfl rfl (vp_in_iff.mpr ⟨by omega, by omega⟩) dX11_sum_35 ?_
        refine lv_topi (fun v436 ev436 => ?_)
        have ev436 : v436 = (F 2) u428.toNatClampNeg := ev436
        have qv436 := congrArg Int32.toInt ev436
        refine lv_bipush (v := 43) hx hb dX11_sum_36 (by decide) ?_
        have j437 := rgI v436
        refine lv_icmp_ne (tgt := 45) hx hb dX11_sum_38 (by decide) (fun c438 => ?_) (fun c438 => ?_)
        · skip
          have c438 := i_ne (Eq.refl v436.toInt) (show (43 : Int32).toInt = 43 by decide) c438
          refine lv_iconst (v := 3) hx hb dX11_sum_45 (by decide) ?_
          refine lv_istore_n (lv' := [(1, .int 3), (0, .ref o)]) hx hb dX11_sum_46 rfl hl (by decide) rfl (fun ls hl => ?_)
          refine lv_aload_n hx hb dX11_sum_47 rfl (lv_at hl 1 rfl) ?_
          refine lv_dup hx hb dX11_sum_48 rfl ?_
          refine va_get (D := D) (ci := 11) (v := .int u428) (C := RX11) (T := TX11) (N := 49) hx hb hg inGX11 hown hKN.1 hP 0 rfl rfl 16 (by decide) (hg _ kw_1224) (fun _ h9 => h9) rfl dX11_sum_49 ?_
          refine lv_iconst (v := 1) hx hb dX11_sum_52 (by decide) ?_
          refine lv_iadd hx hb dX11_sum_53 ?_
          refine lv_topi (fun v439 ev439 => ?_)
          have hv439 := i_add (Eq.refl u428.toInt) (show (1 : Int32).toInt = 1 by decide) ev439 (by omega) (by omega)
          refine va_put (D := D) (ci := 11) (v := .int v439) (ty := .int) (C := RX11) (T := TX11) (N := 49) hx hb hg inGX11 tyX11 tyX11_ok nmX11 hown hKN.1 hP hD hS 0 rfl rfl 16 (by decide) (hg _ kw_1224) (fun _ h9 => h9) rfl (by decide +kernel) rfl rfl (Nat.le_of_ble_eq_true rfl) dX11_sum_54 (fun H locs hP hD hS => ?_)
          have hP : va_P D vwCl (MW Y o a (upd (upd (upd (upd I 16 v439) 17 g179) 18 g180) 20 g181) J (vf_upd (vf_upd F 5 f182) 6 f183) G) H := hP
          have hD : va_D A (MW Y o a (upd (upd (upd (upd I 16 v439) 17 g179) 18 g180) 20 g181) J (vf_upd (vf_upd F 5 f182) 6 f183) G) := hD
          refine lv_aload_n hx hb dX11_sum_57 rfl (lv_at hl 1 rfl) ?_
          refine cga (rn_V (As := []) (rest := []) (b := o) (m_term l D Y Z H.size o a (upd (upd (upd (upd I 16 v439) 17 g179) 18 g180) 20 g181) J (vf_upd (vf_upd F 5 f182) 6 f183) G gs gb (gd + 1)  (show (0 ≤ v439.toInt ∧ v439.toInt ≤ 400) by omega) (show (0 ≤ (I 3).toInt ∧ (I 3).toInt ≤ 400) by omega) (show (v439.toInt ≤ (I 3).toInt) by omega) (show (0 ≤ g179.toInt ∧ g179.toInt ≤ 4000) by omega) (show (0 ≤ g181.toInt ∧ g181.toInt ≤ 60) by omega) (show (0 ≤ (I 19).toInt ∧ (I 19).toInt ≤ 17) by omega) (show ((f183 (I 19).toNatClampNeg).toInt ≤ v439.toInt) by omega) (PG_to hr345 rfl (by omega) (by omega) (by omega))) ⟨hx, hb, hml, hown, hg⟩ lk_X11_268 ⟨CP.blind, va_recv hKN.1 hP (ci := 11) (q0 := 0) rfl rfl, CP.at hP hKN hD⟩ ⟨⟨rfl, rfl⟩, ⟨Nat.le_of_ble_eq_true rfl, Nat.le_of_ble_eq_true rfl⟩, ⟨Nat.le_of_ble_eq_true rfl, Nat.le_of_ble_eq_true rfl⟩⟩ hl.1 rfl (Nat.le_of_ble_eq_true rfl) dX11_sum_58) hP hD hS hA (fun u440 H locs w441 hP hD hS => ?_)
          obtain ⟨u442, u443, u444, u445, u446, f447, f448⟩ := u440
          have w441 : (0 ≤ u443.toInt ∧ u443.toInt ≤ 400) ∧ (v439.toInt ≤ u443.toInt) ∧ (u443.toInt ≤ (I 3).toInt) ∧ (0 ≤ u444.toInt ∧ u444.toInt ≤ 4000) ∧ (0 ≤ u446.toInt ∧ u446.toInt ≤ 60) ∧ (g181.toInt ≤ u446.toInt) ∧ (0 ≤ u442.toInt ∧ u442.toInt ≤ 1) ∧ (u442.toInt = 0 → 1 ≤ u444.toInt) ∧ (u442.toInt = 1 → (f448 (I 19).toNatClampNeg).toInt + v439.toInt ≤ (f183 (I 19).toNatClampNeg).toInt + u443.toInt) ∧ (u442.toInt = 1 → PSg (F 4) (F 8) (F 7) f447 f448 gs (I 19).toNatClampNeg gb ((gd + 1) + 1) (u446.toInt).toNat) ∧ TC (F 4) (F 8) (F 7) f447 := w441
          obtain ⟨hw449, hw450, hw451, hw452, hw453, hw454, hw455, hw456, hw457, hw458, hw459⟩ := w441
          refine W.eq (g2 := F0 m 61 ls [.int u442]) rfl ?_
          have hP : va_P D vwCl (MW Y o a (upd (upd (upd (upd I 16 u443) 17 u444) 18 u445) 20 u446) J (vf_upd (vf_upd F 5 f447) 6 f448) G) H := hP
          have hD : va_D A (MW Y o a (upd (upd (upd (upd I 16 u443) 17 u444) 18 u445) 20 u446) J (vf_upd (vf_upd F 5 f447) 6 f448) G) := hD
          rcases (show u442.toInt = 1 ∨ u442.toInt = 0 by omega) with c460 | c460
          · obtain rfl : u442 = 1 := i_is c460 (by decide)
            have t461 := hw458 (by decide)
            refine W.eq (g2 := F0 m 61 ls [.int 1]) rfl ?_
            refine lv_if_ne (tgt := 66) hx hb dX11_sum_61 (by decide) (fun c462 => ?_) (fun c462 => ?_)
            rotate_left
            · exact absurd c462 (by decide)
            refine lv_aload_n hx hb dX11_sum_66 rfl (lv_at hl 1 rfl) ?_
            refine lv_iload_n hx hb dX11_sum_67 rfl (lv_at hl 0 rfl) ?_
            refine lv_iconst (v := 0) hx hb dX11_sum_68 (by decide) ?_
            have zi3 : (3 : Int32).toInt = 3 := by decide
            have zi0 : (0 : Int32).toInt = 0 := by decide
            refine cga (rn_V (As := [.int 3, .int 0]) (rest := []) (b := o) (m_puts l D Y Z H.size o a (upd (upd (upd (upd I 16 u443) 17 u444) 18 u445) 20 u446) J (vf_upd (vf_upd F 5 f447) 6 f448) G  3 0 (show (0 ≤ (I 19).toInt ∧ (I 19).toInt ≤ 17) by omega) (show (0 ≤ (3 : Int32).toInt ∧ (3 : Int32).toInt ≤ 15) by omega) (show (0 ≤ (0 : Int32).toInt ∧ (0 : Int32).toInt ≤ 99999) by omega) (show (0 ≤ (f448 (I 19).toNatClampNeg).toInt ∧ (f448 (I 19).toNatClampNeg).toInt ≤ 399) by omega)) ⟨hx, hb, hml, hown, hg⟩ lk_X11_250 ⟨CP.blind, va_recv hKN.1 hP (ci := 11) (q0 := 0) rfl rfl, CP.at hP hKN hD⟩ ⟨⟨rfl, rfl⟩, ⟨Nat.le_of_ble_eq_true rfl, Nat.le_of_ble_eq_true rfl⟩, ⟨Nat.le_of_ble_eq_true rfl, Nat.le_of_ble_eq_true rfl⟩⟩ hl.1 rfl (Nat.le_of_ble_eq_true rfl) dX11_sum_69) hP hD hS hA (fun u463 H locs w464 hP hD hS => ?_)
            obtain ⟨f465, f466⟩ := u463
            have w464 : PU f447 f465 f448 f466 (I 19).toNatClampNeg (3 : Int32).toInt (0 : Int32).toInt := w464
            have hw467 := w464
            refine W.eq (g2 := F0 m 72 ls []) rfl ?_
            have hP : va_P D vwCl (MW Y o a (upd (upd (upd (upd I 16 u443) 17 u444) 18 u445) 20 u446) J (vf_upd (vf_upd F 5 f465) 6 f466) G) H := hP
            have hD : va_D A (MW Y o a (upd (upd (upd (upd I 16 u443) 17 u444) 18 u445) 20 u446) J (vf_upd (vf_upd F 5 f465) 6 f466) G) := hD
            have t468 := PG_pu (e := (((gd + 1) + 1) - 1)) (PG_to (md2 := u446.toInt.toNat) t461 rfl rfl (by omega) (by omega)) hw467 (fun x hx => stp_bin hx (by omega) (by omega) (by omega) (by omega) (by omega) (by omega) rfl) (by omega) (by omega)
            obtain ⟨t468p, t468l⟩ := t468
            refine lv_goto (tgt := 9) hx hb dX11_sum_72 (by decide) ?_
            exact ih346 (u443, u444, u445, u446, f465, f466) H locs ls (by show (400 - u443.toInt).toNat < (400 - g178.toInt).toNat; omega) ⟨hP, hD, hS, lv_sub hl [1] rfl, by omega, by omega, by omega, by omega, by omega, by omega, by omega, (PG_to t468p rfl (by omega) (by omega) (by omega))⟩
          · obtain rfl : u442 = 0 := i_is c460 (by decide)
            have zi0 : (0 : Int32).toInt = 0 := by decide
            refine W.eq (g2 := F0 m 61 ls [.int 0]) rfl ?_
            refine lv_if_ne (tgt := 66) hx hb dX11_sum_61 (by decide) (fun c469 => ?_) (fun c469 => ?_)
            · exact absurd c469 (by decide)
            refine lv_iconst (v := 0) hx hb dX11_sum_64 (by decide) ?_
            refine W.widen (k := 0) (n := 0) (Nat.le_of_ble_eq_true rfl) (Nat.le_of_ble_eq_true rfl) ?_
            exact W.zret (v := 0) hx hb hr (by decide) (fun t ht hW => ⟨⟨(0, u443, u444, u445, u446, f447, f448), rfl, ⟨(show (0 ≤ u443.toInt ∧ u443.toInt ≤ 400) by omega), (show ((I 16).toInt ≤ u443.toInt) by omega), (show (u443.toInt ≤ (I 3).toInt) by omega), (show (0 ≤ u444.toInt ∧ u444.toInt ≤ 4000) by omega), (show (0 ≤ u446.toInt ∧ u446.toInt ≤ 60) by omega), (show ((I 20).toInt ≤ u446.toInt) by omega), (show (0 ≤ (0 : Int32).toInt ∧ (0 : Int32).toInt ≤ 1) by omega), (show ((0 : Int32).toInt = 0 → 1 ≤ u444.toInt) by omega), (show ((0 : Int32).toInt = 1 → (f448 (I 19).toNatClampNeg).toInt + (I 16).toInt ≤ ((F 6) (I 19).toNatClampNeg).toInt + u443.toInt) by omega), (fun h => absurd h (by decide)), (PG_tc hw458)⟩, CB.mk ht hP hD⟩, hS.F ht⟩) hS.2.2 dX11_sum_65
        · skip
          have c438 := i_eq (Eq.refl v436.toInt) (show (43 : Int32).toInt = 43 by decide) c438
          refine lv_iconst (v := 2) hx hb dX11_sum_41 (by decide) ?_
          refine lv_goto (tgt := 46) hx hb dX11_sum_42 (by decide) ?_
          refine lv_istore_n (lv' := [(1, .int 2), (0, .ref o)]) hx hb dX11_sum_46 rfl hl (by decide) rfl (fun ls hl => ?_)
          refine lv_aload_n hx hb dX11_sum_47 rfl (lv_at hl 1 rfl) ?_
          refine lv_dup hx hb dX11_sum_48 rfl ?_
          refine va_get (D := D) (ci := 11) (v := .int u428) (C := RX11) (T := TX11) (N := 49) hx hb hg inGX11 hown hKN.1 hP 0 rfl rfl 16 (by decide) (hg _ kw_1224) (fun _ h9 => h9) rfl dX11_sum_49 ?_
          refine lv_iconst (v := 1) hx hb dX11_sum_52 (by decide) ?_
          refine lv_iadd hx hb dX11_sum_53 ?_
          refine lv_topi (fun v470 ev470 => ?_)
          have hv470 := i_add (Eq.refl u428.toInt) (show (1 : Int32).toInt = 1 by decide) ev470 (by omega) (by omega)
          refine va_put (D := D) (ci := 11) (v := .int v470) (ty := .int) (C := RX11) (T := TX11) (N := 49) hx hb hg inGX11 tyX11 tyX11_ok nmX11 hown hKN.1 hP hD hS 0 rfl rfl 16 (by decide) (hg _ kw_1224) (fun _ h9 => h9) rfl (by decide +kernel) rfl rfl (Nat.le_of_ble_eq_true rfl) dX11_sum_54 (fun H locs hP hD hS => ?_)
          have hP : va_P D vwCl (MW Y o a (upd (upd (upd (upd I 16 v470) 17 g179) 18 g180) 20 g181) J (vf_upd (vf_upd F 5 f182) 6 f183) G) H := hP
          have hD : va_D A (MW Y o a (upd (upd (upd (upd I 16 v470) 17 g179) 18 g180) 20 g181) J (vf_upd (vf_upd F 5 f182) 6 f183) G) := hD
          refine lv_aload_n hx hb dX11_sum_57 rfl (lv_at hl 1 rfl) ?_
          refine cga (rn_V (As := []) (rest := []) (b := o) (m_term l D Y Z H.size o a (upd (upd (upd (upd I 16 v470) 17 g179) 18 g180) 20 g181) J (vf_upd (vf_upd F 5 f182) 6 f183) G gs gb (gd + 1)  (show (0 ≤ v470.toInt ∧ v470.toInt ≤ 400) by omega) (show (0 ≤ (I 3).toInt ∧ (I 3).toInt ≤ 400) by omega) (show (v470.toInt ≤ (I 3).toInt) by omega) (show (0 ≤ g179.toInt ∧ g179.toInt ≤ 4000) by omega) (show (0 ≤ g181.toInt ∧ g181.toInt ≤ 60) by omega) (show (0 ≤ (I 19).toInt ∧ (I 19).toInt ≤ 17) by omega) (show ((f183 (I 19).toNatClampNeg).toInt ≤ v470.toInt) by omega) (PG_to hr345 rfl (by omega) (by omega) (by omega))) ⟨hx, hb, hml, hown, hg⟩ lk_X11_268 ⟨CP.blind, va_recv hKN.1 hP (ci := 11) (q0 := 0) rfl rfl, CP.at hP hKN hD⟩ ⟨⟨rfl, rfl⟩, ⟨Nat.le_of_ble_eq_true rfl, Nat.le_of_ble_eq_true rfl⟩, ⟨Nat.le_of_ble_eq_true rfl, Nat.le_of_ble_eq_true rfl⟩⟩ hl.1 rfl (Nat.le_of_ble_eq_true rfl) dX11_sum_58) hP hD hS hA (fun u471 H locs w472 hP hD hS => ?_)
          obtain ⟨u473, u474, u475, u476, u477, f478, f479⟩ := u471
          have w472 : (0 ≤ u474.toInt ∧ u474.toInt ≤ 400) ∧ (v470.toInt ≤ u474.toInt) ∧ (u474.toInt ≤ (I 3).toInt) ∧ (0 ≤ u475.toInt ∧ u475.toInt ≤ 4000) ∧ (0 ≤ u477.toInt ∧ u477.toInt ≤ 60) ∧ (g181.toInt ≤ u477.toInt) ∧ (0 ≤ u473.toInt ∧ u473.toInt ≤ 1) ∧ (u473.toInt = 0 → 1 ≤ u475.toInt) ∧ (u473.toInt = 1 → (f479 (I 19).toNatClampNeg).toInt + v470.toInt ≤ (f183 (I 19).toNatClampNeg).toInt + u474.toInt) ∧ (u473.toInt = 1 → PSg (F 4) (F 8) (F 7) f478 f479 gs (I 19).toNatClampNeg gb ((gd + 1) + 1) (u477.toInt).toNat) ∧ TC (F 4) (F 8) (F 7) f478 := w472
          obtain ⟨hw480, hw481, hw482, hw483, hw484, hw485, hw486, hw487, hw488, hw489, hw490⟩ := w472
          refine W.eq (g2 := F0 m 61 ls [.int u473]) rfl ?_
          have hP : va_P D vwCl (MW Y o a (upd (upd (upd (upd I 16 u474) 17 u475) 18 u476) 20 u477) J (vf_upd (vf_upd F 5 f478) 6 f479) G) H := hP
          have hD : va_D A (MW Y o a (upd (upd (upd (upd I 16 u474) 17 u475) 18 u476) 20 u477) J (vf_upd (vf_upd F 5 f478) 6 f479) G) := hD
          rcases (show u473.toInt = 1 ∨ u473.toInt = 0 by omega) with c491 | c491
          · obtain rfl : u473 = 1 := i_is c491 (by decide)
            have t492 := hw489 (by decide)
            refine W.eq (g2 := F0 m 61 ls [.int 1]) rfl ?_
            refine lv_if_ne (tgt := 66) hx hb dX11_sum_61 (by decide) (fun c493 => ?_) (fun c493 => ?_)
            rotate_left
            · exact absurd c493 (by decide)
            refine lv_aload_n hx hb dX11_sum_66 rfl (lv_at hl 1 rfl) ?_
            refine lv_iload_n hx hb dX11_sum_67 rfl (lv_at hl 0 rfl) ?_
            refine lv_iconst (v := 0) hx hb dX11_sum_68 (by decide) ?_
            have zi2 : (2 : Int32).toInt = 2 := by decide
            have zi0 : (0 : Int32).toInt = 0 := by decide
            refine cga (rn_V (As := [.int 2, .int 0]) (rest := []) (b := o) (m_puts l D Y Z H.size o a (upd (upd (upd (upd I 16 u474) 17 u475) 18 u476) 20 u477) J (vf_upd (vf_upd F 5 f478) 6 f479) G  2 0 (show (0 ≤ (I 19).toInt ∧ (I 19).toInt ≤ 17) by omega) (show (0 ≤ (2 : Int32).toInt ∧ (2 : Int32).toInt ≤ 15) by omega) (show (0 ≤ (0 : Int32).toInt ∧ (0 : Int32).toInt ≤ 99999) by omega) (show (0 ≤ (f479 (I 19).toNatClampNeg).toInt ∧ (f479 (I 19).toNatClampNeg).toInt ≤ 399) by omega)) ⟨hx, hb, hml, hown, hg⟩ lk_X11_250 ⟨CP.blind, va_recv hKN.1 hP (ci := 11) (q0 := 0) rfl rfl, CP.at hP hKN hD⟩ ⟨⟨rfl, rfl⟩, ⟨Nat.le_of_ble_eq_true rfl, Nat.le_of_ble_eq_true rfl⟩, ⟨Nat.le_of_ble_eq_true rfl, Nat.le_of_ble_eq_true rfl⟩⟩ hl.1 rfl (Nat.le_of_ble_eq_true rfl) dX11_sum_69) hP hD hS hA (fun u494 H locs w495 hP hD hS => ?_)
            obtain ⟨f496, f497⟩ := u494
            have w495 : PU f478 f496 f479 f497 (I 19).toNatClampNeg (2 : Int32).toInt (0 : Int32).toInt := w495
            have hw498 := w495
            refine W.eq (g2 := F0 m 72 ls []) rfl ?_
            have hP : va_P D vwCl (MW Y o a (upd (upd (upd (upd I 16 u474) 17 u475) 18 u476) 20 u477) J (vf_upd (vf_upd F 5 f496) 6 f497) G) H := hP
            have hD : va_D A (MW Y o a (upd (upd (upd (upd I 16 u474) 17 u475) 18 u476) 20 u477) J (vf_upd (vf_upd F 5 f496) 6 f497) G) := hD
            have t499 := PG_pu (e := (((gd + 1) + 1) - 1)) (PG_to (md2 := u477.toInt.toNat) t492 rfl rfl (by omega) (by omega)) hw498 (fun x hx => stp_bin hx (by omega) (by omega) (by omega) (by omega) (by omega) (by omega) rfl) (by omega) (by omega)
            obtain ⟨t499p, t499l⟩ := t499
            refine lv_goto (tgt := 9) hx hb dX11_sum_72 (by decide) ?_
            exact ih346 (u474, u475, u476, u477, f496, f497) H locs ls (by show (400 - u474.toInt).toNat < (400 - g178.toInt).toNat; omega) ⟨hP, hD, hS, lv_sub hl [1] rfl, by omega, by omega, by omega, by omega, by omega, by omega, by omega, (PG_to t499p rfl (by omega) (by omega) (by omega))⟩
          · obtain rfl : u473 = 0 := i_is c491 (by decide)
            have zi0 : (0 : Int32).toInt = 0 := by decide
            refine W.eq (g2 := F0 m 61 ls [.int 0]) rfl ?_
            refine lv_if_ne (tgt := 66) hx hb dX11_sum_61 (by decide) (fun c500 => ?_) (fun c500 => ?_)
            · exact absurd c500 (by decide)
            refine lv_iconst (v := 0) hx hb dX11_sum_64 (by decide) ?_
            refine W.widen (k := 0) (n := 0) (Nat.le_of_ble_eq_true rfl) (Nat.le_of_ble_eq_true rfl) ?_
            exact W.zret (v := 0) hx hb hr (by decide) (fun t ht hW => ⟨⟨(0, u474, u475, u476, u477, f478, f479), rfl, ⟨(show (0 ≤ u474.toInt ∧ u474.toInt ≤ 400) by omega), (show ((I 16).toInt ≤ u474.toInt) by omega), (show (u474.toInt ≤ (I 3).toInt) by omega), (show (0 ≤ u475.toInt ∧ u475.toInt ≤ 4000) by omega), (show (0 ≤ u477.toInt ∧ u477.toInt ≤ 60) by omega), (show ((I 20).toInt ≤ u477.toInt) by omega), (show (0 ≤ (0 : Int32).toInt ∧ (0 : Int32).toInt ≤ 1) by omega), (show ((0 : Int32).toInt = 0 → 1 ≤ u475.toInt) by omega), (show ((0 : Int32).toInt = 1 → (f479 (I 19).toNatClampNeg).toInt + (I 16).toInt ≤ ((F 6) (I 19).toNatClampNeg).toInt + u474.toInt) by omega), (fun h => absurd h (by decide)), (PG_tc hw489)⟩, CB.mk ht hP hD⟩, hS.F ht⟩) hS.2.2 dX11_sum_65
  · obtain rfl : u3 = 0 := i_is c21 (by decide)
    have zi0 : (0 : Int32).toInt = 0 := by decide
    refine W.eq (g2 := F0 m 4 ls [.int 0]) rfl ?_
    refine lv_if_ne (tgt := 9) hx hb dX11_sum_4 (by decide) (fun c501 => ?_) (fun c501 => ?_)
    · exact absurd c501 (by decide)
    refine lv_iconst (v := 0) hx hb dX11_sum_7 (by decide) ?_
    refine W.widen (k := 0) (n := 0) (Nat.le_of_ble_eq_true rfl) (Nat.le_of_ble_eq_true rfl) ?_
    exact W.zret (v := 0) hx hb hr (by decide) (fun t ht hW => ⟨⟨(0, u4, u5, u6, u7, f8, f9), rfl, ⟨(show (0 ≤ u4.toInt ∧ u4.toInt ≤ 400) by omega), (show ((I 16).toInt ≤ u4.toInt) by omega), (show (u4.toInt ≤ (I 3).toInt) by omega), (show (0 ≤ u5.toInt ∧ u5.toInt ≤ 4000) by omega), (show (0 ≤ u7.toInt ∧ u7.toInt ≤ 60) by omega), (show ((I 20).toInt ≤ u7.toInt) by omega), (show (0 ≤ (0 : Int32).toInt ∧ (0 : Int32).toInt ≤ 1) by omega), (show ((0 : Int32).toInt = 0 → 1 ≤ u5.toInt) by omega), (show ((0 : Int32).toInt = 1 → (f9 (I 19).toNatClampNeg).toInt + (I 16).toInt ≤ ((F 6) (I 19).toNatClampNeg).toInt + u4.toInt) by omega), (fun h => absurd h (by decide)), (PG_tc hw19)⟩, CB.mk ht hP hD⟩, hS.F ht⟩) hS.2.2 dX11_sum_8
