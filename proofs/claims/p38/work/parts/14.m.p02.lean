set_option maxHeartbeats 4000000 in
set_option maxRecDepth 100000 in
theorem m_sum (l : Launch) (D : va_G) (Y : Nat → ClassId) (Z : Nat → Nat) (sz : Nat) (o : Nat) (a : Nat → Nat) (I : Nat → Int32) (J : Nat → Int64) (F : Nat → Nat → Int32) (G : Nat → Nat → Int64) (gs : Nat → Int32) (gb : Nat) (gd : Nat) (hk_0 : (0 ≤ (I 16).toInt ∧ (I 16).toInt ≤ 400)) (hk_1 : (0 ≤ (I 3).toInt ∧ (I 3).toInt ≤ 400)) (hk_2 : ((I 16).toInt ≤ (I 3).toInt)) (hk_3 : (0 ≤ (I 17).toInt ∧ (I 17).toInt ≤ 4000)) (hk_4 : (0 ≤ (I 20).toInt ∧ (I 20).toInt ≤ 60)) (hk_5 : (0 ≤ (I 19).toInt ∧ (I 19).toInt ≤ 17)) (hk_6 : (((F 6) (I 19).toNatClampNeg).toInt ≤ (I 16).toInt)) (hr_PS : PSg (F 4) (F 8) (F 7) (F 5) (F 6) gs (I 19).toNatClampNeg gb (gd) ((I 20).toInt).toNat) : Met l yX11_sum (.code yX11_sum cX11_sum 2 (some .boolean) :: GW) ({ frames := 5, cells := 0, slots := 0, locals := 109 }) (va_Pc [.ref o] (CP D Y Z (MW Y o a I J F G) sz)) (QG (S := Int32 × Int32 × Int32 × Int32 × Int32 × (Nat → Int32) × (Nat → Int32)) (fun u => some (.int u.1)) (fun u => (0 ≤ u.2.1.toInt ∧ u.2.1.toInt ≤ 400) ∧ ((I 16).toInt ≤ u.2.1.toInt) ∧ (u.2.1.toInt ≤ (I 3).toInt) ∧ (0 ≤ u.2.2.1.toInt ∧ u.2.2.1.toInt ≤ 4000) ∧ (0 ≤ u.2.2.2.2.1.toInt ∧ u.2.2.2.2.1.toInt ≤ 60) ∧ ((I 20).toInt ≤ u.2.2.2.2.1.toInt) ∧ (0 ≤ u.1.toInt ∧ u.1.toInt ≤ 1) ∧ (u.1.toInt = 0 → 1 ≤ u.2.2.1.toInt) ∧ (u.1.toInt = 1 → (u.2.2.2.2.2.2 (I 19).toNatClampNeg).toInt + (I 16).toInt ≤ ((F 6) (I 19).toNatClampNeg).toInt + u.2.1.toInt) ∧ (u.1.toInt = 1 → PSg (F 4) (F 8) (F 7) u.2.2.2.2.2.1 u.2.2.2.2.2.2 gs (I 19).toNatClampNeg gb (gd + 1) (u.2.2.2.2.1.toInt).toNat) ∧ TC (F 4) (F 8) (F 7) u.2.2.2.2.2.1) (fun u => CB D (MW Y o a (upd (upd (upd (upd I 16 u.2.1) 17 u.2.2.1) 18 u.2.2.2.1) 20 u.2.2.2.2.1) J (vf_upd (vf_upd F 5 u.2.2.2.2.2.1) 6 u.2.2.2.2.2.2) G) (va_A (MW Y o a I J F G) sz)) (va_A (MW Y o a I J F G) sz)) 0 0 (va_A (MW Y o a I J F G) sz) := by
  refine Met.ofW (cc := cX11_sum) (maxL := 2) (ret := (some .boolean)) (by decide) rfl ?_
  intro p e s m args below meth c s₁ B hml hv
  obtain ⟨rfl, hsz, hP, hKN, hD0⟩ := hv
  have hx := B.exec
  have hb := B.bytes
  have hr := B.returns
  have hts := atoms_spec (ws := .code yX11_sum cX11_sum 2 (some .boolean) :: GW) B.pre
  have hg : ∀ w ∈ GW, w.before _ s = true := fun w h => hts w (List.mem_cons_of_mem _ h)
  have hown : s.vm.findClass RX11 = some m.cls := findClass_of_methodNamed B.named
  have hlocks := B.notSynchronized
  subst hsz
  have hD := hD0.self (sz := s.heap.size)
  generalize hAe : va_A (MW Y o a I J F G) s.heap.size = A at hD ⊢
  have hA : ∀ q : Nat, s.heap.size ≤ q → A q := fun q h => by rw [← hAe]; exact Or.inr h
  clear hAe hD0 hts B
  have hl := lv_entry ([.ref o]) (n := 2) (Nat.le_of_ble_eq_true rfl)
  rw [lg_entry_eq]
  generalize (lg_sl ([.ref o]) ++ List.replicate (2 - (lg_sl ([.ref o])).length) Slot.unset).toArray = ls at hl ⊢
  have hl : lv_has ls 2 [(0, .ref o)] := hl
  refine w_start (A0 := A) hP (fun H locs hP hS => ?_)
  have hd0 := PG_dep hr_PS
  have hl0 := PG_len hr_PS
  refine lv_aload_n hx hb dX11_sum_0 rfl (lv_at hl 0 rfl) ?_
  refine cga (rn_V (As := []) (rest := []) (b := o) (m_term l D Y Z H.size o a I J F G gs gb gd  (show (0 ≤ (I 16).toInt ∧ (I 16).toInt ≤ 400) by omega) (show (0 ≤ (I 3).toInt ∧ (I 3).toInt ≤ 400) by omega) (show ((I 16).toInt ≤ (I 3).toInt) by omega) (show (0 ≤ (I 17).toInt ∧ (I 17).toInt ≤ 4000) by omega) (show (0 ≤ (I 20).toInt ∧ (I 20).toInt ≤ 60) by omega) (show (0 ≤ (I 19).toInt ∧ (I 19).toInt ≤ 17) by omega) (show (((F 6) (I 19).toNatClampNeg).toInt ≤ (I 16).toInt) by omega) (show PSg (F 4) (F 8) (F 7) (F 5) (F 6) gs (I 19).toNatClampNeg gb (gd) ((I 20).toInt).toNat from (PG_to hr_PS rfl (by omega) (by omega) (by omega)))) ⟨hx, hb, hml, hown, hg⟩ lk_X11_268 ⟨CP.blind, va_recv hKN.1 hP (ci := 11) (q0 := 0) rfl rfl, CP.at hP hKN hD⟩ ⟨⟨rfl, rfl⟩, ⟨Nat.le_of_ble_eq_true rfl, Nat.le_of_ble_eq_true rfl⟩, ⟨Nat.le_of_ble_eq_true rfl, Nat.le_of_ble_eq_true rfl⟩⟩ hl.1 rfl (Nat.le_of_ble_eq_true rfl) dX11_sum_1) hP hD hS hA (fun u1 H locs w2 hP hD hS => ?_)
  obtain ⟨u3, u4, u5, u6, u7, f8, f9⟩ := u1
  obtain ⟨hw10, hw11, hw12, hw13, hw14, hw15, hw16, hw17, hw18, hw19, hw20⟩ : (0 ≤ u4.toInt ∧ u4.toInt ≤ 400) ∧ ((I 16).toInt ≤ u4.toInt) ∧ (u4.toInt ≤ (I 3).toInt) ∧ (0 ≤ u5.toInt ∧ u5.toInt ≤ 4000) ∧ (0 ≤ u7.toInt ∧ u7.toInt ≤ 60) ∧ ((I 20).toInt ≤ u7.toInt) ∧ (0 ≤ u3.toInt ∧ u3.toInt ≤ 1) ∧ (u3.toInt = 0 → 1 ≤ u5.toInt) ∧ (u3.toInt = 1 → (f9 (I 19).toNatClampNeg).toInt + (I 16).toInt ≤ ((F 6) (I 19).toNatClampNeg).toInt + u4.toInt) ∧ (u3.toInt = 1 → PSg (F 4) (F 8) (F 7) f8 f9 gs (I 19).toNatClampNeg gb (gd + 1) (u7.toInt).toNat) ∧ TC (F 4) (F 8) (F 7) f8 := w2
  refine W.eq (g2 := F0 m 4 ls [.int u3]) rfl ?_
  have hP : va_P D vwCl (MW Y o a (upd (upd (upd (upd I 16 u4) 17 u5) 18 u6) 20 u7) J (vf_upd (vf_upd F 5 f8) 6 f9) G) H := hP
  have hD : va_D A (MW Y o a (upd (upd (upd (upd I 16 u4) 17 u5) 18 u6) 20 u7) J (vf_upd (vf_upd F 5 f8) 6 f9) G) := hD
  rcases (show u3.toInt = 1 ∨ u3.toInt = 0 by omega) with c21 | c21
  · obtain rfl : u3 = 1 := i_is c21 (by decide)
    have zi1 : (1 : Int32).toInt = 1 := by decide
    clear hw17
    replace hw18 := hw18 (by decide)
    have t22 := hw19 (by decide)
    have t22l := PG_len t22
    have t22d := PG_dep t22
    refine W.eq (g2 := F0 m 4 ls [.int 1]) rfl ?_
    refine lv_if_ne (tgt := 9) hx hb dX11_sum_4 (by decide) (fun c23 => ?_) (fun c23 => ?_)
    rotate_left
    · exact absurd c23 (by decide)
    refine w_loop (σ := Int32 × Int32 × Int32 × Int32 × (Nat → Int32) × (Nat → Int32)) (fun xx H locs ls => match xx with | (g176, g177, g178, g179, f180, f181) => va_P D vwCl (MW Y o a (upd (upd (upd (upd I 16 g176) 17 g177) 18 g178) 20 g179) J (vf_upd (vf_upd F 5 f180) 6 f181) G) H ∧ va_D A (MW Y o a (upd (upd (upd (upd I 16 g176) 17 g177) 18 g178) 20 g179) J (vf_upd (vf_upd F 5 f180) 6 f181) G) ∧ va_S A s.heap H locs ∧ lv_has ls 2 [(0, .ref o)] ∧ (0 ≤ g176.toInt ∧ g176.toInt ≤ 400) ∧ (g176.toInt ≤ (I 3).toInt) ∧ (0 ≤ g177.toInt ∧ g177.toInt ≤ 4000) ∧ (0 ≤ g179.toInt ∧ g179.toInt ≤ 60) ∧ ((I 20).toInt ≤ g179.toInt) ∧ ((I 16).toInt ≤ g176.toInt) ∧ ((f181 (I 19).toNatClampNeg).toInt + (I 16).toInt ≤ (F 6 (I 19).toNatClampNeg).toInt + g176.toInt) ∧ PSg (F 4) (F 8) (F 7) f180 f181 gs (I 19).toNatClampNeg gb (gd + 1) (g179.toInt).toNat) (fun xx => match xx with | (g176, g177, g178, g179, f180, f181) => (400 - g176.toInt).toNat) (u4, u5, u6, u7, f8, f9) ⟨hP, hD, hS, lv_sub hl [0] rfl, by omega, by omega, by omega, by omega, by omega, by omega, by omega, (PG_to t22 rfl (by omega) (by omega) (by omega))⟩ (fun xx H locs ls hI ih => ?_)
    obtain ⟨g176, g177, g178, g179, f180, f181⟩ := xx
    obtain ⟨hP, hD, hS, hl, hq334, hq335, hq336, hq337, hq338, hq339, hq340, hr341⟩ := hI
    have ih342 := ih
    refine lv_aload_n hx hb dX11_sum_9 rfl (lv_at hl 0 rfl) ?_
    have t343 := PG_len hr341
    have t344 := PG_dep hr341
    refine cga (rn_V (As := []) (rest := []) (b := o) (m_see l D Y Z H.size o a (upd (upd (upd (upd I 16 g176) 17 g177) 18 g178) 20 g179) J (vf_upd (vf_upd F 5 f180) 6 f181) G   (show (0 ≤ g176.toInt ∧ g176.toInt ≤ 400) by omega) (show (0 ≤ (I 3).toInt ∧ (I 3).toInt ≤ 400) by omega) (show (g176.toInt ≤ (I 3).toInt) by omega)) ⟨hx, hb, hml, hown, hg⟩ lk_X11_183 ⟨CP.blind, va_recv hKN.1 hP (ci := 11) (q0 := 0) rfl rfl, CP.at hP hKN hD⟩ ⟨⟨rfl, rfl⟩, ⟨Nat.le_of_ble_eq_true rfl, Nat.le_of_ble_eq_true rfl⟩, ⟨Nat.le_of_ble_eq_true rfl, Nat.le_of_ble_eq_true rfl⟩⟩ hl.1 rfl (Nat.le_of_ble_eq_true rfl) dX11_sum_10) hP hD hS hA (fun u345 H locs w346 hP hD hS => ?_)
    obtain ⟨u347, u348⟩ := u345
    obtain ⟨hw349, hw350, hw351, hw352, hw353⟩ : (0 ≤ u348.toInt ∧ u348.toInt ≤ 400) ∧ (g176.toInt ≤ u348.toInt) ∧ (u348.toInt ≤ (I 3).toInt) ∧ ((u347.toInt = -1 ∧ u348.toInt = (I 3).toInt) ∨ (0 ≤ u347.toInt ∧ u347.toInt ≤ 255 ∧ u348.toInt < (I 3).toInt ∧ ((F 2) u348.toNatClampNeg).toInt ≠ 32)) ∧ (-1 ≤ u347.toInt ∧ u347.toInt ≤ 255) := w346
    refine W.eq (g2 := F0 m 13 ls [.int u347]) rfl ?_
    have hP : va_P D vwCl (MW Y o a (upd (upd (upd (upd I 16 u348) 17 g177) 18 g178) 20 g179) J (vf_upd (vf_upd F 5 f180) 6 f181) G) H := hP
    have hD : va_D A (MW Y o a (upd (upd (upd (upd I 16 u348) 17 g177) 18 g178) 20 g179) J (vf_upd (vf_upd F 5 f180) 6 f181) G) := hD
    refine lv_bipush (v := 43) hx hb dX11_sum_13 (by decide) ?_
    refine lv_icmp_eq (tgt := 27) hx hb dX11_sum_15 (by decide) (fun c354 => ?_) (fun c354 => ?_)
    · skip
      have c354 := i_eq (Eq.refl u347.toInt) (show (43 : Int32).toInt = 43 by decide) c354
      refine lv_aload_n hx hb dX11_sum_27 rfl (lv_at hl 0 rfl) ?_
      refine va_get (D := D) (ci := 11) (v := .ref (a 2)) (C := RX11) (T := TX11) (N := 49) hx hb hg inGX11 hown hKN.1 hP 0 rfl rfl 2 (by decide) (hg _ kw_1210) (fun _ h9 => h9) rfl dX11_sum_28 ?_
      refine lv_aload_n hx hb dX11_sum_31 rfl (lv_at hl 0 rfl) ?_
      refine va_get (D := D) (ci := 11) (v := .int u348) (C := RX11) (T := TX11) (N := 49) hx hb hg inGX11 hown hKN.1 hP 0 rfl rfl 16 (by decide) (hg _ kw_1224) (fun _ h9 => h9) rfl dX11_sum_32 ?_
      refine va_bald hx hb hKN.1 hP 3 2 rfl rfl (vp_in_iff.mpr ⟨by omega, by omega⟩) dX11_sum_35 ?_
      refine lv_topi (fun v355 ev355 => ?_)
      have ev355 : v355 = (F 2) u348.toNatClampNeg := ev355
      have qv355 := congrArg Int32.toInt ev355
      refine lv_bipush (v := 43) hx hb dX11_sum_36 (by decide) ?_
      have j356 := rgI v355
      refine lv_icmp_ne (tgt := 45) hx hb dX11_sum_38 (by decide) (fun c357 => ?_) (fun c357 => ?_)
      · skip
        have c357 := i_ne (Eq.refl v355.toInt) (show (43 : Int32).toInt = 43 by decide) c357
        refine lv_iconst (v := 3) hx hb dX11_sum_45 (by decide) ?_
        refine lv_istore_n (lv' := [(1, .int 3), (0, .ref o)]) hx hb dX11_sum_46 rfl hl (by decide) rfl (fun ls hl => ?_)
        refine lv_aload_n hx hb dX11_sum_47 rfl (lv_at hl 1 rfl) ?_
        refine lv_dup hx hb dX11_sum_48 rfl ?_
        refine va_get (D := D) (ci := 11) (v := .int u348) (C := RX11) (T := TX11) (N := 49) hx hb hg inGX11 hown hKN.1 hP 0 rfl rfl 16 (by decide) (hg _ kw_1224) (fun _ h9 => h9) rfl dX11_sum_49 ?_
        refine lv_iconst (v := 1) hx hb dX11_sum_52 (by decide) ?_
        refine lv_iadd hx hb dX11_sum_53 ?_
        refine lv_topi (fun v358 ev358 => ?_)
        have hv358 := i_add (Eq.refl u348.toInt) (show (1 : Int32).toInt = 1 by decide) ev358 (by omega) (by omega)
        refine va_put (D := D) (ci := 11) (v := .int v358) (ty := .int) (C := RX11) (T := TX11) (N := 49) hx hb hg inGX11 tyX11 tyX11_ok nmX11 hown hKN.1 hP hD hS 0 rfl rfl 16 (by decide) (hg _ kw_1224) (fun _ h9 => h9) rfl (by decide +kernel) rfl rfl (Nat.le_of_ble_eq_true rfl) dX11_sum_54 (fun H locs hP hD hS => ?_)
        have hP : va_P D vwCl (MW Y o a (upd (upd (upd (upd I 16 v358) 17 g177) 18 g178) 20 g179) J (vf_upd (vf_upd F 5 f180) 6 f181) G) H := hP
        have hD : va_D A (MW Y o a (upd (upd (upd (upd I 16 v358) 17 g177) 18 g178) 20 g179) J (vf_upd (vf_upd F 5 f180) 6 f181) G) := hD
        refine lv_aload_n hx hb dX11_sum_57 rfl (lv_at hl 1 rfl) ?_
        refine cga (rn_V (As := []) (rest := []) (b := o) (m_term l D Y Z H.size o a (upd (upd (upd (upd I 16 v358) 17 g177) 18 g178) 20 g179) J (vf_upd (vf_upd F 5 f180) 6 f181) G gs gb (gd + 1)  (show (0 ≤ v358.toInt ∧ v358.toInt ≤ 400) by omega) (show (0 ≤ (I 3).toInt ∧ (I 3).toInt ≤ 400) by omega) (show (v358.toInt ≤ (I 3).toInt) by omega) (show (0 ≤ g177.toInt ∧ g177.toInt ≤ 4000) by omega) (show (0 ≤ g179.toInt ∧ g179.toInt ≤ 60) by omega) (show (0 ≤ (I 19).toInt ∧ (I 19).toInt ≤ 17) by omega) (show ((f181 (I 19).toNatClampNeg).toInt ≤ v358.toInt) by omega) (show PSg (F 4) (F 8) (F 7) f180 f181 gs (I 19).toNatClampNeg gb ((gd + 1)) (g179.toInt).toNat from (PG_to hr341 rfl (by omega) (by omega) (by omega)))) ⟨hx, hb, hml, hown, hg⟩ lk_X11_268 ⟨CP.blind, va_recv hKN.1 hP (ci := 11) (q0 := 0) rfl rfl, CP.at hP hKN hD⟩ ⟨⟨rfl, rfl⟩, ⟨Nat.le_of_ble_eq_true rfl, Nat.le_of_ble_eq_true rfl⟩, ⟨Nat.le_of_ble_eq_true rfl, Nat.le_of_ble_eq_true rfl⟩⟩ hl.1 rfl (Nat.le_of_ble_eq_true rfl) dX11_sum_58) hP hD hS hA (fun u359 H locs w360 hP hD hS => ?_)
        obtain ⟨u361, u362, u363, u364, u365, f366, f367⟩ := u359
        obtain ⟨hw368, hw369, hw370, hw371, hw372, hw373, hw374, hw375, hw376, hw377, hw378⟩ : (0 ≤ u362.toInt ∧ u362.toInt ≤ 400) ∧ (v358.toInt ≤ u362.toInt) ∧ (u362.toInt ≤ (I 3).toInt) ∧ (0 ≤ u363.toInt ∧ u363.toInt ≤ 4000) ∧ (0 ≤ u365.toInt ∧ u365.toInt ≤ 60) ∧ (g179.toInt ≤ u365.toInt) ∧ (0 ≤ u361.toInt ∧ u361.toInt ≤ 1) ∧ (u361.toInt = 0 → 1 ≤ u363.toInt) ∧ (u361.toInt = 1 → (f367 (I 19).toNatClampNeg).toInt + v358.toInt ≤ (f181 (I 19).toNatClampNeg).toInt + u362.toInt) ∧ (u361.toInt = 1 → PSg (F 4) (F 8) (F 7) f366 f367 gs (I 19).toNatClampNeg gb ((gd + 1) + 1) (u365.toInt).toNat) ∧ TC (F 4) (F 8) (F 7) f366 := w360
        refine W.eq (g2 := F0 m 61 ls [.int u361]) rfl ?_
        have hP : va_P D vwCl (MW Y o a (upd (upd (upd (upd I 16 u362) 17 u363) 18 u364) 20 u365) J (vf_upd (vf_upd F 5 f366) 6 f367) G) H := hP
        have hD : va_D A (MW Y o a (upd (upd (upd (upd I 16 u362) 17 u363) 18 u364) 20 u365) J (vf_upd (vf_upd F 5 f366) 6 f367) G) := hD
        rcases (show u361.toInt = 1 ∨ u361.toInt = 0 by omega) with c379 | c379
        · obtain rfl : u361 = 1 := i_is c379 (by decide)
          clear hw375
          replace hw376 := hw376 (by decide)
          have t380 := hw377 (by decide)
          have t380l := PG_len t380
          have t380d := PG_dep t380
          refine W.eq (g2 := F0 m 61 ls [.int 1]) rfl ?_
          refine lv_if_ne (tgt := 66) hx hb dX11_sum_61 (by decide) (fun c381 => ?_) (fun c381 => ?_)
          rotate_left
          · exact absurd c381 (by decide)
          refine lv_aload_n hx hb dX11_sum_66 rfl (lv_at hl 1 rfl) ?_
          refine lv_iload_n hx hb dX11_sum_67 rfl (lv_at hl 0 rfl) ?_
          refine lv_iconst (v := 0) hx hb dX11_sum_68 (by decide) ?_
          have zi3 : (3 : Int32).toInt = 3 := by decide
          have zi0 : (0 : Int32).toInt = 0 := by decide
          refine cga (rn_V (As := [.int 3, .int 0]) (rest := []) (b := o) (m_puts l D Y Z H.size o a (upd (upd (upd (upd I 16 u362) 17 u363) 18 u364) 20 u365) J (vf_upd (vf_upd F 5 f366) 6 f367) G  3 0 (show (0 ≤ (I 19).toInt ∧ (I 19).toInt ≤ 17) by omega) (show (0 ≤ (3 : Int32).toInt ∧ (3 : Int32).toInt ≤ 15) by omega) (show (0 ≤ (0 : Int32).toInt ∧ (0 : Int32).toInt ≤ 99999) by omega) (show (0 ≤ (f367 (I 19).toNatClampNeg).toInt ∧ (f367 (I 19).toNatClampNeg).toInt ≤ 399) by omega)) ⟨hx, hb, hml, hown, hg⟩ lk_X11_250 ⟨CP.blind, va_recv hKN.1 hP (ci := 11) (q0 := 0) rfl rfl, CP.at hP hKN hD⟩ ⟨⟨rfl, rfl⟩, ⟨Nat.le_of_ble_eq_true rfl, Nat.le_of_ble_eq_true rfl⟩, ⟨Nat.le_of_ble_eq_true rfl, Nat.le_of_ble_eq_true rfl⟩⟩ hl.1 rfl (Nat.le_of_ble_eq_true rfl) dX11_sum_69) hP hD hS hA (fun u382 H locs w383 hP hD hS => ?_)
          obtain ⟨f384, f385⟩ := u382
          have hw386 : PU f366 f384 f367 f385 (I 19).toNatClampNeg (3 : Int32).toInt (0 : Int32).toInt := w383
          clear w383
          refine W.eq (g2 := F0 m 72 ls []) rfl ?_
          have hP : va_P D vwCl (MW Y o a (upd (upd (upd (upd I 16 u362) 17 u363) 18 u364) 20 u365) J (vf_upd (vf_upd F 5 f384) 6 f385) G) H := hP
          have hD : va_D A (MW Y o a (upd (upd (upd (upd I 16 u362) 17 u363) 18 u364) 20 u365) J (vf_upd (vf_upd F 5 f384) 6 f385) G) := hD
          have t387 := PG_pu (e := (((gd + 1) + 1) - 1)) (PG_to (md2 := u365.toInt.toNat) t380 rfl rfl (by omega) (by omega)) hw386 (fun x hx => stp_bin hx (by omega) (by omega) (by omega) (by omega) (by omega) (by omega) rfl) (by omega) (by omega)
          obtain ⟨t387p, t387l⟩ := t387
          refine lv_goto (tgt := 9) hx hb dX11_sum_72 (by decide) ?_
          exact ih342 (u362, u363, u364, u365, f384, f385) H locs ls (by show (400 - u362.toInt).toNat < (400 - g176.toInt).toNat; omega) ⟨hP, hD, hS, lv_sub hl [1] rfl, by omega, by omega, by omega, by omega, by omega, by omega, by omega, (PG_to t387p rfl (by omega) (by omega) (by omega))⟩
        · obtain rfl : u361 = 0 := i_is c379 (by decide)
          have zi0 : (0 : Int32).toInt = 0 := by decide
          replace hw375 := hw375 (by decide)
          clear hw376
          refine W.eq (g2 := F0 m 61 ls [.int 0]) rfl ?_
          refine lv_if_ne (tgt := 66) hx hb dX11_sum_61 (by decide) (fun c388 => ?_) (fun c388 => ?_)
          · exact absurd c388 (by decide)
          refine lv_iconst (v := 0) hx hb dX11_sum_64 (by decide) ?_
          refine W.widen (k := 0) (n := 0) (Nat.le_of_ble_eq_true rfl) (Nat.le_of_ble_eq_true rfl) ?_
          exact W.zret (v := 0) hx hb hr (by decide) (fun t ht hW => ⟨⟨(0, u362, u363, u364, u365, f366, f367), rfl, ⟨(show (0 ≤ u362.toInt ∧ u362.toInt ≤ 400) by omega), (show ((I 16).toInt ≤ u362.toInt) by omega), (show (u362.toInt ≤ (I 3).toInt) by omega), (show (0 ≤ u363.toInt ∧ u363.toInt ≤ 4000) by omega), (show (0 ≤ u365.toInt ∧ u365.toInt ≤ 60) by omega), (show ((I 20).toInt ≤ u365.toInt) by omega), (show (0 ≤ (0 : Int32).toInt ∧ (0 : Int32).toInt ≤ 1) by omega), (show ((0 : Int32).toInt = 0 → 1 ≤ u363.toInt) by omega), (show ((0 : Int32).toInt = 1 → (f367 (I 19).toNatClampNeg).toInt + (I 16).toInt ≤ ((F 6) (I 19).toNatClampNeg).toInt + u362.toInt) by omega), (show ((0 : Int32).toInt = 1 → PSg (F 4) (F 8) (F 7) f366 f367 gs (I 19).toNatClampNeg gb (gd + 1) (u365.toInt).toNat) from (fun h => absurd h (by decide))), (show TC (F 4) (F 8) (F 7) f366 from hw378)⟩, CB.mk ht hP hD⟩, hS.F ht⟩) hS.2.2 dX11_sum_65
      · skip
        have c357 := i_eq (Eq.refl v355.toInt) (show (43 : Int32).toInt = 43 by decide) c357
        refine lv_iconst (v := 2) hx hb dX11_sum_41 (by decide) ?_
        refine lv_goto (tgt := 46) hx hb dX11_sum_42 (by decide) ?_
        refine lv_istore_n (lv' := [(1, .int 2), (0, .ref o)]) hx hb dX11_sum_46 rfl hl (by decide) rfl (fun ls hl => ?_)
        refine lv_aload_n hx hb dX11_sum_47 rfl (lv_at hl 1 rfl) ?_
        refine lv_dup hx hb dX11_sum_48 rfl ?_
        refine va_get (D := D) (ci := 11) (v := .int u348) (C := RX11) (T := TX11) (N := 49) hx hb hg inGX11 hown hKN.1 hP 0 rfl rfl 16 (by decide) (hg _ kw_1224) (fun _ h9 => h9) rfl dX11_sum_49 ?_
        refine lv_iconst (v := 1) hx hb dX11_sum_52 (by decide) ?_
        refine lv_iadd hx hb dX11_sum_53 ?_
        refine lv_topi (fun v389 ev389 => ?_)
        have hv389 := i_add (Eq.refl u348.toInt) (show (1 : Int32).toInt = 1 by decide) ev389 (by omega) (by omega)
        refine va_put (D := D) (ci := 11) (v := .int v389) (ty := .int) (C := RX11) (T := TX11) (N := 49) hx hb hg inGX11 tyX11 tyX11_ok nmX11 hown hKN.1 hP hD hS 0 rfl rfl 16 (by decide) (hg _ kw_1224) (fun _ h9 => h9) rfl (by decide +kernel) rfl rfl (Nat.le_of_ble_eq_true rfl) dX11_sum_54 (fun H locs hP hD hS => ?_)
        have hP : va_P D vwCl (MW Y o a (upd (upd (upd (upd I 16 v389) 17 g177) 18 g178) 20 g179) J (vf_upd (vf_upd F 5 f180) 6 f181) G) H := hP
        have hD : va_D A (MW Y o a (upd (upd (upd (upd I 16 v389) 17 g177) 18 g178) 20 g179) J (vf_upd (vf_upd F 5 f180) 6 f181) G) := hD
        refine lv_aload_n hx hb dX11_sum_57 rfl (lv_at hl 1 rfl) ?_
        refine cga (rn_V (As := []) (rest := []) (b := o) (m_term l D Y Z H.size o a (upd (upd (upd (upd I 16 v389) 17 g177) 18 g178) 20 g179) J (vf_upd (vf_upd F 5 f180) 6 f181) G gs gb (gd + 1)  (show (0 ≤ v389.toInt ∧ v389.toInt ≤ 400) by omega) (show (0 ≤ (I 3).toInt ∧ (I 3).toInt ≤ 400) by omega) (show (v389.toInt ≤ (I 3).toInt) by omega) (show (0 ≤ g177.toInt ∧ g177.toInt ≤ 4000) by omega) (show (0 ≤ g179.toInt ∧ g179.toInt ≤ 60) by omega) (show (0 ≤ (I 19).toInt ∧ (I 19).toInt ≤ 17) by omega) (show ((f181 (I 19).toNatClampNeg).toInt ≤ v389.toInt) by omega) (show PSg (F 4) (F 8) (F 7) f180 f181 gs (I 19).toNatClampNeg gb ((gd + 1)) (g179.toInt).toNat from (PG_to hr341 rfl (by omega) (by omega) (by omega)))) ⟨hx, hb, hml, hown, hg⟩ lk_X11_268 ⟨CP.blind, va_recv hKN.1 hP (ci := 11) (q0 := 0) rfl rfl, CP.at hP hKN hD⟩ ⟨⟨rfl, rfl⟩, ⟨Nat.le_of_ble_eq_true rfl, Nat.le_of_ble_eq_true rfl⟩, ⟨Nat.le_of_ble_eq_true rfl, Nat.le_of_ble_eq_true rfl⟩⟩ hl.1 rfl (Nat.le_of_ble_eq_true rfl) dX11_sum_58) hP hD hS hA (fun u390 H locs w391 hP hD hS => ?_)
        obtain ⟨u392, u393, u394, u395, u396, f397, f398⟩ := u390
        obtain ⟨hw399, hw400, hw401, hw402, hw403, hw404, hw405, hw406, hw407, hw408, hw409⟩ : (0 ≤ u393.toInt ∧ u393.toInt ≤ 400) ∧ (v389.toInt ≤ u393.toInt) ∧ (u393.toInt ≤ (I 3).toInt) ∧ (0 ≤ u394.toInt ∧ u394.toInt ≤ 4000) ∧ (0 ≤ u396.toInt ∧ u396.toInt ≤ 60) ∧ (g179.toInt ≤ u396.toInt) ∧ (0 ≤ u392.toInt ∧ u392.toInt ≤ 1) ∧ (u392.toInt = 0 → 1 ≤ u394.toInt) ∧ (u392.toInt = 1 → (f398 (I 19).toNatClampNeg).toInt + v389.toInt ≤ (f181 (I 19).toNatClampNeg).toInt + u393.toInt) ∧ (u392.toInt = 1 → PSg (F 4) (F 8) (F 7) f397 f398 gs (I 19).toNatClampNeg gb ((gd + 1) + 1) (u396.toInt).toNat) ∧ TC (F 4) (F 8) (F 7) f397 := w391
        refine W.eq (g2 := F0 m 61 ls [.int u392]) rfl ?_
        have hP : va_P D vwCl (MW Y o a (upd (upd (upd (upd I 16 u393) 17 u394) 18 u395) 20 u396) J (vf_upd (vf_upd F 5 f397) 6 f398) G) H := hP
        have hD : va_D A (MW Y o a (upd (upd (upd (upd I 16 u393) 17 u394) 18 u395) 20 u396) J (vf_upd (vf_upd F 5 f397) 6 f398) G) := hD
        rcases (show u392.toInt = 1 ∨ u392.toInt = 0 by omega) with c410 | c410
        · obtain rfl : u392 = 1 := i_is c410 (by decide)
          clear hw406
          replace hw407 := hw407 (by decide)
          have t411 := hw408 (by decide)
          have t411l := PG_len t411
          have t411d := PG_dep t411
          refine W.eq (g2 := F0 m 61 ls [.int 1]) rfl ?_
          refine lv_if_ne (tgt := 66) hx hb dX11_sum_61 (by decide) (fun c412 => ?_) (fun c412 => ?_)
          rotate_left
          · exact absurd c412 (by decide)
          refine lv_aload_n hx hb dX11_sum_66 rfl (lv_at hl 1 rfl) ?_
          refine lv_iload_n hx hb dX11_sum_67 rfl (lv_at hl 0 rfl) ?_
          refine lv_iconst (v := 0) hx hb dX11_sum_68 (by decide) ?_
          have zi2 : (2 : Int32).toInt = 2 := by decide
          have zi0 : (0 : Int32).toInt = 0 := by decide
          refine cga (rn_V (As := [.int 2, .int 0]) (rest := []) (b := o) (m_puts l D Y Z H.size o a (upd (upd (upd (upd I 16 u393) 17 u394) 18 u395) 20 u396) J (vf_upd (vf_upd F 5 f397) 6 f398) G  2 0 (show (0 ≤ (I 19).toInt ∧ (I 19).toInt ≤ 17) by omega) (show (0 ≤ (2 : Int32).toInt ∧ (2 : Int32).toInt ≤ 15) by omega) (show (0 ≤ (0 : Int32).toInt ∧ (0 : Int32).toInt ≤ 99999) by omega) (show (0 ≤ (f398 (I 19).toNatClampNeg).toInt ∧ (f398 (I 19).toNatClampNeg).toInt ≤ 399) by omega)) ⟨hx, hb, hml, hown, hg⟩ lk_X11_250 ⟨CP.blind, va_recv hKN.1 hP (ci := 11) (q0 := 0) rfl rfl, CP.at hP hKN hD⟩ ⟨⟨rfl, rfl⟩, ⟨Nat.le_of_ble_eq_true rfl, Nat.le_of_ble_eq_true rfl⟩, ⟨Nat.le_of_ble_eq_true rfl, Nat.le_of_ble_eq_true rfl⟩⟩ hl.1 rfl (Nat.le_of_ble_eq_true rfl) dX11_sum_69) hP hD hS hA (fun u413 H locs w414 hP hD hS => ?_)
          obtain ⟨f415, f416⟩ := u413
          have hw417 : PU f397 f415 f398 f416 (I 19).toNatClampNeg (2 : Int32).toInt (0 : Int32).toInt := w414
          clear w414
          refine W.eq (g2 := F0 m 72 ls []) rfl ?_
          have hP : va_P D vwCl (MW Y o a (upd (upd (upd (upd I 16 u393) 17 u394) 18 u395) 20 u396) J (vf_upd (vf_upd F 5 f415) 6 f416) G) H := hP
          have hD : va_D A (MW Y o a (upd (upd (upd (upd I 16 u393) 17 u394) 18 u395) 20 u396) J (vf_upd (vf_upd F 5 f415) 6 f416) G) := hD
          have t418 := PG_pu (e := (((gd + 1) + 1) - 1)) (PG_to (md2 := u396.toInt.toNat) t411 rfl rfl (by omega) (by omega)) hw417 (fun x hx => stp_bin hx (by omega) (by omega) (by omega) (by omega) (by omega) (by omega) rfl) (by omega) (by omega)
          obtain ⟨t418p, t418l⟩ := t418
          refine lv_goto (tgt := 9) hx hb dX11_sum_72 (by decide) ?_
          exact ih342 (u393, u394, u395, u396, f415, f416) H locs ls (by show (400 - u393.toInt).toNat < (400 - g176.toInt).toNat; omega) ⟨hP, hD, hS, lv_sub hl [1] rfl, by omega, by omega, by omega, by omega, by omega, by omega, by omega, (PG_to t418p rfl (by omega) (by omega) (by omega))⟩
        · obtain rfl : u392 = 0 := i_is c410 (by decide)
          have zi0 : (0 : Int32).toInt = 0 := by decide
          replace hw406 := hw406 (by decide)
          clear hw407
          refine W.eq (g2 := F0 m 61 ls [.int 0]) rfl ?_
          refine lv_if_ne (tgt := 66) hx hb dX11_sum_61 (by decide) (fun c419 => ?_) (fun c419 => ?_)
          · exact absurd c419 (by decide)
          refine lv_iconst (v := 0) hx hb dX11_sum_64 (by decide) ?_
          refine W.widen (k := 0) (n := 0) (Nat.le_of_ble_eq_true rfl) (Nat.le_of_ble_eq_true rfl) ?_
          exact W.zret (v := 0) hx hb hr (by decide) (fun t ht hW => ⟨⟨(0, u393, u394, u395, u396, f397, f398), rfl, ⟨(show (0 ≤ u393.toInt ∧ u393.toInt ≤ 400) by omega), (show ((I 16).toInt ≤ u393.toInt) by omega), (show (u393.toInt ≤ (I 3).toInt) by omega), (show (0 ≤ u394.toInt ∧ u394.toInt ≤ 4000) by omega), (show (0 ≤ u396.toInt ∧ u396.toInt ≤ 60) by omega), (show ((I 20).toInt ≤ u396.toInt) by omega), (show (0 ≤ (0 : Int32).toInt ∧ (0 : Int32).toInt ≤ 1) by omega), (show ((0 : Int32).toInt = 0 → 1 ≤ u394.toInt) by omega), (show ((0 : Int32).toInt = 1 → (f398 (I 19).toNatClampNeg).toInt + (I 16).toInt ≤ ((F 6) (I 19).toNatClampNeg).toInt + u393.toInt) by omega), (show ((0 : Int32).toInt = 1 → PSg (F 4) (F 8) (F 7) f397 f398 gs (I 19).toNatClampNeg gb (gd + 1) (u396.toInt).toNat) from (fun h => absurd h (by decide))), (show TC (F 4) (F 8) (F 7) f397 from hw409)⟩, CB.mk ht hP hD⟩, hS.F ht⟩) hS.2.2 dX11_sum_65
    · skip
      have c354 := i_ne (Eq.refl u347.toInt) (show (43 : Int32).toInt = 43 by decide) c354
      refine lv_aload_n hx hb dX11_sum_18 rfl (lv_at hl 0 rfl) ?_
      refine cga (rn_V (As := []) (rest := []) (b := o) (m_see l D Y Z H.size o a (upd (upd (upd (upd I 16 u348) 17 g177) 18 g178) 20 g179) J (vf_upd (vf_upd F 5 f180) 6 f181) G   (show (0 ≤ u348.toInt ∧ u348.toInt ≤ 400) by omega) (show (0 ≤ (I 3).toInt ∧ (I 3).toInt ≤ 400) by omega) (show (u348.toInt ≤ (I 3).toInt) by omega)) ⟨hx, hb, hml, hown, hg⟩ lk_X11_183 ⟨CP.blind, va_recv hKN.1 hP (ci := 11) (q0 := 0) rfl rfl, CP.at hP hKN hD⟩ ⟨⟨rfl, rfl⟩, ⟨Nat.le_of_ble_eq_true rfl, Nat.le_of_ble_eq_true rfl⟩, ⟨Nat.le_of_ble_eq_true rfl, Nat.le_of_ble_eq_true rfl⟩⟩ hl.1 rfl (Nat.le_of_ble_eq_true rfl) dX11_sum_19) hP hD hS hA (fun u420 H locs w421 hP hD hS => ?_)
      obtain ⟨u422, u423⟩ := u420
      obtain ⟨hw424, hw425, hw426, hw427, hw428⟩ : (0 ≤ u423.toInt ∧ u423.toInt ≤ 400) ∧ (u348.toInt ≤ u423.toInt) ∧ (u423.toInt ≤ (I 3).toInt) ∧ ((u422.toInt = -1 ∧ u423.toInt = (I 3).toInt) ∨ (0 ≤ u422.toInt ∧ u422.toInt ≤ 255 ∧ u423.toInt < (I 3).toInt ∧ ((F 2) u423.toNatClampNeg).toInt ≠ 32)) ∧ (-1 ≤ u422.toInt ∧ u422.toInt ≤ 255) := w421
      refine W.eq (g2 := F0 m 22 ls [.int u422]) rfl ?_
      have hP : va_P D vwCl (MW Y o a (upd (upd (upd (upd I 16 u423) 17 g177) 18 g178) 20 g179) J (vf_upd (vf_upd F 5 f180) 6 f181) G) H := hP
      have hD : va_D A (MW Y o a (upd (upd (upd (upd I 16 u423) 17 g177) 18 g178) 20 g179) J (vf_upd (vf_upd F 5 f180) 6 f181) G) := hD
      refine lv_bipush (v := 45) hx hb dX11_sum_22 (by decide) ?_
      refine lv_icmp_ne (tgt := 75) hx hb dX11_sum_24 (by decide) (fun c429 => ?_) (fun c429 => ?_)
      · skip
        have c429 := i_ne (Eq.refl u422.toInt) (show (45 : Int32).toInt = 45 by decide) c429
        refine lv_iconst (v := 1) hx hb dX11_sum_75 (by decide) ?_
        refine W.widen (k := 0) (n := 0) (Nat.le_of_ble_eq_true rfl) (Nat.le_of_ble_eq_true rfl) ?_
        exact W.zret (v := 1) hx hb hr (by decide) (fun t ht hW => ⟨⟨(1, u423, g177, g178, g179, f180, f181), rfl, ⟨(show (0 ≤ u423.toInt ∧ u423.toInt ≤ 400) by omega), (show ((I 16).toInt ≤ u423.toInt) by omega), (show (u423.toInt ≤ (I 3).toInt) by omega), (show (0 ≤ g177.toInt ∧ g177.toInt ≤ 4000) by omega), (show (0 ≤ g179.toInt ∧ g179.toInt ≤ 60) by omega), (show ((I 20).toInt ≤ g179.toInt) by omega), (show (0 ≤ (1 : Int32).toInt ∧ (1 : Int32).toInt ≤ 1) by omega), (show ((1 : Int32).toInt = 0 → 1 ≤ g177.toInt) by omega), (show ((1 : Int32).toInt = 1 → (f181 (I 19).toNatClampNeg).toInt + (I 16).toInt ≤ ((F 6) (I 19).toNatClampNeg).toInt + u423.toInt) by omega), (show ((1 : Int32).toInt = 1 → PSg (F 4) (F 8) (F 7) f180 f181 gs (I 19).toNatClampNeg gb (gd + 1) (g179.toInt).toNat) from (fun _ => (PG_to hr341 rfl (by omega) (by omega) (by omega)))), (show TC (F 4) (F 8) (F 7) f180 from (PG_tc hr341))⟩, CB.mk ht hP hD⟩, hS.F ht⟩) hS.2.2 dX11_sum_76
      · skip
        have c429 := i_eq (Eq.refl u422.toInt) (show (45 : Int32).toInt = 45 by decide) c429
        refine lv_aload_n hx hb dX11_sum_27 rfl (lv_at hl 0 rfl) ?_
        refine va_get (D := D) (ci := 11) (v := .ref (a 2)) (C := RX11) (T := TX11) (N := 49) hx hb hg inGX11 hown hKN.1 hP 0 rfl rfl 2 (by decide) (hg _ kw_1210) (fun _ h9 => h9) rfl dX11_sum_28 ?_
        refine lv_aload_n hx hb dX11_sum_31 rfl (lv_at hl 0 rfl) ?_
        refine va_get (D := D) (ci := 11) (v := .int u423) (C := RX11) (T := TX11) (N := 49) hx hb hg inGX11 hown hKN.1 hP 0 rfl rfl 16 (by decide) (hg _ kw_1224) (fun _ h9 => h9) rfl dX11_sum_32 ?_
        refine va_bald hx hb hKN.1 hP 3 2 rfl rfl (vp_in_iff.mpr ⟨by omega, by omega⟩) dX11_sum_35 ?_
        refine lv_topi (fun v430 ev430 => ?_)
        have ev430 : v430 = (F 2) u423.toNatClampNeg := ev430
        have qv430 := congrArg Int32.toInt ev430
        refine lv_bipush (v := 43) hx hb dX11_sum_36 (by decide) ?_
        have j431 := rgI v430
        refine lv_icmp_ne (tgt := 45) hx hb dX11_sum_38 (by decide) (fun c432 => ?_) (fun c432 => ?_)
        · skip
          have c432 := i_ne (Eq.refl v430.toInt) (show (43 : Int32).toInt = 43 by decide) c432
          refine lv_iconst (v := 3) hx hb dX11_sum_45 (by decide) ?_
          refine lv_istore_n (lv' := [(1, .int 3), (0, .ref o)]) hx hb dX11_sum_46 rfl hl (by decide) rfl (fun ls hl => ?_)
          refine lv_aload_n hx hb dX11_sum_47 rfl (lv_at hl 1 rfl) ?_
          refine lv_dup hx hb dX11_sum_48 rfl ?_
          refine va_get (D := D) (ci := 11) (v := .int u423) (C := RX11) (T := TX11) (N := 49) hx hb hg inGX11 hown hKN.1 hP 0 rfl rfl 16 (by decide) (hg _ kw_1224) (fun _ h9 => h9) rfl dX11_sum_49 ?_
          refine lv_iconst (v := 1) hx hb dX11_sum_52 (by decide) ?_
          refine lv_iadd hx hb dX11_sum_53 ?_
          refine lv_topi (fun v433 ev433 => ?_)
          have hv433 := i_add (Eq.refl u423.toInt) (show (1 : Int32).toInt = 1 by decide) ev433 (by omega) (by omega)
          refine va_put (D := D) (ci := 11) (v := .int v433) (ty := .int) (C := RX11) (T := TX11) (N := 49) hx hb hg inGX11 tyX11 tyX11_ok nmX11 hown hKN.1 hP hD hS 0 rfl rfl 16 (by decide) (hg _ kw_1224) (fun _ h9 => h9) rfl (by decide +kernel) rfl rfl (Nat.le_of_ble_eq_true rfl) dX11_sum_54 (fun H locs hP hD hS => ?_)
          have hP : va_P D vwCl (MW Y o a (upd (upd (upd (upd I 16 v433) 17 g177) 18 g178) 20 g179) J (vf_upd (vf_upd F 5 f180) 6 f181) G) H := hP
          have hD : va_D A (MW Y o a (upd (upd (upd (upd I 16 v433) 17 g177) 18 g178) 20 g179) J (vf_upd (vf_upd F 5 f180) 6 f181) G) := hD
          refine lv_aload_n hx hb dX11_sum_57 rfl (lv_at hl 1 rfl) ?_
          refine cga (rn_V (As := []) (rest := []) (b := o) (m_term l D Y Z H.size o a (upd (upd (upd (upd I 16 v433) 17 g177) 18 g178) 20 g179) J (vf_upd (vf_upd F 5 f180) 6 f181) G gs gb (gd + 1)  (show (0 ≤ v433.toInt ∧ v433.toInt ≤ 400) by omega) (show (0 ≤ (I 3).toInt ∧ (I 3).toInt ≤ 400) by omega) (show (v433.toInt ≤ (I 3).toInt) by omega) (show (0 ≤ g177.toInt ∧ g177.toInt ≤ 4000) by omega) (show (0 ≤ g179.toInt ∧ g179.toInt ≤ 60) by omega) (show (0 ≤ (I 19).toInt ∧ (I 19).toInt ≤ 17) by omega) (show ((f181 (I 19).toNatClampNeg).toInt ≤ v433.toInt) by omega) (show PSg (F 4) (F 8) (F 7) f180 f181 gs (I 19).toNatClampNeg gb ((gd + 1)) (g179.toInt).toNat from (PG_to hr341 rfl (by omega) (by omega) (by omega)))) ⟨hx, hb, hml, hown, hg⟩ lk_X11_268 ⟨CP.blind, va_recv hKN.1 hP (ci := 11) (q0 := 0) rfl rfl, CP.at hP hKN hD⟩ ⟨⟨rfl, rfl⟩, ⟨Nat.le_of_ble_eq_true rfl, Nat.le_of_ble_eq_true rfl⟩, ⟨Nat.le_of_ble_eq_true rfl, Nat.le_of_ble_eq_true rfl⟩⟩ hl.1 rfl (Nat.le_of_ble_eq_true rfl) dX11_sum_58) hP hD hS hA (fun u434 H locs w435 hP hD hS => ?_)
          obtain ⟨u436, u437, u438, u439, u440, f441, f442⟩ := u434
          obtain ⟨hw443, hw444, hw445, hw446, hw447, hw448, hw449, hw450, hw451, hw452, hw453⟩ : (0 ≤ u437.toInt ∧ u437.toInt ≤ 400) ∧ (v433.toInt ≤ u437.toInt) ∧ (u437.toInt ≤ (I 3).toInt) ∧ (0 ≤ u438.toInt ∧ u438.toInt ≤ 4000) ∧ (0 ≤ u440.toInt ∧ u440.toInt ≤ 60) ∧ (g179.toInt ≤ u440.toInt) ∧ (0 ≤ u436.toInt ∧ u436.toInt ≤ 1) ∧ (u436.toInt = 0 → 1 ≤ u438.toInt) ∧ (u436.toInt = 1 → (f442 (I 19).toNatClampNeg).toInt + v433.toInt ≤ (f181 (I 19).toNatClampNeg).toInt + u437.toInt) ∧ (u436.toInt = 1 → PSg (F 4) (F 8) (F 7) f441 f442 gs (I 19).toNatClampNeg gb ((gd + 1) + 1) (u440.toInt).toNat) ∧ TC (F 4) (F 8) (F 7) f441 := w435
          refine W.eq (g2 := F0 m 61 ls [.int u436]) rfl ?_
          have hP : va_P D vwCl (MW Y o a (upd (upd (upd (upd I 16 u437) 17 u438) 18 u439) 20 u440) J (vf_upd (vf_upd F 5 f441) 6 f442) G) H := hP
          have hD : va_D A (MW Y o a (upd (upd (upd (upd I 16 u437) 17 u438) 18 u439) 20 u440) J (vf_upd (vf_upd F 5 f441) 6 f442) G) := hD
          rcases (show u436.toInt = 1 ∨ u436.toInt = 0 by omega) with c454 | c454
          · obtain rfl : u436 = 1 := i_is c454 (by decide)
            clear hw450
            replace hw451 := hw451 (by decide)
            have t455 := hw452 (by decide)
            have t455l := PG_len t455
            have t455d := PG_dep t455
            refine W.eq (g2 := F0 m 61 ls [.int 1]) rfl ?_
            refine lv_if_ne (tgt := 66) hx hb dX11_sum_61 (by decide) (fun c456 => ?_) (fun c456 => ?_)
            rotate_left
            · exact absurd c456 (by decide)
            refine lv_aload_n hx hb dX11_sum_66 rfl (lv_at hl 1 rfl) ?_
            refine lv_iload_n hx hb dX11_sum_67 rfl (lv_at hl 0 rfl) ?_
            refine lv_iconst (v := 0) hx hb dX11_sum_68 (by decide) ?_
            have zi3 : (3 : Int32).toInt = 3 := by decide
            have zi0 : (0 : Int32).toInt = 0 := by decide
            refine cga (rn_V (As := [.int 3, .int 0]) (rest := []) (b := o) (m_puts l D Y Z H.size o a (upd (upd (upd (upd I 16 u437) 17 u438) 18 u439) 20 u440) J (vf_upd (vf_upd F 5 f441) 6 f442) G  3 0 (show (0 ≤ (I 19).toInt ∧ (I 19).toInt ≤ 17) by omega) (show (0 ≤ (3 : Int32).toInt ∧ (3 : Int32).toInt ≤ 15) by omega) (show (0 ≤ (0 : Int32).toInt ∧ (0 : Int32).toInt ≤ 99999) by omega) (show (0 ≤ (f442 (I 19).toNatClampNeg).toInt ∧ (f442 (I 19).toNatClampNeg).toInt ≤ 399) by omega)) ⟨hx, hb, hml, hown, hg⟩ lk_X11_250 ⟨CP.blind, va_recv hKN.1 hP (ci := 11) (q0 := 0) rfl rfl, CP.at hP hKN hD⟩ ⟨⟨rfl, rfl⟩, ⟨Nat.le_of_ble_eq_true rfl, Nat.le_of_ble_eq_true rfl⟩, ⟨Nat.le_of_ble_eq_true rfl, Nat.le_of_ble_eq_true rfl⟩⟩ hl.1 rfl (Nat.le_of_ble_eq_true rfl) dX11_sum_69) hP hD hS hA (fun u457 H locs w458 hP hD hS => ?_)
            obtain ⟨f459, f460⟩ := u457
            have hw461 : PU f441 f459 f442 f460 (I 19).toNatClampNeg (3 : Int32).toInt (0 : Int32).toInt := w458
            clear w458
            refine W.eq (g2 := F0 m 72 ls []) rfl ?_
            have hP : va_P D vwCl (MW Y o a (upd (upd (upd (upd I 16 u437) 17 u438) 18 u439) 20 u440) J (vf_upd (vf_upd F 5 f459) 6 f460) G) H := hP
            have hD : va_D A (MW Y o a (upd (upd (upd (upd I 16 u437) 17 u438) 18 u439) 20 u440) J (vf_upd (vf_upd F 5 f459) 6 f460) G) := hD
            have t462 := PG_pu (e := (((gd + 1) + 1) - 1)) (PG_to (md2 := u440.toInt.toNat) t455 rfl rfl (by omega) (by omega)) hw461 (fun x hx => stp_bin hx (by omega) (by omega) (by omega) (by omega) (by omega) (by omega) rfl) (by omega) (by omega)
            obtain ⟨t462p, t462l⟩ := t462
            refine lv_goto (tgt := 9) hx hb dX11_sum_72 (by decide) ?_
            exact ih342 (u437, u438, u439, u440, f459, f460) H locs ls (by show (400 - u437.toInt).toNat < (400 - g176.toInt).toNat; omega) ⟨hP, hD, hS, lv_sub hl [1] rfl, by omega, by omega, by omega, by omega, by omega, by omega, by omega, (PG_to t462p rfl (by omega) (by omega) (by omega))⟩
          · obtain rfl : u436 = 0 := i_is c454 (by decide)
            have zi0 : (0 : Int32).toInt = 0 := by decide
            replace hw450 := hw450 (by decide)
            clear hw451
            refine W.eq (g2 := F0 m 61 ls [.int 0]) rfl ?_
            refine lv_if_ne (tgt := 66) hx hb dX11_sum_61 (by decide) (fun c463 => ?_) (fun c463 => ?_)
            · exact absurd c463 (by decide)
            refine lv_iconst (v := 0) hx hb dX11_sum_64 (by decide) ?_
            refine W.widen (k := 0) (n := 0) (Nat.le_of_ble_eq_true rfl) (Nat.le_of_ble_eq_true rfl) ?_
            exact W.zret (v := 0) hx hb hr (by decide) (fun t ht hW => ⟨⟨(0, u437, u438, u439, u440, f441, f442), rfl, ⟨(show (0 ≤ u437.toInt ∧ u437.toInt ≤ 400) by omega), (show ((I 16).toInt ≤ u437.toInt) by omega), (show (u437.toInt ≤ (I 3).toInt) by omega), (show (0 ≤ u438.toInt ∧ u438.toInt ≤ 4000) by omega), (show (0 ≤ u440.toInt ∧ u440.toInt ≤ 60) by omega), (show ((I 20).toInt ≤ u440.toInt) by omega), (show (0 ≤ (0 : Int32).toInt ∧ (0 : Int32).toInt ≤ 1) by omega), (show ((0 : Int32).toInt = 0 → 1 ≤ u438.toInt) by omega), (show ((0 : Int32).toInt = 1 → (f442 (I 19).toNatClampNeg).toInt + (I 16).toInt ≤ ((F 6) (I 19).toNatClampNeg).toInt + u437.toInt) by omega), (show ((0 : Int32).toInt = 1 → PSg (F 4) (F 8) (F 7) f441 f442 gs (I 19).toNatClampNeg gb (gd + 1) (u440.toInt).toNat) from (fun h => absurd h (by decide))), (show TC (F 4) (F 8) (F 7) f441 from hw453)⟩, CB.mk ht hP hD⟩, hS.F ht⟩) hS.2.2 dX11_sum_65
        · skip
          have c432 := i_eq (Eq.refl v430.toInt) (show (43 : Int32).toInt = 43 by decide) c432
          refine lv_iconst (v := 2) hx hb dX11_sum_41 (by decide) ?_
          refine lv_goto (tgt := 46) hx hb dX11_sum_42 (by decide) ?_
          refine lv_istore_n (lv' := [(1, .int 2), (0, .ref o)]) hx hb dX11_sum_46 rfl hl (by decide) rfl (fun ls hl => ?_)
          refine lv_aload_n hx hb dX11_sum_47 rfl (lv_at hl 1 rfl) ?_
          refine lv_dup hx hb dX11_sum_48 rfl ?_
          refine va_get (D := D) (ci := 11) (v := .int u423) (C := RX11) (T := TX11) (N := 49) hx hb hg inGX11 hown hKN.1 hP 0 rfl rfl 16 (by decide) (hg _ kw_1224) (fun _ h9 => h9) rfl dX11_sum_49 ?_
          refine lv_iconst (v := 1) hx hb dX11_sum_52 (by decide) ?_
          refine lv_iadd hx hb dX11_sum_53 ?_
          refine lv_topi (fun v464 ev464 => ?_)
          have hv464 := i_add (Eq.refl u423.toInt) (show (1 : Int32).toInt = 1 by decide) ev464 (by omega) (by omega)
          refine va_put (D := D) (ci := 11) (v := .int v464) (ty := .int) (C := RX11) (T := TX11) (N := 49) hx hb hg inGX11 tyX11 tyX11_ok nmX11 hown hKN.1 hP hD hS 0 rfl rfl 16 (by decide) (hg _ kw_1224) (fun _ h9 => h9) rfl (by decide +kernel) rfl rfl (Nat.le_of_ble_eq_true rfl) dX11_sum_54 (fun H locs hP hD hS => ?_)
          have hP : va_P D vwCl (MW Y o a (upd (upd (upd (upd I 16 v464) 17 g177) 18 g178) 20 g179) J (vf_upd (vf_upd F 5 f180) 6 f181) G) H := hP
          have hD : va_D A (MW Y o a (upd (upd (upd (upd I 16 v464) 17 g177) 18 g178) 20 g179) J (vf_upd (vf_upd F 5 f180) 6 f181) G) := hD
          refine lv_aload_n hx hb dX11_sum_57 rfl (lv_at hl 1 rfl) ?_
          refine cga (rn_V (As := []) (rest := []) (b := o) (m_term l D Y Z H.size o a (upd (upd (upd (upd I 16 v464) 17 g177) 18 g178) 20 g179) J (vf_upd (vf_upd F 5 f180) 6 f181) G gs gb (gd + 1)  (show (0 ≤ v464.toInt ∧ v464.toInt ≤ 400) by omega) (show (0 ≤ (I 3).toInt ∧ (I 3).toInt ≤ 400) by omega) (show (v464.toInt ≤ (I 3).toInt) by omega) (show (0 ≤ g177.toInt ∧ g177.toInt ≤ 4000) by omega) (show (0 ≤ g179.toInt ∧ g179.toInt ≤ 60) by omega) (show (0 ≤ (I 19).toInt ∧ (I 19).toInt ≤ 17) by omega) (show ((f181 (I 19).toNatClampNeg).toInt ≤ v464.toInt) by omega) (show PSg (F 4) (F 8) (F 7) f180 f181 gs (I 19).toNatClampNeg gb ((gd + 1)) (g179.toInt).toNat from (PG_to hr341 rfl (by omega) (by omega) (by omega)))) ⟨hx, hb, hml, hown, hg⟩ lk_X11_268 ⟨CP.blind, va_recv hKN.1 hP (ci := 11) (q0 := 0) rfl rfl, CP.at hP hKN hD⟩ ⟨⟨rfl, rfl⟩, ⟨Nat.le_of_ble_eq_true rfl, Nat.le_of_ble_eq_true rfl⟩, ⟨Nat.le_of_ble_eq_true rfl, Nat.le_of_ble_eq_true rfl⟩⟩ hl.1 rfl (Nat.le_of_ble_eq_true rfl) dX11_sum_58) hP hD hS hA (fun u465 H locs w466 hP hD hS => ?_)
          obtain ⟨u467, u468, u469, u470, u471, f472, f473⟩ := u465
          obtain ⟨hw474, hw475, hw476, hw477, hw478, hw479, hw480, hw481, hw482, hw483, hw484⟩ : (0 ≤ u468.toInt ∧ u468.toInt ≤ 400) ∧ (v464.toInt ≤ u468.toInt) ∧ (u468.toInt ≤ (I 3).toInt) ∧ (0 ≤ u469.toInt ∧ u469.toInt ≤ 4000) ∧ (0 ≤ u471.toInt ∧ u471.toInt ≤ 60) ∧ (g179.toInt ≤ u471.toInt) ∧ (0 ≤ u467.toInt ∧ u467.toInt ≤ 1) ∧ (u467.toInt = 0 → 1 ≤ u469.toInt) ∧ (u467.toInt = 1 → (f473 (I 19).toNatClampNeg).toInt + v464.toInt ≤ (f181 (I 19).toNatClampNeg).toInt + u468.toInt) ∧ (u467.toInt = 1 → PSg (F 4) (F 8) (F 7) f472 f473 gs (I 19).toNatClampNeg gb ((gd + 1) + 1) (u471.toInt).toNat) ∧ TC (F 4) (F 8) (F 7) f472 := w466
          refine W.eq (g2 := F0 m 61 ls [.int u467]) rfl ?_
          have hP : va_P D vwCl (MW Y o a (upd (upd (upd (upd I 16 u468) 17 u469) 18 u470) 20 u471) J (vf_upd (vf_upd F 5 f472) 6 f473) G) H := hP
          have hD : va_D A (MW Y o a (upd (upd (upd (upd I 16 u468) 17 u469) 18 u470) 20 u471) J (vf_upd (vf_upd F 5 f472) 6 f473) G) := hD
          rcases (show u467.toInt = 1 ∨ u467.toInt = 0 by omega) with c485 | c485
          · obtain rfl : u467 = 1 := i_is c485 (by decide)
            clear hw481
            replace hw482 := hw482 (by decide)
            have t486 := hw483 (by decide)
            have t486l := PG_len t486
            have t486d := PG_dep t486
            refine W.eq (g2 := F0 m 61 ls [.int 1]) rfl ?_
            refine lv_if_ne (tgt := 66) hx hb dX11_sum_61 (by decide) (fun c487 => ?_) (fun c487 => ?_)
            rotate_left
            · exact absurd c487 (by decide)
            refine lv_aload_n hx hb dX11_sum_66 rfl (lv_at hl 1 rfl) ?_
            refine lv_iload_n hx hb dX11_sum_67 rfl (lv_at hl 0 rfl) ?_
            refine lv_iconst (v := 0) hx hb dX11_sum_68 (by decide) ?_
            have zi2 : (2 : Int32).toInt = 2 := by decide
            have zi0 : (0 : Int32).toInt = 0 := by decide
            refine cga (rn_V (As := [.int 2, .int 0]) (rest := []) (b := o) (m_puts l D Y Z H.size o a (upd (upd (upd (upd I 16 u468) 17 u469) 18 u470) 20 u471) J (vf_upd (vf_upd F 5 f472) 6 f473) G  2 0 (show (0 ≤ (I 19).toInt ∧ (I 19).toInt ≤ 17) by omega) (show (0 ≤ (2 : Int32).toInt ∧ (2 : Int32).toInt ≤ 15) by omega) (show (0 ≤ (0 : Int32).toInt ∧ (0 : Int32).toInt ≤ 99999) by omega) (show (0 ≤ (f473 (I 19).toNatClampNeg).toInt ∧ (f473 (I 19).toNatClampNeg).toInt ≤ 399) by omega)) ⟨hx, hb, hml, hown, hg⟩ lk_X11_250 ⟨CP.blind, va_recv hKN.1 hP (ci := 11) (q0 := 0) rfl rfl, CP.at hP hKN hD⟩ ⟨⟨rfl, rfl⟩, ⟨Nat.le_of_ble_eq_true rfl, Nat.le_of_ble_eq_true rfl⟩, ⟨Nat.le_of_ble_eq_true rfl, Nat.le_of_ble_eq_true rfl⟩⟩ hl.1 rfl (Nat.le_of_ble_eq_true rfl) dX11_sum_69) hP hD hS hA (fun u488 H locs w489 hP hD hS => ?_)
            obtain ⟨f490, f491⟩ := u488
            have hw492 : PU f472 f490 f473 f491 (I 19).toNatClampNeg (2 : Int32).toInt (0 : Int32).toInt := w489
            clear w489
            refine W.eq (g2 := F0 m 72 ls []) rfl ?_
            have hP : va_P D vwCl (MW Y o a (upd (upd (upd (upd I 16 u468) 17 u469) 18 u470) 20 u471) J (vf_upd (vf_upd F 5 f490) 6 f491) G) H := hP
            have hD : va_D A (MW Y o a (upd (upd (upd (upd I 16 u468) 17 u469) 18 u470) 20 u471) J (vf_upd (vf_upd F 5 f490) 6 f491) G) := hD
            have t493 := PG_pu (e := (((gd + 1) + 1) - 1)) (PG_to (md2 := u471.toInt.toNat) t486 rfl rfl (by omega) (by omega)) hw492 (fun x hx => stp_bin hx (by omega) (by omega) (by omega) (by omega) (by omega) (by omega) rfl) (by omega) (by omega)
            obtain ⟨t493p, t493l⟩ := t493
            refine lv_goto (tgt := 9) hx hb dX11_sum_72 (by decide) ?_
            exact ih342 (u468, u469, u470, u471, f490, f491) H locs ls (by show (400 - u468.toInt).toNat < (400 - g176.toInt).toNat; omega) ⟨hP, hD, hS, lv_sub hl [1] rfl, by omega, by omega, by omega, by omega, by omega, by omega, by omega, (PG_to t493p rfl (by omega) (by omega) (by omega))⟩
          · obtain rfl : u467 = 0 := i_is c485 (by decide)
            have zi0 : (0 : Int32).toInt = 0 := by decide
            replace hw481 := hw481 (by decide)
            clear hw482
            refine W.eq (g2 := F0 m 61 ls [.int 0]) rfl ?_
            refine lv_if_ne (tgt := 66) hx hb dX11_sum_61 (by decide) (fun c494 => ?_) (fun c494 => ?_)
            · exact absurd c494 (by decide)
            refine lv_iconst (v := 0) hx hb dX11_sum_64 (by decide) ?_
            refine W.widen (k := 0) (n := 0) (Nat.le_of_ble_eq_true rfl) (Nat.le_of_ble_eq_true rfl) ?_
            exact W.zret (v := 0) hx hb hr (by decide) (fun t ht hW => ⟨⟨(0, u468, u469, u470, u471, f472, f473), rfl, ⟨(show (0 ≤ u468.toInt ∧ u468.toInt ≤ 400) by omega), (show ((I 16).toInt ≤ u468.toInt) by omega), (show (u468.toInt ≤ (I 3).toInt) by omega), (show (0 ≤ u469.toInt ∧ u469.toInt ≤ 4000) by omega), (show (0 ≤ u471.toInt ∧ u471.toInt ≤ 60) by omega), (show ((I 20).toInt ≤ u471.toInt) by omega), (show (0 ≤ (0 : Int32).toInt ∧ (0 : Int32).toInt ≤ 1) by omega), (show ((0 : Int32).toInt = 0 → 1 ≤ u469.toInt) by omega), (show ((0 : Int32).toInt = 1 → (f473 (I 19).toNatClampNeg).toInt + (I 16).toInt ≤ ((F 6) (I 19).toNatClampNeg).toInt + u468.toInt) by omega), (show ((0 : Int32).toInt = 1 → PSg (F 4) (F 8) (F 7) f472 f473 gs (I 19).toNatClampNeg gb (gd + 1) (u471.toInt).toNat) from (fun h => absurd h (by decide))), (show TC (F 4) (F 8) (F 7) f472 from hw484)⟩, CB.mk ht hP hD⟩, hS.F ht⟩) hS.2.2 dX11_sum_65
  · obtain rfl : u3 = 0 := i_is c21 (by decide)
    have zi0 : (0 : Int32).toInt = 0 := by decide
    replace hw17 := hw17 (by decide)
    clear hw18
    refine W.eq (g2 := F0 m 4 ls [.int 0]) rfl ?_
    refine lv_if_ne (tgt := 9) hx hb dX11_sum_4 (by decide) (fun c495 => ?_) (fun c495 => ?_)
    · exact absurd c495 (by decide)
    refine lv_iconst (v := 0) hx hb dX11_sum_7 (by decide) ?_
    refine W.widen (k := 0) (n := 0) (Nat.le_of_ble_eq_true rfl) (Nat.le_of_ble_eq_true rfl) ?_
    exact W.zret (v := 0) hx hb hr (by decide) (fun t ht hW => ⟨⟨(0, u4, u5, u6, u7, f8, f9), rfl, ⟨(show (0 ≤ u4.toInt ∧ u4.toInt ≤ 400) by omega), (show ((I 16).toInt ≤ u4.toInt) by omega), (show (u4.toInt ≤ (I 3).toInt) by omega), (show (0 ≤ u5.toInt ∧ u5.toInt ≤ 4000) by omega), (show (0 ≤ u7.toInt ∧ u7.toInt ≤ 60) by omega), (show ((I 20).toInt ≤ u7.toInt) by omega), (show (0 ≤ (0 : Int32).toInt ∧ (0 : Int32).toInt ≤ 1) by omega), (show ((0 : Int32).toInt = 0 → 1 ≤ u5.toInt) by omega), (show ((0 : Int32).toInt = 1 → (f9 (I 19).toNatClampNeg).toInt + (I 16).toInt ≤ ((F 6) (I 19).toNatClampNeg).toInt + u4.toInt) by omega), (show ((0 : Int32).toInt = 1 → PSg (F 4) (F 8) (F 7) f8 f9 gs (I 19).toNatClampNeg gb (gd + 1) (u7.toInt).toNat) from (fun h => absurd h (by decide))), (show TC (F 4) (F 8) (F 7) f8 from hw20)⟩, CB.mk ht hP hD⟩, hS.F ht⟩) hS.2.2 dX11_sum_8
set_option maxHeartbeats 4000000 in
set_option maxRecDepth 100000 in
theorem m_compare (l : Launch) (D : va_G) (Y : Nat → ClassId) (Z : Nat → Nat) (sz : Nat) (o : Nat) (a : Nat → Nat) (I : Nat → Int32) (J : Nat → Int64) (F : Nat → Nat → Int32) (G : Nat → Nat → Int64) (gs : Nat → Int32) (gb : Nat) (gd : Nat) (hk_0 : (0 ≤ (I 16).toInt ∧ (I 16).toInt ≤ 400)) (hk_1 : (0 ≤ (I 3).toInt ∧ (I 3).toInt ≤ 400)) (hk_2 : ((I 16).toInt ≤ (I 3).toInt)) (hk_3 : (0 ≤ (I 17).toInt ∧ (I 17).toInt ≤ 4000)) (hk_4 : (0 ≤ (I 20).toInt ∧ (I 20).toInt ≤ 60)) (hk_5 : (0 ≤ (I 19).toInt ∧ (I 19).toInt ≤ 17)) (hk_6 : (((F 6) (I 19).toNatClampNeg).toInt ≤ (I 16).toInt)) (hr_PS : PSg (F 4) (F 8) (F 7) (F 5) (F 6) gs (I 19).toNatClampNeg gb (gd) ((I 20).toInt).toNat) : Met l yX11_compare (.code yX11_compare cX11_compare 5 (some .boolean) :: GW) ({ frames := 6, cells := 0, slots := 0, locals := 130 }) (va_Pc [.ref o] (CP D Y Z (MW Y o a I J F G) sz)) (QG (S := Int32 × Int32 × Int32 × Int32 × Int32 × (Nat → Int32) × (Nat → Int32)) (fun u => some (.int u.1)) (fun u => (0 ≤ u.2.1.toInt ∧ u.2.1.toInt ≤ 400) ∧ ((I 16).toInt ≤ u.2.1.toInt) ∧ (u.2.1.toInt ≤ (I 3).toInt) ∧ (0 ≤ u.2.2.1.toInt ∧ u.2.2.1.toInt ≤ 4000) ∧ (0 ≤ u.2.2.2.2.1.toInt ∧ u.2.2.2.2.1.toInt ≤ 60) ∧ ((I 20).toInt ≤ u.2.2.2.2.1.toInt) ∧ (0 ≤ u.1.toInt ∧ u.1.toInt ≤ 1) ∧ (u.1.toInt = 0 → 1 ≤ u.2.2.1.toInt) ∧ (u.1.toInt = 1 → (u.2.2.2.2.2.2 (I 19).toNatClampNeg).toInt + (I 16).toInt ≤ ((F 6) (I 19).toNatClampNeg).toInt + u.2.1.toInt) ∧ (u.1.toInt = 1 → PSg (F 4) (F 8) (F 7) u.2.2.2.2.2.1 u.2.2.2.2.2.2 gs (I 19).toNatClampNeg gb (gd + 1) (u.2.2.2.2.1.toInt).toNat) ∧ TC (F 4) (F 8) (F 7) u.2.2.2.2.2.1) (fun u => CB D (MW Y o a (upd (upd (upd (upd I 16 u.2.1) 17 u.2.2.1) 18 u.2.2.2.1) 20 u.2.2.2.2.1) J (vf_upd (vf_upd F 5 u.2.2.2.2.2.1) 6 u.2.2.2.2.2.2) G) (va_A (MW Y o a I J F G) sz)) (va_A (MW Y o a I J F G) sz)) 0 0 (va_A (MW Y o a I J F G) sz) := by
  refine Met.ofW (cc := cX11_compare) (maxL := 5) (ret := (some .boolean)) (by decide) rfl ?_
  intro p e s m args below meth c s₁ B hml hv
  obtain ⟨rfl, hsz, hP, hKN, hD0⟩ := hv
  have hx := B.exec
  have hb := B.bytes
  have hr := B.returns
  have hts := atoms_spec (ws := .code yX11_compare cX11_compare 5 (some .boolean) :: GW) B.pre
  have hg : ∀ w ∈ GW, w.before _ s = true := fun w h => hts w (List.mem_cons_of_mem _ h)
  have hown : s.vm.findClass RX11 = some m.cls := findClass_of_methodNamed B.named
  have hlocks := B.notSynchronized
  subst hsz
  have hD := hD0.self (sz := s.heap.size)
  generalize hAe : va_A (MW Y o a I J F G) s.heap.size = A at hD ⊢
  have hA : ∀ q : Nat, s.heap.size ≤ q → A q := fun q h => by rw [← hAe]; exact Or.inr h
  clear hAe hD0 hts B
  have hl := lv_entry ([.ref o]) (n := 5) (Nat.le_of_ble_eq_true rfl)
  rw [lg_entry_eq]
  generalize (lg_sl ([.ref o]) ++ List.replicate (5 - (lg_sl ([.ref o])).length) Slot.unset).toArray = ls at hl ⊢
  have hl : lv_has ls 5 [(0, .ref o)] := hl
  refine w_start (A0 := A) hP (fun H locs hP hS => ?_)
  have hd0 := PG_dep hr_PS
  have hl0 := PG_len hr_PS
  refine lv_aload_n hx hb dX11_compare_0 rfl (lv_at hl 0 rfl) ?_
  refine cga (rn_V (As := []) (rest := []) (b := o) (m_sum l D Y Z H.size o a I J F G gs gb gd  (show (0 ≤ (I 16).toInt ∧ (I 16).toInt ≤ 400) by omega) (show (0 ≤ (I 3).toInt ∧ (I 3).toInt ≤ 400) by omega) (show ((I 16).toInt ≤ (I 3).toInt) by omega) (show (0 ≤ (I 17).toInt ∧ (I 17).toInt ≤ 4000) by omega) (show (0 ≤ (I 20).toInt ∧ (I 20).toInt ≤ 60) by omega) (show (0 ≤ (I 19).toInt ∧ (I 19).toInt ≤ 17) by omega) (show (((F 6) (I 19).toNatClampNeg).toInt ≤ (I 16).toInt) by omega) (show PSg (F 4) (F 8) (F 7) (F 5) (F 6) gs (I 19).toNatClampNeg gb (gd) ((I 20).toInt).toNat from (PG_to hr_PS rfl (by omega) (by omega) (by omega)))) ⟨hx, hb, hml, hown, hg⟩ lk_X11_271 ⟨CP.blind, va_recv hKN.1 hP (ci := 11) (q0 := 0) rfl rfl, CP.at hP hKN hD⟩ ⟨⟨rfl, rfl⟩, ⟨Nat.le_of_ble_eq_true rfl, Nat.le_of_ble_eq_true rfl⟩, ⟨Nat.le_of_ble_eq_true rfl, Nat.le_of_ble_eq_true rfl⟩⟩ hl.1 rfl (Nat.le_of_ble_eq_true rfl) dX11_compare_1) hP hD hS hA (fun u1 H locs w2 hP hD hS => ?_)
  obtain ⟨u3, u4, u5, u6, u7, f8, f9⟩ := u1
  obtain ⟨hw10, hw11, hw12, hw13, hw14, hw15, hw16, hw17, hw18, hw19, hw20⟩ : (0 ≤ u4.toInt ∧ u4.toInt ≤ 400) ∧ ((I 16).toInt ≤ u4.toInt) ∧ (u4.toInt ≤ (I 3).toInt) ∧ (0 ≤ u5.toInt ∧ u5.toInt ≤ 4000) ∧ (0 ≤ u7.toInt ∧ u7.toInt ≤ 60) ∧ ((I 20).toInt ≤ u7.toInt) ∧ (0 ≤ u3.toInt ∧ u3.toInt ≤ 1) ∧ (u3.toInt = 0 → 1 ≤ u5.toInt) ∧ (u3.toInt = 1 → (f9 (I 19).toNatClampNeg).toInt + (I 16).toInt ≤ ((F 6) (I 19).toNatClampNeg).toInt + u4.toInt) ∧ (u3.toInt = 1 → PSg (F 4) (F 8) (F 7) f8 f9 gs (I 19).toNatClampNeg gb (gd + 1) (u7.toInt).toNat) ∧ TC (F 4) (F 8) (F 7) f8 := w2
  refine W.eq (g2 := F0 m 4 ls [.int u3]) rfl ?_
  have hP : va_P D vwCl (MW Y o a (upd (upd (upd (upd I 16 u4) 17 u5) 18 u6) 20 u7) J (vf_upd (vf_upd F 5 f8) 6 f9) G) H := hP
  have hD : va_D A (MW Y o a (upd (upd (upd (upd I 16 u4) 17 u5) 18 u6) 20 u7) J (vf_upd (vf_upd F 5 f8) 6 f9) G) := hD
  rcases (show u3.toInt = 1 ∨ u3.toInt = 0 by omega) with c21 | c21
  · obtain rfl : u3 = 1 := i_is c21 (by decide)
    have zi1 : (1 : Int32).toInt = 1 := by decide
    clear hw17
    replace hw18 := hw18 (by decide)
    have t22 := hw19 (by decide)
    have t22l := PG_len t22
    have t22d := PG_dep t22
    refine W.eq (g2 := F0 m 4 ls [.int 1]) rfl ?_
    refine lv_if_ne (tgt := 9) hx hb dX11_compare_4 (by decide) (fun c23 => ?_) (fun c23 => ?_)
    rotate_left
    · exact absurd c23 (by decide)
    refine lv_aload_n hx hb dX11_compare_9 rfl (lv_at hl 0 rfl) ?_
    refine cga (rn_V (As := []) (rest := []) (b := o) (m_see l D Y Z H.size o a (upd (upd (upd (upd I 16 u4) 17 u5) 18 u6) 20 u7) J (vf_upd (vf_upd F 5 f8) 6 f9) G   (show (0 ≤ u4.toInt ∧ u4.toInt ≤ 400) by omega) (show (0 ≤ (I 3).toInt ∧ (I 3).toInt ≤ 400) by omega) (show (u4.toInt ≤ (I 3).toInt) by omega)) ⟨hx, hb, hml, hown, hg⟩ lk_X11_183 ⟨CP.blind, va_recv hKN.1 hP (ci := 11) (q0 := 0) rfl rfl, CP.at hP hKN hD⟩ ⟨⟨rfl, rfl⟩, ⟨Nat.le_of_ble_eq_true rfl, Nat.le_of_ble_eq_true rfl⟩, ⟨Nat.le_of_ble_eq_true rfl, Nat.le_of_ble_eq_true rfl⟩⟩ hl.1 rfl (Nat.le_of_ble_eq_true rfl) dX11_compare_10) hP hD hS hA (fun u24 H locs w25 hP hD hS => ?_)
    obtain ⟨u26, u27⟩ := u24
    obtain ⟨hw28, hw29, hw30, hw31, hw32⟩ : (0 ≤ u27.toInt ∧ u27.toInt ≤ 400) ∧ (u4.toInt ≤ u27.toInt) ∧ (u27.toInt ≤ (I 3).toInt) ∧ ((u26.toInt = -1 ∧ u27.toInt = (I 3).toInt) ∨ (0 ≤ u26.toInt ∧ u26.toInt ≤ 255 ∧ u27.toInt < (I 3).toInt ∧ ((F 2) u27.toNatClampNeg).toInt ≠ 32)) ∧ (-1 ≤ u26.toInt ∧ u26.toInt ≤ 255) := w25
    refine W.eq (g2 := F0 m 13 ls [.int u26]) rfl ?_
    have hP : va_P D vwCl (MW Y o a (upd (upd (upd (upd I 16 u27) 17 u5) 18 u6) 20 u7) J (vf_upd (vf_upd F 5 f8) 6 f9) G) H := hP
    have hD : va_D A (MW Y o a (upd (upd (upd (upd I 16 u27) 17 u5) 18 u6) 20 u7) J (vf_upd (vf_upd F 5 f8) 6 f9) G) := hD
    refine lv_istore_n (lv' := [(1, .int u26), (0, .ref o)]) hx hb dX11_compare_13 rfl hl (by decide) rfl (fun ls hl => ?_)
    refine lv_aload_n hx hb dX11_compare_14 rfl (lv_at hl 1 rfl) ?_
    refine va_get (D := D) (ci := 11) (v := .int u27) (C := RX11) (T := TX11) (N := 49) hx hb hg inGX11 hown hKN.1 hP 0 rfl rfl 16 (by decide) (hg _ kw_1224) (fun _ h9 => h9) rfl dX11_compare_15 ?_
    refine lv_istore_n (lv' := [(2, .int u27), (1, .int u26), (0, .ref o)]) hx hb dX11_compare_18 rfl hl (by decide) rfl (fun ls hl => ?_)
    refine lv_iload_n hx hb dX11_compare_19 rfl (lv_at hl 1 rfl) ?_
    refine lv_bipush (v := 60) hx hb dX11_compare_20 (by decide) ?_
    refine lv_icmp_eq (tgt := 44) hx hb dX11_compare_22 (by decide) (fun c33 => ?_) (fun c33 => ?_)
    · skip
      have c33 := i_eq (Eq.refl u26.toInt) (show (60 : Int32).toInt = 60 by decide) c33
      refine lv_aload_n hx hb dX11_compare_44 rfl (lv_at hl 2 rfl) ?_
      refine lv_dup hx hb dX11_compare_45 rfl ?_
      refine va_get (D := D) (ci := 11) (v := .int u27) (C := RX11) (T := TX11) (N := 49) hx hb hg inGX11 hown hKN.1 hP 0 rfl rfl 16 (by decide) (hg _ kw_1224) (fun _ h9 => h9) rfl dX11_compare_46 ?_
      refine lv_iconst (v := 1) hx hb dX11_compare_49 (by decide) ?_
      refine lv_iadd hx hb dX11_compare_50 ?_
      refine lv_topi (fun v34 ev34 => ?_)
      have hv34 := i_add (Eq.refl u27.toInt) (show (1 : Int32).toInt = 1 by decide) ev34 (by omega) (by omega)
      refine va_put (D := D) (ci := 11) (v := .int v34) (ty := .int) (C := RX11) (T := TX11) (N := 49) hx hb hg inGX11 tyX11 tyX11_ok nmX11 hown hKN.1 hP hD hS 0 rfl rfl 16 (by decide) (hg _ kw_1224) (fun _ h9 => h9) rfl (by decide +kernel) rfl rfl (Nat.le_of_ble_eq_true rfl) dX11_compare_51 (fun H locs hP hD hS => ?_)
      have hP : va_P D vwCl (MW Y o a (upd (upd (upd (upd I 16 v34) 17 u5) 18 u6) 20 u7) J (vf_upd (vf_upd F 5 f8) 6 f9) G) H := hP
      have hD : va_D A (MW Y o a (upd (upd (upd (upd I 16 v34) 17 u5) 18 u6) 20 u7) J (vf_upd (vf_upd F 5 f8) 6 f9) G) := hD
      refine lv_iload_n hx hb dX11_compare_54 rfl (lv_at hl 1 rfl) ?_
      refine lv_bipush (v := 61) hx hb dX11_compare_55 (by decide) ?_
      refine lv_icmp_eq (tgt := 89) hx hb dX11_compare_57 (by decide) (fun c40 => ?_) (fun c40 => ?_)
      · have c40 := i_eq (Eq.refl u26.toInt) (show (61 : Int32).toInt = 61 by decide) c40; exfalso; omega
      have c40 := i_ne (Eq.refl u26.toInt) (show (61 : Int32).toInt = 61 by decide) c40
      refine lv_aload_n hx hb dX11_compare_60 rfl (lv_at hl 2 rfl) ?_
      refine va_get (D := D) (ci := 11) (v := .int v34) (C := RX11) (T := TX11) (N := 49) hx hb hg inGX11 hown hKN.1 hP 0 rfl rfl 16 (by decide) (hg _ kw_1224) (fun _ h9 => h9) rfl dX11_compare_61 ?_
      refine lv_aload_n hx hb dX11_compare_64 rfl (lv_at hl 2 rfl) ?_
      refine va_get (D := D) (ci := 11) (v := .int (I 3)) (C := RX11) (T := TX11) (N := 49) hx hb hg inGX11 hown hKN.1 hP 0 rfl rfl 3 (by decide) (hg _ kw_1211) (fun _ h9 => h9) rfl dX11_compare_65 ?_
      refine lv_icmp_ge (tgt := 89) hx hb dX11_compare_68 (by decide) (fun c45 => ?_) (fun c45 => ?_)
      · skip
        have c45 := i_le (Eq.refl (I 3).toInt) (Eq.refl v34.toInt) c45
        refine lv_iconst (v := 0) hx hb dX11_compare_89 (by decide) ?_
        refine lv_istore_n (lv' := [(3, .int 0), (2, .int u27), (1, .int u26), (0, .ref o)]) hx hb dX11_compare_90 rfl hl (by decide) rfl (fun ls hl => ?_)
        refine lv_iload_n hx hb dX11_compare_91 rfl (lv_at hl 0 rfl) ?_
        refine lv_if_eq (tgt := 105) hx hb dX11_compare_92 (by decide) (fun c47 => ?_) (fun c47 => ?_)
        rotate_left
        · exact absurd c47 (by decide)
        refine lv_aload_n hx hb dX11_compare_105 rfl (lv_at hl 3 rfl) ?_
        refine lv_iload_n hx hb dX11_compare_106 rfl (lv_at hl 1 rfl) ?_
        refine cga (rn_V (As := [.int u27]) (rest := []) (b := o) (m_makes l D Y Z H.size o a (upd (upd (upd (upd I 16 v34) 17 u5) 18 u6) 20 u7) J (vf_upd (vf_upd F 5 f8) 6 f9) G  u27 (show (0 ≤ u7.toInt ∧ u7.toInt ≤ 60) by omega) (show (0 ≤ u27.toInt ∧ u27.toInt ≤ 400) by omega) (show (0 ≤ u5.toInt ∧ u5.toInt ≤ 4000) by omega)) ⟨hx, hb, hml, hown, hg⟩ lk_X11_258 ⟨CP.blind, va_recv hKN.1 hP (ci := 11) (q0 := 0) rfl rfl, CP.at hP hKN hD⟩ ⟨⟨rfl, rfl⟩, ⟨Nat.le_of_ble_eq_true rfl, Nat.le_of_ble_eq_true rfl⟩, ⟨Nat.le_of_ble_eq_true rfl, Nat.le_of_ble_eq_true rfl⟩⟩ hl.1 rfl (Nat.le_of_ble_eq_true rfl) dX11_compare_107) hP hD hS hA (fun u48 H locs w49 hP hD hS => ?_)
        obtain ⟨u50, u51, u52⟩ := u48
        obtain ⟨hw53, hw54, hw55, hw56, hw57⟩ : (0 ≤ u52.toInt ∧ u52.toInt ≤ 60) ∧ (0 ≤ u51.toInt ∧ u51.toInt ≤ 4000) ∧ (u50.toInt = 1 → u52.toInt = u7.toInt + 1) ∧ (u50.toInt = 0 → (1 ≤ u51.toInt ∧ u52.toInt = u7.toInt)) ∧ (0 ≤ u50.toInt ∧ u50.toInt ≤ 1) := w49
        refine W.eq (g2 := F0 m 110 ls [.int u50]) rfl ?_
        have hP : va_P D vwCl (MW Y o a (upd (upd (upd (upd I 16 v34) 17 u51) 18 u6) 20 u52) J (vf_upd (vf_upd F 5 f8) 6 f9) G) H := hP
        have hD : va_D A (MW Y o a (upd (upd (upd (upd I 16 v34) 17 u51) 18 u6) 20 u52) J (vf_upd (vf_upd F 5 f8) 6 f9) G) := hD
        rcases (show u50.toInt = 1 ∨ u50.toInt = 0 by omega) with c58 | c58
        · obtain rfl : u50 = 1 := i_is c58 (by decide)
          replace hw55 := hw55 (by decide)
          clear hw56
          refine W.eq (g2 := F0 m 110 ls [.int 1]) rfl ?_
          refine lv_if_ne (tgt := 115) hx hb dX11_compare_110 (by decide) (fun c59 => ?_) (fun c59 => ?_)
          rotate_left
          · exact absurd c59 (by decide)
          refine lv_iload_n hx hb dX11_compare_115 rfl (lv_at hl 2 rfl) ?_
          refine lv_bipush (v := 60) hx hb dX11_compare_116 (by decide) ?_
          refine lv_icmp_ne (tgt := 133) hx hb dX11_compare_118 (by decide) (fun c62 => ?_) (fun c62 => ?_)
          · have c62 := i_ne (Eq.refl u26.toInt) (show (60 : Int32).toInt = 60 by decide) c62; exfalso; omega
          have c62 := i_eq (Eq.refl u26.toInt) (show (60 : Int32).toInt = 60 by decide) c62
          refine lv_iload_n hx hb dX11_compare_121 rfl (lv_at hl 0 rfl) ?_
          refine lv_if_eq (tgt := 129) hx hb dX11_compare_122 (by decide) (fun c64 => ?_) (fun c64 => ?_)
          rotate_left
          · exact absurd c64 (by decide)
          refine lv_iconst (v := 0) hx hb dX11_compare_129 (by decide) ?_
          refine lv_goto (tgt := 152) hx hb dX11_compare_130 (by decide) ?_
          refine lv_istore (lv' := [(4, .int 0), (3, .int 0), (2, .int u27), (1, .int u26), (0, .ref o)]) hx hb dX11_compare_152 hl (by decide) rfl (fun ls hl => ?_)
          have t65 := PG_len t22
          have t66 := PG_dep t22
          refine lv_aload_n hx hb dX11_compare_154 rfl (lv_at hl 4 rfl) ?_
          refine cga (rn_V (As := []) (rest := []) (b := o) (m_sum l D Y Z H.size o a (upd (upd (upd (upd I 16 v34) 17 u51) 18 u6) 20 u52) J (vf_upd (vf_upd F 5 f8) 6 f9) G gs gb (gd + 1)  (show (0 ≤ v34.toInt ∧ v34.toInt ≤ 400) by omega) (show (0 ≤ (I 3).toInt ∧ (I 3).toInt ≤ 400) by omega) (show (v34.toInt ≤ (I 3).toInt) by omega) (show (0 ≤ u51.toInt ∧ u51.toInt ≤ 4000) by omega) (show (0 ≤ u52.toInt ∧ u52.toInt ≤ 60) by omega) (show (0 ≤ (I 19).toInt ∧ (I 19).toInt ≤ 17) by omega) (show ((f9 (I 19).toNatClampNeg).toInt ≤ v34.toInt) by omega) (show PSg (F 4) (F 8) (F 7) f8 f9 gs (I 19).toNatClampNeg gb ((gd + 1)) (u52.toInt).toNat from (PG_to t22 rfl (by omega) (by omega) (by omega)))) ⟨hx, hb, hml, hown, hg⟩ lk_X11_271 ⟨CP.blind, va_recv hKN.1 hP (ci := 11) (q0 := 0) rfl rfl, CP.at hP hKN hD⟩ ⟨⟨rfl, rfl⟩, ⟨Nat.le_of_ble_eq_true rfl, Nat.le_of_ble_eq_true rfl⟩, ⟨Nat.le_of_ble_eq_true rfl, Nat.le_of_ble_eq_true rfl⟩⟩ hl.1 rfl (Nat.le_of_ble_eq_true rfl) dX11_compare_155) hP hD hS hA (fun u67 H locs w68 hP hD hS => ?_)
          obtain ⟨u69, u70, u71, u72, u73, f74, f75⟩ := u67
          obtain ⟨hw76, hw77, hw78, hw79, hw80, hw81, hw82, hw83, hw84, hw85, hw86⟩ : (0 ≤ u70.toInt ∧ u70.toInt ≤ 400) ∧ (v34.toInt ≤ u70.toInt) ∧ (u70.toInt ≤ (I 3).toInt) ∧ (0 ≤ u71.toInt ∧ u71.toInt ≤ 4000) ∧ (0 ≤ u73.toInt ∧ u73.toInt ≤ 60) ∧ (u52.toInt ≤ u73.toInt) ∧ (0 ≤ u69.toInt ∧ u69.toInt ≤ 1) ∧ (u69.toInt = 0 → 1 ≤ u71.toInt) ∧ (u69.toInt = 1 → (f75 (I 19).toNatClampNeg).toInt + v34.toInt ≤ (f9 (I 19).toNatClampNeg).toInt + u70.toInt) ∧ (u69.toInt = 1 → PSg (F 4) (F 8) (F 7) f74 f75 gs (I 19).toNatClampNeg gb ((gd + 1) + 1) (u73.toInt).toNat) ∧ TC (F 4) (F 8) (F 7) f74 := w68
          refine W.eq (g2 := F0 m 158 ls [.int u69]) rfl ?_
          have hP : va_P D vwCl (MW Y o a (upd (upd (upd (upd I 16 u70) 17 u71) 18 u72) 20 u73) J (vf_upd (vf_upd F 5 f74) 6 f75) G) H := hP
          have hD : va_D A (MW Y o a (upd (upd (upd (upd I 16 u70) 17 u71) 18 u72) 20 u73) J (vf_upd (vf_upd F 5 f74) 6 f75) G) := hD
          rcases (show u69.toInt = 1 ∨ u69.toInt = 0 by omega) with c87 | c87
          · obtain rfl : u69 = 1 := i_is c87 (by decide)
            clear hw83
            replace hw84 := hw84 (by decide)
            have t88 := hw85 (by decide)
            have t88l := PG_len t88
            have t88d := PG_dep t88
            refine W.eq (g2 := F0 m 158 ls [.int 1]) rfl ?_
            refine lv_if_ne (tgt := 163) hx hb dX11_compare_158 (by decide) (fun c89 => ?_) (fun c89 => ?_)
            rotate_left
            · exact absurd c89 (by decide)
            refine lv_aload_n hx hb dX11_compare_163 rfl (lv_at hl 4 rfl) ?_
            refine lv_bipush (v := 6) hx hb dX11_compare_164 (by decide) ?_
            refine lv_iload hx hb dX11_compare_166 (lv_at hl 0 rfl) ?_
            refine lv_iadd hx hb dX11_compare_168 ?_
            refine lv_topi (fun z90 ez90 => ?_)
            obtain rfl : z90 = 6 := ez90.trans (by decide)
            refine lv_iconst (v := 0) hx hb dX11_compare_169 (by decide) ?_
            have zi6 : (6 : Int32).toInt = 6 := by decide
            have zi0 : (0 : Int32).toInt = 0 := by decide
            refine cga (rn_V (As := [.int 6, .int 0]) (rest := []) (b := o) (m_puts l D Y Z H.size o a (upd (upd (upd (upd I 16 u70) 17 u71) 18 u72) 20 u73) J (vf_upd (vf_upd F 5 f74) 6 f75) G  6 0 (show (0 ≤ (I 19).toInt ∧ (I 19).toInt ≤ 17) by omega) (show (0 ≤ (6 : Int32).toInt ∧ (6 : Int32).toInt ≤ 15) by omega) (show (0 ≤ (0 : Int32).toInt ∧ (0 : Int32).toInt ≤ 99999) by omega) (show (0 ≤ (f75 (I 19).toNatClampNeg).toInt ∧ (f75 (I 19).toNatClampNeg).toInt ≤ 399) by omega)) ⟨hx, hb, hml, hown, hg⟩ lk_X11_250 ⟨CP.blind, va_recv hKN.1 hP (ci := 11) (q0 := 0) rfl rfl, CP.at hP hKN hD⟩ ⟨⟨rfl, rfl⟩, ⟨Nat.le_of_ble_eq_true rfl, Nat.le_of_ble_eq_true rfl⟩, ⟨Nat.le_of_ble_eq_true rfl, Nat.le_of_ble_eq_true rfl⟩⟩ hl.1 rfl (Nat.le_of_ble_eq_true rfl) dX11_compare_170) hP hD hS hA (fun u91 H locs w92 hP hD hS => ?_)
            obtain ⟨f93, f94⟩ := u91
            have hw95 : PU f74 f93 f75 f94 (I 19).toNatClampNeg (6 : Int32).toInt (0 : Int32).toInt := w92
            clear w92
            refine W.eq (g2 := F0 m 173 ls []) rfl ?_
            have hP : va_P D vwCl (MW Y o a (upd (upd (upd (upd I 16 u70) 17 u71) 18 u72) 20 u73) J (vf_upd (vf_upd F 5 f93) 6 f94) G) H := hP
            have hD : va_D A (MW Y o a (upd (upd (upd (upd I 16 u70) 17 u71) 18 u72) 20 u73) J (vf_upd (vf_upd F 5 f93) 6 f94) G) := hD
            have t96 := PG_pu (e := (((gd + 1) + 1) - 1)) (PG_to (md2 := u73.toInt.toNat) t88 rfl rfl (by omega) (by omega)) hw95 (fun x hx => stp_bin hx (by omega) (by omega) (by omega) (by omega) (by omega) (by omega) rfl) (by omega) (by omega)
            obtain ⟨t96p, t96l⟩ := t96
            refine lv_iconst (v := 1) hx hb dX11_compare_173 (by decide) ?_
            refine W.widen (k := 0) (n := 0) (Nat.le_of_ble_eq_true rfl) (Nat.le_of_ble_eq_true rfl) ?_
            exact W.zret (v := 1) hx hb hr (by decide) (fun t ht hW => ⟨⟨(1, u70, u71, u72, u73, f93, f94), rfl, ⟨(show (0 ≤ u70.toInt ∧ u70.toInt ≤ 400) by omega), (show ((I 16).toInt ≤ u70.toInt) by omega), (show (u70.toInt ≤ (I 3).toInt) by omega), (show (0 ≤ u71.toInt ∧ u71.toInt ≤ 4000) by omega), (show (0 ≤ u73.toInt ∧ u73.toInt ≤ 60) by omega), (show ((I 20).toInt ≤ u73.toInt) by omega), (show (0 ≤ (1 : Int32).toInt ∧ (1 : Int32).toInt ≤ 1) by omega), (show ((1 : Int32).toInt = 0 → 1 ≤ u71.toInt) by omega), (show ((1 : Int32).toInt = 1 → (f94 (I 19).toNatClampNeg).toInt + (I 16).toInt ≤ ((F 6) (I 19).toNatClampNeg).toInt + u70.toInt) by omega), (show ((1 : Int32).toInt = 1 → PSg (F 4) (F 8) (F 7) f93 f94 gs (I 19).toNatClampNeg gb (gd + 1) (u73.toInt).toNat) from (fun _ => (PG_to t96p rfl (by omega) (by omega) (by omega)))), (show TC (F 4) (F 8) (F 7) f93 from (PG_tc t96p))⟩, CB.mk ht hP hD⟩, hS.F ht⟩) hS.2.2 dX11_compare_174
          · obtain rfl : u69 = 0 := i_is c87 (by decide)
            have zi0 : (0 : Int32).toInt = 0 := by decide
            replace hw83 := hw83 (by decide)
            clear hw84
            refine W.eq (g2 := F0 m 158 ls [.int 0]) rfl ?_
            refine lv_if_ne (tgt := 163) hx hb dX11_compare_158 (by decide) (fun c97 => ?_) (fun c97 => ?_)
            · exact absurd c97 (by decide)
            refine lv_iconst (v := 0) hx hb dX11_compare_161 (by decide) ?_
            refine W.widen (k := 0) (n := 0) (Nat.le_of_ble_eq_true rfl) (Nat.le_of_ble_eq_true rfl) ?_
            exact W.zret (v := 0) hx hb hr (by decide) (fun t ht hW => ⟨⟨(0, u70, u71, u72, u73, f74, f75), rfl, ⟨(show (0 ≤ u70.toInt ∧ u70.toInt ≤ 400) by omega), (show ((I 16).toInt ≤ u70.toInt) by omega), (show (u70.toInt ≤ (I 3).toInt) by omega), (show (0 ≤ u71.toInt ∧ u71.toInt ≤ 4000) by omega), (show (0 ≤ u73.toInt ∧ u73.toInt ≤ 60) by omega), (show ((I 20).toInt ≤ u73.toInt) by omega), (show (0 ≤ (0 : Int32).toInt ∧ (0 : Int32).toInt ≤ 1) by omega), (show ((0 : Int32).toInt = 0 → 1 ≤ u71.toInt) by omega), (show ((0 : Int32).toInt = 1 → (f75 (I 19).toNatClampNeg).toInt + (I 16).toInt ≤ ((F 6) (I 19).toNatClampNeg).toInt + u70.toInt) by omega), (show ((0 : Int32).toInt = 1 → PSg (F 4) (F 8) (F 7) f74 f75 gs (I 19).toNatClampNeg gb (gd + 1) (u73.toInt).toNat) from (fun h => absurd h (by decide))), (show TC (F 4) (F 8) (F 7) f74 from hw86)⟩, CB.mk ht hP hD⟩, hS.F ht⟩) hS.2.2 dX11_compare_162
        · obtain rfl : u50 = 0 := i_is c58 (by decide)
          have zi0 : (0 : Int32).toInt = 0 := by decide
          clear hw55
          replace hw56 := hw56 (by decide)
          refine W.eq (g2 := F0 m 110 ls [.int 0]) rfl ?_
          refine lv_if_ne (tgt := 115) hx hb dX11_compare_110 (by decide) (fun c98 => ?_) (fun c98 => ?_)
          · exact absurd c98 (by decide)
          refine lv_iconst (v := 0) hx hb dX11_compare_113 (by decide) ?_
          refine W.widen (k := 0) (n := 0) (Nat.le_of_ble_eq_true rfl) (Nat.le_of_ble_eq_true rfl) ?_
          exact W.zret (v := 0) hx hb hr (by decide) (fun t ht hW => ⟨⟨(0, v34, u51, u6, u52, f8, f9), rfl, ⟨(show (0 ≤ v34.toInt ∧ v34.toInt ≤ 400) by omega), (show ((I 16).toInt ≤ v34.toInt) by omega), (show (v34.toInt ≤ (I 3).toInt) by omega), (show (0 ≤ u51.toInt ∧ u51.toInt ≤ 4000) by omega), (show (0 ≤ u52.toInt ∧ u52.toInt ≤ 60) by omega), (show ((I 20).toInt ≤ u52.toInt) by omega), (show (0 ≤ (0 : Int32).toInt ∧ (0 : Int32).toInt ≤ 1) by omega), (show ((0 : Int32).toInt = 0 → 1 ≤ u51.toInt) by omega), (show ((0 : Int32).toInt = 1 → (f9 (I 19).toNatClampNeg).toInt + (I 16).toInt ≤ ((F 6) (I 19).toNatClampNeg).toInt + v34.toInt) by omega), (show ((0 : Int32).toInt = 1 → PSg (F 4) (F 8) (F 7) f8 f9 gs (I 19).toNatClampNeg gb (gd + 1) (u52.toInt).toNat) from (fun h => absurd h (by decide))), (show TC (F 4) (F 8) (F 7) f8 from (PG_tc t22))⟩, CB.mk ht hP hD⟩, hS.F ht⟩) hS.2.2 dX11_compare_114
      · skip
        have c45 := i_nle (Eq.refl (I 3).toInt) (Eq.refl v34.toInt) c45
        refine lv_aload_n hx hb dX11_compare_71 rfl (lv_at hl 2 rfl) ?_
        refine va_get (D := D) (ci := 11) (v := .ref (a 2)) (C := RX11) (T := TX11) (N := 49) hx hb hg inGX11 hown hKN.1 hP 0 rfl rfl 2 (by decide) (hg _ kw_1210) (fun _ h9 => h9) rfl dX11_compare_72 ?_
        refine lv_aload_n hx hb dX11_compare_75 rfl (lv_at hl 2 rfl) ?_
        refine va_get (D := D) (ci := 11) (v := .int v34) (C := RX11) (T := TX11) (N := 49) hx hb hg inGX11 hown hKN.1 hP 0 rfl rfl 16 (by decide) (hg _ kw_1224) (fun _ h9 => h9) rfl dX11_compare_76 ?_
        refine va_bald hx hb hKN.1 hP 3 2 rfl rfl (vp_in_iff.mpr ⟨by omega, by omega⟩) dX11_compare_79 ?_
        refine lv_topi (fun v99 ev99 => ?_)
        have ev99 : v99 = (F 2) v34.toNatClampNeg := ev99
        have qv99 := congrArg Int32.toInt ev99
        refine lv_bipush (v := 61) hx hb dX11_compare_80 (by decide) ?_
        have j102 := rgI v99
        refine lv_icmp_ne (tgt := 89) hx hb dX11_compare_82 (by decide) (fun c103 => ?_) (fun c103 => ?_)
        · skip
          have c103 := i_ne (Eq.refl v99.toInt) (show (61 : Int32).toInt = 61 by decide) c103
          refine lv_iconst (v := 0) hx hb dX11_compare_89 (by decide) ?_
          refine lv_istore_n (lv' := [(3, .int 0), (2, .int u27), (1, .int u26), (0, .ref o)]) hx hb dX11_compare_90 rfl hl (by decide) rfl (fun ls hl => ?_)
          refine lv_iload_n hx hb dX11_compare_91 rfl (lv_at hl 0 rfl) ?_
          refine lv_if_eq (tgt := 105) hx hb dX11_compare_92 (by decide) (fun c105 => ?_) (fun c105 => ?_)
          rotate_left
          · exact absurd c105 (by decide)
          refine lv_aload_n hx hb dX11_compare_105 rfl (lv_at hl 3 rfl) ?_
          refine lv_iload_n hx hb dX11_compare_106 rfl (lv_at hl 1 rfl) ?_
          refine cga (rn_V (As := [.int u27]) (rest := []) (b := o) (m_makes l D Y Z H.size o a (upd (upd (upd (upd I 16 v34) 17 u5) 18 u6) 20 u7) J (vf_upd (vf_upd F 5 f8) 6 f9) G  u27 (show (0 ≤ u7.toInt ∧ u7.toInt ≤ 60) by omega) (show (0 ≤ u27.toInt ∧ u27.toInt ≤ 400) by omega) (show (0 ≤ u5.toInt ∧ u5.toInt ≤ 4000) by omega)) ⟨hx, hb, hml, hown, hg⟩ lk_X11_258 ⟨CP.blind, va_recv hKN.1 hP (ci := 11) (q0 := 0) rfl rfl, CP.at hP hKN hD⟩ ⟨⟨rfl, rfl⟩, ⟨Nat.le_of_ble_eq_true rfl, Nat.le_of_ble_eq_true rfl⟩, ⟨Nat.le_of_ble_eq_true rfl, Nat.le_of_ble_eq_true rfl⟩⟩ hl.1 rfl (Nat.le_of_ble_eq_true rfl) dX11_compare_107) hP hD hS hA (fun u106 H locs w107 hP hD hS => ?_)
          obtain ⟨u108, u109, u110⟩ := u106
          obtain ⟨hw111, hw112, hw113, hw114, hw115⟩ : (0 ≤ u110.toInt ∧ u110.toInt ≤ 60) ∧ (0 ≤ u109.toInt ∧ u109.toInt ≤ 4000) ∧ (u108.toInt = 1 → u110.toInt = u7.toInt + 1) ∧ (u108.toInt = 0 → (1 ≤ u109.toInt ∧ u110.toInt = u7.toInt)) ∧ (0 ≤ u108.toInt ∧ u108.toInt ≤ 1) := w107
          refine W.eq (g2 := F0 m 110 ls [.int u108]) rfl ?_
          have hP : va_P D vwCl (MW Y o a (upd (upd (upd (upd I 16 v34) 17 u109) 18 u6) 20 u110) J (vf_upd (vf_upd F 5 f8) 6 f9) G) H := hP
          have hD : va_D A (MW Y o a (upd (upd (upd (upd I 16 v34) 17 u109) 18 u6) 20 u110) J (vf_upd (vf_upd F 5 f8) 6 f9) G) := hD
          rcases (show u108.toInt = 1 ∨ u108.toInt = 0 by omega) with c116 | c116
          · obtain rfl : u108 = 1 := i_is c116 (by decide)
            replace hw113 := hw113 (by decide)
            clear hw114
            refine W.eq (g2 := F0 m 110 ls [.int 1]) rfl ?_
            refine lv_if_ne (tgt := 115) hx hb dX11_compare_110 (by decide) (fun c117 => ?_) (fun c117 => ?_)
            rotate_left
            · exact absurd c117 (by decide)
            refine lv_iload_n hx hb dX11_compare_115 rfl (lv_at hl 2 rfl) ?_
            refine lv_bipush (v := 60) hx hb dX11_compare_116 (by decide) ?_
            refine lv_icmp_ne (tgt := 133) hx hb dX11_compare_118 (by decide) (fun c120 => ?_) (fun c120 => ?_)
            · have c120 := i_ne (Eq.refl u26.toInt) (show (60 : Int32).toInt = 60 by decide) c120; exfalso; omega
            have c120 := i_eq (Eq.refl u26.toInt) (show (60 : Int32).toInt = 60 by decide) c120
            refine lv_iload_n hx hb dX11_compare_121 rfl (lv_at hl 0 rfl) ?_
            refine lv_if_eq (tgt := 129) hx hb dX11_compare_122 (by decide) (fun c122 => ?_) (fun c122 => ?_)
            rotate_left
            · exact absurd c122 (by decide)
            refine lv_iconst (v := 0) hx hb dX11_compare_129 (by decide) ?_
            refine lv_goto (tgt := 152) hx hb dX11_compare_130 (by decide) ?_
            refine lv_istore (lv' := [(4, .int 0), (3, .int 0), (2, .int u27), (1, .int u26), (0, .ref o)]) hx hb dX11_compare_152 hl (by decide) rfl (fun ls hl => ?_)
            have t123 := PG_len t22
            have t124 := PG_dep t22
            refine lv_aload_n hx hb dX11_compare_154 rfl (lv_at hl 4 rfl) ?_
            refine cga (rn_V (As := []) (rest := []) (b := o) (m_sum l D Y Z H.size o a (upd (upd (upd (upd I 16 v34) 17 u109) 18 u6) 20 u110) J (vf_upd (vf_upd F 5 f8) 6 f9) G gs gb (gd + 1)  (show (0 ≤ v34.toInt ∧ v34.toInt ≤ 400) by omega) (show (0 ≤ (I 3).toInt ∧ (I 3).toInt ≤ 400) by omega) (show (v34.toInt ≤ (I 3).toInt) by omega) (show (0 ≤ u109.toInt ∧ u109.toInt ≤ 4000) by omega) (show (0 ≤ u110.toInt ∧ u110.toInt ≤ 60) by omega) (show (0 ≤ (I 19).toInt ∧ (I 19).toInt ≤ 17) by omega) (show ((f9 (I 19).toNatClampNeg).toInt ≤ v34.toInt) by omega) (show PSg (F 4) (F 8) (F 7) f8 f9 gs (I 19).toNatClampNeg gb ((gd + 1)) (u110.toInt).toNat from (PG_to t22 rfl (by omega) (by omega) (by omega)))) ⟨hx, hb, hml, hown, hg⟩ lk_X11_271 ⟨CP.blind, va_recv hKN.1 hP (ci := 11) (q0 := 0) rfl rfl, CP.at hP hKN hD⟩ ⟨⟨rfl, rfl⟩, ⟨Nat.le_of_ble_eq_true rfl, Nat.le_of_ble_eq_true rfl⟩, ⟨Nat.le_of_ble_eq_true rfl, Nat.le_of_ble_eq_true rfl⟩⟩ hl.1 rfl (Nat.le_of_ble_eq_true rfl) dX11_compare_155) hP hD hS hA (fun u125 H locs w126 hP hD hS => ?_)
            obtain ⟨u127, u128, u129, u130, u131, f132, f133⟩ := u125
            obtain ⟨hw134, hw135, hw136, hw137, hw138, hw139, hw140, hw141, hw142, hw143, hw144⟩ : (0 ≤ u128.toInt ∧ u128.toInt ≤ 400) ∧ (v34.toInt ≤ u128.toInt) ∧ (u128.toInt ≤ (I 3).toInt) ∧ (0 ≤ u129.toInt ∧ u129.toInt ≤ 4000) ∧ (0 ≤ u131.toInt ∧ u131.toInt ≤ 60) ∧ (u110.toInt ≤ u131.toInt) ∧ (0 ≤ u127.toInt ∧ u127.toInt ≤ 1) ∧ (u127.toInt = 0 → 1 ≤ u129.toInt) ∧ (u127.toInt = 1 → (f133 (I 19).toNatClampNeg).toInt + v34.toInt ≤ (f9 (I 19).toNatClampNeg).toInt + u128.toInt) ∧ (u127.toInt = 1 → PSg (F 4) (F 8) (F 7) f132 f133 gs (I 19).toNatClampNeg gb ((gd + 1) + 1) (u131.toInt).toNat) ∧ TC (F 4) (F 8) (F 7) f132 := w126
            refine W.eq (g2 := F0 m 158 ls [.int u127]) rfl ?_
            have hP : va_P D vwCl (MW Y o a (upd (upd (upd (upd I 16 u128) 17 u129) 18 u130) 20 u131) J (vf_upd (vf_upd F 5 f132) 6 f133) G) H := hP
            have hD : va_D A (MW Y o a (upd (upd (upd (upd I 16 u128) 17 u129) 18 u130) 20 u131) J (vf_upd (vf_upd F 5 f132) 6 f133) G) := hD
            rcases (show u127.toInt = 1 ∨ u127.toInt = 0 by omega) with c145 | c145
            · obtain rfl : u127 = 1 := i_is c145 (by decide)
              clear hw141
              replace hw142 := hw142 (by decide)
              have t146 := hw143 (by decide)
              have t146l := PG_len t146
              have t146d := PG_dep t146
              refine W.eq (g2 := F0 m 158 ls [.int 1]) rfl ?_
              refine lv_if_ne (tgt := 163) hx hb dX11_compare_158 (by decide) (fun c147 => ?_) (fun c147 => ?_)
              rotate_left
              · exact absurd c147 (by decide)
              refine lv_aload_n hx hb dX11_compare_163 rfl (lv_at hl 4 rfl) ?_
              refine lv_bipush (v := 6) hx hb dX11_compare_164 (by decide) ?_
              refine lv_iload hx hb dX11_compare_166 (lv_at hl 0 rfl) ?_
              refine lv_iadd hx hb dX11_compare_168 ?_
              refine lv_topi (fun z148 ez148 => ?_)
              obtain rfl : z148 = 6 := ez148.trans (by decide)
              refine lv_iconst (v := 0) hx hb dX11_compare_169 (by decide) ?_
              have zi6 : (6 : Int32).toInt = 6 := by decide
              have zi0 : (0 : Int32).toInt = 0 := by decide
              refine cga (rn_V (As := [.int 6, .int 0]) (rest := []) (b := o) (m_puts l D Y Z H.size o a (upd (upd (upd (upd I 16 u128) 17 u129) 18 u130) 20 u131) J (vf_upd (vf_upd F 5 f132) 6 f133) G  6 0 (show (0 ≤ (I 19).toInt ∧ (I 19).toInt ≤ 17) by omega) (show (0 ≤ (6 : Int32).toInt ∧ (6 : Int32).toInt ≤ 15) by omega) (show (0 ≤ (0 : Int32).toInt ∧ (0 : Int32).toInt ≤ 99999) by omega) (show (0 ≤ (f133 (I 19).toNatClampNeg).toInt ∧ (f133 (I 19).toNatClampNeg).toInt ≤ 399) by omega)) ⟨hx, hb, hml, hown, hg⟩ lk_X11_250 ⟨CP.blind, va_recv hKN.1 hP (ci := 11) (q0 := 0) rfl rfl, CP.at hP hKN hD⟩ ⟨⟨rfl, rfl⟩, ⟨Nat.le_of_ble_eq_true rfl, Nat.le_of_ble_eq_true rfl⟩, ⟨Nat.le_of_ble_eq_true rfl, Nat.le_of_ble_eq_true rfl⟩⟩ hl.1 rfl (Nat.le_of_ble_eq_true rfl) dX11_compare_170) hP hD hS hA (fun u149 H locs w150 hP hD hS => ?_)
              obtain ⟨f151, f152⟩ := u149
              have hw153 : PU f132 f151 f133 f152 (I 19).toNatClampNeg (6 : Int32).toInt (0 : Int32).toInt := w150
              clear w150
              refine W.eq (g2 := F0 m 173 ls []) rfl ?_
              have hP : va_P D vwCl (MW Y o a (upd (upd (upd (upd I 16 u128) 17 u129) 18 u130) 20 u131) J (vf_upd (vf_upd F 5 f151) 6 f152) G) H := hP
              have hD : va_D A (MW Y o a (upd (upd (upd (upd I 16 u128) 17 u129) 18 u130) 20 u131) J (vf_upd (vf_upd F 5 f151) 6 f152) G) := hD
              have t154 := PG_pu (e := (((gd + 1) + 1) - 1)) (PG_to (md2 := u131.toInt.toNat) t146 rfl rfl (by omega) (by omega)) hw153 (fun x hx => stp_bin hx (by omega) (by omega) (by omega) (by omega) (by omega) (by omega) rfl) (by omega) (by omega)
              obtain ⟨t154p, t154l⟩ := t154
              refine lv_iconst (v := 1) hx hb dX11_compare_173 (by decide) ?_
              refine W.widen (k := 0) (n := 0) (Nat.le_of_ble_eq_true rfl) (Nat.le_of_ble_eq_true rfl) ?_
              exact W.zret (v := 1) hx hb hr (by decide) (fun t ht hW => ⟨⟨(1, u128, u129, u130, u131, f151, f152), rfl, ⟨(show (0 ≤ u128.toInt ∧ u128.toInt ≤ 400) by omega), (show ((I 16).toInt ≤ u128.toInt) by omega), (show (u128.toInt ≤ (I 3).toInt) by omega), (show (0 ≤ u129.toInt ∧ u129.toInt ≤ 4000) by omega), (show (0 ≤ u131.toInt ∧ u131.toInt ≤ 60) by omega), (show ((I 20).toInt ≤ u131.toInt) by omega), (show (0 ≤ (1 : Int32).toInt ∧ (1 : Int32).toInt ≤ 1) by omega), (show ((1 : Int32).toInt = 0 → 1 ≤ u129.toInt) by omega), (show ((1 : Int32).toInt = 1 → (f152 (I 19).toNatClampNeg).toInt + (I 16).toInt ≤ ((F 6) (I 19).toNatClampNeg).toInt + u128.toInt) by omega), (show ((1 : Int32).toInt = 1 → PSg (F 4) (F 8) (F 7) f151 f152 gs (I 19).toNatClampNeg gb (gd + 1) (u131.toInt).toNat) from (fun _ => (PG_to t154p rfl (by omega) (by omega) (by omega)))), (show TC (F 4) (F 8) (F 7) f151 from (PG_tc t154p))⟩, CB.mk ht hP hD⟩, hS.F ht⟩) hS.2.2 dX11_compare_174
            · obtain rfl : u127 = 0 := i_is c145 (by decide)
              have zi0 : (0 : Int32).toInt = 0 := by decide
              replace hw141 := hw141 (by decide)
              clear hw142
              refine W.eq (g2 := F0 m 158 ls [.int 0]) rfl ?_
              refine lv_if_ne (tgt := 163) hx hb dX11_compare_158 (by decide) (fun c155 => ?_) (fun c155 => ?_)
              · exact absurd c155 (by decide)
              refine lv_iconst (v := 0) hx hb dX11_compare_161 (by decide) ?_
              refine W.widen (k := 0) (n := 0) (Nat.le_of_ble_eq_true rfl) (Nat.le_of_ble_eq_true rfl) ?_
              exact W.zret (v := 0) hx hb hr (by decide) (fun t ht hW => ⟨⟨(0, u128, u129, u130, u131, f132, f133), rfl, ⟨(show (0 ≤ u128.toInt ∧ u128.toInt ≤ 400) by omega), (show ((I 16).toInt ≤ u128.toInt) by omega), (show (u128.toInt ≤ (I 3).toInt) by omega), (show (0 ≤ u129.toInt ∧ u129.toInt ≤ 4000) by omega), (show (0 ≤ u131.toInt ∧ u131.toInt ≤ 60) by omega), (show ((I 20).toInt ≤ u131.toInt) by omega), (show (0 ≤ (0 : Int32).toInt ∧ (0 : Int32).toInt ≤ 1) by omega), (show ((0 : Int32).toInt = 0 → 1 ≤ u129.toInt) by omega), (show ((0 : Int32).toInt = 1 → (f133 (I 19).toNatClampNeg).toInt + (I 16).toInt ≤ ((F 6) (I 19).toNatClampNeg).toInt + u128.toInt) by omega), (show ((0 : Int32).toInt = 1 → PSg (F 4) (F 8) (F 7) f132 f133 gs (I 19).toNatClampNeg gb (gd + 1) (u131.toInt).toNat) from (fun h => absurd h (by decide))), (show TC (F 4) (F 8) (F 7) f132 from hw144)⟩, CB.mk ht hP hD⟩, hS.F ht⟩) hS.2.2 dX11_compare_162
          · obtain rfl : u108 = 0 := i_is c116 (by decide)
            have zi0 : (0 : Int32).toInt = 0 := by decide
            clear hw113
            replace hw114 := hw114 (by decide)
            refine W.eq (g2 := F0 m 110 ls [.int 0]) rfl ?_
            refine lv_if_ne (tgt := 115) hx hb dX11_compare_110 (by decide) (fun c156 => ?_) (fun c156 => ?_)
            · exact absurd c156 (by decide)
            refine lv_iconst (v := 0) hx hb dX11_compare_113 (by decide) ?_
            refine W.widen (k := 0) (n := 0) (Nat.le_of_ble_eq_true rfl) (Nat.le_of_ble_eq_true rfl) ?_
            exact W.zret (v := 0) hx hb hr (by decide) (fun t ht hW => ⟨⟨(0, v34, u109, u6, u110, f8, f9), rfl, ⟨(show (0 ≤ v34.toInt ∧ v34.toInt ≤ 400) by omega), (show ((I 16).toInt ≤ v34.toInt) by omega), (show (v34.toInt ≤ (I 3).toInt) by omega), (show (0 ≤ u109.toInt ∧ u109.toInt ≤ 4000) by omega), (show (0 ≤ u110.toInt ∧ u110.toInt ≤ 60) by omega), (show ((I 20).toInt ≤ u110.toInt) by omega), (show (0 ≤ (0 : Int32).toInt ∧ (0 : Int32).toInt ≤ 1) by omega), (show ((0 : Int32).toInt = 0 → 1 ≤ u109.toInt) by omega), (show ((0 : Int32).toInt = 1 → (f9 (I 19).toNatClampNeg).toInt + (I 16).toInt ≤ ((F 6) (I 19).toNatClampNeg).toInt + v34.toInt) by omega), (show ((0 : Int32).toInt = 1 → PSg (F 4) (F 8) (F 7) f8 f9 gs (I 19).toNatClampNeg gb (gd + 1) (u110.toInt).toNat) from (fun h => absurd h (by decide))), (show TC (F 4) (F 8) (F 7) f8 from (PG_tc t22))⟩, CB.mk ht hP hD⟩, hS.F ht⟩) hS.2.2 dX11_compare_114
        · skip
          have c103 := i_eq (Eq.refl v99.toInt) (show (61 : Int32).toInt = 61 by decide) c103
          refine lv_iconst (v := 1) hx hb dX11_compare_85 (by decide) ?_
          refine lv_goto (tgt := 90) hx hb dX11_compare_86 (by decide) ?_
          refine lv_istore_n (lv' := [(3, .int 1), (2, .int u27), (1, .int u26), (0, .ref o)]) hx hb dX11_compare_90 rfl hl (by decide) rfl (fun ls hl => ?_)
          refine lv_iload_n hx hb dX11_compare_91 rfl (lv_at hl 0 rfl) ?_
          refine lv_if_eq (tgt := 105) hx hb dX11_compare_92 (by decide) (fun c159 => ?_) (fun c159 => ?_)
          · exact absurd c159 (by decide)
          refine lv_aload_n hx hb dX11_compare_95 rfl (lv_at hl 3 rfl) ?_
          refine lv_dup hx hb dX11_compare_96 rfl ?_
          refine va_get (D := D) (ci := 11) (v := .int v34) (C := RX11) (T := TX11) (N := 49) hx hb hg inGX11 hown hKN.1 hP 0 rfl rfl 16 (by decide) (hg _ kw_1224) (fun _ h9 => h9) rfl dX11_compare_97 ?_
          refine lv_iconst (v := 1) hx hb dX11_compare_100 (by decide) ?_
          refine lv_iadd hx hb dX11_compare_101 ?_
          refine lv_topi (fun v160 ev160 => ?_)
          have hv160 := i_add (Eq.refl v34.toInt) (show (1 : Int32).toInt = 1 by decide) ev160 (by omega) (by omega)
          refine va_put (D := D) (ci := 11) (v := .int v160) (ty := .int) (C := RX11) (T := TX11) (N := 49) hx hb hg inGX11 tyX11 tyX11_ok nmX11 hown hKN.1 hP hD hS 0 rfl rfl 16 (by decide) (hg _ kw_1224) (fun _ h9 => h9) rfl (by decide +kernel) rfl rfl (Nat.le_of_ble_eq_true rfl) dX11_compare_102 (fun H locs hP hD hS => ?_)
          have hP : va_P D vwCl (MW Y o a (upd (upd (upd (upd I 16 v160) 17 u5) 18 u6) 20 u7) J (vf_upd (vf_upd F 5 f8) 6 f9) G) H := hP
          have hD : va_D A (MW Y o a (upd (upd (upd (upd I 16 v160) 17 u5) 18 u6) 20 u7) J (vf_upd (vf_upd F 5 f8) 6 f9) G) := hD
          refine lv_aload_n hx hb dX11_compare_105 rfl (lv_at hl 3 rfl) ?_
          refine lv_iload_n hx hb dX11_compare_106 rfl (lv_at hl 1 rfl) ?_
          refine cga (rn_V (As := [.int u27]) (rest := []) (b := o) (m_makes l D Y Z H.size o a (upd (upd (upd (upd I 16 v160) 17 u5) 18 u6) 20 u7) J (vf_upd (vf_upd F 5 f8) 6 f9) G  u27 (show (0 ≤ u7.toInt ∧ u7.toInt ≤ 60) by omega) (show (0 ≤ u27.toInt ∧ u27.toInt ≤ 400) by omega) (show (0 ≤ u5.toInt ∧ u5.toInt ≤ 4000) by omega)) ⟨hx, hb, hml, hown, hg⟩ lk_X11_258 ⟨CP.blind, va_recv hKN.1 hP (ci := 11) (q0 := 0) rfl rfl, CP.at hP hKN hD⟩ ⟨⟨rfl, rfl⟩, ⟨Nat.le_of_ble_eq_true rfl, Nat.le_of_ble_eq_true rfl⟩, ⟨Nat.le_of_ble_eq_true rfl, Nat.le_of_ble_eq_true rfl⟩⟩ hl.1 rfl (Nat.le_of_ble_eq_true rfl) dX11_compare_107) hP hD hS hA (fun u161 H locs w162 hP hD hS => ?_)
          obtain ⟨u163, u164, u165⟩ := u161
          obtain ⟨hw166, hw167, hw168, hw169, hw170⟩ : (0 ≤ u165.toInt ∧ u165.toInt ≤ 60) ∧ (0 ≤ u164.toInt ∧ u164.toInt ≤ 4000) ∧ (u163.toInt = 1 → u165.toInt = u7.toInt + 1) ∧ (u163.toInt = 0 → (1 ≤ u164.toInt ∧ u165.toInt = u7.toInt)) ∧ (0 ≤ u163.toInt ∧ u163.toInt ≤ 1) := w162
          refine W.eq (g2 := F0 m 110 ls [.int u163]) rfl ?_
          have hP : va_P D vwCl (MW Y o a (upd (upd (upd (upd I 16 v160) 17 u164) 18 u6) 20 u165) J (vf_upd (vf_upd F 5 f8) 6 f9) G) H := hP
          have hD : va_D A (MW Y o a (upd (upd (upd (upd I 16 v160) 17 u164) 18 u6) 20 u165) J (vf_upd (vf_upd F 5 f8) 6 f9) G) := hD
          rcases (show u163.toInt = 1 ∨ u163.toInt = 0 by omega) with c171 | c171
          · obtain rfl : u163 = 1 := i_is c171 (by decide)
            replace hw168 := hw168 (by decide)
            clear hw169
            refine W.eq (g2 := F0 m 110 ls [.int 1]) rfl ?_
            refine lv_if_ne (tgt := 115) hx hb dX11_compare_110 (by decide) (fun c172 => ?_) (fun c172 => ?_)
            rotate_left
            · exact absurd c172 (by decide)
            refine lv_iload_n hx hb dX11_compare_115 rfl (lv_at hl 2 rfl) ?_
            refine lv_bipush (v := 60) hx hb dX11_compare_116 (by decide) ?_
            refine lv_icmp_ne (tgt := 133) hx hb dX11_compare_118 (by decide) (fun c175 => ?_) (fun c175 => ?_)
            · have c175 := i_ne (Eq.refl u26.toInt) (show (60 : Int32).toInt = 60 by decide) c175; exfalso; omega
            have c175 := i_eq (Eq.refl u26.toInt) (show (60 : Int32).toInt = 60 by decide) c175
            refine lv_iload_n hx hb dX11_compare_121 rfl (lv_at hl 0 rfl) ?_
            refine lv_if_eq (tgt := 129) hx hb dX11_compare_122 (by decide) (fun c177 => ?_) (fun c177 => ?_)
            · exact absurd c177 (by decide)
            refine lv_iconst (v := 1) hx hb dX11_compare_125 (by decide) ?_
            refine lv_goto (tgt := 152) hx hb dX11_compare_126 (by decide) ?_
            refine lv_istore (lv' := [(4, .int 1), (3, .int 1), (2, .int u27), (1, .int u26), (0, .ref o)]) hx hb dX11_compare_152 hl (by decide) rfl (fun ls hl => ?_)
            have t178 := PG_len t22
            have t179 := PG_dep t22
            refine lv_aload_n hx hb dX11_compare_154 rfl (lv_at hl 4 rfl) ?_
            refine cga (rn_V (As := []) (rest := []) (b := o) (m_sum l D Y Z H.size o a (upd (upd (upd (upd I 16 v160) 17 u164) 18 u6) 20 u165) J (vf_upd (vf_upd F 5 f8) 6 f9) G gs gb (gd + 1)  (show (0 ≤ v160.toInt ∧ v160.toInt ≤ 400) by omega) (show (0 ≤ (I 3).toInt ∧ (I 3).toInt ≤ 400) by omega) (show (v160.toInt ≤ (I 3).toInt) by omega) (show (0 ≤ u164.toInt ∧ u164.toInt ≤ 4000) by omega) (show (0 ≤ u165.toInt ∧ u165.toInt ≤ 60) by omega) (show (0 ≤ (I 19).toInt ∧ (I 19).toInt ≤ 17) by omega) (show ((f9 (I 19).toNatClampNeg).toInt ≤ v160.toInt) by omega) (show PSg (F 4) (F 8) (F 7) f8 f9 gs (I 19).toNatClampNeg gb ((gd + 1)) (u165.toInt).toNat from (PG_to t22 rfl (by omega) (by omega) (by omega)))) ⟨hx, hb, hml, hown, hg⟩ lk_X11_271 ⟨CP.blind, va_recv hKN.1 hP (ci := 11) (q0 := 0) rfl rfl, CP.at hP hKN hD⟩ ⟨⟨rfl, rfl⟩, ⟨Nat.le_of_ble_eq_true rfl, Nat.le_of_ble_eq_true rfl⟩, ⟨Nat.le_of_ble_eq_true rfl, Nat.le_of_ble_eq_true rfl⟩⟩ hl.1 rfl (Nat.le_of_ble_eq_true rfl) dX11_compare_155) hP hD hS hA (fun u180 H locs w181 hP hD hS => ?_)
            obtain ⟨u182, u183, u184, u185, u186, f187, f188⟩ := u180
            obtain ⟨hw189, hw190, hw191, hw192, hw193, hw194, hw195, hw196, hw197, hw198, hw199⟩ : (0 ≤ u183.toInt ∧ u183.toInt ≤ 400) ∧ (v160.toInt ≤ u183.toInt) ∧ (u183.toInt ≤ (I 3).toInt) ∧ (0 ≤ u184.toInt ∧ u184.toInt ≤ 4000) ∧ (0 ≤ u186.toInt ∧ u186.toInt ≤ 60) ∧ (u165.toInt ≤ u186.toInt) ∧ (0 ≤ u182.toInt ∧ u182.toInt ≤ 1) ∧ (u182.toInt = 0 → 1 ≤ u184.toInt) ∧ (u182.toInt = 1 → (f188 (I 19).toNatClampNeg).toInt + v160.toInt ≤ (f9 (I 19).toNatClampNeg).toInt + u183.toInt) ∧ (u182.toInt = 1 → PSg (F 4) (F 8) (F 7) f187 f188 gs (I 19).toNatClampNeg gb ((gd + 1) + 1) (u186.toInt).toNat) ∧ TC (F 4) (F 8) (F 7) f187 := w181
            refine W.eq (g2 := F0 m 158 ls [.int u182]) rfl ?_
            have hP : va_P D vwCl (MW Y o a (upd (upd (upd (upd I 16 u183) 17 u184) 18 u185) 20 u186) J (vf_upd (vf_upd F 5 f187) 6 f188) G) H := hP
            have hD : va_D A (MW Y o a (upd (upd (upd (upd I 16 u183) 17 u184) 18 u185) 20 u186) J (vf_upd (vf_upd F 5 f187) 6 f188) G) := hD
            rcases (show u182.toInt = 1 ∨ u182.toInt = 0 by omega) with c200 | c200
            · obtain rfl : u182 = 1 := i_is c200 (by decide)
              clear hw196
              replace hw197 := hw197 (by decide)
              have t201 := hw198 (by decide)
              have t201l := PG_len t201
              have t201d := PG_dep t201
              refine W.eq (g2 := F0 m 158 ls [.int 1]) rfl ?_
              refine lv_if_ne (tgt := 163) hx hb dX11_compare_158 (by decide) (fun c202 => ?_) (fun c202 => ?_)
              rotate_left
              · exact absurd c202 (by decide)
              refine lv_aload_n hx hb dX11_compare_163 rfl (lv_at hl 4 rfl) ?_
              refine lv_bipush (v := 6) hx hb dX11_compare_164 (by decide) ?_
              refine lv_iload hx hb dX11_compare_166 (lv_at hl 0 rfl) ?_
              refine lv_iadd hx hb dX11_compare_168 ?_
              refine lv_topi (fun z203 ez203 => ?_)
              obtain rfl : z203 = 7 := ez203.trans (by decide)
              refine lv_iconst (v := 0) hx hb dX11_compare_169 (by decide) ?_
              have zi7 : (7 : Int32).toInt = 7 := by decide
              have zi0 : (0 : Int32).toInt = 0 := by decide
              refine cga (rn_V (As := [.int 7, .int 0]) (rest := []) (b := o) (m_puts l D Y Z H.size o a (upd (upd (upd (upd I 16 u183) 17 u184) 18 u185) 20 u186) J (vf_upd (vf_upd F 5 f187) 6 f188) G  7 0 (show (0 ≤ (I 19).toInt ∧ (I 19).toInt ≤ 17) by omega) (show (0 ≤ (7 : Int32).toInt ∧ (7 : Int32).toInt ≤ 15) by omega) (show (0 ≤ (0 : Int32).toInt ∧ (0 : Int32).toInt ≤ 99999) by omega) (show (0 ≤ (f188 (I 19).toNatClampNeg).toInt ∧ (f188 (I 19).toNatClampNeg).toInt ≤ 399) by omega)) ⟨hx, hb, hml, hown, hg⟩ lk_X11_250 ⟨CP.blind, va_recv hKN.1 hP (ci := 11) (q0 := 0) rfl rfl, CP.at hP hKN hD⟩ ⟨⟨rfl, rfl⟩, ⟨Nat.le_of_ble_eq_true rfl, Nat.le_of_ble_eq_true rfl⟩, ⟨Nat.le_of_ble_eq_true rfl, Nat.le_of_ble_eq_true rfl⟩⟩ hl.1 rfl (Nat.le_of_ble_eq_true rfl) dX11_compare_170) hP hD hS hA (fun u204 H locs w205 hP hD hS => ?_)
              obtain ⟨f206, f207⟩ := u204
              have hw208 : PU f187 f206 f188 f207 (I 19).toNatClampNeg (7 : Int32).toInt (0 : Int32).toInt := w205
              clear w205
              refine W.eq (g2 := F0 m 173 ls []) rfl ?_
              have hP : va_P D vwCl (MW Y o a (upd (upd (upd (upd I 16 u183) 17 u184) 18 u185) 20 u186) J (vf_upd (vf_upd F 5 f206) 6 f207) G) H := hP
              have hD : va_D A (MW Y o a (upd (upd (upd (upd I 16 u183) 17 u184) 18 u185) 20 u186) J (vf_upd (vf_upd F 5 f206) 6 f207) G) := hD
              have t209 := PG_pu (e := (((gd + 1) + 1) - 1)) (PG_to (md2 := u186.toInt.toNat) t201 rfl rfl (by omega) (by omega)) hw208 (fun x hx => stp_bin hx (by omega) (by omega) (by omega) (by omega) (by omega) (by omega) rfl) (by omega) (by omega)
              obtain ⟨t209p, t209l⟩ := t209
              refine lv_iconst (v := 1) hx hb dX11_compare_173 (by decide) ?_
              refine W.widen (k := 0) (n := 0) (Nat.le_of_ble_eq_true rfl) (Nat.le_of_ble_eq_true rfl) ?_
              exact W.zret (v := 1) hx hb hr (by decide) (fun t ht hW => ⟨⟨(1, u183, u184, u185, u186, f206, f207), rfl, ⟨(show (0 ≤ u183.toInt ∧ u183.toInt ≤ 400) by omega), (show ((I 16).toInt ≤ u183.toInt) by omega), (show (u183.toInt ≤ (I 3).toInt) by omega), (show (0 ≤ u184.toInt ∧ u184.toInt ≤ 4000) by omega), (show (0 ≤ u186.toInt ∧ u186.toInt ≤ 60) by omega), (show ((I 20).toInt ≤ u186.toInt) by omega), (show (0 ≤ (1 : Int32).toInt ∧ (1 : Int32).toInt ≤ 1) by omega), (show ((1 : Int32).toInt = 0 → 1 ≤ u184.toInt) by omega), (show ((1 : Int32).toInt = 1 → (f207 (I 19).toNatClampNeg).toInt + (I 16).toInt ≤ ((F 6) (I 19).toNatClampNeg).toInt + u183.toInt) by omega), (show ((1 : Int32).toInt = 1 → PSg (F 4) (F 8) (F 7) f206 f207 gs (I 19).toNatClampNeg gb (gd + 1) (u186.toInt).toNat) from (fun _ => (PG_to t209p rfl (by omega) (by omega) (by omega)))), (show TC (F 4) (F 8) (F 7) f206 from (PG_tc t209p))⟩, CB.mk ht hP hD⟩, hS.F ht⟩) hS.2.2 dX11_compare_174
            · obtain rfl : u182 = 0 := i_is c200 (by decide)
              have zi0 : (0 : Int32).toInt = 0 := by decide
              replace hw196 := hw196 (by decide)
              clear hw197
              refine W.eq (g2 := F0 m 158 ls [.int 0]) rfl ?_
              refine lv_if_ne (tgt := 163) hx hb dX11_compare_158 (by decide) (fun c210 => ?_) (fun c210 => ?_)
              · exact absurd c210 (by decide)
              refine lv_iconst (v := 0) hx hb dX11_compare_161 (by decide) ?_
              refine W.widen (k := 0) (n := 0) (Nat.le_of_ble_eq_true rfl) (Nat.le_of_ble_eq_true rfl) ?_
              exact W.zret (v := 0) hx hb hr (by decide) (fun t ht hW => ⟨⟨(0, u183, u184, u185, u186, f187, f188), rfl, ⟨(show (0 ≤ u183.toInt ∧ u183.toInt ≤ 400) by omega), (show ((I 16).toInt ≤ u183.toInt) by omega), (show (u183.toInt ≤ (I 3).toInt) by omega), (show (0 ≤ u184.toInt ∧ u184.toInt ≤ 4000) by omega), (show (0 ≤ u186.toInt ∧ u186.toInt ≤ 60) by omega), (show ((I 20).toInt ≤ u186.toInt) by omega), (show (0 ≤ (0 : Int32).toInt ∧ (0 : Int32).toInt ≤ 1) by omega), (show ((0 : Int32).toInt = 0 → 1 ≤ u184.toInt) by omega), (show ((0 : Int32).toInt = 1 → (f188 (I 19).toNatClampNeg).toInt + (I 16).toInt ≤ ((F 6) (I 19).toNatClampNeg).toInt + u183.toInt) by omega), (show ((0 : Int32).toInt = 1 → PSg (F 4) (F 8) (F 7) f187 f188 gs (I 19).toNatClampNeg gb (gd + 1) (u186.toInt).toNat) from (fun h => absurd h (by decide))), (show TC (F 4) (F 8) (F 7) f187 from hw199)⟩, CB.mk ht hP hD⟩, hS.F ht⟩) hS.2.2 dX11_compare_162
          · obtain rfl : u163 = 0 := i_is c171 (by decide)
            have zi0 : (0 : Int32).toInt = 0 := by decide
            clear hw168
            replace hw169 := hw169 (by decide)
            refine W.eq (g2 := F0 m 110 ls [.int 0]) rfl ?_
            refine lv_if_ne (tgt := 115) hx hb dX11_compare_110 (by decide) (fun c211 => ?_) (fun c211 => ?_)
            · exact absurd c211 (by decide)
            refine lv_iconst (v := 0) hx hb dX11_compare_113 (by decide) ?_
            refine W.widen (k := 0) (n := 0) (Nat.le_of_ble_eq_true rfl) (Nat.le_of_ble_eq_true rfl) ?_
            exact W.zret (v := 0) hx hb hr (by decide) (fun t ht hW => ⟨⟨(0, v160, u164, u6, u165, f8, f9), rfl, ⟨(show (0 ≤ v160.toInt ∧ v160.toInt ≤ 400) by omega), (show ((I 16).toInt ≤ v160.toInt) by omega), (show (v160.toInt ≤ (I 3).toInt) by omega), (show (0 ≤ u164.toInt ∧ u164.toInt ≤ 4000) by omega), (show (0 ≤ u165.toInt ∧ u165.toInt ≤ 60) by omega), (show ((I 20).toInt ≤ u165.toInt) by omega), (show (0 ≤ (0 : Int32).toInt ∧ (0 : Int32).toInt ≤ 1) by omega), (show ((0 : Int32).toInt = 0 → 1 ≤ u164.toInt) by omega), (show ((0 : Int32).toInt = 1 → (f9 (I 19).toNatClampNeg).toInt + (I 16).toInt ≤ ((F 6) (I 19).toNatClampNeg).toInt + v160.toInt) by omega), (show ((0 : Int32).toInt = 1 → PSg (F 4) (F 8) (F 7) f8 f9 gs (I 19).toNatClampNeg gb (gd + 1) (u165.toInt).toNat) from (fun h => absurd h (by decide))), (show TC (F 4) (F 8) (F 7) f8 from (PG_tc t22))⟩, CB.mk ht hP hD⟩, hS.F ht⟩) hS.2.2 dX11_compare_114
    · skip
      have c33 := i_ne (Eq.refl u26.toInt) (show (60 : Int32).toInt = 60 by decide) c33
      refine lv_iload_n hx hb dX11_compare_25 rfl (lv_at hl 1 rfl) ?_
      refine lv_bipush (v := 61) hx hb dX11_compare_26 (by decide) ?_
      refine lv_icmp_eq (tgt := 44) hx hb dX11_compare_28 (by decide) (fun c212 => ?_) (fun c212 => ?_)
      · skip
        have c212 := i_eq (Eq.refl u26.toInt) (show (61 : Int32).toInt = 61 by decide) c212
        refine lv_aload_n hx hb dX11_compare_44 rfl (lv_at hl 2 rfl) ?_
        refine lv_dup hx hb dX11_compare_45 rfl ?_
        refine va_get (D := D) (ci := 11) (v := .int u27) (C := RX11) (T := TX11) (N := 49) hx hb hg inGX11 hown hKN.1 hP 0 rfl rfl 16 (by decide) (hg _ kw_1224) (fun _ h9 => h9) rfl dX11_compare_46 ?_
        refine lv_iconst (v := 1) hx hb dX11_compare_49 (by decide) ?_
        refine lv_iadd hx hb dX11_compare_50 ?_
        refine lv_topi (fun v213 ev213 => ?_)
        have hv213 := i_add (Eq.refl u27.toInt) (show (1 : Int32).toInt = 1 by decide) ev213 (by omega) (by omega)
        refine va_put (D := D) (ci := 11) (v := .int v213) (ty := .int) (C := RX11) (T := TX11) (N := 49) hx hb hg inGX11 tyX11 tyX11_ok nmX11 hown hKN.1 hP hD hS 0 rfl rfl 16 (by decide) (hg _ kw_1224) (fun _ h9 => h9) rfl (by decide +kernel) rfl rfl (Nat.le_of_ble_eq_true rfl) dX11_compare_51 (fun H locs hP hD hS => ?_)
        have hP : va_P D vwCl (MW Y o a (upd (upd (upd (upd I 16 v213) 17 u5) 18 u6) 20 u7) J (vf_upd (vf_upd F 5 f8) 6 f9) G) H := hP
        have hD : va_D A (MW Y o a (upd (upd (upd (upd I 16 v213) 17 u5) 18 u6) 20 u7) J (vf_upd (vf_upd F 5 f8) 6 f9) G) := hD
        refine lv_iload_n hx hb dX11_compare_54 rfl (lv_at hl 1 rfl) ?_
        refine lv_bipush (v := 61) hx hb dX11_compare_55 (by decide) ?_
        refine lv_icmp_eq (tgt := 89) hx hb dX11_compare_57 (by decide) (fun c215 => ?_) (fun c215 => ?_)
        rotate_left
        · have c215 := i_ne (Eq.refl u26.toInt) (show (61 : Int32).toInt = 61 by decide) c215; exfalso; omega
        have c215 := i_eq (Eq.refl u26.toInt) (show (61 : Int32).toInt = 61 by decide) c215
        refine lv_iconst (v := 0) hx hb dX11_compare_89 (by decide) ?_
        refine lv_istore_n (lv' := [(3, .int 0), (2, .int u27), (1, .int u26), (0, .ref o)]) hx hb dX11_compare_90 rfl hl (by decide) rfl (fun ls hl => ?_)
        refine lv_iload_n hx hb dX11_compare_91 rfl (lv_at hl 0 rfl) ?_
        refine lv_if_eq (tgt := 105) hx hb dX11_compare_92 (by decide) (fun c217 => ?_) (fun c217 => ?_)
        rotate_left
        · exact absurd c217 (by decide)
        refine lv_aload_n hx hb dX11_compare_105 rfl (lv_at hl 3 rfl) ?_
        refine lv_iload_n hx hb dX11_compare_106 rfl (lv_at hl 1 rfl) ?_
        refine cga (rn_V (As := [.int u27]) (rest := []) (b := o) (m_makes l D Y Z H.size o a (upd (upd (upd (upd I 16 v213) 17 u5) 18 u6) 20 u7) J (vf_upd (vf_upd F 5 f8) 6 f9) G  u27 (show (0 ≤ u7.toInt ∧ u7.toInt ≤ 60) by omega) (show (0 ≤ u27.toInt ∧ u27.toInt ≤ 400) by omega) (show (0 ≤ u5.toInt ∧ u5.toInt ≤ 4000) by omega)) ⟨hx, hb, hml, hown, hg⟩ lk_X11_258 ⟨CP.blind, va_recv hKN.1 hP (ci := 11) (q0 := 0) rfl rfl, CP.at hP hKN hD⟩ ⟨⟨rfl, rfl⟩, ⟨Nat.le_of_ble_eq_true rfl, Nat.le_of_ble_eq_true rfl⟩, ⟨Nat.le_of_ble_eq_true rfl, Nat.le_of_ble_eq_true rfl⟩⟩ hl.1 rfl (Nat.le_of_ble_eq_true rfl) dX11_compare_107) hP hD hS hA (fun u218 H locs w219 hP hD hS => ?_)
        obtain ⟨u220, u221, u222⟩ := u218
        obtain ⟨hw223, hw224, hw225, hw226, hw227⟩ : (0 ≤ u222.toInt ∧ u222.toInt ≤ 60) ∧ (0 ≤ u221.toInt ∧ u221.toInt ≤ 4000) ∧ (u220.toInt = 1 → u222.toInt = u7.toInt + 1) ∧ (u220.toInt = 0 → (1 ≤ u221.toInt ∧ u222.toInt = u7.toInt)) ∧ (0 ≤ u220.toInt ∧ u220.toInt ≤ 1) := w219
        refine W.eq (g2 := F0 m 110 ls [.int u220]) rfl ?_
        have hP : va_P D vwCl (MW Y o a (upd (upd (upd (upd I 16 v213) 17 u221) 18 u6) 20 u222) J (vf_upd (vf_upd F 5 f8) 6 f9) G) H := hP
        have hD : va_D A (MW Y o a (upd (upd (upd (upd I 16 v213) 17 u221) 18 u6) 20 u222) J (vf_upd (vf_upd F 5 f8) 6 f9) G) := hD
        rcases (show u220.toInt = 1 ∨ u220.toInt = 0 by omega) with c228 | c228
        · obtain rfl : u220 = 1 := i_is c228 (by decide)
          replace hw225 := hw225 (by decide)
          clear hw226
          refine W.eq (g2 := F0 m 110 ls [.int 1]) rfl ?_
          refine lv_if_ne (tgt := 115) hx hb dX11_compare_110 (by decide) (fun c229 => ?_) (fun c229 => ?_)
          rotate_left
          · exact absurd c229 (by decide)
          refine lv_iload_n hx hb dX11_compare_115 rfl (lv_at hl 2 rfl) ?_
          refine lv_bipush (v := 60) hx hb dX11_compare_116 (by decide) ?_
          refine lv_icmp_ne (tgt := 133) hx hb dX11_compare_118 (by decide) (fun c232 => ?_) (fun c232 => ?_)
          rotate_left
          · have c232 := i_eq (Eq.refl u26.toInt) (show (60 : Int32).toInt = 60 by decide) c232; exfalso; omega
          have c232 := i_ne (Eq.refl u26.toInt) (show (60 : Int32).toInt = 60 by decide) c232
          refine lv_iload_n hx hb dX11_compare_133 rfl (lv_at hl 2 rfl) ?_
          refine lv_bipush (v := 61) hx hb dX11_compare_134 (by decide) ?_
          refine lv_icmp_ne (tgt := 143) hx hb dX11_compare_136 (by decide) (fun c234 => ?_) (fun c234 => ?_)
          · have c234 := i_ne (Eq.refl u26.toInt) (show (61 : Int32).toInt = 61 by decide) c234; exfalso; omega
          have c234 := i_eq (Eq.refl u26.toInt) (show (61 : Int32).toInt = 61 by decide) c234
          refine lv_iconst (v := 2) hx hb dX11_compare_139 (by decide) ?_
          refine lv_goto (tgt := 152) hx hb dX11_compare_140 (by decide) ?_
          refine lv_istore (lv' := [(4, .int 2), (3, .int 0), (2, .int u27), (1, .int u26), (0, .ref o)]) hx hb dX11_compare_152 hl (by decide) rfl (fun ls hl => ?_)
          have t235 := PG_len t22
          have t236 := PG_dep t22
          refine lv_aload_n hx hb dX11_compare_154 rfl (lv_at hl 4 rfl) ?_
          refine cga (rn_V (As := []) (rest := []) (b := o) (m_sum l D Y Z H.size o a (upd (upd (upd (upd I 16 v213) 17 u221) 18 u6) 20 u222) J (vf_upd (vf_upd F 5 f8) 6 f9) G gs gb (gd + 1)  (show (0 ≤ v213.toInt ∧ v213.toInt ≤ 400) by omega) (show (0 ≤ (I 3).toInt ∧ (I 3).toInt ≤ 400) by omega) (show (v213.toInt ≤ (I 3).toInt) by omega) (show (0 ≤ u221.toInt ∧ u221.toInt ≤ 4000) by omega) (show (0 ≤ u222.toInt ∧ u222.toInt ≤ 60) by omega) (show (0 ≤ (I 19).toInt ∧ (I 19).toInt ≤ 17) by omega) (show ((f9 (I 19).toNatClampNeg).toInt ≤ v213.toInt) by omega) (show PSg (F 4) (F 8) (F 7) f8 f9 gs (I 19).toNatClampNeg gb ((gd + 1)) (u222.toInt).toNat from (PG_to t22 rfl (by omega) (by omega) (by omega)))) ⟨hx, hb, hml, hown, hg⟩ lk_X11_271 ⟨CP.blind, va_recv hKN.1 hP (ci := 11) (q0 := 0) rfl rfl, CP.at hP hKN hD⟩ ⟨⟨rfl, rfl⟩, ⟨Nat.le_of_ble_eq_true rfl, Nat.le_of_ble_eq_true rfl⟩, ⟨Nat.le_of_ble_eq_true rfl, Nat.le_of_ble_eq_true rfl⟩⟩ hl.1 rfl (Nat.le_of_ble_eq_true rfl) dX11_compare_155) hP hD hS hA (fun u237 H locs w238 hP hD hS => ?_)
          obtain ⟨u239, u240, u241, u242, u243, f244, f245⟩ := u237
          obtain ⟨hw246, hw247, hw248, hw249, hw250, hw251, hw252, hw253, hw254, hw255, hw256⟩ : (0 ≤ u240.toInt ∧ u240.toInt ≤ 400) ∧ (v213.toInt ≤ u240.toInt) ∧ (u240.toInt ≤ (I 3).toInt) ∧ (0 ≤ u241.toInt ∧ u241.toInt ≤ 4000) ∧ (0 ≤ u243.toInt ∧ u243.toInt ≤ 60) ∧ (u222.toInt ≤ u243.toInt) ∧ (0 ≤ u239.toInt ∧ u239.toInt ≤ 1) ∧ (u239.toInt = 0 → 1 ≤ u241.toInt) ∧ (u239.toInt = 1 → (f245 (I 19).toNatClampNeg).toInt + v213.toInt ≤ (f9 (I 19).toNatClampNeg).toInt + u240.toInt) ∧ (u239.toInt = 1 → PSg (F 4) (F 8) (F 7) f244 f245 gs (I 19).toNatClampNeg gb ((gd + 1) + 1) (u243.toInt).toNat) ∧ TC (F 4) (F 8) (F 7) f244 := w238
          refine W.eq (g2 := F0 m 158 ls [.int u239]) rfl ?_
          have hP : va_P D vwCl (MW Y o a (upd (upd (upd (upd I 16 u240) 17 u241) 18 u242) 20 u243) J (vf_upd (vf_upd F 5 f244) 6 f245) G) H := hP
          have hD : va_D A (MW Y o a (upd (upd (upd (upd I 16 u240) 17 u241) 18 u242) 20 u243) J (vf_upd (vf_upd F 5 f244) 6 f245) G) := hD
          rcases (show u239.toInt = 1 ∨ u239.toInt = 0 by omega) with c257 | c257
          · obtain rfl : u239 = 1 := i_is c257 (by decide)
            clear hw253
            replace hw254 := hw254 (by decide)
            have t258 := hw255 (by decide)
            have t258l := PG_len t258
            have t258d := PG_dep t258
            refine W.eq (g2 := F0 m 158 ls [.int 1]) rfl ?_
            refine lv_if_ne (tgt := 163) hx hb dX11_compare_158 (by decide) (fun c259 => ?_) (fun c259 => ?_)
            rotate_left
            · exact absurd c259 (by decide)
            refine lv_aload_n hx hb dX11_compare_163 rfl (lv_at hl 4 rfl) ?_
            refine lv_bipush (v := 6) hx hb dX11_compare_164 (by decide) ?_
            refine lv_iload hx hb dX11_compare_166 (lv_at hl 0 rfl) ?_
            refine lv_iadd hx hb dX11_compare_168 ?_
            refine lv_topi (fun z260 ez260 => ?_)
            obtain rfl : z260 = 8 := ez260.trans (by decide)
            refine lv_iconst (v := 0) hx hb dX11_compare_169 (by decide) ?_
            have zi8 : (8 : Int32).toInt = 8 := by decide
            have zi0 : (0 : Int32).toInt = 0 := by decide
            refine cga (rn_V (As := [.int 8, .int 0]) (rest := []) (b := o) (m_puts l D Y Z H.size o a (upd (upd (upd (upd I 16 u240) 17 u241) 18 u242) 20 u243) J (vf_upd (vf_upd F 5 f244) 6 f245) G  8 0 (show (0 ≤ (I 19).toInt ∧ (I 19).toInt ≤ 17) by omega) (show (0 ≤ (8 : Int32).toInt ∧ (8 : Int32).toInt ≤ 15) by omega) (show (0 ≤ (0 : Int32).toInt ∧ (0 : Int32).toInt ≤ 99999) by omega) (show (0 ≤ (f245 (I 19).toNatClampNeg).toInt ∧ (f245 (I 19).toNatClampNeg).toInt ≤ 399) by omega)) ⟨hx, hb, hml, hown, hg⟩ lk_X11_250 ⟨CP.blind, va_recv hKN.1 hP (ci := 11) (q0 := 0) rfl rfl, CP.at hP hKN hD⟩ ⟨⟨rfl, rfl⟩, ⟨Nat.le_of_ble_eq_true rfl, Nat.le_of_ble_eq_true rfl⟩, ⟨Nat.le_of_ble_eq_true rfl, Nat.le_of_ble_eq_true rfl⟩⟩ hl.1 rfl (Nat.le_of_ble_eq_true rfl) dX11_compare_170) hP hD hS hA (fun u261 H locs w262 hP hD hS => ?_)
            obtain ⟨f263, f264⟩ := u261
            have hw265 : PU f244 f263 f245 f264 (I 19).toNatClampNeg (8 : Int32).toInt (0 : Int32).toInt := w262
            clear w262
            refine W.eq (g2 := F0 m 173 ls []) rfl ?_
            have hP : va_P D vwCl (MW Y o a (upd (upd (upd (upd I 16 u240) 17 u241) 18 u242) 20 u243) J (vf_upd (vf_upd F 5 f263) 6 f264) G) H := hP
            have hD : va_D A (MW Y o a (upd (upd (upd (upd I 16 u240) 17 u241) 18 u242) 20 u243) J (vf_upd (vf_upd F 5 f263) 6 f264) G) := hD
            have t266 := PG_pu (e := (((gd + 1) + 1) - 1)) (PG_to (md2 := u243.toInt.toNat) t258 rfl rfl (by omega) (by omega)) hw265 (fun x hx => stp_bin hx (by omega) (by omega) (by omega) (by omega) (by omega) (by omega) rfl) (by omega) (by omega)
            obtain ⟨t266p, t266l⟩ := t266
            refine lv_iconst (v := 1) hx hb dX11_compare_173 (by decide) ?_
            refine W.widen (k := 0) (n := 0) (Nat.le_of_ble_eq_true rfl) (Nat.le_of_ble_eq_true rfl) ?_
            exact W.zret (v := 1) hx hb hr (by decide) (fun t ht hW => ⟨⟨(1, u240, u241, u242, u243, f263, f264), rfl, ⟨(show (0 ≤ u240.toInt ∧ u240.toInt ≤ 400) by omega), (show ((I 16).toInt ≤ u240.toInt) by omega), (show (u240.toInt ≤ (I 3).toInt) by omega), (show (0 ≤ u241.toInt ∧ u241.toInt ≤ 4000) by omega), (show (0 ≤ u243.toInt ∧ u243.toInt ≤ 60) by omega), (show ((I 20).toInt ≤ u243.toInt) by omega), (show (0 ≤ (1 : Int32).toInt ∧ (1 : Int32).toInt ≤ 1) by omega), (show ((1 : Int32).toInt = 0 → 1 ≤ u241.toInt) by omega), (show ((1 : Int32).toInt = 1 → (f264 (I 19).toNatClampNeg).toInt + (I 16).toInt ≤ ((F 6) (I 19).toNatClampNeg).toInt + u240.toInt) by omega), (show ((1 : Int32).toInt = 1 → PSg (F 4) (F 8) (F 7) f263 f264 gs (I 19).toNatClampNeg gb (gd + 1) (u243.toInt).toNat) from (fun _ => (PG_to t266p rfl (by omega) (by omega) (by omega)))), (show TC (F 4) (F 8) (F 7) f263 from (PG_tc t266p))⟩, CB.mk ht hP hD⟩, hS.F ht⟩) hS.2.2 dX11_compare_174
          · obtain rfl : u239 = 0 := i_is c257 (by decide)
            have zi0 : (0 : Int32).toInt = 0 := by decide
            replace hw253 := hw253 (by decide)
            clear hw254
            refine W.eq (g2 := F0 m 158 ls [.int 0]) rfl ?_
            refine lv_if_ne (tgt := 163) hx hb dX11_compare_158 (by decide) (fun c267 => ?_) (fun c267 => ?_)
            · exact absurd c267 (by decide)
            refine lv_iconst (v := 0) hx hb dX11_compare_161 (by decide) ?_
            refine W.widen (k := 0) (n := 0) (Nat.le_of_ble_eq_true rfl) (Nat.le_of_ble_eq_true rfl) ?_
            exact W.zret (v := 0) hx hb hr (by decide) (fun t ht hW => ⟨⟨(0, u240, u241, u242, u243, f244, f245), rfl, ⟨(show (0 ≤ u240.toInt ∧ u240.toInt ≤ 400) by omega), (show ((I 16).toInt ≤ u240.toInt) by omega), (show (u240.toInt ≤ (I 3).toInt) by omega), (show (0 ≤ u241.toInt ∧ u241.toInt ≤ 4000) by omega), (show (0 ≤ u243.toInt ∧ u243.toInt ≤ 60) by omega), (show ((I 20).toInt ≤ u243.toInt) by omega), (show (0 ≤ (0 : Int32).toInt ∧ (0 : Int32).toInt ≤ 1) by omega), (show ((0 : Int32).toInt = 0 → 1 ≤ u241.toInt) by omega), (show ((0 : Int32).toInt = 1 → (f245 (I 19).toNatClampNeg).toInt + (I 16).toInt ≤ ((F 6) (I 19).toNatClampNeg).toInt + u240.toInt) by omega), (show ((0 : Int32).toInt = 1 → PSg (F 4) (F 8) (F 7) f244 f245 gs (I 19).toNatClampNeg gb (gd + 1) (u243.toInt).toNat) from (fun h => absurd h (by decide))), (show TC (F 4) (F 8) (F 7) f244 from hw256)⟩, CB.mk ht hP hD⟩, hS.F ht⟩) hS.2.2 dX11_compare_162
        · obtain rfl : u220 = 0 := i_is c228 (by decide)
          have zi0 : (0 : Int32).toInt = 0 := by decide
          clear hw225
          replace hw226 := hw226 (by decide)
          refine W.eq (g2 := F0 m 110 ls [.int 0]) rfl ?_
          refine lv_if_ne (tgt := 115) hx hb dX11_compare_110 (by decide) (fun c268 => ?_) (fun c268 => ?_)
          · exact absurd c268 (by decide)
          refine lv_iconst (v := 0) hx hb dX11_compare_113 (by decide) ?_
          refine W.widen (k := 0) (n := 0) (Nat.le_of_ble_eq_true rfl) (Nat.le_of_ble_eq_true rfl) ?_
          exact W.zret (v := 0) hx hb hr (by decide) (fun t ht hW => ⟨⟨(0, v213, u221, u6, u222, f8, f9), rfl, ⟨(show (0 ≤ v213.toInt ∧ v213.toInt ≤ 400) by omega), (show ((I 16).toInt ≤ v213.toInt) by omega), (show (v213.toInt ≤ (I 3).toInt) by omega), (show (0 ≤ u221.toInt ∧ u221.toInt ≤ 4000) by omega), (show (0 ≤ u222.toInt ∧ u222.toInt ≤ 60) by omega), (show ((I 20).toInt ≤ u222.toInt) by omega), (show (0 ≤ (0 : Int32).toInt ∧ (0 : Int32).toInt ≤ 1) by omega), (show ((0 : Int32).toInt = 0 → 1 ≤ u221.toInt) by omega), (show ((0 : Int32).toInt = 1 → (f9 (I 19).toNatClampNeg).toInt + (I 16).toInt ≤ ((F 6) (I 19).toNatClampNeg).toInt + v213.toInt) by omega), (show ((0 : Int32).toInt = 1 → PSg (F 4) (F 8) (F 7) f8 f9 gs (I 19).toNatClampNeg gb (gd + 1) (u222.toInt).toNat) from (fun h => absurd h (by decide))), (show TC (F 4) (F 8) (F 7) f8 from (PG_tc t22))⟩, CB.mk ht hP hD⟩, hS.F ht⟩) hS.2.2 dX11_compare_114
      · skip
        have c212 := i_ne (Eq.refl u26.toInt) (show (61 : Int32).toInt = 61 by decide) c212
        refine lv_iload_n hx hb dX11_compare_31 rfl (lv_at hl 1 rfl) ?_
        refine lv_bipush (v := 62) hx hb dX11_compare_32 (by decide) ?_
        refine lv_icmp_eq (tgt := 44) hx hb dX11_compare_34 (by decide) (fun c269 => ?_) (fun c269 => ?_)
        · skip
          have c269 := i_eq (Eq.refl u26.toInt) (show (62 : Int32).toInt = 62 by decide) c269
          refine lv_aload_n hx hb dX11_compare_44 rfl (lv_at hl 2 rfl) ?_
          refine lv_dup hx hb dX11_compare_45 rfl ?_
          refine va_get (D := D) (ci := 11) (v := .int u27) (C := RX11) (T := TX11) (N := 49) hx hb hg inGX11 hown hKN.1 hP 0 rfl rfl 16 (by decide) (hg _ kw_1224) (fun _ h9 => h9) rfl dX11_compare_46 ?_
          refine lv_iconst (v := 1) hx hb dX11_compare_49 (by decide) ?_
          refine lv_iadd hx hb dX11_compare_50 ?_
          refine lv_topi (fun v270 ev270 => ?_)
          have hv270 := i_add (Eq.refl u27.toInt) (show (1 : Int32).toInt = 1 by decide) ev270 (by omega) (by omega)
          refine va_put (D := D) (ci := 11) (v := .int v270) (ty := .int) (C := RX11) (T := TX11) (N := 49) hx hb hg inGX11 tyX11 tyX11_ok nmX11 hown hKN.1 hP hD hS 0 rfl rfl 16 (by decide) (hg _ kw_1224) (fun _ h9 => h9) rfl (by decide +kernel) rfl rfl (Nat.le_of_ble_eq_true rfl) dX11_compare_51 (fun H locs hP hD hS => ?_)
          have hP : va_P D vwCl (MW Y o a (upd (upd (upd (upd I 16 v270) 17 u5) 18 u6) 20 u7) J (vf_upd (vf_upd F 5 f8) 6 f9) G) H := hP
          have hD : va_D A (MW Y o a (upd (upd (upd (upd I 16 v270) 17 u5) 18 u6) 20 u7) J (vf_upd (vf_upd F 5 f8) 6 f9) G) := hD
          refine lv_iload_n hx hb dX11_compare_54 rfl (lv_at hl 1 rfl) ?_
          refine lv_bipush (v := 61) hx hb dX11_compare_55 (by decide) ?_
          refine lv_icmp_eq (tgt := 89) hx hb dX11_compare_57 (by decide) (fun c276 => ?_) (fun c276 => ?_)
          · have c276 := i_eq (Eq.refl u26.toInt) (show (61 : Int32).toInt = 61 by decide) c276; exfalso; omega
          have c276 := i_ne (Eq.refl u26.toInt) (show (61 : Int32).toInt = 61 by decide) c276
          refine lv_aload_n hx hb dX11_compare_60 rfl (lv_at hl 2 rfl) ?_
          refine va_get (D := D) (ci := 11) (v := .int v270) (C := RX11) (T := TX11) (N := 49) hx hb hg inGX11 hown hKN.1 hP 0 rfl rfl 16 (by decide) (hg _ kw_1224) (fun _ h9 => h9) rfl dX11_compare_61 ?_
          refine lv_aload_n hx hb dX11_compare_64 rfl (lv_at hl 2 rfl) ?_
          refine va_get (D := D) (ci := 11) (v := .int (I 3)) (C := RX11) (T := TX11) (N := 49) hx hb hg inGX11 hown hKN.1 hP 0 rfl rfl 3 (by decide) (hg _ kw_1211) (fun _ h9 => h9) rfl dX11_compare_65 ?_
          refine lv_icmp_ge (tgt := 89) hx hb dX11_compare_68 (by decide) (fun c281 => ?_) (fun c281 => ?_)
          · skip
            have c281 := i_le (Eq.refl (I 3).toInt) (Eq.refl v270.toInt) c281
            refine lv_iconst (v := 0) hx hb dX11_compare_89 (by decide) ?_
            refine lv_istore_n (lv' := [(3, .int 0), (2, .int u27), (1, .int u26), (0, .ref o)]) hx hb dX11_compare_90 rfl hl (by decide) rfl (fun ls hl => ?_)
            refine lv_iload_n hx hb dX11_compare_91 rfl (lv_at hl 0 rfl) ?_
            refine lv_if_eq (tgt := 105) hx hb dX11_compare_92 (by decide) (fun c283 => ?_) (fun c283 => ?_)
            rotate_left
            · exact absurd c283 (by decide)
            refine lv_aload_n hx hb dX11_compare_105 rfl (lv_at hl 3 rfl) ?_
            refine lv_iload_n hx hb dX11_compare_106 rfl (lv_at hl 1 rfl) ?_
            refine cga (rn_V (As := [.int u27]) (rest := []) (b := o) (m_makes l D Y Z H.size o a (upd (upd (upd (upd I 16 v270) 17 u5) 18 u6) 20 u7) J (vf_upd (vf_upd F 5 f8) 6 f9) G  u27 (show (0 ≤ u7.toInt ∧ u7.toInt ≤ 60) by omega) (show (0 ≤ u27.toInt ∧ u27.toInt ≤ 400) by omega) (show (0 ≤ u5.toInt ∧ u5.toInt ≤ 4000) by omega)) ⟨hx, hb, hml, hown, hg⟩ lk_X11_258 ⟨CP.blind, va_recv hKN.1 hP (ci := 11) (q0 := 0) rfl rfl, CP.at hP hKN hD⟩ ⟨⟨rfl, rfl⟩, ⟨Nat.le_of_ble_eq_true rfl, Nat.le_of_ble_eq_true rfl⟩, ⟨Nat.le_of_ble_eq_true rfl, Nat.le_of_ble_eq_true rfl⟩⟩ hl.1 rfl (Nat.le_of_ble_eq_true rfl) dX11_compare_107) hP hD hS hA (fun u284 H locs w285 hP hD hS => ?_)
            obtain ⟨u286, u287, u288⟩ := u284
            obtain ⟨hw289, hw290, hw291, hw292, hw293⟩ : (0 ≤ u288.toInt ∧ u288.toInt ≤ 60) ∧ (0 ≤ u287.toInt ∧ u287.toInt ≤ 4000) ∧ (u286.toInt = 1 → u288.toInt = u7.toInt + 1) ∧ (u286.toInt = 0 → (1 ≤ u287.toInt ∧ u288.toInt = u7.toInt)) ∧ (0 ≤ u286.toInt ∧ u286.toInt ≤ 1) := w285
            refine W.eq (g2 := F0 m 110 ls [.int u286]) rfl ?_
            have hP : va_P D vwCl (MW Y o a (upd (upd (upd (upd I 16 v270) 17 u287) 18 u6) 20 u288) J (vf_upd (vf_upd F 5 f8) 6 f9) G) H := hP
            have hD : va_D A (MW Y o a (upd (upd (upd (upd I 16 v270) 17 u287) 18 u6) 20 u288) J (vf_upd (vf_upd F 5 f8) 6 f9) G) := hD
            rcases (show u286.toInt = 1 ∨ u286.toInt = 0 by omega) with c294 | c294
            · obtain rfl : u286 = 1 := i_is c294 (by decide)
              replace hw291 := hw291 (by decide)
              clear hw292
              refine W.eq (g2 := F0 m 110 ls [.int 1]) rfl ?_
              refine lv_if_ne (tgt := 115) hx hb dX11_compare_110 (by decide) (fun c295 => ?_) (fun c295 => ?_)
              rotate_left
              · exact absurd c295 (by decide)
              refine lv_iload_n hx hb dX11_compare_115 rfl (lv_at hl 2 rfl) ?_
              refine lv_bipush (v := 60) hx hb dX11_compare_116 (by decide) ?_
              refine lv_icmp_ne (tgt := 133) hx hb dX11_compare_118 (by decide) (fun c299 => ?_) (fun c299 => ?_)
              rotate_left
              · have c299 := i_eq (Eq.refl u26.toInt) (show (60 : Int32).toInt = 60 by decide) c299; exfalso; omega
              have c299 := i_ne (Eq.refl u26.toInt) (show (60 : Int32).toInt = 60 by decide) c299
              refine lv_iload_n hx hb dX11_compare_133 rfl (lv_at hl 2 rfl) ?_
              refine lv_bipush (v := 61) hx hb dX11_compare_134 (by decide) ?_
              refine lv_icmp_ne (tgt := 143) hx hb dX11_compare_136 (by decide) (fun c302 => ?_) (fun c302 => ?_)
              rotate_left
              · have c302 := i_eq (Eq.refl u26.toInt) (show (61 : Int32).toInt = 61 by decide) c302; exfalso; omega
              have c302 := i_ne (Eq.refl u26.toInt) (show (61 : Int32).toInt = 61 by decide) c302
              refine lv_iload_n hx hb dX11_compare_143 rfl (lv_at hl 0 rfl) ?_
              refine lv_if_eq (tgt := 151) hx hb dX11_compare_144 (by decide) (fun c304 => ?_) (fun c304 => ?_)
              rotate_left
              · exact absurd c304 (by decide)
              refine lv_iconst (v := 4) hx hb dX11_compare_151 (by decide) ?_
              refine lv_istore (lv' := [(4, .int 4), (3, .int 0), (2, .int u27), (1, .int u26), (0, .ref o)]) hx hb dX11_compare_152 hl (by decide) rfl (fun ls hl => ?_)
              have t305 := PG_len t22
              have t306 := PG_dep t22
              refine lv_aload_n hx hb dX11_compare_154 rfl (lv_at hl 4 rfl) ?_
              refine cga (rn_V (As := []) (rest := []) (b := o) (m_sum l D Y Z H.size o a (upd (upd (upd (upd I 16 v270) 17 u287) 18 u6) 20 u288) J (vf_upd (vf_upd F 5 f8) 6 f9) G gs gb (gd + 1)  (show (0 ≤ v270.toInt ∧ v270.toInt ≤ 400) by omega) (show (0 ≤ (I 3).toInt ∧ (I 3).toInt ≤ 400) by omega) (show (v270.toInt ≤ (I 3).toInt) by omega) (show (0 ≤ u287.toInt ∧ u287.toInt ≤ 4000) by omega) (show (0 ≤ u288.toInt ∧ u288.toInt ≤ 60) by omega) (show (0 ≤ (I 19).toInt ∧ (I 19).toInt ≤ 17) by omega) (show ((f9 (I 19).toNatClampNeg).toInt ≤ v270.toInt) by omega) (show PSg (F 4) (F 8) (F 7) f8 f9 gs (I 19).toNatClampNeg gb ((gd + 1)) (u288.toInt).toNat from (PG_to t22 rfl (by omega) (by omega) (by omega)))) ⟨hx, hb, hml, hown, hg⟩ lk_X11_271 ⟨CP.blind, va_recv hKN.1 hP (ci := 11) (q0 := 0) rfl rfl, CP.at hP hKN hD⟩ ⟨⟨rfl, rfl⟩, ⟨Nat.le_of_ble_eq_true rfl, Nat.le_of_ble_eq_true rfl⟩, ⟨Nat.le_of_ble_eq_true rfl, Nat.le_of_ble_eq_true rfl⟩⟩ hl.1 rfl (Nat.le_of_ble_eq_true rfl) dX11_compare_155) hP hD hS hA (fun u307 H locs w308 hP hD hS => ?_)
              obtain ⟨u309, u310, u311, u312, u313, f314, f315⟩ := u307
              obtain ⟨hw316, hw317, hw318, hw319, hw320, hw321, hw322, hw323, hw324, hw325, hw326⟩ : (0 ≤ u310.toInt ∧ u310.toInt ≤ 400) ∧ (v270.toInt ≤ u310.toInt) ∧ (u310.toInt ≤ (I 3).toInt) ∧ (0 ≤ u311.toInt ∧ u311.toInt ≤ 4000) ∧ (0 ≤ u313.toInt ∧ u313.toInt ≤ 60) ∧ (u288.toInt ≤ u313.toInt) ∧ (0 ≤ u309.toInt ∧ u309.toInt ≤ 1) ∧ (u309.toInt = 0 → 1 ≤ u311.toInt) ∧ (u309.toInt = 1 → (f315 (I 19).toNatClampNeg).toInt + v270.toInt ≤ (f9 (I 19).toNatClampNeg).toInt + u310.toInt) ∧ (u309.toInt = 1 → PSg (F 4) (F 8) (F 7) f314 f315 gs (I 19).toNatClampNeg gb ((gd + 1) + 1) (u313.toInt).toNat) ∧ TC (F 4) (F 8) (F 7) f314 := w308
              refine W.eq (g2 := F0 m 158 ls [.int u309]) rfl ?_
              have hP : va_P D vwCl (MW Y o a (upd (upd (upd (upd I 16 u310) 17 u311) 18 u312) 20 u313) J (vf_upd (vf_upd F 5 f314) 6 f315) G) H := hP
              have hD : va_D A (MW Y o a (upd (upd (upd (upd I 16 u310) 17 u311) 18 u312) 20 u313) J (vf_upd (vf_upd F 5 f314) 6 f315) G) := hD
              rcases (show u309.toInt = 1 ∨ u309.toInt = 0 by omega) with c327 | c327
              · obtain rfl : u309 = 1 := i_is c327 (by decide)
                clear hw323
                replace hw324 := hw324 (by decide)
                have t328 := hw325 (by decide)
                have t328l := PG_len t328
                have t328d := PG_dep t328
                refine W.eq (g2 := F0 m 158 ls [.int 1]) rfl ?_
                refine lv_if_ne (tgt := 163) hx hb dX11_compare_158 (by decide) (fun c329 => ?_) (fun c329 => ?_)
                rotate_left
                · exact absurd c329 (by decide)
                refine lv_aload_n hx hb dX11_compare_163 rfl (lv_at hl 4 rfl) ?_
                refine lv_bipush (v := 6) hx hb dX11_compare_164 (by decide) ?_
                refine lv_iload hx hb dX11_compare_166 (lv_at hl 0 rfl) ?_
                refine lv_iadd hx hb dX11_compare_168 ?_
                refine lv_topi (fun z330 ez330 => ?_)
                obtain rfl : z330 = 10 := ez330.trans (by decide)
                refine lv_iconst (v := 0) hx hb dX11_compare_169 (by decide) ?_
                have zi10 : (10 : Int32).toInt = 10 := by decide
                have zi0 : (0 : Int32).toInt = 0 := by decide
                refine cga (rn_V (As := [.int 10, .int 0]) (rest := []) (b := o) (m_puts l D Y Z H.size o a (upd (upd (upd (upd I 16 u310) 17 u311) 18 u312) 20 u313) J (vf_upd (vf_upd F 5 f314) 6 f315) G  10 0 (show (0 ≤ (I 19).toInt ∧ (I 19).toInt ≤ 17) by omega) (show (0 ≤ (10 : Int32).toInt ∧ (10 : Int32).toInt ≤ 15) by omega) (show (0 ≤ (0 : Int32).toInt ∧ (0 : Int32).toInt ≤ 99999) by omega) (show (0 ≤ (f315 (I 19).toNatClampNeg).toInt ∧ (f315 (I 19).toNatClampNeg).toInt ≤ 399) by omega)) ⟨hx, hb, hml, hown, hg⟩ lk_X11_250 ⟨CP.blind, va_recv hKN.1 hP (ci := 11) (q0 := 0) rfl rfl, CP.at hP hKN hD⟩ ⟨⟨rfl, rfl⟩, ⟨Nat.le_of_ble_eq_true rfl, Nat.le_of_ble_eq_true rfl⟩, ⟨Nat.le_of_ble_eq_true rfl, Nat.le_of_ble_eq_true rfl⟩⟩ hl.1 rfl (Nat.le_of_ble_eq_true rfl) dX11_compare_170) hP hD hS hA (fun u331 H locs w332 hP hD hS => ?_)
                obtain ⟨f333, f334⟩ := u331
                have hw335 : PU f314 f333 f315 f334 (I 19).toNatClampNeg (10 : Int32).toInt (0 : Int32).toInt := w332
                clear w332
                refine W.eq (g2 := F0 m 173 ls []) rfl ?_
                have hP : va_P D vwCl (MW Y o a (upd (upd (upd (upd I 16 u310) 17 u311) 18 u312) 20 u313) J (vf_upd (vf_upd F 5 f333) 6 f334) G) H := hP
                have hD : va_D A (MW Y o a (upd (upd (upd (upd I 16 u310) 17 u311) 18 u312) 20 u313) J (vf_upd (vf_upd F 5 f333) 6 f334) G) := hD
                have t336 := PG_pu (e := (((gd + 1) + 1) - 1)) (PG_to (md2 := u313.toInt.toNat) t328 rfl rfl (by omega) (by omega)) hw335 (fun x hx => stp_bin hx (by omega) (by omega) (by omega) (by omega) (by omega) (by omega) rfl) (by omega) (by omega)
                obtain ⟨t336p, t336l⟩ := t336
                refine lv_iconst (v := 1) hx hb dX11_compare_173 (by decide) ?_
                refine W.widen (k := 0) (n := 0) (Nat.le_of_ble_eq_true rfl) (Nat.le_of_ble_eq_true rfl) ?_
                exact W.zret (v := 1) hx hb hr (by decide) (fun t ht hW => ⟨⟨(1, u310, u311, u312, u313, f333, f334), rfl, ⟨(show (0 ≤ u310.toInt ∧ u310.toInt ≤ 400) by omega), (show ((I 16).toInt ≤ u310.toInt) by omega), (show (u310.toInt ≤ (I 3).toInt) by omega), (show (0 ≤ u311.toInt ∧ u311.toInt ≤ 4000) by omega), (show (0 ≤ u313.toInt ∧ u313.toInt ≤ 60) by omega), (show ((I 20).toInt ≤ u313.toInt) by omega), (show (0 ≤ (1 : Int32).toInt ∧ (1 : Int32).toInt ≤ 1) by omega), (show ((1 : Int32).toInt = 0 → 1 ≤ u311.toInt) by omega), (show ((1 : Int32).toInt = 1 → (f334 (I 19).toNatClampNeg).toInt + (I 16).toInt ≤ ((F 6) (I 19).toNatClampNeg).toInt + u310.toInt) by omega), (show ((1 : Int32).toInt = 1 → PSg (F 4) (F 8) (F 7) f333 f334 gs (I 19).toNatClampNeg gb (gd + 1) (u313.toInt).toNat) from (fun _ => (PG_to t336p rfl (by omega) (by omega) (by omega)))), (show TC (F 4) (F 8) (F 7) f333 from (PG_tc t336p))⟩, CB.mk ht hP hD⟩, hS.F ht⟩) hS.2.2 dX11_compare_174
              · obtain rfl : u309 = 0 := i_is c327 (by decide)
                have zi0 : (0 : Int32).toInt = 0 := by decide
                replace hw323 := hw323 (by decide)
                clear hw324
                refine W.eq (g2 := F0 m 158 ls [.int 0]) rfl ?_
                refine lv_if_ne (tgt := 163) hx hb dX11_compare_158 (by decide) (fun c337 => ?_) (fun c337 => ?_)
                · exact absurd c337 (by decide)
                refine lv_iconst (v := 0) hx hb dX11_compare_161 (by decide) ?_
                refine W.widen (k := 0) (n := 0) (Nat.le_of_ble_eq_true rfl) (Nat.le_of_ble_eq_true rfl) ?_
                exact W.zret (v := 0) hx hb hr (by decide) (fun t ht hW => ⟨⟨(0, u310, u311, u312, u313, f314, f315), rfl, ⟨(show (0 ≤ u310.toInt ∧ u310.toInt ≤ 400) by omega), (show ((I 16).toInt ≤ u310.toInt) by omega), (show (u310.toInt ≤ (I 3).toInt) by omega), (show (0 ≤ u311.toInt ∧ u311.toInt ≤ 4000) by omega), (show (0 ≤ u313.toInt ∧ u313.toInt ≤ 60) by omega), (show ((I 20).toInt ≤ u313.toInt) by omega), (show (0 ≤ (0 : Int32).toInt ∧ (0 : Int32).toInt ≤ 1) by omega), (show ((0 : Int32).toInt = 0 → 1 ≤ u311.toInt) by omega), (show ((0 : Int32).toInt = 1 → (f315 (I 19).toNatClampNeg).toInt + (I 16).toInt ≤ ((F 6) (I 19).toNatClampNeg).toInt + u310.toInt) by omega), (show ((0 : Int32).toInt = 1 → PSg (F 4) (F 8) (F 7) f314 f315 gs (I 19).toNatClampNeg gb (gd + 1) (u313.toInt).toNat) from (fun h => absurd h (by decide))), (show TC (F 4) (F 8) (F 7) f314 from hw326)⟩, CB.mk ht hP hD⟩, hS.F ht⟩) hS.2.2 dX11_compare_162
            · obtain rfl : u286 = 0 := i_is c294 (by decide)
              have zi0 : (0 : Int32).toInt = 0 := by decide
              clear hw291
              replace hw292 := hw292 (by decide)
              refine W.eq (g2 := F0 m 110 ls [.int 0]) rfl ?_
              refine lv_if_ne (tgt := 115) hx hb dX11_compare_110 (by decide) (fun c338 => ?_) (fun c338 => ?_)
              · exact absurd c338 (by decide)
              refine lv_iconst (v := 0) hx hb dX11_compare_113 (by decide) ?_
              refine W.widen (k := 0) (n := 0) (Nat.le_of_ble_eq_true rfl) (Nat.le_of_ble_eq_true rfl) ?_
              exact W.zret (v := 0) hx hb hr (by decide) (fun t ht hW => ⟨⟨(0, v270, u287, u6, u288, f8, f9), rfl, ⟨(show (0 ≤ v270.toInt ∧ v270.toInt ≤ 400) by omega), (show ((I 16).toInt ≤ v270.toInt) by omega), (show (v270.toInt ≤ (I 3).toInt) by omega), (show (0 ≤ u287.toInt ∧ u287.toInt ≤ 4000) by omega), (show (0 ≤ u288.toInt ∧ u288.toInt ≤ 60) by omega), (show ((I 20).toInt ≤ u288.toInt) by omega), (show (0 ≤ (0 : Int32).toInt ∧ (0 : Int32).toInt ≤ 1) by omega), (show ((0 : Int32).toInt = 0 → 1 ≤ u287.toInt) by omega), (show ((0 : Int32).toInt = 1 → (f9 (I 19).toNatClampNeg).toInt + (I 16).toInt ≤ ((F 6) (I 19).toNatClampNeg).toInt + v270.toInt) by omega), (show ((0 : Int32).toInt = 1 → PSg (F 4) (F 8) (F 7) f8 f9 gs (I 19).toNatClampNeg gb (gd + 1) (u288.toInt).toNat) from (fun h => absurd h (by decide))), (show TC (F 4) (F 8) (F 7) f8 from (PG_tc t22))⟩, CB.mk ht hP hD⟩, hS.F ht⟩) hS.2.2 dX11_compare_114
          · skip
            have c281 := i_nle (Eq.refl (I 3).toInt) (Eq.refl v270.toInt) c281
            refine lv_aload_n hx hb dX11_compare_71 rfl (lv_at hl 2 rfl) ?_
            refine va_get (D := D) (ci := 11) (v := .ref (a 2)) (C := RX11) (T := TX11) (N := 49) hx hb hg inGX11 hown hKN.1 hP 0 rfl rfl 2 (by decide) (hg _ kw_1210) (fun _ h9 => h9) rfl dX11_compare_72 ?_
            refine lv_aload_n hx hb dX11_compare_75 rfl (lv_at hl 2 rfl) ?_
            refine va_get (D := D) (ci := 11) (v := .int v270) (C := RX11) (T := TX11) (N := 49) hx hb hg inGX11 hown hKN.1 hP 0 rfl rfl 16 (by decide) (hg _ kw_1224) (fun _ h9 => h9) rfl dX11_compare_76 ?_
            refine va_bald hx hb hKN.1 hP 3 2 rfl rfl (vp_in_iff.mpr ⟨by omega, by omega⟩) dX11_compare_79 ?_
            refine lv_topi (fun v339 ev339 => ?_)
            have ev339 : v339 = (F 2) v270.toNatClampNeg := ev339
            have qv339 := congrArg Int32.toInt ev339
            refine lv_bipush (v := 61) hx hb dX11_compare_80 (by decide) ?_
            have j342 := rgI v339
            refine lv_icmp_ne (tgt := 89) hx hb dX11_compare_82 (by decide) (fun c343 => ?_) (fun c343 => ?_)
            · skip
              have c343 := i_ne (Eq.refl v339.toInt) (show (61 : Int32).toInt = 61 by decide) c343
              refine lv_iconst (v := 0) hx hb dX11_compare_89 (by decide) ?_
              refine lv_istore_n (lv' := [(3, .int 0), (2, .int u27), (1, .int u26), (0, .ref o)]) hx hb dX11_compare_90 rfl hl (by decide) rfl (fun ls hl => ?_)
              refine lv_iload_n hx hb dX11_compare_91 rfl (lv_at hl 0 rfl) ?_
              refine lv_if_eq (tgt := 105) hx hb dX11_compare_92 (by decide) (fun c345 => ?_) (fun c345 => ?_)
              rotate_left
              · exact absurd c345 (by decide)
              refine lv_aload_n hx hb dX11_compare_105 rfl (lv_at hl 3 rfl) ?_
              refine lv_iload_n hx hb dX11_compare_106 rfl (lv_at hl 1 rfl) ?_
              refine cga (rn_V (As := [.int u27]) (rest := []) (b := o) (m_makes l D Y Z H.size o a (upd (upd (upd (upd I 16 v270) 17 u5) 18 u6) 20 u7) J (vf_upd (vf_upd F 5 f8) 6 f9) G  u27 (show (0 ≤ u7.toInt ∧ u7.toInt ≤ 60) by omega) (show (0 ≤ u27.toInt ∧ u27.toInt ≤ 400) by omega) (show (0 ≤ u5.toInt ∧ u5.toInt ≤ 4000) by omega)) ⟨hx, hb, hml, hown, hg⟩ lk_X11_258 ⟨CP.blind, va_recv hKN.1 hP (ci := 11) (q0 := 0) rfl rfl, CP.at hP hKN hD⟩ ⟨⟨rfl, rfl⟩, ⟨Nat.le_of_ble_eq_true rfl, Nat.le_of_ble_eq_true rfl⟩, ⟨Nat.le_of_ble_eq_true rfl, Nat.le_of_ble_eq_true rfl⟩⟩ hl.1 rfl (Nat.le_of_ble_eq_true rfl) dX11_compare_107) hP hD hS hA (fun u346 H locs w347 hP hD hS => ?_)
              obtain ⟨u348, u349, u350⟩ := u346
              obtain ⟨hw351, hw352, hw353, hw354, hw355⟩ : (0 ≤ u350.toInt ∧ u350.toInt ≤ 60) ∧ (0 ≤ u349.toInt ∧ u349.toInt ≤ 4000) ∧ (u348.toInt = 1 → u350.toInt = u7.toInt + 1) ∧ (u348.toInt = 0 → (1 ≤ u349.toInt ∧ u350.toInt = u7.toInt)) ∧ (0 ≤ u348.toInt ∧ u348.toInt ≤ 1) := w347
              refine W.eq (g2 := F0 m 110 ls [.int u348]) rfl ?_
              have hP : va_P D vwCl (MW Y o a (upd (upd (upd (upd I 16 v270) 17 u349) 18 u6) 20 u350) J (vf_upd (vf_upd F 5 f8) 6 f9) G) H := hP
              have hD : va_D A (MW Y o a (upd (upd (upd (upd I 16 v270) 17 u349) 18 u6) 20 u350) J (vf_upd (vf_upd F 5 f8) 6 f9) G) := hD
              rcases (show u348.toInt = 1 ∨ u348.toInt = 0 by omega) with c356 | c356
              · obtain rfl : u348 = 1 := i_is c356 (by decide)
                replace hw353 := hw353 (by decide)
                clear hw354
                refine W.eq (g2 := F0 m 110 ls [.int 1]) rfl ?_
                refine lv_if_ne (tgt := 115) hx hb dX11_compare_110 (by decide) (fun c357 => ?_) (fun c357 => ?_)
                rotate_left
                · exact absurd c357 (by decide)
                refine lv_iload_n hx hb dX11_compare_115 rfl (lv_at hl 2 rfl) ?_
                refine lv_bipush (v := 60) hx hb dX11_compare_116 (by decide) ?_
                refine lv_icmp_ne (tgt := 133) hx hb dX11_compare_118 (by decide) (fun c361 => ?_) (fun c361 => ?_)
                rotate_left
                · have c361 := i_eq (Eq.refl u26.toInt) (show (60 : Int32).toInt = 60 by decide) c361; exfalso; omega
                have c361 := i_ne (Eq.refl u26.toInt) (show (60 : Int32).toInt = 60 by decide) c361
                refine lv_iload_n hx hb dX11_compare_133 rfl (lv_at hl 2 rfl) ?_
                refine lv_bipush (v := 61) hx hb dX11_compare_134 (by decide) ?_
                refine lv_icmp_ne (tgt := 143) hx hb dX11_compare_136 (by decide) (fun c364 => ?_) (fun c364 => ?_)
                rotate_left
                · have c364 := i_eq (Eq.refl u26.toInt) (show (61 : Int32).toInt = 61 by decide) c364; exfalso; omega
                have c364 := i_ne (Eq.refl u26.toInt) (show (61 : Int32).toInt = 61 by decide) c364
                refine lv_iload_n hx hb dX11_compare_143 rfl (lv_at hl 0 rfl) ?_
                refine lv_if_eq (tgt := 151) hx hb dX11_compare_144 (by decide) (fun c366 => ?_) (fun c366 => ?_)
                rotate_left
                · exact absurd c366 (by decide)
                refine lv_iconst (v := 4) hx hb dX11_compare_151 (by decide) ?_
                refine lv_istore (lv' := [(4, .int 4), (3, .int 0), (2, .int u27), (1, .int u26), (0, .ref o)]) hx hb dX11_compare_152 hl (by decide) rfl (fun ls hl => ?_)
                have t367 := PG_len t22
                have t368 := PG_dep t22
                refine lv_aload_n hx hb dX11_compare_154 rfl (lv_at hl 4 rfl) ?_
                refine cga (rn_V (As := []) (rest := []) (b := o) (m_sum l D Y Z H.size o a (upd (upd (upd (upd I 16 v270) 17 u349) 18 u6) 20 u350) J (vf_upd (vf_upd F 5 f8) 6 f9) G gs gb (gd + 1)  (show (0 ≤ v270.toInt ∧ v270.toInt ≤ 400) by omega) (show (0 ≤ (I 3).toInt ∧ (I 3).toInt ≤ 400) by omega) (show (v270.toInt ≤ (I 3).toInt) by omega) (show (0 ≤ u349.toInt ∧ u349.toInt ≤ 4000) by omega) (show (0 ≤ u350.toInt ∧ u350.toInt ≤ 60) by omega) (show (0 ≤ (I 19).toInt ∧ (I 19).toInt ≤ 17) by omega) (show ((f9 (I 19).toNatClampNeg).toInt ≤ v270.toInt) by omega) (show PSg (F 4) (F 8) (F 7) f8 f9 gs (I 19).toNatClampNeg gb ((gd + 1)) (u350.toInt).toNat from (PG_to t22 rfl (by omega) (by omega) (by omega)))) ⟨hx, hb, hml, hown, hg⟩ lk_X11_271 ⟨CP.blind, va_recv hKN.1 hP (ci := 11) (q0 := 0) rfl rfl, CP.at hP hKN hD⟩ ⟨⟨rfl, rfl⟩, ⟨Nat.le_of_ble_eq_true rfl, Nat.le_of_ble_eq_true rfl⟩, ⟨Nat.le_of_ble_eq_true rfl, Nat.le_of_ble_eq_true rfl⟩⟩ hl.1 rfl (Nat.le_of_ble_eq_true rfl) dX11_compare_155) hP hD hS hA (fun u369 H locs w370 hP hD hS => ?_)
                obtain ⟨u371, u372, u373, u374, u375, f376, f377⟩ := u369
                obtain ⟨hw378, hw379, hw380, hw381, hw382, hw383, hw384, hw385, hw386, hw387, hw388⟩ : (0 ≤ u372.toInt ∧ u372.toInt ≤ 400) ∧ (v270.toInt ≤ u372.toInt) ∧ (u372.toInt ≤ (I 3).toInt) ∧ (0 ≤ u373.toInt ∧ u373.toInt ≤ 4000) ∧ (0 ≤ u375.toInt ∧ u375.toInt ≤ 60) ∧ (u350.toInt ≤ u375.toInt) ∧ (0 ≤ u371.toInt ∧ u371.toInt ≤ 1) ∧ (u371.toInt = 0 → 1 ≤ u373.toInt) ∧ (u371.toInt = 1 → (f377 (I 19).toNatClampNeg).toInt + v270.toInt ≤ (f9 (I 19).toNatClampNeg).toInt + u372.toInt) ∧ (u371.toInt = 1 → PSg (F 4) (F 8) (F 7) f376 f377 gs (I 19).toNatClampNeg gb ((gd + 1) + 1) (u375.toInt).toNat) ∧ TC (F 4) (F 8) (F 7) f376 := w370
                refine W.eq (g2 := F0 m 158 ls [.int u371]) rfl ?_
                have hP : va_P D vwCl (MW Y o a (upd (upd (upd (upd I 16 u372) 17 u373) 18 u374) 20 u375) J (vf_upd (vf_upd F 5 f376) 6 f377) G) H := hP
                have hD : va_D A (MW Y o a (upd (upd (upd (upd I 16 u372) 17 u373) 18 u374) 20 u375) J (vf_upd (vf_upd F 5 f376) 6 f377) G) := hD
                rcases (show u371.toInt = 1 ∨ u371.toInt = 0 by omega) with c389 | c389
                · obtain rfl : u371 = 1 := i_is c389 (by decide)
                  clear hw385
                  replace hw386 := hw386 (by decide)
                  have t390 := hw387 (by decide)
                  have t390l := PG_len t390
                  have t390d := PG_dep t390
                  refine W.eq (g2 := F0 m 158 ls [.int 1]) rfl ?_
                  refine lv_if_ne (tgt := 163) hx hb dX11_compare_158 (by decide) (fun c391 => ?_) (fun c391 => ?_)
                  rotate_left
                  · exact absurd c391 (by decide)
                  refine lv_aload_n hx hb dX11_compare_163 rfl (lv_at hl 4 rfl) ?_
                  refine lv_bipush (v := 6) hx hb dX11_compare_164 (by decide) ?_
                  refine lv_iload hx hb dX11_compare_166 (lv_at hl 0 rfl) ?_
                  refine lv_iadd hx hb dX11_compare_168 ?_
                  refine lv_topi (fun z392 ez392 => ?_)
                  obtain rfl : z392 = 10 := ez392.trans (by decide)
                  refine lv_iconst (v := 0) hx hb dX11_compare_169 (by decide) ?_
                  have zi10 : (10 : Int32).toInt = 10 := by decide
                  have zi0 : (0 : Int32).toInt = 0 := by decide
                  refine cga (rn_V (As := [.int 10, .int 0]) (rest := []) (b := o) (m_puts l D Y Z H.size o a (upd (upd (upd (upd I 16 u372) 17 u373) 18 u374) 20 u375) J (vf_upd (vf_upd F 5 f376) 6 f377) G  10 0 (show (0 ≤ (I 19).toInt ∧ (I 19).toInt ≤ 17) by omega) (show (0 ≤ (10 : Int32).toInt ∧ (10 : Int32).toInt ≤ 15) by omega) (show (0 ≤ (0 : Int32).toInt ∧ (0 : Int32).toInt ≤ 99999) by omega) (show (0 ≤ (f377 (I 19).toNatClampNeg).toInt ∧ (f377 (I 19).toNatClampNeg).toInt ≤ 399) by omega)) ⟨hx, hb, hml, hown, hg⟩ lk_X11_250 ⟨CP.blind, va_recv hKN.1 hP (ci := 11) (q0 := 0) rfl rfl, CP.at hP hKN hD⟩ ⟨⟨rfl, rfl⟩, ⟨Nat.le_of_ble_eq_true rfl, Nat.le_of_ble_eq_true rfl⟩, ⟨Nat.le_of_ble_eq_true rfl, Nat.le_of_ble_eq_true rfl⟩⟩ hl.1 rfl (Nat.le_of_ble_eq_true rfl) dX11_compare_170) hP hD hS hA (fun u393 H locs w394 hP hD hS => ?_)
                  obtain ⟨f395, f396⟩ := u393
                  have hw397 : PU f376 f395 f377 f396 (I 19).toNatClampNeg (10 : Int32).toInt (0 : Int32).toInt := w394
                  clear w394
                  refine W.eq (g2 := F0 m 173 ls []) rfl ?_
                  have hP : va_P D vwCl (MW Y o a (upd (upd (upd (upd I 16 u372) 17 u373) 18 u374) 20 u375) J (vf_upd (vf_upd F 5 f395) 6 f396) G) H := hP
                  have hD : va_D A (MW Y o a (upd (upd (upd (upd I 16 u372) 17 u373) 18 u374) 20 u375) J (vf_upd (vf_upd F 5 f395) 6 f396) G) := hD
                  have t398 := PG_pu (e := (((gd + 1) + 1) - 1)) (PG_to (md2 := u375.toInt.toNat) t390 rfl rfl (by omega) (by omega)) hw397 (fun x hx => stp_bin hx (by omega) (by omega) (by omega) (by omega) (by omega) (by omega) rfl) (by omega) (by omega)
                  obtain ⟨t398p, t398l⟩ := t398
                  refine lv_iconst (v := 1) hx hb dX11_compare_173 (by decide) ?_
                  refine W.widen (k := 0) (n := 0) (Nat.le_of_ble_eq_true rfl) (Nat.le_of_ble_eq_true rfl) ?_
                  exact W.zret (v := 1) hx hb hr (by decide) (fun t ht hW => ⟨⟨(1, u372, u373, u374, u375, f395, f396), rfl, ⟨(show (0 ≤ u372.toInt ∧ u372.toInt ≤ 400) by omega), (show ((I 16).toInt ≤ u372.toInt) by omega), (show (u372.toInt ≤ (I 3).toInt) by omega), (show (0 ≤ u373.toInt ∧ u373.toInt ≤ 4000) by omega), (show (0 ≤ u375.toInt ∧ u375.toInt ≤ 60) by omega), (show ((I 20).toInt ≤ u375.toInt) by omega), (show (0 ≤ (1 : Int32).toInt ∧ (1 : Int32).toInt ≤ 1) by omega), (show ((1 : Int32).toInt = 0 → 1 ≤ u373.toInt) by omega), (show ((1 : Int32).toInt = 1 → (f396 (I 19).toNatClampNeg).toInt + (I 16).toInt ≤ ((F 6) (I 19).toNatClampNeg).toInt + u372.toInt) by omega), (show ((1 : Int32).toInt = 1 → PSg (F 4) (F 8) (F 7) f395 f396 gs (I 19).toNatClampNeg gb (gd + 1) (u375.toInt).toNat) from (fun _ => (PG_to t398p rfl (by omega) (by omega) (by omega)))), (show TC (F 4) (F 8) (F 7) f395 from (PG_tc t398p))⟩, CB.mk ht hP hD⟩, hS.F ht⟩) hS.2.2 dX11_compare_174
                · obtain rfl : u371 = 0 := i_is c389 (by decide)
                  have zi0 : (0 : Int32).toInt = 0 := by decide
                  replace hw385 := hw385 (by decide)
                  clear hw386
                  refine W.eq (g2 := F0 m 158 ls [.int 0]) rfl ?_
                  refine lv_if_ne (tgt := 163) hx hb dX11_compare_158 (by decide) (fun c399 => ?_) (fun c399 => ?_)
                  · exact absurd c399 (by decide)
                  refine lv_iconst (v := 0) hx hb dX11_compare_161 (by decide) ?_
                  refine W.widen (k := 0) (n := 0) (Nat.le_of_ble_eq_true rfl) (Nat.le_of_ble_eq_true rfl) ?_
                  exact W.zret (v := 0) hx hb hr (by decide) (fun t ht hW => ⟨⟨(0, u372, u373, u374, u375, f376, f377), rfl, ⟨(show (0 ≤ u372.toInt ∧ u372.toInt ≤ 400) by omega), (show ((I 16).toInt ≤ u372.toInt) by omega), (show (u372.toInt ≤ (I 3).toInt) by omega), (show (0 ≤ u373.toInt ∧ u373.toInt ≤ 4000) by omega), (show (0 ≤ u375.toInt ∧ u375.toInt ≤ 60) by omega), (show ((I 20).toInt ≤ u375.toInt) by omega), (show (0 ≤ (0 : Int32).toInt ∧ (0 : Int32).toInt ≤ 1) by omega), (show ((0 : Int32).toInt = 0 → 1 ≤ u373.toInt) by omega), (show ((0 : Int32).toInt = 1 → (f377 (I 19).toNatClampNeg).toInt + (I 16).toInt ≤ ((F 6) (I 19).toNatClampNeg).toInt + u372.toInt) by omega), (show ((0 : Int32).toInt = 1 → PSg (F 4) (F 8) (F 7) f376 f377 gs (I 19).toNatClampNeg gb (gd + 1) (u375.toInt).toNat) from (fun h => absurd h (by decide))), (show TC (F 4) (F 8) (F 7) f376 from hw388)⟩, CB.mk ht hP hD⟩, hS.F ht⟩) hS.2.2 dX11_compare_162
              · obtain rfl : u348 = 0 := i_is c356 (by decide)
                have zi0 : (0 : Int32).toInt = 0 := by decide
                clear hw353
                replace hw354 := hw354 (by decide)
                refine W.eq (g2 := F0 m 110 ls [.int 0]) rfl ?_
                refine lv_if_ne (tgt := 115) hx hb dX11_compare_110 (by decide) (fun c400 => ?_) (fun c400 => ?_)
                · exact absurd c400 (by decide)
                refine lv_iconst (v := 0) hx hb dX11_compare_113 (by decide) ?_
                refine W.widen (k := 0) (n := 0) (Nat.le_of_ble_eq_true rfl) (Nat.le_of_ble_eq_true rfl) ?_
                exact W.zret (v := 0) hx hb hr (by decide) (fun t ht hW => ⟨⟨(0, v270, u349, u6, u350, f8, f9), rfl, ⟨(show (0 ≤ v270.toInt ∧ v270.toInt ≤ 400) by omega), (show ((I 16).toInt ≤ v270.toInt) by omega), (show (v270.toInt ≤ (I 3).toInt) by omega), (show (0 ≤ u349.toInt ∧ u349.toInt ≤ 4000) by omega), (show (0 ≤ u350.toInt ∧ u350.toInt ≤ 60) by omega), (show ((I 20).toInt ≤ u350.toInt) by omega), (show (0 ≤ (0 : Int32).toInt ∧ (0 : Int32).toInt ≤ 1) by omega), (show ((0 : Int32).toInt = 0 → 1 ≤ u349.toInt) by omega), (show ((0 : Int32).toInt = 1 → (f9 (I 19).toNatClampNeg).toInt + (I 16).toInt ≤ ((F 6) (I 19).toNatClampNeg).toInt + v270.toInt) by omega), (show ((0 : Int32).toInt = 1 → PSg (F 4) (F 8) (F 7) f8 f9 gs (I 19).toNatClampNeg gb (gd + 1) (u350.toInt).toNat) from (fun h => absurd h (by decide))), (show TC (F 4) (F 8) (F 7) f8 from (PG_tc t22))⟩, CB.mk ht hP hD⟩, hS.F ht⟩) hS.2.2 dX11_compare_114
            · skip
              have c343 := i_eq (Eq.refl v339.toInt) (show (61 : Int32).toInt = 61 by decide) c343
              refine lv_iconst (v := 1) hx hb dX11_compare_85 (by decide) ?_
              refine lv_goto (tgt := 90) hx hb dX11_compare_86 (by decide) ?_
              refine lv_istore_n (lv' := [(3, .int 1), (2, .int u27), (1, .int u26), (0, .ref o)]) hx hb dX11_compare_90 rfl hl (by decide) rfl (fun ls hl => ?_)
              refine lv_iload_n hx hb dX11_compare_91 rfl (lv_at hl 0 rfl) ?_
              refine lv_if_eq (tgt := 105) hx hb dX11_compare_92 (by decide) (fun c403 => ?_) (fun c403 => ?_)
              · exact absurd c403 (by decide)
              refine lv_aload_n hx hb dX11_compare_95 rfl (lv_at hl 3 rfl) ?_
              refine lv_dup hx hb dX11_compare_96 rfl ?_
              refine va_get (D := D) (ci := 11) (v := .int v270) (C := RX11) (T := TX11) (N := 49) hx hb hg inGX11 hown hKN.1 hP 0 rfl rfl 16 (by decide) (hg _ kw_1224) (fun _ h9 => h9) rfl dX11_compare_97 ?_
              refine lv_iconst (v := 1) hx hb dX11_compare_100 (by decide) ?_
              refine lv_iadd hx hb dX11_compare_101 ?_
              refine lv_topi (fun v404 ev404 => ?_)
              have hv404 := i_add (Eq.refl v270.toInt) (show (1 : Int32).toInt = 1 by decide) ev404 (by omega) (by omega)
              refine va_put (D := D) (ci := 11) (v := .int v404) (ty := .int) (C := RX11) (T := TX11) (N := 49) hx hb hg inGX11 tyX11 tyX11_ok nmX11 hown hKN.1 hP hD hS 0 rfl rfl 16 (by decide) (hg _ kw_1224) (fun _ h9 => h9) rfl (by decide +kernel) rfl rfl (Nat.le_of_ble_eq_true rfl) dX11_compare_102 (fun H locs hP hD hS => ?_)
              have hP : va_P D vwCl (MW Y o a (upd (upd (upd (upd I 16 v404) 17 u5) 18 u6) 20 u7) J (vf_upd (vf_upd F 5 f8) 6 f9) G) H := hP
              have hD : va_D A (MW Y o a (upd (upd (upd (upd I 16 v404) 17 u5) 18 u6) 20 u7) J (vf_upd (vf_upd F 5 f8) 6 f9) G) := hD
              refine lv_aload_n hx hb dX11_compare_105 rfl (lv_at hl 3 rfl) ?_
              refine lv_iload_n hx hb dX11_compare_106 rfl (lv_at hl 1 rfl) ?_
              refine cga (rn_V (As := [.int u27]) (rest := []) (b := o) (m_makes l D Y Z H.size o a (upd (upd (upd (upd I 16 v404) 17 u5) 18 u6) 20 u7) J (vf_upd (vf_upd F 5 f8) 6 f9) G  u27 (show (0 ≤ u7.toInt ∧ u7.toInt ≤ 60) by omega) (show (0 ≤ u27.toInt ∧ u27.toInt ≤ 400) by omega) (show (0 ≤ u5.toInt ∧ u5.toInt ≤ 4000) by omega)) ⟨hx, hb, hml, hown, hg⟩ lk_X11_258 ⟨CP.blind, va_recv hKN.1 hP (ci := 11) (q0 := 0) rfl rfl, CP.at hP hKN hD⟩ ⟨⟨rfl, rfl⟩, ⟨Nat.le_of_ble_eq_true rfl, Nat.le_of_ble_eq_true rfl⟩, ⟨Nat.le_of_ble_eq_true rfl, Nat.le_of_ble_eq_true rfl⟩⟩ hl.1 rfl (Nat.le_of_ble_eq_true rfl) dX11_compare_107) hP hD hS hA (fun u405 H locs w406 hP hD hS => ?_)
              obtain ⟨u407, u408, u409⟩ := u405
              obtain ⟨hw410, hw411, hw412, hw413, hw414⟩ : (0 ≤ u409.toInt ∧ u409.toInt ≤ 60) ∧ (0 ≤ u408.toInt ∧ u408.toInt ≤ 4000) ∧ (u407.toInt = 1 → u409.toInt = u7.toInt + 1) ∧ (u407.toInt = 0 → (1 ≤ u408.toInt ∧ u409.toInt = u7.toInt)) ∧ (0 ≤ u407.toInt ∧ u407.toInt ≤ 1) := w406
              refine W.eq (g2 := F0 m 110 ls [.int u407]) rfl ?_
              have hP : va_P D vwCl (MW Y o a (upd (upd (upd (upd I 16 v404) 17 u408) 18 u6) 20 u409) J (vf_upd (vf_upd F 5 f8) 6 f9) G) H := hP
              have hD : va_D A (MW Y o a (upd (upd (upd (upd I 16 v404) 17 u408) 18 u6) 20 u409) J (vf_upd (vf_upd F 5 f8) 6 f9) G) := hD
              rcases (show u407.toInt = 1 ∨ u407.toInt = 0 by omega) with c415 | c415
              · obtain rfl : u407 = 1 := i_is c415 (by decide)
                replace hw412 := hw412 (by decide)
                clear hw413
                refine W.eq (g2 := F0 m 110 ls [.int 1]) rfl ?_
                refine lv_if_ne (tgt := 115) hx hb dX11_compare_110 (by decide) (fun c416 => ?_) (fun c416 => ?_)
                rotate_left
                · exact absurd c416 (by decide)
                refine lv_iload_n hx hb dX11_compare_115 rfl (lv_at hl 2 rfl) ?_
                refine lv_bipush (v := 60) hx hb dX11_compare_116 (by decide) ?_
                refine lv_icmp_ne (tgt := 133) hx hb dX11_compare_118 (by decide) (fun c420 => ?_) (fun c420 => ?_)
                rotate_left
                · have c420 := i_eq (Eq.refl u26.toInt) (show (60 : Int32).toInt = 60 by decide) c420; exfalso; omega
                have c420 := i_ne (Eq.refl u26.toInt) (show (60 : Int32).toInt = 60 by decide) c420
                refine lv_iload_n hx hb dX11_compare_133 rfl (lv_at hl 2 rfl) ?_
                refine lv_bipush (v := 61) hx hb dX11_compare_134 (by decide) ?_
                refine lv_icmp_ne (tgt := 143) hx hb dX11_compare_136 (by decide) (fun c423 => ?_) (fun c423 => ?_)
                rotate_left
                · have c423 := i_eq (Eq.refl u26.toInt) (show (61 : Int32).toInt = 61 by decide) c423; exfalso; omega
                have c423 := i_ne (Eq.refl u26.toInt) (show (61 : Int32).toInt = 61 by decide) c423
                refine lv_iload_n hx hb dX11_compare_143 rfl (lv_at hl 0 rfl) ?_
                refine lv_if_eq (tgt := 151) hx hb dX11_compare_144 (by decide) (fun c425 => ?_) (fun c425 => ?_)
                · exact absurd c425 (by decide)
                refine lv_iconst (v := 3) hx hb dX11_compare_147 (by decide) ?_
                refine lv_goto (tgt := 152) hx hb dX11_compare_148 (by decide) ?_
                refine lv_istore (lv' := [(4, .int 3), (3, .int 1), (2, .int u27), (1, .int u26), (0, .ref o)]) hx hb dX11_compare_152 hl (by decide) rfl (fun ls hl => ?_)
                have t426 := PG_len t22
                have t427 := PG_dep t22
                refine lv_aload_n hx hb dX11_compare_154 rfl (lv_at hl 4 rfl) ?_
                refine cga (rn_V (As := []) (rest := []) (b := o) (m_sum l D Y Z H.size o a (upd (upd (upd (upd I 16 v404) 17 u408) 18 u6) 20 u409) J (vf_upd (vf_upd F 5 f8) 6 f9) G gs gb (gd + 1)  (show (0 ≤ v404.toInt ∧ v404.toInt ≤ 400) by omega) (show (0 ≤ (I 3).toInt ∧ (I 3).toInt ≤ 400) by omega) (show (v404.toInt ≤ (I 3).toInt) by omega) (show (0 ≤ u408.toInt ∧ u408.toInt ≤ 4000) by omega) (show (0 ≤ u409.toInt ∧ u409.toInt ≤ 60) by omega) (show (0 ≤ (I 19).toInt ∧ (I 19).toInt ≤ 17) by omega) (show ((f9 (I 19).toNatClampNeg).toInt ≤ v404.toInt) by omega) (show PSg (F 4) (F 8) (F 7) f8 f9 gs (I 19).toNatClampNeg gb ((gd + 1)) (u409.toInt).toNat from (PG_to t22 rfl (by omega) (by omega) (by omega)))) ⟨hx, hb, hml, hown, hg⟩ lk_X11_271 ⟨CP.blind, va_recv hKN.1 hP (ci := 11) (q0 := 0) rfl rfl, CP.at hP hKN hD⟩ ⟨⟨rfl, rfl⟩, ⟨Nat.le_of_ble_eq_true rfl, Nat.le_of_ble_eq_true rfl⟩, ⟨Nat.le_of_ble_eq_true rfl, Nat.le_of_ble_eq_true rfl⟩⟩ hl.1 rfl (Nat.le_of_ble_eq_true rfl) dX11_compare_155) hP hD hS hA (fun u428 H locs w429 hP hD hS => ?_)
                obtain ⟨u430, u431, u432, u433, u434, f435, f436⟩ := u428
                obtain ⟨hw437, hw438, hw439, hw440, hw441, hw442, hw443, hw444, hw445, hw446, hw447⟩ : (0 ≤ u431.toInt ∧ u431.toInt ≤ 400) ∧ (v404.toInt ≤ u431.toInt) ∧ (u431.toInt ≤ (I 3).toInt) ∧ (0 ≤ u432.toInt ∧ u432.toInt ≤ 4000) ∧ (0 ≤ u434.toInt ∧ u434.toInt ≤ 60) ∧ (u409.toInt ≤ u434.toInt) ∧ (0 ≤ u430.toInt ∧ u430.toInt ≤ 1) ∧ (u430.toInt = 0 → 1 ≤ u432.toInt) ∧ (u430.toInt = 1 → (f436 (I 19).toNatClampNeg).toInt + v404.toInt ≤ (f9 (I 19).toNatClampNeg).toInt + u431.toInt) ∧ (u430.toInt = 1 → PSg (F 4) (F 8) (F 7) f435 f436 gs (I 19).toNatClampNeg gb ((gd + 1) + 1) (u434.toInt).toNat) ∧ TC (F 4) (F 8) (F 7) f435 := w429
                refine W.eq (g2 := F0 m 158 ls [.int u430]) rfl ?_
                have hP : va_P D vwCl (MW Y o a (upd (upd (upd (upd I 16 u431) 17 u432) 18 u433) 20 u434) J (vf_upd (vf_upd F 5 f435) 6 f436) G) H := hP
                have hD : va_D A (MW Y o a (upd (upd (upd (upd I 16 u431) 17 u432) 18 u433) 20 u434) J (vf_upd (vf_upd F 5 f435) 6 f436) G) := hD
                rcases (show u430.toInt = 1 ∨ u430.toInt = 0 by omega) with c448 | c448
                · obtain rfl : u430 = 1 := i_is c448 (by decide)
                  clear hw444
                  replace hw445 := hw445 (by decide)
                  have t449 := hw446 (by decide)
                  have t449l := PG_len t449
                  have t449d := PG_dep t449
                  refine W.eq (g2 := F0 m 158 ls [.int 1]) rfl ?_
                  refine lv_if_ne (tgt := 163) hx hb dX11_compare_158 (by decide) (fun c450 => ?_) (fun c450 => ?_)
                  rotate_left
                  · exact absurd c450 (by decide)
                  refine lv_aload_n hx hb dX11_compare_163 rfl (lv_at hl 4 rfl) ?_
                  refine lv_bipush (v := 6) hx hb dX11_compare_164 (by decide) ?_
                  refine lv_iload hx hb dX11_compare_166 (lv_at hl 0 rfl) ?_
                  refine lv_iadd hx hb dX11_compare_168 ?_
                  refine lv_topi (fun z451 ez451 => ?_)
                  obtain rfl : z451 = 9 := ez451.trans (by decide)
                  refine lv_iconst (v := 0) hx hb dX11_compare_169 (by decide) ?_
                  have zi9 : (9 : Int32).toInt = 9 := by decide
                  have zi0 : (0 : Int32).toInt = 0 := by decide
                  refine cga (rn_V (As := [.int 9, .int 0]) (rest := []) (b := o) (m_puts l D Y Z H.size o a (upd (upd (upd (upd I 16 u431) 17 u432) 18 u433) 20 u434) J (vf_upd (vf_upd F 5 f435) 6 f436) G  9 0 (show (0 ≤ (I 19).toInt ∧ (I 19).toInt ≤ 17) by omega) (show (0 ≤ (9 : Int32).toInt ∧ (9 : Int32).toInt ≤ 15) by omega) (show (0 ≤ (0 : Int32).toInt ∧ (0 : Int32).toInt ≤ 99999) by omega) (show (0 ≤ (f436 (I 19).toNatClampNeg).toInt ∧ (f436 (I 19).toNatClampNeg).toInt ≤ 399) by omega)) ⟨hx, hb, hml, hown, hg⟩ lk_X11_250 ⟨CP.blind, va_recv hKN.1 hP (ci := 11) (q0 := 0) rfl rfl, CP.at hP hKN hD⟩ ⟨⟨rfl, rfl⟩, ⟨Nat.le_of_ble_eq_true rfl, Nat.le_of_ble_eq_true rfl⟩, ⟨Nat.le_of_ble_eq_true rfl, Nat.le_of_ble_eq_true rfl⟩⟩ hl.1 rfl (Nat.le_of_ble_eq_true rfl) dX11_compare_170) hP hD hS hA (fun u452 H locs w453 hP hD hS => ?_)
                  obtain ⟨f454, f455⟩ := u452
                  have hw456 : PU f435 f454 f436 f455 (I 19).toNatClampNeg (9 : Int32).toInt (0 : Int32).toInt := w453
                  clear w453
                  refine W.eq (g2 := F0 m 173 ls []) rfl ?_
                  have hP : va_P D vwCl (MW Y o a (upd (upd (upd (upd I 16 u431) 17 u432) 18 u433) 20 u434) J (vf_upd (vf_upd F 5 f454) 6 f455) G) H := hP
                  have hD : va_D A (MW Y o a (upd (upd (upd (upd I 16 u431) 17 u432) 18 u433) 20 u434) J (vf_upd (vf_upd F 5 f454) 6 f455) G) := hD
                  have t457 := PG_pu (e := (((gd + 1) + 1) - 1)) (PG_to (md2 := u434.toInt.toNat) t449 rfl rfl (by omega) (by omega)) hw456 (fun x hx => stp_bin hx (by omega) (by omega) (by omega) (by omega) (by omega) (by omega) rfl) (by omega) (by omega)
                  obtain ⟨t457p, t457l⟩ := t457
                  refine lv_iconst (v := 1) hx hb dX11_compare_173 (by decide) ?_
                  refine W.widen (k := 0) (n := 0) (Nat.le_of_ble_eq_true rfl) (Nat.le_of_ble_eq_true rfl) ?_
                  exact W.zret (v := 1) hx hb hr (by decide) (fun t ht hW => ⟨⟨(1, u431, u432, u433, u434, f454, f455), rfl, ⟨(show (0 ≤ u431.toInt ∧ u431.toInt ≤ 400) by omega), (show ((I 16).toInt ≤ u431.toInt) by omega), (show (u431.toInt ≤ (I 3).toInt) by omega), (show (0 ≤ u432.toInt ∧ u432.toInt ≤ 4000) by omega), (show (0 ≤ u434.toInt ∧ u434.toInt ≤ 60) by omega), (show ((I 20).toInt ≤ u434.toInt) by omega), (show (0 ≤ (1 : Int32).toInt ∧ (1 : Int32).toInt ≤ 1) by omega), (show ((1 : Int32).toInt = 0 → 1 ≤ u432.toInt) by omega), (show ((1 : Int32).toInt = 1 → (f455 (I 19).toNatClampNeg).toInt + (I 16).toInt ≤ ((F 6) (I 19).toNatClampNeg).toInt + u431.toInt) by omega), (show ((1 : Int32).toInt = 1 → PSg (F 4) (F 8) (F 7) f454 f455 gs (I 19).toNatClampNeg gb (gd + 1) (u434.toInt).toNat) from (fun _ => (PG_to t457p rfl (by omega) (by omega) (by omega)))), (show TC (F 4) (F 8) (F 7) f454 from (PG_tc t457p))⟩, CB.mk ht hP hD⟩, hS.F ht⟩) hS.2.2 dX11_compare_174
                · obtain rfl : u430 = 0 := i_is c448 (by decide)
                  have zi0 : (0 : Int32).toInt = 0 := by decide
                  replace hw444 := hw444 (by decide)
                  clear hw445
                  refine W.eq (g2 := F0 m 158 ls [.int 0]) rfl ?_
                  refine lv_if_ne (tgt := 163) hx hb dX11_compare_158 (by decide) (fun c458 => ?_) (fun c458 => ?_)
                  · exact absurd c458 (by decide)
                  refine lv_iconst (v := 0) hx hb dX11_compare_161 (by decide) ?_
                  refine W.widen (k := 0) (n := 0) (Nat.le_of_ble_eq_true rfl) (Nat.le_of_ble_eq_true rfl) ?_
                  exact W.zret (v := 0) hx hb hr (by decide) (fun t ht hW => ⟨⟨(0, u431, u432, u433, u434, f435, f436), rfl, ⟨(show (0 ≤ u431.toInt ∧ u431.toInt ≤ 400) by omega), (show ((I 16).toInt ≤ u431.toInt) by omega), (show (u431.toInt ≤ (I 3).toInt) by omega), (show (0 ≤ u432.toInt ∧ u432.toInt ≤ 4000) by omega), (show (0 ≤ u434.toInt ∧ u434.toInt ≤ 60) by omega), (show ((I 20).toInt ≤ u434.toInt) by omega), (show (0 ≤ (0 : Int32).toInt ∧ (0 : Int32).toInt ≤ 1) by omega), (show ((0 : Int32).toInt = 0 → 1 ≤ u432.toInt) by omega), (show ((0 : Int32).toInt = 1 → (f436 (I 19).toNatClampNeg).toInt + (I 16).toInt ≤ ((F 6) (I 19).toNatClampNeg).toInt + u431.toInt) by omega), (show ((0 : Int32).toInt = 1 → PSg (F 4) (F 8) (F 7) f435 f436 gs (I 19).toNatClampNeg gb (gd + 1) (u434.toInt).toNat) from (fun h => absurd h (by decide))), (show TC (F 4) (F 8) (F 7) f435 from hw447)⟩, CB.mk ht hP hD⟩, hS.F ht⟩) hS.2.2 dX11_compare_162
              · obtain rfl : u407 = 0 := i_is c415 (by decide)
                have zi0 : (0 : Int32).toInt = 0 := by decide
                clear hw412
                replace hw413 := hw413 (by decide)
                refine W.eq (g2 := F0 m 110 ls [.int 0]) rfl ?_
                refine lv_if_ne (tgt := 115) hx hb dX11_compare_110 (by decide) (fun c459 => ?_) (fun c459 => ?_)
                · exact absurd c459 (by decide)
                refine lv_iconst (v := 0) hx hb dX11_compare_113 (by decide) ?_
                refine W.widen (k := 0) (n := 0) (Nat.le_of_ble_eq_true rfl) (Nat.le_of_ble_eq_true rfl) ?_
                exact W.zret (v := 0) hx hb hr (by decide) (fun t ht hW => ⟨⟨(0, v404, u408, u6, u409, f8, f9), rfl, ⟨(show (0 ≤ v404.toInt ∧ v404.toInt ≤ 400) by omega), (show ((I 16).toInt ≤ v404.toInt) by omega), (show (v404.toInt ≤ (I 3).toInt) by omega), (show (0 ≤ u408.toInt ∧ u408.toInt ≤ 4000) by omega), (show (0 ≤ u409.toInt ∧ u409.toInt ≤ 60) by omega), (show ((I 20).toInt ≤ u409.toInt) by omega), (show (0 ≤ (0 : Int32).toInt ∧ (0 : Int32).toInt ≤ 1) by omega), (show ((0 : Int32).toInt = 0 → 1 ≤ u408.toInt) by omega), (show ((0 : Int32).toInt = 1 → (f9 (I 19).toNatClampNeg).toInt + (I 16).toInt ≤ ((F 6) (I 19).toNatClampNeg).toInt + v404.toInt) by omega), (show ((0 : Int32).toInt = 1 → PSg (F 4) (F 8) (F 7) f8 f9 gs (I 19).toNatClampNeg gb (gd + 1) (u409.toInt).toNat) from (fun h => absurd h (by decide))), (show TC (F 4) (F 8) (F 7) f8 from (PG_tc t22))⟩, CB.mk ht hP hD⟩, hS.F ht⟩) hS.2.2 dX11_compare_114
        · skip
          have c269 := i_ne (Eq.refl u26.toInt) (show (62 : Int32).toInt = 62 by decide) c269
          refine lv_aload_n hx hb dX11_compare_37 rfl (lv_at hl 2 rfl) ?_
          refine lv_iconst (v := 0) hx hb dX11_compare_38 (by decide) ?_
          refine lv_iload_n hx hb dX11_compare_39 rfl (lv_at hl 0 rfl) ?_
          have zi0 : (0 : Int32).toInt = 0 := by decide
          refine cga (rn_V (As := [.int 0, .int u27]) (rest := []) (b := o) (m_fails l D Y Z H.size o a (upd (upd (upd (upd I 16 u27) 17 u5) 18 u6) 20 u7) J (vf_upd (vf_upd F 5 f8) 6 f9) G  0 u27 (show (0 ≤ (0 : Int32).toInt ∧ (0 : Int32).toInt ≤ 4) by omega) (show (0 ≤ u27.toInt ∧ u27.toInt ≤ 400) by omega) (show (0 ≤ u5.toInt ∧ u5.toInt ≤ 4000) by omega)) ⟨hx, hb, hml, hown, hg⟩ lk_X11_200 ⟨CP.blind, va_recv hKN.1 hP (ci := 11) (q0 := 0) rfl rfl, CP.at hP hKN hD⟩ ⟨⟨rfl, rfl⟩, ⟨Nat.le_of_ble_eq_true rfl, Nat.le_of_ble_eq_true rfl⟩, ⟨Nat.le_of_ble_eq_true rfl, Nat.le_of_ble_eq_true rfl⟩⟩ hl.1 rfl (Nat.le_of_ble_eq_true rfl) dX11_compare_40) hP hD hS hA (fun u460 H locs w461 hP hD hS => ?_)
          obtain ⟨u462, u463⟩ := u460
          obtain ⟨hw464, hw465⟩ : (u462.toInt = 0) ∧ (1 ≤ u463.toInt ∧ u463.toInt ≤ 4000) := w461
          refine W.eq (g2 := F0 m 43 ls [.int u462]) rfl ?_
          have hP : va_P D vwCl (MW Y o a (upd (upd (upd (upd I 16 u27) 17 u463) 18 u6) 20 u7) J (vf_upd (vf_upd F 5 f8) 6 f9) G) H := hP
          have hD : va_D A (MW Y o a (upd (upd (upd (upd I 16 u27) 17 u463) 18 u6) 20 u7) J (vf_upd (vf_upd F 5 f8) 6 f9) G) := hD
          obtain rfl : u462 = 0 := i_is (X := 0) (by omega) (by decide)
          refine W.eq (g2 := F0 m 43 ls [.int 0]) rfl ?_
          refine W.widen (k := 0) (n := 0) (Nat.le_of_ble_eq_true rfl) (Nat.le_of_ble_eq_true rfl) ?_
          exact W.zret (v := 0) hx hb hr (by decide) (fun t ht hW => ⟨⟨(0, u27, u463, u6, u7, f8, f9), rfl, ⟨(show (0 ≤ u27.toInt ∧ u27.toInt ≤ 400) by omega), (show ((I 16).toInt ≤ u27.toInt) by omega), (show (u27.toInt ≤ (I 3).toInt) by omega), (show (0 ≤ u463.toInt ∧ u463.toInt ≤ 4000) by omega), (show (0 ≤ u7.toInt ∧ u7.toInt ≤ 60) by omega), (show ((I 20).toInt ≤ u7.toInt) by omega), (show (0 ≤ (0 : Int32).toInt ∧ (0 : Int32).toInt ≤ 1) by omega), (show ((0 : Int32).toInt = 0 → 1 ≤ u463.toInt) by omega), (show ((0 : Int32).toInt = 1 → (f9 (I 19).toNatClampNeg).toInt + (I 16).toInt ≤ ((F 6) (I 19).toNatClampNeg).toInt + u27.toInt) by omega), (show ((0 : Int32).toInt = 1 → PSg (F 4) (F 8) (F 7) f8 f9 gs (I 19).toNatClampNeg gb (gd + 1) (u7.toInt).toNat) from (fun h => absurd h (by decide))), (show TC (F 4) (F 8) (F 7) f8 from (PG_tc t22))⟩, CB.mk ht hP hD⟩, hS.F ht⟩) hS.2.2 dX11_compare_43
  · obtain rfl : u3 = 0 := i_is c21 (by decide)
    have zi0 : (0 : Int32).toInt = 0 := by decide
    replace hw17 := hw17 (by decide)
    clear hw18
    refine W.eq (g2 := F0 m 4 ls [.int 0]) rfl ?_
    refine lv_if_ne (tgt := 9) hx hb dX11_compare_4 (by decide) (fun c466 => ?_) (fun c466 => ?_)
    · exact absurd c466 (by decide)
    refine lv_iconst (v := 0) hx hb dX11_compare_7 (by decide) ?_
    refine W.widen (k := 0) (n := 0) (Nat.le_of_ble_eq_true rfl) (Nat.le_of_ble_eq_true rfl) ?_
    exact W.zret (v := 0) hx hb hr (by decide) (fun t ht hW => ⟨⟨(0, u4, u5, u6, u7, f8, f9), rfl, ⟨(show (0 ≤ u4.toInt ∧ u4.toInt ≤ 400) by omega), (show ((I 16).toInt ≤ u4.toInt) by omega), (show (u4.toInt ≤ (I 3).toInt) by omega), (show (0 ≤ u5.toInt ∧ u5.toInt ≤ 4000) by omega), (show (0 ≤ u7.toInt ∧ u7.toInt ≤ 60) by omega), (show ((I 20).toInt ≤ u7.toInt) by omega), (show (0 ≤ (0 : Int32).toInt ∧ (0 : Int32).toInt ≤ 1) by omega), (show ((0 : Int32).toInt = 0 → 1 ≤ u5.toInt) by omega), (show ((0 : Int32).toInt = 1 → (f9 (I 19).toNatClampNeg).toInt + (I 16).toInt ≤ ((F 6) (I 19).toNatClampNeg).toInt + u4.toInt) by omega), (show ((0 : Int32).toInt = 1 → PSg (F 4) (F 8) (F 7) f8 f9 gs (I 19).toNatClampNeg gb (gd + 1) (u7.toInt).toNat) from (fun h => absurd h (by decide))), (show TC (F 4) (F 8) (F 7) f8 from hw20)⟩, CB.mk ht hP hD⟩, hS.F ht⟩) hS.2.2 dX11_compare_8
