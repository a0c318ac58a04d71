set_option maxHeartbeats 4000000 in
set_option maxRecDepth 100000 in
theorem m_seeI (l : Launch) (D : va_G) (Y : Nat → ClassId) (Z : Nat → Nat) (sz : Nat) (o : Nat) (a : Nat → Nat) (I : Nat → Int32) (J : Nat → Int64) (F : Nat → Nat → Int32) (G : Nat → Nat → Int64) (hk_0 : (0 ≤ (I 16).toInt ∧ (I 16).toInt ≤ 400)) (hk_1 : (0 ≤ (I 3).toInt ∧ (I 3).toInt ≤ 400)) (hk_2 : ((I 16).toInt ≤ (I 3).toInt)) : Met l yX11_see (.code yX11_see cX11_see 1 (some .int) :: GW) ({ frames := 0, cells := 0, slots := 0, locals := 0 }) (va_Pc [.ref o] (CP D Y Z (MW Y o a I J F G) sz)) (QG (S := Int32 × Int32) (fun u => some (.int u.1)) (fun u => (0 ≤ u.2.toInt ∧ u.2.toInt ≤ 400) ∧ ((I 16).toInt ≤ u.2.toInt) ∧ (u.2.toInt ≤ (I 3).toInt) ∧ ((u.1.toInt = -1 ∧ u.2.toInt = (I 3).toInt) ∨ (0 ≤ u.1.toInt ∧ u.1.toInt ≤ 255 ∧ u.2.toInt < (I 3).toInt ∧ ((F 2) u.2.toNatClampNeg).toInt ≠ 32)) ∧ (-1 ≤ u.1.toInt ∧ u.1.toInt ≤ 255) ∧ (((I 16).toInt < (I 3).toInt ∧ ((F 2) (I 16).toNatClampNeg).toInt ≠ 32) → u.2.toInt = (I 16).toInt)) (fun u => CB D (MW Y o a (upd I 16 u.2) J F G) (va_A (MW Y o a I J F G) sz)) (va_A (MW Y o a I J F G) sz)) 0 0 (va_A (MW Y o a I J F G) sz) := by
  refine Met.ofW (cc := cX11_see) (maxL := 1) (ret := (some .int)) (by decide) rfl ?_
  intro p e s m args below meth c s₁ B hml hv
  obtain ⟨rfl, hsz, hP, hKN, hD0⟩ := hv
  have hx := B.exec
  have hb := B.bytes
  have hr := B.returns
  have hts := atoms_spec (ws := .code yX11_see cX11_see 1 (some .int) :: GW) B.pre
  have hg : ∀ w ∈ GW, w.before _ s = true := fun w h => hts w (List.mem_cons_of_mem _ h)
  have hown : s.vm.findClass RX11 = some m.cls := findClass_of_methodNamed B.named
  have hlocks := B.notSynchronized
  subst hsz
  have hD := hD0.self (sz := s.heap.size)
  generalize hAe : va_A (MW Y o a I J F G) s.heap.size = A at hD ⊢
  have hA : ∀ q : Nat, s.heap.size ≤ q → A q := fun q h => by rw [← hAe]; exact Or.inr h
  clear hAe hD0 hts B
  have hl := lv_entry ([.ref o]) (n := 1) (Nat.le_of_ble_eq_true rfl)
  rw [lg_entry_eq]
  generalize (lg_sl ([.ref o]) ++ List.replicate (1 - (lg_sl ([.ref o])).length) Slot.unset).toArray = ls at hl ⊢
  have hl : lv_has ls 1 [(0, .ref o)] := hl
  refine w_start (A0 := A) hP (fun H locs hP hS => ?_)
  refine w_loop (σ := Int32) (fun xx H locs ls => match xx with | g7 => va_P D vwCl (MW Y o a (upd I 16 g7) J F G) H ∧ va_D A (MW Y o a (upd I 16 g7) J F G) ∧ va_S A s.heap H locs ∧ lv_has ls 1 [(0, .ref o)] ∧ (0 ≤ g7.toInt ∧ g7.toInt ≤ 400) ∧ (g7.toInt ≤ (I 3).toInt) ∧ ((I 16).toInt ≤ g7.toInt) ∧ (g7.toInt = (I 16).toInt ∨ ((F 2) (I 16).toNatClampNeg).toInt = 32)) (fun xx => match xx with | g7 => (400 - g7.toInt).toNat) ((I 16)) ⟨hP, hD, hS, lv_sub hl [0] rfl, by omega, by omega, by omega, by omega⟩ (fun xx H locs ls hI ih => ?_)
  revert hI ih
  generalize xx = g7
  intro hI ih
  obtain ⟨hP, hD, hS, hl, hq14, hq15, hq16, hq17⟩ := hI
  have ih18 := ih
  refine lv_aload_n hx hb dX11_see_0 rfl (lv_at hl 0 rfl) ?_
  refine va_get (D := D) (ci := 11) (v := .int g7) (C := RX11) (T := TX11) (N := 49) hx hb hg inGX11 hown hKN.1 hP 0 rfl rfl 16 (by decide) (hg _ kw_1224) (fun _ h9 => h9) rfl dX11_see_1 ?_
  refine lv_aload_n hx hb dX11_see_4 rfl (lv_at hl 0 rfl) ?_
  refine va_get (D := D) (ci := 11) (v := .int (I 3)) (C := RX11) (T := TX11) (N := 49) hx hb hg inGX11 hown hKN.1 hP 0 rfl rfl 3 (by decide) (hg _ kw_1211) (fun _ h9 => h9) rfl dX11_see_5 ?_
  refine lv_icmp_ge (tgt := 38) hx hb dX11_see_8 (by decide) (fun c19 => ?_) (fun c19 => ?_)
  · skip
    have c19 := i_le (Eq.refl (I 3).toInt) (Eq.refl g7.toInt) c19
    refine lv_aload_n hx hb dX11_see_38 rfl (lv_at hl 0 rfl) ?_
    refine va_get (D := D) (ci := 11) (v := .int g7) (C := RX11) (T := TX11) (N := 49) hx hb hg inGX11 hown hKN.1 hP 0 rfl rfl 16 (by decide) (hg _ kw_1224) (fun _ h9 => h9) rfl dX11_see_39 ?_
    refine lv_aload_n hx hb dX11_see_42 rfl (lv_at hl 0 rfl) ?_
    refine va_get (D := D) (ci := 11) (v := .int (I 3)) (C := RX11) (T := TX11) (N := 49) hx hb hg inGX11 hown hKN.1 hP 0 rfl rfl 3 (by decide) (hg _ kw_1211) (fun _ h9 => h9) rfl dX11_see_43 ?_
    refine lv_icmp_ge (tgt := 65) hx hb dX11_see_46 (by decide) (fun c20 => ?_) (fun c20 => ?_)
    · skip
      have c20 := i_le (Eq.refl (I 3).toInt) (Eq.refl g7.toInt) c20
      refine lv_iconst (v := (-1)) hx hb dX11_see_65 (by decide) ?_
      refine W.widen (k := 0) (n := 0) (Nat.le_of_ble_eq_true rfl) (Nat.le_of_ble_eq_true rfl) ?_
      have zim1 : ((-1) : Int32).toInt = -1 := by decide
      exact W.iret (v := (-1)) hx hb hr (fun t ht hW => ⟨⟨((-1), g7), rfl, ⟨(show (0 ≤ g7.toInt ∧ g7.toInt ≤ 400) by omega), (show ((I 16).toInt ≤ g7.toInt) by omega), (show (g7.toInt ≤ (I 3).toInt) by omega), (show ((((-1) : Int32).toInt = -1 ∧ g7.toInt = (I 3).toInt) ∨ (0 ≤ ((-1) : Int32).toInt ∧ ((-1) : Int32).toInt ≤ 255 ∧ g7.toInt < (I 3).toInt ∧ ((F 2) g7.toNatClampNeg).toInt ≠ 32)) by omega), (show (-1 ≤ ((-1) : Int32).toInt ∧ ((-1) : Int32).toInt ≤ 255) by omega), (show (((I 16).toInt < (I 3).toInt ∧ ((F 2) (I 16).toNatClampNeg).toInt ≠ 32) → g7.toInt = (I 16).toInt) by omega)⟩, CB.mk ht hP hD⟩, hS.F ht⟩) hS.2.2 dX11_see_66
    · skip
      have c20 := i_nle (Eq.refl (I 3).toInt) (Eq.refl g7.toInt) c20
      refine lv_aload_n hx hb dX11_see_49 rfl (lv_at hl 0 rfl) ?_
      refine va_get (D := D) (ci := 11) (v := .ref (a 2)) (C := RX11) (T := TX11) (N := 49) hx hb hg inGX11 hown hKN.1 hP 0 rfl rfl 2 (by decide) (hg _ kw_1210) (fun _ h9 => h9) rfl dX11_see_50 ?_
      refine lv_aload_n hx hb dX11_see_53 rfl (lv_at hl 0 rfl) ?_
      refine va_get (D := D) (ci := 11) (v := .int g7) (C := RX11) (T := TX11) (N := 49) hx hb hg inGX11 hown hKN.1 hP 0 rfl rfl 16 (by decide) (hg _ kw_1224) (fun _ h9 => h9) rfl dX11_see_54 ?_
      refine va_bald hx hb hKN.1 hP 3 2 rfl rfl (vp_in_iff.mpr ⟨by omega, by omega⟩) dX11_see_57 ?_
      refine lv_topi (fun v21 ev21 => ?_)
      have ev21 : v21 = (F 2) g7.toNatClampNeg := ev21
      have qv21 := congrArg Int32.toInt ev21
      refine lv_sipush (v := 255) hx hb dX11_see_58 (by decide) ?_
      refine lv_iand hx hb dX11_see_61 ?_
      refine lv_topi (fun v22 ev22 => ?_)
      have hv22 := i_and (show (255 : Int32).toInt = 255 by decide) ev22 (by decide)
      refine lv_goto (tgt := 66) hx hb dX11_see_62 (by decide) ?_
      refine W.widen (k := 0) (n := 0) (Nat.le_of_ble_eq_true rfl) (Nat.le_of_ble_eq_true rfl) ?_
      exact W.iret (v := v22) hx hb hr (fun t ht hW => ⟨⟨(v22, g7), rfl, ⟨(show (0 ≤ g7.toInt ∧ g7.toInt ≤ 400) by omega), (show ((I 16).toInt ≤ g7.toInt) by omega), (show (g7.toInt ≤ (I 3).toInt) by omega), (show ((v22.toInt = -1 ∧ g7.toInt = (I 3).toInt) ∨ (0 ≤ v22.toInt ∧ v22.toInt ≤ 255 ∧ g7.toInt < (I 3).toInt ∧ ((F 2) g7.toNatClampNeg).toInt ≠ 32)) by omega), (show (-1 ≤ v22.toInt ∧ v22.toInt ≤ 255) by omega), (show (((I 16).toInt < (I 3).toInt ∧ ((F 2) (I 16).toNatClampNeg).toInt ≠ 32) → g7.toInt = (I 16).toInt) by omega)⟩, CB.mk ht hP hD⟩, hS.F ht⟩) hS.2.2 dX11_see_66
  · skip
    have c19 := i_nle (Eq.refl (I 3).toInt) (Eq.refl g7.toInt) c19
    refine lv_aload_n hx hb dX11_see_11 rfl (lv_at hl 0 rfl) ?_
    refine va_get (D := D) (ci := 11) (v := .ref (a 2)) (C := RX11) (T := TX11) (N := 49) hx hb hg inGX11 hown hKN.1 hP 0 rfl rfl 2 (by decide) (hg _ kw_1210) (fun _ h9 => h9) rfl dX11_see_12 ?_
    refine lv_aload_n hx hb dX11_see_15 rfl (lv_at hl 0 rfl) ?_
    refine va_get (D := D) (ci := 11) (v := .int g7) (C := RX11) (T := TX11) (N := 49) hx hb hg inGX11 hown hKN.1 hP 0 rfl rfl 16 (by decide) (hg _ kw_1224) (fun _ h9 => h9) rfl dX11_see_16 ?_
    refine va_bald hx hb hKN.1 hP 3 2 rfl rfl (vp_in_iff.mpr ⟨by omega, by omega⟩) dX11_see_19 ?_
    refine lv_topi (fun v23 ev23 => ?_)
    have ev23 : v23 = (F 2) g7.toNatClampNeg := ev23
    have qv23 := congrArg Int32.toInt ev23
    refine lv_bipush (v := 32) hx hb dX11_see_20 (by decide) ?_
    have j24 := rgI v23
    refine lv_icmp_ne (tgt := 38) hx hb dX11_see_22 (by decide) (fun c25 => ?_) (fun c25 => ?_)
    · skip
      have c25 := i_ne (Eq.refl v23.toInt) (show (32 : Int32).toInt = 32 by decide) c25
      refine lv_aload_n hx hb dX11_see_38 rfl (lv_at hl 0 rfl) ?_
      refine va_get (D := D) (ci := 11) (v := .int g7) (C := RX11) (T := TX11) (N := 49) hx hb hg inGX11 hown hKN.1 hP 0 rfl rfl 16 (by decide) (hg _ kw_1224) (fun _ h9 => h9) rfl dX11_see_39 ?_
      refine lv_aload_n hx hb dX11_see_42 rfl (lv_at hl 0 rfl) ?_
      refine va_get (D := D) (ci := 11) (v := .int (I 3)) (C := RX11) (T := TX11) (N := 49) hx hb hg inGX11 hown hKN.1 hP 0 rfl rfl 3 (by decide) (hg _ kw_1211) (fun _ h9 => h9) rfl dX11_see_43 ?_
      refine lv_icmp_ge (tgt := 65) hx hb dX11_see_46 (by decide) (fun c26 => ?_) (fun c26 => ?_)
      · skip
        have c26 := i_le (Eq.refl (I 3).toInt) (Eq.refl g7.toInt) c26
        refine lv_iconst (v := (-1)) hx hb dX11_see_65 (by decide) ?_
        refine W.widen (k := 0) (n := 0) (Nat.le_of_ble_eq_true rfl) (Nat.le_of_ble_eq_true rfl) ?_
        have zim1 : ((-1) : Int32).toInt = -1 := by decide
        exact W.iret (v := (-1)) hx hb hr (fun t ht hW => ⟨⟨((-1), g7), rfl, ⟨(show (0 ≤ g7.toInt ∧ g7.toInt ≤ 400) by omega), (show ((I 16).toInt ≤ g7.toInt) by omega), (show (g7.toInt ≤ (I 3).toInt) by omega), (show ((((-1) : Int32).toInt = -1 ∧ g7.toInt = (I 3).toInt) ∨ (0 ≤ ((-1) : Int32).toInt ∧ ((-1) : Int32).toInt ≤ 255 ∧ g7.toInt < (I 3).toInt ∧ ((F 2) g7.toNatClampNeg).toInt ≠ 32)) by omega), (show (-1 ≤ ((-1) : Int32).toInt ∧ ((-1) : Int32).toInt ≤ 255) by omega), (show (((I 16).toInt < (I 3).toInt ∧ ((F 2) (I 16).toNatClampNeg).toInt ≠ 32) → g7.toInt = (I 16).toInt) by omega)⟩, CB.mk ht hP hD⟩, hS.F ht⟩) hS.2.2 dX11_see_66
      · skip
        have c26 := i_nle (Eq.refl (I 3).toInt) (Eq.refl g7.toInt) c26
        refine lv_aload_n hx hb dX11_see_49 rfl (lv_at hl 0 rfl) ?_
        refine va_get (D := D) (ci := 11) (v := .ref (a 2)) (C := RX11) (T := TX11) (N := 49) hx hb hg inGX11 hown hKN.1 hP 0 rfl rfl 2 (by decide) (hg _ kw_1210) (fun _ h9 => h9) rfl dX11_see_50 ?_
        refine lv_aload_n hx hb dX11_see_53 rfl (lv_at hl 0 rfl) ?_
        refine va_get (D := D) (ci := 11) (v := .int g7) (C := RX11) (T := TX11) (N := 49) hx hb hg inGX11 hown hKN.1 hP 0 rfl rfl 16 (by decide) (hg _ kw_1224) (fun _ h9 => h9) rfl dX11_see_54 ?_
        refine va_bald hx hb hKN.1 hP 3 2 rfl rfl (vp_in_iff.mpr ⟨by omega, by omega⟩) dX11_see_57 ?_
        refine lv_topi (fun v27 ev27 => ?_)
        have ev27 : v27 = (F 2) g7.toNatClampNeg := ev27
        have qv27 := congrArg Int32.toInt ev27
        refine lv_sipush (v := 255) hx hb dX11_see_58 (by decide) ?_
        refine lv_iand hx hb dX11_see_61 ?_
        refine lv_topi (fun v28 ev28 => ?_)
        have hv28 := i_and (show (255 : Int32).toInt = 255 by decide) ev28 (by decide)
        refine lv_goto (tgt := 66) hx hb dX11_see_62 (by decide) ?_
        refine W.widen (k := 0) (n := 0) (Nat.le_of_ble_eq_true rfl) (Nat.le_of_ble_eq_true rfl) ?_
        exact W.iret (v := v28) hx hb hr (fun t ht hW => ⟨⟨(v28, g7), rfl, ⟨(show (0 ≤ g7.toInt ∧ g7.toInt ≤ 400) by omega), (show ((I 16).toInt ≤ g7.toInt) by omega), (show (g7.toInt ≤ (I 3).toInt) by omega), (show ((v28.toInt = -1 ∧ g7.toInt = (I 3).toInt) ∨ (0 ≤ v28.toInt ∧ v28.toInt ≤ 255 ∧ g7.toInt < (I 3).toInt ∧ ((F 2) g7.toNatClampNeg).toInt ≠ 32)) by omega), (show (-1 ≤ v28.toInt ∧ v28.toInt ≤ 255) by omega), (show (((I 16).toInt < (I 3).toInt ∧ ((F 2) (I 16).toNatClampNeg).toInt ≠ 32) → g7.toInt = (I 16).toInt) by omega)⟩, CB.mk ht hP hD⟩, hS.F ht⟩) hS.2.2 dX11_see_66
    · skip
      have c25 := i_eq (Eq.refl v23.toInt) (show (32 : Int32).toInt = 32 by decide) c25
      have t29 : g7.toInt = (I 16).toInt → ((F 2) g7.toNatClampNeg).toInt = ((F 2) (I 16).toNatClampNeg).toInt := fun h => by rw [Int32.toInt_inj.mp h]
      refine lv_aload_n hx hb dX11_see_25 rfl (lv_at hl 0 rfl) ?_
      refine lv_dup hx hb dX11_see_26 rfl ?_
      refine va_get (D := D) (ci := 11) (v := .int g7) (C := RX11) (T := TX11) (N := 49) hx hb hg inGX11 hown hKN.1 hP 0 rfl rfl 16 (by decide) (hg _ kw_1224) (fun _ h9 => h9) rfl dX11_see_27 ?_
      refine lv_iconst (v := 1) hx hb dX11_see_30 (by decide) ?_
      refine lv_iadd hx hb dX11_see_31 ?_
      refine lv_topi (fun v30 ev30 => ?_)
      have hv30 := i_add (Eq.refl g7.toInt) (show (1 : Int32).toInt = 1 by decide) ev30 (by omega) (by omega)
      refine va_put (D := D) (ci := 11) (v := .int v30) (ty := .int) (C := RX11) (T := TX11) (N := 49) hx hb hg inGX11 tyX11 tyX11_ok nmX11 hown hKN.1 hP hD hS 0 rfl rfl 16 (by decide) (hg _ kw_1224) (fun _ h9 => h9) rfl (by decide +kernel) rfl rfl (Nat.le_of_ble_eq_true rfl) dX11_see_32 (fun H locs hP hD hS => ?_)
      have hP : va_P D vwCl (MW Y o a (upd I 16 v30) J F G) H := hP
      have hD : va_D A (MW Y o a (upd I 16 v30) J F G) := hD
      refine lv_goto (tgt := 0) hx hb dX11_see_35 (by decide) ?_
      exact ih18 (v30) H locs ls (by show (400 - v30.toInt).toNat < (400 - g7.toInt).toNat; omega) ⟨hP, hD, hS, lv_sub hl [0] rfl, by omega, by omega, by omega, by omega⟩
set_option maxHeartbeats 4000000 in
set_option maxRecDepth 100000 in
theorem m_see (l : Launch) (D : va_G) (Y : Nat → ClassId) (Z : Nat → Nat) (sz : Nat) (o : Nat) (a : Nat → Nat) (I : Nat → Int32) (J : Nat → Int64) (F : Nat → Nat → Int32) (G : Nat → Nat → Int64) (hk_0 : (0 ≤ (I 16).toInt ∧ (I 16).toInt ≤ 400)) (hk_1 : (0 ≤ (I 3).toInt ∧ (I 3).toInt ≤ 400)) (hk_2 : ((I 16).toInt ≤ (I 3).toInt)) : Met l yX11_see (.code yX11_see cX11_see 1 (some .int) :: GW) ({ frames := 0, cells := 0, slots := 0, locals := 0 }) (va_Pc [.ref o] (CP D Y Z (MW Y o a I J F G) sz)) (QG (S := Int32 × Int32) (fun u => some (.int u.1)) (fun u => (0 ≤ u.2.toInt ∧ u.2.toInt ≤ 400) ∧ ((I 16).toInt ≤ u.2.toInt) ∧ (u.2.toInt ≤ (I 3).toInt) ∧ ((u.1.toInt = -1 ∧ u.2.toInt = (I 3).toInt) ∨ (0 ≤ u.1.toInt ∧ u.1.toInt ≤ 255 ∧ u.2.toInt < (I 3).toInt ∧ ((F 2) u.2.toNatClampNeg).toInt ≠ 32)) ∧ (-1 ≤ u.1.toInt ∧ u.1.toInt ≤ 255)) (fun u => CB D (MW Y o a (upd I 16 u.2) J F G) (va_A (MW Y o a I J F G) sz)) (va_A (MW Y o a I J F G) sz)) 0 0 (va_A (MW Y o a I J F G) sz) := by
  refine Met.ofW (cc := cX11_see) (maxL := 1) (ret := (some .int)) (by decide) rfl ?_
  intro p e s m args below meth c s₁ B hml hv
  obtain ⟨rfl, hsz, hP, hKN, hD0⟩ := hv
  have hx := B.exec
  have hb := B.bytes
  have hr := B.returns
  have hts := atoms_spec (ws := .code yX11_see cX11_see 1 (some .int) :: GW) B.pre
  have hg : ∀ w ∈ GW, w.before _ s = true := fun w h => hts w (List.mem_cons_of_mem _ h)
  have hown : s.vm.findClass RX11 = some m.cls := findClass_of_methodNamed B.named
  have hlocks := B.notSynchronized
  subst hsz
  have hD := hD0.self (sz := s.heap.size)
  generalize hAe : va_A (MW Y o a I J F G) s.heap.size = A at hD ⊢
  have hA : ∀ q : Nat, s.heap.size ≤ q → A q := fun q h => by rw [← hAe]; exact Or.inr h
  clear hAe hD0 hts B
  have hl := lv_entry ([.ref o]) (n := 1) (Nat.le_of_ble_eq_true rfl)
  rw [lg_entry_eq]
  generalize (lg_sl ([.ref o]) ++ List.replicate (1 - (lg_sl ([.ref o])).length) Slot.unset).toArray = ls at hl ⊢
  have hl : lv_has ls 1 [(0, .ref o)] := hl
  refine w_start (A0 := A) hP (fun H locs hP hS => ?_)
  refine w_loop (σ := Int32) (fun xx H locs ls => match xx with | g7 => va_P D vwCl (MW Y o a (upd I 16 g7) J F G) H ∧ va_D A (MW Y o a (upd I 16 g7) J F G) ∧ va_S A s.heap H locs ∧ lv_has ls 1 [(0, .ref o)] ∧ (0 ≤ g7.toInt ∧ g7.toInt ≤ 400) ∧ (g7.toInt ≤ (I 3).toInt) ∧ ((I 16).toInt ≤ g7.toInt) ∧ (g7.toInt = (I 16).toInt ∨ ((F 2) (I 16).toNatClampNeg).toInt = 32)) (fun xx => match xx with | g7 => (400 - g7.toInt).toNat) ((I 16)) ⟨hP, hD, hS, lv_sub hl [0] rfl, by omega, by omega, by omega, by omega⟩ (fun xx H locs ls hI ih => ?_)
  revert hI ih
  generalize xx = g7
  intro hI ih
  obtain ⟨hP, hD, hS, hl, hq14, hq15, hq16, hq17⟩ := hI
  have ih18 := ih
  refine lv_aload_n hx hb dX11_see_0 rfl (lv_at hl 0 rfl) ?_
  refine va_get (D := D) (ci := 11) (v := .int g7) (C := RX11) (T := TX11) (N := 49) hx hb hg inGX11 hown hKN.1 hP 0 rfl rfl 16 (by decide) (hg _ kw_1224) (fun _ h9 => h9) rfl dX11_see_1 ?_
  refine lv_aload_n hx hb dX11_see_4 rfl (lv_at hl 0 rfl) ?_
  refine va_get (D := D) (ci := 11) (v := .int (I 3)) (C := RX11) (T := TX11) (N := 49) hx hb hg inGX11 hown hKN.1 hP 0 rfl rfl 3 (by decide) (hg _ kw_1211) (fun _ h9 => h9) rfl dX11_see_5 ?_
  refine lv_icmp_ge (tgt := 38) hx hb dX11_see_8 (by decide) (fun c19 => ?_) (fun c19 => ?_)
  · skip
    have c19 := i_le (Eq.refl (I 3).toInt) (Eq.refl g7.toInt) c19
    refine lv_aload_n hx hb dX11_see_38 rfl (lv_at hl 0 rfl) ?_
    refine va_get (D := D) (ci := 11) (v := .int g7) (C := RX11) (T := TX11) (N := 49) hx hb hg inGX11 hown hKN.1 hP 0 rfl rfl 16 (by decide) (hg _ kw_1224) (fun _ h9 => h9) rfl dX11_see_39 ?_
    refine lv_aload_n hx hb dX11_see_42 rfl (lv_at hl 0 rfl) ?_
    refine va_get (D := D) (ci := 11) (v := .int (I 3)) (C := RX11) (T := TX11) (N := 49) hx hb hg inGX11 hown hKN.1 hP 0 rfl rfl 3 (by decide) (hg _ kw_1211) (fun _ h9 => h9) rfl dX11_see_43 ?_
    refine lv_icmp_ge (tgt := 65) hx hb dX11_see_46 (by decide) (fun c20 => ?_) (fun c20 => ?_)
    · skip
      have c20 := i_le (Eq.refl (I 3).toInt) (Eq.refl g7.toInt) c20
      refine lv_iconst (v := (-1)) hx hb dX11_see_65 (by decide) ?_
      refine W.widen (k := 0) (n := 0) (Nat.le_of_ble_eq_true rfl) (Nat.le_of_ble_eq_true rfl) ?_
      have zim1 : ((-1) : Int32).toInt = -1 := by decide
      exact W.iret (v := (-1)) hx hb hr (fun t ht hW => ⟨⟨((-1), g7), rfl, ⟨(show (0 ≤ g7.toInt ∧ g7.toInt ≤ 400) by omega), (show ((I 16).toInt ≤ g7.toInt) by omega), (show (g7.toInt ≤ (I 3).toInt) by omega), (show ((((-1) : Int32).toInt = -1 ∧ g7.toInt = (I 3).toInt) ∨ (0 ≤ ((-1) : Int32).toInt ∧ ((-1) : Int32).toInt ≤ 255 ∧ g7.toInt < (I 3).toInt ∧ ((F 2) g7.toNatClampNeg).toInt ≠ 32)) by omega), (show (-1 ≤ ((-1) : Int32).toInt ∧ ((-1) : Int32).toInt ≤ 255) by omega)⟩, CB.mk ht hP hD⟩, hS.F ht⟩) hS.2.2 dX11_see_66
    · skip
      have c20 := i_nle (Eq.refl (I 3).toInt) (Eq.refl g7.toInt) c20
      refine lv_aload_n hx hb dX11_see_49 rfl (lv_at hl 0 rfl) ?_
      refine va_get (D := D) (ci := 11) (v := .ref (a 2)) (C := RX11) (T := TX11) (N := 49) hx hb hg inGX11 hown hKN.1 hP 0 rfl rfl 2 (by decide) (hg _ kw_1210) (fun _ h9 => h9) rfl dX11_see_50 ?_
      refine lv_aload_n hx hb dX11_see_53 rfl (lv_at hl 0 rfl) ?_
      refine va_get (D := D) (ci := 11) (v := .int g7) (C := RX11) (T := TX11) (N := 49) hx hb hg inGX11 hown hKN.1 hP 0 rfl rfl 16 (by decide) (hg _ kw_1224) (fun _ h9 => h9) rfl dX11_see_54 ?_
      refine va_bald hx hb hKN.1 hP 3 2 rfl rfl (vp_in_iff.mpr ⟨by omega, by omega⟩) dX11_see_57 ?_
      refine lv_topi (fun v21 ev21 => ?_)
      have ev21 : v21 = (F 2) g7.toNatClampNeg := ev21
      have qv21 := congrArg Int32.toInt ev21
      refine lv_sipush (v := 255) hx hb dX11_see_58 (by decide) ?_
      refine lv_iand hx hb dX11_see_61 ?_
      refine lv_topi (fun v22 ev22 => ?_)
      have hv22 := i_and (show (255 : Int32).toInt = 255 by decide) ev22 (by decide)
      refine lv_goto (tgt := 66) hx hb dX11_see_62 (by decide) ?_
      refine W.widen (k := 0) (n := 0) (Nat.le_of_ble_eq_true rfl) (Nat.le_of_ble_eq_true rfl) ?_
      exact W.iret (v := v22) hx hb hr (fun t ht hW => ⟨⟨(v22, g7), rfl, ⟨(show (0 ≤ g7.toInt ∧ g7.toInt ≤ 400) by omega), (show ((I 16).toInt ≤ g7.toInt) by omega), (show (g7.toInt ≤ (I 3).toInt) by omega), (show ((v22.toInt = -1 ∧ g7.toInt = (I 3).toInt) ∨ (0 ≤ v22.toInt ∧ v22.toInt ≤ 255 ∧ g7.toInt < (I 3).toInt ∧ ((F 2) g7.toNatClampNeg).toInt ≠ 32)) by omega), (show (-1 ≤ v22.toInt ∧ v22.toInt ≤ 255) by omega)⟩, CB.mk ht hP hD⟩, hS.F ht⟩) hS.2.2 dX11_see_66
  · skip
    have c19 := i_nle (Eq.refl (I 3).toInt) (Eq.refl g7.toInt) c19
    refine lv_aload_n hx hb dX11_see_11 rfl (lv_at hl 0 rfl) ?_
    refine va_get (D := D) (ci := 11) (v := .ref (a 2)) (C := RX11) (T := TX11) (N := 49) hx hb hg inGX11 hown hKN.1 hP 0 rfl rfl 2 (by decide) (hg _ kw_1210) (fun _ h9 => h9) rfl dX11_see_12 ?_
    refine lv_aload_n hx hb dX11_see_15 rfl (lv_at hl 0 rfl) ?_
    refine va_get (D := D) (ci := 11) (v := .int g7) (C := RX11) (T := TX11) (N := 49) hx hb hg inGX11 hown hKN.1 hP 0 rfl rfl 16 (by decide) (hg _ kw_1224) (fun _ h9 => h9) rfl dX11_see_16 ?_
    refine va_bald hx hb hKN.1 hP 3 2 rfl rfl (vp_in_iff.mpr ⟨by omega, by omega⟩) dX11_see_19 ?_
    refine lv_topi (fun v23 ev23 => ?_)
    have ev23 : v23 = (F 2) g7.toNatClampNeg := ev23
    have qv23 := congrArg Int32.toInt ev23
    refine lv_bipush (v := 32) hx hb dX11_see_20 (by decide) ?_
    have j24 := rgI v23
    refine lv_icmp_ne (tgt := 38) hx hb dX11_see_22 (by decide) (fun c25 => ?_) (fun c25 => ?_)
    · skip
      have c25 := i_ne (Eq.refl v23.toInt) (show (32 : Int32).toInt = 32 by decide) c25
      refine lv_aload_n hx hb dX11_see_38 rfl (lv_at hl 0 rfl) ?_
      refine va_get (D := D) (ci := 11) (v := .int g7) (C := RX11) (T := TX11) (N := 49) hx hb hg inGX11 hown hKN.1 hP 0 rfl rfl 16 (by decide) (hg _ kw_1224) (fun _ h9 => h9) rfl dX11_see_39 ?_
      refine lv_aload_n hx hb dX11_see_42 rfl (lv_at hl 0 rfl) ?_
      refine va_get (D := D) (ci := 11) (v := .int (I 3)) (C := RX11) (T := TX11) (N := 49) hx hb hg inGX11 hown hKN.1 hP 0 rfl rfl 3 (by decide) (hg _ kw_1211) (fun _ h9 => h9) rfl dX11_see_43 ?_
      refine lv_icmp_ge (tgt := 65) hx hb dX11_see_46 (by decide) (fun c26 => ?_) (fun c26 => ?_)
      · skip
        have c26 := i_le (Eq.refl (I 3).toInt) (Eq.refl g7.toInt) c26
        refine lv_iconst (v := (-1)) hx hb dX11_see_65 (by decide) ?_
        refine W.widen (k := 0) (n := 0) (Nat.le_of_ble_eq_true rfl) (Nat.le_of_ble_eq_true rfl) ?_
        have zim1 : ((-1) : Int32).toInt = -1 := by decide
        exact W.iret (v := (-1)) hx hb hr (fun t ht hW => ⟨⟨((-1), g7), rfl, ⟨(show (0 ≤ g7.toInt ∧ g7.toInt ≤ 400) by omega), (show ((I 16).toInt ≤ g7.toInt) by omega), (show (g7.toInt ≤ (I 3).toInt) by omega), (show ((((-1) : Int32).toInt = -1 ∧ g7.toInt = (I 3).toInt) ∨ (0 ≤ ((-1) : Int32).toInt ∧ ((-1) : Int32).toInt ≤ 255 ∧ g7.toInt < (I 3).toInt ∧ ((F 2) g7.toNatClampNeg).toInt ≠ 32)) by omega), (show (-1 ≤ ((-1) : Int32).toInt ∧ ((-1) : Int32).toInt ≤ 255) by omega)⟩, CB.mk ht hP hD⟩, hS.F ht⟩) hS.2.2 dX11_see_66
      · skip
        have c26 := i_nle (Eq.refl (I 3).toInt) (Eq.refl g7.toInt) c26
        refine lv_aload_n hx hb dX11_see_49 rfl (lv_at hl 0 rfl) ?_
        refine va_get (D := D) (ci := 11) (v := .ref (a 2)) (C := RX11) (T := TX11) (N := 49) hx hb hg inGX11 hown hKN.1 hP 0 rfl rfl 2 (by decide) (hg _ kw_1210) (fun _ h9 => h9) rfl dX11_see_50 ?_
        refine lv_aload_n hx hb dX11_see_53 rfl (lv_at hl 0 rfl) ?_
        refine va_get (D := D) (ci := 11) (v := .int g7) (C := RX11) (T := TX11) (N := 49) hx hb hg inGX11 hown hKN.1 hP 0 rfl rfl 16 (by decide) (hg _ kw_1224) (fun _ h9 => h9) rfl dX11_see_54 ?_
        refine va_bald hx hb hKN.1 hP 3 2 rfl rfl (vp_in_iff.mpr ⟨by omega, by omega⟩) dX11_see_57 ?_
        refine lv_topi (fun v27 ev27 => ?_)
        have ev27 : v27 = (F 2) g7.toNatClampNeg := ev27
        have qv27 := congrArg Int32.toInt ev27
        refine lv_sipush (v := 255) hx hb dX11_see_58 (by decide) ?_
        refine lv_iand hx hb dX11_see_61 ?_
        refine lv_topi (fun v28 ev28 => ?_)
        have hv28 := i_and (show (255 : Int32).toInt = 255 by decide) ev28 (by decide)
        refine lv_goto (tgt := 66) hx hb dX11_see_62 (by decide) ?_
        refine W.widen (k := 0) (n := 0) (Nat.le_of_ble_eq_true rfl) (Nat.le_of_ble_eq_true rfl) ?_
        exact W.iret (v := v28) hx hb hr (fun t ht hW => ⟨⟨(v28, g7), rfl, ⟨(show (0 ≤ g7.toInt ∧ g7.toInt ≤ 400) by omega), (show ((I 16).toInt ≤ g7.toInt) by omega), (show (g7.toInt ≤ (I 3).toInt) by omega), (show ((v28.toInt = -1 ∧ g7.toInt = (I 3).toInt) ∨ (0 ≤ v28.toInt ∧ v28.toInt ≤ 255 ∧ g7.toInt < (I 3).toInt ∧ ((F 2) g7.toNatClampNeg).toInt ≠ 32)) by omega), (show (-1 ≤ v28.toInt ∧ v28.toInt ≤ 255) by omega)⟩, CB.mk ht hP hD⟩, hS.F ht⟩) hS.2.2 dX11_see_66
    · skip
      have c25 := i_eq (Eq.refl v23.toInt) (show (32 : Int32).toInt = 32 by decide) c25
      have t29 : g7.toInt = (I 16).toInt → ((F 2) g7.toNatClampNeg).toInt = ((F 2) (I 16).toNatClampNeg).toInt := fun h => by rw [Int32.toInt_inj.mp h]
      refine lv_aload_n hx hb dX11_see_25 rfl (lv_at hl 0 rfl) ?_
      refine lv_dup hx hb dX11_see_26 rfl ?_
      refine va_get (D := D) (ci := 11) (v := .int g7) (C := RX11) (T := TX11) (N := 49) hx hb hg inGX11 hown hKN.1 hP 0 rfl rfl 16 (by decide) (hg _ kw_1224) (fun _ h9 => h9) rfl dX11_see_27 ?_
      refine lv_iconst (v := 1) hx hb dX11_see_30 (by decide) ?_
      refine lv_iadd hx hb dX11_see_31 ?_
      refine lv_topi (fun v30 ev30 => ?_)
      have hv30 := i_add (Eq.refl g7.toInt) (show (1 : Int32).toInt = 1 by decide) ev30 (by omega) (by omega)
      refine va_put (D := D) (ci := 11) (v := .int v30) (ty := .int) (C := RX11) (T := TX11) (N := 49) hx hb hg inGX11 tyX11 tyX11_ok nmX11 hown hKN.1 hP hD hS 0 rfl rfl 16 (by decide) (hg _ kw_1224) (fun _ h9 => h9) rfl (by decide +kernel) rfl rfl (Nat.le_of_ble_eq_true rfl) dX11_see_32 (fun H locs hP hD hS => ?_)
      have hP : va_P D vwCl (MW Y o a (upd I 16 v30) J F G) H := hP
      have hD : va_D A (MW Y o a (upd I 16 v30) J F G) := hD
      refine lv_goto (tgt := 0) hx hb dX11_see_35 (by decide) ?_
      exact ih18 (v30) H locs ls (by show (400 - v30.toInt).toNat < (400 - g7.toInt).toNat; omega) ⟨hP, hD, hS, lv_sub hl [0] rfl, by omega, by omega, by omega, by omega⟩
set_option maxHeartbeats 4000000 in
set_option maxRecDepth 100000 in
theorem m_isDigit (l : Launch) (D : va_G) (Y : Nat → ClassId) (Z : Nat → Nat) (sz : Nat) (o : Nat) (a : Nat → Nat) (I : Nat → Int32) (J : Nat → Int64) (F : Nat → Nat → Int32) (G : Nat → Nat → Int64) (p1 : Int32) (hk_0 : (0 ≤ p1.toInt ∧ p1.toInt ≤ 800)) (hk_1 : (0 ≤ (I 3).toInt ∧ (I 3).toInt ≤ 400)) : Met l yX11_isDigit (.code yX11_isDigit cX11_isDigit 2 (some .boolean) :: GW) ({ frames := 0, cells := 0, slots := 0, locals := 0 }) (va_Pc [.ref o, .int p1] (CP D Y Z (MW Y o a I J F G) sz)) (QG (S := Int32) (fun u => some (.int u)) (fun u => (0 ≤ u.toInt ∧ u.toInt ≤ 1) ∧ (u.toInt = 1 → (p1.toInt < (I 3).toInt ∧ 48 ≤ ((F 2) p1.toNatClampNeg).toInt ∧ ((F 2) p1.toNatClampNeg).toInt ≤ 57)) ∧ (u.toInt = 0 → ¬ (p1.toInt < (I 3).toInt ∧ 48 ≤ ((F 2) p1.toNatClampNeg).toInt ∧ ((F 2) p1.toNatClampNeg).toInt ≤ 57))) (fun u => CB D (MW Y o a I J F G) (va_A (MW Y o a I J F G) sz)) (va_A (MW Y o a I J F G) sz)) 0 0 (va_A (MW Y o a I J F G) sz) := by
  refine Met.ofW (cc := cX11_isDigit) (maxL := 2) (ret := (some .boolean)) (by decide) rfl ?_
  intro p e s m args below meth c s₁ B hml hv
  obtain ⟨rfl, hsz, hP, hKN, hD0⟩ := hv
  have hx := B.exec
  have hb := B.bytes
  have hr := B.returns
  have hts := atoms_spec (ws := .code yX11_isDigit cX11_isDigit 2 (some .boolean) :: GW) B.pre
  have hg : ∀ w ∈ GW, w.before _ s = true := fun w h => hts w (List.mem_cons_of_mem _ h)
  have hown : s.vm.findClass RX11 = some m.cls := findClass_of_methodNamed B.named
  have hlocks := B.notSynchronized
  subst hsz
  have hD := hD0.self (sz := s.heap.size)
  generalize hAe : va_A (MW Y o a I J F G) s.heap.size = A at hD ⊢
  have hA : ∀ q : Nat, s.heap.size ≤ q → A q := fun q h => by rw [← hAe]; exact Or.inr h
  clear hAe hD0 hts B
  have hl := lv_entry ([.ref o, .int p1]) (n := 2) (Nat.le_of_ble_eq_true rfl)
  rw [lg_entry_eq]
  generalize (lg_sl ([.ref o, .int p1]) ++ List.replicate (2 - (lg_sl ([.ref o, .int p1])).length) Slot.unset).toArray = ls at hl ⊢
  have hl : lv_has ls 2 [(0, .ref o), (1, .int p1)] := hl
  refine w_start (A0 := A) hP (fun H locs hP hS => ?_)
  refine lv_iload_n hx hb dX11_isDigit_0 rfl (lv_at hl 1 rfl) ?_
  refine lv_aload_n hx hb dX11_isDigit_1 rfl (lv_at hl 0 rfl) ?_
  refine va_get (D := D) (ci := 11) (v := .int (I 3)) (C := RX11) (T := TX11) (N := 49) hx hb hg inGX11 hown hKN.1 hP 0 rfl rfl 3 (by decide) (hg _ kw_1211) (fun _ h9 => h9) rfl dX11_isDigit_2 ?_
  refine lv_icmp_ge (tgt := 34) hx hb dX11_isDigit_5 (by decide) (fun c8 => ?_) (fun c8 => ?_)
  · skip
    have c8 := i_le (Eq.refl (I 3).toInt) (Eq.refl p1.toInt) c8
    refine lv_iconst (v := 0) hx hb dX11_isDigit_34 (by decide) ?_
    refine W.widen (k := 0) (n := 0) (Nat.le_of_ble_eq_true rfl) (Nat.le_of_ble_eq_true rfl) ?_
    have zi0 : (0 : Int32).toInt = 0 := by decide
    exact W.zret (v := 0) hx hb hr (by decide) (fun t ht hW => ⟨⟨0, rfl, ⟨(show (0 ≤ (0 : Int32).toInt ∧ (0 : Int32).toInt ≤ 1) by omega), (show ((0 : Int32).toInt = 1 → (p1.toInt < (I 3).toInt ∧ 48 ≤ ((F 2) p1.toNatClampNeg).toInt ∧ ((F 2) p1.toNatClampNeg).toInt ≤ 57)) by omega), (show ((0 : Int32).toInt = 0 → ¬ (p1.toInt < (I 3).toInt ∧ 48 ≤ ((F 2) p1.toNatClampNeg).toInt ∧ ((F 2) p1.toNatClampNeg).toInt ≤ 57)) by omega)⟩, CB.mk ht hP hD⟩, hS.F ht⟩) hS.2.2 dX11_isDigit_35
  · skip
    have c8 := i_nle (Eq.refl (I 3).toInt) (Eq.refl p1.toInt) c8
    refine lv_aload_n hx hb dX11_isDigit_8 rfl (lv_at hl 0 rfl) ?_
    refine va_get (D := D) (ci := 11) (v := .ref (a 2)) (C := RX11) (T := TX11) (N := 49) hx hb hg inGX11 hown hKN.1 hP 0 rfl rfl 2 (by decide) (hg _ kw_1210) (fun _ h9 => h9) rfl dX11_isDigit_9 ?_
    refine lv_iload_n hx hb dX11_isDigit_12 rfl (lv_at hl 1 rfl) ?_
    refine va_bald hx hb hKN.1 hP 3 2 rfl rfl (vp_in_iff.mpr ⟨by omega, by omega⟩) dX11_isDigit_13 ?_
    refine lv_topi (fun v9 ev9 => ?_)
    have ev9 : v9 = (F 2) p1.toNatClampNeg := ev9
    have qv9 := congrArg Int32.toInt ev9
    refine lv_bipush (v := 48) hx hb dX11_isDigit_14 (by decide) ?_
    have j15 := rgI v9
    refine lv_icmp_lt (tgt := 34) hx hb dX11_isDigit_16 (by decide) (fun c16 => ?_) (fun c16 => ?_)
    · skip
      have c16 := i_lt (Eq.refl v9.toInt) (show (48 : Int32).toInt = 48 by decide) c16
      refine lv_iconst (v := 0) hx hb dX11_isDigit_34 (by decide) ?_
      refine W.widen (k := 0) (n := 0) (Nat.le_of_ble_eq_true rfl) (Nat.le_of_ble_eq_true rfl) ?_
      have zi0 : (0 : Int32).toInt = 0 := by decide
      exact W.zret (v := 0) hx hb hr (by decide) (fun t ht hW => ⟨⟨0, rfl, ⟨(show (0 ≤ (0 : Int32).toInt ∧ (0 : Int32).toInt ≤ 1) by omega), (show ((0 : Int32).toInt = 1 → (p1.toInt < (I 3).toInt ∧ 48 ≤ ((F 2) p1.toNatClampNeg).toInt ∧ ((F 2) p1.toNatClampNeg).toInt ≤ 57)) by omega), (show ((0 : Int32).toInt = 0 → ¬ (p1.toInt < (I 3).toInt ∧ 48 ≤ ((F 2) p1.toNatClampNeg).toInt ∧ ((F 2) p1.toNatClampNeg).toInt ≤ 57)) by omega)⟩, CB.mk ht hP hD⟩, hS.F ht⟩) hS.2.2 dX11_isDigit_35
    · skip
      have c16 := i_nlt (Eq.refl v9.toInt) (show (48 : Int32).toInt = 48 by decide) c16
      refine lv_aload_n hx hb dX11_isDigit_19 rfl (lv_at hl 0 rfl) ?_
      refine va_get (D := D) (ci := 11) (v := .ref (a 2)) (C := RX11) (T := TX11) (N := 49) hx hb hg inGX11 hown hKN.1 hP 0 rfl rfl 2 (by decide) (hg _ kw_1210) (fun _ h9 => h9) rfl dX11_isDigit_20 ?_
      refine lv_iload_n hx hb dX11_isDigit_23 rfl (lv_at hl 1 rfl) ?_
      refine va_bald hx hb hKN.1 hP 3 2 rfl rfl (vp_in_iff.mpr ⟨by omega, by omega⟩) dX11_isDigit_24 ?_
      refine lv_topi (fun v17 ev17 => ?_)
      have ev17 : v17 = (F 2) p1.toNatClampNeg := ev17
      have qv17 := congrArg Int32.toInt ev17
      refine lv_bipush (v := 57) hx hb dX11_isDigit_25 (by decide) ?_
      have j20 := rgI v17
      refine lv_icmp_gt (tgt := 34) hx hb dX11_isDigit_27 (by decide) (fun c21 => ?_) (fun c21 => ?_)
      · skip
        have c21 := i_lt (show (57 : Int32).toInt = 57 by decide) (Eq.refl v17.toInt) c21
        refine lv_iconst (v := 0) hx hb dX11_isDigit_34 (by decide) ?_
        refine W.widen (k := 0) (n := 0) (Nat.le_of_ble_eq_true rfl) (Nat.le_of_ble_eq_true rfl) ?_
        have zi0 : (0 : Int32).toInt = 0 := by decide
        exact W.zret (v := 0) hx hb hr (by decide) (fun t ht hW => ⟨⟨0, rfl, ⟨(show (0 ≤ (0 : Int32).toInt ∧ (0 : Int32).toInt ≤ 1) by omega), (show ((0 : Int32).toInt = 1 → (p1.toInt < (I 3).toInt ∧ 48 ≤ ((F 2) p1.toNatClampNeg).toInt ∧ ((F 2) p1.toNatClampNeg).toInt ≤ 57)) by omega), (show ((0 : Int32).toInt = 0 → ¬ (p1.toInt < (I 3).toInt ∧ 48 ≤ ((F 2) p1.toNatClampNeg).toInt ∧ ((F 2) p1.toNatClampNeg).toInt ≤ 57)) by omega)⟩, CB.mk ht hP hD⟩, hS.F ht⟩) hS.2.2 dX11_isDigit_35
      · skip
        have c21 := i_nlt (show (57 : Int32).toInt = 57 by decide) (Eq.refl v17.toInt) c21
        refine lv_iconst (v := 1) hx hb dX11_isDigit_30 (by decide) ?_
        refine lv_goto (tgt := 35) hx hb dX11_isDigit_31 (by decide) ?_
        refine W.widen (k := 0) (n := 0) (Nat.le_of_ble_eq_true rfl) (Nat.le_of_ble_eq_true rfl) ?_
        have zi1 : (1 : Int32).toInt = 1 := by decide
        exact W.zret (v := 1) hx hb hr (by decide) (fun t ht hW => ⟨⟨1, rfl, ⟨(show (0 ≤ (1 : Int32).toInt ∧ (1 : Int32).toInt ≤ 1) by omega), (show ((1 : Int32).toInt = 1 → (p1.toInt < (I 3).toInt ∧ 48 ≤ ((F 2) p1.toNatClampNeg).toInt ∧ ((F 2) p1.toNatClampNeg).toInt ≤ 57)) by omega), (show ((1 : Int32).toInt = 0 → ¬ (p1.toInt < (I 3).toInt ∧ 48 ≤ ((F 2) p1.toNatClampNeg).toInt ∧ ((F 2) p1.toNatClampNeg).toInt ≤ 57)) by omega)⟩, CB.mk ht hP hD⟩, hS.F ht⟩) hS.2.2 dX11_isDigit_35
set_option maxHeartbeats 4000000 in
set_option maxRecDepth 100000 in
theorem m_isLetter (l : Launch) (D : va_G) (Y : Nat → ClassId) (Z : Nat → Nat) (sz : Nat) (o : Nat) (a : Nat → Nat) (I : Nat → Int32) (J : Nat → Int64) (F : Nat → Nat → Int32) (G : Nat → Nat → Int64) (p1 : Int32) (hk_0 : (0 ≤ p1.toInt ∧ p1.toInt ≤ 800)) (hk_1 : (0 ≤ (I 3).toInt ∧ (I 3).toInt ≤ 400)) : Met l yX11_isLetter (.code yX11_isLetter cX11_isLetter 2 (some .boolean) :: GW) ({ frames := 0, cells := 0, slots := 0, locals := 0 }) (va_Pc [.ref o, .int p1] (CP D Y Z (MW Y o a I J F G) sz)) (QG (S := Int32) (fun u => some (.int u)) (fun u => (0 ≤ u.toInt ∧ u.toInt ≤ 1) ∧ (u.toInt = 1 → (p1.toInt < (I 3).toInt ∧ 97 ≤ ((F 2) p1.toNatClampNeg).toInt ∧ ((F 2) p1.toNatClampNeg).toInt ≤ 122)) ∧ (u.toInt = 0 → ¬ (p1.toInt < (I 3).toInt ∧ 97 ≤ ((F 2) p1.toNatClampNeg).toInt ∧ ((F 2) p1.toNatClampNeg).toInt ≤ 122))) (fun u => CB D (MW Y o a I J F G) (va_A (MW Y o a I J F G) sz)) (va_A (MW Y o a I J F G) sz)) 0 0 (va_A (MW Y o a I J F G) sz) := by
  refine Met.ofW (cc := cX11_isLetter) (maxL := 2) (ret := (some .boolean)) (by decide) rfl ?_
  intro p e s m args below meth c s₁ B hml hv
  obtain ⟨rfl, hsz, hP, hKN, hD0⟩ := hv
  have hx := B.exec
  have hb := B.bytes
  have hr := B.returns
  have hts := atoms_spec (ws := .code yX11_isLetter cX11_isLetter 2 (some .boolean) :: GW) B.pre
  have hg : ∀ w ∈ GW, w.before _ s = true := fun w h => hts w (List.mem_cons_of_mem _ h)
  have hown : s.vm.findClass RX11 = some m.cls := findClass_of_methodNamed B.named
  have hlocks := B.notSynchronized
  subst hsz
  have hD := hD0.self (sz := s.heap.size)
  generalize hAe : va_A (MW Y o a I J F G) s.heap.size = A at hD ⊢
  have hA : ∀ q : Nat, s.heap.size ≤ q → A q := fun q h => by rw [← hAe]; exact Or.inr h
  clear hAe hD0 hts B
  have hl := lv_entry ([.ref o, .int p1]) (n := 2) (Nat.le_of_ble_eq_true rfl)
  rw [lg_entry_eq]
  generalize (lg_sl ([.ref o, .int p1]) ++ List.replicate (2 - (lg_sl ([.ref o, .int p1])).length) Slot.unset).toArray = ls at hl ⊢
  have hl : lv_has ls 2 [(0, .ref o), (1, .int p1)] := hl
  refine w_start (A0 := A) hP (fun H locs hP hS => ?_)
  refine lv_iload_n hx hb dX11_isLetter_0 rfl (lv_at hl 1 rfl) ?_
  refine lv_aload_n hx hb dX11_isLetter_1 rfl (lv_at hl 0 rfl) ?_
  refine va_get (D := D) (ci := 11) (v := .int (I 3)) (C := RX11) (T := TX11) (N := 49) hx hb hg inGX11 hown hKN.1 hP 0 rfl rfl 3 (by decide) (hg _ kw_1211) (fun _ h9 => h9) rfl dX11_isLetter_2 ?_
  refine lv_icmp_ge (tgt := 34) hx hb dX11_isLetter_5 (by decide) (fun c8 => ?_) (fun c8 => ?_)
  · skip
    have c8 := i_le (Eq.refl (I 3).toInt) (Eq.refl p1.toInt) c8
    refine lv_iconst (v := 0) hx hb dX11_isLetter_34 (by decide) ?_
    refine W.widen (k := 0) (n := 0) (Nat.le_of_ble_eq_true rfl) (Nat.le_of_ble_eq_true rfl) ?_
    have zi0 : (0 : Int32).toInt = 0 := by decide
    exact W.zret (v := 0) hx hb hr (by decide) (fun t ht hW => ⟨⟨0, rfl, ⟨(show (0 ≤ (0 : Int32).toInt ∧ (0 : Int32).toInt ≤ 1) by omega), (show ((0 : Int32).toInt = 1 → (p1.toInt < (I 3).toInt ∧ 97 ≤ ((F 2) p1.toNatClampNeg).toInt ∧ ((F 2) p1.toNatClampNeg).toInt ≤ 122)) by omega), (show ((0 : Int32).toInt = 0 → ¬ (p1.toInt < (I 3).toInt ∧ 97 ≤ ((F 2) p1.toNatClampNeg).toInt ∧ ((F 2) p1.toNatClampNeg).toInt ≤ 122)) by omega)⟩, CB.mk ht hP hD⟩, hS.F ht⟩) hS.2.2 dX11_isLetter_35
  · skip
    have c8 := i_nle (Eq.refl (I 3).toInt) (Eq.refl p1.toInt) c8
    refine lv_aload_n hx hb dX11_isLetter_8 rfl (lv_at hl 0 rfl) ?_
    refine va_get (D := D) (ci := 11) (v := .ref (a 2)) (C := RX11) (T := TX11) (N := 49) hx hb hg inGX11 hown hKN.1 hP 0 rfl rfl 2 (by decide) (hg _ kw_1210) (fun _ h9 => h9) rfl dX11_isLetter_9 ?_
    refine lv_iload_n hx hb dX11_isLetter_12 rfl (lv_at hl 1 rfl) ?_
    refine va_bald hx hb hKN.1 hP 3 2 rfl rfl (vp_in_iff.mpr ⟨by omega, by omega⟩) dX11_isLetter_13 ?_
    refine lv_topi (fun v9 ev9 => ?_)
    have ev9 : v9 = (F 2) p1.toNatClampNeg := ev9
    have qv9 := congrArg Int32.toInt ev9
    refine lv_bipush (v := 97) hx hb dX11_isLetter_14 (by decide) ?_
    have j15 := rgI v9
    refine lv_icmp_lt (tgt := 34) hx hb dX11_isLetter_16 (by decide) (fun c16 => ?_) (fun c16 => ?_)
    · skip
      have c16 := i_lt (Eq.refl v9.toInt) (show (97 : Int32).toInt = 97 by decide) c16
      refine lv_iconst (v := 0) hx hb dX11_isLetter_34 (by decide) ?_
      refine W.widen (k := 0) (n := 0) (Nat.le_of_ble_eq_true rfl) (Nat.le_of_ble_eq_true rfl) ?_
      have zi0 : (0 : Int32).toInt = 0 := by decide
      exact W.zret (v := 0) hx hb hr (by decide) (fun t ht hW => ⟨⟨0, rfl, ⟨(show (0 ≤ (0 : Int32).toInt ∧ (0 : Int32).toInt ≤ 1) by omega), (show ((0 : Int32).toInt = 1 → (p1.toInt < (I 3).toInt ∧ 97 ≤ ((F 2) p1.toNatClampNeg).toInt ∧ ((F 2) p1.toNatClampNeg).toInt ≤ 122)) by omega), (show ((0 : Int32).toInt = 0 → ¬ (p1.toInt < (I 3).toInt ∧ 97 ≤ ((F 2) p1.toNatClampNeg).toInt ∧ ((F 2) p1.toNatClampNeg).toInt ≤ 122)) by omega)⟩, CB.mk ht hP hD⟩, hS.F ht⟩) hS.2.2 dX11_isLetter_35
    · skip
      have c16 := i_nlt (Eq.refl v9.toInt) (show (97 : Int32).toInt = 97 by decide) c16
      refine lv_aload_n hx hb dX11_isLetter_19 rfl (lv_at hl 0 rfl) ?_
      refine va_get (D := D) (ci := 11) (v := .ref (a 2)) (C := RX11) (T := TX11) (N := 49) hx hb hg inGX11 hown hKN.1 hP 0 rfl rfl 2 (by decide) (hg _ kw_1210) (fun _ h9 => h9) rfl dX11_isLetter_20 ?_
      refine lv_iload_n hx hb dX11_isLetter_23 rfl (lv_at hl 1 rfl) ?_
      refine va_bald hx hb hKN.1 hP 3 2 rfl rfl (vp_in_iff.mpr ⟨by omega, by omega⟩) dX11_isLetter_24 ?_
      refine lv_topi (fun v17 ev17 => ?_)
      have ev17 : v17 = (F 2) p1.toNatClampNeg := ev17
      have qv17 := congrArg Int32.toInt ev17
      refine lv_bipush (v := 122) hx hb dX11_isLetter_25 (by decide) ?_
      have j20 := rgI v17
      refine lv_icmp_gt (tgt := 34) hx hb dX11_isLetter_27 (by decide) (fun c21 => ?_) (fun c21 => ?_)
      · skip
        have c21 := i_lt (show (122 : Int32).toInt = 122 by decide) (Eq.refl v17.toInt) c21
        refine lv_iconst (v := 0) hx hb dX11_isLetter_34 (by decide) ?_
        refine W.widen (k := 0) (n := 0) (Nat.le_of_ble_eq_true rfl) (Nat.le_of_ble_eq_true rfl) ?_
        have zi0 : (0 : Int32).toInt = 0 := by decide
        exact W.zret (v := 0) hx hb hr (by decide) (fun t ht hW => ⟨⟨0, rfl, ⟨(show (0 ≤ (0 : Int32).toInt ∧ (0 : Int32).toInt ≤ 1) by omega), (show ((0 : Int32).toInt = 1 → (p1.toInt < (I 3).toInt ∧ 97 ≤ ((F 2) p1.toNatClampNeg).toInt ∧ ((F 2) p1.toNatClampNeg).toInt ≤ 122)) by omega), (show ((0 : Int32).toInt = 0 → ¬ (p1.toInt < (I 3).toInt ∧ 97 ≤ ((F 2) p1.toNatClampNeg).toInt ∧ ((F 2) p1.toNatClampNeg).toInt ≤ 122)) by omega)⟩, CB.mk ht hP hD⟩, hS.F ht⟩) hS.2.2 dX11_isLetter_35
      · skip
        have c21 := i_nlt (show (122 : Int32).toInt = 122 by decide) (Eq.refl v17.toInt) c21
        refine lv_iconst (v := 1) hx hb dX11_isLetter_30 (by decide) ?_
        refine lv_goto (tgt := 35) hx hb dX11_isLetter_31 (by decide) ?_
        refine W.widen (k := 0) (n := 0) (Nat.le_of_ble_eq_true rfl) (Nat.le_of_ble_eq_true rfl) ?_
        have zi1 : (1 : Int32).toInt = 1 := by decide
        exact W.zret (v := 1) hx hb hr (by decide) (fun t ht hW => ⟨⟨1, rfl, ⟨(show (0 ≤ (1 : Int32).toInt ∧ (1 : Int32).toInt ≤ 1) by omega), (show ((1 : Int32).toInt = 1 → (p1.toInt < (I 3).toInt ∧ 97 ≤ ((F 2) p1.toNatClampNeg).toInt ∧ ((F 2) p1.toNatClampNeg).toInt ≤ 122)) by omega), (show ((1 : Int32).toInt = 0 → ¬ (p1.toInt < (I 3).toInt ∧ 97 ≤ ((F 2) p1.toNatClampNeg).toInt ∧ ((F 2) p1.toNatClampNeg).toInt ≤ 122)) by omega)⟩, CB.mk ht hP hD⟩, hS.F ht⟩) hS.2.2 dX11_isLetter_35
set_option maxHeartbeats 4000000 in
set_option maxRecDepth 100000 in
theorem m_isWordI (l : Launch) (D : va_G) (Y : Nat → ClassId) (Z : Nat → Nat) (sz : Nat) (o : Nat) (a : Nat → Nat) (I : Nat → Int32) (J : Nat → Int64) (F : Nat → Nat → Int32) (G : Nat → Nat → Int64) (p1 : Int64) (hk_0 : (0 ≤ (I 16).toInt ∧ (I 16).toInt ≤ 400)) (hk_1 : (0 ≤ (I 3).toInt ∧ (I 3).toInt ≤ 400)) (hk_2 : ((I 16).toInt ≤ (I 3).toInt)) : Met l yX11_isWord (.code yX11_isWord cX11_isWord 6 (some .boolean) :: GW) ({ frames := 1, cells := 0, slots := 0, locals := 21 }) (va_Pc [.ref o, .long p1] (CP D Y Z (MW Y o a I J F G) sz)) (QG (S := Int32 × Int32) (fun u => some (.int u.1)) (fun u => (0 ≤ u.2.toInt ∧ u.2.toInt ≤ 400) ∧ ((I 16).toInt ≤ u.2.toInt) ∧ (u.2.toInt ≤ (I 3).toInt) ∧ (0 ≤ u.1.toInt ∧ u.1.toInt ≤ 1) ∧ (u.1.toInt = 1 → (u.2.toInt < (I 3).toInt ∧ 97 ≤ ((F 2) u.2.toNatClampNeg).toInt ∧ ((F 2) u.2.toNatClampNeg).toInt ≤ 122)) ∧ (((I 16).toInt < (I 3).toInt ∧ ((F 2) (I 16).toNatClampNeg).toInt ≠ 32) → u.2.toInt = (I 16).toInt)) (fun u => CB D (MW Y o a (upd I 16 u.2) J F G) (va_A (MW Y o a I J F G) sz)) (va_A (MW Y o a I J F G) sz)) 0 0 (va_A (MW Y o a I J F G) sz) := by
  refine Met.ofW (cc := cX11_isWord) (maxL := 6) (ret := (some .boolean)) (by decide) rfl ?_
  intro p e s m args below meth c s₁ B hml hv
  obtain ⟨rfl, hsz, hP, hKN, hD0⟩ := hv
  have hx := B.exec
  have hb := B.bytes
  have hr := B.returns
  have hts := atoms_spec (ws := .code yX11_isWord cX11_isWord 6 (some .boolean) :: GW) B.pre
  have hg : ∀ w ∈ GW, w.before _ s = true := fun w h => hts w (List.mem_cons_of_mem _ h)
  have hown : s.vm.findClass RX11 = some m.cls := findClass_of_methodNamed B.named
  have hlocks := B.notSynchronized
  subst hsz
  have hD := hD0.self (sz := s.heap.size)
  generalize hAe : va_A (MW Y o a I J F G) s.heap.size = A at hD ⊢
  have hA : ∀ q : Nat, s.heap.size ≤ q → A q := fun q h => by rw [← hAe]; exact Or.inr h
  clear hAe hD0 hts B
  have hl := lv_entry ([.ref o, .long p1]) (n := 6) (Nat.le_of_ble_eq_true rfl)
  rw [lg_entry_eq]
  generalize (lg_sl ([.ref o, .long p1]) ++ List.replicate (6 - (lg_sl ([.ref o, .long p1])).length) Slot.unset).toArray = ls at hl ⊢
  have hl : lv_has ls 6 [(0, .ref o), (1, .long p1)] := hl
  refine w_start (A0 := A) hP (fun H locs hP hS => ?_)
  refine lv_aload_n hx hb dX11_isWord_0 rfl (lv_at hl 0 rfl) ?_
  refine cga (rn_V (As := []) (rest := []) (b := o) (m_seeI l D Y Z H.size o a I J F G   (show (0 ≤ (I 16).toInt ∧ (I 16).toInt ≤ 400) by omega) (show (0 ≤ (I 3).toInt ∧ (I 3).toInt ≤ 400) by omega) (show ((I 16).toInt ≤ (I 3).toInt) by omega)) ⟨hx, hb, hml, hown, hg⟩ lk_X11_183 ⟨CP.blind, va_recv hKN.1 hP (ci := 11) (q0 := 0) rfl rfl, CP.at hP hKN hD⟩ ⟨⟨rfl, rfl⟩, ⟨Nat.le_of_ble_eq_true rfl, Nat.le_of_ble_eq_true rfl⟩, ⟨Nat.le_of_ble_eq_true rfl, Nat.le_of_ble_eq_true rfl⟩⟩ hl.1 rfl (Nat.le_of_ble_eq_true rfl) dX11_isWord_1) hP hD hS hA (fun u1 H locs w2 hP hD hS => ?_)
  obtain ⟨u3, u4⟩ := u1
  obtain ⟨hw5, hw6, hw7, hw8, hw9, hw10⟩ : (0 ≤ u4.toInt ∧ u4.toInt ≤ 400) ∧ ((I 16).toInt ≤ u4.toInt) ∧ (u4.toInt ≤ (I 3).toInt) ∧ ((u3.toInt = -1 ∧ u4.toInt = (I 3).toInt) ∨ (0 ≤ u3.toInt ∧ u3.toInt ≤ 255 ∧ u4.toInt < (I 3).toInt ∧ ((F 2) u4.toNatClampNeg).toInt ≠ 32)) ∧ (-1 ≤ u3.toInt ∧ u3.toInt ≤ 255) ∧ (((I 16).toInt < (I 3).toInt ∧ ((F 2) (I 16).toNatClampNeg).toInt ≠ 32) → u4.toInt = (I 16).toInt) := w2
  refine W.eq (g2 := F0 m 4 ls [.int u3]) rfl ?_
  have hP : va_P D vwCl (MW Y o a (upd I 16 u4) J F G) H := hP
  have hD : va_D A (MW Y o a (upd I 16 u4) J F G) := hD
  refine lv_pop hx hb dX11_isWord_4 rfl ?_
  refine lv_lconst (v := 0) hx hb dX11_isWord_5 (by decide) ?_
  refine lv_lstore_n (lv' := [(3, .long 0), (0, .ref o), (1, .long p1)]) hx hb dX11_isWord_6 rfl hl (by decide) rfl (fun ls hl => ?_)
  refine lv_iconst (v := 0) hx hb dX11_isWord_7 (by decide) ?_
  refine lv_istore (lv' := [(5, .int 0), (3, .long 0), (0, .ref o), (1, .long p1)]) hx hb dX11_isWord_8 hl (by decide) rfl (fun ls hl => ?_)
  have zi0 : (0 : Int32).toInt = 0 := by decide
  have zl0 : (0 : Int64).toInt = 0 := by decide
  refine w_loop (σ := Int32 × Int64) (fun xx H locs ls => match xx with | (g51, g52) => va_P D vwCl (MW Y o a (upd I 16 u4) J F G) H ∧ va_D A (MW Y o a (upd I 16 u4) J F G) ∧ va_S A s.heap H locs ∧ lv_has ls 6 [(5, .int g51), (3, .long g52), (0, .ref o), (1, .long p1)] ∧ (0 ≤ g51.toInt ∧ g51.toInt ≤ 400) ∧ (u4.toInt + g51.toInt ≤ (I 3).toInt) ∧ (g51.toInt = 0 ∨ (97 ≤ ((F 2) u4.toNatClampNeg).toInt ∧ ((F 2) u4.toNatClampNeg).toInt ≤ 122 ∧ u4.toInt < (I 3).toInt))) (fun xx => match xx with | (g51, g52) => (400 - g51.toInt).toNat) (0, 0) ⟨hP, hD, hS, lv_sub hl [0, 1, 2, 3] rfl, by omega, by omega, by omega⟩ (fun xx H locs ls hI ih => ?_)
  obtain ⟨g51, g52⟩ := xx
  obtain ⟨hP, hD, hS, hl, hq99, hq100, hq101⟩ := hI
  have ih102 := ih
  refine lv_aload_n hx hb dX11_isWord_10 rfl (lv_at hl 2 rfl) ?_
  refine lv_aload_n hx hb dX11_isWord_11 rfl (lv_at hl 2 rfl) ?_
  refine va_get (D := D) (ci := 11) (v := .int u4) (C := RX11) (T := TX11) (N := 49) hx hb hg inGX11 hown hKN.1 hP 0 rfl rfl 16 (by decide) (hg _ kw_1224) (fun _ h9 => h9) rfl dX11_isWord_12 ?_
  refine lv_iload hx hb dX11_isWord_15 (lv_at hl 0 rfl) ?_
  refine lv_iadd hx hb dX11_isWord_17 ?_
  refine lv_topi (fun v103 ev103 => ?_)
  have hv103 := i_add (Eq.refl u4.toInt) (Eq.refl g51.toInt) ev103 (by omega) (by omega)
  refine cga (rn_V (As := [.int v103]) (rest := []) (b := o) (m_isLetter l D Y Z H.size o a (upd I 16 u4) J F G  v103 (show (0 ≤ v103.toInt ∧ v103.toInt ≤ 800) by omega) (show (0 ≤ (I 3).toInt ∧ (I 3).toInt ≤ 400) by omega)) ⟨hx, hb, hml, hown, hg⟩ lk_X11_187 ⟨CP.blind, va_recv hKN.1 hP (ci := 11) (q0 := 0) rfl rfl, CP.at hP hKN hD⟩ ⟨⟨rfl, rfl⟩, ⟨Nat.le_of_ble_eq_true rfl, Nat.le_of_ble_eq_true rfl⟩, ⟨Nat.le_of_ble_eq_true rfl, Nat.le_of_ble_eq_true rfl⟩⟩ hl.1 rfl (Nat.le_of_ble_eq_true rfl) dX11_isWord_18) hP hD hS hA (fun u104 H locs w105 hP hD hS => ?_)
  obtain ⟨hw107, hw108, hw109⟩ : (0 ≤ u104.toInt ∧ u104.toInt ≤ 1) ∧ (u104.toInt = 1 → (v103.toInt < (I 3).toInt ∧ 97 ≤ ((F 2) v103.toNatClampNeg).toInt ∧ ((F 2) v103.toNatClampNeg).toInt ≤ 122)) ∧ (u104.toInt = 0 → ¬ (v103.toInt < (I 3).toInt ∧ 97 ≤ ((F 2) v103.toNatClampNeg).toInt ∧ ((F 2) v103.toNatClampNeg).toInt ≤ 122)) := w105
  refine W.eq (g2 := F0 m 21 ls [.int u104]) rfl ?_
  have hP : va_P D vwCl (MW Y o a (upd I 16 u4) J F G) H := hP
  have hD : va_D A (MW Y o a (upd I 16 u4) J F G) := hD
  rcases (show u104.toInt = 1 ∨ u104.toInt = 0 by omega) with c110 | c110
  · obtain rfl : u104 = 1 := i_is c110 (by decide)
    have zi1 : (1 : Int32).toInt = 1 := by decide
    replace hw108 := hw108 (by decide)
    clear hw109
    refine W.eq (g2 := F0 m 21 ls [.int 1]) rfl ?_
    refine lv_if_eq (tgt := 56) hx hb dX11_isWord_21 (by decide) (fun c130 => ?_) (fun c130 => ?_)
    · exact absurd c130 (by decide)
    have t131 : v103.toInt = u4.toInt → ((F 2) v103.toNatClampNeg).toInt = ((F 2) u4.toNatClampNeg).toInt := fun h => by rw [Int32.toInt_inj.mp h]
    refine lv_iload hx hb dX11_isWord_24 (lv_at hl 0 rfl) ?_
    refine lv_bipush (v := 8) hx hb dX11_isWord_26 (by decide) ?_
    refine w_join (σ := Int64) (pcJ := 50) (kJ := 0) (nJ := 0) (stk := fun xx => match xx with | g139 => []) (fun xx H locs ls => match xx with | g139 => va_P D vwCl (MW Y o a (upd I 16 u4) J F G) H ∧ va_D A (MW Y o a (upd I 16 u4) J F G) ∧ va_S A s.heap H locs ∧ lv_has ls 6 [(5, .int g51), (3, .long g139), (0, .ref o), (1, .long p1)]) (fun xx H locs ls hI => ?_) (fun jn140 => ?_)
    · skip
      revert hI
      generalize xx = g139
      intro hI
      obtain ⟨hP, hD, hS, hl⟩ := hI
      refine W.eq (g2 := F0 m 50 ls []) rfl ?_
      obtain ⟨v141, ev141⟩ : ∃ y : Int32, y = g51 + 1 := ⟨_, rfl⟩
      have hv141 := i_add (Eq.refl g51.toInt) (show (1 : Int32).toInt = 1 by decide) ev141 (by omega) (by omega)
      refine lv_iinc (v := v141) (lv' := [(5, .int v141), (3, .long g139), (0, .ref o), (1, .long p1)]) hx hb dX11_isWord_50 hl (k := 0) rfl (by rw [ev141]; rfl) (by decide) rfl (fun ls hl => ?_)
      refine lv_goto (tgt := 10) hx hb dX11_isWord_53 (by decide) ?_
      exact ih102 (v141, g139) H locs ls (by show (400 - v141.toInt).toNat < (400 - g51.toInt).toNat; omega) ⟨hP, hD, hS, lv_sub hl [0, 1, 2, 3] rfl, by omega, by omega, by omega⟩
    · skip
      refine lv_icmp_ge (tgt := 50) hx hb dX11_isWord_28 (by decide) (fun c142 => ?_) (fun c142 => ?_)
      · skip
        have c142 := i_le (show (8 : Int32).toInt = 8 by decide) (Eq.refl g51.toInt) c142
        refine W.widen (k := 0) (n := 0) (Nat.le_of_ble_eq_true rfl) (Nat.le_of_ble_eq_true rfl) ?_
        exact jn140 (g52) H locs ls ⟨hP, hD, hS, lv_sub hl [0, 1, 2, 3] rfl⟩
      · skip
        have c142 := i_nle (show (8 : Int32).toInt = 8 by decide) (Eq.refl g51.toInt) c142
        refine lv_lload_n hx hb dX11_isWord_31 rfl (lv_at hl 1 rfl) ?_
        refine lv_bipush (v := 8) hx hb dX11_isWord_32 (by decide) ?_
        refine lv_lshl hx hb dX11_isWord_34 rfl ?_
        refine lv_topl (fun v143 ev143 => ?_)
        refine lv_aload_n hx hb dX11_isWord_35 rfl (lv_at hl 2 rfl) ?_
        refine va_get (D := D) (ci := 11) (v := .ref (a 2)) (C := RX11) (T := TX11) (N := 49) hx hb hg inGX11 hown hKN.1 hP 0 rfl rfl 2 (by decide) (hg _ kw_1210) (fun _ h9 => h9) rfl dX11_isWord_36 ?_
        refine lv_aload_n hx hb dX11_isWord_39 rfl (lv_at hl 2 rfl) ?_
        refine va_get (D := D) (ci := 11) (v := .int u4) (C := RX11) (T := TX11) (N := 49) hx hb hg inGX11 hown hKN.1 hP 0 rfl rfl 16 (by decide) (hg _ kw_1224) (fun _ h9 => h9) rfl dX11_isWord_40 ?_
        refine lv_iload hx hb dX11_isWord_43 (lv_at hl 0 rfl) ?_
        refine lv_iadd hx hb dX11_isWord_45 ?_
        refine lv_topi (fun v144 ev144 => ?_)
        have hv144 := i_add (Eq.refl u4.toInt) (Eq.refl g51.toInt) ev144 (by omega) (by omega)
        refine va_bald hx hb hKN.1 hP 3 2 rfl rfl (vp_in_iff.mpr ⟨by omega, by omega⟩) dX11_isWord_46 ?_
        refine lv_topi (fun v145 ev145 => ?_)
        have ev145 : v145 = (F 2) v144.toNatClampNeg := ev145
        have qv145 := congrArg Int32.toInt ev145
        have j146 := rgI v145
        have j147 := Int32.toInt_toInt64 v145
        refine lv_i2l (v := v145.toInt64) hx hb dX11_isWord_47 (rfl) ?_
        refine lv_lor hx hb dX11_isWord_48 ?_
        refine lv_topl (fun v148 ev148 => ?_)
        refine lv_lstore_n (lv' := [(3, .long v148), (5, .int g51), (0, .ref o), (1, .long p1)]) hx hb dX11_isWord_49 rfl hl (by decide) rfl (fun ls hl => ?_)
        refine W.widen (k := 0) (n := 0) (Nat.le_of_ble_eq_true rfl) (Nat.le_of_ble_eq_true rfl) ?_
        exact jn140 (v148) H locs ls ⟨hP, hD, hS, lv_sub hl [1, 0, 2, 3] rfl⟩
  · obtain rfl : u104 = 0 := i_is c110 (by decide)
    have zi0 : (0 : Int32).toInt = 0 := by decide
    clear hw108
    replace hw109 := hw109 (by decide)
    refine W.eq (g2 := F0 m 21 ls [.int 0]) rfl ?_
    refine lv_if_eq (tgt := 56) hx hb dX11_isWord_21 (by decide) (fun c150 => ?_) (fun c150 => ?_)
    rotate_left
    · exact absurd c150 (by decide)
    refine lv_iload hx hb dX11_isWord_56 (lv_at hl 0 rfl) ?_
    refine lv_if_le (tgt := 78) hx hb dX11_isWord_58 (by decide) (fun c154 => ?_) (fun c154 => ?_)
    · skip
      have c154 := i_le (Eq.refl g51.toInt) (show (0 : Int32).toInt = 0 by decide) c154
      refine lv_iconst (v := 0) hx hb dX11_isWord_78 (by decide) ?_
      refine W.widen (k := 0) (n := 0) (Nat.le_of_ble_eq_true rfl) (Nat.le_of_ble_eq_true rfl) ?_
      exact W.zret (v := 0) hx hb hr (by decide) (fun t ht hW => ⟨⟨(0, u4), rfl, ⟨(show (0 ≤ u4.toInt ∧ u4.toInt ≤ 400) by omega), (show ((I 16).toInt ≤ u4.toInt) by omega), (show (u4.toInt ≤ (I 3).toInt) by omega), (show (0 ≤ (0 : Int32).toInt ∧ (0 : Int32).toInt ≤ 1) by omega), (show ((0 : Int32).toInt = 1 → (u4.toInt < (I 3).toInt ∧ 97 ≤ ((F 2) u4.toNatClampNeg).toInt ∧ ((F 2) u4.toNatClampNeg).toInt ≤ 122)) by omega), (show (((I 16).toInt < (I 3).toInt ∧ ((F 2) (I 16).toNatClampNeg).toInt ≠ 32) → u4.toInt = (I 16).toInt) by omega)⟩, CB.mk ht hP hD⟩, hS.F ht⟩) hS.2.2 dX11_isWord_79
    · skip
      have c154 := i_nle (Eq.refl g51.toInt) (show (0 : Int32).toInt = 0 by decide) c154
      refine lv_iload hx hb dX11_isWord_61 (lv_at hl 0 rfl) ?_
      refine lv_bipush (v := 8) hx hb dX11_isWord_63 (by decide) ?_
      refine lv_icmp_ge (tgt := 78) hx hb dX11_isWord_65 (by decide) (fun c157 => ?_) (fun c157 => ?_)
      · skip
        have c157 := i_le (show (8 : Int32).toInt = 8 by decide) (Eq.refl g51.toInt) c157
        refine lv_iconst (v := 0) hx hb dX11_isWord_78 (by decide) ?_
        refine W.widen (k := 0) (n := 0) (Nat.le_of_ble_eq_true rfl) (Nat.le_of_ble_eq_true rfl) ?_
        exact W.zret (v := 0) hx hb hr (by decide) (fun t ht hW => ⟨⟨(0, u4), rfl, ⟨(show (0 ≤ u4.toInt ∧ u4.toInt ≤ 400) by omega), (show ((I 16).toInt ≤ u4.toInt) by omega), (show (u4.toInt ≤ (I 3).toInt) by omega), (show (0 ≤ (0 : Int32).toInt ∧ (0 : Int32).toInt ≤ 1) by omega), (show ((0 : Int32).toInt = 1 → (u4.toInt < (I 3).toInt ∧ 97 ≤ ((F 2) u4.toNatClampNeg).toInt ∧ ((F 2) u4.toNatClampNeg).toInt ≤ 122)) by omega), (show (((I 16).toInt < (I 3).toInt ∧ ((F 2) (I 16).toNatClampNeg).toInt ≠ 32) → u4.toInt = (I 16).toInt) by omega)⟩, CB.mk ht hP hD⟩, hS.F ht⟩) hS.2.2 dX11_isWord_79
      · skip
        have c157 := i_nle (show (8 : Int32).toInt = 8 by decide) (Eq.refl g51.toInt) c157
        refine lv_lload_n hx hb dX11_isWord_68 rfl (lv_at hl 1 rfl) ?_
        refine lv_lload_n hx hb dX11_isWord_69 rfl (lv_at hl 3 rfl) ?_
        refine W.lcmp hx hb dX11_isWord_70 ?_
        refine lv_if_ne (tgt := 78) hx hb dX11_isWord_71 (by decide) (fun c159 => ?_) (fun c159 => ?_)
        · skip
          have c159 := l_ne (Eq.refl g52.toInt) (Eq.refl p1.toInt) c159
          refine lv_iconst (v := 0) hx hb dX11_isWord_78 (by decide) ?_
          refine W.widen (k := 0) (n := 0) (Nat.le_of_ble_eq_true rfl) (Nat.le_of_ble_eq_true rfl) ?_
          exact W.zret (v := 0) hx hb hr (by decide) (fun t ht hW => ⟨⟨(0, u4), rfl, ⟨(show (0 ≤ u4.toInt ∧ u4.toInt ≤ 400) by omega), (show ((I 16).toInt ≤ u4.toInt) by omega), (show (u4.toInt ≤ (I 3).toInt) by omega), (show (0 ≤ (0 : Int32).toInt ∧ (0 : Int32).toInt ≤ 1) by omega), (show ((0 : Int32).toInt = 1 → (u4.toInt < (I 3).toInt ∧ 97 ≤ ((F 2) u4.toNatClampNeg).toInt ∧ ((F 2) u4.toNatClampNeg).toInt ≤ 122)) by omega), (show (((I 16).toInt < (I 3).toInt ∧ ((F 2) (I 16).toNatClampNeg).toInt ≠ 32) → u4.toInt = (I 16).toInt) by omega)⟩, CB.mk ht hP hD⟩, hS.F ht⟩) hS.2.2 dX11_isWord_79
        · skip
          have c159 := l_eq (Eq.refl g52.toInt) (Eq.refl p1.toInt) c159
          refine lv_iconst (v := 1) hx hb dX11_isWord_74 (by decide) ?_
          refine lv_goto (tgt := 79) hx hb dX11_isWord_75 (by decide) ?_
          refine W.widen (k := 0) (n := 0) (Nat.le_of_ble_eq_true rfl) (Nat.le_of_ble_eq_true rfl) ?_
          have zi1 : (1 : Int32).toInt = 1 := by decide
          exact W.zret (v := 1) hx hb hr (by decide) (fun t ht hW => ⟨⟨(1, u4), rfl, ⟨(show (0 ≤ u4.toInt ∧ u4.toInt ≤ 400) by omega), (show ((I 16).toInt ≤ u4.toInt) by omega), (show (u4.toInt ≤ (I 3).toInt) by omega), (show (0 ≤ (1 : Int32).toInt ∧ (1 : Int32).toInt ≤ 1) by omega), (show ((1 : Int32).toInt = 1 → (u4.toInt < (I 3).toInt ∧ 97 ≤ ((F 2) u4.toNatClampNeg).toInt ∧ ((F 2) u4.toNatClampNeg).toInt ≤ 122)) by omega), (show (((I 16).toInt < (I 3).toInt ∧ ((F 2) (I 16).toNatClampNeg).toInt ≠ 32) → u4.toInt = (I 16).toInt) by omega)⟩, CB.mk ht hP hD⟩, hS.F ht⟩) hS.2.2 dX11_isWord_79
set_option maxHeartbeats 4000000 in
set_option maxRecDepth 100000 in
theorem m_isWord (l : Launch) (D : va_G) (Y : Nat → ClassId) (Z : Nat → Nat) (sz : Nat) (o : Nat) (a : Nat → Nat) (I : Nat → Int32) (J : Nat → Int64) (F : Nat → Nat → Int32) (G : Nat → Nat → Int64) (p1 : Int64) (hk_0 : (0 ≤ (I 16).toInt ∧ (I 16).toInt ≤ 400)) (hk_1 : (0 ≤ (I 3).toInt ∧ (I 3).toInt ≤ 400)) (hk_2 : ((I 16).toInt ≤ (I 3).toInt)) : Met l yX11_isWord (.code yX11_isWord cX11_isWord 6 (some .boolean) :: GW) ({ frames := 1, cells := 0, slots := 0, locals := 21 }) (va_Pc [.ref o, .long p1] (CP D Y Z (MW Y o a I J F G) sz)) (QG (S := Int32 × Int32) (fun u => some (.int u.1)) (fun u => (0 ≤ u.2.toInt ∧ u.2.toInt ≤ 400) ∧ ((I 16).toInt ≤ u.2.toInt) ∧ (u.2.toInt ≤ (I 3).toInt) ∧ (0 ≤ u.1.toInt ∧ u.1.toInt ≤ 1) ∧ (u.1.toInt = 1 → (u.2.toInt < (I 3).toInt ∧ 97 ≤ ((F 2) u.2.toNatClampNeg).toInt ∧ ((F 2) u.2.toNatClampNeg).toInt ≤ 122))) (fun u => CB D (MW Y o a (upd I 16 u.2) J F G) (va_A (MW Y o a I J F G) sz)) (va_A (MW Y o a I J F G) sz)) 0 0 (va_A (MW Y o a I J F G) sz) := by
  refine Met.ofW (cc := cX11_isWord) (maxL := 6) (ret := (some .boolean)) (by decide) rfl ?_
  intro p e s m args below meth c s₁ B hml hv
  obtain ⟨rfl, hsz, hP, hKN, hD0⟩ := hv
  have hx := B.exec
  have hb := B.bytes
  have hr := B.returns
  have hts := atoms_spec (ws := .code yX11_isWord cX11_isWord 6 (some .boolean) :: GW) B.pre
  have hg : ∀ w ∈ GW, w.before _ s = true := fun w h => hts w (List.mem_cons_of_mem _ h)
  have hown : s.vm.findClass RX11 = some m.cls := findClass_of_methodNamed B.named
  have hlocks := B.notSynchronized
  subst hsz
  have hD := hD0.self (sz := s.heap.size)
  generalize hAe : va_A (MW Y o a I J F G) s.heap.size = A at hD ⊢
  have hA : ∀ q : Nat, s.heap.size ≤ q → A q := fun q h => by rw [← hAe]; exact Or.inr h
  clear hAe hD0 hts B
  have hl := lv_entry ([.ref o, .long p1]) (n := 6) (Nat.le_of_ble_eq_true rfl)
  rw [lg_entry_eq]
  generalize (lg_sl ([.ref o, .long p1]) ++ List.replicate (6 - (lg_sl ([.ref o, .long p1])).length) Slot.unset).toArray = ls at hl ⊢
  have hl : lv_has ls 6 [(0, .ref o), (1, .long p1)] := hl
  refine w_start (A0 := A) hP (fun H locs hP hS => ?_)
  refine lv_aload_n hx hb dX11_isWord_0 rfl (lv_at hl 0 rfl) ?_
  refine cga (rn_V (As := []) (rest := []) (b := o) (m_seeI l D Y Z H.size o a I J F G   (show (0 ≤ (I 16).toInt ∧ (I 16).toInt ≤ 400) by omega) (show (0 ≤ (I 3).toInt ∧ (I 3).toInt ≤ 400) by omega) (show ((I 16).toInt ≤ (I 3).toInt) by omega)) ⟨hx, hb, hml, hown, hg⟩ lk_X11_183 ⟨CP.blind, va_recv hKN.1 hP (ci := 11) (q0 := 0) rfl rfl, CP.at hP hKN hD⟩ ⟨⟨rfl, rfl⟩, ⟨Nat.le_of_ble_eq_true rfl, Nat.le_of_ble_eq_true rfl⟩, ⟨Nat.le_of_ble_eq_true rfl, Nat.le_of_ble_eq_true rfl⟩⟩ hl.1 rfl (Nat.le_of_ble_eq_true rfl) dX11_isWord_1) hP hD hS hA (fun u1 H locs w2 hP hD hS => ?_)
  obtain ⟨u3, u4⟩ := u1
  obtain ⟨hw5, hw6, hw7, hw8, hw9, hw10⟩ : (0 ≤ u4.toInt ∧ u4.toInt ≤ 400) ∧ ((I 16).toInt ≤ u4.toInt) ∧ (u4.toInt ≤ (I 3).toInt) ∧ ((u3.toInt = -1 ∧ u4.toInt = (I 3).toInt) ∨ (0 ≤ u3.toInt ∧ u3.toInt ≤ 255 ∧ u4.toInt < (I 3).toInt ∧ ((F 2) u4.toNatClampNeg).toInt ≠ 32)) ∧ (-1 ≤ u3.toInt ∧ u3.toInt ≤ 255) ∧ (((I 16).toInt < (I 3).toInt ∧ ((F 2) (I 16).toNatClampNeg).toInt ≠ 32) → u4.toInt = (I 16).toInt) := w2
  refine W.eq (g2 := F0 m 4 ls [.int u3]) rfl ?_
  have hP : va_P D vwCl (MW Y o a (upd I 16 u4) J F G) H := hP
  have hD : va_D A (MW Y o a (upd I 16 u4) J F G) := hD
  refine lv_pop hx hb dX11_isWord_4 rfl ?_
  refine lv_lconst (v := 0) hx hb dX11_isWord_5 (by decide) ?_
  refine lv_lstore_n (lv' := [(3, .long 0), (0, .ref o), (1, .long p1)]) hx hb dX11_isWord_6 rfl hl (by decide) rfl (fun ls hl => ?_)
  refine lv_iconst (v := 0) hx hb dX11_isWord_7 (by decide) ?_
  refine lv_istore (lv' := [(5, .int 0), (3, .long 0), (0, .ref o), (1, .long p1)]) hx hb dX11_isWord_8 hl (by decide) rfl (fun ls hl => ?_)
  have zi0 : (0 : Int32).toInt = 0 := by decide
  have zl0 : (0 : Int64).toInt = 0 := by decide
  refine w_loop (σ := Int32 × Int64) (fun xx H locs ls => match xx with | (g51, g52) => va_P D vwCl (MW Y o a (upd I 16 u4) J F G) H ∧ va_D A (MW Y o a (upd I 16 u4) J F G) ∧ va_S A s.heap H locs ∧ lv_has ls 6 [(5, .int g51), (3, .long g52), (0, .ref o), (1, .long p1)] ∧ (0 ≤ g51.toInt ∧ g51.toInt ≤ 400) ∧ (u4.toInt + g51.toInt ≤ (I 3).toInt) ∧ (g51.toInt = 0 ∨ (97 ≤ ((F 2) u4.toNatClampNeg).toInt ∧ ((F 2) u4.toNatClampNeg).toInt ≤ 122 ∧ u4.toInt < (I 3).toInt))) (fun xx => match xx with | (g51, g52) => (400 - g51.toInt).toNat) (0, 0) ⟨hP, hD, hS, lv_sub hl [0, 1, 2, 3] rfl, by omega, by omega, by omega⟩ (fun xx H locs ls hI ih => ?_)
  obtain ⟨g51, g52⟩ := xx
  obtain ⟨hP, hD, hS, hl, hq99, hq100, hq101⟩ := hI
  have ih102 := ih
  refine lv_aload_n hx hb dX11_isWord_10 rfl (lv_at hl 2 rfl) ?_
  refine lv_aload_n hx hb dX11_isWord_11 rfl (lv_at hl 2 rfl) ?_
  refine va_get (D := D) (ci := 11) (v := .int u4) (C := RX11) (T := TX11) (N := 49) hx hb hg inGX11 hown hKN.1 hP 0 rfl rfl 16 (by decide) (hg _ kw_1224) (fun _ h9 => h9) rfl dX11_isWord_12 ?_
  refine lv_iload hx hb dX11_isWord_15 (lv_at hl 0 rfl) ?_
  refine lv_iadd hx hb dX11_isWord_17 ?_
  refine lv_topi (fun v103 ev103 => ?_)
  have hv103 := i_add (Eq.refl u4.toInt) (Eq.refl g51.toInt) ev103 (by omega) (by omega)
  refine cga (rn_V (As := [.int v103]) (rest := []) (b := o) (m_isLetter l D Y Z H.size o a (upd I 16 u4) J F G  v103 (show (0 ≤ v103.toInt ∧ v103.toInt ≤ 800) by omega) (show (0 ≤ (I 3).toInt ∧ (I 3).toInt ≤ 400) by omega)) ⟨hx, hb, hml, hown, hg⟩ lk_X11_187 ⟨CP.blind, va_recv hKN.1 hP (ci := 11) (q0 := 0) rfl rfl, CP.at hP hKN hD⟩ ⟨⟨rfl, rfl⟩, ⟨Nat.le_of_ble_eq_true rfl, Nat.le_of_ble_eq_true rfl⟩, ⟨Nat.le_of_ble_eq_true rfl, Nat.le_of_ble_eq_true rfl⟩⟩ hl.1 rfl (Nat.le_of_ble_eq_true rfl) dX11_isWord_18) hP hD hS hA (fun u104 H locs w105 hP hD hS => ?_)
  obtain ⟨hw107, hw108, hw109⟩ : (0 ≤ u104.toInt ∧ u104.toInt ≤ 1) ∧ (u104.toInt = 1 → (v103.toInt < (I 3).toInt ∧ 97 ≤ ((F 2) v103.toNatClampNeg).toInt ∧ ((F 2) v103.toNatClampNeg).toInt ≤ 122)) ∧ (u104.toInt = 0 → ¬ (v103.toInt < (I 3).toInt ∧ 97 ≤ ((F 2) v103.toNatClampNeg).toInt ∧ ((F 2) v103.toNatClampNeg).toInt ≤ 122)) := w105
  refine W.eq (g2 := F0 m 21 ls [.int u104]) rfl ?_
  have hP : va_P D vwCl (MW Y o a (upd I 16 u4) J F G) H := hP
  have hD : va_D A (MW Y o a (upd I 16 u4) J F G) := hD
  rcases (show u104.toInt = 1 ∨ u104.toInt = 0 by omega) with c110 | c110
  · obtain rfl : u104 = 1 := i_is c110 (by decide)
    have zi1 : (1 : Int32).toInt = 1 := by decide
    replace hw108 := hw108 (by decide)
    clear hw109
    refine W.eq (g2 := F0 m 21 ls [.int 1]) rfl ?_
    refine lv_if_eq (tgt := 56) hx hb dX11_isWord_21 (by decide) (fun c130 => ?_) (fun c130 => ?_)
    · exact absurd c130 (by decide)
    have t131 : v103.toInt = u4.toInt → ((F 2) v103.toNatClampNeg).toInt = ((F 2) u4.toNatClampNeg).toInt := fun h => by rw [Int32.toInt_inj.mp h]
    refine lv_iload hx hb dX11_isWord_24 (lv_at hl 0 rfl) ?_
    refine lv_bipush (v := 8) hx hb dX11_isWord_26 (by decide) ?_
    refine w_join (σ := Int64) (pcJ := 50) (kJ := 0) (nJ := 0) (stk := fun xx => match xx with | g139 => []) (fun xx H locs ls => match xx with | g139 => va_P D vwCl (MW Y o a (upd I 16 u4) J F G) H ∧ va_D A (MW Y o a (upd I 16 u4) J F G) ∧ va_S A s.heap H locs ∧ lv_has ls 6 [(5, .int g51), (3, .long g139), (0, .ref o), (1, .long p1)]) (fun xx H locs ls hI => ?_) (fun jn140 => ?_)
    · skip
      revert hI
      generalize xx = g139
      intro hI
      obtain ⟨hP, hD, hS, hl⟩ := hI
      refine W.eq (g2 := F0 m 50 ls []) rfl ?_
      obtain ⟨v141, ev141⟩ : ∃ y : Int32, y = g51 + 1 := ⟨_, rfl⟩
      have hv141 := i_add (Eq.refl g51.toInt) (show (1 : Int32).toInt = 1 by decide) ev141 (by omega) (by omega)
      refine lv_iinc (v := v141) (lv' := [(5, .int v141), (3, .long g139), (0, .ref o), (1, .long p1)]) hx hb dX11_isWord_50 hl (k := 0) rfl (by rw [ev141]; rfl) (by decide) rfl (fun ls hl => ?_)
      refine lv_goto (tgt := 10) hx hb dX11_isWord_53 (by decide) ?_
      exact ih102 (v141, g139) H locs ls (by show (400 - v141.toInt).toNat < (400 - g51.toInt).toNat; omega) ⟨hP, hD, hS, lv_sub hl [0, 1, 2, 3] rfl, by omega, by omega, by omega⟩
    · skip
      refine lv_icmp_ge (tgt := 50) hx hb dX11_isWord_28 (by decide) (fun c142 => ?_) (fun c142 => ?_)
      · skip
        have c142 := i_le (show (8 : Int32).toInt = 8 by decide) (Eq.refl g51.toInt) c142
        refine W.widen (k := 0) (n := 0) (Nat.le_of_ble_eq_true rfl) (Nat.le_of_ble_eq_true rfl) ?_
        exact jn140 (g52) H locs ls ⟨hP, hD, hS, lv_sub hl [0, 1, 2, 3] rfl⟩
      · skip
        have c142 := i_nle (show (8 : Int32).toInt = 8 by decide) (Eq.refl g51.toInt) c142
        refine lv_lload_n hx hb dX11_isWord_31 rfl (lv_at hl 1 rfl) ?_
        refine lv_bipush (v := 8) hx hb dX11_isWord_32 (by decide) ?_
        refine lv_lshl hx hb dX11_isWord_34 rfl ?_
        refine lv_topl (fun v143 ev143 => ?_)
        refine lv_aload_n hx hb dX11_isWord_35 rfl (lv_at hl 2 rfl) ?_
        refine va_get (D := D) (ci := 11) (v := .ref (a 2)) (C := RX11) (T := TX11) (N := 49) hx hb hg inGX11 hown hKN.1 hP 0 rfl rfl 2 (by decide) (hg _ kw_1210) (fun _ h9 => h9) rfl dX11_isWord_36 ?_
        refine lv_aload_n hx hb dX11_isWord_39 rfl (lv_at hl 2 rfl) ?_
        refine va_get (D := D) (ci := 11) (v := .int u4) (C := RX11) (T := TX11) (N := 49) hx hb hg inGX11 hown hKN.1 hP 0 rfl rfl 16 (by decide) (hg _ kw_1224) (fun _ h9 => h9) rfl dX11_isWord_40 ?_
        refine lv_iload hx hb dX11_isWord_43 (lv_at hl 0 rfl) ?_
        refine lv_iadd hx hb dX11_isWord_45 ?_
        refine lv_topi (fun v144 ev144 => ?_)
        have hv144 := i_add (Eq.refl u4.toInt) (Eq.refl g51.toInt) ev144 (by omega) (by omega)
        refine va_bald hx hb hKN.1 hP 3 2 rfl rfl (vp_in_iff.mpr ⟨by omega, by omega⟩) dX11_isWord_46 ?_
        refine lv_topi (fun v145 ev145 => ?_)
        have ev145 : v145 = (F 2) v144.toNatClampNeg := ev145
        have qv145 := congrArg Int32.toInt ev145
        have j146 := rgI v145
        have j147 := Int32.toInt_toInt64 v145
        refine lv_i2l (v := v145.toInt64) hx hb dX11_isWord_47 (rfl) ?_
        refine lv_lor hx hb dX11_isWord_48 ?_
        refine lv_topl (fun v148 ev148 => ?_)
        refine lv_lstore_n (lv' := [(3, .long v148), (5, .int g51), (0, .ref o), (1, .long p1)]) hx hb dX11_isWord_49 rfl hl (by decide) rfl (fun ls hl => ?_)
        refine W.widen (k := 0) (n := 0) (Nat.le_of_ble_eq_true rfl) (Nat.le_of_ble_eq_true rfl) ?_
        exact jn140 (v148) H locs ls ⟨hP, hD, hS, lv_sub hl [1, 0, 2, 3] rfl⟩
  · obtain rfl : u104 = 0 := i_is c110 (by decide)
    have zi0 : (0 : Int32).toInt = 0 := by decide
    clear hw108
    replace hw109 := hw109 (by decide)
    refine W.eq (g2 := F0 m 21 ls [.int 0]) rfl ?_
    refine lv_if_eq (tgt := 56) hx hb dX11_isWord_21 (by decide) (fun c150 => ?_) (fun c150 => ?_)
    rotate_left
    · exact absurd c150 (by decide)
    refine lv_iload hx hb dX11_isWord_56 (lv_at hl 0 rfl) ?_
    refine lv_if_le (tgt := 78) hx hb dX11_isWord_58 (by decide) (fun c154 => ?_) (fun c154 => ?_)
    · skip
      have c154 := i_le (Eq.refl g51.toInt) (show (0 : Int32).toInt = 0 by decide) c154
      refine lv_iconst (v := 0) hx hb dX11_isWord_78 (by decide) ?_
      refine W.widen (k := 0) (n := 0) (Nat.le_of_ble_eq_true rfl) (Nat.le_of_ble_eq_true rfl) ?_
      exact W.zret (v := 0) hx hb hr (by decide) (fun t ht hW => ⟨⟨(0, u4), rfl, ⟨(show (0 ≤ u4.toInt ∧ u4.toInt ≤ 400) by omega), (show ((I 16).toInt ≤ u4.toInt) by omega), (show (u4.toInt ≤ (I 3).toInt) by omega), (show (0 ≤ (0 : Int32).toInt ∧ (0 : Int32).toInt ≤ 1) by omega), (show ((0 : Int32).toInt = 1 → (u4.toInt < (I 3).toInt ∧ 97 ≤ ((F 2) u4.toNatClampNeg).toInt ∧ ((F 2) u4.toNatClampNeg).toInt ≤ 122)) by omega)⟩, CB.mk ht hP hD⟩, hS.F ht⟩) hS.2.2 dX11_isWord_79
    · skip
      have c154 := i_nle (Eq.refl g51.toInt) (show (0 : Int32).toInt = 0 by decide) c154
      refine lv_iload hx hb dX11_isWord_61 (lv_at hl 0 rfl) ?_
      refine lv_bipush (v := 8) hx hb dX11_isWord_63 (by decide) ?_
      refine lv_icmp_ge (tgt := 78) hx hb dX11_isWord_65 (by decide) (fun c157 => ?_) (fun c157 => ?_)
      · skip
        have c157 := i_le (show (8 : Int32).toInt = 8 by decide) (Eq.refl g51.toInt) c157
        refine lv_iconst (v := 0) hx hb dX11_isWord_78 (by decide) ?_
        refine W.widen (k := 0) (n := 0) (Nat.le_of_ble_eq_true rfl) (Nat.le_of_ble_eq_true rfl) ?_
        exact W.zret (v := 0) hx hb hr (by decide) (fun t ht hW => ⟨⟨(0, u4), rfl, ⟨(show (0 ≤ u4.toInt ∧ u4.toInt ≤ 400) by omega), (show ((I 16).toInt ≤ u4.toInt) by omega), (show (u4.toInt ≤ (I 3).toInt) by omega), (show (0 ≤ (0 : Int32).toInt ∧ (0 : Int32).toInt ≤ 1) by omega), (show ((0 : Int32).toInt = 1 → (u4.toInt < (I 3).toInt ∧ 97 ≤ ((F 2) u4.toNatClampNeg).toInt ∧ ((F 2) u4.toNatClampNeg).toInt ≤ 122)) by omega)⟩, CB.mk ht hP hD⟩, hS.F ht⟩) hS.2.2 dX11_isWord_79
      · skip
        have c157 := i_nle (show (8 : Int32).toInt = 8 by decide) (Eq.refl g51.toInt) c157
        refine lv_lload_n hx hb dX11_isWord_68 rfl (lv_at hl 1 rfl) ?_
        refine lv_lload_n hx hb dX11_isWord_69 rfl (lv_at hl 3 rfl) ?_
        refine W.lcmp hx hb dX11_isWord_70 ?_
        refine lv_if_ne (tgt := 78) hx hb dX11_isWord_71 (by decide) (fun c159 => ?_) (fun c159 => ?_)
        · skip
          have c159 := l_ne (Eq.refl g52.toInt) (Eq.refl p1.toInt) c159
          refine lv_iconst (v := 0) hx hb dX11_isWord_78 (by decide) ?_
          refine W.widen (k := 0) (n := 0) (Nat.le_of_ble_eq_true rfl) (Nat.le_of_ble_eq_true rfl) ?_
          exact W.zret (v := 0) hx hb hr (by decide) (fun t ht hW => ⟨⟨(0, u4), rfl, ⟨(show (0 ≤ u4.toInt ∧ u4.toInt ≤ 400) by omega), (show ((I 16).toInt ≤ u4.toInt) by omega), (show (u4.toInt ≤ (I 3).toInt) by omega), (show (0 ≤ (0 : Int32).toInt ∧ (0 : Int32).toInt ≤ 1) by omega), (show ((0 : Int32).toInt = 1 → (u4.toInt < (I 3).toInt ∧ 97 ≤ ((F 2) u4.toNatClampNeg).toInt ∧ ((F 2) u4.toNatClampNeg).toInt ≤ 122)) by omega)⟩, CB.mk ht hP hD⟩, hS.F ht⟩) hS.2.2 dX11_isWord_79
        · skip
          have c159 := l_eq (Eq.refl g52.toInt) (Eq.refl p1.toInt) c159
          refine lv_iconst (v := 1) hx hb dX11_isWord_74 (by decide) ?_
          refine lv_goto (tgt := 79) hx hb dX11_isWord_75 (by decide) ?_
          refine W.widen (k := 0) (n := 0) (Nat.le_of_ble_eq_true rfl) (Nat.le_of_ble_eq_true rfl) ?_
          have zi1 : (1 : Int32).toInt = 1 := by decide
          exact W.zret (v := 1) hx hb hr (by decide) (fun t ht hW => ⟨⟨(1, u4), rfl, ⟨(show (0 ≤ u4.toInt ∧ u4.toInt ≤ 400) by omega), (show ((I 16).toInt ≤ u4.toInt) by omega), (show (u4.toInt ≤ (I 3).toInt) by omega), (show (0 ≤ (1 : Int32).toInt ∧ (1 : Int32).toInt ≤ 1) by omega), (show ((1 : Int32).toInt = 1 → (u4.toInt < (I 3).toInt ∧ 97 ≤ ((F 2) u4.toNatClampNeg).toInt ∧ ((F 2) u4.toNatClampNeg).toInt ≤ 122)) by omega)⟩, CB.mk ht hP hD⟩, hS.F ht⟩) hS.2.2 dX11_isWord_79
set_option maxHeartbeats 4000000 in
set_option maxRecDepth 100000 in
theorem m_passWord (l : Launch) (D : va_G) (Y : Nat → ClassId) (Z : Nat → Nat) (sz : Nat) (o : Nat) (a : Nat → Nat) (I : Nat → Int32) (J : Nat → Int64) (F : Nat → Nat → Int32) (G : Nat → Nat → Int64) (hk_0 : (0 ≤ (I 16).toInt ∧ (I 16).toInt ≤ 400)) (hk_1 : (0 ≤ (I 3).toInt ∧ (I 3).toInt ≤ 400)) (hk_2 : ((I 16).toInt ≤ (I 3).toInt)) : Met l yX11_passWord (.code yX11_passWord cX11_passWord 1 none :: GW) ({ frames := 1, cells := 0, slots := 0, locals := 21 }) (va_Pc [.ref o] (CP D Y Z (MW Y o a I J F G) sz)) (QG (S := Int32) (fun _ => none) (fun u => (0 ≤ u.toInt ∧ u.toInt ≤ 400) ∧ ((I 16).toInt ≤ u.toInt) ∧ (u.toInt ≤ (I 3).toInt) ∧ ((97 ≤ ((F 2) (I 16).toNatClampNeg).toInt ∧ ((F 2) (I 16).toNatClampNeg).toInt ≤ 122 ∧ (I 16).toInt < (I 3).toInt) → (I 16).toInt + 1 ≤ u.toInt)) (fun u => CB D (MW Y o a (upd I 16 u) J F G) (va_A (MW Y o a I J F G) sz)) (va_A (MW Y o a I J F G) sz)) 0 0 (va_A (MW Y o a I J F G) sz) := by
  refine Met.ofW (cc := cX11_passWord) (maxL := 1) (ret := none) (by decide) rfl ?_
  intro p e s m args below meth c s₁ B hml hv
  obtain ⟨rfl, hsz, hP, hKN, hD0⟩ := hv
  have hx := B.exec
  have hb := B.bytes
  have hr := B.returns
  have hts := atoms_spec (ws := .code yX11_passWord cX11_passWord 1 none :: GW) B.pre
  have hg : ∀ w ∈ GW, w.before _ s = true := fun w h => hts w (List.mem_cons_of_mem _ h)
  have hown : s.vm.findClass RX11 = some m.cls := findClass_of_methodNamed B.named
  have hlocks := B.notSynchronized
  subst hsz
  have hD := hD0.self (sz := s.heap.size)
  generalize hAe : va_A (MW Y o a I J F G) s.heap.size = A at hD ⊢
  have hA : ∀ q : Nat, s.heap.size ≤ q → A q := fun q h => by rw [← hAe]; exact Or.inr h
  clear hAe hD0 hts B
  have hl := lv_entry ([.ref o]) (n := 1) (Nat.le_of_ble_eq_true rfl)
  rw [lg_entry_eq]
  generalize (lg_sl ([.ref o]) ++ List.replicate (1 - (lg_sl ([.ref o])).length) Slot.unset).toArray = ls at hl ⊢
  have hl : lv_has ls 1 [(0, .ref o)] := hl
  refine w_start (A0 := A) hP (fun H locs hP hS => ?_)
  refine w_loop (σ := Int32) (fun xx H locs ls => match xx with | g12 => va_P D vwCl (MW Y o a (upd I 16 g12) J F G) H ∧ va_D A (MW Y o a (upd I 16 g12) J F G) ∧ va_S A s.heap H locs ∧ lv_has ls 1 [(0, .ref o)] ∧ (0 ≤ g12.toInt ∧ g12.toInt ≤ 400) ∧ (g12.toInt ≤ (I 3).toInt) ∧ ((I 16).toInt ≤ g12.toInt)) (fun xx => match xx with | g12 => (400 - g12.toInt).toNat) ((I 16)) ⟨hP, hD, hS, lv_sub hl [0] rfl, by omega, by omega, by omega⟩ (fun xx H locs ls hI ih => ?_)
  revert hI ih
  generalize xx = g12
  intro hI ih
  obtain ⟨hP, hD, hS, hl, hq24, hq25, hq26⟩ := hI
  have ih27 := ih
  refine lv_aload_n hx hb dX11_passWord_0 rfl (lv_at hl 0 rfl) ?_
  refine lv_aload_n hx hb dX11_passWord_1 rfl (lv_at hl 0 rfl) ?_
  refine va_get (D := D) (ci := 11) (v := .int g12) (C := RX11) (T := TX11) (N := 49) hx hb hg inGX11 hown hKN.1 hP 0 rfl rfl 16 (by decide) (hg _ kw_1224) (fun _ h9 => h9) rfl dX11_passWord_2 ?_
  refine cga (rn_V (As := [.int g12]) (rest := []) (b := o) (m_isLetter l D Y Z H.size o a (upd I 16 g12) J F G  g12 (show (0 ≤ g12.toInt ∧ g12.toInt ≤ 800) by omega) (show (0 ≤ (I 3).toInt ∧ (I 3).toInt ≤ 400) by omega)) ⟨hx, hb, hml, hown, hg⟩ lk_X11_187 ⟨CP.blind, va_recv hKN.1 hP (ci := 11) (q0 := 0) rfl rfl, CP.at hP hKN hD⟩ ⟨⟨rfl, rfl⟩, ⟨Nat.le_of_ble_eq_true rfl, Nat.le_of_ble_eq_true rfl⟩, ⟨Nat.le_of_ble_eq_true rfl, Nat.le_of_ble_eq_true rfl⟩⟩ hl.1 rfl (Nat.le_of_ble_eq_true rfl) dX11_passWord_5) hP hD hS hA (fun u28 H locs w29 hP hD hS => ?_)
  obtain ⟨hw31, hw32, hw33⟩ : (0 ≤ u28.toInt ∧ u28.toInt ≤ 1) ∧ (u28.toInt = 1 → (g12.toInt < (I 3).toInt ∧ 97 ≤ ((F 2) g12.toNatClampNeg).toInt ∧ ((F 2) g12.toNatClampNeg).toInt ≤ 122)) ∧ (u28.toInt = 0 → ¬ (g12.toInt < (I 3).toInt ∧ 97 ≤ ((F 2) g12.toNatClampNeg).toInt ∧ ((F 2) g12.toNatClampNeg).toInt ≤ 122)) := w29
  refine W.eq (g2 := F0 m 8 ls [.int u28]) rfl ?_
  have hP : va_P D vwCl (MW Y o a (upd I 16 g12) J F G) H := hP
  have hD : va_D A (MW Y o a (upd I 16 g12) J F G) := hD
  rcases (show u28.toInt = 1 ∨ u28.toInt = 0 by omega) with c34 | c34
  · obtain rfl : u28 = 1 := i_is c34 (by decide)
    have zi1 : (1 : Int32).toInt = 1 := by decide
    replace hw32 := hw32 (by decide)
    clear hw33
    refine W.eq (g2 := F0 m 8 ls [.int 1]) rfl ?_
    refine lv_if_eq (tgt := 24) hx hb dX11_passWord_8 (by decide) (fun c35 => ?_) (fun c35 => ?_)
    · exact absurd c35 (by decide)
    refine lv_aload_n hx hb dX11_passWord_11 rfl (lv_at hl 0 rfl) ?_
    refine lv_dup hx hb dX11_passWord_12 rfl ?_
    refine va_get (D := D) (ci := 11) (v := .int g12) (C := RX11) (T := TX11) (N := 49) hx hb hg inGX11 hown hKN.1 hP 0 rfl rfl 16 (by decide) (hg _ kw_1224) (fun _ h9 => h9) rfl dX11_passWord_13 ?_
    refine lv_iconst (v := 1) hx hb dX11_passWord_16 (by decide) ?_
    refine lv_iadd hx hb dX11_passWord_17 ?_
    refine lv_topi (fun v36 ev36 => ?_)
    have hv36 := i_add (Eq.refl g12.toInt) (show (1 : Int32).toInt = 1 by decide) ev36 (by omega) (by omega)
    refine va_put (D := D) (ci := 11) (v := .int v36) (ty := .int) (C := RX11) (T := TX11) (N := 49) hx hb hg inGX11 tyX11 tyX11_ok nmX11 hown hKN.1 hP hD hS 0 rfl rfl 16 (by decide) (hg _ kw_1224) (fun _ h9 => h9) rfl (by decide +kernel) rfl rfl (Nat.le_of_ble_eq_true rfl) dX11_passWord_18 (fun H locs hP hD hS => ?_)
    have hP : va_P D vwCl (MW Y o a (upd I 16 v36) J F G) H := hP
    have hD : va_D A (MW Y o a (upd I 16 v36) J F G) := hD
    refine lv_goto (tgt := 0) hx hb dX11_passWord_21 (by decide) ?_
    exact ih27 (v36) H locs ls (by show (400 - v36.toInt).toNat < (400 - g12.toInt).toNat; omega) ⟨hP, hD, hS, lv_sub hl [0] rfl, by omega, by omega, by omega⟩
  · obtain rfl : u28 = 0 := i_is c34 (by decide)
    have zi0 : (0 : Int32).toInt = 0 := by decide
    clear hw32
    replace hw33 := hw33 (by decide)
    refine W.eq (g2 := F0 m 8 ls [.int 0]) rfl ?_
    refine lv_if_eq (tgt := 24) hx hb dX11_passWord_8 (by decide) (fun c37 => ?_) (fun c37 => ?_)
    rotate_left
    · exact absurd c37 (by decide)
    have t38 : g12.toInt = (I 16).toInt → ((F 2) g12.toNatClampNeg).toInt = ((F 2) (I 16).toNatClampNeg).toInt := fun h => by rw [Int32.toInt_inj.mp h]
    refine W.widen (k := 0) (n := 0) (Nat.le_of_ble_eq_true rfl) (Nat.le_of_ble_eq_true rfl) ?_
    exact W.vret hx hb hr (fun t ht hW => ⟨⟨g12, rfl, ⟨(show (0 ≤ g12.toInt ∧ g12.toInt ≤ 400) by omega), (show ((I 16).toInt ≤ g12.toInt) by omega), (show (g12.toInt ≤ (I 3).toInt) by omega), (show ((97 ≤ ((F 2) (I 16).toNatClampNeg).toInt ∧ ((F 2) (I 16).toNatClampNeg).toInt ≤ 122 ∧ (I 16).toInt < (I 3).toInt) → (I 16).toInt + 1 ≤ g12.toInt) by omega)⟩, CB.mk ht hP hD⟩, hS.F ht⟩) hS.2.2 dX11_passWord_24
set_option maxHeartbeats 4000000 in
set_option maxRecDepth 100000 in
theorem m_takesWord (l : Launch) (D : va_G) (Y : Nat → ClassId) (Z : Nat → Nat) (sz : Nat) (o : Nat) (a : Nat → Nat) (I : Nat → Int32) (J : Nat → Int64) (F : Nat → Nat → Int32) (G : Nat → Nat → Int64) (p1 : Int64) (hk_0 : (0 ≤ (I 16).toInt ∧ (I 16).toInt ≤ 400)) (hk_1 : (0 ≤ (I 3).toInt ∧ (I 3).toInt ≤ 400)) (hk_2 : ((I 16).toInt ≤ (I 3).toInt)) : Met l yX11_takesWord (.code yX11_takesWord cX11_takesWord 3 (some .boolean) :: GW) ({ frames := 2, cells := 0, slots := 0, locals := 46 }) (va_Pc [.ref o, .long p1] (CP D Y Z (MW Y o a I J F G) sz)) (QG (S := Int32 × Int32) (fun u => some (.int u.1)) (fun u => (0 ≤ u.2.toInt ∧ u.2.toInt ≤ 400) ∧ ((I 16).toInt ≤ u.2.toInt) ∧ (u.2.toInt ≤ (I 3).toInt) ∧ (0 ≤ u.1.toInt ∧ u.1.toInt ≤ 1)) (fun u => CB D (MW Y o a (upd I 16 u.2) J F G) (va_A (MW Y o a I J F G) sz)) (va_A (MW Y o a I J F G) sz)) 0 0 (va_A (MW Y o a I J F G) sz) := by
  refine Met.ofW (cc := cX11_takesWord) (maxL := 3) (ret := (some .boolean)) (by decide) rfl ?_
  intro p e s m args below meth c s₁ B hml hv
  obtain ⟨rfl, hsz, hP, hKN, hD0⟩ := hv
  have hx := B.exec
  have hb := B.bytes
  have hr := B.returns
  have hts := atoms_spec (ws := .code yX11_takesWord cX11_takesWord 3 (some .boolean) :: GW) B.pre
  have hg : ∀ w ∈ GW, w.before _ s = true := fun w h => hts w (List.mem_cons_of_mem _ h)
  have hown : s.vm.findClass RX11 = some m.cls := findClass_of_methodNamed B.named
  have hlocks := B.notSynchronized
  subst hsz
  have hD := hD0.self (sz := s.heap.size)
  generalize hAe : va_A (MW Y o a I J F G) s.heap.size = A at hD ⊢
  have hA : ∀ q : Nat, s.heap.size ≤ q → A q := fun q h => by rw [← hAe]; exact Or.inr h
  clear hAe hD0 hts B
  have hl := lv_entry ([.ref o, .long p1]) (n := 3) (Nat.le_of_ble_eq_true rfl)
  rw [lg_entry_eq]
  generalize (lg_sl ([.ref o, .long p1]) ++ List.replicate (3 - (lg_sl ([.ref o, .long p1])).length) Slot.unset).toArray = ls at hl ⊢
  have hl : lv_has ls 3 [(0, .ref o), (1, .long p1)] := hl
  refine w_start (A0 := A) hP (fun H locs hP hS => ?_)
  refine lv_aload_n hx hb dX11_takesWord_0 rfl (lv_at hl 0 rfl) ?_
  refine lv_lload_n hx hb dX11_takesWord_1 rfl (lv_at hl 1 rfl) ?_
  refine cga (rn_V (As := [.long p1]) (rest := []) (b := o) (m_isWord l D Y Z H.size o a I J F G  p1 (show (0 ≤ (I 16).toInt ∧ (I 16).toInt ≤ 400) by omega) (show (0 ≤ (I 3).toInt ∧ (I 3).toInt ≤ 400) by omega) (show ((I 16).toInt ≤ (I 3).toInt) by omega)) ⟨hx, hb, hml, hown, hg⟩ lk_X11_190 ⟨CP.blind, va_recv hKN.1 hP (ci := 11) (q0 := 0) rfl rfl, CP.at hP hKN hD⟩ ⟨⟨rfl, rfl⟩, ⟨Nat.le_of_ble_eq_true rfl, Nat.le_of_ble_eq_true rfl⟩, ⟨Nat.le_of_ble_eq_true rfl, Nat.le_of_ble_eq_true rfl⟩⟩ hl.1 rfl (Nat.le_of_ble_eq_true rfl) dX11_takesWord_2) hP hD hS hA (fun u1 H locs w2 hP hD hS => ?_)
  obtain ⟨u3, u4⟩ := u1
  obtain ⟨hw5, hw6, hw7, hw8, hw9⟩ : (0 ≤ u4.toInt ∧ u4.toInt ≤ 400) ∧ ((I 16).toInt ≤ u4.toInt) ∧ (u4.toInt ≤ (I 3).toInt) ∧ (0 ≤ u3.toInt ∧ u3.toInt ≤ 1) ∧ (u3.toInt = 1 → (u4.toInt < (I 3).toInt ∧ 97 ≤ ((F 2) u4.toNatClampNeg).toInt ∧ ((F 2) u4.toNatClampNeg).toInt ≤ 122)) := w2
  refine W.eq (g2 := F0 m 5 ls [.int u3]) rfl ?_
  have hP : va_P D vwCl (MW Y o a (upd I 16 u4) J F G) H := hP
  have hD : va_D A (MW Y o a (upd I 16 u4) J F G) := hD
  rcases (show u3.toInt = 1 ∨ u3.toInt = 0 by omega) with c10 | c10
  · obtain rfl : u3 = 1 := i_is c10 (by decide)
    have zi1 : (1 : Int32).toInt = 1 := by decide
    replace hw9 := hw9 (by decide)
    refine W.eq (g2 := F0 m 5 ls [.int 1]) rfl ?_
    refine lv_if_ne (tgt := 10) hx hb dX11_takesWord_5 (by decide) (fun c11 => ?_) (fun c11 => ?_)
    rotate_left
    · exact absurd c11 (by decide)
    refine lv_aload_n hx hb dX11_takesWord_10 rfl (lv_at hl 0 rfl) ?_
    refine cga (rn_V (As := []) (rest := []) (b := o) (m_passWord l D Y Z H.size o a (upd I 16 u4) J F G   (show (0 ≤ u4.toInt ∧ u4.toInt ≤ 400) by omega) (show (0 ≤ (I 3).toInt ∧ (I 3).toInt ≤ 400) by omega) (show (u4.toInt ≤ (I 3).toInt) by omega)) ⟨hx, hb, hml, hown, hg⟩ lk_X11_194 ⟨CP.blind, va_recv hKN.1 hP (ci := 11) (q0 := 0) rfl rfl, CP.at hP hKN hD⟩ ⟨⟨rfl, rfl⟩, ⟨Nat.le_of_ble_eq_true rfl, Nat.le_of_ble_eq_true rfl⟩, ⟨Nat.le_of_ble_eq_true rfl, Nat.le_of_ble_eq_true rfl⟩⟩ hl.1 rfl (Nat.le_of_ble_eq_true rfl) dX11_takesWord_11) hP hD hS hA (fun u12 H locs w13 hP hD hS => ?_)
    obtain ⟨hw15, hw16, hw17, hw18⟩ : (0 ≤ u12.toInt ∧ u12.toInt ≤ 400) ∧ (u4.toInt ≤ u12.toInt) ∧ (u12.toInt ≤ (I 3).toInt) ∧ ((97 ≤ ((F 2) u4.toNatClampNeg).toInt ∧ ((F 2) u4.toNatClampNeg).toInt ≤ 122 ∧ u4.toInt < (I 3).toInt) → u4.toInt + 1 ≤ u12.toInt) := w13
    refine W.eq (g2 := F0 m 14 ls []) rfl ?_
    have hP : va_P D vwCl (MW Y o a (upd I 16 u12) J F G) H := hP
    have hD : va_D A (MW Y o a (upd I 16 u12) J F G) := hD
    refine lv_iconst (v := 1) hx hb dX11_takesWord_14 (by decide) ?_
    refine W.widen (k := 0) (n := 0) (Nat.le_of_ble_eq_true rfl) (Nat.le_of_ble_eq_true rfl) ?_
    exact W.zret (v := 1) hx hb hr (by decide) (fun t ht hW => ⟨⟨(1, u12), rfl, ⟨(show (0 ≤ u12.toInt ∧ u12.toInt ≤ 400) by omega), (show ((I 16).toInt ≤ u12.toInt) by omega), (show (u12.toInt ≤ (I 3).toInt) by omega), (show (0 ≤ (1 : Int32).toInt ∧ (1 : Int32).toInt ≤ 1) by omega)⟩, CB.mk ht hP hD⟩, hS.F ht⟩) hS.2.2 dX11_takesWord_15
  · obtain rfl : u3 = 0 := i_is c10 (by decide)
    have zi0 : (0 : Int32).toInt = 0 := by decide
    clear hw9
    refine W.eq (g2 := F0 m 5 ls [.int 0]) rfl ?_
    refine lv_if_ne (tgt := 10) hx hb dX11_takesWord_5 (by decide) (fun c19 => ?_) (fun c19 => ?_)
    · exact absurd c19 (by decide)
    refine lv_iconst (v := 0) hx hb dX11_takesWord_8 (by decide) ?_
    refine W.widen (k := 0) (n := 0) (Nat.le_of_ble_eq_true rfl) (Nat.le_of_ble_eq_true rfl) ?_
    exact W.zret (v := 0) hx hb hr (by decide) (fun t ht hW => ⟨⟨(0, u4), rfl, ⟨(show (0 ≤ u4.toInt ∧ u4.toInt ≤ 400) by omega), (show ((I 16).toInt ≤ u4.toInt) by omega), (show (u4.toInt ≤ (I 3).toInt) by omega), (show (0 ≤ (0 : Int32).toInt ∧ (0 : Int32).toInt ≤ 1) by omega)⟩, CB.mk ht hP hD⟩, hS.F ht⟩) hS.2.2 dX11_takesWord_9
set_option maxHeartbeats 4000000 in
set_option maxRecDepth 100000 in
theorem m_fails (l : Launch) (D : va_G) (Y : Nat → ClassId) (Z : Nat → Nat) (sz : Nat) (o : Nat) (a : Nat → Nat) (I : Nat → Int32) (J : Nat → Int64) (F : Nat → Nat → Int32) (G : Nat → Nat → Int64) (p1 : Int32) (p2 : Int32) (hk_0 : (0 ≤ p1.toInt ∧ p1.toInt ≤ 4)) (hk_1 : (0 ≤ p2.toInt ∧ p2.toInt ≤ 400)) (hk_2 : (0 ≤ (I 17).toInt ∧ (I 17).toInt ≤ 4000)) : Met l yX11_fails (.code yX11_fails cX11_fails 3 (some .boolean) :: GW) ({ frames := 0, cells := 0, slots := 0, locals := 0 }) (va_Pc [.ref o, .int p1, .int p2] (CP D Y Z (MW Y o a I J F G) sz)) (QG (S := Int32 × Int32) (fun u => some (.int u.1)) (fun u => (u.1.toInt = 0) ∧ (1 ≤ u.2.toInt ∧ u.2.toInt ≤ 4000)) (fun u => CB D (MW Y o a (upd I 17 u.2) J F G) (va_A (MW Y o a I J F G) sz)) (va_A (MW Y o a I J F G) sz)) 0 0 (va_A (MW Y o a I J F G) sz) := by
  refine Met.ofW (cc := cX11_fails) (maxL := 3) (ret := (some .boolean)) (by decide) rfl ?_
  intro p e s m args below meth c s₁ B hml hv
  obtain ⟨rfl, hsz, hP, hKN, hD0⟩ := hv
  have hx := B.exec
  have hb := B.bytes
  have hr := B.returns
  have hts := atoms_spec (ws := .code yX11_fails cX11_fails 3 (some .boolean) :: GW) B.pre
  have hg : ∀ w ∈ GW, w.before _ s = true := fun w h => hts w (List.mem_cons_of_mem _ h)
  have hown : s.vm.findClass RX11 = some m.cls := findClass_of_methodNamed B.named
  have hlocks := B.notSynchronized
  subst hsz
  have hD := hD0.self (sz := s.heap.size)
  generalize hAe : va_A (MW Y o a I J F G) s.heap.size = A at hD ⊢
  have hA : ∀ q : Nat, s.heap.size ≤ q → A q := fun q h => by rw [← hAe]; exact Or.inr h
  clear hAe hD0 hts B
  have hl := lv_entry ([.ref o, .int p1, .int p2]) (n := 3) (Nat.le_of_ble_eq_true rfl)
  rw [lg_entry_eq]
  generalize (lg_sl ([.ref o, .int p1, .int p2]) ++ List.replicate (3 - (lg_sl ([.ref o, .int p1, .int p2])).length) Slot.unset).toArray = ls at hl ⊢
  have hl : lv_has ls 3 [(0, .ref o), (1, .int p1), (2, .int p2)] := hl
  refine w_start (A0 := A) hP (fun H locs hP hS => ?_)
  refine lv_aload_n hx hb dX11_fails_0 rfl (lv_at hl 0 rfl) ?_
  refine va_get (D := D) (ci := 11) (v := .int (I 17)) (C := RX11) (T := TX11) (N := 49) hx hb hg inGX11 hown hKN.1 hP 0 rfl rfl 17 (by decide) (hg _ kw_1225) (fun _ h9 => h9) rfl dX11_fails_1 ?_
  refine w_join (σ := Int32 × Int32 × Int32) (pcJ := 19) (kJ := 0) (nJ := 0) (stk := fun xx => match xx with | (g5, g6, g7) => []) (fun xx H locs ls => match xx with | (g5, g6, g7) => va_P D vwCl (MW Y o a (upd I 17 g7) J F G) H ∧ va_D A (MW Y o a (upd I 17 g7) J F G) ∧ va_S A s.heap H locs ∧ lv_has ls 3 [(0, .ref o), (1, .int g5), (2, .int g6)] ∧ (0 ≤ g5.toInt ∧ g5.toInt ≤ 4) ∧ (0 ≤ g6.toInt ∧ g6.toInt ≤ 400) ∧ (1 ≤ g7.toInt ∧ g7.toInt ≤ 4000)) (fun xx H locs ls hI => ?_) (fun jn8 => ?_)
  · skip
    obtain ⟨g5, g6, g7⟩ := xx
    obtain ⟨hP, hD, hS, hl, hq9, hq10, hq11⟩ := hI
    refine W.eq (g2 := F0 m 19 ls []) rfl ?_
    refine lv_iconst (v := 0) hx hb dX11_fails_19 (by decide) ?_
    refine W.widen (k := 0) (n := 0) (Nat.le_of_ble_eq_true rfl) (Nat.le_of_ble_eq_true rfl) ?_
    have zi0 : (0 : Int32).toInt = 0 := by decide
    exact W.zret (v := 0) hx hb hr (by decide) (fun t ht hW => ⟨⟨(0, g7), rfl, ⟨(show ((0 : Int32).toInt = 0) by omega), (show (1 ≤ g7.toInt ∧ g7.toInt ≤ 4000) by omega)⟩, CB.mk ht hP hD⟩, hS.F ht⟩) hS.2.2 dX11_fails_20
  · skip
    refine lv_if_ne (tgt := 19) hx hb dX11_fails_4 (by decide) (fun c12 => ?_) (fun c12 => ?_)
    · skip
      have c12 := i_ne (Eq.refl (I 17).toInt) (show (0 : Int32).toInt = 0 by decide) c12
      refine W.widen (k := 0) (n := 0) (Nat.le_of_ble_eq_true rfl) (Nat.le_of_ble_eq_true rfl) ?_
      exact jn8 (p1, p2, (I 17)) H locs ls ⟨hP, hD, hS, lv_sub hl [0, 1, 2] rfl, by omega, by omega, by omega⟩
    · skip
      have c12 := i_eq (Eq.refl (I 17).toInt) (show (0 : Int32).toInt = 0 by decide) c12
      refine lv_aload_n hx hb dX11_fails_7 rfl (lv_at hl 0 rfl) ?_
      refine lv_iconst (v := 1) hx hb dX11_fails_8 (by decide) ?_
      refine lv_bipush (v := 8) hx hb dX11_fails_9 (by decide) ?_
      refine lv_iload_n hx hb dX11_fails_11 rfl (lv_at hl 2 rfl) ?_
      refine lv_imul hx hb dX11_fails_12 ?_
      refine lv_topi (fun v13 ev13 => ?_)
      have hv13 := i_mul (show (8 : Int32).toInt = 8 by decide) (Eq.refl p2.toInt) ev13 (by omega) (by omega)
      refine lv_iadd hx hb dX11_fails_13 ?_
      refine lv_topi (fun v14 ev14 => ?_)
      have hv14 := i_add (show (1 : Int32).toInt = 1 by decide) (Eq.refl v13.toInt) ev14 (by omega) (by omega)
      refine lv_iload_n hx hb dX11_fails_14 rfl (lv_at hl 1 rfl) ?_
      refine lv_iadd hx hb dX11_fails_15 ?_
      refine lv_topi (fun v15 ev15 => ?_)
      have hv15 := i_add (Eq.refl v14.toInt) (Eq.refl p1.toInt) ev15 (by omega) (by omega)
      refine va_put (D := D) (ci := 11) (v := .int v15) (ty := .int) (C := RX11) (T := TX11) (N := 49) hx hb hg inGX11 tyX11 tyX11_ok nmX11 hown hKN.1 hP hD hS 0 rfl rfl 17 (by decide) (hg _ kw_1225) (fun _ h9 => h9) rfl (by decide +kernel) rfl rfl (Nat.le_of_ble_eq_true rfl) dX11_fails_16 (fun H locs hP hD hS => ?_)
      have hP : va_P D vwCl (MW Y o a (upd I 17 v15) J F G) H := hP
      have hD : va_D A (MW Y o a (upd I 17 v15) J F G) := hD
      refine W.widen (k := 0) (n := 0) (Nat.le_of_ble_eq_true rfl) (Nat.le_of_ble_eq_true rfl) ?_
      exact jn8 (p1, p2, v15) H locs ls ⟨hP, hD, hS, lv_sub hl [0, 1, 2] rfl, by omega, by omega, by omega⟩
set_option maxHeartbeats 4000000 in
set_option maxRecDepth 100000 in
theorem m_number (l : Launch) (D : va_G) (Y : Nat → ClassId) (Z : Nat → Nat) (sz : Nat) (o : Nat) (a : Nat → Nat) (I : Nat → Int32) (J : Nat → Int64) (F : Nat → Nat → Int32) (G : Nat → Nat → Int64) (p1 : Int32) (p2 : Int32) (hk_0 : (0 ≤ (I 16).toInt ∧ (I 16).toInt ≤ 400)) (hk_1 : (0 ≤ (I 3).toInt ∧ (I 3).toInt ≤ 400)) (hk_2 : ((I 16).toInt ≤ (I 3).toInt)) (hk_3 : (0 ≤ (I 17).toInt ∧ (I 17).toInt ≤ 4000)) (hk_4 : (-1 ≤ p1.toInt ∧ p1.toInt ≤ 100000)) (hk_5 : (-1 ≤ p2.toInt ∧ p2.toInt ≤ 100000)) : Met l yX11_number (.code yX11_number cX11_number 5 (some .boolean) :: GW) ({ frames := 1, cells := 0, slots := 0, locals := 25 }) (va_Pc [.ref o, .int p1, .int p2] (CP D Y Z (MW Y o a I J F G) sz)) (QG (S := Int32 × Int32 × Int32 × Int32) (fun u => some (.int u.1)) (fun u => (0 ≤ u.2.1.toInt ∧ u.2.1.toInt ≤ 400) ∧ ((I 16).toInt ≤ u.2.1.toInt) ∧ (u.2.1.toInt ≤ (I 3).toInt) ∧ (0 ≤ u.2.2.1.toInt ∧ u.2.2.1.toInt ≤ 4000) ∧ (u.1.toInt = 1 → (p1.toInt ≤ u.2.2.2.toInt ∧ u.2.2.2.toInt ≤ p2.toInt ∧ (I 16).toInt + 1 ≤ u.2.1.toInt)) ∧ (u.1.toInt = 0 → 1 ≤ u.2.2.1.toInt) ∧ (0 ≤ u.1.toInt ∧ u.1.toInt ≤ 1)) (fun u => CB D (MW Y o a (upd (upd (upd I 16 u.2.1) 17 u.2.2.1) 18 u.2.2.2) J F G) (va_A (MW Y o a I J F G) sz)) (va_A (MW Y o a I J F G) sz)) 0 0 (va_A (MW Y o a I J F G) sz) := by
  refine Met.ofW (cc := cX11_number) (maxL := 5) (ret := (some .boolean)) (by decide) rfl ?_
  intro p e s m args below meth c s₁ B hml hv
  obtain ⟨rfl, hsz, hP, hKN, hD0⟩ := hv
  have hx := B.exec
  have hb := B.bytes
  have hr := B.returns
  have hts := atoms_spec (ws := .code yX11_number cX11_number 5 (some .boolean) :: GW) B.pre
  have hg : ∀ w ∈ GW, w.before _ s = true := fun w h => hts w (List.mem_cons_of_mem _ h)
  have hown : s.vm.findClass RX11 = some m.cls := findClass_of_methodNamed B.named
  have hlocks := B.notSynchronized
  subst hsz
  have hD := hD0.self (sz := s.heap.size)
  generalize hAe : va_A (MW Y o a I J F G) s.heap.size = A at hD ⊢
  have hA : ∀ q : Nat, s.heap.size ≤ q → A q := fun q h => by rw [← hAe]; exact Or.inr h
  clear hAe hD0 hts B
  have hl := lv_entry ([.ref o, .int p1, .int p2]) (n := 5) (Nat.le_of_ble_eq_true rfl)
  rw [lg_entry_eq]
  generalize (lg_sl ([.ref o, .int p1, .int p2]) ++ List.replicate (5 - (lg_sl ([.ref o, .int p1, .int p2])).length) Slot.unset).toArray = ls at hl ⊢
  have hl : lv_has ls 5 [(0, .ref o), (1, .int p1), (2, .int p2)] := hl
  refine w_start (A0 := A) hP (fun H locs hP hS => ?_)
  refine lv_aload_n hx hb dX11_number_0 rfl (lv_at hl 0 rfl) ?_
  refine cga (rn_V (As := []) (rest := []) (b := o) (m_see l D Y Z H.size o a I J F G   (show (0 ≤ (I 16).toInt ∧ (I 16).toInt ≤ 400) by omega) (show (0 ≤ (I 3).toInt ∧ (I 3).toInt ≤ 400) by omega) (show ((I 16).toInt ≤ (I 3).toInt) by omega)) ⟨hx, hb, hml, hown, hg⟩ lk_X11_183 ⟨CP.blind, va_recv hKN.1 hP (ci := 11) (q0 := 0) rfl rfl, CP.at hP hKN hD⟩ ⟨⟨rfl, rfl⟩, ⟨Nat.le_of_ble_eq_true rfl, Nat.le_of_ble_eq_true rfl⟩, ⟨Nat.le_of_ble_eq_true rfl, Nat.le_of_ble_eq_true rfl⟩⟩ hl.1 rfl (Nat.le_of_ble_eq_true rfl) dX11_number_1) hP hD hS hA (fun u1 H locs w2 hP hD hS => ?_)
  obtain ⟨u3, u4⟩ := u1
  obtain ⟨hw5, hw6, hw7, hw8, hw9⟩ : (0 ≤ u4.toInt ∧ u4.toInt ≤ 400) ∧ ((I 16).toInt ≤ u4.toInt) ∧ (u4.toInt ≤ (I 3).toInt) ∧ ((u3.toInt = -1 ∧ u4.toInt = (I 3).toInt) ∨ (0 ≤ u3.toInt ∧ u3.toInt ≤ 255 ∧ u4.toInt < (I 3).toInt ∧ ((F 2) u4.toNatClampNeg).toInt ≠ 32)) ∧ (-1 ≤ u3.toInt ∧ u3.toInt ≤ 255) := w2
  refine W.eq (g2 := F0 m 4 ls [.int u3]) rfl ?_
  have hP : va_P D vwCl (MW Y o a (upd I 16 u4) J F G) H := hP
  have hD : va_D A (MW Y o a (upd I 16 u4) J F G) := hD
  refine lv_pop hx hb dX11_number_4 rfl ?_
  refine lv_aload_n hx hb dX11_number_5 rfl (lv_at hl 0 rfl) ?_
  refine lv_aload_n hx hb dX11_number_6 rfl (lv_at hl 0 rfl) ?_
  refine va_get (D := D) (ci := 11) (v := .int u4) (C := RX11) (T := TX11) (N := 49) hx hb hg inGX11 hown hKN.1 hP 0 rfl rfl 16 (by decide) (hg _ kw_1224) (fun _ h9 => h9) rfl dX11_number_7 ?_
  refine cga (rn_V (As := [.int u4]) (rest := []) (b := o) (m_isDigit l D Y Z H.size o a (upd I 16 u4) J F G  u4 (show (0 ≤ u4.toInt ∧ u4.toInt ≤ 800) by omega) (show (0 ≤ (I 3).toInt ∧ (I 3).toInt ≤ 400) by omega)) ⟨hx, hb, hml, hown, hg⟩ lk_X11_197 ⟨CP.blind, va_recv hKN.1 hP (ci := 11) (q0 := 0) rfl rfl, CP.at hP hKN hD⟩ ⟨⟨rfl, rfl⟩, ⟨Nat.le_of_ble_eq_true rfl, Nat.le_of_ble_eq_true rfl⟩, ⟨Nat.le_of_ble_eq_true rfl, Nat.le_of_ble_eq_true rfl⟩⟩ hl.1 rfl (Nat.le_of_ble_eq_true rfl) dX11_number_10) hP hD hS hA (fun u10 H locs w11 hP hD hS => ?_)
  obtain ⟨hw13, hw14, hw15⟩ : (0 ≤ u10.toInt ∧ u10.toInt ≤ 1) ∧ (u10.toInt = 1 → (u4.toInt < (I 3).toInt ∧ 48 ≤ ((F 2) u4.toNatClampNeg).toInt ∧ ((F 2) u4.toNatClampNeg).toInt ≤ 57)) ∧ (u10.toInt = 0 → ¬ (u4.toInt < (I 3).toInt ∧ 48 ≤ ((F 2) u4.toNatClampNeg).toInt ∧ ((F 2) u4.toNatClampNeg).toInt ≤ 57)) := w11
  refine W.eq (g2 := F0 m 13 ls [.int u10]) rfl ?_
  have hP : va_P D vwCl (MW Y o a (upd I 16 u4) J F G) H := hP
  have hD : va_D A (MW Y o a (upd I 16 u4) J F G) := hD
  rcases (show u10.toInt = 1 ∨ u10.toInt = 0 by omega) with c16 | c16
  · obtain rfl : u10 = 1 := i_is c16 (by decide)
    have zi1 : (1 : Int32).toInt = 1 := by decide
    replace hw14 := hw14 (by decide)
    clear hw15
    refine W.eq (g2 := F0 m 13 ls [.int 1]) rfl ?_
    refine lv_if_ne (tgt := 26) hx hb dX11_number_13 (by decide) (fun c17 => ?_) (fun c17 => ?_)
    rotate_left
    · exact absurd c17 (by decide)
    refine lv_aload_n hx hb dX11_number_26 rfl (lv_at hl 0 rfl) ?_
    refine va_get (D := D) (ci := 11) (v := .int u4) (C := RX11) (T := TX11) (N := 49) hx hb hg inGX11 hown hKN.1 hP 0 rfl rfl 16 (by decide) (hg _ kw_1224) (fun _ h9 => h9) rfl dX11_number_27 ?_
    refine lv_istore_n (lv' := [(3, .int u4), (0, .ref o), (1, .int p1), (2, .int p2)]) hx hb dX11_number_30 rfl hl (by decide) rfl (fun ls hl => ?_)
    refine lv_iconst (v := 0) hx hb dX11_number_31 (by decide) ?_
    refine lv_istore (lv' := [(4, .int 0), (3, .int u4), (0, .ref o), (1, .int p1), (2, .int p2)]) hx hb dX11_number_32 hl (by decide) rfl (fun ls hl => ?_)
    have zi0 : (0 : Int32).toInt = 0 := by decide
    refine w_loop (σ := Int32 × Int32) (fun xx H locs ls => match xx with | (g44, g45) => va_P D vwCl (MW Y o a (upd I 16 g45) J F G) H ∧ va_D A (MW Y o a (upd I 16 g45) J F G) ∧ va_S A s.heap H locs ∧ lv_has ls 5 [(4, .int g44), (3, .int u4), (0, .ref o), (1, .int p1), (2, .int p2)] ∧ (0 ≤ g45.toInt ∧ g45.toInt ≤ 400) ∧ (g45.toInt ≤ (I 3).toInt) ∧ (u4.toInt ≤ g45.toInt)) (fun xx => match xx with | (g44, g45) => (400 - g45.toInt).toNat) (0, u4) ⟨hP, hD, hS, lv_sub hl [0, 1, 2, 3, 4] rfl, by omega, by omega, by omega⟩ (fun xx H locs ls hI ih => ?_)
    obtain ⟨g44, g45⟩ := xx
    obtain ⟨hP, hD, hS, hl, hq70, hq71, hq72⟩ := hI
    have ih73 := ih
    refine lv_aload_n hx hb dX11_number_34 rfl (lv_at hl 2 rfl) ?_
    refine lv_aload_n hx hb dX11_number_35 rfl (lv_at hl 2 rfl) ?_
    refine va_get (D := D) (ci := 11) (v := .int g45) (C := RX11) (T := TX11) (N := 49) hx hb hg inGX11 hown hKN.1 hP 0 rfl rfl 16 (by decide) (hg _ kw_1224) (fun _ h9 => h9) rfl dX11_number_36 ?_
    refine cga (rn_V (As := [.int g45]) (rest := []) (b := o) (m_isDigit l D Y Z H.size o a (upd I 16 g45) J F G  g45 (show (0 ≤ g45.toInt ∧ g45.toInt ≤ 800) by omega) (show (0 ≤ (I 3).toInt ∧ (I 3).toInt ≤ 400) by omega)) ⟨hx, hb, hml, hown, hg⟩ lk_X11_197 ⟨CP.blind, va_recv hKN.1 hP (ci := 11) (q0 := 0) rfl rfl, CP.at hP hKN hD⟩ ⟨⟨rfl, rfl⟩, ⟨Nat.le_of_ble_eq_true rfl, Nat.le_of_ble_eq_true rfl⟩, ⟨Nat.le_of_ble_eq_true rfl, Nat.le_of_ble_eq_true rfl⟩⟩ hl.1 rfl (Nat.le_of_ble_eq_true rfl) dX11_number_39) hP hD hS hA (fun u74 H locs w75 hP hD hS => ?_)
    obtain ⟨hw77, hw78, hw79⟩ : (0 ≤ u74.toInt ∧ u74.toInt ≤ 1) ∧ (u74.toInt = 1 → (g45.toInt < (I 3).toInt ∧ 48 ≤ ((F 2) g45.toNatClampNeg).toInt ∧ ((F 2) g45.toNatClampNeg).toInt ≤ 57)) ∧ (u74.toInt = 0 → ¬ (g45.toInt < (I 3).toInt ∧ 48 ≤ ((F 2) g45.toNatClampNeg).toInt ∧ ((F 2) g45.toNatClampNeg).toInt ≤ 57)) := w75
    refine W.eq (g2 := F0 m 42 ls [.int u74]) rfl ?_
    have hP : va_P D vwCl (MW Y o a (upd I 16 g45) J F G) H := hP
    have hD : va_D A (MW Y o a (upd I 16 g45) J F G) := hD
    rcases (show u74.toInt = 1 ∨ u74.toInt = 0 by omega) with c80 | c80
    · obtain rfl : u74 = 1 := i_is c80 (by decide)
      replace hw78 := hw78 (by decide)
      clear hw79
      refine W.eq (g2 := F0 m 42 ls [.int 1]) rfl ?_
      refine lv_if_eq (tgt := 88) hx hb dX11_number_42 (by decide) (fun c81 => ?_) (fun c81 => ?_)
      · exact absurd c81 (by decide)
      refine lv_aload_n hx hb dX11_number_45 rfl (lv_at hl 2 rfl) ?_
      refine va_get (D := D) (ci := 11) (v := .int g45) (C := RX11) (T := TX11) (N := 49) hx hb hg inGX11 hown hKN.1 hP 0 rfl rfl 16 (by decide) (hg _ kw_1224) (fun _ h9 => h9) rfl dX11_number_46 ?_
      refine lv_iload_n hx hb dX11_number_49 rfl (lv_at hl 1 rfl) ?_
      refine lv_isub hx hb dX11_number_50 ?_
      refine lv_topi (fun v82 ev82 => ?_)
      have hv82 := i_sub (Eq.refl g45.toInt) (Eq.refl u4.toInt) ev82 (by omega) (by omega)
      refine lv_iconst (v := 5) hx hb dX11_number_51 (by decide) ?_
      refine w_join (σ := Int32) (pcJ := 75) (kJ := 0) (nJ := 0) (stk := fun xx => match xx with | g88 => []) (fun xx H locs ls => match xx with | g88 => va_P D vwCl (MW Y o a (upd I 16 g45) J F G) H ∧ va_D A (MW Y o a (upd I 16 g45) J F G) ∧ va_S A s.heap H locs ∧ lv_has ls 5 [(4, .int g88), (3, .int u4), (0, .ref o), (1, .int p1), (2, .int p2)]) (fun xx H locs ls hI => ?_) (fun jn89 => ?_)
      · skip
        revert hI
        generalize xx = g88
        intro hI
        obtain ⟨hP, hD, hS, hl⟩ := hI
        refine W.eq (g2 := F0 m 75 ls []) rfl ?_
        refine lv_aload_n hx hb dX11_number_75 rfl (lv_at hl 2 rfl) ?_
        refine lv_dup hx hb dX11_number_76 rfl ?_
        refine va_get (D := D) (ci := 11) (v := .int g45) (C := RX11) (T := TX11) (N := 49) hx hb hg inGX11 hown hKN.1 hP 0 rfl rfl 16 (by decide) (hg _ kw_1224) (fun _ h9 => h9) rfl dX11_number_77 ?_
        refine lv_iconst (v := 1) hx hb dX11_number_80 (by decide) ?_
        refine lv_iadd hx hb dX11_number_81 ?_
        refine lv_topi (fun v90 ev90 => ?_)
        have hv90 := i_add (Eq.refl g45.toInt) (show (1 : Int32).toInt = 1 by decide) ev90 (by omega) (by omega)
        refine va_put (D := D) (ci := 11) (v := .int v90) (ty := .int) (C := RX11) (T := TX11) (N := 49) hx hb hg inGX11 tyX11 tyX11_ok nmX11 hown hKN.1 hP hD hS 0 rfl rfl 16 (by decide) (hg _ kw_1224) (fun _ h9 => h9) rfl (by decide +kernel) rfl rfl (Nat.le_of_ble_eq_true rfl) dX11_number_82 (fun H locs hP hD hS => ?_)
        have hP : va_P D vwCl (MW Y o a (upd I 16 v90) J F G) H := hP
        have hD : va_D A (MW Y o a (upd I 16 v90) J F G) := hD
        refine lv_goto (tgt := 34) hx hb dX11_number_85 (by decide) ?_
        exact ih73 (g88, v90) H locs ls (by show (400 - v90.toInt).toNat < (400 - g45.toInt).toNat; omega) ⟨hP, hD, hS, lv_sub hl [0, 1, 2, 3, 4] rfl, by omega, by omega, by omega⟩
      · skip
        refine lv_icmp_ge (tgt := 75) hx hb dX11_number_52 (by decide) (fun c91 => ?_) (fun c91 => ?_)
        · skip
          have c91 := i_le (show (5 : Int32).toInt = 5 by decide) (Eq.refl v82.toInt) c91
          refine W.widen (k := 0) (n := 0) (Nat.le_of_ble_eq_true rfl) (Nat.le_of_ble_eq_true rfl) ?_
          exact jn89 (g44) H locs ls ⟨hP, hD, hS, lv_sub hl [0, 1, 2, 3, 4] rfl⟩
        · skip
          have c91 := i_nle (show (5 : Int32).toInt = 5 by decide) (Eq.refl v82.toInt) c91
          refine lv_bipush (v := 10) hx hb dX11_number_55 (by decide) ?_
          refine lv_iload hx hb dX11_number_57 (lv_at hl 0 rfl) ?_
          refine lv_imul hx hb dX11_number_59 ?_
          refine lv_topi (fun v92 ev92 => ?_)
          refine lv_aload_n hx hb dX11_number_60 rfl (lv_at hl 2 rfl) ?_
          refine va_get (D := D) (ci := 11) (v := .ref (a 2)) (C := RX11) (T := TX11) (N := 49) hx hb hg inGX11 hown hKN.1 hP 0 rfl rfl 2 (by decide) (hg _ kw_1210) (fun _ h9 => h9) rfl dX11_number_61 ?_
          refine lv_aload_n hx hb dX11_number_64 rfl (lv_at hl 2 rfl) ?_
          refine va_get (D := D) (ci := 11) (v := .int g45) (C := RX11) (T := TX11) (N := 49) hx hb hg inGX11 hown hKN.1 hP 0 rfl rfl 16 (by decide) (hg _ kw_1224) (fun _ h9 => h9) rfl dX11_number_65 ?_
          refine va_bald hx hb hKN.1 hP 3 2 rfl rfl (vp_in_iff.mpr ⟨by omega, by omega⟩) dX11_number_68 ?_
          refine lv_topi (fun v93 ev93 => ?_)
          have ev93 : v93 = (F 2) g45.toNatClampNeg := ev93
          have qv93 := congrArg Int32.toInt ev93
          refine lv_iadd hx hb dX11_number_69 ?_
          refine lv_topi (fun v94 ev94 => ?_)
          refine lv_bipush (v := 48) hx hb dX11_number_70 (by decide) ?_
          refine lv_isub hx hb dX11_number_72 ?_
          refine lv_topi (fun v95 ev95 => ?_)
          refine lv_istore (lv' := [(4, .int v95), (3, .int u4), (0, .ref o), (1, .int p1), (2, .int p2)]) hx hb dX11_number_73 hl (by decide) rfl (fun ls hl => ?_)
          refine W.widen (k := 0) (n := 0) (Nat.le_of_ble_eq_true rfl) (Nat.le_of_ble_eq_true rfl) ?_
          exact jn89 (v95) H locs ls ⟨hP, hD, hS, lv_sub hl [0, 1, 2, 3, 4] rfl⟩
    · obtain rfl : u74 = 0 := i_is c80 (by decide)
      have zi0 : (0 : Int32).toInt = 0 := by decide
      clear hw78
      replace hw79 := hw79 (by decide)
      refine W.eq (g2 := F0 m 42 ls [.int 0]) rfl ?_
      refine lv_if_eq (tgt := 88) hx hb dX11_number_42 (by decide) (fun c96 => ?_) (fun c96 => ?_)
      rotate_left
      · exact absurd c96 (by decide)
      have t97 : g45.toInt = u4.toInt → ((F 2) g45.toNatClampNeg).toInt = ((F 2) u4.toNatClampNeg).toInt := fun h => by rw [Int32.toInt_inj.mp h]
      refine lv_aload_n hx hb dX11_number_88 rfl (lv_at hl 2 rfl) ?_
      refine lv_iload hx hb dX11_number_89 (lv_at hl 0 rfl) ?_
      refine va_put (D := D) (ci := 11) (v := .int g44) (ty := .int) (C := RX11) (T := TX11) (N := 49) hx hb hg inGX11 tyX11 tyX11_ok nmX11 hown hKN.1 hP hD hS 0 rfl rfl 18 (by decide) (hg _ kw_1226) (fun _ h9 => h9) rfl (by decide +kernel) rfl rfl (Nat.le_of_ble_eq_true rfl) dX11_number_91 (fun H locs hP hD hS => ?_)
      have hP : va_P D vwCl (MW Y o a (upd (upd I 16 g45) 18 g44) J F G) H := hP
      have hD : va_D A (MW Y o a (upd (upd I 16 g45) 18 g44) J F G) := hD
      refine lv_aload_n hx hb dX11_number_94 rfl (lv_at hl 2 rfl) ?_
      refine va_get (D := D) (ci := 11) (v := .int g45) (C := RX11) (T := TX11) (N := 49) hx hb hg inGX11 hown hKN.1 hP 0 rfl rfl 16 (by decide) (hg _ kw_1224) (fun _ h9 => h9) rfl dX11_number_95 ?_
      refine lv_iload_n hx hb dX11_number_98 rfl (lv_at hl 1 rfl) ?_
      refine lv_isub hx hb dX11_number_99 ?_
      refine lv_topi (fun v98 ev98 => ?_)
      have hv98 := i_sub (Eq.refl g45.toInt) (Eq.refl u4.toInt) ev98 (by omega) (by omega)
      refine lv_iconst (v := 5) hx hb dX11_number_100 (by decide) ?_
      refine lv_icmp_gt (tgt := 117) hx hb dX11_number_101 (by decide) (fun c126 => ?_) (fun c126 => ?_)
      · skip
        have c126 := i_lt (show (5 : Int32).toInt = 5 by decide) (Eq.refl v98.toInt) c126
        refine lv_aload_n hx hb dX11_number_117 rfl (lv_at hl 2 rfl) ?_
        refine lv_iconst (v := 1) hx hb dX11_number_118 (by decide) ?_
        refine lv_iload_n hx hb dX11_number_119 rfl (lv_at hl 1 rfl) ?_
        refine cga (rn_V (As := [.int 1, .int u4]) (rest := []) (b := o) (m_fails l D Y Z H.size o a (upd (upd I 16 g45) 18 g44) J F G  1 u4 (show (0 ≤ (1 : Int32).toInt ∧ (1 : Int32).toInt ≤ 4) by omega) (show (0 ≤ u4.toInt ∧ u4.toInt ≤ 400) by omega) (show (0 ≤ (I 17).toInt ∧ (I 17).toInt ≤ 4000) by omega)) ⟨hx, hb, hml, hown, hg⟩ lk_X11_200 ⟨CP.blind, va_recv hKN.1 hP (ci := 11) (q0 := 0) rfl rfl, CP.at hP hKN hD⟩ ⟨⟨rfl, rfl⟩, ⟨Nat.le_of_ble_eq_true rfl, Nat.le_of_ble_eq_true rfl⟩, ⟨Nat.le_of_ble_eq_true rfl, Nat.le_of_ble_eq_true rfl⟩⟩ hl.1 rfl (Nat.le_of_ble_eq_true rfl) dX11_number_120) hP hD hS hA (fun u127 H locs w128 hP hD hS => ?_)
        obtain ⟨u129, u130⟩ := u127
        obtain ⟨hw131, hw132⟩ : (u129.toInt = 0) ∧ (1 ≤ u130.toInt ∧ u130.toInt ≤ 4000) := w128
        refine W.eq (g2 := F0 m 123 ls [.int u129]) rfl ?_
        have hP : va_P D vwCl (MW Y o a (upd (upd (upd I 16 g45) 17 u130) 18 g44) J F G) H := hP
        have hD : va_D A (MW Y o a (upd (upd (upd I 16 g45) 17 u130) 18 g44) J F G) := hD
        obtain rfl : u129 = 0 := i_is (X := 0) (by omega) (by decide)
        refine W.eq (g2 := F0 m 123 ls [.int 0]) rfl ?_
        refine lv_if_eq (tgt := 130) hx hb dX11_number_123 (by decide) (fun c134 => ?_) (fun c134 => ?_)
        rotate_left
        · exact absurd c134 (by decide)
        refine lv_iconst (v := 0) hx hb dX11_number_130 (by decide) ?_
        refine W.widen (k := 0) (n := 0) (Nat.le_of_ble_eq_true rfl) (Nat.le_of_ble_eq_true rfl) ?_
        exact W.zret (v := 0) hx hb hr (by decide) (fun t ht hW => ⟨⟨(0, g45, u130, g44), rfl, ⟨(show (0 ≤ g45.toInt ∧ g45.toInt ≤ 400) by omega), (show ((I 16).toInt ≤ g45.toInt) by omega), (show (g45.toInt ≤ (I 3).toInt) by omega), (show (0 ≤ u130.toInt ∧ u130.toInt ≤ 4000) by omega), (show ((0 : Int32).toInt = 1 → (p1.toInt ≤ g44.toInt ∧ g44.toInt ≤ p2.toInt ∧ (I 16).toInt + 1 ≤ g45.toInt)) by omega), (show ((0 : Int32).toInt = 0 → 1 ≤ u130.toInt) by omega), (show (0 ≤ (0 : Int32).toInt ∧ (0 : Int32).toInt ≤ 1) by omega)⟩, CB.mk ht hP hD⟩, hS.F ht⟩) hS.2.2 dX11_number_131
      · skip
        have c126 := i_nlt (show (5 : Int32).toInt = 5 by decide) (Eq.refl v98.toInt) c126
        refine lv_iload hx hb dX11_number_104 (lv_at hl 0 rfl) ?_
        have j135 := rgI g44
        have j136 := Int32.toInt_toInt64 g44
        refine lv_i2l (v := g44.toInt64) hx hb dX11_number_106 (rfl) ?_
        refine lv_iload_n hx hb dX11_number_107 rfl (lv_at hl 3 rfl) ?_
        have j137 := Int32.toInt_toInt64 p1
        refine lv_i2l (v := p1.toInt64) hx hb dX11_number_108 (rfl) ?_
        refine lv_iload_n hx hb dX11_number_109 rfl (lv_at hl 4 rfl) ?_
        have j138 := Int32.toInt_toInt64 p2
        refine lv_i2l (v := p2.toInt64) hx hb dX11_number_110 (rfl) ?_
        refine cg0 (rn_S (As := [.long g44.toInt64, .long p1.toInt64, .long p2.toInt64]) (rest := []) (m_in l D Y Z H.size   g44.toInt64 p1.toInt64 p2.toInt64 ) ⟨hx, hb, hml, hown, hg⟩ lk_X11_99 ⟨CP.blind, CP.at nilP hKN (nilD (A := fun _ => True))⟩ ⟨⟨rfl, rfl⟩, ⟨Nat.le_of_ble_eq_true rfl, Nat.le_of_ble_eq_true rfl⟩, ⟨Nat.le_of_ble_eq_true rfl, Nat.le_of_ble_eq_true rfl⟩⟩ hl.1 rfl (Nat.le_of_ble_eq_true rfl) dX11_number_111) hP hS hA (fun u139 H locs w140 hP hS => ?_)
        obtain ⟨hw142, hw143⟩ : ((p1.toInt64.toInt ≤ g44.toInt64.toInt ∧ g44.toInt64.toInt ≤ p2.toInt64.toInt ∧ u139.toInt = 1) ∨ (¬ (p1.toInt64.toInt ≤ g44.toInt64.toInt ∧ g44.toInt64.toInt ≤ p2.toInt64.toInt) ∧ u139.toInt = 0)) ∧ (0 ≤ u139.toInt ∧ u139.toInt ≤ 1) := w140
        refine W.eq (g2 := F0 m 114 ls [.int u139]) rfl ?_
        rcases (show u139.toInt = 1 ∨ u139.toInt = 0 by omega) with c144 | c144
        · obtain rfl : u139 = 1 := i_is c144 (by decide)
          refine W.eq (g2 := F0 m 114 ls [.int 1]) rfl ?_
          refine lv_if_ne (tgt := 126) hx hb dX11_number_114 (by decide) (fun c146 => ?_) (fun c146 => ?_)
          rotate_left
          · exact absurd c146 (by decide)
          refine lv_iconst (v := 1) hx hb dX11_number_126 (by decide) ?_
          refine lv_goto (tgt := 131) hx hb dX11_number_127 (by decide) ?_
          refine W.widen (k := 0) (n := 0) (Nat.le_of_ble_eq_true rfl) (Nat.le_of_ble_eq_true rfl) ?_
          exact W.zret (v := 1) hx hb hr (by decide) (fun t ht hW => ⟨⟨(1, g45, (I 17), g44), rfl, ⟨(show (0 ≤ g45.toInt ∧ g45.toInt ≤ 400) by omega), (show ((I 16).toInt ≤ g45.toInt) by omega), (show (g45.toInt ≤ (I 3).toInt) by omega), (show (0 ≤ (I 17).toInt ∧ (I 17).toInt ≤ 4000) by omega), (show ((1 : Int32).toInt = 1 → (p1.toInt ≤ g44.toInt ∧ g44.toInt ≤ p2.toInt ∧ (I 16).toInt + 1 ≤ g45.toInt)) by omega), (show ((1 : Int32).toInt = 0 → 1 ≤ (I 17).toInt) by omega), (show (0 ≤ (1 : Int32).toInt ∧ (1 : Int32).toInt ≤ 1) by omega)⟩, CB.mk ht hP hD⟩, hS.F ht⟩) hS.2.2 dX11_number_131
        · obtain rfl : u139 = 0 := i_is c144 (by decide)
          refine W.eq (g2 := F0 m 114 ls [.int 0]) rfl ?_
          refine lv_if_ne (tgt := 126) hx hb dX11_number_114 (by decide) (fun c155 => ?_) (fun c155 => ?_)
          · exact absurd c155 (by decide)
          refine lv_aload_n hx hb dX11_number_117 rfl (lv_at hl 2 rfl) ?_
          refine lv_iconst (v := 1) hx hb dX11_number_118 (by decide) ?_
          refine lv_iload_n hx hb dX11_number_119 rfl (lv_at hl 1 rfl) ?_
          refine cga (rn_V (As := [.int 1, .int u4]) (rest := []) (b := o) (m_fails l D Y Z H.size o a (upd (upd I 16 g45) 18 g44) J F G  1 u4 (show (0 ≤ (1 : Int32).toInt ∧ (1 : Int32).toInt ≤ 4) by omega) (show (0 ≤ u4.toInt ∧ u4.toInt ≤ 400) by omega) (show (0 ≤ (I 17).toInt ∧ (I 17).toInt ≤ 4000) by omega)) ⟨hx, hb, hml, hown, hg⟩ lk_X11_200 ⟨CP.blind, va_recv hKN.1 hP (ci := 11) (q0 := 0) rfl rfl, CP.at hP hKN hD⟩ ⟨⟨rfl, rfl⟩, ⟨Nat.le_of_ble_eq_true rfl, Nat.le_of_ble_eq_true rfl⟩, ⟨Nat.le_of_ble_eq_true rfl, Nat.le_of_ble_eq_true rfl⟩⟩ hl.1 rfl (Nat.le_of_ble_eq_true rfl) dX11_number_120) hP hD hS hA (fun u156 H locs w157 hP hD hS => ?_)
          obtain ⟨u158, u159⟩ := u156
          obtain ⟨hw160, hw161⟩ : (u158.toInt = 0) ∧ (1 ≤ u159.toInt ∧ u159.toInt ≤ 4000) := w157
          refine W.eq (g2 := F0 m 123 ls [.int u158]) rfl ?_
          have hP : va_P D vwCl (MW Y o a (upd (upd (upd I 16 g45) 17 u159) 18 g44) J F G) H := hP
          have hD : va_D A (MW Y o a (upd (upd (upd I 16 g45) 17 u159) 18 g44) J F G) := hD
          obtain rfl : u158 = 0 := i_is (X := 0) (by omega) (by decide)
          refine W.eq (g2 := F0 m 123 ls [.int 0]) rfl ?_
          refine lv_if_eq (tgt := 130) hx hb dX11_number_123 (by decide) (fun c163 => ?_) (fun c163 => ?_)
          rotate_left
          · exact absurd c163 (by decide)
          refine lv_iconst (v := 0) hx hb dX11_number_130 (by decide) ?_
          refine W.widen (k := 0) (n := 0) (Nat.le_of_ble_eq_true rfl) (Nat.le_of_ble_eq_true rfl) ?_
          exact W.zret (v := 0) hx hb hr (by decide) (fun t ht hW => ⟨⟨(0, g45, u159, g44), rfl, ⟨(show (0 ≤ g45.toInt ∧ g45.toInt ≤ 400) by omega), (show ((I 16).toInt ≤ g45.toInt) by omega), (show (g45.toInt ≤ (I 3).toInt) by omega), (show (0 ≤ u159.toInt ∧ u159.toInt ≤ 4000) by omega), (show ((0 : Int32).toInt = 1 → (p1.toInt ≤ g44.toInt ∧ g44.toInt ≤ p2.toInt ∧ (I 16).toInt + 1 ≤ g45.toInt)) by omega), (show ((0 : Int32).toInt = 0 → 1 ≤ u159.toInt) by omega), (show (0 ≤ (0 : Int32).toInt ∧ (0 : Int32).toInt ≤ 1) by omega)⟩, CB.mk ht hP hD⟩, hS.F ht⟩) hS.2.2 dX11_number_131
  · obtain rfl : u10 = 0 := i_is c16 (by decide)
    have zi0 : (0 : Int32).toInt = 0 := by decide
    clear hw14
    replace hw15 := hw15 (by decide)
    refine W.eq (g2 := F0 m 13 ls [.int 0]) rfl ?_
    refine lv_if_ne (tgt := 26) hx hb dX11_number_13 (by decide) (fun c164 => ?_) (fun c164 => ?_)
    · exact absurd c164 (by decide)
    refine lv_aload_n hx hb dX11_number_16 rfl (lv_at hl 0 rfl) ?_
    refine lv_iconst (v := 0) hx hb dX11_number_17 (by decide) ?_
    refine lv_aload_n hx hb dX11_number_18 rfl (lv_at hl 0 rfl) ?_
    refine va_get (D := D) (ci := 11) (v := .int u4) (C := RX11) (T := TX11) (N := 49) hx hb hg inGX11 hown hKN.1 hP 0 rfl rfl 16 (by decide) (hg _ kw_1224) (fun _ h9 => h9) rfl dX11_number_19 ?_
    refine cga (rn_V (As := [.int 0, .int u4]) (rest := []) (b := o) (m_fails l D Y Z H.size o a (upd I 16 u4) J F G  0 u4 (show (0 ≤ (0 : Int32).toInt ∧ (0 : Int32).toInt ≤ 4) by omega) (show (0 ≤ u4.toInt ∧ u4.toInt ≤ 400) by omega) (show (0 ≤ (I 17).toInt ∧ (I 17).toInt ≤ 4000) by omega)) ⟨hx, hb, hml, hown, hg⟩ lk_X11_200 ⟨CP.blind, va_recv hKN.1 hP (ci := 11) (q0 := 0) rfl rfl, CP.at hP hKN hD⟩ ⟨⟨rfl, rfl⟩, ⟨Nat.le_of_ble_eq_true rfl, Nat.le_of_ble_eq_true rfl⟩, ⟨Nat.le_of_ble_eq_true rfl, Nat.le_of_ble_eq_true rfl⟩⟩ hl.1 rfl (Nat.le_of_ble_eq_true rfl) dX11_number_22) hP hD hS hA (fun u165 H locs w166 hP hD hS => ?_)
    obtain ⟨u167, u168⟩ := u165
    obtain ⟨hw169, hw170⟩ : (u167.toInt = 0) ∧ (1 ≤ u168.toInt ∧ u168.toInt ≤ 4000) := w166
    refine W.eq (g2 := F0 m 25 ls [.int u167]) rfl ?_
    have hP : va_P D vwCl (MW Y o a (upd (upd I 16 u4) 17 u168) J F G) H := hP
    have hD : va_D A (MW Y o a (upd (upd I 16 u4) 17 u168) J F G) := hD
    obtain rfl : u167 = 0 := i_is (X := 0) (by omega) (by decide)
    refine W.eq (g2 := F0 m 25 ls [.int 0]) rfl ?_
    refine W.widen (k := 0) (n := 0) (Nat.le_of_ble_eq_true rfl) (Nat.le_of_ble_eq_true rfl) ?_
    exact W.zret (v := 0) hx hb hr (by decide) (fun t ht hW => ⟨⟨(0, u4, u168, (I 18)), rfl, ⟨(show (0 ≤ u4.toInt ∧ u4.toInt ≤ 400) by omega), (show ((I 16).toInt ≤ u4.toInt) by omega), (show (u4.toInt ≤ (I 3).toInt) by omega), (show (0 ≤ u168.toInt ∧ u168.toInt ≤ 4000) by omega), (show ((0 : Int32).toInt = 1 → (p1.toInt ≤ (I 18).toInt ∧ (I 18).toInt ≤ p2.toInt ∧ (I 16).toInt + 1 ≤ u4.toInt)) by omega), (show ((0 : Int32).toInt = 0 → 1 ≤ u168.toInt) by omega), (show (0 ≤ (0 : Int32).toInt ∧ (0 : Int32).toInt ≤ 1) by omega)⟩, CB.mk ht hP hD⟩, hS.F ht⟩) hS.2.2 dX11_number_25
