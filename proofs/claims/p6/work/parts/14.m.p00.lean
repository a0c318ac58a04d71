set_option maxHeartbeats 4000000 in
set_option maxRecDepth 100000 in
theorem m_see (l : Launch) (D : va_G) (Y : Nat → ClassId) (Z : Nat → Nat) (sz : Nat) (o : Nat) (a : Nat → Nat) (I : Nat → Int32) (J : Nat → Int64) (F : Nat → Nat → Int32) (G : Nat → Nat → Int64) (hk_0 : (0 ≤ (I 16).toInt ∧ (I 16).toInt ≤ 400)) (hk_1 : (0 ≤ (I 3).toInt ∧ (I 3).toInt ≤ 400)) (hk_2 : ((I 16).toInt ≤ (I 3).toInt)) : Met l yX11_see (.code yX11_see cX11_see 1 (some .int) :: GW) ({ frames := 0, cells := 0, slots := 0, locals := 0 }) (va_Pc [.ref o] (CP D Y Z (MW Y o a I J F G) sz)) (QG (S := Int32 × Int32) (fun u => some (.int u.1)) (fun u => (0 ≤ u.2.toInt ∧ u.2.toInt ≤ 400) ∧ ((I 16).toInt ≤ u.2.toInt) ∧ (u.2.toInt ≤ (I 3).toInt) ∧ ((u.1.toInt = -1 ∧ u.2.toInt = (I 3).toInt) ∨ (0 ≤ u.1.toInt ∧ u.1.toInt ≤ 255 ∧ u.2.toInt < (I 3).toInt ∧ ((F 2) u.2.toNatClampNeg).toInt ≠ 32)) ∧ (-1 ≤ u.1.toInt ∧ u.1.toInt ≤ 255) ∧ (((I 16).toInt < (I 3).toInt ∧ ((F 2) (I 16).toNatClampNeg).toInt ≠ 32) → u.2.toInt = (I 16).toInt)) (fun u => CB D (MW Y o a (upd I 16 u.2) J F G) (va_A (MW Y o a I J F G) sz)) (va_A (MW Y o a I J F G) sz)) 0 0 (va_A (MW Y o a I J F G) sz) := by
  refine Met.ofW (cc := cX11_see) (maxL := 1) (ret := (some .int)) (by decide) rfl ?_
  intro p e s m args below meth c s₁ B hml hv
  obtain ⟨rfl, hsz, hP, hKN, hD0⟩ := hv
  have hx := B.exec
  have hb := B.bytes
  have hr := B.returns
  have hts := atoms_spec (ws := .code yX11_see cX11_see 1 (some .int) :: GW) B.pre
  have hg : ∀ w ∈ GW, w.before _ s = true := fun w h => hts w (List.mem_cons_of_mem _ h)
  have hown : s.vm.findClass RX11 = some m.cls := findClass_of_methodNamed B.named
  have hlocks := B.notSynchronized
  subst hsz
  have hD := hD0.self (sz := s.heap.size)
  generalize hAe : va_A (MW Y o a I J F G) s.heap.size = A at hD ⊢
  have hA : ∀ q : Nat, s.heap.size ≤ q → A q := fun q h => by rw [← hAe]; exact Or.inr h
  clear hAe hD0 hts B
  have hl := lv_entry ([.ref o]) (n := 1) (Nat.le_of_ble_eq_true rfl)
  rw [lg_entry_eq]
  generalize (lg_sl ([.ref o]) ++ List.replicate (1 - (lg_sl ([.ref o])).length) Slot.unset).toArray = ls at hl ⊢
  have hl : lv_has ls 1 [(0, .ref o)] := hl
  refine w_start (A0 := A) hP (fun H locs hP hS => ?_)
  refine w_loop (σ := Int32) (fun xx H locs ls => match xx with | g7 => va_P D vwCl (MW Y o a (upd I 16 g7) J F G) H ∧ va_D A (MW Y o a (upd I 16 g7) J F G) ∧ va_S A s.heap H locs ∧ lv_has ls 1 [(0, .ref o)] ∧ (0 ≤ g7.toInt ∧ g7.toInt ≤ 400) ∧ (g7.toInt ≤ (I 3).toInt) ∧ ((I 16).toInt ≤ g7.toInt) ∧ (g7.toInt = (I 16).toInt ∨ ((F 2) (I 16).toNatClampNeg).toInt = 32)) (fun xx => match xx with | g7 => (400 - g7.toInt).toNat) ((I 16)) ⟨hP, hD, hS, lv_sub hl [0] rfl, by omega, by omega, by omega, by omega⟩ (fun xx H locs ls hI ih => ?_)
  revert hI ih
  generalize xx = g7
  intro hI ih
  obtain ⟨hP, hD, hS, hl, hq14, hq15, hq16, hq17⟩ := hI
  have ih18 := ih
  refine lv_aload_n hx hb dX11_see_0 rfl (lv_at hl 0 rfl) ?_
  refine va_get (D := D) (ci := 11) (v := .int g7) (C := RX11) (T := TX11) (N := 49) hx hb hg inGX11 hown hKN.1 hP 0 rfl rfl 16 (by decide) (hg _ kw_1224) (fun _ h9 => h9) rfl dX11_see_1 ?_
  refine lv_aload_n hx hb dX11_see_4 rfl (lv_at hl 0 rfl) ?_
  refine va_get (D := D) (ci := 11) (v := .int (I 3)) (C := RX11) (T := TX11) (N := 49) hx hb hg inGX11 hown hKN.1 hP 0 rfl rfl 3 (by decide) (hg _ kw_1211) (fun _ h9 => h9) rfl dX11_see_5 ?_
  refine lv_icmp_ge (tgt := 38) hx hb dX11_see_8 (by decide) (fun c19 => ?_) (fun c19 => ?_)
  · skip
    have c19 := i_le (Eq.refl (I 3).toInt) (Eq.refl g7.toInt) c19
    refine lv_aload_n hx hb dX11_see_38 rfl (lv_at hl 0 rfl) ?_
    refine va_get (D := D) (ci := 11) (v := .int g7) (C := RX11) (T := TX11) (N := 49) hx hb hg inGX11 hown hKN.1 hP 0 rfl rfl 16 (by decide) (hg _ kw_1224) (fun _ h9 => h9) rfl dX11_see_39 ?_
    refine lv_aload_n hx hb dX11_see_42 rfl (lv_at hl 0 rfl) ?_
    refine va_get (D := D) (ci := 11) (v := .int (I 3)) (C := RX11) (T := TX11) (N := 49) hx hb hg inGX11 hown hKN.1 hP 0 rfl rfl 3 (by decide) (hg _ kw_1211) (fun _ h9 => h9) rfl dX11_see_43 ?_
    refine lv_icmp_ge (tgt := 65) hx hb dX11_see_46 (by decide) (fun c20 => ?_) (fun c20 => ?_)
    · skip
      have c20 := i_le (Eq.refl (I 3).toInt) (Eq.refl g7.toInt) c20
      refine lv_iconst (v := (-1)) hx hb dX11_see_65 (by decide) ?_
      refine W.widen (k := 0) (n := 0) (Nat.le_of_ble_eq_true rfl) (Nat.le_of_ble_eq_true rfl) ?_
      have zim1 : ((-1) : Int32).toInt = -1 := by decide
      exact W.iret (v := (-1)) hx hb hr (fun t ht hW => ⟨⟨((-1), g7), rfl, ⟨(show (0 ≤ g7.toInt ∧ g7.toInt ≤ 400) by omega), (show ((I 16).toInt ≤ g7.toInt) by omega), (show (g7.toInt ≤ (I 3).toInt) by omega), (show ((((-1) : Int32).toInt = -1 ∧ g7.toInt = (I 3).toInt) ∨ (0 ≤ ((-1) : Int32).toInt ∧ ((-1) : Int32).toInt ≤ 255 ∧ g7.toInt < (I 3).toInt ∧ ((F 2) g7.toNatClampNeg).toInt ≠ 32)) by omega), (show (-1 ≤ ((-1) : Int32).toInt ∧ ((-1) : Int32).toInt ≤ 255) by omega), (show (((I 16).toInt < (I 3).toInt ∧ ((F 2) (I 16).toNatClampNeg).toInt ≠ 32) → g7.toInt = (I 16).toInt) by omega)⟩, CB.mk ht hP hD⟩, hS.F ht⟩) hS.2.2 dX11_see_66
    · skip
      have c20 := i_nle (Eq.refl (I 3).toInt) (Eq.refl g7.toInt) c20
      refine lv_aload_n hx hb dX11_see_49 rfl (lv_at hl 0 rfl) ?_
      refine va_get (D := D) (ci := 11) (v := .ref (a 2)) (C := RX11) (T := TX11) (N := 49) hx hb hg inGX11 hown hKN.1 hP 0 rfl rfl 2 (by decide) (hg _ kw_1210) (fun _ h9 => h9) rfl dX11_see_50 ?_
      refine lv_aload_n hx hb dX11_see_53 rfl (lv_at hl 0 rfl) ?_
      refine va_get (D := D) (ci := 11) (v := .int g7) (C := RX11) (T := TX11) (N := 49) hx hb hg inGX11 hown hKN.1 hP 0 rfl rfl 16 (by decide) (hg _ kw_1224) (fun _ h9 => h9) rfl dX11_see_54 ?_
      refine va_bald hx hb hKN.1 hP 3 2 rfl rfl (vp_in_iff.mpr ⟨by omega, by omega⟩) dX11_see_57 ?_
      refine lv_topi (fun v21 ev21 => ?_)
      have ev21 : v21 = (F 2) g7.toNatClampNeg := ev21
      have qv21 := congrArg Int32.toInt ev21
      refine lv_sipush (v := 255) hx hb dX11_see_58 (by decide) ?_
      refine lv_iand hx hb dX11_see_61 ?_
      refine lv_topi (fun v22 ev22 => ?_)
      have hv22 := i_and (show (255 : Int32).toInt = 255 by decide) ev22 (by decide)
      refine lv_goto (tgt := 66) hx hb dX11_see_62 (by decide) ?_
      refine W.widen (k := 0) (n := 0) (Nat.le_of_ble_eq_true rfl) (Nat.le_of_ble_eq_true rfl) ?_
      exact W.iret (v := v22) hx hb hr (fun t ht hW => ⟨⟨(v22, g7), rfl, ⟨(show (0 ≤ g7.toInt ∧ g7.toInt ≤ 400) by omega), (show ((I 16).toInt ≤ g7.toInt) by omega), (show (g7.toInt ≤ (I 3).toInt) by omega), (show ((v22.toInt = -1 ∧ g7.toInt = (I 3).toInt) ∨ (0 ≤ v22.toInt ∧ v22.toInt ≤ 255 ∧ g7.toInt < (I 3).toInt ∧ ((F 2) g7.toNatClampNeg).toInt ≠ 32)) by omega), (show (-1 ≤ v22.toInt ∧ v22.toInt ≤ 255) by omega), (show (((I 16).toInt < (I 3).toInt ∧ ((F 2) (I 16).toNatClampNeg).toInt ≠ 32) → g7.toInt = (I 16).toInt) by omega)⟩, CB.mk ht hP hD⟩, hS.F ht⟩) hS.2.2 dX11_see_66
  · skip
    have c19 := i_nle (Eq.refl (I 3).toInt) (Eq.refl g7.toInt) c19
    refine lv_aload_n hx hb dX11_see_11 rfl (lv_at hl 0 rfl) ?_
    refine va_get (D := D) (ci := 11) (v := .ref (a 2)) (C := RX11) (T := TX11) (N := 49) hx hb hg inGX11 hown hKN.1 hP 0 rfl rfl 2 (by decide) (hg _ kw_1210) (fun _ h9 => h9) rfl dX11_see_12 ?_
    refine lv_aload_n hx hb dX11_see_15 rfl (lv_at hl 0 rfl) ?_
    refine va_get (D := D) (ci := 11) (v := .int g7) (C := RX11) (T := TX11) (N := 49) hx hb hg inGX11 hown hKN.1 hP 0 rfl rfl 16 (by decide) (hg _ kw_1224) (fun _ h9 => h9) rfl dX11_see_16 ?_
    refine va_bald hx hb hKN.1 hP 3 2 rfl rfl (vp_in_iff.mpr ⟨by omega, by omega⟩) dX11_see_19 ?_
    refine lv_topi (fun v23 ev23 => ?_)
    have ev23 : v23 = (F 2) g7.toNatClampNeg := ev23
    have qv23 := congrArg Int32.toInt ev23
    refine lv_bipush (v := 32) hx hb dX11_see_20 (by decide) ?_
    have j24 := rgI v23
    refine lv_icmp_ne (tgt := 38) hx hb dX11_see_22 (by decide) (fun c25 => ?_) (fun c25 => ?_)
    · skip
      have c25 := i_ne (Eq.refl v23.toInt) (show (32 : Int32).toInt = 32 by decide) c25
      refine lv_aload_n hx hb dX11_see_38 rfl (lv_at hl 0 rfl) ?_
      refine va_get (D := D) (ci := 11) (v := .int g7) (C := RX11) (T := TX11) (N := 49) hx hb hg inGX11 hown hKN.1 hP 0 rfl rfl 16 (by decide) (hg _ kw_1224) (fun _ h9 => h9) rfl dX11_see_39 ?_
      refine lv_aload_n hx hb dX11_see_42 rfl (lv_at hl 0 rfl) ?_
      refine va_get (D := D) (ci := 11) (v := .int (I 3)) (C := RX11) (T := TX11) (N := 49) hx hb hg inGX11 hown hKN.1 hP 0 rfl rfl 3 (by decide) (hg _ kw_1211) (fun _ h9 => h9) rfl dX11_see_43 ?_
      refine lv_icmp_ge (tgt := 65) hx hb dX11_see_46 (by decide) (fun c26 => ?_) (fun c26 => ?_)
      · skip
        have c26 := i_le (Eq.refl (I 3).toInt) (Eq.refl g7.toInt) c26
        refine lv_iconst (v := (-1)) hx hb dX11_see_65 (by decide) ?_
        refine W.widen (k := 0) (n := 0) (Nat.le_of_ble_eq_true rfl) (Nat.le_of_ble_eq_true rfl) ?_
        have zim1 : ((-1) : Int32).toInt = -1 := by decide
        exact W.iret (v := (-1)) hx hb hr (fun t ht hW => ⟨⟨((-1), g7), rfl, ⟨(show (0 ≤ g7.toInt ∧ g7.toInt ≤ 400) by omega), (show ((I 16).toInt ≤ g7.toInt) by omega), (show (g7.toInt ≤ (I 3).toInt) by omega), (show ((((-1) : Int32).toInt = -1 ∧ g7.toInt = (I 3).toInt) ∨ (0 ≤ ((-1) : Int32).toInt ∧ ((-1) : Int32).toInt ≤ 255 ∧ g7.toInt < (I 3).toInt ∧ ((F 2) g7.toNatClampNeg).toInt ≠ 32)) by omega), (show (-1 ≤ ((-1) : Int32).toInt ∧ ((-1) : Int32).toInt ≤ 255) by omega), (show (((I 16).toInt < (I 3).toInt ∧ ((F 2) (I 16).toNatClampNeg).toInt ≠ 32) → g7.toInt = (I 16).toInt) by omega)⟩, CB.mk ht hP hD⟩, hS.F ht⟩) hS.2.2 dX11_see_66
      · skip
        have c26 := i_nle (Eq.refl (I 3).toInt) (Eq.refl g7.toInt) c26
        refine lv_aload_n hx hb dX11_see_49 rfl (lv_at hl 0 rfl) ?_
        refine va_get (D := D) (ci := 11) (v := .ref (a 2)) (C := RX11) (T := TX11) (N := 49) hx hb hg inGX11 hown hKN.1 hP 0 rfl rfl 2 (by decide) (hg _ kw_1210) (fun _ h9 => h9) rfl dX11_see_50 ?_
        refine lv_aload_n hx hb dX11_see_53 rfl (lv_at hl 0 rfl) ?_
        refine va_get (D := D) (ci := 11) (v := .int g7) (C := RX11) (T := TX11) (N := 49) hx hb hg inGX11 hown hKN.1 hP 0 rfl rfl 16 (by decide) (hg _ kw_1224) (fun _ h9 => h9) rfl dX11_see_54 ?_
        refine va_bald hx hb hKN.1 hP 3 2 rfl rfl (vp_in_iff.mpr ⟨by omega, by omega⟩) dX11_see_57 ?_
        refine lv_topi (fun v27 ev27 => ?_)
        have ev27 : v27 = (F 2) g7.toNatClampNeg := ev27
        have qv27 := congrArg Int32.toInt ev27
        refine lv_sipush (v := 255) hx hb dX11_see_58 (by decide) ?_
        refine lv_iand hx hb dX11_see_61 ?_
        refine lv_topi (fun v28 ev28 => ?_)
        have hv28 := i_and (show (255 : Int32).toInt = 255 by decide) ev28 (by decide)
        refine lv_goto (tgt := 66) hx hb dX11_see_62 (by decide) ?_
        refine W.widen (k := 0) (n := 0) (Nat.le_of_ble_eq_true rfl) (Nat.le_of_ble_eq_true rfl) ?_
        exact W.iret (v := v28) hx hb hr (fun t ht hW => ⟨⟨(v28, g7), rfl, ⟨(show (0 ≤ g7.toInt ∧ g7.toInt ≤ 400) by omega), (show ((I 16).toInt ≤ g7.toInt) by omega), (show (g7.toInt ≤ (I 3).toInt) by omega), (show ((v28.toInt = -1 ∧ g7.toInt = (I 3).toInt) ∨ (0 ≤ v28.toInt ∧ v28.toInt ≤ 255 ∧ g7.toInt < (I 3).toInt ∧ ((F 2) g7.toNatClampNeg).toInt ≠ 32)) by omega), (show (-1 ≤ v28.toInt ∧ v28.toInt ≤ 255) by omega), (show (((I 16).toInt < (I 3).toInt ∧ ((F 2) (I 16).toNatClampNeg).toInt ≠ 32) → g7.toInt = (I 16).toInt) by omega)⟩, CB.mk ht hP hD⟩, hS.F ht⟩) hS.2.2 dX11_see_66
    · skip
      have c25 := i_eq (Eq.refl v23.toInt) (show (32 : Int32).toInt = 32 by decide) c25
      have t29 : g7.toInt = (I 16).toInt → ((F 2) g7.toNatClampNeg).toInt = ((F 2) (I 16).toNatClampNeg).toInt := fun h => by rw [Int32.toInt_inj.mp h]
      refine lv_aload_n hx hb dX11_see_25 rfl (lv_at hl 0 rfl) ?_
      refine lv_dup hx hb dX11_see_26 rfl ?_
      refine va_get (D := D) (ci := 11) (v := .int g7) (C := RX11) (T := TX11) (N := 49) hx hb hg inGX11 hown hKN.1 hP 0 rfl rfl 16 (by decide) (hg _ kw_1224) (fun _ h9 => h9) rfl dX11_see_27 ?_
      refine lv_iconst (v := 1) hx hb dX11_see_30 (by decide) ?_
      refine lv_iadd hx hb dX11_see_31 ?_
      refine lv_topi (fun v30 ev30 => ?_)
      have hv30 := i_add (Eq.refl g7.toInt) (show (1 : Int32).toInt = 1 by decide) ev30 (by omega) (by omega)
      refine va_put (D := D) (ci := 11) (v := .int v30) (ty := .int) (C := RX11) (T := TX11) (N := 49) hx hb hg inGX11 tyX11 tyX11_ok nmX11 hown hKN.1 hP hD hS 0 rfl rfl 16 (by decide) (hg _ kw_1224) (fun _ h9 => h9) rfl (by decide +kernel) rfl rfl (Nat.le_of_ble_eq_true rfl) dX11_see_32 (fun H locs hP hD hS => ?_)
      have hP : va_P D vwCl (MW Y o a (upd I 16 v30) J F G) H := hP
      have hD : va_D A (MW Y o a (upd I 16 v30) J F G) := hD
      refine lv_goto (tgt := 0) hx hb dX11_see_35 (by decide) ?_
      exact ih18 (v30) H locs ls (by show (400 - v30.toInt).toNat < (400 - g7.toInt).toNat; omega) ⟨hP, hD, hS, lv_sub hl [0] rfl, by omega, by omega, by omega, by omega⟩
set_option maxHeartbeats 4000000 in
set_option maxRecDepth 100000 in
theorem m_isDigit (l : Launch) (D : va_G) (Y : Nat → ClassId) (Z : Nat → Nat) (sz : Nat) (o : Nat) (a : Nat → Nat) (I : Nat → Int32) (J : Nat → Int64) (F : Nat → Nat → Int32) (G : Nat → Nat → Int64) (p1 : Int32) (hk_0 : (0 ≤ p1.toInt ∧ p1.toInt ≤ 800)) (hk_1 : (0 ≤ (I 3).toInt ∧ (I 3).toInt ≤ 400)) : Met l yX11_isDigit (.code yX11_isDigit cX11_isDigit 2 (some .boolean) :: GW) ({ frames := 0, cells := 0, slots := 0, locals := 0 }) (va_Pc [.ref o, .int p1] (CP D Y Z (MW Y o a I J F G) sz)) (QG (S := Int32) (fun u => some (.int u)) (fun u => ((u.toInt = 1 ∧ p1.toInt < (I 3).toInt ∧ 48 ≤ ((F 2) p1.toNatClampNeg).toInt ∧ ((F 2) p1.toNatClampNeg).toInt ≤ 57) ∨ (u.toInt = 0 ∧ ¬ (p1.toInt < (I 3).toInt ∧ 48 ≤ ((F 2) p1.toNatClampNeg).toInt ∧ ((F 2) p1.toNatClampNeg).toInt ≤ 57))) ∧ (0 ≤ u.toInt ∧ u.toInt ≤ 1)) (fun u => CB D (MW Y o a I J F G) (va_A (MW Y o a I J F G) sz)) (va_A (MW Y o a I J F G) sz)) 0 0 (va_A (MW Y o a I J F G) sz) := by
  refine Met.ofW (cc := cX11_isDigit) (maxL := 2) (ret := (some .boolean)) (by decide) rfl ?_
  intro p e s m args below meth c s₁ B hml hv
  obtain ⟨rfl, hsz, hP, hKN, hD0⟩ := hv
  have hx := B.exec
  have hb := B.bytes
  have hr := B.returns
  have hts := atoms_spec (ws := .code yX11_isDigit cX11_isDigit 2 (some .boolean) :: GW) B.pre
  have hg : ∀ w ∈ GW, w.before _ s = true := fun w h => hts w (List.mem_cons_of_mem _ h)
  have hown : s.vm.findClass RX11 = some m.cls := findClass_of_methodNamed B.named
  have hlocks := B.notSynchronized
  subst hsz
  have hD := hD0.self (sz := s.heap.size)
  generalize hAe : va_A (MW Y o a I J F G) s.heap.size = A at hD ⊢
  have hA : ∀ q : Nat, s.heap.size ≤ q → A q := fun q h => by rw [← hAe]; exact Or.inr h
  clear hAe hD0 hts B
  have hl := lv_entry ([.ref o, .int p1]) (n := 2) (Nat.le_of_ble_eq_true rfl)
  rw [lg_entry_eq]
  generalize (lg_sl ([.ref o, .int p1]) ++ List.replicate (2 - (lg_sl ([.ref o, .int p1])).length) Slot.unset).toArray = ls at hl ⊢
  have hl : lv_has ls 2 [(0, .ref o), (1, .int p1)] := hl
  refine w_start (A0 := A) hP (fun H locs hP hS => ?_)
  refine lv_iload_n hx hb dX11_isDigit_0 rfl (lv_at hl 1 rfl) ?_
  refine lv_aload_n hx hb dX11_isDigit_1 rfl (lv_at hl 0 rfl) ?_
  refine va_get (D := D) (ci := 11) (v := .int (I 3)) (C := RX11) (T := TX11) (N := 49) hx hb hg inGX11 hown hKN.1 hP 0 rfl rfl 3 (by decide) (hg _ kw_1211) (fun _ h9 => h9) rfl dX11_isDigit_2 ?_
  refine lv_icmp_ge (tgt := 34) hx hb dX11_isDigit_5 (by decide) (fun c8 => ?_) (fun c8 => ?_)
  · skip
    have c8 := i_le (Eq.refl (I 3).toInt) (Eq.refl p1.toInt) c8
    refine lv_iconst (v := 0) hx hb dX11_isDigit_34 (by decide) ?_
    refine W.widen (k := 0) (n := 0) (Nat.le_of_ble_eq_true rfl) (Nat.le_of_ble_eq_true rfl) ?_
    have zi0 : (0 : Int32).toInt = 0 := by decide
    exact W.zret (v := 0) hx hb hr (by decide) (fun t ht hW => ⟨⟨0, rfl, ⟨(show (((0 : Int32).toInt = 1 ∧ p1.toInt < (I 3).toInt ∧ 48 ≤ ((F 2) p1.toNatClampNeg).toInt ∧ ((F 2) p1.toNatClampNeg).toInt ≤ 57) ∨ ((0 : Int32).toInt = 0 ∧ ¬ (p1.toInt < (I 3).toInt ∧ 48 ≤ ((F 2) p1.toNatClampNeg).toInt ∧ ((F 2) p1.toNatClampNeg).toInt ≤ 57))) by omega), (show (0 ≤ (0 : Int32).toInt ∧ (0 : Int32).toInt ≤ 1) by omega)⟩, CB.mk ht hP hD⟩, hS.F ht⟩) hS.2.2 dX11_isDigit_35
  · skip
    have c8 := i_nle (Eq.refl (I 3).toInt) (Eq.refl p1.toInt) c8
    refine lv_aload_n hx hb dX11_isDigit_8 rfl (lv_at hl 0 rfl) ?_
    refine va_get (D := D) (ci := 11) (v := .ref (a 2)) (C := RX11) (T := TX11) (N := 49) hx hb hg inGX11 hown hKN.1 hP 0 rfl rfl 2 (by decide) (hg _ kw_1210) (fun _ h9 => h9) rfl dX11_isDigit_9 ?_
    refine lv_iload_n hx hb dX11_isDigit_12 rfl (lv_at hl 1 rfl) ?_
    refine va_bald hx hb hKN.1 hP 3 2 rfl rfl (vp_in_iff.mpr ⟨by omega, by omega⟩) dX11_isDigit_13 ?_
    refine lv_topi (fun v9 ev9 => ?_)
    have ev9 : v9 = (F 2) p1.toNatClampNeg := ev9
    have qv9 := congrArg Int32.toInt ev9
    refine lv_bipush (v := 48) hx hb dX11_isDigit_14 (by decide) ?_
    have j15 := rgI v9
    refine lv_icmp_lt (tgt := 34) hx hb dX11_isDigit_16 (by decide) (fun c16 => ?_) (fun c16 => ?_)
    · skip
      have c16 := i_lt (Eq.refl v9.toInt) (show (48 : Int32).toInt = 48 by decide) c16
      refine lv_iconst (v := 0) hx hb dX11_isDigit_34 (by decide) ?_
      refine W.widen (k := 0) (n := 0) (Nat.le_of_ble_eq_true rfl) (Nat.le_of_ble_eq_true rfl) ?_
      have zi0 : (0 : Int32).toInt = 0 := by decide
      exact W.zret (v := 0) hx hb hr (by decide) (fun t ht hW => ⟨⟨0, rfl, ⟨(show (((0 : Int32).toInt = 1 ∧ p1.toInt < (I 3).toInt ∧ 48 ≤ ((F 2) p1.toNatClampNeg).toInt ∧ ((F 2) p1.toNatClampNeg).toInt ≤ 57) ∨ ((0 : Int32).toInt = 0 ∧ ¬ (p1.toInt < (I 3).toInt ∧ 48 ≤ ((F 2) p1.toNatClampNeg).toInt ∧ ((F 2) p1.toNatClampNeg).toInt ≤ 57))) by omega), (show (0 ≤ (0 : Int32).toInt ∧ (0 : Int32).toInt ≤ 1) by omega)⟩, CB.mk ht hP hD⟩, hS.F ht⟩) hS.2.2 dX11_isDigit_35
    · skip
      have c16 := i_nlt (Eq.refl v9.toInt) (show (48 : Int32).toInt = 48 by decide) c16
      refine lv_aload_n hx hb dX11_isDigit_19 rfl (lv_at hl 0 rfl) ?_
      refine va_get (D := D) (ci := 11) (v := .ref (a 2)) (C := RX11) (T := TX11) (N := 49) hx hb hg inGX11 hown hKN.1 hP 0 rfl rfl 2 (by decide) (hg _ kw_1210) (fun _ h9 => h9) rfl dX11_isDigit_20 ?_
      refine lv_iload_n hx hb dX11_isDigit_23 rfl (lv_at hl 1 rfl) ?_
      refine va_bald hx hb hKN.1 hP 3 2 rfl rfl (vp_in_iff.mpr ⟨by omega, by omega⟩) dX11_isDigit_24 ?_
      refine lv_topi (fun v17 ev17 => ?_)
      have ev17 : v17 = (F 2) p1.toNatClampNeg := ev17
      have qv17 := congrArg Int32.toInt ev17
      refine lv_bipush (v := 57) hx hb dX11_isDigit_25 (by decide) ?_
      have j20 := rgI v17
      refine lv_icmp_gt (tgt := 34) hx hb dX11_isDigit_27 (by decide) (fun c21 => ?_) (fun c21 => ?_)
      · skip
        have c21 := i_lt (show (57 : Int32).toInt = 57 by decide) (Eq.refl v17.toInt) c21
        refine lv_iconst (v := 0) hx hb dX11_isDigit_34 (by decide) ?_
        refine W.widen (k := 0) (n := 0) (Nat.le_of_ble_eq_true rfl) (Nat.le_of_ble_eq_true rfl) ?_
        have zi0 : (0 : Int32).toInt = 0 := by decide
        exact W.zret (v := 0) hx hb hr (by decide) (fun t ht hW => ⟨⟨0, rfl, ⟨(show (((0 : Int32).toInt = 1 ∧ p1.toInt < (I 3).toInt ∧ 48 ≤ ((F 2) p1.toNatClampNeg).toInt ∧ ((F 2) p1.toNatClampNeg).toInt ≤ 57) ∨ ((0 : Int32).toInt = 0 ∧ ¬ (p1.toInt < (I 3).toInt ∧ 48 ≤ ((F 2) p1.toNatClampNeg).toInt ∧ ((F 2) p1.toNatClampNeg).toInt ≤ 57))) by omega), (show (0 ≤ (0 : Int32).toInt ∧ (0 : Int32).toInt ≤ 1) by omega)⟩, CB.mk ht hP hD⟩, hS.F ht⟩) hS.2.2 dX11_isDigit_35
      · skip
        have c21 := i_nlt (show (57 : Int32).toInt = 57 by decide) (Eq.refl v17.toInt) c21
        refine lv_iconst (v := 1) hx hb dX11_isDigit_30 (by decide) ?_
        refine lv_goto (tgt := 35) hx hb dX11_isDigit_31 (by decide) ?_
        refine W.widen (k := 0) (n := 0) (Nat.le_of_ble_eq_true rfl) (Nat.le_of_ble_eq_true rfl) ?_
        have zi1 : (1 : Int32).toInt = 1 := by decide
        exact W.zret (v := 1) hx hb hr (by decide) (fun t ht hW => ⟨⟨1, rfl, ⟨(show (((1 : Int32).toInt = 1 ∧ p1.toInt < (I 3).toInt ∧ 48 ≤ ((F 2) p1.toNatClampNeg).toInt ∧ ((F 2) p1.toNatClampNeg).toInt ≤ 57) ∨ ((1 : Int32).toInt = 0 ∧ ¬ (p1.toInt < (I 3).toInt ∧ 48 ≤ ((F 2) p1.toNatClampNeg).toInt ∧ ((F 2) p1.toNatClampNeg).toInt ≤ 57))) by omega), (show (0 ≤ (1 : Int32).toInt ∧ (1 : Int32).toInt ≤ 1) by omega)⟩, CB.mk ht hP hD⟩, hS.F ht⟩) hS.2.2 dX11_isDigit_35
set_option maxHeartbeats 4000000 in
set_option maxRecDepth 100000 in
theorem m_isLetter (l : Launch) (D : va_G) (Y : Nat → ClassId) (Z : Nat → Nat) (sz : Nat) (o : Nat) (a : Nat → Nat) (I : Nat → Int32) (J : Nat → Int64) (F : Nat → Nat → Int32) (G : Nat → Nat → Int64) (p1 : Int32) (hk_0 : (0 ≤ p1.toInt ∧ p1.toInt ≤ 800)) (hk_1 : (0 ≤ (I 3).toInt ∧ (I 3).toInt ≤ 400)) : Met l yX11_isLetter (.code yX11_isLetter cX11_isLetter 2 (some .boolean) :: GW) ({ frames := 0, cells := 0, slots := 0, locals := 0 }) (va_Pc [.ref o, .int p1] (CP D Y Z (MW Y o a I J F G) sz)) (QG (S := Int32) (fun u => some (.int u)) (fun u => ((u.toInt = 1 ∧ p1.toInt < (I 3).toInt ∧ 97 ≤ ((F 2) p1.toNatClampNeg).toInt ∧ ((F 2) p1.toNatClampNeg).toInt ≤ 122) ∨ (u.toInt = 0 ∧ ¬ (p1.toInt < (I 3).toInt ∧ 97 ≤ ((F 2) p1.toNatClampNeg).toInt ∧ ((F 2) p1.toNatClampNeg).toInt ≤ 122))) ∧ (0 ≤ u.toInt ∧ u.toInt ≤ 1)) (fun u => CB D (MW Y o a I J F G) (va_A (MW Y o a I J F G) sz)) (va_A (MW Y o a I J F G) sz)) 0 0 (va_A (MW Y o a I J F G) sz) := by
  refine Met.ofW (cc := cX11_isLetter) (maxL := 2) (ret := (some .boolean)) (by decide) rfl ?_
  intro p e s m args below meth c s₁ B hml hv
  obtain ⟨rfl, hsz, hP, hKN, hD0⟩ := hv
  have hx := B.exec
  have hb := B.bytes
  have hr := B.returns
  have hts := atoms_spec (ws := .code yX11_isLetter cX11_isLetter 2 (some .boolean) :: GW) B.pre
  have hg : ∀ w ∈ GW, w.before _ s = true := fun w h => hts w (List.mem_cons_of_mem _ h)
  have hown : s.vm.findClass RX11 = some m.cls := findClass_of_methodNamed B.named
  have hlocks := B.notSynchronized
  subst hsz
  have hD := hD0.self (sz := s.heap.size)
  generalize hAe : va_A (MW Y o a I J F G) s.heap.size = A at hD ⊢
  have hA : ∀ q : Nat, s.heap.size ≤ q → A q := fun q h => by rw [← hAe]; exact Or.inr h
  clear hAe hD0 hts B
  have hl := lv_entry ([.ref o, .int p1]) (n := 2) (Nat.le_of_ble_eq_true rfl)
  rw [lg_entry_eq]
  generalize (lg_sl ([.ref o, .int p1]) ++ List.replicate (2 - (lg_sl ([.ref o, .int p1])).length) Slot.unset).toArray = ls at hl ⊢
  have hl : lv_has ls 2 [(0, .ref o), (1, .int p1)] := hl
  refine w_start (A0 := A) hP (fun H locs hP hS => ?_)
  refine lv_iload_n hx hb dX11_isLetter_0 rfl (lv_at hl 1 rfl) ?_
  refine lv_aload_n hx hb dX11_isLetter_1 rfl (lv_at hl 0 rfl) ?_
  refine va_get (D := D) (ci := 11) (v := .int (I 3)) (C := RX11) (T := TX11) (N := 49) hx hb hg inGX11 hown hKN.1 hP 0 rfl rfl 3 (by decide) (hg _ kw_1211) (fun _ h9 => h9) rfl dX11_isLetter_2 ?_
  refine lv_icmp_ge (tgt := 34) hx hb dX11_isLetter_5 (by decide) (fun c8 => ?_) (fun c8 => ?_)
  · skip
    have c8 := i_le (Eq.refl (I 3).toInt) (Eq.refl p1.toInt) c8
    refine lv_iconst (v := 0) hx hb dX11_isLetter_34 (by decide) ?_
    refine W.widen (k := 0) (n := 0) (Nat.le_of_ble_eq_true rfl) (Nat.le_of_ble_eq_true rfl) ?_
    have zi0 : (0 : Int32).toInt = 0 := by decide
    exact W.zret (v := 0) hx hb hr (by decide) (fun t ht hW => ⟨⟨0, rfl, ⟨(show (((0 : Int32).toInt = 1 ∧ p1.toInt < (I 3).toInt ∧ 97 ≤ ((F 2) p1.toNatClampNeg).toInt ∧ ((F 2) p1.toNatClampNeg).toInt ≤ 122) ∨ ((0 : Int32).toInt = 0 ∧ ¬ (p1.toInt < (I 3).toInt ∧ 97 ≤ ((F 2) p1.toNatClampNeg).toInt ∧ ((F 2) p1.toNatClampNeg).toInt ≤ 122))) by omega), (show (0 ≤ (0 : Int32).toInt ∧ (0 : Int32).toInt ≤ 1) by omega)⟩, CB.mk ht hP hD⟩, hS.F ht⟩) hS.2.2 dX11_isLetter_35
  · skip
    have c8 := i_nle (Eq.refl (I 3).toInt) (Eq.refl p1.toInt) c8
    refine lv_aload_n hx hb dX11_isLetter_8 rfl (lv_at hl 0 rfl) ?_
    refine va_get (D := D) (ci := 11) (v := .ref (a 2)) (C := RX11) (T := TX11) (N := 49) hx hb hg inGX11 hown hKN.1 hP 0 rfl rfl 2 (by decide) (hg _ kw_1210) (fun _ h9 => h9) rfl dX11_isLetter_9 ?_
    refine lv_iload_n hx hb dX11_isLetter_12 rfl (lv_at hl 1 rfl) ?_
    refine va_bald hx hb hKN.1 hP 3 2 rfl rfl (vp_in_iff.mpr ⟨by omega, by omega⟩) dX11_isLetter_13 ?_
    refine lv_topi (fun v9 ev9 => ?_)
    have ev9 : v9 = (F 2) p1.toNatClampNeg := ev9
    have qv9 := congrArg Int32.toInt ev9
    refine lv_bipush (v := 97) hx hb dX11_isLetter_14 (by decide) ?_
    have j15 := rgI v9
    refine lv_icmp_lt (tgt := 34) hx hb dX11_isLetter_16 (by decide) (fun c16 => ?_) (fun c16 => ?_)
    · skip
      have c16 := i_lt (Eq.refl v9.toInt) (show (97 : Int32).toInt = 97 by decide) c16
      refine lv_iconst (v := 0) hx hb dX11_isLetter_34 (by decide) ?_
      refine W.widen (k := 0) (n := 0) (Nat.le_of_ble_eq_true rfl) (Nat.le_of_ble_eq_true rfl) ?_
      have zi0 : (0 : Int32).toInt = 0 := by decide
      exact W.zret (v := 0) hx hb hr (by decide) (fun t ht hW => ⟨⟨0, rfl, ⟨(show (((0 : Int32).toInt = 1 ∧ p1.toInt < (I 3).toInt ∧ 97 ≤ ((F 2) p1.toNatClampNeg).toInt ∧ ((F 2) p1.toNatClampNeg).toInt ≤ 122) ∨ ((0 : Int32).toInt = 0 ∧ ¬ (p1.toInt < (I 3).toInt ∧ 97 ≤ ((F 2) p1.toNatClampNeg).toInt ∧ ((F 2) p1.toNatClampNeg).toInt ≤ 122))) by omega), (show (0 ≤ (0 : Int32).toInt ∧ (0 : Int32).toInt ≤ 1) by omega)⟩, CB.mk ht hP hD⟩, hS.F ht⟩) hS.2.2 dX11_isLetter_35
    · skip
      have c16 := i_nlt (Eq.refl v9.toInt) (show (97 : Int32).toInt = 97 by decide) c16
      refine lv_aload_n hx hb dX11_isLetter_19 rfl (lv_at hl 0 rfl) ?_
      refine va_get (D := D) (ci := 11) (v := .ref (a 2)) (C := RX11) (T := TX11) (N := 49) hx hb hg inGX11 hown hKN.1 hP 0 rfl rfl 2 (by decide) (hg _ kw_1210) (fun _ h9 => h9) rfl dX11_isLetter_20 ?_
      refine lv_iload_n hx hb dX11_isLetter_23 rfl (lv_at hl 1 rfl) ?_
      refine va_bald hx hb hKN.1 hP 3 2 rfl rfl (vp_in_iff.mpr ⟨by omega, by omega⟩) dX11_isLetter_24 ?_
      refine lv_topi (fun v17 ev17 => ?_)
      have ev17 : v17 = (F 2) p1.toNatClampNeg := ev17
      have qv17 := congrArg Int32.toInt ev17
      refine lv_bipush (v := 122) hx hb dX11_isLetter_25 (by decide) ?_
      have j20 := rgI v17
      refine lv_icmp_gt (tgt := 34) hx hb dX11_isLetter_27 (by decide) (fun c21 => ?_) (fun c21 => ?_)
      · skip
        have c21 := i_lt (show (122 : Int32).toInt = 122 by decide) (Eq.refl v17.toInt) c21
        refine lv_iconst (v := 0) hx hb dX11_isLetter_34 (by decide) ?_
        refine W.widen (k := 0) (n := 0) (Nat.le_of_ble_eq_true rfl) (Nat.le_of_ble_eq_true rfl) ?_
        have zi0 : (0 : Int32).toInt = 0 := by decide
        exact W.zret (v := 0) hx hb hr (by decide) (fun t ht hW => ⟨⟨0, rfl, ⟨(show (((0 : Int32).toInt = 1 ∧ p1.toInt < (I 3).toInt ∧ 97 ≤ ((F 2) p1.toNatClampNeg).toInt ∧ ((F 2) p1.toNatClampNeg).toInt ≤ 122) ∨ ((0 : Int32).toInt = 0 ∧ ¬ (p1.toInt < (I 3).toInt ∧ 97 ≤ ((F 2) p1.toNatClampNeg).toInt ∧ ((F 2) p1.toNatClampNeg).toInt ≤ 122))) by omega), (show (0 ≤ (0 : Int32).toInt ∧ (0 : Int32).toInt ≤ 1) by omega)⟩, CB.mk ht hP hD⟩, hS.F ht⟩) hS.2.2 dX11_isLetter_35
      · skip
        have c21 := i_nlt (show (122 : Int32).toInt = 122 by decide) (Eq.refl v17.toInt) c21
        refine lv_iconst (v := 1) hx hb dX11_isLetter_30 (by decide) ?_
        refine lv_goto (tgt := 35) hx hb dX11_isLetter_31 (by decide) ?_
        refine W.widen (k := 0) (n := 0) (Nat.le_of_ble_eq_true rfl) (Nat.le_of_ble_eq_true rfl) ?_
        have zi1 : (1 : Int32).toInt = 1 := by decide
        exact W.zret (v := 1) hx hb hr (by decide) (fun t ht hW => ⟨⟨1, rfl, ⟨(show (((1 : Int32).toInt = 1 ∧ p1.toInt < (I 3).toInt ∧ 97 ≤ ((F 2) p1.toNatClampNeg).toInt ∧ ((F 2) p1.toNatClampNeg).toInt ≤ 122) ∨ ((1 : Int32).toInt = 0 ∧ ¬ (p1.toInt < (I 3).toInt ∧ 97 ≤ ((F 2) p1.toNatClampNeg).toInt ∧ ((F 2) p1.toNatClampNeg).toInt ≤ 122))) by omega), (show (0 ≤ (1 : Int32).toInt ∧ (1 : Int32).toInt ≤ 1) by omega)⟩, CB.mk ht hP hD⟩, hS.F ht⟩) hS.2.2 dX11_isLetter_35
set_option maxHeartbeats 4000000 in
set_option maxRecDepth 100000 in
theorem m_isWord (l : Launch) (D : va_G) (Y : Nat → ClassId) (Z : Nat → Nat) (sz : Nat) (o : Nat) (a : Nat → Nat) (I : Nat → Int32) (J : Nat → Int64) (F : Nat → Nat → Int32) (G : Nat → Nat → Int64) (p1 : Int64) (hk_0 : (0 ≤ (I 16).toInt ∧ (I 16).toInt ≤ 400)) (hk_1 : (0 ≤ (I 3).toInt ∧ (I 3).toInt ≤ 400)) (hk_2 : ((I 16).toInt ≤ (I 3).toInt)) : Met l yX11_isWord (.code yX11_isWord cX11_isWord 6 (some .boolean) :: GW) ({ frames := 1, cells := 0, slots := 0, locals := 21 }) (va_Pc [.ref o, .long p1] (CP D Y Z (MW Y o a I J F G) sz)) (QG (S := Int32 × Int32) (fun u => some (.int u.1)) (fun u => (0 ≤ u.2.toInt ∧ u.2.toInt ≤ 400) ∧ ((I 16).toInt ≤ u.2.toInt) ∧ (u.2.toInt ≤ (I 3).toInt) ∧ (0 ≤ u.1.toInt ∧ u.1.toInt ≤ 1) ∧ (u.1.toInt = 1 → (u.2.toInt < (I 3).toInt ∧ 97 ≤ ((F 2) u.2.toNatClampNeg).toInt ∧ ((F 2) u.2.toNatClampNeg).toInt ≤ 122)) ∧ (((I 16).toInt < (I 3).toInt ∧ ((F 2) (I 16).toNatClampNeg).toInt ≠ 32) → u.2.toInt = (I 16).toInt)) (fun u => CB D (MW Y o a (upd I 16 u.2) J F G) (va_A (MW Y o a I J F G) sz)) (va_A (MW Y o a I J F G) sz)) 0 0 (va_A (MW Y o a I J F G) sz) := by
  refine Met.ofW (cc := cX11_isWord) (maxL := 6) (ret := (some .boolean)) (by decide) rfl ?_
  intro p e s m args below meth c s₁ B hml hv
  obtain ⟨rfl, hsz, hP, hKN, hD0⟩ := hv
  have hx := B.exec
  have hb := B.bytes
  have hr := B.returns
  have hts := atoms_spec (ws := .code yX11_isWord cX11_isWord 6 (some .boolean) :: GW) B.pre
  have hg : ∀ w ∈ GW, w.before _ s = true := fun w h => hts w (List.mem_cons_of_mem _ h)
  have hown : s.vm.findClass RX11 = some m.cls := findClass_of_methodNamed B.named
  have hlocks := B.notSynchronized
  subst hsz
  have hD := hD0.self (sz := s.heap.size)
  generalize hAe : va_A (MW Y o a I J F G) s.heap.size = A at hD ⊢
  have hA : ∀ q : Nat, s.heap.size ≤ q → A q := fun q h => by rw [← hAe]; exact Or.inr h
  clear hAe hD0 hts B
  have hl := lv_entry ([.ref o, .long p1]) (n := 6) (Nat.le_of_ble_eq_true rfl)
  rw [lg_entry_eq]
  generalize (lg_sl ([.ref o, .long p1]) ++ List.replicate (6 - (lg_sl ([.ref o, .long p1])).length) Slot.unset).toArray = ls at hl ⊢
  have hl : lv_has ls 6 [(0, .ref o), (1, .long p1)] := hl
  refine w_start (A0 := A) hP (fun H locs hP hS => ?_)
  refine lv_aload_n hx hb dX11_isWord_0 rfl (lv_at hl 0 rfl) ?_
  refine cga (rn_V (As := []) (rest := []) (b := o) (m_see l D Y Z H.size o a I J F G   (show (0 ≤ (I 16).toInt ∧ (I 16).toInt ≤ 400) by omega) (show (0 ≤ (I 3).toInt ∧ (I 3).toInt ≤ 400) by omega) (show ((I 16).toInt ≤ (I 3).toInt) by omega)) ⟨hx, hb, hml, hown, hg⟩ lk_X11_183 ⟨CP.blind, va_recv hKN.1 hP (ci := 11) (q0 := 0) rfl rfl, CP.at hP hKN hD⟩ ⟨⟨rfl, rfl⟩, ⟨Nat.le_of_ble_eq_true rfl, Nat.le_of_ble_eq_true rfl⟩, ⟨Nat.le_of_ble_eq_true rfl, Nat.le_of_ble_eq_true rfl⟩⟩ hl.1 rfl (Nat.le_of_ble_eq_true rfl) dX11_isWord_1) hP hD hS hA (fun u1 H locs w2 hP hD hS => ?_)
  obtain ⟨u3, u4⟩ := u1
  have w2 : (0 ≤ u4.toInt ∧ u4.toInt ≤ 400) ∧ ((I 16).toInt ≤ u4.toInt) ∧ (u4.toInt ≤ (I 3).toInt) ∧ ((u3.toInt = -1 ∧ u4.toInt = (I 3).toInt) ∨ (0 ≤ u3.toInt ∧ u3.toInt ≤ 255 ∧ u4.toInt < (I 3).toInt ∧ ((F 2) u4.toNatClampNeg).toInt ≠ 32)) ∧ (-1 ≤ u3.toInt ∧ u3.toInt ≤ 255) ∧ (((I 16).toInt < (I 3).toInt ∧ ((F 2) (I 16).toNatClampNeg).toInt ≠ 32) → u4.toInt = (I 16).toInt) := w2
  obtain ⟨hw5, hw6, hw7, hw8, hw9, hw10⟩ := w2
  refine W.eq (g2 := F0 m 4 ls [.int u3]) rfl ?_
  have hP : va_P D vwCl (MW Y o a (upd I 16 u4) J F G) H := hP
  have hD : va_D A (MW Y o a (upd I 16 u4) J F G) := hD
  refine lv_pop hx hb dX11_isWord_4 rfl ?_
  refine lv_lconst (v := 0) hx hb dX11_isWord_5 (by decide) ?_
  refine lv_lstore_n (lv' := [(3, .long 0), (0, .ref o), (1, .long p1)]) hx hb dX11_isWord_6 rfl hl (by decide) rfl (fun ls hl => ?_)
  refine lv_iconst (v := 0) hx hb dX11_isWord_7 (by decide) ?_
  refine lv_istore (lv' := [(5, .int 0), (3, .long 0), (0, .ref o), (1, .long p1)]) hx hb dX11_isWord_8 hl (by decide) rfl (fun ls hl => ?_)
  have zi0 : (0 : Int32).toInt = 0 := by decide
  have zl0 : (0 : Int64).toInt = 0 := by decide
  refine w_loop (σ := Int32 × Int64) (fun xx H locs ls => match xx with | (g50, g51) => va_P D vwCl (MW Y o a (upd I 16 u4) J F G) H ∧ va_D A (MW Y o a (upd I 16 u4) J F G) ∧ va_S A s.heap H locs ∧ lv_has ls 6 [(5, .int g50), (3, .long g51), (0, .ref o), (1, .long p1)] ∧ (0 ≤ g50.toInt ∧ g50.toInt ≤ 400) ∧ (u4.toInt + g50.toInt ≤ (I 3).toInt) ∧ (g50.toInt = 0 ∨ (97 ≤ ((F 2) u4.toNatClampNeg).toInt ∧ ((F 2) u4.toNatClampNeg).toInt ≤ 122 ∧ u4.toInt < (I 3).toInt))) (fun xx => match xx with | (g50, g51) => (400 - g50.toInt).toNat) (0, 0) ⟨hP, hD, hS, lv_sub hl [0, 1, 2, 3] rfl, by omega, by omega, by omega⟩ (fun xx H locs ls hI ih => ?_)
  obtain ⟨g50, g51⟩ := xx
  obtain ⟨hP, hD, hS, hl, hq97, hq98, hq99⟩ := hI
  have ih100 := ih
  refine lv_aload_n hx hb dX11_isWord_10 rfl (lv_at hl 2 rfl) ?_
  refine lv_aload_n hx hb dX11_isWord_11 rfl (lv_at hl 2 rfl) ?_
  refine va_get (D := D) (ci := 11) (v := .int u4) (C := RX11) (T := TX11) (N := 49) hx hb hg inGX11 hown hKN.1 hP 0 rfl rfl 16 (by decide) (hg _ kw_1224) (fun _ h9 => h9) rfl dX11_isWord_12 ?_
  refine lv_iload hx hb dX11_isWord_15 (lv_at hl 0 rfl) ?_
  refine lv_iadd hx hb dX11_isWord_17 ?_
  refine lv_topi (fun v101 ev101 => ?_)
  have hv101 := i_add (Eq.refl u4.toInt) (Eq.refl g50.toInt) ev101 (by omega) (by omega)
  refine cga (rn_V (As := [.int v101]) (rest := []) (b := o) (m_isLetter l D Y Z H.size o a (upd I 16 u4) J F G  v101 (show (0 ≤ v101.toInt ∧ v101.toInt ≤ 800) by omega) (show (0 ≤ (I 3).toInt ∧ (I 3).toInt ≤ 400) by omega)) ⟨hx, hb, hml, hown, hg⟩ lk_X11_187 ⟨CP.blind, va_recv hKN.1 hP (ci := 11) (q0 := 0) rfl rfl, CP.at hP hKN hD⟩ ⟨⟨rfl, rfl⟩, ⟨Nat.le_of_ble_eq_true rfl, Nat.le_of_ble_eq_true rfl⟩, ⟨Nat.le_of_ble_eq_true rfl, Nat.le_of_ble_eq_true rfl⟩⟩ hl.1 rfl (Nat.le_of_ble_eq_true rfl) dX11_isWord_18) hP hD hS hA (fun u102 H locs w103 hP hD hS => ?_)
  have w103 : ((u102.toInt = 1 ∧ v101.toInt < (I 3).toInt ∧ 97 ≤ ((F 2) v101.toNatClampNeg).toInt ∧ ((F 2) v101.toNatClampNeg).toInt ≤ 122) ∨ (u102.toInt = 0 ∧ ¬ (v101.toInt < (I 3).toInt ∧ 97 ≤ ((F 2) v101.toNatClampNeg).toInt ∧ ((F 2) v101.toNatClampNeg).toInt ≤ 122))) ∧ (0 ≤ u102.toInt ∧ u102.toInt ≤ 1) := w103
  obtain ⟨hw105, hw106⟩ := w103
  refine W.eq (g2 := F0 m 21 ls [.int u102]) rfl ?_
  have hP : va_P D vwCl (MW Y o a (upd I 16 u4) J F G) H := hP
  have hD : va_D A (MW Y o a (upd I 16 u4) J F G) := hD
  rcases (show u102.toInt = 1 ∨ u102.toInt = 0 by omega) with c107 | c107
  · obtain rfl : u102 = 1 := i_is c107 (by decide)
    have zi1 : (1 : Int32).toInt = 1 := by decide
    refine W.eq (g2 := F0 m 21 ls [.int 1]) rfl ?_
    refine lv_if_eq (tgt := 56) hx hb dX11_isWord_21 (by decide) (fun c127 => ?_) (fun c127 => ?_)
    · exact absurd c127 (by decide)
    have t128 : v101.toInt = u4.toInt → ((F 2) v101.toNatClampNeg).toInt = ((F 2) u4.toNatClampNeg).toInt := fun h => by rw [Int32.toInt_inj.mp h]
    refine lv_iload hx hb dX11_isWord_24 (lv_at hl 0 rfl) ?_
    refine lv_bipush (v := 8) hx hb dX11_isWord_26 (by decide) ?_
    refine w_join (σ := Int64) (pcJ := 50) (kJ := 0) (nJ := 0) (stk := fun xx => match xx with | g136 => []) (fun xx H locs ls => match xx with | g136 => va_P D vwCl (MW Y o a (upd I 16 u4) J F G) H ∧ va_D A (MW Y o a (upd I 16 u4) J F G) ∧ va_S A s.heap H locs ∧ lv_has ls 6 [(5, .int g50), (3, .long g136), (0, .ref o), (1, .long p1)]) (fun xx H locs ls hI => ?_) (fun jn137 => ?_)
    · skip
      revert hI
      generalize xx = g136
      intro hI
      obtain ⟨hP, hD, hS, hl⟩ := hI
      refine W.eq (g2 := F0 m 50 ls []) rfl ?_
      obtain ⟨v138, ev138⟩ : ∃ y : Int32, y = g50 + 1 := ⟨_, rfl⟩
      have hv138 := i_add (Eq.refl g50.toInt) (show (1 : Int32).toInt = 1 by decide) ev138 (by omega) (by omega)
      refine lv_iinc (v := v138) (lv' := [(5, .int v138), (3, .long g136), (0, .ref o), (1, .long p1)]) hx hb dX11_isWord_50 hl (k := 0) rfl (by rw [ev138]; rfl) (by decide) rfl (fun ls hl => ?_)
      refine lv_goto (tgt := 10) hx hb dX11_isWord_53 (by decide) ?_
      exact ih100 (v138, g136) H locs ls (by show (400 - v138.toInt).toNat < (400 - g50.toInt).toNat; omega) ⟨hP, hD, hS, lv_sub hl [0, 1, 2, 3] rfl, by omega, by omega, by omega⟩
    · skip
      refine lv_icmp_ge (tgt := 50) hx hb dX11_isWord_28 (by decide) (fun c139 => ?_) (fun c139 => ?_)
      · skip
        have c139 := i_le (show (8 : Int32).toInt = 8 by decide) (Eq.refl g50.toInt) c139
        refine W.widen (k := 0) (n := 0) (Nat.le_of_ble_eq_true rfl) (Nat.le_of_ble_eq_true rfl) ?_
        exact jn137 (g51) H locs ls ⟨hP, hD, hS, lv_sub hl [0, 1, 2, 3] rfl⟩
      · skip
        have c139 := i_nle (show (8 : Int32).toInt = 8 by decide) (Eq.refl g50.toInt) c139
        refine lv_lload_n hx hb dX11_isWord_31 rfl (lv_at hl 1 rfl) ?_
        refine lv_bipush (v := 8) hx hb dX11_isWord_32 (by decide) ?_
        refine lv_lshl hx hb dX11_isWord_34 rfl ?_
        refine lv_topl (fun v140 ev140 => ?_)
        refine lv_aload_n hx hb dX11_isWord_35 rfl (lv_at hl 2 rfl) ?_
        refine va_get (D := D) (ci := 11) (v := .ref (a 2)) (C := RX11) (T := TX11) (N := 49) hx hb hg inGX11 hown hKN.1 hP 0 rfl rfl 2 (by decide) (hg _ kw_1210) (fun _ h9 => h9) rfl dX11_isWord_36 ?_
        refine lv_aload_n hx hb dX11_isWord_39 rfl (lv_at hl 2 rfl) ?_
        refine va_get (D := D) (ci := 11) (v := .int u4) (C := RX11) (T := TX11) (N := 49) hx hb hg inGX11 hown hKN.1 hP 0 rfl rfl 16 (by decide) (hg _ kw_1224) (fun _ h9 => h9) rfl dX11_isWord_40 ?_
        refine lv_iload hx hb dX11_isWord_43 (lv_at hl 0 rfl) ?_
        refine lv_iadd hx hb dX11_isWord_45 ?_
        refine lv_topi (fun v141 ev141 => ?_)
        have hv141 := i_add (Eq.refl u4.toInt) (Eq.refl g50.toInt) ev141 (by omega) (by omega)
        refine va_bald hx hb hKN.1 hP 3 2 rfl rfl (vp_in_iff.mpr ⟨by omega, by omega⟩) dX11_isWord_46 ?_
        refine lv_topi (fun v142 ev142 => ?_)
        have ev142 : v142 = (F 2) v141.toNatClampNeg := ev142
        have qv142 := congrArg Int32.toInt ev142
        have j143 := rgI v142
        have j144 := Int32.toInt_toInt64 v142
        refine lv_i2l (v := v142.toInt64) hx hb dX11_isWord_47 (rfl) ?_
        refine lv_lor hx hb dX11_isWord_48 ?_
        refine lv_topl (fun v145 ev145 => ?_)
        refine lv_lstore_n (lv' := [(3, .long v145), (5, .int g50), (0, .ref o), (1, .long p1)]) hx hb dX11_isWord_49 rfl hl (by decide) rfl (fun ls hl => ?_)
        refine W.widen (k := 0) (n := 0) (Nat.le_of_ble_eq_true rfl) (Nat.le_of_ble_eq_true rfl) ?_
        exact jn137 (v145) H locs ls ⟨hP, hD, hS, lv_sub hl [1, 0, 2, 3] rfl⟩
  · obtain rfl : u102 = 0 := i_is c107 (by decide)
    have zi0 : (0 : Int32).toInt = 0 := by decide
    refine W.eq (g2 := F0 m 21 ls [.int 0]) rfl ?_
    refine lv_if_eq (tgt := 56) hx hb dX11_isWord_21 (by decide) (fun c147 => ?_) (fun c147 => ?_)
    rotate_left
    · exact absurd c147 (by decide)
    refine lv_iload hx hb dX11_isWord_56 (lv_at hl 0 rfl) ?_
    refine lv_if_le (tgt := 78) hx hb dX11_isWord_58 (by decide) (fun c151 => ?_) (fun c151 => ?_)
    · skip
      have c151 := i_le (Eq.refl g50.toInt) (show (0 : Int32).toInt = 0 by decide) c151
      refine lv_iconst (v := 0) hx hb dX11_isWord_78 (by decide) ?_
      refine W.widen (k := 0) (n := 0) (Nat.le_of_ble_eq_true rfl) (Nat.le_of_ble_eq_true rfl) ?_
      exact W.zret (v := 0) hx hb hr (by decide) (fun t ht hW => ⟨⟨(0, u4), rfl, ⟨(show (0 ≤ u4.toInt ∧ u4.toInt ≤ 400) by omega), (show ((I 16).toInt ≤ u4.toInt) by omega), (show (u4.toInt ≤ (I 3).toInt) by omega), (show (0 ≤ (0 : Int32).toInt ∧ (0 : Int32).toInt ≤ 1) by omega), (show ((0 : Int32).toInt = 1 → (u4.toInt < (I 3).toInt ∧ 97 ≤ ((F 2) u4.toNatClampNeg).toInt ∧ ((F 2) u4.toNatClampNeg).toInt ≤ 122)) by omega), (show (((I 16).toInt < (I 3).toInt ∧ ((F 2) (I 16).toNatClampNeg).toInt ≠ 32) → u4.toInt = (I 16).toInt) by omega)⟩, CB.mk ht hP hD⟩, hS.F ht⟩) hS.2.2 dX11_isWord_79
    · skip
      have c151 := i_nle (Eq.refl g50.toInt) (show (0 : Int32).toInt = 0 by decide) c151
      refine lv_iload hx hb dX11_isWord_61 (lv_at hl 0 rfl) ?_
      refine lv_bipush (v := 8) hx hb dX11_isWord_63 (by decide) ?_
      refine lv_icmp_ge (tgt := 78) hx hb dX11_isWord_65 (by decide) (fun c154 => ?_) (fun c154 => ?_)
      · skip
        have c154 := i_le (show (8 : Int32).toInt = 8 by decide) (Eq.refl g50.toInt) c154
        refine lv_iconst (v := 0) hx hb dX11_isWord_78 (by decide) ?_
        refine W.widen (k := 0) (n := 0) (Nat.le_of_ble_eq_true rfl) (Nat.le_of_ble_eq_true rfl) ?_
        exact W.zret (v := 0) hx hb hr (by decide) (fun t ht hW => ⟨⟨(0, u4), rfl, ⟨(show (0 ≤ u4.toInt ∧ u4.toInt ≤ 400) by omega), (show ((I 16).toInt ≤ u4.toInt) by omega), (show (u4.toInt ≤ (I 3).toInt) by omega), (show (0 ≤ (0 : Int32).toInt ∧ (0 : Int32).toInt ≤ 1) by omega), (show ((0 : Int32).toInt = 1 → (u4.toInt < (I 3).toInt ∧ 97 ≤ ((F 2) u4.toNatClampNeg).toInt ∧ ((F 2) u4.toNatClampNeg).toInt ≤ 122)) by omega), (show (((I 16).toInt < (I 3).toInt ∧ ((F 2) (I 16).toNatClampNeg).toInt ≠ 32) → u4.toInt = (I 16).toInt) by omega)⟩, CB.mk ht hP hD⟩, hS.F ht⟩) hS.2.2 dX11_isWord_79
      · skip
        have c154 := i_nle (show (8 : Int32).toInt = 8 by decide) (Eq.refl g50.toInt) c154
        refine lv_lload_n hx hb dX11_isWord_68 rfl (lv_at hl 1 rfl) ?_
        refine lv_lload_n hx hb dX11_isWord_69 rfl (lv_at hl 3 rfl) ?_
        refine W.lcmp hx hb dX11_isWord_70 ?_
        refine lv_if_ne (tgt := 78) hx hb dX11_isWord_71 (by decide) (fun c156 => ?_) (fun c156 => ?_)
        · skip
          have c156 := l_ne (Eq.refl g51.toInt) (Eq.refl p1.toInt) c156
          refine lv_iconst (v := 0) hx hb dX11_isWord_78 (by decide) ?_
          refine W.widen (k := 0) (n := 0) (Nat.le_of_ble_eq_true rfl) (Nat.le_of_ble_eq_true rfl) ?_
          exact W.zret (v := 0) hx hb hr (by decide) (fun t ht hW => ⟨⟨(0, u4), rfl, ⟨(show (0 ≤ u4.toInt ∧ u4.toInt ≤ 400) by omega), (show ((I 16).toInt ≤ u4.toInt) by omega), (show (u4.toInt ≤ (I 3).toInt) by omega), (show (0 ≤ (0 : Int32).toInt ∧ (0 : Int32).toInt ≤ 1) by omega), (show ((0 : Int32).toInt = 1 → (u4.toInt < (I 3).toInt ∧ 97 ≤ ((F 2) u4.toNatClampNeg).toInt ∧ ((F 2) u4.toNatClampNeg).toInt ≤ 122)) by omega), (show (((I 16).toInt < (I 3).toInt ∧ ((F 2) (I 16).toNatClampNeg).toInt ≠ 32) → u4.toInt = (I 16).toInt) by omega)⟩, CB.mk ht hP hD⟩, hS.F ht⟩) hS.2.2 dX11_isWord_79
        · skip
          have c156 := l_eq (Eq.refl g51.toInt) (Eq.refl p1.toInt) c156
          refine lv_iconst (v := 1) hx hb dX11_isWord_74 (by decide) ?_
          refine lv_goto (tgt := 79) hx hb dX11_isWord_75 (by decide) ?_
          refine W.widen (k := 0) (n := 0) (Nat.le_of_ble_eq_true rfl) (Nat.le_of_ble_eq_true rfl) ?_
          have zi1 : (1 : Int32).toInt = 1 := by decide
          exact W.zret (v := 1) hx hb hr (by decide) (fun t ht hW => ⟨⟨(1, u4), rfl, ⟨(show (0 ≤ u4.toInt ∧ u4.toInt ≤ 400) by omega), (show ((I 16).toInt ≤ u4.toInt) by omega), (show (u4.toInt ≤ (I 3).toInt) by omega), (show (0 ≤ (1 : Int32).toInt ∧ (1 : Int32).toInt ≤ 1) by omega), (show ((1 : Int32).toInt = 1 → (u4.toInt < (I 3).toInt ∧ 97 ≤ ((F 2) u4.toNatClampNeg).toInt ∧ ((F 2) u4.toNatClampNeg).toInt ≤ 122)) by omega), (show (((I 16).toInt < (I 3).toInt ∧ ((F 2) (I 16).toNatClampNeg).toInt ≠ 32) → u4.toInt = (I 16).toInt) by omega)⟩, CB.mk ht hP hD⟩, hS.F ht⟩) hS.2.2 dX11_isWord_79
set_option maxHeartbeats 4000000 in
set_option maxRecDepth 100000 in
theorem m_passWord (l : Launch) (D : va_G) (Y : Nat → ClassId) (Z : Nat → Nat) (sz : Nat) (o : Nat) (a : Nat → Nat) (I : Nat → Int32) (J : Nat → Int64) (F : Nat → Nat → Int32) (G : Nat → Nat → Int64) (hk_0 : (0 ≤ (I 16).toInt ∧ (I 16).toInt ≤ 400)) (hk_1 : (0 ≤ (I 3).toInt ∧ (I 3).toInt ≤ 400)) (hk_2 : ((I 16).toInt ≤ (I 3).toInt)) : Met l yX11_passWord (.code yX11_passWord cX11_passWord 1 none :: GW) ({ frames := 1, cells := 0, slots := 0, locals := 21 }) (va_Pc [.ref o] (CP D Y Z (MW Y o a I J F G) sz)) (QG (S := Int32) (fun _ => none) (fun u => (0 ≤ u.toInt ∧ u.toInt ≤ 400) ∧ ((I 16).toInt ≤ u.toInt) ∧ (u.toInt ≤ (I 3).toInt) ∧ ((97 ≤ ((F 2) (I 16).toNatClampNeg).toInt ∧ ((F 2) (I 16).toNatClampNeg).toInt ≤ 122 ∧ (I 16).toInt < (I 3).toInt) → (I 16).toInt + 1 ≤ u.toInt)) (fun u => CB D (MW Y o a (upd I 16 u) J F G) (va_A (MW Y o a I J F G) sz)) (va_A (MW Y o a I J F G) sz)) 0 0 (va_A (MW Y o a I J F G) sz) := by
  refine Met.ofW (cc := cX11_passWord) (maxL := 1) (ret := none) (by decide) rfl ?_
  intro p e s m args below meth c s₁ B hml hv
  obtain ⟨rfl, hsz, hP, hKN, hD0⟩ := hv
  have hx := B.exec
  have hb := B.bytes
  have hr := B.returns
  have hts := atoms_spec (ws := .code yX11_passWord cX11_passWord 1 none :: GW) B.pre
  have hg : ∀ w ∈ GW, w.before _ s = true := fun w h => hts w (List.mem_cons_of_mem _ h)
  have hown : s.vm.findClass RX11 = some m.cls := findClass_of_methodNamed B.named
  have hlocks := B.notSynchronized
  subst hsz
  have hD := hD0.self (sz := s.heap.size)
  generalize hAe : va_A (MW Y o a I J F G) s.heap.size = A at hD ⊢
  have hA : ∀ q : Nat, s.heap.size ≤ q → A q := fun q h => by rw [← hAe]; exact Or.inr h
  clear hAe hD0 hts B
  have hl := lv_entry ([.ref o]) (n := 1) (Nat.le_of_ble_eq_true rfl)
  rw [lg_entry_eq]
  generalize (lg_sl ([.ref o]) ++ List.replicate (1 - (lg_sl ([.ref o])).length) Slot.unset).toArray = ls at hl ⊢
  have hl : lv_has ls 1 [(0, .ref o)] := hl
  refine w_start (A0 := A) hP (fun H locs hP hS => ?_)
  refine w_loop (σ := Int32) (fun xx H locs ls => match xx with | g11 => va_P D vwCl (MW Y o a (upd I 16 g11) J F G) H ∧ va_D A (MW Y o a (upd I 16 g11) J F G) ∧ va_S A s.heap H locs ∧ lv_has ls 1 [(0, .ref o)] ∧ (0 ≤ g11.toInt ∧ g11.toInt ≤ 400) ∧ (g11.toInt ≤ (I 3).toInt) ∧ ((I 16).toInt ≤ g11.toInt)) (fun xx => match xx with | g11 => (400 - g11.toInt).toNat) ((I 16)) ⟨hP, hD, hS, lv_sub hl [0] rfl, by omega, by omega, by omega⟩ (fun xx H locs ls hI ih => ?_)
  revert hI ih
  generalize xx = g11
  intro hI ih
  obtain ⟨hP, hD, hS, hl, hq22, hq23, hq24⟩ := hI
  have ih25 := ih
  refine lv_aload_n hx hb dX11_passWord_0 rfl (lv_at hl 0 rfl) ?_
  refine lv_aload_n hx hb dX11_passWord_1 rfl (lv_at hl 0 rfl) ?_
  refine va_get (D := D) (ci := 11) (v := .int g11) (C := RX11) (T := TX11) (N := 49) hx hb hg inGX11 hown hKN.1 hP 0 rfl rfl 16 (by decide) (hg _ kw_1224) (fun _ h9 => h9) rfl dX11_passWord_2 ?_
  refine cga (rn_V (As := [.int g11]) (rest := []) (b := o) (m_isLetter l D Y Z H.size o a (upd I 16 g11) J F G  g11 (show (0 ≤ g11.toInt ∧ g11.toInt ≤ 800) by omega) (show (0 ≤ (I 3).toInt ∧ (I 3).toInt ≤ 400) by omega)) ⟨hx, hb, hml, hown, hg⟩ lk_X11_187 ⟨CP.blind, va_recv hKN.1 hP (ci := 11) (q0 := 0) rfl rfl, CP.at hP hKN hD⟩ ⟨⟨rfl, rfl⟩, ⟨Nat.le_of_ble_eq_true rfl, Nat.le_of_ble_eq_true rfl⟩, ⟨Nat.le_of_ble_eq_true rfl, Nat.le_of_ble_eq_true rfl⟩⟩ hl.1 rfl (Nat.le_of_ble_eq_true rfl) dX11_passWord_5) hP hD hS hA (fun u26 H locs w27 hP hD hS => ?_)
  have w27 : ((u26.toInt = 1 ∧ g11.toInt < (I 3).toInt ∧ 97 ≤ ((F 2) g11.toNatClampNeg).toInt ∧ ((F 2) g11.toNatClampNeg).toInt ≤ 122) ∨ (u26.toInt = 0 ∧ ¬ (g11.toInt < (I 3).toInt ∧ 97 ≤ ((F 2) g11.toNatClampNeg).toInt ∧ ((F 2) g11.toNatClampNeg).toInt ≤ 122))) ∧ (0 ≤ u26.toInt ∧ u26.toInt ≤ 1) := w27
  obtain ⟨hw29, hw30⟩ := w27
  refine W.eq (g2 := F0 m 8 ls [.int u26]) rfl ?_
  have hP : va_P D vwCl (MW Y o a (upd I 16 g11) J F G) H := hP
  have hD : va_D A (MW Y o a (upd I 16 g11) J F G) := hD
  rcases (show u26.toInt = 1 ∨ u26.toInt = 0 by omega) with c31 | c31
  · obtain rfl : u26 = 1 := i_is c31 (by decide)
    have zi1 : (1 : Int32).toInt = 1 := by decide
    refine W.eq (g2 := F0 m 8 ls [.int 1]) rfl ?_
    refine lv_if_eq (tgt := 24) hx hb dX11_passWord_8 (by decide) (fun c32 => ?_) (fun c32 => ?_)
    · exact absurd c32 (by decide)
    refine lv_aload_n hx hb dX11_passWord_11 rfl (lv_at hl 0 rfl) ?_
    refine lv_dup hx hb dX11_passWord_12 rfl ?_
    refine va_get (D := D) (ci := 11) (v := .int g11) (C := RX11) (T := TX11) (N := 49) hx hb hg inGX11 hown hKN.1 hP 0 rfl rfl 16 (by decide) (hg _ kw_1224) (fun _ h9 => h9) rfl dX11_passWord_13 ?_
    refine lv_iconst (v := 1) hx hb dX11_passWord_16 (by decide) ?_
    refine lv_iadd hx hb dX11_passWord_17 ?_
    refine lv_topi (fun v33 ev33 => ?_)
    have hv33 := i_add (Eq.refl g11.toInt) (show (1 : Int32).toInt = 1 by decide) ev33 (by omega) (by omega)
    refine va_put (D := D) (ci := 11) (v := .int v33) (ty := .int) (C := RX11) (T := TX11) (N := 49) hx hb hg inGX11 tyX11 tyX11_ok nmX11 hown hKN.1 hP hD hS 0 rfl rfl 16 (by decide) (hg _ kw_1224) (fun _ h9 => h9) rfl (by decide +kernel) rfl rfl (Nat.le_of_ble_eq_true rfl) dX11_passWord_18 (fun H locs hP hD hS => ?_)
    have hP : va_P D vwCl (MW Y o a (upd I 16 v33) J F G) H := hP
    have hD : va_D A (MW Y o a (upd I 16 v33) J F G) := hD
    refine lv_goto (tgt := 0) hx hb dX11_passWord_21 (by decide) ?_
    exact ih25 (v33) H locs ls (by show (400 - v33.toInt).toNat < (400 - g11.toInt).toNat; omega) ⟨hP, hD, hS, lv_sub hl [0] rfl, by omega, by omega, by omega⟩
  · obtain rfl : u26 = 0 := i_is c31 (by decide)
    have zi0 : (0 : Int32).toInt = 0 := by decide
    refine W.eq (g2 := F0 m 8 ls [.int 0]) rfl ?_
    refine lv_if_eq (tgt := 24) hx hb dX11_passWord_8 (by decide) (fun c34 => ?_) (fun c34 => ?_)
    rotate_left
    · exact absurd c34 (by decide)
    have t35 : g11.toInt = (I 16).toInt → ((F 2) g11.toNatClampNeg).toInt = ((F 2) (I 16).toNatClampNeg).toInt := fun h => by rw [Int32.toInt_inj.mp h]
    refine W.widen (k := 0) (n := 0) (Nat.le_of_ble_eq_true rfl) (Nat.le_of_ble_eq_true rfl) ?_
    exact W.vret hx hb hr (fun t ht hW => ⟨⟨g11, rfl, ⟨(show (0 ≤ g11.toInt ∧ g11.toInt ≤ 400) by omega), (show ((I 16).toInt ≤ g11.toInt) by omega), (show (g11.toInt ≤ (I 3).toInt) by omega), (show ((97 ≤ ((F 2) (I 16).toNatClampNeg).toInt ∧ ((F 2) (I 16).toNatClampNeg).toInt ≤ 122 ∧ (I 16).toInt < (I 3).toInt) → (I 16).toInt + 1 ≤ g11.toInt) by omega)⟩, CB.mk ht hP hD⟩, hS.F ht⟩) hS.2.2 dX11_passWord_24
set_option maxHeartbeats 4000000 in
set_option maxRecDepth 100000 in
theorem m_takesWord (l : Launch) (D : va_G) (Y : Nat → ClassId) (Z : Nat → Nat) (sz : Nat) (o : Nat) (a : Nat → Nat) (I : Nat → Int32) (J : Nat → Int64) (F : Nat → Nat → Int32) (G : Nat → Nat → Int64) (p1 : Int64) (hk_0 : (0 ≤ (I 16).toInt ∧ (I 16).toInt ≤ 400)) (hk_1 : (0 ≤ (I 3).toInt ∧ (I 3).toInt ≤ 400)) (hk_2 : ((I 16).toInt ≤ (I 3).toInt)) : Met l yX11_takesWord (.code yX11_takesWord cX11_takesWord 3 (some .boolean) :: GW) ({ frames := 2, cells := 0, slots := 0, locals := 46 }) (va_Pc [.ref o, .long p1] (CP D Y Z (MW Y o a I J F G) sz)) (QG (S := Int32 × Int32) (fun u => some (.int u.1)) (fun u => (0 ≤ u.2.toInt ∧ u.2.toInt ≤ 400) ∧ ((I 16).toInt ≤ u.2.toInt) ∧ (u.2.toInt ≤ (I 3).toInt) ∧ (0 ≤ u.1.toInt ∧ u.1.toInt ≤ 1)) (fun u => CB D (MW Y o a (upd I 16 u.2) J F G) (va_A (MW Y o a I J F G) sz)) (va_A (MW Y o a I J F G) sz)) 0 0 (va_A (MW Y o a I J F G) sz) := by
  refine Met.ofW (cc := cX11_takesWord) (maxL := 3) (ret := (some .boolean)) (by decide) rfl ?_
  intro p e s m args below meth c s₁ B hml hv
  obtain ⟨rfl, hsz, hP, hKN, hD0⟩ := hv
  have hx := B.exec
  have hb := B.bytes
  have hr := B.returns
  have hts := atoms_spec (ws := .code yX11_takesWord cX11_takesWord 3 (some .boolean) :: GW) B.pre
  have hg : ∀ w ∈ GW, w.before _ s = true := fun w h => hts w (List.mem_cons_of_mem _ h)
  have hown : s.vm.findClass RX11 = some m.cls := findClass_of_methodNamed B.named
  have hlocks := B.notSynchronized
  subst hsz
  have hD := hD0.self (sz := s.heap.size)
  generalize hAe : va_A (MW Y o a I J F G) s.heap.size = A at hD ⊢
  have hA : ∀ q : Nat, s.heap.size ≤ q → A q := fun q h => by rw [← hAe]; exact Or.inr h
  clear hAe hD0 hts B
  have hl := lv_entry ([.ref o, .long p1]) (n := 3) (Nat.le_of_ble_eq_true rfl)
  rw [lg_entry_eq]
  generalize (lg_sl ([.ref o, .long p1]) ++ List.replicate (3 - (lg_sl ([.ref o, .long p1])).length) Slot.unset).toArray = ls at hl ⊢
  have hl : lv_has ls 3 [(0, .ref o), (1, .long p1)] := hl
  refine w_start (A0 := A) hP (fun H locs hP hS => ?_)
  refine lv_aload_n hx hb dX11_takesWord_0 rfl (lv_at hl 0 rfl) ?_
  refine lv_lload_n hx hb dX11_takesWord_1 rfl (lv_at hl 1 rfl) ?_
  refine cga (rn_V (As := [.long p1]) (rest := []) (b := o) (m_isWord l D Y Z H.size o a I J F G  p1 (show (0 ≤ (I 16).toInt ∧ (I 16).toInt ≤ 400) by omega) (show (0 ≤ (I 3).toInt ∧ (I 3).toInt ≤ 400) by omega) (show ((I 16).toInt ≤ (I 3).toInt) by omega)) ⟨hx, hb, hml, hown, hg⟩ lk_X11_190 ⟨CP.blind, va_recv hKN.1 hP (ci := 11) (q0 := 0) rfl rfl, CP.at hP hKN hD⟩ ⟨⟨rfl, rfl⟩, ⟨Nat.le_of_ble_eq_true rfl, Nat.le_of_ble_eq_true rfl⟩, ⟨Nat.le_of_ble_eq_true rfl, Nat.le_of_ble_eq_true rfl⟩⟩ hl.1 rfl (Nat.le_of_ble_eq_true rfl) dX11_takesWord_2) hP hD hS hA (fun u1 H locs w2 hP hD hS => ?_)
  obtain ⟨u3, u4⟩ := u1
  have w2 : (0 ≤ u4.toInt ∧ u4.toInt ≤ 400) ∧ ((I 16).toInt ≤ u4.toInt) ∧ (u4.toInt ≤ (I 3).toInt) ∧ (0 ≤ u3.toInt ∧ u3.toInt ≤ 1) ∧ (u3.toInt = 1 → (u4.toInt < (I 3).toInt ∧ 97 ≤ ((F 2) u4.toNatClampNeg).toInt ∧ ((F 2) u4.toNatClampNeg).toInt ≤ 122)) ∧ (((I 16).toInt < (I 3).toInt ∧ ((F 2) (I 16).toNatClampNeg).toInt ≠ 32) → u4.toInt = (I 16).toInt) := w2
  obtain ⟨hw5, hw6, hw7, hw8, hw9, hw10⟩ := w2
  refine W.eq (g2 := F0 m 5 ls [.int u3]) rfl ?_
  have hP : va_P D vwCl (MW Y o a (upd I 16 u4) J F G) H := hP
  have hD : va_D A (MW Y o a (upd I 16 u4) J F G) := hD
  rcases (show u3.toInt = 1 ∨ u3.toInt = 0 by omega) with c11 | c11
  · obtain rfl : u3 = 1 := i_is c11 (by decide)
    have zi1 : (1 : Int32).toInt = 1 := by decide
    refine W.eq (g2 := F0 m 5 ls [.int 1]) rfl ?_
    refine lv_if_ne (tgt := 10) hx hb dX11_takesWord_5 (by decide) (fun c12 => ?_) (fun c12 => ?_)
    rotate_left
    · exact absurd c12 (by decide)
    refine lv_aload_n hx hb dX11_takesWord_10 rfl (lv_at hl 0 rfl) ?_
    refine cga (rn_V (As := []) (rest := []) (b := o) (m_passWord l D Y Z H.size o a (upd I 16 u4) J F G   (show (0 ≤ u4.toInt ∧ u4.toInt ≤ 400) by omega) (show (0 ≤ (I 3).toInt ∧ (I 3).toInt ≤ 400) by omega) (show (u4.toInt ≤ (I 3).toInt) by omega)) ⟨hx, hb, hml, hown, hg⟩ lk_X11_194 ⟨CP.blind, va_recv hKN.1 hP (ci := 11) (q0 := 0) rfl rfl, CP.at hP hKN hD⟩ ⟨⟨rfl, rfl⟩, ⟨Nat.le_of_ble_eq_true rfl, Nat.le_of_ble_eq_true rfl⟩, ⟨Nat.le_of_ble_eq_true rfl, Nat.le_of_ble_eq_true rfl⟩⟩ hl.1 rfl (Nat.le_of_ble_eq_true rfl) dX11_takesWord_11) hP hD hS hA (fun u13 H locs w14 hP hD hS => ?_)
    have w14 : (0 ≤ u13.toInt ∧ u13.toInt ≤ 400) ∧ (u4.toInt ≤ u13.toInt) ∧ (u13.toInt ≤ (I 3).toInt) ∧ ((97 ≤ ((F 2) u4.toNatClampNeg).toInt ∧ ((F 2) u4.toNatClampNeg).toInt ≤ 122 ∧ u4.toInt < (I 3).toInt) → u4.toInt + 1 ≤ u13.toInt) := w14
    obtain ⟨hw16, hw17, hw18, hw19⟩ := w14
    refine W.eq (g2 := F0 m 14 ls []) rfl ?_
    have hP : va_P D vwCl (MW Y o a (upd I 16 u13) J F G) H := hP
    have hD : va_D A (MW Y o a (upd I 16 u13) J F G) := hD
    refine lv_iconst (v := 1) hx hb dX11_takesWord_14 (by decide) ?_
    refine W.widen (k := 0) (n := 0) (Nat.le_of_ble_eq_true rfl) (Nat.le_of_ble_eq_true rfl) ?_
    exact W.zret (v := 1) hx hb hr (by decide) (fun t ht hW => ⟨⟨(1, u13), rfl, ⟨(show (0 ≤ u13.toInt ∧ u13.toInt ≤ 400) by omega), (show ((I 16).toInt ≤ u13.toInt) by omega), (show (u13.toInt ≤ (I 3).toInt) by omega), (show (0 ≤ (1 : Int32).toInt ∧ (1 : Int32).toInt ≤ 1) by omega)⟩, CB.mk ht hP hD⟩, hS.F ht⟩) hS.2.2 dX11_takesWord_15
  · obtain rfl : u3 = 0 := i_is c11 (by decide)
    have zi0 : (0 : Int32).toInt = 0 := by decide
    refine W.eq (g2 := F0 m 5 ls [.int 0]) rfl ?_
    refine lv_if_ne (tgt := 10) hx hb dX11_takesWord_5 (by decide) (fun c20 => ?_) (fun c20 => ?_)
    · exact absurd c20 (by decide)
    refine lv_iconst (v := 0) hx hb dX11_takesWord_8 (by decide) ?_
    refine W.widen (k := 0) (n := 0) (Nat.le_of_ble_eq_true rfl) (Nat.le_of_ble_eq_true rfl) ?_
    exact W.zret (v := 0) hx hb hr (by decide) (fun t ht hW => ⟨⟨(0, u4), rfl, ⟨(show (0 ≤ u4.toInt ∧ u4.toInt ≤ 400) by omega), (show ((I 16).toInt ≤ u4.toInt) by omega), (show (u4.toInt ≤ (I 3).toInt) by omega), (show (0 ≤ (0 : Int32).toInt ∧ (0 : Int32).toInt ≤ 1) by omega)⟩, CB.mk ht hP hD⟩, hS.F ht⟩) hS.2.2 dX11_takesWord_9
set_option maxHeartbeats 4000000 in
set_option maxRecDepth 100000 in
theorem m_fails (l : Launch) (D : va_G) (Y : Nat → ClassId) (Z : Nat → Nat) (sz : Nat) (o : Nat) (a : Nat → Nat) (I : Nat → Int32) (J : Nat → Int64) (F : Nat → Nat → Int32) (G : Nat → Nat → Int64) (p1 : Int32) (p2 : Int32) (hk_0 : (0 ≤ p1.toInt ∧ p1.toInt ≤ 4)) (hk_1 : (0 ≤ p2.toInt ∧ p2.toInt ≤ 400)) (hk_2 : (0 ≤ (I 17).toInt ∧ (I 17).toInt ≤ 4000)) : Met l yX11_fails (.code yX11_fails cX11_fails 3 (some .boolean) :: GW) ({ frames := 0, cells := 0, slots := 0, locals := 0 }) (va_Pc [.ref o, .int p1, .int p2] (CP D Y Z (MW Y o a I J F G) sz)) (QG (S := Int32 × Int32) (fun u => some (.int u.1)) (fun u => (u.1.toInt = 0) ∧ (1 ≤ u.2.toInt ∧ u.2.toInt ≤ 4000)) (fun u => CB D (MW Y o a (upd I 17 u.2) J F G) (va_A (MW Y o a I J F G) sz)) (va_A (MW Y o a I J F G) sz)) 0 0 (va_A (MW Y o a I J F G) sz) := by
  refine Met.ofW (cc := cX11_fails) (maxL := 3) (ret := (some .boolean)) (by decide) rfl ?_
  intro p e s m args below meth c s₁ B hml hv
  obtain ⟨rfl, hsz, hP, hKN, hD0⟩ := hv
  have hx := B.exec
  have hb := B.bytes
  have hr := B.returns
  have hts := atoms_spec (ws := .code yX11_fails cX11_fails 3 (some .boolean) :: GW) B.pre
  have hg : ∀ w ∈ GW, w.before _ s = true := fun w h => hts w (List.mem_cons_of_mem _ h)
  have hown : s.vm.findClass RX11 = some m.cls := findClass_of_methodNamed B.named
  have hlocks := B.notSynchronized
  subst hsz
  have hD := hD0.self (sz := s.heap.size)
  generalize hAe : va_A (MW Y o a I J F G) s.heap.size = A at hD ⊢
  have hA : ∀ q : Nat, s.heap.size ≤ q → A q := fun q h => by rw [← hAe]; exact Or.inr h
  clear hAe hD0 hts B
  have hl := lv_entry ([.ref o, .int p1, .int p2]) (n := 3) (Nat.le_of_ble_eq_true rfl)
  rw [lg_entry_eq]
  generalize (lg_sl ([.ref o, .int p1, .int p2]) ++ List.replicate (3 - (lg_sl ([.ref o, .int p1, .int p2])).length) Slot.unset).toArray = ls at hl ⊢
  have hl : lv_has ls 3 [(0, .ref o), (1, .int p1), (2, .int p2)] := hl
  refine w_start (A0 := A) hP (fun H locs hP hS => ?_)
  refine lv_aload_n hx hb dX11_fails_0 rfl (lv_at hl 0 rfl) ?_
  refine va_get (D := D) (ci := 11) (v := .int (I 17)) (C := RX11) (T := TX11) (N := 49) hx hb hg inGX11 hown hKN.1 hP 0 rfl rfl 17 (by decide) (hg _ kw_1225) (fun _ h9 => h9) rfl dX11_fails_1 ?_
  refine w_join (σ := Int32 × Int32 × Int32) (pcJ := 19) (kJ := 0) (nJ := 0) (stk := fun xx => match xx with | (g5, g6, g7) => []) (fun xx H locs ls => match xx with | (g5, g6, g7) => va_P D vwCl (MW Y o a (upd I 17 g7) J F G) H ∧ va_D A (MW Y o a (upd I 17 g7) J F G) ∧ va_S A s.heap H locs ∧ lv_has ls 3 [(0, .ref o), (1, .int g5), (2, .int g6)] ∧ (0 ≤ g5.toInt ∧ g5.toInt ≤ 4) ∧ (0 ≤ g6.toInt ∧ g6.toInt ≤ 400) ∧ (1 ≤ g7.toInt ∧ g7.toInt ≤ 4000)) (fun xx H locs ls hI => ?_) (fun jn8 => ?_)
  · skip
    obtain ⟨g5, g6, g7⟩ := xx
    obtain ⟨hP, hD, hS, hl, hq9, hq10, hq11⟩ := hI
    refine W.eq (g2 := F0 m 19 ls []) rfl ?_
    refine lv_iconst (v := 0) hx hb dX11_fails_19 (by decide) ?_
    refine W.widen (k := 0) (n := 0) (Nat.le_of_ble_eq_true rfl) (Nat.le_of_ble_eq_true rfl) ?_
    have zi0 : (0 : Int32).toInt = 0 := by decide
    exact W.zret (v := 0) hx hb hr (by decide) (fun t ht hW => ⟨⟨(0, g7), rfl, ⟨(show ((0 : Int32).toInt = 0) by omega), (show (1 ≤ g7.toInt ∧ g7.toInt ≤ 4000) by omega)⟩, CB.mk ht hP hD⟩, hS.F ht⟩) hS.2.2 dX11_fails_20
  · skip
    refine lv_if_ne (tgt := 19) hx hb dX11_fails_4 (by decide) (fun c12 => ?_) (fun c12 => ?_)
    · skip
      have c12 := i_ne (Eq.refl (I 17).toInt) (show (0 : Int32).toInt = 0 by decide) c12
      refine W.widen (k := 0) (n := 0) (Nat.le_of_ble_eq_true rfl) (Nat.le_of_ble_eq_true rfl) ?_
      exact jn8 (p1, p2, (I 17)) H locs ls ⟨hP, hD, hS, lv_sub hl [0, 1, 2] rfl, by omega, by omega, by omega⟩
    · skip
      have c12 := i_eq (Eq.refl (I 17).toInt) (show (0 : Int32).toInt = 0 by decide) c12
      refine lv_aload_n hx hb dX11_fails_7 rfl (lv_at hl 0 rfl) ?_
      refine lv_iconst (v := 1) hx hb dX11_fails_8 (by decide) ?_
      refine lv_bipush (v := 8) hx hb dX11_fails_9 (by decide) ?_
      refine lv_iload_n hx hb dX11_fails_11 rfl (lv_at hl 2 rfl) ?_
      refine lv_imul hx hb dX11_fails_12 ?_
      refine lv_topi (fun v13 ev13 => ?_)
      have hv13 := i_mul (show (8 : Int32).toInt = 8 by decide) (Eq.refl p2.toInt) ev13 (by omega) (by omega)
      refine lv_iadd hx hb dX11_fails_13 ?_
      refine lv_topi (fun v14 ev14 => ?_)
      have hv14 := i_add (show (1 : Int32).toInt = 1 by decide) (Eq.refl v13.toInt) ev14 (by omega) (by omega)
      refine lv_iload_n hx hb dX11_fails_14 rfl (lv_at hl 1 rfl) ?_
      refine lv_iadd hx hb dX11_fails_15 ?_
      refine lv_topi (fun v15 ev15 => ?_)
      have hv15 := i_add (Eq.refl v14.toInt) (Eq.refl p1.toInt) ev15 (by omega) (by omega)
      refine va_put (D := D) (ci := 11) (v := .int v15) (ty := .int) (C := RX11) (T := TX11) (N := 49) hx hb hg inGX11 tyX11 tyX11_ok nmX11 hown hKN.1 hP hD hS 0 rfl rfl 17 (by decide) (hg _ kw_1225) (fun _ h9 => h9) rfl (by decide +kernel) rfl rfl (Nat.le_of_ble_eq_true rfl) dX11_fails_16 (fun H locs hP hD hS => ?_)
      have hP : va_P D vwCl (MW Y o a (upd I 17 v15) J F G) H := hP
      have hD : va_D A (MW Y o a (upd I 17 v15) J F G) := hD
      refine W.widen (k := 0) (n := 0) (Nat.le_of_ble_eq_true rfl) (Nat.le_of_ble_eq_true rfl) ?_
      exact jn8 (p1, p2, v15) H locs ls ⟨hP, hD, hS, lv_sub hl [0, 1, 2] rfl, by omega, by omega, by omega⟩
set_option maxHeartbeats 4000000 in
set_option maxRecDepth 100000 in
theorem m_number (l : Launch) (D : va_G) (Y : Nat → ClassId) (Z : Nat → Nat) (sz : Nat) (o : Nat) (a : Nat → Nat) (I : Nat → Int32) (J : Nat → Int64) (F : Nat → Nat → Int32) (G : Nat → Nat → Int64) (p1 : Int32) (p2 : Int32) (hk_0 : (0 ≤ (I 16).toInt ∧ (I 16).toInt ≤ 400)) (hk_1 : (0 ≤ (I 3).toInt ∧ (I 3).toInt ≤ 400)) (hk_2 : ((I 16).toInt ≤ (I 3).toInt)) (hk_3 : (0 ≤ (I 17).toInt ∧ (I 17).toInt ≤ 4000)) (hk_4 : (-1 ≤ p1.toInt ∧ p1.toInt ≤ 100000)) (hk_5 : (-1 ≤ p2.toInt ∧ p2.toInt ≤ 100000)) : Met l yX11_number (.code yX11_number cX11_number 5 (some .boolean) :: GW) ({ frames := 1, cells := 0, slots := 0, locals := 25 }) (va_Pc [.ref o, .int p1, .int p2] (CP D Y Z (MW Y o a I J F G) sz)) (QG (S := Int32 × Int32 × Int32 × Int32) (fun u => some (.int u.1)) (fun u => (0 ≤ u.2.1.toInt ∧ u.2.1.toInt ≤ 400) ∧ ((I 16).toInt ≤ u.2.1.toInt) ∧ (u.2.1.toInt ≤ (I 3).toInt) ∧ (0 ≤ u.2.2.1.toInt ∧ u.2.2.1.toInt ≤ 4000) ∧ ((u.1.toInt = 1 ∧ p1.toInt ≤ u.2.2.2.toInt ∧ u.2.2.2.toInt ≤ p2.toInt ∧ (I 16).toInt + 1 ≤ u.2.1.toInt) ∨ (u.1.toInt = 0 ∧ 1 ≤ u.2.2.1.toInt)) ∧ (0 ≤ u.1.toInt ∧ u.1.toInt ≤ 1)) (fun u => CB D (MW Y o a (upd (upd (upd I 16 u.2.1) 17 u.2.2.1) 18 u.2.2.2) J F G) (va_A (MW Y o a I J F G) sz)) (va_A (MW Y o a I J F G) sz)) 0 0 (va_A (MW Y o a I J F G) sz) := by
  refine Met.ofW (cc := cX11_number) (maxL := 5) (ret := (some .boolean)) (by decide) rfl ?_
  intro p e s m args below meth c s₁ B hml hv
  obtain ⟨rfl, hsz, hP, hKN, hD0⟩ := hv
  have hx := B.exec
  have hb := B.bytes
  have hr := B.returns
  have hts := atoms_spec (ws := .code yX11_number cX11_number 5 (some .boolean) :: GW) B.pre
  have hg : ∀ w ∈ GW, w.before _ s = true := fun w h => hts w (List.mem_cons_of_mem _ h)
  have hown : s.vm.findClass RX11 = some m.cls := findClass_of_methodNamed B.named
  have hlocks := B.notSynchronized
  subst hsz
  have hD := hD0.self (sz := s.heap.size)
  generalize hAe : va_A (MW Y o a I J F G) s.heap.size = A at hD ⊢
  have hA : ∀ q : Nat, s.heap.size ≤ q → A q := fun q h => by rw [← hAe]; exact Or.inr h
  clear hAe hD0 hts B
  have hl := lv_entry ([.ref o, .int p1, .int p2]) (n := 5) (Nat.le_of_ble_eq_true rfl)
  rw [lg_entry_eq]
  generalize (lg_sl ([.ref o, .int p1, .int p2]) ++ List.replicate (5 - (lg_sl ([.ref o, .int p1, .int p2])).length) Slot.unset).toArray = ls at hl ⊢
  have hl : lv_has ls 5 [(0, .ref o), (1, .int p1), (2, .int p2)] := hl
  refine w_start (A0 := A) hP (fun H locs hP hS => ?_)
  refine lv_aload_n hx hb dX11_number_0 rfl (lv_at hl 0 rfl) ?_
  refine cga (rn_V (As := []) (rest := []) (b := o) (m_see l D Y Z H.size o a I J F G   (show (0 ≤ (I 16).toInt ∧ (I 16).toInt ≤ 400) by omega) (show (0 ≤ (I 3).toInt ∧ (I 3).toInt ≤ 400) by omega) (show ((I 16).toInt ≤ (I 3).toInt) by omega)) ⟨hx, hb, hml, hown, hg⟩ lk_X11_183 ⟨CP.blind, va_recv hKN.1 hP (ci := 11) (q0 := 0) rfl rfl, CP.at hP hKN hD⟩ ⟨⟨rfl, rfl⟩, ⟨Nat.le_of_ble_eq_true rfl, Nat.le_of_ble_eq_true rfl⟩, ⟨Nat.le_of_ble_eq_true rfl, Nat.le_of_ble_eq_true rfl⟩⟩ hl.1 rfl (Nat.le_of_ble_eq_true rfl) dX11_number_1) hP hD hS hA (fun u1 H locs w2 hP hD hS => ?_)
  obtain ⟨u3, u4⟩ := u1
  have w2 : (0 ≤ u4.toInt ∧ u4.toInt ≤ 400) ∧ ((I 16).toInt ≤ u4.toInt) ∧ (u4.toInt ≤ (I 3).toInt) ∧ ((u3.toInt = -1 ∧ u4.toInt = (I 3).toInt) ∨ (0 ≤ u3.toInt ∧ u3.toInt ≤ 255 ∧ u4.toInt < (I 3).toInt ∧ ((F 2) u4.toNatClampNeg).toInt ≠ 32)) ∧ (-1 ≤ u3.toInt ∧ u3.toInt ≤ 255) ∧ (((I 16).toInt < (I 3).toInt ∧ ((F 2) (I 16).toNatClampNeg).toInt ≠ 32) → u4.toInt = (I 16).toInt) := w2
  obtain ⟨hw5, hw6, hw7, hw8, hw9, hw10⟩ := w2
  refine W.eq (g2 := F0 m 4 ls [.int u3]) rfl ?_
  have hP : va_P D vwCl (MW Y o a (upd I 16 u4) J F G) H := hP
  have hD : va_D A (MW Y o a (upd I 16 u4) J F G) := hD
  refine lv_pop hx hb dX11_number_4 rfl ?_
  refine lv_aload_n hx hb dX11_number_5 rfl (lv_at hl 0 rfl) ?_
  refine lv_aload_n hx hb dX11_number_6 rfl (lv_at hl 0 rfl) ?_
  refine va_get (D := D) (ci := 11) (v := .int u4) (C := RX11) (T := TX11) (N := 49) hx hb hg inGX11 hown hKN.1 hP 0 rfl rfl 16 (by decide) (hg _ kw_1224) (fun _ h9 => h9) rfl dX11_number_7 ?_
  refine cga (rn_V (As := [.int u4]) (rest := []) (b := o) (m_isDigit l D Y Z H.size o a (upd I 16 u4) J F G  u4 (show (0 ≤ u4.toInt ∧ u4.toInt ≤ 800) by omega) (show (0 ≤ (I 3).toInt ∧ (I 3).toInt ≤ 400) by omega)) ⟨hx, hb, hml, hown, hg⟩ lk_X11_197 ⟨CP.blind, va_recv hKN.1 hP (ci := 11) (q0 := 0) rfl rfl, CP.at hP hKN hD⟩ ⟨⟨rfl, rfl⟩, ⟨Nat.le_of_ble_eq_true rfl, Nat.le_of_ble_eq_true rfl⟩, ⟨Nat.le_of_ble_eq_true rfl, Nat.le_of_ble_eq_true rfl⟩⟩ hl.1 rfl (Nat.le_of_ble_eq_true rfl) dX11_number_10) hP hD hS hA (fun u11 H locs w12 hP hD hS => ?_)
  have w12 : ((u11.toInt = 1 ∧ u4.toInt < (I 3).toInt ∧ 48 ≤ ((F 2) u4.toNatClampNeg).toInt ∧ ((F 2) u4.toNatClampNeg).toInt ≤ 57) ∨ (u11.toInt = 0 ∧ ¬ (u4.toInt < (I 3).toInt ∧ 48 ≤ ((F 2) u4.toNatClampNeg).toInt ∧ ((F 2) u4.toNatClampNeg).toInt ≤ 57))) ∧ (0 ≤ u11.toInt ∧ u11.toInt ≤ 1) := w12
  obtain ⟨hw14, hw15⟩ := w12
  refine W.eq (g2 := F0 m 13 ls [.int u11]) rfl ?_
  have hP : va_P D vwCl (MW Y o a (upd I 16 u4) J F G) H := hP
  have hD : va_D A (MW Y o a (upd I 16 u4) J F G) := hD
  rcases (show u11.toInt = 1 ∨ u11.toInt = 0 by omega) with c16 | c16
  · obtain rfl : u11 = 1 := i_is c16 (by decide)
    have zi1 : (1 : Int32).toInt = 1 := by decide
    refine W.eq (g2 := F0 m 13 ls [.int 1]) rfl ?_
    refine lv_if_ne (tgt := 26) hx hb dX11_number_13 (by decide) (fun c17 => ?_) (fun c17 => ?_)
    rotate_left
    · exact absurd c17 (by decide)
    refine lv_aload_n hx hb dX11_number_26 rfl (lv_at hl 0 rfl) ?_
    refine va_get (D := D) (ci := 11) (v := .int u4) (C := RX11) (T := TX11) (N := 49) hx hb hg inGX11 hown hKN.1 hP 0 rfl rfl 16 (by decide) (hg _ kw_1224) (fun _ h9 => h9) rfl dX11_number_27 ?_
    refine lv_istore_n (lv' := [(3, .int u4), (0, .ref o), (1, .int p1), (2, .int p2)]) hx hb dX11_number_30 rfl hl (by decide) rfl (fun ls hl => ?_)
    refine lv_iconst (v := 0) hx hb dX11_number_31 (by decide) ?_
    refine lv_istore (lv' := [(4, .int 0), (3, .int u4), (0, .ref o), (1, .int p1), (2, .int p2)]) hx hb dX11_number_32 hl (by decide) rfl (fun ls hl => ?_)
    have zi0 : (0 : Int32).toInt = 0 := by decide
    refine w_loop (σ := Int32 × Int32) (fun xx H locs ls => match xx with | (g43, g44) => va_P D vwCl (MW Y o a (upd I 16 g44) J F G) H ∧ va_D A (MW Y o a (upd I 16 g44) J F G) ∧ va_S A s.heap H locs ∧ lv_has ls 5 [(4, .int g43), (3, .int u4), (0, .ref o), (1, .int p1), (2, .int p2)] ∧ (0 ≤ g44.toInt ∧ g44.toInt ≤ 400) ∧ (g44.toInt ≤ (I 3).toInt) ∧ (u4.toInt ≤ g44.toInt)) (fun xx => match xx with | (g43, g44) => (400 - g44.toInt).toNat) (0, u4) ⟨hP, hD, hS, lv_sub hl [0, 1, 2, 3, 4] rfl, by omega, by omega, by omega⟩ (fun xx H locs ls hI ih => ?_)
    obtain ⟨g43, g44⟩ := xx
    obtain ⟨hP, hD, hS, hl, hq68, hq69, hq70⟩ := hI
    have ih71 := ih
    refine lv_aload_n hx hb dX11_number_34 rfl (lv_at hl 2 rfl) ?_
    refine lv_aload_n hx hb dX11_number_35 rfl (lv_at hl 2 rfl) ?_
    refine va_get (D := D) (ci := 11) (v := .int g44) (C := RX11) (T := TX11) (N := 49) hx hb hg inGX11 hown hKN.1 hP 0 rfl rfl 16 (by decide) (hg _ kw_1224) (fun _ h9 => h9) rfl dX11_number_36 ?_
    refine cga (rn_V (As := [.int g44]) (rest := []) (b := o) (m_isDigit l D Y Z H.size o a (upd I 16 g44) J F G  g44 (show (0 ≤ g44.toInt ∧ g44.toInt ≤ 800) by omega) (show (0 ≤ (I 3).toInt ∧ (I 3).toInt ≤ 400) by omega)) ⟨hx, hb, hml, hown, hg⟩ lk_X11_197 ⟨CP.blind, va_recv hKN.1 hP (ci := 11) (q0 := 0) rfl rfl, CP.at hP hKN hD⟩ ⟨⟨rfl, rfl⟩, ⟨Nat.le_of_ble_eq_true rfl, Nat.le_of_ble_eq_true rfl⟩, ⟨Nat.le_of_ble_eq_true rfl, Nat.le_of_ble_eq_true rfl⟩⟩ hl.1 rfl (Nat.le_of_ble_eq_true rfl) dX11_number_39) hP hD hS hA (fun u72 H locs w73 hP hD hS => ?_)
    have w73 : ((u72.toInt = 1 ∧ g44.toInt < (I 3).toInt ∧ 48 ≤ ((F 2) g44.toNatClampNeg).toInt ∧ ((F 2) g44.toNatClampNeg).toInt ≤ 57) ∨ (u72.toInt = 0 ∧ ¬ (g44.toInt < (I 3).toInt ∧ 48 ≤ ((F 2) g44.toNatClampNeg).toInt ∧ ((F 2) g44.toNatClampNeg).toInt ≤ 57))) ∧ (0 ≤ u72.toInt ∧ u72.toInt ≤ 1) := w73
    obtain ⟨hw75, hw76⟩ := w73
    refine W.eq (g2 := F0 m 42 ls [.int u72]) rfl ?_
    have hP : va_P D vwCl (MW Y o a (upd I 16 g44) J F G) H := hP
    have hD : va_D A (MW Y o a (upd I 16 g44) J F G) := hD
    rcases (show u72.toInt = 1 ∨ u72.toInt = 0 by omega) with c77 | c77
    · obtain rfl : u72 = 1 := i_is c77 (by decide)
      refine W.eq (g2 := F0 m 42 ls [.int 1]) rfl ?_
      refine lv_if_eq (tgt := 88) hx hb dX11_number_42 (by decide) (fun c78 => ?_) (fun c78 => ?_)
      · exact absurd c78 (by decide)
      refine lv_aload_n hx hb dX11_number_45 rfl (lv_at hl 2 rfl) ?_
      refine va_get (D := D) (ci := 11) (v := .int g44) (C := RX11) (T := TX11) (N := 49) hx hb hg inGX11 hown hKN.1 hP 0 rfl rfl 16 (by decide) (hg _ kw_1224) (fun _ h9 => h9) rfl dX11_number_46 ?_
      refine lv_iload_n hx hb dX11_number_49 rfl (lv_at hl 1 rfl) ?_
      refine lv_isub hx hb dX11_number_50 ?_
      refine lv_topi (fun v79 ev79 => ?_)
      have hv79 := i_sub (Eq.refl g44.toInt) (Eq.refl u4.toInt) ev79 (by omega) (by omega)
      refine lv_iconst (v := 5) hx hb dX11_number_51 (by decide) ?_
      refine w_join (σ := Int32) (pcJ := 75) (kJ := 0) (nJ := 0) (stk := fun xx => match xx with | g85 => []) (fun xx H locs ls => match xx with | g85 => va_P D vwCl (MW Y o a (upd I 16 g44) J F G) H ∧ va_D A (MW Y o a (upd I 16 g44) J F G) ∧ va_S A s.heap H locs ∧ lv_has ls 5 [(4, .int g85), (3, .int u4), (0, .ref o), (1, .int p1), (2, .int p2)]) (fun xx H locs ls hI => ?_) (fun jn86 => ?_)
      · skip
        revert hI
        generalize xx = g85
        intro hI
        obtain ⟨hP, hD, hS, hl⟩ := hI
        refine W.eq (g2 := F0 m 75 ls []) rfl ?_
        refine lv_aload_n hx hb dX11_number_75 rfl (lv_at hl 2 rfl) ?_
        refine lv_dup hx hb dX11_number_76 rfl ?_
        refine va_get (D := D) (ci := 11) (v := .int g44) (C := RX11) (T := TX11) (N := 49) hx hb hg inGX11 hown hKN.1 hP 0 rfl rfl 16 (by decide) (hg _ kw_1224) (fun _ h9 => h9) rfl dX11_number_77 ?_
        refine lv_iconst (v := 1) hx hb dX11_number_80 (by decide) ?_
        refine lv_iadd hx hb dX11_number_81 ?_
        refine lv_topi (fun v87 ev87 => ?_)
        have hv87 := i_add (Eq.refl g44.toInt) (show (1 : Int32).toInt = 1 by decide) ev87 (by omega) (by omega)
        refine va_put (D := D) (ci := 11) (v := .int v87) (ty := .int) (C := RX11) (T := TX11) (N := 49) hx hb hg inGX11 tyX11 tyX11_ok nmX11 hown hKN.1 hP hD hS 0 rfl rfl 16 (by decide) (hg _ kw_1224) (fun _ h9 => h9) rfl (by decide +kernel) rfl rfl (Nat.le_of_ble_eq_true rfl) dX11_number_82 (fun H locs hP hD hS => ?_)
        have hP : va_P D vwCl (MW Y o a (upd I 16 v87) J F G) H := hP
        have hD : va_D A (MW Y o a (upd I 16 v87) J F G) := hD
        refine lv_goto (tgt := 34) hx hb dX11_number_85 (by decide) ?_
        exact ih71 (g85, v87) H locs ls (by show (400 - v87.toInt).toNat < (400 - g44.toInt).toNat; omega) ⟨hP, hD, hS, lv_sub hl [0, 1, 2, 3, 4] rfl, by omega, by omega, by omega⟩
      · skip
        refine lv_icmp_ge (tgt := 75) hx hb dX11_number_52 (by decide) (fun c88 => ?_) (fun c88 => ?_)
        · skip
          have c88 := i_le (show (5 : Int32).toInt = 5 by decide) (Eq.refl v79.toInt) c88
          refine W.widen (k := 0) (n := 0) (Nat.le_of_ble_eq_true rfl) (Nat.le_of_ble_eq_true rfl) ?_
          exact jn86 (g43) H locs ls ⟨hP, hD, hS, lv_sub hl [0, 1, 2, 3, 4] rfl⟩
        · skip
          have c88 := i_nle (show (5 : Int32).toInt = 5 by decide) (Eq.refl v79.toInt) c88
          refine lv_bipush (v := 10) hx hb dX11_number_55 (by decide) ?_
          refine lv_iload hx hb dX11_number_57 (lv_at hl 0 rfl) ?_
          refine lv_imul hx hb dX11_number_59 ?_
          refine lv_topi (fun v89 ev89 => ?_)
          refine lv_aload_n hx hb dX11_number_60 rfl (lv_at hl 2 rfl) ?_
          refine va_get (D := D) (ci := 11) (v := .ref (a 2)) (C := RX11) (T := TX11) (N := 49) hx hb hg inGX11 hown hKN.1 hP 0 rfl rfl 2 (by decide) (hg _ kw_1210) (fun _ h9 => h9) rfl dX11_number_61 ?_
          refine lv_aload_n hx hb dX11_number_64 rfl (lv_at hl 2 rfl) ?_
          refine va_get (D := D) (ci := 11) (v := .int g44) (C := RX11) (T := TX11) (N := 49) hx hb hg inGX11 hown hKN.1 hP 0 rfl rfl 16 (by decide) (hg _ kw_1224) (fun _ h9 => h9) rfl dX11_number_65 ?_
          refine va_bald hx hb hKN.1 hP 3 2 rfl rfl (vp_in_iff.mpr ⟨by omega, by omega⟩) dX11_number_68 ?_
          refine lv_topi (fun v90 ev90 => ?_)
          have ev90 : v90 = (F 2) g44.toNatClampNeg := ev90
          have qv90 := congrArg Int32.toInt ev90
          refine lv_iadd hx hb dX11_number_69 ?_
          refine lv_topi (fun v91 ev91 => ?_)
          refine lv_bipush (v := 48) hx hb dX11_number_70 (by decide) ?_
          refine lv_isub hx hb dX11_number_72 ?_
          refine lv_topi (fun v92 ev92 => ?_)
          refine lv_istore (lv' := [(4, .int v92), (3, .int u4), (0, .ref o), (1, .int p1), (2, .int p2)]) hx hb dX11_number_73 hl (by decide) rfl (fun ls hl => ?_)
          refine W.widen (k := 0) (n := 0) (Nat.le_of_ble_eq_true rfl) (Nat.le_of_ble_eq_true rfl) ?_
          exact jn86 (v92) H locs ls ⟨hP, hD, hS, lv_sub hl [0, 1, 2, 3, 4] rfl⟩
    · obtain rfl : u72 = 0 := i_is c77 (by decide)
      have zi0 : (0 : Int32).toInt = 0 := by decide
      refine W.eq (g2 := F0 m 42 ls [.int 0]) rfl ?_
      refine lv_if_eq (tgt := 88) hx hb dX11_number_42 (by decide) (fun c93 => ?_) (fun c93 => ?_)
      rotate_left
      · exact absurd c93 (by decide)
      have t94 : g44.toInt = u4.toInt → ((F 2) g44.toNatClampNeg).toInt = ((F 2) u4.toNatClampNeg).toInt := fun h => by rw [Int32.toInt_inj.mp h]
      refine lv_aload_n hx hb dX11_number_88 rfl (lv_at hl 2 rfl) ?_
      refine lv_iload hx hb dX11_number_89 (lv_at hl 0 rfl) ?_
      refine va_put (D := D) (ci := 11) (v := .int g43) (ty := .int) (C := RX11) (T := TX11) (N := 49) hx hb hg inGX11 tyX11 tyX11_ok nmX11 hown hKN.1 hP hD hS 0 rfl rfl 18 (by decide) (hg _ kw_1226) (fun _ h9 => h9) rfl (by decide +kernel) rfl rfl (Nat.le_of_ble_eq_true rfl) dX11_number_91 (fun H locs hP hD hS => ?_)
      have hP : va_P D vwCl (MW Y o a (upd (upd I 16 g44) 18 g43) J F G) H := hP
      have hD : va_D A (MW Y o a (upd (upd I 16 g44) 18 g43) J F G) := hD
      refine lv_aload_n hx hb dX11_number_94 rfl (lv_at hl 2 rfl) ?_
      refine va_get (D := D) (ci := 11) (v := .int g44) (C := RX11) (T := TX11) (N := 49) hx hb hg inGX11 hown hKN.1 hP 0 rfl rfl 16 (by decide) (hg _ kw_1224) (fun _ h9 => h9) rfl dX11_number_95 ?_
      refine lv_iload_n hx hb dX11_number_98 rfl (lv_at hl 1 rfl) ?_
      refine lv_isub hx hb dX11_number_99 ?_
      refine lv_topi (fun v95 ev95 => ?_)
      have hv95 := i_sub (Eq.refl g44.toInt) (Eq.refl u4.toInt) ev95 (by omega) (by omega)
      refine lv_iconst (v := 5) hx hb dX11_number_100 (by decide) ?_
      refine lv_icmp_gt (tgt := 117) hx hb dX11_number_101 (by decide) (fun c123 => ?_) (fun c123 => ?_)
      · skip
        have c123 := i_lt (show (5 : Int32).toInt = 5 by decide) (Eq.refl v95.toInt) c123
        refine lv_aload_n hx hb dX11_number_117 rfl (lv_at hl 2 rfl) ?_
        refine lv_iconst (v := 1) hx hb dX11_number_118 (by decide) ?_
        refine lv_iload_n hx hb dX11_number_119 rfl (lv_at hl 1 rfl) ?_
        refine cga (rn_V (As := [.int 1, .int u4]) (rest := []) (b := o) (m_fails l D Y Z H.size o a (upd (upd I 16 g44) 18 g43) J F G  1 u4 (show (0 ≤ (1 : Int32).toInt ∧ (1 : Int32).toInt ≤ 4) by omega) (show (0 ≤ u4.toInt ∧ u4.toInt ≤ 400) by omega) (show (0 ≤ (I 17).toInt ∧ (I 17).toInt ≤ 4000) by omega)) ⟨hx, hb, hml, hown, hg⟩ lk_X11_200 ⟨CP.blind, va_recv hKN.1 hP (ci := 11) (q0 := 0) rfl rfl, CP.at hP hKN hD⟩ ⟨⟨rfl, rfl⟩, ⟨Nat.le_of_ble_eq_true rfl, Nat.le_of_ble_eq_true rfl⟩, ⟨Nat.le_of_ble_eq_true rfl, Nat.le_of_ble_eq_true rfl⟩⟩ hl.1 rfl (Nat.le_of_ble_eq_true rfl) dX11_number_120) hP hD hS hA (fun u124 H locs w125 hP hD hS => ?_)
        obtain ⟨u126, u127⟩ := u124
        have w125 : (u126.toInt = 0) ∧ (1 ≤ u127.toInt ∧ u127.toInt ≤ 4000) := w125
        obtain ⟨hw128, hw129⟩ := w125
        refine W.eq (g2 := F0 m 123 ls [.int u126]) rfl ?_
        have hP : va_P D vwCl (MW Y o a (upd (upd (upd I 16 g44) 17 u127) 18 g43) J F G) H := hP
        have hD : va_D A (MW Y o a (upd (upd (upd I 16 g44) 17 u127) 18 g43) J F G) := hD
        obtain rfl : u126 = 0 := i_is (X := 0) (by omega) (by decide)
        refine W.eq (g2 := F0 m 123 ls [.int 0]) rfl ?_
        refine lv_if_eq (tgt := 130) hx hb dX11_number_123 (by decide) (fun c131 => ?_) (fun c131 => ?_)
        rotate_left
        · exact absurd c131 (by decide)
        refine lv_iconst (v := 0) hx hb dX11_number_130 (by decide) ?_
        refine W.widen (k := 0) (n := 0) (Nat.le_of_ble_eq_true rfl) (Nat.le_of_ble_eq_true rfl) ?_
        exact W.zret (v := 0) hx hb hr (by decide) (fun t ht hW => ⟨⟨(0, g44, u127, g43), rfl, ⟨(show (0 ≤ g44.toInt ∧ g44.toInt ≤ 400) by omega), (show ((I 16).toInt ≤ g44.toInt) by omega), (show (g44.toInt ≤ (I 3).toInt) by omega), (show (0 ≤ u127.toInt ∧ u127.toInt ≤ 4000) by omega), (show (((0 : Int32).toInt = 1 ∧ p1.toInt ≤ g43.toInt ∧ g43.toInt ≤ p2.toInt ∧ (I 16).toInt + 1 ≤ g44.toInt) ∨ ((0 : Int32).toInt = 0 ∧ 1 ≤ u127.toInt)) by omega), (show (0 ≤ (0 : Int32).toInt ∧ (0 : Int32).toInt ≤ 1) by omega)⟩, CB.mk ht hP hD⟩, hS.F ht⟩) hS.2.2 dX11_number_131
      · skip
        have c123 := i_nlt (show (5 : Int32).toInt = 5 by decide) (Eq.refl v95.toInt) c123
        refine lv_iload hx hb dX11_number_104 (lv_at hl 0 rfl) ?_
        have j132 := rgI g43
        have j133 := Int32.toInt_toInt64 g43
        refine lv_i2l (v := g43.toInt64) hx hb dX11_number_106 (rfl) ?_
        refine lv_iload_n hx hb dX11_number_107 rfl (lv_at hl 3 rfl) ?_
        have j134 := Int32.toInt_toInt64 p1
        refine lv_i2l (v := p1.toInt64) hx hb dX11_number_108 (rfl) ?_
        refine lv_iload_n hx hb dX11_number_109 rfl (lv_at hl 4 rfl) ?_
        have j135 := Int32.toInt_toInt64 p2
        refine lv_i2l (v := p2.toInt64) hx hb dX11_number_110 (rfl) ?_
        refine cg0 (rn_S (As := [.long g43.toInt64, .long p1.toInt64, .long p2.toInt64]) (rest := []) (m_in l D Y Z H.size   g43.toInt64 p1.toInt64 p2.toInt64 ) ⟨hx, hb, hml, hown, hg⟩ lk_X11_99 ⟨CP.blind, CP.at nilP hKN (nilD (A := fun _ => True))⟩ ⟨⟨rfl, rfl⟩, ⟨Nat.le_of_ble_eq_true rfl, Nat.le_of_ble_eq_true rfl⟩, ⟨Nat.le_of_ble_eq_true rfl, Nat.le_of_ble_eq_true rfl⟩⟩ hl.1 rfl (Nat.le_of_ble_eq_true rfl) dX11_number_111) hP hS hA (fun u136 H locs w137 hP hS => ?_)
        have w137 : ((p1.toInt64.toInt ≤ g43.toInt64.toInt ∧ g43.toInt64.toInt ≤ p2.toInt64.toInt ∧ u136.toInt = 1) ∨ (¬ (p1.toInt64.toInt ≤ g43.toInt64.toInt ∧ g43.toInt64.toInt ≤ p2.toInt64.toInt) ∧ u136.toInt = 0)) ∧ (0 ≤ u136.toInt ∧ u136.toInt ≤ 1) := w137
        obtain ⟨hw139, hw140⟩ := w137
        refine W.eq (g2 := F0 m 114 ls [.int u136]) rfl ?_
        rcases (show u136.toInt = 1 ∨ u136.toInt = 0 by omega) with c141 | c141
        · obtain rfl : u136 = 1 := i_is c141 (by decide)
          refine W.eq (g2 := F0 m 114 ls [.int 1]) rfl ?_
          refine lv_if_ne (tgt := 126) hx hb dX11_number_114 (by decide) (fun c143 => ?_) (fun c143 => ?_)
          rotate_left
          · exact absurd c143 (by decide)
          refine lv_iconst (v := 1) hx hb dX11_number_126 (by decide) ?_
          refine lv_goto (tgt := 131) hx hb dX11_number_127 (by decide) ?_
          refine W.widen (k := 0) (n := 0) (Nat.le_of_ble_eq_true rfl) (Nat.le_of_ble_eq_true rfl) ?_
          exact W.zret (v := 1) hx hb hr (by decide) (fun t ht hW => ⟨⟨(1, g44, (I 17), g43), rfl, ⟨(show (0 ≤ g44.toInt ∧ g44.toInt ≤ 400) by omega), (show ((I 16).toInt ≤ g44.toInt) by omega), (show (g44.toInt ≤ (I 3).toInt) by omega), (show (0 ≤ (I 17).toInt ∧ (I 17).toInt ≤ 4000) by omega), (show (((1 : Int32).toInt = 1 ∧ p1.toInt ≤ g43.toInt ∧ g43.toInt ≤ p2.toInt ∧ (I 16).toInt + 1 ≤ g44.toInt) ∨ ((1 : Int32).toInt = 0 ∧ 1 ≤ (I 17).toInt)) by omega), (show (0 ≤ (1 : Int32).toInt ∧ (1 : Int32).toInt ≤ 1) by omega)⟩, CB.mk ht hP hD⟩, hS.F ht⟩) hS.2.2 dX11_number_131
        · obtain rfl : u136 = 0 := i_is c141 (by decide)
          refine W.eq (g2 := F0 m 114 ls [.int 0]) rfl ?_
          refine lv_if_ne (tgt := 126) hx hb dX11_number_114 (by decide) (fun c152 => ?_) (fun c152 => ?_)
          · exact absurd c152 (by decide)
          refine lv_aload_n hx hb dX11_number_117 rfl (lv_at hl 2 rfl) ?_
          refine lv_iconst (v := 1) hx hb dX11_number_118 (by decide) ?_
          refine lv_iload_n hx hb dX11_number_119 rfl (lv_at hl 1 rfl) ?_
          refine cga (rn_V (As := [.int 1, .int u4]) (rest := []) (b := o) (m_fails l D Y Z H.size o a (upd (upd I 16 g44) 18 g43) J F G  1 u4 (show (0 ≤ (1 : Int32).toInt ∧ (1 : Int32).toInt ≤ 4) by omega) (show (0 ≤ u4.toInt ∧ u4.toInt ≤ 400) by omega) (show (0 ≤ (I 17).toInt ∧ (I 17).toInt ≤ 4000) by omega)) ⟨hx, hb, hml, hown, hg⟩ lk_X11_200 ⟨CP.blind, va_recv hKN.1 hP (ci := 11) (q0 := 0) rfl rfl, CP.at hP hKN hD⟩ ⟨⟨rfl, rfl⟩, ⟨Nat.le_of_ble_eq_true rfl, Nat.le_of_ble_eq_true rfl⟩, ⟨Nat.le_of_ble_eq_true rfl, Nat.le_of_ble_eq_true rfl⟩⟩ hl.1 rfl (Nat.le_of_ble_eq_true rfl) dX11_number_120) hP hD hS hA (fun u153 H locs w154 hP hD hS => ?_)
          obtain ⟨u155, u156⟩ := u153
          have w154 : (u155.toInt = 0) ∧ (1 ≤ u156.toInt ∧ u156.toInt ≤ 4000) := w154
          obtain ⟨hw157, hw158⟩ := w154
          refine W.eq (g2 := F0 m 123 ls [.int u155]) rfl ?_
          have hP : va_P D vwCl (MW Y o a (upd (upd (upd I 16 g44) 17 u156) 18 g43) J F G) H := hP
          have hD : va_D A (MW Y o a (upd (upd (upd I 16 g44) 17 u156) 18 g43) J F G) := hD
          obtain rfl : u155 = 0 := i_is (X := 0) (by omega) (by decide)
          refine W.eq (g2 := F0 m 123 ls [.int 0]) rfl ?_
          refine lv_if_eq (tgt := 130) hx hb dX11_number_123 (by decide) (fun c160 => ?_) (fun c160 => ?_)
          rotate_left
          · exact absurd c160 (by decide)
          refine lv_iconst (v := 0) hx hb dX11_number_130 (by decide) ?_
          refine W.widen (k := 0) (n := 0) (Nat.le_of_ble_eq_true rfl) (Nat.le_of_ble_eq_true rfl) ?_
          exact W.zret (v := 0) hx hb hr (by decide) (fun t ht hW => ⟨⟨(0, g44, u156, g43), rfl, ⟨(show (0 ≤ g44.toInt ∧ g44.toInt ≤ 400) by omega), (show ((I 16).toInt ≤ g44.toInt) by omega), (show (g44.toInt ≤ (I 3).toInt) by omega), (show (0 ≤ u156.toInt ∧ u156.toInt ≤ 4000) by omega), (show (((0 : Int32).toInt = 1 ∧ p1.toInt ≤ g43.toInt ∧ g43.toInt ≤ p2.toInt ∧ (I 16).toInt + 1 ≤ g44.toInt) ∨ ((0 : Int32).toInt = 0 ∧ 1 ≤ u156.toInt)) by omega), (show (0 ≤ (0 : Int32).toInt ∧ (0 : Int32).toInt ≤ 1) by omega)⟩, CB.mk ht hP hD⟩, hS.F ht⟩) hS.2.2 dX11_number_131
  · obtain rfl : u11 = 0 := i_is c16 (by decide)
    have zi0 : (0 : Int32).toInt = 0 := by decide
    refine W.eq (g2 := F0 m 13 ls [.int 0]) rfl ?_
    refine lv_if_ne (tgt := 26) hx hb dX11_number_13 (by decide) (fun c161 => ?_) (fun c161 => ?_)
    · exact absurd c161 (by decide)
    refine lv_aload_n hx hb dX11_number_16 rfl (lv_at hl 0 rfl) ?_
    refine lv_iconst (v := 0) hx hb dX11_number_17 (by decide) ?_
    refine lv_aload_n hx hb dX11_number_18 rfl (lv_at hl 0 rfl) ?_
    refine va_get (D := D) (ci := 11) (v := .int u4) (C := RX11) (T := TX11) (N := 49) hx hb hg inGX11 hown hKN.1 hP 0 rfl rfl 16 (by decide) (hg _ kw_1224) (fun _ h9 => h9) rfl dX11_number_19 ?_
    refine cga (rn_V (As := [.int 0, .int u4]) (rest := []) (b := o) (m_fails l D Y Z H.size o a (upd I 16 u4) J F G  0 u4 (show (0 ≤ (0 : Int32).toInt ∧ (0 : Int32).toInt ≤ 4) by omega) (show (0 ≤ u4.toInt ∧ u4.toInt ≤ 400) by omega) (show (0 ≤ (I 17).toInt ∧ (I 17).toInt ≤ 4000) by omega)) ⟨hx, hb, hml, hown, hg⟩ lk_X11_200 ⟨CP.blind, va_recv hKN.1 hP (ci := 11) (q0 := 0) rfl rfl, CP.at hP hKN hD⟩ ⟨⟨rfl, rfl⟩, ⟨Nat.le_of_ble_eq_true rfl, Nat.le_of_ble_eq_true rfl⟩, ⟨Nat.le_of_ble_eq_true rfl, Nat.le_of_ble_eq_true rfl⟩⟩ hl.1 rfl (Nat.le_of_ble_eq_true rfl) dX11_number_22) hP hD hS hA (fun u162 H locs w163 hP hD hS => ?_)
    obtain ⟨u164, u165⟩ := u162
    have w163 : (u164.toInt = 0) ∧ (1 ≤ u165.toInt ∧ u165.toInt ≤ 4000) := w163
    obtain ⟨hw166, hw167⟩ := w163
    refine W.eq (g2 := F0 m 25 ls [.int u164]) rfl ?_
    have hP : va_P D vwCl (MW Y o a (upd (upd I 16 u4) 17 u165) J F G) H := hP
    have hD : va_D A (MW Y o a (upd (upd I 16 u4) 17 u165) J F G) := hD
    obtain rfl : u164 = 0 := i_is (X := 0) (by omega) (by decide)
    refine W.eq (g2 := F0 m 25 ls [.int 0]) rfl ?_
    refine W.widen (k := 0) (n := 0) (Nat.le_of_ble_eq_true rfl) (Nat.le_of_ble_eq_true rfl) ?_
    exact W.zret (v := 0) hx hb hr (by decide) (fun t ht hW => ⟨⟨(0, u4, u165, (I 18)), rfl, ⟨(show (0 ≤ u4.toInt ∧ u4.toInt ≤ 400) by omega), (show ((I 16).toInt ≤ u4.toInt) by omega), (show (u4.toInt ≤ (I 3).toInt) by omega), (show (0 ≤ u165.toInt ∧ u165.toInt ≤ 4000) by omega), (show (((0 : Int32).toInt = 1 ∧ p1.toInt ≤ (I 18).toInt ∧ (I 18).toInt ≤ p2.toInt ∧ (I 16).toInt + 1 ≤ u4.toInt) ∨ ((0 : Int32).toInt = 0 ∧ 1 ≤ u165.toInt)) by omega), (show (0 ≤ (0 : Int32).toInt ∧ (0 : Int32).toInt ≤ 1) by omega)⟩, CB.mk ht hP hD⟩, hS.F ht⟩) hS.2.2 dX11_number_25
set_option maxHeartbeats 4000000 in
set_option maxRecDepth 100000 in
theorem m_wordHere (l : Launch) (D : va_G) (Y : Nat → ClassId) (Z : Nat → Nat) (sz : Nat) (o : Nat) (a : Nat → Nat) (I : Nat → Int32) (J : Nat → Int64) (F : Nat → Nat → Int32) (G : Nat → Nat → Int64) (hk_0 : (0 ≤ (I 16).toInt ∧ (I 16).toInt ≤ 400)) (hk_1 : (0 ≤ (I 3).toInt ∧ (I 3).toInt ≤ 400)) (hk_2 : ((I 16).toInt ≤ (I 3).toInt)) (hk_3 : (0 ≤ (I 19).toInt ∧ (I 19).toInt ≤ 17)) : Met l yX11_wordHere (.code yX11_wordHere cX11_wordHere 1 (some .int) :: GW) ({ frames := 2, cells := 0, slots := 0, locals := 46 }) (va_Pc [.ref o] (CP D Y Z (MW Y o a I J F G) sz)) (QG (S := Int32 × Int32) (fun u => some (.int u.1)) (fun u => (0 ≤ u.2.toInt ∧ u.2.toInt ≤ 400) ∧ ((I 16).toInt ≤ u.2.toInt) ∧ (u.2.toInt ≤ (I 3).toInt) ∧ (-1 ≤ u.1.toInt ∧ u.1.toInt ≤ 9) ∧ (0 ≤ u.1.toInt → (u.2.toInt < (I 3).toInt ∧ 97 ≤ ((F 2) u.2.toNatClampNeg).toInt ∧ ((F 2) u.2.toNatClampNeg).toInt ≤ 122))) (fun u => CB D (MW Y o a (upd I 16 u.2) J F G) (va_A (MW Y o a I J F G) sz)) (va_A (MW Y o a I J F G) sz)) 0 0 (va_A (MW Y o a I J F G) sz) := by
  refine Met.ofW (cc := cX11_wordHere) (maxL := 1) (ret := (some .int)) (by decide) rfl ?_
  intro p e s m args below meth c s₁ B hml hv
  obtain ⟨rfl, hsz, hP, hKN, hD0⟩ := hv
  have hx := B.exec
  have hb := B.bytes
  have hr := B.returns
  have hts := atoms_spec (ws := .code yX11_wordHere cX11_wordHere 1 (some .int) :: GW) B.pre
  have hg : ∀ w ∈ GW, w.before _ s = true := fun w h => hts w (List.mem_cons_of_mem _ h)
  have hown : s.vm.findClass RX11 = some m.cls := findClass_of_methodNamed B.named
  have hlocks := B.notSynchronized
  subst hsz
  have hD := hD0.self (sz := s.heap.size)
  generalize hAe : va_A (MW Y o a I J F G) s.heap.size = A at hD ⊢
  have hA : ∀ q : Nat, s.heap.size ≤ q → A q := fun q h => by rw [← hAe]; exact Or.inr h
  clear hAe hD0 hts B
  have hl := lv_entry ([.ref o]) (n := 1) (Nat.le_of_ble_eq_true rfl)
  rw [lg_entry_eq]
  generalize (lg_sl ([.ref o]) ++ List.replicate (1 - (lg_sl ([.ref o])).length) Slot.unset).toArray = ls at hl ⊢
  have hl : lv_has ls 1 [(0, .ref o)] := hl
  refine w_start (A0 := A) hP (fun H locs hP hS => ?_)
  refine lv_aload_n hx hb dX11_wordHere_0 rfl (lv_at hl 0 rfl) ?_
  refine va_get (D := D) (ci := 11) (v := .int (I 19)) (C := RX11) (T := TX11) (N := 49) hx hb hg inGX11 hown hKN.1 hP 0 rfl rfl 19 (by decide) (hg _ kw_1227) (fun _ h9 => h9) rfl dX11_wordHere_1 ?_
  refine lv_bipush (v := 6) hx hb dX11_wordHere_4 (by decide) ?_
  refine lv_icmp_ge (tgt := 81) hx hb dX11_wordHere_6 (by decide) (fun c1 => ?_) (fun c1 => ?_)
  · skip
    have c1 := i_le (show (6 : Int32).toInt = 6 by decide) (Eq.refl (I 19).toInt) c1
    refine lv_aload_n hx hb dX11_wordHere_81 rfl (lv_at hl 0 rfl) ?_
    refine lv_ldc2 (v := 1650811252) hx hb hown (hg _ kw_1485) dX11_wordHere_82 ?_
    have zl1650811252 : (1650811252 : Int64).toInt = 1650811252 := by decide
    refine cga (rn_V (As := [.long 1650811252]) (rest := []) (b := o) (m_isWord l D Y Z H.size o a I J F G  1650811252 (show (0 ≤ (I 16).toInt ∧ (I 16).toInt ≤ 400) by omega) (show (0 ≤ (I 3).toInt ∧ (I 3).toInt ≤ 400) by omega) (show ((I 16).toInt ≤ (I 3).toInt) by omega)) ⟨hx, hb, hml, hown, hg⟩ lk_X11_190 ⟨CP.blind, va_recv hKN.1 hP (ci := 11) (q0 := 0) rfl rfl, CP.at hP hKN hD⟩ ⟨⟨rfl, rfl⟩, ⟨Nat.le_of_ble_eq_true rfl, Nat.le_of_ble_eq_true rfl⟩, ⟨Nat.le_of_ble_eq_true rfl, Nat.le_of_ble_eq_true rfl⟩⟩ hl.1 rfl (Nat.le_of_ble_eq_true rfl) dX11_wordHere_85) hP hD hS hA (fun u2 H locs w3 hP hD hS => ?_)
    obtain ⟨u4, u5⟩ := u2
    have w3 : (0 ≤ u5.toInt ∧ u5.toInt ≤ 400) ∧ ((I 16).toInt ≤ u5.toInt) ∧ (u5.toInt ≤ (I 3).toInt) ∧ (0 ≤ u4.toInt ∧ u4.toInt ≤ 1) ∧ (u4.toInt = 1 → (u5.toInt < (I 3).toInt ∧ 97 ≤ ((F 2) u5.toNatClampNeg).toInt ∧ ((F 2) u5.toNatClampNeg).toInt ≤ 122)) ∧ (((I 16).toInt < (I 3).toInt ∧ ((F 2) (I 16).toNatClampNeg).toInt ≠ 32) → u5.toInt = (I 16).toInt) := w3
    obtain ⟨hw6, hw7, hw8, hw9, hw10, hw11⟩ := w3
    refine W.eq (g2 := F0 m 88 ls [.int u4]) rfl ?_
    have hP : va_P D vwCl (MW Y o a (upd I 16 u5) J F G) H := hP
    have hD : va_D A (MW Y o a (upd I 16 u5) J F G) := hD
    rcases (show u4.toInt = 1 ∨ u4.toInt = 0 by omega) with c12 | c12
    · obtain rfl : u4 = 1 := i_is c12 (by decide)
      have zi1 : (1 : Int32).toInt = 1 := by decide
      refine W.eq (g2 := F0 m 88 ls [.int 1]) rfl ?_
      refine lv_if_eq (tgt := 93) hx hb dX11_wordHere_88 (by decide) (fun c13 => ?_) (fun c13 => ?_)
      · exact absurd c13 (by decide)
      refine lv_iconst (v := 0) hx hb dX11_wordHere_91 (by decide) ?_
      refine W.widen (k := 0) (n := 0) (Nat.le_of_ble_eq_true rfl) (Nat.le_of_ble_eq_true rfl) ?_
      have zi0 : (0 : Int32).toInt = 0 := by decide
      exact W.iret (v := 0) hx hb hr (fun t ht hW => ⟨⟨(0, u5), rfl, ⟨(show (0 ≤ u5.toInt ∧ u5.toInt ≤ 400) by omega), (show ((I 16).toInt ≤ u5.toInt) by omega), (show (u5.toInt ≤ (I 3).toInt) by omega), (show (-1 ≤ (0 : Int32).toInt ∧ (0 : Int32).toInt ≤ 9) by omega), (show (0 ≤ (0 : Int32).toInt → (u5.toInt < (I 3).toInt ∧ 97 ≤ ((F 2) u5.toNatClampNeg).toInt ∧ ((F 2) u5.toNatClampNeg).toInt ≤ 122)) by omega)⟩, CB.mk ht hP hD⟩, hS.F ht⟩) hS.2.2 dX11_wordHere_92
    · obtain rfl : u4 = 0 := i_is c12 (by decide)
      have zi0 : (0 : Int32).toInt = 0 := by decide
      refine W.eq (g2 := F0 m 88 ls [.int 0]) rfl ?_
      refine lv_if_eq (tgt := 93) hx hb dX11_wordHere_88 (by decide) (fun c14 => ?_) (fun c14 => ?_)
      rotate_left
      · exact absurd c14 (by decide)
      refine lv_aload_n hx hb dX11_wordHere_93 rfl (lv_at hl 0 rfl) ?_
      refine lv_ldc2 (v := 1819242087) hx hb hown (hg _ kw_1486) dX11_wordHere_94 ?_
      have zl1819242087 : (1819242087 : Int64).toInt = 1819242087 := by decide
      refine cga (rn_V (As := [.long 1819242087]) (rest := []) (b := o) (m_isWord l D Y Z H.size o a (upd I 16 u5) J F G  1819242087 (show (0 ≤ u5.toInt ∧ u5.toInt ≤ 400) by omega) (show (0 ≤ (I 3).toInt ∧ (I 3).toInt ≤ 400) by omega) (show (u5.toInt ≤ (I 3).toInt) by omega)) ⟨hx, hb, hml, hown, hg⟩ lk_X11_190 ⟨CP.blind, va_recv hKN.1 hP (ci := 11) (q0 := 0) rfl rfl, CP.at hP hKN hD⟩ ⟨⟨rfl, rfl⟩, ⟨Nat.le_of_ble_eq_true rfl, Nat.le_of_ble_eq_true rfl⟩, ⟨Nat.le_of_ble_eq_true rfl, Nat.le_of_ble_eq_true rfl⟩⟩ hl.1 rfl (Nat.le_of_ble_eq_true rfl) dX11_wordHere_97) hP hD hS hA (fun u15 H locs w16 hP hD hS => ?_)
      obtain ⟨u17, u18⟩ := u15
      have w16 : (0 ≤ u18.toInt ∧ u18.toInt ≤ 400) ∧ (u5.toInt ≤ u18.toInt) ∧ (u18.toInt ≤ (I 3).toInt) ∧ (0 ≤ u17.toInt ∧ u17.toInt ≤ 1) ∧ (u17.toInt = 1 → (u18.toInt < (I 3).toInt ∧ 97 ≤ ((F 2) u18.toNatClampNeg).toInt ∧ ((F 2) u18.toNatClampNeg).toInt ≤ 122)) ∧ ((u5.toInt < (I 3).toInt ∧ ((F 2) u5.toNatClampNeg).toInt ≠ 32) → u18.toInt = u5.toInt) := w16
      obtain ⟨hw19, hw20, hw21, hw22, hw23, hw24⟩ := w16
      refine W.eq (g2 := F0 m 100 ls [.int u17]) rfl ?_
      have hP : va_P D vwCl (MW Y o a (upd I 16 u18) J F G) H := hP
      have hD : va_D A (MW Y o a (upd I 16 u18) J F G) := hD
      rcases (show u17.toInt = 1 ∨ u17.toInt = 0 by omega) with c25 | c25
      · obtain rfl : u17 = 1 := i_is c25 (by decide)
        have zi1 : (1 : Int32).toInt = 1 := by decide
        refine W.eq (g2 := F0 m 100 ls [.int 1]) rfl ?_
        refine lv_if_eq (tgt := 105) hx hb dX11_wordHere_100 (by decide) (fun c26 => ?_) (fun c26 => ?_)
        · exact absurd c26 (by decide)
        refine lv_iconst (v := 1) hx hb dX11_wordHere_103 (by decide) ?_
        refine W.widen (k := 0) (n := 0) (Nat.le_of_ble_eq_true rfl) (Nat.le_of_ble_eq_true rfl) ?_
        exact W.iret (v := 1) hx hb hr (fun t ht hW => ⟨⟨(1, u18), rfl, ⟨(show (0 ≤ u18.toInt ∧ u18.toInt ≤ 400) by omega), (show ((I 16).toInt ≤ u18.toInt) by omega), (show (u18.toInt ≤ (I 3).toInt) by omega), (show (-1 ≤ (1 : Int32).toInt ∧ (1 : Int32).toInt ≤ 9) by omega), (show (0 ≤ (1 : Int32).toInt → (u18.toInt < (I 3).toInt ∧ 97 ≤ ((F 2) u18.toNatClampNeg).toInt ∧ ((F 2) u18.toNatClampNeg).toInt ≤ 122)) by omega)⟩, CB.mk ht hP hD⟩, hS.F ht⟩) hS.2.2 dX11_wordHere_104
      · obtain rfl : u17 = 0 := i_is c25 (by decide)
        refine W.eq (g2 := F0 m 100 ls [.int 0]) rfl ?_
        refine lv_if_eq (tgt := 105) hx hb dX11_wordHere_100 (by decide) (fun c27 => ?_) (fun c27 => ?_)
        rotate_left
        · exact absurd c27 (by decide)
        refine lv_aload_n hx hb dX11_wordHere_105 rfl (lv_at hl 0 rfl) ?_
        refine lv_ldc2 (v := 1684366704) hx hb hown (hg _ kw_1543) dX11_wordHere_106 ?_
        have zl1684366704 : (1684366704 : Int64).toInt = 1684366704 := by decide
        refine cga (rn_V (As := [.long 1684366704]) (rest := []) (b := o) (m_isWord l D Y Z H.size o a (upd I 16 u18) J F G  1684366704 (show (0 ≤ u18.toInt ∧ u18.toInt ≤ 400) by omega) (show (0 ≤ (I 3).toInt ∧ (I 3).toInt ≤ 400) by omega) (show (u18.toInt ≤ (I 3).toInt) by omega)) ⟨hx, hb, hml, hown, hg⟩ lk_X11_190 ⟨CP.blind, va_recv hKN.1 hP (ci := 11) (q0 := 0) rfl rfl, CP.at hP hKN hD⟩ ⟨⟨rfl, rfl⟩, ⟨Nat.le_of_ble_eq_true rfl, Nat.le_of_ble_eq_true rfl⟩, ⟨Nat.le_of_ble_eq_true rfl, Nat.le_of_ble_eq_true rfl⟩⟩ hl.1 rfl (Nat.le_of_ble_eq_true rfl) dX11_wordHere_109) hP hD hS hA (fun u28 H locs w29 hP hD hS => ?_)
        obtain ⟨u30, u31⟩ := u28
        have w29 : (0 ≤ u31.toInt ∧ u31.toInt ≤ 400) ∧ (u18.toInt ≤ u31.toInt) ∧ (u31.toInt ≤ (I 3).toInt) ∧ (0 ≤ u30.toInt ∧ u30.toInt ≤ 1) ∧ (u30.toInt = 1 → (u31.toInt < (I 3).toInt ∧ 97 ≤ ((F 2) u31.toNatClampNeg).toInt ∧ ((F 2) u31.toNatClampNeg).toInt ≤ 122)) ∧ ((u18.toInt < (I 3).toInt ∧ ((F 2) u18.toNatClampNeg).toInt ≠ 32) → u31.toInt = u18.toInt) := w29
        obtain ⟨hw32, hw33, hw34, hw35, hw36, hw37⟩ := w29
        refine W.eq (g2 := F0 m 112 ls [.int u30]) rfl ?_
        have hP : va_P D vwCl (MW Y o a (upd I 16 u31) J F G) H := hP
        have hD : va_D A (MW Y o a (upd I 16 u31) J F G) := hD
        rcases (show u30.toInt = 1 ∨ u30.toInt = 0 by omega) with c38 | c38
        · obtain rfl : u30 = 1 := i_is c38 (by decide)
          have zi1 : (1 : Int32).toInt = 1 := by decide
          refine W.eq (g2 := F0 m 112 ls [.int 1]) rfl ?_
          refine lv_if_eq (tgt := 117) hx hb dX11_wordHere_112 (by decide) (fun c39 => ?_) (fun c39 => ?_)
          · exact absurd c39 (by decide)
          refine lv_iconst (v := 2) hx hb dX11_wordHere_115 (by decide) ?_
          refine W.widen (k := 0) (n := 0) (Nat.le_of_ble_eq_true rfl) (Nat.le_of_ble_eq_true rfl) ?_
          have zi2 : (2 : Int32).toInt = 2 := by decide
          exact W.iret (v := 2) hx hb hr (fun t ht hW => ⟨⟨(2, u31), rfl, ⟨(show (0 ≤ u31.toInt ∧ u31.toInt ≤ 400) by omega), (show ((I 16).toInt ≤ u31.toInt) by omega), (show (u31.toInt ≤ (I 3).toInt) by omega), (show (-1 ≤ (2 : Int32).toInt ∧ (2 : Int32).toInt ≤ 9) by omega), (show (0 ≤ (2 : Int32).toInt → (u31.toInt < (I 3).toInt ∧ 97 ≤ ((F 2) u31.toNatClampNeg).toInt ∧ ((F 2) u31.toNatClampNeg).toInt ≤ 122)) by omega)⟩, CB.mk ht hP hD⟩, hS.F ht⟩) hS.2.2 dX11_wordHere_116
        · obtain rfl : u30 = 0 := i_is c38 (by decide)
          refine W.eq (g2 := F0 m 112 ls [.int 0]) rfl ?_
          refine lv_if_eq (tgt := 117) hx hb dX11_wordHere_112 (by decide) (fun c40 => ?_) (fun c40 => ?_)
          rotate_left
          · exact absurd c40 (by decide)
          refine lv_aload_n hx hb dX11_wordHere_117 rfl (lv_at hl 0 rfl) ?_
          refine lv_ldc2 (v := 495589487205) hx hb hown (hg _ kw_1544) dX11_wordHere_118 ?_
          have zl495589487205 : (495589487205 : Int64).toInt = 495589487205 := by decide
          refine cga (rn_V (As := [.long 495589487205]) (rest := []) (b := o) (m_isWord l D Y Z H.size o a (upd I 16 u31) J F G  495589487205 (show (0 ≤ u31.toInt ∧ u31.toInt ≤ 400) by omega) (show (0 ≤ (I 3).toInt ∧ (I 3).toInt ≤ 400) by omega) (show (u31.toInt ≤ (I 3).toInt) by omega)) ⟨hx, hb, hml, hown, hg⟩ lk_X11_190 ⟨CP.blind, va_recv hKN.1 hP (ci := 11) (q0 := 0) rfl rfl, CP.at hP hKN hD⟩ ⟨⟨rfl, rfl⟩, ⟨Nat.le_of_ble_eq_true rfl, Nat.le_of_ble_eq_true rfl⟩, ⟨Nat.le_of_ble_eq_true rfl, Nat.le_of_ble_eq_true rfl⟩⟩ hl.1 rfl (Nat.le_of_ble_eq_true rfl) dX11_wordHere_121) hP hD hS hA (fun u41 H locs w42 hP hD hS => ?_)
          obtain ⟨u43, u44⟩ := u41
          have w42 : (0 ≤ u44.toInt ∧ u44.toInt ≤ 400) ∧ (u31.toInt ≤ u44.toInt) ∧ (u44.toInt ≤ (I 3).toInt) ∧ (0 ≤ u43.toInt ∧ u43.toInt ≤ 1) ∧ (u43.toInt = 1 → (u44.toInt < (I 3).toInt ∧ 97 ≤ ((F 2) u44.toNatClampNeg).toInt ∧ ((F 2) u44.toNatClampNeg).toInt ≤ 122)) ∧ ((u31.toInt < (I 3).toInt ∧ ((F 2) u31.toNatClampNeg).toInt ≠ 32) → u44.toInt = u31.toInt) := w42
          obtain ⟨hw45, hw46, hw47, hw48, hw49, hw50⟩ := w42
          refine W.eq (g2 := F0 m 124 ls [.int u43]) rfl ?_
          have hP : va_P D vwCl (MW Y o a (upd I 16 u44) J F G) H := hP
          have hD : va_D A (MW Y o a (upd I 16 u44) J F G) := hD
          rcases (show u43.toInt = 1 ∨ u43.toInt = 0 by omega) with c51 | c51
          · obtain rfl : u43 = 1 := i_is c51 (by decide)
            have zi1 : (1 : Int32).toInt = 1 := by decide
            refine W.eq (g2 := F0 m 124 ls [.int 1]) rfl ?_
            refine lv_if_eq (tgt := 129) hx hb dX11_wordHere_124 (by decide) (fun c52 => ?_) (fun c52 => ?_)
            · exact absurd c52 (by decide)
            refine lv_iconst (v := 3) hx hb dX11_wordHere_127 (by decide) ?_
            refine W.widen (k := 0) (n := 0) (Nat.le_of_ble_eq_true rfl) (Nat.le_of_ble_eq_true rfl) ?_
            have zi3 : (3 : Int32).toInt = 3 := by decide
            exact W.iret (v := 3) hx hb hr (fun t ht hW => ⟨⟨(3, u44), rfl, ⟨(show (0 ≤ u44.toInt ∧ u44.toInt ≤ 400) by omega), (show ((I 16).toInt ≤ u44.toInt) by omega), (show (u44.toInt ≤ (I 3).toInt) by omega), (show (-1 ≤ (3 : Int32).toInt ∧ (3 : Int32).toInt ≤ 9) by omega), (show (0 ≤ (3 : Int32).toInt → (u44.toInt < (I 3).toInt ∧ 97 ≤ ((F 2) u44.toNatClampNeg).toInt ∧ ((F 2) u44.toNatClampNeg).toInt ≤ 122)) by omega)⟩, CB.mk ht hP hD⟩, hS.F ht⟩) hS.2.2 dX11_wordHere_128
          · obtain rfl : u43 = 0 := i_is c51 (by decide)
            refine W.eq (g2 := F0 m 124 ls [.int 0]) rfl ?_
            refine lv_if_eq (tgt := 129) hx hb dX11_wordHere_124 (by decide) (fun c53 => ?_) (fun c53 => ?_)
            rotate_left
            · exact absurd c53 (by decide)
            refine lv_aload_n hx hb dX11_wordHere_129 rfl (lv_at hl 0 rfl) ?_
            refine lv_ldc2 (v := 1684631667) hx hb hown (hg _ kw_1545) dX11_wordHere_130 ?_
            have zl1684631667 : (1684631667 : Int64).toInt = 1684631667 := by decide
            refine cga (rn_V (As := [.long 1684631667]) (rest := []) (b := o) (m_isWord l D Y Z H.size o a (upd I 16 u44) J F G  1684631667 (show (0 ≤ u44.toInt ∧ u44.toInt ≤ 400) by omega) (show (0 ≤ (I 3).toInt ∧ (I 3).toInt ≤ 400) by omega) (show (u44.toInt ≤ (I 3).toInt) by omega)) ⟨hx, hb, hml, hown, hg⟩ lk_X11_190 ⟨CP.blind, va_recv hKN.1 hP (ci := 11) (q0 := 0) rfl rfl, CP.at hP hKN hD⟩ ⟨⟨rfl, rfl⟩, ⟨Nat.le_of_ble_eq_true rfl, Nat.le_of_ble_eq_true rfl⟩, ⟨Nat.le_of_ble_eq_true rfl, Nat.le_of_ble_eq_true rfl⟩⟩ hl.1 rfl (Nat.le_of_ble_eq_true rfl) dX11_wordHere_133) hP hD hS hA (fun u54 H locs w55 hP hD hS => ?_)
            obtain ⟨u56, u57⟩ := u54
            have w55 : (0 ≤ u57.toInt ∧ u57.toInt ≤ 400) ∧ (u44.toInt ≤ u57.toInt) ∧ (u57.toInt ≤ (I 3).toInt) ∧ (0 ≤ u56.toInt ∧ u56.toInt ≤ 1) ∧ (u56.toInt = 1 → (u57.toInt < (I 3).toInt ∧ 97 ≤ ((F 2) u57.toNatClampNeg).toInt ∧ ((F 2) u57.toNatClampNeg).toInt ≤ 122)) ∧ ((u44.toInt < (I 3).toInt ∧ ((F 2) u44.toNatClampNeg).toInt ≠ 32) → u57.toInt = u44.toInt) := w55
            obtain ⟨hw58, hw59, hw60, hw61, hw62, hw63⟩ := w55
            refine W.eq (g2 := F0 m 136 ls [.int u56]) rfl ?_
            have hP : va_P D vwCl (MW Y o a (upd I 16 u57) J F G) H := hP
            have hD : va_D A (MW Y o a (upd I 16 u57) J F G) := hD
            rcases (show u56.toInt = 1 ∨ u56.toInt = 0 by omega) with c64 | c64
            · obtain rfl : u56 = 1 := i_is c64 (by decide)
              have zi1 : (1 : Int32).toInt = 1 := by decide
              refine W.eq (g2 := F0 m 136 ls [.int 1]) rfl ?_
              refine lv_if_eq (tgt := 141) hx hb dX11_wordHere_136 (by decide) (fun c65 => ?_) (fun c65 => ?_)
              · exact absurd c65 (by decide)
              refine lv_iconst (v := 4) hx hb dX11_wordHere_139 (by decide) ?_
              refine W.widen (k := 0) (n := 0) (Nat.le_of_ble_eq_true rfl) (Nat.le_of_ble_eq_true rfl) ?_
              have zi4 : (4 : Int32).toInt = 4 := by decide
              exact W.iret (v := 4) hx hb hr (fun t ht hW => ⟨⟨(4, u57), rfl, ⟨(show (0 ≤ u57.toInt ∧ u57.toInt ≤ 400) by omega), (show ((I 16).toInt ≤ u57.toInt) by omega), (show (u57.toInt ≤ (I 3).toInt) by omega), (show (-1 ≤ (4 : Int32).toInt ∧ (4 : Int32).toInt ≤ 9) by omega), (show (0 ≤ (4 : Int32).toInt → (u57.toInt < (I 3).toInt ∧ 97 ≤ ((F 2) u57.toNatClampNeg).toInt ∧ ((F 2) u57.toNatClampNeg).toInt ≤ 122)) by omega)⟩, CB.mk ht hP hD⟩, hS.F ht⟩) hS.2.2 dX11_wordHere_140
            · obtain rfl : u56 = 0 := i_is c64 (by decide)
              refine W.eq (g2 := F0 m 136 ls [.int 0]) rfl ?_
              refine lv_if_eq (tgt := 141) hx hb dX11_wordHere_136 (by decide) (fun c66 => ?_) (fun c66 => ?_)
              rotate_left
              · exact absurd c66 (by decide)
              refine lv_aload_n hx hb dX11_wordHere_141 rfl (lv_at hl 0 rfl) ?_
              refine lv_ldc2 (v := 7300196) hx hb hown (hg _ kw_1546) dX11_wordHere_142 ?_
              have zl7300196 : (7300196 : Int64).toInt = 7300196 := by decide
              refine cga (rn_V (As := [.long 7300196]) (rest := []) (b := o) (m_isWord l D Y Z H.size o a (upd I 16 u57) J F G  7300196 (show (0 ≤ u57.toInt ∧ u57.toInt ≤ 400) by omega) (show (0 ≤ (I 3).toInt ∧ (I 3).toInt ≤ 400) by omega) (show (u57.toInt ≤ (I 3).toInt) by omega)) ⟨hx, hb, hml, hown, hg⟩ lk_X11_190 ⟨CP.blind, va_recv hKN.1 hP (ci := 11) (q0 := 0) rfl rfl, CP.at hP hKN hD⟩ ⟨⟨rfl, rfl⟩, ⟨Nat.le_of_ble_eq_true rfl, Nat.le_of_ble_eq_true rfl⟩, ⟨Nat.le_of_ble_eq_true rfl, Nat.le_of_ble_eq_true rfl⟩⟩ hl.1 rfl (Nat.le_of_ble_eq_true rfl) dX11_wordHere_145) hP hD hS hA (fun u67 H locs w68 hP hD hS => ?_)
              obtain ⟨u69, u70⟩ := u67
              have w68 : (0 ≤ u70.toInt ∧ u70.toInt ≤ 400) ∧ (u57.toInt ≤ u70.toInt) ∧ (u70.toInt ≤ (I 3).toInt) ∧ (0 ≤ u69.toInt ∧ u69.toInt ≤ 1) ∧ (u69.toInt = 1 → (u70.toInt < (I 3).toInt ∧ 97 ≤ ((F 2) u70.toNatClampNeg).toInt ∧ ((F 2) u70.toNatClampNeg).toInt ≤ 122)) ∧ ((u57.toInt < (I 3).toInt ∧ ((F 2) u57.toNatClampNeg).toInt ≠ 32) → u70.toInt = u57.toInt) := w68
              obtain ⟨hw71, hw72, hw73, hw74, hw75, hw76⟩ := w68
              refine W.eq (g2 := F0 m 148 ls [.int u69]) rfl ?_
              have hP : va_P D vwCl (MW Y o a (upd I 16 u70) J F G) H := hP
              have hD : va_D A (MW Y o a (upd I 16 u70) J F G) := hD
              rcases (show u69.toInt = 1 ∨ u69.toInt = 0 by omega) with c77 | c77
              · obtain rfl : u69 = 1 := i_is c77 (by decide)
                have zi1 : (1 : Int32).toInt = 1 := by decide
                refine W.eq (g2 := F0 m 148 ls [.int 1]) rfl ?_
                refine lv_if_eq (tgt := 153) hx hb dX11_wordHere_148 (by decide) (fun c78 => ?_) (fun c78 => ?_)
                · exact absurd c78 (by decide)
                refine lv_iconst (v := 5) hx hb dX11_wordHere_151 (by decide) ?_
                refine W.widen (k := 0) (n := 0) (Nat.le_of_ble_eq_true rfl) (Nat.le_of_ble_eq_true rfl) ?_
                have zi5 : (5 : Int32).toInt = 5 := by decide
                exact W.iret (v := 5) hx hb hr (fun t ht hW => ⟨⟨(5, u70), rfl, ⟨(show (0 ≤ u70.toInt ∧ u70.toInt ≤ 400) by omega), (show ((I 16).toInt ≤ u70.toInt) by omega), (show (u70.toInt ≤ (I 3).toInt) by omega), (show (-1 ≤ (5 : Int32).toInt ∧ (5 : Int32).toInt ≤ 9) by omega), (show (0 ≤ (5 : Int32).toInt → (u70.toInt < (I 3).toInt ∧ 97 ≤ ((F 2) u70.toNatClampNeg).toInt ∧ ((F 2) u70.toNatClampNeg).toInt ≤ 122)) by omega)⟩, CB.mk ht hP hD⟩, hS.F ht⟩) hS.2.2 dX11_wordHere_152
              · obtain rfl : u69 = 0 := i_is c77 (by decide)
                refine W.eq (g2 := F0 m 148 ls [.int 0]) rfl ?_
                refine lv_if_eq (tgt := 153) hx hb dX11_wordHere_148 (by decide) (fun c79 => ?_) (fun c79 => ?_)
                rotate_left
                · exact absurd c79 (by decide)
                refine lv_aload_n hx hb dX11_wordHere_153 rfl (lv_at hl 0 rfl) ?_
                refine lv_ldc2 (v := 495672455269) hx hb hown (hg _ kw_1547) dX11_wordHere_154 ?_
                have zl495672455269 : (495672455269 : Int64).toInt = 495672455269 := by decide
                refine cga (rn_V (As := [.long 495672455269]) (rest := []) (b := o) (m_isWord l D Y Z H.size o a (upd I 16 u70) J F G  495672455269 (show (0 ≤ u70.toInt ∧ u70.toInt ≤ 400) by omega) (show (0 ≤ (I 3).toInt ∧ (I 3).toInt ≤ 400) by omega) (show (u70.toInt ≤ (I 3).toInt) by omega)) ⟨hx, hb, hml, hown, hg⟩ lk_X11_190 ⟨CP.blind, va_recv hKN.1 hP (ci := 11) (q0 := 0) rfl rfl, CP.at hP hKN hD⟩ ⟨⟨rfl, rfl⟩, ⟨Nat.le_of_ble_eq_true rfl, Nat.le_of_ble_eq_true rfl⟩, ⟨Nat.le_of_ble_eq_true rfl, Nat.le_of_ble_eq_true rfl⟩⟩ hl.1 rfl (Nat.le_of_ble_eq_true rfl) dX11_wordHere_157) hP hD hS hA (fun u80 H locs w81 hP hD hS => ?_)
                obtain ⟨u82, u83⟩ := u80
                have w81 : (0 ≤ u83.toInt ∧ u83.toInt ≤ 400) ∧ (u70.toInt ≤ u83.toInt) ∧ (u83.toInt ≤ (I 3).toInt) ∧ (0 ≤ u82.toInt ∧ u82.toInt ≤ 1) ∧ (u82.toInt = 1 → (u83.toInt < (I 3).toInt ∧ 97 ≤ ((F 2) u83.toNatClampNeg).toInt ∧ ((F 2) u83.toNatClampNeg).toInt ≤ 122)) ∧ ((u70.toInt < (I 3).toInt ∧ ((F 2) u70.toNatClampNeg).toInt ≠ 32) → u83.toInt = u70.toInt) := w81
                obtain ⟨hw84, hw85, hw86, hw87, hw88, hw89⟩ := w81
                refine W.eq (g2 := F0 m 160 ls [.int u82]) rfl ?_
                have hP : va_P D vwCl (MW Y o a (upd I 16 u83) J F G) H := hP
                have hD : va_D A (MW Y o a (upd I 16 u83) J F G) := hD
                rcases (show u82.toInt = 1 ∨ u82.toInt = 0 by omega) with c90 | c90
                · obtain rfl : u82 = 1 := i_is c90 (by decide)
                  have zi1 : (1 : Int32).toInt = 1 := by decide
                  refine W.eq (g2 := F0 m 160 ls [.int 1]) rfl ?_
                  refine lv_if_eq (tgt := 166) hx hb dX11_wordHere_160 (by decide) (fun c91 => ?_) (fun c91 => ?_)
                  · exact absurd c91 (by decide)
                  refine lv_bipush (v := 6) hx hb dX11_wordHere_163 (by decide) ?_
                  refine W.widen (k := 0) (n := 0) (Nat.le_of_ble_eq_true rfl) (Nat.le_of_ble_eq_true rfl) ?_
                  have zi6 : (6 : Int32).toInt = 6 := by decide
                  exact W.iret (v := 6) hx hb hr (fun t ht hW => ⟨⟨(6, u83), rfl, ⟨(show (0 ≤ u83.toInt ∧ u83.toInt ≤ 400) by omega), (show ((I 16).toInt ≤ u83.toInt) by omega), (show (u83.toInt ≤ (I 3).toInt) by omega), (show (-1 ≤ (6 : Int32).toInt ∧ (6 : Int32).toInt ≤ 9) by omega), (show (0 ≤ (6 : Int32).toInt → (u83.toInt < (I 3).toInt ∧ 97 ≤ ((F 2) u83.toNatClampNeg).toInt ∧ ((F 2) u83.toNatClampNeg).toInt ≤ 122)) by omega)⟩, CB.mk ht hP hD⟩, hS.F ht⟩) hS.2.2 dX11_wordHere_165
                · obtain rfl : u82 = 0 := i_is c90 (by decide)
                  refine W.eq (g2 := F0 m 160 ls [.int 0]) rfl ?_
                  refine lv_if_eq (tgt := 166) hx hb dX11_wordHere_160 (by decide) (fun c92 => ?_) (fun c92 => ?_)
                  rotate_left
                  · exact absurd c92 (by decide)
                  refine lv_aload_n hx hb dX11_wordHere_166 rfl (lv_at hl 0 rfl) ?_
                  refine lv_ldc2 (v := 1935764837) hx hb hown (hg _ kw_1548) dX11_wordHere_167 ?_
                  have zl1935764837 : (1935764837 : Int64).toInt = 1935764837 := by decide
                  refine cga (rn_V (As := [.long 1935764837]) (rest := []) (b := o) (m_isWord l D Y Z H.size o a (upd I 16 u83) J F G  1935764837 (show (0 ≤ u83.toInt ∧ u83.toInt ≤ 400) by omega) (show (0 ≤ (I 3).toInt ∧ (I 3).toInt ≤ 400) by omega) (show (u83.toInt ≤ (I 3).toInt) by omega)) ⟨hx, hb, hml, hown, hg⟩ lk_X11_190 ⟨CP.blind, va_recv hKN.1 hP (ci := 11) (q0 := 0) rfl rfl, CP.at hP hKN hD⟩ ⟨⟨rfl, rfl⟩, ⟨Nat.le_of_ble_eq_true rfl, Nat.le_of_ble_eq_true rfl⟩, ⟨Nat.le_of_ble_eq_true rfl, Nat.le_of_ble_eq_true rfl⟩⟩ hl.1 rfl (Nat.le_of_ble_eq_true rfl) dX11_wordHere_170) hP hD hS hA (fun u93 H locs w94 hP hD hS => ?_)
                  obtain ⟨u95, u96⟩ := u93
                  have w94 : (0 ≤ u96.toInt ∧ u96.toInt ≤ 400) ∧ (u83.toInt ≤ u96.toInt) ∧ (u96.toInt ≤ (I 3).toInt) ∧ (0 ≤ u95.toInt ∧ u95.toInt ≤ 1) ∧ (u95.toInt = 1 → (u96.toInt < (I 3).toInt ∧ 97 ≤ ((F 2) u96.toNatClampNeg).toInt ∧ ((F 2) u96.toNatClampNeg).toInt ≤ 122)) ∧ ((u83.toInt < (I 3).toInt ∧ ((F 2) u83.toNatClampNeg).toInt ≠ 32) → u96.toInt = u83.toInt) := w94
                  obtain ⟨hw97, hw98, hw99, hw100, hw101, hw102⟩ := w94
                  refine W.eq (g2 := F0 m 173 ls [.int u95]) rfl ?_
                  have hP : va_P D vwCl (MW Y o a (upd I 16 u96) J F G) H := hP
                  have hD : va_D A (MW Y o a (upd I 16 u96) J F G) := hD
                  rcases (show u95.toInt = 1 ∨ u95.toInt = 0 by omega) with c103 | c103
                  · obtain rfl : u95 = 1 := i_is c103 (by decide)
                    have zi1 : (1 : Int32).toInt = 1 := by decide
                    refine W.eq (g2 := F0 m 173 ls [.int 1]) rfl ?_
                    refine lv_if_eq (tgt := 179) hx hb dX11_wordHere_173 (by decide) (fun c104 => ?_) (fun c104 => ?_)
                    · exact absurd c104 (by decide)
                    refine lv_bipush (v := 7) hx hb dX11_wordHere_176 (by decide) ?_
                    refine W.widen (k := 0) (n := 0) (Nat.le_of_ble_eq_true rfl) (Nat.le_of_ble_eq_true rfl) ?_
                    have zi7 : (7 : Int32).toInt = 7 := by decide
                    exact W.iret (v := 7) hx hb hr (fun t ht hW => ⟨⟨(7, u96), rfl, ⟨(show (0 ≤ u96.toInt ∧ u96.toInt ≤ 400) by omega), (show ((I 16).toInt ≤ u96.toInt) by omega), (show (u96.toInt ≤ (I 3).toInt) by omega), (show (-1 ≤ (7 : Int32).toInt ∧ (7 : Int32).toInt ≤ 9) by omega), (show (0 ≤ (7 : Int32).toInt → (u96.toInt < (I 3).toInt ∧ 97 ≤ ((F 2) u96.toNatClampNeg).toInt ∧ ((F 2) u96.toNatClampNeg).toInt ≤ 122)) by omega)⟩, CB.mk ht hP hD⟩, hS.F ht⟩) hS.2.2 dX11_wordHere_178
                  · obtain rfl : u95 = 0 := i_is c103 (by decide)
                    refine W.eq (g2 := F0 m 173 ls [.int 0]) rfl ?_
                    refine lv_if_eq (tgt := 179) hx hb dX11_wordHere_173 (by decide) (fun c105 => ?_) (fun c105 => ?_)
                    rotate_left
                    · exact absurd c105 (by decide)
                    refine lv_aload_n hx hb dX11_wordHere_179 rfl (lv_at hl 0 rfl) ?_
                    refine lv_ldc2 (v := 1818326117) hx hb hown (hg _ kw_1549) dX11_wordHere_180 ?_
                    have zl1818326117 : (1818326117 : Int64).toInt = 1818326117 := by decide
                    refine cga (rn_V (As := [.long 1818326117]) (rest := []) (b := o) (m_isWord l D Y Z H.size o a (upd I 16 u96) J F G  1818326117 (show (0 ≤ u96.toInt ∧ u96.toInt ≤ 400) by omega) (show (0 ≤ (I 3).toInt ∧ (I 3).toInt ≤ 400) by omega) (show (u96.toInt ≤ (I 3).toInt) by omega)) ⟨hx, hb, hml, hown, hg⟩ lk_X11_190 ⟨CP.blind, va_recv hKN.1 hP (ci := 11) (q0 := 0) rfl rfl, CP.at hP hKN hD⟩ ⟨⟨rfl, rfl⟩, ⟨Nat.le_of_ble_eq_true rfl, Nat.le_of_ble_eq_true rfl⟩, ⟨Nat.le_of_ble_eq_true rfl, Nat.le_of_ble_eq_true rfl⟩⟩ hl.1 rfl (Nat.le_of_ble_eq_true rfl) dX11_wordHere_183) hP hD hS hA (fun u106 H locs w107 hP hD hS => ?_)
                    obtain ⟨u108, u109⟩ := u106
                    have w107 : (0 ≤ u109.toInt ∧ u109.toInt ≤ 400) ∧ (u96.toInt ≤ u109.toInt) ∧ (u109.toInt ≤ (I 3).toInt) ∧ (0 ≤ u108.toInt ∧ u108.toInt ≤ 1) ∧ (u108.toInt = 1 → (u109.toInt < (I 3).toInt ∧ 97 ≤ ((F 2) u109.toNatClampNeg).toInt ∧ ((F 2) u109.toNatClampNeg).toInt ≤ 122)) ∧ ((u96.toInt < (I 3).toInt ∧ ((F 2) u96.toNatClampNeg).toInt ≠ 32) → u109.toInt = u96.toInt) := w107
                    obtain ⟨hw110, hw111, hw112, hw113, hw114, hw115⟩ := w107
                    refine W.eq (g2 := F0 m 186 ls [.int u108]) rfl ?_
                    have hP : va_P D vwCl (MW Y o a (upd I 16 u109) J F G) H := hP
                    have hD : va_D A (MW Y o a (upd I 16 u109) J F G) := hD
                    rcases (show u108.toInt = 1 ∨ u108.toInt = 0 by omega) with c116 | c116
                    · obtain rfl : u108 = 1 := i_is c116 (by decide)
                      have zi1 : (1 : Int32).toInt = 1 := by decide
                      refine W.eq (g2 := F0 m 186 ls [.int 1]) rfl ?_
                      refine lv_if_eq (tgt := 192) hx hb dX11_wordHere_186 (by decide) (fun c117 => ?_) (fun c117 => ?_)
                      · exact absurd c117 (by decide)
                      refine lv_bipush (v := 8) hx hb dX11_wordHere_189 (by decide) ?_
                      refine W.widen (k := 0) (n := 0) (Nat.le_of_ble_eq_true rfl) (Nat.le_of_ble_eq_true rfl) ?_
                      have zi8 : (8 : Int32).toInt = 8 := by decide
                      exact W.iret (v := 8) hx hb hr (fun t ht hW => ⟨⟨(8, u109), rfl, ⟨(show (0 ≤ u109.toInt ∧ u109.toInt ≤ 400) by omega), (show ((I 16).toInt ≤ u109.toInt) by omega), (show (u109.toInt ≤ (I 3).toInt) by omega), (show (-1 ≤ (8 : Int32).toInt ∧ (8 : Int32).toInt ≤ 9) by omega), (show (0 ≤ (8 : Int32).toInt → (u109.toInt < (I 3).toInt ∧ 97 ≤ ((F 2) u109.toNatClampNeg).toInt ∧ ((F 2) u109.toNatClampNeg).toInt ≤ 122)) by omega)⟩, CB.mk ht hP hD⟩, hS.F ht⟩) hS.2.2 dX11_wordHere_191
                    · obtain rfl : u108 = 0 := i_is c116 (by decide)
                      refine W.eq (g2 := F0 m 186 ls [.int 0]) rfl ?_
                      refine lv_if_eq (tgt := 192) hx hb dX11_wordHere_186 (by decide) (fun c118 => ?_) (fun c118 => ?_)
                      rotate_left
                      · exact absurd c118 (by decide)
                      refine lv_aload_n hx hb dX11_wordHere_192 rfl (lv_at hl 0 rfl) ?_
                      refine lv_ldc2 (v := 1936292453) hx hb hown (hg _ kw_1542) dX11_wordHere_193 ?_
                      have zl1936292453 : (1936292453 : Int64).toInt = 1936292453 := by decide
                      refine cga (rn_V (As := [.long 1936292453]) (rest := []) (b := o) (m_isWord l D Y Z H.size o a (upd I 16 u109) J F G  1936292453 (show (0 ≤ u109.toInt ∧ u109.toInt ≤ 400) by omega) (show (0 ≤ (I 3).toInt ∧ (I 3).toInt ≤ 400) by omega) (show (u109.toInt ≤ (I 3).toInt) by omega)) ⟨hx, hb, hml, hown, hg⟩ lk_X11_190 ⟨CP.blind, va_recv hKN.1 hP (ci := 11) (q0 := 0) rfl rfl, CP.at hP hKN hD⟩ ⟨⟨rfl, rfl⟩, ⟨Nat.le_of_ble_eq_true rfl, Nat.le_of_ble_eq_true rfl⟩, ⟨Nat.le_of_ble_eq_true rfl, Nat.le_of_ble_eq_true rfl⟩⟩ hl.1 rfl (Nat.le_of_ble_eq_true rfl) dX11_wordHere_196) hP hD hS hA (fun u119 H locs w120 hP hD hS => ?_)
                      obtain ⟨u121, u122⟩ := u119
                      have w120 : (0 ≤ u122.toInt ∧ u122.toInt ≤ 400) ∧ (u109.toInt ≤ u122.toInt) ∧ (u122.toInt ≤ (I 3).toInt) ∧ (0 ≤ u121.toInt ∧ u121.toInt ≤ 1) ∧ (u121.toInt = 1 → (u122.toInt < (I 3).toInt ∧ 97 ≤ ((F 2) u122.toNatClampNeg).toInt ∧ ((F 2) u122.toNatClampNeg).toInt ≤ 122)) ∧ ((u109.toInt < (I 3).toInt ∧ ((F 2) u109.toNatClampNeg).toInt ≠ 32) → u122.toInt = u109.toInt) := w120
                      obtain ⟨hw123, hw124, hw125, hw126, hw127, hw128⟩ := w120
                      refine W.eq (g2 := F0 m 199 ls [.int u121]) rfl ?_
                      have hP : va_P D vwCl (MW Y o a (upd I 16 u122) J F G) H := hP
                      have hD : va_D A (MW Y o a (upd I 16 u122) J F G) := hD
                      rcases (show u121.toInt = 1 ∨ u121.toInt = 0 by omega) with c129 | c129
                      · obtain rfl : u121 = 1 := i_is c129 (by decide)
                        have zi1 : (1 : Int32).toInt = 1 := by decide
                        refine W.eq (g2 := F0 m 199 ls [.int 1]) rfl ?_
                        refine lv_if_eq (tgt := 207) hx hb dX11_wordHere_199 (by decide) (fun c131 => ?_) (fun c131 => ?_)
                        · exact absurd c131 (by decide)
                        refine lv_bipush (v := 9) hx hb dX11_wordHere_202 (by decide) ?_
                        refine lv_goto (tgt := 208) hx hb dX11_wordHere_204 (by decide) ?_
                        refine W.widen (k := 0) (n := 0) (Nat.le_of_ble_eq_true rfl) (Nat.le_of_ble_eq_true rfl) ?_
                        have zi9 : (9 : Int32).toInt = 9 := by decide
                        exact W.iret (v := 9) hx hb hr (fun t ht hW => ⟨⟨(9, u122), rfl, ⟨(show (0 ≤ u122.toInt ∧ u122.toInt ≤ 400) by omega), (show ((I 16).toInt ≤ u122.toInt) by omega), (show (u122.toInt ≤ (I 3).toInt) by omega), (show (-1 ≤ (9 : Int32).toInt ∧ (9 : Int32).toInt ≤ 9) by omega), (show (0 ≤ (9 : Int32).toInt → (u122.toInt < (I 3).toInt ∧ 97 ≤ ((F 2) u122.toNatClampNeg).toInt ∧ ((F 2) u122.toNatClampNeg).toInt ≤ 122)) by omega)⟩, CB.mk ht hP hD⟩, hS.F ht⟩) hS.2.2 dX11_wordHere_208
                      · obtain rfl : u121 = 0 := i_is c129 (by decide)
                        refine W.eq (g2 := F0 m 199 ls [.int 0]) rfl ?_
                        refine lv_if_eq (tgt := 207) hx hb dX11_wordHere_199 (by decide) (fun c133 => ?_) (fun c133 => ?_)
                        rotate_left
                        · exact absurd c133 (by decide)
                        refine lv_iconst (v := (-1)) hx hb dX11_wordHere_207 (by decide) ?_
                        refine W.widen (k := 0) (n := 0) (Nat.le_of_ble_eq_true rfl) (Nat.le_of_ble_eq_true rfl) ?_
                        have zim1 : ((-1) : Int32).toInt = -1 := by decide
                        exact W.iret (v := (-1)) hx hb hr (fun t ht hW => ⟨⟨((-1), u122), rfl, ⟨(show (0 ≤ u122.toInt ∧ u122.toInt ≤ 400) by omega), (show ((I 16).toInt ≤ u122.toInt) by omega), (show (u122.toInt ≤ (I 3).toInt) by omega), (show (-1 ≤ ((-1) : Int32).toInt ∧ ((-1) : Int32).toInt ≤ 9) by omega), (show (0 ≤ ((-1) : Int32).toInt → (u122.toInt < (I 3).toInt ∧ 97 ≤ ((F 2) u122.toNatClampNeg).toInt ∧ ((F 2) u122.toNatClampNeg).toInt ≤ 122)) by omega)⟩, CB.mk ht hP hD⟩, hS.F ht⟩) hS.2.2 dX11_wordHere_208
  · skip
    have c1 := i_nle (show (6 : Int32).toInt = 6 by decide) (Eq.refl (I 19).toInt) c1
    refine lv_aload_n hx hb dX11_wordHere_9 rfl (lv_at hl 0 rfl) ?_
    refine lv_ldc2 (v := 1752135026) hx hb hown (hg _ kw_1538) dX11_wordHere_10 ?_
    have zl1752135026 : (1752135026 : Int64).toInt = 1752135026 := by decide
    refine cga (rn_V (As := [.long 1752135026]) (rest := []) (b := o) (m_isWord l D Y Z H.size o a I J F G  1752135026 (show (0 ≤ (I 16).toInt ∧ (I 16).toInt ≤ 400) by omega) (show (0 ≤ (I 3).toInt ∧ (I 3).toInt ≤ 400) by omega) (show ((I 16).toInt ≤ (I 3).toInt) by omega)) ⟨hx, hb, hml, hown, hg⟩ lk_X11_190 ⟨CP.blind, va_recv hKN.1 hP (ci := 11) (q0 := 0) rfl rfl, CP.at hP hKN hD⟩ ⟨⟨rfl, rfl⟩, ⟨Nat.le_of_ble_eq_true rfl, Nat.le_of_ble_eq_true rfl⟩, ⟨Nat.le_of_ble_eq_true rfl, Nat.le_of_ble_eq_true rfl⟩⟩ hl.1 rfl (Nat.le_of_ble_eq_true rfl) dX11_wordHere_13) hP hD hS hA (fun u134 H locs w135 hP hD hS => ?_)
    obtain ⟨u136, u137⟩ := u134
    have w135 : (0 ≤ u137.toInt ∧ u137.toInt ≤ 400) ∧ ((I 16).toInt ≤ u137.toInt) ∧ (u137.toInt ≤ (I 3).toInt) ∧ (0 ≤ u136.toInt ∧ u136.toInt ≤ 1) ∧ (u136.toInt = 1 → (u137.toInt < (I 3).toInt ∧ 97 ≤ ((F 2) u137.toNatClampNeg).toInt ∧ ((F 2) u137.toNatClampNeg).toInt ≤ 122)) ∧ (((I 16).toInt < (I 3).toInt ∧ ((F 2) (I 16).toNatClampNeg).toInt ≠ 32) → u137.toInt = (I 16).toInt) := w135
    obtain ⟨hw138, hw139, hw140, hw141, hw142, hw143⟩ := w135
    refine W.eq (g2 := F0 m 16 ls [.int u136]) rfl ?_
    have hP : va_P D vwCl (MW Y o a (upd I 16 u137) J F G) H := hP
    have hD : va_D A (MW Y o a (upd I 16 u137) J F G) := hD
    rcases (show u136.toInt = 1 ∨ u136.toInt = 0 by omega) with c144 | c144
    · obtain rfl : u136 = 1 := i_is c144 (by decide)
      have zi1 : (1 : Int32).toInt = 1 := by decide
      refine W.eq (g2 := F0 m 16 ls [.int 1]) rfl ?_
      refine lv_if_eq (tgt := 23) hx hb dX11_wordHere_16 (by decide) (fun c146 => ?_) (fun c146 => ?_)
      · exact absurd c146 (by decide)
      refine lv_iconst (v := 0) hx hb dX11_wordHere_19 (by decide) ?_
      refine lv_goto (tgt := 80) hx hb dX11_wordHere_20 (by decide) ?_
      refine W.widen (k := 0) (n := 0) (Nat.le_of_ble_eq_true rfl) (Nat.le_of_ble_eq_true rfl) ?_
      have zi0 : (0 : Int32).toInt = 0 := by decide
      exact W.iret (v := 0) hx hb hr (fun t ht hW => ⟨⟨(0, u137), rfl, ⟨(show (0 ≤ u137.toInt ∧ u137.toInt ≤ 400) by omega), (show ((I 16).toInt ≤ u137.toInt) by omega), (show (u137.toInt ≤ (I 3).toInt) by omega), (show (-1 ≤ (0 : Int32).toInt ∧ (0 : Int32).toInt ≤ 9) by omega), (show (0 ≤ (0 : Int32).toInt → (u137.toInt < (I 3).toInt ∧ 97 ≤ ((F 2) u137.toNatClampNeg).toInt ∧ ((F 2) u137.toNatClampNeg).toInt ≤ 122)) by omega)⟩, CB.mk ht hP hD⟩, hS.F ht⟩) hS.2.2 dX11_wordHere_80
    · obtain rfl : u136 = 0 := i_is c144 (by decide)
      have zi0 : (0 : Int32).toInt = 0 := by decide
      refine W.eq (g2 := F0 m 16 ls [.int 0]) rfl ?_
      refine lv_if_eq (tgt := 23) hx hb dX11_wordHere_16 (by decide) (fun c200 => ?_) (fun c200 => ?_)
      rotate_left
      · exact absurd c200 (by decide)
      refine lv_aload_n hx hb dX11_wordHere_23 rfl (lv_at hl 0 rfl) ?_
      refine lv_ldc2 (v := 126879263846254) hx hb hown (hg _ kw_1539) dX11_wordHere_24 ?_
      have zl126879263846254 : (126879263846254 : Int64).toInt = 126879263846254 := by decide
      refine cga (rn_V (As := [.long 126879263846254]) (rest := []) (b := o) (m_isWord l D Y Z H.size o a (upd I 16 u137) J F G  126879263846254 (show (0 ≤ u137.toInt ∧ u137.toInt ≤ 400) by omega) (show (0 ≤ (I 3).toInt ∧ (I 3).toInt ≤ 400) by omega) (show (u137.toInt ≤ (I 3).toInt) by omega)) ⟨hx, hb, hml, hown, hg⟩ lk_X11_190 ⟨CP.blind, va_recv hKN.1 hP (ci := 11) (q0 := 0) rfl rfl, CP.at hP hKN hD⟩ ⟨⟨rfl, rfl⟩, ⟨Nat.le_of_ble_eq_true rfl, Nat.le_of_ble_eq_true rfl⟩, ⟨Nat.le_of_ble_eq_true rfl, Nat.le_of_ble_eq_true rfl⟩⟩ hl.1 rfl (Nat.le_of_ble_eq_true rfl) dX11_wordHere_27) hP hD hS hA (fun u201 H locs w202 hP hD hS => ?_)
      obtain ⟨u203, u204⟩ := u201
      have w202 : (0 ≤ u204.toInt ∧ u204.toInt ≤ 400) ∧ (u137.toInt ≤ u204.toInt) ∧ (u204.toInt ≤ (I 3).toInt) ∧ (0 ≤ u203.toInt ∧ u203.toInt ≤ 1) ∧ (u203.toInt = 1 → (u204.toInt < (I 3).toInt ∧ 97 ≤ ((F 2) u204.toNatClampNeg).toInt ∧ ((F 2) u204.toNatClampNeg).toInt ≤ 122)) ∧ ((u137.toInt < (I 3).toInt ∧ ((F 2) u137.toNatClampNeg).toInt ≠ 32) → u204.toInt = u137.toInt) := w202
      obtain ⟨hw205, hw206, hw207, hw208, hw209, hw210⟩ := w202
      refine W.eq (g2 := F0 m 30 ls [.int u203]) rfl ?_
      have hP : va_P D vwCl (MW Y o a (upd I 16 u204) J F G) H := hP
      have hD : va_D A (MW Y o a (upd I 16 u204) J F G) := hD
      rcases (show u203.toInt = 1 ∨ u203.toInt = 0 by omega) with c211 | c211
      · obtain rfl : u203 = 1 := i_is c211 (by decide)
        have zi1 : (1 : Int32).toInt = 1 := by decide
        refine W.eq (g2 := F0 m 30 ls [.int 1]) rfl ?_
        refine lv_if_eq (tgt := 37) hx hb dX11_wordHere_30 (by decide) (fun c213 => ?_) (fun c213 => ?_)
        · exact absurd c213 (by decide)
        refine lv_iconst (v := 1) hx hb dX11_wordHere_33 (by decide) ?_
        refine lv_goto (tgt := 80) hx hb dX11_wordHere_34 (by decide) ?_
        refine W.widen (k := 0) (n := 0) (Nat.le_of_ble_eq_true rfl) (Nat.le_of_ble_eq_true rfl) ?_
        exact W.iret (v := 1) hx hb hr (fun t ht hW => ⟨⟨(1, u204), rfl, ⟨(show (0 ≤ u204.toInt ∧ u204.toInt ≤ 400) by omega), (show ((I 16).toInt ≤ u204.toInt) by omega), (show (u204.toInt ≤ (I 3).toInt) by omega), (show (-1 ≤ (1 : Int32).toInt ∧ (1 : Int32).toInt ≤ 9) by omega), (show (0 ≤ (1 : Int32).toInt → (u204.toInt < (I 3).toInt ∧ 97 ≤ ((F 2) u204.toNatClampNeg).toInt ∧ ((F 2) u204.toNatClampNeg).toInt ≤ 122)) by omega)⟩, CB.mk ht hP hD⟩, hS.F ht⟩) hS.2.2 dX11_wordHere_80
      · obtain rfl : u203 = 0 := i_is c211 (by decide)
        refine W.eq (g2 := F0 m 30 ls [.int 0]) rfl ?_
        refine lv_if_eq (tgt := 37) hx hb dX11_wordHere_30 (by decide) (fun c254 => ?_) (fun c254 => ?_)
        rotate_left
        · exact absurd c254 (by decide)
        refine lv_aload_n hx hb dX11_wordHere_37 rfl (lv_at hl 0 rfl) ?_
        refine lv_ldc2 (v := 1937006962) hx hb hown (hg _ kw_1540) dX11_wordHere_38 ?_
        have zl1937006962 : (1937006962 : Int64).toInt = 1937006962 := by decide
        refine cga (rn_V (As := [.long 1937006962]) (rest := []) (b := o) (m_isWord l D Y Z H.size o a (upd I 16 u204) J F G  1937006962 (show (0 ≤ u204.toInt ∧ u204.toInt ≤ 400) by omega) (show (0 ≤ (I 3).toInt ∧ (I 3).toInt ≤ 400) by omega) (show (u204.toInt ≤ (I 3).toInt) by omega)) ⟨hx, hb, hml, hown, hg⟩ lk_X11_190 ⟨CP.blind, va_recv hKN.1 hP (ci := 11) (q0 := 0) rfl rfl, CP.at hP hKN hD⟩ ⟨⟨rfl, rfl⟩, ⟨Nat.le_of_ble_eq_true rfl, Nat.le_of_ble_eq_true rfl⟩, ⟨Nat.le_of_ble_eq_true rfl, Nat.le_of_ble_eq_true rfl⟩⟩ hl.1 rfl (Nat.le_of_ble_eq_true rfl) dX11_wordHere_41) hP hD hS hA (fun u255 H locs w256 hP hD hS => ?_)
        obtain ⟨u257, u258⟩ := u255
        have w256 : (0 ≤ u258.toInt ∧ u258.toInt ≤ 400) ∧ (u204.toInt ≤ u258.toInt) ∧ (u258.toInt ≤ (I 3).toInt) ∧ (0 ≤ u257.toInt ∧ u257.toInt ≤ 1) ∧ (u257.toInt = 1 → (u258.toInt < (I 3).toInt ∧ 97 ≤ ((F 2) u258.toNatClampNeg).toInt ∧ ((F 2) u258.toNatClampNeg).toInt ≤ 122)) ∧ ((u204.toInt < (I 3).toInt ∧ ((F 2) u204.toNatClampNeg).toInt ≠ 32) → u258.toInt = u204.toInt) := w256
        obtain ⟨hw259, hw260, hw261, hw262, hw263, hw264⟩ := w256
        refine W.eq (g2 := F0 m 44 ls [.int u257]) rfl ?_
        have hP : va_P D vwCl (MW Y o a (upd I 16 u258) J F G) H := hP
        have hD : va_D A (MW Y o a (upd I 16 u258) J F G) := hD
        rcases (show u257.toInt = 1 ∨ u257.toInt = 0 by omega) with c265 | c265
        · obtain rfl : u257 = 1 := i_is c265 (by decide)
          have zi1 : (1 : Int32).toInt = 1 := by decide
          refine W.eq (g2 := F0 m 44 ls [.int 1]) rfl ?_
          refine lv_if_eq (tgt := 51) hx hb dX11_wordHere_44 (by decide) (fun c267 => ?_) (fun c267 => ?_)
          · exact absurd c267 (by decide)
          refine lv_iconst (v := 2) hx hb dX11_wordHere_47 (by decide) ?_
          refine lv_goto (tgt := 80) hx hb dX11_wordHere_48 (by decide) ?_
          refine W.widen (k := 0) (n := 0) (Nat.le_of_ble_eq_true rfl) (Nat.le_of_ble_eq_true rfl) ?_
          have zi2 : (2 : Int32).toInt = 2 := by decide
          exact W.iret (v := 2) hx hb hr (fun t ht hW => ⟨⟨(2, u258), rfl, ⟨(show (0 ≤ u258.toInt ∧ u258.toInt ≤ 400) by omega), (show ((I 16).toInt ≤ u258.toInt) by omega), (show (u258.toInt ≤ (I 3).toInt) by omega), (show (-1 ≤ (2 : Int32).toInt ∧ (2 : Int32).toInt ≤ 9) by omega), (show (0 ≤ (2 : Int32).toInt → (u258.toInt < (I 3).toInt ∧ 97 ≤ ((F 2) u258.toNatClampNeg).toInt ∧ ((F 2) u258.toNatClampNeg).toInt ≤ 122)) by omega)⟩, CB.mk ht hP hD⟩, hS.F ht⟩) hS.2.2 dX11_wordHere_80
        · obtain rfl : u257 = 0 := i_is c265 (by decide)
          refine W.eq (g2 := F0 m 44 ls [.int 0]) rfl ?_
          refine lv_if_eq (tgt := 51) hx hb dX11_wordHere_44 (by decide) (fun c295 => ?_) (fun c295 => ?_)
          rotate_left
          · exact absurd c295 (by decide)
          refine lv_aload_n hx hb dX11_wordHere_51 rfl (lv_at hl 0 rfl) ?_
          refine lv_ldc2 (v := 1667591276) hx hb hown (hg _ kw_1541) dX11_wordHere_52 ?_
          have zl1667591276 : (1667591276 : Int64).toInt = 1667591276 := by decide
          refine cga (rn_V (As := [.long 1667591276]) (rest := []) (b := o) (m_isWord l D Y Z H.size o a (upd I 16 u258) J F G  1667591276 (show (0 ≤ u258.toInt ∧ u258.toInt ≤ 400) by omega) (show (0 ≤ (I 3).toInt ∧ (I 3).toInt ≤ 400) by omega) (show (u258.toInt ≤ (I 3).toInt) by omega)) ⟨hx, hb, hml, hown, hg⟩ lk_X11_190 ⟨CP.blind, va_recv hKN.1 hP (ci := 11) (q0 := 0) rfl rfl, CP.at hP hKN hD⟩ ⟨⟨rfl, rfl⟩, ⟨Nat.le_of_ble_eq_true rfl, Nat.le_of_ble_eq_true rfl⟩, ⟨Nat.le_of_ble_eq_true rfl, Nat.le_of_ble_eq_true rfl⟩⟩ hl.1 rfl (Nat.le_of_ble_eq_true rfl) dX11_wordHere_55) hP hD hS hA (fun u296 H locs w297 hP hD hS => ?_)
          obtain ⟨u298, u299⟩ := u296
          have w297 : (0 ≤ u299.toInt ∧ u299.toInt ≤ 400) ∧ (u258.toInt ≤ u299.toInt) ∧ (u299.toInt ≤ (I 3).toInt) ∧ (0 ≤ u298.toInt ∧ u298.toInt ≤ 1) ∧ (u298.toInt = 1 → (u299.toInt < (I 3).toInt ∧ 97 ≤ ((F 2) u299.toNatClampNeg).toInt ∧ ((F 2) u299.toNatClampNeg).toInt ≤ 122)) ∧ ((u258.toInt < (I 3).toInt ∧ ((F 2) u258.toNatClampNeg).toInt ≠ 32) → u299.toInt = u258.toInt) := w297
          obtain ⟨hw300, hw301, hw302, hw303, hw304, hw305⟩ := w297
          refine W.eq (g2 := F0 m 58 ls [.int u298]) rfl ?_
          have hP : va_P D vwCl (MW Y o a (upd I 16 u299) J F G) H := hP
          have hD : va_D A (MW Y o a (upd I 16 u299) J F G) := hD
          rcases (show u298.toInt = 1 ∨ u298.toInt = 0 by omega) with c306 | c306
          · obtain rfl : u298 = 1 := i_is c306 (by decide)
            have zi1 : (1 : Int32).toInt = 1 := by decide
            refine W.eq (g2 := F0 m 58 ls [.int 1]) rfl ?_
            refine lv_if_eq (tgt := 65) hx hb dX11_wordHere_58 (by decide) (fun c308 => ?_) (fun c308 => ?_)
            · exact absurd c308 (by decide)
            refine lv_iconst (v := 3) hx hb dX11_wordHere_61 (by decide) ?_
            refine lv_goto (tgt := 80) hx hb dX11_wordHere_62 (by decide) ?_
            refine W.widen (k := 0) (n := 0) (Nat.le_of_ble_eq_true rfl) (Nat.le_of_ble_eq_true rfl) ?_
            have zi3 : (3 : Int32).toInt = 3 := by decide
            exact W.iret (v := 3) hx hb hr (fun t ht hW => ⟨⟨(3, u299), rfl, ⟨(show (0 ≤ u299.toInt ∧ u299.toInt ≤ 400) by omega), (show ((I 16).toInt ≤ u299.toInt) by omega), (show (u299.toInt ≤ (I 3).toInt) by omega), (show (-1 ≤ (3 : Int32).toInt ∧ (3 : Int32).toInt ≤ 9) by omega), (show (0 ≤ (3 : Int32).toInt → (u299.toInt < (I 3).toInt ∧ 97 ≤ ((F 2) u299.toNatClampNeg).toInt ∧ ((F 2) u299.toNatClampNeg).toInt ≤ 122)) by omega)⟩, CB.mk ht hP hD⟩, hS.F ht⟩) hS.2.2 dX11_wordHere_80
          · obtain rfl : u298 = 0 := i_is c306 (by decide)
            refine W.eq (g2 := F0 m 58 ls [.int 0]) rfl ?_
            refine lv_if_eq (tgt := 65) hx hb dX11_wordHere_58 (by decide) (fun c323 => ?_) (fun c323 => ?_)
            rotate_left
            · exact absurd c323 (by decide)
            refine lv_aload_n hx hb dX11_wordHere_65 rfl (lv_at hl 0 rfl) ?_
            refine lv_ldc2 (v := 1936292453) hx hb hown (hg _ kw_1542) dX11_wordHere_66 ?_
            have zl1936292453 : (1936292453 : Int64).toInt = 1936292453 := by decide
            refine cga (rn_V (As := [.long 1936292453]) (rest := []) (b := o) (m_isWord l D Y Z H.size o a (upd I 16 u299) J F G  1936292453 (show (0 ≤ u299.toInt ∧ u299.toInt ≤ 400) by omega) (show (0 ≤ (I 3).toInt ∧ (I 3).toInt ≤ 400) by omega) (show (u299.toInt ≤ (I 3).toInt) by omega)) ⟨hx, hb, hml, hown, hg⟩ lk_X11_190 ⟨CP.blind, va_recv hKN.1 hP (ci := 11) (q0 := 0) rfl rfl, CP.at hP hKN hD⟩ ⟨⟨rfl, rfl⟩, ⟨Nat.le_of_ble_eq_true rfl, Nat.le_of_ble_eq_true rfl⟩, ⟨Nat.le_of_ble_eq_true rfl, Nat.le_of_ble_eq_true rfl⟩⟩ hl.1 rfl (Nat.le_of_ble_eq_true rfl) dX11_wordHere_69) hP hD hS hA (fun u324 H locs w325 hP hD hS => ?_)
            obtain ⟨u326, u327⟩ := u324
            have w325 : (0 ≤ u327.toInt ∧ u327.toInt ≤ 400) ∧ (u299.toInt ≤ u327.toInt) ∧ (u327.toInt ≤ (I 3).toInt) ∧ (0 ≤ u326.toInt ∧ u326.toInt ≤ 1) ∧ (u326.toInt = 1 → (u327.toInt < (I 3).toInt ∧ 97 ≤ ((F 2) u327.toNatClampNeg).toInt ∧ ((F 2) u327.toNatClampNeg).toInt ≤ 122)) ∧ ((u299.toInt < (I 3).toInt ∧ ((F 2) u299.toNatClampNeg).toInt ≠ 32) → u327.toInt = u299.toInt) := w325
            obtain ⟨hw328, hw329, hw330, hw331, hw332, hw333⟩ := w325
            refine W.eq (g2 := F0 m 72 ls [.int u326]) rfl ?_
            have hP : va_P D vwCl (MW Y o a (upd I 16 u327) J F G) H := hP
            have hD : va_D A (MW Y o a (upd I 16 u327) J F G) := hD
            rcases (show u326.toInt = 1 ∨ u326.toInt = 0 by omega) with c334 | c334
            · obtain rfl : u326 = 1 := i_is c334 (by decide)
              have zi1 : (1 : Int32).toInt = 1 := by decide
              refine W.eq (g2 := F0 m 72 ls [.int 1]) rfl ?_
              refine lv_if_eq (tgt := 79) hx hb dX11_wordHere_72 (by decide) (fun c336 => ?_) (fun c336 => ?_)
              · exact absurd c336 (by decide)
              refine lv_iconst (v := 4) hx hb dX11_wordHere_75 (by decide) ?_
              refine lv_goto (tgt := 80) hx hb dX11_wordHere_76 (by decide) ?_
              refine W.widen (k := 0) (n := 0) (Nat.le_of_ble_eq_true rfl) (Nat.le_of_ble_eq_true rfl) ?_
              have zi4 : (4 : Int32).toInt = 4 := by decide
              exact W.iret (v := 4) hx hb hr (fun t ht hW => ⟨⟨(4, u327), rfl, ⟨(show (0 ≤ u327.toInt ∧ u327.toInt ≤ 400) by omega), (show ((I 16).toInt ≤ u327.toInt) by omega), (show (u327.toInt ≤ (I 3).toInt) by omega), (show (-1 ≤ (4 : Int32).toInt ∧ (4 : Int32).toInt ≤ 9) by omega), (show (0 ≤ (4 : Int32).toInt → (u327.toInt < (I 3).toInt ∧ 97 ≤ ((F 2) u327.toNatClampNeg).toInt ∧ ((F 2) u327.toNatClampNeg).toInt ≤ 122)) by omega)⟩, CB.mk ht hP hD⟩, hS.F ht⟩) hS.2.2 dX11_wordHere_80
            · obtain rfl : u326 = 0 := i_is c334 (by decide)
              refine W.eq (g2 := F0 m 72 ls [.int 0]) rfl ?_
              refine lv_if_eq (tgt := 79) hx hb dX11_wordHere_72 (by decide) (fun c338 => ?_) (fun c338 => ?_)
              rotate_left
              · exact absurd c338 (by decide)
              refine lv_iconst (v := (-1)) hx hb dX11_wordHere_79 (by decide) ?_
              refine W.widen (k := 0) (n := 0) (Nat.le_of_ble_eq_true rfl) (Nat.le_of_ble_eq_true rfl) ?_
              have zim1 : ((-1) : Int32).toInt = -1 := by decide
              exact W.iret (v := (-1)) hx hb hr (fun t ht hW => ⟨⟨((-1), u327), rfl, ⟨(show (0 ≤ u327.toInt ∧ u327.toInt ≤ 400) by omega), (show ((I 16).toInt ≤ u327.toInt) by omega), (show (u327.toInt ≤ (I 3).toInt) by omega), (show (-1 ≤ ((-1) : Int32).toInt ∧ ((-1) : Int32).toInt ≤ 9) by omega), (show (0 ≤ ((-1) : Int32).toInt → (u327.toInt < (I 3).toInt ∧ 97 ≤ ((F 2) u327.toNatClampNeg).toInt ∧ ((F 2) u327.toNatClampNeg).toInt ≤ 122)) by omega)⟩, CB.mk ht hP hD⟩, hS.F ht⟩) hS.2.2 dX11_wordHere_80
