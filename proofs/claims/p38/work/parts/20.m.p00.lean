set_option maxHeartbeats 4000000 in
set_option maxRecDepth 100000 in
theorem m_clauseOf (l : Launch) (D : va_G) (Y : Nat → ClassId) (Z : Nat → Nat) (sz : Nat) (o : Nat) (a : Nat → Nat) (I : Nat → Int32) (J : Nat → Int64) (F : Nat → Nat → Int32) (G : Nat → Nat → Int64) (p1 : Int32) (hk_0 : (0 ≤ (I 16).toInt ∧ (I 16).toInt ≤ 400)) (hk_1 : (0 ≤ (I 3).toInt ∧ (I 3).toInt ≤ 400)) (hk_2 : ((I 16).toInt ≤ (I 3).toInt)) (hk_3 : (0 ≤ (I 17).toInt ∧ (I 17).toInt ≤ 4000)) (hk_4 : (0 ≤ (I 20).toInt ∧ (I 20).toInt ≤ 60)) (hk_5 : (0 ≤ (I 19).toInt ∧ (I 19).toInt ≤ 17)) (hk_6 : (((F 6) (I 19).toNatClampNeg).toInt ≤ (I 16).toInt)) (hk_7 : (((F 8) (I 19).toNatClampNeg).toInt ≤ 11)) (hr_PT : PSt (F 4) (F 8) (F 7) (F 5) (F 6) (I 19).toNatClampNeg (((F 6) (I 19).toNatClampNeg).toInt).toNat 0 ((I 20).toInt).toNat) : Met l yX11_clauseOf (.code yX11_clauseOf cX11_clauseOf 3 (some .boolean) :: GW) ({ frames := 9, cells := 0, slots := 0, locals := 198 }) (va_Pc [.ref o, .int p1] (CP D Y Z (MW Y o a I J F G) sz)) (QG (S := Int32 × Int32 × Int32 × Int32 × Int32 × Int32 × Int32 × (Nat → Int32) × (Nat → Int32) × (Nat → Int32) × (Nat → Int32) × (Nat → Int32)) (fun u => some (.int u.1)) (fun u => (0 ≤ u.2.1.toInt ∧ u.2.1.toInt ≤ 400) ∧ ((I 16).toInt ≤ u.2.1.toInt) ∧ (u.2.1.toInt ≤ (I 3).toInt) ∧ (0 ≤ u.2.2.1.toInt ∧ u.2.2.1.toInt ≤ 4000) ∧ (0 ≤ u.2.2.2.2.1.toInt ∧ u.2.2.2.2.1.toInt ≤ 60) ∧ ((I 20).toInt ≤ u.2.2.2.2.1.toInt) ∧ (0 ≤ u.1.toInt ∧ u.1.toInt ≤ 1) ∧ (u.1.toInt = 0 → 1 ≤ u.2.2.1.toInt) ∧ (u.1.toInt = 1 → (u.2.2.2.2.2.2.2.2.2.2.1 (I 19).toNatClampNeg).toInt ≤ u.2.1.toInt) ∧ (u.1.toInt = 1 → (u.2.2.2.2.2.2.2.2.1 (I 19).toNatClampNeg).toInt ≤ ((F 8) (I 19).toNatClampNeg).toInt + 1) ∧ (u.1.toInt = 1 → PSt (F 4) u.2.2.2.2.2.2.2.2.1 u.2.2.2.2.2.2.2.1 u.2.2.2.2.2.2.2.2.2.1 u.2.2.2.2.2.2.2.2.2.2.1 (I 19).toNatClampNeg ((u.2.2.2.2.2.2.2.2.2.2.1 (I 19).toNatClampNeg).toInt).toNat 0 (u.2.2.2.2.1.toInt).toNat) ∧ TC (F 4) u.2.2.2.2.2.2.2.2.1 u.2.2.2.2.2.2.2.1 u.2.2.2.2.2.2.2.2.2.1) (fun u => CB D (MW Y o a (upd (upd (upd (upd (upd (upd I 16 u.2.1) 17 u.2.2.1) 18 u.2.2.2.1) 20 u.2.2.2.2.1) 21 u.2.2.2.2.2.1) 24 u.2.2.2.2.2.2.1) J (vf_upd (vf_upd (vf_upd (vf_upd (vf_upd F 5 u.2.2.2.2.2.2.2.2.2.1) 6 u.2.2.2.2.2.2.2.2.2.2.1) 7 u.2.2.2.2.2.2.2.1) 8 u.2.2.2.2.2.2.2.2.1) 23 u.2.2.2.2.2.2.2.2.2.2.2) G) (va_A (MW Y o a I J F G) sz)) (va_A (MW Y o a I J F G) sz)) 0 0 (va_A (MW Y o a I J F G) sz) := by
  refine Met.ofW (cc := cX11_clauseOf) (maxL := 3) (ret := (some .boolean)) (by decide) rfl ?_
  intro p e s m args below meth c s₁ B hml hv
  obtain ⟨rfl, hsz, hP, hKN, hD0⟩ := hv
  have hx := B.exec
  have hb := B.bytes
  have hr := B.returns
  have hts := atoms_spec (ws := .code yX11_clauseOf cX11_clauseOf 3 (some .boolean) :: GW) B.pre
  have hg : ∀ w ∈ GW, w.before _ s = true := fun w h => hts w (List.mem_cons_of_mem _ h)
  have hown : s.vm.findClass RX11 = some m.cls := findClass_of_methodNamed B.named
  have hlocks := B.notSynchronized
  subst hsz
  have hD := hD0.self (sz := s.heap.size)
  generalize hAe : va_A (MW Y o a I J F G) s.heap.size = A at hD ⊢
  have hA : ∀ q : Nat, s.heap.size ≤ q → A q := fun q h => by rw [← hAe]; exact Or.inr h
  clear hAe hD0 hts B
  have hl := lv_entry ([.ref o, .int p1]) (n := 3) (Nat.le_of_ble_eq_true rfl)
  rw [lg_entry_eq]
  generalize (lg_sl ([.ref o, .int p1]) ++ List.replicate (3 - (lg_sl ([.ref o, .int p1])).length) Slot.unset).toArray = ls at hl ⊢
  have hl : lv_has ls 3 [(0, .ref o), (1, .int p1)] := hl
  refine w_start (A0 := A) hP (fun H locs hP hS => ?_)
  have hl0 := PS_len hr_PT
  have hc0 := PS_ct hr_PT
  have hd0 := PS_dep hr_PT
  refine lv_aload_n hx hb dX11_clauseOf_0 rfl (lv_at hl 0 rfl) ?_
  refine cga (rn_V (As := []) (rest := []) (b := o) (m_passWord l D Y Z H.size o a I J F G   (show (0 ≤ (I 16).toInt ∧ (I 16).toInt ≤ 400) by omega) (show (0 ≤ (I 3).toInt ∧ (I 3).toInt ≤ 400) by omega) (show ((I 16).toInt ≤ (I 3).toInt) by omega)) ⟨hx, hb, hml, hown, hg⟩ lk_X11_194 ⟨CP.blind, va_recv hKN.1 hP (ci := 11) (q0 := 0) rfl rfl, CP.at hP hKN hD⟩ ⟨⟨rfl, rfl⟩, ⟨Nat.le_of_ble_eq_true rfl, Nat.le_of_ble_eq_true rfl⟩, ⟨Nat.le_of_ble_eq_true rfl, Nat.le_of_ble_eq_true rfl⟩⟩ hl.1 rfl (Nat.le_of_ble_eq_true rfl) dX11_clauseOf_1) hP hD hS hA (fun u1 H locs w2 hP hD hS => ?_)
  obtain ⟨hw4, hw5, hw6, hw7⟩ : (0 ≤ u1.toInt ∧ u1.toInt ≤ 400) ∧ ((I 16).toInt ≤ u1.toInt) ∧ (u1.toInt ≤ (I 3).toInt) ∧ ((97 ≤ ((F 2) (I 16).toNatClampNeg).toInt ∧ ((F 2) (I 16).toNatClampNeg).toInt ≤ 122 ∧ (I 16).toInt < (I 3).toInt) → (I 16).toInt + 1 ≤ u1.toInt) := w2
  refine W.eq (g2 := F0 m 4 ls []) rfl ?_
  have hP : va_P D vwCl (MW Y o a (upd I 16 u1) J F G) H := hP
  have hD : va_D A (MW Y o a (upd I 16 u1) J F G) := hD
  refine lv_bipush (v := 60) hx hb dX11_clauseOf_4 (by decide) ?_
  refine lv_aload_n hx hb dX11_clauseOf_6 rfl (lv_at hl 0 rfl) ?_
  refine va_get (D := D) (ci := 11) (v := .int (I 19)) (C := RX11) (T := TX11) (N := 49) hx hb hg inGX11 hown hKN.1 hP 0 rfl rfl 19 (by decide) (hg _ kw_1227) (fun _ h9 => h9) rfl dX11_clauseOf_7 ?_
  refine lv_imul hx hb dX11_clauseOf_10 ?_
  refine lv_topi (fun v8 ev8 => ?_)
  have hv8 := i_mul (show (60 : Int32).toInt = 60 by decide) (Eq.refl (I 19).toInt) ev8 (by omega) (by omega)
  refine lv_iconst (v := 5) hx hb dX11_clauseOf_11 (by decide) ?_
  refine lv_aload_n hx hb dX11_clauseOf_12 rfl (lv_at hl 0 rfl) ?_
  refine va_get (D := D) (ci := 11) (v := .ref (a 8)) (C := RX11) (T := TX11) (N := 49) hx hb hg inGX11 hown hKN.1 hP 0 rfl rfl 8 (by decide) (hg _ kw_1216) (fun _ h9 => h9) rfl dX11_clauseOf_13 ?_
  refine lv_aload_n hx hb dX11_clauseOf_16 rfl (lv_at hl 0 rfl) ?_
  refine va_get (D := D) (ci := 11) (v := .int (I 19)) (C := RX11) (T := TX11) (N := 49) hx hb hg inGX11 hown hKN.1 hP 0 rfl rfl 19 (by decide) (hg _ kw_1227) (fun _ h9 => h9) rfl dX11_clauseOf_17 ?_
  refine va_iald hx hb hKN.1 hP 8 0 rfl rfl (vp_in_iff.mpr ⟨by omega, by omega⟩) dX11_clauseOf_20 ?_
  refine lv_topi (fun v9 ev9 => ?_)
  have ev9 : v9 = (F 8) (I 19).toNatClampNeg := ev9
  have qv9 := congrArg Int32.toInt ev9
  refine lv_imul hx hb dX11_clauseOf_21 ?_
  refine lv_topi (fun v10 ev10 => ?_)
  have hv10 := i_mul (show (5 : Int32).toInt = 5 by decide) (Eq.refl v9.toInt) ev10 (by omega) (by omega)
  refine lv_iadd hx hb dX11_clauseOf_22 ?_
  refine lv_topi (fun v11 ev11 => ?_)
  have hv11 := i_add (Eq.refl v8.toInt) (Eq.refl v10.toInt) ev11 (by omega) (by omega)
  refine lv_istore_n (lv' := [(2, .int v11), (0, .ref o), (1, .int p1)]) hx hb dX11_clauseOf_23 rfl hl (by decide) rfl (fun ls hl => ?_)
  refine lv_aload_n hx hb dX11_clauseOf_24 rfl (lv_at hl 1 rfl) ?_
  refine va_get (D := D) (ci := 11) (v := .ref (a 7)) (C := RX11) (T := TX11) (N := 49) hx hb hg inGX11 hown hKN.1 hP 0 rfl rfl 7 (by decide) (hg _ kw_1215) (fun _ h9 => h9) rfl dX11_clauseOf_25 ?_
  refine lv_iload_n hx hb dX11_clauseOf_28 rfl (lv_at hl 0 rfl) ?_
  refine lv_iload_n hx hb dX11_clauseOf_29 rfl (lv_at hl 2 rfl) ?_
  refine va_iast hx hb hKN.1 hP hD hS 7 0 rfl rfl (vp_in_iff.mpr ⟨by omega, by omega⟩) dX11_clauseOf_30 (fun H locs hP hD hS => ?_)
  obtain ⟨f12, ef12, hP, hD⟩ : ∃ f12 : Nat → Int32, f12 = upd (F 7) v11.toNatClampNeg p1 ∧ va_P D vwCl (MW Y o a (upd I 16 u1) J (vf_upd F 7 f12) G) H ∧ va_D A (MW Y o a (upd I 16 u1) J (vf_upd F 7 f12) G) := ⟨_, rfl, hP, hD⟩
  have t13c : v11.toNatClampNeg = 60 * (I 19).toNatClampNeg + 5 * (F 8 (I 19).toNatClampNeg).toInt.toNat + 0 := by have c := clampI (x := v11) (by omega); have c2 := clampI (x := I 19) (by omega); omega
  have t13d := clampI (x := I 19) (by omega)
  have t13 := PG_cl (k := v11.toNatClampNeg) (PT_g hr_PT) ef12 (by omega) (by omega)
  have t14 : (f12 (60 * (I 19).toNatClampNeg + 5 * (F 8 (I 19).toNatClampNeg).toInt.toNat + 0)).toInt = p1.toInt := by rw [ef12, up_eq (by omega)]
  refine lv_aload_n hx hb dX11_clauseOf_31 rfl (lv_at hl 1 rfl) ?_
  refine va_get (D := D) (ci := 11) (v := .ref (a 7)) (C := RX11) (T := TX11) (N := 49) hx hb hg inGX11 hown hKN.1 hP 0 rfl rfl 7 (by decide) (hg _ kw_1215) (fun _ h9 => h9) rfl dX11_clauseOf_32 ?_
  refine lv_iload_n hx hb dX11_clauseOf_35 rfl (lv_at hl 0 rfl) ?_
  refine lv_iconst (v := 1) hx hb dX11_clauseOf_36 (by decide) ?_
  refine lv_iadd hx hb dX11_clauseOf_37 ?_
  refine lv_topi (fun v15 ev15 => ?_)
  have hv15 := i_add (Eq.refl v11.toInt) (show (1 : Int32).toInt = 1 by decide) ev15 (by omega) (by omega)
  refine lv_aload_n hx hb dX11_clauseOf_38 rfl (lv_at hl 1 rfl) ?_
  refine va_get (D := D) (ci := 11) (v := .ref (a 6)) (C := RX11) (T := TX11) (N := 49) hx hb hg inGX11 hown hKN.1 hP 0 rfl rfl 6 (by decide) (hg _ kw_1214) (fun _ h9 => h9) rfl dX11_clauseOf_39 ?_
  refine lv_aload_n hx hb dX11_clauseOf_42 rfl (lv_at hl 1 rfl) ?_
  refine va_get (D := D) (ci := 11) (v := .int (I 19)) (C := RX11) (T := TX11) (N := 49) hx hb hg inGX11 hown hKN.1 hP 0 rfl rfl 19 (by decide) (hg _ kw_1227) (fun _ h9 => h9) rfl dX11_clauseOf_43 ?_
  refine va_iald hx hb hKN.1 hP 6 0 rfl rfl (vp_in_iff.mpr ⟨by omega, by omega⟩) dX11_clauseOf_46 ?_
  refine lv_topi (fun v16 ev16 => ?_)
  have ev16 : v16 = (F 6) (I 19).toNatClampNeg := ev16
  have qv16 := congrArg Int32.toInt ev16
  refine va_iast hx hb hKN.1 hP hD hS 7 0 rfl rfl (vp_in_iff.mpr ⟨by omega, by omega⟩) dX11_clauseOf_47 (fun H locs hP hD hS => ?_)
  obtain ⟨f17, ef17, hP, hD⟩ : ∃ f17 : Nat → Int32, f17 = upd f12 v15.toNatClampNeg v16 ∧ va_P D vwCl (MW Y o a (upd I 16 u1) J (vf_upd F 7 f17) G) H ∧ va_D A (MW Y o a (upd I 16 u1) J (vf_upd F 7 f17) G) := ⟨_, rfl, hP, hD⟩
  have t18c : v15.toNatClampNeg = 60 * (I 19).toNatClampNeg + 5 * (F 8 (I 19).toNatClampNeg).toInt.toNat + 1 := by have c := clampI (x := v15) (by omega); have c2 := clampI (x := I 19) (by omega); omega
  have t18d := clampI (x := I 19) (by omega)
  have t18 := PG_cl (k := v15.toNatClampNeg) t13 ef17 (by omega) (by omega)
  have t19 : (f17 (60 * (I 19).toNatClampNeg + 5 * (F 8 (I 19).toNatClampNeg).toInt.toNat + 0)).toInt = (f12 (60 * (I 19).toNatClampNeg + 5 * (F 8 (I 19).toNatClampNeg).toInt.toNat + 0)).toInt := by rw [ef17, up_ne (by omega)]
  have t20 : (f17 (60 * (I 19).toNatClampNeg + 5 * (F 8 (I 19).toNatClampNeg).toInt.toNat + 1)).toInt = v16.toInt := by rw [ef17, up_eq (by omega)]
  refine lv_aload_n hx hb dX11_clauseOf_48 rfl (lv_at hl 1 rfl) ?_
  refine cga (rn_V (As := []) (rest := []) (b := o) (m_sum l D Y Z H.size o a (upd I 16 u1) J (vf_upd F 7 f17) G (F 5) ((((F 6) (I 19).toNatClampNeg).toInt).toNat) 0  (show (0 ≤ u1.toInt ∧ u1.toInt ≤ 400) by omega) (show (0 ≤ (I 3).toInt ∧ (I 3).toInt ≤ 400) by omega) (show (u1.toInt ≤ (I 3).toInt) by omega) (show (0 ≤ (I 17).toInt ∧ (I 17).toInt ≤ 4000) by omega) (show (0 ≤ (I 20).toInt ∧ (I 20).toInt ≤ 60) by omega) (show (0 ≤ (I 19).toInt ∧ (I 19).toInt ≤ 17) by omega) (show (((F 6) (I 19).toNatClampNeg).toInt ≤ u1.toInt) by omega) (show PSg (F 4) (F 8) f17 (F 5) (F 6) (F 5) (I 19).toNatClampNeg ((((F 6) (I 19).toNatClampNeg).toInt).toNat) (0) ((I 20).toInt).toNat from (PG_to t18 rfl (by omega) (by omega) (by omega)))) ⟨hx, hb, hml, hown, hg⟩ lk_X11_271 ⟨CP.blind, va_recv hKN.1 hP (ci := 11) (q0 := 0) rfl rfl, CP.at hP hKN hD⟩ ⟨⟨rfl, rfl⟩, ⟨Nat.le_of_ble_eq_true rfl, Nat.le_of_ble_eq_true rfl⟩, ⟨Nat.le_of_ble_eq_true rfl, Nat.le_of_ble_eq_true rfl⟩⟩ hl.1 rfl (Nat.le_of_ble_eq_true rfl) dX11_clauseOf_49) hP hD hS hA (fun u21 H locs w22 hP hD hS => ?_)
  obtain ⟨u23, u24, u25, u26, u27, f28, f29⟩ := u21
  obtain ⟨hw30, hw31, hw32, hw33, hw34, hw35, hw36, hw37, hw38, hw39, hw40⟩ : (0 ≤ u24.toInt ∧ u24.toInt ≤ 400) ∧ (u1.toInt ≤ u24.toInt) ∧ (u24.toInt ≤ (I 3).toInt) ∧ (0 ≤ u25.toInt ∧ u25.toInt ≤ 4000) ∧ (0 ≤ u27.toInt ∧ u27.toInt ≤ 60) ∧ ((I 20).toInt ≤ u27.toInt) ∧ (0 ≤ u23.toInt ∧ u23.toInt ≤ 1) ∧ (u23.toInt = 0 → 1 ≤ u25.toInt) ∧ (u23.toInt = 1 → (f29 (I 19).toNatClampNeg).toInt + u1.toInt ≤ ((F 6) (I 19).toNatClampNeg).toInt + u24.toInt) ∧ (u23.toInt = 1 → PSg (F 4) (F 8) f17 f28 f29 (F 5) (I 19).toNatClampNeg ((((F 6) (I 19).toNatClampNeg).toInt).toNat) (0 + 1) (u27.toInt).toNat) ∧ TC (F 4) (F 8) f17 f28 := w22
  refine W.eq (g2 := F0 m 52 ls [.int u23]) rfl ?_
  have hP : va_P D vwCl (MW Y o a (upd (upd (upd (upd I 16 u24) 17 u25) 18 u26) 20 u27) J (vf_upd (vf_upd (vf_upd F 5 f28) 6 f29) 7 f17) G) H := hP
  have hD : va_D A (MW Y o a (upd (upd (upd (upd I 16 u24) 17 u25) 18 u26) 20 u27) J (vf_upd (vf_upd (vf_upd F 5 f28) 6 f29) 7 f17) G) := hD
  rcases (show u23.toInt = 1 ∨ u23.toInt = 0 by omega) with c41 | c41
  · obtain rfl : u23 = 1 := i_is c41 (by decide)
    have zi1 : (1 : Int32).toInt = 1 := by decide
    clear hw37
    replace hw38 := hw38 (by decide)
    have t42 := hw39 (by decide)
    have t42l := PG_len t42
    have t42d := PG_dep t42
    refine W.eq (g2 := F0 m 52 ls [.int 1]) rfl ?_
    refine lv_if_ne (tgt := 57) hx hb dX11_clauseOf_52 (by decide) (fun c43 => ?_) (fun c43 => ?_)
    rotate_left
    · exact absurd c43 (by decide)
    have t45 := PG_len t42
    have t44 := PG_seg t42 rfl
    refine lv_aload_n hx hb dX11_clauseOf_57 rfl (lv_at hl 1 rfl) ?_
    refine va_get (D := D) (ci := 11) (v := .ref (a 7)) (C := RX11) (T := TX11) (N := 49) hx hb hg inGX11 hown hKN.1 hP 0 rfl rfl 7 (by decide) (hg _ kw_1215) (fun _ h9 => h9) rfl dX11_clauseOf_58 ?_
    refine lv_iload_n hx hb dX11_clauseOf_61 rfl (lv_at hl 0 rfl) ?_
    refine lv_iconst (v := 2) hx hb dX11_clauseOf_62 (by decide) ?_
    refine lv_iadd hx hb dX11_clauseOf_63 ?_
    refine lv_topi (fun v46 ev46 => ?_)
    have hv46 := i_add (Eq.refl v11.toInt) (show (2 : Int32).toInt = 2 by decide) ev46 (by omega) (by omega)
    refine lv_aload_n hx hb dX11_clauseOf_64 rfl (lv_at hl 1 rfl) ?_
    refine va_get (D := D) (ci := 11) (v := .ref (a 6)) (C := RX11) (T := TX11) (N := 49) hx hb hg inGX11 hown hKN.1 hP 0 rfl rfl 6 (by decide) (hg _ kw_1214) (fun _ h9 => h9) rfl dX11_clauseOf_65 ?_
    refine lv_aload_n hx hb dX11_clauseOf_68 rfl (lv_at hl 1 rfl) ?_
    refine va_get (D := D) (ci := 11) (v := .int (I 19)) (C := RX11) (T := TX11) (N := 49) hx hb hg inGX11 hown hKN.1 hP 0 rfl rfl 19 (by decide) (hg _ kw_1227) (fun _ h9 => h9) rfl dX11_clauseOf_69 ?_
    refine va_iald hx hb hKN.1 hP 6 0 rfl rfl (vp_in_iff.mpr ⟨by omega, by omega⟩) dX11_clauseOf_72 ?_
    refine lv_topi (fun v47 ev47 => ?_)
    have ev47 : v47 = f29 (I 19).toNatClampNeg := ev47
    have qv47 := congrArg Int32.toInt ev47
    refine va_iast hx hb hKN.1 hP hD hS 7 0 rfl rfl (vp_in_iff.mpr ⟨by omega, by omega⟩) dX11_clauseOf_73 (fun H locs hP hD hS => ?_)
    obtain ⟨f48, ef48, hP, hD⟩ : ∃ f48 : Nat → Int32, f48 = upd f17 v46.toNatClampNeg v47 ∧ va_P D vwCl (MW Y o a (upd (upd (upd (upd I 16 u24) 17 u25) 18 u26) 20 u27) J (vf_upd (vf_upd (vf_upd F 5 f28) 6 f29) 7 f48) G) H ∧ va_D A (MW Y o a (upd (upd (upd (upd I 16 u24) 17 u25) 18 u26) 20 u27) J (vf_upd (vf_upd (vf_upd F 5 f28) 6 f29) 7 f48) G) := ⟨_, rfl, hP, hD⟩
    have t49c : v46.toNatClampNeg = 60 * (I 19).toNatClampNeg + 5 * (F 8 (I 19).toNatClampNeg).toInt.toNat + 2 := by have c := clampI (x := v46) (by omega); have c2 := clampI (x := I 19) (by omega); omega
    have t49d := clampI (x := I 19) (by omega)
    have t49 := PG_cl (k := v46.toNatClampNeg) t42 ef48 (by omega) (by omega)
    have t50 : (f48 (60 * (I 19).toNatClampNeg + 5 * (F 8 (I 19).toNatClampNeg).toInt.toNat + 0)).toInt = (f17 (60 * (I 19).toNatClampNeg + 5 * (F 8 (I 19).toNatClampNeg).toInt.toNat + 0)).toInt := by rw [ef48, up_ne (by omega)]
    have t51 : (f48 (60 * (I 19).toNatClampNeg + 5 * (F 8 (I 19).toNatClampNeg).toInt.toNat + 1)).toInt = (f17 (60 * (I 19).toNatClampNeg + 5 * (F 8 (I 19).toNatClampNeg).toInt.toNat + 1)).toInt := by rw [ef48, up_ne (by omega)]
    have t52 : (f48 (60 * (I 19).toNatClampNeg + 5 * (F 8 (I 19).toNatClampNeg).toInt.toNat + 2)).toInt = v47.toInt := by rw [ef48, up_eq (by omega)]
    refine lv_aload_n hx hb dX11_clauseOf_74 rfl (lv_at hl 1 rfl) ?_
    refine va_get (D := D) (ci := 11) (v := .ref (a 7)) (C := RX11) (T := TX11) (N := 49) hx hb hg inGX11 hown hKN.1 hP 0 rfl rfl 7 (by decide) (hg _ kw_1215) (fun _ h9 => h9) rfl dX11_clauseOf_75 ?_
    refine lv_iload_n hx hb dX11_clauseOf_78 rfl (lv_at hl 0 rfl) ?_
    refine lv_iconst (v := 3) hx hb dX11_clauseOf_79 (by decide) ?_
    refine lv_iadd hx hb dX11_clauseOf_80 ?_
    refine lv_topi (fun v53 ev53 => ?_)
    have hv53 := i_add (Eq.refl v11.toInt) (show (3 : Int32).toInt = 3 by decide) ev53 (by omega) (by omega)
    refine lv_iconst (v := (-1)) hx hb dX11_clauseOf_81 (by decide) ?_
    refine va_iast hx hb hKN.1 hP hD hS 7 0 rfl rfl (vp_in_iff.mpr ⟨by omega, by omega⟩) dX11_clauseOf_82 (fun H locs hP hD hS => ?_)
    obtain ⟨f54, ef54, hP, hD⟩ : ∃ f54 : Nat → Int32, f54 = upd f48 v53.toNatClampNeg (-1) ∧ va_P D vwCl (MW Y o a (upd (upd (upd (upd I 16 u24) 17 u25) 18 u26) 20 u27) J (vf_upd (vf_upd (vf_upd F 5 f28) 6 f29) 7 f54) G) H ∧ va_D A (MW Y o a (upd (upd (upd (upd I 16 u24) 17 u25) 18 u26) 20 u27) J (vf_upd (vf_upd (vf_upd F 5 f28) 6 f29) 7 f54) G) := ⟨_, rfl, hP, hD⟩
    have zim1 : ((-1) : Int32).toInt = -1 := by decide
    have t55c : v53.toNatClampNeg = 60 * (I 19).toNatClampNeg + 5 * (F 8 (I 19).toNatClampNeg).toInt.toNat + 3 := by have c := clampI (x := v53) (by omega); have c2 := clampI (x := I 19) (by omega); omega
    have t55d := clampI (x := I 19) (by omega)
    have t55 := PG_cl (k := v53.toNatClampNeg) t49 ef54 (by omega) (by omega)
    have t56 : (f54 (60 * (I 19).toNatClampNeg + 5 * (F 8 (I 19).toNatClampNeg).toInt.toNat + 0)).toInt = (f48 (60 * (I 19).toNatClampNeg + 5 * (F 8 (I 19).toNatClampNeg).toInt.toNat + 0)).toInt := by rw [ef54, up_ne (by omega)]
    have t57 : (f54 (60 * (I 19).toNatClampNeg + 5 * (F 8 (I 19).toNatClampNeg).toInt.toNat + 1)).toInt = (f48 (60 * (I 19).toNatClampNeg + 5 * (F 8 (I 19).toNatClampNeg).toInt.toNat + 1)).toInt := by rw [ef54, up_ne (by omega)]
    have t58 : (f54 (60 * (I 19).toNatClampNeg + 5 * (F 8 (I 19).toNatClampNeg).toInt.toNat + 2)).toInt = (f48 (60 * (I 19).toNatClampNeg + 5 * (F 8 (I 19).toNatClampNeg).toInt.toNat + 2)).toInt := by rw [ef54, up_ne (by omega)]
    have t59 : (f54 (60 * (I 19).toNatClampNeg + 5 * (F 8 (I 19).toNatClampNeg).toInt.toNat + 3)).toInt = ((-1) : Int32).toInt := by rw [ef54, up_eq (by omega)]
    refine lv_aload_n hx hb dX11_clauseOf_83 rfl (lv_at hl 1 rfl) ?_
    refine lv_ldc2 (v := 26982) hx hb hown (hg _ kw_1550) dX11_clauseOf_84 ?_
    have zl26982 : (26982 : Int64).toInt = 26982 := by decide
    refine cga (rn_V (As := [.long 26982]) (rest := []) (b := o) (m_takesWord l D Y Z H.size o a (upd (upd (upd (upd I 16 u24) 17 u25) 18 u26) 20 u27) J (vf_upd (vf_upd (vf_upd F 5 f28) 6 f29) 7 f54) G  26982 (show (0 ≤ u24.toInt ∧ u24.toInt ≤ 400) by omega) (show (0 ≤ (I 3).toInt ∧ (I 3).toInt ≤ 400) by omega) (show (u24.toInt ≤ (I 3).toInt) by omega)) ⟨hx, hb, hml, hown, hg⟩ lk_X11_300 ⟨CP.blind, va_recv hKN.1 hP (ci := 11) (q0 := 0) rfl rfl, CP.at hP hKN hD⟩ ⟨⟨rfl, rfl⟩, ⟨Nat.le_of_ble_eq_true rfl, Nat.le_of_ble_eq_true rfl⟩, ⟨Nat.le_of_ble_eq_true rfl, Nat.le_of_ble_eq_true rfl⟩⟩ hl.1 rfl (Nat.le_of_ble_eq_true rfl) dX11_clauseOf_87) hP hD hS hA (fun u60 H locs w61 hP hD hS => ?_)
    obtain ⟨u62, u63⟩ := u60
    obtain ⟨hw64, hw65, hw66, hw67⟩ : (0 ≤ u63.toInt ∧ u63.toInt ≤ 400) ∧ (u24.toInt ≤ u63.toInt) ∧ (u63.toInt ≤ (I 3).toInt) ∧ (0 ≤ u62.toInt ∧ u62.toInt ≤ 1) := w61
    refine W.eq (g2 := F0 m 90 ls [.int u62]) rfl ?_
    have hP : va_P D vwCl (MW Y o a (upd (upd (upd (upd I 16 u63) 17 u25) 18 u26) 20 u27) J (vf_upd (vf_upd (vf_upd F 5 f28) 6 f29) 7 f54) G) H := hP
    have hD : va_D A (MW Y o a (upd (upd (upd (upd I 16 u63) 17 u25) 18 u26) 20 u27) J (vf_upd (vf_upd (vf_upd F 5 f28) 6 f29) 7 f54) G) := hD
    rcases (show u62.toInt = 1 ∨ u62.toInt = 0 by omega) with c68 | c68
    · obtain rfl : u62 = 1 := i_is c68 (by decide)
      refine W.eq (g2 := F0 m 90 ls [.int 1]) rfl ?_
      refine lv_if_eq (tgt := 119) hx hb dX11_clauseOf_90 (by decide) (fun c69 => ?_) (fun c69 => ?_)
      · exact absurd c69 (by decide)
      refine lv_aload_n hx hb dX11_clauseOf_93 rfl (lv_at hl 1 rfl) ?_
      refine va_get (D := D) (ci := 11) (v := .ref (a 7)) (C := RX11) (T := TX11) (N := 49) hx hb hg inGX11 hown hKN.1 hP 0 rfl rfl 7 (by decide) (hg _ kw_1215) (fun _ h9 => h9) rfl dX11_clauseOf_94 ?_
      refine lv_iload_n hx hb dX11_clauseOf_97 rfl (lv_at hl 0 rfl) ?_
      refine lv_iconst (v := 3) hx hb dX11_clauseOf_98 (by decide) ?_
      refine lv_iadd hx hb dX11_clauseOf_99 ?_
      refine lv_topi (fun v70 ev70 => ?_)
      have hv70 := i_add (Eq.refl v11.toInt) (show (3 : Int32).toInt = 3 by decide) ev70 (by omega) (by omega)
      refine lv_aload_n hx hb dX11_clauseOf_100 rfl (lv_at hl 1 rfl) ?_
      refine va_get (D := D) (ci := 11) (v := .ref (a 6)) (C := RX11) (T := TX11) (N := 49) hx hb hg inGX11 hown hKN.1 hP 0 rfl rfl 6 (by decide) (hg _ kw_1214) (fun _ h9 => h9) rfl dX11_clauseOf_101 ?_
      refine lv_aload_n hx hb dX11_clauseOf_104 rfl (lv_at hl 1 rfl) ?_
      refine va_get (D := D) (ci := 11) (v := .int (I 19)) (C := RX11) (T := TX11) (N := 49) hx hb hg inGX11 hown hKN.1 hP 0 rfl rfl 19 (by decide) (hg _ kw_1227) (fun _ h9 => h9) rfl dX11_clauseOf_105 ?_
      refine va_iald hx hb hKN.1 hP 6 0 rfl rfl (vp_in_iff.mpr ⟨by omega, by omega⟩) dX11_clauseOf_108 ?_
      refine lv_topi (fun v71 ev71 => ?_)
      have ev71 : v71 = f29 (I 19).toNatClampNeg := ev71
      have qv71 := congrArg Int32.toInt ev71
      refine va_iast hx hb hKN.1 hP hD hS 7 0 rfl rfl (vp_in_iff.mpr ⟨by omega, by omega⟩) dX11_clauseOf_109 (fun H locs hP hD hS => ?_)
      obtain ⟨f72, ef72, hP, hD⟩ : ∃ f72 : Nat → Int32, f72 = upd f54 v70.toNatClampNeg v71 ∧ va_P D vwCl (MW Y o a (upd (upd (upd (upd I 16 u63) 17 u25) 18 u26) 20 u27) J (vf_upd (vf_upd (vf_upd F 5 f28) 6 f29) 7 f72) G) H ∧ va_D A (MW Y o a (upd (upd (upd (upd I 16 u63) 17 u25) 18 u26) 20 u27) J (vf_upd (vf_upd (vf_upd F 5 f28) 6 f29) 7 f72) G) := ⟨_, rfl, hP, hD⟩
      have t73c : v70.toNatClampNeg = 60 * (I 19).toNatClampNeg + 5 * (F 8 (I 19).toNatClampNeg).toInt.toNat + 3 := by have c := clampI (x := v70) (by omega); have c2 := clampI (x := I 19) (by omega); omega
      have t73d := clampI (x := I 19) (by omega)
      have t73 := PG_cl (k := v70.toNatClampNeg) t55 ef72 (by omega) (by omega)
      have t74 : (f72 (60 * (I 19).toNatClampNeg + 5 * (F 8 (I 19).toNatClampNeg).toInt.toNat + 0)).toInt = (f54 (60 * (I 19).toNatClampNeg + 5 * (F 8 (I 19).toNatClampNeg).toInt.toNat + 0)).toInt := by rw [ef72, up_ne (by omega)]
      have t75 : (f72 (60 * (I 19).toNatClampNeg + 5 * (F 8 (I 19).toNatClampNeg).toInt.toNat + 1)).toInt = (f54 (60 * (I 19).toNatClampNeg + 5 * (F 8 (I 19).toNatClampNeg).toInt.toNat + 1)).toInt := by rw [ef72, up_ne (by omega)]
      have t76 : (f72 (60 * (I 19).toNatClampNeg + 5 * (F 8 (I 19).toNatClampNeg).toInt.toNat + 2)).toInt = (f54 (60 * (I 19).toNatClampNeg + 5 * (F 8 (I 19).toNatClampNeg).toInt.toNat + 2)).toInt := by rw [ef72, up_ne (by omega)]
      have t77 : (f72 (60 * (I 19).toNatClampNeg + 5 * (F 8 (I 19).toNatClampNeg).toInt.toNat + 3)).toInt = v71.toInt := by rw [ef72, up_eq (by omega)]
      have t78 := PG_new (b2 := ((f29 (I 19).toNatClampNeg).toInt).toNat) t73 (by omega)
      refine lv_aload_n hx hb dX11_clauseOf_110 rfl (lv_at hl 1 rfl) ?_
      refine cga (rn_V (As := []) (rest := []) (b := o) (m_tested l D Y Z H.size o a (upd (upd (upd (upd I 16 u63) 17 u25) 18 u26) 20 u27) J (vf_upd (vf_upd (vf_upd F 5 f28) 6 f29) 7 f72) G f28 (((f29 (I 19).toNatClampNeg).toInt).toNat)  (show (0 ≤ u63.toInt ∧ u63.toInt ≤ 400) by omega) (show (0 ≤ (I 3).toInt ∧ (I 3).toInt ≤ 400) by omega) (show (u63.toInt ≤ (I 3).toInt) by omega) (show (0 ≤ u25.toInt ∧ u25.toInt ≤ 4000) by omega) (show (0 ≤ u27.toInt ∧ u27.toInt ≤ 60) by omega) (show (0 ≤ (I 19).toInt ∧ (I 19).toInt ≤ 17) by omega) (show ((f29 (I 19).toNatClampNeg).toInt ≤ u63.toInt) by omega) (show PSg (F 4) (F 8) f72 f28 f29 f28 (I 19).toNatClampNeg (((f29 (I 19).toNatClampNeg).toInt).toNat) (0) (u27.toInt).toNat from (PG_to t78 rfl (by omega) (by omega) (by omega)))) ⟨hx, hb, hml, hown, hg⟩ lk_X11_303 ⟨CP.blind, va_recv hKN.1 hP (ci := 11) (q0 := 0) rfl rfl, CP.at hP hKN hD⟩ ⟨⟨rfl, rfl⟩, ⟨Nat.le_of_ble_eq_true rfl, Nat.le_of_ble_eq_true rfl⟩, ⟨Nat.le_of_ble_eq_true rfl, Nat.le_of_ble_eq_true rfl⟩⟩ hl.1 rfl (Nat.le_of_ble_eq_true rfl) dX11_clauseOf_111) hP hD hS hA (fun u79 H locs w80 hP hD hS => ?_)
      obtain ⟨u81, u82, u83, u84, u85, u86, u87, f88, f89, f90⟩ := u79
      obtain ⟨hw91, hw92, hw93, hw94, hw95, hw96, hw97, hw98, hw99, hw100, hw101⟩ : (0 ≤ u82.toInt ∧ u82.toInt ≤ 400) ∧ (u63.toInt ≤ u82.toInt) ∧ (u82.toInt ≤ (I 3).toInt) ∧ (0 ≤ u83.toInt ∧ u83.toInt ≤ 4000) ∧ (0 ≤ u85.toInt ∧ u85.toInt ≤ 60) ∧ (u27.toInt ≤ u85.toInt) ∧ (0 ≤ u81.toInt ∧ u81.toInt ≤ 1) ∧ (u81.toInt = 0 → 1 ≤ u83.toInt) ∧ (u81.toInt = 1 → (f89 (I 19).toNatClampNeg).toInt ≤ u82.toInt) ∧ (u81.toInt = 1 → PSg (F 4) (F 8) f72 f88 f89 f28 (I 19).toNatClampNeg (((f29 (I 19).toNatClampNeg).toInt).toNat) (1) (u85.toInt).toNat) ∧ TC (F 4) (F 8) f72 f88 := w80
      refine W.eq (g2 := F0 m 114 ls [.int u81]) rfl ?_
      have hP : va_P D vwCl (MW Y o a (upd (upd (upd (upd (upd (upd I 16 u82) 17 u83) 18 u84) 20 u85) 21 u86) 24 u87) J (vf_upd (vf_upd (vf_upd (vf_upd F 5 f88) 6 f89) 7 f72) 23 f90) G) H := hP
      have hD : va_D A (MW Y o a (upd (upd (upd (upd (upd (upd I 16 u82) 17 u83) 18 u84) 20 u85) 21 u86) 24 u87) J (vf_upd (vf_upd (vf_upd (vf_upd F 5 f88) 6 f89) 7 f72) 23 f90) G) := hD
      rcases (show u81.toInt = 1 ∨ u81.toInt = 0 by omega) with c102 | c102
      · obtain rfl : u81 = 1 := i_is c102 (by decide)
        clear hw98
        replace hw99 := hw99 (by decide)
        have t103 := hw100 (by decide)
        have t103l := PG_len t103
        have t103d := PG_dep t103
        refine W.eq (g2 := F0 m 114 ls [.int 1]) rfl ?_
        refine lv_if_ne (tgt := 119) hx hb dX11_clauseOf_114 (by decide) (fun c104 => ?_) (fun c104 => ?_)
        rotate_left
        · exact absurd c104 (by decide)
        have t106 := PG_len t103
        have t105k := PG_keep t103 t44 (by omega)
        have t105 := PG_seg t103 rfl
        refine lv_aload_n hx hb dX11_clauseOf_119 rfl (lv_at hl 1 rfl) ?_
        refine va_get (D := D) (ci := 11) (v := .ref (a 7)) (C := RX11) (T := TX11) (N := 49) hx hb hg inGX11 hown hKN.1 hP 0 rfl rfl 7 (by decide) (hg _ kw_1215) (fun _ h9 => h9) rfl dX11_clauseOf_120 ?_
        refine lv_iload_n hx hb dX11_clauseOf_123 rfl (lv_at hl 0 rfl) ?_
        refine lv_iconst (v := 4) hx hb dX11_clauseOf_124 (by decide) ?_
        refine lv_iadd hx hb dX11_clauseOf_125 ?_
        refine lv_topi (fun v107 ev107 => ?_)
        have hv107 := i_add (Eq.refl v11.toInt) (show (4 : Int32).toInt = 4 by decide) ev107 (by omega) (by omega)
        refine lv_aload_n hx hb dX11_clauseOf_126 rfl (lv_at hl 1 rfl) ?_
        refine va_get (D := D) (ci := 11) (v := .ref (a 6)) (C := RX11) (T := TX11) (N := 49) hx hb hg inGX11 hown hKN.1 hP 0 rfl rfl 6 (by decide) (hg _ kw_1214) (fun _ h9 => h9) rfl dX11_clauseOf_127 ?_
        refine lv_aload_n hx hb dX11_clauseOf_130 rfl (lv_at hl 1 rfl) ?_
        refine va_get (D := D) (ci := 11) (v := .int (I 19)) (C := RX11) (T := TX11) (N := 49) hx hb hg inGX11 hown hKN.1 hP 0 rfl rfl 19 (by decide) (hg _ kw_1227) (fun _ h9 => h9) rfl dX11_clauseOf_131 ?_
        refine va_iald hx hb hKN.1 hP 6 0 rfl rfl (vp_in_iff.mpr ⟨by omega, by omega⟩) dX11_clauseOf_134 ?_
        refine lv_topi (fun v108 ev108 => ?_)
        have ev108 : v108 = f89 (I 19).toNatClampNeg := ev108
        have qv108 := congrArg Int32.toInt ev108
        refine va_iast hx hb hKN.1 hP hD hS 7 0 rfl rfl (vp_in_iff.mpr ⟨by omega, by omega⟩) dX11_clauseOf_135 (fun H locs hP hD hS => ?_)
        obtain ⟨f109, ef109, hP, hD⟩ : ∃ f109 : Nat → Int32, f109 = upd f72 v107.toNatClampNeg v108 ∧ va_P D vwCl (MW Y o a (upd (upd (upd (upd (upd (upd I 16 u82) 17 u83) 18 u84) 20 u85) 21 u86) 24 u87) J (vf_upd (vf_upd (vf_upd (vf_upd F 5 f88) 6 f89) 7 f109) 23 f90) G) H ∧ va_D A (MW Y o a (upd (upd (upd (upd (upd (upd I 16 u82) 17 u83) 18 u84) 20 u85) 21 u86) 24 u87) J (vf_upd (vf_upd (vf_upd (vf_upd F 5 f88) 6 f89) 7 f109) 23 f90) G) := ⟨_, rfl, hP, hD⟩
        have t110c : v107.toNatClampNeg = 60 * (I 19).toNatClampNeg + 5 * (F 8 (I 19).toNatClampNeg).toInt.toNat + 4 := by have c := clampI (x := v107) (by omega); have c2 := clampI (x := I 19) (by omega); omega
        have t110d := clampI (x := I 19) (by omega)
        have t110 := PG_cl (k := v107.toNatClampNeg) t103 ef109 (by omega) (by omega)
        have t111 : (f109 (60 * (I 19).toNatClampNeg + 5 * (F 8 (I 19).toNatClampNeg).toInt.toNat + 0)).toInt = (f72 (60 * (I 19).toNatClampNeg + 5 * (F 8 (I 19).toNatClampNeg).toInt.toNat + 0)).toInt := by rw [ef109, up_ne (by omega)]
        have t112 : (f109 (60 * (I 19).toNatClampNeg + 5 * (F 8 (I 19).toNatClampNeg).toInt.toNat + 1)).toInt = (f72 (60 * (I 19).toNatClampNeg + 5 * (F 8 (I 19).toNatClampNeg).toInt.toNat + 1)).toInt := by rw [ef109, up_ne (by omega)]
        have t113 : (f109 (60 * (I 19).toNatClampNeg + 5 * (F 8 (I 19).toNatClampNeg).toInt.toNat + 2)).toInt = (f72 (60 * (I 19).toNatClampNeg + 5 * (F 8 (I 19).toNatClampNeg).toInt.toNat + 2)).toInt := by rw [ef109, up_ne (by omega)]
        have t114 : (f109 (60 * (I 19).toNatClampNeg + 5 * (F 8 (I 19).toNatClampNeg).toInt.toNat + 3)).toInt = (f72 (60 * (I 19).toNatClampNeg + 5 * (F 8 (I 19).toNatClampNeg).toInt.toNat + 3)).toInt := by rw [ef109, up_ne (by omega)]
        have t115 : (f109 (60 * (I 19).toNatClampNeg + 5 * (F 8 (I 19).toNatClampNeg).toInt.toNat + 4)).toInt = v108.toInt := by rw [ef109, up_eq (by omega)]
        refine lv_aload_n hx hb dX11_clauseOf_136 rfl (lv_at hl 1 rfl) ?_
        refine va_get (D := D) (ci := 11) (v := .ref (a 8)) (C := RX11) (T := TX11) (N := 49) hx hb hg inGX11 hown hKN.1 hP 0 rfl rfl 8 (by decide) (hg _ kw_1216) (fun _ h9 => h9) rfl dX11_clauseOf_137 ?_
        refine lv_aload_n hx hb dX11_clauseOf_140 rfl (lv_at hl 1 rfl) ?_
        refine va_get (D := D) (ci := 11) (v := .int (I 19)) (C := RX11) (T := TX11) (N := 49) hx hb hg inGX11 hown hKN.1 hP 0 rfl rfl 19 (by decide) (hg _ kw_1227) (fun _ h9 => h9) rfl dX11_clauseOf_141 ?_
        refine lv_dup2_11 hx hb dX11_clauseOf_144 rfl rfl ?_
        refine va_iald hx hb hKN.1 hP 8 0 rfl rfl (vp_in_iff.mpr ⟨by omega, by omega⟩) dX11_clauseOf_145 ?_
        refine lv_topi (fun v116 ev116 => ?_)
        have ev116 : v116 = (F 8) (I 19).toNatClampNeg := ev116
        have qv116 := congrArg Int32.toInt ev116
        refine lv_iconst (v := 1) hx hb dX11_clauseOf_146 (by decide) ?_
        refine lv_iadd hx hb dX11_clauseOf_147 ?_
        refine lv_topi (fun v117 ev117 => ?_)
        have hv117 := i_add (Eq.refl v116.toInt) (show (1 : Int32).toInt = 1 by decide) ev117 (by omega) (by omega)
        refine va_iast hx hb hKN.1 hP hD hS 8 0 rfl rfl (vp_in_iff.mpr ⟨by omega, by omega⟩) dX11_clauseOf_148 (fun H locs hP hD hS => ?_)
        obtain ⟨f118, ef118, hP, hD⟩ : ∃ f118 : Nat → Int32, f118 = upd (F 8) ((I 19).toNatClampNeg) v117 ∧ va_P D vwCl (MW Y o a (upd (upd (upd (upd (upd (upd I 16 u82) 17 u83) 18 u84) 20 u85) 21 u86) 24 u87) J (vf_upd (vf_upd (vf_upd (vf_upd (vf_upd F 5 f88) 6 f89) 7 f109) 8 f118) 23 f90) G) H ∧ va_D A (MW Y o a (upd (upd (upd (upd (upd (upd I 16 u82) 17 u83) 18 u84) 20 u85) 21 u86) 24 u87) J (vf_upd (vf_upd (vf_upd (vf_upd (vf_upd F 5 f88) 6 f89) 7 f109) 8 f118) 23 f90) G) := ⟨_, rfl, hP, hD⟩
        have t119l := PG_len t110
        have t119c : CLok f109 f88 (I 19).toNatClampNeg ((F 8 (I 19).toNatClampNeg).toInt).toNat ((f89 (I 19).toNatClampNeg).toInt).toNat := CL_1 ((f29 (I 19).toNatClampNeg).toInt).toNat (a := (((F 6) (I 19).toNatClampNeg).toInt).toNat) (b := ((f29 (I 19).toNatClampNeg).toInt).toNat) (e := ((f89 (I 19).toNatClampNeg).toInt).toNat) (by omega) (by omega) (by omega) (SEG_m t105k (by omega) (by omega)) (by omega) (by omega) (by omega) (by omega) (SEG_m t105 (by omega) (by omega))
        have t119 := PG_close t110 ef118 (by omega) (by omega) t119c
        have t119q : (f118 (I 19).toNatClampNeg).toInt = v117.toInt := by rw [ef118, up_eq rfl]
        have t119z := PG_len t119
        refine lv_iconst (v := 1) hx hb dX11_clauseOf_149 (by decide) ?_
        refine W.widen (k := 0) (n := 0) (Nat.le_of_ble_eq_true rfl) (Nat.le_of_ble_eq_true rfl) ?_
        exact W.zret (v := 1) hx hb hr (by decide) (fun t ht hW => ⟨⟨(1, u82, u83, u84, u85, u86, u87, f109, f118, f88, f89, f90), rfl, ⟨(show (0 ≤ u82.toInt ∧ u82.toInt ≤ 400) by omega), (show ((I 16).toInt ≤ u82.toInt) by omega), (show (u82.toInt ≤ (I 3).toInt) by omega), (show (0 ≤ u83.toInt ∧ u83.toInt ≤ 4000) by omega), (show (0 ≤ u85.toInt ∧ u85.toInt ≤ 60) by omega), (show ((I 20).toInt ≤ u85.toInt) by omega), (show (0 ≤ (1 : Int32).toInt ∧ (1 : Int32).toInt ≤ 1) by omega), (show ((1 : Int32).toInt = 0 → 1 ≤ u83.toInt) by omega), (show ((1 : Int32).toInt = 1 → (f89 (I 19).toNatClampNeg).toInt ≤ u82.toInt) by omega), (show ((1 : Int32).toInt = 1 → (f118 (I 19).toNatClampNeg).toInt ≤ ((F 8) (I 19).toNatClampNeg).toInt + 1) by omega), (show ((1 : Int32).toInt = 1 → PSt (F 4) f118 f109 f88 f89 (I 19).toNatClampNeg ((f89 (I 19).toNatClampNeg).toInt).toNat 0 (u85.toInt).toNat) from (fun _ => PT_end t119 (by omega) (by omega) (by omega))), (show TC (F 4) f118 f109 f88 from (PG_tc t119))⟩, CB.mk ht hP hD⟩, hS.F ht⟩) hS.2.2 dX11_clauseOf_150
      · obtain rfl : u81 = 0 := i_is c102 (by decide)
        have zi0 : (0 : Int32).toInt = 0 := by decide
        replace hw98 := hw98 (by decide)
        clear hw99
        refine W.eq (g2 := F0 m 114 ls [.int 0]) rfl ?_
        refine lv_if_ne (tgt := 119) hx hb dX11_clauseOf_114 (by decide) (fun c120 => ?_) (fun c120 => ?_)
        · exact absurd c120 (by decide)
        refine lv_iconst (v := 0) hx hb dX11_clauseOf_117 (by decide) ?_
        refine W.widen (k := 0) (n := 0) (Nat.le_of_ble_eq_true rfl) (Nat.le_of_ble_eq_true rfl) ?_
        exact W.zret (v := 0) hx hb hr (by decide) (fun t ht hW => ⟨⟨(0, u82, u83, u84, u85, u86, u87, f72, (F 8), f88, f89, f90), rfl, ⟨(show (0 ≤ u82.toInt ∧ u82.toInt ≤ 400) by omega), (show ((I 16).toInt ≤ u82.toInt) by omega), (show (u82.toInt ≤ (I 3).toInt) by omega), (show (0 ≤ u83.toInt ∧ u83.toInt ≤ 4000) by omega), (show (0 ≤ u85.toInt ∧ u85.toInt ≤ 60) by omega), (show ((I 20).toInt ≤ u85.toInt) by omega), (show (0 ≤ (0 : Int32).toInt ∧ (0 : Int32).toInt ≤ 1) by omega), (show ((0 : Int32).toInt = 0 → 1 ≤ u83.toInt) by omega), (show ((0 : Int32).toInt = 1 → (f89 (I 19).toNatClampNeg).toInt ≤ u82.toInt) by omega), (show ((0 : Int32).toInt = 1 → ((F 8) (I 19).toNatClampNeg).toInt ≤ ((F 8) (I 19).toNatClampNeg).toInt + 1) by omega), (show ((0 : Int32).toInt = 1 → PSt (F 4) (F 8) f72 f88 f89 (I 19).toNatClampNeg ((f89 (I 19).toNatClampNeg).toInt).toNat 0 (u85.toInt).toNat) from (fun h => absurd h (by decide))), (show TC (F 4) (F 8) f72 f88 from hw101)⟩, CB.mk ht hP hD⟩, hS.F ht⟩) hS.2.2 dX11_clauseOf_118
    · obtain rfl : u62 = 0 := i_is c68 (by decide)
      have zi0 : (0 : Int32).toInt = 0 := by decide
      refine W.eq (g2 := F0 m 90 ls [.int 0]) rfl ?_
      refine lv_if_eq (tgt := 119) hx hb dX11_clauseOf_90 (by decide) (fun c121 => ?_) (fun c121 => ?_)
      rotate_left
      · exact absurd c121 (by decide)
      refine lv_aload_n hx hb dX11_clauseOf_119 rfl (lv_at hl 1 rfl) ?_
      refine va_get (D := D) (ci := 11) (v := .ref (a 7)) (C := RX11) (T := TX11) (N := 49) hx hb hg inGX11 hown hKN.1 hP 0 rfl rfl 7 (by decide) (hg _ kw_1215) (fun _ h9 => h9) rfl dX11_clauseOf_120 ?_
      refine lv_iload_n hx hb dX11_clauseOf_123 rfl (lv_at hl 0 rfl) ?_
      refine lv_iconst (v := 4) hx hb dX11_clauseOf_124 (by decide) ?_
      refine lv_iadd hx hb dX11_clauseOf_125 ?_
      refine lv_topi (fun v122 ev122 => ?_)
      have hv122 := i_add (Eq.refl v11.toInt) (show (4 : Int32).toInt = 4 by decide) ev122 (by omega) (by omega)
      refine lv_aload_n hx hb dX11_clauseOf_126 rfl (lv_at hl 1 rfl) ?_
      refine va_get (D := D) (ci := 11) (v := .ref (a 6)) (C := RX11) (T := TX11) (N := 49) hx hb hg inGX11 hown hKN.1 hP 0 rfl rfl 6 (by decide) (hg _ kw_1214) (fun _ h9 => h9) rfl dX11_clauseOf_127 ?_
      refine lv_aload_n hx hb dX11_clauseOf_130 rfl (lv_at hl 1 rfl) ?_
      refine va_get (D := D) (ci := 11) (v := .int (I 19)) (C := RX11) (T := TX11) (N := 49) hx hb hg inGX11 hown hKN.1 hP 0 rfl rfl 19 (by decide) (hg _ kw_1227) (fun _ h9 => h9) rfl dX11_clauseOf_131 ?_
      refine va_iald hx hb hKN.1 hP 6 0 rfl rfl (vp_in_iff.mpr ⟨by omega, by omega⟩) dX11_clauseOf_134 ?_
      refine lv_topi (fun v123 ev123 => ?_)
      have ev123 : v123 = f29 (I 19).toNatClampNeg := ev123
      have qv123 := congrArg Int32.toInt ev123
      refine va_iast hx hb hKN.1 hP hD hS 7 0 rfl rfl (vp_in_iff.mpr ⟨by omega, by omega⟩) dX11_clauseOf_135 (fun H locs hP hD hS => ?_)
      obtain ⟨f124, ef124, hP, hD⟩ : ∃ f124 : Nat → Int32, f124 = upd f54 v122.toNatClampNeg v123 ∧ va_P D vwCl (MW Y o a (upd (upd (upd (upd I 16 u63) 17 u25) 18 u26) 20 u27) J (vf_upd (vf_upd (vf_upd F 5 f28) 6 f29) 7 f124) G) H ∧ va_D A (MW Y o a (upd (upd (upd (upd I 16 u63) 17 u25) 18 u26) 20 u27) J (vf_upd (vf_upd (vf_upd F 5 f28) 6 f29) 7 f124) G) := ⟨_, rfl, hP, hD⟩
      have t125c : v122.toNatClampNeg = 60 * (I 19).toNatClampNeg + 5 * (F 8 (I 19).toNatClampNeg).toInt.toNat + 4 := by have c := clampI (x := v122) (by omega); have c2 := clampI (x := I 19) (by omega); omega
      have t125d := clampI (x := I 19) (by omega)
      have t125 := PG_cl (k := v122.toNatClampNeg) t55 ef124 (by omega) (by omega)
      have t126 : (f124 (60 * (I 19).toNatClampNeg + 5 * (F 8 (I 19).toNatClampNeg).toInt.toNat + 0)).toInt = (f54 (60 * (I 19).toNatClampNeg + 5 * (F 8 (I 19).toNatClampNeg).toInt.toNat + 0)).toInt := by rw [ef124, up_ne (by omega)]
      have t127 : (f124 (60 * (I 19).toNatClampNeg + 5 * (F 8 (I 19).toNatClampNeg).toInt.toNat + 1)).toInt = (f54 (60 * (I 19).toNatClampNeg + 5 * (F 8 (I 19).toNatClampNeg).toInt.toNat + 1)).toInt := by rw [ef124, up_ne (by omega)]
      have t128 : (f124 (60 * (I 19).toNatClampNeg + 5 * (F 8 (I 19).toNatClampNeg).toInt.toNat + 2)).toInt = (f54 (60 * (I 19).toNatClampNeg + 5 * (F 8 (I 19).toNatClampNeg).toInt.toNat + 2)).toInt := by rw [ef124, up_ne (by omega)]
      have t129 : (f124 (60 * (I 19).toNatClampNeg + 5 * (F 8 (I 19).toNatClampNeg).toInt.toNat + 3)).toInt = (f54 (60 * (I 19).toNatClampNeg + 5 * (F 8 (I 19).toNatClampNeg).toInt.toNat + 3)).toInt := by rw [ef124, up_ne (by omega)]
      have t130 : (f124 (60 * (I 19).toNatClampNeg + 5 * (F 8 (I 19).toNatClampNeg).toInt.toNat + 4)).toInt = v123.toInt := by rw [ef124, up_eq (by omega)]
      refine lv_aload_n hx hb dX11_clauseOf_136 rfl (lv_at hl 1 rfl) ?_
      refine va_get (D := D) (ci := 11) (v := .ref (a 8)) (C := RX11) (T := TX11) (N := 49) hx hb hg inGX11 hown hKN.1 hP 0 rfl rfl 8 (by decide) (hg _ kw_1216) (fun _ h9 => h9) rfl dX11_clauseOf_137 ?_
      refine lv_aload_n hx hb dX11_clauseOf_140 rfl (lv_at hl 1 rfl) ?_
      refine va_get (D := D) (ci := 11) (v := .int (I 19)) (C := RX11) (T := TX11) (N := 49) hx hb hg inGX11 hown hKN.1 hP 0 rfl rfl 19 (by decide) (hg _ kw_1227) (fun _ h9 => h9) rfl dX11_clauseOf_141 ?_
      refine lv_dup2_11 hx hb dX11_clauseOf_144 rfl rfl ?_
      refine va_iald hx hb hKN.1 hP 8 0 rfl rfl (vp_in_iff.mpr ⟨by omega, by omega⟩) dX11_clauseOf_145 ?_
      refine lv_topi (fun v131 ev131 => ?_)
      have ev131 : v131 = (F 8) (I 19).toNatClampNeg := ev131
      have qv131 := congrArg Int32.toInt ev131
      refine lv_iconst (v := 1) hx hb dX11_clauseOf_146 (by decide) ?_
      refine lv_iadd hx hb dX11_clauseOf_147 ?_
      refine lv_topi (fun v132 ev132 => ?_)
      have hv132 := i_add (Eq.refl v131.toInt) (show (1 : Int32).toInt = 1 by decide) ev132 (by omega) (by omega)
      refine va_iast hx hb hKN.1 hP hD hS 8 0 rfl rfl (vp_in_iff.mpr ⟨by omega, by omega⟩) dX11_clauseOf_148 (fun H locs hP hD hS => ?_)
      obtain ⟨f133, ef133, hP, hD⟩ : ∃ f133 : Nat → Int32, f133 = upd (F 8) ((I 19).toNatClampNeg) v132 ∧ va_P D vwCl (MW Y o a (upd (upd (upd (upd I 16 u63) 17 u25) 18 u26) 20 u27) J (vf_upd (vf_upd (vf_upd (vf_upd F 5 f28) 6 f29) 7 f124) 8 f133) G) H ∧ va_D A (MW Y o a (upd (upd (upd (upd I 16 u63) 17 u25) 18 u26) 20 u27) J (vf_upd (vf_upd (vf_upd (vf_upd F 5 f28) 6 f29) 7 f124) 8 f133) G) := ⟨_, rfl, hP, hD⟩
      have t134l := PG_len t125
      have t134c : CLok f124 f28 (I 19).toNatClampNeg ((F 8 (I 19).toNatClampNeg).toInt).toNat ((f29 (I 19).toNatClampNeg).toInt).toNat := CL_0 (a := (((F 6) (I 19).toNatClampNeg).toInt).toNat) (b := ((f29 (I 19).toNatClampNeg).toInt).toNat) (e := ((f29 (I 19).toNatClampNeg).toInt).toNat) (by omega) (by omega) (by omega) (SEG_m t44 (by omega) (by omega)) (by omega) (by omega) (by omega) (by omega)
      have t134 := PG_close t125 ef133 (by omega) (by omega) t134c
      have t134q : (f133 (I 19).toNatClampNeg).toInt = v132.toInt := by rw [ef133, up_eq rfl]
      have t134z := PG_len t134
      refine lv_iconst (v := 1) hx hb dX11_clauseOf_149 (by decide) ?_
      refine W.widen (k := 0) (n := 0) (Nat.le_of_ble_eq_true rfl) (Nat.le_of_ble_eq_true rfl) ?_
      exact W.zret (v := 1) hx hb hr (by decide) (fun t ht hW => ⟨⟨(1, u63, u25, u26, u27, (I 21), (I 24), f124, f133, f28, f29, (F 23)), rfl, ⟨(show (0 ≤ u63.toInt ∧ u63.toInt ≤ 400) by omega), (show ((I 16).toInt ≤ u63.toInt) by omega), (show (u63.toInt ≤ (I 3).toInt) by omega), (show (0 ≤ u25.toInt ∧ u25.toInt ≤ 4000) by omega), (show (0 ≤ u27.toInt ∧ u27.toInt ≤ 60) by omega), (show ((I 20).toInt ≤ u27.toInt) by omega), (show (0 ≤ (1 : Int32).toInt ∧ (1 : Int32).toInt ≤ 1) by omega), (show ((1 : Int32).toInt = 0 → 1 ≤ u25.toInt) by omega), (show ((1 : Int32).toInt = 1 → (f29 (I 19).toNatClampNeg).toInt ≤ u63.toInt) by omega), (show ((1 : Int32).toInt = 1 → (f133 (I 19).toNatClampNeg).toInt ≤ ((F 8) (I 19).toNatClampNeg).toInt + 1) by omega), (show ((1 : Int32).toInt = 1 → PSt (F 4) f133 f124 f28 f29 (I 19).toNatClampNeg ((f29 (I 19).toNatClampNeg).toInt).toNat 0 (u27.toInt).toNat) from (fun _ => PT_end t134 (by omega) (by omega) (by omega))), (show TC (F 4) f133 f124 f28 from (PG_tc t134))⟩, CB.mk ht hP hD⟩, hS.F ht⟩) hS.2.2 dX11_clauseOf_150
  · obtain rfl : u23 = 0 := i_is c41 (by decide)
    have zi0 : (0 : Int32).toInt = 0 := by decide
    replace hw37 := hw37 (by decide)
    clear hw38
    refine W.eq (g2 := F0 m 52 ls [.int 0]) rfl ?_
    refine lv_if_ne (tgt := 57) hx hb dX11_clauseOf_52 (by decide) (fun c135 => ?_) (fun c135 => ?_)
    · exact absurd c135 (by decide)
    refine lv_iconst (v := 0) hx hb dX11_clauseOf_55 (by decide) ?_
    refine W.widen (k := 0) (n := 0) (Nat.le_of_ble_eq_true rfl) (Nat.le_of_ble_eq_true rfl) ?_
    exact W.zret (v := 0) hx hb hr (by decide) (fun t ht hW => ⟨⟨(0, u24, u25, u26, u27, (I 21), (I 24), f17, (F 8), f28, f29, (F 23)), rfl, ⟨(show (0 ≤ u24.toInt ∧ u24.toInt ≤ 400) by omega), (show ((I 16).toInt ≤ u24.toInt) by omega), (show (u24.toInt ≤ (I 3).toInt) by omega), (show (0 ≤ u25.toInt ∧ u25.toInt ≤ 4000) by omega), (show (0 ≤ u27.toInt ∧ u27.toInt ≤ 60) by omega), (show ((I 20).toInt ≤ u27.toInt) by omega), (show (0 ≤ (0 : Int32).toInt ∧ (0 : Int32).toInt ≤ 1) by omega), (show ((0 : Int32).toInt = 0 → 1 ≤ u25.toInt) by omega), (show ((0 : Int32).toInt = 1 → (f29 (I 19).toNatClampNeg).toInt ≤ u24.toInt) by omega), (show ((0 : Int32).toInt = 1 → ((F 8) (I 19).toNatClampNeg).toInt ≤ ((F 8) (I 19).toNatClampNeg).toInt + 1) by omega), (show ((0 : Int32).toInt = 1 → PSt (F 4) (F 8) f17 f28 f29 (I 19).toNatClampNeg ((f29 (I 19).toNatClampNeg).toInt).toNat 0 (u27.toInt).toNat) from (fun h => absurd h (by decide))), (show TC (F 4) (F 8) f17 f28 from hw40)⟩, CB.mk ht hP hD⟩, hS.F ht⟩) hS.2.2 dX11_clauseOf_56
set_option maxHeartbeats 4000000 in
set_option maxRecDepth 100000 in
theorem m_lawClause (l : Launch) (D : va_G) (Y : Nat → ClassId) (Z : Nat → Nat) (sz : Nat) (o : Nat) (a : Nat → Nat) (I : Nat → Int32) (J : Nat → Int64) (F : Nat → Nat → Int32) (G : Nat → Nat → Int64) (p1 : Int32) (hk_0 : (0 ≤ (I 16).toInt ∧ (I 16).toInt ≤ 400)) (hk_1 : (0 ≤ (I 3).toInt ∧ (I 3).toInt ≤ 400)) (hk_2 : ((I 16).toInt ≤ (I 3).toInt)) (hk_3 : (0 ≤ (I 17).toInt ∧ (I 17).toInt ≤ 4000)) (hk_4 : (0 ≤ (I 20).toInt ∧ (I 20).toInt ≤ 60)) (hk_5 : (0 ≤ (I 19).toInt ∧ (I 19).toInt ≤ 17)) (hk_6 : (0 ≤ p1.toInt ∧ p1.toInt ≤ 400)) (hk_7 : (((F 6) (I 19).toNatClampNeg).toInt ≤ (I 16).toInt)) (hk_8 : (((F 8) (I 19).toNatClampNeg).toInt ≤ 11)) (hk_9 : (((F 9) (I 19).toNatClampNeg).toInt ≤ 9999)) (hk0 : TX (F 4) (F 9) (F 10) (F 11) (F 12) (F 13)) (hr_PT : PSt (F 4) (F 8) (F 7) (F 5) (F 6) (I 19).toNatClampNeg (((F 6) (I 19).toNatClampNeg).toInt).toNat 0 ((I 20).toInt).toNat) (hr_UN : UNT (F 4) (I 19).toNatClampNeg) : Met l yX11_lawClause (.code yX11_lawClause cX11_lawClause 2 (some .boolean) :: GW) ({ frames := 10, cells := 0, slots := 0, locals := 220 }) (va_Pc [.ref o, .int p1] (CP D Y Z (MW Y o a I J F G) sz)) (QG (S := Int32 × Int32 × Int32 × Int32 × Int32 × Int32 × Int32 × (Nat → Int32) × (Nat → Int32) × (Nat → Int32) × (Nat → Int32) × (Nat → Int32) × (Nat → Int32)) (fun u => some (.int u.1)) (fun u => (0 ≤ u.2.1.toInt ∧ u.2.1.toInt ≤ 400) ∧ ((I 16).toInt ≤ u.2.1.toInt) ∧ (u.2.1.toInt ≤ (I 3).toInt) ∧ (0 ≤ u.2.2.1.toInt ∧ u.2.2.1.toInt ≤ 4000) ∧ (0 ≤ u.2.2.2.2.1.toInt ∧ u.2.2.2.2.1.toInt ≤ 60) ∧ ((I 20).toInt ≤ u.2.2.2.2.1.toInt) ∧ (0 ≤ u.1.toInt ∧ u.1.toInt ≤ 1) ∧ (u.1.toInt = 0 → 1 ≤ u.2.2.1.toInt) ∧ (u.1.toInt = 1 → (u.2.2.2.2.2.2.2.2.2.2.1 (I 19).toNatClampNeg).toInt ≤ u.2.1.toInt) ∧ (u.1.toInt = 1 → (u.2.2.2.2.2.2.2.2.1 (I 19).toNatClampNeg).toInt ≤ ((F 8) (I 19).toNatClampNeg).toInt + 1) ∧ (u.1.toInt = 1 → (u.2.2.2.2.2.2.2.2.2.2.2.2 (I 19).toNatClampNeg).toInt ≤ 9999) ∧ TX (F 4) u.2.2.2.2.2.2.2.2.2.2.2.2 (F 10) (F 11) (F 12) (F 13) ∧ (u.1.toInt = 1 → PSt (F 4) u.2.2.2.2.2.2.2.2.1 u.2.2.2.2.2.2.2.1 u.2.2.2.2.2.2.2.2.2.1 u.2.2.2.2.2.2.2.2.2.2.1 (I 19).toNatClampNeg ((u.2.2.2.2.2.2.2.2.2.2.1 (I 19).toNatClampNeg).toInt).toNat 0 (u.2.2.2.2.1.toInt).toNat) ∧ TC (F 4) u.2.2.2.2.2.2.2.2.1 u.2.2.2.2.2.2.2.1 u.2.2.2.2.2.2.2.2.2.1) (fun u => CB D (MW Y o a (upd (upd (upd (upd (upd (upd I 16 u.2.1) 17 u.2.2.1) 18 u.2.2.2.1) 20 u.2.2.2.2.1) 21 u.2.2.2.2.2.1) 24 u.2.2.2.2.2.2.1) J (vf_upd (vf_upd (vf_upd (vf_upd (vf_upd (vf_upd F 5 u.2.2.2.2.2.2.2.2.2.1) 6 u.2.2.2.2.2.2.2.2.2.2.1) 7 u.2.2.2.2.2.2.2.1) 8 u.2.2.2.2.2.2.2.2.1) 9 u.2.2.2.2.2.2.2.2.2.2.2.2) 23 u.2.2.2.2.2.2.2.2.2.2.2.1) G) (va_A (MW Y o a I J F G) sz)) (va_A (MW Y o a I J F G) sz)) 0 0 (va_A (MW Y o a I J F G) sz) := by
  refine Met.ofW (cc := cX11_lawClause) (maxL := 2) (ret := (some .boolean)) (by decide) rfl ?_
  intro p e s m args below meth c s₁ B hml hv
  obtain ⟨rfl, hsz, hP, hKN, hD0⟩ := hv
  have hx := B.exec
  have hb := B.bytes
  have hr := B.returns
  have hts := atoms_spec (ws := .code yX11_lawClause cX11_lawClause 2 (some .boolean) :: GW) B.pre
  have hg : ∀ w ∈ GW, w.before _ s = true := fun w h => hts w (List.mem_cons_of_mem _ h)
  have hown : s.vm.findClass RX11 = some m.cls := findClass_of_methodNamed B.named
  have hlocks := B.notSynchronized
  subst hsz
  have hD := hD0.self (sz := s.heap.size)
  generalize hAe : va_A (MW Y o a I J F G) s.heap.size = A at hD ⊢
  have hA : ∀ q : Nat, s.heap.size ≤ q → A q := fun q h => by rw [← hAe]; exact Or.inr h
  clear hAe hD0 hts B
  have hl := lv_entry ([.ref o, .int p1]) (n := 2) (Nat.le_of_ble_eq_true rfl)
  rw [lg_entry_eq]
  generalize (lg_sl ([.ref o, .int p1]) ++ List.replicate (2 - (lg_sl ([.ref o, .int p1])).length) Slot.unset).toArray = ls at hl ⊢
  have hl : lv_has ls 2 [(0, .ref o), (1, .int p1)] := hl
  refine w_start (A0 := A) hP (fun H locs hP hS => ?_)
  have hl0 := PS_len hr_PT
  refine lv_aload_n hx hb dX11_lawClause_0 rfl (lv_at hl 0 rfl) ?_
  refine lv_ldc2 (v := 108243534178420) hx hb hown (hg _ kw_1483) dX11_lawClause_1 ?_
  have zl108243534178420 : (108243534178420 : Int64).toInt = 108243534178420 := by decide
  refine cga (rn_V (As := [.long 108243534178420]) (rest := []) (b := o) (m_isWord l D Y Z H.size o a I J F G  108243534178420 (show (0 ≤ (I 16).toInt ∧ (I 16).toInt ≤ 400) by omega) (show (0 ≤ (I 3).toInt ∧ (I 3).toInt ≤ 400) by omega) (show ((I 16).toInt ≤ (I 3).toInt) by omega)) ⟨hx, hb, hml, hown, hg⟩ lk_X11_190 ⟨CP.blind, va_recv hKN.1 hP (ci := 11) (q0 := 0) rfl rfl, CP.at hP hKN hD⟩ ⟨⟨rfl, rfl⟩, ⟨Nat.le_of_ble_eq_true rfl, Nat.le_of_ble_eq_true rfl⟩, ⟨Nat.le_of_ble_eq_true rfl, Nat.le_of_ble_eq_true rfl⟩⟩ hl.1 rfl (Nat.le_of_ble_eq_true rfl) dX11_lawClause_4) hP hD hS hA (fun u1 H locs w2 hP hD hS => ?_)
  obtain ⟨u3, u4⟩ := u1
  obtain ⟨hw5, hw6, hw7, hw8, hw9⟩ : (0 ≤ u4.toInt ∧ u4.toInt ≤ 400) ∧ ((I 16).toInt ≤ u4.toInt) ∧ (u4.toInt ≤ (I 3).toInt) ∧ (0 ≤ u3.toInt ∧ u3.toInt ≤ 1) ∧ (u3.toInt = 1 → (u4.toInt < (I 3).toInt ∧ 97 ≤ ((F 2) u4.toNatClampNeg).toInt ∧ ((F 2) u4.toNatClampNeg).toInt ≤ 122)) := w2
  refine W.eq (g2 := F0 m 7 ls [.int u3]) rfl ?_
  have hP : va_P D vwCl (MW Y o a (upd I 16 u4) J F G) H := hP
  have hD : va_D A (MW Y o a (upd I 16 u4) J F G) := hD
  rcases (show u3.toInt = 1 ∨ u3.toInt = 0 by omega) with c10 | c10
  · obtain rfl : u3 = 1 := i_is c10 (by decide)
    have zi1 : (1 : Int32).toInt = 1 := by decide
    replace hw9 := hw9 (by decide)
    refine W.eq (g2 := F0 m 7 ls [.int 1]) rfl ?_
    refine lv_if_eq (tgt := 16) hx hb dX11_lawClause_7 (by decide) (fun c11 => ?_) (fun c11 => ?_)
    · exact absurd c11 (by decide)
    refine lv_aload_n hx hb dX11_lawClause_10 rfl (lv_at hl 0 rfl) ?_
    refine lv_iconst (v := 0) hx hb dX11_lawClause_11 (by decide) ?_
    have zi0 : (0 : Int32).toInt = 0 := by decide
    refine cga (rn_V (As := [.int 0]) (rest := []) (b := o) (m_clauseOf l D Y Z H.size o a (upd I 16 u4) J F G  0 (show (0 ≤ u4.toInt ∧ u4.toInt ≤ 400) by omega) (show (0 ≤ (I 3).toInt ∧ (I 3).toInt ≤ 400) by omega) (show (u4.toInt ≤ (I 3).toInt) by omega) (show (0 ≤ (I 17).toInt ∧ (I 17).toInt ≤ 4000) by omega) (show (0 ≤ (I 20).toInt ∧ (I 20).toInt ≤ 60) by omega) (show (0 ≤ (I 19).toInt ∧ (I 19).toInt ≤ 17) by omega) (show (((F 6) (I 19).toNatClampNeg).toInt ≤ u4.toInt) by omega) (show (((F 8) (I 19).toNatClampNeg).toInt ≤ 11) by omega) hr_PT) ⟨hx, hb, hml, hown, hg⟩ lk_X11_312 ⟨CP.blind, va_recv hKN.1 hP (ci := 11) (q0 := 0) rfl rfl, CP.at hP hKN hD⟩ ⟨⟨rfl, rfl⟩, ⟨Nat.le_of_ble_eq_true rfl, Nat.le_of_ble_eq_true rfl⟩, ⟨Nat.le_of_ble_eq_true rfl, Nat.le_of_ble_eq_true rfl⟩⟩ hl.1 rfl (Nat.le_of_ble_eq_true rfl) dX11_lawClause_12) hP hD hS hA (fun u12 H locs w13 hP hD hS => ?_)
    obtain ⟨u14, u15, u16, u17, u18, u19, u20, f21, f22, f23, f24, f25⟩ := u12
    obtain ⟨hw26, hw27, hw28, hw29, hw30, hw31, hw32, hw33, hw34, hw35, hw36, hw37⟩ : (0 ≤ u15.toInt ∧ u15.toInt ≤ 400) ∧ (u4.toInt ≤ u15.toInt) ∧ (u15.toInt ≤ (I 3).toInt) ∧ (0 ≤ u16.toInt ∧ u16.toInt ≤ 4000) ∧ (0 ≤ u18.toInt ∧ u18.toInt ≤ 60) ∧ ((I 20).toInt ≤ u18.toInt) ∧ (0 ≤ u14.toInt ∧ u14.toInt ≤ 1) ∧ (u14.toInt = 0 → 1 ≤ u16.toInt) ∧ (u14.toInt = 1 → (f24 (I 19).toNatClampNeg).toInt ≤ u15.toInt) ∧ (u14.toInt = 1 → (f22 (I 19).toNatClampNeg).toInt ≤ ((F 8) (I 19).toNatClampNeg).toInt + 1) ∧ (u14.toInt = 1 → PSt (F 4) f22 f21 f23 f24 (I 19).toNatClampNeg ((f24 (I 19).toNatClampNeg).toInt).toNat 0 (u18.toInt).toNat) ∧ TC (F 4) f22 f21 f23 := w13
    refine W.eq (g2 := F0 m 15 ls [.int u14]) rfl ?_
    have hP : va_P D vwCl (MW Y o a (upd (upd (upd (upd (upd (upd I 16 u15) 17 u16) 18 u17) 20 u18) 21 u19) 24 u20) J (vf_upd (vf_upd (vf_upd (vf_upd (vf_upd F 5 f23) 6 f24) 7 f21) 8 f22) 23 f25) G) H := hP
    have hD : va_D A (MW Y o a (upd (upd (upd (upd (upd (upd I 16 u15) 17 u16) 18 u17) 20 u18) 21 u19) 24 u20) J (vf_upd (vf_upd (vf_upd (vf_upd (vf_upd F 5 f23) 6 f24) 7 f21) 8 f22) 23 f25) G) := hD
    rcases (show u14.toInt = 1 ∨ u14.toInt = 0 by omega) with c38 | c38
    · obtain rfl : u14 = 1 := i_is c38 (by decide)
      clear hw33
      replace hw34 := hw34 (by decide)
      replace hw35 := hw35 (by decide)
      have t39 := hw36 (by decide)
      refine W.eq (g2 := F0 m 15 ls [.int 1]) rfl ?_
      refine W.widen (k := 0) (n := 0) (Nat.le_of_ble_eq_true rfl) (Nat.le_of_ble_eq_true rfl) ?_
      exact W.zret (v := 1) hx hb hr (by decide) (fun t ht hW => ⟨⟨(1, u15, u16, u17, u18, u19, u20, f21, f22, f23, f24, f25, (F 9)), rfl, ⟨(show (0 ≤ u15.toInt ∧ u15.toInt ≤ 400) by omega), (show ((I 16).toInt ≤ u15.toInt) by omega), (show (u15.toInt ≤ (I 3).toInt) by omega), (show (0 ≤ u16.toInt ∧ u16.toInt ≤ 4000) by omega), (show (0 ≤ u18.toInt ∧ u18.toInt ≤ 60) by omega), (show ((I 20).toInt ≤ u18.toInt) by omega), (show (0 ≤ (1 : Int32).toInt ∧ (1 : Int32).toInt ≤ 1) by omega), (show ((1 : Int32).toInt = 0 → 1 ≤ u16.toInt) by omega), (show ((1 : Int32).toInt = 1 → (f24 (I 19).toNatClampNeg).toInt ≤ u15.toInt) by omega), (show ((1 : Int32).toInt = 1 → (f22 (I 19).toNatClampNeg).toInt ≤ ((F 8) (I 19).toNatClampNeg).toInt + 1) by omega), (show ((1 : Int32).toInt = 1 → ((F 9) (I 19).toNatClampNeg).toInt ≤ 9999) by omega), hk0, (show ((1 : Int32).toInt = 1 → PSt (F 4) f22 f21 f23 f24 (I 19).toNatClampNeg ((f24 (I 19).toNatClampNeg).toInt).toNat 0 (u18.toInt).toNat) from (fun _ => PT_md t39 (by omega) rfl (by omega) (by omega))), (show TC (F 4) f22 f21 f23 from (PS_tc t39))⟩, CB.mk ht hP hD⟩, hS.F ht⟩) hS.2.2 dX11_lawClause_15
    · obtain rfl : u14 = 0 := i_is c38 (by decide)
      replace hw33 := hw33 (by decide)
      clear hw34
      clear hw35
      refine W.eq (g2 := F0 m 15 ls [.int 0]) rfl ?_
      refine W.widen (k := 0) (n := 0) (Nat.le_of_ble_eq_true rfl) (Nat.le_of_ble_eq_true rfl) ?_
      exact W.zret (v := 0) hx hb hr (by decide) (fun t ht hW => ⟨⟨(0, u15, u16, u17, u18, u19, u20, f21, f22, f23, f24, f25, (F 9)), rfl, ⟨(show (0 ≤ u15.toInt ∧ u15.toInt ≤ 400) by omega), (show ((I 16).toInt ≤ u15.toInt) by omega), (show (u15.toInt ≤ (I 3).toInt) by omega), (show (0 ≤ u16.toInt ∧ u16.toInt ≤ 4000) by omega), (show (0 ≤ u18.toInt ∧ u18.toInt ≤ 60) by omega), (show ((I 20).toInt ≤ u18.toInt) by omega), (show (0 ≤ (0 : Int32).toInt ∧ (0 : Int32).toInt ≤ 1) by omega), (show ((0 : Int32).toInt = 0 → 1 ≤ u16.toInt) by omega), (show ((0 : Int32).toInt = 1 → (f24 (I 19).toNatClampNeg).toInt ≤ u15.toInt) by omega), (show ((0 : Int32).toInt = 1 → (f22 (I 19).toNatClampNeg).toInt ≤ ((F 8) (I 19).toNatClampNeg).toInt + 1) by omega), (show ((0 : Int32).toInt = 1 → ((F 9) (I 19).toNatClampNeg).toInt ≤ 9999) by omega), hk0, (show ((0 : Int32).toInt = 1 → PSt (F 4) f22 f21 f23 f24 (I 19).toNatClampNeg ((f24 (I 19).toNatClampNeg).toInt).toNat 0 (u18.toInt).toNat) from (fun h => absurd h (by decide))), (show TC (F 4) f22 f21 f23 from hw37)⟩, CB.mk ht hP hD⟩, hS.F ht⟩) hS.2.2 dX11_lawClause_15
  · obtain rfl : u3 = 0 := i_is c10 (by decide)
    have zi0 : (0 : Int32).toInt = 0 := by decide
    clear hw9
    refine W.eq (g2 := F0 m 7 ls [.int 0]) rfl ?_
    refine lv_if_eq (tgt := 16) hx hb dX11_lawClause_7 (by decide) (fun c40 => ?_) (fun c40 => ?_)
    rotate_left
    · exact absurd c40 (by decide)
    refine lv_aload_n hx hb dX11_lawClause_16 rfl (lv_at hl 0 rfl) ?_
    refine lv_aload_n hx hb dX11_lawClause_17 rfl (lv_at hl 0 rfl) ?_
    refine va_get (D := D) (ci := 11) (v := .ref (a 9)) (C := RX11) (T := TX11) (N := 49) hx hb hg inGX11 hown hKN.1 hP 0 rfl rfl 9 (by decide) (hg _ kw_1217) (fun _ h9 => h9) rfl dX11_lawClause_18 ?_
    refine lv_iconst (v := 0) hx hb dX11_lawClause_21 (by decide) ?_
    refine lv_sipush (v := 9999) hx hb dX11_lawClause_22 (by decide) ?_
    refine lv_iload_n hx hb dX11_lawClause_25 rfl (lv_at hl 1 rfl) ?_
    have zi9999 : (9999 : Int32).toInt = 9999 := by decide
    refine cga (rn_V (As := [.ref (a 9), .int 0, .int 9999, .int p1]) (rest := []) (b := o) (m_sets_noise l D Y Z H.size o a (upd I 16 u4) J F G  0 9999 p1 (show (0 ≤ u4.toInt ∧ u4.toInt ≤ 400) by omega) (show (0 ≤ (I 3).toInt ∧ (I 3).toInt ≤ 400) by omega) (show (u4.toInt ≤ (I 3).toInt) by omega) (show (0 ≤ (I 17).toInt ∧ (I 17).toInt ≤ 4000) by omega) (show (0 ≤ (I 19).toInt ∧ (I 19).toInt ≤ 17) by omega) (show (-1 ≤ (0 : Int32).toInt ∧ (0 : Int32).toInt ≤ 100000) by omega) (show (-1 ≤ (9999 : Int32).toInt ∧ (9999 : Int32).toInt ≤ 100000) by omega) (show (0 ≤ p1.toInt ∧ p1.toInt ≤ 400) by omega) hk0 hr_UN) ⟨hx, hb, hml, hown, hg⟩ lk_X11_306 ⟨CP.blind, va_recv hKN.1 hP (ci := 11) (q0 := 0) rfl rfl, CP.at hP hKN hD⟩ ⟨⟨rfl, rfl⟩, ⟨Nat.le_of_ble_eq_true rfl, Nat.le_of_ble_eq_true rfl⟩, ⟨Nat.le_of_ble_eq_true rfl, Nat.le_of_ble_eq_true rfl⟩⟩ hl.1 rfl (Nat.le_of_ble_eq_true rfl) dX11_lawClause_26) hP hD hS hA (fun u41 H locs w42 hP hD hS => ?_)
    obtain ⟨u43, u44, u45, u46, f47⟩ := u41
    obtain ⟨hw48, hw49, hw50, hw51, hw52, hw53, hw54, hw55⟩ : (0 ≤ u44.toInt ∧ u44.toInt ≤ 400) ∧ (u4.toInt ≤ u44.toInt) ∧ (u44.toInt ≤ (I 3).toInt) ∧ (0 ≤ u45.toInt ∧ u45.toInt ≤ 4000) ∧ (0 ≤ u43.toInt ∧ u43.toInt ≤ 1) ∧ (u43.toInt = 0 → 1 ≤ u45.toInt) ∧ (u43.toInt = 1 → ((0 : Int32).toInt ≤ (f47 (I 19).toNatClampNeg).toInt ∧ (f47 (I 19).toNatClampNeg).toInt ≤ (9999 : Int32).toInt ∧ u46.toInt = (f47 (I 19).toNatClampNeg).toInt)) ∧ TX (F 4) f47 (F 10) (F 11) (F 12) (F 13) := w42
    refine W.eq (g2 := F0 m 29 ls [.int u43]) rfl ?_
    have hP : va_P D vwCl (MW Y o a (upd (upd (upd I 16 u44) 17 u45) 18 u46) J (vf_upd F 9 f47) G) H := hP
    have hD : va_D A (MW Y o a (upd (upd (upd I 16 u44) 17 u45) 18 u46) J (vf_upd F 9 f47) G) := hD
    rcases (show u43.toInt = 1 ∨ u43.toInt = 0 by omega) with c56 | c56
    · obtain rfl : u43 = 1 := i_is c56 (by decide)
      have zi1 : (1 : Int32).toInt = 1 := by decide
      clear hw53
      replace hw54 := hw54 (by decide)
      refine W.eq (g2 := F0 m 29 ls [.int 1]) rfl ?_
      refine W.widen (k := 0) (n := 0) (Nat.le_of_ble_eq_true rfl) (Nat.le_of_ble_eq_true rfl) ?_
      exact W.zret (v := 1) hx hb hr (by decide) (fun t ht hW => ⟨⟨(1, u44, u45, u46, (I 20), (I 21), (I 24), (F 7), (F 8), (F 5), (F 6), (F 23), f47), rfl, ⟨(show (0 ≤ u44.toInt ∧ u44.toInt ≤ 400) by omega), (show ((I 16).toInt ≤ u44.toInt) by omega), (show (u44.toInt ≤ (I 3).toInt) by omega), (show (0 ≤ u45.toInt ∧ u45.toInt ≤ 4000) by omega), (show (0 ≤ (I 20).toInt ∧ (I 20).toInt ≤ 60) by omega), (show ((I 20).toInt ≤ (I 20).toInt) by omega), (show (0 ≤ (1 : Int32).toInt ∧ (1 : Int32).toInt ≤ 1) by omega), (show ((1 : Int32).toInt = 0 → 1 ≤ u45.toInt) by omega), (show ((1 : Int32).toInt = 1 → ((F 6) (I 19).toNatClampNeg).toInt ≤ u44.toInt) by omega), (show ((1 : Int32).toInt = 1 → ((F 8) (I 19).toNatClampNeg).toInt ≤ ((F 8) (I 19).toNatClampNeg).toInt + 1) by omega), (show ((1 : Int32).toInt = 1 → (f47 (I 19).toNatClampNeg).toInt ≤ 9999) by omega), hw55, (show ((1 : Int32).toInt = 1 → PSt (F 4) (F 8) (F 7) (F 5) (F 6) (I 19).toNatClampNeg (((F 6) (I 19).toNatClampNeg).toInt).toNat 0 ((I 20).toInt).toNat) from (fun _ => PT_md hr_PT (by omega) rfl (by omega) (by omega))), (show TC (F 4) (F 8) (F 7) (F 5) from (PS_tc hr_PT))⟩, CB.mk ht hP hD⟩, hS.F ht⟩) hS.2.2 dX11_lawClause_29
    · obtain rfl : u43 = 0 := i_is c56 (by decide)
      replace hw53 := hw53 (by decide)
      clear hw54
      refine W.eq (g2 := F0 m 29 ls [.int 0]) rfl ?_
      refine W.widen (k := 0) (n := 0) (Nat.le_of_ble_eq_true rfl) (Nat.le_of_ble_eq_true rfl) ?_
      exact W.zret (v := 0) hx hb hr (by decide) (fun t ht hW => ⟨⟨(0, u44, u45, u46, (I 20), (I 21), (I 24), (F 7), (F 8), (F 5), (F 6), (F 23), f47), rfl, ⟨(show (0 ≤ u44.toInt ∧ u44.toInt ≤ 400) by omega), (show ((I 16).toInt ≤ u44.toInt) by omega), (show (u44.toInt ≤ (I 3).toInt) by omega), (show (0 ≤ u45.toInt ∧ u45.toInt ≤ 4000) by omega), (show (0 ≤ (I 20).toInt ∧ (I 20).toInt ≤ 60) by omega), (show ((I 20).toInt ≤ (I 20).toInt) by omega), (show (0 ≤ (0 : Int32).toInt ∧ (0 : Int32).toInt ≤ 1) by omega), (show ((0 : Int32).toInt = 0 → 1 ≤ u45.toInt) by omega), (show ((0 : Int32).toInt = 1 → ((F 6) (I 19).toNatClampNeg).toInt ≤ u44.toInt) by omega), (show ((0 : Int32).toInt = 1 → ((F 8) (I 19).toNatClampNeg).toInt ≤ ((F 8) (I 19).toNatClampNeg).toInt + 1) by omega), (show ((0 : Int32).toInt = 1 → (f47 (I 19).toNatClampNeg).toInt ≤ 9999) by omega), hw55, (show ((0 : Int32).toInt = 1 → PSt (F 4) (F 8) (F 7) (F 5) (F 6) (I 19).toNatClampNeg (((F 6) (I 19).toNatClampNeg).toInt).toNat 0 ((I 20).toInt).toNat) from (fun h => absurd h (by decide))), (show TC (F 4) (F 8) (F 7) (F 5) from (PS_tc hr_PT))⟩, CB.mk ht hP hD⟩, hS.F ht⟩) hS.2.2 dX11_lawClause_29
set_option maxHeartbeats 4000000 in
set_option maxRecDepth 100000 in
theorem m_searchClause (l : Launch) (D : va_G) (Y : Nat → ClassId) (Z : Nat → Nat) (sz : Nat) (o : Nat) (a : Nat → Nat) (I : Nat → Int32) (J : Nat → Int64) (F : Nat → Nat → Int32) (G : Nat → Nat → Int64) (p1 : Int32) (hk_0 : (0 ≤ (I 16).toInt ∧ (I 16).toInt ≤ 400)) (hk_1 : (0 ≤ (I 3).toInt ∧ (I 3).toInt ≤ 400)) (hk_2 : ((I 16).toInt ≤ (I 3).toInt)) (hk_3 : (0 ≤ (I 17).toInt ∧ (I 17).toInt ≤ 4000)) (hk_4 : (0 ≤ (I 19).toInt ∧ (I 19).toInt ≤ 17)) (hk_5 : (0 ≤ p1.toInt ∧ p1.toInt ≤ 400)) (hk_6 : ((((F 10) (I 19).toNatClampNeg).toInt < 0 ∨ ((2 ≤ ((F 10) (I 19).toNatClampNeg).toInt ∧ ((F 10) (I 19).toNatClampNeg).toInt ≤ 200) ∧ ((F 11) (I 19).toNatClampNeg).toInt ≤ 200)))) (hk_7 : ((((F 12) (I 19).toNatClampNeg).toInt < 0 ∨ (1 ≤ ((F 12) (I 19).toNatClampNeg).toInt ∧ ((F 13) (I 19).toNatClampNeg).toInt ≤ 10)))) (hk0 : TX (F 4) (F 9) (F 10) (F 11) (F 12) (F 13)) (hr_UN : UNT (F 4) (I 19).toNatClampNeg) : Met l yX11_searchClause (.code yX11_searchClause cX11_searchClause 2 (some .boolean) :: GW) ({ frames := 4, cells := 0, slots := 0, locals := 99 }) (va_Pc [.ref o, .int p1] (CP D Y Z (MW Y o a I J F G) sz)) (QG (S := Int32 × Int32 × Int32 × Int32 × (Nat → Int32) × (Nat → Int32) × (Nat → Int32) × (Nat → Int32) × (Nat → Int32) × (Nat → Int32)) (fun u => some (.int u.1)) (fun u => (0 ≤ u.2.1.toInt ∧ u.2.1.toInt ≤ 400) ∧ ((I 16).toInt ≤ u.2.1.toInt) ∧ (u.2.1.toInt ≤ (I 3).toInt) ∧ (0 ≤ u.2.2.1.toInt ∧ u.2.2.1.toInt ≤ 4000) ∧ (0 ≤ u.1.toInt ∧ u.1.toInt ≤ 1) ∧ (u.1.toInt = 0 → 1 ≤ u.2.2.1.toInt) ∧ (u.1.toInt = 1 → ((u.2.2.2.2.1 (I 19).toNatClampNeg).toInt < 0 ∨ ((2 ≤ (u.2.2.2.2.1 (I 19).toNatClampNeg).toInt ∧ (u.2.2.2.2.1 (I 19).toNatClampNeg).toInt ≤ 200) ∧ (u.2.2.2.2.2.1 (I 19).toNatClampNeg).toInt ≤ 200))) ∧ (u.1.toInt = 1 → ((u.2.2.2.2.2.2.1 (I 19).toNatClampNeg).toInt < 0 ∨ (1 ≤ (u.2.2.2.2.2.2.1 (I 19).toNatClampNeg).toInt ∧ (u.2.2.2.2.2.2.2.1 (I 19).toNatClampNeg).toInt ≤ 10))) ∧ TX (F 4) (F 9) u.2.2.2.2.1 u.2.2.2.2.2.1 u.2.2.2.2.2.2.1 u.2.2.2.2.2.2.2.1) (fun u => CB D (MW Y o a (upd (upd (upd I 16 u.2.1) 17 u.2.2.1) 18 u.2.2.2.1) J (vf_upd (vf_upd (vf_upd (vf_upd (vf_upd (vf_upd F 10 u.2.2.2.2.1) 11 u.2.2.2.2.2.1) 12 u.2.2.2.2.2.2.1) 13 u.2.2.2.2.2.2.2.1) 14 u.2.2.2.2.2.2.2.2.1) 15 u.2.2.2.2.2.2.2.2.2) G) (va_A (MW Y o a I J F G) sz)) (va_A (MW Y o a I J F G) sz)) 0 0 (va_A (MW Y o a I J F G) sz) := by
  refine Met.ofW (cc := cX11_searchClause) (maxL := 2) (ret := (some .boolean)) (by decide) rfl ?_
  intro p e s m args below meth c s₁ B hml hv
  obtain ⟨rfl, hsz, hP, hKN, hD0⟩ := hv
  have hx := B.exec
  have hb := B.bytes
  have hr := B.returns
  have hts := atoms_spec (ws := .code yX11_searchClause cX11_searchClause 2 (some .boolean) :: GW) B.pre
  have hg : ∀ w ∈ GW, w.before _ s = true := fun w h => hts w (List.mem_cons_of_mem _ h)
  have hown : s.vm.findClass RX11 = some m.cls := findClass_of_methodNamed B.named
  have hlocks := B.notSynchronized
  subst hsz
  have hD := hD0.self (sz := s.heap.size)
  generalize hAe : va_A (MW Y o a I J F G) s.heap.size = A at hD ⊢
  have hA : ∀ q : Nat, s.heap.size ≤ q → A q := fun q h => by rw [← hAe]; exact Or.inr h
  clear hAe hD0 hts B
  have hl := lv_entry ([.ref o, .int p1]) (n := 2) (Nat.le_of_ble_eq_true rfl)
  rw [lg_entry_eq]
  generalize (lg_sl ([.ref o, .int p1]) ++ List.replicate (2 - (lg_sl ([.ref o, .int p1])).length) Slot.unset).toArray = ls at hl ⊢
  have hl : lv_has ls 2 [(0, .ref o), (1, .int p1)] := hl
  refine w_start (A0 := A) hP (fun H locs hP hS => ?_)
  refine lv_aload_n hx hb dX11_searchClause_0 rfl (lv_at hl 0 rfl) ?_
  refine lv_ldc2 (v := 1650811252) hx hb hown (hg _ kw_1485) dX11_searchClause_1 ?_
  have zl1650811252 : (1650811252 : Int64).toInt = 1650811252 := by decide
  refine cga (rn_V (As := [.long 1650811252]) (rest := []) (b := o) (m_isWord l D Y Z H.size o a I J F G  1650811252 (show (0 ≤ (I 16).toInt ∧ (I 16).toInt ≤ 400) by omega) (show (0 ≤ (I 3).toInt ∧ (I 3).toInt ≤ 400) by omega) (show ((I 16).toInt ≤ (I 3).toInt) by omega)) ⟨hx, hb, hml, hown, hg⟩ lk_X11_190 ⟨CP.blind, va_recv hKN.1 hP (ci := 11) (q0 := 0) rfl rfl, CP.at hP hKN hD⟩ ⟨⟨rfl, rfl⟩, ⟨Nat.le_of_ble_eq_true rfl, Nat.le_of_ble_eq_true rfl⟩, ⟨Nat.le_of_ble_eq_true rfl, Nat.le_of_ble_eq_true rfl⟩⟩ hl.1 rfl (Nat.le_of_ble_eq_true rfl) dX11_searchClause_4) hP hD hS hA (fun u1 H locs w2 hP hD hS => ?_)
  obtain ⟨u3, u4⟩ := u1
  obtain ⟨hw5, hw6, hw7, hw8, hw9⟩ : (0 ≤ u4.toInt ∧ u4.toInt ≤ 400) ∧ ((I 16).toInt ≤ u4.toInt) ∧ (u4.toInt ≤ (I 3).toInt) ∧ (0 ≤ u3.toInt ∧ u3.toInt ≤ 1) ∧ (u3.toInt = 1 → (u4.toInt < (I 3).toInt ∧ 97 ≤ ((F 2) u4.toNatClampNeg).toInt ∧ ((F 2) u4.toNatClampNeg).toInt ≤ 122)) := w2
  refine W.eq (g2 := F0 m 7 ls [.int u3]) rfl ?_
  have hP : va_P D vwCl (MW Y o a (upd I 16 u4) J F G) H := hP
  have hD : va_D A (MW Y o a (upd I 16 u4) J F G) := hD
  rcases (show u3.toInt = 1 ∨ u3.toInt = 0 by omega) with c10 | c10
  · obtain rfl : u3 = 1 := i_is c10 (by decide)
    have zi1 : (1 : Int32).toInt = 1 := by decide
    replace hw9 := hw9 (by decide)
    refine W.eq (g2 := F0 m 7 ls [.int 1]) rfl ?_
    refine lv_if_eq (tgt := 28) hx hb dX11_searchClause_7 (by decide) (fun c11 => ?_) (fun c11 => ?_)
    · exact absurd c11 (by decide)
    refine lv_aload_n hx hb dX11_searchClause_10 rfl (lv_at hl 0 rfl) ?_
    refine lv_aload_n hx hb dX11_searchClause_11 rfl (lv_at hl 0 rfl) ?_
    refine va_get (D := D) (ci := 11) (v := .ref (a 10)) (C := RX11) (T := TX11) (N := 49) hx hb hg inGX11 hown hKN.1 hP 0 rfl rfl 10 (by decide) (hg _ kw_1218) (fun _ h9 => h9) rfl dX11_searchClause_12 ?_
    refine lv_aload_n hx hb dX11_searchClause_15 rfl (lv_at hl 0 rfl) ?_
    refine va_get (D := D) (ci := 11) (v := .ref (a 11)) (C := RX11) (T := TX11) (N := 49) hx hb hg inGX11 hown hKN.1 hP 0 rfl rfl 11 (by decide) (hg _ kw_1219) (fun _ h9 => h9) rfl dX11_searchClause_16 ?_
    refine lv_iconst (v := 2) hx hb dX11_searchClause_19 (by decide) ?_
    refine lv_sipush (v := 200) hx hb dX11_searchClause_20 (by decide) ?_
    refine lv_iload_n hx hb dX11_searchClause_23 rfl (lv_at hl 1 rfl) ?_
    have zi2 : (2 : Int32).toInt = 2 := by decide
    have zi200 : (200 : Int32).toInt = 200 := by decide
    refine cga (rn_V (As := [.ref (a 10), .ref (a 11), .int 2, .int 200, .int p1]) (rest := []) (b := o) (m_spans_beatFrom l D Y Z H.size o a (upd I 16 u4) J F G  2 200 p1 (show (0 ≤ u4.toInt ∧ u4.toInt ≤ 400) by omega) (show (0 ≤ (I 3).toInt ∧ (I 3).toInt ≤ 400) by omega) (show (u4.toInt ≤ (I 3).toInt) by omega) (show (0 ≤ (I 17).toInt ∧ (I 17).toInt ≤ 4000) by omega) (show (0 ≤ (I 19).toInt ∧ (I 19).toInt ≤ 17) by omega) (show (-1 ≤ (2 : Int32).toInt ∧ (2 : Int32).toInt ≤ 100000) by omega) (show (-1 ≤ (200 : Int32).toInt ∧ (200 : Int32).toInt ≤ 100000) by omega) (show (0 ≤ p1.toInt ∧ p1.toInt ≤ 400) by omega) hk0 hr_UN) ⟨hx, hb, hml, hown, hg⟩ lk_X11_315 ⟨CP.blind, va_recv hKN.1 hP (ci := 11) (q0 := 0) rfl rfl, CP.at hP hKN hD⟩ ⟨⟨rfl, rfl⟩, ⟨Nat.le_of_ble_eq_true rfl, Nat.le_of_ble_eq_true rfl⟩, ⟨Nat.le_of_ble_eq_true rfl, Nat.le_of_ble_eq_true rfl⟩⟩ hl.1 rfl (Nat.le_of_ble_eq_true rfl) dX11_searchClause_24) hP hD hS hA (fun u12 H locs w13 hP hD hS => ?_)
    obtain ⟨u14, u15, u16, u17, f18, f19⟩ := u12
    obtain ⟨hw20, hw21, hw22, hw23, hw24, hw25, hw26, hw27⟩ : (0 ≤ u15.toInt ∧ u15.toInt ≤ 400) ∧ (u4.toInt ≤ u15.toInt) ∧ (u15.toInt ≤ (I 3).toInt) ∧ (0 ≤ u16.toInt ∧ u16.toInt ≤ 4000) ∧ (0 ≤ u14.toInt ∧ u14.toInt ≤ 1) ∧ (u14.toInt = 0 → 1 ≤ u16.toInt) ∧ (u14.toInt = 1 → (((2 : Int32).toInt ≤ (f18 (I 19).toNatClampNeg).toInt ∧ (f18 (I 19).toNatClampNeg).toInt ≤ (200 : Int32).toInt) ∧ (f19 (I 19).toNatClampNeg).toInt ≤ (200 : Int32).toInt)) ∧ TX (F 4) (F 9) f18 f19 (F 12) (F 13) := w13
    refine W.eq (g2 := F0 m 27 ls [.int u14]) rfl ?_
    have hP : va_P D vwCl (MW Y o a (upd (upd (upd I 16 u15) 17 u16) 18 u17) J (vf_upd (vf_upd F 10 f18) 11 f19) G) H := hP
    have hD : va_D A (MW Y o a (upd (upd (upd I 16 u15) 17 u16) 18 u17) J (vf_upd (vf_upd F 10 f18) 11 f19) G) := hD
    rcases (show u14.toInt = 1 ∨ u14.toInt = 0 by omega) with c28 | c28
    · obtain rfl : u14 = 1 := i_is c28 (by decide)
      clear hw25
      replace hw26 := hw26 (by decide)
      refine W.eq (g2 := F0 m 27 ls [.int 1]) rfl ?_
      refine W.widen (k := 0) (n := 0) (Nat.le_of_ble_eq_true rfl) (Nat.le_of_ble_eq_true rfl) ?_
      exact W.zret (v := 1) hx hb hr (by decide) (fun t ht hW => ⟨⟨(1, u15, u16, u17, f18, f19, (F 12), (F 13), (F 14), (F 15)), rfl, ⟨(show (0 ≤ u15.toInt ∧ u15.toInt ≤ 400) by omega), (show ((I 16).toInt ≤ u15.toInt) by omega), (show (u15.toInt ≤ (I 3).toInt) by omega), (show (0 ≤ u16.toInt ∧ u16.toInt ≤ 4000) by omega), (show (0 ≤ (1 : Int32).toInt ∧ (1 : Int32).toInt ≤ 1) by omega), (show ((1 : Int32).toInt = 0 → 1 ≤ u16.toInt) by omega), (show ((1 : Int32).toInt = 1 → ((f18 (I 19).toNatClampNeg).toInt < 0 ∨ ((2 ≤ (f18 (I 19).toNatClampNeg).toInt ∧ (f18 (I 19).toNatClampNeg).toInt ≤ 200) ∧ (f19 (I 19).toNatClampNeg).toInt ≤ 200))) by omega), (show ((1 : Int32).toInt = 1 → (((F 12) (I 19).toNatClampNeg).toInt < 0 ∨ (1 ≤ ((F 12) (I 19).toNatClampNeg).toInt ∧ ((F 13) (I 19).toNatClampNeg).toInt ≤ 10))) by omega), hw27⟩, CB.mk ht hP hD⟩, hS.F ht⟩) hS.2.2 dX11_searchClause_27
    · obtain rfl : u14 = 0 := i_is c28 (by decide)
      have zi0 : (0 : Int32).toInt = 0 := by decide
      replace hw25 := hw25 (by decide)
      clear hw26
      refine W.eq (g2 := F0 m 27 ls [.int 0]) rfl ?_
      refine W.widen (k := 0) (n := 0) (Nat.le_of_ble_eq_true rfl) (Nat.le_of_ble_eq_true rfl) ?_
      exact W.zret (v := 0) hx hb hr (by decide) (fun t ht hW => ⟨⟨(0, u15, u16, u17, f18, f19, (F 12), (F 13), (F 14), (F 15)), rfl, ⟨(show (0 ≤ u15.toInt ∧ u15.toInt ≤ 400) by omega), (show ((I 16).toInt ≤ u15.toInt) by omega), (show (u15.toInt ≤ (I 3).toInt) by omega), (show (0 ≤ u16.toInt ∧ u16.toInt ≤ 4000) by omega), (show (0 ≤ (0 : Int32).toInt ∧ (0 : Int32).toInt ≤ 1) by omega), (show ((0 : Int32).toInt = 0 → 1 ≤ u16.toInt) by omega), (show ((0 : Int32).toInt = 1 → ((f18 (I 19).toNatClampNeg).toInt < 0 ∨ ((2 ≤ (f18 (I 19).toNatClampNeg).toInt ∧ (f18 (I 19).toNatClampNeg).toInt ≤ 200) ∧ (f19 (I 19).toNatClampNeg).toInt ≤ 200))) by omega), (show ((0 : Int32).toInt = 1 → (((F 12) (I 19).toNatClampNeg).toInt < 0 ∨ (1 ≤ ((F 12) (I 19).toNatClampNeg).toInt ∧ ((F 13) (I 19).toNatClampNeg).toInt ≤ 10))) by omega), hw27⟩, CB.mk ht hP hD⟩, hS.F ht⟩) hS.2.2 dX11_searchClause_27
  · obtain rfl : u3 = 0 := i_is c10 (by decide)
    have zi0 : (0 : Int32).toInt = 0 := by decide
    clear hw9
    refine W.eq (g2 := F0 m 7 ls [.int 0]) rfl ?_
    refine lv_if_eq (tgt := 28) hx hb dX11_searchClause_7 (by decide) (fun c29 => ?_) (fun c29 => ?_)
    rotate_left
    · exact absurd c29 (by decide)
    refine lv_aload_n hx hb dX11_searchClause_28 rfl (lv_at hl 0 rfl) ?_
    refine lv_ldc2 (v := 1819242087) hx hb hown (hg _ kw_1486) dX11_searchClause_29 ?_
    have zl1819242087 : (1819242087 : Int64).toInt = 1819242087 := by decide
    refine cga (rn_V (As := [.long 1819242087]) (rest := []) (b := o) (m_isWord l D Y Z H.size o a (upd I 16 u4) J F G  1819242087 (show (0 ≤ u4.toInt ∧ u4.toInt ≤ 400) by omega) (show (0 ≤ (I 3).toInt ∧ (I 3).toInt ≤ 400) by omega) (show (u4.toInt ≤ (I 3).toInt) by omega)) ⟨hx, hb, hml, hown, hg⟩ lk_X11_190 ⟨CP.blind, va_recv hKN.1 hP (ci := 11) (q0 := 0) rfl rfl, CP.at hP hKN hD⟩ ⟨⟨rfl, rfl⟩, ⟨Nat.le_of_ble_eq_true rfl, Nat.le_of_ble_eq_true rfl⟩, ⟨Nat.le_of_ble_eq_true rfl, Nat.le_of_ble_eq_true rfl⟩⟩ hl.1 rfl (Nat.le_of_ble_eq_true rfl) dX11_searchClause_32) hP hD hS hA (fun u30 H locs w31 hP hD hS => ?_)
    obtain ⟨u32, u33⟩ := u30
    obtain ⟨hw34, hw35, hw36, hw37, hw38⟩ : (0 ≤ u33.toInt ∧ u33.toInt ≤ 400) ∧ (u4.toInt ≤ u33.toInt) ∧ (u33.toInt ≤ (I 3).toInt) ∧ (0 ≤ u32.toInt ∧ u32.toInt ≤ 1) ∧ (u32.toInt = 1 → (u33.toInt < (I 3).toInt ∧ 97 ≤ ((F 2) u33.toNatClampNeg).toInt ∧ ((F 2) u33.toNatClampNeg).toInt ≤ 122)) := w31
    refine W.eq (g2 := F0 m 35 ls [.int u32]) rfl ?_
    have hP : va_P D vwCl (MW Y o a (upd I 16 u33) J F G) H := hP
    have hD : va_D A (MW Y o a (upd I 16 u33) J F G) := hD
    rcases (show u32.toInt = 1 ∨ u32.toInt = 0 by omega) with c39 | c39
    · obtain rfl : u32 = 1 := i_is c39 (by decide)
      have zi1 : (1 : Int32).toInt = 1 := by decide
      replace hw38 := hw38 (by decide)
      refine W.eq (g2 := F0 m 35 ls [.int 1]) rfl ?_
      refine lv_if_eq (tgt := 55) hx hb dX11_searchClause_35 (by decide) (fun c40 => ?_) (fun c40 => ?_)
      · exact absurd c40 (by decide)
      refine lv_aload_n hx hb dX11_searchClause_38 rfl (lv_at hl 0 rfl) ?_
      refine lv_aload_n hx hb dX11_searchClause_39 rfl (lv_at hl 0 rfl) ?_
      refine va_get (D := D) (ci := 11) (v := .ref (a 12)) (C := RX11) (T := TX11) (N := 49) hx hb hg inGX11 hown hKN.1 hP 0 rfl rfl 12 (by decide) (hg _ kw_1220) (fun _ h9 => h9) rfl dX11_searchClause_40 ?_
      refine lv_aload_n hx hb dX11_searchClause_43 rfl (lv_at hl 0 rfl) ?_
      refine va_get (D := D) (ci := 11) (v := .ref (a 13)) (C := RX11) (T := TX11) (N := 49) hx hb hg inGX11 hown hKN.1 hP 0 rfl rfl 13 (by decide) (hg _ kw_1221) (fun _ h9 => h9) rfl dX11_searchClause_44 ?_
      refine lv_iconst (v := 1) hx hb dX11_searchClause_47 (by decide) ?_
      refine lv_bipush (v := 10) hx hb dX11_searchClause_48 (by decide) ?_
      refine lv_iload_n hx hb dX11_searchClause_50 rfl (lv_at hl 1 rfl) ?_
      have zi10 : (10 : Int32).toInt = 10 := by decide
      refine cga (rn_V (As := [.ref (a 12), .ref (a 13), .int 1, .int 10, .int p1]) (rest := []) (b := o) (m_spans_longFrom l D Y Z H.size o a (upd I 16 u33) J F G  1 10 p1 (show (0 ≤ u33.toInt ∧ u33.toInt ≤ 400) by omega) (show (0 ≤ (I 3).toInt ∧ (I 3).toInt ≤ 400) by omega) (show (u33.toInt ≤ (I 3).toInt) by omega) (show (0 ≤ (I 17).toInt ∧ (I 17).toInt ≤ 4000) by omega) (show (0 ≤ (I 19).toInt ∧ (I 19).toInt ≤ 17) by omega) (show (-1 ≤ (1 : Int32).toInt ∧ (1 : Int32).toInt ≤ 100000) by omega) (show (-1 ≤ (10 : Int32).toInt ∧ (10 : Int32).toInt ≤ 100000) by omega) (show (0 ≤ p1.toInt ∧ p1.toInt ≤ 400) by omega) hk0 hr_UN) ⟨hx, hb, hml, hown, hg⟩ lk_X11_315 ⟨CP.blind, va_recv hKN.1 hP (ci := 11) (q0 := 0) rfl rfl, CP.at hP hKN hD⟩ ⟨⟨rfl, rfl⟩, ⟨Nat.le_of_ble_eq_true rfl, Nat.le_of_ble_eq_true rfl⟩, ⟨Nat.le_of_ble_eq_true rfl, Nat.le_of_ble_eq_true rfl⟩⟩ hl.1 rfl (Nat.le_of_ble_eq_true rfl) dX11_searchClause_51) hP hD hS hA (fun u41 H locs w42 hP hD hS => ?_)
      obtain ⟨u43, u44, u45, u46, f47, f48⟩ := u41
      obtain ⟨hw49, hw50, hw51, hw52, hw53, hw54, hw55, hw56⟩ : (0 ≤ u44.toInt ∧ u44.toInt ≤ 400) ∧ (u33.toInt ≤ u44.toInt) ∧ (u44.toInt ≤ (I 3).toInt) ∧ (0 ≤ u45.toInt ∧ u45.toInt ≤ 4000) ∧ (0 ≤ u43.toInt ∧ u43.toInt ≤ 1) ∧ (u43.toInt = 0 → 1 ≤ u45.toInt) ∧ (u43.toInt = 1 → (((1 : Int32).toInt ≤ (f47 (I 19).toNatClampNeg).toInt ∧ (f47 (I 19).toNatClampNeg).toInt ≤ (10 : Int32).toInt) ∧ (f48 (I 19).toNatClampNeg).toInt ≤ (10 : Int32).toInt)) ∧ TX (F 4) (F 9) (F 10) (F 11) f47 f48 := w42
      refine W.eq (g2 := F0 m 54 ls [.int u43]) rfl ?_
      have hP : va_P D vwCl (MW Y o a (upd (upd (upd I 16 u44) 17 u45) 18 u46) J (vf_upd (vf_upd F 12 f47) 13 f48) G) H := hP
      have hD : va_D A (MW Y o a (upd (upd (upd I 16 u44) 17 u45) 18 u46) J (vf_upd (vf_upd F 12 f47) 13 f48) G) := hD
      rcases (show u43.toInt = 1 ∨ u43.toInt = 0 by omega) with c57 | c57
      · obtain rfl : u43 = 1 := i_is c57 (by decide)
        clear hw54
        replace hw55 := hw55 (by decide)
        refine W.eq (g2 := F0 m 54 ls [.int 1]) rfl ?_
        refine W.widen (k := 0) (n := 0) (Nat.le_of_ble_eq_true rfl) (Nat.le_of_ble_eq_true rfl) ?_
        exact W.zret (v := 1) hx hb hr (by decide) (fun t ht hW => ⟨⟨(1, u44, u45, u46, (F 10), (F 11), f47, f48, (F 14), (F 15)), rfl, ⟨(show (0 ≤ u44.toInt ∧ u44.toInt ≤ 400) by omega), (show ((I 16).toInt ≤ u44.toInt) by omega), (show (u44.toInt ≤ (I 3).toInt) by omega), (show (0 ≤ u45.toInt ∧ u45.toInt ≤ 4000) by omega), (show (0 ≤ (1 : Int32).toInt ∧ (1 : Int32).toInt ≤ 1) by omega), (show ((1 : Int32).toInt = 0 → 1 ≤ u45.toInt) by omega), (show ((1 : Int32).toInt = 1 → (((F 10) (I 19).toNatClampNeg).toInt < 0 ∨ ((2 ≤ ((F 10) (I 19).toNatClampNeg).toInt ∧ ((F 10) (I 19).toNatClampNeg).toInt ≤ 200) ∧ ((F 11) (I 19).toNatClampNeg).toInt ≤ 200))) by omega), (show ((1 : Int32).toInt = 1 → ((f47 (I 19).toNatClampNeg).toInt < 0 ∨ (1 ≤ (f47 (I 19).toNatClampNeg).toInt ∧ (f48 (I 19).toNatClampNeg).toInt ≤ 10))) by omega), hw56⟩, CB.mk ht hP hD⟩, hS.F ht⟩) hS.2.2 dX11_searchClause_54
      · obtain rfl : u43 = 0 := i_is c57 (by decide)
        replace hw54 := hw54 (by decide)
        clear hw55
        refine W.eq (g2 := F0 m 54 ls [.int 0]) rfl ?_
        refine W.widen (k := 0) (n := 0) (Nat.le_of_ble_eq_true rfl) (Nat.le_of_ble_eq_true rfl) ?_
        exact W.zret (v := 0) hx hb hr (by decide) (fun t ht hW => ⟨⟨(0, u44, u45, u46, (F 10), (F 11), f47, f48, (F 14), (F 15)), rfl, ⟨(show (0 ≤ u44.toInt ∧ u44.toInt ≤ 400) by omega), (show ((I 16).toInt ≤ u44.toInt) by omega), (show (u44.toInt ≤ (I 3).toInt) by omega), (show (0 ≤ u45.toInt ∧ u45.toInt ≤ 4000) by omega), (show (0 ≤ (0 : Int32).toInt ∧ (0 : Int32).toInt ≤ 1) by omega), (show ((0 : Int32).toInt = 0 → 1 ≤ u45.toInt) by omega), (show ((0 : Int32).toInt = 1 → (((F 10) (I 19).toNatClampNeg).toInt < 0 ∨ ((2 ≤ ((F 10) (I 19).toNatClampNeg).toInt ∧ ((F 10) (I 19).toNatClampNeg).toInt ≤ 200) ∧ ((F 11) (I 19).toNatClampNeg).toInt ≤ 200))) by omega), (show ((0 : Int32).toInt = 1 → ((f47 (I 19).toNatClampNeg).toInt < 0 ∨ (1 ≤ (f47 (I 19).toNatClampNeg).toInt ∧ (f48 (I 19).toNatClampNeg).toInt ≤ 10))) by omega), hw56⟩, CB.mk ht hP hD⟩, hS.F ht⟩) hS.2.2 dX11_searchClause_54
    · obtain rfl : u32 = 0 := i_is c39 (by decide)
      clear hw38
      refine W.eq (g2 := F0 m 35 ls [.int 0]) rfl ?_
      refine lv_if_eq (tgt := 55) hx hb dX11_searchClause_35 (by decide) (fun c58 => ?_) (fun c58 => ?_)
      rotate_left
      · exact absurd c58 (by decide)
      refine lv_aload_n hx hb dX11_searchClause_55 rfl (lv_at hl 0 rfl) ?_
      refine lv_ldc2 (v := 465557353332) hx hb hown (hg _ kw_1487) dX11_searchClause_56 ?_
      have zl465557353332 : (465557353332 : Int64).toInt = 465557353332 := by decide
      refine cga (rn_V (As := [.long 465557353332]) (rest := []) (b := o) (m_isWord l D Y Z H.size o a (upd I 16 u33) J F G  465557353332 (show (0 ≤ u33.toInt ∧ u33.toInt ≤ 400) by omega) (show (0 ≤ (I 3).toInt ∧ (I 3).toInt ≤ 400) by omega) (show (u33.toInt ≤ (I 3).toInt) by omega)) ⟨hx, hb, hml, hown, hg⟩ lk_X11_190 ⟨CP.blind, va_recv hKN.1 hP (ci := 11) (q0 := 0) rfl rfl, CP.at hP hKN hD⟩ ⟨⟨rfl, rfl⟩, ⟨Nat.le_of_ble_eq_true rfl, Nat.le_of_ble_eq_true rfl⟩, ⟨Nat.le_of_ble_eq_true rfl, Nat.le_of_ble_eq_true rfl⟩⟩ hl.1 rfl (Nat.le_of_ble_eq_true rfl) dX11_searchClause_59) hP hD hS hA (fun u59 H locs w60 hP hD hS => ?_)
      obtain ⟨u61, u62⟩ := u59
      obtain ⟨hw63, hw64, hw65, hw66, hw67⟩ : (0 ≤ u62.toInt ∧ u62.toInt ≤ 400) ∧ (u33.toInt ≤ u62.toInt) ∧ (u62.toInt ≤ (I 3).toInt) ∧ (0 ≤ u61.toInt ∧ u61.toInt ≤ 1) ∧ (u61.toInt = 1 → (u62.toInt < (I 3).toInt ∧ 97 ≤ ((F 2) u62.toNatClampNeg).toInt ∧ ((F 2) u62.toNatClampNeg).toInt ≤ 122)) := w60
      refine W.eq (g2 := F0 m 62 ls [.int u61]) rfl ?_
      have hP : va_P D vwCl (MW Y o a (upd I 16 u62) J F G) H := hP
      have hD : va_D A (MW Y o a (upd I 16 u62) J F G) := hD
      rcases (show u61.toInt = 1 ∨ u61.toInt = 0 by omega) with c68 | c68
      · obtain rfl : u61 = 1 := i_is c68 (by decide)
        have zi1 : (1 : Int32).toInt = 1 := by decide
        replace hw67 := hw67 (by decide)
        refine W.eq (g2 := F0 m 62 ls [.int 1]) rfl ?_
        refine lv_if_eq (tgt := 80) hx hb dX11_searchClause_62 (by decide) (fun c69 => ?_) (fun c69 => ?_)
        · exact absurd c69 (by decide)
        refine lv_aload_n hx hb dX11_searchClause_65 rfl (lv_at hl 0 rfl) ?_
        refine lv_aload_n hx hb dX11_searchClause_66 rfl (lv_at hl 0 rfl) ?_
        refine va_get (D := D) (ci := 11) (v := .ref (a 14)) (C := RX11) (T := TX11) (N := 49) hx hb hg inGX11 hown hKN.1 hP 0 rfl rfl 14 (by decide) (hg _ kw_1222) (fun _ h9 => h9) rfl dX11_searchClause_67 ?_
        refine lv_iconst (v := 1) hx hb dX11_searchClause_70 (by decide) ?_
        refine lv_bipush (v := 99) hx hb dX11_searchClause_71 (by decide) ?_
        refine lv_iload_n hx hb dX11_searchClause_73 rfl (lv_at hl 1 rfl) ?_
        have zi99 : (99 : Int32).toInt = 99 := by decide
        refine cga (rn_V (As := [.ref (a 14), .int 1, .int 99, .int p1]) (rest := []) (b := o) (m_sets_least l D Y Z H.size o a (upd I 16 u62) J F G  1 99 p1 (show (0 ≤ u62.toInt ∧ u62.toInt ≤ 400) by omega) (show (0 ≤ (I 3).toInt ∧ (I 3).toInt ≤ 400) by omega) (show (u62.toInt ≤ (I 3).toInt) by omega) (show (0 ≤ (I 17).toInt ∧ (I 17).toInt ≤ 4000) by omega) (show (0 ≤ (I 19).toInt ∧ (I 19).toInt ≤ 17) by omega) (show (-1 ≤ (1 : Int32).toInt ∧ (1 : Int32).toInt ≤ 100000) by omega) (show (-1 ≤ (99 : Int32).toInt ∧ (99 : Int32).toInt ≤ 100000) by omega) (show (0 ≤ p1.toInt ∧ p1.toInt ≤ 400) by omega)) ⟨hx, hb, hml, hown, hg⟩ lk_X11_306 ⟨CP.blind, va_recv hKN.1 hP (ci := 11) (q0 := 0) rfl rfl, CP.at hP hKN hD⟩ ⟨⟨rfl, rfl⟩, ⟨Nat.le_of_ble_eq_true rfl, Nat.le_of_ble_eq_true rfl⟩, ⟨Nat.le_of_ble_eq_true rfl, Nat.le_of_ble_eq_true rfl⟩⟩ hl.1 rfl (Nat.le_of_ble_eq_true rfl) dX11_searchClause_74) hP hD hS hA (fun u70 H locs w71 hP hD hS => ?_)
        obtain ⟨u72, u73, u74, u75, f76⟩ := u70
        obtain ⟨hw77, hw78, hw79, hw80, hw81, hw82, hw83⟩ : (0 ≤ u73.toInt ∧ u73.toInt ≤ 400) ∧ (u62.toInt ≤ u73.toInt) ∧ (u73.toInt ≤ (I 3).toInt) ∧ (0 ≤ u74.toInt ∧ u74.toInt ≤ 4000) ∧ (0 ≤ u72.toInt ∧ u72.toInt ≤ 1) ∧ (u72.toInt = 0 → 1 ≤ u74.toInt) ∧ (u72.toInt = 1 → ((1 : Int32).toInt ≤ (f76 (I 19).toNatClampNeg).toInt ∧ (f76 (I 19).toNatClampNeg).toInt ≤ (99 : Int32).toInt ∧ u75.toInt = (f76 (I 19).toNatClampNeg).toInt)) := w71
        refine W.eq (g2 := F0 m 77 ls [.int u72]) rfl ?_
        have hP : va_P D vwCl (MW Y o a (upd (upd (upd I 16 u73) 17 u74) 18 u75) J (vf_upd F 14 f76) G) H := hP
        have hD : va_D A (MW Y o a (upd (upd (upd I 16 u73) 17 u74) 18 u75) J (vf_upd F 14 f76) G) := hD
        rcases (show u72.toInt = 1 ∨ u72.toInt = 0 by omega) with c84 | c84
        · obtain rfl : u72 = 1 := i_is c84 (by decide)
          clear hw82
          replace hw83 := hw83 (by decide)
          refine W.eq (g2 := F0 m 77 ls [.int 1]) rfl ?_
          refine lv_goto (tgt := 92) hx hb dX11_searchClause_77 (by decide) ?_
          refine W.widen (k := 0) (n := 0) (Nat.le_of_ble_eq_true rfl) (Nat.le_of_ble_eq_true rfl) ?_
          exact W.zret (v := 1) hx hb hr (by decide) (fun t ht hW => ⟨⟨(1, u73, u74, u75, (F 10), (F 11), (F 12), (F 13), f76, (F 15)), rfl, ⟨(show (0 ≤ u73.toInt ∧ u73.toInt ≤ 400) by omega), (show ((I 16).toInt ≤ u73.toInt) by omega), (show (u73.toInt ≤ (I 3).toInt) by omega), (show (0 ≤ u74.toInt ∧ u74.toInt ≤ 4000) by omega), (show (0 ≤ (1 : Int32).toInt ∧ (1 : Int32).toInt ≤ 1) by omega), (show ((1 : Int32).toInt = 0 → 1 ≤ u74.toInt) by omega), (show ((1 : Int32).toInt = 1 → (((F 10) (I 19).toNatClampNeg).toInt < 0 ∨ ((2 ≤ ((F 10) (I 19).toNatClampNeg).toInt ∧ ((F 10) (I 19).toNatClampNeg).toInt ≤ 200) ∧ ((F 11) (I 19).toNatClampNeg).toInt ≤ 200))) by omega), (show ((1 : Int32).toInt = 1 → (((F 12) (I 19).toNatClampNeg).toInt < 0 ∨ (1 ≤ ((F 12) (I 19).toNatClampNeg).toInt ∧ ((F 13) (I 19).toNatClampNeg).toInt ≤ 10))) by omega), hk0⟩, CB.mk ht hP hD⟩, hS.F ht⟩) hS.2.2 dX11_searchClause_92
        · obtain rfl : u72 = 0 := i_is c84 (by decide)
          replace hw82 := hw82 (by decide)
          clear hw83
          refine W.eq (g2 := F0 m 77 ls [.int 0]) rfl ?_
          refine lv_goto (tgt := 92) hx hb dX11_searchClause_77 (by decide) ?_
          refine W.widen (k := 0) (n := 0) (Nat.le_of_ble_eq_true rfl) (Nat.le_of_ble_eq_true rfl) ?_
          exact W.zret (v := 0) hx hb hr (by decide) (fun t ht hW => ⟨⟨(0, u73, u74, u75, (F 10), (F 11), (F 12), (F 13), f76, (F 15)), rfl, ⟨(show (0 ≤ u73.toInt ∧ u73.toInt ≤ 400) by omega), (show ((I 16).toInt ≤ u73.toInt) by omega), (show (u73.toInt ≤ (I 3).toInt) by omega), (show (0 ≤ u74.toInt ∧ u74.toInt ≤ 4000) by omega), (show (0 ≤ (0 : Int32).toInt ∧ (0 : Int32).toInt ≤ 1) by omega), (show ((0 : Int32).toInt = 0 → 1 ≤ u74.toInt) by omega), (show ((0 : Int32).toInt = 1 → (((F 10) (I 19).toNatClampNeg).toInt < 0 ∨ ((2 ≤ ((F 10) (I 19).toNatClampNeg).toInt ∧ ((F 10) (I 19).toNatClampNeg).toInt ≤ 200) ∧ ((F 11) (I 19).toNatClampNeg).toInt ≤ 200))) by omega), (show ((0 : Int32).toInt = 1 → (((F 12) (I 19).toNatClampNeg).toInt < 0 ∨ (1 ≤ ((F 12) (I 19).toNatClampNeg).toInt ∧ ((F 13) (I 19).toNatClampNeg).toInt ≤ 10))) by omega), hk0⟩, CB.mk ht hP hD⟩, hS.F ht⟩) hS.2.2 dX11_searchClause_92
      · obtain rfl : u61 = 0 := i_is c68 (by decide)
        clear hw67
        refine W.eq (g2 := F0 m 62 ls [.int 0]) rfl ?_
        refine lv_if_eq (tgt := 80) hx hb dX11_searchClause_62 (by decide) (fun c85 => ?_) (fun c85 => ?_)
        rotate_left
        · exact absurd c85 (by decide)
        refine lv_aload_n hx hb dX11_searchClause_80 rfl (lv_at hl 0 rfl) ?_
        refine lv_aload_n hx hb dX11_searchClause_81 rfl (lv_at hl 0 rfl) ?_
        refine va_get (D := D) (ci := 11) (v := .ref (a 15)) (C := RX11) (T := TX11) (N := 49) hx hb hg inGX11 hown hKN.1 hP 0 rfl rfl 15 (by decide) (hg _ kw_1223) (fun _ h9 => h9) rfl dX11_searchClause_82 ?_
        refine lv_iconst (v := 0) hx hb dX11_searchClause_85 (by decide) ?_
        refine lv_ldc (v := 99999) hx hb hown (hg _ kw_1521) dX11_searchClause_86 ?_
        refine lv_iload_n hx hb dX11_searchClause_88 rfl (lv_at hl 1 rfl) ?_
        have zi99999 : (99999 : Int32).toInt = 99999 := by decide
        refine cga (rn_V (As := [.ref (a 15), .int 0, .int 99999, .int p1]) (rest := []) (b := o) (m_sets_bar l D Y Z H.size o a (upd I 16 u62) J F G  0 99999 p1 (show (0 ≤ u62.toInt ∧ u62.toInt ≤ 400) by omega) (show (0 ≤ (I 3).toInt ∧ (I 3).toInt ≤ 400) by omega) (show (u62.toInt ≤ (I 3).toInt) by omega) (show (0 ≤ (I 17).toInt ∧ (I 17).toInt ≤ 4000) by omega) (show (0 ≤ (I 19).toInt ∧ (I 19).toInt ≤ 17) by omega) (show (-1 ≤ (0 : Int32).toInt ∧ (0 : Int32).toInt ≤ 100000) by omega) (show (-1 ≤ (99999 : Int32).toInt ∧ (99999 : Int32).toInt ≤ 100000) by omega) (show (0 ≤ p1.toInt ∧ p1.toInt ≤ 400) by omega)) ⟨hx, hb, hml, hown, hg⟩ lk_X11_306 ⟨CP.blind, va_recv hKN.1 hP (ci := 11) (q0 := 0) rfl rfl, CP.at hP hKN hD⟩ ⟨⟨rfl, rfl⟩, ⟨Nat.le_of_ble_eq_true rfl, Nat.le_of_ble_eq_true rfl⟩, ⟨Nat.le_of_ble_eq_true rfl, Nat.le_of_ble_eq_true rfl⟩⟩ hl.1 rfl (Nat.le_of_ble_eq_true rfl) dX11_searchClause_89) hP hD hS hA (fun u86 H locs w87 hP hD hS => ?_)
        obtain ⟨u88, u89, u90, u91, f92⟩ := u86
        obtain ⟨hw93, hw94, hw95, hw96, hw97, hw98, hw99⟩ : (0 ≤ u89.toInt ∧ u89.toInt ≤ 400) ∧ (u62.toInt ≤ u89.toInt) ∧ (u89.toInt ≤ (I 3).toInt) ∧ (0 ≤ u90.toInt ∧ u90.toInt ≤ 4000) ∧ (0 ≤ u88.toInt ∧ u88.toInt ≤ 1) ∧ (u88.toInt = 0 → 1 ≤ u90.toInt) ∧ (u88.toInt = 1 → ((0 : Int32).toInt ≤ (f92 (I 19).toNatClampNeg).toInt ∧ (f92 (I 19).toNatClampNeg).toInt ≤ (99999 : Int32).toInt ∧ u91.toInt = (f92 (I 19).toNatClampNeg).toInt)) := w87
        refine W.eq (g2 := F0 m 92 ls [.int u88]) rfl ?_
        have hP : va_P D vwCl (MW Y o a (upd (upd (upd I 16 u89) 17 u90) 18 u91) J (vf_upd F 15 f92) G) H := hP
        have hD : va_D A (MW Y o a (upd (upd (upd I 16 u89) 17 u90) 18 u91) J (vf_upd F 15 f92) G) := hD
        rcases (show u88.toInt = 1 ∨ u88.toInt = 0 by omega) with c100 | c100
        · obtain rfl : u88 = 1 := i_is c100 (by decide)
          have zi1 : (1 : Int32).toInt = 1 := by decide
          clear hw98
          replace hw99 := hw99 (by decide)
          refine W.eq (g2 := F0 m 92 ls [.int 1]) rfl ?_
          refine W.widen (k := 0) (n := 0) (Nat.le_of_ble_eq_true rfl) (Nat.le_of_ble_eq_true rfl) ?_
          exact W.zret (v := 1) hx hb hr (by decide) (fun t ht hW => ⟨⟨(1, u89, u90, u91, (F 10), (F 11), (F 12), (F 13), (F 14), f92), rfl, ⟨(show (0 ≤ u89.toInt ∧ u89.toInt ≤ 400) by omega), (show ((I 16).toInt ≤ u89.toInt) by omega), (show (u89.toInt ≤ (I 3).toInt) by omega), (show (0 ≤ u90.toInt ∧ u90.toInt ≤ 4000) by omega), (show (0 ≤ (1 : Int32).toInt ∧ (1 : Int32).toInt ≤ 1) by omega), (show ((1 : Int32).toInt = 0 → 1 ≤ u90.toInt) by omega), (show ((1 : Int32).toInt = 1 → (((F 10) (I 19).toNatClampNeg).toInt < 0 ∨ ((2 ≤ ((F 10) (I 19).toNatClampNeg).toInt ∧ ((F 10) (I 19).toNatClampNeg).toInt ≤ 200) ∧ ((F 11) (I 19).toNatClampNeg).toInt ≤ 200))) by omega), (show ((1 : Int32).toInt = 1 → (((F 12) (I 19).toNatClampNeg).toInt < 0 ∨ (1 ≤ ((F 12) (I 19).toNatClampNeg).toInt ∧ ((F 13) (I 19).toNatClampNeg).toInt ≤ 10))) by omega), hk0⟩, CB.mk ht hP hD⟩, hS.F ht⟩) hS.2.2 dX11_searchClause_92
        · obtain rfl : u88 = 0 := i_is c100 (by decide)
          replace hw98 := hw98 (by decide)
          clear hw99
          refine W.eq (g2 := F0 m 92 ls [.int 0]) rfl ?_
          refine W.widen (k := 0) (n := 0) (Nat.le_of_ble_eq_true rfl) (Nat.le_of_ble_eq_true rfl) ?_
          exact W.zret (v := 0) hx hb hr (by decide) (fun t ht hW => ⟨⟨(0, u89, u90, u91, (F 10), (F 11), (F 12), (F 13), (F 14), f92), rfl, ⟨(show (0 ≤ u89.toInt ∧ u89.toInt ≤ 400) by omega), (show ((I 16).toInt ≤ u89.toInt) by omega), (show (u89.toInt ≤ (I 3).toInt) by omega), (show (0 ≤ u90.toInt ∧ u90.toInt ≤ 4000) by omega), (show (0 ≤ (0 : Int32).toInt ∧ (0 : Int32).toInt ≤ 1) by omega), (show ((0 : Int32).toInt = 0 → 1 ≤ u90.toInt) by omega), (show ((0 : Int32).toInt = 1 → (((F 10) (I 19).toNatClampNeg).toInt < 0 ∨ ((2 ≤ ((F 10) (I 19).toNatClampNeg).toInt ∧ ((F 10) (I 19).toNatClampNeg).toInt ≤ 200) ∧ ((F 11) (I 19).toNatClampNeg).toInt ≤ 200))) by omega), (show ((0 : Int32).toInt = 1 → (((F 12) (I 19).toNatClampNeg).toInt < 0 ∨ (1 ≤ ((F 12) (I 19).toNatClampNeg).toInt ∧ ((F 13) (I 19).toNatClampNeg).toInt ≤ 10))) by omega), hk0⟩, CB.mk ht hP hD⟩, hS.F ht⟩) hS.2.2 dX11_searchClause_92
