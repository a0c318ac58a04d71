set_option maxHeartbeats 4000000 in
set_option maxRecDepth 100000 in
theorem m_text0 (l : Launch) (D : va_G) (Y : Nat → ClassId) (Z : Nat → Nat) (sz : Nat) (o : Nat) (a : Nat → Nat) (I : Nat → Int32) (J : Nat → Int64) (F : Nat → Nat → Int32) (G : Nat → Nat → Int64) (hk_0 : (0 ≤ (I 3).toInt ∧ (I 3).toInt ≤ 400)) (hk0 : TX (F 4) (F 9) (F 10) (F 11) (F 12) (F 13)) (hk1 : TC (F 4) (F 8) (F 7) (F 5)) : Met l yX11_text (.code yX11_text cX11_text 3 (some .int) :: GW) ({ frames := 12, cells := 0, slots := 0, locals := 265 }) (va_Pc [.ref o, .int 0] (CP D Y Z (MW Y o a I J F G) sz)) (QG (S := Int32 × Int32 × Int32 × Int32 × Int32 × Int32 × Int32 × Int32 × Int32 × Int32 × (Nat → Int32) × (Nat → Int32) × (Nat → Int32) × (Nat → Int32) × (Nat → Int32) × (Nat → Int32) × (Nat → Int32) × (Nat → Int32) × (Nat → Int32) × (Nat → Int32) × (Nat → Int32) × (Nat → Int32) × (Nat → Int32)) (fun u => some (.int u.1)) (fun u => (0 ≤ u.2.1.toInt ∧ u.2.1.toInt ≤ 400) ∧ TX u.2.2.2.2.2.2.2.2.2.2.2.2.2.2.2.2.2.2.2.2.2.2 u.2.2.2.2.2.2.2.2.2.2.2.2.2.2.2.1 u.2.2.2.2.2.2.2.2.2.2.2.2.2.2.2.2.1 u.2.2.2.2.2.2.2.2.2.2.2.2.2.2.2.2.2.1 u.2.2.2.2.2.2.2.2.2.2.2.2.2.2.2.2.2.2.1 u.2.2.2.2.2.2.2.2.2.2.2.2.2.2.2.2.2.2.2.1 ∧ TC u.2.2.2.2.2.2.2.2.2.2.2.2.2.2.2.2.2.2.2.2.2.2 u.2.2.2.2.2.2.2.2.2.2.2.1 u.2.2.2.2.2.2.2.2.2.2.1 u.2.2.2.2.2.2.2.2.2.2.2.2.1) (fun u => CB D (MW Y o a (upd (upd (upd (upd (upd (upd (upd (upd (upd I 3 u.2.1) 16 u.2.2.1) 17 u.2.2.2.1) 18 u.2.2.2.2.1) 19 u.2.2.2.2.2.1) 20 u.2.2.2.2.2.2.1) 21 u.2.2.2.2.2.2.2.1) 22 u.2.2.2.2.2.2.2.2.2.1) 24 u.2.2.2.2.2.2.2.2.1) J (vf_upd (vf_upd (vf_upd (vf_upd (vf_upd (vf_upd (vf_upd (vf_upd (vf_upd (vf_upd (vf_upd (vf_upd (vf_upd F 4 u.2.2.2.2.2.2.2.2.2.2.2.2.2.2.2.2.2.2.2.2.2.2) 5 u.2.2.2.2.2.2.2.2.2.2.2.2.1) 6 u.2.2.2.2.2.2.2.2.2.2.2.2.2.1) 7 u.2.2.2.2.2.2.2.2.2.2.1) 8 u.2.2.2.2.2.2.2.2.2.2.2.1) 9 u.2.2.2.2.2.2.2.2.2.2.2.2.2.2.2.1) 10 u.2.2.2.2.2.2.2.2.2.2.2.2.2.2.2.2.1) 11 u.2.2.2.2.2.2.2.2.2.2.2.2.2.2.2.2.2.1) 12 u.2.2.2.2.2.2.2.2.2.2.2.2.2.2.2.2.2.2.1) 13 u.2.2.2.2.2.2.2.2.2.2.2.2.2.2.2.2.2.2.2.1) 14 u.2.2.2.2.2.2.2.2.2.2.2.2.2.2.2.2.2.2.2.2.1) 15 u.2.2.2.2.2.2.2.2.2.2.2.2.2.2.2.2.2.2.2.2.2.1) 23 u.2.2.2.2.2.2.2.2.2.2.2.2.2.2.1) G) (va_A (MW Y o a I J F G) sz)) (va_A (MW Y o a I J F G) sz)) 0 0 (va_A (MW Y o a I J F G) sz) := by
  refine Met.ofW (cc := cX11_text) (maxL := 3) (ret := (some .int)) (by decide) rfl ?_
  intro p e s m args below meth c s₁ B hml hv
  obtain ⟨rfl, hsz, hP, hKN, hD0⟩ := hv
  have hx := B.exec
  have hb := B.bytes
  have hr := B.returns
  have hts := atoms_spec (ws := .code yX11_text cX11_text 3 (some .int) :: GW) B.pre
  have hg : ∀ w ∈ GW, w.before _ s = true := fun w h => hts w (List.mem_cons_of_mem _ h)
  have hown : s.vm.findClass RX11 = some m.cls := findClass_of_methodNamed B.named
  have hlocks := B.notSynchronized
  subst hsz
  have hD := hD0.self (sz := s.heap.size)
  generalize hAe : va_A (MW Y o a I J F G) s.heap.size = A at hD ⊢
  have hA : ∀ q : Nat, s.heap.size ≤ q → A q := fun q h => by rw [← hAe]; exact Or.inr h
  clear hAe hD0 hts B
  have hl := lv_entry ([.ref o, .int 0]) (n := 3) (Nat.le_of_ble_eq_true rfl)
  rw [lg_entry_eq]
  generalize (lg_sl ([.ref o, .int 0]) ++ List.replicate (3 - (lg_sl ([.ref o, .int 0])).length) Slot.unset).toArray = ls at hl ⊢
  have hl : lv_has ls 3 [(0, .ref o), (1, .int 0)] := hl
  refine w_start (A0 := A) hP (fun H locs hP hS => ?_)
  refine lv_iload_n hx hb dX11_text_0 rfl (lv_at hl 1 rfl) ?_
  refine lv_i2l (v := 0) hx hb dX11_text_1 (by decide) ?_
  refine lv_lconst (v := 0) hx hb dX11_text_2 (by decide) ?_
  refine lv_ldc2 (v := 2) hx hb hown (hg _ kw_1443) dX11_text_3 ?_
  have zl0 : (0 : Int64).toInt = 0 := by decide
  have zl2 : (2 : Int64).toInt = 2 := by decide
  refine cg0 (rn_S (As := [.long 0, .long 0, .long 2]) (rest := []) (m_in l D Y Z H.size   0 0 2 ) ⟨hx, hb, hml, hown, hg⟩ lk_X11_99 ⟨CP.blind, CP.at nilP hKN (nilD (A := fun _ => True))⟩ ⟨⟨rfl, rfl⟩, ⟨Nat.le_of_ble_eq_true rfl, Nat.le_of_ble_eq_true rfl⟩, ⟨Nat.le_of_ble_eq_true rfl, Nat.le_of_ble_eq_true rfl⟩⟩ hl.1 rfl (Nat.le_of_ble_eq_true rfl) dX11_text_6) hP hS hA (fun u1 H locs w2 hP hS => ?_)
  obtain ⟨hw4, hw5⟩ : (((0 : Int64).toInt ≤ (0 : Int64).toInt ∧ (0 : Int64).toInt ≤ (2 : Int64).toInt ∧ u1.toInt = 1) ∨ (¬ ((0 : Int64).toInt ≤ (0 : Int64).toInt ∧ (0 : Int64).toInt ≤ (2 : Int64).toInt) ∧ u1.toInt = 0)) ∧ (0 ≤ u1.toInt ∧ u1.toInt ≤ 1) := w2
  refine W.eq (g2 := F0 m 9 ls [.int u1]) rfl ?_
  rcases (show u1.toInt = 1 ∨ u1.toInt = 0 by omega) with c6 | c6
  · obtain rfl : u1 = 1 := i_is c6 (by decide)
    have zi1 : (1 : Int32).toInt = 1 := by decide
    refine W.eq (g2 := F0 m 9 ls [.int 1]) rfl ?_
    refine lv_if_eq (tgt := 23) hx hb dX11_text_9 (by decide) (fun c7 => ?_) (fun c7 => ?_)
    · exact absurd c7 (by decide)
    have t8 := hk0.1 0 (by decide)
    have t9 := hk0.1 1 (by decide)
    have t10 := hk0.1 2 (by decide)
    refine lv_aload_n hx hb dX11_text_12 rfl (lv_at hl 0 rfl) ?_
    refine va_get (D := D) (ci := 11) (v := .ref (a 4)) (C := RX11) (T := TX11) (N := 49) hx hb hg inGX11 hown hKN.1 hP 0 rfl rfl 4 (by decide) (hg _ kw_1212) (fun _ h9 => h9) rfl dX11_text_13 ?_
    refine lv_iload_n hx hb dX11_text_16 rfl (lv_at hl 1 rfl) ?_
    refine va_iald hx hb hKN.1 hP 4 0 rfl rfl (show ¬ ((0 : Int32) < 0 ∨ 3 ≤ (0 : Int32).toNatClampNeg) by decide) dX11_text_17 ?_
    refine lv_topi (fun v11 ev11 => ?_)
    have ev11 : v11 = (F 4) 0 := ev11
    have kv11 := TX_t hk0 (i := 0) (by decide) (by decide)
    have kv11 : 0 ≤ ((F 4) 0).toInt ∧ ((F 4) 0).toInt ≤ 6 := kv11
    have qv11 := congrArg Int32.toInt ev11
    refine lv_bipush (v := 6) hx hb dX11_text_18 (by decide) ?_
    refine lv_icmp_ne (tgt := 25) hx hb dX11_text_20 (by decide) (fun c12 => ?_) (fun c12 => ?_)
    · skip
      have c12 := i_ne (Eq.refl v11.toInt) (show (6 : Int32).toInt = 6 by decide) c12
      refine lv_aload_n hx hb dX11_text_25 rfl (lv_at hl 0 rfl) ?_
      refine lv_bipush (v := 6) hx hb dX11_text_26 (by decide) ?_
      refine lv_iload_n hx hb dX11_text_28 rfl (lv_at hl 1 rfl) ?_
      refine lv_imul hx hb dX11_text_29 ?_
      refine lv_topi (fun z13 ez13 => ?_)
      obtain rfl : z13 = 0 := ez13.trans (by decide)
      refine lv_aload_n hx hb dX11_text_30 rfl (lv_at hl 0 rfl) ?_
      refine va_get (D := D) (ci := 11) (v := .ref (a 4)) (C := RX11) (T := TX11) (N := 49) hx hb hg inGX11 hown hKN.1 hP 0 rfl rfl 4 (by decide) (hg _ kw_1212) (fun _ h9 => h9) rfl dX11_text_31 ?_
      refine lv_iload_n hx hb dX11_text_34 rfl (lv_at hl 1 rfl) ?_
      refine va_iald hx hb hKN.1 hP 4 0 rfl rfl (show ¬ ((0 : Int32) < 0 ∨ 3 ≤ (0 : Int32).toNatClampNeg) by decide) dX11_text_35 ?_
      refine lv_topi (fun v14 ev14 => ?_)
      have ev14 : v14 = (F 4) 0 := ev14
      have kv14 := TX_t hk0 (i := 0) (by decide) (by decide)
      have kv14 : 0 ≤ ((F 4) 0).toInt ∧ ((F 4) 0).toInt ≤ 6 := kv14
      have qv14 := congrArg Int32.toInt ev14
      refine lv_iadd hx hb dX11_text_36 ?_
      refine lv_topi (fun v15 ev15 => ?_)
      have hv15 := i_add (show (0 : Int32).toInt = 0 by decide) (Eq.refl v14.toInt) ev15 (by omega) (by omega)
      refine va_put (D := D) (ci := 11) (v := .int v15) (ty := .int) (C := RX11) (T := TX11) (N := 49) hx hb hg inGX11 tyX11 tyX11_ok nmX11 hown hKN.1 hP hD hS 0 rfl rfl 19 (by decide) (hg _ kw_1227) (fun _ h9 => h9) rfl (by decide +kernel) rfl rfl (Nat.le_of_ble_eq_true rfl) dX11_text_37 (fun H locs hP hD hS => ?_)
      have hP : va_P D vwCl (MW Y o a (upd I 19 v15) J F G) H := hP
      have hD : va_D A (MW Y o a (upd I 19 v15) J F G) := hD
      have t16c := clampI (x := v15) (by omega)
      have t16n : ¬ okT (F 4) v15.toNatClampNeg := by unfold okT; omega
      have t16u : UNT (F 4) v15.toNatClampNeg := by unfold UNT; omega
      refine lv_aload_n hx hb dX11_text_40 rfl (lv_at hl 0 rfl) ?_
      refine va_get (D := D) (ci := 11) (v := .ref (a 6)) (C := RX11) (T := TX11) (N := 49) hx hb hg inGX11 hown hKN.1 hP 0 rfl rfl 6 (by decide) (hg _ kw_1214) (fun _ h9 => h9) rfl dX11_text_41 ?_
      refine lv_aload_n hx hb dX11_text_44 rfl (lv_at hl 0 rfl) ?_
      refine va_get (D := D) (ci := 11) (v := .int v15) (C := RX11) (T := TX11) (N := 49) hx hb hg inGX11 hown hKN.1 hP 0 rfl rfl 19 (by decide) (hg _ kw_1227) (fun _ h9 => h9) rfl dX11_text_45 ?_
      refine lv_iconst (v := 0) hx hb dX11_text_48 (by decide) ?_
      refine va_iast hx hb hKN.1 hP hD hS 6 0 rfl rfl (vp_in_iff.mpr ⟨by omega, by omega⟩) dX11_text_49 (fun H locs hP hD hS => ?_)
      obtain ⟨f17, ef17, hP, hD⟩ : ∃ f17 : Nat → Int32, f17 = upd (F 6) v15.toNatClampNeg 0 ∧ va_P D vwCl (MW Y o a (upd I 19 v15) J (vf_upd F 6 f17) G) H ∧ va_D A (MW Y o a (upd I 19 v15) J (vf_upd F 6 f17) G) := ⟨_, rfl, hP, hD⟩
      have t18 : (f17 v15.toNatClampNeg).toInt = (0 : Int32).toInt := by rw [ef17, up_eq rfl]
      have zi0 : (0 : Int32).toInt = 0 := by decide
      refine lv_aload_n hx hb dX11_text_50 rfl (lv_at hl 0 rfl) ?_
      refine va_get (D := D) (ci := 11) (v := .ref (a 8)) (C := RX11) (T := TX11) (N := 49) hx hb hg inGX11 hown hKN.1 hP 0 rfl rfl 8 (by decide) (hg _ kw_1216) (fun _ h9 => h9) rfl dX11_text_51 ?_
      refine lv_aload_n hx hb dX11_text_54 rfl (lv_at hl 0 rfl) ?_
      refine va_get (D := D) (ci := 11) (v := .int v15) (C := RX11) (T := TX11) (N := 49) hx hb hg inGX11 hown hKN.1 hP 0 rfl rfl 19 (by decide) (hg _ kw_1227) (fun _ h9 => h9) rfl dX11_text_55 ?_
      refine lv_iconst (v := 0) hx hb dX11_text_58 (by decide) ?_
      refine va_iast hx hb hKN.1 hP hD hS 8 0 rfl rfl (vp_in_iff.mpr ⟨by omega, by omega⟩) dX11_text_59 (fun H locs hP hD hS => ?_)
      obtain ⟨f19, ef19, hP, hD⟩ : ∃ f19 : Nat → Int32, f19 = upd (F 8) v15.toNatClampNeg 0 ∧ va_P D vwCl (MW Y o a (upd I 19 v15) J (vf_upd (vf_upd F 6 f17) 8 f19) G) H ∧ va_D A (MW Y o a (upd I 19 v15) J (vf_upd (vf_upd F 6 f17) 8 f19) G) := ⟨_, rfl, hP, hD⟩
      have t20 : (f19 v15.toNatClampNeg).toInt = (0 : Int32).toInt := by rw [ef19, up_eq rfl]
      have t21 := PT_0 (b := ((f17 v15.toNatClampNeg).toInt).toNat) (md := ((0 : Int32).toInt).toNat) hk1 t16n (by omega) ef17 ef19 (by omega) (by omega)
      refine lv_aload_n hx hb dX11_text_60 rfl (lv_at hl 0 rfl) ?_
      refine va_get (D := D) (ci := 11) (v := .ref (a 9)) (C := RX11) (T := TX11) (N := 49) hx hb hg inGX11 hown hKN.1 hP 0 rfl rfl 9 (by decide) (hg _ kw_1217) (fun _ h9 => h9) rfl dX11_text_61 ?_
      refine lv_aload_n hx hb dX11_text_64 rfl (lv_at hl 0 rfl) ?_
      refine va_get (D := D) (ci := 11) (v := .int v15) (C := RX11) (T := TX11) (N := 49) hx hb hg inGX11 hown hKN.1 hP 0 rfl rfl 19 (by decide) (hg _ kw_1227) (fun _ h9 => h9) rfl dX11_text_65 ?_
      refine lv_iconst (v := (-1)) hx hb dX11_text_68 (by decide) ?_
      refine va_iast hx hb hKN.1 hP hD hS 9 0 rfl rfl (vp_in_iff.mpr ⟨by omega, by omega⟩) dX11_text_69 (fun H locs hP hD hS => ?_)
      obtain ⟨f22, ef22, hP, hD⟩ : ∃ f22 : Nat → Int32, f22 = upd (F 9) v15.toNatClampNeg (-1) ∧ va_P D vwCl (MW Y o a (upd I 19 v15) J (vf_upd (vf_upd (vf_upd F 6 f17) 8 f19) 9 f22) G) H ∧ va_D A (MW Y o a (upd I 19 v15) J (vf_upd (vf_upd (vf_upd F 6 f17) 8 f19) 9 f22) G) := ⟨_, rfl, hP, hD⟩
      have t23 : TX (F 4) f22 (F 10) (F 11) (F 12) (F 13) := TX_fr (t := v15.toNatClampNeg) hk0 t16u (fun k hk => by rw [ef22]; exact up_ne hk) (fun _ _ => rfl) (fun _ _ => rfl) (fun _ _ => rfl) (fun _ _ => rfl)
      have t24 : (f22 v15.toNatClampNeg).toInt = ((-1) : Int32).toInt := by rw [ef22, up_eq rfl]
      have zim1 : ((-1) : Int32).toInt = -1 := by decide
      refine lv_aload_n hx hb dX11_text_70 rfl (lv_at hl 0 rfl) ?_
      refine va_get (D := D) (ci := 11) (v := .ref (a 10)) (C := RX11) (T := TX11) (N := 49) hx hb hg inGX11 hown hKN.1 hP 0 rfl rfl 10 (by decide) (hg _ kw_1218) (fun _ h9 => h9) rfl dX11_text_71 ?_
      refine lv_aload_n hx hb dX11_text_74 rfl (lv_at hl 0 rfl) ?_
      refine va_get (D := D) (ci := 11) (v := .int v15) (C := RX11) (T := TX11) (N := 49) hx hb hg inGX11 hown hKN.1 hP 0 rfl rfl 19 (by decide) (hg _ kw_1227) (fun _ h9 => h9) rfl dX11_text_75 ?_
      refine lv_iconst (v := (-1)) hx hb dX11_text_78 (by decide) ?_
      refine va_iast hx hb hKN.1 hP hD hS 10 0 rfl rfl (vp_in_iff.mpr ⟨by omega, by omega⟩) dX11_text_79 (fun H locs hP hD hS => ?_)
      obtain ⟨f25, ef25, hP, hD⟩ : ∃ f25 : Nat → Int32, f25 = upd (F 10) v15.toNatClampNeg (-1) ∧ va_P D vwCl (MW Y o a (upd I 19 v15) J (vf_upd (vf_upd (vf_upd (vf_upd F 6 f17) 8 f19) 9 f22) 10 f25) G) H ∧ va_D A (MW Y o a (upd I 19 v15) J (vf_upd (vf_upd (vf_upd (vf_upd F 6 f17) 8 f19) 9 f22) 10 f25) G) := ⟨_, rfl, hP, hD⟩
      have t26 : TX (F 4) f22 f25 (F 11) (F 12) (F 13) := TX_fr (t := v15.toNatClampNeg) t23 t16u (fun _ _ => rfl) (fun k hk => by rw [ef25]; exact up_ne hk) (fun _ _ => rfl) (fun _ _ => rfl) (fun _ _ => rfl)
      have t27 : (f25 v15.toNatClampNeg).toInt = ((-1) : Int32).toInt := by rw [ef25, up_eq rfl]
      refine lv_aload_n hx hb dX11_text_80 rfl (lv_at hl 0 rfl) ?_
      refine va_get (D := D) (ci := 11) (v := .ref (a 12)) (C := RX11) (T := TX11) (N := 49) hx hb hg inGX11 hown hKN.1 hP 0 rfl rfl 12 (by decide) (hg _ kw_1220) (fun _ h9 => h9) rfl dX11_text_81 ?_
      refine lv_aload_n hx hb dX11_text_84 rfl (lv_at hl 0 rfl) ?_
      refine va_get (D := D) (ci := 11) (v := .int v15) (C := RX11) (T := TX11) (N := 49) hx hb hg inGX11 hown hKN.1 hP 0 rfl rfl 19 (by decide) (hg _ kw_1227) (fun _ h9 => h9) rfl dX11_text_85 ?_
      refine lv_iconst (v := (-1)) hx hb dX11_text_88 (by decide) ?_
      refine va_iast hx hb hKN.1 hP hD hS 12 0 rfl rfl (vp_in_iff.mpr ⟨by omega, by omega⟩) dX11_text_89 (fun H locs hP hD hS => ?_)
      obtain ⟨f28, ef28, hP, hD⟩ : ∃ f28 : Nat → Int32, f28 = upd (F 12) v15.toNatClampNeg (-1) ∧ va_P D vwCl (MW Y o a (upd I 19 v15) J (vf_upd (vf_upd (vf_upd (vf_upd (vf_upd F 6 f17) 8 f19) 9 f22) 10 f25) 12 f28) G) H ∧ va_D A (MW Y o a (upd I 19 v15) J (vf_upd (vf_upd (vf_upd (vf_upd (vf_upd F 6 f17) 8 f19) 9 f22) 10 f25) 12 f28) G) := ⟨_, rfl, hP, hD⟩
      have t29 : TX (F 4) f22 f25 (F 11) f28 (F 13) := TX_fr (t := v15.toNatClampNeg) t26 t16u (fun _ _ => rfl) (fun _ _ => rfl) (fun _ _ => rfl) (fun k hk => by rw [ef28]; exact up_ne hk) (fun _ _ => rfl)
      have t30 : (f28 v15.toNatClampNeg).toInt = ((-1) : Int32).toInt := by rw [ef28, up_eq rfl]
      refine lv_aload_n hx hb dX11_text_90 rfl (lv_at hl 0 rfl) ?_
      refine va_get (D := D) (ci := 11) (v := .ref (a 14)) (C := RX11) (T := TX11) (N := 49) hx hb hg inGX11 hown hKN.1 hP 0 rfl rfl 14 (by decide) (hg _ kw_1222) (fun _ h9 => h9) rfl dX11_text_91 ?_
      refine lv_aload_n hx hb dX11_text_94 rfl (lv_at hl 0 rfl) ?_
      refine va_get (D := D) (ci := 11) (v := .int v15) (C := RX11) (T := TX11) (N := 49) hx hb hg inGX11 hown hKN.1 hP 0 rfl rfl 19 (by decide) (hg _ kw_1227) (fun _ h9 => h9) rfl dX11_text_95 ?_
      refine lv_iconst (v := (-1)) hx hb dX11_text_98 (by decide) ?_
      refine va_iast hx hb hKN.1 hP hD hS 14 0 rfl rfl (vp_in_iff.mpr ⟨by omega, by omega⟩) dX11_text_99 (fun H locs hP hD hS => ?_)
      obtain ⟨f31, ef31, hP, hD⟩ : ∃ f31 : Nat → Int32, f31 = upd (F 14) v15.toNatClampNeg (-1) ∧ va_P D vwCl (MW Y o a (upd I 19 v15) J (vf_upd (vf_upd (vf_upd (vf_upd (vf_upd (vf_upd F 6 f17) 8 f19) 9 f22) 10 f25) 12 f28) 14 f31) G) H ∧ va_D A (MW Y o a (upd I 19 v15) J (vf_upd (vf_upd (vf_upd (vf_upd (vf_upd (vf_upd F 6 f17) 8 f19) 9 f22) 10 f25) 12 f28) 14 f31) G) := ⟨_, rfl, hP, hD⟩
      have t32 : (f31 v15.toNatClampNeg).toInt = ((-1) : Int32).toInt := by rw [ef31, up_eq rfl]
      refine lv_aload_n hx hb dX11_text_100 rfl (lv_at hl 0 rfl) ?_
      refine va_get (D := D) (ci := 11) (v := .ref (a 15)) (C := RX11) (T := TX11) (N := 49) hx hb hg inGX11 hown hKN.1 hP 0 rfl rfl 15 (by decide) (hg _ kw_1223) (fun _ h9 => h9) rfl dX11_text_101 ?_
      refine lv_aload_n hx hb dX11_text_104 rfl (lv_at hl 0 rfl) ?_
      refine va_get (D := D) (ci := 11) (v := .int v15) (C := RX11) (T := TX11) (N := 49) hx hb hg inGX11 hown hKN.1 hP 0 rfl rfl 19 (by decide) (hg _ kw_1227) (fun _ h9 => h9) rfl dX11_text_105 ?_
      refine lv_iconst (v := (-1)) hx hb dX11_text_108 (by decide) ?_
      refine va_iast hx hb hKN.1 hP hD hS 15 0 rfl rfl (vp_in_iff.mpr ⟨by omega, by omega⟩) dX11_text_109 (fun H locs hP hD hS => ?_)
      obtain ⟨f33, ef33, hP, hD⟩ : ∃ f33 : Nat → Int32, f33 = upd (F 15) v15.toNatClampNeg (-1) ∧ va_P D vwCl (MW Y o a (upd I 19 v15) J (vf_upd (vf_upd (vf_upd (vf_upd (vf_upd (vf_upd (vf_upd F 6 f17) 8 f19) 9 f22) 10 f25) 12 f28) 14 f31) 15 f33) G) H ∧ va_D A (MW Y o a (upd I 19 v15) J (vf_upd (vf_upd (vf_upd (vf_upd (vf_upd (vf_upd (vf_upd F 6 f17) 8 f19) 9 f22) 10 f25) 12 f28) 14 f31) 15 f33) G) := ⟨_, rfl, hP, hD⟩
      have t34 : (f33 v15.toNatClampNeg).toInt = ((-1) : Int32).toInt := by rw [ef33, up_eq rfl]
      refine lv_aload_n hx hb dX11_text_110 rfl (lv_at hl 0 rfl) ?_
      refine lv_iconst (v := 0) hx hb dX11_text_111 (by decide) ?_
      refine va_put (D := D) (ci := 11) (v := .int 0) (ty := .int) (C := RX11) (T := TX11) (N := 49) hx hb hg inGX11 tyX11 tyX11_ok nmX11 hown hKN.1 hP hD hS 0 rfl rfl 22 (by decide) (hg _ kw_1230) (fun _ h9 => h9) rfl (by decide +kernel) rfl rfl (Nat.le_of_ble_eq_true rfl) dX11_text_112 (fun H locs hP hD hS => ?_)
      have hP : va_P D vwCl (MW Y o a (upd (upd I 19 v15) 22 0) J (vf_upd (vf_upd (vf_upd (vf_upd (vf_upd (vf_upd (vf_upd F 6 f17) 8 f19) 9 f22) 10 f25) 12 f28) 14 f31) 15 f33) G) H := hP
      have hD : va_D A (MW Y o a (upd (upd I 19 v15) 22 0) J (vf_upd (vf_upd (vf_upd (vf_upd (vf_upd (vf_upd (vf_upd F 6 f17) 8 f19) 9 f22) 10 f25) 12 f28) 14 f31) 15 f33) G) := hD
      refine lv_aload_n hx hb dX11_text_115 rfl (lv_at hl 0 rfl) ?_
      refine lv_iconst (v := 0) hx hb dX11_text_116 (by decide) ?_
      refine va_put (D := D) (ci := 11) (v := .int 0) (ty := .int) (C := RX11) (T := TX11) (N := 49) hx hb hg inGX11 tyX11 tyX11_ok nmX11 hown hKN.1 hP hD hS 0 rfl rfl 16 (by decide) (hg _ kw_1224) (fun _ h9 => h9) rfl (by decide +kernel) rfl rfl (Nat.le_of_ble_eq_true rfl) dX11_text_117 (fun H locs hP hD hS => ?_)
      have hP : va_P D vwCl (MW Y o a (upd (upd (upd I 16 0) 19 v15) 22 0) J (vf_upd (vf_upd (vf_upd (vf_upd (vf_upd (vf_upd (vf_upd F 6 f17) 8 f19) 9 f22) 10 f25) 12 f28) 14 f31) 15 f33) G) H := hP
      have hD : va_D A (MW Y o a (upd (upd (upd I 16 0) 19 v15) 22 0) J (vf_upd (vf_upd (vf_upd (vf_upd (vf_upd (vf_upd (vf_upd F 6 f17) 8 f19) 9 f22) 10 f25) 12 f28) 14 f31) 15 f33) G) := hD
      refine lv_aload_n hx hb dX11_text_120 rfl (lv_at hl 0 rfl) ?_
      refine lv_iconst (v := 0) hx hb dX11_text_121 (by decide) ?_
      refine va_put (D := D) (ci := 11) (v := .int 0) (ty := .int) (C := RX11) (T := TX11) (N := 49) hx hb hg inGX11 tyX11 tyX11_ok nmX11 hown hKN.1 hP hD hS 0 rfl rfl 17 (by decide) (hg _ kw_1225) (fun _ h9 => h9) rfl (by decide +kernel) rfl rfl (Nat.le_of_ble_eq_true rfl) dX11_text_122 (fun H locs hP hD hS => ?_)
      have hP : va_P D vwCl (MW Y o a (upd (upd (upd (upd I 16 0) 17 0) 19 v15) 22 0) J (vf_upd (vf_upd (vf_upd (vf_upd (vf_upd (vf_upd (vf_upd F 6 f17) 8 f19) 9 f22) 10 f25) 12 f28) 14 f31) 15 f33) G) H := hP
      have hD : va_D A (MW Y o a (upd (upd (upd (upd I 16 0) 17 0) 19 v15) 22 0) J (vf_upd (vf_upd (vf_upd (vf_upd (vf_upd (vf_upd (vf_upd F 6 f17) 8 f19) 9 f22) 10 f25) 12 f28) 14 f31) 15 f33) G) := hD
      refine lv_aload_n hx hb dX11_text_125 rfl (lv_at hl 0 rfl) ?_
      refine lv_iconst (v := 0) hx hb dX11_text_126 (by decide) ?_
      refine va_put (D := D) (ci := 11) (v := .int 0) (ty := .int) (C := RX11) (T := TX11) (N := 49) hx hb hg inGX11 tyX11 tyX11_ok nmX11 hown hKN.1 hP hD hS 0 rfl rfl 20 (by decide) (hg _ kw_1228) (fun _ h9 => h9) rfl (by decide +kernel) rfl rfl (Nat.le_of_ble_eq_true rfl) dX11_text_127 (fun H locs hP hD hS => ?_)
      have hP : va_P D vwCl (MW Y o a (upd (upd (upd (upd (upd I 16 0) 17 0) 19 v15) 20 0) 22 0) J (vf_upd (vf_upd (vf_upd (vf_upd (vf_upd (vf_upd (vf_upd F 6 f17) 8 f19) 9 f22) 10 f25) 12 f28) 14 f31) 15 f33) G) H := hP
      have hD : va_D A (MW Y o a (upd (upd (upd (upd (upd I 16 0) 17 0) 19 v15) 20 0) 22 0) J (vf_upd (vf_upd (vf_upd (vf_upd (vf_upd (vf_upd (vf_upd F 6 f17) 8 f19) 9 f22) 10 f25) 12 f28) 14 f31) 15 f33) G) := hD
      refine lv_aload_n hx hb dX11_text_130 rfl (lv_at hl 0 rfl) ?_
      refine cga (rn_V (As := []) (rest := []) (b := o) (m_clauseHere l D Y Z H.size o a (upd (upd (upd (upd (upd I 16 0) 17 0) 19 v15) 20 0) 22 0) J (vf_upd (vf_upd (vf_upd (vf_upd (vf_upd (vf_upd (vf_upd F 6 f17) 8 f19) 9 f22) 10 f25) 12 f28) 14 f31) 15 f33) G   (show (0 ≤ (0 : Int32).toInt ∧ (0 : Int32).toInt ≤ 400) by omega) (show (0 ≤ (I 3).toInt ∧ (I 3).toInt ≤ 400) by omega) (show ((0 : Int32).toInt ≤ (I 3).toInt) by omega) (show (0 ≤ (0 : Int32).toInt ∧ (0 : Int32).toInt ≤ 4000) by omega) (show (0 ≤ (0 : Int32).toInt ∧ (0 : Int32).toInt ≤ 60) by omega) (show (0 ≤ v15.toInt ∧ v15.toInt ≤ 17) by omega) (show ((f17 v15.toNatClampNeg).toInt ≤ (0 : Int32).toInt) by omega) (show (0 ≤ (0 : Int32).toInt ∧ (0 : Int32).toInt ≤ 12) by omega) (show ((f19 v15.toNatClampNeg).toInt ≤ (0 : Int32).toInt) by omega) (show ((f22 v15.toNatClampNeg).toInt ≤ 9999) by omega) (show (((f25 v15.toNatClampNeg).toInt < 0 ∨ ((2 ≤ (f25 v15.toNatClampNeg).toInt ∧ (f25 v15.toNatClampNeg).toInt ≤ 200) ∧ ((F 11) v15.toNatClampNeg).toInt ≤ 200))) by omega) (show (((f28 v15.toNatClampNeg).toInt < 0 ∨ (1 ≤ (f28 v15.toNatClampNeg).toInt ∧ ((F 13) v15.toNatClampNeg).toInt ≤ 10))) by omega) t29 (show PSt (F 4) f19 (F 7) (F 5) f17 v15.toNatClampNeg ((f17 v15.toNatClampNeg).toInt).toNat 0 ((0 : Int32).toInt).toNat from (PT_md t21 (by omega) rfl (by omega) (by omega))) t16u) ⟨hx, hb, hml, hown, hg⟩ lk_X11_344 ⟨CP.blind, va_recv hKN.1 hP (ci := 11) (q0 := 0) rfl rfl, CP.at hP hKN hD⟩ ⟨⟨rfl, rfl⟩, ⟨Nat.le_of_ble_eq_true rfl, Nat.le_of_ble_eq_true rfl⟩, ⟨Nat.le_of_ble_eq_true rfl, Nat.le_of_ble_eq_true rfl⟩⟩ hl.1 rfl (Nat.le_of_ble_eq_true rfl) dX11_text_131) hP hD hS hA (fun u35 H locs w36 hP hD hS => ?_)
      obtain ⟨u37, u38, u39, u40, u41, u42, u43, u44, f45, f46, f47, f48, f49, f50, f51, f52, f53, f54, f55, f56⟩ := u35
      obtain ⟨hw57, hw58, hw59, hw60, hw61, hw62, hw63, hw64, hw65, hw66, hw67, hw68, hw69, hw70, hw71, hw72, hw73⟩ : (0 ≤ u38.toInt ∧ u38.toInt ≤ 400) ∧ ((0 : Int32).toInt ≤ u38.toInt) ∧ (u38.toInt ≤ (I 3).toInt) ∧ (0 ≤ u39.toInt ∧ u39.toInt ≤ 4000) ∧ (0 ≤ u41.toInt ∧ u41.toInt ≤ 60) ∧ ((0 : Int32).toInt ≤ u41.toInt) ∧ (0 ≤ u37.toInt ∧ u37.toInt ≤ 1) ∧ (u37.toInt = 0 → 1 ≤ u39.toInt) ∧ (0 ≤ u44.toInt ∧ u44.toInt ≤ 12) ∧ (u37.toInt = 1 → (f48 v15.toNatClampNeg).toInt ≤ u38.toInt) ∧ (u37.toInt = 1 → (f46 v15.toNatClampNeg).toInt ≤ u44.toInt) ∧ (u37.toInt = 1 → (f50 v15.toNatClampNeg).toInt ≤ 9999) ∧ (u37.toInt = 1 → ((f51 v15.toNatClampNeg).toInt < 0 ∨ ((2 ≤ (f51 v15.toNatClampNeg).toInt ∧ (f51 v15.toNatClampNeg).toInt ≤ 200) ∧ (f52 v15.toNatClampNeg).toInt ≤ 200))) ∧ (u37.toInt = 1 → ((f53 v15.toNatClampNeg).toInt < 0 ∨ (1 ≤ (f53 v15.toNatClampNeg).toInt ∧ (f54 v15.toNatClampNeg).toInt ≤ 10))) ∧ TX (F 4) f50 f51 f52 f53 f54 ∧ (u37.toInt = 1 → PSt (F 4) f46 f45 f47 f48 v15.toNatClampNeg ((f48 v15.toNatClampNeg).toInt).toNat 0 (u41.toInt).toNat) ∧ TC (F 4) f46 f45 f47 := w36
      refine W.eq (g2 := F0 m 134 ls [.int u37]) rfl ?_
      have hP : va_P D vwCl (MW Y o a (upd (upd (upd (upd (upd (upd (upd (upd I 16 u38) 17 u39) 18 u40) 19 v15) 20 u41) 21 u42) 22 u44) 24 u43) J (vf_upd (vf_upd (vf_upd (vf_upd (vf_upd (vf_upd (vf_upd (vf_upd (vf_upd (vf_upd (vf_upd (vf_upd F 5 f47) 6 f48) 7 f45) 8 f46) 9 f50) 10 f51) 11 f52) 12 f53) 13 f54) 14 f55) 15 f56) 23 f49) G) H := hP
      have hD : va_D A (MW Y o a (upd (upd (upd (upd (upd (upd (upd (upd I 16 u38) 17 u39) 18 u40) 19 v15) 20 u41) 21 u42) 22 u44) 24 u43) J (vf_upd (vf_upd (vf_upd (vf_upd (vf_upd (vf_upd (vf_upd (vf_upd (vf_upd (vf_upd (vf_upd (vf_upd F 5 f47) 6 f48) 7 f45) 8 f46) 9 f50) 10 f51) 11 f52) 12 f53) 13 f54) 14 f55) 15 f56) 23 f49) G) := hD
      refine lv_istore_n (lv' := [(2, .int u37), (0, .ref o), (1, .int 0)]) hx hb dX11_text_134 rfl hl (by decide) rfl (fun ls hl => ?_)
      have hP : va_P D vwCl (MW Y o a (upd (upd (upd (upd (upd (upd (upd (upd (upd I 3 (I 3)) 16 u38) 17 u39) 18 u40) 19 v15) 20 u41) 21 u42) 22 u44) 24 u43) J (vf_upd (vf_upd (vf_upd (vf_upd (vf_upd (vf_upd (vf_upd (vf_upd (vf_upd (vf_upd (vf_upd (vf_upd (vf_upd F 4 (F 4)) 5 f47) 6 f48) 7 f45) 8 f46) 9 f50) 10 f51) 11 f52) 12 f53) 13 f54) 14 f55) 15 f56) 23 f49) G) H := hP
      have hD : va_D A (MW Y o a (upd (upd (upd (upd (upd (upd (upd (upd (upd I 3 (I 3)) 16 u38) 17 u39) 18 u40) 19 v15) 20 u41) 21 u42) 22 u44) 24 u43) J (vf_upd (vf_upd (vf_upd (vf_upd (vf_upd (vf_upd (vf_upd (vf_upd (vf_upd (vf_upd (vf_upd (vf_upd (vf_upd F 4 (F 4)) 5 f47) 6 f48) 7 f45) 8 f46) 9 f50) 10 f51) 11 f52) 12 f53) 13 f54) 14 f55) 15 f56) 23 f49) G) := hD
      exact m_text0_c135 (g5001 := u37) (g5002 := (I 3)) (g5003 := u38) (g5004 := u39) (g5005 := u40) (g5006 := v15) (g5007 := u41) (g5008 := u42) (g5009 := u44) (g5010 := u43) (f5011 := (F 4)) (f5012 := f47) (f5013 := f48) (f5014 := f45) (f5015 := f46) (f5016 := f50) (f5017 := f51) (f5018 := f52) (f5019 := f53) (f5020 := f54) (f5021 := f55) (f5022 := f56) (f5023 := f49) hx hb hr hml hg hown hlocks hKN hA hP hD hS (lv_sub hl [0, 1, 2] rfl) (by omega) (by omega) (by omega) (by omega) (by omega) (by omega) (by omega) (by omega) (by omega) (by omega) (by omega) (by omega) (by omega) (by omega) (by omega) (by omega) hw71 (fun hh => PT_md (hw72 hh) (by omega) rfl (by omega) (by omega)) hw73 t16u
    · skip
      have c12 := i_eq (Eq.refl v11.toInt) (show (6 : Int32).toInt = 6 by decide) c12
      refine lv_iconst (v := (-1)) hx hb dX11_text_23 (by decide) ?_
      refine W.widen (k := 0) (n := 0) (Nat.le_of_ble_eq_true rfl) (Nat.le_of_ble_eq_true rfl) ?_
      have zi0 : (0 : Int32).toInt = 0 := by decide
      have zim1 : ((-1) : Int32).toInt = -1 := by decide
      exact W.iret (v := (-1)) hx hb hr (fun t ht hW => ⟨⟨((-1), (I 3), (I 16), (I 17), (I 18), (I 19), (I 20), (I 21), (I 24), (I 22), (F 7), (F 8), (F 5), (F 6), (F 23), (F 9), (F 10), (F 11), (F 12), (F 13), (F 14), (F 15), (F 4)), rfl, ⟨(show (0 ≤ (I 3).toInt ∧ (I 3).toInt ≤ 400) by omega), hk0, hk1⟩, CB.mk ht hP hD⟩, hS.F ht⟩) hS.2.2 dX11_text_24
  · obtain rfl : u1 = 0 := i_is c6 (by decide)
    have zi0 : (0 : Int32).toInt = 0 := by decide
    refine W.eq (g2 := F0 m 9 ls [.int 0]) rfl ?_
    refine lv_if_eq (tgt := 23) hx hb dX11_text_9 (by decide) (fun c74 => ?_) (fun c74 => ?_)
    rotate_left
    · exact absurd c74 (by decide)
    refine lv_iconst (v := (-1)) hx hb dX11_text_23 (by decide) ?_
    refine W.widen (k := 0) (n := 0) (Nat.le_of_ble_eq_true rfl) (Nat.le_of_ble_eq_true rfl) ?_
    have zim1 : ((-1) : Int32).toInt = -1 := by decide
    exact W.iret (v := (-1)) hx hb hr (fun t ht hW => ⟨⟨((-1), (I 3), (I 16), (I 17), (I 18), (I 19), (I 20), (I 21), (I 24), (I 22), (F 7), (F 8), (F 5), (F 6), (F 23), (F 9), (F 10), (F 11), (F 12), (F 13), (F 14), (F 15), (F 4)), rfl, ⟨(show (0 ≤ (I 3).toInt ∧ (I 3).toInt ≤ 400) by omega), hk0, hk1⟩, CB.mk ht hP hD⟩, hS.F ht⟩) hS.2.2 dX11_text_24
