set_option maxHeartbeats 4000000 in
set_option maxRecDepth 100000 in
theorem m_rests (l : Launch) (D : va_G) (Y : Nat → ClassId) (Z : Nat → Nat) (sz : Nat) (o : Nat) (a : Nat → Nat) (I : Nat → Int32) (J : Nat → Int64) (F : Nat → Nat → Int32) (G : Nat → Nat → Int64) (p1 : Int32) (hk_0 : (2 ≤ p1.toInt ∧ p1.toInt ≤ 200)) (hk0 : LB (F 28)) : Met l yX11_rests (.code yX11_rests cX11_rests 3 none :: GW) ({ frames := 0, cells := 0, slots := 0, locals := 0 }) (va_Pc [.ref o, .int p1] (CP D Y Z (MW Y o a I J F G) sz)) (QG (S := (Nat → Int64) × (Nat → Int32) × (Nat → Int64) × (Nat → Int32)) (fun _ => none) (fun u => RX (F 28) u.2.1 u.1 (p1.toInt).toNat 600 ∧ WX (F 28) u.2.2.2 u.2.2.1 (p1.toInt).toNat 0 1) (fun u => CB D (MW Y o a I J (vf_upd (vf_upd F 41 u.2.1) 43 u.2.2.2) (vf_upd (vf_upd G 40 u.1) 42 u.2.2.1)) (va_A (MW Y o a I J F G) sz)) (va_A (MW Y o a I J F G) sz)) 0 0 (va_A (MW Y o a I J F G) sz) := by
  refine Met.ofW (cc := cX11_rests) (maxL := 3) (ret := none) (by decide) rfl ?_
  intro p e s m args below meth c s₁ B hml hv
  obtain ⟨rfl, hsz, hP, hKN, hD0⟩ := hv
  have hx := B.exec
  have hb := B.bytes
  have hr := B.returns
  have hts := atoms_spec (ws := .code yX11_rests cX11_rests 3 none :: GW) B.pre
  have hg : ∀ w ∈ GW, w.before _ s = true := fun w h => hts w (List.mem_cons_of_mem _ h)
  have hown : s.vm.findClass RX11 = some m.cls := findClass_of_methodNamed B.named
  have hlocks := B.notSynchronized
  subst hsz
  have hD := hD0.self (sz := s.heap.size)
  generalize hAe : va_A (MW Y o a I J F G) s.heap.size = A at hD ⊢
  have hA : ∀ q : Nat, s.heap.size ≤ q → A q := fun q h => by rw [← hAe]; exact Or.inr h
  clear hAe hD0 hts B
  have hl := lv_entry ([.ref o, .int p1]) (n := 3) (Nat.le_of_ble_eq_true rfl)
  rw [lg_entry_eq]
  generalize (lg_sl ([.ref o, .int p1]) ++ List.replicate (3 - (lg_sl ([.ref o, .int p1])).length) Slot.unset).toArray = ls at hl ⊢
  have hl : lv_has ls 3 [(0, .ref o), (1, .int p1)] := hl
  refine w_start (A0 := A) hP (fun H locs hP hS => ?_)
  refine lv_iconst (v := 0) hx hb dX11_rests_0 (by decide) ?_
  refine lv_istore_n (lv' := [(2, .int 0), (0, .ref o), (1, .int p1)]) hx hb dX11_rests_1 rfl hl (by decide) rfl (fun ls hl => ?_)
  have zi0 : (0 : Int32).toInt = 0 := by decide
  refine w_loop (σ := Int32 × (Nat → Int64) × (Nat → Int32) × (Nat → Int64) × (Nat → Int32)) (fun xx H locs ls => match xx with | (g7, f8, f9, f10, f11) => va_P D vwCl (MW Y o a I J (vf_upd (vf_upd F 41 f9) 43 f11) (vf_upd (vf_upd G 40 f8) 42 f10)) H ∧ va_D A (MW Y o a I J (vf_upd (vf_upd F 41 f9) 43 f11) (vf_upd (vf_upd G 40 f8) 42 f10)) ∧ va_S A s.heap H locs ∧ lv_has ls 3 [(2, .int g7), (0, .ref o), (1, .int p1)] ∧ (0 ≤ g7.toInt ∧ g7.toInt ≤ 200) ∧ ZZ f9 f11 f8 f10 g7.toInt) (fun xx => match xx with | (g7, f8, f9, f10, f11) => (200 - g7.toInt).toNat) (0, (G 40), (F 41), (G 42), (F 43)) ⟨hP, hD, hS, lv_sub hl [0, 1, 2] rfl, by omega, ZZ_0 (by omega)⟩ (fun xx H locs ls hI ih => ?_)
  obtain ⟨g7, f8, f9, f10, f11⟩ := xx
  obtain ⟨hP, hD, hS, hl, hq19, hr20⟩ := hI
  have ih21 := ih
  refine lv_iload_n hx hb dX11_rests_2 rfl (lv_at hl 0 rfl) ?_
  refine lv_iload_n hx hb dX11_rests_3 rfl (lv_at hl 2 rfl) ?_
  refine lv_icmp_ge (tgt := 41) hx hb dX11_rests_4 (by decide) (fun c22 => ?_) (fun c22 => ?_)
  · skip
    have c22 := i_le (Eq.refl p1.toInt) (Eq.refl g7.toInt) c22
    refine lv_iconst (v := 0) hx hb dX11_rests_41 (by decide) ?_
    refine lv_istore_n (lv' := [(2, .int 0), (0, .ref o), (1, .int p1)]) hx hb dX11_rests_42 rfl hl (by decide) rfl (fun ls hl => ?_)
    have zi0 : (0 : Int32).toInt = 0 := by decide
    refine w_loop (σ := Int32 × (Nat → Int64) × (Nat → Int32)) (fun xx H locs ls => match xx with | (g37, f38, f39) => va_P D vwCl (MW Y o a I J (vf_upd (vf_upd F 41 f39) 43 f11) (vf_upd (vf_upd G 40 f38) 42 f10)) H ∧ va_D A (MW Y o a I J (vf_upd (vf_upd F 41 f39) 43 f11) (vf_upd (vf_upd G 40 f38) 42 f10)) ∧ va_S A s.heap H locs ∧ lv_has ls 3 [(2, .int g37), (0, .ref o), (1, .int p1)] ∧ (0 ≤ g37.toInt ∧ g37.toInt ≤ 600) ∧ RX (F 28) f39 f38 (p1.toInt).toNat (g37.toInt).toNat ∧ WX (F 28) f11 f10 (p1.toInt).toNat 0 1) (fun xx => match xx with | (g37, f38, f39) => (600 - g37.toInt).toNat) (0, f8, f9) ⟨hP, hD, hS, lv_sub hl [0, 1, 2] rfl, by omega, (RX_0 hr20 (by omega) (by omega)), (WX_0 hr20 (by omega) rfl rfl)⟩ (fun xx H locs ls hI ih => ?_)
    obtain ⟨g37, f38, f39⟩ := xx
    obtain ⟨hP, hD, hS, hl, hq56, hr57, hr58⟩ := hI
    have ih59 := ih
    refine lv_iload_n hx hb dX11_rests_43 rfl (lv_at hl 0 rfl) ?_
    refine lv_sipush (v := 600) hx hb dX11_rests_44 (by decide) ?_
    refine lv_icmp_ge (tgt := 100) hx hb dX11_rests_47 (by decide) (fun c60 => ?_) (fun c60 => ?_)
    · skip
      have c60 := i_le (show (600 : Int32).toInt = 600 by decide) (Eq.refl g37.toInt) c60
      refine W.widen (k := 0) (n := 0) (Nat.le_of_ble_eq_true rfl) (Nat.le_of_ble_eq_true rfl) ?_
      exact W.vret hx hb hr (fun t ht hW => ⟨⟨(f38, f39, f10, f11), rfl, ⟨(RX_m hr57 (by omega)), hr58⟩, CB.mk ht hP hD⟩, hS.F ht⟩) hS.2.2 dX11_rests_100
    · skip
      have c60 := i_nle (show (600 : Int32).toInt = 600 by decide) (Eq.refl g37.toInt) c60
      refine lv_aload_n hx hb dX11_rests_50 rfl (lv_at hl 1 rfl) ?_
      refine va_get (D := D) (ci := 11) (v := .ref (a 28)) (C := RX11) (T := TX11) (N := 49) hx hb hg inGX11 hown hKN.1 hP 0 rfl rfl 28 (by decide) (hg _ kw_1236) (fun _ h9 => h9) rfl dX11_rests_51 ?_
      refine lv_iload_n hx hb dX11_rests_54 rfl (lv_at hl 0 rfl) ?_
      refine va_iald hx hb hKN.1 hP 19 0 rfl rfl (vp_in_iff.mpr ⟨by omega, by omega⟩) dX11_rests_55 ?_
      refine lv_topi (fun v61 ev61 => ?_)
      have ev61 : v61 = (F 28) g37.toNatClampNeg := ev61
      have qv61 := congrArg Int32.toInt ev61
      have kv61 := LB_get hk0 (i := g37) (by omega) (by omega)
      rw [← ev61] at kv61
      refine lv_ldc (v := (-100000)) hx hb hown (hg _ kw_1367) dX11_rests_56 ?_
      refine lv_icmp_ne (tgt := 64) hx hb dX11_rests_58 (by decide) (fun c62 => ?_) (fun c62 => ?_)
      · skip
        have c62 := i_ne (Eq.refl v61.toInt) (show ((-100000) : Int32).toInt = -100000 by decide) c62
        refine lv_aload_n hx hb dX11_rests_64 rfl (lv_at hl 1 rfl) ?_
        refine va_get (D := D) (ci := 11) (v := .ref (a 40)) (C := RX11) (T := TX11) (N := 49) hx hb hg inGX11 hown hKN.1 hP 0 rfl rfl 40 (by decide) (hg _ kw_1248) (fun _ h9 => h9) rfl dX11_rests_65 ?_
        refine lv_iload_n hx hb dX11_rests_68 rfl (lv_at hl 0 rfl) ?_
        refine lv_iload_n hx hb dX11_rests_69 rfl (lv_at hl 2 rfl) ?_
        refine lv_irem hx hb dX11_rests_70 (i_nz (Eq.refl p1.toInt) (by omega)) ?_
        refine lv_topi (fun v63 ev63 => ?_)
        have hv63 := i_rem (Eq.refl g37.toInt) (Eq.refl p1.toInt) ev63 (by omega) (by omega)
        refine lv_dup2_11 hx hb dX11_rests_71 rfl rfl ?_
        refine va_lald hx hb hKN.1 hP 20 1 rfl rfl (vp_in_iff.mpr ⟨by omega, by omega⟩) dX11_rests_72 ?_
        refine lv_topl (fun v64 ev64 => ?_)
        have ev64 : v64 = f38 v63.toNatClampNeg := ev64
        have qv64 := congrArg Int64.toInt ev64
        have kv64 := RX_g hr57 (i := v63) (by omega) (by omega)
        refine lv_aload_n hx hb dX11_rests_73 rfl (lv_at hl 1 rfl) ?_
        refine va_get (D := D) (ci := 11) (v := .ref (a 28)) (C := RX11) (T := TX11) (N := 49) hx hb hg inGX11 hown hKN.1 hP 0 rfl rfl 28 (by decide) (hg _ kw_1236) (fun _ h9 => h9) rfl dX11_rests_74 ?_
        refine lv_iload_n hx hb dX11_rests_77 rfl (lv_at hl 0 rfl) ?_
        refine va_iald hx hb hKN.1 hP 19 0 rfl rfl (vp_in_iff.mpr ⟨by omega, by omega⟩) dX11_rests_78 ?_
        refine lv_topi (fun v65 ev65 => ?_)
        have ev65 : v65 = (F 28) g37.toNatClampNeg := ev65
        have qv65 := congrArg Int32.toInt ev65
        have kv65 := LB_get hk0 (i := g37) (by omega) (by omega)
        rw [← ev65] at kv65
        have j66 := Int32.toInt_toInt64 v65
        refine lv_i2l (v := v65.toInt64) hx hb dX11_rests_79 (rfl) ?_
        refine lv_ladd hx hb dX11_rests_80 ?_
        refine lv_topl (fun v67 ev67 => ?_)
        have hv67 := l_add (Eq.refl v64.toInt) (Int32.toInt_toInt64 v65) ev67 (by omega) (by omega)
        refine va_last hx hb hKN.1 hP hD hS 20 1 rfl rfl (vp_in_iff.mpr ⟨by omega, by omega⟩) dX11_rests_81 (fun H locs hP hD hS => ?_)
        obtain ⟨f68, ef68, hP, hD⟩ : ∃ f68 : Nat → Int64, f68 = vp_updL f38 v63.toNatClampNeg v67 ∧ va_P D vwCl (MW Y o a I J (vf_upd (vf_upd F 41 f39) 43 f11) (vf_upd (vf_upd G 40 f68) 42 f10)) H ∧ va_D A (MW Y o a I J (vf_upd (vf_upd F 41 f39) 43 f11) (vf_upd (vf_upd G 40 f68) 42 f10)) := ⟨_, rfl, hP, hD⟩
        refine lv_aload_n hx hb dX11_rests_82 rfl (lv_at hl 1 rfl) ?_
        refine va_get (D := D) (ci := 11) (v := .ref (a 41)) (C := RX11) (T := TX11) (N := 49) hx hb hg inGX11 hown hKN.1 hP 0 rfl rfl 41 (by decide) (hg _ kw_1249) (fun _ h9 => h9) rfl dX11_rests_83 ?_
        refine lv_iload_n hx hb dX11_rests_86 rfl (lv_at hl 0 rfl) ?_
        refine lv_iload_n hx hb dX11_rests_87 rfl (lv_at hl 2 rfl) ?_
        refine lv_irem hx hb dX11_rests_88 (i_nz (Eq.refl p1.toInt) (by omega)) ?_
        refine lv_topi (fun v69 ev69 => ?_)
        have hv69 := i_rem (Eq.refl g37.toInt) (Eq.refl p1.toInt) ev69 (by omega) (by omega)
        refine lv_dup2_11 hx hb dX11_rests_89 rfl rfl ?_
        refine va_iald hx hb hKN.1 hP 21 0 rfl rfl (vp_in_iff.mpr ⟨by omega, by omega⟩) dX11_rests_90 ?_
        refine lv_topi (fun v70 ev70 => ?_)
        have ev70 : v70 = f39 v69.toNatClampNeg := ev70
        have qv70 := congrArg Int32.toInt ev70
        have kv70 := RX_g hr57 (i := v69) (by omega) (by omega)
        refine lv_iconst (v := 1) hx hb dX11_rests_91 (by decide) ?_
        refine lv_iadd hx hb dX11_rests_92 ?_
        refine lv_topi (fun v71 ev71 => ?_)
        have hv71 := i_add (Eq.refl v70.toInt) (show (1 : Int32).toInt = 1 by decide) ev71 (by omega) (by omega)
        refine va_iast hx hb hKN.1 hP hD hS 21 0 rfl rfl (vp_in_iff.mpr ⟨by omega, by omega⟩) dX11_rests_93 (fun H locs hP hD hS => ?_)
        obtain ⟨f72, ef72, hP, hD⟩ : ∃ f72 : Nat → Int32, f72 = upd f39 v69.toNatClampNeg v71 ∧ va_P D vwCl (MW Y o a I J (vf_upd (vf_upd F 41 f72) 43 f11) (vf_upd (vf_upd G 40 f68) 42 f10)) H ∧ va_D A (MW Y o a I J (vf_upd (vf_upd F 41 f72) 43 f11) (vf_upd (vf_upd G 40 f68) 42 f10)) := ⟨_, rfl, hP, hD⟩
        have it73 : v63 = v69 := Int32.toInt_inj.mp (by omega)
        rw [it73] at ef68 qv64 kv64
        have ct73 := clampI (x := v69) (by omega)
        have t73 := RX_s (i := g37) (r := v69) (j := g37.toInt + 1) hr57 ev61 (by omega) (by omega) (rem_eq hv69.1 (by omega) (by omega)) (by omega) ef68 ef72 (by omega) (by omega) (by omega) rfl
        obtain ⟨v74, ev74⟩ : ∃ y : Int32, y = g37 + 1 := ⟨_, rfl⟩
        have hv74 := i_add (Eq.refl g37.toInt) (show (1 : Int32).toInt = 1 by decide) ev74 (by omega) (by omega)
        refine lv_iinc (v := v74) (lv' := [(2, .int v74), (0, .ref o), (1, .int p1)]) hx hb dX11_rests_94 hl (k := 0) rfl (by rw [ev74]; rfl) (by decide) rfl (fun ls hl => ?_)
        refine lv_goto (tgt := 43) hx hb dX11_rests_97 (by decide) ?_
        exact ih59 (v74, f68, f72) H locs ls (by show (600 - v74.toInt).toNat < (600 - g37.toInt).toNat; omega) ⟨hP, hD, hS, lv_sub hl [0, 1, 2] rfl, by omega, (RX_m t73 (by omega)), hr58⟩
      · skip
        have c62 := i_eq (Eq.refl v61.toInt) (show ((-100000) : Int32).toInt = -100000 by decide) c62
        refine lv_goto (tgt := 94) hx hb dX11_rests_61 (by decide) ?_
        obtain ⟨v75, ev75⟩ : ∃ y : Int32, y = g37 + 1 := ⟨_, rfl⟩
        have hv75 := i_add (Eq.refl g37.toInt) (show (1 : Int32).toInt = 1 by decide) ev75 (by omega) (by omega)
        refine lv_iinc (v := v75) (lv' := [(2, .int v75), (0, .ref o), (1, .int p1)]) hx hb dX11_rests_94 hl (k := 0) rfl (by rw [ev75]; rfl) (by decide) rfl (fun ls hl => ?_)
        refine lv_goto (tgt := 43) hx hb dX11_rests_97 (by decide) ?_
        exact ih59 (v75, f38, f39) H locs ls (by show (600 - v75.toInt).toNat < (600 - g37.toInt).toNat; omega) ⟨hP, hD, hS, lv_sub hl [0, 1, 2] rfl, by omega, (RX_m (RX_skip (i := g37) (j := g37.toInt + 1) hr57 ev61 (by omega) (by omega) rfl) (by omega)), hr58⟩
  · skip
    have c22 := i_nle (Eq.refl p1.toInt) (Eq.refl g7.toInt) c22
    refine lv_aload_n hx hb dX11_rests_7 rfl (lv_at hl 1 rfl) ?_
    refine va_get (D := D) (ci := 11) (v := .ref (a 40)) (C := RX11) (T := TX11) (N := 49) hx hb hg inGX11 hown hKN.1 hP 0 rfl rfl 40 (by decide) (hg _ kw_1248) (fun _ h9 => h9) rfl dX11_rests_8 ?_
    refine lv_iload_n hx hb dX11_rests_11 rfl (lv_at hl 0 rfl) ?_
    refine lv_lconst (v := 0) hx hb dX11_rests_12 (by decide) ?_
    refine va_last hx hb hKN.1 hP hD hS 20 1 rfl rfl (vp_in_iff.mpr ⟨by omega, by omega⟩) dX11_rests_13 (fun H locs hP hD hS => ?_)
    obtain ⟨f76, ef76, hP, hD⟩ : ∃ f76 : Nat → Int64, f76 = vp_updL f8 g7.toNatClampNeg 0 ∧ va_P D vwCl (MW Y o a I J (vf_upd (vf_upd F 41 f9) 43 f11) (vf_upd (vf_upd G 40 f76) 42 f10)) H ∧ va_D A (MW Y o a I J (vf_upd (vf_upd F 41 f9) 43 f11) (vf_upd (vf_upd G 40 f76) 42 f10)) := ⟨_, rfl, hP, hD⟩
    refine lv_aload_n hx hb dX11_rests_14 rfl (lv_at hl 1 rfl) ?_
    refine va_get (D := D) (ci := 11) (v := .ref (a 41)) (C := RX11) (T := TX11) (N := 49) hx hb hg inGX11 hown hKN.1 hP 0 rfl rfl 41 (by decide) (hg _ kw_1249) (fun _ h9 => h9) rfl dX11_rests_15 ?_
    refine lv_iload_n hx hb dX11_rests_18 rfl (lv_at hl 0 rfl) ?_
    refine lv_iconst (v := 0) hx hb dX11_rests_19 (by decide) ?_
    refine va_iast hx hb hKN.1 hP hD hS 21 0 rfl rfl (vp_in_iff.mpr ⟨by omega, by omega⟩) dX11_rests_20 (fun H locs hP hD hS => ?_)
    obtain ⟨f77, ef77, hP, hD⟩ : ∃ f77 : Nat → Int32, f77 = upd f9 g7.toNatClampNeg 0 ∧ va_P D vwCl (MW Y o a I J (vf_upd (vf_upd F 41 f77) 43 f11) (vf_upd (vf_upd G 40 f76) 42 f10)) H ∧ va_D A (MW Y o a I J (vf_upd (vf_upd F 41 f77) 43 f11) (vf_upd (vf_upd G 40 f76) 42 f10)) := ⟨_, rfl, hP, hD⟩
    refine lv_aload_n hx hb dX11_rests_21 rfl (lv_at hl 1 rfl) ?_
    refine va_get (D := D) (ci := 11) (v := .ref (a 42)) (C := RX11) (T := TX11) (N := 49) hx hb hg inGX11 hown hKN.1 hP 0 rfl rfl 42 (by decide) (hg _ kw_1250) (fun _ h9 => h9) rfl dX11_rests_22 ?_
    refine lv_iload_n hx hb dX11_rests_25 rfl (lv_at hl 0 rfl) ?_
    refine lv_lconst (v := 0) hx hb dX11_rests_26 (by decide) ?_
    refine va_last hx hb hKN.1 hP hD hS 22 1 rfl rfl (vp_in_iff.mpr ⟨by omega, by omega⟩) dX11_rests_27 (fun H locs hP hD hS => ?_)
    obtain ⟨f78, ef78, hP, hD⟩ : ∃ f78 : Nat → Int64, f78 = vp_updL f10 g7.toNatClampNeg 0 ∧ va_P D vwCl (MW Y o a I J (vf_upd (vf_upd F 41 f77) 43 f11) (vf_upd (vf_upd G 40 f76) 42 f78)) H ∧ va_D A (MW Y o a I J (vf_upd (vf_upd F 41 f77) 43 f11) (vf_upd (vf_upd G 40 f76) 42 f78)) := ⟨_, rfl, hP, hD⟩
    refine lv_aload_n hx hb dX11_rests_28 rfl (lv_at hl 1 rfl) ?_
    refine va_get (D := D) (ci := 11) (v := .ref (a 43)) (C := RX11) (T := TX11) (N := 49) hx hb hg inGX11 hown hKN.1 hP 0 rfl rfl 43 (by decide) (hg _ kw_1251) (fun _ h9 => h9) rfl dX11_rests_29 ?_
    refine lv_iload_n hx hb dX11_rests_32 rfl (lv_at hl 0 rfl) ?_
    refine lv_iconst (v := 0) hx hb dX11_rests_33 (by decide) ?_
    refine va_iast hx hb hKN.1 hP hD hS 23 0 rfl rfl (vp_in_iff.mpr ⟨by omega, by omega⟩) dX11_rests_34 (fun H locs hP hD hS => ?_)
    obtain ⟨f79, ef79, hP, hD⟩ : ∃ f79 : Nat → Int32, f79 = upd f11 g7.toNatClampNeg 0 ∧ va_P D vwCl (MW Y o a I J (vf_upd (vf_upd F 41 f77) 43 f79) (vf_upd (vf_upd G 40 f76) 42 f78)) H ∧ va_D A (MW Y o a I J (vf_upd (vf_upd F 41 f77) 43 f79) (vf_upd (vf_upd G 40 f76) 42 f78)) := ⟨_, rfl, hP, hD⟩
    have t80 := ZZ_s hr20 (i := g7) (r2 := g7.toInt + 1) (by omega) rfl ef76 ef77 ef78 ef79
    obtain ⟨v81, ev81⟩ : ∃ y : Int32, y = g7 + 1 := ⟨_, rfl⟩
    have hv81 := i_add (Eq.refl g7.toInt) (show (1 : Int32).toInt = 1 by decide) ev81 (by omega) (by omega)
    refine lv_iinc (v := v81) (lv' := [(2, .int v81), (0, .ref o), (1, .int p1)]) hx hb dX11_rests_35 hl (k := 0) rfl (by rw [ev81]; rfl) (by decide) rfl (fun ls hl => ?_)
    refine lv_goto (tgt := 2) hx hb dX11_rests_38 (by decide) ?_
    exact ih21 (v81, f76, f77, f78, f79) H locs ls (by show (200 - v81.toInt).toNat < (200 - g7.toInt).toNat; omega) ⟨hP, hD, hS, lv_sub hl [0, 1, 2] rfl, by omega, (ZZ_m t80 (by omega))⟩
set_option maxHeartbeats 4000000 in
set_option maxRecDepth 100000 in
theorem m_downW (l : Launch) (D : va_G) (Y : Nat → ClassId) (Z : Nat → Nat) (sz : Nat)  (p0 : Int64) (p1 : Int64) (hk_0 : (-8000000000000 ≤ p0.toInt ∧ p0.toInt ≤ 8000000000000)) (hk_1 : (p1.toInt ≠ 0)) : Met l yX11_down (.code yX11_down cX11_down 6 (some .long) :: GW) ({ frames := 0, cells := 0, slots := 0, locals := 0 }) (va_Pc [.long p0, .long p1] (CP D Y Z [] sz)) (QG (S := Int64) (fun u => some (.long u)) (fun u => (-8000000000001 ≤ u.toInt ∧ u.toInt ≤ 8000000000000)) (fun u => CB D [] (va_A [] sz)) (va_A [] sz)) 0 0 (va_A [] sz) := by
  refine Met.ofW (cc := cX11_down) (maxL := 6) (ret := (some .long)) (by decide) rfl ?_
  intro p e s m args below meth c s₁ B hml hv
  obtain ⟨rfl, hsz, hP, hKN, hD0⟩ := hv
  have hx := B.exec
  have hb := B.bytes
  have hr := B.returns
  have hts := atoms_spec (ws := .code yX11_down cX11_down 6 (some .long) :: GW) B.pre
  have hg : ∀ w ∈ GW, w.before _ s = true := fun w h => hts w (List.mem_cons_of_mem _ h)
  have hown : s.vm.findClass RX11 = some m.cls := findClass_of_methodNamed B.named
  have hlocks := B.notSynchronized
  subst hsz
  have hD := hD0.self (sz := s.heap.size)
  generalize hAe : va_A [] s.heap.size = A at hD ⊢
  have hA : ∀ q : Nat, s.heap.size ≤ q → A q := fun q h => by rw [← hAe]; exact Or.inr h
  clear hAe hD0 hts B
  have hl := lv_entry ([.long p0, .long p1]) (n := 6) (Nat.le_of_ble_eq_true rfl)
  rw [lg_entry_eq]
  generalize (lg_sl ([.long p0, .long p1]) ++ List.replicate (6 - (lg_sl ([.long p0, .long p1])).length) Slot.unset).toArray = ls at hl ⊢
  have hl : lv_has ls 6 [(0, .long p0), (2, .long p1)] := hl
  refine w_start (A0 := A) hP (fun H locs hP hS => ?_)
  refine lv_lload_n hx hb dX11_down_0 rfl (lv_at hl 0 rfl) ?_
  refine lv_lload_n hx hb dX11_down_1 rfl (lv_at hl 1 rfl) ?_
  refine lv_ldiv hx hb dX11_down_2 (l_nz (Eq.refl p1.toInt) (by omega)) ?_
  refine lv_topl (fun v1 ev1 => ?_)
  have hv1 := l_divA (Eq.refl p0.toInt) (Eq.refl p1.toInt) ev1 (by omega) (by omega) (by omega)
  refine lv_lstore (lv' := [(4, .long v1), (0, .long p0), (2, .long p1)]) hx hb dX11_down_3 hl (by decide) rfl (fun ls hl => ?_)
  refine lv_lload hx hb dX11_down_5 (lv_at hl 0 rfl) ?_
  refine lv_lload_n hx hb dX11_down_7 rfl (lv_at hl 2 rfl) ?_
  refine lv_lmul hx hb dX11_down_8 ?_
  refine lv_topl (fun v2 ev2 => ?_)
  refine lv_lload_n hx hb dX11_down_9 rfl (lv_at hl 1 rfl) ?_
  refine W.lcmp hx hb dX11_down_10 ?_
  refine lv_if_le (tgt := 21) hx hb dX11_down_11 (by decide) (fun c5 => ?_) (fun c5 => ?_)
  · skip
    have c5 := l_le (Eq.refl v2.toInt) (Eq.refl p0.toInt) c5
    refine lv_lload hx hb dX11_down_21 (lv_at hl 0 rfl) ?_
    refine W.widen (k := 0) (n := 0) (Nat.le_of_ble_eq_true rfl) (Nat.le_of_ble_eq_true rfl) ?_
    exact W.lret (v := v1) hx hb hr (fun t ht hW => ⟨⟨v1, rfl, ((show (-8000000000001 ≤ v1.toInt ∧ v1.toInt ≤ 8000000000000) by omega)), CB.nil⟩, hS.F ht⟩) hS.2.2 dX11_down_23
  · skip
    have c5 := l_nle (Eq.refl v2.toInt) (Eq.refl p0.toInt) c5
    refine lv_lload hx hb dX11_down_14 (lv_at hl 0 rfl) ?_
    refine lv_lconst (v := 1) hx hb dX11_down_16 (by decide) ?_
    refine lv_lsub hx hb dX11_down_17 ?_
    refine lv_topl (fun v6 ev6 => ?_)
    have hv6 := l_sub (Eq.refl v1.toInt) (show (1 : Int64).toInt = 1 by decide) ev6 (by omega) (by omega)
    refine lv_goto (tgt := 23) hx hb dX11_down_18 (by decide) ?_
    refine W.widen (k := 0) (n := 0) (Nat.le_of_ble_eq_true rfl) (Nat.le_of_ble_eq_true rfl) ?_
    exact W.lret (v := v6) hx hb hr (fun t ht hW => ⟨⟨v6, rfl, ((show (-8000000000001 ≤ v6.toInt ∧ v6.toInt ≤ 8000000000000) by omega)), CB.nil⟩, hS.F ht⟩) hS.2.2 dX11_down_23
set_option maxHeartbeats 4000000 in
set_option maxRecDepth 100000 in
theorem m_deepByB (l : Launch) (D : va_G) (Y : Nat → ClassId) (Z : Nat → Nat) (sz : Nat) (o : Nat) (a : Nat → Nat) (I : Nat → Int32) (J : Nat → Int64) (F : Nat → Nat → Int32) (G : Nat → Nat → Int64) (p1 : Int64) (p2 : Int32) (p3 : Int64) (p4 : Int32) (hk_0 : (-700000000 ≤ p1.toInt ∧ p1.toInt ≤ 700000000)) (hk_1 : (-6000 ≤ p2.toInt ∧ p2.toInt ≤ 600)) (hk_2 : (-600000000 ≤ p3.toInt ∧ p3.toInt ≤ 600000000)) (hk_3 : (0 ≤ p4.toInt ∧ p4.toInt ≤ 6000)) (hk_4 : (p2.toInt ≠ 0)) (hk_5 : (p4.toInt ≠ 0)) : Met l yX11_deepBy (.code yX11_deepBy cX11_deepBy 7 (some .long) :: GW) ({ frames := 1, cells := 0, slots := 0, locals := 25 }) (va_Pc [.ref o, .long p1, .int p2, .long p3, .int p4] (CP D Y Z (MW Y o a I J F G) sz)) (QG (S := Int64) (fun u => some (.long u)) (fun u => (-8000000000001 ≤ u.toInt ∧ u.toInt ≤ 8000000000000)) (fun u => CB D (MW Y o a I J F G) (va_A (MW Y o a I J F G) sz)) (va_A (MW Y o a I J F G) sz)) 0 0 (va_A (MW Y o a I J F G) sz) := by
  refine Met.ofW (cc := cX11_deepBy) (maxL := 7) (ret := (some .long)) (by decide) rfl ?_
  intro p e s m args below meth c s₁ B hml hv
  obtain ⟨rfl, hsz, hP, hKN, hD0⟩ := hv
  have hx := B.exec
  have hb := B.bytes
  have hr := B.returns
  have hts := atoms_spec (ws := .code yX11_deepBy cX11_deepBy 7 (some .long) :: GW) B.pre
  have hg : ∀ w ∈ GW, w.before _ s = true := fun w h => hts w (List.mem_cons_of_mem _ h)
  have hown : s.vm.findClass RX11 = some m.cls := findClass_of_methodNamed B.named
  have hlocks := B.notSynchronized
  subst hsz
  have hD := hD0.self (sz := s.heap.size)
  generalize hAe : va_A (MW Y o a I J F G) s.heap.size = A at hD ⊢
  have hA : ∀ q : Nat, s.heap.size ≤ q → A q := fun q h => by rw [← hAe]; exact Or.inr h
  clear hAe hD0 hts B
  have hl := lv_entry ([.ref o, .long p1, .int p2, .long p3, .int p4]) (n := 7) (Nat.le_of_ble_eq_true rfl)
  rw [lg_entry_eq]
  generalize (lg_sl ([.ref o, .long p1, .int p2, .long p3, .int p4]) ++ List.replicate (7 - (lg_sl ([.ref o, .long p1, .int p2, .long p3, .int p4])).length) Slot.unset).toArray = ls at hl ⊢
  have hl : lv_has ls 7 [(0, .ref o), (1, .long p1), (3, .int p2), (4, .long p3), (6, .int p4)] := hl
  refine w_start (A0 := A) hP (fun H locs hP hS => ?_)
  refine lv_lload_n hx hb dX11_deepBy_0 rfl (lv_at hl 1 rfl) ?_
  refine lv_iload hx hb dX11_deepBy_1 (lv_at hl 4 rfl) ?_
  have j1 := Int32.toInt_toInt64 p4
  refine lv_i2l (v := p4.toInt64) hx hb dX11_deepBy_3 (rfl) ?_
  refine lv_lmul hx hb dX11_deepBy_4 ?_
  refine lv_topl (fun v2 ev2 => ?_)
  have hv2 := l_mulR (a := -700000000) (b := 700000000) (c := 0) (d := 6000) (lo := -4200000000000) (hi := 4200000000000) (Eq.refl p1.toInt) (Int32.toInt_toInt64 p4) ev2 (by omega) (by omega) (by decide) (by decide)
  refine lv_lload hx hb dX11_deepBy_5 (lv_at hl 3 rfl) ?_
  refine lv_iload_n hx hb dX11_deepBy_7 rfl (lv_at hl 2 rfl) ?_
  have j3 := Int32.toInt_toInt64 p2
  refine lv_i2l (v := p2.toInt64) hx hb dX11_deepBy_8 (rfl) ?_
  refine lv_lmul hx hb dX11_deepBy_9 ?_
  refine lv_topl (fun v4 ev4 => ?_)
  have hv4 := l_mulR (a := -600000000) (b := 600000000) (c := -6000) (d := 600) (lo := -3600000000000) (hi := 3600000000000) (Eq.refl p3.toInt) (Int32.toInt_toInt64 p2) ev4 (by omega) (by omega) (by decide) (by decide)
  refine lv_lsub hx hb dX11_deepBy_10 ?_
  refine lv_topl (fun v5 ev5 => ?_)
  have hv5 := l_sub (Eq.refl v2.toInt) (Eq.refl v4.toInt) ev5 (by omega) (by omega)
  refine lv_iload_n hx hb dX11_deepBy_11 rfl (lv_at hl 2 rfl) ?_
  refine lv_i2l (v := p2.toInt64) hx hb dX11_deepBy_12 (rfl) ?_
  refine lv_iload hx hb dX11_deepBy_13 (lv_at hl 4 rfl) ?_
  refine lv_i2l (v := p4.toInt64) hx hb dX11_deepBy_15 (rfl) ?_
  refine lv_lmul hx hb dX11_deepBy_16 ?_
  refine lv_topl (fun v6 ev6 => ?_)
  have hv6 := l_mulR (a := -6000) (b := 600) (c := 0) (d := 6000) (lo := -36000000) (hi := 3600000) (Int32.toInt_toInt64 p2) (Int32.toInt_toInt64 p4) ev6 (by omega) (by omega) (by decide) (by decide)
  have nv6 := mul_nz (by omega) (by omega) hv6.1
  refine cg0 (rn_S (As := [.long v5, .long v6]) (rest := []) (m_downW l D Y Z H.size   v5 v6 (show (-8000000000000 ≤ v5.toInt ∧ v5.toInt ≤ 8000000000000) by omega) (show (v6.toInt ≠ 0) by omega)) ⟨hx, hb, hml, hown, hg⟩ lk_X11_133 ⟨CP.blind, CP.at nilP hKN (nilD (A := fun _ => True))⟩ ⟨⟨rfl, rfl⟩, ⟨Nat.le_of_ble_eq_true rfl, Nat.le_of_ble_eq_true rfl⟩, ⟨Nat.le_of_ble_eq_true rfl, Nat.le_of_ble_eq_true rfl⟩⟩ hl.1 rfl (Nat.le_of_ble_eq_true rfl) dX11_deepBy_17) hP hS hA (fun u7 H locs w8 hP hS => ?_)
  have w8 : (-8000000000001 ≤ u7.toInt ∧ u7.toInt ≤ 8000000000000) := w8
  have hw10 := w8
  refine W.eq (g2 := F0 m 20 ls [.long u7]) rfl ?_
  refine W.widen (k := 0) (n := 0) (Nat.le_of_ble_eq_true rfl) (Nat.le_of_ble_eq_true rfl) ?_
  exact W.lret (v := u7) hx hb hr (fun t ht hW => ⟨⟨u7, rfl, ((show (-8000000000001 ≤ u7.toInt ∧ u7.toInt ≤ 8000000000000) by omega)), CB.mk ht hP hD⟩, hS.F ht⟩) hS.2.2 dX11_deepBy_20
set_option maxHeartbeats 4000000 in
set_option maxRecDepth 100000 in
theorem m_tries (l : Launch) (D : va_G) (Y : Nat → ClassId) (Z : Nat → Nat) (sz : Nat) (o : Nat) (a : Nat → Nat) (I : Nat → Int32) (J : Nat → Int64) (F : Nat → Nat → Int32) (G : Nat → Nat → Int64) (p1 : Int32) (p2 : Int32) (p3 : Int32) (p4 : Int32) (hk_0 : (6 ≤ p1.toInt ∧ p1.toInt ≤ 11)) (hk_1 : (2 ≤ p2.toInt ∧ p2.toInt ≤ 200)) (hk_2 : (1 ≤ p3.toInt ∧ p3.toInt ≤ 10)) (hk_3 : (0 ≤ p4.toInt ∧ p4.toInt ≤ 199)) (hk_4 : (p4.toInt < p2.toInt)) (hk_5 : (0 ≤ (I 29).toInt ∧ (I 29).toInt ≤ 600)) (hk_6 : (-60000000 ≤ (J 30).toInt ∧ (J 30).toInt ≤ 60000000)) (hk_7 : (1 ≤ (J 31).toInt)) (hk_8 : (((F 43) p4.toNatClampNeg).toInt = (wsum (F 28) (p2.toInt).toNat (p4.toInt).toNat 600 (p3.toInt).toNat : Int))) (hk_9 : (p3.toInt < p2.toInt)) (hk_10 : (0 ≤ ((F 43) p4.toNatClampNeg).toInt ∧ ((F 43) p4.toNatClampNeg).toInt ≤ 6000)) (hk_11 : (-600000000 ≤ ((G 42) p4.toNatClampNeg).toInt ∧ ((G 42) p4.toNatClampNeg).toInt ≤ 600000000)) (hk_12 : (((J 38).toInt ≤ 0 ∨ (2 ≤ (I 34).toInt ∧ (I 34).toInt ≤ 200 ∧ 1 ≤ (I 35).toInt ∧ (I 35).toInt ≤ 10 ∧ 0 ≤ (I 36).toInt ∧ (I 36).toInt < (I 34).toInt ∧ -9000000000000 ≤ (J 37).toInt ∧ (J 37).toInt ≤ 9000000000000 ∧ (cin (F 28) ((I 34).toInt).toNat ((I 35).toInt).toNat ((I 36).toInt).toNat 600 : Int) ≠ (I 29).toInt)))) : Met l yX11_tries (.code yX11_tries cX11_tries 12 none :: GW) ({ frames := 4, cells := 0, slots := 0, locals := 89 }) (va_Pc [.ref o, .int p1, .int p2, .int p3, .int p4] (CP D Y Z (MW Y o a I J F G) sz)) (QG (S := Int32 × Int32 × Int32 × Int32 × Int64 × Int64) (fun _ => none) (fun u => ((u.2.2.2.2.2.toInt ≤ 0 ∨ (2 ≤ u.1.toInt ∧ u.1.toInt ≤ 200 ∧ 1 ≤ u.2.1.toInt ∧ u.2.1.toInt ≤ 10 ∧ 0 ≤ u.2.2.1.toInt ∧ u.2.2.1.toInt < u.1.toInt ∧ -9000000000000 ≤ u.2.2.2.2.1.toInt ∧ u.2.2.2.2.1.toInt ≤ 9000000000000 ∧ (cin (F 28) (u.1.toInt).toNat (u.2.1.toInt).toNat (u.2.2.1.toInt).toNat 600 : Int) ≠ (I 29).toInt)))) (fun u => CB D (MW Y o a (upd (upd (upd (upd I 34 u.1) 35 u.2.1) 36 u.2.2.1) 39 u.2.2.2.1) (vp_updL (vp_updL J 37 u.2.2.2.2.1) 38 u.2.2.2.2.2) F G) (va_A (MW Y o a I J F G) sz)) (va_A (MW Y o a I J F G) sz)) 0 0 (va_A (MW Y o a I J F G) sz) := by
  refine Met.ofW (cc := cX11_tries) (maxL := 12) (ret := none) (by decide) rfl ?_
  intro p e s m args below meth c s₁ B hml hv
  obtain ⟨rfl, hsz, hP, hKN, hD0⟩ := hv
  have hx := B.exec
  have hb := B.bytes
  have hr := B.returns
  have hts := atoms_spec (ws := .code yX11_tries cX11_tries 12 none :: GW) B.pre
  have hg : ∀ w ∈ GW, w.before _ s = true := fun w h => hts w (List.mem_cons_of_mem _ h)
  have hown : s.vm.findClass RX11 = some m.cls := findClass_of_methodNamed B.named
  have hlocks := B.notSynchronized
  subst hsz
  have hD := hD0.self (sz := s.heap.size)
  generalize hAe : va_A (MW Y o a I J F G) s.heap.size = A at hD ⊢
  have hA : ∀ q : Nat, s.heap.size ≤ q → A q := fun q h => by rw [← hAe]; exact Or.inr h
  clear hAe hD0 hts B
  have hl := lv_entry ([.ref o, .int p1, .int p2, .int p3, .int p4]) (n := 12) (Nat.le_of_ble_eq_true rfl)
  rw [lg_entry_eq]
  generalize (lg_sl ([.ref o, .int p1, .int p2, .int p3, .int p4]) ++ List.replicate (12 - (lg_sl ([.ref o, .int p1, .int p2, .int p3, .int p4])).length) Slot.unset).toArray = ls at hl ⊢
  have hl : lv_has ls 12 [(0, .ref o), (1, .int p1), (2, .int p2), (3, .int p3), (4, .int p4)] := hl
  refine w_start (A0 := A) hP (fun H locs hP hS => ?_)
  refine lv_aload_n hx hb dX11_tries_0 rfl (lv_at hl 0 rfl) ?_
  refine va_get (D := D) (ci := 11) (v := .ref (a 43)) (C := RX11) (T := TX11) (N := 49) hx hb hg inGX11 hown hKN.1 hP 0 rfl rfl 43 (by decide) (hg _ kw_1251) (fun _ h9 => h9) rfl dX11_tries_1 ?_
  refine lv_iload hx hb dX11_tries_4 (lv_at hl 4 rfl) ?_
  refine va_iald hx hb hKN.1 hP 23 0 rfl rfl (vp_in_iff.mpr ⟨by omega, by omega⟩) dX11_tries_6 ?_
  refine lv_topi (fun v1 ev1 => ?_)
  have ev1 : v1 = (F 43) p4.toNatClampNeg := ev1
  have qv1 := congrArg Int32.toInt ev1
  refine lv_istore (lv' := [(5, .int v1), (0, .ref o), (1, .int p1), (2, .int p2), (3, .int p3), (4, .int p4)]) hx hb dX11_tries_7 hl (by decide) rfl (fun ls hl => ?_)
  refine lv_aload_n hx hb dX11_tries_9 rfl (lv_at hl 1 rfl) ?_
  refine va_get (D := D) (ci := 11) (v := .int (I 29)) (C := RX11) (T := TX11) (N := 49) hx hb hg inGX11 hown hKN.1 hP 0 rfl rfl 29 (by decide) (hg _ kw_1237) (fun _ h9 => h9) rfl dX11_tries_10 ?_
  refine lv_iload hx hb dX11_tries_13 (lv_at hl 0 rfl) ?_
  refine lv_isub hx hb dX11_tries_15 ?_
  refine lv_topi (fun v2 ev2 => ?_)
  have hv2 := i_sub (Eq.refl (I 29).toInt) (Eq.refl v1.toInt) ev2 (by omega) (by omega)
  refine lv_istore (lv' := [(6, .int v2), (5, .int v1), (0, .ref o), (1, .int p1), (2, .int p2), (3, .int p3), (4, .int p4)]) hx hb dX11_tries_16 hl (by decide) rfl (fun ls hl => ?_)
  refine lv_iload hx hb dX11_tries_18 (lv_at hl 1 rfl) ?_
  refine lv_if_eq (tgt := 28) hx hb dX11_tries_20 (by decide) (fun c3 => ?_) (fun c3 => ?_)
  · skip
    have c3 := i_eq (Eq.refl v1.toInt) (show (0 : Int32).toInt = 0 by decide) c3
    refine W.widen (k := 0) (n := 0) (Nat.le_of_ble_eq_true rfl) (Nat.le_of_ble_eq_true rfl) ?_
    exact W.vret hx hb hr (fun t ht hW => ⟨⟨((I 34), (I 35), (I 36), (I 39), (J 37), (J 38)), rfl, ((show (((J 38).toInt ≤ 0 ∨ (2 ≤ (I 34).toInt ∧ (I 34).toInt ≤ 200 ∧ 1 ≤ (I 35).toInt ∧ (I 35).toInt ≤ 10 ∧ 0 ≤ (I 36).toInt ∧ (I 36).toInt < (I 34).toInt ∧ -9000000000000 ≤ (J 37).toInt ∧ (J 37).toInt ≤ 9000000000000 ∧ (cin (F 28) ((I 34).toInt).toNat ((I 35).toInt).toNat ((I 36).toInt).toNat 600 : Int) ≠ (I 29).toInt))) by omega)), CB.mk ht hP hD⟩, hS.F ht⟩) hS.2.2 dX11_tries_28
  · skip
    have c3 := i_ne (Eq.refl v1.toInt) (show (0 : Int32).toInt = 0 by decide) c3
    refine lv_iload hx hb dX11_tries_23 (lv_at hl 0 rfl) ?_
    refine lv_if_ne (tgt := 29) hx hb dX11_tries_25 (by decide) (fun c4 => ?_) (fun c4 => ?_)
    · skip
      have c4 := i_ne (Eq.refl v2.toInt) (show (0 : Int32).toInt = 0 by decide) c4
      refine lv_aload_n hx hb dX11_tries_29 rfl (lv_at hl 2 rfl) ?_
      refine lv_aload_n hx hb dX11_tries_30 rfl (lv_at hl 2 rfl) ?_
      refine va_get (D := D) (ci := 11) (v := .long (J 30)) (C := RX11) (T := TX11) (N := 49) hx hb hg inGX11 hown hKN.1 hP 0 rfl rfl 30 (by decide) (hg _ kw_1238) (fun _ h9 => h9) rfl dX11_tries_31 ?_
      refine lv_aload_n hx hb dX11_tries_34 rfl (lv_at hl 2 rfl) ?_
      refine va_get (D := D) (ci := 11) (v := .ref (a 42)) (C := RX11) (T := TX11) (N := 49) hx hb hg inGX11 hown hKN.1 hP 0 rfl rfl 42 (by decide) (hg _ kw_1250) (fun _ h9 => h9) rfl dX11_tries_35 ?_
      refine lv_iload hx hb dX11_tries_38 (lv_at hl 6 rfl) ?_
      refine va_lald hx hb hKN.1 hP 22 1 rfl rfl (vp_in_iff.mpr ⟨by omega, by omega⟩) dX11_tries_40 ?_
      refine lv_topl (fun v5 ev5 => ?_)
      have ev5 : v5 = (G 42) p4.toNatClampNeg := ev5
      have qv5 := congrArg Int64.toInt ev5
      refine lv_lsub hx hb dX11_tries_41 ?_
      refine lv_topl (fun v6 ev6 => ?_)
      have hv6 := l_sub (Eq.refl (J 30).toInt) (Eq.refl v5.toInt) ev6 (by omega) (by omega)
      refine lv_iload hx hb dX11_tries_42 (lv_at hl 0 rfl) ?_
      refine lv_aload_n hx hb dX11_tries_44 rfl (lv_at hl 2 rfl) ?_
      refine va_get (D := D) (ci := 11) (v := .ref (a 42)) (C := RX11) (T := TX11) (N := 49) hx hb hg inGX11 hown hKN.1 hP 0 rfl rfl 42 (by decide) (hg _ kw_1250) (fun _ h9 => h9) rfl dX11_tries_45 ?_
      refine lv_iload hx hb dX11_tries_48 (lv_at hl 6 rfl) ?_
      refine va_lald hx hb hKN.1 hP 22 1 rfl rfl (vp_in_iff.mpr ⟨by omega, by omega⟩) dX11_tries_50 ?_
      refine lv_topl (fun v7 ev7 => ?_)
      have ev7 : v7 = (G 42) p4.toNatClampNeg := ev7
      have qv7 := congrArg Int64.toInt ev7
      refine lv_iload hx hb dX11_tries_51 (lv_at hl 1 rfl) ?_
      refine cga (rn_V (As := [.long v6, .int v2, .long v7, .int v1]) (rest := []) (b := o) (m_deepByB l D Y Z H.size o a I J F G  v6 v2 v7 v1 (show (-700000000 ≤ v6.toInt ∧ v6.toInt ≤ 700000000) by omega) (show (-6000 ≤ v2.toInt ∧ v2.toInt ≤ 600) by omega) (show (-600000000 ≤ v7.toInt ∧ v7.toInt ≤ 600000000) by omega) (show (0 ≤ v1.toInt ∧ v1.toInt ≤ 6000) by omega) (show (v2.toInt ≠ 0) by omega) (show (v1.toInt ≠ 0) by omega)) ⟨hx, hb, hml, hown, hg⟩ lk_X11_441 ⟨CP.blind, va_recv hKN.1 hP (ci := 11) (q0 := 0) rfl rfl, CP.at hP hKN hD⟩ ⟨⟨rfl, rfl⟩, ⟨Nat.le_of_ble_eq_true rfl, Nat.le_of_ble_eq_true rfl⟩, ⟨Nat.le_of_ble_eq_true rfl, Nat.le_of_ble_eq_true rfl⟩⟩ hl.1 rfl (Nat.le_of_ble_eq_true rfl) dX11_tries_53) hP hD hS hA (fun u8 H locs w9 hP hD hS => ?_)
      have w9 : (-8000000000001 ≤ u8.toInt ∧ u8.toInt ≤ 8000000000000) := w9
      have hw11 := w9
      refine W.eq (g2 := F0 m 56 ls [.long u8]) rfl ?_
      have hP : va_P D vwCl (MW Y o a I J F G) H := hP
      have hD : va_D A (MW Y o a I J F G) := hD
      refine lv_lstore (lv' := [(7, .long u8), (6, .int v2), (5, .int v1), (0, .ref o), (1, .int p1), (2, .int p2), (3, .int p3), (4, .int p4)]) hx hb dX11_tries_56 hl (by decide) rfl (fun ls hl => ?_)
      refine lv_aload_n hx hb dX11_tries_58 rfl (lv_at hl 3 rfl) ?_
      refine lv_lload hx hb dX11_tries_59 (lv_at hl 0 rfl) ?_
      refine lv_iload hx hb dX11_tries_61 (lv_at hl 2 rfl) ?_
      refine cga (rn_V (As := [.long u8, .int v1]) (rest := []) (b := o) (m_scoreOf l D Y Z H.size o a I J F G  u8 v1 (show (1 ≤ (J 31).toInt) by omega)) ⟨hx, hb, hml, hown, hg⟩ lk_X11_451 ⟨CP.blind, va_recv hKN.1 hP (ci := 11) (q0 := 0) rfl rfl, CP.at hP hKN hD⟩ ⟨⟨rfl, rfl⟩, ⟨Nat.le_of_ble_eq_true rfl, Nat.le_of_ble_eq_true rfl⟩, ⟨Nat.le_of_ble_eq_true rfl, Nat.le_of_ble_eq_true rfl⟩⟩ hl.1 rfl (Nat.le_of_ble_eq_true rfl) dX11_tries_63) hP hD hS hA (fun u12 H locs w13 hP hD hS => ?_)
      refine W.eq (g2 := F0 m 66 ls [.long u12]) rfl ?_
      have hP : va_P D vwCl (MW Y o a I J F G) H := hP
      have hD : va_D A (MW Y o a I J F G) := hD
      refine lv_lstore (lv' := [(9, .long u12), (7, .long u8), (6, .int v2), (5, .int v1), (0, .ref o), (1, .int p1), (2, .int p2), (3, .int p3), (4, .int p4)]) hx hb dX11_tries_66 hl (by decide) rfl (fun ls hl => ?_)
      refine lv_lload hx hb dX11_tries_68 (lv_at hl 0 rfl) ?_
      refine lv_aload_n hx hb dX11_tries_70 rfl (lv_at hl 4 rfl) ?_
      refine va_get (D := D) (ci := 11) (v := .long (J 38)) (C := RX11) (T := TX11) (N := 49) hx hb hg inGX11 hown hKN.1 hP 0 rfl rfl 38 (by decide) (hg _ kw_1246) (fun _ h9 => h9) rfl dX11_tries_71 ?_
      refine W.lcmp hx hb dX11_tries_74 ?_
      refine lv_if_gt (tgt := 79) hx hb dX11_tries_75 (by decide) (fun c15 => ?_) (fun c15 => ?_)
      · skip
        have c15 := l_gt (Eq.refl u12.toInt) (Eq.refl (J 38).toInt) c15
        refine lv_aload_n hx hb dX11_tries_79 rfl (lv_at hl 4 rfl) ?_
        refine lv_iload_n hx hb dX11_tries_80 rfl (lv_at hl 6 rfl) ?_
        refine lv_iload_n hx hb dX11_tries_81 rfl (lv_at hl 7 rfl) ?_
        refine lv_iload hx hb dX11_tries_82 (lv_at hl 8 rfl) ?_
        refine cga (rn_V (As := [.int p2, .int p3, .int p4]) (rest := []) (b := o) (m_dipsOf l D Y Z H.size o a I J F G  p2 p3 p4 (show (1 ≤ p2.toInt ∧ p2.toInt ≤ 400) by omega) (show (0 ≤ p3.toInt ∧ p3.toInt ≤ 30) by omega) (show (0 ≤ p4.toInt ∧ p4.toInt ≤ 400) by omega)) ⟨hx, hb, hml, hown, hg⟩ lk_X11_433 ⟨CP.blind, va_recv hKN.1 hP (ci := 11) (q0 := 0) rfl rfl, CP.at hP hKN hD⟩ ⟨⟨rfl, rfl⟩, ⟨Nat.le_of_ble_eq_true rfl, Nat.le_of_ble_eq_true rfl⟩, ⟨Nat.le_of_ble_eq_true rfl, Nat.le_of_ble_eq_true rfl⟩⟩ hl.1 rfl (Nat.le_of_ble_eq_true rfl) dX11_tries_84) hP hD hS hA (fun u16 H locs w17 hP hD hS => ?_)
        refine W.eq (g2 := F0 m 87 ls [.int u16]) rfl ?_
        have hP : va_P D vwCl (MW Y o a I J F G) H := hP
        have hD : va_D A (MW Y o a I J F G) := hD
        refine lv_istore (lv' := [(11, .int u16), (9, .long u12), (7, .long u8), (6, .int v2), (5, .int v1), (0, .ref o), (1, .int p1), (2, .int p2), (3, .int p3), (4, .int p4)]) hx hb dX11_tries_87 hl (by decide) rfl (fun ls hl => ?_)
        refine lv_iload hx hb dX11_tries_89 (lv_at hl 0 rfl) ?_
        refine lv_aload_n hx hb dX11_tries_91 rfl (lv_at hl 5 rfl) ?_
        refine va_get (D := D) (ci := 11) (v := .ref (a 14)) (C := RX11) (T := TX11) (N := 49) hx hb hg inGX11 hown hKN.1 hP 0 rfl rfl 14 (by decide) (hg _ kw_1222) (fun _ h9 => h9) rfl dX11_tries_92 ?_
        refine lv_iload_n hx hb dX11_tries_95 rfl (lv_at hl 6 rfl) ?_
        refine va_iald hx hb hKN.1 hP 14 0 rfl rfl (vp_in_iff.mpr ⟨by omega, by omega⟩) dX11_tries_96 ?_
        refine lv_topi (fun v19 ev19 => ?_)
        have ev19 : v19 = (F 14) p1.toNatClampNeg := ev19
        have j20 := rgI u16
        have j21 := rgI v19
        refine lv_icmp_ge (tgt := 101) hx hb dX11_tries_97 (by decide) (fun c22 => ?_) (fun c22 => ?_)
        · skip
          have c22 := i_le (Eq.refl v19.toInt) (Eq.refl u16.toInt) c22
          have hcin := wsum_cin (f := (F 28)) (b := p2.toInt.toNat) (s := p4.toInt.toNat) (l := p3.toInt.toNat) (by omega) (by omega) 600
          refine lv_aload_n hx hb dX11_tries_101 rfl (lv_at hl 5 rfl) ?_
          refine lv_iload_n hx hb dX11_tries_102 rfl (lv_at hl 7 rfl) ?_
          refine va_put (D := D) (ci := 11) (v := .int p2) (ty := .int) (C := RX11) (T := TX11) (N := 49) hx hb hg inGX11 tyX11 tyX11_ok nmX11 hown hKN.1 hP hD hS 0 rfl rfl 34 (by decide) (hg _ kw_1242) (fun _ h9 => h9) rfl (by decide +kernel) rfl rfl (Nat.le_of_ble_eq_true rfl) dX11_tries_103 (fun H locs hP hD hS => ?_)
          have hP : va_P D vwCl (MW Y o a (upd I 34 p2) J F G) H := hP
          have hD : va_D A (MW Y o a (upd I 34 p2) J F G) := hD
          refine lv_aload_n hx hb dX11_tries_106 rfl (lv_at hl 5 rfl) ?_
          refine lv_iload_n hx hb dX11_tries_107 rfl (lv_at hl 8 rfl) ?_
          refine va_put (D := D) (ci := 11) (v := .int p3) (ty := .int) (C := RX11) (T := TX11) (N := 49) hx hb hg inGX11 tyX11 tyX11_ok nmX11 hown hKN.1 hP hD hS 0 rfl rfl 35 (by decide) (hg _ kw_1243) (fun _ h9 => h9) rfl (by decide +kernel) rfl rfl (Nat.le_of_ble_eq_true rfl) dX11_tries_108 (fun H locs hP hD hS => ?_)
          have hP : va_P D vwCl (MW Y o a (upd (upd I 34 p2) 35 p3) J F G) H := hP
          have hD : va_D A (MW Y o a (upd (upd I 34 p2) 35 p3) J F G) := hD
          refine lv_aload_n hx hb dX11_tries_111 rfl (lv_at hl 5 rfl) ?_
          refine lv_iload hx hb dX11_tries_112 (lv_at hl 9 rfl) ?_
          refine va_put (D := D) (ci := 11) (v := .int p4) (ty := .int) (C := RX11) (T := TX11) (N := 49) hx hb hg inGX11 tyX11 tyX11_ok nmX11 hown hKN.1 hP hD hS 0 rfl rfl 36 (by decide) (hg _ kw_1244) (fun _ h9 => h9) rfl (by decide +kernel) rfl rfl (Nat.le_of_ble_eq_true rfl) dX11_tries_114 (fun H locs hP hD hS => ?_)
          have hP : va_P D vwCl (MW Y o a (upd (upd (upd I 34 p2) 35 p3) 36 p4) J F G) H := hP
          have hD : va_D A (MW Y o a (upd (upd (upd I 34 p2) 35 p3) 36 p4) J F G) := hD
          refine lv_aload_n hx hb dX11_tries_117 rfl (lv_at hl 5 rfl) ?_
          refine lv_lload hx hb dX11_tries_118 (lv_at hl 2 rfl) ?_
          refine va_put (D := D) (ci := 11) (v := .long u8) (ty := .long) (C := RX11) (T := TX11) (N := 49) hx hb hg inGX11 tyX11 tyX11_ok nmX11 hown hKN.1 hP hD hS 0 rfl rfl 37 (by decide) (hg _ kw_1245) (fun _ h9 => h9) rfl (by decide +kernel) rfl rfl (Nat.le_of_ble_eq_true rfl) dX11_tries_120 (fun H locs hP hD hS => ?_)
          have hP : va_P D vwCl (MW Y o a (upd (upd (upd I 34 p2) 35 p3) 36 p4) (vp_updL J 37 u8) F G) H := hP
          have hD : va_D A (MW Y o a (upd (upd (upd I 34 p2) 35 p3) 36 p4) (vp_updL J 37 u8) F G) := hD
          refine lv_aload_n hx hb dX11_tries_123 rfl (lv_at hl 5 rfl) ?_
          refine lv_lload hx hb dX11_tries_124 (lv_at hl 1 rfl) ?_
          refine va_put (D := D) (ci := 11) (v := .long u12) (ty := .long) (C := RX11) (T := TX11) (N := 49) hx hb hg inGX11 tyX11 tyX11_ok nmX11 hown hKN.1 hP hD hS 0 rfl rfl 38 (by decide) (hg _ kw_1246) (fun _ h9 => h9) rfl (by decide +kernel) rfl rfl (Nat.le_of_ble_eq_true rfl) dX11_tries_126 (fun H locs hP hD hS => ?_)
          have hP : va_P D vwCl (MW Y o a (upd (upd (upd I 34 p2) 35 p3) 36 p4) (vp_updL (vp_updL J 37 u8) 38 u12) F G) H := hP
          have hD : va_D A (MW Y o a (upd (upd (upd I 34 p2) 35 p3) 36 p4) (vp_updL (vp_updL J 37 u8) 38 u12) F G) := hD
          refine lv_aload_n hx hb dX11_tries_129 rfl (lv_at hl 5 rfl) ?_
          refine lv_iload hx hb dX11_tries_130 (lv_at hl 0 rfl) ?_
          refine va_put (D := D) (ci := 11) (v := .int u16) (ty := .int) (C := RX11) (T := TX11) (N := 49) hx hb hg inGX11 tyX11 tyX11_ok nmX11 hown hKN.1 hP hD hS 0 rfl rfl 39 (by decide) (hg _ kw_1247) (fun _ h9 => h9) rfl (by decide +kernel) rfl rfl (Nat.le_of_ble_eq_true rfl) dX11_tries_132 (fun H locs hP hD hS => ?_)
          have hP : va_P D vwCl (MW Y o a (upd (upd (upd (upd I 34 p2) 35 p3) 36 p4) 39 u16) (vp_updL (vp_updL J 37 u8) 38 u12) F G) H := hP
          have hD : va_D A (MW Y o a (upd (upd (upd (upd I 34 p2) 35 p3) 36 p4) 39 u16) (vp_updL (vp_updL J 37 u8) 38 u12) F G) := hD
          refine W.widen (k := 0) (n := 0) (Nat.le_of_ble_eq_true rfl) (Nat.le_of_ble_eq_true rfl) ?_
          exact W.vret hx hb hr (fun t ht hW => ⟨⟨(p2, p3, p4, u16, u8, u12), rfl, ((show ((u12.toInt ≤ 0 ∨ (2 ≤ p2.toInt ∧ p2.toInt ≤ 200 ∧ 1 ≤ p3.toInt ∧ p3.toInt ≤ 10 ∧ 0 ≤ p4.toInt ∧ p4.toInt < p2.toInt ∧ -9000000000000 ≤ u8.toInt ∧ u8.toInt ≤ 9000000000000 ∧ (cin (F 28) (p2.toInt).toNat (p3.toInt).toNat (p4.toInt).toNat 600 : Int) ≠ (I 29).toInt))) by omega)), CB.mk ht hP hD⟩, hS.F ht⟩) hS.2.2 dX11_tries_135
        · skip
          have c22 := i_nle (Eq.refl v19.toInt) (Eq.refl u16.toInt) c22
          refine W.widen (k := 0) (n := 0) (Nat.le_of_ble_eq_true rfl) (Nat.le_of_ble_eq_true rfl) ?_
          exact W.vret hx hb hr (fun t ht hW => ⟨⟨((I 34), (I 35), (I 36), (I 39), (J 37), (J 38)), rfl, ((show (((J 38).toInt ≤ 0 ∨ (2 ≤ (I 34).toInt ∧ (I 34).toInt ≤ 200 ∧ 1 ≤ (I 35).toInt ∧ (I 35).toInt ≤ 10 ∧ 0 ≤ (I 36).toInt ∧ (I 36).toInt < (I 34).toInt ∧ -9000000000000 ≤ (J 37).toInt ∧ (J 37).toInt ≤ 9000000000000 ∧ (cin (F 28) ((I 34).toInt).toNat ((I 35).toInt).toNat ((I 36).toInt).toNat 600 : Int) ≠ (I 29).toInt))) by omega)), CB.mk ht hP hD⟩, hS.F ht⟩) hS.2.2 dX11_tries_100
      · skip
        have c15 := l_ngt (Eq.refl u12.toInt) (Eq.refl (J 38).toInt) c15
        refine W.widen (k := 0) (n := 0) (Nat.le_of_ble_eq_true rfl) (Nat.le_of_ble_eq_true rfl) ?_
        exact W.vret hx hb hr (fun t ht hW => ⟨⟨((I 34), (I 35), (I 36), (I 39), (J 37), (J 38)), rfl, ((show (((J 38).toInt ≤ 0 ∨ (2 ≤ (I 34).toInt ∧ (I 34).toInt ≤ 200 ∧ 1 ≤ (I 35).toInt ∧ (I 35).toInt ≤ 10 ∧ 0 ≤ (I 36).toInt ∧ (I 36).toInt < (I 34).toInt ∧ -9000000000000 ≤ (J 37).toInt ∧ (J 37).toInt ≤ 9000000000000 ∧ (cin (F 28) ((I 34).toInt).toNat ((I 35).toInt).toNat ((I 36).toInt).toNat 600 : Int) ≠ (I 29).toInt))) by omega)), CB.mk ht hP hD⟩, hS.F ht⟩) hS.2.2 dX11_tries_78
    · skip
      have c4 := i_eq (Eq.refl v2.toInt) (show (0 : Int32).toInt = 0 by decide) c4
      refine W.widen (k := 0) (n := 0) (Nat.le_of_ble_eq_true rfl) (Nat.le_of_ble_eq_true rfl) ?_
      exact W.vret hx hb hr (fun t ht hW => ⟨⟨((I 34), (I 35), (I 36), (I 39), (J 37), (J 38)), rfl, ((show (((J 38).toInt ≤ 0 ∨ (2 ≤ (I 34).toInt ∧ (I 34).toInt ≤ 200 ∧ 1 ≤ (I 35).toInt ∧ (I 35).toInt ≤ 10 ∧ 0 ≤ (I 36).toInt ∧ (I 36).toInt < (I 34).toInt ∧ -9000000000000 ≤ (J 37).toInt ∧ (J 37).toInt ≤ 9000000000000 ∧ (cin (F 28) ((I 34).toInt).toNat ((I 35).toInt).toNat ((I 36).toInt).toNat 600 : Int) ≠ (I 29).toInt))) by omega)), CB.mk ht hP hD⟩, hS.F ht⟩) hS.2.2 dX11_tries_28
set_option maxHeartbeats 4000000 in
set_option maxRecDepth 100000 in
theorem m_isText0 (l : Launch) (D : va_G) (Y : Nat → ClassId) (Z : Nat → Nat) (sz : Nat) (o : Nat) (a : Nat → Nat) (I : Nat → Int32) (J : Nat → Int64) (F : Nat → Nat → Int32) (G : Nat → Nat → Int64) (p2 : Int32) (hk0 : TX (F 4) (F 9) (F 10) (F 11) (F 12) (F 13)) : Met l yX11_isText (.code yX11_isText cX11_isText 3 (some .boolean) :: GW) ({ frames := 0, cells := 0, slots := 0, locals := 0 }) (va_Pc [.ref o, .int 0, .int p2] (CP D Y Z (MW Y o a I J F G) sz)) (QG (S := Int32) (fun u => some (.int u)) (fun u => ((0 ≤ p2.toInt ∧ p2.toInt ≤ 5 ∧ p2.toInt < ((F 4) 0).toInt ∧ u.toInt = 1) ∨ u.toInt = 0) ∧ (0 ≤ u.toInt ∧ u.toInt ≤ 1)) (fun u => CB D (MW Y o a I J F G) (va_A (MW Y o a I J F G) sz)) (va_A (MW Y o a I J F G) sz)) 0 0 (va_A (MW Y o a I J F G) sz) := by
  refine Met.ofW (cc := cX11_isText) (maxL := 3) (ret := (some .boolean)) (by decide) rfl ?_
  intro p e s m args below meth c s₁ B hml hv
  obtain ⟨rfl, hsz, hP, hKN, hD0⟩ := hv
  have hx := B.exec
  have hb := B.bytes
  have hr := B.returns
  have hts := atoms_spec (ws := .code yX11_isText cX11_isText 3 (some .boolean) :: GW) B.pre
  have hg : ∀ w ∈ GW, w.before _ s = true := fun w h => hts w (List.mem_cons_of_mem _ h)
  have hown : s.vm.findClass RX11 = some m.cls := findClass_of_methodNamed B.named
  have hlocks := B.notSynchronized
  subst hsz
  have hD := hD0.self (sz := s.heap.size)
  generalize hAe : va_A (MW Y o a I J F G) s.heap.size = A at hD ⊢
  have hA : ∀ q : Nat, s.heap.size ≤ q → A q := fun q h => by rw [← hAe]; exact Or.inr h
  clear hAe hD0 hts B
  have hl := lv_entry ([.ref o, .int 0, .int p2]) (n := 3) (Nat.le_of_ble_eq_true rfl)
  rw [lg_entry_eq]
  generalize (lg_sl ([.ref o, .int 0, .int p2]) ++ List.replicate (3 - (lg_sl ([.ref o, .int 0, .int p2])).length) Slot.unset).toArray = ls at hl ⊢
  have hl : lv_has ls 3 [(0, .ref o), (1, .int 0), (2, .int p2)] := hl
  refine w_start (A0 := A) hP (fun H locs hP hS => ?_)
  refine lv_iload_n hx hb dX11_isText_0 rfl (lv_at hl 2 rfl) ?_
  have j5 := rgI p2
  refine lv_if_lt (tgt := 18) hx hb dX11_isText_1 (by decide) (fun c6 => ?_) (fun c6 => ?_)
  · skip
    have c6 := i_lt (Eq.refl p2.toInt) (show (0 : Int32).toInt = 0 by decide) c6
    refine lv_iconst (v := 0) hx hb dX11_isText_18 (by decide) ?_
    refine W.widen (k := 0) (n := 0) (Nat.le_of_ble_eq_true rfl) (Nat.le_of_ble_eq_true rfl) ?_
    have zi0 : (0 : Int32).toInt = 0 := by decide
    exact W.zret (v := 0) hx hb hr (by decide) (fun t ht hW => ⟨⟨0, rfl, ⟨(show ((0 ≤ p2.toInt ∧ p2.toInt ≤ 5 ∧ p2.toInt < ((F 4) 0).toInt ∧ (0 : Int32).toInt = 1) ∨ (0 : Int32).toInt = 0) by omega), (show (0 ≤ (0 : Int32).toInt ∧ (0 : Int32).toInt ≤ 1) by omega)⟩, CB.mk ht hP hD⟩, hS.F ht⟩) hS.2.2 dX11_isText_19
  · skip
    have c6 := i_nlt (Eq.refl p2.toInt) (show (0 : Int32).toInt = 0 by decide) c6
    refine lv_iload_n hx hb dX11_isText_4 rfl (lv_at hl 2 rfl) ?_
    refine lv_aload_n hx hb dX11_isText_5 rfl (lv_at hl 0 rfl) ?_
    refine va_get (D := D) (ci := 11) (v := .ref (a 4)) (C := RX11) (T := TX11) (N := 49) hx hb hg inGX11 hown hKN.1 hP 0 rfl rfl 4 (by decide) (hg _ kw_1212) (fun _ h9 => h9) rfl dX11_isText_6 ?_
    refine lv_iload_n hx hb dX11_isText_9 rfl (lv_at hl 1 rfl) ?_
    refine va_iald hx hb hKN.1 hP 4 0 rfl rfl (show ¬ ((0 : Int32) < 0 ∨ 3 ≤ (0 : Int32).toNatClampNeg) by decide) dX11_isText_10 ?_
    refine lv_topi (fun v7 ev7 => ?_)
    have ev7 : v7 = (F 4) 0 := ev7
    have kv7 := TX_t hk0 (i := 0) (by decide) (by decide)
    have kv7 : 0 ≤ ((F 4) 0).toInt ∧ ((F 4) 0).toInt ≤ 6 := kv7
    have qv7 := congrArg Int32.toInt ev7
    refine lv_icmp_ge (tgt := 18) hx hb dX11_isText_11 (by decide) (fun c9 => ?_) (fun c9 => ?_)
    · skip
      have c9 := i_le (Eq.refl v7.toInt) (Eq.refl p2.toInt) c9
      refine lv_iconst (v := 0) hx hb dX11_isText_18 (by decide) ?_
      refine W.widen (k := 0) (n := 0) (Nat.le_of_ble_eq_true rfl) (Nat.le_of_ble_eq_true rfl) ?_
      have zi0 : (0 : Int32).toInt = 0 := by decide
      exact W.zret (v := 0) hx hb hr (by decide) (fun t ht hW => ⟨⟨0, rfl, ⟨(show ((0 ≤ p2.toInt ∧ p2.toInt ≤ 5 ∧ p2.toInt < ((F 4) 0).toInt ∧ (0 : Int32).toInt = 1) ∨ (0 : Int32).toInt = 0) by omega), (show (0 ≤ (0 : Int32).toInt ∧ (0 : Int32).toInt ≤ 1) by omega)⟩, CB.mk ht hP hD⟩, hS.F ht⟩) hS.2.2 dX11_isText_19
    · skip
      have c9 := i_nle (Eq.refl v7.toInt) (Eq.refl p2.toInt) c9
      refine lv_iconst (v := 1) hx hb dX11_isText_14 (by decide) ?_
      refine lv_goto (tgt := 19) hx hb dX11_isText_15 (by decide) ?_
      refine W.widen (k := 0) (n := 0) (Nat.le_of_ble_eq_true rfl) (Nat.le_of_ble_eq_true rfl) ?_
      have zi0 : (0 : Int32).toInt = 0 := by decide
      have zi1 : (1 : Int32).toInt = 1 := by decide
      exact W.zret (v := 1) hx hb hr (by decide) (fun t ht hW => ⟨⟨1, rfl, ⟨(show ((0 ≤ p2.toInt ∧ p2.toInt ≤ 5 ∧ p2.toInt < ((F 4) 0).toInt ∧ (1 : Int32).toInt = 1) ∨ (1 : Int32).toInt = 0) by omega), (show (0 ≤ (1 : Int32).toInt ∧ (1 : Int32).toInt ≤ 1) by omega)⟩, CB.mk ht hP hD⟩, hS.F ht⟩) hS.2.2 dX11_isText_19
set_option maxHeartbeats 4000000 in
set_option maxRecDepth 100000 in
theorem m_isText1 (l : Launch) (D : va_G) (Y : Nat → ClassId) (Z : Nat → Nat) (sz : Nat) (o : Nat) (a : Nat → Nat) (I : Nat → Int32) (J : Nat → Int64) (F : Nat → Nat → Int32) (G : Nat → Nat → Int64) (p2 : Int32) (hk0 : TX (F 4) (F 9) (F 10) (F 11) (F 12) (F 13)) : Met l yX11_isText (.code yX11_isText cX11_isText 3 (some .boolean) :: GW) ({ frames := 0, cells := 0, slots := 0, locals := 0 }) (va_Pc [.ref o, .int 1, .int p2] (CP D Y Z (MW Y o a I J F G) sz)) (QG (S := Int32) (fun u => some (.int u)) (fun u => ((0 ≤ p2.toInt ∧ p2.toInt ≤ 5 ∧ p2.toInt < ((F 4) 1).toInt ∧ u.toInt = 1) ∨ u.toInt = 0) ∧ (0 ≤ u.toInt ∧ u.toInt ≤ 1)) (fun u => CB D (MW Y o a I J F G) (va_A (MW Y o a I J F G) sz)) (va_A (MW Y o a I J F G) sz)) 0 0 (va_A (MW Y o a I J F G) sz) := by
  refine Met.ofW (cc := cX11_isText) (maxL := 3) (ret := (some .boolean)) (by decide) rfl ?_
  intro p e s m args below meth c s₁ B hml hv
  obtain ⟨rfl, hsz, hP, hKN, hD0⟩ := hv
  have hx := B.exec
  have hb := B.bytes
  have hr := B.returns
  have hts := atoms_spec (ws := .code yX11_isText cX11_isText 3 (some .boolean) :: GW) B.pre
  have hg : ∀ w ∈ GW, w.before _ s = true := fun w h => hts w (List.mem_cons_of_mem _ h)
  have hown : s.vm.findClass RX11 = some m.cls := findClass_of_methodNamed B.named
  have hlocks := B.notSynchronized
  subst hsz
  have hD := hD0.self (sz := s.heap.size)
  generalize hAe : va_A (MW Y o a I J F G) s.heap.size = A at hD ⊢
  have hA : ∀ q : Nat, s.heap.size ≤ q → A q := fun q h => by rw [← hAe]; exact Or.inr h
  clear hAe hD0 hts B
  have hl := lv_entry ([.ref o, .int 1, .int p2]) (n := 3) (Nat.le_of_ble_eq_true rfl)
  rw [lg_entry_eq]
  generalize (lg_sl ([.ref o, .int 1, .int p2]) ++ List.replicate (3 - (lg_sl ([.ref o, .int 1, .int p2])).length) Slot.unset).toArray = ls at hl ⊢
  have hl : lv_has ls 3 [(0, .ref o), (1, .int 1), (2, .int p2)] := hl
  refine w_start (A0 := A) hP (fun H locs hP hS => ?_)
  refine lv_iload_n hx hb dX11_isText_0 rfl (lv_at hl 2 rfl) ?_
  have j5 := rgI p2
  refine lv_if_lt (tgt := 18) hx hb dX11_isText_1 (by decide) (fun c6 => ?_) (fun c6 => ?_)
  · skip
    have c6 := i_lt (Eq.refl p2.toInt) (show (0 : Int32).toInt = 0 by decide) c6
    refine lv_iconst (v := 0) hx hb dX11_isText_18 (by decide) ?_
    refine W.widen (k := 0) (n := 0) (Nat.le_of_ble_eq_true rfl) (Nat.le_of_ble_eq_true rfl) ?_
    have zi1 : (1 : Int32).toInt = 1 := by decide
    have zi0 : (0 : Int32).toInt = 0 := by decide
    exact W.zret (v := 0) hx hb hr (by decide) (fun t ht hW => ⟨⟨0, rfl, ⟨(show ((0 ≤ p2.toInt ∧ p2.toInt ≤ 5 ∧ p2.toInt < ((F 4) 1).toInt ∧ (0 : Int32).toInt = 1) ∨ (0 : Int32).toInt = 0) by omega), (show (0 ≤ (0 : Int32).toInt ∧ (0 : Int32).toInt ≤ 1) by omega)⟩, CB.mk ht hP hD⟩, hS.F ht⟩) hS.2.2 dX11_isText_19
  · skip
    have c6 := i_nlt (Eq.refl p2.toInt) (show (0 : Int32).toInt = 0 by decide) c6
    refine lv_iload_n hx hb dX11_isText_4 rfl (lv_at hl 2 rfl) ?_
    refine lv_aload_n hx hb dX11_isText_5 rfl (lv_at hl 0 rfl) ?_
    refine va_get (D := D) (ci := 11) (v := .ref (a 4)) (C := RX11) (T := TX11) (N := 49) hx hb hg inGX11 hown hKN.1 hP 0 rfl rfl 4 (by decide) (hg _ kw_1212) (fun _ h9 => h9) rfl dX11_isText_6 ?_
    refine lv_iload_n hx hb dX11_isText_9 rfl (lv_at hl 1 rfl) ?_
    refine va_iald hx hb hKN.1 hP 4 0 rfl rfl (show ¬ ((1 : Int32) < 0 ∨ 3 ≤ (1 : Int32).toNatClampNeg) by decide) dX11_isText_10 ?_
    refine lv_topi (fun v7 ev7 => ?_)
    have ev7 : v7 = (F 4) 1 := ev7
    have kv7 := TX_t hk0 (i := 1) (by decide) (by decide)
    have kv7 : 0 ≤ ((F 4) 1).toInt ∧ ((F 4) 1).toInt ≤ 6 := kv7
    have qv7 := congrArg Int32.toInt ev7
    refine lv_icmp_ge (tgt := 18) hx hb dX11_isText_11 (by decide) (fun c9 => ?_) (fun c9 => ?_)
    · skip
      have c9 := i_le (Eq.refl v7.toInt) (Eq.refl p2.toInt) c9
      refine lv_iconst (v := 0) hx hb dX11_isText_18 (by decide) ?_
      refine W.widen (k := 0) (n := 0) (Nat.le_of_ble_eq_true rfl) (Nat.le_of_ble_eq_true rfl) ?_
      have zi1 : (1 : Int32).toInt = 1 := by decide
      have zi0 : (0 : Int32).toInt = 0 := by decide
      exact W.zret (v := 0) hx hb hr (by decide) (fun t ht hW => ⟨⟨0, rfl, ⟨(show ((0 ≤ p2.toInt ∧ p2.toInt ≤ 5 ∧ p2.toInt < ((F 4) 1).toInt ∧ (0 : Int32).toInt = 1) ∨ (0 : Int32).toInt = 0) by omega), (show (0 ≤ (0 : Int32).toInt ∧ (0 : Int32).toInt ≤ 1) by omega)⟩, CB.mk ht hP hD⟩, hS.F ht⟩) hS.2.2 dX11_isText_19
    · skip
      have c9 := i_nle (Eq.refl v7.toInt) (Eq.refl p2.toInt) c9
      refine lv_iconst (v := 1) hx hb dX11_isText_14 (by decide) ?_
      refine lv_goto (tgt := 19) hx hb dX11_isText_15 (by decide) ?_
      refine W.widen (k := 0) (n := 0) (Nat.le_of_ble_eq_true rfl) (Nat.le_of_ble_eq_true rfl) ?_
      have zi1 : (1 : Int32).toInt = 1 := by decide
      exact W.zret (v := 1) hx hb hr (by decide) (fun t ht hW => ⟨⟨1, rfl, ⟨(show ((0 ≤ p2.toInt ∧ p2.toInt ≤ 5 ∧ p2.toInt < ((F 4) 1).toInt ∧ (1 : Int32).toInt = 1) ∨ (1 : Int32).toInt = 0) by omega), (show (0 ≤ (1 : Int32).toInt ∧ (1 : Int32).toInt ≤ 1) by omega)⟩, CB.mk ht hP hD⟩, hS.F ht⟩) hS.2.2 dX11_isText_19
set_option maxHeartbeats 4000000 in
set_option maxRecDepth 100000 in
theorem m_isText2 (l : Launch) (D : va_G) (Y : Nat → ClassId) (Z : Nat → Nat) (sz : Nat) (o : Nat) (a : Nat → Nat) (I : Nat → Int32) (J : Nat → Int64) (F : Nat → Nat → Int32) (G : Nat → Nat → Int64) (p2 : Int32) (hk0 : TX (F 4) (F 9) (F 10) (F 11) (F 12) (F 13)) : Met l yX11_isText (.code yX11_isText cX11_isText 3 (some .boolean) :: GW) ({ frames := 0, cells := 0, slots := 0, locals := 0 }) (va_Pc [.ref o, .int 2, .int p2] (CP D Y Z (MW Y o a I J F G) sz)) (QG (S := Int32) (fun u => some (.int u)) (fun u => ((0 ≤ p2.toInt ∧ p2.toInt ≤ 5 ∧ p2.toInt < ((F 4) 2).toInt ∧ u.toInt = 1) ∨ u.toInt = 0) ∧ (0 ≤ u.toInt ∧ u.toInt ≤ 1)) (fun u => CB D (MW Y o a I J F G) (va_A (MW Y o a I J F G) sz)) (va_A (MW Y o a I J F G) sz)) 0 0 (va_A (MW Y o a I J F G) sz) := by
  refine Met.ofW (cc := cX11_isText) (maxL := 3) (ret := (some .boolean)) (by decide) rfl ?_
  intro p e s m args below meth c s₁ B hml hv
  obtain ⟨rfl, hsz, hP, hKN, hD0⟩ := hv
  have hx := B.exec
  have hb := B.bytes
  have hr := B.returns
  have hts := atoms_spec (ws := .code yX11_isText cX11_isText 3 (some .boolean) :: GW) B.pre
  have hg : ∀ w ∈ GW, w.before _ s = true := fun w h => hts w (List.mem_cons_of_mem _ h)
  have hown : s.vm.findClass RX11 = some m.cls := findClass_of_methodNamed B.named
  have hlocks := B.notSynchronized
  subst hsz
  have hD := hD0.self (sz := s.heap.size)
  generalize hAe : va_A (MW Y o a I J F G) s.heap.size = A at hD ⊢
  have hA : ∀ q : Nat, s.heap.size ≤ q → A q := fun q h => by rw [← hAe]; exact Or.inr h
  clear hAe hD0 hts B
  have hl := lv_entry ([.ref o, .int 2, .int p2]) (n := 3) (Nat.le_of_ble_eq_true rfl)
  rw [lg_entry_eq]
  generalize (lg_sl ([.ref o, .int 2, .int p2]) ++ List.replicate (3 - (lg_sl ([.ref o, .int 2, .int p2])).length) Slot.unset).toArray = ls at hl ⊢
  have hl : lv_has ls 3 [(0, .ref o), (1, .int 2), (2, .int p2)] := hl
  refine w_start (A0 := A) hP (fun H locs hP hS => ?_)
  refine lv_iload_n hx hb dX11_isText_0 rfl (lv_at hl 2 rfl) ?_
  have j5 := rgI p2
  refine lv_if_lt (tgt := 18) hx hb dX11_isText_1 (by decide) (fun c6 => ?_) (fun c6 => ?_)
  · skip
    have c6 := i_lt (Eq.refl p2.toInt) (show (0 : Int32).toInt = 0 by decide) c6
    refine lv_iconst (v := 0) hx hb dX11_isText_18 (by decide) ?_
    refine W.widen (k := 0) (n := 0) (Nat.le_of_ble_eq_true rfl) (Nat.le_of_ble_eq_true rfl) ?_
    have zi2 : (2 : Int32).toInt = 2 := by decide
    have zi0 : (0 : Int32).toInt = 0 := by decide
    exact W.zret (v := 0) hx hb hr (by decide) (fun t ht hW => ⟨⟨0, rfl, ⟨(show ((0 ≤ p2.toInt ∧ p2.toInt ≤ 5 ∧ p2.toInt < ((F 4) 2).toInt ∧ (0 : Int32).toInt = 1) ∨ (0 : Int32).toInt = 0) by omega), (show (0 ≤ (0 : Int32).toInt ∧ (0 : Int32).toInt ≤ 1) by omega)⟩, CB.mk ht hP hD⟩, hS.F ht⟩) hS.2.2 dX11_isText_19
  · skip
    have c6 := i_nlt (Eq.refl p2.toInt) (show (0 : Int32).toInt = 0 by decide) c6
    refine lv_iload_n hx hb dX11_isText_4 rfl (lv_at hl 2 rfl) ?_
    refine lv_aload_n hx hb dX11_isText_5 rfl (lv_at hl 0 rfl) ?_
    refine va_get (D := D) (ci := 11) (v := .ref (a 4)) (C := RX11) (T := TX11) (N := 49) hx hb hg inGX11 hown hKN.1 hP 0 rfl rfl 4 (by decide) (hg _ kw_1212) (fun _ h9 => h9) rfl dX11_isText_6 ?_
    refine lv_iload_n hx hb dX11_isText_9 rfl (lv_at hl 1 rfl) ?_
    refine va_iald hx hb hKN.1 hP 4 0 rfl rfl (show ¬ ((2 : Int32) < 0 ∨ 3 ≤ (2 : Int32).toNatClampNeg) by decide) dX11_isText_10 ?_
    refine lv_topi (fun v7 ev7 => ?_)
    have ev7 : v7 = (F 4) 2 := ev7
    have kv7 := TX_t hk0 (i := 2) (by decide) (by decide)
    have kv7 : 0 ≤ ((F 4) 2).toInt ∧ ((F 4) 2).toInt ≤ 6 := kv7
    have qv7 := congrArg Int32.toInt ev7
    refine lv_icmp_ge (tgt := 18) hx hb dX11_isText_11 (by decide) (fun c9 => ?_) (fun c9 => ?_)
    · skip
      have c9 := i_le (Eq.refl v7.toInt) (Eq.refl p2.toInt) c9
      refine lv_iconst (v := 0) hx hb dX11_isText_18 (by decide) ?_
      refine W.widen (k := 0) (n := 0) (Nat.le_of_ble_eq_true rfl) (Nat.le_of_ble_eq_true rfl) ?_
      have zi2 : (2 : Int32).toInt = 2 := by decide
      have zi0 : (0 : Int32).toInt = 0 := by decide
      exact W.zret (v := 0) hx hb hr (by decide) (fun t ht hW => ⟨⟨0, rfl, ⟨(show ((0 ≤ p2.toInt ∧ p2.toInt ≤ 5 ∧ p2.toInt < ((F 4) 2).toInt ∧ (0 : Int32).toInt = 1) ∨ (0 : Int32).toInt = 0) by omega), (show (0 ≤ (0 : Int32).toInt ∧ (0 : Int32).toInt ≤ 1) by omega)⟩, CB.mk ht hP hD⟩, hS.F ht⟩) hS.2.2 dX11_isText_19
    · skip
      have c9 := i_nle (Eq.refl v7.toInt) (Eq.refl p2.toInt) c9
      refine lv_iconst (v := 1) hx hb dX11_isText_14 (by decide) ?_
      refine lv_goto (tgt := 19) hx hb dX11_isText_15 (by decide) ?_
      refine W.widen (k := 0) (n := 0) (Nat.le_of_ble_eq_true rfl) (Nat.le_of_ble_eq_true rfl) ?_
      have zi2 : (2 : Int32).toInt = 2 := by decide
      have zi1 : (1 : Int32).toInt = 1 := by decide
      exact W.zret (v := 1) hx hb hr (by decide) (fun t ht hW => ⟨⟨1, rfl, ⟨(show ((0 ≤ p2.toInt ∧ p2.toInt ≤ 5 ∧ p2.toInt < ((F 4) 2).toInt ∧ (1 : Int32).toInt = 1) ∨ (1 : Int32).toInt = 0) by omega), (show (0 ≤ (1 : Int32).toInt ∧ (1 : Int32).toInt ≤ 1) by omega)⟩, CB.mk ht hP hD⟩, hS.F ht⟩) hS.2.2 dX11_isText_19
set_option maxHeartbeats 4000000 in
set_option maxRecDepth 100000 in
theorem m_seeks (l : Launch) (D : va_G) (Y : Nat → ClassId) (Z : Nat → Nat) (sz : Nat) (o : Nat) (a : Nat → Nat) (I : Nat → Int32) (J : Nat → Int64) (F : Nat → Nat → Int32) (G : Nat → Nat → Int64) (p1 : Int32) (hk_0 : (0 ≤ p1.toInt ∧ p1.toInt ≤ 5)) (hk_1 : (p1.toInt < ((F 4) 1).toInt)) (hk_2 : (0 ≤ (I 29).toInt ∧ (I 29).toInt ≤ 600)) (hk_3 : (-60000000 ≤ (J 30).toInt ∧ (J 30).toInt ≤ 60000000)) (hk_4 : (1 ≤ (J 31).toInt)) (hk0 : LB (F 28)) (hk1 : TX (F 4) (F 9) (F 10) (F 11) (F 12) (F 13)) : Met l yX11_seeks (.code yX11_seeks cX11_seeks 7 (some .boolean) :: GW) ({ frames := 5, cells := 0, slots := 0, locals := 120 }) (va_Pc [.ref o, .int p1] (CP D Y Z (MW Y o a I J F G) sz)) (QG (S := Int32 × Int32 × Int32 × Int32 × Int32 × Int64 × Int64 × (Nat → Int64) × (Nat → Int32) × (Nat → Int64) × (Nat → Int32)) (fun u => some (.int u.1)) (fun u => ((u.1.toInt = 1 ∧ 1 ≤ u.2.2.2.2.2.2.1.toInt ∧ 2 ≤ u.2.1.toInt ∧ u.2.1.toInt ≤ 200 ∧ 1 ≤ u.2.2.1.toInt ∧ u.2.2.1.toInt ≤ 10 ∧ 0 ≤ u.2.2.2.1.toInt ∧ u.2.2.2.1.toInt < u.2.1.toInt ∧ -9000000000000 ≤ u.2.2.2.2.2.1.toInt ∧ u.2.2.2.2.2.1.toInt ≤ 9000000000000 ∧ (cin (F 28) (u.2.1.toInt).toNat (u.2.2.1.toInt).toNat (u.2.2.2.1.toInt).toNat 600 : Int) ≠ (I 29).toInt) ∨ u.1.toInt = 0) ∧ (0 ≤ u.1.toInt ∧ u.1.toInt ≤ 1)) (fun u => CB D (MW Y o a (upd (upd (upd (upd I 34 u.2.1) 35 u.2.2.1) 36 u.2.2.2.1) 39 u.2.2.2.2.1) (vp_updL (vp_updL J 37 u.2.2.2.2.2.1) 38 u.2.2.2.2.2.2.1) (vf_upd (vf_upd F 41 u.2.2.2.2.2.2.2.2.1) 43 u.2.2.2.2.2.2.2.2.2.2) (vf_upd (vf_upd G 40 u.2.2.2.2.2.2.2.1) 42 u.2.2.2.2.2.2.2.2.2.1)) (va_A (MW Y o a I J F G) sz)) (va_A (MW Y o a I J F G) sz)) 0 0 (va_A (MW Y o a I J F G) sz) := by
  refine Met.ofW (cc := cX11_seeks) (maxL := 7) (ret := (some .boolean)) (by decide) rfl ?_
  intro p e s m args below meth c s₁ B hml hv
  obtain ⟨rfl, hsz, hP, hKN, hD0⟩ := hv
  have hx := B.exec
  have hb := B.bytes
  have hr := B.returns
  have hts := atoms_spec (ws := .code yX11_seeks cX11_seeks 7 (some .boolean) :: GW) B.pre
  have hg : ∀ w ∈ GW, w.before _ s = true := fun w h => hts w (List.mem_cons_of_mem _ h)
  have hown : s.vm.findClass RX11 = some m.cls := findClass_of_methodNamed B.named
  have hlocks := B.notSynchronized
  subst hsz
  have hD := hD0.self (sz := s.heap.size)
  generalize hAe : va_A (MW Y o a I J F G) s.heap.size = A at hD ⊢
  have hA : ∀ q : Nat, s.heap.size ≤ q → A q := fun q h => by rw [← hAe]; exact Or.inr h
  clear hAe hD0 hts B
  have hl := lv_entry ([.ref o, .int p1]) (n := 7) (Nat.le_of_ble_eq_true rfl)
  rw [lg_entry_eq]
  generalize (lg_sl ([.ref o, .int p1]) ++ List.replicate (7 - (lg_sl ([.ref o, .int p1])).length) Slot.unset).toArray = ls at hl ⊢
  have hl : lv_has ls 7 [(0, .ref o), (1, .int p1)] := hl
  refine w_start (A0 := A) hP (fun H locs hP hS => ?_)
  refine lv_bipush (v := 6) hx hb dX11_seeks_0 (by decide) ?_
  refine lv_iload_n hx hb dX11_seeks_2 rfl (lv_at hl 1 rfl) ?_
  refine lv_iadd hx hb dX11_seeks_3 ?_
  refine lv_topi (fun v1 ev1 => ?_)
  have hv1 := i_add (show (6 : Int32).toInt = 6 by decide) (Eq.refl p1.toInt) ev1 (by omega) (by omega)
  refine lv_istore_n (lv' := [(2, .int v1), (0, .ref o), (1, .int p1)]) hx hb dX11_seeks_4 rfl hl (by decide) rfl (fun ls hl => ?_)
  refine lv_aload_n hx hb dX11_seeks_5 rfl (lv_at hl 1 rfl) ?_
  refine lv_lconst (v := 0) hx hb dX11_seeks_6 (by decide) ?_
  refine va_put (D := D) (ci := 11) (v := .long 0) (ty := .long) (C := RX11) (T := TX11) (N := 49) hx hb hg inGX11 tyX11 tyX11_ok nmX11 hown hKN.1 hP hD hS 0 rfl rfl 38 (by decide) (hg _ kw_1246) (fun _ h9 => h9) rfl (by decide +kernel) rfl rfl (Nat.le_of_ble_eq_true rfl) dX11_seeks_7 (fun H locs hP hD hS => ?_)
  have hP : va_P D vwCl (MW Y o a I (vp_updL J 38 0) F G) H := hP
  have hD : va_D A (MW Y o a I (vp_updL J 38 0) F G) := hD
  refine lv_aload_n hx hb dX11_seeks_10 rfl (lv_at hl 1 rfl) ?_
  refine va_get (D := D) (ci := 11) (v := .ref (a 10)) (C := RX11) (T := TX11) (N := 49) hx hb hg inGX11 hown hKN.1 hP 0 rfl rfl 10 (by decide) (hg _ kw_1218) (fun _ h9 => h9) rfl dX11_seeks_11 ?_
  refine lv_iload_n hx hb dX11_seeks_14 rfl (lv_at hl 0 rfl) ?_
  refine va_iald hx hb hKN.1 hP 10 0 rfl rfl (vp_in_iff.mpr ⟨by omega, by omega⟩) dX11_seeks_15 ?_
  refine lv_topi (fun v2 ev2 => ?_)
  have ev2 : v2 = (F 10) v1.toNatClampNeg := ev2
  have kv2 := TX_s hk1 (i := v1) p1.toInt (by omega) (by omega) (by omega)
  have qv2 := congrArg Int32.toInt ev2
  refine lv_istore_n (lv' := [(3, .int v2), (2, .int v1), (0, .ref o), (1, .int p1)]) hx hb dX11_seeks_16 rfl hl (by decide) rfl (fun ls hl => ?_)
  have zl0 : (0 : Int64).toInt = 0 := by decide
  refine w_loop (σ := Int32 × Int32 × Int32 × Int32 × Int64 × Int64 × Int32 × (Nat → Int64) × (Nat → Int32) × (Nat → Int64) × (Nat → Int32)) (fun xx H locs ls => match xx with | (g4126, g4127, g4128, g4129, g4130, g4131, g4132, f4133, f4134, f4135, f4136) => va_P D vwCl (MW Y o a (upd (upd (upd (upd I 34 g4127) 35 g4128) 36 g4129) 39 g4132) (vp_updL (vp_updL J 37 g4130) 38 g4131) (vf_upd (vf_upd F 41 f4134) 43 f4136) (vf_upd (vf_upd G 40 f4133) 42 f4135)) H ∧ va_D A (MW Y o a (upd (upd (upd (upd I 34 g4127) 35 g4128) 36 g4129) 39 g4132) (vp_updL (vp_updL J 37 g4130) 38 g4131) (vf_upd (vf_upd F 41 f4134) 43 f4136) (vf_upd (vf_upd G 40 f4133) 42 f4135)) ∧ va_S A s.heap H locs ∧ lv_has ls 7 [(3, .int g4126), (2, .int v1), (0, .ref o), (1, .int p1)] ∧ (2 ≤ g4126.toInt ∧ g4126.toInt ≤ 201) ∧ ((g4131.toInt ≤ 0 ∨ (2 ≤ g4127.toInt ∧ g4127.toInt ≤ 200 ∧ 1 ≤ g4128.toInt ∧ g4128.toInt ≤ 10 ∧ 0 ≤ g4129.toInt ∧ g4129.toInt < g4127.toInt ∧ -9000000000000 ≤ g4130.toInt ∧ g4130.toInt ≤ 9000000000000 ∧ (cin (F 28) (g4127.toInt).toNat (g4128.toInt).toNat (g4129.toInt).toNat 600 : Int) ≠ (I 29).toInt)))) (fun xx => match xx with | (g4126, g4127, g4128, g4129, g4130, g4131, g4132, f4133, f4134, f4135, f4136) => (201 - g4126.toInt).toNat) (v2, (I 34), (I 35), (I 36), (J 37), 0, (I 39), (G 40), (F 41), (G 42), (F 43)) ⟨hP, hD, hS, lv_sub hl [0, 1, 2, 3] rfl, by omega, by omega⟩ (fun xx H locs ls hI ih => ?_)
  obtain ⟨g4126, g4127, g4128, g4129, g4130, g4131, g4132, f4133, f4134, f4135, f4136⟩ := xx
  obtain ⟨hP, hD, hS, hl, hq8260, hq8261⟩ := hI
  have ih8262 := ih
  refine lv_iload_n hx hb dX11_seeks_17 rfl (lv_at hl 0 rfl) ?_
  refine lv_aload_n hx hb dX11_seeks_18 rfl (lv_at hl 2 rfl) ?_
  refine va_get (D := D) (ci := 11) (v := .ref (a 11)) (C := RX11) (T := TX11) (N := 49) hx hb hg inGX11 hown hKN.1 hP 0 rfl rfl 11 (by decide) (hg _ kw_1219) (fun _ h9 => h9) rfl dX11_seeks_19 ?_
  refine lv_iload_n hx hb dX11_seeks_22 rfl (lv_at hl 1 rfl) ?_
  refine va_iald hx hb hKN.1 hP 11 0 rfl rfl (vp_in_iff.mpr ⟨by omega, by omega⟩) dX11_seeks_23 ?_
  refine lv_topi (fun v8263 ev8263 => ?_)
  have ev8263 : v8263 = (F 11) v1.toNatClampNeg := ev8263
  have kv8263 := TX_s hk1 (i := v1) p1.toInt (by omega) (by omega) (by omega)
  have qv8263 := congrArg Int32.toInt ev8263
  have j10325 := rgI v8263
  refine lv_icmp_gt (tgt := 145) hx hb dX11_seeks_24 (by decide) (fun c10326 => ?_) (fun c10326 => ?_)
  · skip
    have c10326 := i_lt (Eq.refl v8263.toInt) (Eq.refl g4126.toInt) c10326
    refine lv_aload_n hx hb dX11_seeks_145 rfl (lv_at hl 2 rfl) ?_
    refine va_get (D := D) (ci := 11) (v := .long g4131) (C := RX11) (T := TX11) (N := 49) hx hb hg inGX11 hown hKN.1 hP 0 rfl rfl 38 (by decide) (hg _ kw_1246) (fun _ h9 => h9) rfl dX11_seeks_146 ?_
    refine lv_lconst (v := 0) hx hb dX11_seeks_149 (by decide) ?_
    refine W.lcmp hx hb dX11_seeks_150 ?_
    refine lv_if_le (tgt := 158) hx hb dX11_seeks_151 (by decide) (fun c10328 => ?_) (fun c10328 => ?_)
    · skip
      have c10328 := l_le (Eq.refl g4131.toInt) (show (0 : Int64).toInt = 0 by decide) c10328
      refine lv_iconst (v := 0) hx hb dX11_seeks_158 (by decide) ?_
      refine W.widen (k := 0) (n := 0) (Nat.le_of_ble_eq_true rfl) (Nat.le_of_ble_eq_true rfl) ?_
      have zi0 : (0 : Int32).toInt = 0 := by decide
      exact W.zret (v := 0) hx hb hr (by decide) (fun t ht hW => ⟨⟨(0, g4127, g4128, g4129, g4132, g4130, g4131, f4133, f4134, f4135, f4136), rfl, ⟨(show (((0 : Int32).toInt = 1 ∧ 1 ≤ g4131.toInt ∧ 2 ≤ g4127.toInt ∧ g4127.toInt ≤ 200 ∧ 1 ≤ g4128.toInt ∧ g4128.toInt ≤ 10 ∧ 0 ≤ g4129.toInt ∧ g4129.toInt < g4127.toInt ∧ -9000000000000 ≤ g4130.toInt ∧ g4130.toInt ≤ 9000000000000 ∧ (cin (F 28) (g4127.toInt).toNat (g4128.toInt).toNat (g4129.toInt).toNat 600 : Int) ≠ (I 29).toInt) ∨ (0 : Int32).toInt = 0) by omega), (show (0 ≤ (0 : Int32).toInt ∧ (0 : Int32).toInt ≤ 1) by omega)⟩, CB.mk ht hP hD⟩, hS.F ht⟩) hS.2.2 dX11_seeks_159
    · skip
      have c10328 := l_nle (Eq.refl g4131.toInt) (show (0 : Int64).toInt = 0 by decide) c10328
      refine lv_iconst (v := 1) hx hb dX11_seeks_154 (by decide) ?_
      refine lv_goto (tgt := 159) hx hb dX11_seeks_155 (by decide) ?_
      refine W.widen (k := 0) (n := 0) (Nat.le_of_ble_eq_true rfl) (Nat.le_of_ble_eq_true rfl) ?_
      have zi1 : (1 : Int32).toInt = 1 := by decide
      exact W.zret (v := 1) hx hb hr (by decide) (fun t ht hW => ⟨⟨(1, g4127, g4128, g4129, g4132, g4130, g4131, f4133, f4134, f4135, f4136), rfl, ⟨(show (((1 : Int32).toInt = 1 ∧ 1 ≤ g4131.toInt ∧ 2 ≤ g4127.toInt ∧ g4127.toInt ≤ 200 ∧ 1 ≤ g4128.toInt ∧ g4128.toInt ≤ 10 ∧ 0 ≤ g4129.toInt ∧ g4129.toInt < g4127.toInt ∧ -9000000000000 ≤ g4130.toInt ∧ g4130.toInt ≤ 9000000000000 ∧ (cin (F 28) (g4127.toInt).toNat (g4128.toInt).toNat (g4129.toInt).toNat 600 : Int) ≠ (I 29).toInt) ∨ (1 : Int32).toInt = 0) by omega), (show (0 ≤ (1 : Int32).toInt ∧ (1 : Int32).toInt ≤ 1) by omega)⟩, CB.mk ht hP hD⟩, hS.F ht⟩) hS.2.2 dX11_seeks_159
  · skip
    have c10326 := i_nlt (Eq.refl v8263.toInt) (Eq.refl g4126.toInt) c10326
    refine lv_aload_n hx hb dX11_seeks_27 rfl (lv_at hl 2 rfl) ?_
    refine lv_iload_n hx hb dX11_seeks_28 rfl (lv_at hl 0 rfl) ?_
    refine cga (rn_V (As := [.int g4126]) (rest := []) (b := o) (m_rests l D Y Z H.size o a (upd (upd (upd (upd I 34 g4127) 35 g4128) 36 g4129) 39 g4132) (vp_updL (vp_updL J 37 g4130) 38 g4131) (vf_upd (vf_upd F 41 f4134) 43 f4136) (vf_upd (vf_upd G 40 f4133) 42 f4135)  g4126 (show (2 ≤ g4126.toInt ∧ g4126.toInt ≤ 200) by omega) hk0) ⟨hx, hb, hml, hown, hg⟩ lk_X11_473 ⟨CP.blind, va_recv hKN.1 hP (ci := 11) (q0 := 0) rfl rfl, CP.at hP hKN hD⟩ ⟨⟨rfl, rfl⟩, ⟨Nat.le_of_ble_eq_true rfl, Nat.le_of_ble_eq_true rfl⟩, ⟨Nat.le_of_ble_eq_true rfl, Nat.le_of_ble_eq_true rfl⟩⟩ hl.1 rfl (Nat.le_of_ble_eq_true rfl) dX11_seeks_29) hP hD hS hA (fun u10329 H locs w10330 hP hD hS => ?_)
    obtain ⟨f10331, f10332, f10333, f10334⟩ := u10329
    have w10330 : RX (F 28) f10332 f10331 (g4126.toInt).toNat 600 ∧ WX (F 28) f10334 f10333 (g4126.toInt).toNat 0 1 := w10330
    obtain ⟨hw10335, hw10336⟩ := w10330
    refine W.eq (g2 := F0 m 32 ls []) rfl ?_
    have hP : va_P D vwCl (MW Y o a (upd (upd (upd (upd I 34 g4127) 35 g4128) 36 g4129) 39 g4132) (vp_updL (vp_updL J 37 g4130) 38 g4131) (vf_upd (vf_upd F 41 f10332) 43 f10334) (vf_upd (vf_upd G 40 f10331) 42 f10333)) H := hP
    have hD : va_D A (MW Y o a (upd (upd (upd (upd I 34 g4127) 35 g4128) 36 g4129) 39 g4132) (vp_updL (vp_updL J 37 g4130) 38 g4131) (vf_upd (vf_upd F 41 f10332) 43 f10334) (vf_upd (vf_upd G 40 f10331) 42 f10333)) := hD
    refine lv_iconst (v := 1) hx hb dX11_seeks_32 (by decide) ?_
    refine lv_istore (lv' := [(4, .int 1), (3, .int g4126), (2, .int v1), (0, .ref o), (1, .int p1)]) hx hb dX11_seeks_33 hl (by decide) rfl (fun ls hl => ?_)
    have zi1 : (1 : Int32).toInt = 1 := by decide
    refine w_loop (σ := Int32 × Int32 × Int32 × Int32 × Int64 × Int64 × Int32 × (Nat → Int64) × (Nat → Int32)) (fun xx H locs ls => match xx with | (g11206, g11207, g11208, g11209, g11210, g11211, g11212, f11213, f11214) => va_P D vwCl (MW Y o a (upd (upd (upd (upd I 34 g11207) 35 g11208) 36 g11209) 39 g11212) (vp_updL (vp_updL J 37 g11210) 38 g11211) (vf_upd (vf_upd F 41 f10332) 43 f11214) (vf_upd (vf_upd G 40 f10331) 42 f11213)) H ∧ va_D A (MW Y o a (upd (upd (upd (upd I 34 g11207) 35 g11208) 36 g11209) 39 g11212) (vp_updL (vp_updL J 37 g11210) 38 g11211) (vf_upd (vf_upd F 41 f10332) 43 f11214) (vf_upd (vf_upd G 40 f10331) 42 f11213)) ∧ va_S A s.heap H locs ∧ lv_has ls 7 [(4, .int g11206), (3, .int g4126), (2, .int v1), (0, .ref o), (1, .int p1)] ∧ (1 ≤ g11206.toInt ∧ g11206.toInt ≤ 11) ∧ ((g11211.toInt ≤ 0 ∨ (2 ≤ g11207.toInt ∧ g11207.toInt ≤ 200 ∧ 1 ≤ g11208.toInt ∧ g11208.toInt ≤ 10 ∧ 0 ≤ g11209.toInt ∧ g11209.toInt < g11207.toInt ∧ -9000000000000 ≤ g11210.toInt ∧ g11210.toInt ≤ 9000000000000 ∧ (cin (F 28) (g11207.toInt).toNat (g11208.toInt).toNat (g11209.toInt).toNat 600 : Int) ≠ (I 29).toInt))) ∧ WX (F 28) f11214 f11213 (g4126.toInt).toNat 0 (g11206.toInt).toNat) (fun xx => match xx with | (g11206, g11207, g11208, g11209, g11210, g11211, g11212, f11213, f11214) => (11 - g11206.toInt).toNat) (1, g4127, g4128, g4129, g4130, g4131, g4132, f10333, f10334) ⟨hP, hD, hS, lv_sub hl [0, 1, 2, 3, 4] rfl, by omega, by omega, (WX_m hw10336 rfl (by omega))⟩ (fun xx H locs ls hI ih => ?_)
    obtain ⟨g11206, g11207, g11208, g11209, g11210, g11211, g11212, f11213, f11214⟩ := xx
    obtain ⟨hP, hD, hS, hl, hq11799, hq11800, hr11801⟩ := hI
    have ih11802 := ih
    refine lv_iload hx hb dX11_seeks_35 (lv_at hl 0 rfl) ?_
    refine lv_aload_n hx hb dX11_seeks_37 rfl (lv_at hl 3 rfl) ?_
    refine va_get (D := D) (ci := 11) (v := .ref (a 13)) (C := RX11) (T := TX11) (N := 49) hx hb hg inGX11 hown hKN.1 hP 0 rfl rfl 13 (by decide) (hg _ kw_1221) (fun _ h9 => h9) rfl dX11_seeks_38 ?_
    refine lv_iload_n hx hb dX11_seeks_41 rfl (lv_at hl 2 rfl) ?_
    refine va_iald hx hb hKN.1 hP 13 0 rfl rfl (vp_in_iff.mpr ⟨by omega, by omega⟩) dX11_seeks_42 ?_
    refine lv_topi (fun v11803 ev11803 => ?_)
    have ev11803 : v11803 = (F 13) v1.toNatClampNeg := ev11803
    have kv11803 := TX_s hk1 (i := v1) p1.toInt (by omega) (by omega) (by omega)
    have qv11803 := congrArg Int32.toInt ev11803
    refine w_join (σ := Unit) (pcJ := 139) (kJ := 0) (nJ := 0) (stk := fun xx => match xx with | _ => []) (fun xx H locs ls => match xx with | _ => va_P D vwCl (MW Y o a (upd (upd (upd (upd I 34 g11207) 35 g11208) 36 g11209) 39 g11212) (vp_updL (vp_updL J 37 g11210) 38 g11211) (vf_upd (vf_upd F 41 f10332) 43 f11214) (vf_upd (vf_upd G 40 f10331) 42 f11213)) H ∧ va_D A (MW Y o a (upd (upd (upd (upd I 34 g11207) 35 g11208) 36 g11209) 39 g11212) (vp_updL (vp_updL J 37 g11210) 38 g11211) (vf_upd (vf_upd F 41 f10332) 43 f11214) (vf_upd (vf_upd G 40 f10331) 42 f11213)) ∧ va_S A s.heap H locs ∧ lv_has ls 7 [(4, .int g11206), (3, .int g4126), (2, .int v1), (0, .ref o), (1, .int p1)]) (fun xx H locs ls hI => ?_) (fun jn12095 => ?_)
    · skip
      obtain ⟨hP, hD, hS, hl⟩ := hI
      refine W.eq (g2 := F0 m 139 ls []) rfl ?_
      obtain ⟨v12096, ev12096⟩ : ∃ y : Int32, y = g4126 + 1 := ⟨_, rfl⟩
      have hv12096 := i_add (Eq.refl g4126.toInt) (show (1 : Int32).toInt = 1 by decide) ev12096 (by omega) (by omega)
      refine lv_iinc (v := v12096) (lv' := [(3, .int v12096), (4, .int g11206), (2, .int v1), (0, .ref o), (1, .int p1)]) hx hb dX11_seeks_139 hl (k := 1) rfl (by rw [ev12096]; rfl) (by decide) rfl (fun ls hl => ?_)
      refine lv_goto (tgt := 17) hx hb dX11_seeks_142 (by decide) ?_
      exact ih8262 (v12096, g11207, g11208, g11209, g11210, g11211, g11212, f10331, f10332, f11213, f11214) H locs ls (by show (201 - v12096.toInt).toNat < (201 - g4126.toInt).toNat; omega) ⟨hP, hD, hS, lv_sub hl [0, 2, 3, 4] rfl, by omega, by omega⟩
    · skip
      have j12097 := rgI v11803
      refine lv_icmp_gt (tgt := 139) hx hb dX11_seeks_43 (by decide) (fun c12098 => ?_) (fun c12098 => ?_)
      · skip
        have c12098 := i_lt (Eq.refl v11803.toInt) (Eq.refl g11206.toInt) c12098
        refine W.widen (k := 0) (n := 0) (Nat.le_of_ble_eq_true rfl) (Nat.le_of_ble_eq_true rfl) ?_
        exact jn12095 (()) H locs ls ⟨hP, hD, hS, lv_sub hl [0, 1, 2, 3, 4] rfl⟩
      · skip
        have c12098 := i_nlt (Eq.refl v11803.toInt) (Eq.refl g11206.toInt) c12098
        refine lv_iload hx hb dX11_seeks_46 (lv_at hl 0 rfl) ?_
        refine lv_iload_n hx hb dX11_seeks_48 rfl (lv_at hl 1 rfl) ?_
        refine lv_icmp_ge (tgt := 139) hx hb dX11_seeks_49 (by decide) (fun c12099 => ?_) (fun c12099 => ?_)
        · skip
          have c12099 := i_le (Eq.refl g4126.toInt) (Eq.refl g11206.toInt) c12099
          refine W.widen (k := 0) (n := 0) (Nat.le_of_ble_eq_true rfl) (Nat.le_of_ble_eq_true rfl) ?_
          exact jn12095 (()) H locs ls ⟨hP, hD, hS, lv_sub hl [0, 1, 2, 3, 4] rfl⟩
        · skip
          have c12099 := i_nle (Eq.refl g4126.toInt) (Eq.refl g11206.toInt) c12099
          refine lv_iconst (v := 0) hx hb dX11_seeks_52 (by decide) ?_
          refine lv_istore (lv' := [(5, .int 0), (4, .int g11206), (3, .int g4126), (2, .int v1), (0, .ref o), (1, .int p1)]) hx hb dX11_seeks_53 hl (by decide) rfl (fun ls hl => ?_)
          have zi0 : (0 : Int32).toInt = 0 := by decide
          refine w_loop (σ := Int32 × Int32 × Int32 × Int32 × Int64 × Int64 × Int32 × (Nat → Int64) × (Nat → Int32)) (fun xx H locs ls => match xx with | (g12190, g12191, g12192, g12193, g12194, g12195, g12196, f12197, f12198) => va_P D vwCl (MW Y o a (upd (upd (upd (upd I 34 g12191) 35 g12192) 36 g12193) 39 g12196) (vp_updL (vp_updL J 37 g12194) 38 g12195) (vf_upd (vf_upd F 41 f10332) 43 f12198) (vf_upd (vf_upd G 40 f10331) 42 f12197)) H ∧ va_D A (MW Y o a (upd (upd (upd (upd I 34 g12191) 35 g12192) 36 g12193) 39 g12196) (vp_updL (vp_updL J 37 g12194) 38 g12195) (vf_upd (vf_upd F 41 f10332) 43 f12198) (vf_upd (vf_upd G 40 f10331) 42 f12197)) ∧ va_S A s.heap H locs ∧ lv_has ls 7 [(5, .int g12190), (4, .int g11206), (3, .int g4126), (2, .int v1), (0, .ref o), (1, .int p1)] ∧ (0 ≤ g12190.toInt ∧ g12190.toInt ≤ 200) ∧ ((g12195.toInt ≤ 0 ∨ (2 ≤ g12191.toInt ∧ g12191.toInt ≤ 200 ∧ 1 ≤ g12192.toInt ∧ g12192.toInt ≤ 10 ∧ 0 ≤ g12193.toInt ∧ g12193.toInt < g12191.toInt ∧ -9000000000000 ≤ g12194.toInt ∧ g12194.toInt ≤ 9000000000000 ∧ (cin (F 28) (g12191.toInt).toNat (g12192.toInt).toNat (g12193.toInt).toNat 600 : Int) ≠ (I 29).toInt))) ∧ WX (F 28) f12198 f12197 (g4126.toInt).toNat (g12190.toInt).toNat (g11206.toInt).toNat) (fun xx => match xx with | (g12190, g12191, g12192, g12193, g12194, g12195, g12196, f12197, f12198) => (200 - g12190.toInt).toNat) (0, g11207, g11208, g11209, g11210, g11211, g11212, f11213, f11214) ⟨hP, hD, hS, lv_sub hl [0, 1, 2, 3, 4, 5] rfl, by omega, by omega, (WX_m hr11801 (by omega) rfl)⟩ (fun xx H locs ls hI ih => ?_)
          obtain ⟨g12190, g12191, g12192, g12193, g12194, g12195, g12196, f12197, f12198⟩ := xx
          obtain ⟨hP, hD, hS, hl, hq12291, hq12292, hr12293⟩ := hI
          have ih12294 := ih
          refine lv_iload hx hb dX11_seeks_55 (lv_at hl 0 rfl) ?_
          refine lv_iload_n hx hb dX11_seeks_57 rfl (lv_at hl 2 rfl) ?_
          refine lv_icmp_ge (tgt := 133) hx hb dX11_seeks_58 (by decide) (fun c12341 => ?_) (fun c12341 => ?_)
          · skip
            have c12341 := i_le (Eq.refl g4126.toInt) (Eq.refl g12190.toInt) c12341
            obtain ⟨v12342, ev12342⟩ : ∃ y : Int32, y = g11206 + 1 := ⟨_, rfl⟩
            have hv12342 := i_add (Eq.refl g11206.toInt) (show (1 : Int32).toInt = 1 by decide) ev12342 (by omega) (by omega)
            refine lv_iinc (v := v12342) (lv' := [(4, .int v12342), (5, .int g12190), (3, .int g4126), (2, .int v1), (0, .ref o), (1, .int p1)]) hx hb dX11_seeks_133 hl (k := 1) rfl (by rw [ev12342]; rfl) (by decide) rfl (fun ls hl => ?_)
            refine lv_goto (tgt := 35) hx hb dX11_seeks_136 (by decide) ?_
            exact ih11802 (v12342, g12191, g12192, g12193, g12194, g12195, g12196, f12197, f12198) H locs ls (by show (11 - v12342.toInt).toNat < (11 - g11206.toInt).toNat; omega) ⟨hP, hD, hS, lv_sub hl [0, 2, 3, 4, 5] rfl, by omega, by omega, (WX_n hr12293 (by omega) rfl (by omega))⟩
          · skip
            have c12341 := i_nle (Eq.refl g4126.toInt) (Eq.refl g12190.toInt) c12341
            refine lv_iload hx hb dX11_seeks_61 (lv_at hl 0 rfl) ?_
            refine lv_iload hx hb dX11_seeks_63 (lv_at hl 1 rfl) ?_
            refine lv_iadd hx hb dX11_seeks_65 ?_
            refine lv_topi (fun v12343 ev12343 => ?_)
            have hv12343 := i_add (Eq.refl g12190.toInt) (Eq.refl g11206.toInt) ev12343 (by omega) (by omega)
            refine lv_iconst (v := 1) hx hb dX11_seeks_66 (by decide) ?_
            refine lv_isub hx hb dX11_seeks_67 ?_
            refine lv_topi (fun v12344 ev12344 => ?_)
            have hv12344 := i_sub (Eq.refl v12343.toInt) (show (1 : Int32).toInt = 1 by decide) ev12344 (by omega) (by omega)
            refine lv_iload_n hx hb dX11_seeks_68 rfl (lv_at hl 2 rfl) ?_
            refine lv_irem hx hb dX11_seeks_69 (i_nz (Eq.refl g4126.toInt) (by omega)) ?_
            refine lv_topi (fun v12345 ev12345 => ?_)
            have hv12345 := i_rem (Eq.refl v12344.toInt) (Eq.refl g4126.toInt) ev12345 (by omega) (by omega)
            refine lv_istore (lv' := [(6, .int v12345), (5, .int g12190), (4, .int g11206), (3, .int g4126), (2, .int v1), (0, .ref o), (1, .int p1)]) hx hb dX11_seeks_70 hl (by decide) rfl (fun ls hl => ?_)
            refine lv_aload_n hx hb dX11_seeks_72 rfl (lv_at hl 5 rfl) ?_
            refine va_get (D := D) (ci := 11) (v := .ref (a 42)) (C := RX11) (T := TX11) (N := 49) hx hb hg inGX11 hown hKN.1 hP 0 rfl rfl 42 (by decide) (hg _ kw_1250) (fun _ h9 => h9) rfl dX11_seeks_73 ?_
            refine lv_iload hx hb dX11_seeks_76 (lv_at hl 1 rfl) ?_
            refine lv_dup2_11 hx hb dX11_seeks_78 rfl rfl ?_
            refine va_lald hx hb hKN.1 hP 22 1 rfl rfl (vp_in_iff.mpr ⟨by omega, by omega⟩) dX11_seeks_79 ?_
            refine lv_topl (fun v12346 ev12346 => ?_)
            have ev12346 : v12346 = f12197 g12190.toNatClampNeg := ev12346
            have qv12346 := congrArg Int64.toInt ev12346
            have kv12346 := WX_g hr12293 (i := g12190) (by omega) (by omega) (by omega) (by omega)
            refine lv_aload_n hx hb dX11_seeks_80 rfl (lv_at hl 5 rfl) ?_
            refine va_get (D := D) (ci := 11) (v := .ref (a 40)) (C := RX11) (T := TX11) (N := 49) hx hb hg inGX11 hown hKN.1 hP 0 rfl rfl 40 (by decide) (hg _ kw_1248) (fun _ h9 => h9) rfl dX11_seeks_81 ?_
            refine lv_iload hx hb dX11_seeks_84 (lv_at hl 0 rfl) ?_
            refine va_lald hx hb hKN.1 hP 20 1 rfl rfl (vp_in_iff.mpr ⟨by omega, by omega⟩) dX11_seeks_86 ?_
            refine lv_topl (fun v12347 ev12347 => ?_)
            have ev12347 : v12347 = f10331 v12345.toNatClampNeg := ev12347
            have qv12347 := congrArg Int64.toInt ev12347
            have kv12347 := RX_g hw10335 (i := v12345) (by omega) (by omega)
            refine lv_ladd hx hb dX11_seeks_87 ?_
            refine lv_topl (fun v12348 ev12348 => ?_)
            have hv12348 := l_add (Eq.refl v12346.toInt) (Eq.refl v12347.toInt) ev12348 (by omega) (by omega)
            refine va_last hx hb hKN.1 hP hD hS 22 1 rfl rfl (vp_in_iff.mpr ⟨by omega, by omega⟩) dX11_seeks_88 (fun H locs hP hD hS => ?_)
            obtain ⟨f12349, ef12349, hP, hD⟩ : ∃ f12349 : Nat → Int64, f12349 = vp_updL f12197 g12190.toNatClampNeg v12348 ∧ va_P D vwCl (MW Y o a (upd (upd (upd (upd I 34 g12191) 35 g12192) 36 g12193) 39 g12196) (vp_updL (vp_updL J 37 g12194) 38 g12195) (vf_upd (vf_upd F 41 f10332) 43 f12198) (vf_upd (vf_upd G 40 f10331) 42 f12349)) H ∧ va_D A (MW Y o a (upd (upd (upd (upd I 34 g12191) 35 g12192) 36 g12193) 39 g12196) (vp_updL (vp_updL J 37 g12194) 38 g12195) (vf_upd (vf_upd F 41 f10332) 43 f12198) (vf_upd (vf_upd G 40 f10331) 42 f12349)) := ⟨_, rfl, hP, hD⟩
            refine lv_aload_n hx hb dX11_seeks_89 rfl (lv_at hl 5 rfl) ?_
            refine va_get (D := D) (ci := 11) (v := .ref (a 43)) (C := RX11) (T := TX11) (N := 49) hx hb hg inGX11 hown hKN.1 hP 0 rfl rfl 43 (by decide) (hg _ kw_1251) (fun _ h9 => h9) rfl dX11_seeks_90 ?_
            refine lv_iload hx hb dX11_seeks_93 (lv_at hl 1 rfl) ?_
            refine lv_dup2_11 hx hb dX11_seeks_95 rfl rfl ?_
            refine va_iald hx hb hKN.1 hP 23 0 rfl rfl (vp_in_iff.mpr ⟨by omega, by omega⟩) dX11_seeks_96 ?_
            refine lv_topi (fun v12350 ev12350 => ?_)
            have ev12350 : v12350 = f12198 g12190.toNatClampNeg := ev12350
            have qv12350 := congrArg Int32.toInt ev12350
            have kv12350 := WX_g hr12293 (i := g12190) (by omega) (by omega) (by omega) (by omega)
            refine lv_aload_n hx hb dX11_seeks_97 rfl (lv_at hl 5 rfl) ?_
            refine va_get (D := D) (ci := 11) (v := .ref (a 41)) (C := RX11) (T := TX11) (N := 49) hx hb hg inGX11 hown hKN.1 hP 0 rfl rfl 41 (by decide) (hg _ kw_1249) (fun _ h9 => h9) rfl dX11_seeks_98 ?_
            refine lv_iload hx hb dX11_seeks_101 (lv_at hl 0 rfl) ?_
            refine va_iald hx hb hKN.1 hP 21 0 rfl rfl (vp_in_iff.mpr ⟨by omega, by omega⟩) dX11_seeks_103 ?_
            refine lv_topi (fun v12351 ev12351 => ?_)
            have ev12351 : v12351 = f10332 v12345.toNatClampNeg := ev12351
            have qv12351 := congrArg Int32.toInt ev12351
            have kv12351 := RX_g hw10335 (i := v12345) (by omega) (by omega)
            refine lv_iadd hx hb dX11_seeks_104 ?_
            refine lv_topi (fun v12352 ev12352 => ?_)
            have hv12352 := i_add (Eq.refl v12350.toInt) (Eq.refl v12351.toInt) ev12352 (by omega) (by omega)
            refine va_iast hx hb hKN.1 hP hD hS 23 0 rfl rfl (vp_in_iff.mpr ⟨by omega, by omega⟩) dX11_seeks_105 (fun H locs hP hD hS => ?_)
            obtain ⟨f12353, ef12353, hP, hD⟩ : ∃ f12353 : Nat → Int32, f12353 = upd f12198 g12190.toNatClampNeg v12352 ∧ va_P D vwCl (MW Y o a (upd (upd (upd (upd I 34 g12191) 35 g12192) 36 g12193) 39 g12196) (vp_updL (vp_updL J 37 g12194) 38 g12195) (vf_upd (vf_upd F 41 f10332) 43 f12353) (vf_upd (vf_upd G 40 f10331) 42 f12349)) H ∧ va_D A (MW Y o a (upd (upd (upd (upd I 34 g12191) 35 g12192) 36 g12193) 39 g12196) (vp_updL (vp_updL J 37 g12194) 38 g12195) (vf_upd (vf_upd F 41 f10332) 43 f12353) (vf_upd (vf_upd G 40 f10331) 42 f12349)) := ⟨_, rfl, hP, hD⟩
            have t12354 := WX_s (i := g12190) (r := v12345) (j := g12190.toInt + 1) hr12293 hw10335 (by omega) (by omega) (by omega) (rem_eq hv12345.1 (by omega) (by omega)) rfl ef12349 ef12353 (by omega) (by omega)
            have t12355 := WX_t (i := g12190) t12354 rfl (by omega) (by omega) (by omega)
            refine lv_iload hx hb dX11_seeks_106 (lv_at hl 2 rfl) ?_
            refine lv_aload_n hx hb dX11_seeks_108 rfl (lv_at hl 5 rfl) ?_
            refine va_get (D := D) (ci := 11) (v := .ref (a 12)) (C := RX11) (T := TX11) (N := 49) hx hb hg inGX11 hown hKN.1 hP 0 rfl rfl 12 (by decide) (hg _ kw_1220) (fun _ h9 => h9) rfl dX11_seeks_109 ?_
            refine lv_iload_n hx hb dX11_seeks_112 rfl (lv_at hl 4 rfl) ?_
            refine va_iald hx hb hKN.1 hP 12 0 rfl rfl (vp_in_iff.mpr ⟨by omega, by omega⟩) dX11_seeks_113 ?_
            refine lv_topi (fun v12356 ev12356 => ?_)
            have ev12356 : v12356 = (F 12) v1.toNatClampNeg := ev12356
            have kv12356 := TX_s hk1 (i := v1) p1.toInt (by omega) (by omega) (by omega)
            have qv12356 := congrArg Int32.toInt ev12356
            refine w_join (σ := Int32 × Int32 × Int32 × Int64 × Int64 × Int32) (pcJ := 127) (kJ := 0) (nJ := 0) (stk := fun xx => match xx with | (g12368, g12369, g12370, g12371, g12372, g12373) => []) (fun xx H locs ls => match xx with | (g12368, g12369, g12370, g12371, g12372, g12373) => va_P D vwCl (MW Y o a (upd (upd (upd (upd I 34 g12368) 35 g12369) 36 g12370) 39 g12373) (vp_updL (vp_updL J 37 g12371) 38 g12372) (vf_upd (vf_upd F 41 f10332) 43 f12353) (vf_upd (vf_upd G 40 f10331) 42 f12349)) H ∧ va_D A (MW Y o a (upd (upd (upd (upd I 34 g12368) 35 g12369) 36 g12370) 39 g12373) (vp_updL (vp_updL J 37 g12371) 38 g12372) (vf_upd (vf_upd F 41 f10332) 43 f12353) (vf_upd (vf_upd G 40 f10331) 42 f12349)) ∧ va_S A s.heap H locs ∧ lv_has ls 7 [(6, .int v12345), (5, .int g12190), (4, .int g11206), (3, .int g4126), (2, .int v1), (0, .ref o), (1, .int p1)] ∧ ((g12372.toInt ≤ 0 ∨ (2 ≤ g12368.toInt ∧ g12368.toInt ≤ 200 ∧ 1 ≤ g12369.toInt ∧ g12369.toInt ≤ 10 ∧ 0 ≤ g12370.toInt ∧ g12370.toInt < g12368.toInt ∧ -9000000000000 ≤ g12371.toInt ∧ g12371.toInt ≤ 9000000000000 ∧ (cin (F 28) (g12368.toInt).toNat (g12369.toInt).toNat (g12370.toInt).toNat 600 : Int) ≠ (I 29).toInt)))) (fun xx H locs ls hI => ?_) (fun jn12374 => ?_)
            · skip
              obtain ⟨g12368, g12369, g12370, g12371, g12372, g12373⟩ := xx
              obtain ⟨hP, hD, hS, hl, hq12375⟩ := hI
              refine W.eq (g2 := F0 m 127 ls []) rfl ?_
              obtain ⟨v12376, ev12376⟩ : ∃ y : Int32, y = g12190 + 1 := ⟨_, rfl⟩
              have hv12376 := i_add (Eq.refl g12190.toInt) (show (1 : Int32).toInt = 1 by decide) ev12376 (by omega) (by omega)
              refine lv_iinc (v := v12376) (lv' := [(5, .int v12376), (6, .int v12345), (4, .int g11206), (3, .int g4126), (2, .int v1), (0, .ref o), (1, .int p1)]) hx hb dX11_seeks_127 hl (k := 1) rfl (by rw [ev12376]; rfl) (by decide) rfl (fun ls hl => ?_)
              refine lv_goto (tgt := 55) hx hb dX11_seeks_130 (by decide) ?_
              exact ih12294 (v12376, g12368, g12369, g12370, g12371, g12372, g12373, f12349, f12353) H locs ls (by show (200 - v12376.toInt).toNat < (200 - g12190.toInt).toNat; omega) ⟨hP, hD, hS, lv_sub hl [0, 2, 3, 4, 5, 6] rfl, by omega, by omega, (WX_m t12354 (by omega) rfl)⟩
            · skip
              have j12377 := rgI v12356
              refine lv_icmp_lt (tgt := 127) hx hb dX11_seeks_114 (by decide) (fun c12378 => ?_) (fun c12378 => ?_)
              · skip
                have c12378 := i_lt (Eq.refl g11206.toInt) (Eq.refl v12356.toInt) c12378
                refine W.widen (k := 0) (n := 0) (Nat.le_of_ble_eq_true rfl) (Nat.le_of_ble_eq_true rfl) ?_
                exact jn12374 (g12191, g12192, g12193, g12194, g12195, g12196) H locs ls ⟨hP, hD, hS, lv_sub hl [0, 1, 2, 3, 4, 5, 6] rfl, by omega⟩
              · skip
                have c12378 := i_nlt (Eq.refl g11206.toInt) (Eq.refl v12356.toInt) c12378
                refine lv_aload_n hx hb dX11_seeks_117 rfl (lv_at hl 5 rfl) ?_
                refine lv_iload_n hx hb dX11_seeks_118 rfl (lv_at hl 4 rfl) ?_
                refine lv_iload_n hx hb dX11_seeks_119 rfl (lv_at hl 3 rfl) ?_
                refine lv_iload hx hb dX11_seeks_120 (lv_at hl 2 rfl) ?_
                refine lv_iload hx hb dX11_seeks_122 (lv_at hl 1 rfl) ?_
                refine cga (rn_V (As := [.int v1, .int g4126, .int g11206, .int g12190]) (rest := []) (b := o) (m_tries l D Y Z H.size o a (upd (upd (upd (upd I 34 g12191) 35 g12192) 36 g12193) 39 g12196) (vp_updL (vp_updL J 37 g12194) 38 g12195) (vf_upd (vf_upd F 41 f10332) 43 f12353) (vf_upd (vf_upd G 40 f10331) 42 f12349)  v1 g4126 g11206 g12190 (show (6 ≤ v1.toInt ∧ v1.toInt ≤ 11) by omega) (show (2 ≤ g4126.toInt ∧ g4126.toInt ≤ 200) by omega) (show (1 ≤ g11206.toInt ∧ g11206.toInt ≤ 10) by omega) (show (0 ≤ g12190.toInt ∧ g12190.toInt ≤ 199) by omega) (show (g12190.toInt < g4126.toInt) by omega) (show (0 ≤ (I 29).toInt ∧ (I 29).toInt ≤ 600) by omega) (show (-60000000 ≤ (J 30).toInt ∧ (J 30).toInt ≤ 60000000) by omega) (show (1 ≤ (J 31).toInt) by omega) (show ((f12353 g12190.toNatClampNeg).toInt = (wsum (F 28) (g4126.toInt).toNat (g12190.toInt).toNat 600 (g11206.toInt).toNat : Int)) by omega) (show (g11206.toInt < g4126.toInt) by omega) (show (0 ≤ (f12353 g12190.toNatClampNeg).toInt ∧ (f12353 g12190.toNatClampNeg).toInt ≤ 6000) by omega) (show (-600000000 ≤ (f12349 g12190.toNatClampNeg).toInt ∧ (f12349 g12190.toNatClampNeg).toInt ≤ 600000000) by omega) (show ((g12195.toInt ≤ 0 ∨ (2 ≤ g12191.toInt ∧ g12191.toInt ≤ 200 ∧ 1 ≤ g12192.toInt ∧ g12192.toInt ≤ 10 ∧ 0 ≤ g12193.toInt ∧ g12193.toInt < g12191.toInt ∧ -9000000000000 ≤ g12194.toInt ∧ g12194.toInt ≤ 9000000000000 ∧ (cin (F 28) (g12191.toInt).toNat (g12192.toInt).toNat (g12193.toInt).toNat 600 : Int) ≠ (I 29).toInt))) by omega)) ⟨hx, hb, hml, hown, hg⟩ lk_X11_476 ⟨CP.blind, va_recv hKN.1 hP (ci := 11) (q0 := 0) rfl rfl, CP.at hP hKN hD⟩ ⟨⟨rfl, rfl⟩, ⟨Nat.le_of_ble_eq_true rfl, Nat.le_of_ble_eq_true rfl⟩, ⟨Nat.le_of_ble_eq_true rfl, Nat.le_of_ble_eq_true rfl⟩⟩ hl.1 rfl (Nat.le_of_ble_eq_true rfl) dX11_seeks_124) hP hD hS hA (fun u12379 H locs w12380 hP hD hS => ?_)
                obtain ⟨u12381, u12382, u12383, u12384, u12385, u12386⟩ := u12379
                have w12380 : ((u12386.toInt ≤ 0 ∨ (2 ≤ u12381.toInt ∧ u12381.toInt ≤ 200 ∧ 1 ≤ u12382.toInt ∧ u12382.toInt ≤ 10 ∧ 0 ≤ u12383.toInt ∧ u12383.toInt < u12381.toInt ∧ -9000000000000 ≤ u12385.toInt ∧ u12385.toInt ≤ 9000000000000 ∧ (cin (F 28) (u12381.toInt).toNat (u12382.toInt).toNat (u12383.toInt).toNat 600 : Int) ≠ (I 29).toInt))) := w12380
                have hw12387 := w12380
                refine W.eq (g2 := F0 m 127 ls []) rfl ?_
                have hP : va_P D vwCl (MW Y o a (upd (upd (upd (upd I 34 u12381) 35 u12382) 36 u12383) 39 u12384) (vp_updL (vp_updL J 37 u12385) 38 u12386) (vf_upd (vf_upd F 41 f10332) 43 f12353) (vf_upd (vf_upd G 40 f10331) 42 f12349)) H := hP
                have hD : va_D A (MW Y o a (upd (upd (upd (upd I 34 u12381) 35 u12382) 36 u12383) 39 u12384) (vp_updL (vp_updL J 37 u12385) 38 u12386) (vf_upd (vf_upd F 41 f10332) 43 f12353) (vf_upd (vf_upd G 40 f10331) 42 f12349)) := hD
                refine W.widen (k := 0) (n := 0) (Nat.le_of_ble_eq_true rfl) (Nat.le_of_ble_eq_true rfl) ?_
                exact jn12374 (u12381, u12382, u12383, u12385, u12386, u12384) H locs ls ⟨hP, hD, hS, lv_sub hl [0, 1, 2, 3, 4, 5, 6] rfl, by omega⟩
