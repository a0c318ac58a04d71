set_option maxHeartbeats 4000000 in
set_option maxRecDepth 100000 in
theorem m_candidateK (l : Launch) (D : va_G) (Y : Nat → ClassId) (Z : Nat → Nat) (sz : Nat) (o : Nat) (a : Nat → Nat) (I : Nat → Int32) (J : Nat → Int64) (F : Nat → Nat → Int32) (G : Nat → Nat → Int64) (p1 : Int32) (p2 : Int32) (p3 : Int32) (hk0 : TO (F 0)) (hk1 : KT (F 0) (F 0)) : Met l yX11_candidate (.code yX11_candidate cX11_candidate 5 (some .int) :: GW) ({ frames := 1, cells := 0, slots := 0, locals := 25 }) (va_Pc [.ref o, .int p1, .int p2, .int p3] (CP D Y Z (MW Y o a I J F G) sz)) (QG (S := Int32 × (Nat → Int32)) (fun u => some (.int u.1)) (fun u => TO u.2 ∧ KO1 2 (F 0) u.2) (fun u => CB D (MW Y o a I J (vf_upd F 0 u.2) G) (va_A (MW Y o a I J F G) sz)) (va_A (MW Y o a I J F G) sz)) 0 0 (va_A (MW Y o a I J F G) sz) := by
  refine Met.ofW (cc := cX11_candidate) (maxL := 5) (ret := (some .int)) (by decide) rfl ?_
  intro p e s m args below meth c s₁ B hml hv
  obtain ⟨rfl, hsz, hP, hKN, hD0⟩ := hv
  have hx := B.exec
  have hb := B.bytes
  have hr := B.returns
  have hts := atoms_spec (ws := .code yX11_candidate cX11_candidate 5 (some .int) :: GW) B.pre
  have hg : ∀ w ∈ GW, w.before _ s = true := fun w h => hts w (List.mem_cons_of_mem _ h)
  have hown : s.vm.findClass RX11 = some m.cls := findClass_of_methodNamed B.named
  have hlocks := B.notSynchronized
  subst hsz
  have hD := hD0.self (sz := s.heap.size)
  generalize hAe : va_A (MW Y o a I J F G) s.heap.size = A at hD ⊢
  have hA : ∀ q : Nat, s.heap.size ≤ q → A q := fun q h => by rw [← hAe]; exact Or.inr h
  clear hAe hD0 hts B
  have hl := lv_entry ([.ref o, .int p1, .int p2, .int p3]) (n := 5) (Nat.le_of_ble_eq_true rfl)
  rw [lg_entry_eq]
  generalize (lg_sl ([.ref o, .int p1, .int p2, .int p3]) ++ List.replicate (5 - (lg_sl ([.ref o, .int p1, .int p2, .int p3])).length) Slot.unset).toArray = ls at hl ⊢
  have hl : lv_has ls 5 [(0, .ref o), (1, .int p1), (2, .int p2), (3, .int p3)] := hl
  refine w_start (A0 := A) hP (fun H locs hP hS => ?_)
  refine lv_aload_n hx hb dX11_candidate_0 rfl (lv_at hl 0 rfl) ?_
  refine va_get (D := D) (ci := 11) (v := .ref (a 0)) (C := RX11) (T := TX11) (N := 49) hx hb hg inGX11 hown hKN.1 hP 0 rfl rfl 0 (by decide) (hg _ kw_1208) (fun _ h9 => h9) rfl dX11_candidate_1 ?_
  refine lv_iconst (v := 2) hx hb dX11_candidate_4 (by decide) ?_
  refine va_iald hx hb hKN.1 hP 1 0 rfl rfl (show ¬ ((2 : Int32) < 0 ∨ 7533 ≤ (2 : Int32).toNatClampNeg) by decide) dX11_candidate_5 ?_
  refine lv_topi (fun v1 ev1 => ?_)
  have ev1 : v1 = (F 0) 2 := ev1
  have kv1 := TO_2 hk0
  rw [← ev1] at kv1
  have qv1 := congrArg Int32.toInt ev1
  refine lv_bipush (v := 12) hx hb dX11_candidate_6 (by decide) ?_
  refine lv_icmp_eq (tgt := 43) hx hb dX11_candidate_8 (by decide) (fun c2 => ?_) (fun c2 => ?_)
  · skip
    have c2 := i_eq (Eq.refl v1.toInt) (show (12 : Int32).toInt = 12 by decide) c2
    refine lv_iconst (v := (-1)) hx hb dX11_candidate_43 (by decide) ?_
    refine W.widen (k := 0) (n := 0) (Nat.le_of_ble_eq_true rfl) (Nat.le_of_ble_eq_true rfl) ?_
    have zim1 : ((-1) : Int32).toInt = -1 := by decide
    exact W.iret (v := (-1)) hx hb hr (fun t ht hW => ⟨⟨((-1), (F 0)), rfl, ⟨hk0, (show KO1 2 (F 0) (F 0) from ⟨_, KT.ku hk1⟩)⟩, CB.mk ht hP hD⟩, hS.F ht⟩) hS.2.2 dX11_candidate_44
  · skip
    have c2 := i_ne (Eq.refl v1.toInt) (show (12 : Int32).toInt = 12 by decide) c2
    refine lv_aload_n hx hb dX11_candidate_11 rfl (lv_at hl 0 rfl) ?_
    refine lv_iload_n hx hb dX11_candidate_12 rfl (lv_at hl 1 rfl) ?_
    refine cga (rn_V (As := [.int p1]) (rest := []) (b := o) (m_isStar l D Y Z H.size o a I J F G  p1 hk0) ⟨hx, hb, hml, hown, hg⟩ lk_X11_108 ⟨CP.blind, va_recv hKN.1 hP (ci := 11) (q0 := 0) rfl rfl, CP.at hP hKN hD⟩ ⟨⟨rfl, rfl⟩, ⟨Nat.le_of_ble_eq_true rfl, Nat.le_of_ble_eq_true rfl⟩, ⟨Nat.le_of_ble_eq_true rfl, Nat.le_of_ble_eq_true rfl⟩⟩ hl.1 rfl (Nat.le_of_ble_eq_true rfl) dX11_candidate_13) hP hD hS hA (fun u3 H locs w4 hP hD hS => ?_)
    obtain ⟨hw6, hw7⟩ : ((0 ≤ p1.toInt ∧ p1.toInt ≤ 11 ∧ p1.toInt < ((F 0) 0).toInt ∧ u3.toInt = 1) ∨ (¬ (0 ≤ p1.toInt ∧ p1.toInt < ((F 0) 0).toInt) ∧ u3.toInt = 0)) ∧ (0 ≤ u3.toInt ∧ u3.toInt ≤ 1) := w4
    refine W.eq (g2 := F0 m 16 ls [.int u3]) rfl ?_
    have hP : va_P D vwCl (MW Y o a I J F G) H := hP
    have hD : va_D A (MW Y o a I J F G) := hD
    rcases (show u3.toInt = 1 ∨ u3.toInt = 0 by omega) with c8 | c8
    · obtain rfl : u3 = 1 := i_is c8 (by decide)
      have zi1 : (1 : Int32).toInt = 1 := by decide
      refine W.eq (g2 := F0 m 16 ls [.int 1]) rfl ?_
      refine lv_if_eq (tgt := 43) hx hb dX11_candidate_16 (by decide) (fun c9 => ?_) (fun c9 => ?_)
      · exact absurd c9 (by decide)
      refine lv_iload_n hx hb dX11_candidate_19 rfl (lv_at hl 2 rfl) ?_
      have j10 := rgI p2
      have j11 := Int32.toInt_toInt64 p2
      refine lv_i2l (v := p2.toInt64) hx hb dX11_candidate_20 (rfl) ?_
      refine lv_lconst (v := 1) hx hb dX11_candidate_21 (by decide) ?_
      refine lv_ldc2 (v := 99) hx hb hown (hg _ kw_1898) dX11_candidate_22 ?_
      have zl1 : (1 : Int64).toInt = 1 := by decide
      have zl99 : (99 : Int64).toInt = 99 := by decide
      refine cg0 (rn_S (As := [.long p2.toInt64, .long 1, .long 99]) (rest := []) (m_in l D Y Z H.size   p2.toInt64 1 99 ) ⟨hx, hb, hml, hown, hg⟩ lk_X11_99 ⟨CP.blind, CP.at nilP hKN (nilD (A := fun _ => True))⟩ ⟨⟨rfl, rfl⟩, ⟨Nat.le_of_ble_eq_true rfl, Nat.le_of_ble_eq_true rfl⟩, ⟨Nat.le_of_ble_eq_true rfl, Nat.le_of_ble_eq_true rfl⟩⟩ hl.1 rfl (Nat.le_of_ble_eq_true rfl) dX11_candidate_25) hP hS hA (fun u12 H locs w13 hP hS => ?_)
      obtain ⟨hw15, hw16⟩ : (((1 : Int64).toInt ≤ p2.toInt64.toInt ∧ p2.toInt64.toInt ≤ (99 : Int64).toInt ∧ u12.toInt = 1) ∨ (¬ ((1 : Int64).toInt ≤ p2.toInt64.toInt ∧ p2.toInt64.toInt ≤ (99 : Int64).toInt) ∧ u12.toInt = 0)) ∧ (0 ≤ u12.toInt ∧ u12.toInt ≤ 1) := w13
      refine W.eq (g2 := F0 m 28 ls [.int u12]) rfl ?_
      rcases (show u12.toInt = 1 ∨ u12.toInt = 0 by omega) with c17 | c17
      · obtain rfl : u12 = 1 := i_is c17 (by decide)
        refine W.eq (g2 := F0 m 28 ls [.int 1]) rfl ?_
        refine lv_if_eq (tgt := 43) hx hb dX11_candidate_28 (by decide) (fun c18 => ?_) (fun c18 => ?_)
        · exact absurd c18 (by decide)
        refine lv_iload_n hx hb dX11_candidate_31 rfl (lv_at hl 3 rfl) ?_
        have j19 := rgI p3
        have j20 := Int32.toInt_toInt64 p3
        refine lv_i2l (v := p3.toInt64) hx hb dX11_candidate_32 (rfl) ?_
        refine lv_lconst (v := 0) hx hb dX11_candidate_33 (by decide) ?_
        refine lv_ldc2 (v := 9999) hx hb hown (hg _ kw_1899) dX11_candidate_34 ?_
        have zl0 : (0 : Int64).toInt = 0 := by decide
        have zl9999 : (9999 : Int64).toInt = 9999 := by decide
        refine cg0 (rn_S (As := [.long p3.toInt64, .long 0, .long 9999]) (rest := []) (m_in l D Y Z H.size   p3.toInt64 0 9999 ) ⟨hx, hb, hml, hown, hg⟩ lk_X11_99 ⟨CP.blind, CP.at nilP hKN (nilD (A := fun _ => True))⟩ ⟨⟨rfl, rfl⟩, ⟨Nat.le_of_ble_eq_true rfl, Nat.le_of_ble_eq_true rfl⟩, ⟨Nat.le_of_ble_eq_true rfl, Nat.le_of_ble_eq_true rfl⟩⟩ hl.1 rfl (Nat.le_of_ble_eq_true rfl) dX11_candidate_37) hP hS hA (fun u21 H locs w22 hP hS => ?_)
        obtain ⟨hw24, hw25⟩ : (((0 : Int64).toInt ≤ p3.toInt64.toInt ∧ p3.toInt64.toInt ≤ (9999 : Int64).toInt ∧ u21.toInt = 1) ∨ (¬ ((0 : Int64).toInt ≤ p3.toInt64.toInt ∧ p3.toInt64.toInt ≤ (9999 : Int64).toInt) ∧ u21.toInt = 0)) ∧ (0 ≤ u21.toInt ∧ u21.toInt ≤ 1) := w22
        refine W.eq (g2 := F0 m 40 ls [.int u21]) rfl ?_
        rcases (show u21.toInt = 1 ∨ u21.toInt = 0 by omega) with c26 | c26
        · obtain rfl : u21 = 1 := i_is c26 (by decide)
          refine W.eq (g2 := F0 m 40 ls [.int 1]) rfl ?_
          refine lv_if_ne (tgt := 45) hx hb dX11_candidate_40 (by decide) (fun c27 => ?_) (fun c27 => ?_)
          rotate_left
          · exact absurd c27 (by decide)
          refine lv_sipush (v := 279) hx hb dX11_candidate_45 (by decide) ?_
          refine lv_iconst (v := 3) hx hb dX11_candidate_48 (by decide) ?_
          refine lv_aload_n hx hb dX11_candidate_49 rfl (lv_at hl 0 rfl) ?_
          refine va_get (D := D) (ci := 11) (v := .ref (a 0)) (C := RX11) (T := TX11) (N := 49) hx hb hg inGX11 hown hKN.1 hP 0 rfl rfl 0 (by decide) (hg _ kw_1208) (fun _ h9 => h9) rfl dX11_candidate_50 ?_
          refine lv_iconst (v := 2) hx hb dX11_candidate_53 (by decide) ?_
          refine va_iald hx hb hKN.1 hP 1 0 rfl rfl (show ¬ ((2 : Int32) < 0 ∨ 7533 ≤ (2 : Int32).toNatClampNeg) by decide) dX11_candidate_54 ?_
          refine lv_topi (fun v28 ev28 => ?_)
          have ev28 : v28 = (F 0) 2 := ev28
          have kv28 := TO_2 hk0
          rw [← ev28] at kv28
          have qv28 := congrArg Int32.toInt ev28
          refine lv_imul hx hb dX11_candidate_55 ?_
          refine lv_topi (fun v29 ev29 => ?_)
          have hv29 := i_mul (show (3 : Int32).toInt = 3 by decide) (Eq.refl v28.toInt) ev29 (by omega) (by omega)
          refine lv_iadd hx hb dX11_candidate_56 ?_
          refine lv_topi (fun v30 ev30 => ?_)
          have hv30 := i_add (show (279 : Int32).toInt = 279 by decide) (Eq.refl v29.toInt) ev30 (by omega) (by omega)
          refine lv_istore (lv' := [(4, .int v30), (0, .ref o), (1, .int p1), (2, .int p2), (3, .int p3)]) hx hb dX11_candidate_57 hl (by decide) rfl (fun ls hl => ?_)
          refine lv_aload_n hx hb dX11_candidate_59 rfl (lv_at hl 1 rfl) ?_
          refine va_get (D := D) (ci := 11) (v := .ref (a 0)) (C := RX11) (T := TX11) (N := 49) hx hb hg inGX11 hown hKN.1 hP 0 rfl rfl 0 (by decide) (hg _ kw_1208) (fun _ h9 => h9) rfl dX11_candidate_60 ?_
          refine lv_iload hx hb dX11_candidate_63 (lv_at hl 0 rfl) ?_
          refine lv_iload_n hx hb dX11_candidate_65 rfl (lv_at hl 2 rfl) ?_
          refine va_iast hx hb hKN.1 hP hD hS 1 0 rfl rfl (vp_in_iff.mpr ⟨by omega, by omega⟩) dX11_candidate_66 (fun H locs hP hD hS => ?_)
          obtain ⟨f31, ef31, hP, hD⟩ : ∃ f31 : Nat → Int32, f31 = upd (F 0) v30.toNatClampNeg p1 ∧ va_P D vwCl (MW Y o a I J (vf_upd F 0 f31) G) H ∧ va_D A (MW Y o a I J (vf_upd F 0 f31) G) := ⟨_, rfl, hP, hD⟩
          have ct32 := clampI (x := v30) (by omega)
          have t32 : TO f31 := by rw [ef31]; exact TO_set hk0 (by unfold trow; omega) (by omega) (by omega) (by omega) (by omega)
          have ct33 := clampI (x := v30) (by omega)
          have t33 : KT (F 0) f31 := KT_set hk1 ef31 (by omega) (by omega) (by omega) (by omega) (by omega)
          have t34 : (f31 (2)).toInt = ((F 0) (2)).toInt := by rw [ef31, up_ne (by omega)]
          refine lv_aload_n hx hb dX11_candidate_67 rfl (lv_at hl 1 rfl) ?_
          refine va_get (D := D) (ci := 11) (v := .ref (a 0)) (C := RX11) (T := TX11) (N := 49) hx hb hg inGX11 hown hKN.1 hP 0 rfl rfl 0 (by decide) (hg _ kw_1208) (fun _ h9 => h9) rfl dX11_candidate_68 ?_
          refine lv_iload hx hb dX11_candidate_71 (lv_at hl 0 rfl) ?_
          refine lv_iconst (v := 1) hx hb dX11_candidate_73 (by decide) ?_
          refine lv_iadd hx hb dX11_candidate_74 ?_
          refine lv_topi (fun v35 ev35 => ?_)
          have hv35 := i_add (Eq.refl v30.toInt) (show (1 : Int32).toInt = 1 by decide) ev35 (by omega) (by omega)
          refine lv_iload_n hx hb dX11_candidate_75 rfl (lv_at hl 3 rfl) ?_
          refine va_iast hx hb hKN.1 hP hD hS 1 0 rfl rfl (vp_in_iff.mpr ⟨by omega, by omega⟩) dX11_candidate_76 (fun H locs hP hD hS => ?_)
          obtain ⟨f36, ef36, hP, hD⟩ : ∃ f36 : Nat → Int32, f36 = upd f31 v35.toNatClampNeg p2 ∧ va_P D vwCl (MW Y o a I J (vf_upd F 0 f36) G) H ∧ va_D A (MW Y o a I J (vf_upd F 0 f36) G) := ⟨_, rfl, hP, hD⟩
          have ct37 := clampI (x := v35) (by omega)
          have t37 : TO f36 := by rw [ef36]; exact TO_set t32 (by unfold trow; omega) (by omega) (by omega) (by omega) (by omega)
          have ct38 := clampI (x := v35) (by omega)
          have t38 : KT (F 0) f36 := KT_set t33 ef36 (by omega) (by omega) (by omega) (by omega) (by omega)
          have t39 : (f36 (2)).toInt = (f31 (2)).toInt := by rw [ef36, up_ne (by omega)]
          refine lv_aload_n hx hb dX11_candidate_77 rfl (lv_at hl 1 rfl) ?_
          refine va_get (D := D) (ci := 11) (v := .ref (a 0)) (C := RX11) (T := TX11) (N := 49) hx hb hg inGX11 hown hKN.1 hP 0 rfl rfl 0 (by decide) (hg _ kw_1208) (fun _ h9 => h9) rfl dX11_candidate_78 ?_
          refine lv_iload hx hb dX11_candidate_81 (lv_at hl 0 rfl) ?_
          refine lv_iconst (v := 2) hx hb dX11_candidate_83 (by decide) ?_
          refine lv_iadd hx hb dX11_candidate_84 ?_
          refine lv_topi (fun v40 ev40 => ?_)
          have hv40 := i_add (Eq.refl v30.toInt) (show (2 : Int32).toInt = 2 by decide) ev40 (by omega) (by omega)
          refine lv_iload_n hx hb dX11_candidate_85 rfl (lv_at hl 4 rfl) ?_
          refine va_iast hx hb hKN.1 hP hD hS 1 0 rfl rfl (vp_in_iff.mpr ⟨by omega, by omega⟩) dX11_candidate_86 (fun H locs hP hD hS => ?_)
          obtain ⟨f41, ef41, hP, hD⟩ : ∃ f41 : Nat → Int32, f41 = upd f36 v40.toNatClampNeg p3 ∧ va_P D vwCl (MW Y o a I J (vf_upd F 0 f41) G) H ∧ va_D A (MW Y o a I J (vf_upd F 0 f41) G) := ⟨_, rfl, hP, hD⟩
          have ct42 := clampI (x := v40) (by omega)
          have t42 : TO f41 := by rw [ef41]; exact TO_set t37 (by unfold trow; omega) (by omega) (by omega) (by omega) (by omega)
          have ct43 := clampI (x := v40) (by omega)
          have t43 : KT (F 0) f41 := KT_set t38 ef41 (by omega) (by omega) (by omega) (by omega) (by omega)
          have t44 : (f41 (2)).toInt = (f36 (2)).toInt := by rw [ef41, up_ne (by omega)]
          refine lv_aload_n hx hb dX11_candidate_87 rfl (lv_at hl 1 rfl) ?_
          refine va_get (D := D) (ci := 11) (v := .ref (a 0)) (C := RX11) (T := TX11) (N := 49) hx hb hg inGX11 hown hKN.1 hP 0 rfl rfl 0 (by decide) (hg _ kw_1208) (fun _ h9 => h9) rfl dX11_candidate_88 ?_
          refine lv_iconst (v := 2) hx hb dX11_candidate_91 (by decide) ?_
          refine lv_dup2_11 hx hb dX11_candidate_92 rfl rfl ?_
          refine va_iald hx hb hKN.1 hP 1 0 rfl rfl (show ¬ ((2 : Int32) < 0 ∨ 7533 ≤ (2 : Int32).toNatClampNeg) by decide) dX11_candidate_93 ?_
          refine lv_topi (fun v45 ev45 => ?_)
          have ev45 : v45 = f41 2 := ev45
          have kv45 := TO_2 t42
          rw [← ev45] at kv45
          have qv45 := congrArg Int32.toInt ev45
          refine lv_iconst (v := 1) hx hb dX11_candidate_94 (by decide) ?_
          refine lv_iadd hx hb dX11_candidate_95 ?_
          refine lv_topi (fun v46 ev46 => ?_)
          have hv46 := i_add (Eq.refl v45.toInt) (show (1 : Int32).toInt = 1 by decide) ev46 (by omega) (by omega)
          refine va_iast hx hb hKN.1 hP hD hS 1 0 rfl rfl (show ¬ ((2 : Int32) < 0 ∨ 7533 ≤ (2 : Int32).toNatClampNeg) by decide) dX11_candidate_96 (fun H locs hP hD hS => ?_)
          obtain ⟨f47, ef47, hP, hD⟩ : ∃ f47 : Nat → Int32, f47 = upd f41 2 v46 ∧ va_P D vwCl (MW Y o a I J (vf_upd F 0 f47) G) H ∧ va_D A (MW Y o a I J (vf_upd F 0 f47) G) := ⟨_, rfl, hP, hD⟩
          have t48 : TO f47 := by rw [ef47]; exact TO_set t42 (by unfold trow; omega) (by omega) (by omega) (by omega) (by omega)
          have t49 := KU_of (v := v46) (k := 2) t43 ef47
          refine lv_aload_n hx hb dX11_candidate_97 rfl (lv_at hl 1 rfl) ?_
          refine va_get (D := D) (ci := 11) (v := .ref (a 0)) (C := RX11) (T := TX11) (N := 49) hx hb hg inGX11 hown hKN.1 hP 0 rfl rfl 0 (by decide) (hg _ kw_1208) (fun _ h9 => h9) rfl dX11_candidate_98 ?_
          refine lv_iconst (v := 2) hx hb dX11_candidate_101 (by decide) ?_
          refine va_iald hx hb hKN.1 hP 1 0 rfl rfl (show ¬ ((2 : Int32) < 0 ∨ 7533 ≤ (2 : Int32).toNatClampNeg) by decide) dX11_candidate_102 ?_
          refine lv_topi (fun v50 ev50 => ?_)
          have ev50 : v50 = f47 2 := ev50
          have kv50 := TO_2 t48
          rw [← ev50] at kv50
          have qv50 := congrArg Int32.toInt ev50
          refine lv_iconst (v := 1) hx hb dX11_candidate_103 (by decide) ?_
          refine lv_isub hx hb dX11_candidate_104 ?_
          refine lv_topi (fun v51 ev51 => ?_)
          have hv51 := i_sub (Eq.refl v50.toInt) (show (1 : Int32).toInt = 1 by decide) ev51 (by omega) (by omega)
          refine W.widen (k := 0) (n := 0) (Nat.le_of_ble_eq_true rfl) (Nat.le_of_ble_eq_true rfl) ?_
          exact W.iret (v := v51) hx hb hr (fun t ht hW => ⟨⟨(v51, f47), rfl, ⟨t48, (show KO1 2 (F 0) f47 from ⟨_, t49⟩)⟩, CB.mk ht hP hD⟩, hS.F ht⟩) hS.2.2 dX11_candidate_105
        · obtain rfl : u21 = 0 := i_is c26 (by decide)
          have zi0 : (0 : Int32).toInt = 0 := by decide
          refine W.eq (g2 := F0 m 40 ls [.int 0]) rfl ?_
          refine lv_if_ne (tgt := 45) hx hb dX11_candidate_40 (by decide) (fun c52 => ?_) (fun c52 => ?_)
          · exact absurd c52 (by decide)
          refine lv_iconst (v := (-1)) hx hb dX11_candidate_43 (by decide) ?_
          refine W.widen (k := 0) (n := 0) (Nat.le_of_ble_eq_true rfl) (Nat.le_of_ble_eq_true rfl) ?_
          have zim1 : ((-1) : Int32).toInt = -1 := by decide
          exact W.iret (v := (-1)) hx hb hr (fun t ht hW => ⟨⟨((-1), (F 0)), rfl, ⟨hk0, (show KO1 2 (F 0) (F 0) from ⟨_, KT.ku hk1⟩)⟩, CB.mk ht hP hD⟩, hS.F ht⟩) hS.2.2 dX11_candidate_44
      · obtain rfl : u12 = 0 := i_is c17 (by decide)
        have zi0 : (0 : Int32).toInt = 0 := by decide
        refine W.eq (g2 := F0 m 28 ls [.int 0]) rfl ?_
        refine lv_if_eq (tgt := 43) hx hb dX11_candidate_28 (by decide) (fun c53 => ?_) (fun c53 => ?_)
        rotate_left
        · exact absurd c53 (by decide)
        refine lv_iconst (v := (-1)) hx hb dX11_candidate_43 (by decide) ?_
        refine W.widen (k := 0) (n := 0) (Nat.le_of_ble_eq_true rfl) (Nat.le_of_ble_eq_true rfl) ?_
        have zim1 : ((-1) : Int32).toInt = -1 := by decide
        exact W.iret (v := (-1)) hx hb hr (fun t ht hW => ⟨⟨((-1), (F 0)), rfl, ⟨hk0, (show KO1 2 (F 0) (F 0) from ⟨_, KT.ku hk1⟩)⟩, CB.mk ht hP hD⟩, hS.F ht⟩) hS.2.2 dX11_candidate_44
    · obtain rfl : u3 = 0 := i_is c8 (by decide)
      have zi0 : (0 : Int32).toInt = 0 := by decide
      refine W.eq (g2 := F0 m 16 ls [.int 0]) rfl ?_
      refine lv_if_eq (tgt := 43) hx hb dX11_candidate_16 (by decide) (fun c54 => ?_) (fun c54 => ?_)
      rotate_left
      · exact absurd c54 (by decide)
      refine lv_iconst (v := (-1)) hx hb dX11_candidate_43 (by decide) ?_
      refine W.widen (k := 0) (n := 0) (Nat.le_of_ble_eq_true rfl) (Nat.le_of_ble_eq_true rfl) ?_
      have zim1 : ((-1) : Int32).toInt = -1 := by decide
      exact W.iret (v := (-1)) hx hb hr (fun t ht hW => ⟨⟨((-1), (F 0)), rfl, ⟨hk0, (show KO1 2 (F 0) (F 0) from ⟨_, KT.ku hk1⟩)⟩, CB.mk ht hP hD⟩, hS.F ht⟩) hS.2.2 dX11_candidate_44
set_option maxHeartbeats 4000000 in
set_option maxRecDepth 100000 in
theorem m_worldK (l : Launch) (D : va_G) (Y : Nat → ClassId) (Z : Nat → Nat) (sz : Nat) (o : Nat) (a : Nat → Nat) (I : Nat → Int32) (J : Nat → Int64) (F : Nat → Nat → Int32) (G : Nat → Nat → Int64) (p1 : Int32) (p2 : Int32) (p3 : Int32) (p4 : Int32) (p5 : Int32) (p6 : Int32) (hk0 : TO (F 0)) (hk1 : KT (F 0) (F 0)) : Met l yX11_world (.code yX11_world cX11_world 8 (some .int) :: GW) ({ frames := 1, cells := 0, slots := 0, locals := 25 }) (va_Pc [.ref o, .int p1, .int p2, .int p3, .int p4, .int p5, .int p6] (CP D Y Z (MW Y o a I J F G) sz)) (QG (S := Int32 × (Nat → Int32)) (fun u => some (.int u.1)) (fun u => TO u.2 ∧ KO1 1 (F 0) u.2) (fun u => CB D (MW Y o a I J (vf_upd F 0 u.2) G) (va_A (MW Y o a I J F G) sz)) (va_A (MW Y o a I J F G) sz)) 0 0 (va_A (MW Y o a I J F G) sz) := by
  refine Met.ofW (cc := cX11_world) (maxL := 8) (ret := (some .int)) (by decide) rfl ?_
  intro p e s m args below meth c s₁ B hml hv
  obtain ⟨rfl, hsz, hP, hKN, hD0⟩ := hv
  have hx := B.exec
  have hb := B.bytes
  have hr := B.returns
  have hts := atoms_spec (ws := .code yX11_world cX11_world 8 (some .int) :: GW) B.pre
  have hg : ∀ w ∈ GW, w.before _ s = true := fun w h => hts w (List.mem_cons_of_mem _ h)
  have hown : s.vm.findClass RX11 = some m.cls := findClass_of_methodNamed B.named
  have hlocks := B.notSynchronized
  subst hsz
  have hD := hD0.self (sz := s.heap.size)
  generalize hAe : va_A (MW Y o a I J F G) s.heap.size = A at hD ⊢
  have hA : ∀ q : Nat, s.heap.size ≤ q → A q := fun q h => by rw [← hAe]; exact Or.inr h
  clear hAe hD0 hts B
  have hl := lv_entry ([.ref o, .int p1, .int p2, .int p3, .int p4, .int p5, .int p6]) (n := 8) (Nat.le_of_ble_eq_true rfl)
  rw [lg_entry_eq]
  generalize (lg_sl ([.ref o, .int p1, .int p2, .int p3, .int p4, .int p5, .int p6]) ++ List.replicate (8 - (lg_sl ([.ref o, .int p1, .int p2, .int p3, .int p4, .int p5, .int p6])).length) Slot.unset).toArray = ls at hl ⊢
  have hl : lv_has ls 8 [(0, .ref o), (1, .int p1), (2, .int p2), (3, .int p3), (4, .int p4), (5, .int p5), (6, .int p6)] := hl
  refine w_start (A0 := A) hP (fun H locs hP hS => ?_)
  refine lv_aload_n hx hb dX11_world_0 rfl (lv_at hl 0 rfl) ?_
  refine va_get (D := D) (ci := 11) (v := .ref (a 0)) (C := RX11) (T := TX11) (N := 49) hx hb hg inGX11 hown hKN.1 hP 0 rfl rfl 0 (by decide) (hg _ kw_1208) (fun _ h9 => h9) rfl dX11_world_1 ?_
  refine lv_iconst (v := 1) hx hb dX11_world_4 (by decide) ?_
  refine va_iald hx hb hKN.1 hP 1 0 rfl rfl (show ¬ ((1 : Int32) < 0 ∨ 7533 ≤ (1 : Int32).toNatClampNeg) by decide) dX11_world_5 ?_
  refine lv_topi (fun v1 ev1 => ?_)
  have ev1 : v1 = (F 0) 1 := ev1
  have kv1 := TO_1 hk0
  rw [← ev1] at kv1
  have qv1 := congrArg Int32.toInt ev1
  refine lv_bipush (v := 40) hx hb dX11_world_6 (by decide) ?_
  refine lv_icmp_eq (tgt := 77) hx hb dX11_world_8 (by decide) (fun c2 => ?_) (fun c2 => ?_)
  · skip
    have c2 := i_eq (Eq.refl v1.toInt) (show (40 : Int32).toInt = 40 by decide) c2
    refine lv_iconst (v := (-1)) hx hb dX11_world_77 (by decide) ?_
    refine W.widen (k := 0) (n := 0) (Nat.le_of_ble_eq_true rfl) (Nat.le_of_ble_eq_true rfl) ?_
    have zim1 : ((-1) : Int32).toInt = -1 := by decide
    exact W.iret (v := (-1)) hx hb hr (fun t ht hW => ⟨⟨((-1), (F 0)), rfl, ⟨hk0, (show KO1 1 (F 0) (F 0) from ⟨_, KT.ku hk1⟩)⟩, CB.mk ht hP hD⟩, hS.F ht⟩) hS.2.2 dX11_world_78
  · skip
    have c2 := i_ne (Eq.refl v1.toInt) (show (40 : Int32).toInt = 40 by decide) c2
    refine lv_aload_n hx hb dX11_world_11 rfl (lv_at hl 0 rfl) ?_
    refine lv_iload_n hx hb dX11_world_12 rfl (lv_at hl 1 rfl) ?_
    refine cga (rn_V (As := [.int p1]) (rest := []) (b := o) (m_isStar l D Y Z H.size o a I J F G  p1 hk0) ⟨hx, hb, hml, hown, hg⟩ lk_X11_108 ⟨CP.blind, va_recv hKN.1 hP (ci := 11) (q0 := 0) rfl rfl, CP.at hP hKN hD⟩ ⟨⟨rfl, rfl⟩, ⟨Nat.le_of_ble_eq_true rfl, Nat.le_of_ble_eq_true rfl⟩, ⟨Nat.le_of_ble_eq_true rfl, Nat.le_of_ble_eq_true rfl⟩⟩ hl.1 rfl (Nat.le_of_ble_eq_true rfl) dX11_world_13) hP hD hS hA (fun u3 H locs w4 hP hD hS => ?_)
    obtain ⟨hw6, hw7⟩ : ((0 ≤ p1.toInt ∧ p1.toInt ≤ 11 ∧ p1.toInt < ((F 0) 0).toInt ∧ u3.toInt = 1) ∨ (¬ (0 ≤ p1.toInt ∧ p1.toInt < ((F 0) 0).toInt) ∧ u3.toInt = 0)) ∧ (0 ≤ u3.toInt ∧ u3.toInt ≤ 1) := w4
    refine W.eq (g2 := F0 m 16 ls [.int u3]) rfl ?_
    have hP : va_P D vwCl (MW Y o a I J F G) H := hP
    have hD : va_D A (MW Y o a I J F G) := hD
    rcases (show u3.toInt = 1 ∨ u3.toInt = 0 by omega) with c8 | c8
    · obtain rfl : u3 = 1 := i_is c8 (by decide)
      have zi1 : (1 : Int32).toInt = 1 := by decide
      refine W.eq (g2 := F0 m 16 ls [.int 1]) rfl ?_
      refine lv_if_eq (tgt := 77) hx hb dX11_world_16 (by decide) (fun c9 => ?_) (fun c9 => ?_)
      · exact absurd c9 (by decide)
      refine lv_iload_n hx hb dX11_world_19 rfl (lv_at hl 2 rfl) ?_
      have j10 := rgI p2
      have j11 := Int32.toInt_toInt64 p2
      refine lv_i2l (v := p2.toInt64) hx hb dX11_world_20 (rfl) ?_
      refine lv_ldc2 (v := 2) hx hb hown (hg _ kw_1443) dX11_world_21 ?_
      refine lv_ldc2 (v := 599) hx hb hown (hg _ kw_1444) dX11_world_24 ?_
      have zl2 : (2 : Int64).toInt = 2 := by decide
      have zl599 : (599 : Int64).toInt = 599 := by decide
      refine cg0 (rn_S (As := [.long p2.toInt64, .long 2, .long 599]) (rest := []) (m_in l D Y Z H.size   p2.toInt64 2 599 ) ⟨hx, hb, hml, hown, hg⟩ lk_X11_99 ⟨CP.blind, CP.at nilP hKN (nilD (A := fun _ => True))⟩ ⟨⟨rfl, rfl⟩, ⟨Nat.le_of_ble_eq_true rfl, Nat.le_of_ble_eq_true rfl⟩, ⟨Nat.le_of_ble_eq_true rfl, Nat.le_of_ble_eq_true rfl⟩⟩ hl.1 rfl (Nat.le_of_ble_eq_true rfl) dX11_world_27) hP hS hA (fun u12 H locs w13 hP hS => ?_)
      obtain ⟨hw15, hw16⟩ : (((2 : Int64).toInt ≤ p2.toInt64.toInt ∧ p2.toInt64.toInt ≤ (599 : Int64).toInt ∧ u12.toInt = 1) ∨ (¬ ((2 : Int64).toInt ≤ p2.toInt64.toInt ∧ p2.toInt64.toInt ≤ (599 : Int64).toInt) ∧ u12.toInt = 0)) ∧ (0 ≤ u12.toInt ∧ u12.toInt ≤ 1) := w13
      refine W.eq (g2 := F0 m 30 ls [.int u12]) rfl ?_
      rcases (show u12.toInt = 1 ∨ u12.toInt = 0 by omega) with c17 | c17
      · obtain rfl : u12 = 1 := i_is c17 (by decide)
        refine W.eq (g2 := F0 m 30 ls [.int 1]) rfl ?_
        refine lv_if_eq (tgt := 77) hx hb dX11_world_30 (by decide) (fun c18 => ?_) (fun c18 => ?_)
        · exact absurd c18 (by decide)
        refine lv_iload_n hx hb dX11_world_33 rfl (lv_at hl 3 rfl) ?_
        have j19 := rgI p3
        have j20 := Int32.toInt_toInt64 p3
        refine lv_i2l (v := p3.toInt64) hx hb dX11_world_34 (rfl) ?_
        refine lv_lconst (v := 0) hx hb dX11_world_35 (by decide) ?_
        refine lv_ldc2 (v := 599) hx hb hown (hg _ kw_1444) dX11_world_36 ?_
        have zl0 : (0 : Int64).toInt = 0 := by decide
        refine cg0 (rn_S (As := [.long p3.toInt64, .long 0, .long 599]) (rest := []) (m_in l D Y Z H.size   p3.toInt64 0 599 ) ⟨hx, hb, hml, hown, hg⟩ lk_X11_99 ⟨CP.blind, CP.at nilP hKN (nilD (A := fun _ => True))⟩ ⟨⟨rfl, rfl⟩, ⟨Nat.le_of_ble_eq_true rfl, Nat.le_of_ble_eq_true rfl⟩, ⟨Nat.le_of_ble_eq_true rfl, Nat.le_of_ble_eq_true rfl⟩⟩ hl.1 rfl (Nat.le_of_ble_eq_true rfl) dX11_world_39) hP hS hA (fun u21 H locs w22 hP hS => ?_)
        obtain ⟨hw24, hw25⟩ : (((0 : Int64).toInt ≤ p3.toInt64.toInt ∧ p3.toInt64.toInt ≤ (599 : Int64).toInt ∧ u21.toInt = 1) ∨ (¬ ((0 : Int64).toInt ≤ p3.toInt64.toInt ∧ p3.toInt64.toInt ≤ (599 : Int64).toInt) ∧ u21.toInt = 0)) ∧ (0 ≤ u21.toInt ∧ u21.toInt ≤ 1) := w22
        refine W.eq (g2 := F0 m 42 ls [.int u21]) rfl ?_
        rcases (show u21.toInt = 1 ∨ u21.toInt = 0 by omega) with c26 | c26
        · obtain rfl : u21 = 1 := i_is c26 (by decide)
          refine W.eq (g2 := F0 m 42 ls [.int 1]) rfl ?_
          refine lv_if_eq (tgt := 77) hx hb dX11_world_42 (by decide) (fun c27 => ?_) (fun c27 => ?_)
          · exact absurd c27 (by decide)
          refine lv_iload hx hb dX11_world_45 (lv_at hl 4 rfl) ?_
          have j28 := rgI p4
          have j29 := Int32.toInt_toInt64 p4
          refine lv_i2l (v := p4.toInt64) hx hb dX11_world_47 (rfl) ?_
          refine lv_lconst (v := 1) hx hb dX11_world_48 (by decide) ?_
          refine lv_ldc2 (v := 30) hx hb hown (hg _ kw_1445) dX11_world_49 ?_
          have zl1 : (1 : Int64).toInt = 1 := by decide
          have zl30 : (30 : Int64).toInt = 30 := by decide
          refine cg0 (rn_S (As := [.long p4.toInt64, .long 1, .long 30]) (rest := []) (m_in l D Y Z H.size   p4.toInt64 1 30 ) ⟨hx, hb, hml, hown, hg⟩ lk_X11_99 ⟨CP.blind, CP.at nilP hKN (nilD (A := fun _ => True))⟩ ⟨⟨rfl, rfl⟩, ⟨Nat.le_of_ble_eq_true rfl, Nat.le_of_ble_eq_true rfl⟩, ⟨Nat.le_of_ble_eq_true rfl, Nat.le_of_ble_eq_true rfl⟩⟩ hl.1 rfl (Nat.le_of_ble_eq_true rfl) dX11_world_52) hP hS hA (fun u30 H locs w31 hP hS => ?_)
          obtain ⟨hw33, hw34⟩ : (((1 : Int64).toInt ≤ p4.toInt64.toInt ∧ p4.toInt64.toInt ≤ (30 : Int64).toInt ∧ u30.toInt = 1) ∨ (¬ ((1 : Int64).toInt ≤ p4.toInt64.toInt ∧ p4.toInt64.toInt ≤ (30 : Int64).toInt) ∧ u30.toInt = 0)) ∧ (0 ≤ u30.toInt ∧ u30.toInt ≤ 1) := w31
          refine W.eq (g2 := F0 m 55 ls [.int u30]) rfl ?_
          rcases (show u30.toInt = 1 ∨ u30.toInt = 0 by omega) with c35 | c35
          · obtain rfl : u30 = 1 := i_is c35 (by decide)
            refine W.eq (g2 := F0 m 55 ls [.int 1]) rfl ?_
            refine lv_if_eq (tgt := 77) hx hb dX11_world_55 (by decide) (fun c36 => ?_) (fun c36 => ?_)
            · exact absurd c36 (by decide)
            refine lv_iload hx hb dX11_world_58 (lv_at hl 4 rfl) ?_
            refine lv_iload_n hx hb dX11_world_60 rfl (lv_at hl 2 rfl) ?_
            refine lv_icmp_ge (tgt := 77) hx hb dX11_world_61 (by decide) (fun c37 => ?_) (fun c37 => ?_)
            · skip
              have c37 := i_le (Eq.refl p2.toInt) (Eq.refl p4.toInt) c37
              refine lv_iconst (v := (-1)) hx hb dX11_world_77 (by decide) ?_
              refine W.widen (k := 0) (n := 0) (Nat.le_of_ble_eq_true rfl) (Nat.le_of_ble_eq_true rfl) ?_
              have zim1 : ((-1) : Int32).toInt = -1 := by decide
              exact W.iret (v := (-1)) hx hb hr (fun t ht hW => ⟨⟨((-1), (F 0)), rfl, ⟨hk0, (show KO1 1 (F 0) (F 0) from ⟨_, KT.ku hk1⟩)⟩, CB.mk ht hP hD⟩, hS.F ht⟩) hS.2.2 dX11_world_78
            · skip
              have c37 := i_nle (Eq.refl p2.toInt) (Eq.refl p4.toInt) c37
              refine lv_iload hx hb dX11_world_64 (lv_at hl 5 rfl) ?_
              have j38 := rgI p5
              have j39 := Int32.toInt_toInt64 p5
              refine lv_i2l (v := p5.toInt64) hx hb dX11_world_66 (rfl) ?_
              refine lv_lconst (v := 1) hx hb dX11_world_67 (by decide) ?_
              refine lv_ldc2 (v := 30000) hx hb hown (hg _ kw_1380) dX11_world_68 ?_
              have zl30000 : (30000 : Int64).toInt = 30000 := by decide
              refine cg0 (rn_S (As := [.long p5.toInt64, .long 1, .long 30000]) (rest := []) (m_in l D Y Z H.size   p5.toInt64 1 30000 ) ⟨hx, hb, hml, hown, hg⟩ lk_X11_99 ⟨CP.blind, CP.at nilP hKN (nilD (A := fun _ => True))⟩ ⟨⟨rfl, rfl⟩, ⟨Nat.le_of_ble_eq_true rfl, Nat.le_of_ble_eq_true rfl⟩, ⟨Nat.le_of_ble_eq_true rfl, Nat.le_of_ble_eq_true rfl⟩⟩ hl.1 rfl (Nat.le_of_ble_eq_true rfl) dX11_world_71) hP hS hA (fun u40 H locs w41 hP hS => ?_)
              obtain ⟨hw43, hw44⟩ : (((1 : Int64).toInt ≤ p5.toInt64.toInt ∧ p5.toInt64.toInt ≤ (30000 : Int64).toInt ∧ u40.toInt = 1) ∨ (¬ ((1 : Int64).toInt ≤ p5.toInt64.toInt ∧ p5.toInt64.toInt ≤ (30000 : Int64).toInt) ∧ u40.toInt = 0)) ∧ (0 ≤ u40.toInt ∧ u40.toInt ≤ 1) := w41
              refine W.eq (g2 := F0 m 74 ls [.int u40]) rfl ?_
              rcases (show u40.toInt = 1 ∨ u40.toInt = 0 by omega) with c45 | c45
              · obtain rfl : u40 = 1 := i_is c45 (by decide)
                refine W.eq (g2 := F0 m 74 ls [.int 1]) rfl ?_
                refine lv_if_ne (tgt := 79) hx hb dX11_world_74 (by decide) (fun c46 => ?_) (fun c46 => ?_)
                rotate_left
                · exact absurd c46 (by decide)
                refine lv_bipush (v := 39) hx hb dX11_world_79 (by decide) ?_
                refine lv_bipush (v := 6) hx hb dX11_world_81 (by decide) ?_
                refine lv_aload_n hx hb dX11_world_83 rfl (lv_at hl 0 rfl) ?_
                refine va_get (D := D) (ci := 11) (v := .ref (a 0)) (C := RX11) (T := TX11) (N := 49) hx hb hg inGX11 hown hKN.1 hP 0 rfl rfl 0 (by decide) (hg _ kw_1208) (fun _ h9 => h9) rfl dX11_world_84 ?_
                refine lv_iconst (v := 1) hx hb dX11_world_87 (by decide) ?_
                refine va_iald hx hb hKN.1 hP 1 0 rfl rfl (show ¬ ((1 : Int32) < 0 ∨ 7533 ≤ (1 : Int32).toNatClampNeg) by decide) dX11_world_88 ?_
                refine lv_topi (fun v47 ev47 => ?_)
                have ev47 : v47 = (F 0) 1 := ev47
                have kv47 := TO_1 hk0
                rw [← ev47] at kv47
                have qv47 := congrArg Int32.toInt ev47
                refine lv_imul hx hb dX11_world_89 ?_
                refine lv_topi (fun v48 ev48 => ?_)
                have hv48 := i_mul (show (6 : Int32).toInt = 6 by decide) (Eq.refl v47.toInt) ev48 (by omega) (by omega)
                refine lv_iadd hx hb dX11_world_90 ?_
                refine lv_topi (fun v49 ev49 => ?_)
                have hv49 := i_add (show (39 : Int32).toInt = 39 by decide) (Eq.refl v48.toInt) ev49 (by omega) (by omega)
                refine lv_istore (lv' := [(7, .int v49), (0, .ref o), (1, .int p1), (2, .int p2), (3, .int p3), (4, .int p4), (5, .int p5), (6, .int p6)]) hx hb dX11_world_91 hl (by decide) rfl (fun ls hl => ?_)
                refine lv_aload_n hx hb dX11_world_93 rfl (lv_at hl 1 rfl) ?_
                refine va_get (D := D) (ci := 11) (v := .ref (a 0)) (C := RX11) (T := TX11) (N := 49) hx hb hg inGX11 hown hKN.1 hP 0 rfl rfl 0 (by decide) (hg _ kw_1208) (fun _ h9 => h9) rfl dX11_world_94 ?_
                refine lv_iload hx hb dX11_world_97 (lv_at hl 0 rfl) ?_
                refine lv_iload_n hx hb dX11_world_99 rfl (lv_at hl 2 rfl) ?_
                refine va_iast hx hb hKN.1 hP hD hS 1 0 rfl rfl (vp_in_iff.mpr ⟨by omega, by omega⟩) dX11_world_100 (fun H locs hP hD hS => ?_)
                obtain ⟨f50, ef50, hP, hD⟩ : ∃ f50 : Nat → Int32, f50 = upd (F 0) v49.toNatClampNeg p1 ∧ va_P D vwCl (MW Y o a I J (vf_upd F 0 f50) G) H ∧ va_D A (MW Y o a I J (vf_upd F 0 f50) G) := ⟨_, rfl, hP, hD⟩
                have ct51 := clampI (x := v49) (by omega)
                have t51 : TO f50 := by rw [ef50]; exact TO_set hk0 (by unfold trow; omega) (by omega) (by omega) (by omega) (by omega)
                have ct52 := clampI (x := v49) (by omega)
                have t52 : KT (F 0) f50 := KT_set hk1 ef50 (by omega) (by omega) (by omega) (by omega) (by omega)
                have t53 : (f50 (1)).toInt = ((F 0) (1)).toInt := by rw [ef50, up_ne (by omega)]
                refine lv_aload_n hx hb dX11_world_101 rfl (lv_at hl 1 rfl) ?_
                refine va_get (D := D) (ci := 11) (v := .ref (a 0)) (C := RX11) (T := TX11) (N := 49) hx hb hg inGX11 hown hKN.1 hP 0 rfl rfl 0 (by decide) (hg _ kw_1208) (fun _ h9 => h9) rfl dX11_world_102 ?_
                refine lv_iload hx hb dX11_world_105 (lv_at hl 0 rfl) ?_
                refine lv_iconst (v := 1) hx hb dX11_world_107 (by decide) ?_
                refine lv_iadd hx hb dX11_world_108 ?_
                refine lv_topi (fun v54 ev54 => ?_)
                have hv54 := i_add (Eq.refl v49.toInt) (show (1 : Int32).toInt = 1 by decide) ev54 (by omega) (by omega)
                refine lv_iload_n hx hb dX11_world_109 rfl (lv_at hl 3 rfl) ?_
                refine va_iast hx hb hKN.1 hP hD hS 1 0 rfl rfl (vp_in_iff.mpr ⟨by omega, by omega⟩) dX11_world_110 (fun H locs hP hD hS => ?_)
                obtain ⟨f55, ef55, hP, hD⟩ : ∃ f55 : Nat → Int32, f55 = upd f50 v54.toNatClampNeg p2 ∧ va_P D vwCl (MW Y o a I J (vf_upd F 0 f55) G) H ∧ va_D A (MW Y o a I J (vf_upd F 0 f55) G) := ⟨_, rfl, hP, hD⟩
                have ct56 := clampI (x := v54) (by omega)
                have t56 : TO f55 := by rw [ef55]; exact TO_set t51 (by unfold trow; omega) (by omega) (by omega) (by omega) (by omega)
                have ct57 := clampI (x := v54) (by omega)
                have t57 : KT (F 0) f55 := KT_set t52 ef55 (by omega) (by omega) (by omega) (by omega) (by omega)
                have t58 : (f55 (1)).toInt = (f50 (1)).toInt := by rw [ef55, up_ne (by omega)]
                have t59 : (f55 (40 + 6 * (F 0 1).toInt.toNat)).toInt = p2.toInt := by rw [ef55, up_eq (by omega)]
                refine lv_aload_n hx hb dX11_world_111 rfl (lv_at hl 1 rfl) ?_
                refine va_get (D := D) (ci := 11) (v := .ref (a 0)) (C := RX11) (T := TX11) (N := 49) hx hb hg inGX11 hown hKN.1 hP 0 rfl rfl 0 (by decide) (hg _ kw_1208) (fun _ h9 => h9) rfl dX11_world_112 ?_
                refine lv_iload hx hb dX11_world_115 (lv_at hl 0 rfl) ?_
                refine lv_iconst (v := 2) hx hb dX11_world_117 (by decide) ?_
                refine lv_iadd hx hb dX11_world_118 ?_
                refine lv_topi (fun v60 ev60 => ?_)
                have hv60 := i_add (Eq.refl v49.toInt) (show (2 : Int32).toInt = 2 by decide) ev60 (by omega) (by omega)
                refine lv_iload_n hx hb dX11_world_119 rfl (lv_at hl 4 rfl) ?_
                refine va_iast hx hb hKN.1 hP hD hS 1 0 rfl rfl (vp_in_iff.mpr ⟨by omega, by omega⟩) dX11_world_120 (fun H locs hP hD hS => ?_)
                obtain ⟨f61, ef61, hP, hD⟩ : ∃ f61 : Nat → Int32, f61 = upd f55 v60.toNatClampNeg p3 ∧ va_P D vwCl (MW Y o a I J (vf_upd F 0 f61) G) H ∧ va_D A (MW Y o a I J (vf_upd F 0 f61) G) := ⟨_, rfl, hP, hD⟩
                have ct62 := clampI (x := v60) (by omega)
                have t62 : TO f61 := by rw [ef61]; exact TO_set t56 (by unfold trow; omega) (by omega) (by omega) (by omega) (by omega)
                have ct63 := clampI (x := v60) (by omega)
                have t63 : KT (F 0) f61 := KT_set t57 ef61 (by omega) (by omega) (by omega) (by omega) (by omega)
                have t64 : (f61 (1)).toInt = (f55 (1)).toInt := by rw [ef61, up_ne (by omega)]
                have t65 : (f61 (40 + 6 * (F 0 1).toInt.toNat)).toInt = (f55 (40 + 6 * (F 0 1).toInt.toNat)).toInt := by rw [ef61, up_ne (by omega)]
                refine lv_aload_n hx hb dX11_world_121 rfl (lv_at hl 1 rfl) ?_
                refine va_get (D := D) (ci := 11) (v := .ref (a 0)) (C := RX11) (T := TX11) (N := 49) hx hb hg inGX11 hown hKN.1 hP 0 rfl rfl 0 (by decide) (hg _ kw_1208) (fun _ h9 => h9) rfl dX11_world_122 ?_
                refine lv_iload hx hb dX11_world_125 (lv_at hl 0 rfl) ?_
                refine lv_iconst (v := 3) hx hb dX11_world_127 (by decide) ?_
                refine lv_iadd hx hb dX11_world_128 ?_
                refine lv_topi (fun v66 ev66 => ?_)
                have hv66 := i_add (Eq.refl v49.toInt) (show (3 : Int32).toInt = 3 by decide) ev66 (by omega) (by omega)
                refine lv_iload hx hb dX11_world_129 (lv_at hl 5 rfl) ?_
                refine va_iast hx hb hKN.1 hP hD hS 1 0 rfl rfl (vp_in_iff.mpr ⟨by omega, by omega⟩) dX11_world_131 (fun H locs hP hD hS => ?_)
                obtain ⟨f67, ef67, hP, hD⟩ : ∃ f67 : Nat → Int32, f67 = upd f61 v66.toNatClampNeg p4 ∧ va_P D vwCl (MW Y o a I J (vf_upd F 0 f67) G) H ∧ va_D A (MW Y o a I J (vf_upd F 0 f67) G) := ⟨_, rfl, hP, hD⟩
                have ct68 := clampI (x := v66) (by omega)
                have t68 : TO f67 := by rw [ef67]; exact TO_set t62 (by unfold trow; omega) (by omega) (by omega) (by omega) (by omega)
                have ct69 := clampI (x := v66) (by omega)
                have t69 : KT (F 0) f67 := KT_set t63 ef67 (by omega) (by omega) (by omega) (by omega) (by omega)
                have t70 : (f67 (1)).toInt = (f61 (1)).toInt := by rw [ef67, up_ne (by omega)]
                have t71 : (f67 (40 + 6 * (F 0 1).toInt.toNat)).toInt = (f61 (40 + 6 * (F 0 1).toInt.toNat)).toInt := by rw [ef67, up_ne (by omega)]
                refine lv_aload_n hx hb dX11_world_132 rfl (lv_at hl 1 rfl) ?_
                refine va_get (D := D) (ci := 11) (v := .ref (a 0)) (C := RX11) (T := TX11) (N := 49) hx hb hg inGX11 hown hKN.1 hP 0 rfl rfl 0 (by decide) (hg _ kw_1208) (fun _ h9 => h9) rfl dX11_world_133 ?_
                refine lv_iload hx hb dX11_world_136 (lv_at hl 0 rfl) ?_
                refine lv_iconst (v := 4) hx hb dX11_world_138 (by decide) ?_
                refine lv_iadd hx hb dX11_world_139 ?_
                refine lv_topi (fun v72 ev72 => ?_)
                have hv72 := i_add (Eq.refl v49.toInt) (show (4 : Int32).toInt = 4 by decide) ev72 (by omega) (by omega)
                refine lv_iload hx hb dX11_world_140 (lv_at hl 6 rfl) ?_
                refine va_iast hx hb hKN.1 hP hD hS 1 0 rfl rfl (vp_in_iff.mpr ⟨by omega, by omega⟩) dX11_world_142 (fun H locs hP hD hS => ?_)
                obtain ⟨f73, ef73, hP, hD⟩ : ∃ f73 : Nat → Int32, f73 = upd f67 v72.toNatClampNeg p5 ∧ va_P D vwCl (MW Y o a I J (vf_upd F 0 f73) G) H ∧ va_D A (MW Y o a I J (vf_upd F 0 f73) G) := ⟨_, rfl, hP, hD⟩
                have ct74 := clampI (x := v72) (by omega)
                have t74 : TO f73 := by rw [ef73]; exact TO_set t68 (by unfold trow; omega) (by omega) (by omega) (by omega) (by omega)
                have ct75 := clampI (x := v72) (by omega)
                have t75 : KT (F 0) f73 := KT_set t69 ef73 (by omega) (by omega) (by omega) (by omega) (by omega)
                have t76 : (f73 (1)).toInt = (f67 (1)).toInt := by rw [ef73, up_ne (by omega)]
                have t77 : (f73 (40 + 6 * (F 0 1).toInt.toNat)).toInt = (f67 (40 + 6 * (F 0 1).toInt.toNat)).toInt := by rw [ef73, up_ne (by omega)]
                refine lv_aload_n hx hb dX11_world_143 rfl (lv_at hl 1 rfl) ?_
                refine va_get (D := D) (ci := 11) (v := .ref (a 0)) (C := RX11) (T := TX11) (N := 49) hx hb hg inGX11 hown hKN.1 hP 0 rfl rfl 0 (by decide) (hg _ kw_1208) (fun _ h9 => h9) rfl dX11_world_144 ?_
                refine lv_iload hx hb dX11_world_147 (lv_at hl 0 rfl) ?_
                refine lv_iconst (v := 5) hx hb dX11_world_149 (by decide) ?_
                refine lv_iadd hx hb dX11_world_150 ?_
                refine lv_topi (fun v78 ev78 => ?_)
                have hv78 := i_add (Eq.refl v49.toInt) (show (5 : Int32).toInt = 5 by decide) ev78 (by omega) (by omega)
                refine lv_iload hx hb dX11_world_151 (lv_at hl 7 rfl) ?_
                have j79 := rgI p6
                refine lv_if_eq (tgt := 160) hx hb dX11_world_153 (by decide) (fun c80 => ?_) (fun c80 => ?_)
                · skip
                  have c80 := i_eq (Eq.refl p6.toInt) (show (0 : Int32).toInt = 0 by decide) c80
                  refine lv_iconst (v := 0) hx hb dX11_world_160 (by decide) ?_
                  refine va_iast hx hb hKN.1 hP hD hS 1 0 rfl rfl (vp_in_iff.mpr ⟨by omega, by omega⟩) dX11_world_161 (fun H locs hP hD hS => ?_)
                  obtain ⟨f81, ef81, hP, hD⟩ : ∃ f81 : Nat → Int32, f81 = upd f73 v78.toNatClampNeg 0 ∧ va_P D vwCl (MW Y o a I J (vf_upd F 0 f81) G) H ∧ va_D A (MW Y o a I J (vf_upd F 0 f81) G) := ⟨_, rfl, hP, hD⟩
                  have zi0 : (0 : Int32).toInt = 0 := by decide
                  have ct82 := clampI (x := v78) (by omega)
                  have t82 : TO f81 := by rw [ef81]; exact TO_set t74 (by unfold trow; omega) (by omega) (by omega) (by omega) (by omega)
                  have ct83 := clampI (x := v78) (by omega)
                  have t83 : KT (F 0) f81 := KT_set t75 ef81 (by omega) (by omega) (by omega) (by omega) (by omega)
                  have t84 : (f81 (1)).toInt = (f73 (1)).toInt := by rw [ef81, up_ne (by omega)]
                  have t85 : (f81 (40 + 6 * (F 0 1).toInt.toNat)).toInt = (f73 (40 + 6 * (F 0 1).toInt.toNat)).toInt := by rw [ef81, up_ne (by omega)]
                  refine lv_aload_n hx hb dX11_world_162 rfl (lv_at hl 1 rfl) ?_
                  refine va_get (D := D) (ci := 11) (v := .ref (a 0)) (C := RX11) (T := TX11) (N := 49) hx hb hg inGX11 hown hKN.1 hP 0 rfl rfl 0 (by decide) (hg _ kw_1208) (fun _ h9 => h9) rfl dX11_world_163 ?_
                  refine lv_iconst (v := 1) hx hb dX11_world_166 (by decide) ?_
                  refine lv_dup2_11 hx hb dX11_world_167 rfl rfl ?_
                  refine va_iald hx hb hKN.1 hP 1 0 rfl rfl (show ¬ ((1 : Int32) < 0 ∨ 7533 ≤ (1 : Int32).toNatClampNeg) by decide) dX11_world_168 ?_
                  refine lv_topi (fun v86 ev86 => ?_)
                  have ev86 : v86 = f81 1 := ev86
                  have kv86 := TO_1 t82
                  rw [← ev86] at kv86
                  have qv86 := congrArg Int32.toInt ev86
                  refine lv_iconst (v := 1) hx hb dX11_world_169 (by decide) ?_
                  refine lv_iadd hx hb dX11_world_170 ?_
                  refine lv_topi (fun v87 ev87 => ?_)
                  have hv87 := i_add (Eq.refl v86.toInt) (show (1 : Int32).toInt = 1 by decide) ev87 (by omega) (by omega)
                  refine va_iast hx hb hKN.1 hP hD hS 1 0 rfl rfl (show ¬ ((1 : Int32) < 0 ∨ 7533 ≤ (1 : Int32).toNatClampNeg) by decide) dX11_world_171 (fun H locs hP hD hS => ?_)
                  obtain ⟨f88, ef88, hP, hD⟩ : ∃ f88 : Nat → Int32, f88 = upd f81 1 v87 ∧ va_P D vwCl (MW Y o a I J (vf_upd F 0 f88) G) H ∧ va_D A (MW Y o a I J (vf_upd F 0 f88) G) := ⟨_, rfl, hP, hD⟩
                  have t89 : TO f88 := by rw [ef88]; exact TO_cnt1n t82 (n := (F 0 1).toInt) (by omega) (by omega) (by omega) (by omega)
                  have t90 := KU_of (v := v87) (k := 1) t83 ef88
                  refine lv_aload_n hx hb dX11_world_172 rfl (lv_at hl 1 rfl) ?_
                  refine va_get (D := D) (ci := 11) (v := .ref (a 0)) (C := RX11) (T := TX11) (N := 49) hx hb hg inGX11 hown hKN.1 hP 0 rfl rfl 0 (by decide) (hg _ kw_1208) (fun _ h9 => h9) rfl dX11_world_173 ?_
                  refine lv_iconst (v := 1) hx hb dX11_world_176 (by decide) ?_
                  refine va_iald hx hb hKN.1 hP 1 0 rfl rfl (show ¬ ((1 : Int32) < 0 ∨ 7533 ≤ (1 : Int32).toNatClampNeg) by decide) dX11_world_177 ?_
                  refine lv_topi (fun v91 ev91 => ?_)
                  have ev91 : v91 = f88 1 := ev91
                  have kv91 := TO_1 t89
                  rw [← ev91] at kv91
                  have qv91 := congrArg Int32.toInt ev91
                  refine lv_iconst (v := 1) hx hb dX11_world_178 (by decide) ?_
                  refine lv_isub hx hb dX11_world_179 ?_
                  refine lv_topi (fun v92 ev92 => ?_)
                  have hv92 := i_sub (Eq.refl v91.toInt) (show (1 : Int32).toInt = 1 by decide) ev92 (by omega) (by omega)
                  refine W.widen (k := 0) (n := 0) (Nat.le_of_ble_eq_true rfl) (Nat.le_of_ble_eq_true rfl) ?_
                  exact W.iret (v := v92) hx hb hr (fun t ht hW => ⟨⟨(v92, f88), rfl, ⟨t89, (show KO1 1 (F 0) f88 from ⟨_, t90⟩)⟩, CB.mk ht hP hD⟩, hS.F ht⟩) hS.2.2 dX11_world_180
                · skip
                  have c80 := i_ne (Eq.refl p6.toInt) (show (0 : Int32).toInt = 0 by decide) c80
                  refine lv_iconst (v := 1) hx hb dX11_world_156 (by decide) ?_
                  refine lv_goto (tgt := 161) hx hb dX11_world_157 (by decide) ?_
                  refine va_iast hx hb hKN.1 hP hD hS 1 0 rfl rfl (vp_in_iff.mpr ⟨by omega, by omega⟩) dX11_world_161 (fun H locs hP hD hS => ?_)
                  obtain ⟨f93, ef93, hP, hD⟩ : ∃ f93 : Nat → Int32, f93 = upd f73 v78.toNatClampNeg 1 ∧ va_P D vwCl (MW Y o a I J (vf_upd F 0 f93) G) H ∧ va_D A (MW Y o a I J (vf_upd F 0 f93) G) := ⟨_, rfl, hP, hD⟩
                  have ct94 := clampI (x := v78) (by omega)
                  have t94 : TO f93 := by rw [ef93]; exact TO_set t74 (by unfold trow; omega) (by omega) (by omega) (by omega) (by omega)
                  have ct95 := clampI (x := v78) (by omega)
                  have t95 : KT (F 0) f93 := KT_set t75 ef93 (by omega) (by omega) (by omega) (by omega) (by omega)
                  have t96 : (f93 (1)).toInt = (f73 (1)).toInt := by rw [ef93, up_ne (by omega)]
                  have t97 : (f93 (40 + 6 * (F 0 1).toInt.toNat)).toInt = (f73 (40 + 6 * (F 0 1).toInt.toNat)).toInt := by rw [ef93, up_ne (by omega)]
                  refine lv_aload_n hx hb dX11_world_162 rfl (lv_at hl 1 rfl) ?_
                  refine va_get (D := D) (ci := 11) (v := .ref (a 0)) (C := RX11) (T := TX11) (N := 49) hx hb hg inGX11 hown hKN.1 hP 0 rfl rfl 0 (by decide) (hg _ kw_1208) (fun _ h9 => h9) rfl dX11_world_163 ?_
                  refine lv_iconst (v := 1) hx hb dX11_world_166 (by decide) ?_
                  refine lv_dup2_11 hx hb dX11_world_167 rfl rfl ?_
                  refine va_iald hx hb hKN.1 hP 1 0 rfl rfl (show ¬ ((1 : Int32) < 0 ∨ 7533 ≤ (1 : Int32).toNatClampNeg) by decide) dX11_world_168 ?_
                  refine lv_topi (fun v98 ev98 => ?_)
                  have ev98 : v98 = f93 1 := ev98
                  have kv98 := TO_1 t94
                  rw [← ev98] at kv98
                  have qv98 := congrArg Int32.toInt ev98
                  refine lv_iconst (v := 1) hx hb dX11_world_169 (by decide) ?_
                  refine lv_iadd hx hb dX11_world_170 ?_
                  refine lv_topi (fun v99 ev99 => ?_)
                  have hv99 := i_add (Eq.refl v98.toInt) (show (1 : Int32).toInt = 1 by decide) ev99 (by omega) (by omega)
                  refine va_iast hx hb hKN.1 hP hD hS 1 0 rfl rfl (show ¬ ((1 : Int32) < 0 ∨ 7533 ≤ (1 : Int32).toNatClampNeg) by decide) dX11_world_171 (fun H locs hP hD hS => ?_)
                  obtain ⟨f100, ef100, hP, hD⟩ : ∃ f100 : Nat → Int32, f100 = upd f93 1 v99 ∧ va_P D vwCl (MW Y o a I J (vf_upd F 0 f100) G) H ∧ va_D A (MW Y o a I J (vf_upd F 0 f100) G) := ⟨_, rfl, hP, hD⟩
                  have t101 : TO f100 := by rw [ef100]; exact TO_cnt1n t94 (n := (F 0 1).toInt) (by omega) (by omega) (by omega) (by omega)
                  have t102 := KU_of (v := v99) (k := 1) t95 ef100
                  refine lv_aload_n hx hb dX11_world_172 rfl (lv_at hl 1 rfl) ?_
                  refine va_get (D := D) (ci := 11) (v := .ref (a 0)) (C := RX11) (T := TX11) (N := 49) hx hb hg inGX11 hown hKN.1 hP 0 rfl rfl 0 (by decide) (hg _ kw_1208) (fun _ h9 => h9) rfl dX11_world_173 ?_
                  refine lv_iconst (v := 1) hx hb dX11_world_176 (by decide) ?_
                  refine va_iald hx hb hKN.1 hP 1 0 rfl rfl (show ¬ ((1 : Int32) < 0 ∨ 7533 ≤ (1 : Int32).toNatClampNeg) by decide) dX11_world_177 ?_
                  refine lv_topi (fun v103 ev103 => ?_)
                  have ev103 : v103 = f100 1 := ev103
                  have kv103 := TO_1 t101
                  rw [← ev103] at kv103
                  have qv103 := congrArg Int32.toInt ev103
                  refine lv_iconst (v := 1) hx hb dX11_world_178 (by decide) ?_
                  refine lv_isub hx hb dX11_world_179 ?_
                  refine lv_topi (fun v104 ev104 => ?_)
                  have hv104 := i_sub (Eq.refl v103.toInt) (show (1 : Int32).toInt = 1 by decide) ev104 (by omega) (by omega)
                  refine W.widen (k := 0) (n := 0) (Nat.le_of_ble_eq_true rfl) (Nat.le_of_ble_eq_true rfl) ?_
                  exact W.iret (v := v104) hx hb hr (fun t ht hW => ⟨⟨(v104, f100), rfl, ⟨t101, (show KO1 1 (F 0) f100 from ⟨_, t102⟩)⟩, CB.mk ht hP hD⟩, hS.F ht⟩) hS.2.2 dX11_world_180
              · obtain rfl : u40 = 0 := i_is c45 (by decide)
                have zi0 : (0 : Int32).toInt = 0 := by decide
                refine W.eq (g2 := F0 m 74 ls [.int 0]) rfl ?_
                refine lv_if_ne (tgt := 79) hx hb dX11_world_74 (by decide) (fun c105 => ?_) (fun c105 => ?_)
                · exact absurd c105 (by decide)
                refine lv_iconst (v := (-1)) hx hb dX11_world_77 (by decide) ?_
                refine W.widen (k := 0) (n := 0) (Nat.le_of_ble_eq_true rfl) (Nat.le_of_ble_eq_true rfl) ?_
                have zim1 : ((-1) : Int32).toInt = -1 := by decide
                exact W.iret (v := (-1)) hx hb hr (fun t ht hW => ⟨⟨((-1), (F 0)), rfl, ⟨hk0, (show KO1 1 (F 0) (F 0) from ⟨_, KT.ku hk1⟩)⟩, CB.mk ht hP hD⟩, hS.F ht⟩) hS.2.2 dX11_world_78
          · obtain rfl : u30 = 0 := i_is c35 (by decide)
            have zi0 : (0 : Int32).toInt = 0 := by decide
            refine W.eq (g2 := F0 m 55 ls [.int 0]) rfl ?_
            refine lv_if_eq (tgt := 77) hx hb dX11_world_55 (by decide) (fun c106 => ?_) (fun c106 => ?_)
            rotate_left
            · exact absurd c106 (by decide)
            refine lv_iconst (v := (-1)) hx hb dX11_world_77 (by decide) ?_
            refine W.widen (k := 0) (n := 0) (Nat.le_of_ble_eq_true rfl) (Nat.le_of_ble_eq_true rfl) ?_
            have zim1 : ((-1) : Int32).toInt = -1 := by decide
            exact W.iret (v := (-1)) hx hb hr (fun t ht hW => ⟨⟨((-1), (F 0)), rfl, ⟨hk0, (show KO1 1 (F 0) (F 0) from ⟨_, KT.ku hk1⟩)⟩, CB.mk ht hP hD⟩, hS.F ht⟩) hS.2.2 dX11_world_78
        · obtain rfl : u21 = 0 := i_is c26 (by decide)
          have zi0 : (0 : Int32).toInt = 0 := by decide
          refine W.eq (g2 := F0 m 42 ls [.int 0]) rfl ?_
          refine lv_if_eq (tgt := 77) hx hb dX11_world_42 (by decide) (fun c107 => ?_) (fun c107 => ?_)
          rotate_left
          · exact absurd c107 (by decide)
          refine lv_iconst (v := (-1)) hx hb dX11_world_77 (by decide) ?_
          refine W.widen (k := 0) (n := 0) (Nat.le_of_ble_eq_true rfl) (Nat.le_of_ble_eq_true rfl) ?_
          have zim1 : ((-1) : Int32).toInt = -1 := by decide
          exact W.iret (v := (-1)) hx hb hr (fun t ht hW => ⟨⟨((-1), (F 0)), rfl, ⟨hk0, (show KO1 1 (F 0) (F 0) from ⟨_, KT.ku hk1⟩)⟩, CB.mk ht hP hD⟩, hS.F ht⟩) hS.2.2 dX11_world_78
      · obtain rfl : u12 = 0 := i_is c17 (by decide)
        have zi0 : (0 : Int32).toInt = 0 := by decide
        refine W.eq (g2 := F0 m 30 ls [.int 0]) rfl ?_
        refine lv_if_eq (tgt := 77) hx hb dX11_world_30 (by decide) (fun c108 => ?_) (fun c108 => ?_)
        rotate_left
        · exact absurd c108 (by decide)
        refine lv_iconst (v := (-1)) hx hb dX11_world_77 (by decide) ?_
        refine W.widen (k := 0) (n := 0) (Nat.le_of_ble_eq_true rfl) (Nat.le_of_ble_eq_true rfl) ?_
        have zim1 : ((-1) : Int32).toInt = -1 := by decide
        exact W.iret (v := (-1)) hx hb hr (fun t ht hW => ⟨⟨((-1), (F 0)), rfl, ⟨hk0, (show KO1 1 (F 0) (F 0) from ⟨_, KT.ku hk1⟩)⟩, CB.mk ht hP hD⟩, hS.F ht⟩) hS.2.2 dX11_world_78
    · obtain rfl : u3 = 0 := i_is c8 (by decide)
      have zi0 : (0 : Int32).toInt = 0 := by decide
      refine W.eq (g2 := F0 m 16 ls [.int 0]) rfl ?_
      refine lv_if_eq (tgt := 77) hx hb dX11_world_16 (by decide) (fun c109 => ?_) (fun c109 => ?_)
      rotate_left
      · exact absurd c109 (by decide)
      refine lv_iconst (v := (-1)) hx hb dX11_world_77 (by decide) ?_
      refine W.widen (k := 0) (n := 0) (Nat.le_of_ble_eq_true rfl) (Nat.le_of_ble_eq_true rfl) ?_
      have zim1 : ((-1) : Int32).toInt = -1 := by decide
      exact W.iret (v := (-1)) hx hb hr (fun t ht hW => ⟨⟨((-1), (F 0)), rfl, ⟨hk0, (show KO1 1 (F 0) (F 0) from ⟨_, KT.ku hk1⟩)⟩, CB.mk ht hP hD⟩, hS.F ht⟩) hS.2.2 dX11_world_78
set_option maxHeartbeats 4000000 in
set_option maxRecDepth 100000 in
theorem m_starK (l : Launch) (D : va_G) (Y : Nat → ClassId) (Z : Nat → Nat) (sz : Nat) (o : Nat) (a : Nat → Nat) (I : Nat → Int32) (J : Nat → Int64) (F : Nat → Nat → Int32) (G : Nat → Nat → Int64) (p1 : Int32) (p2 : Int32) (p3 : Int32) (hk0 : TO (F 0)) (hk1 : KT (F 0) (F 0)) : Met l yX11_star (.code yX11_star cX11_star 6 (some .int) :: GW) ({ frames := 1, cells := 0, slots := 0, locals := 25 }) (va_Pc [.ref o, .int p1, .int p2, .int p3] (CP D Y Z (MW Y o a I J F G) sz)) (QG (S := Int32 × (Nat → Int32)) (fun u => some (.int u.1)) (fun u => TO u.2 ∧ ((¬ (((F 0) 0).toInt < 12 ∧ (1 ≤ p1.toInt ∧ p1.toInt ≤ 999) ∧ (0 ≤ p2.toInt ∧ p2.toInt ≤ 7) ∧ (1 ≤ p3.toInt ∧ p3.toInt ≤ 1000)) ∧ u.1.toInt = -1 ∧ KT (F 0) u.2) ∨ ((((F 0) 0).toInt < 12 ∧ (1 ≤ p1.toInt ∧ p1.toInt ≤ 999) ∧ (0 ≤ p2.toInt ∧ p2.toInt ≤ 7) ∧ (1 ≤ p3.toInt ∧ p3.toInt ≤ 1000)) ∧ u.1.toInt = ((F 0) 0).toInt ∧ KP (F 0) u.2))) (fun u => CB D (MW Y o a I J (vf_upd F 0 u.2) G) (va_A (MW Y o a I J F G) sz)) (va_A (MW Y o a I J F G) sz)) 0 0 (va_A (MW Y o a I J F G) sz) := by
  refine Met.ofW (cc := cX11_star) (maxL := 6) (ret := (some .int)) (by decide) rfl ?_
  intro p e s m args below meth c s₁ B hml hv
  obtain ⟨rfl, hsz, hP, hKN, hD0⟩ := hv
  have hx := B.exec
  have hb := B.bytes
  have hr := B.returns
  have hts := atoms_spec (ws := .code yX11_star cX11_star 6 (some .int) :: GW) B.pre
  have hg : ∀ w ∈ GW, w.before _ s = true := fun w h => hts w (List.mem_cons_of_mem _ h)
  have hown : s.vm.findClass RX11 = some m.cls := findClass_of_methodNamed B.named
  have hlocks := B.notSynchronized
  subst hsz
  have hD := hD0.self (sz := s.heap.size)
  generalize hAe : va_A (MW Y o a I J F G) s.heap.size = A at hD ⊢
  have hA : ∀ q : Nat, s.heap.size ≤ q → A q := fun q h => by rw [← hAe]; exact Or.inr h
  clear hAe hD0 hts B
  have hl := lv_entry ([.ref o, .int p1, .int p2, .int p3]) (n := 6) (Nat.le_of_ble_eq_true rfl)
  rw [lg_entry_eq]
  generalize (lg_sl ([.ref o, .int p1, .int p2, .int p3]) ++ List.replicate (6 - (lg_sl ([.ref o, .int p1, .int p2, .int p3])).length) Slot.unset).toArray = ls at hl ⊢
  have hl : lv_has ls 6 [(0, .ref o), (1, .int p1), (2, .int p2), (3, .int p3)] := hl
  refine w_start (A0 := A) hP (fun H locs hP hS => ?_)
  refine lv_aload_n hx hb dX11_star_0 rfl (lv_at hl 0 rfl) ?_
  refine va_get (D := D) (ci := 11) (v := .ref (a 0)) (C := RX11) (T := TX11) (N := 49) hx hb hg inGX11 hown hKN.1 hP 0 rfl rfl 0 (by decide) (hg _ kw_1208) (fun _ h9 => h9) rfl dX11_star_1 ?_
  refine lv_iconst (v := 0) hx hb dX11_star_4 (by decide) ?_
  refine va_iald hx hb hKN.1 hP 1 0 rfl rfl (show ¬ ((0 : Int32) < 0 ∨ 7533 ≤ (0 : Int32).toNatClampNeg) by decide) dX11_star_5 ?_
  refine lv_topi (fun v1 ev1 => ?_)
  have ev1 : v1 = (F 0) 0 := ev1
  have kv1 := TO_0 hk0
  rw [← ev1] at kv1
  have qv1 := congrArg Int32.toInt ev1
  refine lv_bipush (v := 12) hx hb dX11_star_6 (by decide) ?_
  refine lv_icmp_eq (tgt := 47) hx hb dX11_star_8 (by decide) (fun c2 => ?_) (fun c2 => ?_)
  · skip
    have c2 := i_eq (Eq.refl v1.toInt) (show (12 : Int32).toInt = 12 by decide) c2
    refine lv_iconst (v := (-1)) hx hb dX11_star_47 (by decide) ?_
    refine W.widen (k := 0) (n := 0) (Nat.le_of_ble_eq_true rfl) (Nat.le_of_ble_eq_true rfl) ?_
    have zim1 : ((-1) : Int32).toInt = -1 := by decide
    exact W.iret (v := (-1)) hx hb hr (fun t ht hW => ⟨⟨((-1), (F 0)), rfl, ⟨hk0, (show ((¬ (((F 0) 0).toInt < 12 ∧ (1 ≤ p1.toInt ∧ p1.toInt ≤ 999) ∧ (0 ≤ p2.toInt ∧ p2.toInt ≤ 7) ∧ (1 ≤ p3.toInt ∧ p3.toInt ≤ 1000)) ∧ ((-1) : Int32).toInt = -1 ∧ KT (F 0) (F 0)) ∨ ((((F 0) 0).toInt < 12 ∧ (1 ≤ p1.toInt ∧ p1.toInt ≤ 999) ∧ (0 ≤ p2.toInt ∧ p2.toInt ≤ 7) ∧ (1 ≤ p3.toInt ∧ p3.toInt ≤ 1000)) ∧ ((-1) : Int32).toInt = ((F 0) 0).toInt ∧ KP (F 0) (F 0))) from (Or.inl ⟨by omega, by decide, hk1⟩))⟩, CB.mk ht hP hD⟩, hS.F ht⟩) hS.2.2 dX11_star_48
  · skip
    have c2 := i_ne (Eq.refl v1.toInt) (show (12 : Int32).toInt = 12 by decide) c2
    refine lv_iload_n hx hb dX11_star_11 rfl (lv_at hl 1 rfl) ?_
    have j3 := rgI p1
    have j4 := Int32.toInt_toInt64 p1
    refine lv_i2l (v := p1.toInt64) hx hb dX11_star_12 (rfl) ?_
    refine lv_lconst (v := 1) hx hb dX11_star_13 (by decide) ?_
    refine lv_ldc2 (v := 999) hx hb hown (hg _ kw_1361) dX11_star_14 ?_
    have zl1 : (1 : Int64).toInt = 1 := by decide
    have zl999 : (999 : Int64).toInt = 999 := by decide
    refine cg0 (rn_S (As := [.long p1.toInt64, .long 1, .long 999]) (rest := []) (m_in l D Y Z H.size   p1.toInt64 1 999 ) ⟨hx, hb, hml, hown, hg⟩ lk_X11_99 ⟨CP.blind, CP.at nilP hKN (nilD (A := fun _ => True))⟩ ⟨⟨rfl, rfl⟩, ⟨Nat.le_of_ble_eq_true rfl, Nat.le_of_ble_eq_true rfl⟩, ⟨Nat.le_of_ble_eq_true rfl, Nat.le_of_ble_eq_true rfl⟩⟩ hl.1 rfl (Nat.le_of_ble_eq_true rfl) dX11_star_17) hP hS hA (fun u5 H locs w6 hP hS => ?_)
    obtain ⟨hw8, hw9⟩ : (((1 : Int64).toInt ≤ p1.toInt64.toInt ∧ p1.toInt64.toInt ≤ (999 : Int64).toInt ∧ u5.toInt = 1) ∨ (¬ ((1 : Int64).toInt ≤ p1.toInt64.toInt ∧ p1.toInt64.toInt ≤ (999 : Int64).toInt) ∧ u5.toInt = 0)) ∧ (0 ≤ u5.toInt ∧ u5.toInt ≤ 1) := w6
    refine W.eq (g2 := F0 m 20 ls [.int u5]) rfl ?_
    rcases (show u5.toInt = 1 ∨ u5.toInt = 0 by omega) with c10 | c10
    · obtain rfl : u5 = 1 := i_is c10 (by decide)
      have zi1 : (1 : Int32).toInt = 1 := by decide
      refine W.eq (g2 := F0 m 20 ls [.int 1]) rfl ?_
      refine lv_if_eq (tgt := 47) hx hb dX11_star_20 (by decide) (fun c11 => ?_) (fun c11 => ?_)
      · exact absurd c11 (by decide)
      refine lv_iload_n hx hb dX11_star_23 rfl (lv_at hl 2 rfl) ?_
      have j12 := rgI p2
      have j13 := Int32.toInt_toInt64 p2
      refine lv_i2l (v := p2.toInt64) hx hb dX11_star_24 (rfl) ?_
      refine lv_lconst (v := 0) hx hb dX11_star_25 (by decide) ?_
      refine lv_ldc2 (v := 7) hx hb hown (hg _ kw_1365) dX11_star_26 ?_
      have zl0 : (0 : Int64).toInt = 0 := by decide
      have zl7 : (7 : Int64).toInt = 7 := by decide
      refine cg0 (rn_S (As := [.long p2.toInt64, .long 0, .long 7]) (rest := []) (m_in l D Y Z H.size   p2.toInt64 0 7 ) ⟨hx, hb, hml, hown, hg⟩ lk_X11_99 ⟨CP.blind, CP.at nilP hKN (nilD (A := fun _ => True))⟩ ⟨⟨rfl, rfl⟩, ⟨Nat.le_of_ble_eq_true rfl, Nat.le_of_ble_eq_true rfl⟩, ⟨Nat.le_of_ble_eq_true rfl, Nat.le_of_ble_eq_true rfl⟩⟩ hl.1 rfl (Nat.le_of_ble_eq_true rfl) dX11_star_29) hP hS hA (fun u14 H locs w15 hP hS => ?_)
      obtain ⟨hw17, hw18⟩ : (((0 : Int64).toInt ≤ p2.toInt64.toInt ∧ p2.toInt64.toInt ≤ (7 : Int64).toInt ∧ u14.toInt = 1) ∨ (¬ ((0 : Int64).toInt ≤ p2.toInt64.toInt ∧ p2.toInt64.toInt ≤ (7 : Int64).toInt) ∧ u14.toInt = 0)) ∧ (0 ≤ u14.toInt ∧ u14.toInt ≤ 1) := w15
      refine W.eq (g2 := F0 m 32 ls [.int u14]) rfl ?_
      rcases (show u14.toInt = 1 ∨ u14.toInt = 0 by omega) with c19 | c19
      · obtain rfl : u14 = 1 := i_is c19 (by decide)
        refine W.eq (g2 := F0 m 32 ls [.int 1]) rfl ?_
        refine lv_if_eq (tgt := 47) hx hb dX11_star_32 (by decide) (fun c20 => ?_) (fun c20 => ?_)
        · exact absurd c20 (by decide)
        refine lv_iload_n hx hb dX11_star_35 rfl (lv_at hl 3 rfl) ?_
        have j21 := rgI p3
        have j22 := Int32.toInt_toInt64 p3
        refine lv_i2l (v := p3.toInt64) hx hb dX11_star_36 (rfl) ?_
        refine lv_lconst (v := 1) hx hb dX11_star_37 (by decide) ?_
        refine lv_ldc2 (v := 1000) hx hb hown (hg _ kw_1366) dX11_star_38 ?_
        have zl1000 : (1000 : Int64).toInt = 1000 := by decide
        refine cg0 (rn_S (As := [.long p3.toInt64, .long 1, .long 1000]) (rest := []) (m_in l D Y Z H.size   p3.toInt64 1 1000 ) ⟨hx, hb, hml, hown, hg⟩ lk_X11_99 ⟨CP.blind, CP.at nilP hKN (nilD (A := fun _ => True))⟩ ⟨⟨rfl, rfl⟩, ⟨Nat.le_of_ble_eq_true rfl, Nat.le_of_ble_eq_true rfl⟩, ⟨Nat.le_of_ble_eq_true rfl, Nat.le_of_ble_eq_true rfl⟩⟩ hl.1 rfl (Nat.le_of_ble_eq_true rfl) dX11_star_41) hP hS hA (fun u23 H locs w24 hP hS => ?_)
        obtain ⟨hw26, hw27⟩ : (((1 : Int64).toInt ≤ p3.toInt64.toInt ∧ p3.toInt64.toInt ≤ (1000 : Int64).toInt ∧ u23.toInt = 1) ∨ (¬ ((1 : Int64).toInt ≤ p3.toInt64.toInt ∧ p3.toInt64.toInt ≤ (1000 : Int64).toInt) ∧ u23.toInt = 0)) ∧ (0 ≤ u23.toInt ∧ u23.toInt ≤ 1) := w24
        refine W.eq (g2 := F0 m 44 ls [.int u23]) rfl ?_
        rcases (show u23.toInt = 1 ∨ u23.toInt = 0 by omega) with c28 | c28
        · obtain rfl : u23 = 1 := i_is c28 (by decide)
          refine W.eq (g2 := F0 m 44 ls [.int 1]) rfl ?_
          refine lv_if_ne (tgt := 49) hx hb dX11_star_44 (by decide) (fun c29 => ?_) (fun c29 => ?_)
          rotate_left
          · exact absurd c29 (by decide)
          refine lv_aload_n hx hb dX11_star_49 rfl (lv_at hl 0 rfl) ?_
          refine va_get (D := D) (ci := 11) (v := .ref (a 0)) (C := RX11) (T := TX11) (N := 49) hx hb hg inGX11 hown hKN.1 hP 0 rfl rfl 0 (by decide) (hg _ kw_1208) (fun _ h9 => h9) rfl dX11_star_50 ?_
          refine lv_iconst (v := 0) hx hb dX11_star_53 (by decide) ?_
          refine va_iald hx hb hKN.1 hP 1 0 rfl rfl (show ¬ ((0 : Int32) < 0 ∨ 7533 ≤ (0 : Int32).toNatClampNeg) by decide) dX11_star_54 ?_
          refine lv_topi (fun v30 ev30 => ?_)
          have ev30 : v30 = (F 0) 0 := ev30
          have kv30 := TO_0 hk0
          rw [← ev30] at kv30
          have qv30 := congrArg Int32.toInt ev30
          refine lv_istore (lv' := [(4, .int v30), (0, .ref o), (1, .int p1), (2, .int p2), (3, .int p3)]) hx hb dX11_star_55 hl (by decide) rfl (fun ls hl => ?_)
          refine lv_aload_n hx hb dX11_star_57 rfl (lv_at hl 1 rfl) ?_
          refine va_get (D := D) (ci := 11) (v := .ref (a 0)) (C := RX11) (T := TX11) (N := 49) hx hb hg inGX11 hown hKN.1 hP 0 rfl rfl 0 (by decide) (hg _ kw_1208) (fun _ h9 => h9) rfl dX11_star_58 ?_
          refine lv_iconst (v := 3) hx hb dX11_star_61 (by decide) ?_
          refine lv_iconst (v := 3) hx hb dX11_star_62 (by decide) ?_
          refine lv_iload hx hb dX11_star_63 (lv_at hl 0 rfl) ?_
          refine lv_imul hx hb dX11_star_65 ?_
          refine lv_topi (fun v31 ev31 => ?_)
          have hv31 := i_mul (show (3 : Int32).toInt = 3 by decide) (Eq.refl v30.toInt) ev31 (by omega) (by omega)
          refine lv_iadd hx hb dX11_star_66 ?_
          refine lv_topi (fun v32 ev32 => ?_)
          have hv32 := i_add (show (3 : Int32).toInt = 3 by decide) (Eq.refl v31.toInt) ev32 (by omega) (by omega)
          refine lv_iload_n hx hb dX11_star_67 rfl (lv_at hl 2 rfl) ?_
          refine va_iast hx hb hKN.1 hP hD hS 1 0 rfl rfl (vp_in_iff.mpr ⟨by omega, by omega⟩) dX11_star_68 (fun H locs hP hD hS => ?_)
          obtain ⟨f33, ef33, hP, hD⟩ : ∃ f33 : Nat → Int32, f33 = upd (F 0) v32.toNatClampNeg p1 ∧ va_P D vwCl (MW Y o a I J (vf_upd F 0 f33) G) H ∧ va_D A (MW Y o a I J (vf_upd F 0 f33) G) := ⟨_, rfl, hP, hD⟩
          have ct34 := clampI (x := v32) (by omega)
          have t34 : TO f33 := by rw [ef33]; exact TO_set hk0 (by unfold trow; omega) (by omega) (by omega) (by omega) (by omega)
          have ct35 := clampI (x := v32) (by omega)
          have t35 : KT (F 0) f33 := KT_set hk1 ef33 (by omega) (by omega) (by omega) (by omega) (by omega)
          have t36 : (f33 (0)).toInt = ((F 0) (0)).toInt := by rw [ef33, up_ne (by omega)]
          refine lv_aload_n hx hb dX11_star_69 rfl (lv_at hl 1 rfl) ?_
          refine va_get (D := D) (ci := 11) (v := .ref (a 0)) (C := RX11) (T := TX11) (N := 49) hx hb hg inGX11 hown hKN.1 hP 0 rfl rfl 0 (by decide) (hg _ kw_1208) (fun _ h9 => h9) rfl dX11_star_70 ?_
          refine lv_iconst (v := 3) hx hb dX11_star_73 (by decide) ?_
          refine lv_iconst (v := 3) hx hb dX11_star_74 (by decide) ?_
          refine lv_iload hx hb dX11_star_75 (lv_at hl 0 rfl) ?_
          refine lv_imul hx hb dX11_star_77 ?_
          refine lv_topi (fun v37 ev37 => ?_)
          have hv37 := i_mul (show (3 : Int32).toInt = 3 by decide) (Eq.refl v30.toInt) ev37 (by omega) (by omega)
          refine lv_iadd hx hb dX11_star_78 ?_
          refine lv_topi (fun v38 ev38 => ?_)
          have hv38 := i_add (show (3 : Int32).toInt = 3 by decide) (Eq.refl v37.toInt) ev38 (by omega) (by omega)
          refine lv_iconst (v := 1) hx hb dX11_star_79 (by decide) ?_
          refine lv_iadd hx hb dX11_star_80 ?_
          refine lv_topi (fun v39 ev39 => ?_)
          have hv39 := i_add (Eq.refl v38.toInt) (show (1 : Int32).toInt = 1 by decide) ev39 (by omega) (by omega)
          refine lv_iload_n hx hb dX11_star_81 rfl (lv_at hl 3 rfl) ?_
          refine va_iast hx hb hKN.1 hP hD hS 1 0 rfl rfl (vp_in_iff.mpr ⟨by omega, by omega⟩) dX11_star_82 (fun H locs hP hD hS => ?_)
          obtain ⟨f40, ef40, hP, hD⟩ : ∃ f40 : Nat → Int32, f40 = upd f33 v39.toNatClampNeg p2 ∧ va_P D vwCl (MW Y o a I J (vf_upd F 0 f40) G) H ∧ va_D A (MW Y o a I J (vf_upd F 0 f40) G) := ⟨_, rfl, hP, hD⟩
          have ct41 := clampI (x := v39) (by omega)
          have t41 : TO f40 := by rw [ef40]; exact TO_set t34 (by unfold trow; omega) (by omega) (by omega) (by omega) (by omega)
          have ct42 := clampI (x := v39) (by omega)
          have t42 : KT (F 0) f40 := KT_set t35 ef40 (by omega) (by omega) (by omega) (by omega) (by omega)
          have t43 : (f40 (0)).toInt = (f33 (0)).toInt := by rw [ef40, up_ne (by omega)]
          refine lv_aload_n hx hb dX11_star_83 rfl (lv_at hl 1 rfl) ?_
          refine va_get (D := D) (ci := 11) (v := .ref (a 0)) (C := RX11) (T := TX11) (N := 49) hx hb hg inGX11 hown hKN.1 hP 0 rfl rfl 0 (by decide) (hg _ kw_1208) (fun _ h9 => h9) rfl dX11_star_84 ?_
          refine lv_iconst (v := 3) hx hb dX11_star_87 (by decide) ?_
          refine lv_iconst (v := 3) hx hb dX11_star_88 (by decide) ?_
          refine lv_iload hx hb dX11_star_89 (lv_at hl 0 rfl) ?_
          refine lv_imul hx hb dX11_star_91 ?_
          refine lv_topi (fun v44 ev44 => ?_)
          have hv44 := i_mul (show (3 : Int32).toInt = 3 by decide) (Eq.refl v30.toInt) ev44 (by omega) (by omega)
          refine lv_iadd hx hb dX11_star_92 ?_
          refine lv_topi (fun v45 ev45 => ?_)
          have hv45 := i_add (show (3 : Int32).toInt = 3 by decide) (Eq.refl v44.toInt) ev45 (by omega) (by omega)
          refine lv_iconst (v := 2) hx hb dX11_star_93 (by decide) ?_
          refine lv_iadd hx hb dX11_star_94 ?_
          refine lv_topi (fun v46 ev46 => ?_)
          have hv46 := i_add (Eq.refl v45.toInt) (show (2 : Int32).toInt = 2 by decide) ev46 (by omega) (by omega)
          refine lv_iload_n hx hb dX11_star_95 rfl (lv_at hl 4 rfl) ?_
          refine va_iast hx hb hKN.1 hP hD hS 1 0 rfl rfl (vp_in_iff.mpr ⟨by omega, by omega⟩) dX11_star_96 (fun H locs hP hD hS => ?_)
          obtain ⟨f47, ef47, hP, hD⟩ : ∃ f47 : Nat → Int32, f47 = upd f40 v46.toNatClampNeg p3 ∧ va_P D vwCl (MW Y o a I J (vf_upd F 0 f47) G) H ∧ va_D A (MW Y o a I J (vf_upd F 0 f47) G) := ⟨_, rfl, hP, hD⟩
          have ct48 := clampI (x := v46) (by omega)
          have t48 : TO f47 := by rw [ef47]; exact TO_set t41 (by unfold trow; omega) (by omega) (by omega) (by omega) (by omega)
          have ct49 := clampI (x := v46) (by omega)
          have t49 : KT (F 0) f47 := KT_set t42 ef47 (by omega) (by omega) (by omega) (by omega) (by omega)
          have t50 : (f47 (0)).toInt = (f40 (0)).toInt := by rw [ef47, up_ne (by omega)]
          have t51 : (f47 (5 + 3 * (F 0 0).toInt.toNat)).toInt = p3.toInt := by rw [ef47, up_eq (by omega)]
          refine lv_iconst (v := 0) hx hb dX11_star_97 (by decide) ?_
          refine lv_istore (lv' := [(5, .int 0), (4, .int v30), (0, .ref o), (1, .int p1), (2, .int p2), (3, .int p3)]) hx hb dX11_star_98 hl (by decide) rfl (fun ls hl => ?_)
          have zi0 : (0 : Int32).toInt = 0 := by decide
          refine w_loop (σ := Int32 × (Nat → Int32)) (fun xx H locs ls => match xx with | (g61, f62) => va_P D vwCl (MW Y o a I J (vf_upd F 0 f62) G) H ∧ va_D A (MW Y o a I J (vf_upd F 0 f62) G) ∧ va_S A s.heap H locs ∧ lv_has ls 6 [(5, .int g61), (4, .int v30), (0, .ref o), (1, .int p1), (2, .int p2), (3, .int p3)] ∧ (0 ≤ g61.toInt ∧ g61.toInt ≤ 600) ∧ ((f62 0).toInt = (F 0 0).toInt) ∧ (1 ≤ (f62 (5 + 3 * (F 0 0).toInt.toNat)).toInt) ∧ TO f62 ∧ KT (F 0) f62) (fun xx => match xx with | (g61, f62) => (600 - g61.toInt).toNat) (0, f47) ⟨hP, hD, hS, lv_sub hl [0, 1, 2, 3, 4, 5] rfl, by omega, by omega, by omega, t48, t49⟩ (fun xx H locs ls hI ih => ?_)
          obtain ⟨g61, f62⟩ := xx
          obtain ⟨hP, hD, hS, hl, hq73, hq74, hq75, hp76, hp77⟩ := hI
          have ih78 := ih
          refine lv_iload hx hb dX11_star_100 (lv_at hl 0 rfl) ?_
          refine lv_sipush (v := 600) hx hb dX11_star_102 (by decide) ?_
          refine lv_icmp_ge (tgt := 134) hx hb dX11_star_105 (by decide) (fun c79 => ?_) (fun c79 => ?_)
          · skip
            have c79 := i_le (show (600 : Int32).toInt = 600 by decide) (Eq.refl g61.toInt) c79
            refine lv_aload_n hx hb dX11_star_134 rfl (lv_at hl 2 rfl) ?_
            refine va_get (D := D) (ci := 11) (v := .ref (a 0)) (C := RX11) (T := TX11) (N := 49) hx hb hg inGX11 hown hKN.1 hP 0 rfl rfl 0 (by decide) (hg _ kw_1208) (fun _ h9 => h9) rfl dX11_star_135 ?_
            refine lv_iconst (v := 0) hx hb dX11_star_138 (by decide) ?_
            refine lv_dup2_11 hx hb dX11_star_139 rfl rfl ?_
            refine va_iald hx hb hKN.1 hP 1 0 rfl rfl (show ¬ ((0 : Int32) < 0 ∨ 7533 ≤ (0 : Int32).toNatClampNeg) by decide) dX11_star_140 ?_
            refine lv_topi (fun v80 ev80 => ?_)
            have ev80 : v80 = f62 0 := ev80
            have kv80 := TO_0 hp76
            rw [← ev80] at kv80
            have qv80 := congrArg Int32.toInt ev80
            refine lv_iconst (v := 1) hx hb dX11_star_141 (by decide) ?_
            refine lv_iadd hx hb dX11_star_142 ?_
            refine lv_topi (fun v81 ev81 => ?_)
            have hv81 := i_add (Eq.refl v80.toInt) (show (1 : Int32).toInt = 1 by decide) ev81 (by omega) (by omega)
            refine va_iast hx hb hKN.1 hP hD hS 1 0 rfl rfl (show ¬ ((0 : Int32) < 0 ∨ 7533 ≤ (0 : Int32).toNatClampNeg) by decide) dX11_star_143 (fun H locs hP hD hS => ?_)
            obtain ⟨f82, ef82, hP, hD⟩ : ∃ f82 : Nat → Int32, f82 = upd f62 0 v81 ∧ va_P D vwCl (MW Y o a I J (vf_upd F 0 f82) G) H ∧ va_D A (MW Y o a I J (vf_upd F 0 f82) G) := ⟨_, rfl, hP, hD⟩
            have t83 : TO f82 := by rw [ef82]; exact TO_cnt0n hp76 (n := (F 0 0).toInt) (by omega) (by omega) (by omega) (by omega)
            have t84 := KU_of (v := v81) (k := 0) hp77 ef82
            refine lv_iload hx hb dX11_star_144 (lv_at hl 1 rfl) ?_
            refine W.widen (k := 0) (n := 0) (Nat.le_of_ble_eq_true rfl) (Nat.le_of_ble_eq_true rfl) ?_
            exact W.iret (v := v30) hx hb hr (fun t ht hW => ⟨⟨(v30, f82), rfl, ⟨t83, (show ((¬ (((F 0) 0).toInt < 12 ∧ (1 ≤ p1.toInt ∧ p1.toInt ≤ 999) ∧ (0 ≤ p2.toInt ∧ p2.toInt ≤ 7) ∧ (1 ≤ p3.toInt ∧ p3.toInt ≤ 1000)) ∧ v30.toInt = -1 ∧ KT (F 0) f82) ∨ ((((F 0) 0).toInt < 12 ∧ (1 ≤ p1.toInt ∧ p1.toInt ≤ 999) ∧ (0 ≤ p2.toInt ∧ p2.toInt ≤ 7) ∧ (1 ≤ p3.toInt ∧ p3.toInt ≤ 1000)) ∧ v30.toInt = ((F 0) 0).toInt ∧ KP (F 0) f82)) from (Or.inr ⟨by omega, by omega, (⟨v81, by omega, t84⟩ : KP _ _)⟩))⟩, CB.mk ht hP hD⟩, hS.F ht⟩) hS.2.2 dX11_star_146
          · skip
            have c79 := i_nle (show (600 : Int32).toInt = 600 by decide) (Eq.refl g61.toInt) c79
            refine lv_aload_n hx hb dX11_star_108 rfl (lv_at hl 2 rfl) ?_
            refine va_get (D := D) (ci := 11) (v := .ref (a 0)) (C := RX11) (T := TX11) (N := 49) hx hb hg inGX11 hown hKN.1 hP 0 rfl rfl 0 (by decide) (hg _ kw_1208) (fun _ h9 => h9) rfl dX11_star_109 ?_
            refine lv_sipush (v := 315) hx hb dX11_star_112 (by decide) ?_
            refine lv_sipush (v := 600) hx hb dX11_star_115 (by decide) ?_
            refine lv_iload hx hb dX11_star_118 (lv_at hl 1 rfl) ?_
            refine lv_imul hx hb dX11_star_120 ?_
            refine lv_topi (fun v85 ev85 => ?_)
            have hv85 := i_mul (show (600 : Int32).toInt = 600 by decide) (Eq.refl v30.toInt) ev85 (by omega) (by omega)
            refine lv_iadd hx hb dX11_star_121 ?_
            refine lv_topi (fun v86 ev86 => ?_)
            have hv86 := i_add (show (315 : Int32).toInt = 315 by decide) (Eq.refl v85.toInt) ev86 (by omega) (by omega)
            refine lv_iload hx hb dX11_star_122 (lv_at hl 0 rfl) ?_
            refine lv_iadd hx hb dX11_star_124 ?_
            refine lv_topi (fun v87 ev87 => ?_)
            have hv87 := i_add (Eq.refl v86.toInt) (Eq.refl g61.toInt) ev87 (by omega) (by omega)
            refine lv_ldc (v := (-100000)) hx hb hown (hg _ kw_1367) dX11_star_125 ?_
            refine va_iast hx hb hKN.1 hP hD hS 1 0 rfl rfl (vp_in_iff.mpr ⟨by omega, by omega⟩) dX11_star_127 (fun H locs hP hD hS => ?_)
            obtain ⟨f88, ef88, hP, hD⟩ : ∃ f88 : Nat → Int32, f88 = upd f62 v87.toNatClampNeg (-100000) ∧ va_P D vwCl (MW Y o a I J (vf_upd F 0 f88) G) H ∧ va_D A (MW Y o a I J (vf_upd F 0 f88) G) := ⟨_, rfl, hP, hD⟩
            have zim100000 : ((-100000) : Int32).toInt = -100000 := by decide
            have ct89 := clampI (x := v87) (by omega)
            have t89 : TO f88 := by rw [ef88]; exact TO_set hp76 (by unfold trow; omega) (by omega) (by omega) (by omega) (by omega)
            have ct90 := clampI (x := v87) (by omega)
            have t90 : KT (F 0) f88 := KT_set hp77 ef88 (by omega) (by omega) (by omega) (by omega) (by omega)
            have t91 : (f88 (0)).toInt = (f62 (0)).toInt := by rw [ef88, up_ne (by omega)]
            have t92 : (f88 (5 + 3 * (F 0 0).toInt.toNat)).toInt = (f62 (5 + 3 * (F 0 0).toInt.toNat)).toInt := by rw [ef88, up_ne (by omega)]
            obtain ⟨v93, ev93⟩ : ∃ y : Int32, y = g61 + 1 := ⟨_, rfl⟩
            have hv93 := i_add (Eq.refl g61.toInt) (show (1 : Int32).toInt = 1 by decide) ev93 (by omega) (by omega)
            refine lv_iinc (v := v93) (lv' := [(5, .int v93), (4, .int v30), (0, .ref o), (1, .int p1), (2, .int p2), (3, .int p3)]) hx hb dX11_star_128 hl (k := 0) rfl (by rw [ev93]; rfl) (by decide) rfl (fun ls hl => ?_)
            refine lv_goto (tgt := 100) hx hb dX11_star_131 (by decide) ?_
            exact ih78 (v93, f88) H locs ls (by show (600 - v93.toInt).toNat < (600 - g61.toInt).toNat; omega) ⟨hP, hD, hS, lv_sub hl [0, 1, 2, 3, 4, 5] rfl, by omega, by omega, by omega, t89, t90⟩
        · obtain rfl : u23 = 0 := i_is c28 (by decide)
          have zi0 : (0 : Int32).toInt = 0 := by decide
          refine W.eq (g2 := F0 m 44 ls [.int 0]) rfl ?_
          refine lv_if_ne (tgt := 49) hx hb dX11_star_44 (by decide) (fun c94 => ?_) (fun c94 => ?_)
          · exact absurd c94 (by decide)
          refine lv_iconst (v := (-1)) hx hb dX11_star_47 (by decide) ?_
          refine W.widen (k := 0) (n := 0) (Nat.le_of_ble_eq_true rfl) (Nat.le_of_ble_eq_true rfl) ?_
          have zim1 : ((-1) : Int32).toInt = -1 := by decide
          exact W.iret (v := (-1)) hx hb hr (fun t ht hW => ⟨⟨((-1), (F 0)), rfl, ⟨hk0, (show ((¬ (((F 0) 0).toInt < 12 ∧ (1 ≤ p1.toInt ∧ p1.toInt ≤ 999) ∧ (0 ≤ p2.toInt ∧ p2.toInt ≤ 7) ∧ (1 ≤ p3.toInt ∧ p3.toInt ≤ 1000)) ∧ ((-1) : Int32).toInt = -1 ∧ KT (F 0) (F 0)) ∨ ((((F 0) 0).toInt < 12 ∧ (1 ≤ p1.toInt ∧ p1.toInt ≤ 999) ∧ (0 ≤ p2.toInt ∧ p2.toInt ≤ 7) ∧ (1 ≤ p3.toInt ∧ p3.toInt ≤ 1000)) ∧ ((-1) : Int32).toInt = ((F 0) 0).toInt ∧ KP (F 0) (F 0))) from (Or.inl ⟨by omega, by decide, hk1⟩))⟩, CB.mk ht hP hD⟩, hS.F ht⟩) hS.2.2 dX11_star_48
      · obtain rfl : u14 = 0 := i_is c19 (by decide)
        have zi0 : (0 : Int32).toInt = 0 := by decide
        refine W.eq (g2 := F0 m 32 ls [.int 0]) rfl ?_
        refine lv_if_eq (tgt := 47) hx hb dX11_star_32 (by decide) (fun c95 => ?_) (fun c95 => ?_)
        rotate_left
        · exact absurd c95 (by decide)
        refine lv_iconst (v := (-1)) hx hb dX11_star_47 (by decide) ?_
        refine W.widen (k := 0) (n := 0) (Nat.le_of_ble_eq_true rfl) (Nat.le_of_ble_eq_true rfl) ?_
        have zim1 : ((-1) : Int32).toInt = -1 := by decide
        exact W.iret (v := (-1)) hx hb hr (fun t ht hW => ⟨⟨((-1), (F 0)), rfl, ⟨hk0, (show ((¬ (((F 0) 0).toInt < 12 ∧ (1 ≤ p1.toInt ∧ p1.toInt ≤ 999) ∧ (0 ≤ p2.toInt ∧ p2.toInt ≤ 7) ∧ (1 ≤ p3.toInt ∧ p3.toInt ≤ 1000)) ∧ ((-1) : Int32).toInt = -1 ∧ KT (F 0) (F 0)) ∨ ((((F 0) 0).toInt < 12 ∧ (1 ≤ p1.toInt ∧ p1.toInt ≤ 999) ∧ (0 ≤ p2.toInt ∧ p2.toInt ≤ 7) ∧ (1 ≤ p3.toInt ∧ p3.toInt ≤ 1000)) ∧ ((-1) : Int32).toInt = ((F 0) 0).toInt ∧ KP (F 0) (F 0))) from (Or.inl ⟨by omega, by decide, hk1⟩))⟩, CB.mk ht hP hD⟩, hS.F ht⟩) hS.2.2 dX11_star_48
    · obtain rfl : u5 = 0 := i_is c10 (by decide)
      have zi0 : (0 : Int32).toInt = 0 := by decide
      refine W.eq (g2 := F0 m 20 ls [.int 0]) rfl ?_
      refine lv_if_eq (tgt := 47) hx hb dX11_star_20 (by decide) (fun c96 => ?_) (fun c96 => ?_)
      rotate_left
      · exact absurd c96 (by decide)
      refine lv_iconst (v := (-1)) hx hb dX11_star_47 (by decide) ?_
      refine W.widen (k := 0) (n := 0) (Nat.le_of_ble_eq_true rfl) (Nat.le_of_ble_eq_true rfl) ?_
      have zim1 : ((-1) : Int32).toInt = -1 := by decide
      exact W.iret (v := (-1)) hx hb hr (fun t ht hW => ⟨⟨((-1), (F 0)), rfl, ⟨hk0, (show ((¬ (((F 0) 0).toInt < 12 ∧ (1 ≤ p1.toInt ∧ p1.toInt ≤ 999) ∧ (0 ≤ p2.toInt ∧ p2.toInt ≤ 7) ∧ (1 ≤ p3.toInt ∧ p3.toInt ≤ 1000)) ∧ ((-1) : Int32).toInt = -1 ∧ KT (F 0) (F 0)) ∨ ((((F 0) 0).toInt < 12 ∧ (1 ≤ p1.toInt ∧ p1.toInt ≤ 999) ∧ (0 ≤ p2.toInt ∧ p2.toInt ≤ 7) ∧ (1 ≤ p3.toInt ∧ p3.toInt ≤ 1000)) ∧ ((-1) : Int32).toInt = ((F 0) 0).toInt ∧ KP (F 0) (F 0))) from (Or.inl ⟨by omega, by decide, hk1⟩))⟩, CB.mk ht hP hD⟩, hS.F ht⟩) hS.2.2 dX11_star_48
set_option maxHeartbeats 4000000 in
set_option maxRecDepth 100000 in
theorem m_wideK (l : Launch) (D : va_G) (Y : Nat → ClassId) (Z : Nat → Nat) (sz : Nat) (o : Nat) (a : Nat → Nat) (I : Nat → Int32) (J : Nat → Int64) (F : Nat → Nat → Int32) (G : Nat → Nat → Int64) (p1 : Int32) (hk0 : TO (F 0)) (hk1 : KT (F 0) (F 0)) : Met l yX11_wide (.code yX11_wide cX11_wide 3 (some .int) :: GW) ({ frames := 1, cells := 0, slots := 0, locals := 25 }) (va_Pc [.ref o, .int p1] (CP D Y Z (MW Y o a I J F G) sz)) (QG (S := Int32 × (Nat → Int32)) (fun u => some (.int u.1)) (fun u => TO u.2 ∧ (((0 ≤ p1.toInt ∧ p1.toInt ≤ 50) ∧ u.1 = (F 0) 7515 ∧ KU 7515 p1 (F 0) u.2) ∨ (¬ (0 ≤ p1.toInt ∧ p1.toInt ≤ 50) ∧ u.1.toInt = -1 ∧ KT (F 0) u.2))) (fun u => CB D (MW Y o a I J (vf_upd F 0 u.2) G) (va_A (MW Y o a I J F G) sz)) (va_A (MW Y o a I J F G) sz)) 0 0 (va_A (MW Y o a I J F G) sz) := by
  refine Met.ofW (cc := cX11_wide) (maxL := 3) (ret := (some .int)) (by decide) rfl ?_
  intro p e s m args below meth c s₁ B hml hv
  obtain ⟨rfl, hsz, hP, hKN, hD0⟩ := hv
  have hx := B.exec
  have hb := B.bytes
  have hr := B.returns
  have hts := atoms_spec (ws := .code yX11_wide cX11_wide 3 (some .int) :: GW) B.pre
  have hg : ∀ w ∈ GW, w.before _ s = true := fun w h => hts w (List.mem_cons_of_mem _ h)
  have hown : s.vm.findClass RX11 = some m.cls := findClass_of_methodNamed B.named
  have hlocks := B.notSynchronized
  subst hsz
  have hD := hD0.self (sz := s.heap.size)
  generalize hAe : va_A (MW Y o a I J F G) s.heap.size = A at hD ⊢
  have hA : ∀ q : Nat, s.heap.size ≤ q → A q := fun q h => by rw [← hAe]; exact Or.inr h
  clear hAe hD0 hts B
  have hl := lv_entry ([.ref o, .int p1]) (n := 3) (Nat.le_of_ble_eq_true rfl)
  rw [lg_entry_eq]
  generalize (lg_sl ([.ref o, .int p1]) ++ List.replicate (3 - (lg_sl ([.ref o, .int p1])).length) Slot.unset).toArray = ls at hl ⊢
  have hl : lv_has ls 3 [(0, .ref o), (1, .int p1)] := hl
  refine w_start (A0 := A) hP (fun H locs hP hS => ?_)
  refine lv_iload_n hx hb dX11_wide_0 rfl (lv_at hl 1 rfl) ?_
  have j1 := rgI p1
  have j2 := Int32.toInt_toInt64 p1
  refine lv_i2l (v := p1.toInt64) hx hb dX11_wide_1 (rfl) ?_
  refine lv_lconst (v := 0) hx hb dX11_wide_2 (by decide) ?_
  refine lv_ldc2 (v := 50) hx hb hown (hg _ kw_1394) dX11_wide_3 ?_
  have zl0 : (0 : Int64).toInt = 0 := by decide
  have zl50 : (50 : Int64).toInt = 50 := by decide
  refine cg0 (rn_S (As := [.long p1.toInt64, .long 0, .long 50]) (rest := []) (m_in l D Y Z H.size   p1.toInt64 0 50 ) ⟨hx, hb, hml, hown, hg⟩ lk_X11_99 ⟨CP.blind, CP.at nilP hKN (nilD (A := fun _ => True))⟩ ⟨⟨rfl, rfl⟩, ⟨Nat.le_of_ble_eq_true rfl, Nat.le_of_ble_eq_true rfl⟩, ⟨Nat.le_of_ble_eq_true rfl, Nat.le_of_ble_eq_true rfl⟩⟩ hl.1 rfl (Nat.le_of_ble_eq_true rfl) dX11_wide_6) hP hS hA (fun u3 H locs w4 hP hS => ?_)
  obtain ⟨hw6, hw7⟩ : (((0 : Int64).toInt ≤ p1.toInt64.toInt ∧ p1.toInt64.toInt ≤ (50 : Int64).toInt ∧ u3.toInt = 1) ∨ (¬ ((0 : Int64).toInt ≤ p1.toInt64.toInt ∧ p1.toInt64.toInt ≤ (50 : Int64).toInt) ∧ u3.toInt = 0)) ∧ (0 ≤ u3.toInt ∧ u3.toInt ≤ 1) := w4
  refine W.eq (g2 := F0 m 9 ls [.int u3]) rfl ?_
  rcases (show u3.toInt = 1 ∨ u3.toInt = 0 by omega) with c8 | c8
  · obtain rfl : u3 = 1 := i_is c8 (by decide)
    have zi1 : (1 : Int32).toInt = 1 := by decide
    refine W.eq (g2 := F0 m 9 ls [.int 1]) rfl ?_
    refine lv_if_ne (tgt := 14) hx hb dX11_wide_9 (by decide) (fun c9 => ?_) (fun c9 => ?_)
    rotate_left
    · exact absurd c9 (by decide)
    refine lv_aload_n hx hb dX11_wide_14 rfl (lv_at hl 0 rfl) ?_
    refine va_get (D := D) (ci := 11) (v := .ref (a 0)) (C := RX11) (T := TX11) (N := 49) hx hb hg inGX11 hown hKN.1 hP 0 rfl rfl 0 (by decide) (hg _ kw_1208) (fun _ h9 => h9) rfl dX11_wide_15 ?_
    refine lv_sipush (v := 7515) hx hb dX11_wide_18 (by decide) ?_
    refine va_iald hx hb hKN.1 hP 1 0 rfl rfl (show ¬ ((7515 : Int32) < 0 ∨ 7533 ≤ (7515 : Int32).toNatClampNeg) by decide) dX11_wide_21 ?_
    refine lv_topi (fun v10 ev10 => ?_)
    have ev10 : v10 = (F 0) 7515 := ev10
    have kv10 := TO_7515 hk0
    rw [← ev10] at kv10
    have qv10 := congrArg Int32.toInt ev10
    refine lv_istore_n (lv' := [(2, .int v10), (0, .ref o), (1, .int p1)]) hx hb dX11_wide_22 rfl hl (by decide) rfl (fun ls hl => ?_)
    refine lv_aload_n hx hb dX11_wide_23 rfl (lv_at hl 1 rfl) ?_
    refine va_get (D := D) (ci := 11) (v := .ref (a 0)) (C := RX11) (T := TX11) (N := 49) hx hb hg inGX11 hown hKN.1 hP 0 rfl rfl 0 (by decide) (hg _ kw_1208) (fun _ h9 => h9) rfl dX11_wide_24 ?_
    refine lv_sipush (v := 7515) hx hb dX11_wide_27 (by decide) ?_
    refine lv_iload_n hx hb dX11_wide_30 rfl (lv_at hl 2 rfl) ?_
    refine va_iast hx hb hKN.1 hP hD hS 1 0 rfl rfl (show ¬ ((7515 : Int32) < 0 ∨ 7533 ≤ (7515 : Int32).toNatClampNeg) by decide) dX11_wide_31 (fun H locs hP hD hS => ?_)
    obtain ⟨f11, ef11, hP, hD⟩ : ∃ f11 : Nat → Int32, f11 = upd (F 0) 7515 p1 ∧ va_P D vwCl (MW Y o a I J (vf_upd F 0 f11) G) H ∧ va_D A (MW Y o a I J (vf_upd F 0 f11) G) := ⟨_, rfl, hP, hD⟩
    have t12 : TO f11 := by rw [ef11]; exact TO_set hk0 (by unfold trow; omega) (by omega) (by omega) (by omega) (by omega)
    have t13 := KU_of (v := p1) (k := 7515) hk1 ef11
    refine lv_iload_n hx hb dX11_wide_32 rfl (lv_at hl 0 rfl) ?_
    refine W.widen (k := 0) (n := 0) (Nat.le_of_ble_eq_true rfl) (Nat.le_of_ble_eq_true rfl) ?_
    exact W.iret (v := v10) hx hb hr (fun t ht hW => ⟨⟨(v10, f11), rfl, ⟨t12, (show (((0 ≤ p1.toInt ∧ p1.toInt ≤ 50) ∧ v10 = (F 0) 7515 ∧ KU 7515 p1 (F 0) f11) ∨ (¬ (0 ≤ p1.toInt ∧ p1.toInt ≤ 50) ∧ v10.toInt = -1 ∧ KT (F 0) f11)) from (Or.inl ⟨⟨by omega, by omega⟩, ev10, t13⟩))⟩, CB.mk ht hP hD⟩, hS.F ht⟩) hS.2.2 dX11_wide_33
  · obtain rfl : u3 = 0 := i_is c8 (by decide)
    have zi0 : (0 : Int32).toInt = 0 := by decide
    refine W.eq (g2 := F0 m 9 ls [.int 0]) rfl ?_
    refine lv_if_ne (tgt := 14) hx hb dX11_wide_9 (by decide) (fun c14 => ?_) (fun c14 => ?_)
    · exact absurd c14 (by decide)
    refine lv_iconst (v := (-1)) hx hb dX11_wide_12 (by decide) ?_
    refine W.widen (k := 0) (n := 0) (Nat.le_of_ble_eq_true rfl) (Nat.le_of_ble_eq_true rfl) ?_
    have zim1 : ((-1) : Int32).toInt = -1 := by decide
    exact W.iret (v := (-1)) hx hb hr (fun t ht hW => ⟨⟨((-1), (F 0)), rfl, ⟨hk0, (show (((0 ≤ p1.toInt ∧ p1.toInt ≤ 50) ∧ (-1) = (F 0) 7515 ∧ KU 7515 p1 (F 0) (F 0)) ∨ (¬ (0 ≤ p1.toInt ∧ p1.toInt ≤ 50) ∧ ((-1) : Int32).toInt = -1 ∧ KT (F 0) (F 0))) from (Or.inr ⟨by omega, by decide, hk1⟩))⟩, CB.mk ht hP hD⟩, hS.F ht⟩) hS.2.2 dX11_wide_13
set_option maxHeartbeats 4000000 in
set_option maxRecDepth 100000 in
theorem m_orderK (l : Launch) (D : va_G) (Y : Nat → ClassId) (Z : Nat → Nat) (sz : Nat) (o : Nat) (a : Nat → Nat) (I : Nat → Int32) (J : Nat → Int64) (F : Nat → Nat → Int32) (G : Nat → Nat → Int64) (p1 : Int32) (hk0 : TO (F 0)) (hk1 : KT (F 0) (F 0)) : Met l yX11_order (.code yX11_order cX11_order 3 (some .int) :: GW) ({ frames := 1, cells := 0, slots := 0, locals := 25 }) (va_Pc [.ref o, .int p1] (CP D Y Z (MW Y o a I J F G) sz)) (QG (S := Int32 × (Nat → Int32)) (fun u => some (.int u.1)) (fun u => TO u.2 ∧ (((0 ≤ p1.toInt ∧ p1.toInt ≤ 23) ∧ u.1 = (F 0) 7516 ∧ KU 7516 p1 (F 0) u.2) ∨ (¬ (0 ≤ p1.toInt ∧ p1.toInt ≤ 23) ∧ u.1.toInt = -1 ∧ KT (F 0) u.2))) (fun u => CB D (MW Y o a I J (vf_upd F 0 u.2) G) (va_A (MW Y o a I J F G) sz)) (va_A (MW Y o a I J F G) sz)) 0 0 (va_A (MW Y o a I J F G) sz) := by
  refine Met.ofW (cc := cX11_order) (maxL := 3) (ret := (some .int)) (by decide) rfl ?_
  intro p e s m args below meth c s₁ B hml hv
  obtain ⟨rfl, hsz, hP, hKN, hD0⟩ := hv
  have hx := B.exec
  have hb := B.bytes
  have hr := B.returns
  have hts := atoms_spec (ws := .code yX11_order cX11_order 3 (some .int) :: GW) B.pre
  have hg : ∀ w ∈ GW, w.before _ s = true := fun w h => hts w (List.mem_cons_of_mem _ h)
  have hown : s.vm.findClass RX11 = some m.cls := findClass_of_methodNamed B.named
  have hlocks := B.notSynchronized
  subst hsz
  have hD := hD0.self (sz := s.heap.size)
  generalize hAe : va_A (MW Y o a I J F G) s.heap.size = A at hD ⊢
  have hA : ∀ q : Nat, s.heap.size ≤ q → A q := fun q h => by rw [← hAe]; exact Or.inr h
  clear hAe hD0 hts B
  have hl := lv_entry ([.ref o, .int p1]) (n := 3) (Nat.le_of_ble_eq_true rfl)
  rw [lg_entry_eq]
  generalize (lg_sl ([.ref o, .int p1]) ++ List.replicate (3 - (lg_sl ([.ref o, .int p1])).length) Slot.unset).toArray = ls at hl ⊢
  have hl : lv_has ls 3 [(0, .ref o), (1, .int p1)] := hl
  refine w_start (A0 := A) hP (fun H locs hP hS => ?_)
  refine lv_iload_n hx hb dX11_order_0 rfl (lv_at hl 1 rfl) ?_
  have j1 := rgI p1
  have j2 := Int32.toInt_toInt64 p1
  refine lv_i2l (v := p1.toInt64) hx hb dX11_order_1 (rfl) ?_
  refine lv_lconst (v := 0) hx hb dX11_order_2 (by decide) ?_
  refine lv_ldc2 (v := 23) hx hb hown (hg _ kw_1404) dX11_order_3 ?_
  have zl0 : (0 : Int64).toInt = 0 := by decide
  have zl23 : (23 : Int64).toInt = 23 := by decide
  refine cg0 (rn_S (As := [.long p1.toInt64, .long 0, .long 23]) (rest := []) (m_in l D Y Z H.size   p1.toInt64 0 23 ) ⟨hx, hb, hml, hown, hg⟩ lk_X11_99 ⟨CP.blind, CP.at nilP hKN (nilD (A := fun _ => True))⟩ ⟨⟨rfl, rfl⟩, ⟨Nat.le_of_ble_eq_true rfl, Nat.le_of_ble_eq_true rfl⟩, ⟨Nat.le_of_ble_eq_true rfl, Nat.le_of_ble_eq_true rfl⟩⟩ hl.1 rfl (Nat.le_of_ble_eq_true rfl) dX11_order_6) hP hS hA (fun u3 H locs w4 hP hS => ?_)
  obtain ⟨hw6, hw7⟩ : (((0 : Int64).toInt ≤ p1.toInt64.toInt ∧ p1.toInt64.toInt ≤ (23 : Int64).toInt ∧ u3.toInt = 1) ∨ (¬ ((0 : Int64).toInt ≤ p1.toInt64.toInt ∧ p1.toInt64.toInt ≤ (23 : Int64).toInt) ∧ u3.toInt = 0)) ∧ (0 ≤ u3.toInt ∧ u3.toInt ≤ 1) := w4
  refine W.eq (g2 := F0 m 9 ls [.int u3]) rfl ?_
  rcases (show u3.toInt = 1 ∨ u3.toInt = 0 by omega) with c8 | c8
  · obtain rfl : u3 = 1 := i_is c8 (by decide)
    have zi1 : (1 : Int32).toInt = 1 := by decide
    refine W.eq (g2 := F0 m 9 ls [.int 1]) rfl ?_
    refine lv_if_ne (tgt := 14) hx hb dX11_order_9 (by decide) (fun c9 => ?_) (fun c9 => ?_)
    rotate_left
    · exact absurd c9 (by decide)
    refine lv_aload_n hx hb dX11_order_14 rfl (lv_at hl 0 rfl) ?_
    refine va_get (D := D) (ci := 11) (v := .ref (a 0)) (C := RX11) (T := TX11) (N := 49) hx hb hg inGX11 hown hKN.1 hP 0 rfl rfl 0 (by decide) (hg _ kw_1208) (fun _ h9 => h9) rfl dX11_order_15 ?_
    refine lv_sipush (v := 7516) hx hb dX11_order_18 (by decide) ?_
    refine va_iald hx hb hKN.1 hP 1 0 rfl rfl (show ¬ ((7516 : Int32) < 0 ∨ 7533 ≤ (7516 : Int32).toNatClampNeg) by decide) dX11_order_21 ?_
    refine lv_topi (fun v10 ev10 => ?_)
    have ev10 : v10 = (F 0) 7516 := ev10
    have kv10 := TO_7516 hk0
    rw [← ev10] at kv10
    have qv10 := congrArg Int32.toInt ev10
    refine lv_istore_n (lv' := [(2, .int v10), (0, .ref o), (1, .int p1)]) hx hb dX11_order_22 rfl hl (by decide) rfl (fun ls hl => ?_)
    refine lv_aload_n hx hb dX11_order_23 rfl (lv_at hl 1 rfl) ?_
    refine va_get (D := D) (ci := 11) (v := .ref (a 0)) (C := RX11) (T := TX11) (N := 49) hx hb hg inGX11 hown hKN.1 hP 0 rfl rfl 0 (by decide) (hg _ kw_1208) (fun _ h9 => h9) rfl dX11_order_24 ?_
    refine lv_sipush (v := 7516) hx hb dX11_order_27 (by decide) ?_
    refine lv_iload_n hx hb dX11_order_30 rfl (lv_at hl 2 rfl) ?_
    refine va_iast hx hb hKN.1 hP hD hS 1 0 rfl rfl (show ¬ ((7516 : Int32) < 0 ∨ 7533 ≤ (7516 : Int32).toNatClampNeg) by decide) dX11_order_31 (fun H locs hP hD hS => ?_)
    obtain ⟨f11, ef11, hP, hD⟩ : ∃ f11 : Nat → Int32, f11 = upd (F 0) 7516 p1 ∧ va_P D vwCl (MW Y o a I J (vf_upd F 0 f11) G) H ∧ va_D A (MW Y o a I J (vf_upd F 0 f11) G) := ⟨_, rfl, hP, hD⟩
    have t12 : TO f11 := by rw [ef11]; exact TO_set hk0 (by unfold trow; omega) (by omega) (by omega) (by omega) (by omega)
    have t13 := KU_of (v := p1) (k := 7516) hk1 ef11
    refine lv_iload_n hx hb dX11_order_32 rfl (lv_at hl 0 rfl) ?_
    refine W.widen (k := 0) (n := 0) (Nat.le_of_ble_eq_true rfl) (Nat.le_of_ble_eq_true rfl) ?_
    exact W.iret (v := v10) hx hb hr (fun t ht hW => ⟨⟨(v10, f11), rfl, ⟨t12, (show (((0 ≤ p1.toInt ∧ p1.toInt ≤ 23) ∧ v10 = (F 0) 7516 ∧ KU 7516 p1 (F 0) f11) ∨ (¬ (0 ≤ p1.toInt ∧ p1.toInt ≤ 23) ∧ v10.toInt = -1 ∧ KT (F 0) f11)) from (Or.inl ⟨⟨by omega, by omega⟩, ev10, t13⟩))⟩, CB.mk ht hP hD⟩, hS.F ht⟩) hS.2.2 dX11_order_33
  · obtain rfl : u3 = 0 := i_is c8 (by decide)
    have zi0 : (0 : Int32).toInt = 0 := by decide
    refine W.eq (g2 := F0 m 9 ls [.int 0]) rfl ?_
    refine lv_if_ne (tgt := 14) hx hb dX11_order_9 (by decide) (fun c14 => ?_) (fun c14 => ?_)
    · exact absurd c14 (by decide)
    refine lv_iconst (v := (-1)) hx hb dX11_order_12 (by decide) ?_
    refine W.widen (k := 0) (n := 0) (Nat.le_of_ble_eq_true rfl) (Nat.le_of_ble_eq_true rfl) ?_
    have zim1 : ((-1) : Int32).toInt = -1 := by decide
    exact W.iret (v := (-1)) hx hb hr (fun t ht hW => ⟨⟨((-1), (F 0)), rfl, ⟨hk0, (show (((0 ≤ p1.toInt ∧ p1.toInt ≤ 23) ∧ (-1) = (F 0) 7516 ∧ KU 7516 p1 (F 0) (F 0)) ∨ (¬ (0 ≤ p1.toInt ∧ p1.toInt ≤ 23) ∧ ((-1) : Int32).toInt = -1 ∧ KT (F 0) (F 0))) from (Or.inr ⟨by omega, by decide, hk1⟩))⟩, CB.mk ht hP hD⟩, hS.F ht⟩) hS.2.2 dX11_order_13
