set_option maxHeartbeats 4000000 in
set_option maxRecDepth 100000 in
theorem m_maskS (l : Launch) (D : va_G) (Y : Nat → ClassId) (Z : Nat → Nat) (sz : Nat) (o : Nat) (a : Nat → Nat) (I : Nat → Int32) (J : Nat → Int64) (F : Nat → Nat → Int32) (G : Nat → Nat → Int64) (p1 : Int32) (p2 : Int32) (p3 : Int32) (hk0 : TO (F 0)) (hk1 : KS (F 0) (F 0)) (hk2 : KD (F 0) (F 0)) : Met l yX11_mask (.code yX11_mask cX11_mask 4 (some .boolean) :: GW) ({ frames := 1, cells := 0, slots := 0, locals := 25 }) (va_Pc [.ref o, .int p1, .int p2, .int p3] (CP D Y Z (MW Y o a I J F G) sz)) (QG (S := Int32 × (Nat → Int32)) (fun u => some (.int u.1)) (fun u => (0 ≤ u.1.toInt ∧ u.1.toInt ≤ 1) ∧ TO u.2 ∧ KS (F 0) u.2 ∧ KD (F 0) u.2) (fun u => CB D (MW Y o a I J (vf_upd F 0 u.2) G) (va_A (MW Y o a I J F G) sz)) (va_A (MW Y o a I J F G) sz)) 0 0 (va_A (MW Y o a I J F G) sz) := by
  refine Met.ofW (cc := cX11_mask) (maxL := 4) (ret := (some .boolean)) (by decide) rfl ?_
  intro p e s m args below meth c s₁ B hml hv
  obtain ⟨rfl, hsz, hP, hKN, hD0⟩ := hv
  have hx := B.exec
  have hb := B.bytes
  have hr := B.returns
  have hts := atoms_spec (ws := .code yX11_mask cX11_mask 4 (some .boolean) :: GW) B.pre
  have hg : ∀ w ∈ GW, w.before _ s = true := fun w h => hts w (List.mem_cons_of_mem _ h)
  have hown : s.vm.findClass RX11 = some m.cls := findClass_of_methodNamed B.named
  have hlocks := B.notSynchronized
  subst hsz
  have hD := hD0.self (sz := s.heap.size)
  generalize hAe : va_A (MW Y o a I J F G) s.heap.size = A at hD ⊢
  have hA : ∀ q : Nat, s.heap.size ≤ q → A q := fun q h => by rw [← hAe]; exact Or.inr h
  clear hAe hD0 hts B
  have hl := lv_entry ([.ref o, .int p1, .int p2, .int p3]) (n := 4) (Nat.le_of_ble_eq_true rfl)
  rw [lg_entry_eq]
  generalize (lg_sl ([.ref o, .int p1, .int p2, .int p3]) ++ List.replicate (4 - (lg_sl ([.ref o, .int p1, .int p2, .int p3])).length) Slot.unset).toArray = ls at hl ⊢
  have hl : lv_has ls 4 [(0, .ref o), (1, .int p1), (2, .int p2), (3, .int p3)] := hl
  refine w_start (A0 := A) hP (fun H locs hP hS => ?_)
  refine lv_iload_n hx hb dX11_mask_0 rfl (lv_at hl 1 rfl) ?_
  have j1 := rgI p1
  have j2 := Int32.toInt_toInt64 p1
  refine lv_i2l (v := p1.toInt64) hx hb dX11_mask_1 (rfl) ?_
  refine lv_lconst (v := 0) hx hb dX11_mask_2 (by decide) ?_
  refine lv_ldc2 (v := 7) hx hb hown (hg _ kw_1365) dX11_mask_3 ?_
  have zl0 : (0 : Int64).toInt = 0 := by decide
  have zl7 : (7 : Int64).toInt = 7 := by decide
  refine cg0 (rn_S (As := [.long p1.toInt64, .long 0, .long 7]) (rest := []) (m_in l D Y Z H.size   p1.toInt64 0 7 ) ⟨hx, hb, hml, hown, hg⟩ lk_X11_99 ⟨CP.blind, CP.at nilP hKN (nilD (A := fun _ => True))⟩ ⟨⟨rfl, rfl⟩, ⟨Nat.le_of_ble_eq_true rfl, Nat.le_of_ble_eq_true rfl⟩, ⟨Nat.le_of_ble_eq_true rfl, Nat.le_of_ble_eq_true rfl⟩⟩ hl.1 rfl (Nat.le_of_ble_eq_true rfl) dX11_mask_6) hP hS hA (fun u3 H locs w4 hP hS => ?_)
  obtain ⟨hw6, hw7⟩ : (((0 : Int64).toInt ≤ p1.toInt64.toInt ∧ p1.toInt64.toInt ≤ (7 : Int64).toInt ∧ u3.toInt = 1) ∨ (¬ ((0 : Int64).toInt ≤ p1.toInt64.toInt ∧ p1.toInt64.toInt ≤ (7 : Int64).toInt) ∧ u3.toInt = 0)) ∧ (0 ≤ u3.toInt ∧ u3.toInt ≤ 1) := w4
  refine W.eq (g2 := F0 m 9 ls [.int u3]) rfl ?_
  rcases (show u3.toInt = 1 ∨ u3.toInt = 0 by omega) with c8 | c8
  · obtain rfl : u3 = 1 := i_is c8 (by decide)
    have zi1 : (1 : Int32).toInt = 1 := by decide
    refine W.eq (g2 := F0 m 9 ls [.int 1]) rfl ?_
    refine lv_if_eq (tgt := 36) hx hb dX11_mask_9 (by decide) (fun c9 => ?_) (fun c9 => ?_)
    · exact absurd c9 (by decide)
    refine lv_iload_n hx hb dX11_mask_12 rfl (lv_at hl 2 rfl) ?_
    have j10 := rgI p2
    have j11 := Int32.toInt_toInt64 p2
    refine lv_i2l (v := p2.toInt64) hx hb dX11_mask_13 (rfl) ?_
    refine lv_lconst (v := 0) hx hb dX11_mask_14 (by decide) ?_
    refine lv_ldc2 (v := 12) hx hb hown (hg _ kw_1399) dX11_mask_15 ?_
    have zl12 : (12 : Int64).toInt = 12 := by decide
    refine cg0 (rn_S (As := [.long p2.toInt64, .long 0, .long 12]) (rest := []) (m_in l D Y Z H.size   p2.toInt64 0 12 ) ⟨hx, hb, hml, hown, hg⟩ lk_X11_99 ⟨CP.blind, CP.at nilP hKN (nilD (A := fun _ => True))⟩ ⟨⟨rfl, rfl⟩, ⟨Nat.le_of_ble_eq_true rfl, Nat.le_of_ble_eq_true rfl⟩, ⟨Nat.le_of_ble_eq_true rfl, Nat.le_of_ble_eq_true rfl⟩⟩ hl.1 rfl (Nat.le_of_ble_eq_true rfl) dX11_mask_18) hP hS hA (fun u12 H locs w13 hP hS => ?_)
    obtain ⟨hw15, hw16⟩ : (((0 : Int64).toInt ≤ p2.toInt64.toInt ∧ p2.toInt64.toInt ≤ (12 : Int64).toInt ∧ u12.toInt = 1) ∨ (¬ ((0 : Int64).toInt ≤ p2.toInt64.toInt ∧ p2.toInt64.toInt ≤ (12 : Int64).toInt) ∧ u12.toInt = 0)) ∧ (0 ≤ u12.toInt ∧ u12.toInt ≤ 1) := w13
    refine W.eq (g2 := F0 m 21 ls [.int u12]) rfl ?_
    rcases (show u12.toInt = 1 ∨ u12.toInt = 0 by omega) with c17 | c17
    · obtain rfl : u12 = 1 := i_is c17 (by decide)
      refine W.eq (g2 := F0 m 21 ls [.int 1]) rfl ?_
      refine lv_if_eq (tgt := 36) hx hb dX11_mask_21 (by decide) (fun c18 => ?_) (fun c18 => ?_)
      · exact absurd c18 (by decide)
      refine lv_iload_n hx hb dX11_mask_24 rfl (lv_at hl 3 rfl) ?_
      have j19 := rgI p3
      have j20 := Int32.toInt_toInt64 p3
      refine lv_i2l (v := p3.toInt64) hx hb dX11_mask_25 (rfl) ?_
      refine lv_lconst (v := 0) hx hb dX11_mask_26 (by decide) ?_
      refine lv_ldc2 (v := 30000) hx hb hown (hg _ kw_1380) dX11_mask_27 ?_
      have zl30000 : (30000 : Int64).toInt = 30000 := by decide
      refine cg0 (rn_S (As := [.long p3.toInt64, .long 0, .long 30000]) (rest := []) (m_in l D Y Z H.size   p3.toInt64 0 30000 ) ⟨hx, hb, hml, hown, hg⟩ lk_X11_99 ⟨CP.blind, CP.at nilP hKN (nilD (A := fun _ => True))⟩ ⟨⟨rfl, rfl⟩, ⟨Nat.le_of_ble_eq_true rfl, Nat.le_of_ble_eq_true rfl⟩, ⟨Nat.le_of_ble_eq_true rfl, Nat.le_of_ble_eq_true rfl⟩⟩ hl.1 rfl (Nat.le_of_ble_eq_true rfl) dX11_mask_30) hP hS hA (fun u21 H locs w22 hP hS => ?_)
      obtain ⟨hw24, hw25⟩ : (((0 : Int64).toInt ≤ p3.toInt64.toInt ∧ p3.toInt64.toInt ≤ (30000 : Int64).toInt ∧ u21.toInt = 1) ∨ (¬ ((0 : Int64).toInt ≤ p3.toInt64.toInt ∧ p3.toInt64.toInt ≤ (30000 : Int64).toInt) ∧ u21.toInt = 0)) ∧ (0 ≤ u21.toInt ∧ u21.toInt ≤ 1) := w22
      refine W.eq (g2 := F0 m 33 ls [.int u21]) rfl ?_
      rcases (show u21.toInt = 1 ∨ u21.toInt = 0 by omega) with c26 | c26
      · obtain rfl : u21 = 1 := i_is c26 (by decide)
        refine W.eq (g2 := F0 m 33 ls [.int 1]) rfl ?_
        refine lv_if_ne (tgt := 38) hx hb dX11_mask_33 (by decide) (fun c27 => ?_) (fun c27 => ?_)
        rotate_left
        · exact absurd c27 (by decide)
        refine lv_aload_n hx hb dX11_mask_38 rfl (lv_at hl 0 rfl) ?_
        refine va_get (D := D) (ci := 11) (v := .ref (a 0)) (C := RX11) (T := TX11) (N := 49) hx hb hg inGX11 hown hKN.1 hP 0 rfl rfl 0 (by decide) (hg _ kw_1208) (fun _ h9 => h9) rfl dX11_mask_39 ?_
        refine lv_sipush (v := 7517) hx hb dX11_mask_42 (by decide) ?_
        refine lv_iconst (v := 2) hx hb dX11_mask_45 (by decide) ?_
        refine lv_iload_n hx hb dX11_mask_46 rfl (lv_at hl 1 rfl) ?_
        refine lv_imul hx hb dX11_mask_47 ?_
        refine lv_topi (fun v28 ev28 => ?_)
        have hv28 := i_mul (show (2 : Int32).toInt = 2 by decide) (Eq.refl p1.toInt) ev28 (by omega) (by omega)
        refine lv_iadd hx hb dX11_mask_48 ?_
        refine lv_topi (fun v29 ev29 => ?_)
        have hv29 := i_add (show (7517 : Int32).toInt = 7517 by decide) (Eq.refl v28.toInt) ev29 (by omega) (by omega)
        refine lv_iload_n hx hb dX11_mask_49 rfl (lv_at hl 2 rfl) ?_
        refine va_iast hx hb hKN.1 hP hD hS 1 0 rfl rfl (vp_in_iff.mpr ⟨by omega, by omega⟩) dX11_mask_50 (fun H locs hP hD hS => ?_)
        obtain ⟨f30, ef30, hP, hD⟩ : ∃ f30 : Nat → Int32, f30 = upd (F 0) v29.toNatClampNeg p2 ∧ va_P D vwCl (MW Y o a I J (vf_upd F 0 f30) G) H ∧ va_D A (MW Y o a I J (vf_upd F 0 f30) G) := ⟨_, rfl, hP, hD⟩
        have ct31 := clampI (x := v29) (by omega)
        have t31 : TO f30 := by rw [ef30]; exact TO_set hk0 (by unfold trow; omega) (by omega) (by omega) (by omega) (by omega)
        have ct32 := clampI (x := v29) (by omega)
        have t32 : KS (F 0) f30 := KS_set hk1 ef30 (by omega) (by omega)
        have ct33 := clampI (x := v29) (by omega)
        have t33 : KD (F 0) f30 := KD_set hk2 ef30 (by omega) (by omega)
        refine lv_aload_n hx hb dX11_mask_51 rfl (lv_at hl 0 rfl) ?_
        refine va_get (D := D) (ci := 11) (v := .ref (a 0)) (C := RX11) (T := TX11) (N := 49) hx hb hg inGX11 hown hKN.1 hP 0 rfl rfl 0 (by decide) (hg _ kw_1208) (fun _ h9 => h9) rfl dX11_mask_52 ?_
        refine lv_sipush (v := 7517) hx hb dX11_mask_55 (by decide) ?_
        refine lv_iconst (v := 2) hx hb dX11_mask_58 (by decide) ?_
        refine lv_iload_n hx hb dX11_mask_59 rfl (lv_at hl 1 rfl) ?_
        refine lv_imul hx hb dX11_mask_60 ?_
        refine lv_topi (fun v34 ev34 => ?_)
        have hv34 := i_mul (show (2 : Int32).toInt = 2 by decide) (Eq.refl p1.toInt) ev34 (by omega) (by omega)
        refine lv_iadd hx hb dX11_mask_61 ?_
        refine lv_topi (fun v35 ev35 => ?_)
        have hv35 := i_add (show (7517 : Int32).toInt = 7517 by decide) (Eq.refl v34.toInt) ev35 (by omega) (by omega)
        refine lv_iconst (v := 1) hx hb dX11_mask_62 (by decide) ?_
        refine lv_iadd hx hb dX11_mask_63 ?_
        refine lv_topi (fun v36 ev36 => ?_)
        have hv36 := i_add (Eq.refl v35.toInt) (show (1 : Int32).toInt = 1 by decide) ev36 (by omega) (by omega)
        refine lv_iload_n hx hb dX11_mask_64 rfl (lv_at hl 3 rfl) ?_
        refine va_iast hx hb hKN.1 hP hD hS 1 0 rfl rfl (vp_in_iff.mpr ⟨by omega, by omega⟩) dX11_mask_65 (fun H locs hP hD hS => ?_)
        obtain ⟨f37, ef37, hP, hD⟩ : ∃ f37 : Nat → Int32, f37 = upd f30 v36.toNatClampNeg p3 ∧ va_P D vwCl (MW Y o a I J (vf_upd F 0 f37) G) H ∧ va_D A (MW Y o a I J (vf_upd F 0 f37) G) := ⟨_, rfl, hP, hD⟩
        have ct38 := clampI (x := v36) (by omega)
        have t38 : TO f37 := by rw [ef37]; exact TO_set t31 (by unfold trow; omega) (by omega) (by omega) (by omega) (by omega)
        have ct39 := clampI (x := v36) (by omega)
        have t39 : KS (F 0) f37 := KS_set t32 ef37 (by omega) (by omega)
        have ct40 := clampI (x := v36) (by omega)
        have t40 : KD (F 0) f37 := KD_set t33 ef37 (by omega) (by omega)
        refine lv_iconst (v := 1) hx hb dX11_mask_66 (by decide) ?_
        refine W.widen (k := 0) (n := 0) (Nat.le_of_ble_eq_true rfl) (Nat.le_of_ble_eq_true rfl) ?_
        exact W.zret (v := 1) hx hb hr (by decide) (fun t ht hW => ⟨⟨(1, f37), rfl, ⟨(show (0 ≤ (1 : Int32).toInt ∧ (1 : Int32).toInt ≤ 1) by omega), t38, t39, t40⟩, CB.mk ht hP hD⟩, hS.F ht⟩) hS.2.2 dX11_mask_67
      · obtain rfl : u21 = 0 := i_is c26 (by decide)
        have zi0 : (0 : Int32).toInt = 0 := by decide
        refine W.eq (g2 := F0 m 33 ls [.int 0]) rfl ?_
        refine lv_if_ne (tgt := 38) hx hb dX11_mask_33 (by decide) (fun c41 => ?_) (fun c41 => ?_)
        · exact absurd c41 (by decide)
        refine lv_iconst (v := 0) hx hb dX11_mask_36 (by decide) ?_
        refine W.widen (k := 0) (n := 0) (Nat.le_of_ble_eq_true rfl) (Nat.le_of_ble_eq_true rfl) ?_
        exact W.zret (v := 0) hx hb hr (by decide) (fun t ht hW => ⟨⟨(0, (F 0)), rfl, ⟨(show (0 ≤ (0 : Int32).toInt ∧ (0 : Int32).toInt ≤ 1) by omega), hk0, hk1, hk2⟩, CB.mk ht hP hD⟩, hS.F ht⟩) hS.2.2 dX11_mask_37
    · obtain rfl : u12 = 0 := i_is c17 (by decide)
      have zi0 : (0 : Int32).toInt = 0 := by decide
      refine W.eq (g2 := F0 m 21 ls [.int 0]) rfl ?_
      refine lv_if_eq (tgt := 36) hx hb dX11_mask_21 (by decide) (fun c42 => ?_) (fun c42 => ?_)
      rotate_left
      · exact absurd c42 (by decide)
      refine lv_iconst (v := 0) hx hb dX11_mask_36 (by decide) ?_
      refine W.widen (k := 0) (n := 0) (Nat.le_of_ble_eq_true rfl) (Nat.le_of_ble_eq_true rfl) ?_
      exact W.zret (v := 0) hx hb hr (by decide) (fun t ht hW => ⟨⟨(0, (F 0)), rfl, ⟨(show (0 ≤ (0 : Int32).toInt ∧ (0 : Int32).toInt ≤ 1) by omega), hk0, hk1, hk2⟩, CB.mk ht hP hD⟩, hS.F ht⟩) hS.2.2 dX11_mask_37
  · obtain rfl : u3 = 0 := i_is c8 (by decide)
    have zi0 : (0 : Int32).toInt = 0 := by decide
    refine W.eq (g2 := F0 m 9 ls [.int 0]) rfl ?_
    refine lv_if_eq (tgt := 36) hx hb dX11_mask_9 (by decide) (fun c43 => ?_) (fun c43 => ?_)
    rotate_left
    · exact absurd c43 (by decide)
    refine lv_iconst (v := 0) hx hb dX11_mask_36 (by decide) ?_
    refine W.widen (k := 0) (n := 0) (Nat.le_of_ble_eq_true rfl) (Nat.le_of_ble_eq_true rfl) ?_
    exact W.zret (v := 0) hx hb hr (by decide) (fun t ht hW => ⟨⟨(0, (F 0)), rfl, ⟨(show (0 ≤ (0 : Int32).toInt ∧ (0 : Int32).toInt ≤ 1) by omega), hk0, hk1, hk2⟩, CB.mk ht hP hD⟩, hS.F ht⟩) hS.2.2 dX11_mask_37
set_option maxHeartbeats 4000000 in
set_option maxRecDepth 100000 in
theorem m_wideS (l : Launch) (D : va_G) (Y : Nat → ClassId) (Z : Nat → Nat) (sz : Nat) (o : Nat) (a : Nat → Nat) (I : Nat → Int32) (J : Nat → Int64) (F : Nat → Nat → Int32) (G : Nat → Nat → Int64) (p1 : Int32) (hk0 : TO (F 0)) (hk1 : KS (F 0) (F 0)) (hk2 : KD (F 0) (F 0)) : Met l yX11_wide (.code yX11_wide cX11_wide 3 (some .int) :: GW) ({ frames := 1, cells := 0, slots := 0, locals := 25 }) (va_Pc [.ref o, .int p1] (CP D Y Z (MW Y o a I J F G) sz)) (QG (S := Int32 × (Nat → Int32)) (fun u => some (.int u.1)) (fun u => TO u.2 ∧ KS (F 0) u.2 ∧ KD (F 0) u.2) (fun u => CB D (MW Y o a I J (vf_upd F 0 u.2) G) (va_A (MW Y o a I J F G) sz)) (va_A (MW Y o a I J F G) sz)) 0 0 (va_A (MW Y o a I J F G) sz) := by
  refine Met.ofW (cc := cX11_wide) (maxL := 3) (ret := (some .int)) (by decide) rfl ?_
  intro p e s m args below meth c s₁ B hml hv
  obtain ⟨rfl, hsz, hP, hKN, hD0⟩ := hv
  have hx := B.exec
  have hb := B.bytes
  have hr := B.returns
  have hts := atoms_spec (ws := .code yX11_wide cX11_wide 3 (some .int) :: GW) B.pre
  have hg : ∀ w ∈ GW, w.before _ s = true := fun w h => hts w (List.mem_cons_of_mem _ h)
  have hown : s.vm.findClass RX11 = some m.cls := findClass_of_methodNamed B.named
  have hlocks := B.notSynchronized
  subst hsz
  have hD := hD0.self (sz := s.heap.size)
  generalize hAe : va_A (MW Y o a I J F G) s.heap.size = A at hD ⊢
  have hA : ∀ q : Nat, s.heap.size ≤ q → A q := fun q h => by rw [← hAe]; exact Or.inr h
  clear hAe hD0 hts B
  have hl := lv_entry ([.ref o, .int p1]) (n := 3) (Nat.le_of_ble_eq_true rfl)
  rw [lg_entry_eq]
  generalize (lg_sl ([.ref o, .int p1]) ++ List.replicate (3 - (lg_sl ([.ref o, .int p1])).length) Slot.unset).toArray = ls at hl ⊢
  have hl : lv_has ls 3 [(0, .ref o), (1, .int p1)] := hl
  refine w_start (A0 := A) hP (fun H locs hP hS => ?_)
  refine lv_iload_n hx hb dX11_wide_0 rfl (lv_at hl 1 rfl) ?_
  have j1 := rgI p1
  have j2 := Int32.toInt_toInt64 p1
  refine lv_i2l (v := p1.toInt64) hx hb dX11_wide_1 (rfl) ?_
  refine lv_lconst (v := 0) hx hb dX11_wide_2 (by decide) ?_
  refine lv_ldc2 (v := 50) hx hb hown (hg _ kw_1394) dX11_wide_3 ?_
  have zl0 : (0 : Int64).toInt = 0 := by decide
  have zl50 : (50 : Int64).toInt = 50 := by decide
  refine cg0 (rn_S (As := [.long p1.toInt64, .long 0, .long 50]) (rest := []) (m_in l D Y Z H.size   p1.toInt64 0 50 ) ⟨hx, hb, hml, hown, hg⟩ lk_X11_99 ⟨CP.blind, CP.at nilP hKN (nilD (A := fun _ => True))⟩ ⟨⟨rfl, rfl⟩, ⟨Nat.le_of_ble_eq_true rfl, Nat.le_of_ble_eq_true rfl⟩, ⟨Nat.le_of_ble_eq_true rfl, Nat.le_of_ble_eq_true rfl⟩⟩ hl.1 rfl (Nat.le_of_ble_eq_true rfl) dX11_wide_6) hP hS hA (fun u3 H locs w4 hP hS => ?_)
  obtain ⟨hw6, hw7⟩ : (((0 : Int64).toInt ≤ p1.toInt64.toInt ∧ p1.toInt64.toInt ≤ (50 : Int64).toInt ∧ u3.toInt = 1) ∨ (¬ ((0 : Int64).toInt ≤ p1.toInt64.toInt ∧ p1.toInt64.toInt ≤ (50 : Int64).toInt) ∧ u3.toInt = 0)) ∧ (0 ≤ u3.toInt ∧ u3.toInt ≤ 1) := w4
  refine W.eq (g2 := F0 m 9 ls [.int u3]) rfl ?_
  rcases (show u3.toInt = 1 ∨ u3.toInt = 0 by omega) with c8 | c8
  · obtain rfl : u3 = 1 := i_is c8 (by decide)
    have zi1 : (1 : Int32).toInt = 1 := by decide
    refine W.eq (g2 := F0 m 9 ls [.int 1]) rfl ?_
    refine lv_if_ne (tgt := 14) hx hb dX11_wide_9 (by decide) (fun c9 => ?_) (fun c9 => ?_)
    rotate_left
    · exact absurd c9 (by decide)
    refine lv_aload_n hx hb dX11_wide_14 rfl (lv_at hl 0 rfl) ?_
    refine va_get (D := D) (ci := 11) (v := .ref (a 0)) (C := RX11) (T := TX11) (N := 49) hx hb hg inGX11 hown hKN.1 hP 0 rfl rfl 0 (by decide) (hg _ kw_1208) (fun _ h9 => h9) rfl dX11_wide_15 ?_
    refine lv_sipush (v := 7515) hx hb dX11_wide_18 (by decide) ?_
    refine va_iald hx hb hKN.1 hP 1 0 rfl rfl (show ¬ ((7515 : Int32) < 0 ∨ 7533 ≤ (7515 : Int32).toNatClampNeg) by decide) dX11_wide_21 ?_
    refine lv_topi (fun v10 ev10 => ?_)
    have ev10 : v10 = (F 0) 7515 := ev10
    have kv10 := TO_7515 hk0
    rw [← ev10] at kv10
    have qv10 := congrArg Int32.toInt ev10
    refine lv_istore_n (lv' := [(2, .int v10), (0, .ref o), (1, .int p1)]) hx hb dX11_wide_22 rfl hl (by decide) rfl (fun ls hl => ?_)
    refine lv_aload_n hx hb dX11_wide_23 rfl (lv_at hl 1 rfl) ?_
    refine va_get (D := D) (ci := 11) (v := .ref (a 0)) (C := RX11) (T := TX11) (N := 49) hx hb hg inGX11 hown hKN.1 hP 0 rfl rfl 0 (by decide) (hg _ kw_1208) (fun _ h9 => h9) rfl dX11_wide_24 ?_
    refine lv_sipush (v := 7515) hx hb dX11_wide_27 (by decide) ?_
    refine lv_iload_n hx hb dX11_wide_30 rfl (lv_at hl 2 rfl) ?_
    refine va_iast hx hb hKN.1 hP hD hS 1 0 rfl rfl (show ¬ ((7515 : Int32) < 0 ∨ 7533 ≤ (7515 : Int32).toNatClampNeg) by decide) dX11_wide_31 (fun H locs hP hD hS => ?_)
    obtain ⟨f11, ef11, hP, hD⟩ : ∃ f11 : Nat → Int32, f11 = upd (F 0) 7515 p1 ∧ va_P D vwCl (MW Y o a I J (vf_upd F 0 f11) G) H ∧ va_D A (MW Y o a I J (vf_upd F 0 f11) G) := ⟨_, rfl, hP, hD⟩
    have t12 : TO f11 := by rw [ef11]; exact TO_set hk0 (by unfold trow; omega) (by omega) (by omega) (by omega) (by omega)
    have t13 : KS (F 0) f11 := KS_set hk1 ef11 (by omega) (by omega)
    have t14 : KD (F 0) f11 := KD_set hk2 ef11 (by omega) (by omega)
    refine lv_iload_n hx hb dX11_wide_32 rfl (lv_at hl 0 rfl) ?_
    refine W.widen (k := 0) (n := 0) (Nat.le_of_ble_eq_true rfl) (Nat.le_of_ble_eq_true rfl) ?_
    exact W.iret (v := v10) hx hb hr (fun t ht hW => ⟨⟨(v10, f11), rfl, ⟨t12, t13, t14⟩, CB.mk ht hP hD⟩, hS.F ht⟩) hS.2.2 dX11_wide_33
  · obtain rfl : u3 = 0 := i_is c8 (by decide)
    have zi0 : (0 : Int32).toInt = 0 := by decide
    refine W.eq (g2 := F0 m 9 ls [.int 0]) rfl ?_
    refine lv_if_ne (tgt := 14) hx hb dX11_wide_9 (by decide) (fun c15 => ?_) (fun c15 => ?_)
    · exact absurd c15 (by decide)
    refine lv_iconst (v := (-1)) hx hb dX11_wide_12 (by decide) ?_
    refine W.widen (k := 0) (n := 0) (Nat.le_of_ble_eq_true rfl) (Nat.le_of_ble_eq_true rfl) ?_
    have zim1 : ((-1) : Int32).toInt = -1 := by decide
    exact W.iret (v := (-1)) hx hb hr (fun t ht hW => ⟨⟨((-1), (F 0)), rfl, ⟨hk0, hk1, hk2⟩, CB.mk ht hP hD⟩, hS.F ht⟩) hS.2.2 dX11_wide_13
set_option maxHeartbeats 4000000 in
set_option maxRecDepth 100000 in
theorem m_orderS (l : Launch) (D : va_G) (Y : Nat → ClassId) (Z : Nat → Nat) (sz : Nat) (o : Nat) (a : Nat → Nat) (I : Nat → Int32) (J : Nat → Int64) (F : Nat → Nat → Int32) (G : Nat → Nat → Int64) (p1 : Int32) (hk0 : TO (F 0)) (hk1 : KS (F 0) (F 0)) (hk2 : KD (F 0) (F 0)) : Met l yX11_order (.code yX11_order cX11_order 3 (some .int) :: GW) ({ frames := 1, cells := 0, slots := 0, locals := 25 }) (va_Pc [.ref o, .int p1] (CP D Y Z (MW Y o a I J F G) sz)) (QG (S := Int32 × (Nat → Int32)) (fun u => some (.int u.1)) (fun u => TO u.2 ∧ KS (F 0) u.2 ∧ KD (F 0) u.2) (fun u => CB D (MW Y o a I J (vf_upd F 0 u.2) G) (va_A (MW Y o a I J F G) sz)) (va_A (MW Y o a I J F G) sz)) 0 0 (va_A (MW Y o a I J F G) sz) := by
  refine Met.ofW (cc := cX11_order) (maxL := 3) (ret := (some .int)) (by decide) rfl ?_
  intro p e s m args below meth c s₁ B hml hv
  obtain ⟨rfl, hsz, hP, hKN, hD0⟩ := hv
  have hx := B.exec
  have hb := B.bytes
  have hr := B.returns
  have hts := atoms_spec (ws := .code yX11_order cX11_order 3 (some .int) :: GW) B.pre
  have hg : ∀ w ∈ GW, w.before _ s = true := fun w h => hts w (List.mem_cons_of_mem _ h)
  have hown : s.vm.findClass RX11 = some m.cls := findClass_of_methodNamed B.named
  have hlocks := B.notSynchronized
  subst hsz
  have hD := hD0.self (sz := s.heap.size)
  generalize hAe : va_A (MW Y o a I J F G) s.heap.size = A at hD ⊢
  have hA : ∀ q : Nat, s.heap.size ≤ q → A q := fun q h => by rw [← hAe]; exact Or.inr h
  clear hAe hD0 hts B
  have hl := lv_entry ([.ref o, .int p1]) (n := 3) (Nat.le_of_ble_eq_true rfl)
  rw [lg_entry_eq]
  generalize (lg_sl ([.ref o, .int p1]) ++ List.replicate (3 - (lg_sl ([.ref o, .int p1])).length) Slot.unset).toArray = ls at hl ⊢
  have hl : lv_has ls 3 [(0, .ref o), (1, .int p1)] := hl
  refine w_start (A0 := A) hP (fun H locs hP hS => ?_)
  refine lv_iload_n hx hb dX11_order_0 rfl (lv_at hl 1 rfl) ?_
  have j1 := rgI p1
  have j2 := Int32.toInt_toInt64 p1
  refine lv_i2l (v := p1.toInt64) hx hb dX11_order_1 (rfl) ?_
  refine lv_lconst (v := 0) hx hb dX11_order_2 (by decide) ?_
  refine lv_ldc2 (v := 23) hx hb hown (hg _ kw_1404) dX11_order_3 ?_
  have zl0 : (0 : Int64).toInt = 0 := by decide
  have zl23 : (23 : Int64).toInt = 23 := by decide
  refine cg0 (rn_S (As := [.long p1.toInt64, .long 0, .long 23]) (rest := []) (m_in l D Y Z H.size   p1.toInt64 0 23 ) ⟨hx, hb, hml, hown, hg⟩ lk_X11_99 ⟨CP.blind, CP.at nilP hKN (nilD (A := fun _ => True))⟩ ⟨⟨rfl, rfl⟩, ⟨Nat.le_of_ble_eq_true rfl, Nat.le_of_ble_eq_true rfl⟩, ⟨Nat.le_of_ble_eq_true rfl, Nat.le_of_ble_eq_true rfl⟩⟩ hl.1 rfl (Nat.le_of_ble_eq_true rfl) dX11_order_6) hP hS hA (fun u3 H locs w4 hP hS => ?_)
  obtain ⟨hw6, hw7⟩ : (((0 : Int64).toInt ≤ p1.toInt64.toInt ∧ p1.toInt64.toInt ≤ (23 : Int64).toInt ∧ u3.toInt = 1) ∨ (¬ ((0 : Int64).toInt ≤ p1.toInt64.toInt ∧ p1.toInt64.toInt ≤ (23 : Int64).toInt) ∧ u3.toInt = 0)) ∧ (0 ≤ u3.toInt ∧ u3.toInt ≤ 1) := w4
  refine W.eq (g2 := F0 m 9 ls [.int u3]) rfl ?_
  rcases (show u3.toInt = 1 ∨ u3.toInt = 0 by omega) with c8 | c8
  · obtain rfl : u3 = 1 := i_is c8 (by decide)
    have zi1 : (1 : Int32).toInt = 1 := by decide
    refine W.eq (g2 := F0 m 9 ls [.int 1]) rfl ?_
    refine lv_if_ne (tgt := 14) hx hb dX11_order_9 (by decide) (fun c9 => ?_) (fun c9 => ?_)
    rotate_left
    · exact absurd c9 (by decide)
    refine lv_aload_n hx hb dX11_order_14 rfl (lv_at hl 0 rfl) ?_
    refine va_get (D := D) (ci := 11) (v := .ref (a 0)) (C := RX11) (T := TX11) (N := 49) hx hb hg inGX11 hown hKN.1 hP 0 rfl rfl 0 (by decide) (hg _ kw_1208) (fun _ h9 => h9) rfl dX11_order_15 ?_
    refine lv_sipush (v := 7516) hx hb dX11_order_18 (by decide) ?_
    refine va_iald hx hb hKN.1 hP 1 0 rfl rfl (show ¬ ((7516 : Int32) < 0 ∨ 7533 ≤ (7516 : Int32).toNatClampNeg) by decide) dX11_order_21 ?_
    refine lv_topi (fun v10 ev10 => ?_)
    have ev10 : v10 = (F 0) 7516 := ev10
    have kv10 := TO_7516 hk0
    rw [← ev10] at kv10
    have qv10 := congrArg Int32.toInt ev10
    refine lv_istore_n (lv' := [(2, .int v10), (0, .ref o), (1, .int p1)]) hx hb dX11_order_22 rfl hl (by decide) rfl (fun ls hl => ?_)
    refine lv_aload_n hx hb dX11_order_23 rfl (lv_at hl 1 rfl) ?_
    refine va_get (D := D) (ci := 11) (v := .ref (a 0)) (C := RX11) (T := TX11) (N := 49) hx hb hg inGX11 hown hKN.1 hP 0 rfl rfl 0 (by decide) (hg _ kw_1208) (fun _ h9 => h9) rfl dX11_order_24 ?_
    refine lv_sipush (v := 7516) hx hb dX11_order_27 (by decide) ?_
    refine lv_iload_n hx hb dX11_order_30 rfl (lv_at hl 2 rfl) ?_
    refine va_iast hx hb hKN.1 hP hD hS 1 0 rfl rfl (show ¬ ((7516 : Int32) < 0 ∨ 7533 ≤ (7516 : Int32).toNatClampNeg) by decide) dX11_order_31 (fun H locs hP hD hS => ?_)
    obtain ⟨f11, ef11, hP, hD⟩ : ∃ f11 : Nat → Int32, f11 = upd (F 0) 7516 p1 ∧ va_P D vwCl (MW Y o a I J (vf_upd F 0 f11) G) H ∧ va_D A (MW Y o a I J (vf_upd F 0 f11) G) := ⟨_, rfl, hP, hD⟩
    have t12 : TO f11 := by rw [ef11]; exact TO_set hk0 (by unfold trow; omega) (by omega) (by omega) (by omega) (by omega)
    have t13 : KS (F 0) f11 := KS_set hk1 ef11 (by omega) (by omega)
    have t14 : KD (F 0) f11 := KD_set hk2 ef11 (by omega) (by omega)
    refine lv_iload_n hx hb dX11_order_32 rfl (lv_at hl 0 rfl) ?_
    refine W.widen (k := 0) (n := 0) (Nat.le_of_ble_eq_true rfl) (Nat.le_of_ble_eq_true rfl) ?_
    exact W.iret (v := v10) hx hb hr (fun t ht hW => ⟨⟨(v10, f11), rfl, ⟨t12, t13, t14⟩, CB.mk ht hP hD⟩, hS.F ht⟩) hS.2.2 dX11_order_33
  · obtain rfl : u3 = 0 := i_is c8 (by decide)
    have zi0 : (0 : Int32).toInt = 0 := by decide
    refine W.eq (g2 := F0 m 9 ls [.int 0]) rfl ?_
    refine lv_if_ne (tgt := 14) hx hb dX11_order_9 (by decide) (fun c15 => ?_) (fun c15 => ?_)
    · exact absurd c15 (by decide)
    refine lv_iconst (v := (-1)) hx hb dX11_order_12 (by decide) ?_
    refine W.widen (k := 0) (n := 0) (Nat.le_of_ble_eq_true rfl) (Nat.le_of_ble_eq_true rfl) ?_
    have zim1 : ((-1) : Int32).toInt = -1 := by decide
    exact W.iret (v := (-1)) hx hb hr (fun t ht hW => ⟨⟨((-1), (F 0)), rfl, ⟨hk0, hk1, hk2⟩, CB.mk ht hP hD⟩, hS.F ht⟩) hS.2.2 dX11_order_13
set_option maxHeartbeats 4000000 in
set_option maxRecDepth 100000 in
theorem m_makeS (l : Launch) (D : va_G) (Y : Nat → ClassId) (Z : Nat → Nat) (sz : Nat) (o : Nat) (a : Nat → Nat) (I : Nat → Int32) (J : Nat → Int64) (F : Nat → Nat → Int32) (G : Nat → Nat → Int64) (p1 : Int32) (p2 : Int32) (p3 : Int32) (p4 : Int32) (p5 : Int32) (hk0 : TO (F 0)) (hk1 : TX (F 4) (F 9) (F 10) (F 11) (F 12) (F 13)) (hk2 : TC (F 4) (F 8) (F 7) (F 5)) (hk3 : KS (F 0) (F 0)) (hk4 : KD (F 0) (F 0)) : Met l yX11_make (.code yX11_make cX11_make 13 (some .int) :: GW) ({ frames := 3, cells := 0, slots := 0, locals := 77 }) (va_Pc [.ref o, .int p1, .int p2, .int p3, .int p4, .int p5] (CP D Y Z (MW Y o a I J F G) sz)) (QG (S := Int32 × Int32 × (Nat → Int64) × (Nat → Int64) × (Nat → Int32)) (fun u => some (.int u.1)) (fun u => TO u.2.2.2.2 ∧ KS (F 0) u.2.2.2.2 ∧ KD (F 0) u.2.2.2.2) (fun u => CB D (MW Y o a (upd I 26 u.2.1) J (vf_upd F 0 u.2.2.2.2) (vf_upd (vf_upd G 25 u.2.2.1) 27 u.2.2.2.1)) (va_A (MW Y o a I J F G) sz)) (va_A (MW Y o a I J F G) sz)) 0 0 (va_A (MW Y o a I J F G) sz) := by
  refine Met.ofW (cc := cX11_make) (maxL := 13) (ret := (some .int)) (by decide) rfl ?_
  intro p e s m args below meth c s₁ B hml hv
  obtain ⟨rfl, hsz, hP, hKN, hD0⟩ := hv
  have hx := B.exec
  have hb := B.bytes
  have hr := B.returns
  have hts := atoms_spec (ws := .code yX11_make cX11_make 13 (some .int) :: GW) B.pre
  have hg : ∀ w ∈ GW, w.before _ s = true := fun w h => hts w (List.mem_cons_of_mem _ h)
  have hown : s.vm.findClass RX11 = some m.cls := findClass_of_methodNamed B.named
  have hlocks := B.notSynchronized
  subst hsz
  have hD := hD0.self (sz := s.heap.size)
  generalize hAe : va_A (MW Y o a I J F G) s.heap.size = A at hD ⊢
  have hA : ∀ q : Nat, s.heap.size ≤ q → A q := fun q h => by rw [← hAe]; exact Or.inr h
  clear hAe hD0 hts B
  have hl := lv_entry ([.ref o, .int p1, .int p2, .int p3, .int p4, .int p5]) (n := 13) (Nat.le_of_ble_eq_true rfl)
  rw [lg_entry_eq]
  generalize (lg_sl ([.ref o, .int p1, .int p2, .int p3, .int p4, .int p5]) ++ List.replicate (13 - (lg_sl ([.ref o, .int p1, .int p2, .int p3, .int p4, .int p5])).length) Slot.unset).toArray = ls at hl ⊢
  have hl : lv_has ls 13 [(0, .ref o), (1, .int p1), (2, .int p2), (3, .int p3), (4, .int p4), (5, .int p5)] := hl
  refine w_start (A0 := A) hP (fun H locs hP hS => ?_)
  refine lv_aload_n hx hb dX11_make_0 rfl (lv_at hl 0 rfl) ?_
  refine lv_iconst (v := 0) hx hb dX11_make_1 (by decide) ?_
  refine lv_iload_n hx hb dX11_make_2 rfl (lv_at hl 1 rfl) ?_
  have zi0 : (0 : Int32).toInt = 0 := by decide
  refine cga (rn_V (As := [.int 0, .int p1]) (rest := []) (b := o) (m_isText0 l D Y Z H.size o a I J F G  p1 hk1) ⟨hx, hb, hml, hown, hg⟩ lk_X11_366 ⟨CP.blind, va_recv hKN.1 hP (ci := 11) (q0 := 0) rfl rfl, CP.at hP hKN hD⟩ ⟨⟨rfl, rfl⟩, ⟨Nat.le_of_ble_eq_true rfl, Nat.le_of_ble_eq_true rfl⟩, ⟨Nat.le_of_ble_eq_true rfl, Nat.le_of_ble_eq_true rfl⟩⟩ hl.1 rfl (Nat.le_of_ble_eq_true rfl) dX11_make_3) hP hD hS hA (fun u1 H locs w2 hP hD hS => ?_)
  obtain ⟨hw4, hw5⟩ : ((0 ≤ p1.toInt ∧ p1.toInt ≤ 5 ∧ p1.toInt < ((F 4) 0).toInt ∧ u1.toInt = 1) ∨ u1.toInt = 0) ∧ (0 ≤ u1.toInt ∧ u1.toInt ≤ 1) := w2
  refine W.eq (g2 := F0 m 6 ls [.int u1]) rfl ?_
  have hP : va_P D vwCl (MW Y o a I J F G) H := hP
  have hD : va_D A (MW Y o a I J F G) := hD
  rcases (show u1.toInt = 1 ∨ u1.toInt = 0 by omega) with c6 | c6
  · obtain rfl : u1 = 1 := i_is c6 (by decide)
    have zi1 : (1 : Int32).toInt = 1 := by decide
    refine W.eq (g2 := F0 m 6 ls [.int 1]) rfl ?_
    refine lv_if_eq (tgt := 44) hx hb dX11_make_6 (by decide) (fun c7 => ?_) (fun c7 => ?_)
    · exact absurd c7 (by decide)
    refine lv_aload_n hx hb dX11_make_9 rfl (lv_at hl 0 rfl) ?_
    refine lv_iload_n hx hb dX11_make_10 rfl (lv_at hl 2 rfl) ?_
    refine cga (rn_V (As := [.int p2]) (rest := []) (b := o) (m_isStar l D Y Z H.size o a I J F G  p2 hk0) ⟨hx, hb, hml, hown, hg⟩ lk_X11_108 ⟨CP.blind, va_recv hKN.1 hP (ci := 11) (q0 := 0) rfl rfl, CP.at hP hKN hD⟩ ⟨⟨rfl, rfl⟩, ⟨Nat.le_of_ble_eq_true rfl, Nat.le_of_ble_eq_true rfl⟩, ⟨Nat.le_of_ble_eq_true rfl, Nat.le_of_ble_eq_true rfl⟩⟩ hl.1 rfl (Nat.le_of_ble_eq_true rfl) dX11_make_11) hP hD hS hA (fun u8 H locs w9 hP hD hS => ?_)
    obtain ⟨hw11, hw12⟩ : ((0 ≤ p2.toInt ∧ p2.toInt ≤ 11 ∧ p2.toInt < ((F 0) 0).toInt ∧ u8.toInt = 1) ∨ (¬ (0 ≤ p2.toInt ∧ p2.toInt < ((F 0) 0).toInt) ∧ u8.toInt = 0)) ∧ (0 ≤ u8.toInt ∧ u8.toInt ≤ 1) := w9
    refine W.eq (g2 := F0 m 14 ls [.int u8]) rfl ?_
    have hP : va_P D vwCl (MW Y o a I J F G) H := hP
    have hD : va_D A (MW Y o a I J F G) := hD
    rcases (show u8.toInt = 1 ∨ u8.toInt = 0 by omega) with c13 | c13
    · obtain rfl : u8 = 1 := i_is c13 (by decide)
      refine W.eq (g2 := F0 m 14 ls [.int 1]) rfl ?_
      refine lv_if_eq (tgt := 44) hx hb dX11_make_14 (by decide) (fun c14 => ?_) (fun c14 => ?_)
      · exact absurd c14 (by decide)
      refine lv_iload_n hx hb dX11_make_17 rfl (lv_at hl 3 rfl) ?_
      have j15 := rgI p3
      refine lv_if_lt (tgt := 44) hx hb dX11_make_18 (by decide) (fun c16 => ?_) (fun c16 => ?_)
      · skip
        have c16 := i_lt (Eq.refl p3.toInt) (show (0 : Int32).toInt = 0 by decide) c16
        refine lv_iconst (v := (-1)) hx hb dX11_make_44 (by decide) ?_
        refine W.widen (k := 0) (n := 0) (Nat.le_of_ble_eq_true rfl) (Nat.le_of_ble_eq_true rfl) ?_
        have zim1 : ((-1) : Int32).toInt = -1 := by decide
        exact W.iret (v := (-1)) hx hb hr (fun t ht hW => ⟨⟨((-1), (I 26), (G 25), (G 27), (F 0)), rfl, ⟨hk0, hk3, hk4⟩, CB.mk ht hP hD⟩, hS.F ht⟩) hS.2.2 dX11_make_45
      · skip
        have c16 := i_nlt (Eq.refl p3.toInt) (show (0 : Int32).toInt = 0 by decide) c16
        refine lv_iload hx hb dX11_make_21 (lv_at hl 4 rfl) ?_
        refine cg0 (rn_S (As := [.int p4]) (rest := []) (m_isHour l D Y Z H.size   p4 ) ⟨hx, hb, hml, hown, hg⟩ lk_X11_112 ⟨CP.blind, CP.at nilP hKN (nilD (A := fun _ => True))⟩ ⟨⟨rfl, rfl⟩, ⟨Nat.le_of_ble_eq_true rfl, Nat.le_of_ble_eq_true rfl⟩, ⟨Nat.le_of_ble_eq_true rfl, Nat.le_of_ble_eq_true rfl⟩⟩ hl.1 rfl (Nat.le_of_ble_eq_true rfl) dX11_make_23) hP hS hA (fun u17 H locs w18 hP hS => ?_)
        obtain ⟨hw20, hw21⟩ : ((0 ≤ p4.toInt ∧ p4.toInt ≤ 599 ∧ u17.toInt = 1) ∨ (¬ (0 ≤ p4.toInt ∧ p4.toInt ≤ 599) ∧ u17.toInt = 0)) ∧ (0 ≤ u17.toInt ∧ u17.toInt ≤ 1) := w18
        refine W.eq (g2 := F0 m 26 ls [.int u17]) rfl ?_
        rcases (show u17.toInt = 1 ∨ u17.toInt = 0 by omega) with c22 | c22
        · obtain rfl : u17 = 1 := i_is c22 (by decide)
          refine W.eq (g2 := F0 m 26 ls [.int 1]) rfl ?_
          refine lv_if_eq (tgt := 44) hx hb dX11_make_26 (by decide) (fun c23 => ?_) (fun c23 => ?_)
          · exact absurd c23 (by decide)
          refine lv_iload hx hb dX11_make_29 (lv_at hl 5 rfl) ?_
          refine cg0 (rn_S (As := [.int p5]) (rest := []) (m_isHour l D Y Z H.size   p5 ) ⟨hx, hb, hml, hown, hg⟩ lk_X11_112 ⟨CP.blind, CP.at nilP hKN (nilD (A := fun _ => True))⟩ ⟨⟨rfl, rfl⟩, ⟨Nat.le_of_ble_eq_true rfl, Nat.le_of_ble_eq_true rfl⟩, ⟨Nat.le_of_ble_eq_true rfl, Nat.le_of_ble_eq_true rfl⟩⟩ hl.1 rfl (Nat.le_of_ble_eq_true rfl) dX11_make_31) hP hS hA (fun u24 H locs w25 hP hS => ?_)
          obtain ⟨hw27, hw28⟩ : ((0 ≤ p5.toInt ∧ p5.toInt ≤ 599 ∧ u24.toInt = 1) ∨ (¬ (0 ≤ p5.toInt ∧ p5.toInt ≤ 599) ∧ u24.toInt = 0)) ∧ (0 ≤ u24.toInt ∧ u24.toInt ≤ 1) := w25
          refine W.eq (g2 := F0 m 34 ls [.int u24]) rfl ?_
          rcases (show u24.toInt = 1 ∨ u24.toInt = 0 by omega) with c29 | c29
          · obtain rfl : u24 = 1 := i_is c29 (by decide)
            refine W.eq (g2 := F0 m 34 ls [.int 1]) rfl ?_
            refine lv_if_eq (tgt := 44) hx hb dX11_make_34 (by decide) (fun c30 => ?_) (fun c30 => ?_)
            · exact absurd c30 (by decide)
            refine lv_iload hx hb dX11_make_37 (lv_at hl 5 rfl) ?_
            refine lv_iload hx hb dX11_make_39 (lv_at hl 4 rfl) ?_
            refine lv_icmp_ge (tgt := 46) hx hb dX11_make_41 (by decide) (fun c31 => ?_) (fun c31 => ?_)
            · skip
              have c31 := i_le (Eq.refl p4.toInt) (Eq.refl p5.toInt) c31
              refine lv_iload_n hx hb dX11_make_46 rfl (lv_at hl 3 rfl) ?_
              have j32 := Int32.toInt_toInt64 p3
              refine lv_i2l (v := p3.toInt64) hx hb dX11_make_47 (rfl) ?_
              refine lv_lstore (lv' := [(6, .long p3.toInt64), (0, .ref o), (1, .int p1), (2, .int p2), (3, .int p3), (4, .int p4), (5, .int p5)]) hx hb dX11_make_48 hl (by decide) rfl (fun ls hl => ?_)
              refine lv_iload hx hb dX11_make_50 (lv_at hl 5 rfl) ?_
              refine lv_istore (lv' := [(8, .int p4), (6, .long p3.toInt64), (0, .ref o), (1, .int p1), (2, .int p2), (3, .int p3), (4, .int p4), (5, .int p5)]) hx hb dX11_make_52 hl (by decide) rfl (fun ls hl => ?_)
              refine w_loop (σ := Int32 × Int64 × Int32 × (Nat → Int32) × (Nat → Int64) × (Nat → Int64)) (fun xx H locs ls => match xx with | (g899, g900, g901, f902, f903, f904) => va_P D vwCl (MW Y o a (upd I 26 g901) J (vf_upd F 0 f902) (vf_upd (vf_upd G 25 f903) 27 f904)) H ∧ va_D A (MW Y o a (upd I 26 g901) J (vf_upd F 0 f902) (vf_upd (vf_upd G 25 f903) 27 f904)) ∧ va_S A s.heap H locs ∧ lv_has ls 13 [(8, .int g899), (6, .long g900), (0, .ref o), (1, .int p1), (2, .int p2), (3, .int p3), (4, .int p4), (5, .int p5)] ∧ (0 ≤ g899.toInt ∧ g899.toInt ≤ 600) ∧ TO f902 ∧ KS (F 0) f902 ∧ KD (F 0) f902) (fun xx => match xx with | (g899, g900, g901, f902, f903, f904) => (600 - g899.toInt).toNat) (p4, p3.toInt64, (I 26), (F 0), (G 25), (G 27)) ⟨hP, hD, hS, lv_sub hl [0, 1, 2, 3, 4, 5, 6, 7] rfl, by omega, hk0, hk3, hk4⟩ (fun xx H locs ls hI ih => ?_)
              obtain ⟨g899, g900, g901, f902, f903, f904⟩ := xx
              obtain ⟨hP, hD, hS, hl, hq1771, hp1772, hp1773, hp1774⟩ := hI
              have ih1775 := ih
              refine lv_iload hx hb dX11_make_54 (lv_at hl 0 rfl) ?_
              refine lv_iload hx hb dX11_make_56 (lv_at hl 7 rfl) ?_
              refine lv_icmp_gt (tgt := 328) hx hb dX11_make_58 (by decide) (fun c2209 => ?_) (fun c2209 => ?_)
              · skip
                have c2209 := i_lt (Eq.refl p5.toInt) (Eq.refl g899.toInt) c2209
                refine lv_iload hx hb dX11_make_328 (lv_at hl 7 rfl) ?_
                refine lv_iload hx hb dX11_make_330 (lv_at hl 6 rfl) ?_
                refine lv_isub hx hb dX11_make_332 ?_
                refine lv_topi (fun v2210 ev2210 => ?_)
                have hv2210 := i_sub (Eq.refl p5.toInt) (Eq.refl p4.toInt) ev2210 (by omega) (by omega)
                refine lv_iconst (v := 1) hx hb dX11_make_333 (by decide) ?_
                refine lv_iadd hx hb dX11_make_334 ?_
                refine lv_topi (fun v2211 ev2211 => ?_)
                have hv2211 := i_add (Eq.refl v2210.toInt) (show (1 : Int32).toInt = 1 by decide) ev2211 (by omega) (by omega)
                refine W.widen (k := 0) (n := 0) (Nat.le_of_ble_eq_true rfl) (Nat.le_of_ble_eq_true rfl) ?_
                exact W.iret (v := v2211) hx hb hr (fun t ht hW => ⟨⟨(v2211, g901, f903, f904, f902), rfl, ⟨hp1772, hp1773, hp1774⟩, CB.mk ht hP hD⟩, hS.F ht⟩) hS.2.2 dX11_make_335
              · skip
                have c2209 := i_nlt (Eq.refl p5.toInt) (Eq.refl g899.toInt) c2209
                refine lv_aload_n hx hb dX11_make_61 rfl (lv_at hl 2 rfl) ?_
                refine va_get (D := D) (ci := 11) (v := .ref (a 27)) (C := RX11) (T := TX11) (N := 49) hx hb hg inGX11 hown hKN.1 hP 0 rfl rfl 27 (by decide) (hg _ kw_1235) (fun _ h9 => h9) rfl dX11_make_62 ?_
                refine lv_iconst (v := 0) hx hb dX11_make_65 (by decide) ?_
                refine lv_iload hx hb dX11_make_66 (lv_at hl 0 rfl) ?_
                have j2212 := Int32.toInt_toInt64 g899
                refine lv_i2l (v := g899.toInt64) hx hb dX11_make_68 (rfl) ?_
                refine va_last hx hb hKN.1 hP hD hS 18 1 rfl rfl (show ¬ ((0 : Int32) < 0 ∨ 10 ≤ (0 : Int32).toNatClampNeg) by decide) dX11_make_69 (fun H locs hP hD hS => ?_)
                obtain ⟨f2213, ef2213, hP, hD⟩ : ∃ f2213 : Nat → Int64, f2213 = vp_updL f904 0 g899.toInt64 ∧ va_P D vwCl (MW Y o a (upd I 26 g901) J (vf_upd F 0 f902) (vf_upd (vf_upd G 25 f903) 27 f2213)) H ∧ va_D A (MW Y o a (upd I 26 g901) J (vf_upd F 0 f902) (vf_upd (vf_upd G 25 f903) 27 f2213)) := ⟨_, rfl, hP, hD⟩
                refine lv_aload_n hx hb dX11_make_70 rfl (lv_at hl 2 rfl) ?_
                refine va_get (D := D) (ci := 11) (v := .ref (a 27)) (C := RX11) (T := TX11) (N := 49) hx hb hg inGX11 hown hKN.1 hP 0 rfl rfl 27 (by decide) (hg _ kw_1235) (fun _ h9 => h9) rfl dX11_make_71 ?_
                refine lv_iconst (v := 1) hx hb dX11_make_74 (by decide) ?_
                refine lv_iload hx hb dX11_make_75 (lv_at hl 0 rfl) ?_
                refine lv_sipush (v := 150) hx hb dX11_make_77 (by decide) ?_
                have zi150 : (150 : Int32).toInt = 150 := by decide
                refine lv_idiv hx hb dX11_make_80 (i_nz (show (150 : Int32).toInt = 150 by decide) (by omega)) ?_
                refine lv_topi (fun v2214 ev2214 => ?_)
                have hv2214 := i_div (Eq.refl g899.toInt) (show (150 : Int32).toInt = 150 by decide) ev2214 (by omega) (by omega)
                have j2215 := Int32.toInt_toInt64 v2214
                refine lv_i2l (v := v2214.toInt64) hx hb dX11_make_81 (rfl) ?_
                refine va_last hx hb hKN.1 hP hD hS 18 1 rfl rfl (show ¬ ((1 : Int32) < 0 ∨ 10 ≤ (1 : Int32).toNatClampNeg) by decide) dX11_make_82 (fun H locs hP hD hS => ?_)
                obtain ⟨f2216, ef2216, hP, hD⟩ : ∃ f2216 : Nat → Int64, f2216 = vp_updL f2213 1 v2214.toInt64 ∧ va_P D vwCl (MW Y o a (upd I 26 g901) J (vf_upd F 0 f902) (vf_upd (vf_upd G 25 f903) 27 f2216)) H ∧ va_D A (MW Y o a (upd I 26 g901) J (vf_upd F 0 f902) (vf_upd (vf_upd G 25 f903) 27 f2216)) := ⟨_, rfl, hP, hD⟩
                refine lv_aload_n hx hb dX11_make_83 rfl (lv_at hl 2 rfl) ?_
                refine va_get (D := D) (ci := 11) (v := .ref (a 27)) (C := RX11) (T := TX11) (N := 49) hx hb hg inGX11 hown hKN.1 hP 0 rfl rfl 27 (by decide) (hg _ kw_1235) (fun _ h9 => h9) rfl dX11_make_84 ?_
                refine lv_iconst (v := 2) hx hb dX11_make_87 (by decide) ?_
                refine lv_iload_n hx hb dX11_make_88 rfl (lv_at hl 4 rfl) ?_
                have j2217 := Int32.toInt_toInt64 p2
                refine lv_i2l (v := p2.toInt64) hx hb dX11_make_89 (rfl) ?_
                refine va_last hx hb hKN.1 hP hD hS 18 1 rfl rfl (show ¬ ((2 : Int32) < 0 ∨ 10 ≤ (2 : Int32).toNatClampNeg) by decide) dX11_make_90 (fun H locs hP hD hS => ?_)
                obtain ⟨f2218, ef2218, hP, hD⟩ : ∃ f2218 : Nat → Int64, f2218 = vp_updL f2216 2 p2.toInt64 ∧ va_P D vwCl (MW Y o a (upd I 26 g901) J (vf_upd F 0 f902) (vf_upd (vf_upd G 25 f903) 27 f2218)) H ∧ va_D A (MW Y o a (upd I 26 g901) J (vf_upd F 0 f902) (vf_upd (vf_upd G 25 f903) 27 f2218)) := ⟨_, rfl, hP, hD⟩
                refine lv_aload_n hx hb dX11_make_91 rfl (lv_at hl 2 rfl) ?_
                refine va_get (D := D) (ci := 11) (v := .ref (a 27)) (C := RX11) (T := TX11) (N := 49) hx hb hg inGX11 hown hKN.1 hP 0 rfl rfl 27 (by decide) (hg _ kw_1235) (fun _ h9 => h9) rfl dX11_make_92 ?_
                refine lv_iconst (v := 3) hx hb dX11_make_95 (by decide) ?_
                refine lv_aload_n hx hb dX11_make_96 rfl (lv_at hl 2 rfl) ?_
                refine lv_iload_n hx hb dX11_make_97 rfl (lv_at hl 4 rfl) ?_
                refine lv_iconst (v := 1) hx hb dX11_make_98 (by decide) ?_
                refine cga (rn_V (As := [.int p2, .int 1]) (rest := [.int 3, .ref (a 27)]) (b := o) (m_starOf1 l D Y Z H.size o a (upd I 26 g901) J (vf_upd F 0 f902) (vf_upd (vf_upd G 25 f903) 27 f2218)  p2 (show (0 ≤ p2.toInt ∧ p2.toInt ≤ 11) by omega) hp1772) ⟨hx, hb, hml, hown, hg⟩ lk_X11_120 ⟨CP.blind, va_recv hKN.1 hP (ci := 11) (q0 := 0) rfl rfl, CP.at hP hKN hD⟩ ⟨⟨rfl, rfl⟩, ⟨Nat.le_of_ble_eq_true rfl, Nat.le_of_ble_eq_true rfl⟩, ⟨Nat.le_of_ble_eq_true rfl, Nat.le_of_ble_eq_true rfl⟩⟩ hl.1 rfl (Nat.le_of_ble_eq_true rfl) dX11_make_99) hP hD hS hA (fun u2219 H locs w2220 hP hD hS => ?_)
                have hw2222 : (0 ≤ u2219.toInt ∧ u2219.toInt ≤ 7) := w2220
                clear w2220
                refine W.eq (g2 := F0 m 102 ls [.int u2219, .int 3, .ref (a 27)]) rfl ?_
                have hP : va_P D vwCl (MW Y o a (upd I 26 g901) J (vf_upd F 0 f902) (vf_upd (vf_upd G 25 f903) 27 f2218)) H := hP
                have hD : va_D A (MW Y o a (upd I 26 g901) J (vf_upd F 0 f902) (vf_upd (vf_upd G 25 f903) 27 f2218)) := hD
                have j2223 := Int32.toInt_toInt64 u2219
                refine lv_i2l (v := u2219.toInt64) hx hb dX11_make_102 (rfl) ?_
                refine va_last hx hb hKN.1 hP hD hS 18 1 rfl rfl (show ¬ ((3 : Int32) < 0 ∨ 10 ≤ (3 : Int32).toNatClampNeg) by decide) dX11_make_103 (fun H locs hP hD hS => ?_)
                obtain ⟨f2224, ef2224, hP, hD⟩ : ∃ f2224 : Nat → Int64, f2224 = vp_updL f2218 3 u2219.toInt64 ∧ va_P D vwCl (MW Y o a (upd I 26 g901) J (vf_upd F 0 f902) (vf_upd (vf_upd G 25 f903) 27 f2224)) H ∧ va_D A (MW Y o a (upd I 26 g901) J (vf_upd F 0 f902) (vf_upd (vf_upd G 25 f903) 27 f2224)) := ⟨_, rfl, hP, hD⟩
                refine lv_aload_n hx hb dX11_make_104 rfl (lv_at hl 2 rfl) ?_
                refine va_get (D := D) (ci := 11) (v := .ref (a 27)) (C := RX11) (T := TX11) (N := 49) hx hb hg inGX11 hown hKN.1 hP 0 rfl rfl 27 (by decide) (hg _ kw_1235) (fun _ h9 => h9) rfl dX11_make_105 ?_
                refine lv_iconst (v := 4) hx hb dX11_make_108 (by decide) ?_
                refine lv_aload_n hx hb dX11_make_109 rfl (lv_at hl 2 rfl) ?_
                refine lv_iload_n hx hb dX11_make_110 rfl (lv_at hl 4 rfl) ?_
                refine lv_iconst (v := 0) hx hb dX11_make_111 (by decide) ?_
                refine cga (rn_V (As := [.int p2, .int 0]) (rest := [.int 4, .ref (a 27)]) (b := o) (m_starOf0 l D Y Z H.size o a (upd I 26 g901) J (vf_upd F 0 f902) (vf_upd (vf_upd G 25 f903) 27 f2224)  p2 (show (0 ≤ p2.toInt ∧ p2.toInt ≤ 11) by omega) hp1772) ⟨hx, hb, hml, hown, hg⟩ lk_X11_120 ⟨CP.blind, va_recv hKN.1 hP (ci := 11) (q0 := 0) rfl rfl, CP.at hP hKN hD⟩ ⟨⟨rfl, rfl⟩, ⟨Nat.le_of_ble_eq_true rfl, Nat.le_of_ble_eq_true rfl⟩, ⟨Nat.le_of_ble_eq_true rfl, Nat.le_of_ble_eq_true rfl⟩⟩ hl.1 rfl (Nat.le_of_ble_eq_true rfl) dX11_make_112) hP hD hS hA (fun u2225 H locs w2226 hP hD hS => ?_)
                have hw2228 : (0 ≤ u2225.toInt ∧ u2225.toInt ≤ 999) := w2226
                clear w2226
                refine W.eq (g2 := F0 m 115 ls [.int u2225, .int 4, .ref (a 27)]) rfl ?_
                have hP : va_P D vwCl (MW Y o a (upd I 26 g901) J (vf_upd F 0 f902) (vf_upd (vf_upd G 25 f903) 27 f2224)) H := hP
                have hD : va_D A (MW Y o a (upd I 26 g901) J (vf_upd F 0 f902) (vf_upd (vf_upd G 25 f903) 27 f2224)) := hD
                have j2229 := Int32.toInt_toInt64 u2225
                refine lv_i2l (v := u2225.toInt64) hx hb dX11_make_115 (rfl) ?_
                refine va_last hx hb hKN.1 hP hD hS 18 1 rfl rfl (show ¬ ((4 : Int32) < 0 ∨ 10 ≤ (4 : Int32).toNatClampNeg) by decide) dX11_make_116 (fun H locs hP hD hS => ?_)
                obtain ⟨f2230, ef2230, hP, hD⟩ : ∃ f2230 : Nat → Int64, f2230 = vp_updL f2224 4 u2225.toInt64 ∧ va_P D vwCl (MW Y o a (upd I 26 g901) J (vf_upd F 0 f902) (vf_upd (vf_upd G 25 f903) 27 f2230)) H ∧ va_D A (MW Y o a (upd I 26 g901) J (vf_upd F 0 f902) (vf_upd (vf_upd G 25 f903) 27 f2230)) := ⟨_, rfl, hP, hD⟩
                refine lv_lconst (v := 0) hx hb dX11_make_117 (by decide) ?_
                refine lv_lstore (lv' := [(9, .long 0), (8, .int g899), (6, .long g900), (0, .ref o), (1, .int p1), (2, .int p2), (3, .int p3), (4, .int p4), (5, .int p5)]) hx hb dX11_make_118 hl (by decide) rfl (fun ls hl => ?_)
                refine lv_iconst (v := 0) hx hb dX11_make_120 (by decide) ?_
                refine lv_istore (lv' := [(11, .int 0), (9, .long 0), (8, .int g899), (6, .long g900), (0, .ref o), (1, .int p1), (2, .int p2), (3, .int p3), (4, .int p4), (5, .int p5)]) hx hb dX11_make_121 hl (by decide) rfl (fun ls hl => ?_)
                have zl0 : (0 : Int64).toInt = 0 := by decide
                refine w_loop (σ := Int32 × Int32 × (Nat → Int64)) (fun xx H locs ls => match xx with | (g2255, g2256, f2257) => va_P D vwCl (MW Y o a (upd I 26 g2256) J (vf_upd F 0 f902) (vf_upd (vf_upd G 25 f2257) 27 f2230)) H ∧ va_D A (MW Y o a (upd I 26 g2256) J (vf_upd F 0 f902) (vf_upd (vf_upd G 25 f2257) 27 f2230)) ∧ va_S A s.heap H locs ∧ lv_has ls 13 [(11, .int g2255), (9, .long 0), (8, .int g899), (6, .long g900), (0, .ref o), (1, .int p1), (2, .int p2), (3, .int p3), (4, .int p4), (5, .int p5)] ∧ (0 ≤ g2255.toInt ∧ g2255.toInt ≤ 12)) (fun xx => match xx with | (g2255, g2256, f2257) => (12 - g2255.toInt).toNat) (0, g901, f903) ⟨hP, hD, hS, lv_sub hl [0, 1, 2, 3, 4, 5, 6, 7, 8, 9] rfl, by omega⟩ (fun xx H locs ls hI ih => ?_)
                obtain ⟨g2255, g2256, f2257⟩ := xx
                obtain ⟨hP, hD, hS, hl, hq2284⟩ := hI
                have ih2285 := ih
                refine lv_iload hx hb dX11_make_123 (lv_at hl 0 rfl) ?_
                refine lv_aload_n hx hb dX11_make_125 rfl (lv_at hl 4 rfl) ?_
                refine va_get (D := D) (ci := 11) (v := .ref (a 8)) (C := RX11) (T := TX11) (N := 49) hx hb hg inGX11 hown hKN.1 hP 0 rfl rfl 8 (by decide) (hg _ kw_1216) (fun _ h9 => h9) rfl dX11_make_126 ?_
                refine lv_iload_n hx hb dX11_make_129 rfl (lv_at hl 5 rfl) ?_
                refine va_iald hx hb hKN.1 hP 8 0 rfl rfl (vp_in_iff.mpr ⟨by omega, by omega⟩) dX11_make_130 ?_
                refine lv_topi (fun v2286 ev2286 => ?_)
                have ev2286 : v2286 = (F 8) p1.toNatClampNeg := ev2286
                have qv2286 := congrArg Int32.toInt ev2286
                have kv2286 := TC_c hk2 (t := p1.toNatClampNeg) (by have c := clampI (x := p1) (by omega); omega) (Or.inl (by have c := clampI (x := p1) (by omega); omega))
                obtain ⟨kv22861, kv22862⟩ := kv2286
                refine w_join (σ := Int32 × (Nat → Int64)) (pcJ := 150) (kJ := 0) (nJ := 0) (stk := fun xx => match xx with | (g2298, f2299) => []) (fun xx H locs ls => match xx with | (g2298, f2299) => va_P D vwCl (MW Y o a (upd I 26 g2298) J (vf_upd F 0 f902) (vf_upd (vf_upd G 25 f2299) 27 f2230)) H ∧ va_D A (MW Y o a (upd I 26 g2298) J (vf_upd F 0 f902) (vf_upd (vf_upd G 25 f2299) 27 f2230)) ∧ va_S A s.heap H locs ∧ lv_has ls 13 [(11, .int g2255), (9, .long 0), (8, .int g899), (6, .long g900), (0, .ref o), (1, .int p1), (2, .int p2), (3, .int p3), (4, .int p4), (5, .int p5)]) (fun xx H locs ls hI => ?_) (fun jn2300 => ?_)
                · skip
                  obtain ⟨g2298, f2299⟩ := xx
                  obtain ⟨hP, hD, hS, hl⟩ := hI
                  refine W.eq (g2 := F0 m 150 ls []) rfl ?_
                  refine lv_iload hx hb dX11_make_150 (lv_at hl 0 rfl) ?_
                  refine lv_aload_n hx hb dX11_make_152 rfl (lv_at hl 4 rfl) ?_
                  refine va_get (D := D) (ci := 11) (v := .ref (a 8)) (C := RX11) (T := TX11) (N := 49) hx hb hg inGX11 hown hKN.1 hP 0 rfl rfl 8 (by decide) (hg _ kw_1216) (fun _ h9 => h9) rfl dX11_make_153 ?_
                  refine lv_iload_n hx hb dX11_make_156 rfl (lv_at hl 5 rfl) ?_
                  refine va_iald hx hb hKN.1 hP 8 0 rfl rfl (vp_in_iff.mpr ⟨by omega, by omega⟩) dX11_make_157 ?_
                  refine lv_topi (fun v2301 ev2301 => ?_)
                  have ev2301 : v2301 = (F 8) p1.toNatClampNeg := ev2301
                  have qv2301 := congrArg Int32.toInt ev2301
                  have kv2301 := TC_c hk2 (t := p1.toNatClampNeg) (by have c := clampI (x := p1) (by omega); omega) (Or.inl (by have c := clampI (x := p1) (by omega); omega))
                  obtain ⟨kv23011, kv23012⟩ := kv2301
                  refine w_join (σ := Int64 × Int32 × (Nat → Int64)) (pcJ := 179) (kJ := 0) (nJ := 0) (stk := fun xx => match xx with | (g2312, g2313, f2314) => []) (fun xx H locs ls => match xx with | (g2312, g2313, f2314) => va_P D vwCl (MW Y o a (upd I 26 g2313) J (vf_upd F 0 f902) (vf_upd (vf_upd G 25 f2314) 27 f2230)) H ∧ va_D A (MW Y o a (upd I 26 g2313) J (vf_upd F 0 f902) (vf_upd (vf_upd G 25 f2314) 27 f2230)) ∧ va_S A s.heap H locs ∧ lv_has ls 13 [(11, .int g2255), (9, .long g2312), (8, .int g899), (6, .long g900), (0, .ref o), (1, .int p1), (2, .int p2), (3, .int p3), (4, .int p4), (5, .int p5)]) (fun xx H locs ls hI => ?_) (fun jn2315 => ?_)
                  · skip
                    obtain ⟨g2312, g2313, f2314⟩ := xx
                    obtain ⟨hP, hD, hS, hl⟩ := hI
                    refine W.eq (g2 := F0 m 179 ls []) rfl ?_
                    refine lv_iconst (v := 0) hx hb dX11_make_179 (by decide) ?_
                    refine lv_istore (lv' := [(12, .int 0), (11, .int g2255), (9, .long g2312), (8, .int g899), (6, .long g900), (0, .ref o), (1, .int p1), (2, .int p2), (3, .int p3), (4, .int p4), (5, .int p5)]) hx hb dX11_make_180 hl (by decide) rfl (fun ls hl => ?_)
                    refine w_loop (σ := Int32 × Int64) (fun xx H locs ls => match xx with | (g2407, g2408) => va_P D vwCl (MW Y o a (upd I 26 g2313) J (vf_upd F 0 f902) (vf_upd (vf_upd G 25 f2314) 27 f2230)) H ∧ va_D A (MW Y o a (upd I 26 g2313) J (vf_upd F 0 f902) (vf_upd (vf_upd G 25 f2314) 27 f2230)) ∧ va_S A s.heap H locs ∧ lv_has ls 13 [(12, .int g2407), (11, .int g2255), (9, .long g2408), (8, .int g899), (6, .long g900), (0, .ref o), (1, .int p1), (2, .int p2), (3, .int p3), (4, .int p4), (5, .int p5)] ∧ (0 ≤ g2407.toInt ∧ g2407.toInt ≤ 40)) (fun xx => match xx with | (g2407, g2408) => (40 - g2407.toInt).toNat) (0, g2312) ⟨hP, hD, hS, lv_sub hl [0, 1, 2, 3, 4, 5, 6, 7, 8, 9, 10] rfl, by omega⟩ (fun xx H locs ls hI ih => ?_)
                    obtain ⟨g2407, g2408⟩ := xx
                    obtain ⟨hP, hD, hS, hl, hq2502⟩ := hI
                    have ih2503 := ih
                    refine lv_iload hx hb dX11_make_182 (lv_at hl 0 rfl) ?_
                    refine lv_aload_n hx hb dX11_make_184 rfl (lv_at hl 5 rfl) ?_
                    refine va_get (D := D) (ci := 11) (v := .ref (a 0)) (C := RX11) (T := TX11) (N := 49) hx hb hg inGX11 hown hKN.1 hP 0 rfl rfl 0 (by decide) (hg _ kw_1208) (fun _ h9 => h9) rfl dX11_make_185 ?_
                    refine lv_iconst (v := 1) hx hb dX11_make_188 (by decide) ?_
                    refine va_iald hx hb hKN.1 hP 1 0 rfl rfl (show ¬ ((1 : Int32) < 0 ∨ 7533 ≤ (1 : Int32).toNatClampNeg) by decide) dX11_make_189 ?_
                    refine lv_topi (fun v2504 ev2504 => ?_)
                    have ev2504 : v2504 = f902 1 := ev2504
                    have kv2504 := TO_1 hp1772
                    rw [← ev2504] at kv2504
                    have qv2504 := congrArg Int32.toInt ev2504
                    refine lv_icmp_ge (tgt := 244) hx hb dX11_make_190 (by decide) (fun c2551 => ?_) (fun c2551 => ?_)
                    · skip
                      have c2551 := i_le (Eq.refl v2504.toInt) (Eq.refl g2407.toInt) c2551
                      refine lv_lload hx hb dX11_make_244 (lv_at hl 4 rfl) ?_
                      refine lv_ldc2 (v := 1103515245) hx hb hown (hg _ kw_1642) dX11_make_246 ?_
                      refine lv_lmul hx hb dX11_make_249 ?_
                      refine lv_topl (fun v2552 ev2552 => ?_)
                      refine lv_ldc2 (v := 12345) hx hb hown (hg _ kw_1643) dX11_make_250 ?_
                      refine lv_ladd hx hb dX11_make_253 ?_
                      refine lv_topl (fun v2553 ev2553 => ?_)
                      refine lv_ldc2 (v := 2147483648) hx hb hown (hg _ kw_1644) dX11_make_254 ?_
                      have zl2147483648 : (2147483648 : Int64).toInt = 2147483648 := by decide
                      refine lv_lrem hx hb dX11_make_257 (l_nz (show (2147483648 : Int64).toInt = 2147483648 by decide) (by omega)) ?_
                      refine lv_topl (fun v2554 ev2554 => ?_)
                      have hv2554 := l_remS (Eq.refl v2553.toInt) (show (2147483648 : Int64).toInt = 2147483648 by decide) ev2554 (by omega)
                      refine lv_lstore (lv' := [(6, .long v2554), (12, .int g2407), (11, .int g2255), (9, .long g2408), (8, .int g899), (0, .ref o), (1, .int p1), (2, .int p2), (3, .int p3), (4, .int p4), (5, .int p5)]) hx hb dX11_make_258 hl (by decide) rfl (fun ls hl => ?_)
                      refine lv_lload hx hb dX11_make_260 (lv_at hl 3 rfl) ?_
                      refine lv_lload hx hb dX11_make_262 (lv_at hl 0 rfl) ?_
                      refine lv_ldc2 (v := 65536) hx hb hown (hg _ kw_1645) dX11_make_264 ?_
                      have zl65536 : (65536 : Int64).toInt = 65536 := by decide
                      refine lv_ldiv hx hb dX11_make_267 (l_nz (show (65536 : Int64).toInt = 65536 by decide) (by omega)) ?_
                      refine lv_topl (fun v2555 ev2555 => ?_)
                      have hv2555 := l_divS (Eq.refl v2554.toInt) (show (65536 : Int64).toInt = 65536 by decide) ev2555 (by omega)
                      refine lv_ldc2 (v := 2) hx hb hown (hg _ kw_1443) dX11_make_268 ?_
                      refine lv_aload_n hx hb dX11_make_271 rfl (lv_at hl 5 rfl) ?_
                      refine va_get (D := D) (ci := 11) (v := .ref (a 9)) (C := RX11) (T := TX11) (N := 49) hx hb hg inGX11 hown hKN.1 hP 0 rfl rfl 9 (by decide) (hg _ kw_1217) (fun _ h9 => h9) rfl dX11_make_272 ?_
                      refine lv_iload_n hx hb dX11_make_275 rfl (lv_at hl 6 rfl) ?_
                      refine va_iald hx hb hKN.1 hP 9 0 rfl rfl (vp_in_iff.mpr ⟨by omega, by omega⟩) dX11_make_276 ?_
                      refine lv_topi (fun v2556 ev2556 => ?_)
                      have ev2556 : v2556 = (F 9) p1.toNatClampNeg := ev2556
                      have qv2556 := congrArg Int32.toInt ev2556
                      have kv2556 := TX_no hk1 (i := p1) (by omega) (by omega)
                      have j2557 := Int32.toInt_toInt64 v2556
                      refine lv_i2l (v := v2556.toInt64) hx hb dX11_make_277 (rfl) ?_
                      refine lv_lmul hx hb dX11_make_278 ?_
                      refine lv_topl (fun v2558 ev2558 => ?_)
                      have hv2558 := l_mul (show (2 : Int64).toInt = 2 by decide) (Int32.toInt_toInt64 v2556) ev2558 (by omega) (by omega)
                      refine lv_lconst (v := 1) hx hb dX11_make_279 (by decide) ?_
                      refine lv_ladd hx hb dX11_make_280 ?_
                      refine lv_topl (fun v2559 ev2559 => ?_)
                      have hv2559 := l_add (Eq.refl v2558.toInt) (show (1 : Int64).toInt = 1 by decide) ev2559 (by omega) (by omega)
                      refine lv_lrem hx hb dX11_make_281 (l_nz (Eq.refl v2559.toInt) (by omega)) ?_
                      refine lv_topl (fun v2560 ev2560 => ?_)
                      have hv2560 := l_remS (Eq.refl v2555.toInt) (Eq.refl v2559.toInt) ev2560 (by omega)
                      refine lv_aload_n hx hb dX11_make_282 rfl (lv_at hl 5 rfl) ?_
                      refine va_get (D := D) (ci := 11) (v := .ref (a 9)) (C := RX11) (T := TX11) (N := 49) hx hb hg inGX11 hown hKN.1 hP 0 rfl rfl 9 (by decide) (hg _ kw_1217) (fun _ h9 => h9) rfl dX11_make_283 ?_
                      refine lv_iload_n hx hb dX11_make_286 rfl (lv_at hl 6 rfl) ?_
                      refine va_iald hx hb hKN.1 hP 9 0 rfl rfl (vp_in_iff.mpr ⟨by omega, by omega⟩) dX11_make_287 ?_
                      refine lv_topi (fun v2561 ev2561 => ?_)
                      have ev2561 : v2561 = (F 9) p1.toNatClampNeg := ev2561
                      have qv2561 := congrArg Int32.toInt ev2561
                      have kv2561 := TX_no hk1 (i := p1) (by omega) (by omega)
                      have j2562 := Int32.toInt_toInt64 v2561
                      refine lv_i2l (v := v2561.toInt64) hx hb dX11_make_288 (rfl) ?_
                      refine lv_lsub hx hb dX11_make_289 ?_
                      refine lv_topl (fun v2563 ev2563 => ?_)
                      have hv2563 := l_sub (Eq.refl v2560.toInt) (Int32.toInt_toInt64 v2561) ev2563 (by omega) (by omega)
                      refine lv_ladd hx hb dX11_make_290 ?_
                      refine lv_topl (fun v2564 ev2564 => ?_)
                      refine lv_lstore (lv' := [(9, .long v2564), (6, .long v2554), (12, .int g2407), (11, .int g2255), (8, .int g899), (0, .ref o), (1, .int p1), (2, .int p2), (3, .int p3), (4, .int p4), (5, .int p5)]) hx hb dX11_make_291 hl (by decide) rfl (fun ls hl => ?_)
                      refine lv_aload_n hx hb dX11_make_293 rfl (lv_at hl 5 rfl) ?_
                      refine va_get (D := D) (ci := 11) (v := .ref (a 0)) (C := RX11) (T := TX11) (N := 49) hx hb hg inGX11 hown hKN.1 hP 0 rfl rfl 0 (by decide) (hg _ kw_1208) (fun _ h9 => h9) rfl dX11_make_294 ?_
                      refine lv_sipush (v := 315) hx hb dX11_make_297 (by decide) ?_
                      refine lv_sipush (v := 600) hx hb dX11_make_300 (by decide) ?_
                      refine lv_iload_n hx hb dX11_make_303 rfl (lv_at hl 7 rfl) ?_
                      refine lv_imul hx hb dX11_make_304 ?_
                      refine lv_topi (fun v2565 ev2565 => ?_)
                      have hv2565 := i_mul (show (600 : Int32).toInt = 600 by decide) (Eq.refl p2.toInt) ev2565 (by omega) (by omega)
                      refine lv_iadd hx hb dX11_make_305 ?_
                      refine lv_topi (fun v2566 ev2566 => ?_)
                      have hv2566 := i_add (show (315 : Int32).toInt = 315 by decide) (Eq.refl v2565.toInt) ev2566 (by omega) (by omega)
                      refine lv_iload hx hb dX11_make_306 (lv_at hl 4 rfl) ?_
                      refine lv_iadd hx hb dX11_make_308 ?_
                      refine lv_topi (fun v2567 ev2567 => ?_)
                      have hv2567 := i_add (Eq.refl v2566.toInt) (Eq.refl g899.toInt) ev2567 (by omega) (by omega)
                      refine lv_lload hx hb dX11_make_309 (lv_at hl 0 rfl) ?_
                      refine lv_ldc2 (v := (-30000)) hx hb hown (hg _ kw_1379) dX11_make_311 ?_
                      refine lv_ldc2 (v := 30000) hx hb hown (hg _ kw_1380) dX11_make_314 ?_
                      have zlm30000 : ((-30000) : Int64).toInt = -30000 := by decide
                      have zl30000 : (30000 : Int64).toInt = 30000 := by decide
                      refine cg0 (rn_S (As := [.long v2564, .long (-30000), .long 30000]) (rest := [.int v2567, .ref (a 0)]) (m_heldF l D Y Z H.size   v2564 ) ⟨hx, hb, hml, hown, hg⟩ lk_X11_148 ⟨CP.blind, CP.at nilP hKN (nilD (A := fun _ => True))⟩ ⟨⟨rfl, rfl⟩, ⟨Nat.le_of_ble_eq_true rfl, Nat.le_of_ble_eq_true rfl⟩, ⟨Nat.le_of_ble_eq_true rfl, Nat.le_of_ble_eq_true rfl⟩⟩ hl.1 rfl (Nat.le_of_ble_eq_true rfl) dX11_make_317) hP hS hA (fun u2568 H locs w2569 hP hS => ?_)
                      have hw2571 : (-30000 ≤ u2568.toInt ∧ u2568.toInt ≤ 30000) := w2569
                      clear w2569
                      refine W.eq (g2 := F0 m 320 ls [.long u2568, .int v2567, .ref (a 0)]) rfl ?_
                      refine lv_l2i (v := u2568.toInt32) hx hb dX11_make_320 rfl ?_
                      refine lv_topi (fun v2572 ev2572 => ?_)
                      have hv2572 := l_i (Eq.refl u2568.toInt) ev2572 (by omega) (by omega)
                      refine va_iast hx hb hKN.1 hP hD hS 1 0 rfl rfl (vp_in_iff.mpr ⟨by omega, by omega⟩) dX11_make_321 (fun H locs hP hD hS => ?_)
                      obtain ⟨f2573, ef2573, hP, hD⟩ : ∃ f2573 : Nat → Int32, f2573 = upd f902 v2567.toNatClampNeg v2572 ∧ va_P D vwCl (MW Y o a (upd I 26 g2313) J (vf_upd F 0 f2573) (vf_upd (vf_upd G 25 f2314) 27 f2230)) H ∧ va_D A (MW Y o a (upd I 26 g2313) J (vf_upd F 0 f2573) (vf_upd (vf_upd G 25 f2314) 27 f2230)) := ⟨_, rfl, hP, hD⟩
                      have ct2574 := clampI (x := v2567) (by omega)
                      have t2574 : TO f2573 := by rw [ef2573]; exact TO_set hp1772 (by unfold trow; omega) (by omega) (by omega) (by omega) (by omega)
                      have ct2575 := clampI (x := v2567) (by omega)
                      have t2575 : KS (F 0) f2573 := KS_set hp1773 ef2573 (by omega) (by omega)
                      have ct2576 := clampI (x := v2567) (by omega)
                      have t2576 : KD (F 0) f2573 := KD_set hp1774 ef2573 (by omega) (by omega)
                      obtain ⟨v2577, ev2577⟩ : ∃ y : Int32, y = g899 + 1 := ⟨_, rfl⟩
                      have hv2577 := i_add (Eq.refl g899.toInt) (show (1 : Int32).toInt = 1 by decide) ev2577 (by omega) (by omega)
                      refine lv_iinc (v := v2577) (lv' := [(8, .int v2577), (9, .long v2564), (6, .long v2554), (12, .int g2407), (11, .int g2255), (0, .ref o), (1, .int p1), (2, .int p2), (3, .int p3), (4, .int p4), (5, .int p5)]) hx hb dX11_make_322 hl (k := 4) rfl (by rw [ev2577]; rfl) (by decide) rfl (fun ls hl => ?_)
                      refine lv_goto (tgt := 54) hx hb dX11_make_325 (by decide) ?_
                      exact ih1775 (v2577, v2554, g2313, f2573, f2314, f2230) H locs ls (by show (600 - v2577.toInt).toNat < (600 - g899.toInt).toNat; omega) ⟨hP, hD, hS, lv_sub hl [0, 2, 5, 6, 7, 8, 9, 10] rfl, by omega, t2574, t2575, t2576⟩
                    · skip
                      have c2551 := i_nle (Eq.refl v2504.toInt) (Eq.refl g2407.toInt) c2551
                      refine lv_aload_n hx hb dX11_make_193 rfl (lv_at hl 5 rfl) ?_
                      refine lv_iload hx hb dX11_make_194 (lv_at hl 0 rfl) ?_
                      refine lv_iconst (v := 0) hx hb dX11_make_196 (by decide) ?_
                      refine cga (rn_V (As := [.int g2407, .int 0]) (rest := []) (b := o) (m_worldOf0 l D Y Z H.size o a (upd I 26 g2313) J (vf_upd F 0 f902) (vf_upd (vf_upd G 25 f2314) 27 f2230)  g2407 (show (0 ≤ g2407.toInt ∧ g2407.toInt ≤ 39) by omega) hp1772) ⟨hx, hb, hml, hown, hg⟩ lk_X11_166 ⟨CP.blind, va_recv hKN.1 hP (ci := 11) (q0 := 0) rfl rfl, CP.at hP hKN hD⟩ ⟨⟨rfl, rfl⟩, ⟨Nat.le_of_ble_eq_true rfl, Nat.le_of_ble_eq_true rfl⟩, ⟨Nat.le_of_ble_eq_true rfl, Nat.le_of_ble_eq_true rfl⟩⟩ hl.1 rfl (Nat.le_of_ble_eq_true rfl) dX11_make_197) hP hD hS hA (fun u2578 H locs w2579 hP hD hS => ?_)
                      have hw2581 : (0 ≤ u2578.toInt ∧ u2578.toInt ≤ 11) := w2579
                      clear w2579
                      refine W.eq (g2 := F0 m 200 ls [.int u2578]) rfl ?_
                      have hP : va_P D vwCl (MW Y o a (upd I 26 g2313) J (vf_upd F 0 f902) (vf_upd (vf_upd G 25 f2314) 27 f2230)) H := hP
                      have hD : va_D A (MW Y o a (upd I 26 g2313) J (vf_upd F 0 f902) (vf_upd (vf_upd G 25 f2314) 27 f2230)) := hD
                      refine lv_iload_n hx hb dX11_make_200 rfl (lv_at hl 7 rfl) ?_
                      refine w_join (σ := Int64) (pcJ := 238) (kJ := 0) (nJ := 0) (stk := fun xx => match xx with | g2601 => []) (fun xx H locs ls => match xx with | g2601 => va_P D vwCl (MW Y o a (upd I 26 g2313) J (vf_upd F 0 f902) (vf_upd (vf_upd G 25 f2314) 27 f2230)) H ∧ va_D A (MW Y o a (upd I 26 g2313) J (vf_upd F 0 f902) (vf_upd (vf_upd G 25 f2314) 27 f2230)) ∧ va_S A s.heap H locs ∧ lv_has ls 13 [(12, .int g2407), (11, .int g2255), (9, .long g2601), (8, .int g899), (6, .long g900), (0, .ref o), (1, .int p1), (2, .int p2), (3, .int p3), (4, .int p4), (5, .int p5)]) (fun xx H locs ls hI => ?_) (fun jn2602 => ?_)
                      · skip
                        revert hI
                        generalize xx = g2601
                        intro hI
                        obtain ⟨hP, hD, hS, hl⟩ := hI
                        refine W.eq (g2 := F0 m 238 ls []) rfl ?_
                        obtain ⟨v2603, ev2603⟩ : ∃ y : Int32, y = g2407 + 1 := ⟨_, rfl⟩
                        have hv2603 := i_add (Eq.refl g2407.toInt) (show (1 : Int32).toInt = 1 by decide) ev2603 (by omega) (by omega)
                        refine lv_iinc (v := v2603) (lv' := [(12, .int v2603), (11, .int g2255), (9, .long g2601), (8, .int g899), (6, .long g900), (0, .ref o), (1, .int p1), (2, .int p2), (3, .int p3), (4, .int p4), (5, .int p5)]) hx hb dX11_make_238 hl (k := 0) rfl (by rw [ev2603]; rfl) (by decide) rfl (fun ls hl => ?_)
                        refine lv_goto (tgt := 182) hx hb dX11_make_241 (by decide) ?_
                        exact ih2503 (v2603, g2601) H locs ls (by show (40 - v2603.toInt).toNat < (40 - g2407.toInt).toNat; omega) ⟨hP, hD, hS, lv_sub hl [0, 1, 2, 3, 4, 5, 6, 7, 8, 9, 10] rfl, by omega⟩
                      · skip
                        refine lv_icmp_ne (tgt := 238) hx hb dX11_make_201 (by decide) (fun c2604 => ?_) (fun c2604 => ?_)
                        · skip
                          have c2604 := i_ne (Eq.refl u2578.toInt) (Eq.refl p2.toInt) c2604
                          refine W.widen (k := 0) (n := 0) (Nat.le_of_ble_eq_true rfl) (Nat.le_of_ble_eq_true rfl) ?_
                          exact jn2602 (g2408) H locs ls ⟨hP, hD, hS, lv_sub hl [0, 1, 2, 3, 4, 5, 6, 7, 8, 9, 10] rfl⟩
                        · skip
                          have c2604 := i_eq (Eq.refl u2578.toInt) (Eq.refl p2.toInt) c2604
                          refine lv_aload_n hx hb dX11_make_204 rfl (lv_at hl 5 rfl) ?_
                          refine lv_iload hx hb dX11_make_205 (lv_at hl 0 rfl) ?_
                          refine lv_iconst (v := 5) hx hb dX11_make_207 (by decide) ?_
                          have zi5 : (5 : Int32).toInt = 5 := by decide
                          refine cga (rn_V (As := [.int g2407, .int 5]) (rest := []) (b := o) (m_worldOf5 l D Y Z H.size o a (upd I 26 g2313) J (vf_upd F 0 f902) (vf_upd (vf_upd G 25 f2314) 27 f2230)  g2407 (show (0 ≤ g2407.toInt ∧ g2407.toInt ≤ 39) by omega) hp1772) ⟨hx, hb, hml, hown, hg⟩ lk_X11_166 ⟨CP.blind, va_recv hKN.1 hP (ci := 11) (q0 := 0) rfl rfl, CP.at hP hKN hD⟩ ⟨⟨rfl, rfl⟩, ⟨Nat.le_of_ble_eq_true rfl, Nat.le_of_ble_eq_true rfl⟩, ⟨Nat.le_of_ble_eq_true rfl, Nat.le_of_ble_eq_true rfl⟩⟩ hl.1 rfl (Nat.le_of_ble_eq_true rfl) dX11_make_208) hP hD hS hA (fun u2605 H locs w2606 hP hD hS => ?_)
                          have hw2608 : (0 ≤ u2605.toInt ∧ u2605.toInt ≤ 30000) := w2606
                          clear w2606
                          refine W.eq (g2 := F0 m 211 ls [.int u2605]) rfl ?_
                          have hP : va_P D vwCl (MW Y o a (upd I 26 g2313) J (vf_upd F 0 f902) (vf_upd (vf_upd G 25 f2314) 27 f2230)) H := hP
                          have hD : va_D A (MW Y o a (upd I 26 g2313) J (vf_upd F 0 f902) (vf_upd (vf_upd G 25 f2314) 27 f2230)) := hD
                          refine lv_if_ne (tgt := 238) hx hb dX11_make_211 (by decide) (fun c2609 => ?_) (fun c2609 => ?_)
                          · skip
                            have c2609 := i_ne (Eq.refl u2605.toInt) (show (0 : Int32).toInt = 0 by decide) c2609
                            refine W.widen (k := 0) (n := 0) (Nat.le_of_ble_eq_true rfl) (Nat.le_of_ble_eq_true rfl) ?_
                            exact jn2602 (g2408) H locs ls ⟨hP, hD, hS, lv_sub hl [0, 1, 2, 3, 4, 5, 6, 7, 8, 9, 10] rfl⟩
                          · skip
                            have c2609 := i_eq (Eq.refl u2605.toInt) (show (0 : Int32).toInt = 0 by decide) c2609
                            refine lv_aload_n hx hb dX11_make_214 rfl (lv_at hl 5 rfl) ?_
                            refine lv_iload hx hb dX11_make_215 (lv_at hl 0 rfl) ?_
                            refine lv_iload hx hb dX11_make_217 (lv_at hl 3 rfl) ?_
                            refine cga (rn_V (As := [.int g2407, .int g899]) (rest := []) (b := o) (m_isDip l D Y Z H.size o a (upd I 26 g2313) J (vf_upd F 0 f902) (vf_upd (vf_upd G 25 f2314) 27 f2230)  g2407 g899 (show (0 ≤ g2407.toInt ∧ g2407.toInt ≤ 39) by omega) (show (0 ≤ g899.toInt ∧ g899.toInt ≤ 599) by omega) (show (g2407.toInt < (f902 1).toInt) by omega) hp1772) ⟨hx, hb, hml, hown, hg⟩ lk_X11_380 ⟨CP.blind, va_recv hKN.1 hP (ci := 11) (q0 := 0) rfl rfl, CP.at hP hKN hD⟩ ⟨⟨rfl, rfl⟩, ⟨Nat.le_of_ble_eq_true rfl, Nat.le_of_ble_eq_true rfl⟩, ⟨Nat.le_of_ble_eq_true rfl, Nat.le_of_ble_eq_true rfl⟩⟩ hl.1 rfl (Nat.le_of_ble_eq_true rfl) dX11_make_219) hP hD hS hA (fun u2610 H locs w2611 hP hD hS => ?_)
                            have hw2613 : (0 ≤ u2610.toInt ∧ u2610.toInt ≤ 1) := w2611
                            clear w2611
                            refine W.eq (g2 := F0 m 222 ls [.int u2610]) rfl ?_
                            have hP : va_P D vwCl (MW Y o a (upd I 26 g2313) J (vf_upd F 0 f902) (vf_upd (vf_upd G 25 f2314) 27 f2230)) H := hP
                            have hD : va_D A (MW Y o a (upd I 26 g2313) J (vf_upd F 0 f902) (vf_upd (vf_upd G 25 f2314) 27 f2230)) := hD
                            rcases (show u2610.toInt = 1 ∨ u2610.toInt = 0 by omega) with c2614 | c2614
                            · obtain rfl : u2610 = 1 := i_is c2614 (by decide)
                              refine W.eq (g2 := F0 m 222 ls [.int 1]) rfl ?_
                              refine lv_if_eq (tgt := 238) hx hb dX11_make_222 (by decide) (fun c2615 => ?_) (fun c2615 => ?_)
                              · exact absurd c2615 (by decide)
                              refine lv_lload hx hb dX11_make_225 (lv_at hl 2 rfl) ?_
                              refine lv_aload_n hx hb dX11_make_227 rfl (lv_at hl 5 rfl) ?_
                              refine lv_iload hx hb dX11_make_228 (lv_at hl 0 rfl) ?_
                              refine lv_iconst (v := 4) hx hb dX11_make_230 (by decide) ?_
                              have zi4 : (4 : Int32).toInt = 4 := by decide
                              refine cga (rn_V (As := [.int g2407, .int 4]) (rest := [.long g2408]) (b := o) (m_worldOf4 l D Y Z H.size o a (upd I 26 g2313) J (vf_upd F 0 f902) (vf_upd (vf_upd G 25 f2314) 27 f2230)  g2407 (show (0 ≤ g2407.toInt ∧ g2407.toInt ≤ 39) by omega) hp1772) ⟨hx, hb, hml, hown, hg⟩ lk_X11_166 ⟨CP.blind, va_recv hKN.1 hP (ci := 11) (q0 := 0) rfl rfl, CP.at hP hKN hD⟩ ⟨⟨rfl, rfl⟩, ⟨Nat.le_of_ble_eq_true rfl, Nat.le_of_ble_eq_true rfl⟩, ⟨Nat.le_of_ble_eq_true rfl, Nat.le_of_ble_eq_true rfl⟩⟩ hl.1 rfl (Nat.le_of_ble_eq_true rfl) dX11_make_231) hP hD hS hA (fun u2616 H locs w2617 hP hD hS => ?_)
                              have hw2619 : (0 ≤ u2616.toInt ∧ u2616.toInt ≤ 30000) := w2617
                              clear w2617
                              refine W.eq (g2 := F0 m 234 ls [.int u2616, .long g2408]) rfl ?_
                              have hP : va_P D vwCl (MW Y o a (upd I 26 g2313) J (vf_upd F 0 f902) (vf_upd (vf_upd G 25 f2314) 27 f2230)) H := hP
                              have hD : va_D A (MW Y o a (upd I 26 g2313) J (vf_upd F 0 f902) (vf_upd (vf_upd G 25 f2314) 27 f2230)) := hD
                              have j2620 := Int32.toInt_toInt64 u2616
                              refine lv_i2l (v := u2616.toInt64) hx hb dX11_make_234 (rfl) ?_
                              refine lv_lsub hx hb dX11_make_235 ?_
                              refine lv_topl (fun v2621 ev2621 => ?_)
                              refine lv_lstore (lv' := [(9, .long v2621), (12, .int g2407), (11, .int g2255), (8, .int g899), (6, .long g900), (0, .ref o), (1, .int p1), (2, .int p2), (3, .int p3), (4, .int p4), (5, .int p5)]) hx hb dX11_make_236 hl (by decide) rfl (fun ls hl => ?_)
                              refine W.widen (k := 0) (n := 0) (Nat.le_of_ble_eq_true rfl) (Nat.le_of_ble_eq_true rfl) ?_
                              exact jn2602 (v2621) H locs ls ⟨hP, hD, hS, lv_sub hl [1, 2, 0, 3, 4, 5, 6, 7, 8, 9, 10] rfl⟩
                            · obtain rfl : u2610 = 0 := i_is c2614 (by decide)
                              refine W.eq (g2 := F0 m 222 ls [.int 0]) rfl ?_
                              refine lv_if_eq (tgt := 238) hx hb dX11_make_222 (by decide) (fun c2622 => ?_) (fun c2622 => ?_)
                              rotate_left
                              · exact absurd c2622 (by decide)
                              refine W.widen (k := 0) (n := 0) (Nat.le_of_ble_eq_true rfl) (Nat.le_of_ble_eq_true rfl) ?_
                              exact jn2602 (g2408) H locs ls ⟨hP, hD, hS, lv_sub hl [0, 1, 2, 3, 4, 5, 6, 7, 8, 9, 10] rfl⟩
                  · skip
                    refine lv_icmp_ge (tgt := 179) hx hb dX11_make_158 (by decide) (fun c2623 => ?_) (fun c2623 => ?_)
                    · skip
                      have c2623 := i_le (Eq.refl v2301.toInt) (Eq.refl g2255.toInt) c2623
                      have zl0 : (0 : Int64).toInt = 0 := by decide
                      refine W.widen (k := 0) (n := 0) (Nat.le_of_ble_eq_true rfl) (Nat.le_of_ble_eq_true rfl) ?_
                      exact jn2315 (0, g2298, f2299) H locs ls ⟨hP, hD, hS, lv_sub hl [0, 1, 2, 3, 4, 5, 6, 7, 8, 9] rfl⟩
                    · skip
                      have c2623 := i_nle (Eq.refl v2301.toInt) (Eq.refl g2255.toInt) c2623
                      refine lv_aload_n hx hb dX11_make_161 rfl (lv_at hl 4 rfl) ?_
                      refine lv_iload_n hx hb dX11_make_162 rfl (lv_at hl 5 rfl) ?_
                      refine lv_iload hx hb dX11_make_163 (lv_at hl 0 rfl) ?_
                      refine cga (rn_V (As := [.int p1, .int g2255]) (rest := []) (b := o) (m_summed l D Y Z H.size o a (upd I 26 g2298) J (vf_upd F 0 f902) (vf_upd (vf_upd G 25 f2299) 27 f2230)  p1 g2255 (show (0 ≤ p1.toInt ∧ p1.toInt ≤ 17) by omega) (show (0 ≤ g2255.toInt ∧ g2255.toInt ≤ 11) by omega) (show CLok (F 7) (F 5) (p1.toInt).toNat (g2255.toInt).toNat 400 from (kv23012 g2255.toInt.toNat (by omega)))) ⟨hx, hb, hml, hown, hg⟩ lk_X11_372 ⟨CP.blind, va_recv hKN.1 hP (ci := 11) (q0 := 0) rfl rfl, CP.at hP hKN hD⟩ ⟨⟨rfl, rfl⟩, ⟨Nat.le_of_ble_eq_true rfl, Nat.le_of_ble_eq_true rfl⟩, ⟨Nat.le_of_ble_eq_true rfl, Nat.le_of_ble_eq_true rfl⟩⟩ hl.1 rfl (Nat.le_of_ble_eq_true rfl) dX11_make_165) hP hD hS hA (fun u2624 H locs w2625 hP hD hS => ?_)
                      obtain ⟨u2626, u2627, f2628⟩ := u2624
                      refine W.eq (g2 := F0 m 168 ls [.long u2626]) rfl ?_
                      have hP : va_P D vwCl (MW Y o a (upd I 26 u2627) J (vf_upd F 0 f902) (vf_upd (vf_upd G 25 f2628) 27 f2230)) H := hP
                      have hD : va_D A (MW Y o a (upd I 26 u2627) J (vf_upd F 0 f902) (vf_upd (vf_upd G 25 f2628) 27 f2230)) := hD
                      refine lv_ldc2 (v := (-20000)) hx hb hown (hg _ kw_1632) dX11_make_168 ?_
                      refine lv_ldc2 (v := 20000) hx hb hown (hg _ kw_1633) dX11_make_171 ?_
                      have zlm20000 : ((-20000) : Int64).toInt = -20000 := by decide
                      have zl20000 : (20000 : Int64).toInt = 20000 := by decide
                      refine cg0 (rn_S (As := [.long u2626, .long (-20000), .long 20000]) (rest := []) (m_held l D Y Z H.size   u2626 (-20000) 20000 (show (((-20000) : Int64).toInt ≤ (20000 : Int64).toInt) by omega)) ⟨hx, hb, hml, hown, hg⟩ lk_X11_148 ⟨CP.blind, CP.at nilP hKN (nilD (A := fun _ => True))⟩ ⟨⟨rfl, rfl⟩, ⟨Nat.le_of_ble_eq_true rfl, Nat.le_of_ble_eq_true rfl⟩, ⟨Nat.le_of_ble_eq_true rfl, Nat.le_of_ble_eq_true rfl⟩⟩ hl.1 rfl (Nat.le_of_ble_eq_true rfl) dX11_make_174) hP hS hA (fun u2629 H locs w2630 hP hS => ?_)
                      have hw2632 : (((-20000) : Int64).toInt ≤ u2629.toInt ∧ u2629.toInt ≤ (20000 : Int64).toInt) := w2630
                      clear w2630
                      refine W.eq (g2 := F0 m 177 ls [.long u2629]) rfl ?_
                      refine lv_lstore (lv' := [(9, .long u2629), (11, .int g2255), (8, .int g899), (6, .long g900), (0, .ref o), (1, .int p1), (2, .int p2), (3, .int p3), (4, .int p4), (5, .int p5)]) hx hb dX11_make_177 hl (by decide) rfl (fun ls hl => ?_)
                      refine W.widen (k := 0) (n := 0) (Nat.le_of_ble_eq_true rfl) (Nat.le_of_ble_eq_true rfl) ?_
                      exact jn2315 (u2629, u2627, f2628) H locs ls ⟨hP, hD, hS, lv_sub hl [1, 0, 2, 3, 4, 5, 6, 7, 8, 9] rfl⟩
                · skip
                  refine lv_icmp_ge (tgt := 150) hx hb dX11_make_131 (by decide) (fun c2633 => ?_) (fun c2633 => ?_)
                  · skip
                    have c2633 := i_le (Eq.refl v2286.toInt) (Eq.refl g2255.toInt) c2633
                    have zl0 : (0 : Int64).toInt = 0 := by decide
                    refine W.widen (k := 0) (n := 0) (Nat.le_of_ble_eq_true rfl) (Nat.le_of_ble_eq_true rfl) ?_
                    exact jn2300 (g2256, f2257) H locs ls ⟨hP, hD, hS, lv_sub hl [0, 1, 2, 3, 4, 5, 6, 7, 8, 9] rfl⟩
                  · skip
                    have c2633 := i_nle (Eq.refl v2286.toInt) (Eq.refl g2255.toInt) c2633
                    refine lv_aload_n hx hb dX11_make_134 rfl (lv_at hl 4 rfl) ?_
                    refine lv_iload_n hx hb dX11_make_135 rfl (lv_at hl 5 rfl) ?_
                    refine lv_iload hx hb dX11_make_136 (lv_at hl 0 rfl) ?_
                    refine cga (rn_V (As := [.int p1, .int g2255]) (rest := []) (b := o) (m_isHolding l D Y Z H.size o a (upd I 26 g2256) J (vf_upd F 0 f902) (vf_upd (vf_upd G 25 f2257) 27 f2230)  p1 g2255 (show (0 ≤ p1.toInt ∧ p1.toInt ≤ 17) by omega) (show (0 ≤ g2255.toInt ∧ g2255.toInt ≤ 11) by omega) (show CLok (F 7) (F 5) (p1.toInt).toNat (g2255.toInt).toNat 400 from (kv22862 g2255.toInt.toNat (by omega)))) ⟨hx, hb, hml, hown, hg⟩ lk_X11_369 ⟨CP.blind, va_recv hKN.1 hP (ci := 11) (q0 := 0) rfl rfl, CP.at hP hKN hD⟩ ⟨⟨rfl, rfl⟩, ⟨Nat.le_of_ble_eq_true rfl, Nat.le_of_ble_eq_true rfl⟩, ⟨Nat.le_of_ble_eq_true rfl, Nat.le_of_ble_eq_true rfl⟩⟩ hl.1 rfl (Nat.le_of_ble_eq_true rfl) dX11_make_138) hP hD hS hA (fun u2634 H locs w2635 hP hD hS => ?_)
                    obtain ⟨u2636, u2637, f2638⟩ := u2634
                    have hw2639 : (0 ≤ u2636.toInt ∧ u2636.toInt ≤ 1) := w2635
                    clear w2635
                    refine W.eq (g2 := F0 m 141 ls [.int u2636]) rfl ?_
                    have hP : va_P D vwCl (MW Y o a (upd I 26 u2637) J (vf_upd F 0 f902) (vf_upd (vf_upd G 25 f2638) 27 f2230)) H := hP
                    have hD : va_D A (MW Y o a (upd I 26 u2637) J (vf_upd F 0 f902) (vf_upd (vf_upd G 25 f2638) 27 f2230)) := hD
                    rcases (show u2636.toInt = 1 ∨ u2636.toInt = 0 by omega) with c2640 | c2640
                    · obtain rfl : u2636 = 1 := i_is c2640 (by decide)
                      refine W.eq (g2 := F0 m 141 ls [.int 1]) rfl ?_
                      refine lv_if_ne (tgt := 150) hx hb dX11_make_141 (by decide) (fun c2641 => ?_) (fun c2641 => ?_)
                      rotate_left
                      · exact absurd c2641 (by decide)
                      have zl0 : (0 : Int64).toInt = 0 := by decide
                      refine W.widen (k := 0) (n := 0) (Nat.le_of_ble_eq_true rfl) (Nat.le_of_ble_eq_true rfl) ?_
                      exact jn2300 (u2637, f2638) H locs ls ⟨hP, hD, hS, lv_sub hl [0, 1, 2, 3, 4, 5, 6, 7, 8, 9] rfl⟩
                    · obtain rfl : u2636 = 0 := i_is c2640 (by decide)
                      refine W.eq (g2 := F0 m 141 ls [.int 0]) rfl ?_
                      refine lv_if_ne (tgt := 150) hx hb dX11_make_141 (by decide) (fun c2642 => ?_) (fun c2642 => ?_)
                      · exact absurd c2642 (by decide)
                      obtain ⟨v2643, ev2643⟩ : ∃ y : Int32, y = g2255 + 1 := ⟨_, rfl⟩
                      have hv2643 := i_add (Eq.refl g2255.toInt) (show (1 : Int32).toInt = 1 by decide) ev2643 (by omega) (by omega)
                      refine lv_iinc (v := v2643) (lv' := [(11, .int v2643), (9, .long 0), (8, .int g899), (6, .long g900), (0, .ref o), (1, .int p1), (2, .int p2), (3, .int p3), (4, .int p4), (5, .int p5)]) hx hb dX11_make_144 hl (k := 0) rfl (by rw [ev2643]; rfl) (by decide) rfl (fun ls hl => ?_)
                      refine lv_goto (tgt := 123) hx hb dX11_make_147 (by decide) ?_
                      have zl0 : (0 : Int64).toInt = 0 := by decide
                      exact ih2285 (v2643, u2637, f2638) H locs ls (by show (12 - v2643.toInt).toNat < (12 - g2255.toInt).toNat; omega) ⟨hP, hD, hS, lv_sub hl [0, 1, 2, 3, 4, 5, 6, 7, 8, 9] rfl, by omega⟩
            · skip
              have c31 := i_nle (Eq.refl p4.toInt) (Eq.refl p5.toInt) c31
              refine lv_iconst (v := (-1)) hx hb dX11_make_44 (by decide) ?_
              refine W.widen (k := 0) (n := 0) (Nat.le_of_ble_eq_true rfl) (Nat.le_of_ble_eq_true rfl) ?_
              have zim1 : ((-1) : Int32).toInt = -1 := by decide
              exact W.iret (v := (-1)) hx hb hr (fun t ht hW => ⟨⟨((-1), (I 26), (G 25), (G 27), (F 0)), rfl, ⟨hk0, hk3, hk4⟩, CB.mk ht hP hD⟩, hS.F ht⟩) hS.2.2 dX11_make_45
          · obtain rfl : u24 = 0 := i_is c29 (by decide)
            refine W.eq (g2 := F0 m 34 ls [.int 0]) rfl ?_
            refine lv_if_eq (tgt := 44) hx hb dX11_make_34 (by decide) (fun c2644 => ?_) (fun c2644 => ?_)
            rotate_left
            · exact absurd c2644 (by decide)
            refine lv_iconst (v := (-1)) hx hb dX11_make_44 (by decide) ?_
            refine W.widen (k := 0) (n := 0) (Nat.le_of_ble_eq_true rfl) (Nat.le_of_ble_eq_true rfl) ?_
            have zim1 : ((-1) : Int32).toInt = -1 := by decide
            exact W.iret (v := (-1)) hx hb hr (fun t ht hW => ⟨⟨((-1), (I 26), (G 25), (G 27), (F 0)), rfl, ⟨hk0, hk3, hk4⟩, CB.mk ht hP hD⟩, hS.F ht⟩) hS.2.2 dX11_make_45
        · obtain rfl : u17 = 0 := i_is c22 (by decide)
          refine W.eq (g2 := F0 m 26 ls [.int 0]) rfl ?_
          refine lv_if_eq (tgt := 44) hx hb dX11_make_26 (by decide) (fun c2645 => ?_) (fun c2645 => ?_)
          rotate_left
          · exact absurd c2645 (by decide)
          refine lv_iconst (v := (-1)) hx hb dX11_make_44 (by decide) ?_
          refine W.widen (k := 0) (n := 0) (Nat.le_of_ble_eq_true rfl) (Nat.le_of_ble_eq_true rfl) ?_
          have zim1 : ((-1) : Int32).toInt = -1 := by decide
          exact W.iret (v := (-1)) hx hb hr (fun t ht hW => ⟨⟨((-1), (I 26), (G 25), (G 27), (F 0)), rfl, ⟨hk0, hk3, hk4⟩, CB.mk ht hP hD⟩, hS.F ht⟩) hS.2.2 dX11_make_45
    · obtain rfl : u8 = 0 := i_is c13 (by decide)
      refine W.eq (g2 := F0 m 14 ls [.int 0]) rfl ?_
      refine lv_if_eq (tgt := 44) hx hb dX11_make_14 (by decide) (fun c2646 => ?_) (fun c2646 => ?_)
      rotate_left
      · exact absurd c2646 (by decide)
      refine lv_iconst (v := (-1)) hx hb dX11_make_44 (by decide) ?_
      refine W.widen (k := 0) (n := 0) (Nat.le_of_ble_eq_true rfl) (Nat.le_of_ble_eq_true rfl) ?_
      have zim1 : ((-1) : Int32).toInt = -1 := by decide
      exact W.iret (v := (-1)) hx hb hr (fun t ht hW => ⟨⟨((-1), (I 26), (G 25), (G 27), (F 0)), rfl, ⟨hk0, hk3, hk4⟩, CB.mk ht hP hD⟩, hS.F ht⟩) hS.2.2 dX11_make_45
  · obtain rfl : u1 = 0 := i_is c6 (by decide)
    refine W.eq (g2 := F0 m 6 ls [.int 0]) rfl ?_
    refine lv_if_eq (tgt := 44) hx hb dX11_make_6 (by decide) (fun c2647 => ?_) (fun c2647 => ?_)
    rotate_left
    · exact absurd c2647 (by decide)
    refine lv_iconst (v := (-1)) hx hb dX11_make_44 (by decide) ?_
    refine W.widen (k := 0) (n := 0) (Nat.le_of_ble_eq_true rfl) (Nat.le_of_ble_eq_true rfl) ?_
    have zim1 : ((-1) : Int32).toInt = -1 := by decide
    exact W.iret (v := (-1)) hx hb hr (fun t ht hW => ⟨⟨((-1), (I 26), (G 25), (G 27), (F 0)), rfl, ⟨hk0, hk3, hk4⟩, CB.mk ht hP hD⟩, hS.F ht⟩) hS.2.2 dX11_make_45
set_option maxHeartbeats 4000000 in
set_option maxRecDepth 100000 in
theorem m_candidateS (l : Launch) (D : va_G) (Y : Nat → ClassId) (Z : Nat → Nat) (sz : Nat) (o : Nat) (a : Nat → Nat) (I : Nat → Int32) (J : Nat → Int64) (F : Nat → Nat → Int32) (G : Nat → Nat → Int64) (p1 : Int32) (p2 : Int32) (p3 : Int32) (hk0 : TO (F 0)) (hk1 : KS (F 0) (F 0)) (hk2 : KD (F 0) (F 0)) : Met l yX11_candidate (.code yX11_candidate cX11_candidate 5 (some .int) :: GW) ({ frames := 1, cells := 0, slots := 0, locals := 25 }) (va_Pc [.ref o, .int p1, .int p2, .int p3] (CP D Y Z (MW Y o a I J F G) sz)) (QG (S := Int32 × (Nat → Int32)) (fun u => some (.int u.1)) (fun u => TO u.2 ∧ ((u.1.toInt = -1 ∧ KD (F 0) u.2) ∨ (((F 0) 2).toInt < 12 ∧ u.1.toInt = ((F 0) 2).toInt ∧ KDC ((F 0) 2).toNatClampNeg p2 p3 (F 0) u.2)) ∧ (((((1 ≤ p2.toInt ∧ p2.toInt ≤ 99) ∧ (0 ≤ p3.toInt ∧ p3.toInt ≤ 9999)) ∧ (0 ≤ p1.toInt ∧ p1.toInt < ((F 0) 0).toInt) ∧ ((F 0) 2).toInt < 12) ∧ u.1.toInt = ((F 0) 2).toInt ∧ KC 2 (F 0) u.2) ∨ (¬ (((1 ≤ p2.toInt ∧ p2.toInt ≤ 99) ∧ (0 ≤ p3.toInt ∧ p3.toInt ≤ 9999)) ∧ (0 ≤ p1.toInt ∧ p1.toInt < ((F 0) 0).toInt) ∧ ((F 0) 2).toInt < 12) ∧ u.1.toInt = -1 ∧ KS (F 0) u.2))) (fun u => CB D (MW Y o a I J (vf_upd F 0 u.2) G) (va_A (MW Y o a I J F G) sz)) (va_A (MW Y o a I J F G) sz)) 0 0 (va_A (MW Y o a I J F G) sz) := by
  refine Met.ofW (cc := cX11_candidate) (maxL := 5) (ret := (some .int)) (by decide) rfl ?_
  intro p e s m args below meth c s₁ B hml hv
  obtain ⟨rfl, hsz, hP, hKN, hD0⟩ := hv
  have hx := B.exec
  have hb := B.bytes
  have hr := B.returns
  have hts := atoms_spec (ws := .code yX11_candidate cX11_candidate 5 (some .int) :: GW) B.pre
  have hg : ∀ w ∈ GW, w.before _ s = true := fun w h => hts w (List.mem_cons_of_mem _ h)
  have hown : s.vm.findClass RX11 = some m.cls := findClass_of_methodNamed B.named
  have hlocks := B.notSynchronized
  subst hsz
  have hD := hD0.self (sz := s.heap.size)
  generalize hAe : va_A (MW Y o a I J F G) s.heap.size = A at hD ⊢
  have hA : ∀ q : Nat, s.heap.size ≤ q → A q := fun q h => by rw [← hAe]; exact Or.inr h
  clear hAe hD0 hts B
  have hl := lv_entry ([.ref o, .int p1, .int p2, .int p3]) (n := 5) (Nat.le_of_ble_eq_true rfl)
  rw [lg_entry_eq]
  generalize (lg_sl ([.ref o, .int p1, .int p2, .int p3]) ++ List.replicate (5 - (lg_sl ([.ref o, .int p1, .int p2, .int p3])).length) Slot.unset).toArray = ls at hl ⊢
  have hl : lv_has ls 5 [(0, .ref o), (1, .int p1), (2, .int p2), (3, .int p3)] := hl
  refine w_start (A0 := A) hP (fun H locs hP hS => ?_)
  refine lv_aload_n hx hb dX11_candidate_0 rfl (lv_at hl 0 rfl) ?_
  refine va_get (D := D) (ci := 11) (v := .ref (a 0)) (C := RX11) (T := TX11) (N := 49) hx hb hg inGX11 hown hKN.1 hP 0 rfl rfl 0 (by decide) (hg _ kw_1208) (fun _ h9 => h9) rfl dX11_candidate_1 ?_
  refine lv_iconst (v := 2) hx hb dX11_candidate_4 (by decide) ?_
  refine va_iald hx hb hKN.1 hP 1 0 rfl rfl (show ¬ ((2 : Int32) < 0 ∨ 7533 ≤ (2 : Int32).toNatClampNeg) by decide) dX11_candidate_5 ?_
  refine lv_topi (fun v1 ev1 => ?_)
  have ev1 : v1 = (F 0) 2 := ev1
  have kv1 := TO_2 hk0
  rw [← ev1] at kv1
  have qv1 := congrArg Int32.toInt ev1
  refine lv_bipush (v := 12) hx hb dX11_candidate_6 (by decide) ?_
  refine lv_icmp_eq (tgt := 43) hx hb dX11_candidate_8 (by decide) (fun c2 => ?_) (fun c2 => ?_)
  · skip
    have c2 := i_eq (Eq.refl v1.toInt) (show (12 : Int32).toInt = 12 by decide) c2
    refine lv_iconst (v := (-1)) hx hb dX11_candidate_43 (by decide) ?_
    refine W.widen (k := 0) (n := 0) (Nat.le_of_ble_eq_true rfl) (Nat.le_of_ble_eq_true rfl) ?_
    have zim1 : ((-1) : Int32).toInt = -1 := by decide
    exact W.iret (v := (-1)) hx hb hr (fun t ht hW => ⟨⟨((-1), (F 0)), rfl, ⟨hk0, (show ((((-1) : Int32).toInt = -1 ∧ KD (F 0) (F 0)) ∨ (((F 0) 2).toInt < 12 ∧ ((-1) : Int32).toInt = ((F 0) 2).toInt ∧ KDC ((F 0) 2).toNatClampNeg p2 p3 (F 0) (F 0))) from (Or.inl ⟨by decide, hk2⟩)), (show (((((1 ≤ p2.toInt ∧ p2.toInt ≤ 99) ∧ (0 ≤ p3.toInt ∧ p3.toInt ≤ 9999)) ∧ (0 ≤ p1.toInt ∧ p1.toInt < ((F 0) 0).toInt) ∧ ((F 0) 2).toInt < 12) ∧ ((-1) : Int32).toInt = ((F 0) 2).toInt ∧ KC 2 (F 0) (F 0)) ∨ (¬ (((1 ≤ p2.toInt ∧ p2.toInt ≤ 99) ∧ (0 ≤ p3.toInt ∧ p3.toInt ≤ 9999)) ∧ (0 ≤ p1.toInt ∧ p1.toInt < ((F 0) 0).toInt) ∧ ((F 0) 2).toInt < 12) ∧ ((-1) : Int32).toInt = -1 ∧ KS (F 0) (F 0))) from (Or.inr ⟨by omega, by decide, hk1⟩))⟩, CB.mk ht hP hD⟩, hS.F ht⟩) hS.2.2 dX11_candidate_44
  · skip
    have c2 := i_ne (Eq.refl v1.toInt) (show (12 : Int32).toInt = 12 by decide) c2
    refine lv_aload_n hx hb dX11_candidate_11 rfl (lv_at hl 0 rfl) ?_
    refine lv_iload_n hx hb dX11_candidate_12 rfl (lv_at hl 1 rfl) ?_
    refine cga (rn_V (As := [.int p1]) (rest := []) (b := o) (m_isStar l D Y Z H.size o a I J F G  p1 hk0) ⟨hx, hb, hml, hown, hg⟩ lk_X11_108 ⟨CP.blind, va_recv hKN.1 hP (ci := 11) (q0 := 0) rfl rfl, CP.at hP hKN hD⟩ ⟨⟨rfl, rfl⟩, ⟨Nat.le_of_ble_eq_true rfl, Nat.le_of_ble_eq_true rfl⟩, ⟨Nat.le_of_ble_eq_true rfl, Nat.le_of_ble_eq_true rfl⟩⟩ hl.1 rfl (Nat.le_of_ble_eq_true rfl) dX11_candidate_13) hP hD hS hA (fun u3 H locs w4 hP hD hS => ?_)
    obtain ⟨hw6, hw7⟩ : ((0 ≤ p1.toInt ∧ p1.toInt ≤ 11 ∧ p1.toInt < ((F 0) 0).toInt ∧ u3.toInt = 1) ∨ (¬ (0 ≤ p1.toInt ∧ p1.toInt < ((F 0) 0).toInt) ∧ u3.toInt = 0)) ∧ (0 ≤ u3.toInt ∧ u3.toInt ≤ 1) := w4
    refine W.eq (g2 := F0 m 16 ls [.int u3]) rfl ?_
    have hP : va_P D vwCl (MW Y o a I J F G) H := hP
    have hD : va_D A (MW Y o a I J F G) := hD
    rcases (show u3.toInt = 1 ∨ u3.toInt = 0 by omega) with c8 | c8
    · obtain rfl : u3 = 1 := i_is c8 (by decide)
      have zi1 : (1 : Int32).toInt = 1 := by decide
      refine W.eq (g2 := F0 m 16 ls [.int 1]) rfl ?_
      refine lv_if_eq (tgt := 43) hx hb dX11_candidate_16 (by decide) (fun c9 => ?_) (fun c9 => ?_)
      · exact absurd c9 (by decide)
      refine lv_iload_n hx hb dX11_candidate_19 rfl (lv_at hl 2 rfl) ?_
      have j10 := rgI p2
      have j11 := Int32.toInt_toInt64 p2
      refine lv_i2l (v := p2.toInt64) hx hb dX11_candidate_20 (rfl) ?_
      refine lv_lconst (v := 1) hx hb dX11_candidate_21 (by decide) ?_
      refine lv_ldc2 (v := 99) hx hb hown (hg _ kw_1898) dX11_candidate_22 ?_
      have zl1 : (1 : Int64).toInt = 1 := by decide
      have zl99 : (99 : Int64).toInt = 99 := by decide
      refine cg0 (rn_S (As := [.long p2.toInt64, .long 1, .long 99]) (rest := []) (m_in l D Y Z H.size   p2.toInt64 1 99 ) ⟨hx, hb, hml, hown, hg⟩ lk_X11_99 ⟨CP.blind, CP.at nilP hKN (nilD (A := fun _ => True))⟩ ⟨⟨rfl, rfl⟩, ⟨Nat.le_of_ble_eq_true rfl, Nat.le_of_ble_eq_true rfl⟩, ⟨Nat.le_of_ble_eq_true rfl, Nat.le_of_ble_eq_true rfl⟩⟩ hl.1 rfl (Nat.le_of_ble_eq_true rfl) dX11_candidate_25) hP hS hA (fun u12 H locs w13 hP hS => ?_)
      obtain ⟨hw15, hw16⟩ : (((1 : Int64).toInt ≤ p2.toInt64.toInt ∧ p2.toInt64.toInt ≤ (99 : Int64).toInt ∧ u12.toInt = 1) ∨ (¬ ((1 : Int64).toInt ≤ p2.toInt64.toInt ∧ p2.toInt64.toInt ≤ (99 : Int64).toInt) ∧ u12.toInt = 0)) ∧ (0 ≤ u12.toInt ∧ u12.toInt ≤ 1) := w13
      refine W.eq (g2 := F0 m 28 ls [.int u12]) rfl ?_
      rcases (show u12.toInt = 1 ∨ u12.toInt = 0 by omega) with c17 | c17
      · obtain rfl : u12 = 1 := i_is c17 (by decide)
        refine W.eq (g2 := F0 m 28 ls [.int 1]) rfl ?_
        refine lv_if_eq (tgt := 43) hx hb dX11_candidate_28 (by decide) (fun c18 => ?_) (fun c18 => ?_)
        · exact absurd c18 (by decide)
        refine lv_iload_n hx hb dX11_candidate_31 rfl (lv_at hl 3 rfl) ?_
        have j19 := rgI p3
        have j20 := Int32.toInt_toInt64 p3
        refine lv_i2l (v := p3.toInt64) hx hb dX11_candidate_32 (rfl) ?_
        refine lv_lconst (v := 0) hx hb dX11_candidate_33 (by decide) ?_
        refine lv_ldc2 (v := 9999) hx hb hown (hg _ kw_1899) dX11_candidate_34 ?_
        have zl0 : (0 : Int64).toInt = 0 := by decide
        have zl9999 : (9999 : Int64).toInt = 9999 := by decide
        refine cg0 (rn_S (As := [.long p3.toInt64, .long 0, .long 9999]) (rest := []) (m_in l D Y Z H.size   p3.toInt64 0 9999 ) ⟨hx, hb, hml, hown, hg⟩ lk_X11_99 ⟨CP.blind, CP.at nilP hKN (nilD (A := fun _ => True))⟩ ⟨⟨rfl, rfl⟩, ⟨Nat.le_of_ble_eq_true rfl, Nat.le_of_ble_eq_true rfl⟩, ⟨Nat.le_of_ble_eq_true rfl, Nat.le_of_ble_eq_true rfl⟩⟩ hl.1 rfl (Nat.le_of_ble_eq_true rfl) dX11_candidate_37) hP hS hA (fun u21 H locs w22 hP hS => ?_)
        obtain ⟨hw24, hw25⟩ : (((0 : Int64).toInt ≤ p3.toInt64.toInt ∧ p3.toInt64.toInt ≤ (9999 : Int64).toInt ∧ u21.toInt = 1) ∨ (¬ ((0 : Int64).toInt ≤ p3.toInt64.toInt ∧ p3.toInt64.toInt ≤ (9999 : Int64).toInt) ∧ u21.toInt = 0)) ∧ (0 ≤ u21.toInt ∧ u21.toInt ≤ 1) := w22
        refine W.eq (g2 := F0 m 40 ls [.int u21]) rfl ?_
        rcases (show u21.toInt = 1 ∨ u21.toInt = 0 by omega) with c26 | c26
        · obtain rfl : u21 = 1 := i_is c26 (by decide)
          refine W.eq (g2 := F0 m 40 ls [.int 1]) rfl ?_
          refine lv_if_ne (tgt := 45) hx hb dX11_candidate_40 (by decide) (fun c27 => ?_) (fun c27 => ?_)
          rotate_left
          · exact absurd c27 (by decide)
          refine lv_sipush (v := 279) hx hb dX11_candidate_45 (by decide) ?_
          refine lv_iconst (v := 3) hx hb dX11_candidate_48 (by decide) ?_
          refine lv_aload_n hx hb dX11_candidate_49 rfl (lv_at hl 0 rfl) ?_
          refine va_get (D := D) (ci := 11) (v := .ref (a 0)) (C := RX11) (T := TX11) (N := 49) hx hb hg inGX11 hown hKN.1 hP 0 rfl rfl 0 (by decide) (hg _ kw_1208) (fun _ h9 => h9) rfl dX11_candidate_50 ?_
          refine lv_iconst (v := 2) hx hb dX11_candidate_53 (by decide) ?_
          refine va_iald hx hb hKN.1 hP 1 0 rfl rfl (show ¬ ((2 : Int32) < 0 ∨ 7533 ≤ (2 : Int32).toNatClampNeg) by decide) dX11_candidate_54 ?_
          refine lv_topi (fun v28 ev28 => ?_)
          have ev28 : v28 = (F 0) 2 := ev28
          have kv28 := TO_2 hk0
          rw [← ev28] at kv28
          have qv28 := congrArg Int32.toInt ev28
          refine lv_imul hx hb dX11_candidate_55 ?_
          refine lv_topi (fun v29 ev29 => ?_)
          have hv29 := i_mul (show (3 : Int32).toInt = 3 by decide) (Eq.refl v28.toInt) ev29 (by omega) (by omega)
          refine lv_iadd hx hb dX11_candidate_56 ?_
          refine lv_topi (fun v30 ev30 => ?_)
          have hv30 := i_add (show (279 : Int32).toInt = 279 by decide) (Eq.refl v29.toInt) ev30 (by omega) (by omega)
          refine lv_istore (lv' := [(4, .int v30), (0, .ref o), (1, .int p1), (2, .int p2), (3, .int p3)]) hx hb dX11_candidate_57 hl (by decide) rfl (fun ls hl => ?_)
          refine lv_aload_n hx hb dX11_candidate_59 rfl (lv_at hl 1 rfl) ?_
          refine va_get (D := D) (ci := 11) (v := .ref (a 0)) (C := RX11) (T := TX11) (N := 49) hx hb hg inGX11 hown hKN.1 hP 0 rfl rfl 0 (by decide) (hg _ kw_1208) (fun _ h9 => h9) rfl dX11_candidate_60 ?_
          refine lv_iload hx hb dX11_candidate_63 (lv_at hl 0 rfl) ?_
          refine lv_iload_n hx hb dX11_candidate_65 rfl (lv_at hl 2 rfl) ?_
          refine va_iast hx hb hKN.1 hP hD hS 1 0 rfl rfl (vp_in_iff.mpr ⟨by omega, by omega⟩) dX11_candidate_66 (fun H locs hP hD hS => ?_)
          obtain ⟨f31, ef31, hP, hD⟩ : ∃ f31 : Nat → Int32, f31 = upd (F 0) v30.toNatClampNeg p1 ∧ va_P D vwCl (MW Y o a I J (vf_upd F 0 f31) G) H ∧ va_D A (MW Y o a I J (vf_upd F 0 f31) G) := ⟨_, rfl, hP, hD⟩
          have ct32 := clampI (x := v30) (by omega)
          have t32 : TO f31 := by rw [ef31]; exact TO_set hk0 (by unfold trow; omega) (by omega) (by omega) (by omega) (by omega)
          have ct33 := clampI (x := v30) (by omega)
          have t33 : KS (F 0) f31 := KS_set hk1 ef31 (by omega) (by omega)
          have ct34 := clampI (x := v30) (by omega)
          have t34 : KD (F 0) f31 := KD_set hk2 ef31 (by omega) (by omega)
          have t35 : (f31 (2)).toInt = ((F 0) (2)).toInt := by rw [ef31, up_ne (by omega)]
          refine lv_aload_n hx hb dX11_candidate_67 rfl (lv_at hl 1 rfl) ?_
          refine va_get (D := D) (ci := 11) (v := .ref (a 0)) (C := RX11) (T := TX11) (N := 49) hx hb hg inGX11 hown hKN.1 hP 0 rfl rfl 0 (by decide) (hg _ kw_1208) (fun _ h9 => h9) rfl dX11_candidate_68 ?_
          refine lv_iload hx hb dX11_candidate_71 (lv_at hl 0 rfl) ?_
          refine lv_iconst (v := 1) hx hb dX11_candidate_73 (by decide) ?_
          refine lv_iadd hx hb dX11_candidate_74 ?_
          refine lv_topi (fun v36 ev36 => ?_)
          have hv36 := i_add (Eq.refl v30.toInt) (show (1 : Int32).toInt = 1 by decide) ev36 (by omega) (by omega)
          refine lv_iload_n hx hb dX11_candidate_75 rfl (lv_at hl 3 rfl) ?_
          refine va_iast hx hb hKN.1 hP hD hS 1 0 rfl rfl (vp_in_iff.mpr ⟨by omega, by omega⟩) dX11_candidate_76 (fun H locs hP hD hS => ?_)
          obtain ⟨f37, ef37, hP, hD⟩ : ∃ f37 : Nat → Int32, f37 = upd f31 v36.toNatClampNeg p2 ∧ va_P D vwCl (MW Y o a I J (vf_upd F 0 f37) G) H ∧ va_D A (MW Y o a I J (vf_upd F 0 f37) G) := ⟨_, rfl, hP, hD⟩
          have ct38 := clampI (x := v36) (by omega)
          have t38 : TO f37 := by rw [ef37]; exact TO_set t32 (by unfold trow; omega) (by omega) (by omega) (by omega) (by omega)
          have ct39 := clampI (x := v36) (by omega)
          have t39 : KS (F 0) f37 := KS_set t33 ef37 (by omega) (by omega)
          have ct40 := clampI (x := v36) (by omega)
          have t41 : (f37 (2)).toInt = (f31 (2)).toInt := by rw [ef37, up_ne (by omega)]
          refine lv_aload_n hx hb dX11_candidate_77 rfl (lv_at hl 1 rfl) ?_
          refine va_get (D := D) (ci := 11) (v := .ref (a 0)) (C := RX11) (T := TX11) (N := 49) hx hb hg inGX11 hown hKN.1 hP 0 rfl rfl 0 (by decide) (hg _ kw_1208) (fun _ h9 => h9) rfl dX11_candidate_78 ?_
          refine lv_iload hx hb dX11_candidate_81 (lv_at hl 0 rfl) ?_
          refine lv_iconst (v := 2) hx hb dX11_candidate_83 (by decide) ?_
          refine lv_iadd hx hb dX11_candidate_84 ?_
          refine lv_topi (fun v42 ev42 => ?_)
          have hv42 := i_add (Eq.refl v30.toInt) (show (2 : Int32).toInt = 2 by decide) ev42 (by omega) (by omega)
          refine lv_iload_n hx hb dX11_candidate_85 rfl (lv_at hl 4 rfl) ?_
          refine va_iast hx hb hKN.1 hP hD hS 1 0 rfl rfl (vp_in_iff.mpr ⟨by omega, by omega⟩) dX11_candidate_86 (fun H locs hP hD hS => ?_)
          obtain ⟨f43, ef43, hP, hD⟩ : ∃ f43 : Nat → Int32, f43 = upd f37 v42.toNatClampNeg p3 ∧ va_P D vwCl (MW Y o a I J (vf_upd F 0 f43) G) H ∧ va_D A (MW Y o a I J (vf_upd F 0 f43) G) := ⟨_, rfl, hP, hD⟩
          have ct44 := clampI (x := v42) (by omega)
          have t44 : TO f43 := by rw [ef43]; exact TO_set t38 (by unfold trow; omega) (by omega) (by omega) (by omega) (by omega)
          have ct45 := clampI (x := v42) (by omega)
          have t45 : KS (F 0) f43 := KS_set t39 ef43 (by omega) (by omega)
          have t46 : (f43 (2)).toInt = (f37 (2)).toInt := by rw [ef43, up_ne (by omega)]
          refine lv_aload_n hx hb dX11_candidate_87 rfl (lv_at hl 1 rfl) ?_
          refine va_get (D := D) (ci := 11) (v := .ref (a 0)) (C := RX11) (T := TX11) (N := 49) hx hb hg inGX11 hown hKN.1 hP 0 rfl rfl 0 (by decide) (hg _ kw_1208) (fun _ h9 => h9) rfl dX11_candidate_88 ?_
          refine lv_iconst (v := 2) hx hb dX11_candidate_91 (by decide) ?_
          refine lv_dup2_11 hx hb dX11_candidate_92 rfl rfl ?_
          refine va_iald hx hb hKN.1 hP 1 0 rfl rfl (show ¬ ((2 : Int32) < 0 ∨ 7533 ≤ (2 : Int32).toNatClampNeg) by decide) dX11_candidate_93 ?_
          refine lv_topi (fun v47 ev47 => ?_)
          have ev47 : v47 = f43 2 := ev47
          have kv47 := TO_2 t44
          rw [← ev47] at kv47
          have qv47 := congrArg Int32.toInt ev47
          refine lv_iconst (v := 1) hx hb dX11_candidate_94 (by decide) ?_
          refine lv_iadd hx hb dX11_candidate_95 ?_
          refine lv_topi (fun v48 ev48 => ?_)
          have hv48 := i_add (Eq.refl v47.toInt) (show (1 : Int32).toInt = 1 by decide) ev48 (by omega) (by omega)
          refine va_iast hx hb hKN.1 hP hD hS 1 0 rfl rfl (show ¬ ((2 : Int32) < 0 ∨ 7533 ≤ (2 : Int32).toNatClampNeg) by decide) dX11_candidate_96 (fun H locs hP hD hS => ?_)
          obtain ⟨f49, ef49, hP, hD⟩ : ∃ f49 : Nat → Int32, f49 = upd f43 2 v48 ∧ va_P D vwCl (MW Y o a I J (vf_upd F 0 f49) G) H ∧ va_D A (MW Y o a I J (vf_upd F 0 f49) G) := ⟨_, rfl, hP, hD⟩
          have t50 : TO f49 := by rw [ef49]; exact TO_set t44 (by unfold trow; omega) (by omega) (by omega) (by omega) (by omega)
          have t52 : (f49 (2)).toInt = v48.toInt := by rw [ef49, up_eq (by omega)]
          refine lv_aload_n hx hb dX11_candidate_97 rfl (lv_at hl 1 rfl) ?_
          refine va_get (D := D) (ci := 11) (v := .ref (a 0)) (C := RX11) (T := TX11) (N := 49) hx hb hg inGX11 hown hKN.1 hP 0 rfl rfl 0 (by decide) (hg _ kw_1208) (fun _ h9 => h9) rfl dX11_candidate_98 ?_
          refine lv_iconst (v := 2) hx hb dX11_candidate_101 (by decide) ?_
          refine va_iald hx hb hKN.1 hP 1 0 rfl rfl (show ¬ ((2 : Int32) < 0 ∨ 7533 ≤ (2 : Int32).toNatClampNeg) by decide) dX11_candidate_102 ?_
          refine lv_topi (fun v53 ev53 => ?_)
          have ev53 : v53 = f49 2 := ev53
          have kv53 := TO_2 t50
          rw [← ev53] at kv53
          have qv53 := congrArg Int32.toInt ev53
          refine lv_iconst (v := 1) hx hb dX11_candidate_103 (by decide) ?_
          refine lv_isub hx hb dX11_candidate_104 ?_
          refine lv_topi (fun v54 ev54 => ?_)
          have hv54 := i_sub (Eq.refl v53.toInt) (show (1 : Int32).toInt = 1 by decide) ev54 (by omega) (by omega)
          refine W.widen (k := 0) (n := 0) (Nat.le_of_ble_eq_true rfl) (Nat.le_of_ble_eq_true rfl) ?_
          exact W.iret (v := v54) hx hb hr (fun t ht hW => ⟨⟨(v54, f49), rfl, ⟨t50, (show ((v54.toInt = -1 ∧ KD (F 0) f49) ∨ (((F 0) 2).toInt < 12 ∧ v54.toInt = ((F 0) 2).toInt ∧ KDC ((F 0) 2).toNatClampNeg p2 p3 (F 0) f49)) from (Or.inr ⟨by omega, by omega, (by have c9 := clampI (x := F 0 2) (by omega); exact KDC_of t34 ef37 ef43 ef49 (by omega) (by omega) (by omega))⟩)), (show (((((1 ≤ p2.toInt ∧ p2.toInt ≤ 99) ∧ (0 ≤ p3.toInt ∧ p3.toInt ≤ 9999)) ∧ (0 ≤ p1.toInt ∧ p1.toInt < ((F 0) 0).toInt) ∧ ((F 0) 2).toInt < 12) ∧ v54.toInt = ((F 0) 2).toInt ∧ KC 2 (F 0) f49) ∨ (¬ (((1 ≤ p2.toInt ∧ p2.toInt ≤ 99) ∧ (0 ≤ p3.toInt ∧ p3.toInt ≤ 9999)) ∧ (0 ≤ p1.toInt ∧ p1.toInt < ((F 0) 0).toInt) ∧ ((F 0) 2).toInt < 12) ∧ v54.toInt = -1 ∧ KS (F 0) f49)) from (Or.inl ⟨by omega, by omega, KC_of t45 ef49 (by decide) (by omega)⟩))⟩, CB.mk ht hP hD⟩, hS.F ht⟩) hS.2.2 dX11_candidate_105
        · obtain rfl : u21 = 0 := i_is c26 (by decide)
          have zi0 : (0 : Int32).toInt = 0 := by decide
          refine W.eq (g2 := F0 m 40 ls [.int 0]) rfl ?_
          refine lv_if_ne (tgt := 45) hx hb dX11_candidate_40 (by decide) (fun c55 => ?_) (fun c55 => ?_)
          · exact absurd c55 (by decide)
          refine lv_iconst (v := (-1)) hx hb dX11_candidate_43 (by decide) ?_
          refine W.widen (k := 0) (n := 0) (Nat.le_of_ble_eq_true rfl) (Nat.le_of_ble_eq_true rfl) ?_
          have zim1 : ((-1) : Int32).toInt = -1 := by decide
          exact W.iret (v := (-1)) hx hb hr (fun t ht hW => ⟨⟨((-1), (F 0)), rfl, ⟨hk0, (show ((((-1) : Int32).toInt = -1 ∧ KD (F 0) (F 0)) ∨ (((F 0) 2).toInt < 12 ∧ ((-1) : Int32).toInt = ((F 0) 2).toInt ∧ KDC ((F 0) 2).toNatClampNeg p2 p3 (F 0) (F 0))) from (Or.inl ⟨by decide, hk2⟩)), (show (((((1 ≤ p2.toInt ∧ p2.toInt ≤ 99) ∧ (0 ≤ p3.toInt ∧ p3.toInt ≤ 9999)) ∧ (0 ≤ p1.toInt ∧ p1.toInt < ((F 0) 0).toInt) ∧ ((F 0) 2).toInt < 12) ∧ ((-1) : Int32).toInt = ((F 0) 2).toInt ∧ KC 2 (F 0) (F 0)) ∨ (¬ (((1 ≤ p2.toInt ∧ p2.toInt ≤ 99) ∧ (0 ≤ p3.toInt ∧ p3.toInt ≤ 9999)) ∧ (0 ≤ p1.toInt ∧ p1.toInt < ((F 0) 0).toInt) ∧ ((F 0) 2).toInt < 12) ∧ ((-1) : Int32).toInt = -1 ∧ KS (F 0) (F 0))) from (Or.inr ⟨by omega, by decide, hk1⟩))⟩, CB.mk ht hP hD⟩, hS.F ht⟩) hS.2.2 dX11_candidate_44
      · obtain rfl : u12 = 0 := i_is c17 (by decide)
        have zi0 : (0 : Int32).toInt = 0 := by decide
        refine W.eq (g2 := F0 m 28 ls [.int 0]) rfl ?_
        refine lv_if_eq (tgt := 43) hx hb dX11_candidate_28 (by decide) (fun c56 => ?_) (fun c56 => ?_)
        rotate_left
        · exact absurd c56 (by decide)
        refine lv_iconst (v := (-1)) hx hb dX11_candidate_43 (by decide) ?_
        refine W.widen (k := 0) (n := 0) (Nat.le_of_ble_eq_true rfl) (Nat.le_of_ble_eq_true rfl) ?_
        have zim1 : ((-1) : Int32).toInt = -1 := by decide
        exact W.iret (v := (-1)) hx hb hr (fun t ht hW => ⟨⟨((-1), (F 0)), rfl, ⟨hk0, (show ((((-1) : Int32).toInt = -1 ∧ KD (F 0) (F 0)) ∨ (((F 0) 2).toInt < 12 ∧ ((-1) : Int32).toInt = ((F 0) 2).toInt ∧ KDC ((F 0) 2).toNatClampNeg p2 p3 (F 0) (F 0))) from (Or.inl ⟨by decide, hk2⟩)), (show (((((1 ≤ p2.toInt ∧ p2.toInt ≤ 99) ∧ (0 ≤ p3.toInt ∧ p3.toInt ≤ 9999)) ∧ (0 ≤ p1.toInt ∧ p1.toInt < ((F 0) 0).toInt) ∧ ((F 0) 2).toInt < 12) ∧ ((-1) : Int32).toInt = ((F 0) 2).toInt ∧ KC 2 (F 0) (F 0)) ∨ (¬ (((1 ≤ p2.toInt ∧ p2.toInt ≤ 99) ∧ (0 ≤ p3.toInt ∧ p3.toInt ≤ 9999)) ∧ (0 ≤ p1.toInt ∧ p1.toInt < ((F 0) 0).toInt) ∧ ((F 0) 2).toInt < 12) ∧ ((-1) : Int32).toInt = -1 ∧ KS (F 0) (F 0))) from (Or.inr ⟨by omega, by decide, hk1⟩))⟩, CB.mk ht hP hD⟩, hS.F ht⟩) hS.2.2 dX11_candidate_44
    · obtain rfl : u3 = 0 := i_is c8 (by decide)
      have zi0 : (0 : Int32).toInt = 0 := by decide
      refine W.eq (g2 := F0 m 16 ls [.int 0]) rfl ?_
      refine lv_if_eq (tgt := 43) hx hb dX11_candidate_16 (by decide) (fun c57 => ?_) (fun c57 => ?_)
      rotate_left
      · exact absurd c57 (by decide)
      refine lv_iconst (v := (-1)) hx hb dX11_candidate_43 (by decide) ?_
      refine W.widen (k := 0) (n := 0) (Nat.le_of_ble_eq_true rfl) (Nat.le_of_ble_eq_true rfl) ?_
      have zim1 : ((-1) : Int32).toInt = -1 := by decide
      exact W.iret (v := (-1)) hx hb hr (fun t ht hW => ⟨⟨((-1), (F 0)), rfl, ⟨hk0, (show ((((-1) : Int32).toInt = -1 ∧ KD (F 0) (F 0)) ∨ (((F 0) 2).toInt < 12 ∧ ((-1) : Int32).toInt = ((F 0) 2).toInt ∧ KDC ((F 0) 2).toNatClampNeg p2 p3 (F 0) (F 0))) from (Or.inl ⟨by decide, hk2⟩)), (show (((((1 ≤ p2.toInt ∧ p2.toInt ≤ 99) ∧ (0 ≤ p3.toInt ∧ p3.toInt ≤ 9999)) ∧ (0 ≤ p1.toInt ∧ p1.toInt < ((F 0) 0).toInt) ∧ ((F 0) 2).toInt < 12) ∧ ((-1) : Int32).toInt = ((F 0) 2).toInt ∧ KC 2 (F 0) (F 0)) ∨ (¬ (((1 ≤ p2.toInt ∧ p2.toInt ≤ 99) ∧ (0 ≤ p3.toInt ∧ p3.toInt ≤ 9999)) ∧ (0 ≤ p1.toInt ∧ p1.toInt < ((F 0) 0).toInt) ∧ ((F 0) 2).toInt < 12) ∧ ((-1) : Int32).toInt = -1 ∧ KS (F 0) (F 0))) from (Or.inr ⟨by omega, by decide, hk1⟩))⟩, CB.mk ht hP hD⟩, hS.F ht⟩) hS.2.2 dX11_candidate_44
