set_option maxHeartbeats 4000000 in
set_option maxRecDepth 100000 in
theorem m_mask (l : Launch) (D : va_G) (Y : Nat → ClassId) (Z : Nat → Nat) (sz : Nat) (o : Nat) (a : Nat → Nat) (I : Nat → Int32) (J : Nat → Int64) (F : Nat → Nat → Int32) (G : Nat → Nat → Int64) (p1 : Int32) (p2 : Int32) (p3 : Int32) (hk0 : TO (F 0)) : Met l yX11_mask (.code yX11_mask cX11_mask 4 (some .boolean) :: GW) ({ frames := 1, cells := 0, slots := 0, locals := 25 }) (va_Pc [.ref o, .int p1, .int p2, .int p3] (CP D Y Z (MW Y o a I J F G) sz)) (QG (S := Int32 × (Nat → Int32)) (fun u => some (.int u.1)) (fun u => (0 ≤ u.1.toInt ∧ u.1.toInt ≤ 1) ∧ TO u.2) (fun u => CB D (MW Y o a I J (vf_upd F 0 u.2) G) (va_A (MW Y o a I J F G) sz)) (va_A (MW Y o a I J F G) sz)) 0 0 (va_A (MW Y o a I J F G) sz) := by
  refine Met.ofW (cc := cX11_mask) (maxL := 4) (ret := (some .boolean)) (by decide) rfl ?_
  intro p e s m args below meth c s₁ B hml hv
  obtain ⟨rfl, hsz, hP, hKN, hD0⟩ := hv
  have hx := B.exec
  have hb := B.bytes
  have hr := B.returns
  have hts := atoms_spec (ws := .code yX11_mask cX11_mask 4 (some .boolean) :: GW) B.pre
  have hg : ∀ w ∈ GW, w.before _ s = true := fun w h => hts w (List.mem_cons_of_mem _ h)
  have hown : s.vm.findClass RX11 = some m.cls := findClass_of_methodNamed B.named
  have hlocks := B.notSynchronized
  subst hsz
  have hD := hD0.self (sz := s.heap.size)
  generalize hAe : va_A (MW Y o a I J F G) s.heap.size = A at hD ⊢
  have hA : ∀ q : Nat, s.heap.size ≤ q → A q := fun q h => by rw [← hAe]; exact Or.inr h
  clear hAe hD0 hts B
  have hl := lv_entry ([.ref o, .int p1, .int p2, .int p3]) (n := 4) (Nat.le_of_ble_eq_true rfl)
  rw [lg_entry_eq]
  generalize (lg_sl ([.ref o, .int p1, .int p2, .int p3]) ++ List.replicate (4 - (lg_sl ([.ref o, .int p1, .int p2, .int p3])).length) Slot.unset).toArray = ls at hl ⊢
  have hl : lv_has ls 4 [(0, .ref o), (1, .int p1), (2, .int p2), (3, .int p3)] := hl
  refine w_start (A0 := A) hP (fun H locs hP hS => ?_)
  refine lv_iload_n hx hb dX11_mask_0 rfl (lv_at hl 1 rfl) ?_
  have j1 := rgI p1
  have j2 := Int32.toInt_toInt64 p1
  refine lv_i2l (v := p1.toInt64) hx hb dX11_mask_1 (rfl) ?_
  refine lv_lconst (v := 0) hx hb dX11_mask_2 (by decide) ?_
  refine lv_ldc2 (v := 7) hx hb hown (hg _ kw_1365) dX11_mask_3 ?_
  have zl0 : (0 : Int64).toInt = 0 := by decide
  have zl7 : (7 : Int64).toInt = 7 := by decide
  refine cg0 (rn_S (As := [.long p1.toInt64, .long 0, .long 7]) (rest := []) (m_in l D Y Z H.size   p1.toInt64 0 7 ) ⟨hx, hb, hml, hown, hg⟩ lk_X11_99 ⟨CP.blind, CP.at nilP hKN (nilD (A := fun _ => True))⟩ ⟨⟨rfl, rfl⟩, ⟨Nat.le_of_ble_eq_true rfl, Nat.le_of_ble_eq_true rfl⟩, ⟨Nat.le_of_ble_eq_true rfl, Nat.le_of_ble_eq_true rfl⟩⟩ hl.1 rfl (Nat.le_of_ble_eq_true rfl) dX11_mask_6) hP hS hA (fun u3 H locs w4 hP hS => ?_)
  have w4 : (((0 : Int64).toInt ≤ p1.toInt64.toInt ∧ p1.toInt64.toInt ≤ (7 : Int64).toInt ∧ u3.toInt = 1) ∨ (¬ ((0 : Int64).toInt ≤ p1.toInt64.toInt ∧ p1.toInt64.toInt ≤ (7 : Int64).toInt) ∧ u3.toInt = 0)) ∧ (0 ≤ u3.toInt ∧ u3.toInt ≤ 1) := w4
  obtain ⟨hw6, hw7⟩ := w4
  refine W.eq (g2 := F0 m 9 ls [.int u3]) rfl ?_
  rcases (show u3.toInt = 1 ∨ u3.toInt = 0 by omega) with c8 | c8
  · obtain rfl : u3 = 1 := i_is c8 (by decide)
    have zi1 : (1 : Int32).toInt = 1 := by decide
    refine W.eq (g2 := F0 m 9 ls [.int 1]) rfl ?_
    refine lv_if_eq (tgt := 36) hx hb dX11_mask_9 (by decide) (fun c9 => ?_) (fun c9 => ?_)
    · exact absurd c9 (by decide)
    refine lv_iload_n hx hb dX11_mask_12 rfl (lv_at hl 2 rfl) ?_
    have j10 := rgI p2
    have j11 := Int32.toInt_toInt64 p2
    refine lv_i2l (v := p2.toInt64) hx hb dX11_mask_13 (rfl) ?_
    refine lv_lconst (v := 0) hx hb dX11_mask_14 (by decide) ?_
    refine lv_ldc2 (v := 12) hx hb hown (hg _ kw_1399) dX11_mask_15 ?_
    have zl12 : (12 : Int64).toInt = 12 := by decide
    refine cg0 (rn_S (As := [.long p2.toInt64, .long 0, .long 12]) (rest := []) (m_in l D Y Z H.size   p2.toInt64 0 12 ) ⟨hx, hb, hml, hown, hg⟩ lk_X11_99 ⟨CP.blind, CP.at nilP hKN (nilD (A := fun _ => True))⟩ ⟨⟨rfl, rfl⟩, ⟨Nat.le_of_ble_eq_true rfl, Nat.le_of_ble_eq_true rfl⟩, ⟨Nat.le_of_ble_eq_true rfl, Nat.le_of_ble_eq_true rfl⟩⟩ hl.1 rfl (Nat.le_of_ble_eq_true rfl) dX11_mask_18) hP hS hA (fun u12 H locs w13 hP hS => ?_)
    have w13 : (((0 : Int64).toInt ≤ p2.toInt64.toInt ∧ p2.toInt64.toInt ≤ (12 : Int64).toInt ∧ u12.toInt = 1) ∨ (¬ ((0 : Int64).toInt ≤ p2.toInt64.toInt ∧ p2.toInt64.toInt ≤ (12 : Int64).toInt) ∧ u12.toInt = 0)) ∧ (0 ≤ u12.toInt ∧ u12.toInt ≤ 1) := w13
    obtain ⟨hw15, hw16⟩ := w13
    refine W.eq (g2 := F0 m 21 ls [.int u12]) rfl ?_
    rcases (show u12.toInt = 1 ∨ u12.toInt = 0 by omega) with c17 | c17
    · obtain rfl : u12 = 1 := i_is c17 (by decide)
      refine W.eq (g2 := F0 m 21 ls [.int 1]) rfl ?_
      refine lv_if_eq (tgt := 36) hx hb dX11_mask_21 (by decide) (fun c18 => ?_) (fun c18 => ?_)
      · exact absurd c18 (by decide)
      refine lv_iload_n hx hb dX11_mask_24 rfl (lv_at hl 3 rfl) ?_
      have j19 := rgI p3
      have j20 := Int32.toInt_toInt64 p3
      refine lv_i2l (v := p3.toInt64) hx hb dX11_mask_25 (rfl) ?_
      refine lv_lconst (v := 0) hx hb dX11_mask_26 (by decide) ?_
      refine lv_ldc2 (v := 30000) hx hb hown (hg _ kw_1380) dX11_mask_27 ?_
      have zl30000 : (30000 : Int64).toInt = 30000 := by decide
      refine cg0 (rn_S (As := [.long p3.toInt64, .long 0, .long 30000]) (rest := []) (m_in l D Y Z H.size   p3.toInt64 0 30000 ) ⟨hx, hb, hml, hown, hg⟩ lk_X11_99 ⟨CP.blind, CP.at nilP hKN (nilD (A := fun _ => True))⟩ ⟨⟨rfl, rfl⟩, ⟨Nat.le_of_ble_eq_true rfl, Nat.le_of_ble_eq_true rfl⟩, ⟨Nat.le_of_ble_eq_true rfl, Nat.le_of_ble_eq_true rfl⟩⟩ hl.1 rfl (Nat.le_of_ble_eq_true rfl) dX11_mask_30) hP hS hA (fun u21 H locs w22 hP hS => ?_)
      have w22 : (((0 : Int64).toInt ≤ p3.toInt64.toInt ∧ p3.toInt64.toInt ≤ (30000 : Int64).toInt ∧ u21.toInt = 1) ∨ (¬ ((0 : Int64).toInt ≤ p3.toInt64.toInt ∧ p3.toInt64.toInt ≤ (30000 : Int64).toInt) ∧ u21.toInt = 0)) ∧ (0 ≤ u21.toInt ∧ u21.toInt ≤ 1) := w22
      obtain ⟨hw24, hw25⟩ := w22
      refine W.eq (g2 := F0 m 33 ls [.int u21]) rfl ?_
      rcases (show u21.toInt = 1 ∨ u21.toInt = 0 by omega) with c26 | c26
      · obtain rfl : u21 = 1 := i_is c26 (by decide)
        refine W.eq (g2 := F0 m 33 ls [.int 1]) rfl ?_
        refine lv_if_ne (tgt := 38) hx hb dX11_mask_33 (by decide) (fun c27 => ?_) (fun c27 => ?_)
        rotate_left
        · exact absurd c27 (by decide)
        refine lv_aload_n hx hb dX11_mask_38 rfl (lv_at hl 0 rfl) ?_
        refine va_get (D := D) (ci := 11) (v := .ref (a 0)) (C := RX11) (T := TX11) (N := 49) hx hb hg inGX11 hown hKN.1 hP 0 rfl rfl 0 (by decide) (hg _ kw_1208) (fun _ h9 => h9) rfl dX11_mask_39 ?_
        refine lv_sipush (v := 7517) hx hb dX11_mask_42 (by decide) ?_
        refine lv_iconst (v := 2) hx hb dX11_mask_45 (by decide) ?_
        refine lv_iload_n hx hb dX11_mask_46 rfl (lv_at hl 1 rfl) ?_
        refine lv_imul hx hb dX11_mask_47 ?_
        refine lv_topi (fun v28 ev28 => ?_)
        have hv28 := i_mul (show (2 : Int32).toInt = 2 by decide) (Eq.refl p1.toInt) ev28 (by omega) (by omega)
        refine lv_iadd hx hb dX11_mask_48 ?_
        refine lv_topi (fun v29 ev29 => ?_)
        have hv29 := i_add (show (7517 : Int32).toInt = 7517 by decide) (Eq.refl v28.toInt) ev29 (by omega) (by omega)
        refine lv_iload_n hx hb dX11_mask_49 rfl (lv_at hl 2 rfl) ?_
        refine va_iast hx hb hKN.1 hP hD hS 1 0 rfl rfl (vp_in_iff.mpr ⟨by omega, by omega⟩) dX11_mask_50 (fun H locs hP hD hS => ?_)
        obtain ⟨f30, ef30, hP, hD⟩ : ∃ f30 : Nat → Int32, f30 = upd (F 0) v29.toNatClampNeg p2 ∧ va_P D vwCl (MW Y o a I J (vf_upd F 0 f30) G) H ∧ va_D A (MW Y o a I J (vf_upd F 0 f30) G) := ⟨_, rfl, hP, hD⟩
        have ct31 := clampI (x := v29) (by omega)
        have t31 : TO f30 := by rw [ef30]; exact TO_set hk0 (by unfold trow; omega) (by omega) (by omega) (by omega) (by omega)
        refine lv_aload_n hx hb dX11_mask_51 rfl (lv_at hl 0 rfl) ?_
        refine va_get (D := D) (ci := 11) (v := .ref (a 0)) (C := RX11) (T := TX11) (N := 49) hx hb hg inGX11 hown hKN.1 hP 0 rfl rfl 0 (by decide) (hg _ kw_1208) (fun _ h9 => h9) rfl dX11_mask_52 ?_
        refine lv_sipush (v := 7517) hx hb dX11_mask_55 (by decide) ?_
        refine lv_iconst (v := 2) hx hb dX11_mask_58 (by decide) ?_
        refine lv_iload_n hx hb dX11_mask_59 rfl (lv_at hl 1 rfl) ?_
        refine lv_imul hx hb dX11_mask_60 ?_
        refine lv_topi (fun v32 ev32 => ?_)
        have hv32 := i_mul (show (2 : Int32).toInt = 2 by decide) (Eq.refl p1.toInt) ev32 (by omega) (by omega)
        refine lv_iadd hx hb dX11_mask_61 ?_
        refine lv_topi (fun v33 ev33 => ?_)
        have hv33 := i_add (show (7517 : Int32).toInt = 7517 by decide) (Eq.refl v32.toInt) ev33 (by omega) (by omega)
        refine lv_iconst (v := 1) hx hb dX11_mask_62 (by decide) ?_
        refine lv_iadd hx hb dX11_mask_63 ?_
        refine lv_topi (fun v34 ev34 => ?_)
        have hv34 := i_add (Eq.refl v33.toInt) (show (1 : Int32).toInt = 1 by decide) ev34 (by omega) (by omega)
        refine lv_iload_n hx hb dX11_mask_64 rfl (lv_at hl 3 rfl) ?_
        refine va_iast hx hb hKN.1 hP hD hS 1 0 rfl rfl (vp_in_iff.mpr ⟨by omega, by omega⟩) dX11_mask_65 (fun H locs hP hD hS => ?_)
        obtain ⟨f35, ef35, hP, hD⟩ : ∃ f35 : Nat → Int32, f35 = upd f30 v34.toNatClampNeg p3 ∧ va_P D vwCl (MW Y o a I J (vf_upd F 0 f35) G) H ∧ va_D A (MW Y o a I J (vf_upd F 0 f35) G) := ⟨_, rfl, hP, hD⟩
        have ct36 := clampI (x := v34) (by omega)
        have t36 : TO f35 := by rw [ef35]; exact TO_set t31 (by unfold trow; omega) (by omega) (by omega) (by omega) (by omega)
        refine lv_iconst (v := 1) hx hb dX11_mask_66 (by decide) ?_
        refine W.widen (k := 0) (n := 0) (Nat.le_of_ble_eq_true rfl) (Nat.le_of_ble_eq_true rfl) ?_
        exact W.zret (v := 1) hx hb hr (by decide) (fun t ht hW => ⟨⟨(1, f35), rfl, ⟨(show (0 ≤ (1 : Int32).toInt ∧ (1 : Int32).toInt ≤ 1) by omega), t36⟩, CB.mk ht hP hD⟩, hS.F ht⟩) hS.2.2 dX11_mask_67
      · obtain rfl : u21 = 0 := i_is c26 (by decide)
        have zi0 : (0 : Int32).toInt = 0 := by decide
        refine W.eq (g2 := F0 m 33 ls [.int 0]) rfl ?_
        refine lv_if_ne (tgt := 38) hx hb dX11_mask_33 (by decide) (fun c37 => ?_) (fun c37 => ?_)
        · exact absurd c37 (by decide)
        refine lv_iconst (v := 0) hx hb dX11_mask_36 (by decide) ?_
        refine W.widen (k := 0) (n := 0) (Nat.le_of_ble_eq_true rfl) (Nat.le_of_ble_eq_true rfl) ?_
        exact W.zret (v := 0) hx hb hr (by decide) (fun t ht hW => ⟨⟨(0, (F 0)), rfl, ⟨(show (0 ≤ (0 : Int32).toInt ∧ (0 : Int32).toInt ≤ 1) by omega), hk0⟩, CB.mk ht hP hD⟩, hS.F ht⟩) hS.2.2 dX11_mask_37
    · obtain rfl : u12 = 0 := i_is c17 (by decide)
      have zi0 : (0 : Int32).toInt = 0 := by decide
      refine W.eq (g2 := F0 m 21 ls [.int 0]) rfl ?_
      refine lv_if_eq (tgt := 36) hx hb dX11_mask_21 (by decide) (fun c38 => ?_) (fun c38 => ?_)
      rotate_left
      · exact absurd c38 (by decide)
      refine lv_iconst (v := 0) hx hb dX11_mask_36 (by decide) ?_
      refine W.widen (k := 0) (n := 0) (Nat.le_of_ble_eq_true rfl) (Nat.le_of_ble_eq_true rfl) ?_
      exact W.zret (v := 0) hx hb hr (by decide) (fun t ht hW => ⟨⟨(0, (F 0)), rfl, ⟨(show (0 ≤ (0 : Int32).toInt ∧ (0 : Int32).toInt ≤ 1) by omega), hk0⟩, CB.mk ht hP hD⟩, hS.F ht⟩) hS.2.2 dX11_mask_37
  · obtain rfl : u3 = 0 := i_is c8 (by decide)
    have zi0 : (0 : Int32).toInt = 0 := by decide
    refine W.eq (g2 := F0 m 9 ls [.int 0]) rfl ?_
    refine lv_if_eq (tgt := 36) hx hb dX11_mask_9 (by decide) (fun c39 => ?_) (fun c39 => ?_)
    rotate_left
    · exact absurd c39 (by decide)
    refine lv_iconst (v := 0) hx hb dX11_mask_36 (by decide) ?_
    refine W.widen (k := 0) (n := 0) (Nat.le_of_ble_eq_true rfl) (Nat.le_of_ble_eq_true rfl) ?_
    exact W.zret (v := 0) hx hb hr (by decide) (fun t ht hW => ⟨⟨(0, (F 0)), rfl, ⟨(show (0 ≤ (0 : Int32).toInt ∧ (0 : Int32).toInt ≤ 1) by omega), hk0⟩, CB.mk ht hP hD⟩, hS.F ht⟩) hS.2.2 dX11_mask_37
set_option maxHeartbeats 4000000 in
set_option maxRecDepth 100000 in
theorem m_row (l : Launch) (D : va_G) (Y : Nat → ClassId) (Z : Nat → Nat) (sz : Nat) (o : Nat) (a : Nat → Nat) (I : Nat → Int32) (J : Nat → Int64) (F : Nat → Nat → Int32) (G : Nat → Nat → Int64) (p1 : Int32) (p2 : Int32) (p3 : Int32) (hk0 : TO (F 0)) : Met l yX11_row (.code yX11_row cX11_row 5 (some .int) :: GW) ({ frames := 1, cells := 0, slots := 0, locals := 25 }) (va_Pc [.ref o, .int p1, .int p2, .int p3] (CP D Y Z (MW Y o a I J F G) sz)) (QG (S := Int32 × (Nat → Int32)) (fun u => some (.int u.1)) (fun u => TO u.2) (fun u => CB D (MW Y o a I J (vf_upd F 0 u.2) G) (va_A (MW Y o a I J F G) sz)) (va_A (MW Y o a I J F G) sz)) 0 0 (va_A (MW Y o a I J F G) sz) := by
  refine Met.ofW (cc := cX11_row) (maxL := 5) (ret := (some .int)) (by decide) rfl ?_
  intro p e s m args below meth c s₁ B hml hv
  obtain ⟨rfl, hsz, hP, hKN, hD0⟩ := hv
  have hx := B.exec
  have hb := B.bytes
  have hr := B.returns
  have hts := atoms_spec (ws := .code yX11_row cX11_row 5 (some .int) :: GW) B.pre
  have hg : ∀ w ∈ GW, w.before _ s = true := fun w h => hts w (List.mem_cons_of_mem _ h)
  have hown : s.vm.findClass RX11 = some m.cls := findClass_of_methodNamed B.named
  have hlocks := B.notSynchronized
  subst hsz
  have hD := hD0.self (sz := s.heap.size)
  generalize hAe : va_A (MW Y o a I J F G) s.heap.size = A at hD ⊢
  have hA : ∀ q : Nat, s.heap.size ≤ q → A q := fun q h => by rw [← hAe]; exact Or.inr h
  clear hAe hD0 hts B
  have hl := lv_entry ([.ref o, .int p1, .int p2, .int p3]) (n := 5) (Nat.le_of_ble_eq_true rfl)
  rw [lg_entry_eq]
  generalize (lg_sl ([.ref o, .int p1, .int p2, .int p3]) ++ List.replicate (5 - (lg_sl ([.ref o, .int p1, .int p2, .int p3])).length) Slot.unset).toArray = ls at hl ⊢
  have hl : lv_has ls 5 [(0, .ref o), (1, .int p1), (2, .int p2), (3, .int p3)] := hl
  refine w_start (A0 := A) hP (fun H locs hP hS => ?_)
  refine lv_aload_n hx hb dX11_row_0 rfl (lv_at hl 0 rfl) ?_
  refine lv_iload_n hx hb dX11_row_1 rfl (lv_at hl 1 rfl) ?_
  refine cga (rn_V (As := [.int p1]) (rest := []) (b := o) (m_isStar l D Y Z H.size o a I J F G  p1 hk0) ⟨hx, hb, hml, hown, hg⟩ lk_X11_108 ⟨CP.blind, va_recv hKN.1 hP (ci := 11) (q0 := 0) rfl rfl, CP.at hP hKN hD⟩ ⟨⟨rfl, rfl⟩, ⟨Nat.le_of_ble_eq_true rfl, Nat.le_of_ble_eq_true rfl⟩, ⟨Nat.le_of_ble_eq_true rfl, Nat.le_of_ble_eq_true rfl⟩⟩ hl.1 rfl (Nat.le_of_ble_eq_true rfl) dX11_row_2) hP hD hS hA (fun u1 H locs w2 hP hD hS => ?_)
  have w2 : ((0 ≤ p1.toInt ∧ p1.toInt ≤ 11 ∧ p1.toInt < ((F 0) 0).toInt ∧ u1.toInt = 1) ∨ (¬ (0 ≤ p1.toInt ∧ p1.toInt < ((F 0) 0).toInt) ∧ u1.toInt = 0)) ∧ (0 ≤ u1.toInt ∧ u1.toInt ≤ 1) := w2
  obtain ⟨hw4, hw5⟩ := w2
  refine W.eq (g2 := F0 m 5 ls [.int u1]) rfl ?_
  have hP : va_P D vwCl (MW Y o a I J F G) H := hP
  have hD : va_D A (MW Y o a I J F G) := hD
  rcases (show u1.toInt = 1 ∨ u1.toInt = 0 by omega) with c6 | c6
  · obtain rfl : u1 = 1 := i_is c6 (by decide)
    have zi1 : (1 : Int32).toInt = 1 := by decide
    refine W.eq (g2 := F0 m 5 ls [.int 1]) rfl ?_
    refine lv_if_eq (tgt := 35) hx hb dX11_row_5 (by decide) (fun c7 => ?_) (fun c7 => ?_)
    · exact absurd c7 (by decide)
    refine lv_iload_n hx hb dX11_row_8 rfl (lv_at hl 2 rfl) ?_
    refine cg0 (rn_S (As := [.int p2]) (rest := []) (m_isHour l D Y Z H.size   p2 ) ⟨hx, hb, hml, hown, hg⟩ lk_X11_112 ⟨CP.blind, CP.at nilP hKN (nilD (A := fun _ => True))⟩ ⟨⟨rfl, rfl⟩, ⟨Nat.le_of_ble_eq_true rfl, Nat.le_of_ble_eq_true rfl⟩, ⟨Nat.le_of_ble_eq_true rfl, Nat.le_of_ble_eq_true rfl⟩⟩ hl.1 rfl (Nat.le_of_ble_eq_true rfl) dX11_row_9) hP hS hA (fun u8 H locs w9 hP hS => ?_)
    have w9 : ((0 ≤ p2.toInt ∧ p2.toInt ≤ 599 ∧ u8.toInt = 1) ∨ (¬ (0 ≤ p2.toInt ∧ p2.toInt ≤ 599) ∧ u8.toInt = 0)) ∧ (0 ≤ u8.toInt ∧ u8.toInt ≤ 1) := w9
    obtain ⟨hw11, hw12⟩ := w9
    refine W.eq (g2 := F0 m 12 ls [.int u8]) rfl ?_
    rcases (show u8.toInt = 1 ∨ u8.toInt = 0 by omega) with c13 | c13
    · obtain rfl : u8 = 1 := i_is c13 (by decide)
      refine W.eq (g2 := F0 m 12 ls [.int 1]) rfl ?_
      refine lv_if_eq (tgt := 35) hx hb dX11_row_12 (by decide) (fun c14 => ?_) (fun c14 => ?_)
      · exact absurd c14 (by decide)
      refine lv_iload_n hx hb dX11_row_15 rfl (lv_at hl 3 rfl) ?_
      refine lv_ldc (v := (-100000)) hx hb hown (hg _ kw_1367) dX11_row_16 ?_
      have j15 := rgI p3
      refine lv_icmp_eq (tgt := 38) hx hb dX11_row_18 (by decide) (fun c16 => ?_) (fun c16 => ?_)
      · skip
        have c16 := i_eq (Eq.refl p3.toInt) (show ((-100000) : Int32).toInt = -100000 by decide) c16
        refine lv_aload_n hx hb dX11_row_38 rfl (lv_at hl 0 rfl) ?_
        refine va_get (D := D) (ci := 11) (v := .ref (a 0)) (C := RX11) (T := TX11) (N := 49) hx hb hg inGX11 hown hKN.1 hP 0 rfl rfl 0 (by decide) (hg _ kw_1208) (fun _ h9 => h9) rfl dX11_row_39 ?_
        refine lv_sipush (v := 315) hx hb dX11_row_42 (by decide) ?_
        refine lv_sipush (v := 600) hx hb dX11_row_45 (by decide) ?_
        refine lv_iload_n hx hb dX11_row_48 rfl (lv_at hl 1 rfl) ?_
        refine lv_imul hx hb dX11_row_49 ?_
        refine lv_topi (fun v17 ev17 => ?_)
        have hv17 := i_mul (show (600 : Int32).toInt = 600 by decide) (Eq.refl p1.toInt) ev17 (by omega) (by omega)
        refine lv_iadd hx hb dX11_row_50 ?_
        refine lv_topi (fun v18 ev18 => ?_)
        have hv18 := i_add (show (315 : Int32).toInt = 315 by decide) (Eq.refl v17.toInt) ev18 (by omega) (by omega)
        refine lv_iload_n hx hb dX11_row_51 rfl (lv_at hl 2 rfl) ?_
        refine lv_iadd hx hb dX11_row_52 ?_
        refine lv_topi (fun v19 ev19 => ?_)
        have hv19 := i_add (Eq.refl v18.toInt) (Eq.refl p2.toInt) ev19 (by omega) (by omega)
        refine va_iald hx hb hKN.1 hP 1 0 rfl rfl (vp_in_iff.mpr ⟨by omega, by omega⟩) dX11_row_53 ?_
        refine lv_topi (fun v20 ev20 => ?_)
        have ev20 : v20 = (F 0) v19.toNatClampNeg := ev20
        have kv20 := TO_row hk0 (i := v19) (by omega) (by omega)
        rw [← ev20] at kv20
        refine lv_istore (lv' := [(4, .int v20), (0, .ref o), (1, .int p1), (2, .int p2), (3, .int p3)]) hx hb dX11_row_54 hl (by decide) rfl (fun ls hl => ?_)
        refine lv_aload_n hx hb dX11_row_56 rfl (lv_at hl 1 rfl) ?_
        refine va_get (D := D) (ci := 11) (v := .ref (a 0)) (C := RX11) (T := TX11) (N := 49) hx hb hg inGX11 hown hKN.1 hP 0 rfl rfl 0 (by decide) (hg _ kw_1208) (fun _ h9 => h9) rfl dX11_row_57 ?_
        refine lv_sipush (v := 315) hx hb dX11_row_60 (by decide) ?_
        refine lv_sipush (v := 600) hx hb dX11_row_63 (by decide) ?_
        refine lv_iload_n hx hb dX11_row_66 rfl (lv_at hl 2 rfl) ?_
        refine lv_imul hx hb dX11_row_67 ?_
        refine lv_topi (fun v21 ev21 => ?_)
        have hv21 := i_mul (show (600 : Int32).toInt = 600 by decide) (Eq.refl p1.toInt) ev21 (by omega) (by omega)
        refine lv_iadd hx hb dX11_row_68 ?_
        refine lv_topi (fun v22 ev22 => ?_)
        have hv22 := i_add (show (315 : Int32).toInt = 315 by decide) (Eq.refl v21.toInt) ev22 (by omega) (by omega)
        refine lv_iload_n hx hb dX11_row_69 rfl (lv_at hl 3 rfl) ?_
        refine lv_iadd hx hb dX11_row_70 ?_
        refine lv_topi (fun v23 ev23 => ?_)
        have hv23 := i_add (Eq.refl v22.toInt) (Eq.refl p2.toInt) ev23 (by omega) (by omega)
        refine lv_iload_n hx hb dX11_row_71 rfl (lv_at hl 4 rfl) ?_
        refine va_iast hx hb hKN.1 hP hD hS 1 0 rfl rfl (vp_in_iff.mpr ⟨by omega, by omega⟩) dX11_row_72 (fun H locs hP hD hS => ?_)
        obtain ⟨f24, ef24, hP, hD⟩ : ∃ f24 : Nat → Int32, f24 = upd (F 0) v23.toNatClampNeg p3 ∧ va_P D vwCl (MW Y o a I J (vf_upd F 0 f24) G) H ∧ va_D A (MW Y o a I J (vf_upd F 0 f24) G) := ⟨_, rfl, hP, hD⟩
        have ct25 := clampI (x := v23) (by omega)
        have t25 : TO f24 := by rw [ef24]; exact TO_set hk0 (by unfold trow; omega) (by omega) (by omega) (by omega) (by omega)
        refine lv_iload hx hb dX11_row_73 (lv_at hl 0 rfl) ?_
        refine W.widen (k := 0) (n := 0) (Nat.le_of_ble_eq_true rfl) (Nat.le_of_ble_eq_true rfl) ?_
        exact W.iret (v := v20) hx hb hr (fun t ht hW => ⟨⟨(v20, f24), rfl, (t25), CB.mk ht hP hD⟩, hS.F ht⟩) hS.2.2 dX11_row_75
      · skip
        have c16 := i_ne (Eq.refl p3.toInt) (show ((-100000) : Int32).toInt = -100000 by decide) c16
        refine lv_iload_n hx hb dX11_row_21 rfl (lv_at hl 3 rfl) ?_
        have j26 := Int32.toInt_toInt64 p3
        refine lv_i2l (v := p3.toInt64) hx hb dX11_row_22 (rfl) ?_
        refine lv_ldc2 (v := (-30000)) hx hb hown (hg _ kw_1379) dX11_row_23 ?_
        refine lv_ldc2 (v := 30000) hx hb hown (hg _ kw_1380) dX11_row_26 ?_
        have zlm30000 : ((-30000) : Int64).toInt = -30000 := by decide
        have zl30000 : (30000 : Int64).toInt = 30000 := by decide
        refine cg0 (rn_S (As := [.long p3.toInt64, .long (-30000), .long 30000]) (rest := []) (m_in l D Y Z H.size   p3.toInt64 (-30000) 30000 ) ⟨hx, hb, hml, hown, hg⟩ lk_X11_99 ⟨CP.blind, CP.at nilP hKN (nilD (A := fun _ => True))⟩ ⟨⟨rfl, rfl⟩, ⟨Nat.le_of_ble_eq_true rfl, Nat.le_of_ble_eq_true rfl⟩, ⟨Nat.le_of_ble_eq_true rfl, Nat.le_of_ble_eq_true rfl⟩⟩ hl.1 rfl (Nat.le_of_ble_eq_true rfl) dX11_row_29) hP hS hA (fun u27 H locs w28 hP hS => ?_)
        have w28 : ((((-30000) : Int64).toInt ≤ p3.toInt64.toInt ∧ p3.toInt64.toInt ≤ (30000 : Int64).toInt ∧ u27.toInt = 1) ∨ (¬ (((-30000) : Int64).toInt ≤ p3.toInt64.toInt ∧ p3.toInt64.toInt ≤ (30000 : Int64).toInt) ∧ u27.toInt = 0)) ∧ (0 ≤ u27.toInt ∧ u27.toInt ≤ 1) := w28
        obtain ⟨hw30, hw31⟩ := w28
        refine W.eq (g2 := F0 m 32 ls [.int u27]) rfl ?_
        rcases (show u27.toInt = 1 ∨ u27.toInt = 0 by omega) with c32 | c32
        · obtain rfl : u27 = 1 := i_is c32 (by decide)
          refine W.eq (g2 := F0 m 32 ls [.int 1]) rfl ?_
          refine lv_if_ne (tgt := 38) hx hb dX11_row_32 (by decide) (fun c33 => ?_) (fun c33 => ?_)
          rotate_left
          · exact absurd c33 (by decide)
          refine lv_aload_n hx hb dX11_row_38 rfl (lv_at hl 0 rfl) ?_
          refine va_get (D := D) (ci := 11) (v := .ref (a 0)) (C := RX11) (T := TX11) (N := 49) hx hb hg inGX11 hown hKN.1 hP 0 rfl rfl 0 (by decide) (hg _ kw_1208) (fun _ h9 => h9) rfl dX11_row_39 ?_
          refine lv_sipush (v := 315) hx hb dX11_row_42 (by decide) ?_
          refine lv_sipush (v := 600) hx hb dX11_row_45 (by decide) ?_
          refine lv_iload_n hx hb dX11_row_48 rfl (lv_at hl 1 rfl) ?_
          refine lv_imul hx hb dX11_row_49 ?_
          refine lv_topi (fun v34 ev34 => ?_)
          have hv34 := i_mul (show (600 : Int32).toInt = 600 by decide) (Eq.refl p1.toInt) ev34 (by omega) (by omega)
          refine lv_iadd hx hb dX11_row_50 ?_
          refine lv_topi (fun v35 ev35 => ?_)
          have hv35 := i_add (show (315 : Int32).toInt = 315 by decide) (Eq.refl v34.toInt) ev35 (by omega) (by omega)
          refine lv_iload_n hx hb dX11_row_51 rfl (lv_at hl 2 rfl) ?_
          refine lv_iadd hx hb dX11_row_52 ?_
          refine lv_topi (fun v36 ev36 => ?_)
          have hv36 := i_add (Eq.refl v35.toInt) (Eq.refl p2.toInt) ev36 (by omega) (by omega)
          refine va_iald hx hb hKN.1 hP 1 0 rfl rfl (vp_in_iff.mpr ⟨by omega, by omega⟩) dX11_row_53 ?_
          refine lv_topi (fun v37 ev37 => ?_)
          have ev37 : v37 = (F 0) v36.toNatClampNeg := ev37
          have kv37 := TO_row hk0 (i := v36) (by omega) (by omega)
          rw [← ev37] at kv37
          refine lv_istore (lv' := [(4, .int v37), (0, .ref o), (1, .int p1), (2, .int p2), (3, .int p3)]) hx hb dX11_row_54 hl (by decide) rfl (fun ls hl => ?_)
          refine lv_aload_n hx hb dX11_row_56 rfl (lv_at hl 1 rfl) ?_
          refine va_get (D := D) (ci := 11) (v := .ref (a 0)) (C := RX11) (T := TX11) (N := 49) hx hb hg inGX11 hown hKN.1 hP 0 rfl rfl 0 (by decide) (hg _ kw_1208) (fun _ h9 => h9) rfl dX11_row_57 ?_
          refine lv_sipush (v := 315) hx hb dX11_row_60 (by decide) ?_
          refine lv_sipush (v := 600) hx hb dX11_row_63 (by decide) ?_
          refine lv_iload_n hx hb dX11_row_66 rfl (lv_at hl 2 rfl) ?_
          refine lv_imul hx hb dX11_row_67 ?_
          refine lv_topi (fun v38 ev38 => ?_)
          have hv38 := i_mul (show (600 : Int32).toInt = 600 by decide) (Eq.refl p1.toInt) ev38 (by omega) (by omega)
          refine lv_iadd hx hb dX11_row_68 ?_
          refine lv_topi (fun v39 ev39 => ?_)
          have hv39 := i_add (show (315 : Int32).toInt = 315 by decide) (Eq.refl v38.toInt) ev39 (by omega) (by omega)
          refine lv_iload_n hx hb dX11_row_69 rfl (lv_at hl 3 rfl) ?_
          refine lv_iadd hx hb dX11_row_70 ?_
          refine lv_topi (fun v40 ev40 => ?_)
          have hv40 := i_add (Eq.refl v39.toInt) (Eq.refl p2.toInt) ev40 (by omega) (by omega)
          refine lv_iload_n hx hb dX11_row_71 rfl (lv_at hl 4 rfl) ?_
          refine va_iast hx hb hKN.1 hP hD hS 1 0 rfl rfl (vp_in_iff.mpr ⟨by omega, by omega⟩) dX11_row_72 (fun H locs hP hD hS => ?_)
          obtain ⟨f41, ef41, hP, hD⟩ : ∃ f41 : Nat → Int32, f41 = upd (F 0) v40.toNatClampNeg p3 ∧ va_P D vwCl (MW Y o a I J (vf_upd F 0 f41) G) H ∧ va_D A (MW Y o a I J (vf_upd F 0 f41) G) := ⟨_, rfl, hP, hD⟩
          have ct42 := clampI (x := v40) (by omega)
          have t42 : TO f41 := by rw [ef41]; exact TO_set hk0 (by unfold trow; omega) (by omega) (by omega) (by omega) (by omega)
          refine lv_iload hx hb dX11_row_73 (lv_at hl 0 rfl) ?_
          refine W.widen (k := 0) (n := 0) (Nat.le_of_ble_eq_true rfl) (Nat.le_of_ble_eq_true rfl) ?_
          exact W.iret (v := v37) hx hb hr (fun t ht hW => ⟨⟨(v37, f41), rfl, (t42), CB.mk ht hP hD⟩, hS.F ht⟩) hS.2.2 dX11_row_75
        · obtain rfl : u27 = 0 := i_is c32 (by decide)
          have zi0 : (0 : Int32).toInt = 0 := by decide
          refine W.eq (g2 := F0 m 32 ls [.int 0]) rfl ?_
          refine lv_if_ne (tgt := 38) hx hb dX11_row_32 (by decide) (fun c43 => ?_) (fun c43 => ?_)
          · exact absurd c43 (by decide)
          refine lv_ldc (v := (-200000)) hx hb hown (hg _ kw_1381) dX11_row_35 ?_
          refine W.widen (k := 0) (n := 0) (Nat.le_of_ble_eq_true rfl) (Nat.le_of_ble_eq_true rfl) ?_
          have zim200000 : ((-200000) : Int32).toInt = -200000 := by decide
          exact W.iret (v := (-200000)) hx hb hr (fun t ht hW => ⟨⟨((-200000), (F 0)), rfl, (hk0), CB.mk ht hP hD⟩, hS.F ht⟩) hS.2.2 dX11_row_37
    · obtain rfl : u8 = 0 := i_is c13 (by decide)
      have zi0 : (0 : Int32).toInt = 0 := by decide
      refine W.eq (g2 := F0 m 12 ls [.int 0]) rfl ?_
      refine lv_if_eq (tgt := 35) hx hb dX11_row_12 (by decide) (fun c44 => ?_) (fun c44 => ?_)
      rotate_left
      · exact absurd c44 (by decide)
      refine lv_ldc (v := (-200000)) hx hb hown (hg _ kw_1381) dX11_row_35 ?_
      refine W.widen (k := 0) (n := 0) (Nat.le_of_ble_eq_true rfl) (Nat.le_of_ble_eq_true rfl) ?_
      have zim200000 : ((-200000) : Int32).toInt = -200000 := by decide
      exact W.iret (v := (-200000)) hx hb hr (fun t ht hW => ⟨⟨((-200000), (F 0)), rfl, (hk0), CB.mk ht hP hD⟩, hS.F ht⟩) hS.2.2 dX11_row_37
  · obtain rfl : u1 = 0 := i_is c6 (by decide)
    have zi0 : (0 : Int32).toInt = 0 := by decide
    refine W.eq (g2 := F0 m 5 ls [.int 0]) rfl ?_
    refine lv_if_eq (tgt := 35) hx hb dX11_row_5 (by decide) (fun c45 => ?_) (fun c45 => ?_)
    rotate_left
    · exact absurd c45 (by decide)
    refine lv_ldc (v := (-200000)) hx hb hown (hg _ kw_1381) dX11_row_35 ?_
    refine W.widen (k := 0) (n := 0) (Nat.le_of_ble_eq_true rfl) (Nat.le_of_ble_eq_true rfl) ?_
    have zim200000 : ((-200000) : Int32).toInt = -200000 := by decide
    exact W.iret (v := (-200000)) hx hb hr (fun t ht hW => ⟨⟨((-200000), (F 0)), rfl, (hk0), CB.mk ht hP hD⟩, hS.F ht⟩) hS.2.2 dX11_row_37
set_option maxHeartbeats 4000000 in
set_option maxRecDepth 100000 in
theorem m_resize (l : Launch) (D : va_G) (Y : Nat → ClassId) (Z : Nat → Nat) (sz : Nat) (o : Nat) (a : Nat → Nat) (I : Nat → Int32) (J : Nat → Int64) (F : Nat → Nat → Int32) (G : Nat → Nat → Int64) (p1 : Int32) (p2 : Int32) (hk0 : TO (F 0)) : Met l yX11_resize (.code yX11_resize cX11_resize 4 (some .int) :: GW) ({ frames := 1, cells := 0, slots := 0, locals := 25 }) (va_Pc [.ref o, .int p1, .int p2] (CP D Y Z (MW Y o a I J F G) sz)) (QG (S := Int32 × (Nat → Int32)) (fun u => some (.int u.1)) (fun u => TO u.2) (fun u => CB D (MW Y o a I J (vf_upd F 0 u.2) G) (va_A (MW Y o a I J F G) sz)) (va_A (MW Y o a I J F G) sz)) 0 0 (va_A (MW Y o a I J F G) sz) := by
  refine Met.ofW (cc := cX11_resize) (maxL := 4) (ret := (some .int)) (by decide) rfl ?_
  intro p e s m args below meth c s₁ B hml hv
  obtain ⟨rfl, hsz, hP, hKN, hD0⟩ := hv
  have hx := B.exec
  have hb := B.bytes
  have hr := B.returns
  have hts := atoms_spec (ws := .code yX11_resize cX11_resize 4 (some .int) :: GW) B.pre
  have hg : ∀ w ∈ GW, w.before _ s = true := fun w h => hts w (List.mem_cons_of_mem _ h)
  have hown : s.vm.findClass RX11 = some m.cls := findClass_of_methodNamed B.named
  have hlocks := B.notSynchronized
  subst hsz
  have hD := hD0.self (sz := s.heap.size)
  generalize hAe : va_A (MW Y o a I J F G) s.heap.size = A at hD ⊢
  have hA : ∀ q : Nat, s.heap.size ≤ q → A q := fun q h => by rw [← hAe]; exact Or.inr h
  clear hAe hD0 hts B
  have hl := lv_entry ([.ref o, .int p1, .int p2]) (n := 4) (Nat.le_of_ble_eq_true rfl)
  rw [lg_entry_eq]
  generalize (lg_sl ([.ref o, .int p1, .int p2]) ++ List.replicate (4 - (lg_sl ([.ref o, .int p1, .int p2])).length) Slot.unset).toArray = ls at hl ⊢
  have hl : lv_has ls 4 [(0, .ref o), (1, .int p1), (2, .int p2)] := hl
  refine w_start (A0 := A) hP (fun H locs hP hS => ?_)
  refine lv_aload_n hx hb dX11_resize_0 rfl (lv_at hl 0 rfl) ?_
  refine lv_iload_n hx hb dX11_resize_1 rfl (lv_at hl 1 rfl) ?_
  refine cga (rn_V (As := [.int p1]) (rest := []) (b := o) (m_isStar l D Y Z H.size o a I J F G  p1 hk0) ⟨hx, hb, hml, hown, hg⟩ lk_X11_108 ⟨CP.blind, va_recv hKN.1 hP (ci := 11) (q0 := 0) rfl rfl, CP.at hP hKN hD⟩ ⟨⟨rfl, rfl⟩, ⟨Nat.le_of_ble_eq_true rfl, Nat.le_of_ble_eq_true rfl⟩, ⟨Nat.le_of_ble_eq_true rfl, Nat.le_of_ble_eq_true rfl⟩⟩ hl.1 rfl (Nat.le_of_ble_eq_true rfl) dX11_resize_2) hP hD hS hA (fun u1 H locs w2 hP hD hS => ?_)
  have w2 : ((0 ≤ p1.toInt ∧ p1.toInt ≤ 11 ∧ p1.toInt < ((F 0) 0).toInt ∧ u1.toInt = 1) ∨ (¬ (0 ≤ p1.toInt ∧ p1.toInt < ((F 0) 0).toInt) ∧ u1.toInt = 0)) ∧ (0 ≤ u1.toInt ∧ u1.toInt ≤ 1) := w2
  obtain ⟨hw4, hw5⟩ := w2
  refine W.eq (g2 := F0 m 5 ls [.int u1]) rfl ?_
  have hP : va_P D vwCl (MW Y o a I J F G) H := hP
  have hD : va_D A (MW Y o a I J F G) := hD
  rcases (show u1.toInt = 1 ∨ u1.toInt = 0 by omega) with c6 | c6
  · obtain rfl : u1 = 1 := i_is c6 (by decide)
    have zi1 : (1 : Int32).toInt = 1 := by decide
    refine W.eq (g2 := F0 m 5 ls [.int 1]) rfl ?_
    refine lv_if_eq (tgt := 20) hx hb dX11_resize_5 (by decide) (fun c7 => ?_) (fun c7 => ?_)
    · exact absurd c7 (by decide)
    refine lv_iload_n hx hb dX11_resize_8 rfl (lv_at hl 2 rfl) ?_
    have j8 := rgI p2
    have j9 := Int32.toInt_toInt64 p2
    refine lv_i2l (v := p2.toInt64) hx hb dX11_resize_9 (rfl) ?_
    refine lv_lconst (v := 1) hx hb dX11_resize_10 (by decide) ?_
    refine lv_ldc2 (v := 999) hx hb hown (hg _ kw_1361) dX11_resize_11 ?_
    have zl1 : (1 : Int64).toInt = 1 := by decide
    have zl999 : (999 : Int64).toInt = 999 := by decide
    refine cg0 (rn_S (As := [.long p2.toInt64, .long 1, .long 999]) (rest := []) (m_in l D Y Z H.size   p2.toInt64 1 999 ) ⟨hx, hb, hml, hown, hg⟩ lk_X11_99 ⟨CP.blind, CP.at nilP hKN (nilD (A := fun _ => True))⟩ ⟨⟨rfl, rfl⟩, ⟨Nat.le_of_ble_eq_true rfl, Nat.le_of_ble_eq_true rfl⟩, ⟨Nat.le_of_ble_eq_true rfl, Nat.le_of_ble_eq_true rfl⟩⟩ hl.1 rfl (Nat.le_of_ble_eq_true rfl) dX11_resize_14) hP hS hA (fun u10 H locs w11 hP hS => ?_)
    have w11 : (((1 : Int64).toInt ≤ p2.toInt64.toInt ∧ p2.toInt64.toInt ≤ (999 : Int64).toInt ∧ u10.toInt = 1) ∨ (¬ ((1 : Int64).toInt ≤ p2.toInt64.toInt ∧ p2.toInt64.toInt ≤ (999 : Int64).toInt) ∧ u10.toInt = 0)) ∧ (0 ≤ u10.toInt ∧ u10.toInt ≤ 1) := w11
    obtain ⟨hw13, hw14⟩ := w11
    refine W.eq (g2 := F0 m 17 ls [.int u10]) rfl ?_
    rcases (show u10.toInt = 1 ∨ u10.toInt = 0 by omega) with c15 | c15
    · obtain rfl : u10 = 1 := i_is c15 (by decide)
      refine W.eq (g2 := F0 m 17 ls [.int 1]) rfl ?_
      refine lv_if_ne (tgt := 22) hx hb dX11_resize_17 (by decide) (fun c16 => ?_) (fun c16 => ?_)
      rotate_left
      · exact absurd c16 (by decide)
      refine lv_aload_n hx hb dX11_resize_22 rfl (lv_at hl 0 rfl) ?_
      refine lv_iload_n hx hb dX11_resize_23 rfl (lv_at hl 1 rfl) ?_
      refine lv_iconst (v := 0) hx hb dX11_resize_24 (by decide) ?_
      have zi0 : (0 : Int32).toInt = 0 := by decide
      refine cga (rn_V (As := [.int p1, .int 0]) (rest := []) (b := o) (m_starOf0 l D Y Z H.size o a I J F G  p1 (show (0 ≤ p1.toInt ∧ p1.toInt ≤ 11) by omega) hk0) ⟨hx, hb, hml, hown, hg⟩ lk_X11_120 ⟨CP.blind, va_recv hKN.1 hP (ci := 11) (q0 := 0) rfl rfl, CP.at hP hKN hD⟩ ⟨⟨rfl, rfl⟩, ⟨Nat.le_of_ble_eq_true rfl, Nat.le_of_ble_eq_true rfl⟩, ⟨Nat.le_of_ble_eq_true rfl, Nat.le_of_ble_eq_true rfl⟩⟩ hl.1 rfl (Nat.le_of_ble_eq_true rfl) dX11_resize_25) hP hD hS hA (fun u17 H locs w18 hP hD hS => ?_)
      have w18 : (0 ≤ u17.toInt ∧ u17.toInt ≤ 999) := w18
      have hw20 := w18
      refine W.eq (g2 := F0 m 28 ls [.int u17]) rfl ?_
      have hP : va_P D vwCl (MW Y o a I J F G) H := hP
      have hD : va_D A (MW Y o a I J F G) := hD
      refine lv_istore_n (lv' := [(3, .int u17), (0, .ref o), (1, .int p1), (2, .int p2)]) hx hb dX11_resize_28 rfl hl (by decide) rfl (fun ls hl => ?_)
      refine lv_aload_n hx hb dX11_resize_29 rfl (lv_at hl 1 rfl) ?_
      refine va_get (D := D) (ci := 11) (v := .ref (a 0)) (C := RX11) (T := TX11) (N := 49) hx hb hg inGX11 hown hKN.1 hP 0 rfl rfl 0 (by decide) (hg _ kw_1208) (fun _ h9 => h9) rfl dX11_resize_30 ?_
      refine lv_iconst (v := 3) hx hb dX11_resize_33 (by decide) ?_
      refine lv_iconst (v := 3) hx hb dX11_resize_34 (by decide) ?_
      refine lv_iload_n hx hb dX11_resize_35 rfl (lv_at hl 2 rfl) ?_
      refine lv_imul hx hb dX11_resize_36 ?_
      refine lv_topi (fun v21 ev21 => ?_)
      have hv21 := i_mul (show (3 : Int32).toInt = 3 by decide) (Eq.refl p1.toInt) ev21 (by omega) (by omega)
      refine lv_iadd hx hb dX11_resize_37 ?_
      refine lv_topi (fun v22 ev22 => ?_)
      have hv22 := i_add (show (3 : Int32).toInt = 3 by decide) (Eq.refl v21.toInt) ev22 (by omega) (by omega)
      refine lv_iload_n hx hb dX11_resize_38 rfl (lv_at hl 3 rfl) ?_
      refine va_iast hx hb hKN.1 hP hD hS 1 0 rfl rfl (vp_in_iff.mpr ⟨by omega, by omega⟩) dX11_resize_39 (fun H locs hP hD hS => ?_)
      obtain ⟨f23, ef23, hP, hD⟩ : ∃ f23 : Nat → Int32, f23 = upd (F 0) v22.toNatClampNeg p2 ∧ va_P D vwCl (MW Y o a I J (vf_upd F 0 f23) G) H ∧ va_D A (MW Y o a I J (vf_upd F 0 f23) G) := ⟨_, rfl, hP, hD⟩
      have ct24 := clampI (x := v22) (by omega)
      have t24 : TO f23 := by rw [ef23]; exact TO_set hk0 (by unfold trow; omega) (by omega) (by omega) (by omega) (by omega)
      refine lv_iload_n hx hb dX11_resize_40 rfl (lv_at hl 0 rfl) ?_
      refine W.widen (k := 0) (n := 0) (Nat.le_of_ble_eq_true rfl) (Nat.le_of_ble_eq_true rfl) ?_
      exact W.iret (v := u17) hx hb hr (fun t ht hW => ⟨⟨(u17, f23), rfl, (t24), CB.mk ht hP hD⟩, hS.F ht⟩) hS.2.2 dX11_resize_41
    · obtain rfl : u10 = 0 := i_is c15 (by decide)
      have zi0 : (0 : Int32).toInt = 0 := by decide
      refine W.eq (g2 := F0 m 17 ls [.int 0]) rfl ?_
      refine lv_if_ne (tgt := 22) hx hb dX11_resize_17 (by decide) (fun c25 => ?_) (fun c25 => ?_)
      · exact absurd c25 (by decide)
      refine lv_iconst (v := (-1)) hx hb dX11_resize_20 (by decide) ?_
      refine W.widen (k := 0) (n := 0) (Nat.le_of_ble_eq_true rfl) (Nat.le_of_ble_eq_true rfl) ?_
      have zim1 : ((-1) : Int32).toInt = -1 := by decide
      exact W.iret (v := (-1)) hx hb hr (fun t ht hW => ⟨⟨((-1), (F 0)), rfl, (hk0), CB.mk ht hP hD⟩, hS.F ht⟩) hS.2.2 dX11_resize_21
  · obtain rfl : u1 = 0 := i_is c6 (by decide)
    have zi0 : (0 : Int32).toInt = 0 := by decide
    refine W.eq (g2 := F0 m 5 ls [.int 0]) rfl ?_
    refine lv_if_eq (tgt := 20) hx hb dX11_resize_5 (by decide) (fun c26 => ?_) (fun c26 => ?_)
    rotate_left
    · exact absurd c26 (by decide)
    refine lv_iconst (v := (-1)) hx hb dX11_resize_20 (by decide) ?_
    refine W.widen (k := 0) (n := 0) (Nat.le_of_ble_eq_true rfl) (Nat.le_of_ble_eq_true rfl) ?_
    have zim1 : ((-1) : Int32).toInt = -1 := by decide
    exact W.iret (v := (-1)) hx hb hr (fun t ht hW => ⟨⟨((-1), (F 0)), rfl, (hk0), CB.mk ht hP hD⟩, hS.F ht⟩) hS.2.2 dX11_resize_21
set_option maxHeartbeats 4000000 in
set_option maxRecDepth 100000 in
theorem m_meanOf (l : Launch) (D : va_G) (Y : Nat → ClassId) (Z : Nat → Nat) (sz : Nat) (o : Nat) (a : Nat → Nat) (I : Nat → Int32) (J : Nat → Int64) (F : Nat → Nat → Int32) (G : Nat → Nat → Int64) (p1 : Int32) (p2 : Int32) (p3 : Int32) (hk_0 : (0 ≤ p1.toInt ∧ p1.toInt ≤ 11)) (hk0 : TO (F 0)) : Met l yX11_meanOf (.code yX11_meanOf cX11_meanOf 8 (some .int) :: GW) ({ frames := 1, cells := 0, slots := 0, locals := 25 }) (va_Pc [.ref o, .int p1, .int p2, .int p3] (CP D Y Z (MW Y o a I J F G) sz)) (QG (S := Int32) (fun u => some (.int u)) (fun u => (0 = 0)) (fun u => CB D (MW Y o a I J F G) (va_A (MW Y o a I J F G) sz)) (va_A (MW Y o a I J F G) sz)) 0 0 (va_A (MW Y o a I J F G) sz) := by
  refine Met.ofW (cc := cX11_meanOf) (maxL := 8) (ret := (some .int)) (by decide) rfl ?_
  intro p e s m args below meth c s₁ B hml hv
  obtain ⟨rfl, hsz, hP, hKN, hD0⟩ := hv
  have hx := B.exec
  have hb := B.bytes
  have hr := B.returns
  have hts := atoms_spec (ws := .code yX11_meanOf cX11_meanOf 8 (some .int) :: GW) B.pre
  have hg : ∀ w ∈ GW, w.before _ s = true := fun w h => hts w (List.mem_cons_of_mem _ h)
  have hown : s.vm.findClass RX11 = some m.cls := findClass_of_methodNamed B.named
  have hlocks := B.notSynchronized
  subst hsz
  have hD := hD0.self (sz := s.heap.size)
  generalize hAe : va_A (MW Y o a I J F G) s.heap.size = A at hD ⊢
  have hA : ∀ q : Nat, s.heap.size ≤ q → A q := fun q h => by rw [← hAe]; exact Or.inr h
  clear hAe hD0 hts B
  have hl := lv_entry ([.ref o, .int p1, .int p2, .int p3]) (n := 8) (Nat.le_of_ble_eq_true rfl)
  rw [lg_entry_eq]
  generalize (lg_sl ([.ref o, .int p1, .int p2, .int p3]) ++ List.replicate (8 - (lg_sl ([.ref o, .int p1, .int p2, .int p3])).length) Slot.unset).toArray = ls at hl ⊢
  have hl : lv_has ls 8 [(0, .ref o), (1, .int p1), (2, .int p2), (3, .int p3)] := hl
  refine w_start (A0 := A) hP (fun H locs hP hS => ?_)
  refine lv_lconst (v := 0) hx hb dX11_meanOf_0 (by decide) ?_
  refine lv_lstore (lv' := [(4, .long 0), (0, .ref o), (1, .int p1), (2, .int p2), (3, .int p3)]) hx hb dX11_meanOf_1 hl (by decide) rfl (fun ls hl => ?_)
  refine lv_iconst (v := 0) hx hb dX11_meanOf_3 (by decide) ?_
  refine lv_istore (lv' := [(6, .int 0), (4, .long 0), (0, .ref o), (1, .int p1), (2, .int p2), (3, .int p3)]) hx hb dX11_meanOf_4 hl (by decide) rfl (fun ls hl => ?_)
  refine lv_iload_n hx hb dX11_meanOf_6 rfl (lv_at hl 4 rfl) ?_
  refine w_join (σ := Int32 × Int32 × Int32 × Int32) (pcJ := 15) (kJ := 0) (nJ := 0) (stk := fun xx => match xx with | (g3, g4, g5, g6) => [.int g6]) (fun xx H locs ls => match xx with | (g3, g4, g5, g6) => va_P D vwCl (MW Y o a I J F G) H ∧ va_D A (MW Y o a I J F G) ∧ va_S A s.heap H locs ∧ lv_has ls 8 [(6, .int 0), (4, .long 0), (0, .ref o), (1, .int g3), (2, .int g4), (3, .int g5)] ∧ (0 ≤ g3.toInt ∧ g3.toInt ≤ 11) ∧ (0 ≤ g6.toInt)) (fun xx H locs ls hI => ?_) (fun jn7 => ?_)
  · skip
    obtain ⟨g3, g4, g5, g6⟩ := xx
    obtain ⟨hP, hD, hS, hl, hq8, hq9⟩ := hI
    refine W.eq (g2 := F0 m 15 ls [.int g6]) rfl ?_
    refine lv_istore (lv' := [(7, .int g6), (6, .int 0), (4, .long 0), (0, .ref o), (1, .int g3), (2, .int g4), (3, .int g5)]) hx hb dX11_meanOf_15 hl (by decide) rfl (fun ls hl => ?_)
    have zi0 : (0 : Int32).toInt = 0 := by decide
    have zl0 : (0 : Int64).toInt = 0 := by decide
    refine w_loop (σ := Int32 × Int32 × Int64) (fun xx H locs ls => match xx with | (g67, g68, g69) => va_P D vwCl (MW Y o a I J F G) H ∧ va_D A (MW Y o a I J F G) ∧ va_S A s.heap H locs ∧ lv_has ls 8 [(7, .int g67), (6, .int g68), (4, .long g69), (0, .ref o), (1, .int g3), (2, .int g4), (3, .int g5)] ∧ (0 ≤ g67.toInt)) (fun xx => match xx with | (g67, g68, g69) => (600 - g67.toInt).toNat) (g6, 0, 0) ⟨hP, hD, hS, lv_sub hl [0, 1, 2, 3, 4, 5, 6] rfl, by omega⟩ (fun xx H locs ls hI ih => ?_)
    obtain ⟨g67, g68, g69⟩ := xx
    obtain ⟨hP, hD, hS, hl, hq127⟩ := hI
    have ih128 := ih
    refine lv_iload hx hb dX11_meanOf_17 (lv_at hl 0 rfl) ?_
    refine lv_iload_n hx hb dX11_meanOf_19 rfl (lv_at hl 6 rfl) ?_
    refine w_join (σ := Unit) (pcJ := 68) (kJ := 0) (nJ := 0) (stk := fun xx => match xx with | _ => []) (fun xx H locs ls => match xx with | _ => va_P D vwCl (MW Y o a I J F G) H ∧ va_D A (MW Y o a I J F G) ∧ va_S A s.heap H locs ∧ lv_has ls 8 [(7, .int g67), (6, .int g68), (4, .long g69), (0, .ref o), (1, .int g3), (2, .int g4), (3, .int g5)]) (fun xx H locs ls hI => ?_) (fun jn157 => ?_)
    · skip
      obtain ⟨hP, hD, hS, hl⟩ := hI
      refine W.eq (g2 := F0 m 68 ls []) rfl ?_
      refine lv_iload hx hb dX11_meanOf_68 (lv_at hl 1 rfl) ?_
      have j165 := rgI g68
      refine lv_if_ne (tgt := 77) hx hb dX11_meanOf_70 (by decide) (fun c166 => ?_) (fun c166 => ?_)
      · skip
        have c166 := i_ne (Eq.refl g68.toInt) (show (0 : Int32).toInt = 0 by decide) c166
        refine lv_lload hx hb dX11_meanOf_77 (lv_at hl 2 rfl) ?_
        refine lv_iload hx hb dX11_meanOf_79 (lv_at hl 1 rfl) ?_
        have j167 := Int32.toInt_toInt64 g68
        refine lv_i2l (v := g68.toInt64) hx hb dX11_meanOf_81 (rfl) ?_
        refine cg0 (rn_S (As := [.long g69, .long g68.toInt64]) (rest := []) (m_down l D Y Z H.size   g69 g68.toInt64 (show (g68.toInt64.toInt ≠ 0) by omega)) ⟨hx, hb, hml, hown, hg⟩ lk_X11_133 ⟨CP.blind, CP.at nilP hKN (nilD (A := fun _ => True))⟩ ⟨⟨rfl, rfl⟩, ⟨Nat.le_of_ble_eq_true rfl, Nat.le_of_ble_eq_true rfl⟩, ⟨Nat.le_of_ble_eq_true rfl, Nat.le_of_ble_eq_true rfl⟩⟩ hl.1 rfl (Nat.le_of_ble_eq_true rfl) dX11_meanOf_82) hP hS hA (fun u168 H locs w169 hP hS => ?_)
        refine W.eq (g2 := F0 m 85 ls [.long u168]) rfl ?_
        refine lv_l2i (v := u168.toInt32) hx hb dX11_meanOf_85 rfl ?_
        refine lv_topi (fun v171 ev171 => ?_)
        refine W.widen (k := 0) (n := 0) (Nat.le_of_ble_eq_true rfl) (Nat.le_of_ble_eq_true rfl) ?_
        exact W.iret (v := v171) hx hb hr (fun t ht hW => ⟨⟨v171, rfl, ((show (0 = 0) by omega)), CB.mk ht hP hD⟩, hS.F ht⟩) hS.2.2 dX11_meanOf_86
      · skip
        have c166 := i_eq (Eq.refl g68.toInt) (show (0 : Int32).toInt = 0 by decide) c166
        refine lv_iconst (v := 0) hx hb dX11_meanOf_73 (by decide) ?_
        refine lv_goto (tgt := 86) hx hb dX11_meanOf_74 (by decide) ?_
        refine W.widen (k := 0) (n := 0) (Nat.le_of_ble_eq_true rfl) (Nat.le_of_ble_eq_true rfl) ?_
        have zi0 : (0 : Int32).toInt = 0 := by decide
        exact W.iret (v := 0) hx hb hr (fun t ht hW => ⟨⟨0, rfl, ((show (0 = 0) by omega)), CB.mk ht hP hD⟩, hS.F ht⟩) hS.2.2 dX11_meanOf_86
    · skip
      have j172 := rgI g67
      have j173 := rgI g5
      refine lv_icmp_gt (tgt := 68) hx hb dX11_meanOf_20 (by decide) (fun c174 => ?_) (fun c174 => ?_)
      · skip
        have c174 := i_lt (Eq.refl g5.toInt) (Eq.refl g67.toInt) c174
        refine W.widen (k := 0) (n := 0) (Nat.le_of_ble_eq_true rfl) (Nat.le_of_ble_eq_true rfl) ?_
        exact jn157 (()) H locs ls ⟨hP, hD, hS, lv_sub hl [0, 1, 2, 3, 4, 5, 6] rfl⟩
      · skip
        have c174 := i_nlt (Eq.refl g5.toInt) (Eq.refl g67.toInt) c174
        refine lv_iload hx hb dX11_meanOf_23 (lv_at hl 0 rfl) ?_
        refine lv_sipush (v := 600) hx hb dX11_meanOf_25 (by decide) ?_
        refine lv_icmp_ge (tgt := 68) hx hb dX11_meanOf_28 (by decide) (fun c175 => ?_) (fun c175 => ?_)
        · skip
          have c175 := i_le (show (600 : Int32).toInt = 600 by decide) (Eq.refl g67.toInt) c175
          refine W.widen (k := 0) (n := 0) (Nat.le_of_ble_eq_true rfl) (Nat.le_of_ble_eq_true rfl) ?_
          exact jn157 (()) H locs ls ⟨hP, hD, hS, lv_sub hl [0, 1, 2, 3, 4, 5, 6] rfl⟩
        · skip
          have c175 := i_nle (show (600 : Int32).toInt = 600 by decide) (Eq.refl g67.toInt) c175
          refine lv_aload_n hx hb dX11_meanOf_31 rfl (lv_at hl 3 rfl) ?_
          refine lv_iload_n hx hb dX11_meanOf_32 rfl (lv_at hl 4 rfl) ?_
          refine lv_iload hx hb dX11_meanOf_33 (lv_at hl 0 rfl) ?_
          refine cga (rn_V (As := [.int g3, .int g67]) (rest := []) (b := o) (m_rowAt l D Y Z H.size o a I J F G  g3 g67 (show (0 ≤ g3.toInt ∧ g3.toInt ≤ 11) by omega) (show (0 ≤ g67.toInt ∧ g67.toInt ≤ 599) by omega) hk0) ⟨hx, hb, hml, hown, hg⟩ lk_X11_130 ⟨CP.blind, va_recv hKN.1 hP (ci := 11) (q0 := 0) rfl rfl, CP.at hP hKN hD⟩ ⟨⟨rfl, rfl⟩, ⟨Nat.le_of_ble_eq_true rfl, Nat.le_of_ble_eq_true rfl⟩, ⟨Nat.le_of_ble_eq_true rfl, Nat.le_of_ble_eq_true rfl⟩⟩ hl.1 rfl (Nat.le_of_ble_eq_true rfl) dX11_meanOf_35) hP hD hS hA (fun u176 H locs w177 hP hD hS => ?_)
          have w177 : (-100000 ≤ u176.toInt ∧ u176.toInt ≤ 100000) := w177
          have hw179 := w177
          refine W.eq (g2 := F0 m 38 ls [.int u176]) rfl ?_
          have hP : va_P D vwCl (MW Y o a I J F G) H := hP
          have hD : va_D A (MW Y o a I J F G) := hD
          refine lv_ldc (v := (-100000)) hx hb hown (hg _ kw_1367) dX11_meanOf_38 ?_
          refine w_join (σ := Int32 × Int64) (pcJ := 62) (kJ := 0) (nJ := 0) (stk := fun xx => match xx with | (g188, g189) => []) (fun xx H locs ls => match xx with | (g188, g189) => va_P D vwCl (MW Y o a I J F G) H ∧ va_D A (MW Y o a I J F G) ∧ va_S A s.heap H locs ∧ lv_has ls 8 [(6, .int g188), (4, .long g189), (7, .int g67), (0, .ref o), (1, .int g3), (2, .int g4), (3, .int g5)]) (fun xx H locs ls hI => ?_) (fun jn190 => ?_)
          · skip
            obtain ⟨g188, g189⟩ := xx
            obtain ⟨hP, hD, hS, hl⟩ := hI
            refine W.eq (g2 := F0 m 62 ls []) rfl ?_
            obtain ⟨v191, ev191⟩ : ∃ y : Int32, y = g67 + 1 := ⟨_, rfl⟩
            have hv191 := i_add (Eq.refl g67.toInt) (show (1 : Int32).toInt = 1 by decide) ev191 (by omega) (by omega)
            refine lv_iinc (v := v191) (lv' := [(7, .int v191), (6, .int g188), (4, .long g189), (0, .ref o), (1, .int g3), (2, .int g4), (3, .int g5)]) hx hb dX11_meanOf_62 hl (k := 2) rfl (by rw [ev191]; rfl) (by decide) rfl (fun ls hl => ?_)
            refine lv_goto (tgt := 17) hx hb dX11_meanOf_65 (by decide) ?_
            exact ih128 (v191, g188, g189) H locs ls (by show (600 - v191.toInt).toNat < (600 - g67.toInt).toNat; omega) ⟨hP, hD, hS, lv_sub hl [0, 1, 2, 3, 4, 5, 6] rfl, by omega⟩
          · skip
            refine lv_icmp_ne (tgt := 46) hx hb dX11_meanOf_40 (by decide) (fun c192 => ?_) (fun c192 => ?_)
            · skip
              have c192 := i_ne (Eq.refl u176.toInt) (show ((-100000) : Int32).toInt = -100000 by decide) c192
              refine lv_lload hx hb dX11_meanOf_46 (lv_at hl 2 rfl) ?_
              refine lv_aload_n hx hb dX11_meanOf_48 rfl (lv_at hl 3 rfl) ?_
              refine lv_iload_n hx hb dX11_meanOf_49 rfl (lv_at hl 4 rfl) ?_
              refine lv_iload hx hb dX11_meanOf_50 (lv_at hl 0 rfl) ?_
              refine cga (rn_V (As := [.int g3, .int g67]) (rest := [.long g69]) (b := o) (m_rowAt l D Y Z H.size o a I J F G  g3 g67 (show (0 ≤ g3.toInt ∧ g3.toInt ≤ 11) by omega) (show (0 ≤ g67.toInt ∧ g67.toInt ≤ 599) by omega) hk0) ⟨hx, hb, hml, hown, hg⟩ lk_X11_130 ⟨CP.blind, va_recv hKN.1 hP (ci := 11) (q0 := 0) rfl rfl, CP.at hP hKN hD⟩ ⟨⟨rfl, rfl⟩, ⟨Nat.le_of_ble_eq_true rfl, Nat.le_of_ble_eq_true rfl⟩, ⟨Nat.le_of_ble_eq_true rfl, Nat.le_of_ble_eq_true rfl⟩⟩ hl.1 rfl (Nat.le_of_ble_eq_true rfl) dX11_meanOf_52) hP hD hS hA (fun u193 H locs w194 hP hD hS => ?_)
              have w194 : (-100000 ≤ u193.toInt ∧ u193.toInt ≤ 100000) := w194
              have hw196 := w194
              refine W.eq (g2 := F0 m 55 ls [.int u193, .long g69]) rfl ?_
              have hP : va_P D vwCl (MW Y o a I J F G) H := hP
              have hD : va_D A (MW Y o a I J F G) := hD
              have j197 := Int32.toInt_toInt64 u193
              refine lv_i2l (v := u193.toInt64) hx hb dX11_meanOf_55 (rfl) ?_
              refine lv_ladd hx hb dX11_meanOf_56 ?_
              refine lv_topl (fun v198 ev198 => ?_)
              refine lv_lstore (lv' := [(4, .long v198), (7, .int g67), (6, .int g68), (0, .ref o), (1, .int g3), (2, .int g4), (3, .int g5)]) hx hb dX11_meanOf_57 hl (by decide) rfl (fun ls hl => ?_)
              obtain ⟨v199, ev199⟩ : ∃ y : Int32, y = g68 + 1 := ⟨_, rfl⟩
              refine lv_iinc (v := v199) (lv' := [(6, .int v199), (4, .long v198), (7, .int g67), (0, .ref o), (1, .int g3), (2, .int g4), (3, .int g5)]) hx hb dX11_meanOf_59 hl (k := 2) rfl (by rw [ev199]; rfl) (by decide) rfl (fun ls hl => ?_)
              refine W.widen (k := 0) (n := 0) (Nat.le_of_ble_eq_true rfl) (Nat.le_of_ble_eq_true rfl) ?_
              exact jn190 (v199, v198) H locs ls ⟨hP, hD, hS, lv_sub hl [0, 1, 2, 3, 4, 5, 6] rfl⟩
            · skip
              have c192 := i_eq (Eq.refl u176.toInt) (show ((-100000) : Int32).toInt = -100000 by decide) c192
              refine lv_goto (tgt := 62) hx hb dX11_meanOf_43 (by decide) ?_
              refine W.widen (k := 0) (n := 0) (Nat.le_of_ble_eq_true rfl) (Nat.le_of_ble_eq_true rfl) ?_
              exact jn190 (g68, g69) H locs ls ⟨hP, hD, hS, lv_sub hl [1, 2, 0, 3, 4, 5, 6] rfl⟩
  · skip
    have j200 := rgI p2
    refine lv_if_ge (tgt := 14) hx hb dX11_meanOf_7 (by decide) (fun c201 => ?_) (fun c201 => ?_)
    · skip
      have c201 := i_le (show (0 : Int32).toInt = 0 by decide) (Eq.refl p2.toInt) c201
      refine lv_iload_n hx hb dX11_meanOf_14 rfl (lv_at hl 4 rfl) ?_
      have zi0 : (0 : Int32).toInt = 0 := by decide
      have zl0 : (0 : Int64).toInt = 0 := by decide
      refine W.widen (k := 0) (n := 0) (Nat.le_of_ble_eq_true rfl) (Nat.le_of_ble_eq_true rfl) ?_
      exact jn7 (p1, p2, p3, p2) H locs ls ⟨hP, hD, hS, lv_sub hl [0, 1, 2, 3, 4, 5] rfl, by omega, by omega⟩
    · skip
      have c201 := i_nle (show (0 : Int32).toInt = 0 by decide) (Eq.refl p2.toInt) c201
      refine lv_iconst (v := 0) hx hb dX11_meanOf_10 (by decide) ?_
      refine lv_goto (tgt := 15) hx hb dX11_meanOf_11 (by decide) ?_
      have zi0 : (0 : Int32).toInt = 0 := by decide
      have zl0 : (0 : Int64).toInt = 0 := by decide
      refine W.widen (k := 0) (n := 0) (Nat.le_of_ble_eq_true rfl) (Nat.le_of_ble_eq_true rfl) ?_
      exact jn7 (p1, p2, p3, 0) H locs ls ⟨hP, hD, hS, lv_sub hl [0, 1, 2, 3, 4, 5] rfl, by omega, by omega⟩
