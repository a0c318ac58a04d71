set_option maxHeartbeats 4000000 in
set_option maxRecDepth 100000 in
theorem m_opens (l : Launch) (D : va_G) (Y : Nat → ClassId) (Z : Nat → Nat) (sz : Nat) (o : Nat) (a : Nat → Nat) (I : Nat → Int32) (J : Nat → Int64) (F : Nat → Nat → Int32) (G : Nat → Nat → Int64) (p1 : Int32) (hk_0 : (0 ≤ (I 16).toInt ∧ (I 16).toInt ≤ 400)) (hk_1 : (0 ≤ (I 24).toInt ∧ (I 24).toInt ≤ 399)) (hk_2 : (0 ≤ (I 17).toInt ∧ (I 17).toInt ≤ 4000)) (hk_3 : (0 ≤ p1.toInt ∧ p1.toInt ≤ 100)) : Met l yX11_opens (.code yX11_opens cX11_opens 2 (some .boolean) :: GW) ({ frames := 1, cells := 0, slots := 0, locals := 22 }) (va_Pc [.ref o, .int p1] (CP D Y Z (MW Y o a I J F G) sz)) (QG (S := Int32 × Int32 × Int32 × Int32 × (Nat → Int32)) (fun u => some (.int u.1)) (fun u => (0 ≤ u.2.1.toInt ∧ u.2.1.toInt ≤ 4000) ∧ (u.1.toInt = 1 → u.2.2.2.1.toInt = (I 24).toInt + 1) ∧ (u.1.toInt = 0 → 1 ≤ u.2.1.toInt) ∧ (0 ≤ u.2.2.2.1.toInt ∧ u.2.2.2.1.toInt ≤ 400) ∧ (0 ≤ u.1.toInt ∧ u.1.toInt ≤ 1) ∧ (u.1.toInt = 1 → u.2.2.2.2 = upd (F 23) (I 24).toNatClampNeg p1)) (fun u => CB D (MW Y o a (upd (upd (upd I 17 u.2.1) 21 u.2.2.1) 24 u.2.2.2.1) J (vf_upd F 23 u.2.2.2.2) G) (va_A (MW Y o a I J F G) sz)) (va_A (MW Y o a I J F G) sz)) 0 0 (va_A (MW Y o a I J F G) sz) := by
  refine Met.ofW (cc := cX11_opens) (maxL := 2) (ret := (some .boolean)) (by decide) rfl ?_
  intro p e s m args below meth c s₁ B hml hv
  obtain ⟨rfl, hsz, hP, hKN, hD0⟩ := hv
  have hx := B.exec
  have hb := B.bytes
  have hr := B.returns
  have hts := atoms_spec (ws := .code yX11_opens cX11_opens 2 (some .boolean) :: GW) B.pre
  have hg : ∀ w ∈ GW, w.before _ s = true := fun w h => hts w (List.mem_cons_of_mem _ h)
  have hown : s.vm.findClass RX11 = some m.cls := findClass_of_methodNamed B.named
  have hlocks := B.notSynchronized
  subst hsz
  have hD := hD0.self (sz := s.heap.size)
  generalize hAe : va_A (MW Y o a I J F G) s.heap.size = A at hD ⊢
  have hA : ∀ q : Nat, s.heap.size ≤ q → A q := fun q h => by rw [← hAe]; exact Or.inr h
  clear hAe hD0 hts B
  have hl := lv_entry ([.ref o, .int p1]) (n := 2) (Nat.le_of_ble_eq_true rfl)
  rw [lg_entry_eq]
  generalize (lg_sl ([.ref o, .int p1]) ++ List.replicate (2 - (lg_sl ([.ref o, .int p1])).length) Slot.unset).toArray = ls at hl ⊢
  have hl : lv_has ls 2 [(0, .ref o), (1, .int p1)] := hl
  refine w_start (A0 := A) hP (fun H locs hP hS => ?_)
  refine lv_aload_n hx hb dX11_opens_0 rfl (lv_at hl 0 rfl) ?_
  refine va_get (D := D) (ci := 11) (v := .int (I 21)) (C := RX11) (T := TX11) (N := 49) hx hb hg inGX11 hown hKN.1 hP 0 rfl rfl 21 (by decide) (hg _ kw_1229) (fun _ h9 => h9) rfl dX11_opens_1 ?_
  refine lv_bipush (v := 10) hx hb dX11_opens_4 (by decide) ?_
  have j1 := rgI (I 21)
  refine lv_icmp_ne (tgt := 19) hx hb dX11_opens_6 (by decide) (fun c2 => ?_) (fun c2 => ?_)
  · skip
    have c2 := i_ne (Eq.refl (I 21).toInt) (show (10 : Int32).toInt = 10 by decide) c2
    refine lv_aload_n hx hb dX11_opens_19 rfl (lv_at hl 0 rfl) ?_
    refine lv_dup hx hb dX11_opens_20 rfl ?_
    refine va_get (D := D) (ci := 11) (v := .int (I 21)) (C := RX11) (T := TX11) (N := 49) hx hb hg inGX11 hown hKN.1 hP 0 rfl rfl 21 (by decide) (hg _ kw_1229) (fun _ h9 => h9) rfl dX11_opens_21 ?_
    refine lv_iconst (v := 1) hx hb dX11_opens_24 (by decide) ?_
    refine lv_iadd hx hb dX11_opens_25 ?_
    refine lv_topi (fun v3 ev3 => ?_)
    refine va_put (D := D) (ci := 11) (v := .int v3) (ty := .int) (C := RX11) (T := TX11) (N := 49) hx hb hg inGX11 tyX11 tyX11_ok nmX11 hown hKN.1 hP hD hS 0 rfl rfl 21 (by decide) (hg _ kw_1229) (fun _ h9 => h9) rfl (by decide +kernel) rfl rfl (Nat.le_of_ble_eq_true rfl) dX11_opens_26 (fun H locs hP hD hS => ?_)
    have hP : va_P D vwCl (MW Y o a (upd I 21 v3) J F G) H := hP
    have hD : va_D A (MW Y o a (upd I 21 v3) J F G) := hD
    refine lv_aload_n hx hb dX11_opens_29 rfl (lv_at hl 0 rfl) ?_
    refine va_get (D := D) (ci := 11) (v := .ref (a 23)) (C := RX11) (T := TX11) (N := 49) hx hb hg inGX11 hown hKN.1 hP 0 rfl rfl 23 (by decide) (hg _ kw_1231) (fun _ h9 => h9) rfl dX11_opens_30 ?_
    refine lv_aload_n hx hb dX11_opens_33 rfl (lv_at hl 0 rfl) ?_
    refine va_get (D := D) (ci := 11) (v := .int (I 24)) (C := RX11) (T := TX11) (N := 49) hx hb hg inGX11 hown hKN.1 hP 0 rfl rfl 24 (by decide) (hg _ kw_1232) (fun _ h9 => h9) rfl dX11_opens_34 ?_
    refine lv_iload_n hx hb dX11_opens_37 rfl (lv_at hl 1 rfl) ?_
    refine va_iast hx hb hKN.1 hP hD hS 16 0 rfl rfl (vp_in_iff.mpr ⟨by omega, by omega⟩) dX11_opens_38 (fun H locs hP hD hS => ?_)
    obtain ⟨f4, ef4, hP, hD⟩ : ∃ f4 : Nat → Int32, f4 = upd (F 23) ((I 24).toNatClampNeg) p1 ∧ va_P D vwCl (MW Y o a (upd I 21 v3) J (vf_upd F 23 f4) G) H ∧ va_D A (MW Y o a (upd I 21 v3) J (vf_upd F 23 f4) G) := ⟨_, rfl, hP, hD⟩
    refine lv_aload_n hx hb dX11_opens_39 rfl (lv_at hl 0 rfl) ?_
    refine lv_dup hx hb dX11_opens_40 rfl ?_
    refine va_get (D := D) (ci := 11) (v := .int (I 24)) (C := RX11) (T := TX11) (N := 49) hx hb hg inGX11 hown hKN.1 hP 0 rfl rfl 24 (by decide) (hg _ kw_1232) (fun _ h9 => h9) rfl dX11_opens_41 ?_
    refine lv_iconst (v := 1) hx hb dX11_opens_44 (by decide) ?_
    refine lv_iadd hx hb dX11_opens_45 ?_
    refine lv_topi (fun v5 ev5 => ?_)
    have hv5 := i_add (Eq.refl (I 24).toInt) (show (1 : Int32).toInt = 1 by decide) ev5 (by omega) (by omega)
    refine va_put (D := D) (ci := 11) (v := .int v5) (ty := .int) (C := RX11) (T := TX11) (N := 49) hx hb hg inGX11 tyX11 tyX11_ok nmX11 hown hKN.1 hP hD hS 0 rfl rfl 24 (by decide) (hg _ kw_1232) (fun _ h9 => h9) rfl (by decide +kernel) rfl rfl (Nat.le_of_ble_eq_true rfl) dX11_opens_46 (fun H locs hP hD hS => ?_)
    have hP : va_P D vwCl (MW Y o a (upd (upd I 21 v3) 24 v5) J (vf_upd F 23 f4) G) H := hP
    have hD : va_D A (MW Y o a (upd (upd I 21 v3) 24 v5) J (vf_upd F 23 f4) G) := hD
    refine lv_iconst (v := 1) hx hb dX11_opens_49 (by decide) ?_
    refine W.widen (k := 0) (n := 0) (Nat.le_of_ble_eq_true rfl) (Nat.le_of_ble_eq_true rfl) ?_
    have zi1 : (1 : Int32).toInt = 1 := by decide
    exact W.zret (v := 1) hx hb hr (by decide) (fun t ht hW => ⟨⟨(1, (I 17), v3, v5, f4), rfl, ⟨(show (0 ≤ (I 17).toInt ∧ (I 17).toInt ≤ 4000) by omega), (show ((1 : Int32).toInt = 1 → v5.toInt = (I 24).toInt + 1) by omega), (show ((1 : Int32).toInt = 0 → 1 ≤ (I 17).toInt) by omega), (show (0 ≤ v5.toInt ∧ v5.toInt ≤ 400) by omega), (show (0 ≤ (1 : Int32).toInt ∧ (1 : Int32).toInt ≤ 1) by omega), (show ((1 : Int32).toInt = 1 → f4 = upd (F 23) (I 24).toNatClampNeg p1) from (fun _ => ef4))⟩, CB.mk ht hP hD⟩, hS.F ht⟩) hS.2.2 dX11_opens_50
  · skip
    have c2 := i_eq (Eq.refl (I 21).toInt) (show (10 : Int32).toInt = 10 by decide) c2
    refine lv_aload_n hx hb dX11_opens_9 rfl (lv_at hl 0 rfl) ?_
    refine lv_iconst (v := 2) hx hb dX11_opens_10 (by decide) ?_
    refine lv_aload_n hx hb dX11_opens_11 rfl (lv_at hl 0 rfl) ?_
    refine va_get (D := D) (ci := 11) (v := .int (I 16)) (C := RX11) (T := TX11) (N := 49) hx hb hg inGX11 hown hKN.1 hP 0 rfl rfl 16 (by decide) (hg _ kw_1224) (fun _ h9 => h9) rfl dX11_opens_12 ?_
    have zi2 : (2 : Int32).toInt = 2 := by decide
    refine cga (rn_V (As := [.int 2, .int (I 16)]) (rest := []) (b := o) (m_fails l D Y Z H.size o a I J F G  2 (I 16) (show (0 ≤ (2 : Int32).toInt ∧ (2 : Int32).toInt ≤ 4) by omega) (show (0 ≤ (I 16).toInt ∧ (I 16).toInt ≤ 400) by omega) (show (0 ≤ (I 17).toInt ∧ (I 17).toInt ≤ 4000) by omega)) ⟨hx, hb, hml, hown, hg⟩ lk_X11_200 ⟨CP.blind, va_recv hKN.1 hP (ci := 11) (q0 := 0) rfl rfl, CP.at hP hKN hD⟩ ⟨⟨rfl, rfl⟩, ⟨Nat.le_of_ble_eq_true rfl, Nat.le_of_ble_eq_true rfl⟩, ⟨Nat.le_of_ble_eq_true rfl, Nat.le_of_ble_eq_true rfl⟩⟩ hl.1 rfl (Nat.le_of_ble_eq_true rfl) dX11_opens_15) hP hD hS hA (fun u6 H locs w7 hP hD hS => ?_)
    obtain ⟨u8, u9⟩ := u6
    obtain ⟨hw10, hw11⟩ : (u8.toInt = 0) ∧ (1 ≤ u9.toInt ∧ u9.toInt ≤ 4000) := w7
    refine W.eq (g2 := F0 m 18 ls [.int u8]) rfl ?_
    have hP : va_P D vwCl (MW Y o a (upd I 17 u9) J F G) H := hP
    have hD : va_D A (MW Y o a (upd I 17 u9) J F G) := hD
    obtain rfl : u8 = 0 := i_is (X := 0) (by omega) (by decide)
    refine W.eq (g2 := F0 m 18 ls [.int 0]) rfl ?_
    refine W.widen (k := 0) (n := 0) (Nat.le_of_ble_eq_true rfl) (Nat.le_of_ble_eq_true rfl) ?_
    have zi0 : (0 : Int32).toInt = 0 := by decide
    exact W.zret (v := 0) hx hb hr (by decide) (fun t ht hW => ⟨⟨(0, u9, (I 21), (I 24), (F 23)), rfl, ⟨(show (0 ≤ u9.toInt ∧ u9.toInt ≤ 4000) by omega), (show ((0 : Int32).toInt = 1 → (I 24).toInt = (I 24).toInt + 1) by omega), (show ((0 : Int32).toInt = 0 → 1 ≤ u9.toInt) by omega), (show (0 ≤ (I 24).toInt ∧ (I 24).toInt ≤ 400) by omega), (show (0 ≤ (0 : Int32).toInt ∧ (0 : Int32).toInt ≤ 1) by omega), (show ((0 : Int32).toInt = 1 → (F 23) = upd (F 23) (I 24).toNatClampNeg p1) from (fun h => absurd h (by decide)))⟩, CB.mk ht hP hD⟩, hS.F ht⟩) hS.2.2 dX11_opens_18
set_option maxHeartbeats 4000000 in
set_option maxRecDepth 100000 in
theorem m_isInside (l : Launch) (D : va_G) (Y : Nat → ClassId) (Z : Nat → Nat) (sz : Nat) (o : Nat) (a : Nat → Nat) (I : Nat → Int32) (J : Nat → Int64) (F : Nat → Nat → Int32) (G : Nat → Nat → Int64) (hk_0 : (0 ≤ (I 24).toInt ∧ (I 24).toInt ≤ 400)) : Met l yX11_isInside (.code yX11_isInside cX11_isInside 2 (some .boolean) :: GW) ({ frames := 0, cells := 0, slots := 0, locals := 0 }) (va_Pc [.ref o] (CP D Y Z (MW Y o a I J F G) sz)) (QG (S := Int32) (fun u => some (.int u)) (fun u => (0 ≤ u.toInt ∧ u.toInt ≤ 1) ∧ (u.toInt = 1 → ∃ k : Nat, (k : Int) < (I 24).toInt ∧ ((F 23) k).toInt = 91) ∧ (u.toInt = 0 → ∀ k : Nat, (k : Int) < (I 24).toInt → ((F 23) k).toInt ≠ 91)) (fun u => CB D (MW Y o a I J F G) (va_A (MW Y o a I J F G) sz)) (va_A (MW Y o a I J F G) sz)) 0 0 (va_A (MW Y o a I J F G) sz) := by
  refine Met.ofW (cc := cX11_isInside) (maxL := 2) (ret := (some .boolean)) (by decide) rfl ?_
  intro p e s m args below meth c s₁ B hml hv
  obtain ⟨rfl, hsz, hP, hKN, hD0⟩ := hv
  have hx := B.exec
  have hb := B.bytes
  have hr := B.returns
  have hts := atoms_spec (ws := .code yX11_isInside cX11_isInside 2 (some .boolean) :: GW) B.pre
  have hg : ∀ w ∈ GW, w.before _ s = true := fun w h => hts w (List.mem_cons_of_mem _ h)
  have hown : s.vm.findClass RX11 = some m.cls := findClass_of_methodNamed B.named
  have hlocks := B.notSynchronized
  subst hsz
  have hD := hD0.self (sz := s.heap.size)
  generalize hAe : va_A (MW Y o a I J F G) s.heap.size = A at hD ⊢
  have hA : ∀ q : Nat, s.heap.size ≤ q → A q := fun q h => by rw [← hAe]; exact Or.inr h
  clear hAe hD0 hts B
  have hl := lv_entry ([.ref o]) (n := 2) (Nat.le_of_ble_eq_true rfl)
  rw [lg_entry_eq]
  generalize (lg_sl ([.ref o]) ++ List.replicate (2 - (lg_sl ([.ref o])).length) Slot.unset).toArray = ls at hl ⊢
  have hl : lv_has ls 2 [(0, .ref o)] := hl
  refine w_start (A0 := A) hP (fun H locs hP hS => ?_)
  refine lv_iconst (v := 0) hx hb dX11_isInside_0 (by decide) ?_
  refine lv_istore_n (lv' := [(1, .int 0), (0, .ref o)]) hx hb dX11_isInside_1 rfl hl (by decide) rfl (fun ls hl => ?_)
  have zi0 : (0 : Int32).toInt = 0 := by decide
  refine w_loop (σ := Int32) (fun xx H locs ls => match xx with | g5 => va_P D vwCl (MW Y o a I J F G) H ∧ va_D A (MW Y o a I J F G) ∧ va_S A s.heap H locs ∧ lv_has ls 2 [(1, .int g5), (0, .ref o)] ∧ (0 ≤ g5.toInt ∧ g5.toInt ≤ 400) ∧ (g5.toInt ≤ (I 24).toInt) ∧ (∀ k : Nat, (k : Int) < g5.toInt → ((F 23) k).toInt ≠ 91)) (fun xx => match xx with | g5 => (400 - g5.toInt).toNat) (0) ⟨hP, hD, hS, lv_sub hl [0, 1] rfl, by omega, by omega, (fun k h => by omega)⟩ (fun xx H locs ls hI ih => ?_)
  revert hI ih
  generalize xx = g5
  intro hI ih
  obtain ⟨hP, hD, hS, hl, hq11, hq12, hr13⟩ := hI
  have ih14 := ih
  refine lv_iload_n hx hb dX11_isInside_2 rfl (lv_at hl 0 rfl) ?_
  refine lv_aload_n hx hb dX11_isInside_3 rfl (lv_at hl 1 rfl) ?_
  refine va_get (D := D) (ci := 11) (v := .int (I 24)) (C := RX11) (T := TX11) (N := 49) hx hb hg inGX11 hown hKN.1 hP 0 rfl rfl 24 (by decide) (hg _ kw_1232) (fun _ h9 => h9) rfl dX11_isInside_4 ?_
  refine lv_icmp_ge (tgt := 29) hx hb dX11_isInside_7 (by decide) (fun c15 => ?_) (fun c15 => ?_)
  · skip
    have c15 := i_le (Eq.refl (I 24).toInt) (Eq.refl g5.toInt) c15
    refine lv_iconst (v := 0) hx hb dX11_isInside_29 (by decide) ?_
    refine W.widen (k := 0) (n := 0) (Nat.le_of_ble_eq_true rfl) (Nat.le_of_ble_eq_true rfl) ?_
    have zi0 : (0 : Int32).toInt = 0 := by decide
    exact W.zret (v := 0) hx hb hr (by decide) (fun t ht hW => ⟨⟨0, rfl, ⟨(show (0 ≤ (0 : Int32).toInt ∧ (0 : Int32).toInt ≤ 1) by omega), (show ((0 : Int32).toInt = 1 → ∃ k : Nat, (k : Int) < (I 24).toInt ∧ ((F 23) k).toInt = 91) from (fun h => absurd h (by decide))), (show ((0 : Int32).toInt = 0 → ∀ k : Nat, (k : Int) < (I 24).toInt → ((F 23) k).toInt ≠ 91) from (fun _ k hk => hr13 k (by omega)))⟩, CB.mk ht hP hD⟩, hS.F ht⟩) hS.2.2 dX11_isInside_30
  · skip
    have c15 := i_nle (Eq.refl (I 24).toInt) (Eq.refl g5.toInt) c15
    refine lv_aload_n hx hb dX11_isInside_10 rfl (lv_at hl 1 rfl) ?_
    refine va_get (D := D) (ci := 11) (v := .ref (a 23)) (C := RX11) (T := TX11) (N := 49) hx hb hg inGX11 hown hKN.1 hP 0 rfl rfl 23 (by decide) (hg _ kw_1231) (fun _ h9 => h9) rfl dX11_isInside_11 ?_
    refine lv_iload_n hx hb dX11_isInside_14 rfl (lv_at hl 0 rfl) ?_
    refine va_iald hx hb hKN.1 hP 16 0 rfl rfl (vp_in_iff.mpr ⟨by omega, by omega⟩) dX11_isInside_15 ?_
    refine lv_topi (fun v16 ev16 => ?_)
    have ev16 : v16 = (F 23) g5.toNatClampNeg := ev16
    have qv16 := congrArg Int32.toInt ev16
    refine lv_bipush (v := 91) hx hb dX11_isInside_16 (by decide) ?_
    have j17 := rgI v16
    refine lv_icmp_ne (tgt := 23) hx hb dX11_isInside_18 (by decide) (fun c18 => ?_) (fun c18 => ?_)
    · skip
      have c18 := i_ne (Eq.refl v16.toInt) (show (91 : Int32).toInt = 91 by decide) c18
      obtain ⟨v19, ev19⟩ : ∃ y : Int32, y = g5 + 1 := ⟨_, rfl⟩
      have hv19 := i_add (Eq.refl g5.toInt) (show (1 : Int32).toInt = 1 by decide) ev19 (by omega) (by omega)
      refine lv_iinc (v := v19) (lv' := [(1, .int v19), (0, .ref o)]) hx hb dX11_isInside_23 hl (k := 0) rfl (by rw [ev19]; rfl) (by decide) rfl (fun ls hl => ?_)
      refine lv_goto (tgt := 2) hx hb dX11_isInside_26 (by decide) ?_
      exact ih14 (v19) H locs ls (by show (400 - v19.toInt).toNat < (400 - g5.toInt).toNat; omega) ⟨hP, hD, hS, lv_sub hl [0, 1] rfl, by omega, by omega, (all_s (i := g5) hr13 (by omega) (by omega) (by omega))⟩
    · skip
      have c18 := i_eq (Eq.refl v16.toInt) (show (91 : Int32).toInt = 91 by decide) c18
      refine lv_iconst (v := 1) hx hb dX11_isInside_21 (by decide) ?_
      refine W.widen (k := 0) (n := 0) (Nat.le_of_ble_eq_true rfl) (Nat.le_of_ble_eq_true rfl) ?_
      have zi1 : (1 : Int32).toInt = 1 := by decide
      exact W.zret (v := 1) hx hb hr (by decide) (fun t ht hW => ⟨⟨1, rfl, ⟨(show (0 ≤ (1 : Int32).toInt ∧ (1 : Int32).toInt ≤ 1) by omega), (show ((1 : Int32).toInt = 1 → ∃ k : Nat, (k : Int) < (I 24).toInt ∧ ((F 23) k).toInt = 91) from (fun _ => ⟨g5.toNatClampNeg, by have c := clampI (x := g5) (by omega); omega, by omega⟩)), (show ((1 : Int32).toInt = 0 → ∀ k : Nat, (k : Int) < (I 24).toInt → ((F 23) k).toInt ≠ 91) from (fun h => absurd h (by decide)))⟩, CB.mk ht hP hD⟩, hS.F ht⟩) hS.2.2 dX11_isInside_22
set_option maxHeartbeats 4000000 in
set_option maxRecDepth 100000 in
theorem m_settles (l : Launch) (D : va_G) (Y : Nat → ClassId) (Z : Nat → Nat) (sz : Nat) (o : Nat) (a : Nat → Nat) (I : Nat → Int32) (J : Nat → Int64) (F : Nat → Nat → Int32) (G : Nat → Nat → Int64) (gs : Nat → Int32) (gb : Nat) (p1 : Int32) (hk_0 : (0 ≤ (I 19).toInt ∧ (I 19).toInt ≤ 17)) (hk_1 : (1 ≤ p1.toInt ∧ p1.toInt ≤ 3)) (hk_2 : (0 ≤ (I 24).toInt ∧ (I 24).toInt ≤ 400)) (hk_3 : (0 ≤ (I 20).toInt ∧ (I 20).toInt ≤ 60)) (hk_4 : (((F 6) (I 19).toNatClampNeg).toInt + (I 24).toInt ≤ 400)) (hr_PS : PSg (F 4) (F 8) (F 7) (F 5) (F 6) gs (I 19).toNatClampNeg gb (nbo (F 23) ((I 24).toInt).toNat + 1) ((I 20).toInt).toNat) (hr_EN : ent (F 23) ((I 24).toInt).toNat) : Met l yX11_settles (.code yX11_settles cX11_settles 2 none :: GW) ({ frames := 1, cells := 0, slots := 0, locals := 22 }) (va_Pc [.ref o, .int p1] (CP D Y Z (MW Y o a I J F G) sz)) (QG (S := Int32 × Int32 × (Nat → Int32) × (Nat → Int32)) (fun _ => none) (fun u => (0 ≤ u.1.toInt ∧ u.1.toInt ≤ 400) ∧ (u.1.toInt ≤ (I 24).toInt) ∧ ((u.2.2.2 (I 19).toNatClampNeg).toInt + u.1.toInt = ((F 6) (I 19).toNatClampNeg).toInt + (I 24).toInt) ∧ PSg (F 4) (F 8) (F 7) u.2.2.1 u.2.2.2 gs (I 19).toNatClampNeg gb (nbo (F 23) (u.1.toInt).toNat + 1) ((I 20).toInt).toNat ∧ (∀ k : Nat, (k : Int) < (I 24).toInt → ((F 23) k).toInt = 91 → (k : Int) < u.1.toInt) ∧ (p1.toInt = 1 → (u.1.toInt = 0 ∨ ((F 23) (u.1.toInt - 1).toNat).toInt = 91))) (fun u => CB D (MW Y o a (upd (upd I 21 u.2.1) 24 u.1) J (vf_upd (vf_upd F 5 u.2.2.1) 6 u.2.2.2) G) (va_A (MW Y o a I J F G) sz)) (va_A (MW Y o a I J F G) sz)) 0 0 (va_A (MW Y o a I J F G) sz) := by
  refine Met.ofW (cc := cX11_settles) (maxL := 2) (ret := none) (by decide) rfl ?_
  intro p e s m args below meth c s₁ B hml hv
  obtain ⟨rfl, hsz, hP, hKN, hD0⟩ := hv
  have hx := B.exec
  have hb := B.bytes
  have hr := B.returns
  have hts := atoms_spec (ws := .code yX11_settles cX11_settles 2 none :: GW) B.pre
  have hg : ∀ w ∈ GW, w.before _ s = true := fun w h => hts w (List.mem_cons_of_mem _ h)
  have hown : s.vm.findClass RX11 = some m.cls := findClass_of_methodNamed B.named
  have hlocks := B.notSynchronized
  subst hsz
  have hD := hD0.self (sz := s.heap.size)
  generalize hAe : va_A (MW Y o a I J F G) s.heap.size = A at hD ⊢
  have hA : ∀ q : Nat, s.heap.size ≤ q → A q := fun q h => by rw [← hAe]; exact Or.inr h
  clear hAe hD0 hts B
  have hl := lv_entry ([.ref o, .int p1]) (n := 2) (Nat.le_of_ble_eq_true rfl)
  rw [lg_entry_eq]
  generalize (lg_sl ([.ref o, .int p1]) ++ List.replicate (2 - (lg_sl ([.ref o, .int p1])).length) Slot.unset).toArray = ls at hl ⊢
  have hl : lv_has ls 2 [(0, .ref o), (1, .int p1)] := hl
  refine w_start (A0 := A) hP (fun H locs hP hS => ?_)
  refine w_loop (σ := Int32 × Int32 × (Nat → Int32) × (Nat → Int32)) (fun xx H locs ls => match xx with | (g26, g27, f28, f29) => va_P D vwCl (MW Y o a (upd (upd I 21 g26) 24 g27) J (vf_upd (vf_upd F 5 f28) 6 f29) G) H ∧ va_D A (MW Y o a (upd (upd I 21 g26) 24 g27) J (vf_upd (vf_upd F 5 f28) 6 f29) G) ∧ va_S A s.heap H locs ∧ lv_has ls 2 [(0, .ref o), (1, .int p1)] ∧ (0 ≤ g27.toInt ∧ g27.toInt ≤ 400) ∧ (g27.toInt ≤ (I 24).toInt) ∧ ((f29 (I 19).toNatClampNeg).toInt + g27.toInt = (F 6 (I 19).toNatClampNeg).toInt + (I 24).toInt) ∧ PSg (F 4) (F 8) (F 7) f28 f29 gs (I 19).toNatClampNeg gb (nbo (F 23) (g27.toInt).toNat + 1) ((I 20).toInt).toNat ∧ (∀ k : Nat, (k : Int) < (I 24).toInt → ((F 23) k).toInt = 91 → (k : Int) < g27.toInt)) (fun xx => match xx with | (g26, g27, f28, f29) => (g27.toInt).toNat) ((I 21), (I 24), (F 5), (F 6)) ⟨hP, hD, hS, lv_sub hl [0, 1] rfl, by omega, by omega, by omega, (PG_to hr_PS rfl (by omega) (by omega) (by omega)), (fun k h _ => h)⟩ (fun xx H locs ls hI ih => ?_)
  obtain ⟨g26, g27, f28, f29⟩ := xx
  obtain ⟨hP, hD, hS, hl, hq55, hq56, hq57, hr58, hr59⟩ := hI
  have ih60 := ih
  refine lv_aload_n hx hb dX11_settles_0 rfl (lv_at hl 0 rfl) ?_
  refine va_get (D := D) (ci := 11) (v := .int g27) (C := RX11) (T := TX11) (N := 49) hx hb hg inGX11 hown hKN.1 hP 0 rfl rfl 24 (by decide) (hg _ kw_1232) (fun _ h9 => h9) rfl dX11_settles_1 ?_
  refine lv_if_le (tgt := 76) hx hb dX11_settles_4 (by decide) (fun c61 => ?_) (fun c61 => ?_)
  · skip
    have c61 := i_le (Eq.refl g27.toInt) (show (0 : Int32).toInt = 0 by decide) c61
    refine W.widen (k := 0) (n := 0) (Nat.le_of_ble_eq_true rfl) (Nat.le_of_ble_eq_true rfl) ?_
    exact W.vret hx hb hr (fun t ht hW => ⟨⟨(g27, g26, f28, f29), rfl, ⟨(show (0 ≤ g27.toInt ∧ g27.toInt ≤ 400) by omega), (show (g27.toInt ≤ (I 24).toInt) by omega), (show ((f29 (I 19).toNatClampNeg).toInt + g27.toInt = ((F 6) (I 19).toNatClampNeg).toInt + (I 24).toInt) by omega), (show PSg (F 4) (F 8) (F 7) f28 f29 gs (I 19).toNatClampNeg gb (nbo (F 23) (g27.toInt).toNat + 1) ((I 20).toInt).toNat from (PG_to hr58 rfl (by omega) (by omega) (by omega))), (show (∀ k : Nat, (k : Int) < (I 24).toInt → ((F 23) k).toInt = 91 → (k : Int) < g27.toInt) from hr59), (show (p1.toInt = 1 → (g27.toInt = 0 ∨ ((F 23) (g27.toInt - 1).toNat).toInt = 91)) from (by first | exact (fun _ => Or.inl (by omega))))⟩, CB.mk ht hP hD⟩, hS.F ht⟩) hS.2.2 dX11_settles_76
  · skip
    have c61 := i_nle (Eq.refl g27.toInt) (show (0 : Int32).toInt = 0 by decide) c61
    refine lv_aload_n hx hb dX11_settles_7 rfl (lv_at hl 0 rfl) ?_
    refine va_get (D := D) (ci := 11) (v := .ref (a 23)) (C := RX11) (T := TX11) (N := 49) hx hb hg inGX11 hown hKN.1 hP 0 rfl rfl 23 (by decide) (hg _ kw_1231) (fun _ h9 => h9) rfl dX11_settles_8 ?_
    refine lv_aload_n hx hb dX11_settles_11 rfl (lv_at hl 0 rfl) ?_
    refine va_get (D := D) (ci := 11) (v := .int g27) (C := RX11) (T := TX11) (N := 49) hx hb hg inGX11 hown hKN.1 hP 0 rfl rfl 24 (by decide) (hg _ kw_1232) (fun _ h9 => h9) rfl dX11_settles_12 ?_
    refine lv_iconst (v := 1) hx hb dX11_settles_15 (by decide) ?_
    refine lv_isub hx hb dX11_settles_16 ?_
    refine lv_topi (fun v62 ev62 => ?_)
    have hv62 := i_sub (Eq.refl g27.toInt) (show (1 : Int32).toInt = 1 by decide) ev62 (by omega) (by omega)
    refine va_iald hx hb hKN.1 hP 16 0 rfl rfl (vp_in_iff.mpr ⟨by omega, by omega⟩) dX11_settles_17 ?_
    refine lv_topi (fun v63 ev63 => ?_)
    have ev63 : v63 = (F 23) v62.toNatClampNeg := ev63
    have qv63 := congrArg Int32.toInt ev63
    have t64 := ent_g (i := v62) hr_EN (by omega) (by omega)
    refine cg0 (rn_S (As := [.int v63]) (rest := []) (m_strength l D Y Z H.size   v63 ) ⟨hx, hb, hml, hown, hg⟩ lk_X11_246 ⟨CP.blind, CP.at nilP hKN (nilD (A := fun _ => True))⟩ ⟨⟨rfl, rfl⟩, ⟨Nat.le_of_ble_eq_true rfl, Nat.le_of_ble_eq_true rfl⟩, ⟨Nat.le_of_ble_eq_true rfl, Nat.le_of_ble_eq_true rfl⟩⟩ hl.1 rfl (Nat.le_of_ble_eq_true rfl) dX11_settles_18) hP hS hA (fun u65 H locs w66 hP hS => ?_)
    obtain ⟨hw68, hw69⟩ : (0 ≤ u65.toInt ∧ u65.toInt ≤ 3) ∧ ((v63.toInt = 13 ∧ u65.toInt = 1) ∨ (v63.toInt = 12 ∧ u65.toInt = 2) ∨ (v63.toInt = 11 ∧ u65.toInt = 3) ∨ (v63.toInt ≠ 11 ∧ v63.toInt ≠ 12 ∧ v63.toInt ≠ 13 ∧ u65.toInt = 0)) := w66
    refine W.eq (g2 := F0 m 21 ls [.int u65]) rfl ?_
    refine lv_iload_n hx hb dX11_settles_21 rfl (lv_at hl 1 rfl) ?_
    refine lv_icmp_lt (tgt := 76) hx hb dX11_settles_22 (by decide) (fun c70 => ?_) (fun c70 => ?_)
    · skip
      have c70 := i_lt (Eq.refl u65.toInt) (Eq.refl p1.toInt) c70
      refine W.widen (k := 0) (n := 0) (Nat.le_of_ble_eq_true rfl) (Nat.le_of_ble_eq_true rfl) ?_
      exact W.vret hx hb hr (fun t ht hW => ⟨⟨(g27, g26, f28, f29), rfl, ⟨(show (0 ≤ g27.toInt ∧ g27.toInt ≤ 400) by omega), (show (g27.toInt ≤ (I 24).toInt) by omega), (show ((f29 (I 19).toNatClampNeg).toInt + g27.toInt = ((F 6) (I 19).toNatClampNeg).toInt + (I 24).toInt) by omega), (show PSg (F 4) (F 8) (F 7) f28 f29 gs (I 19).toNatClampNeg gb (nbo (F 23) (g27.toInt).toNat + 1) ((I 20).toInt).toNat from (PG_to hr58 rfl (by omega) (by omega) (by omega))), (show (∀ k : Nat, (k : Int) < (I 24).toInt → ((F 23) k).toInt = 91 → (k : Int) < g27.toInt) from hr59), (show (p1.toInt = 1 → (g27.toInt = 0 ∨ ((F 23) (g27.toInt - 1).toNat).toInt = 91)) from (by first | exact (fun _ => Or.inl (by omega)) | exact (fun h => Or.inr (st_at (i := v62) (by omega) (by omega)))))⟩, CB.mk ht hP hD⟩, hS.F ht⟩) hS.2.2 dX11_settles_76
    · skip
      have c70 := i_nlt (Eq.refl u65.toInt) (Eq.refl p1.toInt) c70
      refine lv_aload_n hx hb dX11_settles_25 rfl (lv_at hl 0 rfl) ?_
      refine lv_dup hx hb dX11_settles_26 rfl ?_
      refine va_get (D := D) (ci := 11) (v := .int g27) (C := RX11) (T := TX11) (N := 49) hx hb hg inGX11 hown hKN.1 hP 0 rfl rfl 24 (by decide) (hg _ kw_1232) (fun _ h9 => h9) rfl dX11_settles_27 ?_
      refine lv_iconst (v := 1) hx hb dX11_settles_30 (by decide) ?_
      refine lv_isub hx hb dX11_settles_31 ?_
      refine lv_topi (fun v71 ev71 => ?_)
      have hv71 := i_sub (Eq.refl g27.toInt) (show (1 : Int32).toInt = 1 by decide) ev71 (by omega) (by omega)
      refine va_put (D := D) (ci := 11) (v := .int v71) (ty := .int) (C := RX11) (T := TX11) (N := 49) hx hb hg inGX11 tyX11 tyX11_ok nmX11 hown hKN.1 hP hD hS 0 rfl rfl 24 (by decide) (hg _ kw_1232) (fun _ h9 => h9) rfl (by decide +kernel) rfl rfl (Nat.le_of_ble_eq_true rfl) dX11_settles_32 (fun H locs hP hD hS => ?_)
      have hP : va_P D vwCl (MW Y o a (upd (upd I 21 g26) 24 v71) J (vf_upd (vf_upd F 5 f28) 6 f29) G) H := hP
      have hD : va_D A (MW Y o a (upd (upd I 21 g26) 24 v71) J (vf_upd (vf_upd F 5 f28) 6 f29) G) := hD
      refine lv_aload_n hx hb dX11_settles_35 rfl (lv_at hl 0 rfl) ?_
      refine lv_aload_n hx hb dX11_settles_36 rfl (lv_at hl 0 rfl) ?_
      refine va_get (D := D) (ci := 11) (v := .ref (a 23)) (C := RX11) (T := TX11) (N := 49) hx hb hg inGX11 hown hKN.1 hP 0 rfl rfl 23 (by decide) (hg _ kw_1231) (fun _ h9 => h9) rfl dX11_settles_37 ?_
      refine lv_aload_n hx hb dX11_settles_40 rfl (lv_at hl 0 rfl) ?_
      refine va_get (D := D) (ci := 11) (v := .int v71) (C := RX11) (T := TX11) (N := 49) hx hb hg inGX11 hown hKN.1 hP 0 rfl rfl 24 (by decide) (hg _ kw_1232) (fun _ h9 => h9) rfl dX11_settles_41 ?_
      refine va_iald hx hb hKN.1 hP 16 0 rfl rfl (vp_in_iff.mpr ⟨by omega, by omega⟩) dX11_settles_44 ?_
      refine lv_topi (fun v72 ev72 => ?_)
      have ev72 : v72 = (F 23) v71.toNatClampNeg := ev72
      have qv72 := congrArg Int32.toInt ev72
      have t73 : v62.toInt = v71.toInt → ((F 23) v62.toNatClampNeg).toInt = ((F 23) v71.toNatClampNeg).toInt := fun h => by rw [Int32.toInt_inj.mp h]
      have t74 := nbo_pop3 (op := (F 23)) (n := g27.toInt.toNat) (i := v71) (by omega) (by omega)
      have t75 := PG_dep hr58
      have t76 := PG_len hr58
      refine lv_iconst (v := 0) hx hb dX11_settles_45 (by decide) ?_
      have zi0 : (0 : Int32).toInt = 0 := by decide
      refine cga (rn_V (As := [.int v72, .int 0]) (rest := []) (b := o) (m_puts l D Y Z H.size o a (upd (upd I 21 g26) 24 v71) J (vf_upd (vf_upd F 5 f28) 6 f29) G  v72 0 (show (0 ≤ (I 19).toInt ∧ (I 19).toInt ≤ 17) by omega) (show (0 ≤ v72.toInt ∧ v72.toInt ≤ 15) by omega) (show (0 ≤ (0 : Int32).toInt ∧ (0 : Int32).toInt ≤ 99999) by omega) (show (0 ≤ (f29 (I 19).toNatClampNeg).toInt ∧ (f29 (I 19).toNatClampNeg).toInt ≤ 399) by omega)) ⟨hx, hb, hml, hown, hg⟩ lk_X11_250 ⟨CP.blind, va_recv hKN.1 hP (ci := 11) (q0 := 0) rfl rfl, CP.at hP hKN hD⟩ ⟨⟨rfl, rfl⟩, ⟨Nat.le_of_ble_eq_true rfl, Nat.le_of_ble_eq_true rfl⟩, ⟨Nat.le_of_ble_eq_true rfl, Nat.le_of_ble_eq_true rfl⟩⟩ hl.1 rfl (Nat.le_of_ble_eq_true rfl) dX11_settles_46) hP hD hS hA (fun u77 H locs w78 hP hD hS => ?_)
      obtain ⟨f79, f80⟩ := u77
      have hw81 : PU f28 f79 f29 f80 (I 19).toNatClampNeg v72.toInt (0 : Int32).toInt := w78
      clear w78
      refine W.eq (g2 := F0 m 49 ls []) rfl ?_
      have hP : va_P D vwCl (MW Y o a (upd (upd I 21 g26) 24 v71) J (vf_upd (vf_upd F 5 f79) 6 f80) G) H := hP
      have hD : va_D A (MW Y o a (upd (upd I 21 g26) 24 v71) J (vf_upd (vf_upd F 5 f79) 6 f80) G) := hD
      have t82 := PG_pu (e := (nbo (F 23) v71.toInt.toNat + 1)) hr58 hw81 (fun x hx => stp_set hx (by omega) (by omega) (by omega) (by omega)) (by omega) (by omega)
      obtain ⟨t82p, t82l⟩ := t82
      refine lv_aload_n hx hb dX11_settles_49 rfl (lv_at hl 0 rfl) ?_
      refine va_get (D := D) (ci := 11) (v := .ref (a 23)) (C := RX11) (T := TX11) (N := 49) hx hb hg inGX11 hown hKN.1 hP 0 rfl rfl 23 (by decide) (hg _ kw_1231) (fun _ h9 => h9) rfl dX11_settles_50 ?_
      refine lv_aload_n hx hb dX11_settles_53 rfl (lv_at hl 0 rfl) ?_
      refine va_get (D := D) (ci := 11) (v := .int v71) (C := RX11) (T := TX11) (N := 49) hx hb hg inGX11 hown hKN.1 hP 0 rfl rfl 24 (by decide) (hg _ kw_1232) (fun _ h9 => h9) rfl dX11_settles_54 ?_
      refine va_iald hx hb hKN.1 hP 16 0 rfl rfl (vp_in_iff.mpr ⟨by omega, by omega⟩) dX11_settles_57 ?_
      refine lv_topi (fun v83 ev83 => ?_)
      have ev83 : v83 = (F 23) v71.toNatClampNeg := ev83
      have qv83 := congrArg Int32.toInt ev83
      refine lv_bipush (v := 11) hx hb dX11_settles_58 (by decide) ?_
      have j84 := rgI v83
      refine lv_icmp_ne (tgt := 0) hx hb dX11_settles_60 (by decide) (fun c85 => ?_) (fun c85 => ?_)
      · skip
        have c85 := i_ne (Eq.refl v83.toInt) (show (11 : Int32).toInt = 11 by decide) c85
        exact ih60 (g26, v71, f79, f80) H locs ls (by show (v71.toInt).toNat < (g27.toInt).toNat; omega) ⟨hP, hD, hS, lv_sub hl [0, 1] rfl, by omega, by omega, by omega, (PG_to t82p rfl (by omega) (by omega) (by omega)), (BR_s (g := g27.toInt) (i := v62) hr59 (by omega) (by omega) (by omega) (by omega))⟩
      · skip
        have c85 := i_eq (Eq.refl v83.toInt) (show (11 : Int32).toInt = 11 by decide) c85
        refine lv_aload_n hx hb dX11_settles_63 rfl (lv_at hl 0 rfl) ?_
        refine lv_dup hx hb dX11_settles_64 rfl ?_
        refine va_get (D := D) (ci := 11) (v := .int g26) (C := RX11) (T := TX11) (N := 49) hx hb hg inGX11 hown hKN.1 hP 0 rfl rfl 21 (by decide) (hg _ kw_1229) (fun _ h9 => h9) rfl dX11_settles_65 ?_
        refine lv_iconst (v := 1) hx hb dX11_settles_68 (by decide) ?_
        refine lv_isub hx hb dX11_settles_69 ?_
        refine lv_topi (fun v86 ev86 => ?_)
        refine va_put (D := D) (ci := 11) (v := .int v86) (ty := .int) (C := RX11) (T := TX11) (N := 49) hx hb hg inGX11 tyX11 tyX11_ok nmX11 hown hKN.1 hP hD hS 0 rfl rfl 21 (by decide) (hg _ kw_1229) (fun _ h9 => h9) rfl (by decide +kernel) rfl rfl (Nat.le_of_ble_eq_true rfl) dX11_settles_70 (fun H locs hP hD hS => ?_)
        have hP : va_P D vwCl (MW Y o a (upd (upd I 21 v86) 24 v71) J (vf_upd (vf_upd F 5 f79) 6 f80) G) H := hP
        have hD : va_D A (MW Y o a (upd (upd I 21 v86) 24 v71) J (vf_upd (vf_upd F 5 f79) 6 f80) G) := hD
        refine lv_goto (tgt := 0) hx hb dX11_settles_73 (by decide) ?_
        exact ih60 (v86, v71, f79, f80) H locs ls (by show (v71.toInt).toNat < (g27.toInt).toNat; omega) ⟨hP, hD, hS, lv_sub hl [0, 1] rfl, by omega, by omega, by omega, (PG_to t82p rfl (by omega) (by omega) (by omega)), (BR_s (g := g27.toInt) (i := v62) hr59 (by omega) (by omega) (by omega) (by omega))⟩
set_option maxHeartbeats 4000000 in
set_option maxRecDepth 100000 in
theorem m_closes (l : Launch) (D : va_G) (Y : Nat → ClassId) (Z : Nat → Nat) (sz : Nat) (o : Nat) (a : Nat → Nat) (I : Nat → Int32) (J : Nat → Int64) (F : Nat → Nat → Int32) (G : Nat → Nat → Int64) (gs : Nat → Int32) (gb : Nat) (hk_0 : (0 ≤ (I 16).toInt ∧ (I 16).toInt ≤ 400)) (hk_1 : (0 ≤ (I 3).toInt ∧ (I 3).toInt ≤ 400)) (hk_2 : ((I 16).toInt ≤ (I 3).toInt)) (hk_3 : (0 ≤ (I 20).toInt ∧ (I 20).toInt ≤ 60)) (hk_4 : (0 ≤ (I 19).toInt ∧ (I 19).toInt ≤ 17)) (hk_5 : (0 ≤ (I 24).toInt ∧ (I 24).toInt ≤ 400)) (hk_6 : (((F 6) (I 19).toNatClampNeg).toInt + (I 24).toInt ≤ (I 16).toInt)) (hr_PS : PSg (F 4) (F 8) (F 7) (F 5) (F 6) gs (I 19).toNatClampNeg gb (nbo (F 23) ((I 24).toInt).toNat + 1) ((I 20).toInt).toNat) (hr_EN : ent (F 23) ((I 24).toInt).toNat) : Met l yX11_closes (.code yX11_closes cX11_closes 1 none :: GW) ({ frames := 2, cells := 0, slots := 0, locals := 43 }) (va_Pc [.ref o] (CP D Y Z (MW Y o a I J F G) sz)) (QG (S := Int32 × Int32 × Int32 × (Nat → Int32) × (Nat → Int32)) (fun _ => none) (fun u => (0 ≤ u.1.toInt ∧ u.1.toInt ≤ 400) ∧ ((I 16).toInt ≤ u.1.toInt) ∧ (u.1.toInt ≤ (I 3).toInt) ∧ (0 ≤ u.2.1.toInt ∧ u.2.1.toInt ≤ 400) ∧ (u.2.1.toInt ≤ (I 24).toInt) ∧ ((u.2.2.2.2 (I 19).toNatClampNeg).toInt + u.2.1.toInt ≤ u.1.toInt) ∧ PSg (F 4) (F 8) (F 7) u.2.2.2.1 u.2.2.2.2 gs (I 19).toNatClampNeg gb (nbo (F 23) (u.2.1.toInt).toNat + 1) ((I 20).toInt).toNat) (fun u => CB D (MW Y o a (upd (upd (upd I 16 u.1) 21 u.2.2.1) 24 u.2.1) J (vf_upd (vf_upd F 5 u.2.2.2.1) 6 u.2.2.2.2) G) (va_A (MW Y o a I J F G) sz)) (va_A (MW Y o a I J F G) sz)) 0 0 (va_A (MW Y o a I J F G) sz) := by
  refine Met.ofW (cc := cX11_closes) (maxL := 1) (ret := none) (by decide) rfl ?_
  intro p e s m args below meth c s₁ B hml hv
  obtain ⟨rfl, hsz, hP, hKN, hD0⟩ := hv
  have hx := B.exec
  have hb := B.bytes
  have hr := B.returns
  have hts := atoms_spec (ws := .code yX11_closes cX11_closes 1 none :: GW) B.pre
  have hg : ∀ w ∈ GW, w.before _ s = true := fun w h => hts w (List.mem_cons_of_mem _ h)
  have hown : s.vm.findClass RX11 = some m.cls := findClass_of_methodNamed B.named
  have hlocks := B.notSynchronized
  subst hsz
  have hD := hD0.self (sz := s.heap.size)
  generalize hAe : va_A (MW Y o a I J F G) s.heap.size = A at hD ⊢
  have hA : ∀ q : Nat, s.heap.size ≤ q → A q := fun q h => by rw [← hAe]; exact Or.inr h
  clear hAe hD0 hts B
  have hl := lv_entry ([.ref o]) (n := 1) (Nat.le_of_ble_eq_true rfl)
  rw [lg_entry_eq]
  generalize (lg_sl ([.ref o]) ++ List.replicate (1 - (lg_sl ([.ref o])).length) Slot.unset).toArray = ls at hl ⊢
  have hl : lv_has ls 1 [(0, .ref o)] := hl
  refine w_start (A0 := A) hP (fun H locs hP hS => ?_)
  refine lv_aload_n hx hb dX11_closes_0 rfl (lv_at hl 0 rfl) ?_
  refine lv_iconst (v := 3) hx hb dX11_closes_1 (by decide) ?_
  have zi3 : (3 : Int32).toInt = 3 := by decide
  refine cga (rn_V (As := [.int 3]) (rest := []) (b := o) (m_settles l D Y Z H.size o a I J F G gs gb 3 (show (0 ≤ (I 19).toInt ∧ (I 19).toInt ≤ 17) by omega) (show (1 ≤ (3 : Int32).toInt ∧ (3 : Int32).toInt ≤ 3) by omega) (show (0 ≤ (I 24).toInt ∧ (I 24).toInt ≤ 400) by omega) (show (0 ≤ (I 20).toInt ∧ (I 20).toInt ≤ 60) by omega) (show (((F 6) (I 19).toNatClampNeg).toInt + (I 24).toInt ≤ 400) by omega) (show PSg (F 4) (F 8) (F 7) (F 5) (F 6) gs (I 19).toNatClampNeg gb (nbo (F 23) ((I 24).toInt).toNat + 1) ((I 20).toInt).toNat from (PG_to hr_PS rfl (by omega) (by omega) (by omega))) (show ent (F 23) ((I 24).toInt).toNat from (ent_le hr_EN (by omega)))) ⟨hx, hb, hml, hown, hg⟩ lk_X11_282 ⟨CP.blind, va_recv hKN.1 hP (ci := 11) (q0 := 0) rfl rfl, CP.at hP hKN hD⟩ ⟨⟨rfl, rfl⟩, ⟨Nat.le_of_ble_eq_true rfl, Nat.le_of_ble_eq_true rfl⟩, ⟨Nat.le_of_ble_eq_true rfl, Nat.le_of_ble_eq_true rfl⟩⟩ hl.1 rfl (Nat.le_of_ble_eq_true rfl) dX11_closes_2) hP hD hS hA (fun u1 H locs w2 hP hD hS => ?_)
  obtain ⟨u3, u4, f5, f6⟩ := u1
  obtain ⟨hw7, hw8, hw9, hw10, hw11, hw12⟩ : (0 ≤ u3.toInt ∧ u3.toInt ≤ 400) ∧ (u3.toInt ≤ (I 24).toInt) ∧ ((f6 (I 19).toNatClampNeg).toInt + u3.toInt = ((F 6) (I 19).toNatClampNeg).toInt + (I 24).toInt) ∧ PSg (F 4) (F 8) (F 7) f5 f6 gs (I 19).toNatClampNeg gb (nbo (F 23) (u3.toInt).toNat + 1) ((I 20).toInt).toNat ∧ (∀ k : Nat, (k : Int) < (I 24).toInt → ((F 23) k).toInt = 91 → (k : Int) < u3.toInt) ∧ ((3 : Int32).toInt = 1 → (u3.toInt = 0 ∨ ((F 23) (u3.toInt - 1).toNat).toInt = 91)) := w2
  refine W.eq (g2 := F0 m 5 ls []) rfl ?_
  have hP : va_P D vwCl (MW Y o a (upd (upd I 21 u4) 24 u3) J (vf_upd (vf_upd F 5 f5) 6 f6) G) H := hP
  have hD : va_D A (MW Y o a (upd (upd I 21 u4) 24 u3) J (vf_upd (vf_upd F 5 f5) 6 f6) G) := hD
  refine w_loop (σ := Int32 × Int32 × Int32 × (Nat → Int32) × (Nat → Int32)) (fun xx H locs ls => match xx with | (g63, g64, g65, f66, f67) => va_P D vwCl (MW Y o a (upd (upd (upd I 16 g63) 21 g64) 24 g65) J (vf_upd (vf_upd F 5 f66) 6 f67) G) H ∧ va_D A (MW Y o a (upd (upd (upd I 16 g63) 21 g64) 24 g65) J (vf_upd (vf_upd F 5 f66) 6 f67) G) ∧ va_S A s.heap H locs ∧ lv_has ls 1 [(0, .ref o)] ∧ (0 ≤ g63.toInt ∧ g63.toInt ≤ 400) ∧ (g63.toInt ≤ (I 3).toInt) ∧ ((I 16).toInt ≤ g63.toInt) ∧ (0 ≤ g65.toInt ∧ g65.toInt ≤ 400) ∧ (g65.toInt ≤ (I 24).toInt) ∧ ((f67 (I 19).toNatClampNeg).toInt + g65.toInt ≤ g63.toInt) ∧ PSg (F 4) (F 8) (F 7) f66 f67 gs (I 19).toNatClampNeg gb (nbo (F 23) (g65.toInt).toNat + 1) ((I 20).toInt).toNat) (fun xx => match xx with | (g63, g64, g65, f66, f67) => (400 - g63.toInt).toNat) ((I 16), u4, u3, f5, f6) ⟨hP, hD, hS, lv_sub hl [0] rfl, by omega, by omega, by omega, by omega, by omega, by omega, (PG_to hw10 rfl (by omega) (by omega) (by omega))⟩ (fun xx H locs ls hI ih => ?_)
  obtain ⟨g63, g64, g65, f66, f67⟩ := xx
  obtain ⟨hP, hD, hS, hl, hq118, hq119, hq120, hq121, hq122, hq123, hr124⟩ := hI
  have ih125 := ih
  refine lv_aload_n hx hb dX11_closes_5 rfl (lv_at hl 0 rfl) ?_
  refine cga (rn_V (As := []) (rest := []) (b := o) (m_seeI l D Y Z H.size o a (upd (upd (upd I 16 g63) 21 g64) 24 g65) J (vf_upd (vf_upd F 5 f66) 6 f67) G   (show (0 ≤ g63.toInt ∧ g63.toInt ≤ 400) by omega) (show (0 ≤ (I 3).toInt ∧ (I 3).toInt ≤ 400) by omega) (show (g63.toInt ≤ (I 3).toInt) by omega)) ⟨hx, hb, hml, hown, hg⟩ lk_X11_183 ⟨CP.blind, va_recv hKN.1 hP (ci := 11) (q0 := 0) rfl rfl, CP.at hP hKN hD⟩ ⟨⟨rfl, rfl⟩, ⟨Nat.le_of_ble_eq_true rfl, Nat.le_of_ble_eq_true rfl⟩, ⟨Nat.le_of_ble_eq_true rfl, Nat.le_of_ble_eq_true rfl⟩⟩ hl.1 rfl (Nat.le_of_ble_eq_true rfl) dX11_closes_6) hP hD hS hA (fun u126 H locs w127 hP hD hS => ?_)
  obtain ⟨u128, u129⟩ := u126
  obtain ⟨hw130, hw131, hw132, hw133, hw134, hw135⟩ : (0 ≤ u129.toInt ∧ u129.toInt ≤ 400) ∧ (g63.toInt ≤ u129.toInt) ∧ (u129.toInt ≤ (I 3).toInt) ∧ ((u128.toInt = -1 ∧ u129.toInt = (I 3).toInt) ∨ (0 ≤ u128.toInt ∧ u128.toInt ≤ 255 ∧ u129.toInt < (I 3).toInt ∧ ((F 2) u129.toNatClampNeg).toInt ≠ 32)) ∧ (-1 ≤ u128.toInt ∧ u128.toInt ≤ 255) ∧ ((g63.toInt < (I 3).toInt ∧ ((F 2) g63.toNatClampNeg).toInt ≠ 32) → u129.toInt = g63.toInt) := w127
  refine W.eq (g2 := F0 m 9 ls [.int u128]) rfl ?_
  have hP : va_P D vwCl (MW Y o a (upd (upd (upd I 16 u129) 21 g64) 24 g65) J (vf_upd (vf_upd F 5 f66) 6 f67) G) H := hP
  have hD : va_D A (MW Y o a (upd (upd (upd I 16 u129) 21 g64) 24 g65) J (vf_upd (vf_upd F 5 f66) 6 f67) G) := hD
  refine lv_bipush (v := 93) hx hb dX11_closes_9 (by decide) ?_
  refine lv_icmp_ne (tgt := 64) hx hb dX11_closes_11 (by decide) (fun c136 => ?_) (fun c136 => ?_)
  · skip
    have c136 := i_ne (Eq.refl u128.toInt) (show (93 : Int32).toInt = 93 by decide) c136
    refine W.widen (k := 0) (n := 0) (Nat.le_of_ble_eq_true rfl) (Nat.le_of_ble_eq_true rfl) ?_
    exact W.vret hx hb hr (fun t ht hW => ⟨⟨(u129, g65, g64, f66, f67), rfl, ⟨(show (0 ≤ u129.toInt ∧ u129.toInt ≤ 400) by omega), (show ((I 16).toInt ≤ u129.toInt) by omega), (show (u129.toInt ≤ (I 3).toInt) by omega), (show (0 ≤ g65.toInt ∧ g65.toInt ≤ 400) by omega), (show (g65.toInt ≤ (I 24).toInt) by omega), (show ((f67 (I 19).toNatClampNeg).toInt + g65.toInt ≤ u129.toInt) by omega), (show PSg (F 4) (F 8) (F 7) f66 f67 gs (I 19).toNatClampNeg gb (nbo (F 23) (g65.toInt).toNat + 1) ((I 20).toInt).toNat from (PG_to hr124 rfl (by omega) (by omega) (by omega)))⟩, CB.mk ht hP hD⟩, hS.F ht⟩) hS.2.2 dX11_closes_64
  · skip
    have c136 := i_eq (Eq.refl u128.toInt) (show (93 : Int32).toInt = 93 by decide) c136
    refine lv_aload_n hx hb dX11_closes_14 rfl (lv_at hl 0 rfl) ?_
    refine cga (rn_V (As := []) (rest := []) (b := o) (m_isInside l D Y Z H.size o a (upd (upd (upd I 16 u129) 21 g64) 24 g65) J (vf_upd (vf_upd F 5 f66) 6 f67) G   (show (0 ≤ g65.toInt ∧ g65.toInt ≤ 400) by omega)) ⟨hx, hb, hml, hown, hg⟩ lk_X11_285 ⟨CP.blind, va_recv hKN.1 hP (ci := 11) (q0 := 0) rfl rfl, CP.at hP hKN hD⟩ ⟨⟨rfl, rfl⟩, ⟨Nat.le_of_ble_eq_true rfl, Nat.le_of_ble_eq_true rfl⟩, ⟨Nat.le_of_ble_eq_true rfl, Nat.le_of_ble_eq_true rfl⟩⟩ hl.1 rfl (Nat.le_of_ble_eq_true rfl) dX11_closes_15) hP hD hS hA (fun u137 H locs w138 hP hD hS => ?_)
    obtain ⟨hw140, hw141, hw142⟩ : (0 ≤ u137.toInt ∧ u137.toInt ≤ 1) ∧ (u137.toInt = 1 → ∃ k : Nat, (k : Int) < g65.toInt ∧ ((F 23) k).toInt = 91) ∧ (u137.toInt = 0 → ∀ k : Nat, (k : Int) < g65.toInt → ((F 23) k).toInt ≠ 91) := w138
    refine W.eq (g2 := F0 m 18 ls [.int u137]) rfl ?_
    have hP : va_P D vwCl (MW Y o a (upd (upd (upd I 16 u129) 21 g64) 24 g65) J (vf_upd (vf_upd F 5 f66) 6 f67) G) H := hP
    have hD : va_D A (MW Y o a (upd (upd (upd I 16 u129) 21 g64) 24 g65) J (vf_upd (vf_upd F 5 f66) 6 f67) G) := hD
    rcases (show u137.toInt = 1 ∨ u137.toInt = 0 by omega) with c143 | c143
    · obtain rfl : u137 = 1 := i_is c143 (by decide)
      have zi1 : (1 : Int32).toInt = 1 := by decide
      obtain ⟨t144k, t1441, t1442⟩ := hw141 (by decide)
      clear hw141
      clear hw142
      refine W.eq (g2 := F0 m 18 ls [.int 1]) rfl ?_
      refine lv_if_eq (tgt := 64) hx hb dX11_closes_18 (by decide) (fun c145 => ?_) (fun c145 => ?_)
      · exact absurd c145 (by decide)
      refine lv_aload_n hx hb dX11_closes_21 rfl (lv_at hl 0 rfl) ?_
      refine lv_iconst (v := 1) hx hb dX11_closes_22 (by decide) ?_
      refine cga (rn_V (As := [.int 1]) (rest := []) (b := o) (m_settles l D Y Z H.size o a (upd (upd (upd I 16 u129) 21 g64) 24 g65) J (vf_upd (vf_upd F 5 f66) 6 f67) G gs gb 1 (show (0 ≤ (I 19).toInt ∧ (I 19).toInt ≤ 17) by omega) (show (1 ≤ (1 : Int32).toInt ∧ (1 : Int32).toInt ≤ 3) by omega) (show (0 ≤ g65.toInt ∧ g65.toInt ≤ 400) by omega) (show (0 ≤ (I 20).toInt ∧ (I 20).toInt ≤ 60) by omega) (show ((f67 (I 19).toNatClampNeg).toInt + g65.toInt ≤ 400) by omega) (show PSg (F 4) (F 8) (F 7) f66 f67 gs (I 19).toNatClampNeg gb (nbo (F 23) (g65.toInt).toNat + 1) ((I 20).toInt).toNat from (PG_to hr124 rfl (by omega) (by omega) (by omega))) (show ent (F 23) (g65.toInt).toNat from (ent_le hr_EN (by omega)))) ⟨hx, hb, hml, hown, hg⟩ lk_X11_282 ⟨CP.blind, va_recv hKN.1 hP (ci := 11) (q0 := 0) rfl rfl, CP.at hP hKN hD⟩ ⟨⟨rfl, rfl⟩, ⟨Nat.le_of_ble_eq_true rfl, Nat.le_of_ble_eq_true rfl⟩, ⟨Nat.le_of_ble_eq_true rfl, Nat.le_of_ble_eq_true rfl⟩⟩ hl.1 rfl (Nat.le_of_ble_eq_true rfl) dX11_closes_23) hP hD hS hA (fun u146 H locs w147 hP hD hS => ?_)
      obtain ⟨u148, u149, f150, f151⟩ := u146
      obtain ⟨hw152, hw153, hw154, hw155, hw156, hw157⟩ : (0 ≤ u148.toInt ∧ u148.toInt ≤ 400) ∧ (u148.toInt ≤ g65.toInt) ∧ ((f151 (I 19).toNatClampNeg).toInt + u148.toInt = (f67 (I 19).toNatClampNeg).toInt + g65.toInt) ∧ PSg (F 4) (F 8) (F 7) f150 f151 gs (I 19).toNatClampNeg gb (nbo (F 23) (u148.toInt).toNat + 1) ((I 20).toInt).toNat ∧ (∀ k : Nat, (k : Int) < g65.toInt → ((F 23) k).toInt = 91 → (k : Int) < u148.toInt) ∧ ((1 : Int32).toInt = 1 → (u148.toInt = 0 ∨ ((F 23) (u148.toInt - 1).toNat).toInt = 91)) := w147
      refine W.eq (g2 := F0 m 26 ls []) rfl ?_
      have hP : va_P D vwCl (MW Y o a (upd (upd (upd I 16 u129) 21 u149) 24 u148) J (vf_upd (vf_upd F 5 f150) 6 f151) G) H := hP
      have hD : va_D A (MW Y o a (upd (upd (upd I 16 u129) 21 u149) 24 u148) J (vf_upd (vf_upd F 5 f150) 6 f151) G) := hD
      have t1583 := hw156 t144k t1441 t1442
      have t1584 := (hw157 (by decide)).resolve_left (by omega)
      refine lv_aload_n hx hb dX11_closes_26 rfl (lv_at hl 0 rfl) ?_
      refine lv_dup hx hb dX11_closes_27 rfl ?_
      refine va_get (D := D) (ci := 11) (v := .int u148) (C := RX11) (T := TX11) (N := 49) hx hb hg inGX11 hown hKN.1 hP 0 rfl rfl 24 (by decide) (hg _ kw_1232) (fun _ h9 => h9) rfl dX11_closes_28 ?_
      refine lv_iconst (v := 1) hx hb dX11_closes_31 (by decide) ?_
      refine lv_isub hx hb dX11_closes_32 ?_
      refine lv_topi (fun v159 ev159 => ?_)
      have hv159 := i_sub (Eq.refl u148.toInt) (show (1 : Int32).toInt = 1 by decide) ev159 (by omega) (by omega)
      refine va_put (D := D) (ci := 11) (v := .int v159) (ty := .int) (C := RX11) (T := TX11) (N := 49) hx hb hg inGX11 tyX11 tyX11_ok nmX11 hown hKN.1 hP hD hS 0 rfl rfl 24 (by decide) (hg _ kw_1232) (fun _ h9 => h9) rfl (by decide +kernel) rfl rfl (Nat.le_of_ble_eq_true rfl) dX11_closes_33 (fun H locs hP hD hS => ?_)
      have hP : va_P D vwCl (MW Y o a (upd (upd (upd I 16 u129) 21 u149) 24 v159) J (vf_upd (vf_upd F 5 f150) 6 f151) G) H := hP
      have hD : va_D A (MW Y o a (upd (upd (upd I 16 u129) 21 u149) 24 v159) J (vf_upd (vf_upd F 5 f150) 6 f151) G) := hD
      have t160 := st_at2 (i := v159) (by omega) t1584
      have t160n := nbo_pop3 (op := (F 23)) (n := u148.toInt.toNat) (i := v159) (by omega) (by omega)
      refine lv_aload_n hx hb dX11_closes_36 rfl (lv_at hl 0 rfl) ?_
      refine lv_dup hx hb dX11_closes_37 rfl ?_
      refine va_get (D := D) (ci := 11) (v := .int u149) (C := RX11) (T := TX11) (N := 49) hx hb hg inGX11 hown hKN.1 hP 0 rfl rfl 21 (by decide) (hg _ kw_1229) (fun _ h9 => h9) rfl dX11_closes_38 ?_
      refine lv_iconst (v := 1) hx hb dX11_closes_41 (by decide) ?_
      refine lv_isub hx hb dX11_closes_42 ?_
      refine lv_topi (fun v161 ev161 => ?_)
      refine va_put (D := D) (ci := 11) (v := .int v161) (ty := .int) (C := RX11) (T := TX11) (N := 49) hx hb hg inGX11 tyX11 tyX11_ok nmX11 hown hKN.1 hP hD hS 0 rfl rfl 21 (by decide) (hg _ kw_1229) (fun _ h9 => h9) rfl (by decide +kernel) rfl rfl (Nat.le_of_ble_eq_true rfl) dX11_closes_43 (fun H locs hP hD hS => ?_)
      have hP : va_P D vwCl (MW Y o a (upd (upd (upd I 16 u129) 21 v161) 24 v159) J (vf_upd (vf_upd F 5 f150) 6 f151) G) H := hP
      have hD : va_D A (MW Y o a (upd (upd (upd I 16 u129) 21 v161) 24 v159) J (vf_upd (vf_upd F 5 f150) 6 f151) G) := hD
      refine lv_aload_n hx hb dX11_closes_46 rfl (lv_at hl 0 rfl) ?_
      refine lv_dup hx hb dX11_closes_47 rfl ?_
      refine va_get (D := D) (ci := 11) (v := .int u129) (C := RX11) (T := TX11) (N := 49) hx hb hg inGX11 hown hKN.1 hP 0 rfl rfl 16 (by decide) (hg _ kw_1224) (fun _ h9 => h9) rfl dX11_closes_48 ?_
      refine lv_iconst (v := 1) hx hb dX11_closes_51 (by decide) ?_
      refine lv_iadd hx hb dX11_closes_52 ?_
      refine lv_topi (fun v162 ev162 => ?_)
      have hv162 := i_add (Eq.refl u129.toInt) (show (1 : Int32).toInt = 1 by decide) ev162 (by omega) (by omega)
      refine va_put (D := D) (ci := 11) (v := .int v162) (ty := .int) (C := RX11) (T := TX11) (N := 49) hx hb hg inGX11 tyX11 tyX11_ok nmX11 hown hKN.1 hP hD hS 0 rfl rfl 16 (by decide) (hg _ kw_1224) (fun _ h9 => h9) rfl (by decide +kernel) rfl rfl (Nat.le_of_ble_eq_true rfl) dX11_closes_53 (fun H locs hP hD hS => ?_)
      have hP : va_P D vwCl (MW Y o a (upd (upd (upd I 16 v162) 21 v161) 24 v159) J (vf_upd (vf_upd F 5 f150) 6 f151) G) H := hP
      have hD : va_D A (MW Y o a (upd (upd (upd I 16 v162) 21 v161) 24 v159) J (vf_upd (vf_upd F 5 f150) 6 f151) G) := hD
      refine lv_aload_n hx hb dX11_closes_56 rfl (lv_at hl 0 rfl) ?_
      refine lv_iconst (v := 3) hx hb dX11_closes_57 (by decide) ?_
      refine cga (rn_V (As := [.int 3]) (rest := []) (b := o) (m_settles l D Y Z H.size o a (upd (upd (upd I 16 v162) 21 v161) 24 v159) J (vf_upd (vf_upd F 5 f150) 6 f151) G gs gb 3 (show (0 ≤ (I 19).toInt ∧ (I 19).toInt ≤ 17) by omega) (show (1 ≤ (3 : Int32).toInt ∧ (3 : Int32).toInt ≤ 3) by omega) (show (0 ≤ v159.toInt ∧ v159.toInt ≤ 400) by omega) (show (0 ≤ (I 20).toInt ∧ (I 20).toInt ≤ 60) by omega) (show ((f151 (I 19).toNatClampNeg).toInt + v159.toInt ≤ 400) by omega) (show PSg (F 4) (F 8) (F 7) f150 f151 gs (I 19).toNatClampNeg gb (nbo (F 23) (v159.toInt).toNat + 1) ((I 20).toInt).toNat from (PG_to hw155 rfl (by omega) (by omega) (by omega))) (show ent (F 23) (v159.toInt).toNat from (ent_le hr_EN (by omega)))) ⟨hx, hb, hml, hown, hg⟩ lk_X11_282 ⟨CP.blind, va_recv hKN.1 hP (ci := 11) (q0 := 0) rfl rfl, CP.at hP hKN hD⟩ ⟨⟨rfl, rfl⟩, ⟨Nat.le_of_ble_eq_true rfl, Nat.le_of_ble_eq_true rfl⟩, ⟨Nat.le_of_ble_eq_true rfl, Nat.le_of_ble_eq_true rfl⟩⟩ hl.1 rfl (Nat.le_of_ble_eq_true rfl) dX11_closes_58) hP hD hS hA (fun u163 H locs w164 hP hD hS => ?_)
      obtain ⟨u165, u166, f167, f168⟩ := u163
      obtain ⟨hw169, hw170, hw171, hw172, hw173, hw174⟩ : (0 ≤ u165.toInt ∧ u165.toInt ≤ 400) ∧ (u165.toInt ≤ v159.toInt) ∧ ((f168 (I 19).toNatClampNeg).toInt + u165.toInt = (f151 (I 19).toNatClampNeg).toInt + v159.toInt) ∧ PSg (F 4) (F 8) (F 7) f167 f168 gs (I 19).toNatClampNeg gb (nbo (F 23) (u165.toInt).toNat + 1) ((I 20).toInt).toNat ∧ (∀ k : Nat, (k : Int) < v159.toInt → ((F 23) k).toInt = 91 → (k : Int) < u165.toInt) ∧ ((3 : Int32).toInt = 1 → (u165.toInt = 0 ∨ ((F 23) (u165.toInt - 1).toNat).toInt = 91)) := w164
      refine W.eq (g2 := F0 m 61 ls []) rfl ?_
      have hP : va_P D vwCl (MW Y o a (upd (upd (upd I 16 v162) 21 u166) 24 u165) J (vf_upd (vf_upd F 5 f167) 6 f168) G) H := hP
      have hD : va_D A (MW Y o a (upd (upd (upd I 16 v162) 21 u166) 24 u165) J (vf_upd (vf_upd F 5 f167) 6 f168) G) := hD
      refine lv_goto (tgt := 5) hx hb dX11_closes_61 (by decide) ?_
      exact ih125 (v162, u166, u165, f167, f168) H locs ls (by show (400 - v162.toInt).toNat < (400 - g63.toInt).toNat; omega) ⟨hP, hD, hS, lv_sub hl [0] rfl, by omega, by omega, by omega, by omega, by omega, by omega, (PG_to hw172 rfl (by omega) (by omega) (by omega))⟩
    · obtain rfl : u137 = 0 := i_is c143 (by decide)
      have zi0 : (0 : Int32).toInt = 0 := by decide
      replace hw142 := hw142 (by decide)
      clear hw141
      refine W.eq (g2 := F0 m 18 ls [.int 0]) rfl ?_
      refine lv_if_eq (tgt := 64) hx hb dX11_closes_18 (by decide) (fun c175 => ?_) (fun c175 => ?_)
      rotate_left
      · exact absurd c175 (by decide)
      refine W.widen (k := 0) (n := 0) (Nat.le_of_ble_eq_true rfl) (Nat.le_of_ble_eq_true rfl) ?_
      exact W.vret hx hb hr (fun t ht hW => ⟨⟨(u129, g65, g64, f66, f67), rfl, ⟨(show (0 ≤ u129.toInt ∧ u129.toInt ≤ 400) by omega), (show ((I 16).toInt ≤ u129.toInt) by omega), (show (u129.toInt ≤ (I 3).toInt) by omega), (show (0 ≤ g65.toInt ∧ g65.toInt ≤ 400) by omega), (show (g65.toInt ≤ (I 24).toInt) by omega), (show ((f67 (I 19).toNatClampNeg).toInt + g65.toInt ≤ u129.toInt) by omega), (show PSg (F 4) (F 8) (F 7) f66 f67 gs (I 19).toNatClampNeg gb (nbo (F 23) (g65.toInt).toNat + 1) ((I 20).toInt).toNat from (PG_to hr124 rfl (by omega) (by omega) (by omega)))⟩, CB.mk ht hP hD⟩, hS.F ht⟩) hS.2.2 dX11_closes_64
set_option maxHeartbeats 4000000 in
set_option maxRecDepth 100000 in
theorem m_fact (l : Launch) (D : va_G) (Y : Nat → ClassId) (Z : Nat → Nat) (sz : Nat) (o : Nat) (a : Nat → Nat) (I : Nat → Int32) (J : Nat → Int64) (F : Nat → Nat → Int32) (G : Nat → Nat → Int64) (gs : Nat → Int32) (gb : Nat) (hk_0 : (0 ≤ (I 16).toInt ∧ (I 16).toInt ≤ 400)) (hk_1 : (0 ≤ (I 3).toInt ∧ (I 3).toInt ≤ 400)) (hk_2 : ((I 16).toInt ≤ (I 3).toInt)) (hk_3 : (0 ≤ (I 17).toInt ∧ (I 17).toInt ≤ 4000)) (hk_4 : (0 ≤ (I 20).toInt ∧ (I 20).toInt ≤ 60)) (hk_5 : (0 ≤ (I 19).toInt ∧ (I 19).toInt ≤ 17)) (hk_6 : (0 ≤ (I 24).toInt ∧ (I 24).toInt ≤ 400)) (hk_7 : (((F 6) (I 19).toNatClampNeg).toInt + (I 24).toInt ≤ (I 16).toInt)) (hr_PS : PSg (F 4) (F 8) (F 7) (F 5) (F 6) gs (I 19).toNatClampNeg gb (nbo (F 23) ((I 24).toInt).toNat + 0) ((I 20).toInt).toNat) (hr_EN : ent (F 23) ((I 24).toInt).toNat) : Met l yX11_fact (.code yX11_fact cX11_fact 3 (some .boolean) :: GW) ({ frames := 7, cells := 0, slots := 0, locals := 154 }) (va_Pc [.ref o] (CP D Y Z (MW Y o a I J F G) sz)) (QG (S := Int32 × Int32 × Int32 × Int32 × Int32 × Int32 × Int32 × (Nat → Int32) × (Nat → Int32) × (Nat → Int32)) (fun u => some (.int u.1)) (fun u => (0 ≤ u.2.1.toInt ∧ u.2.1.toInt ≤ 400) ∧ ((I 16).toInt ≤ u.2.1.toInt) ∧ (u.2.1.toInt ≤ (I 3).toInt) ∧ (0 ≤ u.2.2.1.toInt ∧ u.2.2.1.toInt ≤ 4000) ∧ (0 ≤ u.2.2.2.2.1.toInt ∧ u.2.2.2.2.1.toInt ≤ 60) ∧ ((I 20).toInt ≤ u.2.2.2.2.1.toInt) ∧ (0 ≤ u.1.toInt ∧ u.1.toInt ≤ 1) ∧ (u.1.toInt = 0 → 1 ≤ u.2.2.1.toInt) ∧ (0 ≤ u.2.2.2.2.2.2.1.toInt ∧ u.2.2.2.2.2.2.1.toInt ≤ 400) ∧ (u.1.toInt = 1 → (u.2.2.2.2.2.2.2.2.1 (I 19).toNatClampNeg).toInt + u.2.2.2.2.2.2.1.toInt ≤ u.2.1.toInt) ∧ (u.1.toInt = 1 → PSg (F 4) (F 8) (F 7) u.2.2.2.2.2.2.2.1 u.2.2.2.2.2.2.2.2.1 gs (I 19).toNatClampNeg gb (nbo u.2.2.2.2.2.2.2.2.2 (u.2.2.2.2.2.2.1.toInt).toNat + 1) (u.2.2.2.2.1.toInt).toNat) ∧ (u.1.toInt = 1 → ent u.2.2.2.2.2.2.2.2.2 (u.2.2.2.2.2.2.1.toInt).toNat) ∧ TC (F 4) (F 8) (F 7) u.2.2.2.2.2.2.2.1) (fun u => CB D (MW Y o a (upd (upd (upd (upd (upd (upd I 16 u.2.1) 17 u.2.2.1) 18 u.2.2.2.1) 20 u.2.2.2.2.1) 21 u.2.2.2.2.2.1) 24 u.2.2.2.2.2.2.1) J (vf_upd (vf_upd (vf_upd F 5 u.2.2.2.2.2.2.2.1) 6 u.2.2.2.2.2.2.2.2.1) 23 u.2.2.2.2.2.2.2.2.2) G) (va_A (MW Y o a I J F G) sz)) (va_A (MW Y o a I J F G) sz)) 0 0 (va_A (MW Y o a I J F G) sz) := by
  refine Met.ofW (cc := cX11_fact) (maxL := 3) (ret := (some .boolean)) (by decide) rfl ?_
  intro p e s m args below meth c s₁ B hml hv
  obtain ⟨rfl, hsz, hP, hKN, hD0⟩ := hv
  have hx := B.exec
  have hb := B.bytes
  have hr := B.returns
  have hts := atoms_spec (ws := .code yX11_fact cX11_fact 3 (some .boolean) :: GW) B.pre
  have hg : ∀ w ∈ GW, w.before _ s = true := fun w h => hts w (List.mem_cons_of_mem _ h)
  have hown : s.vm.findClass RX11 = some m.cls := findClass_of_methodNamed B.named
  have hlocks := B.notSynchronized
  subst hsz
  have hD := hD0.self (sz := s.heap.size)
  generalize hAe : va_A (MW Y o a I J F G) s.heap.size = A at hD ⊢
  have hA : ∀ q : Nat, s.heap.size ≤ q → A q := fun q h => by rw [← hAe]; exact Or.inr h
  clear hAe hD0 hts B
  have hl := lv_entry ([.ref o]) (n := 3) (Nat.le_of_ble_eq_true rfl)
  rw [lg_entry_eq]
  generalize (lg_sl ([.ref o]) ++ List.replicate (3 - (lg_sl ([.ref o])).length) Slot.unset).toArray = ls at hl ⊢
  have hl : lv_has ls 3 [(0, .ref o)] := hl
  refine w_start (A0 := A) hP (fun H locs hP hS => ?_)
  refine lv_iconst (v := 1) hx hb dX11_fact_0 (by decide) ?_
  refine lv_istore_n (lv' := [(1, .int 1), (0, .ref o)]) hx hb dX11_fact_1 rfl hl (by decide) rfl (fun ls hl => ?_)
  have zi1 : (1 : Int32).toInt = 1 := by decide
  refine w_loop (σ := Int32 × Int32 × Int32 × Int32 × Int32 × (Nat → Int32)) (fun xx H locs ls => match xx with | (g71, g72, g73, g74, g75, f76) => va_P D vwCl (MW Y o a (upd (upd (upd (upd I 16 g72) 17 g73) 21 g74) 24 g75) J (vf_upd F 23 f76) G) H ∧ va_D A (MW Y o a (upd (upd (upd (upd I 16 g72) 17 g73) 21 g74) 24 g75) J (vf_upd F 23 f76) G) ∧ va_S A s.heap H locs ∧ lv_has ls 3 [(1, .int g71), (0, .ref o)] ∧ (0 ≤ g71.toInt ∧ g71.toInt ≤ 1) ∧ (0 ≤ g72.toInt ∧ g72.toInt ≤ 400) ∧ (g72.toInt ≤ (I 3).toInt) ∧ ((I 16).toInt ≤ g72.toInt) ∧ (0 ≤ g73.toInt ∧ g73.toInt ≤ 4000) ∧ (0 ≤ g75.toInt ∧ g75.toInt ≤ 400) ∧ (((F 6) (I 19).toNatClampNeg).toInt + g75.toInt ≤ g72.toInt) ∧ PSg (F 4) (F 8) (F 7) (F 5) (F 6) gs (I 19).toNatClampNeg gb (nbo f76 (g75.toInt).toNat + 0) ((I 20).toInt).toNat ∧ ent f76 (g75.toInt).toNat) (fun xx => match xx with | (g71, g72, g73, g74, g75, f76) => (2 * (400 - g72.toInt) + g71.toInt).toNat) (1, (I 16), (I 17), (I 21), (I 24), (F 23)) ⟨hP, hD, hS, lv_sub hl [0, 1] rfl, by omega, by omega, by omega, by omega, by omega, by omega, by omega, (PG_to hr_PS rfl (by omega) (by omega) (by omega)), (ent_le hr_EN (by omega))⟩ (fun xx H locs ls hI ih => ?_)
  obtain ⟨g71, g72, g73, g74, g75, f76⟩ := xx
  obtain ⟨hP, hD, hS, hl, hq147, hq148, hq149, hq150, hq151, hq152, hq153, hr154, hr155⟩ := hI
  have ih156 := ih
  refine lv_iload_n hx hb dX11_fact_2 rfl (lv_at hl 0 rfl) ?_
  have t157 := PG_len hr154
  have t158 := PG_dep hr154
  refine lv_if_eq (tgt := 75) hx hb dX11_fact_3 (by decide) (fun c159 => ?_) (fun c159 => ?_)
  · skip
    have c159 := i_eq (Eq.refl g71.toInt) (show (0 : Int32).toInt = 0 by decide) c159
    refine lv_aload_n hx hb dX11_fact_75 rfl (lv_at hl 1 rfl) ?_
    refine cga (rn_V (As := []) (rest := []) (b := o) (m_compare l D Y Z H.size o a (upd (upd (upd (upd I 16 g72) 17 g73) 21 g74) 24 g75) J (vf_upd F 23 f76) G gs gb (nbo f76 g75.toInt.toNat)  (show (0 ≤ g72.toInt ∧ g72.toInt ≤ 400) by omega) (show (0 ≤ (I 3).toInt ∧ (I 3).toInt ≤ 400) by omega) (show (g72.toInt ≤ (I 3).toInt) by omega) (show (0 ≤ g73.toInt ∧ g73.toInt ≤ 4000) by omega) (show (0 ≤ (I 20).toInt ∧ (I 20).toInt ≤ 60) by omega) (show (0 ≤ (I 19).toInt ∧ (I 19).toInt ≤ 17) by omega) (show (((F 6) (I 19).toNatClampNeg).toInt ≤ g72.toInt) by omega) (show PSg (F 4) (F 8) (F 7) (F 5) (F 6) gs (I 19).toNatClampNeg gb ((nbo f76 g75.toInt.toNat)) ((I 20).toInt).toNat from (PG_to hr154 rfl (by omega) (by omega) (by omega)))) ⟨hx, hb, hml, hown, hg⟩ lk_X11_279 ⟨CP.blind, va_recv hKN.1 hP (ci := 11) (q0 := 0) rfl rfl, CP.at hP hKN hD⟩ ⟨⟨rfl, rfl⟩, ⟨Nat.le_of_ble_eq_true rfl, Nat.le_of_ble_eq_true rfl⟩, ⟨Nat.le_of_ble_eq_true rfl, Nat.le_of_ble_eq_true rfl⟩⟩ hl.1 rfl (Nat.le_of_ble_eq_true rfl) dX11_fact_76) hP hD hS hA (fun u160 H locs w161 hP hD hS => ?_)
    obtain ⟨u162, u163, u164, u165, u166, f167, f168⟩ := u160
    obtain ⟨hw169, hw170, hw171, hw172, hw173, hw174, hw175, hw176, hw177, hw178, hw179⟩ : (0 ≤ u163.toInt ∧ u163.toInt ≤ 400) ∧ (g72.toInt ≤ u163.toInt) ∧ (u163.toInt ≤ (I 3).toInt) ∧ (0 ≤ u164.toInt ∧ u164.toInt ≤ 4000) ∧ (0 ≤ u166.toInt ∧ u166.toInt ≤ 60) ∧ ((I 20).toInt ≤ u166.toInt) ∧ (0 ≤ u162.toInt ∧ u162.toInt ≤ 1) ∧ (u162.toInt = 0 → 1 ≤ u164.toInt) ∧ (u162.toInt = 1 → (f168 (I 19).toNatClampNeg).toInt + g72.toInt ≤ ((F 6) (I 19).toNatClampNeg).toInt + u163.toInt) ∧ (u162.toInt = 1 → PSg (F 4) (F 8) (F 7) f167 f168 gs (I 19).toNatClampNeg gb ((nbo f76 g75.toInt.toNat) + 1) (u166.toInt).toNat) ∧ TC (F 4) (F 8) (F 7) f167 := w161
    refine W.eq (g2 := F0 m 79 ls [.int u162]) rfl ?_
    have hP : va_P D vwCl (MW Y o a (upd (upd (upd (upd (upd (upd I 16 u163) 17 u164) 18 u165) 20 u166) 21 g74) 24 g75) J (vf_upd (vf_upd (vf_upd F 5 f167) 6 f168) 23 f76) G) H := hP
    have hD : va_D A (MW Y o a (upd (upd (upd (upd (upd (upd I 16 u163) 17 u164) 18 u165) 20 u166) 21 g74) 24 g75) J (vf_upd (vf_upd (vf_upd F 5 f167) 6 f168) 23 f76) G) := hD
    rcases (show u162.toInt = 1 ∨ u162.toInt = 0 by omega) with c180 | c180
    · obtain rfl : u162 = 1 := i_is c180 (by decide)
      have zi1 : (1 : Int32).toInt = 1 := by decide
      clear hw176
      replace hw177 := hw177 (by decide)
      have t181 := hw178 (by decide)
      have t181l := PG_len t181
      have t181d := PG_dep t181
      refine W.eq (g2 := F0 m 79 ls [.int 1]) rfl ?_
      refine W.widen (k := 0) (n := 0) (Nat.le_of_ble_eq_true rfl) (Nat.le_of_ble_eq_true rfl) ?_
      exact W.zret (v := 1) hx hb hr (by decide) (fun t ht hW => ⟨⟨(1, u163, u164, u165, u166, g74, g75, f167, f168, f76), rfl, ⟨(show (0 ≤ u163.toInt ∧ u163.toInt ≤ 400) by omega), (show ((I 16).toInt ≤ u163.toInt) by omega), (show (u163.toInt ≤ (I 3).toInt) by omega), (show (0 ≤ u164.toInt ∧ u164.toInt ≤ 4000) by omega), (show (0 ≤ u166.toInt ∧ u166.toInt ≤ 60) by omega), (show ((I 20).toInt ≤ u166.toInt) by omega), (show (0 ≤ (1 : Int32).toInt ∧ (1 : Int32).toInt ≤ 1) by omega), (show ((1 : Int32).toInt = 0 → 1 ≤ u164.toInt) by omega), (show (0 ≤ g75.toInt ∧ g75.toInt ≤ 400) by omega), (show ((1 : Int32).toInt = 1 → (f168 (I 19).toNatClampNeg).toInt + g75.toInt ≤ u163.toInt) by omega), (show ((1 : Int32).toInt = 1 → PSg (F 4) (F 8) (F 7) f167 f168 gs (I 19).toNatClampNeg gb (nbo f76 (g75.toInt).toNat + 1) (u166.toInt).toNat) from (fun _ => (PG_to t181 rfl (by omega) (by omega) (by omega)))), (show ((1 : Int32).toInt = 1 → ent f76 (g75.toInt).toNat) from (fun _ => (ent_le hr155 (by omega)))), (show TC (F 4) (F 8) (F 7) f167 from (PG_tc t181))⟩, CB.mk ht hP hD⟩, hS.F ht⟩) hS.2.2 dX11_fact_79
    · obtain rfl : u162 = 0 := i_is c180 (by decide)
      have zi0 : (0 : Int32).toInt = 0 := by decide
      replace hw176 := hw176 (by decide)
      clear hw177
      refine W.eq (g2 := F0 m 79 ls [.int 0]) rfl ?_
      refine W.widen (k := 0) (n := 0) (Nat.le_of_ble_eq_true rfl) (Nat.le_of_ble_eq_true rfl) ?_
      exact W.zret (v := 0) hx hb hr (by decide) (fun t ht hW => ⟨⟨(0, u163, u164, u165, u166, g74, g75, f167, f168, f76), rfl, ⟨(show (0 ≤ u163.toInt ∧ u163.toInt ≤ 400) by omega), (show ((I 16).toInt ≤ u163.toInt) by omega), (show (u163.toInt ≤ (I 3).toInt) by omega), (show (0 ≤ u164.toInt ∧ u164.toInt ≤ 4000) by omega), (show (0 ≤ u166.toInt ∧ u166.toInt ≤ 60) by omega), (show ((I 20).toInt ≤ u166.toInt) by omega), (show (0 ≤ (0 : Int32).toInt ∧ (0 : Int32).toInt ≤ 1) by omega), (show ((0 : Int32).toInt = 0 → 1 ≤ u164.toInt) by omega), (show (0 ≤ g75.toInt ∧ g75.toInt ≤ 400) by omega), (show ((0 : Int32).toInt = 1 → (f168 (I 19).toNatClampNeg).toInt + g75.toInt ≤ u163.toInt) by omega), (show ((0 : Int32).toInt = 1 → PSg (F 4) (F 8) (F 7) f167 f168 gs (I 19).toNatClampNeg gb (nbo f76 (g75.toInt).toNat + 1) (u166.toInt).toNat) from (fun h => absurd h (by decide))), (show ((0 : Int32).toInt = 1 → ent f76 (g75.toInt).toNat) from (fun h => absurd h (by decide))), (show TC (F 4) (F 8) (F 7) f167 from hw179)⟩, CB.mk ht hP hD⟩, hS.F ht⟩) hS.2.2 dX11_fact_79
  · skip
    have c159 := i_ne (Eq.refl g71.toInt) (show (0 : Int32).toInt = 0 by decide) c159
    refine lv_iconst (v := 0) hx hb dX11_fact_6 (by decide) ?_
    refine lv_istore_n (lv' := [(1, .int 0), (0, .ref o)]) hx hb dX11_fact_7 rfl hl (by decide) rfl (fun ls hl => ?_)
    refine lv_aload_n hx hb dX11_fact_8 rfl (lv_at hl 1 rfl) ?_
    refine cga (rn_V (As := []) (rest := []) (b := o) (m_seeI l D Y Z H.size o a (upd (upd (upd (upd I 16 g72) 17 g73) 21 g74) 24 g75) J (vf_upd F 23 f76) G   (show (0 ≤ g72.toInt ∧ g72.toInt ≤ 400) by omega) (show (0 ≤ (I 3).toInt ∧ (I 3).toInt ≤ 400) by omega) (show (g72.toInt ≤ (I 3).toInt) by omega)) ⟨hx, hb, hml, hown, hg⟩ lk_X11_183 ⟨CP.blind, va_recv hKN.1 hP (ci := 11) (q0 := 0) rfl rfl, CP.at hP hKN hD⟩ ⟨⟨rfl, rfl⟩, ⟨Nat.le_of_ble_eq_true rfl, Nat.le_of_ble_eq_true rfl⟩, ⟨Nat.le_of_ble_eq_true rfl, Nat.le_of_ble_eq_true rfl⟩⟩ hl.1 rfl (Nat.le_of_ble_eq_true rfl) dX11_fact_9) hP hD hS hA (fun u182 H locs w183 hP hD hS => ?_)
    obtain ⟨u184, u185⟩ := u182
    obtain ⟨hw186, hw187, hw188, hw189, hw190, hw191⟩ : (0 ≤ u185.toInt ∧ u185.toInt ≤ 400) ∧ (g72.toInt ≤ u185.toInt) ∧ (u185.toInt ≤ (I 3).toInt) ∧ ((u184.toInt = -1 ∧ u185.toInt = (I 3).toInt) ∨ (0 ≤ u184.toInt ∧ u184.toInt ≤ 255 ∧ u185.toInt < (I 3).toInt ∧ ((F 2) u185.toNatClampNeg).toInt ≠ 32)) ∧ (-1 ≤ u184.toInt ∧ u184.toInt ≤ 255) ∧ ((g72.toInt < (I 3).toInt ∧ ((F 2) g72.toNatClampNeg).toInt ≠ 32) → u185.toInt = g72.toInt) := w183
    refine W.eq (g2 := F0 m 12 ls [.int u184]) rfl ?_
    have hP : va_P D vwCl (MW Y o a (upd (upd (upd (upd I 16 u185) 17 g73) 21 g74) 24 g75) J (vf_upd F 23 f76) G) H := hP
    have hD : va_D A (MW Y o a (upd (upd (upd (upd I 16 u185) 17 g73) 21 g74) 24 g75) J (vf_upd F 23 f76) G) := hD
    refine lv_istore_n (lv' := [(2, .int u184), (1, .int 0), (0, .ref o)]) hx hb dX11_fact_12 rfl hl (by decide) rfl (fun ls hl => ?_)
    refine lv_aload_n hx hb dX11_fact_13 rfl (lv_at hl 2 rfl) ?_
    refine lv_ldc2 (v := 7237492) hx hb hown (hg _ kw_1563) dX11_fact_14 ?_
    have zl7237492 : (7237492 : Int64).toInt = 7237492 := by decide
    refine cga (rn_V (As := [.long 7237492]) (rest := []) (b := o) (m_isWordI l D Y Z H.size o a (upd (upd (upd (upd I 16 u185) 17 g73) 21 g74) 24 g75) J (vf_upd F 23 f76) G  7237492 (show (0 ≤ u185.toInt ∧ u185.toInt ≤ 400) by omega) (show (0 ≤ (I 3).toInt ∧ (I 3).toInt ≤ 400) by omega) (show (u185.toInt ≤ (I 3).toInt) by omega)) ⟨hx, hb, hml, hown, hg⟩ lk_X11_190 ⟨CP.blind, va_recv hKN.1 hP (ci := 11) (q0 := 0) rfl rfl, CP.at hP hKN hD⟩ ⟨⟨rfl, rfl⟩, ⟨Nat.le_of_ble_eq_true rfl, Nat.le_of_ble_eq_true rfl⟩, ⟨Nat.le_of_ble_eq_true rfl, Nat.le_of_ble_eq_true rfl⟩⟩ hl.1 rfl (Nat.le_of_ble_eq_true rfl) dX11_fact_17) hP hD hS hA (fun u192 H locs w193 hP hD hS => ?_)
    obtain ⟨u194, u195⟩ := u192
    obtain ⟨hw196, hw197, hw198, hw199, hw200, hw201⟩ : (0 ≤ u195.toInt ∧ u195.toInt ≤ 400) ∧ (u185.toInt ≤ u195.toInt) ∧ (u195.toInt ≤ (I 3).toInt) ∧ (0 ≤ u194.toInt ∧ u194.toInt ≤ 1) ∧ (u194.toInt = 1 → (u195.toInt < (I 3).toInt ∧ 97 ≤ ((F 2) u195.toNatClampNeg).toInt ∧ ((F 2) u195.toNatClampNeg).toInt ≤ 122)) ∧ ((u185.toInt < (I 3).toInt ∧ ((F 2) u185.toNatClampNeg).toInt ≠ 32) → u195.toInt = u185.toInt) := w193
    refine W.eq (g2 := F0 m 20 ls [.int u194]) rfl ?_
    have hP : va_P D vwCl (MW Y o a (upd (upd (upd (upd I 16 u195) 17 g73) 21 g74) 24 g75) J (vf_upd F 23 f76) G) H := hP
    have hD : va_D A (MW Y o a (upd (upd (upd (upd I 16 u195) 17 g73) 21 g74) 24 g75) J (vf_upd F 23 f76) G) := hD
    rcases (show u194.toInt = 1 ∨ u194.toInt = 0 by omega) with c202 | c202
    · obtain rfl : u194 = 1 := i_is c202 (by decide)
      have zi1 : (1 : Int32).toInt = 1 := by decide
      replace hw200 := hw200 (by decide)
      refine W.eq (g2 := F0 m 20 ls [.int 1]) rfl ?_
      refine lv_if_eq (tgt := 43) hx hb dX11_fact_20 (by decide) (fun c203 => ?_) (fun c203 => ?_)
      · exact absurd c203 (by decide)
      refine lv_aload_n hx hb dX11_fact_23 rfl (lv_at hl 2 rfl) ?_
      refine lv_bipush (v := 11) hx hb dX11_fact_24 (by decide) ?_
      have zi11 : (11 : Int32).toInt = 11 := by decide
      refine cga (rn_V (As := [.int 11]) (rest := []) (b := o) (m_opens l D Y Z H.size o a (upd (upd (upd (upd I 16 u195) 17 g73) 21 g74) 24 g75) J (vf_upd F 23 f76) G  11 (show (0 ≤ u195.toInt ∧ u195.toInt ≤ 400) by omega) (show (0 ≤ g75.toInt ∧ g75.toInt ≤ 399) by omega) (show (0 ≤ g73.toInt ∧ g73.toInt ≤ 4000) by omega) (show (0 ≤ (11 : Int32).toInt ∧ (11 : Int32).toInt ≤ 100) by omega)) ⟨hx, hb, hml, hown, hg⟩ lk_X11_276 ⟨CP.blind, va_recv hKN.1 hP (ci := 11) (q0 := 0) rfl rfl, CP.at hP hKN hD⟩ ⟨⟨rfl, rfl⟩, ⟨Nat.le_of_ble_eq_true rfl, Nat.le_of_ble_eq_true rfl⟩, ⟨Nat.le_of_ble_eq_true rfl, Nat.le_of_ble_eq_true rfl⟩⟩ hl.1 rfl (Nat.le_of_ble_eq_true rfl) dX11_fact_26) hP hD hS hA (fun u204 H locs w205 hP hD hS => ?_)
      obtain ⟨u206, u207, u208, u209, f210⟩ := u204
      obtain ⟨hw211, hw212, hw213, hw214, hw215, hw216⟩ : (0 ≤ u207.toInt ∧ u207.toInt ≤ 4000) ∧ (u206.toInt = 1 → u209.toInt = g75.toInt + 1) ∧ (u206.toInt = 0 → 1 ≤ u207.toInt) ∧ (0 ≤ u209.toInt ∧ u209.toInt ≤ 400) ∧ (0 ≤ u206.toInt ∧ u206.toInt ≤ 1) ∧ (u206.toInt = 1 → f210 = upd f76 g75.toNatClampNeg 11) := w205
      refine W.eq (g2 := F0 m 29 ls [.int u206]) rfl ?_
      have hP : va_P D vwCl (MW Y o a (upd (upd (upd (upd I 16 u195) 17 u207) 21 u208) 24 u209) J (vf_upd F 23 f210) G) H := hP
      have hD : va_D A (MW Y o a (upd (upd (upd (upd I 16 u195) 17 u207) 21 u208) 24 u209) J (vf_upd F 23 f210) G) := hD
      rcases (show u206.toInt = 1 ∨ u206.toInt = 0 by omega) with c217 | c217
      · obtain rfl : u206 = 1 := i_is c217 (by decide)
        replace hw212 := hw212 (by decide)
        clear hw213
        have t218q := hw216 (by decide)
        have t218n := nbo_push3 (m := u209.toInt.toNat) (i := g75) (v := 11) t218q (by omega) (by omega)
        have t218e := ent_p (m := u209.toInt.toNat) (i := g75) (v := 11) t218q hr155 (by omega) (by omega) (by omega)
        refine W.eq (g2 := F0 m 29 ls [.int 1]) rfl ?_
        refine lv_if_ne (tgt := 34) hx hb dX11_fact_29 (by decide) (fun c219 => ?_) (fun c219 => ?_)
        rotate_left
        · exact absurd c219 (by decide)
        refine lv_aload_n hx hb dX11_fact_34 rfl (lv_at hl 2 rfl) ?_
        refine cga (rn_V (As := []) (rest := []) (b := o) (m_passWord l D Y Z H.size o a (upd (upd (upd (upd I 16 u195) 17 u207) 21 u208) 24 u209) J (vf_upd F 23 f210) G   (show (0 ≤ u195.toInt ∧ u195.toInt ≤ 400) by omega) (show (0 ≤ (I 3).toInt ∧ (I 3).toInt ≤ 400) by omega) (show (u195.toInt ≤ (I 3).toInt) by omega)) ⟨hx, hb, hml, hown, hg⟩ lk_X11_194 ⟨CP.blind, va_recv hKN.1 hP (ci := 11) (q0 := 0) rfl rfl, CP.at hP hKN hD⟩ ⟨⟨rfl, rfl⟩, ⟨Nat.le_of_ble_eq_true rfl, Nat.le_of_ble_eq_true rfl⟩, ⟨Nat.le_of_ble_eq_true rfl, Nat.le_of_ble_eq_true rfl⟩⟩ hl.1 rfl (Nat.le_of_ble_eq_true rfl) dX11_fact_35) hP hD hS hA (fun u220 H locs w221 hP hD hS => ?_)
        obtain ⟨hw223, hw224, hw225, hw226⟩ : (0 ≤ u220.toInt ∧ u220.toInt ≤ 400) ∧ (u195.toInt ≤ u220.toInt) ∧ (u220.toInt ≤ (I 3).toInt) ∧ ((97 ≤ ((F 2) u195.toNatClampNeg).toInt ∧ ((F 2) u195.toNatClampNeg).toInt ≤ 122 ∧ u195.toInt < (I 3).toInt) → u195.toInt + 1 ≤ u220.toInt) := w221
        refine W.eq (g2 := F0 m 38 ls []) rfl ?_
        have hP : va_P D vwCl (MW Y o a (upd (upd (upd (upd I 16 u220) 17 u207) 21 u208) 24 u209) J (vf_upd F 23 f210) G) H := hP
        have hD : va_D A (MW Y o a (upd (upd (upd (upd I 16 u220) 17 u207) 21 u208) 24 u209) J (vf_upd F 23 f210) G) := hD
        refine lv_iconst (v := 1) hx hb dX11_fact_38 (by decide) ?_
        refine lv_istore_n (lv' := [(1, .int 1), (2, .int u184), (0, .ref o)]) hx hb dX11_fact_39 rfl hl (by decide) rfl (fun ls hl => ?_)
        refine lv_goto (tgt := 72) hx hb dX11_fact_40 (by decide) ?_
        refine lv_goto (tgt := 2) hx hb dX11_fact_72 (by decide) ?_
        exact ih156 (1, u220, u207, u208, u209, f210) H locs ls (by show (2 * (400 - u220.toInt) + (1 : Int32).toInt).toNat < (2 * (400 - g72.toInt) + g71.toInt).toNat; omega) ⟨hP, hD, hS, lv_sub hl [0, 2] rfl, by omega, by omega, by omega, by omega, by omega, by omega, by omega, (PG_to hr154 rfl (by omega) (by omega) (by omega)), (ent_le t218e (by omega))⟩
      · obtain rfl : u206 = 0 := i_is c217 (by decide)
        have zi0 : (0 : Int32).toInt = 0 := by decide
        clear hw212
        replace hw213 := hw213 (by decide)
        refine W.eq (g2 := F0 m 29 ls [.int 0]) rfl ?_
        refine lv_if_ne (tgt := 34) hx hb dX11_fact_29 (by decide) (fun c227 => ?_) (fun c227 => ?_)
        · exact absurd c227 (by decide)
        refine lv_iconst (v := 0) hx hb dX11_fact_32 (by decide) ?_
        refine W.widen (k := 0) (n := 0) (Nat.le_of_ble_eq_true rfl) (Nat.le_of_ble_eq_true rfl) ?_
        exact W.zret (v := 0) hx hb hr (by decide) (fun t ht hW => ⟨⟨(0, u195, u207, (I 18), (I 20), u208, u209, (F 5), (F 6), f210), rfl, ⟨(show (0 ≤ u195.toInt ∧ u195.toInt ≤ 400) by omega), (show ((I 16).toInt ≤ u195.toInt) by omega), (show (u195.toInt ≤ (I 3).toInt) by omega), (show (0 ≤ u207.toInt ∧ u207.toInt ≤ 4000) by omega), (show (0 ≤ (I 20).toInt ∧ (I 20).toInt ≤ 60) by omega), (show ((I 20).toInt ≤ (I 20).toInt) by omega), (show (0 ≤ (0 : Int32).toInt ∧ (0 : Int32).toInt ≤ 1) by omega), (show ((0 : Int32).toInt = 0 → 1 ≤ u207.toInt) by omega), (show (0 ≤ u209.toInt ∧ u209.toInt ≤ 400) by omega), (show ((0 : Int32).toInt = 1 → ((F 6) (I 19).toNatClampNeg).toInt + u209.toInt ≤ u195.toInt) by omega), (show ((0 : Int32).toInt = 1 → PSg (F 4) (F 8) (F 7) (F 5) (F 6) gs (I 19).toNatClampNeg gb (nbo f210 (u209.toInt).toNat + 1) ((I 20).toInt).toNat) from (fun h => absurd h (by decide))), (show ((0 : Int32).toInt = 1 → ent f210 (u209.toInt).toNat) from (fun h => absurd h (by decide))), (show TC (F 4) (F 8) (F 7) (F 5) from (PG_tc hr154))⟩, CB.mk ht hP hD⟩, hS.F ht⟩) hS.2.2 dX11_fact_33
    · obtain rfl : u194 = 0 := i_is c202 (by decide)
      have zi0 : (0 : Int32).toInt = 0 := by decide
      clear hw200
      refine W.eq (g2 := F0 m 20 ls [.int 0]) rfl ?_
      refine lv_if_eq (tgt := 43) hx hb dX11_fact_20 (by decide) (fun c228 => ?_) (fun c228 => ?_)
      rotate_left
      · exact absurd c228 (by decide)
      refine lv_iload_n hx hb dX11_fact_43 rfl (lv_at hl 0 rfl) ?_
      refine lv_bipush (v := 91) hx hb dX11_fact_44 (by decide) ?_
      have t229 : u195.toInt = u185.toInt → ((F 2) u195.toNatClampNeg).toInt = ((F 2) u185.toNatClampNeg).toInt := fun h => by rw [Int32.toInt_inj.mp h]
      refine lv_icmp_ne (tgt := 72) hx hb dX11_fact_46 (by decide) (fun c230 => ?_) (fun c230 => ?_)
      · skip
        have c230 := i_ne (Eq.refl u184.toInt) (show (91 : Int32).toInt = 91 by decide) c230
        refine lv_goto (tgt := 2) hx hb dX11_fact_72 (by decide) ?_
        exact ih156 (0, u195, g73, g74, g75, f76) H locs ls (by show (2 * (400 - u195.toInt) + (0 : Int32).toInt).toNat < (2 * (400 - g72.toInt) + g71.toInt).toNat; omega) ⟨hP, hD, hS, lv_sub hl [1, 2] rfl, by omega, by omega, by omega, by omega, by omega, by omega, by omega, (PG_to hr154 rfl (by omega) (by omega) (by omega)), (ent_le hr155 (by omega))⟩
      · skip
        have c230 := i_eq (Eq.refl u184.toInt) (show (91 : Int32).toInt = 91 by decide) c230
        refine lv_aload_n hx hb dX11_fact_49 rfl (lv_at hl 2 rfl) ?_
        refine lv_bipush (v := 91) hx hb dX11_fact_50 (by decide) ?_
        have zi91 : (91 : Int32).toInt = 91 := by decide
        refine cga (rn_V (As := [.int 91]) (rest := []) (b := o) (m_opens l D Y Z H.size o a (upd (upd (upd (upd I 16 u195) 17 g73) 21 g74) 24 g75) J (vf_upd F 23 f76) G  91 (show (0 ≤ u195.toInt ∧ u195.toInt ≤ 400) by omega) (show (0 ≤ g75.toInt ∧ g75.toInt ≤ 399) by omega) (show (0 ≤ g73.toInt ∧ g73.toInt ≤ 4000) by omega) (show (0 ≤ (91 : Int32).toInt ∧ (91 : Int32).toInt ≤ 100) by omega)) ⟨hx, hb, hml, hown, hg⟩ lk_X11_276 ⟨CP.blind, va_recv hKN.1 hP (ci := 11) (q0 := 0) rfl rfl, CP.at hP hKN hD⟩ ⟨⟨rfl, rfl⟩, ⟨Nat.le_of_ble_eq_true rfl, Nat.le_of_ble_eq_true rfl⟩, ⟨Nat.le_of_ble_eq_true rfl, Nat.le_of_ble_eq_true rfl⟩⟩ hl.1 rfl (Nat.le_of_ble_eq_true rfl) dX11_fact_52) hP hD hS hA (fun u231 H locs w232 hP hD hS => ?_)
        obtain ⟨u233, u234, u235, u236, f237⟩ := u231
        obtain ⟨hw238, hw239, hw240, hw241, hw242, hw243⟩ : (0 ≤ u234.toInt ∧ u234.toInt ≤ 4000) ∧ (u233.toInt = 1 → u236.toInt = g75.toInt + 1) ∧ (u233.toInt = 0 → 1 ≤ u234.toInt) ∧ (0 ≤ u236.toInt ∧ u236.toInt ≤ 400) ∧ (0 ≤ u233.toInt ∧ u233.toInt ≤ 1) ∧ (u233.toInt = 1 → f237 = upd f76 g75.toNatClampNeg 91) := w232
        refine W.eq (g2 := F0 m 55 ls [.int u233]) rfl ?_
        have hP : va_P D vwCl (MW Y o a (upd (upd (upd (upd I 16 u195) 17 u234) 21 u235) 24 u236) J (vf_upd F 23 f237) G) H := hP
        have hD : va_D A (MW Y o a (upd (upd (upd (upd I 16 u195) 17 u234) 21 u235) 24 u236) J (vf_upd F 23 f237) G) := hD
        rcases (show u233.toInt = 1 ∨ u233.toInt = 0 by omega) with c244 | c244
        · obtain rfl : u233 = 1 := i_is c244 (by decide)
          have zi1 : (1 : Int32).toInt = 1 := by decide
          replace hw239 := hw239 (by decide)
          clear hw240
          have t245q := hw243 (by decide)
          have t245n := nbo_push3 (m := u236.toInt.toNat) (i := g75) (v := 91) t245q (by omega) (by omega)
          have t245e := ent_p (m := u236.toInt.toNat) (i := g75) (v := 91) t245q hr155 (by omega) (by omega) (by omega)
          refine W.eq (g2 := F0 m 55 ls [.int 1]) rfl ?_
          refine lv_if_ne (tgt := 60) hx hb dX11_fact_55 (by decide) (fun c246 => ?_) (fun c246 => ?_)
          rotate_left
          · exact absurd c246 (by decide)
          refine lv_aload_n hx hb dX11_fact_60 rfl (lv_at hl 2 rfl) ?_
          refine lv_dup hx hb dX11_fact_61 rfl ?_
          refine va_get (D := D) (ci := 11) (v := .int u195) (C := RX11) (T := TX11) (N := 49) hx hb hg inGX11 hown hKN.1 hP 0 rfl rfl 16 (by decide) (hg _ kw_1224) (fun _ h9 => h9) rfl dX11_fact_62 ?_
          refine lv_iconst (v := 1) hx hb dX11_fact_65 (by decide) ?_
          refine lv_iadd hx hb dX11_fact_66 ?_
          refine lv_topi (fun v247 ev247 => ?_)
          have hv247 := i_add (Eq.refl u195.toInt) (show (1 : Int32).toInt = 1 by decide) ev247 (by omega) (by omega)
          refine va_put (D := D) (ci := 11) (v := .int v247) (ty := .int) (C := RX11) (T := TX11) (N := 49) hx hb hg inGX11 tyX11 tyX11_ok nmX11 hown hKN.1 hP hD hS 0 rfl rfl 16 (by decide) (hg _ kw_1224) (fun _ h9 => h9) rfl (by decide +kernel) rfl rfl (Nat.le_of_ble_eq_true rfl) dX11_fact_67 (fun H locs hP hD hS => ?_)
          have hP : va_P D vwCl (MW Y o a (upd (upd (upd (upd I 16 v247) 17 u234) 21 u235) 24 u236) J (vf_upd F 23 f237) G) H := hP
          have hD : va_D A (MW Y o a (upd (upd (upd (upd I 16 v247) 17 u234) 21 u235) 24 u236) J (vf_upd F 23 f237) G) := hD
          refine lv_iconst (v := 1) hx hb dX11_fact_70 (by decide) ?_
          refine lv_istore_n (lv' := [(1, .int 1), (2, .int u184), (0, .ref o)]) hx hb dX11_fact_71 rfl hl (by decide) rfl (fun ls hl => ?_)
          refine lv_goto (tgt := 2) hx hb dX11_fact_72 (by decide) ?_
          exact ih156 (1, v247, u234, u235, u236, f237) H locs ls (by show (2 * (400 - v247.toInt) + (1 : Int32).toInt).toNat < (2 * (400 - g72.toInt) + g71.toInt).toNat; omega) ⟨hP, hD, hS, lv_sub hl [0, 2] rfl, by omega, by omega, by omega, by omega, by omega, by omega, by omega, (PG_to hr154 rfl (by omega) (by omega) (by omega)), (ent_le t245e (by omega))⟩
        · obtain rfl : u233 = 0 := i_is c244 (by decide)
          clear hw239
          replace hw240 := hw240 (by decide)
          refine W.eq (g2 := F0 m 55 ls [.int 0]) rfl ?_
          refine lv_if_ne (tgt := 60) hx hb dX11_fact_55 (by decide) (fun c248 => ?_) (fun c248 => ?_)
          · exact absurd c248 (by decide)
          refine lv_iconst (v := 0) hx hb dX11_fact_58 (by decide) ?_
          refine W.widen (k := 0) (n := 0) (Nat.le_of_ble_eq_true rfl) (Nat.le_of_ble_eq_true rfl) ?_
          exact W.zret (v := 0) hx hb hr (by decide) (fun t ht hW => ⟨⟨(0, u195, u234, (I 18), (I 20), u235, u236, (F 5), (F 6), f237), rfl, ⟨(show (0 ≤ u195.toInt ∧ u195.toInt ≤ 400) by omega), (show ((I 16).toInt ≤ u195.toInt) by omega), (show (u195.toInt ≤ (I 3).toInt) by omega), (show (0 ≤ u234.toInt ∧ u234.toInt ≤ 4000) by omega), (show (0 ≤ (I 20).toInt ∧ (I 20).toInt ≤ 60) by omega), (show ((I 20).toInt ≤ (I 20).toInt) by omega), (show (0 ≤ (0 : Int32).toInt ∧ (0 : Int32).toInt ≤ 1) by omega), (show ((0 : Int32).toInt = 0 → 1 ≤ u234.toInt) by omega), (show (0 ≤ u236.toInt ∧ u236.toInt ≤ 400) by omega), (show ((0 : Int32).toInt = 1 → ((F 6) (I 19).toNatClampNeg).toInt + u236.toInt ≤ u195.toInt) by omega), (show ((0 : Int32).toInt = 1 → PSg (F 4) (F 8) (F 7) (F 5) (F 6) gs (I 19).toNatClampNeg gb (nbo f237 (u236.toInt).toNat + 1) ((I 20).toInt).toNat) from (fun h => absurd h (by decide))), (show ((0 : Int32).toInt = 1 → ent f237 (u236.toInt).toNat) from (fun h => absurd h (by decide))), (show TC (F 4) (F 8) (F 7) (F 5) from (PG_tc hr154))⟩, CB.mk ht hP hD⟩, hS.F ht⟩) hS.2.2 dX11_fact_59
set_option maxHeartbeats 4000000 in
set_option maxRecDepth 100000 in
theorem m_tested (l : Launch) (D : va_G) (Y : Nat → ClassId) (Z : Nat → Nat) (sz : Nat) (o : Nat) (a : Nat → Nat) (I : Nat → Int32) (J : Nat → Int64) (F : Nat → Nat → Int32) (G : Nat → Nat → Int64) (gs : Nat → Int32) (gb : Nat) (hk_0 : (0 ≤ (I 16).toInt ∧ (I 16).toInt ≤ 400)) (hk_1 : (0 ≤ (I 3).toInt ∧ (I 3).toInt ≤ 400)) (hk_2 : ((I 16).toInt ≤ (I 3).toInt)) (hk_3 : (0 ≤ (I 17).toInt ∧ (I 17).toInt ≤ 4000)) (hk_4 : (0 ≤ (I 20).toInt ∧ (I 20).toInt ≤ 60)) (hk_5 : (0 ≤ (I 19).toInt ∧ (I 19).toInt ≤ 17)) (hk_6 : (((F 6) (I 19).toNatClampNeg).toInt ≤ (I 16).toInt)) (hr_PS : PSg (F 4) (F 8) (F 7) (F 5) (F 6) gs (I 19).toNatClampNeg gb (0) ((I 20).toInt).toNat) : Met l yX11_tested (.code yX11_tested cX11_tested 3 (some .boolean) :: GW) ({ frames := 8, cells := 0, slots := 0, locals := 176 }) (va_Pc [.ref o] (CP D Y Z (MW Y o a I J F G) sz)) (QG (S := Int32 × Int32 × Int32 × Int32 × Int32 × Int32 × Int32 × (Nat → Int32) × (Nat → Int32) × (Nat → Int32)) (fun u => some (.int u.1)) (fun u => (0 ≤ u.2.1.toInt ∧ u.2.1.toInt ≤ 400) ∧ ((I 16).toInt ≤ u.2.1.toInt) ∧ (u.2.1.toInt ≤ (I 3).toInt) ∧ (0 ≤ u.2.2.1.toInt ∧ u.2.2.1.toInt ≤ 4000) ∧ (0 ≤ u.2.2.2.2.1.toInt ∧ u.2.2.2.2.1.toInt ≤ 60) ∧ ((I 20).toInt ≤ u.2.2.2.2.1.toInt) ∧ (0 ≤ u.1.toInt ∧ u.1.toInt ≤ 1) ∧ (u.1.toInt = 0 → 1 ≤ u.2.2.1.toInt) ∧ (u.1.toInt = 1 → (u.2.2.2.2.2.2.2.2.1 (I 19).toNatClampNeg).toInt ≤ u.2.1.toInt) ∧ (u.1.toInt = 1 → PSg (F 4) (F 8) (F 7) u.2.2.2.2.2.2.2.1 u.2.2.2.2.2.2.2.2.1 gs (I 19).toNatClampNeg gb (1) (u.2.2.2.2.1.toInt).toNat) ∧ TC (F 4) (F 8) (F 7) u.2.2.2.2.2.2.2.1) (fun u => CB D (MW Y o a (upd (upd (upd (upd (upd (upd I 16 u.2.1) 17 u.2.2.1) 18 u.2.2.2.1) 20 u.2.2.2.2.1) 21 u.2.2.2.2.2.1) 24 u.2.2.2.2.2.2.1) J (vf_upd (vf_upd (vf_upd F 5 u.2.2.2.2.2.2.2.1) 6 u.2.2.2.2.2.2.2.2.1) 23 u.2.2.2.2.2.2.2.2.2) G) (va_A (MW Y o a I J F G) sz)) (va_A (MW Y o a I J F G) sz)) 0 0 (va_A (MW Y o a I J F G) sz) := by
  refine Met.ofW (cc := cX11_tested) (maxL := 3) (ret := (some .boolean)) (by decide) rfl ?_
  intro p e s m args below meth c s₁ B hml hv
  obtain ⟨rfl, hsz, hP, hKN, hD0⟩ := hv
  have hx := B.exec
  have hb := B.bytes
  have hr := B.returns
  have hts := atoms_spec (ws := .code yX11_tested cX11_tested 3 (some .boolean) :: GW) B.pre
  have hg : ∀ w ∈ GW, w.before _ s = true := fun w h => hts w (List.mem_cons_of_mem _ h)
  have hown : s.vm.findClass RX11 = some m.cls := findClass_of_methodNamed B.named
  have hlocks := B.notSynchronized
  subst hsz
  have hD := hD0.self (sz := s.heap.size)
  generalize hAe : va_A (MW Y o a I J F G) s.heap.size = A at hD ⊢
  have hA : ∀ q : Nat, s.heap.size ≤ q → A q := fun q h => by rw [← hAe]; exact Or.inr h
  clear hAe hD0 hts B
  have hl := lv_entry ([.ref o]) (n := 3) (Nat.le_of_ble_eq_true rfl)
  rw [lg_entry_eq]
  generalize (lg_sl ([.ref o]) ++ List.replicate (3 - (lg_sl ([.ref o])).length) Slot.unset).toArray = ls at hl ⊢
  have hl : lv_has ls 3 [(0, .ref o)] := hl
  refine w_start (A0 := A) hP (fun H locs hP hS => ?_)
  refine lv_aload_n hx hb dX11_tested_0 rfl (lv_at hl 0 rfl) ?_
  refine lv_iconst (v := 0) hx hb dX11_tested_1 (by decide) ?_
  refine va_put (D := D) (ci := 11) (v := .int 0) (ty := .int) (C := RX11) (T := TX11) (N := 49) hx hb hg inGX11 tyX11 tyX11_ok nmX11 hown hKN.1 hP hD hS 0 rfl rfl 24 (by decide) (hg _ kw_1232) (fun _ h9 => h9) rfl (by decide +kernel) rfl rfl (Nat.le_of_ble_eq_true rfl) dX11_tested_2 (fun H locs hP hD hS => ?_)
  have hP : va_P D vwCl (MW Y o a (upd I 24 0) J F G) H := hP
  have hD : va_D A (MW Y o a (upd I 24 0) J F G) := hD
  refine lv_aload_n hx hb dX11_tested_5 rfl (lv_at hl 0 rfl) ?_
  refine lv_iconst (v := 0) hx hb dX11_tested_6 (by decide) ?_
  refine va_put (D := D) (ci := 11) (v := .int 0) (ty := .int) (C := RX11) (T := TX11) (N := 49) hx hb hg inGX11 tyX11 tyX11_ok nmX11 hown hKN.1 hP hD hS 0 rfl rfl 21 (by decide) (hg _ kw_1229) (fun _ h9 => h9) rfl (by decide +kernel) rfl rfl (Nat.le_of_ble_eq_true rfl) dX11_tested_7 (fun H locs hP hD hS => ?_)
  have hP : va_P D vwCl (MW Y o a (upd (upd I 21 0) 24 0) J F G) H := hP
  have hD : va_D A (MW Y o a (upd (upd I 21 0) 24 0) J F G) := hD
  refine lv_iconst (v := 1) hx hb dX11_tested_10 (by decide) ?_
  have t1 : nbo (F 23) ((0 : Int32).toInt).toNat = 0 := rfl
  refine lv_istore_n (lv' := [(1, .int 1), (0, .ref o)]) hx hb dX11_tested_11 rfl hl (by decide) rfl (fun ls hl => ?_)
  have zi1 : (1 : Int32).toInt = 1 := by decide
  have zi0 : (0 : Int32).toInt = 0 := by decide
  refine w_loop (σ := Int32 × Int32 × Int32 × Int32 × Int32 × Int32 × Int32 × (Nat → Int32) × (Nat → Int32) × (Nat → Int32)) (fun xx H locs ls => match xx with | (g218, g219, g220, g221, g222, g223, g224, f225, f226, f227) => va_P D vwCl (MW Y o a (upd (upd (upd (upd (upd (upd I 16 g219) 17 g220) 18 g221) 20 g222) 21 g223) 24 g224) J (vf_upd (vf_upd (vf_upd F 5 f225) 6 f226) 23 f227) G) H ∧ va_D A (MW Y o a (upd (upd (upd (upd (upd (upd I 16 g219) 17 g220) 18 g221) 20 g222) 21 g223) 24 g224) J (vf_upd (vf_upd (vf_upd F 5 f225) 6 f226) 23 f227) G) ∧ va_S A s.heap H locs ∧ lv_has ls 3 [(1, .int g218), (0, .ref o)] ∧ (0 ≤ g218.toInt ∧ g218.toInt ≤ 1) ∧ (0 ≤ g219.toInt ∧ g219.toInt ≤ 400) ∧ (g219.toInt ≤ (I 3).toInt) ∧ ((I 16).toInt ≤ g219.toInt) ∧ (0 ≤ g220.toInt ∧ g220.toInt ≤ 4000) ∧ (0 ≤ g222.toInt ∧ g222.toInt ≤ 60) ∧ ((I 20).toInt ≤ g222.toInt) ∧ (0 ≤ g224.toInt ∧ g224.toInt ≤ 400) ∧ ((f226 (I 19).toNatClampNeg).toInt + g224.toInt ≤ g219.toInt) ∧ PSg (F 4) (F 8) (F 7) f225 f226 gs (I 19).toNatClampNeg gb (nbo f227 (g224.toInt).toNat + (1 - (g218.toInt).toNat)) (g222.toInt).toNat ∧ ent f227 (g224.toInt).toNat) (fun xx => match xx with | (g218, g219, g220, g221, g222, g223, g224, f225, f226, f227) => (2 * (400 - g219.toInt) + g218.toInt).toNat) (1, (I 16), (I 17), (I 18), (I 20), 0, 0, (F 5), (F 6), (F 23)) ⟨hP, hD, hS, lv_sub hl [0, 1] rfl, by omega, by omega, by omega, by omega, by omega, by omega, by omega, by omega, by omega, (PG_to hr_PS rfl (by omega) (by omega) (by omega)), (fun k h => absurd h (Nat.not_lt_zero k))⟩ (fun xx H locs ls hI ih => ?_)
  obtain ⟨g218, g219, g220, g221, g222, g223, g224, f225, f226, f227⟩ := xx
  obtain ⟨hP, hD, hS, hl, hq444, hq445, hq446, hq447, hq448, hq449, hq450, hq451, hq452, hr453, hr454⟩ := hI
  have ih455 := ih
  refine lv_iload_n hx hb dX11_tested_12 rfl (lv_at hl 0 rfl) ?_
  refine lv_if_eq (tgt := 112) hx hb dX11_tested_13 (by decide) (fun c456 => ?_) (fun c456 => ?_)
  · skip
    have c456 := i_eq (Eq.refl g218.toInt) (show (0 : Int32).toInt = 0 by decide) c456
    refine lv_aload_n hx hb dX11_tested_112 rfl (lv_at hl 1 rfl) ?_
    refine cga (rn_V (As := []) (rest := []) (b := o) (m_isInside l D Y Z H.size o a (upd (upd (upd (upd (upd (upd I 16 g219) 17 g220) 18 g221) 20 g222) 21 g223) 24 g224) J (vf_upd (vf_upd (vf_upd F 5 f225) 6 f226) 23 f227) G   (show (0 ≤ g224.toInt ∧ g224.toInt ≤ 400) by omega)) ⟨hx, hb, hml, hown, hg⟩ lk_X11_285 ⟨CP.blind, va_recv hKN.1 hP (ci := 11) (q0 := 0) rfl rfl, CP.at hP hKN hD⟩ ⟨⟨rfl, rfl⟩, ⟨Nat.le_of_ble_eq_true rfl, Nat.le_of_ble_eq_true rfl⟩, ⟨Nat.le_of_ble_eq_true rfl, Nat.le_of_ble_eq_true rfl⟩⟩ hl.1 rfl (Nat.le_of_ble_eq_true rfl) dX11_tested_113) hP hD hS hA (fun u457 H locs w458 hP hD hS => ?_)
    obtain ⟨hw460, hw461, hw462⟩ : (0 ≤ u457.toInt ∧ u457.toInt ≤ 1) ∧ (u457.toInt = 1 → ∃ k : Nat, (k : Int) < g224.toInt ∧ (f227 k).toInt = 91) ∧ (u457.toInt = 0 → ∀ k : Nat, (k : Int) < g224.toInt → (f227 k).toInt ≠ 91) := w458
    refine W.eq (g2 := F0 m 116 ls [.int u457]) rfl ?_
    have hP : va_P D vwCl (MW Y o a (upd (upd (upd (upd (upd (upd I 16 g219) 17 g220) 18 g221) 20 g222) 21 g223) 24 g224) J (vf_upd (vf_upd (vf_upd F 5 f225) 6 f226) 23 f227) G) H := hP
    have hD : va_D A (MW Y o a (upd (upd (upd (upd (upd (upd I 16 g219) 17 g220) 18 g221) 20 g222) 21 g223) 24 g224) J (vf_upd (vf_upd (vf_upd F 5 f225) 6 f226) 23 f227) G) := hD
    rcases (show u457.toInt = 1 ∨ u457.toInt = 0 by omega) with c463 | c463
    · obtain rfl : u457 = 1 := i_is c463 (by decide)
      have zi1 : (1 : Int32).toInt = 1 := by decide
      obtain ⟨t464k, t4641, t4642⟩ := hw461 (by decide)
      clear hw461
      clear hw462
      refine W.eq (g2 := F0 m 116 ls [.int 1]) rfl ?_
      refine lv_if_eq (tgt := 134) hx hb dX11_tested_116 (by decide) (fun c465 => ?_) (fun c465 => ?_)
      · exact absurd c465 (by decide)
      refine lv_aload_n hx hb dX11_tested_119 rfl (lv_at hl 1 rfl) ?_
      refine cga (rn_V (As := []) (rest := []) (b := o) (m_seeI l D Y Z H.size o a (upd (upd (upd (upd (upd (upd I 16 g219) 17 g220) 18 g221) 20 g222) 21 g223) 24 g224) J (vf_upd (vf_upd (vf_upd F 5 f225) 6 f226) 23 f227) G   (show (0 ≤ g219.toInt ∧ g219.toInt ≤ 400) by omega) (show (0 ≤ (I 3).toInt ∧ (I 3).toInt ≤ 400) by omega) (show (g219.toInt ≤ (I 3).toInt) by omega)) ⟨hx, hb, hml, hown, hg⟩ lk_X11_183 ⟨CP.blind, va_recv hKN.1 hP (ci := 11) (q0 := 0) rfl rfl, CP.at hP hKN hD⟩ ⟨⟨rfl, rfl⟩, ⟨Nat.le_of_ble_eq_true rfl, Nat.le_of_ble_eq_true rfl⟩, ⟨Nat.le_of_ble_eq_true rfl, Nat.le_of_ble_eq_true rfl⟩⟩ hl.1 rfl (Nat.le_of_ble_eq_true rfl) dX11_tested_120) hP hD hS hA (fun u466 H locs w467 hP hD hS => ?_)
      obtain ⟨u468, u469⟩ := u466
      obtain ⟨hw470, hw471, hw472, hw473, hw474, hw475⟩ : (0 ≤ u469.toInt ∧ u469.toInt ≤ 400) ∧ (g219.toInt ≤ u469.toInt) ∧ (u469.toInt ≤ (I 3).toInt) ∧ ((u468.toInt = -1 ∧ u469.toInt = (I 3).toInt) ∨ (0 ≤ u468.toInt ∧ u468.toInt ≤ 255 ∧ u469.toInt < (I 3).toInt ∧ ((F 2) u469.toNatClampNeg).toInt ≠ 32)) ∧ (-1 ≤ u468.toInt ∧ u468.toInt ≤ 255) ∧ ((g219.toInt < (I 3).toInt ∧ ((F 2) g219.toNatClampNeg).toInt ≠ 32) → u469.toInt = g219.toInt) := w467
      refine W.eq (g2 := F0 m 123 ls [.int u468]) rfl ?_
      have hP : va_P D vwCl (MW Y o a (upd (upd (upd (upd (upd (upd I 16 u469) 17 g220) 18 g221) 20 g222) 21 g223) 24 g224) J (vf_upd (vf_upd (vf_upd F 5 f225) 6 f226) 23 f227) G) H := hP
      have hD : va_D A (MW Y o a (upd (upd (upd (upd (upd (upd I 16 u469) 17 g220) 18 g221) 20 g222) 21 g223) 24 g224) J (vf_upd (vf_upd (vf_upd F 5 f225) 6 f226) 23 f227) G) := hD
      refine lv_pop hx hb dX11_tested_123 rfl ?_
      refine lv_aload_n hx hb dX11_tested_124 rfl (lv_at hl 1 rfl) ?_
      refine lv_iconst (v := 0) hx hb dX11_tested_125 (by decide) ?_
      refine lv_aload_n hx hb dX11_tested_126 rfl (lv_at hl 1 rfl) ?_
      refine va_get (D := D) (ci := 11) (v := .int u469) (C := RX11) (T := TX11) (N := 49) hx hb hg inGX11 hown hKN.1 hP 0 rfl rfl 16 (by decide) (hg _ kw_1224) (fun _ h9 => h9) rfl dX11_tested_127 ?_
      have zi0 : (0 : Int32).toInt = 0 := by decide
      refine cga (rn_V (As := [.int 0, .int u469]) (rest := []) (b := o) (m_fails l D Y Z H.size o a (upd (upd (upd (upd (upd (upd I 16 u469) 17 g220) 18 g221) 20 g222) 21 g223) 24 g224) J (vf_upd (vf_upd (vf_upd F 5 f225) 6 f226) 23 f227) G  0 u469 (show (0 ≤ (0 : Int32).toInt ∧ (0 : Int32).toInt ≤ 4) by omega) (show (0 ≤ u469.toInt ∧ u469.toInt ≤ 400) by omega) (show (0 ≤ g220.toInt ∧ g220.toInt ≤ 4000) by omega)) ⟨hx, hb, hml, hown, hg⟩ lk_X11_200 ⟨CP.blind, va_recv hKN.1 hP (ci := 11) (q0 := 0) rfl rfl, CP.at hP hKN hD⟩ ⟨⟨rfl, rfl⟩, ⟨Nat.le_of_ble_eq_true rfl, Nat.le_of_ble_eq_true rfl⟩, ⟨Nat.le_of_ble_eq_true rfl, Nat.le_of_ble_eq_true rfl⟩⟩ hl.1 rfl (Nat.le_of_ble_eq_true rfl) dX11_tested_130) hP hD hS hA (fun u476 H locs w477 hP hD hS => ?_)
      obtain ⟨u478, u479⟩ := u476
      obtain ⟨hw480, hw481⟩ : (u478.toInt = 0) ∧ (1 ≤ u479.toInt ∧ u479.toInt ≤ 4000) := w477
      refine W.eq (g2 := F0 m 133 ls [.int u478]) rfl ?_
      have hP : va_P D vwCl (MW Y o a (upd (upd (upd (upd (upd (upd I 16 u469) 17 u479) 18 g221) 20 g222) 21 g223) 24 g224) J (vf_upd (vf_upd (vf_upd F 5 f225) 6 f226) 23 f227) G) H := hP
      have hD : va_D A (MW Y o a (upd (upd (upd (upd (upd (upd I 16 u469) 17 u479) 18 g221) 20 g222) 21 g223) 24 g224) J (vf_upd (vf_upd (vf_upd F 5 f225) 6 f226) 23 f227) G) := hD
      obtain rfl : u478 = 0 := i_is (X := 0) (by omega) (by decide)
      refine W.eq (g2 := F0 m 133 ls [.int 0]) rfl ?_
      refine W.widen (k := 0) (n := 0) (Nat.le_of_ble_eq_true rfl) (Nat.le_of_ble_eq_true rfl) ?_
      exact W.zret (v := 0) hx hb hr (by decide) (fun t ht hW => ⟨⟨(0, u469, u479, g221, g222, g223, g224, f225, f226, f227), rfl, ⟨(show (0 ≤ u469.toInt ∧ u469.toInt ≤ 400) by omega), (show ((I 16).toInt ≤ u469.toInt) by omega), (show (u469.toInt ≤ (I 3).toInt) by omega), (show (0 ≤ u479.toInt ∧ u479.toInt ≤ 4000) by omega), (show (0 ≤ g222.toInt ∧ g222.toInt ≤ 60) by omega), (show ((I 20).toInt ≤ g222.toInt) by omega), (show (0 ≤ (0 : Int32).toInt ∧ (0 : Int32).toInt ≤ 1) by omega), (show ((0 : Int32).toInt = 0 → 1 ≤ u479.toInt) by omega), (show ((0 : Int32).toInt = 1 → (f226 (I 19).toNatClampNeg).toInt ≤ u469.toInt) by omega), (show ((0 : Int32).toInt = 1 → PSg (F 4) (F 8) (F 7) f225 f226 gs (I 19).toNatClampNeg gb (1) (g222.toInt).toNat) from (fun h => absurd h (by decide))), (show TC (F 4) (F 8) (F 7) f225 from (PG_tc hr453))⟩, CB.mk ht hP hD⟩, hS.F ht⟩) hS.2.2 dX11_tested_133
    · obtain rfl : u457 = 0 := i_is c463 (by decide)
      have zi0 : (0 : Int32).toInt = 0 := by decide
      replace hw462 := hw462 (by decide)
      clear hw461
      refine W.eq (g2 := F0 m 116 ls [.int 0]) rfl ?_
      refine lv_if_eq (tgt := 134) hx hb dX11_tested_116 (by decide) (fun c482 => ?_) (fun c482 => ?_)
      rotate_left
      · exact absurd c482 (by decide)
      refine lv_aload_n hx hb dX11_tested_134 rfl (lv_at hl 1 rfl) ?_
      refine lv_iconst (v := 1) hx hb dX11_tested_135 (by decide) ?_
      have zi1 : (1 : Int32).toInt = 1 := by decide
      refine cga (rn_V (As := [.int 1]) (rest := []) (b := o) (m_settles l D Y Z H.size o a (upd (upd (upd (upd (upd (upd I 16 g219) 17 g220) 18 g221) 20 g222) 21 g223) 24 g224) J (vf_upd (vf_upd (vf_upd F 5 f225) 6 f226) 23 f227) G gs gb 1 (show (0 ≤ (I 19).toInt ∧ (I 19).toInt ≤ 17) by omega) (show (1 ≤ (1 : Int32).toInt ∧ (1 : Int32).toInt ≤ 3) by omega) (show (0 ≤ g224.toInt ∧ g224.toInt ≤ 400) by omega) (show (0 ≤ g222.toInt ∧ g222.toInt ≤ 60) by omega) (show ((f226 (I 19).toNatClampNeg).toInt + g224.toInt ≤ 400) by omega) (show PSg (F 4) (F 8) (F 7) f225 f226 gs (I 19).toNatClampNeg gb (nbo f227 (g224.toInt).toNat + 1) (g222.toInt).toNat from (PG_to hr453 rfl (by omega) (by omega) (by omega))) (show ent f227 (g224.toInt).toNat from (ent_le hr454 (by omega)))) ⟨hx, hb, hml, hown, hg⟩ lk_X11_282 ⟨CP.blind, va_recv hKN.1 hP (ci := 11) (q0 := 0) rfl rfl, CP.at hP hKN hD⟩ ⟨⟨rfl, rfl⟩, ⟨Nat.le_of_ble_eq_true rfl, Nat.le_of_ble_eq_true rfl⟩, ⟨Nat.le_of_ble_eq_true rfl, Nat.le_of_ble_eq_true rfl⟩⟩ hl.1 rfl (Nat.le_of_ble_eq_true rfl) dX11_tested_136) hP hD hS hA (fun u483 H locs w484 hP hD hS => ?_)
      obtain ⟨u485, u486, f487, f488⟩ := u483
      obtain ⟨hw489, hw490, hw491, hw492, hw493, hw494⟩ : (0 ≤ u485.toInt ∧ u485.toInt ≤ 400) ∧ (u485.toInt ≤ g224.toInt) ∧ ((f488 (I 19).toNatClampNeg).toInt + u485.toInt = (f226 (I 19).toNatClampNeg).toInt + g224.toInt) ∧ PSg (F 4) (F 8) (F 7) f487 f488 gs (I 19).toNatClampNeg gb (nbo f227 (u485.toInt).toNat + 1) (g222.toInt).toNat ∧ (∀ k : Nat, (k : Int) < g224.toInt → (f227 k).toInt = 91 → (k : Int) < u485.toInt) ∧ ((1 : Int32).toInt = 1 → (u485.toInt = 0 ∨ (f227 (u485.toInt - 1).toNat).toInt = 91)) := w484
      refine W.eq (g2 := F0 m 139 ls []) rfl ?_
      have hP : va_P D vwCl (MW Y o a (upd (upd (upd (upd (upd (upd I 16 g219) 17 g220) 18 g221) 20 g222) 21 u486) 24 u485) J (vf_upd (vf_upd (vf_upd F 5 f487) 6 f488) 23 f227) G) H := hP
      have hD : va_D A (MW Y o a (upd (upd (upd (upd (upd (upd I 16 g219) 17 g220) 18 g221) 20 g222) 21 u486) 24 u485) J (vf_upd (vf_upd (vf_upd F 5 f487) 6 f488) 23 f227) G) := hD
      have t495 := br_no (j := u485.toInt) hw462 (by omega) (by omega) (hw494 (by decide))
      have t495n : nbo f227 u485.toInt.toNat = 0 := by rw [show u485.toInt.toNat = 0 by omega]; rfl
      refine lv_iconst (v := 1) hx hb dX11_tested_139 (by decide) ?_
      refine W.widen (k := 0) (n := 0) (Nat.le_of_ble_eq_true rfl) (Nat.le_of_ble_eq_true rfl) ?_
      exact W.zret (v := 1) hx hb hr (by decide) (fun t ht hW => ⟨⟨(1, g219, g220, g221, g222, u486, u485, f487, f488, f227), rfl, ⟨(show (0 ≤ g219.toInt ∧ g219.toInt ≤ 400) by omega), (show ((I 16).toInt ≤ g219.toInt) by omega), (show (g219.toInt ≤ (I 3).toInt) by omega), (show (0 ≤ g220.toInt ∧ g220.toInt ≤ 4000) by omega), (show (0 ≤ g222.toInt ∧ g222.toInt ≤ 60) by omega), (show ((I 20).toInt ≤ g222.toInt) by omega), (show (0 ≤ (1 : Int32).toInt ∧ (1 : Int32).toInt ≤ 1) by omega), (show ((1 : Int32).toInt = 0 → 1 ≤ g220.toInt) by omega), (show ((1 : Int32).toInt = 1 → (f488 (I 19).toNatClampNeg).toInt ≤ g219.toInt) by omega), (show ((1 : Int32).toInt = 1 → PSg (F 4) (F 8) (F 7) f487 f488 gs (I 19).toNatClampNeg gb (1) (g222.toInt).toNat) from (fun _ => (PG_to hw492 rfl (by omega) (by omega) (by omega)))), (show TC (F 4) (F 8) (F 7) f487 from (PG_tc hw492))⟩, CB.mk ht hP hD⟩, hS.F ht⟩) hS.2.2 dX11_tested_140
  · skip
    have c456 := i_ne (Eq.refl g218.toInt) (show (0 : Int32).toInt = 0 by decide) c456
    refine lv_aload_n hx hb dX11_tested_16 rfl (lv_at hl 1 rfl) ?_
    refine cga (rn_V (As := []) (rest := []) (b := o) (m_fact l D Y Z H.size o a (upd (upd (upd (upd (upd (upd I 16 g219) 17 g220) 18 g221) 20 g222) 21 g223) 24 g224) J (vf_upd (vf_upd (vf_upd F 5 f225) 6 f226) 23 f227) G gs gb  (show (0 ≤ g219.toInt ∧ g219.toInt ≤ 400) by omega) (show (0 ≤ (I 3).toInt ∧ (I 3).toInt ≤ 400) by omega) (show (g219.toInt ≤ (I 3).toInt) by omega) (show (0 ≤ g220.toInt ∧ g220.toInt ≤ 4000) by omega) (show (0 ≤ g222.toInt ∧ g222.toInt ≤ 60) by omega) (show (0 ≤ (I 19).toInt ∧ (I 19).toInt ≤ 17) by omega) (show (0 ≤ g224.toInt ∧ g224.toInt ≤ 400) by omega) (show ((f226 (I 19).toNatClampNeg).toInt + g224.toInt ≤ g219.toInt) by omega) (show PSg (F 4) (F 8) (F 7) f225 f226 gs (I 19).toNatClampNeg gb (nbo f227 (g224.toInt).toNat + 0) (g222.toInt).toNat from (PG_to hr453 rfl (by omega) (by omega) (by omega))) (show ent f227 (g224.toInt).toNat from (ent_le hr454 (by omega)))) ⟨hx, hb, hml, hown, hg⟩ lk_X11_288 ⟨CP.blind, va_recv hKN.1 hP (ci := 11) (q0 := 0) rfl rfl, CP.at hP hKN hD⟩ ⟨⟨rfl, rfl⟩, ⟨Nat.le_of_ble_eq_true rfl, Nat.le_of_ble_eq_true rfl⟩, ⟨Nat.le_of_ble_eq_true rfl, Nat.le_of_ble_eq_true rfl⟩⟩ hl.1 rfl (Nat.le_of_ble_eq_true rfl) dX11_tested_17) hP hD hS hA (fun u496 H locs w497 hP hD hS => ?_)
    obtain ⟨u498, u499, u500, u501, u502, u503, u504, f505, f506, f507⟩ := u496
    obtain ⟨hw508, hw509, hw510, hw511, hw512, hw513, hw514, hw515, hw516, hw517, hw518, hw519, hw520⟩ : (0 ≤ u499.toInt ∧ u499.toInt ≤ 400) ∧ (g219.toInt ≤ u499.toInt) ∧ (u499.toInt ≤ (I 3).toInt) ∧ (0 ≤ u500.toInt ∧ u500.toInt ≤ 4000) ∧ (0 ≤ u502.toInt ∧ u502.toInt ≤ 60) ∧ (g222.toInt ≤ u502.toInt) ∧ (0 ≤ u498.toInt ∧ u498.toInt ≤ 1) ∧ (u498.toInt = 0 → 1 ≤ u500.toInt) ∧ (0 ≤ u504.toInt ∧ u504.toInt ≤ 400) ∧ (u498.toInt = 1 → (f506 (I 19).toNatClampNeg).toInt + u504.toInt ≤ u499.toInt) ∧ (u498.toInt = 1 → PSg (F 4) (F 8) (F 7) f505 f506 gs (I 19).toNatClampNeg gb (nbo f507 (u504.toInt).toNat + 1) (u502.toInt).toNat) ∧ (u498.toInt = 1 → ent f507 (u504.toInt).toNat) ∧ TC (F 4) (F 8) (F 7) f505 := w497
    refine W.eq (g2 := F0 m 20 ls [.int u498]) rfl ?_
    have hP : va_P D vwCl (MW Y o a (upd (upd (upd (upd (upd (upd I 16 u499) 17 u500) 18 u501) 20 u502) 21 u503) 24 u504) J (vf_upd (vf_upd (vf_upd F 5 f505) 6 f506) 23 f507) G) H := hP
    have hD : va_D A (MW Y o a (upd (upd (upd (upd (upd (upd I 16 u499) 17 u500) 18 u501) 20 u502) 21 u503) 24 u504) J (vf_upd (vf_upd (vf_upd F 5 f505) 6 f506) 23 f507) G) := hD
    rcases (show u498.toInt = 1 ∨ u498.toInt = 0 by omega) with c521 | c521
    · obtain rfl : u498 = 1 := i_is c521 (by decide)
      have zi1 : (1 : Int32).toInt = 1 := by decide
      clear hw515
      replace hw517 := hw517 (by decide)
      have t522 := hw518 (by decide)
      have t522l := PG_len t522
      have t522d := PG_dep t522
      have t523 := hw519 (by decide)
      refine W.eq (g2 := F0 m 20 ls [.int 1]) rfl ?_
      refine lv_if_ne (tgt := 25) hx hb dX11_tested_20 (by decide) (fun c524 => ?_) (fun c524 => ?_)
      rotate_left
      · exact absurd c524 (by decide)
      refine lv_aload_n hx hb dX11_tested_25 rfl (lv_at hl 1 rfl) ?_
      refine cga (rn_V (As := []) (rest := []) (b := o) (m_closes l D Y Z H.size o a (upd (upd (upd (upd (upd (upd I 16 u499) 17 u500) 18 u501) 20 u502) 21 u503) 24 u504) J (vf_upd (vf_upd (vf_upd F 5 f505) 6 f506) 23 f507) G gs gb  (show (0 ≤ u499.toInt ∧ u499.toInt ≤ 400) by omega) (show (0 ≤ (I 3).toInt ∧ (I 3).toInt ≤ 400) by omega) (show (u499.toInt ≤ (I 3).toInt) by omega) (show (0 ≤ u502.toInt ∧ u502.toInt ≤ 60) by omega) (show (0 ≤ (I 19).toInt ∧ (I 19).toInt ≤ 17) by omega) (show (0 ≤ u504.toInt ∧ u504.toInt ≤ 400) by omega) (show ((f506 (I 19).toNatClampNeg).toInt + u504.toInt ≤ u499.toInt) by omega) (show PSg (F 4) (F 8) (F 7) f505 f506 gs (I 19).toNatClampNeg gb (nbo f507 (u504.toInt).toNat + 1) (u502.toInt).toNat from (PG_to t522 rfl (by omega) (by omega) (by omega))) (show ent f507 (u504.toInt).toNat from (ent_le t523 (by omega)))) ⟨hx, hb, hml, hown, hg⟩ lk_X11_291 ⟨CP.blind, va_recv hKN.1 hP (ci := 11) (q0 := 0) rfl rfl, CP.at hP hKN hD⟩ ⟨⟨rfl, rfl⟩, ⟨Nat.le_of_ble_eq_true rfl, Nat.le_of_ble_eq_true rfl⟩, ⟨Nat.le_of_ble_eq_true rfl, Nat.le_of_ble_eq_true rfl⟩⟩ hl.1 rfl (Nat.le_of_ble_eq_true rfl) dX11_tested_26) hP hD hS hA (fun u525 H locs w526 hP hD hS => ?_)
      obtain ⟨u527, u528, u529, f530, f531⟩ := u525
      obtain ⟨hw532, hw533, hw534, hw535, hw536, hw537, hw538⟩ : (0 ≤ u527.toInt ∧ u527.toInt ≤ 400) ∧ (u499.toInt ≤ u527.toInt) ∧ (u527.toInt ≤ (I 3).toInt) ∧ (0 ≤ u528.toInt ∧ u528.toInt ≤ 400) ∧ (u528.toInt ≤ u504.toInt) ∧ ((f531 (I 19).toNatClampNeg).toInt + u528.toInt ≤ u527.toInt) ∧ PSg (F 4) (F 8) (F 7) f530 f531 gs (I 19).toNatClampNeg gb (nbo f507 (u528.toInt).toNat + 1) (u502.toInt).toNat := w526
      refine W.eq (g2 := F0 m 29 ls []) rfl ?_
      have hP : va_P D vwCl (MW Y o a (upd (upd (upd (upd (upd (upd I 16 u527) 17 u500) 18 u501) 20 u502) 21 u529) 24 u528) J (vf_upd (vf_upd (vf_upd F 5 f530) 6 f531) 23 f507) G) H := hP
      have hD : va_D A (MW Y o a (upd (upd (upd (upd (upd (upd I 16 u527) 17 u500) 18 u501) 20 u502) 21 u529) 24 u528) J (vf_upd (vf_upd (vf_upd F 5 f530) 6 f531) 23 f507) G) := hD
      refine lv_aload_n hx hb dX11_tested_29 rfl (lv_at hl 1 rfl) ?_
      refine lv_ldc2 (v := 6385252) hx hb hown (hg _ kw_1587) dX11_tested_30 ?_
      have zl6385252 : (6385252 : Int64).toInt = 6385252 := by decide
      refine cga (rn_V (As := [.long 6385252]) (rest := []) (b := o) (m_isWordI l D Y Z H.size o a (upd (upd (upd (upd (upd (upd I 16 u527) 17 u500) 18 u501) 20 u502) 21 u529) 24 u528) J (vf_upd (vf_upd (vf_upd F 5 f530) 6 f531) 23 f507) G  6385252 (show (0 ≤ u527.toInt ∧ u527.toInt ≤ 400) by omega) (show (0 ≤ (I 3).toInt ∧ (I 3).toInt ≤ 400) by omega) (show (u527.toInt ≤ (I 3).toInt) by omega)) ⟨hx, hb, hml, hown, hg⟩ lk_X11_190 ⟨CP.blind, va_recv hKN.1 hP (ci := 11) (q0 := 0) rfl rfl, CP.at hP hKN hD⟩ ⟨⟨rfl, rfl⟩, ⟨Nat.le_of_ble_eq_true rfl, Nat.le_of_ble_eq_true rfl⟩, ⟨Nat.le_of_ble_eq_true rfl, Nat.le_of_ble_eq_true rfl⟩⟩ hl.1 rfl (Nat.le_of_ble_eq_true rfl) dX11_tested_33) hP hD hS hA (fun u539 H locs w540 hP hD hS => ?_)
      obtain ⟨u541, u542⟩ := u539
      obtain ⟨hw543, hw544, hw545, hw546, hw547, hw548⟩ : (0 ≤ u542.toInt ∧ u542.toInt ≤ 400) ∧ (u527.toInt ≤ u542.toInt) ∧ (u542.toInt ≤ (I 3).toInt) ∧ (0 ≤ u541.toInt ∧ u541.toInt ≤ 1) ∧ (u541.toInt = 1 → (u542.toInt < (I 3).toInt ∧ 97 ≤ ((F 2) u542.toNatClampNeg).toInt ∧ ((F 2) u542.toNatClampNeg).toInt ≤ 122)) ∧ ((u527.toInt < (I 3).toInt ∧ ((F 2) u527.toNatClampNeg).toInt ≠ 32) → u542.toInt = u527.toInt) := w540
      refine W.eq (g2 := F0 m 36 ls [.int u541]) rfl ?_
      have hP : va_P D vwCl (MW Y o a (upd (upd (upd (upd (upd (upd I 16 u542) 17 u500) 18 u501) 20 u502) 21 u529) 24 u528) J (vf_upd (vf_upd (vf_upd F 5 f530) 6 f531) 23 f507) G) H := hP
      have hD : va_D A (MW Y o a (upd (upd (upd (upd (upd (upd I 16 u542) 17 u500) 18 u501) 20 u502) 21 u529) 24 u528) J (vf_upd (vf_upd (vf_upd F 5 f530) 6 f531) 23 f507) G) := hD
      rcases (show u541.toInt = 1 ∨ u541.toInt = 0 by omega) with c549 | c549
      · obtain rfl : u541 = 1 := i_is c549 (by decide)
        replace hw547 := hw547 (by decide)
        refine W.eq (g2 := F0 m 36 ls [.int 1]) rfl ?_
        refine lv_if_ne (tgt := 49) hx hb dX11_tested_36 (by decide) (fun c550 => ?_) (fun c550 => ?_)
        rotate_left
        · exact absurd c550 (by decide)
        refine lv_iconst (v := 1) hx hb dX11_tested_49 (by decide) ?_
        refine lv_goto (tgt := 54) hx hb dX11_tested_50 (by decide) ?_
        refine lv_istore_n (lv' := [(1, .int 1), (0, .ref o)]) hx hb dX11_tested_54 rfl hl (by decide) rfl (fun ls hl => ?_)
        refine lv_iload_n hx hb dX11_tested_55 rfl (lv_at hl 0 rfl) ?_
        refine lv_if_eq (tgt := 12) hx hb dX11_tested_56 (by decide) (fun c551 => ?_) (fun c551 => ?_)
        · exact absurd c551 (by decide)
        refine lv_aload_n hx hb dX11_tested_59 rfl (lv_at hl 1 rfl) ?_
        refine lv_ldc2 (v := 6385252) hx hb hown (hg _ kw_1587) dX11_tested_60 ?_
        refine cga (rn_V (As := [.long 6385252]) (rest := []) (b := o) (m_isWordI l D Y Z H.size o a (upd (upd (upd (upd (upd (upd I 16 u542) 17 u500) 18 u501) 20 u502) 21 u529) 24 u528) J (vf_upd (vf_upd (vf_upd F 5 f530) 6 f531) 23 f507) G  6385252 (show (0 ≤ u542.toInt ∧ u542.toInt ≤ 400) by omega) (show (0 ≤ (I 3).toInt ∧ (I 3).toInt ≤ 400) by omega) (show (u542.toInt ≤ (I 3).toInt) by omega)) ⟨hx, hb, hml, hown, hg⟩ lk_X11_190 ⟨CP.blind, va_recv hKN.1 hP (ci := 11) (q0 := 0) rfl rfl, CP.at hP hKN hD⟩ ⟨⟨rfl, rfl⟩, ⟨Nat.le_of_ble_eq_true rfl, Nat.le_of_ble_eq_true rfl⟩, ⟨Nat.le_of_ble_eq_true rfl, Nat.le_of_ble_eq_true rfl⟩⟩ hl.1 rfl (Nat.le_of_ble_eq_true rfl) dX11_tested_63) hP hD hS hA (fun u552 H locs w553 hP hD hS => ?_)
        obtain ⟨u554, u555⟩ := u552
        obtain ⟨hw556, hw557, hw558, hw559, hw560, hw561⟩ : (0 ≤ u555.toInt ∧ u555.toInt ≤ 400) ∧ (u542.toInt ≤ u555.toInt) ∧ (u555.toInt ≤ (I 3).toInt) ∧ (0 ≤ u554.toInt ∧ u554.toInt ≤ 1) ∧ (u554.toInt = 1 → (u555.toInt < (I 3).toInt ∧ 97 ≤ ((F 2) u555.toNatClampNeg).toInt ∧ ((F 2) u555.toNatClampNeg).toInt ≤ 122)) ∧ ((u542.toInt < (I 3).toInt ∧ ((F 2) u542.toNatClampNeg).toInt ≠ 32) → u555.toInt = u542.toInt) := w553
        refine W.eq (g2 := F0 m 66 ls [.int u554]) rfl ?_
        have hP : va_P D vwCl (MW Y o a (upd (upd (upd (upd (upd (upd I 16 u555) 17 u500) 18 u501) 20 u502) 21 u529) 24 u528) J (vf_upd (vf_upd (vf_upd F 5 f530) 6 f531) 23 f507) G) H := hP
        have hD : va_D A (MW Y o a (upd (upd (upd (upd (upd (upd I 16 u555) 17 u500) 18 u501) 20 u502) 21 u529) 24 u528) J (vf_upd (vf_upd (vf_upd F 5 f530) 6 f531) 23 f507) G) := hD
        rcases (show u554.toInt = 1 ∨ u554.toInt = 0 by omega) with c562 | c562
        · obtain rfl : u554 = 1 := i_is c562 (by decide)
          replace hw560 := hw560 (by decide)
          refine W.eq (g2 := F0 m 66 ls [.int 1]) rfl ?_
          refine lv_if_eq (tgt := 74) hx hb dX11_tested_66 (by decide) (fun c563 => ?_) (fun c563 => ?_)
          · exact absurd c563 (by decide)
          refine lv_bipush (v := 12) hx hb dX11_tested_69 (by decide) ?_
          refine lv_goto (tgt := 76) hx hb dX11_tested_71 (by decide) ?_
          refine lv_istore_n (lv' := [(2, .int 12), (1, .int 1), (0, .ref o)]) hx hb dX11_tested_76 rfl hl (by decide) rfl (fun ls hl => ?_)
          have t564 : u555.toInt = u542.toInt → ((F 2) u555.toNatClampNeg).toInt = ((F 2) u542.toNatClampNeg).toInt := fun h => by rw [Int32.toInt_inj.mp h]
          refine lv_aload_n hx hb dX11_tested_77 rfl (lv_at hl 2 rfl) ?_
          refine cga (rn_V (As := []) (rest := []) (b := o) (m_passWord l D Y Z H.size o a (upd (upd (upd (upd (upd (upd I 16 u555) 17 u500) 18 u501) 20 u502) 21 u529) 24 u528) J (vf_upd (vf_upd (vf_upd F 5 f530) 6 f531) 23 f507) G   (show (0 ≤ u555.toInt ∧ u555.toInt ≤ 400) by omega) (show (0 ≤ (I 3).toInt ∧ (I 3).toInt ≤ 400) by omega) (show (u555.toInt ≤ (I 3).toInt) by omega)) ⟨hx, hb, hml, hown, hg⟩ lk_X11_194 ⟨CP.blind, va_recv hKN.1 hP (ci := 11) (q0 := 0) rfl rfl, CP.at hP hKN hD⟩ ⟨⟨rfl, rfl⟩, ⟨Nat.le_of_ble_eq_true rfl, Nat.le_of_ble_eq_true rfl⟩, ⟨Nat.le_of_ble_eq_true rfl, Nat.le_of_ble_eq_true rfl⟩⟩ hl.1 rfl (Nat.le_of_ble_eq_true rfl) dX11_tested_78) hP hD hS hA (fun u565 H locs w566 hP hD hS => ?_)
          obtain ⟨hw568, hw569, hw570, hw571⟩ : (0 ≤ u565.toInt ∧ u565.toInt ≤ 400) ∧ (u555.toInt ≤ u565.toInt) ∧ (u565.toInt ≤ (I 3).toInt) ∧ ((97 ≤ ((F 2) u555.toNatClampNeg).toInt ∧ ((F 2) u555.toNatClampNeg).toInt ≤ 122 ∧ u555.toInt < (I 3).toInt) → u555.toInt + 1 ≤ u565.toInt) := w566
          refine W.eq (g2 := F0 m 81 ls []) rfl ?_
          have hP : va_P D vwCl (MW Y o a (upd (upd (upd (upd (upd (upd I 16 u565) 17 u500) 18 u501) 20 u502) 21 u529) 24 u528) J (vf_upd (vf_upd (vf_upd F 5 f530) 6 f531) 23 f507) G) H := hP
          have hD : va_D A (MW Y o a (upd (upd (upd (upd (upd (upd I 16 u565) 17 u500) 18 u501) 20 u502) 21 u529) 24 u528) J (vf_upd (vf_upd (vf_upd F 5 f530) 6 f531) 23 f507) G) := hD
          refine lv_aload_n hx hb dX11_tested_81 rfl (lv_at hl 2 rfl) ?_
          refine lv_iload_n hx hb dX11_tested_82 rfl (lv_at hl 0 rfl) ?_
          have zi12 : (12 : Int32).toInt = 12 := by decide
          refine cg0 (rn_S (As := [.int 12]) (rest := [.ref o]) (m_strength l D Y Z H.size   12 ) ⟨hx, hb, hml, hown, hg⟩ lk_X11_246 ⟨CP.blind, CP.at nilP hKN (nilD (A := fun _ => True))⟩ ⟨⟨rfl, rfl⟩, ⟨Nat.le_of_ble_eq_true rfl, Nat.le_of_ble_eq_true rfl⟩, ⟨Nat.le_of_ble_eq_true rfl, Nat.le_of_ble_eq_true rfl⟩⟩ hl.1 rfl (Nat.le_of_ble_eq_true rfl) dX11_tested_83) hP hS hA (fun u572 H locs w573 hP hS => ?_)
          obtain ⟨hw575, hw576⟩ : (0 ≤ u572.toInt ∧ u572.toInt ≤ 3) ∧ (((12 : Int32).toInt = 13 ∧ u572.toInt = 1) ∨ ((12 : Int32).toInt = 12 ∧ u572.toInt = 2) ∨ ((12 : Int32).toInt = 11 ∧ u572.toInt = 3) ∨ ((12 : Int32).toInt ≠ 11 ∧ (12 : Int32).toInt ≠ 12 ∧ (12 : Int32).toInt ≠ 13 ∧ u572.toInt = 0)) := w573
          refine W.eq (g2 := F0 m 86 ls [.int u572, .ref o]) rfl ?_
          refine cga (rn_V (As := [.int u572]) (rest := []) (b := o) (m_settles l D Y Z H.size o a (upd (upd (upd (upd (upd (upd I 16 u565) 17 u500) 18 u501) 20 u502) 21 u529) 24 u528) J (vf_upd (vf_upd (vf_upd F 5 f530) 6 f531) 23 f507) G gs gb u572 (show (0 ≤ (I 19).toInt ∧ (I 19).toInt ≤ 17) by omega) (show (1 ≤ u572.toInt ∧ u572.toInt ≤ 3) by omega) (show (0 ≤ u528.toInt ∧ u528.toInt ≤ 400) by omega) (show (0 ≤ u502.toInt ∧ u502.toInt ≤ 60) by omega) (show ((f531 (I 19).toNatClampNeg).toInt + u528.toInt ≤ 400) by omega) (show PSg (F 4) (F 8) (F 7) f530 f531 gs (I 19).toNatClampNeg gb (nbo f507 (u528.toInt).toNat + 1) (u502.toInt).toNat from (PG_to hw538 rfl (by omega) (by omega) (by omega))) (show ent f507 (u528.toInt).toNat from (ent_le t523 (by omega)))) ⟨hx, hb, hml, hown, hg⟩ lk_X11_282 ⟨CP.blind, va_recv hKN.1 hP (ci := 11) (q0 := 0) rfl rfl, CP.at hP hKN hD⟩ ⟨⟨rfl, rfl⟩, ⟨Nat.le_of_ble_eq_true rfl, Nat.le_of_ble_eq_true rfl⟩, ⟨Nat.le_of_ble_eq_true rfl, Nat.le_of_ble_eq_true rfl⟩⟩ hl.1 rfl (Nat.le_of_ble_eq_true rfl) dX11_tested_86) hP hD hS hA (fun u577 H locs w578 hP hD hS => ?_)
          obtain ⟨u579, u580, f581, f582⟩ := u577
          obtain ⟨hw583, hw584, hw585, hw586, hw587, hw588⟩ : (0 ≤ u579.toInt ∧ u579.toInt ≤ 400) ∧ (u579.toInt ≤ u528.toInt) ∧ ((f582 (I 19).toNatClampNeg).toInt + u579.toInt = (f531 (I 19).toNatClampNeg).toInt + u528.toInt) ∧ PSg (F 4) (F 8) (F 7) f581 f582 gs (I 19).toNatClampNeg gb (nbo f507 (u579.toInt).toNat + 1) (u502.toInt).toNat ∧ (∀ k : Nat, (k : Int) < u528.toInt → (f507 k).toInt = 91 → (k : Int) < u579.toInt) ∧ (u572.toInt = 1 → (u579.toInt = 0 ∨ (f507 (u579.toInt - 1).toNat).toInt = 91)) := w578
          refine W.eq (g2 := F0 m 89 ls []) rfl ?_
          have hP : va_P D vwCl (MW Y o a (upd (upd (upd (upd (upd (upd I 16 u565) 17 u500) 18 u501) 20 u502) 21 u580) 24 u579) J (vf_upd (vf_upd (vf_upd F 5 f581) 6 f582) 23 f507) G) H := hP
          have hD : va_D A (MW Y o a (upd (upd (upd (upd (upd (upd I 16 u565) 17 u500) 18 u501) 20 u502) 21 u580) 24 u579) J (vf_upd (vf_upd (vf_upd F 5 f581) 6 f582) 23 f507) G) := hD
          refine lv_aload_n hx hb dX11_tested_89 rfl (lv_at hl 2 rfl) ?_
          refine va_get (D := D) (ci := 11) (v := .ref (a 23)) (C := RX11) (T := TX11) (N := 49) hx hb hg inGX11 hown hKN.1 hP 0 rfl rfl 23 (by decide) (hg _ kw_1231) (fun _ h9 => h9) rfl dX11_tested_90 ?_
          refine lv_aload_n hx hb dX11_tested_93 rfl (lv_at hl 2 rfl) ?_
          refine va_get (D := D) (ci := 11) (v := .int u579) (C := RX11) (T := TX11) (N := 49) hx hb hg inGX11 hown hKN.1 hP 0 rfl rfl 24 (by decide) (hg _ kw_1232) (fun _ h9 => h9) rfl dX11_tested_94 ?_
          refine lv_iload_n hx hb dX11_tested_97 rfl (lv_at hl 0 rfl) ?_
          refine va_iast hx hb hKN.1 hP hD hS 16 0 rfl rfl (vp_in_iff.mpr ⟨by omega, by omega⟩) dX11_tested_98 (fun H locs hP hD hS => ?_)
          obtain ⟨f589, ef589, hP, hD⟩ : ∃ f589 : Nat → Int32, f589 = upd f507 u579.toNatClampNeg 12 ∧ va_P D vwCl (MW Y o a (upd (upd (upd (upd (upd (upd I 16 u565) 17 u500) 18 u501) 20 u502) 21 u580) 24 u579) J (vf_upd (vf_upd (vf_upd F 5 f581) 6 f582) 23 f589) G) H ∧ va_D A (MW Y o a (upd (upd (upd (upd (upd (upd I 16 u565) 17 u500) 18 u501) 20 u502) 21 u580) 24 u579) J (vf_upd (vf_upd (vf_upd F 5 f581) 6 f582) 23 f589) G) := ⟨_, rfl, hP, hD⟩
          have t590n := nbo_push3 (m := (u579.toInt + 1).toNat) (i := u579) (v := 12) ef589 (by omega) (by omega)
          have t590e := ent_p (m := (u579.toInt + 1).toNat) (i := u579) (v := 12) ef589 (ent_le t523 (by omega)) (by omega) (by omega) (by omega)
          refine lv_aload_n hx hb dX11_tested_99 rfl (lv_at hl 2 rfl) ?_
          refine lv_dup hx hb dX11_tested_100 rfl ?_
          refine va_get (D := D) (ci := 11) (v := .int u579) (C := RX11) (T := TX11) (N := 49) hx hb hg inGX11 hown hKN.1 hP 0 rfl rfl 24 (by decide) (hg _ kw_1232) (fun _ h9 => h9) rfl dX11_tested_101 ?_
          refine lv_iconst (v := 1) hx hb dX11_tested_104 (by decide) ?_
          refine lv_iadd hx hb dX11_tested_105 ?_
          refine lv_topi (fun v591 ev591 => ?_)
          have hv591 := i_add (Eq.refl u579.toInt) (show (1 : Int32).toInt = 1 by decide) ev591 (by omega) (by omega)
          refine va_put (D := D) (ci := 11) (v := .int v591) (ty := .int) (C := RX11) (T := TX11) (N := 49) hx hb hg inGX11 tyX11 tyX11_ok nmX11 hown hKN.1 hP hD hS 0 rfl rfl 24 (by decide) (hg _ kw_1232) (fun _ h9 => h9) rfl (by decide +kernel) rfl rfl (Nat.le_of_ble_eq_true rfl) dX11_tested_106 (fun H locs hP hD hS => ?_)
          have hP : va_P D vwCl (MW Y o a (upd (upd (upd (upd (upd (upd I 16 u565) 17 u500) 18 u501) 20 u502) 21 u580) 24 v591) J (vf_upd (vf_upd (vf_upd F 5 f581) 6 f582) 23 f589) G) H := hP
          have hD : va_D A (MW Y o a (upd (upd (upd (upd (upd (upd I 16 u565) 17 u500) 18 u501) 20 u502) 21 u580) 24 v591) J (vf_upd (vf_upd (vf_upd F 5 f581) 6 f582) 23 f589) G) := hD
          have t592 : nbo f589 (u579.toInt + 1).toNat = nbo f589 v591.toInt.toNat := by rw [show (u579.toInt + 1).toNat = v591.toInt.toNat by omega]
          refine lv_goto (tgt := 12) hx hb dX11_tested_109 (by decide) ?_
          exact ih455 (1, u565, u500, u501, u502, u580, v591, f581, f582, f589) H locs ls (by show (2 * (400 - u565.toInt) + (1 : Int32).toInt).toNat < (2 * (400 - g219.toInt) + g218.toInt).toNat; omega) ⟨hP, hD, hS, lv_sub hl [1, 2] rfl, by omega, by omega, by omega, by omega, by omega, by omega, by omega, by omega, by omega, (PG_to hw586 rfl (by omega) (by omega) (by omega)), (ent_le t590e (by omega))⟩
        · obtain rfl : u554 = 0 := i_is c562 (by decide)
          have zi0 : (0 : Int32).toInt = 0 := by decide
          clear hw560
          refine W.eq (g2 := F0 m 66 ls [.int 0]) rfl ?_
          refine lv_if_eq (tgt := 74) hx hb dX11_tested_66 (by decide) (fun c593 => ?_) (fun c593 => ?_)
          rotate_left
          · exact absurd c593 (by decide)
          refine lv_bipush (v := 13) hx hb dX11_tested_74 (by decide) ?_
          refine lv_istore_n (lv' := [(2, .int 13), (1, .int 1), (0, .ref o)]) hx hb dX11_tested_76 rfl hl (by decide) rfl (fun ls hl => ?_)
          have t594 : u555.toInt = u542.toInt → ((F 2) u555.toNatClampNeg).toInt = ((F 2) u542.toNatClampNeg).toInt := fun h => by rw [Int32.toInt_inj.mp h]
          refine lv_aload_n hx hb dX11_tested_77 rfl (lv_at hl 2 rfl) ?_
          refine cga (rn_V (As := []) (rest := []) (b := o) (m_passWord l D Y Z H.size o a (upd (upd (upd (upd (upd (upd I 16 u555) 17 u500) 18 u501) 20 u502) 21 u529) 24 u528) J (vf_upd (vf_upd (vf_upd F 5 f530) 6 f531) 23 f507) G   (show (0 ≤ u555.toInt ∧ u555.toInt ≤ 400) by omega) (show (0 ≤ (I 3).toInt ∧ (I 3).toInt ≤ 400) by omega) (show (u555.toInt ≤ (I 3).toInt) by omega)) ⟨hx, hb, hml, hown, hg⟩ lk_X11_194 ⟨CP.blind, va_recv hKN.1 hP (ci := 11) (q0 := 0) rfl rfl, CP.at hP hKN hD⟩ ⟨⟨rfl, rfl⟩, ⟨Nat.le_of_ble_eq_true rfl, Nat.le_of_ble_eq_true rfl⟩, ⟨Nat.le_of_ble_eq_true rfl, Nat.le_of_ble_eq_true rfl⟩⟩ hl.1 rfl (Nat.le_of_ble_eq_true rfl) dX11_tested_78) hP hD hS hA (fun u595 H locs w596 hP hD hS => ?_)
          obtain ⟨hw598, hw599, hw600, hw601⟩ : (0 ≤ u595.toInt ∧ u595.toInt ≤ 400) ∧ (u555.toInt ≤ u595.toInt) ∧ (u595.toInt ≤ (I 3).toInt) ∧ ((97 ≤ ((F 2) u555.toNatClampNeg).toInt ∧ ((F 2) u555.toNatClampNeg).toInt ≤ 122 ∧ u555.toInt < (I 3).toInt) → u555.toInt + 1 ≤ u595.toInt) := w596
          refine W.eq (g2 := F0 m 81 ls []) rfl ?_
          have hP : va_P D vwCl (MW Y o a (upd (upd (upd (upd (upd (upd I 16 u595) 17 u500) 18 u501) 20 u502) 21 u529) 24 u528) J (vf_upd (vf_upd (vf_upd F 5 f530) 6 f531) 23 f507) G) H := hP
          have hD : va_D A (MW Y o a (upd (upd (upd (upd (upd (upd I 16 u595) 17 u500) 18 u501) 20 u502) 21 u529) 24 u528) J (vf_upd (vf_upd (vf_upd F 5 f530) 6 f531) 23 f507) G) := hD
          refine lv_aload_n hx hb dX11_tested_81 rfl (lv_at hl 2 rfl) ?_
          refine lv_iload_n hx hb dX11_tested_82 rfl (lv_at hl 0 rfl) ?_
          have zi13 : (13 : Int32).toInt = 13 := by decide
          refine cg0 (rn_S (As := [.int 13]) (rest := [.ref o]) (m_strength l D Y Z H.size   13 ) ⟨hx, hb, hml, hown, hg⟩ lk_X11_246 ⟨CP.blind, CP.at nilP hKN (nilD (A := fun _ => True))⟩ ⟨⟨rfl, rfl⟩, ⟨Nat.le_of_ble_eq_true rfl, Nat.le_of_ble_eq_true rfl⟩, ⟨Nat.le_of_ble_eq_true rfl, Nat.le_of_ble_eq_true rfl⟩⟩ hl.1 rfl (Nat.le_of_ble_eq_true rfl) dX11_tested_83) hP hS hA (fun u602 H locs w603 hP hS => ?_)
          obtain ⟨hw605, hw606⟩ : (0 ≤ u602.toInt ∧ u602.toInt ≤ 3) ∧ (((13 : Int32).toInt = 13 ∧ u602.toInt = 1) ∨ ((13 : Int32).toInt = 12 ∧ u602.toInt = 2) ∨ ((13 : Int32).toInt = 11 ∧ u602.toInt = 3) ∨ ((13 : Int32).toInt ≠ 11 ∧ (13 : Int32).toInt ≠ 12 ∧ (13 : Int32).toInt ≠ 13 ∧ u602.toInt = 0)) := w603
          refine W.eq (g2 := F0 m 86 ls [.int u602, .ref o]) rfl ?_
          refine cga (rn_V (As := [.int u602]) (rest := []) (b := o) (m_settles l D Y Z H.size o a (upd (upd (upd (upd (upd (upd I 16 u595) 17 u500) 18 u501) 20 u502) 21 u529) 24 u528) J (vf_upd (vf_upd (vf_upd F 5 f530) 6 f531) 23 f507) G gs gb u602 (show (0 ≤ (I 19).toInt ∧ (I 19).toInt ≤ 17) by omega) (show (1 ≤ u602.toInt ∧ u602.toInt ≤ 3) by omega) (show (0 ≤ u528.toInt ∧ u528.toInt ≤ 400) by omega) (show (0 ≤ u502.toInt ∧ u502.toInt ≤ 60) by omega) (show ((f531 (I 19).toNatClampNeg).toInt + u528.toInt ≤ 400) by omega) (show PSg (F 4) (F 8) (F 7) f530 f531 gs (I 19).toNatClampNeg gb (nbo f507 (u528.toInt).toNat + 1) (u502.toInt).toNat from (PG_to hw538 rfl (by omega) (by omega) (by omega))) (show ent f507 (u528.toInt).toNat from (ent_le t523 (by omega)))) ⟨hx, hb, hml, hown, hg⟩ lk_X11_282 ⟨CP.blind, va_recv hKN.1 hP (ci := 11) (q0 := 0) rfl rfl, CP.at hP hKN hD⟩ ⟨⟨rfl, rfl⟩, ⟨Nat.le_of_ble_eq_true rfl, Nat.le_of_ble_eq_true rfl⟩, ⟨Nat.le_of_ble_eq_true rfl, Nat.le_of_ble_eq_true rfl⟩⟩ hl.1 rfl (Nat.le_of_ble_eq_true rfl) dX11_tested_86) hP hD hS hA (fun u607 H locs w608 hP hD hS => ?_)
          obtain ⟨u609, u610, f611, f612⟩ := u607
          obtain ⟨hw613, hw614, hw615, hw616, hw617, hw618⟩ : (0 ≤ u609.toInt ∧ u609.toInt ≤ 400) ∧ (u609.toInt ≤ u528.toInt) ∧ ((f612 (I 19).toNatClampNeg).toInt + u609.toInt = (f531 (I 19).toNatClampNeg).toInt + u528.toInt) ∧ PSg (F 4) (F 8) (F 7) f611 f612 gs (I 19).toNatClampNeg gb (nbo f507 (u609.toInt).toNat + 1) (u502.toInt).toNat ∧ (∀ k : Nat, (k : Int) < u528.toInt → (f507 k).toInt = 91 → (k : Int) < u609.toInt) ∧ (u602.toInt = 1 → (u609.toInt = 0 ∨ (f507 (u609.toInt - 1).toNat).toInt = 91)) := w608
          refine W.eq (g2 := F0 m 89 ls []) rfl ?_
          have hP : va_P D vwCl (MW Y o a (upd (upd (upd (upd (upd (upd I 16 u595) 17 u500) 18 u501) 20 u502) 21 u610) 24 u609) J (vf_upd (vf_upd (vf_upd F 5 f611) 6 f612) 23 f507) G) H := hP
          have hD : va_D A (MW Y o a (upd (upd (upd (upd (upd (upd I 16 u595) 17 u500) 18 u501) 20 u502) 21 u610) 24 u609) J (vf_upd (vf_upd (vf_upd F 5 f611) 6 f612) 23 f507) G) := hD
          refine lv_aload_n hx hb dX11_tested_89 rfl (lv_at hl 2 rfl) ?_
          refine va_get (D := D) (ci := 11) (v := .ref (a 23)) (C := RX11) (T := TX11) (N := 49) hx hb hg inGX11 hown hKN.1 hP 0 rfl rfl 23 (by decide) (hg _ kw_1231) (fun _ h9 => h9) rfl dX11_tested_90 ?_
          refine lv_aload_n hx hb dX11_tested_93 rfl (lv_at hl 2 rfl) ?_
          refine va_get (D := D) (ci := 11) (v := .int u609) (C := RX11) (T := TX11) (N := 49) hx hb hg inGX11 hown hKN.1 hP 0 rfl rfl 24 (by decide) (hg _ kw_1232) (fun _ h9 => h9) rfl dX11_tested_94 ?_
          refine lv_iload_n hx hb dX11_tested_97 rfl (lv_at hl 0 rfl) ?_
          refine va_iast hx hb hKN.1 hP hD hS 16 0 rfl rfl (vp_in_iff.mpr ⟨by omega, by omega⟩) dX11_tested_98 (fun H locs hP hD hS => ?_)
          obtain ⟨f619, ef619, hP, hD⟩ : ∃ f619 : Nat → Int32, f619 = upd f507 u609.toNatClampNeg 13 ∧ va_P D vwCl (MW Y o a (upd (upd (upd (upd (upd (upd I 16 u595) 17 u500) 18 u501) 20 u502) 21 u610) 24 u609) J (vf_upd (vf_upd (vf_upd F 5 f611) 6 f612) 23 f619) G) H ∧ va_D A (MW Y o a (upd (upd (upd (upd (upd (upd I 16 u595) 17 u500) 18 u501) 20 u502) 21 u610) 24 u609) J (vf_upd (vf_upd (vf_upd F 5 f611) 6 f612) 23 f619) G) := ⟨_, rfl, hP, hD⟩
          have t620n := nbo_push3 (m := (u609.toInt + 1).toNat) (i := u609) (v := 13) ef619 (by omega) (by omega)
          have t620e := ent_p (m := (u609.toInt + 1).toNat) (i := u609) (v := 13) ef619 (ent_le t523 (by omega)) (by omega) (by omega) (by omega)
          refine lv_aload_n hx hb dX11_tested_99 rfl (lv_at hl 2 rfl) ?_
          refine lv_dup hx hb dX11_tested_100 rfl ?_
          refine va_get (D := D) (ci := 11) (v := .int u609) (C := RX11) (T := TX11) (N := 49) hx hb hg inGX11 hown hKN.1 hP 0 rfl rfl 24 (by decide) (hg _ kw_1232) (fun _ h9 => h9) rfl dX11_tested_101 ?_
          refine lv_iconst (v := 1) hx hb dX11_tested_104 (by decide) ?_
          refine lv_iadd hx hb dX11_tested_105 ?_
          refine lv_topi (fun v621 ev621 => ?_)
          have hv621 := i_add (Eq.refl u609.toInt) (show (1 : Int32).toInt = 1 by decide) ev621 (by omega) (by omega)
          refine va_put (D := D) (ci := 11) (v := .int v621) (ty := .int) (C := RX11) (T := TX11) (N := 49) hx hb hg inGX11 tyX11 tyX11_ok nmX11 hown hKN.1 hP hD hS 0 rfl rfl 24 (by decide) (hg _ kw_1232) (fun _ h9 => h9) rfl (by decide +kernel) rfl rfl (Nat.le_of_ble_eq_true rfl) dX11_tested_106 (fun H locs hP hD hS => ?_)
          have hP : va_P D vwCl (MW Y o a (upd (upd (upd (upd (upd (upd I 16 u595) 17 u500) 18 u501) 20 u502) 21 u610) 24 v621) J (vf_upd (vf_upd (vf_upd F 5 f611) 6 f612) 23 f619) G) H := hP
          have hD : va_D A (MW Y o a (upd (upd (upd (upd (upd (upd I 16 u595) 17 u500) 18 u501) 20 u502) 21 u610) 24 v621) J (vf_upd (vf_upd (vf_upd F 5 f611) 6 f612) 23 f619) G) := hD
          have t622 : nbo f619 (u609.toInt + 1).toNat = nbo f619 v621.toInt.toNat := by rw [show (u609.toInt + 1).toNat = v621.toInt.toNat by omega]
          refine lv_goto (tgt := 12) hx hb dX11_tested_109 (by decide) ?_
          exact ih455 (1, u595, u500, u501, u502, u610, v621, f611, f612, f619) H locs ls (by show (2 * (400 - u595.toInt) + (1 : Int32).toInt).toNat < (2 * (400 - g219.toInt) + g218.toInt).toNat; omega) ⟨hP, hD, hS, lv_sub hl [1, 2] rfl, by omega, by omega, by omega, by omega, by omega, by omega, by omega, by omega, by omega, (PG_to hw616 rfl (by omega) (by omega) (by omega)), (ent_le t620e (by omega))⟩
      · obtain rfl : u541 = 0 := i_is c549 (by decide)
        have zi0 : (0 : Int32).toInt = 0 := by decide
        clear hw547
        refine W.eq (g2 := F0 m 36 ls [.int 0]) rfl ?_
        refine lv_if_ne (tgt := 49) hx hb dX11_tested_36 (by decide) (fun c623 => ?_) (fun c623 => ?_)
        · exact absurd c623 (by decide)
        refine lv_aload_n hx hb dX11_tested_39 rfl (lv_at hl 1 rfl) ?_
        refine lv_ldc2 (v := 28530) hx hb hown (hg _ kw_1588) dX11_tested_40 ?_
        have zl28530 : (28530 : Int64).toInt = 28530 := by decide
        refine cga (rn_V (As := [.long 28530]) (rest := []) (b := o) (m_isWordI l D Y Z H.size o a (upd (upd (upd (upd (upd (upd I 16 u542) 17 u500) 18 u501) 20 u502) 21 u529) 24 u528) J (vf_upd (vf_upd (vf_upd F 5 f530) 6 f531) 23 f507) G  28530 (show (0 ≤ u542.toInt ∧ u542.toInt ≤ 400) by omega) (show (0 ≤ (I 3).toInt ∧ (I 3).toInt ≤ 400) by omega) (show (u542.toInt ≤ (I 3).toInt) by omega)) ⟨hx, hb, hml, hown, hg⟩ lk_X11_190 ⟨CP.blind, va_recv hKN.1 hP (ci := 11) (q0 := 0) rfl rfl, CP.at hP hKN hD⟩ ⟨⟨rfl, rfl⟩, ⟨Nat.le_of_ble_eq_true rfl, Nat.le_of_ble_eq_true rfl⟩, ⟨Nat.le_of_ble_eq_true rfl, Nat.le_of_ble_eq_true rfl⟩⟩ hl.1 rfl (Nat.le_of_ble_eq_true rfl) dX11_tested_43) hP hD hS hA (fun u624 H locs w625 hP hD hS => ?_)
        obtain ⟨u626, u627⟩ := u624
        obtain ⟨hw628, hw629, hw630, hw631, hw632, hw633⟩ : (0 ≤ u627.toInt ∧ u627.toInt ≤ 400) ∧ (u542.toInt ≤ u627.toInt) ∧ (u627.toInt ≤ (I 3).toInt) ∧ (0 ≤ u626.toInt ∧ u626.toInt ≤ 1) ∧ (u626.toInt = 1 → (u627.toInt < (I 3).toInt ∧ 97 ≤ ((F 2) u627.toNatClampNeg).toInt ∧ ((F 2) u627.toNatClampNeg).toInt ≤ 122)) ∧ ((u542.toInt < (I 3).toInt ∧ ((F 2) u542.toNatClampNeg).toInt ≠ 32) → u627.toInt = u542.toInt) := w625
        refine W.eq (g2 := F0 m 46 ls [.int u626]) rfl ?_
        have hP : va_P D vwCl (MW Y o a (upd (upd (upd (upd (upd (upd I 16 u627) 17 u500) 18 u501) 20 u502) 21 u529) 24 u528) J (vf_upd (vf_upd (vf_upd F 5 f530) 6 f531) 23 f507) G) H := hP
        have hD : va_D A (MW Y o a (upd (upd (upd (upd (upd (upd I 16 u627) 17 u500) 18 u501) 20 u502) 21 u529) 24 u528) J (vf_upd (vf_upd (vf_upd F 5 f530) 6 f531) 23 f507) G) := hD
        rcases (show u626.toInt = 1 ∨ u626.toInt = 0 by omega) with c634 | c634
        · obtain rfl : u626 = 1 := i_is c634 (by decide)
          replace hw632 := hw632 (by decide)
          refine W.eq (g2 := F0 m 46 ls [.int 1]) rfl ?_
          refine lv_if_eq (tgt := 53) hx hb dX11_tested_46 (by decide) (fun c635 => ?_) (fun c635 => ?_)
          · exact absurd c635 (by decide)
          refine lv_iconst (v := 1) hx hb dX11_tested_49 (by decide) ?_
          refine lv_goto (tgt := 54) hx hb dX11_tested_50 (by decide) ?_
          refine lv_istore_n (lv' := [(1, .int 1), (0, .ref o)]) hx hb dX11_tested_54 rfl hl (by decide) rfl (fun ls hl => ?_)
          refine lv_iload_n hx hb dX11_tested_55 rfl (lv_at hl 0 rfl) ?_
          refine lv_if_eq (tgt := 12) hx hb dX11_tested_56 (by decide) (fun c636 => ?_) (fun c636 => ?_)
          · exact absurd c636 (by decide)
          refine lv_aload_n hx hb dX11_tested_59 rfl (lv_at hl 1 rfl) ?_
          refine lv_ldc2 (v := 6385252) hx hb hown (hg _ kw_1587) dX11_tested_60 ?_
          refine cga (rn_V (As := [.long 6385252]) (rest := []) (b := o) (m_isWordI l D Y Z H.size o a (upd (upd (upd (upd (upd (upd I 16 u627) 17 u500) 18 u501) 20 u502) 21 u529) 24 u528) J (vf_upd (vf_upd (vf_upd F 5 f530) 6 f531) 23 f507) G  6385252 (show (0 ≤ u627.toInt ∧ u627.toInt ≤ 400) by omega) (show (0 ≤ (I 3).toInt ∧ (I 3).toInt ≤ 400) by omega) (show (u627.toInt ≤ (I 3).toInt) by omega)) ⟨hx, hb, hml, hown, hg⟩ lk_X11_190 ⟨CP.blind, va_recv hKN.1 hP (ci := 11) (q0 := 0) rfl rfl, CP.at hP hKN hD⟩ ⟨⟨rfl, rfl⟩, ⟨Nat.le_of_ble_eq_true rfl, Nat.le_of_ble_eq_true rfl⟩, ⟨Nat.le_of_ble_eq_true rfl, Nat.le_of_ble_eq_true rfl⟩⟩ hl.1 rfl (Nat.le_of_ble_eq_true rfl) dX11_tested_63) hP hD hS hA (fun u637 H locs w638 hP hD hS => ?_)
          obtain ⟨u639, u640⟩ := u637
          obtain ⟨hw641, hw642, hw643, hw644, hw645, hw646⟩ : (0 ≤ u640.toInt ∧ u640.toInt ≤ 400) ∧ (u627.toInt ≤ u640.toInt) ∧ (u640.toInt ≤ (I 3).toInt) ∧ (0 ≤ u639.toInt ∧ u639.toInt ≤ 1) ∧ (u639.toInt = 1 → (u640.toInt < (I 3).toInt ∧ 97 ≤ ((F 2) u640.toNatClampNeg).toInt ∧ ((F 2) u640.toNatClampNeg).toInt ≤ 122)) ∧ ((u627.toInt < (I 3).toInt ∧ ((F 2) u627.toNatClampNeg).toInt ≠ 32) → u640.toInt = u627.toInt) := w638
          refine W.eq (g2 := F0 m 66 ls [.int u639]) rfl ?_
          have hP : va_P D vwCl (MW Y o a (upd (upd (upd (upd (upd (upd I 16 u640) 17 u500) 18 u501) 20 u502) 21 u529) 24 u528) J (vf_upd (vf_upd (vf_upd F 5 f530) 6 f531) 23 f507) G) H := hP
          have hD : va_D A (MW Y o a (upd (upd (upd (upd (upd (upd I 16 u640) 17 u500) 18 u501) 20 u502) 21 u529) 24 u528) J (vf_upd (vf_upd (vf_upd F 5 f530) 6 f531) 23 f507) G) := hD
          rcases (show u639.toInt = 1 ∨ u639.toInt = 0 by omega) with c647 | c647
          · obtain rfl : u639 = 1 := i_is c647 (by decide)
            replace hw645 := hw645 (by decide)
            refine W.eq (g2 := F0 m 66 ls [.int 1]) rfl ?_
            refine lv_if_eq (tgt := 74) hx hb dX11_tested_66 (by decide) (fun c648 => ?_) (fun c648 => ?_)
            · exact absurd c648 (by decide)
            refine lv_bipush (v := 12) hx hb dX11_tested_69 (by decide) ?_
            refine lv_goto (tgt := 76) hx hb dX11_tested_71 (by decide) ?_
            refine lv_istore_n (lv' := [(2, .int 12), (1, .int 1), (0, .ref o)]) hx hb dX11_tested_76 rfl hl (by decide) rfl (fun ls hl => ?_)
            have t649 : u640.toInt = u627.toInt → ((F 2) u640.toNatClampNeg).toInt = ((F 2) u627.toNatClampNeg).toInt := fun h => by rw [Int32.toInt_inj.mp h]
            refine lv_aload_n hx hb dX11_tested_77 rfl (lv_at hl 2 rfl) ?_
            refine cga (rn_V (As := []) (rest := []) (b := o) (m_passWord l D Y Z H.size o a (upd (upd (upd (upd (upd (upd I 16 u640) 17 u500) 18 u501) 20 u502) 21 u529) 24 u528) J (vf_upd (vf_upd (vf_upd F 5 f530) 6 f531) 23 f507) G   (show (0 ≤ u640.toInt ∧ u640.toInt ≤ 400) by omega) (show (0 ≤ (I 3).toInt ∧ (I 3).toInt ≤ 400) by omega) (show (u640.toInt ≤ (I 3).toInt) by omega)) ⟨hx, hb, hml, hown, hg⟩ lk_X11_194 ⟨CP.blind, va_recv hKN.1 hP (ci := 11) (q0 := 0) rfl rfl, CP.at hP hKN hD⟩ ⟨⟨rfl, rfl⟩, ⟨Nat.le_of_ble_eq_true rfl, Nat.le_of_ble_eq_true rfl⟩, ⟨Nat.le_of_ble_eq_true rfl, Nat.le_of_ble_eq_true rfl⟩⟩ hl.1 rfl (Nat.le_of_ble_eq_true rfl) dX11_tested_78) hP hD hS hA (fun u650 H locs w651 hP hD hS => ?_)
            obtain ⟨hw653, hw654, hw655, hw656⟩ : (0 ≤ u650.toInt ∧ u650.toInt ≤ 400) ∧ (u640.toInt ≤ u650.toInt) ∧ (u650.toInt ≤ (I 3).toInt) ∧ ((97 ≤ ((F 2) u640.toNatClampNeg).toInt ∧ ((F 2) u640.toNatClampNeg).toInt ≤ 122 ∧ u640.toInt < (I 3).toInt) → u640.toInt + 1 ≤ u650.toInt) := w651
            refine W.eq (g2 := F0 m 81 ls []) rfl ?_
            have hP : va_P D vwCl (MW Y o a (upd (upd (upd (upd (upd (upd I 16 u650) 17 u500) 18 u501) 20 u502) 21 u529) 24 u528) J (vf_upd (vf_upd (vf_upd F 5 f530) 6 f531) 23 f507) G) H := hP
            have hD : va_D A (MW Y o a (upd (upd (upd (upd (upd (upd I 16 u650) 17 u500) 18 u501) 20 u502) 21 u529) 24 u528) J (vf_upd (vf_upd (vf_upd F 5 f530) 6 f531) 23 f507) G) := hD
            refine lv_aload_n hx hb dX11_tested_81 rfl (lv_at hl 2 rfl) ?_
            refine lv_iload_n hx hb dX11_tested_82 rfl (lv_at hl 0 rfl) ?_
            have zi12 : (12 : Int32).toInt = 12 := by decide
            refine cg0 (rn_S (As := [.int 12]) (rest := [.ref o]) (m_strength l D Y Z H.size   12 ) ⟨hx, hb, hml, hown, hg⟩ lk_X11_246 ⟨CP.blind, CP.at nilP hKN (nilD (A := fun _ => True))⟩ ⟨⟨rfl, rfl⟩, ⟨Nat.le_of_ble_eq_true rfl, Nat.le_of_ble_eq_true rfl⟩, ⟨Nat.le_of_ble_eq_true rfl, Nat.le_of_ble_eq_true rfl⟩⟩ hl.1 rfl (Nat.le_of_ble_eq_true rfl) dX11_tested_83) hP hS hA (fun u657 H locs w658 hP hS => ?_)
            obtain ⟨hw660, hw661⟩ : (0 ≤ u657.toInt ∧ u657.toInt ≤ 3) ∧ (((12 : Int32).toInt = 13 ∧ u657.toInt = 1) ∨ ((12 : Int32).toInt = 12 ∧ u657.toInt = 2) ∨ ((12 : Int32).toInt = 11 ∧ u657.toInt = 3) ∨ ((12 : Int32).toInt ≠ 11 ∧ (12 : Int32).toInt ≠ 12 ∧ (12 : Int32).toInt ≠ 13 ∧ u657.toInt = 0)) := w658
            refine W.eq (g2 := F0 m 86 ls [.int u657, .ref o]) rfl ?_
            refine cga (rn_V (As := [.int u657]) (rest := []) (b := o) (m_settles l D Y Z H.size o a (upd (upd (upd (upd (upd (upd I 16 u650) 17 u500) 18 u501) 20 u502) 21 u529) 24 u528) J (vf_upd (vf_upd (vf_upd F 5 f530) 6 f531) 23 f507) G gs gb u657 (show (0 ≤ (I 19).toInt ∧ (I 19).toInt ≤ 17) by omega) (show (1 ≤ u657.toInt ∧ u657.toInt ≤ 3) by omega) (show (0 ≤ u528.toInt ∧ u528.toInt ≤ 400) by omega) (show (0 ≤ u502.toInt ∧ u502.toInt ≤ 60) by omega) (show ((f531 (I 19).toNatClampNeg).toInt + u528.toInt ≤ 400) by omega) (show PSg (F 4) (F 8) (F 7) f530 f531 gs (I 19).toNatClampNeg gb (nbo f507 (u528.toInt).toNat + 1) (u502.toInt).toNat from (PG_to hw538 rfl (by omega) (by omega) (by omega))) (show ent f507 (u528.toInt).toNat from (ent_le t523 (by omega)))) ⟨hx, hb, hml, hown, hg⟩ lk_X11_282 ⟨CP.blind, va_recv hKN.1 hP (ci := 11) (q0 := 0) rfl rfl, CP.at hP hKN hD⟩ ⟨⟨rfl, rfl⟩, ⟨Nat.le_of_ble_eq_true rfl, Nat.le_of_ble_eq_true rfl⟩, ⟨Nat.le_of_ble_eq_true rfl, Nat.le_of_ble_eq_true rfl⟩⟩ hl.1 rfl (Nat.le_of_ble_eq_true rfl) dX11_tested_86) hP hD hS hA (fun u662 H locs w663 hP hD hS => ?_)
            obtain ⟨u664, u665, f666, f667⟩ := u662
            obtain ⟨hw668, hw669, hw670, hw671, hw672, hw673⟩ : (0 ≤ u664.toInt ∧ u664.toInt ≤ 400) ∧ (u664.toInt ≤ u528.toInt) ∧ ((f667 (I 19).toNatClampNeg).toInt + u664.toInt = (f531 (I 19).toNatClampNeg).toInt + u528.toInt) ∧ PSg (F 4) (F 8) (F 7) f666 f667 gs (I 19).toNatClampNeg gb (nbo f507 (u664.toInt).toNat + 1) (u502.toInt).toNat ∧ (∀ k : Nat, (k : Int) < u528.toInt → (f507 k).toInt = 91 → (k : Int) < u664.toInt) ∧ (u657.toInt = 1 → (u664.toInt = 0 ∨ (f507 (u664.toInt - 1).toNat).toInt = 91)) := w663
            refine W.eq (g2 := F0 m 89 ls []) rfl ?_
            have hP : va_P D vwCl (MW Y o a (upd (upd (upd (upd (upd (upd I 16 u650) 17 u500) 18 u501) 20 u502) 21 u665) 24 u664) J (vf_upd (vf_upd (vf_upd F 5 f666) 6 f667) 23 f507) G) H := hP
            have hD : va_D A (MW Y o a (upd (upd (upd (upd (upd (upd I 16 u650) 17 u500) 18 u501) 20 u502) 21 u665) 24 u664) J (vf_upd (vf_upd (vf_upd F 5 f666) 6 f667) 23 f507) G) := hD
            refine lv_aload_n hx hb dX11_tested_89 rfl (lv_at hl 2 rfl) ?_
            refine va_get (D := D) (ci := 11) (v := .ref (a 23)) (C := RX11) (T := TX11) (N := 49) hx hb hg inGX11 hown hKN.1 hP 0 rfl rfl 23 (by decide) (hg _ kw_1231) (fun _ h9 => h9) rfl dX11_tested_90 ?_
            refine lv_aload_n hx hb dX11_tested_93 rfl (lv_at hl 2 rfl) ?_
            refine va_get (D := D) (ci := 11) (v := .int u664) (C := RX11) (T := TX11) (N := 49) hx hb hg inGX11 hown hKN.1 hP 0 rfl rfl 24 (by decide) (hg _ kw_1232) (fun _ h9 => h9) rfl dX11_tested_94 ?_
            refine lv_iload_n hx hb dX11_tested_97 rfl (lv_at hl 0 rfl) ?_
            refine va_iast hx hb hKN.1 hP hD hS 16 0 rfl rfl (vp_in_iff.mpr ⟨by omega, by omega⟩) dX11_tested_98 (fun H locs hP hD hS => ?_)
            obtain ⟨f674, ef674, hP, hD⟩ : ∃ f674 : Nat → Int32, f674 = upd f507 u664.toNatClampNeg 12 ∧ va_P D vwCl (MW Y o a (upd (upd (upd (upd (upd (upd I 16 u650) 17 u500) 18 u501) 20 u502) 21 u665) 24 u664) J (vf_upd (vf_upd (vf_upd F 5 f666) 6 f667) 23 f674) G) H ∧ va_D A (MW Y o a (upd (upd (upd (upd (upd (upd I 16 u650) 17 u500) 18 u501) 20 u502) 21 u665) 24 u664) J (vf_upd (vf_upd (vf_upd F 5 f666) 6 f667) 23 f674) G) := ⟨_, rfl, hP, hD⟩
            have t675n := nbo_push3 (m := (u664.toInt + 1).toNat) (i := u664) (v := 12) ef674 (by omega) (by omega)
            have t675e := ent_p (m := (u664.toInt + 1).toNat) (i := u664) (v := 12) ef674 (ent_le t523 (by omega)) (by omega) (by omega) (by omega)
            refine lv_aload_n hx hb dX11_tested_99 rfl (lv_at hl 2 rfl) ?_
            refine lv_dup hx hb dX11_tested_100 rfl ?_
            refine va_get (D := D) (ci := 11) (v := .int u664) (C := RX11) (T := TX11) (N := 49) hx hb hg inGX11 hown hKN.1 hP 0 rfl rfl 24 (by decide) (hg _ kw_1232) (fun _ h9 => h9) rfl dX11_tested_101 ?_
            refine lv_iconst (v := 1) hx hb dX11_tested_104 (by decide) ?_
            refine lv_iadd hx hb dX11_tested_105 ?_
            refine lv_topi (fun v676 ev676 => ?_)
            have hv676 := i_add (Eq.refl u664.toInt) (show (1 : Int32).toInt = 1 by decide) ev676 (by omega) (by omega)
            refine va_put (D := D) (ci := 11) (v := .int v676) (ty := .int) (C := RX11) (T := TX11) (N := 49) hx hb hg inGX11 tyX11 tyX11_ok nmX11 hown hKN.1 hP hD hS 0 rfl rfl 24 (by decide) (hg _ kw_1232) (fun _ h9 => h9) rfl (by decide +kernel) rfl rfl (Nat.le_of_ble_eq_true rfl) dX11_tested_106 (fun H locs hP hD hS => ?_)
            have hP : va_P D vwCl (MW Y o a (upd (upd (upd (upd (upd (upd I 16 u650) 17 u500) 18 u501) 20 u502) 21 u665) 24 v676) J (vf_upd (vf_upd (vf_upd F 5 f666) 6 f667) 23 f674) G) H := hP
            have hD : va_D A (MW Y o a (upd (upd (upd (upd (upd (upd I 16 u650) 17 u500) 18 u501) 20 u502) 21 u665) 24 v676) J (vf_upd (vf_upd (vf_upd F 5 f666) 6 f667) 23 f674) G) := hD
            have t677 : nbo f674 (u664.toInt + 1).toNat = nbo f674 v676.toInt.toNat := by rw [show (u664.toInt + 1).toNat = v676.toInt.toNat by omega]
            refine lv_goto (tgt := 12) hx hb dX11_tested_109 (by decide) ?_
            exact ih455 (1, u650, u500, u501, u502, u665, v676, f666, f667, f674) H locs ls (by show (2 * (400 - u650.toInt) + (1 : Int32).toInt).toNat < (2 * (400 - g219.toInt) + g218.toInt).toNat; omega) ⟨hP, hD, hS, lv_sub hl [1, 2] rfl, by omega, by omega, by omega, by omega, by omega, by omega, by omega, by omega, by omega, (PG_to hw671 rfl (by omega) (by omega) (by omega)), (ent_le t675e (by omega))⟩
          · obtain rfl : u639 = 0 := i_is c647 (by decide)
            clear hw645
            refine W.eq (g2 := F0 m 66 ls [.int 0]) rfl ?_
            refine lv_if_eq (tgt := 74) hx hb dX11_tested_66 (by decide) (fun c678 => ?_) (fun c678 => ?_)
            rotate_left
            · exact absurd c678 (by decide)
            refine lv_bipush (v := 13) hx hb dX11_tested_74 (by decide) ?_
            refine lv_istore_n (lv' := [(2, .int 13), (1, .int 1), (0, .ref o)]) hx hb dX11_tested_76 rfl hl (by decide) rfl (fun ls hl => ?_)
            have t679 : u640.toInt = u627.toInt → ((F 2) u640.toNatClampNeg).toInt = ((F 2) u627.toNatClampNeg).toInt := fun h => by rw [Int32.toInt_inj.mp h]
            refine lv_aload_n hx hb dX11_tested_77 rfl (lv_at hl 2 rfl) ?_
            refine cga (rn_V (As := []) (rest := []) (b := o) (m_passWord l D Y Z H.size o a (upd (upd (upd (upd (upd (upd I 16 u640) 17 u500) 18 u501) 20 u502) 21 u529) 24 u528) J (vf_upd (vf_upd (vf_upd F 5 f530) 6 f531) 23 f507) G   (show (0 ≤ u640.toInt ∧ u640.toInt ≤ 400) by omega) (show (0 ≤ (I 3).toInt ∧ (I 3).toInt ≤ 400) by omega) (show (u640.toInt ≤ (I 3).toInt) by omega)) ⟨hx, hb, hml, hown, hg⟩ lk_X11_194 ⟨CP.blind, va_recv hKN.1 hP (ci := 11) (q0 := 0) rfl rfl, CP.at hP hKN hD⟩ ⟨⟨rfl, rfl⟩, ⟨Nat.le_of_ble_eq_true rfl, Nat.le_of_ble_eq_true rfl⟩, ⟨Nat.le_of_ble_eq_true rfl, Nat.le_of_ble_eq_true rfl⟩⟩ hl.1 rfl (Nat.le_of_ble_eq_true rfl) dX11_tested_78) hP hD hS hA (fun u680 H locs w681 hP hD hS => ?_)
            obtain ⟨hw683, hw684, hw685, hw686⟩ : (0 ≤ u680.toInt ∧ u680.toInt ≤ 400) ∧ (u640.toInt ≤ u680.toInt) ∧ (u680.toInt ≤ (I 3).toInt) ∧ ((97 ≤ ((F 2) u640.toNatClampNeg).toInt ∧ ((F 2) u640.toNatClampNeg).toInt ≤ 122 ∧ u640.toInt < (I 3).toInt) → u640.toInt + 1 ≤ u680.toInt) := w681
            refine W.eq (g2 := F0 m 81 ls []) rfl ?_
            have hP : va_P D vwCl (MW Y o a (upd (upd (upd (upd (upd (upd I 16 u680) 17 u500) 18 u501) 20 u502) 21 u529) 24 u528) J (vf_upd (vf_upd (vf_upd F 5 f530) 6 f531) 23 f507) G) H := hP
            have hD : va_D A (MW Y o a (upd (upd (upd (upd (upd (upd I 16 u680) 17 u500) 18 u501) 20 u502) 21 u529) 24 u528) J (vf_upd (vf_upd (vf_upd F 5 f530) 6 f531) 23 f507) G) := hD
            refine lv_aload_n hx hb dX11_tested_81 rfl (lv_at hl 2 rfl) ?_
            refine lv_iload_n hx hb dX11_tested_82 rfl (lv_at hl 0 rfl) ?_
            have zi13 : (13 : Int32).toInt = 13 := by decide
            refine cg0 (rn_S (As := [.int 13]) (rest := [.ref o]) (m_strength l D Y Z H.size   13 ) ⟨hx, hb, hml, hown, hg⟩ lk_X11_246 ⟨CP.blind, CP.at nilP hKN (nilD (A := fun _ => True))⟩ ⟨⟨rfl, rfl⟩, ⟨Nat.le_of_ble_eq_true rfl, Nat.le_of_ble_eq_true rfl⟩, ⟨Nat.le_of_ble_eq_true rfl, Nat.le_of_ble_eq_true rfl⟩⟩ hl.1 rfl (Nat.le_of_ble_eq_true rfl) dX11_tested_83) hP hS hA (fun u687 H locs w688 hP hS => ?_)
            obtain ⟨hw690, hw691⟩ : (0 ≤ u687.toInt ∧ u687.toInt ≤ 3) ∧ (((13 : Int32).toInt = 13 ∧ u687.toInt = 1) ∨ ((13 : Int32).toInt = 12 ∧ u687.toInt = 2) ∨ ((13 : Int32).toInt = 11 ∧ u687.toInt = 3) ∨ ((13 : Int32).toInt ≠ 11 ∧ (13 : Int32).toInt ≠ 12 ∧ (13 : Int32).toInt ≠ 13 ∧ u687.toInt = 0)) := w688
            refine W.eq (g2 := F0 m 86 ls [.int u687, .ref o]) rfl ?_
            refine cga (rn_V (As := [.int u687]) (rest := []) (b := o) (m_settles l D Y Z H.size o a (upd (upd (upd (upd (upd (upd I 16 u680) 17 u500) 18 u501) 20 u502) 21 u529) 24 u528) J (vf_upd (vf_upd (vf_upd F 5 f530) 6 f531) 23 f507) G gs gb u687 (show (0 ≤ (I 19).toInt ∧ (I 19).toInt ≤ 17) by omega) (show (1 ≤ u687.toInt ∧ u687.toInt ≤ 3) by omega) (show (0 ≤ u528.toInt ∧ u528.toInt ≤ 400) by omega) (show (0 ≤ u502.toInt ∧ u502.toInt ≤ 60) by omega) (show ((f531 (I 19).toNatClampNeg).toInt + u528.toInt ≤ 400) by omega) (show PSg (F 4) (F 8) (F 7) f530 f531 gs (I 19).toNatClampNeg gb (nbo f507 (u528.toInt).toNat + 1) (u502.toInt).toNat from (PG_to hw538 rfl (by omega) (by omega) (by omega))) (show ent f507 (u528.toInt).toNat from (ent_le t523 (by omega)))) ⟨hx, hb, hml, hown, hg⟩ lk_X11_282 ⟨CP.blind, va_recv hKN.1 hP (ci := 11) (q0 := 0) rfl rfl, CP.at hP hKN hD⟩ ⟨⟨rfl, rfl⟩, ⟨Nat.le_of_ble_eq_true rfl, Nat.le_of_ble_eq_true rfl⟩, ⟨Nat.le_of_ble_eq_true rfl, Nat.le_of_ble_eq_true rfl⟩⟩ hl.1 rfl (Nat.le_of_ble_eq_true rfl) dX11_tested_86) hP hD hS hA (fun u692 H locs w693 hP hD hS => ?_)
            obtain ⟨u694, u695, f696, f697⟩ := u692
            obtain ⟨hw698, hw699, hw700, hw701, hw702, hw703⟩ : (0 ≤ u694.toInt ∧ u694.toInt ≤ 400) ∧ (u694.toInt ≤ u528.toInt) ∧ ((f697 (I 19).toNatClampNeg).toInt + u694.toInt = (f531 (I 19).toNatClampNeg).toInt + u528.toInt) ∧ PSg (F 4) (F 8) (F 7) f696 f697 gs (I 19).toNatClampNeg gb (nbo f507 (u694.toInt).toNat + 1) (u502.toInt).toNat ∧ (∀ k : Nat, (k : Int) < u528.toInt → (f507 k).toInt = 91 → (k : Int) < u694.toInt) ∧ (u687.toInt = 1 → (u694.toInt = 0 ∨ (f507 (u694.toInt - 1).toNat).toInt = 91)) := w693
            refine W.eq (g2 := F0 m 89 ls []) rfl ?_
            have hP : va_P D vwCl (MW Y o a (upd (upd (upd (upd (upd (upd I 16 u680) 17 u500) 18 u501) 20 u502) 21 u695) 24 u694) J (vf_upd (vf_upd (vf_upd F 5 f696) 6 f697) 23 f507) G) H := hP
            have hD : va_D A (MW Y o a (upd (upd (upd (upd (upd (upd I 16 u680) 17 u500) 18 u501) 20 u502) 21 u695) 24 u694) J (vf_upd (vf_upd (vf_upd F 5 f696) 6 f697) 23 f507) G) := hD
            refine lv_aload_n hx hb dX11_tested_89 rfl (lv_at hl 2 rfl) ?_
            refine va_get (D := D) (ci := 11) (v := .ref (a 23)) (C := RX11) (T := TX11) (N := 49) hx hb hg inGX11 hown hKN.1 hP 0 rfl rfl 23 (by decide) (hg _ kw_1231) (fun _ h9 => h9) rfl dX11_tested_90 ?_
            refine lv_aload_n hx hb dX11_tested_93 rfl (lv_at hl 2 rfl) ?_
            refine va_get (D := D) (ci := 11) (v := .int u694) (C := RX11) (T := TX11) (N := 49) hx hb hg inGX11 hown hKN.1 hP 0 rfl rfl 24 (by decide) (hg _ kw_1232) (fun _ h9 => h9) rfl dX11_tested_94 ?_
            refine lv_iload_n hx hb dX11_tested_97 rfl (lv_at hl 0 rfl) ?_
            refine va_iast hx hb hKN.1 hP hD hS 16 0 rfl rfl (vp_in_iff.mpr ⟨by omega, by omega⟩) dX11_tested_98 (fun H locs hP hD hS => ?_)
            obtain ⟨f704, ef704, hP, hD⟩ : ∃ f704 : Nat → Int32, f704 = upd f507 u694.toNatClampNeg 13 ∧ va_P D vwCl (MW Y o a (upd (upd (upd (upd (upd (upd I 16 u680) 17 u500) 18 u501) 20 u502) 21 u695) 24 u694) J (vf_upd (vf_upd (vf_upd F 5 f696) 6 f697) 23 f704) G) H ∧ va_D A (MW Y o a (upd (upd (upd (upd (upd (upd I 16 u680) 17 u500) 18 u501) 20 u502) 21 u695) 24 u694) J (vf_upd (vf_upd (vf_upd F 5 f696) 6 f697) 23 f704) G) := ⟨_, rfl, hP, hD⟩
            have t705n := nbo_push3 (m := (u694.toInt + 1).toNat) (i := u694) (v := 13) ef704 (by omega) (by omega)
            have t705e := ent_p (m := (u694.toInt + 1).toNat) (i := u694) (v := 13) ef704 (ent_le t523 (by omega)) (by omega) (by omega) (by omega)
            refine lv_aload_n hx hb dX11_tested_99 rfl (lv_at hl 2 rfl) ?_
            refine lv_dup hx hb dX11_tested_100 rfl ?_
            refine va_get (D := D) (ci := 11) (v := .int u694) (C := RX11) (T := TX11) (N := 49) hx hb hg inGX11 hown hKN.1 hP 0 rfl rfl 24 (by decide) (hg _ kw_1232) (fun _ h9 => h9) rfl dX11_tested_101 ?_
            refine lv_iconst (v := 1) hx hb dX11_tested_104 (by decide) ?_
            refine lv_iadd hx hb dX11_tested_105 ?_
            refine lv_topi (fun v706 ev706 => ?_)
            have hv706 := i_add (Eq.refl u694.toInt) (show (1 : Int32).toInt = 1 by decide) ev706 (by omega) (by omega)
            refine va_put (D := D) (ci := 11) (v := .int v706) (ty := .int) (C := RX11) (T := TX11) (N := 49) hx hb hg inGX11 tyX11 tyX11_ok nmX11 hown hKN.1 hP hD hS 0 rfl rfl 24 (by decide) (hg _ kw_1232) (fun _ h9 => h9) rfl (by decide +kernel) rfl rfl (Nat.le_of_ble_eq_true rfl) dX11_tested_106 (fun H locs hP hD hS => ?_)
            have hP : va_P D vwCl (MW Y o a (upd (upd (upd (upd (upd (upd I 16 u680) 17 u500) 18 u501) 20 u502) 21 u695) 24 v706) J (vf_upd (vf_upd (vf_upd F 5 f696) 6 f697) 23 f704) G) H := hP
            have hD : va_D A (MW Y o a (upd (upd (upd (upd (upd (upd I 16 u680) 17 u500) 18 u501) 20 u502) 21 u695) 24 v706) J (vf_upd (vf_upd (vf_upd F 5 f696) 6 f697) 23 f704) G) := hD
            have t707 : nbo f704 (u694.toInt + 1).toNat = nbo f704 v706.toInt.toNat := by rw [show (u694.toInt + 1).toNat = v706.toInt.toNat by omega]
            refine lv_goto (tgt := 12) hx hb dX11_tested_109 (by decide) ?_
            exact ih455 (1, u680, u500, u501, u502, u695, v706, f696, f697, f704) H locs ls (by show (2 * (400 - u680.toInt) + (1 : Int32).toInt).toNat < (2 * (400 - g219.toInt) + g218.toInt).toNat; omega) ⟨hP, hD, hS, lv_sub hl [1, 2] rfl, by omega, by omega, by omega, by omega, by omega, by omega, by omega, by omega, by omega, (PG_to hw701 rfl (by omega) (by omega) (by omega)), (ent_le t705e (by omega))⟩
        · obtain rfl : u626 = 0 := i_is c634 (by decide)
          clear hw632
          refine W.eq (g2 := F0 m 46 ls [.int 0]) rfl ?_
          refine lv_if_eq (tgt := 53) hx hb dX11_tested_46 (by decide) (fun c708 => ?_) (fun c708 => ?_)
          rotate_left
          · exact absurd c708 (by decide)
          refine lv_iconst (v := 0) hx hb dX11_tested_53 (by decide) ?_
          refine lv_istore_n (lv' := [(1, .int 0), (0, .ref o)]) hx hb dX11_tested_54 rfl hl (by decide) rfl (fun ls hl => ?_)
          refine lv_iload_n hx hb dX11_tested_55 rfl (lv_at hl 0 rfl) ?_
          refine lv_if_eq (tgt := 12) hx hb dX11_tested_56 (by decide) (fun c709 => ?_) (fun c709 => ?_)
          rotate_left
          · exact absurd c709 (by decide)
          exact ih455 (0, u627, u500, u501, u502, u529, u528, f530, f531, f507) H locs ls (by show (2 * (400 - u627.toInt) + (0 : Int32).toInt).toNat < (2 * (400 - g219.toInt) + g218.toInt).toNat; omega) ⟨hP, hD, hS, lv_sub hl [0, 1] rfl, by omega, by omega, by omega, by omega, by omega, by omega, by omega, by omega, by omega, (PG_to hw538 rfl (by omega) (by omega) (by omega)), (ent_le t523 (by omega))⟩
    · obtain rfl : u498 = 0 := i_is c521 (by decide)
      have zi0 : (0 : Int32).toInt = 0 := by decide
      replace hw515 := hw515 (by decide)
      clear hw517
      refine W.eq (g2 := F0 m 20 ls [.int 0]) rfl ?_
      refine lv_if_ne (tgt := 25) hx hb dX11_tested_20 (by decide) (fun c710 => ?_) (fun c710 => ?_)
      · exact absurd c710 (by decide)
      refine lv_iconst (v := 0) hx hb dX11_tested_23 (by decide) ?_
      refine W.widen (k := 0) (n := 0) (Nat.le_of_ble_eq_true rfl) (Nat.le_of_ble_eq_true rfl) ?_
      exact W.zret (v := 0) hx hb hr (by decide) (fun t ht hW => ⟨⟨(0, u499, u500, u501, u502, u503, u504, f505, f506, f507), rfl, ⟨(show (0 ≤ u499.toInt ∧ u499.toInt ≤ 400) by omega), (show ((I 16).toInt ≤ u499.toInt) by omega), (show (u499.toInt ≤ (I 3).toInt) by omega), (show (0 ≤ u500.toInt ∧ u500.toInt ≤ 4000) by omega), (show (0 ≤ u502.toInt ∧ u502.toInt ≤ 60) by omega), (show ((I 20).toInt ≤ u502.toInt) by omega), (show (0 ≤ (0 : Int32).toInt ∧ (0 : Int32).toInt ≤ 1) by omega), (show ((0 : Int32).toInt = 0 → 1 ≤ u500.toInt) by omega), (show ((0 : Int32).toInt = 1 → (f506 (I 19).toNatClampNeg).toInt ≤ u499.toInt) by omega), (show ((0 : Int32).toInt = 1 → PSg (F 4) (F 8) (F 7) f505 f506 gs (I 19).toNatClampNeg gb (1) (u502.toInt).toNat) from (fun h => absurd h (by decide))), (show TC (F 4) (F 8) (F 7) f505 from hw520)⟩, CB.mk ht hP hD⟩, hS.F ht⟩) hS.2.2 dX11_tested_24
