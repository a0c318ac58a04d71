set_option maxHeartbeats 4000000 in
set_option maxRecDepth 100000 in
theorem m_opens (l : Launch) (D : va_G) (Y : Nat → ClassId) (Z : Nat → Nat) (sz : Nat) (o : Nat) (a : Nat → Nat) (I : Nat → Int32) (J : Nat → Int64) (F : Nat → Nat → Int32) (G : Nat → Nat → Int64) (p1 : Int32) (hk_0 : (0 ≤ (I 16).toInt ∧ (I 16).toInt ≤ 400)) (hk_1 : (0 ≤ (I 24).toInt ∧ (I 24).toInt ≤ 399)) (hk_2 : (0 ≤ (I 17).toInt ∧ (I 17).toInt ≤ 4000)) (hk_3 : (0 ≤ p1.toInt ∧ p1.toInt ≤ 100)) : Met l yX11_opens (.code yX11_opens cX11_opens 2 (some .boolean) :: GW) ({ frames := 1, cells := 0, slots := 0, locals := 22 }) (va_Pc [.ref o, .int p1] (CP D Y Z (MW Y o a I J F G) sz)) (QG (S := Int32 × Int32 × Int32 × Int32 × (Nat → Int32)) (fun u => some (.int u.1)) (fun u => (0 ≤ u.2.1.toInt ∧ u.2.1.toInt ≤ 4000) ∧ ((u.1.toInt = 1 ∧ u.2.2.2.1.toInt = (I 24).toInt + 1) ∨ (u.1.toInt = 0 ∧ 1 ≤ u.2.1.toInt)) ∧ (0 ≤ u.2.2.2.1.toInt ∧ u.2.2.2.1.toInt ≤ 400) ∧ (0 ≤ u.1.toInt ∧ u.1.toInt ≤ 1) ∧ (u.1.toInt = 1 → u.2.2.2.2 = upd (F 23) (I 24).toNatClampNeg p1)) (fun u => CB D (MW Y o a (upd (upd (upd I 17 u.2.1) 21 u.2.2.1) 24 u.2.2.2.1) J (vf_upd F 23 u.2.2.2.2) G) (va_A (MW Y o a I J F G) sz)) (va_A (MW Y o a I J F G) sz)) 0 0 (va_A (MW Y o a I J F G) sz) := by
  refine Met.ofW (cc := cX11_opens) (maxL := 2) (ret := (some .boolean)) (by decide) rfl ?_
  intro p e s m args below meth c s₁ B hml hv
  obtain ⟨rfl, hsz, hP, hKN, hD0⟩ := hv
  have hx := B.exec
  have hb := B.bytes
  have hr := B.returns
  have hts := atoms_spec (ws := .code yX11_opens cX11_opens 2 (some .boolean) :: GW) B.pre
  have hg : ∀ w ∈ GW, w.before _ s = true := fun w h => hts w (List.mem_cons_of_mem _ h)
  have hown : s.vm.findClass RX11 = some m.cls := findClass_of_methodNamed B.named
  have hlocks := B.notSynchronized
  subst hsz
  have hD := hD0.self (sz := s.heap.size)
  generalize hAe : va_A (MW Y o a I J F G) s.heap.size = A at hD ⊢
  have hA : ∀ q : Nat, s.heap.size ≤ q → A q := fun q h => by rw [← hAe]; exact Or.inr h
  clear hAe hD0 hts B
  have hl := lv_entry ([.ref o, .int p1]) (n := 2) (Nat.le_of_ble_eq_true rfl)
  rw [lg_entry_eq]
  generalize (lg_sl ([.ref o, .int p1]) ++ List.replicate (2 - (lg_sl ([.ref o, .int p1])).length) Slot.unset).toArray = ls at hl ⊢
  have hl : lv_has ls 2 [(0, .ref o), (1, .int p1)] := hl
  refine w_start (A0 := A) hP (fun H locs hP hS => ?_)
  refine lv_aload_n hx hb dX11_opens_0 rfl (lv_at hl 0 rfl) ?_
  refine va_get (D := D) (ci := 11) (v := .int (I 21)) (C := RX11) (T := TX11) (N := 49) hx hb hg inGX11 hown hKN.1 hP 0 rfl rfl 21 (by decide) (hg _ kw_1229) (fun _ h9 => h9) rfl dX11_opens_1 ?_
  refine lv_bipush (v := 10) hx hb dX11_opens_4 (by decide) ?_
  have j1 := rgI (I 21)
  refine lv_icmp_ne (tgt := 19) hx hb dX11_opens_6 (by decide) (fun c2 => ?_) (fun c2 => ?_)
  · skip
    have c2 := i_ne (Eq.refl (I 21).toInt) (show (10 : Int32).toInt = 10 by decide) c2
    refine lv_aload_n hx hb dX11_opens_19 rfl (lv_at hl 0 rfl) ?_
    refine lv_dup hx hb dX11_opens_20 rfl ?_
    refine va_get (D := D) (ci := 11) (v := .int (I 21)) (C := RX11) (T := TX11) (N := 49) hx hb hg inGX11 hown hKN.1 hP 0 rfl rfl 21 (by decide) (hg _ kw_1229) (fun _ h9 => h9) rfl dX11_opens_21 ?_
    refine lv_iconst (v := 1) hx hb dX11_opens_24 (by decide) ?_
    refine lv_iadd hx hb dX11_opens_25 ?_
    refine lv_topi (fun v3 ev3 => ?_)
    refine va_put (D := D) (ci := 11) (v := .int v3) (ty := .int) (C := RX11) (T := TX11) (N := 49) hx hb hg inGX11 tyX11 tyX11_ok nmX11 hown hKN.1 hP hD hS 0 rfl rfl 21 (by decide) (hg _ kw_1229) (fun _ h9 => h9) rfl (by decide +kernel) rfl rfl (Nat.le_of_ble_eq_true rfl) dX11_opens_26 (fun H locs hP hD hS => ?_)
    have hP : va_P D vwCl (MW Y o a (upd I 21 v3) J F G) H := hP
    have hD : va_D A (MW Y o a (upd I 21 v3) J F G) := hD
    refine lv_aload_n hx hb dX11_opens_29 rfl (lv_at hl 0 rfl) ?_
    refine va_get (D := D) (ci := 11) (v := .ref (a 23)) (C := RX11) (T := TX11) (N := 49) hx hb hg inGX11 hown hKN.1 hP 0 rfl rfl 23 (by decide) (hg _ kw_1231) (fun _ h9 => h9) rfl dX11_opens_30 ?_
    refine lv_aload_n hx hb dX11_opens_33 rfl (lv_at hl 0 rfl) ?_
    refine va_get (D := D) (ci := 11) (v := .int (I 24)) (C := RX11) (T := TX11) (N := 49) hx hb hg inGX11 hown hKN.1 hP 0 rfl rfl 24 (by decide) (hg _ kw_1232) (fun _ h9 => h9) rfl dX11_opens_34 ?_
    refine lv_iload_n hx hb dX11_opens_37 rfl (lv_at hl 1 rfl) ?_
    refine va_iast hx hb hKN.1 hP hD hS 16 0 rfl rfl (vp_in_iff.mpr ⟨by omega, by omega⟩) dX11_opens_38 (fun H locs hP hD hS => ?_)
    obtain ⟨f4, ef4, hP, hD⟩ : ∃ f4 : Nat → Int32, f4 = upd (F 23) ((I 24).toNatClampNeg) p1 ∧ va_P D vwCl (MW Y o a (upd I 21 v3) J (vf_upd F 23 f4) G) H ∧ va_D A (MW Y o a (upd I 21 v3) J (vf_upd F 23 f4) G) := ⟨_, rfl, hP, hD⟩
    refine lv_aload_n hx hb dX11_opens_39 rfl (lv_at hl 0 rfl) ?_
    refine lv_dup hx hb dX11_opens_40 rfl ?_
    refine va_get (D := D) (ci := 11) (v := .int (I 24)) (C := RX11) (T := TX11) (N := 49) hx hb hg inGX11 hown hKN.1 hP 0 rfl rfl 24 (by decide) (hg _ kw_1232) (fun _ h9 => h9) rfl dX11_opens_41 ?_
    refine lv_iconst (v := 1) hx hb dX11_opens_44 (by decide) ?_
    refine lv_iadd hx hb dX11_opens_45 ?_
    refine lv_topi (fun v5 ev5 => ?_)
    have hv5 := i_add (Eq.refl (I 24).toInt) (show (1 : Int32).toInt = 1 by decide) ev5 (by omega) (by omega)
    refine va_put (D := D) (ci := 11) (v := .int v5) (ty := .int) (C := RX11) (T := TX11) (N := 49) hx hb hg inGX11 tyX11 tyX11_ok nmX11 hown hKN.1 hP hD hS 0 rfl rfl 24 (by decide) (hg _ kw_1232) (fun _ h9 => h9) rfl (by decide +kernel) rfl rfl (Nat.le_of_ble_eq_true rfl) dX11_opens_46 (fun H locs hP hD hS => ?_)
    have hP : va_P D vwCl (MW Y o a (upd (upd I 21 v3) 24 v5) J (vf_upd F 23 f4) G) H := hP
    have hD : va_D A (MW Y o a (upd (upd I 21 v3) 24 v5) J (vf_upd F 23 f4) G) := hD
    refine lv_iconst (v := 1) hx hb dX11_opens_49 (by decide) ?_
    refine W.widen (k := 0) (n := 0) (Nat.le_of_ble_eq_true rfl) (Nat.le_of_ble_eq_true rfl) ?_
    have zi1 : (1 : Int32).toInt = 1 := by decide
    exact W.zret (v := 1) hx hb hr (by decide) (fun t ht hW => ⟨⟨(1, (I 17), v3, v5, f4), rfl, ⟨(show (0 ≤ (I 17).toInt ∧ (I 17).toInt ≤ 4000) by omega), (show (((1 : Int32).toInt = 1 ∧ v5.toInt = (I 24).toInt + 1) ∨ ((1 : Int32).toInt = 0 ∧ 1 ≤ (I 17).toInt)) by omega), (show (0 ≤ v5.toInt ∧ v5.toInt ≤ 400) by omega), (show (0 ≤ (1 : Int32).toInt ∧ (1 : Int32).toInt ≤ 1) by omega), (fun _ => ef4)⟩, CB.mk ht hP hD⟩, hS.F ht⟩) hS.2.2 dX11_opens_50
  · skip
    have c2 := i_eq (Eq.refl (I 21).toInt) (show (10 : Int32).toInt = 10 by decide) c2
    refine lv_aload_n hx hb dX11_opens_9 rfl (lv_at hl 0 rfl) ?_
    refine lv_iconst (v := 2) hx hb dX11_opens_10 (by decide) ?_
    refine lv_aload_n hx hb dX11_opens_11 rfl (lv_at hl 0 rfl) ?_
    refine va_get (D := D) (ci := 11) (v := .int (I 16)) (C := RX11) (T := TX11) (N := 49) hx hb hg inGX11 hown hKN.1 hP 0 rfl rfl 16 (by decide) (hg _ kw_1224) (fun _ h9 => h9) rfl dX11_opens_12 ?_
    have zi2 : (2 : Int32).toInt = 2 := by decide
    refine cga (rn_V (As := [.int 2, .int (I 16)]) (rest := []) (b := o) (m_fails l D Y Z H.size o a I J F G  2 (I 16) (show (0 ≤ (2 : Int32).toInt ∧ (2 : Int32).toInt ≤ 4) by omega) (show (0 ≤ (I 16).toInt ∧ (I 16).toInt ≤ 400) by omega) (show (0 ≤ (I 17).toInt ∧ (I 17).toInt ≤ 4000) by omega)) ⟨hx, hb, hml, hown, hg⟩ lk_X11_200 ⟨CP.blind, va_recv hKN.1 hP (ci := 11) (q0 := 0) rfl rfl, CP.at hP hKN hD⟩ ⟨⟨rfl, rfl⟩, ⟨Nat.le_of_ble_eq_true rfl, Nat.le_of_ble_eq_true rfl⟩, ⟨Nat.le_of_ble_eq_true rfl, Nat.le_of_ble_eq_true rfl⟩⟩ hl.1 rfl (Nat.le_of_ble_eq_true rfl) dX11_opens_15) hP hD hS hA (fun u6 H locs w7 hP hD hS => ?_)
    obtain ⟨u8, u9⟩ := u6
    have w7 : (u8.toInt = 0) ∧ (1 ≤ u9.toInt ∧ u9.toInt ≤ 4000) := w7
    obtain ⟨hw10, hw11⟩ := w7
    refine W.eq (g2 := F0 m 18 ls [.int u8]) rfl ?_
    have hP : va_P D vwCl (MW Y o a (upd I 17 u9) J F G) H := hP
    have hD : va_D A (MW Y o a (upd I 17 u9) J F G) := hD
    obtain rfl : u8 = 0 := i_is (X := 0) (by omega) (by decide)
    refine W.eq (g2 := F0 m 18 ls [.int 0]) rfl ?_
    refine W.widen (k := 0) (n := 0) (Nat.le_of_ble_eq_true rfl) (Nat.le_of_ble_eq_true rfl) ?_
    have zi0 : (0 : Int32).toInt = 0 := by decide
    exact W.zret (v := 0) hx hb hr (by decide) (fun t ht hW => ⟨⟨(0, u9, (I 21), (I 24), (F 23)), rfl, ⟨(show (0 ≤ u9.toInt ∧ u9.toInt ≤ 4000) by omega), (show (((0 : Int32).toInt = 1 ∧ (I 24).toInt = (I 24).toInt + 1) ∨ ((0 : Int32).toInt = 0 ∧ 1 ≤ u9.toInt)) by omega), (show (0 ≤ (I 24).toInt ∧ (I 24).toInt ≤ 400) by omega), (show (0 ≤ (0 : Int32).toInt ∧ (0 : Int32).toInt ≤ 1) by omega), (fun h => absurd h (by decide))⟩, CB.mk ht hP hD⟩, hS.F ht⟩) hS.2.2 dX11_opens_18
set_option maxHeartbeats 4000000 in
set_option maxRecDepth 100000 in
theorem m_isInside (l : Launch) (D : va_G) (Y : Nat → ClassId) (Z : Nat → Nat) (sz : Nat) (o : Nat) (a : Nat → Nat) (I : Nat → Int32) (J : Nat → Int64) (F : Nat → Nat → Int32) (G : Nat → Nat → Int64) (hk_0 : (0 ≤ (I 24).toInt ∧ (I 24).toInt ≤ 400)) : Met l yX11_isInside (.code yX11_isInside cX11_isInside 2 (some .boolean) :: GW) ({ frames := 0, cells := 0, slots := 0, locals := 0 }) (va_Pc [.ref o] (CP D Y Z (MW Y o a I J F G) sz)) (QG (S := Int32) (fun u => some (.int u)) (fun u => (0 ≤ u.toInt ∧ u.toInt ≤ 1) ∧ ((u.toInt = 1 → ∃ k : Nat, (k : Int) < (I 24).toInt ∧ ((F 23) k).toInt = 91) ∧ (u.toInt = 0 → ∀ k : Nat, (k : Int) < (I 24).toInt → ((F 23) k).toInt ≠ 91))) (fun u => CB D (MW Y o a I J F G) (va_A (MW Y o a I J F G) sz)) (va_A (MW Y o a I J F G) sz)) 0 0 (va_A (MW Y o a I J F G) sz) := by
  refine Met.ofW (cc := cX11_isInside) (maxL := 2) (ret := (some .boolean)) (by decide) rfl ?_
  intro p e s m args below meth c s₁ B hml hv
  obtain ⟨rfl, hsz, hP, hKN, hD0⟩ := hv
  have hx := B.exec
  have hb := B.bytes
  have hr := B.returns
  have hts := atoms_spec (ws := .code yX11_isInside cX11_isInside 2 (some .boolean) :: GW) B.pre
  have hg : ∀ w ∈ GW, w.before _ s = true := fun w h => hts w (List.mem_cons_of_mem _ h)
  have hown : s.vm.findClass RX11 = some m.cls := findClass_of_methodNamed B.named
  have hlocks := B.notSynchronized
  subst hsz
  have hD := hD0.self (sz := s.heap.size)
  generalize hAe : va_A (MW Y o a I J F G) s.heap.size = A at hD ⊢
  have hA : ∀ q : Nat, s.heap.size ≤ q → A q := fun q h => by rw [← hAe]; exact Or.inr h
  clear hAe hD0 hts B
  have hl := lv_entry ([.ref o]) (n := 2) (Nat.le_of_ble_eq_true rfl)
  rw [lg_entry_eq]
  generalize (lg_sl ([.ref o]) ++ List.replicate (2 - (lg_sl ([.ref o])).length) Slot.unset).toArray = ls at hl ⊢
  have hl : lv_has ls 2 [(0, .ref o)] := hl
  refine w_start (A0 := A) hP (fun H locs hP hS => ?_)
  refine lv_iconst (v := 0) hx hb dX11_isInside_0 (by decide) ?_
  refine lv_istore_n (lv' := [(1, .int 0), (0, .ref o)]) hx hb dX11_isInside_1 rfl hl (by decide) rfl (fun ls hl => ?_)
  have zi0 : (0 : Int32).toInt = 0 := by decide
  refine w_loop (σ := Int32) (fun xx H locs ls => match xx with | g5 => va_P D vwCl (MW Y o a I J F G) H ∧ va_D A (MW Y o a I J F G) ∧ va_S A s.heap H locs ∧ lv_has ls 2 [(1, .int g5), (0, .ref o)] ∧ (0 ≤ g5.toInt ∧ g5.toInt ≤ 400) ∧ (g5.toInt ≤ (I 24).toInt) ∧ (∀ k : Nat, (k : Int) < g5.toInt → ((F 23) k).toInt ≠ 91)) (fun xx => match xx with | g5 => (400 - g5.toInt).toNat) (0) ⟨hP, hD, hS, lv_sub hl [0, 1] rfl, by omega, by omega, (fun k h => by omega)⟩ (fun xx H locs ls hI ih => ?_)
  revert hI ih
  generalize xx = g5
  intro hI ih
  obtain ⟨hP, hD, hS, hl, hq11, hq12, hr13⟩ := hI
  have ih14 := ih
  refine lv_iload_n hx hb dX11_isInside_2 rfl (lv_at hl 0 rfl) ?_
  refine lv_aload_n hx hb dX11_isInside_3 rfl (lv_at hl 1 rfl) ?_
  refine va_get (D := D) (ci := 11) (v := .int (I 24)) (C := RX11) (T := TX11) (N := 49) hx hb hg inGX11 hown hKN.1 hP 0 rfl rfl 24 (by decide) (hg _ kw_1232) (fun _ h9 => h9) rfl dX11_isInside_4 ?_
  refine lv_icmp_ge (tgt := 29) hx hb dX11_isInside_7 (by decide) (fun c15 => ?_) (fun c15 => ?_)
  · skip
    have c15 := i_le (Eq.refl (I 24).toInt) (Eq.refl g5.toInt) c15
    refine lv_iconst (v := 0) hx hb dX11_isInside_29 (by decide) ?_
    refine W.widen (k := 0) (n := 0) (Nat.le_of_ble_eq_true rfl) (Nat.le_of_ble_eq_true rfl) ?_
    have zi0 : (0 : Int32).toInt = 0 := by decide
    exact W.zret (v := 0) hx hb hr (by decide) (fun t ht hW => ⟨⟨0, rfl, ⟨(show (0 ≤ (0 : Int32).toInt ∧ (0 : Int32).toInt ≤ 1) by omega), ⟨(fun h => absurd h (by decide)), fun _ k hk => hr13 k (by omega)⟩⟩, CB.mk ht hP hD⟩, hS.F ht⟩) hS.2.2 dX11_isInside_30
  · skip
    have c15 := i_nle (Eq.refl (I 24).toInt) (Eq.refl g5.toInt) c15
    refine lv_aload_n hx hb dX11_isInside_10 rfl (lv_at hl 1 rfl) ?_
    refine va_get (D := D) (ci := 11) (v := .ref (a 23)) (C := RX11) (T := TX11) (N := 49) hx hb hg inGX11 hown hKN.1 hP 0 rfl rfl 23 (by decide) (hg _ kw_1231) (fun _ h9 => h9) rfl dX11_isInside_11 ?_
    refine lv_iload_n hx hb dX11_isInside_14 rfl (lv_at hl 0 rfl) ?_
    refine va_iald hx hb hKN.1 hP 16 0 rfl rfl (vp_in_iff.mpr ⟨by omega, by omega⟩) dX11_isInside_15 ?_
    refine lv_topi (fun v16 ev16 => ?_)
    have ev16 : v16 = (F 23) g5.toNatClampNeg := ev16
    have qv16 := congrArg Int32.toInt ev16
    refine lv_bipush (v := 91) hx hb dX11_isInside_16 (by decide) ?_
    have j17 := rgI v16
    refine lv_icmp_ne (tgt := 23) hx hb dX11_isInside_18 (by decide) (fun c18 => ?_) (fun c18 => ?_)
    · skip
      have c18 := i_ne (Eq.refl v16.toInt) (show (91 : Int32).toInt = 91 by decide) c18
      obtain ⟨v19, ev19⟩ : ∃ y : Int32, y = g5 + 1 := ⟨_, rfl⟩
      have hv19 := i_add (Eq.refl g5.toInt) (show (1 : Int32).toInt = 1 by decide) ev19 (by omega) (by omega)
      refine lv_iinc (v := v19) (lv' := [(1, .int v19), (0, .ref o)]) hx hb dX11_isInside_23 hl (k := 0) rfl (by rw [ev19]; rfl) (by decide) rfl (fun ls hl => ?_)
      refine lv_goto (tgt := 2) hx hb dX11_isInside_26 (by decide) ?_
      exact ih14 (v19) H locs ls (by show (400 - v19.toInt).toNat < (400 - g5.toInt).toNat; omega) ⟨hP, hD, hS, lv_sub hl [0, 1] rfl, by omega, by omega, (all_s (i := g5) hr13 (by omega) (by omega) (by omega))⟩
    · skip
      have c18 := i_eq (Eq.refl v16.toInt) (show (91 : Int32).toInt = 91 by decide) c18
      refine lv_iconst (v := 1) hx hb dX11_isInside_21 (by decide) ?_
      refine W.widen (k := 0) (n := 0) (Nat.le_of_ble_eq_true rfl) (Nat.le_of_ble_eq_true rfl) ?_
      have zi1 : (1 : Int32).toInt = 1 := by decide
      exact W.zret (v := 1) hx hb hr (by decide) (fun t ht hW => ⟨⟨1, rfl, ⟨(show (0 ≤ (1 : Int32).toInt ∧ (1 : Int32).toInt ≤ 1) by omega), ⟨fun _ => ⟨g5.toNatClampNeg, by have c := clampI (x := g5) (by omega); omega, by omega⟩, (fun h => absurd h (by decide))⟩⟩, CB.mk ht hP hD⟩, hS.F ht⟩) hS.2.2 dX11_isInside_22
set_option maxHeartbeats 4000000 in
set_option maxRecDepth 100000 in
theorem m_settles (l : Launch) (D : va_G) (Y : Nat → ClassId) (Z : Nat → Nat) (sz : Nat) (o : Nat) (a : Nat → Nat) (I : Nat → Int32) (J : Nat → Int64) (F : Nat → Nat → Int32) (G : Nat → Nat → Int64) (gs : Nat → Int32) (gb : Nat) (p1 : Int32) (hk_0 : (0 ≤ (I 19).toInt ∧ (I 19).toInt ≤ 17)) (hk_1 : (1 ≤ p1.toInt ∧ p1.toInt ≤ 3)) (hk_2 : (0 ≤ (I 24).toInt ∧ (I 24).toInt ≤ 400)) (hk_3 : (0 ≤ (I 20).toInt ∧ (I 20).toInt ≤ 60)) (hk_4 : (((F 6) (I 19).toNatClampNeg).toInt + (I 24).toInt ≤ 400)) (hr_PS : PSg (F 4) (F 8) (F 7) (F 5) (F 6) gs (I 19).toNatClampNeg gb (nbo (F 23) ((I 24).toInt).toNat + 1) ((I 20).toInt).toNat) (hr_EN : ent (F 23) ((I 24).toInt).toNat) : Met l yX11_settles (.code yX11_settles cX11_settles 2 none :: GW) ({ frames := 1, cells := 0, slots := 0, locals := 22 }) (va_Pc [.ref o, .int p1] (CP D Y Z (MW Y o a I J F G) sz)) (QG (S := Int32 × Int32 × (Nat → Int32) × (Nat → Int32)) (fun _ => none) (fun u => (0 ≤ u.1.toInt ∧ u.1.toInt ≤ 400) ∧ (u.1.toInt ≤ (I 24).toInt) ∧ ((u.2.2.2 (I 19).toNatClampNeg).toInt + u.1.toInt = ((F 6) (I 19).toNatClampNeg).toInt + (I 24).toInt) ∧ PSg (F 4) (F 8) (F 7) u.2.2.1 u.2.2.2 gs (I 19).toNatClampNeg gb (nbo (F 23) (u.1.toInt).toNat + 1) ((I 20).toInt).toNat ∧ (∀ k : Nat, (k : Int) < (I 24).toInt → ((F 23) k).toInt = 91 → (k : Int) < u.1.toInt) ∧ (p1.toInt = 1 → (u.1.toInt = 0 ∨ ((F 23) (u.1.toInt - 1).toNat).toInt = 91))) (fun u => CB D (MW Y o a (upd (upd I 21 u.2.1) 24 u.1) J (vf_upd (vf_upd F 5 u.2.2.1) 6 u.2.2.2) G) (va_A (MW Y o a I J F G) sz)) (va_A (MW Y o a I J F G) sz)) 0 0 (va_A (MW Y o a I J F G) sz) := by
  refine Met.ofW (cc := cX11_settles) (maxL := 2) (ret := none) (by decide) rfl ?_
  intro p e s m args below meth c s₁ B hml hv
  obtain ⟨rfl, hsz, hP, hKN, hD0⟩ := hv
  have hx := B.exec
  have hb := B.bytes
  have hr := B.returns
  have hts := atoms_spec (ws := .code yX11_settles cX11_settles 2 none :: GW) B.pre
  have hg : ∀ w ∈ GW, w.before _ s = true := fun w h => hts w (List.mem_cons_of_mem _ h)
  have hown : s.vm.findClass RX11 = some m.cls := findClass_of_methodNamed B.named
  have hlocks := B.notSynchronized
  subst hsz
  have hD := hD0.self (sz := s.heap.size)
  generalize hAe : va_A (MW Y o a I J F G) s.heap.size = A at hD ⊢
  have hA : ∀ q : Nat, s.heap.size ≤ q → A q := fun q h => by rw [← hAe]; exact Or.inr h
  clear hAe hD0 hts B
  have hl := lv_entry ([.ref o, .int p1]) (n := 2) (Nat.le_of_ble_eq_true rfl)
  rw [lg_entry_eq]
  generalize (lg_sl ([.ref o, .int p1]) ++ List.replicate (2 - (lg_sl ([.ref o, .int p1])).length) Slot.unset).toArray = ls at hl ⊢
  have hl : lv_has ls 2 [(0, .ref o), (1, .int p1)] := hl
  refine w_start (A0 := A) hP (fun H locs hP hS => ?_)
  refine w_loop (σ := Int32 × Int32 × (Nat → Int32) × (Nat → Int32)) (fun xx H locs ls => match xx with | (g26, g27, f28, f29) => va_P D vwCl (MW Y o a (upd (upd I 21 g26) 24 g27) J (vf_upd (vf_upd F 5 f28) 6 f29) G) H ∧ va_D A (MW Y o a (upd (upd I 21 g26) 24 g27) J (vf_upd (vf_upd F 5 f28) 6 f29) G) ∧ va_S A s.heap H locs ∧ lv_has ls 2 [(0, .ref o), (1, .int p1)] ∧ (0 ≤ g27.toInt ∧ g27.toInt ≤ 400) ∧ (g27.toInt ≤ (I 24).toInt) ∧ ((f29 (I 19).toNatClampNeg).toInt + g27.toInt = (F 6 (I 19).toNatClampNeg).toInt + (I 24).toInt) ∧ PSg (F 4) (F 8) (F 7) f28 f29 gs (I 19).toNatClampNeg gb (nbo (F 23) (g27.toInt).toNat + 1) ((I 20).toInt).toNat ∧ (∀ k : Nat, (k : Int) < (I 24).toInt → ((F 23) k).toInt = 91 → (k : Int) < g27.toInt)) (fun xx => match xx with | (g26, g27, f28, f29) => (g27.toInt).toNat) ((I 21), (I 24), (F 5), (F 6)) ⟨hP, hD, hS, lv_sub hl [0, 1] rfl, by omega, by omega, by omega, (PG_to hr_PS rfl (by omega) (by omega) (by omega)), (fun k h _ => h)⟩ (fun xx H locs ls hI ih => ?_)
  obtain ⟨g26, g27, f28, f29⟩ := xx
  obtain ⟨hP, hD, hS, hl, hq55, hq56, hq57, hr58, hr59⟩ := hI
  have ih60 := ih
  refine lv_aload_n hx hb dX11_settles_0 rfl (lv_at hl 0 rfl) ?_
  refine va_get (D := D) (ci := 11) (v := .int g27) (C := RX11) (T := TX11) (N := 49) hx hb hg inGX11 hown hKN.1 hP 0 rfl rfl 24 (by decide) (hg _ kw_1232) (fun _ h9 => h9) rfl dX11_settles_1 ?_
  refine lv_if_le (tgt := 76) hx hb dX11_settles_4 (by decide) (fun c61 => ?_) (fun c61 => ?_)
  · skip
    have c61 := i_le (Eq.refl g27.toInt) (show (0 : Int32).toInt = 0 by decide) c61
    refine W.widen (k := 0) (n := 0) (Nat.le_of_ble_eq_true rfl) (Nat.le_of_ble_eq_true rfl) ?_
    exact W.vret hx hb hr (fun t ht hW => ⟨⟨(g27, g26, f28, f29), rfl, ⟨(show (0 ≤ g27.toInt ∧ g27.toInt ≤ 400) by omega), (show (g27.toInt ≤ (I 24).toInt) by omega), (show ((f29 (I 19).toNatClampNeg).toInt + g27.toInt = ((F 6) (I 19).toNatClampNeg).toInt + (I 24).toInt) by omega), (PG_to hr58 rfl (by omega) (by omega) (by omega)), hr59, (by first | exact (fun _ => Or.inl (by omega)))⟩, CB.mk ht hP hD⟩, hS.F ht⟩) hS.2.2 dX11_settles_76
  · skip
    have c61 := i_nle (Eq.refl g27.toInt) (show (0 : Int32).toInt = 0 by decide) c61
    refine lv_aload_n hx hb dX11_settles_7 rfl (lv_at hl 0 rfl) ?_
    refine va_get (D := D) (ci := 11) (v := .ref (a 23)) (C := RX11) (T := TX11) (N := 49) hx hb hg inGX11 hown hKN.1 hP 0 rfl rfl 23 (by decide) (hg _ kw_1231) (fun _ h9 => h9) rfl dX11_settles_8 ?_
    refine lv_aload_n hx hb dX11_settles_11 rfl (lv_at hl 0 rfl) ?_
    refine va_get (D := D) (ci := 11) (v := .int g27) (C := RX11) (T := TX11) (N := 49) hx hb hg inGX11 hown hKN.1 hP 0 rfl rfl 24 (by decide) (hg _ kw_1232) (fun _ h9 => h9) rfl dX11_settles_12 ?_
    refine lv_iconst (v := 1) hx hb dX11_settles_15 (by decide) ?_
    refine lv_isub hx hb dX11_settles_16 ?_
    refine lv_topi (fun v62 ev62 => ?_)
    have hv62 := i_sub (Eq.refl g27.toInt) (show (1 : Int32).toInt = 1 by decide) ev62 (by omega) (by omega)
    refine va_iald hx hb hKN.1 hP 16 0 rfl rfl (vp_in_iff.mpr ⟨by omega, by omega⟩) dX11_settles_17 ?_
    refine lv_topi (fun v63 ev63 => ?_)
    have ev63 : v63 = (F 23) v62.toNatClampNeg := ev63
    have qv63 := congrArg Int32.toInt ev63
    have t64 := ent_g (i := v62) hr_EN (by omega) (by omega)
    refine cg0 (rn_S (As := [.int v63]) (rest := []) (m_strength l D Y Z H.size   v63 ) ⟨hx, hb, hml, hown, hg⟩ lk_X11_246 ⟨CP.blind, CP.at nilP hKN (nilD (A := fun _ => True))⟩ ⟨⟨rfl, rfl⟩, ⟨Nat.le_of_ble_eq_true rfl, Nat.le_of_ble_eq_true rfl⟩, ⟨Nat.le_of_ble_eq_true rfl, Nat.le_of_ble_eq_true rfl⟩⟩ hl.1 rfl (Nat.le_of_ble_eq_true rfl) dX11_settles_18) hP hS hA (fun u65 H locs w66 hP hS => ?_)
    have w66 : (0 ≤ u65.toInt ∧ u65.toInt ≤ 3) ∧ ((v63.toInt = 13 ∧ u65.toInt = 1) ∨ (v63.toInt = 12 ∧ u65.toInt = 2) ∨ (v63.toInt = 11 ∧ u65.toInt = 3) ∨ (v63.toInt ≠ 11 ∧ v63.toInt ≠ 12 ∧ v63.toInt ≠ 13 ∧ u65.toInt = 0)) := w66
    obtain ⟨hw68, hw69⟩ := w66
    refine W.eq (g2 := F0 m 21 ls [.int u65]) rfl ?_
    refine lv_iload_n hx hb dX11_settles_21 rfl (lv_at hl 1 rfl) ?_
    refine lv_icmp_lt (tgt := 76) hx hb dX11_settles_22 (by decide) (fun c70 => ?_) (fun c70 => ?_)
    · skip
      have c70 := i_lt (Eq.refl u65.toInt) (Eq.refl p1.toInt) c70
      refine W.widen (k := 0) (n := 0) (Nat.le_of_ble_eq_true rfl) (Nat.le_of_ble_eq_true rfl) ?_
      exact W.vret hx hb hr (fun t ht hW => ⟨⟨(g27, g26, f28, f29), rfl, ⟨(show (0 ≤ g27.toInt ∧ g27.toInt ≤ 400) by omega), (show (g27.toInt ≤ (I 24).toInt) by omega), (show ((f29 (I 19).toNatClampNeg).toInt + g27.toInt = ((F 6) (I 19).toNatClampNeg).toInt + (I 24).toInt) by omega), (PG_to hr58 rfl (by omega) (by omega) (by omega)), hr59, (by first | exact (fun _ => Or.inl (by omega)) | exact (fun h => Or.inr (st_at (i := v62) (by omega) (by omega))))⟩, CB.mk ht hP hD⟩, hS.F ht⟩) hS.2.2 dX11_settles_76
    · skip
      have c70 := i_nlt (Eq.refl u65.toInt) (Eq.refl p1.toInt) c70
      refine lv_aload_n hx hb dX11_settles_25 rfl (lv_at hl 0 rfl) ?_
      refine lv_dup hx hb dX11_settles_26 rfl ?_
      refine va_get (D := D) (ci := 11) (v := .int g27) (C := RX11) (T := TX11) (N := 49) hx hb hg inGX11 hown hKN.1 hP 0 rfl rfl 24 (by decide) (hg _ kw_1232) (fun _ h9 => h9) rfl dX11_settles_27 ?_
      refine lv_iconst (v := 1) hx hb dX11_settles_30 (by decide) ?_
      refine lv_isub hx hb dX11_settles_31 ?_
      refine lv_topi (fun v71 ev71 => ?_)
      have hv71 := i_sub (Eq.refl g27.toInt) (show (1 : Int32).toInt = 1 by decide) ev71 (by omega) (by omega)
      refine va_put (D := D) (ci := 11) (v := .int v71) (ty := .int) (C := RX11) (T := TX11) (N := 49) hx hb hg inGX11 tyX11 tyX11_ok nmX11 hown hKN.1 hP hD hS 0 rfl rfl 24 (by decide) (hg _ kw_1232) (fun _ h9 => h9) rfl (by decide +kernel) rfl rfl (Nat.le_of_ble_eq_true rfl) dX11_settles_32 (fun H locs hP hD hS => ?_)
      have hP : va_P D vwCl (MW Y o a (upd (upd I 21 g26) 24 v71) J (vf_upd (vf_upd F 5 f28) 6 f29) G) H := hP
      have hD : va_D A (MW Y o a (upd (upd I 21 g26) 24 v71) J (vf_upd (vf_upd F 5 f28) 6 f29) G) := hD
      refine lv_aload_n hx hb dX11_settles_35 rfl (lv_at hl 0 rfl) ?_
      refine lv_aload_n hx hb dX11_settles_36 rfl (lv_at hl 0 rfl) ?_
      refine va_get (D := D) (ci := 11) (v := .ref (a 23)) (C := RX11) (T := TX11) (N := 49) hx hb hg inGX11 hown hKN.1 hP 0 rfl rfl 23 (by decide) (hg _ kw_1231) (fun _ h9 => h9) rfl dX11_settles_37 ?_
      refine lv_aload_n hx hb dX11_settles_40 rfl (lv_at hl 0 rfl) ?_
      refine va_get (D := D) (ci := 11) (v := .int v71) (C := RX11) (T := TX11) (N := 49) hx hb hg inGX11 hown hKN.1 hP 0 rfl rfl 24 (by decide) (hg _ kw_1232) (fun _ h9 => h9) rfl dX11_settles_41 ?_
      refine va_iald hx hb hKN.1 hP 16 0 rfl rfl (vp_in_iff.mpr ⟨by omega, by omega⟩) dX11_settles_44 ?_
      refine lv_topi (fun v72 ev72 => ?_)
      have ev72 : v72 = (F 23) v71.toNatClampNeg := ev72
      have qv72 := congrArg Int32.toInt ev72
      have t73 : v62.toInt = v71.toInt → ((F 23) v62.toNatClampNeg).toInt = ((F 23) v71.toNatClampNeg).toInt := fun h => by rw [Int32.toInt_inj.mp h]
      have t74 := nbo_pop3 (op := (F 23)) (n := g27.toInt.toNat) (i := v71) (by omega) (by omega)
      have t75 := PG_dep hr58
      have t76 := PG_len hr58
      refine lv_iconst (v := 0) hx hb dX11_settles_45 (by decide) ?_
      have zi0 : (0 : Int32).toInt = 0 := by decide
      refine cga (rn_V (As := [.int v72, .int 0]) (rest := []) (b := o) (m_puts l D Y Z H.size o a (upd (upd I 21 g26) 24 v71) J (vf_upd (vf_upd F 5 f28) 6 f29) G  v72 0 (show (0 ≤ (I 19).toInt ∧ (I 19).toInt ≤ 17) by omega) (show (0 ≤ v72.toInt ∧ v72.toInt ≤ 15) by omega) (show (0 ≤ (0 : Int32).toInt ∧ (0 : Int32).toInt ≤ 99999) by omega) (show (0 ≤ (f29 (I 19).toNatClampNeg).toInt ∧ (f29 (I 19).toNatClampNeg).toInt ≤ 399) by omega)) ⟨hx, hb, hml, hown, hg⟩ lk_X11_250 ⟨CP.blind, va_recv hKN.1 hP (ci := 11) (q0 := 0) rfl rfl, CP.at hP hKN hD⟩ ⟨⟨rfl, rfl⟩, ⟨Nat.le_of_ble_eq_true rfl, Nat.le_of_ble_eq_true rfl⟩, ⟨Nat.le_of_ble_eq_true rfl, Nat.le_of_ble_eq_true rfl⟩⟩ hl.1 rfl (Nat.le_of_ble_eq_true rfl) dX11_settles_46) hP hD hS hA (fun u77 H locs w78 hP hD hS => ?_)
      obtain ⟨f79, f80⟩ := u77
      have w78 : PU f28 f79 f29 f80 (I 19).toNatClampNeg v72.toInt (0 : Int32).toInt := w78
      have hw81 := w78
      refine W.eq (g2 := F0 m 49 ls []) rfl ?_
      have hP : va_P D vwCl (MW Y o a (upd (upd I 21 g26) 24 v71) J (vf_upd (vf_upd F 5 f79) 6 f80) G) H := hP
      have hD : va_D A (MW Y o a (upd (upd I 21 g26) 24 v71) J (vf_upd (vf_upd F 5 f79) 6 f80) G) := hD
      have t82 := PG_pu (e := (nbo (F 23) v71.toInt.toNat + 1)) hr58 hw81 (fun x hx => stp_set hx (by omega) (by omega) (by omega) (by omega)) (by omega) (by omega)
      obtain ⟨t82p, t82l⟩ := t82
      refine lv_aload_n hx hb dX11_settles_49 rfl (lv_at hl 0 rfl) ?_
      refine va_get (D := D) (ci := 11) (v := .ref (a 23)) (C := RX11) (T := TX11) (N := 49) hx hb hg inGX11 hown hKN.1 hP 0 rfl rfl 23 (by decide) (hg _ kw_1231) (fun _ h9 => h9) rfl dX11_settles_50 ?_
      refine lv_aload_n hx hb dX11_settles_53 rfl (lv_at hl 0 rfl) ?_
      refine va_get (D := D) (ci := 11) (v := .int v71) (C := RX11) (T := TX11) (N := 49) hx hb hg inGX11 hown hKN.1 hP 0 rfl rfl 24 (by decide) (hg _ kw_1232) (fun _ h9 => h9) rfl dX11_settles_54 ?_
      refine va_iald hx hb hKN.1 hP 16 0 rfl rfl (vp_in_iff.mpr ⟨by omega, by omega⟩) dX11_settles_57 ?_
      refine lv_topi (fun v83 ev83 => ?_)
      have ev83 : v83 = (F 23) v71.toNatClampNeg := ev83
      have qv83 := congrArg Int32.toInt ev83
      refine lv_bipush (v := 11) hx hb dX11_settles_58 (by decide) ?_
      have j84 := rgI v83
      refine lv_icmp_ne (tgt := 0) hx hb dX11_settles_60 (by decide) (fun c85 => ?_) (fun c85 => ?_)
      · skip
        have c85 := i_ne (Eq.refl v83.toInt) (show (11 : Int32).toInt = 11 by decide) c85
        exact ih60 (g26, v71, f79, f80) H locs ls (by show (v71.toInt).toNat < (g27.toInt).toNat; omega) ⟨hP, hD, hS, lv_sub hl [0, 1] rfl, by omega, by omega, by omega, (PG_to t82p rfl (by omega) (by omega) (by omega)), (BR_s (g := g27.toInt) (i := v62) hr59 (by omega) (by omega) (by omega) (by omega))⟩
      · skip
        have c85 := i_eq (Eq.refl v83.toInt) (show (11 : Int32).toInt = 11 by decide) c85
        refine lv_aload_n hx hb dX11_settles_63 rfl (lv_at hl 0 rfl) ?_
        refine lv_dup hx hb dX11_settles_64 rfl ?_
        refine va_get (D := D) (ci := 11) (v := .int g26) (C := RX11) (T := TX11) (N := 49) hx hb hg inGX11 hown hKN.1 hP 0 rfl rfl 21 (by decide) (hg _ kw_1229) (fun _ h9 => h9) rfl dX11_settles_65 ?_
        refine lv_iconst (v := 1) hx hb dX11_settles_68 (by decide) ?_
        refine lv_isub hx hb dX11_settles_69 ?_
        refine lv_topi (fun v86 ev86 => ?_)
        refine va_put (D := D) (ci := 11) (v := .int v86) (ty := .int) (C := RX11) (T := TX11) (N := 49) hx hb hg inGX11 tyX11 tyX11_ok nmX11 hown hKN.1 hP hD hS 0 rfl rfl 21 (by decide) (hg _ kw_1229) (fun _ h9 => h9) rfl (by decide +kernel) rfl rfl (Nat.le_of_ble_eq_true rfl) dX11_settles_70 (fun H locs hP hD hS => ?_)
        have hP : va_P D vwCl (MW Y o a (upd (upd I 21 v86) 24 v71) J (vf_upd (vf_upd F 5 f79) 6 f80) G) H := hP
        have hD : va_D A (MW Y o a (upd (upd I 21 v86) 24 v71) J (vf_upd (vf_upd F 5 f79) 6 f80) G) := hD
        refine lv_goto (tgt := 0) hx hb dX11_settles_73 (by decide) ?_
        exact ih60 (v86, v71, f79, f80) H locs ls (by show (v71.toInt).toNat < (g27.toInt).toNat; omega) ⟨hP, hD, hS, lv_sub hl [0, 1] rfl, by omega, by omega, by omega, (PG_to t82p rfl (by omega) (by omega) (by omega)), (BR_s (g := g27.toInt) (i := v62) hr59 (by omega) (by omega) (by omega) (by omega))⟩
set_option maxHeartbeats 4000000 in
set_option maxRecDepth 100000 in
theorem m_closes (l : Launch) (D : va_G) (Y : Nat → ClassId) (Z : Nat → Nat) (sz : Nat) (o : Nat) (a : Nat → Nat) (I : Nat → Int32) (J : Nat → Int64) (F : Nat → Nat → Int32) (G : Nat → Nat → Int64) (gs : Nat → Int32) (gb : Nat) (hk_0 : (0 ≤ (I 16).toInt ∧ (I 16).toInt ≤ 400)) (hk_1 : (0 ≤ (I 3).toInt ∧ (I 3).toInt ≤ 400)) (hk_2 : ((I 16).toInt ≤ (I 3).toInt)) (hk_3 : (0 ≤ (I 20).toInt ∧ (I 20).toInt ≤ 60)) (hk_4 : (0 ≤ (I 19).toInt ∧ (I 19).toInt ≤ 17)) (hk_5 : (0 ≤ (I 24).toInt ∧ (I 24).toInt ≤ 400)) (hk_6 : (((F 6) (I 19).toNatClampNeg).toInt + (I 24).toInt ≤ (I 16).toInt)) (hr_PS : PSg (F 4) (F 8) (F 7) (F 5) (F 6) gs (I 19).toNatClampNeg gb (nbo (F 23) ((I 24).toInt).toNat + 1) ((I 20).toInt).toNat) (hr_EN : ent (F 23) ((I 24).toInt).toNat) : Met l yX11_closes (.code yX11_closes cX11_closes 1 none :: GW) ({ frames := 2, cells := 0, slots := 0, locals := 43 }) (va_Pc [.ref o] (CP D Y Z (MW Y o a I J F G) sz)) (QG (S := Int32 × Int32 × Int32 × (Nat → Int32) × (Nat → Int32)) (fun _ => none) (fun u => (0 ≤ u.1.toInt ∧ u.1.toInt ≤ 400) ∧ ((I 16).toInt ≤ u.1.toInt) ∧ (u.1.toInt ≤ (I 3).toInt) ∧ (0 ≤ u.2.1.toInt ∧ u.2.1.toInt ≤ 400) ∧ (u.2.1.toInt ≤ (I 24).toInt) ∧ ((u.2.2.2.2 (I 19).toNatClampNeg).toInt + u.2.1.toInt ≤ u.1.toInt) ∧ PSg (F 4) (F 8) (F 7) u.2.2.2.1 u.2.2.2.2 gs (I 19).toNatClampNeg gb (nbo (F 23) (u.2.1.toInt).toNat + 1) ((I 20).toInt).toNat) (fun u => CB D (MW Y o a (upd (upd (upd I 16 u.1) 21 u.2.2.1) 24 u.2.1) J (vf_upd (vf_upd F 5 u.2.2.2.1) 6 u.2.2.2.2) G) (va_A (MW Y o a I J F G) sz)) (va_A (MW Y o a I J F G) sz)) 0 0 (va_A (MW Y o a I J F G) sz) := by
  refine Met.ofW (cc := cX11_closes) (maxL := 1) (ret := none) (by decide) rfl ?_
  intro p e s m args below meth c s₁ B hml hv
  obtain ⟨rfl, hsz, hP, hKN, hD0⟩ := hv
  have hx := B.exec
  have hb := B.bytes
  have hr := B.returns
  have hts := atoms_spec (ws := .code yX11_closes cX11_closes 1 none :: GW) B.pre
  have hg : ∀ w ∈ GW, w.before _ s = true := fun w h => hts w (List.mem_cons_of_mem _ h)
  have hown : s.vm.findClass RX11 = some m.cls := findClass_of_methodNamed B.named
  have hlocks := B.notSynchronized
  subst hsz
  have hD := hD0.self (sz := s.heap.size)
  generalize hAe : va_A (MW Y o a I J F G) s.heap.size = A at hD ⊢
  have hA : ∀ q : Nat, s.heap.size ≤ q → A q := fun q h => by rw [← hAe]; exact Or.inr h
  clear hAe hD0 hts B
  have hl := lv_entry ([.ref o]) (n := 1) (Nat.le_of_ble_eq_true rfl)
  rw [lg_entry_eq]
  generalize (lg_sl ([.ref o]) ++ List.replicate (1 - (lg_sl ([.ref o])).length) Slot.unset).toArray = ls at hl ⊢
  have hl : lv_has ls 1 [(0, .ref o)] := hl
  refine w_start (A0 := A) hP (fun H locs hP hS => ?_)
  refine lv_aload_n hx hb dX11_closes_0 rfl (lv_at hl 0 rfl) ?_
  refine lv_iconst (v := 3) hx hb dX11_closes_1 (by decide) ?_
  have zi3 : (3 : Int32).toInt = 3 := by decide
  refine cga (rn_V (As := [.int 3]) (rest := []) (b := o) (m_settles l D Y Z H.size o a I J F G gs gb 3 (show (0 ≤ (I 19).toInt ∧ (I 19).toInt ≤ 17) by omega) (show (1 ≤ (3 : Int32).toInt ∧ (3 : Int32).toInt ≤ 3) by omega) (show (0 ≤ (I 24).toInt ∧ (I 24).toInt ≤ 400) by omega) (show (0 ≤ (I 20).toInt ∧ (I 20).toInt ≤ 60) by omega) (show (((F 6) (I 19).toNatClampNeg).toInt + (I 24).toInt ≤ 400) by omega) (PG_to hr_PS rfl (by omega) (by omega) (by omega)) (ent_le hr_EN (by omega))) ⟨hx, hb, hml, hown, hg⟩ lk_X11_282 ⟨CP.blind, va_recv hKN.1 hP (ci := 11) (q0 := 0) rfl rfl, CP.at hP hKN hD⟩ ⟨⟨rfl, rfl⟩, ⟨Nat.le_of_ble_eq_true rfl, Nat.le_of_ble_eq_true rfl⟩, ⟨Nat.le_of_ble_eq_true rfl, Nat.le_of_ble_eq_true rfl⟩⟩ hl.1 rfl (Nat.le_of_ble_eq_true rfl) dX11_closes_2) hP hD hS hA (fun u1 H locs w2 hP hD hS => ?_)
  obtain ⟨u3, u4, f5, f6⟩ := u1
  have w2 : (0 ≤ u3.toInt ∧ u3.toInt ≤ 400) ∧ (u3.toInt ≤ (I 24).toInt) ∧ ((f6 (I 19).toNatClampNeg).toInt + u3.toInt = ((F 6) (I 19).toNatClampNeg).toInt + (I 24).toInt) ∧ PSg (F 4) (F 8) (F 7) f5 f6 gs (I 19).toNatClampNeg gb (nbo (F 23) (u3.toInt).toNat + 1) ((I 20).toInt).toNat ∧ (∀ k : Nat, (k : Int) < (I 24).toInt → ((F 23) k).toInt = 91 → (k : Int) < u3.toInt) ∧ ((3 : Int32).toInt = 1 → (u3.toInt = 0 ∨ ((F 23) (u3.toInt - 1).toNat).toInt = 91)) := w2
  obtain ⟨hw7, hw8, hw9, hw10, hw11, hw12⟩ := w2
  refine W.eq (g2 := F0 m 5 ls []) rfl ?_
  have hP : va_P D vwCl (MW Y o a (upd (upd I 21 u4) 24 u3) J (vf_upd (vf_upd F 5 f5) 6 f6) G) H := hP
  have hD : va_D A (MW Y o a (upd (upd I 21 u4) 24 u3) J (vf_upd (vf_upd F 5 f5) 6 f6) G) := hD
  refine w_loop (σ := Int32 × Int32 × Int32 × (Nat → Int32) × (Nat → Int32)) (fun xx H locs ls => match xx with | (g61, g62, g63, f64, f65) => va_P D vwCl (MW Y o a (upd (upd (upd I 16 g61) 21 g62) 24 g63) J (vf_upd (vf_upd F 5 f64) 6 f65) G) H ∧ va_D A (MW Y o a (upd (upd (upd I 16 g61) 21 g62) 24 g63) J (vf_upd (vf_upd F 5 f64) 6 f65) G) ∧ va_S A s.heap H locs ∧ lv_has ls 1 [(0, .ref o)] ∧ (0 ≤ g61.toInt ∧ g61.toInt ≤ 400) ∧ (g61.toInt ≤ (I 3).toInt) ∧ ((I 16).toInt ≤ g61.toInt) ∧ (0 ≤ g63.toInt ∧ g63.toInt ≤ 400) ∧ (g63.toInt ≤ (I 24).toInt) ∧ ((f65 (I 19).toNatClampNeg).toInt + g63.toInt ≤ g61.toInt) ∧ PSg (F 4) (F 8) (F 7) f64 f65 gs (I 19).toNatClampNeg gb (nbo (F 23) (g63.toInt).toNat + 1) ((I 20).toInt).toNat) (fun xx => match xx with | (g61, g62, g63, f64, f65) => (400 - g61.toInt).toNat) ((I 16), u4, u3, f5, f6) ⟨hP, hD, hS, lv_sub hl [0] rfl, by omega, by omega, by omega, by omega, by omega, by omega, (PG_to hw10 rfl (by omega) (by omega) (by omega))⟩ (fun xx H locs ls hI ih => ?_)
  obtain ⟨g61, g62, g63, f64, f65⟩ := xx
  obtain ⟨hP, hD, hS, hl, hq114, hq115, hq116, hq117, hq118, hq119, hr120⟩ := hI
  have ih121 := ih
  refine lv_aload_n hx hb dX11_closes_5 rfl (lv_at hl 0 rfl) ?_
  refine cga (rn_V (As := []) (rest := []) (b := o) (m_see l D Y Z H.size o a (upd (upd (upd I 16 g61) 21 g62) 24 g63) J (vf_upd (vf_upd F 5 f64) 6 f65) G   (show (0 ≤ g61.toInt ∧ g61.toInt ≤ 400) by omega) (show (0 ≤ (I 3).toInt ∧ (I 3).toInt ≤ 400) by omega) (show (g61.toInt ≤ (I 3).toInt) by omega)) ⟨hx, hb, hml, hown, hg⟩ lk_X11_183 ⟨CP.blind, va_recv hKN.1 hP (ci := 11) (q0 := 0) rfl rfl, CP.at hP hKN hD⟩ ⟨⟨rfl, rfl⟩, ⟨Nat.le_of_ble_eq_true rfl, Nat.le_of_ble_eq_true rfl⟩, ⟨Nat.le_of_ble_eq_true rfl, Nat.le_of_ble_eq_true rfl⟩⟩ hl.1 rfl (Nat.le_of_ble_eq_true rfl) dX11_closes_6) hP hD hS hA (fun u122 H locs w123 hP hD hS => ?_)
  obtain ⟨u124, u125⟩ := u122
  have w123 : (0 ≤ u125.toInt ∧ u125.toInt ≤ 400) ∧ (g61.toInt ≤ u125.toInt) ∧ (u125.toInt ≤ (I 3).toInt) ∧ ((u124.toInt = -1 ∧ u125.toInt = (I 3).toInt) ∨ (0 ≤ u124.toInt ∧ u124.toInt ≤ 255 ∧ u125.toInt < (I 3).toInt ∧ ((F 2) u125.toNatClampNeg).toInt ≠ 32)) ∧ (-1 ≤ u124.toInt ∧ u124.toInt ≤ 255) ∧ ((g61.toInt < (I 3).toInt ∧ ((F 2) g61.toNatClampNeg).toInt ≠ 32) → u125.toInt = g61.toInt) := w123
  obtain ⟨hw126, hw127, hw128, hw129, hw130, hw131⟩ := w123
  refine W.eq (g2 := F0 m 9 ls [.int u124]) rfl ?_
  have hP : va_P D vwCl (MW Y o a (upd (upd (upd I 16 u125) 21 g62) 24 g63) J (vf_upd (vf_upd F 5 f64) 6 f65) G) H := hP
  have hD : va_D A (MW Y o a (upd (upd (upd I 16 u125) 21 g62) 24 g63) J (vf_upd (vf_upd F 5 f64) 6 f65) G) := hD
  refine lv_bipush (v := 93) hx hb dX11_closes_9 (by decide) ?_
  refine lv_icmp_ne (tgt := 64) hx hb dX11_closes_11 (by decide) (fun c132 => ?_) (fun c132 => ?_)
  · skip
    have c132 := i_ne (Eq.refl u124.toInt) (show (93 : Int32).toInt = 93 by decide) c132
    refine W.widen (k := 0) (n := 0) (Nat.le_of_ble_eq_true rfl) (Nat.le_of_ble_eq_true rfl) ?_
    exact W.vret hx hb hr (fun t ht hW => ⟨⟨(u125, g63, g62, f64, f65), rfl, ⟨(show (0 ≤ u125.toInt ∧ u125.toInt ≤ 400) by omega), (show ((I 16).toInt ≤ u125.toInt) by omega), (show (u125.toInt ≤ (I 3).toInt) by omega), (show (0 ≤ g63.toInt ∧ g63.toInt ≤ 400) by omega), (show (g63.toInt ≤ (I 24).toInt) by omega), (show ((f65 (I 19).toNatClampNeg).toInt + g63.toInt ≤ u125.toInt) by omega), (PG_to hr120 rfl (by omega) (by omega) (by omega))⟩, CB.mk ht hP hD⟩, hS.F ht⟩) hS.2.2 dX11_closes_64
  · skip
    have c132 := i_eq (Eq.refl u124.toInt) (show (93 : Int32).toInt = 93 by decide) c132
    refine lv_aload_n hx hb dX11_closes_14 rfl (lv_at hl 0 rfl) ?_
    refine cga (rn_V (As := []) (rest := []) (b := o) (m_isInside l D Y Z H.size o a (upd (upd (upd I 16 u125) 21 g62) 24 g63) J (vf_upd (vf_upd F 5 f64) 6 f65) G   (show (0 ≤ g63.toInt ∧ g63.toInt ≤ 400) by omega)) ⟨hx, hb, hml, hown, hg⟩ lk_X11_285 ⟨CP.blind, va_recv hKN.1 hP (ci := 11) (q0 := 0) rfl rfl, CP.at hP hKN hD⟩ ⟨⟨rfl, rfl⟩, ⟨Nat.le_of_ble_eq_true rfl, Nat.le_of_ble_eq_true rfl⟩, ⟨Nat.le_of_ble_eq_true rfl, Nat.le_of_ble_eq_true rfl⟩⟩ hl.1 rfl (Nat.le_of_ble_eq_true rfl) dX11_closes_15) hP hD hS hA (fun u133 H locs w134 hP hD hS => ?_)
    have w134 : (0 ≤ u133.toInt ∧ u133.toInt ≤ 1) ∧ ((u133.toInt = 1 → ∃ k : Nat, (k : Int) < g63.toInt ∧ ((F 23) k).toInt = 91) ∧ (u133.toInt = 0 → ∀ k : Nat, (k : Int) < g63.toInt → ((F 23) k).toInt ≠ 91)) := w134
    obtain ⟨hw136, hw137⟩ := w134
    refine W.eq (g2 := F0 m 18 ls [.int u133]) rfl ?_
    have hP : va_P D vwCl (MW Y o a (upd (upd (upd I 16 u125) 21 g62) 24 g63) J (vf_upd (vf_upd F 5 f64) 6 f65) G) H := hP
    have hD : va_D A (MW Y o a (upd (upd (upd I 16 u125) 21 g62) 24 g63) J (vf_upd (vf_upd F 5 f64) 6 f65) G) := hD
    rcases (show u133.toInt = 1 ∨ u133.toInt = 0 by omega) with c138 | c138
    · obtain rfl : u133 = 1 := i_is c138 (by decide)
      have zi1 : (1 : Int32).toInt = 1 := by decide
      refine W.eq (g2 := F0 m 18 ls [.int 1]) rfl ?_
      refine lv_if_eq (tgt := 64) hx hb dX11_closes_18 (by decide) (fun c139 => ?_) (fun c139 => ?_)
      · exact absurd c139 (by decide)
      refine lv_aload_n hx hb dX11_closes_21 rfl (lv_at hl 0 rfl) ?_
      refine lv_iconst (v := 1) hx hb dX11_closes_22 (by decide) ?_
      refine cga (rn_V (As := [.int 1]) (rest := []) (b := o) (m_settles l D Y Z H.size o a (upd (upd (upd I 16 u125) 21 g62) 24 g63) J (vf_upd (vf_upd F 5 f64) 6 f65) G gs gb 1 (show (0 ≤ (I 19).toInt ∧ (I 19).toInt ≤ 17) by omega) (show (1 ≤ (1 : Int32).toInt ∧ (1 : Int32).toInt ≤ 3) by omega) (show (0 ≤ g63.toInt ∧ g63.toInt ≤ 400) by omega) (show (0 ≤ (I 20).toInt ∧ (I 20).toInt ≤ 60) by omega) (show ((f65 (I 19).toNatClampNeg).toInt + g63.toInt ≤ 400) by omega) (PG_to hr120 rfl (by omega) (by omega) (by omega)) (ent_le hr_EN (by omega))) ⟨hx, hb, hml, hown, hg⟩ lk_X11_282 ⟨CP.blind, va_recv hKN.1 hP (ci := 11) (q0 := 0) rfl rfl, CP.at hP hKN hD⟩ ⟨⟨rfl, rfl⟩, ⟨Nat.le_of_ble_eq_true rfl, Nat.le_of_ble_eq_true rfl⟩, ⟨Nat.le_of_ble_eq_true rfl, Nat.le_of_ble_eq_true rfl⟩⟩ hl.1 rfl (Nat.le_of_ble_eq_true rfl) dX11_closes_23) hP hD hS hA (fun u140 H locs w141 hP hD hS => ?_)
      obtain ⟨u142, u143, f144, f145⟩ := u140
      have w141 : (0 ≤ u142.toInt ∧ u142.toInt ≤ 400) ∧ (u142.toInt ≤ g63.toInt) ∧ ((f145 (I 19).toNatClampNeg).toInt + u142.toInt = (f65 (I 19).toNatClampNeg).toInt + g63.toInt) ∧ PSg (F 4) (F 8) (F 7) f144 f145 gs (I 19).toNatClampNeg gb (nbo (F 23) (u142.toInt).toNat + 1) ((I 20).toInt).toNat ∧ (∀ k : Nat, (k : Int) < g63.toInt → ((F 23) k).toInt = 91 → (k : Int) < u142.toInt) ∧ ((1 : Int32).toInt = 1 → (u142.toInt = 0 ∨ ((F 23) (u142.toInt - 1).toNat).toInt = 91)) := w141
      obtain ⟨hw146, hw147, hw148, hw149, hw150, hw151⟩ := w141
      refine W.eq (g2 := F0 m 26 ls []) rfl ?_
      have hP : va_P D vwCl (MW Y o a (upd (upd (upd I 16 u125) 21 u143) 24 u142) J (vf_upd (vf_upd F 5 f144) 6 f145) G) H := hP
      have hD : va_D A (MW Y o a (upd (upd (upd I 16 u125) 21 u143) 24 u142) J (vf_upd (vf_upd F 5 f144) 6 f145) G) := hD
      obtain ⟨t152k, t1521, t1522⟩ := hw137.1 (by decide)
      have t1523 := hw150 t152k t1521 t1522
      have t1524 := (hw151 (by decide)).resolve_left (by omega)
      refine lv_aload_n hx hb dX11_closes_26 rfl (lv_at hl 0 rfl) ?_
      refine lv_dup hx hb dX11_closes_27 rfl ?_
      refine va_get (D := D) (ci := 11) (v := .int u142) (C := RX11) (T := TX11) (N := 49) hx hb hg inGX11 hown hKN.1 hP 0 rfl rfl 24 (by decide) (hg _ kw_1232) (fun _ h9 => h9) rfl dX11_closes_28 ?_
      refine lv_iconst (v := 1) hx hb dX11_closes_31 (by decide) ?_
      refine lv_isub hx hb dX11_closes_32 ?_
      refine lv_topi (fun v153 ev153 => ?_)
      have hv153 := i_sub (Eq.refl u142.toInt) (show (1 : Int32).toInt = 1 by decide) ev153 (by omega) (by omega)
      refine va_put (D := D) (ci := 11) (v := .int v153) (ty := .int) (C := RX11) (T := TX11) (N := 49) hx hb hg inGX11 tyX11 tyX11_ok nmX11 hown hKN.1 hP hD hS 0 rfl rfl 24 (by decide) (hg _ kw_1232) (fun _ h9 => h9) rfl (by decide +kernel) rfl rfl (Nat.le_of_ble_eq_true rfl) dX11_closes_33 (fun H locs hP hD hS => ?_)
      have hP : va_P D vwCl (MW Y o a (upd (upd (upd I 16 u125) 21 u143) 24 v153) J (vf_upd (vf_upd F 5 f144) 6 f145) G) H := hP
      have hD : va_D A (MW Y o a (upd (upd (upd I 16 u125) 21 u143) 24 v153) J (vf_upd (vf_upd F 5 f144) 6 f145) G) := hD
      have t154 := st_at2 (i := v153) (by omega) t1524
      have t154n := nbo_pop3 (op := (F 23)) (n := u142.toInt.toNat) (i := v153) (by omega) (by omega)
      refine lv_aload_n hx hb dX11_closes_36 rfl (lv_at hl 0 rfl) ?_
      refine lv_dup hx hb dX11_closes_37 rfl ?_
      refine va_get (D := D) (ci := 11) (v := .int u143) (C := RX11) (T := TX11) (N := 49) hx hb hg inGX11 hown hKN.1 hP 0 rfl rfl 21 (by decide) (hg _ kw_1229) (fun _ h9 => h9) rfl dX11_closes_38 ?_
      refine lv_iconst (v := 1) hx hb dX11_closes_41 (by decide) ?_
      refine lv_isub hx hb dX11_closes_42 ?_
      refine lv_topi (fun v155 ev155 => ?_)
      refine va_put (D := D) (ci := 11) (v := .int v155) (ty := .int) (C := RX11) (T := TX11) (N := 49) hx hb hg inGX11 tyX11 tyX11_ok nmX11 hown hKN.1 hP hD hS 0 rfl rfl 21 (by decide) (hg _ kw_1229) (fun _ h9 => h9) rfl (by decide +kernel) rfl rfl (Nat.le_of_ble_eq_true rfl) dX11_closes_43 (fun H locs hP hD hS => ?_)
      have hP : va_P D vwCl (MW Y o a (upd (upd (upd I 16 u125) 21 v155) 24 v153) J (vf_upd (vf_upd F 5 f144) 6 f145) G) H := hP
      have hD : va_D A (MW Y o a (upd (upd (upd I 16 u125) 21 v155) 24 v153) J (vf_upd (vf_upd F 5 f144) 6 f145) G) := hD
      refine lv_aload_n hx hb dX11_closes_46 rfl (lv_at hl 0 rfl) ?_
      refine lv_dup hx hb dX11_closes_47 rfl ?_
      refine va_get (D := D) (ci := 11) (v := .int u125) (C := RX11) (T := TX11) (N := 49) hx hb hg inGX11 hown hKN.1 hP 0 rfl rfl 16 (by decide) (hg _ kw_1224) (fun _ h9 => h9) rfl dX11_closes_48 ?_
      refine lv_iconst (v := 1) hx hb dX11_closes_51 (by decide) ?_
      refine lv_iadd hx hb dX11_closes_52 ?_
      refine lv_topi (fun v156 ev156 => ?_)
      have hv156 := i_add (Eq.refl u125.toInt) (show (1 : Int32).toInt = 1 by decide) ev156 (by omega) (by omega)
      refine va_put (D := D) (ci := 11) (v := .int v156) (ty := .int) (C := RX11) (T := TX11) (N := 49) hx hb hg inGX11 tyX11 tyX11_ok nmX11 hown hKN.1 hP hD hS 0 rfl rfl 16 (by decide) (hg _ kw_1224) (fun _ h9 => h9) rfl (by decide +kernel) rfl rfl (Nat.le_of_ble_eq_true rfl) dX11_closes_53 (fun H locs hP hD hS => ?_)
      have hP : va_P D vwCl (MW Y o a (upd (upd (upd I 16 v156) 21 v155) 24 v153) J (vf_upd (vf_upd F 5 f144) 6 f145) G) H := hP
      have hD : va_D A (MW Y o a (upd (upd (upd I 16 v156) 21 v155) 24 v153) J (vf_upd (vf_upd F 5 f144) 6 f145) G) := hD
      refine lv_aload_n hx hb dX11_closes_56 rfl (lv_at hl 0 rfl) ?_
      refine lv_iconst (v := 3) hx hb dX11_closes_57 (by decide) ?_
      refine cga (rn_V (As := [.int 3]) (rest := []) (b := o) (m_settles l D Y Z H.size o a (upd (upd (upd I 16 v156) 21 v155) 24 v153) J (vf_upd (vf_upd F 5 f144) 6 f145) G gs gb 3 (show (0 ≤ (I 19).toInt ∧ (I 19).toInt ≤ 17) by omega) (show (1 ≤ (3 : Int32).toInt ∧ (3 : Int32).toInt ≤ 3) by omega) (show (0 ≤ v153.toInt ∧ v153.toInt ≤ 400) by omega) (show (0 ≤ (I 20).toInt ∧ (I 20).toInt ≤ 60) by omega) (show ((f145 (I 19).toNatClampNeg).toInt + v153.toInt ≤ 400) by omega) (PG_to hw149 rfl (by omega) (by omega) (by omega)) (ent_le hr_EN (by omega))) ⟨hx, hb, hml, hown, hg⟩ lk_X11_282 ⟨CP.blind, va_recv hKN.1 hP (ci := 11) (q0 := 0) rfl rfl, CP.at hP hKN hD⟩ ⟨⟨rfl, rfl⟩, ⟨Nat.le_of_ble_eq_true rfl, Nat.le_of_ble_eq_true rfl⟩, ⟨Nat.le_of_ble_eq_true rfl, Nat.le_of_ble_eq_true rfl⟩⟩ hl.1 rfl (Nat.le_of_ble_eq_true rfl) dX11_closes_58) hP hD hS hA (fun u157 H locs w158 hP hD hS => ?_)
      obtain ⟨u159, u160, f161, f162⟩ := u157
      have w158 : (0 ≤ u159.toInt ∧ u159.toInt ≤ 400) ∧ (u159.toInt ≤ v153.toInt) ∧ ((f162 (I 19).toNatClampNeg).toInt + u159.toInt = (f145 (I 19).toNatClampNeg).toInt + v153.toInt) ∧ PSg (F 4) (F 8) (F 7) f161 f162 gs (I 19).toNatClampNeg gb (nbo (F 23) (u159.toInt).toNat + 1) ((I 20).toInt).toNat ∧ (∀ k : Nat, (k : Int) < v153.toInt → ((F 23) k).toInt = 91 → (k : Int) < u159.toInt) ∧ ((3 : Int32).toInt = 1 → (u159.toInt = 0 ∨ ((F 23) (u159.toInt - 1).toNat).toInt = 91)) := w158
      obtain ⟨hw163, hw164, hw165, hw166, hw167, hw168⟩ := w158
      refine W.eq (g2 := F0 m 61 ls []) rfl ?_
      have hP : va_P D vwCl (MW Y o a (upd (upd (upd I 16 v156) 21 u160) 24 u159) J (vf_upd (vf_upd F 5 f161) 6 f162) G) H := hP
      have hD : va_D A (MW Y o a (upd (upd (upd I 16 v156) 21 u160) 24 u159) J (vf_upd (vf_upd F 5 f161) 6 f162) G) := hD
      refine lv_goto (tgt := 5) hx hb dX11_closes_61 (by decide) ?_
      exact ih121 (v156, u160, u159, f161, f162) H locs ls (by show (400 - v156.toInt).toNat < (400 - g61.toInt).toNat; omega) ⟨hP, hD, hS, lv_sub hl [0] rfl, by omega, by omega, by omega, by omega, by omega, by omega, (PG_to hw166 rfl (by omega) (by omega) (by omega))⟩
    · obtain rfl : u133 = 0 := i_is c138 (by decide)
      have zi0 : (0 : Int32).toInt = 0 := by decide
      refine W.eq (g2 := F0 m 18 ls [.int 0]) rfl ?_
      refine lv_if_eq (tgt := 64) hx hb dX11_closes_18 (by decide) (fun c169 => ?_) (fun c169 => ?_)
      rotate_left
      · exact absurd c169 (by decide)
      refine W.widen (k := 0) (n := 0) (Nat.le_of_ble_eq_true rfl) (Nat.le_of_ble_eq_true rfl) ?_
      exact W.vret hx hb hr (fun t ht hW => ⟨⟨(u125, g63, g62, f64, f65), rfl, ⟨(show (0 ≤ u125.toInt ∧ u125.toInt ≤ 400) by omega), (show ((I 16).toInt ≤ u125.toInt) by omega), (show (u125.toInt ≤ (I 3).toInt) by omega), (show (0 ≤ g63.toInt ∧ g63.toInt ≤ 400) by omega), (show (g63.toInt ≤ (I 24).toInt) by omega), (show ((f65 (I 19).toNatClampNeg).toInt + g63.toInt ≤ u125.toInt) by omega), (PG_to hr120 rfl (by omega) (by omega) (by omega))⟩, CB.mk ht hP hD⟩, hS.F ht⟩) hS.2.2 dX11_closes_64
set_option maxHeartbeats 4000000 in
set_option maxRecDepth 100000 in
theorem m_fact (l : Launch) (D : va_G) (Y : Nat → ClassId) (Z : Nat → Nat) (sz : Nat) (o : Nat) (a : Nat → Nat) (I : Nat → Int32) (J : Nat → Int64) (F : Nat → Nat → Int32) (G : Nat → Nat → Int64) (gs : Nat → Int32) (gb : Nat) (hk_0 : (0 ≤ (I 16).toInt ∧ (I 16).toInt ≤ 400)) (hk_1 : (0 ≤ (I 3).toInt ∧ (I 3).toInt ≤ 400)) (hk_2 : ((I 16).toInt ≤ (I 3).toInt)) (hk_3 : (0 ≤ (I 17).toInt ∧ (I 17).toInt ≤ 4000)) (hk_4 : (0 ≤ (I 20).toInt ∧ (I 20).toInt ≤ 60)) (hk_5 : (0 ≤ (I 19).toInt ∧ (I 19).toInt ≤ 17)) (hk_6 : (0 ≤ (I 24).toInt ∧ (I 24).toInt ≤ 400)) (hk_7 : (((F 6) (I 19).toNatClampNeg).toInt + (I 24).toInt ≤ (I 16).toInt)) (hr_PS : PSg (F 4) (F 8) (F 7) (F 5) (F 6) gs (I 19).toNatClampNeg gb (nbo (F 23) ((I 24).toInt).toNat + 0) ((I 20).toInt).toNat) (hr_EN : ent (F 23) ((I 24).toInt).toNat) : Met l yX11_fact (.code yX11_fact cX11_fact 3 (some .boolean) :: GW) ({ frames := 7, cells := 0, slots := 0, locals := 154 }) (va_Pc [.ref o] (CP D Y Z (MW Y o a I J F G) sz)) (QG (S := Int32 × Int32 × Int32 × Int32 × Int32 × Int32 × Int32 × (Nat → Int32) × (Nat → Int32) × (Nat → Int32)) (fun u => some (.int u.1)) (fun u => (0 ≤ u.2.1.toInt ∧ u.2.1.toInt ≤ 400) ∧ ((I 16).toInt ≤ u.2.1.toInt) ∧ (u.2.1.toInt ≤ (I 3).toInt) ∧ (0 ≤ u.2.2.1.toInt ∧ u.2.2.1.toInt ≤ 4000) ∧ (0 ≤ u.2.2.2.2.1.toInt ∧ u.2.2.2.2.1.toInt ≤ 60) ∧ ((I 20).toInt ≤ u.2.2.2.2.1.toInt) ∧ (0 ≤ u.1.toInt ∧ u.1.toInt ≤ 1) ∧ (u.1.toInt = 0 → 1 ≤ u.2.2.1.toInt) ∧ (0 ≤ u.2.2.2.2.2.2.1.toInt ∧ u.2.2.2.2.2.2.1.toInt ≤ 400) ∧ (u.1.toInt = 1 → (u.2.2.2.2.2.2.2.2.1 (I 19).toNatClampNeg).toInt + u.2.2.2.2.2.2.1.toInt ≤ u.2.1.toInt) ∧ (u.1.toInt = 1 → PSg (F 4) (F 8) (F 7) u.2.2.2.2.2.2.2.1 u.2.2.2.2.2.2.2.2.1 gs (I 19).toNatClampNeg gb (nbo u.2.2.2.2.2.2.2.2.2 (u.2.2.2.2.2.2.1.toInt).toNat + 1) (u.2.2.2.2.1.toInt).toNat) ∧ (u.1.toInt = 1 → ent u.2.2.2.2.2.2.2.2.2 (u.2.2.2.2.2.2.1.toInt).toNat) ∧ TC (F 4) (F 8) (F 7) u.2.2.2.2.2.2.2.1) (fun u => CB D (MW Y o a (upd (upd (upd (upd (upd (upd I 16 u.2.1) 17 u.2.2.1) 18 u.2.2.2.1) 20 u.2.2.2.2.1) 21 u.2.2.2.2.2.1) 24 u.2.2.2.2.2.2.1) J (vf_upd (vf_upd (vf_upd F 5 u.2.2.2.2.2.2.2.1) 6 u.2.2.2.2.2.2.2.2.1) 23 u.2.2.2.2.2.2.2.2.2) G) (va_A (MW Y o a I J F G) sz)) (va_A (MW Y o a I J F G) sz)) 0 0 (va_A (MW Y o a I J F G) sz) := by
  refine Met.ofW (cc := cX11_fact) (maxL := 3) (ret := (some .boolean)) (by decide) rfl ?_
  intro p e s m args below meth c s₁ B hml hv
  obtain ⟨rfl, hsz, hP, hKN, hD0⟩ := hv
  have hx := B.exec
  have hb := B.bytes
  have hr := B.returns
  have hts := atoms_spec (ws := .code yX11_fact cX11_fact 3 (some .boolean) :: GW) B.pre
  have hg : ∀ w ∈ GW, w.before _ s = true := fun w h => hts w (List.mem_cons_of_mem _ h)
  have hown : s.vm.findClass RX11 = some m.cls := findClass_of_methodNamed B.named
  have hlocks := B.notSynchronized
  subst hsz
  have hD := hD0.self (sz := s.heap.size)
  generalize hAe : va_A (MW Y o a I J F G) s.heap.size = A at hD ⊢
  have hA : ∀ q : Nat, s.heap.size ≤ q → A q := fun q h => by rw [← hAe]; exact Or.inr h
  clear hAe hD0 hts B
  have hl := lv_entry ([.ref o]) (n := 3) (Nat.le_of_ble_eq_true rfl)
  rw [lg_entry_eq]
  generalize (lg_sl ([.ref o]) ++ List.replicate (3 - (lg_sl ([.ref o])).length) Slot.unset).toArray = ls at hl ⊢
  have hl : lv_has ls 3 [(0, .ref o)] := hl
  refine w_start (A0 := A) hP (fun H locs hP hS => ?_)
  refine lv_iconst (v := 1) hx hb dX11_fact_0 (by decide) ?_
  refine lv_istore_n (lv' := [(1, .int 1), (0, .ref o)]) hx hb dX11_fact_1 rfl hl (by decide) rfl (fun ls hl => ?_)
  have zi1 : (1 : Int32).toInt = 1 := by decide
  refine w_loop (σ := Int32 × Int32 × Int32 × Int32 × Int32 × (Nat → Int32)) (fun xx H locs ls => match xx with | (g67, g68, g69, g70, g71, f72) => va_P D vwCl (MW Y o a (upd (upd (upd (upd I 16 g68) 17 g69) 21 g70) 24 g71) J (vf_upd F 23 f72) G) H ∧ va_D A (MW Y o a (upd (upd (upd (upd I 16 g68) 17 g69) 21 g70) 24 g71) J (vf_upd F 23 f72) G) ∧ va_S A s.heap H locs ∧ lv_has ls 3 [(1, .int g67), (0, .ref o)] ∧ (0 ≤ g67.toInt ∧ g67.toInt ≤ 1) ∧ (0 ≤ g68.toInt ∧ g68.toInt ≤ 400) ∧ (g68.toInt ≤ (I 3).toInt) ∧ ((I 16).toInt ≤ g68.toInt) ∧ (0 ≤ g69.toInt ∧ g69.toInt ≤ 4000) ∧ (0 ≤ g71.toInt ∧ g71.toInt ≤ 400) ∧ (((F 6) (I 19).toNatClampNeg).toInt + g71.toInt ≤ g68.toInt) ∧ PSg (F 4) (F 8) (F 7) (F 5) (F 6) gs (I 19).toNatClampNeg gb (nbo f72 (g71.toInt).toNat + 0) ((I 20).toInt).toNat ∧ ent f72 (g71.toInt).toNat) (fun xx => match xx with | (g67, g68, g69, g70, g71, f72) => (2 * (400 - g68.toInt) + g67.toInt).toNat) (1, (I 16), (I 17), (I 21), (I 24), (F 23)) ⟨hP, hD, hS, lv_sub hl [0, 1] rfl, by omega, by omega, by omega, by omega, by omega, by omega, by omega, (PG_to hr_PS rfl (by omega) (by omega) (by omega)), (ent_le hr_EN (by omega))⟩ (fun xx H locs ls hI ih => ?_)
  obtain ⟨g67, g68, g69, g70, g71, f72⟩ := xx
  obtain ⟨hP, hD, hS, hl, hq139, hq140, hq141, hq142, hq143, hq144, hq145, hr146, hr147⟩ := hI
  have ih148 := ih
  refine lv_iload_n hx hb dX11_fact_2 rfl (lv_at hl 0 rfl) ?_
  refine lv_if_eq (tgt := 75) hx hb dX11_fact_3 (by decide) (fun c149 => ?_) (fun c149 => ?_)
  · skip
    have c149 := i_eq (Eq.refl g67.toInt) (show (0 : Int32).toInt = 0 by decide) c149
    refine lv_aload_n hx hb dX11_fact_75 rfl (lv_at hl 1 rfl) ?_
    refine cga (rn_V (As := []) (rest := []) (b := o) (m_compare l D Y Z H.size o a (upd (upd (upd (upd I 16 g68) 17 g69) 21 g70) 24 g71) J (vf_upd F 23 f72) G gs gb (nbo f72 g71.toInt.toNat)  (show (0 ≤ g68.toInt ∧ g68.toInt ≤ 400) by omega) (show (0 ≤ (I 3).toInt ∧ (I 3).toInt ≤ 400) by omega) (show (g68.toInt ≤ (I 3).toInt) by omega) (show (0 ≤ g69.toInt ∧ g69.toInt ≤ 4000) by omega) (show (0 ≤ (I 20).toInt ∧ (I 20).toInt ≤ 60) by omega) (show (0 ≤ (I 19).toInt ∧ (I 19).toInt ≤ 17) by omega) (show (((F 6) (I 19).toNatClampNeg).toInt ≤ g68.toInt) by omega) (PG_to hr146 rfl (by omega) (by omega) (by omega))) ⟨hx, hb, hml, hown, hg⟩ lk_X11_279 ⟨CP.blind, va_recv hKN.1 hP (ci := 11) (q0 := 0) rfl rfl, CP.at hP hKN hD⟩ ⟨⟨rfl, rfl⟩, ⟨Nat.le_of_ble_eq_true rfl, Nat.le_of_ble_eq_true rfl⟩, ⟨Nat.le_of_ble_eq_true rfl, Nat.le_of_ble_eq_true rfl⟩⟩ hl.1 rfl (Nat.le_of_ble_eq_true rfl) dX11_fact_76) hP hD hS hA (fun u150 H locs w151 hP hD hS => ?_)
    obtain ⟨u152, u153, u154, u155, u156, f157, f158⟩ := u150
    have w151 : (0 ≤ u153.toInt ∧ u153.toInt ≤ 400) ∧ (g68.toInt ≤ u153.toInt) ∧ (u153.toInt ≤ (I 3).toInt) ∧ (0 ≤ u154.toInt ∧ u154.toInt ≤ 4000) ∧ (0 ≤ u156.toInt ∧ u156.toInt ≤ 60) ∧ ((I 20).toInt ≤ u156.toInt) ∧ (0 ≤ u152.toInt ∧ u152.toInt ≤ 1) ∧ (u152.toInt = 0 → 1 ≤ u154.toInt) ∧ (u152.toInt = 1 → (f158 (I 19).toNatClampNeg).toInt + g68.toInt ≤ ((F 6) (I 19).toNatClampNeg).toInt + u153.toInt) ∧ (u152.toInt = 1 → PSg (F 4) (F 8) (F 7) f157 f158 gs (I 19).toNatClampNeg gb ((nbo f72 g71.toInt.toNat) + 1) (u156.toInt).toNat) ∧ TC (F 4) (F 8) (F 7) f157 := w151
    obtain ⟨hw159, hw160, hw161, hw162, hw163, hw164, hw165, hw166, hw167, hw168, hw169⟩ := w151
    refine W.eq (g2 := F0 m 79 ls [.int u152]) rfl ?_
    have hP : va_P D vwCl (MW Y o a (upd (upd (upd (upd (upd (upd I 16 u153) 17 u154) 18 u155) 20 u156) 21 g70) 24 g71) J (vf_upd (vf_upd (vf_upd F 5 f157) 6 f158) 23 f72) G) H := hP
    have hD : va_D A (MW Y o a (upd (upd (upd (upd (upd (upd I 16 u153) 17 u154) 18 u155) 20 u156) 21 g70) 24 g71) J (vf_upd (vf_upd (vf_upd F 5 f157) 6 f158) 23 f72) G) := hD
    rcases (show u152.toInt = 1 ∨ u152.toInt = 0 by omega) with c170 | c170
    · obtain rfl : u152 = 1 := i_is c170 (by decide)
      have zi1 : (1 : Int32).toInt = 1 := by decide
      have t171 := hw168 (by decide)
      refine W.eq (g2 := F0 m 79 ls [.int 1]) rfl ?_
      refine W.widen (k := 0) (n := 0) (Nat.le_of_ble_eq_true rfl) (Nat.le_of_ble_eq_true rfl) ?_
      exact W.zret (v := 1) hx hb hr (by decide) (fun t ht hW => ⟨⟨(1, u153, u154, u155, u156, g70, g71, f157, f158, f72), rfl, ⟨(show (0 ≤ u153.toInt ∧ u153.toInt ≤ 400) by omega), (show ((I 16).toInt ≤ u153.toInt) by omega), (show (u153.toInt ≤ (I 3).toInt) by omega), (show (0 ≤ u154.toInt ∧ u154.toInt ≤ 4000) by omega), (show (0 ≤ u156.toInt ∧ u156.toInt ≤ 60) by omega), (show ((I 20).toInt ≤ u156.toInt) by omega), (show (0 ≤ (1 : Int32).toInt ∧ (1 : Int32).toInt ≤ 1) by omega), (show ((1 : Int32).toInt = 0 → 1 ≤ u154.toInt) by omega), (show (0 ≤ g71.toInt ∧ g71.toInt ≤ 400) by omega), (show ((1 : Int32).toInt = 1 → (f158 (I 19).toNatClampNeg).toInt + g71.toInt ≤ u153.toInt) by omega), (fun _ => (PG_to t171 rfl (by omega) (by omega) (by omega))), (fun _ => (ent_le hr147 (by omega))), (PG_tc t171)⟩, CB.mk ht hP hD⟩, hS.F ht⟩) hS.2.2 dX11_fact_79
    · obtain rfl : u152 = 0 := i_is c170 (by decide)
      have zi0 : (0 : Int32).toInt = 0 := by decide
      refine W.eq (g2 := F0 m 79 ls [.int 0]) rfl ?_
      refine W.widen (k := 0) (n := 0) (Nat.le_of_ble_eq_true rfl) (Nat.le_of_ble_eq_true rfl) ?_
      exact W.zret (v := 0) hx hb hr (by decide) (fun t ht hW => ⟨⟨(0, u153, u154, u155, u156, g70, g71, f157, f158, f72), rfl, ⟨(show (0 ≤ u153.toInt ∧ u153.toInt ≤ 400) by omega), (show ((I 16).toInt ≤ u153.toInt) by omega), (show (u153.toInt ≤ (I 3).toInt) by omega), (show (0 ≤ u154.toInt ∧ u154.toInt ≤ 4000) by omega), (show (0 ≤ u156.toInt ∧ u156.toInt ≤ 60) by omega), (show ((I 20).toInt ≤ u156.toInt) by omega), (show (0 ≤ (0 : Int32).toInt ∧ (0 : Int32).toInt ≤ 1) by omega), (show ((0 : Int32).toInt = 0 → 1 ≤ u154.toInt) by omega), (show (0 ≤ g71.toInt ∧ g71.toInt ≤ 400) by omega), (show ((0 : Int32).toInt = 1 → (f158 (I 19).toNatClampNeg).toInt + g71.toInt ≤ u153.toInt) by omega), (fun h => absurd h (by decide)), (fun h => absurd h (by decide)), hw169⟩, CB.mk ht hP hD⟩, hS.F ht⟩) hS.2.2 dX11_fact_79
  · skip
    have c149 := i_ne (Eq.refl g67.toInt) (show (0 : Int32).toInt = 0 by decide) c149
    refine lv_iconst (v := 0) hx hb dX11_fact_6 (by decide) ?_
    refine lv_istore_n (lv' := [(1, .int 0), (0, .ref o)]) hx hb dX11_fact_7 rfl hl (by decide) rfl (fun ls hl => ?_)
    refine lv_aload_n hx hb dX11_fact_8 rfl (lv_at hl 1 rfl) ?_
    refine cga (rn_V (As := []) (rest := []) (b := o) (m_see l D Y Z H.size o a (upd (upd (upd (upd I 16 g68) 17 g69) 21 g70) 24 g71) J (vf_upd F 23 f72) G   (show (0 ≤ g68.toInt ∧ g68.toInt ≤ 400) by omega) (show (0 ≤ (I 3).toInt ∧ (I 3).toInt ≤ 400) by omega) (show (g68.toInt ≤ (I 3).toInt) by omega)) ⟨hx, hb, hml, hown, hg⟩ lk_X11_183 ⟨CP.blind, va_recv hKN.1 hP (ci := 11) (q0 := 0) rfl rfl, CP.at hP hKN hD⟩ ⟨⟨rfl, rfl⟩, ⟨Nat.le_of_ble_eq_true rfl, Nat.le_of_ble_eq_true rfl⟩, ⟨Nat.le_of_ble_eq_true rfl, Nat.le_of_ble_eq_true rfl⟩⟩ hl.1 rfl (Nat.le_of_ble_eq_true rfl) dX11_fact_9) hP hD hS hA (fun u172 H locs w173 hP hD hS => ?_)
    obtain ⟨u174, u175⟩ := u172
    have w173 : (0 ≤ u175.toInt ∧ u175.toInt ≤ 400) ∧ (g68.toInt ≤ u175.toInt) ∧ (u175.toInt ≤ (I 3).toInt) ∧ ((u174.toInt = -1 ∧ u175.toInt = (I 3).toInt) ∨ (0 ≤ u174.toInt ∧ u174.toInt ≤ 255 ∧ u175.toInt < (I 3).toInt ∧ ((F 2) u175.toNatClampNeg).toInt ≠ 32)) ∧ (-1 ≤ u174.toInt ∧ u174.toInt ≤ 255) ∧ ((g68.toInt < (I 3).toInt ∧ ((F 2) g68.toNatClampNeg).toInt ≠ 32) → u175.toInt = g68.toInt) := w173
    obtain ⟨hw176, hw177, hw178, hw179, hw180, hw181⟩ := w173
    refine W.eq (g2 := F0 m 12 ls [.int u174]) rfl ?_
    have hP : va_P D vwCl (MW Y o a (upd (upd (upd (upd I 16 u175) 17 g69) 21 g70) 24 g71) J (vf_upd F 23 f72) G) H := hP
    have hD : va_D A (MW Y o a (upd (upd (upd (upd I 16 u175) 17 g69) 21 g70) 24 g71) J (vf_upd F 23 f72) G) := hD
    refine lv_istore_n (lv' := [(2, .int u174), (1, .int 0), (0, .ref o)]) hx hb dX11_fact_12 rfl hl (by decide) rfl (fun ls hl => ?_)
    refine lv_aload_n hx hb dX11_fact_13 rfl (lv_at hl 2 rfl) ?_
    refine lv_ldc2 (v := 7237492) hx hb hown (hg _ kw_1563) dX11_fact_14 ?_
    have zl7237492 : (7237492 : Int64).toInt = 7237492 := by decide
    refine cga (rn_V (As := [.long 7237492]) (rest := []) (b := o) (m_isWord l D Y Z H.size o a (upd (upd (upd (upd I 16 u175) 17 g69) 21 g70) 24 g71) J (vf_upd F 23 f72) G  7237492 (show (0 ≤ u175.toInt ∧ u175.toInt ≤ 400) by omega) (show (0 ≤ (I 3).toInt ∧ (I 3).toInt ≤ 400) by omega) (show (u175.toInt ≤ (I 3).toInt) by omega)) ⟨hx, hb, hml, hown, hg⟩ lk_X11_190 ⟨CP.blind, va_recv hKN.1 hP (ci := 11) (q0 := 0) rfl rfl, CP.at hP hKN hD⟩ ⟨⟨rfl, rfl⟩, ⟨Nat.le_of_ble_eq_true rfl, Nat.le_of_ble_eq_true rfl⟩, ⟨Nat.le_of_ble_eq_true rfl, Nat.le_of_ble_eq_true rfl⟩⟩ hl.1 rfl (Nat.le_of_ble_eq_true rfl) dX11_fact_17) hP hD hS hA (fun u182 H locs w183 hP hD hS => ?_)
    obtain ⟨u184, u185⟩ := u182
    have w183 : (0 ≤ u185.toInt ∧ u185.toInt ≤ 400) ∧ (u175.toInt ≤ u185.toInt) ∧ (u185.toInt ≤ (I 3).toInt) ∧ (0 ≤ u184.toInt ∧ u184.toInt ≤ 1) ∧ (u184.toInt = 1 → (u185.toInt < (I 3).toInt ∧ 97 ≤ ((F 2) u185.toNatClampNeg).toInt ∧ ((F 2) u185.toNatClampNeg).toInt ≤ 122)) ∧ ((u175.toInt < (I 3).toInt ∧ ((F 2) u175.toNatClampNeg).toInt ≠ 32) → u185.toInt = u175.toInt) := w183
    obtain ⟨hw186, hw187, hw188, hw189, hw190, hw191⟩ := w183
    refine W.eq (g2 := F0 m 20 ls [.int u184]) rfl ?_
    have hP : va_P D vwCl (MW Y o a (upd (upd (upd (upd I 16 u185) 17 g69) 21 g70) 24 g71) J (vf_upd F 23 f72) G) H := hP
    have hD : va_D A (MW Y o a (upd (upd (upd (upd I 16 u185) 17 g69) 21 g70) 24 g71) J (vf_upd F 23 f72) G) := hD
    rcases (show u184.toInt = 1 ∨ u184.toInt = 0 by omega) with c192 | c192
    · obtain rfl : u184 = 1 := i_is c192 (by decide)
      have zi1 : (1 : Int32).toInt = 1 := by decide
      refine W.eq (g2 := F0 m 20 ls [.int 1]) rfl ?_
      refine lv_if_eq (tgt := 43) hx hb dX11_fact_20 (by decide) (fun c193 => ?_) (fun c193 => ?_)
      · exact absurd c193 (by decide)
      refine lv_aload_n hx hb dX11_fact_23 rfl (lv_at hl 2 rfl) ?_
      refine lv_bipush (v := 11) hx hb dX11_fact_24 (by decide) ?_
      have zi11 : (11 : Int32).toInt = 11 := by decide
      refine cga (rn_V (As := [.int 11]) (rest := []) (b := o) (m_opens l D Y Z H.size o a (upd (upd (upd (upd I 16 u185) 17 g69) 21 g70) 24 g71) J (vf_upd F 23 f72) G  11 (show (0 ≤ u185.toInt ∧ u185.toInt ≤ 400) by omega) (show (0 ≤ g71.toInt ∧ g71.toInt ≤ 399) by omega) (show (0 ≤ g69.toInt ∧ g69.toInt ≤ 4000) by omega) (show (0 ≤ (11 : Int32).toInt ∧ (11 : Int32).toInt ≤ 100) by omega)) ⟨hx, hb, hml, hown, hg⟩ lk_X11_276 ⟨CP.blind, va_recv hKN.1 hP (ci := 11) (q0 := 0) rfl rfl, CP.at hP hKN hD⟩ ⟨⟨rfl, rfl⟩, ⟨Nat.le_of_ble_eq_true rfl, Nat.le_of_ble_eq_true rfl⟩, ⟨Nat.le_of_ble_eq_true rfl, Nat.le_of_ble_eq_true rfl⟩⟩ hl.1 rfl (Nat.le_of_ble_eq_true rfl) dX11_fact_26) hP hD hS hA (fun u194 H locs w195 hP hD hS => ?_)
      obtain ⟨u196, u197, u198, u199, f200⟩ := u194
      have w195 : (0 ≤ u197.toInt ∧ u197.toInt ≤ 4000) ∧ ((u196.toInt = 1 ∧ u199.toInt = g71.toInt + 1) ∨ (u196.toInt = 0 ∧ 1 ≤ u197.toInt)) ∧ (0 ≤ u199.toInt ∧ u199.toInt ≤ 400) ∧ (0 ≤ u196.toInt ∧ u196.toInt ≤ 1) ∧ (u196.toInt = 1 → f200 = upd f72 g71.toNatClampNeg 11) := w195
      obtain ⟨hw201, hw202, hw203, hw204, hw205⟩ := w195
      refine W.eq (g2 := F0 m 29 ls [.int u196]) rfl ?_
      have hP : va_P D vwCl (MW Y o a (upd (upd (upd (upd I 16 u185) 17 u197) 21 u198) 24 u199) J (vf_upd F 23 f200) G) H := hP
      have hD : va_D A (MW Y o a (upd (upd (upd (upd I 16 u185) 17 u197) 21 u198) 24 u199) J (vf_upd F 23 f200) G) := hD
      rcases (show u196.toInt = 1 ∨ u196.toInt = 0 by omega) with c206 | c206
      · obtain rfl : u196 = 1 := i_is c206 (by decide)
        have t207q := hw205 (by decide)
        have t207n := nbo_push3 (m := u199.toInt.toNat) (i := g71) (v := 11) t207q (by omega) (by omega)
        have t207e := ent_p (m := u199.toInt.toNat) (i := g71) (v := 11) t207q hr147 (by omega) (by omega) (by omega)
        refine W.eq (g2 := F0 m 29 ls [.int 1]) rfl ?_
        refine lv_if_ne (tgt := 34) hx hb dX11_fact_29 (by decide) (fun c208 => ?_) (fun c208 => ?_)
        rotate_left
        · exact absurd c208 (by decide)
        refine lv_aload_n hx hb dX11_fact_34 rfl (lv_at hl 2 rfl) ?_
        refine cga (rn_V (As := []) (rest := []) (b := o) (m_passWord l D Y Z H.size o a (upd (upd (upd (upd I 16 u185) 17 u197) 21 u198) 24 u199) J (vf_upd F 23 f200) G   (show (0 ≤ u185.toInt ∧ u185.toInt ≤ 400) by omega) (show (0 ≤ (I 3).toInt ∧ (I 3).toInt ≤ 400) by omega) (show (u185.toInt ≤ (I 3).toInt) by omega)) ⟨hx, hb, hml, hown, hg⟩ lk_X11_194 ⟨CP.blind, va_recv hKN.1 hP (ci := 11) (q0 := 0) rfl rfl, CP.at hP hKN hD⟩ ⟨⟨rfl, rfl⟩, ⟨Nat.le_of_ble_eq_true rfl, Nat.le_of_ble_eq_true rfl⟩, ⟨Nat.le_of_ble_eq_true rfl, Nat.le_of_ble_eq_true rfl⟩⟩ hl.1 rfl (Nat.le_of_ble_eq_true rfl) dX11_fact_35) hP hD hS hA (fun u209 H locs w210 hP hD hS => ?_)
        have w210 : (0 ≤ u209.toInt ∧ u209.toInt ≤ 400) ∧ (u185.toInt ≤ u209.toInt) ∧ (u209.toInt ≤ (I 3).toInt) ∧ ((97 ≤ ((F 2) u185.toNatClampNeg).toInt ∧ ((F 2) u185.toNatClampNeg).toInt ≤ 122 ∧ u185.toInt < (I 3).toInt) → u185.toInt + 1 ≤ u209.toInt) := w210
        obtain ⟨hw212, hw213, hw214, hw215⟩ := w210
        refine W.eq (g2 := F0 m 38 ls []) rfl ?_
        have hP : va_P D vwCl (MW Y o a (upd (upd (upd (upd I 16 u209) 17 u197) 21 u198) 24 u199) J (vf_upd F 23 f200) G) H := hP
        have hD : va_D A (MW Y o a (upd (upd (upd (upd I 16 u209) 17 u197) 21 u198) 24 u199) J (vf_upd F 23 f200) G) := hD
        refine lv_iconst (v := 1) hx hb dX11_fact_38 (by decide) ?_
        refine lv_istore_n (lv' := [(1, .int 1), (2, .int u174), (0, .ref o)]) hx hb dX11_fact_39 rfl hl (by decide) rfl (fun ls hl => ?_)
        refine lv_goto (tgt := 72) hx hb dX11_fact_40 (by decide) ?_
        refine lv_goto (tgt := 2) hx hb dX11_fact_72 (by decide) ?_
        exact ih148 (1, u209, u197, u198, u199, f200) H locs ls (by show (2 * (400 - u209.toInt) + (1 : Int32).toInt).toNat < (2 * (400 - g68.toInt) + g67.toInt).toNat; omega) ⟨hP, hD, hS, lv_sub hl [0, 2] rfl, by omega, by omega, by omega, by omega, by omega, by omega, by omega, (PG_to hr146 rfl (by omega) (by omega) (by omega)), (ent_le t207e (by omega))⟩
      · obtain rfl : u196 = 0 := i_is c206 (by decide)
        have zi0 : (0 : Int32).toInt = 0 := by decide
        refine W.eq (g2 := F0 m 29 ls [.int 0]) rfl ?_
        refine lv_if_ne (tgt := 34) hx hb dX11_fact_29 (by decide) (fun c216 => ?_) (fun c216 => ?_)
        · exact absurd c216 (by decide)
        refine lv_iconst (v := 0) hx hb dX11_fact_32 (by decide) ?_
        refine W.widen (k := 0) (n := 0) (Nat.le_of_ble_eq_true rfl) (Nat.le_of_ble_eq_true rfl) ?_
        exact W.zret (v := 0) hx hb hr (by decide) (fun t ht hW => ⟨⟨(0, u185, u197, (I 18), (I 20), u198, u199, (F 5), (F 6), f200), rfl, ⟨(show (0 ≤ u185.toInt ∧ u185.toInt ≤ 400) by omega), (show ((I 16).toInt ≤ u185.toInt) by omega), (show (u185.toInt ≤ (I 3).toInt) by omega), (show (0 ≤ u197.toInt ∧ u197.toInt ≤ 4000) by omega), (show (0 ≤ (I 20).toInt ∧ (I 20).toInt ≤ 60) by omega), (show ((I 20).toInt ≤ (I 20).toInt) by omega), (show (0 ≤ (0 : Int32).toInt ∧ (0 : Int32).toInt ≤ 1) by omega), (show ((0 : Int32).toInt = 0 → 1 ≤ u197.toInt) by omega), (show (0 ≤ u199.toInt ∧ u199.toInt ≤ 400) by omega), (show ((0 : Int32).toInt = 1 → ((F 6) (I 19).toNatClampNeg).toInt + u199.toInt ≤ u185.toInt) by omega), (fun h => absurd h (by decide)), (fun h => absurd h (by decide)), (PG_tc hr146)⟩, CB.mk ht hP hD⟩, hS.F ht⟩) hS.2.2 dX11_fact_33
    · obtain rfl : u184 = 0 := i_is c192 (by decide)
      have zi0 : (0 : Int32).toInt = 0 := by decide
      refine W.eq (g2 := F0 m 20 ls [.int 0]) rfl ?_
      refine lv_if_eq (tgt := 43) hx hb dX11_fact_20 (by decide) (fun c217 => ?_) (fun c217 => ?_)
      rotate_left
      · exact absurd c217 (by decide)
      refine lv_iload_n hx hb dX11_fact_43 rfl (lv_at hl 0 rfl) ?_
      refine lv_bipush (v := 91) hx hb dX11_fact_44 (by decide) ?_
      have t218 : u185.toInt = u175.toInt → ((F 2) u185.toNatClampNeg).toInt = ((F 2) u175.toNatClampNeg).toInt := fun h => by rw [Int32.toInt_inj.mp h]
      refine lv_icmp_ne (tgt := 72) hx hb dX11_fact_46 (by decide) (fun c219 => ?_) (fun c219 => ?_)
      · skip
        have c219 := i_ne (Eq.refl u174.toInt) (show (91 : Int32).toInt = 91 by decide) c219
        refine lv_goto (tgt := 2) hx hb dX11_fact_72 (by decide) ?_
        exact ih148 (0, u185, g69, g70, g71, f72) H locs ls (by show (2 * (400 - u185.toInt) + (0 : Int32).toInt).toNat < (2 * (400 - g68.toInt) + g67.toInt).toNat; omega) ⟨hP, hD, hS, lv_sub hl [1, 2] rfl, by omega, by omega, by omega, by omega, by omega, by omega, by omega, (PG_to hr146 rfl (by omega) (by omega) (by omega)), (ent_le hr147 (by omega))⟩
      · skip
        have c219 := i_eq (Eq.refl u174.toInt) (show (91 : Int32).toInt = 91 by decide) c219
        refine lv_aload_n hx hb dX11_fact_49 rfl (lv_at hl 2 rfl) ?_
        refine lv_bipush (v := 91) hx hb dX11_fact_50 (by decide) ?_
        have zi91 : (91 : Int32).toInt = 91 := by decide
        refine cga (rn_V (As := [.int 91]) (rest := []) (b := o) (m_opens l D Y Z H.size o a (upd (upd (upd (upd I 16 u185) 17 g69) 21 g70) 24 g71) J (vf_upd F 23 f72) G  91 (show (0 ≤ u185.toInt ∧ u185.toInt ≤ 400) by omega) (show (0 ≤ g71.toInt ∧ g71.toInt ≤ 399) by omega) (show (0 ≤ g69.toInt ∧ g69.toInt ≤ 4000) by omega) (show (0 ≤ (91 : Int32).toInt ∧ (91 : Int32).toInt ≤ 100) by omega)) ⟨hx, hb, hml, hown, hg⟩ lk_X11_276 ⟨CP.blind, va_recv hKN.1 hP (ci := 11) (q0 := 0) rfl rfl, CP.at hP hKN hD⟩ ⟨⟨rfl, rfl⟩, ⟨Nat.le_of_ble_eq_true rfl, Nat.le_of_ble_eq_true rfl⟩, ⟨Nat.le_of_ble_eq_true rfl, Nat.le_of_ble_eq_true rfl⟩⟩ hl.1 rfl (Nat.le_of_ble_eq_true rfl) dX11_fact_52) hP hD hS hA (fun u220 H locs w221 hP hD hS => ?_)
        obtain ⟨u222, u223, u224, u225, f226⟩ := u220
        have w221 : (0 ≤ u223.toInt ∧ u223.toInt ≤ 4000) ∧ ((u222.toInt = 1 ∧ u225.toInt = g71.toInt + 1) ∨ (u222.toInt = 0 ∧ 1 ≤ u223.toInt)) ∧ (0 ≤ u225.toInt ∧ u225.toInt ≤ 400) ∧ (0 ≤ u222.toInt ∧ u222.toInt ≤ 1) ∧ (u222.toInt = 1 → f226 = upd f72 g71.toNatClampNeg 91) := w221
        obtain ⟨hw227, hw228, hw229, hw230, hw231⟩ := w221
        refine W.eq (g2 := F0 m 55 ls [.int u222]) rfl ?_
        have hP : va_P D vwCl (MW Y o a (upd (upd (upd (upd I 16 u185) 17 u223) 21 u224) 24 u225) J (vf_upd F 23 f226) G) H := hP
        have hD : va_D A (MW Y o a (upd (upd (upd (upd I 16 u185) 17 u223) 21 u224) 24 u225) J (vf_upd F 23 f226) G) := hD
        rcases (show u222.toInt = 1 ∨ u222.toInt = 0 by omega) with c232 | c232
        · obtain rfl : u222 = 1 := i_is c232 (by decide)
          have zi1 : (1 : Int32).toInt = 1 := by decide
          have t233q := hw231 (by decide)
          have t233n := nbo_push3 (m := u225.toInt.toNat) (i := g71) (v := 91) t233q (by omega) (by omega)
          have t233e := ent_p (m := u225.toInt.toNat) (i := g71) (v := 91) t233q hr147 (by omega) (by omega) (by omega)
          refine W.eq (g2 := F0 m 55 ls [.int 1]) rfl ?_
          refine lv_if_ne (tgt := 60) hx hb dX11_fact_55 (by decide) (fun c234 => ?_) (fun c234 => ?_)
          rotate_left
          · exact absurd c234 (by decide)
          refine lv_aload_n hx hb dX11_fact_60 rfl (lv_at hl 2 rfl) ?_
          refine lv_dup hx hb dX11_fact_61 rfl ?_
          refine va_get (D := D) (ci := 11) (v := .int u185) (C := RX11) (T := TX11) (N := 49) hx hb hg inGX11 hown hKN.1 hP 0 rfl rfl 16 (by decide) (hg _ kw_1224) (fun _ h9 => h9) rfl dX11_fact_62 ?_
          refine lv_iconst (v := 1) hx hb dX11_fact_65 (by decide) ?_
          refine lv_iadd hx hb dX11_fact_66 ?_
          refine lv_topi (fun v235 ev235 => ?_)
          have hv235 := i_add (Eq.refl u185.toInt) (show (1 : Int32).toInt = 1 by decide) ev235 (by omega) (by omega)
          refine va_put (D := D) (ci := 11) (v := .int v235) (ty := .int) (C := RX11) (T := TX11) (N := 49) hx hb hg inGX11 tyX11 tyX11_ok nmX11 hown hKN.1 hP hD hS 0 rfl rfl 16 (by decide) (hg _ kw_1224) (fun _ h9 => h9) rfl (by decide +kernel) rfl rfl (Nat.le_of_ble_eq_true rfl) dX11_fact_67 (fun H locs hP hD hS => ?_)
          have hP : va_P D vwCl (MW Y o a (upd (upd (upd (upd I 16 v235) 17 u223) 21 u224) 24 u225) J (vf_upd F 23 f226) G) H := hP
          have hD : va_D A (MW Y o a (upd (upd (upd (upd I 16 v235) 17 u223) 21 u224) 24 u225) J (vf_upd F 23 f226) G) := hD
          refine lv_iconst (v := 1) hx hb dX11_fact_70 (by decide) ?_
          refine lv_istore_n (lv' := [(1, .int 1), (2, .int u174), (0, .ref o)]) hx hb dX11_fact_71 rfl hl (by decide) rfl (fun ls hl => ?_)
          refine lv_goto (tgt := 2) hx hb dX11_fact_72 (by decide) ?_
          exact ih148 (1, v235, u223, u224, u225, f226) H locs ls (by show (2 * (400 - v235.toInt) + (1 : Int32).toInt).toNat < (2 * (400 - g68.toInt) + g67.toInt).toNat; omega) ⟨hP, hD, hS, lv_sub hl [0, 2] rfl, by omega, by omega, by omega, by omega, by omega, by omega, by omega, (PG_to hr146 rfl (by omega) (by omega) (by omega)), (ent_le t233e (by omega))⟩
        · obtain rfl : u222 = 0 := i_is c232 (by decide)
          refine W.eq (g2 := F0 m 55 ls [.int 0]) rfl ?_
          refine lv_if_ne (tgt := 60) hx hb dX11_fact_55 (by decide) (fun c236 => ?_) (fun c236 => ?_)
          · exact absurd c236 (by decide)
          refine lv_iconst (v := 0) hx hb dX11_fact_58 (by decide) ?_
          refine W.widen (k := 0) (n := 0) (Nat.le_of_ble_eq_true rfl) (Nat.le_of_ble_eq_true rfl) ?_
          exact W.zret (v := 0) hx hb hr (by decide) (fun t ht hW => ⟨⟨(0, u185, u223, (I 18), (I 20), u224, u225, (F 5), (F 6), f226), rfl, ⟨(show (0 ≤ u185.toInt ∧ u185.toInt ≤ 400) by omega), (show ((I 16).toInt ≤ u185.toInt) by omega), (show (u185.toInt ≤ (I 3).toInt) by omega), (show (0 ≤ u223.toInt ∧ u223.toInt ≤ 4000) by omega), (show (0 ≤ (I 20).toInt ∧ (I 20).toInt ≤ 60) by omega), (show ((I 20).toInt ≤ (I 20).toInt) by omega), (show (0 ≤ (0 : Int32).toInt ∧ (0 : Int32).toInt ≤ 1) by omega), (show ((0 : Int32).toInt = 0 → 1 ≤ u223.toInt) by omega), (show (0 ≤ u225.toInt ∧ u225.toInt ≤ 400) by omega), (show ((0 : Int32).toInt = 1 → ((F 6) (I 19).toNatClampNeg).toInt + u225.toInt ≤ u185.toInt) by omega), (fun h => absurd h (by decide)), (fun h => absurd h (by decide)), (PG_tc hr146)⟩, CB.mk ht hP hD⟩, hS.F ht⟩) hS.2.2 dX11_fact_59
set_option maxHeartbeats 4000000 in
set_option maxRecDepth 100000 in
theorem m_tested (l : Launch) (D : va_G) (Y : Nat → ClassId) (Z : Nat → Nat) (sz : Nat) (o : Nat) (a : Nat → Nat) (I : Nat → Int32) (J : Nat → Int64) (F : Nat → Nat → Int32) (G : Nat → Nat → Int64) (gs : Nat → Int32) (gb : Nat) (hk_0 : (0 ≤ (I 16).toInt ∧ (I 16).toInt ≤ 400)) (hk_1 : (0 ≤ (I 3).toInt ∧ (I 3).toInt ≤ 400)) (hk_2 : ((I 16).toInt ≤ (I 3).toInt)) (hk_3 : (0 ≤ (I 17).toInt ∧ (I 17).toInt ≤ 4000)) (hk_4 : (0 ≤ (I 20).toInt ∧ (I 20).toInt ≤ 60)) (hk_5 : (0 ≤ (I 19).toInt ∧ (I 19).toInt ≤ 17)) (hk_6 : (((F 6) (I 19).toNatClampNeg).toInt ≤ (I 16).toInt)) (hr_PS : PSg (F 4) (F 8) (F 7) (F 5) (F 6) gs (I 19).toNatClampNeg gb (0) ((I 20).toInt).toNat) : Met l yX11_tested (.code yX11_tested cX11_tested 3 (some .boolean) :: GW) ({ frames := 8, cells := 0, slots := 0, locals := 176 }) (va_Pc [.ref o] (CP D Y Z (MW Y o a I J F G) sz)) (QG (S := Int32 × Int32 × Int32 × Int32 × Int32 × Int32 × Int32 × (Nat → Int32) × (Nat → Int32) × (Nat → Int32)) (fun u => some (.int u.1)) (fun u => (0 ≤ u.2.1.toInt ∧ u.2.1.toInt ≤ 400) ∧ ((I 16).toInt ≤ u.2.1.toInt) ∧ (u.2.1.toInt ≤ (I 3).toInt) ∧ (0 ≤ u.2.2.1.toInt ∧ u.2.2.1.toInt ≤ 4000) ∧ (0 ≤ u.2.2.2.2.1.toInt ∧ u.2.2.2.2.1.toInt ≤ 60) ∧ ((I 20).toInt ≤ u.2.2.2.2.1.toInt) ∧ (0 ≤ u.1.toInt ∧ u.1.toInt ≤ 1) ∧ (u.1.toInt = 0 → 1 ≤ u.2.2.1.toInt) ∧ (u.1.toInt = 1 → (u.2.2.2.2.2.2.2.2.1 (I 19).toNatClampNeg).toInt ≤ u.2.1.toInt) ∧ (u.1.toInt = 1 → PSg (F 4) (F 8) (F 7) u.2.2.2.2.2.2.2.1 u.2.2.2.2.2.2.2.2.1 gs (I 19).toNatClampNeg gb (1) (u.2.2.2.2.1.toInt).toNat) ∧ TC (F 4) (F 8) (F 7) u.2.2.2.2.2.2.2.1) (fun u => CB D (MW Y o a (upd (upd (upd (upd (upd (upd I 16 u.2.1) 17 u.2.2.1) 18 u.2.2.2.1) 20 u.2.2.2.2.1) 21 u.2.2.2.2.2.1) 24 u.2.2.2.2.2.2.1) J (vf_upd (vf_upd (vf_upd F 5 u.2.2.2.2.2.2.2.1) 6 u.2.2.2.2.2.2.2.2.1) 23 u.2.2.2.2.2.2.2.2.2) G) (va_A (MW Y o a I J F G) sz)) (va_A (MW Y o a I J F G) sz)) 0 0 (va_A (MW Y o a I J F G) sz) := by
  refine Met.ofW (cc := cX11_tested) (maxL := 3) (ret := (some .boolean)) (by decide) rfl ?_
  intro p e s m args below meth c s₁ B hml hv
  obtain ⟨rfl, hsz, hP, hKN, hD0⟩ := hv
  have hx := B.exec
  have hb := B.bytes
  have hr := B.returns
  have hts := atoms_spec (ws := .code yX11_tested cX11_tested 3 (some .boolean) :: GW) B.pre
  have hg : ∀ w ∈ GW, w.before _ s = true := fun w h => hts w (List.mem_cons_of_mem _ h)
  have hown : s.vm.findClass RX11 = some m.cls := findClass_of_methodNamed B.named
  have hlocks := B.notSynchronized
  subst hsz
  have hD := hD0.self (sz := s.heap.size)
  generalize hAe : va_A (MW Y o a I J F G) s.heap.size = A at hD ⊢
  have hA : ∀ q : Nat, s.heap.size ≤ q → A q := fun q h => by rw [← hAe]; exact Or.inr h
  clear hAe hD0 hts B
  have hl := lv_entry ([.ref o]) (n := 3) (Nat.le_of_ble_eq_true rfl)
  rw [lg_entry_eq]
  generalize (lg_sl ([.ref o]) ++ List.replicate (3 - (lg_sl ([.ref o])).length) Slot.unset).toArray = ls at hl ⊢
  have hl : lv_has ls 3 [(0, .ref o)] := hl
  refine w_start (A0 := A) hP (fun H locs hP hS => ?_)
  refine lv_aload_n hx hb dX11_tested_0 rfl (lv_at hl 0 rfl) ?_
  refine lv_iconst (v := 0) hx hb dX11_tested_1 (by decide) ?_
  refine va_put (D := D) (ci := 11) (v := .int 0) (ty := .int) (C := RX11) (T := TX11) (N := 49) hx hb hg inGX11 tyX11 tyX11_ok nmX11 hown hKN.1 hP hD hS 0 rfl rfl 24 (by decide) (hg _ kw_1232) (fun _ h9 => h9) rfl (by decide +kernel) rfl rfl (Nat.le_of_ble_eq_true rfl) dX11_tested_2 (fun H locs hP hD hS => ?_)
  have hP : va_P D vwCl (MW Y o a (upd I 24 0) J F G) H := hP
  have hD : va_D A (MW Y o a (upd I 24 0) J F G) := hD
  refine lv_aload_n hx hb dX11_tested_5 rfl (lv_at hl 0 rfl) ?_
  refine lv_iconst (v := 0) hx hb dX11_tested_6 (by decide) ?_
  refine va_put (D := D) (ci := 11) (v := .int 0) (ty := .int) (C := RX11) (T := TX11) (N := 49) hx hb hg inGX11 tyX11 tyX11_ok nmX11 hown hKN.1 hP hD hS 0 rfl rfl 21 (by decide) (hg _ kw_1229) (fun _ h9 => h9) rfl (by decide +kernel) rfl rfl (Nat.le_of_ble_eq_true rfl) dX11_tested_7 (fun H locs hP hD hS => ?_)
  have hP : va_P D vwCl (MW Y o a (upd (upd I 21 0) 24 0) J F G) H := hP
  have hD : va_D A (MW Y o a (upd (upd I 21 0) 24 0) J F G) := hD
  refine lv_iconst (v := 1) hx hb dX11_tested_10 (by decide) ?_
  have t1 : nbo (F 23) ((0 : Int32).toInt).toNat = 0 := rfl
  refine lv_istore_n (lv' := [(1, .int 1), (0, .ref o)]) hx hb dX11_tested_11 rfl hl (by decide) rfl (fun ls hl => ?_)
  have zi1 : (1 : Int32).toInt = 1 := by decide
  have zi0 : (0 : Int32).toInt = 0 := by decide
  refine w_loop (σ := Int32 × Int32 × Int32 × Int32 × Int32 × Int32 × Int32 × (Nat → Int32) × (Nat → Int32) × (Nat → Int32)) (fun xx H locs ls => match xx with | (g218, g219, g220, g221, g222, g223, g224, f225, f226, f227) => va_P D vwCl (MW Y o a (upd (upd (upd (upd (upd (upd I 16 g219) 17 g220) 18 g221) 20 g222) 21 g223) 24 g224) J (vf_upd (vf_upd (vf_upd F 5 f225) 6 f226) 23 f227) G) H ∧ va_D A (MW Y o a (upd (upd (upd (upd (upd (upd I 16 g219) 17 g220) 18 g221) 20 g222) 21 g223) 24 g224) J (vf_upd (vf_upd (vf_upd F 5 f225) 6 f226) 23 f227) G) ∧ va_S A s.heap H locs ∧ lv_has ls 3 [(1, .int g218), (0, .ref o)] ∧ (0 ≤ g218.toInt ∧ g218.toInt ≤ 1) ∧ (0 ≤ g219.toInt ∧ g219.toInt ≤ 400) ∧ (g219.toInt ≤ (I 3).toInt) ∧ ((I 16).toInt ≤ g219.toInt) ∧ (0 ≤ g220.toInt ∧ g220.toInt ≤ 4000) ∧ (0 ≤ g222.toInt ∧ g222.toInt ≤ 60) ∧ ((I 20).toInt ≤ g222.toInt) ∧ (0 ≤ g224.toInt ∧ g224.toInt ≤ 400) ∧ ((f226 (I 19).toNatClampNeg).toInt + g224.toInt ≤ g219.toInt) ∧ PSg (F 4) (F 8) (F 7) f225 f226 gs (I 19).toNatClampNeg gb (nbo f227 (g224.toInt).toNat + (1 - (g218.toInt).toNat)) (g222.toInt).toNat ∧ ent f227 (g224.toInt).toNat) (fun xx => match xx with | (g218, g219, g220, g221, g222, g223, g224, f225, f226, f227) => (2 * (400 - g219.toInt) + g218.toInt).toNat) (1, (I 16), (I 17), (I 18), (I 20), 0, 0, (F 5), (F 6), (F 23)) ⟨hP, hD, hS, lv_sub hl [0, 1] rfl, by omega, by omega, by omega, by omega, by omega, by omega, by omega, by omega, by omega, (PG_to hr_PS rfl (by omega) (by omega) (by omega)), (fun k h => absurd h (Nat.not_lt_zero k))⟩ (fun xx H locs ls hI ih => ?_)
  obtain ⟨g218, g219, g220, g221, g222, g223, g224, f225, f226, f227⟩ := xx
  obtain ⟨hP, hD, hS, hl, hq444, hq445, hq446, hq447, hq448, hq449, hq450, hq451, hq452, hr453, hr454⟩ := hI
  have ih455 := ih
  refine lv_iload_n hx hb dX11_tested_12 rfl (lv_at hl 0 rfl) ?_
  refine lv_if_eq (tgt := 112) hx hb dX11_tested_13 (by decide) (fun c456 => ?_) (fun c456 => ?_)
  · skip
    have c456 := i_eq (Eq.refl g218.toInt) (show (0 : Int32).toInt = 0 by decide) c456
    refine lv_aload_n hx hb dX11_tested_112 rfl (lv_at hl 1 rfl) ?_
    refine cga (rn_V (As := []) (rest := []) (b := o) (m_isInside l D Y Z H.size o a (upd (upd (upd (upd (upd (upd I 16 g219) 17 g220) 18 g221) 20 g222) 21 g223) 24 g224) J (vf_upd (vf_upd (vf_upd F 5 f225) 6 f226) 23 f227) G   (show (0 ≤ g224.toInt ∧ g224.toInt ≤ 400) by omega)) ⟨hx, hb, hml, hown, hg⟩ lk_X11_285 ⟨CP.blind, va_recv hKN.1 hP (ci := 11) (q0 := 0) rfl rfl, CP.at hP hKN hD⟩ ⟨⟨rfl, rfl⟩, ⟨Nat.le_of_ble_eq_true rfl, Nat.le_of_ble_eq_true rfl⟩, ⟨Nat.le_of_ble_eq_true rfl, Nat.le_of_ble_eq_true rfl⟩⟩ hl.1 rfl (Nat.le_of_ble_eq_true rfl) dX11_tested_113) hP hD hS hA (fun u457 H locs w458 hP hD hS => ?_)
    have w458 : (0 ≤ u457.toInt ∧ u457.toInt ≤ 1) ∧ ((u457.toInt = 1 → ∃ k : Nat, (k : Int) < g224.toInt ∧ (f227 k).toInt = 91) ∧ (u457.toInt = 0 → ∀ k : Nat, (k : Int) < g224.toInt → (f227 k).toInt ≠ 91)) := w458
    obtain ⟨hw460, hw461⟩ := w458
    refine W.eq (g2 := F0 m 116 ls [.int u457]) rfl ?_
    have hP : va_P D vwCl (MW Y o a (upd (upd (upd (upd (upd (upd I 16 g219) 17 g220) 18 g221) 20 g222) 21 g223) 24 g224) J (vf_upd (vf_upd (vf_upd F 5 f225) 6 f226) 23 f227) G) H := hP
    have hD : va_D A (MW Y o a (upd (upd (upd (upd (upd (upd I 16 g219) 17 g220) 18 g221) 20 g222) 21 g223) 24 g224) J (vf_upd (vf_upd (vf_upd F 5 f225) 6 f226) 23 f227) G) := hD
    rcases (show u457.toInt = 1 ∨ u457.toInt = 0 by omega) with c462 | c462
    · obtain rfl : u457 = 1 := i_is c462 (by decide)
      have zi1 : (1 : Int32).toInt = 1 := by decide
      refine W.eq (g2 := F0 m 116 ls [.int 1]) rfl ?_
      refine lv_if_eq (tgt := 134) hx hb dX11_tested_116 (by decide) (fun c463 => ?_) (fun c463 => ?_)
      · exact absurd c463 (by decide)
      refine lv_aload_n hx hb dX11_tested_119 rfl (lv_at hl 1 rfl) ?_
      refine cga (rn_V (As := []) (rest := []) (b := o) (m_see l D Y Z H.size o a (upd (upd (upd (upd (upd (upd I 16 g219) 17 g220) 18 g221) 20 g222) 21 g223) 24 g224) J (vf_upd (vf_upd (vf_upd F 5 f225) 6 f226) 23 f227) G   (show (0 ≤ g219.toInt ∧ g219.toInt ≤ 400) by omega) (show (0 ≤ (I 3).toInt ∧ (I 3).toInt ≤ 400) by omega) (show (g219.toInt ≤ (I 3).toInt) by omega)) ⟨hx, hb, hml, hown, hg⟩ lk_X11_183 ⟨CP.blind, va_recv hKN.1 hP (ci := 11) (q0 := 0) rfl rfl, CP.at hP hKN hD⟩ ⟨⟨rfl, rfl⟩, ⟨Nat.le_of_ble_eq_true rfl, Nat.le_of_ble_eq_true rfl⟩, ⟨Nat.le_of_ble_eq_true rfl, Nat.le_of_ble_eq_true rfl⟩⟩ hl.1 rfl (Nat.le_of_ble_eq_true rfl) dX11_tested_120) hP hD hS hA (fun u464 H locs w465 hP hD hS => ?_)
      obtain ⟨u466, u467⟩ := u464
      have w465 : (0 ≤ u467.toInt ∧ u467.toInt ≤ 400) ∧ (g219.toInt ≤ u467.toInt) ∧ (u467.toInt ≤ (I 3).toInt) ∧ ((u466.toInt = -1 ∧ u467.toInt = (I 3).toInt) ∨ (0 ≤ u466.toInt ∧ u466.toInt ≤ 255 ∧ u467.toInt < (I 3).toInt ∧ ((F 2) u467.toNatClampNeg).toInt ≠ 32)) ∧ (-1 ≤ u466.toInt ∧ u466.toInt ≤ 255) ∧ ((g219.toInt < (I 3).toInt ∧ ((F 2) g219.toNatClampNeg).toInt ≠ 32) → u467.toInt = g219.toInt) := w465
      obtain ⟨hw468, hw469, hw470, hw471, hw472, hw473⟩ := w465
      refine W.eq (g2 := F0 m 123 ls [.int u466]) rfl ?_
      have hP : va_P D vwCl (MW Y o a (upd (upd (upd (upd (upd (upd I 16 u467) 17 g220) 18 g221) 20 g222) 21 g223) 24 g224) J (vf_upd (vf_upd (vf_upd F 5 f225) 6 f226) 23 f227) G) H := hP
      have hD : va_D A (MW Y o a (upd (upd (upd (upd (upd (upd I 16 u467) 17 g220) 18 g221) 20 g222) 21 g223) 24 g224) J (vf_upd (vf_upd (vf_upd F 5 f225) 6 f226) 23 f227) G) := hD
      refine lv_pop hx hb dX11_tested_123 rfl ?_
      refine lv_aload_n hx hb dX11_tested_124 rfl (lv_at hl 1 rfl) ?_
      refine lv_iconst (v := 0) hx hb dX11_tested_125 (by decide) ?_
      refine lv_aload_n hx hb dX11_tested_126 rfl (lv_at hl 1 rfl) ?_
      refine va_get (D := D) (ci := 11) (v := .int u467) (C := RX11) (T := TX11) (N := 49) hx hb hg inGX11 hown hKN.1 hP 0 rfl rfl 16 (by decide) (hg _ kw_1224) (fun _ h9 => h9) rfl dX11_tested_127 ?_
      have zi0 : (0 : Int32).toInt = 0 := by decide
      refine cga (rn_V (As := [.int 0, .int u467]) (rest := []) (b := o) (m_fails l D Y Z H.size o a (upd (upd (upd (upd (upd (upd I 16 u467) 17 g220) 18 g221) 20 g222) 21 g223) 24 g224) J (vf_upd (vf_upd (vf_upd F 5 f225) 6 f226) 23 f227) G  0 u467 (show (0 ≤ (0 : Int32).toInt ∧ (0 : Int32).toInt ≤ 4) by omega) (show (0 ≤ u467.toInt ∧ u467.toInt ≤ 400) by omega) (show (0 ≤ g220.toInt ∧ g220.toInt ≤ 4000) by omega)) ⟨hx, hb, hml, hown, hg⟩ lk_X11_200 ⟨CP.blind, va_recv hKN.1 hP (ci := 11) (q0 := 0) rfl rfl, CP.at hP hKN hD⟩ ⟨⟨rfl, rfl⟩, ⟨Nat.le_of_ble_eq_true rfl, Nat.le_of_ble_eq_true rfl⟩, ⟨Nat.le_of_ble_eq_true rfl, Nat.le_of_ble_eq_true rfl⟩⟩ hl.1 rfl (Nat.le_of_ble_eq_true rfl) dX11_tested_130) hP hD hS hA (fun u474 H locs w475 hP hD hS => ?_)
      obtain ⟨u476, u477⟩ := u474
      have w475 : (u476.toInt = 0) ∧ (1 ≤ u477.toInt ∧ u477.toInt ≤ 4000) := w475
      obtain ⟨hw478, hw479⟩ := w475
      refine W.eq (g2 := F0 m 133 ls [.int u476]) rfl ?_
      have hP : va_P D vwCl (MW Y o a (upd (upd (upd (upd (upd (upd I 16 u467) 17 u477) 18 g221) 20 g222) 21 g223) 24 g224) J (vf_upd (vf_upd (vf_upd F 5 f225) 6 f226) 23 f227) G) H := hP
      have hD : va_D A (MW Y o a (upd (upd (upd (upd (upd (upd I 16 u467) 17 u477) 18 g221) 20 g222) 21 g223) 24 g224) J (vf_upd (vf_upd (vf_upd F 5 f225) 6 f226) 23 f227) G) := hD
      obtain rfl : u476 = 0 := i_is (X := 0) (by omega) (by decide)
      refine W.eq (g2 := F0 m 133 ls [.int 0]) rfl ?_
      refine W.widen (k := 0) (n := 0) (Nat.le_of_ble_eq_true rfl) (Nat.le_of_ble_eq_true rfl) ?_
      exact W.zret (v := 0) hx hb hr (by decide) (fun t ht hW => ⟨⟨(0, u467, u477, g221, g222, g223, g224, f225, f226, f227), rfl, ⟨(show (0 ≤ u467.toInt ∧ u467.toInt ≤ 400) by omega), (show ((I 16).toInt ≤ u467.toInt) by omega), (show (u467.toInt ≤ (I 3).toInt) by omega), (show (0 ≤ u477.toInt ∧ u477.toInt ≤ 4000) by omega), (show (0 ≤ g222.toInt ∧ g222.toInt ≤ 60) by omega), (show ((I 20).toInt ≤ g222.toInt) by omega), (show (0 ≤ (0 : Int32).toInt ∧ (0 : Int32).toInt ≤ 1) by omega), (show ((0 : Int32).toInt = 0 → 1 ≤ u477.toInt) by omega), (show ((0 : Int32).toInt = 1 → (f226 (I 19).toNatClampNeg).toInt ≤ u467.toInt) by omega), (fun h => absurd h (by decide)), (PG_tc hr453)⟩, CB.mk ht hP hD⟩, hS.F ht⟩) hS.2.2 dX11_tested_133
    · obtain rfl : u457 = 0 := i_is c462 (by decide)
      have zi0 : (0 : Int32).toInt = 0 := by decide
      refine W.eq (g2 := F0 m 116 ls [.int 0]) rfl ?_
      refine lv_if_eq (tgt := 134) hx hb dX11_tested_116 (by decide) (fun c480 => ?_) (fun c480 => ?_)
      rotate_left
      · exact absurd c480 (by decide)
      refine lv_aload_n hx hb dX11_tested_134 rfl (lv_at hl 1 rfl) ?_
      refine lv_iconst (v := 1) hx hb dX11_tested_135 (by decide) ?_
      have zi1 : (1 : Int32).toInt = 1 := by decide
      refine cga (rn_V (As := [.int 1]) (rest := []) (b := o) (m_settles l D Y Z H.size o a (upd (upd (upd (upd (upd (upd I 16 g219) 17 g220) 18 g221) 20 g222) 21 g223) 24 g224) J (vf_upd (vf_upd (vf_upd F 5 f225) 6 f226) 23 f227) G gs gb 1 (show (0 ≤ (I 19).toInt ∧ (I 19).toInt ≤ 17) by omega) (show (1 ≤ (1 : Int32).toInt ∧ (1 : Int32).toInt ≤ 3) by omega) (show (0 ≤ g224.toInt ∧ g224.toInt ≤ 400) by omega) (show (0 ≤ g222.toInt ∧ g222.toInt ≤ 60) by omega) (show ((f226 (I 19).toNatClampNeg).toInt + g224.toInt ≤ 400) by omega) (PG_to hr453 rfl (by omega) (by omega) (by omega)) (ent_le hr454 (by omega))) ⟨hx, hb, hml, hown, hg⟩ lk_X11_282 ⟨CP.blind, va_recv hKN.1 hP (ci := 11) (q0 := 0) rfl rfl, CP.at hP hKN hD⟩ ⟨⟨rfl, rfl⟩, ⟨Nat.le_of_ble_eq_true rfl, Nat.le_of_ble_eq_true rfl⟩, ⟨Nat.le_of_ble_eq_true rfl, Nat.le_of_ble_eq_true rfl⟩⟩ hl.1 rfl (Nat.le_of_ble_eq_true rfl) dX11_tested_136) hP hD hS hA (fun u481 H locs w482 hP hD hS => ?_)
      obtain ⟨u483, u484, f485, f486⟩ := u481
      have w482 : (0 ≤ u483.toInt ∧ u483.toInt ≤ 400) ∧ (u483.toInt ≤ g224.toInt) ∧ ((f486 (I 19).toNatClampNeg).toInt + u483.toInt = (f226 (I 19).toNatClampNeg).toInt + g224.toInt) ∧ PSg (F 4) (F 8) (F 7) f485 f486 gs (I 19).toNatClampNeg gb (nbo f227 (u483.toInt).toNat + 1) (g222.toInt).toNat ∧ (∀ k : Nat, (k : Int) < g224.toInt → (f227 k).toInt = 91 → (k : Int) < u483.toInt) ∧ ((1 : Int32).toInt = 1 → (u483.toInt = 0 ∨ (f227 (u483.toInt - 1).toNat).toInt = 91)) := w482
      obtain ⟨hw487, hw488, hw489, hw490, hw491, hw492⟩ := w482
      refine W.eq (g2 := F0 m 139 ls []) rfl ?_
      have hP : va_P D vwCl (MW Y o a (upd (upd (upd (upd (upd (upd I 16 g219) 17 g220) 18 g221) 20 g222) 21 u484) 24 u483) J (vf_upd (vf_upd (vf_upd F 5 f485) 6 f486) 23 f227) G) H := hP
      have hD : va_D A (MW Y o a (upd (upd (upd (upd (upd (upd I 16 g219) 17 g220) 18 g221) 20 g222) 21 u484) 24 u483) J (vf_upd (vf_upd (vf_upd F 5 f485) 6 f486) 23 f227) G) := hD
      have t493 := br_no (j := u483.toInt) (hw461.2 (by decide)) (by omega) (by omega) (hw492 (by decide))
      have t493n : nbo f227 u483.toInt.toNat = 0 := by rw [show u483.toInt.toNat = 0 by omega]; rfl
      refine lv_iconst (v := 1) hx hb dX11_tested_139 (by decide) ?_
      refine W.widen (k := 0) (n := 0) (Nat.le_of_ble_eq_true rfl) (Nat.le_of_ble_eq_true rfl) ?_
      exact W.zret (v := 1) hx hb hr (by decide) (fun t ht hW => ⟨⟨(1, g219, g220, g221, g222, u484, u483, f485, f486, f227), rfl, ⟨(show (0 ≤ g219.toInt ∧ g219.toInt ≤ 400) by omega), (show ((I 16).toInt ≤ g219.toInt) by omega), (show (g219.toInt ≤ (I 3).toInt) by omega), (show (0 ≤ g220.toInt ∧ g220.toInt ≤ 4000) by omega), (show (0 ≤ g222.toInt ∧ g222.toInt ≤ 60) by omega), (show ((I 20).toInt ≤ g222.toInt) by omega), (show (0 ≤ (1 : Int32).toInt ∧ (1 : Int32).toInt ≤ 1) by omega), (show ((1 : Int32).toInt = 0 → 1 ≤ g220.toInt) by omega), (show ((1 : Int32).toInt = 1 → (f486 (I 19).toNatClampNeg).toInt ≤ g219.toInt) by omega), (fun _ => (PG_to hw490 rfl (by omega) (by omega) (by omega))), (PG_tc hw490)⟩, CB.mk ht hP hD⟩, hS.F ht⟩) hS.2.2 dX11_tested_140
  · skip
    have c456 := i_ne (Eq.refl g218.toInt) (show (0 : Int32).toInt = 0 by decide) c456
    refine lv_aload_n hx hb dX11_tested_16 rfl (lv_at hl 1 rfl) ?_
    refine cga (rn_V (As := []) (rest := []) (b := o) (m_fact l D Y Z H.size o a (upd (upd (upd (upd (upd (upd I 16 g219) 17 g220) 18 g221) 20 g222) 21 g223) 24 g224) J (vf_upd (vf_upd (vf_upd F 5 f225) 6 f226) 23 f227) G gs gb  (show (0 ≤ g219.toInt ∧ g219.toInt ≤ 400) by omega) (show (0 ≤ (I 3).toInt ∧ (I 3).toInt ≤ 400) by omega) (show (g219.toInt ≤ (I 3).toInt) by omega) (show (0 ≤ g220.toInt ∧ g220.toInt ≤ 4000) by omega) (show (0 ≤ g222.toInt ∧ g222.toInt ≤ 60) by omega) (show (0 ≤ (I 19).toInt ∧ (I 19).toInt ≤ 17) by omega) (show (0 ≤ g224.toInt ∧ g224.toInt ≤ 400) by omega) (show ((f226 (I 19).toNatClampNeg).toInt + g224.toInt ≤ g219.toInt) by omega) (PG_to hr453 rfl (by omega) (by omega) (by omega)) (ent_le hr454 (by omega))) ⟨hx, hb, hml, hown, hg⟩ lk_X11_288 ⟨CP.blind, va_recv hKN.1 hP (ci := 11) (q0 := 0) rfl rfl, CP.at hP hKN hD⟩ ⟨⟨rfl, rfl⟩, ⟨Nat.le_of_ble_eq_true rfl, Nat.le_of_ble_eq_true rfl⟩, ⟨Nat.le_of_ble_eq_true rfl, Nat.le_of_ble_eq_true rfl⟩⟩ hl.1 rfl (Nat.le_of_ble_eq_true rfl) dX11_tested_17) hP hD hS hA (fun u494 H locs w495 hP hD hS => ?_)
    obtain ⟨u496, u497, u498, u499, u500, u501, u502, f503, f504, f505⟩ := u494
    have w495 : (0 ≤ u497.toInt ∧ u497.toInt ≤ 400) ∧ (g219.toInt ≤ u497.toInt) ∧ (u497.toInt ≤ (I 3).toInt) ∧ (0 ≤ u498.toInt ∧ u498.toInt ≤ 4000) ∧ (0 ≤ u500.toInt ∧ u500.toInt ≤ 60) ∧ (g222.toInt ≤ u500.toInt) ∧ (0 ≤ u496.toInt ∧ u496.toInt ≤ 1) ∧ (u496.toInt = 0 → 1 ≤ u498.toInt) ∧ (0 ≤ u502.toInt ∧ u502.toInt ≤ 400) ∧ (u496.toInt = 1 → (f504 (I 19).toNatClampNeg).toInt + u502.toInt ≤ u497.toInt) ∧ (u496.toInt = 1 → PSg (F 4) (F 8) (F 7) f503 f504 gs (I 19).toNatClampNeg gb (nbo f505 (u502.toInt).toNat + 1) (u500.toInt).toNat) ∧ (u496.toInt = 1 → ent f505 (u502.toInt).toNat) ∧ TC (F 4) (F 8) (F 7) f503 := w495
    obtain ⟨hw506, hw507, hw508, hw509, hw510, hw511, hw512, hw513, hw514, hw515, hw516, hw517, hw518⟩ := w495
    refine W.eq (g2 := F0 m 20 ls [.int u496]) rfl ?_
    have hP : va_P D vwCl (MW Y o a (upd (upd (upd (upd (upd (upd I 16 u497) 17 u498) 18 u499) 20 u500) 21 u501) 24 u502) J (vf_upd (vf_upd (vf_upd F 5 f503) 6 f504) 23 f505) G) H := hP
    have hD : va_D A (MW Y o a (upd (upd (upd (upd (upd (upd I 16 u497) 17 u498) 18 u499) 20 u500) 21 u501) 24 u502) J (vf_upd (vf_upd (vf_upd F 5 f503) 6 f504) 23 f505) G) := hD
    rcases (show u496.toInt = 1 ∨ u496.toInt = 0 by omega) with c519 | c519
    · obtain rfl : u496 = 1 := i_is c519 (by decide)
      have zi1 : (1 : Int32).toInt = 1 := by decide
      have t520 := hw516 (by decide)
      have t521 := hw517 (by decide)
      refine W.eq (g2 := F0 m 20 ls [.int 1]) rfl ?_
      refine lv_if_ne (tgt := 25) hx hb dX11_tested_20 (by decide) (fun c522 => ?_) (fun c522 => ?_)
      rotate_left
      · exact absurd c522 (by decide)
      refine lv_aload_n hx hb dX11_tested_25 rfl (lv_at hl 1 rfl) ?_
      refine cga (rn_V (As := []) (rest := []) (b := o) (m_closes l D Y Z H.size o a (upd (upd (upd (upd (upd (upd I 16 u497) 17 u498) 18 u499) 20 u500) 21 u501) 24 u502) J (vf_upd (vf_upd (vf_upd F 5 f503) 6 f504) 23 f505) G gs gb  (show (0 ≤ u497.toInt ∧ u497.toInt ≤ 400) by omega) (show (0 ≤ (I 3).toInt ∧ (I 3).toInt ≤ 400) by omega) (show (u497.toInt ≤ (I 3).toInt) by omega) (show (0 ≤ u500.toInt ∧ u500.toInt ≤ 60) by omega) (show (0 ≤ (I 19).toInt ∧ (I 19).toInt ≤ 17) by omega) (show (0 ≤ u502.toInt ∧ u502.toInt ≤ 400) by omega) (show ((f504 (I 19).toNatClampNeg).toInt + u502.toInt ≤ u497.toInt) by omega) (PG_to t520 rfl (by omega) (by omega) (by omega)) (ent_le t521 (by omega))) ⟨hx, hb, hml, hown, hg⟩ lk_X11_291 ⟨CP.blind, va_recv hKN.1 hP (ci := 11) (q0 := 0) rfl rfl, CP.at hP hKN hD⟩ ⟨⟨rfl, rfl⟩, ⟨Nat.le_of_ble_eq_true rfl, Nat.le_of_ble_eq_true rfl⟩, ⟨Nat.le_of_ble_eq_true rfl, Nat.le_of_ble_eq_true rfl⟩⟩ hl.1 rfl (Nat.le_of_ble_eq_true rfl) dX11_tested_26) hP hD hS hA (fun u523 H locs w524 hP hD hS => ?_)
      obtain ⟨u525, u526, u527, f528, f529⟩ := u523
      have w524 : (0 ≤ u525.toInt ∧ u525.toInt ≤ 400) ∧ (u497.toInt ≤ u525.toInt) ∧ (u525.toInt ≤ (I 3).toInt) ∧ (0 ≤ u526.toInt ∧ u526.toInt ≤ 400) ∧ (u526.toInt ≤ u502.toInt) ∧ ((f529 (I 19).toNatClampNeg).toInt + u526.toInt ≤ u525.toInt) ∧ PSg (F 4) (F 8) (F 7) f528 f529 gs (I 19).toNatClampNeg gb (nbo f505 (u526.toInt).toNat + 1) (u500.toInt).toNat := w524
      obtain ⟨hw530, hw531, hw532, hw533, hw534, hw535, hw536⟩ := w524
      refine W.eq (g2 := F0 m 29 ls []) rfl ?_
      have hP : va_P D vwCl (MW Y o a (upd (upd (upd (upd (upd (upd I 16 u525) 17 u498) 18 u499) 20 u500) 21 u527) 24 u526) J (vf_upd (vf_upd (vf_upd F 5 f528) 6 f529) 23 f505) G) H := hP
      have hD : va_D A (MW Y o a (upd (upd (upd (upd (upd (upd I 16 u525) 17 u498) 18 u499) 20 u500) 21 u527) 24 u526) J (vf_upd (vf_upd (vf_upd F 5 f528) 6 f529) 23 f505) G) := hD
      refine lv_aload_n hx hb dX11_tested_29 rfl (lv_at hl 1 rfl) ?_
      refine lv_ldc2 (v := 6385252) hx hb hown (hg _ kw_1587) dX11_tested_30 ?_
      have zl6385252 : (6385252 : Int64).toInt = 6385252 := by decide
      refine cga (rn_V (As := [.long 6385252]) (rest := []) (b := o) (m_isWord l D Y Z H.size o a (upd (upd (upd (upd (upd (upd I 16 u525) 17 u498) 18 u499) 20 u500) 21 u527) 24 u526) J (vf_upd (vf_upd (vf_upd F 5 f528) 6 f529) 23 f505) G  6385252 (show (0 ≤ u525.toInt ∧ u525.toInt ≤ 400) by omega) (show (0 ≤ (I 3).toInt ∧ (I 3).toInt ≤ 400) by omega) (show (u525.toInt ≤ (I 3).toInt) by omega)) ⟨hx, hb, hml, hown, hg⟩ lk_X11_190 ⟨CP.blind, va_recv hKN.1 hP (ci := 11) (q0 := 0) rfl rfl, CP.at hP hKN hD⟩ ⟨⟨rfl, rfl⟩, ⟨Nat.le_of_ble_eq_true rfl, Nat.le_of_ble_eq_true rfl⟩, ⟨Nat.le_of_ble_eq_true rfl, Nat.le_of_ble_eq_true rfl⟩⟩ hl.1 rfl (Nat.le_of_ble_eq_true rfl) dX11_tested_33) hP hD hS hA (fun u537 H locs w538 hP hD hS => ?_)
      obtain ⟨u539, u540⟩ := u537
      have w538 : (0 ≤ u540.toInt ∧ u540.toInt ≤ 400) ∧ (u525.toInt ≤ u540.toInt) ∧ (u540.toInt ≤ (I 3).toInt) ∧ (0 ≤ u539.toInt ∧ u539.toInt ≤ 1) ∧ (u539.toInt = 1 → (u540.toInt < (I 3).toInt ∧ 97 ≤ ((F 2) u540.toNatClampNeg).toInt ∧ ((F 2) u540.toNatClampNeg).toInt ≤ 122)) ∧ ((u525.toInt < (I 3).toInt ∧ ((F 2) u525.toNatClampNeg).toInt ≠ 32) → u540.toInt = u525.toInt) := w538
      obtain ⟨hw541, hw542, hw543, hw544, hw545, hw546⟩ := w538
      refine W.eq (g2 := F0 m 36 ls [.int u539]) rfl ?_
      have hP : va_P D vwCl (MW Y o a (upd (upd (upd (upd (upd (upd I 16 u540) 17 u498) 18 u499) 20 u500) 21 u527) 24 u526) J (vf_upd (vf_upd (vf_upd F 5 f528) 6 f529) 23 f505) G) H := hP
      have hD : va_D A (MW Y o a (upd (upd (upd (upd (upd (upd I 16 u540) 17 u498) 18 u499) 20 u500) 21 u527) 24 u526) J (vf_upd (vf_upd (vf_upd F 5 f528) 6 f529) 23 f505) G) := hD
      rcases (show u539.toInt = 1 ∨ u539.toInt = 0 by omega) with c547 | c547
      · obtain rfl : u539 = 1 := i_is c547 (by decide)
        refine W.eq (g2 := F0 m 36 ls [.int 1]) rfl ?_
        refine lv_if_ne (tgt := 49) hx hb dX11_tested_36 (by decide) (fun c548 => ?_) (fun c548 => ?_)
        rotate_left
        · exact absurd c548 (by decide)
        refine lv_iconst (v := 1) hx hb dX11_tested_49 (by decide) ?_
        refine lv_goto (tgt := 54) hx hb dX11_tested_50 (by decide) ?_
        refine lv_istore_n (lv' := [(1, .int 1), (0, .ref o)]) hx hb dX11_tested_54 rfl hl (by decide) rfl (fun ls hl => ?_)
        refine lv_iload_n hx hb dX11_tested_55 rfl (lv_at hl 0 rfl) ?_
        refine lv_if_eq (tgt := 12) hx hb dX11_tested_56 (by decide) (fun c549 => ?_) (fun c549 => ?_)
        · exact absurd c549 (by decide)
        refine lv_aload_n hx hb dX11_tested_59 rfl (lv_at hl 1 rfl) ?_
        refine lv_ldc2 (v := 6385252) hx hb hown (hg _ kw_1587) dX11_tested_60 ?_
        refine cga (rn_V (As := [.long 6385252]) (rest := []) (b := o) (m_isWord l D Y Z H.size o a (upd (upd (upd (upd (upd (upd I 16 u540) 17 u498) 18 u499) 20 u500) 21 u527) 24 u526) J (vf_upd (vf_upd (vf_upd F 5 f528) 6 f529) 23 f505) G  6385252 (show (0 ≤ u540.toInt ∧ u540.toInt ≤ 400) by omega) (show (0 ≤ (I 3).toInt ∧ (I 3).toInt ≤ 400) by omega) (show (u540.toInt ≤ (I 3).toInt) by omega)) ⟨hx, hb, hml, hown, hg⟩ lk_X11_190 ⟨CP.blind, va_recv hKN.1 hP (ci := 11) (q0 := 0) rfl rfl, CP.at hP hKN hD⟩ ⟨⟨rfl, rfl⟩, ⟨Nat.le_of_ble_eq_true rfl, Nat.le_of_ble_eq_true rfl⟩, ⟨Nat.le_of_ble_eq_true rfl, Nat.le_of_ble_eq_true rfl⟩⟩ hl.1 rfl (Nat.le_of_ble_eq_true rfl) dX11_tested_63) hP hD hS hA (fun u550 H locs w551 hP hD hS => ?_)
        obtain ⟨u552, u553⟩ := u550
        have w551 : (0 ≤ u553.toInt ∧ u553.toInt ≤ 400) ∧ (u540.toInt ≤ u553.toInt) ∧ (u553.toInt ≤ (I 3).toInt) ∧ (0 ≤ u552.toInt ∧ u552.toInt ≤ 1) ∧ (u552.toInt = 1 → (u553.toInt < (I 3).toInt ∧ 97 ≤ ((F 2) u553.toNatClampNeg).toInt ∧ ((F 2) u553.toNatClampNeg).toInt ≤ 122)) ∧ ((u540.toInt < (I 3).toInt ∧ ((F 2) u540.toNatClampNeg).toInt ≠ 32) → u553.toInt = u540.toInt) := w551
        obtain ⟨hw554, hw555, hw556, hw557, hw558, hw559⟩ := w551
        refine W.eq (g2 := F0 m 66 ls [.int u552]) rfl ?_
        have hP : va_P D vwCl (MW Y o a (upd (upd (upd (upd (upd (upd I 16 u553) 17 u498) 18 u499) 20 u500) 21 u527) 24 u526) J (vf_upd (vf_upd (vf_upd F 5 f528) 6 f529) 23 f505) G) H := hP
        have hD : va_D A (MW Y o a (upd (upd (upd (upd (upd (upd I 16 u553) 17 u498) 18 u499) 20 u500) 21 u527) 24 u526) J (vf_upd (vf_upd (vf_upd F 5 f528) 6 f529) 23 f505) G) := hD
        rcases (show u552.toInt = 1 ∨ u552.toInt = 0 by omega) with c560 | c560
        · obtain rfl : u552 = 1 := i_is c560 (by decide)
          refine W.eq (g2 := F0 m 66 ls [.int 1]) rfl ?_
          refine lv_if_eq (tgt := 74) hx hb dX11_tested_66 (by decide) (fun c561 => ?_) (fun c561 => ?_)
          · exact absurd c561 (by decide)
          refine lv_bipush (v := 12) hx hb dX11_tested_69 (by decide) ?_
          refine lv_goto (tgt := 76) hx hb dX11_tested_71 (by decide) ?_
          refine lv_istore_n (lv' := [(2, .int 12), (1, .int 1), (0, .ref o)]) hx hb dX11_tested_76 rfl hl (by decide) rfl (fun ls hl => ?_)
          have t562 : u553.toInt = u540.toInt → ((F 2) u553.toNatClampNeg).toInt = ((F 2) u540.toNatClampNeg).toInt := fun h => by rw [Int32.toInt_inj.mp h]
          refine lv_aload_n hx hb dX11_tested_77 rfl (lv_at hl 2 rfl) ?_
          refine cga (rn_V (As := []) (rest := []) (b := o) (m_passWord l D Y Z H.size o a (upd (upd (upd (upd (upd (upd I 16 u553) 17 u498) 18 u499) 20 u500) 21 u527) 24 u526) J (vf_upd (vf_upd (vf_upd F 5 f528) 6 f529) 23 f505) G   (show (0 ≤ u553.toInt ∧ u553.toInt ≤ 400) by omega) (show (0 ≤ (I 3).toInt ∧ (I 3).toInt ≤ 400) by omega) (show (u553.toInt ≤ (I 3).toInt) by omega)) ⟨hx, hb, hml, hown, hg⟩ lk_X11_194 ⟨CP.blind, va_recv hKN.1 hP (ci := 11) (q0 := 0) rfl rfl, CP.at hP hKN hD⟩ ⟨⟨rfl, rfl⟩, ⟨Nat.le_of_ble_eq_true rfl, Nat.le_of_ble_eq_true rfl⟩, ⟨Nat.le_of_ble_eq_true rfl, Nat.le_of_ble_eq_true rfl⟩⟩ hl.1 rfl (Nat.le_of_ble_eq_true rfl) dX11_tested_78) hP hD hS hA (fun u563 H locs w564 hP hD hS => ?_)
          have w564 : (0 ≤ u563.toInt ∧ u563.toInt ≤ 400) ∧ (u553.toInt ≤ u563.toInt) ∧ (u563.toInt ≤ (I 3).toInt) ∧ ((97 ≤ ((F 2) u553.toNatClampNeg).toInt ∧ ((F 2) u553.toNatClampNeg).toInt ≤ 122 ∧ u553.toInt < (I 3).toInt) → u553.toInt + 1 ≤ u563.toInt) := w564
          obtain ⟨hw566, hw567, hw568, hw569⟩ := w564
          refine W.eq (g2 := F0 m 81 ls []) rfl ?_
          have hP : va_P D vwCl (MW Y o a (upd (upd (upd (upd (upd (upd I 16 u563) 17 u498) 18 u499) 20 u500) 21 u527) 24 u526) J (vf_upd (vf_upd (vf_upd F 5 f528) 6 f529) 23 f505) G) H := hP
          have hD : va_D A (MW Y o a (upd (upd (upd (upd (upd (upd I 16 u563) 17 u498) 18 u499) 20 u500) 21 u527) 24 u526) J (vf_upd (vf_upd (vf_upd F 5 f528) 6 f529) 23 f505) G) := hD
          refine lv_aload_n hx hb dX11_tested_81 rfl (lv_at hl 2 rfl) ?_
          refine lv_iload_n hx hb dX11_tested_82 rfl (lv_at hl 0 rfl) ?_
          have zi12 : (12 : Int32).toInt = 12 := by decide
          refine cg0 (rn_S (As := [.int 12]) (rest := [.ref o]) (m_strength l D Y Z H.size   12 ) ⟨hx, hb, hml, hown, hg⟩ lk_X11_246 ⟨CP.blind, CP.at nilP hKN (nilD (A := fun _ => True))⟩ ⟨⟨rfl, rfl⟩, ⟨Nat.le_of_ble_eq_true rfl, Nat.le_of_ble_eq_true rfl⟩, ⟨Nat.le_of_ble_eq_true rfl, Nat.le_of_ble_eq_true rfl⟩⟩ hl.1 rfl (Nat.le_of_ble_eq_true rfl) dX11_tested_83) hP hS hA (fun u570 H locs w571 hP hS => ?_)
          have w571 : (0 ≤ u570.toInt ∧ u570.toInt ≤ 3) ∧ (((12 : Int32).toInt = 13 ∧ u570.toInt = 1) ∨ ((12 : Int32).toInt = 12 ∧ u570.toInt = 2) ∨ ((12 : Int32).toInt = 11 ∧ u570.toInt = 3) ∨ ((12 : Int32).toInt ≠ 11 ∧ (12 : Int32).toInt ≠ 12 ∧ (12 : Int32).toInt ≠ 13 ∧ u570.toInt = 0)) := w571
          obtain ⟨hw573, hw574⟩ := w571
          refine W.eq (g2 := F0 m 86 ls [.int u570, .ref o]) rfl ?_
          refine cga (rn_V (As := [.int u570]) (rest := []) (b := o) (m_settles l D Y Z H.size o a (upd (upd (upd (upd (upd (upd I 16 u563) 17 u498) 18 u499) 20 u500) 21 u527) 24 u526) J (vf_upd (vf_upd (vf_upd F 5 f528) 6 f529) 23 f505) G gs gb u570 (show (0 ≤ (I 19).toInt ∧ (I 19).toInt ≤ 17) by omega) (show (1 ≤ u570.toInt ∧ u570.toInt ≤ 3) by omega) (show (0 ≤ u526.toInt ∧ u526.toInt ≤ 400) by omega) (show (0 ≤ u500.toInt ∧ u500.toInt ≤ 60) by omega) (show ((f529 (I 19).toNatClampNeg).toInt + u526.toInt ≤ 400) by omega) (PG_to hw536 rfl (by omega) (by omega) (by omega)) (ent_le t521 (by omega))) ⟨hx, hb, hml, hown, hg⟩ lk_X11_282 ⟨CP.blind, va_recv hKN.1 hP (ci := 11) (q0 := 0) rfl rfl, CP.at hP hKN hD⟩ ⟨⟨rfl, rfl⟩, ⟨Nat.le_of_ble_eq_true rfl, Nat.le_of_ble_eq_true rfl⟩, ⟨Nat.le_of_ble_eq_true rfl, Nat.le_of_ble_eq_true rfl⟩⟩ hl.1 rfl (Nat.le_of_ble_eq_true rfl) dX11_tested_86) hP hD hS hA (fun u575 H locs w576 hP hD hS => ?_)
          obtain ⟨u577, u578, f579, f580⟩ := u575
          have w576 : (0 ≤ u577.toInt ∧ u577.toInt ≤ 400) ∧ (u577.toInt ≤ u526.toInt) ∧ ((f580 (I 19).toNatClampNeg).toInt + u577.toInt = (f529 (I 19).toNatClampNeg).toInt + u526.toInt) ∧ PSg (F 4) (F 8) (F 7) f579 f580 gs (I 19).toNatClampNeg gb (nbo f505 (u577.toInt).toNat + 1) (u500.toInt).toNat ∧ (∀ k : Nat, (k : Int) < u526.toInt → (f505 k).toInt = 91 → (k : Int) < u577.toInt) ∧ (u570.toInt = 1 → (u577.toInt = 0 ∨ (f505 (u577.toInt - 1).toNat).toInt = 91)) := w576
          obtain ⟨hw581, hw582, hw583, hw584, hw585, hw586⟩ := w576
          refine W.eq (g2 := F0 m 89 ls []) rfl ?_
          have hP : va_P D vwCl (MW Y o a (upd (upd (upd (upd (upd (upd I 16 u563) 17 u498) 18 u499) 20 u500) 21 u578) 24 u577) J (vf_upd (vf_upd (vf_upd F 5 f579) 6 f580) 23 f505) G) H := hP
          have hD : va_D A (MW Y o a (upd (upd (upd (upd (upd (upd I 16 u563) 17 u498) 18 u499) 20 u500) 21 u578) 24 u577) J (vf_upd (vf_upd (vf_upd F 5 f579) 6 f580) 23 f505) G) := hD
          refine lv_aload_n hx hb dX11_tested_89 rfl (lv_at hl 2 rfl) ?_
          refine va_get (D := D) (ci := 11) (v := .ref (a 23)) (C := RX11) (T := TX11) (N := 49) hx hb hg inGX11 hown hKN.1 hP 0 rfl rfl 23 (by decide) (hg _ kw_1231) (fun _ h9 => h9) rfl dX11_tested_90 ?_
          refine lv_aload_n hx hb dX11_tested_93 rfl (lv_at hl 2 rfl) ?_
          refine va_get (D := D) (ci := 11) (v := .int u577) (C := RX11) (T := TX11) (N := 49) hx hb hg inGX11 hown hKN.1 hP 0 rfl rfl 24 (by decide) (hg _ kw_1232) (fun _ h9 => h9) rfl dX11_tested_94 ?_
          refine lv_iload_n hx hb dX11_tested_97 rfl (lv_at hl 0 rfl) ?_
          refine va_iast hx hb hKN.1 hP hD hS 16 0 rfl rfl (vp_in_iff.mpr ⟨by omega, by omega⟩) dX11_tested_98 (fun H locs hP hD hS => ?_)
          obtain ⟨f587, ef587, hP, hD⟩ : ∃ f587 : Nat → Int32, f587 = upd f505 u577.toNatClampNeg 12 ∧ va_P D vwCl (MW Y o a (upd (upd (upd (upd (upd (upd I 16 u563) 17 u498) 18 u499) 20 u500) 21 u578) 24 u577) J (vf_upd (vf_upd (vf_upd F 5 f579) 6 f580) 23 f587) G) H ∧ va_D A (MW Y o a (upd (upd (upd (upd (upd (upd I 16 u563) 17 u498) 18 u499) 20 u500) 21 u578) 24 u577) J (vf_upd (vf_upd (vf_upd F 5 f579) 6 f580) 23 f587) G) := ⟨_, rfl, hP, hD⟩
          have t588n := nbo_push3 (m := (u577.toInt + 1).toNat) (i := u577) (v := 12) ef587 (by omega) (by omega)
          have t588e := ent_p (m := (u577.toInt + 1).toNat) (i := u577) (v := 12) ef587 (ent_le t521 (by omega)) (by omega) (by omega) (by omega)
          refine lv_aload_n hx hb dX11_tested_99 rfl (lv_at hl 2 rfl) ?_
          refine lv_dup hx hb dX11_tested_100 rfl ?_
          refine va_get (D := D) (ci := 11) (v := .int u577) (C := RX11) (T := TX11) (N := 49) hx hb hg inGX11 hown hKN.1 hP 0 rfl rfl 24 (by decide) (hg _ kw_1232) (fun _ h9 => h9) rfl dX11_tested_101 ?_
          refine lv_iconst (v := 1) hx hb dX11_tested_104 (by decide) ?_
          refine lv_iadd hx hb dX11_tested_105 ?_
          refine lv_topi (fun v589 ev589 => ?_)
          have hv589 := i_add (Eq.refl u577.toInt) (show (1 : Int32).toInt = 1 by decide) ev589 (by omega) (by omega)
          refine va_put (D := D) (ci := 11) (v := .int v589) (ty := .int) (C := RX11) (T := TX11) (N := 49) hx hb hg inGX11 tyX11 tyX11_ok nmX11 hown hKN.1 hP hD hS 0 rfl rfl 24 (by decide) (hg _ kw_1232) (fun _ h9 => h9) rfl (by decide +kernel) rfl rfl (Nat.le_of_ble_eq_true rfl) dX11_tested_106 (fun H locs hP hD hS => ?_)
          have hP : va_P D vwCl (MW Y o a (upd (upd (upd (upd (upd (upd I 16 u563) 17 u498) 18 u499) 20 u500) 21 u578) 24 v589) J (vf_upd (vf_upd (vf_upd F 5 f579) 6 f580) 23 f587) G) H := hP
          have hD : va_D A (MW Y o a (upd (upd (upd (upd (upd (upd I 16 u563) 17 u498) 18 u499) 20 u500) 21 u578) 24 v589) J (vf_upd (vf_upd (vf_upd F 5 f579) 6 f580) 23 f587) G) := hD
          have t590 : nbo f587 (u577.toInt + 1).toNat = nbo f587 v589.toInt.toNat := by rw [show (u577.toInt + 1).toNat = v589.toInt.toNat by omega]
          refine lv_goto (tgt := 12) hx hb dX11_tested_109 (by decide) ?_
          exact ih455 (1, u563, u498, u499, u500, u578, v589, f579, f580, f587) H locs ls (by show (2 * (400 - u563.toInt) + (1 : Int32).toInt).toNat < (2 * (400 - g219.toInt) + g218.toInt).toNat; omega) ⟨hP, hD, hS, lv_sub hl [1, 2] rfl, by omega, by omega, by omega, by omega, by omega, by omega, by omega, by omega, by omega, (PG_to hw584 rfl (by omega) (by omega) (by omega)), (ent_le t588e (by omega))⟩
        · obtain rfl : u552 = 0 := i_is c560 (by decide)
          have zi0 : (0 : Int32).toInt = 0 := by decide
          refine W.eq (g2 := F0 m 66 ls [.int 0]) rfl ?_
          refine lv_if_eq (tgt := 74) hx hb dX11_tested_66 (by decide) (fun c591 => ?_) (fun c591 => ?_)
          rotate_left
          · exact absurd c591 (by decide)
          refine lv_bipush (v := 13) hx hb dX11_tested_74 (by decide) ?_
          refine lv_istore_n (lv' := [(2, .int 13), (1, .int 1), (0, .ref o)]) hx hb dX11_tested_76 rfl hl (by decide) rfl (fun ls hl => ?_)
          have t592 : u553.toInt = u540.toInt → ((F 2) u553.toNatClampNeg).toInt = ((F 2) u540.toNatClampNeg).toInt := fun h => by rw [Int32.toInt_inj.mp h]
          refine lv_aload_n hx hb dX11_tested_77 rfl (lv_at hl 2 rfl) ?_
          refine cga (rn_V (As := []) (rest := []) (b := o) (m_passWord l D Y Z H.size o a (upd (upd (upd (upd (upd (upd I 16 u553) 17 u498) 18 u499) 20 u500) 21 u527) 24 u526) J (vf_upd (vf_upd (vf_upd F 5 f528) 6 f529) 23 f505) G   (show (0 ≤ u553.toInt ∧ u553.toInt ≤ 400) by omega) (show (0 ≤ (I 3).toInt ∧ (I 3).toInt ≤ 400) by omega) (show (u553.toInt ≤ (I 3).toInt) by omega)) ⟨hx, hb, hml, hown, hg⟩ lk_X11_194 ⟨CP.blind, va_recv hKN.1 hP (ci := 11) (q0 := 0) rfl rfl, CP.at hP hKN hD⟩ ⟨⟨rfl, rfl⟩, ⟨Nat.le_of_ble_eq_true rfl, Nat.le_of_ble_eq_true rfl⟩, ⟨Nat.le_of_ble_eq_true rfl, Nat.le_of_ble_eq_true rfl⟩⟩ hl.1 rfl (Nat.le_of_ble_eq_true rfl) dX11_tested_78) hP hD hS hA (fun u593 H locs w594 hP hD hS => ?_)
          have w594 : (0 ≤ u593.toInt ∧ u593.toInt ≤ 400) ∧ (u553.toInt ≤ u593.toInt) ∧ (u593.toInt ≤ (I 3).toInt) ∧ ((97 ≤ ((F 2) u553.toNatClampNeg).toInt ∧ ((F 2) u553.toNatClampNeg).toInt ≤ 122 ∧ u553.toInt < (I 3).toInt) → u553.toInt + 1 ≤ u593.toInt) := w594
          obtain ⟨hw596, hw597, hw598, hw599⟩ := w594
          refine W.eq (g2 := F0 m 81 ls []) rfl ?_
          have hP : va_P D vwCl (MW Y o a (upd (upd (upd (upd (upd (upd I 16 u593) 17 u498) 18 u499) 20 u500) 21 u527) 24 u526) J (vf_upd (vf_upd (vf_upd F 5 f528) 6 f529) 23 f505) G) H := hP
          have hD : va_D A (MW Y o a (upd (upd (upd (upd (upd (upd I 16 u593) 17 u498) 18 u499) 20 u500) 21 u527) 24 u526) J (vf_upd (vf_upd (vf_upd F 5 f528) 6 f529) 23 f505) G) := hD
          refine lv_aload_n hx hb dX11_tested_81 rfl (lv_at hl 2 rfl) ?_
          refine lv_iload_n hx hb dX11_tested_82 rfl (lv_at hl 0 rfl) ?_
          have zi13 : (13 : Int32).toInt = 13 := by decide
          refine cg0 (rn_S (As := [.int 13]) (rest := [.ref o]) (m_strength l D Y Z H.size   13 ) ⟨hx, hb, hml, hown, hg⟩ lk_X11_246 ⟨CP.blind, CP.at nilP hKN (nilD (A := fun _ => True))⟩ ⟨⟨rfl, rfl⟩, ⟨Nat.le_of_ble_eq_true rfl, Nat.le_of_ble_eq_true rfl⟩, ⟨Nat.le_of_ble_eq_true rfl, Nat.le_of_ble_eq_true rfl⟩⟩ hl.1 rfl (Nat.le_of_ble_eq_true rfl) dX11_tested_83) hP hS hA (fun u600 H locs w601 hP hS => ?_)
          have w601 : (0 ≤ u600.toInt ∧ u600.toInt ≤ 3) ∧ (((13 : Int32).toInt = 13 ∧ u600.toInt = 1) ∨ ((13 : Int32).toInt = 12 ∧ u600.toInt = 2) ∨ ((13 : Int32).toInt = 11 ∧ u600.toInt = 3) ∨ ((13 : Int32).toInt ≠ 11 ∧ (13 : Int32).toInt ≠ 12 ∧ (13 : Int32).toInt ≠ 13 ∧ u600.toInt = 0)) := w601
          obtain ⟨hw603, hw604⟩ := w601
          refine W.eq (g2 := F0 m 86 ls [.int u600, .ref o]) rfl ?_
          refine cga (rn_V (As := [.int u600]) (rest := []) (b := o) (m_settles l D Y Z H.size o a (upd (upd (upd (upd (upd (upd I 16 u593) 17 u498) 18 u499) 20 u500) 21 u527) 24 u526) J (vf_upd (vf_upd (vf_upd F 5 f528) 6 f529) 23 f505) G gs gb u600 (show (0 ≤ (I 19).toInt ∧ (I 19).toInt ≤ 17) by omega) (show (1 ≤ u600.toInt ∧ u600.toInt ≤ 3) by omega) (show (0 ≤ u526.toInt ∧ u526.toInt ≤ 400) by omega) (show (0 ≤ u500.toInt ∧ u500.toInt ≤ 60) by omega) (show ((f529 (I 19).toNatClampNeg).toInt + u526.toInt ≤ 400) by omega) (PG_to hw536 rfl (by omega) (by omega) (by omega)) (ent_le t521 (by omega))) ⟨hx, hb, hml, hown, hg⟩ lk_X11_282 ⟨CP.blind, va_recv hKN.1 hP (ci := 11) (q0 := 0) rfl rfl, CP.at hP hKN hD⟩ ⟨⟨rfl, rfl⟩, ⟨Nat.le_of_ble_eq_true rfl, Nat.le_of_ble_eq_true rfl⟩, ⟨Nat.le_of_ble_eq_true rfl, Nat.le_of_ble_eq_true rfl⟩⟩ hl.1 rfl (Nat.le_of_ble_eq_true rfl) dX11_tested_86) hP hD hS hA (fun u605 H locs w606 hP hD hS => ?_)
          obtain ⟨u607, u608, f609, f610⟩ := u605
          have w606 : (0 ≤ u607.toInt ∧ u607.toInt ≤ 400) ∧ (u607.toInt ≤ u526.toInt) ∧ ((f610 (I 19).toNatClampNeg).toInt + u607.toInt = (f529 (I 19).toNatClampNeg).toInt + u526.toInt) ∧ PSg (F 4) (F 8) (F 7) f609 f610 gs (I 19).toNatClampNeg gb (nbo f505 (u607.toInt).toNat + 1) (u500.toInt).toNat ∧ (∀ k : Nat, (k : Int) < u526.toInt → (f505 k).toInt = 91 → (k : Int) < u607.toInt) ∧ (u600.toInt = 1 → (u607.toInt = 0 ∨ (f505 (u607.toInt - 1).toNat).toInt = 91)) := w606
          obtain ⟨hw611, hw612, hw613, hw614, hw615, hw616⟩ := w606
          refine W.eq (g2 := F0 m 89 ls []) rfl ?_
          have hP : va_P D vwCl (MW Y o a (upd (upd (upd (upd (upd (upd I 16 u593) 17 u498) 18 u499) 20 u500) 21 u608) 24 u607) J (vf_upd (vf_upd (vf_upd F 5 f609) 6 f610) 23 f505) G) H := hP
          have hD : va_D A (MW Y o a (upd (upd (upd (upd (upd (upd I 16 u593) 17 u498) 18 u499) 20 u500) 21 u608) 24 u607) J (vf_upd (vf_upd (vf_upd F 5 f609) 6 f610) 23 f505) G) := hD
          refine lv_aload_n hx hb dX11_tested_89 rfl (lv_at hl 2 rfl) ?_
          refine va_get (D := D) (ci := 11) (v := .ref (a 23)) (C := RX11) (T := TX11) (N := 49) hx hb hg inGX11 hown hKN.1 hP 0 rfl rfl 23 (by decide) (hg _ kw_1231) (fun _ h9 => h9) rfl dX11_tested_90 ?_
          refine lv_aload_n hx hb dX11_tested_93 rfl (lv_at hl 2 rfl) ?_
          refine va_get (D := D) (ci := 11) (v := .int u607) (C := RX11) (T := TX11) (N := 49) hx hb hg inGX11 hown hKN.1 hP 0 rfl rfl 24 (by decide) (hg _ kw_1232) (fun _ h9 => h9) rfl dX11_tested_94 ?_
          refine lv_iload_n hx hb dX11_tested_97 rfl (lv_at hl 0 rfl) ?_
          refine va_iast hx hb hKN.1 hP hD hS 16 0 rfl rfl (vp_in_iff.mpr ⟨by omega, by omega⟩) dX11_tested_98 (fun H locs hP hD hS => ?_)
          obtain ⟨f617, ef617, hP, hD⟩ : ∃ f617 : Nat → Int32, f617 = upd f505 u607.toNatClampNeg 13 ∧ va_P D vwCl (MW Y o a (upd (upd (upd (upd (upd (upd I 16 u593) 17 u498) 18 u499) 20 u500) 21 u608) 24 u607) J (vf_upd (vf_upd (vf_upd F 5 f609) 6 f610) 23 f617) G) H ∧ va_D A (MW Y o a (upd (upd (upd (upd (upd (upd I 16 u593) 17 u498) 18 u499) 20 u500) 21 u608) 24 u607) J (vf_upd (vf_upd (vf_upd F 5 f609) 6 f610) 23 f617) G) := ⟨_, rfl, hP, hD⟩
          have t618n := nbo_push3 (m := (u607.toInt + 1).toNat) (i := u607) (v := 13) ef617 (by omega) (by omega)
          have t618e := ent_p (m := (u607.toInt + 1).toNat) (i := u607) (v := 13) ef617 (ent_le t521 (by omega)) (by omega) (by omega) (by omega)
          refine lv_aload_n hx hb dX11_tested_99 rfl (lv_at hl 2 rfl) ?_
          refine lv_dup hx hb dX11_tested_100 rfl ?_
          refine va_get (D := D) (ci := 11) (v := .int u607) (C := RX11) (T := TX11) (N := 49) hx hb hg inGX11 hown hKN.1 hP 0 rfl rfl 24 (by decide) (hg _ kw_1232) (fun _ h9 => h9) rfl dX11_tested_101 ?_
          refine lv_iconst (v := 1) hx hb dX11_tested_104 (by decide) ?_
          refine lv_iadd hx hb dX11_tested_105 ?_
          refine lv_topi (fun v619 ev619 => ?_)
          have hv619 := i_add (Eq.refl u607.toInt) (show (1 : Int32).toInt = 1 by decide) ev619 (by omega) (by omega)
          refine va_put (D := D) (ci := 11) (v := .int v619) (ty := .int) (C := RX11) (T := TX11) (N := 49) hx hb hg inGX11 tyX11 tyX11_ok nmX11 hown hKN.1 hP hD hS 0 rfl rfl 24 (by decide) (hg _ kw_1232) (fun _ h9 => h9) rfl (by decide +kernel) rfl rfl (Nat.le_of_ble_eq_true rfl) dX11_tested_106 (fun H locs hP hD hS => ?_)
          have hP : va_P D vwCl (MW Y o a (upd (upd (upd (upd (upd (upd I 16 u593) 17 u498) 18 u499) 20 u500) 21 u608) 24 v619) J (vf_upd (vf_upd (vf_upd F 5 f609) 6 f610) 23 f617) G) H := hP
          have hD : va_D A (MW Y o a (upd (upd (upd (upd (upd (upd I 16 u593) 17 u498) 18 u499) 20 u500) 21 u608) 24 v619) J (vf_upd (vf_upd (vf_upd F 5 f609) 6 f610) 23 f617) G) := hD
          have t620 : nbo f617 (u607.toInt + 1).toNat = nbo f617 v619.toInt.toNat := by rw [show (u607.toInt + 1).toNat = v619.toInt.toNat by omega]
          refine lv_goto (tgt := 12) hx hb dX11_tested_109 (by decide) ?_
          exact ih455 (1, u593, u498, u499, u500, u608, v619, f609, f610, f617) H locs ls (by show (2 * (400 - u593.toInt) + (1 : Int32).toInt).toNat < (2 * (400 - g219.toInt) + g218.toInt).toNat; omega) ⟨hP, hD, hS, lv_sub hl [1, 2] rfl, by omega, by omega, by omega, by omega, by omega, by omega, by omega, by omega, by omega, (PG_to hw614 rfl (by omega) (by omega) (by omega)), (ent_le t618e (by omega))⟩
      · obtain rfl : u539 = 0 := i_is c547 (by decide)
        have zi0 : (0 : Int32).toInt = 0 := by decide
        refine W.eq (g2 := F0 m 36 ls [.int 0]) rfl ?_
        refine lv_if_ne (tgt := 49) hx hb dX11_tested_36 (by decide) (fun c621 => ?_) (fun c621 => ?_)
        · exact absurd c621 (by decide)
        refine lv_aload_n hx hb dX11_tested_39 rfl (lv_at hl 1 rfl) ?_
        refine lv_ldc2 (v := 28530) hx hb hown (hg _ kw_1588) dX11_tested_40 ?_
        have zl28530 : (28530 : Int64).toInt = 28530 := by decide
        refine cga (rn_V (As := [.long 28530]) (rest := []) (b := o) (m_isWord l D Y Z H.size o a (upd (upd (upd (upd (upd (upd I 16 u540) 17 u498) 18 u499) 20 u500) 21 u527) 24 u526) J (vf_upd (vf_upd (vf_upd F 5 f528) 6 f529) 23 f505) G  28530 (show (0 ≤ u540.toInt ∧ u540.toInt ≤ 400) by omega) (show (0 ≤ (I 3).toInt ∧ (I 3).toInt ≤ 400) by omega) (show (u540.toInt ≤ (I 3).toInt) by omega)) ⟨hx, hb, hml, hown, hg⟩ lk_X11_190 ⟨CP.blind, va_recv hKN.1 hP (ci := 11) (q0 := 0) rfl rfl, CP.at hP hKN hD⟩ ⟨⟨rfl, rfl⟩, ⟨Nat.le_of_ble_eq_true rfl, Nat.le_of_ble_eq_true rfl⟩, ⟨Nat.le_of_ble_eq_true rfl, Nat.le_of_ble_eq_true rfl⟩⟩ hl.1 rfl (Nat.le_of_ble_eq_true rfl) dX11_tested_43) hP hD hS hA (fun u622 H locs w623 hP hD hS => ?_)
        obtain ⟨u624, u625⟩ := u622
        have w623 : (0 ≤ u625.toInt ∧ u625.toInt ≤ 400) ∧ (u540.toInt ≤ u625.toInt) ∧ (u625.toInt ≤ (I 3).toInt) ∧ (0 ≤ u624.toInt ∧ u624.toInt ≤ 1) ∧ (u624.toInt = 1 → (u625.toInt < (I 3).toInt ∧ 97 ≤ ((F 2) u625.toNatClampNeg).toInt ∧ ((F 2) u625.toNatClampNeg).toInt ≤ 122)) ∧ ((u540.toInt < (I 3).toInt ∧ ((F 2) u540.toNatClampNeg).toInt ≠ 32) → u625.toInt = u540.toInt) := w623
        obtain ⟨hw626, hw627, hw628, hw629, hw630, hw631⟩ := w623
        refine W.eq (g2 := F0 m 46 ls [.int u624]) rfl ?_
        have hP : va_P D vwCl (MW Y o a (upd (upd (upd (upd (upd (upd I 16 u625) 17 u498) 18 u499) 20 u500) 21 u527) 24 u526) J (vf_upd (vf_upd (vf_upd F 5 f528) 6 f529) 23 f505) G) H := hP
        have hD : va_D A (MW Y o a (upd (upd (upd (upd (upd (upd I 16 u625) 17 u498) 18 u499) 20 u500) 21 u527) 24 u526) J (vf_upd (vf_upd (vf_upd F 5 f528) 6 f529) 23 f505) G) := hD
        rcases (show u624.toInt = 1 ∨ u624.toInt = 0 by omega) with c632 | c632
        · obtain rfl : u624 = 1 := i_is c632 (by decide)
          refine W.eq (g2 := F0 m 46 ls [.int 1]) rfl ?_
          refine lv_if_eq (tgt := 53) hx hb dX11_tested_46 (by decide) (fun c633 => ?_) (fun c633 => ?_)
          · exact absurd c633 (by decide)
          refine lv_iconst (v := 1) hx hb dX11_tested_49 (by decide) ?_
          refine lv_goto (tgt := 54) hx hb dX11_tested_50 (by decide) ?_
          refine lv_istore_n (lv' := [(1, .int 1), (0, .ref o)]) hx hb dX11_tested_54 rfl hl (by decide) rfl (fun ls hl => ?_)
          refine lv_iload_n hx hb dX11_tested_55 rfl (lv_at hl 0 rfl) ?_
          refine lv_if_eq (tgt := 12) hx hb dX11_tested_56 (by decide) (fun c634 => ?_) (fun c634 => ?_)
          · exact absurd c634 (by decide)
          refine lv_aload_n hx hb dX11_tested_59 rfl (lv_at hl 1 rfl) ?_
          refine lv_ldc2 (v := 6385252) hx hb hown (hg _ kw_1587) dX11_tested_60 ?_
          refine cga (rn_V (As := [.long 6385252]) (rest := []) (b := o) (m_isWord l D Y Z H.size o a (upd (upd (upd (upd (upd (upd I 16 u625) 17 u498) 18 u499) 20 u500) 21 u527) 24 u526) J (vf_upd (vf_upd (vf_upd F 5 f528) 6 f529) 23 f505) G  6385252 (show (0 ≤ u625.toInt ∧ u625.toInt ≤ 400) by omega) (show (0 ≤ (I 3).toInt ∧ (I 3).toInt ≤ 400) by omega) (show (u625.toInt ≤ (I 3).toInt) by omega)) ⟨hx, hb, hml, hown, hg⟩ lk_X11_190 ⟨CP.blind, va_recv hKN.1 hP (ci := 11) (q0 := 0) rfl rfl, CP.at hP hKN hD⟩ ⟨⟨rfl, rfl⟩, ⟨Nat.le_of_ble_eq_true rfl, Nat.le_of_ble_eq_true rfl⟩, ⟨Nat.le_of_ble_eq_true rfl, Nat.le_of_ble_eq_true rfl⟩⟩ hl.1 rfl (Nat.le_of_ble_eq_true rfl) dX11_tested_63) hP hD hS hA (fun u635 H locs w636 hP hD hS => ?_)
          obtain ⟨u637, u638⟩ := u635
          have w636 : (0 ≤ u638.toInt ∧ u638.toInt ≤ 400) ∧ (u625.toInt ≤ u638.toInt) ∧ (u638.toInt ≤ (I 3).toInt) ∧ (0 ≤ u637.toInt ∧ u637.toInt ≤ 1) ∧ (u637.toInt = 1 → (u638.toInt < (I 3).toInt ∧ 97 ≤ ((F 2) u638.toNatClampNeg).toInt ∧ ((F 2) u638.toNatClampNeg).toInt ≤ 122)) ∧ ((u625.toInt < (I 3).toInt ∧ ((F 2) u625.toNatClampNeg).toInt ≠ 32) → u638.toInt = u625.toInt) := w636
          obtain ⟨hw639, hw640, hw641, hw642, hw643, hw644⟩ := w636
          refine W.eq (g2 := F0 m 66 ls [.int u637]) rfl ?_
          have hP : va_P D vwCl (MW Y o a (upd (upd (upd (upd (upd (upd I 16 u638) 17 u498) 18 u499) 20 u500) 21 u527) 24 u526) J (vf_upd (vf_upd (vf_upd F 5 f528) 6 f529) 23 f505) G) H := hP
          have hD : va_D A (MW Y o a (upd (upd (upd (upd (upd (upd I 16 u638) 17 u498) 18 u499) 20 u500) 21 u527) 24 u526) J (vf_upd (vf_upd (vf_upd F 5 f528) 6 f529) 23 f505) G) := hD
          rcases (show u637.toInt = 1 ∨ u637.toInt = 0 by omega) with c645 | c645
          · obtain rfl : u637 = 1 := i_is c645 (by decide)
            refine W.eq (g2 := F0 m 66 ls [.int 1]) rfl ?_
            refine lv_if_eq (tgt := 74) hx hb dX11_tested_66 (by decide) (fun c646 => ?_) (fun c646 => ?_)
            · exact absurd c646 (by decide)
            refine lv_bipush (v := 12) hx hb dX11_tested_69 (by decide) ?_
            refine lv_goto (tgt := 76) hx hb dX11_tested_71 (by decide) ?_
            refine lv_istore_n (lv' := [(2, .int 12), (1, .int 1), (0, .ref o)]) hx hb dX11_tested_76 rfl hl (by decide) rfl (fun ls hl => ?_)
            have t647 : u638.toInt = u625.toInt → ((F 2) u638.toNatClampNeg).toInt = ((F 2) u625.toNatClampNeg).toInt := fun h => by rw [Int32.toInt_inj.mp h]
            refine lv_aload_n hx hb dX11_tested_77 rfl (lv_at hl 2 rfl) ?_
            refine cga (rn_V (As := []) (rest := []) (b := o) (m_passWord l D Y Z H.size o a (upd (upd (upd (upd (upd (upd I 16 u638) 17 u498) 18 u499) 20 u500) 21 u527) 24 u526) J (vf_upd (vf_upd (vf_upd F 5 f528) 6 f529) 23 f505) G   (show (0 ≤ u638.toInt ∧ u638.toInt ≤ 400) by omega) (show (0 ≤ (I 3).toInt ∧ (I 3).toInt ≤ 400) by omega) (show (u638.toInt ≤ (I 3).toInt) by omega)) ⟨hx, hb, hml, hown, hg⟩ lk_X11_194 ⟨CP.blind, va_recv hKN.1 hP (ci := 11) (q0 := 0) rfl rfl, CP.at hP hKN hD⟩ ⟨⟨rfl, rfl⟩, ⟨Nat.le_of_ble_eq_true rfl, Nat.le_of_ble_eq_true rfl⟩, ⟨Nat.le_of_ble_eq_true rfl, Nat.le_of_ble_eq_true rfl⟩⟩ hl.1 rfl (Nat.le_of_ble_eq_true rfl) dX11_tested_78) hP hD hS hA (fun u648 H locs w649 hP hD hS => ?_)
            have w649 : (0 ≤ u648.toInt ∧ u648.toInt ≤ 400) ∧ (u638.toInt ≤ u648.toInt) ∧ (u648.toInt ≤ (I 3).toInt) ∧ ((97 ≤ ((F 2) u638.toNatClampNeg).toInt ∧ ((F 2) u638.toNatClampNeg).toInt ≤ 122 ∧ u638.toInt < (I 3).toInt) → u638.toInt + 1 ≤ u648.toInt) := w649
            obtain ⟨hw651, hw652, hw653, hw654⟩ := w649
            refine W.eq (g2 := F0 m 81 ls []) rfl ?_
            have hP : va_P D vwCl (MW Y o a (upd (upd (upd (upd (upd (upd I 16 u648) 17 u498) 18 u499) 20 u500) 21 u527) 24 u526) J (vf_upd (vf_upd (vf_upd F 5 f528) 6 f529) 23 f505) G) H := hP
            have hD : va_D A (MW Y o a (upd (upd (upd (upd (upd (upd I 16 u648) 17 u498) 18 u499) 20 u500) 21 u527) 24 u526) J (vf_upd (vf_upd (vf_upd F 5 f528) 6 f529) 23 f505) G) := hD
            refine lv_aload_n hx hb dX11_tested_81 rfl (lv_at hl 2 rfl) ?_
            refine lv_iload_n hx hb dX11_tested_82 rfl (lv_at hl 0 rfl) ?_
            have zi12 : (12 : Int32).toInt = 12 := by decide
            refine cg0 (rn_S (As := [.int 12]) (rest := [.ref o]) (m_strength l D Y Z H.size   12 ) ⟨hx, hb, hml, hown, hg⟩ lk_X11_246 ⟨CP.blind, CP.at nilP hKN (nilD (A := fun _ => True))⟩ ⟨⟨rfl, rfl⟩, ⟨Nat.le_of_ble_eq_true rfl, Nat.le_of_ble_eq_true rfl⟩, ⟨Nat.le_of_ble_eq_true rfl, Nat.le_of_ble_eq_true rfl⟩⟩ hl.1 rfl (Nat.le_of_ble_eq_true rfl) dX11_tested_83) hP hS hA (fun u655 H locs w656 hP hS => ?_)
            have w656 : (0 ≤ u655.toInt ∧ u655.toInt ≤ 3) ∧ (((12 : Int32).toInt = 13 ∧ u655.toInt = 1) ∨ ((12 : Int32).toInt = 12 ∧ u655.toInt = 2) ∨ ((12 : Int32).toInt = 11 ∧ u655.toInt = 3) ∨ ((12 : Int32).toInt ≠ 11 ∧ (12 : Int32).toInt ≠ 12 ∧ (12 : Int32).toInt ≠ 13 ∧ u655.toInt = 0)) := w656
            obtain ⟨hw658, hw659⟩ := w656
            refine W.eq (g2 := F0 m 86 ls [.int u655, .ref o]) rfl ?_
            refine cga (rn_V (As := [.int u655]) (rest := []) (b := o) (m_settles l D Y Z H.size o a (upd (upd (upd (upd (upd (upd I 16 u648) 17 u498) 18 u499) 20 u500) 21 u527) 24 u526) J (vf_upd (vf_upd (vf_upd F 5 f528) 6 f529) 23 f505) G gs gb u655 (show (0 ≤ (I 19).toInt ∧ (I 19).toInt ≤ 17) by omega) (show (1 ≤ u655.toInt ∧ u655.toInt ≤ 3) by omega) (show (0 ≤ u526.toInt ∧ u526.toInt ≤ 400) by omega) (show (0 ≤ u500.toInt ∧ u500.toInt ≤ 60) by omega) (show ((f529 (I 19).toNatClampNeg).toInt + u526.toInt ≤ 400) by omega) (PG_to hw536 rfl (by omega) (by omega) (by omega)) (ent_le t521 (by omega))) ⟨hx, hb, hml, hown, hg⟩ lk_X11_282 ⟨CP.blind, va_recv hKN.1 hP (ci := 11) (q0 := 0) rfl rfl, CP.at hP hKN hD⟩ ⟨⟨rfl, rfl⟩, ⟨Nat.le_of_ble_eq_true rfl, Nat.le_of_ble_eq_true rfl⟩, ⟨Nat.le_of_ble_eq_true rfl, Nat.le_of_ble_eq_true rfl⟩⟩ hl.1 rfl (Nat.le_of_ble_eq_true rfl) dX11_tested_86) hP hD hS hA (fun u660 H locs w661 hP hD hS => ?_)
            obtain ⟨u662, u663, f664, f665⟩ := u660
            have w661 : (0 ≤ u662.toInt ∧ u662.toInt ≤ 400) ∧ (u662.toInt ≤ u526.toInt) ∧ ((f665 (I 19).toNatClampNeg).toInt + u662.toInt = (f529 (I 19).toNatClampNeg).toInt + u526.toInt) ∧ PSg (F 4) (F 8) (F 7) f664 f665 gs (I 19).toNatClampNeg gb (nbo f505 (u662.toInt).toNat + 1) (u500.toInt).toNat ∧ (∀ k : Nat, (k : Int) < u526.toInt → (f505 k).toInt = 91 → (k : Int) < u662.toInt) ∧ (u655.toInt = 1 → (u662.toInt = 0 ∨ (f505 (u662.toInt - 1).toNat).toInt = 91)) := w661
            obtain ⟨hw666, hw667, hw668, hw669, hw670, hw671⟩ := w661
            refine W.eq (g2 := F0 m 89 ls []) rfl ?_
            have hP : va_P D vwCl (MW Y o a (upd (upd (upd (upd (upd (upd I 16 u648) 17 u498) 18 u499) 20 u500) 21 u663) 24 u662) J (vf_upd (vf_upd (vf_upd F 5 f664) 6 f665) 23 f505) G) H := hP
            have hD : va_D A (MW Y o a (upd (upd (upd (upd (upd (upd I 16 u648) 17 u498) 18 u499) 20 u500) 21 u663) 24 u662) J (vf_upd (vf_upd (vf_upd F 5 f664) 6 f665) 23 f505) G) := hD
            refine lv_aload_n hx hb dX11_tested_89 rfl (lv_at hl 2 rfl) ?_
            refine va_get (D := D) (ci := 11) (v := .ref (a 23)) (C := RX11) (T := TX11) (N := 49) hx hb hg inGX11 hown hKN.1 hP 0 rfl rfl 23 (by decide) (hg _ kw_1231) (fun _ h9 => h9) rfl dX11_tested_90 ?_
            refine lv_aload_n hx hb dX11_tested_93 rfl (lv_at hl 2 rfl) ?_
            refine va_get (D := D) (ci := 11) (v := .int u662) (C := RX11) (T := TX11) (N := 49) hx hb hg inGX11 hown hKN.1 hP 0 rfl rfl 24 (by decide) (hg _ kw_1232) (fun _ h9 => h9) rfl dX11_tested_94 ?_
            refine lv_iload_n hx hb dX11_tested_97 rfl (lv_at hl 0 rfl) ?_
            refine va_iast hx hb hKN.1 hP hD hS 16 0 rfl rfl (vp_in_iff.mpr ⟨by omega, by omega⟩) dX11_tested_98 (fun H locs hP hD hS => ?_)
            obtain ⟨f672, ef672, hP, hD⟩ : ∃ f672 : Nat → Int32, f672 = upd f505 u662.toNatClampNeg 12 ∧ va_P D vwCl (MW Y o a (upd (upd (upd (upd (upd (upd I 16 u648) 17 u498) 18 u499) 20 u500) 21 u663) 24 u662) J (vf_upd (vf_upd (vf_upd F 5 f664) 6 f665) 23 f672) G) H ∧ va_D A (MW Y o a (upd (upd (upd (upd (upd (upd I 16 u648) 17 u498) 18 u499) 20 u500) 21 u663) 24 u662) J (vf_upd (vf_upd (vf_upd F 5 f664) 6 f665) 23 f672) G) := ⟨_, rfl, hP, hD⟩
            have t673n := nbo_push3 (m := (u662.toInt + 1).toNat) (i := u662) (v := 12) ef672 (by omega) (by omega)
            have t673e := ent_p (m := (u662.toInt + 1).toNat) (i := u662) (v := 12) ef672 (ent_le t521 (by omega)) (by omega) (by omega) (by omega)
            refine lv_aload_n hx hb dX11_tested_99 rfl (lv_at hl 2 rfl) ?_
            refine lv_dup hx hb dX11_tested_100 rfl ?_
            refine va_get (D := D) (ci := 11) (v := .int u662) (C := RX11) (T := TX11) (N := 49) hx hb hg inGX11 hown hKN.1 hP 0 rfl rfl 24 (by decide) (hg _ kw_1232) (fun _ h9 => h9) rfl dX11_tested_101 ?_
            refine lv_iconst (v := 1) hx hb dX11_tested_104 (by decide) ?_
            refine lv_iadd hx hb dX11_tested_105 ?_
            refine lv_topi (fun v674 ev674 => ?_)
            have hv674 := i_add (Eq.refl u662.toInt) (show (1 : Int32).toInt = 1 by decide) ev674 (by omega) (by omega)
            refine va_put (D := D) (ci := 11) (v := .int v674) (ty := .int) (C := RX11) (T := TX11) (N := 49) hx hb hg inGX11 tyX11 tyX11_ok nmX11 hown hKN.1 hP hD hS 0 rfl rfl 24 (by decide) (hg _ kw_1232) (fun _ h9 => h9) rfl (by decide +kernel) rfl rfl (Nat.le_of_ble_eq_true rfl) dX11_tested_106 (fun H locs hP hD hS => ?_)
            have hP : va_P D vwCl (MW Y o a (upd (upd (upd (upd (upd (upd I 16 u648) 17 u498) 18 u499) 20 u500) 21 u663) 24 v674) J (vf_upd (vf_upd (vf_upd F 5 f664) 6 f665) 23 f672) G) H := hP
            have hD : va_D A (MW Y o a (upd (upd (upd (upd (upd (upd I 16 u648) 17 u498) 18 u499) 20 u500) 21 u663) 24 v674) J (vf_upd (vf_upd (vf_upd F 5 f664) 6 f665) 23 f672) G) := hD
            have t675 : nbo f672 (u662.toInt + 1).toNat = nbo f672 v674.toInt.toNat := by rw [show (u662.toInt + 1).toNat = v674.toInt.toNat by omega]
            refine lv_goto (tgt := 12) hx hb dX11_tested_109 (by decide) ?_
            exact ih455 (1, u648, u498, u499, u500, u663, v674, f664, f665, f672) H locs ls (by show (2 * (400 - u648.toInt) + (1 : Int32).toInt).toNat < (2 * (400 - g219.toInt) + g218.toInt).toNat; omega) ⟨hP, hD, hS, lv_sub hl [1, 2] rfl, by omega, by omega, by omega, by omega, by omega, by omega, by omega, by omega, by omega, (PG_to hw669 rfl (by omega) (by omega) (by omega)), (ent_le t673e (by omega))⟩
          · obtain rfl : u637 = 0 := i_is c645 (by decide)
            refine W.eq (g2 := F0 m 66 ls [.int 0]) rfl ?_
            refine lv_if_eq (tgt := 74) hx hb dX11_tested_66 (by decide) (fun c676 => ?_) (fun c676 => ?_)
            rotate_left
            · exact absurd c676 (by decide)
            refine lv_bipush (v := 13) hx hb dX11_tested_74 (by decide) ?_
            refine lv_istore_n (lv' := [(2, .int 13), (1, .int 1), (0, .ref o)]) hx hb dX11_tested_76 rfl hl (by decide) rfl (fun ls hl => ?_)
            have t677 : u638.toInt = u625.toInt → ((F 2) u638.toNatClampNeg).toInt = ((F 2) u625.toNatClampNeg).toInt := fun h => by rw [Int32.toInt_inj.mp h]
            refine lv_aload_n hx hb dX11_tested_77 rfl (lv_at hl 2 rfl) ?_
            refine cga (rn_V (As := []) (rest := []) (b := o) (m_passWord l D Y Z H.size o a (upd (upd (upd (upd (upd (upd I 16 u638) 17 u498) 18 u499) 20 u500) 21 u527) 24 u526) J (vf_upd (vf_upd (vf_upd F 5 f528) 6 f529) 23 f505) G   (show (0 ≤ u638.toInt ∧ u638.toInt ≤ 400) by omega) (show (0 ≤ (I 3).toInt ∧ (I 3).toInt ≤ 400) by omega) (show (u638.toInt ≤ (I 3).toInt) by omega)) ⟨hx, hb, hml, hown, hg⟩ lk_X11_194 ⟨CP.blind, va_recv hKN.1 hP (ci := 11) (q0 := 0) rfl rfl, CP.at hP hKN hD⟩ ⟨⟨rfl, rfl⟩, ⟨Nat.le_of_ble_eq_true rfl, Nat.le_of_ble_eq_true rfl⟩, ⟨Nat.le_of_ble_eq_true rfl, Nat.le_of_ble_eq_true rfl⟩⟩ hl.1 rfl (Nat.le_of_ble_eq_true rfl) dX11_tested_78) hP hD hS hA (fun u678 H locs w679 hP hD hS => ?_)
            have w679 : (0 ≤ u678.toInt ∧ u678.toInt ≤ 400) ∧ (u638.toInt ≤ u678.toInt) ∧ (u678.toInt ≤ (I 3).toInt) ∧ ((97 ≤ ((F 2) u638.toNatClampNeg).toInt ∧ ((F 2) u638.toNatClampNeg).toInt ≤ 122 ∧ u638.toInt < (I 3).toInt) → u638.toInt + 1 ≤ u678.toInt) := w679
            obtain ⟨hw681, hw682, hw683, hw684⟩ := w679
            refine W.eq (g2 := F0 m 81 ls []) rfl ?_
            have hP : va_P D vwCl (MW Y o a (upd (upd (upd (upd (upd (upd I 16 u678) 17 u498) 18 u499) 20 u500) 21 u527) 24 u526) J (vf_upd (vf_upd (vf_upd F 5 f528) 6 f529) 23 f505) G) H := hP
            have hD : va_D A (MW Y o a (upd (upd (upd (upd (upd (upd I 16 u678) 17 u498) 18 u499) 20 u500) 21 u527) 24 u526) J (vf_upd (vf_upd (vf_upd F 5 f528) 6 f529) 23 f505) G) := hD
            refine lv_aload_n hx hb dX11_tested_81 rfl (lv_at hl 2 rfl) ?_
            refine lv_iload_n hx hb dX11_tested_82 rfl (lv_at hl 0 rfl) ?_
            have zi13 : (13 : Int32).toInt = 13 := by decide
            refine cg0 (rn_S (As := [.int 13]) (rest := [.ref o]) (m_strength l D Y Z H.size   13 ) ⟨hx, hb, hml, hown, hg⟩ lk_X11_246 ⟨CP.blind, CP.at nilP hKN (nilD (A := fun _ => True))⟩ ⟨⟨rfl, rfl⟩, ⟨Nat.le_of_ble_eq_true rfl, Nat.le_of_ble_eq_true rfl⟩, ⟨Nat.le_of_ble_eq_true rfl, Nat.le_of_ble_eq_true rfl⟩⟩ hl.1 rfl (Nat.le_of_ble_eq_true rfl) dX11_tested_83) hP hS hA (fun u685 H locs w686 hP hS => ?_)
            have w686 : (0 ≤ u685.toInt ∧ u685.toInt ≤ 3) ∧ (((13 : Int32).toInt = 13 ∧ u685.toInt = 1) ∨ ((13 : Int32).toInt = 12 ∧ u685.toInt = 2) ∨ ((13 : Int32).toInt = 11 ∧ u685.toInt = 3) ∨ ((13 : Int32).toInt ≠ 11 ∧ (13 : Int32).toInt ≠ 12 ∧ (13 : Int32).toInt ≠ 13 ∧ u685.toInt = 0)) := w686
            obtain ⟨hw688, hw689⟩ := w686
            refine W.eq (g2 := F0 m 86 ls [.int u685, .ref o]) rfl ?_
            refine cga (rn_V (As := [.int u685]) (rest := []) (b := o) (m_settles l D Y Z H.size o a (upd (upd (upd (upd (upd (upd I 16 u678) 17 u498) 18 u499) 20 u500) 21 u527) 24 u526) J (vf_upd (vf_upd (vf_upd F 5 f528) 6 f529) 23 f505) G gs gb u685 (show (0 ≤ (I 19).toInt ∧ (I 19).toInt ≤ 17) by omega) (show (1 ≤ u685.toInt ∧ u685.toInt ≤ 3) by omega) (show (0 ≤ u526.toInt ∧ u526.toInt ≤ 400) by omega) (show (0 ≤ u500.toInt ∧ u500.toInt ≤ 60) by omega) (show ((f529 (I 19).toNatClampNeg).toInt + u526.toInt ≤ 400) by omega) (PG_to hw536 rfl (by omega) (by omega) (by omega)) (ent_le t521 (by omega))) ⟨hx, hb, hml, hown, hg⟩ lk_X11_282 ⟨CP.blind, va_recv hKN.1 hP (ci := 11) (q0 := 0) rfl rfl, CP.at hP hKN hD⟩ ⟨⟨rfl, rfl⟩, ⟨Nat.le_of_ble_eq_true rfl, Nat.le_of_ble_eq_true rfl⟩, ⟨Nat.le_of_ble_eq_true rfl, Nat.le_of_ble_eq_true rfl⟩⟩ hl.1 rfl (Nat.le_of_ble_eq_true rfl) dX11_tested_86) hP hD hS hA (fun u690 H locs w691 hP hD hS => ?_)
            obtain ⟨u692, u693, f694, f695⟩ := u690
            have w691 : (0 ≤ u692.toInt ∧ u692.toInt ≤ 400) ∧ (u692.toInt ≤ u526.toInt) ∧ ((f695 (I 19).toNatClampNeg).toInt + u692.toInt = (f529 (I 19).toNatClampNeg).toInt + u526.toInt) ∧ PSg (F 4) (F 8) (F 7) f694 f695 gs (I 19).toNatClampNeg gb (nbo f505 (u692.toInt).toNat + 1) (u500.toInt).toNat ∧ (∀ k : Nat, (k : Int) < u526.toInt → (f505 k).toInt = 91 → (k : Int) < u692.toInt) ∧ (u685.toInt = 1 → (u692.toInt = 0 ∨ (f505 (u692.toInt - 1).toNat).toInt = 91)) := w691
            obtain ⟨hw696, hw697, hw698, hw699, hw700, hw701⟩ := w691
            refine W.eq (g2 := F0 m 89 ls []) rfl ?_
            have hP : va_P D vwCl (MW Y o a (upd (upd (upd (upd (upd (upd I 16 u678) 17 u498) 18 u499) 20 u500) 21 u693) 24 u692) J (vf_upd (vf_upd (vf_upd F 5 f694) 6 f695) 23 f505) G) H := hP
            have hD : va_D A (MW Y o a (upd (upd (upd (upd (upd (upd I 16 u678) 17 u498) 18 u499) 20 u500) 21 u693) 24 u692) J (vf_upd (vf_upd (vf_upd F 5 f694) 6 f695) 23 f505) G) := hD
            refine lv_aload_n hx hb dX11_tested_89 rfl (lv_at hl 2 rfl) ?_
            refine va_get (D := D) (ci := 11) (v := .ref (a 23)) (C := RX11) (T := TX11) (N := 49) hx hb hg inGX11 hown hKN.1 hP 0 rfl rfl 23 (by decide) (hg _ kw_1231) (fun _ h9 => h9) rfl dX11_tested_90 ?_
            refine lv_aload_n hx hb dX11_tested_93 rfl (lv_at hl 2 rfl) ?_
            refine va_get (D := D) (ci := 11) (v := .int u692) (C := RX11) (T := TX11) (N := 49) hx hb hg inGX11 hown hKN.1 hP 0 rfl rfl 24 (by decide) (hg _ kw_1232) (fun _ h9 => h9) rfl dX11_tested_94 ?_
            refine lv_iload_n hx hb dX11_tested_97 rfl (lv_at hl 0 rfl) ?_
            refine va_iast hx hb hKN.1 hP hD hS 16 0 rfl rfl (vp_in_iff.mpr ⟨by omega, by omega⟩) dX11_tested_98 (fun H locs hP hD hS => ?_)
            obtain ⟨f702, ef702, hP, hD⟩ : ∃ f702 : Nat → Int32, f702 = upd f505 u692.toNatClampNeg 13 ∧ va_P D vwCl (MW Y o a (upd (upd (upd (upd (upd (upd I 16 u678) 17 u498) 18 u499) 20 u500) 21 u693) 24 u692) J (vf_upd (vf_upd (vf_upd F 5 f694) 6 f695) 23 f702) G) H ∧ va_D A (MW Y o a (upd (upd (upd (upd (upd (upd I 16 u678) 17 u498) 18 u499) 20 u500) 21 u693) 24 u692) J (vf_upd (vf_upd (vf_upd F 5 f694) 6 f695) 23 f702) G) := ⟨_, rfl, hP, hD⟩
            have t703n := nbo_push3 (m := (u692.toInt + 1).toNat) (i := u692) (v := 13) ef702 (by omega) (by omega)
            have t703e := ent_p (m := (u692.toInt + 1).toNat) (i := u692) (v := 13) ef702 (ent_le t521 (by omega)) (by omega) (by omega) (by omega)
            refine lv_aload_n hx hb dX11_tested_99 rfl (lv_at hl 2 rfl) ?_
            refine lv_dup hx hb dX11_tested_100 rfl ?_
            refine va_get (D := D) (ci := 11) (v := .int u692) (C := RX11) (T := TX11) (N := 49) hx hb hg inGX11 hown hKN.1 hP 0 rfl rfl 24 (by decide) (hg _ kw_1232) (fun _ h9 => h9) rfl dX11_tested_101 ?_
            refine lv_iconst (v := 1) hx hb dX11_tested_104 (by decide) ?_
            refine lv_iadd hx hb dX11_tested_105 ?_
            refine lv_topi (fun v704 ev704 => ?_)
            have hv704 := i_add (Eq.refl u692.toInt) (show (1 : Int32).toInt = 1 by decide) ev704 (by omega) (by omega)
            refine va_put (D := D) (ci := 11) (v := .int v704) (ty := .int) (C := RX11) (T := TX11) (N := 49) hx hb hg inGX11 tyX11 tyX11_ok nmX11 hown hKN.1 hP hD hS 0 rfl rfl 24 (by decide) (hg _ kw_1232) (fun _ h9 => h9) rfl (by decide +kernel) rfl rfl (Nat.le_of_ble_eq_true rfl) dX11_tested_106 (fun H locs hP hD hS => ?_)
            have hP : va_P D vwCl (MW Y o a (upd (upd (upd (upd (upd (upd I 16 u678) 17 u498) 18 u499) 20 u500) 21 u693) 24 v704) J (vf_upd (vf_upd (vf_upd F 5 f694) 6 f695) 23 f702) G) H := hP
            have hD : va_D A (MW Y o a (upd (upd (upd (upd (upd (upd I 16 u678) 17 u498) 18 u499) 20 u500) 21 u693) 24 v704) J (vf_upd (vf_upd (vf_upd F 5 f694) 6 f695) 23 f702) G) := hD
            have t705 : nbo f702 (u692.toInt + 1).toNat = nbo f702 v704.toInt.toNat := by rw [show (u692.toInt + 1).toNat = v704.toInt.toNat by omega]
            refine lv_goto (tgt := 12) hx hb dX11_tested_109 (by decide) ?_
            exact ih455 (1, u678, u498, u499, u500, u693, v704, f694, f695, f702) H locs ls (by show (2 * (400 - u678.toInt) + (1 : Int32).toInt).toNat < (2 * (400 - g219.toInt) + g218.toInt).toNat; omega) ⟨hP, hD, hS, lv_sub hl [1, 2] rfl, by omega, by omega, by omega, by omega, by omega, by omega, by omega, by omega, by omega, (PG_to hw699 rfl (by omega) (by omega) (by omega)), (ent_le t703e (by omega))⟩
        · obtain rfl : u624 = 0 := i_is c632 (by decide)
          refine W.eq (g2 := F0 m 46 ls [.int 0]) rfl ?_
          refine lv_if_eq (tgt := 53) hx hb dX11_tested_46 (by decide) (fun c706 => ?_) (fun c706 => ?_)
          rotate_left
          · exact absurd c706 (by decide)
          refine lv_iconst (v := 0) hx hb dX11_tested_53 (by decide) ?_
          refine lv_istore_n (lv' := [(1, .int 0), (0, .ref o)]) hx hb dX11_tested_54 rfl hl (by decide) rfl (fun ls hl => ?_)
          refine lv_iload_n hx hb dX11_tested_55 rfl (lv_at hl 0 rfl) ?_
          refine lv_if_eq (tgt := 12) hx hb dX11_tested_56 (by decide) (fun c707 => ?_) (fun c707 => ?_)
          rotate_left
          · exact absurd c707 (by decide)
          exact ih455 (0, u625, u498, u499, u500, u527, u526, f528, f529, f505) H locs ls (by show (2 * (400 - u625.toInt) + (0 : Int32).toInt).toNat < (2 * (400 - g219.toInt) + g218.toInt).toNat; omega) ⟨hP, hD, hS, lv_sub hl [0, 1] rfl, by omega, by omega, by omega, by omega, by omega, by omega, by omega, by omega, by omega, (PG_to hw536 rfl (by omega) (by omega) (by omega)), (ent_le t521 (by omega))⟩
    · obtain rfl : u496 = 0 := i_is c519 (by decide)
      have zi0 : (0 : Int32).toInt = 0 := by decide
      refine W.eq (g2 := F0 m 20 ls [.int 0]) rfl ?_
      refine lv_if_ne (tgt := 25) hx hb dX11_tested_20 (by decide) (fun c708 => ?_) (fun c708 => ?_)
      · exact absurd c708 (by decide)
      refine lv_iconst (v := 0) hx hb dX11_tested_23 (by decide) ?_
      refine W.widen (k := 0) (n := 0) (Nat.le_of_ble_eq_true rfl) (Nat.le_of_ble_eq_true rfl) ?_
      exact W.zret (v := 0) hx hb hr (by decide) (fun t ht hW => ⟨⟨(0, u497, u498, u499, u500, u501, u502, f503, f504, f505), rfl, ⟨(show (0 ≤ u497.toInt ∧ u497.toInt ≤ 400) by omega), (show ((I 16).toInt ≤ u497.toInt) by omega), (show (u497.toInt ≤ (I 3).toInt) by omega), (show (0 ≤ u498.toInt ∧ u498.toInt ≤ 4000) by omega), (show (0 ≤ u500.toInt ∧ u500.toInt ≤ 60) by omega), (show ((I 20).toInt ≤ u500.toInt) by omega), (show (0 ≤ (0 : Int32).toInt ∧ (0 : Int32).toInt ≤ 1) by omega), (show ((0 : Int32).toInt = 0 → 1 ≤ u498.toInt) by omega), (show ((0 : Int32).toInt = 1 → (f504 (I 19).toNatClampNeg).toInt ≤ u497.toInt) by omega), (fun h => absurd h (by decide)), (PG_tc hw516)⟩, CB.mk ht hP hD⟩, hS.F ht⟩) hS.2.2 dX11_tested_24
