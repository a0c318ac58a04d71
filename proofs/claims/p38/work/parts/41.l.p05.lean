set_option maxHeartbeats 4000000 in
set_option maxRecDepth 100000 in
theorem m_backK (l : Launch) (D : va_G) (Y : Nat → ClassId) (Z : Nat → Nat) (sz : Nat) (o : Nat) (a : Nat → Nat) (I : Nat → Int32) (J : Nat → Int64) (F : Nat → Nat → Int32) (G : Nat → Nat → Int64) (p1 : Int32) (hk0 : TO (F 0)) (hk1 : IMG (F 47)) : Met l yX11_back (.code yX11_back cX11_back 3 (some .int) :: GW) ({ frames := 1, cells := 0, slots := 0, locals := 25 }) (va_Pc [.ref o, .int p1] (CP D Y Z (MW Y o a I J F G) sz)) (QG (S := Int32 × (Nat → Int32)) (fun u => some (.int u.1)) (fun u => TO u.2 ∧ ((((0 ≤ p1.toInt ∧ p1.toInt ≤ 3) ∧ ((F 48) p1.toNatClampNeg).toInt ≠ 0) ∧ u.1 = u.2 0 ∧ ∀ n : Nat, n < 7533 → u.2 n = (F 47) (7533 * p1.toNatClampNeg + n)) ∨ (¬ ((0 ≤ p1.toInt ∧ p1.toInt ≤ 3) ∧ ((F 48) p1.toNatClampNeg).toInt ≠ 0) ∧ u.1.toInt = -1 ∧ u.2 = (F 0)))) (fun u => CB D (MW Y o a I J (vf_upd F 0 u.2) G) (va_A (MW Y o a I J F G) sz)) (va_A (MW Y o a I J F G) sz)) 0 0 (va_A (MW Y o a I J F G) sz) := by
  refine Met.ofW (cc := cX11_back) (maxL := 3) (ret := (some .int)) (by decide) rfl ?_
  intro p e s m args below meth c s₁ B hml hv
  obtain ⟨rfl, hsz, hP, hKN, hD0⟩ := hv
  have hx := B.exec
  have hb := B.bytes
  have hr := B.returns
  have hts := atoms_spec (ws := .code yX11_back cX11_back 3 (some .int) :: GW) B.pre
  have hg : ∀ w ∈ GW, w.before _ s = true := fun w h => hts w (List.mem_cons_of_mem _ h)
  have hown : s.vm.findClass RX11 = some m.cls := findClass_of_methodNamed B.named
  have hlocks := B.notSynchronized
  subst hsz
  have hD := hD0.self (sz := s.heap.size)
  generalize hAe : va_A (MW Y o a I J F G) s.heap.size = A at hD ⊢
  have hA : ∀ q : Nat, s.heap.size ≤ q → A q := fun q h => by rw [← hAe]; exact Or.inr h
  clear hAe hD0 hts B
  have hl := lv_entry ([.ref o, .int p1]) (n := 3) (Nat.le_of_ble_eq_true rfl)
  rw [lg_entry_eq]
  generalize (lg_sl ([.ref o, .int p1]) ++ List.replicate (3 - (lg_sl ([.ref o, .int p1])).length) Slot.unset).toArray = ls at hl ⊢
  have hl : lv_has ls 3 [(0, .ref o), (1, .int p1)] := hl
  refine w_start (A0 := A) hP (fun H locs hP hS => ?_)
  refine lv_iload_n hx hb dX11_back_0 rfl (lv_at hl 1 rfl) ?_
  have j1 := rgI p1
  have j2 := Int32.toInt_toInt64 p1
  refine lv_i2l (v := p1.toInt64) hx hb dX11_back_1 (rfl) ?_
  refine lv_lconst (v := 0) hx hb dX11_back_2 (by decide) ?_
  refine lv_ldc2 (v := 3) hx hb hown (hg _ kw_1912) dX11_back_3 ?_
  have zl0 : (0 : Int64).toInt = 0 := by decide
  have zl3 : (3 : Int64).toInt = 3 := by decide
  refine cg0 (rn_S (As := [.long p1.toInt64, .long 0, .long 3]) (rest := []) (m_in l D Y Z H.size   p1.toInt64 0 3 ) ⟨hx, hb, hml, hown, hg⟩ lk_X11_99 ⟨CP.blind, CP.at nilP hKN (nilD (A := fun _ => True))⟩ ⟨⟨rfl, rfl⟩, ⟨Nat.le_of_ble_eq_true rfl, Nat.le_of_ble_eq_true rfl⟩, ⟨Nat.le_of_ble_eq_true rfl, Nat.le_of_ble_eq_true rfl⟩⟩ hl.1 rfl (Nat.le_of_ble_eq_true rfl) dX11_back_6) hP hS hA (fun u3 H locs w4 hP hS => ?_)
  obtain ⟨hw6, hw7⟩ : (((0 : Int64).toInt ≤ p1.toInt64.toInt ∧ p1.toInt64.toInt ≤ (3 : Int64).toInt ∧ u3.toInt = 1) ∨ (¬ ((0 : Int64).toInt ≤ p1.toInt64.toInt ∧ p1.toInt64.toInt ≤ (3 : Int64).toInt) ∧ u3.toInt = 0)) ∧ (0 ≤ u3.toInt ∧ u3.toInt ≤ 1) := w4
  refine W.eq (g2 := F0 m 9 ls [.int u3]) rfl ?_
  rcases (show u3.toInt = 1 ∨ u3.toInt = 0 by omega) with c8 | c8
  · obtain rfl : u3 = 1 := i_is c8 (by decide)
    have zi1 : (1 : Int32).toInt = 1 := by decide
    refine W.eq (g2 := F0 m 9 ls [.int 1]) rfl ?_
    refine lv_if_eq (tgt := 21) hx hb dX11_back_9 (by decide) (fun c9 => ?_) (fun c9 => ?_)
    · exact absurd c9 (by decide)
    refine lv_aload_n hx hb dX11_back_12 rfl (lv_at hl 0 rfl) ?_
    refine va_get (D := D) (ci := 11) (v := .ref (a 48)) (C := RX11) (T := TX11) (N := 49) hx hb hg inGX11 hown hKN.1 hP 0 rfl rfl 48 (by decide) (hg _ kw_1256) (fun _ h9 => h9) rfl dX11_back_13 ?_
    refine lv_iload_n hx hb dX11_back_16 rfl (lv_at hl 1 rfl) ?_
    refine va_zald hx hb hKN.1 hP 28 3 rfl rfl (vp_in_iff.mpr ⟨by omega, by omega⟩) dX11_back_17 ?_
    refine lv_topi (fun v10 ev10 => ?_)
    have ev10 : v10 = (F 48) p1.toNatClampNeg := ev10
    have qv10 := congrArg Int32.toInt ev10
    have j11 := rgI v10
    refine lv_if_ne (tgt := 23) hx hb dX11_back_18 (by decide) (fun c12 => ?_) (fun c12 => ?_)
    · skip
      have c12 := i_ne (Eq.refl v10.toInt) (show (0 : Int32).toInt = 0 by decide) c12
      refine lv_iconst (v := 0) hx hb dX11_back_23 (by decide) ?_
      refine lv_istore_n (lv' := [(2, .int 0), (0, .ref o), (1, .int p1)]) hx hb dX11_back_24 rfl hl (by decide) rfl (fun ls hl => ?_)
      have zi0 : (0 : Int32).toInt = 0 := by decide
      refine w_loop (σ := Int32 × (Nat → Int32)) (fun xx H locs ls => match xx with | (g19, f20) => va_P D vwCl (MW Y o a I J (vf_upd F 0 f20) G) H ∧ va_D A (MW Y o a I J (vf_upd F 0 f20) G) ∧ va_S A s.heap H locs ∧ lv_has ls 3 [(2, .int g19), (0, .ref o), (1, .int p1)] ∧ (0 ≤ g19.toInt ∧ g19.toInt ≤ 7533) ∧ (∀ n : Nat, (n : Int) < g19.toInt → f20 n = (F 47) (7533 * (p1.toInt).toNat + n))) (fun xx => match xx with | (g19, f20) => (7533 - g19.toInt).toNat) (0, (F 0)) ⟨hP, hD, hS, lv_sub hl [0, 1, 2] rfl, by omega, (fun n h => by omega)⟩ (fun xx H locs ls hI ih => ?_)
      obtain ⟨g19, f20⟩ := xx
      obtain ⟨hP, hD, hS, hl, hq29, hr30⟩ := hI
      have ih31 := ih
      refine lv_iload_n hx hb dX11_back_25 rfl (lv_at hl 0 rfl) ?_
      refine lv_sipush (v := 7533) hx hb dX11_back_26 (by decide) ?_
      refine lv_icmp_ge (tgt := 56) hx hb dX11_back_29 (by decide) (fun c32 => ?_) (fun c32 => ?_)
      · skip
        have c32 := i_le (show (7533 : Int32).toInt = 7533 by decide) (Eq.refl g19.toInt) c32
        have t33 := BC_end hk1 (by omega) hr30 (by omega)
        refine lv_aload_n hx hb dX11_back_56 rfl (lv_at hl 1 rfl) ?_
        refine va_get (D := D) (ci := 11) (v := .ref (a 0)) (C := RX11) (T := TX11) (N := 49) hx hb hg inGX11 hown hKN.1 hP 0 rfl rfl 0 (by decide) (hg _ kw_1208) (fun _ h9 => h9) rfl dX11_back_57 ?_
        refine lv_iconst (v := 0) hx hb dX11_back_60 (by decide) ?_
        refine va_iald hx hb hKN.1 hP 1 0 rfl rfl (show ¬ ((0 : Int32) < 0 ∨ 7533 ≤ (0 : Int32).toNatClampNeg) by decide) dX11_back_61 ?_
        refine lv_topi (fun v34 ev34 => ?_)
        have ev34 : v34 = f20 0 := ev34
        have kv34 := TO_0 t33
        rw [← ev34] at kv34
        have qv34 := congrArg Int32.toInt ev34
        refine W.widen (k := 0) (n := 0) (Nat.le_of_ble_eq_true rfl) (Nat.le_of_ble_eq_true rfl) ?_
        exact W.iret (v := v34) hx hb hr (fun t ht hW => ⟨⟨(v34, f20), rfl, ⟨t33, (show ((((0 ≤ p1.toInt ∧ p1.toInt ≤ 3) ∧ ((F 48) p1.toNatClampNeg).toInt ≠ 0) ∧ v34 = f20 0 ∧ ∀ n : Nat, n < 7533 → f20 n = (F 47) (7533 * p1.toNatClampNeg + n)) ∨ (¬ ((0 ≤ p1.toInt ∧ p1.toInt ≤ 3) ∧ ((F 48) p1.toNatClampNeg).toInt ≠ 0) ∧ v34.toInt = -1 ∧ f20 = (F 0))) from (Or.inl ⟨by omega, ev34, BK_mk (i := p1) hr30 (by omega) (by omega)⟩))⟩, CB.mk ht hP hD⟩, hS.F ht⟩) hS.2.2 dX11_back_62
      · skip
        have c32 := i_nle (show (7533 : Int32).toInt = 7533 by decide) (Eq.refl g19.toInt) c32
        refine lv_aload_n hx hb dX11_back_32 rfl (lv_at hl 1 rfl) ?_
        refine va_get (D := D) (ci := 11) (v := .ref (a 0)) (C := RX11) (T := TX11) (N := 49) hx hb hg inGX11 hown hKN.1 hP 0 rfl rfl 0 (by decide) (hg _ kw_1208) (fun _ h9 => h9) rfl dX11_back_33 ?_
        refine lv_iload_n hx hb dX11_back_36 rfl (lv_at hl 0 rfl) ?_
        refine lv_aload_n hx hb dX11_back_37 rfl (lv_at hl 1 rfl) ?_
        refine va_get (D := D) (ci := 11) (v := .ref (a 47)) (C := RX11) (T := TX11) (N := 49) hx hb hg inGX11 hown hKN.1 hP 0 rfl rfl 47 (by decide) (hg _ kw_1255) (fun _ h9 => h9) rfl dX11_back_38 ?_
        refine lv_sipush (v := 7533) hx hb dX11_back_41 (by decide) ?_
        refine lv_iload_n hx hb dX11_back_44 rfl (lv_at hl 2 rfl) ?_
        refine lv_imul hx hb dX11_back_45 ?_
        refine lv_topi (fun v35 ev35 => ?_)
        have hv35 := i_mul (show (7533 : Int32).toInt = 7533 by decide) (Eq.refl p1.toInt) ev35 (by omega) (by omega)
        refine lv_iload_n hx hb dX11_back_46 rfl (lv_at hl 0 rfl) ?_
        refine lv_iadd hx hb dX11_back_47 ?_
        refine lv_topi (fun v36 ev36 => ?_)
        have hv36 := i_add (Eq.refl v35.toInt) (Eq.refl g19.toInt) ev36 (by omega) (by omega)
        refine va_iald hx hb hKN.1 hP 27 0 rfl rfl (vp_in_iff.mpr ⟨by omega, by omega⟩) dX11_back_48 ?_
        refine lv_topi (fun v37 ev37 => ?_)
        have ev37 : v37 = (F 47) v36.toNatClampNeg := ev37
        refine va_iast hx hb hKN.1 hP hD hS 1 0 rfl rfl (vp_in_iff.mpr ⟨by omega, by omega⟩) dX11_back_49 (fun H locs hP hD hS => ?_)
        obtain ⟨f38, ef38, hP, hD⟩ : ∃ f38 : Nat → Int32, f38 = upd f20 g19.toNatClampNeg v37 ∧ va_P D vwCl (MW Y o a I J (vf_upd F 0 f38) G) H ∧ va_D A (MW Y o a I J (vf_upd F 0 f38) G) := ⟨_, rfl, hP, hD⟩
        have t39 := BC_s (K := p1.toInt.toNat) (i := g19) (idx := v36) (j := g19.toInt + 1) hr30 ef38 (by omega) (by omega) ev37 rfl
        obtain ⟨v40, ev40⟩ : ∃ y : Int32, y = g19 + 1 := ⟨_, rfl⟩
        have hv40 := i_add (Eq.refl g19.toInt) (show (1 : Int32).toInt = 1 by decide) ev40 (by omega) (by omega)
        refine lv_iinc (v := v40) (lv' := [(2, .int v40), (0, .ref o), (1, .int p1)]) hx hb dX11_back_50 hl (k := 0) rfl (by rw [ev40]; rfl) (by decide) rfl (fun ls hl => ?_)
        refine lv_goto (tgt := 25) hx hb dX11_back_53 (by decide) ?_
        exact ih31 (v40, f38) H locs ls (by show (7533 - v40.toInt).toNat < (7533 - g19.toInt).toNat; omega) ⟨hP, hD, hS, lv_sub hl [0, 1, 2] rfl, by omega, (fun n h => t39 n (by omega))⟩
    · skip
      have c12 := i_eq (Eq.refl v10.toInt) (show (0 : Int32).toInt = 0 by decide) c12
      refine lv_iconst (v := (-1)) hx hb dX11_back_21 (by decide) ?_
      refine W.widen (k := 0) (n := 0) (Nat.le_of_ble_eq_true rfl) (Nat.le_of_ble_eq_true rfl) ?_
      have zim1 : ((-1) : Int32).toInt = -1 := by decide
      exact W.iret (v := (-1)) hx hb hr (fun t ht hW => ⟨⟨((-1), (F 0)), rfl, ⟨hk0, (show ((((0 ≤ p1.toInt ∧ p1.toInt ≤ 3) ∧ ((F 48) p1.toNatClampNeg).toInt ≠ 0) ∧ (-1) = (F 0) 0 ∧ ∀ n : Nat, n < 7533 → (F 0) n = (F 47) (7533 * p1.toNatClampNeg + n)) ∨ (¬ ((0 ≤ p1.toInt ∧ p1.toInt ≤ 3) ∧ ((F 48) p1.toNatClampNeg).toInt ≠ 0) ∧ ((-1) : Int32).toInt = -1 ∧ (F 0) = (F 0))) from (Or.inr ⟨by omega, by decide, rfl⟩))⟩, CB.mk ht hP hD⟩, hS.F ht⟩) hS.2.2 dX11_back_22
  · obtain rfl : u3 = 0 := i_is c8 (by decide)
    have zi0 : (0 : Int32).toInt = 0 := by decide
    refine W.eq (g2 := F0 m 9 ls [.int 0]) rfl ?_
    refine lv_if_eq (tgt := 21) hx hb dX11_back_9 (by decide) (fun c41 => ?_) (fun c41 => ?_)
    rotate_left
    · exact absurd c41 (by decide)
    refine lv_iconst (v := (-1)) hx hb dX11_back_21 (by decide) ?_
    refine W.widen (k := 0) (n := 0) (Nat.le_of_ble_eq_true rfl) (Nat.le_of_ble_eq_true rfl) ?_
    have zim1 : ((-1) : Int32).toInt = -1 := by decide
    exact W.iret (v := (-1)) hx hb hr (fun t ht hW => ⟨⟨((-1), (F 0)), rfl, ⟨hk0, (show ((((0 ≤ p1.toInt ∧ p1.toInt ≤ 3) ∧ ((F 48) p1.toNatClampNeg).toInt ≠ 0) ∧ (-1) = (F 0) 0 ∧ ∀ n : Nat, n < 7533 → (F 0) n = (F 47) (7533 * p1.toNatClampNeg + n)) ∨ (¬ ((0 ≤ p1.toInt ∧ p1.toInt ≤ 3) ∧ ((F 48) p1.toNatClampNeg).toInt ≠ 0) ∧ ((-1) : Int32).toInt = -1 ∧ (F 0) = (F 0))) from (Or.inr ⟨by omega, by decide, rfl⟩))⟩, CB.mk ht hP hD⟩, hS.F ht⟩) hS.2.2 dX11_back_22
set_option maxHeartbeats 4000000 in
set_option maxRecDepth 100000 in
theorem m_nightsC (l : Launch) (D : va_G) (Y : Nat → ClassId) (Z : Nat → Nat) (sz : Nat) (o : Nat) (a : Nat → Nat) (I : Nat → Int32) (J : Nat → Int64) (F : Nat → Nat → Int32) (G : Nat → Nat → Int64) (p1 : Int32) (p2 : Int32) (hk0 : TO (F 0)) : Met l yX11_nights (.code yX11_nights cX11_nights 10 (some .int) :: GW) ({ frames := 1, cells := 0, slots := 0, locals := 25 }) (va_Pc [.ref o, .int p1, .int p2] (CP D Y Z (MW Y o a I J F G) sz)) (QG (S := Int32) (fun u => some (.int u)) (fun u => ((((0 ≤ p1.toInt ∧ p1.toInt ≤ 9999) ∧ (0 ≤ p2.toInt ∧ p2.toInt ≤ 1)) ∧ u = pickN p1 p2 (fun c => F 0 (280 + 3 * c)) (fun c => F 0 (281 + 3 * c)) (F 0 2).toInt.toNat) ∨ (¬ ((0 ≤ p1.toInt ∧ p1.toInt ≤ 9999) ∧ (0 ≤ p2.toInt ∧ p2.toInt ≤ 1)) ∧ u.toInt = -1))) (fun u => CB D (MW Y o a I J F G) (va_A (MW Y o a I J F G) sz)) (va_A (MW Y o a I J F G) sz)) 0 0 (va_A (MW Y o a I J F G) sz) := by
  refine Met.ofW (cc := cX11_nights) (maxL := 10) (ret := (some .int)) (by decide) rfl ?_
  intro p e s m args below meth c s₁ B hml hv
  obtain ⟨rfl, hsz, hP, hKN, hD0⟩ := hv
  have hx := B.exec
  have hb := B.bytes
  have hr := B.returns
  have hts := atoms_spec (ws := .code yX11_nights cX11_nights 10 (some .int) :: GW) B.pre
  have hg : ∀ w ∈ GW, w.before _ s = true := fun w h => hts w (List.mem_cons_of_mem _ h)
  have hown : s.vm.findClass RX11 = some m.cls := findClass_of_methodNamed B.named
  have hlocks := B.notSynchronized
  subst hsz
  have hD := hD0.self (sz := s.heap.size)
  generalize hAe : va_A (MW Y o a I J F G) s.heap.size = A at hD ⊢
  have hA : ∀ q : Nat, s.heap.size ≤ q → A q := fun q h => by rw [← hAe]; exact Or.inr h
  clear hAe hD0 hts B
  have hl := lv_entry ([.ref o, .int p1, .int p2]) (n := 10) (Nat.le_of_ble_eq_true rfl)
  rw [lg_entry_eq]
  generalize (lg_sl ([.ref o, .int p1, .int p2]) ++ List.replicate (10 - (lg_sl ([.ref o, .int p1, .int p2])).length) Slot.unset).toArray = ls at hl ⊢
  have hl : lv_has ls 10 [(0, .ref o), (1, .int p1), (2, .int p2)] := hl
  refine w_start (A0 := A) hP (fun H locs hP hS => ?_)
  refine lv_iload_n hx hb dX11_nights_0 rfl (lv_at hl 1 rfl) ?_
  have j1 := rgI p1
  have j2 := Int32.toInt_toInt64 p1
  refine lv_i2l (v := p1.toInt64) hx hb dX11_nights_1 (rfl) ?_
  refine lv_lconst (v := 0) hx hb dX11_nights_2 (by decide) ?_
  refine lv_ldc2 (v := 9999) hx hb hown (hg _ kw_1899) dX11_nights_3 ?_
  have zl0 : (0 : Int64).toInt = 0 := by decide
  have zl9999 : (9999 : Int64).toInt = 9999 := by decide
  refine cg0 (rn_S (As := [.long p1.toInt64, .long 0, .long 9999]) (rest := []) (m_in l D Y Z H.size   p1.toInt64 0 9999 ) ⟨hx, hb, hml, hown, hg⟩ lk_X11_99 ⟨CP.blind, CP.at nilP hKN (nilD (A := fun _ => True))⟩ ⟨⟨rfl, rfl⟩, ⟨Nat.le_of_ble_eq_true rfl, Nat.le_of_ble_eq_true rfl⟩, ⟨Nat.le_of_ble_eq_true rfl, Nat.le_of_ble_eq_true rfl⟩⟩ hl.1 rfl (Nat.le_of_ble_eq_true rfl) dX11_nights_6) hP hS hA (fun u3 H locs w4 hP hS => ?_)
  obtain ⟨hw6, hw7⟩ : (((0 : Int64).toInt ≤ p1.toInt64.toInt ∧ p1.toInt64.toInt ≤ (9999 : Int64).toInt ∧ u3.toInt = 1) ∨ (¬ ((0 : Int64).toInt ≤ p1.toInt64.toInt ∧ p1.toInt64.toInt ≤ (9999 : Int64).toInt) ∧ u3.toInt = 0)) ∧ (0 ≤ u3.toInt ∧ u3.toInt ≤ 1) := w4
  refine W.eq (g2 := F0 m 9 ls [.int u3]) rfl ?_
  rcases (show u3.toInt = 1 ∨ u3.toInt = 0 by omega) with c8 | c8
  · obtain rfl : u3 = 1 := i_is c8 (by decide)
    have zi1 : (1 : Int32).toInt = 1 := by decide
    refine W.eq (g2 := F0 m 9 ls [.int 1]) rfl ?_
    refine lv_if_eq (tgt := 22) hx hb dX11_nights_9 (by decide) (fun c9 => ?_) (fun c9 => ?_)
    · exact absurd c9 (by decide)
    refine lv_iload_n hx hb dX11_nights_12 rfl (lv_at hl 2 rfl) ?_
    have j10 := rgI p2
    have j11 := Int32.toInt_toInt64 p2
    refine lv_i2l (v := p2.toInt64) hx hb dX11_nights_13 (rfl) ?_
    refine lv_lconst (v := 0) hx hb dX11_nights_14 (by decide) ?_
    refine lv_lconst (v := 1) hx hb dX11_nights_15 (by decide) ?_
    have zl1 : (1 : Int64).toInt = 1 := by decide
    refine cg0 (rn_S (As := [.long p2.toInt64, .long 0, .long 1]) (rest := []) (m_in l D Y Z H.size   p2.toInt64 0 1 ) ⟨hx, hb, hml, hown, hg⟩ lk_X11_99 ⟨CP.blind, CP.at nilP hKN (nilD (A := fun _ => True))⟩ ⟨⟨rfl, rfl⟩, ⟨Nat.le_of_ble_eq_true rfl, Nat.le_of_ble_eq_true rfl⟩, ⟨Nat.le_of_ble_eq_true rfl, Nat.le_of_ble_eq_true rfl⟩⟩ hl.1 rfl (Nat.le_of_ble_eq_true rfl) dX11_nights_16) hP hS hA (fun u12 H locs w13 hP hS => ?_)
    obtain ⟨hw15, hw16⟩ : (((0 : Int64).toInt ≤ p2.toInt64.toInt ∧ p2.toInt64.toInt ≤ (1 : Int64).toInt ∧ u12.toInt = 1) ∨ (¬ ((0 : Int64).toInt ≤ p2.toInt64.toInt ∧ p2.toInt64.toInt ≤ (1 : Int64).toInt) ∧ u12.toInt = 0)) ∧ (0 ≤ u12.toInt ∧ u12.toInt ≤ 1) := w13
    refine W.eq (g2 := F0 m 19 ls [.int u12]) rfl ?_
    rcases (show u12.toInt = 1 ∨ u12.toInt = 0 by omega) with c17 | c17
    · obtain rfl : u12 = 1 := i_is c17 (by decide)
      refine W.eq (g2 := F0 m 19 ls [.int 1]) rfl ?_
      refine lv_if_ne (tgt := 24) hx hb dX11_nights_19 (by decide) (fun c18 => ?_) (fun c18 => ?_)
      rotate_left
      · exact absurd c18 (by decide)
      refine lv_iconst (v := 0) hx hb dX11_nights_24 (by decide) ?_
      refine lv_istore_n (lv' := [(3, .int 0), (0, .ref o), (1, .int p1), (2, .int p2)]) hx hb dX11_nights_25 rfl hl (by decide) rfl (fun ls hl => ?_)
      refine lv_iconst (v := 0) hx hb dX11_nights_26 (by decide) ?_
      refine lv_istore (lv' := [(4, .int 0), (3, .int 0), (0, .ref o), (1, .int p1), (2, .int p2)]) hx hb dX11_nights_27 hl (by decide) rfl (fun ls hl => ?_)
      refine lv_iconst (v := 0) hx hb dX11_nights_29 (by decide) ?_
      refine lv_istore (lv' := [(5, .int 0), (4, .int 0), (3, .int 0), (0, .ref o), (1, .int p1), (2, .int p2)]) hx hb dX11_nights_30 hl (by decide) rfl (fun ls hl => ?_)
      refine lv_iconst (v := 1) hx hb dX11_nights_32 (by decide) ?_
      refine lv_istore (lv' := [(6, .int 1), (5, .int 0), (4, .int 0), (3, .int 0), (0, .ref o), (1, .int p1), (2, .int p2)]) hx hb dX11_nights_33 hl (by decide) rfl (fun ls hl => ?_)
      have zi0 : (0 : Int32).toInt = 0 := by decide
      refine w_loop (σ := Int32 × Int32 × Int32 × Int32) (fun xx H locs ls => match xx with | (g106, g107, g108, g109) => va_P D vwCl (MW Y o a I J F G) H ∧ va_D A (MW Y o a I J F G) ∧ va_S A s.heap H locs ∧ lv_has ls 10 [(6, .int g106), (5, .int g107), (4, .int g108), (3, .int g109), (0, .ref o), (1, .int p1), (2, .int p2)] ∧ (1 ≤ g106.toInt) ∧ MBS p1 (fun c => F 0 (280 + 3 * c)) (fun c => F 0 (281 + 3 * c)) (F 0 2).toInt.toNat g106 g109 g108 g107) (fun xx => match xx with | (g106, g107, g108, g109) => (2147483647 - g106.toInt).toNat) (1, 0, 0, 0) ⟨hP, hD, hS, lv_sub hl [0, 1, 2, 3, 4, 5, 6] rfl, by omega, MBS.one⟩ (fun xx H locs ls hI ih => ?_)
      obtain ⟨g106, g107, g108, g109⟩ := xx
      obtain ⟨hP, hD, hS, hl, hq205, hr206⟩ := hI
      have ih207 := ih
      refine lv_iload hx hb dX11_nights_35 (lv_at hl 0 rfl) ?_
      refine lv_iconst (v := 1) hx hb dX11_nights_37 (by decide) ?_
      refine lv_aload_n hx hb dX11_nights_38 rfl (lv_at hl 4 rfl) ?_
      refine va_get (D := D) (ci := 11) (v := .ref (a 0)) (C := RX11) (T := TX11) (N := 49) hx hb hg inGX11 hown hKN.1 hP 0 rfl rfl 0 (by decide) (hg _ kw_1208) (fun _ h9 => h9) rfl dX11_nights_39 ?_
      refine lv_iconst (v := 2) hx hb dX11_nights_42 (by decide) ?_
      refine va_iald hx hb hKN.1 hP 1 0 rfl rfl (show ¬ ((2 : Int32) < 0 ∨ 7533 ≤ (2 : Int32).toNatClampNeg) by decide) dX11_nights_43 ?_
      refine lv_topi (fun v208 ev208 => ?_)
      have ev208 : v208 = (F 0) 2 := ev208
      have kv208 := TO_2 hk0
      rw [← ev208] at kv208
      have qv208 := congrArg Int32.toInt ev208
      refine lv_ishl hx hb dX11_nights_44 ?_
      refine lv_topi (fun v209 ev209 => ?_)
      have t210 := shl1 ev209 (by omega) (by omega)
      rw [ev208] at t210
      have j211 := rgI g106
      refine lv_icmp_ge (tgt := 177) hx hb dX11_nights_45 (by decide) (fun c212 => ?_) (fun c212 => ?_)
      · skip
        have c212 := i_le (Eq.refl v209.toInt) (Eq.refl g106.toInt) c212
        refine lv_iload_n hx hb dX11_nights_177 rfl (lv_at hl 6 rfl) ?_
        refine lv_if_ne (tgt := 185) hx hb dX11_nights_178 (by decide) (fun c213 => ?_) (fun c213 => ?_)
        · skip
          have c213 := i_ne (Eq.refl p2.toInt) (show (0 : Int32).toInt = 0 by decide) c213
          refine lv_iload hx hb dX11_nights_185 (lv_at hl 2 rfl) ?_
          refine W.widen (k := 0) (n := 0) (Nat.le_of_ble_eq_true rfl) (Nat.le_of_ble_eq_true rfl) ?_
          exact W.iret (v := g108) hx hb hr (fun t ht hW => ⟨⟨g108, rfl, ((show ((((0 ≤ p1.toInt ∧ p1.toInt ≤ 9999) ∧ (0 ≤ p2.toInt ∧ p2.toInt ≤ 1)) ∧ g108 = pickN p1 p2 (fun c => F 0 (280 + 3 * c)) (fun c => F 0 (281 + 3 * c)) (F 0 2).toInt.toNat) ∨ (¬ ((0 ≤ p1.toInt ∧ p1.toInt ≤ 9999) ∧ (0 ≤ p2.toInt ∧ p2.toInt ≤ 1)) ∧ g108.toInt = -1)) from (Or.inl ⟨by omega, (hr206.1.pick (by have := hr206.2; omega)).2 (by omega)⟩))), CB.mk ht hP hD⟩, hS.F ht⟩) hS.2.2 dX11_nights_187
        · skip
          have c213 := i_eq (Eq.refl p2.toInt) (show (0 : Int32).toInt = 0 by decide) c213
          refine lv_iload_n hx hb dX11_nights_181 rfl (lv_at hl 3 rfl) ?_
          refine lv_goto (tgt := 187) hx hb dX11_nights_182 (by decide) ?_
          refine W.widen (k := 0) (n := 0) (Nat.le_of_ble_eq_true rfl) (Nat.le_of_ble_eq_true rfl) ?_
          exact W.iret (v := g109) hx hb hr (fun t ht hW => ⟨⟨g109, rfl, ((show ((((0 ≤ p1.toInt ∧ p1.toInt ≤ 9999) ∧ (0 ≤ p2.toInt ∧ p2.toInt ≤ 1)) ∧ g109 = pickN p1 p2 (fun c => F 0 (280 + 3 * c)) (fun c => F 0 (281 + 3 * c)) (F 0 2).toInt.toNat) ∨ (¬ ((0 ≤ p1.toInt ∧ p1.toInt ≤ 9999) ∧ (0 ≤ p2.toInt ∧ p2.toInt ≤ 1)) ∧ g109.toInt = -1)) from (Or.inl ⟨by omega, (hr206.1.pick (by have := hr206.2; omega)).1 (by omega)⟩))), CB.mk ht hP hD⟩, hS.F ht⟩) hS.2.2 dX11_nights_187
      · skip
        have c212 := i_nle (Eq.refl v209.toInt) (Eq.refl g106.toInt) c212
        refine lv_iconst (v := 0) hx hb dX11_nights_48 (by decide) ?_
        refine lv_istore (lv' := [(7, .int 0), (6, .int g106), (5, .int g107), (4, .int g108), (3, .int g109), (0, .ref o), (1, .int p1), (2, .int p2)]) hx hb dX11_nights_49 hl (by decide) rfl (fun ls hl => ?_)
        refine lv_iconst (v := 0) hx hb dX11_nights_51 (by decide) ?_
        refine lv_istore (lv' := [(8, .int 0), (7, .int 0), (6, .int g106), (5, .int g107), (4, .int g108), (3, .int g109), (0, .ref o), (1, .int p1), (2, .int p2)]) hx hb dX11_nights_52 hl (by decide) rfl (fun ls hl => ?_)
        refine lv_iconst (v := 0) hx hb dX11_nights_54 (by decide) ?_
        refine lv_istore (lv' := [(9, .int 0), (8, .int 0), (7, .int 0), (6, .int g106), (5, .int g107), (4, .int g108), (3, .int g109), (0, .ref o), (1, .int p1), (2, .int p2)]) hx hb dX11_nights_55 hl (by decide) rfl (fun ls hl => ?_)
        have zi0 : (0 : Int32).toInt = 0 := by decide
        refine w_loop (σ := Int32 × Int32 × Int32) (fun xx H locs ls => match xx with | (g238, g239, g240) => va_P D vwCl (MW Y o a I J F G) H ∧ va_D A (MW Y o a I J F G) ∧ va_S A s.heap H locs ∧ lv_has ls 10 [(9, .int g238), (8, .int g239), (7, .int g240), (6, .int g106), (5, .int g107), (4, .int g108), (3, .int g109), (0, .ref o), (1, .int p1), (2, .int p2)] ∧ (0 ≤ g238.toInt ∧ g238.toInt ≤ 12) ∧ (g238.toInt ≤ (F 0 2).toInt) ∧ MSM (fun c => F 0 (280 + 3 * c)) (fun c => F 0 (281 + 3 * c)) g106 g238 g240 g239) (fun xx => match xx with | (g238, g239, g240) => (12 - g238.toInt).toNat) (0, 0, 0) ⟨hP, hD, hS, lv_sub hl [0, 1, 2, 3, 4, 5, 6, 7, 8, 9] rfl, by omega, by omega, MSM.zero⟩ (fun xx H locs ls hI ih => ?_)
        obtain ⟨g238, g239, g240⟩ := xx
        obtain ⟨hP, hD, hS, hl, hq264, hq265, hr266⟩ := hI
        have ih267 := ih
        refine lv_iload hx hb dX11_nights_57 (lv_at hl 0 rfl) ?_
        refine lv_aload_n hx hb dX11_nights_59 rfl (lv_at hl 7 rfl) ?_
        refine va_get (D := D) (ci := 11) (v := .ref (a 0)) (C := RX11) (T := TX11) (N := 49) hx hb hg inGX11 hown hKN.1 hP 0 rfl rfl 0 (by decide) (hg _ kw_1208) (fun _ h9 => h9) rfl dX11_nights_60 ?_
        refine lv_iconst (v := 2) hx hb dX11_nights_63 (by decide) ?_
        refine va_iald hx hb hKN.1 hP 1 0 rfl rfl (show ¬ ((2 : Int32) < 0 ∨ 7533 ≤ (2 : Int32).toNatClampNeg) by decide) dX11_nights_64 ?_
        refine lv_topi (fun v268 ev268 => ?_)
        have ev268 : v268 = (F 0) 2 := ev268
        have kv268 := TO_2 hk0
        rw [← ev268] at kv268
        have qv268 := congrArg Int32.toInt ev268
        refine lv_icmp_ge (tgt := 130) hx hb dX11_nights_65 (by decide) (fun c269 => ?_) (fun c269 => ?_)
        · skip
          have c269 := i_le (Eq.refl v268.toInt) (Eq.refl g238.toInt) c269
          refine lv_iload hx hb dX11_nights_130 (lv_at hl 2 rfl) ?_
          refine lv_iload_n hx hb dX11_nights_132 rfl (lv_at hl 8 rfl) ?_
          have j270 := rgI g240
          refine lv_icmp_gt (tgt := 171) hx hb dX11_nights_133 (by decide) (fun c271 => ?_) (fun c271 => ?_)
          · skip
            have c271 := i_lt (Eq.refl p1.toInt) (Eq.refl g240.toInt) c271
            obtain ⟨v272, ev272⟩ : ∃ y : Int32, y = g106 + 1 := ⟨_, rfl⟩
            have hv272 := i_add (Eq.refl g106.toInt) (show (1 : Int32).toInt = 1 by decide) ev272 (by omega) (by omega)
            refine lv_iinc (v := v272) (lv' := [(6, .int v272), (9, .int g238), (8, .int g239), (7, .int g240), (5, .int g107), (4, .int g108), (3, .int g109), (0, .ref o), (1, .int p1), (2, .int p2)]) hx hb dX11_nights_171 hl (k := 3) rfl (by rw [ev272]; rfl) (by decide) rfl (fun ls hl => ?_)
            refine lv_goto (tgt := 35) hx hb dX11_nights_174 (by decide) ?_
            exact ih207 (v272, g107, g108, g109) H locs ls (by show (2147483647 - v272.toInt).toNat < (2147483647 - g106.toInt).toNat; omega) ⟨hP, hD, hS, lv_sub hl [0, 4, 5, 6, 7, 8, 9] rfl, by omega, (MBS.no (s := g106) hr206 hr266 (by omega) (by omega) (by omega) (by omega) (by omega))⟩
          · skip
            have c271 := i_nlt (Eq.refl p1.toInt) (Eq.refl g240.toInt) c271
            refine lv_iload hx hb dX11_nights_136 (lv_at hl 1 rfl) ?_
            refine lv_iload hx hb dX11_nights_138 (lv_at hl 5 rfl) ?_
            have j273 := rgI g239
            have j274 := rgI g108
            refine lv_icmp_lt (tgt := 171) hx hb dX11_nights_140 (by decide) (fun c275 => ?_) (fun c275 => ?_)
            · skip
              have c275 := i_lt (Eq.refl g239.toInt) (Eq.refl g108.toInt) c275
              obtain ⟨v276, ev276⟩ : ∃ y : Int32, y = g106 + 1 := ⟨_, rfl⟩
              have hv276 := i_add (Eq.refl g106.toInt) (show (1 : Int32).toInt = 1 by decide) ev276 (by omega) (by omega)
              refine lv_iinc (v := v276) (lv' := [(6, .int v276), (9, .int g238), (8, .int g239), (7, .int g240), (5, .int g107), (4, .int g108), (3, .int g109), (0, .ref o), (1, .int p1), (2, .int p2)]) hx hb dX11_nights_171 hl (k := 3) rfl (by rw [ev276]; rfl) (by decide) rfl (fun ls hl => ?_)
              refine lv_goto (tgt := 35) hx hb dX11_nights_174 (by decide) ?_
              exact ih207 (v276, g107, g108, g109) H locs ls (by show (2147483647 - v276.toInt).toNat < (2147483647 - g106.toInt).toNat; omega) ⟨hP, hD, hS, lv_sub hl [0, 4, 5, 6, 7, 8, 9] rfl, by omega, (MBS.no (s := g106) hr206 hr266 (by omega) (by omega) (by omega) (by omega) (by omega))⟩
            · skip
              have c275 := i_nlt (Eq.refl g239.toInt) (Eq.refl g108.toInt) c275
              refine lv_iload hx hb dX11_nights_143 (lv_at hl 1 rfl) ?_
              refine lv_iload hx hb dX11_nights_145 (lv_at hl 5 rfl) ?_
              refine lv_icmp_ne (tgt := 160) hx hb dX11_nights_147 (by decide) (fun c277 => ?_) (fun c277 => ?_)
              · skip
                have c277 := i_ne (Eq.refl g239.toInt) (Eq.refl g108.toInt) c277
                refine lv_iload hx hb dX11_nights_160 (lv_at hl 3 rfl) ?_
                refine lv_istore_n (lv' := [(3, .int g106), (9, .int g238), (8, .int g239), (7, .int g240), (6, .int g106), (5, .int g107), (4, .int g108), (0, .ref o), (1, .int p1), (2, .int p2)]) hx hb dX11_nights_162 rfl hl (by decide) rfl (fun ls hl => ?_)
                refine lv_iload hx hb dX11_nights_163 (lv_at hl 2 rfl) ?_
                refine lv_istore (lv' := [(4, .int g239), (3, .int g106), (9, .int g238), (8, .int g239), (7, .int g240), (6, .int g106), (5, .int g107), (0, .ref o), (1, .int p1), (2, .int p2)]) hx hb dX11_nights_165 hl (by decide) rfl (fun ls hl => ?_)
                refine lv_iload hx hb dX11_nights_167 (lv_at hl 4 rfl) ?_
                refine lv_istore (lv' := [(5, .int g240), (4, .int g239), (3, .int g106), (9, .int g238), (8, .int g239), (7, .int g240), (6, .int g106), (0, .ref o), (1, .int p1), (2, .int p2)]) hx hb dX11_nights_169 hl (by decide) rfl (fun ls hl => ?_)
                obtain ⟨v278, ev278⟩ : ∃ y : Int32, y = g106 + 1 := ⟨_, rfl⟩
                have hv278 := i_add (Eq.refl g106.toInt) (show (1 : Int32).toInt = 1 by decide) ev278 (by omega) (by omega)
                refine lv_iinc (v := v278) (lv' := [(6, .int v278), (5, .int g240), (4, .int g239), (3, .int g106), (9, .int g238), (8, .int g239), (7, .int g240), (0, .ref o), (1, .int p1), (2, .int p2)]) hx hb dX11_nights_171 hl (k := 6) rfl (by rw [ev278]; rfl) (by decide) rfl (fun ls hl => ?_)
                refine lv_goto (tgt := 35) hx hb dX11_nights_174 (by decide) ?_
                exact ih207 (v278, g240, g239, g106) H locs ls (by show (2147483647 - v278.toInt).toNat < (2147483647 - g106.toInt).toNat; omega) ⟨hP, hD, hS, lv_sub hl [0, 1, 2, 3, 7, 8, 9] rfl, by omega, (MBS.yes (s := g106) hr206 hr266 (by omega) (by omega) (by omega) (by omega) (by omega) (by omega))⟩
              · skip
                have c277 := i_eq (Eq.refl g239.toInt) (Eq.refl g108.toInt) c277
                refine lv_iload hx hb dX11_nights_150 (lv_at hl 2 rfl) ?_
                refine lv_iload hx hb dX11_nights_152 (lv_at hl 4 rfl) ?_
                have j279 := rgI g107
                refine lv_icmp_lt (tgt := 160) hx hb dX11_nights_154 (by decide) (fun c280 => ?_) (fun c280 => ?_)
                · skip
                  have c280 := i_lt (Eq.refl g240.toInt) (Eq.refl g107.toInt) c280
                  refine lv_iload hx hb dX11_nights_160 (lv_at hl 3 rfl) ?_
                  refine lv_istore_n (lv' := [(3, .int g106), (9, .int g238), (8, .int g239), (7, .int g240), (6, .int g106), (5, .int g107), (4, .int g108), (0, .ref o), (1, .int p1), (2, .int p2)]) hx hb dX11_nights_162 rfl hl (by decide) rfl (fun ls hl => ?_)
                  refine lv_iload hx hb dX11_nights_163 (lv_at hl 2 rfl) ?_
                  refine lv_istore (lv' := [(4, .int g239), (3, .int g106), (9, .int g238), (8, .int g239), (7, .int g240), (6, .int g106), (5, .int g107), (0, .ref o), (1, .int p1), (2, .int p2)]) hx hb dX11_nights_165 hl (by decide) rfl (fun ls hl => ?_)
                  refine lv_iload hx hb dX11_nights_167 (lv_at hl 4 rfl) ?_
                  refine lv_istore (lv' := [(5, .int g240), (4, .int g239), (3, .int g106), (9, .int g238), (8, .int g239), (7, .int g240), (6, .int g106), (0, .ref o), (1, .int p1), (2, .int p2)]) hx hb dX11_nights_169 hl (by decide) rfl (fun ls hl => ?_)
                  obtain ⟨v281, ev281⟩ : ∃ y : Int32, y = g106 + 1 := ⟨_, rfl⟩
                  have hv281 := i_add (Eq.refl g106.toInt) (show (1 : Int32).toInt = 1 by decide) ev281 (by omega) (by omega)
                  refine lv_iinc (v := v281) (lv' := [(6, .int v281), (5, .int g240), (4, .int g239), (3, .int g106), (9, .int g238), (8, .int g239), (7, .int g240), (0, .ref o), (1, .int p1), (2, .int p2)]) hx hb dX11_nights_171 hl (k := 6) rfl (by rw [ev281]; rfl) (by decide) rfl (fun ls hl => ?_)
                  refine lv_goto (tgt := 35) hx hb dX11_nights_174 (by decide) ?_
                  exact ih207 (v281, g240, g239, g106) H locs ls (by show (2147483647 - v281.toInt).toNat < (2147483647 - g106.toInt).toNat; omega) ⟨hP, hD, hS, lv_sub hl [0, 1, 2, 3, 7, 8, 9] rfl, by omega, (MBS.yes (s := g106) hr206 hr266 (by omega) (by omega) (by omega) (by omega) (by omega) (by omega))⟩
                · skip
                  have c280 := i_nlt (Eq.refl g240.toInt) (Eq.refl g107.toInt) c280
                  refine lv_goto (tgt := 171) hx hb dX11_nights_157 (by decide) ?_
                  obtain ⟨v282, ev282⟩ : ∃ y : Int32, y = g106 + 1 := ⟨_, rfl⟩
                  have hv282 := i_add (Eq.refl g106.toInt) (show (1 : Int32).toInt = 1 by decide) ev282 (by omega) (by omega)
                  refine lv_iinc (v := v282) (lv' := [(6, .int v282), (9, .int g238), (8, .int g239), (7, .int g240), (5, .int g107), (4, .int g108), (3, .int g109), (0, .ref o), (1, .int p1), (2, .int p2)]) hx hb dX11_nights_171 hl (k := 3) rfl (by rw [ev282]; rfl) (by decide) rfl (fun ls hl => ?_)
                  refine lv_goto (tgt := 35) hx hb dX11_nights_174 (by decide) ?_
                  exact ih207 (v282, g107, g108, g109) H locs ls (by show (2147483647 - v282.toInt).toNat < (2147483647 - g106.toInt).toNat; omega) ⟨hP, hD, hS, lv_sub hl [0, 4, 5, 6, 7, 8, 9] rfl, by omega, (MBS.no (s := g106) hr206 hr266 (by omega) (by omega) (by omega) (by omega) (by omega))⟩
        · skip
          have c269 := i_nle (Eq.refl v268.toInt) (Eq.refl g238.toInt) c269
          refine lv_iload hx hb dX11_nights_68 (lv_at hl 2 rfl) ?_
          refine lv_iload hx hb dX11_nights_70 (lv_at hl 3 rfl) ?_
          refine lv_iload hx hb dX11_nights_72 (lv_at hl 0 rfl) ?_
          refine lv_ishr hx hb dX11_nights_74 ?_
          refine lv_topi (fun v283 ev283 => ?_)
          refine lv_iconst (v := 1) hx hb dX11_nights_75 (by decide) ?_
          refine lv_iand hx hb dX11_nights_76 ?_
          refine lv_topi (fun v284 ev284 => ?_)
          have hv284 := i_and (show (1 : Int32).toInt = 1 by decide) ev284 (by decide)
          refine lv_aload_n hx hb dX11_nights_77 rfl (lv_at hl 7 rfl) ?_
          refine va_get (D := D) (ci := 11) (v := .ref (a 0)) (C := RX11) (T := TX11) (N := 49) hx hb hg inGX11 hown hKN.1 hP 0 rfl rfl 0 (by decide) (hg _ kw_1208) (fun _ h9 => h9) rfl dX11_nights_78 ?_
          refine lv_sipush (v := 279) hx hb dX11_nights_81 (by decide) ?_
          refine lv_iconst (v := 3) hx hb dX11_nights_84 (by decide) ?_
          refine lv_iload hx hb dX11_nights_85 (lv_at hl 0 rfl) ?_
          refine lv_imul hx hb dX11_nights_87 ?_
          refine lv_topi (fun v285 ev285 => ?_)
          have hv285 := i_mul (show (3 : Int32).toInt = 3 by decide) (Eq.refl g238.toInt) ev285 (by omega) (by omega)
          refine lv_iadd hx hb dX11_nights_88 ?_
          refine lv_topi (fun v286 ev286 => ?_)
          have hv286 := i_add (show (279 : Int32).toInt = 279 by decide) (Eq.refl v285.toInt) ev286 (by omega) (by omega)
          refine lv_iconst (v := 1) hx hb dX11_nights_89 (by decide) ?_
          refine lv_iadd hx hb dX11_nights_90 ?_
          refine lv_topi (fun v287 ev287 => ?_)
          have hv287 := i_add (Eq.refl v286.toInt) (show (1 : Int32).toInt = 1 by decide) ev287 (by omega) (by omega)
          refine va_iald hx hb hKN.1 hP 1 0 rfl rfl (vp_in_iff.mpr ⟨by omega, by omega⟩) dX11_nights_91 ?_
          refine lv_topi (fun v288 ev288 => ?_)
          have ev288 : v288 = (F 0) v287.toNatClampNeg := ev288
          refine lv_imul hx hb dX11_nights_92 ?_
          refine lv_topi (fun v289 ev289 => ?_)
          have j290 := rgI v288
          have hv289 := i_mulR (a := 0) (b := 1) (c := -2147483648) (d := 2147483647) (lo := -2147483648) (hi := 2147483647) (Eq.refl v284.toInt) (Eq.refl v288.toInt) ev289 (by omega) (by omega) (by decide) (by decide)
          refine lv_iadd hx hb dX11_nights_93 ?_
          refine lv_topi (fun v291 ev291 => ?_)
          have t292 : v291 = smI (fun c => F 0 (280 + 3 * c)) (g238.toInt.toNat + 1) g106.toInt.toNat := sm_ny hr266.1 ev283 ev284 ev289 ev291 (rdE (n := 280 + 3 * g238.toInt.toNat) ev288 (by omega) (by omega)) (by omega) (by omega) (by omega)
          refine lv_istore (lv' := [(7, .int v291), (9, .int g238), (8, .int g239), (6, .int g106), (5, .int g107), (4, .int g108), (3, .int g109), (0, .ref o), (1, .int p1), (2, .int p2)]) hx hb dX11_nights_94 hl (by decide) rfl (fun ls hl => ?_)
          refine lv_iload hx hb dX11_nights_96 (lv_at hl 2 rfl) ?_
          refine lv_iload hx hb dX11_nights_98 (lv_at hl 3 rfl) ?_
          refine lv_iload hx hb dX11_nights_100 (lv_at hl 1 rfl) ?_
          refine lv_ishr hx hb dX11_nights_102 ?_
          refine lv_topi (fun v293 ev293 => ?_)
          refine lv_iconst (v := 1) hx hb dX11_nights_103 (by decide) ?_
          refine lv_iand hx hb dX11_nights_104 ?_
          refine lv_topi (fun v294 ev294 => ?_)
          have hv294 := i_and (show (1 : Int32).toInt = 1 by decide) ev294 (by decide)
          refine lv_aload_n hx hb dX11_nights_105 rfl (lv_at hl 7 rfl) ?_
          refine va_get (D := D) (ci := 11) (v := .ref (a 0)) (C := RX11) (T := TX11) (N := 49) hx hb hg inGX11 hown hKN.1 hP 0 rfl rfl 0 (by decide) (hg _ kw_1208) (fun _ h9 => h9) rfl dX11_nights_106 ?_
          refine lv_sipush (v := 279) hx hb dX11_nights_109 (by decide) ?_
          refine lv_iconst (v := 3) hx hb dX11_nights_112 (by decide) ?_
          refine lv_iload hx hb dX11_nights_113 (lv_at hl 1 rfl) ?_
          refine lv_imul hx hb dX11_nights_115 ?_
          refine lv_topi (fun v295 ev295 => ?_)
          have hv295 := i_mul (show (3 : Int32).toInt = 3 by decide) (Eq.refl g238.toInt) ev295 (by omega) (by omega)
          refine lv_iadd hx hb dX11_nights_116 ?_
          refine lv_topi (fun v296 ev296 => ?_)
          have hv296 := i_add (show (279 : Int32).toInt = 279 by decide) (Eq.refl v295.toInt) ev296 (by omega) (by omega)
          refine lv_iconst (v := 2) hx hb dX11_nights_117 (by decide) ?_
          refine lv_iadd hx hb dX11_nights_118 ?_
          refine lv_topi (fun v297 ev297 => ?_)
          have hv297 := i_add (Eq.refl v296.toInt) (show (2 : Int32).toInt = 2 by decide) ev297 (by omega) (by omega)
          refine va_iald hx hb hKN.1 hP 1 0 rfl rfl (vp_in_iff.mpr ⟨by omega, by omega⟩) dX11_nights_119 ?_
          refine lv_topi (fun v298 ev298 => ?_)
          have ev298 : v298 = (F 0) v297.toNatClampNeg := ev298
          refine lv_imul hx hb dX11_nights_120 ?_
          refine lv_topi (fun v299 ev299 => ?_)
          have j300 := rgI v298
          have hv299 := i_mulR (a := 0) (b := 1) (c := -2147483648) (d := 2147483647) (lo := -2147483648) (hi := 2147483647) (Eq.refl v294.toInt) (Eq.refl v298.toInt) ev299 (by omega) (by omega) (by decide) (by decide)
          refine lv_iadd hx hb dX11_nights_121 ?_
          refine lv_topi (fun v301 ev301 => ?_)
          have t302 : v301 = smI (fun c => F 0 (281 + 3 * c)) (g238.toInt.toNat + 1) g106.toInt.toNat := sm_ny hr266.2 ev293 ev294 ev299 ev301 (rdE (n := 281 + 3 * g238.toInt.toNat) ev298 (by omega) (by omega)) (by omega) (by omega) (by omega)
          refine lv_istore (lv' := [(8, .int v301), (7, .int v291), (9, .int g238), (6, .int g106), (5, .int g107), (4, .int g108), (3, .int g109), (0, .ref o), (1, .int p1), (2, .int p2)]) hx hb dX11_nights_122 hl (by decide) rfl (fun ls hl => ?_)
          obtain ⟨v303, ev303⟩ : ∃ y : Int32, y = g238 + 1 := ⟨_, rfl⟩
          have hv303 := i_add (Eq.refl g238.toInt) (show (1 : Int32).toInt = 1 by decide) ev303 (by omega) (by omega)
          refine lv_iinc (v := v303) (lv' := [(9, .int v303), (8, .int v301), (7, .int v291), (6, .int g106), (5, .int g107), (4, .int g108), (3, .int g109), (0, .ref o), (1, .int p1), (2, .int p2)]) hx hb dX11_nights_124 hl (k := 2) rfl (by rw [ev303]; rfl) (by decide) rfl (fun ls hl => ?_)
          refine lv_goto (tgt := 57) hx hb dX11_nights_127 (by decide) ?_
          exact ih267 (v303, v301, v291) H locs ls (by show (12 - v303.toInt).toNat < (12 - g238.toInt).toNat; omega) ⟨hP, hD, hS, lv_sub hl [0, 1, 2, 3, 4, 5, 6, 7, 8, 9] rfl, by omega, by omega, (MSM.next t292 t302 (by omega) (by omega))⟩
    · obtain rfl : u12 = 0 := i_is c17 (by decide)
      have zi0 : (0 : Int32).toInt = 0 := by decide
      refine W.eq (g2 := F0 m 19 ls [.int 0]) rfl ?_
      refine lv_if_ne (tgt := 24) hx hb dX11_nights_19 (by decide) (fun c304 => ?_) (fun c304 => ?_)
      · exact absurd c304 (by decide)
      refine lv_iconst (v := (-1)) hx hb dX11_nights_22 (by decide) ?_
      refine W.widen (k := 0) (n := 0) (Nat.le_of_ble_eq_true rfl) (Nat.le_of_ble_eq_true rfl) ?_
      have zim1 : ((-1) : Int32).toInt = -1 := by decide
      exact W.iret (v := (-1)) hx hb hr (fun t ht hW => ⟨⟨(-1), rfl, ((show ((((0 ≤ p1.toInt ∧ p1.toInt ≤ 9999) ∧ (0 ≤ p2.toInt ∧ p2.toInt ≤ 1)) ∧ (-1) = pickN p1 p2 (fun c => F 0 (280 + 3 * c)) (fun c => F 0 (281 + 3 * c)) (F 0 2).toInt.toNat) ∨ (¬ ((0 ≤ p1.toInt ∧ p1.toInt ≤ 9999) ∧ (0 ≤ p2.toInt ∧ p2.toInt ≤ 1)) ∧ ((-1) : Int32).toInt = -1)) from (Or.inr ⟨by omega, by decide⟩))), CB.mk ht hP hD⟩, hS.F ht⟩) hS.2.2 dX11_nights_23
  · obtain rfl : u3 = 0 := i_is c8 (by decide)
    have zi0 : (0 : Int32).toInt = 0 := by decide
    refine W.eq (g2 := F0 m 9 ls [.int 0]) rfl ?_
    refine lv_if_eq (tgt := 22) hx hb dX11_nights_9 (by decide) (fun c305 => ?_) (fun c305 => ?_)
    rotate_left
    · exact absurd c305 (by decide)
    refine lv_iconst (v := (-1)) hx hb dX11_nights_22 (by decide) ?_
    refine W.widen (k := 0) (n := 0) (Nat.le_of_ble_eq_true rfl) (Nat.le_of_ble_eq_true rfl) ?_
    have zim1 : ((-1) : Int32).toInt = -1 := by decide
    exact W.iret (v := (-1)) hx hb hr (fun t ht hW => ⟨⟨(-1), rfl, ((show ((((0 ≤ p1.toInt ∧ p1.toInt ≤ 9999) ∧ (0 ≤ p2.toInt ∧ p2.toInt ≤ 1)) ∧ (-1) = pickN p1 p2 (fun c => F 0 (280 + 3 * c)) (fun c => F 0 (281 + 3 * c)) (F 0 2).toInt.toNat) ∨ (¬ ((0 ≤ p1.toInt ∧ p1.toInt ≤ 9999) ∧ (0 ≤ p2.toInt ∧ p2.toInt ≤ 1)) ∧ ((-1) : Int32).toInt = -1)) from (Or.inr ⟨by omega, by decide⟩))), CB.mk ht hP hD⟩, hS.F ht⟩) hS.2.2 dX11_nights_23
set_option maxHeartbeats 4000000 in
set_option maxRecDepth 100000 in
theorem x_ntzC (l : Launch) (D : va_G) (Y : Nat → ClassId) (Z : Nat → Nat) (sz : Nat)  (p0 : Int32) (hp0 : (1 ≤ p0.toInt ∧ p0.toInt ≤ 4095)) : Met l yJ6_numberOfTrailingZeros_0f7a4 (.code yJ6_numberOfTrailingZeros_0f7a4 cJ6_numberOfTrailingZeros_0f7a4 2 (some .int) :: GW) ({ frames := 0, cells := 0, slots := 0, locals := 0 }) (va_Pc [.int p0] (CP D Y Z [] sz)) (QG (S := Int32) (fun u => some (.int u)) (fun u => (u.toInt = (ctzF (p0.toInt).toNat : Int)) ∧ (0 ≤ u.toInt ∧ u.toInt ≤ 11)) (fun u => CB D [] (va_A [] sz)) (va_A [] sz)) 0 0 (va_A [] sz) := by
  refine Met.ofW (cc := cJ6_numberOfTrailingZeros_0f7a4) (maxL := 2) (ret := (some .int)) (by decide) rfl ?_
  intro p e s m args below meth c s₁ B hml hv
  obtain ⟨rfl, hsz, hP, hKN, hD0⟩ := hv
  have hx := B.exec
  have hb := B.bytes
  have hr := B.returns
  have hts := atoms_spec (ws := .code yJ6_numberOfTrailingZeros_0f7a4 cJ6_numberOfTrailingZeros_0f7a4 2 (some .int) :: GW) B.pre
  have hg : ∀ w ∈ GW, w.before _ s = true := fun w h => hts w (List.mem_cons_of_mem _ h)
  have hown : s.vm.findClass RJ6 = some m.cls := findClass_of_methodNamed B.named
  have hlocks := B.notSynchronized
  subst hsz
  have hD := hD0.self (sz := s.heap.size)
  generalize hAe : va_A [] s.heap.size = A at hD ⊢
  have hA : ∀ q : Nat, s.heap.size ≤ q → A q := fun q h => by rw [← hAe]; exact Or.inr h
  clear hAe hD0 hts B
  have hl := lv_entry ([.int p0]) (n := 2) (Nat.le_of_ble_eq_true rfl)
  rw [lg_entry_eq]
  generalize (lg_sl ([.int p0]) ++ List.replicate (2 - (lg_sl ([.int p0])).length) Slot.unset).toArray = ls at hl ⊢
  have hl : lv_has ls 2 [(0, .int p0)] := hl
  refine w_start (A0 := A) hP (fun H locs hP hS => ?_)
  refine lv_iload_n hx hb dJ6_numberOfTrailingZeros_0f7a4_0 rfl (lv_at hl 0 rfl) ?_
  refine lv_iconst (v := (-1)) hx hb dJ6_numberOfTrailingZeros_0f7a4_1 (by decide) ?_
  refine lv_ixor hx hb dJ6_numberOfTrailingZeros_0f7a4_2 ?_
  refine lv_topi (fun v1 ev1 => ?_)
  refine lv_iload_n hx hb dJ6_numberOfTrailingZeros_0f7a4_3 rfl (lv_at hl 0 rfl) ?_
  refine lv_iconst (v := 1) hx hb dJ6_numberOfTrailingZeros_0f7a4_4 (by decide) ?_
  refine lv_isub hx hb dJ6_numberOfTrailingZeros_0f7a4_5 ?_
  refine lv_topi (fun v2 ev2 => ?_)
  have hv2 := i_sub (Eq.refl p0.toInt) (show (1 : Int32).toInt = 1 by decide) ev2 (by omega) (by omega)
  refine lv_iand hx hb dJ6_numberOfTrailingZeros_0f7a4_6 ?_
  refine lv_topi (fun v3 ev3 => ?_)
  refine lv_istore_n (lv' := [(0, .int v3)]) hx hb dJ6_numberOfTrailingZeros_0f7a4_7 rfl hl (by decide) rfl (fun ls hl => ?_)
  obtain ⟨z4a, z4b⟩ := ntzI ev1 ev2 ev3 (by omega) (by omega)
  rcases (show ctzF p0.toInt.toNat = 0 ∨ ctzF p0.toInt.toNat = 1 ∨ ctzF p0.toInt.toNat = 2 ∨ ctzF p0.toInt.toNat = 3 ∨ ctzF p0.toInt.toNat = 4 ∨ ctzF p0.toInt.toNat = 5 ∨ ctzF p0.toInt.toNat = 6 ∨ ctzF p0.toInt.toNat = 7 ∨ ctzF p0.toInt.toNat = 8 ∨ ctzF p0.toInt.toNat = 9 ∨ ctzF p0.toInt.toNat = 10 ∨ ctzF p0.toInt.toNat = 11 by omega) with c5 | c5 | c5 | c5 | c5 | c5 | c5 | c5 | c5 | c5 | c5 | c5
  · obtain rfl : v3 = 0 := by rw [z4a, c5]; decide
    refine lv_iload_n hx hb dJ6_numberOfTrailingZeros_0f7a4_8 rfl (lv_at hl 0 rfl) ?_
    refine lv_if_gt (tgt := 17) hx hb dJ6_numberOfTrailingZeros_0f7a4_9 (by decide) (fun c6 => ?_) (fun c6 => ?_)
    · exact absurd c6 (by decide)
    refine lv_iload_n hx hb dJ6_numberOfTrailingZeros_0f7a4_12 rfl (lv_at hl 0 rfl) ?_
    refine lv_bipush (v := 32) hx hb dJ6_numberOfTrailingZeros_0f7a4_13 (by decide) ?_
    refine lv_iand hx hb dJ6_numberOfTrailingZeros_0f7a4_15 ?_
    refine lv_topi (fun z7 ez7 => ?_)
    obtain rfl : z7 = 0 := ez7.trans (by decide)
    refine W.widen (k := 0) (n := 0) (Nat.le_of_ble_eq_true rfl) (Nat.le_of_ble_eq_true rfl) ?_
    have zi0 : (0 : Int32).toInt = 0 := by decide
    exact W.iret (v := 0) hx hb hr (fun t ht hW => ⟨⟨(0), rfl, ⟨(show ((0 : Int32).toInt = (ctzF (p0.toInt).toNat : Int)) by omega), (show (0 ≤ (0 : Int32).toInt ∧ (0 : Int32).toInt ≤ 11) by omega)⟩, CB.nil⟩, hS.F ht⟩) hS.2.2 dJ6_numberOfTrailingZeros_0f7a4_16
  · obtain rfl : v3 = 1 := by rw [z4a, c5]; decide
    refine lv_iload_n hx hb dJ6_numberOfTrailingZeros_0f7a4_8 rfl (lv_at hl 0 rfl) ?_
    refine lv_if_gt (tgt := 17) hx hb dJ6_numberOfTrailingZeros_0f7a4_9 (by decide) (fun c8 => ?_) (fun c8 => ?_)
    rotate_left
    · exact absurd c8 (by decide)
    refine lv_iconst (v := 1) hx hb dJ6_numberOfTrailingZeros_0f7a4_17 (by decide) ?_
    refine lv_istore_n (lv' := [(1, .int 1), (0, .int 1)]) hx hb dJ6_numberOfTrailingZeros_0f7a4_18 rfl hl (by decide) rfl (fun ls hl => ?_)
    refine lv_iload_n hx hb dJ6_numberOfTrailingZeros_0f7a4_19 rfl (lv_at hl 1 rfl) ?_
    refine lv_ldcw (v := 65536) hx hb hown (hg _ kw_1171) dJ6_numberOfTrailingZeros_0f7a4_20 ?_
    refine lv_icmp_le (tgt := 34) hx hb dJ6_numberOfTrailingZeros_0f7a4_23 (by decide) (fun c9 => ?_) (fun c9 => ?_)
    rotate_left
    · exact absurd c9 (by decide)
    refine lv_iload_n hx hb dJ6_numberOfTrailingZeros_0f7a4_34 rfl (lv_at hl 1 rfl) ?_
    refine lv_sipush (v := 256) hx hb dJ6_numberOfTrailingZeros_0f7a4_35 (by decide) ?_
    refine lv_icmp_le (tgt := 49) hx hb dJ6_numberOfTrailingZeros_0f7a4_38 (by decide) (fun c10 => ?_) (fun c10 => ?_)
    rotate_left
    · exact absurd c10 (by decide)
    refine lv_iload_n hx hb dJ6_numberOfTrailingZeros_0f7a4_49 rfl (lv_at hl 1 rfl) ?_
    refine lv_bipush (v := 16) hx hb dJ6_numberOfTrailingZeros_0f7a4_50 (by decide) ?_
    refine lv_icmp_le (tgt := 62) hx hb dJ6_numberOfTrailingZeros_0f7a4_52 (by decide) (fun c11 => ?_) (fun c11 => ?_)
    rotate_left
    · exact absurd c11 (by decide)
    refine lv_iload_n hx hb dJ6_numberOfTrailingZeros_0f7a4_62 rfl (lv_at hl 1 rfl) ?_
    refine lv_iconst (v := 4) hx hb dJ6_numberOfTrailingZeros_0f7a4_63 (by decide) ?_
    refine lv_icmp_le (tgt := 74) hx hb dJ6_numberOfTrailingZeros_0f7a4_64 (by decide) (fun c12 => ?_) (fun c12 => ?_)
    rotate_left
    · exact absurd c12 (by decide)
    refine lv_iload_n hx hb dJ6_numberOfTrailingZeros_0f7a4_74 rfl (lv_at hl 0 rfl) ?_
    refine lv_iload_n hx hb dJ6_numberOfTrailingZeros_0f7a4_75 rfl (lv_at hl 1 rfl) ?_
    refine lv_iconst (v := 1) hx hb dJ6_numberOfTrailingZeros_0f7a4_76 (by decide) ?_
    refine lv_iushr (v := 0) hx hb dJ6_numberOfTrailingZeros_0f7a4_77 (by decide) ?_
    refine lv_iadd hx hb dJ6_numberOfTrailingZeros_0f7a4_78 ?_
    refine lv_topi (fun z13 ez13 => ?_)
    obtain rfl : z13 = 1 := ez13.trans (by decide)
    refine W.widen (k := 0) (n := 0) (Nat.le_of_ble_eq_true rfl) (Nat.le_of_ble_eq_true rfl) ?_
    have zi1 : (1 : Int32).toInt = 1 := by decide
    exact W.iret (v := 1) hx hb hr (fun t ht hW => ⟨⟨(1), rfl, ⟨(show ((1 : Int32).toInt = (ctzF (p0.toInt).toNat : Int)) by omega), (show (0 ≤ (1 : Int32).toInt ∧ (1 : Int32).toInt ≤ 11) by omega)⟩, CB.nil⟩, hS.F ht⟩) hS.2.2 dJ6_numberOfTrailingZeros_0f7a4_79
  · obtain rfl : v3 = 3 := by rw [z4a, c5]; decide
    refine lv_iload_n hx hb dJ6_numberOfTrailingZeros_0f7a4_8 rfl (lv_at hl 0 rfl) ?_
    refine lv_if_gt (tgt := 17) hx hb dJ6_numberOfTrailingZeros_0f7a4_9 (by decide) (fun c14 => ?_) (fun c14 => ?_)
    rotate_left
    · exact absurd c14 (by decide)
    refine lv_iconst (v := 1) hx hb dJ6_numberOfTrailingZeros_0f7a4_17 (by decide) ?_
    refine lv_istore_n (lv' := [(1, .int 1), (0, .int 3)]) hx hb dJ6_numberOfTrailingZeros_0f7a4_18 rfl hl (by decide) rfl (fun ls hl => ?_)
    refine lv_iload_n hx hb dJ6_numberOfTrailingZeros_0f7a4_19 rfl (lv_at hl 1 rfl) ?_
    refine lv_ldcw (v := 65536) hx hb hown (hg _ kw_1171) dJ6_numberOfTrailingZeros_0f7a4_20 ?_
    refine lv_icmp_le (tgt := 34) hx hb dJ6_numberOfTrailingZeros_0f7a4_23 (by decide) (fun c15 => ?_) (fun c15 => ?_)
    rotate_left
    · exact absurd c15 (by decide)
    refine lv_iload_n hx hb dJ6_numberOfTrailingZeros_0f7a4_34 rfl (lv_at hl 1 rfl) ?_
    refine lv_sipush (v := 256) hx hb dJ6_numberOfTrailingZeros_0f7a4_35 (by decide) ?_
    refine lv_icmp_le (tgt := 49) hx hb dJ6_numberOfTrailingZeros_0f7a4_38 (by decide) (fun c16 => ?_) (fun c16 => ?_)
    rotate_left
    · exact absurd c16 (by decide)
    refine lv_iload_n hx hb dJ6_numberOfTrailingZeros_0f7a4_49 rfl (lv_at hl 1 rfl) ?_
    refine lv_bipush (v := 16) hx hb dJ6_numberOfTrailingZeros_0f7a4_50 (by decide) ?_
    refine lv_icmp_le (tgt := 62) hx hb dJ6_numberOfTrailingZeros_0f7a4_52 (by decide) (fun c17 => ?_) (fun c17 => ?_)
    rotate_left
    · exact absurd c17 (by decide)
    refine lv_iload_n hx hb dJ6_numberOfTrailingZeros_0f7a4_62 rfl (lv_at hl 1 rfl) ?_
    refine lv_iconst (v := 4) hx hb dJ6_numberOfTrailingZeros_0f7a4_63 (by decide) ?_
    refine lv_icmp_le (tgt := 74) hx hb dJ6_numberOfTrailingZeros_0f7a4_64 (by decide) (fun c18 => ?_) (fun c18 => ?_)
    rotate_left
    · exact absurd c18 (by decide)
    refine lv_iload_n hx hb dJ6_numberOfTrailingZeros_0f7a4_74 rfl (lv_at hl 0 rfl) ?_
    refine lv_iload_n hx hb dJ6_numberOfTrailingZeros_0f7a4_75 rfl (lv_at hl 1 rfl) ?_
    refine lv_iconst (v := 1) hx hb dJ6_numberOfTrailingZeros_0f7a4_76 (by decide) ?_
    refine lv_iushr (v := 1) hx hb dJ6_numberOfTrailingZeros_0f7a4_77 (by decide) ?_
    refine lv_iadd hx hb dJ6_numberOfTrailingZeros_0f7a4_78 ?_
    refine lv_topi (fun z19 ez19 => ?_)
    obtain rfl : z19 = 2 := ez19.trans (by decide)
    refine W.widen (k := 0) (n := 0) (Nat.le_of_ble_eq_true rfl) (Nat.le_of_ble_eq_true rfl) ?_
    have zi2 : (2 : Int32).toInt = 2 := by decide
    have zi1 : (1 : Int32).toInt = 1 := by decide
    exact W.iret (v := 2) hx hb hr (fun t ht hW => ⟨⟨(2), rfl, ⟨(show ((2 : Int32).toInt = (ctzF (p0.toInt).toNat : Int)) by omega), (show (0 ≤ (2 : Int32).toInt ∧ (2 : Int32).toInt ≤ 11) by omega)⟩, CB.nil⟩, hS.F ht⟩) hS.2.2 dJ6_numberOfTrailingZeros_0f7a4_79
  · obtain rfl : v3 = 7 := by rw [z4a, c5]; decide
    refine lv_iload_n hx hb dJ6_numberOfTrailingZeros_0f7a4_8 rfl (lv_at hl 0 rfl) ?_
    refine lv_if_gt (tgt := 17) hx hb dJ6_numberOfTrailingZeros_0f7a4_9 (by decide) (fun c20 => ?_) (fun c20 => ?_)
    rotate_left
    · exact absurd c20 (by decide)
    refine lv_iconst (v := 1) hx hb dJ6_numberOfTrailingZeros_0f7a4_17 (by decide) ?_
    refine lv_istore_n (lv' := [(1, .int 1), (0, .int 7)]) hx hb dJ6_numberOfTrailingZeros_0f7a4_18 rfl hl (by decide) rfl (fun ls hl => ?_)
    refine lv_iload_n hx hb dJ6_numberOfTrailingZeros_0f7a4_19 rfl (lv_at hl 1 rfl) ?_
    refine lv_ldcw (v := 65536) hx hb hown (hg _ kw_1171) dJ6_numberOfTrailingZeros_0f7a4_20 ?_
    refine lv_icmp_le (tgt := 34) hx hb dJ6_numberOfTrailingZeros_0f7a4_23 (by decide) (fun c21 => ?_) (fun c21 => ?_)
    rotate_left
    · exact absurd c21 (by decide)
    refine lv_iload_n hx hb dJ6_numberOfTrailingZeros_0f7a4_34 rfl (lv_at hl 1 rfl) ?_
    refine lv_sipush (v := 256) hx hb dJ6_numberOfTrailingZeros_0f7a4_35 (by decide) ?_
    refine lv_icmp_le (tgt := 49) hx hb dJ6_numberOfTrailingZeros_0f7a4_38 (by decide) (fun c22 => ?_) (fun c22 => ?_)
    rotate_left
    · exact absurd c22 (by decide)
    refine lv_iload_n hx hb dJ6_numberOfTrailingZeros_0f7a4_49 rfl (lv_at hl 1 rfl) ?_
    refine lv_bipush (v := 16) hx hb dJ6_numberOfTrailingZeros_0f7a4_50 (by decide) ?_
    refine lv_icmp_le (tgt := 62) hx hb dJ6_numberOfTrailingZeros_0f7a4_52 (by decide) (fun c23 => ?_) (fun c23 => ?_)
    rotate_left
    · exact absurd c23 (by decide)
    refine lv_iload_n hx hb dJ6_numberOfTrailingZeros_0f7a4_62 rfl (lv_at hl 1 rfl) ?_
    refine lv_iconst (v := 4) hx hb dJ6_numberOfTrailingZeros_0f7a4_63 (by decide) ?_
    refine lv_icmp_le (tgt := 74) hx hb dJ6_numberOfTrailingZeros_0f7a4_64 (by decide) (fun c24 => ?_) (fun c24 => ?_)
    · exact absurd c24 (by decide)
    refine lv_iinc (v := 3) (lv' := [(1, .int 3), (0, .int 7)]) hx hb dJ6_numberOfTrailingZeros_0f7a4_67 hl (k := 0) rfl (by decide) (by decide) rfl (fun ls hl => ?_)
    refine lv_iload_n hx hb dJ6_numberOfTrailingZeros_0f7a4_70 rfl (lv_at hl 1 rfl) ?_
    refine lv_iconst (v := 2) hx hb dJ6_numberOfTrailingZeros_0f7a4_71 (by decide) ?_
    refine lv_iushr (v := 1) hx hb dJ6_numberOfTrailingZeros_0f7a4_72 (by decide) ?_
    refine lv_istore_n (lv' := [(0, .int 1), (1, .int 3)]) hx hb dJ6_numberOfTrailingZeros_0f7a4_73 rfl hl (by decide) rfl (fun ls hl => ?_)
    refine lv_iload_n hx hb dJ6_numberOfTrailingZeros_0f7a4_74 rfl (lv_at hl 1 rfl) ?_
    refine lv_iload_n hx hb dJ6_numberOfTrailingZeros_0f7a4_75 rfl (lv_at hl 0 rfl) ?_
    refine lv_iconst (v := 1) hx hb dJ6_numberOfTrailingZeros_0f7a4_76 (by decide) ?_
    refine lv_iushr (v := 0) hx hb dJ6_numberOfTrailingZeros_0f7a4_77 (by decide) ?_
    refine lv_iadd hx hb dJ6_numberOfTrailingZeros_0f7a4_78 ?_
    refine lv_topi (fun z25 ez25 => ?_)
    obtain rfl : z25 = 3 := ez25.trans (by decide)
    refine W.widen (k := 0) (n := 0) (Nat.le_of_ble_eq_true rfl) (Nat.le_of_ble_eq_true rfl) ?_
    have zi3 : (3 : Int32).toInt = 3 := by decide
    exact W.iret (v := 3) hx hb hr (fun t ht hW => ⟨⟨(3), rfl, ⟨(show ((3 : Int32).toInt = (ctzF (p0.toInt).toNat : Int)) by omega), (show (0 ≤ (3 : Int32).toInt ∧ (3 : Int32).toInt ≤ 11) by omega)⟩, CB.nil⟩, hS.F ht⟩) hS.2.2 dJ6_numberOfTrailingZeros_0f7a4_79
  · obtain rfl : v3 = 15 := by rw [z4a, c5]; decide
    refine lv_iload_n hx hb dJ6_numberOfTrailingZeros_0f7a4_8 rfl (lv_at hl 0 rfl) ?_
    refine lv_if_gt (tgt := 17) hx hb dJ6_numberOfTrailingZeros_0f7a4_9 (by decide) (fun c26 => ?_) (fun c26 => ?_)
    rotate_left
    · exact absurd c26 (by decide)
    refine lv_iconst (v := 1) hx hb dJ6_numberOfTrailingZeros_0f7a4_17 (by decide) ?_
    refine lv_istore_n (lv' := [(1, .int 1), (0, .int 15)]) hx hb dJ6_numberOfTrailingZeros_0f7a4_18 rfl hl (by decide) rfl (fun ls hl => ?_)
    refine lv_iload_n hx hb dJ6_numberOfTrailingZeros_0f7a4_19 rfl (lv_at hl 1 rfl) ?_
    refine lv_ldcw (v := 65536) hx hb hown (hg _ kw_1171) dJ6_numberOfTrailingZeros_0f7a4_20 ?_
    refine lv_icmp_le (tgt := 34) hx hb dJ6_numberOfTrailingZeros_0f7a4_23 (by decide) (fun c27 => ?_) (fun c27 => ?_)
    rotate_left
    · exact absurd c27 (by decide)
    refine lv_iload_n hx hb dJ6_numberOfTrailingZeros_0f7a4_34 rfl (lv_at hl 1 rfl) ?_
    refine lv_sipush (v := 256) hx hb dJ6_numberOfTrailingZeros_0f7a4_35 (by decide) ?_
    refine lv_icmp_le (tgt := 49) hx hb dJ6_numberOfTrailingZeros_0f7a4_38 (by decide) (fun c28 => ?_) (fun c28 => ?_)
    rotate_left
    · exact absurd c28 (by decide)
    refine lv_iload_n hx hb dJ6_numberOfTrailingZeros_0f7a4_49 rfl (lv_at hl 1 rfl) ?_
    refine lv_bipush (v := 16) hx hb dJ6_numberOfTrailingZeros_0f7a4_50 (by decide) ?_
    refine lv_icmp_le (tgt := 62) hx hb dJ6_numberOfTrailingZeros_0f7a4_52 (by decide) (fun c29 => ?_) (fun c29 => ?_)
    rotate_left
    · exact absurd c29 (by decide)
    refine lv_iload_n hx hb dJ6_numberOfTrailingZeros_0f7a4_62 rfl (lv_at hl 1 rfl) ?_
    refine lv_iconst (v := 4) hx hb dJ6_numberOfTrailingZeros_0f7a4_63 (by decide) ?_
    refine lv_icmp_le (tgt := 74) hx hb dJ6_numberOfTrailingZeros_0f7a4_64 (by decide) (fun c30 => ?_) (fun c30 => ?_)
    · exact absurd c30 (by decide)
    refine lv_iinc (v := 3) (lv' := [(1, .int 3), (0, .int 15)]) hx hb dJ6_numberOfTrailingZeros_0f7a4_67 hl (k := 0) rfl (by decide) (by decide) rfl (fun ls hl => ?_)
    refine lv_iload_n hx hb dJ6_numberOfTrailingZeros_0f7a4_70 rfl (lv_at hl 1 rfl) ?_
    refine lv_iconst (v := 2) hx hb dJ6_numberOfTrailingZeros_0f7a4_71 (by decide) ?_
    refine lv_iushr (v := 3) hx hb dJ6_numberOfTrailingZeros_0f7a4_72 (by decide) ?_
    refine lv_istore_n (lv' := [(0, .int 3), (1, .int 3)]) hx hb dJ6_numberOfTrailingZeros_0f7a4_73 rfl hl (by decide) rfl (fun ls hl => ?_)
    refine lv_iload_n hx hb dJ6_numberOfTrailingZeros_0f7a4_74 rfl (lv_at hl 1 rfl) ?_
    refine lv_iload_n hx hb dJ6_numberOfTrailingZeros_0f7a4_75 rfl (lv_at hl 0 rfl) ?_
    refine lv_iconst (v := 1) hx hb dJ6_numberOfTrailingZeros_0f7a4_76 (by decide) ?_
    refine lv_iushr (v := 1) hx hb dJ6_numberOfTrailingZeros_0f7a4_77 (by decide) ?_
    refine lv_iadd hx hb dJ6_numberOfTrailingZeros_0f7a4_78 ?_
    refine lv_topi (fun z31 ez31 => ?_)
    obtain rfl : z31 = 4 := ez31.trans (by decide)
    refine W.widen (k := 0) (n := 0) (Nat.le_of_ble_eq_true rfl) (Nat.le_of_ble_eq_true rfl) ?_
    have zi4 : (4 : Int32).toInt = 4 := by decide
    have zi3 : (3 : Int32).toInt = 3 := by decide
    exact W.iret (v := 4) hx hb hr (fun t ht hW => ⟨⟨(4), rfl, ⟨(show ((4 : Int32).toInt = (ctzF (p0.toInt).toNat : Int)) by omega), (show (0 ≤ (4 : Int32).toInt ∧ (4 : Int32).toInt ≤ 11) by omega)⟩, CB.nil⟩, hS.F ht⟩) hS.2.2 dJ6_numberOfTrailingZeros_0f7a4_79
  · obtain rfl : v3 = 31 := by rw [z4a, c5]; decide
    refine lv_iload_n hx hb dJ6_numberOfTrailingZeros_0f7a4_8 rfl (lv_at hl 0 rfl) ?_
    refine lv_if_gt (tgt := 17) hx hb dJ6_numberOfTrailingZeros_0f7a4_9 (by decide) (fun c32 => ?_) (fun c32 => ?_)
    rotate_left
    · exact absurd c32 (by decide)
    refine lv_iconst (v := 1) hx hb dJ6_numberOfTrailingZeros_0f7a4_17 (by decide) ?_
    refine lv_istore_n (lv' := [(1, .int 1), (0, .int 31)]) hx hb dJ6_numberOfTrailingZeros_0f7a4_18 rfl hl (by decide) rfl (fun ls hl => ?_)
    refine lv_iload_n hx hb dJ6_numberOfTrailingZeros_0f7a4_19 rfl (lv_at hl 1 rfl) ?_
    refine lv_ldcw (v := 65536) hx hb hown (hg _ kw_1171) dJ6_numberOfTrailingZeros_0f7a4_20 ?_
    refine lv_icmp_le (tgt := 34) hx hb dJ6_numberOfTrailingZeros_0f7a4_23 (by decide) (fun c33 => ?_) (fun c33 => ?_)
    rotate_left
    · exact absurd c33 (by decide)
    refine lv_iload_n hx hb dJ6_numberOfTrailingZeros_0f7a4_34 rfl (lv_at hl 1 rfl) ?_
    refine lv_sipush (v := 256) hx hb dJ6_numberOfTrailingZeros_0f7a4_35 (by decide) ?_
    refine lv_icmp_le (tgt := 49) hx hb dJ6_numberOfTrailingZeros_0f7a4_38 (by decide) (fun c34 => ?_) (fun c34 => ?_)
    rotate_left
    · exact absurd c34 (by decide)
    refine lv_iload_n hx hb dJ6_numberOfTrailingZeros_0f7a4_49 rfl (lv_at hl 1 rfl) ?_
    refine lv_bipush (v := 16) hx hb dJ6_numberOfTrailingZeros_0f7a4_50 (by decide) ?_
    refine lv_icmp_le (tgt := 62) hx hb dJ6_numberOfTrailingZeros_0f7a4_52 (by decide) (fun c35 => ?_) (fun c35 => ?_)
    · exact absurd c35 (by decide)
    refine lv_iinc (v := 5) (lv' := [(1, .int 5), (0, .int 31)]) hx hb dJ6_numberOfTrailingZeros_0f7a4_55 hl (k := 0) rfl (by decide) (by decide) rfl (fun ls hl => ?_)
    refine lv_iload_n hx hb dJ6_numberOfTrailingZeros_0f7a4_58 rfl (lv_at hl 1 rfl) ?_
    refine lv_iconst (v := 4) hx hb dJ6_numberOfTrailingZeros_0f7a4_59 (by decide) ?_
    refine lv_iushr (v := 1) hx hb dJ6_numberOfTrailingZeros_0f7a4_60 (by decide) ?_
    refine lv_istore_n (lv' := [(0, .int 1), (1, .int 5)]) hx hb dJ6_numberOfTrailingZeros_0f7a4_61 rfl hl (by decide) rfl (fun ls hl => ?_)
    refine lv_iload_n hx hb dJ6_numberOfTrailingZeros_0f7a4_62 rfl (lv_at hl 0 rfl) ?_
    refine lv_iconst (v := 4) hx hb dJ6_numberOfTrailingZeros_0f7a4_63 (by decide) ?_
    refine lv_icmp_le (tgt := 74) hx hb dJ6_numberOfTrailingZeros_0f7a4_64 (by decide) (fun c36 => ?_) (fun c36 => ?_)
    rotate_left
    · exact absurd c36 (by decide)
    refine lv_iload_n hx hb dJ6_numberOfTrailingZeros_0f7a4_74 rfl (lv_at hl 1 rfl) ?_
    refine lv_iload_n hx hb dJ6_numberOfTrailingZeros_0f7a4_75 rfl (lv_at hl 0 rfl) ?_
    refine lv_iconst (v := 1) hx hb dJ6_numberOfTrailingZeros_0f7a4_76 (by decide) ?_
    refine lv_iushr (v := 0) hx hb dJ6_numberOfTrailingZeros_0f7a4_77 (by decide) ?_
    refine lv_iadd hx hb dJ6_numberOfTrailingZeros_0f7a4_78 ?_
    refine lv_topi (fun z37 ez37 => ?_)
    obtain rfl : z37 = 5 := ez37.trans (by decide)
    refine W.widen (k := 0) (n := 0) (Nat.le_of_ble_eq_true rfl) (Nat.le_of_ble_eq_true rfl) ?_
    have zi5 : (5 : Int32).toInt = 5 := by decide
    exact W.iret (v := 5) hx hb hr (fun t ht hW => ⟨⟨(5), rfl, ⟨(show ((5 : Int32).toInt = (ctzF (p0.toInt).toNat : Int)) by omega), (show (0 ≤ (5 : Int32).toInt ∧ (5 : Int32).toInt ≤ 11) by omega)⟩, CB.nil⟩, hS.F ht⟩) hS.2.2 dJ6_numberOfTrailingZeros_0f7a4_79
  · obtain rfl : v3 = 63 := by rw [z4a, c5]; decide
    refine lv_iload_n hx hb dJ6_numberOfTrailingZeros_0f7a4_8 rfl (lv_at hl 0 rfl) ?_
    refine lv_if_gt (tgt := 17) hx hb dJ6_numberOfTrailingZeros_0f7a4_9 (by decide) (fun c38 => ?_) (fun c38 => ?_)
    rotate_left
    · exact absurd c38 (by decide)
    refine lv_iconst (v := 1) hx hb dJ6_numberOfTrailingZeros_0f7a4_17 (by decide) ?_
    refine lv_istore_n (lv' := [(1, .int 1), (0, .int 63)]) hx hb dJ6_numberOfTrailingZeros_0f7a4_18 rfl hl (by decide) rfl (fun ls hl => ?_)
    refine lv_iload_n hx hb dJ6_numberOfTrailingZeros_0f7a4_19 rfl (lv_at hl 1 rfl) ?_
    refine lv_ldcw (v := 65536) hx hb hown (hg _ kw_1171) dJ6_numberOfTrailingZeros_0f7a4_20 ?_
    refine lv_icmp_le (tgt := 34) hx hb dJ6_numberOfTrailingZeros_0f7a4_23 (by decide) (fun c39 => ?_) (fun c39 => ?_)
    rotate_left
    · exact absurd c39 (by decide)
    refine lv_iload_n hx hb dJ6_numberOfTrailingZeros_0f7a4_34 rfl (lv_at hl 1 rfl) ?_
    refine lv_sipush (v := 256) hx hb dJ6_numberOfTrailingZeros_0f7a4_35 (by decide) ?_
    refine lv_icmp_le (tgt := 49) hx hb dJ6_numberOfTrailingZeros_0f7a4_38 (by decide) (fun c40 => ?_) (fun c40 => ?_)
    rotate_left
    · exact absurd c40 (by decide)
    refine lv_iload_n hx hb dJ6_numberOfTrailingZeros_0f7a4_49 rfl (lv_at hl 1 rfl) ?_
    refine lv_bipush (v := 16) hx hb dJ6_numberOfTrailingZeros_0f7a4_50 (by decide) ?_
    refine lv_icmp_le (tgt := 62) hx hb dJ6_numberOfTrailingZeros_0f7a4_52 (by decide) (fun c41 => ?_) (fun c41 => ?_)
    · exact absurd c41 (by decide)
    refine lv_iinc (v := 5) (lv' := [(1, .int 5), (0, .int 63)]) hx hb dJ6_numberOfTrailingZeros_0f7a4_55 hl (k := 0) rfl (by decide) (by decide) rfl (fun ls hl => ?_)
    refine lv_iload_n hx hb dJ6_numberOfTrailingZeros_0f7a4_58 rfl (lv_at hl 1 rfl) ?_
    refine lv_iconst (v := 4) hx hb dJ6_numberOfTrailingZeros_0f7a4_59 (by decide) ?_
    refine lv_iushr (v := 3) hx hb dJ6_numberOfTrailingZeros_0f7a4_60 (by decide) ?_
    refine lv_istore_n (lv' := [(0, .int 3), (1, .int 5)]) hx hb dJ6_numberOfTrailingZeros_0f7a4_61 rfl hl (by decide) rfl (fun ls hl => ?_)
    refine lv_iload_n hx hb dJ6_numberOfTrailingZeros_0f7a4_62 rfl (lv_at hl 0 rfl) ?_
    refine lv_iconst (v := 4) hx hb dJ6_numberOfTrailingZeros_0f7a4_63 (by decide) ?_
    refine lv_icmp_le (tgt := 74) hx hb dJ6_numberOfTrailingZeros_0f7a4_64 (by decide) (fun c42 => ?_) (fun c42 => ?_)
    rotate_left
    · exact absurd c42 (by decide)
    refine lv_iload_n hx hb dJ6_numberOfTrailingZeros_0f7a4_74 rfl (lv_at hl 1 rfl) ?_
    refine lv_iload_n hx hb dJ6_numberOfTrailingZeros_0f7a4_75 rfl (lv_at hl 0 rfl) ?_
    refine lv_iconst (v := 1) hx hb dJ6_numberOfTrailingZeros_0f7a4_76 (by decide) ?_
    refine lv_iushr (v := 1) hx hb dJ6_numberOfTrailingZeros_0f7a4_77 (by decide) ?_
    refine lv_iadd hx hb dJ6_numberOfTrailingZeros_0f7a4_78 ?_
    refine lv_topi (fun z43 ez43 => ?_)
    obtain rfl : z43 = 6 := ez43.trans (by decide)
    refine W.widen (k := 0) (n := 0) (Nat.le_of_ble_eq_true rfl) (Nat.le_of_ble_eq_true rfl) ?_
    have zi6 : (6 : Int32).toInt = 6 := by decide
    have zi5 : (5 : Int32).toInt = 5 := by decide
    exact W.iret (v := 6) hx hb hr (fun t ht hW => ⟨⟨(6), rfl, ⟨(show ((6 : Int32).toInt = (ctzF (p0.toInt).toNat : Int)) by omega), (show (0 ≤ (6 : Int32).toInt ∧ (6 : Int32).toInt ≤ 11) by omega)⟩, CB.nil⟩, hS.F ht⟩) hS.2.2 dJ6_numberOfTrailingZeros_0f7a4_79
  · obtain rfl : v3 = 127 := by rw [z4a, c5]; decide
    refine lv_iload_n hx hb dJ6_numberOfTrailingZeros_0f7a4_8 rfl (lv_at hl 0 rfl) ?_
    refine lv_if_gt (tgt := 17) hx hb dJ6_numberOfTrailingZeros_0f7a4_9 (by decide) (fun c44 => ?_) (fun c44 => ?_)
    rotate_left
    · exact absurd c44 (by decide)
    refine lv_iconst (v := 1) hx hb dJ6_numberOfTrailingZeros_0f7a4_17 (by decide) ?_
    refine lv_istore_n (lv' := [(1, .int 1), (0, .int 127)]) hx hb dJ6_numberOfTrailingZeros_0f7a4_18 rfl hl (by decide) rfl (fun ls hl => ?_)
    refine lv_iload_n hx hb dJ6_numberOfTrailingZeros_0f7a4_19 rfl (lv_at hl 1 rfl) ?_
    refine lv_ldcw (v := 65536) hx hb hown (hg _ kw_1171) dJ6_numberOfTrailingZeros_0f7a4_20 ?_
    refine lv_icmp_le (tgt := 34) hx hb dJ6_numberOfTrailingZeros_0f7a4_23 (by decide) (fun c45 => ?_) (fun c45 => ?_)
    rotate_left
    · exact absurd c45 (by decide)
    refine lv_iload_n hx hb dJ6_numberOfTrailingZeros_0f7a4_34 rfl (lv_at hl 1 rfl) ?_
    refine lv_sipush (v := 256) hx hb dJ6_numberOfTrailingZeros_0f7a4_35 (by decide) ?_
    refine lv_icmp_le (tgt := 49) hx hb dJ6_numberOfTrailingZeros_0f7a4_38 (by decide) (fun c46 => ?_) (fun c46 => ?_)
    rotate_left
    · exact absurd c46 (by decide)
    refine lv_iload_n hx hb dJ6_numberOfTrailingZeros_0f7a4_49 rfl (lv_at hl 1 rfl) ?_
    refine lv_bipush (v := 16) hx hb dJ6_numberOfTrailingZeros_0f7a4_50 (by decide) ?_
    refine lv_icmp_le (tgt := 62) hx hb dJ6_numberOfTrailingZeros_0f7a4_52 (by decide) (fun c47 => ?_) (fun c47 => ?_)
    · exact absurd c47 (by decide)
    refine lv_iinc (v := 5) (lv' := [(1, .int 5), (0, .int 127)]) hx hb dJ6_numberOfTrailingZeros_0f7a4_55 hl (k := 0) rfl (by decide) (by decide) rfl (fun ls hl => ?_)
    refine lv_iload_n hx hb dJ6_numberOfTrailingZeros_0f7a4_58 rfl (lv_at hl 1 rfl) ?_
    refine lv_iconst (v := 4) hx hb dJ6_numberOfTrailingZeros_0f7a4_59 (by decide) ?_
    refine lv_iushr (v := 7) hx hb dJ6_numberOfTrailingZeros_0f7a4_60 (by decide) ?_
    refine lv_istore_n (lv' := [(0, .int 7), (1, .int 5)]) hx hb dJ6_numberOfTrailingZeros_0f7a4_61 rfl hl (by decide) rfl (fun ls hl => ?_)
    refine lv_iload_n hx hb dJ6_numberOfTrailingZeros_0f7a4_62 rfl (lv_at hl 0 rfl) ?_
    refine lv_iconst (v := 4) hx hb dJ6_numberOfTrailingZeros_0f7a4_63 (by decide) ?_
    refine lv_icmp_le (tgt := 74) hx hb dJ6_numberOfTrailingZeros_0f7a4_64 (by decide) (fun c48 => ?_) (fun c48 => ?_)
    · exact absurd c48 (by decide)
    refine lv_iinc (v := 7) (lv' := [(1, .int 7), (0, .int 7)]) hx hb dJ6_numberOfTrailingZeros_0f7a4_67 hl (k := 1) rfl (by decide) (by decide) rfl (fun ls hl => ?_)
    refine lv_iload_n hx hb dJ6_numberOfTrailingZeros_0f7a4_70 rfl (lv_at hl 1 rfl) ?_
    refine lv_iconst (v := 2) hx hb dJ6_numberOfTrailingZeros_0f7a4_71 (by decide) ?_
    refine lv_iushr (v := 1) hx hb dJ6_numberOfTrailingZeros_0f7a4_72 (by decide) ?_
    refine lv_istore_n (lv' := [(0, .int 1), (1, .int 7)]) hx hb dJ6_numberOfTrailingZeros_0f7a4_73 rfl hl (by decide) rfl (fun ls hl => ?_)
    refine lv_iload_n hx hb dJ6_numberOfTrailingZeros_0f7a4_74 rfl (lv_at hl 1 rfl) ?_
    refine lv_iload_n hx hb dJ6_numberOfTrailingZeros_0f7a4_75 rfl (lv_at hl 0 rfl) ?_
    refine lv_iconst (v := 1) hx hb dJ6_numberOfTrailingZeros_0f7a4_76 (by decide) ?_
    refine lv_iushr (v := 0) hx hb dJ6_numberOfTrailingZeros_0f7a4_77 (by decide) ?_
    refine lv_iadd hx hb dJ6_numberOfTrailingZeros_0f7a4_78 ?_
    refine lv_topi (fun z49 ez49 => ?_)
    obtain rfl : z49 = 7 := ez49.trans (by decide)
    refine W.widen (k := 0) (n := 0) (Nat.le_of_ble_eq_true rfl) (Nat.le_of_ble_eq_true rfl) ?_
    have zi7 : (7 : Int32).toInt = 7 := by decide
    exact W.iret (v := 7) hx hb hr (fun t ht hW => ⟨⟨(7), rfl, ⟨(show ((7 : Int32).toInt = (ctzF (p0.toInt).toNat : Int)) by omega), (show (0 ≤ (7 : Int32).toInt ∧ (7 : Int32).toInt ≤ 11) by omega)⟩, CB.nil⟩, hS.F ht⟩) hS.2.2 dJ6_numberOfTrailingZeros_0f7a4_79
  · obtain rfl : v3 = 255 := by rw [z4a, c5]; decide
    refine lv_iload_n hx hb dJ6_numberOfTrailingZeros_0f7a4_8 rfl (lv_at hl 0 rfl) ?_
    refine lv_if_gt (tgt := 17) hx hb dJ6_numberOfTrailingZeros_0f7a4_9 (by decide) (fun c50 => ?_) (fun c50 => ?_)
    rotate_left
    · exact absurd c50 (by decide)
    refine lv_iconst (v := 1) hx hb dJ6_numberOfTrailingZeros_0f7a4_17 (by decide) ?_
    refine lv_istore_n (lv' := [(1, .int 1), (0, .int 255)]) hx hb dJ6_numberOfTrailingZeros_0f7a4_18 rfl hl (by decide) rfl (fun ls hl => ?_)
    refine lv_iload_n hx hb dJ6_numberOfTrailingZeros_0f7a4_19 rfl (lv_at hl 1 rfl) ?_
    refine lv_ldcw (v := 65536) hx hb hown (hg _ kw_1171) dJ6_numberOfTrailingZeros_0f7a4_20 ?_
    refine lv_icmp_le (tgt := 34) hx hb dJ6_numberOfTrailingZeros_0f7a4_23 (by decide) (fun c51 => ?_) (fun c51 => ?_)
    rotate_left
    · exact absurd c51 (by decide)
    refine lv_iload_n hx hb dJ6_numberOfTrailingZeros_0f7a4_34 rfl (lv_at hl 1 rfl) ?_
    refine lv_sipush (v := 256) hx hb dJ6_numberOfTrailingZeros_0f7a4_35 (by decide) ?_
    refine lv_icmp_le (tgt := 49) hx hb dJ6_numberOfTrailingZeros_0f7a4_38 (by decide) (fun c52 => ?_) (fun c52 => ?_)
    rotate_left
    · exact absurd c52 (by decide)
    refine lv_iload_n hx hb dJ6_numberOfTrailingZeros_0f7a4_49 rfl (lv_at hl 1 rfl) ?_
    refine lv_bipush (v := 16) hx hb dJ6_numberOfTrailingZeros_0f7a4_50 (by decide) ?_
    refine lv_icmp_le (tgt := 62) hx hb dJ6_numberOfTrailingZeros_0f7a4_52 (by decide) (fun c53 => ?_) (fun c53 => ?_)
    · exact absurd c53 (by decide)
    refine lv_iinc (v := 5) (lv' := [(1, .int 5), (0, .int 255)]) hx hb dJ6_numberOfTrailingZeros_0f7a4_55 hl (k := 0) rfl (by decide) (by decide) rfl (fun ls hl => ?_)
    refine lv_iload_n hx hb dJ6_numberOfTrailingZeros_0f7a4_58 rfl (lv_at hl 1 rfl) ?_
    refine lv_iconst (v := 4) hx hb dJ6_numberOfTrailingZeros_0f7a4_59 (by decide) ?_
    refine lv_iushr (v := 15) hx hb dJ6_numberOfTrailingZeros_0f7a4_60 (by decide) ?_
    refine lv_istore_n (lv' := [(0, .int 15), (1, .int 5)]) hx hb dJ6_numberOfTrailingZeros_0f7a4_61 rfl hl (by decide) rfl (fun ls hl => ?_)
    refine lv_iload_n hx hb dJ6_numberOfTrailingZeros_0f7a4_62 rfl (lv_at hl 0 rfl) ?_
    refine lv_iconst (v := 4) hx hb dJ6_numberOfTrailingZeros_0f7a4_63 (by decide) ?_
    refine lv_icmp_le (tgt := 74) hx hb dJ6_numberOfTrailingZeros_0f7a4_64 (by decide) (fun c54 => ?_) (fun c54 => ?_)
    · exact absurd c54 (by decide)
    refine lv_iinc (v := 7) (lv' := [(1, .int 7), (0, .int 15)]) hx hb dJ6_numberOfTrailingZeros_0f7a4_67 hl (k := 1) rfl (by decide) (by decide) rfl (fun ls hl => ?_)
    refine lv_iload_n hx hb dJ6_numberOfTrailingZeros_0f7a4_70 rfl (lv_at hl 1 rfl) ?_
    refine lv_iconst (v := 2) hx hb dJ6_numberOfTrailingZeros_0f7a4_71 (by decide) ?_
    refine lv_iushr (v := 3) hx hb dJ6_numberOfTrailingZeros_0f7a4_72 (by decide) ?_
    refine lv_istore_n (lv' := [(0, .int 3), (1, .int 7)]) hx hb dJ6_numberOfTrailingZeros_0f7a4_73 rfl hl (by decide) rfl (fun ls hl => ?_)
    refine lv_iload_n hx hb dJ6_numberOfTrailingZeros_0f7a4_74 rfl (lv_at hl 1 rfl) ?_
    refine lv_iload_n hx hb dJ6_numberOfTrailingZeros_0f7a4_75 rfl (lv_at hl 0 rfl) ?_
    refine lv_iconst (v := 1) hx hb dJ6_numberOfTrailingZeros_0f7a4_76 (by decide) ?_
    refine lv_iushr (v := 1) hx hb dJ6_numberOfTrailingZeros_0f7a4_77 (by decide) ?_
    refine lv_iadd hx hb dJ6_numberOfTrailingZeros_0f7a4_78 ?_
    refine lv_topi (fun z55 ez55 => ?_)
    obtain rfl : z55 = 8 := ez55.trans (by decide)
    refine W.widen (k := 0) (n := 0) (Nat.le_of_ble_eq_true rfl) (Nat.le_of_ble_eq_true rfl) ?_
    have zi8 : (8 : Int32).toInt = 8 := by decide
    have zi7 : (7 : Int32).toInt = 7 := by decide
    exact W.iret (v := 8) hx hb hr (fun t ht hW => ⟨⟨(8), rfl, ⟨(show ((8 : Int32).toInt = (ctzF (p0.toInt).toNat : Int)) by omega), (show (0 ≤ (8 : Int32).toInt ∧ (8 : Int32).toInt ≤ 11) by omega)⟩, CB.nil⟩, hS.F ht⟩) hS.2.2 dJ6_numberOfTrailingZeros_0f7a4_79
  · obtain rfl : v3 = 511 := by rw [z4a, c5]; decide
    refine lv_iload_n hx hb dJ6_numberOfTrailingZeros_0f7a4_8 rfl (lv_at hl 0 rfl) ?_
    refine lv_if_gt (tgt := 17) hx hb dJ6_numberOfTrailingZeros_0f7a4_9 (by decide) (fun c56 => ?_) (fun c56 => ?_)
    rotate_left
    · exact absurd c56 (by decide)
    refine lv_iconst (v := 1) hx hb dJ6_numberOfTrailingZeros_0f7a4_17 (by decide) ?_
    refine lv_istore_n (lv' := [(1, .int 1), (0, .int 511)]) hx hb dJ6_numberOfTrailingZeros_0f7a4_18 rfl hl (by decide) rfl (fun ls hl => ?_)
    refine lv_iload_n hx hb dJ6_numberOfTrailingZeros_0f7a4_19 rfl (lv_at hl 1 rfl) ?_
    refine lv_ldcw (v := 65536) hx hb hown (hg _ kw_1171) dJ6_numberOfTrailingZeros_0f7a4_20 ?_
    refine lv_icmp_le (tgt := 34) hx hb dJ6_numberOfTrailingZeros_0f7a4_23 (by decide) (fun c57 => ?_) (fun c57 => ?_)
    rotate_left
    · exact absurd c57 (by decide)
    refine lv_iload_n hx hb dJ6_numberOfTrailingZeros_0f7a4_34 rfl (lv_at hl 1 rfl) ?_
    refine lv_sipush (v := 256) hx hb dJ6_numberOfTrailingZeros_0f7a4_35 (by decide) ?_
    refine lv_icmp_le (tgt := 49) hx hb dJ6_numberOfTrailingZeros_0f7a4_38 (by decide) (fun c58 => ?_) (fun c58 => ?_)
    · exact absurd c58 (by decide)
    refine lv_iinc (v := 9) (lv' := [(1, .int 9), (0, .int 511)]) hx hb dJ6_numberOfTrailingZeros_0f7a4_41 hl (k := 0) rfl (by decide) (by decide) rfl (fun ls hl => ?_)
    refine lv_iload_n hx hb dJ6_numberOfTrailingZeros_0f7a4_44 rfl (lv_at hl 1 rfl) ?_
    refine lv_bipush (v := 8) hx hb dJ6_numberOfTrailingZeros_0f7a4_45 (by decide) ?_
    refine lv_iushr (v := 1) hx hb dJ6_numberOfTrailingZeros_0f7a4_47 (by decide) ?_
    refine lv_istore_n (lv' := [(0, .int 1), (1, .int 9)]) hx hb dJ6_numberOfTrailingZeros_0f7a4_48 rfl hl (by decide) rfl (fun ls hl => ?_)
    refine lv_iload_n hx hb dJ6_numberOfTrailingZeros_0f7a4_49 rfl (lv_at hl 0 rfl) ?_
    refine lv_bipush (v := 16) hx hb dJ6_numberOfTrailingZeros_0f7a4_50 (by decide) ?_
    refine lv_icmp_le (tgt := 62) hx hb dJ6_numberOfTrailingZeros_0f7a4_52 (by decide) (fun c59 => ?_) (fun c59 => ?_)
    rotate_left
    · exact absurd c59 (by decide)
    refine lv_iload_n hx hb dJ6_numberOfTrailingZeros_0f7a4_62 rfl (lv_at hl 0 rfl) ?_
    refine lv_iconst (v := 4) hx hb dJ6_numberOfTrailingZeros_0f7a4_63 (by decide) ?_
    refine lv_icmp_le (tgt := 74) hx hb dJ6_numberOfTrailingZeros_0f7a4_64 (by decide) (fun c60 => ?_) (fun c60 => ?_)
    rotate_left
    · exact absurd c60 (by decide)
    refine lv_iload_n hx hb dJ6_numberOfTrailingZeros_0f7a4_74 rfl (lv_at hl 1 rfl) ?_
    refine lv_iload_n hx hb dJ6_numberOfTrailingZeros_0f7a4_75 rfl (lv_at hl 0 rfl) ?_
    refine lv_iconst (v := 1) hx hb dJ6_numberOfTrailingZeros_0f7a4_76 (by decide) ?_
    refine lv_iushr (v := 0) hx hb dJ6_numberOfTrailingZeros_0f7a4_77 (by decide) ?_
    refine lv_iadd hx hb dJ6_numberOfTrailingZeros_0f7a4_78 ?_
    refine lv_topi (fun z61 ez61 => ?_)
    obtain rfl : z61 = 9 := ez61.trans (by decide)
    refine W.widen (k := 0) (n := 0) (Nat.le_of_ble_eq_true rfl) (Nat.le_of_ble_eq_true rfl) ?_
    have zi9 : (9 : Int32).toInt = 9 := by decide
    exact W.iret (v := 9) hx hb hr (fun t ht hW => ⟨⟨(9), rfl, ⟨(show ((9 : Int32).toInt = (ctzF (p0.toInt).toNat : Int)) by omega), (show (0 ≤ (9 : Int32).toInt ∧ (9 : Int32).toInt ≤ 11) by omega)⟩, CB.nil⟩, hS.F ht⟩) hS.2.2 dJ6_numberOfTrailingZeros_0f7a4_79
  · obtain rfl : v3 = 1023 := by rw [z4a, c5]; decide
    refine lv_iload_n hx hb dJ6_numberOfTrailingZeros_0f7a4_8 rfl (lv_at hl 0 rfl) ?_
    refine lv_if_gt (tgt := 17) hx hb dJ6_numberOfTrailingZeros_0f7a4_9 (by decide) (fun c62 => ?_) (fun c62 => ?_)
    rotate_left
    · exact absurd c62 (by decide)
    refine lv_iconst (v := 1) hx hb dJ6_numberOfTrailingZeros_0f7a4_17 (by decide) ?_
    refine lv_istore_n (lv' := [(1, .int 1), (0, .int 1023)]) hx hb dJ6_numberOfTrailingZeros_0f7a4_18 rfl hl (by decide) rfl (fun ls hl => ?_)
    refine lv_iload_n hx hb dJ6_numberOfTrailingZeros_0f7a4_19 rfl (lv_at hl 1 rfl) ?_
    refine lv_ldcw (v := 65536) hx hb hown (hg _ kw_1171) dJ6_numberOfTrailingZeros_0f7a4_20 ?_
    refine lv_icmp_le (tgt := 34) hx hb dJ6_numberOfTrailingZeros_0f7a4_23 (by decide) (fun c63 => ?_) (fun c63 => ?_)
    rotate_left
    · exact absurd c63 (by decide)
    refine lv_iload_n hx hb dJ6_numberOfTrailingZeros_0f7a4_34 rfl (lv_at hl 1 rfl) ?_
    refine lv_sipush (v := 256) hx hb dJ6_numberOfTrailingZeros_0f7a4_35 (by decide) ?_
    refine lv_icmp_le (tgt := 49) hx hb dJ6_numberOfTrailingZeros_0f7a4_38 (by decide) (fun c64 => ?_) (fun c64 => ?_)
    · exact absurd c64 (by decide)
    refine lv_iinc (v := 9) (lv' := [(1, .int 9), (0, .int 1023)]) hx hb dJ6_numberOfTrailingZeros_0f7a4_41 hl (k := 0) rfl (by decide) (by decide) rfl (fun ls hl => ?_)
    refine lv_iload_n hx hb dJ6_numberOfTrailingZeros_0f7a4_44 rfl (lv_at hl 1 rfl) ?_
    refine lv_bipush (v := 8) hx hb dJ6_numberOfTrailingZeros_0f7a4_45 (by decide) ?_
    refine lv_iushr (v := 3) hx hb dJ6_numberOfTrailingZeros_0f7a4_47 (by decide) ?_
    refine lv_istore_n (lv' := [(0, .int 3), (1, .int 9)]) hx hb dJ6_numberOfTrailingZeros_0f7a4_48 rfl hl (by decide) rfl (fun ls hl => ?_)
    refine lv_iload_n hx hb dJ6_numberOfTrailingZeros_0f7a4_49 rfl (lv_at hl 0 rfl) ?_
    refine lv_bipush (v := 16) hx hb dJ6_numberOfTrailingZeros_0f7a4_50 (by decide) ?_
    refine lv_icmp_le (tgt := 62) hx hb dJ6_numberOfTrailingZeros_0f7a4_52 (by decide) (fun c65 => ?_) (fun c65 => ?_)
    rotate_left
    · exact absurd c65 (by decide)
    refine lv_iload_n hx hb dJ6_numberOfTrailingZeros_0f7a4_62 rfl (lv_at hl 0 rfl) ?_
    refine lv_iconst (v := 4) hx hb dJ6_numberOfTrailingZeros_0f7a4_63 (by decide) ?_
    refine lv_icmp_le (tgt := 74) hx hb dJ6_numberOfTrailingZeros_0f7a4_64 (by decide) (fun c66 => ?_) (fun c66 => ?_)
    rotate_left
    · exact absurd c66 (by decide)
    refine lv_iload_n hx hb dJ6_numberOfTrailingZeros_0f7a4_74 rfl (lv_at hl 1 rfl) ?_
    refine lv_iload_n hx hb dJ6_numberOfTrailingZeros_0f7a4_75 rfl (lv_at hl 0 rfl) ?_
    refine lv_iconst (v := 1) hx hb dJ6_numberOfTrailingZeros_0f7a4_76 (by decide) ?_
    refine lv_iushr (v := 1) hx hb dJ6_numberOfTrailingZeros_0f7a4_77 (by decide) ?_
    refine lv_iadd hx hb dJ6_numberOfTrailingZeros_0f7a4_78 ?_
    refine lv_topi (fun z67 ez67 => ?_)
    obtain rfl : z67 = 10 := ez67.trans (by decide)
    refine W.widen (k := 0) (n := 0) (Nat.le_of_ble_eq_true rfl) (Nat.le_of_ble_eq_true rfl) ?_
    have zi10 : (10 : Int32).toInt = 10 := by decide
    have zi9 : (9 : Int32).toInt = 9 := by decide
    exact W.iret (v := 10) hx hb hr (fun t ht hW => ⟨⟨(10), rfl, ⟨(show ((10 : Int32).toInt = (ctzF (p0.toInt).toNat : Int)) by omega), (show (0 ≤ (10 : Int32).toInt ∧ (10 : Int32).toInt ≤ 11) by omega)⟩, CB.nil⟩, hS.F ht⟩) hS.2.2 dJ6_numberOfTrailingZeros_0f7a4_79
  · obtain rfl : v3 = 2047 := by rw [z4a, c5]; decide
    refine lv_iload_n hx hb dJ6_numberOfTrailingZeros_0f7a4_8 rfl (lv_at hl 0 rfl) ?_
    refine lv_if_gt (tgt := 17) hx hb dJ6_numberOfTrailingZeros_0f7a4_9 (by decide) (fun c68 => ?_) (fun c68 => ?_)
    rotate_left
    · exact absurd c68 (by decide)
    refine lv_iconst (v := 1) hx hb dJ6_numberOfTrailingZeros_0f7a4_17 (by decide) ?_
    refine lv_istore_n (lv' := [(1, .int 1), (0, .int 2047)]) hx hb dJ6_numberOfTrailingZeros_0f7a4_18 rfl hl (by decide) rfl (fun ls hl => ?_)
    refine lv_iload_n hx hb dJ6_numberOfTrailingZeros_0f7a4_19 rfl (lv_at hl 1 rfl) ?_
    refine lv_ldcw (v := 65536) hx hb hown (hg _ kw_1171) dJ6_numberOfTrailingZeros_0f7a4_20 ?_
    refine lv_icmp_le (tgt := 34) hx hb dJ6_numberOfTrailingZeros_0f7a4_23 (by decide) (fun c69 => ?_) (fun c69 => ?_)
    rotate_left
    · exact absurd c69 (by decide)
    refine lv_iload_n hx hb dJ6_numberOfTrailingZeros_0f7a4_34 rfl (lv_at hl 1 rfl) ?_
    refine lv_sipush (v := 256) hx hb dJ6_numberOfTrailingZeros_0f7a4_35 (by decide) ?_
    refine lv_icmp_le (tgt := 49) hx hb dJ6_numberOfTrailingZeros_0f7a4_38 (by decide) (fun c70 => ?_) (fun c70 => ?_)
    · exact absurd c70 (by decide)
    refine lv_iinc (v := 9) (lv' := [(1, .int 9), (0, .int 2047)]) hx hb dJ6_numberOfTrailingZeros_0f7a4_41 hl (k := 0) rfl (by decide) (by decide) rfl (fun ls hl => ?_)
    refine lv_iload_n hx hb dJ6_numberOfTrailingZeros_0f7a4_44 rfl (lv_at hl 1 rfl) ?_
    refine lv_bipush (v := 8) hx hb dJ6_numberOfTrailingZeros_0f7a4_45 (by decide) ?_
    refine lv_iushr (v := 7) hx hb dJ6_numberOfTrailingZeros_0f7a4_47 (by decide) ?_
    refine lv_istore_n (lv' := [(0, .int 7), (1, .int 9)]) hx hb dJ6_numberOfTrailingZeros_0f7a4_48 rfl hl (by decide) rfl (fun ls hl => ?_)
    refine lv_iload_n hx hb dJ6_numberOfTrailingZeros_0f7a4_49 rfl (lv_at hl 0 rfl) ?_
    refine lv_bipush (v := 16) hx hb dJ6_numberOfTrailingZeros_0f7a4_50 (by decide) ?_
    refine lv_icmp_le (tgt := 62) hx hb dJ6_numberOfTrailingZeros_0f7a4_52 (by decide) (fun c71 => ?_) (fun c71 => ?_)
    rotate_left
    · exact absurd c71 (by decide)
    refine lv_iload_n hx hb dJ6_numberOfTrailingZeros_0f7a4_62 rfl (lv_at hl 0 rfl) ?_
    refine lv_iconst (v := 4) hx hb dJ6_numberOfTrailingZeros_0f7a4_63 (by decide) ?_
    refine lv_icmp_le (tgt := 74) hx hb dJ6_numberOfTrailingZeros_0f7a4_64 (by decide) (fun c72 => ?_) (fun c72 => ?_)
    · exact absurd c72 (by decide)
    refine lv_iinc (v := 11) (lv' := [(1, .int 11), (0, .int 7)]) hx hb dJ6_numberOfTrailingZeros_0f7a4_67 hl (k := 1) rfl (by decide) (by decide) rfl (fun ls hl => ?_)
    refine lv_iload_n hx hb dJ6_numberOfTrailingZeros_0f7a4_70 rfl (lv_at hl 1 rfl) ?_
    refine lv_iconst (v := 2) hx hb dJ6_numberOfTrailingZeros_0f7a4_71 (by decide) ?_
    refine lv_iushr (v := 1) hx hb dJ6_numberOfTrailingZeros_0f7a4_72 (by decide) ?_
    refine lv_istore_n (lv' := [(0, .int 1), (1, .int 11)]) hx hb dJ6_numberOfTrailingZeros_0f7a4_73 rfl hl (by decide) rfl (fun ls hl => ?_)
    refine lv_iload_n hx hb dJ6_numberOfTrailingZeros_0f7a4_74 rfl (lv_at hl 1 rfl) ?_
    refine lv_iload_n hx hb dJ6_numberOfTrailingZeros_0f7a4_75 rfl (lv_at hl 0 rfl) ?_
    refine lv_iconst (v := 1) hx hb dJ6_numberOfTrailingZeros_0f7a4_76 (by decide) ?_
    refine lv_iushr (v := 0) hx hb dJ6_numberOfTrailingZeros_0f7a4_77 (by decide) ?_
    refine lv_iadd hx hb dJ6_numberOfTrailingZeros_0f7a4_78 ?_
    refine lv_topi (fun z73 ez73 => ?_)
    obtain rfl : z73 = 11 := ez73.trans (by decide)
    refine W.widen (k := 0) (n := 0) (Nat.le_of_ble_eq_true rfl) (Nat.le_of_ble_eq_true rfl) ?_
    have zi11 : (11 : Int32).toInt = 11 := by decide
    exact W.iret (v := 11) hx hb hr (fun t ht hW => ⟨⟨(11), rfl, ⟨(show ((11 : Int32).toInt = (ctzF (p0.toInt).toNat : Int)) by omega), (show (0 ≤ (11 : Int32).toInt ∧ (11 : Int32).toInt ≤ 11) by omega)⟩, CB.nil⟩, hS.F ht⟩) hS.2.2 dJ6_numberOfTrailingZeros_0f7a4_79
set_option maxHeartbeats 4000000 in
set_option maxRecDepth 100000 in
theorem x_stepUpC (l : Launch) (D : va_G) (Y : Nat → ClassId) (Z : Nat → Nat) (sz : Nat) (ws : va_W) (T : RT) (g : GN) (q : GQ) (j : Nat) (j2 : Nat) (w2 : Nat) (p0 : Nat) (p1 : Nat) (p2 : Int32) (hT : TW Y Z T g q ws) (ht0 : T p0 = (2, j, 0)) (ht1 : T p1 = (14, j2, w2)) (hp0 : (1 ≤ p2.toInt ∧ p2.toInt ≤ 4095)) : Met l yX6_stepUp (.code yX6_stepUp cX6_stepUp 6 (some .int) :: GW) ({ frames := 1, cells := 0, slots := 0, locals := 21 }) (va_Pc [.ref p0, .ref p1, .int p2] (CPC D Y Z ws sz)) (QG (S := Int32) (fun u => some (.int u)) (fun u => (u = snI (g p1) (ctzF (p2.toInt).toNat) + g p1 (ctzF (p2.toInt).toNat))) (fun u => CB D ws (va_A ws sz)) (va_A ws sz)) 0 0 (va_A ws sz) := by
  refine Met.ofW (cc := cX6_stepUp) (maxL := 6) (ret := (some .int)) (by decide) rfl ?_
  intro p e s m args below meth c s₁ B hml hv
  obtain ⟨rfl, ⟨hsz, hP, hKN, hD0⟩, hSZ⟩ := hv
  have hx := B.exec
  have hb := B.bytes
  have hr := B.returns
  have hts := atoms_spec (ws := .code yX6_stepUp cX6_stepUp 6 (some .int) :: GW) B.pre
  have hg : ∀ w ∈ GW, w.before _ s = true := fun w h => hts w (List.mem_cons_of_mem _ h)
  have hown : s.vm.findClass RX6 = some m.cls := findClass_of_methodNamed B.named
  have hlocks := B.notSynchronized
  subst hsz
  have hD := hD0.self (sz := s.heap.size)
  generalize hAe : va_A ws s.heap.size = A at hD hSZ ⊢
  have hA : ∀ q : Nat, s.heap.size ≤ q → A q := fun q h => by rw [← hAe]; exact Or.inr h
  clear hAe hD0 hts B
  have hl := lv_entry ([.ref p0, .ref p1, .int p2]) (n := 6) (Nat.le_of_ble_eq_true rfl)
  rw [lg_entry_eq]
  generalize (lg_sl ([.ref p0, .ref p1, .int p2]) ++ List.replicate (6 - (lg_sl ([.ref p0, .ref p1, .int p2])).length) Slot.unset).toArray = ls at hl ⊢
  have hl : lv_has ls 6 [(0, .ref p0), (1, .ref p1), (2, .int p2)] := hl
  refine w_start (A0 := A) hP (fun H locs hP hS => ?_)
  refine lv_iconst (v := 0) hx hb dX6_stepUp_0 (by decide) ?_
  refine lv_istore_n (lv' := [(3, .int 0), (0, .ref p0), (1, .ref p1), (2, .int p2)]) hx hb dX6_stepUp_1 rfl hl (by decide) rfl (fun ls hl => ?_)
  refine lv_iload_n hx hb dX6_stepUp_2 rfl (lv_at hl 3 rfl) ?_
  refine cg0 (rn_S (As := [.int p2]) (rest := []) (x_ntzC l D Y Z H.size p2 (show (1 ≤ p2.toInt ∧ p2.toInt ≤ 4095) by omega)) ⟨hx, hb, hml, hown, hg⟩ lk_X6_89 ⟨CP.blind, CP.at nilP hKN (nilD (A := fun _ => True))⟩ ⟨⟨rfl, rfl⟩, ⟨Nat.le_of_ble_eq_true rfl, Nat.le_of_ble_eq_true rfl⟩, ⟨(Nat.le_of_ble_eq_true rfl), (Nat.le_of_ble_eq_true rfl)⟩⟩ hl.1 rfl (Nat.le_of_ble_eq_true rfl) dX6_stepUp_3) hP hS hA (fun u1 H locs hw2 hP hS => ?_)
  obtain ⟨hw4, hw5⟩ : (u1.toInt = (ctzF (p2.toInt).toNat : Int)) ∧ (0 ≤ u1.toInt ∧ u1.toInt ≤ 11) := hw2
  refine W.eq (g2 := F0 m 6 ls [.int u1]) rfl ?_
  refine lv_istore (lv' := [(4, .int u1), (3, .int 0), (0, .ref p0), (1, .ref p1), (2, .int p2)]) hx hb dX6_stepUp_6 hl (by decide) rfl (fun ls hl => ?_)
  refine lv_iconst (v := 0) hx hb dX6_stepUp_8 (by decide) ?_
  refine lv_istore (lv' := [(5, .int 0), (4, .int u1), (3, .int 0), (0, .ref p0), (1, .ref p1), (2, .int p2)]) hx hb dX6_stepUp_9 hl (by decide) rfl (fun ls hl => ?_)
  have zi0 : (0 : Int32).toInt = 0 := by decide
  refine w_loop (σ := Int32 × Int32) (fun xx H locs ls => match xx with | (v16, v17) => va_P D vwCl ws H ∧ va_D A ws ∧ va_S A s.heap H locs ∧ lv_has ls 6 [(5, .int v16), (4, .int u1), (3, .int v17), (0, .ref p0), (1, .ref p1), (2, .int p2)] ∧ TW Y Z T g q ws ∧ (SUP (g p1) (ctzF p2.toInt.toNat) v16.toInt v17) ∧ (0 ≤ v16.toInt ∧ v16.toInt ≤ 12) ∧ (v16.toInt ≤ u1.toInt + 1)) (fun xx => match xx with | (v16, v17) => (12 - v16.toInt).toNat) (0, 0) ⟨hP, hD, hS, lv_sub hl [0, 1, 2, 3, 4, 5] rfl, hT, (SUP.zero (by decide)), by omega, by omega⟩ (fun xx H locs ls hI ih => ?_)
  obtain ⟨v16, v17⟩ := xx
  obtain ⟨hP, hD, hS, hl, hT, hv30, hq28, hq29⟩ := hI
  have ih31 := ih
  refine lv_iload hx hb dX6_stepUp_11 (lv_at hl 0 rfl) ?_
  refine lv_iload hx hb dX6_stepUp_13 (lv_at hl 1 rfl) ?_
  refine lv_icmp_gt (tgt := 53) hx hb dX6_stepUp_15 (by decide) (fun c32 => ?_) (fun c32 => ?_)
  · skip
    have c32 := i_lt (Eq.refl u1.toInt) (Eq.refl v16.toInt) c32
    refine lv_iload_n hx hb dX6_stepUp_53 rfl (lv_at hl 2 rfl) ?_
    refine W.widen (k := 0) (n := 0) (Nat.le_of_ble_eq_true rfl) (Nat.le_of_ble_eq_true rfl) ?_
    exact W.iret (v := v17) hx hb hr (fun t ht hW => ⟨⟨v17, rfl, ((show v17 = snI (g p1) (ctzF (p2.toInt).toNat) + g p1 (ctzF (p2.toInt).toNat) from (hv30.2 (by omega)))), CB.mk ht hP hD⟩, hS.F ht⟩) hS.2.2 dX6_stepUp_54
  · skip
    have c32 := i_nlt (Eq.refl u1.toInt) (Eq.refl v16.toInt) c32
    refine lv_iload hx hb dX6_stepUp_18 (lv_at hl 0 rfl) ?_
    refine lv_aload_n hx hb dX6_stepUp_20 rfl (lv_at hl 4 rfl) ?_
    refine tr_len14 (v := 12) hx hb hKN hP hT ht1 rfl dX6_stepUp_21 ?_
    refine lv_icmp_ge (tgt := 53) hx hb dX6_stepUp_22 (by decide) (fun c33 => ?_) (fun c33 => ?_)
    · have c33 := i_le (show (12 : Int32).toInt = 12 by decide) (Eq.refl v16.toInt) c33; exfalso; omega
    have c33 := i_nle (show (12 : Int32).toInt = 12 by decide) (Eq.refl v16.toInt) c33
    refine lv_iload_n hx hb dX6_stepUp_25 rfl (lv_at hl 2 rfl) ?_
    refine lv_iload hx hb dX6_stepUp_26 (lv_at hl 0 rfl) ?_
    refine lv_iload hx hb dX6_stepUp_28 (lv_at hl 1 rfl) ?_
    refine lv_icmp_ne (tgt := 40) hx hb dX6_stepUp_30 (by decide) (fun c34 => ?_) (fun c34 => ?_)
    · skip
      have c34 := i_ne (Eq.refl v16.toInt) (Eq.refl u1.toInt) c34
      refine lv_aload_n hx hb dX6_stepUp_40 rfl (lv_at hl 4 rfl) ?_
      refine lv_iload hx hb dX6_stepUp_41 (lv_at hl 0 rfl) ?_
      refine tr_ld14 hx hb hKN hP hT ht1 (vp_in_iff.mpr ⟨by omega, by omega⟩) dX6_stepUp_43 (fun v35 ev35 => ?_)
      refine lv_ineg hx hb dX6_stepUp_44 ?_
      refine lv_topi (fun v36 ev36 => ?_)
      refine lv_iadd hx hb dX6_stepUp_45 ?_
      refine lv_topi (fun v37 ev37 => ?_)
      refine lv_istore_n (lv' := [(3, .int v37), (5, .int v16), (4, .int u1), (0, .ref p0), (1, .ref p1), (2, .int p2)]) hx hb dX6_stepUp_46 rfl hl (by decide) rfl (fun ls hl => ?_)
      obtain ⟨v38, ev38⟩ : ∃ y : Int32, y = v16 + 1 := ⟨_, rfl⟩
      have hv38 := i_add (Eq.refl v16.toInt) (show (1 : Int32).toInt = 1 by decide) ev38 (by omega) (by omega)
      refine lv_iinc (v := v38) (lv' := [(5, .int v38), (3, .int v37), (4, .int u1), (0, .ref p0), (1, .ref p1), (2, .int p2)]) hx hb dX6_stepUp_47 hl (k := 1) rfl (by rw [ev38]; rfl) (by decide) rfl (fun ls hl => ?_)
      refine lv_goto (tgt := 11) hx hb dX6_stepUp_50 (by decide) ?_
      exact ih31 (v38, v37) H locs ls (by show (12 - v38.toInt).toNat < (12 - v16.toInt).toNat; omega) ⟨hP, hD, hS, lv_sub hl [0, 2, 1, 3, 4, 5] rfl, hT, (SUP.lt (i := v16) hv30 (by omega) (by omega) ev35 ev36 ev37 (by omega)), by omega, by omega⟩
    · skip
      have c34 := i_eq (Eq.refl v16.toInt) (Eq.refl u1.toInt) c34
      refine lv_aload_n hx hb dX6_stepUp_33 rfl (lv_at hl 4 rfl) ?_
      refine lv_iload hx hb dX6_stepUp_34 (lv_at hl 0 rfl) ?_
      refine tr_ld14 hx hb hKN hP hT ht1 (vp_in_iff.mpr ⟨by omega, by omega⟩) dX6_stepUp_36 (fun v39 ev39 => ?_)
      refine lv_goto (tgt := 45) hx hb dX6_stepUp_37 (by decide) ?_
      refine lv_iadd hx hb dX6_stepUp_45 ?_
      refine lv_topi (fun v40 ev40 => ?_)
      refine lv_istore_n (lv' := [(3, .int v40), (5, .int v16), (4, .int u1), (0, .ref p0), (1, .ref p1), (2, .int p2)]) hx hb dX6_stepUp_46 rfl hl (by decide) rfl (fun ls hl => ?_)
      obtain ⟨v41, ev41⟩ : ∃ y : Int32, y = v16 + 1 := ⟨_, rfl⟩
      have hv41 := i_add (Eq.refl v16.toInt) (show (1 : Int32).toInt = 1 by decide) ev41 (by omega) (by omega)
      refine lv_iinc (v := v41) (lv' := [(5, .int v41), (3, .int v40), (4, .int u1), (0, .ref p0), (1, .ref p1), (2, .int p2)]) hx hb dX6_stepUp_47 hl (k := 1) rfl (by rw [ev41]; rfl) (by decide) rfl (fun ls hl => ?_)
      refine lv_goto (tgt := 11) hx hb dX6_stepUp_50 (by decide) ?_
      exact ih31 (v41, v40) H locs ls (by show (12 - v41.toInt).toNat < (12 - v16.toInt).toNat; omega) ⟨hP, hD, hS, lv_sub hl [0, 2, 1, 3, 4, 5] rfl, hT, (SUP.eq (i := v16) hv30 (by omega) (by omega) ev39 ev40 (by omega)), by omega, by omega⟩
