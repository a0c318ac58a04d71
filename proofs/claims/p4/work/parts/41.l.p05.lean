set_option maxHeartbeats 4000000 in
set_option maxRecDepth 100000 in
theorem m_backK (l : Launch) (D : va_G) (Y : Nat → ClassId) (Z : Nat → Nat) (sz : Nat) (o : Nat) (a : Nat → Nat) (I : Nat → Int32) (J : Nat → Int64) (F : Nat → Nat → Int32) (G : Nat → Nat → Int64) (p1 : Int32) (hk0 : TO (F 0)) (hk1 : IMG (F 47)) : Met l yX11_back (.code yX11_back cX11_back 3 (some .int) :: GW) ({ frames := 1, cells := 0, slots := 0, locals := 25 }) (va_Pc [.ref o, .int p1] (CP D Y Z (MW Y o a I J F G) sz)) (QG (S := Int32 × (Nat → Int32)) (fun u => some (.int u.1)) (fun u => TO u.2 ∧ ((((0 ≤ p1.toInt ∧ p1.toInt ≤ 3) ∧ ((F 48) p1.toNatClampNeg).toInt ≠ 0) ∧ u.1 = u.2 0 ∧ ∀ n : Nat, n < 7533 → u.2 n = (F 47) (7533 * p1.toNatClampNeg + n)) ∨ (¬ ((0 ≤ p1.toInt ∧ p1.toInt ≤ 3) ∧ ((F 48) p1.toNatClampNeg).toInt ≠ 0) ∧ u.1.toInt = -1 ∧ u.2 = (F 0)))) (fun u => CB D (MW Y o a I J (vf_upd F 0 u.2) G) (va_A (MW Y o a I J F G) sz)) (va_A (MW Y o a I J F G) sz)) 0 0 (va_A (MW Y o a I J F G) sz) := by
  refine Met.ofW (cc := cX11_back) (maxL := 3) (ret := (some .int)) (by decide) rfl ?_
  intro p e s m args below meth c s₁ B hml hv
  obtain ⟨rfl, hsz, hP, hKN, hD0⟩ := hv
  have hx := B.exec
  have hb := B.bytes
  have hr := B.returns
  have hts := atoms_spec (ws := .code yX11_back cX11_back 3 (some .int) :: GW) B.pre
  have hg : ∀ w ∈ GW, w.before _ s = true := fun w h => hts w (List.mem_cons_of_mem _ h)
  have hown : s.vm.findClass RX11 = some m.cls := findClass_of_methodNamed B.named
  have hlocks := B.notSynchronized
  subst hsz
  have hD := hD0.self (sz := s.heap.size)
  generalize hAe : va_A (MW Y o a I J F G) s.heap.size = A at hD ⊢
  have hA : ∀ q : Nat, s.heap.size ≤ q → A q := fun q h => by rw [← hAe]; exact Or.inr h
  clear hAe hD0 hts B
  have hl := lv_entry ([.ref o, .int p1]) (n := 3) (Nat.le_of_ble_eq_true rfl)
  rw [lg_entry_eq]
  generalize (lg_sl ([.ref o, .int p1]) ++ List.replicate (3 - (lg_sl ([.ref o, .int p1])).length) Slot.unset).toArray = ls at hl ⊢
  have hl : lv_has ls 3 [(0, .ref o), (1, .int p1)] := hl
  refine w_start (A0 := A) hP (fun H locs hP hS => ?_)
  refine lv_iload_n hx hb dX11_back_0 rfl (lv_at hl 1 rfl) ?_
  have j1 := rgI p1
  have j2 := Int32.toInt_toInt64 p1
  refine lv_i2l (v := p1.toInt64) hx hb dX11_back_1 (rfl) ?_
  refine lv_lconst (v := 0) hx hb dX11_back_2 (by decide) ?_
  refine lv_ldc2 (v := 3) hx hb hown (hg _ kw_1912) dX11_back_3 ?_
  have zl0 : (0 : Int64).toInt = 0 := by decide
  have zl3 : (3 : Int64).toInt = 3 := by decide
  refine cg0 (rn_S (As := [.long p1.toInt64, .long 0, .long 3]) (rest := []) (m_in l D Y Z H.size   p1.toInt64 0 3 ) ⟨hx, hb, hml, hown, hg⟩ lk_X11_99 ⟨CP.blind, CP.at nilP hKN (nilD (A := fun _ => True))⟩ ⟨⟨rfl, rfl⟩, ⟨Nat.le_of_ble_eq_true rfl, Nat.le_of_ble_eq_true rfl⟩, ⟨Nat.le_of_ble_eq_true rfl, Nat.le_of_ble_eq_true rfl⟩⟩ hl.1 rfl (Nat.le_of_ble_eq_true rfl) dX11_back_6) hP hS hA (fun u3 H locs w4 hP hS => ?_)
  obtain ⟨hw6, hw7⟩ : (((0 : Int64).toInt ≤ p1.toInt64.toInt ∧ p1.toInt64.toInt ≤ (3 : Int64).toInt ∧ u3.toInt = 1) ∨ (¬ ((0 : Int64).toInt ≤ p1.toInt64.toInt ∧ p1.toInt64.toInt ≤ (3 : Int64).toInt) ∧ u3.toInt = 0)) ∧ (0 ≤ u3.toInt ∧ u3.toInt ≤ 1) := w4
  refine W.eq (g2 := F0 m 9 ls [.int u3]) rfl ?_
  rcases (show u3.toInt = 1 ∨ u3.toInt = 0 by omega) with c8 | c8
  · obtain rfl : u3 = 1 := i_is c8 (by decide)
    have zi1 : (1 : Int32).toInt = 1 := by decide
    refine W.eq (g2 := F0 m 9 ls [.int 1]) rfl ?_
    refine lv_if_eq (tgt := 21) hx hb dX11_back_9 (by decide) (fun c9 => ?_) (fun c9 => ?_)
    · exact absurd c9 (by decide)
    refine lv_aload_n hx hb dX11_back_12 rfl (lv_at hl 0 rfl) ?_
    refine va_get (D := D) (ci := 11) (v := .ref (a 48)) (C := RX11) (T := TX11) (N := 49) hx hb hg inGX11 hown hKN.1 hP 0 rfl rfl 48 (by decide) (hg _ kw_1256) (fun _ h9 => h9) rfl dX11_back_13 ?_
    refine lv_iload_n hx hb dX11_back_16 rfl (lv_at hl 1 rfl) ?_
    refine va_zald hx hb hKN.1 hP 28 3 rfl rfl (vp_in_iff.mpr ⟨by omega, by omega⟩) dX11_back_17 ?_
    refine lv_topi (fun v10 ev10 => ?_)
    have ev10 : v10 = (F 48) p1.toNatClampNeg := ev10
    have qv10 := congrArg Int32.toInt ev10
    have j11 := rgI v10
    refine lv_if_ne (tgt := 23) hx hb dX11_back_18 (by decide) (fun c12 => ?_) (fun c12 => ?_)
    · skip
      have c12 := i_ne (Eq.refl v10.toInt) (show (0 : Int32).toInt = 0 by decide) c12
      refine lv_iconst (v := 0) hx hb dX11_back_23 (by decide) ?_
      refine lv_istore_n (lv' := [(2, .int 0), (0, .ref o), (1, .int p1)]) hx hb dX11_back_24 rfl hl (by decide) rfl (fun ls hl => ?_)
      have zi0 : (0 : Int32).toInt = 0 := by decide
      refine w_loop (σ := Int32 × (Nat → Int32)) (fun xx H locs ls => match xx with | (g19, f20) => va_P D vwCl (MW Y o a I J (vf_upd F 0 f20) G) H ∧ va_D A (MW Y o a I J (vf_upd F 0 f20) G) ∧ va_S A s.heap H locs ∧ lv_has ls 3 [(2, .int g19), (0, .ref o), (1, .int p1)] ∧ (0 ≤ g19.toInt ∧ g19.toInt ≤ 7533) ∧ (∀ n : Nat, (n : Int) < g19.toInt → f20 n = (F 47) (7533 * (p1.toInt).toNat + n))) (fun xx => match xx with | (g19, f20) => (7533 - g19.toInt).toNat) (0, (F 0)) ⟨hP, hD, hS, lv_sub hl [0, 1, 2] rfl, by omega, (fun n h => by omega)⟩ (fun xx H locs ls hI ih => ?_)
      obtain ⟨g19, f20⟩ := xx
      obtain ⟨hP, hD, hS, hl, hq29, hr30⟩ := hI
      have ih31 := ih
      refine lv_iload_n hx hb dX11_back_25 rfl (lv_at hl 0 rfl) ?_
      refine lv_sipush (v := 7533) hx hb dX11_back_26 (by decide) ?_
      refine lv_icmp_ge (tgt := 56) hx hb dX11_back_29 (by decide) (fun c32 => ?_) (fun c32 => ?_)
      · skip
        have c32 := i_le (show (7533 : Int32).toInt = 7533 by decide) (Eq.refl g19.toInt) c32
        have t33 := BC_end hk1 (by omega) hr30 (by omega)
        refine lv_aload_n hx hb dX11_back_56 rfl (lv_at hl 1 rfl) ?_
        refine va_get (D := D) (ci := 11) (v := .ref (a 0)) (C := RX11) (T := TX11) (N := 49) hx hb hg inGX11 hown hKN.1 hP 0 rfl rfl 0 (by decide) (hg _ kw_1208) (fun _ h9 => h9) rfl dX11_back_57 ?_
        refine lv_iconst (v := 0) hx hb dX11_back_60 (by decide) ?_
        refine va_iald hx hb hKN.1 hP 1 0 rfl rfl (show ¬ ((0 : Int32) < 0 ∨ 7533 ≤ (0 : Int32).toNatClampNeg) by decide) dX11_back_61 ?_
        refine lv_topi (fun v34 ev34 => ?_)
        have ev34 : v34 = f20 0 := ev34
        have kv34 := TO_0 t33
        rw [← ev34] at kv34
        have qv34 := congrArg Int32.toInt ev34
        refine W.widen (k := 0) (n := 0) (Nat.le_of_ble_eq_true rfl) (Nat.le_of_ble_eq_true rfl) ?_
        exact W.iret (v := v34) hx hb hr (fun t ht hW => ⟨⟨(v34, f20), rfl, ⟨t33, (show ((((0 ≤ p1.toInt ∧ p1.toInt ≤ 3) ∧ ((F 48) p1.toNatClampNeg).toInt ≠ 0) ∧ v34 = f20 0 ∧ ∀ n : Nat, n < 7533 → f20 n = (F 47) (7533 * p1.toNatClampNeg + n)) ∨ (¬ ((0 ≤ p1.toInt ∧ p1.toInt ≤ 3) ∧ ((F 48) p1.toNatClampNeg).toInt ≠ 0) ∧ v34.toInt = -1 ∧ f20 = (F 0))) from (Or.inl ⟨by omega, ev34, BK_mk (i := p1) hr30 (by omega) (by omega)⟩))⟩, CB.mk ht hP hD⟩, hS.F ht⟩) hS.2.2 dX11_back_62
      · skip
        have c32 := i_nle (show (7533 : Int32).toInt = 7533 by decide) (Eq.refl g19.toInt) c32
        refine lv_aload_n hx hb dX11_back_32 rfl (lv_at hl 1 rfl) ?_
        refine va_get (D := D) (ci := 11) (v := .ref (a 0)) (C := RX11) (T := TX11) (N := 49) hx hb hg inGX11 hown hKN.1 hP 0 rfl rfl 0 (by decide) (hg _ kw_1208) (fun _ h9 => h9) rfl dX11_back_33 ?_
        refine lv_iload_n hx hb dX11_back_36 rfl (lv_at hl 0 rfl) ?_
        refine lv_aload_n hx hb dX11_back_37 rfl (lv_at hl 1 rfl) ?_
        refine va_get (D := D) (ci := 11) (v := .ref (a 47)) (C := RX11) (T := TX11) (N := 49) hx hb hg inGX11 hown hKN.1 hP 0 rfl rfl 47 (by decide) (hg _ kw_1255) (fun _ h9 => h9) rfl dX11_back_38 ?_
        refine lv_sipush (v := 7533) hx hb dX11_back_41 (by decide) ?_
        refine lv_iload_n hx hb dX11_back_44 rfl (lv_at hl 2 rfl) ?_
        refine lv_imul hx hb dX11_back_45 ?_
        refine lv_topi (fun v35 ev35 => ?_)
        have hv35 := i_mul (show (7533 : Int32).toInt = 7533 by decide) (Eq.refl p1.toInt) ev35 (by omega) (by omega)
        refine lv_iload_n hx hb dX11_back_46 rfl (lv_at hl 0 rfl) ?_
        refine lv_iadd hx hb dX11_back_47 ?_
        refine lv_topi (fun v36 ev36 => ?_)
        have hv36 := i_add (Eq.refl v35.toInt) (Eq.refl g19.toInt) ev36 (by omega) (by omega)
        refine va_iald hx hb hKN.1 hP 27 0 rfl rfl (vp_in_iff.mpr ⟨by omega, by omega⟩) dX11_back_48 ?_
        refine lv_topi (fun v37 ev37 => ?_)
        have ev37 : v37 = (F 47) v36.toNatClampNeg := ev37
        refine va_iast hx hb hKN.1 hP hD hS 1 0 rfl rfl (vp_in_iff.mpr ⟨by omega, by omega⟩) dX11_back_49 (fun H locs hP hD hS => ?_)
        obtain ⟨f38, ef38, hP, hD⟩ : ∃ f38 : Nat → Int32, f38 = upd f20 g19.toNatClampNeg v37 ∧ va_P D vwCl (MW Y o a I J (vf_upd F 0 f38) G) H ∧ va_D A (MW Y o a I J (vf_upd F 0 f38) G) := ⟨_, rfl, hP, hD⟩
        have t39 := BC_s (K := p1.toInt.toNat) (i := g19) (idx := v36) (j := g19.toInt + 1) hr30 ef38 (by omega) (by omega) ev37 rfl
        obtain ⟨v40, ev40⟩ : ∃ y : Int32, y = g19 + 1 := ⟨_, rfl⟩
        have hv40 := i_add (Eq.refl g19.toInt) (show (1 : Int32).toInt = 1 by decide) ev40 (by omega) (by omega)
        refine lv_iinc (v := v40) (lv' := [(2, .int v40), (0, .ref o), (1, .int p1)]) hx hb dX11_back_50 hl (k := 0) rfl (by rw [ev40]; rfl) (by decide) rfl (fun ls hl => ?_)
        refine lv_goto (tgt := 25) hx hb dX11_back_53 (by decide) ?_
        exact ih31 (v40, f38) H locs ls (by show (7533 - v40.toInt).toNat < (7533 - g19.toInt).toNat; omega) ⟨hP, hD, hS, lv_sub hl [0, 1, 2] rfl, by omega, (fun n h => t39 n (by omega))⟩
    · skip
      have c12 := i_eq (Eq.refl v10.toInt) (show (0 : Int32).toInt = 0 by decide) c12
      refine lv_iconst (v := (-1)) hx hb dX11_back_21 (by decide) ?_
      refine W.widen (k := 0) (n := 0) (Nat.le_of_ble_eq_true rfl) (Nat.le_of_ble_eq_true rfl) ?_
      have zim1 : ((-1) : Int32).toInt = -1 := by decide
      exact W.iret (v := (-1)) hx hb hr (fun t ht hW => ⟨⟨((-1), (F 0)), rfl, ⟨hk0, (show ((((0 ≤ p1.toInt ∧ p1.toInt ≤ 3) ∧ ((F 48) p1.toNatClampNeg).toInt ≠ 0) ∧ (-1) = (F 0) 0 ∧ ∀ n : Nat, n < 7533 → (F 0) n = (F 47) (7533 * p1.toNatClampNeg + n)) ∨ (¬ ((0 ≤ p1.toInt ∧ p1.toInt ≤ 3) ∧ ((F 48) p1.toNatClampNeg).toInt ≠ 0) ∧ ((-1) : Int32).toInt = -1 ∧ (F 0) = (F 0))) from (Or.inr ⟨by omega, by decide, rfl⟩))⟩, CB.mk ht hP hD⟩, hS.F ht⟩) hS.2.2 dX11_back_22
  · obtain rfl : u3 = 0 := i_is c8 (by decide)
    have zi0 : (0 : Int32).toInt = 0 := by decide
    refine W.eq (g2 := F0 m 9 ls [.int 0]) rfl ?_
    refine lv_if_eq (tgt := 21) hx hb dX11_back_9 (by decide) (fun c41 => ?_) (fun c41 => ?_)
    rotate_left
    · exact absurd c41 (by decide)
    refine lv_iconst (v := (-1)) hx hb dX11_back_21 (by decide) ?_
    refine W.widen (k := 0) (n := 0) (Nat.le_of_ble_eq_true rfl) (Nat.le_of_ble_eq_true rfl) ?_
    have zim1 : ((-1) : Int32).toInt = -1 := by decide
    exact W.iret (v := (-1)) hx hb hr (fun t ht hW => ⟨⟨((-1), (F 0)), rfl, ⟨hk0, (show ((((0 ≤ p1.toInt ∧ p1.toInt ≤ 3) ∧ ((F 48) p1.toNatClampNeg).toInt ≠ 0) ∧ (-1) = (F 0) 0 ∧ ∀ n : Nat, n < 7533 → (F 0) n = (F 47) (7533 * p1.toNatClampNeg + n)) ∨ (¬ ((0 ≤ p1.toInt ∧ p1.toInt ≤ 3) ∧ ((F 48) p1.toNatClampNeg).toInt ≠ 0) ∧ ((-1) : Int32).toInt = -1 ∧ (F 0) = (F 0))) from (Or.inr ⟨by omega, by decide, rfl⟩))⟩, CB.mk ht hP hD⟩, hS.F ht⟩) hS.2.2 dX11_back_22
